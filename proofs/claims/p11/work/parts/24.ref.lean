theorem k_X12_stat_fieldLink_RX12_494_SRModel_statements_I : Cond.fieldLink RX12 494 "StatementRules2Model" "statements" "I" ∈ wzX12_stat := List.mem_cons_of_mem _ (List.mem_append_left _ (List.mem_of_getElem? (i := 0) rfl))
theorem i_X12_stat_X12 : ∀ w ∈ wsX120, w ∈ wzX12_stat := fun _ h => List.mem_cons_of_mem _ (List.mem_append_right _ (List.mem_append_left _ (h)))
theorem k_X12_stat_fieldLink_RX12_307_SRModel_tok_I : Cond.fieldLink RX12 307 "StatementRules2Model" "tok" "I" ∈ wzX12_stat := List.mem_cons_of_mem _ (List.mem_append_left _ (List.mem_of_getElem? (i := 1) rfl))
theorem k_X12_stat_fieldLink_RX12_174_SRModel_fk_I : Cond.fieldLink RX12 174 "StatementRules2Model" "fk" "[I" ∈ wzX12_stat := List.mem_cons_of_mem _ (List.mem_append_left _ (List.mem_of_getElem? (i := 2) rfl))
set_option maxHeartbeats 4000000 in
set_option maxRecDepth 100000 in
theorem j_X12_stat_309 {p : Program} {e : Env} {s : State} {m : MethodId} {args : Array Value} {below : List Frame} {meth : Method} {c : Code} {A : Nat → Prop} (l : Launch) (dC : Nat → ClassId) (dI : Nat → Nat → Nat) (Q : RQ) (N : Nat) (R : RS) (hx : p.tables.exec = Jvm.exec) (hb : c.code = cX12_stat) (hr : meth.sig.returnType = none) (hml : c.maxLocals = 2) (hown : s.vm.findClass RX12 = some m.cls) (hts : ∀ w ∈ wzX12_stat, w.before args s = true) (hlocks : meth.locks = false) (hZ : zAMB s) (hA : ∀ q : Nat, s.heap.size ≤ q → A q) (hK : va_K (dC, dI) vwCl (rT Q) s) : ∀ (σ : RS) (H : Heap) (locs : List Loc) (ls : Array Slot), f_X12_stat_309 N σ = some R → va_P (dC, dI) vwCl (rW Q σ) H → va_D A (rW Q σ) → va_S A s.heap H locs → lv_has ls 2 [(0, .ref Q.h0)] → W p l e ({ frames := 6, cells := 0, slots := 0, locals := 360 }) s m args below meth c H locs 0 0 (MQ below (va_Qv (fun (_ : Unit) => True) (fun (_ : Unit) (t : State) => zPost dC dI A (rW Q R) (rT Q) t) A) args s 0 0 A) (F0 m 309 ls []) := by
  intro σ  H locs ls hf hP hD hS hl
  unfold f_X12_stat_309 at hf
  refine lv_aload_n hx hb dX12_stat_309 rfl (lv_at hl 0 rfl) ?_
  refine lv_iconst (v := 1) hx hb dX12_stat_310 (by decide) ?_
  refine lv_iconst (v := 0) hx hb dX12_stat_311 (by decide) ?_
  obtain ⟨p10, hcp10, hf⟩ := hf_bind hf
  have hFc := r_free hD hS hA
  refine va_calli (va_runV (As := [.int 1, .int 0]) (rest := []) ⟨hx, hb, hml, hown, hts⟩ (c_X12_emit l dC dI _ Q N σ 1 0 p10 hcp10) (cwV 2 hts hX12_stat_X12_emit_v464 rfl rfl rfl (by decide +kernel) ⟨Nat.le_of_ble_eq_true rfl, Nat.le_of_ble_eq_true rfl⟩) ⟨zPre.blind, va_recv hK hP (ci := 11) (q0 := 0) rfl rfl, zPre.go hZ hP hK hD⟩ rfl rfl hl.1 rfl (lv_room (Nat.le_of_ble_eq_true rfl)) dX12_stat_312 ⟨Nat.le_of_ble_eq_true rfl, Nat.le_of_ble_eq_true rfl⟩) hS (fun q _ h => hFc q h) hFc (fun r11 u9 t9 H1 locs ht hvm hw hB hz1 hk1 hS => ?_)
  obtain ⟨hP, hK1, hD1⟩ := hB
  rw [ht] at hP
  have hD := hD1.weaken (fun _ _ _ h => hFc _ h)
  generalize H1 = H at hP hS ⊢
  obtain rfl : r11 = p10.1 := hw
  refine lv_pop hx hb dX12_stat_315 rfl ?_
  refine lv_aload_n hx hb dX12_stat_316 rfl (lv_at hl 0 rfl) ?_
  refine rG_10 (v := (p10.2.i 10)) hx hb hts i_X12_stat_X12 hown hK hP (hts (.fieldLink RX12 307 "StatementRules2Model" "tok" "I") k_X12_stat_fieldLink_RX12_307_SRModel_tok_I) dX12_stat_317 rfl ?_
  refine lv_bipush (v := 59) hx hb dX12_stat_320 (by decide) ?_
  refine lv_icmp_ne (tgt := 337) hx hb dX12_stat_322 (by decide) (fun c12 => ?_) (fun c12 => ?_)
  ·
    replace hf := (if_neg c12).symm.trans hf
    refine lv_aload_n hx hb dX12_stat_337 rfl (lv_at hl 0 rfl) ?_
    obtain ⟨p13, hcp13, hf⟩ := hf_bind hf
    have hFc := r_free hD hS hA
    refine va_callv (va_runV (As := []) (rest := []) ⟨hx, hb, hml, hown, hts⟩ (c_X12_jump l dC dI _ Q N p10.2 p13 hcp13) (cwV 0 hts hX12_stat_X12_jump_v497 rfl rfl rfl (by decide +kernel) ⟨Nat.le_of_ble_eq_true rfl, Nat.le_of_ble_eq_true rfl⟩) ⟨zPre.blind, va_recv hK hP (ci := 11) (q0 := 0) rfl rfl, zPre.go hZ hP hK hD⟩ rfl rfl hl.1 rfl (lv_room (Nat.le_of_ble_eq_true rfl)) dX12_stat_338 ⟨Nat.le_of_ble_eq_true rfl, Nat.le_of_ble_eq_true rfl⟩) hS (fun q _ h => hFc q h) hFc (fun u9 t9 H1 locs ht hvm hw hB hz1 hk1 hS => ?_)
    obtain ⟨hP, hK1, hD1⟩ := hB
    rw [ht] at hP
    have hD := hD1.weaken (fun _ _ _ h => hFc _ h)
    generalize H1 = H at hP hS ⊢
    refine lv_aload_n hx hb dX12_stat_341 rfl (lv_at hl 0 rfl) ?_
    refine lv_iconst (v := 0) hx hb dX12_stat_342 (by decide) ?_
    obtain ⟨p15, hcp15, hf⟩ := hf_bind hf
    have hFc := r_free hD hS hA
    refine va_callv (va_runV (As := [.int 0]) (rest := []) ⟨hx, hb, hml, hown, hts⟩ (c_X12_over l dC dI _ Q N p13 0 p15 hcp15) (cwV 1 hts hX12_stat_X12_over_v490 rfl rfl rfl (by decide +kernel) ⟨Nat.le_of_ble_eq_true rfl, Nat.le_of_ble_eq_true rfl⟩) ⟨zPre.blind, va_recv hK hP (ci := 11) (q0 := 0) rfl rfl, zPre.go hZ hP hK hD⟩ rfl rfl hl.1 rfl (lv_room (Nat.le_of_ble_eq_true rfl)) dX12_stat_343 ⟨Nat.le_of_ble_eq_true rfl, Nat.le_of_ble_eq_true rfl⟩) hS (fun q _ h => hFc q h) hFc (fun u9 t9 H1 locs ht hvm hw hB hz1 hk1 hS => ?_)
    obtain ⟨hP, hK1, hD1⟩ := hB
    rw [ht] at hP
    have hD := hD1.weaken (fun _ _ _ h => hFc _ h)
    generalize H1 = H at hP hS ⊢
    obtain rfl := Option.some.inj hf
    exact W.vret hx hb hr (fun t ht hW => ⟨⟨(), rfl, trivial, by rw [ht]; exact hP, va_K.moved hW.alike hK, hD⟩, hS.F ht⟩) hS.2.2 dX12_stat_346
  ·
    replace hf := (if_pos c12).symm.trans hf
    refine lv_aload_n hx hb dX12_stat_325 rfl (lv_at hl 0 rfl) ?_
    obtain ⟨p17, hcp17, hf⟩ := hf_bind hf
    have hFc := r_free hD hS hA
    refine va_callv (va_runV (As := []) (rest := []) ⟨hx, hb, hml, hown, hts⟩ (c_X12_next l dC dI _ Q N p10.2 p17 hcp17) (cwV 0 hts hX12_stat_X12_next_v345 rfl rfl rfl (by decide +kernel) ⟨Nat.le_of_ble_eq_true rfl, Nat.le_of_ble_eq_true rfl⟩) ⟨zPre.blind, va_recv hK hP (ci := 11) (q0 := 0) rfl rfl, zPre.go hZ hP hK hD⟩ rfl rfl hl.1 rfl (lv_room (Nat.le_of_ble_eq_true rfl)) dX12_stat_326 ⟨Nat.le_of_ble_eq_true rfl, Nat.le_of_ble_eq_true rfl⟩) hS (fun q _ h => hFc q h) hFc (fun u9 t9 H1 locs ht hvm hw hB hz1 hk1 hS => ?_)
    obtain ⟨hP, hK1, hD1⟩ := hB
    rw [ht] at hP
    have hD := hD1.weaken (fun _ _ _ h => hFc _ h)
    generalize H1 = H at hP hS ⊢
    refine lv_aload_n hx hb dX12_stat_329 rfl (lv_at hl 0 rfl) ?_
    refine lv_iconst (v := 1) hx hb dX12_stat_330 (by decide) ?_
    obtain ⟨p19, hcp19, hf⟩ := hf_bind hf
    have hFc := r_free hD hS hA
    refine va_callv (va_runV (As := [.int 1]) (rest := []) ⟨hx, hb, hml, hown, hts⟩ (c_X12_over l dC dI _ Q N p17 1 p19 hcp19) (cwV 1 hts hX12_stat_X12_over_v490 rfl rfl rfl (by decide +kernel) ⟨Nat.le_of_ble_eq_true rfl, Nat.le_of_ble_eq_true rfl⟩) ⟨zPre.blind, va_recv hK hP (ci := 11) (q0 := 0) rfl rfl, zPre.go hZ hP hK hD⟩ rfl rfl hl.1 rfl (lv_room (Nat.le_of_ble_eq_true rfl)) dX12_stat_331 ⟨Nat.le_of_ble_eq_true rfl, Nat.le_of_ble_eq_true rfl⟩) hS (fun q _ h => hFc q h) hFc (fun u9 t9 H1 locs ht hvm hw hB hz1 hk1 hS => ?_)
    obtain ⟨hP, hK1, hD1⟩ := hB
    rw [ht] at hP
    have hD := hD1.weaken (fun _ _ _ h => hFc _ h)
    generalize H1 = H at hP hS ⊢
    refine lv_goto (tgt := 346) hx hb dX12_stat_334 (by decide) ?_
    obtain rfl := Option.some.inj hf
    exact W.vret hx hb hr (fun t ht hW => ⟨⟨(), rfl, trivial, by rw [ht]; exact hP, va_K.moved hW.alike hK, hD⟩, hS.F ht⟩) hS.2.2 dX12_stat_346
set_option maxHeartbeats 4000000 in
set_option maxRecDepth 100000 in
theorem j_X12_stat_240 {p : Program} {e : Env} {s : State} {m : MethodId} {args : Array Value} {below : List Frame} {meth : Method} {c : Code} {A : Nat → Prop} (l : Launch) (dC : Nat → ClassId) (dI : Nat → Nat → Nat) (Q : RQ) (N : Nat) (R : RS) (hx : p.tables.exec = Jvm.exec) (hb : c.code = cX12_stat) (hr : meth.sig.returnType = none) (hml : c.maxLocals = 2) (hown : s.vm.findClass RX12 = some m.cls) (hts : ∀ w ∈ wzX12_stat, w.before args s = true) (hlocks : meth.locks = false) (hZ : zAMB s) (hA : ∀ q : Nat, s.heap.size ≤ q → A q) (hK : va_K (dC, dI) vwCl (rT Q) s) : ∀ (σ : RS) (x1 : Int32) (H : Heap) (locs : List Loc) (ls : Array Slot), f_X12_stat_240 N σ x1 = some R → va_P (dC, dI) vwCl (rW Q σ) H → va_D A (rW Q σ) → va_S A s.heap H locs → lv_has ls 2 [(0, .ref Q.h0), (1, .int x1)] → W p l e ({ frames := 6, cells := 0, slots := 0, locals := 360 }) s m args below meth c H locs 0 0 (MQ below (va_Qv (fun (_ : Unit) => True) (fun (_ : Unit) (t : State) => zPost dC dI A (rW Q R) (rT Q) t) A) args s 0 0 A) (F0 m 240 ls []) := by
  intro σ x1 H locs ls hf hP hD hS hl
  unfold f_X12_stat_240 at hf
  refine lv_aload_n hx hb dX12_stat_240 rfl (lv_at hl 0 rfl) ?_
  refine rG_64 hx hb hts i_X12_stat_X12 hown hK hP (hts (.fieldLink RX12 174 "StatementRules2Model" "fk" "[I") k_X12_stat_fieldLink_RX12_174_SRModel_fk_I) dX12_stat_241 ?_
  refine lv_iload_n hx hb dX12_stat_244 rfl (lv_at hl 1 rfl) ?_
  obtain ⟨b4, hf⟩ := hf_ite hf
  refine rL_64 (v := (σ.a 64 ((x1 : Int32).toNatClampNeg))) hx hb hK hP b4 dX12_stat_245 rfl ?_
  refine lv_iconst (v := 2) hx hb dX12_stat_246 (by decide) ?_
  refine lv_icmp_eq (tgt := 268) hx hb dX12_stat_247 (by decide) (fun c5 => ?_) (fun c5 => ?_)
  ·
    replace hf := (if_pos c5).symm.trans hf
    refine lv_aload_n hx hb dX12_stat_268 rfl (lv_at hl 0 rfl) ?_
    refine lv_aload_n hx hb dX12_stat_269 rfl (lv_at hl 0 rfl) ?_
    refine rG_10 (v := (σ.i 10)) hx hb hts i_X12_stat_X12 hown hK hP (hts (.fieldLink RX12 307 "StatementRules2Model" "tok" "I") k_X12_stat_fieldLink_RX12_307_SRModel_tok_I) dX12_stat_270 rfl ?_
    refine lv_bipush (v := 59) hx hb dX12_stat_273 (by decide) ?_
    refine lv_icmp_eq (tgt := 298) hx hb dX12_stat_275 (by decide) (fun c6 => ?_) (fun c6 => ?_)
    ·
      replace hf := (if_pos c6).symm.trans hf
      refine lv_iconst (v := 1) hx hb dX12_stat_298 (by decide) ?_
      refine lv_goto (tgt := 303) hx hb dX12_stat_299 (by decide) ?_
      obtain ⟨p7, hcp7, hf⟩ := hf_bind hf
      have hFc := r_free hD hS hA
      refine va_calli (va_runV (As := [.int 1]) (rest := []) ⟨hx, hb, hml, hown, hts⟩ (c_X12_can l dC dI _ Q N σ 1 p7 hcp7) (cwV 1 hts hX12_stat_X12_can_v341 rfl rfl rfl (by decide +kernel) ⟨Nat.le_of_ble_eq_true rfl, Nat.le_of_ble_eq_true rfl⟩) ⟨zPre.blind, va_recv hK hP (ci := 11) (q0 := 0) rfl rfl, zPre.go hZ hP hK hD⟩ rfl rfl hl.1 rfl (lv_room (Nat.le_of_ble_eq_true rfl)) dX12_stat_303 ⟨Nat.le_of_ble_eq_true rfl, Nat.le_of_ble_eq_true rfl⟩) hS (fun q _ h => hFc q h) hFc (fun r8 u9 t9 H1 locs ht hvm hw hB hz1 hk1 hS => ?_)
      obtain ⟨hP, hK1, hD1⟩ := hB
      rw [ht] at hP
      have hD := hD1.weaken (fun _ _ _ h => hFc _ h)
      generalize H1 = H at hP hS ⊢
      obtain rfl : r8 = p7.1 := hw
      refine lv_if_eq (tgt := 346) hx hb dX12_stat_306 (by decide) (fun c9 => ?_) (fun c9 => ?_)
      ·
        replace hf := (if_pos c9).symm.trans hf
        obtain rfl := Option.some.inj hf
        exact W.vret hx hb hr (fun t ht hW => ⟨⟨(), rfl, trivial, by rw [ht]; exact hP, va_K.moved hW.alike hK, hD⟩, hS.F ht⟩) hS.2.2 dX12_stat_346
      ·
        replace hf := (if_neg c9).symm.trans hf
        exact j_X12_stat_309 l dC dI Q N R hx hb hr hml hown hts hlocks hZ hA hK p7.2 _ _ _ hf hP hD hS (lv_sub hl [0] rfl)
    ·
      replace hf := (if_neg c6).symm.trans hf
      refine lv_aload_n hx hb dX12_stat_278 rfl (lv_at hl 0 rfl) ?_
      refine rG_10 (v := (σ.i 10)) hx hb hts i_X12_stat_X12 hown hK hP (hts (.fieldLink RX12 307 "StatementRules2Model" "tok" "I") k_X12_stat_fieldLink_RX12_307_SRModel_tok_I) dX12_stat_279 rfl ?_
      refine lv_sipush (v := 418) hx hb dX12_stat_282 (by decide) ?_
      refine lv_icmp_eq (tgt := 298) hx hb dX12_stat_285 (by decide) (fun c21 => ?_) (fun c21 => ?_)
      ·
        replace hf := (if_pos c21).symm.trans hf
        refine lv_iconst (v := 1) hx hb dX12_stat_298 (by decide) ?_
        refine lv_goto (tgt := 303) hx hb dX12_stat_299 (by decide) ?_
        obtain ⟨p22, hcp22, hf⟩ := hf_bind hf
        have hFc := r_free hD hS hA
        refine va_calli (va_runV (As := [.int 1]) (rest := []) ⟨hx, hb, hml, hown, hts⟩ (c_X12_can l dC dI _ Q N σ 1 p22 hcp22) (cwV 1 hts hX12_stat_X12_can_v341 rfl rfl rfl (by decide +kernel) ⟨Nat.le_of_ble_eq_true rfl, Nat.le_of_ble_eq_true rfl⟩) ⟨zPre.blind, va_recv hK hP (ci := 11) (q0 := 0) rfl rfl, zPre.go hZ hP hK hD⟩ rfl rfl hl.1 rfl (lv_room (Nat.le_of_ble_eq_true rfl)) dX12_stat_303 ⟨Nat.le_of_ble_eq_true rfl, Nat.le_of_ble_eq_true rfl⟩) hS (fun q _ h => hFc q h) hFc (fun r23 u9 t9 H1 locs ht hvm hw hB hz1 hk1 hS => ?_)
        obtain ⟨hP, hK1, hD1⟩ := hB
        rw [ht] at hP
        have hD := hD1.weaken (fun _ _ _ h => hFc _ h)
        generalize H1 = H at hP hS ⊢
        obtain rfl : r23 = p22.1 := hw
        refine lv_if_eq (tgt := 346) hx hb dX12_stat_306 (by decide) (fun c24 => ?_) (fun c24 => ?_)
        ·
          replace hf := (if_pos c24).symm.trans hf
          obtain rfl := Option.some.inj hf
          exact W.vret hx hb hr (fun t ht hW => ⟨⟨(), rfl, trivial, by rw [ht]; exact hP, va_K.moved hW.alike hK, hD⟩, hS.F ht⟩) hS.2.2 dX12_stat_346
        ·
          replace hf := (if_neg c24).symm.trans hf
          exact j_X12_stat_309 l dC dI Q N R hx hb hr hml hown hts hlocks hZ hA hK p22.2 _ _ _ hf hP hD hS (lv_sub hl [0] rfl)
      ·
        replace hf := (if_neg c21).symm.trans hf
        refine lv_aload_n hx hb dX12_stat_288 rfl (lv_at hl 0 rfl) ?_
        refine rG_10 (v := (σ.i 10)) hx hb hts i_X12_stat_X12 hown hK hP (hts (.fieldLink RX12 307 "StatementRules2Model" "tok" "I") k_X12_stat_fieldLink_RX12_307_SRModel_tok_I) dX12_stat_289 rfl ?_
        refine lv_sipush (v := 419) hx hb dX12_stat_292 (by decide) ?_
        refine lv_icmp_ne (tgt := 302) hx hb dX12_stat_295 (by decide) (fun c25 => ?_) (fun c25 => ?_)
        ·
          replace hf := (if_neg c25).symm.trans hf
          refine lv_iconst (v := 0) hx hb dX12_stat_302 (by decide) ?_
          obtain ⟨p26, hcp26, hf⟩ := hf_bind hf
          have hFc := r_free hD hS hA
          refine va_calli (va_runV (As := [.int 0]) (rest := []) ⟨hx, hb, hml, hown, hts⟩ (c_X12_can l dC dI _ Q N σ 0 p26 hcp26) (cwV 1 hts hX12_stat_X12_can_v341 rfl rfl rfl (by decide +kernel) ⟨Nat.le_of_ble_eq_true rfl, Nat.le_of_ble_eq_true rfl⟩) ⟨zPre.blind, va_recv hK hP (ci := 11) (q0 := 0) rfl rfl, zPre.go hZ hP hK hD⟩ rfl rfl hl.1 rfl (lv_room (Nat.le_of_ble_eq_true rfl)) dX12_stat_303 ⟨Nat.le_of_ble_eq_true rfl, Nat.le_of_ble_eq_true rfl⟩) hS (fun q _ h => hFc q h) hFc (fun r27 u9 t9 H1 locs ht hvm hw hB hz1 hk1 hS => ?_)
          obtain ⟨hP, hK1, hD1⟩ := hB
          rw [ht] at hP
          have hD := hD1.weaken (fun _ _ _ h => hFc _ h)
          generalize H1 = H at hP hS ⊢
          obtain rfl : r27 = p26.1 := hw
          refine lv_if_eq (tgt := 346) hx hb dX12_stat_306 (by decide) (fun c28 => ?_) (fun c28 => ?_)
          ·
            replace hf := (if_pos c28).symm.trans hf
            obtain rfl := Option.some.inj hf
            exact W.vret hx hb hr (fun t ht hW => ⟨⟨(), rfl, trivial, by rw [ht]; exact hP, va_K.moved hW.alike hK, hD⟩, hS.F ht⟩) hS.2.2 dX12_stat_346
          ·
            replace hf := (if_neg c28).symm.trans hf
            exact j_X12_stat_309 l dC dI Q N R hx hb hr hml hown hts hlocks hZ hA hK p26.2 _ _ _ hf hP hD hS (lv_sub hl [0] rfl)
        ·
          replace hf := (if_pos c25).symm.trans hf
          refine lv_iconst (v := 1) hx hb dX12_stat_298 (by decide) ?_
          refine lv_goto (tgt := 303) hx hb dX12_stat_299 (by decide) ?_
          obtain ⟨p29, hcp29, hf⟩ := hf_bind hf
          have hFc := r_free hD hS hA
          refine va_calli (va_runV (As := [.int 1]) (rest := []) ⟨hx, hb, hml, hown, hts⟩ (c_X12_can l dC dI _ Q N σ 1 p29 hcp29) (cwV 1 hts hX12_stat_X12_can_v341 rfl rfl rfl (by decide +kernel) ⟨Nat.le_of_ble_eq_true rfl, Nat.le_of_ble_eq_true rfl⟩) ⟨zPre.blind, va_recv hK hP (ci := 11) (q0 := 0) rfl rfl, zPre.go hZ hP hK hD⟩ rfl rfl hl.1 rfl (lv_room (Nat.le_of_ble_eq_true rfl)) dX12_stat_303 ⟨Nat.le_of_ble_eq_true rfl, Nat.le_of_ble_eq_true rfl⟩) hS (fun q _ h => hFc q h) hFc (fun r30 u9 t9 H1 locs ht hvm hw hB hz1 hk1 hS => ?_)
          obtain ⟨hP, hK1, hD1⟩ := hB
          rw [ht] at hP
          have hD := hD1.weaken (fun _ _ _ h => hFc _ h)
          generalize H1 = H at hP hS ⊢
          obtain rfl : r30 = p29.1 := hw
          refine lv_if_eq (tgt := 346) hx hb dX12_stat_306 (by decide) (fun c31 => ?_) (fun c31 => ?_)
          ·
            replace hf := (if_pos c31).symm.trans hf
            obtain rfl := Option.some.inj hf
            exact W.vret hx hb hr (fun t ht hW => ⟨⟨(), rfl, trivial, by rw [ht]; exact hP, va_K.moved hW.alike hK, hD⟩, hS.F ht⟩) hS.2.2 dX12_stat_346
          ·
            replace hf := (if_neg c31).symm.trans hf
            exact j_X12_stat_309 l dC dI Q N R hx hb hr hml hown hts hlocks hZ hA hK p29.2 _ _ _ hf hP hD hS (lv_sub hl [0] rfl)
  ·
    replace hf := (if_neg c5).symm.trans hf
    refine lv_aload_n hx hb dX12_stat_250 rfl (lv_at hl 0 rfl) ?_
    refine rG_64 hx hb hts i_X12_stat_X12 hown hK hP (hts (.fieldLink RX12 174 "StatementRules2Model" "fk" "[I") k_X12_stat_fieldLink_RX12_174_SRModel_fk_I) dX12_stat_251 ?_
    refine lv_iload_n hx hb dX12_stat_254 rfl (lv_at hl 1 rfl) ?_
    refine rL_64 (v := (σ.a 64 ((x1 : Int32).toNatClampNeg))) hx hb hK hP b4 dX12_stat_255 rfl ?_
    refine lv_iconst (v := 5) hx hb dX12_stat_256 (by decide) ?_
    refine lv_icmp_eq (tgt := 267) hx hb dX12_stat_257 (by decide) (fun c32 => ?_) (fun c32 => ?_)
    ·
      replace hf := (if_pos c32).symm.trans hf
      obtain rfl := Option.some.inj hf
      exact W.vret hx hb hr (fun t ht hW => ⟨⟨(), rfl, trivial, by rw [ht]; exact hP, va_K.moved hW.alike hK, hD⟩, hS.F ht⟩) hS.2.2 dX12_stat_267
    ·
      replace hf := (if_neg c32).symm.trans hf
      refine lv_aload_n hx hb dX12_stat_260 rfl (lv_at hl 0 rfl) ?_
      refine lv_iconst (v := 1) hx hb dX12_stat_261 (by decide) ?_
      refine lv_iconst (v := 0) hx hb dX12_stat_262 (by decide) ?_
      obtain ⟨p33, hcp33, hf⟩ := hf_bind hf
      have hFc := r_free hD hS hA
      refine va_calli (va_runV (As := [.int 1, .int 0]) (rest := []) ⟨hx, hb, hml, hown, hts⟩ (c_X12_emit l dC dI _ Q N σ 1 0 p33 hcp33) (cwV 2 hts hX12_stat_X12_emit_v464 rfl rfl rfl (by decide +kernel) ⟨Nat.le_of_ble_eq_true rfl, Nat.le_of_ble_eq_true rfl⟩) ⟨zPre.blind, va_recv hK hP (ci := 11) (q0 := 0) rfl rfl, zPre.go hZ hP hK hD⟩ rfl rfl hl.1 rfl (lv_room (Nat.le_of_ble_eq_true rfl)) dX12_stat_263 ⟨Nat.le_of_ble_eq_true rfl, Nat.le_of_ble_eq_true rfl⟩) hS (fun q _ h => hFc q h) hFc (fun r34 u9 t9 H1 locs ht hvm hw hB hz1 hk1 hS => ?_)
      obtain ⟨hP, hK1, hD1⟩ := hB
      rw [ht] at hP
      have hD := hD1.weaken (fun _ _ _ h => hFc _ h)
      generalize H1 = H at hP hS ⊢
      obtain rfl : r34 = p33.1 := hw
      refine lv_pop hx hb dX12_stat_266 rfl ?_
      obtain rfl := Option.some.inj hf
      exact W.vret hx hb hr (fun t ht hW => ⟨⟨(), rfl, trivial, by rw [ht]; exact hP, va_K.moved hW.alike hK, hD⟩, hS.F ht⟩) hS.2.2 dX12_stat_267
set_option maxHeartbeats 4000000 in
set_option maxRecDepth 100000 in
theorem c_X12_stat (l : Launch) (dC : Nat → ClassId) (dI : Nat → Nat → Nat) (sz : Nat) (Q : RQ) (N : Nat) (σ : RS) (x1 : Int32) (R : RS) (hf : f_X12_stat N σ x1 = some R) : Met l yX12_stat wzX12_stat ({ frames := 6, cells := 0, slots := 0, locals := 360 }) (va_Pc [.ref Q.h0, .int x1] (zPre dC dI sz (rW Q σ) (rT Q))) (va_Qv (fun (_ : Unit) => True) (fun (_ : Unit) (t : State) => zPost dC dI (va_A (rW Q σ) sz) (rW Q R) (rT Q) t) (va_A (rW Q σ) sz)) 0 0 (va_A (rW Q σ) sz) := by
  refine Met.ofW (cc := cX12_stat) (maxL := 2) (ret := none) (by decide) rfl ?_
  intro p e s m args below meth c s₁ B hml hv
  obtain ⟨rfl, hsz, hZ, hP, hK, hD0⟩ := hv
  have hx := B.exec
  have hb := B.bytes
  have hr := B.returns
  have hts := atoms_spec (ws := wzX12_stat) B.pre
  have hown : s.vm.findClass RX12 = some m.cls := findClass_of_methodNamed B.named
  have hlocks := B.notSynchronized
  subst hsz
  have hD := hD0.self (sz := s.heap.size)
  generalize hAe : va_A (rW Q σ) s.heap.size = A at hD ⊢
  have hA : ∀ q : Nat, s.heap.size ≤ q → A q := fun q h => by rw [← hAe]; exact Or.inr h
  have hS : va_S A s.heap s.heap [] := va_S.rf
  have hl := lv_entry ([.ref Q.h0, .int x1]) (n := 2) (Nat.le_of_ble_eq_true rfl)
  rw [lg_entry_eq]
  generalize (lg_sl ([.ref Q.h0, .int x1]) ++ List.replicate (2 - (lg_sl ([.ref Q.h0, .int x1])).length) Slot.unset).toArray = ls at hl ⊢
  have hl : lv_has ls 2 [(0, .ref Q.h0), (1, .int x1)] := hl
  unfold f_X12_stat at hf
  refine lv_aload_n hx hb dX12_stat_0 rfl (lv_at hl 0 rfl) ?_
  refine lv_dup hx hb dX12_stat_1 rfl ?_
  refine rG_53 (v := (σ.i 53)) hx hb hts i_X12_stat_X12 hown hK hP (hts (.fieldLink RX12 494 "StatementRules2Model" "statements" "I") k_X12_stat_fieldLink_RX12_494_SRModel_statements_I) dX12_stat_2 rfl ?_
  refine lv_iconst (v := 1) hx hb dX12_stat_5 (by decide) ?_
  refine lv_iadd hx hb dX12_stat_6 ?_
  refine rP_53 hx hb hts i_X12_stat_X12 hown hK hP hD hS (hts (.fieldLink RX12 494 "StatementRules2Model" "statements" "I") k_X12_stat_fieldLink_RX12_494_SRModel_statements_I) dX12_stat_7 (fun H locs hP hD hS => ?_)
  refine lv_aload_n hx hb dX12_stat_10 rfl (lv_at hl 0 rfl) ?_
  refine rG_10 (v := (σ.i 10)) hx hb hts i_X12_stat_X12 hown hK hP (hts (.fieldLink RX12 307 "StatementRules2Model" "tok" "I") k_X12_stat_fieldLink_RX12_307_SRModel_tok_I) dX12_stat_11 rfl ?_
  refine lv_bipush (v := 123) hx hb dX12_stat_14 (by decide) ?_
  refine lv_icmp_ne (tgt := 27) hx hb dX12_stat_16 (by decide) (fun c1 => ?_) (fun c1 => ?_)
  ·
    replace hf := (if_neg c1).symm.trans hf
    refine lv_aload_n hx hb dX12_stat_27 rfl (lv_at hl 0 rfl) ?_
    refine rG_64 hx hb hts i_X12_stat_X12 hown hK hP (hts (.fieldLink RX12 174 "StatementRules2Model" "fk" "[I") k_X12_stat_fieldLink_RX12_174_SRModel_fk_I) dX12_stat_28 ?_
    refine lv_iload_n hx hb dX12_stat_31 rfl (lv_at hl 1 rfl) ?_
    refine lv_aload_n hx hb dX12_stat_32 rfl (lv_at hl 0 rfl) ?_
    refine rG_10 (v := (σ.i 10)) hx hb hts i_X12_stat_X12 hown hK hP (hts (.fieldLink RX12 307 "StatementRules2Model" "tok" "I") k_X12_stat_fieldLink_RX12_307_SRModel_tok_I) dX12_stat_33 rfl ?_
    refine lv_sipush (v := 410) hx hb dX12_stat_36 (by decide) ?_
    refine lv_icmp_eq (tgt := 52) hx hb dX12_stat_39 (by decide) (fun c2 => ?_) (fun c2 => ?_)
    ·
      replace hf := (if_pos c2).symm.trans hf
      refine lv_iconst (v := 4) hx hb dX12_stat_52 (by decide) ?_
      refine lv_goto (tgt := 239) hx hb dX12_stat_53 (by decide) ?_
      obtain ⟨b3, hf⟩ := hf_ite hf
      refine rS_64 hx hb hK hP hD hS b3 dX12_stat_239 (fun H locs hP hD hS => ?_)
      exact j_X12_stat_240 l dC dI Q N R hx hb hr hml hown hts hlocks hZ hA hK (RS.setA (RS.setI σ 53 ((σ.i 53) + 1)) 64 ((x1 : Int32).toNatClampNeg) 4) x1 _ _ _ hf hP hD hS (lv_sub hl [0, 1] rfl)
    ·
      replace hf := (if_neg c2).symm.trans hf
      refine lv_aload_n hx hb dX12_stat_42 rfl (lv_at hl 0 rfl) ?_
      refine rG_10 (v := (σ.i 10)) hx hb hts i_X12_stat_X12 hown hK hP (hts (.fieldLink RX12 307 "StatementRules2Model" "tok" "I") k_X12_stat_fieldLink_RX12_307_SRModel_tok_I) dX12_stat_43 rfl ?_
      refine lv_sipush (v := 411) hx hb dX12_stat_46 (by decide) ?_
      refine lv_icmp_ne (tgt := 56) hx hb dX12_stat_49 (by decide) (fun c35 => ?_) (fun c35 => ?_)
      ·
        replace hf := (if_neg c35).symm.trans hf
        refine lv_aload_n hx hb dX12_stat_56 rfl (lv_at hl 0 rfl) ?_
        refine rG_10 (v := (σ.i 10)) hx hb hts i_X12_stat_X12 hown hK hP (hts (.fieldLink RX12 307 "StatementRules2Model" "tok" "I") k_X12_stat_fieldLink_RX12_307_SRModel_tok_I) dX12_stat_57 rfl ?_
        refine lv_iconst (v := 2) hx hb dX12_stat_60 (by decide) ?_
        refine lv_icmp_ne (tgt := 68) hx hb dX12_stat_61 (by decide) (fun c36 => ?_) (fun c36 => ?_)
        ·
          replace hf := (if_neg c36).symm.trans hf
          refine lv_aload_n hx hb dX12_stat_68 rfl (lv_at hl 0 rfl) ?_
          refine rG_10 (v := (σ.i 10)) hx hb hts i_X12_stat_X12 hown hK hP (hts (.fieldLink RX12 307 "StatementRules2Model" "tok" "I") k_X12_stat_fieldLink_RX12_307_SRModel_tok_I) dX12_stat_69 rfl ?_
          refine lv_sipush (v := 412) hx hb dX12_stat_72 (by decide) ?_
          refine lv_icmp_eq (tgt := 98) hx hb dX12_stat_75 (by decide) (fun c37 => ?_) (fun c37 => ?_)
          ·
            replace hf := (if_pos c37).symm.trans hf
            refine lv_bipush (v := 6) hx hb dX12_stat_98 (by decide) ?_
            refine lv_goto (tgt := 239) hx hb dX12_stat_100 (by decide) ?_
            obtain ⟨b38, hf⟩ := hf_ite hf
            refine rS_64 hx hb hK hP hD hS b38 dX12_stat_239 (fun H locs hP hD hS => ?_)
            exact j_X12_stat_240 l dC dI Q N R hx hb hr hml hown hts hlocks hZ hA hK (RS.setA (RS.setI σ 53 ((σ.i 53) + 1)) 64 ((x1 : Int32).toNatClampNeg) 6) x1 _ _ _ hf hP hD hS (lv_sub hl [0, 1] rfl)
          ·
            replace hf := (if_neg c37).symm.trans hf
            refine lv_aload_n hx hb dX12_stat_78 rfl (lv_at hl 0 rfl) ?_
            refine rG_10 (v := (σ.i 10)) hx hb hts i_X12_stat_X12 hown hK hP (hts (.fieldLink RX12 307 "StatementRules2Model" "tok" "I") k_X12_stat_fieldLink_RX12_307_SRModel_tok_I) dX12_stat_79 rfl ?_
            refine lv_sipush (v := 420) hx hb dX12_stat_82 (by decide) ?_
            refine lv_icmp_eq (tgt := 98) hx hb dX12_stat_85 (by decide) (fun c39 => ?_) (fun c39 => ?_)
            ·
              replace hf := (if_pos c39).symm.trans hf
              refine lv_bipush (v := 6) hx hb dX12_stat_98 (by decide) ?_
              refine lv_goto (tgt := 239) hx hb dX12_stat_100 (by decide) ?_
              obtain ⟨b40, hf⟩ := hf_ite hf
              refine rS_64 hx hb hK hP hD hS b40 dX12_stat_239 (fun H locs hP hD hS => ?_)
              exact j_X12_stat_240 l dC dI Q N R hx hb hr hml hown hts hlocks hZ hA hK (RS.setA (RS.setI σ 53 ((σ.i 53) + 1)) 64 ((x1 : Int32).toNatClampNeg) 6) x1 _ _ _ hf hP hD hS (lv_sub hl [0, 1] rfl)
            ·
              replace hf := (if_neg c39).symm.trans hf
              refine lv_aload_n hx hb dX12_stat_88 rfl (lv_at hl 0 rfl) ?_
              refine rG_10 (v := (σ.i 10)) hx hb hts i_X12_stat_X12 hown hK hP (hts (.fieldLink RX12 307 "StatementRules2Model" "tok" "I") k_X12_stat_fieldLink_RX12_307_SRModel_tok_I) dX12_stat_89 rfl ?_
              refine lv_sipush (v := 431) hx hb dX12_stat_92 (by decide) ?_
              refine lv_icmp_ne (tgt := 103) hx hb dX12_stat_95 (by decide) (fun c41 => ?_) (fun c41 => ?_)
              ·
                replace hf := (if_neg c41).symm.trans hf
                refine lv_aload_n hx hb dX12_stat_103 rfl (lv_at hl 0 rfl) ?_
                refine rG_10 (v := (σ.i 10)) hx hb hts i_X12_stat_X12 hown hK hP (hts (.fieldLink RX12 307 "StatementRules2Model" "tok" "I") k_X12_stat_fieldLink_RX12_307_SRModel_tok_I) dX12_stat_104 rfl ?_
                refine lv_sipush (v := 421) hx hb dX12_stat_107 (by decide) ?_
                refine lv_icmp_ne (tgt := 118) hx hb dX12_stat_110 (by decide) (fun c42 => ?_) (fun c42 => ?_)
                ·
                  replace hf := (if_neg c42).symm.trans hf
                  refine lv_aload_n hx hb dX12_stat_118 rfl (lv_at hl 0 rfl) ?_
                  refine rG_10 (v := (σ.i 10)) hx hb hts i_X12_stat_X12 hown hK hP (hts (.fieldLink RX12 307 "StatementRules2Model" "tok" "I") k_X12_stat_fieldLink_RX12_307_SRModel_tok_I) dX12_stat_119 rfl ?_
                  refine lv_sipush (v := 427) hx hb dX12_stat_122 (by decide) ?_
                  refine lv_icmp_ne (tgt := 133) hx hb dX12_stat_125 (by decide) (fun c43 => ?_) (fun c43 => ?_)
                  ·
                    replace hf := (if_neg c43).symm.trans hf
                    refine lv_aload_n hx hb dX12_stat_133 rfl (lv_at hl 0 rfl) ?_
                    refine rG_10 (v := (σ.i 10)) hx hb hts i_X12_stat_X12 hown hK hP (hts (.fieldLink RX12 307 "StatementRules2Model" "tok" "I") k_X12_stat_fieldLink_RX12_307_SRModel_tok_I) dX12_stat_134 rfl ?_
                    refine lv_sipush (v := 413) hx hb dX12_stat_137 (by decide) ?_
                    refine lv_icmp_ne (tgt := 148) hx hb dX12_stat_140 (by decide) (fun c44 => ?_) (fun c44 => ?_)
                    ·
                      replace hf := (if_neg c44).symm.trans hf
                      refine lv_aload_n hx hb dX12_stat_148 rfl (lv_at hl 0 rfl) ?_
                      refine rG_10 (v := (σ.i 10)) hx hb hts i_X12_stat_X12 hown hK hP (hts (.fieldLink RX12 307 "StatementRules2Model" "tok" "I") k_X12_stat_fieldLink_RX12_307_SRModel_tok_I) dX12_stat_149 rfl ?_
                      refine lv_sipush (v := 415) hx hb dX12_stat_152 (by decide) ?_
                      refine lv_icmp_ne (tgt := 163) hx hb dX12_stat_155 (by decide) (fun c45 => ?_) (fun c45 => ?_)
                      ·
                        replace hf := (if_neg c45).symm.trans hf
                        refine lv_aload_n hx hb dX12_stat_163 rfl (lv_at hl 0 rfl) ?_
                        refine rG_10 (v := (σ.i 10)) hx hb hts i_X12_stat_X12 hown hK hP (hts (.fieldLink RX12 307 "StatementRules2Model" "tok" "I") k_X12_stat_fieldLink_RX12_307_SRModel_tok_I) dX12_stat_164 rfl ?_
                        refine lv_sipush (v := 416) hx hb dX12_stat_167 (by decide) ?_
                        refine lv_icmp_ne (tgt := 178) hx hb dX12_stat_170 (by decide) (fun c46 => ?_) (fun c46 => ?_)
                        ·
                          replace hf := (if_neg c46).symm.trans hf
                          refine lv_aload_n hx hb dX12_stat_178 rfl (lv_at hl 0 rfl) ?_
                          refine rG_10 (v := (σ.i 10)) hx hb hts i_X12_stat_X12 hown hK hP (hts (.fieldLink RX12 307 "StatementRules2Model" "tok" "I") k_X12_stat_fieldLink_RX12_307_SRModel_tok_I) dX12_stat_179 rfl ?_
                          refine lv_sipush (v := 417) hx hb dX12_stat_182 (by decide) ?_
                          refine lv_icmp_ne (tgt := 193) hx hb dX12_stat_185 (by decide) (fun c47 => ?_) (fun c47 => ?_)
                          ·
                            replace hf := (if_neg c47).symm.trans hf
                            refine lv_aload_n hx hb dX12_stat_193 rfl (lv_at hl 0 rfl) ?_
                            refine rG_10 (v := (σ.i 10)) hx hb hts i_X12_stat_X12 hown hK hP (hts (.fieldLink RX12 307 "StatementRules2Model" "tok" "I") k_X12_stat_fieldLink_RX12_307_SRModel_tok_I) dX12_stat_194 rfl ?_
                            refine lv_sipush (v := 422) hx hb dX12_stat_197 (by decide) ?_
                            refine lv_icmp_ne (tgt := 208) hx hb dX12_stat_200 (by decide) (fun c48 => ?_) (fun c48 => ?_)
                            ·
                              replace hf := (if_neg c48).symm.trans hf
                              refine lv_aload_n hx hb dX12_stat_208 rfl (lv_at hl 0 rfl) ?_
                              refine rG_10 (v := (σ.i 10)) hx hb hts i_X12_stat_X12 hown hK hP (hts (.fieldLink RX12 307 "StatementRules2Model" "tok" "I") k_X12_stat_fieldLink_RX12_307_SRModel_tok_I) dX12_stat_209 rfl ?_
                              refine lv_sipush (v := 428) hx hb dX12_stat_212 (by decide) ?_
                              refine lv_icmp_ne (tgt := 223) hx hb dX12_stat_215 (by decide) (fun c49 => ?_) (fun c49 => ?_)
                              ·
                                replace hf := (if_neg c49).symm.trans hf
                                refine lv_aload_n hx hb dX12_stat_223 rfl (lv_at hl 0 rfl) ?_
                                refine rG_10 (v := (σ.i 10)) hx hb hts i_X12_stat_X12 hown hK hP (hts (.fieldLink RX12 307 "StatementRules2Model" "tok" "I") k_X12_stat_fieldLink_RX12_307_SRModel_tok_I) dX12_stat_224 rfl ?_
                                refine lv_sipush (v := 423) hx hb dX12_stat_227 (by decide) ?_
                                refine lv_icmp_ne (tgt := 238) hx hb dX12_stat_230 (by decide) (fun c50 => ?_) (fun c50 => ?_)
                                ·
                                  replace hf := (if_neg c50).symm.trans hf
                                  refine lv_iconst (v := 2) hx hb dX12_stat_238 (by decide) ?_
                                  obtain ⟨b51, hf⟩ := hf_ite hf
                                  refine rS_64 hx hb hK hP hD hS b51 dX12_stat_239 (fun H locs hP hD hS => ?_)
                                  exact j_X12_stat_240 l dC dI Q N R hx hb hr hml hown hts hlocks hZ hA hK (RS.setA (RS.setI σ 53 ((σ.i 53) + 1)) 64 ((x1 : Int32).toNatClampNeg) 2) x1 _ _ _ hf hP hD hS (lv_sub hl [0, 1] rfl)
                                ·
                                  replace hf := (if_pos c50).symm.trans hf
                                  refine lv_bipush (v := 15) hx hb dX12_stat_233 (by decide) ?_
                                  refine lv_goto (tgt := 239) hx hb dX12_stat_235 (by decide) ?_
                                  obtain ⟨b52, hf⟩ := hf_ite hf
                                  refine rS_64 hx hb hK hP hD hS b52 dX12_stat_239 (fun H locs hP hD hS => ?_)
                                  exact j_X12_stat_240 l dC dI Q N R hx hb hr hml hown hts hlocks hZ hA hK (RS.setA (RS.setI σ 53 ((σ.i 53) + 1)) 64 ((x1 : Int32).toNatClampNeg) 15) x1 _ _ _ hf hP hD hS (lv_sub hl [0, 1] rfl)
                              ·
                                replace hf := (if_pos c49).symm.trans hf
                                refine lv_bipush (v := 14) hx hb dX12_stat_218 (by decide) ?_
                                refine lv_goto (tgt := 239) hx hb dX12_stat_220 (by decide) ?_
                                obtain ⟨b53, hf⟩ := hf_ite hf
                                refine rS_64 hx hb hK hP hD hS b53 dX12_stat_239 (fun H locs hP hD hS => ?_)
                                exact j_X12_stat_240 l dC dI Q N R hx hb hr hml hown hts hlocks hZ hA hK (RS.setA (RS.setI σ 53 ((σ.i 53) + 1)) 64 ((x1 : Int32).toNatClampNeg) 14) x1 _ _ _ hf hP hD hS (lv_sub hl [0, 1] rfl)
                            ·
                              replace hf := (if_pos c48).symm.trans hf
                              refine lv_bipush (v := 13) hx hb dX12_stat_203 (by decide) ?_
                              refine lv_goto (tgt := 239) hx hb dX12_stat_205 (by decide) ?_
                              obtain ⟨b54, hf⟩ := hf_ite hf
                              refine rS_64 hx hb hK hP hD hS b54 dX12_stat_239 (fun H locs hP hD hS => ?_)
                              exact j_X12_stat_240 l dC dI Q N R hx hb hr hml hown hts hlocks hZ hA hK (RS.setA (RS.setI σ 53 ((σ.i 53) + 1)) 64 ((x1 : Int32).toNatClampNeg) 13) x1 _ _ _ hf hP hD hS (lv_sub hl [0, 1] rfl)
                          ·
                            replace hf := (if_pos c47).symm.trans hf
                            refine lv_bipush (v := 12) hx hb dX12_stat_188 (by decide) ?_
                            refine lv_goto (tgt := 239) hx hb dX12_stat_190 (by decide) ?_
                            obtain ⟨b55, hf⟩ := hf_ite hf
                            refine rS_64 hx hb hK hP hD hS b55 dX12_stat_239 (fun H locs hP hD hS => ?_)
                            exact j_X12_stat_240 l dC dI Q N R hx hb hr hml hown hts hlocks hZ hA hK (RS.setA (RS.setI σ 53 ((σ.i 53) + 1)) 64 ((x1 : Int32).toNatClampNeg) 12) x1 _ _ _ hf hP hD hS (lv_sub hl [0, 1] rfl)
                        ·
                          replace hf := (if_pos c46).symm.trans hf
                          refine lv_bipush (v := 11) hx hb dX12_stat_173 (by decide) ?_
                          refine lv_goto (tgt := 239) hx hb dX12_stat_175 (by decide) ?_
                          obtain ⟨b56, hf⟩ := hf_ite hf
                          refine rS_64 hx hb hK hP hD hS b56 dX12_stat_239 (fun H locs hP hD hS => ?_)
                          exact j_X12_stat_240 l dC dI Q N R hx hb hr hml hown hts hlocks hZ hA hK (RS.setA (RS.setI σ 53 ((σ.i 53) + 1)) 64 ((x1 : Int32).toNatClampNeg) 11) x1 _ _ _ hf hP hD hS (lv_sub hl [0, 1] rfl)
                      ·
                        replace hf := (if_pos c45).symm.trans hf
                        refine lv_bipush (v := 10) hx hb dX12_stat_158 (by decide) ?_
                        refine lv_goto (tgt := 239) hx hb dX12_stat_160 (by decide) ?_
                        obtain ⟨b57, hf⟩ := hf_ite hf
                        refine rS_64 hx hb hK hP hD hS b57 dX12_stat_239 (fun H locs hP hD hS => ?_)
                        exact j_X12_stat_240 l dC dI Q N R hx hb hr hml hown hts hlocks hZ hA hK (RS.setA (RS.setI σ 53 ((σ.i 53) + 1)) 64 ((x1 : Int32).toNatClampNeg) 10) x1 _ _ _ hf hP hD hS (lv_sub hl [0, 1] rfl)
                    ·
                      replace hf := (if_pos c44).symm.trans hf
                      refine lv_bipush (v := 9) hx hb dX12_stat_143 (by decide) ?_
                      refine lv_goto (tgt := 239) hx hb dX12_stat_145 (by decide) ?_
                      obtain ⟨b58, hf⟩ := hf_ite hf
                      refine rS_64 hx hb hK hP hD hS b58 dX12_stat_239 (fun H locs hP hD hS => ?_)
                      exact j_X12_stat_240 l dC dI Q N R hx hb hr hml hown hts hlocks hZ hA hK (RS.setA (RS.setI σ 53 ((σ.i 53) + 1)) 64 ((x1 : Int32).toNatClampNeg) 9) x1 _ _ _ hf hP hD hS (lv_sub hl [0, 1] rfl)
                  ·
                    replace hf := (if_pos c43).symm.trans hf
                    refine lv_bipush (v := 8) hx hb dX12_stat_128 (by decide) ?_
                    refine lv_goto (tgt := 239) hx hb dX12_stat_130 (by decide) ?_
                    obtain ⟨b59, hf⟩ := hf_ite hf
                    refine rS_64 hx hb hK hP hD hS b59 dX12_stat_239 (fun H locs hP hD hS => ?_)
                    exact j_X12_stat_240 l dC dI Q N R hx hb hr hml hown hts hlocks hZ hA hK (RS.setA (RS.setI σ 53 ((σ.i 53) + 1)) 64 ((x1 : Int32).toNatClampNeg) 8) x1 _ _ _ hf hP hD hS (lv_sub hl [0, 1] rfl)
                ·
                  replace hf := (if_pos c42).symm.trans hf
                  refine lv_bipush (v := 7) hx hb dX12_stat_113 (by decide) ?_
                  refine lv_goto (tgt := 239) hx hb dX12_stat_115 (by decide) ?_
                  obtain ⟨b60, hf⟩ := hf_ite hf
                  refine rS_64 hx hb hK hP hD hS b60 dX12_stat_239 (fun H locs hP hD hS => ?_)
                  exact j_X12_stat_240 l dC dI Q N R hx hb hr hml hown hts hlocks hZ hA hK (RS.setA (RS.setI σ 53 ((σ.i 53) + 1)) 64 ((x1 : Int32).toNatClampNeg) 7) x1 _ _ _ hf hP hD hS (lv_sub hl [0, 1] rfl)
              ·
                replace hf := (if_pos c41).symm.trans hf
                refine lv_bipush (v := 6) hx hb dX12_stat_98 (by decide) ?_
                refine lv_goto (tgt := 239) hx hb dX12_stat_100 (by decide) ?_
                obtain ⟨b61, hf⟩ := hf_ite hf
                refine rS_64 hx hb hK hP hD hS b61 dX12_stat_239 (fun H locs hP hD hS => ?_)
                exact j_X12_stat_240 l dC dI Q N R hx hb hr hml hown hts hlocks hZ hA hK (RS.setA (RS.setI σ 53 ((σ.i 53) + 1)) 64 ((x1 : Int32).toNatClampNeg) 6) x1 _ _ _ hf hP hD hS (lv_sub hl [0, 1] rfl)
        ·
          replace hf := (if_pos c36).symm.trans hf
          refine lv_iconst (v := 5) hx hb dX12_stat_64 (by decide) ?_
          refine lv_goto (tgt := 239) hx hb dX12_stat_65 (by decide) ?_
          obtain ⟨b62, hf⟩ := hf_ite hf
          refine rS_64 hx hb hK hP hD hS b62 dX12_stat_239 (fun H locs hP hD hS => ?_)
          exact j_X12_stat_240 l dC dI Q N R hx hb hr hml hown hts hlocks hZ hA hK (RS.setA (RS.setI σ 53 ((σ.i 53) + 1)) 64 ((x1 : Int32).toNatClampNeg) 5) x1 _ _ _ hf hP hD hS (lv_sub hl [0, 1] rfl)
      ·
        replace hf := (if_pos c35).symm.trans hf
        refine lv_iconst (v := 4) hx hb dX12_stat_52 (by decide) ?_
        refine lv_goto (tgt := 239) hx hb dX12_stat_53 (by decide) ?_
        obtain ⟨b63, hf⟩ := hf_ite hf
        refine rS_64 hx hb hK hP hD hS b63 dX12_stat_239 (fun H locs hP hD hS => ?_)
        exact j_X12_stat_240 l dC dI Q N R hx hb hr hml hown hts hlocks hZ hA hK (RS.setA (RS.setI σ 53 ((σ.i 53) + 1)) 64 ((x1 : Int32).toNatClampNeg) 4) x1 _ _ _ hf hP hD hS (lv_sub hl [0, 1] rfl)
  ·
    replace hf := (if_pos c1).symm.trans hf
    refine lv_aload_n hx hb dX12_stat_19 rfl (lv_at hl 0 rfl) ?_
    refine rG_64 hx hb hts i_X12_stat_X12 hown hK hP (hts (.fieldLink RX12 174 "StatementRules2Model" "fk" "[I") k_X12_stat_fieldLink_RX12_174_SRModel_fk_I) dX12_stat_20 ?_
    refine lv_iload_n hx hb dX12_stat_23 rfl (lv_at hl 1 rfl) ?_
    refine lv_iconst (v := 3) hx hb dX12_stat_24 (by decide) ?_
    obtain ⟨b64, hf⟩ := hf_ite hf
    refine rS_64 hx hb hK hP hD hS b64 dX12_stat_25 (fun H locs hP hD hS => ?_)
    obtain rfl := Option.some.inj hf
    exact W.vret hx hb hr (fun t ht hW => ⟨⟨(), rfl, trivial, by rw [ht]; exact hP, va_K.moved hW.alike hK, hD⟩, hS.F ht⟩) hS.2.2 dX12_stat_26
theorem k_X12_block_fieldLink_RX12_177_SRModel_fs_I : Cond.fieldLink RX12 177 "StatementRules2Model" "fs" "[I" ∈ wzX12_block := List.mem_cons_of_mem _ (List.mem_append_left _ (List.mem_of_getElem? (i := 0) rfl))
theorem i_X12_block_X12 : ∀ w ∈ wsX120, w ∈ wzX12_block := fun _ h => List.mem_cons_of_mem _ (List.mem_append_right _ (List.mem_append_left _ (h)))
theorem k_X12_block_fieldLink_RX12_180_SRModel_fp_I : Cond.fieldLink RX12 180 "StatementRules2Model" "fp" "[I" ∈ wzX12_block := List.mem_cons_of_mem _ (List.mem_append_left _ (List.mem_of_getElem? (i := 1) rfl))
theorem k_X12_block_fieldLink_RX12_361_SRModel_seen_I : Cond.fieldLink RX12 361 "StatementRules2Model" "seen" "I" ∈ wzX12_block := List.mem_cons_of_mem _ (List.mem_append_left _ (List.mem_of_getElem? (i := 2) rfl))
theorem k_X12_block_fieldLink_RX12_387_SRModel_top_I : Cond.fieldLink RX12 387 "StatementRules2Model" "top" "I" ∈ wzX12_block := List.mem_cons_of_mem _ (List.mem_append_left _ (List.mem_of_getElem? (i := 3) rfl))
set_option maxHeartbeats 4000000 in
set_option maxRecDepth 100000 in
theorem c_X12_block (l : Launch) (dC : Nat → ClassId) (dI : Nat → Nat → Nat) (sz : Nat) (Q : RQ) (N : Nat) (σ : RS) (x1 : Int32) (R : RS) (hf : f_X12_block N σ x1 = some R) : Met l yX12_block wzX12_block ({ frames := 6, cells := 0, slots := 0, locals := 360 }) (va_Pc [.ref Q.h0, .int x1] (zPre dC dI sz (rW Q σ) (rT Q))) (va_Qv (fun (_ : Unit) => True) (fun (_ : Unit) (t : State) => zPost dC dI (va_A (rW Q σ) sz) (rW Q R) (rT Q) t) (va_A (rW Q σ) sz)) 0 0 (va_A (rW Q σ) sz) := by
  refine Met.ofW (cc := cX12_block) (maxL := 2) (ret := none) (by decide) rfl ?_
  intro p e s m args below meth c s₁ B hml hv
  obtain ⟨rfl, hsz, hZ, hP, hK, hD0⟩ := hv
  have hx := B.exec
  have hb := B.bytes
  have hr := B.returns
  have hts := atoms_spec (ws := wzX12_block) B.pre
  have hown : s.vm.findClass RX12 = some m.cls := findClass_of_methodNamed B.named
  have hlocks := B.notSynchronized
  subst hsz
  have hD := hD0.self (sz := s.heap.size)
  generalize hAe : va_A (rW Q σ) s.heap.size = A at hD ⊢
  have hA : ∀ q : Nat, s.heap.size ≤ q → A q := fun q h => by rw [← hAe]; exact Or.inr h
  have hS : va_S A s.heap s.heap [] := va_S.rf
  have hl := lv_entry ([.ref Q.h0, .int x1]) (n := 2) (Nat.le_of_ble_eq_true rfl)
  rw [lg_entry_eq]
  generalize (lg_sl ([.ref Q.h0, .int x1]) ++ List.replicate (2 - (lg_sl ([.ref Q.h0, .int x1])).length) Slot.unset).toArray = ls at hl ⊢
  have hl : lv_has ls 2 [(0, .ref Q.h0), (1, .int x1)] := hl
  unfold f_X12_block at hf
  refine lv_aload_n hx hb dX12_block_0 rfl (lv_at hl 0 rfl) ?_
  refine rG_65 hx hb hts i_X12_block_X12 hown hK hP (hts (.fieldLink RX12 177 "StatementRules2Model" "fs" "[I") k_X12_block_fieldLink_RX12_177_SRModel_fs_I) dX12_block_1 ?_
  refine lv_iload_n hx hb dX12_block_4 rfl (lv_at hl 1 rfl) ?_
  obtain ⟨b1, hf⟩ := hf_ite hf
  refine rL_65 (v := (σ.a 65 ((x1 : Int32).toNatClampNeg))) hx hb hK hP b1 dX12_block_5 rfl ?_
  refine lv_if_ne (tgt := 33) hx hb dX12_block_6 (by decide) (fun c2 => ?_) (fun c2 => ?_)
  ·
    replace hf := (if_neg c2).symm.trans hf
    refine lv_aload_n hx hb dX12_block_33 rfl (lv_at hl 0 rfl) ?_
    refine lv_bipush (v := 125) hx hb dX12_block_34 (by decide) ?_
    obtain ⟨p3, hcp3, hf⟩ := hf_bind hf
    have hFc := r_free hD hS hA
    refine va_calli (va_runV (As := [.int 125]) (rest := []) ⟨hx, hb, hml, hown, hts⟩ (c_X12_shut l dC dI _ Q N σ 125 p3 hcp3) (cwV 1 hts hX12_block_X12_shut_v468 rfl rfl rfl (by decide +kernel) ⟨Nat.le_of_ble_eq_true rfl, Nat.le_of_ble_eq_true rfl⟩) ⟨zPre.blind, va_recv hK hP (ci := 11) (q0 := 0) rfl rfl, zPre.go hZ hP hK hD⟩ rfl rfl hl.1 rfl (lv_room (Nat.le_of_ble_eq_true rfl)) dX12_block_36 ⟨Nat.le_of_ble_eq_true rfl, Nat.le_of_ble_eq_true rfl⟩) hS (fun q _ h => hFc q h) hFc (fun r4 u9 t9 H1 locs ht hvm hw hB hz1 hk1 hS => ?_)
    obtain ⟨hP, hK1, hD1⟩ := hB
    rw [ht] at hP
    have hD := hD1.weaken (fun _ _ _ h => hFc _ h)
    generalize H1 = H at hP hS ⊢
    obtain rfl : r4 = p3.1 := hw
    refine lv_pop hx hb dX12_block_39 rfl ?_
    refine lv_aload_n hx hb dX12_block_40 rfl (lv_at hl 0 rfl) ?_
    refine lv_aload_n hx hb dX12_block_41 rfl (lv_at hl 0 rfl) ?_
    refine rG_66 hx hb hts i_X12_block_X12 hown hK hP (hts (.fieldLink RX12 180 "StatementRules2Model" "fp" "[I") k_X12_block_fieldLink_RX12_180_SRModel_fp_I) dX12_block_42 ?_
    refine lv_iload_n hx hb dX12_block_45 rfl (lv_at hl 1 rfl) ?_
    refine rL_66 (v := (p3.2.a 66 ((x1 : Int32).toNatClampNeg))) hx hb hK hP b1 dX12_block_46 rfl ?_
    refine rP_38 hx hb hts i_X12_block_X12 hown hK hP hD hS (hts (.fieldLink RX12 361 "StatementRules2Model" "seen" "I") k_X12_block_fieldLink_RX12_361_SRModel_seen_I) dX12_block_47 (fun H locs hP hD hS => ?_)
    refine lv_aload_n hx hb dX12_block_50 rfl (lv_at hl 0 rfl) ?_
    refine lv_dup hx hb dX12_block_51 rfl ?_
    refine rG_63 (v := (p3.2.i 63)) hx hb hts i_X12_block_X12 hown hK hP (hts (.fieldLink RX12 387 "StatementRules2Model" "top" "I") k_X12_block_fieldLink_RX12_387_SRModel_top_I) dX12_block_52 rfl ?_
    refine lv_iconst (v := 1) hx hb dX12_block_55 (by decide) ?_
    refine lv_isub hx hb dX12_block_56 ?_
    refine rP_63 hx hb hts i_X12_block_X12 hown hK hP hD hS (hts (.fieldLink RX12 387 "StatementRules2Model" "top" "I") k_X12_block_fieldLink_RX12_387_SRModel_top_I) dX12_block_57 (fun H locs hP hD hS => ?_)
    obtain rfl := Option.some.inj hf
    exact W.vret hx hb hr (fun t ht hW => ⟨⟨(), rfl, trivial, by rw [ht]; exact hP, va_K.moved hW.alike hK, hD⟩, hS.F ht⟩) hS.2.2 dX12_block_60
  ·
    replace hf := (if_pos c2).symm.trans hf
    refine lv_aload_n hx hb dX12_block_9 rfl (lv_at hl 0 rfl) ?_
    refine lv_bipush (v := 123) hx hb dX12_block_10 (by decide) ?_
    obtain ⟨p5, hcp5, hf⟩ := hf_bind hf
    have hFc := r_free hD hS hA
    refine va_calli (va_runV (As := [.int 123]) (rest := []) ⟨hx, hb, hml, hown, hts⟩ (c_X12_open l dC dI _ Q N σ 123 p5 hcp5) (cwV 1 hts hX12_block_X12_open_v475 rfl rfl rfl (by decide +kernel) ⟨Nat.le_of_ble_eq_true rfl, Nat.le_of_ble_eq_true rfl⟩) ⟨zPre.blind, va_recv hK hP (ci := 11) (q0 := 0) rfl rfl, zPre.go hZ hP hK hD⟩ rfl rfl hl.1 rfl (lv_room (Nat.le_of_ble_eq_true rfl)) dX12_block_12 ⟨Nat.le_of_ble_eq_true rfl, Nat.le_of_ble_eq_true rfl⟩) hS (fun q _ h => hFc q h) hFc (fun r6 u9 t9 H1 locs ht hvm hw hB hz1 hk1 hS => ?_)
    obtain ⟨hP, hK1, hD1⟩ := hB
    rw [ht] at hP
    have hD := hD1.weaken (fun _ _ _ h => hFc _ h)
    generalize H1 = H at hP hS ⊢
    obtain rfl : r6 = p5.1 := hw
    refine lv_pop hx hb dX12_block_15 rfl ?_
    refine lv_aload_n hx hb dX12_block_16 rfl (lv_at hl 0 rfl) ?_
    refine rG_66 hx hb hts i_X12_block_X12 hown hK hP (hts (.fieldLink RX12 180 "StatementRules2Model" "fp" "[I") k_X12_block_fieldLink_RX12_180_SRModel_fp_I) dX12_block_17 ?_
    refine lv_iload_n hx hb dX12_block_20 rfl (lv_at hl 1 rfl) ?_
    refine lv_aload_n hx hb dX12_block_21 rfl (lv_at hl 0 rfl) ?_
    refine rG_38 (v := (p5.2.i 38)) hx hb hts i_X12_block_X12 hown hK hP (hts (.fieldLink RX12 361 "StatementRules2Model" "seen" "I") k_X12_block_fieldLink_RX12_361_SRModel_seen_I) dX12_block_22 rfl ?_
    refine rS_66 hx hb hK hP hD hS b1 dX12_block_25 (fun H locs hP hD hS => ?_)
    refine lv_aload_n hx hb dX12_block_26 rfl (lv_at hl 0 rfl) ?_
    refine lv_iconst (v := 1) hx hb dX12_block_27 (by decide) ?_
    refine lv_iconst (v := 1) hx hb dX12_block_28 (by decide) ?_
    obtain ⟨p7, hcp7, hf⟩ := hf_bind hf
    have hFc := r_free hD hS hA
    refine va_callv (va_runV (As := [.int 1, .int 1]) (rest := []) ⟨hx, hb, hml, hown, hts⟩ (c_X12_then l dC dI _ Q N (RS.setA p5.2 66 ((x1 : Int32).toNatClampNeg) (p5.2.i 38)) 1 1 p7 hcp7) (cwV 2 hts hX12_block_X12_then_v393 rfl rfl rfl (by decide +kernel) ⟨Nat.le_of_ble_eq_true rfl, Nat.le_of_ble_eq_true rfl⟩) ⟨zPre.blind, va_recv hK hP (ci := 11) (q0 := 0) rfl rfl, zPre.go hZ hP hK hD⟩ rfl rfl hl.1 rfl (lv_room (Nat.le_of_ble_eq_true rfl)) dX12_block_29 ⟨Nat.le_of_ble_eq_true rfl, Nat.le_of_ble_eq_true rfl⟩) hS (fun q _ h => hFc q h) hFc (fun u9 t9 H1 locs ht hvm hw hB hz1 hk1 hS => ?_)
    obtain ⟨hP, hK1, hD1⟩ := hB
    rw [ht] at hP
    have hD := hD1.weaken (fun _ _ _ h => hFc _ h)
    generalize H1 = H at hP hS ⊢
    obtain rfl := Option.some.inj hf
    exact W.vret hx hb hr (fun t ht hW => ⟨⟨(), rfl, trivial, by rw [ht]; exact hP, va_K.moved hW.alike hK, hD⟩, hS.F ht⟩) hS.2.2 dX12_block_32
theorem k_X12_telling_fieldLink_RX12_307_SRModel_tok_I : Cond.fieldLink RX12 307 "StatementRules2Model" "tok" "I" ∈ wzX12_telling := List.mem_cons_of_mem _ (List.mem_append_left _ (List.mem_of_getElem? (i := 0) rfl))
theorem i_X12_telling_X12 : ∀ w ∈ wsX120, w ∈ wzX12_telling := fun _ h => List.mem_cons_of_mem _ (List.mem_append_right _ (List.mem_append_left _ (h)))
theorem k_X12_telling_fieldLink_RX12_327_SRModel_name_J : Cond.fieldLink RX12 327 "StatementRules2Model" "name" "J" ∈ wzX12_telling := List.mem_cons_of_mem _ (List.mem_append_left _ (List.mem_of_getElem? (i := 1) rfl))
theorem k_X12_telling_fieldLink_RX12_500_SRModel_tellings_I : Cond.fieldLink RX12 500 "StatementRules2Model" "tellings" "I" ∈ wzX12_telling := List.mem_cons_of_mem _ (List.mem_append_left _ (List.mem_of_getElem? (i := 2) rfl))
theorem k_X12_telling_fieldLink_RX12_204_SRModel_fn_J : Cond.fieldLink RX12 204 "StatementRules2Model" "fn" "[J" ∈ wzX12_telling := List.mem_cons_of_mem _ (List.mem_append_left _ (List.mem_of_getElem? (i := 3) rfl))
theorem k_X12_telling_fieldLink_RX12_304_SRModel_from_I : Cond.fieldLink RX12 304 "StatementRules2Model" "from" "I" ∈ wzX12_telling := List.mem_cons_of_mem _ (List.mem_append_left _ (List.mem_of_getElem? (i := 4) rfl))
set_option maxHeartbeats 4000000 in
set_option maxRecDepth 100000 in
theorem j_X12_telling_22 {p : Program} {e : Env} {s : State} {m : MethodId} {args : Array Value} {below : List Frame} {meth : Method} {c : Code} {A : Nat → Prop} (l : Launch) (dC : Nat → ClassId) (dI : Nat → Nat → Nat) (Q : RQ) (N : Nat) (R : Int32 × RS) (hx : p.tables.exec = Jvm.exec) (hb : c.code = cX12_telling) (hr : meth.sig.returnType = (some .boolean)) (hml : c.maxLocals = 2) (hown : s.vm.findClass RX12 = some m.cls) (hts : ∀ w ∈ wzX12_telling, w.before args s = true) (hlocks : meth.locks = false) (hZ : zAMB s) (hA : ∀ q : Nat, s.heap.size ≤ q → A q) (hK : va_K (dC, dI) vwCl (rT Q) s) : ∀ (σ : RS) (x1 : Int32) (H : Heap) (locs : List Loc) (ls : Array Slot), f_X12_telling_22 N σ x1 = some R → va_P (dC, dI) vwCl (rW Q σ) H → va_D A (rW Q σ) → va_S A s.heap H locs → lv_has ls 2 [(0, .ref Q.h0), (1, .int x1)] → W p l e ({ frames := 4, cells := 0, slots := 0, locals := 240 }) s m args below meth c H locs 0 0 (MQ below (va_Qi (fun (r : Int32) (_ : Unit) => r = R.1) (fun (_ : Unit) (t : State) => zPost dC dI A (rW Q R.2) (rT Q) t) A) args s 0 0 A) (F0 m 22 ls []) := by
  intro σ x1 H locs ls hf hP hD hS hl
  unfold f_X12_telling_22 at hf
  refine lv_aload_n hx hb dX12_telling_22 rfl (lv_at hl 0 rfl) ?_
  refine lv_aload_n hx hb dX12_telling_23 rfl (lv_at hl 0 rfl) ?_
  refine rG_13 (v := σ.l) hx hb hts i_X12_telling_X12 hown hK hP (hts (.fieldLink RX12 327 "StatementRules2Model" "name" "J") k_X12_telling_fieldLink_RX12_327_SRModel_name_J) dX12_telling_24 rfl ?_
  obtain ⟨p5, hcp5, hf⟩ := hf_bind hf
  have hFc := r_free hD hS hA
  refine va_calli (va_runV (As := [.long σ.l]) (rest := []) ⟨hx, hb, hml, hown, hts⟩ (c_X12_seenAs l dC dI _ Q N σ σ.l p5 hcp5) (cwV 1 hts hX12_telling_X12_seenAs_v471 rfl rfl rfl (by decide +kernel) ⟨Nat.le_of_ble_eq_true rfl, Nat.le_of_ble_eq_true rfl⟩) ⟨zPre.blind, va_recv hK hP (ci := 11) (q0 := 0) rfl rfl, zPre.go hZ hP hK hD⟩ rfl rfl hl.1 rfl (lv_room (Nat.le_of_ble_eq_true rfl)) dX12_telling_27 ⟨Nat.le_of_ble_eq_true rfl, Nat.le_of_ble_eq_true rfl⟩) hS (fun q _ h => hFc q h) hFc (fun r6 u9 t9 H1 locs ht hvm hw hB hz1 hk1 hS => ?_)
  obtain ⟨hP, hK1, hD1⟩ := hB
  rw [ht] at hP
  have hD := hD1.weaken (fun _ _ _ h => hFc _ h)
  generalize H1 = H at hP hS ⊢
  obtain rfl : r6 = p5.1 := hw
  refine lv_if_lt (tgt := 44) hx hb dX12_telling_30 (by decide) (fun c7 => ?_) (fun c7 => ?_)
  ·
    replace hf := (if_pos c7).symm.trans hf
    refine lv_aload_n hx hb dX12_telling_44 rfl (lv_at hl 0 rfl) ?_
    refine lv_dup hx hb dX12_telling_45 rfl ?_
    refine rG_54 (v := (p5.2.i 54)) hx hb hts i_X12_telling_X12 hown hK hP (hts (.fieldLink RX12 500 "StatementRules2Model" "tellings" "I") k_X12_telling_fieldLink_RX12_500_SRModel_tellings_I) dX12_telling_46 rfl ?_
    refine lv_iconst (v := 1) hx hb dX12_telling_49 (by decide) ?_
    refine lv_iadd hx hb dX12_telling_50 ?_
    refine rP_54 hx hb hts i_X12_telling_X12 hown hK hP hD hS (hts (.fieldLink RX12 500 "StatementRules2Model" "tellings" "I") k_X12_telling_fieldLink_RX12_500_SRModel_tellings_I) dX12_telling_51 (fun H locs hP hD hS => ?_)
    refine lv_aload_n hx hb dX12_telling_54 rfl (lv_at hl 0 rfl) ?_
    refine rG_74 hx hb hts i_X12_telling_X12 hown hK hP (hts (.fieldLink RX12 204 "StatementRules2Model" "fn" "[J") k_X12_telling_fieldLink_RX12_204_SRModel_fn_J) dX12_telling_55 ?_
    refine lv_iload_n hx hb dX12_telling_58 rfl (lv_at hl 1 rfl) ?_
    refine lv_aload_n hx hb dX12_telling_59 rfl (lv_at hl 0 rfl) ?_
    refine rG_13 (v := p5.2.l) hx hb hts i_X12_telling_X12 hown hK hP (hts (.fieldLink RX12 327 "StatementRules2Model" "name" "J") k_X12_telling_fieldLink_RX12_327_SRModel_name_J) dX12_telling_60 rfl ?_
    obtain ⟨b8, hf⟩ := hf_ite hf
    refine rS_74 hx hb hK hP hD hS b8 dX12_telling_63 (fun H locs hP hD hS => ?_)
    refine lv_aload_n hx hb dX12_telling_64 rfl (lv_at hl 0 rfl) ?_
    obtain ⟨p9, hcp9, hf⟩ := hf_bind hf
    have hFc := r_free hD hS hA
    refine va_callv (va_runV (As := []) (rest := []) ⟨hx, hb, hml, hown, hts⟩ (c_X12_next l dC dI _ Q N (RS.setB (RS.setI p5.2 54 ((p5.2.i 54) + 1)) 74 ((x1 : Int32).toNatClampNeg) p5.2.l) p9 hcp9) (cwV 0 hts hX12_telling_X12_next_v345 rfl rfl rfl (by decide +kernel) ⟨Nat.le_of_ble_eq_true rfl, Nat.le_of_ble_eq_true rfl⟩) ⟨zPre.blind, va_recv hK hP (ci := 11) (q0 := 0) rfl rfl, zPre.go hZ hP hK hD⟩ rfl rfl hl.1 rfl (lv_room (Nat.le_of_ble_eq_true rfl)) dX12_telling_65 ⟨Nat.le_of_ble_eq_true rfl, Nat.le_of_ble_eq_true rfl⟩) hS (fun q _ h => hFc q h) hFc (fun u9 t9 H1 locs ht hvm hw hB hz1 hk1 hS => ?_)
    obtain ⟨hP, hK1, hD1⟩ := hB
    rw [ht] at hP
    have hD := hD1.weaken (fun _ _ _ h => hFc _ h)
    generalize H1 = H at hP hS ⊢
    refine lv_iconst (v := 1) hx hb dX12_telling_68 (by decide) ?_
    obtain rfl := Option.some.inj hf
    exact W.zret (v := 1) hx hb hr (rfl) (fun t ht hW => ⟨⟨1, (), rfl, rfl, by rw [ht]; exact hP, va_K.moved hW.alike hK, hD⟩, hS.F ht⟩) hS.2.2 dX12_telling_69
  ·
    replace hf := (if_neg c7).symm.trans hf
    refine lv_aload_n hx hb dX12_telling_33 rfl (lv_at hl 0 rfl) ?_
    refine lv_iconst (v := 4) hx hb dX12_telling_34 (by decide) ?_
    refine lv_aload_n hx hb dX12_telling_35 rfl (lv_at hl 0 rfl) ?_
    refine rG_11 (v := (p5.2.i 11)) hx hb hts i_X12_telling_X12 hown hK hP (hts (.fieldLink RX12 304 "StatementRules2Model" "from" "I") k_X12_telling_fieldLink_RX12_304_SRModel_from_I) dX12_telling_36 rfl ?_
    obtain ⟨p11, hcp11, hf⟩ := hf_bind hf
    have hFc := r_free hD hS hA
    refine va_callv (va_runV (As := [.int 4, .int (p5.2.i 11)]) (rest := []) ⟨hx, hb, hml, hown, hts⟩ (c_X12_fail l dC dI _ Q N p5.2 4 (p5.2.i 11) p11 hcp11) (cwV 2 hts hX12_telling_X12_fail_v337 rfl rfl rfl (by decide +kernel) ⟨Nat.le_of_ble_eq_true rfl, Nat.le_of_ble_eq_true rfl⟩) ⟨zPre.blind, va_recv hK hP (ci := 11) (q0 := 0) rfl rfl, zPre.go hZ hP hK hD⟩ rfl rfl hl.1 rfl (lv_room (Nat.le_of_ble_eq_true rfl)) dX12_telling_39 ⟨Nat.le_of_ble_eq_true rfl, Nat.le_of_ble_eq_true rfl⟩) hS (fun q _ h => hFc q h) hFc (fun u9 t9 H1 locs ht hvm hw hB hz1 hk1 hS => ?_)
    obtain ⟨hP, hK1, hD1⟩ := hB
    rw [ht] at hP
    have hD := hD1.weaken (fun _ _ _ h => hFc _ h)
    generalize H1 = H at hP hS ⊢
    refine lv_iconst (v := 0) hx hb dX12_telling_42 (by decide) ?_
    obtain rfl := Option.some.inj hf
    exact W.zret (v := 0) hx hb hr (rfl) (fun t ht hW => ⟨⟨0, (), rfl, rfl, by rw [ht]; exact hP, va_K.moved hW.alike hK, hD⟩, hS.F ht⟩) hS.2.2 dX12_telling_43
set_option maxHeartbeats 4000000 in
set_option maxRecDepth 100000 in
theorem j_X12_telling_20 {p : Program} {e : Env} {s : State} {m : MethodId} {args : Array Value} {below : List Frame} {meth : Method} {c : Code} {A : Nat → Prop} (l : Launch) (dC : Nat → ClassId) (dI : Nat → Nat → Nat) (Q : RQ) (N : Nat) (R : Int32 × RS) (hx : p.tables.exec = Jvm.exec) (hb : c.code = cX12_telling) (hr : meth.sig.returnType = (some .boolean)) (hml : c.maxLocals = 2) (hown : s.vm.findClass RX12 = some m.cls) (hts : ∀ w ∈ wzX12_telling, w.before args s = true) (hlocks : meth.locks = false) (hZ : zAMB s) (hA : ∀ q : Nat, s.heap.size ≤ q → A q) (hK : va_K (dC, dI) vwCl (rT Q) s) : ∀ (σ : RS) (H : Heap) (locs : List Loc) (ls : Array Slot), f_X12_telling_20 N σ = some R → va_P (dC, dI) vwCl (rW Q σ) H → va_D A (rW Q σ) → va_S A s.heap H locs → lv_has ls 2 [] → W p l e ({ frames := 4, cells := 0, slots := 0, locals := 240 }) s m args below meth c H locs 0 0 (MQ below (va_Qi (fun (r : Int32) (_ : Unit) => r = R.1) (fun (_ : Unit) (t : State) => zPost dC dI A (rW Q R.2) (rT Q) t) A) args s 0 0 A) (F0 m 20 ls []) := by
  intro σ  H locs ls hf hP hD hS hl
  unfold f_X12_telling_20 at hf
  refine lv_iconst (v := 0) hx hb dX12_telling_20 (by decide) ?_
  obtain rfl := Option.some.inj hf
  exact W.zret (v := 0) hx hb hr (rfl) (fun t ht hW => ⟨⟨0, (), rfl, rfl, by rw [ht]; exact hP, va_K.moved hW.alike hK, hD⟩, hS.F ht⟩) hS.2.2 dX12_telling_21
set_option maxHeartbeats 4000000 in
set_option maxRecDepth 100000 in
theorem c_X12_telling (l : Launch) (dC : Nat → ClassId) (dI : Nat → Nat → Nat) (sz : Nat) (Q : RQ) (N : Nat) (σ : RS) (x1 : Int32) (R : Int32 × RS) (hf : f_X12_telling N σ x1 = some R) : Met l yX12_telling wzX12_telling ({ frames := 4, cells := 0, slots := 0, locals := 240 }) (va_Pc [.ref Q.h0, .int x1] (zPre dC dI sz (rW Q σ) (rT Q))) (va_Qi (fun (r : Int32) (_ : Unit) => r = R.1) (fun (_ : Unit) (t : State) => zPost dC dI (va_A (rW Q σ) sz) (rW Q R.2) (rT Q) t) (va_A (rW Q σ) sz)) 0 0 (va_A (rW Q σ) sz) := by
  refine Met.ofW (cc := cX12_telling) (maxL := 2) (ret := (some .boolean)) (by decide) rfl ?_
  intro p e s m args below meth c s₁ B hml hv
  obtain ⟨rfl, hsz, hZ, hP, hK, hD0⟩ := hv
  have hx := B.exec
  have hb := B.bytes
  have hr := B.returns
  have hts := atoms_spec (ws := wzX12_telling) B.pre
  have hown : s.vm.findClass RX12 = some m.cls := findClass_of_methodNamed B.named
  have hlocks := B.notSynchronized
  subst hsz
  have hD := hD0.self (sz := s.heap.size)
  generalize hAe : va_A (rW Q σ) s.heap.size = A at hD ⊢
  have hA : ∀ q : Nat, s.heap.size ≤ q → A q := fun q h => by rw [← hAe]; exact Or.inr h
  have hS : va_S A s.heap s.heap [] := va_S.rf
  have hl := lv_entry ([.ref Q.h0, .int x1]) (n := 2) (Nat.le_of_ble_eq_true rfl)
  rw [lg_entry_eq]
  generalize (lg_sl ([.ref Q.h0, .int x1]) ++ List.replicate (2 - (lg_sl ([.ref Q.h0, .int x1])).length) Slot.unset).toArray = ls at hl ⊢
  have hl : lv_has ls 2 [(0, .ref Q.h0), (1, .int x1)] := hl
  unfold f_X12_telling at hf
  refine lv_aload_n hx hb dX12_telling_0 rfl (lv_at hl 0 rfl) ?_
  refine lv_aload_n hx hb dX12_telling_1 rfl (lv_at hl 0 rfl) ?_
  refine rG_10 (v := (σ.i 10)) hx hb hts i_X12_telling_X12 hown hK hP (hts (.fieldLink RX12 307 "StatementRules2Model" "tok" "I") k_X12_telling_fieldLink_RX12_307_SRModel_tok_I) dX12_telling_2 rfl ?_
  refine lv_iconst (v := 2) hx hb dX12_telling_5 (by decide) ?_
  refine lv_icmp_ne (tgt := 13) hx hb dX12_telling_6 (by decide) (fun c1 => ?_) (fun c1 => ?_)
  ·
    replace hf := (if_neg c1).symm.trans hf
    refine lv_iconst (v := 0) hx hb dX12_telling_13 (by decide) ?_
    obtain ⟨p2, hcp2, hf⟩ := hf_bind hf
    have hFc := r_free hD hS hA
    refine va_calli (va_runV (As := [.int 0]) (rest := []) ⟨hx, hb, hml, hown, hts⟩ (c_X12_can l dC dI _ Q N σ 0 p2 hcp2) (cwV 1 hts hX12_telling_X12_can_v341 rfl rfl rfl (by decide +kernel) ⟨Nat.le_of_ble_eq_true rfl, Nat.le_of_ble_eq_true rfl⟩) ⟨zPre.blind, va_recv hK hP (ci := 11) (q0 := 0) rfl rfl, zPre.go hZ hP hK hD⟩ rfl rfl hl.1 rfl (lv_room (Nat.le_of_ble_eq_true rfl)) dX12_telling_14 ⟨Nat.le_of_ble_eq_true rfl, Nat.le_of_ble_eq_true rfl⟩) hS (fun q _ h => hFc q h) hFc (fun r3 u9 t9 H1 locs ht hvm hw hB hz1 hk1 hS => ?_)
    obtain ⟨hP, hK1, hD1⟩ := hB
    rw [ht] at hP
    have hD := hD1.weaken (fun _ _ _ h => hFc _ h)
    generalize H1 = H at hP hS ⊢
    obtain rfl : r3 = p2.1 := hw
    refine lv_if_ne (tgt := 22) hx hb dX12_telling_17 (by decide) (fun c4 => ?_) (fun c4 => ?_)
    ·
      replace hf := (if_neg c4).symm.trans hf
      exact j_X12_telling_22 l dC dI Q N R hx hb hr hml hown hts hlocks hZ hA hK p2.2 x1 _ _ _ hf hP hD hS (lv_sub hl [0, 1] rfl)
    ·
      replace hf := (if_pos c4).symm.trans hf
      exact j_X12_telling_20 l dC dI Q N R hx hb hr hml hown hts hlocks hZ hA hK p2.2 _ _ _ hf hP hD hS (lv_sub hl [] rfl)
  ·
    replace hf := (if_pos c1).symm.trans hf
    refine lv_iconst (v := 1) hx hb dX12_telling_9 (by decide) ?_
    refine lv_goto (tgt := 14) hx hb dX12_telling_10 (by decide) ?_
    obtain ⟨p13, hcp13, hf⟩ := hf_bind hf
    have hFc := r_free hD hS hA
    refine va_calli (va_runV (As := [.int 1]) (rest := []) ⟨hx, hb, hml, hown, hts⟩ (c_X12_can l dC dI _ Q N σ 1 p13 hcp13) (cwV 1 hts hX12_telling_X12_can_v341 rfl rfl rfl (by decide +kernel) ⟨Nat.le_of_ble_eq_true rfl, Nat.le_of_ble_eq_true rfl⟩) ⟨zPre.blind, va_recv hK hP (ci := 11) (q0 := 0) rfl rfl, zPre.go hZ hP hK hD⟩ rfl rfl hl.1 rfl (lv_room (Nat.le_of_ble_eq_true rfl)) dX12_telling_14 ⟨Nat.le_of_ble_eq_true rfl, Nat.le_of_ble_eq_true rfl⟩) hS (fun q _ h => hFc q h) hFc (fun r14 u9 t9 H1 locs ht hvm hw hB hz1 hk1 hS => ?_)
    obtain ⟨hP, hK1, hD1⟩ := hB
    rw [ht] at hP
    have hD := hD1.weaken (fun _ _ _ h => hFc _ h)
    generalize H1 = H at hP hS ⊢
    obtain rfl : r14 = p13.1 := hw
    refine lv_if_ne (tgt := 22) hx hb dX12_telling_17 (by decide) (fun c15 => ?_) (fun c15 => ?_)
    ·
      replace hf := (if_neg c15).symm.trans hf
      exact j_X12_telling_22 l dC dI Q N R hx hb hr hml hown hts hlocks hZ hA hK p13.2 x1 _ _ _ hf hP hD hS (lv_sub hl [0, 1] rfl)
    ·
      replace hf := (if_pos c15).symm.trans hf
      exact j_X12_telling_20 l dC dI Q N R hx hb hr hml hown hts hlocks hZ hA hK p13.2 _ _ _ hf hP hD hS (lv_sub hl [] rfl)
theorem k_X12_tell_fieldLink_RX12_177_SRModel_fs_I : Cond.fieldLink RX12 177 "StatementRules2Model" "fs" "[I" ∈ wzX12_tell := List.mem_cons_of_mem _ (List.mem_append_left _ (List.mem_of_getElem? (i := 0) rfl))
theorem i_X12_tell_X12 : ∀ w ∈ wsX120, w ∈ wzX12_tell := fun _ h => List.mem_cons_of_mem _ (List.mem_append_right _ (List.mem_append_left _ (h)))
theorem k_X12_tell_fieldLink_RX12_204_SRModel_fn_J : Cond.fieldLink RX12 204 "StatementRules2Model" "fn" "[J" ∈ wzX12_tell := List.mem_cons_of_mem _ (List.mem_append_left _ (List.mem_of_getElem? (i := 1) rfl))
theorem k_X12_tell_fieldLink_RX12_291_SRModel_fault_I : Cond.fieldLink RX12 291 "StatementRules2Model" "fault" "I" ∈ wzX12_tell := List.mem_cons_of_mem _ (List.mem_append_left _ (List.mem_of_getElem? (i := 2) rfl))
set_option maxHeartbeats 4000000 in
set_option maxRecDepth 100000 in
theorem c_X12_tell (l : Launch) (dC : Nat → ClassId) (dI : Nat → Nat → Nat) (sz : Nat) (Q : RQ) (N : Nat) (σ : RS) (x1 : Int32) (R : RS) (hf : f_X12_tell N σ x1 = some R) : Met l yX12_tell wzX12_tell ({ frames := 5, cells := 0, slots := 0, locals := 300 }) (va_Pc [.ref Q.h0, .int x1] (zPre dC dI sz (rW Q σ) (rT Q))) (va_Qv (fun (_ : Unit) => True) (fun (_ : Unit) (t : State) => zPost dC dI (va_A (rW Q σ) sz) (rW Q R) (rT Q) t) (va_A (rW Q σ) sz)) 0 0 (va_A (rW Q σ) sz) := by
  refine Met.ofW (cc := cX12_tell) (maxL := 2) (ret := none) (by decide) rfl ?_
  intro p e s m args below meth c s₁ B hml hv
  obtain ⟨rfl, hsz, hZ, hP, hK, hD0⟩ := hv
  have hx := B.exec
  have hb := B.bytes
  have hr := B.returns
  have hts := atoms_spec (ws := wzX12_tell) B.pre
  have hown : s.vm.findClass RX12 = some m.cls := findClass_of_methodNamed B.named
  have hlocks := B.notSynchronized
  subst hsz
  have hD := hD0.self (sz := s.heap.size)
  generalize hAe : va_A (rW Q σ) s.heap.size = A at hD ⊢
  have hA : ∀ q : Nat, s.heap.size ≤ q → A q := fun q h => by rw [← hAe]; exact Or.inr h
  have hS : va_S A s.heap s.heap [] := va_S.rf
  have hl := lv_entry ([.ref Q.h0, .int x1]) (n := 2) (Nat.le_of_ble_eq_true rfl)
  rw [lg_entry_eq]
  generalize (lg_sl ([.ref Q.h0, .int x1]) ++ List.replicate (2 - (lg_sl ([.ref Q.h0, .int x1])).length) Slot.unset).toArray = ls at hl ⊢
  have hl : lv_has ls 2 [(0, .ref Q.h0), (1, .int x1)] := hl
  unfold f_X12_tell at hf
  refine lv_aload_n hx hb dX12_tell_0 rfl (lv_at hl 0 rfl) ?_
  refine rG_65 hx hb hts i_X12_tell_X12 hown hK hP (hts (.fieldLink RX12 177 "StatementRules2Model" "fs" "[I") k_X12_tell_fieldLink_RX12_177_SRModel_fs_I) dX12_tell_1 ?_
  refine lv_iload_n hx hb dX12_tell_4 rfl (lv_at hl 1 rfl) ?_
  obtain ⟨b1, hf⟩ := hf_ite hf
  refine rL_65 (v := (σ.a 65 ((x1 : Int32).toNatClampNeg))) hx hb hK hP b1 dX12_tell_5 rfl ?_
  refine lv_if_ne (tgt := 43) hx hb dX12_tell_6 (by decide) (fun c2 => ?_) (fun c2 => ?_)
  ·
    replace hf := (if_neg c2).symm.trans hf
    refine lv_aload_n hx hb dX12_tell_43 rfl (lv_at hl 0 rfl) ?_
    refine lv_iconst (v := 5) hx hb dX12_tell_44 (by decide) ?_
    refine lv_aload_n hx hb dX12_tell_45 rfl (lv_at hl 0 rfl) ?_
    refine lv_aload_n hx hb dX12_tell_46 rfl (lv_at hl 0 rfl) ?_
    refine rG_74 hx hb hts i_X12_tell_X12 hown hK hP (hts (.fieldLink RX12 204 "StatementRules2Model" "fn" "[J") k_X12_tell_fieldLink_RX12_204_SRModel_fn_J) dX12_tell_47 ?_
    refine lv_iload_n hx hb dX12_tell_50 rfl (lv_at hl 1 rfl) ?_
    refine rL_74 (v := (σ.b 74 ((x1 : Int32).toNatClampNeg))) hx hb hK hP b1 dX12_tell_51 rfl ?_
    refine lv_iconst (v := 0) hx hb dX12_tell_52 (by decide) ?_
    obtain ⟨p3, hcp3, hf⟩ := hf_bind hf
    have hFc := r_free hD hS hA
    refine va_calli (va_runV (As := [.long (σ.b 74 ((x1 : Int32).toNatClampNeg)), .int 0]) (rest := [.int 5, .ref Q.h0]) ⟨hx, hb, hml, hown, hts⟩ (c_X12_see l dC dI _ Q N σ (σ.b 74 ((x1 : Int32).toNatClampNeg)) 0 p3 hcp3) (cwV 2 hts hX12_tell_X12_see_v506 rfl rfl rfl (by decide +kernel) ⟨Nat.le_of_ble_eq_true rfl, Nat.le_of_ble_eq_true rfl⟩) ⟨zPre.blind, va_recv hK hP (ci := 11) (q0 := 0) rfl rfl, zPre.go hZ hP hK hD⟩ rfl rfl hl.1 rfl (lv_room (Nat.le_of_ble_eq_true rfl)) dX12_tell_53 ⟨Nat.le_of_ble_eq_true rfl, Nat.le_of_ble_eq_true rfl⟩) hS (fun q _ h => hFc q h) hFc (fun r4 u9 t9 H1 locs ht hvm hw hB hz1 hk1 hS => ?_)
    obtain ⟨hP, hK1, hD1⟩ := hB
    rw [ht] at hP
    have hD := hD1.weaken (fun _ _ _ h => hFc _ h)
    generalize H1 = H at hP hS ⊢
    obtain rfl : r4 = p3.1 := hw
    obtain ⟨p5, hcp5, hf⟩ := hf_bind hf
    have hFc := r_free hD hS hA
    refine va_calli (va_runV (As := [.int 5, .int p3.1]) (rest := []) ⟨hx, hb, hml, hown, hts⟩ (c_X12_emit l dC dI _ Q N p3.2 5 p3.1 p5 hcp5) (cwV 2 hts hX12_tell_X12_emit_v464 rfl rfl rfl (by decide +kernel) ⟨Nat.le_of_ble_eq_true rfl, Nat.le_of_ble_eq_true rfl⟩) ⟨zPre.blind, va_recv hK hP (ci := 11) (q0 := 0) rfl rfl, zPre.go hZ hP hK hD⟩ rfl rfl hl.1 rfl (lv_room (Nat.le_of_ble_eq_true rfl)) dX12_tell_56 ⟨Nat.le_of_ble_eq_true rfl, Nat.le_of_ble_eq_true rfl⟩) hS (fun q _ h => hFc q h) hFc (fun r6 u9 t9 H1 locs ht hvm hw hB hz1 hk1 hS => ?_)
    obtain ⟨hP, hK1, hD1⟩ := hB
    rw [ht] at hP
    have hD := hD1.weaken (fun _ _ _ h => hFc _ h)
    generalize H1 = H at hP hS ⊢
    obtain rfl : r6 = p5.1 := hw
    refine lv_pop hx hb dX12_tell_59 rfl ?_
    refine lv_aload_n hx hb dX12_tell_60 rfl (lv_at hl 0 rfl) ?_
    refine lv_bipush (v := 59) hx hb dX12_tell_61 (by decide) ?_
    obtain ⟨p7, hcp7, hf⟩ := hf_bind hf
    have hFc := r_free hD hS hA
    refine va_calli (va_runV (As := [.int 59]) (rest := []) ⟨hx, hb, hml, hown, hts⟩ (c_X12_need l dC dI _ Q N p5.2 59 p7 hcp7) (cwV 1 hts hX12_tell_X12_need_v355 rfl rfl rfl (by decide +kernel) ⟨Nat.le_of_ble_eq_true rfl, Nat.le_of_ble_eq_true rfl⟩) ⟨zPre.blind, va_recv hK hP (ci := 11) (q0 := 0) rfl rfl, zPre.go hZ hP hK hD⟩ rfl rfl hl.1 rfl (lv_room (Nat.le_of_ble_eq_true rfl)) dX12_tell_63 ⟨Nat.le_of_ble_eq_true rfl, Nat.le_of_ble_eq_true rfl⟩) hS (fun q _ h => hFc q h) hFc (fun r8 u9 t9 H1 locs ht hvm hw hB hz1 hk1 hS => ?_)
    obtain ⟨hP, hK1, hD1⟩ := hB
    rw [ht] at hP
    have hD := hD1.weaken (fun _ _ _ h => hFc _ h)
    generalize H1 = H at hP hS ⊢
    obtain rfl : r8 = p7.1 := hw
    refine lv_pop hx hb dX12_tell_66 rfl ?_
    refine lv_aload_n hx hb dX12_tell_67 rfl (lv_at hl 0 rfl) ?_
    refine lv_iconst (v := 1) hx hb dX12_tell_68 (by decide) ?_
    obtain ⟨p9, hcp9, hf⟩ := hf_bind hf
    have hFc := r_free hD hS hA
    refine va_callv (va_runV (As := [.int 1]) (rest := []) ⟨hx, hb, hml, hown, hts⟩ (c_X12_over l dC dI _ Q N p7.2 1 p9 hcp9) (cwV 1 hts hX12_tell_X12_over_v490 rfl rfl rfl (by decide +kernel) ⟨Nat.le_of_ble_eq_true rfl, Nat.le_of_ble_eq_true rfl⟩) ⟨zPre.blind, va_recv hK hP (ci := 11) (q0 := 0) rfl rfl, zPre.go hZ hP hK hD⟩ rfl rfl hl.1 rfl (lv_room (Nat.le_of_ble_eq_true rfl)) dX12_tell_69 ⟨Nat.le_of_ble_eq_true rfl, Nat.le_of_ble_eq_true rfl⟩) hS (fun q _ h => hFc q h) hFc (fun u9 t9 H1 locs ht hvm hw hB hz1 hk1 hS => ?_)
    obtain ⟨hP, hK1, hD1⟩ := hB
    rw [ht] at hP
    have hD := hD1.weaken (fun _ _ _ h => hFc _ h)
    generalize H1 = H at hP hS ⊢
    obtain rfl := Option.some.inj hf
    exact W.vret hx hb hr (fun t ht hW => ⟨⟨(), rfl, trivial, by rw [ht]; exact hP, va_K.moved hW.alike hK, hD⟩, hS.F ht⟩) hS.2.2 dX12_tell_72
  ·
    replace hf := (if_pos c2).symm.trans hf
    refine lv_aload_n hx hb dX12_tell_9 rfl (lv_at hl 0 rfl) ?_
    obtain ⟨p11, hcp11, hf⟩ := hf_bind hf
    have hFc := r_free hD hS hA
    refine va_callv (va_runV (As := []) (rest := []) ⟨hx, hb, hml, hown, hts⟩ (c_X12_next l dC dI _ Q N σ p11 hcp11) (cwV 0 hts hX12_tell_X12_next_v345 rfl rfl rfl (by decide +kernel) ⟨Nat.le_of_ble_eq_true rfl, Nat.le_of_ble_eq_true rfl⟩) ⟨zPre.blind, va_recv hK hP (ci := 11) (q0 := 0) rfl rfl, zPre.go hZ hP hK hD⟩ rfl rfl hl.1 rfl (lv_room (Nat.le_of_ble_eq_true rfl)) dX12_tell_10 ⟨Nat.le_of_ble_eq_true rfl, Nat.le_of_ble_eq_true rfl⟩) hS (fun q _ h => hFc q h) hFc (fun u9 t9 H1 locs ht hvm hw hB hz1 hk1 hS => ?_)
    obtain ⟨hP, hK1, hD1⟩ := hB
    rw [ht] at hP
    have hD := hD1.weaken (fun _ _ _ h => hFc _ h)
    generalize H1 = H at hP hS ⊢
    refine lv_aload_n hx hb dX12_tell_13 rfl (lv_at hl 0 rfl) ?_
    refine rG_15 (v := (p11.i 15)) hx hb hts i_X12_tell_X12 hown hK hP (hts (.fieldLink RX12 291 "StatementRules2Model" "fault" "I") k_X12_tell_fieldLink_RX12_291_SRModel_fault_I) dX12_tell_14 rfl ?_
    refine lv_if_ne (tgt := 42) hx hb dX12_tell_17 (by decide) (fun c13 => ?_) (fun c13 => ?_)
    ·
      replace hf := (if_neg c13).symm.trans hf
      obtain rfl := Option.some.inj hf
      exact W.vret hx hb hr (fun t ht hW => ⟨⟨(), rfl, trivial, by rw [ht]; exact hP, va_K.moved hW.alike hK, hD⟩, hS.F ht⟩) hS.2.2 dX12_tell_42
    ·
      replace hf := (if_pos c13).symm.trans hf
      refine lv_aload_n hx hb dX12_tell_20 rfl (lv_at hl 0 rfl) ?_
      refine lv_iload_n hx hb dX12_tell_21 rfl (lv_at hl 1 rfl) ?_
      obtain ⟨p14, hcp14, hf⟩ := hf_bind hf
      have hFc := r_free hD hS hA
      refine va_calli (va_runV (As := [.int x1]) (rest := []) ⟨hx, hb, hml, hown, hts⟩ (c_X12_telling l dC dI _ Q N p11 x1 p14 hcp14) (cwV 1 hts hX12_tell_X12_telling_v503 rfl rfl rfl (by decide +kernel) ⟨Nat.le_of_ble_eq_true rfl, Nat.le_of_ble_eq_true rfl⟩) ⟨zPre.blind, va_recv hK hP (ci := 11) (q0 := 0) rfl rfl, zPre.go hZ hP hK hD⟩ rfl rfl hl.1 rfl (lv_room (Nat.le_of_ble_eq_true rfl)) dX12_tell_22 ⟨Nat.le_of_ble_eq_true rfl, Nat.le_of_ble_eq_true rfl⟩) hS (fun q _ h => hFc q h) hFc (fun r15 u9 t9 H1 locs ht hvm hw hB hz1 hk1 hS => ?_)
      obtain ⟨hP, hK1, hD1⟩ := hB
      rw [ht] at hP
      have hD := hD1.weaken (fun _ _ _ h => hFc _ h)
      generalize H1 = H at hP hS ⊢
      obtain rfl : r15 = p14.1 := hw
      refine lv_if_eq (tgt := 42) hx hb dX12_tell_25 (by decide) (fun c16 => ?_) (fun c16 => ?_)
      ·
        replace hf := (if_pos c16).symm.trans hf
        obtain rfl := Option.some.inj hf
        exact W.vret hx hb hr (fun t ht hW => ⟨⟨(), rfl, trivial, by rw [ht]; exact hP, va_K.moved hW.alike hK, hD⟩, hS.F ht⟩) hS.2.2 dX12_tell_42
      ·
        replace hf := (if_neg c16).symm.trans hf
        refine lv_aload_n hx hb dX12_tell_28 rfl (lv_at hl 0 rfl) ?_
        refine lv_bipush (v := 61) hx hb dX12_tell_29 (by decide) ?_
        obtain ⟨p17, hcp17, hf⟩ := hf_bind hf
        have hFc := r_free hD hS hA
        refine va_calli (va_runV (As := [.int 61]) (rest := []) ⟨hx, hb, hml, hown, hts⟩ (c_X12_need l dC dI _ Q N p14.2 61 p17 hcp17) (cwV 1 hts hX12_tell_X12_need_v355 rfl rfl rfl (by decide +kernel) ⟨Nat.le_of_ble_eq_true rfl, Nat.le_of_ble_eq_true rfl⟩) ⟨zPre.blind, va_recv hK hP (ci := 11) (q0 := 0) rfl rfl, zPre.go hZ hP hK hD⟩ rfl rfl hl.1 rfl (lv_room (Nat.le_of_ble_eq_true rfl)) dX12_tell_31 ⟨Nat.le_of_ble_eq_true rfl, Nat.le_of_ble_eq_true rfl⟩) hS (fun q _ h => hFc q h) hFc (fun r18 u9 t9 H1 locs ht hvm hw hB hz1 hk1 hS => ?_)
        obtain ⟨hP, hK1, hD1⟩ := hB
        rw [ht] at hP
        have hD := hD1.weaken (fun _ _ _ h => hFc _ h)
        generalize H1 = H at hP hS ⊢
        obtain rfl : r18 = p17.1 := hw
        refine lv_pop hx hb dX12_tell_34 rfl ?_
        refine lv_aload_n hx hb dX12_tell_35 rfl (lv_at hl 0 rfl) ?_
        refine lv_iconst (v := 1) hx hb dX12_tell_36 (by decide) ?_
        refine lv_bipush (v := 16) hx hb dX12_tell_37 (by decide) ?_
        obtain ⟨p19, hcp19, hf⟩ := hf_bind hf
        have hFc := r_free hD hS hA
        refine va_callv (va_runV (As := [.int 1, .int 16]) (rest := []) ⟨hx, hb, hml, hown, hts⟩ (c_X12_then l dC dI _ Q N p17.2 1 16 p19 hcp19) (cwV 2 hts hX12_tell_X12_then_v393 rfl rfl rfl (by decide +kernel) ⟨Nat.le_of_ble_eq_true rfl, Nat.le_of_ble_eq_true rfl⟩) ⟨zPre.blind, va_recv hK hP (ci := 11) (q0 := 0) rfl rfl, zPre.go hZ hP hK hD⟩ rfl rfl hl.1 rfl (lv_room (Nat.le_of_ble_eq_true rfl)) dX12_tell_39 ⟨Nat.le_of_ble_eq_true rfl, Nat.le_of_ble_eq_true rfl⟩) hS (fun q _ h => hFc q h) hFc (fun u9 t9 H1 locs ht hvm hw hB hz1 hk1 hS => ?_)
        obtain ⟨hP, hK1, hD1⟩ := hB
        rw [ht] at hP
        have hD := hD1.weaken (fun _ _ _ h => hFc _ h)
        generalize H1 = H at hP hS ⊢
        obtain rfl := Option.some.inj hf
        exact W.vret hx hb hr (fun t ht hW => ⟨⟨(), rfl, trivial, by rw [ht]; exact hP, va_K.moved hW.alike hK, hD⟩, hS.F ht⟩) hS.2.2 dX12_tell_42
theorem k_X12_label_fieldLink_RX12_367_SRModel_goals_I : Cond.fieldLink RX12 367 "StatementRules2Model" "goals" "I" ∈ wzX12_label := List.mem_cons_of_mem _ (List.mem_append_left _ (List.mem_of_getElem? (i := 0) rfl))
theorem i_X12_label_X12 : ∀ w ∈ wsX120, w ∈ wzX12_label := fun _ h => List.mem_cons_of_mem _ (List.mem_append_right _ (List.mem_append_left _ (h)))
theorem k_X12_label_fieldLink_RX12_180_SRModel_fp_I : Cond.fieldLink RX12 180 "StatementRules2Model" "fp" "[I" ∈ wzX12_label := List.mem_cons_of_mem _ (List.mem_append_left _ (List.mem_of_getElem? (i := 1) rfl))
theorem k_X12_label_fieldLink_RX12_307_SRModel_tok_I : Cond.fieldLink RX12 307 "StatementRules2Model" "tok" "I" ∈ wzX12_label := List.mem_cons_of_mem _ (List.mem_append_left _ (List.mem_of_getElem? (i := 2) rfl))
theorem k_X12_label_fieldLink_RX12_141_SRModel_goalLoop_I : Cond.fieldLink RX12 141 "StatementRules2Model" "goalLoop" "[I" ∈ wzX12_label := List.mem_cons_of_mem _ (List.mem_append_left _ (List.mem_of_getElem? (i := 3) rfl))
theorem k_X12_label_fieldLink_RX12_135_SRModel_goalSort_I : Cond.fieldLink RX12 135 "StatementRules2Model" "goalSort" "[I" ∈ wzX12_label := List.mem_cons_of_mem _ (List.mem_append_left _ (List.mem_of_getElem? (i := 4) rfl))
theorem k_X12_label_fieldLink_RX12_138_SRModel_goalName_J : Cond.fieldLink RX12 138 "StatementRules2Model" "goalName" "[J" ∈ wzX12_label := List.mem_cons_of_mem _ (List.mem_append_left _ (List.mem_of_getElem? (i := 5) rfl))
set_option maxHeartbeats 4000000 in
set_option maxRecDepth 100000 in
theorem j_X12_label_188 {p : Program} {e : Env} {s : State} {m : MethodId} {args : Array Value} {below : List Frame} {meth : Method} {c : Code} {A : Nat → Prop} (l : Launch) (dC : Nat → ClassId) (dI : Nat → Nat → Nat) (Q : RQ) (N : Nat) (R : RS) (hx : p.tables.exec = Jvm.exec) (hb : c.code = cX12_label) (hr : meth.sig.returnType = none) (hml : c.maxLocals = 7) (hown : s.vm.findClass RX12 = some m.cls) (hts : ∀ w ∈ wzX12_label, w.before args s = true) (hlocks : meth.locks = false) (hZ : zAMB s) (hA : ∀ q : Nat, s.heap.size ≤ q → A q) (hK : va_K (dC, dI) vwCl (rT Q) s) : ∀ (σ : RS) (H : Heap) (locs : List Loc) (ls : Array Slot), f_X12_label_188 N σ = some R → va_P (dC, dI) vwCl (rW Q σ) H → va_D A (rW Q σ) → va_S A s.heap H locs → lv_has ls 7 [(0, .ref Q.h0)] → W p l e ({ frames := 4, cells := 0, slots := 0, locals := 240 }) s m args below meth c H locs 0 0 (MQ below (va_Qv (fun (_ : Unit) => True) (fun (_ : Unit) (t : State) => zPost dC dI A (rW Q R) (rT Q) t) A) args s 0 0 A) (F0 m 188 ls []) := by
  intro σ  H locs ls hf hP hD hS hl
  unfold f_X12_label_188 at hf
  refine lv_aload_n hx hb dX12_label_188 rfl (lv_at hl 0 rfl) ?_
  refine lv_iconst (v := 1) hx hb dX12_label_189 (by decide) ?_
  obtain ⟨p10, hcp10, hf⟩ := hf_bind hf
  have hFc := r_free hD hS hA
  refine va_callv (va_runV (As := [.int 1]) (rest := []) ⟨hx, hb, hml, hown, hts⟩ (c_X12_body l dC dI _ Q N σ 1 p10 hcp10) (cwV 1 hts hX12_label_X12_body_v521 rfl rfl rfl (by decide +kernel) ⟨Nat.le_of_ble_eq_true rfl, Nat.le_of_ble_eq_true rfl⟩) ⟨zPre.blind, va_recv hK hP (ci := 11) (q0 := 0) rfl rfl, zPre.go hZ hP hK hD⟩ rfl rfl hl.1 rfl (lv_room (Nat.le_of_ble_eq_true rfl)) dX12_label_190 ⟨Nat.le_of_ble_eq_true rfl, Nat.le_of_ble_eq_true rfl⟩) hS (fun q _ h => hFc q h) hFc (fun u9 t9 H1 locs ht hvm hw hB hz1 hk1 hS => ?_)
  obtain ⟨hP, hK1, hD1⟩ := hB
  rw [ht] at hP
  have hD := hD1.weaken (fun _ _ _ h => hFc _ h)
  generalize H1 = H at hP hS ⊢
  obtain rfl := Option.some.inj hf
  exact W.vret hx hb hr (fun t ht hW => ⟨⟨(), rfl, trivial, by rw [ht]; exact hP, va_K.moved hW.alike hK, hD⟩, hS.F ht⟩) hS.2.2 dX12_label_193
set_option maxHeartbeats 4000000 in
set_option maxRecDepth 100000 in
theorem j_X12_label_168 {p : Program} {e : Env} {s : State} {m : MethodId} {args : Array Value} {below : List Frame} {meth : Method} {c : Code} {A : Nat → Prop} (l : Launch) (dC : Nat → ClassId) (dI : Nat → Nat → Nat) (Q : RQ) (N : Nat) (R : RS) (hx : p.tables.exec = Jvm.exec) (hb : c.code = cX12_label) (hr : meth.sig.returnType = none) (hml : c.maxLocals = 7) (hown : s.vm.findClass RX12 = some m.cls) (hts : ∀ w ∈ wzX12_label, w.before args s = true) (hlocks : meth.locks = false) (hZ : zAMB s) (hA : ∀ q : Nat, s.heap.size ≤ q → A q) (hK : va_K (dC, dI) vwCl (rT Q) s) : ∀ (σ : RS) (H : Heap) (locs : List Loc) (ls : Array Slot), f_X12_label_168 N σ = some R → va_P (dC, dI) vwCl (rW Q σ) H → va_D A (rW Q σ) → va_S A s.heap H locs → lv_has ls 7 [(0, .ref Q.h0)] → W p l e ({ frames := 4, cells := 0, slots := 0, locals := 240 }) s m args below meth c H locs 0 0 (MQ below (va_Qv (fun (_ : Unit) => True) (fun (_ : Unit) (t : State) => zPost dC dI A (rW Q R) (rT Q) t) A) args s 0 0 A) (F0 m 168 ls []) := by
  intro σ  H locs ls hf hP hD hS hl
  unfold f_X12_label_168 at hf
  refine lv_goto (tgt := 188) hx hb dX12_label_168 (by decide) ?_
  exact j_X12_label_188 l dC dI Q N R hx hb hr hml hown hts hlocks hZ hA hK σ _ _ _ hf hP hD hS (lv_sub hl [0] rfl)
set_option maxHeartbeats 4000000 in
set_option maxRecDepth 100000 in
theorem j_X12_label_125 {p : Program} {e : Env} {s : State} {m : MethodId} {args : Array Value} {below : List Frame} {meth : Method} {c : Code} {A : Nat → Prop} (l : Launch) (dC : Nat → ClassId) (dI : Nat → Nat → Nat) (Q : RQ) (N : Nat) (R : RS) (hx : p.tables.exec = Jvm.exec) (hb : c.code = cX12_label) (hr : meth.sig.returnType = none) (hml : c.maxLocals = 7) (hown : s.vm.findClass RX12 = some m.cls) (hts : ∀ w ∈ wzX12_label, w.before args s = true) (hlocks : meth.locks = false) (hZ : zAMB s) (hA : ∀ q : Nat, s.heap.size ≤ q → A q) (hK : va_K (dC, dI) vwCl (rT Q) s) : ∀ (n9 : Nat), ∀ (σ : RS) (x6 : Int32) (H : Heap) (locs : List Loc) (ls : Array Slot), f_X12_label_125 N n9 σ x6 = some R → va_P (dC, dI) vwCl (rW Q σ) H → va_D A (rW Q σ) → va_S A s.heap H locs → lv_has ls 7 [(0, .ref Q.h0), (6, .int x6)] → W p l e ({ frames := 4, cells := 0, slots := 0, locals := 240 }) s m args below meth c H locs 0 0 (MQ below (va_Qv (fun (_ : Unit) => True) (fun (_ : Unit) (t : State) => zPost dC dI A (rW Q R) (rT Q) t) A) args s 0 0 A) (F0 m 125 ls []) := by
  intro n9
  induction n9 with
  | zero => intro σ x6 H locs ls hf; exact absurd hf (by intro h9; cases h9)
  | succ n9 ih =>
    intro σ x6 H locs ls hf hP hD hS hl
    replace hf : b_X12_label_125 N (f_X12_label_125 N n9) σ x6 = some R := hf
    unfold b_X12_label_125 at hf
    refine lv_iload hx hb dX12_label_125 (lv_at hl 1 rfl) ?_
    refine lv_if_lt (tgt := 168) hx hb dX12_label_127 (by decide) (fun c9 => ?_) (fun c9 => ?_)
    ·
      replace hf := (if_pos c9).symm.trans hf
      exact j_X12_label_168 l dC dI Q N R hx hb hr hml hown hts hlocks hZ hA hK σ _ _ _ hf hP hD hS (lv_sub hl [0] rfl)
    ·
      replace hf := (if_neg c9).symm.trans hf
      refine lv_aload_n hx hb dX12_label_130 rfl (lv_at hl 0 rfl) ?_
      refine rG_44 hx hb hts i_X12_label_X12 hown hK hP (hts (.fieldLink RX12 135 "StatementRules2Model" "goalSort" "[I") k_X12_label_fieldLink_RX12_135_SRModel_goalSort_I) dX12_label_131 ?_
      refine lv_iload hx hb dX12_label_134 (lv_at hl 1 rfl) ?_
      obtain ⟨b12, hf⟩ := hf_ite hf
      refine rL_44 (v := (σ.a 44 ((x6 : Int32).toNatClampNeg))) hx hb hK hP b12 dX12_label_136 rfl ?_
      refine lv_iconst (v := 2) hx hb dX12_label_137 (by decide) ?_
      refine lv_icmp_ne (tgt := 168) hx hb dX12_label_138 (by decide) (fun c13 => ?_) (fun c13 => ?_)
      ·
        replace hf := (if_neg c13).symm.trans hf
        exact j_X12_label_168 l dC dI Q N R hx hb hr hml hown hts hlocks hZ hA hK σ _ _ _ hf hP hD hS (lv_sub hl [0] rfl)
      ·
        replace hf := (if_pos c13).symm.trans hf
        refine lv_aload_n hx hb dX12_label_141 rfl (lv_at hl 0 rfl) ?_
        refine rG_46 hx hb hts i_X12_label_X12 hown hK hP (hts (.fieldLink RX12 141 "StatementRules2Model" "goalLoop" "[I") k_X12_label_fieldLink_RX12_141_SRModel_goalLoop_I) dX12_label_142 ?_
        refine lv_iload hx hb dX12_label_145 (lv_at hl 1 rfl) ?_
        refine rL_46 (v := (σ.a 46 ((x6 : Int32).toNatClampNeg))) hx hb hK hP b12 dX12_label_147 rfl ?_
        refine lv_bipush (v := (-2)) hx hb dX12_label_148 (by decide) ?_
        refine lv_icmp_ne (tgt := 168) hx hb dX12_label_150 (by decide) (fun c14 => ?_) (fun c14 => ?_)
        ·
          replace hf := (if_neg c14).symm.trans hf
          exact j_X12_label_168 l dC dI Q N R hx hb hr hml hown hts hlocks hZ hA hK σ _ _ _ hf hP hD hS (lv_sub hl [0] rfl)
        ·
          replace hf := (if_pos c14).symm.trans hf
          refine lv_aload_n hx hb dX12_label_153 rfl (lv_at hl 0 rfl) ?_
          refine rG_46 hx hb hts i_X12_label_X12 hown hK hP (hts (.fieldLink RX12 141 "StatementRules2Model" "goalLoop" "[I") k_X12_label_fieldLink_RX12_141_SRModel_goalLoop_I) dX12_label_154 ?_
          refine lv_iload hx hb dX12_label_157 (lv_at hl 1 rfl) ?_
          refine lv_bipush (v := (-3)) hx hb dX12_label_159 (by decide) ?_
          refine rS_46 hx hb hK hP hD hS b12 dX12_label_161 (fun H locs hP hD hS => ?_)
          refine lv_iinc (v := (x6 + (-1))) (lv' := [(6, .int (x6 + (-1))), (0, .ref Q.h0)]) hx hb dX12_label_162 hl (k := 1) rfl rfl (by decide) rfl (fun ls hl => ?_)
          refine lv_goto (tgt := 125) hx hb dX12_label_165 (by decide) ?_
          exact ih (RS.setA σ 46 ((x6 : Int32).toNatClampNeg) (-3)) (x6 + (-1)) _ _ _ hf hP hD hS (lv_sub hl [1, 0] rfl)
set_option maxHeartbeats 4000000 in
set_option maxRecDepth 100000 in
theorem j_X12_label_110 {p : Program} {e : Env} {s : State} {m : MethodId} {args : Array Value} {below : List Frame} {meth : Method} {c : Code} {A : Nat → Prop} (l : Launch) (dC : Nat → ClassId) (dI : Nat → Nat → Nat) (Q : RQ) (N : Nat) (R : RS) (hx : p.tables.exec = Jvm.exec) (hb : c.code = cX12_label) (hr : meth.sig.returnType = none) (hml : c.maxLocals = 7) (hown : s.vm.findClass RX12 = some m.cls) (hts : ∀ w ∈ wzX12_label, w.before args s = true) (hlocks : meth.locks = false) (hZ : zAMB s) (hA : ∀ q : Nat, s.heap.size ≤ q → A q) (hK : va_K (dC, dI) vwCl (rT Q) s) : ∀ (σ : RS) (x5 : Int32) (H : Heap) (locs : List Loc) (ls : Array Slot), f_X12_label_110 N σ x5 = some R → va_P (dC, dI) vwCl (rW Q σ) H → va_D A (rW Q σ) → va_S A s.heap H locs → lv_has ls 7 [(0, .ref Q.h0), (5, .int x5)] → W p l e ({ frames := 4, cells := 0, slots := 0, locals := 240 }) s m args below meth c H locs 0 0 (MQ below (va_Qv (fun (_ : Unit) => True) (fun (_ : Unit) (t : State) => zPost dC dI A (rW Q R) (rT Q) t) A) args s 0 0 A) (F0 m 110 ls []) := by
  intro σ x5 H locs ls hf hP hD hS hl
  unfold f_X12_label_110 at hf
  refine lv_aload_n hx hb dX12_label_110 rfl (lv_at hl 0 rfl) ?_
  refine rG_46 hx hb hts i_X12_label_X12 hown hK hP (hts (.fieldLink RX12 141 "StatementRules2Model" "goalLoop" "[I") k_X12_label_fieldLink_RX12_141_SRModel_goalLoop_I) dX12_label_111 ?_
  refine lv_iload hx hb dX12_label_114 (lv_at hl 1 rfl) ?_
  refine lv_bipush (v := (-3)) hx hb dX12_label_116 (by decide) ?_
  obtain ⟨b8, hf⟩ := hf_ite hf
  refine rS_46 hx hb hK hP hD hS b8 dX12_label_118 (fun H locs hP hD hS => ?_)
  refine lv_iload hx hb dX12_label_119 (lv_at hl 1 rfl) ?_
  refine lv_iconst (v := 1) hx hb dX12_label_121 (by decide) ?_
  refine lv_isub hx hb dX12_label_122 ?_
  refine lv_istore (lv' := [(6, .int (x5 - 1)), (0, .ref Q.h0), (5, .int x5)]) hx hb dX12_label_123 hl (by decide) rfl (fun ls hl => ?_)
  exact j_X12_label_125 l dC dI Q N R hx hb hr hml hown hts hlocks hZ hA hK N (RS.setA σ 46 ((x5 : Int32).toNatClampNeg) (-3)) (x5 - 1) _ _ _ hf hP hD hS (lv_sub hl [1, 0] rfl)
set_option maxHeartbeats 4000000 in
set_option maxRecDepth 100000 in
theorem j_X12_label_60 {p : Program} {e : Env} {s : State} {m : MethodId} {args : Array Value} {below : List Frame} {meth : Method} {c : Code} {A : Nat → Prop} (l : Launch) (dC : Nat → ClassId) (dI : Nat → Nat → Nat) (Q : RQ) (N : Nat) (R : RS) (hx : p.tables.exec = Jvm.exec) (hb : c.code = cX12_label) (hr : meth.sig.returnType = none) (hml : c.maxLocals = 7) (hown : s.vm.findClass RX12 = some m.cls) (hts : ∀ w ∈ wzX12_label, w.before args s = true) (hlocks : meth.locks = false) (hZ : zAMB s) (hA : ∀ q : Nat, s.heap.size ≤ q → A q) (hK : va_K (dC, dI) vwCl (rT Q) s) : ∀ (σ : RS) (x1 : Int32) (x2 : Int64) (H : Heap) (locs : List Loc) (ls : Array Slot), f_X12_label_60 N σ x1 x2 = some R → va_P (dC, dI) vwCl (rW Q σ) H → va_D A (rW Q σ) → va_S A s.heap H locs → lv_has ls 7 [(0, .ref Q.h0), (1, .int x1), (2, .long x2)] → W p l e ({ frames := 4, cells := 0, slots := 0, locals := 240 }) s m args below meth c H locs 0 0 (MQ below (va_Qv (fun (_ : Unit) => True) (fun (_ : Unit) (t : State) => zPost dC dI A (rW Q R) (rT Q) t) A) args s 0 0 A) (F0 m 60 ls []) := by
  intro σ x1 x2 H locs ls hf hP hD hS hl
  unfold f_X12_label_60 at hf
  refine lv_aload_n hx hb dX12_label_60 rfl (lv_at hl 0 rfl) ?_
  refine lv_iconst (v := 2) hx hb dX12_label_61 (by decide) ?_
  refine lv_lload_n hx hb dX12_label_62 rfl (lv_at hl 2 rfl) ?_
  obtain ⟨p2, hcp2, hf⟩ := hf_bind hf
  have hFc := r_free hD hS hA
  refine va_calli (va_runV (As := [.int 2, .long x2]) (rest := []) ⟨hx, hb, hml, hown, hts⟩ (c_X12_goal l dC dI _ Q N σ 2 x2 p2 hcp2) (cwV 2 hts hX12_label_X12_goal_v373 rfl rfl rfl (by decide +kernel) ⟨Nat.le_of_ble_eq_true rfl, Nat.le_of_ble_eq_true rfl⟩) ⟨zPre.blind, va_recv hK hP (ci := 11) (q0 := 0) rfl rfl, zPre.go hZ hP hK hD⟩ rfl rfl hl.1 rfl (lv_room (Nat.le_of_ble_eq_true rfl)) dX12_label_63 ⟨Nat.le_of_ble_eq_true rfl, Nat.le_of_ble_eq_true rfl⟩) hS (fun q _ h => hFc q h) hFc (fun r3 u9 t9 H1 locs ht hvm hw hB hz1 hk1 hS => ?_)
  obtain ⟨hP, hK1, hD1⟩ := hB
  rw [ht] at hP
  have hD := hD1.weaken (fun _ _ _ h => hFc _ h)
  generalize H1 = H at hP hS ⊢
  obtain rfl : r3 = p2.1 := hw
  refine lv_istore (lv' := [(5, .int p2.1), (0, .ref Q.h0), (1, .int x1), (2, .long x2)]) hx hb dX12_label_66 hl (by decide) rfl (fun ls hl => ?_)
  refine lv_aload_n hx hb dX12_label_68 rfl (lv_at hl 1 rfl) ?_
  refine rG_66 hx hb hts i_X12_label_X12 hown hK hP (hts (.fieldLink RX12 180 "StatementRules2Model" "fp" "[I") k_X12_label_fieldLink_RX12_180_SRModel_fp_I) dX12_label_69 ?_
  refine lv_iload_n hx hb dX12_label_72 rfl (lv_at hl 2 rfl) ?_
  refine lv_iload hx hb dX12_label_73 (lv_at hl 0 rfl) ?_
  obtain ⟨b4, hf⟩ := hf_ite hf
  refine rS_66 hx hb hK hP hD hS b4 dX12_label_75 (fun H locs hP hD hS => ?_)
  refine lv_aload_n hx hb dX12_label_76 rfl (lv_at hl 1 rfl) ?_
  obtain ⟨p5, hcp5, hf⟩ := hf_bind hf
  have hFc := r_free hD hS hA
  refine va_callv (va_runV (As := []) (rest := []) ⟨hx, hb, hml, hown, hts⟩ (c_X12_next l dC dI _ Q N (RS.setA p2.2 66 ((x1 : Int32).toNatClampNeg) p2.1) p5 hcp5) (cwV 0 hts hX12_label_X12_next_v345 rfl rfl rfl (by decide +kernel) ⟨Nat.le_of_ble_eq_true rfl, Nat.le_of_ble_eq_true rfl⟩) ⟨zPre.blind, va_recv hK hP (ci := 11) (q0 := 0) rfl rfl, zPre.go hZ hP hK hD⟩ rfl rfl hl.1 rfl (lv_room (Nat.le_of_ble_eq_true rfl)) dX12_label_77 ⟨Nat.le_of_ble_eq_true rfl, Nat.le_of_ble_eq_true rfl⟩) hS (fun q _ h => hFc q h) hFc (fun u9 t9 H1 locs ht hvm hw hB hz1 hk1 hS => ?_)
  obtain ⟨hP, hK1, hD1⟩ := hB
  rw [ht] at hP
  have hD := hD1.weaken (fun _ _ _ h => hFc _ h)
  generalize H1 = H at hP hS ⊢
  refine lv_aload_n hx hb dX12_label_80 rfl (lv_at hl 1 rfl) ?_
  refine rG_10 (v := (p5.i 10)) hx hb hts i_X12_label_X12 hown hK hP (hts (.fieldLink RX12 307 "StatementRules2Model" "tok" "I") k_X12_label_fieldLink_RX12_307_SRModel_tok_I) dX12_label_81 rfl ?_
  refine lv_sipush (v := 415) hx hb dX12_label_84 (by decide) ?_
  refine lv_icmp_eq (tgt := 110) hx hb dX12_label_87 (by decide) (fun c7 => ?_) (fun c7 => ?_)
  ·
    replace hf := (if_pos c7).symm.trans hf
    exact j_X12_label_110 l dC dI Q N R hx hb hr hml hown hts hlocks hZ hA hK p5 p2.1 _ _ _ hf hP hD hS (lv_sub hl [1, 0] rfl)
  ·
    replace hf := (if_neg c7).symm.trans hf
    refine lv_aload_n hx hb dX12_label_90 rfl (lv_at hl 1 rfl) ?_
    refine rG_10 (v := (p5.i 10)) hx hb hts i_X12_label_X12 hown hK hP (hts (.fieldLink RX12 307 "StatementRules2Model" "tok" "I") k_X12_label_fieldLink_RX12_307_SRModel_tok_I) dX12_label_91 rfl ?_
    refine lv_sipush (v := 416) hx hb dX12_label_94 (by decide) ?_
    refine lv_icmp_eq (tgt := 110) hx hb dX12_label_97 (by decide) (fun c15 => ?_) (fun c15 => ?_)
    ·
      replace hf := (if_pos c15).symm.trans hf
      exact j_X12_label_110 l dC dI Q N R hx hb hr hml hown hts hlocks hZ hA hK p5 p2.1 _ _ _ hf hP hD hS (lv_sub hl [1, 0] rfl)
    ·
      replace hf := (if_neg c15).symm.trans hf
      refine lv_aload_n hx hb dX12_label_100 rfl (lv_at hl 1 rfl) ?_
      refine rG_10 (v := (p5.i 10)) hx hb hts i_X12_label_X12 hown hK hP (hts (.fieldLink RX12 307 "StatementRules2Model" "tok" "I") k_X12_label_fieldLink_RX12_307_SRModel_tok_I) dX12_label_101 rfl ?_
      refine lv_sipush (v := 417) hx hb dX12_label_104 (by decide) ?_
      refine lv_icmp_ne (tgt := 171) hx hb dX12_label_107 (by decide) (fun c16 => ?_) (fun c16 => ?_)
      ·
        replace hf := (if_neg c16).symm.trans hf
        refine lv_aload_n hx hb dX12_label_171 rfl (lv_at hl 1 rfl) ?_
        refine rG_10 (v := (p5.i 10)) hx hb hts i_X12_label_X12 hown hK hP (hts (.fieldLink RX12 307 "StatementRules2Model" "tok" "I") k_X12_label_fieldLink_RX12_307_SRModel_tok_I) dX12_label_172 rfl ?_
        refine lv_iconst (v := 2) hx hb dX12_label_175 (by decide) ?_
        refine lv_icmp_ne (tgt := 188) hx hb dX12_label_176 (by decide) (fun c17 => ?_) (fun c17 => ?_)
        ·
          replace hf := (if_neg c17).symm.trans hf
          exact j_X12_label_188 l dC dI Q N R hx hb hr hml hown hts hlocks hZ hA hK p5 _ _ _ hf hP hD hS (lv_sub hl [1] rfl)
        ·
          replace hf := (if_pos c17).symm.trans hf
          refine lv_aload_n hx hb dX12_label_179 rfl (lv_at hl 1 rfl) ?_
          refine rG_46 hx hb hts i_X12_label_X12 hown hK hP (hts (.fieldLink RX12 141 "StatementRules2Model" "goalLoop" "[I") k_X12_label_fieldLink_RX12_141_SRModel_goalLoop_I) dX12_label_180 ?_
          refine lv_iload hx hb dX12_label_183 (lv_at hl 0 rfl) ?_
          refine lv_bipush (v := (-2)) hx hb dX12_label_185 (by decide) ?_
          obtain ⟨b18, hf⟩ := hf_ite hf
          refine rS_46 hx hb hK hP hD hS b18 dX12_label_187 (fun H locs hP hD hS => ?_)
          exact j_X12_label_188 l dC dI Q N R hx hb hr hml hown hts hlocks hZ hA hK (RS.setA p5 46 ((p2.1 : Int32).toNatClampNeg) (-2)) _ _ _ hf hP hD hS (lv_sub hl [1] rfl)
      ·
        replace hf := (if_pos c16).symm.trans hf
        exact j_X12_label_110 l dC dI Q N R hx hb hr hml hown hts hlocks hZ hA hK p5 p2.1 _ _ _ hf hP hD hS (lv_sub hl [1, 0] rfl)
set_option maxHeartbeats 4000000 in
set_option maxRecDepth 100000 in
theorem j_X12_label_8 {p : Program} {e : Env} {s : State} {m : MethodId} {args : Array Value} {below : List Frame} {meth : Method} {c : Code} {A : Nat → Prop} (l : Launch) (dC : Nat → ClassId) (dI : Nat → Nat → Nat) (Q : RQ) (N : Nat) (R : RS) (hx : p.tables.exec = Jvm.exec) (hb : c.code = cX12_label) (hr : meth.sig.returnType = none) (hml : c.maxLocals = 7) (hown : s.vm.findClass RX12 = some m.cls) (hts : ∀ w ∈ wzX12_label, w.before args s = true) (hlocks : meth.locks = false) (hZ : zAMB s) (hA : ∀ q : Nat, s.heap.size ≤ q → A q) (hK : va_K (dC, dI) vwCl (rT Q) s) : ∀ (n9 : Nat), ∀ (σ : RS) (x1 : Int32) (x2 : Int64) (x4 : Int32) (x5 : Int32) (H : Heap) (locs : List Loc) (ls : Array Slot), f_X12_label_8 N n9 σ x1 x2 x4 x5 = some R → va_P (dC, dI) vwCl (rW Q σ) H → va_D A (rW Q σ) → va_S A s.heap H locs → lv_has ls 7 [(0, .ref Q.h0), (1, .int x1), (2, .long x2), (4, .int x4), (5, .int x5)] → W p l e ({ frames := 4, cells := 0, slots := 0, locals := 240 }) s m args below meth c H locs 0 0 (MQ below (va_Qv (fun (_ : Unit) => True) (fun (_ : Unit) (t : State) => zPost dC dI A (rW Q R) (rT Q) t) A) args s 0 0 A) (F0 m 8 ls []) := by
  intro n9
  induction n9 with
  | zero => intro σ x1 x2 x4 x5 H locs ls hf; exact absurd hf (by intro h9; cases h9)
  | succ n9 ih =>
    intro σ x1 x2 x4 x5 H locs ls hf hP hD hS hl
    replace hf : b_X12_label_8 N (f_X12_label_8 N n9) σ x1 x2 x4 x5 = some R := hf
    unfold b_X12_label_8 at hf
    refine lv_iload hx hb dX12_label_8 (lv_at hl 4 rfl) ?_
    refine lv_if_lt (tgt := 60) hx hb dX12_label_10 (by decide) (fun c1 => ?_) (fun c1 => ?_)
    ·
      replace hf := (if_pos c1).symm.trans hf
      exact j_X12_label_60 l dC dI Q N R hx hb hr hml hown hts hlocks hZ hA hK σ x1 x2 _ _ _ hf hP hD hS (lv_sub hl [0, 1, 2] rfl)
    ·
      replace hf := (if_neg c1).symm.trans hf
      refine lv_aload_n hx hb dX12_label_13 rfl (lv_at hl 0 rfl) ?_
      refine rG_44 hx hb hts i_X12_label_X12 hown hK hP (hts (.fieldLink RX12 135 "StatementRules2Model" "goalSort" "[I") k_X12_label_fieldLink_RX12_135_SRModel_goalSort_I) dX12_label_14 ?_
      refine lv_iload hx hb dX12_label_17 (lv_at hl 4 rfl) ?_
      obtain ⟨b19, hf⟩ := hf_ite hf
      refine rL_44 (v := (σ.a 44 ((x5 : Int32).toNatClampNeg))) hx hb hK hP b19 dX12_label_19 rfl ?_
      refine lv_iconst (v := 3) hx hb dX12_label_20 (by decide) ?_
      refine lv_icmp_eq (tgt := 60) hx hb dX12_label_21 (by decide) (fun c20 => ?_) (fun c20 => ?_)
      ·
        replace hf := (if_pos c20).symm.trans hf
        exact j_X12_label_60 l dC dI Q N R hx hb hr hml hown hts hlocks hZ hA hK σ x1 x2 _ _ _ hf hP hD hS (lv_sub hl [0, 1, 2] rfl)
      ·
        replace hf := (if_neg c20).symm.trans hf
        refine lv_aload_n hx hb dX12_label_24 rfl (lv_at hl 0 rfl) ?_
        refine rG_44 hx hb hts i_X12_label_X12 hown hK hP (hts (.fieldLink RX12 135 "StatementRules2Model" "goalSort" "[I") k_X12_label_fieldLink_RX12_135_SRModel_goalSort_I) dX12_label_25 ?_
        refine lv_iload hx hb dX12_label_28 (lv_at hl 4 rfl) ?_
        refine rL_44 (v := (σ.a 44 ((x5 : Int32).toNatClampNeg))) hx hb hK hP b19 dX12_label_30 rfl ?_
        refine lv_iconst (v := 2) hx hb dX12_label_31 (by decide) ?_
        refine lv_icmp_ne (tgt := 54) hx hb dX12_label_32 (by decide) (fun c21 => ?_) (fun c21 => ?_)
        ·
          replace hf := (if_neg c21).symm.trans hf
          refine lv_iinc (v := (x5 + (-1))) (lv' := [(5, .int (x5 + (-1))), (0, .ref Q.h0), (1, .int x1), (2, .long x2), (4, .int x4)]) hx hb dX12_label_54 hl (k := 4) rfl rfl (by decide) rfl (fun ls hl => ?_)
          refine lv_goto (tgt := 8) hx hb dX12_label_57 (by decide) ?_
          exact ih σ x1 x2 x4 (x5 + (-1)) _ _ _ hf hP hD hS (lv_sub hl [1, 2, 3, 4, 0] rfl)
        ·
          replace hf := (if_pos c21).symm.trans hf
          refine lv_aload_n hx hb dX12_label_35 rfl (lv_at hl 0 rfl) ?_
          refine rG_45 hx hb hts i_X12_label_X12 hown hK hP (hts (.fieldLink RX12 138 "StatementRules2Model" "goalName" "[J") k_X12_label_fieldLink_RX12_138_SRModel_goalName_J) dX12_label_36 ?_
          refine lv_iload hx hb dX12_label_39 (lv_at hl 4 rfl) ?_
          refine rL_45 (v := (σ.b 45 ((x5 : Int32).toNatClampNeg))) hx hb hK hP b19 dX12_label_41 rfl ?_
          refine lv_lload_n hx hb dX12_label_42 rfl (lv_at hl 2 rfl) ?_
          refine W.lcmp hx hb dX12_label_43 ?_
          refine lv_if_ne (tgt := 54) hx hb dX12_label_44 (by decide) (fun c22 => ?_) (fun c22 => ?_)
          ·
            replace hf := (if_neg c22).symm.trans hf
            refine lv_iinc (v := (x5 + (-1))) (lv' := [(5, .int (x5 + (-1))), (0, .ref Q.h0), (1, .int x1), (2, .long x2), (4, .int x4)]) hx hb dX12_label_54 hl (k := 4) rfl rfl (by decide) rfl (fun ls hl => ?_)
            refine lv_goto (tgt := 8) hx hb dX12_label_57 (by decide) ?_
            exact ih σ x1 x2 x4 (x5 + (-1)) _ _ _ hf hP hD hS (lv_sub hl [1, 2, 3, 4, 0] rfl)
          ·
            replace hf := (if_pos c22).symm.trans hf
            refine lv_aload_n hx hb dX12_label_47 rfl (lv_at hl 0 rfl) ?_
            refine lv_iconst (v := 4) hx hb dX12_label_48 (by decide) ?_
            refine lv_iload hx hb dX12_label_49 (lv_at hl 3 rfl) ?_
            obtain ⟨p23, hcp23, hf⟩ := hf_bind hf
            have hFc := r_free hD hS hA
            refine va_callv (va_runV (As := [.int 4, .int x4]) (rest := []) ⟨hx, hb, hml, hown, hts⟩ (c_X12_fail l dC dI _ Q N σ 4 x4 p23 hcp23) (cwV 2 hts hX12_label_X12_fail_v337 rfl rfl rfl (by decide +kernel) ⟨Nat.le_of_ble_eq_true rfl, Nat.le_of_ble_eq_true rfl⟩) ⟨zPre.blind, va_recv hK hP (ci := 11) (q0 := 0) rfl rfl, zPre.go hZ hP hK hD⟩ rfl rfl hl.1 rfl (lv_room (Nat.le_of_ble_eq_true rfl)) dX12_label_51 ⟨Nat.le_of_ble_eq_true rfl, Nat.le_of_ble_eq_true rfl⟩) hS (fun q _ h => hFc q h) hFc (fun u9 t9 H1 locs ht hvm hw hB hz1 hk1 hS => ?_)
            obtain ⟨hP, hK1, hD1⟩ := hB
            rw [ht] at hP
            have hD := hD1.weaken (fun _ _ _ h => hFc _ h)
            generalize H1 = H at hP hS ⊢
            refine lv_iinc (v := (x5 + (-1))) (lv' := [(5, .int (x5 + (-1))), (0, .ref Q.h0), (1, .int x1), (2, .long x2), (4, .int x4)]) hx hb dX12_label_54 hl (k := 4) rfl rfl (by decide) rfl (fun ls hl => ?_)
            refine lv_goto (tgt := 8) hx hb dX12_label_57 (by decide) ?_
            exact ih p23 x1 x2 x4 (x5 + (-1)) _ _ _ hf hP hD hS (lv_sub hl [1, 2, 3, 4, 0] rfl)
set_option maxHeartbeats 4000000 in
set_option maxRecDepth 100000 in
theorem c_X12_label (l : Launch) (dC : Nat → ClassId) (dI : Nat → Nat → Nat) (sz : Nat) (Q : RQ) (N : Nat) (σ : RS) (x1 : Int32) (x2 : Int64) (x4 : Int32) (R : RS) (hf : f_X12_label N σ x1 x2 x4 = some R) : Met l yX12_label wzX12_label ({ frames := 4, cells := 0, slots := 0, locals := 240 }) (va_Pc [.ref Q.h0, .int x1, .long x2, .int x4] (zPre dC dI sz (rW Q σ) (rT Q))) (va_Qv (fun (_ : Unit) => True) (fun (_ : Unit) (t : State) => zPost dC dI (va_A (rW Q σ) sz) (rW Q R) (rT Q) t) (va_A (rW Q σ) sz)) 0 0 (va_A (rW Q σ) sz) := by
  refine Met.ofW (cc := cX12_label) (maxL := 7) (ret := none) (by decide) rfl ?_
  intro p e s m args below meth c s₁ B hml hv
  obtain ⟨rfl, hsz, hZ, hP, hK, hD0⟩ := hv
  have hx := B.exec
  have hb := B.bytes
  have hr := B.returns
  have hts := atoms_spec (ws := wzX12_label) B.pre
  have hown : s.vm.findClass RX12 = some m.cls := findClass_of_methodNamed B.named
  have hlocks := B.notSynchronized
  subst hsz
  have hD := hD0.self (sz := s.heap.size)
  generalize hAe : va_A (rW Q σ) s.heap.size = A at hD ⊢
  have hA : ∀ q : Nat, s.heap.size ≤ q → A q := fun q h => by rw [← hAe]; exact Or.inr h
  have hS : va_S A s.heap s.heap [] := va_S.rf
  have hl := lv_entry ([.ref Q.h0, .int x1, .long x2, .int x4]) (n := 7) (Nat.le_of_ble_eq_true rfl)
  rw [lg_entry_eq]
  generalize (lg_sl ([.ref Q.h0, .int x1, .long x2, .int x4]) ++ List.replicate (7 - (lg_sl ([.ref Q.h0, .int x1, .long x2, .int x4])).length) Slot.unset).toArray = ls at hl ⊢
  have hl : lv_has ls 7 [(0, .ref Q.h0), (1, .int x1), (2, .long x2), (4, .int x4)] := hl
  unfold f_X12_label at hf
  refine lv_aload_n hx hb dX12_label_0 rfl (lv_at hl 0 rfl) ?_
  refine rG_43 (v := (σ.i 43)) hx hb hts i_X12_label_X12 hown hK hP (hts (.fieldLink RX12 367 "StatementRules2Model" "goals" "I") k_X12_label_fieldLink_RX12_367_SRModel_goals_I) dX12_label_1 rfl ?_
  refine lv_iconst (v := 1) hx hb dX12_label_4 (by decide) ?_
  refine lv_isub hx hb dX12_label_5 ?_
  refine lv_istore (lv' := [(5, .int ((σ.i 43) - 1)), (0, .ref Q.h0), (1, .int x1), (2, .long x2), (4, .int x4)]) hx hb dX12_label_6 hl (by decide) rfl (fun ls hl => ?_)
  exact j_X12_label_8 l dC dI Q N R hx hb hr hml hown hts hlocks hZ hA hK N σ x1 x2 x4 ((σ.i 43) - 1) _ _ _ hf hP hD hS (lv_sub hl [1, 2, 3, 4, 0] rfl)
