theorem k_X12_endTry_fieldLink_RX12_370_SRModel_depth_I : Cond.fieldLink RX12 370 "StatementRules2Model" "depth" "I" ∈ wzX12_endTry := List.mem_cons_of_mem _ (List.mem_append_left _ (List.mem_of_getElem? (i := 0) rfl))
theorem i_X12_endTry_X12 : ∀ w ∈ wsX120, w ∈ wzX12_endTry := fun _ h => List.mem_cons_of_mem _ (List.mem_append_right _ (List.mem_append_left _ (h)))
theorem k_X12_endTry_fieldLink_RX12_111_SRModel_tryEnd_I : Cond.fieldLink RX12 111 "StatementRules2Model" "tryEnd" "[I" ∈ wzX12_endTry := List.mem_cons_of_mem _ (List.mem_append_left _ (List.mem_of_getElem? (i := 1) rfl))
theorem k_X12_endTry_fieldLink_RX12_180_SRModel_fp_I : Cond.fieldLink RX12 180 "StatementRules2Model" "fp" "[I" ∈ wzX12_endTry := List.mem_cons_of_mem _ (List.mem_append_left _ (List.mem_of_getElem? (i := 2) rfl))
theorem k_X12_endTry_fieldLink_RX12_358_SRModel_codes_I : Cond.fieldLink RX12 358 "StatementRules2Model" "codes" "I" ∈ wzX12_endTry := List.mem_cons_of_mem _ (List.mem_append_left _ (List.mem_of_getElem? (i := 3) rfl))
theorem k_X12_endTry_fieldLink_RX12_186_SRModel_fr_I : Cond.fieldLink RX12 186 "StatementRules2Model" "fr" "[I" ∈ wzX12_endTry := List.mem_cons_of_mem _ (List.mem_append_left _ (List.mem_of_getElem? (i := 4) rfl))
set_option maxHeartbeats 4000000 in
set_option maxRecDepth 100000 in
theorem c_X12_endTry (l : Launch) (dC : Nat → ClassId) (dI : Nat → Nat → Nat) (sz : Nat) (Q : RQ) (N : Nat) (σ : RS) (x1 : Int32) (x2 : Int32) (R : RS) (hf : f_X12_endTry N σ x1 x2 = some R) : Met l yX12_endTry wzX12_endTry ({ frames := 3, cells := 0, slots := 0, locals := 180 }) (va_Pc [.ref Q.h0, .int x1, .int x2] (zPre dC dI sz (rW Q σ) (rT Q))) (va_Qv (fun (_ : Unit) => True) (fun (_ : Unit) (t : State) => zPost dC dI (va_A (rW Q σ) sz) (rW Q R) (rT Q) t) (va_A (rW Q σ) sz)) 0 0 (va_A (rW Q σ) sz) := by
  refine Met.ofW (cc := cX12_endTry) (maxL := 3) (ret := none) (by decide) rfl ?_
  intro p e s m args below meth c s₁ B hml hv
  obtain ⟨rfl, hsz, hZ, hP, hK, hD0⟩ := hv
  have hx := B.exec
  have hb := B.bytes
  have hr := B.returns
  have hts := atoms_spec (ws := wzX12_endTry) B.pre
  have hown : s.vm.findClass RX12 = some m.cls := findClass_of_methodNamed B.named
  have hlocks := B.notSynchronized
  subst hsz
  have hD := hD0.self (sz := s.heap.size)
  generalize hAe : va_A (rW Q σ) s.heap.size = A at hD ⊢
  have hA : ∀ q : Nat, s.heap.size ≤ q → A q := fun q h => by rw [← hAe]; exact Or.inr h
  have hS : va_S A s.heap s.heap [] := va_S.rf
  have hl := lv_entry ([.ref Q.h0, .int x1, .int x2]) (n := 3) (Nat.le_of_ble_eq_true rfl)
  rw [lg_entry_eq]
  generalize (lg_sl ([.ref Q.h0, .int x1, .int x2]) ++ List.replicate (3 - (lg_sl ([.ref Q.h0, .int x1, .int x2])).length) Slot.unset).toArray = ls at hl ⊢
  have hl : lv_has ls 3 [(0, .ref Q.h0), (1, .int x1), (2, .int x2)] := hl
  unfold f_X12_endTry at hf
  refine lv_aload_n hx hb dX12_endTry_0 rfl (lv_at hl 0 rfl) ?_
  refine lv_dup hx hb dX12_endTry_1 rfl ?_
  refine rG_52 (v := (σ.i 52)) hx hb hts i_X12_endTry_X12 hown hK hP (hts (.fieldLink RX12 370 "StatementRules2Model" "depth" "I") k_X12_endTry_fieldLink_RX12_370_SRModel_depth_I) dX12_endTry_2 rfl ?_
  refine lv_iconst (v := 1) hx hb dX12_endTry_5 (by decide) ?_
  refine lv_isub hx hb dX12_endTry_6 ?_
  refine rP_52 hx hb hts i_X12_endTry_X12 hown hK hP hD hS (hts (.fieldLink RX12 370 "StatementRules2Model" "depth" "I") k_X12_endTry_fieldLink_RX12_370_SRModel_depth_I) dX12_endTry_7 (fun H locs hP hD hS => ?_)
  refine lv_aload_n hx hb dX12_endTry_10 rfl (lv_at hl 0 rfl) ?_
  refine rG_32 hx hb hts i_X12_endTry_X12 hown hK hP (hts (.fieldLink RX12 111 "StatementRules2Model" "tryEnd" "[I") k_X12_endTry_fieldLink_RX12_111_SRModel_tryEnd_I) dX12_endTry_11 ?_
  refine lv_aload_n hx hb dX12_endTry_14 rfl (lv_at hl 0 rfl) ?_
  refine rG_66 hx hb hts i_X12_endTry_X12 hown hK hP (hts (.fieldLink RX12 180 "StatementRules2Model" "fp" "[I") k_X12_endTry_fieldLink_RX12_180_SRModel_fp_I) dX12_endTry_15 ?_
  refine lv_iload_n hx hb dX12_endTry_18 rfl (lv_at hl 1 rfl) ?_
  obtain ⟨b1, hf⟩ := hf_ite hf
  refine rL_66 (v := (σ.a 66 ((x1 : Int32).toNatClampNeg))) hx hb hK hP b1 dX12_endTry_19 rfl ?_
  refine lv_aload_n hx hb dX12_endTry_20 rfl (lv_at hl 0 rfl) ?_
  refine rG_20 (v := (σ.i 20)) hx hb hts i_X12_endTry_X12 hown hK hP (hts (.fieldLink RX12 358 "StatementRules2Model" "codes" "I") k_X12_endTry_fieldLink_RX12_358_SRModel_codes_I) dX12_endTry_21 rfl ?_
  obtain ⟨b2, hf⟩ := hf_ite hf
  refine rS_32 hx hb hK hP hD hS b2 dX12_endTry_24 (fun H locs hP hD hS => ?_)
  refine lv_aload_n hx hb dX12_endTry_25 rfl (lv_at hl 0 rfl) ?_
  refine lv_aload_n hx hb dX12_endTry_26 rfl (lv_at hl 0 rfl) ?_
  refine rG_66 hx hb hts i_X12_endTry_X12 hown hK hP (hts (.fieldLink RX12 180 "StatementRules2Model" "fp" "[I") k_X12_endTry_fieldLink_RX12_180_SRModel_fp_I) dX12_endTry_27 ?_
  refine lv_iload_n hx hb dX12_endTry_30 rfl (lv_at hl 1 rfl) ?_
  refine rL_66 (v := (σ.a 66 ((x1 : Int32).toNatClampNeg))) hx hb hK hP b1 dX12_endTry_31 rfl ?_
  refine lv_iload_n hx hb dX12_endTry_32 rfl (lv_at hl 2 rfl) ?_
  obtain ⟨p3, hcp3, hf⟩ := hf_bind hf
  have hFc := r_free hD hS hA
  refine va_callv (va_runV (As := [.int (σ.a 66 ((x1 : Int32).toNatClampNeg)), .int x2]) (rest := []) ⟨hx, hb, hml, hown, hts⟩ (c_X12_resolve l dC dI _ Q N (RS.setA (RS.setI σ 52 ((σ.i 52) - 1)) 32 (((σ.a 66 ((x1 : Int32).toNatClampNeg)) : Int32).toNatClampNeg) (σ.i 20)) (σ.a 66 ((x1 : Int32).toNatClampNeg)) x2 p3 hcp3) (cwV 2 hts hX12_endTry_X12_resolve_v558 rfl rfl rfl (by decide +kernel) ⟨Nat.le_of_ble_eq_true rfl, Nat.le_of_ble_eq_true rfl⟩) ⟨zPre.blind, va_recv hK hP (ci := 11) (q0 := 0) rfl rfl, zPre.go hZ hP hK hD⟩ rfl rfl hl.1 rfl (lv_room (Nat.le_of_ble_eq_true rfl)) dX12_endTry_33 ⟨Nat.le_of_ble_eq_true rfl, Nat.le_of_ble_eq_true rfl⟩) hS (fun q _ h => hFc q h) hFc (fun u9 t9 H1 locs ht hvm hw hB hz1 hk1 hS => ?_)
  obtain ⟨hP, hK1, hD1⟩ := hB
  rw [ht] at hP
  have hD := hD1.weaken (fun _ _ _ h => hFc _ h)
  generalize H1 = H at hP hS ⊢
  refine lv_aload_n hx hb dX12_endTry_36 rfl (lv_at hl 0 rfl) ?_
  refine lv_iload_n hx hb dX12_endTry_37 rfl (lv_at hl 2 rfl) ?_
  refine lv_if_eq (tgt := 55) hx hb dX12_endTry_38 (by decide) (fun c5 => ?_) (fun c5 => ?_)
  ·
    replace hf := (if_pos c5).symm.trans hf
    refine lv_iconst (v := 0) hx hb dX12_endTry_55 (by decide) ?_
    obtain ⟨p6, hcp6, hf⟩ := hf_bind hf
    have hFc := r_free hD hS hA
    refine va_callv (va_runV (As := [.int 0]) (rest := []) ⟨hx, hb, hml, hown, hts⟩ (c_X12_over l dC dI _ Q N p3 0 p6 hcp6) (cwV 1 hts hX12_endTry_X12_over_v490 rfl rfl rfl (by decide +kernel) ⟨Nat.le_of_ble_eq_true rfl, Nat.le_of_ble_eq_true rfl⟩) ⟨zPre.blind, va_recv hK hP (ci := 11) (q0 := 0) rfl rfl, zPre.go hZ hP hK hD⟩ rfl rfl hl.1 rfl (lv_room (Nat.le_of_ble_eq_true rfl)) dX12_endTry_56 ⟨Nat.le_of_ble_eq_true rfl, Nat.le_of_ble_eq_true rfl⟩) hS (fun q _ h => hFc q h) hFc (fun u9 t9 H1 locs ht hvm hw hB hz1 hk1 hS => ?_)
    obtain ⟨hP, hK1, hD1⟩ := hB
    rw [ht] at hP
    have hD := hD1.weaken (fun _ _ _ h => hFc _ h)
    generalize H1 = H at hP hS ⊢
    obtain rfl := Option.some.inj hf
    exact W.vret hx hb hr (fun t ht hW => ⟨⟨(), rfl, trivial, by rw [ht]; exact hP, va_K.moved hW.alike hK, hD⟩, hS.F ht⟩) hS.2.2 dX12_endTry_59
  ·
    replace hf := (if_neg c5).symm.trans hf
    refine lv_aload_n hx hb dX12_endTry_41 rfl (lv_at hl 0 rfl) ?_
    refine rG_68 hx hb hts i_X12_endTry_X12 hown hK hP (hts (.fieldLink RX12 186 "StatementRules2Model" "fr" "[I") k_X12_endTry_fieldLink_RX12_186_SRModel_fr_I) dX12_endTry_42 ?_
    refine lv_iload_n hx hb dX12_endTry_45 rfl (lv_at hl 1 rfl) ?_
    refine rL_68 (v := (p3.a 68 ((x1 : Int32).toNatClampNeg))) hx hb hK hP b1 dX12_endTry_46 rfl ?_
    refine lv_iconst (v := 1) hx hb dX12_endTry_47 (by decide) ?_
    refine lv_icmp_ne (tgt := 55) hx hb dX12_endTry_48 (by decide) (fun c8 => ?_) (fun c8 => ?_)
    ·
      replace hf := (if_neg c8).symm.trans hf
      refine lv_iconst (v := 0) hx hb dX12_endTry_55 (by decide) ?_
      obtain ⟨p9, hcp9, hf⟩ := hf_bind hf
      have hFc := r_free hD hS hA
      refine va_callv (va_runV (As := [.int 0]) (rest := []) ⟨hx, hb, hml, hown, hts⟩ (c_X12_over l dC dI _ Q N p3 0 p9 hcp9) (cwV 1 hts hX12_endTry_X12_over_v490 rfl rfl rfl (by decide +kernel) ⟨Nat.le_of_ble_eq_true rfl, Nat.le_of_ble_eq_true rfl⟩) ⟨zPre.blind, va_recv hK hP (ci := 11) (q0 := 0) rfl rfl, zPre.go hZ hP hK hD⟩ rfl rfl hl.1 rfl (lv_room (Nat.le_of_ble_eq_true rfl)) dX12_endTry_56 ⟨Nat.le_of_ble_eq_true rfl, Nat.le_of_ble_eq_true rfl⟩) hS (fun q _ h => hFc q h) hFc (fun u9 t9 H1 locs ht hvm hw hB hz1 hk1 hS => ?_)
      obtain ⟨hP, hK1, hD1⟩ := hB
      rw [ht] at hP
      have hD := hD1.weaken (fun _ _ _ h => hFc _ h)
      generalize H1 = H at hP hS ⊢
      obtain rfl := Option.some.inj hf
      exact W.vret hx hb hr (fun t ht hW => ⟨⟨(), rfl, trivial, by rw [ht]; exact hP, va_K.moved hW.alike hK, hD⟩, hS.F ht⟩) hS.2.2 dX12_endTry_59
    ·
      replace hf := (if_pos c8).symm.trans hf
      refine lv_iconst (v := 1) hx hb dX12_endTry_51 (by decide) ?_
      refine lv_goto (tgt := 56) hx hb dX12_endTry_52 (by decide) ?_
      obtain ⟨p11, hcp11, hf⟩ := hf_bind hf
      have hFc := r_free hD hS hA
      refine va_callv (va_runV (As := [.int 1]) (rest := []) ⟨hx, hb, hml, hown, hts⟩ (c_X12_over l dC dI _ Q N p3 1 p11 hcp11) (cwV 1 hts hX12_endTry_X12_over_v490 rfl rfl rfl (by decide +kernel) ⟨Nat.le_of_ble_eq_true rfl, Nat.le_of_ble_eq_true rfl⟩) ⟨zPre.blind, va_recv hK hP (ci := 11) (q0 := 0) rfl rfl, zPre.go hZ hP hK hD⟩ rfl rfl hl.1 rfl (lv_room (Nat.le_of_ble_eq_true rfl)) dX12_endTry_56 ⟨Nat.le_of_ble_eq_true rfl, Nat.le_of_ble_eq_true rfl⟩) hS (fun q _ h => hFc q h) hFc (fun u9 t9 H1 locs ht hvm hw hB hz1 hk1 hS => ?_)
      obtain ⟨hP, hK1, hD1⟩ := hB
      rw [ht] at hP
      have hD := hD1.weaken (fun _ _ _ h => hFc _ h)
      generalize H1 = H at hP hS ⊢
      obtain rfl := Option.some.inj hf
      exact W.vret hx hb hr (fun t ht hW => ⟨⟨(), rfl, trivial, by rw [ht]; exact hP, va_K.moved hW.alike hK, hD⟩, hS.F ht⟩) hS.2.2 dX12_endTry_59
theorem k_X12_trying_fieldLink_RX12_177_SRModel_fs_I : Cond.fieldLink RX12 177 "StatementRules2Model" "fs" "[I" ∈ wzX12_trying := List.mem_cons_of_mem _ (List.mem_append_left _ (List.mem_of_getElem? (i := 0) rfl))
theorem i_X12_trying_X12 : ∀ w ∈ wsX120, w ∈ wzX12_trying := fun _ h => List.mem_cons_of_mem _ (List.mem_append_right _ (List.mem_append_left _ (h)))
theorem k_X12_trying_fieldLink_RX12_180_SRModel_fp_I : Cond.fieldLink RX12 180 "StatementRules2Model" "fp" "[I" ∈ wzX12_trying := List.mem_cons_of_mem _ (List.mem_append_left _ (List.mem_of_getElem? (i := 1) rfl))
theorem k_X12_trying_fieldLink_RX12_549_SRModel_tries_I : Cond.fieldLink RX12 549 "StatementRules2Model" "tries" "I" ∈ wzX12_trying := List.mem_cons_of_mem _ (List.mem_append_left _ (List.mem_of_getElem? (i := 2) rfl))
theorem k_X12_trying_fieldLink_RX12_105_SRModel_tryCatch_I : Cond.fieldLink RX12 105 "StatementRules2Model" "tryCatch" "[I" ∈ wzX12_trying := List.mem_cons_of_mem _ (List.mem_append_left _ (List.mem_of_getElem? (i := 3) rfl))
theorem k_X12_trying_fieldLink_RX12_108_SRModel_tryFinal_I : Cond.fieldLink RX12 108 "StatementRules2Model" "tryFinal" "[I" ∈ wzX12_trying := List.mem_cons_of_mem _ (List.mem_append_left _ (List.mem_of_getElem? (i := 4) rfl))
theorem k_X12_trying_fieldLink_RX12_370_SRModel_depth_I : Cond.fieldLink RX12 370 "StatementRules2Model" "depth" "I" ∈ wzX12_trying := List.mem_cons_of_mem _ (List.mem_append_left _ (List.mem_of_getElem? (i := 5) rfl))
theorem k_X12_trying_fieldLink_RX12_183_SRModel_fq_I : Cond.fieldLink RX12 183 "StatementRules2Model" "fq" "[I" ∈ wzX12_trying := List.mem_cons_of_mem _ (List.mem_append_left _ (List.mem_of_getElem? (i := 6) rfl))
theorem k_X12_trying_fieldLink_RX12_307_SRModel_tok_I : Cond.fieldLink RX12 307 "StatementRules2Model" "tok" "I" ∈ wzX12_trying := List.mem_cons_of_mem _ (List.mem_append_left _ (List.mem_of_getElem? (i := 7) rfl))
theorem k_X12_trying_fieldLink_RX12_159_SRModel_wallTry_I : Cond.fieldLink RX12 159 "StatementRules2Model" "wallTry" "[I" ∈ wzX12_trying := List.mem_cons_of_mem _ (List.mem_append_left _ (List.mem_of_getElem? (i := 8) rfl))
theorem k_X12_trying_fieldLink_RX12_377_SRModel_walls_I : Cond.fieldLink RX12 377 "StatementRules2Model" "walls" "I" ∈ wzX12_trying := List.mem_cons_of_mem _ (List.mem_append_left _ (List.mem_of_getElem? (i := 9) rfl))
theorem k_X12_trying_fieldLink_RX12_162_SRModel_wallGoals_I : Cond.fieldLink RX12 162 "StatementRules2Model" "wallGoals" "[I" ∈ wzX12_trying := List.mem_cons_of_mem _ (List.mem_append_left _ (List.mem_of_getElem? (i := 10) rfl))
theorem k_X12_trying_fieldLink_RX12_367_SRModel_goals_I : Cond.fieldLink RX12 367 "StatementRules2Model" "goals" "I" ∈ wzX12_trying := List.mem_cons_of_mem _ (List.mem_append_left _ (List.mem_of_getElem? (i := 11) rfl))
theorem k_X12_trying_fieldLink_RX12_198_SRModel_fy_I : Cond.fieldLink RX12 198 "StatementRules2Model" "fy" "[I" ∈ wzX12_trying := List.mem_cons_of_mem _ (List.mem_append_left _ (List.mem_of_getElem? (i := 12) rfl))
theorem k_X12_trying_fieldLink_RX12_291_SRModel_fault_I : Cond.fieldLink RX12 291 "StatementRules2Model" "fault" "I" ∈ wzX12_trying := List.mem_cons_of_mem _ (List.mem_append_left _ (List.mem_of_getElem? (i := 13) rfl))
theorem k_X12_trying_fieldLink_RX12_314_SRModel_number_I : Cond.fieldLink RX12 314 "StatementRules2Model" "number" "I" ∈ wzX12_trying := List.mem_cons_of_mem _ (List.mem_append_left _ (List.mem_of_getElem? (i := 14) rfl))
theorem k_X12_trying_fieldLink_RX12_186_SRModel_fr_I : Cond.fieldLink RX12 186 "StatementRules2Model" "fr" "[I" ∈ wzX12_trying := List.mem_cons_of_mem _ (List.mem_append_left _ (List.mem_of_getElem? (i := 15) rfl))
theorem k_X12_trying_fieldLink_RX12_396_SRModel_res_Z : Cond.fieldLink RX12 396 "StatementRules2Model" "res" "Z" ∈ wzX12_trying := List.mem_cons_of_mem _ (List.mem_append_left _ (List.mem_of_getElem? (i := 16) rfl))
theorem k_X12_trying_fieldLink_RX12_358_SRModel_codes_I : Cond.fieldLink RX12 358 "StatementRules2Model" "codes" "I" ∈ wzX12_trying := List.mem_cons_of_mem _ (List.mem_append_left _ (List.mem_of_getElem? (i := 17) rfl))
theorem k_X12_trying_fieldLink_RX12_195_SRModel_fx_I : Cond.fieldLink RX12 195 "StatementRules2Model" "fx" "[I" ∈ wzX12_trying := List.mem_cons_of_mem _ (List.mem_append_left _ (List.mem_of_getElem? (i := 18) rfl))
theorem k_X12_trying_fieldLink_RX12_361_SRModel_seen_I : Cond.fieldLink RX12 361 "StatementRules2Model" "seen" "I" ∈ wzX12_trying := List.mem_cons_of_mem _ (List.mem_append_left _ (List.mem_of_getElem? (i := 19) rfl))
set_option maxHeartbeats 4000000 in
set_option maxRecDepth 100000 in
theorem j_X12_trying_215 {p : Program} {e : Env} {s : State} {m : MethodId} {args : Array Value} {below : List Frame} {meth : Method} {c : Code} {A : Nat → Prop} (l : Launch) (dC : Nat → ClassId) (dI : Nat → Nat → Nat) (Q : RQ) (N : Nat) (R : RS) (hx : p.tables.exec = Jvm.exec) (hb : c.code = cX12_trying) (hr : meth.sig.returnType = none) (hml : c.maxLocals = 3) (hown : s.vm.findClass RX12 = some m.cls) (hts : ∀ w ∈ wzX12_trying, w.before args s = true) (hlocks : meth.locks = false) (hZ : zAMB s) (hA : ∀ q : Nat, s.heap.size ≤ q → A q) (hK : va_K (dC, dI) vwCl (rT Q) s) : ∀ (σ : RS) (x1 : Int32) (H : Heap) (locs : List Loc) (ls : Array Slot), f_X12_trying_215 N σ x1 = some R → va_P (dC, dI) vwCl (rW Q σ) H → va_D A (rW Q σ) → va_S A s.heap H locs → lv_has ls 3 [(0, .ref Q.h0), (1, .int x1)] → W p l e ({ frames := 7, cells := 0, slots := 0, locals := 420 }) s m args below meth c H locs 0 0 (MQ below (va_Qv (fun (_ : Unit) => True) (fun (_ : Unit) (t : State) => zPost dC dI A (rW Q R) (rT Q) t) A) args s 0 0 A) (F0 m 215 ls []) := by
  intro σ x1 H locs ls hf hP hD hS hl
  unfold f_X12_trying_215 at hf
  refine lv_aload_n hx hb dX12_trying_215 rfl (lv_at hl 0 rfl) ?_
  refine rG_57 hx hb hts i_X12_trying_X12 hown hK hP (hts (.fieldLink RX12 159 "StatementRules2Model" "wallTry" "[I") k_X12_trying_fieldLink_RX12_159_SRModel_wallTry_I) dX12_trying_216 ?_
  refine lv_aload_n hx hb dX12_trying_219 rfl (lv_at hl 0 rfl) ?_
  refine rG_56 (v := (σ.i 56)) hx hb hts i_X12_trying_X12 hown hK hP (hts (.fieldLink RX12 377 "StatementRules2Model" "walls" "I") k_X12_trying_fieldLink_RX12_377_SRModel_walls_I) dX12_trying_220 rfl ?_
  refine lv_aload_n hx hb dX12_trying_223 rfl (lv_at hl 0 rfl) ?_
  refine rG_66 hx hb hts i_X12_trying_X12 hown hK hP (hts (.fieldLink RX12 180 "StatementRules2Model" "fp" "[I") k_X12_trying_fieldLink_RX12_180_SRModel_fp_I) dX12_trying_224 ?_
  refine lv_iload_n hx hb dX12_trying_227 rfl (lv_at hl 1 rfl) ?_
  obtain ⟨b11, hf⟩ := hf_ite hf
  refine rL_66 (v := (σ.a 66 ((x1 : Int32).toNatClampNeg))) hx hb hK hP b11 dX12_trying_228 rfl ?_
  obtain ⟨b12, hf⟩ := hf_ite hf
  refine rS_57 hx hb hK hP hD hS b12 dX12_trying_229 (fun H locs hP hD hS => ?_)
  refine lv_aload_n hx hb dX12_trying_230 rfl (lv_at hl 0 rfl) ?_
  refine rG_58 hx hb hts i_X12_trying_X12 hown hK hP (hts (.fieldLink RX12 162 "StatementRules2Model" "wallGoals" "[I") k_X12_trying_fieldLink_RX12_162_SRModel_wallGoals_I) dX12_trying_231 ?_
  refine lv_aload_n hx hb dX12_trying_234 rfl (lv_at hl 0 rfl) ?_
  refine rG_56 (v := (σ.i 56)) hx hb hts i_X12_trying_X12 hown hK hP (hts (.fieldLink RX12 377 "StatementRules2Model" "walls" "I") k_X12_trying_fieldLink_RX12_377_SRModel_walls_I) dX12_trying_235 rfl ?_
  refine lv_aload_n hx hb dX12_trying_238 rfl (lv_at hl 0 rfl) ?_
  refine rG_43 (v := (σ.i 43)) hx hb hts i_X12_trying_X12 hown hK hP (hts (.fieldLink RX12 367 "StatementRules2Model" "goals" "I") k_X12_trying_fieldLink_RX12_367_SRModel_goals_I) dX12_trying_239 rfl ?_
  refine rS_58 hx hb hK hP hD hS b12 dX12_trying_242 (fun H locs hP hD hS => ?_)
  refine lv_aload_n hx hb dX12_trying_243 rfl (lv_at hl 0 rfl) ?_
  refine lv_dup hx hb dX12_trying_244 rfl ?_
  refine rG_56 (v := (σ.i 56)) hx hb hts i_X12_trying_X12 hown hK hP (hts (.fieldLink RX12 377 "StatementRules2Model" "walls" "I") k_X12_trying_fieldLink_RX12_377_SRModel_walls_I) dX12_trying_245 rfl ?_
  refine lv_iconst (v := 1) hx hb dX12_trying_248 (by decide) ?_
  refine lv_iadd hx hb dX12_trying_249 ?_
  refine rP_56 hx hb hts i_X12_trying_X12 hown hK hP hD hS (hts (.fieldLink RX12 377 "StatementRules2Model" "walls" "I") k_X12_trying_fieldLink_RX12_377_SRModel_walls_I) dX12_trying_250 (fun H locs hP hD hS => ?_)
  refine lv_aload_n hx hb dX12_trying_253 rfl (lv_at hl 0 rfl) ?_
  refine rG_72 hx hb hts i_X12_trying_X12 hown hK hP (hts (.fieldLink RX12 198 "StatementRules2Model" "fy" "[I") k_X12_trying_fieldLink_RX12_198_SRModel_fy_I) dX12_trying_254 ?_
  refine lv_iload_n hx hb dX12_trying_257 rfl (lv_at hl 1 rfl) ?_
  refine lv_iconst (v := (-1)) hx hb dX12_trying_258 (by decide) ?_
  refine rS_72 hx hb hK hP hD hS b11 dX12_trying_259 (fun H locs hP hD hS => ?_)
  refine lv_aload_n hx hb dX12_trying_260 rfl (lv_at hl 0 rfl) ?_
  refine lv_iconst (v := 1) hx hb dX12_trying_261 (by decide) ?_
  refine lv_iconst (v := 3) hx hb dX12_trying_262 (by decide) ?_
  obtain ⟨p13, hcp13, hf⟩ := hf_bind hf
  have hFc := r_free hD hS hA
  refine va_callv (va_runV (As := [.int 1, .int 3]) (rest := []) ⟨hx, hb, hml, hown, hts⟩ (c_X12_then l dC dI _ Q N (RS.setA (RS.setI (RS.setA (RS.setA σ 57 (((σ.i 56) : Int32).toNatClampNeg) (σ.a 66 ((x1 : Int32).toNatClampNeg))) 58 (((σ.i 56) : Int32).toNatClampNeg) (σ.i 43)) 56 ((σ.i 56) + 1)) 72 ((x1 : Int32).toNatClampNeg) (-1)) 1 3 p13 hcp13) (cwV 2 hts hX12_trying_X12_then_v393 rfl rfl rfl (by decide +kernel) ⟨Nat.le_of_ble_eq_true rfl, Nat.le_of_ble_eq_true rfl⟩) ⟨zPre.blind, va_recv hK hP (ci := 11) (q0 := 0) rfl rfl, zPre.go hZ hP hK hD⟩ rfl rfl hl.1 rfl (lv_room (Nat.le_of_ble_eq_true rfl)) dX12_trying_263 ⟨Nat.le_of_ble_eq_true rfl, Nat.le_of_ble_eq_true rfl⟩) hS (fun q _ h => hFc q h) hFc (fun u9 t9 H1 locs ht hvm hw hB hz1 hk1 hS => ?_)
  obtain ⟨hP, hK1, hD1⟩ := hB
  rw [ht] at hP
  have hD := hD1.weaken (fun _ _ _ h => hFc _ h)
  generalize H1 = H at hP hS ⊢
  refine lv_goto (tgt := 519) hx hb dX12_trying_266 (by decide) ?_
  obtain rfl := Option.some.inj hf
  exact W.vret hx hb hr (fun t ht hW => ⟨⟨(), rfl, trivial, by rw [ht]; exact hP, va_K.moved hW.alike hK, hD⟩, hS.F ht⟩) hS.2.2 dX12_trying_519
set_option maxHeartbeats 4000000 in
set_option maxRecDepth 100000 in
theorem j_X12_trying_140 {p : Program} {e : Env} {s : State} {m : MethodId} {args : Array Value} {below : List Frame} {meth : Method} {c : Code} {A : Nat → Prop} (l : Launch) (dC : Nat → ClassId) (dI : Nat → Nat → Nat) (Q : RQ) (N : Nat) (R : RS) (hx : p.tables.exec = Jvm.exec) (hb : c.code = cX12_trying) (hr : meth.sig.returnType = none) (hml : c.maxLocals = 3) (hown : s.vm.findClass RX12 = some m.cls) (hts : ∀ w ∈ wzX12_trying, w.before args s = true) (hlocks : meth.locks = false) (hZ : zAMB s) (hA : ∀ q : Nat, s.heap.size ≤ q → A q) (hK : va_K (dC, dI) vwCl (rT Q) s) : ∀ (n9 : Nat), ∀ (σ : RS) (x1 : Int32) (x2 : Int32) (H : Heap) (locs : List Loc) (ls : Array Slot), f_X12_trying_140 N n9 σ x1 x2 = some R → va_P (dC, dI) vwCl (rW Q σ) H → va_D A (rW Q σ) → va_S A s.heap H locs → lv_has ls 3 [(0, .ref Q.h0), (1, .int x1), (2, .int x2)] → W p l e ({ frames := 7, cells := 0, slots := 0, locals := 420 }) s m args below meth c H locs 0 0 (MQ below (va_Qv (fun (_ : Unit) => True) (fun (_ : Unit) (t : State) => zPost dC dI A (rW Q R) (rT Q) t) A) args s 0 0 A) (F0 m 140 ls []) := by
  intro n9
  induction n9 with
  | zero => intro σ x1 x2 H locs ls hf; exact absurd hf (by intro h9; cases h9)
  | succ n9 ih =>
    intro σ x1 x2 H locs ls hf hP hD hS hl
    replace hf : b_X12_trying_140 N (f_X12_trying_140 N n9) σ x1 x2 = some R := hf
    unfold b_X12_trying_140 at hf
    refine lv_iload_n hx hb dX12_trying_140 rfl (lv_at hl 2 rfl) ?_
    refine lv_if_eq (tgt := 215) hx hb dX12_trying_141 (by decide) (fun c10 => ?_) (fun c10 => ?_)
    ·
      replace hf := (if_pos c10).symm.trans hf
      exact j_X12_trying_215 l dC dI Q N R hx hb hr hml hown hts hlocks hZ hA hK σ x1 _ _ _ hf hP hD hS (lv_sub hl [0, 1] rfl)
    ·
      replace hf := (if_neg c10).symm.trans hf
      refine lv_aload_n hx hb dX12_trying_144 rfl (lv_at hl 0 rfl) ?_
      refine rG_15 (v := (σ.i 15)) hx hb hts i_X12_trying_X12 hown hK hP (hts (.fieldLink RX12 291 "StatementRules2Model" "fault" "I") k_X12_trying_fieldLink_RX12_291_SRModel_fault_I) dX12_trying_145 rfl ?_
      refine lv_if_ne (tgt := 215) hx hb dX12_trying_148 (by decide) (fun c15 => ?_) (fun c15 => ?_)
      ·
        replace hf := (if_neg c15).symm.trans hf
        exact j_X12_trying_215 l dC dI Q N R hx hb hr hml hown hts hlocks hZ hA hK σ x1 _ _ _ hf hP hD hS (lv_sub hl [0, 1] rfl)
      ·
        replace hf := (if_pos c15).symm.trans hf
        refine lv_aload_n hx hb dX12_trying_151 rfl (lv_at hl 0 rfl) ?_
        obtain ⟨p16, hcp16, hf⟩ := hf_bind hf
        have hFc := r_free hD hS hA
        refine va_callv (va_runV (As := []) (rest := []) ⟨hx, hb, hml, hown, hts⟩ (c_X12_next l dC dI _ Q N σ p16 hcp16) (cwV 0 hts hX12_trying_X12_next_v345 rfl rfl rfl (by decide +kernel) ⟨Nat.le_of_ble_eq_true rfl, Nat.le_of_ble_eq_true rfl⟩) ⟨zPre.blind, va_recv hK hP (ci := 11) (q0 := 0) rfl rfl, zPre.go hZ hP hK hD⟩ rfl rfl hl.1 rfl (lv_room (Nat.le_of_ble_eq_true rfl)) dX12_trying_152 ⟨Nat.le_of_ble_eq_true rfl, Nat.le_of_ble_eq_true rfl⟩) hS (fun q _ h => hFc q h) hFc (fun u9 t9 H1 locs ht hvm hw hB hz1 hk1 hS => ?_)
        obtain ⟨hP, hK1, hD1⟩ := hB
        rw [ht] at hP
        have hD := hD1.weaken (fun _ _ _ h => hFc _ h)
        generalize H1 = H at hP hS ⊢
        refine lv_aload_n hx hb dX12_trying_155 rfl (lv_at hl 0 rfl) ?_
        refine lv_aload_n hx hb dX12_trying_156 rfl (lv_at hl 0 rfl) ?_
        refine rG_10 (v := (p16.i 10)) hx hb hts i_X12_trying_X12 hown hK hP (hts (.fieldLink RX12 307 "StatementRules2Model" "tok" "I") k_X12_trying_fieldLink_RX12_307_SRModel_tok_I) dX12_trying_157 rfl ?_
        refine lv_iconst (v := 4) hx hb dX12_trying_160 (by decide) ?_
        refine lv_icmp_ne (tgt := 168) hx hb dX12_trying_161 (by decide) (fun c18 => ?_) (fun c18 => ?_)
        ·
          replace hf := (if_neg c18).symm.trans hf
          refine lv_iconst (v := 0) hx hb dX12_trying_168 (by decide) ?_
          obtain ⟨p19, hcp19, hf⟩ := hf_bind hf
          have hFc := r_free hD hS hA
          refine va_calli (va_runV (As := [.int 0]) (rest := []) ⟨hx, hb, hml, hown, hts⟩ (c_X12_can l dC dI _ Q N p16 0 p19 hcp19) (cwV 1 hts hX12_trying_X12_can_v341 rfl rfl rfl (by decide +kernel) ⟨Nat.le_of_ble_eq_true rfl, Nat.le_of_ble_eq_true rfl⟩) ⟨zPre.blind, va_recv hK hP (ci := 11) (q0 := 0) rfl rfl, zPre.go hZ hP hK hD⟩ rfl rfl hl.1 rfl (lv_room (Nat.le_of_ble_eq_true rfl)) dX12_trying_169 ⟨Nat.le_of_ble_eq_true rfl, Nat.le_of_ble_eq_true rfl⟩) hS (fun q _ h => hFc q h) hFc (fun r20 u9 t9 H1 locs ht hvm hw hB hz1 hk1 hS => ?_)
          obtain ⟨hP, hK1, hD1⟩ := hB
          rw [ht] at hP
          have hD := hD1.weaken (fun _ _ _ h => hFc _ h)
          generalize H1 = H at hP hS ⊢
          obtain rfl : r20 = p19.1 := hw
          refine lv_if_eq (tgt := 190) hx hb dX12_trying_172 (by decide) (fun c21 => ?_) (fun c21 => ?_)
          ·
            replace hf := (if_pos c21).symm.trans hf
            refine lv_aload_n hx hb dX12_trying_190 rfl (lv_at hl 0 rfl) ?_
            refine rG_15 (v := (p19.2.i 15)) hx hb hts i_X12_trying_X12 hown hK hP (hts (.fieldLink RX12 291 "StatementRules2Model" "fault" "I") k_X12_trying_fieldLink_RX12_291_SRModel_fault_I) dX12_trying_191 rfl ?_
            refine lv_if_ne (tgt := 210) hx hb dX12_trying_194 (by decide) (fun c22 => ?_) (fun c22 => ?_)
            ·
              replace hf := (if_neg c22).symm.trans hf
              refine lv_iconst (v := 0) hx hb dX12_trying_210 (by decide) ?_
              refine lv_istore_n (lv' := [(2, .int 0), (0, .ref Q.h0), (1, .int x1)]) hx hb dX12_trying_211 rfl hl (by decide) rfl (fun ls hl => ?_)
              refine lv_goto (tgt := 140) hx hb dX12_trying_212 (by decide) ?_
              exact ih p19.2 x1 0 _ _ _ hf hP hD hS (lv_sub hl [1, 2, 0] rfl)
            ·
              replace hf := (if_pos c22).symm.trans hf
              refine lv_aload_n hx hb dX12_trying_197 rfl (lv_at hl 0 rfl) ?_
              refine rG_10 (v := (p19.2.i 10)) hx hb hts i_X12_trying_X12 hown hK hP (hts (.fieldLink RX12 307 "StatementRules2Model" "tok" "I") k_X12_trying_fieldLink_RX12_307_SRModel_tok_I) dX12_trying_198 rfl ?_
              refine lv_bipush (v := 44) hx hb dX12_trying_201 (by decide) ?_
              refine lv_icmp_ne (tgt := 210) hx hb dX12_trying_203 (by decide) (fun c23 => ?_) (fun c23 => ?_)
              ·
                replace hf := (if_neg c23).symm.trans hf
                refine lv_iconst (v := 0) hx hb dX12_trying_210 (by decide) ?_
                refine lv_istore_n (lv' := [(2, .int 0), (0, .ref Q.h0), (1, .int x1)]) hx hb dX12_trying_211 rfl hl (by decide) rfl (fun ls hl => ?_)
                refine lv_goto (tgt := 140) hx hb dX12_trying_212 (by decide) ?_
                exact ih p19.2 x1 0 _ _ _ hf hP hD hS (lv_sub hl [1, 2, 0] rfl)
              ·
                replace hf := (if_pos c23).symm.trans hf
                refine lv_iconst (v := 1) hx hb dX12_trying_206 (by decide) ?_
                refine lv_goto (tgt := 211) hx hb dX12_trying_207 (by decide) ?_
                refine lv_istore_n (lv' := [(2, .int 1), (0, .ref Q.h0), (1, .int x1)]) hx hb dX12_trying_211 rfl hl (by decide) rfl (fun ls hl => ?_)
                refine lv_goto (tgt := 140) hx hb dX12_trying_212 (by decide) ?_
                exact ih p19.2 x1 1 _ _ _ hf hP hD hS (lv_sub hl [1, 2, 0] rfl)
          ·
            replace hf := (if_neg c21).symm.trans hf
            refine lv_aload_n hx hb dX12_trying_175 rfl (lv_at hl 0 rfl) ?_
            refine lv_bipush (v := 32) hx hb dX12_trying_176 (by decide) ?_
            refine lv_aload_n hx hb dX12_trying_178 rfl (lv_at hl 0 rfl) ?_
            refine rG_14 (v := (p19.2.i 14)) hx hb hts i_X12_trying_X12 hown hK hP (hts (.fieldLink RX12 314 "StatementRules2Model" "number" "I") k_X12_trying_fieldLink_RX12_314_SRModel_number_I) dX12_trying_179 rfl ?_
            obtain ⟨p24, hcp24, hf⟩ := hf_bind hf
            have hFc := r_free hD hS hA
            refine va_calli (va_runV (As := [.int 32, .int (p19.2.i 14)]) (rest := []) ⟨hx, hb, hml, hown, hts⟩ (c_X12_emit l dC dI _ Q N p19.2 32 (p19.2.i 14) p24 hcp24) (cwV 2 hts hX12_trying_X12_emit_v464 rfl rfl rfl (by decide +kernel) ⟨Nat.le_of_ble_eq_true rfl, Nat.le_of_ble_eq_true rfl⟩) ⟨zPre.blind, va_recv hK hP (ci := 11) (q0 := 0) rfl rfl, zPre.go hZ hP hK hD⟩ rfl rfl hl.1 rfl (lv_room (Nat.le_of_ble_eq_true rfl)) dX12_trying_182 ⟨Nat.le_of_ble_eq_true rfl, Nat.le_of_ble_eq_true rfl⟩) hS (fun q _ h => hFc q h) hFc (fun r25 u9 t9 H1 locs ht hvm hw hB hz1 hk1 hS => ?_)
            obtain ⟨hP, hK1, hD1⟩ := hB
            rw [ht] at hP
            have hD := hD1.weaken (fun _ _ _ h => hFc _ h)
            generalize H1 = H at hP hS ⊢
            obtain rfl : r25 = p24.1 := hw
            refine lv_pop hx hb dX12_trying_185 rfl ?_
            refine lv_aload_n hx hb dX12_trying_186 rfl (lv_at hl 0 rfl) ?_
            obtain ⟨p26, hcp26, hf⟩ := hf_bind hf
            have hFc := r_free hD hS hA
            refine va_callv (va_runV (As := []) (rest := []) ⟨hx, hb, hml, hown, hts⟩ (c_X12_next l dC dI _ Q N p24.2 p26 hcp26) (cwV 0 hts hX12_trying_X12_next_v345 rfl rfl rfl (by decide +kernel) ⟨Nat.le_of_ble_eq_true rfl, Nat.le_of_ble_eq_true rfl⟩) ⟨zPre.blind, va_recv hK hP (ci := 11) (q0 := 0) rfl rfl, zPre.go hZ hP hK hD⟩ rfl rfl hl.1 rfl (lv_room (Nat.le_of_ble_eq_true rfl)) dX12_trying_187 ⟨Nat.le_of_ble_eq_true rfl, Nat.le_of_ble_eq_true rfl⟩) hS (fun q _ h => hFc q h) hFc (fun u9 t9 H1 locs ht hvm hw hB hz1 hk1 hS => ?_)
            obtain ⟨hP, hK1, hD1⟩ := hB
            rw [ht] at hP
            have hD := hD1.weaken (fun _ _ _ h => hFc _ h)
            generalize H1 = H at hP hS ⊢
            refine lv_aload_n hx hb dX12_trying_190 rfl (lv_at hl 0 rfl) ?_
            refine rG_15 (v := (p26.i 15)) hx hb hts i_X12_trying_X12 hown hK hP (hts (.fieldLink RX12 291 "StatementRules2Model" "fault" "I") k_X12_trying_fieldLink_RX12_291_SRModel_fault_I) dX12_trying_191 rfl ?_
            refine lv_if_ne (tgt := 210) hx hb dX12_trying_194 (by decide) (fun c28 => ?_) (fun c28 => ?_)
            ·
              replace hf := (if_neg c28).symm.trans hf
              refine lv_iconst (v := 0) hx hb dX12_trying_210 (by decide) ?_
              refine lv_istore_n (lv' := [(2, .int 0), (0, .ref Q.h0), (1, .int x1)]) hx hb dX12_trying_211 rfl hl (by decide) rfl (fun ls hl => ?_)
              refine lv_goto (tgt := 140) hx hb dX12_trying_212 (by decide) ?_
              exact ih p26 x1 0 _ _ _ hf hP hD hS (lv_sub hl [1, 2, 0] rfl)
            ·
              replace hf := (if_pos c28).symm.trans hf
              refine lv_aload_n hx hb dX12_trying_197 rfl (lv_at hl 0 rfl) ?_
              refine rG_10 (v := (p26.i 10)) hx hb hts i_X12_trying_X12 hown hK hP (hts (.fieldLink RX12 307 "StatementRules2Model" "tok" "I") k_X12_trying_fieldLink_RX12_307_SRModel_tok_I) dX12_trying_198 rfl ?_
              refine lv_bipush (v := 44) hx hb dX12_trying_201 (by decide) ?_
              refine lv_icmp_ne (tgt := 210) hx hb dX12_trying_203 (by decide) (fun c29 => ?_) (fun c29 => ?_)
              ·
                replace hf := (if_neg c29).symm.trans hf
                refine lv_iconst (v := 0) hx hb dX12_trying_210 (by decide) ?_
                refine lv_istore_n (lv' := [(2, .int 0), (0, .ref Q.h0), (1, .int x1)]) hx hb dX12_trying_211 rfl hl (by decide) rfl (fun ls hl => ?_)
                refine lv_goto (tgt := 140) hx hb dX12_trying_212 (by decide) ?_
                exact ih p26 x1 0 _ _ _ hf hP hD hS (lv_sub hl [1, 2, 0] rfl)
              ·
                replace hf := (if_pos c29).symm.trans hf
                refine lv_iconst (v := 1) hx hb dX12_trying_206 (by decide) ?_
                refine lv_goto (tgt := 211) hx hb dX12_trying_207 (by decide) ?_
                refine lv_istore_n (lv' := [(2, .int 1), (0, .ref Q.h0), (1, .int x1)]) hx hb dX12_trying_211 rfl hl (by decide) rfl (fun ls hl => ?_)
                refine lv_goto (tgt := 140) hx hb dX12_trying_212 (by decide) ?_
                exact ih p26 x1 1 _ _ _ hf hP hD hS (lv_sub hl [1, 2, 0] rfl)
        ·
          replace hf := (if_pos c18).symm.trans hf
          refine lv_iconst (v := 1) hx hb dX12_trying_164 (by decide) ?_
          refine lv_goto (tgt := 169) hx hb dX12_trying_165 (by decide) ?_
          obtain ⟨p30, hcp30, hf⟩ := hf_bind hf
          have hFc := r_free hD hS hA
          refine va_calli (va_runV (As := [.int 1]) (rest := []) ⟨hx, hb, hml, hown, hts⟩ (c_X12_can l dC dI _ Q N p16 1 p30 hcp30) (cwV 1 hts hX12_trying_X12_can_v341 rfl rfl rfl (by decide +kernel) ⟨Nat.le_of_ble_eq_true rfl, Nat.le_of_ble_eq_true rfl⟩) ⟨zPre.blind, va_recv hK hP (ci := 11) (q0 := 0) rfl rfl, zPre.go hZ hP hK hD⟩ rfl rfl hl.1 rfl (lv_room (Nat.le_of_ble_eq_true rfl)) dX12_trying_169 ⟨Nat.le_of_ble_eq_true rfl, Nat.le_of_ble_eq_true rfl⟩) hS (fun q _ h => hFc q h) hFc (fun r31 u9 t9 H1 locs ht hvm hw hB hz1 hk1 hS => ?_)
          obtain ⟨hP, hK1, hD1⟩ := hB
          rw [ht] at hP
          have hD := hD1.weaken (fun _ _ _ h => hFc _ h)
          generalize H1 = H at hP hS ⊢
          obtain rfl : r31 = p30.1 := hw
          refine lv_if_eq (tgt := 190) hx hb dX12_trying_172 (by decide) (fun c32 => ?_) (fun c32 => ?_)
          ·
            replace hf := (if_pos c32).symm.trans hf
            refine lv_aload_n hx hb dX12_trying_190 rfl (lv_at hl 0 rfl) ?_
            refine rG_15 (v := (p30.2.i 15)) hx hb hts i_X12_trying_X12 hown hK hP (hts (.fieldLink RX12 291 "StatementRules2Model" "fault" "I") k_X12_trying_fieldLink_RX12_291_SRModel_fault_I) dX12_trying_191 rfl ?_
            refine lv_if_ne (tgt := 210) hx hb dX12_trying_194 (by decide) (fun c33 => ?_) (fun c33 => ?_)
            ·
              replace hf := (if_neg c33).symm.trans hf
              refine lv_iconst (v := 0) hx hb dX12_trying_210 (by decide) ?_
              refine lv_istore_n (lv' := [(2, .int 0), (0, .ref Q.h0), (1, .int x1)]) hx hb dX12_trying_211 rfl hl (by decide) rfl (fun ls hl => ?_)
              refine lv_goto (tgt := 140) hx hb dX12_trying_212 (by decide) ?_
              exact ih p30.2 x1 0 _ _ _ hf hP hD hS (lv_sub hl [1, 2, 0] rfl)
            ·
              replace hf := (if_pos c33).symm.trans hf
              refine lv_aload_n hx hb dX12_trying_197 rfl (lv_at hl 0 rfl) ?_
              refine rG_10 (v := (p30.2.i 10)) hx hb hts i_X12_trying_X12 hown hK hP (hts (.fieldLink RX12 307 "StatementRules2Model" "tok" "I") k_X12_trying_fieldLink_RX12_307_SRModel_tok_I) dX12_trying_198 rfl ?_
              refine lv_bipush (v := 44) hx hb dX12_trying_201 (by decide) ?_
              refine lv_icmp_ne (tgt := 210) hx hb dX12_trying_203 (by decide) (fun c34 => ?_) (fun c34 => ?_)
              ·
                replace hf := (if_neg c34).symm.trans hf
                refine lv_iconst (v := 0) hx hb dX12_trying_210 (by decide) ?_
                refine lv_istore_n (lv' := [(2, .int 0), (0, .ref Q.h0), (1, .int x1)]) hx hb dX12_trying_211 rfl hl (by decide) rfl (fun ls hl => ?_)
                refine lv_goto (tgt := 140) hx hb dX12_trying_212 (by decide) ?_
                exact ih p30.2 x1 0 _ _ _ hf hP hD hS (lv_sub hl [1, 2, 0] rfl)
              ·
                replace hf := (if_pos c34).symm.trans hf
                refine lv_iconst (v := 1) hx hb dX12_trying_206 (by decide) ?_
                refine lv_goto (tgt := 211) hx hb dX12_trying_207 (by decide) ?_
                refine lv_istore_n (lv' := [(2, .int 1), (0, .ref Q.h0), (1, .int x1)]) hx hb dX12_trying_211 rfl hl (by decide) rfl (fun ls hl => ?_)
                refine lv_goto (tgt := 140) hx hb dX12_trying_212 (by decide) ?_
                exact ih p30.2 x1 1 _ _ _ hf hP hD hS (lv_sub hl [1, 2, 0] rfl)
          ·
            replace hf := (if_neg c32).symm.trans hf
            refine lv_aload_n hx hb dX12_trying_175 rfl (lv_at hl 0 rfl) ?_
            refine lv_bipush (v := 32) hx hb dX12_trying_176 (by decide) ?_
            refine lv_aload_n hx hb dX12_trying_178 rfl (lv_at hl 0 rfl) ?_
            refine rG_14 (v := (p30.2.i 14)) hx hb hts i_X12_trying_X12 hown hK hP (hts (.fieldLink RX12 314 "StatementRules2Model" "number" "I") k_X12_trying_fieldLink_RX12_314_SRModel_number_I) dX12_trying_179 rfl ?_
            obtain ⟨p35, hcp35, hf⟩ := hf_bind hf
            have hFc := r_free hD hS hA
            refine va_calli (va_runV (As := [.int 32, .int (p30.2.i 14)]) (rest := []) ⟨hx, hb, hml, hown, hts⟩ (c_X12_emit l dC dI _ Q N p30.2 32 (p30.2.i 14) p35 hcp35) (cwV 2 hts hX12_trying_X12_emit_v464 rfl rfl rfl (by decide +kernel) ⟨Nat.le_of_ble_eq_true rfl, Nat.le_of_ble_eq_true rfl⟩) ⟨zPre.blind, va_recv hK hP (ci := 11) (q0 := 0) rfl rfl, zPre.go hZ hP hK hD⟩ rfl rfl hl.1 rfl (lv_room (Nat.le_of_ble_eq_true rfl)) dX12_trying_182 ⟨Nat.le_of_ble_eq_true rfl, Nat.le_of_ble_eq_true rfl⟩) hS (fun q _ h => hFc q h) hFc (fun r36 u9 t9 H1 locs ht hvm hw hB hz1 hk1 hS => ?_)
            obtain ⟨hP, hK1, hD1⟩ := hB
            rw [ht] at hP
            have hD := hD1.weaken (fun _ _ _ h => hFc _ h)
            generalize H1 = H at hP hS ⊢
            obtain rfl : r36 = p35.1 := hw
            refine lv_pop hx hb dX12_trying_185 rfl ?_
            refine lv_aload_n hx hb dX12_trying_186 rfl (lv_at hl 0 rfl) ?_
            obtain ⟨p37, hcp37, hf⟩ := hf_bind hf
            have hFc := r_free hD hS hA
            refine va_callv (va_runV (As := []) (rest := []) ⟨hx, hb, hml, hown, hts⟩ (c_X12_next l dC dI _ Q N p35.2 p37 hcp37) (cwV 0 hts hX12_trying_X12_next_v345 rfl rfl rfl (by decide +kernel) ⟨Nat.le_of_ble_eq_true rfl, Nat.le_of_ble_eq_true rfl⟩) ⟨zPre.blind, va_recv hK hP (ci := 11) (q0 := 0) rfl rfl, zPre.go hZ hP hK hD⟩ rfl rfl hl.1 rfl (lv_room (Nat.le_of_ble_eq_true rfl)) dX12_trying_187 ⟨Nat.le_of_ble_eq_true rfl, Nat.le_of_ble_eq_true rfl⟩) hS (fun q _ h => hFc q h) hFc (fun u9 t9 H1 locs ht hvm hw hB hz1 hk1 hS => ?_)
            obtain ⟨hP, hK1, hD1⟩ := hB
            rw [ht] at hP
            have hD := hD1.weaken (fun _ _ _ h => hFc _ h)
            generalize H1 = H at hP hS ⊢
            refine lv_aload_n hx hb dX12_trying_190 rfl (lv_at hl 0 rfl) ?_
            refine rG_15 (v := (p37.i 15)) hx hb hts i_X12_trying_X12 hown hK hP (hts (.fieldLink RX12 291 "StatementRules2Model" "fault" "I") k_X12_trying_fieldLink_RX12_291_SRModel_fault_I) dX12_trying_191 rfl ?_
            refine lv_if_ne (tgt := 210) hx hb dX12_trying_194 (by decide) (fun c39 => ?_) (fun c39 => ?_)
            ·
              replace hf := (if_neg c39).symm.trans hf
              refine lv_iconst (v := 0) hx hb dX12_trying_210 (by decide) ?_
              refine lv_istore_n (lv' := [(2, .int 0), (0, .ref Q.h0), (1, .int x1)]) hx hb dX12_trying_211 rfl hl (by decide) rfl (fun ls hl => ?_)
              refine lv_goto (tgt := 140) hx hb dX12_trying_212 (by decide) ?_
              exact ih p37 x1 0 _ _ _ hf hP hD hS (lv_sub hl [1, 2, 0] rfl)
            ·
              replace hf := (if_pos c39).symm.trans hf
              refine lv_aload_n hx hb dX12_trying_197 rfl (lv_at hl 0 rfl) ?_
              refine rG_10 (v := (p37.i 10)) hx hb hts i_X12_trying_X12 hown hK hP (hts (.fieldLink RX12 307 "StatementRules2Model" "tok" "I") k_X12_trying_fieldLink_RX12_307_SRModel_tok_I) dX12_trying_198 rfl ?_
              refine lv_bipush (v := 44) hx hb dX12_trying_201 (by decide) ?_
              refine lv_icmp_ne (tgt := 210) hx hb dX12_trying_203 (by decide) (fun c40 => ?_) (fun c40 => ?_)
              ·
                replace hf := (if_neg c40).symm.trans hf
                refine lv_iconst (v := 0) hx hb dX12_trying_210 (by decide) ?_
                refine lv_istore_n (lv' := [(2, .int 0), (0, .ref Q.h0), (1, .int x1)]) hx hb dX12_trying_211 rfl hl (by decide) rfl (fun ls hl => ?_)
                refine lv_goto (tgt := 140) hx hb dX12_trying_212 (by decide) ?_
                exact ih p37 x1 0 _ _ _ hf hP hD hS (lv_sub hl [1, 2, 0] rfl)
              ·
                replace hf := (if_pos c40).symm.trans hf
                refine lv_iconst (v := 1) hx hb dX12_trying_206 (by decide) ?_
                refine lv_goto (tgt := 211) hx hb dX12_trying_207 (by decide) ?_
                refine lv_istore_n (lv' := [(2, .int 1), (0, .ref Q.h0), (1, .int x1)]) hx hb dX12_trying_211 rfl hl (by decide) rfl (fun ls hl => ?_)
                refine lv_goto (tgt := 140) hx hb dX12_trying_212 (by decide) ?_
                exact ih p37 x1 1 _ _ _ hf hP hD hS (lv_sub hl [1, 2, 0] rfl)
set_option maxHeartbeats 4000000 in
set_option maxRecDepth 100000 in
theorem j_X12_trying_124 {p : Program} {e : Env} {s : State} {m : MethodId} {args : Array Value} {below : List Frame} {meth : Method} {c : Code} {A : Nat → Prop} (l : Launch) (dC : Nat → ClassId) (dI : Nat → Nat → Nat) (Q : RQ) (N : Nat) (R : RS) (hx : p.tables.exec = Jvm.exec) (hb : c.code = cX12_trying) (hr : meth.sig.returnType = none) (hml : c.maxLocals = 3) (hown : s.vm.findClass RX12 = some m.cls) (hts : ∀ w ∈ wzX12_trying, w.before args s = true) (hlocks : meth.locks = false) (hZ : zAMB s) (hA : ∀ q : Nat, s.heap.size ≤ q → A q) (hK : va_K (dC, dI) vwCl (rT Q) s) : ∀ (σ : RS) (x1 : Int32) (H : Heap) (locs : List Loc) (ls : Array Slot), f_X12_trying_124 N σ x1 = some R → va_P (dC, dI) vwCl (rW Q σ) H → va_D A (rW Q σ) → va_S A s.heap H locs → lv_has ls 3 [(0, .ref Q.h0), (1, .int x1)] → W p l e ({ frames := 7, cells := 0, slots := 0, locals := 420 }) s m args below meth c H locs 0 0 (MQ below (va_Qv (fun (_ : Unit) => True) (fun (_ : Unit) (t : State) => zPost dC dI A (rW Q R) (rT Q) t) A) args s 0 0 A) (F0 m 124 ls []) := by
  intro σ x1 H locs ls hf hP hD hS hl
  unfold f_X12_trying_124 at hf
  refine lv_aload_n hx hb dX12_trying_124 rfl (lv_at hl 0 rfl) ?_
  refine rG_10 (v := (σ.i 10)) hx hb hts i_X12_trying_X12 hown hK hP (hts (.fieldLink RX12 307 "StatementRules2Model" "tok" "I") k_X12_trying_fieldLink_RX12_307_SRModel_tok_I) dX12_trying_125 rfl ?_
  refine lv_sipush (v := 424) hx hb dX12_trying_128 (by decide) ?_
  refine lv_icmp_ne (tgt := 138) hx hb dX12_trying_131 (by decide) (fun c9 => ?_) (fun c9 => ?_)
  ·
    replace hf := (if_neg c9).symm.trans hf
    refine lv_iconst (v := 0) hx hb dX12_trying_138 (by decide) ?_
    refine lv_istore_n (lv' := [(2, .int 0), (0, .ref Q.h0), (1, .int x1)]) hx hb dX12_trying_139 rfl hl (by decide) rfl (fun ls hl => ?_)
    exact j_X12_trying_140 l dC dI Q N R hx hb hr hml hown hts hlocks hZ hA hK N σ x1 0 _ _ _ hf hP hD hS (lv_sub hl [1, 2, 0] rfl)
  ·
    replace hf := (if_pos c9).symm.trans hf
    refine lv_iconst (v := 1) hx hb dX12_trying_134 (by decide) ?_
    refine lv_goto (tgt := 139) hx hb dX12_trying_135 (by decide) ?_
    refine lv_istore_n (lv' := [(2, .int 1), (0, .ref Q.h0), (1, .int x1)]) hx hb dX12_trying_139 rfl hl (by decide) rfl (fun ls hl => ?_)
    exact j_X12_trying_140 l dC dI Q N R hx hb hr hml hown hts hlocks hZ hA hK N σ x1 1 _ _ _ hf hP hD hS (lv_sub hl [1, 2, 0] rfl)
set_option maxHeartbeats 4000000 in
set_option maxRecDepth 100000 in
theorem j_X12_trying_287 {p : Program} {e : Env} {s : State} {m : MethodId} {args : Array Value} {below : List Frame} {meth : Method} {c : Code} {A : Nat → Prop} (l : Launch) (dC : Nat → ClassId) (dI : Nat → Nat → Nat) (Q : RQ) (N : Nat) (R : RS) (hx : p.tables.exec = Jvm.exec) (hb : c.code = cX12_trying) (hr : meth.sig.returnType = none) (hml : c.maxLocals = 3) (hown : s.vm.findClass RX12 = some m.cls) (hts : ∀ w ∈ wzX12_trying, w.before args s = true) (hlocks : meth.locks = false) (hZ : zAMB s) (hA : ∀ q : Nat, s.heap.size ≤ q → A q) (hK : va_K (dC, dI) vwCl (rT Q) s) : ∀ (σ : RS) (x1 : Int32) (H : Heap) (locs : List Loc) (ls : Array Slot), f_X12_trying_287 N σ x1 = some R → va_P (dC, dI) vwCl (rW Q σ) H → va_D A (rW Q σ) → va_S A s.heap H locs → lv_has ls 3 [(0, .ref Q.h0), (1, .int x1)] → W p l e ({ frames := 7, cells := 0, slots := 0, locals := 420 }) s m args below meth c H locs 0 0 (MQ below (va_Qv (fun (_ : Unit) => True) (fun (_ : Unit) (t : State) => zPost dC dI A (rW Q R) (rT Q) t) A) args s 0 0 A) (F0 m 287 ls []) := by
  intro σ x1 H locs ls hf hP hD hS hl
  unfold f_X12_trying_287 at hf
  refine lv_aload_n hx hb dX12_trying_287 rfl (lv_at hl 0 rfl) ?_
  refine lv_bipush (v := 33) hx hb dX12_trying_288 (by decide) ?_
  refine lv_aload_n hx hb dX12_trying_290 rfl (lv_at hl 0 rfl) ?_
  refine rG_66 hx hb hts i_X12_trying_X12 hown hK hP (hts (.fieldLink RX12 180 "StatementRules2Model" "fp" "[I") k_X12_trying_fieldLink_RX12_180_SRModel_fp_I) dX12_trying_291 ?_
  refine lv_iload_n hx hb dX12_trying_294 rfl (lv_at hl 1 rfl) ?_
  obtain ⟨b43, hf⟩ := hf_ite hf
  refine rL_66 (v := (σ.a 66 ((x1 : Int32).toNatClampNeg))) hx hb hK hP b43 dX12_trying_295 rfl ?_
  obtain ⟨p44, hcp44, hf⟩ := hf_bind hf
  have hFc := r_free hD hS hA
  refine va_calli (va_runV (As := [.int 33, .int (σ.a 66 ((x1 : Int32).toNatClampNeg))]) (rest := []) ⟨hx, hb, hml, hown, hts⟩ (c_X12_emit l dC dI _ Q N σ 33 (σ.a 66 ((x1 : Int32).toNatClampNeg)) p44 hcp44) (cwV 2 hts hX12_trying_X12_emit_v464 rfl rfl rfl (by decide +kernel) ⟨Nat.le_of_ble_eq_true rfl, Nat.le_of_ble_eq_true rfl⟩) ⟨zPre.blind, va_recv hK hP (ci := 11) (q0 := 0) rfl rfl, zPre.go hZ hP hK hD⟩ rfl rfl hl.1 rfl (lv_room (Nat.le_of_ble_eq_true rfl)) dX12_trying_296 ⟨Nat.le_of_ble_eq_true rfl, Nat.le_of_ble_eq_true rfl⟩) hS (fun q _ h => hFc q h) hFc (fun r45 u9 t9 H1 locs ht hvm hw hB hz1 hk1 hS => ?_)
  obtain ⟨hP, hK1, hD1⟩ := hB
  rw [ht] at hP
  have hD := hD1.weaken (fun _ _ _ h => hFc _ h)
  generalize H1 = H at hP hS ⊢
  obtain rfl : r45 = p44.1 := hw
  refine lv_pop hx hb dX12_trying_299 rfl ?_
  refine lv_aload_n hx hb dX12_trying_300 rfl (lv_at hl 0 rfl) ?_
  refine rG_65 hx hb hts i_X12_trying_X12 hown hK hP (hts (.fieldLink RX12 177 "StatementRules2Model" "fs" "[I") k_X12_trying_fieldLink_RX12_177_SRModel_fs_I) dX12_trying_301 ?_
  refine lv_iload_n hx hb dX12_trying_304 rfl (lv_at hl 1 rfl) ?_
  refine lv_iconst (v := 2) hx hb dX12_trying_305 (by decide) ?_
  refine rS_65 hx hb hK hP hD hS b43 dX12_trying_306 (fun H locs hP hD hS => ?_)
  refine lv_goto (tgt := 519) hx hb dX12_trying_307 (by decide) ?_
  obtain rfl := Option.some.inj hf
  exact W.vret hx hb hr (fun t ht hW => ⟨⟨(), rfl, trivial, by rw [ht]; exact hP, va_K.moved hW.alike hK, hD⟩, hS.F ht⟩) hS.2.2 dX12_trying_519
set_option maxHeartbeats 4000000 in
set_option maxRecDepth 100000 in
theorem j_X12_trying_417 {p : Program} {e : Env} {s : State} {m : MethodId} {args : Array Value} {below : List Frame} {meth : Method} {c : Code} {A : Nat → Prop} (l : Launch) (dC : Nat → ClassId) (dI : Nat → Nat → Nat) (Q : RQ) (N : Nat) (R : RS) (hx : p.tables.exec = Jvm.exec) (hb : c.code = cX12_trying) (hr : meth.sig.returnType = none) (hml : c.maxLocals = 3) (hown : s.vm.findClass RX12 = some m.cls) (hts : ∀ w ∈ wzX12_trying, w.before args s = true) (hlocks : meth.locks = false) (hZ : zAMB s) (hA : ∀ q : Nat, s.heap.size ≤ q → A q) (hK : va_K (dC, dI) vwCl (rT Q) s) : ∀ (σ : RS) (x1 : Int32) (H : Heap) (locs : List Loc) (ls : Array Slot), f_X12_trying_417 N σ x1 = some R → va_P (dC, dI) vwCl (rW Q σ) H → va_D A (rW Q σ) → va_S A s.heap H locs → lv_has ls 3 [(0, .ref Q.h0), (1, .int x1)] → W p l e ({ frames := 7, cells := 0, slots := 0, locals := 420 }) s m args below meth c H locs 0 0 (MQ below (va_Qv (fun (_ : Unit) => True) (fun (_ : Unit) (t : State) => zPost dC dI A (rW Q R) (rT Q) t) A) args s 0 0 A) (F0 m 417 ls []) := by
  intro σ x1 H locs ls hf hP hD hS hl
  unfold f_X12_trying_417 at hf
  refine lv_aload_n hx hb dX12_trying_417 rfl (lv_at hl 0 rfl) ?_
  refine lv_dup hx hb dX12_trying_418 rfl ?_
  refine rG_56 (v := (σ.i 56)) hx hb hts i_X12_trying_X12 hown hK hP (hts (.fieldLink RX12 377 "StatementRules2Model" "walls" "I") k_X12_trying_fieldLink_RX12_377_SRModel_walls_I) dX12_trying_419 rfl ?_
  refine lv_iconst (v := 1) hx hb dX12_trying_422 (by decide) ?_
  refine lv_isub hx hb dX12_trying_423 ?_
  refine rP_56 hx hb hts i_X12_trying_X12 hown hK hP hD hS (hts (.fieldLink RX12 377 "StatementRules2Model" "walls" "I") k_X12_trying_fieldLink_RX12_377_SRModel_walls_I) dX12_trying_424 (fun H locs hP hD hS => ?_)
  refine lv_aload_n hx hb dX12_trying_427 rfl (lv_at hl 0 rfl) ?_
  refine lv_iload_n hx hb dX12_trying_428 rfl (lv_at hl 1 rfl) ?_
  refine lv_iconst (v := 1) hx hb dX12_trying_429 (by decide) ?_
  obtain ⟨p53, hcp53, hf⟩ := hf_bind hf
  have hFc := r_free hD hS hA
  refine va_callv (va_runV (As := [.int x1, .int 1]) (rest := []) ⟨hx, hb, hml, hown, hts⟩ (c_X12_endTry l dC dI _ Q N (RS.setI σ 56 ((σ.i 56) - 1)) x1 1 p53 hcp53) (cwV 2 hts hX12_trying_X12_endTry_v555 rfl rfl rfl (by decide +kernel) ⟨Nat.le_of_ble_eq_true rfl, Nat.le_of_ble_eq_true rfl⟩) ⟨zPre.blind, va_recv hK hP (ci := 11) (q0 := 0) rfl rfl, zPre.go hZ hP hK hD⟩ rfl rfl hl.1 rfl (lv_room (Nat.le_of_ble_eq_true rfl)) dX12_trying_430 ⟨Nat.le_of_ble_eq_true rfl, Nat.le_of_ble_eq_true rfl⟩) hS (fun q _ h => hFc q h) hFc (fun u9 t9 H1 locs ht hvm hw hB hz1 hk1 hS => ?_)
  obtain ⟨hP, hK1, hD1⟩ := hB
  rw [ht] at hP
  have hD := hD1.weaken (fun _ _ _ h => hFc _ h)
  generalize H1 = H at hP hS ⊢
  refine lv_goto (tgt := 519) hx hb dX12_trying_433 (by decide) ?_
  obtain rfl := Option.some.inj hf
  exact W.vret hx hb hr (fun t ht hW => ⟨⟨(), rfl, trivial, by rw [ht]; exact hP, va_K.moved hW.alike hK, hD⟩, hS.F ht⟩) hS.2.2 dX12_trying_519
set_option maxHeartbeats 4000000 in
set_option maxRecDepth 100000 in
theorem j_X12_trying_464 {p : Program} {e : Env} {s : State} {m : MethodId} {args : Array Value} {below : List Frame} {meth : Method} {c : Code} {A : Nat → Prop} (l : Launch) (dC : Nat → ClassId) (dI : Nat → Nat → Nat) (Q : RQ) (N : Nat) (R : RS) (hx : p.tables.exec = Jvm.exec) (hb : c.code = cX12_trying) (hr : meth.sig.returnType = none) (hml : c.maxLocals = 3) (hown : s.vm.findClass RX12 = some m.cls) (hts : ∀ w ∈ wzX12_trying, w.before args s = true) (hlocks : meth.locks = false) (hZ : zAMB s) (hA : ∀ q : Nat, s.heap.size ≤ q → A q) (hK : va_K (dC, dI) vwCl (rT Q) s) : ∀ (σ : RS) (x1 : Int32) (H : Heap) (locs : List Loc) (ls : Array Slot), f_X12_trying_464 N σ x1 = some R → va_P (dC, dI) vwCl (rW Q σ) H → va_D A (rW Q σ) → va_S A s.heap H locs → lv_has ls 3 [(0, .ref Q.h0), (1, .int x1)] → W p l e ({ frames := 7, cells := 0, slots := 0, locals := 420 }) s m args below meth c H locs 0 0 (MQ below (va_Qv (fun (_ : Unit) => True) (fun (_ : Unit) (t : State) => zPost dC dI A (rW Q R) (rT Q) t) A) args s 0 0 A) (F0 m 464 ls []) := by
  intro σ x1 H locs ls hf hP hD hS hl
  unfold f_X12_trying_464 at hf
  refine lv_aload_n hx hb dX12_trying_464 rfl (lv_at hl 0 rfl) ?_
  refine lv_bipush (v := 34) hx hb dX12_trying_465 (by decide) ?_
  refine lv_aload_n hx hb dX12_trying_467 rfl (lv_at hl 0 rfl) ?_
  refine rG_66 hx hb hts i_X12_trying_X12 hown hK hP (hts (.fieldLink RX12 180 "StatementRules2Model" "fp" "[I") k_X12_trying_fieldLink_RX12_180_SRModel_fp_I) dX12_trying_468 ?_
  refine lv_iload_n hx hb dX12_trying_471 rfl (lv_at hl 1 rfl) ?_
  obtain ⟨b71, hf⟩ := hf_ite hf
  refine rL_66 (v := (σ.a 66 ((x1 : Int32).toNatClampNeg))) hx hb hK hP b71 dX12_trying_472 rfl ?_
  obtain ⟨p72, hcp72, hf⟩ := hf_bind hf
  have hFc := r_free hD hS hA
  refine va_calli (va_runV (As := [.int 34, .int (σ.a 66 ((x1 : Int32).toNatClampNeg))]) (rest := []) ⟨hx, hb, hml, hown, hts⟩ (c_X12_emit l dC dI _ Q N σ 34 (σ.a 66 ((x1 : Int32).toNatClampNeg)) p72 hcp72) (cwV 2 hts hX12_trying_X12_emit_v464 rfl rfl rfl (by decide +kernel) ⟨Nat.le_of_ble_eq_true rfl, Nat.le_of_ble_eq_true rfl⟩) ⟨zPre.blind, va_recv hK hP (ci := 11) (q0 := 0) rfl rfl, zPre.go hZ hP hK hD⟩ rfl rfl hl.1 rfl (lv_room (Nat.le_of_ble_eq_true rfl)) dX12_trying_473 ⟨Nat.le_of_ble_eq_true rfl, Nat.le_of_ble_eq_true rfl⟩) hS (fun q _ h => hFc q h) hFc (fun r73 u9 t9 H1 locs ht hvm hw hB hz1 hk1 hS => ?_)
  obtain ⟨hP, hK1, hD1⟩ := hB
  rw [ht] at hP
  have hD := hD1.weaken (fun _ _ _ h => hFc _ h)
  generalize H1 = H at hP hS ⊢
  obtain rfl : r73 = p72.1 := hw
  refine lv_pop hx hb dX12_trying_476 rfl ?_
  refine lv_aload_n hx hb dX12_trying_477 rfl (lv_at hl 0 rfl) ?_
  refine lv_aload_n hx hb dX12_trying_478 rfl (lv_at hl 0 rfl) ?_
  refine rG_71 hx hb hts i_X12_trying_X12 hown hK hP (hts (.fieldLink RX12 195 "StatementRules2Model" "fx" "[I") k_X12_trying_fieldLink_RX12_195_SRModel_fx_I) dX12_trying_479 ?_
  refine lv_iload_n hx hb dX12_trying_482 rfl (lv_at hl 1 rfl) ?_
  refine rL_71 (v := (p72.2.a 71 ((x1 : Int32).toNatClampNeg))) hx hb hK hP b71 dX12_trying_483 rfl ?_
  refine rP_38 hx hb hts i_X12_trying_X12 hown hK hP hD hS (hts (.fieldLink RX12 361 "StatementRules2Model" "seen" "I") k_X12_trying_fieldLink_RX12_361_SRModel_seen_I) dX12_trying_484 (fun H locs hP hD hS => ?_)
  refine lv_aload_n hx hb dX12_trying_487 rfl (lv_at hl 0 rfl) ?_
  refine rG_65 hx hb hts i_X12_trying_X12 hown hK hP (hts (.fieldLink RX12 177 "StatementRules2Model" "fs" "[I") k_X12_trying_fieldLink_RX12_177_SRModel_fs_I) dX12_trying_488 ?_
  refine lv_iload_n hx hb dX12_trying_491 rfl (lv_at hl 1 rfl) ?_
  refine lv_iconst (v := 2) hx hb dX12_trying_492 (by decide) ?_
  refine rS_65 hx hb hK hP hD hS b71 dX12_trying_493 (fun H locs hP hD hS => ?_)
  refine lv_goto (tgt := 519) hx hb dX12_trying_494 (by decide) ?_
  obtain rfl := Option.some.inj hf
  exact W.vret hx hb hr (fun t ht hW => ⟨⟨(), rfl, trivial, by rw [ht]; exact hP, va_K.moved hW.alike hK, hD⟩, hS.F ht⟩) hS.2.2 dX12_trying_519
set_option maxHeartbeats 4000000 in
set_option maxRecDepth 100000 in
theorem c_X12_trying (l : Launch) (dC : Nat → ClassId) (dI : Nat → Nat → Nat) (sz : Nat) (Q : RQ) (N : Nat) (σ : RS) (x1 : Int32) (R : RS) (hf : f_X12_trying N σ x1 = some R) : Met l yX12_trying wzX12_trying ({ frames := 7, cells := 0, slots := 0, locals := 420 }) (va_Pc [.ref Q.h0, .int x1] (zPre dC dI sz (rW Q σ) (rT Q))) (va_Qv (fun (_ : Unit) => True) (fun (_ : Unit) (t : State) => zPost dC dI (va_A (rW Q σ) sz) (rW Q R) (rT Q) t) (va_A (rW Q σ) sz)) 0 0 (va_A (rW Q σ) sz) := by
  refine Met.ofW (cc := cX12_trying) (maxL := 3) (ret := none) (by decide) rfl ?_
  intro p e s m args below meth c s₁ B hml hv
  obtain ⟨rfl, hsz, hZ, hP, hK, hD0⟩ := hv
  have hx := B.exec
  have hb := B.bytes
  have hr := B.returns
  have hts := atoms_spec (ws := wzX12_trying) B.pre
  have hown : s.vm.findClass RX12 = some m.cls := findClass_of_methodNamed B.named
  have hlocks := B.notSynchronized
  subst hsz
  have hD := hD0.self (sz := s.heap.size)
  generalize hAe : va_A (rW Q σ) s.heap.size = A at hD ⊢
  have hA : ∀ q : Nat, s.heap.size ≤ q → A q := fun q h => by rw [← hAe]; exact Or.inr h
  have hS : va_S A s.heap s.heap [] := va_S.rf
  have hl := lv_entry ([.ref Q.h0, .int x1]) (n := 3) (Nat.le_of_ble_eq_true rfl)
  rw [lg_entry_eq]
  generalize (lg_sl ([.ref Q.h0, .int x1]) ++ List.replicate (3 - (lg_sl ([.ref Q.h0, .int x1])).length) Slot.unset).toArray = ls at hl ⊢
  have hl : lv_has ls 3 [(0, .ref Q.h0), (1, .int x1)] := hl
  unfold f_X12_trying at hf
  refine lv_aload_n hx hb dX12_trying_0 rfl (lv_at hl 0 rfl) ?_
  refine rG_65 hx hb hts i_X12_trying_X12 hown hK hP (hts (.fieldLink RX12 177 "StatementRules2Model" "fs" "[I") k_X12_trying_fieldLink_RX12_177_SRModel_fs_I) dX12_trying_1 ?_
  refine lv_iload_n hx hb dX12_trying_4 rfl (lv_at hl 1 rfl) ?_
  obtain ⟨b1, hf⟩ := hf_ite hf
  refine rL_65 (v := (σ.a 65 ((x1 : Int32).toNatClampNeg))) hx hb hK hP b1 dX12_trying_5 rfl ?_
  by_cases c2 : (σ.a 65 ((x1 : Int32).toNatClampNeg)) = 0
  ·
    replace hf := (if_pos c2).symm.trans hf
    refine lv_tableIn (off := 30) (tgt := 36) hx hb dX12_trying_6 (by rw [c2]; decide) (by rw [c2]; decide) (by rw [c2]; decide) (by decide) ?_
    refine lv_aload_n hx hb dX12_trying_36 rfl (lv_at hl 0 rfl) ?_
    obtain ⟨p3, hcp3, hf⟩ := hf_bind hf
    have hFc := r_free hD hS hA
    refine va_callv (va_runV (As := []) (rest := []) ⟨hx, hb, hml, hown, hts⟩ (c_X12_next l dC dI _ Q N σ p3 hcp3) (cwV 0 hts hX12_trying_X12_next_v345 rfl rfl rfl (by decide +kernel) ⟨Nat.le_of_ble_eq_true rfl, Nat.le_of_ble_eq_true rfl⟩) ⟨zPre.blind, va_recv hK hP (ci := 11) (q0 := 0) rfl rfl, zPre.go hZ hP hK hD⟩ rfl rfl hl.1 rfl (lv_room (Nat.le_of_ble_eq_true rfl)) dX12_trying_37 ⟨Nat.le_of_ble_eq_true rfl, Nat.le_of_ble_eq_true rfl⟩) hS (fun q _ h => hFc q h) hFc (fun u9 t9 H1 locs ht hvm hw hB hz1 hk1 hS => ?_)
    obtain ⟨hP, hK1, hD1⟩ := hB
    rw [ht] at hP
    have hD := hD1.weaken (fun _ _ _ h => hFc _ h)
    generalize H1 = H at hP hS ⊢
    refine lv_aload_n hx hb dX12_trying_40 rfl (lv_at hl 0 rfl) ?_
    refine rG_66 hx hb hts i_X12_trying_X12 hown hK hP (hts (.fieldLink RX12 180 "StatementRules2Model" "fp" "[I") k_X12_trying_fieldLink_RX12_180_SRModel_fp_I) dX12_trying_41 ?_
    refine lv_iload_n hx hb dX12_trying_44 rfl (lv_at hl 1 rfl) ?_
    refine lv_aload_n hx hb dX12_trying_45 rfl (lv_at hl 0 rfl) ?_
    refine rG_29 (v := (p3.i 29)) hx hb hts i_X12_trying_X12 hown hK hP (hts (.fieldLink RX12 549 "StatementRules2Model" "tries" "I") k_X12_trying_fieldLink_RX12_549_SRModel_tries_I) dX12_trying_46 rfl ?_
    refine rS_66 hx hb hK hP hD hS b1 dX12_trying_49 (fun H locs hP hD hS => ?_)
    refine lv_aload_n hx hb dX12_trying_50 rfl (lv_at hl 0 rfl) ?_
    refine rG_30 hx hb hts i_X12_trying_X12 hown hK hP (hts (.fieldLink RX12 105 "StatementRules2Model" "tryCatch" "[I") k_X12_trying_fieldLink_RX12_105_SRModel_tryCatch_I) dX12_trying_51 ?_
    refine lv_aload_n hx hb dX12_trying_54 rfl (lv_at hl 0 rfl) ?_
    refine rG_29 (v := (p3.i 29)) hx hb hts i_X12_trying_X12 hown hK hP (hts (.fieldLink RX12 549 "StatementRules2Model" "tries" "I") k_X12_trying_fieldLink_RX12_549_SRModel_tries_I) dX12_trying_55 rfl ?_
    refine lv_iconst (v := (-1)) hx hb dX12_trying_58 (by decide) ?_
    obtain ⟨b5, hf⟩ := hf_ite hf
    refine rS_30 hx hb hK hP hD hS b5 dX12_trying_59 (fun H locs hP hD hS => ?_)
    refine lv_aload_n hx hb dX12_trying_60 rfl (lv_at hl 0 rfl) ?_
    refine rG_31 hx hb hts i_X12_trying_X12 hown hK hP (hts (.fieldLink RX12 108 "StatementRules2Model" "tryFinal" "[I") k_X12_trying_fieldLink_RX12_108_SRModel_tryFinal_I) dX12_trying_61 ?_
    refine lv_aload_n hx hb dX12_trying_64 rfl (lv_at hl 0 rfl) ?_
    refine rG_29 (v := (p3.i 29)) hx hb hts i_X12_trying_X12 hown hK hP (hts (.fieldLink RX12 549 "StatementRules2Model" "tries" "I") k_X12_trying_fieldLink_RX12_549_SRModel_tries_I) dX12_trying_65 rfl ?_
    refine lv_iconst (v := (-1)) hx hb dX12_trying_68 (by decide) ?_
    refine rS_31 hx hb hK hP hD hS b5 dX12_trying_69 (fun H locs hP hD hS => ?_)
    refine lv_aload_n hx hb dX12_trying_70 rfl (lv_at hl 0 rfl) ?_
    refine lv_dup hx hb dX12_trying_71 rfl ?_
    refine rG_29 (v := (p3.i 29)) hx hb hts i_X12_trying_X12 hown hK hP (hts (.fieldLink RX12 549 "StatementRules2Model" "tries" "I") k_X12_trying_fieldLink_RX12_549_SRModel_tries_I) dX12_trying_72 rfl ?_
    refine lv_iconst (v := 1) hx hb dX12_trying_75 (by decide) ?_
    refine lv_iadd hx hb dX12_trying_76 ?_
    refine rP_29 hx hb hts i_X12_trying_X12 hown hK hP hD hS (hts (.fieldLink RX12 549 "StatementRules2Model" "tries" "I") k_X12_trying_fieldLink_RX12_549_SRModel_tries_I) dX12_trying_77 (fun H locs hP hD hS => ?_)
    refine lv_aload_n hx hb dX12_trying_80 rfl (lv_at hl 0 rfl) ?_
    refine lv_bipush (v := 31) hx hb dX12_trying_81 (by decide) ?_
    refine lv_aload_n hx hb dX12_trying_83 rfl (lv_at hl 0 rfl) ?_
    refine rG_66 hx hb hts i_X12_trying_X12 hown hK hP (hts (.fieldLink RX12 180 "StatementRules2Model" "fp" "[I") k_X12_trying_fieldLink_RX12_180_SRModel_fp_I) dX12_trying_84 ?_
    refine lv_iload_n hx hb dX12_trying_87 rfl (lv_at hl 1 rfl) ?_
    refine rL_66 (v := ((upd (p3.a 66) ((x1 : Int32).toNatClampNeg) (p3.i 29)) ((x1 : Int32).toNatClampNeg))) hx hb hK hP b1 dX12_trying_88 rfl ?_
    obtain ⟨p6, hcp6, hf⟩ := hf_bind hf
    have hFc := r_free hD hS hA
    refine va_calli (va_runV (As := [.int 31, .int ((upd (p3.a 66) ((x1 : Int32).toNatClampNeg) (p3.i 29)) ((x1 : Int32).toNatClampNeg))]) (rest := []) ⟨hx, hb, hml, hown, hts⟩ (c_X12_emit l dC dI _ Q N (RS.setI (RS.setA (RS.setA (RS.setA p3 66 ((x1 : Int32).toNatClampNeg) (p3.i 29)) 30 (((p3.i 29) : Int32).toNatClampNeg) (-1)) 31 (((p3.i 29) : Int32).toNatClampNeg) (-1)) 29 ((p3.i 29) + 1)) 31 ((upd (p3.a 66) ((x1 : Int32).toNatClampNeg) (p3.i 29)) ((x1 : Int32).toNatClampNeg)) p6 hcp6) (cwV 2 hts hX12_trying_X12_emit_v464 rfl rfl rfl (by decide +kernel) ⟨Nat.le_of_ble_eq_true rfl, Nat.le_of_ble_eq_true rfl⟩) ⟨zPre.blind, va_recv hK hP (ci := 11) (q0 := 0) rfl rfl, zPre.go hZ hP hK hD⟩ rfl rfl hl.1 rfl (lv_room (Nat.le_of_ble_eq_true rfl)) dX12_trying_89 ⟨Nat.le_of_ble_eq_true rfl, Nat.le_of_ble_eq_true rfl⟩) hS (fun q _ h => hFc q h) hFc (fun r7 u9 t9 H1 locs ht hvm hw hB hz1 hk1 hS => ?_)
    obtain ⟨hP, hK1, hD1⟩ := hB
    rw [ht] at hP
    have hD := hD1.weaken (fun _ _ _ h => hFc _ h)
    generalize H1 = H at hP hS ⊢
    obtain rfl : r7 = p6.1 := hw
    refine lv_pop hx hb dX12_trying_92 rfl ?_
    refine lv_aload_n hx hb dX12_trying_93 rfl (lv_at hl 0 rfl) ?_
    refine lv_dup hx hb dX12_trying_94 rfl ?_
    refine rG_52 (v := (p6.2.i 52)) hx hb hts i_X12_trying_X12 hown hK hP (hts (.fieldLink RX12 370 "StatementRules2Model" "depth" "I") k_X12_trying_fieldLink_RX12_370_SRModel_depth_I) dX12_trying_95 rfl ?_
    refine lv_iconst (v := 1) hx hb dX12_trying_98 (by decide) ?_
    refine lv_iadd hx hb dX12_trying_99 ?_
    refine rP_52 hx hb hts i_X12_trying_X12 hown hK hP hD hS (hts (.fieldLink RX12 370 "StatementRules2Model" "depth" "I") k_X12_trying_fieldLink_RX12_370_SRModel_depth_I) dX12_trying_100 (fun H locs hP hD hS => ?_)
    refine lv_aload_n hx hb dX12_trying_103 rfl (lv_at hl 0 rfl) ?_
    refine rG_67 hx hb hts i_X12_trying_X12 hown hK hP (hts (.fieldLink RX12 183 "StatementRules2Model" "fq" "[I") k_X12_trying_fieldLink_RX12_183_SRModel_fq_I) dX12_trying_104 ?_
    refine lv_iload_n hx hb dX12_trying_107 rfl (lv_at hl 1 rfl) ?_
    refine lv_aload_n hx hb dX12_trying_108 rfl (lv_at hl 0 rfl) ?_
    refine rG_10 (v := (p6.2.i 10)) hx hb hts i_X12_trying_X12 hown hK hP (hts (.fieldLink RX12 307 "StatementRules2Model" "tok" "I") k_X12_trying_fieldLink_RX12_307_SRModel_tok_I) dX12_trying_109 rfl ?_
    refine lv_sipush (v := 424) hx hb dX12_trying_112 (by decide) ?_
    refine lv_icmp_ne (tgt := 122) hx hb dX12_trying_115 (by decide) (fun c8 => ?_) (fun c8 => ?_)
    ·
      replace hf := (if_neg c8).symm.trans hf
      refine lv_iconst (v := 0) hx hb dX12_trying_122 (by decide) ?_
      refine rS_67 hx hb hK hP hD hS b1 dX12_trying_123 (fun H locs hP hD hS => ?_)
      exact j_X12_trying_124 l dC dI Q N R hx hb hr hml hown hts hlocks hZ hA hK (RS.setA (RS.setI p6.2 52 ((p6.2.i 52) + 1)) 67 ((x1 : Int32).toNatClampNeg) 0) x1 _ _ _ hf hP hD hS (lv_sub hl [0, 1] rfl)
    ·
      replace hf := (if_pos c8).symm.trans hf
      refine lv_iconst (v := 1) hx hb dX12_trying_118 (by decide) ?_
      refine lv_goto (tgt := 123) hx hb dX12_trying_119 (by decide) ?_
      refine rS_67 hx hb hK hP hD hS b1 dX12_trying_123 (fun H locs hP hD hS => ?_)
      exact j_X12_trying_124 l dC dI Q N R hx hb hr hml hown hts hlocks hZ hA hK (RS.setA (RS.setI p6.2 52 ((p6.2.i 52) + 1)) 67 ((x1 : Int32).toNatClampNeg) 1) x1 _ _ _ hf hP hD hS (lv_sub hl [0, 1] rfl)
  replace hf := (if_neg c2).symm.trans hf
  by_cases c41 : (σ.a 65 ((x1 : Int32).toNatClampNeg)) = 1
  ·
    replace hf := (if_pos c41).symm.trans hf
    refine lv_tableIn (off := 263) (tgt := 269) hx hb dX12_trying_6 (by rw [c41]; decide) (by rw [c41]; decide) (by rw [c41]; decide) (by decide) ?_
    refine lv_aload_n hx hb dX12_trying_269 rfl (lv_at hl 0 rfl) ?_
    refine rG_68 hx hb hts i_X12_trying_X12 hown hK hP (hts (.fieldLink RX12 186 "StatementRules2Model" "fr" "[I") k_X12_trying_fieldLink_RX12_186_SRModel_fr_I) dX12_trying_270 ?_
    refine lv_iload_n hx hb dX12_trying_273 rfl (lv_at hl 1 rfl) ?_
    refine lv_aload_n hx hb dX12_trying_274 rfl (lv_at hl 0 rfl) ?_
    refine rG_75 (v := (σ.i 75)) hx hb hts i_X12_trying_X12 hown hK hP (hts (.fieldLink RX12 396 "StatementRules2Model" "res" "Z") k_X12_trying_fieldLink_RX12_396_SRModel_res_Z) dX12_trying_275 rfl ?_
    refine lv_if_eq (tgt := 285) hx hb dX12_trying_278 (by decide) (fun c42 => ?_) (fun c42 => ?_)
    ·
      replace hf := (if_pos c42).symm.trans hf
      refine lv_iconst (v := 0) hx hb dX12_trying_285 (by decide) ?_
      refine rS_68 hx hb hK hP hD hS b1 dX12_trying_286 (fun H locs hP hD hS => ?_)
      exact j_X12_trying_287 l dC dI Q N R hx hb hr hml hown hts hlocks hZ hA hK (RS.setA σ 68 ((x1 : Int32).toNatClampNeg) 0) x1 _ _ _ hf hP hD hS (lv_sub hl [0, 1] rfl)
    ·
      replace hf := (if_neg c42).symm.trans hf
      refine lv_iconst (v := 1) hx hb dX12_trying_281 (by decide) ?_
      refine lv_goto (tgt := 286) hx hb dX12_trying_282 (by decide) ?_
      refine rS_68 hx hb hK hP hD hS b1 dX12_trying_286 (fun H locs hP hD hS => ?_)
      exact j_X12_trying_287 l dC dI Q N R hx hb hr hml hown hts hlocks hZ hA hK (RS.setA σ 68 ((x1 : Int32).toNatClampNeg) 1) x1 _ _ _ hf hP hD hS (lv_sub hl [0, 1] rfl)
  replace hf := (if_neg c41).symm.trans hf
  by_cases c46 : (σ.a 65 ((x1 : Int32).toNatClampNeg)) = 2
  ·
    replace hf := (if_pos c46).symm.trans hf
    refine lv_tableIn (off := 304) (tgt := 310) hx hb dX12_trying_6 (by rw [c46]; decide) (by rw [c46]; decide) (by rw [c46]; decide) (by decide) ?_
    refine lv_aload_n hx hb dX12_trying_310 rfl (lv_at hl 0 rfl) ?_
    refine rG_10 (v := (σ.i 10)) hx hb hts i_X12_trying_X12 hown hK hP (hts (.fieldLink RX12 307 "StatementRules2Model" "tok" "I") k_X12_trying_fieldLink_RX12_307_SRModel_tok_I) dX12_trying_311 rfl ?_
    refine lv_sipush (v := 425) hx hb dX12_trying_314 (by decide) ?_
    refine lv_icmp_ne (tgt := 338) hx hb dX12_trying_317 (by decide) (fun c47 => ?_) (fun c47 => ?_)
    ·
      replace hf := (if_neg c47).symm.trans hf
      refine lv_aload_n hx hb dX12_trying_338 rfl (lv_at hl 0 rfl) ?_
      refine rG_10 (v := (σ.i 10)) hx hb hts i_X12_trying_X12 hown hK hP (hts (.fieldLink RX12 307 "StatementRules2Model" "tok" "I") k_X12_trying_fieldLink_RX12_307_SRModel_tok_I) dX12_trying_339 rfl ?_
      refine lv_sipush (v := 426) hx hb dX12_trying_342 (by decide) ?_
      refine lv_icmp_ne (tgt := 386) hx hb dX12_trying_345 (by decide) (fun c48 => ?_) (fun c48 => ?_)
      ·
        replace hf := (if_neg c48).symm.trans hf
        refine lv_aload_n hx hb dX12_trying_386 rfl (lv_at hl 0 rfl) ?_
        refine lv_aload_n hx hb dX12_trying_387 rfl (lv_at hl 0 rfl) ?_
        refine rG_67 hx hb hts i_X12_trying_X12 hown hK hP (hts (.fieldLink RX12 183 "StatementRules2Model" "fq" "[I") k_X12_trying_fieldLink_RX12_183_SRModel_fq_I) dX12_trying_388 ?_
        refine lv_iload_n hx hb dX12_trying_391 rfl (lv_at hl 1 rfl) ?_
        refine rL_67 (v := (σ.a 67 ((x1 : Int32).toNatClampNeg))) hx hb hK hP b1 dX12_trying_392 rfl ?_
        refine lv_iconst (v := 1) hx hb dX12_trying_393 (by decide) ?_
        refine lv_icmp_eq (tgt := 406) hx hb dX12_trying_394 (by decide) (fun c49 => ?_) (fun c49 => ?_)
        ·
          replace hf := (if_pos c49).symm.trans hf
          refine lv_iconst (v := 1) hx hb dX12_trying_406 (by decide) ?_
          refine lv_goto (tgt := 411) hx hb dX12_trying_407 (by decide) ?_
          obtain ⟨p50, hcp50, hf⟩ := hf_bind hf
          have hFc := r_free hD hS hA
          refine va_calli (va_runV (As := [.int 1]) (rest := []) ⟨hx, hb, hml, hown, hts⟩ (c_X12_can l dC dI _ Q N σ 1 p50 hcp50) (cwV 1 hts hX12_trying_X12_can_v341 rfl rfl rfl (by decide +kernel) ⟨Nat.le_of_ble_eq_true rfl, Nat.le_of_ble_eq_true rfl⟩) ⟨zPre.blind, va_recv hK hP (ci := 11) (q0 := 0) rfl rfl, zPre.go hZ hP hK hD⟩ rfl rfl hl.1 rfl (lv_room (Nat.le_of_ble_eq_true rfl)) dX12_trying_411 ⟨Nat.le_of_ble_eq_true rfl, Nat.le_of_ble_eq_true rfl⟩) hS (fun q _ h => hFc q h) hFc (fun r51 u9 t9 H1 locs ht hvm hw hB hz1 hk1 hS => ?_)
          obtain ⟨hP, hK1, hD1⟩ := hB
          rw [ht] at hP
          have hD := hD1.weaken (fun _ _ _ h => hFc _ h)
          generalize H1 = H at hP hS ⊢
          obtain rfl : r51 = p50.1 := hw
          refine lv_if_eq (tgt := 519) hx hb dX12_trying_414 (by decide) (fun c52 => ?_) (fun c52 => ?_)
          ·
            replace hf := (if_pos c52).symm.trans hf
            obtain rfl := Option.some.inj hf
            exact W.vret hx hb hr (fun t ht hW => ⟨⟨(), rfl, trivial, by rw [ht]; exact hP, va_K.moved hW.alike hK, hD⟩, hS.F ht⟩) hS.2.2 dX12_trying_519
          ·
            replace hf := (if_neg c52).symm.trans hf
            exact j_X12_trying_417 l dC dI Q N R hx hb hr hml hown hts hlocks hZ hA hK p50.2 x1 _ _ _ hf hP hD hS (lv_sub hl [0, 1] rfl)
        ·
          replace hf := (if_neg c49).symm.trans hf
          refine lv_aload_n hx hb dX12_trying_397 rfl (lv_at hl 0 rfl) ?_
          refine rG_72 hx hb hts i_X12_trying_X12 hown hK hP (hts (.fieldLink RX12 198 "StatementRules2Model" "fy" "[I") k_X12_trying_fieldLink_RX12_198_SRModel_fy_I) dX12_trying_398 ?_
          refine lv_iload_n hx hb dX12_trying_401 rfl (lv_at hl 1 rfl) ?_
          refine rL_72 (v := (σ.a 72 ((x1 : Int32).toNatClampNeg))) hx hb hK hP b1 dX12_trying_402 rfl ?_
          refine lv_if_lt (tgt := 410) hx hb dX12_trying_403 (by decide) (fun c55 => ?_) (fun c55 => ?_)
          ·
            replace hf := (if_pos c55).symm.trans hf
            refine lv_iconst (v := 0) hx hb dX12_trying_410 (by decide) ?_
            obtain ⟨p56, hcp56, hf⟩ := hf_bind hf
            have hFc := r_free hD hS hA
            refine va_calli (va_runV (As := [.int 0]) (rest := []) ⟨hx, hb, hml, hown, hts⟩ (c_X12_can l dC dI _ Q N σ 0 p56 hcp56) (cwV 1 hts hX12_trying_X12_can_v341 rfl rfl rfl (by decide +kernel) ⟨Nat.le_of_ble_eq_true rfl, Nat.le_of_ble_eq_true rfl⟩) ⟨zPre.blind, va_recv hK hP (ci := 11) (q0 := 0) rfl rfl, zPre.go hZ hP hK hD⟩ rfl rfl hl.1 rfl (lv_room (Nat.le_of_ble_eq_true rfl)) dX12_trying_411 ⟨Nat.le_of_ble_eq_true rfl, Nat.le_of_ble_eq_true rfl⟩) hS (fun q _ h => hFc q h) hFc (fun r57 u9 t9 H1 locs ht hvm hw hB hz1 hk1 hS => ?_)
            obtain ⟨hP, hK1, hD1⟩ := hB
            rw [ht] at hP
            have hD := hD1.weaken (fun _ _ _ h => hFc _ h)
            generalize H1 = H at hP hS ⊢
            obtain rfl : r57 = p56.1 := hw
            refine lv_if_eq (tgt := 519) hx hb dX12_trying_414 (by decide) (fun c58 => ?_) (fun c58 => ?_)
            ·
              replace hf := (if_pos c58).symm.trans hf
              obtain rfl := Option.some.inj hf
              exact W.vret hx hb hr (fun t ht hW => ⟨⟨(), rfl, trivial, by rw [ht]; exact hP, va_K.moved hW.alike hK, hD⟩, hS.F ht⟩) hS.2.2 dX12_trying_519
            ·
              replace hf := (if_neg c58).symm.trans hf
              exact j_X12_trying_417 l dC dI Q N R hx hb hr hml hown hts hlocks hZ hA hK p56.2 x1 _ _ _ hf hP hD hS (lv_sub hl [0, 1] rfl)
          ·
            replace hf := (if_neg c55).symm.trans hf
            refine lv_iconst (v := 1) hx hb dX12_trying_406 (by decide) ?_
            refine lv_goto (tgt := 411) hx hb dX12_trying_407 (by decide) ?_
            obtain ⟨p59, hcp59, hf⟩ := hf_bind hf
            have hFc := r_free hD hS hA
            refine va_calli (va_runV (As := [.int 1]) (rest := []) ⟨hx, hb, hml, hown, hts⟩ (c_X12_can l dC dI _ Q N σ 1 p59 hcp59) (cwV 1 hts hX12_trying_X12_can_v341 rfl rfl rfl (by decide +kernel) ⟨Nat.le_of_ble_eq_true rfl, Nat.le_of_ble_eq_true rfl⟩) ⟨zPre.blind, va_recv hK hP (ci := 11) (q0 := 0) rfl rfl, zPre.go hZ hP hK hD⟩ rfl rfl hl.1 rfl (lv_room (Nat.le_of_ble_eq_true rfl)) dX12_trying_411 ⟨Nat.le_of_ble_eq_true rfl, Nat.le_of_ble_eq_true rfl⟩) hS (fun q _ h => hFc q h) hFc (fun r60 u9 t9 H1 locs ht hvm hw hB hz1 hk1 hS => ?_)
            obtain ⟨hP, hK1, hD1⟩ := hB
            rw [ht] at hP
            have hD := hD1.weaken (fun _ _ _ h => hFc _ h)
            generalize H1 = H at hP hS ⊢
            obtain rfl : r60 = p59.1 := hw
            refine lv_if_eq (tgt := 519) hx hb dX12_trying_414 (by decide) (fun c61 => ?_) (fun c61 => ?_)
            ·
              replace hf := (if_pos c61).symm.trans hf
              obtain rfl := Option.some.inj hf
              exact W.vret hx hb hr (fun t ht hW => ⟨⟨(), rfl, trivial, by rw [ht]; exact hP, va_K.moved hW.alike hK, hD⟩, hS.F ht⟩) hS.2.2 dX12_trying_519
            ·
              replace hf := (if_neg c61).symm.trans hf
              exact j_X12_trying_417 l dC dI Q N R hx hb hr hml hown hts hlocks hZ hA hK p59.2 x1 _ _ _ hf hP hD hS (lv_sub hl [0, 1] rfl)
      ·
        replace hf := (if_pos c48).symm.trans hf
        refine lv_aload_n hx hb dX12_trying_348 rfl (lv_at hl 0 rfl) ?_
        refine lv_dup hx hb dX12_trying_349 rfl ?_
        refine rG_56 (v := (σ.i 56)) hx hb hts i_X12_trying_X12 hown hK hP (hts (.fieldLink RX12 377 "StatementRules2Model" "walls" "I") k_X12_trying_fieldLink_RX12_377_SRModel_walls_I) dX12_trying_350 rfl ?_
        refine lv_iconst (v := 1) hx hb dX12_trying_353 (by decide) ?_
        refine lv_isub hx hb dX12_trying_354 ?_
        refine rP_56 hx hb hts i_X12_trying_X12 hown hK hP hD hS (hts (.fieldLink RX12 377 "StatementRules2Model" "walls" "I") k_X12_trying_fieldLink_RX12_377_SRModel_walls_I) dX12_trying_355 (fun H locs hP hD hS => ?_)
        refine lv_aload_n hx hb dX12_trying_358 rfl (lv_at hl 0 rfl) ?_
        obtain ⟨p62, hcp62, hf⟩ := hf_bind hf
        have hFc := r_free hD hS hA
        refine va_callv (va_runV (As := []) (rest := []) ⟨hx, hb, hml, hown, hts⟩ (c_X12_next l dC dI _ Q N (RS.setI σ 56 ((σ.i 56) - 1)) p62 hcp62) (cwV 0 hts hX12_trying_X12_next_v345 rfl rfl rfl (by decide +kernel) ⟨Nat.le_of_ble_eq_true rfl, Nat.le_of_ble_eq_true rfl⟩) ⟨zPre.blind, va_recv hK hP (ci := 11) (q0 := 0) rfl rfl, zPre.go hZ hP hK hD⟩ rfl rfl hl.1 rfl (lv_room (Nat.le_of_ble_eq_true rfl)) dX12_trying_359 ⟨Nat.le_of_ble_eq_true rfl, Nat.le_of_ble_eq_true rfl⟩) hS (fun q _ h => hFc q h) hFc (fun u9 t9 H1 locs ht hvm hw hB hz1 hk1 hS => ?_)
        obtain ⟨hP, hK1, hD1⟩ := hB
        rw [ht] at hP
        have hD := hD1.weaken (fun _ _ _ h => hFc _ h)
        generalize H1 = H at hP hS ⊢
        refine lv_aload_n hx hb dX12_trying_362 rfl (lv_at hl 0 rfl) ?_
        refine rG_31 hx hb hts i_X12_trying_X12 hown hK hP (hts (.fieldLink RX12 108 "StatementRules2Model" "tryFinal" "[I") k_X12_trying_fieldLink_RX12_108_SRModel_tryFinal_I) dX12_trying_363 ?_
        refine lv_aload_n hx hb dX12_trying_366 rfl (lv_at hl 0 rfl) ?_
        refine rG_66 hx hb hts i_X12_trying_X12 hown hK hP (hts (.fieldLink RX12 180 "StatementRules2Model" "fp" "[I") k_X12_trying_fieldLink_RX12_180_SRModel_fp_I) dX12_trying_367 ?_
        refine lv_iload_n hx hb dX12_trying_370 rfl (lv_at hl 1 rfl) ?_
        refine rL_66 (v := (p62.a 66 ((x1 : Int32).toNatClampNeg))) hx hb hK hP b1 dX12_trying_371 rfl ?_
        refine lv_aload_n hx hb dX12_trying_372 rfl (lv_at hl 0 rfl) ?_
        refine rG_20 (v := (p62.i 20)) hx hb hts i_X12_trying_X12 hown hK hP (hts (.fieldLink RX12 358 "StatementRules2Model" "codes" "I") k_X12_trying_fieldLink_RX12_358_SRModel_codes_I) dX12_trying_373 rfl ?_
        obtain ⟨b64, hf⟩ := hf_ite hf
        refine rS_31 hx hb hK hP hD hS b64 dX12_trying_376 (fun H locs hP hD hS => ?_)
        refine lv_aload_n hx hb dX12_trying_377 rfl (lv_at hl 0 rfl) ?_
        refine lv_iconst (v := 4) hx hb dX12_trying_378 (by decide) ?_
        refine lv_iconst (v := 3) hx hb dX12_trying_379 (by decide) ?_
        obtain ⟨p65, hcp65, hf⟩ := hf_bind hf
        have hFc := r_free hD hS hA
        refine va_callv (va_runV (As := [.int 4, .int 3]) (rest := []) ⟨hx, hb, hml, hown, hts⟩ (c_X12_then l dC dI _ Q N (RS.setA p62 31 (((p62.a 66 ((x1 : Int32).toNatClampNeg)) : Int32).toNatClampNeg) (p62.i 20)) 4 3 p65 hcp65) (cwV 2 hts hX12_trying_X12_then_v393 rfl rfl rfl (by decide +kernel) ⟨Nat.le_of_ble_eq_true rfl, Nat.le_of_ble_eq_true rfl⟩) ⟨zPre.blind, va_recv hK hP (ci := 11) (q0 := 0) rfl rfl, zPre.go hZ hP hK hD⟩ rfl rfl hl.1 rfl (lv_room (Nat.le_of_ble_eq_true rfl)) dX12_trying_380 ⟨Nat.le_of_ble_eq_true rfl, Nat.le_of_ble_eq_true rfl⟩) hS (fun q _ h => hFc q h) hFc (fun u9 t9 H1 locs ht hvm hw hB hz1 hk1 hS => ?_)
        obtain ⟨hP, hK1, hD1⟩ := hB
        rw [ht] at hP
        have hD := hD1.weaken (fun _ _ _ h => hFc _ h)
        generalize H1 = H at hP hS ⊢
        refine lv_goto (tgt := 519) hx hb dX12_trying_383 (by decide) ?_
        obtain rfl := Option.some.inj hf
        exact W.vret hx hb hr (fun t ht hW => ⟨⟨(), rfl, trivial, by rw [ht]; exact hP, va_K.moved hW.alike hK, hD⟩, hS.F ht⟩) hS.2.2 dX12_trying_519
    ·
      replace hf := (if_pos c47).symm.trans hf
      refine lv_aload_n hx hb dX12_trying_320 rfl (lv_at hl 0 rfl) ?_
      refine rG_71 hx hb hts i_X12_trying_X12 hown hK hP (hts (.fieldLink RX12 195 "StatementRules2Model" "fx" "[I") k_X12_trying_fieldLink_RX12_195_SRModel_fx_I) dX12_trying_321 ?_
      refine lv_iload_n hx hb dX12_trying_324 rfl (lv_at hl 1 rfl) ?_
      refine lv_aload_n hx hb dX12_trying_325 rfl (lv_at hl 0 rfl) ?_
      refine rG_38 (v := (σ.i 38)) hx hb hts i_X12_trying_X12 hown hK hP (hts (.fieldLink RX12 361 "StatementRules2Model" "seen" "I") k_X12_trying_fieldLink_RX12_361_SRModel_seen_I) dX12_trying_326 rfl ?_
      refine rS_71 hx hb hK hP hD hS b1 dX12_trying_329 (fun H locs hP hD hS => ?_)
      refine lv_aload_n hx hb dX12_trying_330 rfl (lv_at hl 0 rfl) ?_
      refine lv_iload_n hx hb dX12_trying_331 rfl (lv_at hl 1 rfl) ?_
      obtain ⟨p67, hcp67, hf⟩ := hf_bind hf
      have hFc := r_free hD hS hA
      refine va_callv (va_runV (As := [.int x1]) (rest := []) ⟨hx, hb, hml, hown, hts⟩ (c_X12_catching l dC dI _ Q N (RS.setA σ 71 ((x1 : Int32).toNatClampNeg) (σ.i 38)) x1 p67 hcp67) (cwV 1 hts hX12_trying_X12_catching_v552 rfl rfl rfl (by decide +kernel) ⟨Nat.le_of_ble_eq_true rfl, Nat.le_of_ble_eq_true rfl⟩) ⟨zPre.blind, va_recv hK hP (ci := 11) (q0 := 0) rfl rfl, zPre.go hZ hP hK hD⟩ rfl rfl hl.1 rfl (lv_room (Nat.le_of_ble_eq_true rfl)) dX12_trying_332 ⟨Nat.le_of_ble_eq_true rfl, Nat.le_of_ble_eq_true rfl⟩) hS (fun q _ h => hFc q h) hFc (fun u9 t9 H1 locs ht hvm hw hB hz1 hk1 hS => ?_)
      obtain ⟨hP, hK1, hD1⟩ := hB
      rw [ht] at hP
      have hD := hD1.weaken (fun _ _ _ h => hFc _ h)
      generalize H1 = H at hP hS ⊢
      refine lv_goto (tgt := 519) hx hb dX12_trying_335 (by decide) ?_
      obtain rfl := Option.some.inj hf
      exact W.vret hx hb hr (fun t ht hW => ⟨⟨(), rfl, trivial, by rw [ht]; exact hP, va_K.moved hW.alike hK, hD⟩, hS.F ht⟩) hS.2.2 dX12_trying_519
  replace hf := (if_neg c46).symm.trans hf
  by_cases c69 : (σ.a 65 ((x1 : Int32).toNatClampNeg)) = 3
  ·
    replace hf := (if_pos c69).symm.trans hf
    refine lv_tableIn (off := 430) (tgt := 436) hx hb dX12_trying_6 (by rw [c69]; decide) (by rw [c69]; decide) (by rw [c69]; decide) (by decide) ?_
    refine lv_aload_n hx hb dX12_trying_436 rfl (lv_at hl 0 rfl) ?_
    refine rG_68 hx hb hts i_X12_trying_X12 hown hK hP (hts (.fieldLink RX12 186 "StatementRules2Model" "fr" "[I") k_X12_trying_fieldLink_RX12_186_SRModel_fr_I) dX12_trying_437 ?_
    refine lv_iload_n hx hb dX12_trying_440 rfl (lv_at hl 1 rfl) ?_
    refine lv_aload_n hx hb dX12_trying_441 rfl (lv_at hl 0 rfl) ?_
    refine rG_75 (v := (σ.i 75)) hx hb hts i_X12_trying_X12 hown hK hP (hts (.fieldLink RX12 396 "StatementRules2Model" "res" "Z") k_X12_trying_fieldLink_RX12_396_SRModel_res_Z) dX12_trying_442 rfl ?_
    refine lv_if_ne (tgt := 458) hx hb dX12_trying_445 (by decide) (fun c70 => ?_) (fun c70 => ?_)
    ·
      replace hf := (if_neg c70).symm.trans hf
      refine lv_iconst (v := 1) hx hb dX12_trying_458 (by decide) ?_
      refine lv_goto (tgt := 463) hx hb dX12_trying_459 (by decide) ?_
      refine rS_68 hx hb hK hP hD hS b1 dX12_trying_463 (fun H locs hP hD hS => ?_)
      exact j_X12_trying_464 l dC dI Q N R hx hb hr hml hown hts hlocks hZ hA hK (RS.setA σ 68 ((x1 : Int32).toNatClampNeg) 1) x1 _ _ _ hf hP hD hS (lv_sub hl [0, 1] rfl)
    ·
      replace hf := (if_pos c70).symm.trans hf
      refine lv_aload_n hx hb dX12_trying_448 rfl (lv_at hl 0 rfl) ?_
      refine rG_68 hx hb hts i_X12_trying_X12 hown hK hP (hts (.fieldLink RX12 186 "StatementRules2Model" "fr" "[I") k_X12_trying_fieldLink_RX12_186_SRModel_fr_I) dX12_trying_449 ?_
      refine lv_iload_n hx hb dX12_trying_452 rfl (lv_at hl 1 rfl) ?_
      refine rL_68 (v := (σ.a 68 ((x1 : Int32).toNatClampNeg))) hx hb hK hP b1 dX12_trying_453 rfl ?_
      refine lv_iconst (v := 1) hx hb dX12_trying_454 (by decide) ?_
      refine lv_icmp_ne (tgt := 462) hx hb dX12_trying_455 (by decide) (fun c74 => ?_) (fun c74 => ?_)
      ·
        replace hf := (if_neg c74).symm.trans hf
        refine lv_iconst (v := 0) hx hb dX12_trying_462 (by decide) ?_
        refine rS_68 hx hb hK hP hD hS b1 dX12_trying_463 (fun H locs hP hD hS => ?_)
        exact j_X12_trying_464 l dC dI Q N R hx hb hr hml hown hts hlocks hZ hA hK (RS.setA σ 68 ((x1 : Int32).toNatClampNeg) 0) x1 _ _ _ hf hP hD hS (lv_sub hl [0, 1] rfl)
      ·
        replace hf := (if_pos c74).symm.trans hf
        refine lv_iconst (v := 1) hx hb dX12_trying_458 (by decide) ?_
        refine lv_goto (tgt := 463) hx hb dX12_trying_459 (by decide) ?_
        refine rS_68 hx hb hK hP hD hS b1 dX12_trying_463 (fun H locs hP hD hS => ?_)
        exact j_X12_trying_464 l dC dI Q N R hx hb hr hml hown hts hlocks hZ hA hK (RS.setA σ 68 ((x1 : Int32).toNatClampNeg) 1) x1 _ _ _ hf hP hD hS (lv_sub hl [0, 1] rfl)
  replace hf := (if_neg c69).symm.trans hf
  refine lv_tableOut (tgt := 497) hx hb dX12_trying_6 (by have := z_ton (a := 0) c2 (by decide); have := z_ton (a := 1) c41 (by decide); have := z_ton (a := 2) c46 (by decide); have := z_ton (a := 3) c69 (by decide); omega) (by decide) ?_
  refine lv_aload_n hx hb dX12_trying_497 rfl (lv_at hl 0 rfl) ?_
  refine lv_bipush (v := 35) hx hb dX12_trying_498 (by decide) ?_
  refine lv_aload_n hx hb dX12_trying_500 rfl (lv_at hl 0 rfl) ?_
  refine rG_66 hx hb hts i_X12_trying_X12 hown hK hP (hts (.fieldLink RX12 180 "StatementRules2Model" "fp" "[I") k_X12_trying_fieldLink_RX12_180_SRModel_fp_I) dX12_trying_501 ?_
  refine lv_iload_n hx hb dX12_trying_504 rfl (lv_at hl 1 rfl) ?_
  refine rL_66 (v := (σ.a 66 ((x1 : Int32).toNatClampNeg))) hx hb hK hP b1 dX12_trying_505 rfl ?_
  obtain ⟨p75, hcp75, hf⟩ := hf_bind hf
  have hFc := r_free hD hS hA
  refine va_calli (va_runV (As := [.int 35, .int (σ.a 66 ((x1 : Int32).toNatClampNeg))]) (rest := []) ⟨hx, hb, hml, hown, hts⟩ (c_X12_emit l dC dI _ Q N σ 35 (σ.a 66 ((x1 : Int32).toNatClampNeg)) p75 hcp75) (cwV 2 hts hX12_trying_X12_emit_v464 rfl rfl rfl (by decide +kernel) ⟨Nat.le_of_ble_eq_true rfl, Nat.le_of_ble_eq_true rfl⟩) ⟨zPre.blind, va_recv hK hP (ci := 11) (q0 := 0) rfl rfl, zPre.go hZ hP hK hD⟩ rfl rfl hl.1 rfl (lv_room (Nat.le_of_ble_eq_true rfl)) dX12_trying_506 ⟨Nat.le_of_ble_eq_true rfl, Nat.le_of_ble_eq_true rfl⟩) hS (fun q _ h => hFc q h) hFc (fun r76 u9 t9 H1 locs ht hvm hw hB hz1 hk1 hS => ?_)
  obtain ⟨hP, hK1, hD1⟩ := hB
  rw [ht] at hP
  have hD := hD1.weaken (fun _ _ _ h => hFc _ h)
  generalize H1 = H at hP hS ⊢
  obtain rfl : r76 = p75.1 := hw
  refine lv_pop hx hb dX12_trying_509 rfl ?_
  refine lv_aload_n hx hb dX12_trying_510 rfl (lv_at hl 0 rfl) ?_
  refine lv_iload_n hx hb dX12_trying_511 rfl (lv_at hl 1 rfl) ?_
  refine lv_aload_n hx hb dX12_trying_512 rfl (lv_at hl 0 rfl) ?_
  refine rG_75 (v := (p75.2.i 75)) hx hb hts i_X12_trying_X12 hown hK hP (hts (.fieldLink RX12 396 "StatementRules2Model" "res" "Z") k_X12_trying_fieldLink_RX12_396_SRModel_res_Z) dX12_trying_513 rfl ?_
  obtain ⟨p77, hcp77, hf⟩ := hf_bind hf
  have hFc := r_free hD hS hA
  refine va_callv (va_runV (As := [.int x1, .int (p75.2.i 75)]) (rest := []) ⟨hx, hb, hml, hown, hts⟩ (c_X12_endTry l dC dI _ Q N p75.2 x1 (p75.2.i 75) p77 hcp77) (cwV 2 hts hX12_trying_X12_endTry_v555 rfl rfl rfl (by decide +kernel) ⟨Nat.le_of_ble_eq_true rfl, Nat.le_of_ble_eq_true rfl⟩) ⟨zPre.blind, va_recv hK hP (ci := 11) (q0 := 0) rfl rfl, zPre.go hZ hP hK hD⟩ rfl rfl hl.1 rfl (lv_room (Nat.le_of_ble_eq_true rfl)) dX12_trying_516 ⟨Nat.le_of_ble_eq_true rfl, Nat.le_of_ble_eq_true rfl⟩) hS (fun q _ h => hFc q h) hFc (fun u9 t9 H1 locs ht hvm hw hB hz1 hk1 hS => ?_)
  obtain ⟨hP, hK1, hD1⟩ := hB
  rw [ht] at hP
  have hD := hD1.weaken (fun _ _ _ h => hFc _ h)
  generalize H1 = H at hP hS ⊢
  obtain rfl := Option.some.inj hf
  exact W.vret hx hb hr (fun t ht hW => ⟨⟨(), rfl, trivial, by rw [ht]; exact hP, va_K.moved hW.alike hK, hD⟩, hS.F ht⟩) hS.2.2 dX12_trying_519
theorem k_X12_sums_fieldLink_RX12_177_SRModel_fs_I : Cond.fieldLink RX12 177 "StatementRules2Model" "fs" "[I" ∈ wzX12_sums := List.mem_cons_of_mem _ (List.mem_append_left _ (List.mem_of_getElem? (i := 0) rfl))
theorem i_X12_sums_X12 : ∀ w ∈ wsX120, w ∈ wzX12_sums := fun _ h => List.mem_cons_of_mem _ (List.mem_append_right _ (List.mem_append_left _ (h)))
theorem k_X12_sums_fieldLink_RX12_387_SRModel_top_I : Cond.fieldLink RX12 387 "StatementRules2Model" "top" "I" ∈ wzX12_sums := List.mem_cons_of_mem _ (List.mem_append_left _ (List.mem_of_getElem? (i := 1) rfl))
theorem k_X12_sums_fieldLink_RX12_180_SRModel_fp_I : Cond.fieldLink RX12 180 "StatementRules2Model" "fp" "[I" ∈ wzX12_sums := List.mem_cons_of_mem _ (List.mem_append_left _ (List.mem_of_getElem? (i := 2) rfl))
theorem k_X12_sums_fieldLink_RX12_307_SRModel_tok_I : Cond.fieldLink RX12 307 "StatementRules2Model" "tok" "I" ∈ wzX12_sums := List.mem_cons_of_mem _ (List.mem_append_left _ (List.mem_of_getElem? (i := 3) rfl))
set_option maxHeartbeats 4000000 in
set_option maxRecDepth 100000 in
theorem j_X12_sums_39 {p : Program} {e : Env} {s : State} {m : MethodId} {args : Array Value} {below : List Frame} {meth : Method} {c : Code} {A : Nat → Prop} (l : Launch) (dC : Nat → ClassId) (dI : Nat → Nat → Nat) (Q : RQ) (N : Nat) (R : RS) (hx : p.tables.exec = Jvm.exec) (hb : c.code = cX12_sums) (hr : meth.sig.returnType = none) (hml : c.maxLocals = 4) (hown : s.vm.findClass RX12 = some m.cls) (hts : ∀ w ∈ wzX12_sums, w.before args s = true) (hlocks : meth.locks = false) (hZ : zAMB s) (hA : ∀ q : Nat, s.heap.size ≤ q → A q) (hK : va_K (dC, dI) vwCl (rT Q) s) : ∀ (σ : RS) (x1 : Int32) (x2 : Int32) (x3 : Int32) (H : Heap) (locs : List Loc) (ls : Array Slot), f_X12_sums_39 N σ x1 x2 x3 = some R → va_P (dC, dI) vwCl (rW Q σ) H → va_D A (rW Q σ) → va_S A s.heap H locs → lv_has ls 4 [(0, .ref Q.h0), (1, .int x1), (2, .int x2), (3, .int x3)] → W p l e ({ frames := 4, cells := 0, slots := 0, locals := 240 }) s m args below meth c H locs 0 0 (MQ below (va_Qv (fun (_ : Unit) => True) (fun (_ : Unit) (t : State) => zPost dC dI A (rW Q R) (rT Q) t) A) args s 0 0 A) (F0 m 39 ls []) := by
  intro σ x1 x2 x3 H locs ls hf hP hD hS hl
  unfold f_X12_sums_39 at hf
  refine lv_iload_n hx hb dX12_sums_39 rfl (lv_at hl 3 rfl) ?_
  refine lv_if_eq (tgt := 66) hx hb dX12_sums_40 (by decide) (fun c4 => ?_) (fun c4 => ?_)
  ·
    replace hf := (if_pos c4).symm.trans hf
    refine lv_aload_n hx hb dX12_sums_66 rfl (lv_at hl 0 rfl) ?_
    refine lv_dup hx hb dX12_sums_67 rfl ?_
    refine rG_63 (v := (σ.i 63)) hx hb hts i_X12_sums_X12 hown hK hP (hts (.fieldLink RX12 387 "StatementRules2Model" "top" "I") k_X12_sums_fieldLink_RX12_387_SRModel_top_I) dX12_sums_68 rfl ?_
    refine lv_iconst (v := 1) hx hb dX12_sums_71 (by decide) ?_
    refine lv_isub hx hb dX12_sums_72 ?_
    refine rP_63 hx hb hts i_X12_sums_X12 hown hK hP hD hS (hts (.fieldLink RX12 387 "StatementRules2Model" "top" "I") k_X12_sums_fieldLink_RX12_387_SRModel_top_I) dX12_sums_73 (fun H locs hP hD hS => ?_)
    obtain rfl := Option.some.inj hf
    exact W.vret hx hb hr (fun t ht hW => ⟨⟨(), rfl, trivial, by rw [ht]; exact hP, va_K.moved hW.alike hK, hD⟩, hS.F ht⟩) hS.2.2 dX12_sums_76
  ·
    replace hf := (if_neg c4).symm.trans hf
    refine lv_aload_n hx hb dX12_sums_43 rfl (lv_at hl 0 rfl) ?_
    refine rG_66 hx hb hts i_X12_sums_X12 hown hK hP (hts (.fieldLink RX12 180 "StatementRules2Model" "fp" "[I") k_X12_sums_fieldLink_RX12_180_SRModel_fp_I) dX12_sums_44 ?_
    refine lv_iload_n hx hb dX12_sums_47 rfl (lv_at hl 1 rfl) ?_
    refine lv_aload_n hx hb dX12_sums_48 rfl (lv_at hl 0 rfl) ?_
    refine rG_10 (v := (σ.i 10)) hx hb hts i_X12_sums_X12 hown hK hP (hts (.fieldLink RX12 307 "StatementRules2Model" "tok" "I") k_X12_sums_fieldLink_RX12_307_SRModel_tok_I) dX12_sums_49 rfl ?_
    obtain ⟨b5, hf⟩ := hf_ite hf
    refine rS_66 hx hb hK hP hD hS b5 dX12_sums_52 (fun H locs hP hD hS => ?_)
    refine lv_aload_n hx hb dX12_sums_53 rfl (lv_at hl 0 rfl) ?_
    obtain ⟨p6, hcp6, hf⟩ := hf_bind hf
    have hFc := r_free hD hS hA
    refine va_callv (va_runV (As := []) (rest := []) ⟨hx, hb, hml, hown, hts⟩ (c_X12_next l dC dI _ Q N (RS.setA σ 66 ((x1 : Int32).toNatClampNeg) (σ.i 10)) p6 hcp6) (cwV 0 hts hX12_sums_X12_next_v345 rfl rfl rfl (by decide +kernel) ⟨Nat.le_of_ble_eq_true rfl, Nat.le_of_ble_eq_true rfl⟩) ⟨zPre.blind, va_recv hK hP (ci := 11) (q0 := 0) rfl rfl, zPre.go hZ hP hK hD⟩ rfl rfl hl.1 rfl (lv_room (Nat.le_of_ble_eq_true rfl)) dX12_sums_54 ⟨Nat.le_of_ble_eq_true rfl, Nat.le_of_ble_eq_true rfl⟩) hS (fun q _ h => hFc q h) hFc (fun u9 t9 H1 locs ht hvm hw hB hz1 hk1 hS => ?_)
    obtain ⟨hP, hK1, hD1⟩ := hB
    rw [ht] at hP
    have hD := hD1.weaken (fun _ _ _ h => hFc _ h)
    generalize H1 = H at hP hS ⊢
    refine lv_aload_n hx hb dX12_sums_57 rfl (lv_at hl 0 rfl) ?_
    refine lv_iconst (v := 2) hx hb dX12_sums_58 (by decide) ?_
    refine lv_iload_n hx hb dX12_sums_59 rfl (lv_at hl 2 rfl) ?_
    obtain ⟨p8, hcp8, hf⟩ := hf_bind hf
    have hFc := r_free hD hS hA
    refine va_callv (va_runV (As := [.int 2, .int x2]) (rest := []) ⟨hx, hb, hml, hown, hts⟩ (c_X12_then l dC dI _ Q N p6 2 x2 p8 hcp8) (cwV 2 hts hX12_sums_X12_then_v393 rfl rfl rfl (by decide +kernel) ⟨Nat.le_of_ble_eq_true rfl, Nat.le_of_ble_eq_true rfl⟩) ⟨zPre.blind, va_recv hK hP (ci := 11) (q0 := 0) rfl rfl, zPre.go hZ hP hK hD⟩ rfl rfl hl.1 rfl (lv_room (Nat.le_of_ble_eq_true rfl)) dX12_sums_60 ⟨Nat.le_of_ble_eq_true rfl, Nat.le_of_ble_eq_true rfl⟩) hS (fun q _ h => hFc q h) hFc (fun u9 t9 H1 locs ht hvm hw hB hz1 hk1 hS => ?_)
    obtain ⟨hP, hK1, hD1⟩ := hB
    rw [ht] at hP
    have hD := hD1.weaken (fun _ _ _ h => hFc _ h)
    generalize H1 = H at hP hS ⊢
    refine lv_goto (tgt := 76) hx hb dX12_sums_63 (by decide) ?_
    obtain rfl := Option.some.inj hf
    exact W.vret hx hb hr (fun t ht hW => ⟨⟨(), rfl, trivial, by rw [ht]; exact hP, va_K.moved hW.alike hK, hD⟩, hS.F ht⟩) hS.2.2 dX12_sums_76
set_option maxHeartbeats 4000000 in
set_option maxRecDepth 100000 in
theorem c_X12_sums (l : Launch) (dC : Nat → ClassId) (dI : Nat → Nat → Nat) (sz : Nat) (Q : RQ) (N : Nat) (σ : RS) (x1 : Int32) (x2 : Int32) (x3 : Int32) (R : RS) (hf : f_X12_sums N σ x1 x2 x3 = some R) : Met l yX12_sums wzX12_sums ({ frames := 4, cells := 0, slots := 0, locals := 240 }) (va_Pc [.ref Q.h0, .int x1, .int x2, .int x3] (zPre dC dI sz (rW Q σ) (rT Q))) (va_Qv (fun (_ : Unit) => True) (fun (_ : Unit) (t : State) => zPost dC dI (va_A (rW Q σ) sz) (rW Q R) (rT Q) t) (va_A (rW Q σ) sz)) 0 0 (va_A (rW Q σ) sz) := by
  refine Met.ofW (cc := cX12_sums) (maxL := 4) (ret := none) (by decide) rfl ?_
  intro p e s m args below meth c s₁ B hml hv
  obtain ⟨rfl, hsz, hZ, hP, hK, hD0⟩ := hv
  have hx := B.exec
  have hb := B.bytes
  have hr := B.returns
  have hts := atoms_spec (ws := wzX12_sums) B.pre
  have hown : s.vm.findClass RX12 = some m.cls := findClass_of_methodNamed B.named
  have hlocks := B.notSynchronized
  subst hsz
  have hD := hD0.self (sz := s.heap.size)
  generalize hAe : va_A (rW Q σ) s.heap.size = A at hD ⊢
  have hA : ∀ q : Nat, s.heap.size ≤ q → A q := fun q h => by rw [← hAe]; exact Or.inr h
  have hS : va_S A s.heap s.heap [] := va_S.rf
  have hl := lv_entry ([.ref Q.h0, .int x1, .int x2, .int x3]) (n := 4) (Nat.le_of_ble_eq_true rfl)
  rw [lg_entry_eq]
  generalize (lg_sl ([.ref Q.h0, .int x1, .int x2, .int x3]) ++ List.replicate (4 - (lg_sl ([.ref Q.h0, .int x1, .int x2, .int x3])).length) Slot.unset).toArray = ls at hl ⊢
  have hl : lv_has ls 4 [(0, .ref Q.h0), (1, .int x1), (2, .int x2), (3, .int x3)] := hl
  unfold f_X12_sums at hf
  refine lv_aload_n hx hb dX12_sums_0 rfl (lv_at hl 0 rfl) ?_
  refine rG_65 hx hb hts i_X12_sums_X12 hown hK hP (hts (.fieldLink RX12 177 "StatementRules2Model" "fs" "[I") k_X12_sums_fieldLink_RX12_177_SRModel_fs_I) dX12_sums_1 ?_
  refine lv_iload_n hx hb dX12_sums_4 rfl (lv_at hl 1 rfl) ?_
  obtain ⟨b1, hf⟩ := hf_ite hf
  refine rL_65 (v := (σ.a 65 ((x1 : Int32).toNatClampNeg))) hx hb hK hP b1 dX12_sums_5 rfl ?_
  refine lv_if_ne (tgt := 16) hx hb dX12_sums_6 (by decide) (fun c2 => ?_) (fun c2 => ?_)
  ·
    replace hf := (if_neg c2).symm.trans hf
    refine lv_aload_n hx hb dX12_sums_16 rfl (lv_at hl 0 rfl) ?_
    refine rG_65 hx hb hts i_X12_sums_X12 hown hK hP (hts (.fieldLink RX12 177 "StatementRules2Model" "fs" "[I") k_X12_sums_fieldLink_RX12_177_SRModel_fs_I) dX12_sums_17 ?_
    refine lv_iload_n hx hb dX12_sums_20 rfl (lv_at hl 1 rfl) ?_
    refine rL_65 (v := (σ.a 65 ((x1 : Int32).toNatClampNeg))) hx hb hK hP b1 dX12_sums_21 rfl ?_
    refine lv_iconst (v := 2) hx hb dX12_sums_22 (by decide) ?_
    refine lv_icmp_ne (tgt := 39) hx hb dX12_sums_23 (by decide) (fun c3 => ?_) (fun c3 => ?_)
    ·
      replace hf := (if_neg c3).symm.trans hf
      exact j_X12_sums_39 l dC dI Q N R hx hb hr hml hown hts hlocks hZ hA hK σ x1 x2 x3 _ _ _ hf hP hD hS (lv_sub hl [0, 1, 2, 3] rfl)
    ·
      replace hf := (if_pos c3).symm.trans hf
      refine lv_aload_n hx hb dX12_sums_26 rfl (lv_at hl 0 rfl) ?_
      refine lv_bipush (v := 8) hx hb dX12_sums_27 (by decide) ?_
      refine lv_aload_n hx hb dX12_sums_29 rfl (lv_at hl 0 rfl) ?_
      refine rG_66 hx hb hts i_X12_sums_X12 hown hK hP (hts (.fieldLink RX12 180 "StatementRules2Model" "fp" "[I") k_X12_sums_fieldLink_RX12_180_SRModel_fp_I) dX12_sums_30 ?_
      refine lv_iload_n hx hb dX12_sums_33 rfl (lv_at hl 1 rfl) ?_
      refine rL_66 (v := (σ.a 66 ((x1 : Int32).toNatClampNeg))) hx hb hK hP b1 dX12_sums_34 rfl ?_
      obtain ⟨p10, hcp10, hf⟩ := hf_bind hf
      have hFc := r_free hD hS hA
      refine va_calli (va_runV (As := [.int 8, .int (σ.a 66 ((x1 : Int32).toNatClampNeg))]) (rest := []) ⟨hx, hb, hml, hown, hts⟩ (c_X12_emit l dC dI _ Q N σ 8 (σ.a 66 ((x1 : Int32).toNatClampNeg)) p10 hcp10) (cwV 2 hts hX12_sums_X12_emit_v464 rfl rfl rfl (by decide +kernel) ⟨Nat.le_of_ble_eq_true rfl, Nat.le_of_ble_eq_true rfl⟩) ⟨zPre.blind, va_recv hK hP (ci := 11) (q0 := 0) rfl rfl, zPre.go hZ hP hK hD⟩ rfl rfl hl.1 rfl (lv_room (Nat.le_of_ble_eq_true rfl)) dX12_sums_35 ⟨Nat.le_of_ble_eq_true rfl, Nat.le_of_ble_eq_true rfl⟩) hS (fun q _ h => hFc q h) hFc (fun r11 u9 t9 H1 locs ht hvm hw hB hz1 hk1 hS => ?_)
      obtain ⟨hP, hK1, hD1⟩ := hB
      rw [ht] at hP
      have hD := hD1.weaken (fun _ _ _ h => hFc _ h)
      generalize H1 = H at hP hS ⊢
      obtain rfl : r11 = p10.1 := hw
      refine lv_pop hx hb dX12_sums_38 rfl ?_
      exact j_X12_sums_39 l dC dI Q N R hx hb hr hml hown hts hlocks hZ hA hK p10.2 x1 x2 x3 _ _ _ hf hP hD hS (lv_sub hl [0, 1, 2, 3] rfl)
  ·
    replace hf := (if_pos c2).symm.trans hf
    refine lv_aload_n hx hb dX12_sums_9 rfl (lv_at hl 0 rfl) ?_
    refine lv_iconst (v := 1) hx hb dX12_sums_10 (by decide) ?_
    refine lv_iload_n hx hb dX12_sums_11 rfl (lv_at hl 2 rfl) ?_
    obtain ⟨p12, hcp12, hf⟩ := hf_bind hf
    have hFc := r_free hD hS hA
    refine va_callv (va_runV (As := [.int 1, .int x2]) (rest := []) ⟨hx, hb, hml, hown, hts⟩ (c_X12_then l dC dI _ Q N σ 1 x2 p12 hcp12) (cwV 2 hts hX12_sums_X12_then_v393 rfl rfl rfl (by decide +kernel) ⟨Nat.le_of_ble_eq_true rfl, Nat.le_of_ble_eq_true rfl⟩) ⟨zPre.blind, va_recv hK hP (ci := 11) (q0 := 0) rfl rfl, zPre.go hZ hP hK hD⟩ rfl rfl hl.1 rfl (lv_room (Nat.le_of_ble_eq_true rfl)) dX12_sums_12 ⟨Nat.le_of_ble_eq_true rfl, Nat.le_of_ble_eq_true rfl⟩) hS (fun q _ h => hFc q h) hFc (fun u9 t9 H1 locs ht hvm hw hB hz1 hk1 hS => ?_)
    obtain ⟨hP, hK1, hD1⟩ := hB
    rw [ht] at hP
    have hD := hD1.weaken (fun _ _ _ h => hFc _ h)
    generalize H1 = H at hP hS ⊢
    obtain rfl := Option.some.inj hf
    exact W.vret hx hb hr (fun t ht hW => ⟨⟨(), rfl, trivial, by rw [ht]; exact hP, va_K.moved hW.alike hK, hD⟩, hS.F ht⟩) hS.2.2 dX12_sums_15
