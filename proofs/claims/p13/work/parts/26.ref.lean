theorem k_X12_asserted_fieldLink_RX12_177_SRModel_fs_I : Cond.fieldLink RX12 177 "StatementRules2Model" "fs" "[I" ∈ wzX12_asserted := List.mem_cons_of_mem _ (List.mem_append_left _ (List.mem_of_getElem? (i := 0) rfl))
theorem i_X12_asserted_X12 : ∀ w ∈ wsX120, w ∈ wzX12_asserted := fun _ h => List.mem_cons_of_mem _ (List.mem_append_right _ (List.mem_append_left _ (h)))
theorem k_X12_asserted_fieldLink_RX12_180_SRModel_fp_I : Cond.fieldLink RX12 180 "StatementRules2Model" "fp" "[I" ∈ wzX12_asserted := List.mem_cons_of_mem _ (List.mem_append_left _ (List.mem_of_getElem? (i := 1) rfl))
theorem k_X12_asserted_fieldLink_RX12_183_SRModel_fq_I : Cond.fieldLink RX12 183 "StatementRules2Model" "fq" "[I" ∈ wzX12_asserted := List.mem_cons_of_mem _ (List.mem_append_left _ (List.mem_of_getElem? (i := 2) rfl))
theorem k_X12_asserted_fieldLink_RX12_307_SRModel_tok_I : Cond.fieldLink RX12 307 "StatementRules2Model" "tok" "I" ∈ wzX12_asserted := List.mem_cons_of_mem _ (List.mem_append_left _ (List.mem_of_getElem? (i := 3) rfl))
theorem k_X12_asserted_fieldLink_RX12_87_SRModel_ix_I : Cond.fieldLink RX12 87 "StatementRules2Model" "ix" "[I" ∈ wzX12_asserted := List.mem_cons_of_mem _ (List.mem_append_left _ (List.mem_of_getElem? (i := 4) rfl))
theorem k_X12_asserted_fieldLink_RX12_358_SRModel_codes_I : Cond.fieldLink RX12 358 "StatementRules2Model" "codes" "I" ∈ wzX12_asserted := List.mem_cons_of_mem _ (List.mem_append_left _ (List.mem_of_getElem? (i := 5) rfl))
set_option maxHeartbeats 4000000 in
set_option maxRecDepth 100000 in
theorem c_X12_asserted (l : Launch) (dC : Nat → ClassId) (dI : Nat → Nat → Nat) (sz : Nat) (Q : RQ) (N : Nat) (σ : RS) (x1 : Int32) (R : RS) (hf : f_X12_asserted N σ x1 = some R) : Met l yX12_asserted wzX12_asserted ({ frames := 5, cells := 0, slots := 0, locals := 300 }) (va_Pc [.ref Q.h0, .int x1] (zPre dC dI sz (rW Q σ) (rT Q))) (va_Qv (fun (_ : Unit) => True) (fun (_ : Unit) (t : State) => zPost dC dI (va_A (rW Q σ) sz) (rW Q R) (rT Q) t) (va_A (rW Q σ) sz)) 0 0 (va_A (rW Q σ) sz) := by
  refine Met.ofW (cc := cX12_asserted) (maxL := 2) (ret := none) (by decide) rfl ?_
  intro p e s m args below meth c s₁ B hml hv
  obtain ⟨rfl, hsz, hZ, hP, hK, hD0⟩ := hv
  have hx := B.exec
  have hb := B.bytes
  have hr := B.returns
  have hts := atoms_spec (ws := wzX12_asserted) B.pre
  have hown : s.vm.findClass RX12 = some m.cls := findClass_of_methodNamed B.named
  have hlocks := B.notSynchronized
  subst hsz
  have hD := hD0.self (sz := s.heap.size)
  generalize hAe : va_A (rW Q σ) s.heap.size = A at hD ⊢
  have hA : ∀ q : Nat, s.heap.size ≤ q → A q := fun q h => by rw [← hAe]; exact Or.inr h
  have hS : va_S A s.heap s.heap [] := va_S.rf
  have hl := lv_entry ([.ref Q.h0, .int x1]) (n := 2) (Nat.le_of_ble_eq_true rfl)
  rw [lg_entry_eq]
  generalize (lg_sl ([.ref Q.h0, .int x1]) ++ List.replicate (2 - (lg_sl ([.ref Q.h0, .int x1])).length) Slot.unset).toArray = ls at hl ⊢
  have hl : lv_has ls 2 [(0, .ref Q.h0), (1, .int x1)] := hl
  unfold f_X12_asserted at hf
  refine lv_aload_n hx hb dX12_asserted_0 rfl (lv_at hl 0 rfl) ?_
  refine rG_65 hx hb hts i_X12_asserted_X12 hown hK hP (hts (.fieldLink RX12 177 "StatementRules2Model" "fs" "[I") k_X12_asserted_fieldLink_RX12_177_SRModel_fs_I) dX12_asserted_1 ?_
  refine lv_iload_n hx hb dX12_asserted_4 rfl (lv_at hl 1 rfl) ?_
  obtain ⟨b1, hf⟩ := hf_ite hf
  refine rL_65 (v := (σ.a 65 ((x1 : Int32).toNatClampNeg))) hx hb hK hP b1 dX12_asserted_5 rfl ?_
  by_cases c2 : (σ.a 65 ((x1 : Int32).toNatClampNeg)) = 0
  ·
    replace hf := (if_pos c2).symm.trans hf
    refine lv_lookup (off := 26) (tgt := 32) hx hb dX12_asserted_6 (by decide) (by rw [c2]; decide) (by decide) ?_
    refine lv_aload_n hx hb dX12_asserted_32 rfl (lv_at hl 0 rfl) ?_
    obtain ⟨p3, hcp3, hf⟩ := hf_bind hf
    have hFc := r_free hD hS hA
    refine va_callv (va_runV (As := []) (rest := []) ⟨hx, hb, hml, hown, hts⟩ (c_X12_next l dC dI _ Q N σ p3 hcp3) (cwV 0 hts hX12_asserted_X12_next_v345 rfl rfl rfl (by decide +kernel) ⟨Nat.le_of_ble_eq_true rfl, Nat.le_of_ble_eq_true rfl⟩) ⟨zPre.blind, va_recv hK hP (ci := 11) (q0 := 0) rfl rfl, zPre.go hZ hP hK hD⟩ rfl rfl hl.1 rfl (lv_room (Nat.le_of_ble_eq_true rfl)) dX12_asserted_33 ⟨Nat.le_of_ble_eq_true rfl, Nat.le_of_ble_eq_true rfl⟩) hS (fun q _ h => hFc q h) hFc (fun u9 t9 H1 locs ht hvm hw hB hz1 hk1 hS => ?_)
    obtain ⟨hP, hK1, hD1⟩ := hB
    rw [ht] at hP
    have hD := hD1.weaken (fun _ _ _ h => hFc _ h)
    generalize H1 = H at hP hS ⊢
    refine lv_aload_n hx hb dX12_asserted_36 rfl (lv_at hl 0 rfl) ?_
    refine rG_66 hx hb hts i_X12_asserted_X12 hown hK hP (hts (.fieldLink RX12 180 "StatementRules2Model" "fp" "[I") k_X12_asserted_fieldLink_RX12_180_SRModel_fp_I) dX12_asserted_37 ?_
    refine lv_iload_n hx hb dX12_asserted_40 rfl (lv_at hl 1 rfl) ?_
    refine lv_aload_n hx hb dX12_asserted_41 rfl (lv_at hl 0 rfl) ?_
    refine lv_bipush (v := 22) hx hb dX12_asserted_42 (by decide) ?_
    refine lv_iconst (v := 0) hx hb dX12_asserted_44 (by decide) ?_
    obtain ⟨p5, hcp5, hf⟩ := hf_bind hf
    have hFc := r_free hD hS hA
    refine va_calli (va_runV (As := [.int 22, .int 0]) (rest := [.int x1, .ref (Q.q 66)]) ⟨hx, hb, hml, hown, hts⟩ (c_X12_emit l dC dI _ Q N p3 22 0 p5 hcp5) (cwV 2 hts hX12_asserted_X12_emit_v464 rfl rfl rfl (by decide +kernel) ⟨Nat.le_of_ble_eq_true rfl, Nat.le_of_ble_eq_true rfl⟩) ⟨zPre.blind, va_recv hK hP (ci := 11) (q0 := 0) rfl rfl, zPre.go hZ hP hK hD⟩ rfl rfl hl.1 rfl (lv_room (Nat.le_of_ble_eq_true rfl)) dX12_asserted_45 ⟨Nat.le_of_ble_eq_true rfl, Nat.le_of_ble_eq_true rfl⟩) hS (fun q _ h => hFc q h) hFc (fun r6 u9 t9 H1 locs ht hvm hw hB hz1 hk1 hS => ?_)
    obtain ⟨hP, hK1, hD1⟩ := hB
    rw [ht] at hP
    have hD := hD1.weaken (fun _ _ _ h => hFc _ h)
    generalize H1 = H at hP hS ⊢
    obtain rfl : r6 = p5.1 := hw
    refine rS_66 hx hb hK hP hD hS b1 dX12_asserted_48 (fun H locs hP hD hS => ?_)
    refine lv_aload_n hx hb dX12_asserted_49 rfl (lv_at hl 0 rfl) ?_
    refine lv_iconst (v := 1) hx hb dX12_asserted_50 (by decide) ?_
    refine lv_bipush (v := 20) hx hb dX12_asserted_51 (by decide) ?_
    obtain ⟨p7, hcp7, hf⟩ := hf_bind hf
    have hFc := r_free hD hS hA
    refine va_callv (va_runV (As := [.int 1, .int 20]) (rest := []) ⟨hx, hb, hml, hown, hts⟩ (c_X12_then l dC dI _ Q N (RS.setA p5.2 66 ((x1 : Int32).toNatClampNeg) p5.1) 1 20 p7 hcp7) (cwV 2 hts hX12_asserted_X12_then_v393 rfl rfl rfl (by decide +kernel) ⟨Nat.le_of_ble_eq_true rfl, Nat.le_of_ble_eq_true rfl⟩) ⟨zPre.blind, va_recv hK hP (ci := 11) (q0 := 0) rfl rfl, zPre.go hZ hP hK hD⟩ rfl rfl hl.1 rfl (lv_room (Nat.le_of_ble_eq_true rfl)) dX12_asserted_53 ⟨Nat.le_of_ble_eq_true rfl, Nat.le_of_ble_eq_true rfl⟩) hS (fun q _ h => hFc q h) hFc (fun u9 t9 H1 locs ht hvm hw hB hz1 hk1 hS => ?_)
    obtain ⟨hP, hK1, hD1⟩ := hB
    rw [ht] at hP
    have hD := hD1.weaken (fun _ _ _ h => hFc _ h)
    generalize H1 = H at hP hS ⊢
    refine lv_goto (tgt := 162) hx hb dX12_asserted_56 (by decide) ?_
    obtain rfl := Option.some.inj hf
    exact W.vret hx hb hr (fun t ht hW => ⟨⟨(), rfl, trivial, by rw [ht]; exact hP, va_K.moved hW.alike hK, hD⟩, hS.F ht⟩) hS.2.2 dX12_asserted_162
  replace hf := (if_neg c2).symm.trans hf
  by_cases c9 : (σ.a 65 ((x1 : Int32).toNatClampNeg)) = 1
  ·
    replace hf := (if_pos c9).symm.trans hf
    refine lv_lookup (off := 53) (tgt := 59) hx hb dX12_asserted_6 (by decide) (by rw [c9]; decide) (by decide) ?_
    refine lv_aload_n hx hb dX12_asserted_59 rfl (lv_at hl 0 rfl) ?_
    refine rG_67 hx hb hts i_X12_asserted_X12 hown hK hP (hts (.fieldLink RX12 183 "StatementRules2Model" "fq" "[I") k_X12_asserted_fieldLink_RX12_183_SRModel_fq_I) dX12_asserted_60 ?_
    refine lv_iload_n hx hb dX12_asserted_63 rfl (lv_at hl 1 rfl) ?_
    refine lv_aload_n hx hb dX12_asserted_64 rfl (lv_at hl 0 rfl) ?_
    refine lv_bipush (v := 14) hx hb dX12_asserted_65 (by decide) ?_
    refine lv_iconst (v := 0) hx hb dX12_asserted_67 (by decide) ?_
    obtain ⟨p10, hcp10, hf⟩ := hf_bind hf
    have hFc := r_free hD hS hA
    refine va_calli (va_runV (As := [.int 14, .int 0]) (rest := [.int x1, .ref (Q.q 67)]) ⟨hx, hb, hml, hown, hts⟩ (c_X12_emit l dC dI _ Q N σ 14 0 p10 hcp10) (cwV 2 hts hX12_asserted_X12_emit_v464 rfl rfl rfl (by decide +kernel) ⟨Nat.le_of_ble_eq_true rfl, Nat.le_of_ble_eq_true rfl⟩) ⟨zPre.blind, va_recv hK hP (ci := 11) (q0 := 0) rfl rfl, zPre.go hZ hP hK hD⟩ rfl rfl hl.1 rfl (lv_room (Nat.le_of_ble_eq_true rfl)) dX12_asserted_68 ⟨Nat.le_of_ble_eq_true rfl, Nat.le_of_ble_eq_true rfl⟩) hS (fun q _ h => hFc q h) hFc (fun r11 u9 t9 H1 locs ht hvm hw hB hz1 hk1 hS => ?_)
    obtain ⟨hP, hK1, hD1⟩ := hB
    rw [ht] at hP
    have hD := hD1.weaken (fun _ _ _ h => hFc _ h)
    generalize H1 = H at hP hS ⊢
    obtain rfl : r11 = p10.1 := hw
    refine rS_67 hx hb hK hP hD hS b1 dX12_asserted_71 (fun H locs hP hD hS => ?_)
    refine lv_aload_n hx hb dX12_asserted_72 rfl (lv_at hl 0 rfl) ?_
    refine rG_10 (v := (p10.2.i 10)) hx hb hts i_X12_asserted_X12 hown hK hP (hts (.fieldLink RX12 307 "StatementRules2Model" "tok" "I") k_X12_asserted_fieldLink_RX12_307_SRModel_tok_I) dX12_asserted_73 rfl ?_
    refine lv_bipush (v := 58) hx hb dX12_asserted_76 (by decide) ?_
    refine lv_icmp_ne (tgt := 95) hx hb dX12_asserted_78 (by decide) (fun c12 => ?_) (fun c12 => ?_)
    ·
      replace hf := (if_neg c12).symm.trans hf
      refine lv_aload_n hx hb dX12_asserted_95 rfl (lv_at hl 0 rfl) ?_
      refine lv_iconst (v := 2) hx hb dX12_asserted_96 (by decide) ?_
      refine lv_iconst (v := 0) hx hb dX12_asserted_97 (by decide) ?_
      obtain ⟨p13, hcp13, hf⟩ := hf_bind hf
      have hFc := r_free hD hS hA
      refine va_calli (va_runV (As := [.int 2, .int 0]) (rest := []) ⟨hx, hb, hml, hown, hts⟩ (c_X12_emit l dC dI _ Q N (RS.setA p10.2 67 ((x1 : Int32).toNatClampNeg) p10.1) 2 0 p13 hcp13) (cwV 2 hts hX12_asserted_X12_emit_v464 rfl rfl rfl (by decide +kernel) ⟨Nat.le_of_ble_eq_true rfl, Nat.le_of_ble_eq_true rfl⟩) ⟨zPre.blind, va_recv hK hP (ci := 11) (q0 := 0) rfl rfl, zPre.go hZ hP hK hD⟩ rfl rfl hl.1 rfl (lv_room (Nat.le_of_ble_eq_true rfl)) dX12_asserted_98 ⟨Nat.le_of_ble_eq_true rfl, Nat.le_of_ble_eq_true rfl⟩) hS (fun q _ h => hFc q h) hFc (fun r14 u9 t9 H1 locs ht hvm hw hB hz1 hk1 hS => ?_)
      obtain ⟨hP, hK1, hD1⟩ := hB
      rw [ht] at hP
      have hD := hD1.weaken (fun _ _ _ h => hFc _ h)
      generalize H1 = H at hP hS ⊢
      obtain rfl : r14 = p13.1 := hw
      refine lv_pop hx hb dX12_asserted_101 rfl ?_
      refine lv_aload_n hx hb dX12_asserted_102 rfl (lv_at hl 0 rfl) ?_
      refine rG_65 hx hb hts i_X12_asserted_X12 hown hK hP (hts (.fieldLink RX12 177 "StatementRules2Model" "fs" "[I") k_X12_asserted_fieldLink_RX12_177_SRModel_fs_I) dX12_asserted_103 ?_
      refine lv_iload_n hx hb dX12_asserted_106 rfl (lv_at hl 1 rfl) ?_
      refine lv_iconst (v := 2) hx hb dX12_asserted_107 (by decide) ?_
      refine rS_65 hx hb hK hP hD hS b1 dX12_asserted_108 (fun H locs hP hD hS => ?_)
      refine lv_goto (tgt := 162) hx hb dX12_asserted_109 (by decide) ?_
      obtain rfl := Option.some.inj hf
      exact W.vret hx hb hr (fun t ht hW => ⟨⟨(), rfl, trivial, by rw [ht]; exact hP, va_K.moved hW.alike hK, hD⟩, hS.F ht⟩) hS.2.2 dX12_asserted_162
    ·
      replace hf := (if_pos c12).symm.trans hf
      refine lv_aload_n hx hb dX12_asserted_81 rfl (lv_at hl 0 rfl) ?_
      obtain ⟨p15, hcp15, hf⟩ := hf_bind hf
      have hFc := r_free hD hS hA
      refine va_callv (va_runV (As := []) (rest := []) ⟨hx, hb, hml, hown, hts⟩ (c_X12_next l dC dI _ Q N (RS.setA p10.2 67 ((x1 : Int32).toNatClampNeg) p10.1) p15 hcp15) (cwV 0 hts hX12_asserted_X12_next_v345 rfl rfl rfl (by decide +kernel) ⟨Nat.le_of_ble_eq_true rfl, Nat.le_of_ble_eq_true rfl⟩) ⟨zPre.blind, va_recv hK hP (ci := 11) (q0 := 0) rfl rfl, zPre.go hZ hP hK hD⟩ rfl rfl hl.1 rfl (lv_room (Nat.le_of_ble_eq_true rfl)) dX12_asserted_82 ⟨Nat.le_of_ble_eq_true rfl, Nat.le_of_ble_eq_true rfl⟩) hS (fun q _ h => hFc q h) hFc (fun u9 t9 H1 locs ht hvm hw hB hz1 hk1 hS => ?_)
      obtain ⟨hP, hK1, hD1⟩ := hB
      rw [ht] at hP
      have hD := hD1.weaken (fun _ _ _ h => hFc _ h)
      generalize H1 = H at hP hS ⊢
      refine lv_aload_n hx hb dX12_asserted_85 rfl (lv_at hl 0 rfl) ?_
      refine lv_iconst (v := 2) hx hb dX12_asserted_86 (by decide) ?_
      refine lv_bipush (v := 16) hx hb dX12_asserted_87 (by decide) ?_
      obtain ⟨p17, hcp17, hf⟩ := hf_bind hf
      have hFc := r_free hD hS hA
      refine va_callv (va_runV (As := [.int 2, .int 16]) (rest := []) ⟨hx, hb, hml, hown, hts⟩ (c_X12_then l dC dI _ Q N p15 2 16 p17 hcp17) (cwV 2 hts hX12_asserted_X12_then_v393 rfl rfl rfl (by decide +kernel) ⟨Nat.le_of_ble_eq_true rfl, Nat.le_of_ble_eq_true rfl⟩) ⟨zPre.blind, va_recv hK hP (ci := 11) (q0 := 0) rfl rfl, zPre.go hZ hP hK hD⟩ rfl rfl hl.1 rfl (lv_room (Nat.le_of_ble_eq_true rfl)) dX12_asserted_89 ⟨Nat.le_of_ble_eq_true rfl, Nat.le_of_ble_eq_true rfl⟩) hS (fun q _ h => hFc q h) hFc (fun u9 t9 H1 locs ht hvm hw hB hz1 hk1 hS => ?_)
      obtain ⟨hP, hK1, hD1⟩ := hB
      rw [ht] at hP
      have hD := hD1.weaken (fun _ _ _ h => hFc _ h)
      generalize H1 = H at hP hS ⊢
      refine lv_goto (tgt := 162) hx hb dX12_asserted_92 (by decide) ?_
      obtain rfl := Option.some.inj hf
      exact W.vret hx hb hr (fun t ht hW => ⟨⟨(), rfl, trivial, by rw [ht]; exact hP, va_K.moved hW.alike hK, hD⟩, hS.F ht⟩) hS.2.2 dX12_asserted_162
  replace hf := (if_neg c9).symm.trans hf
  refine lv_lookup (off := 106) (tgt := 112) hx hb dX12_asserted_6 (by decide) (by show Op.lookupswitch.offset [(0, 26), (1, 53)] 106 ((σ.a 65 ((x1 : Int32).toNatClampNeg)) : Int32).toInt = 106; rw [lv_osw (k := 0) (a := 0) c2 (by decide), lv_osw (k := 1) (a := 1) c9 (by decide)]; rfl) (by decide) ?_
  refine lv_aload_n hx hb dX12_asserted_112 rfl (lv_at hl 0 rfl) ?_
  refine lv_bipush (v := 19) hx hb dX12_asserted_113 (by decide) ?_
  refine lv_iconst (v := 3) hx hb dX12_asserted_115 (by decide) ?_
  obtain ⟨p19, hcp19, hf⟩ := hf_bind hf
  have hFc := r_free hD hS hA
  refine va_calli (va_runV (As := [.int 19, .int 3]) (rest := []) ⟨hx, hb, hml, hown, hts⟩ (c_X12_emit l dC dI _ Q N σ 19 3 p19 hcp19) (cwV 2 hts hX12_asserted_X12_emit_v464 rfl rfl rfl (by decide +kernel) ⟨Nat.le_of_ble_eq_true rfl, Nat.le_of_ble_eq_true rfl⟩) ⟨zPre.blind, va_recv hK hP (ci := 11) (q0 := 0) rfl rfl, zPre.go hZ hP hK hD⟩ rfl rfl hl.1 rfl (lv_room (Nat.le_of_ble_eq_true rfl)) dX12_asserted_116 ⟨Nat.le_of_ble_eq_true rfl, Nat.le_of_ble_eq_true rfl⟩) hS (fun q _ h => hFc q h) hFc (fun r20 u9 t9 H1 locs ht hvm hw hB hz1 hk1 hS => ?_)
  obtain ⟨hP, hK1, hD1⟩ := hB
  rw [ht] at hP
  have hD := hD1.weaken (fun _ _ _ h => hFc _ h)
  generalize H1 = H at hP hS ⊢
  obtain rfl : r20 = p19.1 := hw
  refine lv_pop hx hb dX12_asserted_119 rfl ?_
  refine lv_aload_n hx hb dX12_asserted_120 rfl (lv_at hl 0 rfl) ?_
  refine rG_22 hx hb hts i_X12_asserted_X12 hown hK hP (hts (.fieldLink RX12 87 "StatementRules2Model" "ix" "[I") k_X12_asserted_fieldLink_RX12_87_SRModel_ix_I) dX12_asserted_121 ?_
  refine lv_aload_n hx hb dX12_asserted_124 rfl (lv_at hl 0 rfl) ?_
  refine rG_66 hx hb hts i_X12_asserted_X12 hown hK hP (hts (.fieldLink RX12 180 "StatementRules2Model" "fp" "[I") k_X12_asserted_fieldLink_RX12_180_SRModel_fp_I) dX12_asserted_125 ?_
  refine lv_iload_n hx hb dX12_asserted_128 rfl (lv_at hl 1 rfl) ?_
  refine rL_66 (v := (p19.2.a 66 ((x1 : Int32).toNatClampNeg))) hx hb hK hP b1 dX12_asserted_129 rfl ?_
  refine lv_aload_n hx hb dX12_asserted_130 rfl (lv_at hl 0 rfl) ?_
  refine rG_20 (v := (p19.2.i 20)) hx hb hts i_X12_asserted_X12 hown hK hP (hts (.fieldLink RX12 358 "StatementRules2Model" "codes" "I") k_X12_asserted_fieldLink_RX12_358_SRModel_codes_I) dX12_asserted_131 rfl ?_
  obtain ⟨b21, hf⟩ := hf_ite hf
  refine rS_22 hx hb hK hP hD hS b21 dX12_asserted_134 (fun H locs hP hD hS => ?_)
  refine lv_aload_n hx hb dX12_asserted_135 rfl (lv_at hl 0 rfl) ?_
  refine rG_22 hx hb hts i_X12_asserted_X12 hown hK hP (hts (.fieldLink RX12 87 "StatementRules2Model" "ix" "[I") k_X12_asserted_fieldLink_RX12_87_SRModel_ix_I) dX12_asserted_136 ?_
  refine lv_aload_n hx hb dX12_asserted_139 rfl (lv_at hl 0 rfl) ?_
  refine rG_67 hx hb hts i_X12_asserted_X12 hown hK hP (hts (.fieldLink RX12 183 "StatementRules2Model" "fq" "[I") k_X12_asserted_fieldLink_RX12_183_SRModel_fq_I) dX12_asserted_140 ?_
  refine lv_iload_n hx hb dX12_asserted_143 rfl (lv_at hl 1 rfl) ?_
  refine rL_67 (v := (p19.2.a 67 ((x1 : Int32).toNatClampNeg))) hx hb hK hP b1 dX12_asserted_144 rfl ?_
  refine lv_aload_n hx hb dX12_asserted_145 rfl (lv_at hl 0 rfl) ?_
  refine rG_20 (v := (p19.2.i 20)) hx hb hts i_X12_asserted_X12 hown hK hP (hts (.fieldLink RX12 358 "StatementRules2Model" "codes" "I") k_X12_asserted_fieldLink_RX12_358_SRModel_codes_I) dX12_asserted_146 rfl ?_
  obtain ⟨b22, hf⟩ := hf_ite hf
  refine rS_22 hx hb hK hP hD hS b22 dX12_asserted_149 (fun H locs hP hD hS => ?_)
  refine lv_aload_n hx hb dX12_asserted_150 rfl (lv_at hl 0 rfl) ?_
  refine lv_bipush (v := 59) hx hb dX12_asserted_151 (by decide) ?_
  obtain ⟨p23, hcp23, hf⟩ := hf_bind hf
  have hFc := r_free hD hS hA
  refine va_calli (va_runV (As := [.int 59]) (rest := []) ⟨hx, hb, hml, hown, hts⟩ (c_X12_need l dC dI _ Q N (RS.setA (RS.setA p19.2 22 (((p19.2.a 66 ((x1 : Int32).toNatClampNeg)) : Int32).toNatClampNeg) (p19.2.i 20)) 22 (((p19.2.a 67 ((x1 : Int32).toNatClampNeg)) : Int32).toNatClampNeg) (p19.2.i 20)) 59 p23 hcp23) (cwV 1 hts hX12_asserted_X12_need_v355 rfl rfl rfl (by decide +kernel) ⟨Nat.le_of_ble_eq_true rfl, Nat.le_of_ble_eq_true rfl⟩) ⟨zPre.blind, va_recv hK hP (ci := 11) (q0 := 0) rfl rfl, zPre.go hZ hP hK hD⟩ rfl rfl hl.1 rfl (lv_room (Nat.le_of_ble_eq_true rfl)) dX12_asserted_153 ⟨Nat.le_of_ble_eq_true rfl, Nat.le_of_ble_eq_true rfl⟩) hS (fun q _ h => hFc q h) hFc (fun r24 u9 t9 H1 locs ht hvm hw hB hz1 hk1 hS => ?_)
  obtain ⟨hP, hK1, hD1⟩ := hB
  rw [ht] at hP
  have hD := hD1.weaken (fun _ _ _ h => hFc _ h)
  generalize H1 = H at hP hS ⊢
  obtain rfl : r24 = p23.1 := hw
  refine lv_pop hx hb dX12_asserted_156 rfl ?_
  refine lv_aload_n hx hb dX12_asserted_157 rfl (lv_at hl 0 rfl) ?_
  refine lv_iconst (v := 1) hx hb dX12_asserted_158 (by decide) ?_
  obtain ⟨p25, hcp25, hf⟩ := hf_bind hf
  have hFc := r_free hD hS hA
  refine va_callv (va_runV (As := [.int 1]) (rest := []) ⟨hx, hb, hml, hown, hts⟩ (c_X12_over l dC dI _ Q N p23.2 1 p25 hcp25) (cwV 1 hts hX12_asserted_X12_over_v490 rfl rfl rfl (by decide +kernel) ⟨Nat.le_of_ble_eq_true rfl, Nat.le_of_ble_eq_true rfl⟩) ⟨zPre.blind, va_recv hK hP (ci := 11) (q0 := 0) rfl rfl, zPre.go hZ hP hK hD⟩ rfl rfl hl.1 rfl (lv_room (Nat.le_of_ble_eq_true rfl)) dX12_asserted_159 ⟨Nat.le_of_ble_eq_true rfl, Nat.le_of_ble_eq_true rfl⟩) hS (fun q _ h => hFc q h) hFc (fun u9 t9 H1 locs ht hvm hw hB hz1 hk1 hS => ?_)
  obtain ⟨hP, hK1, hD1⟩ := hB
  rw [ht] at hP
  have hD := hD1.weaken (fun _ _ _ h => hFc _ h)
  generalize H1 = H at hP hS ⊢
  obtain rfl := Option.some.inj hf
  exact W.vret hx hb hr (fun t ht hW => ⟨⟨(), rfl, trivial, by rw [ht]; exact hP, va_K.moved hW.alike hK, hD⟩, hS.F ht⟩) hS.2.2 dX12_asserted_162
theorem k_X12_branch_fieldLink_RX12_177_SRModel_fs_I : Cond.fieldLink RX12 177 "StatementRules2Model" "fs" "[I" ∈ wzX12_branch := List.mem_cons_of_mem _ (List.mem_append_left _ (List.mem_of_getElem? (i := 0) rfl))
theorem i_X12_branch_X12 : ∀ w ∈ wsX120, w ∈ wzX12_branch := fun _ h => List.mem_cons_of_mem _ (List.mem_append_right _ (List.mem_append_left _ (h)))
theorem k_X12_branch_fieldLink_RX12_180_SRModel_fp_I : Cond.fieldLink RX12 180 "StatementRules2Model" "fp" "[I" ∈ wzX12_branch := List.mem_cons_of_mem _ (List.mem_append_left _ (List.mem_of_getElem? (i := 1) rfl))
theorem k_X12_branch_fieldLink_RX12_307_SRModel_tok_I : Cond.fieldLink RX12 307 "StatementRules2Model" "tok" "I" ∈ wzX12_branch := List.mem_cons_of_mem _ (List.mem_append_left _ (List.mem_of_getElem? (i := 2) rfl))
theorem k_X12_branch_fieldLink_RX12_87_SRModel_ix_I : Cond.fieldLink RX12 87 "StatementRules2Model" "ix" "[I" ∈ wzX12_branch := List.mem_cons_of_mem _ (List.mem_append_left _ (List.mem_of_getElem? (i := 3) rfl))
theorem k_X12_branch_fieldLink_RX12_358_SRModel_codes_I : Cond.fieldLink RX12 358 "StatementRules2Model" "codes" "I" ∈ wzX12_branch := List.mem_cons_of_mem _ (List.mem_append_left _ (List.mem_of_getElem? (i := 4) rfl))
theorem k_X12_branch_fieldLink_RX12_183_SRModel_fq_I : Cond.fieldLink RX12 183 "StatementRules2Model" "fq" "[I" ∈ wzX12_branch := List.mem_cons_of_mem _ (List.mem_append_left _ (List.mem_of_getElem? (i := 5) rfl))
theorem k_X12_branch_fieldLink_RX12_396_SRModel_res_Z : Cond.fieldLink RX12 396 "StatementRules2Model" "res" "Z" ∈ wzX12_branch := List.mem_cons_of_mem _ (List.mem_append_left _ (List.mem_of_getElem? (i := 6) rfl))
theorem k_X12_branch_fieldLink_RX12_186_SRModel_fr_I : Cond.fieldLink RX12 186 "StatementRules2Model" "fr" "[I" ∈ wzX12_branch := List.mem_cons_of_mem _ (List.mem_append_left _ (List.mem_of_getElem? (i := 7) rfl))
set_option maxHeartbeats 4000000 in
set_option maxRecDepth 100000 in
theorem j_X12_branch_113 {p : Program} {e : Env} {s : State} {m : MethodId} {args : Array Value} {below : List Frame} {meth : Method} {c : Code} {A : Nat → Prop} (l : Launch) (dC : Nat → ClassId) (dI : Nat → Nat → Nat) (Q : RQ) (N : Nat) (R : RS) (hx : p.tables.exec = Jvm.exec) (hb : c.code = cX12_branch) (hr : meth.sig.returnType = none) (hml : c.maxLocals = 2) (hown : s.vm.findClass RX12 = some m.cls) (hts : ∀ w ∈ wzX12_branch, w.before args s = true) (hlocks : meth.locks = false) (hZ : zAMB s) (hA : ∀ q : Nat, s.heap.size ≤ q → A q) (hK : va_K (dC, dI) vwCl (rT Q) s) : ∀ (σ : RS) (x1 : Int32) (H : Heap) (locs : List Loc) (ls : Array Slot), f_X12_branch_113 N σ x1 = some R → va_P (dC, dI) vwCl (rW Q σ) H → va_D A (rW Q σ) → va_S A s.heap H locs → lv_has ls 2 [(0, .ref Q.h0), (1, .int x1)] → W p l e ({ frames := 6, cells := 0, slots := 0, locals := 360 }) s m args below meth c H locs 0 0 (MQ below (va_Qv (fun (_ : Unit) => True) (fun (_ : Unit) (t : State) => zPost dC dI A (rW Q R) (rT Q) t) A) args s 0 0 A) (F0 m 113 ls []) := by
  intro σ x1 H locs ls hf hP hD hS hl
  unfold f_X12_branch_113 at hf
  refine lv_aload_n hx hb dX12_branch_113 rfl (lv_at hl 0 rfl) ?_
  refine rG_68 hx hb hts i_X12_branch_X12 hown hK hP (hts (.fieldLink RX12 186 "StatementRules2Model" "fr" "[I") k_X12_branch_fieldLink_RX12_186_SRModel_fr_I) dX12_branch_114 ?_
  refine lv_iload_n hx hb dX12_branch_117 rfl (lv_at hl 1 rfl) ?_
  refine lv_aload_n hx hb dX12_branch_118 rfl (lv_at hl 0 rfl) ?_
  refine lv_bipush (v := 15) hx hb dX12_branch_119 (by decide) ?_
  refine lv_iconst (v := 0) hx hb dX12_branch_121 (by decide) ?_
  obtain ⟨p24, hcp24, hf⟩ := hf_bind hf
  have hFc := r_free hD hS hA
  refine va_calli (va_runV (As := [.int 15, .int 0]) (rest := [.int x1, .ref (Q.q 68)]) ⟨hx, hb, hml, hown, hts⟩ (c_X12_emit l dC dI _ Q N σ 15 0 p24 hcp24) (cwV 2 hts hX12_branch_X12_emit_v464 rfl rfl rfl (by decide +kernel) ⟨Nat.le_of_ble_eq_true rfl, Nat.le_of_ble_eq_true rfl⟩) ⟨zPre.blind, va_recv hK hP (ci := 11) (q0 := 0) rfl rfl, zPre.go hZ hP hK hD⟩ rfl rfl hl.1 rfl (lv_room (Nat.le_of_ble_eq_true rfl)) dX12_branch_122 ⟨Nat.le_of_ble_eq_true rfl, Nat.le_of_ble_eq_true rfl⟩) hS (fun q _ h => hFc q h) hFc (fun r25 u9 t9 H1 locs ht hvm hw hB hz1 hk1 hS => ?_)
  obtain ⟨hP, hK1, hD1⟩ := hB
  rw [ht] at hP
  have hD := hD1.weaken (fun _ _ _ h => hFc _ h)
  generalize H1 = H at hP hS ⊢
  obtain rfl : r25 = p24.1 := hw
  obtain ⟨b26, hf⟩ := hf_ite hf
  refine rS_68 hx hb hK hP hD hS b26 dX12_branch_125 (fun H locs hP hD hS => ?_)
  refine lv_aload_n hx hb dX12_branch_126 rfl (lv_at hl 0 rfl) ?_
  refine rG_22 hx hb hts i_X12_branch_X12 hown hK hP (hts (.fieldLink RX12 87 "StatementRules2Model" "ix" "[I") k_X12_branch_fieldLink_RX12_87_SRModel_ix_I) dX12_branch_127 ?_
  refine lv_aload_n hx hb dX12_branch_130 rfl (lv_at hl 0 rfl) ?_
  refine rG_66 hx hb hts i_X12_branch_X12 hown hK hP (hts (.fieldLink RX12 180 "StatementRules2Model" "fp" "[I") k_X12_branch_fieldLink_RX12_180_SRModel_fp_I) dX12_branch_131 ?_
  refine lv_iload_n hx hb dX12_branch_134 rfl (lv_at hl 1 rfl) ?_
  refine rL_66 (v := (p24.2.a 66 ((x1 : Int32).toNatClampNeg))) hx hb hK hP b26 dX12_branch_135 rfl ?_
  refine lv_aload_n hx hb dX12_branch_136 rfl (lv_at hl 0 rfl) ?_
  refine rG_20 (v := (p24.2.i 20)) hx hb hts i_X12_branch_X12 hown hK hP (hts (.fieldLink RX12 358 "StatementRules2Model" "codes" "I") k_X12_branch_fieldLink_RX12_358_SRModel_codes_I) dX12_branch_137 rfl ?_
  obtain ⟨b27, hf⟩ := hf_ite hf
  refine rS_22 hx hb hK hP hD hS b27 dX12_branch_140 (fun H locs hP hD hS => ?_)
  refine lv_aload_n hx hb dX12_branch_141 rfl (lv_at hl 0 rfl) ?_
  refine lv_iconst (v := 3) hx hb dX12_branch_142 (by decide) ?_
  obtain ⟨p28, hcp28, hf⟩ := hf_bind hf
  have hFc := r_free hD hS hA
  refine va_callv (va_runV (As := [.int 3]) (rest := []) ⟨hx, hb, hml, hown, hts⟩ (c_X12_body l dC dI _ Q N (RS.setA (RS.setA p24.2 68 ((x1 : Int32).toNatClampNeg) p24.1) 22 (((p24.2.a 66 ((x1 : Int32).toNatClampNeg)) : Int32).toNatClampNeg) (p24.2.i 20)) 3 p28 hcp28) (cwV 1 hts hX12_branch_X12_body_v521 rfl rfl rfl (by decide +kernel) ⟨Nat.le_of_ble_eq_true rfl, Nat.le_of_ble_eq_true rfl⟩) ⟨zPre.blind, va_recv hK hP (ci := 11) (q0 := 0) rfl rfl, zPre.go hZ hP hK hD⟩ rfl rfl hl.1 rfl (lv_room (Nat.le_of_ble_eq_true rfl)) dX12_branch_143 ⟨Nat.le_of_ble_eq_true rfl, Nat.le_of_ble_eq_true rfl⟩) hS (fun q _ h => hFc q h) hFc (fun u9 t9 H1 locs ht hvm hw hB hz1 hk1 hS => ?_)
  obtain ⟨hP, hK1, hD1⟩ := hB
  rw [ht] at hP
  have hD := hD1.weaken (fun _ _ _ h => hFc _ h)
  generalize H1 = H at hP hS ⊢
  refine lv_goto (tgt := 213) hx hb dX12_branch_146 (by decide) ?_
  obtain rfl := Option.some.inj hf
  exact W.vret hx hb hr (fun t ht hW => ⟨⟨(), rfl, trivial, by rw [ht]; exact hP, va_K.moved hW.alike hK, hD⟩, hS.F ht⟩) hS.2.2 dX12_branch_213
set_option maxHeartbeats 4000000 in
set_option maxRecDepth 100000 in
theorem c_X12_branch (l : Launch) (dC : Nat → ClassId) (dI : Nat → Nat → Nat) (sz : Nat) (Q : RQ) (N : Nat) (σ : RS) (x1 : Int32) (R : RS) (hf : f_X12_branch N σ x1 = some R) : Met l yX12_branch wzX12_branch ({ frames := 6, cells := 0, slots := 0, locals := 360 }) (va_Pc [.ref Q.h0, .int x1] (zPre dC dI sz (rW Q σ) (rT Q))) (va_Qv (fun (_ : Unit) => True) (fun (_ : Unit) (t : State) => zPost dC dI (va_A (rW Q σ) sz) (rW Q R) (rT Q) t) (va_A (rW Q σ) sz)) 0 0 (va_A (rW Q σ) sz) := by
  refine Met.ofW (cc := cX12_branch) (maxL := 2) (ret := none) (by decide) rfl ?_
  intro p e s m args below meth c s₁ B hml hv
  obtain ⟨rfl, hsz, hZ, hP, hK, hD0⟩ := hv
  have hx := B.exec
  have hb := B.bytes
  have hr := B.returns
  have hts := atoms_spec (ws := wzX12_branch) B.pre
  have hown : s.vm.findClass RX12 = some m.cls := findClass_of_methodNamed B.named
  have hlocks := B.notSynchronized
  subst hsz
  have hD := hD0.self (sz := s.heap.size)
  generalize hAe : va_A (rW Q σ) s.heap.size = A at hD ⊢
  have hA : ∀ q : Nat, s.heap.size ≤ q → A q := fun q h => by rw [← hAe]; exact Or.inr h
  have hS : va_S A s.heap s.heap [] := va_S.rf
  have hl := lv_entry ([.ref Q.h0, .int x1]) (n := 2) (Nat.le_of_ble_eq_true rfl)
  rw [lg_entry_eq]
  generalize (lg_sl ([.ref Q.h0, .int x1]) ++ List.replicate (2 - (lg_sl ([.ref Q.h0, .int x1])).length) Slot.unset).toArray = ls at hl ⊢
  have hl : lv_has ls 2 [(0, .ref Q.h0), (1, .int x1)] := hl
  unfold f_X12_branch at hf
  refine lv_aload_n hx hb dX12_branch_0 rfl (lv_at hl 0 rfl) ?_
  refine rG_65 hx hb hts i_X12_branch_X12 hown hK hP (hts (.fieldLink RX12 177 "StatementRules2Model" "fs" "[I") k_X12_branch_fieldLink_RX12_177_SRModel_fs_I) dX12_branch_1 ?_
  refine lv_iload_n hx hb dX12_branch_4 rfl (lv_at hl 1 rfl) ?_
  obtain ⟨b1, hf⟩ := hf_ite hf
  refine rL_65 (v := (σ.a 65 ((x1 : Int32).toNatClampNeg))) hx hb hK hP b1 dX12_branch_5 rfl ?_
  by_cases c2 : (σ.a 65 ((x1 : Int32).toNatClampNeg)) = 0
  ·
    replace hf := (if_pos c2).symm.trans hf
    refine lv_tableIn (off := 26) (tgt := 32) hx hb dX12_branch_6 (by rw [c2]; decide) (by rw [c2]; decide) (by rw [c2]; decide) (by decide) ?_
    refine lv_aload_n hx hb dX12_branch_32 rfl (lv_at hl 0 rfl) ?_
    obtain ⟨p3, hcp3, hf⟩ := hf_bind hf
    have hFc := r_free hD hS hA
    refine va_callv (va_runV (As := []) (rest := []) ⟨hx, hb, hml, hown, hts⟩ (c_X12_next l dC dI _ Q N σ p3 hcp3) (cwV 0 hts hX12_branch_X12_next_v345 rfl rfl rfl (by decide +kernel) ⟨Nat.le_of_ble_eq_true rfl, Nat.le_of_ble_eq_true rfl⟩) ⟨zPre.blind, va_recv hK hP (ci := 11) (q0 := 0) rfl rfl, zPre.go hZ hP hK hD⟩ rfl rfl hl.1 rfl (lv_room (Nat.le_of_ble_eq_true rfl)) dX12_branch_33 ⟨Nat.le_of_ble_eq_true rfl, Nat.le_of_ble_eq_true rfl⟩) hS (fun q _ h => hFc q h) hFc (fun u9 t9 H1 locs ht hvm hw hB hz1 hk1 hS => ?_)
    obtain ⟨hP, hK1, hD1⟩ := hB
    rw [ht] at hP
    have hD := hD1.weaken (fun _ _ _ h => hFc _ h)
    generalize H1 = H at hP hS ⊢
    refine lv_aload_n hx hb dX12_branch_36 rfl (lv_at hl 0 rfl) ?_
    refine lv_bipush (v := 40) hx hb dX12_branch_37 (by decide) ?_
    obtain ⟨p5, hcp5, hf⟩ := hf_bind hf
    have hFc := r_free hD hS hA
    refine va_calli (va_runV (As := [.int 40]) (rest := []) ⟨hx, hb, hml, hown, hts⟩ (c_X12_open l dC dI _ Q N p3 40 p5 hcp5) (cwV 1 hts hX12_branch_X12_open_v475 rfl rfl rfl (by decide +kernel) ⟨Nat.le_of_ble_eq_true rfl, Nat.le_of_ble_eq_true rfl⟩) ⟨zPre.blind, va_recv hK hP (ci := 11) (q0 := 0) rfl rfl, zPre.go hZ hP hK hD⟩ rfl rfl hl.1 rfl (lv_room (Nat.le_of_ble_eq_true rfl)) dX12_branch_39 ⟨Nat.le_of_ble_eq_true rfl, Nat.le_of_ble_eq_true rfl⟩) hS (fun q _ h => hFc q h) hFc (fun r6 u9 t9 H1 locs ht hvm hw hB hz1 hk1 hS => ?_)
    obtain ⟨hP, hK1, hD1⟩ := hB
    rw [ht] at hP
    have hD := hD1.weaken (fun _ _ _ h => hFc _ h)
    generalize H1 = H at hP hS ⊢
    obtain rfl : r6 = p5.1 := hw
    refine lv_pop hx hb dX12_branch_42 rfl ?_
    refine lv_aload_n hx hb dX12_branch_43 rfl (lv_at hl 0 rfl) ?_
    refine lv_iconst (v := 1) hx hb dX12_branch_44 (by decide) ?_
    refine lv_bipush (v := 20) hx hb dX12_branch_45 (by decide) ?_
    obtain ⟨p7, hcp7, hf⟩ := hf_bind hf
    have hFc := r_free hD hS hA
    refine va_callv (va_runV (As := [.int 1, .int 20]) (rest := []) ⟨hx, hb, hml, hown, hts⟩ (c_X12_then l dC dI _ Q N p5.2 1 20 p7 hcp7) (cwV 2 hts hX12_branch_X12_then_v393 rfl rfl rfl (by decide +kernel) ⟨Nat.le_of_ble_eq_true rfl, Nat.le_of_ble_eq_true rfl⟩) ⟨zPre.blind, va_recv hK hP (ci := 11) (q0 := 0) rfl rfl, zPre.go hZ hP hK hD⟩ rfl rfl hl.1 rfl (lv_room (Nat.le_of_ble_eq_true rfl)) dX12_branch_47 ⟨Nat.le_of_ble_eq_true rfl, Nat.le_of_ble_eq_true rfl⟩) hS (fun q _ h => hFc q h) hFc (fun u9 t9 H1 locs ht hvm hw hB hz1 hk1 hS => ?_)
    obtain ⟨hP, hK1, hD1⟩ := hB
    rw [ht] at hP
    have hD := hD1.weaken (fun _ _ _ h => hFc _ h)
    generalize H1 = H at hP hS ⊢
    refine lv_goto (tgt := 213) hx hb dX12_branch_50 (by decide) ?_
    obtain rfl := Option.some.inj hf
    exact W.vret hx hb hr (fun t ht hW => ⟨⟨(), rfl, trivial, by rw [ht]; exact hP, va_K.moved hW.alike hK, hD⟩, hS.F ht⟩) hS.2.2 dX12_branch_213
  replace hf := (if_neg c2).symm.trans hf
  by_cases c9 : (σ.a 65 ((x1 : Int32).toNatClampNeg)) = 1
  ·
    replace hf := (if_pos c9).symm.trans hf
    refine lv_tableIn (off := 47) (tgt := 53) hx hb dX12_branch_6 (by rw [c9]; decide) (by rw [c9]; decide) (by rw [c9]; decide) (by decide) ?_
    refine lv_aload_n hx hb dX12_branch_53 rfl (lv_at hl 0 rfl) ?_
    refine lv_bipush (v := 41) hx hb dX12_branch_54 (by decide) ?_
    obtain ⟨p10, hcp10, hf⟩ := hf_bind hf
    have hFc := r_free hD hS hA
    refine va_calli (va_runV (As := [.int 41]) (rest := []) ⟨hx, hb, hml, hown, hts⟩ (c_X12_shut l dC dI _ Q N σ 41 p10 hcp10) (cwV 1 hts hX12_branch_X12_shut_v468 rfl rfl rfl (by decide +kernel) ⟨Nat.le_of_ble_eq_true rfl, Nat.le_of_ble_eq_true rfl⟩) ⟨zPre.blind, va_recv hK hP (ci := 11) (q0 := 0) rfl rfl, zPre.go hZ hP hK hD⟩ rfl rfl hl.1 rfl (lv_room (Nat.le_of_ble_eq_true rfl)) dX12_branch_56 ⟨Nat.le_of_ble_eq_true rfl, Nat.le_of_ble_eq_true rfl⟩) hS (fun q _ h => hFc q h) hFc (fun r11 u9 t9 H1 locs ht hvm hw hB hz1 hk1 hS => ?_)
    obtain ⟨hP, hK1, hD1⟩ := hB
    rw [ht] at hP
    have hD := hD1.weaken (fun _ _ _ h => hFc _ h)
    generalize H1 = H at hP hS ⊢
    obtain rfl : r11 = p10.1 := hw
    refine lv_pop hx hb dX12_branch_59 rfl ?_
    refine lv_aload_n hx hb dX12_branch_60 rfl (lv_at hl 0 rfl) ?_
    refine rG_66 hx hb hts i_X12_branch_X12 hown hK hP (hts (.fieldLink RX12 180 "StatementRules2Model" "fp" "[I") k_X12_branch_fieldLink_RX12_180_SRModel_fp_I) dX12_branch_61 ?_
    refine lv_iload_n hx hb dX12_branch_64 rfl (lv_at hl 1 rfl) ?_
    refine lv_aload_n hx hb dX12_branch_65 rfl (lv_at hl 0 rfl) ?_
    refine lv_bipush (v := 13) hx hb dX12_branch_66 (by decide) ?_
    refine lv_iconst (v := 0) hx hb dX12_branch_68 (by decide) ?_
    obtain ⟨p12, hcp12, hf⟩ := hf_bind hf
    have hFc := r_free hD hS hA
    refine va_calli (va_runV (As := [.int 13, .int 0]) (rest := [.int x1, .ref (Q.q 66)]) ⟨hx, hb, hml, hown, hts⟩ (c_X12_emit l dC dI _ Q N p10.2 13 0 p12 hcp12) (cwV 2 hts hX12_branch_X12_emit_v464 rfl rfl rfl (by decide +kernel) ⟨Nat.le_of_ble_eq_true rfl, Nat.le_of_ble_eq_true rfl⟩) ⟨zPre.blind, va_recv hK hP (ci := 11) (q0 := 0) rfl rfl, zPre.go hZ hP hK hD⟩ rfl rfl hl.1 rfl (lv_room (Nat.le_of_ble_eq_true rfl)) dX12_branch_69 ⟨Nat.le_of_ble_eq_true rfl, Nat.le_of_ble_eq_true rfl⟩) hS (fun q _ h => hFc q h) hFc (fun r13 u9 t9 H1 locs ht hvm hw hB hz1 hk1 hS => ?_)
    obtain ⟨hP, hK1, hD1⟩ := hB
    rw [ht] at hP
    have hD := hD1.weaken (fun _ _ _ h => hFc _ h)
    generalize H1 = H at hP hS ⊢
    obtain rfl : r13 = p12.1 := hw
    refine rS_66 hx hb hK hP hD hS b1 dX12_branch_72 (fun H locs hP hD hS => ?_)
    refine lv_aload_n hx hb dX12_branch_73 rfl (lv_at hl 0 rfl) ?_
    refine lv_iconst (v := 2) hx hb dX12_branch_74 (by decide) ?_
    obtain ⟨p14, hcp14, hf⟩ := hf_bind hf
    have hFc := r_free hD hS hA
    refine va_callv (va_runV (As := [.int 2]) (rest := []) ⟨hx, hb, hml, hown, hts⟩ (c_X12_body l dC dI _ Q N (RS.setA p12.2 66 ((x1 : Int32).toNatClampNeg) p12.1) 2 p14 hcp14) (cwV 1 hts hX12_branch_X12_body_v521 rfl rfl rfl (by decide +kernel) ⟨Nat.le_of_ble_eq_true rfl, Nat.le_of_ble_eq_true rfl⟩) ⟨zPre.blind, va_recv hK hP (ci := 11) (q0 := 0) rfl rfl, zPre.go hZ hP hK hD⟩ rfl rfl hl.1 rfl (lv_room (Nat.le_of_ble_eq_true rfl)) dX12_branch_75 ⟨Nat.le_of_ble_eq_true rfl, Nat.le_of_ble_eq_true rfl⟩) hS (fun q _ h => hFc q h) hFc (fun u9 t9 H1 locs ht hvm hw hB hz1 hk1 hS => ?_)
    obtain ⟨hP, hK1, hD1⟩ := hB
    rw [ht] at hP
    have hD := hD1.weaken (fun _ _ _ h => hFc _ h)
    generalize H1 = H at hP hS ⊢
    refine lv_goto (tgt := 213) hx hb dX12_branch_78 (by decide) ?_
    obtain rfl := Option.some.inj hf
    exact W.vret hx hb hr (fun t ht hW => ⟨⟨(), rfl, trivial, by rw [ht]; exact hP, va_K.moved hW.alike hK, hD⟩, hS.F ht⟩) hS.2.2 dX12_branch_213
  replace hf := (if_neg c9).symm.trans hf
  by_cases c16 : (σ.a 65 ((x1 : Int32).toNatClampNeg)) = 2
  ·
    replace hf := (if_pos c16).symm.trans hf
    refine lv_tableIn (off := 75) (tgt := 81) hx hb dX12_branch_6 (by rw [c16]; decide) (by rw [c16]; decide) (by rw [c16]; decide) (by decide) ?_
    refine lv_aload_n hx hb dX12_branch_81 rfl (lv_at hl 0 rfl) ?_
    refine rG_10 (v := (σ.i 10)) hx hb hts i_X12_branch_X12 hown hK hP (hts (.fieldLink RX12 307 "StatementRules2Model" "tok" "I") k_X12_branch_fieldLink_RX12_307_SRModel_tok_I) dX12_branch_82 rfl ?_
    refine lv_sipush (v := 414) hx hb dX12_branch_85 (by decide) ?_
    refine lv_icmp_ne (tgt := 149) hx hb dX12_branch_88 (by decide) (fun c17 => ?_) (fun c17 => ?_)
    ·
      replace hf := (if_neg c17).symm.trans hf
      refine lv_aload_n hx hb dX12_branch_149 rfl (lv_at hl 0 rfl) ?_
      refine rG_22 hx hb hts i_X12_branch_X12 hown hK hP (hts (.fieldLink RX12 87 "StatementRules2Model" "ix" "[I") k_X12_branch_fieldLink_RX12_87_SRModel_ix_I) dX12_branch_150 ?_
      refine lv_aload_n hx hb dX12_branch_153 rfl (lv_at hl 0 rfl) ?_
      refine rG_66 hx hb hts i_X12_branch_X12 hown hK hP (hts (.fieldLink RX12 180 "StatementRules2Model" "fp" "[I") k_X12_branch_fieldLink_RX12_180_SRModel_fp_I) dX12_branch_154 ?_
      refine lv_iload_n hx hb dX12_branch_157 rfl (lv_at hl 1 rfl) ?_
      refine rL_66 (v := (σ.a 66 ((x1 : Int32).toNatClampNeg))) hx hb hK hP b1 dX12_branch_158 rfl ?_
      refine lv_aload_n hx hb dX12_branch_159 rfl (lv_at hl 0 rfl) ?_
      refine rG_20 (v := (σ.i 20)) hx hb hts i_X12_branch_X12 hown hK hP (hts (.fieldLink RX12 358 "StatementRules2Model" "codes" "I") k_X12_branch_fieldLink_RX12_358_SRModel_codes_I) dX12_branch_160 rfl ?_
      obtain ⟨b18, hf⟩ := hf_ite hf
      refine rS_22 hx hb hK hP hD hS b18 dX12_branch_163 (fun H locs hP hD hS => ?_)
      refine lv_aload_n hx hb dX12_branch_164 rfl (lv_at hl 0 rfl) ?_
      refine lv_iconst (v := 1) hx hb dX12_branch_165 (by decide) ?_
      obtain ⟨p19, hcp19, hf⟩ := hf_bind hf
      have hFc := r_free hD hS hA
      refine va_callv (va_runV (As := [.int 1]) (rest := []) ⟨hx, hb, hml, hown, hts⟩ (c_X12_over l dC dI _ Q N (RS.setA σ 22 (((σ.a 66 ((x1 : Int32).toNatClampNeg)) : Int32).toNatClampNeg) (σ.i 20)) 1 p19 hcp19) (cwV 1 hts hX12_branch_X12_over_v490 rfl rfl rfl (by decide +kernel) ⟨Nat.le_of_ble_eq_true rfl, Nat.le_of_ble_eq_true rfl⟩) ⟨zPre.blind, va_recv hK hP (ci := 11) (q0 := 0) rfl rfl, zPre.go hZ hP hK hD⟩ rfl rfl hl.1 rfl (lv_room (Nat.le_of_ble_eq_true rfl)) dX12_branch_166 ⟨Nat.le_of_ble_eq_true rfl, Nat.le_of_ble_eq_true rfl⟩) hS (fun q _ h => hFc q h) hFc (fun u9 t9 H1 locs ht hvm hw hB hz1 hk1 hS => ?_)
      obtain ⟨hP, hK1, hD1⟩ := hB
      rw [ht] at hP
      have hD := hD1.weaken (fun _ _ _ h => hFc _ h)
      generalize H1 = H at hP hS ⊢
      refine lv_goto (tgt := 213) hx hb dX12_branch_169 (by decide) ?_
      obtain rfl := Option.some.inj hf
      exact W.vret hx hb hr (fun t ht hW => ⟨⟨(), rfl, trivial, by rw [ht]; exact hP, va_K.moved hW.alike hK, hD⟩, hS.F ht⟩) hS.2.2 dX12_branch_213
    ·
      replace hf := (if_pos c17).symm.trans hf
      refine lv_aload_n hx hb dX12_branch_91 rfl (lv_at hl 0 rfl) ?_
      obtain ⟨p21, hcp21, hf⟩ := hf_bind hf
      have hFc := r_free hD hS hA
      refine va_callv (va_runV (As := []) (rest := []) ⟨hx, hb, hml, hown, hts⟩ (c_X12_next l dC dI _ Q N σ p21 hcp21) (cwV 0 hts hX12_branch_X12_next_v345 rfl rfl rfl (by decide +kernel) ⟨Nat.le_of_ble_eq_true rfl, Nat.le_of_ble_eq_true rfl⟩) ⟨zPre.blind, va_recv hK hP (ci := 11) (q0 := 0) rfl rfl, zPre.go hZ hP hK hD⟩ rfl rfl hl.1 rfl (lv_room (Nat.le_of_ble_eq_true rfl)) dX12_branch_92 ⟨Nat.le_of_ble_eq_true rfl, Nat.le_of_ble_eq_true rfl⟩) hS (fun q _ h => hFc q h) hFc (fun u9 t9 H1 locs ht hvm hw hB hz1 hk1 hS => ?_)
      obtain ⟨hP, hK1, hD1⟩ := hB
      rw [ht] at hP
      have hD := hD1.weaken (fun _ _ _ h => hFc _ h)
      generalize H1 = H at hP hS ⊢
      refine lv_aload_n hx hb dX12_branch_95 rfl (lv_at hl 0 rfl) ?_
      refine rG_67 hx hb hts i_X12_branch_X12 hown hK hP (hts (.fieldLink RX12 183 "StatementRules2Model" "fq" "[I") k_X12_branch_fieldLink_RX12_183_SRModel_fq_I) dX12_branch_96 ?_
      refine lv_iload_n hx hb dX12_branch_99 rfl (lv_at hl 1 rfl) ?_
      refine lv_aload_n hx hb dX12_branch_100 rfl (lv_at hl 0 rfl) ?_
      refine rG_75 (v := (p21.i 75)) hx hb hts i_X12_branch_X12 hown hK hP (hts (.fieldLink RX12 396 "StatementRules2Model" "res" "Z") k_X12_branch_fieldLink_RX12_396_SRModel_res_Z) dX12_branch_101 rfl ?_
      refine lv_if_eq (tgt := 111) hx hb dX12_branch_104 (by decide) (fun c23 => ?_) (fun c23 => ?_)
      ·
        replace hf := (if_pos c23).symm.trans hf
        refine lv_iconst (v := 0) hx hb dX12_branch_111 (by decide) ?_
        refine rS_67 hx hb hK hP hD hS b1 dX12_branch_112 (fun H locs hP hD hS => ?_)
        exact j_X12_branch_113 l dC dI Q N R hx hb hr hml hown hts hlocks hZ hA hK (RS.setA p21 67 ((x1 : Int32).toNatClampNeg) 0) x1 _ _ _ hf hP hD hS (lv_sub hl [0, 1] rfl)
      ·
        replace hf := (if_neg c23).symm.trans hf
        refine lv_iconst (v := 1) hx hb dX12_branch_107 (by decide) ?_
        refine lv_goto (tgt := 112) hx hb dX12_branch_108 (by decide) ?_
        refine rS_67 hx hb hK hP hD hS b1 dX12_branch_112 (fun H locs hP hD hS => ?_)
        exact j_X12_branch_113 l dC dI Q N R hx hb hr hml hown hts hlocks hZ hA hK (RS.setA p21 67 ((x1 : Int32).toNatClampNeg) 1) x1 _ _ _ hf hP hD hS (lv_sub hl [0, 1] rfl)
  replace hf := (if_neg c16).symm.trans hf
  refine lv_tableOut (tgt := 172) hx hb dX12_branch_6 (by have := z_ton (a := 0) c2 (by decide); have := z_ton (a := 1) c9 (by decide); have := z_ton (a := 2) c16 (by decide); omega) (by decide) ?_
  refine lv_aload_n hx hb dX12_branch_172 rfl (lv_at hl 0 rfl) ?_
  refine rG_22 hx hb hts i_X12_branch_X12 hown hK hP (hts (.fieldLink RX12 87 "StatementRules2Model" "ix" "[I") k_X12_branch_fieldLink_RX12_87_SRModel_ix_I) dX12_branch_173 ?_
  refine lv_aload_n hx hb dX12_branch_176 rfl (lv_at hl 0 rfl) ?_
  refine rG_68 hx hb hts i_X12_branch_X12 hown hK hP (hts (.fieldLink RX12 186 "StatementRules2Model" "fr" "[I") k_X12_branch_fieldLink_RX12_186_SRModel_fr_I) dX12_branch_177 ?_
  refine lv_iload_n hx hb dX12_branch_180 rfl (lv_at hl 1 rfl) ?_
  refine rL_68 (v := (σ.a 68 ((x1 : Int32).toNatClampNeg))) hx hb hK hP b1 dX12_branch_181 rfl ?_
  refine lv_aload_n hx hb dX12_branch_182 rfl (lv_at hl 0 rfl) ?_
  refine rG_20 (v := (σ.i 20)) hx hb hts i_X12_branch_X12 hown hK hP (hts (.fieldLink RX12 358 "StatementRules2Model" "codes" "I") k_X12_branch_fieldLink_RX12_358_SRModel_codes_I) dX12_branch_183 rfl ?_
  obtain ⟨b30, hf⟩ := hf_ite hf
  refine rS_22 hx hb hK hP hD hS b30 dX12_branch_186 (fun H locs hP hD hS => ?_)
  refine lv_aload_n hx hb dX12_branch_187 rfl (lv_at hl 0 rfl) ?_
  refine lv_aload_n hx hb dX12_branch_188 rfl (lv_at hl 0 rfl) ?_
  refine rG_75 (v := (σ.i 75)) hx hb hts i_X12_branch_X12 hown hK hP (hts (.fieldLink RX12 396 "StatementRules2Model" "res" "Z") k_X12_branch_fieldLink_RX12_396_SRModel_res_Z) dX12_branch_189 rfl ?_
  refine lv_if_ne (tgt := 205) hx hb dX12_branch_192 (by decide) (fun c31 => ?_) (fun c31 => ?_)
  ·
    replace hf := (if_neg c31).symm.trans hf
    refine lv_iconst (v := 1) hx hb dX12_branch_205 (by decide) ?_
    refine lv_goto (tgt := 210) hx hb dX12_branch_206 (by decide) ?_
    obtain ⟨p32, hcp32, hf⟩ := hf_bind hf
    have hFc := r_free hD hS hA
    refine va_callv (va_runV (As := [.int 1]) (rest := []) ⟨hx, hb, hml, hown, hts⟩ (c_X12_over l dC dI _ Q N (RS.setA σ 22 (((σ.a 68 ((x1 : Int32).toNatClampNeg)) : Int32).toNatClampNeg) (σ.i 20)) 1 p32 hcp32) (cwV 1 hts hX12_branch_X12_over_v490 rfl rfl rfl (by decide +kernel) ⟨Nat.le_of_ble_eq_true rfl, Nat.le_of_ble_eq_true rfl⟩) ⟨zPre.blind, va_recv hK hP (ci := 11) (q0 := 0) rfl rfl, zPre.go hZ hP hK hD⟩ rfl rfl hl.1 rfl (lv_room (Nat.le_of_ble_eq_true rfl)) dX12_branch_210 ⟨Nat.le_of_ble_eq_true rfl, Nat.le_of_ble_eq_true rfl⟩) hS (fun q _ h => hFc q h) hFc (fun u9 t9 H1 locs ht hvm hw hB hz1 hk1 hS => ?_)
    obtain ⟨hP, hK1, hD1⟩ := hB
    rw [ht] at hP
    have hD := hD1.weaken (fun _ _ _ h => hFc _ h)
    generalize H1 = H at hP hS ⊢
    obtain rfl := Option.some.inj hf
    exact W.vret hx hb hr (fun t ht hW => ⟨⟨(), rfl, trivial, by rw [ht]; exact hP, va_K.moved hW.alike hK, hD⟩, hS.F ht⟩) hS.2.2 dX12_branch_213
  ·
    replace hf := (if_pos c31).symm.trans hf
    refine lv_aload_n hx hb dX12_branch_195 rfl (lv_at hl 0 rfl) ?_
    refine rG_67 hx hb hts i_X12_branch_X12 hown hK hP (hts (.fieldLink RX12 183 "StatementRules2Model" "fq" "[I") k_X12_branch_fieldLink_RX12_183_SRModel_fq_I) dX12_branch_196 ?_
    refine lv_iload_n hx hb dX12_branch_199 rfl (lv_at hl 1 rfl) ?_
    refine rL_67 (v := (σ.a 67 ((x1 : Int32).toNatClampNeg))) hx hb hK hP b1 dX12_branch_200 rfl ?_
    refine lv_iconst (v := 1) hx hb dX12_branch_201 (by decide) ?_
    refine lv_icmp_ne (tgt := 209) hx hb dX12_branch_202 (by decide) (fun c34 => ?_) (fun c34 => ?_)
    ·
      replace hf := (if_neg c34).symm.trans hf
      refine lv_iconst (v := 0) hx hb dX12_branch_209 (by decide) ?_
      obtain ⟨p35, hcp35, hf⟩ := hf_bind hf
      have hFc := r_free hD hS hA
      refine va_callv (va_runV (As := [.int 0]) (rest := []) ⟨hx, hb, hml, hown, hts⟩ (c_X12_over l dC dI _ Q N (RS.setA σ 22 (((σ.a 68 ((x1 : Int32).toNatClampNeg)) : Int32).toNatClampNeg) (σ.i 20)) 0 p35 hcp35) (cwV 1 hts hX12_branch_X12_over_v490 rfl rfl rfl (by decide +kernel) ⟨Nat.le_of_ble_eq_true rfl, Nat.le_of_ble_eq_true rfl⟩) ⟨zPre.blind, va_recv hK hP (ci := 11) (q0 := 0) rfl rfl, zPre.go hZ hP hK hD⟩ rfl rfl hl.1 rfl (lv_room (Nat.le_of_ble_eq_true rfl)) dX12_branch_210 ⟨Nat.le_of_ble_eq_true rfl, Nat.le_of_ble_eq_true rfl⟩) hS (fun q _ h => hFc q h) hFc (fun u9 t9 H1 locs ht hvm hw hB hz1 hk1 hS => ?_)
      obtain ⟨hP, hK1, hD1⟩ := hB
      rw [ht] at hP
      have hD := hD1.weaken (fun _ _ _ h => hFc _ h)
      generalize H1 = H at hP hS ⊢
      obtain rfl := Option.some.inj hf
      exact W.vret hx hb hr (fun t ht hW => ⟨⟨(), rfl, trivial, by rw [ht]; exact hP, va_K.moved hW.alike hK, hD⟩, hS.F ht⟩) hS.2.2 dX12_branch_213
    ·
      replace hf := (if_pos c34).symm.trans hf
      refine lv_iconst (v := 1) hx hb dX12_branch_205 (by decide) ?_
      refine lv_goto (tgt := 210) hx hb dX12_branch_206 (by decide) ?_
      obtain ⟨p37, hcp37, hf⟩ := hf_bind hf
      have hFc := r_free hD hS hA
      refine va_callv (va_runV (As := [.int 1]) (rest := []) ⟨hx, hb, hml, hown, hts⟩ (c_X12_over l dC dI _ Q N (RS.setA σ 22 (((σ.a 68 ((x1 : Int32).toNatClampNeg)) : Int32).toNatClampNeg) (σ.i 20)) 1 p37 hcp37) (cwV 1 hts hX12_branch_X12_over_v490 rfl rfl rfl (by decide +kernel) ⟨Nat.le_of_ble_eq_true rfl, Nat.le_of_ble_eq_true rfl⟩) ⟨zPre.blind, va_recv hK hP (ci := 11) (q0 := 0) rfl rfl, zPre.go hZ hP hK hD⟩ rfl rfl hl.1 rfl (lv_room (Nat.le_of_ble_eq_true rfl)) dX12_branch_210 ⟨Nat.le_of_ble_eq_true rfl, Nat.le_of_ble_eq_true rfl⟩) hS (fun q _ h => hFc q h) hFc (fun u9 t9 H1 locs ht hvm hw hB hz1 hk1 hS => ?_)
      obtain ⟨hP, hK1, hD1⟩ := hB
      rw [ht] at hP
      have hD := hD1.weaken (fun _ _ _ h => hFc _ h)
      generalize H1 = H at hP hS ⊢
      obtain rfl := Option.some.inj hf
      exact W.vret hx hb hr (fun t ht hW => ⟨⟨(), rfl, trivial, by rw [ht]; exact hP, va_K.moved hW.alike hK, hD⟩, hS.F ht⟩) hS.2.2 dX12_branch_213
theorem k_X12_isJustTrue_fieldLink_RX12_294_SRModel_tokens_I : Cond.fieldLink RX12 294 "StatementRules2Model" "tokens" "I" ∈ wzX12_isJustTrue := List.mem_cons_of_mem _ (List.mem_append_left _ (List.mem_of_getElem? (i := 0) rfl))
theorem i_X12_isJustTrue_X12 : ∀ w ∈ wsX120, w ∈ wzX12_isJustTrue := fun _ h => List.mem_cons_of_mem _ (List.mem_append_right _ (List.mem_append_left _ (h)))
set_option maxHeartbeats 4000000 in
set_option maxRecDepth 100000 in
theorem j_X12_isJustTrue_18 {p : Program} {e : Env} {s : State} {m : MethodId} {args : Array Value} {below : List Frame} {meth : Method} {c : Code} {A : Nat → Prop} (l : Launch) (dC : Nat → ClassId) (dI : Nat → Nat → Nat) (Q : RQ) (N : Nat) (R : Int32 × RS) (hx : p.tables.exec = Jvm.exec) (hb : c.code = cX12_isJustTrue) (hr : meth.sig.returnType = (some .boolean)) (hml : c.maxLocals = 2) (hown : s.vm.findClass RX12 = some m.cls) (hts : ∀ w ∈ wzX12_isJustTrue, w.before args s = true) (hlocks : meth.locks = false) (hZ : zAMB s) (hA : ∀ q : Nat, s.heap.size ≤ q → A q) (hK : va_K (dC, dI) vwCl (rT Q) s) : ∀ (σ : RS) (H : Heap) (locs : List Loc) (ls : Array Slot), f_X12_isJustTrue_18 N σ = some R → va_P (dC, dI) vwCl (rW Q σ) H → va_D A (rW Q σ) → va_S A s.heap H locs → lv_has ls 2 [] → W p l e ({ frames := 1, cells := 0, slots := 0, locals := 60 }) s m args below meth c H locs 0 0 (MQ below (va_Qi (fun (r : Int32) (_ : Unit) => r = R.1) (fun (_ : Unit) (t : State) => zPost dC dI A (rW Q R.2) (rT Q) t) A) args s 0 0 A) (F0 m 18 ls []) := by
  intro σ  H locs ls hf hP hD hS hl
  unfold f_X12_isJustTrue_18 at hf
  refine lv_iconst (v := 0) hx hb dX12_isJustTrue_18 (by decide) ?_
  obtain rfl := Option.some.inj hf
  exact W.zret (v := 0) hx hb hr (rfl) (fun t ht hW => ⟨⟨0, (), rfl, rfl, by rw [ht]; exact hP, va_K.moved hW.alike hK, hD⟩, hS.F ht⟩) hS.2.2 dX12_isJustTrue_19
set_option maxHeartbeats 4000000 in
set_option maxRecDepth 100000 in
theorem c_X12_isJustTrue (l : Launch) (dC : Nat → ClassId) (dI : Nat → Nat → Nat) (sz : Nat) (Q : RQ) (N : Nat) (σ : RS) (x1 : Int32) (R : Int32 × RS) (hf : f_X12_isJustTrue N σ x1 = some R) : Met l yX12_isJustTrue wzX12_isJustTrue ({ frames := 1, cells := 0, slots := 0, locals := 60 }) (va_Pc [.ref Q.h0, .int x1] (zPre dC dI sz (rW Q σ) (rT Q))) (va_Qi (fun (r : Int32) (_ : Unit) => r = R.1) (fun (_ : Unit) (t : State) => zPost dC dI (va_A (rW Q σ) sz) (rW Q R.2) (rT Q) t) (va_A (rW Q σ) sz)) 0 0 (va_A (rW Q σ) sz) := by
  refine Met.ofW (cc := cX12_isJustTrue) (maxL := 2) (ret := (some .boolean)) (by decide) rfl ?_
  intro p e s m args below meth c s₁ B hml hv
  obtain ⟨rfl, hsz, hZ, hP, hK, hD0⟩ := hv
  have hx := B.exec
  have hb := B.bytes
  have hr := B.returns
  have hts := atoms_spec (ws := wzX12_isJustTrue) B.pre
  have hown : s.vm.findClass RX12 = some m.cls := findClass_of_methodNamed B.named
  have hlocks := B.notSynchronized
  subst hsz
  have hD := hD0.self (sz := s.heap.size)
  generalize hAe : va_A (rW Q σ) s.heap.size = A at hD ⊢
  have hA : ∀ q : Nat, s.heap.size ≤ q → A q := fun q h => by rw [← hAe]; exact Or.inr h
  have hS : va_S A s.heap s.heap [] := va_S.rf
  have hl := lv_entry ([.ref Q.h0, .int x1]) (n := 2) (Nat.le_of_ble_eq_true rfl)
  rw [lg_entry_eq]
  generalize (lg_sl ([.ref Q.h0, .int x1]) ++ List.replicate (2 - (lg_sl ([.ref Q.h0, .int x1])).length) Slot.unset).toArray = ls at hl ⊢
  have hl : lv_has ls 2 [(0, .ref Q.h0), (1, .int x1)] := hl
  unfold f_X12_isJustTrue at hf
  refine lv_iload_n hx hb dX12_isJustTrue_0 rfl (lv_at hl 1 rfl) ?_
  refine lv_if_le (tgt := 18) hx hb dX12_isJustTrue_1 (by decide) (fun c1 => ?_) (fun c1 => ?_)
  ·
    replace hf := (if_pos c1).symm.trans hf
    exact j_X12_isJustTrue_18 l dC dI Q N R hx hb hr hml hown hts hlocks hZ hA hK σ _ _ _ hf hP hD hS (lv_sub hl [] rfl)
  ·
    replace hf := (if_neg c1).symm.trans hf
    refine lv_aload_n hx hb dX12_isJustTrue_4 rfl (lv_at hl 0 rfl) ?_
    refine rG_17 (v := (σ.i 17)) hx hb hts i_X12_isJustTrue_X12 hown hK hP (hts (.fieldLink RX12 294 "StatementRules2Model" "tokens" "I") k_X12_isJustTrue_fieldLink_RX12_294_SRModel_tokens_I) dX12_isJustTrue_5 rfl ?_
    refine lv_iload_n hx hb dX12_isJustTrue_8 rfl (lv_at hl 1 rfl) ?_
    refine lv_iconst (v := 1) hx hb dX12_isJustTrue_9 (by decide) ?_
    refine lv_iadd hx hb dX12_isJustTrue_10 ?_
    refine lv_icmp_ne (tgt := 18) hx hb dX12_isJustTrue_11 (by decide) (fun c2 => ?_) (fun c2 => ?_)
    ·
      replace hf := (if_neg c2).symm.trans hf
      exact j_X12_isJustTrue_18 l dC dI Q N R hx hb hr hml hown hts hlocks hZ hA hK σ _ _ _ hf hP hD hS (lv_sub hl [] rfl)
    ·
      replace hf := (if_pos c2).symm.trans hf
      refine lv_iconst (v := 1) hx hb dX12_isJustTrue_14 (by decide) ?_
      refine lv_goto (tgt := 19) hx hb dX12_isJustTrue_15 (by decide) ?_
      obtain rfl := Option.some.inj hf
      exact W.zret (v := 1) hx hb hr (rfl) (fun t ht hW => ⟨⟨1, (), rfl, rfl, by rw [ht]; exact hP, va_K.moved hW.alike hK, hD⟩, hS.F ht⟩) hS.2.2 dX12_isJustTrue_19
theorem k_X12_whiles_fieldLink_RX12_177_SRModel_fs_I : Cond.fieldLink RX12 177 "StatementRules2Model" "fs" "[I" ∈ wzX12_whiles := List.mem_cons_of_mem _ (List.mem_append_left _ (List.mem_of_getElem? (i := 0) rfl))
theorem i_X12_whiles_X12 : ∀ w ∈ wsX120, w ∈ wzX12_whiles := fun _ h => List.mem_cons_of_mem _ (List.mem_append_right _ (List.mem_append_left _ (h)))
theorem k_X12_whiles_fieldLink_RX12_180_SRModel_fp_I : Cond.fieldLink RX12 180 "StatementRules2Model" "fp" "[I" ∈ wzX12_whiles := List.mem_cons_of_mem _ (List.mem_append_left _ (List.mem_of_getElem? (i := 1) rfl))
theorem k_X12_whiles_fieldLink_RX12_358_SRModel_codes_I : Cond.fieldLink RX12 358 "StatementRules2Model" "codes" "I" ∈ wzX12_whiles := List.mem_cons_of_mem _ (List.mem_append_left _ (List.mem_of_getElem? (i := 2) rfl))
theorem k_X12_whiles_fieldLink_RX12_189_SRModel_fv_I : Cond.fieldLink RX12 189 "StatementRules2Model" "fv" "[I" ∈ wzX12_whiles := List.mem_cons_of_mem _ (List.mem_append_left _ (List.mem_of_getElem? (i := 3) rfl))
theorem k_X12_whiles_fieldLink_RX12_307_SRModel_tok_I : Cond.fieldLink RX12 307 "StatementRules2Model" "tok" "I" ∈ wzX12_whiles := List.mem_cons_of_mem _ (List.mem_append_left _ (List.mem_of_getElem? (i := 4) rfl))
theorem k_X12_whiles_fieldLink_RX12_294_SRModel_tokens_I : Cond.fieldLink RX12 294 "StatementRules2Model" "tokens" "I" ∈ wzX12_whiles := List.mem_cons_of_mem _ (List.mem_append_left _ (List.mem_of_getElem? (i := 5) rfl))
theorem k_X12_whiles_fieldLink_RX12_195_SRModel_fx_I : Cond.fieldLink RX12 195 "StatementRules2Model" "fx" "[I" ∈ wzX12_whiles := List.mem_cons_of_mem _ (List.mem_append_left _ (List.mem_of_getElem? (i := 6) rfl))
theorem k_X12_whiles_fieldLink_RX12_183_SRModel_fq_I : Cond.fieldLink RX12 183 "StatementRules2Model" "fq" "[I" ∈ wzX12_whiles := List.mem_cons_of_mem _ (List.mem_append_left _ (List.mem_of_getElem? (i := 7) rfl))
theorem k_X12_whiles_fieldLink_RX12_186_SRModel_fr_I : Cond.fieldLink RX12 186 "StatementRules2Model" "fr" "[I" ∈ wzX12_whiles := List.mem_cons_of_mem _ (List.mem_append_left _ (List.mem_of_getElem? (i := 8) rfl))
theorem k_X12_whiles_fieldLink_RX12_150_SRModel_continues_I : Cond.fieldLink RX12 150 "StatementRules2Model" "continues" "[I" ∈ wzX12_whiles := List.mem_cons_of_mem _ (List.mem_append_left _ (List.mem_of_getElem? (i := 9) rfl))
theorem k_X12_whiles_fieldLink_RX12_87_SRModel_ix_I : Cond.fieldLink RX12 87 "StatementRules2Model" "ix" "[I" ∈ wzX12_whiles := List.mem_cons_of_mem _ (List.mem_append_left _ (List.mem_of_getElem? (i := 10) rfl))
theorem k_X12_whiles_fieldLink_RX12_147_SRModel_breaks_I : Cond.fieldLink RX12 147 "StatementRules2Model" "breaks" "[I" ∈ wzX12_whiles := List.mem_cons_of_mem _ (List.mem_append_left _ (List.mem_of_getElem? (i := 11) rfl))
theorem k_X12_whiles_fieldLink_RX12_367_SRModel_goals_I : Cond.fieldLink RX12 367 "StatementRules2Model" "goals" "I" ∈ wzX12_whiles := List.mem_cons_of_mem _ (List.mem_append_left _ (List.mem_of_getElem? (i := 12) rfl))
theorem k_X12_whiles_fieldLink_RX12_153_SRModel_broken_Z : Cond.fieldLink RX12 153 "StatementRules2Model" "broken" "[Z" ∈ wzX12_whiles := List.mem_cons_of_mem _ (List.mem_append_left _ (List.mem_of_getElem? (i := 13) rfl))
set_option maxHeartbeats 4000000 in
set_option maxRecDepth 100000 in
theorem j_X12_whiles_77 {p : Program} {e : Env} {s : State} {m : MethodId} {args : Array Value} {below : List Frame} {meth : Method} {c : Code} {A : Nat → Prop} (l : Launch) (dC : Nat → ClassId) (dI : Nat → Nat → Nat) (Q : RQ) (N : Nat) (R : RS) (hx : p.tables.exec = Jvm.exec) (hb : c.code = cX12_whiles) (hr : meth.sig.returnType = none) (hml : c.maxLocals = 3) (hown : s.vm.findClass RX12 = some m.cls) (hts : ∀ w ∈ wzX12_whiles, w.before args s = true) (hlocks : meth.locks = false) (hZ : zAMB s) (hA : ∀ q : Nat, s.heap.size ≤ q → A q) (hK : va_K (dC, dI) vwCl (rT Q) s) : ∀ (σ : RS) (H : Heap) (locs : List Loc) (ls : Array Slot), f_X12_whiles_77 N σ = some R → va_P (dC, dI) vwCl (rW Q σ) H → va_D A (rW Q σ) → va_S A s.heap H locs → lv_has ls 3 [(0, .ref Q.h0)] → W p l e ({ frames := 6, cells := 0, slots := 0, locals := 360 }) s m args below meth c H locs 0 0 (MQ below (va_Qv (fun (_ : Unit) => True) (fun (_ : Unit) (t : State) => zPost dC dI A (rW Q R) (rT Q) t) A) args s 0 0 A) (F0 m 77 ls []) := by
  intro σ  H locs ls hf hP hD hS hl
  unfold f_X12_whiles_77 at hf
  refine lv_aload_n hx hb dX12_whiles_77 rfl (lv_at hl 0 rfl) ?_
  refine lv_iconst (v := 1) hx hb dX12_whiles_78 (by decide) ?_
  refine lv_bipush (v := 20) hx hb dX12_whiles_79 (by decide) ?_
  obtain ⟨p8, hcp8, hf⟩ := hf_bind hf
  have hFc := r_free hD hS hA
  refine va_callv (va_runV (As := [.int 1, .int 20]) (rest := []) ⟨hx, hb, hml, hown, hts⟩ (c_X12_then l dC dI _ Q N σ 1 20 p8 hcp8) (cwV 2 hts hX12_whiles_X12_then_v393 rfl rfl rfl (by decide +kernel) ⟨Nat.le_of_ble_eq_true rfl, Nat.le_of_ble_eq_true rfl⟩) ⟨zPre.blind, va_recv hK hP (ci := 11) (q0 := 0) rfl rfl, zPre.go hZ hP hK hD⟩ rfl rfl hl.1 rfl (lv_room (Nat.le_of_ble_eq_true rfl)) dX12_whiles_81 ⟨Nat.le_of_ble_eq_true rfl, Nat.le_of_ble_eq_true rfl⟩) hS (fun q _ h => hFc q h) hFc (fun u9 t9 H1 locs ht hvm hw hB hz1 hk1 hS => ?_)
  obtain ⟨hP, hK1, hD1⟩ := hB
  rw [ht] at hP
  have hD := hD1.weaken (fun _ _ _ h => hFc _ h)
  generalize H1 = H at hP hS ⊢
  refine lv_goto (tgt := 258) hx hb dX12_whiles_84 (by decide) ?_
  obtain rfl := Option.some.inj hf
  exact W.vret hx hb hr (fun t ht hW => ⟨⟨(), rfl, trivial, by rw [ht]; exact hP, va_K.moved hW.alike hK, hD⟩, hS.F ht⟩) hS.2.2 dX12_whiles_258
set_option maxHeartbeats 4000000 in
set_option maxRecDepth 100000 in
theorem j_X12_whiles_111 {p : Program} {e : Env} {s : State} {m : MethodId} {args : Array Value} {below : List Frame} {meth : Method} {c : Code} {A : Nat → Prop} (l : Launch) (dC : Nat → ClassId) (dI : Nat → Nat → Nat) (Q : RQ) (N : Nat) (R : RS) (hx : p.tables.exec = Jvm.exec) (hb : c.code = cX12_whiles) (hr : meth.sig.returnType = none) (hml : c.maxLocals = 3) (hown : s.vm.findClass RX12 = some m.cls) (hts : ∀ w ∈ wzX12_whiles, w.before args s = true) (hlocks : meth.locks = false) (hZ : zAMB s) (hA : ∀ q : Nat, s.heap.size ≤ q → A q) (hK : va_K (dC, dI) vwCl (rT Q) s) : ∀ (σ : RS) (x1 : Int32) (H : Heap) (locs : List Loc) (ls : Array Slot), f_X12_whiles_111 N σ x1 = some R → va_P (dC, dI) vwCl (rW Q σ) H → va_D A (rW Q σ) → va_S A s.heap H locs → lv_has ls 3 [(0, .ref Q.h0), (1, .int x1)] → W p l e ({ frames := 6, cells := 0, slots := 0, locals := 360 }) s m args below meth c H locs 0 0 (MQ below (va_Qv (fun (_ : Unit) => True) (fun (_ : Unit) (t : State) => zPost dC dI A (rW Q R) (rT Q) t) A) args s 0 0 A) (F0 m 111 ls []) := by
  intro σ x1 H locs ls hf hP hD hS hl
  unfold f_X12_whiles_111 at hf
  refine lv_aload_n hx hb dX12_whiles_111 rfl (lv_at hl 0 rfl) ?_
  refine lv_bipush (v := 41) hx hb dX12_whiles_112 (by decide) ?_
  obtain ⟨p14, hcp14, hf⟩ := hf_bind hf
  have hFc := r_free hD hS hA
  refine va_calli (va_runV (As := [.int 41]) (rest := []) ⟨hx, hb, hml, hown, hts⟩ (c_X12_shut l dC dI _ Q N σ 41 p14 hcp14) (cwV 1 hts hX12_whiles_X12_shut_v468 rfl rfl rfl (by decide +kernel) ⟨Nat.le_of_ble_eq_true rfl, Nat.le_of_ble_eq_true rfl⟩) ⟨zPre.blind, va_recv hK hP (ci := 11) (q0 := 0) rfl rfl, zPre.go hZ hP hK hD⟩ rfl rfl hl.1 rfl (lv_room (Nat.le_of_ble_eq_true rfl)) dX12_whiles_114 ⟨Nat.le_of_ble_eq_true rfl, Nat.le_of_ble_eq_true rfl⟩) hS (fun q _ h => hFc q h) hFc (fun r15 u9 t9 H1 locs ht hvm hw hB hz1 hk1 hS => ?_)
  obtain ⟨hP, hK1, hD1⟩ := hB
  rw [ht] at hP
  have hD := hD1.weaken (fun _ _ _ h => hFc _ h)
  generalize H1 = H at hP hS ⊢
  obtain rfl : r15 = p14.1 := hw
  refine lv_pop hx hb dX12_whiles_117 rfl ?_
  refine lv_aload_n hx hb dX12_whiles_118 rfl (lv_at hl 0 rfl) ?_
  refine rG_67 hx hb hts i_X12_whiles_X12 hown hK hP (hts (.fieldLink RX12 183 "StatementRules2Model" "fq" "[I") k_X12_whiles_fieldLink_RX12_183_SRModel_fq_I) dX12_whiles_119 ?_
  refine lv_iload_n hx hb dX12_whiles_122 rfl (lv_at hl 1 rfl) ?_
  refine lv_aload_n hx hb dX12_whiles_123 rfl (lv_at hl 0 rfl) ?_
  refine lv_bipush (v := 13) hx hb dX12_whiles_124 (by decide) ?_
  refine lv_iconst (v := 0) hx hb dX12_whiles_126 (by decide) ?_
  obtain ⟨p16, hcp16, hf⟩ := hf_bind hf
  have hFc := r_free hD hS hA
  refine va_calli (va_runV (As := [.int 13, .int 0]) (rest := [.int x1, .ref (Q.q 67)]) ⟨hx, hb, hml, hown, hts⟩ (c_X12_emit l dC dI _ Q N p14.2 13 0 p16 hcp16) (cwV 2 hts hX12_whiles_X12_emit_v464 rfl rfl rfl (by decide +kernel) ⟨Nat.le_of_ble_eq_true rfl, Nat.le_of_ble_eq_true rfl⟩) ⟨zPre.blind, va_recv hK hP (ci := 11) (q0 := 0) rfl rfl, zPre.go hZ hP hK hD⟩ rfl rfl hl.1 rfl (lv_room (Nat.le_of_ble_eq_true rfl)) dX12_whiles_127 ⟨Nat.le_of_ble_eq_true rfl, Nat.le_of_ble_eq_true rfl⟩) hS (fun q _ h => hFc q h) hFc (fun r17 u9 t9 H1 locs ht hvm hw hB hz1 hk1 hS => ?_)
  obtain ⟨hP, hK1, hD1⟩ := hB
  rw [ht] at hP
  have hD := hD1.weaken (fun _ _ _ h => hFc _ h)
  generalize H1 = H at hP hS ⊢
  obtain rfl : r17 = p16.1 := hw
  obtain ⟨b18, hf⟩ := hf_ite hf
  refine rS_67 hx hb hK hP hD hS b18 dX12_whiles_130 (fun H locs hP hD hS => ?_)
  refine lv_aload_n hx hb dX12_whiles_131 rfl (lv_at hl 0 rfl) ?_
  refine lv_iconst (v := 1) hx hb dX12_whiles_132 (by decide) ?_
  refine lv_iconst (v := 0) hx hb dX12_whiles_133 (by decide) ?_
  obtain ⟨p19, hcp19, hf⟩ := hf_bind hf
  have hFc := r_free hD hS hA
  refine va_calli (va_runV (As := [.int 1, .int 0]) (rest := []) ⟨hx, hb, hml, hown, hts⟩ (c_X12_emit l dC dI _ Q N (RS.setA p16.2 67 ((x1 : Int32).toNatClampNeg) p16.1) 1 0 p19 hcp19) (cwV 2 hts hX12_whiles_X12_emit_v464 rfl rfl rfl (by decide +kernel) ⟨Nat.le_of_ble_eq_true rfl, Nat.le_of_ble_eq_true rfl⟩) ⟨zPre.blind, va_recv hK hP (ci := 11) (q0 := 0) rfl rfl, zPre.go hZ hP hK hD⟩ rfl rfl hl.1 rfl (lv_room (Nat.le_of_ble_eq_true rfl)) dX12_whiles_134 ⟨Nat.le_of_ble_eq_true rfl, Nat.le_of_ble_eq_true rfl⟩) hS (fun q _ h => hFc q h) hFc (fun r20 u9 t9 H1 locs ht hvm hw hB hz1 hk1 hS => ?_)
  obtain ⟨hP, hK1, hD1⟩ := hB
  rw [ht] at hP
  have hD := hD1.weaken (fun _ _ _ h => hFc _ h)
  generalize H1 = H at hP hS ⊢
  obtain rfl : r20 = p19.1 := hw
  refine lv_pop hx hb dX12_whiles_137 rfl ?_
  refine lv_aload_n hx hb dX12_whiles_138 rfl (lv_at hl 0 rfl) ?_
  refine rG_68 hx hb hts i_X12_whiles_X12 hown hK hP (hts (.fieldLink RX12 186 "StatementRules2Model" "fr" "[I") k_X12_whiles_fieldLink_RX12_186_SRModel_fr_I) dX12_whiles_139 ?_
  refine lv_iload_n hx hb dX12_whiles_142 rfl (lv_at hl 1 rfl) ?_
  refine lv_aload_n hx hb dX12_whiles_143 rfl (lv_at hl 0 rfl) ?_
  obtain ⟨p21, hcp21, hf⟩ := hf_bind hf
  have hFc := r_free hD hS hA
  refine va_calli (va_runV (As := []) (rest := [.int x1, .ref (Q.q 68)]) ⟨hx, hb, hml, hown, hts⟩ (c_X12_loopGoal l dC dI _ Q N p19.2 p21 hcp21) (cwV 0 hts hX12_whiles_X12_loopGoal_v536 rfl rfl rfl (by decide +kernel) ⟨Nat.le_of_ble_eq_true rfl, Nat.le_of_ble_eq_true rfl⟩) ⟨zPre.blind, va_recv hK hP (ci := 11) (q0 := 0) rfl rfl, zPre.go hZ hP hK hD⟩ rfl rfl hl.1 rfl (lv_room (Nat.le_of_ble_eq_true rfl)) dX12_whiles_144 ⟨Nat.le_of_ble_eq_true rfl, Nat.le_of_ble_eq_true rfl⟩) hS (fun q _ h => hFc q h) hFc (fun r22 u9 t9 H1 locs ht hvm hw hB hz1 hk1 hS => ?_)
  obtain ⟨hP, hK1, hD1⟩ := hB
  rw [ht] at hP
  have hD := hD1.weaken (fun _ _ _ h => hFc _ h)
  generalize H1 = H at hP hS ⊢
  obtain rfl : r22 = p21.1 := hw
  refine rS_68 hx hb hK hP hD hS b18 dX12_whiles_147 (fun H locs hP hD hS => ?_)
  refine lv_aload_n hx hb dX12_whiles_148 rfl (lv_at hl 0 rfl) ?_
  refine lv_iconst (v := 2) hx hb dX12_whiles_149 (by decide) ?_
  obtain ⟨p23, hcp23, hf⟩ := hf_bind hf
  have hFc := r_free hD hS hA
  refine va_callv (va_runV (As := [.int 2]) (rest := []) ⟨hx, hb, hml, hown, hts⟩ (c_X12_body l dC dI _ Q N (RS.setA p21.2 68 ((x1 : Int32).toNatClampNeg) p21.1) 2 p23 hcp23) (cwV 1 hts hX12_whiles_X12_body_v521 rfl rfl rfl (by decide +kernel) ⟨Nat.le_of_ble_eq_true rfl, Nat.le_of_ble_eq_true rfl⟩) ⟨zPre.blind, va_recv hK hP (ci := 11) (q0 := 0) rfl rfl, zPre.go hZ hP hK hD⟩ rfl rfl hl.1 rfl (lv_room (Nat.le_of_ble_eq_true rfl)) dX12_whiles_150 ⟨Nat.le_of_ble_eq_true rfl, Nat.le_of_ble_eq_true rfl⟩) hS (fun q _ h => hFc q h) hFc (fun u9 t9 H1 locs ht hvm hw hB hz1 hk1 hS => ?_)
  obtain ⟨hP, hK1, hD1⟩ := hB
  rw [ht] at hP
  have hD := hD1.weaken (fun _ _ _ h => hFc _ h)
  generalize H1 = H at hP hS ⊢
  refine lv_goto (tgt := 258) hx hb dX12_whiles_153 (by decide) ?_
  obtain rfl := Option.some.inj hf
  exact W.vret hx hb hr (fun t ht hW => ⟨⟨(), rfl, trivial, by rw [ht]; exact hP, va_K.moved hW.alike hK, hD⟩, hS.F ht⟩) hS.2.2 dX12_whiles_258
set_option maxHeartbeats 4000000 in
set_option maxRecDepth 100000 in
theorem c_X12_whiles (l : Launch) (dC : Nat → ClassId) (dI : Nat → Nat → Nat) (sz : Nat) (Q : RQ) (N : Nat) (σ : RS) (x1 : Int32) (R : RS) (hf : f_X12_whiles N σ x1 = some R) : Met l yX12_whiles wzX12_whiles ({ frames := 6, cells := 0, slots := 0, locals := 360 }) (va_Pc [.ref Q.h0, .int x1] (zPre dC dI sz (rW Q σ) (rT Q))) (va_Qv (fun (_ : Unit) => True) (fun (_ : Unit) (t : State) => zPost dC dI (va_A (rW Q σ) sz) (rW Q R) (rT Q) t) (va_A (rW Q σ) sz)) 0 0 (va_A (rW Q σ) sz) := by
  refine Met.ofW (cc := cX12_whiles) (maxL := 3) (ret := none) (by decide) rfl ?_
  intro p e s m args below meth c s₁ B hml hv
  obtain ⟨rfl, hsz, hZ, hP, hK, hD0⟩ := hv
  have hx := B.exec
  have hb := B.bytes
  have hr := B.returns
  have hts := atoms_spec (ws := wzX12_whiles) B.pre
  have hown : s.vm.findClass RX12 = some m.cls := findClass_of_methodNamed B.named
  have hlocks := B.notSynchronized
  subst hsz
  have hD := hD0.self (sz := s.heap.size)
  generalize hAe : va_A (rW Q σ) s.heap.size = A at hD ⊢
  have hA : ∀ q : Nat, s.heap.size ≤ q → A q := fun q h => by rw [← hAe]; exact Or.inr h
  have hS : va_S A s.heap s.heap [] := va_S.rf
  have hl := lv_entry ([.ref Q.h0, .int x1]) (n := 3) (Nat.le_of_ble_eq_true rfl)
  rw [lg_entry_eq]
  generalize (lg_sl ([.ref Q.h0, .int x1]) ++ List.replicate (3 - (lg_sl ([.ref Q.h0, .int x1])).length) Slot.unset).toArray = ls at hl ⊢
  have hl : lv_has ls 3 [(0, .ref Q.h0), (1, .int x1)] := hl
  unfold f_X12_whiles at hf
  refine lv_aload_n hx hb dX12_whiles_0 rfl (lv_at hl 0 rfl) ?_
  refine rG_65 hx hb hts i_X12_whiles_X12 hown hK hP (hts (.fieldLink RX12 177 "StatementRules2Model" "fs" "[I") k_X12_whiles_fieldLink_RX12_177_SRModel_fs_I) dX12_whiles_1 ?_
  refine lv_iload_n hx hb dX12_whiles_4 rfl (lv_at hl 1 rfl) ?_
  obtain ⟨b1, hf⟩ := hf_ite hf
  refine rL_65 (v := (σ.a 65 ((x1 : Int32).toNatClampNeg))) hx hb hK hP b1 dX12_whiles_5 rfl ?_
  by_cases c2 : (σ.a 65 ((x1 : Int32).toNatClampNeg)) = 0
  ·
    replace hf := (if_pos c2).symm.trans hf
    refine lv_lookup (off := 26) (tgt := 32) hx hb dX12_whiles_6 (by decide) (by rw [c2]; decide) (by decide) ?_
    refine lv_aload_n hx hb dX12_whiles_32 rfl (lv_at hl 0 rfl) ?_
    obtain ⟨p3, hcp3, hf⟩ := hf_bind hf
    have hFc := r_free hD hS hA
    refine va_callv (va_runV (As := []) (rest := []) ⟨hx, hb, hml, hown, hts⟩ (c_X12_next l dC dI _ Q N σ p3 hcp3) (cwV 0 hts hX12_whiles_X12_next_v345 rfl rfl rfl (by decide +kernel) ⟨Nat.le_of_ble_eq_true rfl, Nat.le_of_ble_eq_true rfl⟩) ⟨zPre.blind, va_recv hK hP (ci := 11) (q0 := 0) rfl rfl, zPre.go hZ hP hK hD⟩ rfl rfl hl.1 rfl (lv_room (Nat.le_of_ble_eq_true rfl)) dX12_whiles_33 ⟨Nat.le_of_ble_eq_true rfl, Nat.le_of_ble_eq_true rfl⟩) hS (fun q _ h => hFc q h) hFc (fun u9 t9 H1 locs ht hvm hw hB hz1 hk1 hS => ?_)
    obtain ⟨hP, hK1, hD1⟩ := hB
    rw [ht] at hP
    have hD := hD1.weaken (fun _ _ _ h => hFc _ h)
    generalize H1 = H at hP hS ⊢
    refine lv_aload_n hx hb dX12_whiles_36 rfl (lv_at hl 0 rfl) ?_
    refine rG_66 hx hb hts i_X12_whiles_X12 hown hK hP (hts (.fieldLink RX12 180 "StatementRules2Model" "fp" "[I") k_X12_whiles_fieldLink_RX12_180_SRModel_fp_I) dX12_whiles_37 ?_
    refine lv_iload_n hx hb dX12_whiles_40 rfl (lv_at hl 1 rfl) ?_
    refine lv_aload_n hx hb dX12_whiles_41 rfl (lv_at hl 0 rfl) ?_
    refine rG_20 (v := (p3.i 20)) hx hb hts i_X12_whiles_X12 hown hK hP (hts (.fieldLink RX12 358 "StatementRules2Model" "codes" "I") k_X12_whiles_fieldLink_RX12_358_SRModel_codes_I) dX12_whiles_42 rfl ?_
    refine rS_66 hx hb hK hP hD hS b1 dX12_whiles_45 (fun H locs hP hD hS => ?_)
    refine lv_aload_n hx hb dX12_whiles_46 rfl (lv_at hl 0 rfl) ?_
    refine lv_bipush (v := 40) hx hb dX12_whiles_47 (by decide) ?_
    obtain ⟨p5, hcp5, hf⟩ := hf_bind hf
    have hFc := r_free hD hS hA
    refine va_calli (va_runV (As := [.int 40]) (rest := []) ⟨hx, hb, hml, hown, hts⟩ (c_X12_open l dC dI _ Q N (RS.setA p3 66 ((x1 : Int32).toNatClampNeg) (p3.i 20)) 40 p5 hcp5) (cwV 1 hts hX12_whiles_X12_open_v475 rfl rfl rfl (by decide +kernel) ⟨Nat.le_of_ble_eq_true rfl, Nat.le_of_ble_eq_true rfl⟩) ⟨zPre.blind, va_recv hK hP (ci := 11) (q0 := 0) rfl rfl, zPre.go hZ hP hK hD⟩ rfl rfl hl.1 rfl (lv_room (Nat.le_of_ble_eq_true rfl)) dX12_whiles_49 ⟨Nat.le_of_ble_eq_true rfl, Nat.le_of_ble_eq_true rfl⟩) hS (fun q _ h => hFc q h) hFc (fun r6 u9 t9 H1 locs ht hvm hw hB hz1 hk1 hS => ?_)
    obtain ⟨hP, hK1, hD1⟩ := hB
    rw [ht] at hP
    have hD := hD1.weaken (fun _ _ _ h => hFc _ h)
    generalize H1 = H at hP hS ⊢
    obtain rfl : r6 = p5.1 := hw
    refine lv_pop hx hb dX12_whiles_52 rfl ?_
    refine lv_aload_n hx hb dX12_whiles_53 rfl (lv_at hl 0 rfl) ?_
    refine rG_69 hx hb hts i_X12_whiles_X12 hown hK hP (hts (.fieldLink RX12 189 "StatementRules2Model" "fv" "[I") k_X12_whiles_fieldLink_RX12_189_SRModel_fv_I) dX12_whiles_54 ?_
    refine lv_iload_n hx hb dX12_whiles_57 rfl (lv_at hl 1 rfl) ?_
    refine lv_aload_n hx hb dX12_whiles_58 rfl (lv_at hl 0 rfl) ?_
    refine rG_10 (v := (p5.2.i 10)) hx hb hts i_X12_whiles_X12 hown hK hP (hts (.fieldLink RX12 307 "StatementRules2Model" "tok" "I") k_X12_whiles_fieldLink_RX12_307_SRModel_tok_I) dX12_whiles_59 rfl ?_
    refine lv_sipush (v := 432) hx hb dX12_whiles_62 (by decide) ?_
    refine lv_icmp_ne (tgt := 75) hx hb dX12_whiles_65 (by decide) (fun c7 => ?_) (fun c7 => ?_)
    ·
      replace hf := (if_neg c7).symm.trans hf
      refine lv_iconst (v := 0) hx hb dX12_whiles_75 (by decide) ?_
      refine rS_69 hx hb hK hP hD hS b1 dX12_whiles_76 (fun H locs hP hD hS => ?_)
      exact j_X12_whiles_77 l dC dI Q N R hx hb hr hml hown hts hlocks hZ hA hK (RS.setA p5.2 69 ((x1 : Int32).toNatClampNeg) 0) _ _ _ hf hP hD hS (lv_sub hl [0] rfl)
    ·
      replace hf := (if_pos c7).symm.trans hf
      refine lv_aload_n hx hb dX12_whiles_68 rfl (lv_at hl 0 rfl) ?_
      refine rG_17 (v := (p5.2.i 17)) hx hb hts i_X12_whiles_X12 hown hK hP (hts (.fieldLink RX12 294 "StatementRules2Model" "tokens" "I") k_X12_whiles_fieldLink_RX12_294_SRModel_tokens_I) dX12_whiles_69 rfl ?_
      refine lv_goto (tgt := 76) hx hb dX12_whiles_72 (by decide) ?_
      refine rS_69 hx hb hK hP hD hS b1 dX12_whiles_76 (fun H locs hP hD hS => ?_)
      exact j_X12_whiles_77 l dC dI Q N R hx hb hr hml hown hts hlocks hZ hA hK (RS.setA p5.2 69 ((x1 : Int32).toNatClampNeg) (p5.2.i 17)) _ _ _ hf hP hD hS (lv_sub hl [0] rfl)
  replace hf := (if_neg c2).symm.trans hf
  by_cases c10 : (σ.a 65 ((x1 : Int32).toNatClampNeg)) = 1
  ·
    replace hf := (if_pos c10).symm.trans hf
    refine lv_lookup (off := 81) (tgt := 87) hx hb dX12_whiles_6 (by decide) (by rw [c10]; decide) (by decide) ?_
    refine lv_aload_n hx hb dX12_whiles_87 rfl (lv_at hl 0 rfl) ?_
    refine rG_71 hx hb hts i_X12_whiles_X12 hown hK hP (hts (.fieldLink RX12 195 "StatementRules2Model" "fx" "[I") k_X12_whiles_fieldLink_RX12_195_SRModel_fx_I) dX12_whiles_88 ?_
    refine lv_iload_n hx hb dX12_whiles_91 rfl (lv_at hl 1 rfl) ?_
    refine lv_aload_n hx hb dX12_whiles_92 rfl (lv_at hl 0 rfl) ?_
    refine lv_aload_n hx hb dX12_whiles_93 rfl (lv_at hl 0 rfl) ?_
    refine rG_69 hx hb hts i_X12_whiles_X12 hown hK hP (hts (.fieldLink RX12 189 "StatementRules2Model" "fv" "[I") k_X12_whiles_fieldLink_RX12_189_SRModel_fv_I) dX12_whiles_94 ?_
    refine lv_iload_n hx hb dX12_whiles_97 rfl (lv_at hl 1 rfl) ?_
    refine rL_69 (v := (σ.a 69 ((x1 : Int32).toNatClampNeg))) hx hb hK hP b1 dX12_whiles_98 rfl ?_
    obtain ⟨p11, hcp11, hf⟩ := hf_bind hf
    have hFc := r_free hD hS hA
    refine va_calli (va_runV (As := [.int (σ.a 69 ((x1 : Int32).toNatClampNeg))]) (rest := [.int x1, .ref (Q.q 71)]) ⟨hx, hb, hml, hown, hts⟩ (c_X12_isJustTrue l dC dI _ Q N σ (σ.a 69 ((x1 : Int32).toNatClampNeg)) p11 hcp11) (cwV 1 hts hX12_whiles_X12_isJustTrue_v533 rfl rfl rfl (by decide +kernel) ⟨Nat.le_of_ble_eq_true rfl, Nat.le_of_ble_eq_true rfl⟩) ⟨zPre.blind, va_recv hK hP (ci := 11) (q0 := 0) rfl rfl, zPre.go hZ hP hK hD⟩ rfl rfl hl.1 rfl (lv_room (Nat.le_of_ble_eq_true rfl)) dX12_whiles_99 ⟨Nat.le_of_ble_eq_true rfl, Nat.le_of_ble_eq_true rfl⟩) hS (fun q _ h => hFc q h) hFc (fun r12 u9 t9 H1 locs ht hvm hw hB hz1 hk1 hS => ?_)
    obtain ⟨hP, hK1, hD1⟩ := hB
    rw [ht] at hP
    have hD := hD1.weaken (fun _ _ _ h => hFc _ h)
    generalize H1 = H at hP hS ⊢
    obtain rfl : r12 = p11.1 := hw
    refine lv_if_eq (tgt := 109) hx hb dX12_whiles_102 (by decide) (fun c13 => ?_) (fun c13 => ?_)
    ·
      replace hf := (if_pos c13).symm.trans hf
      refine lv_iconst (v := 0) hx hb dX12_whiles_109 (by decide) ?_
      refine rS_71 hx hb hK hP hD hS b1 dX12_whiles_110 (fun H locs hP hD hS => ?_)
      exact j_X12_whiles_111 l dC dI Q N R hx hb hr hml hown hts hlocks hZ hA hK (RS.setA p11.2 71 ((x1 : Int32).toNatClampNeg) 0) x1 _ _ _ hf hP hD hS (lv_sub hl [0, 1] rfl)
    ·
      replace hf := (if_neg c13).symm.trans hf
      refine lv_iconst (v := 1) hx hb dX12_whiles_105 (by decide) ?_
      refine lv_goto (tgt := 110) hx hb dX12_whiles_106 (by decide) ?_
      refine rS_71 hx hb hK hP hD hS b1 dX12_whiles_110 (fun H locs hP hD hS => ?_)
      exact j_X12_whiles_111 l dC dI Q N R hx hb hr hml hown hts hlocks hZ hA hK (RS.setA p11.2 71 ((x1 : Int32).toNatClampNeg) 1) x1 _ _ _ hf hP hD hS (lv_sub hl [0, 1] rfl)
  replace hf := (if_neg c10).symm.trans hf
  refine lv_lookup (off := 150) (tgt := 156) hx hb dX12_whiles_6 (by decide) (by show Op.lookupswitch.offset [(0, 26), (1, 81)] 150 ((σ.a 65 ((x1 : Int32).toNatClampNeg)) : Int32).toInt = 150; rw [lv_osw (k := 0) (a := 0) c2 (by decide), lv_osw (k := 1) (a := 1) c10 (by decide)]; rfl) (by decide) ?_
  refine lv_aload_n hx hb dX12_whiles_156 rfl (lv_at hl 0 rfl) ?_
  refine rG_68 hx hb hts i_X12_whiles_X12 hown hK hP (hts (.fieldLink RX12 186 "StatementRules2Model" "fr" "[I") k_X12_whiles_fieldLink_RX12_186_SRModel_fr_I) dX12_whiles_157 ?_
  refine lv_iload_n hx hb dX12_whiles_160 rfl (lv_at hl 1 rfl) ?_
  refine rL_68 (v := (σ.a 68 ((x1 : Int32).toNatClampNeg))) hx hb hK hP b1 dX12_whiles_161 rfl ?_
  refine lv_istore_n (lv' := [(2, .int (σ.a 68 ((x1 : Int32).toNatClampNeg))), (0, .ref Q.h0), (1, .int x1)]) hx hb dX12_whiles_162 rfl hl (by decide) rfl (fun ls hl => ?_)
  refine lv_aload_n hx hb dX12_whiles_163 rfl (lv_at hl 1 rfl) ?_
  refine lv_aload_n hx hb dX12_whiles_164 rfl (lv_at hl 1 rfl) ?_
  refine rG_49 hx hb hts i_X12_whiles_X12 hown hK hP (hts (.fieldLink RX12 150 "StatementRules2Model" "continues" "[I") k_X12_whiles_fieldLink_RX12_150_SRModel_continues_I) dX12_whiles_165 ?_
  refine lv_iload_n hx hb dX12_whiles_168 rfl (lv_at hl 0 rfl) ?_
  obtain ⟨b25, hf⟩ := hf_ite hf
  refine rL_49 (v := (σ.a 49 (((σ.a 68 ((x1 : Int32).toNatClampNeg)) : Int32).toNatClampNeg))) hx hb hK hP b25 dX12_whiles_169 rfl ?_
  refine lv_aload_n hx hb dX12_whiles_170 rfl (lv_at hl 1 rfl) ?_
  refine rG_66 hx hb hts i_X12_whiles_X12 hown hK hP (hts (.fieldLink RX12 180 "StatementRules2Model" "fp" "[I") k_X12_whiles_fieldLink_RX12_180_SRModel_fp_I) dX12_whiles_171 ?_
  refine lv_iload_n hx hb dX12_whiles_174 rfl (lv_at hl 2 rfl) ?_
  refine rL_66 (v := (σ.a 66 ((x1 : Int32).toNatClampNeg))) hx hb hK hP b1 dX12_whiles_175 rfl ?_
  obtain ⟨p26, hcp26, hf⟩ := hf_bind hf
  have hFc := r_free hD hS hA
  refine va_callv (va_runV (As := [.int (σ.a 49 (((σ.a 68 ((x1 : Int32).toNatClampNeg)) : Int32).toNatClampNeg)), .int (σ.a 66 ((x1 : Int32).toNatClampNeg))]) (rest := []) ⟨hx, hb, hml, hown, hts⟩ (c_X12_patch l dC dI _ Q N σ (σ.a 49 (((σ.a 68 ((x1 : Int32).toNatClampNeg)) : Int32).toNatClampNeg)) (σ.a 66 ((x1 : Int32).toNatClampNeg)) p26 hcp26) (cwV 2 hts hX12_whiles_X12_patch_v510 rfl rfl rfl (by decide +kernel) ⟨Nat.le_of_ble_eq_true rfl, Nat.le_of_ble_eq_true rfl⟩) ⟨zPre.blind, va_recv hK hP (ci := 11) (q0 := 0) rfl rfl, zPre.go hZ hP hK hD⟩ rfl rfl hl.1 rfl (lv_room (Nat.le_of_ble_eq_true rfl)) dX12_whiles_176 ⟨Nat.le_of_ble_eq_true rfl, Nat.le_of_ble_eq_true rfl⟩) hS (fun q _ h => hFc q h) hFc (fun u9 t9 H1 locs ht hvm hw hB hz1 hk1 hS => ?_)
  obtain ⟨hP, hK1, hD1⟩ := hB
  rw [ht] at hP
  have hD := hD1.weaken (fun _ _ _ h => hFc _ h)
  generalize H1 = H at hP hS ⊢
  refine lv_aload_n hx hb dX12_whiles_179 rfl (lv_at hl 1 rfl) ?_
  refine lv_bipush (v := 15) hx hb dX12_whiles_180 (by decide) ?_
  refine lv_aload_n hx hb dX12_whiles_182 rfl (lv_at hl 1 rfl) ?_
  refine rG_66 hx hb hts i_X12_whiles_X12 hown hK hP (hts (.fieldLink RX12 180 "StatementRules2Model" "fp" "[I") k_X12_whiles_fieldLink_RX12_180_SRModel_fp_I) dX12_whiles_183 ?_
  refine lv_iload_n hx hb dX12_whiles_186 rfl (lv_at hl 2 rfl) ?_
  refine rL_66 (v := (p26.a 66 ((x1 : Int32).toNatClampNeg))) hx hb hK hP b1 dX12_whiles_187 rfl ?_
  obtain ⟨p28, hcp28, hf⟩ := hf_bind hf
  have hFc := r_free hD hS hA
  refine va_calli (va_runV (As := [.int 15, .int (p26.a 66 ((x1 : Int32).toNatClampNeg))]) (rest := []) ⟨hx, hb, hml, hown, hts⟩ (c_X12_emit l dC dI _ Q N p26 15 (p26.a 66 ((x1 : Int32).toNatClampNeg)) p28 hcp28) (cwV 2 hts hX12_whiles_X12_emit_v464 rfl rfl rfl (by decide +kernel) ⟨Nat.le_of_ble_eq_true rfl, Nat.le_of_ble_eq_true rfl⟩) ⟨zPre.blind, va_recv hK hP (ci := 11) (q0 := 0) rfl rfl, zPre.go hZ hP hK hD⟩ rfl rfl hl.1 rfl (lv_room (Nat.le_of_ble_eq_true rfl)) dX12_whiles_188 ⟨Nat.le_of_ble_eq_true rfl, Nat.le_of_ble_eq_true rfl⟩) hS (fun q _ h => hFc q h) hFc (fun r29 u9 t9 H1 locs ht hvm hw hB hz1 hk1 hS => ?_)
  obtain ⟨hP, hK1, hD1⟩ := hB
  rw [ht] at hP
  have hD := hD1.weaken (fun _ _ _ h => hFc _ h)
  generalize H1 = H at hP hS ⊢
  obtain rfl : r29 = p28.1 := hw
  refine lv_pop hx hb dX12_whiles_191 rfl ?_
  refine lv_aload_n hx hb dX12_whiles_192 rfl (lv_at hl 1 rfl) ?_
  refine rG_22 hx hb hts i_X12_whiles_X12 hown hK hP (hts (.fieldLink RX12 87 "StatementRules2Model" "ix" "[I") k_X12_whiles_fieldLink_RX12_87_SRModel_ix_I) dX12_whiles_193 ?_
  refine lv_aload_n hx hb dX12_whiles_196 rfl (lv_at hl 1 rfl) ?_
  refine rG_67 hx hb hts i_X12_whiles_X12 hown hK hP (hts (.fieldLink RX12 183 "StatementRules2Model" "fq" "[I") k_X12_whiles_fieldLink_RX12_183_SRModel_fq_I) dX12_whiles_197 ?_
  refine lv_iload_n hx hb dX12_whiles_200 rfl (lv_at hl 2 rfl) ?_
  refine rL_67 (v := (p28.2.a 67 ((x1 : Int32).toNatClampNeg))) hx hb hK hP b1 dX12_whiles_201 rfl ?_
  refine lv_aload_n hx hb dX12_whiles_202 rfl (lv_at hl 1 rfl) ?_
  refine rG_20 (v := (p28.2.i 20)) hx hb hts i_X12_whiles_X12 hown hK hP (hts (.fieldLink RX12 358 "StatementRules2Model" "codes" "I") k_X12_whiles_fieldLink_RX12_358_SRModel_codes_I) dX12_whiles_203 rfl ?_
  obtain ⟨b30, hf⟩ := hf_ite hf
  refine rS_22 hx hb hK hP hD hS b30 dX12_whiles_206 (fun H locs hP hD hS => ?_)
  refine lv_aload_n hx hb dX12_whiles_207 rfl (lv_at hl 1 rfl) ?_
  refine lv_aload_n hx hb dX12_whiles_208 rfl (lv_at hl 1 rfl) ?_
  refine rG_48 hx hb hts i_X12_whiles_X12 hown hK hP (hts (.fieldLink RX12 147 "StatementRules2Model" "breaks" "[I") k_X12_whiles_fieldLink_RX12_147_SRModel_breaks_I) dX12_whiles_209 ?_
  refine lv_iload_n hx hb dX12_whiles_212 rfl (lv_at hl 0 rfl) ?_
  refine rL_48 (v := (p28.2.a 48 (((σ.a 68 ((x1 : Int32).toNatClampNeg)) : Int32).toNatClampNeg))) hx hb hK hP b25 dX12_whiles_213 rfl ?_
  refine lv_aload_n hx hb dX12_whiles_214 rfl (lv_at hl 1 rfl) ?_
  refine rG_20 (v := (p28.2.i 20)) hx hb hts i_X12_whiles_X12 hown hK hP (hts (.fieldLink RX12 358 "StatementRules2Model" "codes" "I") k_X12_whiles_fieldLink_RX12_358_SRModel_codes_I) dX12_whiles_215 rfl ?_
  obtain ⟨p31, hcp31, hf⟩ := hf_bind hf
  have hFc := r_free hD hS hA
  refine va_callv (va_runV (As := [.int (p28.2.a 48 (((σ.a 68 ((x1 : Int32).toNatClampNeg)) : Int32).toNatClampNeg)), .int (p28.2.i 20)]) (rest := []) ⟨hx, hb, hml, hown, hts⟩ (c_X12_patch l dC dI _ Q N (RS.setA p28.2 22 (((p28.2.a 67 ((x1 : Int32).toNatClampNeg)) : Int32).toNatClampNeg) (p28.2.i 20)) (p28.2.a 48 (((σ.a 68 ((x1 : Int32).toNatClampNeg)) : Int32).toNatClampNeg)) (p28.2.i 20) p31 hcp31) (cwV 2 hts hX12_whiles_X12_patch_v510 rfl rfl rfl (by decide +kernel) ⟨Nat.le_of_ble_eq_true rfl, Nat.le_of_ble_eq_true rfl⟩) ⟨zPre.blind, va_recv hK hP (ci := 11) (q0 := 0) rfl rfl, zPre.go hZ hP hK hD⟩ rfl rfl hl.1 rfl (lv_room (Nat.le_of_ble_eq_true rfl)) dX12_whiles_218 ⟨Nat.le_of_ble_eq_true rfl, Nat.le_of_ble_eq_true rfl⟩) hS (fun q _ h => hFc q h) hFc (fun u9 t9 H1 locs ht hvm hw hB hz1 hk1 hS => ?_)
  obtain ⟨hP, hK1, hD1⟩ := hB
  rw [ht] at hP
  have hD := hD1.weaken (fun _ _ _ h => hFc _ h)
  generalize H1 = H at hP hS ⊢
  refine lv_aload_n hx hb dX12_whiles_221 rfl (lv_at hl 1 rfl) ?_
  refine lv_dup hx hb dX12_whiles_222 rfl ?_
  refine rG_43 (v := (p31.i 43)) hx hb hts i_X12_whiles_X12 hown hK hP (hts (.fieldLink RX12 367 "StatementRules2Model" "goals" "I") k_X12_whiles_fieldLink_RX12_367_SRModel_goals_I) dX12_whiles_223 rfl ?_
  refine lv_iconst (v := 1) hx hb dX12_whiles_226 (by decide) ?_
  refine lv_isub hx hb dX12_whiles_227 ?_
  refine rP_43 hx hb hts i_X12_whiles_X12 hown hK hP hD hS (hts (.fieldLink RX12 367 "StatementRules2Model" "goals" "I") k_X12_whiles_fieldLink_RX12_367_SRModel_goals_I) dX12_whiles_228 (fun H locs hP hD hS => ?_)
  refine lv_aload_n hx hb dX12_whiles_231 rfl (lv_at hl 1 rfl) ?_
  refine lv_aload_n hx hb dX12_whiles_232 rfl (lv_at hl 1 rfl) ?_
  refine rG_71 hx hb hts i_X12_whiles_X12 hown hK hP (hts (.fieldLink RX12 195 "StatementRules2Model" "fx" "[I") k_X12_whiles_fieldLink_RX12_195_SRModel_fx_I) dX12_whiles_233 ?_
  refine lv_iload_n hx hb dX12_whiles_236 rfl (lv_at hl 2 rfl) ?_
  refine rL_71 (v := (p31.a 71 ((x1 : Int32).toNatClampNeg))) hx hb hK hP b1 dX12_whiles_237 rfl ?_
  refine lv_if_eq (tgt := 250) hx hb dX12_whiles_238 (by decide) (fun c33 => ?_) (fun c33 => ?_)
  ·
    replace hf := (if_pos c33).symm.trans hf
    refine lv_iconst (v := 1) hx hb dX12_whiles_250 (by decide) ?_
    refine lv_goto (tgt := 255) hx hb dX12_whiles_251 (by decide) ?_
    obtain ⟨p34, hcp34, hf⟩ := hf_bind hf
    have hFc := r_free hD hS hA
    refine va_callv (va_runV (As := [.int 1]) (rest := []) ⟨hx, hb, hml, hown, hts⟩ (c_X12_over l dC dI _ Q N (RS.setI p31 43 ((p31.i 43) - 1)) 1 p34 hcp34) (cwV 1 hts hX12_whiles_X12_over_v490 rfl rfl rfl (by decide +kernel) ⟨Nat.le_of_ble_eq_true rfl, Nat.le_of_ble_eq_true rfl⟩) ⟨zPre.blind, va_recv hK hP (ci := 11) (q0 := 0) rfl rfl, zPre.go hZ hP hK hD⟩ rfl rfl hl.1 rfl (lv_room (Nat.le_of_ble_eq_true rfl)) dX12_whiles_255 ⟨Nat.le_of_ble_eq_true rfl, Nat.le_of_ble_eq_true rfl⟩) hS (fun q _ h => hFc q h) hFc (fun u9 t9 H1 locs ht hvm hw hB hz1 hk1 hS => ?_)
    obtain ⟨hP, hK1, hD1⟩ := hB
    rw [ht] at hP
    have hD := hD1.weaken (fun _ _ _ h => hFc _ h)
    generalize H1 = H at hP hS ⊢
    obtain rfl := Option.some.inj hf
    exact W.vret hx hb hr (fun t ht hW => ⟨⟨(), rfl, trivial, by rw [ht]; exact hP, va_K.moved hW.alike hK, hD⟩, hS.F ht⟩) hS.2.2 dX12_whiles_258
  ·
    replace hf := (if_neg c33).symm.trans hf
    refine lv_aload_n hx hb dX12_whiles_241 rfl (lv_at hl 1 rfl) ?_
    refine rG_50 hx hb hts i_X12_whiles_X12 hown hK hP (hts (.fieldLink RX12 153 "StatementRules2Model" "broken" "[Z") k_X12_whiles_fieldLink_RX12_153_SRModel_broken_Z) dX12_whiles_242 ?_
    refine lv_iload_n hx hb dX12_whiles_245 rfl (lv_at hl 0 rfl) ?_
    refine rL_50 (v := (p31.a 50 (((σ.a 68 ((x1 : Int32).toNatClampNeg)) : Int32).toNatClampNeg))) hx hb hK hP b25 dX12_whiles_246 rfl ?_
    refine lv_if_eq (tgt := 254) hx hb dX12_whiles_247 (by decide) (fun c36 => ?_) (fun c36 => ?_)
    ·
      replace hf := (if_pos c36).symm.trans hf
      refine lv_iconst (v := 0) hx hb dX12_whiles_254 (by decide) ?_
      obtain ⟨p37, hcp37, hf⟩ := hf_bind hf
      have hFc := r_free hD hS hA
      refine va_callv (va_runV (As := [.int 0]) (rest := []) ⟨hx, hb, hml, hown, hts⟩ (c_X12_over l dC dI _ Q N (RS.setI p31 43 ((p31.i 43) - 1)) 0 p37 hcp37) (cwV 1 hts hX12_whiles_X12_over_v490 rfl rfl rfl (by decide +kernel) ⟨Nat.le_of_ble_eq_true rfl, Nat.le_of_ble_eq_true rfl⟩) ⟨zPre.blind, va_recv hK hP (ci := 11) (q0 := 0) rfl rfl, zPre.go hZ hP hK hD⟩ rfl rfl hl.1 rfl (lv_room (Nat.le_of_ble_eq_true rfl)) dX12_whiles_255 ⟨Nat.le_of_ble_eq_true rfl, Nat.le_of_ble_eq_true rfl⟩) hS (fun q _ h => hFc q h) hFc (fun u9 t9 H1 locs ht hvm hw hB hz1 hk1 hS => ?_)
      obtain ⟨hP, hK1, hD1⟩ := hB
      rw [ht] at hP
      have hD := hD1.weaken (fun _ _ _ h => hFc _ h)
      generalize H1 = H at hP hS ⊢
      obtain rfl := Option.some.inj hf
      exact W.vret hx hb hr (fun t ht hW => ⟨⟨(), rfl, trivial, by rw [ht]; exact hP, va_K.moved hW.alike hK, hD⟩, hS.F ht⟩) hS.2.2 dX12_whiles_258
    ·
      replace hf := (if_neg c36).symm.trans hf
      refine lv_iconst (v := 1) hx hb dX12_whiles_250 (by decide) ?_
      refine lv_goto (tgt := 255) hx hb dX12_whiles_251 (by decide) ?_
      obtain ⟨p39, hcp39, hf⟩ := hf_bind hf
      have hFc := r_free hD hS hA
      refine va_callv (va_runV (As := [.int 1]) (rest := []) ⟨hx, hb, hml, hown, hts⟩ (c_X12_over l dC dI _ Q N (RS.setI p31 43 ((p31.i 43) - 1)) 1 p39 hcp39) (cwV 1 hts hX12_whiles_X12_over_v490 rfl rfl rfl (by decide +kernel) ⟨Nat.le_of_ble_eq_true rfl, Nat.le_of_ble_eq_true rfl⟩) ⟨zPre.blind, va_recv hK hP (ci := 11) (q0 := 0) rfl rfl, zPre.go hZ hP hK hD⟩ rfl rfl hl.1 rfl (lv_room (Nat.le_of_ble_eq_true rfl)) dX12_whiles_255 ⟨Nat.le_of_ble_eq_true rfl, Nat.le_of_ble_eq_true rfl⟩) hS (fun q _ h => hFc q h) hFc (fun u9 t9 H1 locs ht hvm hw hB hz1 hk1 hS => ?_)
      obtain ⟨hP, hK1, hD1⟩ := hB
      rw [ht] at hP
      have hD := hD1.weaken (fun _ _ _ h => hFc _ h)
      generalize H1 = H at hP hS ⊢
      obtain rfl := Option.some.inj hf
      exact W.vret hx hb hr (fun t ht hW => ⟨⟨(), rfl, trivial, by rw [ht]; exact hP, va_K.moved hW.alike hK, hD⟩, hS.F ht⟩) hS.2.2 dX12_whiles_258
theorem k_X12_repeats_fieldLink_RX12_177_SRModel_fs_I : Cond.fieldLink RX12 177 "StatementRules2Model" "fs" "[I" ∈ wzX12_repeats := List.mem_cons_of_mem _ (List.mem_append_left _ (List.mem_of_getElem? (i := 0) rfl))
theorem i_X12_repeats_X12 : ∀ w ∈ wsX120, w ∈ wzX12_repeats := fun _ h => List.mem_cons_of_mem _ (List.mem_append_right _ (List.mem_append_left _ (h)))
theorem k_X12_repeats_fieldLink_RX12_180_SRModel_fp_I : Cond.fieldLink RX12 180 "StatementRules2Model" "fp" "[I" ∈ wzX12_repeats := List.mem_cons_of_mem _ (List.mem_append_left _ (List.mem_of_getElem? (i := 1) rfl))
theorem k_X12_repeats_fieldLink_RX12_186_SRModel_fr_I : Cond.fieldLink RX12 186 "StatementRules2Model" "fr" "[I" ∈ wzX12_repeats := List.mem_cons_of_mem _ (List.mem_append_left _ (List.mem_of_getElem? (i := 2) rfl))
theorem k_X12_repeats_fieldLink_RX12_150_SRModel_continues_I : Cond.fieldLink RX12 150 "StatementRules2Model" "continues" "[I" ∈ wzX12_repeats := List.mem_cons_of_mem _ (List.mem_append_left _ (List.mem_of_getElem? (i := 3) rfl))
theorem k_X12_repeats_fieldLink_RX12_358_SRModel_codes_I : Cond.fieldLink RX12 358 "StatementRules2Model" "codes" "I" ∈ wzX12_repeats := List.mem_cons_of_mem _ (List.mem_append_left _ (List.mem_of_getElem? (i := 4) rfl))
theorem k_X12_repeats_fieldLink_RX12_183_SRModel_fq_I : Cond.fieldLink RX12 183 "StatementRules2Model" "fq" "[I" ∈ wzX12_repeats := List.mem_cons_of_mem _ (List.mem_append_left _ (List.mem_of_getElem? (i := 5) rfl))
theorem k_X12_repeats_fieldLink_RX12_396_SRModel_res_Z : Cond.fieldLink RX12 396 "StatementRules2Model" "res" "Z" ∈ wzX12_repeats := List.mem_cons_of_mem _ (List.mem_append_left _ (List.mem_of_getElem? (i := 6) rfl))
theorem k_X12_repeats_fieldLink_RX12_198_SRModel_fy_I : Cond.fieldLink RX12 198 "StatementRules2Model" "fy" "[I" ∈ wzX12_repeats := List.mem_cons_of_mem _ (List.mem_append_left _ (List.mem_of_getElem? (i := 7) rfl))
theorem k_X12_repeats_fieldLink_RX12_153_SRModel_broken_Z : Cond.fieldLink RX12 153 "StatementRules2Model" "broken" "[Z" ∈ wzX12_repeats := List.mem_cons_of_mem _ (List.mem_append_left _ (List.mem_of_getElem? (i := 8) rfl))
theorem k_X12_repeats_fieldLink_RX12_192_SRModel_fw_I : Cond.fieldLink RX12 192 "StatementRules2Model" "fw" "[I" ∈ wzX12_repeats := List.mem_cons_of_mem _ (List.mem_append_left _ (List.mem_of_getElem? (i := 9) rfl))
theorem k_X12_repeats_fieldLink_RX12_147_SRModel_breaks_I : Cond.fieldLink RX12 147 "StatementRules2Model" "breaks" "[I" ∈ wzX12_repeats := List.mem_cons_of_mem _ (List.mem_append_left _ (List.mem_of_getElem? (i := 10) rfl))
theorem k_X12_repeats_fieldLink_RX12_367_SRModel_goals_I : Cond.fieldLink RX12 367 "StatementRules2Model" "goals" "I" ∈ wzX12_repeats := List.mem_cons_of_mem _ (List.mem_append_left _ (List.mem_of_getElem? (i := 11) rfl))
theorem k_X12_repeats_fieldLink_RX12_189_SRModel_fv_I : Cond.fieldLink RX12 189 "StatementRules2Model" "fv" "[I" ∈ wzX12_repeats := List.mem_cons_of_mem _ (List.mem_append_left _ (List.mem_of_getElem? (i := 12) rfl))
theorem k_X12_repeats_fieldLink_RX12_307_SRModel_tok_I : Cond.fieldLink RX12 307 "StatementRules2Model" "tok" "I" ∈ wzX12_repeats := List.mem_cons_of_mem _ (List.mem_append_left _ (List.mem_of_getElem? (i := 13) rfl))
theorem k_X12_repeats_fieldLink_RX12_294_SRModel_tokens_I : Cond.fieldLink RX12 294 "StatementRules2Model" "tokens" "I" ∈ wzX12_repeats := List.mem_cons_of_mem _ (List.mem_append_left _ (List.mem_of_getElem? (i := 14) rfl))
theorem k_X12_repeats_fieldLink_RX12_156_SRModel_continued_Z : Cond.fieldLink RX12 156 "StatementRules2Model" "continued" "[Z" ∈ wzX12_repeats := List.mem_cons_of_mem _ (List.mem_append_left _ (List.mem_of_getElem? (i := 15) rfl))
set_option maxHeartbeats 4000000 in
set_option maxRecDepth 100000 in
theorem j_X12_repeats_195 {p : Program} {e : Env} {s : State} {m : MethodId} {args : Array Value} {below : List Frame} {meth : Method} {c : Code} {A : Nat → Prop} (l : Launch) (dC : Nat → ClassId) (dI : Nat → Nat → Nat) (Q : RQ) (N : Nat) (R : RS) (hx : p.tables.exec = Jvm.exec) (hb : c.code = cX12_repeats) (hr : meth.sig.returnType = none) (hml : c.maxLocals = 4) (hown : s.vm.findClass RX12 = some m.cls) (hts : ∀ w ∈ wzX12_repeats, w.before args s = true) (hlocks : meth.locks = false) (hZ : zAMB s) (hA : ∀ q : Nat, s.heap.size ≤ q → A q) (hK : va_K (dC, dI) vwCl (rT Q) s) : ∀ (σ : RS) (H : Heap) (locs : List Loc) (ls : Array Slot), f_X12_repeats_195 N σ = some R → va_P (dC, dI) vwCl (rW Q σ) H → va_D A (rW Q σ) → va_S A s.heap H locs → lv_has ls 4 [(0, .ref Q.h0)] → W p l e ({ frames := 6, cells := 0, slots := 0, locals := 360 }) s m args below meth c H locs 0 0 (MQ below (va_Qv (fun (_ : Unit) => True) (fun (_ : Unit) (t : State) => zPost dC dI A (rW Q R) (rT Q) t) A) args s 0 0 A) (F0 m 195 ls []) := by
  intro σ  H locs ls hf hP hD hS hl
  unfold f_X12_repeats_195 at hf
  refine lv_aload_n hx hb dX12_repeats_195 rfl (lv_at hl 0 rfl) ?_
  refine lv_iconst (v := 2) hx hb dX12_repeats_196 (by decide) ?_
  refine lv_bipush (v := 20) hx hb dX12_repeats_197 (by decide) ?_
  obtain ⟨p26, hcp26, hf⟩ := hf_bind hf
  have hFc := r_free hD hS hA
  refine va_callv (va_runV (As := [.int 2, .int 20]) (rest := []) ⟨hx, hb, hml, hown, hts⟩ (c_X12_then l dC dI _ Q N σ 2 20 p26 hcp26) (cwV 2 hts hX12_repeats_X12_then_v393 rfl rfl rfl (by decide +kernel) ⟨Nat.le_of_ble_eq_true rfl, Nat.le_of_ble_eq_true rfl⟩) ⟨zPre.blind, va_recv hK hP (ci := 11) (q0 := 0) rfl rfl, zPre.go hZ hP hK hD⟩ rfl rfl hl.1 rfl (lv_room (Nat.le_of_ble_eq_true rfl)) dX12_repeats_199 ⟨Nat.le_of_ble_eq_true rfl, Nat.le_of_ble_eq_true rfl⟩) hS (fun q _ h => hFc q h) hFc (fun u9 t9 H1 locs ht hvm hw hB hz1 hk1 hS => ?_)
  obtain ⟨hP, hK1, hD1⟩ := hB
  rw [ht] at hP
  have hD := hD1.weaken (fun _ _ _ h => hFc _ h)
  generalize H1 = H at hP hS ⊢
  refine lv_goto (tgt := 290) hx hb dX12_repeats_202 (by decide) ?_
  obtain rfl := Option.some.inj hf
  exact W.vret hx hb hr (fun t ht hW => ⟨⟨(), rfl, trivial, by rw [ht]; exact hP, va_K.moved hW.alike hK, hD⟩, hS.F ht⟩) hS.2.2 dX12_repeats_290
set_option maxHeartbeats 4000000 in
set_option maxRecDepth 100000 in
theorem j_X12_repeats_134 {p : Program} {e : Env} {s : State} {m : MethodId} {args : Array Value} {below : List Frame} {meth : Method} {c : Code} {A : Nat → Prop} (l : Launch) (dC : Nat → ClassId) (dI : Nat → Nat → Nat) (Q : RQ) (N : Nat) (R : RS) (hx : p.tables.exec = Jvm.exec) (hb : c.code = cX12_repeats) (hr : meth.sig.returnType = none) (hml : c.maxLocals = 4) (hown : s.vm.findClass RX12 = some m.cls) (hts : ∀ w ∈ wzX12_repeats, w.before args s = true) (hlocks : meth.locks = false) (hZ : zAMB s) (hA : ∀ q : Nat, s.heap.size ≤ q → A q) (hK : va_K (dC, dI) vwCl (rT Q) s) : ∀ (σ : RS) (x1 : Int32) (x2 : Int32) (H : Heap) (locs : List Loc) (ls : Array Slot), f_X12_repeats_134 N σ x1 x2 = some R → va_P (dC, dI) vwCl (rW Q σ) H → va_D A (rW Q σ) → va_S A s.heap H locs → lv_has ls 4 [(0, .ref Q.h0), (1, .int x1), (2, .int x2)] → W p l e ({ frames := 6, cells := 0, slots := 0, locals := 360 }) s m args below meth c H locs 0 0 (MQ below (va_Qv (fun (_ : Unit) => True) (fun (_ : Unit) (t : State) => zPost dC dI A (rW Q R) (rT Q) t) A) args s 0 0 A) (F0 m 134 ls []) := by
  intro σ x1 x2 H locs ls hf hP hD hS hl
  unfold f_X12_repeats_134 at hf
  refine lv_aload_n hx hb dX12_repeats_134 rfl (lv_at hl 0 rfl) ?_
  refine rG_70 hx hb hts i_X12_repeats_X12 hown hK hP (hts (.fieldLink RX12 192 "StatementRules2Model" "fw" "[I") k_X12_repeats_fieldLink_RX12_192_SRModel_fw_I) dX12_repeats_135 ?_
  refine lv_iload_n hx hb dX12_repeats_138 rfl (lv_at hl 1 rfl) ?_
  refine lv_aload_n hx hb dX12_repeats_139 rfl (lv_at hl 0 rfl) ?_
  refine rG_48 hx hb hts i_X12_repeats_X12 hown hK hP (hts (.fieldLink RX12 147 "StatementRules2Model" "breaks" "[I") k_X12_repeats_fieldLink_RX12_147_SRModel_breaks_I) dX12_repeats_140 ?_
  refine lv_iload_n hx hb dX12_repeats_143 rfl (lv_at hl 2 rfl) ?_
  obtain ⟨b19, hf⟩ := hf_ite hf
  refine rL_48 (v := (σ.a 48 ((x2 : Int32).toNatClampNeg))) hx hb hK hP b19 dX12_repeats_144 rfl ?_
  obtain ⟨b20, hf⟩ := hf_ite hf
  refine rS_70 hx hb hK hP hD hS b20 dX12_repeats_145 (fun H locs hP hD hS => ?_)
  refine lv_aload_n hx hb dX12_repeats_146 rfl (lv_at hl 0 rfl) ?_
  refine lv_dup hx hb dX12_repeats_147 rfl ?_
  refine rG_43 (v := (σ.i 43)) hx hb hts i_X12_repeats_X12 hown hK hP (hts (.fieldLink RX12 367 "StatementRules2Model" "goals" "I") k_X12_repeats_fieldLink_RX12_367_SRModel_goals_I) dX12_repeats_148 rfl ?_
  refine lv_iconst (v := 1) hx hb dX12_repeats_151 (by decide) ?_
  refine lv_isub hx hb dX12_repeats_152 ?_
  refine rP_43 hx hb hts i_X12_repeats_X12 hown hK hP hD hS (hts (.fieldLink RX12 367 "StatementRules2Model" "goals" "I") k_X12_repeats_fieldLink_RX12_367_SRModel_goals_I) dX12_repeats_153 (fun H locs hP hD hS => ?_)
  refine lv_aload_n hx hb dX12_repeats_156 rfl (lv_at hl 0 rfl) ?_
  refine lv_sipush (v := 415) hx hb dX12_repeats_157 (by decide) ?_
  obtain ⟨p21, hcp21, hf⟩ := hf_bind hf
  have hFc := r_free hD hS hA
  refine va_calli (va_runV (As := [.int 415]) (rest := []) ⟨hx, hb, hml, hown, hts⟩ (c_X12_need l dC dI _ Q N (RS.setI (RS.setA σ 70 ((x1 : Int32).toNatClampNeg) (σ.a 48 ((x2 : Int32).toNatClampNeg))) 43 ((σ.i 43) - 1)) 415 p21 hcp21) (cwV 1 hts hX12_repeats_X12_need_v355 rfl rfl rfl (by decide +kernel) ⟨Nat.le_of_ble_eq_true rfl, Nat.le_of_ble_eq_true rfl⟩) ⟨zPre.blind, va_recv hK hP (ci := 11) (q0 := 0) rfl rfl, zPre.go hZ hP hK hD⟩ rfl rfl hl.1 rfl (lv_room (Nat.le_of_ble_eq_true rfl)) dX12_repeats_160 ⟨Nat.le_of_ble_eq_true rfl, Nat.le_of_ble_eq_true rfl⟩) hS (fun q _ h => hFc q h) hFc (fun r22 u9 t9 H1 locs ht hvm hw hB hz1 hk1 hS => ?_)
  obtain ⟨hP, hK1, hD1⟩ := hB
  rw [ht] at hP
  have hD := hD1.weaken (fun _ _ _ h => hFc _ h)
  generalize H1 = H at hP hS ⊢
  obtain rfl : r22 = p21.1 := hw
  refine lv_pop hx hb dX12_repeats_163 rfl ?_
  refine lv_aload_n hx hb dX12_repeats_164 rfl (lv_at hl 0 rfl) ?_
  refine lv_bipush (v := 40) hx hb dX12_repeats_165 (by decide) ?_
  obtain ⟨p23, hcp23, hf⟩ := hf_bind hf
  have hFc := r_free hD hS hA
  refine va_calli (va_runV (As := [.int 40]) (rest := []) ⟨hx, hb, hml, hown, hts⟩ (c_X12_open l dC dI _ Q N p21.2 40 p23 hcp23) (cwV 1 hts hX12_repeats_X12_open_v475 rfl rfl rfl (by decide +kernel) ⟨Nat.le_of_ble_eq_true rfl, Nat.le_of_ble_eq_true rfl⟩) ⟨zPre.blind, va_recv hK hP (ci := 11) (q0 := 0) rfl rfl, zPre.go hZ hP hK hD⟩ rfl rfl hl.1 rfl (lv_room (Nat.le_of_ble_eq_true rfl)) dX12_repeats_167 ⟨Nat.le_of_ble_eq_true rfl, Nat.le_of_ble_eq_true rfl⟩) hS (fun q _ h => hFc q h) hFc (fun r24 u9 t9 H1 locs ht hvm hw hB hz1 hk1 hS => ?_)
  obtain ⟨hP, hK1, hD1⟩ := hB
  rw [ht] at hP
  have hD := hD1.weaken (fun _ _ _ h => hFc _ h)
  generalize H1 = H at hP hS ⊢
  obtain rfl : r24 = p23.1 := hw
  refine lv_pop hx hb dX12_repeats_170 rfl ?_
  refine lv_aload_n hx hb dX12_repeats_171 rfl (lv_at hl 0 rfl) ?_
  refine rG_69 hx hb hts i_X12_repeats_X12 hown hK hP (hts (.fieldLink RX12 189 "StatementRules2Model" "fv" "[I") k_X12_repeats_fieldLink_RX12_189_SRModel_fv_I) dX12_repeats_172 ?_
  refine lv_iload_n hx hb dX12_repeats_175 rfl (lv_at hl 1 rfl) ?_
  refine lv_aload_n hx hb dX12_repeats_176 rfl (lv_at hl 0 rfl) ?_
  refine rG_10 (v := (p23.2.i 10)) hx hb hts i_X12_repeats_X12 hown hK hP (hts (.fieldLink RX12 307 "StatementRules2Model" "tok" "I") k_X12_repeats_fieldLink_RX12_307_SRModel_tok_I) dX12_repeats_177 rfl ?_
  refine lv_sipush (v := 432) hx hb dX12_repeats_180 (by decide) ?_
  refine lv_icmp_ne (tgt := 193) hx hb dX12_repeats_183 (by decide) (fun c25 => ?_) (fun c25 => ?_)
  ·
    replace hf := (if_neg c25).symm.trans hf
    refine lv_iconst (v := 0) hx hb dX12_repeats_193 (by decide) ?_
    refine rS_69 hx hb hK hP hD hS b20 dX12_repeats_194 (fun H locs hP hD hS => ?_)
    exact j_X12_repeats_195 l dC dI Q N R hx hb hr hml hown hts hlocks hZ hA hK (RS.setA p23.2 69 ((x1 : Int32).toNatClampNeg) 0) _ _ _ hf hP hD hS (lv_sub hl [0] rfl)
  ·
    replace hf := (if_pos c25).symm.trans hf
    refine lv_aload_n hx hb dX12_repeats_186 rfl (lv_at hl 0 rfl) ?_
    refine rG_17 (v := (p23.2.i 17)) hx hb hts i_X12_repeats_X12 hown hK hP (hts (.fieldLink RX12 294 "StatementRules2Model" "tokens" "I") k_X12_repeats_fieldLink_RX12_294_SRModel_tokens_I) dX12_repeats_187 rfl ?_
    refine lv_goto (tgt := 194) hx hb dX12_repeats_190 (by decide) ?_
    refine rS_69 hx hb hK hP hD hS b20 dX12_repeats_194 (fun H locs hP hD hS => ?_)
    exact j_X12_repeats_195 l dC dI Q N R hx hb hr hml hown hts hlocks hZ hA hK (RS.setA p23.2 69 ((x1 : Int32).toNatClampNeg) (p23.2.i 17)) _ _ _ hf hP hD hS (lv_sub hl [0] rfl)
set_option maxHeartbeats 4000000 in
set_option maxRecDepth 100000 in
theorem j_X12_repeats_114 {p : Program} {e : Env} {s : State} {m : MethodId} {args : Array Value} {below : List Frame} {meth : Method} {c : Code} {A : Nat → Prop} (l : Launch) (dC : Nat → ClassId) (dI : Nat → Nat → Nat) (Q : RQ) (N : Nat) (R : RS) (hx : p.tables.exec = Jvm.exec) (hb : c.code = cX12_repeats) (hr : meth.sig.returnType = none) (hml : c.maxLocals = 4) (hown : s.vm.findClass RX12 = some m.cls) (hts : ∀ w ∈ wzX12_repeats, w.before args s = true) (hlocks : meth.locks = false) (hZ : zAMB s) (hA : ∀ q : Nat, s.heap.size ≤ q → A q) (hK : va_K (dC, dI) vwCl (rT Q) s) : ∀ (σ : RS) (x1 : Int32) (x2 : Int32) (H : Heap) (locs : List Loc) (ls : Array Slot), f_X12_repeats_114 N σ x1 x2 = some R → va_P (dC, dI) vwCl (rW Q σ) H → va_D A (rW Q σ) → va_S A s.heap H locs → lv_has ls 4 [(0, .ref Q.h0), (1, .int x1), (2, .int x2)] → W p l e ({ frames := 6, cells := 0, slots := 0, locals := 360 }) s m args below meth c H locs 0 0 (MQ below (va_Qv (fun (_ : Unit) => True) (fun (_ : Unit) (t : State) => zPost dC dI A (rW Q R) (rT Q) t) A) args s 0 0 A) (F0 m 114 ls []) := by
  intro σ x1 x2 H locs ls hf hP hD hS hl
  unfold f_X12_repeats_114 at hf
  refine lv_aload_n hx hb dX12_repeats_114 rfl (lv_at hl 0 rfl) ?_
  refine rG_72 hx hb hts i_X12_repeats_X12 hown hK hP (hts (.fieldLink RX12 198 "StatementRules2Model" "fy" "[I") k_X12_repeats_fieldLink_RX12_198_SRModel_fy_I) dX12_repeats_115 ?_
  refine lv_iload_n hx hb dX12_repeats_118 rfl (lv_at hl 1 rfl) ?_
  refine lv_aload_n hx hb dX12_repeats_119 rfl (lv_at hl 0 rfl) ?_
  refine rG_50 hx hb hts i_X12_repeats_X12 hown hK hP (hts (.fieldLink RX12 153 "StatementRules2Model" "broken" "[Z") k_X12_repeats_fieldLink_RX12_153_SRModel_broken_Z) dX12_repeats_120 ?_
  refine lv_iload_n hx hb dX12_repeats_123 rfl (lv_at hl 2 rfl) ?_
  obtain ⟨b16, hf⟩ := hf_ite hf
  refine rL_50 (v := (σ.a 50 ((x2 : Int32).toNatClampNeg))) hx hb hK hP b16 dX12_repeats_124 rfl ?_
  refine lv_if_eq (tgt := 132) hx hb dX12_repeats_125 (by decide) (fun c17 => ?_) (fun c17 => ?_)
  ·
    replace hf := (if_pos c17).symm.trans hf
    refine lv_iconst (v := 0) hx hb dX12_repeats_132 (by decide) ?_
    obtain ⟨b18, hf⟩ := hf_ite hf
    refine rS_72 hx hb hK hP hD hS b18 dX12_repeats_133 (fun H locs hP hD hS => ?_)
    exact j_X12_repeats_134 l dC dI Q N R hx hb hr hml hown hts hlocks hZ hA hK (RS.setA σ 72 ((x1 : Int32).toNatClampNeg) 0) x1 x2 _ _ _ hf hP hD hS (lv_sub hl [0, 1, 2] rfl)
  ·
    replace hf := (if_neg c17).symm.trans hf
    refine lv_iconst (v := 1) hx hb dX12_repeats_128 (by decide) ?_
    refine lv_goto (tgt := 133) hx hb dX12_repeats_129 (by decide) ?_
    obtain ⟨b28, hf⟩ := hf_ite hf
    refine rS_72 hx hb hK hP hD hS b28 dX12_repeats_133 (fun H locs hP hD hS => ?_)
    exact j_X12_repeats_134 l dC dI Q N R hx hb hr hml hown hts hlocks hZ hA hK (RS.setA σ 72 ((x1 : Int32).toNatClampNeg) 1) x1 x2 _ _ _ hf hP hD hS (lv_sub hl [0, 1, 2] rfl)
set_option maxHeartbeats 4000000 in
set_option maxRecDepth 100000 in
theorem c_X12_repeats (l : Launch) (dC : Nat → ClassId) (dI : Nat → Nat → Nat) (sz : Nat) (Q : RQ) (N : Nat) (σ : RS) (x1 : Int32) (R : RS) (hf : f_X12_repeats N σ x1 = some R) : Met l yX12_repeats wzX12_repeats ({ frames := 6, cells := 0, slots := 0, locals := 360 }) (va_Pc [.ref Q.h0, .int x1] (zPre dC dI sz (rW Q σ) (rT Q))) (va_Qv (fun (_ : Unit) => True) (fun (_ : Unit) (t : State) => zPost dC dI (va_A (rW Q σ) sz) (rW Q R) (rT Q) t) (va_A (rW Q σ) sz)) 0 0 (va_A (rW Q σ) sz) := by
  refine Met.ofW (cc := cX12_repeats) (maxL := 4) (ret := none) (by decide) rfl ?_
  intro p e s m args below meth c s₁ B hml hv
  obtain ⟨rfl, hsz, hZ, hP, hK, hD0⟩ := hv
  have hx := B.exec
  have hb := B.bytes
  have hr := B.returns
  have hts := atoms_spec (ws := wzX12_repeats) B.pre
  have hown : s.vm.findClass RX12 = some m.cls := findClass_of_methodNamed B.named
  have hlocks := B.notSynchronized
  subst hsz
  have hD := hD0.self (sz := s.heap.size)
  generalize hAe : va_A (rW Q σ) s.heap.size = A at hD ⊢
  have hA : ∀ q : Nat, s.heap.size ≤ q → A q := fun q h => by rw [← hAe]; exact Or.inr h
  have hS : va_S A s.heap s.heap [] := va_S.rf
  have hl := lv_entry ([.ref Q.h0, .int x1]) (n := 4) (Nat.le_of_ble_eq_true rfl)
  rw [lg_entry_eq]
  generalize (lg_sl ([.ref Q.h0, .int x1]) ++ List.replicate (4 - (lg_sl ([.ref Q.h0, .int x1])).length) Slot.unset).toArray = ls at hl ⊢
  have hl : lv_has ls 4 [(0, .ref Q.h0), (1, .int x1)] := hl
  unfold f_X12_repeats at hf
  refine lv_aload_n hx hb dX12_repeats_0 rfl (lv_at hl 0 rfl) ?_
  refine rG_65 hx hb hts i_X12_repeats_X12 hown hK hP (hts (.fieldLink RX12 177 "StatementRules2Model" "fs" "[I") k_X12_repeats_fieldLink_RX12_177_SRModel_fs_I) dX12_repeats_1 ?_
  refine lv_iload_n hx hb dX12_repeats_4 rfl (lv_at hl 1 rfl) ?_
  obtain ⟨b1, hf⟩ := hf_ite hf
  refine rL_65 (v := (σ.a 65 ((x1 : Int32).toNatClampNeg))) hx hb hK hP b1 dX12_repeats_5 rfl ?_
  by_cases c2 : (σ.a 65 ((x1 : Int32).toNatClampNeg)) = 0
  ·
    replace hf := (if_pos c2).symm.trans hf
    refine lv_lookup (off := 26) (tgt := 32) hx hb dX12_repeats_6 (by decide) (by rw [c2]; decide) (by decide) ?_
    refine lv_aload_n hx hb dX12_repeats_32 rfl (lv_at hl 0 rfl) ?_
    obtain ⟨p3, hcp3, hf⟩ := hf_bind hf
    have hFc := r_free hD hS hA
    refine va_callv (va_runV (As := []) (rest := []) ⟨hx, hb, hml, hown, hts⟩ (c_X12_next l dC dI _ Q N σ p3 hcp3) (cwV 0 hts hX12_repeats_X12_next_v345 rfl rfl rfl (by decide +kernel) ⟨Nat.le_of_ble_eq_true rfl, Nat.le_of_ble_eq_true rfl⟩) ⟨zPre.blind, va_recv hK hP (ci := 11) (q0 := 0) rfl rfl, zPre.go hZ hP hK hD⟩ rfl rfl hl.1 rfl (lv_room (Nat.le_of_ble_eq_true rfl)) dX12_repeats_33 ⟨Nat.le_of_ble_eq_true rfl, Nat.le_of_ble_eq_true rfl⟩) hS (fun q _ h => hFc q h) hFc (fun u9 t9 H1 locs ht hvm hw hB hz1 hk1 hS => ?_)
    obtain ⟨hP, hK1, hD1⟩ := hB
    rw [ht] at hP
    have hD := hD1.weaken (fun _ _ _ h => hFc _ h)
    generalize H1 = H at hP hS ⊢
    refine lv_aload_n hx hb dX12_repeats_36 rfl (lv_at hl 0 rfl) ?_
    refine rG_66 hx hb hts i_X12_repeats_X12 hown hK hP (hts (.fieldLink RX12 180 "StatementRules2Model" "fp" "[I") k_X12_repeats_fieldLink_RX12_180_SRModel_fp_I) dX12_repeats_37 ?_
    refine lv_iload_n hx hb dX12_repeats_40 rfl (lv_at hl 1 rfl) ?_
    refine lv_aload_n hx hb dX12_repeats_41 rfl (lv_at hl 0 rfl) ?_
    refine lv_iconst (v := 1) hx hb dX12_repeats_42 (by decide) ?_
    refine lv_iconst (v := 0) hx hb dX12_repeats_43 (by decide) ?_
    obtain ⟨p5, hcp5, hf⟩ := hf_bind hf
    have hFc := r_free hD hS hA
    refine va_calli (va_runV (As := [.int 1, .int 0]) (rest := [.int x1, .ref (Q.q 66)]) ⟨hx, hb, hml, hown, hts⟩ (c_X12_emit l dC dI _ Q N p3 1 0 p5 hcp5) (cwV 2 hts hX12_repeats_X12_emit_v464 rfl rfl rfl (by decide +kernel) ⟨Nat.le_of_ble_eq_true rfl, Nat.le_of_ble_eq_true rfl⟩) ⟨zPre.blind, va_recv hK hP (ci := 11) (q0 := 0) rfl rfl, zPre.go hZ hP hK hD⟩ rfl rfl hl.1 rfl (lv_room (Nat.le_of_ble_eq_true rfl)) dX12_repeats_44 ⟨Nat.le_of_ble_eq_true rfl, Nat.le_of_ble_eq_true rfl⟩) hS (fun q _ h => hFc q h) hFc (fun r6 u9 t9 H1 locs ht hvm hw hB hz1 hk1 hS => ?_)
    obtain ⟨hP, hK1, hD1⟩ := hB
    rw [ht] at hP
    have hD := hD1.weaken (fun _ _ _ h => hFc _ h)
    generalize H1 = H at hP hS ⊢
    obtain rfl : r6 = p5.1 := hw
    refine rS_66 hx hb hK hP hD hS b1 dX12_repeats_47 (fun H locs hP hD hS => ?_)
    refine lv_aload_n hx hb dX12_repeats_48 rfl (lv_at hl 0 rfl) ?_
    refine rG_68 hx hb hts i_X12_repeats_X12 hown hK hP (hts (.fieldLink RX12 186 "StatementRules2Model" "fr" "[I") k_X12_repeats_fieldLink_RX12_186_SRModel_fr_I) dX12_repeats_49 ?_
    refine lv_iload_n hx hb dX12_repeats_52 rfl (lv_at hl 1 rfl) ?_
    refine lv_aload_n hx hb dX12_repeats_53 rfl (lv_at hl 0 rfl) ?_
    obtain ⟨p7, hcp7, hf⟩ := hf_bind hf
    have hFc := r_free hD hS hA
    refine va_calli (va_runV (As := []) (rest := [.int x1, .ref (Q.q 68)]) ⟨hx, hb, hml, hown, hts⟩ (c_X12_loopGoal l dC dI _ Q N (RS.setA p5.2 66 ((x1 : Int32).toNatClampNeg) p5.1) p7 hcp7) (cwV 0 hts hX12_repeats_X12_loopGoal_v536 rfl rfl rfl (by decide +kernel) ⟨Nat.le_of_ble_eq_true rfl, Nat.le_of_ble_eq_true rfl⟩) ⟨zPre.blind, va_recv hK hP (ci := 11) (q0 := 0) rfl rfl, zPre.go hZ hP hK hD⟩ rfl rfl hl.1 rfl (lv_room (Nat.le_of_ble_eq_true rfl)) dX12_repeats_54 ⟨Nat.le_of_ble_eq_true rfl, Nat.le_of_ble_eq_true rfl⟩) hS (fun q _ h => hFc q h) hFc (fun r8 u9 t9 H1 locs ht hvm hw hB hz1 hk1 hS => ?_)
    obtain ⟨hP, hK1, hD1⟩ := hB
    rw [ht] at hP
    have hD := hD1.weaken (fun _ _ _ h => hFc _ h)
    generalize H1 = H at hP hS ⊢
    obtain rfl : r8 = p7.1 := hw
    refine rS_68 hx hb hK hP hD hS b1 dX12_repeats_57 (fun H locs hP hD hS => ?_)
    refine lv_aload_n hx hb dX12_repeats_58 rfl (lv_at hl 0 rfl) ?_
    refine lv_iconst (v := 1) hx hb dX12_repeats_59 (by decide) ?_
    obtain ⟨p9, hcp9, hf⟩ := hf_bind hf
    have hFc := r_free hD hS hA
    refine va_callv (va_runV (As := [.int 1]) (rest := []) ⟨hx, hb, hml, hown, hts⟩ (c_X12_body l dC dI _ Q N (RS.setA p7.2 68 ((x1 : Int32).toNatClampNeg) p7.1) 1 p9 hcp9) (cwV 1 hts hX12_repeats_X12_body_v521 rfl rfl rfl (by decide +kernel) ⟨Nat.le_of_ble_eq_true rfl, Nat.le_of_ble_eq_true rfl⟩) ⟨zPre.blind, va_recv hK hP (ci := 11) (q0 := 0) rfl rfl, zPre.go hZ hP hK hD⟩ rfl rfl hl.1 rfl (lv_room (Nat.le_of_ble_eq_true rfl)) dX12_repeats_60 ⟨Nat.le_of_ble_eq_true rfl, Nat.le_of_ble_eq_true rfl⟩) hS (fun q _ h => hFc q h) hFc (fun u9 t9 H1 locs ht hvm hw hB hz1 hk1 hS => ?_)
    obtain ⟨hP, hK1, hD1⟩ := hB
    rw [ht] at hP
    have hD := hD1.weaken (fun _ _ _ h => hFc _ h)
    generalize H1 = H at hP hS ⊢
    refine lv_goto (tgt := 290) hx hb dX12_repeats_63 (by decide) ?_
    obtain rfl := Option.some.inj hf
    exact W.vret hx hb hr (fun t ht hW => ⟨⟨(), rfl, trivial, by rw [ht]; exact hP, va_K.moved hW.alike hK, hD⟩, hS.F ht⟩) hS.2.2 dX12_repeats_290
  replace hf := (if_neg c2).symm.trans hf
  by_cases c11 : (σ.a 65 ((x1 : Int32).toNatClampNeg)) = 1
  ·
    replace hf := (if_pos c11).symm.trans hf
    refine lv_lookup (off := 60) (tgt := 66) hx hb dX12_repeats_6 (by decide) (by rw [c11]; decide) (by decide) ?_
    refine lv_aload_n hx hb dX12_repeats_66 rfl (lv_at hl 0 rfl) ?_
    refine rG_68 hx hb hts i_X12_repeats_X12 hown hK hP (hts (.fieldLink RX12 186 "StatementRules2Model" "fr" "[I") k_X12_repeats_fieldLink_RX12_186_SRModel_fr_I) dX12_repeats_67 ?_
    refine lv_iload_n hx hb dX12_repeats_70 rfl (lv_at hl 1 rfl) ?_
    refine rL_68 (v := (σ.a 68 ((x1 : Int32).toNatClampNeg))) hx hb hK hP b1 dX12_repeats_71 rfl ?_
    refine lv_istore_n (lv' := [(2, .int (σ.a 68 ((x1 : Int32).toNatClampNeg))), (0, .ref Q.h0), (1, .int x1)]) hx hb dX12_repeats_72 rfl hl (by decide) rfl (fun ls hl => ?_)
    refine lv_aload_n hx hb dX12_repeats_73 rfl (lv_at hl 1 rfl) ?_
    refine lv_aload_n hx hb dX12_repeats_74 rfl (lv_at hl 1 rfl) ?_
    refine rG_49 hx hb hts i_X12_repeats_X12 hown hK hP (hts (.fieldLink RX12 150 "StatementRules2Model" "continues" "[I") k_X12_repeats_fieldLink_RX12_150_SRModel_continues_I) dX12_repeats_75 ?_
    refine lv_iload_n hx hb dX12_repeats_78 rfl (lv_at hl 0 rfl) ?_
    obtain ⟨b12, hf⟩ := hf_ite hf
    refine rL_49 (v := (σ.a 49 (((σ.a 68 ((x1 : Int32).toNatClampNeg)) : Int32).toNatClampNeg))) hx hb hK hP b12 dX12_repeats_79 rfl ?_
    refine lv_aload_n hx hb dX12_repeats_80 rfl (lv_at hl 1 rfl) ?_
    refine rG_20 (v := (σ.i 20)) hx hb hts i_X12_repeats_X12 hown hK hP (hts (.fieldLink RX12 358 "StatementRules2Model" "codes" "I") k_X12_repeats_fieldLink_RX12_358_SRModel_codes_I) dX12_repeats_81 rfl ?_
    obtain ⟨p13, hcp13, hf⟩ := hf_bind hf
    have hFc := r_free hD hS hA
    refine va_callv (va_runV (As := [.int (σ.a 49 (((σ.a 68 ((x1 : Int32).toNatClampNeg)) : Int32).toNatClampNeg)), .int (σ.i 20)]) (rest := []) ⟨hx, hb, hml, hown, hts⟩ (c_X12_patch l dC dI _ Q N σ (σ.a 49 (((σ.a 68 ((x1 : Int32).toNatClampNeg)) : Int32).toNatClampNeg)) (σ.i 20) p13 hcp13) (cwV 2 hts hX12_repeats_X12_patch_v510 rfl rfl rfl (by decide +kernel) ⟨Nat.le_of_ble_eq_true rfl, Nat.le_of_ble_eq_true rfl⟩) ⟨zPre.blind, va_recv hK hP (ci := 11) (q0 := 0) rfl rfl, zPre.go hZ hP hK hD⟩ rfl rfl hl.1 rfl (lv_room (Nat.le_of_ble_eq_true rfl)) dX12_repeats_84 ⟨Nat.le_of_ble_eq_true rfl, Nat.le_of_ble_eq_true rfl⟩) hS (fun q _ h => hFc q h) hFc (fun u9 t9 H1 locs ht hvm hw hB hz1 hk1 hS => ?_)
    obtain ⟨hP, hK1, hD1⟩ := hB
    rw [ht] at hP
    have hD := hD1.weaken (fun _ _ _ h => hFc _ h)
    generalize H1 = H at hP hS ⊢
    refine lv_aload_n hx hb dX12_repeats_87 rfl (lv_at hl 1 rfl) ?_
    refine rG_67 hx hb hts i_X12_repeats_X12 hown hK hP (hts (.fieldLink RX12 183 "StatementRules2Model" "fq" "[I") k_X12_repeats_fieldLink_RX12_183_SRModel_fq_I) dX12_repeats_88 ?_
    refine lv_iload_n hx hb dX12_repeats_91 rfl (lv_at hl 2 rfl) ?_
    refine lv_aload_n hx hb dX12_repeats_92 rfl (lv_at hl 1 rfl) ?_
    refine rG_75 (v := (p13.i 75)) hx hb hts i_X12_repeats_X12 hown hK hP (hts (.fieldLink RX12 396 "StatementRules2Model" "res" "Z") k_X12_repeats_fieldLink_RX12_396_SRModel_res_Z) dX12_repeats_93 rfl ?_
    refine lv_if_ne (tgt := 108) hx hb dX12_repeats_96 (by decide) (fun c15 => ?_) (fun c15 => ?_)
    ·
      replace hf := (if_neg c15).symm.trans hf
      refine lv_iconst (v := 1) hx hb dX12_repeats_108 (by decide) ?_
      refine lv_goto (tgt := 113) hx hb dX12_repeats_109 (by decide) ?_
      refine rS_67 hx hb hK hP hD hS b1 dX12_repeats_113 (fun H locs hP hD hS => ?_)
      exact j_X12_repeats_114 l dC dI Q N R hx hb hr hml hown hts hlocks hZ hA hK (RS.setA p13 67 ((x1 : Int32).toNatClampNeg) 1) x1 (σ.a 68 ((x1 : Int32).toNatClampNeg)) _ _ _ hf hP hD hS (lv_sub hl [1, 2, 0] rfl)
    ·
      replace hf := (if_pos c15).symm.trans hf
      refine lv_aload_n hx hb dX12_repeats_99 rfl (lv_at hl 1 rfl) ?_
      refine rG_51 hx hb hts i_X12_repeats_X12 hown hK hP (hts (.fieldLink RX12 156 "StatementRules2Model" "continued" "[Z") k_X12_repeats_fieldLink_RX12_156_SRModel_continued_Z) dX12_repeats_100 ?_
      refine lv_iload_n hx hb dX12_repeats_103 rfl (lv_at hl 0 rfl) ?_
      refine rL_51 (v := (p13.a 51 (((σ.a 68 ((x1 : Int32).toNatClampNeg)) : Int32).toNatClampNeg))) hx hb hK hP b12 dX12_repeats_104 rfl ?_
      refine lv_if_eq (tgt := 112) hx hb dX12_repeats_105 (by decide) (fun c29 => ?_) (fun c29 => ?_)
      ·
        replace hf := (if_pos c29).symm.trans hf
        refine lv_iconst (v := 0) hx hb dX12_repeats_112 (by decide) ?_
        refine rS_67 hx hb hK hP hD hS b1 dX12_repeats_113 (fun H locs hP hD hS => ?_)
        exact j_X12_repeats_114 l dC dI Q N R hx hb hr hml hown hts hlocks hZ hA hK (RS.setA p13 67 ((x1 : Int32).toNatClampNeg) 0) x1 (σ.a 68 ((x1 : Int32).toNatClampNeg)) _ _ _ hf hP hD hS (lv_sub hl [1, 2, 0] rfl)
      ·
        replace hf := (if_neg c29).symm.trans hf
        refine lv_iconst (v := 1) hx hb dX12_repeats_108 (by decide) ?_
        refine lv_goto (tgt := 113) hx hb dX12_repeats_109 (by decide) ?_
        refine rS_67 hx hb hK hP hD hS b1 dX12_repeats_113 (fun H locs hP hD hS => ?_)
        exact j_X12_repeats_114 l dC dI Q N R hx hb hr hml hown hts hlocks hZ hA hK (RS.setA p13 67 ((x1 : Int32).toNatClampNeg) 1) x1 (σ.a 68 ((x1 : Int32).toNatClampNeg)) _ _ _ hf hP hD hS (lv_sub hl [1, 2, 0] rfl)
  replace hf := (if_neg c11).symm.trans hf
  refine lv_lookup (off := 199) (tgt := 205) hx hb dX12_repeats_6 (by decide) (by show Op.lookupswitch.offset [(0, 26), (1, 60)] 199 ((σ.a 65 ((x1 : Int32).toNatClampNeg)) : Int32).toInt = 199; rw [lv_osw (k := 0) (a := 0) c2 (by decide), lv_osw (k := 1) (a := 1) c11 (by decide)]; rfl) (by decide) ?_
  refine lv_aload_n hx hb dX12_repeats_205 rfl (lv_at hl 0 rfl) ?_
  refine lv_aload_n hx hb dX12_repeats_206 rfl (lv_at hl 0 rfl) ?_
  refine rG_69 hx hb hts i_X12_repeats_X12 hown hK hP (hts (.fieldLink RX12 189 "StatementRules2Model" "fv" "[I") k_X12_repeats_fieldLink_RX12_189_SRModel_fv_I) dX12_repeats_207 ?_
  refine lv_iload_n hx hb dX12_repeats_210 rfl (lv_at hl 1 rfl) ?_
  refine rL_69 (v := (σ.a 69 ((x1 : Int32).toNatClampNeg))) hx hb hK hP b1 dX12_repeats_211 rfl ?_
  obtain ⟨p30, hcp30, hf⟩ := hf_bind hf
  have hFc := r_free hD hS hA
  refine va_calli (va_runV (As := [.int (σ.a 69 ((x1 : Int32).toNatClampNeg))]) (rest := []) ⟨hx, hb, hml, hown, hts⟩ (c_X12_isJustTrue l dC dI _ Q N σ (σ.a 69 ((x1 : Int32).toNatClampNeg)) p30 hcp30) (cwV 1 hts hX12_repeats_X12_isJustTrue_v533 rfl rfl rfl (by decide +kernel) ⟨Nat.le_of_ble_eq_true rfl, Nat.le_of_ble_eq_true rfl⟩) ⟨zPre.blind, va_recv hK hP (ci := 11) (q0 := 0) rfl rfl, zPre.go hZ hP hK hD⟩ rfl rfl hl.1 rfl (lv_room (Nat.le_of_ble_eq_true rfl)) dX12_repeats_212 ⟨Nat.le_of_ble_eq_true rfl, Nat.le_of_ble_eq_true rfl⟩) hS (fun q _ h => hFc q h) hFc (fun r31 u9 t9 H1 locs ht hvm hw hB hz1 hk1 hS => ?_)
  obtain ⟨hP, hK1, hD1⟩ := hB
  rw [ht] at hP
  have hD := hD1.weaken (fun _ _ _ h => hFc _ h)
  generalize H1 = H at hP hS ⊢
  obtain rfl : r31 = p30.1 := hw
  refine lv_istore_n (lv' := [(3, .int p30.1), (0, .ref Q.h0), (1, .int x1)]) hx hb dX12_repeats_215 rfl hl (by decide) rfl (fun ls hl => ?_)
  refine lv_aload_n hx hb dX12_repeats_216 rfl (lv_at hl 1 rfl) ?_
  refine lv_bipush (v := 41) hx hb dX12_repeats_217 (by decide) ?_
  obtain ⟨p32, hcp32, hf⟩ := hf_bind hf
  have hFc := r_free hD hS hA
  refine va_calli (va_runV (As := [.int 41]) (rest := []) ⟨hx, hb, hml, hown, hts⟩ (c_X12_shut l dC dI _ Q N p30.2 41 p32 hcp32) (cwV 1 hts hX12_repeats_X12_shut_v468 rfl rfl rfl (by decide +kernel) ⟨Nat.le_of_ble_eq_true rfl, Nat.le_of_ble_eq_true rfl⟩) ⟨zPre.blind, va_recv hK hP (ci := 11) (q0 := 0) rfl rfl, zPre.go hZ hP hK hD⟩ rfl rfl hl.1 rfl (lv_room (Nat.le_of_ble_eq_true rfl)) dX12_repeats_219 ⟨Nat.le_of_ble_eq_true rfl, Nat.le_of_ble_eq_true rfl⟩) hS (fun q _ h => hFc q h) hFc (fun r33 u9 t9 H1 locs ht hvm hw hB hz1 hk1 hS => ?_)
  obtain ⟨hP, hK1, hD1⟩ := hB
  rw [ht] at hP
  have hD := hD1.weaken (fun _ _ _ h => hFc _ h)
  generalize H1 = H at hP hS ⊢
  obtain rfl : r33 = p32.1 := hw
  refine lv_pop hx hb dX12_repeats_222 rfl ?_
  refine lv_aload_n hx hb dX12_repeats_223 rfl (lv_at hl 1 rfl) ?_
  refine lv_bipush (v := 59) hx hb dX12_repeats_224 (by decide) ?_
  obtain ⟨p34, hcp34, hf⟩ := hf_bind hf
  have hFc := r_free hD hS hA
  refine va_calli (va_runV (As := [.int 59]) (rest := []) ⟨hx, hb, hml, hown, hts⟩ (c_X12_need l dC dI _ Q N p32.2 59 p34 hcp34) (cwV 1 hts hX12_repeats_X12_need_v355 rfl rfl rfl (by decide +kernel) ⟨Nat.le_of_ble_eq_true rfl, Nat.le_of_ble_eq_true rfl⟩) ⟨zPre.blind, va_recv hK hP (ci := 11) (q0 := 0) rfl rfl, zPre.go hZ hP hK hD⟩ rfl rfl hl.1 rfl (lv_room (Nat.le_of_ble_eq_true rfl)) dX12_repeats_226 ⟨Nat.le_of_ble_eq_true rfl, Nat.le_of_ble_eq_true rfl⟩) hS (fun q _ h => hFc q h) hFc (fun r35 u9 t9 H1 locs ht hvm hw hB hz1 hk1 hS => ?_)
  obtain ⟨hP, hK1, hD1⟩ := hB
  rw [ht] at hP
  have hD := hD1.weaken (fun _ _ _ h => hFc _ h)
  generalize H1 = H at hP hS ⊢
  obtain rfl : r35 = p34.1 := hw
  refine lv_pop hx hb dX12_repeats_229 rfl ?_
  refine lv_aload_n hx hb dX12_repeats_230 rfl (lv_at hl 1 rfl) ?_
  refine lv_bipush (v := 14) hx hb dX12_repeats_231 (by decide) ?_
  refine lv_aload_n hx hb dX12_repeats_233 rfl (lv_at hl 1 rfl) ?_
  refine rG_66 hx hb hts i_X12_repeats_X12 hown hK hP (hts (.fieldLink RX12 180 "StatementRules2Model" "fp" "[I") k_X12_repeats_fieldLink_RX12_180_SRModel_fp_I) dX12_repeats_234 ?_
  refine lv_iload_n hx hb dX12_repeats_237 rfl (lv_at hl 2 rfl) ?_
  refine rL_66 (v := (p34.2.a 66 ((x1 : Int32).toNatClampNeg))) hx hb hK hP b1 dX12_repeats_238 rfl ?_
  obtain ⟨p36, hcp36, hf⟩ := hf_bind hf
  have hFc := r_free hD hS hA
  refine va_calli (va_runV (As := [.int 14, .int (p34.2.a 66 ((x1 : Int32).toNatClampNeg))]) (rest := []) ⟨hx, hb, hml, hown, hts⟩ (c_X12_emit l dC dI _ Q N p34.2 14 (p34.2.a 66 ((x1 : Int32).toNatClampNeg)) p36 hcp36) (cwV 2 hts hX12_repeats_X12_emit_v464 rfl rfl rfl (by decide +kernel) ⟨Nat.le_of_ble_eq_true rfl, Nat.le_of_ble_eq_true rfl⟩) ⟨zPre.blind, va_recv hK hP (ci := 11) (q0 := 0) rfl rfl, zPre.go hZ hP hK hD⟩ rfl rfl hl.1 rfl (lv_room (Nat.le_of_ble_eq_true rfl)) dX12_repeats_239 ⟨Nat.le_of_ble_eq_true rfl, Nat.le_of_ble_eq_true rfl⟩) hS (fun q _ h => hFc q h) hFc (fun r37 u9 t9 H1 locs ht hvm hw hB hz1 hk1 hS => ?_)
  obtain ⟨hP, hK1, hD1⟩ := hB
  rw [ht] at hP
  have hD := hD1.weaken (fun _ _ _ h => hFc _ h)
  generalize H1 = H at hP hS ⊢
  obtain rfl : r37 = p36.1 := hw
  refine lv_pop hx hb dX12_repeats_242 rfl ?_
  refine lv_aload_n hx hb dX12_repeats_243 rfl (lv_at hl 1 rfl) ?_
  refine lv_aload_n hx hb dX12_repeats_244 rfl (lv_at hl 1 rfl) ?_
  refine rG_70 hx hb hts i_X12_repeats_X12 hown hK hP (hts (.fieldLink RX12 192 "StatementRules2Model" "fw" "[I") k_X12_repeats_fieldLink_RX12_192_SRModel_fw_I) dX12_repeats_245 ?_
  refine lv_iload_n hx hb dX12_repeats_248 rfl (lv_at hl 2 rfl) ?_
  refine rL_70 (v := (p36.2.a 70 ((x1 : Int32).toNatClampNeg))) hx hb hK hP b1 dX12_repeats_249 rfl ?_
  refine lv_aload_n hx hb dX12_repeats_250 rfl (lv_at hl 1 rfl) ?_
  refine rG_20 (v := (p36.2.i 20)) hx hb hts i_X12_repeats_X12 hown hK hP (hts (.fieldLink RX12 358 "StatementRules2Model" "codes" "I") k_X12_repeats_fieldLink_RX12_358_SRModel_codes_I) dX12_repeats_251 rfl ?_
  obtain ⟨p38, hcp38, hf⟩ := hf_bind hf
  have hFc := r_free hD hS hA
  refine va_callv (va_runV (As := [.int (p36.2.a 70 ((x1 : Int32).toNatClampNeg)), .int (p36.2.i 20)]) (rest := []) ⟨hx, hb, hml, hown, hts⟩ (c_X12_patch l dC dI _ Q N p36.2 (p36.2.a 70 ((x1 : Int32).toNatClampNeg)) (p36.2.i 20) p38 hcp38) (cwV 2 hts hX12_repeats_X12_patch_v510 rfl rfl rfl (by decide +kernel) ⟨Nat.le_of_ble_eq_true rfl, Nat.le_of_ble_eq_true rfl⟩) ⟨zPre.blind, va_recv hK hP (ci := 11) (q0 := 0) rfl rfl, zPre.go hZ hP hK hD⟩ rfl rfl hl.1 rfl (lv_room (Nat.le_of_ble_eq_true rfl)) dX12_repeats_254 ⟨Nat.le_of_ble_eq_true rfl, Nat.le_of_ble_eq_true rfl⟩) hS (fun q _ h => hFc q h) hFc (fun u9 t9 H1 locs ht hvm hw hB hz1 hk1 hS => ?_)
  obtain ⟨hP, hK1, hD1⟩ := hB
  rw [ht] at hP
  have hD := hD1.weaken (fun _ _ _ h => hFc _ h)
  generalize H1 = H at hP hS ⊢
  refine lv_aload_n hx hb dX12_repeats_257 rfl (lv_at hl 1 rfl) ?_
  refine lv_aload_n hx hb dX12_repeats_258 rfl (lv_at hl 1 rfl) ?_
  refine rG_67 hx hb hts i_X12_repeats_X12 hown hK hP (hts (.fieldLink RX12 183 "StatementRules2Model" "fq" "[I") k_X12_repeats_fieldLink_RX12_183_SRModel_fq_I) dX12_repeats_259 ?_
  refine lv_iload_n hx hb dX12_repeats_262 rfl (lv_at hl 2 rfl) ?_
  refine rL_67 (v := (p38.a 67 ((x1 : Int32).toNatClampNeg))) hx hb hK hP b1 dX12_repeats_263 rfl ?_
  refine lv_iconst (v := 1) hx hb dX12_repeats_264 (by decide) ?_
  refine lv_icmp_ne (tgt := 272) hx hb dX12_repeats_265 (by decide) (fun c40 => ?_) (fun c40 => ?_)
  ·
    replace hf := (if_neg c40).symm.trans hf
    refine lv_aload_n hx hb dX12_repeats_272 rfl (lv_at hl 1 rfl) ?_
    refine rG_72 hx hb hts i_X12_repeats_X12 hown hK hP (hts (.fieldLink RX12 198 "StatementRules2Model" "fy" "[I") k_X12_repeats_fieldLink_RX12_198_SRModel_fy_I) dX12_repeats_273 ?_
    refine lv_iload_n hx hb dX12_repeats_276 rfl (lv_at hl 2 rfl) ?_
    refine rL_72 (v := (p38.a 72 ((x1 : Int32).toNatClampNeg))) hx hb hK hP b1 dX12_repeats_277 rfl ?_
    refine lv_iconst (v := 1) hx hb dX12_repeats_278 (by decide) ?_
    refine lv_icmp_ne (tgt := 286) hx hb dX12_repeats_279 (by decide) (fun c41 => ?_) (fun c41 => ?_)
    ·
      replace hf := (if_neg c41).symm.trans hf
      refine lv_iconst (v := 0) hx hb dX12_repeats_286 (by decide) ?_
      obtain ⟨p42, hcp42, hf⟩ := hf_bind hf
      have hFc := r_free hD hS hA
      refine va_callv (va_runV (As := [.int 0]) (rest := []) ⟨hx, hb, hml, hown, hts⟩ (c_X12_over l dC dI _ Q N p38 0 p42 hcp42) (cwV 1 hts hX12_repeats_X12_over_v490 rfl rfl rfl (by decide +kernel) ⟨Nat.le_of_ble_eq_true rfl, Nat.le_of_ble_eq_true rfl⟩) ⟨zPre.blind, va_recv hK hP (ci := 11) (q0 := 0) rfl rfl, zPre.go hZ hP hK hD⟩ rfl rfl hl.1 rfl (lv_room (Nat.le_of_ble_eq_true rfl)) dX12_repeats_287 ⟨Nat.le_of_ble_eq_true rfl, Nat.le_of_ble_eq_true rfl⟩) hS (fun q _ h => hFc q h) hFc (fun u9 t9 H1 locs ht hvm hw hB hz1 hk1 hS => ?_)
      obtain ⟨hP, hK1, hD1⟩ := hB
      rw [ht] at hP
      have hD := hD1.weaken (fun _ _ _ h => hFc _ h)
      generalize H1 = H at hP hS ⊢
      obtain rfl := Option.some.inj hf
      exact W.vret hx hb hr (fun t ht hW => ⟨⟨(), rfl, trivial, by rw [ht]; exact hP, va_K.moved hW.alike hK, hD⟩, hS.F ht⟩) hS.2.2 dX12_repeats_290
    ·
      replace hf := (if_pos c41).symm.trans hf
      refine lv_iconst (v := 1) hx hb dX12_repeats_282 (by decide) ?_
      refine lv_goto (tgt := 287) hx hb dX12_repeats_283 (by decide) ?_
      obtain ⟨p44, hcp44, hf⟩ := hf_bind hf
      have hFc := r_free hD hS hA
      refine va_callv (va_runV (As := [.int 1]) (rest := []) ⟨hx, hb, hml, hown, hts⟩ (c_X12_over l dC dI _ Q N p38 1 p44 hcp44) (cwV 1 hts hX12_repeats_X12_over_v490 rfl rfl rfl (by decide +kernel) ⟨Nat.le_of_ble_eq_true rfl, Nat.le_of_ble_eq_true rfl⟩) ⟨zPre.blind, va_recv hK hP (ci := 11) (q0 := 0) rfl rfl, zPre.go hZ hP hK hD⟩ rfl rfl hl.1 rfl (lv_room (Nat.le_of_ble_eq_true rfl)) dX12_repeats_287 ⟨Nat.le_of_ble_eq_true rfl, Nat.le_of_ble_eq_true rfl⟩) hS (fun q _ h => hFc q h) hFc (fun u9 t9 H1 locs ht hvm hw hB hz1 hk1 hS => ?_)
      obtain ⟨hP, hK1, hD1⟩ := hB
      rw [ht] at hP
      have hD := hD1.weaken (fun _ _ _ h => hFc _ h)
      generalize H1 = H at hP hS ⊢
      obtain rfl := Option.some.inj hf
      exact W.vret hx hb hr (fun t ht hW => ⟨⟨(), rfl, trivial, by rw [ht]; exact hP, va_K.moved hW.alike hK, hD⟩, hS.F ht⟩) hS.2.2 dX12_repeats_290
  ·
    replace hf := (if_pos c40).symm.trans hf
    refine lv_iload_n hx hb dX12_repeats_268 rfl (lv_at hl 0 rfl) ?_
    refine lv_if_eq (tgt := 282) hx hb dX12_repeats_269 (by decide) (fun c46 => ?_) (fun c46 => ?_)
    ·
      replace hf := (if_pos c46).symm.trans hf
      refine lv_iconst (v := 1) hx hb dX12_repeats_282 (by decide) ?_
      refine lv_goto (tgt := 287) hx hb dX12_repeats_283 (by decide) ?_
      obtain ⟨p47, hcp47, hf⟩ := hf_bind hf
      have hFc := r_free hD hS hA
      refine va_callv (va_runV (As := [.int 1]) (rest := []) ⟨hx, hb, hml, hown, hts⟩ (c_X12_over l dC dI _ Q N p38 1 p47 hcp47) (cwV 1 hts hX12_repeats_X12_over_v490 rfl rfl rfl (by decide +kernel) ⟨Nat.le_of_ble_eq_true rfl, Nat.le_of_ble_eq_true rfl⟩) ⟨zPre.blind, va_recv hK hP (ci := 11) (q0 := 0) rfl rfl, zPre.go hZ hP hK hD⟩ rfl rfl hl.1 rfl (lv_room (Nat.le_of_ble_eq_true rfl)) dX12_repeats_287 ⟨Nat.le_of_ble_eq_true rfl, Nat.le_of_ble_eq_true rfl⟩) hS (fun q _ h => hFc q h) hFc (fun u9 t9 H1 locs ht hvm hw hB hz1 hk1 hS => ?_)
      obtain ⟨hP, hK1, hD1⟩ := hB
      rw [ht] at hP
      have hD := hD1.weaken (fun _ _ _ h => hFc _ h)
      generalize H1 = H at hP hS ⊢
      obtain rfl := Option.some.inj hf
      exact W.vret hx hb hr (fun t ht hW => ⟨⟨(), rfl, trivial, by rw [ht]; exact hP, va_K.moved hW.alike hK, hD⟩, hS.F ht⟩) hS.2.2 dX12_repeats_290
    ·
      replace hf := (if_neg c46).symm.trans hf
      refine lv_aload_n hx hb dX12_repeats_272 rfl (lv_at hl 1 rfl) ?_
      refine rG_72 hx hb hts i_X12_repeats_X12 hown hK hP (hts (.fieldLink RX12 198 "StatementRules2Model" "fy" "[I") k_X12_repeats_fieldLink_RX12_198_SRModel_fy_I) dX12_repeats_273 ?_
      refine lv_iload_n hx hb dX12_repeats_276 rfl (lv_at hl 2 rfl) ?_
      refine rL_72 (v := (p38.a 72 ((x1 : Int32).toNatClampNeg))) hx hb hK hP b1 dX12_repeats_277 rfl ?_
      refine lv_iconst (v := 1) hx hb dX12_repeats_278 (by decide) ?_
      refine lv_icmp_ne (tgt := 286) hx hb dX12_repeats_279 (by decide) (fun c49 => ?_) (fun c49 => ?_)
      ·
        replace hf := (if_neg c49).symm.trans hf
        refine lv_iconst (v := 0) hx hb dX12_repeats_286 (by decide) ?_
        obtain ⟨p50, hcp50, hf⟩ := hf_bind hf
        have hFc := r_free hD hS hA
        refine va_callv (va_runV (As := [.int 0]) (rest := []) ⟨hx, hb, hml, hown, hts⟩ (c_X12_over l dC dI _ Q N p38 0 p50 hcp50) (cwV 1 hts hX12_repeats_X12_over_v490 rfl rfl rfl (by decide +kernel) ⟨Nat.le_of_ble_eq_true rfl, Nat.le_of_ble_eq_true rfl⟩) ⟨zPre.blind, va_recv hK hP (ci := 11) (q0 := 0) rfl rfl, zPre.go hZ hP hK hD⟩ rfl rfl hl.1 rfl (lv_room (Nat.le_of_ble_eq_true rfl)) dX12_repeats_287 ⟨Nat.le_of_ble_eq_true rfl, Nat.le_of_ble_eq_true rfl⟩) hS (fun q _ h => hFc q h) hFc (fun u9 t9 H1 locs ht hvm hw hB hz1 hk1 hS => ?_)
        obtain ⟨hP, hK1, hD1⟩ := hB
        rw [ht] at hP
        have hD := hD1.weaken (fun _ _ _ h => hFc _ h)
        generalize H1 = H at hP hS ⊢
        obtain rfl := Option.some.inj hf
        exact W.vret hx hb hr (fun t ht hW => ⟨⟨(), rfl, trivial, by rw [ht]; exact hP, va_K.moved hW.alike hK, hD⟩, hS.F ht⟩) hS.2.2 dX12_repeats_290
      ·
        replace hf := (if_pos c49).symm.trans hf
        refine lv_iconst (v := 1) hx hb dX12_repeats_282 (by decide) ?_
        refine lv_goto (tgt := 287) hx hb dX12_repeats_283 (by decide) ?_
        obtain ⟨p52, hcp52, hf⟩ := hf_bind hf
        have hFc := r_free hD hS hA
        refine va_callv (va_runV (As := [.int 1]) (rest := []) ⟨hx, hb, hml, hown, hts⟩ (c_X12_over l dC dI _ Q N p38 1 p52 hcp52) (cwV 1 hts hX12_repeats_X12_over_v490 rfl rfl rfl (by decide +kernel) ⟨Nat.le_of_ble_eq_true rfl, Nat.le_of_ble_eq_true rfl⟩) ⟨zPre.blind, va_recv hK hP (ci := 11) (q0 := 0) rfl rfl, zPre.go hZ hP hK hD⟩ rfl rfl hl.1 rfl (lv_room (Nat.le_of_ble_eq_true rfl)) dX12_repeats_287 ⟨Nat.le_of_ble_eq_true rfl, Nat.le_of_ble_eq_true rfl⟩) hS (fun q _ h => hFc q h) hFc (fun u9 t9 H1 locs ht hvm hw hB hz1 hk1 hS => ?_)
        obtain ⟨hP, hK1, hD1⟩ := hB
        rw [ht] at hP
        have hD := hD1.weaken (fun _ _ _ h => hFc _ h)
        generalize H1 = H at hP hS ⊢
        obtain rfl := Option.some.inj hf
        exact W.vret hx hb hr (fun t ht hW => ⟨⟨(), rfl, trivial, by rw [ht]; exact hP, va_K.moved hW.alike hK, hD⟩, hS.F ht⟩) hS.2.2 dX12_repeats_290
