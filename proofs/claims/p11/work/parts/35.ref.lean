theorem k_X12_step_fieldLink_RX12_639_SRModel_steps_I : Cond.fieldLink RX12 639 "StatementRules2Model" "steps" "I" ∈ wzX12_step := List.mem_cons_of_mem _ (List.mem_append_left _ (List.mem_of_getElem? (i := 0) rfl))
theorem i_X12_step_X12 : ∀ w ∈ wsX120, w ∈ wzX12_step := fun _ h => List.mem_cons_of_mem _ (List.mem_append_right _ (List.mem_append_left _ (h)))
theorem k_X12_step_fieldLink_RX12_636_SRModel_ended_I : Cond.fieldLink RX12 636 "StatementRules2Model" "ended" "I" ∈ wzX12_step := List.mem_cons_of_mem _ (List.mem_append_left _ (List.mem_of_getElem? (i := 1) rfl))
theorem k_X12_step_fieldLink_RX12_618_SRModel_pc_I : Cond.fieldLink RX12 618 "StatementRules2Model" "pc" "I" ∈ wzX12_step := List.mem_cons_of_mem _ (List.mem_append_left _ (List.mem_of_getElem? (i := 2) rfl))
set_option maxHeartbeats 4000000 in
set_option maxRecDepth 100000 in
theorem c_X12_step (l : Launch) (dC : Nat → ClassId) (dI : Nat → Nat → Nat) (sz : Nat) (Q : RQ) (N : Nat) (σ : RS) (R : RS) (hf : f_X12_step N σ = some R) : Met l yX12_step wzX12_step ({ frames := 1, cells := 0, slots := 0, locals := 60 }) (va_Pc [.ref Q.h0] (zPre dC dI sz (rW Q σ) (rT Q))) (va_Qv (fun (_ : Unit) => True) (fun (_ : Unit) (t : State) => zPost dC dI (va_A (rW Q σ) sz) (rW Q R) (rT Q) t) (va_A (rW Q σ) sz)) 0 0 (va_A (rW Q σ) sz) := by
  refine Met.ofW (cc := cX12_step) (maxL := 1) (ret := none) (by decide) rfl ?_
  intro p e s m args below meth c s₁ B hml hv
  obtain ⟨rfl, hsz, hZ, hP, hK, hD0⟩ := hv
  have hx := B.exec
  have hb := B.bytes
  have hr := B.returns
  have hts := atoms_spec (ws := wzX12_step) B.pre
  have hown : s.vm.findClass RX12 = some m.cls := findClass_of_methodNamed B.named
  have hlocks := B.notSynchronized
  subst hsz
  have hD := hD0.self (sz := s.heap.size)
  generalize hAe : va_A (rW Q σ) s.heap.size = A at hD ⊢
  have hA : ∀ q : Nat, s.heap.size ≤ q → A q := fun q h => by rw [← hAe]; exact Or.inr h
  have hS : va_S A s.heap s.heap [] := va_S.rf
  have hl := lv_entry ([.ref Q.h0]) (n := 1) (Nat.le_of_ble_eq_true rfl)
  rw [lg_entry_eq]
  generalize (lg_sl ([.ref Q.h0]) ++ List.replicate (1 - (lg_sl ([.ref Q.h0])).length) Slot.unset).toArray = ls at hl ⊢
  have hl : lv_has ls 1 [(0, .ref Q.h0)] := hl
  unfold f_X12_step at hf
  refine lv_aload_n hx hb dX12_step_0 rfl (lv_at hl 0 rfl) ?_
  refine rG_80 (v := (σ.i 80)) hx hb hts i_X12_step_X12 hown hK hP (hts (.fieldLink RX12 639 "StatementRules2Model" "steps" "I") k_X12_step_fieldLink_RX12_639_SRModel_steps_I) dX12_step_1 rfl ?_
  refine lv_sipush (v := 1000) hx hb dX12_step_4 (by decide) ?_
  refine lv_icmp_ne (tgt := 21) hx hb dX12_step_7 (by decide) (fun c1 => ?_) (fun c1 => ?_)
  ·
    replace hf := (if_neg c1).symm.trans hf
    refine lv_aload_n hx hb dX12_step_21 rfl (lv_at hl 0 rfl) ?_
    refine lv_dup hx hb dX12_step_22 rfl ?_
    refine rG_80 (v := (σ.i 80)) hx hb hts i_X12_step_X12 hown hK hP (hts (.fieldLink RX12 639 "StatementRules2Model" "steps" "I") k_X12_step_fieldLink_RX12_639_SRModel_steps_I) dX12_step_23 rfl ?_
    refine lv_iconst (v := 1) hx hb dX12_step_26 (by decide) ?_
    refine lv_iadd hx hb dX12_step_27 ?_
    refine rP_80 hx hb hts i_X12_step_X12 hown hK hP hD hS (hts (.fieldLink RX12 639 "StatementRules2Model" "steps" "I") k_X12_step_fieldLink_RX12_639_SRModel_steps_I) dX12_step_28 (fun H locs hP hD hS => ?_)
    obtain rfl := Option.some.inj hf
    exact W.vret hx hb hr (fun t ht hW => ⟨⟨(), rfl, trivial, by rw [ht]; exact hP, va_K.moved hW.alike hK, hD⟩, hS.F ht⟩) hS.2.2 dX12_step_31
  ·
    replace hf := (if_pos c1).symm.trans hf
    refine lv_aload_n hx hb dX12_step_10 rfl (lv_at hl 0 rfl) ?_
    refine lv_iconst (v := 5) hx hb dX12_step_11 (by decide) ?_
    refine rP_115 hx hb hts i_X12_step_X12 hown hK hP hD hS (hts (.fieldLink RX12 636 "StatementRules2Model" "ended" "I") k_X12_step_fieldLink_RX12_636_SRModel_ended_I) dX12_step_12 (fun H locs hP hD hS => ?_)
    refine lv_aload_n hx hb dX12_step_15 rfl (lv_at hl 0 rfl) ?_
    refine lv_iconst (v := (-1)) hx hb dX12_step_16 (by decide) ?_
    refine rP_92 hx hb hts i_X12_step_X12 hown hK hP hD hS (hts (.fieldLink RX12 618 "StatementRules2Model" "pc" "I") k_X12_step_fieldLink_RX12_618_SRModel_pc_I) dX12_step_17 (fun H locs hP hD hS => ?_)
    obtain rfl := Option.some.inj hf
    exact W.vret hx hb hr (fun t ht hW => ⟨⟨(), rfl, trivial, by rw [ht]; exact hP, va_K.moved hW.alike hK, hD⟩, hS.F ht⟩) hS.2.2 dX12_step_20
set_option maxHeartbeats 4000000 in
set_option maxRecDepth 100000 in
theorem c_X12_compute (l : Launch) (dC : Nat → ClassId) (dI : Nat → Nat → Nat) (sz : Nat) (Q : RQ) (N : Nat) (σ : RS) (x1 : Int32) (x2 : Int32) (x3 : Int32) (R : Int32 × RS) (hf : f_X12_compute N σ x1 x2 x3 = some R) : Met l yX12_compute wzX12_compute ({ frames := 1, cells := 0, slots := 0, locals := 60 }) (va_Pc [.ref Q.h0, .int x1, .int x2, .int x3] (zPre dC dI sz (rW Q σ) (rT Q))) (va_Qi (fun (r : Int32) (_ : Unit) => r = R.1) (fun (_ : Unit) (t : State) => zPost dC dI (va_A (rW Q σ) sz) (rW Q R.2) (rT Q) t) (va_A (rW Q σ) sz)) 0 0 (va_A (rW Q σ) sz) := by
  refine Met.ofW (cc := cX12_compute) (maxL := 4) (ret := (some .int)) (by decide) rfl ?_
  intro p e s m args below meth c s₁ B hml hv
  obtain ⟨rfl, hsz, hZ, hP, hK, hD0⟩ := hv
  have hx := B.exec
  have hb := B.bytes
  have hr := B.returns
  have hts := atoms_spec (ws := wzX12_compute) B.pre
  have hown : s.vm.findClass RX12 = some m.cls := findClass_of_methodNamed B.named
  have hlocks := B.notSynchronized
  subst hsz
  have hD := hD0.self (sz := s.heap.size)
  generalize hAe : va_A (rW Q σ) s.heap.size = A at hD ⊢
  have hA : ∀ q : Nat, s.heap.size ≤ q → A q := fun q h => by rw [← hAe]; exact Or.inr h
  have hS : va_S A s.heap s.heap [] := va_S.rf
  have hl := lv_entry ([.ref Q.h0, .int x1, .int x2, .int x3]) (n := 4) (Nat.le_of_ble_eq_true rfl)
  rw [lg_entry_eq]
  generalize (lg_sl ([.ref Q.h0, .int x1, .int x2, .int x3]) ++ List.replicate (4 - (lg_sl ([.ref Q.h0, .int x1, .int x2, .int x3])).length) Slot.unset).toArray = ls at hl ⊢
  have hl : lv_has ls 4 [(0, .ref Q.h0), (1, .int x1), (2, .int x2), (3, .int x3)] := hl
  unfold f_X12_compute at hf
  refine lv_iload_n hx hb dX12_compute_0 rfl (lv_at hl 1 rfl) ?_
  by_cases c1 : x1 = 37
  ·
    replace hf := (if_pos c1).symm.trans hf
    refine lv_lookup (off := 107) (tgt := 108) hx hb dX12_compute_1 (by decide) (by rw [c1]; decide) (by decide) ?_
    refine lv_iload_n hx hb dX12_compute_108 rfl (lv_at hl 2 rfl) ?_
    refine lv_iload_n hx hb dX12_compute_109 rfl (lv_at hl 3 rfl) ?_
    obtain ⟨b2, hf⟩ := hf_itn hf
    refine lv_irem hx hb dX12_compute_110 b2 ?_
    obtain rfl := Option.some.inj hf
    exact W.iret (v := (x2 - x2 / x3 * x3)) hx hb hr (fun t ht hW => ⟨⟨(x2 - x2 / x3 * x3), (), rfl, rfl, by rw [ht]; exact hP, va_K.moved hW.alike hK, hD⟩, hS.F ht⟩) hS.2.2 dX12_compute_111
  replace hf := (if_neg c1).symm.trans hf
  by_cases c3 : x1 = 42
  ·
    replace hf := (if_pos c3).symm.trans hf
    refine lv_lookup (off := 99) (tgt := 100) hx hb dX12_compute_1 (by decide) (by rw [c3]; decide) (by decide) ?_
    refine lv_iload_n hx hb dX12_compute_100 rfl (lv_at hl 2 rfl) ?_
    refine lv_iload_n hx hb dX12_compute_101 rfl (lv_at hl 3 rfl) ?_
    refine lv_imul hx hb dX12_compute_102 ?_
    obtain rfl := Option.some.inj hf
    exact W.iret (v := (x2 * x3)) hx hb hr (fun t ht hW => ⟨⟨(x2 * x3), (), rfl, rfl, by rw [ht]; exact hP, va_K.moved hW.alike hK, hD⟩, hS.F ht⟩) hS.2.2 dX12_compute_103
  replace hf := (if_neg c3).symm.trans hf
  by_cases c4 : x1 = 43
  ·
    replace hf := (if_pos c4).symm.trans hf
    refine lv_lookup (off := 91) (tgt := 92) hx hb dX12_compute_1 (by decide) (by rw [c4]; decide) (by decide) ?_
    refine lv_iload_n hx hb dX12_compute_92 rfl (lv_at hl 2 rfl) ?_
    refine lv_iload_n hx hb dX12_compute_93 rfl (lv_at hl 3 rfl) ?_
    refine lv_iadd hx hb dX12_compute_94 ?_
    obtain rfl := Option.some.inj hf
    exact W.iret (v := (x2 + x3)) hx hb hr (fun t ht hW => ⟨⟨(x2 + x3), (), rfl, rfl, by rw [ht]; exact hP, va_K.moved hW.alike hK, hD⟩, hS.F ht⟩) hS.2.2 dX12_compute_95
  replace hf := (if_neg c4).symm.trans hf
  by_cases c5 : x1 = 45
  ·
    replace hf := (if_pos c5).symm.trans hf
    refine lv_lookup (off := 95) (tgt := 96) hx hb dX12_compute_1 (by decide) (by rw [c5]; decide) (by decide) ?_
    refine lv_iload_n hx hb dX12_compute_96 rfl (lv_at hl 2 rfl) ?_
    refine lv_iload_n hx hb dX12_compute_97 rfl (lv_at hl 3 rfl) ?_
    refine lv_isub hx hb dX12_compute_98 ?_
    obtain rfl := Option.some.inj hf
    exact W.iret (v := (x2 - x3)) hx hb hr (fun t ht hW => ⟨⟨(x2 - x3), (), rfl, rfl, by rw [ht]; exact hP, va_K.moved hW.alike hK, hD⟩, hS.F ht⟩) hS.2.2 dX12_compute_99
  replace hf := (if_neg c5).symm.trans hf
  by_cases c6 : x1 = 47
  ·
    replace hf := (if_pos c6).symm.trans hf
    refine lv_lookup (off := 103) (tgt := 104) hx hb dX12_compute_1 (by decide) (by rw [c6]; decide) (by decide) ?_
    refine lv_iload_n hx hb dX12_compute_104 rfl (lv_at hl 2 rfl) ?_
    refine lv_iload_n hx hb dX12_compute_105 rfl (lv_at hl 3 rfl) ?_
    obtain ⟨b7, hf⟩ := hf_itn hf
    refine lv_idiv hx hb dX12_compute_106 b7 ?_
    obtain rfl := Option.some.inj hf
    exact W.iret (v := (x2 / x3)) hx hb hr (fun t ht hW => ⟨⟨(x2 / x3), (), rfl, rfl, by rw [ht]; exact hP, va_K.moved hW.alike hK, hD⟩, hS.F ht⟩) hS.2.2 dX12_compute_107
  replace hf := (if_neg c6).symm.trans hf
  by_cases c8 : x1 = 60
  ·
    replace hf := (if_pos c8).symm.trans hf
    refine lv_lookup (off := 111) (tgt := 112) hx hb dX12_compute_1 (by decide) (by rw [c8]; decide) (by decide) ?_
    refine lv_iload_n hx hb dX12_compute_112 rfl (lv_at hl 2 rfl) ?_
    refine lv_iload_n hx hb dX12_compute_113 rfl (lv_at hl 3 rfl) ?_
    refine lv_icmp_ge (tgt := 121) hx hb dX12_compute_114 (by decide) (fun c9 => ?_) (fun c9 => ?_)
    ·
      replace hf := (if_pos c9).symm.trans hf
      refine lv_iconst (v := 0) hx hb dX12_compute_121 (by decide) ?_
      obtain rfl := Option.some.inj hf
      exact W.iret (v := 0) hx hb hr (fun t ht hW => ⟨⟨0, (), rfl, rfl, by rw [ht]; exact hP, va_K.moved hW.alike hK, hD⟩, hS.F ht⟩) hS.2.2 dX12_compute_122
    ·
      replace hf := (if_neg c9).symm.trans hf
      refine lv_iconst (v := 1) hx hb dX12_compute_117 (by decide) ?_
      refine lv_goto (tgt := 122) hx hb dX12_compute_118 (by decide) ?_
      obtain rfl := Option.some.inj hf
      exact W.iret (v := 1) hx hb hr (fun t ht hW => ⟨⟨1, (), rfl, rfl, by rw [ht]; exact hP, va_K.moved hW.alike hK, hD⟩, hS.F ht⟩) hS.2.2 dX12_compute_122
  replace hf := (if_neg c8).symm.trans hf
  by_cases c10 : x1 = 62
  ·
    replace hf := (if_pos c10).symm.trans hf
    refine lv_lookup (off := 133) (tgt := 134) hx hb dX12_compute_1 (by decide) (by rw [c10]; decide) (by decide) ?_
    refine lv_iload_n hx hb dX12_compute_134 rfl (lv_at hl 2 rfl) ?_
    refine lv_iload_n hx hb dX12_compute_135 rfl (lv_at hl 3 rfl) ?_
    refine lv_icmp_le (tgt := 143) hx hb dX12_compute_136 (by decide) (fun c11 => ?_) (fun c11 => ?_)
    ·
      replace hf := (if_pos c11).symm.trans hf
      refine lv_iconst (v := 0) hx hb dX12_compute_143 (by decide) ?_
      obtain rfl := Option.some.inj hf
      exact W.iret (v := 0) hx hb hr (fun t ht hW => ⟨⟨0, (), rfl, rfl, by rw [ht]; exact hP, va_K.moved hW.alike hK, hD⟩, hS.F ht⟩) hS.2.2 dX12_compute_144
    ·
      replace hf := (if_neg c11).symm.trans hf
      refine lv_iconst (v := 1) hx hb dX12_compute_139 (by decide) ?_
      refine lv_goto (tgt := 144) hx hb dX12_compute_140 (by decide) ?_
      obtain rfl := Option.some.inj hf
      exact W.iret (v := 1) hx hb hr (fun t ht hW => ⟨⟨1, (), rfl, rfl, by rw [ht]; exact hP, va_K.moved hW.alike hK, hD⟩, hS.F ht⟩) hS.2.2 dX12_compute_144
  replace hf := (if_neg c10).symm.trans hf
  by_cases c12 : x1 = 300
  ·
    replace hf := (if_pos c12).symm.trans hf
    refine lv_lookup (off := 122) (tgt := 123) hx hb dX12_compute_1 (by decide) (by rw [c12]; decide) (by decide) ?_
    refine lv_iload_n hx hb dX12_compute_123 rfl (lv_at hl 2 rfl) ?_
    refine lv_iload_n hx hb dX12_compute_124 rfl (lv_at hl 3 rfl) ?_
    refine lv_icmp_gt (tgt := 132) hx hb dX12_compute_125 (by decide) (fun c13 => ?_) (fun c13 => ?_)
    ·
      replace hf := (if_pos c13).symm.trans hf
      refine lv_iconst (v := 0) hx hb dX12_compute_132 (by decide) ?_
      obtain rfl := Option.some.inj hf
      exact W.iret (v := 0) hx hb hr (fun t ht hW => ⟨⟨0, (), rfl, rfl, by rw [ht]; exact hP, va_K.moved hW.alike hK, hD⟩, hS.F ht⟩) hS.2.2 dX12_compute_133
    ·
      replace hf := (if_neg c13).symm.trans hf
      refine lv_iconst (v := 1) hx hb dX12_compute_128 (by decide) ?_
      refine lv_goto (tgt := 133) hx hb dX12_compute_129 (by decide) ?_
      obtain rfl := Option.some.inj hf
      exact W.iret (v := 1) hx hb hr (fun t ht hW => ⟨⟨1, (), rfl, rfl, by rw [ht]; exact hP, va_K.moved hW.alike hK, hD⟩, hS.F ht⟩) hS.2.2 dX12_compute_133
  replace hf := (if_neg c12).symm.trans hf
  by_cases c14 : x1 = 301
  ·
    replace hf := (if_pos c14).symm.trans hf
    refine lv_lookup (off := 144) (tgt := 145) hx hb dX12_compute_1 (by decide) (by rw [c14]; decide) (by decide) ?_
    refine lv_iload_n hx hb dX12_compute_145 rfl (lv_at hl 2 rfl) ?_
    refine lv_iload_n hx hb dX12_compute_146 rfl (lv_at hl 3 rfl) ?_
    refine lv_icmp_lt (tgt := 154) hx hb dX12_compute_147 (by decide) (fun c15 => ?_) (fun c15 => ?_)
    ·
      replace hf := (if_pos c15).symm.trans hf
      refine lv_iconst (v := 0) hx hb dX12_compute_154 (by decide) ?_
      obtain rfl := Option.some.inj hf
      exact W.iret (v := 0) hx hb hr (fun t ht hW => ⟨⟨0, (), rfl, rfl, by rw [ht]; exact hP, va_K.moved hW.alike hK, hD⟩, hS.F ht⟩) hS.2.2 dX12_compute_155
    ·
      replace hf := (if_neg c15).symm.trans hf
      refine lv_iconst (v := 1) hx hb dX12_compute_150 (by decide) ?_
      refine lv_goto (tgt := 155) hx hb dX12_compute_151 (by decide) ?_
      obtain rfl := Option.some.inj hf
      exact W.iret (v := 1) hx hb hr (fun t ht hW => ⟨⟨1, (), rfl, rfl, by rw [ht]; exact hP, va_K.moved hW.alike hK, hD⟩, hS.F ht⟩) hS.2.2 dX12_compute_155
  replace hf := (if_neg c14).symm.trans hf
  by_cases c16 : x1 = 302
  ·
    replace hf := (if_pos c16).symm.trans hf
    refine lv_lookup (off := 155) (tgt := 156) hx hb dX12_compute_1 (by decide) (by rw [c16]; decide) (by decide) ?_
    refine lv_iload_n hx hb dX12_compute_156 rfl (lv_at hl 2 rfl) ?_
    refine lv_iload_n hx hb dX12_compute_157 rfl (lv_at hl 3 rfl) ?_
    refine lv_icmp_ne (tgt := 165) hx hb dX12_compute_158 (by decide) (fun c17 => ?_) (fun c17 => ?_)
    ·
      replace hf := (if_neg c17).symm.trans hf
      refine lv_iconst (v := 0) hx hb dX12_compute_165 (by decide) ?_
      obtain rfl := Option.some.inj hf
      exact W.iret (v := 0) hx hb hr (fun t ht hW => ⟨⟨0, (), rfl, rfl, by rw [ht]; exact hP, va_K.moved hW.alike hK, hD⟩, hS.F ht⟩) hS.2.2 dX12_compute_166
    ·
      replace hf := (if_pos c17).symm.trans hf
      refine lv_iconst (v := 1) hx hb dX12_compute_161 (by decide) ?_
      refine lv_goto (tgt := 166) hx hb dX12_compute_162 (by decide) ?_
      obtain rfl := Option.some.inj hf
      exact W.iret (v := 1) hx hb hr (fun t ht hW => ⟨⟨1, (), rfl, rfl, by rw [ht]; exact hP, va_K.moved hW.alike hK, hD⟩, hS.F ht⟩) hS.2.2 dX12_compute_166
  replace hf := (if_neg c16).symm.trans hf
  refine lv_lookup (off := 166) (tgt := 167) hx hb dX12_compute_1 (by decide) (by show Op.lookupswitch.offset [(37, 107), (42, 99), (43, 91), (45, 95), (47, 103), (60, 111), (62, 133), (300, 122), (301, 144), (302, 155)] 166 (x1 : Int32).toInt = 166; rw [lv_osw (k := 37) (a := 37) c1 (by decide), lv_osw (k := 42) (a := 42) c3 (by decide), lv_osw (k := 43) (a := 43) c4 (by decide), lv_osw (k := 45) (a := 45) c5 (by decide), lv_osw (k := 47) (a := 47) c6 (by decide), lv_osw (k := 60) (a := 60) c8 (by decide), lv_osw (k := 62) (a := 62) c10 (by decide), lv_osw (k := 300) (a := 300) c12 (by decide), lv_osw (k := 301) (a := 301) c14 (by decide), lv_osw (k := 302) (a := 302) c16 (by decide)]; rfl) (by decide) ?_
  refine lv_iload_n hx hb dX12_compute_167 rfl (lv_at hl 2 rfl) ?_
  refine lv_iload_n hx hb dX12_compute_168 rfl (lv_at hl 3 rfl) ?_
  refine lv_icmp_eq (tgt := 176) hx hb dX12_compute_169 (by decide) (fun c18 => ?_) (fun c18 => ?_)
  ·
    replace hf := (if_pos c18).symm.trans hf
    refine lv_iconst (v := 0) hx hb dX12_compute_176 (by decide) ?_
    obtain rfl := Option.some.inj hf
    exact W.iret (v := 0) hx hb hr (fun t ht hW => ⟨⟨0, (), rfl, rfl, by rw [ht]; exact hP, va_K.moved hW.alike hK, hD⟩, hS.F ht⟩) hS.2.2 dX12_compute_177
  ·
    replace hf := (if_neg c18).symm.trans hf
    refine lv_iconst (v := 1) hx hb dX12_compute_172 (by decide) ?_
    refine lv_goto (tgt := 177) hx hb dX12_compute_173 (by decide) ?_
    obtain rfl := Option.some.inj hf
    exact W.iret (v := 1) hx hb hr (fun t ht hW => ⟨⟨1, (), rfl, rfl, by rw [ht]; exact hP, va_K.moved hW.alike hK, hD⟩, hS.F ht⟩) hS.2.2 dX12_compute_177
theorem k_X12_caseOf_fieldLink_RX12_102_SRModel_entryElse_Z : Cond.fieldLink RX12 102 "StatementRules2Model" "entryElse" "[Z" ∈ wzX12_caseOf := List.mem_cons_of_mem _ (List.mem_append_left _ (List.mem_of_getElem? (i := 0) rfl))
theorem i_X12_caseOf_X12 : ∀ w ∈ wsX120, w ∈ wzX12_caseOf := fun _ h => List.mem_cons_of_mem _ (List.mem_append_right _ (List.mem_append_left _ (h)))
theorem k_X12_caseOf_fieldLink_RX12_99_SRModel_entryNext_I : Cond.fieldLink RX12 99 "StatementRules2Model" "entryNext" "[I" ∈ wzX12_caseOf := List.mem_cons_of_mem _ (List.mem_append_left _ (List.mem_of_getElem? (i := 1) rfl))
theorem k_X12_caseOf_fieldLink_RX12_93_SRModel_entryValue_I : Cond.fieldLink RX12 93 "StatementRules2Model" "entryValue" "[I" ∈ wzX12_caseOf := List.mem_cons_of_mem _ (List.mem_append_left _ (List.mem_of_getElem? (i := 2) rfl))
set_option maxHeartbeats 4000000 in
set_option maxRecDepth 100000 in
theorem j_X12_caseOf_5 {p : Program} {e : Env} {s : State} {m : MethodId} {args : Array Value} {below : List Frame} {meth : Method} {c : Code} {A : Nat → Prop} (l : Launch) (dC : Nat → ClassId) (dI : Nat → Nat → Nat) (Q : RQ) (N : Nat) (R : Int32 × RS) (hx : p.tables.exec = Jvm.exec) (hb : c.code = cX12_caseOf) (hr : meth.sig.returnType = (some .int)) (hml : c.maxLocals = 5) (hown : s.vm.findClass RX12 = some m.cls) (hts : ∀ w ∈ wzX12_caseOf, w.before args s = true) (hlocks : meth.locks = false) (hZ : zAMB s) (hA : ∀ q : Nat, s.heap.size ≤ q → A q) (hK : va_K (dC, dI) vwCl (rT Q) s) : ∀ (n9 : Nat), ∀ (σ : RS) (x2 : Int32) (x3 : Int32) (x4 : Int32) (H : Heap) (locs : List Loc) (ls : Array Slot), f_X12_caseOf_5 N n9 σ x2 x3 x4 = some R → va_P (dC, dI) vwCl (rW Q σ) H → va_D A (rW Q σ) → va_S A s.heap H locs → lv_has ls 5 [(0, .ref Q.h0), (2, .int x2), (3, .int x3), (4, .int x4)] → W p l e ({ frames := 1, cells := 0, slots := 0, locals := 60 }) s m args below meth c H locs 0 0 (MQ below (va_Qi (fun (r : Int32) (_ : Unit) => r = R.1) (fun (_ : Unit) (t : State) => zPost dC dI A (rW Q R.2) (rT Q) t) A) args s 0 0 A) (F0 m 5 ls []) := by
  intro n9
  induction n9 with
  | zero => intro σ x2 x3 x4 H locs ls hf; exact absurd hf (by intro h9; cases h9)
  | succ n9 ih =>
    intro σ x2 x3 x4 H locs ls hf hP hD hS hl
    replace hf : b_X12_caseOf_5 N (f_X12_caseOf_5 N n9) σ x2 x3 x4 = some R := hf
    unfold b_X12_caseOf_5 at hf
    refine lv_iload hx hb dX12_caseOf_5 (lv_at hl 3 rfl) ?_
    refine lv_if_lt (tgt := 63) hx hb dX12_caseOf_7 (by decide) (fun c1 => ?_) (fun c1 => ?_)
    ·
      replace hf := (if_pos c1).symm.trans hf
      refine lv_iload_n hx hb dX12_caseOf_63 rfl (lv_at hl 2 rfl) ?_
      obtain rfl := Option.some.inj hf
      exact W.iret (v := x3) hx hb hr (fun t ht hW => ⟨⟨x3, (), rfl, rfl, by rw [ht]; exact hP, va_K.moved hW.alike hK, hD⟩, hS.F ht⟩) hS.2.2 dX12_caseOf_64
    ·
      replace hf := (if_neg c1).symm.trans hf
      refine lv_aload_n hx hb dX12_caseOf_10 rfl (lv_at hl 0 rfl) ?_
      refine rG_28 hx hb hts i_X12_caseOf_X12 hown hK hP (hts (.fieldLink RX12 102 "StatementRules2Model" "entryElse" "[Z") k_X12_caseOf_fieldLink_RX12_102_SRModel_entryElse_Z) dX12_caseOf_11 ?_
      refine lv_iload hx hb dX12_caseOf_14 (lv_at hl 3 rfl) ?_
      obtain ⟨b2, hf⟩ := hf_ite hf
      refine rL_28 (v := (σ.a 28 ((x4 : Int32).toNatClampNeg))) hx hb hK hP b2 dX12_caseOf_16 rfl ?_
      refine lv_if_ne (tgt := 34) hx hb dX12_caseOf_17 (by decide) (fun c3 => ?_) (fun c3 => ?_)
      ·
        replace hf := (if_neg c3).symm.trans hf
        refine lv_aload_n hx hb dX12_caseOf_34 rfl (lv_at hl 0 rfl) ?_
        refine rG_28 hx hb hts i_X12_caseOf_X12 hown hK hP (hts (.fieldLink RX12 102 "StatementRules2Model" "entryElse" "[Z") k_X12_caseOf_fieldLink_RX12_102_SRModel_entryElse_Z) dX12_caseOf_35 ?_
        refine lv_iload hx hb dX12_caseOf_38 (lv_at hl 3 rfl) ?_
        refine rL_28 (v := (σ.a 28 ((x4 : Int32).toNatClampNeg))) hx hb hK hP b2 dX12_caseOf_40 rfl ?_
        refine lv_if_eq (tgt := 49) hx hb dX12_caseOf_41 (by decide) (fun c9 => absurd c9 c3) (fun _ => ?_)
        refine lv_iload hx hb dX12_caseOf_44 (lv_at hl 3 rfl) ?_
        refine lv_goto (tgt := 50) hx hb dX12_caseOf_46 (by decide) ?_
        refine lv_istore_n (lv' := [(3, .int x4), (0, .ref Q.h0), (2, .int x2), (4, .int x4)]) hx hb dX12_caseOf_50 rfl hl (by decide) rfl (fun ls hl => ?_)
        refine lv_aload_n hx hb dX12_caseOf_51 rfl (lv_at hl 1 rfl) ?_
        refine rG_27 hx hb hts i_X12_caseOf_X12 hown hK hP (hts (.fieldLink RX12 99 "StatementRules2Model" "entryNext" "[I") k_X12_caseOf_fieldLink_RX12_99_SRModel_entryNext_I) dX12_caseOf_52 ?_
        refine lv_iload hx hb dX12_caseOf_55 (lv_at hl 3 rfl) ?_
        refine rL_27 (v := (σ.a 27 ((x4 : Int32).toNatClampNeg))) hx hb hK hP b2 dX12_caseOf_57 rfl ?_
        refine lv_istore (lv' := [(4, .int (σ.a 27 ((x4 : Int32).toNatClampNeg))), (3, .int x4), (0, .ref Q.h0), (2, .int x2)]) hx hb dX12_caseOf_58 hl (by decide) rfl (fun ls hl => ?_)
        refine lv_goto (tgt := 5) hx hb dX12_caseOf_60 (by decide) ?_
        exact ih σ x2 x4 (σ.a 27 ((x4 : Int32).toNatClampNeg)) _ _ _ hf hP hD hS (lv_sub hl [2, 3, 1, 0] rfl)
      ·
        replace hf := (if_pos c3).symm.trans hf
        refine lv_aload_n hx hb dX12_caseOf_20 rfl (lv_at hl 0 rfl) ?_
        refine rG_25 hx hb hts i_X12_caseOf_X12 hown hK hP (hts (.fieldLink RX12 93 "StatementRules2Model" "entryValue" "[I") k_X12_caseOf_fieldLink_RX12_93_SRModel_entryValue_I) dX12_caseOf_21 ?_
        refine lv_iload hx hb dX12_caseOf_24 (lv_at hl 3 rfl) ?_
        refine rL_25 (v := (σ.a 25 ((x4 : Int32).toNatClampNeg))) hx hb hK hP b2 dX12_caseOf_26 rfl ?_
        refine lv_iload_n hx hb dX12_caseOf_27 rfl (lv_at hl 1 rfl) ?_
        refine lv_icmp_ne (tgt := 34) hx hb dX12_caseOf_28 (by decide) (fun c5 => ?_) (fun c5 => ?_)
        ·
          replace hf := (if_neg c5).symm.trans hf
          refine lv_aload_n hx hb dX12_caseOf_34 rfl (lv_at hl 0 rfl) ?_
          refine rG_28 hx hb hts i_X12_caseOf_X12 hown hK hP (hts (.fieldLink RX12 102 "StatementRules2Model" "entryElse" "[Z") k_X12_caseOf_fieldLink_RX12_102_SRModel_entryElse_Z) dX12_caseOf_35 ?_
          refine lv_iload hx hb dX12_caseOf_38 (lv_at hl 3 rfl) ?_
          refine rL_28 (v := (σ.a 28 ((x4 : Int32).toNatClampNeg))) hx hb hK hP b2 dX12_caseOf_40 rfl ?_
          refine lv_if_eq (tgt := 49) hx hb dX12_caseOf_41 (by decide) (fun _ => ?_) (fun c9 => absurd c3 c9)
          refine lv_iload_n hx hb dX12_caseOf_49 rfl (lv_at hl 2 rfl) ?_
          refine lv_istore_n (lv' := [(3, .int x3), (0, .ref Q.h0), (2, .int x2), (4, .int x4)]) hx hb dX12_caseOf_50 rfl hl (by decide) rfl (fun ls hl => ?_)
          refine lv_aload_n hx hb dX12_caseOf_51 rfl (lv_at hl 1 rfl) ?_
          refine rG_27 hx hb hts i_X12_caseOf_X12 hown hK hP (hts (.fieldLink RX12 99 "StatementRules2Model" "entryNext" "[I") k_X12_caseOf_fieldLink_RX12_99_SRModel_entryNext_I) dX12_caseOf_52 ?_
          refine lv_iload hx hb dX12_caseOf_55 (lv_at hl 3 rfl) ?_
          refine rL_27 (v := (σ.a 27 ((x4 : Int32).toNatClampNeg))) hx hb hK hP b2 dX12_caseOf_57 rfl ?_
          refine lv_istore (lv' := [(4, .int (σ.a 27 ((x4 : Int32).toNatClampNeg))), (3, .int x3), (0, .ref Q.h0), (2, .int x2)]) hx hb dX12_caseOf_58 hl (by decide) rfl (fun ls hl => ?_)
          refine lv_goto (tgt := 5) hx hb dX12_caseOf_60 (by decide) ?_
          exact ih σ x2 x3 (σ.a 27 ((x4 : Int32).toNatClampNeg)) _ _ _ hf hP hD hS (lv_sub hl [2, 3, 1, 0] rfl)
        ·
          replace hf := (if_pos c5).symm.trans hf
          refine lv_iload hx hb dX12_caseOf_31 (lv_at hl 3 rfl) ?_
          obtain rfl := Option.some.inj hf
          exact W.iret (v := x4) hx hb hr (fun t ht hW => ⟨⟨x4, (), rfl, rfl, by rw [ht]; exact hP, va_K.moved hW.alike hK, hD⟩, hS.F ht⟩) hS.2.2 dX12_caseOf_33
set_option maxHeartbeats 4000000 in
set_option maxRecDepth 100000 in
theorem c_X12_caseOf (l : Launch) (dC : Nat → ClassId) (dI : Nat → Nat → Nat) (sz : Nat) (Q : RQ) (N : Nat) (σ : RS) (x1 : Int32) (x2 : Int32) (R : Int32 × RS) (hf : f_X12_caseOf N σ x1 x2 = some R) : Met l yX12_caseOf wzX12_caseOf ({ frames := 1, cells := 0, slots := 0, locals := 60 }) (va_Pc [.ref Q.h0, .int x1, .int x2] (zPre dC dI sz (rW Q σ) (rT Q))) (va_Qi (fun (r : Int32) (_ : Unit) => r = R.1) (fun (_ : Unit) (t : State) => zPost dC dI (va_A (rW Q σ) sz) (rW Q R.2) (rT Q) t) (va_A (rW Q σ) sz)) 0 0 (va_A (rW Q σ) sz) := by
  refine Met.ofW (cc := cX12_caseOf) (maxL := 5) (ret := (some .int)) (by decide) rfl ?_
  intro p e s m args below meth c s₁ B hml hv
  obtain ⟨rfl, hsz, hZ, hP, hK, hD0⟩ := hv
  have hx := B.exec
  have hb := B.bytes
  have hr := B.returns
  have hts := atoms_spec (ws := wzX12_caseOf) B.pre
  have hown : s.vm.findClass RX12 = some m.cls := findClass_of_methodNamed B.named
  have hlocks := B.notSynchronized
  subst hsz
  have hD := hD0.self (sz := s.heap.size)
  generalize hAe : va_A (rW Q σ) s.heap.size = A at hD ⊢
  have hA : ∀ q : Nat, s.heap.size ≤ q → A q := fun q h => by rw [← hAe]; exact Or.inr h
  have hS : va_S A s.heap s.heap [] := va_S.rf
  have hl := lv_entry ([.ref Q.h0, .int x1, .int x2]) (n := 5) (Nat.le_of_ble_eq_true rfl)
  rw [lg_entry_eq]
  generalize (lg_sl ([.ref Q.h0, .int x1, .int x2]) ++ List.replicate (5 - (lg_sl ([.ref Q.h0, .int x1, .int x2])).length) Slot.unset).toArray = ls at hl ⊢
  have hl : lv_has ls 5 [(0, .ref Q.h0), (1, .int x1), (2, .int x2)] := hl
  unfold f_X12_caseOf at hf
  refine lv_iconst (v := (-1)) hx hb dX12_caseOf_0 (by decide) ?_
  refine lv_istore_n (lv' := [(3, .int (-1)), (0, .ref Q.h0), (1, .int x1), (2, .int x2)]) hx hb dX12_caseOf_1 rfl hl (by decide) rfl (fun ls hl => ?_)
  refine lv_iload_n hx hb dX12_caseOf_2 rfl (lv_at hl 2 rfl) ?_
  refine lv_istore (lv' := [(4, .int x1), (3, .int (-1)), (0, .ref Q.h0), (1, .int x1), (2, .int x2)]) hx hb dX12_caseOf_3 hl (by decide) rfl (fun ls hl => ?_)
  exact j_X12_caseOf_5 l dC dI Q N R hx hb hr hml hown hts hlocks hZ hA hK N σ x2 (-1) x1 _ _ _ hf hP hD hS (lv_sub hl [2, 4, 1, 0] rfl)
theorem k_X12_goOn_fieldLink_RX12_586_SRModel_recs_I : Cond.fieldLink RX12 586 "StatementRules2Model" "recs" "I" ∈ wzX12_goOn := List.mem_cons_of_mem _ (List.mem_append_left _ (List.mem_of_getElem? (i := 0) rfl))
theorem i_X12_goOn_X12 : ∀ w ∈ wsX120, w ∈ wzX12_goOn := fun _ h => List.mem_cons_of_mem _ (List.mem_append_right _ (List.mem_append_left _ (h)))
theorem k_X12_goOn_fieldLink_RX12_111_SRModel_tryEnd_I : Cond.fieldLink RX12 111 "StatementRules2Model" "tryEnd" "[I" ∈ wzX12_goOn := List.mem_cons_of_mem _ (List.mem_append_left _ (List.mem_of_getElem? (i := 1) rfl))
theorem k_X12_goOn_fieldLink_RX12_246_SRModel_ra_I : Cond.fieldLink RX12 246 "StatementRules2Model" "ra" "[I" ∈ wzX12_goOn := List.mem_cons_of_mem _ (List.mem_append_left _ (List.mem_of_getElem? (i := 2) rfl))
theorem k_X12_goOn_fieldLink_RX12_618_SRModel_pc_I : Cond.fieldLink RX12 618 "StatementRules2Model" "pc" "I" ∈ wzX12_goOn := List.mem_cons_of_mem _ (List.mem_append_left _ (List.mem_of_getElem? (i := 3) rfl))
set_option maxHeartbeats 4000000 in
set_option maxRecDepth 100000 in
theorem c_X12_goOn (l : Launch) (dC : Nat → ClassId) (dI : Nat → Nat → Nat) (sz : Nat) (Q : RQ) (N : Nat) (σ : RS) (x1 : Int32) (R : RS) (hf : f_X12_goOn N σ x1 = some R) : Met l yX12_goOn wzX12_goOn ({ frames := 2, cells := 0, slots := 0, locals := 120 }) (va_Pc [.ref Q.h0, .int x1] (zPre dC dI sz (rW Q σ) (rT Q))) (va_Qv (fun (_ : Unit) => True) (fun (_ : Unit) (t : State) => zPost dC dI (va_A (rW Q σ) sz) (rW Q R) (rT Q) t) (va_A (rW Q σ) sz)) 0 0 (va_A (rW Q σ) sz) := by
  refine Met.ofW (cc := cX12_goOn) (maxL := 2) (ret := none) (by decide) rfl ?_
  intro p e s m args below meth c s₁ B hml hv
  obtain ⟨rfl, hsz, hZ, hP, hK, hD0⟩ := hv
  have hx := B.exec
  have hb := B.bytes
  have hr := B.returns
  have hts := atoms_spec (ws := wzX12_goOn) B.pre
  have hown : s.vm.findClass RX12 = some m.cls := findClass_of_methodNamed B.named
  have hlocks := B.notSynchronized
  subst hsz
  have hD := hD0.self (sz := s.heap.size)
  generalize hAe : va_A (rW Q σ) s.heap.size = A at hD ⊢
  have hA : ∀ q : Nat, s.heap.size ≤ q → A q := fun q h => by rw [← hAe]; exact Or.inr h
  have hS : va_S A s.heap s.heap [] := va_S.rf
  have hl := lv_entry ([.ref Q.h0, .int x1]) (n := 2) (Nat.le_of_ble_eq_true rfl)
  rw [lg_entry_eq]
  generalize (lg_sl ([.ref Q.h0, .int x1]) ++ List.replicate (2 - (lg_sl ([.ref Q.h0, .int x1])).length) Slot.unset).toArray = ls at hl ⊢
  have hl : lv_has ls 2 [(0, .ref Q.h0), (1, .int x1)] := hl
  unfold f_X12_goOn at hf
  refine lv_aload_n hx hb dX12_goOn_0 rfl (lv_at hl 0 rfl) ?_
  refine lv_iload_n hx hb dX12_goOn_1 rfl (lv_at hl 1 rfl) ?_
  obtain ⟨p1, hcp1, hf⟩ := hf_bind hf
  have hFc := r_free hD hS hA
  refine va_calli (va_runV (As := [.int x1]) (rest := []) ⟨hx, hb, hml, hown, hts⟩ (c_X12_finals l dC dI _ Q N σ x1 p1 hcp1) (cwV 1 hts hX12_goOn_X12_finals_v630 rfl rfl rfl (by decide +kernel) ⟨Nat.le_of_ble_eq_true rfl, Nat.le_of_ble_eq_true rfl⟩) ⟨zPre.blind, va_recv hK hP (ci := 11) (q0 := 0) rfl rfl, zPre.go hZ hP hK hD⟩ rfl rfl hl.1 rfl (lv_room (Nat.le_of_ble_eq_true rfl)) dX12_goOn_2 ⟨Nat.le_of_ble_eq_true rfl, Nat.le_of_ble_eq_true rfl⟩) hS (fun q _ h => hFc q h) hFc (fun r2 u9 t9 H1 locs ht hvm hw hB hz1 hk1 hS => ?_)
  obtain ⟨hP, hK1, hD1⟩ := hB
  rw [ht] at hP
  have hD := hD1.weaken (fun _ _ _ h => hFc _ h)
  generalize H1 = H at hP hS ⊢
  obtain rfl : r2 = p1.1 := hw
  refine lv_if_ne (tgt := 33) hx hb dX12_goOn_5 (by decide) (fun c3 => ?_) (fun c3 => ?_)
  ·
    replace hf := (if_neg c3).symm.trans hf
    obtain rfl := Option.some.inj hf
    exact W.vret hx hb hr (fun t ht hW => ⟨⟨(), rfl, trivial, by rw [ht]; exact hP, va_K.moved hW.alike hK, hD⟩, hS.F ht⟩) hS.2.2 dX12_goOn_33
  ·
    replace hf := (if_pos c3).symm.trans hf
    refine lv_aload_n hx hb dX12_goOn_8 rfl (lv_at hl 0 rfl) ?_
    refine lv_dup hx hb dX12_goOn_9 rfl ?_
    refine rG_99 (v := (p1.2.i 99)) hx hb hts i_X12_goOn_X12 hown hK hP (hts (.fieldLink RX12 586 "StatementRules2Model" "recs" "I") k_X12_goOn_fieldLink_RX12_586_SRModel_recs_I) dX12_goOn_10 rfl ?_
    refine lv_iconst (v := 1) hx hb dX12_goOn_13 (by decide) ?_
    refine lv_isub hx hb dX12_goOn_14 ?_
    refine rP_99 hx hb hts i_X12_goOn_X12 hown hK hP hD hS (hts (.fieldLink RX12 586 "StatementRules2Model" "recs" "I") k_X12_goOn_fieldLink_RX12_586_SRModel_recs_I) dX12_goOn_15 (fun H locs hP hD hS => ?_)
    refine lv_aload_n hx hb dX12_goOn_18 rfl (lv_at hl 0 rfl) ?_
    refine lv_aload_n hx hb dX12_goOn_19 rfl (lv_at hl 0 rfl) ?_
    refine rG_32 hx hb hts i_X12_goOn_X12 hown hK hP (hts (.fieldLink RX12 111 "StatementRules2Model" "tryEnd" "[I") k_X12_goOn_fieldLink_RX12_111_SRModel_tryEnd_I) dX12_goOn_20 ?_
    refine lv_aload_n hx hb dX12_goOn_23 rfl (lv_at hl 0 rfl) ?_
    refine rG_101 hx hb hts i_X12_goOn_X12 hown hK hP (hts (.fieldLink RX12 246 "StatementRules2Model" "ra" "[I") k_X12_goOn_fieldLink_RX12_246_SRModel_ra_I) dX12_goOn_24 ?_
    refine lv_iload_n hx hb dX12_goOn_27 rfl (lv_at hl 1 rfl) ?_
    obtain ⟨b4, hf⟩ := hf_ite hf
    refine rL_101 (v := (p1.2.a 101 ((x1 : Int32).toNatClampNeg))) hx hb hK hP b4 dX12_goOn_28 rfl ?_
    obtain ⟨b5, hf⟩ := hf_ite hf
    refine rL_32 (v := (p1.2.a 32 (((p1.2.a 101 ((x1 : Int32).toNatClampNeg)) : Int32).toNatClampNeg))) hx hb hK hP b5 dX12_goOn_29 rfl ?_
    refine rP_92 hx hb hts i_X12_goOn_X12 hown hK hP hD hS (hts (.fieldLink RX12 618 "StatementRules2Model" "pc" "I") k_X12_goOn_fieldLink_RX12_618_SRModel_pc_I) dX12_goOn_30 (fun H locs hP hD hS => ?_)
    obtain rfl := Option.some.inj hf
    exact W.vret hx hb hr (fun t ht hW => ⟨⟨(), rfl, trivial, by rw [ht]; exact hP, va_K.moved hW.alike hK, hD⟩, hS.F ht⟩) hS.2.2 dX12_goOn_33
theorem k_X12_others_fieldLink_RX12_586_SRModel_recs_I : Cond.fieldLink RX12 586 "StatementRules2Model" "recs" "I" ∈ wzX12_others := List.mem_cons_of_mem _ (List.mem_append_left _ (List.mem_of_getElem? (i := 0) rfl))
theorem i_X12_others_X12 : ∀ w ∈ wsX120, w ∈ wzX12_others := fun _ h => List.mem_cons_of_mem _ (List.mem_append_right _ (List.mem_append_left _ (h)))
theorem k_X12_others_fieldLink_RX12_84_SRModel_op_I : Cond.fieldLink RX12 84 "StatementRules2Model" "op" "[I" ∈ wzX12_others := List.mem_cons_of_mem _ (List.mem_append_left _ (List.mem_of_getElem? (i := 1) rfl))
theorem k_X12_others_fieldLink_RX12_621_SRModel_waiting_I : Cond.fieldLink RX12 621 "StatementRules2Model" "waiting" "I" ∈ wzX12_others := List.mem_cons_of_mem _ (List.mem_append_left _ (List.mem_of_getElem? (i := 2) rfl))
theorem k_X12_others_fieldLink_RX12_589_SRModel_high_I : Cond.fieldLink RX12 589 "StatementRules2Model" "high" "I" ∈ wzX12_others := List.mem_cons_of_mem _ (List.mem_append_left _ (List.mem_of_getElem? (i := 3) rfl))
theorem k_X12_others_fieldLink_RX12_240_SRModel_waits_I : Cond.fieldLink RX12 240 "StatementRules2Model" "waits" "[I" ∈ wzX12_others := List.mem_cons_of_mem _ (List.mem_append_left _ (List.mem_of_getElem? (i := 4) rfl))
theorem k_X12_others_fieldLink_RX12_234_SRModel_vs_I : Cond.fieldLink RX12 234 "StatementRules2Model" "vs" "[I" ∈ wzX12_others := List.mem_cons_of_mem _ (List.mem_append_left _ (List.mem_of_getElem? (i := 5) rfl))
theorem k_X12_others_fieldLink_RX12_249_SRModel_rb_I : Cond.fieldLink RX12 249 "StatementRules2Model" "rb" "[I" ∈ wzX12_others := List.mem_cons_of_mem _ (List.mem_append_left _ (List.mem_of_getElem? (i := 6) rfl))
theorem k_X12_others_fieldLink_RX12_252_SRModel_rc_I : Cond.fieldLink RX12 252 "StatementRules2Model" "rc" "[I" ∈ wzX12_others := List.mem_cons_of_mem _ (List.mem_append_left _ (List.mem_of_getElem? (i := 7) rfl))
theorem k_X12_others_fieldLink_RX12_213_SRModel_vals_I : Cond.fieldLink RX12 213 "StatementRules2Model" "vals" "[I" ∈ wzX12_others := List.mem_cons_of_mem _ (List.mem_append_left _ (List.mem_of_getElem? (i := 8) rfl))
theorem k_X12_others_fieldLink_RX12_90_SRModel_iy_I : Cond.fieldLink RX12 90 "StatementRules2Model" "iy" "[I" ∈ wzX12_others := List.mem_cons_of_mem _ (List.mem_append_left _ (List.mem_of_getElem? (i := 9) rfl))
theorem k_X12_others_fieldLink_RX12_618_SRModel_pc_I : Cond.fieldLink RX12 618 "StatementRules2Model" "pc" "I" ∈ wzX12_others := List.mem_cons_of_mem _ (List.mem_append_left _ (List.mem_of_getElem? (i := 10) rfl))
theorem k_X12_others_fieldLink_RX12_246_SRModel_ra_I : Cond.fieldLink RX12 246 "StatementRules2Model" "ra" "[I" ∈ wzX12_others := List.mem_cons_of_mem _ (List.mem_append_left _ (List.mem_of_getElem? (i := 11) rfl))
theorem k_X12_others_fieldLink_RX12_258_SRModel_rHow_I : Cond.fieldLink RX12 258 "StatementRules2Model" "rHow" "[I" ∈ wzX12_others := List.mem_cons_of_mem _ (List.mem_append_left _ (List.mem_of_getElem? (i := 12) rfl))
theorem k_X12_others_fieldLink_RX12_597_SRModel_how_I : Cond.fieldLink RX12 597 "StatementRules2Model" "how" "I" ∈ wzX12_others := List.mem_cons_of_mem _ (List.mem_append_left _ (List.mem_of_getElem? (i := 13) rfl))
theorem k_X12_others_fieldLink_RX12_261_SRModel_rTo_I : Cond.fieldLink RX12 261 "StatementRules2Model" "rTo" "[I" ∈ wzX12_others := List.mem_cons_of_mem _ (List.mem_append_left _ (List.mem_of_getElem? (i := 14) rfl))
theorem k_X12_others_fieldLink_RX12_609_SRModel_goTo_I : Cond.fieldLink RX12 609 "StatementRules2Model" "goTo" "I" ∈ wzX12_others := List.mem_cons_of_mem _ (List.mem_append_left _ (List.mem_of_getElem? (i := 15) rfl))
theorem k_X12_others_fieldLink_RX12_264_SRModel_rDepth_I : Cond.fieldLink RX12 264 "StatementRules2Model" "rDepth" "[I" ∈ wzX12_others := List.mem_cons_of_mem _ (List.mem_append_left _ (List.mem_of_getElem? (i := 16) rfl))
theorem k_X12_others_fieldLink_RX12_612_SRModel_goDepth_I : Cond.fieldLink RX12 612 "StatementRules2Model" "goDepth" "I" ∈ wzX12_others := List.mem_cons_of_mem _ (List.mem_append_left _ (List.mem_of_getElem? (i := 17) rfl))
theorem k_X12_others_fieldLink_RX12_267_SRModel_rValue_I : Cond.fieldLink RX12 267 "StatementRules2Model" "rValue" "[I" ∈ wzX12_others := List.mem_cons_of_mem _ (List.mem_append_left _ (List.mem_of_getElem? (i := 18) rfl))
theorem k_X12_others_fieldLink_RX12_615_SRModel_value_I : Cond.fieldLink RX12 615 "StatementRules2Model" "value" "I" ∈ wzX12_others := List.mem_cons_of_mem _ (List.mem_append_left _ (List.mem_of_getElem? (i := 19) rfl))
theorem k_X12_others_fieldLink_RX12_270_SRModel_rThing_I : Cond.fieldLink RX12 270 "StatementRules2Model" "rThing" "[I" ∈ wzX12_others := List.mem_cons_of_mem _ (List.mem_append_left _ (List.mem_of_getElem? (i := 20) rfl))
theorem k_X12_others_fieldLink_RX12_595_SRModel_thing_I : Cond.fieldLink RX12 595 "StatementRules2Model" "thing" "I" ∈ wzX12_others := List.mem_cons_of_mem _ (List.mem_append_left _ (List.mem_of_getElem? (i := 21) rfl))
theorem k_X12_others_fieldLink_RX12_600_SRModel_openMany_I : Cond.fieldLink RX12 600 "StatementRules2Model" "openMany" "I" ∈ wzX12_others := List.mem_cons_of_mem _ (List.mem_append_left _ (List.mem_of_getElem? (i := 22) rfl))
theorem k_X12_others_fieldLink_RX12_24_SRModel_opening_I : Cond.fieldLink RX12 24 "StatementRules2Model" "opening" "[I" ∈ wzX12_others := List.mem_cons_of_mem _ (List.mem_append_left _ (List.mem_of_getElem? (i := 23) rfl))
theorem k_X12_others_fieldLink_RX12_20_SRModel_isNull_Z : Cond.fieldLink RX12 20 "StatementRules2Model" "isNull" "[Z" ∈ wzX12_others := List.mem_cons_of_mem _ (List.mem_append_left _ (List.mem_of_getElem? (i := 24) rfl))
theorem k_X12_others_fieldLink_RX12_237_SRModel_openOf_I : Cond.fieldLink RX12 237 "StatementRules2Model" "openOf" "[I" ∈ wzX12_others := List.mem_cons_of_mem _ (List.mem_append_left _ (List.mem_of_getElem? (i := 25) rfl))
set_option maxHeartbeats 4000000 in
set_option maxRecDepth 100000 in
theorem j_X12_others_85 {p : Program} {e : Env} {s : State} {m : MethodId} {args : Array Value} {below : List Frame} {meth : Method} {c : Code} {A : Nat → Prop} (l : Launch) (dC : Nat → ClassId) (dI : Nat → Nat → Nat) (Q : RQ) (N : Nat) (R : RS) (hx : p.tables.exec = Jvm.exec) (hb : c.code = cX12_others) (hr : meth.sig.returnType = none) (hml : c.maxLocals = 6) (hown : s.vm.findClass RX12 = some m.cls) (hts : ∀ w ∈ wzX12_others, w.before args s = true) (hlocks : meth.locks = false) (hZ : zAMB s) (hA : ∀ q : Nat, s.heap.size ≤ q → A q) (hK : va_K (dC, dI) vwCl (rT Q) s) : ∀ (n9 : Nat), ∀ (σ : RS) (x2 : Int32) (x4 : Int32) (x5 : Int32) (H : Heap) (locs : List Loc) (ls : Array Slot), f_X12_others_85 N n9 σ x2 x4 x5 = some R → va_P (dC, dI) vwCl (rW Q σ) H → va_D A (rW Q σ) → va_S A s.heap H locs → lv_has ls 6 [(0, .ref Q.h0), (2, .int x2), (4, .int x4), (5, .int x5)] → W p l e ({ frames := 4, cells := 0, slots := 0, locals := 240 }) s m args below meth c H locs 0 0 (MQ below (va_Qv (fun (_ : Unit) => True) (fun (_ : Unit) (t : State) => zPost dC dI A (rW Q R) (rT Q) t) A) args s 0 0 A) (F0 m 85 ls []) := by
  intro n9
  induction n9 with
  | zero => intro σ x2 x4 x5 H locs ls hf; exact absurd hf (by intro h9; cases h9)
  | succ n9 ih =>
    intro σ x2 x4 x5 H locs ls hf hP hD hS hl
    replace hf : b_X12_others_85 N (f_X12_others_85 N n9) σ x2 x4 x5 = some R := hf
    unfold b_X12_others_85 at hf
    refine lv_iload hx hb dX12_others_85 (lv_at hl 3 rfl) ?_
    refine lv_iload_n hx hb dX12_others_87 rfl (lv_at hl 1 rfl) ?_
    refine lv_icmp_ge (tgt := 130) hx hb dX12_others_88 (by decide) (fun c3 => ?_) (fun c3 => ?_)
    ·
      replace hf := (if_pos c3).symm.trans hf
      refine lv_aload_n hx hb dX12_others_130 rfl (lv_at hl 0 rfl) ?_
      refine lv_dup hx hb dX12_others_131 rfl ?_
      refine rG_93 (v := (σ.i 93)) hx hb hts i_X12_others_X12 hown hK hP (hts (.fieldLink RX12 589 "StatementRules2Model" "high" "I") k_X12_others_fieldLink_RX12_589_SRModel_high_I) dX12_others_132 rfl ?_
      refine lv_iload_n hx hb dX12_others_135 rfl (lv_at hl 1 rfl) ?_
      refine lv_isub hx hb dX12_others_136 ?_
      refine rP_93 hx hb hts i_X12_others_X12 hown hK hP hD hS (hts (.fieldLink RX12 589 "StatementRules2Model" "high" "I") k_X12_others_fieldLink_RX12_589_SRModel_high_I) dX12_others_137 (fun H locs hP hD hS => ?_)
      refine lv_aload_n hx hb dX12_others_140 rfl (lv_at hl 0 rfl) ?_
      refine lv_iconst (v := 2) hx hb dX12_others_141 (by decide) ?_
      refine lv_iload hx hb dX12_others_142 (lv_at hl 2 rfl) ?_
      refine lv_iload hx hb dX12_others_144 (lv_at hl 2 rfl) ?_
      refine lv_aload_n hx hb dX12_others_146 rfl (lv_at hl 0 rfl) ?_
      refine rG_97 (v := (σ.i 97)) hx hb hts i_X12_others_X12 hown hK hP (hts (.fieldLink RX12 621 "StatementRules2Model" "waiting" "I") k_X12_others_fieldLink_RX12_621_SRModel_waiting_I) dX12_others_147 rfl ?_
      obtain ⟨p4, hcp4, hf⟩ := hf_bind hf
      have hFc := r_free hD hS hA
      refine va_calli (va_runV (As := [.int 2, .int x4, .int x4, .int (σ.i 97)]) (rest := []) ⟨hx, hb, hml, hown, hts⟩ (c_X12_record l dC dI _ Q N (RS.setI σ 93 ((σ.i 93) - x2)) 2 x4 x4 (σ.i 97) p4 hcp4) (cwV 4 hts hX12_others_X12_record_v658 rfl rfl rfl (by decide +kernel) ⟨Nat.le_of_ble_eq_true rfl, Nat.le_of_ble_eq_true rfl⟩) ⟨zPre.blind, va_recv hK hP (ci := 11) (q0 := 0) rfl rfl, zPre.go hZ hP hK hD⟩ rfl rfl hl.1 rfl (lv_room (Nat.le_of_ble_eq_true rfl)) dX12_others_150 ⟨Nat.le_of_ble_eq_true rfl, Nat.le_of_ble_eq_true rfl⟩) hS (fun q _ h => hFc q h) hFc (fun r5 u9 t9 H1 locs ht hvm hw hB hz1 hk1 hS => ?_)
      obtain ⟨hP, hK1, hD1⟩ := hB
      rw [ht] at hP
      have hD := hD1.weaken (fun _ _ _ h => hFc _ h)
      generalize H1 = H at hP hS ⊢
      obtain rfl : r5 = p4.1 := hw
      refine lv_pop hx hb dX12_others_153 rfl ?_
      refine lv_goto (tgt := 441) hx hb dX12_others_154 (by decide) ?_
      obtain rfl := Option.some.inj hf
      exact W.vret hx hb hr (fun t ht hW => ⟨⟨(), rfl, trivial, by rw [ht]; exact hP, va_K.moved hW.alike hK, hD⟩, hS.F ht⟩) hS.2.2 dX12_others_441
    ·
      replace hf := (if_neg c3).symm.trans hf
      refine lv_aload_n hx hb dX12_others_91 rfl (lv_at hl 0 rfl) ?_
      refine rG_98 hx hb hts i_X12_others_X12 hown hK hP (hts (.fieldLink RX12 240 "StatementRules2Model" "waits" "[I") k_X12_others_fieldLink_RX12_240_SRModel_waits_I) dX12_others_92 ?_
      refine lv_aload_n hx hb dX12_others_95 rfl (lv_at hl 0 rfl) ?_
      refine rG_97 (v := (σ.i 97)) hx hb hts i_X12_others_X12 hown hK hP (hts (.fieldLink RX12 621 "StatementRules2Model" "waiting" "I") k_X12_others_fieldLink_RX12_621_SRModel_waiting_I) dX12_others_96 rfl ?_
      refine lv_aload_n hx hb dX12_others_99 rfl (lv_at hl 0 rfl) ?_
      refine rG_94 hx hb hts i_X12_others_X12 hown hK hP (hts (.fieldLink RX12 234 "StatementRules2Model" "vs" "[I") k_X12_others_fieldLink_RX12_234_SRModel_vs_I) dX12_others_100 ?_
      refine lv_aload_n hx hb dX12_others_103 rfl (lv_at hl 0 rfl) ?_
      refine rG_93 (v := (σ.i 93)) hx hb hts i_X12_others_X12 hown hK hP (hts (.fieldLink RX12 589 "StatementRules2Model" "high" "I") k_X12_others_fieldLink_RX12_589_SRModel_high_I) dX12_others_104 rfl ?_
      refine lv_iload_n hx hb dX12_others_107 rfl (lv_at hl 1 rfl) ?_
      refine lv_isub hx hb dX12_others_108 ?_
      refine lv_iload hx hb dX12_others_109 (lv_at hl 3 rfl) ?_
      refine lv_iadd hx hb dX12_others_111 ?_
      obtain ⟨b6, hf⟩ := hf_ite hf
      refine rL_94 (v := (σ.a 94 (((((σ.i 93) - x2) + x5) : Int32).toNatClampNeg))) hx hb hK hP b6 dX12_others_112 rfl ?_
      obtain ⟨b7, hf⟩ := hf_ite hf
      refine rS_98 hx hb hK hP hD hS b7 dX12_others_113 (fun H locs hP hD hS => ?_)
      refine lv_aload_n hx hb dX12_others_114 rfl (lv_at hl 0 rfl) ?_
      refine lv_dup hx hb dX12_others_115 rfl ?_
      refine rG_97 (v := (σ.i 97)) hx hb hts i_X12_others_X12 hown hK hP (hts (.fieldLink RX12 621 "StatementRules2Model" "waiting" "I") k_X12_others_fieldLink_RX12_621_SRModel_waiting_I) dX12_others_116 rfl ?_
      refine lv_iconst (v := 1) hx hb dX12_others_119 (by decide) ?_
      refine lv_iadd hx hb dX12_others_120 ?_
      refine rP_97 hx hb hts i_X12_others_X12 hown hK hP hD hS (hts (.fieldLink RX12 621 "StatementRules2Model" "waiting" "I") k_X12_others_fieldLink_RX12_621_SRModel_waiting_I) dX12_others_121 (fun H locs hP hD hS => ?_)
      refine lv_iinc (v := (x5 + 1)) (lv' := [(5, .int (x5 + 1)), (0, .ref Q.h0), (2, .int x2), (4, .int x4)]) hx hb dX12_others_124 hl (k := 3) rfl rfl (by decide) rfl (fun ls hl => ?_)
      refine lv_goto (tgt := 85) hx hb dX12_others_127 (by decide) ?_
      exact ih (RS.setI (RS.setA σ 98 (((σ.i 97) : Int32).toNatClampNeg) (σ.a 94 (((((σ.i 93) - x2) + x5) : Int32).toNatClampNeg))) 97 ((σ.i 97) + 1)) x2 x4 (x5 + 1) _ _ _ hf hP hD hS (lv_sub hl [1, 2, 3, 0] rfl)
set_option maxHeartbeats 4000000 in
set_option maxRecDepth 100000 in
theorem c_X12_others (l : Launch) (dC : Nat → ClassId) (dI : Nat → Nat → Nat) (sz : Nat) (Q : RQ) (N : Nat) (σ : RS) (x1 : Int32) (x2 : Int32) (R : RS) (hf : f_X12_others N σ x1 x2 = some R) : Met l yX12_others wzX12_others ({ frames := 4, cells := 0, slots := 0, locals := 240 }) (va_Pc [.ref Q.h0, .int x1, .int x2] (zPre dC dI sz (rW Q σ) (rT Q))) (va_Qv (fun (_ : Unit) => True) (fun (_ : Unit) (t : State) => zPost dC dI (va_A (rW Q σ) sz) (rW Q R) (rT Q) t) (va_A (rW Q σ) sz)) 0 0 (va_A (rW Q σ) sz) := by
  refine Met.ofW (cc := cX12_others) (maxL := 6) (ret := none) (by decide) rfl ?_
  intro p e s m args below meth c s₁ B hml hv
  obtain ⟨rfl, hsz, hZ, hP, hK, hD0⟩ := hv
  have hx := B.exec
  have hb := B.bytes
  have hr := B.returns
  have hts := atoms_spec (ws := wzX12_others) B.pre
  have hown : s.vm.findClass RX12 = some m.cls := findClass_of_methodNamed B.named
  have hlocks := B.notSynchronized
  subst hsz
  have hD := hD0.self (sz := s.heap.size)
  generalize hAe : va_A (rW Q σ) s.heap.size = A at hD ⊢
  have hA : ∀ q : Nat, s.heap.size ≤ q → A q := fun q h => by rw [← hAe]; exact Or.inr h
  have hS : va_S A s.heap s.heap [] := va_S.rf
  have hl := lv_entry ([.ref Q.h0, .int x1, .int x2]) (n := 6) (Nat.le_of_ble_eq_true rfl)
  rw [lg_entry_eq]
  generalize (lg_sl ([.ref Q.h0, .int x1, .int x2]) ++ List.replicate (6 - (lg_sl ([.ref Q.h0, .int x1, .int x2])).length) Slot.unset).toArray = ls at hl ⊢
  have hl : lv_has ls 6 [(0, .ref Q.h0), (1, .int x1), (2, .int x2)] := hl
  unfold f_X12_others at hf
  refine lv_aload_n hx hb dX12_others_0 rfl (lv_at hl 0 rfl) ?_
  refine rG_99 (v := (σ.i 99)) hx hb hts i_X12_others_X12 hown hK hP (hts (.fieldLink RX12 586 "StatementRules2Model" "recs" "I") k_X12_others_fieldLink_RX12_586_SRModel_recs_I) dX12_others_1 rfl ?_
  refine lv_iconst (v := 1) hx hb dX12_others_4 (by decide) ?_
  refine lv_isub hx hb dX12_others_5 ?_
  refine lv_istore_n (lv' := [(3, .int ((σ.i 99) - 1)), (0, .ref Q.h0), (1, .int x1), (2, .int x2)]) hx hb dX12_others_6 rfl hl (by decide) rfl (fun ls hl => ?_)
  refine lv_aload_n hx hb dX12_others_7 rfl (lv_at hl 1 rfl) ?_
  refine rG_21 hx hb hts i_X12_others_X12 hown hK hP (hts (.fieldLink RX12 84 "StatementRules2Model" "op" "[I") k_X12_others_fieldLink_RX12_84_SRModel_op_I) dX12_others_8 ?_
  refine lv_iload_n hx hb dX12_others_11 rfl (lv_at hl 2 rfl) ?_
  obtain ⟨b1, hf⟩ := hf_ite hf
  refine rL_21 (v := (σ.a 21 ((x1 : Int32).toNatClampNeg))) hx hb hK hP b1 dX12_others_12 rfl ?_
  by_cases c2 : (σ.a 21 ((x1 : Int32).toNatClampNeg)) = 23
  ·
    replace hf := (if_pos c2).symm.trans hf
    refine lv_tableIn (off := 63) (tgt := 76) hx hb dX12_others_13 (by rw [c2]; decide) (by rw [c2]; decide) (by rw [c2]; decide) (by decide) ?_
    refine lv_aload_n hx hb dX12_others_76 rfl (lv_at hl 1 rfl) ?_
    refine rG_97 (v := (σ.i 97)) hx hb hts i_X12_others_X12 hown hK hP (hts (.fieldLink RX12 621 "StatementRules2Model" "waiting" "I") k_X12_others_fieldLink_RX12_621_SRModel_waiting_I) dX12_others_77 rfl ?_
    refine lv_istore (lv' := [(4, .int (σ.i 97)), (3, .int ((σ.i 99) - 1)), (0, .ref Q.h0), (1, .int x1), (2, .int x2)]) hx hb dX12_others_80 hl (by decide) rfl (fun ls hl => ?_)
    refine lv_iconst (v := 0) hx hb dX12_others_82 (by decide) ?_
    refine lv_istore (lv' := [(5, .int 0), (4, .int (σ.i 97)), (3, .int ((σ.i 99) - 1)), (0, .ref Q.h0), (1, .int x1), (2, .int x2)]) hx hb dX12_others_83 hl (by decide) rfl (fun ls hl => ?_)
    exact j_X12_others_85 l dC dI Q N R hx hb hr hml hown hts hlocks hZ hA hK N σ x2 (σ.i 97) 0 _ _ _ hf hP hD hS (lv_sub hl [3, 5, 1, 0] rfl)
  replace hf := (if_neg c2).symm.trans hf
  by_cases c8 : (σ.a 21 ((x1 : Int32).toNatClampNeg)) = 24
  ·
    replace hf := (if_pos c8).symm.trans hf
    refine lv_tableIn (off := 144) (tgt := 157) hx hb dX12_others_13 (by rw [c8]; decide) (by rw [c8]; decide) (by rw [c8]; decide) (by decide) ?_
    refine lv_aload_n hx hb dX12_others_157 rfl (lv_at hl 1 rfl) ?_
    refine rG_102 hx hb hts i_X12_others_X12 hown hK hP (hts (.fieldLink RX12 249 "StatementRules2Model" "rb" "[I") k_X12_others_fieldLink_RX12_249_SRModel_rb_I) dX12_others_158 ?_
    refine lv_iload_n hx hb dX12_others_161 rfl (lv_at hl 0 rfl) ?_
    obtain ⟨b9, hf⟩ := hf_ite hf
    refine rL_102 (v := (σ.a 102 ((((σ.i 99) - 1) : Int32).toNatClampNeg))) hx hb hK hP b9 dX12_others_162 rfl ?_
    refine lv_aload_n hx hb dX12_others_163 rfl (lv_at hl 1 rfl) ?_
    refine rG_103 hx hb hts i_X12_others_X12 hown hK hP (hts (.fieldLink RX12 252 "StatementRules2Model" "rc" "[I") k_X12_others_fieldLink_RX12_252_SRModel_rc_I) dX12_others_164 ?_
    refine lv_iload_n hx hb dX12_others_167 rfl (lv_at hl 0 rfl) ?_
    refine rL_103 (v := (σ.a 103 ((((σ.i 99) - 1) : Int32).toNatClampNeg))) hx hb hK hP b9 dX12_others_168 rfl ?_
    refine lv_icmp_ne (tgt := 180) hx hb dX12_others_169 (by decide) (fun c10 => ?_) (fun c10 => ?_)
    ·
      replace hf := (if_neg c10).symm.trans hf
      refine lv_aload_n hx hb dX12_others_180 rfl (lv_at hl 1 rfl) ?_
      obtain ⟨p11, hcp11, hf⟩ := hf_bind hf
      have hFc := r_free hD hS hA
      refine va_callv (va_runV (As := []) (rest := []) ⟨hx, hb, hml, hown, hts⟩ (c_X12_step l dC dI _ Q N σ p11 hcp11) (cwV 0 hts hX12_others_X12_step_v642 rfl rfl rfl (by decide +kernel) ⟨Nat.le_of_ble_eq_true rfl, Nat.le_of_ble_eq_true rfl⟩) ⟨zPre.blind, va_recv hK hP (ci := 11) (q0 := 0) rfl rfl, zPre.go hZ hP hK hD⟩ rfl rfl hl.1 rfl (lv_room (Nat.le_of_ble_eq_true rfl)) dX12_others_181 ⟨Nat.le_of_ble_eq_true rfl, Nat.le_of_ble_eq_true rfl⟩) hS (fun q _ h => hFc q h) hFc (fun u9 t9 H1 locs ht hvm hw hB hz1 hk1 hS => ?_)
      obtain ⟨hP, hK1, hD1⟩ := hB
      rw [ht] at hP
      have hD := hD1.weaken (fun _ _ _ h => hFc _ h)
      generalize H1 = H at hP hS ⊢
      refine lv_aload_n hx hb dX12_others_184 rfl (lv_at hl 1 rfl) ?_
      refine rG_84 hx hb hts i_X12_others_X12 hown hK hP (hts (.fieldLink RX12 213 "StatementRules2Model" "vals" "[I") k_X12_others_fieldLink_RX12_213_SRModel_vals_I) dX12_others_185 ?_
      refine lv_aload_n hx hb dX12_others_188 rfl (lv_at hl 1 rfl) ?_
      refine rG_23 hx hb hts i_X12_others_X12 hown hK hP (hts (.fieldLink RX12 90 "StatementRules2Model" "iy" "[I") k_X12_others_fieldLink_RX12_90_SRModel_iy_I) dX12_others_189 ?_
      refine lv_iload_n hx hb dX12_others_192 rfl (lv_at hl 2 rfl) ?_
      refine rL_23 (v := (p11.a 23 ((x1 : Int32).toNatClampNeg))) hx hb hK hP b1 dX12_others_193 rfl ?_
      refine lv_aload_n hx hb dX12_others_194 rfl (lv_at hl 1 rfl) ?_
      refine rG_98 hx hb hts i_X12_others_X12 hown hK hP (hts (.fieldLink RX12 240 "StatementRules2Model" "waits" "[I") k_X12_others_fieldLink_RX12_240_SRModel_waits_I) dX12_others_195 ?_
      refine lv_aload_n hx hb dX12_others_198 rfl (lv_at hl 1 rfl) ?_
      refine rG_102 hx hb hts i_X12_others_X12 hown hK hP (hts (.fieldLink RX12 249 "StatementRules2Model" "rb" "[I") k_X12_others_fieldLink_RX12_249_SRModel_rb_I) dX12_others_199 ?_
      refine lv_iload_n hx hb dX12_others_202 rfl (lv_at hl 0 rfl) ?_
      refine rL_102 (v := (p11.a 102 ((((σ.i 99) - 1) : Int32).toNatClampNeg))) hx hb hK hP b9 dX12_others_203 rfl ?_
      obtain ⟨b13, hf⟩ := hf_ite hf
      refine rL_98 (v := (p11.a 98 (((p11.a 102 ((((σ.i 99) - 1) : Int32).toNatClampNeg)) : Int32).toNatClampNeg))) hx hb hK hP b13 dX12_others_204 rfl ?_
      obtain ⟨b14, hf⟩ := hf_ite hf
      refine rS_84 hx hb hK hP hD hS b14 dX12_others_205 (fun H locs hP hD hS => ?_)
      refine lv_aload_n hx hb dX12_others_206 rfl (lv_at hl 1 rfl) ?_
      refine rG_102 hx hb hts i_X12_others_X12 hown hK hP (hts (.fieldLink RX12 249 "StatementRules2Model" "rb" "[I") k_X12_others_fieldLink_RX12_249_SRModel_rb_I) dX12_others_207 ?_
      refine lv_iload_n hx hb dX12_others_210 rfl (lv_at hl 0 rfl) ?_
      refine lv_dup2_11 hx hb dX12_others_211 rfl rfl ?_
      refine rL_102 (v := (p11.a 102 ((((σ.i 99) - 1) : Int32).toNatClampNeg))) hx hb hK hP b9 dX12_others_212 rfl ?_
      refine lv_iconst (v := 1) hx hb dX12_others_213 (by decide) ?_
      refine lv_iadd hx hb dX12_others_214 ?_
      refine rS_102 hx hb hK hP hD hS b9 dX12_others_215 (fun H locs hP hD hS => ?_)
      refine lv_goto (tgt := 441) hx hb dX12_others_216 (by decide) ?_
      obtain rfl := Option.some.inj hf
      exact W.vret hx hb hr (fun t ht hW => ⟨⟨(), rfl, trivial, by rw [ht]; exact hP, va_K.moved hW.alike hK, hD⟩, hS.F ht⟩) hS.2.2 dX12_others_441
    ·
      replace hf := (if_pos c10).symm.trans hf
      refine lv_aload_n hx hb dX12_others_172 rfl (lv_at hl 1 rfl) ?_
      refine lv_iload_n hx hb dX12_others_173 rfl (lv_at hl 3 rfl) ?_
      refine rP_92 hx hb hts i_X12_others_X12 hown hK hP hD hS (hts (.fieldLink RX12 618 "StatementRules2Model" "pc" "I") k_X12_others_fieldLink_RX12_618_SRModel_pc_I) dX12_others_174 (fun H locs hP hD hS => ?_)
      refine lv_goto (tgt := 441) hx hb dX12_others_177 (by decide) ?_
      obtain rfl := Option.some.inj hf
      exact W.vret hx hb hr (fun t ht hW => ⟨⟨(), rfl, trivial, by rw [ht]; exact hP, va_K.moved hW.alike hK, hD⟩, hS.F ht⟩) hS.2.2 dX12_others_441
  replace hf := (if_neg c8).symm.trans hf
  by_cases c15 : (σ.a 21 ((x1 : Int32).toNatClampNeg)) = 25
  ·
    replace hf := (if_pos c15).symm.trans hf
    refine lv_tableIn (off := 206) (tgt := 219) hx hb dX12_others_13 (by rw [c15]; decide) (by rw [c15]; decide) (by rw [c15]; decide) (by decide) ?_
    refine lv_aload_n hx hb dX12_others_219 rfl (lv_at hl 1 rfl) ?_
    refine lv_aload_n hx hb dX12_others_220 rfl (lv_at hl 1 rfl) ?_
    refine rG_101 hx hb hts i_X12_others_X12 hown hK hP (hts (.fieldLink RX12 246 "StatementRules2Model" "ra" "[I") k_X12_others_fieldLink_RX12_246_SRModel_ra_I) dX12_others_221 ?_
    refine lv_iload_n hx hb dX12_others_224 rfl (lv_at hl 0 rfl) ?_
    obtain ⟨b16, hf⟩ := hf_ite hf
    refine rL_101 (v := (σ.a 101 ((((σ.i 99) - 1) : Int32).toNatClampNeg))) hx hb hK hP b16 dX12_others_225 rfl ?_
    refine rP_97 hx hb hts i_X12_others_X12 hown hK hP hD hS (hts (.fieldLink RX12 621 "StatementRules2Model" "waiting" "I") k_X12_others_fieldLink_RX12_621_SRModel_waiting_I) dX12_others_226 (fun H locs hP hD hS => ?_)
    refine lv_aload_n hx hb dX12_others_229 rfl (lv_at hl 1 rfl) ?_
    refine lv_dup hx hb dX12_others_230 rfl ?_
    refine rG_99 (v := (σ.i 99)) hx hb hts i_X12_others_X12 hown hK hP (hts (.fieldLink RX12 586 "StatementRules2Model" "recs" "I") k_X12_others_fieldLink_RX12_586_SRModel_recs_I) dX12_others_231 rfl ?_
    refine lv_iconst (v := 1) hx hb dX12_others_234 (by decide) ?_
    refine lv_isub hx hb dX12_others_235 ?_
    refine rP_99 hx hb hts i_X12_others_X12 hown hK hP hD hS (hts (.fieldLink RX12 586 "StatementRules2Model" "recs" "I") k_X12_others_fieldLink_RX12_586_SRModel_recs_I) dX12_others_236 (fun H locs hP hD hS => ?_)
    refine lv_goto (tgt := 441) hx hb dX12_others_239 (by decide) ?_
    obtain rfl := Option.some.inj hf
    exact W.vret hx hb hr (fun t ht hW => ⟨⟨(), rfl, trivial, by rw [ht]; exact hP, va_K.moved hW.alike hK, hD⟩, hS.F ht⟩) hS.2.2 dX12_others_441
  replace hf := (if_neg c15).symm.trans hf
  by_cases c17 : (σ.a 21 ((x1 : Int32).toNatClampNeg)) = 26
  ·
    replace hf := (if_pos c17).symm.trans hf
    refine lv_tableIn (off := 357) (tgt := 370) hx hb dX12_others_13 (by rw [c17]; decide) (by rw [c17]; decide) (by rw [c17]; decide) (by decide) ?_
    refine lv_aload_n hx hb dX12_others_370 rfl (lv_at hl 1 rfl) ?_
    refine lv_aload_n hx hb dX12_others_371 rfl (lv_at hl 1 rfl) ?_
    refine rG_105 hx hb hts i_X12_others_X12 hown hK hP (hts (.fieldLink RX12 258 "StatementRules2Model" "rHow" "[I") k_X12_others_fieldLink_RX12_258_SRModel_rHow_I) dX12_others_372 ?_
    refine lv_iload_n hx hb dX12_others_375 rfl (lv_at hl 0 rfl) ?_
    obtain ⟨b18, hf⟩ := hf_ite hf
    refine rL_105 (v := (σ.a 105 ((((σ.i 99) - 1) : Int32).toNatClampNeg))) hx hb hK hP b18 dX12_others_376 rfl ?_
    refine rP_110 hx hb hts i_X12_others_X12 hown hK hP hD hS (hts (.fieldLink RX12 597 "StatementRules2Model" "how" "I") k_X12_others_fieldLink_RX12_597_SRModel_how_I) dX12_others_377 (fun H locs hP hD hS => ?_)
    refine lv_aload_n hx hb dX12_others_380 rfl (lv_at hl 1 rfl) ?_
    refine lv_aload_n hx hb dX12_others_381 rfl (lv_at hl 1 rfl) ?_
    refine rG_106 hx hb hts i_X12_others_X12 hown hK hP (hts (.fieldLink RX12 261 "StatementRules2Model" "rTo" "[I") k_X12_others_fieldLink_RX12_261_SRModel_rTo_I) dX12_others_382 ?_
    refine lv_iload_n hx hb dX12_others_385 rfl (lv_at hl 0 rfl) ?_
    refine rL_106 (v := (σ.a 106 ((((σ.i 99) - 1) : Int32).toNatClampNeg))) hx hb hK hP b18 dX12_others_386 rfl ?_
    refine rP_111 hx hb hts i_X12_others_X12 hown hK hP hD hS (hts (.fieldLink RX12 609 "StatementRules2Model" "goTo" "I") k_X12_others_fieldLink_RX12_609_SRModel_goTo_I) dX12_others_387 (fun H locs hP hD hS => ?_)
    refine lv_aload_n hx hb dX12_others_390 rfl (lv_at hl 1 rfl) ?_
    refine lv_aload_n hx hb dX12_others_391 rfl (lv_at hl 1 rfl) ?_
    refine rG_107 hx hb hts i_X12_others_X12 hown hK hP (hts (.fieldLink RX12 264 "StatementRules2Model" "rDepth" "[I") k_X12_others_fieldLink_RX12_264_SRModel_rDepth_I) dX12_others_392 ?_
    refine lv_iload_n hx hb dX12_others_395 rfl (lv_at hl 0 rfl) ?_
    refine rL_107 (v := (σ.a 107 ((((σ.i 99) - 1) : Int32).toNatClampNeg))) hx hb hK hP b18 dX12_others_396 rfl ?_
    refine rP_112 hx hb hts i_X12_others_X12 hown hK hP hD hS (hts (.fieldLink RX12 612 "StatementRules2Model" "goDepth" "I") k_X12_others_fieldLink_RX12_612_SRModel_goDepth_I) dX12_others_397 (fun H locs hP hD hS => ?_)
    refine lv_aload_n hx hb dX12_others_400 rfl (lv_at hl 1 rfl) ?_
    refine lv_aload_n hx hb dX12_others_401 rfl (lv_at hl 1 rfl) ?_
    refine rG_108 hx hb hts i_X12_others_X12 hown hK hP (hts (.fieldLink RX12 267 "StatementRules2Model" "rValue" "[I") k_X12_others_fieldLink_RX12_267_SRModel_rValue_I) dX12_others_402 ?_
    refine lv_iload_n hx hb dX12_others_405 rfl (lv_at hl 0 rfl) ?_
    refine rL_108 (v := (σ.a 108 ((((σ.i 99) - 1) : Int32).toNatClampNeg))) hx hb hK hP b18 dX12_others_406 rfl ?_
    refine rP_113 hx hb hts i_X12_others_X12 hown hK hP hD hS (hts (.fieldLink RX12 615 "StatementRules2Model" "value" "I") k_X12_others_fieldLink_RX12_615_SRModel_value_I) dX12_others_407 (fun H locs hP hD hS => ?_)
    refine lv_aload_n hx hb dX12_others_410 rfl (lv_at hl 1 rfl) ?_
    refine lv_aload_n hx hb dX12_others_411 rfl (lv_at hl 1 rfl) ?_
    refine rG_109 hx hb hts i_X12_others_X12 hown hK hP (hts (.fieldLink RX12 270 "StatementRules2Model" "rThing" "[I") k_X12_others_fieldLink_RX12_270_SRModel_rThing_I) dX12_others_412 ?_
    refine lv_iload_n hx hb dX12_others_415 rfl (lv_at hl 0 rfl) ?_
    refine rL_109 (v := (σ.a 109 ((((σ.i 99) - 1) : Int32).toNatClampNeg))) hx hb hK hP b18 dX12_others_416 rfl ?_
    refine rP_114 hx hb hts i_X12_others_X12 hown hK hP hD hS (hts (.fieldLink RX12 595 "StatementRules2Model" "thing" "I") k_X12_others_fieldLink_RX12_595_SRModel_thing_I) dX12_others_417 (fun H locs hP hD hS => ?_)
    refine lv_aload_n hx hb dX12_others_420 rfl (lv_at hl 1 rfl) ?_
    refine lv_dup hx hb dX12_others_421 rfl ?_
    refine rG_99 (v := (σ.i 99)) hx hb hts i_X12_others_X12 hown hK hP (hts (.fieldLink RX12 586 "StatementRules2Model" "recs" "I") k_X12_others_fieldLink_RX12_586_SRModel_recs_I) dX12_others_422 rfl ?_
    refine lv_iconst (v := 1) hx hb dX12_others_425 (by decide) ?_
    refine lv_isub hx hb dX12_others_426 ?_
    refine rP_99 hx hb hts i_X12_others_X12 hown hK hP hD hS (hts (.fieldLink RX12 586 "StatementRules2Model" "recs" "I") k_X12_others_fieldLink_RX12_586_SRModel_recs_I) dX12_others_427 (fun H locs hP hD hS => ?_)
    refine lv_aload_n hx hb dX12_others_430 rfl (lv_at hl 1 rfl) ?_
    refine rG_110 (v := (σ.a 105 ((((σ.i 99) - 1) : Int32).toNatClampNeg))) hx hb hts i_X12_others_X12 hown hK hP (hts (.fieldLink RX12 597 "StatementRules2Model" "how" "I") k_X12_others_fieldLink_RX12_597_SRModel_how_I) dX12_others_431 rfl ?_
    refine lv_if_eq (tgt := 441) hx hb dX12_others_434 (by decide) (fun c19 => ?_) (fun c19 => ?_)
    ·
      replace hf := (if_pos c19).symm.trans hf
      obtain rfl := Option.some.inj hf
      exact W.vret hx hb hr (fun t ht hW => ⟨⟨(), rfl, trivial, by rw [ht]; exact hP, va_K.moved hW.alike hK, hD⟩, hS.F ht⟩) hS.2.2 dX12_others_441
    ·
      replace hf := (if_neg c19).symm.trans hf
      refine lv_aload_n hx hb dX12_others_437 rfl (lv_at hl 1 rfl) ?_
      obtain ⟨p20, hcp20, hf⟩ := hf_bind hf
      have hFc := r_free hD hS hA
      refine va_callv (va_runV (As := []) (rest := []) ⟨hx, hb, hml, hown, hts⟩ (c_X12_leave l dC dI _ Q N (RS.setI (RS.setI (RS.setI (RS.setI (RS.setI (RS.setI σ 110 (σ.a 105 ((((σ.i 99) - 1) : Int32).toNatClampNeg))) 111 (σ.a 106 ((((σ.i 99) - 1) : Int32).toNatClampNeg))) 112 (σ.a 107 ((((σ.i 99) - 1) : Int32).toNatClampNeg))) 113 (σ.a 108 ((((σ.i 99) - 1) : Int32).toNatClampNeg))) 114 (σ.a 109 ((((σ.i 99) - 1) : Int32).toNatClampNeg))) 99 ((σ.i 99) - 1)) p20 hcp20) (cwV 0 hts hX12_others_X12_leave_v648 rfl rfl rfl (by decide +kernel) ⟨Nat.le_of_ble_eq_true rfl, Nat.le_of_ble_eq_true rfl⟩) ⟨zPre.blind, va_recv hK hP (ci := 11) (q0 := 0) rfl rfl, zPre.go hZ hP hK hD⟩ rfl rfl hl.1 rfl (lv_room (Nat.le_of_ble_eq_true rfl)) dX12_others_438 ⟨Nat.le_of_ble_eq_true rfl, Nat.le_of_ble_eq_true rfl⟩) hS (fun q _ h => hFc q h) hFc (fun u9 t9 H1 locs ht hvm hw hB hz1 hk1 hS => ?_)
      obtain ⟨hP, hK1, hD1⟩ := hB
      rw [ht] at hP
      have hD := hD1.weaken (fun _ _ _ h => hFc _ h)
      generalize H1 = H at hP hS ⊢
      obtain rfl := Option.some.inj hf
      exact W.vret hx hb hr (fun t ht hW => ⟨⟨(), rfl, trivial, by rw [ht]; exact hP, va_K.moved hW.alike hK, hD⟩, hS.F ht⟩) hS.2.2 dX12_others_441
  replace hf := (if_neg c17).symm.trans hf
  by_cases c22 : (σ.a 21 ((x1 : Int32).toNatClampNeg)) = 27
  ·
    replace hf := (if_pos c22).symm.trans hf
    refine lv_tableIn (off := 357) (tgt := 370) hx hb dX12_others_13 (by rw [c22]; decide) (by rw [c22]; decide) (by rw [c22]; decide) (by decide) ?_
    refine lv_aload_n hx hb dX12_others_370 rfl (lv_at hl 1 rfl) ?_
    refine lv_aload_n hx hb dX12_others_371 rfl (lv_at hl 1 rfl) ?_
    refine rG_105 hx hb hts i_X12_others_X12 hown hK hP (hts (.fieldLink RX12 258 "StatementRules2Model" "rHow" "[I") k_X12_others_fieldLink_RX12_258_SRModel_rHow_I) dX12_others_372 ?_
    refine lv_iload_n hx hb dX12_others_375 rfl (lv_at hl 0 rfl) ?_
    obtain ⟨b23, hf⟩ := hf_ite hf
    refine rL_105 (v := (σ.a 105 ((((σ.i 99) - 1) : Int32).toNatClampNeg))) hx hb hK hP b23 dX12_others_376 rfl ?_
    refine rP_110 hx hb hts i_X12_others_X12 hown hK hP hD hS (hts (.fieldLink RX12 597 "StatementRules2Model" "how" "I") k_X12_others_fieldLink_RX12_597_SRModel_how_I) dX12_others_377 (fun H locs hP hD hS => ?_)
    refine lv_aload_n hx hb dX12_others_380 rfl (lv_at hl 1 rfl) ?_
    refine lv_aload_n hx hb dX12_others_381 rfl (lv_at hl 1 rfl) ?_
    refine rG_106 hx hb hts i_X12_others_X12 hown hK hP (hts (.fieldLink RX12 261 "StatementRules2Model" "rTo" "[I") k_X12_others_fieldLink_RX12_261_SRModel_rTo_I) dX12_others_382 ?_
    refine lv_iload_n hx hb dX12_others_385 rfl (lv_at hl 0 rfl) ?_
    refine rL_106 (v := (σ.a 106 ((((σ.i 99) - 1) : Int32).toNatClampNeg))) hx hb hK hP b23 dX12_others_386 rfl ?_
    refine rP_111 hx hb hts i_X12_others_X12 hown hK hP hD hS (hts (.fieldLink RX12 609 "StatementRules2Model" "goTo" "I") k_X12_others_fieldLink_RX12_609_SRModel_goTo_I) dX12_others_387 (fun H locs hP hD hS => ?_)
    refine lv_aload_n hx hb dX12_others_390 rfl (lv_at hl 1 rfl) ?_
    refine lv_aload_n hx hb dX12_others_391 rfl (lv_at hl 1 rfl) ?_
    refine rG_107 hx hb hts i_X12_others_X12 hown hK hP (hts (.fieldLink RX12 264 "StatementRules2Model" "rDepth" "[I") k_X12_others_fieldLink_RX12_264_SRModel_rDepth_I) dX12_others_392 ?_
    refine lv_iload_n hx hb dX12_others_395 rfl (lv_at hl 0 rfl) ?_
    refine rL_107 (v := (σ.a 107 ((((σ.i 99) - 1) : Int32).toNatClampNeg))) hx hb hK hP b23 dX12_others_396 rfl ?_
    refine rP_112 hx hb hts i_X12_others_X12 hown hK hP hD hS (hts (.fieldLink RX12 612 "StatementRules2Model" "goDepth" "I") k_X12_others_fieldLink_RX12_612_SRModel_goDepth_I) dX12_others_397 (fun H locs hP hD hS => ?_)
    refine lv_aload_n hx hb dX12_others_400 rfl (lv_at hl 1 rfl) ?_
    refine lv_aload_n hx hb dX12_others_401 rfl (lv_at hl 1 rfl) ?_
    refine rG_108 hx hb hts i_X12_others_X12 hown hK hP (hts (.fieldLink RX12 267 "StatementRules2Model" "rValue" "[I") k_X12_others_fieldLink_RX12_267_SRModel_rValue_I) dX12_others_402 ?_
    refine lv_iload_n hx hb dX12_others_405 rfl (lv_at hl 0 rfl) ?_
    refine rL_108 (v := (σ.a 108 ((((σ.i 99) - 1) : Int32).toNatClampNeg))) hx hb hK hP b23 dX12_others_406 rfl ?_
    refine rP_113 hx hb hts i_X12_others_X12 hown hK hP hD hS (hts (.fieldLink RX12 615 "StatementRules2Model" "value" "I") k_X12_others_fieldLink_RX12_615_SRModel_value_I) dX12_others_407 (fun H locs hP hD hS => ?_)
    refine lv_aload_n hx hb dX12_others_410 rfl (lv_at hl 1 rfl) ?_
    refine lv_aload_n hx hb dX12_others_411 rfl (lv_at hl 1 rfl) ?_
    refine rG_109 hx hb hts i_X12_others_X12 hown hK hP (hts (.fieldLink RX12 270 "StatementRules2Model" "rThing" "[I") k_X12_others_fieldLink_RX12_270_SRModel_rThing_I) dX12_others_412 ?_
    refine lv_iload_n hx hb dX12_others_415 rfl (lv_at hl 0 rfl) ?_
    refine rL_109 (v := (σ.a 109 ((((σ.i 99) - 1) : Int32).toNatClampNeg))) hx hb hK hP b23 dX12_others_416 rfl ?_
    refine rP_114 hx hb hts i_X12_others_X12 hown hK hP hD hS (hts (.fieldLink RX12 595 "StatementRules2Model" "thing" "I") k_X12_others_fieldLink_RX12_595_SRModel_thing_I) dX12_others_417 (fun H locs hP hD hS => ?_)
    refine lv_aload_n hx hb dX12_others_420 rfl (lv_at hl 1 rfl) ?_
    refine lv_dup hx hb dX12_others_421 rfl ?_
    refine rG_99 (v := (σ.i 99)) hx hb hts i_X12_others_X12 hown hK hP (hts (.fieldLink RX12 586 "StatementRules2Model" "recs" "I") k_X12_others_fieldLink_RX12_586_SRModel_recs_I) dX12_others_422 rfl ?_
    refine lv_iconst (v := 1) hx hb dX12_others_425 (by decide) ?_
    refine lv_isub hx hb dX12_others_426 ?_
    refine rP_99 hx hb hts i_X12_others_X12 hown hK hP hD hS (hts (.fieldLink RX12 586 "StatementRules2Model" "recs" "I") k_X12_others_fieldLink_RX12_586_SRModel_recs_I) dX12_others_427 (fun H locs hP hD hS => ?_)
    refine lv_aload_n hx hb dX12_others_430 rfl (lv_at hl 1 rfl) ?_
    refine rG_110 (v := (σ.a 105 ((((σ.i 99) - 1) : Int32).toNatClampNeg))) hx hb hts i_X12_others_X12 hown hK hP (hts (.fieldLink RX12 597 "StatementRules2Model" "how" "I") k_X12_others_fieldLink_RX12_597_SRModel_how_I) dX12_others_431 rfl ?_
    refine lv_if_eq (tgt := 441) hx hb dX12_others_434 (by decide) (fun c24 => ?_) (fun c24 => ?_)
    ·
      replace hf := (if_pos c24).symm.trans hf
      obtain rfl := Option.some.inj hf
      exact W.vret hx hb hr (fun t ht hW => ⟨⟨(), rfl, trivial, by rw [ht]; exact hP, va_K.moved hW.alike hK, hD⟩, hS.F ht⟩) hS.2.2 dX12_others_441
    ·
      replace hf := (if_neg c24).symm.trans hf
      refine lv_aload_n hx hb dX12_others_437 rfl (lv_at hl 1 rfl) ?_
      obtain ⟨p25, hcp25, hf⟩ := hf_bind hf
      have hFc := r_free hD hS hA
      refine va_callv (va_runV (As := []) (rest := []) ⟨hx, hb, hml, hown, hts⟩ (c_X12_leave l dC dI _ Q N (RS.setI (RS.setI (RS.setI (RS.setI (RS.setI (RS.setI σ 110 (σ.a 105 ((((σ.i 99) - 1) : Int32).toNatClampNeg))) 111 (σ.a 106 ((((σ.i 99) - 1) : Int32).toNatClampNeg))) 112 (σ.a 107 ((((σ.i 99) - 1) : Int32).toNatClampNeg))) 113 (σ.a 108 ((((σ.i 99) - 1) : Int32).toNatClampNeg))) 114 (σ.a 109 ((((σ.i 99) - 1) : Int32).toNatClampNeg))) 99 ((σ.i 99) - 1)) p25 hcp25) (cwV 0 hts hX12_others_X12_leave_v648 rfl rfl rfl (by decide +kernel) ⟨Nat.le_of_ble_eq_true rfl, Nat.le_of_ble_eq_true rfl⟩) ⟨zPre.blind, va_recv hK hP (ci := 11) (q0 := 0) rfl rfl, zPre.go hZ hP hK hD⟩ rfl rfl hl.1 rfl (lv_room (Nat.le_of_ble_eq_true rfl)) dX12_others_438 ⟨Nat.le_of_ble_eq_true rfl, Nat.le_of_ble_eq_true rfl⟩) hS (fun q _ h => hFc q h) hFc (fun u9 t9 H1 locs ht hvm hw hB hz1 hk1 hS => ?_)
      obtain ⟨hP, hK1, hD1⟩ := hB
      rw [ht] at hP
      have hD := hD1.weaken (fun _ _ _ h => hFc _ h)
      generalize H1 = H at hP hS ⊢
      obtain rfl := Option.some.inj hf
      exact W.vret hx hb hr (fun t ht hW => ⟨⟨(), rfl, trivial, by rw [ht]; exact hP, va_K.moved hW.alike hK, hD⟩, hS.F ht⟩) hS.2.2 dX12_others_441
  replace hf := (if_neg c22).symm.trans hf
  by_cases c27 : (σ.a 21 ((x1 : Int32).toNatClampNeg)) = 28
  ·
    replace hf := (if_pos c27).symm.trans hf
    refine lv_tableIn (off := 357) (tgt := 370) hx hb dX12_others_13 (by rw [c27]; decide) (by rw [c27]; decide) (by rw [c27]; decide) (by decide) ?_
    refine lv_aload_n hx hb dX12_others_370 rfl (lv_at hl 1 rfl) ?_
    refine lv_aload_n hx hb dX12_others_371 rfl (lv_at hl 1 rfl) ?_
    refine rG_105 hx hb hts i_X12_others_X12 hown hK hP (hts (.fieldLink RX12 258 "StatementRules2Model" "rHow" "[I") k_X12_others_fieldLink_RX12_258_SRModel_rHow_I) dX12_others_372 ?_
    refine lv_iload_n hx hb dX12_others_375 rfl (lv_at hl 0 rfl) ?_
    obtain ⟨b28, hf⟩ := hf_ite hf
    refine rL_105 (v := (σ.a 105 ((((σ.i 99) - 1) : Int32).toNatClampNeg))) hx hb hK hP b28 dX12_others_376 rfl ?_
    refine rP_110 hx hb hts i_X12_others_X12 hown hK hP hD hS (hts (.fieldLink RX12 597 "StatementRules2Model" "how" "I") k_X12_others_fieldLink_RX12_597_SRModel_how_I) dX12_others_377 (fun H locs hP hD hS => ?_)
    refine lv_aload_n hx hb dX12_others_380 rfl (lv_at hl 1 rfl) ?_
    refine lv_aload_n hx hb dX12_others_381 rfl (lv_at hl 1 rfl) ?_
    refine rG_106 hx hb hts i_X12_others_X12 hown hK hP (hts (.fieldLink RX12 261 "StatementRules2Model" "rTo" "[I") k_X12_others_fieldLink_RX12_261_SRModel_rTo_I) dX12_others_382 ?_
    refine lv_iload_n hx hb dX12_others_385 rfl (lv_at hl 0 rfl) ?_
    refine rL_106 (v := (σ.a 106 ((((σ.i 99) - 1) : Int32).toNatClampNeg))) hx hb hK hP b28 dX12_others_386 rfl ?_
    refine rP_111 hx hb hts i_X12_others_X12 hown hK hP hD hS (hts (.fieldLink RX12 609 "StatementRules2Model" "goTo" "I") k_X12_others_fieldLink_RX12_609_SRModel_goTo_I) dX12_others_387 (fun H locs hP hD hS => ?_)
    refine lv_aload_n hx hb dX12_others_390 rfl (lv_at hl 1 rfl) ?_
    refine lv_aload_n hx hb dX12_others_391 rfl (lv_at hl 1 rfl) ?_
    refine rG_107 hx hb hts i_X12_others_X12 hown hK hP (hts (.fieldLink RX12 264 "StatementRules2Model" "rDepth" "[I") k_X12_others_fieldLink_RX12_264_SRModel_rDepth_I) dX12_others_392 ?_
    refine lv_iload_n hx hb dX12_others_395 rfl (lv_at hl 0 rfl) ?_
    refine rL_107 (v := (σ.a 107 ((((σ.i 99) - 1) : Int32).toNatClampNeg))) hx hb hK hP b28 dX12_others_396 rfl ?_
    refine rP_112 hx hb hts i_X12_others_X12 hown hK hP hD hS (hts (.fieldLink RX12 612 "StatementRules2Model" "goDepth" "I") k_X12_others_fieldLink_RX12_612_SRModel_goDepth_I) dX12_others_397 (fun H locs hP hD hS => ?_)
    refine lv_aload_n hx hb dX12_others_400 rfl (lv_at hl 1 rfl) ?_
    refine lv_aload_n hx hb dX12_others_401 rfl (lv_at hl 1 rfl) ?_
    refine rG_108 hx hb hts i_X12_others_X12 hown hK hP (hts (.fieldLink RX12 267 "StatementRules2Model" "rValue" "[I") k_X12_others_fieldLink_RX12_267_SRModel_rValue_I) dX12_others_402 ?_
    refine lv_iload_n hx hb dX12_others_405 rfl (lv_at hl 0 rfl) ?_
    refine rL_108 (v := (σ.a 108 ((((σ.i 99) - 1) : Int32).toNatClampNeg))) hx hb hK hP b28 dX12_others_406 rfl ?_
    refine rP_113 hx hb hts i_X12_others_X12 hown hK hP hD hS (hts (.fieldLink RX12 615 "StatementRules2Model" "value" "I") k_X12_others_fieldLink_RX12_615_SRModel_value_I) dX12_others_407 (fun H locs hP hD hS => ?_)
    refine lv_aload_n hx hb dX12_others_410 rfl (lv_at hl 1 rfl) ?_
    refine lv_aload_n hx hb dX12_others_411 rfl (lv_at hl 1 rfl) ?_
    refine rG_109 hx hb hts i_X12_others_X12 hown hK hP (hts (.fieldLink RX12 270 "StatementRules2Model" "rThing" "[I") k_X12_others_fieldLink_RX12_270_SRModel_rThing_I) dX12_others_412 ?_
    refine lv_iload_n hx hb dX12_others_415 rfl (lv_at hl 0 rfl) ?_
    refine rL_109 (v := (σ.a 109 ((((σ.i 99) - 1) : Int32).toNatClampNeg))) hx hb hK hP b28 dX12_others_416 rfl ?_
    refine rP_114 hx hb hts i_X12_others_X12 hown hK hP hD hS (hts (.fieldLink RX12 595 "StatementRules2Model" "thing" "I") k_X12_others_fieldLink_RX12_595_SRModel_thing_I) dX12_others_417 (fun H locs hP hD hS => ?_)
    refine lv_aload_n hx hb dX12_others_420 rfl (lv_at hl 1 rfl) ?_
    refine lv_dup hx hb dX12_others_421 rfl ?_
    refine rG_99 (v := (σ.i 99)) hx hb hts i_X12_others_X12 hown hK hP (hts (.fieldLink RX12 586 "StatementRules2Model" "recs" "I") k_X12_others_fieldLink_RX12_586_SRModel_recs_I) dX12_others_422 rfl ?_
    refine lv_iconst (v := 1) hx hb dX12_others_425 (by decide) ?_
    refine lv_isub hx hb dX12_others_426 ?_
    refine rP_99 hx hb hts i_X12_others_X12 hown hK hP hD hS (hts (.fieldLink RX12 586 "StatementRules2Model" "recs" "I") k_X12_others_fieldLink_RX12_586_SRModel_recs_I) dX12_others_427 (fun H locs hP hD hS => ?_)
    refine lv_aload_n hx hb dX12_others_430 rfl (lv_at hl 1 rfl) ?_
    refine rG_110 (v := (σ.a 105 ((((σ.i 99) - 1) : Int32).toNatClampNeg))) hx hb hts i_X12_others_X12 hown hK hP (hts (.fieldLink RX12 597 "StatementRules2Model" "how" "I") k_X12_others_fieldLink_RX12_597_SRModel_how_I) dX12_others_431 rfl ?_
    refine lv_if_eq (tgt := 441) hx hb dX12_others_434 (by decide) (fun c29 => ?_) (fun c29 => ?_)
    ·
      replace hf := (if_pos c29).symm.trans hf
      obtain rfl := Option.some.inj hf
      exact W.vret hx hb hr (fun t ht hW => ⟨⟨(), rfl, trivial, by rw [ht]; exact hP, va_K.moved hW.alike hK, hD⟩, hS.F ht⟩) hS.2.2 dX12_others_441
    ·
      replace hf := (if_neg c29).symm.trans hf
      refine lv_aload_n hx hb dX12_others_437 rfl (lv_at hl 1 rfl) ?_
      obtain ⟨p30, hcp30, hf⟩ := hf_bind hf
      have hFc := r_free hD hS hA
      refine va_callv (va_runV (As := []) (rest := []) ⟨hx, hb, hml, hown, hts⟩ (c_X12_leave l dC dI _ Q N (RS.setI (RS.setI (RS.setI (RS.setI (RS.setI (RS.setI σ 110 (σ.a 105 ((((σ.i 99) - 1) : Int32).toNatClampNeg))) 111 (σ.a 106 ((((σ.i 99) - 1) : Int32).toNatClampNeg))) 112 (σ.a 107 ((((σ.i 99) - 1) : Int32).toNatClampNeg))) 113 (σ.a 108 ((((σ.i 99) - 1) : Int32).toNatClampNeg))) 114 (σ.a 109 ((((σ.i 99) - 1) : Int32).toNatClampNeg))) 99 ((σ.i 99) - 1)) p30 hcp30) (cwV 0 hts hX12_others_X12_leave_v648 rfl rfl rfl (by decide +kernel) ⟨Nat.le_of_ble_eq_true rfl, Nat.le_of_ble_eq_true rfl⟩) ⟨zPre.blind, va_recv hK hP (ci := 11) (q0 := 0) rfl rfl, zPre.go hZ hP hK hD⟩ rfl rfl hl.1 rfl (lv_room (Nat.le_of_ble_eq_true rfl)) dX12_others_438 ⟨Nat.le_of_ble_eq_true rfl, Nat.le_of_ble_eq_true rfl⟩) hS (fun q _ h => hFc q h) hFc (fun u9 t9 H1 locs ht hvm hw hB hz1 hk1 hS => ?_)
      obtain ⟨hP, hK1, hD1⟩ := hB
      rw [ht] at hP
      have hD := hD1.weaken (fun _ _ _ h => hFc _ h)
      generalize H1 = H at hP hS ⊢
      obtain rfl := Option.some.inj hf
      exact W.vret hx hb hr (fun t ht hW => ⟨⟨(), rfl, trivial, by rw [ht]; exact hP, va_K.moved hW.alike hK, hD⟩, hS.F ht⟩) hS.2.2 dX12_others_441
  replace hf := (if_neg c27).symm.trans hf
  by_cases c32 : (σ.a 21 ((x1 : Int32).toNatClampNeg)) = 29
  ·
    replace hf := (if_pos c32).symm.trans hf
    refine lv_tableIn (off := 357) (tgt := 370) hx hb dX12_others_13 (by rw [c32]; decide) (by rw [c32]; decide) (by rw [c32]; decide) (by decide) ?_
    refine lv_aload_n hx hb dX12_others_370 rfl (lv_at hl 1 rfl) ?_
    refine lv_aload_n hx hb dX12_others_371 rfl (lv_at hl 1 rfl) ?_
    refine rG_105 hx hb hts i_X12_others_X12 hown hK hP (hts (.fieldLink RX12 258 "StatementRules2Model" "rHow" "[I") k_X12_others_fieldLink_RX12_258_SRModel_rHow_I) dX12_others_372 ?_
    refine lv_iload_n hx hb dX12_others_375 rfl (lv_at hl 0 rfl) ?_
    obtain ⟨b33, hf⟩ := hf_ite hf
    refine rL_105 (v := (σ.a 105 ((((σ.i 99) - 1) : Int32).toNatClampNeg))) hx hb hK hP b33 dX12_others_376 rfl ?_
    refine rP_110 hx hb hts i_X12_others_X12 hown hK hP hD hS (hts (.fieldLink RX12 597 "StatementRules2Model" "how" "I") k_X12_others_fieldLink_RX12_597_SRModel_how_I) dX12_others_377 (fun H locs hP hD hS => ?_)
    refine lv_aload_n hx hb dX12_others_380 rfl (lv_at hl 1 rfl) ?_
    refine lv_aload_n hx hb dX12_others_381 rfl (lv_at hl 1 rfl) ?_
    refine rG_106 hx hb hts i_X12_others_X12 hown hK hP (hts (.fieldLink RX12 261 "StatementRules2Model" "rTo" "[I") k_X12_others_fieldLink_RX12_261_SRModel_rTo_I) dX12_others_382 ?_
    refine lv_iload_n hx hb dX12_others_385 rfl (lv_at hl 0 rfl) ?_
    refine rL_106 (v := (σ.a 106 ((((σ.i 99) - 1) : Int32).toNatClampNeg))) hx hb hK hP b33 dX12_others_386 rfl ?_
    refine rP_111 hx hb hts i_X12_others_X12 hown hK hP hD hS (hts (.fieldLink RX12 609 "StatementRules2Model" "goTo" "I") k_X12_others_fieldLink_RX12_609_SRModel_goTo_I) dX12_others_387 (fun H locs hP hD hS => ?_)
    refine lv_aload_n hx hb dX12_others_390 rfl (lv_at hl 1 rfl) ?_
    refine lv_aload_n hx hb dX12_others_391 rfl (lv_at hl 1 rfl) ?_
    refine rG_107 hx hb hts i_X12_others_X12 hown hK hP (hts (.fieldLink RX12 264 "StatementRules2Model" "rDepth" "[I") k_X12_others_fieldLink_RX12_264_SRModel_rDepth_I) dX12_others_392 ?_
    refine lv_iload_n hx hb dX12_others_395 rfl (lv_at hl 0 rfl) ?_
    refine rL_107 (v := (σ.a 107 ((((σ.i 99) - 1) : Int32).toNatClampNeg))) hx hb hK hP b33 dX12_others_396 rfl ?_
    refine rP_112 hx hb hts i_X12_others_X12 hown hK hP hD hS (hts (.fieldLink RX12 612 "StatementRules2Model" "goDepth" "I") k_X12_others_fieldLink_RX12_612_SRModel_goDepth_I) dX12_others_397 (fun H locs hP hD hS => ?_)
    refine lv_aload_n hx hb dX12_others_400 rfl (lv_at hl 1 rfl) ?_
    refine lv_aload_n hx hb dX12_others_401 rfl (lv_at hl 1 rfl) ?_
    refine rG_108 hx hb hts i_X12_others_X12 hown hK hP (hts (.fieldLink RX12 267 "StatementRules2Model" "rValue" "[I") k_X12_others_fieldLink_RX12_267_SRModel_rValue_I) dX12_others_402 ?_
    refine lv_iload_n hx hb dX12_others_405 rfl (lv_at hl 0 rfl) ?_
    refine rL_108 (v := (σ.a 108 ((((σ.i 99) - 1) : Int32).toNatClampNeg))) hx hb hK hP b33 dX12_others_406 rfl ?_
    refine rP_113 hx hb hts i_X12_others_X12 hown hK hP hD hS (hts (.fieldLink RX12 615 "StatementRules2Model" "value" "I") k_X12_others_fieldLink_RX12_615_SRModel_value_I) dX12_others_407 (fun H locs hP hD hS => ?_)
    refine lv_aload_n hx hb dX12_others_410 rfl (lv_at hl 1 rfl) ?_
    refine lv_aload_n hx hb dX12_others_411 rfl (lv_at hl 1 rfl) ?_
    refine rG_109 hx hb hts i_X12_others_X12 hown hK hP (hts (.fieldLink RX12 270 "StatementRules2Model" "rThing" "[I") k_X12_others_fieldLink_RX12_270_SRModel_rThing_I) dX12_others_412 ?_
    refine lv_iload_n hx hb dX12_others_415 rfl (lv_at hl 0 rfl) ?_
    refine rL_109 (v := (σ.a 109 ((((σ.i 99) - 1) : Int32).toNatClampNeg))) hx hb hK hP b33 dX12_others_416 rfl ?_
    refine rP_114 hx hb hts i_X12_others_X12 hown hK hP hD hS (hts (.fieldLink RX12 595 "StatementRules2Model" "thing" "I") k_X12_others_fieldLink_RX12_595_SRModel_thing_I) dX12_others_417 (fun H locs hP hD hS => ?_)
    refine lv_aload_n hx hb dX12_others_420 rfl (lv_at hl 1 rfl) ?_
    refine lv_dup hx hb dX12_others_421 rfl ?_
    refine rG_99 (v := (σ.i 99)) hx hb hts i_X12_others_X12 hown hK hP (hts (.fieldLink RX12 586 "StatementRules2Model" "recs" "I") k_X12_others_fieldLink_RX12_586_SRModel_recs_I) dX12_others_422 rfl ?_
    refine lv_iconst (v := 1) hx hb dX12_others_425 (by decide) ?_
    refine lv_isub hx hb dX12_others_426 ?_
    refine rP_99 hx hb hts i_X12_others_X12 hown hK hP hD hS (hts (.fieldLink RX12 586 "StatementRules2Model" "recs" "I") k_X12_others_fieldLink_RX12_586_SRModel_recs_I) dX12_others_427 (fun H locs hP hD hS => ?_)
    refine lv_aload_n hx hb dX12_others_430 rfl (lv_at hl 1 rfl) ?_
    refine rG_110 (v := (σ.a 105 ((((σ.i 99) - 1) : Int32).toNatClampNeg))) hx hb hts i_X12_others_X12 hown hK hP (hts (.fieldLink RX12 597 "StatementRules2Model" "how" "I") k_X12_others_fieldLink_RX12_597_SRModel_how_I) dX12_others_431 rfl ?_
    refine lv_if_eq (tgt := 441) hx hb dX12_others_434 (by decide) (fun c34 => ?_) (fun c34 => ?_)
    ·
      replace hf := (if_pos c34).symm.trans hf
      obtain rfl := Option.some.inj hf
      exact W.vret hx hb hr (fun t ht hW => ⟨⟨(), rfl, trivial, by rw [ht]; exact hP, va_K.moved hW.alike hK, hD⟩, hS.F ht⟩) hS.2.2 dX12_others_441
    ·
      replace hf := (if_neg c34).symm.trans hf
      refine lv_aload_n hx hb dX12_others_437 rfl (lv_at hl 1 rfl) ?_
      obtain ⟨p35, hcp35, hf⟩ := hf_bind hf
      have hFc := r_free hD hS hA
      refine va_callv (va_runV (As := []) (rest := []) ⟨hx, hb, hml, hown, hts⟩ (c_X12_leave l dC dI _ Q N (RS.setI (RS.setI (RS.setI (RS.setI (RS.setI (RS.setI σ 110 (σ.a 105 ((((σ.i 99) - 1) : Int32).toNatClampNeg))) 111 (σ.a 106 ((((σ.i 99) - 1) : Int32).toNatClampNeg))) 112 (σ.a 107 ((((σ.i 99) - 1) : Int32).toNatClampNeg))) 113 (σ.a 108 ((((σ.i 99) - 1) : Int32).toNatClampNeg))) 114 (σ.a 109 ((((σ.i 99) - 1) : Int32).toNatClampNeg))) 99 ((σ.i 99) - 1)) p35 hcp35) (cwV 0 hts hX12_others_X12_leave_v648 rfl rfl rfl (by decide +kernel) ⟨Nat.le_of_ble_eq_true rfl, Nat.le_of_ble_eq_true rfl⟩) ⟨zPre.blind, va_recv hK hP (ci := 11) (q0 := 0) rfl rfl, zPre.go hZ hP hK hD⟩ rfl rfl hl.1 rfl (lv_room (Nat.le_of_ble_eq_true rfl)) dX12_others_438 ⟨Nat.le_of_ble_eq_true rfl, Nat.le_of_ble_eq_true rfl⟩) hS (fun q _ h => hFc q h) hFc (fun u9 t9 H1 locs ht hvm hw hB hz1 hk1 hS => ?_)
      obtain ⟨hP, hK1, hD1⟩ := hB
      rw [ht] at hP
      have hD := hD1.weaken (fun _ _ _ h => hFc _ h)
      generalize H1 = H at hP hS ⊢
      obtain rfl := Option.some.inj hf
      exact W.vret hx hb hr (fun t ht hW => ⟨⟨(), rfl, trivial, by rw [ht]; exact hP, va_K.moved hW.alike hK, hD⟩, hS.F ht⟩) hS.2.2 dX12_others_441
  replace hf := (if_neg c32).symm.trans hf
  by_cases c37 : (σ.a 21 ((x1 : Int32).toNatClampNeg)) = 30
  ·
    replace hf := (if_pos c37).symm.trans hf
    refine lv_tableIn (off := 357) (tgt := 370) hx hb dX12_others_13 (by rw [c37]; decide) (by rw [c37]; decide) (by rw [c37]; decide) (by decide) ?_
    refine lv_aload_n hx hb dX12_others_370 rfl (lv_at hl 1 rfl) ?_
    refine lv_aload_n hx hb dX12_others_371 rfl (lv_at hl 1 rfl) ?_
    refine rG_105 hx hb hts i_X12_others_X12 hown hK hP (hts (.fieldLink RX12 258 "StatementRules2Model" "rHow" "[I") k_X12_others_fieldLink_RX12_258_SRModel_rHow_I) dX12_others_372 ?_
    refine lv_iload_n hx hb dX12_others_375 rfl (lv_at hl 0 rfl) ?_
    obtain ⟨b38, hf⟩ := hf_ite hf
    refine rL_105 (v := (σ.a 105 ((((σ.i 99) - 1) : Int32).toNatClampNeg))) hx hb hK hP b38 dX12_others_376 rfl ?_
    refine rP_110 hx hb hts i_X12_others_X12 hown hK hP hD hS (hts (.fieldLink RX12 597 "StatementRules2Model" "how" "I") k_X12_others_fieldLink_RX12_597_SRModel_how_I) dX12_others_377 (fun H locs hP hD hS => ?_)
    refine lv_aload_n hx hb dX12_others_380 rfl (lv_at hl 1 rfl) ?_
    refine lv_aload_n hx hb dX12_others_381 rfl (lv_at hl 1 rfl) ?_
    refine rG_106 hx hb hts i_X12_others_X12 hown hK hP (hts (.fieldLink RX12 261 "StatementRules2Model" "rTo" "[I") k_X12_others_fieldLink_RX12_261_SRModel_rTo_I) dX12_others_382 ?_
    refine lv_iload_n hx hb dX12_others_385 rfl (lv_at hl 0 rfl) ?_
    refine rL_106 (v := (σ.a 106 ((((σ.i 99) - 1) : Int32).toNatClampNeg))) hx hb hK hP b38 dX12_others_386 rfl ?_
    refine rP_111 hx hb hts i_X12_others_X12 hown hK hP hD hS (hts (.fieldLink RX12 609 "StatementRules2Model" "goTo" "I") k_X12_others_fieldLink_RX12_609_SRModel_goTo_I) dX12_others_387 (fun H locs hP hD hS => ?_)
    refine lv_aload_n hx hb dX12_others_390 rfl (lv_at hl 1 rfl) ?_
    refine lv_aload_n hx hb dX12_others_391 rfl (lv_at hl 1 rfl) ?_
    refine rG_107 hx hb hts i_X12_others_X12 hown hK hP (hts (.fieldLink RX12 264 "StatementRules2Model" "rDepth" "[I") k_X12_others_fieldLink_RX12_264_SRModel_rDepth_I) dX12_others_392 ?_
    refine lv_iload_n hx hb dX12_others_395 rfl (lv_at hl 0 rfl) ?_
    refine rL_107 (v := (σ.a 107 ((((σ.i 99) - 1) : Int32).toNatClampNeg))) hx hb hK hP b38 dX12_others_396 rfl ?_
    refine rP_112 hx hb hts i_X12_others_X12 hown hK hP hD hS (hts (.fieldLink RX12 612 "StatementRules2Model" "goDepth" "I") k_X12_others_fieldLink_RX12_612_SRModel_goDepth_I) dX12_others_397 (fun H locs hP hD hS => ?_)
    refine lv_aload_n hx hb dX12_others_400 rfl (lv_at hl 1 rfl) ?_
    refine lv_aload_n hx hb dX12_others_401 rfl (lv_at hl 1 rfl) ?_
    refine rG_108 hx hb hts i_X12_others_X12 hown hK hP (hts (.fieldLink RX12 267 "StatementRules2Model" "rValue" "[I") k_X12_others_fieldLink_RX12_267_SRModel_rValue_I) dX12_others_402 ?_
    refine lv_iload_n hx hb dX12_others_405 rfl (lv_at hl 0 rfl) ?_
    refine rL_108 (v := (σ.a 108 ((((σ.i 99) - 1) : Int32).toNatClampNeg))) hx hb hK hP b38 dX12_others_406 rfl ?_
    refine rP_113 hx hb hts i_X12_others_X12 hown hK hP hD hS (hts (.fieldLink RX12 615 "StatementRules2Model" "value" "I") k_X12_others_fieldLink_RX12_615_SRModel_value_I) dX12_others_407 (fun H locs hP hD hS => ?_)
    refine lv_aload_n hx hb dX12_others_410 rfl (lv_at hl 1 rfl) ?_
    refine lv_aload_n hx hb dX12_others_411 rfl (lv_at hl 1 rfl) ?_
    refine rG_109 hx hb hts i_X12_others_X12 hown hK hP (hts (.fieldLink RX12 270 "StatementRules2Model" "rThing" "[I") k_X12_others_fieldLink_RX12_270_SRModel_rThing_I) dX12_others_412 ?_
    refine lv_iload_n hx hb dX12_others_415 rfl (lv_at hl 0 rfl) ?_
    refine rL_109 (v := (σ.a 109 ((((σ.i 99) - 1) : Int32).toNatClampNeg))) hx hb hK hP b38 dX12_others_416 rfl ?_
    refine rP_114 hx hb hts i_X12_others_X12 hown hK hP hD hS (hts (.fieldLink RX12 595 "StatementRules2Model" "thing" "I") k_X12_others_fieldLink_RX12_595_SRModel_thing_I) dX12_others_417 (fun H locs hP hD hS => ?_)
    refine lv_aload_n hx hb dX12_others_420 rfl (lv_at hl 1 rfl) ?_
    refine lv_dup hx hb dX12_others_421 rfl ?_
    refine rG_99 (v := (σ.i 99)) hx hb hts i_X12_others_X12 hown hK hP (hts (.fieldLink RX12 586 "StatementRules2Model" "recs" "I") k_X12_others_fieldLink_RX12_586_SRModel_recs_I) dX12_others_422 rfl ?_
    refine lv_iconst (v := 1) hx hb dX12_others_425 (by decide) ?_
    refine lv_isub hx hb dX12_others_426 ?_
    refine rP_99 hx hb hts i_X12_others_X12 hown hK hP hD hS (hts (.fieldLink RX12 586 "StatementRules2Model" "recs" "I") k_X12_others_fieldLink_RX12_586_SRModel_recs_I) dX12_others_427 (fun H locs hP hD hS => ?_)
    refine lv_aload_n hx hb dX12_others_430 rfl (lv_at hl 1 rfl) ?_
    refine rG_110 (v := (σ.a 105 ((((σ.i 99) - 1) : Int32).toNatClampNeg))) hx hb hts i_X12_others_X12 hown hK hP (hts (.fieldLink RX12 597 "StatementRules2Model" "how" "I") k_X12_others_fieldLink_RX12_597_SRModel_how_I) dX12_others_431 rfl ?_
    refine lv_if_eq (tgt := 441) hx hb dX12_others_434 (by decide) (fun c39 => ?_) (fun c39 => ?_)
    ·
      replace hf := (if_pos c39).symm.trans hf
      obtain rfl := Option.some.inj hf
      exact W.vret hx hb hr (fun t ht hW => ⟨⟨(), rfl, trivial, by rw [ht]; exact hP, va_K.moved hW.alike hK, hD⟩, hS.F ht⟩) hS.2.2 dX12_others_441
    ·
      replace hf := (if_neg c39).symm.trans hf
      refine lv_aload_n hx hb dX12_others_437 rfl (lv_at hl 1 rfl) ?_
      obtain ⟨p40, hcp40, hf⟩ := hf_bind hf
      have hFc := r_free hD hS hA
      refine va_callv (va_runV (As := []) (rest := []) ⟨hx, hb, hml, hown, hts⟩ (c_X12_leave l dC dI _ Q N (RS.setI (RS.setI (RS.setI (RS.setI (RS.setI (RS.setI σ 110 (σ.a 105 ((((σ.i 99) - 1) : Int32).toNatClampNeg))) 111 (σ.a 106 ((((σ.i 99) - 1) : Int32).toNatClampNeg))) 112 (σ.a 107 ((((σ.i 99) - 1) : Int32).toNatClampNeg))) 113 (σ.a 108 ((((σ.i 99) - 1) : Int32).toNatClampNeg))) 114 (σ.a 109 ((((σ.i 99) - 1) : Int32).toNatClampNeg))) 99 ((σ.i 99) - 1)) p40 hcp40) (cwV 0 hts hX12_others_X12_leave_v648 rfl rfl rfl (by decide +kernel) ⟨Nat.le_of_ble_eq_true rfl, Nat.le_of_ble_eq_true rfl⟩) ⟨zPre.blind, va_recv hK hP (ci := 11) (q0 := 0) rfl rfl, zPre.go hZ hP hK hD⟩ rfl rfl hl.1 rfl (lv_room (Nat.le_of_ble_eq_true rfl)) dX12_others_438 ⟨Nat.le_of_ble_eq_true rfl, Nat.le_of_ble_eq_true rfl⟩) hS (fun q _ h => hFc q h) hFc (fun u9 t9 H1 locs ht hvm hw hB hz1 hk1 hS => ?_)
      obtain ⟨hP, hK1, hD1⟩ := hB
      rw [ht] at hP
      have hD := hD1.weaken (fun _ _ _ h => hFc _ h)
      generalize H1 = H at hP hS ⊢
      obtain rfl := Option.some.inj hf
      exact W.vret hx hb hr (fun t ht hW => ⟨⟨(), rfl, trivial, by rw [ht]; exact hP, va_K.moved hW.alike hK, hD⟩, hS.F ht⟩) hS.2.2 dX12_others_441
  replace hf := (if_neg c37).symm.trans hf
  by_cases c42 : (σ.a 21 ((x1 : Int32).toNatClampNeg)) = 31
  ·
    replace hf := (if_pos c42).symm.trans hf
    refine lv_tableIn (off := 229) (tgt := 242) hx hb dX12_others_13 (by rw [c42]; decide) (by rw [c42]; decide) (by rw [c42]; decide) (by decide) ?_
    refine lv_aload_n hx hb dX12_others_242 rfl (lv_at hl 1 rfl) ?_
    refine lv_iconst (v := 4) hx hb dX12_others_243 (by decide) ?_
    refine lv_iload_n hx hb dX12_others_244 rfl (lv_at hl 3 rfl) ?_
    refine lv_iconst (v := 0) hx hb dX12_others_245 (by decide) ?_
    refine lv_aload_n hx hb dX12_others_246 rfl (lv_at hl 1 rfl) ?_
    refine rG_95 (v := (σ.i 95)) hx hb hts i_X12_others_X12 hown hK hP (hts (.fieldLink RX12 600 "StatementRules2Model" "openMany" "I") k_X12_others_fieldLink_RX12_600_SRModel_openMany_I) dX12_others_247 rfl ?_
    obtain ⟨p43, hcp43, hf⟩ := hf_bind hf
    have hFc := r_free hD hS hA
    refine va_calli (va_runV (As := [.int 4, .int x2, .int 0, .int (σ.i 95)]) (rest := []) ⟨hx, hb, hml, hown, hts⟩ (c_X12_record l dC dI _ Q N σ 4 x2 0 (σ.i 95) p43 hcp43) (cwV 4 hts hX12_others_X12_record_v658 rfl rfl rfl (by decide +kernel) ⟨Nat.le_of_ble_eq_true rfl, Nat.le_of_ble_eq_true rfl⟩) ⟨zPre.blind, va_recv hK hP (ci := 11) (q0 := 0) rfl rfl, zPre.go hZ hP hK hD⟩ rfl rfl hl.1 rfl (lv_room (Nat.le_of_ble_eq_true rfl)) dX12_others_250 ⟨Nat.le_of_ble_eq_true rfl, Nat.le_of_ble_eq_true rfl⟩) hS (fun q _ h => hFc q h) hFc (fun r44 u9 t9 H1 locs ht hvm hw hB hz1 hk1 hS => ?_)
    obtain ⟨hP, hK1, hD1⟩ := hB
    rw [ht] at hP
    have hD := hD1.weaken (fun _ _ _ h => hFc _ h)
    generalize H1 = H at hP hS ⊢
    obtain rfl : r44 = p43.1 := hw
    refine lv_pop hx hb dX12_others_253 rfl ?_
    refine lv_goto (tgt := 441) hx hb dX12_others_254 (by decide) ?_
    obtain rfl := Option.some.inj hf
    exact W.vret hx hb hr (fun t ht hW => ⟨⟨(), rfl, trivial, by rw [ht]; exact hP, va_K.moved hW.alike hK, hD⟩, hS.F ht⟩) hS.2.2 dX12_others_441
  replace hf := (if_neg c42).symm.trans hf
  by_cases c45 : (σ.a 21 ((x1 : Int32).toNatClampNeg)) = 32
  ·
    replace hf := (if_pos c45).symm.trans hf
    refine lv_tableIn (off := 244) (tgt := 257) hx hb dX12_others_13 (by rw [c45]; decide) (by rw [c45]; decide) (by rw [c45]; decide) (by decide) ?_
    refine lv_aload_n hx hb dX12_others_257 rfl (lv_at hl 1 rfl) ?_
    refine rG_6 hx hb hts i_X12_others_X12 hown hK hP (hts (.fieldLink RX12 24 "StatementRules2Model" "opening" "[I") k_X12_others_fieldLink_RX12_24_SRModel_opening_I) dX12_others_258 ?_
    refine lv_iload_n hx hb dX12_others_261 rfl (lv_at hl 3 rfl) ?_
    obtain ⟨b46, hf⟩ := hf_ite hf
    refine rL_6 (v := (σ.a 6 ((x2 : Int32).toNatClampNeg))) hx hb hK hP b46 dX12_others_262 rfl ?_
    refine lv_if_le (tgt := 286) hx hb dX12_others_263 (by decide) (fun c47 => ?_) (fun c47 => ?_)
    ·
      replace hf := (if_pos c47).symm.trans hf
      refine lv_aload_n hx hb dX12_others_286 rfl (lv_at hl 1 rfl) ?_
      refine rG_5 hx hb hts i_X12_others_X12 hown hK hP (hts (.fieldLink RX12 20 "StatementRules2Model" "isNull" "[Z") k_X12_others_fieldLink_RX12_20_SRModel_isNull_Z) dX12_others_287 ?_
      refine lv_iload_n hx hb dX12_others_290 rfl (lv_at hl 3 rfl) ?_
      refine rL_5 (v := (σ.a 5 ((x2 : Int32).toNatClampNeg))) hx hb hK hP b46 dX12_others_291 rfl ?_
      refine lv_if_ne (tgt := 441) hx hb dX12_others_292 (by decide) (fun c48 => ?_) (fun c48 => ?_)
      ·
        replace hf := (if_neg c48).symm.trans hf
        obtain rfl := Option.some.inj hf
        exact W.vret hx hb hr (fun t ht hW => ⟨⟨(), rfl, trivial, by rw [ht]; exact hP, va_K.moved hW.alike hK, hD⟩, hS.F ht⟩) hS.2.2 dX12_others_441
      ·
        replace hf := (if_pos c48).symm.trans hf
        refine lv_aload_n hx hb dX12_others_295 rfl (lv_at hl 1 rfl) ?_
        refine lv_iconst (v := 1) hx hb dX12_others_296 (by decide) ?_
        refine lv_iload_n hx hb dX12_others_297 rfl (lv_at hl 3 rfl) ?_
        obtain ⟨p49, hcp49, hf⟩ := hf_bind hf
        have hFc := r_free hD hS hA
        refine va_callv (va_runV (As := [.int 1, .int x2]) (rest := []) ⟨hx, hb, hml, hown, hts⟩ (c_X12_row l dC dI _ Q N σ 1 x2 p49 hcp49) (cwV 2 hts hX12_others_X12_row_v603 rfl rfl rfl (by decide +kernel) ⟨Nat.le_of_ble_eq_true rfl, Nat.le_of_ble_eq_true rfl⟩) ⟨zPre.blind, va_recv hK hP (ci := 11) (q0 := 0) rfl rfl, zPre.go hZ hP hK hD⟩ rfl rfl hl.1 rfl (lv_room (Nat.le_of_ble_eq_true rfl)) dX12_others_298 ⟨Nat.le_of_ble_eq_true rfl, Nat.le_of_ble_eq_true rfl⟩) hS (fun q _ h => hFc q h) hFc (fun u9 t9 H1 locs ht hvm hw hB hz1 hk1 hS => ?_)
        obtain ⟨hP, hK1, hD1⟩ := hB
        rw [ht] at hP
        have hD := hD1.weaken (fun _ _ _ h => hFc _ h)
        generalize H1 = H at hP hS ⊢
        refine lv_aload_n hx hb dX12_others_301 rfl (lv_at hl 1 rfl) ?_
        refine rG_96 hx hb hts i_X12_others_X12 hown hK hP (hts (.fieldLink RX12 237 "StatementRules2Model" "openOf" "[I") k_X12_others_fieldLink_RX12_237_SRModel_openOf_I) dX12_others_302 ?_
        refine lv_aload_n hx hb dX12_others_305 rfl (lv_at hl 1 rfl) ?_
        refine rG_95 (v := (p49.i 95)) hx hb hts i_X12_others_X12 hown hK hP (hts (.fieldLink RX12 600 "StatementRules2Model" "openMany" "I") k_X12_others_fieldLink_RX12_600_SRModel_openMany_I) dX12_others_306 rfl ?_
        refine lv_iload_n hx hb dX12_others_309 rfl (lv_at hl 3 rfl) ?_
        obtain ⟨b51, hf⟩ := hf_ite hf
        refine rS_96 hx hb hK hP hD hS b51 dX12_others_310 (fun H locs hP hD hS => ?_)
        refine lv_aload_n hx hb dX12_others_311 rfl (lv_at hl 1 rfl) ?_
        refine lv_dup hx hb dX12_others_312 rfl ?_
        refine rG_95 (v := (p49.i 95)) hx hb hts i_X12_others_X12 hown hK hP (hts (.fieldLink RX12 600 "StatementRules2Model" "openMany" "I") k_X12_others_fieldLink_RX12_600_SRModel_openMany_I) dX12_others_313 rfl ?_
        refine lv_iconst (v := 1) hx hb dX12_others_316 (by decide) ?_
        refine lv_iadd hx hb dX12_others_317 ?_
        refine rP_95 hx hb hts i_X12_others_X12 hown hK hP hD hS (hts (.fieldLink RX12 600 "StatementRules2Model" "openMany" "I") k_X12_others_fieldLink_RX12_600_SRModel_openMany_I) dX12_others_318 (fun H locs hP hD hS => ?_)
        refine lv_goto (tgt := 441) hx hb dX12_others_321 (by decide) ?_
        obtain rfl := Option.some.inj hf
        exact W.vret hx hb hr (fun t ht hW => ⟨⟨(), rfl, trivial, by rw [ht]; exact hP, va_K.moved hW.alike hK, hD⟩, hS.F ht⟩) hS.2.2 dX12_others_441
    ·
      replace hf := (if_neg c47).symm.trans hf
      refine lv_aload_n hx hb dX12_others_266 rfl (lv_at hl 1 rfl) ?_
      refine lv_aload_n hx hb dX12_others_267 rfl (lv_at hl 1 rfl) ?_
      refine rG_6 hx hb hts i_X12_others_X12 hown hK hP (hts (.fieldLink RX12 24 "StatementRules2Model" "opening" "[I") k_X12_others_fieldLink_RX12_24_SRModel_opening_I) dX12_others_268 ?_
      refine lv_iload_n hx hb dX12_others_271 rfl (lv_at hl 3 rfl) ?_
      refine rL_6 (v := (σ.a 6 ((x2 : Int32).toNatClampNeg))) hx hb hK hP b46 dX12_others_272 rfl ?_
      refine lv_iconst (v := 1) hx hb dX12_others_273 (by decide) ?_
      refine lv_isub hx hb dX12_others_274 ?_
      refine lv_iload_n hx hb dX12_others_275 rfl (lv_at hl 3 rfl) ?_
      obtain ⟨p52, hcp52, hf⟩ := hf_bind hf
      have hFc := r_free hD hS hA
      refine va_callv (va_runV (As := [.int ((σ.a 6 ((x2 : Int32).toNatClampNeg)) - 1), .int x2]) (rest := []) ⟨hx, hb, hml, hown, hts⟩ (c_X12_raise l dC dI _ Q N σ ((σ.a 6 ((x2 : Int32).toNatClampNeg)) - 1) x2 p52 hcp52) (cwV 2 hts hX12_others_X12_raise_v606 rfl rfl rfl (by decide +kernel) ⟨Nat.le_of_ble_eq_true rfl, Nat.le_of_ble_eq_true rfl⟩) ⟨zPre.blind, va_recv hK hP (ci := 11) (q0 := 0) rfl rfl, zPre.go hZ hP hK hD⟩ rfl rfl hl.1 rfl (lv_room (Nat.le_of_ble_eq_true rfl)) dX12_others_276 ⟨Nat.le_of_ble_eq_true rfl, Nat.le_of_ble_eq_true rfl⟩) hS (fun q _ h => hFc q h) hFc (fun u9 t9 H1 locs ht hvm hw hB hz1 hk1 hS => ?_)
      obtain ⟨hP, hK1, hD1⟩ := hB
      rw [ht] at hP
      have hD := hD1.weaken (fun _ _ _ h => hFc _ h)
      generalize H1 = H at hP hS ⊢
      refine lv_aload_n hx hb dX12_others_279 rfl (lv_at hl 1 rfl) ?_
      obtain ⟨p54, hcp54, hf⟩ := hf_bind hf
      have hFc := r_free hD hS hA
      refine va_callv (va_runV (As := []) (rest := []) ⟨hx, hb, hml, hown, hts⟩ (c_X12_leave l dC dI _ Q N p52 p54 hcp54) (cwV 0 hts hX12_others_X12_leave_v648 rfl rfl rfl (by decide +kernel) ⟨Nat.le_of_ble_eq_true rfl, Nat.le_of_ble_eq_true rfl⟩) ⟨zPre.blind, va_recv hK hP (ci := 11) (q0 := 0) rfl rfl, zPre.go hZ hP hK hD⟩ rfl rfl hl.1 rfl (lv_room (Nat.le_of_ble_eq_true rfl)) dX12_others_280 ⟨Nat.le_of_ble_eq_true rfl, Nat.le_of_ble_eq_true rfl⟩) hS (fun q _ h => hFc q h) hFc (fun u9 t9 H1 locs ht hvm hw hB hz1 hk1 hS => ?_)
      obtain ⟨hP, hK1, hD1⟩ := hB
      rw [ht] at hP
      have hD := hD1.weaken (fun _ _ _ h => hFc _ h)
      generalize H1 = H at hP hS ⊢
      refine lv_goto (tgt := 441) hx hb dX12_others_283 (by decide) ?_
      obtain rfl := Option.some.inj hf
      exact W.vret hx hb hr (fun t ht hW => ⟨⟨(), rfl, trivial, by rw [ht]; exact hP, va_K.moved hW.alike hK, hD⟩, hS.F ht⟩) hS.2.2 dX12_others_441
  replace hf := (if_neg c45).symm.trans hf
  by_cases c56 : (σ.a 21 ((x1 : Int32).toNatClampNeg)) = 33
  ·
    replace hf := (if_pos c56).symm.trans hf
    refine lv_tableIn (off := 311) (tgt := 324) hx hb dX12_others_13 (by rw [c56]; decide) (by rw [c56]; decide) (by rw [c56]; decide) (by decide) ?_
    refine lv_aload_n hx hb dX12_others_324 rfl (lv_at hl 1 rfl) ?_
    refine lv_iconst (v := 0) hx hb dX12_others_325 (by decide) ?_
    refine rP_110 hx hb hts i_X12_others_X12 hown hK hP hD hS (hts (.fieldLink RX12 597 "StatementRules2Model" "how" "I") k_X12_others_fieldLink_RX12_597_SRModel_how_I) dX12_others_326 (fun H locs hP hD hS => ?_)
    refine lv_aload_n hx hb dX12_others_329 rfl (lv_at hl 1 rfl) ?_
    refine lv_iload_n hx hb dX12_others_330 rfl (lv_at hl 0 rfl) ?_
    obtain ⟨p57, hcp57, hf⟩ := hf_bind hf
    have hFc := r_free hD hS hA
    refine va_callv (va_runV (As := [.int ((σ.i 99) - 1)]) (rest := []) ⟨hx, hb, hml, hown, hts⟩ (c_X12_closeAll l dC dI _ Q N (RS.setI σ 110 0) ((σ.i 99) - 1) p57 hcp57) (cwV 1 hts hX12_others_X12_closeAll_v624 rfl rfl rfl (by decide +kernel) ⟨Nat.le_of_ble_eq_true rfl, Nat.le_of_ble_eq_true rfl⟩) ⟨zPre.blind, va_recv hK hP (ci := 11) (q0 := 0) rfl rfl, zPre.go hZ hP hK hD⟩ rfl rfl hl.1 rfl (lv_room (Nat.le_of_ble_eq_true rfl)) dX12_others_331 ⟨Nat.le_of_ble_eq_true rfl, Nat.le_of_ble_eq_true rfl⟩) hS (fun q _ h => hFc q h) hFc (fun u9 t9 H1 locs ht hvm hw hB hz1 hk1 hS => ?_)
    obtain ⟨hP, hK1, hD1⟩ := hB
    rw [ht] at hP
    have hD := hD1.weaken (fun _ _ _ h => hFc _ h)
    generalize H1 = H at hP hS ⊢
    refine lv_aload_n hx hb dX12_others_334 rfl (lv_at hl 1 rfl) ?_
    refine rG_110 (v := (p57.i 110)) hx hb hts i_X12_others_X12 hown hK hP (hts (.fieldLink RX12 597 "StatementRules2Model" "how" "I") k_X12_others_fieldLink_RX12_597_SRModel_how_I) dX12_others_335 rfl ?_
    refine lv_iconst (v := 3) hx hb dX12_others_338 (by decide) ?_
    refine lv_icmp_ne (tgt := 349) hx hb dX12_others_339 (by decide) (fun c59 => ?_) (fun c59 => ?_)
    ·
      replace hf := (if_neg c59).symm.trans hf
      refine lv_aload_n hx hb dX12_others_349 rfl (lv_at hl 1 rfl) ?_
      refine lv_iload_n hx hb dX12_others_350 rfl (lv_at hl 0 rfl) ?_
      obtain ⟨p60, hcp60, hf⟩ := hf_bind hf
      have hFc := r_free hD hS hA
      refine va_callv (va_runV (As := [.int ((σ.i 99) - 1)]) (rest := []) ⟨hx, hb, hml, hown, hts⟩ (c_X12_goOn l dC dI _ Q N p57 ((σ.i 99) - 1) p60 hcp60) (cwV 1 hts hX12_others_X12_goOn_v668 rfl rfl rfl (by decide +kernel) ⟨Nat.le_of_ble_eq_true rfl, Nat.le_of_ble_eq_true rfl⟩) ⟨zPre.blind, va_recv hK hP (ci := 11) (q0 := 0) rfl rfl, zPre.go hZ hP hK hD⟩ rfl rfl hl.1 rfl (lv_room (Nat.le_of_ble_eq_true rfl)) dX12_others_351 ⟨Nat.le_of_ble_eq_true rfl, Nat.le_of_ble_eq_true rfl⟩) hS (fun q _ h => hFc q h) hFc (fun u9 t9 H1 locs ht hvm hw hB hz1 hk1 hS => ?_)
      obtain ⟨hP, hK1, hD1⟩ := hB
      rw [ht] at hP
      have hD := hD1.weaken (fun _ _ _ h => hFc _ h)
      generalize H1 = H at hP hS ⊢
      refine lv_goto (tgt := 441) hx hb dX12_others_354 (by decide) ?_
      obtain rfl := Option.some.inj hf
      exact W.vret hx hb hr (fun t ht hW => ⟨⟨(), rfl, trivial, by rw [ht]; exact hP, va_K.moved hW.alike hK, hD⟩, hS.F ht⟩) hS.2.2 dX12_others_441
    ·
      replace hf := (if_pos c59).symm.trans hf
      refine lv_aload_n hx hb dX12_others_342 rfl (lv_at hl 1 rfl) ?_
      obtain ⟨p62, hcp62, hf⟩ := hf_bind hf
      have hFc := r_free hD hS hA
      refine va_callv (va_runV (As := []) (rest := []) ⟨hx, hb, hml, hown, hts⟩ (c_X12_leave l dC dI _ Q N p57 p62 hcp62) (cwV 0 hts hX12_others_X12_leave_v648 rfl rfl rfl (by decide +kernel) ⟨Nat.le_of_ble_eq_true rfl, Nat.le_of_ble_eq_true rfl⟩) ⟨zPre.blind, va_recv hK hP (ci := 11) (q0 := 0) rfl rfl, zPre.go hZ hP hK hD⟩ rfl rfl hl.1 rfl (lv_room (Nat.le_of_ble_eq_true rfl)) dX12_others_343 ⟨Nat.le_of_ble_eq_true rfl, Nat.le_of_ble_eq_true rfl⟩) hS (fun q _ h => hFc q h) hFc (fun u9 t9 H1 locs ht hvm hw hB hz1 hk1 hS => ?_)
      obtain ⟨hP, hK1, hD1⟩ := hB
      rw [ht] at hP
      have hD := hD1.weaken (fun _ _ _ h => hFc _ h)
      generalize H1 = H at hP hS ⊢
      refine lv_goto (tgt := 441) hx hb dX12_others_346 (by decide) ?_
      obtain rfl := Option.some.inj hf
      exact W.vret hx hb hr (fun t ht hW => ⟨⟨(), rfl, trivial, by rw [ht]; exact hP, va_K.moved hW.alike hK, hD⟩, hS.F ht⟩) hS.2.2 dX12_others_441
  replace hf := (if_neg c56).symm.trans hf
  by_cases c64 : (σ.a 21 ((x1 : Int32).toNatClampNeg)) = 34
  ·
    replace hf := (if_pos c64).symm.trans hf
    refine lv_tableIn (off := 344) (tgt := 357) hx hb dX12_others_13 (by rw [c64]; decide) (by rw [c64]; decide) (by rw [c64]; decide) (by decide) ?_
    refine lv_aload_n hx hb dX12_others_357 rfl (lv_at hl 1 rfl) ?_
    refine lv_iconst (v := 0) hx hb dX12_others_358 (by decide) ?_
    refine rP_110 hx hb hts i_X12_others_X12 hown hK hP hD hS (hts (.fieldLink RX12 597 "StatementRules2Model" "how" "I") k_X12_others_fieldLink_RX12_597_SRModel_how_I) dX12_others_359 (fun H locs hP hD hS => ?_)
    refine lv_aload_n hx hb dX12_others_362 rfl (lv_at hl 1 rfl) ?_
    refine lv_iload_n hx hb dX12_others_363 rfl (lv_at hl 0 rfl) ?_
    obtain ⟨p65, hcp65, hf⟩ := hf_bind hf
    have hFc := r_free hD hS hA
    refine va_callv (va_runV (As := [.int ((σ.i 99) - 1)]) (rest := []) ⟨hx, hb, hml, hown, hts⟩ (c_X12_goOn l dC dI _ Q N (RS.setI σ 110 0) ((σ.i 99) - 1) p65 hcp65) (cwV 1 hts hX12_others_X12_goOn_v668 rfl rfl rfl (by decide +kernel) ⟨Nat.le_of_ble_eq_true rfl, Nat.le_of_ble_eq_true rfl⟩) ⟨zPre.blind, va_recv hK hP (ci := 11) (q0 := 0) rfl rfl, zPre.go hZ hP hK hD⟩ rfl rfl hl.1 rfl (lv_room (Nat.le_of_ble_eq_true rfl)) dX12_others_364 ⟨Nat.le_of_ble_eq_true rfl, Nat.le_of_ble_eq_true rfl⟩) hS (fun q _ h => hFc q h) hFc (fun u9 t9 H1 locs ht hvm hw hB hz1 hk1 hS => ?_)
    obtain ⟨hP, hK1, hD1⟩ := hB
    rw [ht] at hP
    have hD := hD1.weaken (fun _ _ _ h => hFc _ h)
    generalize H1 = H at hP hS ⊢
    refine lv_goto (tgt := 441) hx hb dX12_others_367 (by decide) ?_
    obtain rfl := Option.some.inj hf
    exact W.vret hx hb hr (fun t ht hW => ⟨⟨(), rfl, trivial, by rw [ht]; exact hP, va_K.moved hW.alike hK, hD⟩, hS.F ht⟩) hS.2.2 dX12_others_441
  replace hf := (if_neg c64).symm.trans hf
  refine lv_tableOut (tgt := 370) hx hb dX12_others_13 (by have := z_ton (a := 23) c2 (by decide); have := z_ton (a := 24) c8 (by decide); have := z_ton (a := 25) c15 (by decide); have := z_ton (a := 26) c17 (by decide); have := z_ton (a := 27) c22 (by decide); have := z_ton (a := 28) c27 (by decide); have := z_ton (a := 29) c32 (by decide); have := z_ton (a := 30) c37 (by decide); have := z_ton (a := 31) c42 (by decide); have := z_ton (a := 32) c45 (by decide); have := z_ton (a := 33) c56 (by decide); have := z_ton (a := 34) c64 (by decide); omega) (by decide) ?_
  refine lv_aload_n hx hb dX12_others_370 rfl (lv_at hl 1 rfl) ?_
  refine lv_aload_n hx hb dX12_others_371 rfl (lv_at hl 1 rfl) ?_
  refine rG_105 hx hb hts i_X12_others_X12 hown hK hP (hts (.fieldLink RX12 258 "StatementRules2Model" "rHow" "[I") k_X12_others_fieldLink_RX12_258_SRModel_rHow_I) dX12_others_372 ?_
  refine lv_iload_n hx hb dX12_others_375 rfl (lv_at hl 0 rfl) ?_
  obtain ⟨b67, hf⟩ := hf_ite hf
  refine rL_105 (v := (σ.a 105 ((((σ.i 99) - 1) : Int32).toNatClampNeg))) hx hb hK hP b67 dX12_others_376 rfl ?_
  refine rP_110 hx hb hts i_X12_others_X12 hown hK hP hD hS (hts (.fieldLink RX12 597 "StatementRules2Model" "how" "I") k_X12_others_fieldLink_RX12_597_SRModel_how_I) dX12_others_377 (fun H locs hP hD hS => ?_)
  refine lv_aload_n hx hb dX12_others_380 rfl (lv_at hl 1 rfl) ?_
  refine lv_aload_n hx hb dX12_others_381 rfl (lv_at hl 1 rfl) ?_
  refine rG_106 hx hb hts i_X12_others_X12 hown hK hP (hts (.fieldLink RX12 261 "StatementRules2Model" "rTo" "[I") k_X12_others_fieldLink_RX12_261_SRModel_rTo_I) dX12_others_382 ?_
  refine lv_iload_n hx hb dX12_others_385 rfl (lv_at hl 0 rfl) ?_
  refine rL_106 (v := (σ.a 106 ((((σ.i 99) - 1) : Int32).toNatClampNeg))) hx hb hK hP b67 dX12_others_386 rfl ?_
  refine rP_111 hx hb hts i_X12_others_X12 hown hK hP hD hS (hts (.fieldLink RX12 609 "StatementRules2Model" "goTo" "I") k_X12_others_fieldLink_RX12_609_SRModel_goTo_I) dX12_others_387 (fun H locs hP hD hS => ?_)
  refine lv_aload_n hx hb dX12_others_390 rfl (lv_at hl 1 rfl) ?_
  refine lv_aload_n hx hb dX12_others_391 rfl (lv_at hl 1 rfl) ?_
  refine rG_107 hx hb hts i_X12_others_X12 hown hK hP (hts (.fieldLink RX12 264 "StatementRules2Model" "rDepth" "[I") k_X12_others_fieldLink_RX12_264_SRModel_rDepth_I) dX12_others_392 ?_
  refine lv_iload_n hx hb dX12_others_395 rfl (lv_at hl 0 rfl) ?_
  refine rL_107 (v := (σ.a 107 ((((σ.i 99) - 1) : Int32).toNatClampNeg))) hx hb hK hP b67 dX12_others_396 rfl ?_
  refine rP_112 hx hb hts i_X12_others_X12 hown hK hP hD hS (hts (.fieldLink RX12 612 "StatementRules2Model" "goDepth" "I") k_X12_others_fieldLink_RX12_612_SRModel_goDepth_I) dX12_others_397 (fun H locs hP hD hS => ?_)
  refine lv_aload_n hx hb dX12_others_400 rfl (lv_at hl 1 rfl) ?_
  refine lv_aload_n hx hb dX12_others_401 rfl (lv_at hl 1 rfl) ?_
  refine rG_108 hx hb hts i_X12_others_X12 hown hK hP (hts (.fieldLink RX12 267 "StatementRules2Model" "rValue" "[I") k_X12_others_fieldLink_RX12_267_SRModel_rValue_I) dX12_others_402 ?_
  refine lv_iload_n hx hb dX12_others_405 rfl (lv_at hl 0 rfl) ?_
  refine rL_108 (v := (σ.a 108 ((((σ.i 99) - 1) : Int32).toNatClampNeg))) hx hb hK hP b67 dX12_others_406 rfl ?_
  refine rP_113 hx hb hts i_X12_others_X12 hown hK hP hD hS (hts (.fieldLink RX12 615 "StatementRules2Model" "value" "I") k_X12_others_fieldLink_RX12_615_SRModel_value_I) dX12_others_407 (fun H locs hP hD hS => ?_)
  refine lv_aload_n hx hb dX12_others_410 rfl (lv_at hl 1 rfl) ?_
  refine lv_aload_n hx hb dX12_others_411 rfl (lv_at hl 1 rfl) ?_
  refine rG_109 hx hb hts i_X12_others_X12 hown hK hP (hts (.fieldLink RX12 270 "StatementRules2Model" "rThing" "[I") k_X12_others_fieldLink_RX12_270_SRModel_rThing_I) dX12_others_412 ?_
  refine lv_iload_n hx hb dX12_others_415 rfl (lv_at hl 0 rfl) ?_
  refine rL_109 (v := (σ.a 109 ((((σ.i 99) - 1) : Int32).toNatClampNeg))) hx hb hK hP b67 dX12_others_416 rfl ?_
  refine rP_114 hx hb hts i_X12_others_X12 hown hK hP hD hS (hts (.fieldLink RX12 595 "StatementRules2Model" "thing" "I") k_X12_others_fieldLink_RX12_595_SRModel_thing_I) dX12_others_417 (fun H locs hP hD hS => ?_)
  refine lv_aload_n hx hb dX12_others_420 rfl (lv_at hl 1 rfl) ?_
  refine lv_dup hx hb dX12_others_421 rfl ?_
  refine rG_99 (v := (σ.i 99)) hx hb hts i_X12_others_X12 hown hK hP (hts (.fieldLink RX12 586 "StatementRules2Model" "recs" "I") k_X12_others_fieldLink_RX12_586_SRModel_recs_I) dX12_others_422 rfl ?_
  refine lv_iconst (v := 1) hx hb dX12_others_425 (by decide) ?_
  refine lv_isub hx hb dX12_others_426 ?_
  refine rP_99 hx hb hts i_X12_others_X12 hown hK hP hD hS (hts (.fieldLink RX12 586 "StatementRules2Model" "recs" "I") k_X12_others_fieldLink_RX12_586_SRModel_recs_I) dX12_others_427 (fun H locs hP hD hS => ?_)
  refine lv_aload_n hx hb dX12_others_430 rfl (lv_at hl 1 rfl) ?_
  refine rG_110 (v := (σ.a 105 ((((σ.i 99) - 1) : Int32).toNatClampNeg))) hx hb hts i_X12_others_X12 hown hK hP (hts (.fieldLink RX12 597 "StatementRules2Model" "how" "I") k_X12_others_fieldLink_RX12_597_SRModel_how_I) dX12_others_431 rfl ?_
  refine lv_if_eq (tgt := 441) hx hb dX12_others_434 (by decide) (fun c68 => ?_) (fun c68 => ?_)
  ·
    replace hf := (if_pos c68).symm.trans hf
    obtain rfl := Option.some.inj hf
    exact W.vret hx hb hr (fun t ht hW => ⟨⟨(), rfl, trivial, by rw [ht]; exact hP, va_K.moved hW.alike hK, hD⟩, hS.F ht⟩) hS.2.2 dX12_others_441
  ·
    replace hf := (if_neg c68).symm.trans hf
    refine lv_aload_n hx hb dX12_others_437 rfl (lv_at hl 1 rfl) ?_
    obtain ⟨p69, hcp69, hf⟩ := hf_bind hf
    have hFc := r_free hD hS hA
    refine va_callv (va_runV (As := []) (rest := []) ⟨hx, hb, hml, hown, hts⟩ (c_X12_leave l dC dI _ Q N (RS.setI (RS.setI (RS.setI (RS.setI (RS.setI (RS.setI σ 110 (σ.a 105 ((((σ.i 99) - 1) : Int32).toNatClampNeg))) 111 (σ.a 106 ((((σ.i 99) - 1) : Int32).toNatClampNeg))) 112 (σ.a 107 ((((σ.i 99) - 1) : Int32).toNatClampNeg))) 113 (σ.a 108 ((((σ.i 99) - 1) : Int32).toNatClampNeg))) 114 (σ.a 109 ((((σ.i 99) - 1) : Int32).toNatClampNeg))) 99 ((σ.i 99) - 1)) p69 hcp69) (cwV 0 hts hX12_others_X12_leave_v648 rfl rfl rfl (by decide +kernel) ⟨Nat.le_of_ble_eq_true rfl, Nat.le_of_ble_eq_true rfl⟩) ⟨zPre.blind, va_recv hK hP (ci := 11) (q0 := 0) rfl rfl, zPre.go hZ hP hK hD⟩ rfl rfl hl.1 rfl (lv_room (Nat.le_of_ble_eq_true rfl)) dX12_others_438 ⟨Nat.le_of_ble_eq_true rfl, Nat.le_of_ble_eq_true rfl⟩) hS (fun q _ h => hFc q h) hFc (fun u9 t9 H1 locs ht hvm hw hB hz1 hk1 hS => ?_)
    obtain ⟨hP, hK1, hD1⟩ := hB
    rw [ht] at hP
    have hD := hD1.weaken (fun _ _ _ h => hFc _ h)
    generalize H1 = H at hP hS ⊢
    obtain rfl := Option.some.inj hf
    exact W.vret hx hb hr (fun t ht hW => ⟨⟨(), rfl, trivial, by rw [ht]; exact hP, va_K.moved hW.alike hK, hD⟩, hS.F ht⟩) hS.2.2 dX12_others_441
