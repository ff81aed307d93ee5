section
theorem k_X12_run_fieldLink_RX12_273_SRModel_thrown_I : Cond.fieldLink RX12 273 "StatementRules2Model" "thrown" "I" ∈ wzX12_run := List.mem_cons_of_mem _ (List.mem_append_left _ (List.mem_of_getElem? (i := 0) rfl))
theorem i_X12_run_X12 : ∀ w ∈ wsX120, w ∈ wzX12_run := fun _ h => List.mem_cons_of_mem _ (List.mem_append_right _ (List.mem_append_left _ (h)))
theorem k_X12_run_fieldLink_RX12_577_SRModel_hasProgram_Z : Cond.fieldLink RX12 577 "StatementRules2Model" "hasProgram" "Z" ∈ wzX12_run := List.mem_cons_of_mem _ (List.mem_append_left _ (List.mem_of_getElem? (i := 1) rfl))
theorem k_X12_run_fieldLink_RX12_213_SRModel_vals_I : Cond.fieldLink RX12 213 "StatementRules2Model" "vals" "[I" ∈ wzX12_run := List.mem_cons_of_mem _ (List.mem_append_left _ (List.mem_of_getElem? (i := 2) rfl))
theorem k_X12_run_fieldLink_RX12_639_SRModel_steps_I : Cond.fieldLink RX12 639 "StatementRules2Model" "steps" "I" ∈ wzX12_run := List.mem_cons_of_mem _ (List.mem_append_left _ (List.mem_of_getElem? (i := 3) rfl))
theorem k_X12_run_fieldLink_RX12_583_SRModel_rowMany_I : Cond.fieldLink RX12 583 "StatementRules2Model" "rowMany" "I" ∈ wzX12_run := List.mem_cons_of_mem _ (List.mem_append_left _ (List.mem_of_getElem? (i := 4) rfl))
theorem k_X12_run_fieldLink_RX12_592_SRModel_things_I : Cond.fieldLink RX12 592 "StatementRules2Model" "things" "I" ∈ wzX12_run := List.mem_cons_of_mem _ (List.mem_append_left _ (List.mem_of_getElem? (i := 5) rfl))
theorem k_X12_run_fieldLink_RX12_600_SRModel_openMany_I : Cond.fieldLink RX12 600 "StatementRules2Model" "openMany" "I" ∈ wzX12_run := List.mem_cons_of_mem _ (List.mem_append_left _ (List.mem_of_getElem? (i := 6) rfl))
theorem k_X12_run_fieldLink_RX12_621_SRModel_waiting_I : Cond.fieldLink RX12 621 "StatementRules2Model" "waiting" "I" ∈ wzX12_run := List.mem_cons_of_mem _ (List.mem_append_left _ (List.mem_of_getElem? (i := 7) rfl))
theorem k_X12_run_fieldLink_RX12_586_SRModel_recs_I : Cond.fieldLink RX12 586 "StatementRules2Model" "recs" "I" ∈ wzX12_run := List.mem_cons_of_mem _ (List.mem_append_left _ (List.mem_of_getElem? (i := 8) rfl))
theorem k_X12_run_fieldLink_RX12_589_SRModel_high_I : Cond.fieldLink RX12 589 "StatementRules2Model" "high" "I" ∈ wzX12_run := List.mem_cons_of_mem _ (List.mem_append_left _ (List.mem_of_getElem? (i := 9) rfl))
theorem k_X12_run_fieldLink_RX12_580_SRModel_hasRun_Z : Cond.fieldLink RX12 580 "StatementRules2Model" "hasRun" "Z" ∈ wzX12_run := List.mem_cons_of_mem _ (List.mem_append_left _ (List.mem_of_getElem? (i := 10) rfl))
theorem k_X12_run_fieldLink_RX12_636_SRModel_ended_I : Cond.fieldLink RX12 636 "StatementRules2Model" "ended" "I" ∈ wzX12_run := List.mem_cons_of_mem _ (List.mem_append_left _ (List.mem_of_getElem? (i := 11) rfl))
theorem k_X12_run_fieldLink_RX12_618_SRModel_pc_I : Cond.fieldLink RX12 618 "StatementRules2Model" "pc" "I" ∈ wzX12_run := List.mem_cons_of_mem _ (List.mem_append_left _ (List.mem_of_getElem? (i := 12) rfl))
theorem k_X12_run_fieldLink_RX12_358_SRModel_codes_I : Cond.fieldLink RX12 358 "StatementRules2Model" "codes" "I" ∈ wzX12_run := List.mem_cons_of_mem _ (List.mem_append_left _ (List.mem_of_getElem? (i := 13) rfl))
theorem k_X12_run_fieldLink_RX12_231_SRModel_held_I : Cond.fieldLink RX12 231 "StatementRules2Model" "held" "[I" ∈ wzX12_run := List.mem_cons_of_mem _ (List.mem_append_left _ (List.mem_of_getElem? (i := 14) rfl))
set_option maxHeartbeats 4000000 in
set_option maxRecDepth 100000 in
theorem j_X12_run_163 {p : Program} {e : Env} {s : State} {m : MethodId} {args : Array Value} {below : List Frame} {meth : Method} {c : Code} {A : Nat → Prop} (l : Launch) (dC : Nat → ClassId) (dI : Nat → Nat → Nat) (Q : RQ) (N : Nat) (R : Int32 × RS) (hx : p.tables.exec = Jvm.exec) (hb : c.code = cX12_run) (hr : meth.sig.returnType = (some .int)) (hml : c.maxLocals = 4) (hown : s.vm.findClass RX12 = some m.cls) (hts : ∀ w ∈ wzX12_run, w.before args s = true) (hlocks : meth.locks = false) (hZ : zAMB s) (hA : ∀ q : Nat, s.heap.size ≤ q → A q) (hK : va_K (dC, dI) vwCl (rT Q) s) : ∀ (σ : RS) (H : Heap) (locs : List Loc) (ls : Array Slot), f_X12_run_163 N σ = some R → va_P (dC, dI) vwCl (rW Q σ) H → va_D A (rW Q σ) → va_S A s.heap H locs → lv_has ls 4 [(0, .ref Q.h0)] → W p l e ({ frames := 7, cells := 0, slots := 0, locals := 420 }) s m args below meth c H locs 0 0 (MQ below (va_Qi (fun (r : Int32) (_ : Unit) => r = R.1) (fun (_ : Unit) (t : State) => zPost dC dI A (rW Q R.2) (rT Q) t) A) args s 0 0 A) (F0 m 163 ls []) := by
  intro σ  H locs ls hf hP hD hS hl
  unfold f_X12_run_163 at hf
  refine lv_aload_n hx hb dX12_run_163 rfl (lv_at hl 0 rfl) ?_
  refine rG_115 (v := (σ.i 115)) hx hb hts i_X12_run_X12 hown hK hP (hts (.fieldLink RX12 636 "StatementRules2Model" "ended" "I") k_X12_run_fieldLink_RX12_636_SRModel_ended_I) dX12_run_164 rfl ?_
  refine lv_iconst (v := 2) hx hb dX12_run_167 (by decide) ?_
  refine lv_icmp_ne (tgt := 175) hx hb dX12_run_168 (by decide) (fun c5 => ?_) (fun c5 => ?_)
  ·
    replace hf := (if_neg c5).symm.trans hf
    refine lv_aload_n hx hb dX12_run_175 rfl (lv_at hl 0 rfl) ?_
    refine rG_115 (v := (σ.i 115)) hx hb hts i_X12_run_X12 hown hK hP (hts (.fieldLink RX12 636 "StatementRules2Model" "ended" "I") k_X12_run_fieldLink_RX12_636_SRModel_ended_I) dX12_run_176 rfl ?_
    refine lv_iconst (v := 3) hx hb dX12_run_179 (by decide) ?_
    refine lv_icmp_ne (tgt := 187) hx hb dX12_run_180 (by decide) (fun c6 => ?_) (fun c6 => ?_)
    ·
      replace hf := (if_neg c6).symm.trans hf
      refine lv_aload_n hx hb dX12_run_187 rfl (lv_at hl 0 rfl) ?_
      refine rG_115 (v := (σ.i 115)) hx hb hts i_X12_run_X12 hown hK hP (hts (.fieldLink RX12 636 "StatementRules2Model" "ended" "I") k_X12_run_fieldLink_RX12_636_SRModel_ended_I) dX12_run_188 rfl ?_
      refine lv_iconst (v := 5) hx hb dX12_run_191 (by decide) ?_
      refine lv_icmp_ne (tgt := 199) hx hb dX12_run_192 (by decide) (fun c7 => ?_) (fun c7 => ?_)
      ·
        replace hf := (if_neg c7).symm.trans hf
        refine lv_iconst (v := 0) hx hb dX12_run_199 (by decide) ?_
        obtain rfl := Option.some.inj hf
        exact W.iret (v := 0) hx hb hr (fun t ht hW => ⟨⟨0, (), rfl, rfl, by rw [ht]; exact hP, va_K.moved hW.alike hK, hD⟩, hS.F ht⟩) hS.2.2 dX12_run_200
      ·
        replace hf := (if_pos c7).symm.trans hf
        refine lv_iconst (v := 3) hx hb dX12_run_195 (by decide) ?_
        refine lv_goto (tgt := 200) hx hb dX12_run_196 (by decide) ?_
        obtain rfl := Option.some.inj hf
        exact W.iret (v := 3) hx hb hr (fun t ht hW => ⟨⟨3, (), rfl, rfl, by rw [ht]; exact hP, va_K.moved hW.alike hK, hD⟩, hS.F ht⟩) hS.2.2 dX12_run_200
    ·
      replace hf := (if_pos c6).symm.trans hf
      refine lv_iconst (v := 2) hx hb dX12_run_183 (by decide) ?_
      refine lv_goto (tgt := 200) hx hb dX12_run_184 (by decide) ?_
      obtain rfl := Option.some.inj hf
      exact W.iret (v := 2) hx hb hr (fun t ht hW => ⟨⟨2, (), rfl, rfl, by rw [ht]; exact hP, va_K.moved hW.alike hK, hD⟩, hS.F ht⟩) hS.2.2 dX12_run_200
  ·
    replace hf := (if_pos c5).symm.trans hf
    refine lv_iconst (v := 1) hx hb dX12_run_171 (by decide) ?_
    refine lv_goto (tgt := 200) hx hb dX12_run_172 (by decide) ?_
    obtain rfl := Option.some.inj hf
    exact W.iret (v := 1) hx hb hr (fun t ht hW => ⟨⟨1, (), rfl, rfl, by rw [ht]; exact hP, va_K.moved hW.alike hK, hD⟩, hS.F ht⟩) hS.2.2 dX12_run_200
set_option maxHeartbeats 4000000 in
set_option maxRecDepth 100000 in
theorem j_X12_run_122 {p : Program} {e : Env} {s : State} {m : MethodId} {args : Array Value} {below : List Frame} {meth : Method} {c : Code} {A : Nat → Prop} (l : Launch) (dC : Nat → ClassId) (dI : Nat → Nat → Nat) (Q : RQ) (N : Nat) (R : Int32 × RS) (hx : p.tables.exec = Jvm.exec) (hb : c.code = cX12_run) (hr : meth.sig.returnType = (some .int)) (hml : c.maxLocals = 4) (hown : s.vm.findClass RX12 = some m.cls) (hts : ∀ w ∈ wzX12_run, w.before args s = true) (hlocks : meth.locks = false) (hZ : zAMB s) (hA : ∀ q : Nat, s.heap.size ≤ q → A q) (hK : va_K (dC, dI) vwCl (rT Q) s) : ∀ (n9 : Nat), ∀ (σ : RS) (H : Heap) (locs : List Loc) (ls : Array Slot), f_X12_run_122 N n9 σ = some R → va_P (dC, dI) vwCl (rW Q σ) H → va_D A (rW Q σ) → va_S A s.heap H locs → lv_has ls 4 [(0, .ref Q.h0)] → W p l e ({ frames := 7, cells := 0, slots := 0, locals := 420 }) s m args below meth c H locs 0 0 (MQ below (va_Qi (fun (r : Int32) (_ : Unit) => r = R.1) (fun (_ : Unit) (t : State) => zPost dC dI A (rW Q R.2) (rT Q) t) A) args s 0 0 A) (F0 m 122 ls []) := by
  intro n9
  induction n9 with
  | zero => intro σ  H locs ls hf; exact absurd hf (by intro h9; cases h9)
  | succ n9 ih =>
    intro σ  H locs ls hf hP hD hS hl
    replace hf : b_X12_run_122 N (f_X12_run_122 N n9) σ  = some R := hf
    unfold b_X12_run_122 at hf
    refine lv_aload_n hx hb dX12_run_122 rfl (lv_at hl 0 rfl) ?_
    refine rG_92 (v := (σ.i 92)) hx hb hts i_X12_run_X12 hown hK hP (hts (.fieldLink RX12 618 "StatementRules2Model" "pc" "I") k_X12_run_fieldLink_RX12_618_SRModel_pc_I) dX12_run_123 rfl ?_
    refine lv_if_lt (tgt := 163) hx hb dX12_run_126 (by decide) (fun c4 => ?_) (fun c4 => ?_)
    ·
      replace hf := (if_pos c4).symm.trans hf
      exact j_X12_run_163 l dC dI Q N R hx hb hr hml hown hts hlocks hZ hA hK σ _ _ _ hf hP hD hS (lv_sub hl [0] rfl)
    ·
      replace hf := (if_neg c4).symm.trans hf
      refine lv_aload_n hx hb dX12_run_129 rfl (lv_at hl 0 rfl) ?_
      refine rG_92 (v := (σ.i 92)) hx hb hts i_X12_run_X12 hown hK hP (hts (.fieldLink RX12 618 "StatementRules2Model" "pc" "I") k_X12_run_fieldLink_RX12_618_SRModel_pc_I) dX12_run_130 rfl ?_
      refine lv_aload_n hx hb dX12_run_133 rfl (lv_at hl 0 rfl) ?_
      refine rG_20 (v := (σ.i 20)) hx hb hts i_X12_run_X12 hown hK hP (hts (.fieldLink RX12 358 "StatementRules2Model" "codes" "I") k_X12_run_fieldLink_RX12_358_SRModel_codes_I) dX12_run_134 rfl ?_
      refine lv_icmp_ge (tgt := 163) hx hb dX12_run_137 (by decide) (fun c8 => ?_) (fun c8 => ?_)
      ·
        replace hf := (if_pos c8).symm.trans hf
        exact j_X12_run_163 l dC dI Q N R hx hb hr hml hown hts hlocks hZ hA hK σ _ _ _ hf hP hD hS (lv_sub hl [0] rfl)
      ·
        replace hf := (if_neg c8).symm.trans hf
        refine lv_aload_n hx hb dX12_run_140 rfl (lv_at hl 0 rfl) ?_
        refine rG_92 (v := (σ.i 92)) hx hb hts i_X12_run_X12 hown hK hP (hts (.fieldLink RX12 618 "StatementRules2Model" "pc" "I") k_X12_run_fieldLink_RX12_618_SRModel_pc_I) dX12_run_141 rfl ?_
        refine lv_istore_n (lv' := [(3, .int (σ.i 92)), (0, .ref Q.h0)]) hx hb dX12_run_144 rfl hl (by decide) rfl (fun ls hl => ?_)
        refine lv_aload_n hx hb dX12_run_145 rfl (lv_at hl 1 rfl) ?_
        refine lv_dup hx hb dX12_run_146 rfl ?_
        refine rG_92 (v := (σ.i 92)) hx hb hts i_X12_run_X12 hown hK hP (hts (.fieldLink RX12 618 "StatementRules2Model" "pc" "I") k_X12_run_fieldLink_RX12_618_SRModel_pc_I) dX12_run_147 rfl ?_
        refine lv_iconst (v := 1) hx hb dX12_run_150 (by decide) ?_
        refine lv_iadd hx hb dX12_run_151 ?_
        refine rP_92 hx hb hts i_X12_run_X12 hown hK hP hD hS (hts (.fieldLink RX12 618 "StatementRules2Model" "pc" "I") k_X12_run_fieldLink_RX12_618_SRModel_pc_I) dX12_run_152 (fun H locs hP hD hS => ?_)
        refine lv_aload_n hx hb dX12_run_155 rfl (lv_at hl 1 rfl) ?_
        refine lv_iload_n hx hb dX12_run_156 rfl (lv_at hl 0 rfl) ?_
        obtain ⟨p9, hcp9, hf⟩ := hf_bind hf
        have hFc := r_free hD hS hA
        refine va_callv (va_runV (As := [.int (σ.i 92)]) (rest := []) ⟨hx, hb, hml, hown, hts⟩ (c_X12_act l dC dI _ Q N (RS.setI σ 92 ((σ.i 92) + 1)) (σ.i 92) p9 hcp9) (cwV 1 hts hX12_run_X12_act_v671 rfl rfl rfl (by decide +kernel) ⟨Nat.le_of_ble_eq_true rfl, Nat.le_of_ble_eq_true rfl⟩) ⟨zPre.blind, va_recv hK hP (ci := 11) (q0 := 0) rfl rfl, zPre.go hZ hP hK hD⟩ rfl rfl hl.1 rfl (lv_room (Nat.le_of_ble_eq_true rfl)) dX12_run_157 ⟨Nat.le_of_ble_eq_true rfl, Nat.le_of_ble_eq_true rfl⟩) hS (fun q _ h => hFc q h) hFc (fun u9 t9 H1 locs ht hvm hw hB hz1 hk1 hS => ?_)
        obtain ⟨hP, hK1, hD1⟩ := hB
        rw [ht] at hP
        have hD := hD1.weaken (fun _ _ _ h => hFc _ h)
        generalize H1 = H at hP hS ⊢
        refine lv_goto (tgt := 122) hx hb dX12_run_160 (by decide) ?_
        exact ih p9 _ _ _ hf hP hD hS (lv_sub hl [1] rfl)
set_option maxHeartbeats 4000000 in
set_option maxRecDepth 100000 in
theorem j_X12_run_39 {p : Program} {e : Env} {s : State} {m : MethodId} {args : Array Value} {below : List Frame} {meth : Method} {c : Code} {A : Nat → Prop} (l : Launch) (dC : Nat → ClassId) (dI : Nat → Nat → Nat) (Q : RQ) (N : Nat) (R : Int32 × RS) (hx : p.tables.exec = Jvm.exec) (hb : c.code = cX12_run) (hr : meth.sig.returnType = (some .int)) (hml : c.maxLocals = 4) (hown : s.vm.findClass RX12 = some m.cls) (hts : ∀ w ∈ wzX12_run, w.before args s = true) (hlocks : meth.locks = false) (hZ : zAMB s) (hA : ∀ q : Nat, s.heap.size ≤ q → A q) (hK : va_K (dC, dI) vwCl (rT Q) s) : ∀ (n9 : Nat), ∀ (σ : RS) (x1 : Int32) (x2 : Int32) (x3 : Int32) (H : Heap) (locs : List Loc) (ls : Array Slot), f_X12_run_39 N n9 σ x1 x2 x3 = some R → va_P (dC, dI) vwCl (rW Q σ) H → va_D A (rW Q σ) → va_S A s.heap H locs → lv_has ls 4 [(0, .ref Q.h0), (1, .int x1), (2, .int x2), (3, .int x3)] → W p l e ({ frames := 7, cells := 0, slots := 0, locals := 420 }) s m args below meth c H locs 0 0 (MQ below (va_Qi (fun (r : Int32) (_ : Unit) => r = R.1) (fun (_ : Unit) (t : State) => zPost dC dI A (rW Q R.2) (rT Q) t) A) args s 0 0 A) (F0 m 39 ls []) := by
  intro n9
  induction n9 with
  | zero => intro σ x1 x2 x3 H locs ls hf; exact absurd hf (by intro h9; cases h9)
  | succ n9 ih =>
    intro σ x1 x2 x3 H locs ls hf hP hD hS hl
    replace hf : b_X12_run_39 N (f_X12_run_39 N n9) σ x1 x2 x3 = some R := hf
    unfold b_X12_run_39 at hf
    refine lv_iload_n hx hb dX12_run_39 rfl (lv_at hl 3 rfl) ?_
    refine lv_bipush (v := 8) hx hb dX12_run_40 (by decide) ?_
    refine lv_icmp_ge (tgt := 58) hx hb dX12_run_42 (by decide) (fun c3 => ?_) (fun c3 => ?_)
    ·
      replace hf := (if_pos c3).symm.trans hf
      refine lv_aload_n hx hb dX12_run_58 rfl (lv_at hl 0 rfl) ?_
      refine rG_84 hx hb hts i_X12_run_X12 hown hK hP (hts (.fieldLink RX12 213 "StatementRules2Model" "vals" "[I") k_X12_run_fieldLink_RX12_213_SRModel_vals_I) dX12_run_59 ?_
      refine lv_iconst (v := 0) hx hb dX12_run_62 (by decide) ?_
      refine lv_iload_n hx hb dX12_run_63 rfl (lv_at hl 1 rfl) ?_
      refine rS_84 hx hb hK hP hD hS (by decide) dX12_run_64 (fun H locs hP hD hS => ?_)
      refine lv_aload_n hx hb dX12_run_65 rfl (lv_at hl 0 rfl) ?_
      refine rG_84 hx hb hts i_X12_run_X12 hown hK hP (hts (.fieldLink RX12 213 "StatementRules2Model" "vals" "[I") k_X12_run_fieldLink_RX12_213_SRModel_vals_I) dX12_run_66 ?_
      refine lv_iconst (v := 1) hx hb dX12_run_69 (by decide) ?_
      refine lv_iload_n hx hb dX12_run_70 rfl (lv_at hl 2 rfl) ?_
      refine rS_84 hx hb hK hP hD hS (by decide) dX12_run_71 (fun H locs hP hD hS => ?_)
      refine lv_aload_n hx hb dX12_run_72 rfl (lv_at hl 0 rfl) ?_
      refine lv_iconst (v := 0) hx hb dX12_run_73 (by decide) ?_
      refine rP_80 hx hb hts i_X12_run_X12 hown hK hP hD hS (hts (.fieldLink RX12 639 "StatementRules2Model" "steps" "I") k_X12_run_fieldLink_RX12_639_SRModel_steps_I) dX12_run_74 (fun H locs hP hD hS => ?_)
      refine lv_aload_n hx hb dX12_run_77 rfl (lv_at hl 0 rfl) ?_
      refine lv_iconst (v := 0) hx hb dX12_run_78 (by decide) ?_
      refine rP_81 hx hb hts i_X12_run_X12 hown hK hP hD hS (hts (.fieldLink RX12 583 "StatementRules2Model" "rowMany" "I") k_X12_run_fieldLink_RX12_583_SRModel_rowMany_I) dX12_run_79 (fun H locs hP hD hS => ?_)
      refine lv_aload_n hx hb dX12_run_82 rfl (lv_at hl 0 rfl) ?_
      refine lv_iconst (v := 0) hx hb dX12_run_83 (by decide) ?_
      refine rP_85 hx hb hts i_X12_run_X12 hown hK hP hD hS (hts (.fieldLink RX12 592 "StatementRules2Model" "things" "I") k_X12_run_fieldLink_RX12_592_SRModel_things_I) dX12_run_84 (fun H locs hP hD hS => ?_)
      refine lv_aload_n hx hb dX12_run_87 rfl (lv_at hl 0 rfl) ?_
      refine lv_iconst (v := 0) hx hb dX12_run_88 (by decide) ?_
      refine rP_95 hx hb hts i_X12_run_X12 hown hK hP hD hS (hts (.fieldLink RX12 600 "StatementRules2Model" "openMany" "I") k_X12_run_fieldLink_RX12_600_SRModel_openMany_I) dX12_run_89 (fun H locs hP hD hS => ?_)
      refine lv_aload_n hx hb dX12_run_92 rfl (lv_at hl 0 rfl) ?_
      refine lv_iconst (v := 0) hx hb dX12_run_93 (by decide) ?_
      refine rP_97 hx hb hts i_X12_run_X12 hown hK hP hD hS (hts (.fieldLink RX12 621 "StatementRules2Model" "waiting" "I") k_X12_run_fieldLink_RX12_621_SRModel_waiting_I) dX12_run_94 (fun H locs hP hD hS => ?_)
      refine lv_aload_n hx hb dX12_run_97 rfl (lv_at hl 0 rfl) ?_
      refine lv_iconst (v := 0) hx hb dX12_run_98 (by decide) ?_
      refine rP_99 hx hb hts i_X12_run_X12 hown hK hP hD hS (hts (.fieldLink RX12 586 "StatementRules2Model" "recs" "I") k_X12_run_fieldLink_RX12_586_SRModel_recs_I) dX12_run_99 (fun H locs hP hD hS => ?_)
      refine lv_aload_n hx hb dX12_run_102 rfl (lv_at hl 0 rfl) ?_
      refine lv_iconst (v := 0) hx hb dX12_run_103 (by decide) ?_
      refine rP_93 hx hb hts i_X12_run_X12 hown hK hP hD hS (hts (.fieldLink RX12 589 "StatementRules2Model" "high" "I") k_X12_run_fieldLink_RX12_589_SRModel_high_I) dX12_run_104 (fun H locs hP hD hS => ?_)
      refine lv_aload_n hx hb dX12_run_107 rfl (lv_at hl 0 rfl) ?_
      refine lv_iconst (v := 1) hx hb dX12_run_108 (by decide) ?_
      refine rP_79 hx hb hts i_X12_run_X12 hown hK hP hD hS (hts (.fieldLink RX12 580 "StatementRules2Model" "hasRun" "Z") k_X12_run_fieldLink_RX12_580_SRModel_hasRun_Z) dX12_run_109 (by decide) (fun H locs hP hD hS => ?_)
      refine lv_aload_n hx hb dX12_run_112 rfl (lv_at hl 0 rfl) ?_
      refine lv_iconst (v := 0) hx hb dX12_run_113 (by decide) ?_
      refine rP_115 hx hb hts i_X12_run_X12 hown hK hP hD hS (hts (.fieldLink RX12 636 "StatementRules2Model" "ended" "I") k_X12_run_fieldLink_RX12_636_SRModel_ended_I) dX12_run_114 (fun H locs hP hD hS => ?_)
      refine lv_aload_n hx hb dX12_run_117 rfl (lv_at hl 0 rfl) ?_
      refine lv_iconst (v := 0) hx hb dX12_run_118 (by decide) ?_
      refine rP_92 hx hb hts i_X12_run_X12 hown hK hP hD hS (hts (.fieldLink RX12 618 "StatementRules2Model" "pc" "I") k_X12_run_fieldLink_RX12_618_SRModel_pc_I) dX12_run_119 (fun H locs hP hD hS => ?_)
      exact j_X12_run_122 l dC dI Q N R hx hb hr hml hown hts hlocks hZ hA hK N (RS.setI (RS.setI (RS.setI (RS.setI (RS.setI (RS.setI (RS.setI (RS.setI (RS.setI (RS.setI (RS.setA (RS.setA σ 84 ((0 : Int32).toNatClampNeg) x1) 84 ((1 : Int32).toNatClampNeg) x2) 80 0) 81 0) 85 0) 95 0) 97 0) 99 0) 93 0) 79 1) 115 0) 92 0) _ _ _ hf hP hD hS (lv_sub hl [0] rfl)
    ·
      replace hf := (if_neg c3).symm.trans hf
      refine lv_aload_n hx hb dX12_run_45 rfl (lv_at hl 0 rfl) ?_
      refine rG_91 hx hb hts i_X12_run_X12 hown hK hP (hts (.fieldLink RX12 231 "StatementRules2Model" "held" "[I") k_X12_run_fieldLink_RX12_231_SRModel_held_I) dX12_run_46 ?_
      refine lv_iload_n hx hb dX12_run_49 rfl (lv_at hl 3 rfl) ?_
      refine lv_iconst (v := 0) hx hb dX12_run_50 (by decide) ?_
      obtain ⟨b11, hf⟩ := hf_ite hf
      refine rS_91 hx hb hK hP hD hS b11 dX12_run_51 (fun H locs hP hD hS => ?_)
      refine lv_iinc (v := (x3 + 1)) (lv' := [(3, .int (x3 + 1)), (0, .ref Q.h0), (1, .int x1), (2, .int x2)]) hx hb dX12_run_52 hl (k := 3) rfl rfl (by decide) rfl (fun ls hl => ?_)
      refine lv_goto (tgt := 39) hx hb dX12_run_55 (by decide) ?_
      exact ih (RS.setA σ 91 ((x3 : Int32).toNatClampNeg) 0) x1 x2 (x3 + 1) _ _ _ hf hP hD hS (lv_sub hl [1, 2, 3, 0] rfl)
set_option maxHeartbeats 4000000 in
set_option maxRecDepth 100000 in
theorem j_X12_run_17 {p : Program} {e : Env} {s : State} {m : MethodId} {args : Array Value} {below : List Frame} {meth : Method} {c : Code} {A : Nat → Prop} (l : Launch) (dC : Nat → ClassId) (dI : Nat → Nat → Nat) (Q : RQ) (N : Nat) (R : Int32 × RS) (hx : p.tables.exec = Jvm.exec) (hb : c.code = cX12_run) (hr : meth.sig.returnType = (some .int)) (hml : c.maxLocals = 4) (hown : s.vm.findClass RX12 = some m.cls) (hts : ∀ w ∈ wzX12_run, w.before args s = true) (hlocks : meth.locks = false) (hZ : zAMB s) (hA : ∀ q : Nat, s.heap.size ≤ q → A q) (hK : va_K (dC, dI) vwCl (rT Q) s) : ∀ (n9 : Nat), ∀ (σ : RS) (x1 : Int32) (x2 : Int32) (x3 : Int32) (H : Heap) (locs : List Loc) (ls : Array Slot), f_X12_run_17 N n9 σ x1 x2 x3 = some R → va_P (dC, dI) vwCl (rW Q σ) H → va_D A (rW Q σ) → va_S A s.heap H locs → lv_has ls 4 [(0, .ref Q.h0), (1, .int x1), (2, .int x2), (3, .int x3)] → W p l e ({ frames := 7, cells := 0, slots := 0, locals := 420 }) s m args below meth c H locs 0 0 (MQ below (va_Qi (fun (r : Int32) (_ : Unit) => r = R.1) (fun (_ : Unit) (t : State) => zPost dC dI A (rW Q R.2) (rT Q) t) A) args s 0 0 A) (F0 m 17 ls []) := by
  intro n9
  induction n9 with
  | zero => intro σ x1 x2 x3 H locs ls hf; exact absurd hf (by intro h9; cases h9)
  | succ n9 ih =>
    intro σ x1 x2 x3 H locs ls hf hP hD hS hl
    replace hf : b_X12_run_17 N (f_X12_run_17 N n9) σ x1 x2 x3 = some R := hf
    unfold b_X12_run_17 at hf
    refine lv_iload_n hx hb dX12_run_17 rfl (lv_at hl 3 rfl) ?_
    refine lv_sipush (v := 460) hx hb dX12_run_18 (by decide) ?_
    refine lv_icmp_ge (tgt := 37) hx hb dX12_run_21 (by decide) (fun c2 => ?_) (fun c2 => ?_)
    ·
      replace hf := (if_pos c2).symm.trans hf
      refine lv_iconst (v := 0) hx hb dX12_run_37 (by decide) ?_
      refine lv_istore_n (lv' := [(3, .int 0), (0, .ref Q.h0), (1, .int x1), (2, .int x2)]) hx hb dX12_run_38 rfl hl (by decide) rfl (fun ls hl => ?_)
      exact j_X12_run_39 l dC dI Q N R hx hb hr hml hown hts hlocks hZ hA hK N σ x1 x2 0 _ _ _ hf hP hD hS (lv_sub hl [1, 2, 3, 0] rfl)
    ·
      replace hf := (if_neg c2).symm.trans hf
      refine lv_aload_n hx hb dX12_run_24 rfl (lv_at hl 0 rfl) ?_
      refine rG_84 hx hb hts i_X12_run_X12 hown hK hP (hts (.fieldLink RX12 213 "StatementRules2Model" "vals" "[I") k_X12_run_fieldLink_RX12_213_SRModel_vals_I) dX12_run_25 ?_
      refine lv_iload_n hx hb dX12_run_28 rfl (lv_at hl 3 rfl) ?_
      refine lv_iconst (v := 0) hx hb dX12_run_29 (by decide) ?_
      obtain ⟨b12, hf⟩ := hf_ite hf
      refine rS_84 hx hb hK hP hD hS b12 dX12_run_30 (fun H locs hP hD hS => ?_)
      refine lv_iinc (v := (x3 + 1)) (lv' := [(3, .int (x3 + 1)), (0, .ref Q.h0), (1, .int x1), (2, .int x2)]) hx hb dX12_run_31 hl (k := 3) rfl rfl (by decide) rfl (fun ls hl => ?_)
      refine lv_goto (tgt := 17) hx hb dX12_run_34 (by decide) ?_
      exact ih (RS.setA σ 84 ((x3 : Int32).toNatClampNeg) 0) x1 x2 (x3 + 1) _ _ _ hf hP hD hS (lv_sub hl [1, 2, 3, 0] rfl)
set_option maxHeartbeats 4000000 in
set_option maxRecDepth 100000 in
theorem c_X12_run (l : Launch) (dC : Nat → ClassId) (dI : Nat → Nat → Nat) (sz : Nat) (Q : RQ) (N : Nat) (σ : RS) (x1 : Int32) (x2 : Int32) (R : Int32 × RS) (hf : f_X12_run N σ x1 x2 = some R) : Met l yX12_run wzX12_run ({ frames := 7, cells := 0, slots := 0, locals := 420 }) (va_Pc [.ref Q.h0, .int x1, .int x2] (zPre dC dI sz (rW Q σ) (rT Q))) (va_Qi (fun (r : Int32) (_ : Unit) => r = R.1) (fun (_ : Unit) (t : State) => zPost dC dI (va_A (rW Q σ) sz) (rW Q R.2) (rT Q) t) (va_A (rW Q σ) sz)) 0 0 (va_A (rW Q σ) sz) := by
  refine Met.ofW (cc := cX12_run) (maxL := 4) (ret := (some .int)) (by decide) rfl ?_
  intro p e s m args below meth c s₁ B hml hv
  obtain ⟨rfl, hsz, hZ, hP, hK, hD0⟩ := hv
  have hx := B.exec
  have hb := B.bytes
  have hr := B.returns
  have hts := atoms_spec (ws := wzX12_run) B.pre
  have hown : s.vm.findClass RX12 = some m.cls := findClass_of_methodNamed B.named
  have hlocks := B.notSynchronized
  subst hsz
  have hD := hD0.self (sz := s.heap.size)
  generalize hAe : va_A (rW Q σ) s.heap.size = A at hD ⊢
  have hA : ∀ q : Nat, s.heap.size ≤ q → A q := fun q h => by rw [← hAe]; exact Or.inr h
  have hS : va_S A s.heap s.heap [] := va_S.rf
  have hl := lv_entry ([.ref Q.h0, .int x1, .int x2]) (n := 4) (Nat.le_of_ble_eq_true rfl)
  rw [lg_entry_eq]
  generalize (lg_sl ([.ref Q.h0, .int x1, .int x2]) ++ List.replicate (4 - (lg_sl ([.ref Q.h0, .int x1, .int x2])).length) Slot.unset).toArray = ls at hl ⊢
  have hl : lv_has ls 4 [(0, .ref Q.h0), (1, .int x1), (2, .int x2)] := hl
  unfold f_X12_run at hf
  refine lv_aload_n hx hb dX12_run_0 rfl (lv_at hl 0 rfl) ?_
  refine lv_iconst (v := 0) hx hb dX12_run_1 (by decide) ?_
  refine rP_0 hx hb hts i_X12_run_X12 hown hK hP hD hS (hts (.fieldLink RX12 273 "StatementRules2Model" "thrown" "I") k_X12_run_fieldLink_RX12_273_SRModel_thrown_I) dX12_run_2 (fun H locs hP hD hS => ?_)
  refine lv_aload_n hx hb dX12_run_5 rfl (lv_at hl 0 rfl) ?_
  refine rG_77 (v := (σ.i 77)) hx hb hts i_X12_run_X12 hown hK hP (hts (.fieldLink RX12 577 "StatementRules2Model" "hasProgram" "Z") k_X12_run_fieldLink_RX12_577_SRModel_hasProgram_Z) dX12_run_6 rfl ?_
  refine lv_if_ne (tgt := 15) hx hb dX12_run_9 (by decide) (fun c1 => ?_) (fun c1 => ?_)
  ·
    replace hf := (if_neg c1).symm.trans hf
    refine lv_iconst (v := 0) hx hb dX12_run_15 (by decide) ?_
    refine lv_istore_n (lv' := [(3, .int 0), (0, .ref Q.h0), (1, .int x1), (2, .int x2)]) hx hb dX12_run_16 rfl hl (by decide) rfl (fun ls hl => ?_)
    exact j_X12_run_17 l dC dI Q N R hx hb hr hml hown hts hlocks hZ hA hK N (RS.setI σ 0 0) x1 x2 0 _ _ _ hf hP hD hS (lv_sub hl [1, 2, 3, 0] rfl)
  ·
    replace hf := (if_pos c1).symm.trans hf
    refine lv_bipush (v := (-3)) hx hb dX12_run_12 (by decide) ?_
    obtain rfl := Option.some.inj hf
    exact W.iret (v := (-3)) hx hb hr (fun t ht hW => ⟨⟨(-3), (), rfl, rfl, by rw [ht]; exact hP, va_K.moved hW.alike hK, hD⟩, hS.F ht⟩) hS.2.2 dX12_run_14
theorem k_X12_ran_fieldLink_RX12_273_SRModel_thrown_I : Cond.fieldLink RX12 273 "StatementRules2Model" "thrown" "I" ∈ wzX12_ran := List.mem_cons_of_mem _ (List.mem_append_left _ (List.mem_of_getElem? (i := 0) rfl))
theorem i_X12_ran_X12 : ∀ w ∈ wsX120, w ∈ wzX12_ran := fun _ h => List.mem_cons_of_mem _ (List.mem_append_right _ (List.mem_append_left _ (h)))
theorem k_X12_ran_fieldLink_RX12_580_SRModel_hasRun_Z : Cond.fieldLink RX12 580 "StatementRules2Model" "hasRun" "Z" ∈ wzX12_ran := List.mem_cons_of_mem _ (List.mem_append_left _ (List.mem_of_getElem? (i := 1) rfl))
theorem k_X12_ran_fieldLink_RX12_636_SRModel_ended_I : Cond.fieldLink RX12 636 "StatementRules2Model" "ended" "I" ∈ wzX12_ran := List.mem_cons_of_mem _ (List.mem_append_left _ (List.mem_of_getElem? (i := 2) rfl))
theorem k_X12_ran_fieldLink_RX12_639_SRModel_steps_I : Cond.fieldLink RX12 639 "StatementRules2Model" "steps" "I" ∈ wzX12_ran := List.mem_cons_of_mem _ (List.mem_append_left _ (List.mem_of_getElem? (i := 3) rfl))
theorem k_X12_ran_fieldLink_RX12_583_SRModel_rowMany_I : Cond.fieldLink RX12 583 "StatementRules2Model" "rowMany" "I" ∈ wzX12_ran := List.mem_cons_of_mem _ (List.mem_append_left _ (List.mem_of_getElem? (i := 4) rfl))
theorem k_X12_ran_fieldLink_RX12_615_SRModel_value_I : Cond.fieldLink RX12 615 "StatementRules2Model" "value" "I" ∈ wzX12_ran := List.mem_cons_of_mem _ (List.mem_append_left _ (List.mem_of_getElem? (i := 5) rfl))
theorem k_X12_ran_fieldLink_RX12_216_SRModel_thingKind_I : Cond.fieldLink RX12 216 "StatementRules2Model" "thingKind" "[I" ∈ wzX12_ran := List.mem_cons_of_mem _ (List.mem_append_left _ (List.mem_of_getElem? (i := 6) rfl))
theorem k_X12_ran_fieldLink_RX12_595_SRModel_thing_I : Cond.fieldLink RX12 595 "StatementRules2Model" "thing" "I" ∈ wzX12_ran := List.mem_cons_of_mem _ (List.mem_append_left _ (List.mem_of_getElem? (i := 7) rfl))
theorem k_X12_ran_fieldLink_RX12_219_SRModel_thingNumber_I : Cond.fieldLink RX12 219 "StatementRules2Model" "thingNumber" "[I" ∈ wzX12_ran := List.mem_cons_of_mem _ (List.mem_append_left _ (List.mem_of_getElem? (i := 8) rfl))
theorem k_X12_ran_fieldLink_RX12_222_SRModel_suppressedMany_I : Cond.fieldLink RX12 222 "StatementRules2Model" "suppressedMany" "[I" ∈ wzX12_ran := List.mem_cons_of_mem _ (List.mem_append_left _ (List.mem_of_getElem? (i := 9) rfl))
theorem k_X12_ran_fieldLink_RX12_231_SRModel_held_I : Cond.fieldLink RX12 231 "StatementRules2Model" "held" "[I" ∈ wzX12_ran := List.mem_cons_of_mem _ (List.mem_append_left _ (List.mem_of_getElem? (i := 10) rfl))
set_option maxHeartbeats 4000000 in
set_option maxRecDepth 100000 in
theorem j_X12_ran_168 {p : Program} {e : Env} {s : State} {m : MethodId} {args : Array Value} {below : List Frame} {meth : Method} {c : Code} {A : Nat → Prop} (l : Launch) (dC : Nat → ClassId) (dI : Nat → Nat → Nat) (Q : RQ) (N : Nat) (R : Int32 × RS) (hx : p.tables.exec = Jvm.exec) (hb : c.code = cX12_ran) (hr : meth.sig.returnType = (some .int)) (hml : c.maxLocals = 5) (hown : s.vm.findClass RX12 = some m.cls) (hts : ∀ w ∈ wzX12_ran, w.before args s = true) (hlocks : meth.locks = false) (hZ : zAMB s) (hA : ∀ q : Nat, s.heap.size ≤ q → A q) (hK : va_K (dC, dI) vwCl (rT Q) s) : ∀ (n9 : Nat), ∀ (σ : RS) (x3 : Int32) (x4 : Int32) (H : Heap) (locs : List Loc) (ls : Array Slot), f_X12_ran_168 N n9 σ x3 x4 = some R → va_P (dC, dI) vwCl (rW Q σ) H → va_D A (rW Q σ) → va_S A s.heap H locs → lv_has ls 5 [(0, .ref Q.h0), (3, .int x3), (4, .int x4)] → W p l e ({ frames := 2, cells := 0, slots := 0, locals := 120 }) s m args below meth c H locs 0 0 (MQ below (va_Qi (fun (r : Int32) (_ : Unit) => r = R.1) (fun (_ : Unit) (t : State) => zPost dC dI A (rW Q R.2) (rT Q) t) A) args s 0 0 A) (F0 m 168 ls []) := by
  intro n9
  induction n9 with
  | zero => intro σ x3 x4 H locs ls hf; exact absurd hf (by intro h9; cases h9)
  | succ n9 ih =>
    intro σ x3 x4 H locs ls hf hP hD hS hl
    replace hf : b_X12_ran_168 N (f_X12_ran_168 N n9) σ x3 x4 = some R := hf
    unfold b_X12_ran_168 at hf
    refine lv_iload hx hb dX12_ran_168 (lv_at hl 2 rfl) ?_
    refine lv_bipush (v := 8) hx hb dX12_ran_170 (by decide) ?_
    refine lv_icmp_ge (tgt := 191) hx hb dX12_ran_172 (by decide) (fun c19 => ?_) (fun c19 => ?_)
    ·
      replace hf := (if_pos c19).symm.trans hf
      refine lv_iload_n hx hb dX12_ran_191 rfl (lv_at hl 1 rfl) ?_
      obtain rfl := Option.some.inj hf
      exact W.iret (v := x3) hx hb hr (fun t ht hW => ⟨⟨x3, (), rfl, rfl, by rw [ht]; exact hP, va_K.moved hW.alike hK, hD⟩, hS.F ht⟩) hS.2.2 dX12_ran_192
    ·
      replace hf := (if_neg c19).symm.trans hf
      refine lv_iload_n hx hb dX12_ran_175 rfl (lv_at hl 1 rfl) ?_
      refine lv_aload_n hx hb dX12_ran_176 rfl (lv_at hl 0 rfl) ?_
      refine rG_91 hx hb hts i_X12_ran_X12 hown hK hP (hts (.fieldLink RX12 231 "StatementRules2Model" "held" "[I") k_X12_ran_fieldLink_RX12_231_SRModel_held_I) dX12_ran_177 ?_
      refine lv_iload hx hb dX12_ran_180 (lv_at hl 2 rfl) ?_
      obtain ⟨b20, hf⟩ := hf_ite hf
      refine rL_91 (v := (σ.a 91 ((x4 : Int32).toNatClampNeg))) hx hb hK hP b20 dX12_ran_182 rfl ?_
      refine lv_iadd hx hb dX12_ran_183 ?_
      refine lv_istore_n (lv' := [(3, .int (x3 + (σ.a 91 ((x4 : Int32).toNatClampNeg)))), (0, .ref Q.h0), (4, .int x4)]) hx hb dX12_ran_184 rfl hl (by decide) rfl (fun ls hl => ?_)
      refine lv_iinc (v := (x4 + 1)) (lv' := [(4, .int (x4 + 1)), (3, .int (x3 + (σ.a 91 ((x4 : Int32).toNatClampNeg)))), (0, .ref Q.h0)]) hx hb dX12_ran_185 hl (k := 2) rfl rfl (by decide) rfl (fun ls hl => ?_)
      refine lv_goto (tgt := 168) hx hb dX12_ran_188 (by decide) ?_
      exact ih σ (x3 + (σ.a 91 ((x4 : Int32).toNatClampNeg))) (x4 + 1) _ _ _ hf hP hD hS (lv_sub hl [2, 1, 0] rfl)
set_option maxHeartbeats 4000000 in
set_option maxRecDepth 100000 in
theorem j_X12_ran_41 {p : Program} {e : Env} {s : State} {m : MethodId} {args : Array Value} {below : List Frame} {meth : Method} {c : Code} {A : Nat → Prop} (l : Launch) (dC : Nat → ClassId) (dI : Nat → Nat → Nat) (Q : RQ) (N : Nat) (R : Int32 × RS) (hx : p.tables.exec = Jvm.exec) (hb : c.code = cX12_ran) (hr : meth.sig.returnType = (some .int)) (hml : c.maxLocals = 5) (hown : s.vm.findClass RX12 = some m.cls) (hts : ∀ w ∈ wzX12_ran, w.before args s = true) (hlocks : meth.locks = false) (hZ : zAMB s) (hA : ∀ q : Nat, s.heap.size ≤ q → A q) (hK : va_K (dC, dI) vwCl (rT Q) s) : ∀ (σ : RS) (x1 : Int32) (x2 : Int32) (H : Heap) (locs : List Loc) (ls : Array Slot), f_X12_ran_41 N σ x1 x2 = some R → va_P (dC, dI) vwCl (rW Q σ) H → va_D A (rW Q σ) → va_S A s.heap H locs → lv_has ls 5 [(0, .ref Q.h0), (1, .int x1), (2, .int x2)] → W p l e ({ frames := 2, cells := 0, slots := 0, locals := 120 }) s m args below meth c H locs 0 0 (MQ below (va_Qi (fun (r : Int32) (_ : Unit) => r = R.1) (fun (_ : Unit) (t : State) => zPost dC dI A (rW Q R.2) (rT Q) t) A) args s 0 0 A) (F0 m 41 ls []) := by
  intro σ x1 x2 H locs ls hf hP hD hS hl
  unfold f_X12_ran_41 at hf
  refine lv_iconst (v := 0) hx hb dX12_ran_41 (by decide) ?_
  refine lv_istore_n (lv' := [(3, .int 0), (0, .ref Q.h0), (1, .int x1), (2, .int x2)]) hx hb dX12_ran_42 rfl hl (by decide) rfl (fun ls hl => ?_)
  refine lv_iload_n hx hb dX12_ran_43 rfl (lv_at hl 2 rfl) ?_
  by_cases c6 : x1 = 0
  ·
    replace hf := (if_pos c6).symm.trans hf
    refine lv_tableIn (off := 40) (tgt := 84) hx hb dX12_ran_44 (by rw [c6]; decide) (by rw [c6]; decide) (by rw [c6]; decide) (by decide) ?_
    refine lv_aload_n hx hb dX12_ran_84 rfl (lv_at hl 1 rfl) ?_
    refine rG_80 (v := (σ.i 80)) hx hb hts i_X12_ran_X12 hown hK hP (hts (.fieldLink RX12 639 "StatementRules2Model" "steps" "I") k_X12_ran_fieldLink_RX12_639_SRModel_steps_I) dX12_ran_85 rfl ?_
    obtain rfl := Option.some.inj hf
    exact W.iret (v := (σ.i 80)) hx hb hr (fun t ht hW => ⟨⟨(σ.i 80), (), rfl, rfl, by rw [ht]; exact hP, va_K.moved hW.alike hK, hD⟩, hS.F ht⟩) hS.2.2 dX12_ran_88
  replace hf := (if_neg c6).symm.trans hf
  by_cases c7 : x1 = 1
  ·
    replace hf := (if_pos c7).symm.trans hf
    refine lv_tableIn (off := 45) (tgt := 89) hx hb dX12_ran_44 (by rw [c7]; decide) (by rw [c7]; decide) (by rw [c7]; decide) (by decide) ?_
    refine lv_aload_n hx hb dX12_ran_89 rfl (lv_at hl 1 rfl) ?_
    refine rG_81 (v := (σ.i 81)) hx hb hts i_X12_ran_X12 hown hK hP (hts (.fieldLink RX12 583 "StatementRules2Model" "rowMany" "I") k_X12_ran_fieldLink_RX12_583_SRModel_rowMany_I) dX12_ran_90 rfl ?_
    obtain rfl := Option.some.inj hf
    exact W.iret (v := (σ.i 81)) hx hb hr (fun t ht hW => ⟨⟨(σ.i 81), (), rfl, rfl, by rw [ht]; exact hP, va_K.moved hW.alike hK, hD⟩, hS.F ht⟩) hS.2.2 dX12_ran_93
  replace hf := (if_neg c7).symm.trans hf
  by_cases c8 : x1 = 2
  ·
    replace hf := (if_pos c8).symm.trans hf
    refine lv_tableIn (off := 50) (tgt := 94) hx hb dX12_ran_44 (by rw [c8]; decide) (by rw [c8]; decide) (by rw [c8]; decide) (by decide) ?_
    refine lv_aload_n hx hb dX12_ran_94 rfl (lv_at hl 1 rfl) ?_
    refine rG_115 (v := (σ.i 115)) hx hb hts i_X12_ran_X12 hown hK hP (hts (.fieldLink RX12 636 "StatementRules2Model" "ended" "I") k_X12_ran_fieldLink_RX12_636_SRModel_ended_I) dX12_ran_95 rfl ?_
    refine lv_iconst (v := 2) hx hb dX12_ran_98 (by decide) ?_
    refine lv_icmp_ne (tgt := 109) hx hb dX12_ran_99 (by decide) (fun c9 => ?_) (fun c9 => ?_)
    ·
      replace hf := (if_neg c9).symm.trans hf
      refine lv_iconst (v := 0) hx hb dX12_ran_109 (by decide) ?_
      obtain rfl := Option.some.inj hf
      exact W.iret (v := 0) hx hb hr (fun t ht hW => ⟨⟨0, (), rfl, rfl, by rw [ht]; exact hP, va_K.moved hW.alike hK, hD⟩, hS.F ht⟩) hS.2.2 dX12_ran_110
    ·
      replace hf := (if_pos c9).symm.trans hf
      refine lv_aload_n hx hb dX12_ran_102 rfl (lv_at hl 1 rfl) ?_
      refine rG_113 (v := (σ.i 113)) hx hb hts i_X12_ran_X12 hown hK hP (hts (.fieldLink RX12 615 "StatementRules2Model" "value" "I") k_X12_ran_fieldLink_RX12_615_SRModel_value_I) dX12_ran_103 rfl ?_
      refine lv_goto (tgt := 110) hx hb dX12_ran_106 (by decide) ?_
      obtain rfl := Option.some.inj hf
      exact W.iret (v := (σ.i 113)) hx hb hr (fun t ht hW => ⟨⟨(σ.i 113), (), rfl, rfl, by rw [ht]; exact hP, va_K.moved hW.alike hK, hD⟩, hS.F ht⟩) hS.2.2 dX12_ran_110
  replace hf := (if_neg c8).symm.trans hf
  by_cases c10 : x1 = 3
  ·
    replace hf := (if_pos c10).symm.trans hf
    refine lv_tableIn (off := 67) (tgt := 111) hx hb dX12_ran_44 (by rw [c10]; decide) (by rw [c10]; decide) (by rw [c10]; decide) (by decide) ?_
    refine lv_iload_n hx hb dX12_ran_111 rfl (lv_at hl 3 rfl) ?_
    refine lv_if_eq (tgt := 127) hx hb dX12_ran_112 (by decide) (fun c11 => ?_) (fun c11 => ?_)
    ·
      replace hf := (if_pos c11).symm.trans hf
      refine lv_iconst (v := (-1)) hx hb dX12_ran_127 (by decide) ?_
      obtain rfl := Option.some.inj hf
      exact W.iret (v := (-1)) hx hb hr (fun t ht hW => ⟨⟨(-1), (), rfl, rfl, by rw [ht]; exact hP, va_K.moved hW.alike hK, hD⟩, hS.F ht⟩) hS.2.2 dX12_ran_128
    ·
      replace hf := (if_neg c11).symm.trans hf
      refine lv_aload_n hx hb dX12_ran_115 rfl (lv_at hl 1 rfl) ?_
      refine rG_86 hx hb hts i_X12_ran_X12 hown hK hP (hts (.fieldLink RX12 216 "StatementRules2Model" "thingKind" "[I") k_X12_ran_fieldLink_RX12_216_SRModel_thingKind_I) dX12_ran_116 ?_
      refine lv_aload_n hx hb dX12_ran_119 rfl (lv_at hl 1 rfl) ?_
      refine rG_114 (v := (σ.i 114)) hx hb hts i_X12_ran_X12 hown hK hP (hts (.fieldLink RX12 595 "StatementRules2Model" "thing" "I") k_X12_ran_fieldLink_RX12_595_SRModel_thing_I) dX12_ran_120 rfl ?_
      obtain ⟨b12, hf⟩ := hf_ite hf
      refine rL_86 (v := (σ.a 86 (((σ.i 114) : Int32).toNatClampNeg))) hx hb hK hP b12 dX12_ran_123 rfl ?_
      refine lv_goto (tgt := 128) hx hb dX12_ran_124 (by decide) ?_
      obtain rfl := Option.some.inj hf
      exact W.iret (v := (σ.a 86 (((σ.i 114) : Int32).toNatClampNeg))) hx hb hr (fun t ht hW => ⟨⟨(σ.a 86 (((σ.i 114) : Int32).toNatClampNeg)), (), rfl, rfl, by rw [ht]; exact hP, va_K.moved hW.alike hK, hD⟩, hS.F ht⟩) hS.2.2 dX12_ran_128
  replace hf := (if_neg c10).symm.trans hf
  by_cases c13 : x1 = 4
  ·
    replace hf := (if_pos c13).symm.trans hf
    refine lv_tableIn (off := 85) (tgt := 129) hx hb dX12_ran_44 (by rw [c13]; decide) (by rw [c13]; decide) (by rw [c13]; decide) (by decide) ?_
    refine lv_iload_n hx hb dX12_ran_129 rfl (lv_at hl 3 rfl) ?_
    refine lv_if_eq (tgt := 145) hx hb dX12_ran_130 (by decide) (fun c14 => ?_) (fun c14 => ?_)
    ·
      replace hf := (if_pos c14).symm.trans hf
      refine lv_iconst (v := 0) hx hb dX12_ran_145 (by decide) ?_
      obtain rfl := Option.some.inj hf
      exact W.iret (v := 0) hx hb hr (fun t ht hW => ⟨⟨0, (), rfl, rfl, by rw [ht]; exact hP, va_K.moved hW.alike hK, hD⟩, hS.F ht⟩) hS.2.2 dX12_ran_146
    ·
      replace hf := (if_neg c14).symm.trans hf
      refine lv_aload_n hx hb dX12_ran_133 rfl (lv_at hl 1 rfl) ?_
      refine rG_87 hx hb hts i_X12_ran_X12 hown hK hP (hts (.fieldLink RX12 219 "StatementRules2Model" "thingNumber" "[I") k_X12_ran_fieldLink_RX12_219_SRModel_thingNumber_I) dX12_ran_134 ?_
      refine lv_aload_n hx hb dX12_ran_137 rfl (lv_at hl 1 rfl) ?_
      refine rG_114 (v := (σ.i 114)) hx hb hts i_X12_ran_X12 hown hK hP (hts (.fieldLink RX12 595 "StatementRules2Model" "thing" "I") k_X12_ran_fieldLink_RX12_595_SRModel_thing_I) dX12_ran_138 rfl ?_
      obtain ⟨b15, hf⟩ := hf_ite hf
      refine rL_87 (v := (σ.a 87 (((σ.i 114) : Int32).toNatClampNeg))) hx hb hK hP b15 dX12_ran_141 rfl ?_
      refine lv_goto (tgt := 146) hx hb dX12_ran_142 (by decide) ?_
      obtain rfl := Option.some.inj hf
      exact W.iret (v := (σ.a 87 (((σ.i 114) : Int32).toNatClampNeg))) hx hb hr (fun t ht hW => ⟨⟨(σ.a 87 (((σ.i 114) : Int32).toNatClampNeg)), (), rfl, rfl, by rw [ht]; exact hP, va_K.moved hW.alike hK, hD⟩, hS.F ht⟩) hS.2.2 dX12_ran_146
  replace hf := (if_neg c13).symm.trans hf
  by_cases c16 : x1 = 5
  ·
    replace hf := (if_pos c16).symm.trans hf
    refine lv_tableIn (off := 103) (tgt := 147) hx hb dX12_ran_44 (by rw [c16]; decide) (by rw [c16]; decide) (by rw [c16]; decide) (by decide) ?_
    refine lv_iload_n hx hb dX12_ran_147 rfl (lv_at hl 3 rfl) ?_
    refine lv_if_eq (tgt := 163) hx hb dX12_ran_148 (by decide) (fun c17 => ?_) (fun c17 => ?_)
    ·
      replace hf := (if_pos c17).symm.trans hf
      refine lv_iconst (v := 0) hx hb dX12_ran_163 (by decide) ?_
      obtain rfl := Option.some.inj hf
      exact W.iret (v := 0) hx hb hr (fun t ht hW => ⟨⟨0, (), rfl, rfl, by rw [ht]; exact hP, va_K.moved hW.alike hK, hD⟩, hS.F ht⟩) hS.2.2 dX12_ran_164
    ·
      replace hf := (if_neg c17).symm.trans hf
      refine lv_aload_n hx hb dX12_ran_151 rfl (lv_at hl 1 rfl) ?_
      refine rG_88 hx hb hts i_X12_ran_X12 hown hK hP (hts (.fieldLink RX12 222 "StatementRules2Model" "suppressedMany" "[I") k_X12_ran_fieldLink_RX12_222_SRModel_suppressedMany_I) dX12_ran_152 ?_
      refine lv_aload_n hx hb dX12_ran_155 rfl (lv_at hl 1 rfl) ?_
      refine rG_114 (v := (σ.i 114)) hx hb hts i_X12_ran_X12 hown hK hP (hts (.fieldLink RX12 595 "StatementRules2Model" "thing" "I") k_X12_ran_fieldLink_RX12_595_SRModel_thing_I) dX12_ran_156 rfl ?_
      obtain ⟨b18, hf⟩ := hf_ite hf
      refine rL_88 (v := (σ.a 88 (((σ.i 114) : Int32).toNatClampNeg))) hx hb hK hP b18 dX12_ran_159 rfl ?_
      refine lv_goto (tgt := 164) hx hb dX12_ran_160 (by decide) ?_
      obtain rfl := Option.some.inj hf
      exact W.iret (v := (σ.a 88 (((σ.i 114) : Int32).toNatClampNeg))) hx hb hr (fun t ht hW => ⟨⟨(σ.a 88 (((σ.i 114) : Int32).toNatClampNeg)), (), rfl, rfl, by rw [ht]; exact hP, va_K.moved hW.alike hK, hD⟩, hS.F ht⟩) hS.2.2 dX12_ran_164
  replace hf := (if_neg c16).symm.trans hf
  refine lv_tableOut (tgt := 165) hx hb dX12_ran_44 (by have := z_ton (a := 0) c6 (by decide); have := z_ton (a := 1) c7 (by decide); have := z_ton (a := 2) c8 (by decide); have := z_ton (a := 3) c10 (by decide); have := z_ton (a := 4) c13 (by decide); have := z_ton (a := 5) c16 (by decide); omega) (by decide) ?_
  refine lv_iconst (v := 0) hx hb dX12_ran_165 (by decide) ?_
  refine lv_istore (lv' := [(4, .int 0), (3, .int 0), (0, .ref Q.h0), (1, .int x1), (2, .int x2)]) hx hb dX12_ran_166 hl (by decide) rfl (fun ls hl => ?_)
  exact j_X12_ran_168 l dC dI Q N R hx hb hr hml hown hts hlocks hZ hA hK N σ 0 0 _ _ _ hf hP hD hS (lv_sub hl [2, 1, 0] rfl)
set_option maxHeartbeats 4000000 in
set_option maxRecDepth 100000 in
theorem c_X12_ran (l : Launch) (dC : Nat → ClassId) (dI : Nat → Nat → Nat) (sz : Nat) (Q : RQ) (N : Nat) (σ : RS) (x1 : Int32) (R : Int32 × RS) (hf : f_X12_ran N σ x1 = some R) : Met l yX12_ran wzX12_ran ({ frames := 2, cells := 0, slots := 0, locals := 120 }) (va_Pc [.ref Q.h0, .int x1] (zPre dC dI sz (rW Q σ) (rT Q))) (va_Qi (fun (r : Int32) (_ : Unit) => r = R.1) (fun (_ : Unit) (t : State) => zPost dC dI (va_A (rW Q σ) sz) (rW Q R.2) (rT Q) t) (va_A (rW Q σ) sz)) 0 0 (va_A (rW Q σ) sz) := by
  refine Met.ofW (cc := cX12_ran) (maxL := 5) (ret := (some .int)) (by decide) rfl ?_
  intro p e s m args below meth c s₁ B hml hv
  obtain ⟨rfl, hsz, hZ, hP, hK, hD0⟩ := hv
  have hx := B.exec
  have hb := B.bytes
  have hr := B.returns
  have hts := atoms_spec (ws := wzX12_ran) B.pre
  have hown : s.vm.findClass RX12 = some m.cls := findClass_of_methodNamed B.named
  have hlocks := B.notSynchronized
  subst hsz
  have hD := hD0.self (sz := s.heap.size)
  generalize hAe : va_A (rW Q σ) s.heap.size = A at hD ⊢
  have hA : ∀ q : Nat, s.heap.size ≤ q → A q := fun q h => by rw [← hAe]; exact Or.inr h
  have hS : va_S A s.heap s.heap [] := va_S.rf
  have hl := lv_entry ([.ref Q.h0, .int x1]) (n := 5) (Nat.le_of_ble_eq_true rfl)
  rw [lg_entry_eq]
  generalize (lg_sl ([.ref Q.h0, .int x1]) ++ List.replicate (5 - (lg_sl ([.ref Q.h0, .int x1])).length) Slot.unset).toArray = ls at hl ⊢
  have hl : lv_has ls 5 [(0, .ref Q.h0), (1, .int x1)] := hl
  unfold f_X12_ran at hf
  refine lv_aload_n hx hb dX12_ran_0 rfl (lv_at hl 0 rfl) ?_
  refine lv_iconst (v := 0) hx hb dX12_ran_1 (by decide) ?_
  refine rP_0 hx hb hts i_X12_ran_X12 hown hK hP hD hS (hts (.fieldLink RX12 273 "StatementRules2Model" "thrown" "I") k_X12_ran_fieldLink_RX12_273_SRModel_thrown_I) dX12_ran_2 (fun H locs hP hD hS => ?_)
  refine lv_iload_n hx hb dX12_ran_5 rfl (lv_at hl 1 rfl) ?_
  refine lv_iconst (v := 0) hx hb dX12_ran_6 (by decide) ?_
  refine lv_bipush (v := 6) hx hb dX12_ran_7 (by decide) ?_
  obtain ⟨p1, hcp1, hf⟩ := hf_bind hf
  have hFc := r_free hD hS hA
  refine va_calli (va_runS (As := [.int x1, .int 0, .int 6]) (rest := []) ⟨hx, hb, hml, hown, hts⟩ (c_X12_in l dC dI _ Q N (RS.setI σ 0 0) x1 0 6 p1 hcp1) (va_cwS 3 hts hX12_ran_X12_in_s279 rfl rfl rfl (by decide +kernel) ⟨Nat.le_of_ble_eq_true rfl, Nat.le_of_ble_eq_true rfl⟩) ⟨zPre.blind, zPre.go hZ hP hK hD⟩ rfl rfl hl.1 rfl (lv_room (Nat.le_of_ble_eq_true rfl)) dX12_ran_9 ⟨Nat.le_of_ble_eq_true rfl, Nat.le_of_ble_eq_true rfl⟩) hS (fun q _ h => hFc q h) hFc (fun r2 u9 t9 H1 locs ht hvm hw hB hz1 hk1 hS => ?_)
  obtain ⟨hP, hK1, hD1⟩ := hB
  rw [ht] at hP
  have hD := hD1.weaken (fun _ _ _ h => hFc _ h)
  generalize H1 = H at hP hS ⊢
  obtain rfl : r2 = p1.1 := hw
  refine lv_if_ne (tgt := 17) hx hb dX12_ran_12 (by decide) (fun c3 => ?_) (fun c3 => ?_)
  ·
    replace hf := (if_neg c3).symm.trans hf
    refine lv_aload_n hx hb dX12_ran_17 rfl (lv_at hl 0 rfl) ?_
    refine rG_79 (v := (p1.2.i 79)) hx hb hts i_X12_ran_X12 hown hK hP (hts (.fieldLink RX12 580 "StatementRules2Model" "hasRun" "Z") k_X12_ran_fieldLink_RX12_580_SRModel_hasRun_Z) dX12_ran_18 rfl ?_
    refine lv_if_ne (tgt := 27) hx hb dX12_ran_21 (by decide) (fun c4 => ?_) (fun c4 => ?_)
    ·
      replace hf := (if_neg c4).symm.trans hf
      refine lv_aload_n hx hb dX12_ran_27 rfl (lv_at hl 0 rfl) ?_
      refine rG_115 (v := (p1.2.i 115)) hx hb hts i_X12_ran_X12 hown hK hP (hts (.fieldLink RX12 636 "StatementRules2Model" "ended" "I") k_X12_ran_fieldLink_RX12_636_SRModel_ended_I) dX12_ran_28 rfl ?_
      refine lv_iconst (v := 3) hx hb dX12_ran_31 (by decide) ?_
      refine lv_icmp_ne (tgt := 39) hx hb dX12_ran_32 (by decide) (fun c5 => ?_) (fun c5 => ?_)
      ·
        replace hf := (if_neg c5).symm.trans hf
        refine lv_iconst (v := 0) hx hb dX12_ran_39 (by decide) ?_
        refine lv_istore_n (lv' := [(2, .int 0), (0, .ref Q.h0), (1, .int x1)]) hx hb dX12_ran_40 rfl hl (by decide) rfl (fun ls hl => ?_)
        exact j_X12_ran_41 l dC dI Q N R hx hb hr hml hown hts hlocks hZ hA hK p1.2 x1 0 _ _ _ hf hP hD hS (lv_sub hl [1, 2, 0] rfl)
      ·
        replace hf := (if_pos c5).symm.trans hf
        refine lv_iconst (v := 1) hx hb dX12_ran_35 (by decide) ?_
        refine lv_goto (tgt := 40) hx hb dX12_ran_36 (by decide) ?_
        refine lv_istore_n (lv' := [(2, .int 1), (0, .ref Q.h0), (1, .int x1)]) hx hb dX12_ran_40 rfl hl (by decide) rfl (fun ls hl => ?_)
        exact j_X12_ran_41 l dC dI Q N R hx hb hr hml hown hts hlocks hZ hA hK p1.2 x1 1 _ _ _ hf hP hD hS (lv_sub hl [1, 2, 0] rfl)
    ·
      replace hf := (if_pos c4).symm.trans hf
      refine lv_bipush (v := (-3)) hx hb dX12_ran_24 (by decide) ?_
      obtain rfl := Option.some.inj hf
      exact W.iret (v := (-3)) hx hb hr (fun t ht hW => ⟨⟨(-3), (), rfl, rfl, by rw [ht]; exact hP, va_K.moved hW.alike hK, hD⟩, hS.F ht⟩) hS.2.2 dX12_ran_26
  ·
    replace hf := (if_pos c3).symm.trans hf
    refine lv_iconst (v := (-1)) hx hb dX12_ran_15 (by decide) ?_
    obtain rfl := Option.some.inj hf
    exact W.iret (v := (-1)) hx hb hr (fun t ht hW => ⟨⟨(-1), (), rfl, rfl, by rw [ht]; exact hP, va_K.moved hW.alike hK, hD⟩, hS.F ht⟩) hS.2.2 dX12_ran_16
theorem k_X12_trace_fieldLink_RX12_273_SRModel_thrown_I : Cond.fieldLink RX12 273 "StatementRules2Model" "thrown" "I" ∈ wzX12_trace := List.mem_cons_of_mem _ (List.mem_append_left _ (List.mem_of_getElem? (i := 0) rfl))
theorem i_X12_trace_X12 : ∀ w ∈ wsX120, w ∈ wzX12_trace := fun _ h => List.mem_cons_of_mem _ (List.mem_append_right _ (List.mem_append_left _ (h)))
theorem k_X12_trace_fieldLink_RX12_580_SRModel_hasRun_Z : Cond.fieldLink RX12 580 "StatementRules2Model" "hasRun" "Z" ∈ wzX12_trace := List.mem_cons_of_mem _ (List.mem_append_left _ (List.mem_of_getElem? (i := 1) rfl))
theorem k_X12_trace_fieldLink_RX12_583_SRModel_rowMany_I : Cond.fieldLink RX12 583 "StatementRules2Model" "rowMany" "I" ∈ wzX12_trace := List.mem_cons_of_mem _ (List.mem_append_left _ (List.mem_of_getElem? (i := 2) rfl))
theorem k_X12_trace_fieldLink_RX12_210_SRModel_rowNumber_I : Cond.fieldLink RX12 210 "StatementRules2Model" "rowNumber" "[I" ∈ wzX12_trace := List.mem_cons_of_mem _ (List.mem_append_left _ (List.mem_of_getElem? (i := 3) rfl))
theorem k_X12_trace_fieldLink_RX12_207_SRModel_rowSort_I : Cond.fieldLink RX12 207 "StatementRules2Model" "rowSort" "[I" ∈ wzX12_trace := List.mem_cons_of_mem _ (List.mem_append_left _ (List.mem_of_getElem? (i := 4) rfl))
set_option maxHeartbeats 4000000 in
set_option maxRecDepth 100000 in
theorem j_X12_trace_35 {p : Program} {e : Env} {s : State} {m : MethodId} {args : Array Value} {below : List Frame} {meth : Method} {c : Code} {A : Nat → Prop} (l : Launch) (dC : Nat → ClassId) (dI : Nat → Nat → Nat) (Q : RQ) (N : Nat) (R : Int32 × RS) (hx : p.tables.exec = Jvm.exec) (hb : c.code = cX12_trace) (hr : meth.sig.returnType = (some .int)) (hml : c.maxLocals = 3) (hown : s.vm.findClass RX12 = some m.cls) (hts : ∀ w ∈ wzX12_trace, w.before args s = true) (hlocks : meth.locks = false) (hZ : zAMB s) (hA : ∀ q : Nat, s.heap.size ≤ q → A q) (hK : va_K (dC, dI) vwCl (rT Q) s) : ∀ (σ : RS) (H : Heap) (locs : List Loc) (ls : Array Slot), f_X12_trace_35 N σ = some R → va_P (dC, dI) vwCl (rW Q σ) H → va_D A (rW Q σ) → va_S A s.heap H locs → lv_has ls 3 [] → W p l e ({ frames := 2, cells := 0, slots := 0, locals := 120 }) s m args below meth c H locs 0 0 (MQ below (va_Qi (fun (r : Int32) (_ : Unit) => r = R.1) (fun (_ : Unit) (t : State) => zPost dC dI A (rW Q R.2) (rT Q) t) A) args s 0 0 A) (F0 m 35 ls []) := by
  intro σ  H locs ls hf hP hD hS hl
  unfold f_X12_trace_35 at hf
  refine lv_iconst (v := (-1)) hx hb dX12_trace_35 (by decide) ?_
  obtain rfl := Option.some.inj hf
  exact W.iret (v := (-1)) hx hb hr (fun t ht hW => ⟨⟨(-1), (), rfl, rfl, by rw [ht]; exact hP, va_K.moved hW.alike hK, hD⟩, hS.F ht⟩) hS.2.2 dX12_trace_36
set_option maxHeartbeats 4000000 in
set_option maxRecDepth 100000 in
theorem c_X12_trace (l : Launch) (dC : Nat → ClassId) (dI : Nat → Nat → Nat) (sz : Nat) (Q : RQ) (N : Nat) (σ : RS) (x1 : Int32) (x2 : Int32) (R : Int32 × RS) (hf : f_X12_trace N σ x1 x2 = some R) : Met l yX12_trace wzX12_trace ({ frames := 2, cells := 0, slots := 0, locals := 120 }) (va_Pc [.ref Q.h0, .int x1, .int x2] (zPre dC dI sz (rW Q σ) (rT Q))) (va_Qi (fun (r : Int32) (_ : Unit) => r = R.1) (fun (_ : Unit) (t : State) => zPost dC dI (va_A (rW Q σ) sz) (rW Q R.2) (rT Q) t) (va_A (rW Q σ) sz)) 0 0 (va_A (rW Q σ) sz) := by
  refine Met.ofW (cc := cX12_trace) (maxL := 3) (ret := (some .int)) (by decide) rfl ?_
  intro p e s m args below meth c s₁ B hml hv
  obtain ⟨rfl, hsz, hZ, hP, hK, hD0⟩ := hv
  have hx := B.exec
  have hb := B.bytes
  have hr := B.returns
  have hts := atoms_spec (ws := wzX12_trace) B.pre
  have hown : s.vm.findClass RX12 = some m.cls := findClass_of_methodNamed B.named
  have hlocks := B.notSynchronized
  subst hsz
  have hD := hD0.self (sz := s.heap.size)
  generalize hAe : va_A (rW Q σ) s.heap.size = A at hD ⊢
  have hA : ∀ q : Nat, s.heap.size ≤ q → A q := fun q h => by rw [← hAe]; exact Or.inr h
  have hS : va_S A s.heap s.heap [] := va_S.rf
  have hl := lv_entry ([.ref Q.h0, .int x1, .int x2]) (n := 3) (Nat.le_of_ble_eq_true rfl)
  rw [lg_entry_eq]
  generalize (lg_sl ([.ref Q.h0, .int x1, .int x2]) ++ List.replicate (3 - (lg_sl ([.ref Q.h0, .int x1, .int x2])).length) Slot.unset).toArray = ls at hl ⊢
  have hl : lv_has ls 3 [(0, .ref Q.h0), (1, .int x1), (2, .int x2)] := hl
  unfold f_X12_trace at hf
  refine lv_aload_n hx hb dX12_trace_0 rfl (lv_at hl 0 rfl) ?_
  refine lv_iconst (v := 0) hx hb dX12_trace_1 (by decide) ?_
  refine rP_0 hx hb hts i_X12_trace_X12 hown hK hP hD hS (hts (.fieldLink RX12 273 "StatementRules2Model" "thrown" "I") k_X12_trace_fieldLink_RX12_273_SRModel_thrown_I) dX12_trace_2 (fun H locs hP hD hS => ?_)
  refine lv_aload_n hx hb dX12_trace_5 rfl (lv_at hl 0 rfl) ?_
  refine rG_79 (v := (σ.i 79)) hx hb hts i_X12_trace_X12 hown hK hP (hts (.fieldLink RX12 580 "StatementRules2Model" "hasRun" "Z") k_X12_trace_fieldLink_RX12_580_SRModel_hasRun_Z) dX12_trace_6 rfl ?_
  refine lv_if_eq (tgt := 35) hx hb dX12_trace_9 (by decide) (fun c1 => ?_) (fun c1 => ?_)
  ·
    replace hf := (if_pos c1).symm.trans hf
    exact j_X12_trace_35 l dC dI Q N R hx hb hr hml hown hts hlocks hZ hA hK (RS.setI σ 0 0) _ _ _ hf hP hD hS (lv_sub hl [] rfl)
  ·
    replace hf := (if_neg c1).symm.trans hf
    refine lv_iload_n hx hb dX12_trace_12 rfl (lv_at hl 1 rfl) ?_
    refine lv_iconst (v := 0) hx hb dX12_trace_13 (by decide) ?_
    refine lv_aload_n hx hb dX12_trace_14 rfl (lv_at hl 0 rfl) ?_
    refine rG_81 (v := (σ.i 81)) hx hb hts i_X12_trace_X12 hown hK hP (hts (.fieldLink RX12 583 "StatementRules2Model" "rowMany" "I") k_X12_trace_fieldLink_RX12_583_SRModel_rowMany_I) dX12_trace_15 rfl ?_
    refine lv_iconst (v := 1) hx hb dX12_trace_18 (by decide) ?_
    refine lv_isub hx hb dX12_trace_19 ?_
    obtain ⟨p2, hcp2, hf⟩ := hf_bind hf
    have hFc := r_free hD hS hA
    refine va_calli (va_runS (As := [.int x1, .int 0, .int ((σ.i 81) - 1)]) (rest := []) ⟨hx, hb, hml, hown, hts⟩ (c_X12_in l dC dI _ Q N (RS.setI σ 0 0) x1 0 ((σ.i 81) - 1) p2 hcp2) (va_cwS 3 hts hX12_trace_X12_in_s279 rfl rfl rfl (by decide +kernel) ⟨Nat.le_of_ble_eq_true rfl, Nat.le_of_ble_eq_true rfl⟩) ⟨zPre.blind, zPre.go hZ hP hK hD⟩ rfl rfl hl.1 rfl (lv_room (Nat.le_of_ble_eq_true rfl)) dX12_trace_20 ⟨Nat.le_of_ble_eq_true rfl, Nat.le_of_ble_eq_true rfl⟩) hS (fun q _ h => hFc q h) hFc (fun r3 u9 t9 H1 locs ht hvm hw hB hz1 hk1 hS => ?_)
    obtain ⟨hP, hK1, hD1⟩ := hB
    rw [ht] at hP
    have hD := hD1.weaken (fun _ _ _ h => hFc _ h)
    generalize H1 = H at hP hS ⊢
    obtain rfl : r3 = p2.1 := hw
    refine lv_if_eq (tgt := 35) hx hb dX12_trace_23 (by decide) (fun c4 => ?_) (fun c4 => ?_)
    ·
      replace hf := (if_pos c4).symm.trans hf
      exact j_X12_trace_35 l dC dI Q N R hx hb hr hml hown hts hlocks hZ hA hK p2.2 _ _ _ hf hP hD hS (lv_sub hl [] rfl)
    ·
      replace hf := (if_neg c4).symm.trans hf
      refine lv_iload_n hx hb dX12_trace_26 rfl (lv_at hl 2 rfl) ?_
      refine lv_iconst (v := 0) hx hb dX12_trace_27 (by decide) ?_
      refine lv_iconst (v := 1) hx hb dX12_trace_28 (by decide) ?_
      obtain ⟨p5, hcp5, hf⟩ := hf_bind hf
      have hFc := r_free hD hS hA
      refine va_calli (va_runS (As := [.int x2, .int 0, .int 1]) (rest := []) ⟨hx, hb, hml, hown, hts⟩ (c_X12_in l dC dI _ Q N p2.2 x2 0 1 p5 hcp5) (va_cwS 3 hts hX12_trace_X12_in_s279 rfl rfl rfl (by decide +kernel) ⟨Nat.le_of_ble_eq_true rfl, Nat.le_of_ble_eq_true rfl⟩) ⟨zPre.blind, zPre.go hZ hP hK hD⟩ rfl rfl hl.1 rfl (lv_room (Nat.le_of_ble_eq_true rfl)) dX12_trace_29 ⟨Nat.le_of_ble_eq_true rfl, Nat.le_of_ble_eq_true rfl⟩) hS (fun q _ h => hFc q h) hFc (fun r6 u9 t9 H1 locs ht hvm hw hB hz1 hk1 hS => ?_)
      obtain ⟨hP, hK1, hD1⟩ := hB
      rw [ht] at hP
      have hD := hD1.weaken (fun _ _ _ h => hFc _ h)
      generalize H1 = H at hP hS ⊢
      obtain rfl : r6 = p5.1 := hw
      refine lv_if_ne (tgt := 37) hx hb dX12_trace_32 (by decide) (fun c7 => ?_) (fun c7 => ?_)
      ·
        replace hf := (if_neg c7).symm.trans hf
        refine lv_iload_n hx hb dX12_trace_37 rfl (lv_at hl 2 rfl) ?_
        refine lv_if_ne (tgt := 50) hx hb dX12_trace_38 (by decide) (fun c8 => ?_) (fun c8 => ?_)
        ·
          replace hf := (if_neg c8).symm.trans hf
          refine lv_aload_n hx hb dX12_trace_50 rfl (lv_at hl 0 rfl) ?_
          refine rG_83 hx hb hts i_X12_trace_X12 hown hK hP (hts (.fieldLink RX12 210 "StatementRules2Model" "rowNumber" "[I") k_X12_trace_fieldLink_RX12_210_SRModel_rowNumber_I) dX12_trace_51 ?_
          refine lv_iload_n hx hb dX12_trace_54 rfl (lv_at hl 1 rfl) ?_
          obtain ⟨b9, hf⟩ := hf_ite hf
          refine rL_83 (v := (p5.2.a 83 ((x1 : Int32).toNatClampNeg))) hx hb hK hP b9 dX12_trace_55 rfl ?_
          obtain rfl := Option.some.inj hf
          exact W.iret (v := (p5.2.a 83 ((x1 : Int32).toNatClampNeg))) hx hb hr (fun t ht hW => ⟨⟨(p5.2.a 83 ((x1 : Int32).toNatClampNeg)), (), rfl, rfl, by rw [ht]; exact hP, va_K.moved hW.alike hK, hD⟩, hS.F ht⟩) hS.2.2 dX12_trace_56
        ·
          replace hf := (if_pos c8).symm.trans hf
          refine lv_aload_n hx hb dX12_trace_41 rfl (lv_at hl 0 rfl) ?_
          refine rG_82 hx hb hts i_X12_trace_X12 hown hK hP (hts (.fieldLink RX12 207 "StatementRules2Model" "rowSort" "[I") k_X12_trace_fieldLink_RX12_207_SRModel_rowSort_I) dX12_trace_42 ?_
          refine lv_iload_n hx hb dX12_trace_45 rfl (lv_at hl 1 rfl) ?_
          obtain ⟨b10, hf⟩ := hf_ite hf
          refine rL_82 (v := (p5.2.a 82 ((x1 : Int32).toNatClampNeg))) hx hb hK hP b10 dX12_trace_46 rfl ?_
          refine lv_goto (tgt := 56) hx hb dX12_trace_47 (by decide) ?_
          obtain rfl := Option.some.inj hf
          exact W.iret (v := (p5.2.a 82 ((x1 : Int32).toNatClampNeg))) hx hb hr (fun t ht hW => ⟨⟨(p5.2.a 82 ((x1 : Int32).toNatClampNeg)), (), rfl, rfl, by rw [ht]; exact hP, va_K.moved hW.alike hK, hD⟩, hS.F ht⟩) hS.2.2 dX12_trace_56
      ·
        replace hf := (if_pos c7).symm.trans hf
        exact j_X12_trace_35 l dC dI Q N R hx hb hr hml hown hts hlocks hZ hA hK p5.2 _ _ _ hf hP hD hS (lv_sub hl [] rfl)
theorem k_X12_suppressed_fieldLink_RX12_273_SRModel_thrown_I : Cond.fieldLink RX12 273 "StatementRules2Model" "thrown" "I" ∈ wzX12_suppressed := List.mem_cons_of_mem _ (List.mem_append_left _ (List.mem_of_getElem? (i := 0) rfl))
theorem i_X12_suppressed_X12 : ∀ w ∈ wsX120, w ∈ wzX12_suppressed := fun _ h => List.mem_cons_of_mem _ (List.mem_append_right _ (List.mem_append_left _ (h)))
theorem k_X12_suppressed_fieldLink_RX12_580_SRModel_hasRun_Z : Cond.fieldLink RX12 580 "StatementRules2Model" "hasRun" "Z" ∈ wzX12_suppressed := List.mem_cons_of_mem _ (List.mem_append_left _ (List.mem_of_getElem? (i := 1) rfl))
theorem k_X12_suppressed_fieldLink_RX12_636_SRModel_ended_I : Cond.fieldLink RX12 636 "StatementRules2Model" "ended" "I" ∈ wzX12_suppressed := List.mem_cons_of_mem _ (List.mem_append_left _ (List.mem_of_getElem? (i := 2) rfl))
theorem k_X12_suppressed_fieldLink_RX12_222_SRModel_suppressedMany_I : Cond.fieldLink RX12 222 "StatementRules2Model" "suppressedMany" "[I" ∈ wzX12_suppressed := List.mem_cons_of_mem _ (List.mem_append_left _ (List.mem_of_getElem? (i := 3) rfl))
theorem k_X12_suppressed_fieldLink_RX12_595_SRModel_thing_I : Cond.fieldLink RX12 595 "StatementRules2Model" "thing" "I" ∈ wzX12_suppressed := List.mem_cons_of_mem _ (List.mem_append_left _ (List.mem_of_getElem? (i := 4) rfl))
theorem k_X12_suppressed_fieldLink_RX12_228_SRModel_suppressedNumber_I : Cond.fieldLink RX12 228 "StatementRules2Model" "suppressedNumber" "[I" ∈ wzX12_suppressed := List.mem_cons_of_mem _ (List.mem_append_left _ (List.mem_of_getElem? (i := 5) rfl))
theorem k_X12_suppressed_fieldLink_RX12_225_SRModel_suppressedKind_I : Cond.fieldLink RX12 225 "StatementRules2Model" "suppressedKind" "[I" ∈ wzX12_suppressed := List.mem_cons_of_mem _ (List.mem_append_left _ (List.mem_of_getElem? (i := 6) rfl))
set_option maxHeartbeats 4000000 in
set_option maxRecDepth 100000 in
theorem j_X12_suppressed_48 {p : Program} {e : Env} {s : State} {m : MethodId} {args : Array Value} {below : List Frame} {meth : Method} {c : Code} {A : Nat → Prop} (l : Launch) (dC : Nat → ClassId) (dI : Nat → Nat → Nat) (Q : RQ) (N : Nat) (R : Int32 × RS) (hx : p.tables.exec = Jvm.exec) (hb : c.code = cX12_suppressed) (hr : meth.sig.returnType = (some .int)) (hml : c.maxLocals = 3) (hown : s.vm.findClass RX12 = some m.cls) (hts : ∀ w ∈ wzX12_suppressed, w.before args s = true) (hlocks : meth.locks = false) (hZ : zAMB s) (hA : ∀ q : Nat, s.heap.size ≤ q → A q) (hK : va_K (dC, dI) vwCl (rT Q) s) : ∀ (σ : RS) (H : Heap) (locs : List Loc) (ls : Array Slot), f_X12_suppressed_48 N σ = some R → va_P (dC, dI) vwCl (rW Q σ) H → va_D A (rW Q σ) → va_S A s.heap H locs → lv_has ls 3 [] → W p l e ({ frames := 2, cells := 0, slots := 0, locals := 120 }) s m args below meth c H locs 0 0 (MQ below (va_Qi (fun (r : Int32) (_ : Unit) => r = R.1) (fun (_ : Unit) (t : State) => zPost dC dI A (rW Q R.2) (rT Q) t) A) args s 0 0 A) (F0 m 48 ls []) := by
  intro σ  H locs ls hf hP hD hS hl
  unfold f_X12_suppressed_48 at hf
  refine lv_iconst (v := (-1)) hx hb dX12_suppressed_48 (by decide) ?_
  obtain rfl := Option.some.inj hf
  exact W.iret (v := (-1)) hx hb hr (fun t ht hW => ⟨⟨(-1), (), rfl, rfl, by rw [ht]; exact hP, va_K.moved hW.alike hK, hD⟩, hS.F ht⟩) hS.2.2 dX12_suppressed_49
set_option maxHeartbeats 4000000 in
set_option maxRecDepth 100000 in
theorem c_X12_suppressed (l : Launch) (dC : Nat → ClassId) (dI : Nat → Nat → Nat) (sz : Nat) (Q : RQ) (N : Nat) (σ : RS) (x1 : Int32) (x2 : Int32) (R : Int32 × RS) (hf : f_X12_suppressed N σ x1 x2 = some R) : Met l yX12_suppressed wzX12_suppressed ({ frames := 2, cells := 0, slots := 0, locals := 120 }) (va_Pc [.ref Q.h0, .int x1, .int x2] (zPre dC dI sz (rW Q σ) (rT Q))) (va_Qi (fun (r : Int32) (_ : Unit) => r = R.1) (fun (_ : Unit) (t : State) => zPost dC dI (va_A (rW Q σ) sz) (rW Q R.2) (rT Q) t) (va_A (rW Q σ) sz)) 0 0 (va_A (rW Q σ) sz) := by
  refine Met.ofW (cc := cX12_suppressed) (maxL := 3) (ret := (some .int)) (by decide) rfl ?_
  intro p e s m args below meth c s₁ B hml hv
  obtain ⟨rfl, hsz, hZ, hP, hK, hD0⟩ := hv
  have hx := B.exec
  have hb := B.bytes
  have hr := B.returns
  have hts := atoms_spec (ws := wzX12_suppressed) B.pre
  have hown : s.vm.findClass RX12 = some m.cls := findClass_of_methodNamed B.named
  have hlocks := B.notSynchronized
  subst hsz
  have hD := hD0.self (sz := s.heap.size)
  generalize hAe : va_A (rW Q σ) s.heap.size = A at hD ⊢
  have hA : ∀ q : Nat, s.heap.size ≤ q → A q := fun q h => by rw [← hAe]; exact Or.inr h
  have hS : va_S A s.heap s.heap [] := va_S.rf
  have hl := lv_entry ([.ref Q.h0, .int x1, .int x2]) (n := 3) (Nat.le_of_ble_eq_true rfl)
  rw [lg_entry_eq]
  generalize (lg_sl ([.ref Q.h0, .int x1, .int x2]) ++ List.replicate (3 - (lg_sl ([.ref Q.h0, .int x1, .int x2])).length) Slot.unset).toArray = ls at hl ⊢
  have hl : lv_has ls 3 [(0, .ref Q.h0), (1, .int x1), (2, .int x2)] := hl
  unfold f_X12_suppressed at hf
  refine lv_aload_n hx hb dX12_suppressed_0 rfl (lv_at hl 0 rfl) ?_
  refine lv_iconst (v := 0) hx hb dX12_suppressed_1 (by decide) ?_
  refine rP_0 hx hb hts i_X12_suppressed_X12 hown hK hP hD hS (hts (.fieldLink RX12 273 "StatementRules2Model" "thrown" "I") k_X12_suppressed_fieldLink_RX12_273_SRModel_thrown_I) dX12_suppressed_2 (fun H locs hP hD hS => ?_)
  refine lv_aload_n hx hb dX12_suppressed_5 rfl (lv_at hl 0 rfl) ?_
  refine rG_79 (v := (σ.i 79)) hx hb hts i_X12_suppressed_X12 hown hK hP (hts (.fieldLink RX12 580 "StatementRules2Model" "hasRun" "Z") k_X12_suppressed_fieldLink_RX12_580_SRModel_hasRun_Z) dX12_suppressed_6 rfl ?_
  refine lv_if_eq (tgt := 48) hx hb dX12_suppressed_9 (by decide) (fun c1 => ?_) (fun c1 => ?_)
  ·
    replace hf := (if_pos c1).symm.trans hf
    exact j_X12_suppressed_48 l dC dI Q N R hx hb hr hml hown hts hlocks hZ hA hK (RS.setI σ 0 0) _ _ _ hf hP hD hS (lv_sub hl [] rfl)
  ·
    replace hf := (if_neg c1).symm.trans hf
    refine lv_aload_n hx hb dX12_suppressed_12 rfl (lv_at hl 0 rfl) ?_
    refine rG_115 (v := (σ.i 115)) hx hb hts i_X12_suppressed_X12 hown hK hP (hts (.fieldLink RX12 636 "StatementRules2Model" "ended" "I") k_X12_suppressed_fieldLink_RX12_636_SRModel_ended_I) dX12_suppressed_13 rfl ?_
    refine lv_iconst (v := 3) hx hb dX12_suppressed_16 (by decide) ?_
    refine lv_icmp_ne (tgt := 48) hx hb dX12_suppressed_17 (by decide) (fun c2 => ?_) (fun c2 => ?_)
    ·
      replace hf := (if_neg c2).symm.trans hf
      exact j_X12_suppressed_48 l dC dI Q N R hx hb hr hml hown hts hlocks hZ hA hK (RS.setI σ 0 0) _ _ _ hf hP hD hS (lv_sub hl [] rfl)
    ·
      replace hf := (if_pos c2).symm.trans hf
      refine lv_iload_n hx hb dX12_suppressed_20 rfl (lv_at hl 1 rfl) ?_
      refine lv_iconst (v := 0) hx hb dX12_suppressed_21 (by decide) ?_
      refine lv_aload_n hx hb dX12_suppressed_22 rfl (lv_at hl 0 rfl) ?_
      refine rG_88 hx hb hts i_X12_suppressed_X12 hown hK hP (hts (.fieldLink RX12 222 "StatementRules2Model" "suppressedMany" "[I") k_X12_suppressed_fieldLink_RX12_222_SRModel_suppressedMany_I) dX12_suppressed_23 ?_
      refine lv_aload_n hx hb dX12_suppressed_26 rfl (lv_at hl 0 rfl) ?_
      refine rG_114 (v := (σ.i 114)) hx hb hts i_X12_suppressed_X12 hown hK hP (hts (.fieldLink RX12 595 "StatementRules2Model" "thing" "I") k_X12_suppressed_fieldLink_RX12_595_SRModel_thing_I) dX12_suppressed_27 rfl ?_
      obtain ⟨b3, hf⟩ := hf_ite hf
      refine rL_88 (v := (σ.a 88 (((σ.i 114) : Int32).toNatClampNeg))) hx hb hK hP b3 dX12_suppressed_30 rfl ?_
      refine lv_iconst (v := 1) hx hb dX12_suppressed_31 (by decide) ?_
      refine lv_isub hx hb dX12_suppressed_32 ?_
      obtain ⟨p4, hcp4, hf⟩ := hf_bind hf
      have hFc := r_free hD hS hA
      refine va_calli (va_runS (As := [.int x1, .int 0, .int ((σ.a 88 (((σ.i 114) : Int32).toNatClampNeg)) - 1)]) (rest := []) ⟨hx, hb, hml, hown, hts⟩ (c_X12_in l dC dI _ Q N (RS.setI σ 0 0) x1 0 ((σ.a 88 (((σ.i 114) : Int32).toNatClampNeg)) - 1) p4 hcp4) (va_cwS 3 hts hX12_suppressed_X12_in_s279 rfl rfl rfl (by decide +kernel) ⟨Nat.le_of_ble_eq_true rfl, Nat.le_of_ble_eq_true rfl⟩) ⟨zPre.blind, zPre.go hZ hP hK hD⟩ rfl rfl hl.1 rfl (lv_room (Nat.le_of_ble_eq_true rfl)) dX12_suppressed_33 ⟨Nat.le_of_ble_eq_true rfl, Nat.le_of_ble_eq_true rfl⟩) hS (fun q _ h => hFc q h) hFc (fun r5 u9 t9 H1 locs ht hvm hw hB hz1 hk1 hS => ?_)
      obtain ⟨hP, hK1, hD1⟩ := hB
      rw [ht] at hP
      have hD := hD1.weaken (fun _ _ _ h => hFc _ h)
      generalize H1 = H at hP hS ⊢
      obtain rfl : r5 = p4.1 := hw
      refine lv_if_eq (tgt := 48) hx hb dX12_suppressed_36 (by decide) (fun c6 => ?_) (fun c6 => ?_)
      ·
        replace hf := (if_pos c6).symm.trans hf
        exact j_X12_suppressed_48 l dC dI Q N R hx hb hr hml hown hts hlocks hZ hA hK p4.2 _ _ _ hf hP hD hS (lv_sub hl [] rfl)
      ·
        replace hf := (if_neg c6).symm.trans hf
        refine lv_iload_n hx hb dX12_suppressed_39 rfl (lv_at hl 2 rfl) ?_
        refine lv_iconst (v := 0) hx hb dX12_suppressed_40 (by decide) ?_
        refine lv_iconst (v := 1) hx hb dX12_suppressed_41 (by decide) ?_
        obtain ⟨p7, hcp7, hf⟩ := hf_bind hf
        have hFc := r_free hD hS hA
        refine va_calli (va_runS (As := [.int x2, .int 0, .int 1]) (rest := []) ⟨hx, hb, hml, hown, hts⟩ (c_X12_in l dC dI _ Q N p4.2 x2 0 1 p7 hcp7) (va_cwS 3 hts hX12_suppressed_X12_in_s279 rfl rfl rfl (by decide +kernel) ⟨Nat.le_of_ble_eq_true rfl, Nat.le_of_ble_eq_true rfl⟩) ⟨zPre.blind, zPre.go hZ hP hK hD⟩ rfl rfl hl.1 rfl (lv_room (Nat.le_of_ble_eq_true rfl)) dX12_suppressed_42 ⟨Nat.le_of_ble_eq_true rfl, Nat.le_of_ble_eq_true rfl⟩) hS (fun q _ h => hFc q h) hFc (fun r8 u9 t9 H1 locs ht hvm hw hB hz1 hk1 hS => ?_)
        obtain ⟨hP, hK1, hD1⟩ := hB
        rw [ht] at hP
        have hD := hD1.weaken (fun _ _ _ h => hFc _ h)
        generalize H1 = H at hP hS ⊢
        obtain rfl : r8 = p7.1 := hw
        refine lv_if_ne (tgt := 50) hx hb dX12_suppressed_45 (by decide) (fun c9 => ?_) (fun c9 => ?_)
        ·
          replace hf := (if_neg c9).symm.trans hf
          refine lv_iload_n hx hb dX12_suppressed_50 rfl (lv_at hl 2 rfl) ?_
          refine lv_if_ne (tgt := 71) hx hb dX12_suppressed_51 (by decide) (fun c10 => ?_) (fun c10 => ?_)
          ·
            replace hf := (if_neg c10).symm.trans hf
            refine lv_aload_n hx hb dX12_suppressed_71 rfl (lv_at hl 0 rfl) ?_
            refine rG_90 hx hb hts i_X12_suppressed_X12 hown hK hP (hts (.fieldLink RX12 228 "StatementRules2Model" "suppressedNumber" "[I") k_X12_suppressed_fieldLink_RX12_228_SRModel_suppressedNumber_I) dX12_suppressed_72 ?_
            refine lv_bipush (v := 8) hx hb dX12_suppressed_75 (by decide) ?_
            refine lv_aload_n hx hb dX12_suppressed_77 rfl (lv_at hl 0 rfl) ?_
            refine rG_114 (v := (p7.2.i 114)) hx hb hts i_X12_suppressed_X12 hown hK hP (hts (.fieldLink RX12 595 "StatementRules2Model" "thing" "I") k_X12_suppressed_fieldLink_RX12_595_SRModel_thing_I) dX12_suppressed_78 rfl ?_
            refine lv_imul hx hb dX12_suppressed_81 ?_
            refine lv_iload_n hx hb dX12_suppressed_82 rfl (lv_at hl 1 rfl) ?_
            refine lv_iadd hx hb dX12_suppressed_83 ?_
            obtain ⟨b11, hf⟩ := hf_ite hf
            refine rL_90 (v := (p7.2.a 90 ((((8 * (p7.2.i 114)) + x1) : Int32).toNatClampNeg))) hx hb hK hP b11 dX12_suppressed_84 rfl ?_
            obtain rfl := Option.some.inj hf
            exact W.iret (v := (p7.2.a 90 ((((8 * (p7.2.i 114)) + x1) : Int32).toNatClampNeg))) hx hb hr (fun t ht hW => ⟨⟨(p7.2.a 90 ((((8 * (p7.2.i 114)) + x1) : Int32).toNatClampNeg)), (), rfl, rfl, by rw [ht]; exact hP, va_K.moved hW.alike hK, hD⟩, hS.F ht⟩) hS.2.2 dX12_suppressed_85
          ·
            replace hf := (if_pos c10).symm.trans hf
            refine lv_aload_n hx hb dX12_suppressed_54 rfl (lv_at hl 0 rfl) ?_
            refine rG_89 hx hb hts i_X12_suppressed_X12 hown hK hP (hts (.fieldLink RX12 225 "StatementRules2Model" "suppressedKind" "[I") k_X12_suppressed_fieldLink_RX12_225_SRModel_suppressedKind_I) dX12_suppressed_55 ?_
            refine lv_bipush (v := 8) hx hb dX12_suppressed_58 (by decide) ?_
            refine lv_aload_n hx hb dX12_suppressed_60 rfl (lv_at hl 0 rfl) ?_
            refine rG_114 (v := (p7.2.i 114)) hx hb hts i_X12_suppressed_X12 hown hK hP (hts (.fieldLink RX12 595 "StatementRules2Model" "thing" "I") k_X12_suppressed_fieldLink_RX12_595_SRModel_thing_I) dX12_suppressed_61 rfl ?_
            refine lv_imul hx hb dX12_suppressed_64 ?_
            refine lv_iload_n hx hb dX12_suppressed_65 rfl (lv_at hl 1 rfl) ?_
            refine lv_iadd hx hb dX12_suppressed_66 ?_
            obtain ⟨b12, hf⟩ := hf_ite hf
            refine rL_89 (v := (p7.2.a 89 ((((8 * (p7.2.i 114)) + x1) : Int32).toNatClampNeg))) hx hb hK hP b12 dX12_suppressed_67 rfl ?_
            refine lv_goto (tgt := 85) hx hb dX12_suppressed_68 (by decide) ?_
            obtain rfl := Option.some.inj hf
            exact W.iret (v := (p7.2.a 89 ((((8 * (p7.2.i 114)) + x1) : Int32).toNatClampNeg))) hx hb hr (fun t ht hW => ⟨⟨(p7.2.a 89 ((((8 * (p7.2.i 114)) + x1) : Int32).toNatClampNeg)), (), rfl, rfl, by rw [ht]; exact hP, va_K.moved hW.alike hK, hD⟩, hS.F ht⟩) hS.2.2 dX12_suppressed_85
        ·
          replace hf := (if_pos c9).symm.trans hf
          exact j_X12_suppressed_48 l dC dI Q N R hx hb hr hml hown hts hlocks hZ hA hK p7.2 _ _ _ hf hP hD hS (lv_sub hl [] rfl)
theorem k_X12_rounds_fieldLink_RX12_273_SRModel_thrown_I : Cond.fieldLink RX12 273 "StatementRules2Model" "thrown" "I" ∈ wzX12_rounds := List.mem_cons_of_mem _ (List.mem_append_left _ (List.mem_of_getElem? (i := 0) rfl))
theorem i_X12_rounds_X12 : ∀ w ∈ wsX120, w ∈ wzX12_rounds := fun _ h => List.mem_cons_of_mem _ (List.mem_append_right _ (List.mem_append_left _ (h)))
set_option maxHeartbeats 4000000 in
set_option maxRecDepth 100000 in
theorem j_X12_rounds_13 {p : Program} {e : Env} {s : State} {m : MethodId} {args : Array Value} {below : List Frame} {meth : Method} {c : Code} {A : Nat → Prop} (l : Launch) (dC : Nat → ClassId) (dI : Nat → Nat → Nat) (Q : RQ) (N : Nat) (R : Int32 × RS) (hx : p.tables.exec = Jvm.exec) (hb : c.code = cX12_rounds) (hr : meth.sig.returnType = (some .int)) (hml : c.maxLocals = 3) (hown : s.vm.findClass RX12 = some m.cls) (hts : ∀ w ∈ wzX12_rounds, w.before args s = true) (hlocks : meth.locks = false) (hZ : zAMB s) (hA : ∀ q : Nat, s.heap.size ≤ q → A q) (hK : va_K (dC, dI) vwCl (rT Q) s) : ∀ (σ : RS) (H : Heap) (locs : List Loc) (ls : Array Slot), f_X12_rounds_13 N σ = some R → va_P (dC, dI) vwCl (rW Q σ) H → va_D A (rW Q σ) → va_S A s.heap H locs → lv_has ls 3 [] → W p l e ({ frames := 1, cells := 0, slots := 0, locals := 60 }) s m args below meth c H locs 0 0 (MQ below (va_Qi (fun (r : Int32) (_ : Unit) => r = R.1) (fun (_ : Unit) (t : State) => zPost dC dI A (rW Q R.2) (rT Q) t) A) args s 0 0 A) (F0 m 13 ls []) := by
  intro σ  H locs ls hf hP hD hS hl
  unfold f_X12_rounds_13 at hf
  refine lv_iconst (v := (-1)) hx hb dX12_rounds_13 (by decide) ?_
  obtain rfl := Option.some.inj hf
  exact W.iret (v := (-1)) hx hb hr (fun t ht hW => ⟨⟨(-1), (), rfl, rfl, by rw [ht]; exact hP, va_K.moved hW.alike hK, hD⟩, hS.F ht⟩) hS.2.2 dX12_rounds_14
set_option maxHeartbeats 4000000 in
set_option maxRecDepth 100000 in
theorem c_X12_rounds (l : Launch) (dC : Nat → ClassId) (dI : Nat → Nat → Nat) (sz : Nat) (Q : RQ) (N : Nat) (σ : RS) (x1 : Int32) (x2 : Int32) (R : Int32 × RS) (hf : f_X12_rounds N σ x1 x2 = some R) : Met l yX12_rounds wzX12_rounds ({ frames := 1, cells := 0, slots := 0, locals := 60 }) (va_Pc [.ref Q.h0, .int x1, .int x2] (zPre dC dI sz (rW Q σ) (rT Q))) (va_Qi (fun (r : Int32) (_ : Unit) => r = R.1) (fun (_ : Unit) (t : State) => zPost dC dI (va_A (rW Q σ) sz) (rW Q R.2) (rT Q) t) (va_A (rW Q σ) sz)) 0 0 (va_A (rW Q σ) sz) := by
  refine Met.ofW (cc := cX12_rounds) (maxL := 3) (ret := (some .int)) (by decide) rfl ?_
  intro p e s m args below meth c s₁ B hml hv
  obtain ⟨rfl, hsz, hZ, hP, hK, hD0⟩ := hv
  have hx := B.exec
  have hb := B.bytes
  have hr := B.returns
  have hts := atoms_spec (ws := wzX12_rounds) B.pre
  have hown : s.vm.findClass RX12 = some m.cls := findClass_of_methodNamed B.named
  have hlocks := B.notSynchronized
  subst hsz
  have hD := hD0.self (sz := s.heap.size)
  generalize hAe : va_A (rW Q σ) s.heap.size = A at hD ⊢
  have hA : ∀ q : Nat, s.heap.size ≤ q → A q := fun q h => by rw [← hAe]; exact Or.inr h
  have hS : va_S A s.heap s.heap [] := va_S.rf
  have hl := lv_entry ([.ref Q.h0, .int x1, .int x2]) (n := 3) (Nat.le_of_ble_eq_true rfl)
  rw [lg_entry_eq]
  generalize (lg_sl ([.ref Q.h0, .int x1, .int x2]) ++ List.replicate (3 - (lg_sl ([.ref Q.h0, .int x1, .int x2])).length) Slot.unset).toArray = ls at hl ⊢
  have hl : lv_has ls 3 [(0, .ref Q.h0), (1, .int x1), (2, .int x2)] := hl
  unfold f_X12_rounds at hf
  refine lv_aload_n hx hb dX12_rounds_0 rfl (lv_at hl 0 rfl) ?_
  refine lv_iconst (v := 0) hx hb dX12_rounds_1 (by decide) ?_
  refine rP_0 hx hb hts i_X12_rounds_X12 hown hK hP hD hS (hts (.fieldLink RX12 273 "StatementRules2Model" "thrown" "I") k_X12_rounds_fieldLink_RX12_273_SRModel_thrown_I) dX12_rounds_2 (fun H locs hP hD hS => ?_)
  refine lv_iload_n hx hb dX12_rounds_5 rfl (lv_at hl 1 rfl) ?_
  refine lv_if_lt (tgt := 13) hx hb dX12_rounds_6 (by decide) (fun c1 => ?_) (fun c1 => ?_)
  ·
    replace hf := (if_pos c1).symm.trans hf
    exact j_X12_rounds_13 l dC dI Q N R hx hb hr hml hown hts hlocks hZ hA hK (RS.setI σ 0 0) _ _ _ hf hP hD hS (lv_sub hl [] rfl)
  ·
    replace hf := (if_neg c1).symm.trans hf
    refine lv_iload_n hx hb dX12_rounds_9 rfl (lv_at hl 2 rfl) ?_
    refine lv_if_ge (tgt := 15) hx hb dX12_rounds_10 (by decide) (fun c2 => ?_) (fun c2 => ?_)
    ·
      replace hf := (if_pos c2).symm.trans hf
      refine lv_iload_n hx hb dX12_rounds_15 rfl (lv_at hl 2 rfl) ?_
      refine lv_if_ne (tgt := 26) hx hb dX12_rounds_16 (by decide) (fun c3 => ?_) (fun c3 => ?_)
      ·
        replace hf := (if_neg c3).symm.trans hf
        refine lv_iload_n hx hb dX12_rounds_26 rfl (lv_at hl 1 rfl) ?_
        refine lv_iload_n hx hb dX12_rounds_27 rfl (lv_at hl 2 rfl) ?_
        obtain ⟨b4, hf⟩ := hf_itn hf
        refine lv_idiv hx hb dX12_rounds_28 b4 ?_
        refine lv_iload_n hx hb dX12_rounds_29 rfl (lv_at hl 1 rfl) ?_
        refine lv_iload_n hx hb dX12_rounds_30 rfl (lv_at hl 2 rfl) ?_
        refine lv_irem hx hb dX12_rounds_31 b4 ?_
        refine lv_if_le (tgt := 39) hx hb dX12_rounds_32 (by decide) (fun c5 => ?_) (fun c5 => ?_)
        ·
          replace hf := (if_pos c5).symm.trans hf
          refine lv_iconst (v := 0) hx hb dX12_rounds_39 (by decide) ?_
          refine lv_iadd hx hb dX12_rounds_40 ?_
          obtain rfl := Option.some.inj hf
          exact W.iret (v := ((x1 / x2) + 0)) hx hb hr (fun t ht hW => ⟨⟨((x1 / x2) + 0), (), rfl, rfl, by rw [ht]; exact hP, va_K.moved hW.alike hK, hD⟩, hS.F ht⟩) hS.2.2 dX12_rounds_41
        ·
          replace hf := (if_neg c5).symm.trans hf
          refine lv_iconst (v := 1) hx hb dX12_rounds_35 (by decide) ?_
          refine lv_goto (tgt := 40) hx hb dX12_rounds_36 (by decide) ?_
          refine lv_iadd hx hb dX12_rounds_40 ?_
          obtain rfl := Option.some.inj hf
          exact W.iret (v := ((x1 / x2) + 1)) hx hb hr (fun t ht hW => ⟨⟨((x1 / x2) + 1), (), rfl, rfl, by rw [ht]; exact hP, va_K.moved hW.alike hK, hD⟩, hS.F ht⟩) hS.2.2 dX12_rounds_41
      ·
        replace hf := (if_pos c3).symm.trans hf
        refine lv_aload_n hx hb dX12_rounds_19 rfl (lv_at hl 0 rfl) ?_
        refine lv_iconst (v := 1) hx hb dX12_rounds_20 (by decide) ?_
        refine rP_0 hx hb hts i_X12_rounds_X12 hown hK hP hD hS (hts (.fieldLink RX12 273 "StatementRules2Model" "thrown" "I") k_X12_rounds_fieldLink_RX12_273_SRModel_thrown_I) dX12_rounds_21 (fun H locs hP hD hS => ?_)
        refine lv_iconst (v := 0) hx hb dX12_rounds_24 (by decide) ?_
        obtain rfl := Option.some.inj hf
        exact W.iret (v := 0) hx hb hr (fun t ht hW => ⟨⟨0, (), rfl, rfl, by rw [ht]; exact hP, va_K.moved hW.alike hK, hD⟩, hS.F ht⟩) hS.2.2 dX12_rounds_25
    ·
      replace hf := (if_neg c2).symm.trans hf
      exact j_X12_rounds_13 l dC dI Q N R hx hb hr hml hown hts hlocks hZ hA hK (RS.setI σ 0 0) _ _ _ hf hP hD hS (lv_sub hl [] rfl)
end
section
theorem dX0_clear_0 : decode cX0_clear 0 = .ok (.aload_n 0, 1) := by decide +kernel
theorem dX0_clear_1 : decode cX0_clear 1 = .ok (.iconst 0, 1) := by decide +kernel
theorem dX0_clear_2 : decode cX0_clear 2 = .ok (.putfield 27, 3) := by decide +kernel
theorem dX0_clear_5 : decode cX0_clear 5 = .ok (.aload_n 0, 1) := by decide +kernel
theorem dX0_clear_6 : decode cX0_clear 6 = .ok (.iconst 0, 1) := by decide +kernel
theorem dX0_clear_7 : decode cX0_clear 7 = .ok (.putfield 31, 3) := by decide +kernel
theorem dX0_clear_10 : decode cX0_clear 10 = .ok (.aload_n 0, 1) := by decide +kernel
theorem dX0_clear_11 : decode cX0_clear 11 = .ok (.iconst 0, 1) := by decide +kernel
theorem dX0_clear_12 : decode cX0_clear 12 = .ok (.putfield 34, 3) := by decide +kernel
theorem dX0_clear_15 : decode cX0_clear 15 = .ok (.aload_n 0, 1) := by decide +kernel
theorem dX0_clear_16 : decode cX0_clear 16 = .ok (.iconst 0, 1) := by decide +kernel
theorem dX0_clear_17 : decode cX0_clear 17 = .ok (.putfield 37, 3) := by decide +kernel
theorem dX0_clear_20 : decode cX0_clear 20 = .ok (.aload_n 0, 1) := by decide +kernel
theorem dX0_clear_21 : decode cX0_clear 21 = .ok (.iconst 0, 1) := by decide +kernel
theorem dX0_clear_22 : decode cX0_clear 22 = .ok (.putfield 40, 3) := by decide +kernel
theorem dX0_clear_25 : decode cX0_clear 25 = .ok (.aload_n 0, 1) := by decide +kernel
theorem dX0_clear_26 : decode cX0_clear 26 = .ok (.iconst 0, 1) := by decide +kernel
theorem dX0_clear_27 : decode cX0_clear 27 = .ok (.putfield 43, 3) := by decide +kernel
theorem dX0_clear_30 : decode cX0_clear 30 = .ok (.aload_n 0, 1) := by decide +kernel
theorem dX0_clear_31 : decode cX0_clear 31 = .ok (.iconst 0, 1) := by decide +kernel
theorem dX0_clear_32 : decode cX0_clear 32 = .ok (.putfield 46, 3) := by decide +kernel
theorem dX0_clear_35 : decode cX0_clear 35 = .ok (.aload_n 0, 1) := by decide +kernel
theorem dX0_clear_36 : decode cX0_clear 36 = .ok (.iconst 0, 1) := by decide +kernel
theorem dX0_clear_37 : decode cX0_clear 37 = .ok (.putfield 49, 3) := by decide +kernel
theorem dX0_clear_40 : decode cX0_clear 40 = .ok (.return_, 1) := by decide +kernel
theorem dX0_add_0 : decode cX0_add 0 = .ok (.aload_n 0, 1) := by decide +kernel
theorem dX0_add_1 : decode cX0_add 1 = .ok (.getfield 9, 3) := by decide +kernel
theorem dX0_add_4 : decode cX0_add 4 = .ok (.aload_n 0, 1) := by decide +kernel
theorem dX0_add_5 : decode cX0_add 5 = .ok (.getfield 27, 3) := by decide +kernel
theorem dX0_add_8 : decode cX0_add 8 = .ok (.iload_n 1, 1) := by decide +kernel
theorem dX0_add_9 : decode cX0_add 9 = .ok (.invokestatic 53, 3) := by decide +kernel
theorem dX0_add_12 : decode cX0_add 12 = .ok (.aload_n 0, 1) := by decide +kernel
theorem dX0_add_13 : decode cX0_add 13 = .ok (.getfield 15, 3) := by decide +kernel
theorem dX0_add_16 : decode cX0_add 16 = .ok (.aload_n 0, 1) := by decide +kernel
theorem dX0_add_17 : decode cX0_add 17 = .ok (.getfield 27, 3) := by decide +kernel
theorem dX0_add_20 : decode cX0_add 20 = .ok (.iload_n 2, 1) := by decide +kernel
theorem dX0_add_21 : decode cX0_add 21 = .ok (.invokestatic 53, 3) := by decide +kernel
theorem dX0_add_24 : decode cX0_add 24 = .ok (.aload_n 0, 1) := by decide +kernel
theorem dX0_add_25 : decode cX0_add 25 = .ok (.dup, 1) := by decide +kernel
theorem dX0_add_26 : decode cX0_add 26 = .ok (.getfield 27, 3) := by decide +kernel
theorem dX0_add_29 : decode cX0_add 29 = .ok (.iconst 1, 1) := by decide +kernel
theorem dX0_add_30 : decode cX0_add 30 = .ok (.iadd, 1) := by decide +kernel
theorem dX0_add_31 : decode cX0_add 31 = .ok (.putfield 27, 3) := by decide +kernel
theorem dX0_add_34 : decode cX0_add 34 = .ok (.return_, 1) := by decide +kernel
theorem dX0_newTarget_0 : decode cX0_newTarget 0 = .ok (.aload_n 0, 1) := by decide +kernel
theorem dX0_newTarget_1 : decode cX0_newTarget 1 = .ok (.getfield 18, 3) := by decide +kernel
theorem dX0_newTarget_4 : decode cX0_newTarget 4 = .ok (.aload_n 0, 1) := by decide +kernel
theorem dX0_newTarget_5 : decode cX0_newTarget 5 = .ok (.getfield 31, 3) := by decide +kernel
theorem dX0_newTarget_8 : decode cX0_newTarget 8 = .ok (.iconst (-1), 1) := by decide +kernel
theorem dX0_newTarget_9 : decode cX0_newTarget 9 = .ok (.invokestatic 53, 3) := by decide +kernel
theorem dX0_newTarget_12 : decode cX0_newTarget 12 = .ok (.aload_n 0, 1) := by decide +kernel
theorem dX0_newTarget_13 : decode cX0_newTarget 13 = .ok (.dup, 1) := by decide +kernel
theorem dX0_newTarget_14 : decode cX0_newTarget 14 = .ok (.getfield 31, 3) := by decide +kernel
theorem dX0_newTarget_17 : decode cX0_newTarget 17 = .ok (.iconst 1, 1) := by decide +kernel
theorem dX0_newTarget_18 : decode cX0_newTarget 18 = .ok (.iadd, 1) := by decide +kernel
theorem dX0_newTarget_19 : decode cX0_newTarget 19 = .ok (.putfield 31, 3) := by decide +kernel
theorem dX0_newTarget_22 : decode cX0_newTarget 22 = .ok (.aload_n 0, 1) := by decide +kernel
theorem dX0_newTarget_23 : decode cX0_newTarget 23 = .ok (.getfield 31, 3) := by decide +kernel
theorem dX0_newTarget_26 : decode cX0_newTarget 26 = .ok (.iconst 1, 1) := by decide +kernel
theorem dX0_newTarget_27 : decode cX0_newTarget 27 = .ok (.isub, 1) := by decide +kernel
theorem dX0_newTarget_28 : decode cX0_newTarget 28 = .ok (.ireturn, 1) := by decide +kernel
theorem dX0_aim_0 : decode cX0_aim 0 = .ok (.aload_n 0, 1) := by decide +kernel
theorem dX0_aim_1 : decode cX0_aim 1 = .ok (.getfield 18, 3) := by decide +kernel
theorem dX0_aim_4 : decode cX0_aim 4 = .ok (.iload_n 1, 1) := by decide +kernel
theorem dX0_aim_5 : decode cX0_aim 5 = .ok (.aload_n 0, 1) := by decide +kernel
theorem dX0_aim_6 : decode cX0_aim 6 = .ok (.getfield 27, 3) := by decide +kernel
theorem dX0_aim_9 : decode cX0_aim 9 = .ok (.invokestatic 53, 3) := by decide +kernel
theorem dX0_aim_12 : decode cX0_aim 12 = .ok (.return_, 1) := by decide +kernel
theorem dX0_newCells_0 : decode cX0_newCells 0 = .ok (.aload_n 0, 1) := by decide +kernel
theorem dX0_newCells_1 : decode cX0_newCells 1 = .ok (.dup, 1) := by decide +kernel
theorem dX0_newCells_2 : decode cX0_newCells 2 = .ok (.getfield 37, 3) := by decide +kernel
theorem dX0_newCells_5 : decode cX0_newCells 5 = .ok (.iload_n 1, 1) := by decide +kernel
theorem dX0_newCells_6 : decode cX0_newCells 6 = .ok (.iadd, 1) := by decide +kernel
theorem dX0_newCells_7 : decode cX0_newCells 7 = .ok (.putfield 37, 3) := by decide +kernel
theorem dX0_newCells_10 : decode cX0_newCells 10 = .ok (.aload_n 0, 1) := by decide +kernel
theorem dX0_newCells_11 : decode cX0_newCells 11 = .ok (.getfield 37, 3) := by decide +kernel
theorem dX0_newCells_14 : decode cX0_newCells 14 = .ok (.iload_n 1, 1) := by decide +kernel
theorem dX0_newCells_15 : decode cX0_newCells 15 = .ok (.isub, 1) := by decide +kernel
theorem dX0_newCells_16 : decode cX0_newCells 16 = .ok (.ireturn, 1) := by decide +kernel
theorem dX0_hasCase_0 : decode cX0_hasCase 0 = .ok (.iload_n 1, 1) := by decide +kernel
theorem dX0_hasCase_1 : decode cX0_hasCase 1 = .ok (.istore_n 3, 1) := by decide +kernel
theorem dX0_hasCase_2 : decode cX0_hasCase 2 = .ok (.iload_n 3, 1) := by decide +kernel
theorem dX0_hasCase_3 : decode cX0_hasCase 3 = .ok (.aload_n 0, 1) := by decide +kernel
theorem dX0_hasCase_4 : decode cX0_hasCase 4 = .ok (.getfield 34, 3) := by decide +kernel
theorem dX0_hasCase_7 : decode cX0_hasCase 7 = .ok (.if_icmp .ge 23, 3) := by decide +kernel
theorem dX0_hasCase_10 : decode cX0_hasCase 10 = .ok (.aload_n 0, 1) := by decide +kernel
theorem dX0_hasCase_11 : decode cX0_hasCase 11 = .ok (.getfield 21, 3) := by decide +kernel
theorem dX0_hasCase_14 : decode cX0_hasCase 14 = .ok (.iload_n 3, 1) := by decide +kernel
theorem dX0_hasCase_15 : decode cX0_hasCase 15 = .ok (.invokestatic 57, 3) := by decide +kernel
theorem dX0_hasCase_18 : decode cX0_hasCase 18 = .ok (.iload_n 2, 1) := by decide +kernel
theorem dX0_hasCase_19 : decode cX0_hasCase 19 = .ok (.if_icmp .ne 5, 3) := by decide +kernel
theorem dX0_hasCase_22 : decode cX0_hasCase 22 = .ok (.iconst 1, 1) := by decide +kernel
theorem dX0_hasCase_23 : decode cX0_hasCase 23 = .ok (.ireturn, 1) := by decide +kernel
theorem dX0_hasCase_24 : decode cX0_hasCase 24 = .ok (.iinc 3 1, 3) := by decide +kernel
theorem dX0_hasCase_27 : decode cX0_hasCase 27 = .ok (.goto (-25), 3) := by decide +kernel
theorem dX0_hasCase_30 : decode cX0_hasCase 30 = .ok (.iconst 0, 1) := by decide +kernel
theorem dX0_hasCase_31 : decode cX0_hasCase 31 = .ok (.ireturn, 1) := by decide +kernel
theorem dX0_addCase_0 : decode cX0_addCase 0 = .ok (.aload_n 0, 1) := by decide +kernel
theorem dX0_addCase_1 : decode cX0_addCase 1 = .ok (.getfield 21, 3) := by decide +kernel
theorem dX0_addCase_4 : decode cX0_addCase 4 = .ok (.aload_n 0, 1) := by decide +kernel
theorem dX0_addCase_5 : decode cX0_addCase 5 = .ok (.getfield 34, 3) := by decide +kernel
theorem dX0_addCase_8 : decode cX0_addCase 8 = .ok (.iload_n 1, 1) := by decide +kernel
theorem dX0_addCase_9 : decode cX0_addCase 9 = .ok (.invokestatic 53, 3) := by decide +kernel
theorem dX0_addCase_12 : decode cX0_addCase 12 = .ok (.aload_n 0, 1) := by decide +kernel
theorem dX0_addCase_13 : decode cX0_addCase 13 = .ok (.getfield 24, 3) := by decide +kernel
theorem dX0_addCase_16 : decode cX0_addCase 16 = .ok (.aload_n 0, 1) := by decide +kernel
theorem dX0_addCase_17 : decode cX0_addCase 17 = .ok (.getfield 34, 3) := by decide +kernel
theorem dX0_addCase_20 : decode cX0_addCase 20 = .ok (.iload_n 2, 1) := by decide +kernel
theorem dX0_addCase_21 : decode cX0_addCase 21 = .ok (.invokestatic 53, 3) := by decide +kernel
theorem dX0_addCase_24 : decode cX0_addCase 24 = .ok (.aload_n 0, 1) := by decide +kernel
theorem dX0_addCase_25 : decode cX0_addCase 25 = .ok (.dup, 1) := by decide +kernel
theorem dX0_addCase_26 : decode cX0_addCase 26 = .ok (.getfield 34, 3) := by decide +kernel
theorem dX0_addCase_29 : decode cX0_addCase 29 = .ok (.iconst 1, 1) := by decide +kernel
theorem dX0_addCase_30 : decode cX0_addCase 30 = .ok (.iadd, 1) := by decide +kernel
theorem dX0_addCase_31 : decode cX0_addCase 31 = .ok (.putfield 34, 3) := by decide +kernel
theorem dX0_addCase_34 : decode cX0_addCase 34 = .ok (.return_, 1) := by decide +kernel
theorem dX0_addCases_0 : decode cX0_addCases 0 = .ok (.iload_n 1, 1) := by decide +kernel
theorem dX0_addCases_1 : decode cX0_addCases 1 = .ok (.istore_n 3, 1) := by decide +kernel
theorem dX0_addCases_2 : decode cX0_addCases 2 = .ok (.iload_n 3, 1) := by decide +kernel
theorem dX0_addCases_3 : decode cX0_addCases 3 = .ok (.aload_n 0, 1) := by decide +kernel
theorem dX0_addCases_4 : decode cX0_addCases 4 = .ok (.getfield 34, 3) := by decide +kernel
theorem dX0_addCases_7 : decode cX0_addCases 7 = .ok (.if_icmp .ge 36, 3) := by decide +kernel
theorem dX0_addCases_10 : decode cX0_addCases 10 = .ok (.aload_n 0, 1) := by decide +kernel
theorem dX0_addCases_11 : decode cX0_addCases 11 = .ok (.iconst 0, 1) := by decide +kernel
theorem dX0_addCases_12 : decode cX0_addCases 12 = .ok (.aload_n 0, 1) := by decide +kernel
theorem dX0_addCases_13 : decode cX0_addCases 13 = .ok (.getfield 21, 3) := by decide +kernel
theorem dX0_addCases_16 : decode cX0_addCases 16 = .ok (.iload_n 3, 1) := by decide +kernel
theorem dX0_addCases_17 : decode cX0_addCases 17 = .ok (.invokestatic 57, 3) := by decide +kernel
theorem dX0_addCases_20 : decode cX0_addCases 20 = .ok (.invokevirtual 61, 3) := by decide +kernel
theorem dX0_addCases_23 : decode cX0_addCases 23 = .ok (.aload_n 0, 1) := by decide +kernel
theorem dX0_addCases_24 : decode cX0_addCases 24 = .ok (.bipush 34, 2) := by decide +kernel
theorem dX0_addCases_26 : decode cX0_addCases 26 = .ok (.aload_n 0, 1) := by decide +kernel
theorem dX0_addCases_27 : decode cX0_addCases 27 = .ok (.getfield 24, 3) := by decide +kernel
theorem dX0_addCases_30 : decode cX0_addCases 30 = .ok (.iload_n 3, 1) := by decide +kernel
theorem dX0_addCases_31 : decode cX0_addCases 31 = .ok (.invokestatic 57, 3) := by decide +kernel
theorem dX0_addCases_34 : decode cX0_addCases 34 = .ok (.invokevirtual 61, 3) := by decide +kernel
theorem dX0_addCases_37 : decode cX0_addCases 37 = .ok (.iinc 3 1, 3) := by decide +kernel
theorem dX0_addCases_40 : decode cX0_addCases 40 = .ok (.goto (-38), 3) := by decide +kernel
theorem dX0_addCases_43 : decode cX0_addCases 43 = .ok (.aload_n 0, 1) := by decide +kernel
theorem dX0_addCases_44 : decode cX0_addCases 44 = .ok (.iload_n 1, 1) := by decide +kernel
theorem dX0_addCases_45 : decode cX0_addCases 45 = .ok (.putfield 34, 3) := by decide +kernel
theorem dX0_addCases_48 : decode cX0_addCases 48 = .ok (.aload_n 0, 1) := by decide +kernel
theorem dX0_addCases_49 : decode cX0_addCases 49 = .ok (.bipush 6, 2) := by decide +kernel
theorem dX0_addCases_51 : decode cX0_addCases 51 = .ok (.iconst 0, 1) := by decide +kernel
theorem dX0_addCases_52 : decode cX0_addCases 52 = .ok (.invokevirtual 61, 3) := by decide +kernel
theorem dX0_addCases_55 : decode cX0_addCases 55 = .ok (.aload_n 0, 1) := by decide +kernel
theorem dX0_addCases_56 : decode cX0_addCases 56 = .ok (.bipush 30, 2) := by decide +kernel
theorem dX0_addCases_58 : decode cX0_addCases 58 = .ok (.iload_n 2, 1) := by decide +kernel
theorem dX0_addCases_59 : decode cX0_addCases 59 = .ok (.invokevirtual 61, 3) := by decide +kernel
theorem dX0_addCases_62 : decode cX0_addCases 62 = .ok (.return_, 1) := by decide +kernel
theorem dX1_fail_0 : decode cX1_fail 0 = .ok (.aload_n 0, 1) := by decide +kernel
theorem dX1_fail_1 : decode cX1_fail 1 = .ok (.getfield 30, 3) := by decide +kernel
theorem dX1_fail_4 : decode cX1_fail 4 = .ok (.ifCond .ne 20, 3) := by decide +kernel
theorem dX1_fail_7 : decode cX1_fail 7 = .ok (.aload_n 0, 1) := by decide +kernel
theorem dX1_fail_8 : decode cX1_fail 8 = .ok (.iload_n 1, 1) := by decide +kernel
theorem dX1_fail_9 : decode cX1_fail 9 = .ok (.putfield 30, 3) := by decide +kernel
theorem dX1_fail_12 : decode cX1_fail 12 = .ok (.aload_n 0, 1) := by decide +kernel
theorem dX1_fail_13 : decode cX1_fail 13 = .ok (.iload_n 2, 1) := by decide +kernel
theorem dX1_fail_14 : decode cX1_fail 14 = .ok (.putfield 34, 3) := by decide +kernel
theorem dX1_fail_17 : decode cX1_fail 17 = .ok (.aload_n 0, 1) := by decide +kernel
theorem dX1_fail_18 : decode cX1_fail 18 = .ok (.getfield 18, 3) := by decide +kernel
theorem dX1_fail_21 : decode cX1_fail 21 = .ok (.invokevirtual 37, 3) := by decide +kernel
theorem dX1_fail_24 : decode cX1_fail 24 = .ok (.return_, 1) := by decide +kernel
theorem dX1_misplaced_0 : decode cX1_misplaced 0 = .ok (.aload_n 0, 1) := by decide +kernel
theorem dX1_misplaced_1 : decode cX1_misplaced 1 = .ok (.aload_n 0, 1) := by decide +kernel
theorem dX1_misplaced_2 : decode cX1_misplaced 2 = .ok (.bipush 6, 2) := by decide +kernel
theorem dX1_misplaced_4 : decode cX1_misplaced 4 = .ok (.invokevirtual 42, 3) := by decide +kernel
theorem dX1_misplaced_7 : decode cX1_misplaced 7 = .ok (.ifCond .eq 7, 3) := by decide +kernel
theorem dX1_misplaced_10 : decode cX1_misplaced 10 = .ok (.iconst 1, 1) := by decide +kernel
theorem dX1_misplaced_11 : decode cX1_misplaced 11 = .ok (.goto 4, 3) := by decide +kernel
theorem dX1_misplaced_14 : decode cX1_misplaced 14 = .ok (.iconst 2, 1) := by decide +kernel
theorem dX1_misplaced_15 : decode cX1_misplaced 15 = .ok (.aload_n 0, 1) := by decide +kernel
theorem dX1_misplaced_16 : decode cX1_misplaced 16 = .ok (.getfield 18, 3) := by decide +kernel
theorem dX1_misplaced_19 : decode cX1_misplaced 19 = .ok (.getfield 46, 3) := by decide +kernel
theorem dX1_misplaced_22 : decode cX1_misplaced 22 = .ok (.invokevirtual 49, 3) := by decide +kernel
theorem dX1_misplaced_25 : decode cX1_misplaced 25 = .ok (.return_, 1) := by decide +kernel
theorem dX1_found_0 : decode cX1_found 0 = .ok (.aload_n 0, 1) := by decide +kernel
theorem dX1_found_1 : decode cX1_found 1 = .ok (.getfield 18, 3) := by decide +kernel
theorem dX1_found_4 : decode cX1_found 4 = .ok (.getfield 53, 3) := by decide +kernel
theorem dX1_found_7 : decode cX1_found 7 = .ok (.iload_n 1, 1) := by decide +kernel
theorem dX1_found_8 : decode cX1_found 8 = .ok (.if_icmp .ne 7, 3) := by decide +kernel
theorem dX1_found_11 : decode cX1_found 11 = .ok (.iconst 1, 1) := by decide +kernel
theorem dX1_found_12 : decode cX1_found 12 = .ok (.goto 4, 3) := by decide +kernel
theorem dX1_found_15 : decode cX1_found 15 = .ok (.iconst 0, 1) := by decide +kernel
theorem dX1_found_16 : decode cX1_found 16 = .ok (.ireturn, 1) := by decide +kernel
theorem dX1_skip_0 : decode cX1_skip 0 = .ok (.aload_n 0, 1) := by decide +kernel
theorem dX1_skip_1 : decode cX1_skip 1 = .ok (.iload_n 1, 1) := by decide +kernel
theorem dX1_skip_2 : decode cX1_skip 2 = .ok (.invokevirtual 42, 3) := by decide +kernel
theorem dX1_skip_5 : decode cX1_skip 5 = .ok (.istore_n 2, 1) := by decide +kernel
theorem dX1_skip_6 : decode cX1_skip 6 = .ok (.iload_n 2, 1) := by decide +kernel
theorem dX1_skip_7 : decode cX1_skip 7 = .ok (.ifCond .eq 10, 3) := by decide +kernel
theorem dX1_skip_10 : decode cX1_skip 10 = .ok (.aload_n 0, 1) := by decide +kernel
theorem dX1_skip_11 : decode cX1_skip 11 = .ok (.getfield 18, 3) := by decide +kernel
theorem dX1_skip_14 : decode cX1_skip 14 = .ok (.invokevirtual 56, 3) := by decide +kernel
theorem dX1_skip_17 : decode cX1_skip 17 = .ok (.iload_n 2, 1) := by decide +kernel
theorem dX1_skip_18 : decode cX1_skip 18 = .ok (.ireturn, 1) := by decide +kernel
theorem dX1_expect_0 : decode cX1_expect 0 = .ok (.aload_n 0, 1) := by decide +kernel
theorem dX1_expect_1 : decode cX1_expect 1 = .ok (.iload_n 1, 1) := by decide +kernel
theorem dX1_expect_2 : decode cX1_expect 2 = .ok (.invokevirtual 42, 3) := by decide +kernel
theorem dX1_expect_5 : decode cX1_expect 5 = .ok (.ifCond .eq 13, 3) := by decide +kernel
theorem dX1_expect_8 : decode cX1_expect 8 = .ok (.aload_n 0, 1) := by decide +kernel
theorem dX1_expect_9 : decode cX1_expect 9 = .ok (.getfield 18, 3) := by decide +kernel
theorem dX1_expect_12 : decode cX1_expect 12 = .ok (.invokevirtual 56, 3) := by decide +kernel
theorem dX1_expect_15 : decode cX1_expect 15 = .ok (.goto 7, 3) := by decide +kernel
theorem dX1_expect_18 : decode cX1_expect 18 = .ok (.aload_n 0, 1) := by decide +kernel
theorem dX1_expect_19 : decode cX1_expect 19 = .ok (.invokevirtual 59, 3) := by decide +kernel
theorem dX1_expect_22 : decode cX1_expect 22 = .ok (.return_, 1) := by decide +kernel
theorem dX1_open_0 : decode cX1_open 0 = .ok (.aload_n 0, 1) := by decide +kernel
theorem dX1_open_1 : decode cX1_open 1 = .ok (.iload_n 1, 1) := by decide +kernel
theorem dX1_open_2 : decode cX1_open 2 = .ok (.invokevirtual 42, 3) := by decide +kernel
theorem dX1_open_5 : decode cX1_open 5 = .ok (.ifCond .ne 10, 3) := by decide +kernel
theorem dX1_open_8 : decode cX1_open 8 = .ok (.aload_n 0, 1) := by decide +kernel
theorem dX1_open_9 : decode cX1_open 9 = .ok (.invokevirtual 59, 3) := by decide +kernel
theorem dX1_open_12 : decode cX1_open 12 = .ok (.goto 45, 3) := by decide +kernel
theorem dX1_open_15 : decode cX1_open 15 = .ok (.aload_n 0, 1) := by decide +kernel
theorem dX1_open_16 : decode cX1_open 16 = .ok (.getfield 62, 3) := by decide +kernel
theorem dX1_open_19 : decode cX1_open 19 = .ok (.bipush 20, 2) := by decide +kernel
theorem dX1_open_21 : decode cX1_open 21 = .ok (.if_icmp .lt 19, 3) := by decide +kernel
theorem dX1_open_24 : decode cX1_open 24 = .ok (.aload_n 0, 1) := by decide +kernel
theorem dX1_open_25 : decode cX1_open 25 = .ok (.bipush 6, 2) := by decide +kernel
theorem dX1_open_27 : decode cX1_open 27 = .ok (.aload_n 0, 1) := by decide +kernel
theorem dX1_open_28 : decode cX1_open 28 = .ok (.getfield 18, 3) := by decide +kernel
theorem dX1_open_31 : decode cX1_open 31 = .ok (.getfield 46, 3) := by decide +kernel
theorem dX1_open_34 : decode cX1_open 34 = .ok (.invokevirtual 49, 3) := by decide +kernel
theorem dX1_open_37 : decode cX1_open 37 = .ok (.goto 20, 3) := by decide +kernel
theorem dX1_open_40 : decode cX1_open 40 = .ok (.aload_n 0, 1) := by decide +kernel
theorem dX1_open_41 : decode cX1_open 41 = .ok (.dup, 1) := by decide +kernel
theorem dX1_open_42 : decode cX1_open 42 = .ok (.getfield 62, 3) := by decide +kernel
theorem dX1_open_45 : decode cX1_open 45 = .ok (.iconst 1, 1) := by decide +kernel
theorem dX1_open_46 : decode cX1_open 46 = .ok (.iadd, 1) := by decide +kernel
theorem dX1_open_47 : decode cX1_open 47 = .ok (.putfield 62, 3) := by decide +kernel
theorem dX1_open_50 : decode cX1_open 50 = .ok (.aload_n 0, 1) := by decide +kernel
theorem dX1_open_51 : decode cX1_open 51 = .ok (.getfield 18, 3) := by decide +kernel
theorem dX1_open_54 : decode cX1_open 54 = .ok (.invokevirtual 56, 3) := by decide +kernel
theorem dX1_open_57 : decode cX1_open 57 = .ok (.return_, 1) := by decide +kernel
theorem dX1_close_0 : decode cX1_close 0 = .ok (.aload_n 0, 1) := by decide +kernel
theorem dX1_close_1 : decode cX1_close 1 = .ok (.iload_n 1, 1) := by decide +kernel
theorem dX1_close_2 : decode cX1_close 2 = .ok (.invokevirtual 42, 3) := by decide +kernel
theorem dX1_close_5 : decode cX1_close 5 = .ok (.ifCond .eq 13, 3) := by decide +kernel
theorem dX1_close_8 : decode cX1_close 8 = .ok (.aload_n 0, 1) := by decide +kernel
theorem dX1_close_9 : decode cX1_close 9 = .ok (.getfield 18, 3) := by decide +kernel
theorem dX1_close_12 : decode cX1_close 12 = .ok (.invokevirtual 56, 3) := by decide +kernel
theorem dX1_close_15 : decode cX1_close 15 = .ok (.goto 7, 3) := by decide +kernel
theorem dX1_close_18 : decode cX1_close 18 = .ok (.aload_n 0, 1) := by decide +kernel
theorem dX1_close_19 : decode cX1_close 19 = .ok (.invokevirtual 59, 3) := by decide +kernel
theorem dX1_close_22 : decode cX1_close 22 = .ok (.aload_n 0, 1) := by decide +kernel
theorem dX1_close_23 : decode cX1_close 23 = .ok (.dup, 1) := by decide +kernel
theorem dX1_close_24 : decode cX1_close 24 = .ok (.getfield 62, 3) := by decide +kernel
theorem dX1_close_27 : decode cX1_close 27 = .ok (.iconst 1, 1) := by decide +kernel
theorem dX1_close_28 : decode cX1_close 28 = .ok (.isub, 1) := by decide +kernel
theorem dX1_close_29 : decode cX1_close 29 = .ok (.putfield 62, 3) := by decide +kernel
theorem dX1_close_32 : decode cX1_close 32 = .ok (.return_, 1) := by decide +kernel
theorem dX1_expression_0 : decode cX1_expression 0 = .ok (.aload_n 0, 1) := by decide +kernel
theorem dX1_expression_1 : decode cX1_expression 1 = .ok (.invokevirtual 65, 3) := by decide +kernel
theorem dX1_expression_4 : decode cX1_expression 4 = .ok (.iconst 0, 1) := by decide +kernel
theorem dX1_expression_5 : decode cX1_expression 5 = .ok (.istore_n 1, 1) := by decide +kernel
theorem dX1_expression_6 : decode cX1_expression 6 = .ok (.iload_n 1, 1) := by decide +kernel
theorem dX1_expression_7 : decode cX1_expression 7 = .ok (.sipush 900, 3) := by decide +kernel
theorem dX1_expression_10 : decode cX1_expression 10 = .ok (.if_icmp .ge 64, 3) := by decide +kernel
theorem dX1_expression_13 : decode cX1_expression 13 = .ok (.aload_n 0, 1) := by decide +kernel
theorem dX1_expression_14 : decode cX1_expression 14 = .ok (.bipush 43, 2) := by decide +kernel
theorem dX1_expression_16 : decode cX1_expression 16 = .ok (.invokevirtual 42, 3) := by decide +kernel
theorem dX1_expression_19 : decode cX1_expression 19 = .ok (.ifCond .ne 12, 3) := by decide +kernel
theorem dX1_expression_22 : decode cX1_expression 22 = .ok (.aload_n 0, 1) := by decide +kernel
theorem dX1_expression_23 : decode cX1_expression 23 = .ok (.bipush 45, 2) := by decide +kernel
theorem dX1_expression_25 : decode cX1_expression 25 = .ok (.invokevirtual 42, 3) := by decide +kernel
theorem dX1_expression_28 : decode cX1_expression 28 = .ok (.ifCond .eq 46, 3) := by decide +kernel
theorem dX1_expression_31 : decode cX1_expression 31 = .ok (.aload_n 0, 1) := by decide +kernel
theorem dX1_expression_32 : decode cX1_expression 32 = .ok (.bipush 43, 2) := by decide +kernel
theorem dX1_expression_34 : decode cX1_expression 34 = .ok (.invokevirtual 42, 3) := by decide +kernel
theorem dX1_expression_37 : decode cX1_expression 37 = .ok (.ifCond .eq 8, 3) := by decide +kernel
theorem dX1_expression_40 : decode cX1_expression 40 = .ok (.bipush 7, 2) := by decide +kernel
theorem dX1_expression_42 : decode cX1_expression 42 = .ok (.goto 5, 3) := by decide +kernel
theorem dX1_expression_45 : decode cX1_expression 45 = .ok (.bipush 8, 2) := by decide +kernel
theorem dX1_expression_47 : decode cX1_expression 47 = .ok (.istore_n 2, 1) := by decide +kernel
theorem dX1_expression_48 : decode cX1_expression 48 = .ok (.aload_n 0, 1) := by decide +kernel
theorem dX1_expression_49 : decode cX1_expression 49 = .ok (.getfield 18, 3) := by decide +kernel
theorem dX1_expression_52 : decode cX1_expression 52 = .ok (.invokevirtual 56, 3) := by decide +kernel
theorem dX1_expression_55 : decode cX1_expression 55 = .ok (.aload_n 0, 1) := by decide +kernel
theorem dX1_expression_56 : decode cX1_expression 56 = .ok (.invokevirtual 65, 3) := by decide +kernel
theorem dX1_expression_59 : decode cX1_expression 59 = .ok (.aload_n 0, 1) := by decide +kernel
theorem dX1_expression_60 : decode cX1_expression 60 = .ok (.getfield 22, 3) := by decide +kernel
theorem dX1_expression_63 : decode cX1_expression 63 = .ok (.iload_n 2, 1) := by decide +kernel
theorem dX1_expression_64 : decode cX1_expression 64 = .ok (.iconst 0, 1) := by decide +kernel
theorem dX1_expression_65 : decode cX1_expression 65 = .ok (.invokevirtual 68, 3) := by decide +kernel
theorem dX1_expression_68 : decode cX1_expression 68 = .ok (.iinc 1 1, 3) := by decide +kernel
theorem dX1_expression_71 : decode cX1_expression 71 = .ok (.goto (-65), 3) := by decide +kernel
theorem dX1_expression_74 : decode cX1_expression 74 = .ok (.return_, 1) := by decide +kernel
theorem dX1_product_0 : decode cX1_product 0 = .ok (.aload_n 0, 1) := by decide +kernel
theorem dX1_product_1 : decode cX1_product 1 = .ok (.invokevirtual 73, 3) := by decide +kernel
theorem dX1_product_4 : decode cX1_product 4 = .ok (.iconst 0, 1) := by decide +kernel
theorem dX1_product_5 : decode cX1_product 5 = .ok (.istore_n 1, 1) := by decide +kernel
theorem dX1_product_6 : decode cX1_product 6 = .ok (.iload_n 1, 1) := by decide +kernel
theorem dX1_product_7 : decode cX1_product 7 = .ok (.sipush 900, 3) := by decide +kernel
theorem dX1_product_10 : decode cX1_product 10 = .ok (.if_icmp .ge 87, 3) := by decide +kernel
theorem dX1_product_13 : decode cX1_product 13 = .ok (.aload_n 0, 1) := by decide +kernel
theorem dX1_product_14 : decode cX1_product 14 = .ok (.bipush 42, 2) := by decide +kernel
theorem dX1_product_16 : decode cX1_product 16 = .ok (.invokevirtual 42, 3) := by decide +kernel
theorem dX1_product_19 : decode cX1_product 19 = .ok (.ifCond .ne 21, 3) := by decide +kernel
theorem dX1_product_22 : decode cX1_product 22 = .ok (.aload_n 0, 1) := by decide +kernel
theorem dX1_product_23 : decode cX1_product 23 = .ok (.bipush 47, 2) := by decide +kernel
theorem dX1_product_25 : decode cX1_product 25 = .ok (.invokevirtual 42, 3) := by decide +kernel
theorem dX1_product_28 : decode cX1_product 28 = .ok (.ifCond .ne 12, 3) := by decide +kernel
theorem dX1_product_31 : decode cX1_product 31 = .ok (.aload_n 0, 1) := by decide +kernel
theorem dX1_product_32 : decode cX1_product 32 = .ok (.bipush 37, 2) := by decide +kernel
theorem dX1_product_34 : decode cX1_product 34 = .ok (.invokevirtual 42, 3) := by decide +kernel
theorem dX1_product_37 : decode cX1_product 37 = .ok (.ifCond .eq 60, 3) := by decide +kernel
theorem dX1_product_40 : decode cX1_product 40 = .ok (.aload_n 0, 1) := by decide +kernel
theorem dX1_product_41 : decode cX1_product 41 = .ok (.bipush 42, 2) := by decide +kernel
theorem dX1_product_43 : decode cX1_product 43 = .ok (.invokevirtual 42, 3) := by decide +kernel
theorem dX1_product_46 : decode cX1_product 46 = .ok (.ifCond .eq 8, 3) := by decide +kernel
theorem dX1_product_49 : decode cX1_product 49 = .ok (.bipush 9, 2) := by decide +kernel
theorem dX1_product_51 : decode cX1_product 51 = .ok (.goto 19, 3) := by decide +kernel
theorem dX1_product_54 : decode cX1_product 54 = .ok (.aload_n 0, 1) := by decide +kernel
theorem dX1_product_55 : decode cX1_product 55 = .ok (.bipush 47, 2) := by decide +kernel
theorem dX1_product_57 : decode cX1_product 57 = .ok (.invokevirtual 42, 3) := by decide +kernel
theorem dX1_product_60 : decode cX1_product 60 = .ok (.ifCond .eq 8, 3) := by decide +kernel
theorem dX1_product_63 : decode cX1_product 63 = .ok (.bipush 10, 2) := by decide +kernel
theorem dX1_product_65 : decode cX1_product 65 = .ok (.goto 5, 3) := by decide +kernel
theorem dX1_product_68 : decode cX1_product 68 = .ok (.bipush 11, 2) := by decide +kernel
theorem dX1_product_70 : decode cX1_product 70 = .ok (.istore_n 2, 1) := by decide +kernel
theorem dX1_product_71 : decode cX1_product 71 = .ok (.aload_n 0, 1) := by decide +kernel
theorem dX1_product_72 : decode cX1_product 72 = .ok (.getfield 18, 3) := by decide +kernel
theorem dX1_product_75 : decode cX1_product 75 = .ok (.invokevirtual 56, 3) := by decide +kernel
theorem dX1_product_78 : decode cX1_product 78 = .ok (.aload_n 0, 1) := by decide +kernel
theorem dX1_product_79 : decode cX1_product 79 = .ok (.invokevirtual 73, 3) := by decide +kernel
theorem dX1_product_82 : decode cX1_product 82 = .ok (.aload_n 0, 1) := by decide +kernel
theorem dX1_product_83 : decode cX1_product 83 = .ok (.getfield 22, 3) := by decide +kernel
theorem dX1_product_86 : decode cX1_product 86 = .ok (.iload_n 2, 1) := by decide +kernel
theorem dX1_product_87 : decode cX1_product 87 = .ok (.iconst 0, 1) := by decide +kernel
theorem dX1_product_88 : decode cX1_product 88 = .ok (.invokevirtual 68, 3) := by decide +kernel
theorem dX1_product_91 : decode cX1_product 91 = .ok (.iinc 1 1, 3) := by decide +kernel
theorem dX1_product_94 : decode cX1_product 94 = .ok (.goto (-88), 3) := by decide +kernel
theorem dX1_product_97 : decode cX1_product 97 = .ok (.return_, 1) := by decide +kernel
theorem dX1_factor_0 : decode cX1_factor 0 = .ok (.aload_n 0, 1) := by decide +kernel
theorem dX1_factor_1 : decode cX1_factor 1 = .ok (.getfield 18, 3) := by decide +kernel
theorem dX1_factor_4 : decode cX1_factor 4 = .ok (.getfield 53, 3) := by decide +kernel
theorem dX1_factor_7 : decode cX1_factor 7 = .ok (.lookupswitch 114 #[(1, 49), (2, 74), (40, 88), (45, 81), (218, 107)], 49) := by decide +kernel
theorem dX1_factor_56 : decode cX1_factor 56 = .ok (.aload_n 0, 1) := by decide +kernel
theorem dX1_factor_57 : decode cX1_factor 57 = .ok (.getfield 22, 3) := by decide +kernel
theorem dX1_factor_60 : decode cX1_factor 60 = .ok (.iconst 0, 1) := by decide +kernel
theorem dX1_factor_61 : decode cX1_factor 61 = .ok (.aload_n 0, 1) := by decide +kernel
theorem dX1_factor_62 : decode cX1_factor 62 = .ok (.getfield 18, 3) := by decide +kernel
theorem dX1_factor_65 : decode cX1_factor 65 = .ok (.getfield 76, 3) := by decide +kernel
theorem dX1_factor_68 : decode cX1_factor 68 = .ok (.invokevirtual 68, 3) := by decide +kernel
theorem dX1_factor_71 : decode cX1_factor 71 = .ok (.aload_n 0, 1) := by decide +kernel
theorem dX1_factor_72 : decode cX1_factor 72 = .ok (.getfield 18, 3) := by decide +kernel
theorem dX1_factor_75 : decode cX1_factor 75 = .ok (.invokevirtual 56, 3) := by decide +kernel
theorem dX1_factor_78 : decode cX1_factor 78 = .ok (.goto 47, 3) := by decide +kernel
theorem dX1_factor_81 : decode cX1_factor 81 = .ok (.aload_n 0, 1) := by decide +kernel
theorem dX1_factor_82 : decode cX1_factor 82 = .ok (.invokevirtual 79, 3) := by decide +kernel
theorem dX1_factor_85 : decode cX1_factor 85 = .ok (.goto 40, 3) := by decide +kernel
theorem dX1_factor_88 : decode cX1_factor 88 = .ok (.aload_n 0, 1) := by decide +kernel
theorem dX1_factor_89 : decode cX1_factor 89 = .ok (.invokevirtual 82, 3) := by decide +kernel
theorem dX1_factor_92 : decode cX1_factor 92 = .ok (.goto 33, 3) := by decide +kernel
theorem dX1_factor_95 : decode cX1_factor 95 = .ok (.aload_n 0, 1) := by decide +kernel
theorem dX1_factor_96 : decode cX1_factor 96 = .ok (.bipush 40, 2) := by decide +kernel
theorem dX1_factor_98 : decode cX1_factor 98 = .ok (.invokevirtual 85, 3) := by decide +kernel
theorem dX1_factor_101 : decode cX1_factor 101 = .ok (.aload_n 0, 1) := by decide +kernel
theorem dX1_factor_102 : decode cX1_factor 102 = .ok (.invokevirtual 89, 3) := by decide +kernel
theorem dX1_factor_105 : decode cX1_factor 105 = .ok (.aload_n 0, 1) := by decide +kernel
theorem dX1_factor_106 : decode cX1_factor 106 = .ok (.bipush 41, 2) := by decide +kernel
theorem dX1_factor_108 : decode cX1_factor 108 = .ok (.invokevirtual 92, 3) := by decide +kernel
theorem dX1_factor_111 : decode cX1_factor 111 = .ok (.goto 14, 3) := by decide +kernel
theorem dX1_factor_114 : decode cX1_factor 114 = .ok (.aload_n 0, 1) := by decide +kernel
theorem dX1_factor_115 : decode cX1_factor 115 = .ok (.invokevirtual 95, 3) := by decide +kernel
theorem dX1_factor_118 : decode cX1_factor 118 = .ok (.goto 7, 3) := by decide +kernel
theorem dX1_factor_121 : decode cX1_factor 121 = .ok (.aload_n 0, 1) := by decide +kernel
theorem dX1_factor_122 : decode cX1_factor 122 = .ok (.invokevirtual 59, 3) := by decide +kernel
theorem dX1_factor_125 : decode cX1_factor 125 = .ok (.return_, 1) := by decide +kernel
theorem dX1_loadName_0 : decode cX1_loadName 0 = .ok (.aload_n 0, 1) := by decide +kernel
theorem dX1_loadName_1 : decode cX1_loadName 1 = .ok (.getfield 12, 3) := by decide +kernel
theorem dX1_loadName_4 : decode cX1_loadName 4 = .ok (.aload_n 0, 1) := by decide +kernel
theorem dX1_loadName_5 : decode cX1_loadName 5 = .ok (.getfield 18, 3) := by decide +kernel
theorem dX1_loadName_8 : decode cX1_loadName 8 = .ok (.getfield 98, 3) := by decide +kernel
theorem dX1_loadName_11 : decode cX1_loadName 11 = .ok (.invokevirtual 102, 3) := by decide +kernel
theorem dX1_loadName_14 : decode cX1_loadName 14 = .ok (.istore_n 1, 1) := by decide +kernel
theorem dX1_loadName_15 : decode cX1_loadName 15 = .ok (.iload_n 1, 1) := by decide +kernel
theorem dX1_loadName_16 : decode cX1_loadName 16 = .ok (.ifCond .ge 16, 3) := by decide +kernel
theorem dX1_loadName_19 : decode cX1_loadName 19 = .ok (.aload_n 0, 1) := by decide +kernel
theorem dX1_loadName_20 : decode cX1_loadName 20 = .ok (.iconst 3, 1) := by decide +kernel
theorem dX1_loadName_21 : decode cX1_loadName 21 = .ok (.aload_n 0, 1) := by decide +kernel
theorem dX1_loadName_22 : decode cX1_loadName 22 = .ok (.getfield 18, 3) := by decide +kernel
theorem dX1_loadName_25 : decode cX1_loadName 25 = .ok (.getfield 46, 3) := by decide +kernel
theorem dX1_loadName_28 : decode cX1_loadName 28 = .ok (.invokevirtual 49, 3) := by decide +kernel
theorem dX1_loadName_31 : decode cX1_loadName 31 = .ok (.return_, 1) := by decide +kernel
theorem dX1_loadName_32 : decode cX1_loadName 32 = .ok (.aload_n 0, 1) := by decide +kernel
theorem dX1_loadName_33 : decode cX1_loadName 33 = .ok (.getfield 22, 3) := by decide +kernel
theorem dX1_loadName_36 : decode cX1_loadName 36 = .ok (.iconst 1, 1) := by decide +kernel
theorem dX1_loadName_37 : decode cX1_loadName 37 = .ok (.aload_n 0, 1) := by decide +kernel
theorem dX1_loadName_38 : decode cX1_loadName 38 = .ok (.getfield 12, 3) := by decide +kernel
theorem dX1_loadName_41 : decode cX1_loadName 41 = .ok (.iload_n 1, 1) := by decide +kernel
theorem dX1_loadName_42 : decode cX1_loadName 42 = .ok (.invokevirtual 106, 3) := by decide +kernel
theorem dX1_loadName_45 : decode cX1_loadName 45 = .ok (.invokevirtual 68, 3) := by decide +kernel
theorem dX1_loadName_48 : decode cX1_loadName 48 = .ok (.aload_n 0, 1) := by decide +kernel
theorem dX1_loadName_49 : decode cX1_loadName 49 = .ok (.getfield 18, 3) := by decide +kernel
theorem dX1_loadName_52 : decode cX1_loadName 52 = .ok (.invokevirtual 56, 3) := by decide +kernel
theorem dX1_loadName_55 : decode cX1_loadName 55 = .ok (.return_, 1) := by decide +kernel
theorem dX1_negated_0 : decode cX1_negated 0 = .ok (.aload_n 0, 1) := by decide +kernel
theorem dX1_negated_1 : decode cX1_negated 1 = .ok (.bipush 45, 2) := by decide +kernel
theorem dX1_negated_3 : decode cX1_negated 3 = .ok (.invokevirtual 85, 3) := by decide +kernel
theorem dX1_negated_6 : decode cX1_negated 6 = .ok (.aload_n 0, 1) := by decide +kernel
theorem dX1_negated_7 : decode cX1_negated 7 = .ok (.getfield 30, 3) := by decide +kernel
theorem dX1_negated_10 : decode cX1_negated 10 = .ok (.ifCond .ne 7, 3) := by decide +kernel
theorem dX1_negated_13 : decode cX1_negated 13 = .ok (.aload_n 0, 1) := by decide +kernel
theorem dX1_negated_14 : decode cX1_negated 14 = .ok (.invokevirtual 73, 3) := by decide +kernel
theorem dX1_negated_17 : decode cX1_negated 17 = .ok (.aload_n 0, 1) := by decide +kernel
theorem dX1_negated_18 : decode cX1_negated 18 = .ok (.dup, 1) := by decide +kernel
theorem dX1_negated_19 : decode cX1_negated 19 = .ok (.getfield 62, 3) := by decide +kernel
theorem dX1_negated_22 : decode cX1_negated 22 = .ok (.iconst 1, 1) := by decide +kernel
theorem dX1_negated_23 : decode cX1_negated 23 = .ok (.isub, 1) := by decide +kernel
theorem dX1_negated_24 : decode cX1_negated 24 = .ok (.putfield 62, 3) := by decide +kernel
theorem dX1_negated_27 : decode cX1_negated 27 = .ok (.aload_n 0, 1) := by decide +kernel
theorem dX1_negated_28 : decode cX1_negated 28 = .ok (.getfield 22, 3) := by decide +kernel
theorem dX1_negated_31 : decode cX1_negated 31 = .ok (.iconst 4, 1) := by decide +kernel
theorem dX1_negated_32 : decode cX1_negated 32 = .ok (.iconst 0, 1) := by decide +kernel
theorem dX1_negated_33 : decode cX1_negated 33 = .ok (.invokevirtual 68, 3) := by decide +kernel
theorem dX1_negated_36 : decode cX1_negated 36 = .ok (.return_, 1) := by decide +kernel
theorem dX1_choice_0 : decode cX1_choice 0 = .ok (.aload_n 0, 1) := by decide +kernel
theorem dX1_choice_1 : decode cX1_choice 1 = .ok (.getfield 18, 3) := by decide +kernel
theorem dX1_choice_4 : decode cX1_choice 4 = .ok (.invokevirtual 56, 3) := by decide +kernel
theorem dX1_choice_7 : decode cX1_choice 7 = .ok (.aload_n 0, 1) := by decide +kernel
theorem dX1_choice_8 : decode cX1_choice 8 = .ok (.bipush 40, 2) := by decide +kernel
theorem dX1_choice_10 : decode cX1_choice 10 = .ok (.invokevirtual 85, 3) := by decide +kernel
theorem dX1_choice_13 : decode cX1_choice 13 = .ok (.aload_n 0, 1) := by decide +kernel
theorem dX1_choice_14 : decode cX1_choice 14 = .ok (.invokevirtual 89, 3) := by decide +kernel
theorem dX1_choice_17 : decode cX1_choice 17 = .ok (.aload_n 0, 1) := by decide +kernel
theorem dX1_choice_18 : decode cX1_choice 18 = .ok (.bipush 41, 2) := by decide +kernel
theorem dX1_choice_20 : decode cX1_choice 20 = .ok (.invokevirtual 92, 3) := by decide +kernel
theorem dX1_choice_23 : decode cX1_choice 23 = .ok (.aload_n 0, 1) := by decide +kernel
theorem dX1_choice_24 : decode cX1_choice 24 = .ok (.bipush 123, 2) := by decide +kernel
theorem dX1_choice_26 : decode cX1_choice 26 = .ok (.invokevirtual 85, 3) := by decide +kernel
theorem dX1_choice_29 : decode cX1_choice 29 = .ok (.aload_n 0, 1) := by decide +kernel
theorem dX1_choice_30 : decode cX1_choice 30 = .ok (.getfield 22, 3) := by decide +kernel
theorem dX1_choice_33 : decode cX1_choice 33 = .ok (.invokevirtual 110, 3) := by decide +kernel
theorem dX1_choice_36 : decode cX1_choice 36 = .ok (.istore_n 1, 1) := by decide +kernel
theorem dX1_choice_37 : decode cX1_choice 37 = .ok (.aload_n 0, 1) := by decide +kernel
theorem dX1_choice_38 : decode cX1_choice 38 = .ok (.getfield 22, 3) := by decide +kernel
theorem dX1_choice_41 : decode cX1_choice 41 = .ok (.invokevirtual 110, 3) := by decide +kernel
theorem dX1_choice_44 : decode cX1_choice 44 = .ok (.istore_n 2, 1) := by decide +kernel
theorem dX1_choice_45 : decode cX1_choice 45 = .ok (.aload_n 0, 1) := by decide +kernel
theorem dX1_choice_46 : decode cX1_choice 46 = .ok (.getfield 22, 3) := by decide +kernel
theorem dX1_choice_49 : decode cX1_choice 49 = .ok (.getfield 114, 3) := by decide +kernel
theorem dX1_choice_52 : decode cX1_choice 52 = .ok (.istore_n 3, 1) := by decide +kernel
theorem dX1_choice_53 : decode cX1_choice 53 = .ok (.iconst (-1), 1) := by decide +kernel
theorem dX1_choice_54 : decode cX1_choice 54 = .ok (.istore 4, 2) := by decide +kernel
theorem dX1_choice_56 : decode cX1_choice 56 = .ok (.aload_n 0, 1) := by decide +kernel
theorem dX1_choice_57 : decode cX1_choice 57 = .ok (.getfield 22, 3) := by decide +kernel
theorem dX1_choice_60 : decode cX1_choice 60 = .ok (.bipush 30, 2) := by decide +kernel
theorem dX1_choice_62 : decode cX1_choice 62 = .ok (.iload_n 1, 1) := by decide +kernel
end
section
theorem dX1_choice_63 : decode cX1_choice 63 = .ok (.invokevirtual 68, 3) := by decide +kernel
theorem dX1_choice_66 : decode cX1_choice 66 = .ok (.iconst 0, 1) := by decide +kernel
theorem dX1_choice_67 : decode cX1_choice 67 = .ok (.istore 5, 2) := by decide +kernel
theorem dX1_choice_69 : decode cX1_choice 69 = .ok (.iload 5, 2) := by decide +kernel
theorem dX1_choice_71 : decode cX1_choice 71 = .ok (.sipush 900, 3) := by decide +kernel
theorem dX1_choice_74 : decode cX1_choice 74 = .ok (.if_icmp .ge 39, 3) := by decide +kernel
theorem dX1_choice_77 : decode cX1_choice 77 = .ok (.aload_n 0, 1) := by decide +kernel
theorem dX1_choice_78 : decode cX1_choice 78 = .ok (.sipush 219, 3) := by decide +kernel
theorem dX1_choice_81 : decode cX1_choice 81 = .ok (.invokevirtual 42, 3) := by decide +kernel
theorem dX1_choice_84 : decode cX1_choice 84 = .ok (.ifCond .ne 13, 3) := by decide +kernel
theorem dX1_choice_87 : decode cX1_choice 87 = .ok (.aload_n 0, 1) := by decide +kernel
theorem dX1_choice_88 : decode cX1_choice 88 = .ok (.sipush 220, 3) := by decide +kernel
theorem dX1_choice_91 : decode cX1_choice 91 = .ok (.invokevirtual 42, 3) := by decide +kernel
theorem dX1_choice_94 : decode cX1_choice 94 = .ok (.ifCond .eq 19, 3) := by decide +kernel
theorem dX1_choice_97 : decode cX1_choice 97 = .ok (.aload_n 0, 1) := by decide +kernel
theorem dX1_choice_98 : decode cX1_choice 98 = .ok (.iload_n 3, 1) := by decide +kernel
theorem dX1_choice_99 : decode cX1_choice 99 = .ok (.iload 4, 2) := by decide +kernel
theorem dX1_choice_101 : decode cX1_choice 101 = .ok (.iload_n 2, 1) := by decide +kernel
theorem dX1_choice_102 : decode cX1_choice 102 = .ok (.invokevirtual 117, 3) := by decide +kernel
theorem dX1_choice_105 : decode cX1_choice 105 = .ok (.istore 4, 2) := by decide +kernel
theorem dX1_choice_107 : decode cX1_choice 107 = .ok (.iinc 5 1, 3) := by decide +kernel
theorem dX1_choice_110 : decode cX1_choice 110 = .ok (.goto (-41), 3) := by decide +kernel
theorem dX1_choice_113 : decode cX1_choice 113 = .ok (.iload 4, 2) := by decide +kernel
theorem dX1_choice_115 : decode cX1_choice 115 = .ok (.ifCond .ge 7, 3) := by decide +kernel
theorem dX1_choice_118 : decode cX1_choice 118 = .ok (.aload_n 0, 1) := by decide +kernel
theorem dX1_choice_119 : decode cX1_choice 119 = .ok (.invokevirtual 59, 3) := by decide +kernel
theorem dX1_choice_122 : decode cX1_choice 122 = .ok (.aload_n 0, 1) := by decide +kernel
theorem dX1_choice_123 : decode cX1_choice 123 = .ok (.bipush 125, 2) := by decide +kernel
theorem dX1_choice_125 : decode cX1_choice 125 = .ok (.invokevirtual 92, 3) := by decide +kernel
theorem dX1_choice_128 : decode cX1_choice 128 = .ok (.aload_n 0, 1) := by decide +kernel
theorem dX1_choice_129 : decode cX1_choice 129 = .ok (.getfield 22, 3) := by decide +kernel
theorem dX1_choice_132 : decode cX1_choice 132 = .ok (.iload_n 1, 1) := by decide +kernel
theorem dX1_choice_133 : decode cX1_choice 133 = .ok (.invokevirtual 121, 3) := by decide +kernel
theorem dX1_choice_136 : decode cX1_choice 136 = .ok (.aload_n 0, 1) := by decide +kernel
theorem dX1_choice_137 : decode cX1_choice 137 = .ok (.getfield 22, 3) := by decide +kernel
theorem dX1_choice_140 : decode cX1_choice 140 = .ok (.iload_n 3, 1) := by decide +kernel
theorem dX1_choice_141 : decode cX1_choice 141 = .ok (.iload 4, 2) := by decide +kernel
theorem dX1_choice_143 : decode cX1_choice 143 = .ok (.invokevirtual 124, 3) := by decide +kernel
theorem dX1_choice_146 : decode cX1_choice 146 = .ok (.aload_n 0, 1) := by decide +kernel
theorem dX1_choice_147 : decode cX1_choice 147 = .ok (.getfield 22, 3) := by decide +kernel
theorem dX1_choice_150 : decode cX1_choice 150 = .ok (.iload_n 2, 1) := by decide +kernel
theorem dX1_choice_151 : decode cX1_choice 151 = .ok (.invokevirtual 121, 3) := by decide +kernel
theorem dX1_choice_154 : decode cX1_choice 154 = .ok (.return_, 1) := by decide +kernel
theorem dX1_arm_0 : decode cX1_arm 0 = .ok (.aload_n 0, 1) := by decide +kernel
theorem dX1_arm_1 : decode cX1_arm 1 = .ok (.getfield 22, 3) := by decide +kernel
theorem dX1_arm_4 : decode cX1_arm 4 = .ok (.invokevirtual 110, 3) := by decide +kernel
theorem dX1_arm_7 : decode cX1_arm 7 = .ok (.istore 4, 2) := by decide +kernel
theorem dX1_arm_9 : decode cX1_arm 9 = .ok (.iload_n 2, 1) := by decide +kernel
theorem dX1_arm_10 : decode cX1_arm 10 = .ok (.istore 5, 2) := by decide +kernel
theorem dX1_arm_12 : decode cX1_arm 12 = .ok (.aload_n 0, 1) := by decide +kernel
theorem dX1_arm_13 : decode cX1_arm 13 = .ok (.sipush 220, 3) := by decide +kernel
theorem dX1_arm_16 : decode cX1_arm 16 = .ok (.invokevirtual 42, 3) := by decide +kernel
theorem dX1_arm_19 : decode cX1_arm 19 = .ok (.ifCond .eq 34, 3) := by decide +kernel
theorem dX1_arm_22 : decode cX1_arm 22 = .ok (.iload 5, 2) := by decide +kernel
theorem dX1_arm_24 : decode cX1_arm 24 = .ok (.ifCond .lt 15, 3) := by decide +kernel
theorem dX1_arm_27 : decode cX1_arm 27 = .ok (.aload_n 0, 1) := by decide +kernel
theorem dX1_arm_28 : decode cX1_arm 28 = .ok (.iconst 4, 1) := by decide +kernel
theorem dX1_arm_29 : decode cX1_arm 29 = .ok (.aload_n 0, 1) := by decide +kernel
theorem dX1_arm_30 : decode cX1_arm 30 = .ok (.getfield 18, 3) := by decide +kernel
theorem dX1_arm_33 : decode cX1_arm 33 = .ok (.getfield 46, 3) := by decide +kernel
theorem dX1_arm_36 : decode cX1_arm 36 = .ok (.invokevirtual 49, 3) := by decide +kernel
theorem dX1_arm_39 : decode cX1_arm 39 = .ok (.iload 4, 2) := by decide +kernel
theorem dX1_arm_41 : decode cX1_arm 41 = .ok (.istore 5, 2) := by decide +kernel
theorem dX1_arm_43 : decode cX1_arm 43 = .ok (.aload_n 0, 1) := by decide +kernel
theorem dX1_arm_44 : decode cX1_arm 44 = .ok (.getfield 18, 3) := by decide +kernel
theorem dX1_arm_47 : decode cX1_arm 47 = .ok (.invokevirtual 56, 3) := by decide +kernel
theorem dX1_arm_50 : decode cX1_arm 50 = .ok (.goto 50, 3) := by decide +kernel
theorem dX1_arm_53 : decode cX1_arm 53 = .ok (.aload_n 0, 1) := by decide +kernel
theorem dX1_arm_54 : decode cX1_arm 54 = .ok (.getfield 18, 3) := by decide +kernel
theorem dX1_arm_57 : decode cX1_arm 57 = .ok (.invokevirtual 56, 3) := by decide +kernel
theorem dX1_arm_60 : decode cX1_arm 60 = .ok (.aload_n 0, 1) := by decide +kernel
theorem dX1_arm_61 : decode cX1_arm 61 = .ok (.iload_n 1, 1) := by decide +kernel
theorem dX1_arm_62 : decode cX1_arm 62 = .ok (.iload 4, 2) := by decide +kernel
theorem dX1_arm_64 : decode cX1_arm 64 = .ok (.invokevirtual 127, 3) := by decide +kernel
theorem dX1_arm_67 : decode cX1_arm 67 = .ok (.iconst 0, 1) := by decide +kernel
theorem dX1_arm_68 : decode cX1_arm 68 = .ok (.istore 6, 2) := by decide +kernel
theorem dX1_arm_70 : decode cX1_arm 70 = .ok (.iload 6, 2) := by decide +kernel
theorem dX1_arm_72 : decode cX1_arm 72 = .ok (.sipush 900, 3) := by decide +kernel
theorem dX1_arm_75 : decode cX1_arm 75 = .ok (.if_icmp .ge 25, 3) := by decide +kernel
theorem dX1_arm_78 : decode cX1_arm 78 = .ok (.aload_n 0, 1) := by decide +kernel
theorem dX1_arm_79 : decode cX1_arm 79 = .ok (.bipush 44, 2) := by decide +kernel
theorem dX1_arm_81 : decode cX1_arm 81 = .ok (.invokevirtual 130, 3) := by decide +kernel
theorem dX1_arm_84 : decode cX1_arm 84 = .ok (.ifCond .eq 16, 3) := by decide +kernel
theorem dX1_arm_87 : decode cX1_arm 87 = .ok (.aload_n 0, 1) := by decide +kernel
theorem dX1_arm_88 : decode cX1_arm 88 = .ok (.iload_n 1, 1) := by decide +kernel
theorem dX1_arm_89 : decode cX1_arm 89 = .ok (.iload 4, 2) := by decide +kernel
theorem dX1_arm_91 : decode cX1_arm 91 = .ok (.invokevirtual 127, 3) := by decide +kernel
theorem dX1_arm_94 : decode cX1_arm 94 = .ok (.iinc 6 1, 3) := by decide +kernel
theorem dX1_arm_97 : decode cX1_arm 97 = .ok (.goto (-27), 3) := by decide +kernel
theorem dX1_arm_100 : decode cX1_arm 100 = .ok (.aload_n 0, 1) := by decide +kernel
theorem dX1_arm_101 : decode cX1_arm 101 = .ok (.sipush 134, 3) := by decide +kernel
theorem dX1_arm_104 : decode cX1_arm 104 = .ok (.invokevirtual 133, 3) := by decide +kernel
theorem dX1_arm_107 : decode cX1_arm 107 = .ok (.aload_n 0, 1) := by decide +kernel
theorem dX1_arm_108 : decode cX1_arm 108 = .ok (.getfield 22, 3) := by decide +kernel
theorem dX1_arm_111 : decode cX1_arm 111 = .ok (.iload 4, 2) := by decide +kernel
theorem dX1_arm_113 : decode cX1_arm 113 = .ok (.invokevirtual 121, 3) := by decide +kernel
theorem dX1_arm_116 : decode cX1_arm 116 = .ok (.aload_n 0, 1) := by decide +kernel
theorem dX1_arm_117 : decode cX1_arm 117 = .ok (.bipush 123, 2) := by decide +kernel
theorem dX1_arm_119 : decode cX1_arm 119 = .ok (.invokevirtual 42, 3) := by decide +kernel
theorem dX1_arm_122 : decode cX1_arm 122 = .ok (.ifCond .eq 11, 3) := by decide +kernel
theorem dX1_arm_125 : decode cX1_arm 125 = .ok (.aload_n 0, 1) := by decide +kernel
theorem dX1_arm_126 : decode cX1_arm 126 = .ok (.iload_n 3, 1) := by decide +kernel
theorem dX1_arm_127 : decode cX1_arm 127 = .ok (.invokevirtual 136, 3) := by decide +kernel
theorem dX1_arm_130 : decode cX1_arm 130 = .ok (.goto 23, 3) := by decide +kernel
theorem dX1_arm_133 : decode cX1_arm 133 = .ok (.aload_n 0, 1) := by decide +kernel
theorem dX1_arm_134 : decode cX1_arm 134 = .ok (.invokevirtual 89, 3) := by decide +kernel
theorem dX1_arm_137 : decode cX1_arm 137 = .ok (.aload_n 0, 1) := by decide +kernel
theorem dX1_arm_138 : decode cX1_arm 138 = .ok (.bipush 59, 2) := by decide +kernel
theorem dX1_arm_140 : decode cX1_arm 140 = .ok (.invokevirtual 133, 3) := by decide +kernel
theorem dX1_arm_143 : decode cX1_arm 143 = .ok (.aload_n 0, 1) := by decide +kernel
theorem dX1_arm_144 : decode cX1_arm 144 = .ok (.getfield 22, 3) := by decide +kernel
theorem dX1_arm_147 : decode cX1_arm 147 = .ok (.bipush 30, 2) := by decide +kernel
theorem dX1_arm_149 : decode cX1_arm 149 = .ok (.iload_n 3, 1) := by decide +kernel
theorem dX1_arm_150 : decode cX1_arm 150 = .ok (.invokevirtual 68, 3) := by decide +kernel
theorem dX1_arm_153 : decode cX1_arm 153 = .ok (.iload 5, 2) := by decide +kernel
theorem dX1_arm_155 : decode cX1_arm 155 = .ok (.ireturn, 1) := by decide +kernel
theorem dX1_caseNumber_0 : decode cX1_caseNumber 0 = .ok (.aload_n 0, 1) := by decide +kernel
theorem dX1_caseNumber_1 : decode cX1_caseNumber 1 = .ok (.bipush 45, 2) := by decide +kernel
theorem dX1_caseNumber_3 : decode cX1_caseNumber 3 = .ok (.invokevirtual 130, 3) := by decide +kernel
theorem dX1_caseNumber_6 : decode cX1_caseNumber 6 = .ok (.istore_n 3, 1) := by decide +kernel
theorem dX1_caseNumber_7 : decode cX1_caseNumber 7 = .ok (.aload_n 0, 1) := by decide +kernel
theorem dX1_caseNumber_8 : decode cX1_caseNumber 8 = .ok (.iconst 1, 1) := by decide +kernel
theorem dX1_caseNumber_9 : decode cX1_caseNumber 9 = .ok (.invokevirtual 42, 3) := by decide +kernel
theorem dX1_caseNumber_12 : decode cX1_caseNumber 12 = .ok (.ifCond .ne 8, 3) := by decide +kernel
theorem dX1_caseNumber_15 : decode cX1_caseNumber 15 = .ok (.aload_n 0, 1) := by decide +kernel
theorem dX1_caseNumber_16 : decode cX1_caseNumber 16 = .ok (.invokevirtual 59, 3) := by decide +kernel
theorem dX1_caseNumber_19 : decode cX1_caseNumber 19 = .ok (.return_, 1) := by decide +kernel
theorem dX1_caseNumber_20 : decode cX1_caseNumber 20 = .ok (.iload_n 3, 1) := by decide +kernel
theorem dX1_caseNumber_21 : decode cX1_caseNumber 21 = .ok (.ifCond .eq 14, 3) := by decide +kernel
theorem dX1_caseNumber_24 : decode cX1_caseNumber 24 = .ok (.aload_n 0, 1) := by decide +kernel
theorem dX1_caseNumber_25 : decode cX1_caseNumber 25 = .ok (.getfield 18, 3) := by decide +kernel
theorem dX1_caseNumber_28 : decode cX1_caseNumber 28 = .ok (.getfield 76, 3) := by decide +kernel
theorem dX1_caseNumber_31 : decode cX1_caseNumber 31 = .ok (.ineg, 1) := by decide +kernel
theorem dX1_caseNumber_32 : decode cX1_caseNumber 32 = .ok (.goto 10, 3) := by decide +kernel
theorem dX1_caseNumber_35 : decode cX1_caseNumber 35 = .ok (.aload_n 0, 1) := by decide +kernel
theorem dX1_caseNumber_36 : decode cX1_caseNumber 36 = .ok (.getfield 18, 3) := by decide +kernel
theorem dX1_caseNumber_39 : decode cX1_caseNumber 39 = .ok (.getfield 76, 3) := by decide +kernel
theorem dX1_caseNumber_42 : decode cX1_caseNumber 42 = .ok (.istore 4, 2) := by decide +kernel
theorem dX1_caseNumber_44 : decode cX1_caseNumber 44 = .ok (.aload_n 0, 1) := by decide +kernel
theorem dX1_caseNumber_45 : decode cX1_caseNumber 45 = .ok (.getfield 22, 3) := by decide +kernel
theorem dX1_caseNumber_48 : decode cX1_caseNumber 48 = .ok (.iload_n 1, 1) := by decide +kernel
theorem dX1_caseNumber_49 : decode cX1_caseNumber 49 = .ok (.iload 4, 2) := by decide +kernel
theorem dX1_caseNumber_51 : decode cX1_caseNumber 51 = .ok (.invokevirtual 139, 3) := by decide +kernel
theorem dX1_caseNumber_54 : decode cX1_caseNumber 54 = .ok (.ifCond .eq 16, 3) := by decide +kernel
theorem dX1_caseNumber_57 : decode cX1_caseNumber 57 = .ok (.aload_n 0, 1) := by decide +kernel
theorem dX1_caseNumber_58 : decode cX1_caseNumber 58 = .ok (.iconst 4, 1) := by decide +kernel
theorem dX1_caseNumber_59 : decode cX1_caseNumber 59 = .ok (.aload_n 0, 1) := by decide +kernel
theorem dX1_caseNumber_60 : decode cX1_caseNumber 60 = .ok (.getfield 18, 3) := by decide +kernel
theorem dX1_caseNumber_63 : decode cX1_caseNumber 63 = .ok (.getfield 46, 3) := by decide +kernel
theorem dX1_caseNumber_66 : decode cX1_caseNumber 66 = .ok (.invokevirtual 49, 3) := by decide +kernel
theorem dX1_caseNumber_69 : decode cX1_caseNumber 69 = .ok (.return_, 1) := by decide +kernel
theorem dX1_caseNumber_70 : decode cX1_caseNumber 70 = .ok (.aload_n 0, 1) := by decide +kernel
theorem dX1_caseNumber_71 : decode cX1_caseNumber 71 = .ok (.getfield 22, 3) := by decide +kernel
theorem dX1_caseNumber_74 : decode cX1_caseNumber 74 = .ok (.iload 4, 2) := by decide +kernel
theorem dX1_caseNumber_76 : decode cX1_caseNumber 76 = .ok (.iload_n 2, 1) := by decide +kernel
theorem dX1_caseNumber_77 : decode cX1_caseNumber 77 = .ok (.invokevirtual 143, 3) := by decide +kernel
theorem dX1_caseNumber_80 : decode cX1_caseNumber 80 = .ok (.aload_n 0, 1) := by decide +kernel
theorem dX1_caseNumber_81 : decode cX1_caseNumber 81 = .ok (.getfield 18, 3) := by decide +kernel
theorem dX1_caseNumber_84 : decode cX1_caseNumber 84 = .ok (.invokevirtual 56, 3) := by decide +kernel
theorem dX1_caseNumber_87 : decode cX1_caseNumber 87 = .ok (.return_, 1) := by decide +kernel
theorem dX1_condition_0 : decode cX1_condition 0 = .ok (.aload_n 0, 1) := by decide +kernel
theorem dX1_condition_1 : decode cX1_condition 1 = .ok (.invokevirtual 146, 3) := by decide +kernel
theorem dX1_condition_4 : decode cX1_condition 4 = .ok (.istore_n 1, 1) := by decide +kernel
theorem dX1_condition_5 : decode cX1_condition 5 = .ok (.aload_n 0, 1) := by decide +kernel
theorem dX1_condition_6 : decode cX1_condition 6 = .ok (.sipush 133, 3) := by decide +kernel
theorem dX1_condition_9 : decode cX1_condition 9 = .ok (.invokevirtual 42, 3) := by decide +kernel
theorem dX1_condition_12 : decode cX1_condition 12 = .ok (.ifCond .ne 5, 3) := by decide +kernel
theorem dX1_condition_15 : decode cX1_condition 15 = .ok (.iload_n 1, 1) := by decide +kernel
theorem dX1_condition_16 : decode cX1_condition 16 = .ok (.ireturn, 1) := by decide +kernel
theorem dX1_condition_17 : decode cX1_condition 17 = .ok (.aload_n 0, 1) := by decide +kernel
theorem dX1_condition_18 : decode cX1_condition 18 = .ok (.getfield 22, 3) := by decide +kernel
theorem dX1_condition_21 : decode cX1_condition 21 = .ok (.invokevirtual 110, 3) := by decide +kernel
theorem dX1_condition_24 : decode cX1_condition 24 = .ok (.istore_n 2, 1) := by decide +kernel
theorem dX1_condition_25 : decode cX1_condition 25 = .ok (.iconst 0, 1) := by decide +kernel
theorem dX1_condition_26 : decode cX1_condition 26 = .ok (.istore_n 3, 1) := by decide +kernel
theorem dX1_condition_27 : decode cX1_condition 27 = .ok (.iload_n 3, 1) := by decide +kernel
theorem dX1_condition_28 : decode cX1_condition 28 = .ok (.sipush 900, 3) := by decide +kernel
theorem dX1_condition_31 : decode cX1_condition 31 = .ok (.if_icmp .ge 34, 3) := by decide +kernel
theorem dX1_condition_34 : decode cX1_condition 34 = .ok (.aload_n 0, 1) := by decide +kernel
theorem dX1_condition_35 : decode cX1_condition 35 = .ok (.sipush 133, 3) := by decide +kernel
theorem dX1_condition_38 : decode cX1_condition 38 = .ok (.invokevirtual 130, 3) := by decide +kernel
theorem dX1_condition_41 : decode cX1_condition 41 = .ok (.ifCond .eq 24, 3) := by decide +kernel
theorem dX1_condition_44 : decode cX1_condition 44 = .ok (.aload_n 0, 1) := by decide +kernel
theorem dX1_condition_45 : decode cX1_condition 45 = .ok (.getfield 22, 3) := by decide +kernel
theorem dX1_condition_48 : decode cX1_condition 48 = .ok (.bipush 33, 2) := by decide +kernel
theorem dX1_condition_50 : decode cX1_condition 50 = .ok (.iload_n 2, 1) := by decide +kernel
theorem dX1_condition_51 : decode cX1_condition 51 = .ok (.invokevirtual 68, 3) := by decide +kernel
theorem dX1_condition_54 : decode cX1_condition 54 = .ok (.aload_n 0, 1) := by decide +kernel
theorem dX1_condition_55 : decode cX1_condition 55 = .ok (.invokevirtual 146, 3) := by decide +kernel
theorem dX1_condition_58 : decode cX1_condition 58 = .ok (.pop, 1) := by decide +kernel
theorem dX1_condition_59 : decode cX1_condition 59 = .ok (.iinc 3 1, 3) := by decide +kernel
theorem dX1_condition_62 : decode cX1_condition 62 = .ok (.goto (-35), 3) := by decide +kernel
theorem dX1_condition_65 : decode cX1_condition 65 = .ok (.aload_n 0, 1) := by decide +kernel
theorem dX1_condition_66 : decode cX1_condition 66 = .ok (.getfield 22, 3) := by decide +kernel
theorem dX1_condition_69 : decode cX1_condition 69 = .ok (.iload_n 2, 1) := by decide +kernel
theorem dX1_condition_70 : decode cX1_condition 70 = .ok (.invokevirtual 121, 3) := by decide +kernel
theorem dX1_condition_73 : decode cX1_condition 73 = .ok (.iconst 0, 1) := by decide +kernel
theorem dX1_condition_74 : decode cX1_condition 74 = .ok (.ireturn, 1) := by decide +kernel
theorem dX1_conjunction_0 : decode cX1_conjunction 0 = .ok (.aload_n 0, 1) := by decide +kernel
theorem dX1_conjunction_1 : decode cX1_conjunction 1 = .ok (.invokevirtual 150, 3) := by decide +kernel
theorem dX1_conjunction_4 : decode cX1_conjunction 4 = .ok (.istore_n 1, 1) := by decide +kernel
theorem dX1_conjunction_5 : decode cX1_conjunction 5 = .ok (.aload_n 0, 1) := by decide +kernel
theorem dX1_conjunction_6 : decode cX1_conjunction 6 = .ok (.sipush 132, 3) := by decide +kernel
theorem dX1_conjunction_9 : decode cX1_conjunction 9 = .ok (.invokevirtual 42, 3) := by decide +kernel
theorem dX1_conjunction_12 : decode cX1_conjunction 12 = .ok (.ifCond .ne 5, 3) := by decide +kernel
theorem dX1_conjunction_15 : decode cX1_conjunction 15 = .ok (.iload_n 1, 1) := by decide +kernel
theorem dX1_conjunction_16 : decode cX1_conjunction 16 = .ok (.ireturn, 1) := by decide +kernel
theorem dX1_conjunction_17 : decode cX1_conjunction 17 = .ok (.aload_n 0, 1) := by decide +kernel
theorem dX1_conjunction_18 : decode cX1_conjunction 18 = .ok (.getfield 22, 3) := by decide +kernel
theorem dX1_conjunction_21 : decode cX1_conjunction 21 = .ok (.invokevirtual 110, 3) := by decide +kernel
theorem dX1_conjunction_24 : decode cX1_conjunction 24 = .ok (.istore_n 2, 1) := by decide +kernel
theorem dX1_conjunction_25 : decode cX1_conjunction 25 = .ok (.iconst 0, 1) := by decide +kernel
theorem dX1_conjunction_26 : decode cX1_conjunction 26 = .ok (.istore_n 3, 1) := by decide +kernel
theorem dX1_conjunction_27 : decode cX1_conjunction 27 = .ok (.iload_n 3, 1) := by decide +kernel
theorem dX1_conjunction_28 : decode cX1_conjunction 28 = .ok (.sipush 900, 3) := by decide +kernel
theorem dX1_conjunction_31 : decode cX1_conjunction 31 = .ok (.if_icmp .ge 34, 3) := by decide +kernel
theorem dX1_conjunction_34 : decode cX1_conjunction 34 = .ok (.aload_n 0, 1) := by decide +kernel
theorem dX1_conjunction_35 : decode cX1_conjunction 35 = .ok (.sipush 132, 3) := by decide +kernel
theorem dX1_conjunction_38 : decode cX1_conjunction 38 = .ok (.invokevirtual 130, 3) := by decide +kernel
theorem dX1_conjunction_41 : decode cX1_conjunction 41 = .ok (.ifCond .eq 24, 3) := by decide +kernel
theorem dX1_conjunction_44 : decode cX1_conjunction 44 = .ok (.aload_n 0, 1) := by decide +kernel
theorem dX1_conjunction_45 : decode cX1_conjunction 45 = .ok (.getfield 22, 3) := by decide +kernel
theorem dX1_conjunction_48 : decode cX1_conjunction 48 = .ok (.bipush 32, 2) := by decide +kernel
theorem dX1_conjunction_50 : decode cX1_conjunction 50 = .ok (.iload_n 2, 1) := by decide +kernel
theorem dX1_conjunction_51 : decode cX1_conjunction 51 = .ok (.invokevirtual 68, 3) := by decide +kernel
theorem dX1_conjunction_54 : decode cX1_conjunction 54 = .ok (.aload_n 0, 1) := by decide +kernel
theorem dX1_conjunction_55 : decode cX1_conjunction 55 = .ok (.invokevirtual 150, 3) := by decide +kernel
theorem dX1_conjunction_58 : decode cX1_conjunction 58 = .ok (.pop, 1) := by decide +kernel
theorem dX1_conjunction_59 : decode cX1_conjunction 59 = .ok (.iinc 3 1, 3) := by decide +kernel
theorem dX1_conjunction_62 : decode cX1_conjunction 62 = .ok (.goto (-35), 3) := by decide +kernel
theorem dX1_conjunction_65 : decode cX1_conjunction 65 = .ok (.aload_n 0, 1) := by decide +kernel
theorem dX1_conjunction_66 : decode cX1_conjunction 66 = .ok (.getfield 22, 3) := by decide +kernel
theorem dX1_conjunction_69 : decode cX1_conjunction 69 = .ok (.iload_n 2, 1) := by decide +kernel
theorem dX1_conjunction_70 : decode cX1_conjunction 70 = .ok (.invokevirtual 121, 3) := by decide +kernel
theorem dX1_conjunction_73 : decode cX1_conjunction 73 = .ok (.iconst 0, 1) := by decide +kernel
theorem dX1_conjunction_74 : decode cX1_conjunction 74 = .ok (.ireturn, 1) := by decide +kernel
theorem dX1_one_0 : decode cX1_one 0 = .ok (.aload_n 0, 1) := by decide +kernel
theorem dX1_one_1 : decode cX1_one 1 = .ok (.getfield 18, 3) := by decide +kernel
theorem dX1_one_4 : decode cX1_one 4 = .ok (.getfield 53, 3) := by decide +kernel
theorem dX1_one_7 : decode cX1_one 7 = .ok (.lookupswitch 135 #[(33, 41), (91, 116), (222, 80), (223, 98)], 41) := by decide +kernel
theorem dX1_one_48 : decode cX1_one 48 = .ok (.aload_n 0, 1) := by decide +kernel
theorem dX1_one_49 : decode cX1_one 49 = .ok (.bipush 33, 2) := by decide +kernel
theorem dX1_one_51 : decode cX1_one 51 = .ok (.invokevirtual 85, 3) := by decide +kernel
theorem dX1_one_54 : decode cX1_one 54 = .ok (.aload_n 0, 1) := by decide +kernel
theorem dX1_one_55 : decode cX1_one 55 = .ok (.getfield 30, 3) := by decide +kernel
theorem dX1_one_58 : decode cX1_one 58 = .ok (.ifCond .ne 8, 3) := by decide +kernel
theorem dX1_one_61 : decode cX1_one 61 = .ok (.aload_n 0, 1) := by decide +kernel
theorem dX1_one_62 : decode cX1_one 62 = .ok (.invokevirtual 150, 3) := by decide +kernel
theorem dX1_one_65 : decode cX1_one 65 = .ok (.pop, 1) := by decide +kernel
theorem dX1_one_66 : decode cX1_one 66 = .ok (.aload_n 0, 1) := by decide +kernel
theorem dX1_one_67 : decode cX1_one 67 = .ok (.dup, 1) := by decide +kernel
theorem dX1_one_68 : decode cX1_one 68 = .ok (.getfield 62, 3) := by decide +kernel
theorem dX1_one_71 : decode cX1_one 71 = .ok (.iconst 1, 1) := by decide +kernel
theorem dX1_one_72 : decode cX1_one 72 = .ok (.isub, 1) := by decide +kernel
theorem dX1_one_73 : decode cX1_one 73 = .ok (.putfield 62, 3) := by decide +kernel
theorem dX1_one_76 : decode cX1_one 76 = .ok (.aload_n 0, 1) := by decide +kernel
theorem dX1_one_77 : decode cX1_one 77 = .ok (.getfield 22, 3) := by decide +kernel
theorem dX1_one_80 : decode cX1_one 80 = .ok (.iconst 5, 1) := by decide +kernel
theorem dX1_one_81 : decode cX1_one 81 = .ok (.iconst 0, 1) := by decide +kernel
theorem dX1_one_82 : decode cX1_one 82 = .ok (.invokevirtual 68, 3) := by decide +kernel
theorem dX1_one_85 : decode cX1_one 85 = .ok (.iconst 0, 1) := by decide +kernel
theorem dX1_one_86 : decode cX1_one 86 = .ok (.ireturn, 1) := by decide +kernel
theorem dX1_one_87 : decode cX1_one 87 = .ok (.aload_n 0, 1) := by decide +kernel
theorem dX1_one_88 : decode cX1_one 88 = .ok (.getfield 22, 3) := by decide +kernel
theorem dX1_one_91 : decode cX1_one 91 = .ok (.iconst 0, 1) := by decide +kernel
theorem dX1_one_92 : decode cX1_one 92 = .ok (.iconst 1, 1) := by decide +kernel
theorem dX1_one_93 : decode cX1_one 93 = .ok (.invokevirtual 68, 3) := by decide +kernel
theorem dX1_one_96 : decode cX1_one 96 = .ok (.aload_n 0, 1) := by decide +kernel
theorem dX1_one_97 : decode cX1_one 97 = .ok (.getfield 18, 3) := by decide +kernel
theorem dX1_one_100 : decode cX1_one 100 = .ok (.invokevirtual 56, 3) := by decide +kernel
theorem dX1_one_103 : decode cX1_one 103 = .ok (.iconst 1, 1) := by decide +kernel
theorem dX1_one_104 : decode cX1_one 104 = .ok (.ireturn, 1) := by decide +kernel
theorem dX1_one_105 : decode cX1_one 105 = .ok (.aload_n 0, 1) := by decide +kernel
theorem dX1_one_106 : decode cX1_one 106 = .ok (.getfield 22, 3) := by decide +kernel
theorem dX1_one_109 : decode cX1_one 109 = .ok (.iconst 0, 1) := by decide +kernel
theorem dX1_one_110 : decode cX1_one 110 = .ok (.iconst 0, 1) := by decide +kernel
theorem dX1_one_111 : decode cX1_one 111 = .ok (.invokevirtual 68, 3) := by decide +kernel
theorem dX1_one_114 : decode cX1_one 114 = .ok (.aload_n 0, 1) := by decide +kernel
theorem dX1_one_115 : decode cX1_one 115 = .ok (.getfield 18, 3) := by decide +kernel
theorem dX1_one_118 : decode cX1_one 118 = .ok (.invokevirtual 56, 3) := by decide +kernel
theorem dX1_one_121 : decode cX1_one 121 = .ok (.iconst 0, 1) := by decide +kernel
theorem dX1_one_122 : decode cX1_one 122 = .ok (.ireturn, 1) := by decide +kernel
theorem dX1_one_123 : decode cX1_one 123 = .ok (.aload_n 0, 1) := by decide +kernel
theorem dX1_one_124 : decode cX1_one 124 = .ok (.bipush 91, 2) := by decide +kernel
theorem dX1_one_126 : decode cX1_one 126 = .ok (.invokevirtual 85, 3) := by decide +kernel
theorem dX1_one_129 : decode cX1_one 129 = .ok (.aload_n 0, 1) := by decide +kernel
theorem dX1_one_130 : decode cX1_one 130 = .ok (.invokevirtual 153, 3) := by decide +kernel
theorem dX1_one_133 : decode cX1_one 133 = .ok (.pop, 1) := by decide +kernel
theorem dX1_one_134 : decode cX1_one 134 = .ok (.aload_n 0, 1) := by decide +kernel
theorem dX1_one_135 : decode cX1_one 135 = .ok (.bipush 93, 2) := by decide +kernel
theorem dX1_one_137 : decode cX1_one 137 = .ok (.invokevirtual 92, 3) := by decide +kernel
theorem dX1_one_140 : decode cX1_one 140 = .ok (.iconst 0, 1) := by decide +kernel
theorem dX1_one_141 : decode cX1_one 141 = .ok (.ireturn, 1) := by decide +kernel
theorem dX1_one_142 : decode cX1_one 142 = .ok (.aload_n 0, 1) := by decide +kernel
theorem dX1_one_143 : decode cX1_one 143 = .ok (.invokevirtual 156, 3) := by decide +kernel
theorem dX1_one_146 : decode cX1_one 146 = .ok (.iconst 0, 1) := by decide +kernel
theorem dX1_one_147 : decode cX1_one 147 = .ok (.ireturn, 1) := by decide +kernel
theorem dX1_comparison_0 : decode cX1_comparison 0 = .ok (.aload_n 0, 1) := by decide +kernel
theorem dX1_comparison_1 : decode cX1_comparison 1 = .ok (.invokevirtual 89, 3) := by decide +kernel
theorem dX1_comparison_4 : decode cX1_comparison 4 = .ok (.aload_n 0, 1) := by decide +kernel
theorem dX1_comparison_5 : decode cX1_comparison 5 = .ok (.getfield 18, 3) := by decide +kernel
theorem dX1_comparison_8 : decode cX1_comparison 8 = .ok (.getfield 53, 3) := by decide +kernel
theorem dX1_comparison_11 : decode cX1_comparison 11 = .ok (.invokestatic 159, 3) := by decide +kernel
theorem dX1_comparison_14 : decode cX1_comparison 14 = .ok (.istore_n 1, 1) := by decide +kernel
theorem dX1_comparison_15 : decode cX1_comparison 15 = .ok (.iload_n 1, 1) := by decide +kernel
theorem dX1_comparison_16 : decode cX1_comparison 16 = .ok (.ifCond .ge 8, 3) := by decide +kernel
theorem dX1_comparison_19 : decode cX1_comparison 19 = .ok (.aload_n 0, 1) := by decide +kernel
theorem dX1_comparison_20 : decode cX1_comparison 20 = .ok (.invokevirtual 59, 3) := by decide +kernel
theorem dX1_comparison_23 : decode cX1_comparison 23 = .ok (.return_, 1) := by decide +kernel
theorem dX1_comparison_24 : decode cX1_comparison 24 = .ok (.aload_n 0, 1) := by decide +kernel
theorem dX1_comparison_25 : decode cX1_comparison 25 = .ok (.getfield 18, 3) := by decide +kernel
theorem dX1_comparison_28 : decode cX1_comparison 28 = .ok (.invokevirtual 56, 3) := by decide +kernel
theorem dX1_comparison_31 : decode cX1_comparison 31 = .ok (.aload_n 0, 1) := by decide +kernel
theorem dX1_comparison_32 : decode cX1_comparison 32 = .ok (.invokevirtual 89, 3) := by decide +kernel
theorem dX1_comparison_35 : decode cX1_comparison 35 = .ok (.aload_n 0, 1) := by decide +kernel
theorem dX1_comparison_36 : decode cX1_comparison 36 = .ok (.getfield 22, 3) := by decide +kernel
theorem dX1_comparison_39 : decode cX1_comparison 39 = .ok (.iload_n 1, 1) := by decide +kernel
theorem dX1_comparison_40 : decode cX1_comparison 40 = .ok (.iconst 0, 1) := by decide +kernel
theorem dX1_comparison_41 : decode cX1_comparison 41 = .ok (.invokevirtual 68, 3) := by decide +kernel
theorem dX1_comparison_44 : decode cX1_comparison 44 = .ok (.return_, 1) := by decide +kernel
theorem dX1_comparing_0 : decode cX1_comparing 0 = .ok (.iload_n 0, 1) := by decide +kernel
theorem dX1_comparing_1 : decode cX1_comparing 1 = .ok (.lookupswitch 77 #[(60, 59), (62, 65), (128, 62), (129, 68), (130, 71), (131, 74)], 59) := by decide +kernel
theorem dX1_comparing_60 : decode cX1_comparing 60 = .ok (.bipush 12, 2) := by decide +kernel
theorem dX1_comparing_62 : decode cX1_comparing 62 = .ok (.ireturn, 1) := by decide +kernel
theorem dX1_comparing_63 : decode cX1_comparing 63 = .ok (.bipush 13, 2) := by decide +kernel
theorem dX1_comparing_65 : decode cX1_comparing 65 = .ok (.ireturn, 1) := by decide +kernel
theorem dX1_comparing_66 : decode cX1_comparing 66 = .ok (.bipush 14, 2) := by decide +kernel
theorem dX1_comparing_68 : decode cX1_comparing 68 = .ok (.ireturn, 1) := by decide +kernel
theorem dX1_comparing_69 : decode cX1_comparing 69 = .ok (.bipush 15, 2) := by decide +kernel
theorem dX1_comparing_71 : decode cX1_comparing 71 = .ok (.ireturn, 1) := by decide +kernel
theorem dX1_comparing_72 : decode cX1_comparing 72 = .ok (.bipush 16, 2) := by decide +kernel
theorem dX1_comparing_74 : decode cX1_comparing 74 = .ok (.ireturn, 1) := by decide +kernel
theorem dX1_comparing_75 : decode cX1_comparing 75 = .ok (.bipush 17, 2) := by decide +kernel
theorem dX1_comparing_77 : decode cX1_comparing 77 = .ok (.ireturn, 1) := by decide +kernel
theorem dX1_comparing_78 : decode cX1_comparing 78 = .ok (.iconst (-1), 1) := by decide +kernel
theorem dX1_comparing_79 : decode cX1_comparing 79 = .ok (.ireturn, 1) := by decide +kernel
theorem dX2_init_0 : decode cX2_init 0 = .ok (.aload_n 0, 1) := by decide +kernel
theorem dX2_init_1 : decode cX2_init 1 = .ok (.invokespecial 1, 3) := by decide +kernel
theorem dX2_init_4 : decode cX2_init 4 = .ok (.return_, 1) := by decide +kernel
theorem dX3_perform_0 : decode cX3_perform 0 = .ok (.iconst 0, 1) := by decide +kernel
theorem dX3_perform_1 : decode cX3_perform 1 = .ok (.istore_n 3, 1) := by decide +kernel
theorem dX3_perform_2 : decode cX3_perform 2 = .ok (.iload_n 3, 1) := by decide +kernel
theorem dX3_perform_3 : decode cX3_perform 3 = .ok (.aload_n 0, 1) := by decide +kernel
theorem dX3_perform_4 : decode cX3_perform 4 = .ok (.getfield 40, 3) := by decide +kernel
theorem dX3_perform_7 : decode cX3_perform 7 = .ok (.getfield 44, 3) := by decide +kernel
theorem dX3_perform_10 : decode cX3_perform 10 = .ok (.if_icmp .ge 25, 3) := by decide +kernel
theorem dX3_perform_13 : decode cX3_perform 13 = .ok (.iload_n 3, 1) := by decide +kernel
theorem dX3_perform_14 : decode cX3_perform 14 = .ok (.aload_n 0, 1) := by decide +kernel
theorem dX3_perform_15 : decode cX3_perform 15 = .ok (.getfield 9, 3) := by decide +kernel
theorem dX3_perform_18 : decode cX3_perform 18 = .ok (.arraylength, 1) := by decide +kernel
theorem dX3_perform_19 : decode cX3_perform 19 = .ok (.if_icmp .ge 16, 3) := by decide +kernel
theorem dX3_perform_22 : decode cX3_perform 22 = .ok (.aload_n 0, 1) := by decide +kernel
theorem dX3_perform_23 : decode cX3_perform 23 = .ok (.getfield 9, 3) := by decide +kernel
theorem dX3_perform_26 : decode cX3_perform 26 = .ok (.iload_n 3, 1) := by decide +kernel
theorem dX3_perform_27 : decode cX3_perform 27 = .ok (.iconst 0, 1) := by decide +kernel
theorem dX3_perform_28 : decode cX3_perform 28 = .ok (.iastore, 1) := by decide +kernel
theorem dX3_perform_29 : decode cX3_perform 29 = .ok (.iinc 3 1, 3) := by decide +kernel
theorem dX3_perform_32 : decode cX3_perform 32 = .ok (.goto (-30), 3) := by decide +kernel
theorem dX3_perform_35 : decode cX3_perform 35 = .ok (.aload_n 0, 1) := by decide +kernel
theorem dX3_perform_36 : decode cX3_perform 36 = .ok (.getfield 9, 3) := by decide +kernel
theorem dX3_perform_39 : decode cX3_perform 39 = .ok (.iconst 0, 1) := by decide +kernel
theorem dX3_perform_40 : decode cX3_perform 40 = .ok (.iload_n 1, 1) := by decide +kernel
theorem dX3_perform_41 : decode cX3_perform 41 = .ok (.invokestatic 50, 3) := by decide +kernel
theorem dX3_perform_44 : decode cX3_perform 44 = .ok (.aload_n 0, 1) := by decide +kernel
theorem dX3_perform_45 : decode cX3_perform 45 = .ok (.getfield 9, 3) := by decide +kernel
theorem dX3_perform_48 : decode cX3_perform 48 = .ok (.iconst 1, 1) := by decide +kernel
theorem dX3_perform_49 : decode cX3_perform 49 = .ok (.iload_n 2, 1) := by decide +kernel
theorem dX3_perform_50 : decode cX3_perform 50 = .ok (.invokestatic 50, 3) := by decide +kernel
theorem dX3_perform_53 : decode cX3_perform 53 = .ok (.aload_n 0, 1) := by decide +kernel
theorem dX3_perform_54 : decode cX3_perform 54 = .ok (.iconst 0, 1) := by decide +kernel
theorem dX3_perform_55 : decode cX3_perform 55 = .ok (.putfield 54, 3) := by decide +kernel
theorem dX3_perform_58 : decode cX3_perform 58 = .ok (.aload_n 0, 1) := by decide +kernel
theorem dX3_perform_59 : decode cX3_perform 59 = .ok (.iconst 0, 1) := by decide +kernel
theorem dX3_perform_60 : decode cX3_perform 60 = .ok (.putfield 57, 3) := by decide +kernel
theorem dX3_perform_63 : decode cX3_perform 63 = .ok (.aload_n 0, 1) := by decide +kernel
theorem dX3_perform_64 : decode cX3_perform 64 = .ok (.iconst 0, 1) := by decide +kernel
theorem dX3_perform_65 : decode cX3_perform 65 = .ok (.putfield 60, 3) := by decide +kernel
theorem dX3_perform_68 : decode cX3_perform 68 = .ok (.aload_n 0, 1) := by decide +kernel
theorem dX3_perform_69 : decode cX3_perform 69 = .ok (.iconst 0, 1) := by decide +kernel
theorem dX3_perform_70 : decode cX3_perform 70 = .ok (.putfield 63, 3) := by decide +kernel
theorem dX3_perform_73 : decode cX3_perform 73 = .ok (.aload_n 0, 1) := by decide +kernel
theorem dX3_perform_74 : decode cX3_perform 74 = .ok (.iconst 0, 1) := by decide +kernel
theorem dX3_perform_75 : decode cX3_perform 75 = .ok (.putfield 66, 3) := by decide +kernel
theorem dX3_perform_78 : decode cX3_perform 78 = .ok (.aload_n 0, 1) := by decide +kernel
theorem dX3_perform_79 : decode cX3_perform 79 = .ok (.iconst 0, 1) := by decide +kernel
theorem dX3_perform_80 : decode cX3_perform 80 = .ok (.putfield 69, 3) := by decide +kernel
theorem dX3_perform_83 : decode cX3_perform 83 = .ok (.aload_n 0, 1) := by decide +kernel
theorem dX3_perform_84 : decode cX3_perform 84 = .ok (.iconst 0, 1) := by decide +kernel
theorem dX3_perform_85 : decode cX3_perform 85 = .ok (.putfield 72, 3) := by decide +kernel
theorem dX3_perform_88 : decode cX3_perform 88 = .ok (.aload_n 0, 1) := by decide +kernel
theorem dX3_perform_89 : decode cX3_perform 89 = .ok (.iconst 0, 1) := by decide +kernel
theorem dX3_perform_90 : decode cX3_perform 90 = .ok (.putfield 75, 3) := by decide +kernel
theorem dX3_perform_93 : decode cX3_perform 93 = .ok (.aload_n 0, 1) := by decide +kernel
theorem dX3_perform_94 : decode cX3_perform 94 = .ok (.iconst 0, 1) := by decide +kernel
theorem dX3_perform_95 : decode cX3_perform 95 = .ok (.putfield 78, 3) := by decide +kernel
theorem dX3_perform_98 : decode cX3_perform 98 = .ok (.aload_n 0, 1) := by decide +kernel
theorem dX3_perform_99 : decode cX3_perform 99 = .ok (.aconst_null, 1) := by decide +kernel
theorem dX3_perform_100 : decode cX3_perform 100 = .ok (.putfield 81, 3) := by decide +kernel
theorem dX3_perform_103 : decode cX3_perform 103 = .ok (.aload_n 0, 1) := by decide +kernel
theorem dX3_perform_104 : decode cX3_perform 104 = .ok (.iconst (-1), 1) := by decide +kernel
theorem dX3_perform_105 : decode cX3_perform 105 = .ok (.putfield 85, 3) := by decide +kernel
theorem dX3_perform_108 : decode cX3_perform 108 = .ok (.iconst 0, 1) := by decide +kernel
theorem dX3_perform_109 : decode cX3_perform 109 = .ok (.istore_n 3, 1) := by decide +kernel
theorem dX3_perform_110 : decode cX3_perform 110 = .ok (.iload_n 3, 1) := by decide +kernel
theorem dX3_perform_111 : decode cX3_perform 111 = .ok (.ldc 88, 2) := by decide +kernel
theorem dX3_perform_113 : decode cX3_perform 113 = .ok (.if_icmp .ge 35, 3) := by decide +kernel
theorem dX3_perform_116 : decode cX3_perform 116 = .ok (.aload_n 0, 1) := by decide +kernel
theorem dX3_perform_117 : decode cX3_perform 117 = .ok (.getfield 85, 3) := by decide +kernel
theorem dX3_perform_120 : decode cX3_perform 120 = .ok (.iconst (-1), 1) := by decide +kernel
theorem dX3_perform_121 : decode cX3_perform 121 = .ok (.if_icmp .ne 27, 3) := by decide +kernel
theorem dX3_perform_124 : decode cX3_perform 124 = .ok (.aload_n 0, 1) := by decide +kernel
theorem dX3_perform_125 : decode cX3_perform 125 = .ok (.getfield 75, 3) := by decide +kernel
theorem dX3_perform_128 : decode cX3_perform 128 = .ok (.ifCond .ne 10, 3) := by decide +kernel
theorem dX3_perform_131 : decode cX3_perform 131 = .ok (.aload_n 0, 1) := by decide +kernel
theorem dX3_perform_132 : decode cX3_perform 132 = .ok (.invokevirtual 89, 3) := by decide +kernel
theorem dX3_perform_135 : decode cX3_perform 135 = .ok (.goto 7, 3) := by decide +kernel
theorem dX3_perform_138 : decode cX3_perform 138 = .ok (.aload_n 0, 1) := by decide +kernel
theorem dX3_perform_139 : decode cX3_perform 139 = .ok (.invokevirtual 92, 3) := by decide +kernel
theorem dX3_perform_142 : decode cX3_perform 142 = .ok (.iinc 3 1, 3) := by decide +kernel
theorem dX3_perform_145 : decode cX3_perform 145 = .ok (.goto (-35), 3) := by decide +kernel
theorem dX3_perform_148 : decode cX3_perform 148 = .ok (.aload_n 0, 1) := by decide +kernel
theorem dX3_perform_149 : decode cX3_perform 149 = .ok (.getfield 85, 3) := by decide +kernel
theorem dX3_perform_152 : decode cX3_perform 152 = .ok (.ireturn, 1) := by decide +kernel
theorem dX3_answer_0 : decode cX3_answer 0 = .ok (.aload_n 0, 1) := by decide +kernel
theorem dX3_answer_1 : decode cX3_answer 1 = .ok (.invokevirtual 95, 3) := by decide +kernel
theorem dX3_answer_4 : decode cX3_answer 4 = .ok (.astore_n 2, 1) := by decide +kernel
theorem dX3_answer_5 : decode cX3_answer 5 = .ok (.iload_n 1, 1) := by decide +kernel
theorem dX3_answer_6 : decode cX3_answer 6 = .ok (.tableswitch 104 0 5 #[38, 43, 48, 65, 78, 91], 38) := by decide +kernel
theorem dX3_answer_44 : decode cX3_answer 44 = .ok (.aload_n 0, 1) := by decide +kernel
theorem dX3_answer_45 : decode cX3_answer 45 = .ok (.getfield 69, 3) := by decide +kernel
theorem dX3_answer_48 : decode cX3_answer 48 = .ok (.ireturn, 1) := by decide +kernel
theorem dX3_answer_49 : decode cX3_answer 49 = .ok (.aload_n 0, 1) := by decide +kernel
theorem dX3_answer_50 : decode cX3_answer 50 = .ok (.getfield 66, 3) := by decide +kernel
theorem dX3_answer_53 : decode cX3_answer 53 = .ok (.ireturn, 1) := by decide +kernel
theorem dX3_answer_54 : decode cX3_answer 54 = .ok (.aload_n 0, 1) := by decide +kernel
theorem dX3_answer_55 : decode cX3_answer 55 = .ok (.getfield 85, 3) := by decide +kernel
theorem dX3_answer_58 : decode cX3_answer 58 = .ok (.iconst 1, 1) := by decide +kernel
theorem dX3_answer_59 : decode cX3_answer 59 = .ok (.if_icmp .ne 10, 3) := by decide +kernel
theorem dX3_answer_62 : decode cX3_answer 62 = .ok (.aload_n 0, 1) := by decide +kernel
theorem dX3_answer_63 : decode cX3_answer 63 = .ok (.getfield 78, 3) := by decide +kernel
theorem dX3_answer_66 : decode cX3_answer 66 = .ok (.goto 4, 3) := by decide +kernel
theorem dX3_answer_69 : decode cX3_answer 69 = .ok (.iconst 0, 1) := by decide +kernel
theorem dX3_answer_70 : decode cX3_answer 70 = .ok (.ireturn, 1) := by decide +kernel
theorem dX3_answer_71 : decode cX3_answer 71 = .ok (.aload_n 2, 1) := by decide +kernel
theorem dX3_answer_72 : decode cX3_answer 72 = .ok (.ifnonnull 7, 3) := by decide +kernel
theorem dX3_answer_75 : decode cX3_answer 75 = .ok (.iconst (-1), 1) := by decide +kernel
theorem dX3_answer_76 : decode cX3_answer 76 = .ok (.goto 7, 3) := by decide +kernel
theorem dX3_answer_79 : decode cX3_answer 79 = .ok (.aload_n 2, 1) := by decide +kernel
theorem dX3_answer_80 : decode cX3_answer 80 = .ok (.getfield 99, 3) := by decide +kernel
theorem dX3_answer_83 : decode cX3_answer 83 = .ok (.ireturn, 1) := by decide +kernel
end
section
theorem dX3_answer_84 : decode cX3_answer 84 = .ok (.aload_n 2, 1) := by decide +kernel
theorem dX3_answer_85 : decode cX3_answer 85 = .ok (.ifnonnull 7, 3) := by decide +kernel
theorem dX3_answer_88 : decode cX3_answer 88 = .ok (.iconst 0, 1) := by decide +kernel
theorem dX3_answer_89 : decode cX3_answer 89 = .ok (.goto 7, 3) := by decide +kernel
theorem dX3_answer_92 : decode cX3_answer 92 = .ok (.aload_n 2, 1) := by decide +kernel
theorem dX3_answer_93 : decode cX3_answer 93 = .ok (.getfield 102, 3) := by decide +kernel
theorem dX3_answer_96 : decode cX3_answer 96 = .ok (.ireturn, 1) := by decide +kernel
theorem dX3_answer_97 : decode cX3_answer 97 = .ok (.aload_n 2, 1) := by decide +kernel
theorem dX3_answer_98 : decode cX3_answer 98 = .ok (.ifnonnull 7, 3) := by decide +kernel
theorem dX3_answer_101 : decode cX3_answer 101 = .ok (.iconst 0, 1) := by decide +kernel
theorem dX3_answer_102 : decode cX3_answer 102 = .ok (.goto 7, 3) := by decide +kernel
theorem dX3_answer_105 : decode cX3_answer 105 = .ok (.aload_n 2, 1) := by decide +kernel
theorem dX3_answer_106 : decode cX3_answer 106 = .ok (.getfield 105, 3) := by decide +kernel
theorem dX3_answer_109 : decode cX3_answer 109 = .ok (.ireturn, 1) := by decide +kernel
theorem dX3_answer_110 : decode cX3_answer 110 = .ok (.aload_n 0, 1) := by decide +kernel
theorem dX3_answer_111 : decode cX3_answer 111 = .ok (.getfield 72, 3) := by decide +kernel
theorem dX3_answer_114 : decode cX3_answer 114 = .ok (.ireturn, 1) := by decide +kernel
theorem dX3_lastThrown_0 : decode cX3_lastThrown 0 = .ok (.aload_n 0, 1) := by decide +kernel
theorem dX3_lastThrown_1 : decode cX3_lastThrown 1 = .ok (.getfield 85, 3) := by decide +kernel
theorem dX3_lastThrown_4 : decode cX3_lastThrown 4 = .ok (.iconst 2, 1) := by decide +kernel
theorem dX3_lastThrown_5 : decode cX3_lastThrown 5 = .ok (.if_icmp .ne 10, 3) := by decide +kernel
theorem dX3_lastThrown_8 : decode cX3_lastThrown 8 = .ok (.aload_n 0, 1) := by decide +kernel
theorem dX3_lastThrown_9 : decode cX3_lastThrown 9 = .ok (.getfield 81, 3) := by decide +kernel
theorem dX3_lastThrown_12 : decode cX3_lastThrown 12 = .ok (.goto 4, 3) := by decide +kernel
theorem dX3_lastThrown_15 : decode cX3_lastThrown 15 = .ok (.aconst_null, 1) := by decide +kernel
theorem dX3_lastThrown_16 : decode cX3_lastThrown 16 = .ok (.areturn, 1) := by decide +kernel
theorem dX3_instruction_0 : decode cX3_instruction 0 = .ok (.aload_n 0, 1) := by decide +kernel
theorem dX3_instruction_1 : decode cX3_instruction 1 = .ok (.getfield 40, 3) := by decide +kernel
theorem dX3_instruction_4 : decode cX3_instruction 4 = .ok (.getfield 108, 3) := by decide +kernel
theorem dX3_instruction_7 : decode cX3_instruction 7 = .ok (.aload_n 0, 1) := by decide +kernel
theorem dX3_instruction_8 : decode cX3_instruction 8 = .ok (.getfield 57, 3) := by decide +kernel
theorem dX3_instruction_11 : decode cX3_instruction 11 = .ok (.invokestatic 111, 3) := by decide +kernel
theorem dX3_instruction_14 : decode cX3_instruction 14 = .ok (.istore_n 1, 1) := by decide +kernel
theorem dX3_instruction_15 : decode cX3_instruction 15 = .ok (.aload_n 0, 1) := by decide +kernel
theorem dX3_instruction_16 : decode cX3_instruction 16 = .ok (.getfield 40, 3) := by decide +kernel
theorem dX3_instruction_19 : decode cX3_instruction 19 = .ok (.getfield 115, 3) := by decide +kernel
theorem dX3_instruction_22 : decode cX3_instruction 22 = .ok (.aload_n 0, 1) := by decide +kernel
theorem dX3_instruction_23 : decode cX3_instruction 23 = .ok (.getfield 57, 3) := by decide +kernel
theorem dX3_instruction_26 : decode cX3_instruction 26 = .ok (.invokestatic 111, 3) := by decide +kernel
theorem dX3_instruction_29 : decode cX3_instruction 29 = .ok (.istore_n 2, 1) := by decide +kernel
theorem dX3_instruction_30 : decode cX3_instruction 30 = .ok (.aload_n 0, 1) := by decide +kernel
theorem dX3_instruction_31 : decode cX3_instruction 31 = .ok (.dup, 1) := by decide +kernel
theorem dX3_instruction_32 : decode cX3_instruction 32 = .ok (.getfield 57, 3) := by decide +kernel
theorem dX3_instruction_35 : decode cX3_instruction 35 = .ok (.iconst 1, 1) := by decide +kernel
theorem dX3_instruction_36 : decode cX3_instruction 36 = .ok (.iadd, 1) := by decide +kernel
theorem dX3_instruction_37 : decode cX3_instruction 37 = .ok (.putfield 57, 3) := by decide +kernel
theorem dX3_instruction_40 : decode cX3_instruction 40 = .ok (.iload_n 1, 1) := by decide +kernel
theorem dX3_instruction_41 : decode cX3_instruction 41 = .ok (.bipush 7, 2) := by decide +kernel
theorem dX3_instruction_43 : decode cX3_instruction 43 = .ok (.if_icmp .ge 12, 3) := by decide +kernel
theorem dX3_instruction_46 : decode cX3_instruction 46 = .ok (.aload_n 0, 1) := by decide +kernel
theorem dX3_instruction_47 : decode cX3_instruction 47 = .ok (.iload_n 1, 1) := by decide +kernel
theorem dX3_instruction_48 : decode cX3_instruction 48 = .ok (.iload_n 2, 1) := by decide +kernel
theorem dX3_instruction_49 : decode cX3_instruction 49 = .ok (.invokevirtual 118, 3) := by decide +kernel
theorem dX3_instruction_52 : decode cX3_instruction 52 = .ok (.goto 53, 3) := by decide +kernel
theorem dX3_instruction_55 : decode cX3_instruction 55 = .ok (.iload_n 1, 1) := by decide +kernel
theorem dX3_instruction_56 : decode cX3_instruction 56 = .ok (.bipush 30, 2) := by decide +kernel
theorem dX3_instruction_58 : decode cX3_instruction 58 = .ok (.if_icmp .ge 11, 3) := by decide +kernel
theorem dX3_instruction_61 : decode cX3_instruction 61 = .ok (.aload_n 0, 1) := by decide +kernel
theorem dX3_instruction_62 : decode cX3_instruction 62 = .ok (.iload_n 1, 1) := by decide +kernel
theorem dX3_instruction_63 : decode cX3_instruction 63 = .ok (.invokevirtual 122, 3) := by decide +kernel
theorem dX3_instruction_66 : decode cX3_instruction 66 = .ok (.goto 39, 3) := by decide +kernel
theorem dX3_instruction_69 : decode cX3_instruction 69 = .ok (.iload_n 1, 1) := by decide +kernel
theorem dX3_instruction_70 : decode cX3_instruction 70 = .ok (.bipush 50, 2) := by decide +kernel
theorem dX3_instruction_72 : decode cX3_instruction 72 = .ok (.if_icmp .ge 12, 3) := by decide +kernel
theorem dX3_instruction_75 : decode cX3_instruction 75 = .ok (.aload_n 0, 1) := by decide +kernel
theorem dX3_instruction_76 : decode cX3_instruction 76 = .ok (.iload_n 1, 1) := by decide +kernel
theorem dX3_instruction_77 : decode cX3_instruction 77 = .ok (.iload_n 2, 1) := by decide +kernel
theorem dX3_instruction_78 : decode cX3_instruction 78 = .ok (.invokevirtual 126, 3) := by decide +kernel
theorem dX3_instruction_81 : decode cX3_instruction 81 = .ok (.goto 24, 3) := by decide +kernel
theorem dX3_instruction_84 : decode cX3_instruction 84 = .ok (.iload_n 1, 1) := by decide +kernel
theorem dX3_instruction_85 : decode cX3_instruction 85 = .ok (.bipush 56, 2) := by decide +kernel
theorem dX3_instruction_87 : decode cX3_instruction 87 = .ok (.if_icmp .ge 12, 3) := by decide +kernel
theorem dX3_instruction_90 : decode cX3_instruction 90 = .ok (.aload_n 0, 1) := by decide +kernel
theorem dX3_instruction_91 : decode cX3_instruction 91 = .ok (.iload_n 1, 1) := by decide +kernel
theorem dX3_instruction_92 : decode cX3_instruction 92 = .ok (.iload_n 2, 1) := by decide +kernel
theorem dX3_instruction_93 : decode cX3_instruction 93 = .ok (.invokevirtual 129, 3) := by decide +kernel
theorem dX3_instruction_96 : decode cX3_instruction 96 = .ok (.goto 9, 3) := by decide +kernel
theorem dX3_instruction_99 : decode cX3_instruction 99 = .ok (.aload_n 0, 1) := by decide +kernel
theorem dX3_instruction_100 : decode cX3_instruction 100 = .ok (.iload_n 1, 1) := by decide +kernel
theorem dX3_instruction_101 : decode cX3_instruction 101 = .ok (.iload_n 2, 1) := by decide +kernel
theorem dX3_instruction_102 : decode cX3_instruction 102 = .ok (.invokevirtual 132, 3) := by decide +kernel
theorem dX3_instruction_105 : decode cX3_instruction 105 = .ok (.return_, 1) := by decide +kernel
theorem dX3_push_0 : decode cX3_push 0 = .ok (.aload_n 0, 1) := by decide +kernel
theorem dX3_push_1 : decode cX3_push 1 = .ok (.getfield 15, 3) := by decide +kernel
theorem dX3_push_4 : decode cX3_push 4 = .ok (.aload_n 0, 1) := by decide +kernel
theorem dX3_push_5 : decode cX3_push 5 = .ok (.getfield 54, 3) := by decide +kernel
theorem dX3_push_8 : decode cX3_push 8 = .ok (.iload_n 1, 1) := by decide +kernel
theorem dX3_push_9 : decode cX3_push 9 = .ok (.invokestatic 50, 3) := by decide +kernel
theorem dX3_push_12 : decode cX3_push 12 = .ok (.aload_n 0, 1) := by decide +kernel
theorem dX3_push_13 : decode cX3_push 13 = .ok (.dup, 1) := by decide +kernel
theorem dX3_push_14 : decode cX3_push 14 = .ok (.getfield 54, 3) := by decide +kernel
theorem dX3_push_17 : decode cX3_push 17 = .ok (.iconst 1, 1) := by decide +kernel
theorem dX3_push_18 : decode cX3_push 18 = .ok (.iadd, 1) := by decide +kernel
theorem dX3_push_19 : decode cX3_push 19 = .ok (.putfield 54, 3) := by decide +kernel
theorem dX3_push_22 : decode cX3_push 22 = .ok (.return_, 1) := by decide +kernel
theorem dX3_pop_0 : decode cX3_pop 0 = .ok (.aload_n 0, 1) := by decide +kernel
theorem dX3_pop_1 : decode cX3_pop 1 = .ok (.dup, 1) := by decide +kernel
theorem dX3_pop_2 : decode cX3_pop 2 = .ok (.getfield 54, 3) := by decide +kernel
theorem dX3_pop_5 : decode cX3_pop 5 = .ok (.iconst 1, 1) := by decide +kernel
theorem dX3_pop_6 : decode cX3_pop 6 = .ok (.isub, 1) := by decide +kernel
theorem dX3_pop_7 : decode cX3_pop 7 = .ok (.putfield 54, 3) := by decide +kernel
theorem dX3_pop_10 : decode cX3_pop 10 = .ok (.aload_n 0, 1) := by decide +kernel
theorem dX3_pop_11 : decode cX3_pop 11 = .ok (.getfield 15, 3) := by decide +kernel
theorem dX3_pop_14 : decode cX3_pop 14 = .ok (.aload_n 0, 1) := by decide +kernel
theorem dX3_pop_15 : decode cX3_pop 15 = .ok (.getfield 54, 3) := by decide +kernel
theorem dX3_pop_18 : decode cX3_pop 18 = .ok (.invokestatic 111, 3) := by decide +kernel
theorem dX3_pop_21 : decode cX3_pop 21 = .ok (.ireturn, 1) := by decide +kernel
theorem dX3_move_0 : decode cX3_move 0 = .ok (.iload_n 1, 1) := by decide +kernel
theorem dX3_move_1 : decode cX3_move 1 = .ok (.tableswitch 123 0 5 #[39, 47, 62, 77, 98, 110], 39) := by decide +kernel
theorem dX3_move_40 : decode cX3_move 40 = .ok (.aload_n 0, 1) := by decide +kernel
theorem dX3_move_41 : decode cX3_move 41 = .ok (.iload_n 2, 1) := by decide +kernel
theorem dX3_move_42 : decode cX3_move 42 = .ok (.invokevirtual 135, 3) := by decide +kernel
theorem dX3_move_45 : decode cX3_move 45 = .ok (.goto 84, 3) := by decide +kernel
theorem dX3_move_48 : decode cX3_move 48 = .ok (.aload_n 0, 1) := by decide +kernel
theorem dX3_move_49 : decode cX3_move 49 = .ok (.aload_n 0, 1) := by decide +kernel
theorem dX3_move_50 : decode cX3_move 50 = .ok (.getfield 9, 3) := by decide +kernel
theorem dX3_move_53 : decode cX3_move 53 = .ok (.iload_n 2, 1) := by decide +kernel
theorem dX3_move_54 : decode cX3_move 54 = .ok (.invokestatic 111, 3) := by decide +kernel
theorem dX3_move_57 : decode cX3_move 57 = .ok (.invokevirtual 135, 3) := by decide +kernel
theorem dX3_move_60 : decode cX3_move 60 = .ok (.goto 69, 3) := by decide +kernel
theorem dX3_move_63 : decode cX3_move 63 = .ok (.aload_n 0, 1) := by decide +kernel
theorem dX3_move_64 : decode cX3_move 64 = .ok (.getfield 9, 3) := by decide +kernel
theorem dX3_move_67 : decode cX3_move 67 = .ok (.iload_n 2, 1) := by decide +kernel
theorem dX3_move_68 : decode cX3_move 68 = .ok (.aload_n 0, 1) := by decide +kernel
theorem dX3_move_69 : decode cX3_move 69 = .ok (.invokevirtual 138, 3) := by decide +kernel
theorem dX3_move_72 : decode cX3_move 72 = .ok (.invokestatic 50, 3) := by decide +kernel
theorem dX3_move_75 : decode cX3_move 75 = .ok (.goto 54, 3) := by decide +kernel
theorem dX3_move_78 : decode cX3_move 78 = .ok (.aload_n 0, 1) := by decide +kernel
theorem dX3_move_79 : decode cX3_move 79 = .ok (.getfield 9, 3) := by decide +kernel
theorem dX3_move_82 : decode cX3_move 82 = .ok (.iload_n 2, 1) := by decide +kernel
theorem dX3_move_83 : decode cX3_move 83 = .ok (.aload_n 0, 1) := by decide +kernel
theorem dX3_move_84 : decode cX3_move 84 = .ok (.getfield 9, 3) := by decide +kernel
theorem dX3_move_87 : decode cX3_move 87 = .ok (.iload_n 2, 1) := by decide +kernel
theorem dX3_move_88 : decode cX3_move 88 = .ok (.invokestatic 111, 3) := by decide +kernel
theorem dX3_move_91 : decode cX3_move 91 = .ok (.iconst 1, 1) := by decide +kernel
theorem dX3_move_92 : decode cX3_move 92 = .ok (.iadd, 1) := by decide +kernel
theorem dX3_move_93 : decode cX3_move 93 = .ok (.invokestatic 50, 3) := by decide +kernel
theorem dX3_move_96 : decode cX3_move 96 = .ok (.goto 33, 3) := by decide +kernel
theorem dX3_move_99 : decode cX3_move 99 = .ok (.aload_n 0, 1) := by decide +kernel
theorem dX3_move_100 : decode cX3_move 100 = .ok (.aload_n 0, 1) := by decide +kernel
theorem dX3_move_101 : decode cX3_move 101 = .ok (.invokevirtual 138, 3) := by decide +kernel
theorem dX3_move_104 : decode cX3_move 104 = .ok (.ineg, 1) := by decide +kernel
theorem dX3_move_105 : decode cX3_move 105 = .ok (.invokevirtual 135, 3) := by decide +kernel
theorem dX3_move_108 : decode cX3_move 108 = .ok (.goto 21, 3) := by decide +kernel
theorem dX3_move_111 : decode cX3_move 111 = .ok (.aload_n 0, 1) := by decide +kernel
theorem dX3_move_112 : decode cX3_move 112 = .ok (.iconst 1, 1) := by decide +kernel
theorem dX3_move_113 : decode cX3_move 113 = .ok (.aload_n 0, 1) := by decide +kernel
theorem dX3_move_114 : decode cX3_move 114 = .ok (.invokevirtual 138, 3) := by decide +kernel
theorem dX3_move_117 : decode cX3_move 117 = .ok (.isub, 1) := by decide +kernel
theorem dX3_move_118 : decode cX3_move 118 = .ok (.invokevirtual 135, 3) := by decide +kernel
theorem dX3_move_121 : decode cX3_move 121 = .ok (.goto 8, 3) := by decide +kernel
theorem dX3_move_124 : decode cX3_move 124 = .ok (.aload_n 0, 1) := by decide +kernel
theorem dX3_move_125 : decode cX3_move 125 = .ok (.invokevirtual 138, 3) := by decide +kernel
theorem dX3_move_128 : decode cX3_move 128 = .ok (.pop, 1) := by decide +kernel
theorem dX3_move_129 : decode cX3_move 129 = .ok (.return_, 1) := by decide +kernel
theorem dX3_combine_0 : decode cX3_combine 0 = .ok (.aload_n 0, 1) := by decide +kernel
theorem dX3_combine_1 : decode cX3_combine 1 = .ok (.invokevirtual 138, 3) := by decide +kernel
theorem dX3_combine_4 : decode cX3_combine 4 = .ok (.istore_n 2, 1) := by decide +kernel
theorem dX3_combine_5 : decode cX3_combine 5 = .ok (.aload_n 0, 1) := by decide +kernel
theorem dX3_combine_6 : decode cX3_combine 6 = .ok (.invokevirtual 138, 3) := by decide +kernel
theorem dX3_combine_9 : decode cX3_combine 9 = .ok (.istore_n 3, 1) := by decide +kernel
theorem dX3_combine_10 : decode cX3_combine 10 = .ok (.iload_n 1, 1) := by decide +kernel
theorem dX3_combine_11 : decode cX3_combine 11 = .ok (.bipush 12, 2) := by decide +kernel
theorem dX3_combine_13 : decode cX3_combine 13 = .ok (.if_icmp .lt 22, 3) := by decide +kernel
theorem dX3_combine_16 : decode cX3_combine 16 = .ok (.aload_n 0, 1) := by decide +kernel
theorem dX3_combine_17 : decode cX3_combine 17 = .ok (.iload_n 1, 1) := by decide +kernel
theorem dX3_combine_18 : decode cX3_combine 18 = .ok (.iload_n 3, 1) := by decide +kernel
theorem dX3_combine_19 : decode cX3_combine 19 = .ok (.iload_n 2, 1) := by decide +kernel
theorem dX3_combine_20 : decode cX3_combine 20 = .ok (.invokestatic 142, 3) := by decide +kernel
theorem dX3_combine_23 : decode cX3_combine 23 = .ok (.ifCond .eq 7, 3) := by decide +kernel
theorem dX3_combine_26 : decode cX3_combine 26 = .ok (.iconst 1, 1) := by decide +kernel
theorem dX3_combine_27 : decode cX3_combine 27 = .ok (.goto 4, 3) := by decide +kernel
theorem dX3_combine_30 : decode cX3_combine 30 = .ok (.iconst 0, 1) := by decide +kernel
theorem dX3_combine_31 : decode cX3_combine 31 = .ok (.invokevirtual 135, 3) := by decide +kernel
theorem dX3_combine_34 : decode cX3_combine 34 = .ok (.return_, 1) := by decide +kernel
theorem dX3_combine_35 : decode cX3_combine 35 = .ok (.iload_n 1, 1) := by decide +kernel
theorem dX3_combine_36 : decode cX3_combine 36 = .ok (.tableswitch 58 7 9 #[28, 38, 48], 28) := by decide +kernel
theorem dX3_combine_64 : decode cX3_combine 64 = .ok (.aload_n 0, 1) := by decide +kernel
theorem dX3_combine_65 : decode cX3_combine 65 = .ok (.iload_n 3, 1) := by decide +kernel
theorem dX3_combine_66 : decode cX3_combine 66 = .ok (.iload_n 2, 1) := by decide +kernel
theorem dX3_combine_67 : decode cX3_combine 67 = .ok (.iadd, 1) := by decide +kernel
theorem dX3_combine_68 : decode cX3_combine 68 = .ok (.invokevirtual 135, 3) := by decide +kernel
theorem dX3_combine_71 : decode cX3_combine 71 = .ok (.goto 30, 3) := by decide +kernel
theorem dX3_combine_74 : decode cX3_combine 74 = .ok (.aload_n 0, 1) := by decide +kernel
theorem dX3_combine_75 : decode cX3_combine 75 = .ok (.iload_n 3, 1) := by decide +kernel
theorem dX3_combine_76 : decode cX3_combine 76 = .ok (.iload_n 2, 1) := by decide +kernel
theorem dX3_combine_77 : decode cX3_combine 77 = .ok (.isub, 1) := by decide +kernel
theorem dX3_combine_78 : decode cX3_combine 78 = .ok (.invokevirtual 135, 3) := by decide +kernel
theorem dX3_combine_81 : decode cX3_combine 81 = .ok (.goto 20, 3) := by decide +kernel
theorem dX3_combine_84 : decode cX3_combine 84 = .ok (.aload_n 0, 1) := by decide +kernel
theorem dX3_combine_85 : decode cX3_combine 85 = .ok (.iload_n 3, 1) := by decide +kernel
theorem dX3_combine_86 : decode cX3_combine 86 = .ok (.iload_n 2, 1) := by decide +kernel
theorem dX3_combine_87 : decode cX3_combine 87 = .ok (.imul, 1) := by decide +kernel
theorem dX3_combine_88 : decode cX3_combine 88 = .ok (.invokevirtual 135, 3) := by decide +kernel
theorem dX3_combine_91 : decode cX3_combine 91 = .ok (.goto 10, 3) := by decide +kernel
theorem dX3_combine_94 : decode cX3_combine 94 = .ok (.aload_n 0, 1) := by decide +kernel
theorem dX3_combine_95 : decode cX3_combine 95 = .ok (.iload_n 1, 1) := by decide +kernel
theorem dX3_combine_96 : decode cX3_combine 96 = .ok (.iload_n 3, 1) := by decide +kernel
theorem dX3_combine_97 : decode cX3_combine 97 = .ok (.iload_n 2, 1) := by decide +kernel
theorem dX3_combine_98 : decode cX3_combine 98 = .ok (.invokevirtual 146, 3) := by decide +kernel
theorem dX3_combine_101 : decode cX3_combine 101 = .ok (.return_, 1) := by decide +kernel
theorem dX3_divide_0 : decode cX3_divide 0 = .ok (.iload_n 3, 1) := by decide +kernel
theorem dX3_divide_1 : decode cX3_divide 1 = .ok (.ifCond .ne 12, 3) := by decide +kernel
theorem dX3_divide_4 : decode cX3_divide 4 = .ok (.aload_n 0, 1) := by decide +kernel
theorem dX3_divide_5 : decode cX3_divide 5 = .ok (.iconst 2, 1) := by decide +kernel
theorem dX3_divide_6 : decode cX3_divide 6 = .ok (.iconst 0, 1) := by decide +kernel
theorem dX3_divide_7 : decode cX3_divide 7 = .ok (.invokevirtual 150, 3) := by decide +kernel
theorem dX3_divide_10 : decode cX3_divide 10 = .ok (.goto 22, 3) := by decide +kernel
theorem dX3_divide_13 : decode cX3_divide 13 = .ok (.aload_n 0, 1) := by decide +kernel
theorem dX3_divide_14 : decode cX3_divide 14 = .ok (.iload_n 1, 1) := by decide +kernel
theorem dX3_divide_15 : decode cX3_divide 15 = .ok (.bipush 10, 2) := by decide +kernel
theorem dX3_divide_17 : decode cX3_divide 17 = .ok (.if_icmp .ne 9, 3) := by decide +kernel
theorem dX3_divide_20 : decode cX3_divide 20 = .ok (.iload_n 2, 1) := by decide +kernel
theorem dX3_divide_21 : decode cX3_divide 21 = .ok (.iload_n 3, 1) := by decide +kernel
theorem dX3_divide_22 : decode cX3_divide 22 = .ok (.idiv, 1) := by decide +kernel
theorem dX3_divide_23 : decode cX3_divide 23 = .ok (.goto 6, 3) := by decide +kernel
theorem dX3_divide_26 : decode cX3_divide 26 = .ok (.iload_n 2, 1) := by decide +kernel
theorem dX3_divide_27 : decode cX3_divide 27 = .ok (.iload_n 3, 1) := by decide +kernel
theorem dX3_divide_28 : decode cX3_divide 28 = .ok (.irem, 1) := by decide +kernel
theorem dX3_divide_29 : decode cX3_divide 29 = .ok (.invokevirtual 135, 3) := by decide +kernel
theorem dX3_divide_32 : decode cX3_divide 32 = .ok (.return_, 1) := by decide +kernel
theorem dX3_compares_0 : decode cX3_compares 0 = .ok (.iload_n 0, 1) := by decide +kernel
theorem dX3_compares_1 : decode cX3_compares 1 = .ok (.tableswitch 90 12 16 #[35, 46, 57, 68, 79], 35) := by decide +kernel
theorem dX3_compares_36 : decode cX3_compares 36 = .ok (.iload_n 1, 1) := by decide +kernel
theorem dX3_compares_37 : decode cX3_compares 37 = .ok (.iload_n 2, 1) := by decide +kernel
theorem dX3_compares_38 : decode cX3_compares 38 = .ok (.if_icmp .ge 7, 3) := by decide +kernel
theorem dX3_compares_41 : decode cX3_compares 41 = .ok (.iconst 1, 1) := by decide +kernel
theorem dX3_compares_42 : decode cX3_compares 42 = .ok (.goto 4, 3) := by decide +kernel
theorem dX3_compares_45 : decode cX3_compares 45 = .ok (.iconst 0, 1) := by decide +kernel
theorem dX3_compares_46 : decode cX3_compares 46 = .ok (.ireturn, 1) := by decide +kernel
theorem dX3_compares_47 : decode cX3_compares 47 = .ok (.iload_n 1, 1) := by decide +kernel
theorem dX3_compares_48 : decode cX3_compares 48 = .ok (.iload_n 2, 1) := by decide +kernel
theorem dX3_compares_49 : decode cX3_compares 49 = .ok (.if_icmp .gt 7, 3) := by decide +kernel
theorem dX3_compares_52 : decode cX3_compares 52 = .ok (.iconst 1, 1) := by decide +kernel
theorem dX3_compares_53 : decode cX3_compares 53 = .ok (.goto 4, 3) := by decide +kernel
theorem dX3_compares_56 : decode cX3_compares 56 = .ok (.iconst 0, 1) := by decide +kernel
theorem dX3_compares_57 : decode cX3_compares 57 = .ok (.ireturn, 1) := by decide +kernel
theorem dX3_compares_58 : decode cX3_compares 58 = .ok (.iload_n 1, 1) := by decide +kernel
theorem dX3_compares_59 : decode cX3_compares 59 = .ok (.iload_n 2, 1) := by decide +kernel
theorem dX3_compares_60 : decode cX3_compares 60 = .ok (.if_icmp .le 7, 3) := by decide +kernel
theorem dX3_compares_63 : decode cX3_compares 63 = .ok (.iconst 1, 1) := by decide +kernel
theorem dX3_compares_64 : decode cX3_compares 64 = .ok (.goto 4, 3) := by decide +kernel
theorem dX3_compares_67 : decode cX3_compares 67 = .ok (.iconst 0, 1) := by decide +kernel
theorem dX3_compares_68 : decode cX3_compares 68 = .ok (.ireturn, 1) := by decide +kernel
theorem dX3_compares_69 : decode cX3_compares 69 = .ok (.iload_n 1, 1) := by decide +kernel
theorem dX3_compares_70 : decode cX3_compares 70 = .ok (.iload_n 2, 1) := by decide +kernel
theorem dX3_compares_71 : decode cX3_compares 71 = .ok (.if_icmp .lt 7, 3) := by decide +kernel
theorem dX3_compares_74 : decode cX3_compares 74 = .ok (.iconst 1, 1) := by decide +kernel
theorem dX3_compares_75 : decode cX3_compares 75 = .ok (.goto 4, 3) := by decide +kernel
theorem dX3_compares_78 : decode cX3_compares 78 = .ok (.iconst 0, 1) := by decide +kernel
theorem dX3_compares_79 : decode cX3_compares 79 = .ok (.ireturn, 1) := by decide +kernel
theorem dX3_compares_80 : decode cX3_compares 80 = .ok (.iload_n 1, 1) := by decide +kernel
theorem dX3_compares_81 : decode cX3_compares 81 = .ok (.iload_n 2, 1) := by decide +kernel
theorem dX3_compares_82 : decode cX3_compares 82 = .ok (.if_icmp .ne 7, 3) := by decide +kernel
theorem dX3_compares_85 : decode cX3_compares 85 = .ok (.iconst 1, 1) := by decide +kernel
theorem dX3_compares_86 : decode cX3_compares 86 = .ok (.goto 4, 3) := by decide +kernel
theorem dX3_compares_89 : decode cX3_compares 89 = .ok (.iconst 0, 1) := by decide +kernel
theorem dX3_compares_90 : decode cX3_compares 90 = .ok (.ireturn, 1) := by decide +kernel
theorem dX3_compares_91 : decode cX3_compares 91 = .ok (.iload_n 1, 1) := by decide +kernel
theorem dX3_compares_92 : decode cX3_compares 92 = .ok (.iload_n 2, 1) := by decide +kernel
theorem dX3_compares_93 : decode cX3_compares 93 = .ok (.if_icmp .eq 7, 3) := by decide +kernel
theorem dX3_compares_96 : decode cX3_compares 96 = .ok (.iconst 1, 1) := by decide +kernel
theorem dX3_compares_97 : decode cX3_compares 97 = .ok (.goto 4, 3) := by decide +kernel
theorem dX3_compares_100 : decode cX3_compares 100 = .ok (.iconst 0, 1) := by decide +kernel
theorem dX3_compares_101 : decode cX3_compares 101 = .ok (.ireturn, 1) := by decide +kernel
theorem dX3_steer_0 : decode cX3_steer 0 = .ok (.iload_n 1, 1) := by decide +kernel
theorem dX3_steer_1 : decode cX3_steer 1 = .ok (.tableswitch 176 30 37 #[47, 65, 85, 85, 104, 112, 135, 143], 47) := by decide +kernel
theorem dX3_steer_48 : decode cX3_steer 48 = .ok (.aload_n 0, 1) := by decide +kernel
theorem dX3_steer_49 : decode cX3_steer 49 = .ok (.aload_n 0, 1) := by decide +kernel
theorem dX3_steer_50 : decode cX3_steer 50 = .ok (.getfield 40, 3) := by decide +kernel
theorem dX3_steer_53 : decode cX3_steer 53 = .ok (.getfield 153, 3) := by decide +kernel
theorem dX3_steer_56 : decode cX3_steer 56 = .ok (.iload_n 2, 1) := by decide +kernel
theorem dX3_steer_57 : decode cX3_steer 57 = .ok (.invokestatic 111, 3) := by decide +kernel
theorem dX3_steer_60 : decode cX3_steer 60 = .ok (.putfield 57, 3) := by decide +kernel
theorem dX3_steer_63 : decode cX3_steer 63 = .ok (.goto 155, 3) := by decide +kernel
theorem dX3_steer_66 : decode cX3_steer 66 = .ok (.aload_n 0, 1) := by decide +kernel
theorem dX3_steer_67 : decode cX3_steer 67 = .ok (.aload_n 0, 1) := by decide +kernel
theorem dX3_steer_68 : decode cX3_steer 68 = .ok (.invokevirtual 138, 3) := by decide +kernel
theorem dX3_steer_71 : decode cX3_steer 71 = .ok (.ifCond .ne 7, 3) := by decide +kernel
theorem dX3_steer_74 : decode cX3_steer 74 = .ok (.iconst 1, 1) := by decide +kernel
theorem dX3_steer_75 : decode cX3_steer 75 = .ok (.goto 4, 3) := by decide +kernel
theorem dX3_steer_78 : decode cX3_steer 78 = .ok (.iconst 0, 1) := by decide +kernel
theorem dX3_steer_79 : decode cX3_steer 79 = .ok (.iload_n 2, 1) := by decide +kernel
theorem dX3_steer_80 : decode cX3_steer 80 = .ok (.invokevirtual 156, 3) := by decide +kernel
theorem dX3_steer_83 : decode cX3_steer 83 = .ok (.goto 135, 3) := by decide +kernel
theorem dX3_steer_86 : decode cX3_steer 86 = .ok (.aload_n 0, 1) := by decide +kernel
theorem dX3_steer_87 : decode cX3_steer 87 = .ok (.iload_n 1, 1) := by decide +kernel
theorem dX3_steer_88 : decode cX3_steer 88 = .ok (.bipush 33, 2) := by decide +kernel
theorem dX3_steer_90 : decode cX3_steer 90 = .ok (.if_icmp .ne 7, 3) := by decide +kernel
theorem dX3_steer_93 : decode cX3_steer 93 = .ok (.iconst 1, 1) := by decide +kernel
theorem dX3_steer_94 : decode cX3_steer 94 = .ok (.goto 4, 3) := by decide +kernel
theorem dX3_steer_97 : decode cX3_steer 97 = .ok (.iconst 0, 1) := by decide +kernel
theorem dX3_steer_98 : decode cX3_steer 98 = .ok (.iload_n 2, 1) := by decide +kernel
theorem dX3_steer_99 : decode cX3_steer 99 = .ok (.invokevirtual 160, 3) := by decide +kernel
theorem dX3_steer_102 : decode cX3_steer 102 = .ok (.goto 116, 3) := by decide +kernel
theorem dX3_steer_105 : decode cX3_steer 105 = .ok (.aload_n 0, 1) := by decide +kernel
theorem dX3_steer_106 : decode cX3_steer 106 = .ok (.iload_n 2, 1) := by decide +kernel
theorem dX3_steer_107 : decode cX3_steer 107 = .ok (.invokevirtual 163, 3) := by decide +kernel
theorem dX3_steer_110 : decode cX3_steer 110 = .ok (.goto 108, 3) := by decide +kernel
theorem dX3_steer_113 : decode cX3_steer 113 = .ok (.aload_n 0, 1) := by decide +kernel
theorem dX3_steer_114 : decode cX3_steer 114 = .ok (.aload_n 0, 1) := by decide +kernel
theorem dX3_steer_115 : decode cX3_steer 115 = .ok (.getfield 36, 3) := by decide +kernel
theorem dX3_steer_118 : decode cX3_steer 118 = .ok (.getfield 166, 3) := by decide +kernel
theorem dX3_steer_121 : decode cX3_steer 121 = .ok (.ifCond .ne 7, 3) := by decide +kernel
theorem dX3_steer_124 : decode cX3_steer 124 = .ok (.iconst 1, 1) := by decide +kernel
theorem dX3_steer_125 : decode cX3_steer 125 = .ok (.goto 4, 3) := by decide +kernel
theorem dX3_steer_128 : decode cX3_steer 128 = .ok (.iconst 0, 1) := by decide +kernel
theorem dX3_steer_129 : decode cX3_steer 129 = .ok (.iload_n 2, 1) := by decide +kernel
theorem dX3_steer_130 : decode cX3_steer 130 = .ok (.invokevirtual 156, 3) := by decide +kernel
theorem dX3_steer_133 : decode cX3_steer 133 = .ok (.goto 85, 3) := by decide +kernel
theorem dX3_steer_136 : decode cX3_steer 136 = .ok (.aload_n 0, 1) := by decide +kernel
theorem dX3_steer_137 : decode cX3_steer 137 = .ok (.iload_n 2, 1) := by decide +kernel
theorem dX3_steer_138 : decode cX3_steer 138 = .ok (.invokevirtual 172, 3) := by decide +kernel
theorem dX3_steer_141 : decode cX3_steer 141 = .ok (.goto 77, 3) := by decide +kernel
theorem dX3_steer_144 : decode cX3_steer 144 = .ok (.aload_n 0, 1) := by decide +kernel
theorem dX3_steer_145 : decode cX3_steer 145 = .ok (.aload_n 0, 1) := by decide +kernel
theorem dX3_steer_146 : decode cX3_steer 146 = .ok (.getfield 9, 3) := by decide +kernel
theorem dX3_steer_149 : decode cX3_steer 149 = .ok (.iload_n 2, 1) := by decide +kernel
theorem dX3_steer_150 : decode cX3_steer 150 = .ok (.invokestatic 111, 3) := by decide +kernel
theorem dX3_steer_153 : decode cX3_steer 153 = .ok (.aload_n 0, 1) := by decide +kernel
theorem dX3_steer_154 : decode cX3_steer 154 = .ok (.getfield 9, 3) := by decide +kernel
theorem dX3_steer_157 : decode cX3_steer 157 = .ok (.iload_n 2, 1) := by decide +kernel
theorem dX3_steer_158 : decode cX3_steer 158 = .ok (.iconst 1, 1) := by decide +kernel
theorem dX3_steer_159 : decode cX3_steer 159 = .ok (.iadd, 1) := by decide +kernel
theorem dX3_steer_160 : decode cX3_steer 160 = .ok (.invokestatic 111, 3) := by decide +kernel
theorem dX3_steer_163 : decode cX3_steer 163 = .ok (.if_icmp .ge 7, 3) := by decide +kernel
theorem dX3_steer_166 : decode cX3_steer 166 = .ok (.iconst 1, 1) := by decide +kernel
theorem dX3_steer_167 : decode cX3_steer 167 = .ok (.goto 4, 3) := by decide +kernel
theorem dX3_steer_170 : decode cX3_steer 170 = .ok (.iconst 0, 1) := by decide +kernel
theorem dX3_steer_171 : decode cX3_steer 171 = .ok (.invokevirtual 135, 3) := by decide +kernel
theorem dX3_steer_174 : decode cX3_steer 174 = .ok (.goto 44, 3) := by decide +kernel
theorem dX3_steer_177 : decode cX3_steer 177 = .ok (.aload_n 0, 1) := by decide +kernel
theorem dX3_steer_178 : decode cX3_steer 178 = .ok (.aload_n 0, 1) := by decide +kernel
theorem dX3_steer_179 : decode cX3_steer 179 = .ok (.getfield 9, 3) := by decide +kernel
theorem dX3_steer_182 : decode cX3_steer 182 = .ok (.iload_n 2, 1) := by decide +kernel
theorem dX3_steer_183 : decode cX3_steer 183 = .ok (.iconst 2, 1) := by decide +kernel
theorem dX3_steer_184 : decode cX3_steer 184 = .ok (.iadd, 1) := by decide +kernel
theorem dX3_steer_185 : decode cX3_steer 185 = .ok (.aload_n 0, 1) := by decide +kernel
theorem dX3_steer_186 : decode cX3_steer 186 = .ok (.getfield 9, 3) := by decide +kernel
theorem dX3_steer_189 : decode cX3_steer 189 = .ok (.iload_n 2, 1) := by decide +kernel
theorem dX3_steer_190 : decode cX3_steer 190 = .ok (.invokestatic 111, 3) := by decide +kernel
theorem dX3_steer_193 : decode cX3_steer 193 = .ok (.iadd, 1) := by decide +kernel
theorem dX3_steer_194 : decode cX3_steer 194 = .ok (.invokestatic 111, 3) := by decide +kernel
theorem dX3_steer_197 : decode cX3_steer 197 = .ok (.invokevirtual 135, 3) := by decide +kernel
theorem dX3_steer_200 : decode cX3_steer 200 = .ok (.aload_n 0, 1) := by decide +kernel
theorem dX3_steer_201 : decode cX3_steer 201 = .ok (.getfield 9, 3) := by decide +kernel
theorem dX3_steer_204 : decode cX3_steer 204 = .ok (.iload_n 2, 1) := by decide +kernel
theorem dX3_steer_205 : decode cX3_steer 205 = .ok (.aload_n 0, 1) := by decide +kernel
theorem dX3_steer_206 : decode cX3_steer 206 = .ok (.getfield 9, 3) := by decide +kernel
theorem dX3_steer_209 : decode cX3_steer 209 = .ok (.iload_n 2, 1) := by decide +kernel
theorem dX3_steer_210 : decode cX3_steer 210 = .ok (.invokestatic 111, 3) := by decide +kernel
theorem dX3_steer_213 : decode cX3_steer 213 = .ok (.iconst 1, 1) := by decide +kernel
theorem dX3_steer_214 : decode cX3_steer 214 = .ok (.iadd, 1) := by decide +kernel
theorem dX3_steer_215 : decode cX3_steer 215 = .ok (.invokestatic 50, 3) := by decide +kernel
theorem dX3_steer_218 : decode cX3_steer 218 = .ok (.return_, 1) := by decide +kernel
theorem dX3_goIf_0 : decode cX3_goIf 0 = .ok (.iload_n 1, 1) := by decide +kernel
theorem dX3_goIf_1 : decode cX3_goIf 1 = .ok (.ifCond .eq 18, 3) := by decide +kernel
theorem dX3_goIf_4 : decode cX3_goIf 4 = .ok (.aload_n 0, 1) := by decide +kernel
theorem dX3_goIf_5 : decode cX3_goIf 5 = .ok (.aload_n 0, 1) := by decide +kernel
theorem dX3_goIf_6 : decode cX3_goIf 6 = .ok (.getfield 40, 3) := by decide +kernel
theorem dX3_goIf_9 : decode cX3_goIf 9 = .ok (.getfield 153, 3) := by decide +kernel
theorem dX3_goIf_12 : decode cX3_goIf 12 = .ok (.iload_n 2, 1) := by decide +kernel
theorem dX3_goIf_13 : decode cX3_goIf 13 = .ok (.invokestatic 111, 3) := by decide +kernel
theorem dX3_goIf_16 : decode cX3_goIf 16 = .ok (.putfield 57, 3) := by decide +kernel
theorem dX3_goIf_19 : decode cX3_goIf 19 = .ok (.return_, 1) := by decide +kernel
theorem dX3_keep_0 : decode cX3_keep 0 = .ok (.aload_n 0, 1) := by decide +kernel
theorem dX3_keep_1 : decode cX3_keep 1 = .ok (.getfield 15, 3) := by decide +kernel
theorem dX3_keep_4 : decode cX3_keep 4 = .ok (.aload_n 0, 1) := by decide +kernel
theorem dX3_keep_5 : decode cX3_keep 5 = .ok (.getfield 54, 3) := by decide +kernel
theorem dX3_keep_8 : decode cX3_keep 8 = .ok (.iconst 1, 1) := by decide +kernel
theorem dX3_keep_9 : decode cX3_keep 9 = .ok (.isub, 1) := by decide +kernel
theorem dX3_keep_10 : decode cX3_keep 10 = .ok (.invokestatic 111, 3) := by decide +kernel
theorem dX3_keep_13 : decode cX3_keep 13 = .ok (.ifCond .eq 7, 3) := by decide +kernel
theorem dX3_keep_16 : decode cX3_keep 16 = .ok (.iconst 1, 1) := by decide +kernel
theorem dX3_keep_17 : decode cX3_keep 17 = .ok (.goto 4, 3) := by decide +kernel
theorem dX3_keep_20 : decode cX3_keep 20 = .ok (.iconst 0, 1) := by decide +kernel
theorem dX3_keep_21 : decode cX3_keep 21 = .ok (.istore_n 3, 1) := by decide +kernel
theorem dX3_keep_22 : decode cX3_keep 22 = .ok (.iload_n 3, 1) := by decide +kernel
theorem dX3_keep_23 : decode cX3_keep 23 = .ok (.iload_n 1, 1) := by decide +kernel
theorem dX3_keep_24 : decode cX3_keep 24 = .ok (.if_icmp .ne 21, 3) := by decide +kernel
theorem dX3_keep_27 : decode cX3_keep 27 = .ok (.aload_n 0, 1) := by decide +kernel
theorem dX3_keep_28 : decode cX3_keep 28 = .ok (.aload_n 0, 1) := by decide +kernel
theorem dX3_keep_29 : decode cX3_keep 29 = .ok (.getfield 40, 3) := by decide +kernel
theorem dX3_keep_32 : decode cX3_keep 32 = .ok (.getfield 153, 3) := by decide +kernel
theorem dX3_keep_35 : decode cX3_keep 35 = .ok (.iload_n 2, 1) := by decide +kernel
theorem dX3_keep_36 : decode cX3_keep 36 = .ok (.invokestatic 111, 3) := by decide +kernel
theorem dX3_keep_39 : decode cX3_keep 39 = .ok (.putfield 57, 3) := by decide +kernel
theorem dX3_keep_42 : decode cX3_keep 42 = .ok (.goto 8, 3) := by decide +kernel
theorem dX3_keep_45 : decode cX3_keep 45 = .ok (.aload_n 0, 1) := by decide +kernel
theorem dX3_keep_46 : decode cX3_keep 46 = .ok (.invokevirtual 138, 3) := by decide +kernel
theorem dX3_keep_49 : decode cX3_keep 49 = .ok (.pop, 1) := by decide +kernel
theorem dX3_keep_50 : decode cX3_keep 50 = .ok (.return_, 1) := by decide +kernel
theorem dX3_compareCase_0 : decode cX3_compareCase 0 = .ok (.aload_n 0, 1) := by decide +kernel
theorem dX3_compareCase_1 : decode cX3_compareCase 1 = .ok (.invokevirtual 138, 3) := by decide +kernel
theorem dX3_compareCase_4 : decode cX3_compareCase 4 = .ok (.istore_n 2, 1) := by decide +kernel
theorem dX3_compareCase_5 : decode cX3_compareCase 5 = .ok (.aload_n 0, 1) := by decide +kernel
theorem dX3_compareCase_6 : decode cX3_compareCase 6 = .ok (.getfield 15, 3) := by decide +kernel
theorem dX3_compareCase_9 : decode cX3_compareCase 9 = .ok (.aload_n 0, 1) := by decide +kernel
theorem dX3_compareCase_10 : decode cX3_compareCase 10 = .ok (.getfield 54, 3) := by decide +kernel
theorem dX3_compareCase_13 : decode cX3_compareCase 13 = .ok (.iconst 1, 1) := by decide +kernel
theorem dX3_compareCase_14 : decode cX3_compareCase 14 = .ok (.isub, 1) := by decide +kernel
theorem dX3_compareCase_15 : decode cX3_compareCase 15 = .ok (.invokestatic 111, 3) := by decide +kernel
theorem dX3_compareCase_18 : decode cX3_compareCase 18 = .ok (.iload_n 2, 1) := by decide +kernel
theorem dX3_compareCase_19 : decode cX3_compareCase 19 = .ok (.if_icmp .ne 23, 3) := by decide +kernel
theorem dX3_compareCase_22 : decode cX3_compareCase 22 = .ok (.aload_n 0, 1) := by decide +kernel
theorem dX3_compareCase_23 : decode cX3_compareCase 23 = .ok (.invokevirtual 138, 3) := by decide +kernel
theorem dX3_compareCase_26 : decode cX3_compareCase 26 = .ok (.pop, 1) := by decide +kernel
theorem dX3_compareCase_27 : decode cX3_compareCase 27 = .ok (.aload_n 0, 1) := by decide +kernel
theorem dX3_compareCase_28 : decode cX3_compareCase 28 = .ok (.aload_n 0, 1) := by decide +kernel
theorem dX3_compareCase_29 : decode cX3_compareCase 29 = .ok (.getfield 40, 3) := by decide +kernel
theorem dX3_compareCase_32 : decode cX3_compareCase 32 = .ok (.getfield 153, 3) := by decide +kernel
theorem dX3_compareCase_35 : decode cX3_compareCase 35 = .ok (.iload_n 1, 1) := by decide +kernel
theorem dX3_compareCase_36 : decode cX3_compareCase 36 = .ok (.invokestatic 111, 3) := by decide +kernel
theorem dX3_compareCase_39 : decode cX3_compareCase 39 = .ok (.putfield 57, 3) := by decide +kernel
theorem dX3_compareCase_42 : decode cX3_compareCase 42 = .ok (.return_, 1) := by decide +kernel
theorem dX3_fillRow_0 : decode cX3_fillRow 0 = .ok (.aload_n 0, 1) := by decide +kernel
theorem dX3_fillRow_1 : decode cX3_fillRow 1 = .ok (.invokevirtual 138, 3) := by decide +kernel
theorem dX3_fillRow_4 : decode cX3_fillRow 4 = .ok (.istore_n 2, 1) := by decide +kernel
theorem dX3_fillRow_5 : decode cX3_fillRow 5 = .ok (.aload_n 0, 1) := by decide +kernel
theorem dX3_fillRow_6 : decode cX3_fillRow 6 = .ok (.getfield 9, 3) := by decide +kernel
theorem dX3_fillRow_9 : decode cX3_fillRow 9 = .ok (.iload_n 1, 1) := by decide +kernel
theorem dX3_fillRow_10 : decode cX3_fillRow 10 = .ok (.iconst 0, 1) := by decide +kernel
theorem dX3_fillRow_11 : decode cX3_fillRow 11 = .ok (.invokestatic 50, 3) := by decide +kernel
theorem dX3_fillRow_14 : decode cX3_fillRow 14 = .ok (.aload_n 0, 1) := by decide +kernel
theorem dX3_fillRow_15 : decode cX3_fillRow 15 = .ok (.getfield 9, 3) := by decide +kernel
theorem dX3_fillRow_18 : decode cX3_fillRow 18 = .ok (.iload_n 1, 1) := by decide +kernel
theorem dX3_fillRow_19 : decode cX3_fillRow 19 = .ok (.iconst 1, 1) := by decide +kernel
theorem dX3_fillRow_20 : decode cX3_fillRow 20 = .ok (.iadd, 1) := by decide +kernel
theorem dX3_fillRow_21 : decode cX3_fillRow 21 = .ok (.iload_n 2, 1) := by decide +kernel
theorem dX3_fillRow_22 : decode cX3_fillRow 22 = .ok (.invokestatic 50, 3) := by decide +kernel
theorem dX3_fillRow_25 : decode cX3_fillRow 25 = .ok (.iload_n 2, 1) := by decide +kernel
theorem dX3_fillRow_26 : decode cX3_fillRow 26 = .ok (.iconst 1, 1) := by decide +kernel
theorem dX3_fillRow_27 : decode cX3_fillRow 27 = .ok (.isub, 1) := by decide +kernel
theorem dX3_fillRow_28 : decode cX3_fillRow 28 = .ok (.istore_n 3, 1) := by decide +kernel
theorem dX3_fillRow_29 : decode cX3_fillRow 29 = .ok (.iload_n 3, 1) := by decide +kernel
theorem dX3_fillRow_30 : decode cX3_fillRow 30 = .ok (.ifCond .lt 25, 3) := by decide +kernel
theorem dX3_fillRow_33 : decode cX3_fillRow 33 = .ok (.aload_n 0, 1) := by decide +kernel
theorem dX3_fillRow_34 : decode cX3_fillRow 34 = .ok (.getfield 9, 3) := by decide +kernel
theorem dX3_fillRow_37 : decode cX3_fillRow 37 = .ok (.iload_n 1, 1) := by decide +kernel
theorem dX3_fillRow_38 : decode cX3_fillRow 38 = .ok (.iconst 2, 1) := by decide +kernel
theorem dX3_fillRow_39 : decode cX3_fillRow 39 = .ok (.iadd, 1) := by decide +kernel
theorem dX3_fillRow_40 : decode cX3_fillRow 40 = .ok (.iload_n 3, 1) := by decide +kernel
theorem dX3_fillRow_41 : decode cX3_fillRow 41 = .ok (.iadd, 1) := by decide +kernel
theorem dX3_fillRow_42 : decode cX3_fillRow 42 = .ok (.aload_n 0, 1) := by decide +kernel
theorem dX3_fillRow_43 : decode cX3_fillRow 43 = .ok (.invokevirtual 138, 3) := by decide +kernel
theorem dX3_fillRow_46 : decode cX3_fillRow 46 = .ok (.invokestatic 50, 3) := by decide +kernel
theorem dX3_fillRow_49 : decode cX3_fillRow 49 = .ok (.iinc 3 (-1), 3) := by decide +kernel
theorem dX3_fillRow_52 : decode cX3_fillRow 52 = .ok (.goto (-23), 3) := by decide +kernel
theorem dX3_fillRow_55 : decode cX3_fillRow 55 = .ok (.return_, 1) := by decide +kernel
theorem dX3_act_0 : decode cX3_act 0 = .ok (.iload_n 1, 1) := by decide +kernel
end
section
theorem dX3_act_1 : decode cX3_act 1 = .ok (.tableswitch 96 51 55 #[35, 42, 54, 79, 88], 35) := by decide +kernel
theorem dX3_act_36 : decode cX3_act 36 = .ok (.aload_n 0, 1) := by decide +kernel
theorem dX3_act_37 : decode cX3_act 37 = .ok (.invokevirtual 175, 3) := by decide +kernel
theorem dX3_act_40 : decode cX3_act 40 = .ok (.goto 62, 3) := by decide +kernel
theorem dX3_act_43 : decode cX3_act 43 = .ok (.aload_n 0, 1) := by decide +kernel
theorem dX3_act_44 : decode cX3_act 44 = .ok (.iconst 0, 1) := by decide +kernel
theorem dX3_act_45 : decode cX3_act 45 = .ok (.aload_n 0, 1) := by decide +kernel
theorem dX3_act_46 : decode cX3_act 46 = .ok (.invokevirtual 138, 3) := by decide +kernel
theorem dX3_act_49 : decode cX3_act 49 = .ok (.invokevirtual 178, 3) := by decide +kernel
theorem dX3_act_52 : decode cX3_act 52 = .ok (.goto 50, 3) := by decide +kernel
theorem dX3_act_55 : decode cX3_act 55 = .ok (.aload_n 0, 1) := by decide +kernel
theorem dX3_act_56 : decode cX3_act 56 = .ok (.iconst 0, 1) := by decide +kernel
theorem dX3_act_57 : decode cX3_act 57 = .ok (.iload_n 2, 1) := by decide +kernel
theorem dX3_act_58 : decode cX3_act 58 = .ok (.invokevirtual 181, 3) := by decide +kernel
theorem dX3_act_61 : decode cX3_act 61 = .ok (.aload_n 0, 1) := by decide +kernel
theorem dX3_act_62 : decode cX3_act 62 = .ok (.dup, 1) := by decide +kernel
theorem dX3_act_63 : decode cX3_act 63 = .ok (.getfield 72, 3) := by decide +kernel
theorem dX3_act_66 : decode cX3_act 66 = .ok (.iconst 1, 1) := by decide +kernel
theorem dX3_act_67 : decode cX3_act 67 = .ok (.iadd, 1) := by decide +kernel
theorem dX3_act_68 : decode cX3_act 68 = .ok (.putfield 72, 3) := by decide +kernel
theorem dX3_act_71 : decode cX3_act 71 = .ok (.aload_n 0, 1) := by decide +kernel
theorem dX3_act_72 : decode cX3_act 72 = .ok (.iconst 3, 1) := by decide +kernel
theorem dX3_act_73 : decode cX3_act 73 = .ok (.iload_n 2, 1) := by decide +kernel
theorem dX3_act_74 : decode cX3_act 74 = .ok (.invokevirtual 178, 3) := by decide +kernel
theorem dX3_act_77 : decode cX3_act 77 = .ok (.goto 25, 3) := by decide +kernel
theorem dX3_act_80 : decode cX3_act 80 = .ok (.aload_n 0, 1) := by decide +kernel
theorem dX3_act_81 : decode cX3_act 81 = .ok (.iconst 1, 1) := by decide +kernel
theorem dX3_act_82 : decode cX3_act 82 = .ok (.iload_n 2, 1) := by decide +kernel
theorem dX3_act_83 : decode cX3_act 83 = .ok (.invokevirtual 181, 3) := by decide +kernel
theorem dX3_act_86 : decode cX3_act 86 = .ok (.goto 16, 3) := by decide +kernel
theorem dX3_act_89 : decode cX3_act 89 = .ok (.aload_n 0, 1) := by decide +kernel
theorem dX3_act_90 : decode cX3_act 90 = .ok (.iload_n 2, 1) := by decide +kernel
theorem dX3_act_91 : decode cX3_act 91 = .ok (.invokevirtual 184, 3) := by decide +kernel
theorem dX3_act_94 : decode cX3_act 94 = .ok (.goto 8, 3) := by decide +kernel
theorem dX3_act_97 : decode cX3_act 97 = .ok (.aload_n 0, 1) := by decide +kernel
theorem dX3_act_98 : decode cX3_act 98 = .ok (.iconst 0, 1) := by decide +kernel
theorem dX3_act_99 : decode cX3_act 99 = .ok (.putfield 85, 3) := by decide +kernel
theorem dX3_act_102 : decode cX3_act 102 = .ok (.return_, 1) := by decide +kernel
theorem dX3_step_0 : decode cX3_step 0 = .ok (.aload_n 0, 1) := by decide +kernel
theorem dX3_step_1 : decode cX3_step 1 = .ok (.getfield 69, 3) := by decide +kernel
theorem dX3_step_4 : decode cX3_step 4 = .ok (.sipush 1000, 3) := by decide +kernel
theorem dX3_step_7 : decode cX3_step 7 = .ok (.if_icmp .lt 11, 3) := by decide +kernel
theorem dX3_step_10 : decode cX3_step 10 = .ok (.aload_n 0, 1) := by decide +kernel
theorem dX3_step_11 : decode cX3_step 11 = .ok (.iconst 3, 1) := by decide +kernel
theorem dX3_step_12 : decode cX3_step 12 = .ok (.putfield 85, 3) := by decide +kernel
theorem dX3_step_15 : decode cX3_step 15 = .ok (.goto 13, 3) := by decide +kernel
theorem dX3_step_18 : decode cX3_step 18 = .ok (.aload_n 0, 1) := by decide +kernel
theorem dX3_step_19 : decode cX3_step 19 = .ok (.dup, 1) := by decide +kernel
theorem dX3_step_20 : decode cX3_step 20 = .ok (.getfield 69, 3) := by decide +kernel
theorem dX3_step_23 : decode cX3_step 23 = .ok (.iconst 1, 1) := by decide +kernel
theorem dX3_step_24 : decode cX3_step 24 = .ok (.iadd, 1) := by decide +kernel
theorem dX3_step_25 : decode cX3_step 25 = .ok (.putfield 69, 3) := by decide +kernel
theorem dX3_step_28 : decode cX3_step 28 = .ok (.return_, 1) := by decide +kernel
theorem dX3_note_0 : decode cX3_note 0 = .ok (.aload_n 0, 1) := by decide +kernel
theorem dX3_note_1 : decode cX3_note 1 = .ok (.getfield 66, 3) := by decide +kernel
theorem dX3_note_4 : decode cX3_note 4 = .ok (.sipush 200, 3) := by decide +kernel
theorem dX3_note_7 : decode cX3_note 7 = .ok (.if_icmp .ge 43, 3) := by decide +kernel
theorem dX3_note_10 : decode cX3_note 10 = .ok (.aload_n 0, 1) := by decide +kernel
theorem dX3_note_11 : decode cX3_note 11 = .ok (.getfield 33, 3) := by decide +kernel
theorem dX3_note_14 : decode cX3_note 14 = .ok (.iconst 2, 1) := by decide +kernel
theorem dX3_note_15 : decode cX3_note 15 = .ok (.aload_n 0, 1) := by decide +kernel
theorem dX3_note_16 : decode cX3_note 16 = .ok (.getfield 66, 3) := by decide +kernel
theorem dX3_note_19 : decode cX3_note 19 = .ok (.imul, 1) := by decide +kernel
theorem dX3_note_20 : decode cX3_note 20 = .ok (.iload_n 1, 1) := by decide +kernel
theorem dX3_note_21 : decode cX3_note 21 = .ok (.invokestatic 50, 3) := by decide +kernel
theorem dX3_note_24 : decode cX3_note 24 = .ok (.aload_n 0, 1) := by decide +kernel
theorem dX3_note_25 : decode cX3_note 25 = .ok (.getfield 33, 3) := by decide +kernel
theorem dX3_note_28 : decode cX3_note 28 = .ok (.iconst 2, 1) := by decide +kernel
theorem dX3_note_29 : decode cX3_note 29 = .ok (.aload_n 0, 1) := by decide +kernel
theorem dX3_note_30 : decode cX3_note 30 = .ok (.getfield 66, 3) := by decide +kernel
theorem dX3_note_33 : decode cX3_note 33 = .ok (.imul, 1) := by decide +kernel
theorem dX3_note_34 : decode cX3_note 34 = .ok (.iconst 1, 1) := by decide +kernel
theorem dX3_note_35 : decode cX3_note 35 = .ok (.iadd, 1) := by decide +kernel
theorem dX3_note_36 : decode cX3_note 36 = .ok (.iload_n 2, 1) := by decide +kernel
theorem dX3_note_37 : decode cX3_note 37 = .ok (.invokestatic 50, 3) := by decide +kernel
theorem dX3_note_40 : decode cX3_note 40 = .ok (.aload_n 0, 1) := by decide +kernel
theorem dX3_note_41 : decode cX3_note 41 = .ok (.dup, 1) := by decide +kernel
theorem dX3_note_42 : decode cX3_note 42 = .ok (.getfield 66, 3) := by decide +kernel
theorem dX3_note_45 : decode cX3_note 45 = .ok (.iconst 1, 1) := by decide +kernel
theorem dX3_note_46 : decode cX3_note 46 = .ok (.iadd, 1) := by decide +kernel
theorem dX3_note_47 : decode cX3_note 47 = .ok (.putfield 66, 3) := by decide +kernel
theorem dX3_note_50 : decode cX3_note 50 = .ok (.return_, 1) := by decide +kernel
theorem dX3_enter_0 : decode cX3_enter 0 = .ok (.aload_n 0, 1) := by decide +kernel
theorem dX3_enter_1 : decode cX3_enter 1 = .ok (.getfield 60, 3) := by decide +kernel
theorem dX3_enter_4 : decode cX3_enter 4 = .ok (.aload_n 0, 1) := by decide +kernel
theorem dX3_enter_5 : decode cX3_enter 5 = .ok (.getfield 20, 3) := by decide +kernel
theorem dX3_enter_8 : decode cX3_enter 8 = .ok (.arraylength, 1) := by decide +kernel
theorem dX3_enter_9 : decode cX3_enter 9 = .ok (.iconst 1, 1) := by decide +kernel
theorem dX3_enter_10 : decode cX3_enter 10 = .ok (.isub, 1) := by decide +kernel
theorem dX3_enter_11 : decode cX3_enter 11 = .ok (.invokestatic 187, 3) := by decide +kernel
theorem dX3_enter_14 : decode cX3_enter 14 = .ok (.istore_n 3, 1) := by decide +kernel
theorem dX3_enter_15 : decode cX3_enter 15 = .ok (.aload_n 0, 1) := by decide +kernel
theorem dX3_enter_16 : decode cX3_enter 16 = .ok (.getfield 20, 3) := by decide +kernel
theorem dX3_enter_19 : decode cX3_enter 19 = .ok (.iload_n 3, 1) := by decide +kernel
theorem dX3_enter_20 : decode cX3_enter 20 = .ok (.aaload, 1) := by decide +kernel
theorem dX3_enter_21 : decode cX3_enter 21 = .ok (.astore 4, 2) := by decide +kernel
theorem dX3_enter_23 : decode cX3_enter 23 = .ok (.aload 4, 2) := by decide +kernel
theorem dX3_enter_25 : decode cX3_enter 25 = .ok (.ifnonnull 20, 3) := by decide +kernel
theorem dX3_enter_28 : decode cX3_enter 28 = .ok (.new 18, 3) := by decide +kernel
theorem dX3_enter_31 : decode cX3_enter 31 = .ok (.dup, 1) := by decide +kernel
theorem dX3_enter_32 : decode cX3_enter 32 = .ok (.invokespecial 193, 3) := by decide +kernel
theorem dX3_enter_35 : decode cX3_enter 35 = .ok (.astore 4, 2) := by decide +kernel
theorem dX3_enter_37 : decode cX3_enter 37 = .ok (.aload_n 0, 1) := by decide +kernel
theorem dX3_enter_38 : decode cX3_enter 38 = .ok (.getfield 20, 3) := by decide +kernel
theorem dX3_enter_41 : decode cX3_enter 41 = .ok (.iload_n 3, 1) := by decide +kernel
theorem dX3_enter_42 : decode cX3_enter 42 = .ok (.aload 4, 2) := by decide +kernel
theorem dX3_enter_44 : decode cX3_enter 44 = .ok (.aastore, 1) := by decide +kernel
theorem dX3_enter_45 : decode cX3_enter 45 = .ok (.aload 4, 2) := by decide +kernel
theorem dX3_enter_47 : decode cX3_enter 47 = .ok (.iload_n 1, 1) := by decide +kernel
theorem dX3_enter_48 : decode cX3_enter 48 = .ok (.putfield 194, 3) := by decide +kernel
theorem dX3_enter_51 : decode cX3_enter 51 = .ok (.aload 4, 2) := by decide +kernel
theorem dX3_enter_53 : decode cX3_enter 53 = .ok (.iload_n 2, 1) := by decide +kernel
theorem dX3_enter_54 : decode cX3_enter 54 = .ok (.putfield 197, 3) := by decide +kernel
theorem dX3_enter_57 : decode cX3_enter 57 = .ok (.aload 4, 2) := by decide +kernel
theorem dX3_enter_59 : decode cX3_enter 59 = .ok (.aload_n 0, 1) := by decide +kernel
theorem dX3_enter_60 : decode cX3_enter 60 = .ok (.getfield 54, 3) := by decide +kernel
theorem dX3_enter_63 : decode cX3_enter 63 = .ok (.putfield 200, 3) := by decide +kernel
theorem dX3_enter_66 : decode cX3_enter 66 = .ok (.aload 4, 2) := by decide +kernel
theorem dX3_enter_68 : decode cX3_enter 68 = .ok (.aload_n 0, 1) := by decide +kernel
theorem dX3_enter_69 : decode cX3_enter 69 = .ok (.getfield 63, 3) := by decide +kernel
theorem dX3_enter_72 : decode cX3_enter 72 = .ok (.putfield 201, 3) := by decide +kernel
theorem dX3_enter_75 : decode cX3_enter 75 = .ok (.aload 4, 2) := by decide +kernel
theorem dX3_enter_77 : decode cX3_enter 77 = .ok (.aconst_null, 1) := by decide +kernel
theorem dX3_enter_78 : decode cX3_enter 78 = .ok (.putfield 204, 3) := by decide +kernel
theorem dX3_enter_81 : decode cX3_enter 81 = .ok (.aload_n 0, 1) := by decide +kernel
theorem dX3_enter_82 : decode cX3_enter 82 = .ok (.iload_n 3, 1) := by decide +kernel
theorem dX3_enter_83 : decode cX3_enter 83 = .ok (.iconst 1, 1) := by decide +kernel
theorem dX3_enter_84 : decode cX3_enter 84 = .ok (.iadd, 1) := by decide +kernel
theorem dX3_enter_85 : decode cX3_enter 85 = .ok (.putfield 60, 3) := by decide +kernel
theorem dX3_enter_88 : decode cX3_enter 88 = .ok (.return_, 1) := by decide +kernel
theorem dX3_frame_0 : decode cX3_frame 0 = .ok (.iload_n 1, 1) := by decide +kernel
theorem dX3_frame_1 : decode cX3_frame 1 = .ok (.ifCond .lt 29, 3) := by decide +kernel
theorem dX3_frame_4 : decode cX3_frame 4 = .ok (.iload_n 1, 1) := by decide +kernel
theorem dX3_frame_5 : decode cX3_frame 5 = .ok (.aload_n 0, 1) := by decide +kernel
theorem dX3_frame_6 : decode cX3_frame 6 = .ok (.getfield 60, 3) := by decide +kernel
theorem dX3_frame_9 : decode cX3_frame 9 = .ok (.if_icmp .ge 21, 3) := by decide +kernel
theorem dX3_frame_12 : decode cX3_frame 12 = .ok (.iload_n 1, 1) := by decide +kernel
theorem dX3_frame_13 : decode cX3_frame 13 = .ok (.aload_n 0, 1) := by decide +kernel
theorem dX3_frame_14 : decode cX3_frame 14 = .ok (.getfield 20, 3) := by decide +kernel
theorem dX3_frame_17 : decode cX3_frame 17 = .ok (.arraylength, 1) := by decide +kernel
theorem dX3_frame_18 : decode cX3_frame 18 = .ok (.if_icmp .ge 12, 3) := by decide +kernel
theorem dX3_frame_21 : decode cX3_frame 21 = .ok (.aload_n 0, 1) := by decide +kernel
theorem dX3_frame_22 : decode cX3_frame 22 = .ok (.getfield 20, 3) := by decide +kernel
theorem dX3_frame_25 : decode cX3_frame 25 = .ok (.iload_n 1, 1) := by decide +kernel
theorem dX3_frame_26 : decode cX3_frame 26 = .ok (.aaload, 1) := by decide +kernel
theorem dX3_frame_27 : decode cX3_frame 27 = .ok (.goto 4, 3) := by decide +kernel
theorem dX3_frame_30 : decode cX3_frame 30 = .ok (.aconst_null, 1) := by decide +kernel
theorem dX3_frame_31 : decode cX3_frame 31 = .ok (.areturn, 1) := by decide +kernel
theorem dX3_openOne_0 : decode cX3_openOne 0 = .ok (.aload_n 0, 1) := by decide +kernel
theorem dX3_openOne_1 : decode cX3_openOne 1 = .ok (.getfield 36, 3) := by decide +kernel
theorem dX3_openOne_4 : decode cX3_openOne 4 = .ok (.getfield 207, 3) := by decide +kernel
theorem dX3_openOne_7 : decode cX3_openOne 7 = .ok (.iload_n 1, 1) := by decide +kernel
theorem dX3_openOne_8 : decode cX3_openOne 8 = .ok (.invokestatic 111, 3) := by decide +kernel
theorem dX3_openOne_11 : decode cX3_openOne 11 = .ok (.ifCond .lt 22, 3) := by decide +kernel
theorem dX3_openOne_14 : decode cX3_openOne 14 = .ok (.aload_n 0, 1) := by decide +kernel
theorem dX3_openOne_15 : decode cX3_openOne 15 = .ok (.aload_n 0, 1) := by decide +kernel
theorem dX3_openOne_16 : decode cX3_openOne 16 = .ok (.getfield 36, 3) := by decide +kernel
theorem dX3_openOne_19 : decode cX3_openOne 19 = .ok (.getfield 207, 3) := by decide +kernel
theorem dX3_openOne_22 : decode cX3_openOne 22 = .ok (.iload_n 1, 1) := by decide +kernel
theorem dX3_openOne_23 : decode cX3_openOne 23 = .ok (.invokestatic 111, 3) := by decide +kernel
theorem dX3_openOne_26 : decode cX3_openOne 26 = .ok (.iload_n 1, 1) := by decide +kernel
theorem dX3_openOne_27 : decode cX3_openOne 27 = .ok (.invokevirtual 150, 3) := by decide +kernel
theorem dX3_openOne_30 : decode cX3_openOne 30 = .ok (.goto 45, 3) := by decide +kernel
theorem dX3_openOne_33 : decode cX3_openOne 33 = .ok (.aload_n 0, 1) := by decide +kernel
theorem dX3_openOne_34 : decode cX3_openOne 34 = .ok (.getfield 36, 3) := by decide +kernel
theorem dX3_openOne_37 : decode cX3_openOne 37 = .ok (.getfield 210, 3) := by decide +kernel
theorem dX3_openOne_40 : decode cX3_openOne 40 = .ok (.iload_n 1, 1) := by decide +kernel
theorem dX3_openOne_41 : decode cX3_openOne 41 = .ok (.invokestatic 111, 3) := by decide +kernel
theorem dX3_openOne_44 : decode cX3_openOne 44 = .ok (.ifCond .ne 31, 3) := by decide +kernel
theorem dX3_openOne_47 : decode cX3_openOne 47 = .ok (.aload_n 0, 1) := by decide +kernel
theorem dX3_openOne_48 : decode cX3_openOne 48 = .ok (.iconst 1, 1) := by decide +kernel
theorem dX3_openOne_49 : decode cX3_openOne 49 = .ok (.iload_n 1, 1) := by decide +kernel
theorem dX3_openOne_50 : decode cX3_openOne 50 = .ok (.invokevirtual 178, 3) := by decide +kernel
theorem dX3_openOne_53 : decode cX3_openOne 53 = .ok (.aload_n 0, 1) := by decide +kernel
theorem dX3_openOne_54 : decode cX3_openOne 54 = .ok (.getfield 30, 3) := by decide +kernel
theorem dX3_openOne_57 : decode cX3_openOne 57 = .ok (.aload_n 0, 1) := by decide +kernel
theorem dX3_openOne_58 : decode cX3_openOne 58 = .ok (.getfield 63, 3) := by decide +kernel
theorem dX3_openOne_61 : decode cX3_openOne 61 = .ok (.iload_n 1, 1) := by decide +kernel
theorem dX3_openOne_62 : decode cX3_openOne 62 = .ok (.invokestatic 50, 3) := by decide +kernel
theorem dX3_openOne_65 : decode cX3_openOne 65 = .ok (.aload_n 0, 1) := by decide +kernel
theorem dX3_openOne_66 : decode cX3_openOne 66 = .ok (.dup, 1) := by decide +kernel
theorem dX3_openOne_67 : decode cX3_openOne 67 = .ok (.getfield 63, 3) := by decide +kernel
theorem dX3_openOne_70 : decode cX3_openOne 70 = .ok (.iconst 1, 1) := by decide +kernel
theorem dX3_openOne_71 : decode cX3_openOne 71 = .ok (.iadd, 1) := by decide +kernel
theorem dX3_openOne_72 : decode cX3_openOne 72 = .ok (.putfield 63, 3) := by decide +kernel
theorem dX3_openOne_75 : decode cX3_openOne 75 = .ok (.return_, 1) := by decide +kernel
theorem dX3_turn_0 : decode cX3_turn 0 = .ok (.iload_n 1, 1) := by decide +kernel
theorem dX3_turn_1 : decode cX3_turn 1 = .ok (.tableswitch 116 59 64 #[99, 39, 49, 62, 75, 87], 39) := by decide +kernel
theorem dX3_turn_40 : decode cX3_turn 40 = .ok (.aload_n 0, 1) := by decide +kernel
theorem dX3_turn_41 : decode cX3_turn 41 = .ok (.iconst 1, 1) := by decide +kernel
theorem dX3_turn_42 : decode cX3_turn 42 = .ok (.iconst 0, 1) := by decide +kernel
theorem dX3_turn_43 : decode cX3_turn 43 = .ok (.iload_n 2, 1) := by decide +kernel
theorem dX3_turn_44 : decode cX3_turn 44 = .ok (.invokevirtual 213, 3) := by decide +kernel
theorem dX3_turn_47 : decode cX3_turn 47 = .ok (.goto 86, 3) := by decide +kernel
theorem dX3_turn_50 : decode cX3_turn 50 = .ok (.aload_n 0, 1) := by decide +kernel
theorem dX3_turn_51 : decode cX3_turn 51 = .ok (.iconst 2, 1) := by decide +kernel
theorem dX3_turn_52 : decode cX3_turn 52 = .ok (.aload_n 0, 1) := by decide +kernel
theorem dX3_turn_53 : decode cX3_turn 53 = .ok (.invokevirtual 138, 3) := by decide +kernel
theorem dX3_turn_56 : decode cX3_turn 56 = .ok (.iload_n 2, 1) := by decide +kernel
theorem dX3_turn_57 : decode cX3_turn 57 = .ok (.invokevirtual 213, 3) := by decide +kernel
theorem dX3_turn_60 : decode cX3_turn 60 = .ok (.goto 73, 3) := by decide +kernel
theorem dX3_turn_63 : decode cX3_turn 63 = .ok (.aload_n 0, 1) := by decide +kernel
theorem dX3_turn_64 : decode cX3_turn 64 = .ok (.iconst 3, 1) := by decide +kernel
theorem dX3_turn_65 : decode cX3_turn 65 = .ok (.aload_n 0, 1) := by decide +kernel
theorem dX3_turn_66 : decode cX3_turn 66 = .ok (.invokevirtual 138, 3) := by decide +kernel
theorem dX3_turn_69 : decode cX3_turn 69 = .ok (.iconst 0, 1) := by decide +kernel
theorem dX3_turn_70 : decode cX3_turn 70 = .ok (.invokevirtual 213, 3) := by decide +kernel
theorem dX3_turn_73 : decode cX3_turn 73 = .ok (.goto 60, 3) := by decide +kernel
theorem dX3_turn_76 : decode cX3_turn 76 = .ok (.aload_n 0, 1) := by decide +kernel
theorem dX3_turn_77 : decode cX3_turn 77 = .ok (.iload_n 2, 1) := by decide +kernel
theorem dX3_turn_78 : decode cX3_turn 78 = .ok (.aload_n 0, 1) := by decide +kernel
theorem dX3_turn_79 : decode cX3_turn 79 = .ok (.invokevirtual 138, 3) := by decide +kernel
theorem dX3_turn_82 : decode cX3_turn 82 = .ok (.invokevirtual 150, 3) := by decide +kernel
theorem dX3_turn_85 : decode cX3_turn 85 = .ok (.goto 48, 3) := by decide +kernel
theorem dX3_turn_88 : decode cX3_turn 88 = .ok (.aload_n 0, 1) := by decide +kernel
theorem dX3_turn_89 : decode cX3_turn 89 = .ok (.aload_n 0, 1) := by decide +kernel
theorem dX3_turn_90 : decode cX3_turn 90 = .ok (.iload_n 2, 1) := by decide +kernel
theorem dX3_turn_91 : decode cX3_turn 91 = .ok (.invokevirtual 216, 3) := by decide +kernel
theorem dX3_turn_94 : decode cX3_turn 94 = .ok (.invokevirtual 220, 3) := by decide +kernel
theorem dX3_turn_97 : decode cX3_turn 97 = .ok (.goto 36, 3) := by decide +kernel
theorem dX3_turn_100 : decode cX3_turn 100 = .ok (.aload_n 0, 1) := by decide +kernel
theorem dX3_turn_101 : decode cX3_turn 101 = .ok (.aload_n 0, 1) := by decide +kernel
theorem dX3_turn_102 : decode cX3_turn 102 = .ok (.aload_n 0, 1) := by decide +kernel
theorem dX3_turn_103 : decode cX3_turn 103 = .ok (.getfield 60, 3) := by decide +kernel
theorem dX3_turn_106 : decode cX3_turn 106 = .ok (.iconst 1, 1) := by decide +kernel
theorem dX3_turn_107 : decode cX3_turn 107 = .ok (.isub, 1) := by decide +kernel
theorem dX3_turn_108 : decode cX3_turn 108 = .ok (.invokevirtual 216, 3) := by decide +kernel
theorem dX3_turn_111 : decode cX3_turn 111 = .ok (.invokevirtual 224, 3) := by decide +kernel
theorem dX3_turn_114 : decode cX3_turn 114 = .ok (.goto 19, 3) := by decide +kernel
theorem dX3_turn_117 : decode cX3_turn 117 = .ok (.aload_n 0, 1) := by decide +kernel
theorem dX3_turn_118 : decode cX3_turn 118 = .ok (.iload_n 1, 1) := by decide +kernel
theorem dX3_turn_119 : decode cX3_turn 119 = .ok (.iload_n 2, 1) := by decide +kernel
theorem dX3_turn_120 : decode cX3_turn 120 = .ok (.aload_n 0, 1) := by decide +kernel
theorem dX3_turn_121 : decode cX3_turn 121 = .ok (.aload_n 0, 1) := by decide +kernel
theorem dX3_turn_122 : decode cX3_turn 122 = .ok (.getfield 60, 3) := by decide +kernel
theorem dX3_turn_125 : decode cX3_turn 125 = .ok (.iconst 1, 1) := by decide +kernel
theorem dX3_turn_126 : decode cX3_turn 126 = .ok (.isub, 1) := by decide +kernel
theorem dX3_turn_127 : decode cX3_turn 127 = .ok (.invokevirtual 216, 3) := by decide +kernel
theorem dX3_turn_130 : decode cX3_turn 130 = .ok (.invokevirtual 227, 3) := by decide +kernel
theorem dX3_turn_133 : decode cX3_turn 133 = .ok (.return_, 1) := by decide +kernel
theorem dX3_handle_0 : decode cX3_handle 0 = .ok (.aload_n 3, 1) := by decide +kernel
theorem dX3_handle_1 : decode cX3_handle 1 = .ok (.ifnull 10, 3) := by decide +kernel
theorem dX3_handle_4 : decode cX3_handle 4 = .ok (.aload_n 3, 1) := by decide +kernel
theorem dX3_handle_5 : decode cX3_handle 5 = .ok (.getfield 204, 3) := by decide +kernel
theorem dX3_handle_8 : decode cX3_handle 8 = .ok (.ifnonnull 4, 3) := by decide +kernel
theorem dX3_handle_11 : decode cX3_handle 11 = .ok (.return_, 1) := by decide +kernel
theorem dX3_handle_12 : decode cX3_handle 12 = .ok (.iload_n 1, 1) := by decide +kernel
theorem dX3_handle_13 : decode cX3_handle 13 = .ok (.bipush 58, 2) := by decide +kernel
theorem dX3_handle_15 : decode cX3_handle 15 = .ok (.if_icmp .ne 11, 3) := by decide +kernel
theorem dX3_handle_18 : decode cX3_handle 18 = .ok (.aload_n 0, 1) := by decide +kernel
theorem dX3_handle_19 : decode cX3_handle 19 = .ok (.aload_n 3, 1) := by decide +kernel
theorem dX3_handle_20 : decode cX3_handle 20 = .ok (.invokevirtual 220, 3) := by decide +kernel
theorem dX3_handle_23 : decode cX3_handle 23 = .ok (.goto 53, 3) := by decide +kernel
theorem dX3_handle_26 : decode cX3_handle 26 = .ok (.iload_n 1, 1) := by decide +kernel
theorem dX3_handle_27 : decode cX3_handle 27 = .ok (.bipush 57, 2) := by decide +kernel
theorem dX3_handle_29 : decode cX3_handle 29 = .ok (.if_icmp .ne 21, 3) := by decide +kernel
theorem dX3_handle_32 : decode cX3_handle 32 = .ok (.aload_n 0, 1) := by decide +kernel
theorem dX3_handle_33 : decode cX3_handle 33 = .ok (.getfield 9, 3) := by decide +kernel
theorem dX3_handle_36 : decode cX3_handle 36 = .ok (.iload_n 2, 1) := by decide +kernel
theorem dX3_handle_37 : decode cX3_handle 37 = .ok (.aload_n 3, 1) := by decide +kernel
theorem dX3_handle_38 : decode cX3_handle 38 = .ok (.getfield 204, 3) := by decide +kernel
theorem dX3_handle_41 : decode cX3_handle 41 = .ok (.getfield 102, 3) := by decide +kernel
theorem dX3_handle_44 : decode cX3_handle 44 = .ok (.invokestatic 50, 3) := by decide +kernel
theorem dX3_handle_47 : decode cX3_handle 47 = .ok (.goto 29, 3) := by decide +kernel
theorem dX3_handle_50 : decode cX3_handle 50 = .ok (.aload_n 0, 1) := by decide +kernel
theorem dX3_handle_51 : decode cX3_handle 51 = .ok (.aload_n 0, 1) := by decide +kernel
theorem dX3_handle_52 : decode cX3_handle 52 = .ok (.getfield 36, 3) := by decide +kernel
theorem dX3_handle_55 : decode cX3_handle 55 = .ok (.aload_n 3, 1) := by decide +kernel
theorem dX3_handle_56 : decode cX3_handle 56 = .ok (.getfield 204, 3) := by decide +kernel
theorem dX3_handle_59 : decode cX3_handle 59 = .ok (.getfield 99, 3) := by decide +kernel
theorem dX3_handle_62 : decode cX3_handle 62 = .ok (.iload_n 2, 1) := by decide +kernel
theorem dX3_handle_63 : decode cX3_handle 63 = .ok (.bipush 16, 2) := by decide +kernel
theorem dX3_handle_65 : decode cX3_handle 65 = .ok (.irem, 1) := by decide +kernel
theorem dX3_handle_66 : decode cX3_handle 66 = .ok (.invokevirtual 231, 3) := by decide +kernel
theorem dX3_handle_69 : decode cX3_handle 69 = .ok (.iload_n 2, 1) := by decide +kernel
theorem dX3_handle_70 : decode cX3_handle 70 = .ok (.bipush 16, 2) := by decide +kernel
theorem dX3_handle_72 : decode cX3_handle 72 = .ok (.idiv, 1) := by decide +kernel
theorem dX3_handle_73 : decode cX3_handle 73 = .ok (.invokevirtual 156, 3) := by decide +kernel
theorem dX3_handle_76 : decode cX3_handle 76 = .ok (.return_, 1) := by decide +kernel
theorem dX3_go_0 : decode cX3_go 0 = .ok (.aload_n 0, 1) := by decide +kernel
theorem dX3_go_1 : decode cX3_go 1 = .ok (.iload_n 1, 1) := by decide +kernel
theorem dX3_go_2 : decode cX3_go 2 = .ok (.putfield 75, 3) := by decide +kernel
theorem dX3_go_5 : decode cX3_go 5 = .ok (.aload_n 0, 1) := by decide +kernel
theorem dX3_go_6 : decode cX3_go 6 = .ok (.iload_n 2, 1) := by decide +kernel
theorem dX3_go_7 : decode cX3_go 7 = .ok (.putfield 78, 3) := by decide +kernel
theorem dX3_go_10 : decode cX3_go 10 = .ok (.aload_n 0, 1) := by decide +kernel
theorem dX3_go_11 : decode cX3_go 11 = .ok (.iload_n 3, 1) := by decide +kernel
theorem dX3_go_12 : decode cX3_go 12 = .ok (.putfield 235, 3) := by decide +kernel
theorem dX3_go_15 : decode cX3_go 15 = .ok (.return_, 1) := by decide +kernel
theorem dX3_raise_0 : decode cX3_raise 0 = .ok (.aload_n 0, 1) := by decide +kernel
theorem dX3_raise_1 : decode cX3_raise 1 = .ok (.aload_n 0, 1) := by decide +kernel
theorem dX3_raise_2 : decode cX3_raise 2 = .ok (.invokevirtual 238, 3) := by decide +kernel
theorem dX3_raise_5 : decode cX3_raise 5 = .ok (.putfield 81, 3) := by decide +kernel
theorem dX3_raise_8 : decode cX3_raise 8 = .ok (.aload_n 0, 1) := by decide +kernel
theorem dX3_raise_9 : decode cX3_raise 9 = .ok (.getfield 81, 3) := by decide +kernel
theorem dX3_raise_12 : decode cX3_raise 12 = .ok (.iload_n 1, 1) := by decide +kernel
theorem dX3_raise_13 : decode cX3_raise 13 = .ok (.putfield 99, 3) := by decide +kernel
theorem dX3_raise_16 : decode cX3_raise 16 = .ok (.aload_n 0, 1) := by decide +kernel
theorem dX3_raise_17 : decode cX3_raise 17 = .ok (.getfield 81, 3) := by decide +kernel
theorem dX3_raise_20 : decode cX3_raise 20 = .ok (.iload_n 2, 1) := by decide +kernel
theorem dX3_raise_21 : decode cX3_raise 21 = .ok (.putfield 102, 3) := by decide +kernel
theorem dX3_raise_24 : decode cX3_raise 24 = .ok (.aload_n 0, 1) := by decide +kernel
theorem dX3_raise_25 : decode cX3_raise 25 = .ok (.getfield 81, 3) := by decide +kernel
theorem dX3_raise_28 : decode cX3_raise 28 = .ok (.iconst 0, 1) := by decide +kernel
theorem dX3_raise_29 : decode cX3_raise 29 = .ok (.putfield 105, 3) := by decide +kernel
theorem dX3_raise_32 : decode cX3_raise 32 = .ok (.aload_n 0, 1) := by decide +kernel
theorem dX3_raise_33 : decode cX3_raise 33 = .ok (.iconst 4, 1) := by decide +kernel
theorem dX3_raise_34 : decode cX3_raise 34 = .ok (.iconst 0, 1) := by decide +kernel
theorem dX3_raise_35 : decode cX3_raise 35 = .ok (.iconst 0, 1) := by decide +kernel
theorem dX3_raise_36 : decode cX3_raise 36 = .ok (.invokevirtual 213, 3) := by decide +kernel
theorem dX3_raise_39 : decode cX3_raise 39 = .ok (.return_, 1) := by decide +kernel
theorem dX3_throwAgain_0 : decode cX3_throwAgain 0 = .ok (.aload_n 1, 1) := by decide +kernel
theorem dX3_throwAgain_1 : decode cX3_throwAgain 1 = .ok (.ifnull 18, 3) := by decide +kernel
theorem dX3_throwAgain_4 : decode cX3_throwAgain 4 = .ok (.aload_n 0, 1) := by decide +kernel
theorem dX3_throwAgain_5 : decode cX3_throwAgain 5 = .ok (.aload_n 1, 1) := by decide +kernel
theorem dX3_throwAgain_6 : decode cX3_throwAgain 6 = .ok (.getfield 204, 3) := by decide +kernel
theorem dX3_throwAgain_9 : decode cX3_throwAgain 9 = .ok (.putfield 81, 3) := by decide +kernel
theorem dX3_throwAgain_12 : decode cX3_throwAgain 12 = .ok (.aload_n 0, 1) := by decide +kernel
theorem dX3_throwAgain_13 : decode cX3_throwAgain 13 = .ok (.iconst 4, 1) := by decide +kernel
theorem dX3_throwAgain_14 : decode cX3_throwAgain 14 = .ok (.iconst 0, 1) := by decide +kernel
theorem dX3_throwAgain_15 : decode cX3_throwAgain 15 = .ok (.iconst 0, 1) := by decide +kernel
theorem dX3_throwAgain_16 : decode cX3_throwAgain 16 = .ok (.invokevirtual 213, 3) := by decide +kernel
theorem dX3_throwAgain_19 : decode cX3_throwAgain 19 = .ok (.return_, 1) := by decide +kernel
theorem dX3_freeThrown_0 : decode cX3_freeThrown 0 = .ok (.iconst 0, 1) := by decide +kernel
theorem dX3_freeThrown_1 : decode cX3_freeThrown 1 = .ok (.istore_n 1, 1) := by decide +kernel
theorem dX3_freeThrown_2 : decode cX3_freeThrown 2 = .ok (.iload_n 1, 1) := by decide +kernel
theorem dX3_freeThrown_3 : decode cX3_freeThrown 3 = .ok (.aload_n 0, 1) := by decide +kernel
theorem dX3_freeThrown_4 : decode cX3_freeThrown 4 = .ok (.getfield 26, 3) := by decide +kernel
theorem dX3_freeThrown_7 : decode cX3_freeThrown 7 = .ok (.arraylength, 1) := by decide +kernel
theorem dX3_freeThrown_8 : decode cX3_freeThrown 8 = .ok (.if_icmp .ge 51, 3) := by decide +kernel
theorem dX3_freeThrown_11 : decode cX3_freeThrown 11 = .ok (.aload_n 0, 1) := by decide +kernel
theorem dX3_freeThrown_12 : decode cX3_freeThrown 12 = .ok (.getfield 26, 3) := by decide +kernel
theorem dX3_freeThrown_15 : decode cX3_freeThrown 15 = .ok (.iload_n 1, 1) := by decide +kernel
theorem dX3_freeThrown_16 : decode cX3_freeThrown 16 = .ok (.aaload, 1) := by decide +kernel
theorem dX3_freeThrown_17 : decode cX3_freeThrown 17 = .ok (.ifnonnull 16, 3) := by decide +kernel
theorem dX3_freeThrown_20 : decode cX3_freeThrown 20 = .ok (.aload_n 0, 1) := by decide +kernel
theorem dX3_freeThrown_21 : decode cX3_freeThrown 21 = .ok (.getfield 26, 3) := by decide +kernel
theorem dX3_freeThrown_24 : decode cX3_freeThrown 24 = .ok (.iload_n 1, 1) := by decide +kernel
theorem dX3_freeThrown_25 : decode cX3_freeThrown 25 = .ok (.new 24, 3) := by decide +kernel
theorem dX3_freeThrown_28 : decode cX3_freeThrown 28 = .ok (.dup, 1) := by decide +kernel
theorem dX3_freeThrown_29 : decode cX3_freeThrown 29 = .ok (.invokespecial 241, 3) := by decide +kernel
theorem dX3_freeThrown_32 : decode cX3_freeThrown 32 = .ok (.aastore, 1) := by decide +kernel
theorem dX3_freeThrown_33 : decode cX3_freeThrown 33 = .ok (.aload_n 0, 1) := by decide +kernel
theorem dX3_freeThrown_34 : decode cX3_freeThrown 34 = .ok (.aload_n 0, 1) := by decide +kernel
theorem dX3_freeThrown_35 : decode cX3_freeThrown 35 = .ok (.getfield 26, 3) := by decide +kernel
theorem dX3_freeThrown_38 : decode cX3_freeThrown 38 = .ok (.iload_n 1, 1) := by decide +kernel
theorem dX3_freeThrown_39 : decode cX3_freeThrown 39 = .ok (.aaload, 1) := by decide +kernel
theorem dX3_freeThrown_40 : decode cX3_freeThrown 40 = .ok (.invokevirtual 242, 3) := by decide +kernel
theorem dX3_freeThrown_43 : decode cX3_freeThrown 43 = .ok (.ifCond .ne 10, 3) := by decide +kernel
theorem dX3_freeThrown_46 : decode cX3_freeThrown 46 = .ok (.aload_n 0, 1) := by decide +kernel
theorem dX3_freeThrown_47 : decode cX3_freeThrown 47 = .ok (.getfield 26, 3) := by decide +kernel
theorem dX3_freeThrown_50 : decode cX3_freeThrown 50 = .ok (.iload_n 1, 1) := by decide +kernel
theorem dX3_freeThrown_51 : decode cX3_freeThrown 51 = .ok (.aaload, 1) := by decide +kernel
theorem dX3_freeThrown_52 : decode cX3_freeThrown 52 = .ok (.areturn, 1) := by decide +kernel
theorem dX3_freeThrown_53 : decode cX3_freeThrown 53 = .ok (.iinc 1 1, 3) := by decide +kernel
theorem dX3_freeThrown_56 : decode cX3_freeThrown 56 = .ok (.goto (-54), 3) := by decide +kernel
theorem dX3_freeThrown_59 : decode cX3_freeThrown 59 = .ok (.new 24, 3) := by decide +kernel
theorem dX3_freeThrown_62 : decode cX3_freeThrown 62 = .ok (.dup, 1) := by decide +kernel
theorem dX3_freeThrown_63 : decode cX3_freeThrown 63 = .ok (.invokespecial 241, 3) := by decide +kernel
theorem dX3_freeThrown_66 : decode cX3_freeThrown 66 = .ok (.areturn, 1) := by decide +kernel
theorem dX3_isHeld_0 : decode cX3_isHeld 0 = .ok (.iconst 0, 1) := by decide +kernel
theorem dX3_isHeld_1 : decode cX3_isHeld 1 = .ok (.istore_n 2, 1) := by decide +kernel
theorem dX3_isHeld_2 : decode cX3_isHeld 2 = .ok (.iload_n 2, 1) := by decide +kernel
theorem dX3_isHeld_3 : decode cX3_isHeld 3 = .ok (.aload_n 0, 1) := by decide +kernel
theorem dX3_isHeld_4 : decode cX3_isHeld 4 = .ok (.getfield 60, 3) := by decide +kernel
theorem dX3_isHeld_7 : decode cX3_isHeld 7 = .ok (.if_icmp .ge 39, 3) := by decide +kernel
theorem dX3_isHeld_10 : decode cX3_isHeld 10 = .ok (.iload_n 2, 1) := by decide +kernel
theorem dX3_isHeld_11 : decode cX3_isHeld 11 = .ok (.aload_n 0, 1) := by decide +kernel
theorem dX3_isHeld_12 : decode cX3_isHeld 12 = .ok (.getfield 20, 3) := by decide +kernel
theorem dX3_isHeld_15 : decode cX3_isHeld 15 = .ok (.arraylength, 1) := by decide +kernel
theorem dX3_isHeld_16 : decode cX3_isHeld 16 = .ok (.if_icmp .ge 30, 3) := by decide +kernel
theorem dX3_isHeld_19 : decode cX3_isHeld 19 = .ok (.aload_n 0, 1) := by decide +kernel
theorem dX3_isHeld_20 : decode cX3_isHeld 20 = .ok (.getfield 20, 3) := by decide +kernel
theorem dX3_isHeld_23 : decode cX3_isHeld 23 = .ok (.iload_n 2, 1) := by decide +kernel
theorem dX3_isHeld_24 : decode cX3_isHeld 24 = .ok (.aaload, 1) := by decide +kernel
theorem dX3_isHeld_25 : decode cX3_isHeld 25 = .ok (.astore_n 3, 1) := by decide +kernel
theorem dX3_isHeld_26 : decode cX3_isHeld 26 = .ok (.aload_n 3, 1) := by decide +kernel
theorem dX3_isHeld_27 : decode cX3_isHeld 27 = .ok (.ifnull 13, 3) := by decide +kernel
theorem dX3_isHeld_30 : decode cX3_isHeld 30 = .ok (.aload_n 3, 1) := by decide +kernel
theorem dX3_isHeld_31 : decode cX3_isHeld 31 = .ok (.getfield 204, 3) := by decide +kernel
theorem dX3_isHeld_34 : decode cX3_isHeld 34 = .ok (.aload_n 1, 1) := by decide +kernel
theorem dX3_isHeld_35 : decode cX3_isHeld 35 = .ok (.if_acmp .ne 5, 3) := by decide +kernel
theorem dX3_isHeld_38 : decode cX3_isHeld 38 = .ok (.iconst 1, 1) := by decide +kernel
theorem dX3_isHeld_39 : decode cX3_isHeld 39 = .ok (.ireturn, 1) := by decide +kernel
theorem dX3_isHeld_40 : decode cX3_isHeld 40 = .ok (.iinc 2 1, 3) := by decide +kernel
theorem dX3_isHeld_43 : decode cX3_isHeld 43 = .ok (.goto (-41), 3) := by decide +kernel
theorem dX3_isHeld_46 : decode cX3_isHeld 46 = .ok (.iconst 0, 1) := by decide +kernel
theorem dX3_isHeld_47 : decode cX3_isHeld 47 = .ok (.ireturn, 1) := by decide +kernel
theorem dX3_resume_0 : decode cX3_resume 0 = .ok (.aload_n 1, 1) := by decide +kernel
theorem dX3_resume_1 : decode cX3_resume 1 = .ok (.ifnull 37, 3) := by decide +kernel
theorem dX3_resume_4 : decode cX3_resume 4 = .ok (.aload_n 0, 1) := by decide +kernel
theorem dX3_resume_5 : decode cX3_resume 5 = .ok (.dup, 1) := by decide +kernel
theorem dX3_resume_6 : decode cX3_resume 6 = .ok (.getfield 60, 3) := by decide +kernel
theorem dX3_resume_9 : decode cX3_resume 9 = .ok (.iconst 1, 1) := by decide +kernel
theorem dX3_resume_10 : decode cX3_resume 10 = .ok (.isub, 1) := by decide +kernel
theorem dX3_resume_11 : decode cX3_resume 11 = .ok (.putfield 60, 3) := by decide +kernel
theorem dX3_resume_14 : decode cX3_resume 14 = .ok (.aload_n 0, 1) := by decide +kernel
theorem dX3_resume_15 : decode cX3_resume 15 = .ok (.aload_n 1, 1) := by decide +kernel
theorem dX3_resume_16 : decode cX3_resume 16 = .ok (.getfield 204, 3) := by decide +kernel
theorem dX3_resume_19 : decode cX3_resume 19 = .ok (.putfield 81, 3) := by decide +kernel
theorem dX3_resume_22 : decode cX3_resume 22 = .ok (.aload_n 0, 1) := by decide +kernel
theorem dX3_resume_23 : decode cX3_resume 23 = .ok (.aload_n 1, 1) := by decide +kernel
theorem dX3_resume_24 : decode cX3_resume 24 = .ok (.getfield 246, 3) := by decide +kernel
theorem dX3_resume_27 : decode cX3_resume 27 = .ok (.aload_n 1, 1) := by decide +kernel
theorem dX3_resume_28 : decode cX3_resume 28 = .ok (.getfield 247, 3) := by decide +kernel
theorem dX3_resume_31 : decode cX3_resume 31 = .ok (.aload_n 1, 1) := by decide +kernel
theorem dX3_resume_32 : decode cX3_resume 32 = .ok (.getfield 248, 3) := by decide +kernel
theorem dX3_resume_35 : decode cX3_resume 35 = .ok (.invokevirtual 213, 3) := by decide +kernel
theorem dX3_resume_38 : decode cX3_resume 38 = .ok (.return_, 1) := by decide +kernel
theorem dX3_leaveOne_0 : decode cX3_leaveOne 0 = .ok (.aload_n 0, 1) := by decide +kernel
theorem dX3_leaveOne_1 : decode cX3_leaveOne 1 = .ok (.aload_n 0, 1) := by decide +kernel
theorem dX3_leaveOne_2 : decode cX3_leaveOne 2 = .ok (.getfield 60, 3) := by decide +kernel
theorem dX3_leaveOne_5 : decode cX3_leaveOne 5 = .ok (.iconst 1, 1) := by decide +kernel
theorem dX3_leaveOne_6 : decode cX3_leaveOne 6 = .ok (.isub, 1) := by decide +kernel
theorem dX3_leaveOne_7 : decode cX3_leaveOne 7 = .ok (.invokevirtual 216, 3) := by decide +kernel
theorem dX3_leaveOne_10 : decode cX3_leaveOne 10 = .ok (.astore_n 1, 1) := by decide +kernel
theorem dX3_leaveOne_11 : decode cX3_leaveOne 11 = .ok (.aload_n 1, 1) := by decide +kernel
theorem dX3_leaveOne_12 : decode cX3_leaveOne 12 = .ok (.ifnull 17, 3) := by decide +kernel
theorem dX3_leaveOne_15 : decode cX3_leaveOne 15 = .ok (.aload_n 0, 1) := by decide +kernel
theorem dX3_leaveOne_16 : decode cX3_leaveOne 16 = .ok (.getfield 60, 3) := by decide +kernel
theorem dX3_leaveOne_19 : decode cX3_leaveOne 19 = .ok (.aload_n 0, 1) := by decide +kernel
theorem dX3_leaveOne_20 : decode cX3_leaveOne 20 = .ok (.getfield 235, 3) := by decide +kernel
theorem dX3_leaveOne_23 : decode cX3_leaveOne 23 = .ok (.bipush 32, 2) := by decide +kernel
theorem dX3_leaveOne_25 : decode cX3_leaveOne 25 = .ok (.irem, 1) := by decide +kernel
theorem dX3_leaveOne_26 : decode cX3_leaveOne 26 = .ok (.if_icmp .gt 10, 3) := by decide +kernel
theorem dX3_leaveOne_29 : decode cX3_leaveOne 29 = .ok (.aload_n 0, 1) := by decide +kernel
theorem dX3_leaveOne_30 : decode cX3_leaveOne 30 = .ok (.invokevirtual 249, 3) := by decide +kernel
theorem dX3_leaveOne_33 : decode cX3_leaveOne 33 = .ok (.goto 90, 3) := by decide +kernel
theorem dX3_leaveOne_36 : decode cX3_leaveOne 36 = .ok (.aload_n 1, 1) := by decide +kernel
theorem dX3_leaveOne_37 : decode cX3_leaveOne 37 = .ok (.getfield 194, 3) := by decide +kernel
theorem dX3_leaveOne_40 : decode cX3_leaveOne 40 = .ok (.iconst 1, 1) := by decide +kernel
theorem dX3_leaveOne_41 : decode cX3_leaveOne 41 = .ok (.if_icmp .ne 11, 3) := by decide +kernel
theorem dX3_leaveOne_44 : decode cX3_leaveOne 44 = .ok (.aload_n 0, 1) := by decide +kernel
theorem dX3_leaveOne_45 : decode cX3_leaveOne 45 = .ok (.aload_n 1, 1) := by decide +kernel
theorem dX3_leaveOne_46 : decode cX3_leaveOne 46 = .ok (.invokevirtual 252, 3) := by decide +kernel
theorem dX3_leaveOne_49 : decode cX3_leaveOne 49 = .ok (.goto 74, 3) := by decide +kernel
theorem dX3_leaveOne_52 : decode cX3_leaveOne 52 = .ok (.aload_n 1, 1) := by decide +kernel
theorem dX3_leaveOne_53 : decode cX3_leaveOne 53 = .ok (.getfield 194, 3) := by decide +kernel
theorem dX3_leaveOne_56 : decode cX3_leaveOne 56 = .ok (.iconst 2, 1) := by decide +kernel
theorem dX3_leaveOne_57 : decode cX3_leaveOne 57 = .ok (.if_icmp .ne 30, 3) := by decide +kernel
theorem dX3_leaveOne_60 : decode cX3_leaveOne 60 = .ok (.aload_n 0, 1) := by decide +kernel
theorem dX3_leaveOne_61 : decode cX3_leaveOne 61 = .ok (.getfield 40, 3) := by decide +kernel
theorem dX3_leaveOne_64 : decode cX3_leaveOne 64 = .ok (.getfield 153, 3) := by decide +kernel
theorem dX3_leaveOne_67 : decode cX3_leaveOne 67 = .ok (.aload_n 1, 1) := by decide +kernel
theorem dX3_leaveOne_68 : decode cX3_leaveOne 68 = .ok (.getfield 197, 3) := by decide +kernel
theorem dX3_leaveOne_71 : decode cX3_leaveOne 71 = .ok (.iconst 1, 1) := by decide +kernel
theorem dX3_leaveOne_72 : decode cX3_leaveOne 72 = .ok (.iadd, 1) := by decide +kernel
theorem dX3_leaveOne_73 : decode cX3_leaveOne 73 = .ok (.invokestatic 111, 3) := by decide +kernel
theorem dX3_leaveOne_76 : decode cX3_leaveOne 76 = .ok (.ifCond .lt 11, 3) := by decide +kernel
theorem dX3_leaveOne_79 : decode cX3_leaveOne 79 = .ok (.aload_n 0, 1) := by decide +kernel
end
section
theorem dX3_leaveOne_80 : decode cX3_leaveOne 80 = .ok (.aload_n 1, 1) := by decide +kernel
theorem dX3_leaveOne_81 : decode cX3_leaveOne 81 = .ok (.invokevirtual 255, 3) := by decide +kernel
theorem dX3_leaveOne_84 : decode cX3_leaveOne 84 = .ok (.goto 39, 3) := by decide +kernel
theorem dX3_leaveOne_87 : decode cX3_leaveOne 87 = .ok (.aload_n 1, 1) := by decide +kernel
theorem dX3_leaveOne_88 : decode cX3_leaveOne 88 = .ok (.getfield 194, 3) := by decide +kernel
theorem dX3_leaveOne_91 : decode cX3_leaveOne 91 = .ok (.ifCond .ne 22, 3) := by decide +kernel
theorem dX3_leaveOne_94 : decode cX3_leaveOne 94 = .ok (.aload_n 0, 1) := by decide +kernel
theorem dX3_leaveOne_95 : decode cX3_leaveOne 95 = .ok (.dup, 1) := by decide +kernel
theorem dX3_leaveOne_96 : decode cX3_leaveOne 96 = .ok (.getfield 72, 3) := by decide +kernel
theorem dX3_leaveOne_99 : decode cX3_leaveOne 99 = .ok (.iconst 1, 1) := by decide +kernel
theorem dX3_leaveOne_100 : decode cX3_leaveOne 100 = .ok (.isub, 1) := by decide +kernel
theorem dX3_leaveOne_101 : decode cX3_leaveOne 101 = .ok (.putfield 72, 3) := by decide +kernel
theorem dX3_leaveOne_104 : decode cX3_leaveOne 104 = .ok (.aload_n 0, 1) := by decide +kernel
theorem dX3_leaveOne_105 : decode cX3_leaveOne 105 = .ok (.iconst 4, 1) := by decide +kernel
theorem dX3_leaveOne_106 : decode cX3_leaveOne 106 = .ok (.aload_n 1, 1) := by decide +kernel
theorem dX3_leaveOne_107 : decode cX3_leaveOne 107 = .ok (.getfield 197, 3) := by decide +kernel
theorem dX3_leaveOne_110 : decode cX3_leaveOne 110 = .ok (.invokevirtual 178, 3) := by decide +kernel
theorem dX3_leaveOne_113 : decode cX3_leaveOne 113 = .ok (.aload_n 0, 1) := by decide +kernel
theorem dX3_leaveOne_114 : decode cX3_leaveOne 114 = .ok (.dup, 1) := by decide +kernel
theorem dX3_leaveOne_115 : decode cX3_leaveOne 115 = .ok (.getfield 60, 3) := by decide +kernel
theorem dX3_leaveOne_118 : decode cX3_leaveOne 118 = .ok (.iconst 1, 1) := by decide +kernel
theorem dX3_leaveOne_119 : decode cX3_leaveOne 119 = .ok (.isub, 1) := by decide +kernel
theorem dX3_leaveOne_120 : decode cX3_leaveOne 120 = .ok (.putfield 60, 3) := by decide +kernel
theorem dX3_leaveOne_123 : decode cX3_leaveOne 123 = .ok (.return_, 1) := by decide +kernel
theorem dX3_arrive_0 : decode cX3_arrive 0 = .ok (.aload_n 0, 1) := by decide +kernel
theorem dX3_arrive_1 : decode cX3_arrive 1 = .ok (.getfield 75, 3) := by decide +kernel
theorem dX3_arrive_4 : decode cX3_arrive 4 = .ok (.iconst 3, 1) := by decide +kernel
theorem dX3_arrive_5 : decode cX3_arrive 5 = .ok (.if_icmp .ne 11, 3) := by decide +kernel
theorem dX3_arrive_8 : decode cX3_arrive 8 = .ok (.aload_n 0, 1) := by decide +kernel
theorem dX3_arrive_9 : decode cX3_arrive 9 = .ok (.iconst 1, 1) := by decide +kernel
theorem dX3_arrive_10 : decode cX3_arrive 10 = .ok (.putfield 85, 3) := by decide +kernel
theorem dX3_arrive_13 : decode cX3_arrive 13 = .ok (.goto 61, 3) := by decide +kernel
theorem dX3_arrive_16 : decode cX3_arrive 16 = .ok (.aload_n 0, 1) := by decide +kernel
theorem dX3_arrive_17 : decode cX3_arrive 17 = .ok (.getfield 75, 3) := by decide +kernel
theorem dX3_arrive_20 : decode cX3_arrive 20 = .ok (.iconst 4, 1) := by decide +kernel
theorem dX3_arrive_21 : decode cX3_arrive 21 = .ok (.if_icmp .ne 11, 3) := by decide +kernel
theorem dX3_arrive_24 : decode cX3_arrive 24 = .ok (.aload_n 0, 1) := by decide +kernel
theorem dX3_arrive_25 : decode cX3_arrive 25 = .ok (.iconst 2, 1) := by decide +kernel
theorem dX3_arrive_26 : decode cX3_arrive 26 = .ok (.putfield 85, 3) := by decide +kernel
theorem dX3_arrive_29 : decode cX3_arrive 29 = .ok (.goto 45, 3) := by decide +kernel
theorem dX3_arrive_32 : decode cX3_arrive 32 = .ok (.aload_n 0, 1) := by decide +kernel
theorem dX3_arrive_33 : decode cX3_arrive 33 = .ok (.getfield 75, 3) := by decide +kernel
theorem dX3_arrive_36 : decode cX3_arrive 36 = .ok (.iconst 2, 1) := by decide +kernel
theorem dX3_arrive_37 : decode cX3_arrive 37 = .ok (.if_icmp .ne 11, 3) := by decide +kernel
theorem dX3_arrive_40 : decode cX3_arrive 40 = .ok (.aload_n 0, 1) := by decide +kernel
theorem dX3_arrive_41 : decode cX3_arrive 41 = .ok (.aload_n 0, 1) := by decide +kernel
theorem dX3_arrive_42 : decode cX3_arrive 42 = .ok (.getfield 78, 3) := by decide +kernel
theorem dX3_arrive_45 : decode cX3_arrive 45 = .ok (.invokevirtual 135, 3) := by decide +kernel
theorem dX3_arrive_48 : decode cX3_arrive 48 = .ok (.aload_n 0, 1) := by decide +kernel
theorem dX3_arrive_49 : decode cX3_arrive 49 = .ok (.aload_n 0, 1) := by decide +kernel
theorem dX3_arrive_50 : decode cX3_arrive 50 = .ok (.getfield 40, 3) := by decide +kernel
theorem dX3_arrive_53 : decode cX3_arrive 53 = .ok (.getfield 153, 3) := by decide +kernel
theorem dX3_arrive_56 : decode cX3_arrive 56 = .ok (.aload_n 0, 1) := by decide +kernel
theorem dX3_arrive_57 : decode cX3_arrive 57 = .ok (.getfield 235, 3) := by decide +kernel
theorem dX3_arrive_60 : decode cX3_arrive 60 = .ok (.bipush 32, 2) := by decide +kernel
theorem dX3_arrive_62 : decode cX3_arrive 62 = .ok (.idiv, 1) := by decide +kernel
theorem dX3_arrive_63 : decode cX3_arrive 63 = .ok (.invokestatic 111, 3) := by decide +kernel
theorem dX3_arrive_66 : decode cX3_arrive 66 = .ok (.putfield 57, 3) := by decide +kernel
theorem dX3_arrive_69 : decode cX3_arrive 69 = .ok (.aload_n 0, 1) := by decide +kernel
theorem dX3_arrive_70 : decode cX3_arrive 70 = .ok (.iconst 0, 1) := by decide +kernel
theorem dX3_arrive_71 : decode cX3_arrive 71 = .ok (.putfield 75, 3) := by decide +kernel
theorem dX3_arrive_74 : decode cX3_arrive 74 = .ok (.return_, 1) := by decide +kernel
theorem dX3_leaveBody_0 : decode cX3_leaveBody 0 = .ok (.aload_n 0, 1) := by decide +kernel
theorem dX3_leaveBody_1 : decode cX3_leaveBody 1 = .ok (.getfield 63, 3) := by decide +kernel
theorem dX3_leaveBody_4 : decode cX3_leaveBody 4 = .ok (.iconst 1, 1) := by decide +kernel
theorem dX3_leaveBody_5 : decode cX3_leaveBody 5 = .ok (.isub, 1) := by decide +kernel
theorem dX3_leaveBody_6 : decode cX3_leaveBody 6 = .ok (.istore_n 2, 1) := by decide +kernel
theorem dX3_leaveBody_7 : decode cX3_leaveBody 7 = .ok (.iload_n 2, 1) := by decide +kernel
theorem dX3_leaveBody_8 : decode cX3_leaveBody 8 = .ok (.aload_n 1, 1) := by decide +kernel
theorem dX3_leaveBody_9 : decode cX3_leaveBody 9 = .ok (.getfield 201, 3) := by decide +kernel
theorem dX3_leaveBody_12 : decode cX3_leaveBody 12 = .ok (.if_icmp .lt 21, 3) := by decide +kernel
theorem dX3_leaveBody_15 : decode cX3_leaveBody 15 = .ok (.aload_n 0, 1) := by decide +kernel
theorem dX3_leaveBody_16 : decode cX3_leaveBody 16 = .ok (.aload_n 0, 1) := by decide +kernel
theorem dX3_leaveBody_17 : decode cX3_leaveBody 17 = .ok (.getfield 30, 3) := by decide +kernel
theorem dX3_leaveBody_20 : decode cX3_leaveBody 20 = .ok (.iload_n 2, 1) := by decide +kernel
theorem dX3_leaveBody_21 : decode cX3_leaveBody 21 = .ok (.invokestatic 111, 3) := by decide +kernel
theorem dX3_leaveBody_24 : decode cX3_leaveBody 24 = .ok (.invokevirtual 258, 3) := by decide +kernel
theorem dX3_leaveBody_27 : decode cX3_leaveBody 27 = .ok (.iinc 2 (-1), 3) := by decide +kernel
theorem dX3_leaveBody_30 : decode cX3_leaveBody 30 = .ok (.goto (-23), 3) := by decide +kernel
theorem dX3_leaveBody_33 : decode cX3_leaveBody 33 = .ok (.aload_n 0, 1) := by decide +kernel
theorem dX3_leaveBody_34 : decode cX3_leaveBody 34 = .ok (.aload_n 1, 1) := by decide +kernel
theorem dX3_leaveBody_35 : decode cX3_leaveBody 35 = .ok (.getfield 201, 3) := by decide +kernel
theorem dX3_leaveBody_38 : decode cX3_leaveBody 38 = .ok (.putfield 63, 3) := by decide +kernel
theorem dX3_leaveBody_41 : decode cX3_leaveBody 41 = .ok (.aload_n 1, 1) := by decide +kernel
theorem dX3_leaveBody_42 : decode cX3_leaveBody 42 = .ok (.iconst 2, 1) := by decide +kernel
theorem dX3_leaveBody_43 : decode cX3_leaveBody 43 = .ok (.putfield 194, 3) := by decide +kernel
theorem dX3_leaveBody_46 : decode cX3_leaveBody 46 = .ok (.aload_n 0, 1) := by decide +kernel
theorem dX3_leaveBody_47 : decode cX3_leaveBody 47 = .ok (.getfield 75, 3) := by decide +kernel
theorem dX3_leaveBody_50 : decode cX3_leaveBody 50 = .ok (.iconst 4, 1) := by decide +kernel
theorem dX3_leaveBody_51 : decode cX3_leaveBody 51 = .ok (.if_icmp .ne 20, 3) := by decide +kernel
theorem dX3_leaveBody_54 : decode cX3_leaveBody 54 = .ok (.aload_n 1, 1) := by decide +kernel
theorem dX3_leaveBody_55 : decode cX3_leaveBody 55 = .ok (.aload_n 0, 1) := by decide +kernel
theorem dX3_leaveBody_56 : decode cX3_leaveBody 56 = .ok (.getfield 81, 3) := by decide +kernel
theorem dX3_leaveBody_59 : decode cX3_leaveBody 59 = .ok (.putfield 204, 3) := by decide +kernel
theorem dX3_leaveBody_62 : decode cX3_leaveBody 62 = .ok (.aload_n 0, 1) := by decide +kernel
theorem dX3_leaveBody_63 : decode cX3_leaveBody 63 = .ok (.aload_n 1, 1) := by decide +kernel
theorem dX3_leaveBody_64 : decode cX3_leaveBody 64 = .ok (.aload_n 1, 1) := by decide +kernel
theorem dX3_leaveBody_65 : decode cX3_leaveBody 65 = .ok (.getfield 197, 3) := by decide +kernel
theorem dX3_leaveBody_68 : decode cX3_leaveBody 68 = .ok (.invokevirtual 261, 3) := by decide +kernel
theorem dX3_leaveBody_71 : decode cX3_leaveBody 71 = .ok (.return_, 1) := by decide +kernel
theorem dX3_closeOne_0 : decode cX3_closeOne 0 = .ok (.aload_n 0, 1) := by decide +kernel
theorem dX3_closeOne_1 : decode cX3_closeOne 1 = .ok (.getfield 36, 3) := by decide +kernel
theorem dX3_closeOne_4 : decode cX3_closeOne 4 = .ok (.getfield 265, 3) := by decide +kernel
theorem dX3_closeOne_7 : decode cX3_closeOne 7 = .ok (.iload_n 1, 1) := by decide +kernel
theorem dX3_closeOne_8 : decode cX3_closeOne 8 = .ok (.invokestatic 111, 3) := by decide +kernel
theorem dX3_closeOne_11 : decode cX3_closeOne 11 = .ok (.istore_n 2, 1) := by decide +kernel
theorem dX3_closeOne_12 : decode cX3_closeOne 12 = .ok (.aload_n 0, 1) := by decide +kernel
theorem dX3_closeOne_13 : decode cX3_closeOne 13 = .ok (.iconst 2, 1) := by decide +kernel
theorem dX3_closeOne_14 : decode cX3_closeOne 14 = .ok (.iload_n 1, 1) := by decide +kernel
theorem dX3_closeOne_15 : decode cX3_closeOne 15 = .ok (.invokevirtual 178, 3) := by decide +kernel
theorem dX3_closeOne_18 : decode cX3_closeOne 18 = .ok (.iload_n 2, 1) := by decide +kernel
theorem dX3_closeOne_19 : decode cX3_closeOne 19 = .ok (.ifCond .ge 4, 3) := by decide +kernel
theorem dX3_closeOne_22 : decode cX3_closeOne 22 = .ok (.return_, 1) := by decide +kernel
theorem dX3_closeOne_23 : decode cX3_closeOne 23 = .ok (.aload_n 0, 1) := by decide +kernel
theorem dX3_closeOne_24 : decode cX3_closeOne 24 = .ok (.getfield 75, 3) := by decide +kernel
theorem dX3_closeOne_27 : decode cX3_closeOne 27 = .ok (.iconst 4, 1) := by decide +kernel
theorem dX3_closeOne_28 : decode cX3_closeOne 28 = .ok (.if_icmp .ne 22, 3) := by decide +kernel
theorem dX3_closeOne_31 : decode cX3_closeOne 31 = .ok (.aload_n 0, 1) := by decide +kernel
theorem dX3_closeOne_32 : decode cX3_closeOne 32 = .ok (.getfield 81, 3) := by decide +kernel
theorem dX3_closeOne_35 : decode cX3_closeOne 35 = .ok (.ifnull 15, 3) := by decide +kernel
theorem dX3_closeOne_38 : decode cX3_closeOne 38 = .ok (.aload_n 0, 1) := by decide +kernel
theorem dX3_closeOne_39 : decode cX3_closeOne 39 = .ok (.getfield 81, 3) := by decide +kernel
theorem dX3_closeOne_42 : decode cX3_closeOne 42 = .ok (.iload_n 2, 1) := by decide +kernel
theorem dX3_closeOne_43 : decode cX3_closeOne 43 = .ok (.iload_n 1, 1) := by decide +kernel
theorem dX3_closeOne_44 : decode cX3_closeOne 44 = .ok (.invokevirtual 268, 3) := by decide +kernel
theorem dX3_closeOne_47 : decode cX3_closeOne 47 = .ok (.goto 9, 3) := by decide +kernel
theorem dX3_closeOne_50 : decode cX3_closeOne 50 = .ok (.aload_n 0, 1) := by decide +kernel
theorem dX3_closeOne_51 : decode cX3_closeOne 51 = .ok (.iload_n 2, 1) := by decide +kernel
theorem dX3_closeOne_52 : decode cX3_closeOne 52 = .ok (.iload_n 1, 1) := by decide +kernel
theorem dX3_closeOne_53 : decode cX3_closeOne 53 = .ok (.invokevirtual 150, 3) := by decide +kernel
theorem dX3_closeOne_56 : decode cX3_closeOne 56 = .ok (.return_, 1) := by decide +kernel
theorem dX3_enterFinally_0 : decode cX3_enterFinally 0 = .ok (.aload_n 1, 1) := by decide +kernel
theorem dX3_enterFinally_1 : decode cX3_enterFinally 1 = .ok (.iconst 3, 1) := by decide +kernel
theorem dX3_enterFinally_2 : decode cX3_enterFinally 2 = .ok (.putfield 194, 3) := by decide +kernel
theorem dX3_enterFinally_5 : decode cX3_enterFinally 5 = .ok (.aload_n 1, 1) := by decide +kernel
theorem dX3_enterFinally_6 : decode cX3_enterFinally 6 = .ok (.aload_n 0, 1) := by decide +kernel
theorem dX3_enterFinally_7 : decode cX3_enterFinally 7 = .ok (.getfield 81, 3) := by decide +kernel
theorem dX3_enterFinally_10 : decode cX3_enterFinally 10 = .ok (.putfield 204, 3) := by decide +kernel
theorem dX3_enterFinally_13 : decode cX3_enterFinally 13 = .ok (.aload_n 1, 1) := by decide +kernel
theorem dX3_enterFinally_14 : decode cX3_enterFinally 14 = .ok (.aload_n 0, 1) := by decide +kernel
theorem dX3_enterFinally_15 : decode cX3_enterFinally 15 = .ok (.getfield 75, 3) := by decide +kernel
theorem dX3_enterFinally_18 : decode cX3_enterFinally 18 = .ok (.putfield 246, 3) := by decide +kernel
theorem dX3_enterFinally_21 : decode cX3_enterFinally 21 = .ok (.aload_n 1, 1) := by decide +kernel
theorem dX3_enterFinally_22 : decode cX3_enterFinally 22 = .ok (.aload_n 0, 1) := by decide +kernel
theorem dX3_enterFinally_23 : decode cX3_enterFinally 23 = .ok (.getfield 78, 3) := by decide +kernel
theorem dX3_enterFinally_26 : decode cX3_enterFinally 26 = .ok (.putfield 247, 3) := by decide +kernel
theorem dX3_enterFinally_29 : decode cX3_enterFinally 29 = .ok (.aload_n 1, 1) := by decide +kernel
theorem dX3_enterFinally_30 : decode cX3_enterFinally 30 = .ok (.aload_n 0, 1) := by decide +kernel
theorem dX3_enterFinally_31 : decode cX3_enterFinally 31 = .ok (.getfield 235, 3) := by decide +kernel
theorem dX3_enterFinally_34 : decode cX3_enterFinally 34 = .ok (.putfield 248, 3) := by decide +kernel
theorem dX3_enterFinally_37 : decode cX3_enterFinally 37 = .ok (.aload_n 0, 1) := by decide +kernel
theorem dX3_enterFinally_38 : decode cX3_enterFinally 38 = .ok (.aload_n 1, 1) := by decide +kernel
theorem dX3_enterFinally_39 : decode cX3_enterFinally 39 = .ok (.aload_n 1, 1) := by decide +kernel
theorem dX3_enterFinally_40 : decode cX3_enterFinally 40 = .ok (.getfield 197, 3) := by decide +kernel
theorem dX3_enterFinally_43 : decode cX3_enterFinally 43 = .ok (.iconst 1, 1) := by decide +kernel
theorem dX3_enterFinally_44 : decode cX3_enterFinally 44 = .ok (.iadd, 1) := by decide +kernel
theorem dX3_enterFinally_45 : decode cX3_enterFinally 45 = .ok (.invokevirtual 261, 3) := by decide +kernel
theorem dX3_enterFinally_48 : decode cX3_enterFinally 48 = .ok (.return_, 1) := by decide +kernel
theorem dX3_begin_0 : decode cX3_begin 0 = .ok (.aload_n 0, 1) := by decide +kernel
theorem dX3_begin_1 : decode cX3_begin 1 = .ok (.aload_n 1, 1) := by decide +kernel
theorem dX3_begin_2 : decode cX3_begin 2 = .ok (.getfield 200, 3) := by decide +kernel
theorem dX3_begin_5 : decode cX3_begin 5 = .ok (.putfield 54, 3) := by decide +kernel
theorem dX3_begin_8 : decode cX3_begin 8 = .ok (.aload_n 0, 1) := by decide +kernel
theorem dX3_begin_9 : decode cX3_begin 9 = .ok (.aload_n 0, 1) := by decide +kernel
theorem dX3_begin_10 : decode cX3_begin 10 = .ok (.getfield 40, 3) := by decide +kernel
theorem dX3_begin_13 : decode cX3_begin 13 = .ok (.getfield 153, 3) := by decide +kernel
theorem dX3_begin_16 : decode cX3_begin 16 = .ok (.iload_n 2, 1) := by decide +kernel
theorem dX3_begin_17 : decode cX3_begin 17 = .ok (.invokestatic 111, 3) := by decide +kernel
theorem dX3_begin_20 : decode cX3_begin 20 = .ok (.putfield 57, 3) := by decide +kernel
theorem dX3_begin_23 : decode cX3_begin 23 = .ok (.aload_n 0, 1) := by decide +kernel
theorem dX3_begin_24 : decode cX3_begin 24 = .ok (.iconst 0, 1) := by decide +kernel
theorem dX3_begin_25 : decode cX3_begin 25 = .ok (.putfield 75, 3) := by decide +kernel
theorem dX3_begin_28 : decode cX3_begin 28 = .ok (.return_, 1) := by decide +kernel
theorem dX4_find_0 : decode cX4_find 0 = .ok (.iconst 0, 1) := by decide +kernel
theorem dX4_find_1 : decode cX4_find 1 = .ok (.istore_n 3, 1) := by decide +kernel
theorem dX4_find_2 : decode cX4_find 2 = .ok (.iload_n 3, 1) := by decide +kernel
theorem dX4_find_3 : decode cX4_find 3 = .ok (.aload_n 0, 1) := by decide +kernel
theorem dX4_find_4 : decode cX4_find 4 = .ok (.getfield 20, 3) := by decide +kernel
theorem dX4_find_7 : decode cX4_find 7 = .ok (.if_icmp .ge 31, 3) := by decide +kernel
theorem dX4_find_10 : decode cX4_find 10 = .ok (.iload_n 3, 1) := by decide +kernel
theorem dX4_find_11 : decode cX4_find 11 = .ok (.aload_n 0, 1) := by decide +kernel
theorem dX4_find_12 : decode cX4_find 12 = .ok (.getfield 7, 3) := by decide +kernel
theorem dX4_find_15 : decode cX4_find 15 = .ok (.arraylength, 1) := by decide +kernel
theorem dX4_find_16 : decode cX4_find 16 = .ok (.if_icmp .ge 22, 3) := by decide +kernel
theorem dX4_find_19 : decode cX4_find 19 = .ok (.aload_n 0, 1) := by decide +kernel
theorem dX4_find_20 : decode cX4_find 20 = .ok (.getfield 7, 3) := by decide +kernel
theorem dX4_find_23 : decode cX4_find 23 = .ok (.iload_n 3, 1) := by decide +kernel
theorem dX4_find_24 : decode cX4_find 24 = .ok (.laload, 1) := by decide +kernel
theorem dX4_find_25 : decode cX4_find 25 = .ok (.lload_n 1, 1) := by decide +kernel
theorem dX4_find_26 : decode cX4_find 26 = .ok (.lcmp, 1) := by decide +kernel
theorem dX4_find_27 : decode cX4_find 27 = .ok (.ifCond .ne 5, 3) := by decide +kernel
theorem dX4_find_30 : decode cX4_find 30 = .ok (.iload_n 3, 1) := by decide +kernel
theorem dX4_find_31 : decode cX4_find 31 = .ok (.ireturn, 1) := by decide +kernel
theorem dX4_find_32 : decode cX4_find 32 = .ok (.iinc 3 1, 3) := by decide +kernel
theorem dX4_find_35 : decode cX4_find 35 = .ok (.goto (-33), 3) := by decide +kernel
theorem dX4_find_38 : decode cX4_find 38 = .ok (.iconst (-1), 1) := by decide +kernel
theorem dX4_find_39 : decode cX4_find 39 = .ok (.ireturn, 1) := by decide +kernel
theorem dX4_add_0 : decode cX4_add 0 = .ok (.aload_n 0, 1) := by decide +kernel
theorem dX4_add_1 : decode cX4_add 1 = .ok (.getfield 20, 3) := by decide +kernel
theorem dX4_add_4 : decode cX4_add 4 = .ok (.aload_n 0, 1) := by decide +kernel
theorem dX4_add_5 : decode cX4_add 5 = .ok (.getfield 7, 3) := by decide +kernel
theorem dX4_add_8 : decode cX4_add 8 = .ok (.arraylength, 1) := by decide +kernel
theorem dX4_add_9 : decode cX4_add 9 = .ok (.if_icmp .ge 44, 3) := by decide +kernel
theorem dX4_add_12 : decode cX4_add 12 = .ok (.aload_n 0, 1) := by decide +kernel
theorem dX4_add_13 : decode cX4_add 13 = .ok (.getfield 7, 3) := by decide +kernel
theorem dX4_add_16 : decode cX4_add 16 = .ok (.aload_n 0, 1) := by decide +kernel
theorem dX4_add_17 : decode cX4_add 17 = .ok (.getfield 20, 3) := by decide +kernel
theorem dX4_add_20 : decode cX4_add 20 = .ok (.lload_n 1, 1) := by decide +kernel
theorem dX4_add_21 : decode cX4_add 21 = .ok (.lastore, 1) := by decide +kernel
theorem dX4_add_22 : decode cX4_add 22 = .ok (.aload_n 0, 1) := by decide +kernel
theorem dX4_add_23 : decode cX4_add 23 = .ok (.getfield 13, 3) := by decide +kernel
theorem dX4_add_26 : decode cX4_add 26 = .ok (.aload_n 0, 1) := by decide +kernel
theorem dX4_add_27 : decode cX4_add 27 = .ok (.getfield 20, 3) := by decide +kernel
theorem dX4_add_30 : decode cX4_add 30 = .ok (.iload_n 3, 1) := by decide +kernel
theorem dX4_add_31 : decode cX4_add 31 = .ok (.iastore, 1) := by decide +kernel
theorem dX4_add_32 : decode cX4_add 32 = .ok (.aload_n 0, 1) := by decide +kernel
theorem dX4_add_33 : decode cX4_add 33 = .ok (.getfield 17, 3) := by decide +kernel
theorem dX4_add_36 : decode cX4_add 36 = .ok (.aload_n 0, 1) := by decide +kernel
theorem dX4_add_37 : decode cX4_add 37 = .ok (.getfield 20, 3) := by decide +kernel
theorem dX4_add_40 : decode cX4_add 40 = .ok (.iload 4, 2) := by decide +kernel
theorem dX4_add_42 : decode cX4_add 42 = .ok (.iastore, 1) := by decide +kernel
theorem dX4_add_43 : decode cX4_add 43 = .ok (.aload_n 0, 1) := by decide +kernel
theorem dX4_add_44 : decode cX4_add 44 = .ok (.dup, 1) := by decide +kernel
theorem dX4_add_45 : decode cX4_add 45 = .ok (.getfield 20, 3) := by decide +kernel
theorem dX4_add_48 : decode cX4_add 48 = .ok (.iconst 1, 1) := by decide +kernel
theorem dX4_add_49 : decode cX4_add 49 = .ok (.iadd, 1) := by decide +kernel
theorem dX4_add_50 : decode cX4_add 50 = .ok (.putfield 20, 3) := by decide +kernel
theorem dX4_add_53 : decode cX4_add 53 = .ok (.return_, 1) := by decide +kernel
theorem dX4_cellOf_0 : decode cX4_cellOf 0 = .ok (.aload_n 0, 1) := by decide +kernel
theorem dX4_cellOf_1 : decode cX4_cellOf 1 = .ok (.getfield 13, 3) := by decide +kernel
theorem dX4_cellOf_4 : decode cX4_cellOf 4 = .ok (.iload_n 1, 1) := by decide +kernel
theorem dX4_cellOf_5 : decode cX4_cellOf 5 = .ok (.invokestatic 24, 3) := by decide +kernel
theorem dX4_cellOf_8 : decode cX4_cellOf 8 = .ok (.ireturn, 1) := by decide +kernel
theorem dX4_frameOf_0 : decode cX4_frameOf 0 = .ok (.aload_n 0, 1) := by decide +kernel
theorem dX4_frameOf_1 : decode cX4_frameOf 1 = .ok (.getfield 17, 3) := by decide +kernel
theorem dX4_frameOf_4 : decode cX4_frameOf 4 = .ok (.iload_n 1, 1) := by decide +kernel
theorem dX4_frameOf_5 : decode cX4_frameOf 5 = .ok (.invokestatic 24, 3) := by decide +kernel
theorem dX4_frameOf_8 : decode cX4_frameOf 8 = .ok (.ireturn, 1) := by decide +kernel
theorem dX4_isCaught_0 : decode cX4_isCaught 0 = .ok (.aload_n 0, 1) := by decide +kernel
theorem dX4_isCaught_1 : decode cX4_isCaught 1 = .ok (.getfield 17, 3) := by decide +kernel
theorem dX4_isCaught_4 : decode cX4_isCaught 4 = .ok (.iload_n 1, 1) := by decide +kernel
theorem dX4_isCaught_5 : decode cX4_isCaught 5 = .ok (.invokestatic 24, 3) := by decide +kernel
theorem dX4_isCaught_8 : decode cX4_isCaught 8 = .ok (.ifCond .lt 7, 3) := by decide +kernel
theorem dX4_isCaught_11 : decode cX4_isCaught 11 = .ok (.iconst 1, 1) := by decide +kernel
theorem dX4_isCaught_12 : decode cX4_isCaught 12 = .ok (.goto 4, 3) := by decide +kernel
theorem dX4_isCaught_15 : decode cX4_isCaught 15 = .ok (.iconst 0, 1) := by decide +kernel
theorem dX4_isCaught_16 : decode cX4_isCaught 16 = .ok (.ireturn, 1) := by decide +kernel
theorem dX5_init_0 : decode cX5_init 0 = .ok (.aload_n 0, 1) := by decide +kernel
theorem dX5_init_1 : decode cX5_init 1 = .ok (.invokespecial 3, 3) := by decide +kernel
theorem dX5_init_4 : decode cX5_init 4 = .ok (.return_, 1) := by decide +kernel
theorem dX5_isLoop_0 : decode cX5_isLoop 0 = .ok (.aload_n 0, 1) := by decide +kernel
theorem dX5_isLoop_1 : decode cX5_isLoop 1 = .ok (.getfield 9, 3) := by decide +kernel
theorem dX5_isLoop_4 : decode cX5_isLoop 4 = .ok (.sipush 205, 3) := by decide +kernel
theorem dX5_isLoop_7 : decode cX5_isLoop 7 = .ok (.if_icmp .eq 33, 3) := by decide +kernel
theorem dX5_isLoop_10 : decode cX5_isLoop 10 = .ok (.aload_n 0, 1) := by decide +kernel
theorem dX5_isLoop_11 : decode cX5_isLoop 11 = .ok (.getfield 9, 3) := by decide +kernel
theorem dX5_isLoop_14 : decode cX5_isLoop 14 = .ok (.sipush 206, 3) := by decide +kernel
theorem dX5_isLoop_17 : decode cX5_isLoop 17 = .ok (.if_icmp .eq 23, 3) := by decide +kernel
theorem dX5_isLoop_20 : decode cX5_isLoop 20 = .ok (.aload_n 0, 1) := by decide +kernel
theorem dX5_isLoop_21 : decode cX5_isLoop 21 = .ok (.getfield 9, 3) := by decide +kernel
theorem dX5_isLoop_24 : decode cX5_isLoop 24 = .ok (.sipush 207, 3) := by decide +kernel
theorem dX5_isLoop_27 : decode cX5_isLoop 27 = .ok (.if_icmp .eq 13, 3) := by decide +kernel
theorem dX5_isLoop_30 : decode cX5_isLoop 30 = .ok (.aload_n 0, 1) := by decide +kernel
theorem dX5_isLoop_31 : decode cX5_isLoop 31 = .ok (.getfield 9, 3) := by decide +kernel
theorem dX5_isLoop_34 : decode cX5_isLoop 34 = .ok (.sipush 304, 3) := by decide +kernel
theorem dX5_isLoop_37 : decode cX5_isLoop 37 = .ok (.if_icmp .ne 7, 3) := by decide +kernel
theorem dX5_isLoop_40 : decode cX5_isLoop 40 = .ok (.iconst 1, 1) := by decide +kernel
theorem dX5_isLoop_41 : decode cX5_isLoop 41 = .ok (.goto 4, 3) := by decide +kernel
theorem dX5_isLoop_44 : decode cX5_isLoop 44 = .ok (.iconst 0, 1) := by decide +kernel
theorem dX5_isLoop_45 : decode cX5_isLoop 45 = .ok (.ireturn, 1) := by decide +kernel
theorem dX5_hasOneBody_0 : decode cX5_hasOneBody 0 = .ok (.aload_n 0, 1) := by decide +kernel
theorem dX5_hasOneBody_1 : decode cX5_hasOneBody 1 = .ok (.invokevirtual 15, 3) := by decide +kernel
theorem dX5_hasOneBody_4 : decode cX5_hasOneBody 4 = .ok (.ifCond .ne 33, 3) := by decide +kernel
theorem dX5_hasOneBody_7 : decode cX5_hasOneBody 7 = .ok (.aload_n 0, 1) := by decide +kernel
theorem dX5_hasOneBody_8 : decode cX5_hasOneBody 8 = .ok (.getfield 9, 3) := by decide +kernel
theorem dX5_hasOneBody_11 : decode cX5_hasOneBody 11 = .ok (.sipush 303, 3) := by decide +kernel
theorem dX5_hasOneBody_14 : decode cX5_hasOneBody 14 = .ok (.if_icmp .eq 23, 3) := by decide +kernel
theorem dX5_hasOneBody_17 : decode cX5_hasOneBody 17 = .ok (.aload_n 0, 1) := by decide +kernel
theorem dX5_hasOneBody_18 : decode cX5_hasOneBody 18 = .ok (.getfield 9, 3) := by decide +kernel
theorem dX5_hasOneBody_21 : decode cX5_hasOneBody 21 = .ok (.sipush 203, 3) := by decide +kernel
theorem dX5_hasOneBody_24 : decode cX5_hasOneBody 24 = .ok (.if_icmp .eq 13, 3) := by decide +kernel
theorem dX5_hasOneBody_27 : decode cX5_hasOneBody 27 = .ok (.aload_n 0, 1) := by decide +kernel
theorem dX5_hasOneBody_28 : decode cX5_hasOneBody 28 = .ok (.getfield 9, 3) := by decide +kernel
theorem dX5_hasOneBody_31 : decode cX5_hasOneBody 31 = .ok (.sipush 204, 3) := by decide +kernel
theorem dX5_hasOneBody_34 : decode cX5_hasOneBody 34 = .ok (.if_icmp .ne 7, 3) := by decide +kernel
theorem dX5_hasOneBody_37 : decode cX5_hasOneBody 37 = .ok (.iconst 1, 1) := by decide +kernel
theorem dX5_hasOneBody_38 : decode cX5_hasOneBody 38 = .ok (.goto 4, 3) := by decide +kernel
theorem dX5_hasOneBody_41 : decode cX5_hasOneBody 41 = .ok (.iconst 0, 1) := by decide +kernel
theorem dX5_hasOneBody_42 : decode cX5_hasOneBody 42 = .ok (.ireturn, 1) := by decide +kernel
theorem dX6_clear_0 : decode cX6_clear 0 = .ok (.aload_n 0, 1) := by decide +kernel
theorem dX6_clear_1 : decode cX6_clear 1 = .ok (.iconst 0, 1) := by decide +kernel
theorem dX6_clear_2 : decode cX6_clear 2 = .ok (.putfield 21, 3) := by decide +kernel
theorem dX6_clear_5 : decode cX6_clear 5 = .ok (.aload_n 0, 1) := by decide +kernel
theorem dX6_clear_6 : decode cX6_clear 6 = .ok (.iconst 0, 1) := by decide +kernel
theorem dX6_clear_7 : decode cX6_clear 7 = .ok (.putfield 25, 3) := by decide +kernel
theorem dX6_clear_10 : decode cX6_clear 10 = .ok (.aload_n 0, 1) := by decide +kernel
theorem dX6_clear_11 : decode cX6_clear 11 = .ok (.iconst 0, 1) := by decide +kernel
theorem dX6_clear_12 : decode cX6_clear 12 = .ok (.putfield 28, 3) := by decide +kernel
theorem dX6_clear_15 : decode cX6_clear 15 = .ok (.aload_n 0, 1) := by decide +kernel
theorem dX6_clear_16 : decode cX6_clear 16 = .ok (.iconst (-1), 1) := by decide +kernel
theorem dX6_clear_17 : decode cX6_clear 17 = .ok (.putfield 31, 3) := by decide +kernel
theorem dX6_clear_20 : decode cX6_clear 20 = .ok (.return_, 1) := by decide +kernel
theorem dX6_push_0 : decode cX6_push 0 = .ok (.aload_n 0, 1) := by decide +kernel
theorem dX6_push_1 : decode cX6_push 1 = .ok (.getfield 21, 3) := by decide +kernel
theorem dX6_push_4 : decode cX6_push 4 = .ok (.aload_n 0, 1) := by decide +kernel
theorem dX6_push_5 : decode cX6_push 5 = .ok (.getfield 11, 3) := by decide +kernel
theorem dX6_push_8 : decode cX6_push 8 = .ok (.arraylength, 1) := by decide +kernel
theorem dX6_push_9 : decode cX6_push 9 = .ok (.iconst 1, 1) := by decide +kernel
theorem dX6_push_10 : decode cX6_push 10 = .ok (.isub, 1) := by decide +kernel
theorem dX6_push_11 : decode cX6_push 11 = .ok (.invokestatic 34, 3) := by decide +kernel
theorem dX6_push_14 : decode cX6_push 14 = .ok (.istore 4, 2) := by decide +kernel
theorem dX6_push_16 : decode cX6_push 16 = .ok (.aload_n 0, 1) := by decide +kernel
theorem dX6_push_17 : decode cX6_push 17 = .ok (.getfield 11, 3) := by decide +kernel
theorem dX6_push_20 : decode cX6_push 20 = .ok (.iload 4, 2) := by decide +kernel
theorem dX6_push_22 : decode cX6_push 22 = .ok (.aaload, 1) := by decide +kernel
theorem dX6_push_23 : decode cX6_push 23 = .ok (.astore 5, 2) := by decide +kernel
theorem dX6_push_25 : decode cX6_push 25 = .ok (.aload 5, 2) := by decide +kernel
theorem dX6_push_27 : decode cX6_push 27 = .ok (.ifnonnull 21, 3) := by decide +kernel
theorem dX6_push_30 : decode cX6_push 30 = .ok (.new 9, 3) := by decide +kernel
theorem dX6_push_33 : decode cX6_push 33 = .ok (.dup, 1) := by decide +kernel
theorem dX6_push_34 : decode cX6_push 34 = .ok (.invokespecial 40, 3) := by decide +kernel
theorem dX6_push_37 : decode cX6_push 37 = .ok (.astore 5, 2) := by decide +kernel
theorem dX6_push_39 : decode cX6_push 39 = .ok (.aload_n 0, 1) := by decide +kernel
theorem dX6_push_40 : decode cX6_push 40 = .ok (.getfield 11, 3) := by decide +kernel
theorem dX6_push_43 : decode cX6_push 43 = .ok (.iload 4, 2) := by decide +kernel
theorem dX6_push_45 : decode cX6_push 45 = .ok (.aload 5, 2) := by decide +kernel
theorem dX6_push_47 : decode cX6_push 47 = .ok (.aastore, 1) := by decide +kernel
theorem dX6_push_48 : decode cX6_push 48 = .ok (.aload_n 0, 1) := by decide +kernel
theorem dX6_push_49 : decode cX6_push 49 = .ok (.iload 4, 2) := by decide +kernel
theorem dX6_push_51 : decode cX6_push 51 = .ok (.iconst 1, 1) := by decide +kernel
theorem dX6_push_52 : decode cX6_push 52 = .ok (.iadd, 1) := by decide +kernel
theorem dX6_push_53 : decode cX6_push 53 = .ok (.putfield 21, 3) := by decide +kernel
theorem dX6_push_56 : decode cX6_push 56 = .ok (.aload_n 0, 1) := by decide +kernel
theorem dX6_push_57 : decode cX6_push 57 = .ok (.dup, 1) := by decide +kernel
theorem dX6_push_58 : decode cX6_push 58 = .ok (.getfield 25, 3) := by decide +kernel
theorem dX6_push_61 : decode cX6_push 61 = .ok (.iconst 1, 1) := by decide +kernel
theorem dX6_push_62 : decode cX6_push 62 = .ok (.iadd, 1) := by decide +kernel
theorem dX6_push_63 : decode cX6_push 63 = .ok (.putfield 25, 3) := by decide +kernel
theorem dX6_push_66 : decode cX6_push 66 = .ok (.aload 5, 2) := by decide +kernel
theorem dX6_push_68 : decode cX6_push 68 = .ok (.iload_n 1, 1) := by decide +kernel
theorem dX6_push_69 : decode cX6_push 69 = .ok (.putfield 41, 3) := by decide +kernel
theorem dX6_push_72 : decode cX6_push 72 = .ok (.aload 5, 2) := by decide +kernel
theorem dX6_push_74 : decode cX6_push 74 = .ok (.aload_n 0, 1) := by decide +kernel
theorem dX6_push_75 : decode cX6_push 75 = .ok (.getfield 25, 3) := by decide +kernel
theorem dX6_push_78 : decode cX6_push 78 = .ok (.putfield 44, 3) := by decide +kernel
theorem dX6_push_81 : decode cX6_push 81 = .ok (.aload 5, 2) := by decide +kernel
theorem dX6_push_83 : decode cX6_push 83 = .ok (.iload_n 2, 1) := by decide +kernel
theorem dX6_push_84 : decode cX6_push 84 = .ok (.putfield 47, 3) := by decide +kernel
theorem dX6_push_87 : decode cX6_push 87 = .ok (.aload 5, 2) := by decide +kernel
theorem dX6_push_89 : decode cX6_push 89 = .ok (.iload_n 3, 1) := by decide +kernel
theorem dX6_push_90 : decode cX6_push 90 = .ok (.putfield 50, 3) := by decide +kernel
theorem dX6_push_93 : decode cX6_push 93 = .ok (.aload 5, 2) := by decide +kernel
theorem dX6_push_95 : decode cX6_push 95 = .ok (.lconst 0, 1) := by decide +kernel
theorem dX6_push_96 : decode cX6_push 96 = .ok (.putfield 53, 3) := by decide +kernel
theorem dX6_push_99 : decode cX6_push 99 = .ok (.aload 5, 2) := by decide +kernel
theorem dX6_push_101 : decode cX6_push 101 = .ok (.iconst 0, 1) := by decide +kernel
theorem dX6_push_102 : decode cX6_push 102 = .ok (.putfield 57, 3) := by decide +kernel
theorem dX6_push_105 : decode cX6_push 105 = .ok (.aload 5, 2) := by decide +kernel
theorem dX6_push_107 : decode cX6_push 107 = .ok (.iconst 0, 1) := by decide +kernel
theorem dX6_push_108 : decode cX6_push 108 = .ok (.putfield 61, 3) := by decide +kernel
theorem dX6_push_111 : decode cX6_push 111 = .ok (.aload 5, 2) := by decide +kernel
theorem dX6_push_113 : decode cX6_push 113 = .ok (.iconst 0, 1) := by decide +kernel
theorem dX6_push_114 : decode cX6_push 114 = .ok (.putfield 64, 3) := by decide +kernel
theorem dX6_push_117 : decode cX6_push 117 = .ok (.aload 5, 2) := by decide +kernel
theorem dX6_push_119 : decode cX6_push 119 = .ok (.iconst 0, 1) := by decide +kernel
theorem dX6_push_120 : decode cX6_push 120 = .ok (.putfield 67, 3) := by decide +kernel
theorem dX6_push_123 : decode cX6_push 123 = .ok (.aload 5, 2) := by decide +kernel
theorem dX6_push_125 : decode cX6_push 125 = .ok (.iconst (-1), 1) := by decide +kernel
theorem dX6_push_126 : decode cX6_push 126 = .ok (.putfield 70, 3) := by decide +kernel
theorem dX6_push_129 : decode cX6_push 129 = .ok (.aload 5, 2) := by decide +kernel
theorem dX6_push_131 : decode cX6_push 131 = .ok (.iconst (-1), 1) := by decide +kernel
theorem dX6_push_132 : decode cX6_push 132 = .ok (.putfield 73, 3) := by decide +kernel
theorem dX6_push_135 : decode cX6_push 135 = .ok (.aload 5, 2) := by decide +kernel
theorem dX6_push_137 : decode cX6_push 137 = .ok (.iconst (-1), 1) := by decide +kernel
theorem dX6_push_138 : decode cX6_push 138 = .ok (.putfield 76, 3) := by decide +kernel
theorem dX6_push_141 : decode cX6_push 141 = .ok (.aload 5, 2) := by decide +kernel
theorem dX6_push_143 : decode cX6_push 143 = .ok (.iconst 0, 1) := by decide +kernel
theorem dX6_push_144 : decode cX6_push 144 = .ok (.putfield 79, 3) := by decide +kernel
theorem dX6_push_147 : decode cX6_push 147 = .ok (.aload 5, 2) := by decide +kernel
theorem dX6_push_149 : decode cX6_push 149 = .ok (.aload_n 0, 1) := by decide +kernel
theorem dX6_push_150 : decode cX6_push 150 = .ok (.getfield 28, 3) := by decide +kernel
theorem dX6_push_153 : decode cX6_push 153 = .ok (.putfield 82, 3) := by decide +kernel
theorem dX6_push_156 : decode cX6_push 156 = .ok (.aload 5, 2) := by decide +kernel
theorem dX6_push_158 : decode cX6_push 158 = .ok (.areturn, 1) := by decide +kernel
theorem dX6_pop_0 : decode cX6_pop 0 = .ok (.aload_n 0, 1) := by decide +kernel
theorem dX6_pop_1 : decode cX6_pop 1 = .ok (.iconst 0, 1) := by decide +kernel
theorem dX6_pop_2 : decode cX6_pop 2 = .ok (.aload_n 0, 1) := by decide +kernel
theorem dX6_pop_3 : decode cX6_pop 3 = .ok (.getfield 21, 3) := by decide +kernel
theorem dX6_pop_6 : decode cX6_pop 6 = .ok (.iconst 1, 1) := by decide +kernel
theorem dX6_pop_7 : decode cX6_pop 7 = .ok (.isub, 1) := by decide +kernel
theorem dX6_pop_8 : decode cX6_pop 8 = .ok (.invokestatic 85, 3) := by decide +kernel
theorem dX6_pop_11 : decode cX6_pop 11 = .ok (.putfield 21, 3) := by decide +kernel
theorem dX6_pop_14 : decode cX6_pop 14 = .ok (.return_, 1) := by decide +kernel
theorem dX6_row_0 : decode cX6_row 0 = .ok (.iload_n 1, 1) := by decide +kernel
theorem dX6_row_1 : decode cX6_row 1 = .ok (.ifCond .lt 29, 3) := by decide +kernel
theorem dX6_row_4 : decode cX6_row 4 = .ok (.iload_n 1, 1) := by decide +kernel
theorem dX6_row_5 : decode cX6_row 5 = .ok (.aload_n 0, 1) := by decide +kernel
theorem dX6_row_6 : decode cX6_row 6 = .ok (.getfield 21, 3) := by decide +kernel
theorem dX6_row_9 : decode cX6_row 9 = .ok (.if_icmp .ge 21, 3) := by decide +kernel
theorem dX6_row_12 : decode cX6_row 12 = .ok (.iload_n 1, 1) := by decide +kernel
theorem dX6_row_13 : decode cX6_row 13 = .ok (.aload_n 0, 1) := by decide +kernel
theorem dX6_row_14 : decode cX6_row 14 = .ok (.getfield 11, 3) := by decide +kernel
theorem dX6_row_17 : decode cX6_row 17 = .ok (.arraylength, 1) := by decide +kernel
theorem dX6_row_18 : decode cX6_row 18 = .ok (.if_icmp .ge 12, 3) := by decide +kernel
theorem dX6_row_21 : decode cX6_row 21 = .ok (.aload_n 0, 1) := by decide +kernel
theorem dX6_row_22 : decode cX6_row 22 = .ok (.getfield 11, 3) := by decide +kernel
theorem dX6_row_25 : decode cX6_row 25 = .ok (.iload_n 1, 1) := by decide +kernel
theorem dX6_row_26 : decode cX6_row 26 = .ok (.aaload, 1) := by decide +kernel
theorem dX6_row_27 : decode cX6_row 27 = .ok (.goto 4, 3) := by decide +kernel
theorem dX6_row_30 : decode cX6_row 30 = .ok (.aconst_null, 1) := by decide +kernel
theorem dX6_row_31 : decode cX6_row 31 = .ok (.areturn, 1) := by decide +kernel
theorem dX6_nearest_0 : decode cX6_nearest 0 = .ok (.aload_n 0, 1) := by decide +kernel
theorem dX6_nearest_1 : decode cX6_nearest 1 = .ok (.getfield 21, 3) := by decide +kernel
theorem dX6_nearest_4 : decode cX6_nearest 4 = .ok (.iconst 1, 1) := by decide +kernel
theorem dX6_nearest_5 : decode cX6_nearest 5 = .ok (.isub, 1) := by decide +kernel
theorem dX6_nearest_6 : decode cX6_nearest 6 = .ok (.istore_n 2, 1) := by decide +kernel
theorem dX6_nearest_7 : decode cX6_nearest 7 = .ok (.iload_n 2, 1) := by decide +kernel
theorem dX6_nearest_8 : decode cX6_nearest 8 = .ok (.aload_n 0, 1) := by decide +kernel
theorem dX6_nearest_9 : decode cX6_nearest 9 = .ok (.getfield 31, 3) := by decide +kernel
theorem dX6_nearest_12 : decode cX6_nearest 12 = .ok (.if_icmp .le 42, 3) := by decide +kernel
theorem dX6_nearest_15 : decode cX6_nearest 15 = .ok (.aload_n 0, 1) := by decide +kernel
theorem dX6_nearest_16 : decode cX6_nearest 16 = .ok (.iload_n 2, 1) := by decide +kernel
theorem dX6_nearest_17 : decode cX6_nearest 17 = .ok (.invokevirtual 88, 3) := by decide +kernel
theorem dX6_nearest_20 : decode cX6_nearest 20 = .ok (.astore_n 3, 1) := by decide +kernel
theorem dX6_nearest_21 : decode cX6_nearest 21 = .ok (.aload_n 3, 1) := by decide +kernel
theorem dX6_nearest_22 : decode cX6_nearest 22 = .ok (.ifnull 26, 3) := by decide +kernel
theorem dX6_nearest_25 : decode cX6_nearest 25 = .ok (.aload_n 3, 1) := by decide +kernel
theorem dX6_nearest_26 : decode cX6_nearest 26 = .ok (.invokevirtual 92, 3) := by decide +kernel
theorem dX6_nearest_29 : decode cX6_nearest 29 = .ok (.ifCond .ne 17, 3) := by decide +kernel
theorem dX6_nearest_32 : decode cX6_nearest 32 = .ok (.iload_n 1, 1) := by decide +kernel
theorem dX6_nearest_33 : decode cX6_nearest 33 = .ok (.ifCond .ne 15, 3) := by decide +kernel
theorem dX6_nearest_36 : decode cX6_nearest 36 = .ok (.aload_n 3, 1) := by decide +kernel
theorem dX6_nearest_37 : decode cX6_nearest 37 = .ok (.getfield 41, 3) := by decide +kernel
theorem dX6_nearest_40 : decode cX6_nearest 40 = .ok (.sipush 218, 3) := by decide +kernel
theorem dX6_nearest_43 : decode cX6_nearest 43 = .ok (.if_icmp .ne 5, 3) := by decide +kernel
theorem dX6_nearest_46 : decode cX6_nearest 46 = .ok (.iload_n 2, 1) := by decide +kernel
theorem dX6_nearest_47 : decode cX6_nearest 47 = .ok (.ireturn, 1) := by decide +kernel
theorem dX6_nearest_48 : decode cX6_nearest 48 = .ok (.iinc 2 (-1), 3) := by decide +kernel
theorem dX6_nearest_51 : decode cX6_nearest 51 = .ok (.goto (-44), 3) := by decide +kernel
theorem dX6_nearest_54 : decode cX6_nearest 54 = .ok (.iconst (-1), 1) := by decide +kernel
theorem dX6_nearest_55 : decode cX6_nearest 55 = .ok (.ireturn, 1) := by decide +kernel
theorem dX6_labelled_0 : decode cX6_labelled 0 = .ok (.aload_n 0, 1) := by decide +kernel
theorem dX6_labelled_1 : decode cX6_labelled 1 = .ok (.getfield 21, 3) := by decide +kernel
theorem dX6_labelled_4 : decode cX6_labelled 4 = .ok (.iconst 1, 1) := by decide +kernel
theorem dX6_labelled_5 : decode cX6_labelled 5 = .ok (.isub, 1) := by decide +kernel
theorem dX6_labelled_6 : decode cX6_labelled 6 = .ok (.istore_n 3, 1) := by decide +kernel
theorem dX6_labelled_7 : decode cX6_labelled 7 = .ok (.iload_n 3, 1) := by decide +kernel
theorem dX6_labelled_8 : decode cX6_labelled 8 = .ok (.aload_n 0, 1) := by decide +kernel
theorem dX6_labelled_9 : decode cX6_labelled 9 = .ok (.getfield 31, 3) := by decide +kernel
theorem dX6_labelled_12 : decode cX6_labelled 12 = .ok (.if_icmp .le 44, 3) := by decide +kernel
end
