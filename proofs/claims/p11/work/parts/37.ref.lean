theorem k_X12_run_fieldLink_RX12_273_SRModel_thrown_I : Cond.fieldLink RX12 273 "StatementRules2Model" "thrown" "I" ∈ wzX12_run := List.mem_cons_of_mem _ (List.mem_append_left _ (List.mem_of_getElem? (i := 0) rfl))
theorem i_X12_run_X12 : ∀ w ∈ wsX120, w ∈ wzX12_run := fun _ h => List.mem_cons_of_mem _ (List.mem_append_right _ (List.mem_append_left _ (h)))
theorem k_X12_run_fieldLink_RX12_577_SRModel_hasProgram_Z : Cond.fieldLink RX12 577 "StatementRules2Model" "hasProgram" "Z" ∈ wzX12_run := List.mem_cons_of_mem _ (List.mem_append_left _ (List.mem_of_getElem? (i := 1) rfl))
theorem k_X12_run_fieldLink_RX12_213_SRModel_vals_I : Cond.fieldLink RX12 213 "StatementRules2Model" "vals" "[I" ∈ wzX12_run := List.mem_cons_of_mem _ (List.mem_append_left _ (List.mem_of_getElem? (i := 2) rfl))
theorem k_X12_run_fieldLink_RX12_639_SRModel_steps_I : Cond.fieldLink RX12 639 "StatementRules2Model" "steps" "I" ∈ wzX12_run := List.mem_cons_of_mem _ (List.mem_append_left _ (List.mem_of_getElem? (i := 3) rfl))
theorem k_X12_run_fieldLink_RX12_583_SRModel_rowMany_I : Cond.fieldLink RX12 583 "StatementRules2Model" "rowMany" "I" ∈ wzX12_run := List.mem_cons_of_mem _ (List.mem_append_left _ (List.mem_of_getElem? (i := 4) rfl))
theorem k_X12_run_fieldLink_RX12_592_SRModel_things_I : Cond.fieldLink RX12 592 "StatementRules2Model" "things" "I" ∈ wzX12_run := List.mem_cons_of_mem _ (List.mem_append_left _ (List.mem_of_getElem? (i := 5) rfl))
theorem k_X12_run_fieldLink_RX12_600_SRModel_openMany_I : Cond.fieldLink RX12 600 "StatementRules2Model" "openMany" "I" ∈ wzX12_run := List.mem_cons_of_mem _ (List.mem_append_left _ (List.mem_of_getElem? (i := 6) rfl))
theorem k_X12_run_fieldLink_RX12_621_SRModel_waiting_I : Cond.fieldLink RX12 621 "StatementRules2Model" "waiting" "I" ∈ wzX12_run := List.mem_cons_of_mem _ (List.mem_append_left _ (List.mem_of_getElem? (i := 7) rfl))
theorem k_X12_run_fieldLink_RX12_586_SRModel_recs_I : Cond.fieldLink RX12 586 "StatementRules2Model" "recs" "I" ∈ wzX12_run := List.mem_cons_of_mem _ (List.mem_append_left _ (List.mem_of_getElem? (i := 8) rfl))
theorem k_X12_run_fieldLink_RX12_589_SRModel_high_I : Cond.fieldLink RX12 589 "StatementRules2Model" "high" "I" ∈ wzX12_run := List.mem_cons_of_mem _ (List.mem_append_left _ (List.mem_of_getElem? (i := 9) rfl))
theorem k_X12_run_fieldLink_RX12_580_SRModel_hasRun_Z : Cond.fieldLink RX12 580 "StatementRules2Model" "hasRun" "Z" ∈ wzX12_run := List.mem_cons_of_mem _ (List.mem_append_left _ (List.mem_of_getElem? (i := 10) rfl))
theorem k_X12_run_fieldLink_RX12_636_SRModel_ended_I : Cond.fieldLink RX12 636 "StatementRules2Model" "ended" "I" ∈ wzX12_run := List.mem_cons_of_mem _ (List.mem_append_left _ (List.mem_of_getElem? (i := 11) rfl))
theorem k_X12_run_fieldLink_RX12_618_SRModel_pc_I : Cond.fieldLink RX12 618 "StatementRules2Model" "pc" "I" ∈ wzX12_run := List.mem_cons_of_mem _ (List.mem_append_left _ (List.mem_of_getElem? (i := 12) rfl))
theorem k_X12_run_fieldLink_RX12_358_SRModel_codes_I : Cond.fieldLink RX12 358 "StatementRules2Model" "codes" "I" ∈ wzX12_run := List.mem_cons_of_mem _ (List.mem_append_left _ (List.mem_of_getElem? (i := 13) rfl))
theorem k_X12_run_fieldLink_RX12_231_SRModel_held_I : Cond.fieldLink RX12 231 "StatementRules2Model" "held" "[I" ∈ wzX12_run := List.mem_cons_of_mem _ (List.mem_append_left _ (List.mem_of_getElem? (i := 14) rfl))
set_option maxHeartbeats 4000000 in
set_option maxRecDepth 100000 in
theorem j_X12_run_163 {p : Program} {e : Env} {s : State} {m : MethodId} {args : Array Value} {below : List Frame} {meth : Method} {c : Code} {A : Nat → Prop} (l : Launch) (dC : Nat → ClassId) (dI : Nat → Nat → Nat) (Q : RQ) (N : Nat) (R : Int32 × RS) (hx : p.tables.exec = Jvm.exec) (hb : c.code = cX12_run) (hr : meth.sig.returnType = (some .int)) (hml : c.maxLocals = 4) (hown : s.vm.findClass RX12 = some m.cls) (hts : ∀ w ∈ wzX12_run, w.before args s = true) (hlocks : meth.locks = false) (hZ : zAMB s) (hA : ∀ q : Nat, s.heap.size ≤ q → A q) (hK : va_K (dC, dI) vwCl (rT Q) s) : ∀ (σ : RS) (H : Heap) (locs : List Loc) (ls : Array Slot), f_X12_run_163 N σ = some R → va_P (dC, dI) vwCl (rW Q σ) H → va_D A (rW Q σ) → va_S A s.heap H locs → lv_has ls 4 [(0, .ref Q.h0)] → W p l e ({ frames := 7, cells := 0, slots := 0, locals := 420 }) s m args below meth c H locs 0 0 (MQ below (va_Qi (fun (r : Int32) (_ : Unit) => r = R.1) (fun (_ : Unit) (t : State) => zPost dC dI A (rW Q R.2) (rT Q) t) A) args s 0 0 A) (F0 m 163 ls []) := by
  intro σ  H locs ls hf hP hD hS hl
  unfold f_X12_run_163 at hf
  refine lv_aload_n hx hb dX12_run_163 rfl (lv_at hl 0 rfl) ?_
  refine rG_115 (v := (σ.i 115)) hx hb hts i_X12_run_X12 hown hK hP (hts (.fieldLink RX12 636 "StatementRules2Model" "ended" "I") k_X12_run_fieldLink_RX12_636_SRModel_ended_I) dX12_run_164 rfl ?_
  refine lv_iconst (v := 2) hx hb dX12_run_167 (by decide) ?_
  refine lv_icmp_ne (tgt := 175) hx hb dX12_run_168 (by decide) (fun c5 => ?_) (fun c5 => ?_)
  ·
    replace hf := (if_neg c5).symm.trans hf
    refine lv_aload_n hx hb dX12_run_175 rfl (lv_at hl 0 rfl) ?_
    refine rG_115 (v := (σ.i 115)) hx hb hts i_X12_run_X12 hown hK hP (hts (.fieldLink RX12 636 "StatementRules2Model" "ended" "I") k_X12_run_fieldLink_RX12_636_SRModel_ended_I) dX12_run_176 rfl ?_
    refine lv_iconst (v := 3) hx hb dX12_run_179 (by decide) ?_
    refine lv_icmp_ne (tgt := 187) hx hb dX12_run_180 (by decide) (fun c6 => ?_) (fun c6 => ?_)
    ·
      replace hf := (if_neg c6).symm.trans hf
      refine lv_aload_n hx hb dX12_run_187 rfl (lv_at hl 0 rfl) ?_
      refine rG_115 (v := (σ.i 115)) hx hb hts i_X12_run_X12 hown hK hP (hts (.fieldLink RX12 636 "StatementRules2Model" "ended" "I") k_X12_run_fieldLink_RX12_636_SRModel_ended_I) dX12_run_188 rfl ?_
      refine lv_iconst (v := 5) hx hb dX12_run_191 (by decide) ?_
      refine lv_icmp_ne (tgt := 199) hx hb dX12_run_192 (by decide) (fun c7 => ?_) (fun c7 => ?_)
      ·
        replace hf := (if_neg c7).symm.trans hf
        refine lv_iconst (v := 0) hx hb dX12_run_199 (by decide) ?_
        obtain rfl := Option.some.inj hf
        exact W.iret (v := 0) hx hb hr (fun t ht hW => ⟨⟨0, (), rfl, rfl, by rw [ht]; exact hP, va_K.moved hW.alike hK, hD⟩, hS.F ht⟩) hS.2.2 dX12_run_200
      ·
        replace hf := (if_pos c7).symm.trans hf
        refine lv_iconst (v := 3) hx hb dX12_run_195 (by decide) ?_
        refine lv_goto (tgt := 200) hx hb dX12_run_196 (by decide) ?_
        obtain rfl := Option.some.inj hf
        exact W.iret (v := 3) hx hb hr (fun t ht hW => ⟨⟨3, (), rfl, rfl, by rw [ht]; exact hP, va_K.moved hW.alike hK, hD⟩, hS.F ht⟩) hS.2.2 dX12_run_200
    ·
      replace hf := (if_pos c6).symm.trans hf
      refine lv_iconst (v := 2) hx hb dX12_run_183 (by decide) ?_
      refine lv_goto (tgt := 200) hx hb dX12_run_184 (by decide) ?_
      obtain rfl := Option.some.inj hf
      exact W.iret (v := 2) hx hb hr (fun t ht hW => ⟨⟨2, (), rfl, rfl, by rw [ht]; exact hP, va_K.moved hW.alike hK, hD⟩, hS.F ht⟩) hS.2.2 dX12_run_200
  ·
    replace hf := (if_pos c5).symm.trans hf
    refine lv_iconst (v := 1) hx hb dX12_run_171 (by decide) ?_
    refine lv_goto (tgt := 200) hx hb dX12_run_172 (by decide) ?_
    obtain rfl := Option.some.inj hf
    exact W.iret (v := 1) hx hb hr (fun t ht hW => ⟨⟨1, (), rfl, rfl, by rw [ht]; exact hP, va_K.moved hW.alike hK, hD⟩, hS.F ht⟩) hS.2.2 dX12_run_200
set_option maxHeartbeats 4000000 in
set_option maxRecDepth 100000 in
theorem j_X12_run_122 {p : Program} {e : Env} {s : State} {m : MethodId} {args : Array Value} {below : List Frame} {meth : Method} {c : Code} {A : Nat → Prop} (l : Launch) (dC : Nat → ClassId) (dI : Nat → Nat → Nat) (Q : RQ) (N : Nat) (R : Int32 × RS) (hx : p.tables.exec = Jvm.exec) (hb : c.code = cX12_run) (hr : meth.sig.returnType = (some .int)) (hml : c.maxLocals = 4) (hown : s.vm.findClass RX12 = some m.cls) (hts : ∀ w ∈ wzX12_run, w.before args s = true) (hlocks : meth.locks = false) (hZ : zAMB s) (hA : ∀ q : Nat, s.heap.size ≤ q → A q) (hK : va_K (dC, dI) vwCl (rT Q) s) : ∀ (n9 : Nat), ∀ (σ : RS) (H : Heap) (locs : List Loc) (ls : Array Slot), f_X12_run_122 N n9 σ = some R → va_P (dC, dI) vwCl (rW Q σ) H → va_D A (rW Q σ) → va_S A s.heap H locs → lv_has ls 4 [(0, .ref Q.h0)] → W p l e ({ frames := 7, cells := 0, slots := 0, locals := 420 }) s m args below meth c H locs 0 0 (MQ below (va_Qi (fun (r : Int32) (_ : Unit) => r = R.1) (fun (_ : Unit) (t : State) => zPost dC dI A (rW Q R.2) (rT Q) t) A) args s 0 0 A) (F0 m 122 ls []) := by
  intro n9
  induction n9 with
  | zero => intro σ  H locs ls hf; exact absurd hf (by intro h9; cases h9)
  | succ n9 ih =>
    intro σ  H locs ls hf hP hD hS hl
    replace hf : b_X12_run_122 N (f_X12_run_122 N n9) σ  = some R := hf
    unfold b_X12_run_122 at hf
    refine lv_aload_n hx hb dX12_run_122 rfl (lv_at hl 0 rfl) ?_
    refine rG_92 (v := (σ.i 92)) hx hb hts i_X12_run_X12 hown hK hP (hts (.fieldLink RX12 618 "StatementRules2Model" "pc" "I") k_X12_run_fieldLink_RX12_618_SRModel_pc_I) dX12_run_123 rfl ?_
    refine lv_if_lt (tgt := 163) hx hb dX12_run_126 (by decide) (fun c4 => ?_) (fun c4 => ?_)
    ·
      replace hf := (if_pos c4).symm.trans hf
      exact j_X12_run_163 l dC dI Q N R hx hb hr hml hown hts hlocks hZ hA hK σ _ _ _ hf hP hD hS (lv_sub hl [0] rfl)
    ·
      replace hf := (if_neg c4).symm.trans hf
      refine lv_aload_n hx hb dX12_run_129 rfl (lv_at hl 0 rfl) ?_
      refine rG_92 (v := (σ.i 92)) hx hb hts i_X12_run_X12 hown hK hP (hts (.fieldLink RX12 618 "StatementRules2Model" "pc" "I") k_X12_run_fieldLink_RX12_618_SRModel_pc_I) dX12_run_130 rfl ?_
      refine lv_aload_n hx hb dX12_run_133 rfl (lv_at hl 0 rfl) ?_
      refine rG_20 (v := (σ.i 20)) hx hb hts i_X12_run_X12 hown hK hP (hts (.fieldLink RX12 358 "StatementRules2Model" "codes" "I") k_X12_run_fieldLink_RX12_358_SRModel_codes_I) dX12_run_134 rfl ?_
      refine lv_icmp_ge (tgt := 163) hx hb dX12_run_137 (by decide) (fun c8 => ?_) (fun c8 => ?_)
      ·
        replace hf := (if_pos c8).symm.trans hf
        exact j_X12_run_163 l dC dI Q N R hx hb hr hml hown hts hlocks hZ hA hK σ _ _ _ hf hP hD hS (lv_sub hl [0] rfl)
      ·
        replace hf := (if_neg c8).symm.trans hf
        refine lv_aload_n hx hb dX12_run_140 rfl (lv_at hl 0 rfl) ?_
        refine rG_92 (v := (σ.i 92)) hx hb hts i_X12_run_X12 hown hK hP (hts (.fieldLink RX12 618 "StatementRules2Model" "pc" "I") k_X12_run_fieldLink_RX12_618_SRModel_pc_I) dX12_run_141 rfl ?_
        refine lv_istore_n (lv' := [(3, .int (σ.i 92)), (0, .ref Q.h0)]) hx hb dX12_run_144 rfl hl (by decide) rfl (fun ls hl => ?_)
        refine lv_aload_n hx hb dX12_run_145 rfl (lv_at hl 1 rfl) ?_
        refine lv_dup hx hb dX12_run_146 rfl ?_
        refine rG_92 (v := (σ.i 92)) hx hb hts i_X12_run_X12 hown hK hP (hts (.fieldLink RX12 618 "StatementRules2Model" "pc" "I") k_X12_run_fieldLink_RX12_618_SRModel_pc_I) dX12_run_147 rfl ?_
        refine lv_iconst (v := 1) hx hb dX12_run_150 (by decide) ?_
        refine lv_iadd hx hb dX12_run_151 ?_
        refine rP_92 hx hb hts i_X12_run_X12 hown hK hP hD hS (hts (.fieldLink RX12 618 "StatementRules2Model" "pc" "I") k_X12_run_fieldLink_RX12_618_SRModel_pc_I) dX12_run_152 (fun H locs hP hD hS => ?_)
        refine lv_aload_n hx hb dX12_run_155 rfl (lv_at hl 1 rfl) ?_
        refine lv_iload_n hx hb dX12_run_156 rfl (lv_at hl 0 rfl) ?_
        obtain ⟨p9, hcp9, hf⟩ := hf_bind hf
        have hFc := r_free hD hS hA
        refine va_callv (va_runV (As := [.int (σ.i 92)]) (rest := []) ⟨hx, hb, hml, hown, hts⟩ (c_X12_act l dC dI _ Q N (RS.setI σ 92 ((σ.i 92) + 1)) (σ.i 92) p9 hcp9) (cwV 1 hts hX12_run_X12_act_v671 rfl rfl rfl (by decide +kernel) ⟨Nat.le_of_ble_eq_true rfl, Nat.le_of_ble_eq_true rfl⟩) ⟨zPre.blind, va_recv hK hP (ci := 11) (q0 := 0) rfl rfl, zPre.go hZ hP hK hD⟩ rfl rfl hl.1 rfl (lv_room (Nat.le_of_ble_eq_true rfl)) dX12_run_157 ⟨Nat.le_of_ble_eq_true rfl, Nat.le_of_ble_eq_true rfl⟩) hS (fun q _ h => hFc q h) hFc (fun u9 t9 H1 locs ht hvm hw hB hz1 hk1 hS => ?_)
        obtain ⟨hP, hK1, hD1⟩ := hB
        rw [ht] at hP
        have hD := hD1.weaken (fun _ _ _ h => hFc _ h)
        generalize H1 = H at hP hS ⊢
        refine lv_goto (tgt := 122) hx hb dX12_run_160 (by decide) ?_
        exact ih p9 _ _ _ hf hP hD hS (lv_sub hl [1] rfl)
set_option maxHeartbeats 4000000 in
set_option maxRecDepth 100000 in
theorem j_X12_run_39 {p : Program} {e : Env} {s : State} {m : MethodId} {args : Array Value} {below : List Frame} {meth : Method} {c : Code} {A : Nat → Prop} (l : Launch) (dC : Nat → ClassId) (dI : Nat → Nat → Nat) (Q : RQ) (N : Nat) (R : Int32 × RS) (hx : p.tables.exec = Jvm.exec) (hb : c.code = cX12_run) (hr : meth.sig.returnType = (some .int)) (hml : c.maxLocals = 4) (hown : s.vm.findClass RX12 = some m.cls) (hts : ∀ w ∈ wzX12_run, w.before args s = true) (hlocks : meth.locks = false) (hZ : zAMB s) (hA : ∀ q : Nat, s.heap.size ≤ q → A q) (hK : va_K (dC, dI) vwCl (rT Q) s) : ∀ (n9 : Nat), ∀ (σ : RS) (x1 : Int32) (x2 : Int32) (x3 : Int32) (H : Heap) (locs : List Loc) (ls : Array Slot), f_X12_run_39 N n9 σ x1 x2 x3 = some R → va_P (dC, dI) vwCl (rW Q σ) H → va_D A (rW Q σ) → va_S A s.heap H locs → lv_has ls 4 [(0, .ref Q.h0), (1, .int x1), (2, .int x2), (3, .int x3)] → W p l e ({ frames := 7, cells := 0, slots := 0, locals := 420 }) s m args below meth c H locs 0 0 (MQ below (va_Qi (fun (r : Int32) (_ : Unit) => r = R.1) (fun (_ : Unit) (t : State) => zPost dC dI A (rW Q R.2) (rT Q) t) A) args s 0 0 A) (F0 m 39 ls []) := by
  intro n9
  induction n9 with
  | zero => intro σ x1 x2 x3 H locs ls hf; exact absurd hf (by intro h9; cases h9)
  | succ n9 ih =>
    intro σ x1 x2 x3 H locs ls hf hP hD hS hl
    replace hf : b_X12_run_39 N (f_X12_run_39 N n9) σ x1 x2 x3 = some R := hf
    unfold b_X12_run_39 at hf
    refine lv_iload_n hx hb dX12_run_39 rfl (lv_at hl 3 rfl) ?_
    refine lv_bipush (v := 8) hx hb dX12_run_40 (by decide) ?_
    refine lv_icmp_ge (tgt := 58) hx hb dX12_run_42 (by decide) (fun c3 => ?_) (fun c3 => ?_)
    ·
      replace hf := (if_pos c3).symm.trans hf
      refine lv_aload_n hx hb dX12_run_58 rfl (lv_at hl 0 rfl) ?_
      refine rG_84 hx hb hts i_X12_run_X12 hown hK hP (hts (.fieldLink RX12 213 "StatementRules2Model" "vals" "[I") k_X12_run_fieldLink_RX12_213_SRModel_vals_I) dX12_run_59 ?_
      refine lv_iconst (v := 0) hx hb dX12_run_62 (by decide) ?_
      refine lv_iload_n hx hb dX12_run_63 rfl (lv_at hl 1 rfl) ?_
      refine rS_84 hx hb hK hP hD hS (by decide) dX12_run_64 (fun H locs hP hD hS => ?_)
      refine lv_aload_n hx hb dX12_run_65 rfl (lv_at hl 0 rfl) ?_
      refine rG_84 hx hb hts i_X12_run_X12 hown hK hP (hts (.fieldLink RX12 213 "StatementRules2Model" "vals" "[I") k_X12_run_fieldLink_RX12_213_SRModel_vals_I) dX12_run_66 ?_
      refine lv_iconst (v := 1) hx hb dX12_run_69 (by decide) ?_
      refine lv_iload_n hx hb dX12_run_70 rfl (lv_at hl 2 rfl) ?_
      refine rS_84 hx hb hK hP hD hS (by decide) dX12_run_71 (fun H locs hP hD hS => ?_)
      refine lv_aload_n hx hb dX12_run_72 rfl (lv_at hl 0 rfl) ?_
      refine lv_iconst (v := 0) hx hb dX12_run_73 (by decide) ?_
      refine rP_80 hx hb hts i_X12_run_X12 hown hK hP hD hS (hts (.fieldLink RX12 639 "StatementRules2Model" "steps" "I") k_X12_run_fieldLink_RX12_639_SRModel_steps_I) dX12_run_74 (fun H locs hP hD hS => ?_)
      refine lv_aload_n hx hb dX12_run_77 rfl (lv_at hl 0 rfl) ?_
      refine lv_iconst (v := 0) hx hb dX12_run_78 (by decide) ?_
      refine rP_81 hx hb hts i_X12_run_X12 hown hK hP hD hS (hts (.fieldLink RX12 583 "StatementRules2Model" "rowMany" "I") k_X12_run_fieldLink_RX12_583_SRModel_rowMany_I) dX12_run_79 (fun H locs hP hD hS => ?_)
      refine lv_aload_n hx hb dX12_run_82 rfl (lv_at hl 0 rfl) ?_
      refine lv_iconst (v := 0) hx hb dX12_run_83 (by decide) ?_
      refine rP_85 hx hb hts i_X12_run_X12 hown hK hP hD hS (hts (.fieldLink RX12 592 "StatementRules2Model" "things" "I") k_X12_run_fieldLink_RX12_592_SRModel_things_I) dX12_run_84 (fun H locs hP hD hS => ?_)
      refine lv_aload_n hx hb dX12_run_87 rfl (lv_at hl 0 rfl) ?_
      refine lv_iconst (v := 0) hx hb dX12_run_88 (by decide) ?_
      refine rP_95 hx hb hts i_X12_run_X12 hown hK hP hD hS (hts (.fieldLink RX12 600 "StatementRules2Model" "openMany" "I") k_X12_run_fieldLink_RX12_600_SRModel_openMany_I) dX12_run_89 (fun H locs hP hD hS => ?_)
      refine lv_aload_n hx hb dX12_run_92 rfl (lv_at hl 0 rfl) ?_
      refine lv_iconst (v := 0) hx hb dX12_run_93 (by decide) ?_
      refine rP_97 hx hb hts i_X12_run_X12 hown hK hP hD hS (hts (.fieldLink RX12 621 "StatementRules2Model" "waiting" "I") k_X12_run_fieldLink_RX12_621_SRModel_waiting_I) dX12_run_94 (fun H locs hP hD hS => ?_)
      refine lv_aload_n hx hb dX12_run_97 rfl (lv_at hl 0 rfl) ?_
      refine lv_iconst (v := 0) hx hb dX12_run_98 (by decide) ?_
      refine rP_99 hx hb hts i_X12_run_X12 hown hK hP hD hS (hts (.fieldLink RX12 586 "StatementRules2Model" "recs" "I") k_X12_run_fieldLink_RX12_586_SRModel_recs_I) dX12_run_99 (fun H locs hP hD hS => ?_)
      refine lv_aload_n hx hb dX12_run_102 rfl (lv_at hl 0 rfl) ?_
      refine lv_iconst (v := 0) hx hb dX12_run_103 (by decide) ?_
      refine rP_93 hx hb hts i_X12_run_X12 hown hK hP hD hS (hts (.fieldLink RX12 589 "StatementRules2Model" "high" "I") k_X12_run_fieldLink_RX12_589_SRModel_high_I) dX12_run_104 (fun H locs hP hD hS => ?_)
      refine lv_aload_n hx hb dX12_run_107 rfl (lv_at hl 0 rfl) ?_
      refine lv_iconst (v := 1) hx hb dX12_run_108 (by decide) ?_
      refine rP_79 hx hb hts i_X12_run_X12 hown hK hP hD hS (hts (.fieldLink RX12 580 "StatementRules2Model" "hasRun" "Z") k_X12_run_fieldLink_RX12_580_SRModel_hasRun_Z) dX12_run_109 (by decide) (fun H locs hP hD hS => ?_)
      refine lv_aload_n hx hb dX12_run_112 rfl (lv_at hl 0 rfl) ?_
      refine lv_iconst (v := 0) hx hb dX12_run_113 (by decide) ?_
      refine rP_115 hx hb hts i_X12_run_X12 hown hK hP hD hS (hts (.fieldLink RX12 636 "StatementRules2Model" "ended" "I") k_X12_run_fieldLink_RX12_636_SRModel_ended_I) dX12_run_114 (fun H locs hP hD hS => ?_)
      refine lv_aload_n hx hb dX12_run_117 rfl (lv_at hl 0 rfl) ?_
      refine lv_iconst (v := 0) hx hb dX12_run_118 (by decide) ?_
      refine rP_92 hx hb hts i_X12_run_X12 hown hK hP hD hS (hts (.fieldLink RX12 618 "StatementRules2Model" "pc" "I") k_X12_run_fieldLink_RX12_618_SRModel_pc_I) dX12_run_119 (fun H locs hP hD hS => ?_)
      exact j_X12_run_122 l dC dI Q N R hx hb hr hml hown hts hlocks hZ hA hK N (RS.setI (RS.setI (RS.setI (RS.setI (RS.setI (RS.setI (RS.setI (RS.setI (RS.setI (RS.setI (RS.setA (RS.setA σ 84 ((0 : Int32).toNatClampNeg) x1) 84 ((1 : Int32).toNatClampNeg) x2) 80 0) 81 0) 85 0) 95 0) 97 0) 99 0) 93 0) 79 1) 115 0) 92 0) _ _ _ hf hP hD hS (lv_sub hl [0] rfl)
    ·
      replace hf := (if_neg c3).symm.trans hf
      refine lv_aload_n hx hb dX12_run_45 rfl (lv_at hl 0 rfl) ?_
      refine rG_91 hx hb hts i_X12_run_X12 hown hK hP (hts (.fieldLink RX12 231 "StatementRules2Model" "held" "[I") k_X12_run_fieldLink_RX12_231_SRModel_held_I) dX12_run_46 ?_
      refine lv_iload_n hx hb dX12_run_49 rfl (lv_at hl 3 rfl) ?_
      refine lv_iconst (v := 0) hx hb dX12_run_50 (by decide) ?_
      obtain ⟨b11, hf⟩ := hf_ite hf
      refine rS_91 hx hb hK hP hD hS b11 dX12_run_51 (fun H locs hP hD hS => ?_)
      refine lv_iinc (v := (x3 + 1)) (lv' := [(3, .int (x3 + 1)), (0, .ref Q.h0), (1, .int x1), (2, .int x2)]) hx hb dX12_run_52 hl (k := 3) rfl rfl (by decide) rfl (fun ls hl => ?_)
      refine lv_goto (tgt := 39) hx hb dX12_run_55 (by decide) ?_
      exact ih (RS.setA σ 91 ((x3 : Int32).toNatClampNeg) 0) x1 x2 (x3 + 1) _ _ _ hf hP hD hS (lv_sub hl [1, 2, 3, 0] rfl)
set_option maxHeartbeats 4000000 in
set_option maxRecDepth 100000 in
theorem j_X12_run_17 {p : Program} {e : Env} {s : State} {m : MethodId} {args : Array Value} {below : List Frame} {meth : Method} {c : Code} {A : Nat → Prop} (l : Launch) (dC : Nat → ClassId) (dI : Nat → Nat → Nat) (Q : RQ) (N : Nat) (R : Int32 × RS) (hx : p.tables.exec = Jvm.exec) (hb : c.code = cX12_run) (hr : meth.sig.returnType = (some .int)) (hml : c.maxLocals = 4) (hown : s.vm.findClass RX12 = some m.cls) (hts : ∀ w ∈ wzX12_run, w.before args s = true) (hlocks : meth.locks = false) (hZ : zAMB s) (hA : ∀ q : Nat, s.heap.size ≤ q → A q) (hK : va_K (dC, dI) vwCl (rT Q) s) : ∀ (n9 : Nat), ∀ (σ : RS) (x1 : Int32) (x2 : Int32) (x3 : Int32) (H : Heap) (locs : List Loc) (ls : Array Slot), f_X12_run_17 N n9 σ x1 x2 x3 = some R → va_P (dC, dI) vwCl (rW Q σ) H → va_D A (rW Q σ) → va_S A s.heap H locs → lv_has ls 4 [(0, .ref Q.h0), (1, .int x1), (2, .int x2), (3, .int x3)] → W p l e ({ frames := 7, cells := 0, slots := 0, locals := 420 }) s m args below meth c H locs 0 0 (MQ below (va_Qi (fun (r : Int32) (_ : Unit) => r = R.1) (fun (_ : Unit) (t : State) => zPost dC dI A (rW Q R.2) (rT Q) t) A) args s 0 0 A) (F0 m 17 ls []) := by
  intro n9
  induction n9 with
  | zero => intro σ x1 x2 x3 H locs ls hf; exact absurd hf (by intro h9; cases h9)
  | succ n9 ih =>
    intro σ x1 x2 x3 H locs ls hf hP hD hS hl
    replace hf : b_X12_run_17 N (f_X12_run_17 N n9) σ x1 x2 x3 = some R := hf
    unfold b_X12_run_17 at hf
    refine lv_iload_n hx hb dX12_run_17 rfl (lv_at hl 3 rfl) ?_
    refine lv_sipush (v := 460) hx hb dX12_run_18 (by decide) ?_
    refine lv_icmp_ge (tgt := 37) hx hb dX12_run_21 (by decide) (fun c2 => ?_) (fun c2 => ?_)
    ·
      replace hf := (if_pos c2).symm.trans hf
      refine lv_iconst (v := 0) hx hb dX12_run_37 (by decide) ?_
      refine lv_istore_n (lv' := [(3, .int 0), (0, .ref Q.h0), (1, .int x1), (2, .int x2)]) hx hb dX12_run_38 rfl hl (by decide) rfl (fun ls hl => ?_)
      exact j_X12_run_39 l dC dI Q N R hx hb hr hml hown hts hlocks hZ hA hK N σ x1 x2 0 _ _ _ hf hP hD hS (lv_sub hl [1, 2, 3, 0] rfl)
    ·
      replace hf := (if_neg c2).symm.trans hf
      refine lv_aload_n hx hb dX12_run_24 rfl (lv_at hl 0 rfl) ?_
      refine rG_84 hx hb hts i_X12_run_X12 hown hK hP (hts (.fieldLink RX12 213 "StatementRules2Model" "vals" "[I") k_X12_run_fieldLink_RX12_213_SRModel_vals_I) dX12_run_25 ?_
      refine lv_iload_n hx hb dX12_run_28 rfl (lv_at hl 3 rfl) ?_
      refine lv_iconst (v := 0) hx hb dX12_run_29 (by decide) ?_
      obtain ⟨b12, hf⟩ := hf_ite hf
      refine rS_84 hx hb hK hP hD hS b12 dX12_run_30 (fun H locs hP hD hS => ?_)
      refine lv_iinc (v := (x3 + 1)) (lv' := [(3, .int (x3 + 1)), (0, .ref Q.h0), (1, .int x1), (2, .int x2)]) hx hb dX12_run_31 hl (k := 3) rfl rfl (by decide) rfl (fun ls hl => ?_)
      refine lv_goto (tgt := 17) hx hb dX12_run_34 (by decide) ?_
      exact ih (RS.setA σ 84 ((x3 : Int32).toNatClampNeg) 0) x1 x2 (x3 + 1) _ _ _ hf hP hD hS (lv_sub hl [1, 2, 3, 0] rfl)
set_option maxHeartbeats 4000000 in
set_option maxRecDepth 100000 in
theorem c_X12_run (l : Launch) (dC : Nat → ClassId) (dI : Nat → Nat → Nat) (sz : Nat) (Q : RQ) (N : Nat) (σ : RS) (x1 : Int32) (x2 : Int32) (R : Int32 × RS) (hf : f_X12_run N σ x1 x2 = some R) : Met l yX12_run wzX12_run ({ frames := 7, cells := 0, slots := 0, locals := 420 }) (va_Pc [.ref Q.h0, .int x1, .int x2] (zPre dC dI sz (rW Q σ) (rT Q))) (va_Qi (fun (r : Int32) (_ : Unit) => r = R.1) (fun (_ : Unit) (t : State) => zPost dC dI (va_A (rW Q σ) sz) (rW Q R.2) (rT Q) t) (va_A (rW Q σ) sz)) 0 0 (va_A (rW Q σ) sz) := by
  refine Met.ofW (cc := cX12_run) (maxL := 4) (ret := (some .int)) (by decide) rfl ?_
  intro p e s m args below meth c s₁ B hml hv
  obtain ⟨rfl, hsz, hZ, hP, hK, hD0⟩ := hv
  have hx := B.exec
  have hb := B.bytes
  have hr := B.returns
  have hts := atoms_spec (ws := wzX12_run) B.pre
  have hown : s.vm.findClass RX12 = some m.cls := findClass_of_methodNamed B.named
  have hlocks := B.notSynchronized
  subst hsz
  have hD := hD0.self (sz := s.heap.size)
  generalize hAe : va_A (rW Q σ) s.heap.size = A at hD ⊢
  have hA : ∀ q : Nat, s.heap.size ≤ q → A q := fun q h => by rw [← hAe]; exact Or.inr h
  have hS : va_S A s.heap s.heap [] := va_S.rf
  have hl := lv_entry ([.ref Q.h0, .int x1, .int x2]) (n := 4) (Nat.le_of_ble_eq_true rfl)
  rw [lg_entry_eq]
  generalize (lg_sl ([.ref Q.h0, .int x1, .int x2]) ++ List.replicate (4 - (lg_sl ([.ref Q.h0, .int x1, .int x2])).length) Slot.unset).toArray = ls at hl ⊢
  have hl : lv_has ls 4 [(0, .ref Q.h0), (1, .int x1), (2, .int x2)] := hl
  unfold f_X12_run at hf
  refine lv_aload_n hx hb dX12_run_0 rfl (lv_at hl 0 rfl) ?_
  refine lv_iconst (v := 0) hx hb dX12_run_1 (by decide) ?_
  refine rP_0 hx hb hts i_X12_run_X12 hown hK hP hD hS (hts (.fieldLink RX12 273 "StatementRules2Model" "thrown" "I") k_X12_run_fieldLink_RX12_273_SRModel_thrown_I) dX12_run_2 (fun H locs hP hD hS => ?_)
  refine lv_aload_n hx hb dX12_run_5 rfl (lv_at hl 0 rfl) ?_
  refine rG_77 (v := (σ.i 77)) hx hb hts i_X12_run_X12 hown hK hP (hts (.fieldLink RX12 577 "StatementRules2Model" "hasProgram" "Z") k_X12_run_fieldLink_RX12_577_SRModel_hasProgram_Z) dX12_run_6 rfl ?_
  refine lv_if_ne (tgt := 15) hx hb dX12_run_9 (by decide) (fun c1 => ?_) (fun c1 => ?_)
  ·
    replace hf := (if_neg c1).symm.trans hf
    refine lv_iconst (v := 0) hx hb dX12_run_15 (by decide) ?_
    refine lv_istore_n (lv' := [(3, .int 0), (0, .ref Q.h0), (1, .int x1), (2, .int x2)]) hx hb dX12_run_16 rfl hl (by decide) rfl (fun ls hl => ?_)
    exact j_X12_run_17 l dC dI Q N R hx hb hr hml hown hts hlocks hZ hA hK N (RS.setI σ 0 0) x1 x2 0 _ _ _ hf hP hD hS (lv_sub hl [1, 2, 3, 0] rfl)
  ·
    replace hf := (if_pos c1).symm.trans hf
    refine lv_bipush (v := (-3)) hx hb dX12_run_12 (by decide) ?_
    obtain rfl := Option.some.inj hf
    exact W.iret (v := (-3)) hx hb hr (fun t ht hW => ⟨⟨(-3), (), rfl, rfl, by rw [ht]; exact hP, va_K.moved hW.alike hK, hD⟩, hS.F ht⟩) hS.2.2 dX12_run_14
theorem k_X12_ran_fieldLink_RX12_273_SRModel_thrown_I : Cond.fieldLink RX12 273 "StatementRules2Model" "thrown" "I" ∈ wzX12_ran := List.mem_cons_of_mem _ (List.mem_append_left _ (List.mem_of_getElem? (i := 0) rfl))
theorem i_X12_ran_X12 : ∀ w ∈ wsX120, w ∈ wzX12_ran := fun _ h => List.mem_cons_of_mem _ (List.mem_append_right _ (List.mem_append_left _ (h)))
theorem k_X12_ran_fieldLink_RX12_580_SRModel_hasRun_Z : Cond.fieldLink RX12 580 "StatementRules2Model" "hasRun" "Z" ∈ wzX12_ran := List.mem_cons_of_mem _ (List.mem_append_left _ (List.mem_of_getElem? (i := 1) rfl))
theorem k_X12_ran_fieldLink_RX12_636_SRModel_ended_I : Cond.fieldLink RX12 636 "StatementRules2Model" "ended" "I" ∈ wzX12_ran := List.mem_cons_of_mem _ (List.mem_append_left _ (List.mem_of_getElem? (i := 2) rfl))
theorem k_X12_ran_fieldLink_RX12_639_SRModel_steps_I : Cond.fieldLink RX12 639 "StatementRules2Model" "steps" "I" ∈ wzX12_ran := List.mem_cons_of_mem _ (List.mem_append_left _ (List.mem_of_getElem? (i := 3) rfl))
theorem k_X12_ran_fieldLink_RX12_583_SRModel_rowMany_I : Cond.fieldLink RX12 583 "StatementRules2Model" "rowMany" "I" ∈ wzX12_ran := List.mem_cons_of_mem _ (List.mem_append_left _ (List.mem_of_getElem? (i := 4) rfl))
theorem k_X12_ran_fieldLink_RX12_615_SRModel_value_I : Cond.fieldLink RX12 615 "StatementRules2Model" "value" "I" ∈ wzX12_ran := List.mem_cons_of_mem _ (List.mem_append_left _ (List.mem_of_getElem? (i := 5) rfl))
theorem k_X12_ran_fieldLink_RX12_216_SRModel_thingKind_I : Cond.fieldLink RX12 216 "StatementRules2Model" "thingKind" "[I" ∈ wzX12_ran := List.mem_cons_of_mem _ (List.mem_append_left _ (List.mem_of_getElem? (i := 6) rfl))
theorem k_X12_ran_fieldLink_RX12_595_SRModel_thing_I : Cond.fieldLink RX12 595 "StatementRules2Model" "thing" "I" ∈ wzX12_ran := List.mem_cons_of_mem _ (List.mem_append_left _ (List.mem_of_getElem? (i := 7) rfl))
theorem k_X12_ran_fieldLink_RX12_219_SRModel_thingNumber_I : Cond.fieldLink RX12 219 "StatementRules2Model" "thingNumber" "[I" ∈ wzX12_ran := List.mem_cons_of_mem _ (List.mem_append_left _ (List.mem_of_getElem? (i := 8) rfl))
theorem k_X12_ran_fieldLink_RX12_222_SRModel_suppressedMany_I : Cond.fieldLink RX12 222 "StatementRules2Model" "suppressedMany" "[I" ∈ wzX12_ran := List.mem_cons_of_mem _ (List.mem_append_left _ (List.mem_of_getElem? (i := 9) rfl))
theorem k_X12_ran_fieldLink_RX12_231_SRModel_held_I : Cond.fieldLink RX12 231 "StatementRules2Model" "held" "[I" ∈ wzX12_ran := List.mem_cons_of_mem _ (List.mem_append_left _ (List.mem_of_getElem? (i := 10) rfl))
set_option maxHeartbeats 4000000 in
set_option maxRecDepth 100000 in
theorem j_X12_ran_168 {p : Program} {e : Env} {s : State} {m : MethodId} {args : Array Value} {below : List Frame} {meth : Method} {c : Code} {A : Nat → Prop} (l : Launch) (dC : Nat → ClassId) (dI : Nat → Nat → Nat) (Q : RQ) (N : Nat) (R : Int32 × RS) (hx : p.tables.exec = Jvm.exec) (hb : c.code = cX12_ran) (hr : meth.sig.returnType = (some .int)) (hml : c.maxLocals = 5) (hown : s.vm.findClass RX12 = some m.cls) (hts : ∀ w ∈ wzX12_ran, w.before args s = true) (hlocks : meth.locks = false) (hZ : zAMB s) (hA : ∀ q : Nat, s.heap.size ≤ q → A q) (hK : va_K (dC, dI) vwCl (rT Q) s) : ∀ (n9 : Nat), ∀ (σ : RS) (x3 : Int32) (x4 : Int32) (H : Heap) (locs : List Loc) (ls : Array Slot), f_X12_ran_168 N n9 σ x3 x4 = some R → va_P (dC, dI) vwCl (rW Q σ) H → va_D A (rW Q σ) → va_S A s.heap H locs → lv_has ls 5 [(0, .ref Q.h0), (3, .int x3), (4, .int x4)] → W p l e ({ frames := 2, cells := 0, slots := 0, locals := 120 }) s m args below meth c H locs 0 0 (MQ below (va_Qi (fun (r : Int32) (_ : Unit) => r = R.1) (fun (_ : Unit) (t : State) => zPost dC dI A (rW Q R.2) (rT Q) t) A) args s 0 0 A) (F0 m 168 ls []) := by
  intro n9
  induction n9 with
  | zero => intro σ x3 x4 H locs ls hf; exact absurd hf (by intro h9; cases h9)
  | succ n9 ih =>
    intro σ x3 x4 H locs ls hf hP hD hS hl
    replace hf : b_X12_ran_168 N (f_X12_ran_168 N n9) σ x3 x4 = some R := hf
    unfold b_X12_ran_168 at hf
    refine lv_iload hx hb dX12_ran_168 (lv_at hl 2 rfl) ?_
    refine lv_bipush (v := 8) hx hb dX12_ran_170 (by decide) ?_
    refine lv_icmp_ge (tgt := 191) hx hb dX12_ran_172 (by decide) (fun c19 => ?_) (fun c19 => ?_)
    ·
      replace hf := (if_pos c19).symm.trans hf
      refine lv_iload_n hx hb dX12_ran_191 rfl (lv_at hl 1 rfl) ?_
      obtain rfl := Option.some.inj hf
      exact W.iret (v := x3) hx hb hr (fun t ht hW => ⟨⟨x3, (), rfl, rfl, by rw [ht]; exact hP, va_K.moved hW.alike hK, hD⟩, hS.F ht⟩) hS.2.2 dX12_ran_192
    ·
      replace hf := (if_neg c19).symm.trans hf
      refine lv_iload_n hx hb dX12_ran_175 rfl (lv_at hl 1 rfl) ?_
      refine lv_aload_n hx hb dX12_ran_176 rfl (lv_at hl 0 rfl) ?_
      refine rG_91 hx hb hts i_X12_ran_X12 hown hK hP (hts (.fieldLink RX12 231 "StatementRules2Model" "held" "[I") k_X12_ran_fieldLink_RX12_231_SRModel_held_I) dX12_ran_177 ?_
      refine lv_iload hx hb dX12_ran_180 (lv_at hl 2 rfl) ?_
      obtain ⟨b20, hf⟩ := hf_ite hf
      refine rL_91 (v := (σ.a 91 ((x4 : Int32).toNatClampNeg))) hx hb hK hP b20 dX12_ran_182 rfl ?_
      refine lv_iadd hx hb dX12_ran_183 ?_
      refine lv_istore_n (lv' := [(3, .int (x3 + (σ.a 91 ((x4 : Int32).toNatClampNeg)))), (0, .ref Q.h0), (4, .int x4)]) hx hb dX12_ran_184 rfl hl (by decide) rfl (fun ls hl => ?_)
      refine lv_iinc (v := (x4 + 1)) (lv' := [(4, .int (x4 + 1)), (3, .int (x3 + (σ.a 91 ((x4 : Int32).toNatClampNeg)))), (0, .ref Q.h0)]) hx hb dX12_ran_185 hl (k := 2) rfl rfl (by decide) rfl (fun ls hl => ?_)
      refine lv_goto (tgt := 168) hx hb dX12_ran_188 (by decide) ?_
      exact ih σ (x3 + (σ.a 91 ((x4 : Int32).toNatClampNeg))) (x4 + 1) _ _ _ hf hP hD hS (lv_sub hl [2, 1, 0] rfl)
set_option maxHeartbeats 4000000 in
set_option maxRecDepth 100000 in
theorem j_X12_ran_41 {p : Program} {e : Env} {s : State} {m : MethodId} {args : Array Value} {below : List Frame} {meth : Method} {c : Code} {A : Nat → Prop} (l : Launch) (dC : Nat → ClassId) (dI : Nat → Nat → Nat) (Q : RQ) (N : Nat) (R : Int32 × RS) (hx : p.tables.exec = Jvm.exec) (hb : c.code = cX12_ran) (hr : meth.sig.returnType = (some .int)) (hml : c.maxLocals = 5) (hown : s.vm.findClass RX12 = some m.cls) (hts : ∀ w ∈ wzX12_ran, w.before args s = true) (hlocks : meth.locks = false) (hZ : zAMB s) (hA : ∀ q : Nat, s.heap.size ≤ q → A q) (hK : va_K (dC, dI) vwCl (rT Q) s) : ∀ (σ : RS) (x1 : Int32) (x2 : Int32) (H : Heap) (locs : List Loc) (ls : Array Slot), f_X12_ran_41 N σ x1 x2 = some R → va_P (dC, dI) vwCl (rW Q σ) H → va_D A (rW Q σ) → va_S A s.heap H locs → lv_has ls 5 [(0, .ref Q.h0), (1, .int x1), (2, .int x2)] → W p l e ({ frames := 2, cells := 0, slots := 0, locals := 120 }) s m args below meth c H locs 0 0 (MQ below (va_Qi (fun (r : Int32) (_ : Unit) => r = R.1) (fun (_ : Unit) (t : State) => zPost dC dI A (rW Q R.2) (rT Q) t) A) args s 0 0 A) (F0 m 41 ls []) := by
  intro σ x1 x2 H locs ls hf hP hD hS hl
  unfold f_X12_ran_41 at hf
  refine lv_iconst (v := 0) hx hb dX12_ran_41 (by decide) ?_
  refine lv_istore_n (lv' := [(3, .int 0), (0, .ref Q.h0), (1, .int x1), (2, .int x2)]) hx hb dX12_ran_42 rfl hl (by decide) rfl (fun ls hl => ?_)
  refine lv_iload_n hx hb dX12_ran_43 rfl (lv_at hl 2 rfl) ?_
  by_cases c6 : x1 = 0
  ·
    replace hf := (if_pos c6).symm.trans hf
    refine lv_tableIn (off := 40) (tgt := 84) hx hb dX12_ran_44 (by rw [c6]; decide) (by rw [c6]; decide) (by rw [c6]; decide) (by decide) ?_
    refine lv_aload_n hx hb dX12_ran_84 rfl (lv_at hl 1 rfl) ?_
    refine rG_80 (v := (σ.i 80)) hx hb hts i_X12_ran_X12 hown hK hP (hts (.fieldLink RX12 639 "StatementRules2Model" "steps" "I") k_X12_ran_fieldLink_RX12_639_SRModel_steps_I) dX12_ran_85 rfl ?_
    obtain rfl := Option.some.inj hf
    exact W.iret (v := (σ.i 80)) hx hb hr (fun t ht hW => ⟨⟨(σ.i 80), (), rfl, rfl, by rw [ht]; exact hP, va_K.moved hW.alike hK, hD⟩, hS.F ht⟩) hS.2.2 dX12_ran_88
  replace hf := (if_neg c6).symm.trans hf
  by_cases c7 : x1 = 1
  ·
    replace hf := (if_pos c7).symm.trans hf
    refine lv_tableIn (off := 45) (tgt := 89) hx hb dX12_ran_44 (by rw [c7]; decide) (by rw [c7]; decide) (by rw [c7]; decide) (by decide) ?_
    refine lv_aload_n hx hb dX12_ran_89 rfl (lv_at hl 1 rfl) ?_
    refine rG_81 (v := (σ.i 81)) hx hb hts i_X12_ran_X12 hown hK hP (hts (.fieldLink RX12 583 "StatementRules2Model" "rowMany" "I") k_X12_ran_fieldLink_RX12_583_SRModel_rowMany_I) dX12_ran_90 rfl ?_
    obtain rfl := Option.some.inj hf
    exact W.iret (v := (σ.i 81)) hx hb hr (fun t ht hW => ⟨⟨(σ.i 81), (), rfl, rfl, by rw [ht]; exact hP, va_K.moved hW.alike hK, hD⟩, hS.F ht⟩) hS.2.2 dX12_ran_93
  replace hf := (if_neg c7).symm.trans hf
  by_cases c8 : x1 = 2
  ·
    replace hf := (if_pos c8).symm.trans hf
    refine lv_tableIn (off := 50) (tgt := 94) hx hb dX12_ran_44 (by rw [c8]; decide) (by rw [c8]; decide) (by rw [c8]; decide) (by decide) ?_
    refine lv_aload_n hx hb dX12_ran_94 rfl (lv_at hl 1 rfl) ?_
    refine rG_115 (v := (σ.i 115)) hx hb hts i_X12_ran_X12 hown hK hP (hts (.fieldLink RX12 636 "StatementRules2Model" "ended" "I") k_X12_ran_fieldLink_RX12_636_SRModel_ended_I) dX12_ran_95 rfl ?_
    refine lv_iconst (v := 2) hx hb dX12_ran_98 (by decide) ?_
    refine lv_icmp_ne (tgt := 109) hx hb dX12_ran_99 (by decide) (fun c9 => ?_) (fun c9 => ?_)
    ·
      replace hf := (if_neg c9).symm.trans hf
      refine lv_iconst (v := 0) hx hb dX12_ran_109 (by decide) ?_
      obtain rfl := Option.some.inj hf
      exact W.iret (v := 0) hx hb hr (fun t ht hW => ⟨⟨0, (), rfl, rfl, by rw [ht]; exact hP, va_K.moved hW.alike hK, hD⟩, hS.F ht⟩) hS.2.2 dX12_ran_110
    ·
      replace hf := (if_pos c9).symm.trans hf
      refine lv_aload_n hx hb dX12_ran_102 rfl (lv_at hl 1 rfl) ?_
      refine rG_113 (v := (σ.i 113)) hx hb hts i_X12_ran_X12 hown hK hP (hts (.fieldLink RX12 615 "StatementRules2Model" "value" "I") k_X12_ran_fieldLink_RX12_615_SRModel_value_I) dX12_ran_103 rfl ?_
      refine lv_goto (tgt := 110) hx hb dX12_ran_106 (by decide) ?_
      obtain rfl := Option.some.inj hf
      exact W.iret (v := (σ.i 113)) hx hb hr (fun t ht hW => ⟨⟨(σ.i 113), (), rfl, rfl, by rw [ht]; exact hP, va_K.moved hW.alike hK, hD⟩, hS.F ht⟩) hS.2.2 dX12_ran_110
  replace hf := (if_neg c8).symm.trans hf
  by_cases c10 : x1 = 3
  ·
    replace hf := (if_pos c10).symm.trans hf
    refine lv_tableIn (off := 67) (tgt := 111) hx hb dX12_ran_44 (by rw [c10]; decide) (by rw [c10]; decide) (by rw [c10]; decide) (by decide) ?_
    refine lv_iload_n hx hb dX12_ran_111 rfl (lv_at hl 3 rfl) ?_
    refine lv_if_eq (tgt := 127) hx hb dX12_ran_112 (by decide) (fun c11 => ?_) (fun c11 => ?_)
    ·
      replace hf := (if_pos c11).symm.trans hf
      refine lv_iconst (v := (-1)) hx hb dX12_ran_127 (by decide) ?_
      obtain rfl := Option.some.inj hf
      exact W.iret (v := (-1)) hx hb hr (fun t ht hW => ⟨⟨(-1), (), rfl, rfl, by rw [ht]; exact hP, va_K.moved hW.alike hK, hD⟩, hS.F ht⟩) hS.2.2 dX12_ran_128
    ·
      replace hf := (if_neg c11).symm.trans hf
      refine lv_aload_n hx hb dX12_ran_115 rfl (lv_at hl 1 rfl) ?_
      refine rG_86 hx hb hts i_X12_ran_X12 hown hK hP (hts (.fieldLink RX12 216 "StatementRules2Model" "thingKind" "[I") k_X12_ran_fieldLink_RX12_216_SRModel_thingKind_I) dX12_ran_116 ?_
      refine lv_aload_n hx hb dX12_ran_119 rfl (lv_at hl 1 rfl) ?_
      refine rG_114 (v := (σ.i 114)) hx hb hts i_X12_ran_X12 hown hK hP (hts (.fieldLink RX12 595 "StatementRules2Model" "thing" "I") k_X12_ran_fieldLink_RX12_595_SRModel_thing_I) dX12_ran_120 rfl ?_
      obtain ⟨b12, hf⟩ := hf_ite hf
      refine rL_86 (v := (σ.a 86 (((σ.i 114) : Int32).toNatClampNeg))) hx hb hK hP b12 dX12_ran_123 rfl ?_
      refine lv_goto (tgt := 128) hx hb dX12_ran_124 (by decide) ?_
      obtain rfl := Option.some.inj hf
      exact W.iret (v := (σ.a 86 (((σ.i 114) : Int32).toNatClampNeg))) hx hb hr (fun t ht hW => ⟨⟨(σ.a 86 (((σ.i 114) : Int32).toNatClampNeg)), (), rfl, rfl, by rw [ht]; exact hP, va_K.moved hW.alike hK, hD⟩, hS.F ht⟩) hS.2.2 dX12_ran_128
  replace hf := (if_neg c10).symm.trans hf
  by_cases c13 : x1 = 4
  ·
    replace hf := (if_pos c13).symm.trans hf
    refine lv_tableIn (off := 85) (tgt := 129) hx hb dX12_ran_44 (by rw [c13]; decide) (by rw [c13]; decide) (by rw [c13]; decide) (by decide) ?_
    refine lv_iload_n hx hb dX12_ran_129 rfl (lv_at hl 3 rfl) ?_
    refine lv_if_eq (tgt := 145) hx hb dX12_ran_130 (by decide) (fun c14 => ?_) (fun c14 => ?_)
    ·
      replace hf := (if_pos c14).symm.trans hf
      refine lv_iconst (v := 0) hx hb dX12_ran_145 (by decide) ?_
      obtain rfl := Option.some.inj hf
      exact W.iret (v := 0) hx hb hr (fun t ht hW => ⟨⟨0, (), rfl, rfl, by rw [ht]; exact hP, va_K.moved hW.alike hK, hD⟩, hS.F ht⟩) hS.2.2 dX12_ran_146
    ·
      replace hf := (if_neg c14).symm.trans hf
      refine lv_aload_n hx hb dX12_ran_133 rfl (lv_at hl 1 rfl) ?_
      refine rG_87 hx hb hts i_X12_ran_X12 hown hK hP (hts (.fieldLink RX12 219 "StatementRules2Model" "thingNumber" "[I") k_X12_ran_fieldLink_RX12_219_SRModel_thingNumber_I) dX12_ran_134 ?_
      refine lv_aload_n hx hb dX12_ran_137 rfl (lv_at hl 1 rfl) ?_
      refine rG_114 (v := (σ.i 114)) hx hb hts i_X12_ran_X12 hown hK hP (hts (.fieldLink RX12 595 "StatementRules2Model" "thing" "I") k_X12_ran_fieldLink_RX12_595_SRModel_thing_I) dX12_ran_138 rfl ?_
      obtain ⟨b15, hf⟩ := hf_ite hf
      refine rL_87 (v := (σ.a 87 (((σ.i 114) : Int32).toNatClampNeg))) hx hb hK hP b15 dX12_ran_141 rfl ?_
      refine lv_goto (tgt := 146) hx hb dX12_ran_142 (by decide) ?_
      obtain rfl := Option.some.inj hf
      exact W.iret (v := (σ.a 87 (((σ.i 114) : Int32).toNatClampNeg))) hx hb hr (fun t ht hW => ⟨⟨(σ.a 87 (((σ.i 114) : Int32).toNatClampNeg)), (), rfl, rfl, by rw [ht]; exact hP, va_K.moved hW.alike hK, hD⟩, hS.F ht⟩) hS.2.2 dX12_ran_146
  replace hf := (if_neg c13).symm.trans hf
  by_cases c16 : x1 = 5
  ·
    replace hf := (if_pos c16).symm.trans hf
    refine lv_tableIn (off := 103) (tgt := 147) hx hb dX12_ran_44 (by rw [c16]; decide) (by rw [c16]; decide) (by rw [c16]; decide) (by decide) ?_
    refine lv_iload_n hx hb dX12_ran_147 rfl (lv_at hl 3 rfl) ?_
    refine lv_if_eq (tgt := 163) hx hb dX12_ran_148 (by decide) (fun c17 => ?_) (fun c17 => ?_)
    ·
      replace hf := (if_pos c17).symm.trans hf
      refine lv_iconst (v := 0) hx hb dX12_ran_163 (by decide) ?_
      obtain rfl := Option.some.inj hf
      exact W.iret (v := 0) hx hb hr (fun t ht hW => ⟨⟨0, (), rfl, rfl, by rw [ht]; exact hP, va_K.moved hW.alike hK, hD⟩, hS.F ht⟩) hS.2.2 dX12_ran_164
    ·
      replace hf := (if_neg c17).symm.trans hf
      refine lv_aload_n hx hb dX12_ran_151 rfl (lv_at hl 1 rfl) ?_
      refine rG_88 hx hb hts i_X12_ran_X12 hown hK hP (hts (.fieldLink RX12 222 "StatementRules2Model" "suppressedMany" "[I") k_X12_ran_fieldLink_RX12_222_SRModel_suppressedMany_I) dX12_ran_152 ?_
      refine lv_aload_n hx hb dX12_ran_155 rfl (lv_at hl 1 rfl) ?_
      refine rG_114 (v := (σ.i 114)) hx hb hts i_X12_ran_X12 hown hK hP (hts (.fieldLink RX12 595 "StatementRules2Model" "thing" "I") k_X12_ran_fieldLink_RX12_595_SRModel_thing_I) dX12_ran_156 rfl ?_
      obtain ⟨b18, hf⟩ := hf_ite hf
      refine rL_88 (v := (σ.a 88 (((σ.i 114) : Int32).toNatClampNeg))) hx hb hK hP b18 dX12_ran_159 rfl ?_
      refine lv_goto (tgt := 164) hx hb dX12_ran_160 (by decide) ?_
      obtain rfl := Option.some.inj hf
      exact W.iret (v := (σ.a 88 (((σ.i 114) : Int32).toNatClampNeg))) hx hb hr (fun t ht hW => ⟨⟨(σ.a 88 (((σ.i 114) : Int32).toNatClampNeg)), (), rfl, rfl, by rw [ht]; exact hP, va_K.moved hW.alike hK, hD⟩, hS.F ht⟩) hS.2.2 dX12_ran_164
  replace hf := (if_neg c16).symm.trans hf
  refine lv_tableOut (tgt := 165) hx hb dX12_ran_44 (by have := z_ton (a := 0) c6 (by decide); have := z_ton (a := 1) c7 (by decide); have := z_ton (a := 2) c8 (by decide); have := z_ton (a := 3) c10 (by decide); have := z_ton (a := 4) c13 (by decide); have := z_ton (a := 5) c16 (by decide); omega) (by decide) ?_
  refine lv_iconst (v := 0) hx hb dX12_ran_165 (by decide) ?_
  refine lv_istore (lv' := [(4, .int 0), (3, .int 0), (0, .ref Q.h0), (1, .int x1), (2, .int x2)]) hx hb dX12_ran_166 hl (by decide) rfl (fun ls hl => ?_)
  exact j_X12_ran_168 l dC dI Q N R hx hb hr hml hown hts hlocks hZ hA hK N σ 0 0 _ _ _ hf hP hD hS (lv_sub hl [2, 1, 0] rfl)
set_option maxHeartbeats 4000000 in
set_option maxRecDepth 100000 in
theorem c_X12_ran (l : Launch) (dC : Nat → ClassId) (dI : Nat → Nat → Nat) (sz : Nat) (Q : RQ) (N : Nat) (σ : RS) (x1 : Int32) (R : Int32 × RS) (hf : f_X12_ran N σ x1 = some R) : Met l yX12_ran wzX12_ran ({ frames := 2, cells := 0, slots := 0, locals := 120 }) (va_Pc [.ref Q.h0, .int x1] (zPre dC dI sz (rW Q σ) (rT Q))) (va_Qi (fun (r : Int32) (_ : Unit) => r = R.1) (fun (_ : Unit) (t : State) => zPost dC dI (va_A (rW Q σ) sz) (rW Q R.2) (rT Q) t) (va_A (rW Q σ) sz)) 0 0 (va_A (rW Q σ) sz) := by
  refine Met.ofW (cc := cX12_ran) (maxL := 5) (ret := (some .int)) (by decide) rfl ?_
  intro p e s m args below meth c s₁ B hml hv
  obtain ⟨rfl, hsz, hZ, hP, hK, hD0⟩ := hv
  have hx := B.exec
  have hb := B.bytes
  have hr := B.returns
  have hts := atoms_spec (ws := wzX12_ran) B.pre
  have hown : s.vm.findClass RX12 = some m.cls := findClass_of_methodNamed B.named
  have hlocks := B.notSynchronized
  subst hsz
  have hD := hD0.self (sz := s.heap.size)
  generalize hAe : va_A (rW Q σ) s.heap.size = A at hD ⊢
  have hA : ∀ q : Nat, s.heap.size ≤ q → A q := fun q h => by rw [← hAe]; exact Or.inr h
  have hS : va_S A s.heap s.heap [] := va_S.rf
  have hl := lv_entry ([.ref Q.h0, .int x1]) (n := 5) (Nat.le_of_ble_eq_true rfl)
  rw [lg_entry_eq]
  generalize (lg_sl ([.ref Q.h0, .int x1]) ++ List.replicate (5 - (lg_sl ([.ref Q.h0, .int x1])).length) Slot.unset).toArray = ls at hl ⊢
  have hl : lv_has ls 5 [(0, .ref Q.h0), (1, .int x1)] := hl
  unfold f_X12_ran at hf
  refine lv_aload_n hx hb dX12_ran_0 rfl (lv_at hl 0 rfl) ?_
  refine lv_iconst (v := 0) hx hb dX12_ran_1 (by decide) ?_
  refine rP_0 hx hb hts i_X12_ran_X12 hown hK hP hD hS (hts (.fieldLink RX12 273 "StatementRules2Model" "thrown" "I") k_X12_ran_fieldLink_RX12_273_SRModel_thrown_I) dX12_ran_2 (fun H locs hP hD hS => ?_)
  refine lv_iload_n hx hb dX12_ran_5 rfl (lv_at hl 1 rfl) ?_
  refine lv_iconst (v := 0) hx hb dX12_ran_6 (by decide) ?_
  refine lv_bipush (v := 6) hx hb dX12_ran_7 (by decide) ?_
  obtain ⟨p1, hcp1, hf⟩ := hf_bind hf
  have hFc := r_free hD hS hA
  refine va_calli (va_runS (As := [.int x1, .int 0, .int 6]) (rest := []) ⟨hx, hb, hml, hown, hts⟩ (c_X12_in l dC dI _ Q N (RS.setI σ 0 0) x1 0 6 p1 hcp1) (va_cwS 3 hts hX12_ran_X12_in_s279 rfl rfl rfl (by decide +kernel) ⟨Nat.le_of_ble_eq_true rfl, Nat.le_of_ble_eq_true rfl⟩) ⟨zPre.blind, zPre.go hZ hP hK hD⟩ rfl rfl hl.1 rfl (lv_room (Nat.le_of_ble_eq_true rfl)) dX12_ran_9 ⟨Nat.le_of_ble_eq_true rfl, Nat.le_of_ble_eq_true rfl⟩) hS (fun q _ h => hFc q h) hFc (fun r2 u9 t9 H1 locs ht hvm hw hB hz1 hk1 hS => ?_)
  obtain ⟨hP, hK1, hD1⟩ := hB
  rw [ht] at hP
  have hD := hD1.weaken (fun _ _ _ h => hFc _ h)
  generalize H1 = H at hP hS ⊢
  obtain rfl : r2 = p1.1 := hw
  refine lv_if_ne (tgt := 17) hx hb dX12_ran_12 (by decide) (fun c3 => ?_) (fun c3 => ?_)
  ·
    replace hf := (if_neg c3).symm.trans hf
    refine lv_aload_n hx hb dX12_ran_17 rfl (lv_at hl 0 rfl) ?_
    refine rG_79 (v := (p1.2.i 79)) hx hb hts i_X12_ran_X12 hown hK hP (hts (.fieldLink RX12 580 "StatementRules2Model" "hasRun" "Z") k_X12_ran_fieldLink_RX12_580_SRModel_hasRun_Z) dX12_ran_18 rfl ?_
    refine lv_if_ne (tgt := 27) hx hb dX12_ran_21 (by decide) (fun c4 => ?_) (fun c4 => ?_)
    ·
      replace hf := (if_neg c4).symm.trans hf
      refine lv_aload_n hx hb dX12_ran_27 rfl (lv_at hl 0 rfl) ?_
      refine rG_115 (v := (p1.2.i 115)) hx hb hts i_X12_ran_X12 hown hK hP (hts (.fieldLink RX12 636 "StatementRules2Model" "ended" "I") k_X12_ran_fieldLink_RX12_636_SRModel_ended_I) dX12_ran_28 rfl ?_
      refine lv_iconst (v := 3) hx hb dX12_ran_31 (by decide) ?_
      refine lv_icmp_ne (tgt := 39) hx hb dX12_ran_32 (by decide) (fun c5 => ?_) (fun c5 => ?_)
      ·
        replace hf := (if_neg c5).symm.trans hf
        refine lv_iconst (v := 0) hx hb dX12_ran_39 (by decide) ?_
        refine lv_istore_n (lv' := [(2, .int 0), (0, .ref Q.h0), (1, .int x1)]) hx hb dX12_ran_40 rfl hl (by decide) rfl (fun ls hl => ?_)
        exact j_X12_ran_41 l dC dI Q N R hx hb hr hml hown hts hlocks hZ hA hK p1.2 x1 0 _ _ _ hf hP hD hS (lv_sub hl [1, 2, 0] rfl)
      ·
        replace hf := (if_pos c5).symm.trans hf
        refine lv_iconst (v := 1) hx hb dX12_ran_35 (by decide) ?_
        refine lv_goto (tgt := 40) hx hb dX12_ran_36 (by decide) ?_
        refine lv_istore_n (lv' := [(2, .int 1), (0, .ref Q.h0), (1, .int x1)]) hx hb dX12_ran_40 rfl hl (by decide) rfl (fun ls hl => ?_)
        exact j_X12_ran_41 l dC dI Q N R hx hb hr hml hown hts hlocks hZ hA hK p1.2 x1 1 _ _ _ hf hP hD hS (lv_sub hl [1, 2, 0] rfl)
    ·
      replace hf := (if_pos c4).symm.trans hf
      refine lv_bipush (v := (-3)) hx hb dX12_ran_24 (by decide) ?_
      obtain rfl := Option.some.inj hf
      exact W.iret (v := (-3)) hx hb hr (fun t ht hW => ⟨⟨(-3), (), rfl, rfl, by rw [ht]; exact hP, va_K.moved hW.alike hK, hD⟩, hS.F ht⟩) hS.2.2 dX12_ran_26
  ·
    replace hf := (if_pos c3).symm.trans hf
    refine lv_iconst (v := (-1)) hx hb dX12_ran_15 (by decide) ?_
    obtain rfl := Option.some.inj hf
    exact W.iret (v := (-1)) hx hb hr (fun t ht hW => ⟨⟨(-1), (), rfl, rfl, by rw [ht]; exact hP, va_K.moved hW.alike hK, hD⟩, hS.F ht⟩) hS.2.2 dX12_ran_16
theorem k_X12_trace_fieldLink_RX12_273_SRModel_thrown_I : Cond.fieldLink RX12 273 "StatementRules2Model" "thrown" "I" ∈ wzX12_trace := List.mem_cons_of_mem _ (List.mem_append_left _ (List.mem_of_getElem? (i := 0) rfl))
theorem i_X12_trace_X12 : ∀ w ∈ wsX120, w ∈ wzX12_trace := fun _ h => List.mem_cons_of_mem _ (List.mem_append_right _ (List.mem_append_left _ (h)))
theorem k_X12_trace_fieldLink_RX12_580_SRModel_hasRun_Z : Cond.fieldLink RX12 580 "StatementRules2Model" "hasRun" "Z" ∈ wzX12_trace := List.mem_cons_of_mem _ (List.mem_append_left _ (List.mem_of_getElem? (i := 1) rfl))
theorem k_X12_trace_fieldLink_RX12_583_SRModel_rowMany_I : Cond.fieldLink RX12 583 "StatementRules2Model" "rowMany" "I" ∈ wzX12_trace := List.mem_cons_of_mem _ (List.mem_append_left _ (List.mem_of_getElem? (i := 2) rfl))
theorem k_X12_trace_fieldLink_RX12_210_SRModel_rowNumber_I : Cond.fieldLink RX12 210 "StatementRules2Model" "rowNumber" "[I" ∈ wzX12_trace := List.mem_cons_of_mem _ (List.mem_append_left _ (List.mem_of_getElem? (i := 3) rfl))
theorem k_X12_trace_fieldLink_RX12_207_SRModel_rowSort_I : Cond.fieldLink RX12 207 "StatementRules2Model" "rowSort" "[I" ∈ wzX12_trace := List.mem_cons_of_mem _ (List.mem_append_left _ (List.mem_of_getElem? (i := 4) rfl))
set_option maxHeartbeats 4000000 in
set_option maxRecDepth 100000 in
theorem j_X12_trace_35 {p : Program} {e : Env} {s : State} {m : MethodId} {args : Array Value} {below : List Frame} {meth : Method} {c : Code} {A : Nat → Prop} (l : Launch) (dC : Nat → ClassId) (dI : Nat → Nat → Nat) (Q : RQ) (N : Nat) (R : Int32 × RS) (hx : p.tables.exec = Jvm.exec) (hb : c.code = cX12_trace) (hr : meth.sig.returnType = (some .int)) (hml : c.maxLocals = 3) (hown : s.vm.findClass RX12 = some m.cls) (hts : ∀ w ∈ wzX12_trace, w.before args s = true) (hlocks : meth.locks = false) (hZ : zAMB s) (hA : ∀ q : Nat, s.heap.size ≤ q → A q) (hK : va_K (dC, dI) vwCl (rT Q) s) : ∀ (σ : RS) (H : Heap) (locs : List Loc) (ls : Array Slot), f_X12_trace_35 N σ = some R → va_P (dC, dI) vwCl (rW Q σ) H → va_D A (rW Q σ) → va_S A s.heap H locs → lv_has ls 3 [] → W p l e ({ frames := 2, cells := 0, slots := 0, locals := 120 }) s m args below meth c H locs 0 0 (MQ below (va_Qi (fun (r : Int32) (_ : Unit) => r = R.1) (fun (_ : Unit) (t : State) => zPost dC dI A (rW Q R.2) (rT Q) t) A) args s 0 0 A) (F0 m 35 ls []) := by
  intro σ  H locs ls hf hP hD hS hl
  unfold f_X12_trace_35 at hf
  refine lv_iconst (v := (-1)) hx hb dX12_trace_35 (by decide) ?_
  obtain rfl := Option.some.inj hf
  exact W.iret (v := (-1)) hx hb hr (fun t ht hW => ⟨⟨(-1), (), rfl, rfl, by rw [ht]; exact hP, va_K.moved hW.alike hK, hD⟩, hS.F ht⟩) hS.2.2 dX12_trace_36
set_option maxHeartbeats 4000000 in
set_option maxRecDepth 100000 in
theorem c_X12_trace (l : Launch) (dC : Nat → ClassId) (dI : Nat → Nat → Nat) (sz : Nat) (Q : RQ) (N : Nat) (σ : RS) (x1 : Int32) (x2 : Int32) (R : Int32 × RS) (hf : f_X12_trace N σ x1 x2 = some R) : Met l yX12_trace wzX12_trace ({ frames := 2, cells := 0, slots := 0, locals := 120 }) (va_Pc [.ref Q.h0, .int x1, .int x2] (zPre dC dI sz (rW Q σ) (rT Q))) (va_Qi (fun (r : Int32) (_ : Unit) => r = R.1) (fun (_ : Unit) (t : State) => zPost dC dI (va_A (rW Q σ) sz) (rW Q R.2) (rT Q) t) (va_A (rW Q σ) sz)) 0 0 (va_A (rW Q σ) sz) := by
  refine Met.ofW (cc := cX12_trace) (maxL := 3) (ret := (some .int)) (by decide) rfl ?_
  intro p e s m args below meth c s₁ B hml hv
  obtain ⟨rfl, hsz, hZ, hP, hK, hD0⟩ := hv
  have hx := B.exec
  have hb := B.bytes
  have hr := B.returns
  have hts := atoms_spec (ws := wzX12_trace) B.pre
  have hown : s.vm.findClass RX12 = some m.cls := findClass_of_methodNamed B.named
  have hlocks := B.notSynchronized
  subst hsz
  have hD := hD0.self (sz := s.heap.size)
  generalize hAe : va_A (rW Q σ) s.heap.size = A at hD ⊢
  have hA : ∀ q : Nat, s.heap.size ≤ q → A q := fun q h => by rw [← hAe]; exact Or.inr h
  have hS : va_S A s.heap s.heap [] := va_S.rf
  have hl := lv_entry ([.ref Q.h0, .int x1, .int x2]) (n := 3) (Nat.le_of_ble_eq_true rfl)
  rw [lg_entry_eq]
  generalize (lg_sl ([.ref Q.h0, .int x1, .int x2]) ++ List.replicate (3 - (lg_sl ([.ref Q.h0, .int x1, .int x2])).length) Slot.unset).toArray = ls at hl ⊢
  have hl : lv_has ls 3 [(0, .ref Q.h0), (1, .int x1), (2, .int x2)] := hl
  unfold f_X12_trace at hf
  refine lv_aload_n hx hb dX12_trace_0 rfl (lv_at hl 0 rfl) ?_
  refine lv_iconst (v := 0) hx hb dX12_trace_1 (by decide) ?_
  refine rP_0 hx hb hts i_X12_trace_X12 hown hK hP hD hS (hts (.fieldLink RX12 273 "StatementRules2Model" "thrown" "I") k_X12_trace_fieldLink_RX12_273_SRModel_thrown_I) dX12_trace_2 (fun H locs hP hD hS => ?_)
  refine lv_aload_n hx hb dX12_trace_5 rfl (lv_at hl 0 rfl) ?_
  refine rG_79 (v := (σ.i 79)) hx hb hts i_X12_trace_X12 hown hK hP (hts (.fieldLink RX12 580 "StatementRules2Model" "hasRun" "Z") k_X12_trace_fieldLink_RX12_580_SRModel_hasRun_Z) dX12_trace_6 rfl ?_
  refine lv_if_eq (tgt := 35) hx hb dX12_trace_9 (by decide) (fun c1 => ?_) (fun c1 => ?_)
  ·
    replace hf := (if_pos c1).symm.trans hf
    exact j_X12_trace_35 l dC dI Q N R hx hb hr hml hown hts hlocks hZ hA hK (RS.setI σ 0 0) _ _ _ hf hP hD hS (lv_sub hl [] rfl)
  ·
    replace hf := (if_neg c1).symm.trans hf
    refine lv_iload_n hx hb dX12_trace_12 rfl (lv_at hl 1 rfl) ?_
    refine lv_iconst (v := 0) hx hb dX12_trace_13 (by decide) ?_
    refine lv_aload_n hx hb dX12_trace_14 rfl (lv_at hl 0 rfl) ?_
    refine rG_81 (v := (σ.i 81)) hx hb hts i_X12_trace_X12 hown hK hP (hts (.fieldLink RX12 583 "StatementRules2Model" "rowMany" "I") k_X12_trace_fieldLink_RX12_583_SRModel_rowMany_I) dX12_trace_15 rfl ?_
    refine lv_iconst (v := 1) hx hb dX12_trace_18 (by decide) ?_
    refine lv_isub hx hb dX12_trace_19 ?_
    obtain ⟨p2, hcp2, hf⟩ := hf_bind hf
    have hFc := r_free hD hS hA
    refine va_calli (va_runS (As := [.int x1, .int 0, .int ((σ.i 81) - 1)]) (rest := []) ⟨hx, hb, hml, hown, hts⟩ (c_X12_in l dC dI _ Q N (RS.setI σ 0 0) x1 0 ((σ.i 81) - 1) p2 hcp2) (va_cwS 3 hts hX12_trace_X12_in_s279 rfl rfl rfl (by decide +kernel) ⟨Nat.le_of_ble_eq_true rfl, Nat.le_of_ble_eq_true rfl⟩) ⟨zPre.blind, zPre.go hZ hP hK hD⟩ rfl rfl hl.1 rfl (lv_room (Nat.le_of_ble_eq_true rfl)) dX12_trace_20 ⟨Nat.le_of_ble_eq_true rfl, Nat.le_of_ble_eq_true rfl⟩) hS (fun q _ h => hFc q h) hFc (fun r3 u9 t9 H1 locs ht hvm hw hB hz1 hk1 hS => ?_)
    obtain ⟨hP, hK1, hD1⟩ := hB
    rw [ht] at hP
    have hD := hD1.weaken (fun _ _ _ h => hFc _ h)
    generalize H1 = H at hP hS ⊢
    obtain rfl : r3 = p2.1 := hw
    refine lv_if_eq (tgt := 35) hx hb dX12_trace_23 (by decide) (fun c4 => ?_) (fun c4 => ?_)
    ·
      replace hf := (if_pos c4).symm.trans hf
      exact j_X12_trace_35 l dC dI Q N R hx hb hr hml hown hts hlocks hZ hA hK p2.2 _ _ _ hf hP hD hS (lv_sub hl [] rfl)
    ·
      replace hf := (if_neg c4).symm.trans hf
      refine lv_iload_n hx hb dX12_trace_26 rfl (lv_at hl 2 rfl) ?_
      refine lv_iconst (v := 0) hx hb dX12_trace_27 (by decide) ?_
      refine lv_iconst (v := 1) hx hb dX12_trace_28 (by decide) ?_
      obtain ⟨p5, hcp5, hf⟩ := hf_bind hf
      have hFc := r_free hD hS hA
      refine va_calli (va_runS (As := [.int x2, .int 0, .int 1]) (rest := []) ⟨hx, hb, hml, hown, hts⟩ (c_X12_in l dC dI _ Q N p2.2 x2 0 1 p5 hcp5) (va_cwS 3 hts hX12_trace_X12_in_s279 rfl rfl rfl (by decide +kernel) ⟨Nat.le_of_ble_eq_true rfl, Nat.le_of_ble_eq_true rfl⟩) ⟨zPre.blind, zPre.go hZ hP hK hD⟩ rfl rfl hl.1 rfl (lv_room (Nat.le_of_ble_eq_true rfl)) dX12_trace_29 ⟨Nat.le_of_ble_eq_true rfl, Nat.le_of_ble_eq_true rfl⟩) hS (fun q _ h => hFc q h) hFc (fun r6 u9 t9 H1 locs ht hvm hw hB hz1 hk1 hS => ?_)
      obtain ⟨hP, hK1, hD1⟩ := hB
      rw [ht] at hP
      have hD := hD1.weaken (fun _ _ _ h => hFc _ h)
      generalize H1 = H at hP hS ⊢
      obtain rfl : r6 = p5.1 := hw
      refine lv_if_ne (tgt := 37) hx hb dX12_trace_32 (by decide) (fun c7 => ?_) (fun c7 => ?_)
      ·
        replace hf := (if_neg c7).symm.trans hf
        refine lv_iload_n hx hb dX12_trace_37 rfl (lv_at hl 2 rfl) ?_
        refine lv_if_ne (tgt := 50) hx hb dX12_trace_38 (by decide) (fun c8 => ?_) (fun c8 => ?_)
        ·
          replace hf := (if_neg c8).symm.trans hf
          refine lv_aload_n hx hb dX12_trace_50 rfl (lv_at hl 0 rfl) ?_
          refine rG_83 hx hb hts i_X12_trace_X12 hown hK hP (hts (.fieldLink RX12 210 "StatementRules2Model" "rowNumber" "[I") k_X12_trace_fieldLink_RX12_210_SRModel_rowNumber_I) dX12_trace_51 ?_
          refine lv_iload_n hx hb dX12_trace_54 rfl (lv_at hl 1 rfl) ?_
          obtain ⟨b9, hf⟩ := hf_ite hf
          refine rL_83 (v := (p5.2.a 83 ((x1 : Int32).toNatClampNeg))) hx hb hK hP b9 dX12_trace_55 rfl ?_
          obtain rfl := Option.some.inj hf
          exact W.iret (v := (p5.2.a 83 ((x1 : Int32).toNatClampNeg))) hx hb hr (fun t ht hW => ⟨⟨(p5.2.a 83 ((x1 : Int32).toNatClampNeg)), (), rfl, rfl, by rw [ht]; exact hP, va_K.moved hW.alike hK, hD⟩, hS.F ht⟩) hS.2.2 dX12_trace_56
        ·
          replace hf := (if_pos c8).symm.trans hf
          refine lv_aload_n hx hb dX12_trace_41 rfl (lv_at hl 0 rfl) ?_
          refine rG_82 hx hb hts i_X12_trace_X12 hown hK hP (hts (.fieldLink RX12 207 "StatementRules2Model" "rowSort" "[I") k_X12_trace_fieldLink_RX12_207_SRModel_rowSort_I) dX12_trace_42 ?_
          refine lv_iload_n hx hb dX12_trace_45 rfl (lv_at hl 1 rfl) ?_
          obtain ⟨b10, hf⟩ := hf_ite hf
          refine rL_82 (v := (p5.2.a 82 ((x1 : Int32).toNatClampNeg))) hx hb hK hP b10 dX12_trace_46 rfl ?_
          refine lv_goto (tgt := 56) hx hb dX12_trace_47 (by decide) ?_
          obtain rfl := Option.some.inj hf
          exact W.iret (v := (p5.2.a 82 ((x1 : Int32).toNatClampNeg))) hx hb hr (fun t ht hW => ⟨⟨(p5.2.a 82 ((x1 : Int32).toNatClampNeg)), (), rfl, rfl, by rw [ht]; exact hP, va_K.moved hW.alike hK, hD⟩, hS.F ht⟩) hS.2.2 dX12_trace_56
      ·
        replace hf := (if_pos c7).symm.trans hf
        exact j_X12_trace_35 l dC dI Q N R hx hb hr hml hown hts hlocks hZ hA hK p5.2 _ _ _ hf hP hD hS (lv_sub hl [] rfl)
theorem k_X12_suppressed_fieldLink_RX12_273_SRModel_thrown_I : Cond.fieldLink RX12 273 "StatementRules2Model" "thrown" "I" ∈ wzX12_suppressed := List.mem_cons_of_mem _ (List.mem_append_left _ (List.mem_of_getElem? (i := 0) rfl))
theorem i_X12_suppressed_X12 : ∀ w ∈ wsX120, w ∈ wzX12_suppressed := fun _ h => List.mem_cons_of_mem _ (List.mem_append_right _ (List.mem_append_left _ (h)))
theorem k_X12_suppressed_fieldLink_RX12_580_SRModel_hasRun_Z : Cond.fieldLink RX12 580 "StatementRules2Model" "hasRun" "Z" ∈ wzX12_suppressed := List.mem_cons_of_mem _ (List.mem_append_left _ (List.mem_of_getElem? (i := 1) rfl))
theorem k_X12_suppressed_fieldLink_RX12_636_SRModel_ended_I : Cond.fieldLink RX12 636 "StatementRules2Model" "ended" "I" ∈ wzX12_suppressed := List.mem_cons_of_mem _ (List.mem_append_left _ (List.mem_of_getElem? (i := 2) rfl))
theorem k_X12_suppressed_fieldLink_RX12_222_SRModel_suppressedMany_I : Cond.fieldLink RX12 222 "StatementRules2Model" "suppressedMany" "[I" ∈ wzX12_suppressed := List.mem_cons_of_mem _ (List.mem_append_left _ (List.mem_of_getElem? (i := 3) rfl))
theorem k_X12_suppressed_fieldLink_RX12_595_SRModel_thing_I : Cond.fieldLink RX12 595 "StatementRules2Model" "thing" "I" ∈ wzX12_suppressed := List.mem_cons_of_mem _ (List.mem_append_left _ (List.mem_of_getElem? (i := 4) rfl))
theorem k_X12_suppressed_fieldLink_RX12_228_SRModel_suppressedNumber_I : Cond.fieldLink RX12 228 "StatementRules2Model" "suppressedNumber" "[I" ∈ wzX12_suppressed := List.mem_cons_of_mem _ (List.mem_append_left _ (List.mem_of_getElem? (i := 5) rfl))
theorem k_X12_suppressed_fieldLink_RX12_225_SRModel_suppressedKind_I : Cond.fieldLink RX12 225 "StatementRules2Model" "suppressedKind" "[I" ∈ wzX12_suppressed := List.mem_cons_of_mem _ (List.mem_append_left _ (List.mem_of_getElem? (i := 6) rfl))
set_option maxHeartbeats 4000000 in
set_option maxRecDepth 100000 in
theorem j_X12_suppressed_48 {p : Program} {e : Env} {s : State} {m : MethodId} {args : Array Value} {below : List Frame} {meth : Method} {c : Code} {A : Nat → Prop} (l : Launch) (dC : Nat → ClassId) (dI : Nat → Nat → Nat) (Q : RQ) (N : Nat) (R : Int32 × RS) (hx : p.tables.exec = Jvm.exec) (hb : c.code = cX12_suppressed) (hr : meth.sig.returnType = (some .int)) (hml : c.maxLocals = 3) (hown : s.vm.findClass RX12 = some m.cls) (hts : ∀ w ∈ wzX12_suppressed, w.before args s = true) (hlocks : meth.locks = false) (hZ : zAMB s) (hA : ∀ q : Nat, s.heap.size ≤ q → A q) (hK : va_K (dC, dI) vwCl (rT Q) s) : ∀ (σ : RS) (H : Heap) (locs : List Loc) (ls : Array Slot), f_X12_suppressed_48 N σ = some R → va_P (dC, dI) vwCl (rW Q σ) H → va_D A (rW Q σ) → va_S A s.heap H locs → lv_has ls 3 [] → W p l e ({ frames := 2, cells := 0, slots := 0, locals := 120 }) s m args below meth c H locs 0 0 (MQ below (va_Qi (fun (r : Int32) (_ : Unit) => r = R.1) (fun (_ : Unit) (t : State) => zPost dC dI A (rW Q R.2) (rT Q) t) A) args s 0 0 A) (F0 m 48 ls []) := by
  intro σ  H locs ls hf hP hD hS hl
  unfold f_X12_suppressed_48 at hf
  refine lv_iconst (v := (-1)) hx hb dX12_suppressed_48 (by decide) ?_
  obtain rfl := Option.some.inj hf
  exact W.iret (v := (-1)) hx hb hr (fun t ht hW => ⟨⟨(-1), (), rfl, rfl, by rw [ht]; exact hP, va_K.moved hW.alike hK, hD⟩, hS.F ht⟩) hS.2.2 dX12_suppressed_49
set_option maxHeartbeats 4000000 in
set_option maxRecDepth 100000 in
theorem c_X12_suppressed (l : Launch) (dC : Nat → ClassId) (dI : Nat → Nat → Nat) (sz : Nat) (Q : RQ) (N : Nat) (σ : RS) (x1 : Int32) (x2 : Int32) (R : Int32 × RS) (hf : f_X12_suppressed N σ x1 x2 = some R) : Met l yX12_suppressed wzX12_suppressed ({ frames := 2, cells := 0, slots := 0, locals := 120 }) (va_Pc [.ref Q.h0, .int x1, .int x2] (zPre dC dI sz (rW Q σ) (rT Q))) (va_Qi (fun (r : Int32) (_ : Unit) => r = R.1) (fun (_ : Unit) (t : State) => zPost dC dI (va_A (rW Q σ) sz) (rW Q R.2) (rT Q) t) (va_A (rW Q σ) sz)) 0 0 (va_A (rW Q σ) sz) := by
  refine Met.ofW (cc := cX12_suppressed) (maxL := 3) (ret := (some .int)) (by decide) rfl ?_
  intro p e s m args below meth c s₁ B hml hv
  obtain ⟨rfl, hsz, hZ, hP, hK, hD0⟩ := hv
  have hx := B.exec
  have hb := B.bytes
  have hr := B.returns
  have hts := atoms_spec (ws := wzX12_suppressed) B.pre
  have hown : s.vm.findClass RX12 = some m.cls := findClass_of_methodNamed B.named
  have hlocks := B.notSynchronized
  subst hsz
  have hD := hD0.self (sz := s.heap.size)
  generalize hAe : va_A (rW Q σ) s.heap.size = A at hD ⊢
  have hA : ∀ q : Nat, s.heap.size ≤ q → A q := fun q h => by rw [← hAe]; exact Or.inr h
  have hS : va_S A s.heap s.heap [] := va_S.rf
  have hl := lv_entry ([.ref Q.h0, .int x1, .int x2]) (n := 3) (Nat.le_of_ble_eq_true rfl)
  rw [lg_entry_eq]
  generalize (lg_sl ([.ref Q.h0, .int x1, .int x2]) ++ List.replicate (3 - (lg_sl ([.ref Q.h0, .int x1, .int x2])).length) Slot.unset).toArray = ls at hl ⊢
  have hl : lv_has ls 3 [(0, .ref Q.h0), (1, .int x1), (2, .int x2)] := hl
  unfold f_X12_suppressed at hf
  refine lv_aload_n hx hb dX12_suppressed_0 rfl (lv_at hl 0 rfl) ?_
  refine lv_iconst (v := 0) hx hb dX12_suppressed_1 (by decide) ?_
  refine rP_0 hx hb hts i_X12_suppressed_X12 hown hK hP hD hS (hts (.fieldLink RX12 273 "StatementRules2Model" "thrown" "I") k_X12_suppressed_fieldLink_RX12_273_SRModel_thrown_I) dX12_suppressed_2 (fun H locs hP hD hS => ?_)
  refine lv_aload_n hx hb dX12_suppressed_5 rfl (lv_at hl 0 rfl) ?_
  refine rG_79 (v := (σ.i 79)) hx hb hts i_X12_suppressed_X12 hown hK hP (hts (.fieldLink RX12 580 "StatementRules2Model" "hasRun" "Z") k_X12_suppressed_fieldLink_RX12_580_SRModel_hasRun_Z) dX12_suppressed_6 rfl ?_
  refine lv_if_eq (tgt := 48) hx hb dX12_suppressed_9 (by decide) (fun c1 => ?_) (fun c1 => ?_)
  ·
    replace hf := (if_pos c1).symm.trans hf
    exact j_X12_suppressed_48 l dC dI Q N R hx hb hr hml hown hts hlocks hZ hA hK (RS.setI σ 0 0) _ _ _ hf hP hD hS (lv_sub hl [] rfl)
  ·
    replace hf := (if_neg c1).symm.trans hf
    refine lv_aload_n hx hb dX12_suppressed_12 rfl (lv_at hl 0 rfl) ?_
    refine rG_115 (v := (σ.i 115)) hx hb hts i_X12_suppressed_X12 hown hK hP (hts (.fieldLink RX12 636 "StatementRules2Model" "ended" "I") k_X12_suppressed_fieldLink_RX12_636_SRModel_ended_I) dX12_suppressed_13 rfl ?_
    refine lv_iconst (v := 3) hx hb dX12_suppressed_16 (by decide) ?_
    refine lv_icmp_ne (tgt := 48) hx hb dX12_suppressed_17 (by decide) (fun c2 => ?_) (fun c2 => ?_)
    ·
      replace hf := (if_neg c2).symm.trans hf
      exact j_X12_suppressed_48 l dC dI Q N R hx hb hr hml hown hts hlocks hZ hA hK (RS.setI σ 0 0) _ _ _ hf hP hD hS (lv_sub hl [] rfl)
    ·
      replace hf := (if_pos c2).symm.trans hf
      refine lv_iload_n hx hb dX12_suppressed_20 rfl (lv_at hl 1 rfl) ?_
      refine lv_iconst (v := 0) hx hb dX12_suppressed_21 (by decide) ?_
      refine lv_aload_n hx hb dX12_suppressed_22 rfl (lv_at hl 0 rfl) ?_
      refine rG_88 hx hb hts i_X12_suppressed_X12 hown hK hP (hts (.fieldLink RX12 222 "StatementRules2Model" "suppressedMany" "[I") k_X12_suppressed_fieldLink_RX12_222_SRModel_suppressedMany_I) dX12_suppressed_23 ?_
      refine lv_aload_n hx hb dX12_suppressed_26 rfl (lv_at hl 0 rfl) ?_
      refine rG_114 (v := (σ.i 114)) hx hb hts i_X12_suppressed_X12 hown hK hP (hts (.fieldLink RX12 595 "StatementRules2Model" "thing" "I") k_X12_suppressed_fieldLink_RX12_595_SRModel_thing_I) dX12_suppressed_27 rfl ?_
      obtain ⟨b3, hf⟩ := hf_ite hf
      refine rL_88 (v := (σ.a 88 (((σ.i 114) : Int32).toNatClampNeg))) hx hb hK hP b3 dX12_suppressed_30 rfl ?_
      refine lv_iconst (v := 1) hx hb dX12_suppressed_31 (by decide) ?_
      refine lv_isub hx hb dX12_suppressed_32 ?_
      obtain ⟨p4, hcp4, hf⟩ := hf_bind hf
      have hFc := r_free hD hS hA
      refine va_calli (va_runS (As := [.int x1, .int 0, .int ((σ.a 88 (((σ.i 114) : Int32).toNatClampNeg)) - 1)]) (rest := []) ⟨hx, hb, hml, hown, hts⟩ (c_X12_in l dC dI _ Q N (RS.setI σ 0 0) x1 0 ((σ.a 88 (((σ.i 114) : Int32).toNatClampNeg)) - 1) p4 hcp4) (va_cwS 3 hts hX12_suppressed_X12_in_s279 rfl rfl rfl (by decide +kernel) ⟨Nat.le_of_ble_eq_true rfl, Nat.le_of_ble_eq_true rfl⟩) ⟨zPre.blind, zPre.go hZ hP hK hD⟩ rfl rfl hl.1 rfl (lv_room (Nat.le_of_ble_eq_true rfl)) dX12_suppressed_33 ⟨Nat.le_of_ble_eq_true rfl, Nat.le_of_ble_eq_true rfl⟩) hS (fun q _ h => hFc q h) hFc (fun r5 u9 t9 H1 locs ht hvm hw hB hz1 hk1 hS => ?_)
      obtain ⟨hP, hK1, hD1⟩ := hB
      rw [ht] at hP
      have hD := hD1.weaken (fun _ _ _ h => hFc _ h)
      generalize H1 = H at hP hS ⊢
      obtain rfl : r5 = p4.1 := hw
      refine lv_if_eq (tgt := 48) hx hb dX12_suppressed_36 (by decide) (fun c6 => ?_) (fun c6 => ?_)
      ·
        replace hf := (if_pos c6).symm.trans hf
        exact j_X12_suppressed_48 l dC dI Q N R hx hb hr hml hown hts hlocks hZ hA hK p4.2 _ _ _ hf hP hD hS (lv_sub hl [] rfl)
      ·
        replace hf := (if_neg c6).symm.trans hf
        refine lv_iload_n hx hb dX12_suppressed_39 rfl (lv_at hl 2 rfl) ?_
        refine lv_iconst (v := 0) hx hb dX12_suppressed_40 (by decide) ?_
        refine lv_iconst (v := 1) hx hb dX12_suppressed_41 (by decide) ?_
        obtain ⟨p7, hcp7, hf⟩ := hf_bind hf
        have hFc := r_free hD hS hA
        refine va_calli (va_runS (As := [.int x2, .int 0, .int 1]) (rest := []) ⟨hx, hb, hml, hown, hts⟩ (c_X12_in l dC dI _ Q N p4.2 x2 0 1 p7 hcp7) (va_cwS 3 hts hX12_suppressed_X12_in_s279 rfl rfl rfl (by decide +kernel) ⟨Nat.le_of_ble_eq_true rfl, Nat.le_of_ble_eq_true rfl⟩) ⟨zPre.blind, zPre.go hZ hP hK hD⟩ rfl rfl hl.1 rfl (lv_room (Nat.le_of_ble_eq_true rfl)) dX12_suppressed_42 ⟨Nat.le_of_ble_eq_true rfl, Nat.le_of_ble_eq_true rfl⟩) hS (fun q _ h => hFc q h) hFc (fun r8 u9 t9 H1 locs ht hvm hw hB hz1 hk1 hS => ?_)
        obtain ⟨hP, hK1, hD1⟩ := hB
        rw [ht] at hP
        have hD := hD1.weaken (fun _ _ _ h => hFc _ h)
        generalize H1 = H at hP hS ⊢
        obtain rfl : r8 = p7.1 := hw
        refine lv_if_ne (tgt := 50) hx hb dX12_suppressed_45 (by decide) (fun c9 => ?_) (fun c9 => ?_)
        ·
          replace hf := (if_neg c9).symm.trans hf
          refine lv_iload_n hx hb dX12_suppressed_50 rfl (lv_at hl 2 rfl) ?_
          refine lv_if_ne (tgt := 71) hx hb dX12_suppressed_51 (by decide) (fun c10 => ?_) (fun c10 => ?_)
          ·
            replace hf := (if_neg c10).symm.trans hf
            refine lv_aload_n hx hb dX12_suppressed_71 rfl (lv_at hl 0 rfl) ?_
            refine rG_90 hx hb hts i_X12_suppressed_X12 hown hK hP (hts (.fieldLink RX12 228 "StatementRules2Model" "suppressedNumber" "[I") k_X12_suppressed_fieldLink_RX12_228_SRModel_suppressedNumber_I) dX12_suppressed_72 ?_
            refine lv_bipush (v := 8) hx hb dX12_suppressed_75 (by decide) ?_
            refine lv_aload_n hx hb dX12_suppressed_77 rfl (lv_at hl 0 rfl) ?_
            refine rG_114 (v := (p7.2.i 114)) hx hb hts i_X12_suppressed_X12 hown hK hP (hts (.fieldLink RX12 595 "StatementRules2Model" "thing" "I") k_X12_suppressed_fieldLink_RX12_595_SRModel_thing_I) dX12_suppressed_78 rfl ?_
            refine lv_imul hx hb dX12_suppressed_81 ?_
            refine lv_iload_n hx hb dX12_suppressed_82 rfl (lv_at hl 1 rfl) ?_
            refine lv_iadd hx hb dX12_suppressed_83 ?_
            obtain ⟨b11, hf⟩ := hf_ite hf
            refine rL_90 (v := (p7.2.a 90 ((((8 * (p7.2.i 114)) + x1) : Int32).toNatClampNeg))) hx hb hK hP b11 dX12_suppressed_84 rfl ?_
            obtain rfl := Option.some.inj hf
            exact W.iret (v := (p7.2.a 90 ((((8 * (p7.2.i 114)) + x1) : Int32).toNatClampNeg))) hx hb hr (fun t ht hW => ⟨⟨(p7.2.a 90 ((((8 * (p7.2.i 114)) + x1) : Int32).toNatClampNeg)), (), rfl, rfl, by rw [ht]; exact hP, va_K.moved hW.alike hK, hD⟩, hS.F ht⟩) hS.2.2 dX12_suppressed_85
          ·
            replace hf := (if_pos c10).symm.trans hf
            refine lv_aload_n hx hb dX12_suppressed_54 rfl (lv_at hl 0 rfl) ?_
            refine rG_89 hx hb hts i_X12_suppressed_X12 hown hK hP (hts (.fieldLink RX12 225 "StatementRules2Model" "suppressedKind" "[I") k_X12_suppressed_fieldLink_RX12_225_SRModel_suppressedKind_I) dX12_suppressed_55 ?_
            refine lv_bipush (v := 8) hx hb dX12_suppressed_58 (by decide) ?_
            refine lv_aload_n hx hb dX12_suppressed_60 rfl (lv_at hl 0 rfl) ?_
            refine rG_114 (v := (p7.2.i 114)) hx hb hts i_X12_suppressed_X12 hown hK hP (hts (.fieldLink RX12 595 "StatementRules2Model" "thing" "I") k_X12_suppressed_fieldLink_RX12_595_SRModel_thing_I) dX12_suppressed_61 rfl ?_
            refine lv_imul hx hb dX12_suppressed_64 ?_
            refine lv_iload_n hx hb dX12_suppressed_65 rfl (lv_at hl 1 rfl) ?_
            refine lv_iadd hx hb dX12_suppressed_66 ?_
            obtain ⟨b12, hf⟩ := hf_ite hf
            refine rL_89 (v := (p7.2.a 89 ((((8 * (p7.2.i 114)) + x1) : Int32).toNatClampNeg))) hx hb hK hP b12 dX12_suppressed_67 rfl ?_
            refine lv_goto (tgt := 85) hx hb dX12_suppressed_68 (by decide) ?_
            obtain rfl := Option.some.inj hf
            exact W.iret (v := (p7.2.a 89 ((((8 * (p7.2.i 114)) + x1) : Int32).toNatClampNeg))) hx hb hr (fun t ht hW => ⟨⟨(p7.2.a 89 ((((8 * (p7.2.i 114)) + x1) : Int32).toNatClampNeg)), (), rfl, rfl, by rw [ht]; exact hP, va_K.moved hW.alike hK, hD⟩, hS.F ht⟩) hS.2.2 dX12_suppressed_85
        ·
          replace hf := (if_pos c9).symm.trans hf
          exact j_X12_suppressed_48 l dC dI Q N R hx hb hr hml hown hts hlocks hZ hA hK p7.2 _ _ _ hf hP hD hS (lv_sub hl [] rfl)
theorem k_X12_rounds_fieldLink_RX12_273_SRModel_thrown_I : Cond.fieldLink RX12 273 "StatementRules2Model" "thrown" "I" ∈ wzX12_rounds := List.mem_cons_of_mem _ (List.mem_append_left _ (List.mem_of_getElem? (i := 0) rfl))
theorem i_X12_rounds_X12 : ∀ w ∈ wsX120, w ∈ wzX12_rounds := fun _ h => List.mem_cons_of_mem _ (List.mem_append_right _ (List.mem_append_left _ (h)))
set_option maxHeartbeats 4000000 in
set_option maxRecDepth 100000 in
theorem j_X12_rounds_13 {p : Program} {e : Env} {s : State} {m : MethodId} {args : Array Value} {below : List Frame} {meth : Method} {c : Code} {A : Nat → Prop} (l : Launch) (dC : Nat → ClassId) (dI : Nat → Nat → Nat) (Q : RQ) (N : Nat) (R : Int32 × RS) (hx : p.tables.exec = Jvm.exec) (hb : c.code = cX12_rounds) (hr : meth.sig.returnType = (some .int)) (hml : c.maxLocals = 3) (hown : s.vm.findClass RX12 = some m.cls) (hts : ∀ w ∈ wzX12_rounds, w.before args s = true) (hlocks : meth.locks = false) (hZ : zAMB s) (hA : ∀ q : Nat, s.heap.size ≤ q → A q) (hK : va_K (dC, dI) vwCl (rT Q) s) : ∀ (σ : RS) (H : Heap) (locs : List Loc) (ls : Array Slot), f_X12_rounds_13 N σ = some R → va_P (dC, dI) vwCl (rW Q σ) H → va_D A (rW Q σ) → va_S A s.heap H locs → lv_has ls 3 [] → W p l e ({ frames := 1, cells := 0, slots := 0, locals := 60 }) s m args below meth c H locs 0 0 (MQ below (va_Qi (fun (r : Int32) (_ : Unit) => r = R.1) (fun (_ : Unit) (t : State) => zPost dC dI A (rW Q R.2) (rT Q) t) A) args s 0 0 A) (F0 m 13 ls []) := by
  intro σ  H locs ls hf hP hD hS hl
  unfold f_X12_rounds_13 at hf
  refine lv_iconst (v := (-1)) hx hb dX12_rounds_13 (by decide) ?_
  obtain rfl := Option.some.inj hf
  exact W.iret (v := (-1)) hx hb hr (fun t ht hW => ⟨⟨(-1), (), rfl, rfl, by rw [ht]; exact hP, va_K.moved hW.alike hK, hD⟩, hS.F ht⟩) hS.2.2 dX12_rounds_14
set_option maxHeartbeats 4000000 in
set_option maxRecDepth 100000 in
theorem c_X12_rounds (l : Launch) (dC : Nat → ClassId) (dI : Nat → Nat → Nat) (sz : Nat) (Q : RQ) (N : Nat) (σ : RS) (x1 : Int32) (x2 : Int32) (R : Int32 × RS) (hf : f_X12_rounds N σ x1 x2 = some R) : Met l yX12_rounds wzX12_rounds ({ frames := 1, cells := 0, slots := 0, locals := 60 }) (va_Pc [.ref Q.h0, .int x1, .int x2] (zPre dC dI sz (rW Q σ) (rT Q))) (va_Qi (fun (r : Int32) (_ : Unit) => r = R.1) (fun (_ : Unit) (t : State) => zPost dC dI (va_A (rW Q σ) sz) (rW Q R.2) (rT Q) t) (va_A (rW Q σ) sz)) 0 0 (va_A (rW Q σ) sz) := by
  refine Met.ofW (cc := cX12_rounds) (maxL := 3) (ret := (some .int)) (by decide) rfl ?_
  intro p e s m args below meth c s₁ B hml hv
  obtain ⟨rfl, hsz, hZ, hP, hK, hD0⟩ := hv
  have hx := B.exec
  have hb := B.bytes
  have hr := B.returns
  have hts := atoms_spec (ws := wzX12_rounds) B.pre
  have hown : s.vm.findClass RX12 = some m.cls := findClass_of_methodNamed B.named
  have hlocks := B.notSynchronized
  subst hsz
  have hD := hD0.self (sz := s.heap.size)
  generalize hAe : va_A (rW Q σ) s.heap.size = A at hD ⊢
  have hA : ∀ q : Nat, s.heap.size ≤ q → A q := fun q h => by rw [← hAe]; exact Or.inr h
  have hS : va_S A s.heap s.heap [] := va_S.rf
  have hl := lv_entry ([.ref Q.h0, .int x1, .int x2]) (n := 3) (Nat.le_of_ble_eq_true rfl)
  rw [lg_entry_eq]
  generalize (lg_sl ([.ref Q.h0, .int x1, .int x2]) ++ List.replicate (3 - (lg_sl ([.ref Q.h0, .int x1, .int x2])).length) Slot.unset).toArray = ls at hl ⊢
  have hl : lv_has ls 3 [(0, .ref Q.h0), (1, .int x1), (2, .int x2)] := hl
  unfold f_X12_rounds at hf
  refine lv_aload_n hx hb dX12_rounds_0 rfl (lv_at hl 0 rfl) ?_
  refine lv_iconst (v := 0) hx hb dX12_rounds_1 (by decide) ?_
  refine rP_0 hx hb hts i_X12_rounds_X12 hown hK hP hD hS (hts (.fieldLink RX12 273 "StatementRules2Model" "thrown" "I") k_X12_rounds_fieldLink_RX12_273_SRModel_thrown_I) dX12_rounds_2 (fun H locs hP hD hS => ?_)
  refine lv_iload_n hx hb dX12_rounds_5 rfl (lv_at hl 1 rfl) ?_
  refine lv_if_lt (tgt := 13) hx hb dX12_rounds_6 (by decide) (fun c1 => ?_) (fun c1 => ?_)
  ·
    replace hf := (if_pos c1).symm.trans hf
    exact j_X12_rounds_13 l dC dI Q N R hx hb hr hml hown hts hlocks hZ hA hK (RS.setI σ 0 0) _ _ _ hf hP hD hS (lv_sub hl [] rfl)
  ·
    replace hf := (if_neg c1).symm.trans hf
    refine lv_iload_n hx hb dX12_rounds_9 rfl (lv_at hl 2 rfl) ?_
    refine lv_if_ge (tgt := 15) hx hb dX12_rounds_10 (by decide) (fun c2 => ?_) (fun c2 => ?_)
    ·
      replace hf := (if_pos c2).symm.trans hf
      refine lv_iload_n hx hb dX12_rounds_15 rfl (lv_at hl 2 rfl) ?_
      refine lv_if_ne (tgt := 26) hx hb dX12_rounds_16 (by decide) (fun c3 => ?_) (fun c3 => ?_)
      ·
        replace hf := (if_neg c3).symm.trans hf
        refine lv_iload_n hx hb dX12_rounds_26 rfl (lv_at hl 1 rfl) ?_
        refine lv_iload_n hx hb dX12_rounds_27 rfl (lv_at hl 2 rfl) ?_
        obtain ⟨b4, hf⟩ := hf_itn hf
        refine lv_idiv hx hb dX12_rounds_28 b4 ?_
        refine lv_iload_n hx hb dX12_rounds_29 rfl (lv_at hl 1 rfl) ?_
        refine lv_iload_n hx hb dX12_rounds_30 rfl (lv_at hl 2 rfl) ?_
        refine lv_irem hx hb dX12_rounds_31 b4 ?_
        refine lv_if_le (tgt := 39) hx hb dX12_rounds_32 (by decide) (fun c5 => ?_) (fun c5 => ?_)
        ·
          replace hf := (if_pos c5).symm.trans hf
          refine lv_iconst (v := 0) hx hb dX12_rounds_39 (by decide) ?_
          refine lv_iadd hx hb dX12_rounds_40 ?_
          obtain rfl := Option.some.inj hf
          exact W.iret (v := ((x1 / x2) + 0)) hx hb hr (fun t ht hW => ⟨⟨((x1 / x2) + 0), (), rfl, rfl, by rw [ht]; exact hP, va_K.moved hW.alike hK, hD⟩, hS.F ht⟩) hS.2.2 dX12_rounds_41
        ·
          replace hf := (if_neg c5).symm.trans hf
          refine lv_iconst (v := 1) hx hb dX12_rounds_35 (by decide) ?_
          refine lv_goto (tgt := 40) hx hb dX12_rounds_36 (by decide) ?_
          refine lv_iadd hx hb dX12_rounds_40 ?_
          obtain rfl := Option.some.inj hf
          exact W.iret (v := ((x1 / x2) + 1)) hx hb hr (fun t ht hW => ⟨⟨((x1 / x2) + 1), (), rfl, rfl, by rw [ht]; exact hP, va_K.moved hW.alike hK, hD⟩, hS.F ht⟩) hS.2.2 dX12_rounds_41
      ·
        replace hf := (if_pos c3).symm.trans hf
        refine lv_aload_n hx hb dX12_rounds_19 rfl (lv_at hl 0 rfl) ?_
        refine lv_iconst (v := 1) hx hb dX12_rounds_20 (by decide) ?_
        refine rP_0 hx hb hts i_X12_rounds_X12 hown hK hP hD hS (hts (.fieldLink RX12 273 "StatementRules2Model" "thrown" "I") k_X12_rounds_fieldLink_RX12_273_SRModel_thrown_I) dX12_rounds_21 (fun H locs hP hD hS => ?_)
        refine lv_iconst (v := 0) hx hb dX12_rounds_24 (by decide) ?_
        obtain rfl := Option.some.inj hf
        exact W.iret (v := 0) hx hb hr (fun t ht hW => ⟨⟨0, (), rfl, rfl, by rw [ht]; exact hP, va_K.moved hW.alike hK, hD⟩, hS.F ht⟩) hS.2.2 dX12_rounds_25
    ·
      replace hf := (if_neg c2).symm.trans hf
      exact j_X12_rounds_13 l dC dI Q N R hx hb hr hml hown hts hlocks hZ hA hK (RS.setI σ 0 0) _ _ _ hf hP hD hS (lv_sub hl [] rfl)
