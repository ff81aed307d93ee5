section
theorem k_X12_forHead_fieldLink_RX12_291_SRModel_fault_I : Cond.fieldLink RX12 291 "StatementRules2Model" "fault" "I" ∈ wzX12_forHead := List.mem_cons_of_mem _ (List.mem_append_left _ (List.mem_of_getElem? (i := 0) rfl))
theorem i_X12_forHead_X12 : ∀ w ∈ wsX120, w ∈ wzX12_forHead := fun _ h => List.mem_cons_of_mem _ (List.mem_append_right _ (List.mem_append_left _ (h)))
theorem k_X12_forHead_fieldLink_RX12_307_SRModel_tok_I : Cond.fieldLink RX12 307 "StatementRules2Model" "tok" "I" ∈ wzX12_forHead := List.mem_cons_of_mem _ (List.mem_append_left _ (List.mem_of_getElem? (i := 1) rfl))
theorem k_X12_forHead_fieldLink_RX12_177_SRModel_fs_I : Cond.fieldLink RX12 177 "StatementRules2Model" "fs" "[I" ∈ wzX12_forHead := List.mem_cons_of_mem _ (List.mem_append_left _ (List.mem_of_getElem? (i := 2) rfl))
theorem k_X12_forHead_fieldLink_RX12_180_SRModel_fp_I : Cond.fieldLink RX12 180 "StatementRules2Model" "fp" "[I" ∈ wzX12_forHead := List.mem_cons_of_mem _ (List.mem_append_left _ (List.mem_of_getElem? (i := 3) rfl))
theorem k_X12_forHead_fieldLink_RX12_327_SRModel_name_J : Cond.fieldLink RX12 327 "StatementRules2Model" "name" "J" ∈ wzX12_forHead := List.mem_cons_of_mem _ (List.mem_append_left _ (List.mem_of_getElem? (i := 4) rfl))
theorem k_X12_forHead_fieldLink_RX12_304_SRModel_from_I : Cond.fieldLink RX12 304 "StatementRules2Model" "from" "I" ∈ wzX12_forHead := List.mem_cons_of_mem _ (List.mem_append_left _ (List.mem_of_getElem? (i := 5) rfl))
theorem k_X12_forHead_fieldLink_RX12_186_SRModel_fr_I : Cond.fieldLink RX12 186 "StatementRules2Model" "fr" "[I" ∈ wzX12_forHead := List.mem_cons_of_mem _ (List.mem_append_left _ (List.mem_of_getElem? (i := 6) rfl))
set_option maxHeartbeats 4000000 in
set_option maxRecDepth 100000 in
theorem j_X12_forHead_231 {p : Program} {e : Env} {s : State} {m : MethodId} {args : Array Value} {below : List Frame} {meth : Method} {c : Code} {A : Nat → Prop} (l : Launch) (dC : Nat → ClassId) (dI : Nat → Nat → Nat) (Q : RQ) (N : Nat) (R : RS) (hx : p.tables.exec = Jvm.exec) (hb : c.code = cX12_forHead) (hr : meth.sig.returnType = none) (hml : c.maxLocals = 3) (hown : s.vm.findClass RX12 = some m.cls) (hts : ∀ w ∈ wzX12_forHead, w.before args s = true) (hlocks : meth.locks = false) (hZ : zAMB s) (hA : ∀ q : Nat, s.heap.size ≤ q → A q) (hK : va_K (dC, dI) vwCl (rT Q) s) : ∀ (σ : RS) (x1 : Int32) (H : Heap) (locs : List Loc) (ls : Array Slot), f_X12_forHead_231 N σ x1 = some R → va_P (dC, dI) vwCl (rW Q σ) H → va_D A (rW Q σ) → va_S A s.heap H locs → lv_has ls 3 [(0, .ref Q.h0), (1, .int x1)] → W p l e ({ frames := 5, cells := 0, slots := 0, locals := 300 }) s m args below meth c H locs 0 0 (MQ below (va_Qv (fun (_ : Unit) => True) (fun (_ : Unit) (t : State) => zPost dC dI A (rW Q R) (rT Q) t) A) args s 0 0 A) (F0 m 231 ls []) := by
  intro σ x1 H locs ls hf hP hD hS hl
  unfold f_X12_forHead_231 at hf
  refine lv_aload_n hx hb dX12_forHead_231 rfl (lv_at hl 0 rfl) ?_
  refine rG_65 hx hb hts i_X12_forHead_X12 hown hK hP (hts (.fieldLink RX12 177 "StatementRules2Model" "fs" "[I") k_X12_forHead_fieldLink_RX12_177_SRModel_fs_I) dX12_forHead_232 ?_
  refine lv_iload_n hx hb dX12_forHead_235 rfl (lv_at hl 1 rfl) ?_
  refine lv_iconst (v := 3) hx hb dX12_forHead_236 (by decide) ?_
  obtain ⟨b8, hf⟩ := hf_ite hf
  refine rS_65 hx hb hK hP hD hS b8 dX12_forHead_237 (fun H locs hP hD hS => ?_)
  obtain rfl := Option.some.inj hf
  exact W.vret hx hb hr (fun t ht hW => ⟨⟨(), rfl, trivial, by rw [ht]; exact hP, va_K.moved hW.alike hK, hD⟩, hS.F ht⟩) hS.2.2 dX12_forHead_238
set_option maxHeartbeats 4000000 in
set_option maxRecDepth 100000 in
theorem j_X12_forHead_196 {p : Program} {e : Env} {s : State} {m : MethodId} {args : Array Value} {below : List Frame} {meth : Method} {c : Code} {A : Nat → Prop} (l : Launch) (dC : Nat → ClassId) (dI : Nat → Nat → Nat) (Q : RQ) (N : Nat) (R : RS) (hx : p.tables.exec = Jvm.exec) (hb : c.code = cX12_forHead) (hr : meth.sig.returnType = none) (hml : c.maxLocals = 3) (hown : s.vm.findClass RX12 = some m.cls) (hts : ∀ w ∈ wzX12_forHead, w.before args s = true) (hlocks : meth.locks = false) (hZ : zAMB s) (hA : ∀ q : Nat, s.heap.size ≤ q → A q) (hK : va_K (dC, dI) vwCl (rT Q) s) : ∀ (σ : RS) (H : Heap) (locs : List Loc) (ls : Array Slot), f_X12_forHead_196 N σ = some R → va_P (dC, dI) vwCl (rW Q σ) H → va_D A (rW Q σ) → va_S A s.heap H locs → lv_has ls 3 [(0, .ref Q.h0)] → W p l e ({ frames := 5, cells := 0, slots := 0, locals := 300 }) s m args below meth c H locs 0 0 (MQ below (va_Qv (fun (_ : Unit) => True) (fun (_ : Unit) (t : State) => zPost dC dI A (rW Q R) (rT Q) t) A) args s 0 0 A) (F0 m 196 ls []) := by
  intro σ  H locs ls hf hP hD hS hl
  unfold f_X12_forHead_196 at hf
  refine lv_aload_n hx hb dX12_forHead_196 rfl (lv_at hl 0 rfl) ?_
  obtain ⟨p21, hcp21, hf⟩ := hf_bind hf
  have hFc := r_free hD hS hA
  refine va_callv (va_runV (As := []) (rest := []) ⟨hx, hb, hml, hown, hts⟩ (c_X12_next l dC dI _ Q N σ p21 hcp21) (cwV 0 hts hX12_forHead_X12_next_v345 rfl rfl rfl (by decide +kernel) ⟨Nat.le_of_ble_eq_true rfl, Nat.le_of_ble_eq_true rfl⟩) ⟨zPre.blind, va_recv hK hP (ci := 11) (q0 := 0) rfl rfl, zPre.go hZ hP hK hD⟩ rfl rfl hl.1 rfl (lv_room (Nat.le_of_ble_eq_true rfl)) dX12_forHead_197 ⟨Nat.le_of_ble_eq_true rfl, Nat.le_of_ble_eq_true rfl⟩) hS (fun q _ h => hFc q h) hFc (fun u9 t9 H1 locs ht hvm hw hB hz1 hk1 hS => ?_)
  obtain ⟨hP, hK1, hD1⟩ := hB
  rw [ht] at hP
  have hD := hD1.weaken (fun _ _ _ h => hFc _ h)
  generalize H1 = H at hP hS ⊢
  refine lv_aload_n hx hb dX12_forHead_200 rfl (lv_at hl 0 rfl) ?_
  refine lv_iconst (v := 2) hx hb dX12_forHead_201 (by decide) ?_
  refine lv_bipush (v := 16) hx hb dX12_forHead_202 (by decide) ?_
  obtain ⟨p23, hcp23, hf⟩ := hf_bind hf
  have hFc := r_free hD hS hA
  refine va_callv (va_runV (As := [.int 2, .int 16]) (rest := []) ⟨hx, hb, hml, hown, hts⟩ (c_X12_then l dC dI _ Q N p21 2 16 p23 hcp23) (cwV 2 hts hX12_forHead_X12_then_v393 rfl rfl rfl (by decide +kernel) ⟨Nat.le_of_ble_eq_true rfl, Nat.le_of_ble_eq_true rfl⟩) ⟨zPre.blind, va_recv hK hP (ci := 11) (q0 := 0) rfl rfl, zPre.go hZ hP hK hD⟩ rfl rfl hl.1 rfl (lv_room (Nat.le_of_ble_eq_true rfl)) dX12_forHead_204 ⟨Nat.le_of_ble_eq_true rfl, Nat.le_of_ble_eq_true rfl⟩) hS (fun q _ h => hFc q h) hFc (fun u9 t9 H1 locs ht hvm hw hB hz1 hk1 hS => ?_)
  obtain ⟨hP, hK1, hD1⟩ := hB
  rw [ht] at hP
  have hD := hD1.weaken (fun _ _ _ h => hFc _ h)
  generalize H1 = H at hP hS ⊢
  refine lv_goto (tgt := 238) hx hb dX12_forHead_207 (by decide) ?_
  obtain rfl := Option.some.inj hf
  exact W.vret hx hb hr (fun t ht hW => ⟨⟨(), rfl, trivial, by rw [ht]; exact hP, va_K.moved hW.alike hK, hD⟩, hS.F ht⟩) hS.2.2 dX12_forHead_238
set_option maxHeartbeats 4000000 in
set_option maxRecDepth 100000 in
theorem j_X12_forHead_142 {p : Program} {e : Env} {s : State} {m : MethodId} {args : Array Value} {below : List Frame} {meth : Method} {c : Code} {A : Nat → Prop} (l : Launch) (dC : Nat → ClassId) (dI : Nat → Nat → Nat) (Q : RQ) (N : Nat) (R : RS) (hx : p.tables.exec = Jvm.exec) (hb : c.code = cX12_forHead) (hr : meth.sig.returnType = none) (hml : c.maxLocals = 3) (hown : s.vm.findClass RX12 = some m.cls) (hts : ∀ w ∈ wzX12_forHead, w.before args s = true) (hlocks : meth.locks = false) (hZ : zAMB s) (hA : ∀ q : Nat, s.heap.size ≤ q → A q) (hK : va_K (dC, dI) vwCl (rT Q) s) : ∀ (σ : RS) (H : Heap) (locs : List Loc) (ls : Array Slot), f_X12_forHead_142 N σ = some R → va_P (dC, dI) vwCl (rW Q σ) H → va_D A (rW Q σ) → va_S A s.heap H locs → lv_has ls 3 [] → W p l e ({ frames := 5, cells := 0, slots := 0, locals := 300 }) s m args below meth c H locs 0 0 (MQ below (va_Qv (fun (_ : Unit) => True) (fun (_ : Unit) (t : State) => zPost dC dI A (rW Q R) (rT Q) t) A) args s 0 0 A) (F0 m 142 ls []) := by
  intro σ  H locs ls hf hP hD hS hl
  unfold f_X12_forHead_142 at hf
  refine lv_goto (tgt := 238) hx hb dX12_forHead_142 (by decide) ?_
  obtain rfl := Option.some.inj hf
  exact W.vret hx hb hr (fun t ht hW => ⟨⟨(), rfl, trivial, by rw [ht]; exact hP, va_K.moved hW.alike hK, hD⟩, hS.F ht⟩) hS.2.2 dX12_forHead_238
set_option maxHeartbeats 4000000 in
set_option maxRecDepth 100000 in
theorem j_X12_forHead_76 {p : Program} {e : Env} {s : State} {m : MethodId} {args : Array Value} {below : List Frame} {meth : Method} {c : Code} {A : Nat → Prop} (l : Launch) (dC : Nat → ClassId) (dI : Nat → Nat → Nat) (Q : RQ) (N : Nat) (R : RS) (hx : p.tables.exec = Jvm.exec) (hb : c.code = cX12_forHead) (hr : meth.sig.returnType = none) (hml : c.maxLocals = 3) (hown : s.vm.findClass RX12 = some m.cls) (hts : ∀ w ∈ wzX12_forHead, w.before args s = true) (hlocks : meth.locks = false) (hZ : zAMB s) (hA : ∀ q : Nat, s.heap.size ≤ q → A q) (hK : va_K (dC, dI) vwCl (rT Q) s) : ∀ (σ : RS) (x1 : Int32) (x2 : Int32) (H : Heap) (locs : List Loc) (ls : Array Slot), f_X12_forHead_76 N σ x1 x2 = some R → va_P (dC, dI) vwCl (rW Q σ) H → va_D A (rW Q σ) → va_S A s.heap H locs → lv_has ls 3 [(0, .ref Q.h0), (1, .int x1), (2, .int x2)] → W p l e ({ frames := 5, cells := 0, slots := 0, locals := 300 }) s m args below meth c H locs 0 0 (MQ below (va_Qv (fun (_ : Unit) => True) (fun (_ : Unit) (t : State) => zPost dC dI A (rW Q R) (rT Q) t) A) args s 0 0 A) (F0 m 76 ls []) := by
  intro σ x1 x2 H locs ls hf hP hD hS hl
  unfold f_X12_forHead_76 at hf
  refine lv_aload_n hx hb dX12_forHead_76 rfl (lv_at hl 0 rfl) ?_
  obtain ⟨p38, hcp38, hf⟩ := hf_bind hf
  have hFc := r_free hD hS hA
  refine va_callv (va_runV (As := []) (rest := []) ⟨hx, hb, hml, hown, hts⟩ (c_X12_next l dC dI _ Q N σ p38 hcp38) (cwV 0 hts hX12_forHead_X12_next_v345 rfl rfl rfl (by decide +kernel) ⟨Nat.le_of_ble_eq_true rfl, Nat.le_of_ble_eq_true rfl⟩) ⟨zPre.blind, va_recv hK hP (ci := 11) (q0 := 0) rfl rfl, zPre.go hZ hP hK hD⟩ rfl rfl hl.1 rfl (lv_room (Nat.le_of_ble_eq_true rfl)) dX12_forHead_77 ⟨Nat.le_of_ble_eq_true rfl, Nat.le_of_ble_eq_true rfl⟩) hS (fun q _ h => hFc q h) hFc (fun u9 t9 H1 locs ht hvm hw hB hz1 hk1 hS => ?_)
  obtain ⟨hP, hK1, hD1⟩ := hB
  rw [ht] at hP
  have hD := hD1.weaken (fun _ _ _ h => hFc _ h)
  generalize H1 = H at hP hS ⊢
  refine lv_iload_n hx hb dX12_forHead_80 rfl (lv_at hl 2 rfl) ?_
  refine lv_if_ne (tgt := 94) hx hb dX12_forHead_81 (by decide) (fun c40 => ?_) (fun c40 => ?_)
  ·
    replace hf := (if_neg c40).symm.trans hf
    refine lv_aload_n hx hb dX12_forHead_94 rfl (lv_at hl 0 rfl) ?_
    refine rG_10 (v := (p38.i 10)) hx hb hts i_X12_forHead_X12 hown hK hP (hts (.fieldLink RX12 307 "StatementRules2Model" "tok" "I") k_X12_forHead_fieldLink_RX12_307_SRModel_tok_I) dX12_forHead_95 rfl ?_
    refine lv_sipush (v := 434) hx hb dX12_forHead_98 (by decide) ?_
    refine lv_icmp_ne (tgt := 127) hx hb dX12_forHead_101 (by decide) (fun c41 => ?_) (fun c41 => ?_)
    ·
      replace hf := (if_neg c41).symm.trans hf
      refine lv_aload_n hx hb dX12_forHead_127 rfl (lv_at hl 0 rfl) ?_
      refine rG_68 hx hb hts i_X12_forHead_X12 hown hK hP (hts (.fieldLink RX12 186 "StatementRules2Model" "fr" "[I") k_X12_forHead_fieldLink_RX12_186_SRModel_fr_I) dX12_forHead_128 ?_
      refine lv_iload_n hx hb dX12_forHead_131 rfl (lv_at hl 1 rfl) ?_
      refine lv_iconst (v := 0) hx hb dX12_forHead_132 (by decide) ?_
      obtain ⟨b42, hf⟩ := hf_ite hf
      refine rS_68 hx hb hK hP hD hS b42 dX12_forHead_133 (fun H locs hP hD hS => ?_)
      refine lv_aload_n hx hb dX12_forHead_134 rfl (lv_at hl 0 rfl) ?_
      refine lv_bipush (v := 10) hx hb dX12_forHead_135 (by decide) ?_
      refine lv_bipush (v := 16) hx hb dX12_forHead_137 (by decide) ?_
      obtain ⟨p43, hcp43, hf⟩ := hf_bind hf
      have hFc := r_free hD hS hA
      refine va_callv (va_runV (As := [.int 10, .int 16]) (rest := []) ⟨hx, hb, hml, hown, hts⟩ (c_X12_then l dC dI _ Q N (RS.setA p38 68 ((x1 : Int32).toNatClampNeg) 0) 10 16 p43 hcp43) (cwV 2 hts hX12_forHead_X12_then_v393 rfl rfl rfl (by decide +kernel) ⟨Nat.le_of_ble_eq_true rfl, Nat.le_of_ble_eq_true rfl⟩) ⟨zPre.blind, va_recv hK hP (ci := 11) (q0 := 0) rfl rfl, zPre.go hZ hP hK hD⟩ rfl rfl hl.1 rfl (lv_room (Nat.le_of_ble_eq_true rfl)) dX12_forHead_139 ⟨Nat.le_of_ble_eq_true rfl, Nat.le_of_ble_eq_true rfl⟩) hS (fun q _ h => hFc q h) hFc (fun u9 t9 H1 locs ht hvm hw hB hz1 hk1 hS => ?_)
      obtain ⟨hP, hK1, hD1⟩ := hB
      rw [ht] at hP
      have hD := hD1.weaken (fun _ _ _ h => hFc _ h)
      generalize H1 = H at hP hS ⊢
      exact j_X12_forHead_142 l dC dI Q N R hx hb hr hml hown hts hlocks hZ hA hK p43 _ _ _ hf hP hD hS (lv_sub hl [] rfl)
    ·
      replace hf := (if_pos c41).symm.trans hf
      refine lv_aload_n hx hb dX12_forHead_104 rfl (lv_at hl 0 rfl) ?_
      obtain ⟨p45, hcp45, hf⟩ := hf_bind hf
      have hFc := r_free hD hS hA
      refine va_callv (va_runV (As := []) (rest := []) ⟨hx, hb, hml, hown, hts⟩ (c_X12_next l dC dI _ Q N p38 p45 hcp45) (cwV 0 hts hX12_forHead_X12_next_v345 rfl rfl rfl (by decide +kernel) ⟨Nat.le_of_ble_eq_true rfl, Nat.le_of_ble_eq_true rfl⟩) ⟨zPre.blind, va_recv hK hP (ci := 11) (q0 := 0) rfl rfl, zPre.go hZ hP hK hD⟩ rfl rfl hl.1 rfl (lv_room (Nat.le_of_ble_eq_true rfl)) dX12_forHead_105 ⟨Nat.le_of_ble_eq_true rfl, Nat.le_of_ble_eq_true rfl⟩) hS (fun q _ h => hFc q h) hFc (fun u9 t9 H1 locs ht hvm hw hB hz1 hk1 hS => ?_)
      obtain ⟨hP, hK1, hD1⟩ := hB
      rw [ht] at hP
      have hD := hD1.weaken (fun _ _ _ h => hFc _ h)
      generalize H1 = H at hP hS ⊢
      refine lv_aload_n hx hb dX12_forHead_108 rfl (lv_at hl 0 rfl) ?_
      refine lv_bipush (v := 20) hx hb dX12_forHead_109 (by decide) ?_
      refine lv_iconst (v := 1) hx hb dX12_forHead_111 (by decide) ?_
      obtain ⟨p47, hcp47, hf⟩ := hf_bind hf
      have hFc := r_free hD hS hA
      refine va_calli (va_runV (As := [.int 20, .int 1]) (rest := []) ⟨hx, hb, hml, hown, hts⟩ (c_X12_emit l dC dI _ Q N p45 20 1 p47 hcp47) (cwV 2 hts hX12_forHead_X12_emit_v464 rfl rfl rfl (by decide +kernel) ⟨Nat.le_of_ble_eq_true rfl, Nat.le_of_ble_eq_true rfl⟩) ⟨zPre.blind, va_recv hK hP (ci := 11) (q0 := 0) rfl rfl, zPre.go hZ hP hK hD⟩ rfl rfl hl.1 rfl (lv_room (Nat.le_of_ble_eq_true rfl)) dX12_forHead_112 ⟨Nat.le_of_ble_eq_true rfl, Nat.le_of_ble_eq_true rfl⟩) hS (fun q _ h => hFc q h) hFc (fun r48 u9 t9 H1 locs ht hvm hw hB hz1 hk1 hS => ?_)
      obtain ⟨hP, hK1, hD1⟩ := hB
      rw [ht] at hP
      have hD := hD1.weaken (fun _ _ _ h => hFc _ h)
      generalize H1 = H at hP hS ⊢
      obtain rfl : r48 = p47.1 := hw
      refine lv_pop hx hb dX12_forHead_115 rfl ?_
      refine lv_aload_n hx hb dX12_forHead_116 rfl (lv_at hl 0 rfl) ?_
      refine rG_65 hx hb hts i_X12_forHead_X12 hown hK hP (hts (.fieldLink RX12 177 "StatementRules2Model" "fs" "[I") k_X12_forHead_fieldLink_RX12_177_SRModel_fs_I) dX12_forHead_117 ?_
      refine lv_iload_n hx hb dX12_forHead_120 rfl (lv_at hl 1 rfl) ?_
      refine lv_bipush (v := 12) hx hb dX12_forHead_121 (by decide) ?_
      obtain ⟨b49, hf⟩ := hf_ite hf
      refine rS_65 hx hb hK hP hD hS b49 dX12_forHead_123 (fun H locs hP hD hS => ?_)
      refine lv_goto (tgt := 142) hx hb dX12_forHead_124 (by decide) ?_
      exact j_X12_forHead_142 l dC dI Q N R hx hb hr hml hown hts hlocks hZ hA hK (RS.setA p47.2 65 ((x1 : Int32).toNatClampNeg) 12) _ _ _ hf hP hD hS (lv_sub hl [] rfl)
  ·
    replace hf := (if_pos c40).symm.trans hf
    refine lv_aload_n hx hb dX12_forHead_84 rfl (lv_at hl 0 rfl) ?_
    refine lv_iconst (v := 1) hx hb dX12_forHead_85 (by decide) ?_
    refine lv_bipush (v := 16) hx hb dX12_forHead_86 (by decide) ?_
    obtain ⟨p50, hcp50, hf⟩ := hf_bind hf
    have hFc := r_free hD hS hA
    refine va_callv (va_runV (As := [.int 1, .int 16]) (rest := []) ⟨hx, hb, hml, hown, hts⟩ (c_X12_then l dC dI _ Q N p38 1 16 p50 hcp50) (cwV 2 hts hX12_forHead_X12_then_v393 rfl rfl rfl (by decide +kernel) ⟨Nat.le_of_ble_eq_true rfl, Nat.le_of_ble_eq_true rfl⟩) ⟨zPre.blind, va_recv hK hP (ci := 11) (q0 := 0) rfl rfl, zPre.go hZ hP hK hD⟩ rfl rfl hl.1 rfl (lv_room (Nat.le_of_ble_eq_true rfl)) dX12_forHead_88 ⟨Nat.le_of_ble_eq_true rfl, Nat.le_of_ble_eq_true rfl⟩) hS (fun q _ h => hFc q h) hFc (fun u9 t9 H1 locs ht hvm hw hB hz1 hk1 hS => ?_)
    obtain ⟨hP, hK1, hD1⟩ := hB
    rw [ht] at hP
    have hD := hD1.weaken (fun _ _ _ h => hFc _ h)
    generalize H1 = H at hP hS ⊢
    refine lv_goto (tgt := 142) hx hb dX12_forHead_91 (by decide) ?_
    exact j_X12_forHead_142 l dC dI Q N R hx hb hr hml hown hts hlocks hZ hA hK p50 _ _ _ hf hP hD hS (lv_sub hl [] rfl)
set_option maxHeartbeats 4000000 in
set_option maxRecDepth 100000 in
theorem j_X12_forHead_61 {p : Program} {e : Env} {s : State} {m : MethodId} {args : Array Value} {below : List Frame} {meth : Method} {c : Code} {A : Nat → Prop} (l : Launch) (dC : Nat → ClassId) (dI : Nat → Nat → Nat) (Q : RQ) (N : Nat) (R : RS) (hx : p.tables.exec = Jvm.exec) (hb : c.code = cX12_forHead) (hr : meth.sig.returnType = none) (hml : c.maxLocals = 3) (hown : s.vm.findClass RX12 = some m.cls) (hts : ∀ w ∈ wzX12_forHead, w.before args s = true) (hlocks : meth.locks = false) (hZ : zAMB s) (hA : ∀ q : Nat, s.heap.size ≤ q → A q) (hK : va_K (dC, dI) vwCl (rT Q) s) : ∀ (σ : RS) (x1 : Int32) (H : Heap) (locs : List Loc) (ls : Array Slot), f_X12_forHead_61 N σ x1 = some R → va_P (dC, dI) vwCl (rW Q σ) H → va_D A (rW Q σ) → va_S A s.heap H locs → lv_has ls 3 [(0, .ref Q.h0), (1, .int x1)] → W p l e ({ frames := 5, cells := 0, slots := 0, locals := 300 }) s m args below meth c H locs 0 0 (MQ below (va_Qv (fun (_ : Unit) => True) (fun (_ : Unit) (t : State) => zPost dC dI A (rW Q R) (rT Q) t) A) args s 0 0 A) (F0 m 61 ls []) := by
  intro σ x1 H locs ls hf hP hD hS hl
  unfold f_X12_forHead_61 at hf
  refine lv_aload_n hx hb dX12_forHead_61 rfl (lv_at hl 0 rfl) ?_
  refine rG_10 (v := (σ.i 10)) hx hb hts i_X12_forHead_X12 hown hK hP (hts (.fieldLink RX12 307 "StatementRules2Model" "tok" "I") k_X12_forHead_fieldLink_RX12_307_SRModel_tok_I) dX12_forHead_62 rfl ?_
  refine lv_bipush (v := 58) hx hb dX12_forHead_65 (by decide) ?_
  refine lv_icmp_ne (tgt := 74) hx hb dX12_forHead_67 (by decide) (fun c37 => ?_) (fun c37 => ?_)
  ·
    replace hf := (if_neg c37).symm.trans hf
    refine lv_iconst (v := 0) hx hb dX12_forHead_74 (by decide) ?_
    refine lv_istore_n (lv' := [(2, .int 0), (0, .ref Q.h0), (1, .int x1)]) hx hb dX12_forHead_75 rfl hl (by decide) rfl (fun ls hl => ?_)
    exact j_X12_forHead_76 l dC dI Q N R hx hb hr hml hown hts hlocks hZ hA hK σ x1 0 _ _ _ hf hP hD hS (lv_sub hl [1, 2, 0] rfl)
  ·
    replace hf := (if_pos c37).symm.trans hf
    refine lv_iconst (v := 1) hx hb dX12_forHead_70 (by decide) ?_
    refine lv_goto (tgt := 75) hx hb dX12_forHead_71 (by decide) ?_
    refine lv_istore_n (lv' := [(2, .int 1), (0, .ref Q.h0), (1, .int x1)]) hx hb dX12_forHead_75 rfl hl (by decide) rfl (fun ls hl => ?_)
    exact j_X12_forHead_76 l dC dI Q N R hx hb hr hml hown hts hlocks hZ hA hK σ x1 1 _ _ _ hf hP hD hS (lv_sub hl [1, 2, 0] rfl)
set_option maxHeartbeats 4000000 in
set_option maxRecDepth 100000 in
theorem c_X12_forHead (l : Launch) (dC : Nat → ClassId) (dI : Nat → Nat → Nat) (sz : Nat) (Q : RQ) (N : Nat) (σ : RS) (x1 : Int32) (R : RS) (hf : f_X12_forHead N σ x1 = some R) : Met l yX12_forHead wzX12_forHead ({ frames := 5, cells := 0, slots := 0, locals := 300 }) (va_Pc [.ref Q.h0, .int x1] (zPre dC dI sz (rW Q σ) (rT Q))) (va_Qv (fun (_ : Unit) => True) (fun (_ : Unit) (t : State) => zPost dC dI (va_A (rW Q σ) sz) (rW Q R) (rT Q) t) (va_A (rW Q σ) sz)) 0 0 (va_A (rW Q σ) sz) := by
  refine Met.ofW (cc := cX12_forHead) (maxL := 3) (ret := none) (by decide) rfl ?_
  intro p e s m args below meth c s₁ B hml hv
  obtain ⟨rfl, hsz, hZ, hP, hK, hD0⟩ := hv
  have hx := B.exec
  have hb := B.bytes
  have hr := B.returns
  have hts := atoms_spec (ws := wzX12_forHead) B.pre
  have hown : s.vm.findClass RX12 = some m.cls := findClass_of_methodNamed B.named
  have hlocks := B.notSynchronized
  subst hsz
  have hD := hD0.self (sz := s.heap.size)
  generalize hAe : va_A (rW Q σ) s.heap.size = A at hD ⊢
  have hA : ∀ q : Nat, s.heap.size ≤ q → A q := fun q h => by rw [← hAe]; exact Or.inr h
  have hS : va_S A s.heap s.heap [] := va_S.rf
  have hl := lv_entry ([.ref Q.h0, .int x1]) (n := 3) (Nat.le_of_ble_eq_true rfl)
  rw [lg_entry_eq]
  generalize (lg_sl ([.ref Q.h0, .int x1]) ++ List.replicate (3 - (lg_sl ([.ref Q.h0, .int x1])).length) Slot.unset).toArray = ls at hl ⊢
  have hl : lv_has ls 3 [(0, .ref Q.h0), (1, .int x1)] := hl
  unfold f_X12_forHead at hf
  refine lv_aload_n hx hb dX12_forHead_0 rfl (lv_at hl 0 rfl) ?_
  refine rG_15 (v := (σ.i 15)) hx hb hts i_X12_forHead_X12 hown hK hP (hts (.fieldLink RX12 291 "StatementRules2Model" "fault" "I") k_X12_forHead_fieldLink_RX12_291_SRModel_fault_I) dX12_forHead_1 rfl ?_
  refine lv_if_eq (tgt := 8) hx hb dX12_forHead_4 (by decide) (fun c1 => ?_) (fun c1 => ?_)
  ·
    replace hf := (if_pos c1).symm.trans hf
    refine lv_aload_n hx hb dX12_forHead_8 rfl (lv_at hl 0 rfl) ?_
    refine rG_10 (v := (σ.i 10)) hx hb hts i_X12_forHead_X12 hown hK hP (hts (.fieldLink RX12 307 "StatementRules2Model" "tok" "I") k_X12_forHead_fieldLink_RX12_307_SRModel_tok_I) dX12_forHead_9 rfl ?_
    refine lv_sipush (v := 410) hx hb dX12_forHead_12 (by decide) ?_
    refine lv_icmp_ne (tgt := 145) hx hb dX12_forHead_15 (by decide) (fun c2 => ?_) (fun c2 => ?_)
    ·
      replace hf := (if_neg c2).symm.trans hf
      refine lv_aload_n hx hb dX12_forHead_145 rfl (lv_at hl 0 rfl) ?_
      refine rG_10 (v := (σ.i 10)) hx hb hts i_X12_forHead_X12 hown hK hP (hts (.fieldLink RX12 307 "StatementRules2Model" "tok" "I") k_X12_forHead_fieldLink_RX12_307_SRModel_tok_I) dX12_forHead_146 rfl ?_
      refine lv_iconst (v := 2) hx hb dX12_forHead_149 (by decide) ?_
      refine lv_icmp_ne (tgt := 210) hx hb dX12_forHead_150 (by decide) (fun c3 => ?_) (fun c3 => ?_)
      ·
        replace hf := (if_neg c3).symm.trans hf
        refine lv_aload_n hx hb dX12_forHead_210 rfl (lv_at hl 0 rfl) ?_
        refine lv_aload_n hx hb dX12_forHead_211 rfl (lv_at hl 0 rfl) ?_
        refine rG_10 (v := (σ.i 10)) hx hb hts i_X12_forHead_X12 hown hK hP (hts (.fieldLink RX12 307 "StatementRules2Model" "tok" "I") k_X12_forHead_fieldLink_RX12_307_SRModel_tok_I) dX12_forHead_212 rfl ?_
        refine lv_bipush (v := 59) hx hb dX12_forHead_215 (by decide) ?_
        refine lv_icmp_ne (tgt := 224) hx hb dX12_forHead_217 (by decide) (fun c4 => ?_) (fun c4 => ?_)
        ·
          replace hf := (if_neg c4).symm.trans hf
          refine lv_iconst (v := 0) hx hb dX12_forHead_224 (by decide) ?_
          obtain ⟨p5, hcp5, hf⟩ := hf_bind hf
          have hFc := r_free hD hS hA
          refine va_calli (va_runV (As := [.int 0]) (rest := []) ⟨hx, hb, hml, hown, hts⟩ (c_X12_can l dC dI _ Q N σ 0 p5 hcp5) (cwV 1 hts hX12_forHead_X12_can_v341 rfl rfl rfl (by decide +kernel) ⟨Nat.le_of_ble_eq_true rfl, Nat.le_of_ble_eq_true rfl⟩) ⟨zPre.blind, va_recv hK hP (ci := 11) (q0 := 0) rfl rfl, zPre.go hZ hP hK hD⟩ rfl rfl hl.1 rfl (lv_room (Nat.le_of_ble_eq_true rfl)) dX12_forHead_225 ⟨Nat.le_of_ble_eq_true rfl, Nat.le_of_ble_eq_true rfl⟩) hS (fun q _ h => hFc q h) hFc (fun r6 u9 t9 H1 locs ht hvm hw hB hz1 hk1 hS => ?_)
          obtain ⟨hP, hK1, hD1⟩ := hB
          rw [ht] at hP
          have hD := hD1.weaken (fun _ _ _ h => hFc _ h)
          generalize H1 = H at hP hS ⊢
          obtain rfl : r6 = p5.1 := hw
          refine lv_if_eq (tgt := 238) hx hb dX12_forHead_228 (by decide) (fun c7 => ?_) (fun c7 => ?_)
          ·
            replace hf := (if_pos c7).symm.trans hf
            obtain rfl := Option.some.inj hf
            exact W.vret hx hb hr (fun t ht hW => ⟨⟨(), rfl, trivial, by rw [ht]; exact hP, va_K.moved hW.alike hK, hD⟩, hS.F ht⟩) hS.2.2 dX12_forHead_238
          ·
            replace hf := (if_neg c7).symm.trans hf
            exact j_X12_forHead_231 l dC dI Q N R hx hb hr hml hown hts hlocks hZ hA hK p5.2 x1 _ _ _ hf hP hD hS (lv_sub hl [0, 1] rfl)
        ·
          replace hf := (if_pos c4).symm.trans hf
          refine lv_iconst (v := 1) hx hb dX12_forHead_220 (by decide) ?_
          refine lv_goto (tgt := 225) hx hb dX12_forHead_221 (by decide) ?_
          obtain ⟨p9, hcp9, hf⟩ := hf_bind hf
          have hFc := r_free hD hS hA
          refine va_calli (va_runV (As := [.int 1]) (rest := []) ⟨hx, hb, hml, hown, hts⟩ (c_X12_can l dC dI _ Q N σ 1 p9 hcp9) (cwV 1 hts hX12_forHead_X12_can_v341 rfl rfl rfl (by decide +kernel) ⟨Nat.le_of_ble_eq_true rfl, Nat.le_of_ble_eq_true rfl⟩) ⟨zPre.blind, va_recv hK hP (ci := 11) (q0 := 0) rfl rfl, zPre.go hZ hP hK hD⟩ rfl rfl hl.1 rfl (lv_room (Nat.le_of_ble_eq_true rfl)) dX12_forHead_225 ⟨Nat.le_of_ble_eq_true rfl, Nat.le_of_ble_eq_true rfl⟩) hS (fun q _ h => hFc q h) hFc (fun r10 u9 t9 H1 locs ht hvm hw hB hz1 hk1 hS => ?_)
          obtain ⟨hP, hK1, hD1⟩ := hB
          rw [ht] at hP
          have hD := hD1.weaken (fun _ _ _ h => hFc _ h)
          generalize H1 = H at hP hS ⊢
          obtain rfl : r10 = p9.1 := hw
          refine lv_if_eq (tgt := 238) hx hb dX12_forHead_228 (by decide) (fun c11 => ?_) (fun c11 => ?_)
          ·
            replace hf := (if_pos c11).symm.trans hf
            obtain rfl := Option.some.inj hf
            exact W.vret hx hb hr (fun t ht hW => ⟨⟨(), rfl, trivial, by rw [ht]; exact hP, va_K.moved hW.alike hK, hD⟩, hS.F ht⟩) hS.2.2 dX12_forHead_238
          ·
            replace hf := (if_neg c11).symm.trans hf
            exact j_X12_forHead_231 l dC dI Q N R hx hb hr hml hown hts hlocks hZ hA hK p9.2 x1 _ _ _ hf hP hD hS (lv_sub hl [0, 1] rfl)
      ·
        replace hf := (if_pos c3).symm.trans hf
        refine lv_aload_n hx hb dX12_forHead_153 rfl (lv_at hl 0 rfl) ?_
        refine rG_66 hx hb hts i_X12_forHead_X12 hown hK hP (hts (.fieldLink RX12 180 "StatementRules2Model" "fp" "[I") k_X12_forHead_fieldLink_RX12_180_SRModel_fp_I) dX12_forHead_154 ?_
        refine lv_iload_n hx hb dX12_forHead_157 rfl (lv_at hl 1 rfl) ?_
        refine lv_aload_n hx hb dX12_forHead_158 rfl (lv_at hl 0 rfl) ?_
        refine lv_aload_n hx hb dX12_forHead_159 rfl (lv_at hl 0 rfl) ?_
        refine rG_13 (v := σ.l) hx hb hts i_X12_forHead_X12 hown hK hP (hts (.fieldLink RX12 327 "StatementRules2Model" "name" "J") k_X12_forHead_fieldLink_RX12_327_SRModel_name_J) dX12_forHead_160 rfl ?_
        refine lv_aload_n hx hb dX12_forHead_163 rfl (lv_at hl 0 rfl) ?_
        refine rG_11 (v := (σ.i 11)) hx hb hts i_X12_forHead_X12 hown hK hP (hts (.fieldLink RX12 304 "StatementRules2Model" "from" "I") k_X12_forHead_fieldLink_RX12_304_SRModel_from_I) dX12_forHead_164 rfl ?_
        obtain ⟨p12, hcp12, hf⟩ := hf_bind hf
        have hFc := r_free hD hS hA
        refine va_calli (va_runV (As := [.long σ.l, .int (σ.i 11)]) (rest := [.int x1, .ref (Q.q 66)]) ⟨hx, hb, hml, hown, hts⟩ (c_X12_got l dC dI _ Q N σ σ.l (σ.i 11) p12 hcp12) (cwV 2 hts hX12_forHead_X12_got_v517 rfl rfl rfl (by decide +kernel) ⟨Nat.le_of_ble_eq_true rfl, Nat.le_of_ble_eq_true rfl⟩) ⟨zPre.blind, va_recv hK hP (ci := 11) (q0 := 0) rfl rfl, zPre.go hZ hP hK hD⟩ rfl rfl hl.1 rfl (lv_room (Nat.le_of_ble_eq_true rfl)) dX12_forHead_167 ⟨Nat.le_of_ble_eq_true rfl, Nat.le_of_ble_eq_true rfl⟩) hS (fun q _ h => hFc q h) hFc (fun r13 u9 t9 H1 locs ht hvm hw hB hz1 hk1 hS => ?_)
        obtain ⟨hP, hK1, hD1⟩ := hB
        rw [ht] at hP
        have hD := hD1.weaken (fun _ _ _ h => hFc _ h)
        generalize H1 = H at hP hS ⊢
        obtain rfl : r13 = p12.1 := hw
        obtain ⟨b14, hf⟩ := hf_ite hf
        refine rS_66 hx hb hK hP hD hS b14 dX12_forHead_170 (fun H locs hP hD hS => ?_)
        refine lv_aload_n hx hb dX12_forHead_171 rfl (lv_at hl 0 rfl) ?_
        obtain ⟨p15, hcp15, hf⟩ := hf_bind hf
        have hFc := r_free hD hS hA
        refine va_callv (va_runV (As := []) (rest := []) ⟨hx, hb, hml, hown, hts⟩ (c_X12_next l dC dI _ Q N (RS.setA p12.2 66 ((x1 : Int32).toNatClampNeg) p12.1) p15 hcp15) (cwV 0 hts hX12_forHead_X12_next_v345 rfl rfl rfl (by decide +kernel) ⟨Nat.le_of_ble_eq_true rfl, Nat.le_of_ble_eq_true rfl⟩) ⟨zPre.blind, va_recv hK hP (ci := 11) (q0 := 0) rfl rfl, zPre.go hZ hP hK hD⟩ rfl rfl hl.1 rfl (lv_room (Nat.le_of_ble_eq_true rfl)) dX12_forHead_172 ⟨Nat.le_of_ble_eq_true rfl, Nat.le_of_ble_eq_true rfl⟩) hS (fun q _ h => hFc q h) hFc (fun u9 t9 H1 locs ht hvm hw hB hz1 hk1 hS => ?_)
        obtain ⟨hP, hK1, hD1⟩ := hB
        rw [ht] at hP
        have hD := hD1.weaken (fun _ _ _ h => hFc _ h)
        generalize H1 = H at hP hS ⊢
        refine lv_aload_n hx hb dX12_forHead_175 rfl (lv_at hl 0 rfl) ?_
        refine lv_aload_n hx hb dX12_forHead_176 rfl (lv_at hl 0 rfl) ?_
        refine rG_10 (v := (p15.i 10)) hx hb hts i_X12_forHead_X12 hown hK hP (hts (.fieldLink RX12 307 "StatementRules2Model" "tok" "I") k_X12_forHead_fieldLink_RX12_307_SRModel_tok_I) dX12_forHead_177 rfl ?_
        refine lv_bipush (v := 61) hx hb dX12_forHead_180 (by decide) ?_
        refine lv_icmp_ne (tgt := 189) hx hb dX12_forHead_182 (by decide) (fun c17 => ?_) (fun c17 => ?_)
        ·
          replace hf := (if_neg c17).symm.trans hf
          refine lv_iconst (v := 0) hx hb dX12_forHead_189 (by decide) ?_
          obtain ⟨p18, hcp18, hf⟩ := hf_bind hf
          have hFc := r_free hD hS hA
          refine va_calli (va_runV (As := [.int 0]) (rest := []) ⟨hx, hb, hml, hown, hts⟩ (c_X12_can l dC dI _ Q N p15 0 p18 hcp18) (cwV 1 hts hX12_forHead_X12_can_v341 rfl rfl rfl (by decide +kernel) ⟨Nat.le_of_ble_eq_true rfl, Nat.le_of_ble_eq_true rfl⟩) ⟨zPre.blind, va_recv hK hP (ci := 11) (q0 := 0) rfl rfl, zPre.go hZ hP hK hD⟩ rfl rfl hl.1 rfl (lv_room (Nat.le_of_ble_eq_true rfl)) dX12_forHead_190 ⟨Nat.le_of_ble_eq_true rfl, Nat.le_of_ble_eq_true rfl⟩) hS (fun q _ h => hFc q h) hFc (fun r19 u9 t9 H1 locs ht hvm hw hB hz1 hk1 hS => ?_)
          obtain ⟨hP, hK1, hD1⟩ := hB
          rw [ht] at hP
          have hD := hD1.weaken (fun _ _ _ h => hFc _ h)
          generalize H1 = H at hP hS ⊢
          obtain rfl : r19 = p18.1 := hw
          refine lv_if_eq (tgt := 238) hx hb dX12_forHead_193 (by decide) (fun c20 => ?_) (fun c20 => ?_)
          ·
            replace hf := (if_pos c20).symm.trans hf
            obtain rfl := Option.some.inj hf
            exact W.vret hx hb hr (fun t ht hW => ⟨⟨(), rfl, trivial, by rw [ht]; exact hP, va_K.moved hW.alike hK, hD⟩, hS.F ht⟩) hS.2.2 dX12_forHead_238
          ·
            replace hf := (if_neg c20).symm.trans hf
            exact j_X12_forHead_196 l dC dI Q N R hx hb hr hml hown hts hlocks hZ hA hK p18.2 _ _ _ hf hP hD hS (lv_sub hl [0] rfl)
        ·
          replace hf := (if_pos c17).symm.trans hf
          refine lv_iconst (v := 1) hx hb dX12_forHead_185 (by decide) ?_
          refine lv_goto (tgt := 190) hx hb dX12_forHead_186 (by decide) ?_
          obtain ⟨p25, hcp25, hf⟩ := hf_bind hf
          have hFc := r_free hD hS hA
          refine va_calli (va_runV (As := [.int 1]) (rest := []) ⟨hx, hb, hml, hown, hts⟩ (c_X12_can l dC dI _ Q N p15 1 p25 hcp25) (cwV 1 hts hX12_forHead_X12_can_v341 rfl rfl rfl (by decide +kernel) ⟨Nat.le_of_ble_eq_true rfl, Nat.le_of_ble_eq_true rfl⟩) ⟨zPre.blind, va_recv hK hP (ci := 11) (q0 := 0) rfl rfl, zPre.go hZ hP hK hD⟩ rfl rfl hl.1 rfl (lv_room (Nat.le_of_ble_eq_true rfl)) dX12_forHead_190 ⟨Nat.le_of_ble_eq_true rfl, Nat.le_of_ble_eq_true rfl⟩) hS (fun q _ h => hFc q h) hFc (fun r26 u9 t9 H1 locs ht hvm hw hB hz1 hk1 hS => ?_)
          obtain ⟨hP, hK1, hD1⟩ := hB
          rw [ht] at hP
          have hD := hD1.weaken (fun _ _ _ h => hFc _ h)
          generalize H1 = H at hP hS ⊢
          obtain rfl : r26 = p25.1 := hw
          refine lv_if_eq (tgt := 238) hx hb dX12_forHead_193 (by decide) (fun c27 => ?_) (fun c27 => ?_)
          ·
            replace hf := (if_pos c27).symm.trans hf
            obtain rfl := Option.some.inj hf
            exact W.vret hx hb hr (fun t ht hW => ⟨⟨(), rfl, trivial, by rw [ht]; exact hP, va_K.moved hW.alike hK, hD⟩, hS.F ht⟩) hS.2.2 dX12_forHead_238
          ·
            replace hf := (if_neg c27).symm.trans hf
            exact j_X12_forHead_196 l dC dI Q N R hx hb hr hml hown hts hlocks hZ hA hK p25.2 _ _ _ hf hP hD hS (lv_sub hl [0] rfl)
    ·
      replace hf := (if_pos c2).symm.trans hf
      refine lv_aload_n hx hb dX12_forHead_18 rfl (lv_at hl 0 rfl) ?_
      obtain ⟨p28, hcp28, hf⟩ := hf_bind hf
      have hFc := r_free hD hS hA
      refine va_callv (va_runV (As := []) (rest := []) ⟨hx, hb, hml, hown, hts⟩ (c_X12_next l dC dI _ Q N σ p28 hcp28) (cwV 0 hts hX12_forHead_X12_next_v345 rfl rfl rfl (by decide +kernel) ⟨Nat.le_of_ble_eq_true rfl, Nat.le_of_ble_eq_true rfl⟩) ⟨zPre.blind, va_recv hK hP (ci := 11) (q0 := 0) rfl rfl, zPre.go hZ hP hK hD⟩ rfl rfl hl.1 rfl (lv_room (Nat.le_of_ble_eq_true rfl)) dX12_forHead_19 ⟨Nat.le_of_ble_eq_true rfl, Nat.le_of_ble_eq_true rfl⟩) hS (fun q _ h => hFc q h) hFc (fun u9 t9 H1 locs ht hvm hw hB hz1 hk1 hS => ?_)
      obtain ⟨hP, hK1, hD1⟩ := hB
      rw [ht] at hP
      have hD := hD1.weaken (fun _ _ _ h => hFc _ h)
      generalize H1 = H at hP hS ⊢
      refine lv_aload_n hx hb dX12_forHead_22 rfl (lv_at hl 0 rfl) ?_
      refine lv_iload_n hx hb dX12_forHead_23 rfl (lv_at hl 1 rfl) ?_
      obtain ⟨p30, hcp30, hf⟩ := hf_bind hf
      have hFc := r_free hD hS hA
      refine va_calli (va_runV (As := [.int x1]) (rest := []) ⟨hx, hb, hml, hown, hts⟩ (c_X12_telling l dC dI _ Q N p28 x1 p30 hcp30) (cwV 1 hts hX12_forHead_X12_telling_v503 rfl rfl rfl (by decide +kernel) ⟨Nat.le_of_ble_eq_true rfl, Nat.le_of_ble_eq_true rfl⟩) ⟨zPre.blind, va_recv hK hP (ci := 11) (q0 := 0) rfl rfl, zPre.go hZ hP hK hD⟩ rfl rfl hl.1 rfl (lv_room (Nat.le_of_ble_eq_true rfl)) dX12_forHead_24 ⟨Nat.le_of_ble_eq_true rfl, Nat.le_of_ble_eq_true rfl⟩) hS (fun q _ h => hFc q h) hFc (fun r31 u9 t9 H1 locs ht hvm hw hB hz1 hk1 hS => ?_)
      obtain ⟨hP, hK1, hD1⟩ := hB
      rw [ht] at hP
      have hD := hD1.weaken (fun _ _ _ h => hFc _ h)
      generalize H1 = H at hP hS ⊢
      obtain rfl : r31 = p30.1 := hw
      refine lv_if_eq (tgt := 60) hx hb dX12_forHead_27 (by decide) (fun c32 => ?_) (fun c32 => ?_)
      ·
        replace hf := (if_pos c32).symm.trans hf
        obtain rfl := Option.some.inj hf
        exact W.vret hx hb hr (fun t ht hW => ⟨⟨(), rfl, trivial, by rw [ht]; exact hP, va_K.moved hW.alike hK, hD⟩, hS.F ht⟩) hS.2.2 dX12_forHead_60
      ·
        replace hf := (if_neg c32).symm.trans hf
        refine lv_aload_n hx hb dX12_forHead_30 rfl (lv_at hl 0 rfl) ?_
        refine lv_aload_n hx hb dX12_forHead_31 rfl (lv_at hl 0 rfl) ?_
        refine rG_10 (v := (p30.2.i 10)) hx hb hts i_X12_forHead_X12 hown hK hP (hts (.fieldLink RX12 307 "StatementRules2Model" "tok" "I") k_X12_forHead_fieldLink_RX12_307_SRModel_tok_I) dX12_forHead_32 rfl ?_
        refine lv_bipush (v := 61) hx hb dX12_forHead_35 (by decide) ?_
        refine lv_icmp_eq (tgt := 49) hx hb dX12_forHead_37 (by decide) (fun c33 => ?_) (fun c33 => ?_)
        ·
          replace hf := (if_pos c33).symm.trans hf
          refine lv_iconst (v := 1) hx hb dX12_forHead_49 (by decide) ?_
          refine lv_goto (tgt := 54) hx hb dX12_forHead_50 (by decide) ?_
          obtain ⟨p34, hcp34, hf⟩ := hf_bind hf
          have hFc := r_free hD hS hA
          refine va_calli (va_runV (As := [.int 1]) (rest := []) ⟨hx, hb, hml, hown, hts⟩ (c_X12_can l dC dI _ Q N p30.2 1 p34 hcp34) (cwV 1 hts hX12_forHead_X12_can_v341 rfl rfl rfl (by decide +kernel) ⟨Nat.le_of_ble_eq_true rfl, Nat.le_of_ble_eq_true rfl⟩) ⟨zPre.blind, va_recv hK hP (ci := 11) (q0 := 0) rfl rfl, zPre.go hZ hP hK hD⟩ rfl rfl hl.1 rfl (lv_room (Nat.le_of_ble_eq_true rfl)) dX12_forHead_54 ⟨Nat.le_of_ble_eq_true rfl, Nat.le_of_ble_eq_true rfl⟩) hS (fun q _ h => hFc q h) hFc (fun r35 u9 t9 H1 locs ht hvm hw hB hz1 hk1 hS => ?_)
          obtain ⟨hP, hK1, hD1⟩ := hB
          rw [ht] at hP
          have hD := hD1.weaken (fun _ _ _ h => hFc _ h)
          generalize H1 = H at hP hS ⊢
          obtain rfl : r35 = p34.1 := hw
          refine lv_if_ne (tgt := 61) hx hb dX12_forHead_57 (by decide) (fun c36 => ?_) (fun c36 => ?_)
          ·
            replace hf := (if_neg c36).symm.trans hf
            exact j_X12_forHead_61 l dC dI Q N R hx hb hr hml hown hts hlocks hZ hA hK p34.2 x1 _ _ _ hf hP hD hS (lv_sub hl [0, 1] rfl)
          ·
            replace hf := (if_pos c36).symm.trans hf
            obtain rfl := Option.some.inj hf
            exact W.vret hx hb hr (fun t ht hW => ⟨⟨(), rfl, trivial, by rw [ht]; exact hP, va_K.moved hW.alike hK, hD⟩, hS.F ht⟩) hS.2.2 dX12_forHead_60
        ·
          replace hf := (if_neg c33).symm.trans hf
          refine lv_aload_n hx hb dX12_forHead_40 rfl (lv_at hl 0 rfl) ?_
          refine rG_10 (v := (p30.2.i 10)) hx hb hts i_X12_forHead_X12 hown hK hP (hts (.fieldLink RX12 307 "StatementRules2Model" "tok" "I") k_X12_forHead_fieldLink_RX12_307_SRModel_tok_I) dX12_forHead_41 rfl ?_
          refine lv_bipush (v := 58) hx hb dX12_forHead_44 (by decide) ?_
          refine lv_icmp_ne (tgt := 53) hx hb dX12_forHead_46 (by decide) (fun c52 => ?_) (fun c52 => ?_)
          ·
            replace hf := (if_neg c52).symm.trans hf
            refine lv_iconst (v := 0) hx hb dX12_forHead_53 (by decide) ?_
            obtain ⟨p53, hcp53, hf⟩ := hf_bind hf
            have hFc := r_free hD hS hA
            refine va_calli (va_runV (As := [.int 0]) (rest := []) ⟨hx, hb, hml, hown, hts⟩ (c_X12_can l dC dI _ Q N p30.2 0 p53 hcp53) (cwV 1 hts hX12_forHead_X12_can_v341 rfl rfl rfl (by decide +kernel) ⟨Nat.le_of_ble_eq_true rfl, Nat.le_of_ble_eq_true rfl⟩) ⟨zPre.blind, va_recv hK hP (ci := 11) (q0 := 0) rfl rfl, zPre.go hZ hP hK hD⟩ rfl rfl hl.1 rfl (lv_room (Nat.le_of_ble_eq_true rfl)) dX12_forHead_54 ⟨Nat.le_of_ble_eq_true rfl, Nat.le_of_ble_eq_true rfl⟩) hS (fun q _ h => hFc q h) hFc (fun r54 u9 t9 H1 locs ht hvm hw hB hz1 hk1 hS => ?_)
            obtain ⟨hP, hK1, hD1⟩ := hB
            rw [ht] at hP
            have hD := hD1.weaken (fun _ _ _ h => hFc _ h)
            generalize H1 = H at hP hS ⊢
            obtain rfl : r54 = p53.1 := hw
            refine lv_if_ne (tgt := 61) hx hb dX12_forHead_57 (by decide) (fun c55 => ?_) (fun c55 => ?_)
            ·
              replace hf := (if_neg c55).symm.trans hf
              exact j_X12_forHead_61 l dC dI Q N R hx hb hr hml hown hts hlocks hZ hA hK p53.2 x1 _ _ _ hf hP hD hS (lv_sub hl [0, 1] rfl)
            ·
              replace hf := (if_pos c55).symm.trans hf
              obtain rfl := Option.some.inj hf
              exact W.vret hx hb hr (fun t ht hW => ⟨⟨(), rfl, trivial, by rw [ht]; exact hP, va_K.moved hW.alike hK, hD⟩, hS.F ht⟩) hS.2.2 dX12_forHead_60
          ·
            replace hf := (if_pos c52).symm.trans hf
            refine lv_iconst (v := 1) hx hb dX12_forHead_49 (by decide) ?_
            refine lv_goto (tgt := 54) hx hb dX12_forHead_50 (by decide) ?_
            obtain ⟨p56, hcp56, hf⟩ := hf_bind hf
            have hFc := r_free hD hS hA
            refine va_calli (va_runV (As := [.int 1]) (rest := []) ⟨hx, hb, hml, hown, hts⟩ (c_X12_can l dC dI _ Q N p30.2 1 p56 hcp56) (cwV 1 hts hX12_forHead_X12_can_v341 rfl rfl rfl (by decide +kernel) ⟨Nat.le_of_ble_eq_true rfl, Nat.le_of_ble_eq_true rfl⟩) ⟨zPre.blind, va_recv hK hP (ci := 11) (q0 := 0) rfl rfl, zPre.go hZ hP hK hD⟩ rfl rfl hl.1 rfl (lv_room (Nat.le_of_ble_eq_true rfl)) dX12_forHead_54 ⟨Nat.le_of_ble_eq_true rfl, Nat.le_of_ble_eq_true rfl⟩) hS (fun q _ h => hFc q h) hFc (fun r57 u9 t9 H1 locs ht hvm hw hB hz1 hk1 hS => ?_)
            obtain ⟨hP, hK1, hD1⟩ := hB
            rw [ht] at hP
            have hD := hD1.weaken (fun _ _ _ h => hFc _ h)
            generalize H1 = H at hP hS ⊢
            obtain rfl : r57 = p56.1 := hw
            refine lv_if_ne (tgt := 61) hx hb dX12_forHead_57 (by decide) (fun c58 => ?_) (fun c58 => ?_)
            ·
              replace hf := (if_neg c58).symm.trans hf
              exact j_X12_forHead_61 l dC dI Q N R hx hb hr hml hown hts hlocks hZ hA hK p56.2 x1 _ _ _ hf hP hD hS (lv_sub hl [0, 1] rfl)
            ·
              replace hf := (if_pos c58).symm.trans hf
              obtain rfl := Option.some.inj hf
              exact W.vret hx hb hr (fun t ht hW => ⟨⟨(), rfl, trivial, by rw [ht]; exact hP, va_K.moved hW.alike hK, hD⟩, hS.F ht⟩) hS.2.2 dX12_forHead_60
  ·
    replace hf := (if_neg c1).symm.trans hf
    obtain rfl := Option.some.inj hf
    exact W.vret hx hb hr (fun t ht hW => ⟨⟨(), rfl, trivial, by rw [ht]; exact hP, va_K.moved hW.alike hK, hD⟩, hS.F ht⟩) hS.2.2 dX12_forHead_7
theorem k_X12_forBehind_fieldLink_RX12_183_SRModel_fq_I : Cond.fieldLink RX12 183 "StatementRules2Model" "fq" "[I" ∈ wzX12_forBehind := List.mem_cons_of_mem _ (List.mem_append_left _ (List.mem_of_getElem? (i := 0) rfl))
theorem i_X12_forBehind_X12 : ∀ w ∈ wsX120, w ∈ wzX12_forBehind := fun _ h => List.mem_cons_of_mem _ (List.mem_append_right _ (List.mem_append_left _ (h)))
theorem k_X12_forBehind_fieldLink_RX12_186_SRModel_fr_I : Cond.fieldLink RX12 186 "StatementRules2Model" "fr" "[I" ∈ wzX12_forBehind := List.mem_cons_of_mem _ (List.mem_append_left _ (List.mem_of_getElem? (i := 1) rfl))
theorem k_X12_forBehind_fieldLink_RX12_192_SRModel_fw_I : Cond.fieldLink RX12 192 "StatementRules2Model" "fw" "[I" ∈ wzX12_forBehind := List.mem_cons_of_mem _ (List.mem_append_left _ (List.mem_of_getElem? (i := 2) rfl))
theorem k_X12_forBehind_fieldLink_RX12_358_SRModel_codes_I : Cond.fieldLink RX12 358 "StatementRules2Model" "codes" "I" ∈ wzX12_forBehind := List.mem_cons_of_mem _ (List.mem_append_left _ (List.mem_of_getElem? (i := 3) rfl))
theorem k_X12_forBehind_fieldLink_RX12_291_SRModel_fault_I : Cond.fieldLink RX12 291 "StatementRules2Model" "fault" "I" ∈ wzX12_forBehind := List.mem_cons_of_mem _ (List.mem_append_left _ (List.mem_of_getElem? (i := 4) rfl))
theorem k_X12_forBehind_fieldLink_RX12_177_SRModel_fs_I : Cond.fieldLink RX12 177 "StatementRules2Model" "fs" "[I" ∈ wzX12_forBehind := List.mem_cons_of_mem _ (List.mem_append_left _ (List.mem_of_getElem? (i := 5) rfl))
theorem k_X12_forBehind_fieldLink_RX12_307_SRModel_tok_I : Cond.fieldLink RX12 307 "StatementRules2Model" "tok" "I" ∈ wzX12_forBehind := List.mem_cons_of_mem _ (List.mem_append_left _ (List.mem_of_getElem? (i := 6) rfl))
theorem k_X12_forBehind_fieldLink_RX12_201_SRModel_fz_I : Cond.fieldLink RX12 201 "StatementRules2Model" "fz" "[I" ∈ wzX12_forBehind := List.mem_cons_of_mem _ (List.mem_append_left _ (List.mem_of_getElem? (i := 7) rfl))
theorem k_X12_forBehind_fieldLink_RX12_327_SRModel_name_J : Cond.fieldLink RX12 327 "StatementRules2Model" "name" "J" ∈ wzX12_forBehind := List.mem_cons_of_mem _ (List.mem_append_left _ (List.mem_of_getElem? (i := 8) rfl))
theorem k_X12_forBehind_fieldLink_RX12_304_SRModel_from_I : Cond.fieldLink RX12 304 "StatementRules2Model" "from" "I" ∈ wzX12_forBehind := List.mem_cons_of_mem _ (List.mem_append_left _ (List.mem_of_getElem? (i := 9) rfl))
set_option maxHeartbeats 4000000 in
set_option maxRecDepth 100000 in
theorem j_X12_forBehind_59 {p : Program} {e : Env} {s : State} {m : MethodId} {args : Array Value} {below : List Frame} {meth : Method} {c : Code} {A : Nat → Prop} (l : Launch) (dC : Nat → ClassId) (dI : Nat → Nat → Nat) (Q : RQ) (N : Nat) (R : RS) (hx : p.tables.exec = Jvm.exec) (hb : c.code = cX12_forBehind) (hr : meth.sig.returnType = none) (hml : c.maxLocals = 3) (hown : s.vm.findClass RX12 = some m.cls) (hts : ∀ w ∈ wzX12_forBehind, w.before args s = true) (hlocks : meth.locks = false) (hZ : zAMB s) (hA : ∀ q : Nat, s.heap.size ≤ q → A q) (hK : va_K (dC, dI) vwCl (rT Q) s) : ∀ (σ : RS) (x1 : Int32) (H : Heap) (locs : List Loc) (ls : Array Slot), f_X12_forBehind_59 N σ x1 = some R → va_P (dC, dI) vwCl (rW Q σ) H → va_D A (rW Q σ) → va_S A s.heap H locs → lv_has ls 3 [(0, .ref Q.h0), (1, .int x1)] → W p l e ({ frames := 5, cells := 0, slots := 0, locals := 300 }) s m args below meth c H locs 0 0 (MQ below (va_Qv (fun (_ : Unit) => True) (fun (_ : Unit) (t : State) => zPost dC dI A (rW Q R) (rT Q) t) A) args s 0 0 A) (F0 m 59 ls []) := by
  intro σ x1 H locs ls hf hP hD hS hl
  unfold f_X12_forBehind_59 at hf
  refine lv_aload_n hx hb dX12_forBehind_59 rfl (lv_at hl 0 rfl) ?_
  refine rG_65 hx hb hts i_X12_forBehind_X12 hown hK hP (hts (.fieldLink RX12 177 "StatementRules2Model" "fs" "[I") k_X12_forBehind_fieldLink_RX12_177_SRModel_fs_I) dX12_forBehind_60 ?_
  refine lv_iload_n hx hb dX12_forBehind_63 rfl (lv_at hl 1 rfl) ?_
  refine lv_bipush (v := 7) hx hb dX12_forBehind_64 (by decide) ?_
  obtain ⟨b9, hf⟩ := hf_ite hf
  refine rS_65 hx hb hK hP hD hS b9 dX12_forBehind_66 (fun H locs hP hD hS => ?_)
  obtain rfl := Option.some.inj hf
  exact W.vret hx hb hr (fun t ht hW => ⟨⟨(), rfl, trivial, by rw [ht]; exact hP, va_K.moved hW.alike hK, hD⟩, hS.F ht⟩) hS.2.2 dX12_forBehind_67
set_option maxHeartbeats 4000000 in
set_option maxRecDepth 100000 in
theorem j_X12_forBehind_159 {p : Program} {e : Env} {s : State} {m : MethodId} {args : Array Value} {below : List Frame} {meth : Method} {c : Code} {A : Nat → Prop} (l : Launch) (dC : Nat → ClassId) (dI : Nat → Nat → Nat) (Q : RQ) (N : Nat) (R : RS) (hx : p.tables.exec = Jvm.exec) (hb : c.code = cX12_forBehind) (hr : meth.sig.returnType = none) (hml : c.maxLocals = 3) (hown : s.vm.findClass RX12 = some m.cls) (hts : ∀ w ∈ wzX12_forBehind, w.before args s = true) (hlocks : meth.locks = false) (hZ : zAMB s) (hA : ∀ q : Nat, s.heap.size ≤ q → A q) (hK : va_K (dC, dI) vwCl (rT Q) s) : ∀ (σ : RS) (x1 : Int32) (x2 : Int32) (H : Heap) (locs : List Loc) (ls : Array Slot), f_X12_forBehind_159 N σ x1 x2 = some R → va_P (dC, dI) vwCl (rW Q σ) H → va_D A (rW Q σ) → va_S A s.heap H locs → lv_has ls 3 [(0, .ref Q.h0), (1, .int x1), (2, .int x2)] → W p l e ({ frames := 5, cells := 0, slots := 0, locals := 300 }) s m args below meth c H locs 0 0 (MQ below (va_Qv (fun (_ : Unit) => True) (fun (_ : Unit) (t : State) => zPost dC dI A (rW Q R) (rT Q) t) A) args s 0 0 A) (F0 m 159 ls []) := by
  intro σ x1 x2 H locs ls hf hP hD hS hl
  unfold f_X12_forBehind_159 at hf
  refine lv_aload_n hx hb dX12_forBehind_159 rfl (lv_at hl 0 rfl) ?_
  obtain ⟨p25, hcp25, hf⟩ := hf_bind hf
  have hFc := r_free hD hS hA
  refine va_callv (va_runV (As := []) (rest := []) ⟨hx, hb, hml, hown, hts⟩ (c_X12_next l dC dI _ Q N σ p25 hcp25) (cwV 0 hts hX12_forBehind_X12_next_v345 rfl rfl rfl (by decide +kernel) ⟨Nat.le_of_ble_eq_true rfl, Nat.le_of_ble_eq_true rfl⟩) ⟨zPre.blind, va_recv hK hP (ci := 11) (q0 := 0) rfl rfl, zPre.go hZ hP hK hD⟩ rfl rfl hl.1 rfl (lv_room (Nat.le_of_ble_eq_true rfl)) dX12_forBehind_160 ⟨Nat.le_of_ble_eq_true rfl, Nat.le_of_ble_eq_true rfl⟩) hS (fun q _ h => hFc q h) hFc (fun u9 t9 H1 locs ht hvm hw hB hz1 hk1 hS => ?_)
  obtain ⟨hP, hK1, hD1⟩ := hB
  rw [ht] at hP
  have hD := hD1.weaken (fun _ _ _ h => hFc _ h)
  generalize H1 = H at hP hS ⊢
  refine lv_iload_n hx hb dX12_forBehind_163 rfl (lv_at hl 2 rfl) ?_
  refine lv_if_eq (tgt := 191) hx hb dX12_forBehind_164 (by decide) (fun c27 => ?_) (fun c27 => ?_)
  ·
    replace hf := (if_pos c27).symm.trans hf
    refine lv_aload_n hx hb dX12_forBehind_191 rfl (lv_at hl 0 rfl) ?_
    refine lv_bipush (v := 6) hx hb dX12_forBehind_192 (by decide) ?_
    refine lv_bipush (v := 16) hx hb dX12_forBehind_194 (by decide) ?_
    obtain ⟨p28, hcp28, hf⟩ := hf_bind hf
    have hFc := r_free hD hS hA
    refine va_callv (va_runV (As := [.int 6, .int 16]) (rest := []) ⟨hx, hb, hml, hown, hts⟩ (c_X12_then l dC dI _ Q N p25 6 16 p28 hcp28) (cwV 2 hts hX12_forBehind_X12_then_v393 rfl rfl rfl (by decide +kernel) ⟨Nat.le_of_ble_eq_true rfl, Nat.le_of_ble_eq_true rfl⟩) ⟨zPre.blind, va_recv hK hP (ci := 11) (q0 := 0) rfl rfl, zPre.go hZ hP hK hD⟩ rfl rfl hl.1 rfl (lv_room (Nat.le_of_ble_eq_true rfl)) dX12_forBehind_196 ⟨Nat.le_of_ble_eq_true rfl, Nat.le_of_ble_eq_true rfl⟩) hS (fun q _ h => hFc q h) hFc (fun u9 t9 H1 locs ht hvm hw hB hz1 hk1 hS => ?_)
    obtain ⟨hP, hK1, hD1⟩ := hB
    rw [ht] at hP
    have hD := hD1.weaken (fun _ _ _ h => hFc _ h)
    generalize H1 = H at hP hS ⊢
    obtain rfl := Option.some.inj hf
    exact W.vret hx hb hr (fun t ht hW => ⟨⟨(), rfl, trivial, by rw [ht]; exact hP, va_K.moved hW.alike hK, hD⟩, hS.F ht⟩) hS.2.2 dX12_forBehind_199
  ·
    replace hf := (if_neg c27).symm.trans hf
    refine lv_aload_n hx hb dX12_forBehind_167 rfl (lv_at hl 0 rfl) ?_
    refine lv_bipush (v := 6) hx hb dX12_forBehind_168 (by decide) ?_
    refine lv_aload_n hx hb dX12_forBehind_170 rfl (lv_at hl 0 rfl) ?_
    refine rG_73 hx hb hts i_X12_forBehind_X12 hown hK hP (hts (.fieldLink RX12 201 "StatementRules2Model" "fz" "[I") k_X12_forBehind_fieldLink_RX12_201_SRModel_fz_I) dX12_forBehind_171 ?_
    refine lv_iload_n hx hb dX12_forBehind_174 rfl (lv_at hl 1 rfl) ?_
    obtain ⟨b30, hf⟩ := hf_ite hf
    refine rL_73 (v := (p25.a 73 ((x1 : Int32).toNatClampNeg))) hx hb hK hP b30 dX12_forBehind_175 rfl ?_
    obtain ⟨p31, hcp31, hf⟩ := hf_bind hf
    have hFc := r_free hD hS hA
    refine va_calli (va_runV (As := [.int 6, .int (p25.a 73 ((x1 : Int32).toNatClampNeg))]) (rest := []) ⟨hx, hb, hml, hown, hts⟩ (c_X12_emit l dC dI _ Q N p25 6 (p25.a 73 ((x1 : Int32).toNatClampNeg)) p31 hcp31) (cwV 2 hts hX12_forBehind_X12_emit_v464 rfl rfl rfl (by decide +kernel) ⟨Nat.le_of_ble_eq_true rfl, Nat.le_of_ble_eq_true rfl⟩) ⟨zPre.blind, va_recv hK hP (ci := 11) (q0 := 0) rfl rfl, zPre.go hZ hP hK hD⟩ rfl rfl hl.1 rfl (lv_room (Nat.le_of_ble_eq_true rfl)) dX12_forBehind_176 ⟨Nat.le_of_ble_eq_true rfl, Nat.le_of_ble_eq_true rfl⟩) hS (fun q _ h => hFc q h) hFc (fun r32 u9 t9 H1 locs ht hvm hw hB hz1 hk1 hS => ?_)
    obtain ⟨hP, hK1, hD1⟩ := hB
    rw [ht] at hP
    have hD := hD1.weaken (fun _ _ _ h => hFc _ h)
    generalize H1 = H at hP hS ⊢
    obtain rfl : r32 = p31.1 := hw
    refine lv_pop hx hb dX12_forBehind_179 rfl ?_
    refine lv_aload_n hx hb dX12_forBehind_180 rfl (lv_at hl 0 rfl) ?_
    refine rG_65 hx hb hts i_X12_forBehind_X12 hown hK hP (hts (.fieldLink RX12 177 "StatementRules2Model" "fs" "[I") k_X12_forBehind_fieldLink_RX12_177_SRModel_fs_I) dX12_forBehind_181 ?_
    refine lv_iload_n hx hb dX12_forBehind_184 rfl (lv_at hl 1 rfl) ?_
    refine lv_bipush (v := 7) hx hb dX12_forBehind_185 (by decide) ?_
    refine rS_65 hx hb hK hP hD hS b30 dX12_forBehind_187 (fun H locs hP hD hS => ?_)
    refine lv_goto (tgt := 199) hx hb dX12_forBehind_188 (by decide) ?_
    obtain rfl := Option.some.inj hf
    exact W.vret hx hb hr (fun t ht hW => ⟨⟨(), rfl, trivial, by rw [ht]; exact hP, va_K.moved hW.alike hK, hD⟩, hS.F ht⟩) hS.2.2 dX12_forBehind_199
set_option maxHeartbeats 4000000 in
set_option maxRecDepth 100000 in
theorem j_X12_forBehind_143 {p : Program} {e : Env} {s : State} {m : MethodId} {args : Array Value} {below : List Frame} {meth : Method} {c : Code} {A : Nat → Prop} (l : Launch) (dC : Nat → ClassId) (dI : Nat → Nat → Nat) (Q : RQ) (N : Nat) (R : RS) (hx : p.tables.exec = Jvm.exec) (hb : c.code = cX12_forBehind) (hr : meth.sig.returnType = none) (hml : c.maxLocals = 3) (hown : s.vm.findClass RX12 = some m.cls) (hts : ∀ w ∈ wzX12_forBehind, w.before args s = true) (hlocks : meth.locks = false) (hZ : zAMB s) (hA : ∀ q : Nat, s.heap.size ≤ q → A q) (hK : va_K (dC, dI) vwCl (rT Q) s) : ∀ (σ : RS) (x1 : Int32) (H : Heap) (locs : List Loc) (ls : Array Slot), f_X12_forBehind_143 N σ x1 = some R → va_P (dC, dI) vwCl (rW Q σ) H → va_D A (rW Q σ) → va_S A s.heap H locs → lv_has ls 3 [(0, .ref Q.h0), (1, .int x1)] → W p l e ({ frames := 5, cells := 0, slots := 0, locals := 300 }) s m args below meth c H locs 0 0 (MQ below (va_Qv (fun (_ : Unit) => True) (fun (_ : Unit) (t : State) => zPost dC dI A (rW Q R) (rT Q) t) A) args s 0 0 A) (F0 m 143 ls []) := by
  intro σ x1 H locs ls hf hP hD hS hl
  unfold f_X12_forBehind_143 at hf
  refine lv_aload_n hx hb dX12_forBehind_143 rfl (lv_at hl 0 rfl) ?_
  refine rG_10 (v := (σ.i 10)) hx hb hts i_X12_forBehind_X12 hown hK hP (hts (.fieldLink RX12 307 "StatementRules2Model" "tok" "I") k_X12_forBehind_fieldLink_RX12_307_SRModel_tok_I) dX12_forBehind_144 rfl ?_
  refine lv_sipush (v := 307) hx hb dX12_forBehind_147 (by decide) ?_
  refine lv_icmp_ne (tgt := 157) hx hb dX12_forBehind_150 (by decide) (fun c24 => ?_) (fun c24 => ?_)
  ·
    replace hf := (if_neg c24).symm.trans hf
    refine lv_iconst (v := 0) hx hb dX12_forBehind_157 (by decide) ?_
    refine lv_istore_n (lv' := [(2, .int 0), (0, .ref Q.h0), (1, .int x1)]) hx hb dX12_forBehind_158 rfl hl (by decide) rfl (fun ls hl => ?_)
    exact j_X12_forBehind_159 l dC dI Q N R hx hb hr hml hown hts hlocks hZ hA hK σ x1 0 _ _ _ hf hP hD hS (lv_sub hl [1, 2, 0] rfl)
  ·
    replace hf := (if_pos c24).symm.trans hf
    refine lv_iconst (v := 1) hx hb dX12_forBehind_153 (by decide) ?_
    refine lv_goto (tgt := 158) hx hb dX12_forBehind_154 (by decide) ?_
    refine lv_istore_n (lv' := [(2, .int 1), (0, .ref Q.h0), (1, .int x1)]) hx hb dX12_forBehind_158 rfl hl (by decide) rfl (fun ls hl => ?_)
    exact j_X12_forBehind_159 l dC dI Q N R hx hb hr hml hown hts hlocks hZ hA hK σ x1 1 _ _ _ hf hP hD hS (lv_sub hl [1, 2, 0] rfl)
set_option maxHeartbeats 4000000 in
set_option maxRecDepth 100000 in
theorem j_X12_forBehind_89 {p : Program} {e : Env} {s : State} {m : MethodId} {args : Array Value} {below : List Frame} {meth : Method} {c : Code} {A : Nat → Prop} (l : Launch) (dC : Nat → ClassId) (dI : Nat → Nat → Nat) (Q : RQ) (N : Nat) (R : RS) (hx : p.tables.exec = Jvm.exec) (hb : c.code = cX12_forBehind) (hr : meth.sig.returnType = none) (hml : c.maxLocals = 3) (hown : s.vm.findClass RX12 = some m.cls) (hts : ∀ w ∈ wzX12_forBehind, w.before args s = true) (hlocks : meth.locks = false) (hZ : zAMB s) (hA : ∀ q : Nat, s.heap.size ≤ q → A q) (hK : va_K (dC, dI) vwCl (rT Q) s) : ∀ (σ : RS) (x1 : Int32) (H : Heap) (locs : List Loc) (ls : Array Slot), f_X12_forBehind_89 N σ x1 = some R → va_P (dC, dI) vwCl (rW Q σ) H → va_D A (rW Q σ) → va_S A s.heap H locs → lv_has ls 3 [(0, .ref Q.h0), (1, .int x1)] → W p l e ({ frames := 5, cells := 0, slots := 0, locals := 300 }) s m args below meth c H locs 0 0 (MQ below (va_Qv (fun (_ : Unit) => True) (fun (_ : Unit) (t : State) => zPost dC dI A (rW Q R) (rT Q) t) A) args s 0 0 A) (F0 m 89 ls []) := by
  intro σ x1 H locs ls hf hP hD hS hl
  unfold f_X12_forBehind_89 at hf
  refine lv_aload_n hx hb dX12_forBehind_89 rfl (lv_at hl 0 rfl) ?_
  refine rG_73 hx hb hts i_X12_forBehind_X12 hown hK hP (hts (.fieldLink RX12 201 "StatementRules2Model" "fz" "[I") k_X12_forBehind_fieldLink_RX12_201_SRModel_fz_I) dX12_forBehind_90 ?_
  refine lv_iload_n hx hb dX12_forBehind_93 rfl (lv_at hl 1 rfl) ?_
  refine lv_aload_n hx hb dX12_forBehind_94 rfl (lv_at hl 0 rfl) ?_
  refine lv_aload_n hx hb dX12_forBehind_95 rfl (lv_at hl 0 rfl) ?_
  refine rG_13 (v := σ.l) hx hb hts i_X12_forBehind_X12 hown hK hP (hts (.fieldLink RX12 327 "StatementRules2Model" "name" "J") k_X12_forBehind_fieldLink_RX12_327_SRModel_name_J) dX12_forBehind_96 rfl ?_
  refine lv_aload_n hx hb dX12_forBehind_99 rfl (lv_at hl 0 rfl) ?_
  refine rG_11 (v := (σ.i 11)) hx hb hts i_X12_forBehind_X12 hown hK hP (hts (.fieldLink RX12 304 "StatementRules2Model" "from" "I") k_X12_forBehind_fieldLink_RX12_304_SRModel_from_I) dX12_forBehind_100 rfl ?_
  obtain ⟨p15, hcp15, hf⟩ := hf_bind hf
  have hFc := r_free hD hS hA
  refine va_calli (va_runV (As := [.long σ.l, .int (σ.i 11)]) (rest := [.int x1, .ref (Q.q 73)]) ⟨hx, hb, hml, hown, hts⟩ (c_X12_got l dC dI _ Q N σ σ.l (σ.i 11) p15 hcp15) (cwV 2 hts hX12_forBehind_X12_got_v517 rfl rfl rfl (by decide +kernel) ⟨Nat.le_of_ble_eq_true rfl, Nat.le_of_ble_eq_true rfl⟩) ⟨zPre.blind, va_recv hK hP (ci := 11) (q0 := 0) rfl rfl, zPre.go hZ hP hK hD⟩ rfl rfl hl.1 rfl (lv_room (Nat.le_of_ble_eq_true rfl)) dX12_forBehind_103 ⟨Nat.le_of_ble_eq_true rfl, Nat.le_of_ble_eq_true rfl⟩) hS (fun q _ h => hFc q h) hFc (fun r16 u9 t9 H1 locs ht hvm hw hB hz1 hk1 hS => ?_)
  obtain ⟨hP, hK1, hD1⟩ := hB
  rw [ht] at hP
  have hD := hD1.weaken (fun _ _ _ h => hFc _ h)
  generalize H1 = H at hP hS ⊢
  obtain rfl : r16 = p15.1 := hw
  obtain ⟨b17, hf⟩ := hf_ite hf
  refine rS_73 hx hb hK hP hD hS b17 dX12_forBehind_106 (fun H locs hP hD hS => ?_)
  refine lv_aload_n hx hb dX12_forBehind_107 rfl (lv_at hl 0 rfl) ?_
  obtain ⟨p18, hcp18, hf⟩ := hf_bind hf
  have hFc := r_free hD hS hA
  refine va_callv (va_runV (As := []) (rest := []) ⟨hx, hb, hml, hown, hts⟩ (c_X12_next l dC dI _ Q N (RS.setA p15.2 73 ((x1 : Int32).toNatClampNeg) p15.1) p18 hcp18) (cwV 0 hts hX12_forBehind_X12_next_v345 rfl rfl rfl (by decide +kernel) ⟨Nat.le_of_ble_eq_true rfl, Nat.le_of_ble_eq_true rfl⟩) ⟨zPre.blind, va_recv hK hP (ci := 11) (q0 := 0) rfl rfl, zPre.go hZ hP hK hD⟩ rfl rfl hl.1 rfl (lv_room (Nat.le_of_ble_eq_true rfl)) dX12_forBehind_108 ⟨Nat.le_of_ble_eq_true rfl, Nat.le_of_ble_eq_true rfl⟩) hS (fun q _ h => hFc q h) hFc (fun u9 t9 H1 locs ht hvm hw hB hz1 hk1 hS => ?_)
  obtain ⟨hP, hK1, hD1⟩ := hB
  rw [ht] at hP
  have hD := hD1.weaken (fun _ _ _ h => hFc _ h)
  generalize H1 = H at hP hS ⊢
  refine lv_aload_n hx hb dX12_forBehind_111 rfl (lv_at hl 0 rfl) ?_
  refine lv_aload_n hx hb dX12_forBehind_112 rfl (lv_at hl 0 rfl) ?_
  refine rG_10 (v := (p18.i 10)) hx hb hts i_X12_forBehind_X12 hown hK hP (hts (.fieldLink RX12 307 "StatementRules2Model" "tok" "I") k_X12_forBehind_fieldLink_RX12_307_SRModel_tok_I) dX12_forBehind_113 rfl ?_
  refine lv_bipush (v := 61) hx hb dX12_forBehind_116 (by decide) ?_
  refine lv_icmp_eq (tgt := 131) hx hb dX12_forBehind_118 (by decide) (fun c20 => ?_) (fun c20 => ?_)
  ·
    replace hf := (if_pos c20).symm.trans hf
    refine lv_iconst (v := 1) hx hb dX12_forBehind_131 (by decide) ?_
    refine lv_goto (tgt := 136) hx hb dX12_forBehind_132 (by decide) ?_
    obtain ⟨p21, hcp21, hf⟩ := hf_bind hf
    have hFc := r_free hD hS hA
    refine va_calli (va_runV (As := [.int 1]) (rest := []) ⟨hx, hb, hml, hown, hts⟩ (c_X12_can l dC dI _ Q N p18 1 p21 hcp21) (cwV 1 hts hX12_forBehind_X12_can_v341 rfl rfl rfl (by decide +kernel) ⟨Nat.le_of_ble_eq_true rfl, Nat.le_of_ble_eq_true rfl⟩) ⟨zPre.blind, va_recv hK hP (ci := 11) (q0 := 0) rfl rfl, zPre.go hZ hP hK hD⟩ rfl rfl hl.1 rfl (lv_room (Nat.le_of_ble_eq_true rfl)) dX12_forBehind_136 ⟨Nat.le_of_ble_eq_true rfl, Nat.le_of_ble_eq_true rfl⟩) hS (fun q _ h => hFc q h) hFc (fun r22 u9 t9 H1 locs ht hvm hw hB hz1 hk1 hS => ?_)
    obtain ⟨hP, hK1, hD1⟩ := hB
    rw [ht] at hP
    have hD := hD1.weaken (fun _ _ _ h => hFc _ h)
    generalize H1 = H at hP hS ⊢
    obtain rfl : r22 = p21.1 := hw
    refine lv_if_ne (tgt := 143) hx hb dX12_forBehind_139 (by decide) (fun c23 => ?_) (fun c23 => ?_)
    ·
      replace hf := (if_neg c23).symm.trans hf
      exact j_X12_forBehind_143 l dC dI Q N R hx hb hr hml hown hts hlocks hZ hA hK p21.2 x1 _ _ _ hf hP hD hS (lv_sub hl [0, 1] rfl)
    ·
      replace hf := (if_pos c23).symm.trans hf
      obtain rfl := Option.some.inj hf
      exact W.vret hx hb hr (fun t ht hW => ⟨⟨(), rfl, trivial, by rw [ht]; exact hP, va_K.moved hW.alike hK, hD⟩, hS.F ht⟩) hS.2.2 dX12_forBehind_142
  ·
    replace hf := (if_neg c20).symm.trans hf
    refine lv_aload_n hx hb dX12_forBehind_121 rfl (lv_at hl 0 rfl) ?_
    refine rG_10 (v := (p18.i 10)) hx hb hts i_X12_forBehind_X12 hown hK hP (hts (.fieldLink RX12 307 "StatementRules2Model" "tok" "I") k_X12_forBehind_fieldLink_RX12_307_SRModel_tok_I) dX12_forBehind_122 rfl ?_
    refine lv_sipush (v := 307) hx hb dX12_forBehind_125 (by decide) ?_
    refine lv_icmp_ne (tgt := 135) hx hb dX12_forBehind_128 (by decide) (fun c33 => ?_) (fun c33 => ?_)
    ·
      replace hf := (if_neg c33).symm.trans hf
      refine lv_iconst (v := 0) hx hb dX12_forBehind_135 (by decide) ?_
      obtain ⟨p34, hcp34, hf⟩ := hf_bind hf
      have hFc := r_free hD hS hA
      refine va_calli (va_runV (As := [.int 0]) (rest := []) ⟨hx, hb, hml, hown, hts⟩ (c_X12_can l dC dI _ Q N p18 0 p34 hcp34) (cwV 1 hts hX12_forBehind_X12_can_v341 rfl rfl rfl (by decide +kernel) ⟨Nat.le_of_ble_eq_true rfl, Nat.le_of_ble_eq_true rfl⟩) ⟨zPre.blind, va_recv hK hP (ci := 11) (q0 := 0) rfl rfl, zPre.go hZ hP hK hD⟩ rfl rfl hl.1 rfl (lv_room (Nat.le_of_ble_eq_true rfl)) dX12_forBehind_136 ⟨Nat.le_of_ble_eq_true rfl, Nat.le_of_ble_eq_true rfl⟩) hS (fun q _ h => hFc q h) hFc (fun r35 u9 t9 H1 locs ht hvm hw hB hz1 hk1 hS => ?_)
      obtain ⟨hP, hK1, hD1⟩ := hB
      rw [ht] at hP
      have hD := hD1.weaken (fun _ _ _ h => hFc _ h)
      generalize H1 = H at hP hS ⊢
      obtain rfl : r35 = p34.1 := hw
      refine lv_if_ne (tgt := 143) hx hb dX12_forBehind_139 (by decide) (fun c36 => ?_) (fun c36 => ?_)
      ·
        replace hf := (if_neg c36).symm.trans hf
        exact j_X12_forBehind_143 l dC dI Q N R hx hb hr hml hown hts hlocks hZ hA hK p34.2 x1 _ _ _ hf hP hD hS (lv_sub hl [0, 1] rfl)
      ·
        replace hf := (if_pos c36).symm.trans hf
        obtain rfl := Option.some.inj hf
        exact W.vret hx hb hr (fun t ht hW => ⟨⟨(), rfl, trivial, by rw [ht]; exact hP, va_K.moved hW.alike hK, hD⟩, hS.F ht⟩) hS.2.2 dX12_forBehind_142
    ·
      replace hf := (if_pos c33).symm.trans hf
      refine lv_iconst (v := 1) hx hb dX12_forBehind_131 (by decide) ?_
      refine lv_goto (tgt := 136) hx hb dX12_forBehind_132 (by decide) ?_
      obtain ⟨p37, hcp37, hf⟩ := hf_bind hf
      have hFc := r_free hD hS hA
      refine va_calli (va_runV (As := [.int 1]) (rest := []) ⟨hx, hb, hml, hown, hts⟩ (c_X12_can l dC dI _ Q N p18 1 p37 hcp37) (cwV 1 hts hX12_forBehind_X12_can_v341 rfl rfl rfl (by decide +kernel) ⟨Nat.le_of_ble_eq_true rfl, Nat.le_of_ble_eq_true rfl⟩) ⟨zPre.blind, va_recv hK hP (ci := 11) (q0 := 0) rfl rfl, zPre.go hZ hP hK hD⟩ rfl rfl hl.1 rfl (lv_room (Nat.le_of_ble_eq_true rfl)) dX12_forBehind_136 ⟨Nat.le_of_ble_eq_true rfl, Nat.le_of_ble_eq_true rfl⟩) hS (fun q _ h => hFc q h) hFc (fun r38 u9 t9 H1 locs ht hvm hw hB hz1 hk1 hS => ?_)
      obtain ⟨hP, hK1, hD1⟩ := hB
      rw [ht] at hP
      have hD := hD1.weaken (fun _ _ _ h => hFc _ h)
      generalize H1 = H at hP hS ⊢
      obtain rfl : r38 = p37.1 := hw
      refine lv_if_ne (tgt := 143) hx hb dX12_forBehind_139 (by decide) (fun c39 => ?_) (fun c39 => ?_)
      ·
        replace hf := (if_neg c39).symm.trans hf
        exact j_X12_forBehind_143 l dC dI Q N R hx hb hr hml hown hts hlocks hZ hA hK p37.2 x1 _ _ _ hf hP hD hS (lv_sub hl [0, 1] rfl)
      ·
        replace hf := (if_pos c39).symm.trans hf
        obtain rfl := Option.some.inj hf
        exact W.vret hx hb hr (fun t ht hW => ⟨⟨(), rfl, trivial, by rw [ht]; exact hP, va_K.moved hW.alike hK, hD⟩, hS.F ht⟩) hS.2.2 dX12_forBehind_142
set_option maxHeartbeats 4000000 in
set_option maxRecDepth 100000 in
theorem c_X12_forBehind (l : Launch) (dC : Nat → ClassId) (dI : Nat → Nat → Nat) (sz : Nat) (Q : RQ) (N : Nat) (σ : RS) (x1 : Int32) (R : RS) (hf : f_X12_forBehind N σ x1 = some R) : Met l yX12_forBehind wzX12_forBehind ({ frames := 5, cells := 0, slots := 0, locals := 300 }) (va_Pc [.ref Q.h0, .int x1] (zPre dC dI sz (rW Q σ) (rT Q))) (va_Qv (fun (_ : Unit) => True) (fun (_ : Unit) (t : State) => zPost dC dI (va_A (rW Q σ) sz) (rW Q R) (rT Q) t) (va_A (rW Q σ) sz)) 0 0 (va_A (rW Q σ) sz) := by
  refine Met.ofW (cc := cX12_forBehind) (maxL := 3) (ret := none) (by decide) rfl ?_
  intro p e s m args below meth c s₁ B hml hv
  obtain ⟨rfl, hsz, hZ, hP, hK, hD0⟩ := hv
  have hx := B.exec
  have hb := B.bytes
  have hr := B.returns
  have hts := atoms_spec (ws := wzX12_forBehind) B.pre
  have hown : s.vm.findClass RX12 = some m.cls := findClass_of_methodNamed B.named
  have hlocks := B.notSynchronized
  subst hsz
  have hD := hD0.self (sz := s.heap.size)
  generalize hAe : va_A (rW Q σ) s.heap.size = A at hD ⊢
  have hA : ∀ q : Nat, s.heap.size ≤ q → A q := fun q h => by rw [← hAe]; exact Or.inr h
  have hS : va_S A s.heap s.heap [] := va_S.rf
  have hl := lv_entry ([.ref Q.h0, .int x1]) (n := 3) (Nat.le_of_ble_eq_true rfl)
  rw [lg_entry_eq]
  generalize (lg_sl ([.ref Q.h0, .int x1]) ++ List.replicate (3 - (lg_sl ([.ref Q.h0, .int x1])).length) Slot.unset).toArray = ls at hl ⊢
  have hl : lv_has ls 3 [(0, .ref Q.h0), (1, .int x1)] := hl
  unfold f_X12_forBehind at hf
  refine lv_aload_n hx hb dX12_forBehind_0 rfl (lv_at hl 0 rfl) ?_
  refine lv_bipush (v := 59) hx hb dX12_forBehind_1 (by decide) ?_
  obtain ⟨p1, hcp1, hf⟩ := hf_bind hf
  have hFc := r_free hD hS hA
  refine va_calli (va_runV (As := [.int 59]) (rest := []) ⟨hx, hb, hml, hown, hts⟩ (c_X12_need l dC dI _ Q N σ 59 p1 hcp1) (cwV 1 hts hX12_forBehind_X12_need_v355 rfl rfl rfl (by decide +kernel) ⟨Nat.le_of_ble_eq_true rfl, Nat.le_of_ble_eq_true rfl⟩) ⟨zPre.blind, va_recv hK hP (ci := 11) (q0 := 0) rfl rfl, zPre.go hZ hP hK hD⟩ rfl rfl hl.1 rfl (lv_room (Nat.le_of_ble_eq_true rfl)) dX12_forBehind_3 ⟨Nat.le_of_ble_eq_true rfl, Nat.le_of_ble_eq_true rfl⟩) hS (fun q _ h => hFc q h) hFc (fun r2 u9 t9 H1 locs ht hvm hw hB hz1 hk1 hS => ?_)
  obtain ⟨hP, hK1, hD1⟩ := hB
  rw [ht] at hP
  have hD := hD1.weaken (fun _ _ _ h => hFc _ h)
  generalize H1 = H at hP hS ⊢
  obtain rfl : r2 = p1.1 := hw
  refine lv_pop hx hb dX12_forBehind_6 rfl ?_
  refine lv_aload_n hx hb dX12_forBehind_7 rfl (lv_at hl 0 rfl) ?_
  refine rG_67 hx hb hts i_X12_forBehind_X12 hown hK hP (hts (.fieldLink RX12 183 "StatementRules2Model" "fq" "[I") k_X12_forBehind_fieldLink_RX12_183_SRModel_fq_I) dX12_forBehind_8 ?_
  refine lv_iload_n hx hb dX12_forBehind_11 rfl (lv_at hl 1 rfl) ?_
  refine lv_aload_n hx hb dX12_forBehind_12 rfl (lv_at hl 0 rfl) ?_
  refine lv_bipush (v := 13) hx hb dX12_forBehind_13 (by decide) ?_
  refine lv_iconst (v := 0) hx hb dX12_forBehind_15 (by decide) ?_
  obtain ⟨p3, hcp3, hf⟩ := hf_bind hf
  have hFc := r_free hD hS hA
  refine va_calli (va_runV (As := [.int 13, .int 0]) (rest := [.int x1, .ref (Q.q 67)]) ⟨hx, hb, hml, hown, hts⟩ (c_X12_emit l dC dI _ Q N p1.2 13 0 p3 hcp3) (cwV 2 hts hX12_forBehind_X12_emit_v464 rfl rfl rfl (by decide +kernel) ⟨Nat.le_of_ble_eq_true rfl, Nat.le_of_ble_eq_true rfl⟩) ⟨zPre.blind, va_recv hK hP (ci := 11) (q0 := 0) rfl rfl, zPre.go hZ hP hK hD⟩ rfl rfl hl.1 rfl (lv_room (Nat.le_of_ble_eq_true rfl)) dX12_forBehind_16 ⟨Nat.le_of_ble_eq_true rfl, Nat.le_of_ble_eq_true rfl⟩) hS (fun q _ h => hFc q h) hFc (fun r4 u9 t9 H1 locs ht hvm hw hB hz1 hk1 hS => ?_)
  obtain ⟨hP, hK1, hD1⟩ := hB
  rw [ht] at hP
  have hD := hD1.weaken (fun _ _ _ h => hFc _ h)
  generalize H1 = H at hP hS ⊢
  obtain rfl : r4 = p3.1 := hw
  obtain ⟨b5, hf⟩ := hf_ite hf
  refine rS_67 hx hb hK hP hD hS b5 dX12_forBehind_19 (fun H locs hP hD hS => ?_)
  refine lv_aload_n hx hb dX12_forBehind_20 rfl (lv_at hl 0 rfl) ?_
  refine rG_68 hx hb hts i_X12_forBehind_X12 hown hK hP (hts (.fieldLink RX12 186 "StatementRules2Model" "fr" "[I") k_X12_forBehind_fieldLink_RX12_186_SRModel_fr_I) dX12_forBehind_21 ?_
  refine lv_iload_n hx hb dX12_forBehind_24 rfl (lv_at hl 1 rfl) ?_
  refine lv_aload_n hx hb dX12_forBehind_25 rfl (lv_at hl 0 rfl) ?_
  refine lv_bipush (v := 15) hx hb dX12_forBehind_26 (by decide) ?_
  refine lv_iconst (v := 0) hx hb dX12_forBehind_28 (by decide) ?_
  obtain ⟨p6, hcp6, hf⟩ := hf_bind hf
  have hFc := r_free hD hS hA
  refine va_calli (va_runV (As := [.int 15, .int 0]) (rest := [.int x1, .ref (Q.q 68)]) ⟨hx, hb, hml, hown, hts⟩ (c_X12_emit l dC dI _ Q N (RS.setA p3.2 67 ((x1 : Int32).toNatClampNeg) p3.1) 15 0 p6 hcp6) (cwV 2 hts hX12_forBehind_X12_emit_v464 rfl rfl rfl (by decide +kernel) ⟨Nat.le_of_ble_eq_true rfl, Nat.le_of_ble_eq_true rfl⟩) ⟨zPre.blind, va_recv hK hP (ci := 11) (q0 := 0) rfl rfl, zPre.go hZ hP hK hD⟩ rfl rfl hl.1 rfl (lv_room (Nat.le_of_ble_eq_true rfl)) dX12_forBehind_29 ⟨Nat.le_of_ble_eq_true rfl, Nat.le_of_ble_eq_true rfl⟩) hS (fun q _ h => hFc q h) hFc (fun r7 u9 t9 H1 locs ht hvm hw hB hz1 hk1 hS => ?_)
  obtain ⟨hP, hK1, hD1⟩ := hB
  rw [ht] at hP
  have hD := hD1.weaken (fun _ _ _ h => hFc _ h)
  generalize H1 = H at hP hS ⊢
  obtain rfl : r7 = p6.1 := hw
  refine rS_68 hx hb hK hP hD hS b5 dX12_forBehind_32 (fun H locs hP hD hS => ?_)
  refine lv_aload_n hx hb dX12_forBehind_33 rfl (lv_at hl 0 rfl) ?_
  refine rG_70 hx hb hts i_X12_forBehind_X12 hown hK hP (hts (.fieldLink RX12 192 "StatementRules2Model" "fw" "[I") k_X12_forBehind_fieldLink_RX12_192_SRModel_fw_I) dX12_forBehind_34 ?_
  refine lv_iload_n hx hb dX12_forBehind_37 rfl (lv_at hl 1 rfl) ?_
  refine lv_aload_n hx hb dX12_forBehind_38 rfl (lv_at hl 0 rfl) ?_
  refine rG_20 (v := (p6.2.i 20)) hx hb hts i_X12_forBehind_X12 hown hK hP (hts (.fieldLink RX12 358 "StatementRules2Model" "codes" "I") k_X12_forBehind_fieldLink_RX12_358_SRModel_codes_I) dX12_forBehind_39 rfl ?_
  refine rS_70 hx hb hK hP hD hS b5 dX12_forBehind_42 (fun H locs hP hD hS => ?_)
  refine lv_aload_n hx hb dX12_forBehind_43 rfl (lv_at hl 0 rfl) ?_
  refine rG_15 (v := (p6.2.i 15)) hx hb hts i_X12_forBehind_X12 hown hK hP (hts (.fieldLink RX12 291 "StatementRules2Model" "fault" "I") k_X12_forBehind_fieldLink_RX12_291_SRModel_fault_I) dX12_forBehind_44 rfl ?_
  refine lv_if_ne (tgt := 59) hx hb dX12_forBehind_47 (by decide) (fun c8 => ?_) (fun c8 => ?_)
  ·
    replace hf := (if_neg c8).symm.trans hf
    exact j_X12_forBehind_59 l dC dI Q N R hx hb hr hml hown hts hlocks hZ hA hK (RS.setA (RS.setA p6.2 68 ((x1 : Int32).toNatClampNeg) p6.1) 70 ((x1 : Int32).toNatClampNeg) (p6.2.i 20)) x1 _ _ _ hf hP hD hS (lv_sub hl [0, 1] rfl)
  ·
    replace hf := (if_pos c8).symm.trans hf
    refine lv_aload_n hx hb dX12_forBehind_50 rfl (lv_at hl 0 rfl) ?_
    refine rG_10 (v := (p6.2.i 10)) hx hb hts i_X12_forBehind_X12 hown hK hP (hts (.fieldLink RX12 307 "StatementRules2Model" "tok" "I") k_X12_forBehind_fieldLink_RX12_307_SRModel_tok_I) dX12_forBehind_51 rfl ?_
    refine lv_bipush (v := 41) hx hb dX12_forBehind_54 (by decide) ?_
    refine lv_icmp_ne (tgt := 68) hx hb dX12_forBehind_56 (by decide) (fun c10 => ?_) (fun c10 => ?_)
    ·
      replace hf := (if_neg c10).symm.trans hf
      refine lv_aload_n hx hb dX12_forBehind_68 rfl (lv_at hl 0 rfl) ?_
      refine lv_aload_n hx hb dX12_forBehind_69 rfl (lv_at hl 0 rfl) ?_
      refine rG_10 (v := (p6.2.i 10)) hx hb hts i_X12_forBehind_X12 hown hK hP (hts (.fieldLink RX12 307 "StatementRules2Model" "tok" "I") k_X12_forBehind_fieldLink_RX12_307_SRModel_tok_I) dX12_forBehind_70 rfl ?_
      refine lv_iconst (v := 2) hx hb dX12_forBehind_73 (by decide) ?_
      refine lv_icmp_ne (tgt := 81) hx hb dX12_forBehind_74 (by decide) (fun c11 => ?_) (fun c11 => ?_)
      ·
        replace hf := (if_neg c11).symm.trans hf
        refine lv_iconst (v := 0) hx hb dX12_forBehind_81 (by decide) ?_
        obtain ⟨p12, hcp12, hf⟩ := hf_bind hf
        have hFc := r_free hD hS hA
        refine va_calli (va_runV (As := [.int 0]) (rest := []) ⟨hx, hb, hml, hown, hts⟩ (c_X12_can l dC dI _ Q N (RS.setA (RS.setA p6.2 68 ((x1 : Int32).toNatClampNeg) p6.1) 70 ((x1 : Int32).toNatClampNeg) (p6.2.i 20)) 0 p12 hcp12) (cwV 1 hts hX12_forBehind_X12_can_v341 rfl rfl rfl (by decide +kernel) ⟨Nat.le_of_ble_eq_true rfl, Nat.le_of_ble_eq_true rfl⟩) ⟨zPre.blind, va_recv hK hP (ci := 11) (q0 := 0) rfl rfl, zPre.go hZ hP hK hD⟩ rfl rfl hl.1 rfl (lv_room (Nat.le_of_ble_eq_true rfl)) dX12_forBehind_82 ⟨Nat.le_of_ble_eq_true rfl, Nat.le_of_ble_eq_true rfl⟩) hS (fun q _ h => hFc q h) hFc (fun r13 u9 t9 H1 locs ht hvm hw hB hz1 hk1 hS => ?_)
        obtain ⟨hP, hK1, hD1⟩ := hB
        rw [ht] at hP
        have hD := hD1.weaken (fun _ _ _ h => hFc _ h)
        generalize H1 = H at hP hS ⊢
        obtain rfl : r13 = p12.1 := hw
        refine lv_if_ne (tgt := 89) hx hb dX12_forBehind_85 (by decide) (fun c14 => ?_) (fun c14 => ?_)
        ·
          replace hf := (if_neg c14).symm.trans hf
          exact j_X12_forBehind_89 l dC dI Q N R hx hb hr hml hown hts hlocks hZ hA hK p12.2 x1 _ _ _ hf hP hD hS (lv_sub hl [0, 1] rfl)
        ·
          replace hf := (if_pos c14).symm.trans hf
          obtain rfl := Option.some.inj hf
          exact W.vret hx hb hr (fun t ht hW => ⟨⟨(), rfl, trivial, by rw [ht]; exact hP, va_K.moved hW.alike hK, hD⟩, hS.F ht⟩) hS.2.2 dX12_forBehind_88
      ·
        replace hf := (if_pos c11).symm.trans hf
        refine lv_iconst (v := 1) hx hb dX12_forBehind_77 (by decide) ?_
        refine lv_goto (tgt := 82) hx hb dX12_forBehind_78 (by decide) ?_
        obtain ⟨p40, hcp40, hf⟩ := hf_bind hf
        have hFc := r_free hD hS hA
        refine va_calli (va_runV (As := [.int 1]) (rest := []) ⟨hx, hb, hml, hown, hts⟩ (c_X12_can l dC dI _ Q N (RS.setA (RS.setA p6.2 68 ((x1 : Int32).toNatClampNeg) p6.1) 70 ((x1 : Int32).toNatClampNeg) (p6.2.i 20)) 1 p40 hcp40) (cwV 1 hts hX12_forBehind_X12_can_v341 rfl rfl rfl (by decide +kernel) ⟨Nat.le_of_ble_eq_true rfl, Nat.le_of_ble_eq_true rfl⟩) ⟨zPre.blind, va_recv hK hP (ci := 11) (q0 := 0) rfl rfl, zPre.go hZ hP hK hD⟩ rfl rfl hl.1 rfl (lv_room (Nat.le_of_ble_eq_true rfl)) dX12_forBehind_82 ⟨Nat.le_of_ble_eq_true rfl, Nat.le_of_ble_eq_true rfl⟩) hS (fun q _ h => hFc q h) hFc (fun r41 u9 t9 H1 locs ht hvm hw hB hz1 hk1 hS => ?_)
        obtain ⟨hP, hK1, hD1⟩ := hB
        rw [ht] at hP
        have hD := hD1.weaken (fun _ _ _ h => hFc _ h)
        generalize H1 = H at hP hS ⊢
        obtain rfl : r41 = p40.1 := hw
        refine lv_if_ne (tgt := 89) hx hb dX12_forBehind_85 (by decide) (fun c42 => ?_) (fun c42 => ?_)
        ·
          replace hf := (if_neg c42).symm.trans hf
          exact j_X12_forBehind_89 l dC dI Q N R hx hb hr hml hown hts hlocks hZ hA hK p40.2 x1 _ _ _ hf hP hD hS (lv_sub hl [0, 1] rfl)
        ·
          replace hf := (if_pos c42).symm.trans hf
          obtain rfl := Option.some.inj hf
          exact W.vret hx hb hr (fun t ht hW => ⟨⟨(), rfl, trivial, by rw [ht]; exact hP, va_K.moved hW.alike hK, hD⟩, hS.F ht⟩) hS.2.2 dX12_forBehind_88
    ·
      replace hf := (if_pos c10).symm.trans hf
      exact j_X12_forBehind_59 l dC dI Q N R hx hb hr hml hown hts hlocks hZ hA hK (RS.setA (RS.setA p6.2 68 ((x1 : Int32).toNatClampNeg) p6.1) 70 ((x1 : Int32).toNatClampNeg) (p6.2.i 20)) x1 _ _ _ hf hP hD hS (lv_sub hl [0, 1] rfl)
theorem k_X12_rows_fieldLink_RX12_177_SRModel_fs_I : Cond.fieldLink RX12 177 "StatementRules2Model" "fs" "[I" ∈ wzX12_rows := List.mem_cons_of_mem _ (List.mem_append_left _ (List.mem_of_getElem? (i := 0) rfl))
theorem i_X12_rows_X12 : ∀ w ∈ wsX120, w ∈ wzX12_rows := fun _ h => List.mem_cons_of_mem _ (List.mem_append_right _ (List.mem_append_left _ (h)))
theorem k_X12_rows_fieldLink_RX12_201_SRModel_fz_I : Cond.fieldLink RX12 201 "StatementRules2Model" "fz" "[I" ∈ wzX12_rows := List.mem_cons_of_mem _ (List.mem_append_left _ (List.mem_of_getElem? (i := 1) rfl))
theorem k_X12_rows_fieldLink_RX12_150_SRModel_continues_I : Cond.fieldLink RX12 150 "StatementRules2Model" "continues" "[I" ∈ wzX12_rows := List.mem_cons_of_mem _ (List.mem_append_left _ (List.mem_of_getElem? (i := 2) rfl))
theorem k_X12_rows_fieldLink_RX12_180_SRModel_fp_I : Cond.fieldLink RX12 180 "StatementRules2Model" "fp" "[I" ∈ wzX12_rows := List.mem_cons_of_mem _ (List.mem_append_left _ (List.mem_of_getElem? (i := 3) rfl))
theorem k_X12_rows_fieldLink_RX12_87_SRModel_ix_I : Cond.fieldLink RX12 87 "StatementRules2Model" "ix" "[I" ∈ wzX12_rows := List.mem_cons_of_mem _ (List.mem_append_left _ (List.mem_of_getElem? (i := 4) rfl))
theorem k_X12_rows_fieldLink_RX12_358_SRModel_codes_I : Cond.fieldLink RX12 358 "StatementRules2Model" "codes" "I" ∈ wzX12_rows := List.mem_cons_of_mem _ (List.mem_append_left _ (List.mem_of_getElem? (i := 5) rfl))
theorem k_X12_rows_fieldLink_RX12_147_SRModel_breaks_I : Cond.fieldLink RX12 147 "StatementRules2Model" "breaks" "[I" ∈ wzX12_rows := List.mem_cons_of_mem _ (List.mem_append_left _ (List.mem_of_getElem? (i := 6) rfl))
theorem k_X12_rows_fieldLink_RX12_370_SRModel_depth_I : Cond.fieldLink RX12 370 "StatementRules2Model" "depth" "I" ∈ wzX12_rows := List.mem_cons_of_mem _ (List.mem_append_left _ (List.mem_of_getElem? (i := 7) rfl))
theorem k_X12_rows_fieldLink_RX12_367_SRModel_goals_I : Cond.fieldLink RX12 367 "StatementRules2Model" "goals" "I" ∈ wzX12_rows := List.mem_cons_of_mem _ (List.mem_append_left _ (List.mem_of_getElem? (i := 8) rfl))
theorem k_X12_rows_fieldLink_RX12_195_SRModel_fx_I : Cond.fieldLink RX12 195 "StatementRules2Model" "fx" "[I" ∈ wzX12_rows := List.mem_cons_of_mem _ (List.mem_append_left _ (List.mem_of_getElem? (i := 9) rfl))
theorem k_X12_rows_fieldLink_RX12_361_SRModel_seen_I : Cond.fieldLink RX12 361 "StatementRules2Model" "seen" "I" ∈ wzX12_rows := List.mem_cons_of_mem _ (List.mem_append_left _ (List.mem_of_getElem? (i := 10) rfl))
theorem k_X12_rows_fieldLink_RX12_204_SRModel_fn_J : Cond.fieldLink RX12 204 "StatementRules2Model" "fn" "[J" ∈ wzX12_rows := List.mem_cons_of_mem _ (List.mem_append_left _ (List.mem_of_getElem? (i := 11) rfl))
theorem k_X12_rows_fieldLink_RX12_90_SRModel_iy_I : Cond.fieldLink RX12 90 "StatementRules2Model" "iy" "[I" ∈ wzX12_rows := List.mem_cons_of_mem _ (List.mem_append_left _ (List.mem_of_getElem? (i := 12) rfl))
theorem k_X12_rows_fieldLink_RX12_186_SRModel_fr_I : Cond.fieldLink RX12 186 "StatementRules2Model" "fr" "[I" ∈ wzX12_rows := List.mem_cons_of_mem _ (List.mem_append_left _ (List.mem_of_getElem? (i := 13) rfl))
theorem k_X12_rows_fieldLink_RX12_307_SRModel_tok_I : Cond.fieldLink RX12 307 "StatementRules2Model" "tok" "I" ∈ wzX12_rows := List.mem_cons_of_mem _ (List.mem_append_left _ (List.mem_of_getElem? (i := 14) rfl))
set_option maxHeartbeats 4000000 in
set_option maxRecDepth 100000 in
theorem c_X12_rows (l : Launch) (dC : Nat → ClassId) (dI : Nat → Nat → Nat) (sz : Nat) (Q : RQ) (N : Nat) (σ : RS) (x1 : Int32) (R : RS) (hf : f_X12_rows N σ x1 = some R) : Met l yX12_rows wzX12_rows ({ frames := 6, cells := 0, slots := 0, locals := 360 }) (va_Pc [.ref Q.h0, .int x1] (zPre dC dI sz (rW Q σ) (rT Q))) (va_Qv (fun (_ : Unit) => True) (fun (_ : Unit) (t : State) => zPost dC dI (va_A (rW Q σ) sz) (rW Q R) (rT Q) t) (va_A (rW Q σ) sz)) 0 0 (va_A (rW Q σ) sz) := by
  refine Met.ofW (cc := cX12_rows) (maxL := 3) (ret := none) (by decide) rfl ?_
  intro p e s m args below meth c s₁ B hml hv
  obtain ⟨rfl, hsz, hZ, hP, hK, hD0⟩ := hv
  have hx := B.exec
  have hb := B.bytes
  have hr := B.returns
  have hts := atoms_spec (ws := wzX12_rows) B.pre
  have hown : s.vm.findClass RX12 = some m.cls := findClass_of_methodNamed B.named
  have hlocks := B.notSynchronized
  subst hsz
  have hD := hD0.self (sz := s.heap.size)
  generalize hAe : va_A (rW Q σ) s.heap.size = A at hD ⊢
  have hA : ∀ q : Nat, s.heap.size ≤ q → A q := fun q h => by rw [← hAe]; exact Or.inr h
  have hS : va_S A s.heap s.heap [] := va_S.rf
  have hl := lv_entry ([.ref Q.h0, .int x1]) (n := 3) (Nat.le_of_ble_eq_true rfl)
  rw [lg_entry_eq]
  generalize (lg_sl ([.ref Q.h0, .int x1]) ++ List.replicate (3 - (lg_sl ([.ref Q.h0, .int x1])).length) Slot.unset).toArray = ls at hl ⊢
  have hl : lv_has ls 3 [(0, .ref Q.h0), (1, .int x1)] := hl
  unfold f_X12_rows at hf
  refine lv_aload_n hx hb dX12_rows_0 rfl (lv_at hl 0 rfl) ?_
  refine rG_65 hx hb hts i_X12_rows_X12 hown hK hP (hts (.fieldLink RX12 177 "StatementRules2Model" "fs" "[I") k_X12_rows_fieldLink_RX12_177_SRModel_fs_I) dX12_rows_1 ?_
  refine lv_iload_n hx hb dX12_rows_4 rfl (lv_at hl 1 rfl) ?_
  obtain ⟨b1, hf⟩ := hf_ite hf
  refine rL_65 (v := (σ.a 65 ((x1 : Int32).toNatClampNeg))) hx hb hK hP b1 dX12_rows_5 rfl ?_
  refine lv_bipush (v := 10) hx hb dX12_rows_6 (by decide) ?_
  refine lv_icmp_ne (tgt := 69) hx hb dX12_rows_8 (by decide) (fun c2 => ?_) (fun c2 => ?_)
  ·
    replace hf := (if_neg c2).symm.trans hf
    refine lv_aload_n hx hb dX12_rows_69 rfl (lv_at hl 0 rfl) ?_
    refine rG_65 hx hb hts i_X12_rows_X12 hown hK hP (hts (.fieldLink RX12 177 "StatementRules2Model" "fs" "[I") k_X12_rows_fieldLink_RX12_177_SRModel_fs_I) dX12_rows_70 ?_
    refine lv_iload_n hx hb dX12_rows_73 rfl (lv_at hl 1 rfl) ?_
    refine rL_65 (v := (σ.a 65 ((x1 : Int32).toNatClampNeg))) hx hb hK hP b1 dX12_rows_74 rfl ?_
    refine lv_bipush (v := 12) hx hb dX12_rows_75 (by decide) ?_
    refine lv_icmp_ne (tgt := 153) hx hb dX12_rows_77 (by decide) (fun c3 => ?_) (fun c3 => ?_)
    ·
      replace hf := (if_neg c3).symm.trans hf
      refine lv_aload_n hx hb dX12_rows_153 rfl (lv_at hl 0 rfl) ?_
      refine rG_73 hx hb hts i_X12_rows_X12 hown hK hP (hts (.fieldLink RX12 201 "StatementRules2Model" "fz" "[I") k_X12_rows_fieldLink_RX12_201_SRModel_fz_I) dX12_rows_154 ?_
      refine lv_iload_n hx hb dX12_rows_157 rfl (lv_at hl 1 rfl) ?_
      refine rL_73 (v := (σ.a 73 ((x1 : Int32).toNatClampNeg))) hx hb hK hP b1 dX12_rows_158 rfl ?_
      refine lv_istore_n (lv' := [(2, .int (σ.a 73 ((x1 : Int32).toNatClampNeg))), (0, .ref Q.h0), (1, .int x1)]) hx hb dX12_rows_159 rfl hl (by decide) rfl (fun ls hl => ?_)
      refine lv_aload_n hx hb dX12_rows_160 rfl (lv_at hl 1 rfl) ?_
      refine lv_aload_n hx hb dX12_rows_161 rfl (lv_at hl 1 rfl) ?_
      refine rG_49 hx hb hts i_X12_rows_X12 hown hK hP (hts (.fieldLink RX12 150 "StatementRules2Model" "continues" "[I") k_X12_rows_fieldLink_RX12_150_SRModel_continues_I) dX12_rows_162 ?_
      refine lv_iload_n hx hb dX12_rows_165 rfl (lv_at hl 0 rfl) ?_
      obtain ⟨b4, hf⟩ := hf_ite hf
      refine rL_49 (v := (σ.a 49 (((σ.a 73 ((x1 : Int32).toNatClampNeg)) : Int32).toNatClampNeg))) hx hb hK hP b4 dX12_rows_166 rfl ?_
      refine lv_aload_n hx hb dX12_rows_167 rfl (lv_at hl 1 rfl) ?_
      refine rG_66 hx hb hts i_X12_rows_X12 hown hK hP (hts (.fieldLink RX12 180 "StatementRules2Model" "fp" "[I") k_X12_rows_fieldLink_RX12_180_SRModel_fp_I) dX12_rows_168 ?_
      refine lv_iload_n hx hb dX12_rows_171 rfl (lv_at hl 2 rfl) ?_
      refine rL_66 (v := (σ.a 66 ((x1 : Int32).toNatClampNeg))) hx hb hK hP b1 dX12_rows_172 rfl ?_
      obtain ⟨p5, hcp5, hf⟩ := hf_bind hf
      have hFc := r_free hD hS hA
      refine va_callv (va_runV (As := [.int (σ.a 49 (((σ.a 73 ((x1 : Int32).toNatClampNeg)) : Int32).toNatClampNeg)), .int (σ.a 66 ((x1 : Int32).toNatClampNeg))]) (rest := []) ⟨hx, hb, hml, hown, hts⟩ (c_X12_patch l dC dI _ Q N σ (σ.a 49 (((σ.a 73 ((x1 : Int32).toNatClampNeg)) : Int32).toNatClampNeg)) (σ.a 66 ((x1 : Int32).toNatClampNeg)) p5 hcp5) (cwV 2 hts hX12_rows_X12_patch_v510 rfl rfl rfl (by decide +kernel) ⟨Nat.le_of_ble_eq_true rfl, Nat.le_of_ble_eq_true rfl⟩) ⟨zPre.blind, va_recv hK hP (ci := 11) (q0 := 0) rfl rfl, zPre.go hZ hP hK hD⟩ rfl rfl hl.1 rfl (lv_room (Nat.le_of_ble_eq_true rfl)) dX12_rows_173 ⟨Nat.le_of_ble_eq_true rfl, Nat.le_of_ble_eq_true rfl⟩) hS (fun q _ h => hFc q h) hFc (fun u9 t9 H1 locs ht hvm hw hB hz1 hk1 hS => ?_)
      obtain ⟨hP, hK1, hD1⟩ := hB
      rw [ht] at hP
      have hD := hD1.weaken (fun _ _ _ h => hFc _ h)
      generalize H1 = H at hP hS ⊢
      refine lv_aload_n hx hb dX12_rows_176 rfl (lv_at hl 1 rfl) ?_
      refine lv_bipush (v := 15) hx hb dX12_rows_177 (by decide) ?_
      refine lv_aload_n hx hb dX12_rows_179 rfl (lv_at hl 1 rfl) ?_
      refine rG_66 hx hb hts i_X12_rows_X12 hown hK hP (hts (.fieldLink RX12 180 "StatementRules2Model" "fp" "[I") k_X12_rows_fieldLink_RX12_180_SRModel_fp_I) dX12_rows_180 ?_
      refine lv_iload_n hx hb dX12_rows_183 rfl (lv_at hl 2 rfl) ?_
      refine rL_66 (v := (p5.a 66 ((x1 : Int32).toNatClampNeg))) hx hb hK hP b1 dX12_rows_184 rfl ?_
      obtain ⟨p7, hcp7, hf⟩ := hf_bind hf
      have hFc := r_free hD hS hA
      refine va_calli (va_runV (As := [.int 15, .int (p5.a 66 ((x1 : Int32).toNatClampNeg))]) (rest := []) ⟨hx, hb, hml, hown, hts⟩ (c_X12_emit l dC dI _ Q N p5 15 (p5.a 66 ((x1 : Int32).toNatClampNeg)) p7 hcp7) (cwV 2 hts hX12_rows_X12_emit_v464 rfl rfl rfl (by decide +kernel) ⟨Nat.le_of_ble_eq_true rfl, Nat.le_of_ble_eq_true rfl⟩) ⟨zPre.blind, va_recv hK hP (ci := 11) (q0 := 0) rfl rfl, zPre.go hZ hP hK hD⟩ rfl rfl hl.1 rfl (lv_room (Nat.le_of_ble_eq_true rfl)) dX12_rows_185 ⟨Nat.le_of_ble_eq_true rfl, Nat.le_of_ble_eq_true rfl⟩) hS (fun q _ h => hFc q h) hFc (fun r8 u9 t9 H1 locs ht hvm hw hB hz1 hk1 hS => ?_)
      obtain ⟨hP, hK1, hD1⟩ := hB
      rw [ht] at hP
      have hD := hD1.weaken (fun _ _ _ h => hFc _ h)
      generalize H1 = H at hP hS ⊢
      obtain rfl : r8 = p7.1 := hw
      refine lv_pop hx hb dX12_rows_188 rfl ?_
      refine lv_aload_n hx hb dX12_rows_189 rfl (lv_at hl 1 rfl) ?_
      refine rG_22 hx hb hts i_X12_rows_X12 hown hK hP (hts (.fieldLink RX12 87 "StatementRules2Model" "ix" "[I") k_X12_rows_fieldLink_RX12_87_SRModel_ix_I) dX12_rows_190 ?_
      refine lv_aload_n hx hb dX12_rows_193 rfl (lv_at hl 1 rfl) ?_
      refine rG_66 hx hb hts i_X12_rows_X12 hown hK hP (hts (.fieldLink RX12 180 "StatementRules2Model" "fp" "[I") k_X12_rows_fieldLink_RX12_180_SRModel_fp_I) dX12_rows_194 ?_
      refine lv_iload_n hx hb dX12_rows_197 rfl (lv_at hl 2 rfl) ?_
      refine rL_66 (v := (p7.2.a 66 ((x1 : Int32).toNatClampNeg))) hx hb hK hP b1 dX12_rows_198 rfl ?_
      refine lv_aload_n hx hb dX12_rows_199 rfl (lv_at hl 1 rfl) ?_
      refine rG_20 (v := (p7.2.i 20)) hx hb hts i_X12_rows_X12 hown hK hP (hts (.fieldLink RX12 358 "StatementRules2Model" "codes" "I") k_X12_rows_fieldLink_RX12_358_SRModel_codes_I) dX12_rows_200 rfl ?_
      obtain ⟨b9, hf⟩ := hf_ite hf
      refine rS_22 hx hb hK hP hD hS b9 dX12_rows_203 (fun H locs hP hD hS => ?_)
      refine lv_aload_n hx hb dX12_rows_204 rfl (lv_at hl 1 rfl) ?_
      refine lv_aload_n hx hb dX12_rows_205 rfl (lv_at hl 1 rfl) ?_
      refine rG_48 hx hb hts i_X12_rows_X12 hown hK hP (hts (.fieldLink RX12 147 "StatementRules2Model" "breaks" "[I") k_X12_rows_fieldLink_RX12_147_SRModel_breaks_I) dX12_rows_206 ?_
      refine lv_iload_n hx hb dX12_rows_209 rfl (lv_at hl 0 rfl) ?_
      refine rL_48 (v := (p7.2.a 48 (((σ.a 73 ((x1 : Int32).toNatClampNeg)) : Int32).toNatClampNeg))) hx hb hK hP b4 dX12_rows_210 rfl ?_
      refine lv_aload_n hx hb dX12_rows_211 rfl (lv_at hl 1 rfl) ?_
      refine rG_20 (v := (p7.2.i 20)) hx hb hts i_X12_rows_X12 hown hK hP (hts (.fieldLink RX12 358 "StatementRules2Model" "codes" "I") k_X12_rows_fieldLink_RX12_358_SRModel_codes_I) dX12_rows_212 rfl ?_
      obtain ⟨p10, hcp10, hf⟩ := hf_bind hf
      have hFc := r_free hD hS hA
      refine va_callv (va_runV (As := [.int (p7.2.a 48 (((σ.a 73 ((x1 : Int32).toNatClampNeg)) : Int32).toNatClampNeg)), .int (p7.2.i 20)]) (rest := []) ⟨hx, hb, hml, hown, hts⟩ (c_X12_patch l dC dI _ Q N (RS.setA p7.2 22 (((p7.2.a 66 ((x1 : Int32).toNatClampNeg)) : Int32).toNatClampNeg) (p7.2.i 20)) (p7.2.a 48 (((σ.a 73 ((x1 : Int32).toNatClampNeg)) : Int32).toNatClampNeg)) (p7.2.i 20) p10 hcp10) (cwV 2 hts hX12_rows_X12_patch_v510 rfl rfl rfl (by decide +kernel) ⟨Nat.le_of_ble_eq_true rfl, Nat.le_of_ble_eq_true rfl⟩) ⟨zPre.blind, va_recv hK hP (ci := 11) (q0 := 0) rfl rfl, zPre.go hZ hP hK hD⟩ rfl rfl hl.1 rfl (lv_room (Nat.le_of_ble_eq_true rfl)) dX12_rows_215 ⟨Nat.le_of_ble_eq_true rfl, Nat.le_of_ble_eq_true rfl⟩) hS (fun q _ h => hFc q h) hFc (fun u9 t9 H1 locs ht hvm hw hB hz1 hk1 hS => ?_)
      obtain ⟨hP, hK1, hD1⟩ := hB
      rw [ht] at hP
      have hD := hD1.weaken (fun _ _ _ h => hFc _ h)
      generalize H1 = H at hP hS ⊢
      refine lv_aload_n hx hb dX12_rows_218 rfl (lv_at hl 1 rfl) ?_
      refine lv_bipush (v := 25) hx hb dX12_rows_219 (by decide) ?_
      refine lv_iconst (v := 0) hx hb dX12_rows_221 (by decide) ?_
      obtain ⟨p12, hcp12, hf⟩ := hf_bind hf
      have hFc := r_free hD hS hA
      refine va_calli (va_runV (As := [.int 25, .int 0]) (rest := []) ⟨hx, hb, hml, hown, hts⟩ (c_X12_emit l dC dI _ Q N p10 25 0 p12 hcp12) (cwV 2 hts hX12_rows_X12_emit_v464 rfl rfl rfl (by decide +kernel) ⟨Nat.le_of_ble_eq_true rfl, Nat.le_of_ble_eq_true rfl⟩) ⟨zPre.blind, va_recv hK hP (ci := 11) (q0 := 0) rfl rfl, zPre.go hZ hP hK hD⟩ rfl rfl hl.1 rfl (lv_room (Nat.le_of_ble_eq_true rfl)) dX12_rows_222 ⟨Nat.le_of_ble_eq_true rfl, Nat.le_of_ble_eq_true rfl⟩) hS (fun q _ h => hFc q h) hFc (fun r13 u9 t9 H1 locs ht hvm hw hB hz1 hk1 hS => ?_)
      obtain ⟨hP, hK1, hD1⟩ := hB
      rw [ht] at hP
      have hD := hD1.weaken (fun _ _ _ h => hFc _ h)
      generalize H1 = H at hP hS ⊢
      obtain rfl : r13 = p12.1 := hw
      refine lv_pop hx hb dX12_rows_225 rfl ?_
      refine lv_aload_n hx hb dX12_rows_226 rfl (lv_at hl 1 rfl) ?_
      refine lv_dup hx hb dX12_rows_227 rfl ?_
      refine rG_52 (v := (p12.2.i 52)) hx hb hts i_X12_rows_X12 hown hK hP (hts (.fieldLink RX12 370 "StatementRules2Model" "depth" "I") k_X12_rows_fieldLink_RX12_370_SRModel_depth_I) dX12_rows_228 rfl ?_
      refine lv_iconst (v := 1) hx hb dX12_rows_231 (by decide) ?_
      refine lv_isub hx hb dX12_rows_232 ?_
      refine rP_52 hx hb hts i_X12_rows_X12 hown hK hP hD hS (hts (.fieldLink RX12 370 "StatementRules2Model" "depth" "I") k_X12_rows_fieldLink_RX12_370_SRModel_depth_I) dX12_rows_233 (fun H locs hP hD hS => ?_)
      refine lv_aload_n hx hb dX12_rows_236 rfl (lv_at hl 1 rfl) ?_
      refine lv_dup hx hb dX12_rows_237 rfl ?_
      refine rG_43 (v := (p12.2.i 43)) hx hb hts i_X12_rows_X12 hown hK hP (hts (.fieldLink RX12 367 "StatementRules2Model" "goals" "I") k_X12_rows_fieldLink_RX12_367_SRModel_goals_I) dX12_rows_238 rfl ?_
      refine lv_iconst (v := 1) hx hb dX12_rows_241 (by decide) ?_
      refine lv_isub hx hb dX12_rows_242 ?_
      refine rP_43 hx hb hts i_X12_rows_X12 hown hK hP hD hS (hts (.fieldLink RX12 367 "StatementRules2Model" "goals" "I") k_X12_rows_fieldLink_RX12_367_SRModel_goals_I) dX12_rows_243 (fun H locs hP hD hS => ?_)
      refine lv_aload_n hx hb dX12_rows_246 rfl (lv_at hl 1 rfl) ?_
      refine lv_aload_n hx hb dX12_rows_247 rfl (lv_at hl 1 rfl) ?_
      refine rG_71 hx hb hts i_X12_rows_X12 hown hK hP (hts (.fieldLink RX12 195 "StatementRules2Model" "fx" "[I") k_X12_rows_fieldLink_RX12_195_SRModel_fx_I) dX12_rows_248 ?_
      refine lv_iload_n hx hb dX12_rows_251 rfl (lv_at hl 2 rfl) ?_
      refine rL_71 (v := (p12.2.a 71 ((x1 : Int32).toNatClampNeg))) hx hb hK hP b1 dX12_rows_252 rfl ?_
      refine rP_38 hx hb hts i_X12_rows_X12 hown hK hP hD hS (hts (.fieldLink RX12 361 "StatementRules2Model" "seen" "I") k_X12_rows_fieldLink_RX12_361_SRModel_seen_I) dX12_rows_253 (fun H locs hP hD hS => ?_)
      refine lv_aload_n hx hb dX12_rows_256 rfl (lv_at hl 1 rfl) ?_
      refine lv_iconst (v := 1) hx hb dX12_rows_257 (by decide) ?_
      obtain ⟨p14, hcp14, hf⟩ := hf_bind hf
      have hFc := r_free hD hS hA
      refine va_callv (va_runV (As := [.int 1]) (rest := []) ⟨hx, hb, hml, hown, hts⟩ (c_X12_over l dC dI _ Q N (RS.setI (RS.setI (RS.setI p12.2 52 ((p12.2.i 52) - 1)) 43 ((p12.2.i 43) - 1)) 38 (p12.2.a 71 ((x1 : Int32).toNatClampNeg))) 1 p14 hcp14) (cwV 1 hts hX12_rows_X12_over_v490 rfl rfl rfl (by decide +kernel) ⟨Nat.le_of_ble_eq_true rfl, Nat.le_of_ble_eq_true rfl⟩) ⟨zPre.blind, va_recv hK hP (ci := 11) (q0 := 0) rfl rfl, zPre.go hZ hP hK hD⟩ rfl rfl hl.1 rfl (lv_room (Nat.le_of_ble_eq_true rfl)) dX12_rows_258 ⟨Nat.le_of_ble_eq_true rfl, Nat.le_of_ble_eq_true rfl⟩) hS (fun q _ h => hFc q h) hFc (fun u9 t9 H1 locs ht hvm hw hB hz1 hk1 hS => ?_)
      obtain ⟨hP, hK1, hD1⟩ := hB
      rw [ht] at hP
      have hD := hD1.weaken (fun _ _ _ h => hFc _ h)
      generalize H1 = H at hP hS ⊢
      obtain rfl := Option.some.inj hf
      exact W.vret hx hb hr (fun t ht hW => ⟨⟨(), rfl, trivial, by rw [ht]; exact hP, va_K.moved hW.alike hK, hD⟩, hS.F ht⟩) hS.2.2 dX12_rows_261
    ·
      replace hf := (if_pos c3).symm.trans hf
      refine lv_aload_n hx hb dX12_rows_80 rfl (lv_at hl 0 rfl) ?_
      refine lv_aload_n hx hb dX12_rows_81 rfl (lv_at hl 0 rfl) ?_
      refine rG_74 hx hb hts i_X12_rows_X12 hown hK hP (hts (.fieldLink RX12 204 "StatementRules2Model" "fn" "[J") k_X12_rows_fieldLink_RX12_204_SRModel_fn_J) dX12_rows_82 ?_
      refine lv_iload_n hx hb dX12_rows_85 rfl (lv_at hl 1 rfl) ?_
      refine rL_74 (v := (σ.b 74 ((x1 : Int32).toNatClampNeg))) hx hb hK hP b1 dX12_rows_86 rfl ?_
      refine lv_iconst (v := 0) hx hb dX12_rows_87 (by decide) ?_
      obtain ⟨p16, hcp16, hf⟩ := hf_bind hf
      have hFc := r_free hD hS hA
      refine va_calli (va_runV (As := [.long (σ.b 74 ((x1 : Int32).toNatClampNeg)), .int 0]) (rest := []) ⟨hx, hb, hml, hown, hts⟩ (c_X12_see l dC dI _ Q N σ (σ.b 74 ((x1 : Int32).toNatClampNeg)) 0 p16 hcp16) (cwV 2 hts hX12_rows_X12_see_v506 rfl rfl rfl (by decide +kernel) ⟨Nat.le_of_ble_eq_true rfl, Nat.le_of_ble_eq_true rfl⟩) ⟨zPre.blind, va_recv hK hP (ci := 11) (q0 := 0) rfl rfl, zPre.go hZ hP hK hD⟩ rfl rfl hl.1 rfl (lv_room (Nat.le_of_ble_eq_true rfl)) dX12_rows_88 ⟨Nat.le_of_ble_eq_true rfl, Nat.le_of_ble_eq_true rfl⟩) hS (fun q _ h => hFc q h) hFc (fun r17 u9 t9 H1 locs ht hvm hw hB hz1 hk1 hS => ?_)
      obtain ⟨hP, hK1, hD1⟩ := hB
      rw [ht] at hP
      have hD := hD1.weaken (fun _ _ _ h => hFc _ h)
      generalize H1 = H at hP hS ⊢
      obtain rfl : r17 = p16.1 := hw
      refine lv_istore_n (lv' := [(2, .int p16.1), (0, .ref Q.h0), (1, .int x1)]) hx hb dX12_rows_91 rfl hl (by decide) rfl (fun ls hl => ?_)
      refine lv_aload_n hx hb dX12_rows_92 rfl (lv_at hl 1 rfl) ?_
      refine lv_bipush (v := 41) hx hb dX12_rows_93 (by decide) ?_
      obtain ⟨p18, hcp18, hf⟩ := hf_bind hf
      have hFc := r_free hD hS hA
      refine va_calli (va_runV (As := [.int 41]) (rest := []) ⟨hx, hb, hml, hown, hts⟩ (c_X12_shut l dC dI _ Q N p16.2 41 p18 hcp18) (cwV 1 hts hX12_rows_X12_shut_v468 rfl rfl rfl (by decide +kernel) ⟨Nat.le_of_ble_eq_true rfl, Nat.le_of_ble_eq_true rfl⟩) ⟨zPre.blind, va_recv hK hP (ci := 11) (q0 := 0) rfl rfl, zPre.go hZ hP hK hD⟩ rfl rfl hl.1 rfl (lv_room (Nat.le_of_ble_eq_true rfl)) dX12_rows_95 ⟨Nat.le_of_ble_eq_true rfl, Nat.le_of_ble_eq_true rfl⟩) hS (fun q _ h => hFc q h) hFc (fun r19 u9 t9 H1 locs ht hvm hw hB hz1 hk1 hS => ?_)
      obtain ⟨hP, hK1, hD1⟩ := hB
      rw [ht] at hP
      have hD := hD1.weaken (fun _ _ _ h => hFc _ h)
      generalize H1 = H at hP hS ⊢
      obtain rfl : r19 = p18.1 := hw
      refine lv_pop hx hb dX12_rows_98 rfl ?_
      refine lv_aload_n hx hb dX12_rows_99 rfl (lv_at hl 1 rfl) ?_
      refine lv_dup hx hb dX12_rows_100 rfl ?_
      refine rG_52 (v := (p18.2.i 52)) hx hb hts i_X12_rows_X12 hown hK hP (hts (.fieldLink RX12 370 "StatementRules2Model" "depth" "I") k_X12_rows_fieldLink_RX12_370_SRModel_depth_I) dX12_rows_101 rfl ?_
      refine lv_iconst (v := 1) hx hb dX12_rows_104 (by decide) ?_
      refine lv_iadd hx hb dX12_rows_105 ?_
      refine rP_52 hx hb hts i_X12_rows_X12 hown hK hP hD hS (hts (.fieldLink RX12 370 "StatementRules2Model" "depth" "I") k_X12_rows_fieldLink_RX12_370_SRModel_depth_I) dX12_rows_106 (fun H locs hP hD hS => ?_)
      refine lv_aload_n hx hb dX12_rows_109 rfl (lv_at hl 1 rfl) ?_
      refine rG_66 hx hb hts i_X12_rows_X12 hown hK hP (hts (.fieldLink RX12 180 "StatementRules2Model" "fp" "[I") k_X12_rows_fieldLink_RX12_180_SRModel_fp_I) dX12_rows_110 ?_
      refine lv_iload_n hx hb dX12_rows_113 rfl (lv_at hl 2 rfl) ?_
      refine lv_aload_n hx hb dX12_rows_114 rfl (lv_at hl 1 rfl) ?_
      refine lv_bipush (v := 24) hx hb dX12_rows_115 (by decide) ?_
      refine lv_iconst (v := 0) hx hb dX12_rows_117 (by decide) ?_
      obtain ⟨p20, hcp20, hf⟩ := hf_bind hf
      have hFc := r_free hD hS hA
      refine va_calli (va_runV (As := [.int 24, .int 0]) (rest := [.int x1, .ref (Q.q 66)]) ⟨hx, hb, hml, hown, hts⟩ (c_X12_emit l dC dI _ Q N (RS.setI p18.2 52 ((p18.2.i 52) + 1)) 24 0 p20 hcp20) (cwV 2 hts hX12_rows_X12_emit_v464 rfl rfl rfl (by decide +kernel) ⟨Nat.le_of_ble_eq_true rfl, Nat.le_of_ble_eq_true rfl⟩) ⟨zPre.blind, va_recv hK hP (ci := 11) (q0 := 0) rfl rfl, zPre.go hZ hP hK hD⟩ rfl rfl hl.1 rfl (lv_room (Nat.le_of_ble_eq_true rfl)) dX12_rows_118 ⟨Nat.le_of_ble_eq_true rfl, Nat.le_of_ble_eq_true rfl⟩) hS (fun q _ h => hFc q h) hFc (fun r21 u9 t9 H1 locs ht hvm hw hB hz1 hk1 hS => ?_)
      obtain ⟨hP, hK1, hD1⟩ := hB
      rw [ht] at hP
      have hD := hD1.weaken (fun _ _ _ h => hFc _ h)
      generalize H1 = H at hP hS ⊢
      obtain rfl : r21 = p20.1 := hw
      refine rS_66 hx hb hK hP hD hS b1 dX12_rows_121 (fun H locs hP hD hS => ?_)
      refine lv_aload_n hx hb dX12_rows_122 rfl (lv_at hl 1 rfl) ?_
      refine rG_23 hx hb hts i_X12_rows_X12 hown hK hP (hts (.fieldLink RX12 90 "StatementRules2Model" "iy" "[I") k_X12_rows_fieldLink_RX12_90_SRModel_iy_I) dX12_rows_123 ?_
      refine lv_aload_n hx hb dX12_rows_126 rfl (lv_at hl 1 rfl) ?_
      refine rG_66 hx hb hts i_X12_rows_X12 hown hK hP (hts (.fieldLink RX12 180 "StatementRules2Model" "fp" "[I") k_X12_rows_fieldLink_RX12_180_SRModel_fp_I) dX12_rows_127 ?_
      refine lv_iload_n hx hb dX12_rows_130 rfl (lv_at hl 2 rfl) ?_
      refine rL_66 (v := ((upd (p20.2.a 66) ((x1 : Int32).toNatClampNeg) p20.1) ((x1 : Int32).toNatClampNeg))) hx hb hK hP b1 dX12_rows_131 rfl ?_
      refine lv_iload_n hx hb dX12_rows_132 rfl (lv_at hl 0 rfl) ?_
      obtain ⟨b22, hf⟩ := hf_ite hf
      refine rS_23 hx hb hK hP hD hS b22 dX12_rows_133 (fun H locs hP hD hS => ?_)
      refine lv_aload_n hx hb dX12_rows_134 rfl (lv_at hl 1 rfl) ?_
      refine rG_73 hx hb hts i_X12_rows_X12 hown hK hP (hts (.fieldLink RX12 201 "StatementRules2Model" "fz" "[I") k_X12_rows_fieldLink_RX12_201_SRModel_fz_I) dX12_rows_135 ?_
      refine lv_iload_n hx hb dX12_rows_138 rfl (lv_at hl 2 rfl) ?_
      refine lv_aload_n hx hb dX12_rows_139 rfl (lv_at hl 1 rfl) ?_
      obtain ⟨p23, hcp23, hf⟩ := hf_bind hf
      have hFc := r_free hD hS hA
      refine va_calli (va_runV (As := []) (rest := [.int x1, .ref (Q.q 73)]) ⟨hx, hb, hml, hown, hts⟩ (c_X12_loopGoal l dC dI _ Q N (RS.setA (RS.setA p20.2 66 ((x1 : Int32).toNatClampNeg) p20.1) 23 ((((upd (p20.2.a 66) ((x1 : Int32).toNatClampNeg) p20.1) ((x1 : Int32).toNatClampNeg)) : Int32).toNatClampNeg) p16.1) p23 hcp23) (cwV 0 hts hX12_rows_X12_loopGoal_v536 rfl rfl rfl (by decide +kernel) ⟨Nat.le_of_ble_eq_true rfl, Nat.le_of_ble_eq_true rfl⟩) ⟨zPre.blind, va_recv hK hP (ci := 11) (q0 := 0) rfl rfl, zPre.go hZ hP hK hD⟩ rfl rfl hl.1 rfl (lv_room (Nat.le_of_ble_eq_true rfl)) dX12_rows_140 ⟨Nat.le_of_ble_eq_true rfl, Nat.le_of_ble_eq_true rfl⟩) hS (fun q _ h => hFc q h) hFc (fun r24 u9 t9 H1 locs ht hvm hw hB hz1 hk1 hS => ?_)
      obtain ⟨hP, hK1, hD1⟩ := hB
      rw [ht] at hP
      have hD := hD1.weaken (fun _ _ _ h => hFc _ h)
      generalize H1 = H at hP hS ⊢
      obtain rfl : r24 = p23.1 := hw
      refine rS_73 hx hb hK hP hD hS b1 dX12_rows_143 (fun H locs hP hD hS => ?_)
      refine lv_aload_n hx hb dX12_rows_144 rfl (lv_at hl 1 rfl) ?_
      refine lv_bipush (v := 13) hx hb dX12_rows_145 (by decide) ?_
      obtain ⟨p25, hcp25, hf⟩ := hf_bind hf
      have hFc := r_free hD hS hA
      refine va_callv (va_runV (As := [.int 13]) (rest := []) ⟨hx, hb, hml, hown, hts⟩ (c_X12_body l dC dI _ Q N (RS.setA p23.2 73 ((x1 : Int32).toNatClampNeg) p23.1) 13 p25 hcp25) (cwV 1 hts hX12_rows_X12_body_v521 rfl rfl rfl (by decide +kernel) ⟨Nat.le_of_ble_eq_true rfl, Nat.le_of_ble_eq_true rfl⟩) ⟨zPre.blind, va_recv hK hP (ci := 11) (q0 := 0) rfl rfl, zPre.go hZ hP hK hD⟩ rfl rfl hl.1 rfl (lv_room (Nat.le_of_ble_eq_true rfl)) dX12_rows_147 ⟨Nat.le_of_ble_eq_true rfl, Nat.le_of_ble_eq_true rfl⟩) hS (fun q _ h => hFc q h) hFc (fun u9 t9 H1 locs ht hvm hw hB hz1 hk1 hS => ?_)
      obtain ⟨hP, hK1, hD1⟩ := hB
      rw [ht] at hP
      have hD := hD1.weaken (fun _ _ _ h => hFc _ h)
      generalize H1 = H at hP hS ⊢
      refine lv_goto (tgt := 261) hx hb dX12_rows_150 (by decide) ?_
      obtain rfl := Option.some.inj hf
      exact W.vret hx hb hr (fun t ht hW => ⟨⟨(), rfl, trivial, by rw [ht]; exact hP, va_K.moved hW.alike hK, hD⟩, hS.F ht⟩) hS.2.2 dX12_rows_261
  ·
    replace hf := (if_pos c2).symm.trans hf
    refine lv_aload_n hx hb dX12_rows_11 rfl (lv_at hl 0 rfl) ?_
    refine rG_68 hx hb hts i_X12_rows_X12 hown hK hP (hts (.fieldLink RX12 186 "StatementRules2Model" "fr" "[I") k_X12_rows_fieldLink_RX12_186_SRModel_fr_I) dX12_rows_12 ?_
    refine lv_iload_n hx hb dX12_rows_15 rfl (lv_at hl 1 rfl) ?_
    refine lv_dup2_11 hx hb dX12_rows_16 rfl rfl ?_
    refine rL_68 (v := (σ.a 68 ((x1 : Int32).toNatClampNeg))) hx hb hK hP b1 dX12_rows_17 rfl ?_
    refine lv_iconst (v := 1) hx hb dX12_rows_18 (by decide) ?_
    refine lv_iadd hx hb dX12_rows_19 ?_
    refine rS_68 hx hb hK hP hD hS b1 dX12_rows_20 (fun H locs hP hD hS => ?_)
    refine lv_aload_n hx hb dX12_rows_21 rfl (lv_at hl 0 rfl) ?_
    refine rG_10 (v := (σ.i 10)) hx hb hts i_X12_rows_X12 hown hK hP (hts (.fieldLink RX12 307 "StatementRules2Model" "tok" "I") k_X12_rows_fieldLink_RX12_307_SRModel_tok_I) dX12_rows_22 rfl ?_
    refine lv_bipush (v := 44) hx hb dX12_rows_25 (by decide) ?_
    refine lv_icmp_ne (tgt := 45) hx hb dX12_rows_27 (by decide) (fun c27 => ?_) (fun c27 => ?_)
    ·
      replace hf := (if_neg c27).symm.trans hf
      refine lv_aload_n hx hb dX12_rows_45 rfl (lv_at hl 0 rfl) ?_
      refine lv_bipush (v := 23) hx hb dX12_rows_46 (by decide) ?_
      refine lv_aload_n hx hb dX12_rows_48 rfl (lv_at hl 0 rfl) ?_
      refine rG_68 hx hb hts i_X12_rows_X12 hown hK hP (hts (.fieldLink RX12 186 "StatementRules2Model" "fr" "[I") k_X12_rows_fieldLink_RX12_186_SRModel_fr_I) dX12_rows_49 ?_
      refine lv_iload_n hx hb dX12_rows_52 rfl (lv_at hl 1 rfl) ?_
      refine rL_68 (v := ((upd (σ.a 68) ((x1 : Int32).toNatClampNeg) ((σ.a 68 ((x1 : Int32).toNatClampNeg)) + 1)) ((x1 : Int32).toNatClampNeg))) hx hb hK hP b1 dX12_rows_53 rfl ?_
      obtain ⟨p28, hcp28, hf⟩ := hf_bind hf
      have hFc := r_free hD hS hA
      refine va_calli (va_runV (As := [.int 23, .int ((upd (σ.a 68) ((x1 : Int32).toNatClampNeg) ((σ.a 68 ((x1 : Int32).toNatClampNeg)) + 1)) ((x1 : Int32).toNatClampNeg))]) (rest := []) ⟨hx, hb, hml, hown, hts⟩ (c_X12_emit l dC dI _ Q N (RS.setA σ 68 ((x1 : Int32).toNatClampNeg) ((σ.a 68 ((x1 : Int32).toNatClampNeg)) + 1)) 23 ((upd (σ.a 68) ((x1 : Int32).toNatClampNeg) ((σ.a 68 ((x1 : Int32).toNatClampNeg)) + 1)) ((x1 : Int32).toNatClampNeg)) p28 hcp28) (cwV 2 hts hX12_rows_X12_emit_v464 rfl rfl rfl (by decide +kernel) ⟨Nat.le_of_ble_eq_true rfl, Nat.le_of_ble_eq_true rfl⟩) ⟨zPre.blind, va_recv hK hP (ci := 11) (q0 := 0) rfl rfl, zPre.go hZ hP hK hD⟩ rfl rfl hl.1 rfl (lv_room (Nat.le_of_ble_eq_true rfl)) dX12_rows_54 ⟨Nat.le_of_ble_eq_true rfl, Nat.le_of_ble_eq_true rfl⟩) hS (fun q _ h => hFc q h) hFc (fun r29 u9 t9 H1 locs ht hvm hw hB hz1 hk1 hS => ?_)
      obtain ⟨hP, hK1, hD1⟩ := hB
      rw [ht] at hP
      have hD := hD1.weaken (fun _ _ _ h => hFc _ h)
      generalize H1 = H at hP hS ⊢
      obtain rfl : r29 = p28.1 := hw
      refine lv_pop hx hb dX12_rows_57 rfl ?_
      refine lv_aload_n hx hb dX12_rows_58 rfl (lv_at hl 0 rfl) ?_
      refine rG_65 hx hb hts i_X12_rows_X12 hown hK hP (hts (.fieldLink RX12 177 "StatementRules2Model" "fs" "[I") k_X12_rows_fieldLink_RX12_177_SRModel_fs_I) dX12_rows_59 ?_
      refine lv_iload_n hx hb dX12_rows_62 rfl (lv_at hl 1 rfl) ?_
      refine lv_bipush (v := 12) hx hb dX12_rows_63 (by decide) ?_
      refine rS_65 hx hb hK hP hD hS b1 dX12_rows_65 (fun H locs hP hD hS => ?_)
      refine lv_goto (tgt := 261) hx hb dX12_rows_66 (by decide) ?_
      obtain rfl := Option.some.inj hf
      exact W.vret hx hb hr (fun t ht hW => ⟨⟨(), rfl, trivial, by rw [ht]; exact hP, va_K.moved hW.alike hK, hD⟩, hS.F ht⟩) hS.2.2 dX12_rows_261
    ·
      replace hf := (if_pos c27).symm.trans hf
      refine lv_aload_n hx hb dX12_rows_30 rfl (lv_at hl 0 rfl) ?_
      obtain ⟨p30, hcp30, hf⟩ := hf_bind hf
      have hFc := r_free hD hS hA
      refine va_callv (va_runV (As := []) (rest := []) ⟨hx, hb, hml, hown, hts⟩ (c_X12_next l dC dI _ Q N (RS.setA σ 68 ((x1 : Int32).toNatClampNeg) ((σ.a 68 ((x1 : Int32).toNatClampNeg)) + 1)) p30 hcp30) (cwV 0 hts hX12_rows_X12_next_v345 rfl rfl rfl (by decide +kernel) ⟨Nat.le_of_ble_eq_true rfl, Nat.le_of_ble_eq_true rfl⟩) ⟨zPre.blind, va_recv hK hP (ci := 11) (q0 := 0) rfl rfl, zPre.go hZ hP hK hD⟩ rfl rfl hl.1 rfl (lv_room (Nat.le_of_ble_eq_true rfl)) dX12_rows_31 ⟨Nat.le_of_ble_eq_true rfl, Nat.le_of_ble_eq_true rfl⟩) hS (fun q _ h => hFc q h) hFc (fun u9 t9 H1 locs ht hvm hw hB hz1 hk1 hS => ?_)
      obtain ⟨hP, hK1, hD1⟩ := hB
      rw [ht] at hP
      have hD := hD1.weaken (fun _ _ _ h => hFc _ h)
      generalize H1 = H at hP hS ⊢
      refine lv_aload_n hx hb dX12_rows_34 rfl (lv_at hl 0 rfl) ?_
      refine lv_bipush (v := 10) hx hb dX12_rows_35 (by decide) ?_
      refine lv_bipush (v := 16) hx hb dX12_rows_37 (by decide) ?_
      obtain ⟨p32, hcp32, hf⟩ := hf_bind hf
      have hFc := r_free hD hS hA
      refine va_callv (va_runV (As := [.int 10, .int 16]) (rest := []) ⟨hx, hb, hml, hown, hts⟩ (c_X12_then l dC dI _ Q N p30 10 16 p32 hcp32) (cwV 2 hts hX12_rows_X12_then_v393 rfl rfl rfl (by decide +kernel) ⟨Nat.le_of_ble_eq_true rfl, Nat.le_of_ble_eq_true rfl⟩) ⟨zPre.blind, va_recv hK hP (ci := 11) (q0 := 0) rfl rfl, zPre.go hZ hP hK hD⟩ rfl rfl hl.1 rfl (lv_room (Nat.le_of_ble_eq_true rfl)) dX12_rows_39 ⟨Nat.le_of_ble_eq_true rfl, Nat.le_of_ble_eq_true rfl⟩) hS (fun q _ h => hFc q h) hFc (fun u9 t9 H1 locs ht hvm hw hB hz1 hk1 hS => ?_)
      obtain ⟨hP, hK1, hD1⟩ := hB
      rw [ht] at hP
      have hD := hD1.weaken (fun _ _ _ h => hFc _ h)
      generalize H1 = H at hP hS ⊢
      refine lv_goto (tgt := 261) hx hb dX12_rows_42 (by decide) ?_
      obtain rfl := Option.some.inj hf
      exact W.vret hx hb hr (fun t ht hW => ⟨⟨(), rfl, trivial, by rw [ht]; exact hP, va_K.moved hW.alike hK, hD⟩, hS.F ht⟩) hS.2.2 dX12_rows_261
end
section
theorem k_X12_fors_fieldLink_RX12_177_SRModel_fs_I : Cond.fieldLink RX12 177 "StatementRules2Model" "fs" "[I" ∈ wzX12_fors := List.mem_cons_of_mem _ (List.mem_append_left _ (List.mem_of_getElem? (i := 0) rfl))
theorem i_X12_fors_X12 : ∀ w ∈ wsX120, w ∈ wzX12_fors := fun _ h => List.mem_cons_of_mem _ (List.mem_append_right _ (List.mem_append_left _ (h)))
theorem k_X12_fors_fieldLink_RX12_195_SRModel_fx_I : Cond.fieldLink RX12 195 "StatementRules2Model" "fx" "[I" ∈ wzX12_fors := List.mem_cons_of_mem _ (List.mem_append_left _ (List.mem_of_getElem? (i := 1) rfl))
theorem k_X12_fors_fieldLink_RX12_361_SRModel_seen_I : Cond.fieldLink RX12 361 "StatementRules2Model" "seen" "I" ∈ wzX12_fors := List.mem_cons_of_mem _ (List.mem_append_left _ (List.mem_of_getElem? (i := 2) rfl))
theorem k_X12_fors_fieldLink_RX12_204_SRModel_fn_J : Cond.fieldLink RX12 204 "StatementRules2Model" "fn" "[J" ∈ wzX12_fors := List.mem_cons_of_mem _ (List.mem_append_left _ (List.mem_of_getElem? (i := 3) rfl))
theorem k_X12_fors_fieldLink_RX12_180_SRModel_fp_I : Cond.fieldLink RX12 180 "StatementRules2Model" "fp" "[I" ∈ wzX12_fors := List.mem_cons_of_mem _ (List.mem_append_left _ (List.mem_of_getElem? (i := 4) rfl))
theorem k_X12_fors_fieldLink_RX12_358_SRModel_codes_I : Cond.fieldLink RX12 358 "StatementRules2Model" "codes" "I" ∈ wzX12_fors := List.mem_cons_of_mem _ (List.mem_append_left _ (List.mem_of_getElem? (i := 5) rfl))
theorem k_X12_fors_fieldLink_RX12_189_SRModel_fv_I : Cond.fieldLink RX12 189 "StatementRules2Model" "fv" "[I" ∈ wzX12_fors := List.mem_cons_of_mem _ (List.mem_append_left _ (List.mem_of_getElem? (i := 6) rfl))
theorem k_X12_fors_fieldLink_RX12_307_SRModel_tok_I : Cond.fieldLink RX12 307 "StatementRules2Model" "tok" "I" ∈ wzX12_fors := List.mem_cons_of_mem _ (List.mem_append_left _ (List.mem_of_getElem? (i := 7) rfl))
theorem k_X12_fors_fieldLink_RX12_198_SRModel_fy_I : Cond.fieldLink RX12 198 "StatementRules2Model" "fy" "[I" ∈ wzX12_fors := List.mem_cons_of_mem _ (List.mem_append_left _ (List.mem_of_getElem? (i := 8) rfl))
theorem k_X12_fors_fieldLink_RX12_294_SRModel_tokens_I : Cond.fieldLink RX12 294 "StatementRules2Model" "tokens" "I" ∈ wzX12_fors := List.mem_cons_of_mem _ (List.mem_append_left _ (List.mem_of_getElem? (i := 9) rfl))
theorem k_X12_fors_fieldLink_RX12_201_SRModel_fz_I : Cond.fieldLink RX12 201 "StatementRules2Model" "fz" "[I" ∈ wzX12_fors := List.mem_cons_of_mem _ (List.mem_append_left _ (List.mem_of_getElem? (i := 10) rfl))
theorem k_X12_fors_fieldLink_RX12_87_SRModel_ix_I : Cond.fieldLink RX12 87 "StatementRules2Model" "ix" "[I" ∈ wzX12_fors := List.mem_cons_of_mem _ (List.mem_append_left _ (List.mem_of_getElem? (i := 11) rfl))
theorem k_X12_fors_fieldLink_RX12_186_SRModel_fr_I : Cond.fieldLink RX12 186 "StatementRules2Model" "fr" "[I" ∈ wzX12_fors := List.mem_cons_of_mem _ (List.mem_append_left _ (List.mem_of_getElem? (i := 12) rfl))
theorem k_X12_fors_fieldLink_RX12_150_SRModel_continues_I : Cond.fieldLink RX12 150 "StatementRules2Model" "continues" "[I" ∈ wzX12_fors := List.mem_cons_of_mem _ (List.mem_append_left _ (List.mem_of_getElem? (i := 13) rfl))
theorem k_X12_fors_fieldLink_RX12_192_SRModel_fw_I : Cond.fieldLink RX12 192 "StatementRules2Model" "fw" "[I" ∈ wzX12_fors := List.mem_cons_of_mem _ (List.mem_append_left _ (List.mem_of_getElem? (i := 14) rfl))
theorem k_X12_fors_fieldLink_RX12_183_SRModel_fq_I : Cond.fieldLink RX12 183 "StatementRules2Model" "fq" "[I" ∈ wzX12_fors := List.mem_cons_of_mem _ (List.mem_append_left _ (List.mem_of_getElem? (i := 15) rfl))
theorem k_X12_fors_fieldLink_RX12_147_SRModel_breaks_I : Cond.fieldLink RX12 147 "StatementRules2Model" "breaks" "[I" ∈ wzX12_fors := List.mem_cons_of_mem _ (List.mem_append_left _ (List.mem_of_getElem? (i := 16) rfl))
theorem k_X12_fors_fieldLink_RX12_367_SRModel_goals_I : Cond.fieldLink RX12 367 "StatementRules2Model" "goals" "I" ∈ wzX12_fors := List.mem_cons_of_mem _ (List.mem_append_left _ (List.mem_of_getElem? (i := 17) rfl))
theorem k_X12_fors_fieldLink_RX12_153_SRModel_broken_Z : Cond.fieldLink RX12 153 "StatementRules2Model" "broken" "[Z" ∈ wzX12_fors := List.mem_cons_of_mem _ (List.mem_append_left _ (List.mem_of_getElem? (i := 18) rfl))
set_option maxHeartbeats 4000000 in
set_option maxRecDepth 100000 in
theorem j_X12_fors_195 {p : Program} {e : Env} {s : State} {m : MethodId} {args : Array Value} {below : List Frame} {meth : Method} {c : Code} {A : Nat → Prop} (l : Launch) (dC : Nat → ClassId) (dI : Nat → Nat → Nat) (Q : RQ) (N : Nat) (R : RS) (hx : p.tables.exec = Jvm.exec) (hb : c.code = cX12_fors) (hr : meth.sig.returnType = none) (hml : c.maxLocals = 3) (hown : s.vm.findClass RX12 = some m.cls) (hts : ∀ w ∈ wzX12_fors, w.before args s = true) (hlocks : meth.locks = false) (hZ : zAMB s) (hA : ∀ q : Nat, s.heap.size ≤ q → A q) (hK : va_K (dC, dI) vwCl (rT Q) s) : ∀ (σ : RS) (x1 : Int32) (H : Heap) (locs : List Loc) (ls : Array Slot), f_X12_fors_195 N σ x1 = some R → va_P (dC, dI) vwCl (rW Q σ) H → va_D A (rW Q σ) → va_S A s.heap H locs → lv_has ls 3 [(0, .ref Q.h0), (1, .int x1)] → W p l e ({ frames := 7, cells := 0, slots := 0, locals := 420 }) s m args below meth c H locs 0 0 (MQ below (va_Qv (fun (_ : Unit) => True) (fun (_ : Unit) (t : State) => zPost dC dI A (rW Q R) (rT Q) t) A) args s 0 0 A) (F0 m 195 ls []) := by
  intro σ x1 H locs ls hf hP hD hS hl
  unfold f_X12_fors_195 at hf
  refine lv_aload_n hx hb dX12_fors_195 rfl (lv_at hl 0 rfl) ?_
  refine rG_10 (v := (σ.i 10)) hx hb hts i_X12_fors_X12 hown hK hP (hts (.fieldLink RX12 307 "StatementRules2Model" "tok" "I") k_X12_fors_fieldLink_RX12_307_SRModel_tok_I) dX12_fors_196 rfl ?_
  refine lv_bipush (v := 59) hx hb dX12_fors_199 (by decide) ?_
  refine lv_icmp_ne (tgt := 221) hx hb dX12_fors_201 (by decide) (fun c23 => ?_) (fun c23 => ?_)
  ·
    replace hf := (if_neg c23).symm.trans hf
    refine lv_aload_n hx hb dX12_fors_221 rfl (lv_at hl 0 rfl) ?_
    refine lv_iconst (v := 4) hx hb dX12_fors_222 (by decide) ?_
    refine lv_bipush (v := 20) hx hb dX12_fors_223 (by decide) ?_
    obtain ⟨p24, hcp24, hf⟩ := hf_bind hf
    have hFc := r_free hD hS hA
    refine va_callv (va_runV (As := [.int 4, .int 20]) (rest := []) ⟨hx, hb, hml, hown, hts⟩ (c_X12_then l dC dI _ Q N σ 4 20 p24 hcp24) (cwV 2 hts hX12_fors_X12_then_v393 rfl rfl rfl (by decide +kernel) ⟨Nat.le_of_ble_eq_true rfl, Nat.le_of_ble_eq_true rfl⟩) ⟨zPre.blind, va_recv hK hP (ci := 11) (q0 := 0) rfl rfl, zPre.go hZ hP hK hD⟩ rfl rfl hl.1 rfl (lv_room (Nat.le_of_ble_eq_true rfl)) dX12_fors_225 ⟨Nat.le_of_ble_eq_true rfl, Nat.le_of_ble_eq_true rfl⟩) hS (fun q _ h => hFc q h) hFc (fun u9 t9 H1 locs ht hvm hw hB hz1 hk1 hS => ?_)
    obtain ⟨hP, hK1, hD1⟩ := hB
    rw [ht] at hP
    have hD := hD1.weaken (fun _ _ _ h => hFc _ h)
    generalize H1 = H at hP hS ⊢
    refine lv_goto (tgt := 477) hx hb dX12_fors_228 (by decide) ?_
    obtain rfl := Option.some.inj hf
    exact W.vret hx hb hr (fun t ht hW => ⟨⟨(), rfl, trivial, by rw [ht]; exact hP, va_K.moved hW.alike hK, hD⟩, hS.F ht⟩) hS.2.2 dX12_fors_477
  ·
    replace hf := (if_pos c23).symm.trans hf
    refine lv_aload_n hx hb dX12_fors_204 rfl (lv_at hl 0 rfl) ?_
    refine lv_iconst (v := 2) hx hb dX12_fors_205 (by decide) ?_
    refine lv_iconst (v := 1) hx hb dX12_fors_206 (by decide) ?_
    obtain ⟨p26, hcp26, hf⟩ := hf_bind hf
    have hFc := r_free hD hS hA
    refine va_calli (va_runV (As := [.int 2, .int 1]) (rest := []) ⟨hx, hb, hml, hown, hts⟩ (c_X12_emit l dC dI _ Q N σ 2 1 p26 hcp26) (cwV 2 hts hX12_fors_X12_emit_v464 rfl rfl rfl (by decide +kernel) ⟨Nat.le_of_ble_eq_true rfl, Nat.le_of_ble_eq_true rfl⟩) ⟨zPre.blind, va_recv hK hP (ci := 11) (q0 := 0) rfl rfl, zPre.go hZ hP hK hD⟩ rfl rfl hl.1 rfl (lv_room (Nat.le_of_ble_eq_true rfl)) dX12_fors_207 ⟨Nat.le_of_ble_eq_true rfl, Nat.le_of_ble_eq_true rfl⟩) hS (fun q _ h => hFc q h) hFc (fun r27 u9 t9 H1 locs ht hvm hw hB hz1 hk1 hS => ?_)
    obtain ⟨hP, hK1, hD1⟩ := hB
    rw [ht] at hP
    have hD := hD1.weaken (fun _ _ _ h => hFc _ h)
    generalize H1 = H at hP hS ⊢
    obtain rfl : r27 = p26.1 := hw
    refine lv_pop hx hb dX12_fors_210 rfl ?_
    refine lv_aload_n hx hb dX12_fors_211 rfl (lv_at hl 0 rfl) ?_
    refine rG_65 hx hb hts i_X12_fors_X12 hown hK hP (hts (.fieldLink RX12 177 "StatementRules2Model" "fs" "[I") k_X12_fors_fieldLink_RX12_177_SRModel_fs_I) dX12_fors_212 ?_
    refine lv_iload_n hx hb dX12_fors_215 rfl (lv_at hl 1 rfl) ?_
    refine lv_iconst (v := 5) hx hb dX12_fors_216 (by decide) ?_
    obtain ⟨b28, hf⟩ := hf_ite hf
    refine rS_65 hx hb hK hP hD hS b28 dX12_fors_217 (fun H locs hP hD hS => ?_)
    refine lv_goto (tgt := 477) hx hb dX12_fors_218 (by decide) ?_
    obtain rfl := Option.some.inj hf
    exact W.vret hx hb hr (fun t ht hW => ⟨⟨(), rfl, trivial, by rw [ht]; exact hP, va_K.moved hW.alike hK, hD⟩, hS.F ht⟩) hS.2.2 dX12_fors_477
set_option maxHeartbeats 4000000 in
set_option maxRecDepth 100000 in
theorem j_X12_fors_175 {p : Program} {e : Env} {s : State} {m : MethodId} {args : Array Value} {below : List Frame} {meth : Method} {c : Code} {A : Nat → Prop} (l : Launch) (dC : Nat → ClassId) (dI : Nat → Nat → Nat) (Q : RQ) (N : Nat) (R : RS) (hx : p.tables.exec = Jvm.exec) (hb : c.code = cX12_fors) (hr : meth.sig.returnType = none) (hml : c.maxLocals = 3) (hown : s.vm.findClass RX12 = some m.cls) (hts : ∀ w ∈ wzX12_fors, w.before args s = true) (hlocks : meth.locks = false) (hZ : zAMB s) (hA : ∀ q : Nat, s.heap.size ≤ q → A q) (hK : va_K (dC, dI) vwCl (rT Q) s) : ∀ (σ : RS) (x1 : Int32) (H : Heap) (locs : List Loc) (ls : Array Slot), f_X12_fors_175 N σ x1 = some R → va_P (dC, dI) vwCl (rW Q σ) H → va_D A (rW Q σ) → va_S A s.heap H locs → lv_has ls 3 [(0, .ref Q.h0), (1, .int x1)] → W p l e ({ frames := 7, cells := 0, slots := 0, locals := 420 }) s m args below meth c H locs 0 0 (MQ below (va_Qv (fun (_ : Unit) => True) (fun (_ : Unit) (t : State) => zPost dC dI A (rW Q R) (rT Q) t) A) args s 0 0 A) (F0 m 175 ls []) := by
  intro σ x1 H locs ls hf hP hD hS hl
  unfold f_X12_fors_175 at hf
  refine lv_aload_n hx hb dX12_fors_175 rfl (lv_at hl 0 rfl) ?_
  refine rG_72 hx hb hts i_X12_fors_X12 hown hK hP (hts (.fieldLink RX12 198 "StatementRules2Model" "fy" "[I") k_X12_fors_fieldLink_RX12_198_SRModel_fy_I) dX12_fors_176 ?_
  refine lv_iload_n hx hb dX12_fors_179 rfl (lv_at hl 1 rfl) ?_
  refine lv_aload_n hx hb dX12_fors_180 rfl (lv_at hl 0 rfl) ?_
  refine rG_10 (v := (σ.i 10)) hx hb hts i_X12_fors_X12 hown hK hP (hts (.fieldLink RX12 307 "StatementRules2Model" "tok" "I") k_X12_fors_fieldLink_RX12_307_SRModel_tok_I) dX12_fors_181 rfl ?_
  refine lv_bipush (v := 59) hx hb dX12_fors_184 (by decide) ?_
  refine lv_icmp_ne (tgt := 193) hx hb dX12_fors_186 (by decide) (fun c21 => ?_) (fun c21 => ?_)
  ·
    replace hf := (if_neg c21).symm.trans hf
    refine lv_iconst (v := 0) hx hb dX12_fors_193 (by decide) ?_
    obtain ⟨b22, hf⟩ := hf_ite hf
    refine rS_72 hx hb hK hP hD hS b22 dX12_fors_194 (fun H locs hP hD hS => ?_)
    exact j_X12_fors_195 l dC dI Q N R hx hb hr hml hown hts hlocks hZ hA hK (RS.setA σ 72 ((x1 : Int32).toNatClampNeg) 0) x1 _ _ _ hf hP hD hS (lv_sub hl [0, 1] rfl)
  ·
    replace hf := (if_pos c21).symm.trans hf
    refine lv_iconst (v := 1) hx hb dX12_fors_189 (by decide) ?_
    refine lv_goto (tgt := 194) hx hb dX12_fors_190 (by decide) ?_
    obtain ⟨b29, hf⟩ := hf_ite hf
    refine rS_72 hx hb hK hP hD hS b29 dX12_fors_194 (fun H locs hP hD hS => ?_)
    exact j_X12_fors_195 l dC dI Q N R hx hb hr hml hown hts hlocks hZ hA hK (RS.setA σ 72 ((x1 : Int32).toNatClampNeg) 1) x1 _ _ _ hf hP hD hS (lv_sub hl [0, 1] rfl)
set_option maxHeartbeats 4000000 in
set_option maxRecDepth 100000 in
theorem j_X12_fors_255 {p : Program} {e : Env} {s : State} {m : MethodId} {args : Array Value} {below : List Frame} {meth : Method} {c : Code} {A : Nat → Prop} (l : Launch) (dC : Nat → ClassId) (dI : Nat → Nat → Nat) (Q : RQ) (N : Nat) (R : RS) (hx : p.tables.exec = Jvm.exec) (hb : c.code = cX12_fors) (hr : meth.sig.returnType = none) (hml : c.maxLocals = 3) (hown : s.vm.findClass RX12 = some m.cls) (hts : ∀ w ∈ wzX12_fors, w.before args s = true) (hlocks : meth.locks = false) (hZ : zAMB s) (hA : ∀ q : Nat, s.heap.size ≤ q → A q) (hK : va_K (dC, dI) vwCl (rT Q) s) : ∀ (σ : RS) (x1 : Int32) (H : Heap) (locs : List Loc) (ls : Array Slot), f_X12_fors_255 N σ x1 = some R → va_P (dC, dI) vwCl (rW Q σ) H → va_D A (rW Q σ) → va_S A s.heap H locs → lv_has ls 3 [(0, .ref Q.h0), (1, .int x1)] → W p l e ({ frames := 7, cells := 0, slots := 0, locals := 420 }) s m args below meth c H locs 0 0 (MQ below (va_Qv (fun (_ : Unit) => True) (fun (_ : Unit) (t : State) => zPost dC dI A (rW Q R) (rT Q) t) A) args s 0 0 A) (F0 m 255 ls []) := by
  intro σ x1 H locs ls hf hP hD hS hl
  unfold f_X12_fors_255 at hf
  refine lv_aload_n hx hb dX12_fors_255 rfl (lv_at hl 0 rfl) ?_
  refine rG_65 hx hb hts i_X12_fors_X12 hown hK hP (hts (.fieldLink RX12 177 "StatementRules2Model" "fs" "[I") k_X12_fors_fieldLink_RX12_177_SRModel_fs_I) dX12_fors_256 ?_
  refine lv_iload_n hx hb dX12_fors_259 rfl (lv_at hl 1 rfl) ?_
  refine lv_iconst (v := 5) hx hb dX12_fors_260 (by decide) ?_
  obtain ⟨b34, hf⟩ := hf_ite hf
  refine rS_65 hx hb hK hP hD hS b34 dX12_fors_261 (fun H locs hP hD hS => ?_)
  refine lv_goto (tgt := 477) hx hb dX12_fors_262 (by decide) ?_
  obtain rfl := Option.some.inj hf
  exact W.vret hx hb hr (fun t ht hW => ⟨⟨(), rfl, trivial, by rw [ht]; exact hP, va_K.moved hW.alike hK, hD⟩, hS.F ht⟩) hS.2.2 dX12_fors_477
set_option maxHeartbeats 4000000 in
set_option maxRecDepth 100000 in
theorem j_X12_fors_469 {p : Program} {e : Env} {s : State} {m : MethodId} {args : Array Value} {below : List Frame} {meth : Method} {c : Code} {A : Nat → Prop} (l : Launch) (dC : Nat → ClassId) (dI : Nat → Nat → Nat) (Q : RQ) (N : Nat) (R : RS) (hx : p.tables.exec = Jvm.exec) (hb : c.code = cX12_fors) (hr : meth.sig.returnType = none) (hml : c.maxLocals = 3) (hown : s.vm.findClass RX12 = some m.cls) (hts : ∀ w ∈ wzX12_fors, w.before args s = true) (hlocks : meth.locks = false) (hZ : zAMB s) (hA : ∀ q : Nat, s.heap.size ≤ q → A q) (hK : va_K (dC, dI) vwCl (rT Q) s) : ∀ (σ : RS) (H : Heap) (locs : List Loc) (ls : Array Slot), f_X12_fors_469 N σ = some R → va_P (dC, dI) vwCl (rW Q σ) H → va_D A (rW Q σ) → va_S A s.heap H locs → lv_has ls 3 [] → W p l e ({ frames := 7, cells := 0, slots := 0, locals := 420 }) s m args below meth c H locs 0 0 (MQ below (va_Qv (fun (_ : Unit) => True) (fun (_ : Unit) (t : State) => zPost dC dI A (rW Q R) (rT Q) t) A) args s 0 0 A) (F0 m 469 ls []) := by
  intro σ  H locs ls hf hP hD hS hl
  unfold f_X12_fors_469 at hf
  refine lv_goto (tgt := 477) hx hb dX12_fors_469 (by decide) ?_
  obtain rfl := Option.some.inj hf
  exact W.vret hx hb hr (fun t ht hW => ⟨⟨(), rfl, trivial, by rw [ht]; exact hP, va_K.moved hW.alike hK, hD⟩, hS.F ht⟩) hS.2.2 dX12_fors_477
set_option maxHeartbeats 4000000 in
set_option maxRecDepth 100000 in
theorem c_X12_fors (l : Launch) (dC : Nat → ClassId) (dI : Nat → Nat → Nat) (sz : Nat) (Q : RQ) (N : Nat) (σ : RS) (x1 : Int32) (R : RS) (hf : f_X12_fors N σ x1 = some R) : Met l yX12_fors wzX12_fors ({ frames := 7, cells := 0, slots := 0, locals := 420 }) (va_Pc [.ref Q.h0, .int x1] (zPre dC dI sz (rW Q σ) (rT Q))) (va_Qv (fun (_ : Unit) => True) (fun (_ : Unit) (t : State) => zPost dC dI (va_A (rW Q σ) sz) (rW Q R) (rT Q) t) (va_A (rW Q σ) sz)) 0 0 (va_A (rW Q σ) sz) := by
  refine Met.ofW (cc := cX12_fors) (maxL := 3) (ret := none) (by decide) rfl ?_
  intro p e s m args below meth c s₁ B hml hv
  obtain ⟨rfl, hsz, hZ, hP, hK, hD0⟩ := hv
  have hx := B.exec
  have hb := B.bytes
  have hr := B.returns
  have hts := atoms_spec (ws := wzX12_fors) B.pre
  have hown : s.vm.findClass RX12 = some m.cls := findClass_of_methodNamed B.named
  have hlocks := B.notSynchronized
  subst hsz
  have hD := hD0.self (sz := s.heap.size)
  generalize hAe : va_A (rW Q σ) s.heap.size = A at hD ⊢
  have hA : ∀ q : Nat, s.heap.size ≤ q → A q := fun q h => by rw [← hAe]; exact Or.inr h
  have hS : va_S A s.heap s.heap [] := va_S.rf
  have hl := lv_entry ([.ref Q.h0, .int x1]) (n := 3) (Nat.le_of_ble_eq_true rfl)
  rw [lg_entry_eq]
  generalize (lg_sl ([.ref Q.h0, .int x1]) ++ List.replicate (3 - (lg_sl ([.ref Q.h0, .int x1])).length) Slot.unset).toArray = ls at hl ⊢
  have hl : lv_has ls 3 [(0, .ref Q.h0), (1, .int x1)] := hl
  unfold f_X12_fors at hf
  refine lv_aload_n hx hb dX12_fors_0 rfl (lv_at hl 0 rfl) ?_
  refine rG_65 hx hb hts i_X12_fors_X12 hown hK hP (hts (.fieldLink RX12 177 "StatementRules2Model" "fs" "[I") k_X12_fors_fieldLink_RX12_177_SRModel_fs_I) dX12_fors_1 ?_
  refine lv_iload_n hx hb dX12_fors_4 rfl (lv_at hl 1 rfl) ?_
  obtain ⟨b1, hf⟩ := hf_ite hf
  refine rL_65 (v := (σ.a 65 ((x1 : Int32).toNatClampNeg))) hx hb hK hP b1 dX12_fors_5 rfl ?_
  by_cases c2 : (σ.a 65 ((x1 : Int32).toNatClampNeg)) = 0
  ·
    replace hf := (if_pos c2).symm.trans hf
    refine lv_tableIn (off := 50) (tgt := 56) hx hb dX12_fors_6 (by rw [c2]; decide) (by rw [c2]; decide) (by rw [c2]; decide) (by decide) ?_
    refine lv_aload_n hx hb dX12_fors_56 rfl (lv_at hl 0 rfl) ?_
    refine rG_71 hx hb hts i_X12_fors_X12 hown hK hP (hts (.fieldLink RX12 195 "StatementRules2Model" "fx" "[I") k_X12_fors_fieldLink_RX12_195_SRModel_fx_I) dX12_fors_57 ?_
    refine lv_iload_n hx hb dX12_fors_60 rfl (lv_at hl 1 rfl) ?_
    refine lv_aload_n hx hb dX12_fors_61 rfl (lv_at hl 0 rfl) ?_
    refine rG_38 (v := (σ.i 38)) hx hb hts i_X12_fors_X12 hown hK hP (hts (.fieldLink RX12 361 "StatementRules2Model" "seen" "I") k_X12_fors_fieldLink_RX12_361_SRModel_seen_I) dX12_fors_62 rfl ?_
    refine rS_71 hx hb hK hP hD hS b1 dX12_fors_65 (fun H locs hP hD hS => ?_)
    refine lv_aload_n hx hb dX12_fors_66 rfl (lv_at hl 0 rfl) ?_
    obtain ⟨p3, hcp3, hf⟩ := hf_bind hf
    have hFc := r_free hD hS hA
    refine va_callv (va_runV (As := []) (rest := []) ⟨hx, hb, hml, hown, hts⟩ (c_X12_next l dC dI _ Q N (RS.setA σ 71 ((x1 : Int32).toNatClampNeg) (σ.i 38)) p3 hcp3) (cwV 0 hts hX12_fors_X12_next_v345 rfl rfl rfl (by decide +kernel) ⟨Nat.le_of_ble_eq_true rfl, Nat.le_of_ble_eq_true rfl⟩) ⟨zPre.blind, va_recv hK hP (ci := 11) (q0 := 0) rfl rfl, zPre.go hZ hP hK hD⟩ rfl rfl hl.1 rfl (lv_room (Nat.le_of_ble_eq_true rfl)) dX12_fors_67 ⟨Nat.le_of_ble_eq_true rfl, Nat.le_of_ble_eq_true rfl⟩) hS (fun q _ h => hFc q h) hFc (fun u9 t9 H1 locs ht hvm hw hB hz1 hk1 hS => ?_)
    obtain ⟨hP, hK1, hD1⟩ := hB
    rw [ht] at hP
    have hD := hD1.weaken (fun _ _ _ h => hFc _ h)
    generalize H1 = H at hP hS ⊢
    refine lv_aload_n hx hb dX12_fors_70 rfl (lv_at hl 0 rfl) ?_
    refine lv_bipush (v := 40) hx hb dX12_fors_71 (by decide) ?_
    obtain ⟨p5, hcp5, hf⟩ := hf_bind hf
    have hFc := r_free hD hS hA
    refine va_calli (va_runV (As := [.int 40]) (rest := []) ⟨hx, hb, hml, hown, hts⟩ (c_X12_open l dC dI _ Q N p3 40 p5 hcp5) (cwV 1 hts hX12_fors_X12_open_v475 rfl rfl rfl (by decide +kernel) ⟨Nat.le_of_ble_eq_true rfl, Nat.le_of_ble_eq_true rfl⟩) ⟨zPre.blind, va_recv hK hP (ci := 11) (q0 := 0) rfl rfl, zPre.go hZ hP hK hD⟩ rfl rfl hl.1 rfl (lv_room (Nat.le_of_ble_eq_true rfl)) dX12_fors_73 ⟨Nat.le_of_ble_eq_true rfl, Nat.le_of_ble_eq_true rfl⟩) hS (fun q _ h => hFc q h) hFc (fun r6 u9 t9 H1 locs ht hvm hw hB hz1 hk1 hS => ?_)
    obtain ⟨hP, hK1, hD1⟩ := hB
    rw [ht] at hP
    have hD := hD1.weaken (fun _ _ _ h => hFc _ h)
    generalize H1 = H at hP hS ⊢
    obtain rfl : r6 = p5.1 := hw
    refine lv_pop hx hb dX12_fors_76 rfl ?_
    refine lv_aload_n hx hb dX12_fors_77 rfl (lv_at hl 0 rfl) ?_
    refine lv_iload_n hx hb dX12_fors_78 rfl (lv_at hl 1 rfl) ?_
    obtain ⟨p7, hcp7, hf⟩ := hf_bind hf
    have hFc := r_free hD hS hA
    refine va_callv (va_runV (As := [.int x1]) (rest := []) ⟨hx, hb, hml, hown, hts⟩ (c_X12_forHead l dC dI _ Q N p5.2 x1 p7 hcp7) (cwV 1 hts hX12_fors_X12_forHead_v540 rfl rfl rfl (by decide +kernel) ⟨Nat.le_of_ble_eq_true rfl, Nat.le_of_ble_eq_true rfl⟩) ⟨zPre.blind, va_recv hK hP (ci := 11) (q0 := 0) rfl rfl, zPre.go hZ hP hK hD⟩ rfl rfl hl.1 rfl (lv_room (Nat.le_of_ble_eq_true rfl)) dX12_fors_79 ⟨Nat.le_of_ble_eq_true rfl, Nat.le_of_ble_eq_true rfl⟩) hS (fun q _ h => hFc q h) hFc (fun u9 t9 H1 locs ht hvm hw hB hz1 hk1 hS => ?_)
    obtain ⟨hP, hK1, hD1⟩ := hB
    rw [ht] at hP
    have hD := hD1.weaken (fun _ _ _ h => hFc _ h)
    generalize H1 = H at hP hS ⊢
    refine lv_goto (tgt := 477) hx hb dX12_fors_82 (by decide) ?_
    obtain rfl := Option.some.inj hf
    exact W.vret hx hb hr (fun t ht hW => ⟨⟨(), rfl, trivial, by rw [ht]; exact hP, va_K.moved hW.alike hK, hD⟩, hS.F ht⟩) hS.2.2 dX12_fors_477
  replace hf := (if_neg c2).symm.trans hf
  by_cases c9 : (σ.a 65 ((x1 : Int32).toNatClampNeg)) = 1
  ·
    replace hf := (if_pos c9).symm.trans hf
    refine lv_tableIn (off := 79) (tgt := 85) hx hb dX12_fors_6 (by rw [c9]; decide) (by rw [c9]; decide) (by rw [c9]; decide) (by decide) ?_
    refine lv_aload_n hx hb dX12_fors_85 rfl (lv_at hl 0 rfl) ?_
    refine lv_iconst (v := 5) hx hb dX12_fors_86 (by decide) ?_
    refine lv_aload_n hx hb dX12_fors_87 rfl (lv_at hl 0 rfl) ?_
    refine lv_aload_n hx hb dX12_fors_88 rfl (lv_at hl 0 rfl) ?_
    refine rG_74 hx hb hts i_X12_fors_X12 hown hK hP (hts (.fieldLink RX12 204 "StatementRules2Model" "fn" "[J") k_X12_fors_fieldLink_RX12_204_SRModel_fn_J) dX12_fors_89 ?_
    refine lv_iload_n hx hb dX12_fors_92 rfl (lv_at hl 1 rfl) ?_
    refine rL_74 (v := (σ.b 74 ((x1 : Int32).toNatClampNeg))) hx hb hK hP b1 dX12_fors_93 rfl ?_
    refine lv_iconst (v := 0) hx hb dX12_fors_94 (by decide) ?_
    obtain ⟨p10, hcp10, hf⟩ := hf_bind hf
    have hFc := r_free hD hS hA
    refine va_calli (va_runV (As := [.long (σ.b 74 ((x1 : Int32).toNatClampNeg)), .int 0]) (rest := [.int 5, .ref Q.h0]) ⟨hx, hb, hml, hown, hts⟩ (c_X12_see l dC dI _ Q N σ (σ.b 74 ((x1 : Int32).toNatClampNeg)) 0 p10 hcp10) (cwV 2 hts hX12_fors_X12_see_v506 rfl rfl rfl (by decide +kernel) ⟨Nat.le_of_ble_eq_true rfl, Nat.le_of_ble_eq_true rfl⟩) ⟨zPre.blind, va_recv hK hP (ci := 11) (q0 := 0) rfl rfl, zPre.go hZ hP hK hD⟩ rfl rfl hl.1 rfl (lv_room (Nat.le_of_ble_eq_true rfl)) dX12_fors_95 ⟨Nat.le_of_ble_eq_true rfl, Nat.le_of_ble_eq_true rfl⟩) hS (fun q _ h => hFc q h) hFc (fun r11 u9 t9 H1 locs ht hvm hw hB hz1 hk1 hS => ?_)
    obtain ⟨hP, hK1, hD1⟩ := hB
    rw [ht] at hP
    have hD := hD1.weaken (fun _ _ _ h => hFc _ h)
    generalize H1 = H at hP hS ⊢
    obtain rfl : r11 = p10.1 := hw
    obtain ⟨p12, hcp12, hf⟩ := hf_bind hf
    have hFc := r_free hD hS hA
    refine va_calli (va_runV (As := [.int 5, .int p10.1]) (rest := []) ⟨hx, hb, hml, hown, hts⟩ (c_X12_emit l dC dI _ Q N p10.2 5 p10.1 p12 hcp12) (cwV 2 hts hX12_fors_X12_emit_v464 rfl rfl rfl (by decide +kernel) ⟨Nat.le_of_ble_eq_true rfl, Nat.le_of_ble_eq_true rfl⟩) ⟨zPre.blind, va_recv hK hP (ci := 11) (q0 := 0) rfl rfl, zPre.go hZ hP hK hD⟩ rfl rfl hl.1 rfl (lv_room (Nat.le_of_ble_eq_true rfl)) dX12_fors_98 ⟨Nat.le_of_ble_eq_true rfl, Nat.le_of_ble_eq_true rfl⟩) hS (fun q _ h => hFc q h) hFc (fun r13 u9 t9 H1 locs ht hvm hw hB hz1 hk1 hS => ?_)
    obtain ⟨hP, hK1, hD1⟩ := hB
    rw [ht] at hP
    have hD := hD1.weaken (fun _ _ _ h => hFc _ h)
    generalize H1 = H at hP hS ⊢
    obtain rfl : r13 = p12.1 := hw
    refine lv_pop hx hb dX12_fors_101 rfl ?_
    refine lv_aload_n hx hb dX12_fors_102 rfl (lv_at hl 0 rfl) ?_
    refine rG_65 hx hb hts i_X12_fors_X12 hown hK hP (hts (.fieldLink RX12 177 "StatementRules2Model" "fs" "[I") k_X12_fors_fieldLink_RX12_177_SRModel_fs_I) dX12_fors_103 ?_
    refine lv_iload_n hx hb dX12_fors_106 rfl (lv_at hl 1 rfl) ?_
    refine lv_iconst (v := 3) hx hb dX12_fors_107 (by decide) ?_
    refine rS_65 hx hb hK hP hD hS b1 dX12_fors_108 (fun H locs hP hD hS => ?_)
    refine lv_goto (tgt := 477) hx hb dX12_fors_109 (by decide) ?_
    obtain rfl := Option.some.inj hf
    exact W.vret hx hb hr (fun t ht hW => ⟨⟨(), rfl, trivial, by rw [ht]; exact hP, va_K.moved hW.alike hK, hD⟩, hS.F ht⟩) hS.2.2 dX12_fors_477
  replace hf := (if_neg c9).symm.trans hf
  by_cases c14 : (σ.a 65 ((x1 : Int32).toNatClampNeg)) = 2
  ·
    replace hf := (if_pos c14).symm.trans hf
    refine lv_tableIn (off := 106) (tgt := 112) hx hb dX12_fors_6 (by rw [c14]; decide) (by rw [c14]; decide) (by rw [c14]; decide) (by decide) ?_
    refine lv_aload_n hx hb dX12_fors_112 rfl (lv_at hl 0 rfl) ?_
    refine lv_iconst (v := 5) hx hb dX12_fors_113 (by decide) ?_
    refine lv_aload_n hx hb dX12_fors_114 rfl (lv_at hl 0 rfl) ?_
    refine rG_66 hx hb hts i_X12_fors_X12 hown hK hP (hts (.fieldLink RX12 180 "StatementRules2Model" "fp" "[I") k_X12_fors_fieldLink_RX12_180_SRModel_fp_I) dX12_fors_115 ?_
    refine lv_iload_n hx hb dX12_fors_118 rfl (lv_at hl 1 rfl) ?_
    refine rL_66 (v := (σ.a 66 ((x1 : Int32).toNatClampNeg))) hx hb hK hP b1 dX12_fors_119 rfl ?_
    obtain ⟨p15, hcp15, hf⟩ := hf_bind hf
    have hFc := r_free hD hS hA
    refine va_calli (va_runV (As := [.int 5, .int (σ.a 66 ((x1 : Int32).toNatClampNeg))]) (rest := []) ⟨hx, hb, hml, hown, hts⟩ (c_X12_emit l dC dI _ Q N σ 5 (σ.a 66 ((x1 : Int32).toNatClampNeg)) p15 hcp15) (cwV 2 hts hX12_fors_X12_emit_v464 rfl rfl rfl (by decide +kernel) ⟨Nat.le_of_ble_eq_true rfl, Nat.le_of_ble_eq_true rfl⟩) ⟨zPre.blind, va_recv hK hP (ci := 11) (q0 := 0) rfl rfl, zPre.go hZ hP hK hD⟩ rfl rfl hl.1 rfl (lv_room (Nat.le_of_ble_eq_true rfl)) dX12_fors_120 ⟨Nat.le_of_ble_eq_true rfl, Nat.le_of_ble_eq_true rfl⟩) hS (fun q _ h => hFc q h) hFc (fun r16 u9 t9 H1 locs ht hvm hw hB hz1 hk1 hS => ?_)
    obtain ⟨hP, hK1, hD1⟩ := hB
    rw [ht] at hP
    have hD := hD1.weaken (fun _ _ _ h => hFc _ h)
    generalize H1 = H at hP hS ⊢
    obtain rfl : r16 = p15.1 := hw
    refine lv_pop hx hb dX12_fors_123 rfl ?_
    refine lv_aload_n hx hb dX12_fors_124 rfl (lv_at hl 0 rfl) ?_
    refine rG_65 hx hb hts i_X12_fors_X12 hown hK hP (hts (.fieldLink RX12 177 "StatementRules2Model" "fs" "[I") k_X12_fors_fieldLink_RX12_177_SRModel_fs_I) dX12_fors_125 ?_
    refine lv_iload_n hx hb dX12_fors_128 rfl (lv_at hl 1 rfl) ?_
    refine lv_iconst (v := 3) hx hb dX12_fors_129 (by decide) ?_
    refine rS_65 hx hb hK hP hD hS b1 dX12_fors_130 (fun H locs hP hD hS => ?_)
    refine lv_goto (tgt := 477) hx hb dX12_fors_131 (by decide) ?_
    obtain rfl := Option.some.inj hf
    exact W.vret hx hb hr (fun t ht hW => ⟨⟨(), rfl, trivial, by rw [ht]; exact hP, va_K.moved hW.alike hK, hD⟩, hS.F ht⟩) hS.2.2 dX12_fors_477
  replace hf := (if_neg c14).symm.trans hf
  by_cases c17 : (σ.a 65 ((x1 : Int32).toNatClampNeg)) = 3
  ·
    replace hf := (if_pos c17).symm.trans hf
    refine lv_tableIn (off := 128) (tgt := 134) hx hb dX12_fors_6 (by rw [c17]; decide) (by rw [c17]; decide) (by rw [c17]; decide) (by decide) ?_
    refine lv_aload_n hx hb dX12_fors_134 rfl (lv_at hl 0 rfl) ?_
    refine lv_bipush (v := 59) hx hb dX12_fors_135 (by decide) ?_
    obtain ⟨p18, hcp18, hf⟩ := hf_bind hf
    have hFc := r_free hD hS hA
    refine va_calli (va_runV (As := [.int 59]) (rest := []) ⟨hx, hb, hml, hown, hts⟩ (c_X12_need l dC dI _ Q N σ 59 p18 hcp18) (cwV 1 hts hX12_fors_X12_need_v355 rfl rfl rfl (by decide +kernel) ⟨Nat.le_of_ble_eq_true rfl, Nat.le_of_ble_eq_true rfl⟩) ⟨zPre.blind, va_recv hK hP (ci := 11) (q0 := 0) rfl rfl, zPre.go hZ hP hK hD⟩ rfl rfl hl.1 rfl (lv_room (Nat.le_of_ble_eq_true rfl)) dX12_fors_137 ⟨Nat.le_of_ble_eq_true rfl, Nat.le_of_ble_eq_true rfl⟩) hS (fun q _ h => hFc q h) hFc (fun r19 u9 t9 H1 locs ht hvm hw hB hz1 hk1 hS => ?_)
    obtain ⟨hP, hK1, hD1⟩ := hB
    rw [ht] at hP
    have hD := hD1.weaken (fun _ _ _ h => hFc _ h)
    generalize H1 = H at hP hS ⊢
    obtain rfl : r19 = p18.1 := hw
    refine lv_pop hx hb dX12_fors_140 rfl ?_
    refine lv_aload_n hx hb dX12_fors_141 rfl (lv_at hl 0 rfl) ?_
    refine rG_66 hx hb hts i_X12_fors_X12 hown hK hP (hts (.fieldLink RX12 180 "StatementRules2Model" "fp" "[I") k_X12_fors_fieldLink_RX12_180_SRModel_fp_I) dX12_fors_142 ?_
    refine lv_iload_n hx hb dX12_fors_145 rfl (lv_at hl 1 rfl) ?_
    refine lv_aload_n hx hb dX12_fors_146 rfl (lv_at hl 0 rfl) ?_
    refine rG_20 (v := (p18.2.i 20)) hx hb hts i_X12_fors_X12 hown hK hP (hts (.fieldLink RX12 358 "StatementRules2Model" "codes" "I") k_X12_fors_fieldLink_RX12_358_SRModel_codes_I) dX12_fors_147 rfl ?_
    refine rS_66 hx hb hK hP hD hS b1 dX12_fors_150 (fun H locs hP hD hS => ?_)
    refine lv_aload_n hx hb dX12_fors_151 rfl (lv_at hl 0 rfl) ?_
    refine rG_69 hx hb hts i_X12_fors_X12 hown hK hP (hts (.fieldLink RX12 189 "StatementRules2Model" "fv" "[I") k_X12_fors_fieldLink_RX12_189_SRModel_fv_I) dX12_fors_152 ?_
    refine lv_iload_n hx hb dX12_fors_155 rfl (lv_at hl 1 rfl) ?_
    refine lv_aload_n hx hb dX12_fors_156 rfl (lv_at hl 0 rfl) ?_
    refine rG_10 (v := (p18.2.i 10)) hx hb hts i_X12_fors_X12 hown hK hP (hts (.fieldLink RX12 307 "StatementRules2Model" "tok" "I") k_X12_fors_fieldLink_RX12_307_SRModel_tok_I) dX12_fors_157 rfl ?_
    refine lv_sipush (v := 432) hx hb dX12_fors_160 (by decide) ?_
    refine lv_icmp_ne (tgt := 173) hx hb dX12_fors_163 (by decide) (fun c20 => ?_) (fun c20 => ?_)
    ·
      replace hf := (if_neg c20).symm.trans hf
      refine lv_iconst (v := 0) hx hb dX12_fors_173 (by decide) ?_
      refine rS_69 hx hb hK hP hD hS b1 dX12_fors_174 (fun H locs hP hD hS => ?_)
      exact j_X12_fors_175 l dC dI Q N R hx hb hr hml hown hts hlocks hZ hA hK (RS.setA (RS.setA p18.2 66 ((x1 : Int32).toNatClampNeg) (p18.2.i 20)) 69 ((x1 : Int32).toNatClampNeg) 0) x1 _ _ _ hf hP hD hS (lv_sub hl [0, 1] rfl)
    ·
      replace hf := (if_pos c20).symm.trans hf
      refine lv_aload_n hx hb dX12_fors_166 rfl (lv_at hl 0 rfl) ?_
      refine rG_17 (v := (p18.2.i 17)) hx hb hts i_X12_fors_X12 hown hK hP (hts (.fieldLink RX12 294 "StatementRules2Model" "tokens" "I") k_X12_fors_fieldLink_RX12_294_SRModel_tokens_I) dX12_fors_167 rfl ?_
      refine lv_goto (tgt := 174) hx hb dX12_fors_170 (by decide) ?_
      refine rS_69 hx hb hK hP hD hS b1 dX12_fors_174 (fun H locs hP hD hS => ?_)
      exact j_X12_fors_175 l dC dI Q N R hx hb hr hml hown hts hlocks hZ hA hK (RS.setA (RS.setA p18.2 66 ((x1 : Int32).toNatClampNeg) (p18.2.i 20)) 69 ((x1 : Int32).toNatClampNeg) (p18.2.i 17)) x1 _ _ _ hf hP hD hS (lv_sub hl [0, 1] rfl)
  replace hf := (if_neg c17).symm.trans hf
  by_cases c30 : (σ.a 65 ((x1 : Int32).toNatClampNeg)) = 4
  ·
    replace hf := (if_pos c30).symm.trans hf
    refine lv_tableIn (off := 225) (tgt := 231) hx hb dX12_fors_6 (by rw [c30]; decide) (by rw [c30]; decide) (by rw [c30]; decide) (by decide) ?_
    refine lv_aload_n hx hb dX12_fors_231 rfl (lv_at hl 0 rfl) ?_
    refine rG_72 hx hb hts i_X12_fors_X12 hown hK hP (hts (.fieldLink RX12 198 "StatementRules2Model" "fy" "[I") k_X12_fors_fieldLink_RX12_198_SRModel_fy_I) dX12_fors_232 ?_
    refine lv_iload_n hx hb dX12_fors_235 rfl (lv_at hl 1 rfl) ?_
    refine lv_aload_n hx hb dX12_fors_236 rfl (lv_at hl 0 rfl) ?_
    refine lv_aload_n hx hb dX12_fors_237 rfl (lv_at hl 0 rfl) ?_
    refine rG_69 hx hb hts i_X12_fors_X12 hown hK hP (hts (.fieldLink RX12 189 "StatementRules2Model" "fv" "[I") k_X12_fors_fieldLink_RX12_189_SRModel_fv_I) dX12_fors_238 ?_
    refine lv_iload_n hx hb dX12_fors_241 rfl (lv_at hl 1 rfl) ?_
    refine rL_69 (v := (σ.a 69 ((x1 : Int32).toNatClampNeg))) hx hb hK hP b1 dX12_fors_242 rfl ?_
    obtain ⟨p31, hcp31, hf⟩ := hf_bind hf
    have hFc := r_free hD hS hA
    refine va_calli (va_runV (As := [.int (σ.a 69 ((x1 : Int32).toNatClampNeg))]) (rest := [.int x1, .ref (Q.q 72)]) ⟨hx, hb, hml, hown, hts⟩ (c_X12_isJustTrue l dC dI _ Q N σ (σ.a 69 ((x1 : Int32).toNatClampNeg)) p31 hcp31) (cwV 1 hts hX12_fors_X12_isJustTrue_v533 rfl rfl rfl (by decide +kernel) ⟨Nat.le_of_ble_eq_true rfl, Nat.le_of_ble_eq_true rfl⟩) ⟨zPre.blind, va_recv hK hP (ci := 11) (q0 := 0) rfl rfl, zPre.go hZ hP hK hD⟩ rfl rfl hl.1 rfl (lv_room (Nat.le_of_ble_eq_true rfl)) dX12_fors_243 ⟨Nat.le_of_ble_eq_true rfl, Nat.le_of_ble_eq_true rfl⟩) hS (fun q _ h => hFc q h) hFc (fun r32 u9 t9 H1 locs ht hvm hw hB hz1 hk1 hS => ?_)
    obtain ⟨hP, hK1, hD1⟩ := hB
    rw [ht] at hP
    have hD := hD1.weaken (fun _ _ _ h => hFc _ h)
    generalize H1 = H at hP hS ⊢
    obtain rfl : r32 = p31.1 := hw
    refine lv_if_eq (tgt := 253) hx hb dX12_fors_246 (by decide) (fun c33 => ?_) (fun c33 => ?_)
    ·
      replace hf := (if_pos c33).symm.trans hf
      refine lv_iconst (v := 0) hx hb dX12_fors_253 (by decide) ?_
      refine rS_72 hx hb hK hP hD hS b1 dX12_fors_254 (fun H locs hP hD hS => ?_)
      exact j_X12_fors_255 l dC dI Q N R hx hb hr hml hown hts hlocks hZ hA hK (RS.setA p31.2 72 ((x1 : Int32).toNatClampNeg) 0) x1 _ _ _ hf hP hD hS (lv_sub hl [0, 1] rfl)
    ·
      replace hf := (if_neg c33).symm.trans hf
      refine lv_iconst (v := 1) hx hb dX12_fors_249 (by decide) ?_
      refine lv_goto (tgt := 254) hx hb dX12_fors_250 (by decide) ?_
      refine rS_72 hx hb hK hP hD hS b1 dX12_fors_254 (fun H locs hP hD hS => ?_)
      exact j_X12_fors_255 l dC dI Q N R hx hb hr hml hown hts hlocks hZ hA hK (RS.setA p31.2 72 ((x1 : Int32).toNatClampNeg) 1) x1 _ _ _ hf hP hD hS (lv_sub hl [0, 1] rfl)
  replace hf := (if_neg c30).symm.trans hf
  by_cases c35 : (σ.a 65 ((x1 : Int32).toNatClampNeg)) = 5
  ·
    replace hf := (if_pos c35).symm.trans hf
    refine lv_tableIn (off := 259) (tgt := 265) hx hb dX12_fors_6 (by rw [c35]; decide) (by rw [c35]; decide) (by rw [c35]; decide) (by decide) ?_
    refine lv_aload_n hx hb dX12_fors_265 rfl (lv_at hl 0 rfl) ?_
    refine lv_iload_n hx hb dX12_fors_266 rfl (lv_at hl 1 rfl) ?_
    obtain ⟨p36, hcp36, hf⟩ := hf_bind hf
    have hFc := r_free hD hS hA
    refine va_callv (va_runV (As := [.int x1]) (rest := []) ⟨hx, hb, hml, hown, hts⟩ (c_X12_forBehind l dC dI _ Q N σ x1 p36 hcp36) (cwV 1 hts hX12_fors_X12_forBehind_v543 rfl rfl rfl (by decide +kernel) ⟨Nat.le_of_ble_eq_true rfl, Nat.le_of_ble_eq_true rfl⟩) ⟨zPre.blind, va_recv hK hP (ci := 11) (q0 := 0) rfl rfl, zPre.go hZ hP hK hD⟩ rfl rfl hl.1 rfl (lv_room (Nat.le_of_ble_eq_true rfl)) dX12_fors_267 ⟨Nat.le_of_ble_eq_true rfl, Nat.le_of_ble_eq_true rfl⟩) hS (fun q _ h => hFc q h) hFc (fun u9 t9 H1 locs ht hvm hw hB hz1 hk1 hS => ?_)
    obtain ⟨hP, hK1, hD1⟩ := hB
    rw [ht] at hP
    have hD := hD1.weaken (fun _ _ _ h => hFc _ h)
    generalize H1 = H at hP hS ⊢
    refine lv_goto (tgt := 477) hx hb dX12_fors_270 (by decide) ?_
    obtain rfl := Option.some.inj hf
    exact W.vret hx hb hr (fun t ht hW => ⟨⟨(), rfl, trivial, by rw [ht]; exact hP, va_K.moved hW.alike hK, hD⟩, hS.F ht⟩) hS.2.2 dX12_fors_477
  replace hf := (if_neg c35).symm.trans hf
  by_cases c38 : (σ.a 65 ((x1 : Int32).toNatClampNeg)) = 6
  ·
    replace hf := (if_pos c38).symm.trans hf
    refine lv_tableIn (off := 267) (tgt := 273) hx hb dX12_fors_6 (by rw [c38]; decide) (by rw [c38]; decide) (by rw [c38]; decide) (by decide) ?_
    refine lv_aload_n hx hb dX12_fors_273 rfl (lv_at hl 0 rfl) ?_
    refine lv_iconst (v := 5) hx hb dX12_fors_274 (by decide) ?_
    refine lv_aload_n hx hb dX12_fors_275 rfl (lv_at hl 0 rfl) ?_
    refine rG_73 hx hb hts i_X12_fors_X12 hown hK hP (hts (.fieldLink RX12 201 "StatementRules2Model" "fz" "[I") k_X12_fors_fieldLink_RX12_201_SRModel_fz_I) dX12_fors_276 ?_
    refine lv_iload_n hx hb dX12_fors_279 rfl (lv_at hl 1 rfl) ?_
    refine rL_73 (v := (σ.a 73 ((x1 : Int32).toNatClampNeg))) hx hb hK hP b1 dX12_fors_280 rfl ?_
    obtain ⟨p39, hcp39, hf⟩ := hf_bind hf
    have hFc := r_free hD hS hA
    refine va_calli (va_runV (As := [.int 5, .int (σ.a 73 ((x1 : Int32).toNatClampNeg))]) (rest := []) ⟨hx, hb, hml, hown, hts⟩ (c_X12_emit l dC dI _ Q N σ 5 (σ.a 73 ((x1 : Int32).toNatClampNeg)) p39 hcp39) (cwV 2 hts hX12_fors_X12_emit_v464 rfl rfl rfl (by decide +kernel) ⟨Nat.le_of_ble_eq_true rfl, Nat.le_of_ble_eq_true rfl⟩) ⟨zPre.blind, va_recv hK hP (ci := 11) (q0 := 0) rfl rfl, zPre.go hZ hP hK hD⟩ rfl rfl hl.1 rfl (lv_room (Nat.le_of_ble_eq_true rfl)) dX12_fors_281 ⟨Nat.le_of_ble_eq_true rfl, Nat.le_of_ble_eq_true rfl⟩) hS (fun q _ h => hFc q h) hFc (fun r40 u9 t9 H1 locs ht hvm hw hB hz1 hk1 hS => ?_)
    obtain ⟨hP, hK1, hD1⟩ := hB
    rw [ht] at hP
    have hD := hD1.weaken (fun _ _ _ h => hFc _ h)
    generalize H1 = H at hP hS ⊢
    obtain rfl : r40 = p39.1 := hw
    refine lv_pop hx hb dX12_fors_284 rfl ?_
    refine lv_aload_n hx hb dX12_fors_285 rfl (lv_at hl 0 rfl) ?_
    refine rG_65 hx hb hts i_X12_fors_X12 hown hK hP (hts (.fieldLink RX12 177 "StatementRules2Model" "fs" "[I") k_X12_fors_fieldLink_RX12_177_SRModel_fs_I) dX12_fors_286 ?_
    refine lv_iload_n hx hb dX12_fors_289 rfl (lv_at hl 1 rfl) ?_
    refine lv_bipush (v := 7) hx hb dX12_fors_290 (by decide) ?_
    refine rS_65 hx hb hK hP hD hS b1 dX12_fors_292 (fun H locs hP hD hS => ?_)
    refine lv_goto (tgt := 477) hx hb dX12_fors_293 (by decide) ?_
    obtain rfl := Option.some.inj hf
    exact W.vret hx hb hr (fun t ht hW => ⟨⟨(), rfl, trivial, by rw [ht]; exact hP, va_K.moved hW.alike hK, hD⟩, hS.F ht⟩) hS.2.2 dX12_fors_477
  replace hf := (if_neg c38).symm.trans hf
  by_cases c41 : (σ.a 65 ((x1 : Int32).toNatClampNeg)) = 7
  ·
    replace hf := (if_pos c41).symm.trans hf
    refine lv_tableIn (off := 290) (tgt := 296) hx hb dX12_fors_6 (by rw [c41]; decide) (by rw [c41]; decide) (by rw [c41]; decide) (by decide) ?_
    refine lv_aload_n hx hb dX12_fors_296 rfl (lv_at hl 0 rfl) ?_
    refine lv_bipush (v := 15) hx hb dX12_fors_297 (by decide) ?_
    refine lv_aload_n hx hb dX12_fors_299 rfl (lv_at hl 0 rfl) ?_
    refine rG_66 hx hb hts i_X12_fors_X12 hown hK hP (hts (.fieldLink RX12 180 "StatementRules2Model" "fp" "[I") k_X12_fors_fieldLink_RX12_180_SRModel_fp_I) dX12_fors_300 ?_
    refine lv_iload_n hx hb dX12_fors_303 rfl (lv_at hl 1 rfl) ?_
    refine rL_66 (v := (σ.a 66 ((x1 : Int32).toNatClampNeg))) hx hb hK hP b1 dX12_fors_304 rfl ?_
    obtain ⟨p42, hcp42, hf⟩ := hf_bind hf
    have hFc := r_free hD hS hA
    refine va_calli (va_runV (As := [.int 15, .int (σ.a 66 ((x1 : Int32).toNatClampNeg))]) (rest := []) ⟨hx, hb, hml, hown, hts⟩ (c_X12_emit l dC dI _ Q N σ 15 (σ.a 66 ((x1 : Int32).toNatClampNeg)) p42 hcp42) (cwV 2 hts hX12_fors_X12_emit_v464 rfl rfl rfl (by decide +kernel) ⟨Nat.le_of_ble_eq_true rfl, Nat.le_of_ble_eq_true rfl⟩) ⟨zPre.blind, va_recv hK hP (ci := 11) (q0 := 0) rfl rfl, zPre.go hZ hP hK hD⟩ rfl rfl hl.1 rfl (lv_room (Nat.le_of_ble_eq_true rfl)) dX12_fors_305 ⟨Nat.le_of_ble_eq_true rfl, Nat.le_of_ble_eq_true rfl⟩) hS (fun q _ h => hFc q h) hFc (fun r43 u9 t9 H1 locs ht hvm hw hB hz1 hk1 hS => ?_)
    obtain ⟨hP, hK1, hD1⟩ := hB
    rw [ht] at hP
    have hD := hD1.weaken (fun _ _ _ h => hFc _ h)
    generalize H1 = H at hP hS ⊢
    obtain rfl : r43 = p42.1 := hw
    refine lv_pop hx hb dX12_fors_308 rfl ?_
    refine lv_aload_n hx hb dX12_fors_309 rfl (lv_at hl 0 rfl) ?_
    refine lv_bipush (v := 41) hx hb dX12_fors_310 (by decide) ?_
    obtain ⟨p44, hcp44, hf⟩ := hf_bind hf
    have hFc := r_free hD hS hA
    refine va_calli (va_runV (As := [.int 41]) (rest := []) ⟨hx, hb, hml, hown, hts⟩ (c_X12_shut l dC dI _ Q N p42.2 41 p44 hcp44) (cwV 1 hts hX12_fors_X12_shut_v468 rfl rfl rfl (by decide +kernel) ⟨Nat.le_of_ble_eq_true rfl, Nat.le_of_ble_eq_true rfl⟩) ⟨zPre.blind, va_recv hK hP (ci := 11) (q0 := 0) rfl rfl, zPre.go hZ hP hK hD⟩ rfl rfl hl.1 rfl (lv_room (Nat.le_of_ble_eq_true rfl)) dX12_fors_312 ⟨Nat.le_of_ble_eq_true rfl, Nat.le_of_ble_eq_true rfl⟩) hS (fun q _ h => hFc q h) hFc (fun r45 u9 t9 H1 locs ht hvm hw hB hz1 hk1 hS => ?_)
    obtain ⟨hP, hK1, hD1⟩ := hB
    rw [ht] at hP
    have hD := hD1.weaken (fun _ _ _ h => hFc _ h)
    generalize H1 = H at hP hS ⊢
    obtain rfl : r45 = p44.1 := hw
    refine lv_pop hx hb dX12_fors_315 rfl ?_
    refine lv_aload_n hx hb dX12_fors_316 rfl (lv_at hl 0 rfl) ?_
    refine rG_22 hx hb hts i_X12_fors_X12 hown hK hP (hts (.fieldLink RX12 87 "StatementRules2Model" "ix" "[I") k_X12_fors_fieldLink_RX12_87_SRModel_ix_I) dX12_fors_317 ?_
    refine lv_aload_n hx hb dX12_fors_320 rfl (lv_at hl 0 rfl) ?_
    refine rG_68 hx hb hts i_X12_fors_X12 hown hK hP (hts (.fieldLink RX12 186 "StatementRules2Model" "fr" "[I") k_X12_fors_fieldLink_RX12_186_SRModel_fr_I) dX12_fors_321 ?_
    refine lv_iload_n hx hb dX12_fors_324 rfl (lv_at hl 1 rfl) ?_
    refine rL_68 (v := (p44.2.a 68 ((x1 : Int32).toNatClampNeg))) hx hb hK hP b1 dX12_fors_325 rfl ?_
    refine lv_aload_n hx hb dX12_fors_326 rfl (lv_at hl 0 rfl) ?_
    refine rG_20 (v := (p44.2.i 20)) hx hb hts i_X12_fors_X12 hown hK hP (hts (.fieldLink RX12 358 "StatementRules2Model" "codes" "I") k_X12_fors_fieldLink_RX12_358_SRModel_codes_I) dX12_fors_327 rfl ?_
    obtain ⟨b46, hf⟩ := hf_ite hf
    refine rS_22 hx hb hK hP hD hS b46 dX12_fors_330 (fun H locs hP hD hS => ?_)
    refine lv_aload_n hx hb dX12_fors_331 rfl (lv_at hl 0 rfl) ?_
    refine lv_iconst (v := 1) hx hb dX12_fors_332 (by decide) ?_
    refine lv_iconst (v := 0) hx hb dX12_fors_333 (by decide) ?_
    obtain ⟨p47, hcp47, hf⟩ := hf_bind hf
    have hFc := r_free hD hS hA
    refine va_calli (va_runV (As := [.int 1, .int 0]) (rest := []) ⟨hx, hb, hml, hown, hts⟩ (c_X12_emit l dC dI _ Q N (RS.setA p44.2 22 (((p44.2.a 68 ((x1 : Int32).toNatClampNeg)) : Int32).toNatClampNeg) (p44.2.i 20)) 1 0 p47 hcp47) (cwV 2 hts hX12_fors_X12_emit_v464 rfl rfl rfl (by decide +kernel) ⟨Nat.le_of_ble_eq_true rfl, Nat.le_of_ble_eq_true rfl⟩) ⟨zPre.blind, va_recv hK hP (ci := 11) (q0 := 0) rfl rfl, zPre.go hZ hP hK hD⟩ rfl rfl hl.1 rfl (lv_room (Nat.le_of_ble_eq_true rfl)) dX12_fors_334 ⟨Nat.le_of_ble_eq_true rfl, Nat.le_of_ble_eq_true rfl⟩) hS (fun q _ h => hFc q h) hFc (fun r48 u9 t9 H1 locs ht hvm hw hB hz1 hk1 hS => ?_)
    obtain ⟨hP, hK1, hD1⟩ := hB
    rw [ht] at hP
    have hD := hD1.weaken (fun _ _ _ h => hFc _ h)
    generalize H1 = H at hP hS ⊢
    obtain rfl : r48 = p47.1 := hw
    refine lv_pop hx hb dX12_fors_337 rfl ?_
    refine lv_aload_n hx hb dX12_fors_338 rfl (lv_at hl 0 rfl) ?_
    refine rG_73 hx hb hts i_X12_fors_X12 hown hK hP (hts (.fieldLink RX12 201 "StatementRules2Model" "fz" "[I") k_X12_fors_fieldLink_RX12_201_SRModel_fz_I) dX12_fors_339 ?_
    refine lv_iload_n hx hb dX12_fors_342 rfl (lv_at hl 1 rfl) ?_
    refine lv_aload_n hx hb dX12_fors_343 rfl (lv_at hl 0 rfl) ?_
    obtain ⟨p49, hcp49, hf⟩ := hf_bind hf
    have hFc := r_free hD hS hA
    refine va_calli (va_runV (As := []) (rest := [.int x1, .ref (Q.q 73)]) ⟨hx, hb, hml, hown, hts⟩ (c_X12_loopGoal l dC dI _ Q N p47.2 p49 hcp49) (cwV 0 hts hX12_fors_X12_loopGoal_v536 rfl rfl rfl (by decide +kernel) ⟨Nat.le_of_ble_eq_true rfl, Nat.le_of_ble_eq_true rfl⟩) ⟨zPre.blind, va_recv hK hP (ci := 11) (q0 := 0) rfl rfl, zPre.go hZ hP hK hD⟩ rfl rfl hl.1 rfl (lv_room (Nat.le_of_ble_eq_true rfl)) dX12_fors_344 ⟨Nat.le_of_ble_eq_true rfl, Nat.le_of_ble_eq_true rfl⟩) hS (fun q _ h => hFc q h) hFc (fun r50 u9 t9 H1 locs ht hvm hw hB hz1 hk1 hS => ?_)
    obtain ⟨hP, hK1, hD1⟩ := hB
    rw [ht] at hP
    have hD := hD1.weaken (fun _ _ _ h => hFc _ h)
    generalize H1 = H at hP hS ⊢
    obtain rfl : r50 = p49.1 := hw
    refine rS_73 hx hb hK hP hD hS b1 dX12_fors_347 (fun H locs hP hD hS => ?_)
    refine lv_aload_n hx hb dX12_fors_348 rfl (lv_at hl 0 rfl) ?_
    refine lv_bipush (v := 8) hx hb dX12_fors_349 (by decide) ?_
    obtain ⟨p51, hcp51, hf⟩ := hf_bind hf
    have hFc := r_free hD hS hA
    refine va_callv (va_runV (As := [.int 8]) (rest := []) ⟨hx, hb, hml, hown, hts⟩ (c_X12_body l dC dI _ Q N (RS.setA p49.2 73 ((x1 : Int32).toNatClampNeg) p49.1) 8 p51 hcp51) (cwV 1 hts hX12_fors_X12_body_v521 rfl rfl rfl (by decide +kernel) ⟨Nat.le_of_ble_eq_true rfl, Nat.le_of_ble_eq_true rfl⟩) ⟨zPre.blind, va_recv hK hP (ci := 11) (q0 := 0) rfl rfl, zPre.go hZ hP hK hD⟩ rfl rfl hl.1 rfl (lv_room (Nat.le_of_ble_eq_true rfl)) dX12_fors_351 ⟨Nat.le_of_ble_eq_true rfl, Nat.le_of_ble_eq_true rfl⟩) hS (fun q _ h => hFc q h) hFc (fun u9 t9 H1 locs ht hvm hw hB hz1 hk1 hS => ?_)
    obtain ⟨hP, hK1, hD1⟩ := hB
    rw [ht] at hP
    have hD := hD1.weaken (fun _ _ _ h => hFc _ h)
    generalize H1 = H at hP hS ⊢
    refine lv_goto (tgt := 477) hx hb dX12_fors_354 (by decide) ?_
    obtain rfl := Option.some.inj hf
    exact W.vret hx hb hr (fun t ht hW => ⟨⟨(), rfl, trivial, by rw [ht]; exact hP, va_K.moved hW.alike hK, hD⟩, hS.F ht⟩) hS.2.2 dX12_fors_477
  replace hf := (if_neg c41).symm.trans hf
  by_cases c53 : (σ.a 65 ((x1 : Int32).toNatClampNeg)) = 8
  ·
    replace hf := (if_pos c53).symm.trans hf
    refine lv_tableIn (off := 351) (tgt := 357) hx hb dX12_fors_6 (by rw [c53]; decide) (by rw [c53]; decide) (by rw [c53]; decide) (by decide) ?_
    refine lv_aload_n hx hb dX12_fors_357 rfl (lv_at hl 0 rfl) ?_
    refine rG_73 hx hb hts i_X12_fors_X12 hown hK hP (hts (.fieldLink RX12 201 "StatementRules2Model" "fz" "[I") k_X12_fors_fieldLink_RX12_201_SRModel_fz_I) dX12_fors_358 ?_
    refine lv_iload_n hx hb dX12_fors_361 rfl (lv_at hl 1 rfl) ?_
    refine rL_73 (v := (σ.a 73 ((x1 : Int32).toNatClampNeg))) hx hb hK hP b1 dX12_fors_362 rfl ?_
    refine lv_istore_n (lv' := [(2, .int (σ.a 73 ((x1 : Int32).toNatClampNeg))), (0, .ref Q.h0), (1, .int x1)]) hx hb dX12_fors_363 rfl hl (by decide) rfl (fun ls hl => ?_)
    refine lv_aload_n hx hb dX12_fors_364 rfl (lv_at hl 1 rfl) ?_
    refine lv_aload_n hx hb dX12_fors_365 rfl (lv_at hl 1 rfl) ?_
    refine rG_49 hx hb hts i_X12_fors_X12 hown hK hP (hts (.fieldLink RX12 150 "StatementRules2Model" "continues" "[I") k_X12_fors_fieldLink_RX12_150_SRModel_continues_I) dX12_fors_366 ?_
    refine lv_iload_n hx hb dX12_fors_369 rfl (lv_at hl 0 rfl) ?_
    obtain ⟨b54, hf⟩ := hf_ite hf
    refine rL_49 (v := (σ.a 49 (((σ.a 73 ((x1 : Int32).toNatClampNeg)) : Int32).toNatClampNeg))) hx hb hK hP b54 dX12_fors_370 rfl ?_
    refine lv_aload_n hx hb dX12_fors_371 rfl (lv_at hl 1 rfl) ?_
    refine rG_70 hx hb hts i_X12_fors_X12 hown hK hP (hts (.fieldLink RX12 192 "StatementRules2Model" "fw" "[I") k_X12_fors_fieldLink_RX12_192_SRModel_fw_I) dX12_fors_372 ?_
    refine lv_iload_n hx hb dX12_fors_375 rfl (lv_at hl 2 rfl) ?_
    refine rL_70 (v := (σ.a 70 ((x1 : Int32).toNatClampNeg))) hx hb hK hP b1 dX12_fors_376 rfl ?_
    obtain ⟨p55, hcp55, hf⟩ := hf_bind hf
    have hFc := r_free hD hS hA
    refine va_callv (va_runV (As := [.int (σ.a 49 (((σ.a 73 ((x1 : Int32).toNatClampNeg)) : Int32).toNatClampNeg)), .int (σ.a 70 ((x1 : Int32).toNatClampNeg))]) (rest := []) ⟨hx, hb, hml, hown, hts⟩ (c_X12_patch l dC dI _ Q N σ (σ.a 49 (((σ.a 73 ((x1 : Int32).toNatClampNeg)) : Int32).toNatClampNeg)) (σ.a 70 ((x1 : Int32).toNatClampNeg)) p55 hcp55) (cwV 2 hts hX12_fors_X12_patch_v510 rfl rfl rfl (by decide +kernel) ⟨Nat.le_of_ble_eq_true rfl, Nat.le_of_ble_eq_true rfl⟩) ⟨zPre.blind, va_recv hK hP (ci := 11) (q0 := 0) rfl rfl, zPre.go hZ hP hK hD⟩ rfl rfl hl.1 rfl (lv_room (Nat.le_of_ble_eq_true rfl)) dX12_fors_377 ⟨Nat.le_of_ble_eq_true rfl, Nat.le_of_ble_eq_true rfl⟩) hS (fun q _ h => hFc q h) hFc (fun u9 t9 H1 locs ht hvm hw hB hz1 hk1 hS => ?_)
    obtain ⟨hP, hK1, hD1⟩ := hB
    rw [ht] at hP
    have hD := hD1.weaken (fun _ _ _ h => hFc _ h)
    generalize H1 = H at hP hS ⊢
    refine lv_aload_n hx hb dX12_fors_380 rfl (lv_at hl 1 rfl) ?_
    refine lv_bipush (v := 15) hx hb dX12_fors_381 (by decide) ?_
    refine lv_aload_n hx hb dX12_fors_383 rfl (lv_at hl 1 rfl) ?_
    refine rG_70 hx hb hts i_X12_fors_X12 hown hK hP (hts (.fieldLink RX12 192 "StatementRules2Model" "fw" "[I") k_X12_fors_fieldLink_RX12_192_SRModel_fw_I) dX12_fors_384 ?_
    refine lv_iload_n hx hb dX12_fors_387 rfl (lv_at hl 2 rfl) ?_
    refine rL_70 (v := (p55.a 70 ((x1 : Int32).toNatClampNeg))) hx hb hK hP b1 dX12_fors_388 rfl ?_
    obtain ⟨p57, hcp57, hf⟩ := hf_bind hf
    have hFc := r_free hD hS hA
    refine va_calli (va_runV (As := [.int 15, .int (p55.a 70 ((x1 : Int32).toNatClampNeg))]) (rest := []) ⟨hx, hb, hml, hown, hts⟩ (c_X12_emit l dC dI _ Q N p55 15 (p55.a 70 ((x1 : Int32).toNatClampNeg)) p57 hcp57) (cwV 2 hts hX12_fors_X12_emit_v464 rfl rfl rfl (by decide +kernel) ⟨Nat.le_of_ble_eq_true rfl, Nat.le_of_ble_eq_true rfl⟩) ⟨zPre.blind, va_recv hK hP (ci := 11) (q0 := 0) rfl rfl, zPre.go hZ hP hK hD⟩ rfl rfl hl.1 rfl (lv_room (Nat.le_of_ble_eq_true rfl)) dX12_fors_389 ⟨Nat.le_of_ble_eq_true rfl, Nat.le_of_ble_eq_true rfl⟩) hS (fun q _ h => hFc q h) hFc (fun r58 u9 t9 H1 locs ht hvm hw hB hz1 hk1 hS => ?_)
    obtain ⟨hP, hK1, hD1⟩ := hB
    rw [ht] at hP
    have hD := hD1.weaken (fun _ _ _ h => hFc _ h)
    generalize H1 = H at hP hS ⊢
    obtain rfl : r58 = p57.1 := hw
    refine lv_pop hx hb dX12_fors_392 rfl ?_
    refine lv_aload_n hx hb dX12_fors_393 rfl (lv_at hl 1 rfl) ?_
    refine rG_22 hx hb hts i_X12_fors_X12 hown hK hP (hts (.fieldLink RX12 87 "StatementRules2Model" "ix" "[I") k_X12_fors_fieldLink_RX12_87_SRModel_ix_I) dX12_fors_394 ?_
    refine lv_aload_n hx hb dX12_fors_397 rfl (lv_at hl 1 rfl) ?_
    refine rG_67 hx hb hts i_X12_fors_X12 hown hK hP (hts (.fieldLink RX12 183 "StatementRules2Model" "fq" "[I") k_X12_fors_fieldLink_RX12_183_SRModel_fq_I) dX12_fors_398 ?_
    refine lv_iload_n hx hb dX12_fors_401 rfl (lv_at hl 2 rfl) ?_
    refine rL_67 (v := (p57.2.a 67 ((x1 : Int32).toNatClampNeg))) hx hb hK hP b1 dX12_fors_402 rfl ?_
    refine lv_aload_n hx hb dX12_fors_403 rfl (lv_at hl 1 rfl) ?_
    refine rG_20 (v := (p57.2.i 20)) hx hb hts i_X12_fors_X12 hown hK hP (hts (.fieldLink RX12 358 "StatementRules2Model" "codes" "I") k_X12_fors_fieldLink_RX12_358_SRModel_codes_I) dX12_fors_404 rfl ?_
    obtain ⟨b59, hf⟩ := hf_ite hf
    refine rS_22 hx hb hK hP hD hS b59 dX12_fors_407 (fun H locs hP hD hS => ?_)
    refine lv_aload_n hx hb dX12_fors_408 rfl (lv_at hl 1 rfl) ?_
    refine lv_aload_n hx hb dX12_fors_409 rfl (lv_at hl 1 rfl) ?_
    refine rG_48 hx hb hts i_X12_fors_X12 hown hK hP (hts (.fieldLink RX12 147 "StatementRules2Model" "breaks" "[I") k_X12_fors_fieldLink_RX12_147_SRModel_breaks_I) dX12_fors_410 ?_
    refine lv_iload_n hx hb dX12_fors_413 rfl (lv_at hl 0 rfl) ?_
    refine rL_48 (v := (p57.2.a 48 (((σ.a 73 ((x1 : Int32).toNatClampNeg)) : Int32).toNatClampNeg))) hx hb hK hP b54 dX12_fors_414 rfl ?_
    refine lv_aload_n hx hb dX12_fors_415 rfl (lv_at hl 1 rfl) ?_
    refine rG_20 (v := (p57.2.i 20)) hx hb hts i_X12_fors_X12 hown hK hP (hts (.fieldLink RX12 358 "StatementRules2Model" "codes" "I") k_X12_fors_fieldLink_RX12_358_SRModel_codes_I) dX12_fors_416 rfl ?_
    obtain ⟨p60, hcp60, hf⟩ := hf_bind hf
    have hFc := r_free hD hS hA
    refine va_callv (va_runV (As := [.int (p57.2.a 48 (((σ.a 73 ((x1 : Int32).toNatClampNeg)) : Int32).toNatClampNeg)), .int (p57.2.i 20)]) (rest := []) ⟨hx, hb, hml, hown, hts⟩ (c_X12_patch l dC dI _ Q N (RS.setA p57.2 22 (((p57.2.a 67 ((x1 : Int32).toNatClampNeg)) : Int32).toNatClampNeg) (p57.2.i 20)) (p57.2.a 48 (((σ.a 73 ((x1 : Int32).toNatClampNeg)) : Int32).toNatClampNeg)) (p57.2.i 20) p60 hcp60) (cwV 2 hts hX12_fors_X12_patch_v510 rfl rfl rfl (by decide +kernel) ⟨Nat.le_of_ble_eq_true rfl, Nat.le_of_ble_eq_true rfl⟩) ⟨zPre.blind, va_recv hK hP (ci := 11) (q0 := 0) rfl rfl, zPre.go hZ hP hK hD⟩ rfl rfl hl.1 rfl (lv_room (Nat.le_of_ble_eq_true rfl)) dX12_fors_419 ⟨Nat.le_of_ble_eq_true rfl, Nat.le_of_ble_eq_true rfl⟩) hS (fun q _ h => hFc q h) hFc (fun u9 t9 H1 locs ht hvm hw hB hz1 hk1 hS => ?_)
    obtain ⟨hP, hK1, hD1⟩ := hB
    rw [ht] at hP
    have hD := hD1.weaken (fun _ _ _ h => hFc _ h)
    generalize H1 = H at hP hS ⊢
    refine lv_aload_n hx hb dX12_fors_422 rfl (lv_at hl 1 rfl) ?_
    refine lv_dup hx hb dX12_fors_423 rfl ?_
    refine rG_43 (v := (p60.i 43)) hx hb hts i_X12_fors_X12 hown hK hP (hts (.fieldLink RX12 367 "StatementRules2Model" "goals" "I") k_X12_fors_fieldLink_RX12_367_SRModel_goals_I) dX12_fors_424 rfl ?_
    refine lv_iconst (v := 1) hx hb dX12_fors_427 (by decide) ?_
    refine lv_isub hx hb dX12_fors_428 ?_
    refine rP_43 hx hb hts i_X12_fors_X12 hown hK hP hD hS (hts (.fieldLink RX12 367 "StatementRules2Model" "goals" "I") k_X12_fors_fieldLink_RX12_367_SRModel_goals_I) dX12_fors_429 (fun H locs hP hD hS => ?_)
    refine lv_aload_n hx hb dX12_fors_432 rfl (lv_at hl 1 rfl) ?_
    refine lv_aload_n hx hb dX12_fors_433 rfl (lv_at hl 1 rfl) ?_
    refine rG_71 hx hb hts i_X12_fors_X12 hown hK hP (hts (.fieldLink RX12 195 "StatementRules2Model" "fx" "[I") k_X12_fors_fieldLink_RX12_195_SRModel_fx_I) dX12_fors_434 ?_
    refine lv_iload_n hx hb dX12_fors_437 rfl (lv_at hl 2 rfl) ?_
    refine rL_71 (v := (p60.a 71 ((x1 : Int32).toNatClampNeg))) hx hb hK hP b1 dX12_fors_438 rfl ?_
    refine rP_38 hx hb hts i_X12_fors_X12 hown hK hP hD hS (hts (.fieldLink RX12 361 "StatementRules2Model" "seen" "I") k_X12_fors_fieldLink_RX12_361_SRModel_seen_I) dX12_fors_439 (fun H locs hP hD hS => ?_)
    refine lv_aload_n hx hb dX12_fors_442 rfl (lv_at hl 1 rfl) ?_
    refine lv_aload_n hx hb dX12_fors_443 rfl (lv_at hl 1 rfl) ?_
    refine rG_72 hx hb hts i_X12_fors_X12 hown hK hP (hts (.fieldLink RX12 198 "StatementRules2Model" "fy" "[I") k_X12_fors_fieldLink_RX12_198_SRModel_fy_I) dX12_fors_444 ?_
    refine lv_iload_n hx hb dX12_fors_447 rfl (lv_at hl 2 rfl) ?_
    refine rL_72 (v := (p60.a 72 ((x1 : Int32).toNatClampNeg))) hx hb hK hP b1 dX12_fors_448 rfl ?_
    refine lv_if_eq (tgt := 461) hx hb dX12_fors_449 (by decide) (fun c62 => ?_) (fun c62 => ?_)
    ·
      replace hf := (if_pos c62).symm.trans hf
      refine lv_iconst (v := 1) hx hb dX12_fors_461 (by decide) ?_
      refine lv_goto (tgt := 466) hx hb dX12_fors_462 (by decide) ?_
      obtain ⟨p63, hcp63, hf⟩ := hf_bind hf
      have hFc := r_free hD hS hA
      refine va_callv (va_runV (As := [.int 1]) (rest := []) ⟨hx, hb, hml, hown, hts⟩ (c_X12_over l dC dI _ Q N (RS.setI (RS.setI p60 43 ((p60.i 43) - 1)) 38 (p60.a 71 ((x1 : Int32).toNatClampNeg))) 1 p63 hcp63) (cwV 1 hts hX12_fors_X12_over_v490 rfl rfl rfl (by decide +kernel) ⟨Nat.le_of_ble_eq_true rfl, Nat.le_of_ble_eq_true rfl⟩) ⟨zPre.blind, va_recv hK hP (ci := 11) (q0 := 0) rfl rfl, zPre.go hZ hP hK hD⟩ rfl rfl hl.1 rfl (lv_room (Nat.le_of_ble_eq_true rfl)) dX12_fors_466 ⟨Nat.le_of_ble_eq_true rfl, Nat.le_of_ble_eq_true rfl⟩) hS (fun q _ h => hFc q h) hFc (fun u9 t9 H1 locs ht hvm hw hB hz1 hk1 hS => ?_)
      obtain ⟨hP, hK1, hD1⟩ := hB
      rw [ht] at hP
      have hD := hD1.weaken (fun _ _ _ h => hFc _ h)
      generalize H1 = H at hP hS ⊢
      exact j_X12_fors_469 l dC dI Q N R hx hb hr hml hown hts hlocks hZ hA hK p63 _ _ _ hf hP hD hS (lv_sub hl [] rfl)
    ·
      replace hf := (if_neg c62).symm.trans hf
      refine lv_aload_n hx hb dX12_fors_452 rfl (lv_at hl 1 rfl) ?_
      refine rG_50 hx hb hts i_X12_fors_X12 hown hK hP (hts (.fieldLink RX12 153 "StatementRules2Model" "broken" "[Z") k_X12_fors_fieldLink_RX12_153_SRModel_broken_Z) dX12_fors_453 ?_
      refine lv_iload_n hx hb dX12_fors_456 rfl (lv_at hl 0 rfl) ?_
      refine rL_50 (v := (p60.a 50 (((σ.a 73 ((x1 : Int32).toNatClampNeg)) : Int32).toNatClampNeg))) hx hb hK hP b54 dX12_fors_457 rfl ?_
      refine lv_if_eq (tgt := 465) hx hb dX12_fors_458 (by decide) (fun c65 => ?_) (fun c65 => ?_)
      ·
        replace hf := (if_pos c65).symm.trans hf
        refine lv_iconst (v := 0) hx hb dX12_fors_465 (by decide) ?_
        obtain ⟨p66, hcp66, hf⟩ := hf_bind hf
        have hFc := r_free hD hS hA
        refine va_callv (va_runV (As := [.int 0]) (rest := []) ⟨hx, hb, hml, hown, hts⟩ (c_X12_over l dC dI _ Q N (RS.setI (RS.setI p60 43 ((p60.i 43) - 1)) 38 (p60.a 71 ((x1 : Int32).toNatClampNeg))) 0 p66 hcp66) (cwV 1 hts hX12_fors_X12_over_v490 rfl rfl rfl (by decide +kernel) ⟨Nat.le_of_ble_eq_true rfl, Nat.le_of_ble_eq_true rfl⟩) ⟨zPre.blind, va_recv hK hP (ci := 11) (q0 := 0) rfl rfl, zPre.go hZ hP hK hD⟩ rfl rfl hl.1 rfl (lv_room (Nat.le_of_ble_eq_true rfl)) dX12_fors_466 ⟨Nat.le_of_ble_eq_true rfl, Nat.le_of_ble_eq_true rfl⟩) hS (fun q _ h => hFc q h) hFc (fun u9 t9 H1 locs ht hvm hw hB hz1 hk1 hS => ?_)
        obtain ⟨hP, hK1, hD1⟩ := hB
        rw [ht] at hP
        have hD := hD1.weaken (fun _ _ _ h => hFc _ h)
        generalize H1 = H at hP hS ⊢
        exact j_X12_fors_469 l dC dI Q N R hx hb hr hml hown hts hlocks hZ hA hK p66 _ _ _ hf hP hD hS (lv_sub hl [] rfl)
      ·
        replace hf := (if_neg c65).symm.trans hf
        refine lv_iconst (v := 1) hx hb dX12_fors_461 (by decide) ?_
        refine lv_goto (tgt := 466) hx hb dX12_fors_462 (by decide) ?_
        obtain ⟨p68, hcp68, hf⟩ := hf_bind hf
        have hFc := r_free hD hS hA
        refine va_callv (va_runV (As := [.int 1]) (rest := []) ⟨hx, hb, hml, hown, hts⟩ (c_X12_over l dC dI _ Q N (RS.setI (RS.setI p60 43 ((p60.i 43) - 1)) 38 (p60.a 71 ((x1 : Int32).toNatClampNeg))) 1 p68 hcp68) (cwV 1 hts hX12_fors_X12_over_v490 rfl rfl rfl (by decide +kernel) ⟨Nat.le_of_ble_eq_true rfl, Nat.le_of_ble_eq_true rfl⟩) ⟨zPre.blind, va_recv hK hP (ci := 11) (q0 := 0) rfl rfl, zPre.go hZ hP hK hD⟩ rfl rfl hl.1 rfl (lv_room (Nat.le_of_ble_eq_true rfl)) dX12_fors_466 ⟨Nat.le_of_ble_eq_true rfl, Nat.le_of_ble_eq_true rfl⟩) hS (fun q _ h => hFc q h) hFc (fun u9 t9 H1 locs ht hvm hw hB hz1 hk1 hS => ?_)
        obtain ⟨hP, hK1, hD1⟩ := hB
        rw [ht] at hP
        have hD := hD1.weaken (fun _ _ _ h => hFc _ h)
        generalize H1 = H at hP hS ⊢
        exact j_X12_fors_469 l dC dI Q N R hx hb hr hml hown hts hlocks hZ hA hK p68 _ _ _ hf hP hD hS (lv_sub hl [] rfl)
  replace hf := (if_neg c53).symm.trans hf
  refine lv_tableOut (tgt := 472) hx hb dX12_fors_6 (by have := z_ton (a := 0) c2 (by decide); have := z_ton (a := 1) c9 (by decide); have := z_ton (a := 2) c14 (by decide); have := z_ton (a := 3) c17 (by decide); have := z_ton (a := 4) c30 (by decide); have := z_ton (a := 5) c35 (by decide); have := z_ton (a := 6) c38 (by decide); have := z_ton (a := 7) c41 (by decide); have := z_ton (a := 8) c53 (by decide); omega) (by decide) ?_
  refine lv_aload_n hx hb dX12_fors_472 rfl (lv_at hl 0 rfl) ?_
  refine lv_iload_n hx hb dX12_fors_473 rfl (lv_at hl 1 rfl) ?_
  obtain ⟨p70, hcp70, hf⟩ := hf_bind hf
  have hFc := r_free hD hS hA
  refine va_callv (va_runV (As := [.int x1]) (rest := []) ⟨hx, hb, hml, hown, hts⟩ (c_X12_rows l dC dI _ Q N σ x1 p70 hcp70) (cwV 1 hts hX12_fors_X12_rows_v546 rfl rfl rfl (by decide +kernel) ⟨Nat.le_of_ble_eq_true rfl, Nat.le_of_ble_eq_true rfl⟩) ⟨zPre.blind, va_recv hK hP (ci := 11) (q0 := 0) rfl rfl, zPre.go hZ hP hK hD⟩ rfl rfl hl.1 rfl (lv_room (Nat.le_of_ble_eq_true rfl)) dX12_fors_474 ⟨Nat.le_of_ble_eq_true rfl, Nat.le_of_ble_eq_true rfl⟩) hS (fun q _ h => hFc q h) hFc (fun u9 t9 H1 locs ht hvm hw hB hz1 hk1 hS => ?_)
  obtain ⟨hP, hK1, hD1⟩ := hB
  rw [ht] at hP
  have hD := hD1.weaken (fun _ _ _ h => hFc _ h)
  generalize H1 = H at hP hS ⊢
  obtain rfl := Option.some.inj hf
  exact W.vret hx hb hr (fun t ht hW => ⟨⟨(), rfl, trivial, by rw [ht]; exact hP, va_K.moved hW.alike hK, hD⟩, hS.F ht⟩) hS.2.2 dX12_fors_477
theorem k_X12_lock_fieldLink_RX12_177_SRModel_fs_I : Cond.fieldLink RX12 177 "StatementRules2Model" "fs" "[I" ∈ wzX12_lock := List.mem_cons_of_mem _ (List.mem_append_left _ (List.mem_of_getElem? (i := 0) rfl))
theorem i_X12_lock_X12 : ∀ w ∈ wsX120, w ∈ wzX12_lock := fun _ h => List.mem_cons_of_mem _ (List.mem_append_right _ (List.mem_append_left _ (h)))
theorem k_X12_lock_fieldLink_RX12_370_SRModel_depth_I : Cond.fieldLink RX12 370 "StatementRules2Model" "depth" "I" ∈ wzX12_lock := List.mem_cons_of_mem _ (List.mem_append_left _ (List.mem_of_getElem? (i := 1) rfl))
theorem k_X12_lock_fieldLink_RX12_387_SRModel_top_I : Cond.fieldLink RX12 387 "StatementRules2Model" "top" "I" ∈ wzX12_lock := List.mem_cons_of_mem _ (List.mem_append_left _ (List.mem_of_getElem? (i := 2) rfl))
theorem k_X12_lock_fieldLink_RX12_307_SRModel_tok_I : Cond.fieldLink RX12 307 "StatementRules2Model" "tok" "I" ∈ wzX12_lock := List.mem_cons_of_mem _ (List.mem_append_left _ (List.mem_of_getElem? (i := 3) rfl))
theorem k_X12_lock_fieldLink_RX12_314_SRModel_number_I : Cond.fieldLink RX12 314 "StatementRules2Model" "number" "I" ∈ wzX12_lock := List.mem_cons_of_mem _ (List.mem_append_left _ (List.mem_of_getElem? (i := 4) rfl))
set_option maxHeartbeats 4000000 in
set_option maxRecDepth 100000 in
theorem j_X12_lock_94 {p : Program} {e : Env} {s : State} {m : MethodId} {args : Array Value} {below : List Frame} {meth : Method} {c : Code} {A : Nat → Prop} (l : Launch) (dC : Nat → ClassId) (dI : Nat → Nat → Nat) (Q : RQ) (N : Nat) (R : RS) (hx : p.tables.exec = Jvm.exec) (hb : c.code = cX12_lock) (hr : meth.sig.returnType = none) (hml : c.maxLocals = 2) (hown : s.vm.findClass RX12 = some m.cls) (hts : ∀ w ∈ wzX12_lock, w.before args s = true) (hlocks : meth.locks = false) (hZ : zAMB s) (hA : ∀ q : Nat, s.heap.size ≤ q → A q) (hK : va_K (dC, dI) vwCl (rT Q) s) : ∀ (σ : RS) (H : Heap) (locs : List Loc) (ls : Array Slot), f_X12_lock_94 N σ = some R → va_P (dC, dI) vwCl (rW Q σ) H → va_D A (rW Q σ) → va_S A s.heap H locs → lv_has ls 2 [(0, .ref Q.h0)] → W p l e ({ frames := 6, cells := 0, slots := 0, locals := 360 }) s m args below meth c H locs 0 0 (MQ below (va_Qv (fun (_ : Unit) => True) (fun (_ : Unit) (t : State) => zPost dC dI A (rW Q R) (rT Q) t) A) args s 0 0 A) (F0 m 94 ls []) := by
  intro σ  H locs ls hf hP hD hS hl
  unfold f_X12_lock_94 at hf
  refine lv_aload_n hx hb dX12_lock_94 rfl (lv_at hl 0 rfl) ?_
  refine lv_bipush (v := 41) hx hb dX12_lock_95 (by decide) ?_
  obtain ⟨p13, hcp13, hf⟩ := hf_bind hf
  have hFc := r_free hD hS hA
  refine va_calli (va_runV (As := [.int 41]) (rest := []) ⟨hx, hb, hml, hown, hts⟩ (c_X12_shut l dC dI _ Q N σ 41 p13 hcp13) (cwV 1 hts hX12_lock_X12_shut_v468 rfl rfl rfl (by decide +kernel) ⟨Nat.le_of_ble_eq_true rfl, Nat.le_of_ble_eq_true rfl⟩) ⟨zPre.blind, va_recv hK hP (ci := 11) (q0 := 0) rfl rfl, zPre.go hZ hP hK hD⟩ rfl rfl hl.1 rfl (lv_room (Nat.le_of_ble_eq_true rfl)) dX12_lock_97 ⟨Nat.le_of_ble_eq_true rfl, Nat.le_of_ble_eq_true rfl⟩) hS (fun q _ h => hFc q h) hFc (fun r14 u9 t9 H1 locs ht hvm hw hB hz1 hk1 hS => ?_)
  obtain ⟨hP, hK1, hD1⟩ := hB
  rw [ht] at hP
  have hD := hD1.weaken (fun _ _ _ h => hFc _ h)
  generalize H1 = H at hP hS ⊢
  obtain rfl : r14 = p13.1 := hw
  refine lv_pop hx hb dX12_lock_100 rfl ?_
  refine lv_aload_n hx hb dX12_lock_101 rfl (lv_at hl 0 rfl) ?_
  refine lv_dup hx hb dX12_lock_102 rfl ?_
  refine rG_52 (v := (p13.2.i 52)) hx hb hts i_X12_lock_X12 hown hK hP (hts (.fieldLink RX12 370 "StatementRules2Model" "depth" "I") k_X12_lock_fieldLink_RX12_370_SRModel_depth_I) dX12_lock_103 rfl ?_
  refine lv_iconst (v := 1) hx hb dX12_lock_106 (by decide) ?_
  refine lv_iadd hx hb dX12_lock_107 ?_
  refine rP_52 hx hb hts i_X12_lock_X12 hown hK hP hD hS (hts (.fieldLink RX12 370 "StatementRules2Model" "depth" "I") k_X12_lock_fieldLink_RX12_370_SRModel_depth_I) dX12_lock_108 (fun H locs hP hD hS => ?_)
  refine lv_aload_n hx hb dX12_lock_111 rfl (lv_at hl 0 rfl) ?_
  refine lv_iconst (v := 1) hx hb dX12_lock_112 (by decide) ?_
  refine lv_iconst (v := 3) hx hb dX12_lock_113 (by decide) ?_
  obtain ⟨p15, hcp15, hf⟩ := hf_bind hf
  have hFc := r_free hD hS hA
  refine va_callv (va_runV (As := [.int 1, .int 3]) (rest := []) ⟨hx, hb, hml, hown, hts⟩ (c_X12_then l dC dI _ Q N (RS.setI p13.2 52 ((p13.2.i 52) + 1)) 1 3 p15 hcp15) (cwV 2 hts hX12_lock_X12_then_v393 rfl rfl rfl (by decide +kernel) ⟨Nat.le_of_ble_eq_true rfl, Nat.le_of_ble_eq_true rfl⟩) ⟨zPre.blind, va_recv hK hP (ci := 11) (q0 := 0) rfl rfl, zPre.go hZ hP hK hD⟩ rfl rfl hl.1 rfl (lv_room (Nat.le_of_ble_eq_true rfl)) dX12_lock_114 ⟨Nat.le_of_ble_eq_true rfl, Nat.le_of_ble_eq_true rfl⟩) hS (fun q _ h => hFc q h) hFc (fun u9 t9 H1 locs ht hvm hw hB hz1 hk1 hS => ?_)
  obtain ⟨hP, hK1, hD1⟩ := hB
  rw [ht] at hP
  have hD := hD1.weaken (fun _ _ _ h => hFc _ h)
  generalize H1 = H at hP hS ⊢
  obtain rfl := Option.some.inj hf
  exact W.vret hx hb hr (fun t ht hW => ⟨⟨(), rfl, trivial, by rw [ht]; exact hP, va_K.moved hW.alike hK, hD⟩, hS.F ht⟩) hS.2.2 dX12_lock_117
set_option maxHeartbeats 4000000 in
set_option maxRecDepth 100000 in
theorem j_X12_lock_90 {p : Program} {e : Env} {s : State} {m : MethodId} {args : Array Value} {below : List Frame} {meth : Method} {c : Code} {A : Nat → Prop} (l : Launch) (dC : Nat → ClassId) (dI : Nat → Nat → Nat) (Q : RQ) (N : Nat) (R : RS) (hx : p.tables.exec = Jvm.exec) (hb : c.code = cX12_lock) (hr : meth.sig.returnType = none) (hml : c.maxLocals = 2) (hown : s.vm.findClass RX12 = some m.cls) (hts : ∀ w ∈ wzX12_lock, w.before args s = true) (hlocks : meth.locks = false) (hZ : zAMB s) (hA : ∀ q : Nat, s.heap.size ≤ q → A q) (hK : va_K (dC, dI) vwCl (rT Q) s) : ∀ (σ : RS) (H : Heap) (locs : List Loc) (ls : Array Slot), f_X12_lock_90 N σ = some R → va_P (dC, dI) vwCl (rW Q σ) H → va_D A (rW Q σ) → va_S A s.heap H locs → lv_has ls 2 [(0, .ref Q.h0)] → W p l e ({ frames := 6, cells := 0, slots := 0, locals := 360 }) s m args below meth c H locs 0 0 (MQ below (va_Qv (fun (_ : Unit) => True) (fun (_ : Unit) (t : State) => zPost dC dI A (rW Q R) (rT Q) t) A) args s 0 0 A) (F0 m 90 ls []) := by
  intro σ  H locs ls hf hP hD hS hl
  unfold f_X12_lock_90 at hf
  refine lv_aload_n hx hb dX12_lock_90 rfl (lv_at hl 0 rfl) ?_
  obtain ⟨p21, hcp21, hf⟩ := hf_bind hf
  have hFc := r_free hD hS hA
  refine va_callv (va_runV (As := []) (rest := []) ⟨hx, hb, hml, hown, hts⟩ (c_X12_next l dC dI _ Q N σ p21 hcp21) (cwV 0 hts hX12_lock_X12_next_v345 rfl rfl rfl (by decide +kernel) ⟨Nat.le_of_ble_eq_true rfl, Nat.le_of_ble_eq_true rfl⟩) ⟨zPre.blind, va_recv hK hP (ci := 11) (q0 := 0) rfl rfl, zPre.go hZ hP hK hD⟩ rfl rfl hl.1 rfl (lv_room (Nat.le_of_ble_eq_true rfl)) dX12_lock_91 ⟨Nat.le_of_ble_eq_true rfl, Nat.le_of_ble_eq_true rfl⟩) hS (fun q _ h => hFc q h) hFc (fun u9 t9 H1 locs ht hvm hw hB hz1 hk1 hS => ?_)
  obtain ⟨hP, hK1, hD1⟩ := hB
  rw [ht] at hP
  have hD := hD1.weaken (fun _ _ _ h => hFc _ h)
  generalize H1 = H at hP hS ⊢
  exact j_X12_lock_94 l dC dI Q N R hx hb hr hml hown hts hlocks hZ hA hK p21 _ _ _ hf hP hD hS (lv_sub hl [0] rfl)
set_option maxHeartbeats 4000000 in
set_option maxRecDepth 100000 in
theorem j_X12_lock_50 {p : Program} {e : Env} {s : State} {m : MethodId} {args : Array Value} {below : List Frame} {meth : Method} {c : Code} {A : Nat → Prop} (l : Launch) (dC : Nat → ClassId) (dI : Nat → Nat → Nat) (Q : RQ) (N : Nat) (R : RS) (hx : p.tables.exec = Jvm.exec) (hb : c.code = cX12_lock) (hr : meth.sig.returnType = none) (hml : c.maxLocals = 2) (hown : s.vm.findClass RX12 = some m.cls) (hts : ∀ w ∈ wzX12_lock, w.before args s = true) (hlocks : meth.locks = false) (hZ : zAMB s) (hA : ∀ q : Nat, s.heap.size ≤ q → A q) (hK : va_K (dC, dI) vwCl (rT Q) s) : ∀ (σ : RS) (H : Heap) (locs : List Loc) (ls : Array Slot), f_X12_lock_50 N σ = some R → va_P (dC, dI) vwCl (rW Q σ) H → va_D A (rW Q σ) → va_S A s.heap H locs → lv_has ls 2 [(0, .ref Q.h0)] → W p l e ({ frames := 6, cells := 0, slots := 0, locals := 360 }) s m args below meth c H locs 0 0 (MQ below (va_Qv (fun (_ : Unit) => True) (fun (_ : Unit) (t : State) => zPost dC dI A (rW Q R) (rT Q) t) A) args s 0 0 A) (F0 m 50 ls []) := by
  intro σ  H locs ls hf hP hD hS hl
  unfold f_X12_lock_50 at hf
  refine lv_aload_n hx hb dX12_lock_50 rfl (lv_at hl 0 rfl) ?_
  refine lv_aload_n hx hb dX12_lock_51 rfl (lv_at hl 0 rfl) ?_
  refine rG_10 (v := (σ.i 10)) hx hb hts i_X12_lock_X12 hown hK hP (hts (.fieldLink RX12 307 "StatementRules2Model" "tok" "I") k_X12_lock_fieldLink_RX12_307_SRModel_tok_I) dX12_lock_52 rfl ?_
  refine lv_sipush (v := 434) hx hb dX12_lock_55 (by decide) ?_
  refine lv_icmp_ne (tgt := 66) hx hb dX12_lock_58 (by decide) (fun c17 => ?_) (fun c17 => ?_)
  ·
    replace hf := (if_neg c17).symm.trans hf
    refine lv_bipush (v := 26) hx hb dX12_lock_66 (by decide) ?_
    refine lv_aload_n hx hb dX12_lock_68 rfl (lv_at hl 0 rfl) ?_
    refine rG_10 (v := (σ.i 10)) hx hb hts i_X12_lock_X12 hown hK hP (hts (.fieldLink RX12 307 "StatementRules2Model" "tok" "I") k_X12_lock_fieldLink_RX12_307_SRModel_tok_I) dX12_lock_69 rfl ?_
    refine lv_sipush (v := 434) hx hb dX12_lock_72 (by decide) ?_
    refine lv_icmp_ne (tgt := 82) hx hb dX12_lock_75 (by decide) (fun _ => ?_) (fun c9 => absurd c9 c17)
    refine lv_aload_n hx hb dX12_lock_82 rfl (lv_at hl 0 rfl) ?_
    refine rG_14 (v := (σ.i 14)) hx hb hts i_X12_lock_X12 hown hK hP (hts (.fieldLink RX12 314 "StatementRules2Model" "number" "I") k_X12_lock_fieldLink_RX12_314_SRModel_number_I) dX12_lock_83 rfl ?_
    obtain ⟨p19, hcp19, hf⟩ := hf_bind hf
    have hFc := r_free hD hS hA
    refine va_calli (va_runV (As := [.int 26, .int (σ.i 14)]) (rest := []) ⟨hx, hb, hml, hown, hts⟩ (c_X12_emit l dC dI _ Q N σ 26 (σ.i 14) p19 hcp19) (cwV 2 hts hX12_lock_X12_emit_v464 rfl rfl rfl (by decide +kernel) ⟨Nat.le_of_ble_eq_true rfl, Nat.le_of_ble_eq_true rfl⟩) ⟨zPre.blind, va_recv hK hP (ci := 11) (q0 := 0) rfl rfl, zPre.go hZ hP hK hD⟩ rfl rfl hl.1 rfl (lv_room (Nat.le_of_ble_eq_true rfl)) dX12_lock_86 ⟨Nat.le_of_ble_eq_true rfl, Nat.le_of_ble_eq_true rfl⟩) hS (fun q _ h => hFc q h) hFc (fun r20 u9 t9 H1 locs ht hvm hw hB hz1 hk1 hS => ?_)
    obtain ⟨hP, hK1, hD1⟩ := hB
    rw [ht] at hP
    have hD := hD1.weaken (fun _ _ _ h => hFc _ h)
    generalize H1 = H at hP hS ⊢
    obtain rfl : r20 = p19.1 := hw
    refine lv_pop hx hb dX12_lock_89 rfl ?_
    exact j_X12_lock_90 l dC dI Q N R hx hb hr hml hown hts hlocks hZ hA hK p19.2 _ _ _ hf hP hD hS (lv_sub hl [0] rfl)
  ·
    replace hf := (if_pos c17).symm.trans hf
    refine lv_bipush (v := 20) hx hb dX12_lock_61 (by decide) ?_
    refine lv_goto (tgt := 68) hx hb dX12_lock_63 (by decide) ?_
    refine lv_aload_n hx hb dX12_lock_68 rfl (lv_at hl 0 rfl) ?_
    refine rG_10 (v := (σ.i 10)) hx hb hts i_X12_lock_X12 hown hK hP (hts (.fieldLink RX12 307 "StatementRules2Model" "tok" "I") k_X12_lock_fieldLink_RX12_307_SRModel_tok_I) dX12_lock_69 rfl ?_
    refine lv_sipush (v := 434) hx hb dX12_lock_72 (by decide) ?_
    refine lv_icmp_ne (tgt := 82) hx hb dX12_lock_75 (by decide) (fun c9 => absurd c17 c9) (fun _ => ?_)
    refine lv_iconst (v := 1) hx hb dX12_lock_78 (by decide) ?_
    refine lv_goto (tgt := 86) hx hb dX12_lock_79 (by decide) ?_
    obtain ⟨p24, hcp24, hf⟩ := hf_bind hf
    have hFc := r_free hD hS hA
    refine va_calli (va_runV (As := [.int 20, .int 1]) (rest := []) ⟨hx, hb, hml, hown, hts⟩ (c_X12_emit l dC dI _ Q N σ 20 1 p24 hcp24) (cwV 2 hts hX12_lock_X12_emit_v464 rfl rfl rfl (by decide +kernel) ⟨Nat.le_of_ble_eq_true rfl, Nat.le_of_ble_eq_true rfl⟩) ⟨zPre.blind, va_recv hK hP (ci := 11) (q0 := 0) rfl rfl, zPre.go hZ hP hK hD⟩ rfl rfl hl.1 rfl (lv_room (Nat.le_of_ble_eq_true rfl)) dX12_lock_86 ⟨Nat.le_of_ble_eq_true rfl, Nat.le_of_ble_eq_true rfl⟩) hS (fun q _ h => hFc q h) hFc (fun r25 u9 t9 H1 locs ht hvm hw hB hz1 hk1 hS => ?_)
    obtain ⟨hP, hK1, hD1⟩ := hB
    rw [ht] at hP
    have hD := hD1.weaken (fun _ _ _ h => hFc _ h)
    generalize H1 = H at hP hS ⊢
    obtain rfl : r25 = p24.1 := hw
    refine lv_pop hx hb dX12_lock_89 rfl ?_
    exact j_X12_lock_90 l dC dI Q N R hx hb hr hml hown hts hlocks hZ hA hK p24.2 _ _ _ hf hP hD hS (lv_sub hl [0] rfl)
set_option maxHeartbeats 4000000 in
set_option maxRecDepth 100000 in
theorem c_X12_lock (l : Launch) (dC : Nat → ClassId) (dI : Nat → Nat → Nat) (sz : Nat) (Q : RQ) (N : Nat) (σ : RS) (x1 : Int32) (R : RS) (hf : f_X12_lock N σ x1 = some R) : Met l yX12_lock wzX12_lock ({ frames := 6, cells := 0, slots := 0, locals := 360 }) (va_Pc [.ref Q.h0, .int x1] (zPre dC dI sz (rW Q σ) (rT Q))) (va_Qv (fun (_ : Unit) => True) (fun (_ : Unit) (t : State) => zPost dC dI (va_A (rW Q σ) sz) (rW Q R) (rT Q) t) (va_A (rW Q σ) sz)) 0 0 (va_A (rW Q σ) sz) := by
  refine Met.ofW (cc := cX12_lock) (maxL := 2) (ret := none) (by decide) rfl ?_
  intro p e s m args below meth c s₁ B hml hv
  obtain ⟨rfl, hsz, hZ, hP, hK, hD0⟩ := hv
  have hx := B.exec
  have hb := B.bytes
  have hr := B.returns
  have hts := atoms_spec (ws := wzX12_lock) B.pre
  have hown : s.vm.findClass RX12 = some m.cls := findClass_of_methodNamed B.named
  have hlocks := B.notSynchronized
  subst hsz
  have hD := hD0.self (sz := s.heap.size)
  generalize hAe : va_A (rW Q σ) s.heap.size = A at hD ⊢
  have hA : ∀ q : Nat, s.heap.size ≤ q → A q := fun q h => by rw [← hAe]; exact Or.inr h
  have hS : va_S A s.heap s.heap [] := va_S.rf
  have hl := lv_entry ([.ref Q.h0, .int x1]) (n := 2) (Nat.le_of_ble_eq_true rfl)
  rw [lg_entry_eq]
  generalize (lg_sl ([.ref Q.h0, .int x1]) ++ List.replicate (2 - (lg_sl ([.ref Q.h0, .int x1])).length) Slot.unset).toArray = ls at hl ⊢
  have hl : lv_has ls 2 [(0, .ref Q.h0), (1, .int x1)] := hl
  unfold f_X12_lock at hf
  refine lv_aload_n hx hb dX12_lock_0 rfl (lv_at hl 0 rfl) ?_
  refine rG_65 hx hb hts i_X12_lock_X12 hown hK hP (hts (.fieldLink RX12 177 "StatementRules2Model" "fs" "[I") k_X12_lock_fieldLink_RX12_177_SRModel_fs_I) dX12_lock_1 ?_
  refine lv_iload_n hx hb dX12_lock_4 rfl (lv_at hl 1 rfl) ?_
  obtain ⟨b1, hf⟩ := hf_ite hf
  refine rL_65 (v := (σ.a 65 ((x1 : Int32).toNatClampNeg))) hx hb hK hP b1 dX12_lock_5 rfl ?_
  refine lv_if_ne (tgt := 118) hx hb dX12_lock_6 (by decide) (fun c2 => ?_) (fun c2 => ?_)
  ·
    replace hf := (if_neg c2).symm.trans hf
    refine lv_aload_n hx hb dX12_lock_118 rfl (lv_at hl 0 rfl) ?_
    refine lv_bipush (v := 27) hx hb dX12_lock_119 (by decide) ?_
    refine lv_iconst (v := 0) hx hb dX12_lock_121 (by decide) ?_
    obtain ⟨p3, hcp3, hf⟩ := hf_bind hf
    have hFc := r_free hD hS hA
    refine va_calli (va_runV (As := [.int 27, .int 0]) (rest := []) ⟨hx, hb, hml, hown, hts⟩ (c_X12_emit l dC dI _ Q N σ 27 0 p3 hcp3) (cwV 2 hts hX12_lock_X12_emit_v464 rfl rfl rfl (by decide +kernel) ⟨Nat.le_of_ble_eq_true rfl, Nat.le_of_ble_eq_true rfl⟩) ⟨zPre.blind, va_recv hK hP (ci := 11) (q0 := 0) rfl rfl, zPre.go hZ hP hK hD⟩ rfl rfl hl.1 rfl (lv_room (Nat.le_of_ble_eq_true rfl)) dX12_lock_122 ⟨Nat.le_of_ble_eq_true rfl, Nat.le_of_ble_eq_true rfl⟩) hS (fun q _ h => hFc q h) hFc (fun r4 u9 t9 H1 locs ht hvm hw hB hz1 hk1 hS => ?_)
    obtain ⟨hP, hK1, hD1⟩ := hB
    rw [ht] at hP
    have hD := hD1.weaken (fun _ _ _ h => hFc _ h)
    generalize H1 = H at hP hS ⊢
    obtain rfl : r4 = p3.1 := hw
    refine lv_pop hx hb dX12_lock_125 rfl ?_
    refine lv_aload_n hx hb dX12_lock_126 rfl (lv_at hl 0 rfl) ?_
    refine lv_dup hx hb dX12_lock_127 rfl ?_
    refine rG_52 (v := (p3.2.i 52)) hx hb hts i_X12_lock_X12 hown hK hP (hts (.fieldLink RX12 370 "StatementRules2Model" "depth" "I") k_X12_lock_fieldLink_RX12_370_SRModel_depth_I) dX12_lock_128 rfl ?_
    refine lv_iconst (v := 1) hx hb dX12_lock_131 (by decide) ?_
    refine lv_isub hx hb dX12_lock_132 ?_
    refine rP_52 hx hb hts i_X12_lock_X12 hown hK hP hD hS (hts (.fieldLink RX12 370 "StatementRules2Model" "depth" "I") k_X12_lock_fieldLink_RX12_370_SRModel_depth_I) dX12_lock_133 (fun H locs hP hD hS => ?_)
    refine lv_aload_n hx hb dX12_lock_136 rfl (lv_at hl 0 rfl) ?_
    refine lv_dup hx hb dX12_lock_137 rfl ?_
    refine rG_63 (v := (p3.2.i 63)) hx hb hts i_X12_lock_X12 hown hK hP (hts (.fieldLink RX12 387 "StatementRules2Model" "top" "I") k_X12_lock_fieldLink_RX12_387_SRModel_top_I) dX12_lock_138 rfl ?_
    refine lv_iconst (v := 1) hx hb dX12_lock_141 (by decide) ?_
    refine lv_isub hx hb dX12_lock_142 ?_
    refine rP_63 hx hb hts i_X12_lock_X12 hown hK hP hD hS (hts (.fieldLink RX12 387 "StatementRules2Model" "top" "I") k_X12_lock_fieldLink_RX12_387_SRModel_top_I) dX12_lock_143 (fun H locs hP hD hS => ?_)
    obtain rfl := Option.some.inj hf
    exact W.vret hx hb hr (fun t ht hW => ⟨⟨(), rfl, trivial, by rw [ht]; exact hP, va_K.moved hW.alike hK, hD⟩, hS.F ht⟩) hS.2.2 dX12_lock_146
  ·
    replace hf := (if_pos c2).symm.trans hf
    refine lv_aload_n hx hb dX12_lock_9 rfl (lv_at hl 0 rfl) ?_
    obtain ⟨p5, hcp5, hf⟩ := hf_bind hf
    have hFc := r_free hD hS hA
    refine va_callv (va_runV (As := []) (rest := []) ⟨hx, hb, hml, hown, hts⟩ (c_X12_next l dC dI _ Q N σ p5 hcp5) (cwV 0 hts hX12_lock_X12_next_v345 rfl rfl rfl (by decide +kernel) ⟨Nat.le_of_ble_eq_true rfl, Nat.le_of_ble_eq_true rfl⟩) ⟨zPre.blind, va_recv hK hP (ci := 11) (q0 := 0) rfl rfl, zPre.go hZ hP hK hD⟩ rfl rfl hl.1 rfl (lv_room (Nat.le_of_ble_eq_true rfl)) dX12_lock_10 ⟨Nat.le_of_ble_eq_true rfl, Nat.le_of_ble_eq_true rfl⟩) hS (fun q _ h => hFc q h) hFc (fun u9 t9 H1 locs ht hvm hw hB hz1 hk1 hS => ?_)
    obtain ⟨hP, hK1, hD1⟩ := hB
    rw [ht] at hP
    have hD := hD1.weaken (fun _ _ _ h => hFc _ h)
    generalize H1 = H at hP hS ⊢
    refine lv_aload_n hx hb dX12_lock_13 rfl (lv_at hl 0 rfl) ?_
    refine lv_bipush (v := 40) hx hb dX12_lock_14 (by decide) ?_
    obtain ⟨p7, hcp7, hf⟩ := hf_bind hf
    have hFc := r_free hD hS hA
    refine va_calli (va_runV (As := [.int 40]) (rest := []) ⟨hx, hb, hml, hown, hts⟩ (c_X12_open l dC dI _ Q N p5 40 p7 hcp7) (cwV 1 hts hX12_lock_X12_open_v475 rfl rfl rfl (by decide +kernel) ⟨Nat.le_of_ble_eq_true rfl, Nat.le_of_ble_eq_true rfl⟩) ⟨zPre.blind, va_recv hK hP (ci := 11) (q0 := 0) rfl rfl, zPre.go hZ hP hK hD⟩ rfl rfl hl.1 rfl (lv_room (Nat.le_of_ble_eq_true rfl)) dX12_lock_16 ⟨Nat.le_of_ble_eq_true rfl, Nat.le_of_ble_eq_true rfl⟩) hS (fun q _ h => hFc q h) hFc (fun r8 u9 t9 H1 locs ht hvm hw hB hz1 hk1 hS => ?_)
    obtain ⟨hP, hK1, hD1⟩ := hB
    rw [ht] at hP
    have hD := hD1.weaken (fun _ _ _ h => hFc _ h)
    generalize H1 = H at hP hS ⊢
    obtain rfl : r8 = p7.1 := hw
    refine lv_pop hx hb dX12_lock_19 rfl ?_
    refine lv_aload_n hx hb dX12_lock_20 rfl (lv_at hl 0 rfl) ?_
    refine lv_aload_n hx hb dX12_lock_21 rfl (lv_at hl 0 rfl) ?_
    refine rG_10 (v := (p7.2.i 10)) hx hb hts i_X12_lock_X12 hown hK hP (hts (.fieldLink RX12 307 "StatementRules2Model" "tok" "I") k_X12_lock_fieldLink_RX12_307_SRModel_tok_I) dX12_lock_22 rfl ?_
    refine lv_iconst (v := 3) hx hb dX12_lock_25 (by decide) ?_
    refine lv_icmp_eq (tgt := 39) hx hb dX12_lock_26 (by decide) (fun c9 => ?_) (fun c9 => ?_)
    ·
      replace hf := (if_pos c9).symm.trans hf
      refine lv_iconst (v := 1) hx hb dX12_lock_39 (by decide) ?_
      refine lv_goto (tgt := 44) hx hb dX12_lock_40 (by decide) ?_
      obtain ⟨p10, hcp10, hf⟩ := hf_bind hf
      have hFc := r_free hD hS hA
      refine va_calli (va_runV (As := [.int 1]) (rest := []) ⟨hx, hb, hml, hown, hts⟩ (c_X12_can l dC dI _ Q N p7.2 1 p10 hcp10) (cwV 1 hts hX12_lock_X12_can_v341 rfl rfl rfl (by decide +kernel) ⟨Nat.le_of_ble_eq_true rfl, Nat.le_of_ble_eq_true rfl⟩) ⟨zPre.blind, va_recv hK hP (ci := 11) (q0 := 0) rfl rfl, zPre.go hZ hP hK hD⟩ rfl rfl hl.1 rfl (lv_room (Nat.le_of_ble_eq_true rfl)) dX12_lock_44 ⟨Nat.le_of_ble_eq_true rfl, Nat.le_of_ble_eq_true rfl⟩) hS (fun q _ h => hFc q h) hFc (fun r11 u9 t9 H1 locs ht hvm hw hB hz1 hk1 hS => ?_)
      obtain ⟨hP, hK1, hD1⟩ := hB
      rw [ht] at hP
      have hD := hD1.weaken (fun _ _ _ h => hFc _ h)
      generalize H1 = H at hP hS ⊢
      obtain rfl : r11 = p10.1 := hw
      refine lv_if_eq (tgt := 94) hx hb dX12_lock_47 (by decide) (fun c12 => ?_) (fun c12 => ?_)
      ·
        replace hf := (if_pos c12).symm.trans hf
        exact j_X12_lock_94 l dC dI Q N R hx hb hr hml hown hts hlocks hZ hA hK p10.2 _ _ _ hf hP hD hS (lv_sub hl [0] rfl)
      ·
        replace hf := (if_neg c12).symm.trans hf
        exact j_X12_lock_50 l dC dI Q N R hx hb hr hml hown hts hlocks hZ hA hK p10.2 _ _ _ hf hP hD hS (lv_sub hl [0] rfl)
    ·
      replace hf := (if_neg c9).symm.trans hf
      refine lv_aload_n hx hb dX12_lock_29 rfl (lv_at hl 0 rfl) ?_
      refine rG_10 (v := (p7.2.i 10)) hx hb hts i_X12_lock_X12 hown hK hP (hts (.fieldLink RX12 307 "StatementRules2Model" "tok" "I") k_X12_lock_fieldLink_RX12_307_SRModel_tok_I) dX12_lock_30 rfl ?_
      refine lv_sipush (v := 434) hx hb dX12_lock_33 (by decide) ?_
      refine lv_icmp_ne (tgt := 43) hx hb dX12_lock_36 (by decide) (fun c26 => ?_) (fun c26 => ?_)
      ·
        replace hf := (if_neg c26).symm.trans hf
        refine lv_iconst (v := 0) hx hb dX12_lock_43 (by decide) ?_
        obtain ⟨p27, hcp27, hf⟩ := hf_bind hf
        have hFc := r_free hD hS hA
        refine va_calli (va_runV (As := [.int 0]) (rest := []) ⟨hx, hb, hml, hown, hts⟩ (c_X12_can l dC dI _ Q N p7.2 0 p27 hcp27) (cwV 1 hts hX12_lock_X12_can_v341 rfl rfl rfl (by decide +kernel) ⟨Nat.le_of_ble_eq_true rfl, Nat.le_of_ble_eq_true rfl⟩) ⟨zPre.blind, va_recv hK hP (ci := 11) (q0 := 0) rfl rfl, zPre.go hZ hP hK hD⟩ rfl rfl hl.1 rfl (lv_room (Nat.le_of_ble_eq_true rfl)) dX12_lock_44 ⟨Nat.le_of_ble_eq_true rfl, Nat.le_of_ble_eq_true rfl⟩) hS (fun q _ h => hFc q h) hFc (fun r28 u9 t9 H1 locs ht hvm hw hB hz1 hk1 hS => ?_)
        obtain ⟨hP, hK1, hD1⟩ := hB
        rw [ht] at hP
        have hD := hD1.weaken (fun _ _ _ h => hFc _ h)
        generalize H1 = H at hP hS ⊢
        obtain rfl : r28 = p27.1 := hw
        refine lv_if_eq (tgt := 94) hx hb dX12_lock_47 (by decide) (fun c29 => ?_) (fun c29 => ?_)
        ·
          replace hf := (if_pos c29).symm.trans hf
          exact j_X12_lock_94 l dC dI Q N R hx hb hr hml hown hts hlocks hZ hA hK p27.2 _ _ _ hf hP hD hS (lv_sub hl [0] rfl)
        ·
          replace hf := (if_neg c29).symm.trans hf
          exact j_X12_lock_50 l dC dI Q N R hx hb hr hml hown hts hlocks hZ hA hK p27.2 _ _ _ hf hP hD hS (lv_sub hl [0] rfl)
      ·
        replace hf := (if_pos c26).symm.trans hf
        refine lv_iconst (v := 1) hx hb dX12_lock_39 (by decide) ?_
        refine lv_goto (tgt := 44) hx hb dX12_lock_40 (by decide) ?_
        obtain ⟨p30, hcp30, hf⟩ := hf_bind hf
        have hFc := r_free hD hS hA
        refine va_calli (va_runV (As := [.int 1]) (rest := []) ⟨hx, hb, hml, hown, hts⟩ (c_X12_can l dC dI _ Q N p7.2 1 p30 hcp30) (cwV 1 hts hX12_lock_X12_can_v341 rfl rfl rfl (by decide +kernel) ⟨Nat.le_of_ble_eq_true rfl, Nat.le_of_ble_eq_true rfl⟩) ⟨zPre.blind, va_recv hK hP (ci := 11) (q0 := 0) rfl rfl, zPre.go hZ hP hK hD⟩ rfl rfl hl.1 rfl (lv_room (Nat.le_of_ble_eq_true rfl)) dX12_lock_44 ⟨Nat.le_of_ble_eq_true rfl, Nat.le_of_ble_eq_true rfl⟩) hS (fun q _ h => hFc q h) hFc (fun r31 u9 t9 H1 locs ht hvm hw hB hz1 hk1 hS => ?_)
        obtain ⟨hP, hK1, hD1⟩ := hB
        rw [ht] at hP
        have hD := hD1.weaken (fun _ _ _ h => hFc _ h)
        generalize H1 = H at hP hS ⊢
        obtain rfl : r31 = p30.1 := hw
        refine lv_if_eq (tgt := 94) hx hb dX12_lock_47 (by decide) (fun c32 => ?_) (fun c32 => ?_)
        ·
          replace hf := (if_pos c32).symm.trans hf
          exact j_X12_lock_94 l dC dI Q N R hx hb hr hml hown hts hlocks hZ hA hK p30.2 _ _ _ hf hP hD hS (lv_sub hl [0] rfl)
        ·
          replace hf := (if_neg c32).symm.trans hf
          exact j_X12_lock_50 l dC dI Q N R hx hb hr hml hown hts hlocks hZ hA hK p30.2 _ _ _ hf hP hD hS (lv_sub hl [0] rfl)
theorem k_X12_entry_fieldLink_RX12_93_SRModel_entryValue_I : Cond.fieldLink RX12 93 "StatementRules2Model" "entryValue" "[I" ∈ wzX12_entry := List.mem_cons_of_mem _ (List.mem_append_left _ (List.mem_of_getElem? (i := 0) rfl))
theorem i_X12_entry_X12 : ∀ w ∈ wsX120, w ∈ wzX12_entry := fun _ h => List.mem_cons_of_mem _ (List.mem_append_right _ (List.mem_append_left _ (h)))
theorem k_X12_entry_fieldLink_RX12_478_SRModel_entries_I : Cond.fieldLink RX12 478 "StatementRules2Model" "entries" "I" ∈ wzX12_entry := List.mem_cons_of_mem _ (List.mem_append_left _ (List.mem_of_getElem? (i := 1) rfl))
theorem k_X12_entry_fieldLink_RX12_96_SRModel_entryAt_I : Cond.fieldLink RX12 96 "StatementRules2Model" "entryAt" "[I" ∈ wzX12_entry := List.mem_cons_of_mem _ (List.mem_append_left _ (List.mem_of_getElem? (i := 2) rfl))
theorem k_X12_entry_fieldLink_RX12_358_SRModel_codes_I : Cond.fieldLink RX12 358 "StatementRules2Model" "codes" "I" ∈ wzX12_entry := List.mem_cons_of_mem _ (List.mem_append_left _ (List.mem_of_getElem? (i := 3) rfl))
theorem k_X12_entry_fieldLink_RX12_99_SRModel_entryNext_I : Cond.fieldLink RX12 99 "StatementRules2Model" "entryNext" "[I" ∈ wzX12_entry := List.mem_cons_of_mem _ (List.mem_append_left _ (List.mem_of_getElem? (i := 4) rfl))
theorem k_X12_entry_fieldLink_RX12_102_SRModel_entryElse_Z : Cond.fieldLink RX12 102 "StatementRules2Model" "entryElse" "[Z" ∈ wzX12_entry := List.mem_cons_of_mem _ (List.mem_append_left _ (List.mem_of_getElem? (i := 5) rfl))
theorem k_X12_entry_fieldLink_RX12_183_SRModel_fq_I : Cond.fieldLink RX12 183 "StatementRules2Model" "fq" "[I" ∈ wzX12_entry := List.mem_cons_of_mem _ (List.mem_append_left _ (List.mem_of_getElem? (i := 6) rfl))
theorem k_X12_entry_fieldLink_RX12_87_SRModel_ix_I : Cond.fieldLink RX12 87 "StatementRules2Model" "ix" "[I" ∈ wzX12_entry := List.mem_cons_of_mem _ (List.mem_append_left _ (List.mem_of_getElem? (i := 7) rfl))
theorem k_X12_entry_fieldLink_RX12_180_SRModel_fp_I : Cond.fieldLink RX12 180 "StatementRules2Model" "fp" "[I" ∈ wzX12_entry := List.mem_cons_of_mem _ (List.mem_append_left _ (List.mem_of_getElem? (i := 8) rfl))
set_option maxHeartbeats 4000000 in
set_option maxRecDepth 100000 in
theorem j_X12_entry_85 {p : Program} {e : Env} {s : State} {m : MethodId} {args : Array Value} {below : List Frame} {meth : Method} {c : Code} {A : Nat → Prop} (l : Launch) (dC : Nat → ClassId) (dI : Nat → Nat → Nat) (Q : RQ) (N : Nat) (R : RS) (hx : p.tables.exec = Jvm.exec) (hb : c.code = cX12_entry) (hr : meth.sig.returnType = none) (hml : c.maxLocals = 4) (hown : s.vm.findClass RX12 = some m.cls) (hts : ∀ w ∈ wzX12_entry, w.before args s = true) (hlocks : meth.locks = false) (hZ : zAMB s) (hA : ∀ q : Nat, s.heap.size ≤ q → A q) (hK : va_K (dC, dI) vwCl (rT Q) s) : ∀ (σ : RS) (x1 : Int32) (H : Heap) (locs : List Loc) (ls : Array Slot), f_X12_entry_85 N σ x1 = some R → va_P (dC, dI) vwCl (rW Q σ) H → va_D A (rW Q σ) → va_S A s.heap H locs → lv_has ls 4 [(0, .ref Q.h0), (1, .int x1)] → W p l e ({ frames := 1, cells := 0, slots := 0, locals := 60 }) s m args below meth c H locs 0 0 (MQ below (va_Qv (fun (_ : Unit) => True) (fun (_ : Unit) (t : State) => zPost dC dI A (rW Q R) (rT Q) t) A) args s 0 0 A) (F0 m 85 ls []) := by
  intro σ x1 H locs ls hf hP hD hS hl
  unfold f_X12_entry_85 at hf
  refine lv_aload_n hx hb dX12_entry_85 rfl (lv_at hl 0 rfl) ?_
  refine rG_67 hx hb hts i_X12_entry_X12 hown hK hP (hts (.fieldLink RX12 183 "StatementRules2Model" "fq" "[I") k_X12_entry_fieldLink_RX12_183_SRModel_fq_I) dX12_entry_86 ?_
  refine lv_iload_n hx hb dX12_entry_89 rfl (lv_at hl 1 rfl) ?_
  refine lv_aload_n hx hb dX12_entry_90 rfl (lv_at hl 0 rfl) ?_
  refine rG_24 (v := (σ.i 24)) hx hb hts i_X12_entry_X12 hown hK hP (hts (.fieldLink RX12 478 "StatementRules2Model" "entries" "I") k_X12_entry_fieldLink_RX12_478_SRModel_entries_I) dX12_entry_91 rfl ?_
  obtain ⟨b5, hf⟩ := hf_ite hf
  refine rS_67 hx hb hK hP hD hS b5 dX12_entry_94 (fun H locs hP hD hS => ?_)
  refine lv_aload_n hx hb dX12_entry_95 rfl (lv_at hl 0 rfl) ?_
  refine lv_dup hx hb dX12_entry_96 rfl ?_
  refine rG_24 (v := (σ.i 24)) hx hb hts i_X12_entry_X12 hown hK hP (hts (.fieldLink RX12 478 "StatementRules2Model" "entries" "I") k_X12_entry_fieldLink_RX12_478_SRModel_entries_I) dX12_entry_97 rfl ?_
  refine lv_iconst (v := 1) hx hb dX12_entry_100 (by decide) ?_
  refine lv_iadd hx hb dX12_entry_101 ?_
  refine rP_24 hx hb hts i_X12_entry_X12 hown hK hP hD hS (hts (.fieldLink RX12 478 "StatementRules2Model" "entries" "I") k_X12_entry_fieldLink_RX12_478_SRModel_entries_I) dX12_entry_102 (fun H locs hP hD hS => ?_)
  obtain rfl := Option.some.inj hf
  exact W.vret hx hb hr (fun t ht hW => ⟨⟨(), rfl, trivial, by rw [ht]; exact hP, va_K.moved hW.alike hK, hD⟩, hS.F ht⟩) hS.2.2 dX12_entry_105
set_option maxHeartbeats 4000000 in
set_option maxRecDepth 100000 in
theorem c_X12_entry (l : Launch) (dC : Nat → ClassId) (dI : Nat → Nat → Nat) (sz : Nat) (Q : RQ) (N : Nat) (σ : RS) (x1 : Int32) (x2 : Int32) (x3 : Int32) (R : RS) (hf : f_X12_entry N σ x1 x2 x3 = some R) : Met l yX12_entry wzX12_entry ({ frames := 1, cells := 0, slots := 0, locals := 60 }) (va_Pc [.ref Q.h0, .int x1, .int x2, .int x3] (zPre dC dI sz (rW Q σ) (rT Q))) (va_Qv (fun (_ : Unit) => True) (fun (_ : Unit) (t : State) => zPost dC dI (va_A (rW Q σ) sz) (rW Q R) (rT Q) t) (va_A (rW Q σ) sz)) 0 0 (va_A (rW Q σ) sz) := by
  refine Met.ofW (cc := cX12_entry) (maxL := 4) (ret := none) (by decide) rfl ?_
  intro p e s m args below meth c s₁ B hml hv
  obtain ⟨rfl, hsz, hZ, hP, hK, hD0⟩ := hv
  have hx := B.exec
  have hb := B.bytes
  have hr := B.returns
  have hts := atoms_spec (ws := wzX12_entry) B.pre
  have hown : s.vm.findClass RX12 = some m.cls := findClass_of_methodNamed B.named
  have hlocks := B.notSynchronized
  subst hsz
  have hD := hD0.self (sz := s.heap.size)
  generalize hAe : va_A (rW Q σ) s.heap.size = A at hD ⊢
  have hA : ∀ q : Nat, s.heap.size ≤ q → A q := fun q h => by rw [← hAe]; exact Or.inr h
  have hS : va_S A s.heap s.heap [] := va_S.rf
  have hl := lv_entry ([.ref Q.h0, .int x1, .int x2, .int x3]) (n := 4) (Nat.le_of_ble_eq_true rfl)
  rw [lg_entry_eq]
  generalize (lg_sl ([.ref Q.h0, .int x1, .int x2, .int x3]) ++ List.replicate (4 - (lg_sl ([.ref Q.h0, .int x1, .int x2, .int x3])).length) Slot.unset).toArray = ls at hl ⊢
  have hl : lv_has ls 4 [(0, .ref Q.h0), (1, .int x1), (2, .int x2), (3, .int x3)] := hl
  unfold f_X12_entry at hf
  refine lv_aload_n hx hb dX12_entry_0 rfl (lv_at hl 0 rfl) ?_
  refine rG_25 hx hb hts i_X12_entry_X12 hown hK hP (hts (.fieldLink RX12 93 "StatementRules2Model" "entryValue" "[I") k_X12_entry_fieldLink_RX12_93_SRModel_entryValue_I) dX12_entry_1 ?_
  refine lv_aload_n hx hb dX12_entry_4 rfl (lv_at hl 0 rfl) ?_
  refine rG_24 (v := (σ.i 24)) hx hb hts i_X12_entry_X12 hown hK hP (hts (.fieldLink RX12 478 "StatementRules2Model" "entries" "I") k_X12_entry_fieldLink_RX12_478_SRModel_entries_I) dX12_entry_5 rfl ?_
  refine lv_iload_n hx hb dX12_entry_8 rfl (lv_at hl 2 rfl) ?_
  obtain ⟨b1, hf⟩ := hf_ite hf
  refine rS_25 hx hb hK hP hD hS b1 dX12_entry_9 (fun H locs hP hD hS => ?_)
  refine lv_aload_n hx hb dX12_entry_10 rfl (lv_at hl 0 rfl) ?_
  refine rG_26 hx hb hts i_X12_entry_X12 hown hK hP (hts (.fieldLink RX12 96 "StatementRules2Model" "entryAt" "[I") k_X12_entry_fieldLink_RX12_96_SRModel_entryAt_I) dX12_entry_11 ?_
  refine lv_aload_n hx hb dX12_entry_14 rfl (lv_at hl 0 rfl) ?_
  refine rG_24 (v := (σ.i 24)) hx hb hts i_X12_entry_X12 hown hK hP (hts (.fieldLink RX12 478 "StatementRules2Model" "entries" "I") k_X12_entry_fieldLink_RX12_478_SRModel_entries_I) dX12_entry_15 rfl ?_
  refine lv_aload_n hx hb dX12_entry_18 rfl (lv_at hl 0 rfl) ?_
  refine rG_20 (v := (σ.i 20)) hx hb hts i_X12_entry_X12 hown hK hP (hts (.fieldLink RX12 358 "StatementRules2Model" "codes" "I") k_X12_entry_fieldLink_RX12_358_SRModel_codes_I) dX12_entry_19 rfl ?_
  refine rS_26 hx hb hK hP hD hS b1 dX12_entry_22 (fun H locs hP hD hS => ?_)
  refine lv_aload_n hx hb dX12_entry_23 rfl (lv_at hl 0 rfl) ?_
  refine rG_27 hx hb hts i_X12_entry_X12 hown hK hP (hts (.fieldLink RX12 99 "StatementRules2Model" "entryNext" "[I") k_X12_entry_fieldLink_RX12_99_SRModel_entryNext_I) dX12_entry_24 ?_
  refine lv_aload_n hx hb dX12_entry_27 rfl (lv_at hl 0 rfl) ?_
  refine rG_24 (v := (σ.i 24)) hx hb hts i_X12_entry_X12 hown hK hP (hts (.fieldLink RX12 478 "StatementRules2Model" "entries" "I") k_X12_entry_fieldLink_RX12_478_SRModel_entries_I) dX12_entry_28 rfl ?_
  refine lv_iconst (v := (-1)) hx hb dX12_entry_31 (by decide) ?_
  refine rS_27 hx hb hK hP hD hS b1 dX12_entry_32 (fun H locs hP hD hS => ?_)
  refine lv_aload_n hx hb dX12_entry_33 rfl (lv_at hl 0 rfl) ?_
  refine rG_28 hx hb hts i_X12_entry_X12 hown hK hP (hts (.fieldLink RX12 102 "StatementRules2Model" "entryElse" "[Z") k_X12_entry_fieldLink_RX12_102_SRModel_entryElse_Z) dX12_entry_34 ?_
  refine lv_aload_n hx hb dX12_entry_37 rfl (lv_at hl 0 rfl) ?_
  refine rG_24 (v := (σ.i 24)) hx hb hts i_X12_entry_X12 hown hK hP (hts (.fieldLink RX12 478 "StatementRules2Model" "entries" "I") k_X12_entry_fieldLink_RX12_478_SRModel_entries_I) dX12_entry_38 rfl ?_
  refine lv_iload_n hx hb dX12_entry_41 rfl (lv_at hl 3 rfl) ?_
  refine rS_28 (v := (vp_nar .boolean x3)) hx hb hK hP hD hS b1 dX12_entry_42 rfl (fun H locs hP hD hS => ?_)
  refine lv_aload_n hx hb dX12_entry_43 rfl (lv_at hl 0 rfl) ?_
  refine rG_67 hx hb hts i_X12_entry_X12 hown hK hP (hts (.fieldLink RX12 183 "StatementRules2Model" "fq" "[I") k_X12_entry_fieldLink_RX12_183_SRModel_fq_I) dX12_entry_44 ?_
  refine lv_iload_n hx hb dX12_entry_47 rfl (lv_at hl 1 rfl) ?_
  obtain ⟨b2, hf⟩ := hf_ite hf
  refine rL_67 (v := (σ.a 67 ((x1 : Int32).toNatClampNeg))) hx hb hK hP b2 dX12_entry_48 rfl ?_
  refine lv_if_ge (tgt := 70) hx hb dX12_entry_49 (by decide) (fun c3 => ?_) (fun c3 => ?_)
  ·
    replace hf := (if_pos c3).symm.trans hf
    refine lv_aload_n hx hb dX12_entry_70 rfl (lv_at hl 0 rfl) ?_
    refine rG_27 hx hb hts i_X12_entry_X12 hown hK hP (hts (.fieldLink RX12 99 "StatementRules2Model" "entryNext" "[I") k_X12_entry_fieldLink_RX12_99_SRModel_entryNext_I) dX12_entry_71 ?_
    refine lv_aload_n hx hb dX12_entry_74 rfl (lv_at hl 0 rfl) ?_
    refine rG_67 hx hb hts i_X12_entry_X12 hown hK hP (hts (.fieldLink RX12 183 "StatementRules2Model" "fq" "[I") k_X12_entry_fieldLink_RX12_183_SRModel_fq_I) dX12_entry_75 ?_
    refine lv_iload_n hx hb dX12_entry_78 rfl (lv_at hl 1 rfl) ?_
    refine rL_67 (v := (σ.a 67 ((x1 : Int32).toNatClampNeg))) hx hb hK hP b2 dX12_entry_79 rfl ?_
    refine lv_aload_n hx hb dX12_entry_80 rfl (lv_at hl 0 rfl) ?_
    refine rG_24 (v := (σ.i 24)) hx hb hts i_X12_entry_X12 hown hK hP (hts (.fieldLink RX12 478 "StatementRules2Model" "entries" "I") k_X12_entry_fieldLink_RX12_478_SRModel_entries_I) dX12_entry_81 rfl ?_
    obtain ⟨b4, hf⟩ := hf_ite hf
    refine rS_27 hx hb hK hP hD hS b4 dX12_entry_84 (fun H locs hP hD hS => ?_)
    exact j_X12_entry_85 l dC dI Q N R hx hb hr hml hown hts hlocks hZ hA hK (RS.setA (RS.setA (RS.setA (RS.setA (RS.setA σ 25 (((σ.i 24) : Int32).toNatClampNeg) x2) 26 (((σ.i 24) : Int32).toNatClampNeg) (σ.i 20)) 27 (((σ.i 24) : Int32).toNatClampNeg) (-1)) 28 (((σ.i 24) : Int32).toNatClampNeg) (vp_nar .boolean x3)) 27 (((σ.a 67 ((x1 : Int32).toNatClampNeg)) : Int32).toNatClampNeg) (σ.i 24)) x1 _ _ _ hf hP hD hS (lv_sub hl [0, 1] rfl)
  ·
    replace hf := (if_neg c3).symm.trans hf
    refine lv_aload_n hx hb dX12_entry_52 rfl (lv_at hl 0 rfl) ?_
    refine rG_22 hx hb hts i_X12_entry_X12 hown hK hP (hts (.fieldLink RX12 87 "StatementRules2Model" "ix" "[I") k_X12_entry_fieldLink_RX12_87_SRModel_ix_I) dX12_entry_53 ?_
    refine lv_aload_n hx hb dX12_entry_56 rfl (lv_at hl 0 rfl) ?_
    refine rG_66 hx hb hts i_X12_entry_X12 hown hK hP (hts (.fieldLink RX12 180 "StatementRules2Model" "fp" "[I") k_X12_entry_fieldLink_RX12_180_SRModel_fp_I) dX12_entry_57 ?_
    refine lv_iload_n hx hb dX12_entry_60 rfl (lv_at hl 1 rfl) ?_
    refine rL_66 (v := (σ.a 66 ((x1 : Int32).toNatClampNeg))) hx hb hK hP b2 dX12_entry_61 rfl ?_
    refine lv_aload_n hx hb dX12_entry_62 rfl (lv_at hl 0 rfl) ?_
    refine rG_24 (v := (σ.i 24)) hx hb hts i_X12_entry_X12 hown hK hP (hts (.fieldLink RX12 478 "StatementRules2Model" "entries" "I") k_X12_entry_fieldLink_RX12_478_SRModel_entries_I) dX12_entry_63 rfl ?_
    obtain ⟨b6, hf⟩ := hf_ite hf
    refine rS_22 hx hb hK hP hD hS b6 dX12_entry_66 (fun H locs hP hD hS => ?_)
    refine lv_goto (tgt := 85) hx hb dX12_entry_67 (by decide) ?_
    exact j_X12_entry_85 l dC dI Q N R hx hb hr hml hown hts hlocks hZ hA hK (RS.setA (RS.setA (RS.setA (RS.setA (RS.setA σ 25 (((σ.i 24) : Int32).toNatClampNeg) x2) 26 (((σ.i 24) : Int32).toNatClampNeg) (σ.i 20)) 27 (((σ.i 24) : Int32).toNatClampNeg) (-1)) 28 (((σ.i 24) : Int32).toNatClampNeg) (vp_nar .boolean x3)) 22 (((σ.a 66 ((x1 : Int32).toNatClampNeg)) : Int32).toNatClampNeg) (σ.i 24)) x1 _ _ _ hf hP hD hS (lv_sub hl [0, 1] rfl)
end
