theorem k_X12_forHead_fieldLink_RX12_291_SRModel_fault_I : Cond.fieldLink RX12 291 "StatementRules2Model" "fault" "I" ∈ wzX12_forHead := List.mem_cons_of_mem _ (List.mem_append_left _ (List.mem_of_getElem? (i := 0) rfl))
theorem i_X12_forHead_X12 : ∀ w ∈ wsX120, w ∈ wzX12_forHead := fun _ h => List.mem_cons_of_mem _ (List.mem_append_right _ (List.mem_append_left _ (h)))
theorem k_X12_forHead_fieldLink_RX12_307_SRModel_tok_I : Cond.fieldLink RX12 307 "StatementRules2Model" "tok" "I" ∈ wzX12_forHead := List.mem_cons_of_mem _ (List.mem_append_left _ (List.mem_of_getElem? (i := 1) rfl))
theorem k_X12_forHead_fieldLink_RX12_177_SRModel_fs_I : Cond.fieldLink RX12 177 "StatementRules2Model" "fs" "[I" ∈ wzX12_forHead := List.mem_cons_of_mem _ (List.mem_append_left _ (List.mem_of_getElem? (i := 2) rfl))
theorem k_X12_forHead_fieldLink_RX12_180_SRModel_fp_I : Cond.fieldLink RX12 180 "StatementRules2Model" "fp" "[I" ∈ wzX12_forHead := List.mem_cons_of_mem _ (List.mem_append_left _ (List.mem_of_getElem? (i := 3) rfl))
theorem k_X12_forHead_fieldLink_RX12_327_SRModel_name_J : Cond.fieldLink RX12 327 "StatementRules2Model" "name" "J" ∈ wzX12_forHead := List.mem_cons_of_mem _ (List.mem_append_left _ (List.mem_of_getElem? (i := 4) rfl))
theorem k_X12_forHead_fieldLink_RX12_304_SRModel_from_I : Cond.fieldLink RX12 304 "StatementRules2Model" "from" "I" ∈ wzX12_forHead := List.mem_cons_of_mem _ (List.mem_append_left _ (List.mem_of_getElem? (i := 5) rfl))
theorem k_X12_forHead_fieldLink_RX12_186_SRModel_fr_I : Cond.fieldLink RX12 186 "StatementRules2Model" "fr" "[I" ∈ wzX12_forHead := List.mem_cons_of_mem _ (List.mem_append_left _ (List.mem_of_getElem? (i := 6) rfl))
set_option maxHeartbeats 4000000 in
set_option maxRecDepth 100000 in
theorem j_X12_forHead_231 {p : Program} {e : Env} {s : State} {m : MethodId} {args : Array Value} {below : List Frame} {meth : Method} {c : Code} {A : Nat → Prop} (l : Launch) (dC : Nat → ClassId) (dI : Nat → Nat → Nat) (Q : RQ) (N : Nat) (R : RS) (hx : p.tables.exec = Jvm.exec) (hb : c.code = cX12_forHead) (hr : meth.sig.returnType = none) (hml : c.maxLocals = 3) (hown : s.vm.findClass RX12 = some m.cls) (hts : ∀ w ∈ wzX12_forHead, w.before args s = true) (hlocks : meth.locks = false) (hZ : zAMB s) (hA : ∀ q : Nat, s.heap.size ≤ q → A q) (hK : va_K (dC, dI) vwCl (rT Q) s) : ∀ (σ : RS) (x1 : Int32) (H : Heap) (locs : List Loc) (ls : Array Slot), f_X12_forHead_231 N σ x1 = some R → va_P (dC, dI) vwCl (rW Q σ) H → va_D A (rW Q σ) → va_S A s.heap H locs → lv_has ls 3 [(0, .ref Q.h0), (1, .int x1)] → W p l e ({ frames := 5, cells := 0, slots := 0, locals := 300 }) s m args below meth c H locs 0 0 (MQ below (va_Qv (fun (_ : Unit) => True) (fun (_ : Unit) (t : State) => zPost dC dI A (rW Q R) (rT Q) t) A) args s 0 0 A) (F0 m 231 ls []) := by
  intro σ x1 H locs ls hf hP hD hS hl
  unfold f_X12_forHead_231 at hf
  refine lv_aload_n hx hb dX12_forHead_231 rfl (lv_at hl 0 rfl) ?_
  refine rG_65 hx hb hts i_X12_forHead_X12 hown hK hP (hts (.fieldLink RX12 177 "StatementRules2Model" "fs" "[I") k_X12_forHead_fieldLink_RX12_177_SRModel_fs_I) dX12_forHead_232 ?_
  refine lv_iload_n hx hb dX12_forHead_235 rfl (lv_at hl 1 rfl) ?_
  refine lv_iconst (v := 3) hx hb dX12_forHead_236 (by decide) ?_
  obtain ⟨b8, hf⟩ := hf_ite hf
  refine rS_65 hx hb hK hP hD hS b8 dX12_forHead_237 (fun H locs hP hD hS => ?_)
  obtain rfl := Option.some.inj hf
  exact W.vret hx hb hr (fun t ht hW => ⟨⟨(), rfl, trivial, by rw [ht]; exact hP, va_K.moved hW.alike hK, hD⟩, hS.F ht⟩) hS.2.2 dX12_forHead_238
set_option maxHeartbeats 4000000 in
set_option maxRecDepth 100000 in
theorem j_X12_forHead_196 {p : Program} {e : Env} {s : State} {m : MethodId} {args : Array Value} {below : List Frame} {meth : Method} {c : Code} {A : Nat → Prop} (l : Launch) (dC : Nat → ClassId) (dI : Nat → Nat → Nat) (Q : RQ) (N : Nat) (R : RS) (hx : p.tables.exec = Jvm.exec) (hb : c.code = cX12_forHead) (hr : meth.sig.returnType = none) (hml : c.maxLocals = 3) (hown : s.vm.findClass RX12 = some m.cls) (hts : ∀ w ∈ wzX12_forHead, w.before args s = true) (hlocks : meth.locks = false) (hZ : zAMB s) (hA : ∀ q : Nat, s.heap.size ≤ q → A q) (hK : va_K (dC, dI) vwCl (rT Q) s) : ∀ (σ : RS) (H : Heap) (locs : List Loc) (ls : Array Slot), f_X12_forHead_196 N σ = some R → va_P (dC, dI) vwCl (rW Q σ) H → va_D A (rW Q σ) → va_S A s.heap H locs → lv_has ls 3 [(0, .ref Q.h0)] → W p l e ({ frames := 5, cells := 0, slots := 0, locals := 300 }) s m args below meth c H locs 0 0 (MQ below (va_Qv (fun (_ : Unit) => True) (fun (_ : Unit) (t : State) => zPost dC dI A (rW Q R) (rT Q) t) A) args s 0 0 A) (F0 m 196 ls []) := by
  intro σ  H locs ls hf hP hD hS hl
  unfold f_X12_forHead_196 at hf
  refine lv_aload_n hx hb dX12_forHead_196 rfl (lv_at hl 0 rfl) ?_
  obtain ⟨p21, hcp21, hf⟩ := hf_bind hf
  have hFc := r_free hD hS hA
  refine va_callv (va_runV (As := []) (rest := []) ⟨hx, hb, hml, hown, hts⟩ (c_X12_next l dC dI _ Q N σ p21 hcp21) (cwV 0 hts hX12_forHead_X12_next_v345 rfl rfl rfl (by decide +kernel) ⟨Nat.le_of_ble_eq_true rfl, Nat.le_of_ble_eq_true rfl⟩) ⟨zPre.blind, va_recv hK hP (ci := 11) (q0 := 0) rfl rfl, zPre.go hZ hP hK hD⟩ rfl rfl hl.1 rfl (lv_room (Nat.le_of_ble_eq_true rfl)) dX12_forHead_197 ⟨Nat.le_of_ble_eq_true rfl, Nat.le_of_ble_eq_true rfl⟩) hS (fun q _ h => hFc q h) hFc (fun u9 t9 H1 locs ht hvm hw hB hz1 hk1 hS => ?_)
  obtain ⟨hP, hK1, hD1⟩ := hB
  rw [ht] at hP
  have hD := hD1.weaken (fun _ _ _ h => hFc _ h)
  generalize H1 = H at hP hS ⊢
  refine lv_aload_n hx hb dX12_forHead_200 rfl (lv_at hl 0 rfl) ?_
  refine lv_iconst (v := 2) hx hb dX12_forHead_201 (by decide) ?_
  refine lv_bipush (v := 16) hx hb dX12_forHead_202 (by decide) ?_
  obtain ⟨p23, hcp23, hf⟩ := hf_bind hf
  have hFc := r_free hD hS hA
  refine va_callv (va_runV (As := [.int 2, .int 16]) (rest := []) ⟨hx, hb, hml, hown, hts⟩ (c_X12_then l dC dI _ Q N p21 2 16 p23 hcp23) (cwV 2 hts hX12_forHead_X12_then_v393 rfl rfl rfl (by decide +kernel) ⟨Nat.le_of_ble_eq_true rfl, Nat.le_of_ble_eq_true rfl⟩) ⟨zPre.blind, va_recv hK hP (ci := 11) (q0 := 0) rfl rfl, zPre.go hZ hP hK hD⟩ rfl rfl hl.1 rfl (lv_room (Nat.le_of_ble_eq_true rfl)) dX12_forHead_204 ⟨Nat.le_of_ble_eq_true rfl, Nat.le_of_ble_eq_true rfl⟩) hS (fun q _ h => hFc q h) hFc (fun u9 t9 H1 locs ht hvm hw hB hz1 hk1 hS => ?_)
  obtain ⟨hP, hK1, hD1⟩ := hB
  rw [ht] at hP
  have hD := hD1.weaken (fun _ _ _ h => hFc _ h)
  generalize H1 = H at hP hS ⊢
  refine lv_goto (tgt := 238) hx hb dX12_forHead_207 (by decide) ?_
  obtain rfl := Option.some.inj hf
  exact W.vret hx hb hr (fun t ht hW => ⟨⟨(), rfl, trivial, by rw [ht]; exact hP, va_K.moved hW.alike hK, hD⟩, hS.F ht⟩) hS.2.2 dX12_forHead_238
set_option maxHeartbeats 4000000 in
set_option maxRecDepth 100000 in
theorem j_X12_forHead_142 {p : Program} {e : Env} {s : State} {m : MethodId} {args : Array Value} {below : List Frame} {meth : Method} {c : Code} {A : Nat → Prop} (l : Launch) (dC : Nat → ClassId) (dI : Nat → Nat → Nat) (Q : RQ) (N : Nat) (R : RS) (hx : p.tables.exec = Jvm.exec) (hb : c.code = cX12_forHead) (hr : meth.sig.returnType = none) (hml : c.maxLocals = 3) (hown : s.vm.findClass RX12 = some m.cls) (hts : ∀ w ∈ wzX12_forHead, w.before args s = true) (hlocks : meth.locks = false) (hZ : zAMB s) (hA : ∀ q : Nat, s.heap.size ≤ q → A q) (hK : va_K (dC, dI) vwCl (rT Q) s) : ∀ (σ : RS) (H : Heap) (locs : List Loc) (ls : Array Slot), f_X12_forHead_142 N σ = some R → va_P (dC, dI) vwCl (rW Q σ) H → va_D A (rW Q σ) → va_S A s.heap H locs → lv_has ls 3 [] → W p l e ({ frames := 5, cells := 0, slots := 0, locals := 300 }) s m args below meth c H locs 0 0 (MQ below (va_Qv (fun (_ : Unit) => True) (fun (_ : Unit) (t : State) => zPost dC dI A (rW Q R) (rT Q) t) A) args s 0 0 A) (F0 m 142 ls []) := by
  intro σ  H locs ls hf hP hD hS hl
  unfold f_X12_forHead_142 at hf
  refine lv_goto (tgt := 238) hx hb dX12_forHead_142 (by decide) ?_
  obtain rfl := Option.some.inj hf
  exact W.vret hx hb hr (fun t ht hW => ⟨⟨(), rfl, trivial, by rw [ht]; exact hP, va_K.moved hW.alike hK, hD⟩, hS.F ht⟩) hS.2.2 dX12_forHead_238
set_option maxHeartbeats 4000000 in
set_option maxRecDepth 100000 in
theorem j_X12_forHead_76 {p : Program} {e : Env} {s : State} {m : MethodId} {args : Array Value} {below : List Frame} {meth : Method} {c : Code} {A : Nat → Prop} (l : Launch) (dC : Nat → ClassId) (dI : Nat → Nat → Nat) (Q : RQ) (N : Nat) (R : RS) (hx : p.tables.exec = Jvm.exec) (hb : c.code = cX12_forHead) (hr : meth.sig.returnType = none) (hml : c.maxLocals = 3) (hown : s.vm.findClass RX12 = some m.cls) (hts : ∀ w ∈ wzX12_forHead, w.before args s = true) (hlocks : meth.locks = false) (hZ : zAMB s) (hA : ∀ q : Nat, s.heap.size ≤ q → A q) (hK : va_K (dC, dI) vwCl (rT Q) s) : ∀ (σ : RS) (x1 : Int32) (x2 : Int32) (H : Heap) (locs : List Loc) (ls : Array Slot), f_X12_forHead_76 N σ x1 x2 = some R → va_P (dC, dI) vwCl (rW Q σ) H → va_D A (rW Q σ) → va_S A s.heap H locs → lv_has ls 3 [(0, .ref Q.h0), (1, .int x1), (2, .int x2)] → W p l e ({ frames := 5, cells := 0, slots := 0, locals := 300 }) s m args below meth c H locs 0 0 (MQ below (va_Qv (fun (_ : Unit) => True) (fun (_ : Unit) (t : State) => zPost dC dI A (rW Q R) (rT Q) t) A) args s 0 0 A) (F0 m 76 ls []) := by
  intro σ x1 x2 H locs ls hf hP hD hS hl
  unfold f_X12_forHead_76 at hf
  refine lv_aload_n hx hb dX12_forHead_76 rfl (lv_at hl 0 rfl) ?_
  obtain ⟨p38, hcp38, hf⟩ := hf_bind hf
  have hFc := r_free hD hS hA
  refine va_callv (va_runV (As := []) (rest := []) ⟨hx, hb, hml, hown, hts⟩ (c_X12_next l dC dI _ Q N σ p38 hcp38) (cwV 0 hts hX12_forHead_X12_next_v345 rfl rfl rfl (by decide +kernel) ⟨Nat.le_of_ble_eq_true rfl, Nat.le_of_ble_eq_true rfl⟩) ⟨zPre.blind, va_recv hK hP (ci := 11) (q0 := 0) rfl rfl, zPre.go hZ hP hK hD⟩ rfl rfl hl.1 rfl (lv_room (Nat.le_of_ble_eq_true rfl)) dX12_forHead_77 ⟨Nat.le_of_ble_eq_true rfl, Nat.le_of_ble_eq_true rfl⟩) hS (fun q _ h => hFc q h) hFc (fun u9 t9 H1 locs ht hvm hw hB hz1 hk1 hS => ?_)
  obtain ⟨hP, hK1, hD1⟩ := hB
  rw [ht] at hP
  have hD := hD1.weaken (fun _ _ _ h => hFc _ h)
  generalize H1 = H at hP hS ⊢
  refine lv_iload_n hx hb dX12_forHead_80 rfl (lv_at hl 2 rfl) ?_
  refine lv_if_ne (tgt := 94) hx hb dX12_forHead_81 (by decide) (fun c40 => ?_) (fun c40 => ?_)
  ·
    replace hf := (if_neg c40).symm.trans hf
    refine lv_aload_n hx hb dX12_forHead_94 rfl (lv_at hl 0 rfl) ?_
    refine rG_10 (v := (p38.i 10)) hx hb hts i_X12_forHead_X12 hown hK hP (hts (.fieldLink RX12 307 "StatementRules2Model" "tok" "I") k_X12_forHead_fieldLink_RX12_307_SRModel_tok_I) dX12_forHead_95 rfl ?_
    refine lv_sipush (v := 434) hx hb dX12_forHead_98 (by decide) ?_
    refine lv_icmp_ne (tgt := 127) hx hb dX12_forHead_101 (by decide) (fun c41 => ?_) (fun c41 => ?_)
    ·
      replace hf := (if_neg c41).symm.trans hf
      refine lv_aload_n hx hb dX12_forHead_127 rfl (lv_at hl 0 rfl) ?_
      refine rG_68 hx hb hts i_X12_forHead_X12 hown hK hP (hts (.fieldLink RX12 186 "StatementRules2Model" "fr" "[I") k_X12_forHead_fieldLink_RX12_186_SRModel_fr_I) dX12_forHead_128 ?_
      refine lv_iload_n hx hb dX12_forHead_131 rfl (lv_at hl 1 rfl) ?_
      refine lv_iconst (v := 0) hx hb dX12_forHead_132 (by decide) ?_
      obtain ⟨b42, hf⟩ := hf_ite hf
      refine rS_68 hx hb hK hP hD hS b42 dX12_forHead_133 (fun H locs hP hD hS => ?_)
      refine lv_aload_n hx hb dX12_forHead_134 rfl (lv_at hl 0 rfl) ?_
      refine lv_bipush (v := 10) hx hb dX12_forHead_135 (by decide) ?_
      refine lv_bipush (v := 16) hx hb dX12_forHead_137 (by decide) ?_
      obtain ⟨p43, hcp43, hf⟩ := hf_bind hf
      have hFc := r_free hD hS hA
      refine va_callv (va_runV (As := [.int 10, .int 16]) (rest := []) ⟨hx, hb, hml, hown, hts⟩ (c_X12_then l dC dI _ Q N (RS.setA p38 68 ((x1 : Int32).toNatClampNeg) 0) 10 16 p43 hcp43) (cwV 2 hts hX12_forHead_X12_then_v393 rfl rfl rfl (by decide +kernel) ⟨Nat.le_of_ble_eq_true rfl, Nat.le_of_ble_eq_true rfl⟩) ⟨zPre.blind, va_recv hK hP (ci := 11) (q0 := 0) rfl rfl, zPre.go hZ hP hK hD⟩ rfl rfl hl.1 rfl (lv_room (Nat.le_of_ble_eq_true rfl)) dX12_forHead_139 ⟨Nat.le_of_ble_eq_true rfl, Nat.le_of_ble_eq_true rfl⟩) hS (fun q _ h => hFc q h) hFc (fun u9 t9 H1 locs ht hvm hw hB hz1 hk1 hS => ?_)
      obtain ⟨hP, hK1, hD1⟩ := hB
      rw [ht] at hP
      have hD := hD1.weaken (fun _ _ _ h => hFc _ h)
      generalize H1 = H at hP hS ⊢
      exact j_X12_forHead_142 l dC dI Q N R hx hb hr hml hown hts hlocks hZ hA hK p43 _ _ _ hf hP hD hS (lv_sub hl [] rfl)
    ·
      replace hf := (if_pos c41).symm.trans hf
      refine lv_aload_n hx hb dX12_forHead_104 rfl (lv_at hl 0 rfl) ?_
      obtain ⟨p45, hcp45, hf⟩ := hf_bind hf
      have hFc := r_free hD hS hA
      refine va_callv (va_runV (As := []) (rest := []) ⟨hx, hb, hml, hown, hts⟩ (c_X12_next l dC dI _ Q N p38 p45 hcp45) (cwV 0 hts hX12_forHead_X12_next_v345 rfl rfl rfl (by decide +kernel) ⟨Nat.le_of_ble_eq_true rfl, Nat.le_of_ble_eq_true rfl⟩) ⟨zPre.blind, va_recv hK hP (ci := 11) (q0 := 0) rfl rfl, zPre.go hZ hP hK hD⟩ rfl rfl hl.1 rfl (lv_room (Nat.le_of_ble_eq_true rfl)) dX12_forHead_105 ⟨Nat.le_of_ble_eq_true rfl, Nat.le_of_ble_eq_true rfl⟩) hS (fun q _ h => hFc q h) hFc (fun u9 t9 H1 locs ht hvm hw hB hz1 hk1 hS => ?_)
      obtain ⟨hP, hK1, hD1⟩ := hB
      rw [ht] at hP
      have hD := hD1.weaken (fun _ _ _ h => hFc _ h)
      generalize H1 = H at hP hS ⊢
      refine lv_aload_n hx hb dX12_forHead_108 rfl (lv_at hl 0 rfl) ?_
      refine lv_bipush (v := 20) hx hb dX12_forHead_109 (by decide) ?_
      refine lv_iconst (v := 1) hx hb dX12_forHead_111 (by decide) ?_
      obtain ⟨p47, hcp47, hf⟩ := hf_bind hf
      have hFc := r_free hD hS hA
      refine va_calli (va_runV (As := [.int 20, .int 1]) (rest := []) ⟨hx, hb, hml, hown, hts⟩ (c_X12_emit l dC dI _ Q N p45 20 1 p47 hcp47) (cwV 2 hts hX12_forHead_X12_emit_v464 rfl rfl rfl (by decide +kernel) ⟨Nat.le_of_ble_eq_true rfl, Nat.le_of_ble_eq_true rfl⟩) ⟨zPre.blind, va_recv hK hP (ci := 11) (q0 := 0) rfl rfl, zPre.go hZ hP hK hD⟩ rfl rfl hl.1 rfl (lv_room (Nat.le_of_ble_eq_true rfl)) dX12_forHead_112 ⟨Nat.le_of_ble_eq_true rfl, Nat.le_of_ble_eq_true rfl⟩) hS (fun q _ h => hFc q h) hFc (fun r48 u9 t9 H1 locs ht hvm hw hB hz1 hk1 hS => ?_)
      obtain ⟨hP, hK1, hD1⟩ := hB
      rw [ht] at hP
      have hD := hD1.weaken (fun _ _ _ h => hFc _ h)
      generalize H1 = H at hP hS ⊢
      obtain rfl : r48 = p47.1 := hw
      refine lv_pop hx hb dX12_forHead_115 rfl ?_
      refine lv_aload_n hx hb dX12_forHead_116 rfl (lv_at hl 0 rfl) ?_
      refine rG_65 hx hb hts i_X12_forHead_X12 hown hK hP (hts (.fieldLink RX12 177 "StatementRules2Model" "fs" "[I") k_X12_forHead_fieldLink_RX12_177_SRModel_fs_I) dX12_forHead_117 ?_
      refine lv_iload_n hx hb dX12_forHead_120 rfl (lv_at hl 1 rfl) ?_
      refine lv_bipush (v := 12) hx hb dX12_forHead_121 (by decide) ?_
      obtain ⟨b49, hf⟩ := hf_ite hf
      refine rS_65 hx hb hK hP hD hS b49 dX12_forHead_123 (fun H locs hP hD hS => ?_)
      refine lv_goto (tgt := 142) hx hb dX12_forHead_124 (by decide) ?_
      exact j_X12_forHead_142 l dC dI Q N R hx hb hr hml hown hts hlocks hZ hA hK (RS.setA p47.2 65 ((x1 : Int32).toNatClampNeg) 12) _ _ _ hf hP hD hS (lv_sub hl [] rfl)
  ·
    replace hf := (if_pos c40).symm.trans hf
    refine lv_aload_n hx hb dX12_forHead_84 rfl (lv_at hl 0 rfl) ?_
    refine lv_iconst (v := 1) hx hb dX12_forHead_85 (by decide) ?_
    refine lv_bipush (v := 16) hx hb dX12_forHead_86 (by decide) ?_
    obtain ⟨p50, hcp50, hf⟩ := hf_bind hf
    have hFc := r_free hD hS hA
    refine va_callv (va_runV (As := [.int 1, .int 16]) (rest := []) ⟨hx, hb, hml, hown, hts⟩ (c_X12_then l dC dI _ Q N p38 1 16 p50 hcp50) (cwV 2 hts hX12_forHead_X12_then_v393 rfl rfl rfl (by decide +kernel) ⟨Nat.le_of_ble_eq_true rfl, Nat.le_of_ble_eq_true rfl⟩) ⟨zPre.blind, va_recv hK hP (ci := 11) (q0 := 0) rfl rfl, zPre.go hZ hP hK hD⟩ rfl rfl hl.1 rfl (lv_room (Nat.le_of_ble_eq_true rfl)) dX12_forHead_88 ⟨Nat.le_of_ble_eq_true rfl, Nat.le_of_ble_eq_true rfl⟩) hS (fun q _ h => hFc q h) hFc (fun u9 t9 H1 locs ht hvm hw hB hz1 hk1 hS => ?_)
    obtain ⟨hP, hK1, hD1⟩ := hB
    rw [ht] at hP
    have hD := hD1.weaken (fun _ _ _ h => hFc _ h)
    generalize H1 = H at hP hS ⊢
    refine lv_goto (tgt := 142) hx hb dX12_forHead_91 (by decide) ?_
    exact j_X12_forHead_142 l dC dI Q N R hx hb hr hml hown hts hlocks hZ hA hK p50 _ _ _ hf hP hD hS (lv_sub hl [] rfl)
set_option maxHeartbeats 4000000 in
set_option maxRecDepth 100000 in
theorem j_X12_forHead_61 {p : Program} {e : Env} {s : State} {m : MethodId} {args : Array Value} {below : List Frame} {meth : Method} {c : Code} {A : Nat → Prop} (l : Launch) (dC : Nat → ClassId) (dI : Nat → Nat → Nat) (Q : RQ) (N : Nat) (R : RS) (hx : p.tables.exec = Jvm.exec) (hb : c.code = cX12_forHead) (hr : meth.sig.returnType = none) (hml : c.maxLocals = 3) (hown : s.vm.findClass RX12 = some m.cls) (hts : ∀ w ∈ wzX12_forHead, w.before args s = true) (hlocks : meth.locks = false) (hZ : zAMB s) (hA : ∀ q : Nat, s.heap.size ≤ q → A q) (hK : va_K (dC, dI) vwCl (rT Q) s) : ∀ (σ : RS) (x1 : Int32) (H : Heap) (locs : List Loc) (ls : Array Slot), f_X12_forHead_61 N σ x1 = some R → va_P (dC, dI) vwCl (rW Q σ) H → va_D A (rW Q σ) → va_S A s.heap H locs → lv_has ls 3 [(0, .ref Q.h0), (1, .int x1)] → W p l e ({ frames := 5, cells := 0, slots := 0, locals := 300 }) s m args below meth c H locs 0 0 (MQ below (va_Qv (fun (_ : Unit) => True) (fun (_ : Unit) (t : State) => zPost dC dI A (rW Q R) (rT Q) t) A) args s 0 0 A) (F0 m 61 ls []) := by
  intro σ x1 H locs ls hf hP hD hS hl
  unfold f_X12_forHead_61 at hf
  refine lv_aload_n hx hb dX12_forHead_61 rfl (lv_at hl 0 rfl) ?_
  refine rG_10 (v := (σ.i 10)) hx hb hts i_X12_forHead_X12 hown hK hP (hts (.fieldLink RX12 307 "StatementRules2Model" "tok" "I") k_X12_forHead_fieldLink_RX12_307_SRModel_tok_I) dX12_forHead_62 rfl ?_
  refine lv_bipush (v := 58) hx hb dX12_forHead_65 (by decide) ?_
  refine lv_icmp_ne (tgt := 74) hx hb dX12_forHead_67 (by decide) (fun c37 => ?_) (fun c37 => ?_)
  ·
    replace hf := (if_neg c37).symm.trans hf
    refine lv_iconst (v := 0) hx hb dX12_forHead_74 (by decide) ?_
    refine lv_istore_n (lv' := [(2, .int 0), (0, .ref Q.h0), (1, .int x1)]) hx hb dX12_forHead_75 rfl hl (by decide) rfl (fun ls hl => ?_)
    exact j_X12_forHead_76 l dC dI Q N R hx hb hr hml hown hts hlocks hZ hA hK σ x1 0 _ _ _ hf hP hD hS (lv_sub hl [1, 2, 0] rfl)
  ·
    replace hf := (if_pos c37).symm.trans hf
    refine lv_iconst (v := 1) hx hb dX12_forHead_70 (by decide) ?_
    refine lv_goto (tgt := 75) hx hb dX12_forHead_71 (by decide) ?_
    refine lv_istore_n (lv' := [(2, .int 1), (0, .ref Q.h0), (1, .int x1)]) hx hb dX12_forHead_75 rfl hl (by decide) rfl (fun ls hl => ?_)
    exact j_X12_forHead_76 l dC dI Q N R hx hb hr hml hown hts hlocks hZ hA hK σ x1 1 _ _ _ hf hP hD hS (lv_sub hl [1, 2, 0] rfl)
set_option maxHeartbeats 4000000 in
set_option maxRecDepth 100000 in
theorem c_X12_forHead (l : Launch) (dC : Nat → ClassId) (dI : Nat → Nat → Nat) (sz : Nat) (Q : RQ) (N : Nat) (σ : RS) (x1 : Int32) (R : RS) (hf : f_X12_forHead N σ x1 = some R) : Met l yX12_forHead wzX12_forHead ({ frames := 5, cells := 0, slots := 0, locals := 300 }) (va_Pc [.ref Q.h0, .int x1] (zPre dC dI sz (rW Q σ) (rT Q))) (va_Qv (fun (_ : Unit) => True) (fun (_ : Unit) (t : State) => zPost dC dI (va_A (rW Q σ) sz) (rW Q R) (rT Q) t) (va_A (rW Q σ) sz)) 0 0 (va_A (rW Q σ) sz) := by
  refine Met.ofW (cc := cX12_forHead) (maxL := 3) (ret := none) (by decide) rfl ?_
  intro p e s m args below meth c s₁ B hml hv
  obtain ⟨rfl, hsz, hZ, hP, hK, hD0⟩ := hv
  have hx := B.exec
  have hb := B.bytes
  have hr := B.returns
  have hts := atoms_spec (ws := wzX12_forHead) B.pre
  have hown : s.vm.findClass RX12 = some m.cls := findClass_of_methodNamed B.named
  have hlocks := B.notSynchronized
  subst hsz
  have hD := hD0.self (sz := s.heap.size)
  generalize hAe : va_A (rW Q σ) s.heap.size = A at hD ⊢
  have hA : ∀ q : Nat, s.heap.size ≤ q → A q := fun q h => by rw [← hAe]; exact Or.inr h
  have hS : va_S A s.heap s.heap [] := va_S.rf
  have hl := lv_entry ([.ref Q.h0, .int x1]) (n := 3) (Nat.le_of_ble_eq_true rfl)
  rw [lg_entry_eq]
  generalize (lg_sl ([.ref Q.h0, .int x1]) ++ List.replicate (3 - (lg_sl ([.ref Q.h0, .int x1])).length) Slot.unset).toArray = ls at hl ⊢
  have hl : lv_has ls 3 [(0, .ref Q.h0), (1, .int x1)] := hl
  unfold f_X12_forHead at hf
  refine lv_aload_n hx hb dX12_forHead_0 rfl (lv_at hl 0 rfl) ?_
  refine rG_15 (v := (σ.i 15)) hx hb hts i_X12_forHead_X12 hown hK hP (hts (.fieldLink RX12 291 "StatementRules2Model" "fault" "I") k_X12_forHead_fieldLink_RX12_291_SRModel_fault_I) dX12_forHead_1 rfl ?_
  refine lv_if_eq (tgt := 8) hx hb dX12_forHead_4 (by decide) (fun c1 => ?_) (fun c1 => ?_)
  ·
    replace hf := (if_pos c1).symm.trans hf
    refine lv_aload_n hx hb dX12_forHead_8 rfl (lv_at hl 0 rfl) ?_
    refine rG_10 (v := (σ.i 10)) hx hb hts i_X12_forHead_X12 hown hK hP (hts (.fieldLink RX12 307 "StatementRules2Model" "tok" "I") k_X12_forHead_fieldLink_RX12_307_SRModel_tok_I) dX12_forHead_9 rfl ?_
    refine lv_sipush (v := 410) hx hb dX12_forHead_12 (by decide) ?_
    refine lv_icmp_ne (tgt := 145) hx hb dX12_forHead_15 (by decide) (fun c2 => ?_) (fun c2 => ?_)
    ·
      replace hf := (if_neg c2).symm.trans hf
      refine lv_aload_n hx hb dX12_forHead_145 rfl (lv_at hl 0 rfl) ?_
      refine rG_10 (v := (σ.i 10)) hx hb hts i_X12_forHead_X12 hown hK hP (hts (.fieldLink RX12 307 "StatementRules2Model" "tok" "I") k_X12_forHead_fieldLink_RX12_307_SRModel_tok_I) dX12_forHead_146 rfl ?_
      refine lv_iconst (v := 2) hx hb dX12_forHead_149 (by decide) ?_
      refine lv_icmp_ne (tgt := 210) hx hb dX12_forHead_150 (by decide) (fun c3 => ?_) (fun c3 => ?_)
      ·
        replace hf := (if_neg c3).symm.trans hf
        refine lv_aload_n hx hb dX12_forHead_210 rfl (lv_at hl 0 rfl) ?_
        refine lv_aload_n hx hb dX12_forHead_211 rfl (lv_at hl 0 rfl) ?_
        refine rG_10 (v := (σ.i 10)) hx hb hts i_X12_forHead_X12 hown hK hP (hts (.fieldLink RX12 307 "StatementRules2Model" "tok" "I") k_X12_forHead_fieldLink_RX12_307_SRModel_tok_I) dX12_forHead_212 rfl ?_
        refine lv_bipush (v := 59) hx hb dX12_forHead_215 (by decide) ?_
        refine lv_icmp_ne (tgt := 224) hx hb dX12_forHead_217 (by decide) (fun c4 => ?_) (fun c4 => ?_)
        ·
          replace hf := (if_neg c4).symm.trans hf
          refine lv_iconst (v := 0) hx hb dX12_forHead_224 (by decide) ?_
          obtain ⟨p5, hcp5, hf⟩ := hf_bind hf
          have hFc := r_free hD hS hA
          refine va_calli (va_runV (As := [.int 0]) (rest := []) ⟨hx, hb, hml, hown, hts⟩ (c_X12_can l dC dI _ Q N σ 0 p5 hcp5) (cwV 1 hts hX12_forHead_X12_can_v341 rfl rfl rfl (by decide +kernel) ⟨Nat.le_of_ble_eq_true rfl, Nat.le_of_ble_eq_true rfl⟩) ⟨zPre.blind, va_recv hK hP (ci := 11) (q0 := 0) rfl rfl, zPre.go hZ hP hK hD⟩ rfl rfl hl.1 rfl (lv_room (Nat.le_of_ble_eq_true rfl)) dX12_forHead_225 ⟨Nat.le_of_ble_eq_true rfl, Nat.le_of_ble_eq_true rfl⟩) hS (fun q _ h => hFc q h) hFc (fun r6 u9 t9 H1 locs ht hvm hw hB hz1 hk1 hS => ?_)
          obtain ⟨hP, hK1, hD1⟩ := hB
          rw [ht] at hP
          have hD := hD1.weaken (fun _ _ _ h => hFc _ h)
          generalize H1 = H at hP hS ⊢
          obtain rfl : r6 = p5.1 := hw
          refine lv_if_eq (tgt := 238) hx hb dX12_forHead_228 (by decide) (fun c7 => ?_) (fun c7 => ?_)
          ·
            replace hf := (if_pos c7).symm.trans hf
            obtain rfl := Option.some.inj hf
            exact W.vret hx hb hr (fun t ht hW => ⟨⟨(), rfl, trivial, by rw [ht]; exact hP, va_K.moved hW.alike hK, hD⟩, hS.F ht⟩) hS.2.2 dX12_forHead_238
          ·
            replace hf := (if_neg c7).symm.trans hf
            exact j_X12_forHead_231 l dC dI Q N R hx hb hr hml hown hts hlocks hZ hA hK p5.2 x1 _ _ _ hf hP hD hS (lv_sub hl [0, 1] rfl)
        ·
          replace hf := (if_pos c4).symm.trans hf
          refine lv_iconst (v := 1) hx hb dX12_forHead_220 (by decide) ?_
          refine lv_goto (tgt := 225) hx hb dX12_forHead_221 (by decide) ?_
          obtain ⟨p9, hcp9, hf⟩ := hf_bind hf
          have hFc := r_free hD hS hA
          refine va_calli (va_runV (As := [.int 1]) (rest := []) ⟨hx, hb, hml, hown, hts⟩ (c_X12_can l dC dI _ Q N σ 1 p9 hcp9) (cwV 1 hts hX12_forHead_X12_can_v341 rfl rfl rfl (by decide +kernel) ⟨Nat.le_of_ble_eq_true rfl, Nat.le_of_ble_eq_true rfl⟩) ⟨zPre.blind, va_recv hK hP (ci := 11) (q0 := 0) rfl rfl, zPre.go hZ hP hK hD⟩ rfl rfl hl.1 rfl (lv_room (Nat.le_of_ble_eq_true rfl)) dX12_forHead_225 ⟨Nat.le_of_ble_eq_true rfl, Nat.le_of_ble_eq_true rfl⟩) hS (fun q _ h => hFc q h) hFc (fun r10 u9 t9 H1 locs ht hvm hw hB hz1 hk1 hS => ?_)
          obtain ⟨hP, hK1, hD1⟩ := hB
          rw [ht] at hP
          have hD := hD1.weaken (fun _ _ _ h => hFc _ h)
          generalize H1 = H at hP hS ⊢
          obtain rfl : r10 = p9.1 := hw
          refine lv_if_eq (tgt := 238) hx hb dX12_forHead_228 (by decide) (fun c11 => ?_) (fun c11 => ?_)
          ·
            replace hf := (if_pos c11).symm.trans hf
            obtain rfl := Option.some.inj hf
            exact W.vret hx hb hr (fun t ht hW => ⟨⟨(), rfl, trivial, by rw [ht]; exact hP, va_K.moved hW.alike hK, hD⟩, hS.F ht⟩) hS.2.2 dX12_forHead_238
          ·
            replace hf := (if_neg c11).symm.trans hf
            exact j_X12_forHead_231 l dC dI Q N R hx hb hr hml hown hts hlocks hZ hA hK p9.2 x1 _ _ _ hf hP hD hS (lv_sub hl [0, 1] rfl)
      ·
        replace hf := (if_pos c3).symm.trans hf
        refine lv_aload_n hx hb dX12_forHead_153 rfl (lv_at hl 0 rfl) ?_
        refine rG_66 hx hb hts i_X12_forHead_X12 hown hK hP (hts (.fieldLink RX12 180 "StatementRules2Model" "fp" "[I") k_X12_forHead_fieldLink_RX12_180_SRModel_fp_I) dX12_forHead_154 ?_
        refine lv_iload_n hx hb dX12_forHead_157 rfl (lv_at hl 1 rfl) ?_
        refine lv_aload_n hx hb dX12_forHead_158 rfl (lv_at hl 0 rfl) ?_
        refine lv_aload_n hx hb dX12_forHead_159 rfl (lv_at hl 0 rfl) ?_
        refine rG_13 (v := σ.l) hx hb hts i_X12_forHead_X12 hown hK hP (hts (.fieldLink RX12 327 "StatementRules2Model" "name" "J") k_X12_forHead_fieldLink_RX12_327_SRModel_name_J) dX12_forHead_160 rfl ?_
        refine lv_aload_n hx hb dX12_forHead_163 rfl (lv_at hl 0 rfl) ?_
        refine rG_11 (v := (σ.i 11)) hx hb hts i_X12_forHead_X12 hown hK hP (hts (.fieldLink RX12 304 "StatementRules2Model" "from" "I") k_X12_forHead_fieldLink_RX12_304_SRModel_from_I) dX12_forHead_164 rfl ?_
        obtain ⟨p12, hcp12, hf⟩ := hf_bind hf
        have hFc := r_free hD hS hA
        refine va_calli (va_runV (As := [.long σ.l, .int (σ.i 11)]) (rest := [.int x1, .ref (Q.q 66)]) ⟨hx, hb, hml, hown, hts⟩ (c_X12_got l dC dI _ Q N σ σ.l (σ.i 11) p12 hcp12) (cwV 2 hts hX12_forHead_X12_got_v517 rfl rfl rfl (by decide +kernel) ⟨Nat.le_of_ble_eq_true rfl, Nat.le_of_ble_eq_true rfl⟩) ⟨zPre.blind, va_recv hK hP (ci := 11) (q0 := 0) rfl rfl, zPre.go hZ hP hK hD⟩ rfl rfl hl.1 rfl (lv_room (Nat.le_of_ble_eq_true rfl)) dX12_forHead_167 ⟨Nat.le_of_ble_eq_true rfl, Nat.le_of_ble_eq_true rfl⟩) hS (fun q _ h => hFc q h) hFc (fun r13 u9 t9 H1 locs ht hvm hw hB hz1 hk1 hS => ?_)
        obtain ⟨hP, hK1, hD1⟩ := hB
        rw [ht] at hP
        have hD := hD1.weaken (fun _ _ _ h => hFc _ h)
        generalize H1 = H at hP hS ⊢
        obtain rfl : r13 = p12.1 := hw
        obtain ⟨b14, hf⟩ := hf_ite hf
        refine rS_66 hx hb hK hP hD hS b14 dX12_forHead_170 (fun H locs hP hD hS => ?_)
        refine lv_aload_n hx hb dX12_forHead_171 rfl (lv_at hl 0 rfl) ?_
        obtain ⟨p15, hcp15, hf⟩ := hf_bind hf
        have hFc := r_free hD hS hA
        refine va_callv (va_runV (As := []) (rest := []) ⟨hx, hb, hml, hown, hts⟩ (c_X12_next l dC dI _ Q N (RS.setA p12.2 66 ((x1 : Int32).toNatClampNeg) p12.1) p15 hcp15) (cwV 0 hts hX12_forHead_X12_next_v345 rfl rfl rfl (by decide +kernel) ⟨Nat.le_of_ble_eq_true rfl, Nat.le_of_ble_eq_true rfl⟩) ⟨zPre.blind, va_recv hK hP (ci := 11) (q0 := 0) rfl rfl, zPre.go hZ hP hK hD⟩ rfl rfl hl.1 rfl (lv_room (Nat.le_of_ble_eq_true rfl)) dX12_forHead_172 ⟨Nat.le_of_ble_eq_true rfl, Nat.le_of_ble_eq_true rfl⟩) hS (fun q _ h => hFc q h) hFc (fun u9 t9 H1 locs ht hvm hw hB hz1 hk1 hS => ?_)
        obtain ⟨hP, hK1, hD1⟩ := hB
        rw [ht] at hP
        have hD := hD1.weaken (fun _ _ _ h => hFc _ h)
        generalize H1 = H at hP hS ⊢
        refine lv_aload_n hx hb dX12_forHead_175 rfl (lv_at hl 0 rfl) ?_
        refine lv_aload_n hx hb dX12_forHead_176 rfl (lv_at hl 0 rfl) ?_
        refine rG_10 (v := (p15.i 10)) hx hb hts i_X12_forHead_X12 hown hK hP (hts (.fieldLink RX12 307 "StatementRules2Model" "tok" "I") k_X12_forHead_fieldLink_RX12_307_SRModel_tok_I) dX12_forHead_177 rfl ?_
        refine lv_bipush (v := 61) hx hb dX12_forHead_180 (by decide) ?_
        refine lv_icmp_ne (tgt := 189) hx hb dX12_forHead_182 (by decide) (fun c17 => ?_) (fun c17 => ?_)
        ·
          replace hf := (if_neg c17).symm.trans hf
          refine lv_iconst (v := 0) hx hb dX12_forHead_189 (by decide) ?_
          obtain ⟨p18, hcp18, hf⟩ := hf_bind hf
          have hFc := r_free hD hS hA
          refine va_calli (va_runV (As := [.int 0]) (rest := []) ⟨hx, hb, hml, hown, hts⟩ (c_X12_can l dC dI _ Q N p15 0 p18 hcp18) (cwV 1 hts hX12_forHead_X12_can_v341 rfl rfl rfl (by decide +kernel) ⟨Nat.le_of_ble_eq_true rfl, Nat.le_of_ble_eq_true rfl⟩) ⟨zPre.blind, va_recv hK hP (ci := 11) (q0 := 0) rfl rfl, zPre.go hZ hP hK hD⟩ rfl rfl hl.1 rfl (lv_room (Nat.le_of_ble_eq_true rfl)) dX12_forHead_190 ⟨Nat.le_of_ble_eq_true rfl, Nat.le_of_ble_eq_true rfl⟩) hS (fun q _ h => hFc q h) hFc (fun r19 u9 t9 H1 locs ht hvm hw hB hz1 hk1 hS => ?_)
          obtain ⟨hP, hK1, hD1⟩ := hB
          rw [ht] at hP
          have hD := hD1.weaken (fun _ _ _ h => hFc _ h)
          generalize H1 = H at hP hS ⊢
          obtain rfl : r19 = p18.1 := hw
          refine lv_if_eq (tgt := 238) hx hb dX12_forHead_193 (by decide) (fun c20 => ?_) (fun c20 => ?_)
          ·
            replace hf := (if_pos c20).symm.trans hf
            obtain rfl := Option.some.inj hf
            exact W.vret hx hb hr (fun t ht hW => ⟨⟨(), rfl, trivial, by rw [ht]; exact hP, va_K.moved hW.alike hK, hD⟩, hS.F ht⟩) hS.2.2 dX12_forHead_238
          ·
            replace hf := (if_neg c20).symm.trans hf
            exact j_X12_forHead_196 l dC dI Q N R hx hb hr hml hown hts hlocks hZ hA hK p18.2 _ _ _ hf hP hD hS (lv_sub hl [0] rfl)
        ·
          replace hf := (if_pos c17).symm.trans hf
          refine lv_iconst (v := 1) hx hb dX12_forHead_185 (by decide) ?_
          refine lv_goto (tgt := 190) hx hb dX12_forHead_186 (by decide) ?_
          obtain ⟨p25, hcp25, hf⟩ := hf_bind hf
          have hFc := r_free hD hS hA
          refine va_calli (va_runV (As := [.int 1]) (rest := []) ⟨hx, hb, hml, hown, hts⟩ (c_X12_can l dC dI _ Q N p15 1 p25 hcp25) (cwV 1 hts hX12_forHead_X12_can_v341 rfl rfl rfl (by decide +kernel) ⟨Nat.le_of_ble_eq_true rfl, Nat.le_of_ble_eq_true rfl⟩) ⟨zPre.blind, va_recv hK hP (ci := 11) (q0 := 0) rfl rfl, zPre.go hZ hP hK hD⟩ rfl rfl hl.1 rfl (lv_room (Nat.le_of_ble_eq_true rfl)) dX12_forHead_190 ⟨Nat.le_of_ble_eq_true rfl, Nat.le_of_ble_eq_true rfl⟩) hS (fun q _ h => hFc q h) hFc (fun r26 u9 t9 H1 locs ht hvm hw hB hz1 hk1 hS => ?_)
          obtain ⟨hP, hK1, hD1⟩ := hB
          rw [ht] at hP
          have hD := hD1.weaken (fun _ _ _ h => hFc _ h)
          generalize H1 = H at hP hS ⊢
          obtain rfl : r26 = p25.1 := hw
          refine lv_if_eq (tgt := 238) hx hb dX12_forHead_193 (by decide) (fun c27 => ?_) (fun c27 => ?_)
          ·
            replace hf := (if_pos c27).symm.trans hf
            obtain rfl := Option.some.inj hf
            exact W.vret hx hb hr (fun t ht hW => ⟨⟨(), rfl, trivial, by rw [ht]; exact hP, va_K.moved hW.alike hK, hD⟩, hS.F ht⟩) hS.2.2 dX12_forHead_238
          ·
            replace hf := (if_neg c27).symm.trans hf
            exact j_X12_forHead_196 l dC dI Q N R hx hb hr hml hown hts hlocks hZ hA hK p25.2 _ _ _ hf hP hD hS (lv_sub hl [0] rfl)
    ·
      replace hf := (if_pos c2).symm.trans hf
      refine lv_aload_n hx hb dX12_forHead_18 rfl (lv_at hl 0 rfl) ?_
      obtain ⟨p28, hcp28, hf⟩ := hf_bind hf
      have hFc := r_free hD hS hA
      refine va_callv (va_runV (As := []) (rest := []) ⟨hx, hb, hml, hown, hts⟩ (c_X12_next l dC dI _ Q N σ p28 hcp28) (cwV 0 hts hX12_forHead_X12_next_v345 rfl rfl rfl (by decide +kernel) ⟨Nat.le_of_ble_eq_true rfl, Nat.le_of_ble_eq_true rfl⟩) ⟨zPre.blind, va_recv hK hP (ci := 11) (q0 := 0) rfl rfl, zPre.go hZ hP hK hD⟩ rfl rfl hl.1 rfl (lv_room (Nat.le_of_ble_eq_true rfl)) dX12_forHead_19 ⟨Nat.le_of_ble_eq_true rfl, Nat.le_of_ble_eq_true rfl⟩) hS (fun q _ h => hFc q h) hFc (fun u9 t9 H1 locs ht hvm hw hB hz1 hk1 hS => ?_)
      obtain ⟨hP, hK1, hD1⟩ := hB
      rw [ht] at hP
      have hD := hD1.weaken (fun _ _ _ h => hFc _ h)
      generalize H1 = H at hP hS ⊢
      refine lv_aload_n hx hb dX12_forHead_22 rfl (lv_at hl 0 rfl) ?_
      refine lv_iload_n hx hb dX12_forHead_23 rfl (lv_at hl 1 rfl) ?_
      obtain ⟨p30, hcp30, hf⟩ := hf_bind hf
      have hFc := r_free hD hS hA
      refine va_calli (va_runV (As := [.int x1]) (rest := []) ⟨hx, hb, hml, hown, hts⟩ (c_X12_telling l dC dI _ Q N p28 x1 p30 hcp30) (cwV 1 hts hX12_forHead_X12_telling_v503 rfl rfl rfl (by decide +kernel) ⟨Nat.le_of_ble_eq_true rfl, Nat.le_of_ble_eq_true rfl⟩) ⟨zPre.blind, va_recv hK hP (ci := 11) (q0 := 0) rfl rfl, zPre.go hZ hP hK hD⟩ rfl rfl hl.1 rfl (lv_room (Nat.le_of_ble_eq_true rfl)) dX12_forHead_24 ⟨Nat.le_of_ble_eq_true rfl, Nat.le_of_ble_eq_true rfl⟩) hS (fun q _ h => hFc q h) hFc (fun r31 u9 t9 H1 locs ht hvm hw hB hz1 hk1 hS => ?_)
      obtain ⟨hP, hK1, hD1⟩ := hB
      rw [ht] at hP
      have hD := hD1.weaken (fun _ _ _ h => hFc _ h)
      generalize H1 = H at hP hS ⊢
      obtain rfl : r31 = p30.1 := hw
      refine lv_if_eq (tgt := 60) hx hb dX12_forHead_27 (by decide) (fun c32 => ?_) (fun c32 => ?_)
      ·
        replace hf := (if_pos c32).symm.trans hf
        obtain rfl := Option.some.inj hf
        exact W.vret hx hb hr (fun t ht hW => ⟨⟨(), rfl, trivial, by rw [ht]; exact hP, va_K.moved hW.alike hK, hD⟩, hS.F ht⟩) hS.2.2 dX12_forHead_60
      ·
        replace hf := (if_neg c32).symm.trans hf
        refine lv_aload_n hx hb dX12_forHead_30 rfl (lv_at hl 0 rfl) ?_
        refine lv_aload_n hx hb dX12_forHead_31 rfl (lv_at hl 0 rfl) ?_
        refine rG_10 (v := (p30.2.i 10)) hx hb hts i_X12_forHead_X12 hown hK hP (hts (.fieldLink RX12 307 "StatementRules2Model" "tok" "I") k_X12_forHead_fieldLink_RX12_307_SRModel_tok_I) dX12_forHead_32 rfl ?_
        refine lv_bipush (v := 61) hx hb dX12_forHead_35 (by decide) ?_
        refine lv_icmp_eq (tgt := 49) hx hb dX12_forHead_37 (by decide) (fun c33 => ?_) (fun c33 => ?_)
        ·
          replace hf := (if_pos c33).symm.trans hf
          refine lv_iconst (v := 1) hx hb dX12_forHead_49 (by decide) ?_
          refine lv_goto (tgt := 54) hx hb dX12_forHead_50 (by decide) ?_
          obtain ⟨p34, hcp34, hf⟩ := hf_bind hf
          have hFc := r_free hD hS hA
          refine va_calli (va_runV (As := [.int 1]) (rest := []) ⟨hx, hb, hml, hown, hts⟩ (c_X12_can l dC dI _ Q N p30.2 1 p34 hcp34) (cwV 1 hts hX12_forHead_X12_can_v341 rfl rfl rfl (by decide +kernel) ⟨Nat.le_of_ble_eq_true rfl, Nat.le_of_ble_eq_true rfl⟩) ⟨zPre.blind, va_recv hK hP (ci := 11) (q0 := 0) rfl rfl, zPre.go hZ hP hK hD⟩ rfl rfl hl.1 rfl (lv_room (Nat.le_of_ble_eq_true rfl)) dX12_forHead_54 ⟨Nat.le_of_ble_eq_true rfl, Nat.le_of_ble_eq_true rfl⟩) hS (fun q _ h => hFc q h) hFc (fun r35 u9 t9 H1 locs ht hvm hw hB hz1 hk1 hS => ?_)
          obtain ⟨hP, hK1, hD1⟩ := hB
          rw [ht] at hP
          have hD := hD1.weaken (fun _ _ _ h => hFc _ h)
          generalize H1 = H at hP hS ⊢
          obtain rfl : r35 = p34.1 := hw
          refine lv_if_ne (tgt := 61) hx hb dX12_forHead_57 (by decide) (fun c36 => ?_) (fun c36 => ?_)
          ·
            replace hf := (if_neg c36).symm.trans hf
            exact j_X12_forHead_61 l dC dI Q N R hx hb hr hml hown hts hlocks hZ hA hK p34.2 x1 _ _ _ hf hP hD hS (lv_sub hl [0, 1] rfl)
          ·
            replace hf := (if_pos c36).symm.trans hf
            obtain rfl := Option.some.inj hf
            exact W.vret hx hb hr (fun t ht hW => ⟨⟨(), rfl, trivial, by rw [ht]; exact hP, va_K.moved hW.alike hK, hD⟩, hS.F ht⟩) hS.2.2 dX12_forHead_60
        ·
          replace hf := (if_neg c33).symm.trans hf
          refine lv_aload_n hx hb dX12_forHead_40 rfl (lv_at hl 0 rfl) ?_
          refine rG_10 (v := (p30.2.i 10)) hx hb hts i_X12_forHead_X12 hown hK hP (hts (.fieldLink RX12 307 "StatementRules2Model" "tok" "I") k_X12_forHead_fieldLink_RX12_307_SRModel_tok_I) dX12_forHead_41 rfl ?_
          refine lv_bipush (v := 58) hx hb dX12_forHead_44 (by decide) ?_
          refine lv_icmp_ne (tgt := 53) hx hb dX12_forHead_46 (by decide) (fun c52 => ?_) (fun c52 => ?_)
          ·
            replace hf := (if_neg c52).symm.trans hf
            refine lv_iconst (v := 0) hx hb dX12_forHead_53 (by decide) ?_
            obtain ⟨p53, hcp53, hf⟩ := hf_bind hf
            have hFc := r_free hD hS hA
            refine va_calli (va_runV (As := [.int 0]) (rest := []) ⟨hx, hb, hml, hown, hts⟩ (c_X12_can l dC dI _ Q N p30.2 0 p53 hcp53) (cwV 1 hts hX12_forHead_X12_can_v341 rfl rfl rfl (by decide +kernel) ⟨Nat.le_of_ble_eq_true rfl, Nat.le_of_ble_eq_true rfl⟩) ⟨zPre.blind, va_recv hK hP (ci := 11) (q0 := 0) rfl rfl, zPre.go hZ hP hK hD⟩ rfl rfl hl.1 rfl (lv_room (Nat.le_of_ble_eq_true rfl)) dX12_forHead_54 ⟨Nat.le_of_ble_eq_true rfl, Nat.le_of_ble_eq_true rfl⟩) hS (fun q _ h => hFc q h) hFc (fun r54 u9 t9 H1 locs ht hvm hw hB hz1 hk1 hS => ?_)
            obtain ⟨hP, hK1, hD1⟩ := hB
            rw [ht] at hP
            have hD := hD1.weaken (fun _ _ _ h => hFc _ h)
            generalize H1 = H at hP hS ⊢
            obtain rfl : r54 = p53.1 := hw
            refine lv_if_ne (tgt := 61) hx hb dX12_forHead_57 (by decide) (fun c55 => ?_) (fun c55 => ?_)
            ·
              replace hf := (if_neg c55).symm.trans hf
              exact j_X12_forHead_61 l dC dI Q N R hx hb hr hml hown hts hlocks hZ hA hK p53.2 x1 _ _ _ hf hP hD hS (lv_sub hl [0, 1] rfl)
            ·
              replace hf := (if_pos c55).symm.trans hf
              obtain rfl := Option.some.inj hf
              exact W.vret hx hb hr (fun t ht hW => ⟨⟨(), rfl, trivial, by rw [ht]; exact hP, va_K.moved hW.alike hK, hD⟩, hS.F ht⟩) hS.2.2 dX12_forHead_60
          ·
            replace hf := (if_pos c52).symm.trans hf
            refine lv_iconst (v := 1) hx hb dX12_forHead_49 (by decide) ?_
            refine lv_goto (tgt := 54) hx hb dX12_forHead_50 (by decide) ?_
            obtain ⟨p56, hcp56, hf⟩ := hf_bind hf
            have hFc := r_free hD hS hA
            refine va_calli (va_runV (As := [.int 1]) (rest := []) ⟨hx, hb, hml, hown, hts⟩ (c_X12_can l dC dI _ Q N p30.2 1 p56 hcp56) (cwV 1 hts hX12_forHead_X12_can_v341 rfl rfl rfl (by decide +kernel) ⟨Nat.le_of_ble_eq_true rfl, Nat.le_of_ble_eq_true rfl⟩) ⟨zPre.blind, va_recv hK hP (ci := 11) (q0 := 0) rfl rfl, zPre.go hZ hP hK hD⟩ rfl rfl hl.1 rfl (lv_room (Nat.le_of_ble_eq_true rfl)) dX12_forHead_54 ⟨Nat.le_of_ble_eq_true rfl, Nat.le_of_ble_eq_true rfl⟩) hS (fun q _ h => hFc q h) hFc (fun r57 u9 t9 H1 locs ht hvm hw hB hz1 hk1 hS => ?_)
            obtain ⟨hP, hK1, hD1⟩ := hB
            rw [ht] at hP
            have hD := hD1.weaken (fun _ _ _ h => hFc _ h)
            generalize H1 = H at hP hS ⊢
            obtain rfl : r57 = p56.1 := hw
            refine lv_if_ne (tgt := 61) hx hb dX12_forHead_57 (by decide) (fun c58 => ?_) (fun c58 => ?_)
            ·
              replace hf := (if_neg c58).symm.trans hf
              exact j_X12_forHead_61 l dC dI Q N R hx hb hr hml hown hts hlocks hZ hA hK p56.2 x1 _ _ _ hf hP hD hS (lv_sub hl [0, 1] rfl)
            ·
              replace hf := (if_pos c58).symm.trans hf
              obtain rfl := Option.some.inj hf
              exact W.vret hx hb hr (fun t ht hW => ⟨⟨(), rfl, trivial, by rw [ht]; exact hP, va_K.moved hW.alike hK, hD⟩, hS.F ht⟩) hS.2.2 dX12_forHead_60
  ·
    replace hf := (if_neg c1).symm.trans hf
    obtain rfl := Option.some.inj hf
    exact W.vret hx hb hr (fun t ht hW => ⟨⟨(), rfl, trivial, by rw [ht]; exact hP, va_K.moved hW.alike hK, hD⟩, hS.F ht⟩) hS.2.2 dX12_forHead_7
theorem k_X12_forBehind_fieldLink_RX12_183_SRModel_fq_I : Cond.fieldLink RX12 183 "StatementRules2Model" "fq" "[I" ∈ wzX12_forBehind := List.mem_cons_of_mem _ (List.mem_append_left _ (List.mem_of_getElem? (i := 0) rfl))
theorem i_X12_forBehind_X12 : ∀ w ∈ wsX120, w ∈ wzX12_forBehind := fun _ h => List.mem_cons_of_mem _ (List.mem_append_right _ (List.mem_append_left _ (h)))
theorem k_X12_forBehind_fieldLink_RX12_186_SRModel_fr_I : Cond.fieldLink RX12 186 "StatementRules2Model" "fr" "[I" ∈ wzX12_forBehind := List.mem_cons_of_mem _ (List.mem_append_left _ (List.mem_of_getElem? (i := 1) rfl))
theorem k_X12_forBehind_fieldLink_RX12_192_SRModel_fw_I : Cond.fieldLink RX12 192 "StatementRules2Model" "fw" "[I" ∈ wzX12_forBehind := List.mem_cons_of_mem _ (List.mem_append_left _ (List.mem_of_getElem? (i := 2) rfl))
theorem k_X12_forBehind_fieldLink_RX12_358_SRModel_codes_I : Cond.fieldLink RX12 358 "StatementRules2Model" "codes" "I" ∈ wzX12_forBehind := List.mem_cons_of_mem _ (List.mem_append_left _ (List.mem_of_getElem? (i := 3) rfl))
theorem k_X12_forBehind_fieldLink_RX12_291_SRModel_fault_I : Cond.fieldLink RX12 291 "StatementRules2Model" "fault" "I" ∈ wzX12_forBehind := List.mem_cons_of_mem _ (List.mem_append_left _ (List.mem_of_getElem? (i := 4) rfl))
theorem k_X12_forBehind_fieldLink_RX12_177_SRModel_fs_I : Cond.fieldLink RX12 177 "StatementRules2Model" "fs" "[I" ∈ wzX12_forBehind := List.mem_cons_of_mem _ (List.mem_append_left _ (List.mem_of_getElem? (i := 5) rfl))
theorem k_X12_forBehind_fieldLink_RX12_307_SRModel_tok_I : Cond.fieldLink RX12 307 "StatementRules2Model" "tok" "I" ∈ wzX12_forBehind := List.mem_cons_of_mem _ (List.mem_append_left _ (List.mem_of_getElem? (i := 6) rfl))
theorem k_X12_forBehind_fieldLink_RX12_201_SRModel_fz_I : Cond.fieldLink RX12 201 "StatementRules2Model" "fz" "[I" ∈ wzX12_forBehind := List.mem_cons_of_mem _ (List.mem_append_left _ (List.mem_of_getElem? (i := 7) rfl))
theorem k_X12_forBehind_fieldLink_RX12_327_SRModel_name_J : Cond.fieldLink RX12 327 "StatementRules2Model" "name" "J" ∈ wzX12_forBehind := List.mem_cons_of_mem _ (List.mem_append_left _ (List.mem_of_getElem? (i := 8) rfl))
theorem k_X12_forBehind_fieldLink_RX12_304_SRModel_from_I : Cond.fieldLink RX12 304 "StatementRules2Model" "from" "I" ∈ wzX12_forBehind := List.mem_cons_of_mem _ (List.mem_append_left _ (List.mem_of_getElem? (i := 9) rfl))
set_option maxHeartbeats 4000000 in
set_option maxRecDepth 100000 in
theorem j_X12_forBehind_59 {p : Program} {e : Env} {s : State} {m : MethodId} {args : Array Value} {below : List Frame} {meth : Method} {c : Code} {A : Nat → Prop} (l : Launch) (dC : Nat → ClassId) (dI : Nat → Nat → Nat) (Q : RQ) (N : Nat) (R : RS) (hx : p.tables.exec = Jvm.exec) (hb : c.code = cX12_forBehind) (hr : meth.sig.returnType = none) (hml : c.maxLocals = 3) (hown : s.vm.findClass RX12 = some m.cls) (hts : ∀ w ∈ wzX12_forBehind, w.before args s = true) (hlocks : meth.locks = false) (hZ : zAMB s) (hA : ∀ q : Nat, s.heap.size ≤ q → A q) (hK : va_K (dC, dI) vwCl (rT Q) s) : ∀ (σ : RS) (x1 : Int32) (H : Heap) (locs : List Loc) (ls : Array Slot), f_X12_forBehind_59 N σ x1 = some R → va_P (dC, dI) vwCl (rW Q σ) H → va_D A (rW Q σ) → va_S A s.heap H locs → lv_has ls 3 [(0, .ref Q.h0), (1, .int x1)] → W p l e ({ frames := 5, cells := 0, slots := 0, locals := 300 }) s m args below meth c H locs 0 0 (MQ below (va_Qv (fun (_ : Unit) => True) (fun (_ : Unit) (t : State) => zPost dC dI A (rW Q R) (rT Q) t) A) args s 0 0 A) (F0 m 59 ls []) := by
  intro σ x1 H locs ls hf hP hD hS hl
  unfold f_X12_forBehind_59 at hf
  refine lv_aload_n hx hb dX12_forBehind_59 rfl (lv_at hl 0 rfl) ?_
  refine rG_65 hx hb hts i_X12_forBehind_X12 hown hK hP (hts (.fieldLink RX12 177 "StatementRules2Model" "fs" "[I") k_X12_forBehind_fieldLink_RX12_177_SRModel_fs_I) dX12_forBehind_60 ?_
  refine lv_iload_n hx hb dX12_forBehind_63 rfl (lv_at hl 1 rfl) ?_
  refine lv_bipush (v := 7) hx hb dX12_forBehind_64 (by decide) ?_
  obtain ⟨b9, hf⟩ := hf_ite hf
  refine rS_65 hx hb hK hP hD hS b9 dX12_forBehind_66 (fun H locs hP hD hS => ?_)
  obtain rfl := Option.some.inj hf
  exact W.vret hx hb hr (fun t ht hW => ⟨⟨(), rfl, trivial, by rw [ht]; exact hP, va_K.moved hW.alike hK, hD⟩, hS.F ht⟩) hS.2.2 dX12_forBehind_67
set_option maxHeartbeats 4000000 in
set_option maxRecDepth 100000 in
theorem j_X12_forBehind_159 {p : Program} {e : Env} {s : State} {m : MethodId} {args : Array Value} {below : List Frame} {meth : Method} {c : Code} {A : Nat → Prop} (l : Launch) (dC : Nat → ClassId) (dI : Nat → Nat → Nat) (Q : RQ) (N : Nat) (R : RS) (hx : p.tables.exec = Jvm.exec) (hb : c.code = cX12_forBehind) (hr : meth.sig.returnType = none) (hml : c.maxLocals = 3) (hown : s.vm.findClass RX12 = some m.cls) (hts : ∀ w ∈ wzX12_forBehind, w.before args s = true) (hlocks : meth.locks = false) (hZ : zAMB s) (hA : ∀ q : Nat, s.heap.size ≤ q → A q) (hK : va_K (dC, dI) vwCl (rT Q) s) : ∀ (σ : RS) (x1 : Int32) (x2 : Int32) (H : Heap) (locs : List Loc) (ls : Array Slot), f_X12_forBehind_159 N σ x1 x2 = some R → va_P (dC, dI) vwCl (rW Q σ) H → va_D A (rW Q σ) → va_S A s.heap H locs → lv_has ls 3 [(0, .ref Q.h0), (1, .int x1), (2, .int x2)] → W p l e ({ frames := 5, cells := 0, slots := 0, locals := 300 }) s m args below meth c H locs 0 0 (MQ below (va_Qv (fun (_ : Unit) => True) (fun (_ : Unit) (t : State) => zPost dC dI A (rW Q R) (rT Q) t) A) args s 0 0 A) (F0 m 159 ls []) := by
  intro σ x1 x2 H locs ls hf hP hD hS hl
  unfold f_X12_forBehind_159 at hf
  refine lv_aload_n hx hb dX12_forBehind_159 rfl (lv_at hl 0 rfl) ?_
  obtain ⟨p25, hcp25, hf⟩ := hf_bind hf
  have hFc := r_free hD hS hA
  refine va_callv (va_runV (As := []) (rest := []) ⟨hx, hb, hml, hown, hts⟩ (c_X12_next l dC dI _ Q N σ p25 hcp25) (cwV 0 hts hX12_forBehind_X12_next_v345 rfl rfl rfl (by decide +kernel) ⟨Nat.le_of_ble_eq_true rfl, Nat.le_of_ble_eq_true rfl⟩) ⟨zPre.blind, va_recv hK hP (ci := 11) (q0 := 0) rfl rfl, zPre.go hZ hP hK hD⟩ rfl rfl hl.1 rfl (lv_room (Nat.le_of_ble_eq_true rfl)) dX12_forBehind_160 ⟨Nat.le_of_ble_eq_true rfl, Nat.le_of_ble_eq_true rfl⟩) hS (fun q _ h => hFc q h) hFc (fun u9 t9 H1 locs ht hvm hw hB hz1 hk1 hS => ?_)
  obtain ⟨hP, hK1, hD1⟩ := hB
  rw [ht] at hP
  have hD := hD1.weaken (fun _ _ _ h => hFc _ h)
  generalize H1 = H at hP hS ⊢
  refine lv_iload_n hx hb dX12_forBehind_163 rfl (lv_at hl 2 rfl) ?_
  refine lv_if_eq (tgt := 191) hx hb dX12_forBehind_164 (by decide) (fun c27 => ?_) (fun c27 => ?_)
  ·
    replace hf := (if_pos c27).symm.trans hf
    refine lv_aload_n hx hb dX12_forBehind_191 rfl (lv_at hl 0 rfl) ?_
    refine lv_bipush (v := 6) hx hb dX12_forBehind_192 (by decide) ?_
    refine lv_bipush (v := 16) hx hb dX12_forBehind_194 (by decide) ?_
    obtain ⟨p28, hcp28, hf⟩ := hf_bind hf
    have hFc := r_free hD hS hA
    refine va_callv (va_runV (As := [.int 6, .int 16]) (rest := []) ⟨hx, hb, hml, hown, hts⟩ (c_X12_then l dC dI _ Q N p25 6 16 p28 hcp28) (cwV 2 hts hX12_forBehind_X12_then_v393 rfl rfl rfl (by decide +kernel) ⟨Nat.le_of_ble_eq_true rfl, Nat.le_of_ble_eq_true rfl⟩) ⟨zPre.blind, va_recv hK hP (ci := 11) (q0 := 0) rfl rfl, zPre.go hZ hP hK hD⟩ rfl rfl hl.1 rfl (lv_room (Nat.le_of_ble_eq_true rfl)) dX12_forBehind_196 ⟨Nat.le_of_ble_eq_true rfl, Nat.le_of_ble_eq_true rfl⟩) hS (fun q _ h => hFc q h) hFc (fun u9 t9 H1 locs ht hvm hw hB hz1 hk1 hS => ?_)
    obtain ⟨hP, hK1, hD1⟩ := hB
    rw [ht] at hP
    have hD := hD1.weaken (fun _ _ _ h => hFc _ h)
    generalize H1 = H at hP hS ⊢
    obtain rfl := Option.some.inj hf
    exact W.vret hx hb hr (fun t ht hW => ⟨⟨(), rfl, trivial, by rw [ht]; exact hP, va_K.moved hW.alike hK, hD⟩, hS.F ht⟩) hS.2.2 dX12_forBehind_199
  ·
    replace hf := (if_neg c27).symm.trans hf
    refine lv_aload_n hx hb dX12_forBehind_167 rfl (lv_at hl 0 rfl) ?_
    refine lv_bipush (v := 6) hx hb dX12_forBehind_168 (by decide) ?_
    refine lv_aload_n hx hb dX12_forBehind_170 rfl (lv_at hl 0 rfl) ?_
    refine rG_73 hx hb hts i_X12_forBehind_X12 hown hK hP (hts (.fieldLink RX12 201 "StatementRules2Model" "fz" "[I") k_X12_forBehind_fieldLink_RX12_201_SRModel_fz_I) dX12_forBehind_171 ?_
    refine lv_iload_n hx hb dX12_forBehind_174 rfl (lv_at hl 1 rfl) ?_
    obtain ⟨b30, hf⟩ := hf_ite hf
    refine rL_73 (v := (p25.a 73 ((x1 : Int32).toNatClampNeg))) hx hb hK hP b30 dX12_forBehind_175 rfl ?_
    obtain ⟨p31, hcp31, hf⟩ := hf_bind hf
    have hFc := r_free hD hS hA
    refine va_calli (va_runV (As := [.int 6, .int (p25.a 73 ((x1 : Int32).toNatClampNeg))]) (rest := []) ⟨hx, hb, hml, hown, hts⟩ (c_X12_emit l dC dI _ Q N p25 6 (p25.a 73 ((x1 : Int32).toNatClampNeg)) p31 hcp31) (cwV 2 hts hX12_forBehind_X12_emit_v464 rfl rfl rfl (by decide +kernel) ⟨Nat.le_of_ble_eq_true rfl, Nat.le_of_ble_eq_true rfl⟩) ⟨zPre.blind, va_recv hK hP (ci := 11) (q0 := 0) rfl rfl, zPre.go hZ hP hK hD⟩ rfl rfl hl.1 rfl (lv_room (Nat.le_of_ble_eq_true rfl)) dX12_forBehind_176 ⟨Nat.le_of_ble_eq_true rfl, Nat.le_of_ble_eq_true rfl⟩) hS (fun q _ h => hFc q h) hFc (fun r32 u9 t9 H1 locs ht hvm hw hB hz1 hk1 hS => ?_)
    obtain ⟨hP, hK1, hD1⟩ := hB
    rw [ht] at hP
    have hD := hD1.weaken (fun _ _ _ h => hFc _ h)
    generalize H1 = H at hP hS ⊢
    obtain rfl : r32 = p31.1 := hw
    refine lv_pop hx hb dX12_forBehind_179 rfl ?_
    refine lv_aload_n hx hb dX12_forBehind_180 rfl (lv_at hl 0 rfl) ?_
    refine rG_65 hx hb hts i_X12_forBehind_X12 hown hK hP (hts (.fieldLink RX12 177 "StatementRules2Model" "fs" "[I") k_X12_forBehind_fieldLink_RX12_177_SRModel_fs_I) dX12_forBehind_181 ?_
    refine lv_iload_n hx hb dX12_forBehind_184 rfl (lv_at hl 1 rfl) ?_
    refine lv_bipush (v := 7) hx hb dX12_forBehind_185 (by decide) ?_
    refine rS_65 hx hb hK hP hD hS b30 dX12_forBehind_187 (fun H locs hP hD hS => ?_)
    refine lv_goto (tgt := 199) hx hb dX12_forBehind_188 (by decide) ?_
    obtain rfl := Option.some.inj hf
    exact W.vret hx hb hr (fun t ht hW => ⟨⟨(), rfl, trivial, by rw [ht]; exact hP, va_K.moved hW.alike hK, hD⟩, hS.F ht⟩) hS.2.2 dX12_forBehind_199
set_option maxHeartbeats 4000000 in
set_option maxRecDepth 100000 in
theorem j_X12_forBehind_143 {p : Program} {e : Env} {s : State} {m : MethodId} {args : Array Value} {below : List Frame} {meth : Method} {c : Code} {A : Nat → Prop} (l : Launch) (dC : Nat → ClassId) (dI : Nat → Nat → Nat) (Q : RQ) (N : Nat) (R : RS) (hx : p.tables.exec = Jvm.exec) (hb : c.code = cX12_forBehind) (hr : meth.sig.returnType = none) (hml : c.maxLocals = 3) (hown : s.vm.findClass RX12 = some m.cls) (hts : ∀ w ∈ wzX12_forBehind, w.before args s = true) (hlocks : meth.locks = false) (hZ : zAMB s) (hA : ∀ q : Nat, s.heap.size ≤ q → A q) (hK : va_K (dC, dI) vwCl (rT Q) s) : ∀ (σ : RS) (x1 : Int32) (H : Heap) (locs : List Loc) (ls : Array Slot), f_X12_forBehind_143 N σ x1 = some R → va_P (dC, dI) vwCl (rW Q σ) H → va_D A (rW Q σ) → va_S A s.heap H locs → lv_has ls 3 [(0, .ref Q.h0), (1, .int x1)] → W p l e ({ frames := 5, cells := 0, slots := 0, locals := 300 }) s m args below meth c H locs 0 0 (MQ below (va_Qv (fun (_ : Unit) => True) (fun (_ : Unit) (t : State) => zPost dC dI A (rW Q R) (rT Q) t) A) args s 0 0 A) (F0 m 143 ls []) := by
  intro σ x1 H locs ls hf hP hD hS hl
  unfold f_X12_forBehind_143 at hf
  refine lv_aload_n hx hb dX12_forBehind_143 rfl (lv_at hl 0 rfl) ?_
  refine rG_10 (v := (σ.i 10)) hx hb hts i_X12_forBehind_X12 hown hK hP (hts (.fieldLink RX12 307 "StatementRules2Model" "tok" "I") k_X12_forBehind_fieldLink_RX12_307_SRModel_tok_I) dX12_forBehind_144 rfl ?_
  refine lv_sipush (v := 307) hx hb dX12_forBehind_147 (by decide) ?_
  refine lv_icmp_ne (tgt := 157) hx hb dX12_forBehind_150 (by decide) (fun c24 => ?_) (fun c24 => ?_)
  ·
    replace hf := (if_neg c24).symm.trans hf
    refine lv_iconst (v := 0) hx hb dX12_forBehind_157 (by decide) ?_
    refine lv_istore_n (lv' := [(2, .int 0), (0, .ref Q.h0), (1, .int x1)]) hx hb dX12_forBehind_158 rfl hl (by decide) rfl (fun ls hl => ?_)
    exact j_X12_forBehind_159 l dC dI Q N R hx hb hr hml hown hts hlocks hZ hA hK σ x1 0 _ _ _ hf hP hD hS (lv_sub hl [1, 2, 0] rfl)
  ·
    replace hf := (if_pos c24).symm.trans hf
    refine lv_iconst (v := 1) hx hb dX12_forBehind_153 (by decide) ?_
    refine lv_goto (tgt := 158) hx hb dX12_forBehind_154 (by decide) ?_
    refine lv_istore_n (lv' := [(2, .int 1), (0, .ref Q.h0), (1, .int x1)]) hx hb dX12_forBehind_158 rfl hl (by decide) rfl (fun ls hl => ?_)
    exact j_X12_forBehind_159 l dC dI Q N R hx hb hr hml hown hts hlocks hZ hA hK σ x1 1 _ _ _ hf hP hD hS (lv_sub hl [1, 2, 0] rfl)
set_option maxHeartbeats 4000000 in
set_option maxRecDepth 100000 in
theorem j_X12_forBehind_89 {p : Program} {e : Env} {s : State} {m : MethodId} {args : Array Value} {below : List Frame} {meth : Method} {c : Code} {A : Nat → Prop} (l : Launch) (dC : Nat → ClassId) (dI : Nat → Nat → Nat) (Q : RQ) (N : Nat) (R : RS) (hx : p.tables.exec = Jvm.exec) (hb : c.code = cX12_forBehind) (hr : meth.sig.returnType = none) (hml : c.maxLocals = 3) (hown : s.vm.findClass RX12 = some m.cls) (hts : ∀ w ∈ wzX12_forBehind, w.before args s = true) (hlocks : meth.locks = false) (hZ : zAMB s) (hA : ∀ q : Nat, s.heap.size ≤ q → A q) (hK : va_K (dC, dI) vwCl (rT Q) s) : ∀ (σ : RS) (x1 : Int32) (H : Heap) (locs : List Loc) (ls : Array Slot), f_X12_forBehind_89 N σ x1 = some R → va_P (dC, dI) vwCl (rW Q σ) H → va_D A (rW Q σ) → va_S A s.heap H locs → lv_has ls 3 [(0, .ref Q.h0), (1, .int x1)] → W p l e ({ frames := 5, cells := 0, slots := 0, locals := 300 }) s m args below meth c H locs 0 0 (MQ below (va_Qv (fun (_ : Unit) => True) (fun (_ : Unit) (t : State) => zPost dC dI A (rW Q R) (rT Q) t) A) args s 0 0 A) (F0 m 89 ls []) := by
  intro σ x1 H locs ls hf hP hD hS hl
  unfold f_X12_forBehind_89 at hf
  refine lv_aload_n hx hb dX12_forBehind_89 rfl (lv_at hl 0 rfl) ?_
  refine rG_73 hx hb hts i_X12_forBehind_X12 hown hK hP (hts (.fieldLink RX12 201 "StatementRules2Model" "fz" "[I") k_X12_forBehind_fieldLink_RX12_201_SRModel_fz_I) dX12_forBehind_90 ?_
  refine lv_iload_n hx hb dX12_forBehind_93 rfl (lv_at hl 1 rfl) ?_
  refine lv_aload_n hx hb dX12_forBehind_94 rfl (lv_at hl 0 rfl) ?_
  refine lv_aload_n hx hb dX12_forBehind_95 rfl (lv_at hl 0 rfl) ?_
  refine rG_13 (v := σ.l) hx hb hts i_X12_forBehind_X12 hown hK hP (hts (.fieldLink RX12 327 "StatementRules2Model" "name" "J") k_X12_forBehind_fieldLink_RX12_327_SRModel_name_J) dX12_forBehind_96 rfl ?_
  refine lv_aload_n hx hb dX12_forBehind_99 rfl (lv_at hl 0 rfl) ?_
  refine rG_11 (v := (σ.i 11)) hx hb hts i_X12_forBehind_X12 hown hK hP (hts (.fieldLink RX12 304 "StatementRules2Model" "from" "I") k_X12_forBehind_fieldLink_RX12_304_SRModel_from_I) dX12_forBehind_100 rfl ?_
  obtain ⟨p15, hcp15, hf⟩ := hf_bind hf
  have hFc := r_free hD hS hA
  refine va_calli (va_runV (As := [.long σ.l, .int (σ.i 11)]) (rest := [.int x1, .ref (Q.q 73)]) ⟨hx, hb, hml, hown, hts⟩ (c_X12_got l dC dI _ Q N σ σ.l (σ.i 11) p15 hcp15) (cwV 2 hts hX12_forBehind_X12_got_v517 rfl rfl rfl (by decide +kernel) ⟨Nat.le_of_ble_eq_true rfl, Nat.le_of_ble_eq_true rfl⟩) ⟨zPre.blind, va_recv hK hP (ci := 11) (q0 := 0) rfl rfl, zPre.go hZ hP hK hD⟩ rfl rfl hl.1 rfl (lv_room (Nat.le_of_ble_eq_true rfl)) dX12_forBehind_103 ⟨Nat.le_of_ble_eq_true rfl, Nat.le_of_ble_eq_true rfl⟩) hS (fun q _ h => hFc q h) hFc (fun r16 u9 t9 H1 locs ht hvm hw hB hz1 hk1 hS => ?_)
  obtain ⟨hP, hK1, hD1⟩ := hB
  rw [ht] at hP
  have hD := hD1.weaken (fun _ _ _ h => hFc _ h)
  generalize H1 = H at hP hS ⊢
  obtain rfl : r16 = p15.1 := hw
  obtain ⟨b17, hf⟩ := hf_ite hf
  refine rS_73 hx hb hK hP hD hS b17 dX12_forBehind_106 (fun H locs hP hD hS => ?_)
  refine lv_aload_n hx hb dX12_forBehind_107 rfl (lv_at hl 0 rfl) ?_
  obtain ⟨p18, hcp18, hf⟩ := hf_bind hf
  have hFc := r_free hD hS hA
  refine va_callv (va_runV (As := []) (rest := []) ⟨hx, hb, hml, hown, hts⟩ (c_X12_next l dC dI _ Q N (RS.setA p15.2 73 ((x1 : Int32).toNatClampNeg) p15.1) p18 hcp18) (cwV 0 hts hX12_forBehind_X12_next_v345 rfl rfl rfl (by decide +kernel) ⟨Nat.le_of_ble_eq_true rfl, Nat.le_of_ble_eq_true rfl⟩) ⟨zPre.blind, va_recv hK hP (ci := 11) (q0 := 0) rfl rfl, zPre.go hZ hP hK hD⟩ rfl rfl hl.1 rfl (lv_room (Nat.le_of_ble_eq_true rfl)) dX12_forBehind_108 ⟨Nat.le_of_ble_eq_true rfl, Nat.le_of_ble_eq_true rfl⟩) hS (fun q _ h => hFc q h) hFc (fun u9 t9 H1 locs ht hvm hw hB hz1 hk1 hS => ?_)
  obtain ⟨hP, hK1, hD1⟩ := hB
  rw [ht] at hP
  have hD := hD1.weaken (fun _ _ _ h => hFc _ h)
  generalize H1 = H at hP hS ⊢
  refine lv_aload_n hx hb dX12_forBehind_111 rfl (lv_at hl 0 rfl) ?_
  refine lv_aload_n hx hb dX12_forBehind_112 rfl (lv_at hl 0 rfl) ?_
  refine rG_10 (v := (p18.i 10)) hx hb hts i_X12_forBehind_X12 hown hK hP (hts (.fieldLink RX12 307 "StatementRules2Model" "tok" "I") k_X12_forBehind_fieldLink_RX12_307_SRModel_tok_I) dX12_forBehind_113 rfl ?_
  refine lv_bipush (v := 61) hx hb dX12_forBehind_116 (by decide) ?_
  refine lv_icmp_eq (tgt := 131) hx hb dX12_forBehind_118 (by decide) (fun c20 => ?_) (fun c20 => ?_)
  ·
    replace hf := (if_pos c20).symm.trans hf
    refine lv_iconst (v := 1) hx hb dX12_forBehind_131 (by decide) ?_
    refine lv_goto (tgt := 136) hx hb dX12_forBehind_132 (by decide) ?_
    obtain ⟨p21, hcp21, hf⟩ := hf_bind hf
    have hFc := r_free hD hS hA
    refine va_calli (va_runV (As := [.int 1]) (rest := []) ⟨hx, hb, hml, hown, hts⟩ (c_X12_can l dC dI _ Q N p18 1 p21 hcp21) (cwV 1 hts hX12_forBehind_X12_can_v341 rfl rfl rfl (by decide +kernel) ⟨Nat.le_of_ble_eq_true rfl, Nat.le_of_ble_eq_true rfl⟩) ⟨zPre.blind, va_recv hK hP (ci := 11) (q0 := 0) rfl rfl, zPre.go hZ hP hK hD⟩ rfl rfl hl.1 rfl (lv_room (Nat.le_of_ble_eq_true rfl)) dX12_forBehind_136 ⟨Nat.le_of_ble_eq_true rfl, Nat.le_of_ble_eq_true rfl⟩) hS (fun q _ h => hFc q h) hFc (fun r22 u9 t9 H1 locs ht hvm hw hB hz1 hk1 hS => ?_)
    obtain ⟨hP, hK1, hD1⟩ := hB
    rw [ht] at hP
    have hD := hD1.weaken (fun _ _ _ h => hFc _ h)
    generalize H1 = H at hP hS ⊢
    obtain rfl : r22 = p21.1 := hw
    refine lv_if_ne (tgt := 143) hx hb dX12_forBehind_139 (by decide) (fun c23 => ?_) (fun c23 => ?_)
    ·
      replace hf := (if_neg c23).symm.trans hf
      exact j_X12_forBehind_143 l dC dI Q N R hx hb hr hml hown hts hlocks hZ hA hK p21.2 x1 _ _ _ hf hP hD hS (lv_sub hl [0, 1] rfl)
    ·
      replace hf := (if_pos c23).symm.trans hf
      obtain rfl := Option.some.inj hf
      exact W.vret hx hb hr (fun t ht hW => ⟨⟨(), rfl, trivial, by rw [ht]; exact hP, va_K.moved hW.alike hK, hD⟩, hS.F ht⟩) hS.2.2 dX12_forBehind_142
  ·
    replace hf := (if_neg c20).symm.trans hf
    refine lv_aload_n hx hb dX12_forBehind_121 rfl (lv_at hl 0 rfl) ?_
    refine rG_10 (v := (p18.i 10)) hx hb hts i_X12_forBehind_X12 hown hK hP (hts (.fieldLink RX12 307 "StatementRules2Model" "tok" "I") k_X12_forBehind_fieldLink_RX12_307_SRModel_tok_I) dX12_forBehind_122 rfl ?_
    refine lv_sipush (v := 307) hx hb dX12_forBehind_125 (by decide) ?_
    refine lv_icmp_ne (tgt := 135) hx hb dX12_forBehind_128 (by decide) (fun c33 => ?_) (fun c33 => ?_)
    ·
      replace hf := (if_neg c33).symm.trans hf
      refine lv_iconst (v := 0) hx hb dX12_forBehind_135 (by decide) ?_
      obtain ⟨p34, hcp34, hf⟩ := hf_bind hf
      have hFc := r_free hD hS hA
      refine va_calli (va_runV (As := [.int 0]) (rest := []) ⟨hx, hb, hml, hown, hts⟩ (c_X12_can l dC dI _ Q N p18 0 p34 hcp34) (cwV 1 hts hX12_forBehind_X12_can_v341 rfl rfl rfl (by decide +kernel) ⟨Nat.le_of_ble_eq_true rfl, Nat.le_of_ble_eq_true rfl⟩) ⟨zPre.blind, va_recv hK hP (ci := 11) (q0 := 0) rfl rfl, zPre.go hZ hP hK hD⟩ rfl rfl hl.1 rfl (lv_room (Nat.le_of_ble_eq_true rfl)) dX12_forBehind_136 ⟨Nat.le_of_ble_eq_true rfl, Nat.le_of_ble_eq_true rfl⟩) hS (fun q _ h => hFc q h) hFc (fun r35 u9 t9 H1 locs ht hvm hw hB hz1 hk1 hS => ?_)
      obtain ⟨hP, hK1, hD1⟩ := hB
      rw [ht] at hP
      have hD := hD1.weaken (fun _ _ _ h => hFc _ h)
      generalize H1 = H at hP hS ⊢
      obtain rfl : r35 = p34.1 := hw
      refine lv_if_ne (tgt := 143) hx hb dX12_forBehind_139 (by decide) (fun c36 => ?_) (fun c36 => ?_)
      ·
        replace hf := (if_neg c36).symm.trans hf
        exact j_X12_forBehind_143 l dC dI Q N R hx hb hr hml hown hts hlocks hZ hA hK p34.2 x1 _ _ _ hf hP hD hS (lv_sub hl [0, 1] rfl)
      ·
        replace hf := (if_pos c36).symm.trans hf
        obtain rfl := Option.some.inj hf
        exact W.vret hx hb hr (fun t ht hW => ⟨⟨(), rfl, trivial, by rw [ht]; exact hP, va_K.moved hW.alike hK, hD⟩, hS.F ht⟩) hS.2.2 dX12_forBehind_142
    ·
      replace hf := (if_pos c33).symm.trans hf
      refine lv_iconst (v := 1) hx hb dX12_forBehind_131 (by decide) ?_
      refine lv_goto (tgt := 136) hx hb dX12_forBehind_132 (by decide) ?_
      obtain ⟨p37, hcp37, hf⟩ := hf_bind hf
      have hFc := r_free hD hS hA
      refine va_calli (va_runV (As := [.int 1]) (rest := []) ⟨hx, hb, hml, hown, hts⟩ (c_X12_can l dC dI _ Q N p18 1 p37 hcp37) (cwV 1 hts hX12_forBehind_X12_can_v341 rfl rfl rfl (by decide +kernel) ⟨Nat.le_of_ble_eq_true rfl, Nat.le_of_ble_eq_true rfl⟩) ⟨zPre.blind, va_recv hK hP (ci := 11) (q0 := 0) rfl rfl, zPre.go hZ hP hK hD⟩ rfl rfl hl.1 rfl (lv_room (Nat.le_of_ble_eq_true rfl)) dX12_forBehind_136 ⟨Nat.le_of_ble_eq_true rfl, Nat.le_of_ble_eq_true rfl⟩) hS (fun q _ h => hFc q h) hFc (fun r38 u9 t9 H1 locs ht hvm hw hB hz1 hk1 hS => ?_)
      obtain ⟨hP, hK1, hD1⟩ := hB
      rw [ht] at hP
      have hD := hD1.weaken (fun _ _ _ h => hFc _ h)
      generalize H1 = H at hP hS ⊢
      obtain rfl : r38 = p37.1 := hw
      refine lv_if_ne (tgt := 143) hx hb dX12_forBehind_139 (by decide) (fun c39 => ?_) (fun c39 => ?_)
      ·
        replace hf := (if_neg c39).symm.trans hf
        exact j_X12_forBehind_143 l dC dI Q N R hx hb hr hml hown hts hlocks hZ hA hK p37.2 x1 _ _ _ hf hP hD hS (lv_sub hl [0, 1] rfl)
      ·
        replace hf := (if_pos c39).symm.trans hf
        obtain rfl := Option.some.inj hf
        exact W.vret hx hb hr (fun t ht hW => ⟨⟨(), rfl, trivial, by rw [ht]; exact hP, va_K.moved hW.alike hK, hD⟩, hS.F ht⟩) hS.2.2 dX12_forBehind_142
set_option maxHeartbeats 4000000 in
set_option maxRecDepth 100000 in
theorem c_X12_forBehind (l : Launch) (dC : Nat → ClassId) (dI : Nat → Nat → Nat) (sz : Nat) (Q : RQ) (N : Nat) (σ : RS) (x1 : Int32) (R : RS) (hf : f_X12_forBehind N σ x1 = some R) : Met l yX12_forBehind wzX12_forBehind ({ frames := 5, cells := 0, slots := 0, locals := 300 }) (va_Pc [.ref Q.h0, .int x1] (zPre dC dI sz (rW Q σ) (rT Q))) (va_Qv (fun (_ : Unit) => True) (fun (_ : Unit) (t : State) => zPost dC dI (va_A (rW Q σ) sz) (rW Q R) (rT Q) t) (va_A (rW Q σ) sz)) 0 0 (va_A (rW Q σ) sz) := by
  refine Met.ofW (cc := cX12_forBehind) (maxL := 3) (ret := none) (by decide) rfl ?_
  intro p e s m args below meth c s₁ B hml hv
  obtain ⟨rfl, hsz, hZ, hP, hK, hD0⟩ := hv
  have hx := B.exec
  have hb := B.bytes
  have hr := B.returns
  have hts := atoms_spec (ws := wzX12_forBehind) B.pre
  have hown : s.vm.findClass RX12 = some m.cls := findClass_of_methodNamed B.named
  have hlocks := B.notSynchronized
  subst hsz
  have hD := hD0.self (sz := s.heap.size)
  generalize hAe : va_A (rW Q σ) s.heap.size = A at hD ⊢
  have hA : ∀ q : Nat, s.heap.size ≤ q → A q := fun q h => by rw [← hAe]; exact Or.inr h
  have hS : va_S A s.heap s.heap [] := va_S.rf
  have hl := lv_entry ([.ref Q.h0, .int x1]) (n := 3) (Nat.le_of_ble_eq_true rfl)
  rw [lg_entry_eq]
  generalize (lg_sl ([.ref Q.h0, .int x1]) ++ List.replicate (3 - (lg_sl ([.ref Q.h0, .int x1])).length) Slot.unset).toArray = ls at hl ⊢
  have hl : lv_has ls 3 [(0, .ref Q.h0), (1, .int x1)] := hl
  unfold f_X12_forBehind at hf
  refine lv_aload_n hx hb dX12_forBehind_0 rfl (lv_at hl 0 rfl) ?_
  refine lv_bipush (v := 59) hx hb dX12_forBehind_1 (by decide) ?_
  obtain ⟨p1, hcp1, hf⟩ := hf_bind hf
  have hFc := r_free hD hS hA
  refine va_calli (va_runV (As := [.int 59]) (rest := []) ⟨hx, hb, hml, hown, hts⟩ (c_X12_need l dC dI _ Q N σ 59 p1 hcp1) (cwV 1 hts hX12_forBehind_X12_need_v355 rfl rfl rfl (by decide +kernel) ⟨Nat.le_of_ble_eq_true rfl, Nat.le_of_ble_eq_true rfl⟩) ⟨zPre.blind, va_recv hK hP (ci := 11) (q0 := 0) rfl rfl, zPre.go hZ hP hK hD⟩ rfl rfl hl.1 rfl (lv_room (Nat.le_of_ble_eq_true rfl)) dX12_forBehind_3 ⟨Nat.le_of_ble_eq_true rfl, Nat.le_of_ble_eq_true rfl⟩) hS (fun q _ h => hFc q h) hFc (fun r2 u9 t9 H1 locs ht hvm hw hB hz1 hk1 hS => ?_)
  obtain ⟨hP, hK1, hD1⟩ := hB
  rw [ht] at hP
  have hD := hD1.weaken (fun _ _ _ h => hFc _ h)
  generalize H1 = H at hP hS ⊢
  obtain rfl : r2 = p1.1 := hw
  refine lv_pop hx hb dX12_forBehind_6 rfl ?_
  refine lv_aload_n hx hb dX12_forBehind_7 rfl (lv_at hl 0 rfl) ?_
  refine rG_67 hx hb hts i_X12_forBehind_X12 hown hK hP (hts (.fieldLink RX12 183 "StatementRules2Model" "fq" "[I") k_X12_forBehind_fieldLink_RX12_183_SRModel_fq_I) dX12_forBehind_8 ?_
  refine lv_iload_n hx hb dX12_forBehind_11 rfl (lv_at hl 1 rfl) ?_
  refine lv_aload_n hx hb dX12_forBehind_12 rfl (lv_at hl 0 rfl) ?_
  refine lv_bipush (v := 13) hx hb dX12_forBehind_13 (by decide) ?_
  refine lv_iconst (v := 0) hx hb dX12_forBehind_15 (by decide) ?_
  obtain ⟨p3, hcp3, hf⟩ := hf_bind hf
  have hFc := r_free hD hS hA
  refine va_calli (va_runV (As := [.int 13, .int 0]) (rest := [.int x1, .ref (Q.q 67)]) ⟨hx, hb, hml, hown, hts⟩ (c_X12_emit l dC dI _ Q N p1.2 13 0 p3 hcp3) (cwV 2 hts hX12_forBehind_X12_emit_v464 rfl rfl rfl (by decide +kernel) ⟨Nat.le_of_ble_eq_true rfl, Nat.le_of_ble_eq_true rfl⟩) ⟨zPre.blind, va_recv hK hP (ci := 11) (q0 := 0) rfl rfl, zPre.go hZ hP hK hD⟩ rfl rfl hl.1 rfl (lv_room (Nat.le_of_ble_eq_true rfl)) dX12_forBehind_16 ⟨Nat.le_of_ble_eq_true rfl, Nat.le_of_ble_eq_true rfl⟩) hS (fun q _ h => hFc q h) hFc (fun r4 u9 t9 H1 locs ht hvm hw hB hz1 hk1 hS => ?_)
  obtain ⟨hP, hK1, hD1⟩ := hB
  rw [ht] at hP
  have hD := hD1.weaken (fun _ _ _ h => hFc _ h)
  generalize H1 = H at hP hS ⊢
  obtain rfl : r4 = p3.1 := hw
  obtain ⟨b5, hf⟩ := hf_ite hf
  refine rS_67 hx hb hK hP hD hS b5 dX12_forBehind_19 (fun H locs hP hD hS => ?_)
  refine lv_aload_n hx hb dX12_forBehind_20 rfl (lv_at hl 0 rfl) ?_
  refine rG_68 hx hb hts i_X12_forBehind_X12 hown hK hP (hts (.fieldLink RX12 186 "StatementRules2Model" "fr" "[I") k_X12_forBehind_fieldLink_RX12_186_SRModel_fr_I) dX12_forBehind_21 ?_
  refine lv_iload_n hx hb dX12_forBehind_24 rfl (lv_at hl 1 rfl) ?_
  refine lv_aload_n hx hb dX12_forBehind_25 rfl (lv_at hl 0 rfl) ?_
  refine lv_bipush (v := 15) hx hb dX12_forBehind_26 (by decide) ?_
  refine lv_iconst (v := 0) hx hb dX12_forBehind_28 (by decide) ?_
  obtain ⟨p6, hcp6, hf⟩ := hf_bind hf
  have hFc := r_free hD hS hA
  refine va_calli (va_runV (As := [.int 15, .int 0]) (rest := [.int x1, .ref (Q.q 68)]) ⟨hx, hb, hml, hown, hts⟩ (c_X12_emit l dC dI _ Q N (RS.setA p3.2 67 ((x1 : Int32).toNatClampNeg) p3.1) 15 0 p6 hcp6) (cwV 2 hts hX12_forBehind_X12_emit_v464 rfl rfl rfl (by decide +kernel) ⟨Nat.le_of_ble_eq_true rfl, Nat.le_of_ble_eq_true rfl⟩) ⟨zPre.blind, va_recv hK hP (ci := 11) (q0 := 0) rfl rfl, zPre.go hZ hP hK hD⟩ rfl rfl hl.1 rfl (lv_room (Nat.le_of_ble_eq_true rfl)) dX12_forBehind_29 ⟨Nat.le_of_ble_eq_true rfl, Nat.le_of_ble_eq_true rfl⟩) hS (fun q _ h => hFc q h) hFc (fun r7 u9 t9 H1 locs ht hvm hw hB hz1 hk1 hS => ?_)
  obtain ⟨hP, hK1, hD1⟩ := hB
  rw [ht] at hP
  have hD := hD1.weaken (fun _ _ _ h => hFc _ h)
  generalize H1 = H at hP hS ⊢
  obtain rfl : r7 = p6.1 := hw
  refine rS_68 hx hb hK hP hD hS b5 dX12_forBehind_32 (fun H locs hP hD hS => ?_)
  refine lv_aload_n hx hb dX12_forBehind_33 rfl (lv_at hl 0 rfl) ?_
  refine rG_70 hx hb hts i_X12_forBehind_X12 hown hK hP (hts (.fieldLink RX12 192 "StatementRules2Model" "fw" "[I") k_X12_forBehind_fieldLink_RX12_192_SRModel_fw_I) dX12_forBehind_34 ?_
  refine lv_iload_n hx hb dX12_forBehind_37 rfl (lv_at hl 1 rfl) ?_
  refine lv_aload_n hx hb dX12_forBehind_38 rfl (lv_at hl 0 rfl) ?_
  refine rG_20 (v := (p6.2.i 20)) hx hb hts i_X12_forBehind_X12 hown hK hP (hts (.fieldLink RX12 358 "StatementRules2Model" "codes" "I") k_X12_forBehind_fieldLink_RX12_358_SRModel_codes_I) dX12_forBehind_39 rfl ?_
  refine rS_70 hx hb hK hP hD hS b5 dX12_forBehind_42 (fun H locs hP hD hS => ?_)
  refine lv_aload_n hx hb dX12_forBehind_43 rfl (lv_at hl 0 rfl) ?_
  refine rG_15 (v := (p6.2.i 15)) hx hb hts i_X12_forBehind_X12 hown hK hP (hts (.fieldLink RX12 291 "StatementRules2Model" "fault" "I") k_X12_forBehind_fieldLink_RX12_291_SRModel_fault_I) dX12_forBehind_44 rfl ?_
  refine lv_if_ne (tgt := 59) hx hb dX12_forBehind_47 (by decide) (fun c8 => ?_) (fun c8 => ?_)
  ·
    replace hf := (if_neg c8).symm.trans hf
    exact j_X12_forBehind_59 l dC dI Q N R hx hb hr hml hown hts hlocks hZ hA hK (RS.setA (RS.setA p6.2 68 ((x1 : Int32).toNatClampNeg) p6.1) 70 ((x1 : Int32).toNatClampNeg) (p6.2.i 20)) x1 _ _ _ hf hP hD hS (lv_sub hl [0, 1] rfl)
  ·
    replace hf := (if_pos c8).symm.trans hf
    refine lv_aload_n hx hb dX12_forBehind_50 rfl (lv_at hl 0 rfl) ?_
    refine rG_10 (v := (p6.2.i 10)) hx hb hts i_X12_forBehind_X12 hown hK hP (hts (.fieldLink RX12 307 "StatementRules2Model" "tok" "I") k_X12_forBehind_fieldLink_RX12_307_SRModel_tok_I) dX12_forBehind_51 rfl ?_
    refine lv_bipush (v := 41) hx hb dX12_forBehind_54 (by decide) ?_
    refine lv_icmp_ne (tgt := 68) hx hb dX12_forBehind_56 (by decide) (fun c10 => ?_) (fun c10 => ?_)
    ·
      replace hf := (if_neg c10).symm.trans hf
      refine lv_aload_n hx hb dX12_forBehind_68 rfl (lv_at hl 0 rfl) ?_
      refine lv_aload_n hx hb dX12_forBehind_69 rfl (lv_at hl 0 rfl) ?_
      refine rG_10 (v := (p6.2.i 10)) hx hb hts i_X12_forBehind_X12 hown hK hP (hts (.fieldLink RX12 307 "StatementRules2Model" "tok" "I") k_X12_forBehind_fieldLink_RX12_307_SRModel_tok_I) dX12_forBehind_70 rfl ?_
      refine lv_iconst (v := 2) hx hb dX12_forBehind_73 (by decide) ?_
      refine lv_icmp_ne (tgt := 81) hx hb dX12_forBehind_74 (by decide) (fun c11 => ?_) (fun c11 => ?_)
      ·
        replace hf := (if_neg c11).symm.trans hf
        refine lv_iconst (v := 0) hx hb dX12_forBehind_81 (by decide) ?_
        obtain ⟨p12, hcp12, hf⟩ := hf_bind hf
        have hFc := r_free hD hS hA
        refine va_calli (va_runV (As := [.int 0]) (rest := []) ⟨hx, hb, hml, hown, hts⟩ (c_X12_can l dC dI _ Q N (RS.setA (RS.setA p6.2 68 ((x1 : Int32).toNatClampNeg) p6.1) 70 ((x1 : Int32).toNatClampNeg) (p6.2.i 20)) 0 p12 hcp12) (cwV 1 hts hX12_forBehind_X12_can_v341 rfl rfl rfl (by decide +kernel) ⟨Nat.le_of_ble_eq_true rfl, Nat.le_of_ble_eq_true rfl⟩) ⟨zPre.blind, va_recv hK hP (ci := 11) (q0 := 0) rfl rfl, zPre.go hZ hP hK hD⟩ rfl rfl hl.1 rfl (lv_room (Nat.le_of_ble_eq_true rfl)) dX12_forBehind_82 ⟨Nat.le_of_ble_eq_true rfl, Nat.le_of_ble_eq_true rfl⟩) hS (fun q _ h => hFc q h) hFc (fun r13 u9 t9 H1 locs ht hvm hw hB hz1 hk1 hS => ?_)
        obtain ⟨hP, hK1, hD1⟩ := hB
        rw [ht] at hP
        have hD := hD1.weaken (fun _ _ _ h => hFc _ h)
        generalize H1 = H at hP hS ⊢
        obtain rfl : r13 = p12.1 := hw
        refine lv_if_ne (tgt := 89) hx hb dX12_forBehind_85 (by decide) (fun c14 => ?_) (fun c14 => ?_)
        ·
          replace hf := (if_neg c14).symm.trans hf
          exact j_X12_forBehind_89 l dC dI Q N R hx hb hr hml hown hts hlocks hZ hA hK p12.2 x1 _ _ _ hf hP hD hS (lv_sub hl [0, 1] rfl)
        ·
          replace hf := (if_pos c14).symm.trans hf
          obtain rfl := Option.some.inj hf
          exact W.vret hx hb hr (fun t ht hW => ⟨⟨(), rfl, trivial, by rw [ht]; exact hP, va_K.moved hW.alike hK, hD⟩, hS.F ht⟩) hS.2.2 dX12_forBehind_88
      ·
        replace hf := (if_pos c11).symm.trans hf
        refine lv_iconst (v := 1) hx hb dX12_forBehind_77 (by decide) ?_
        refine lv_goto (tgt := 82) hx hb dX12_forBehind_78 (by decide) ?_
        obtain ⟨p40, hcp40, hf⟩ := hf_bind hf
        have hFc := r_free hD hS hA
        refine va_calli (va_runV (As := [.int 1]) (rest := []) ⟨hx, hb, hml, hown, hts⟩ (c_X12_can l dC dI _ Q N (RS.setA (RS.setA p6.2 68 ((x1 : Int32).toNatClampNeg) p6.1) 70 ((x1 : Int32).toNatClampNeg) (p6.2.i 20)) 1 p40 hcp40) (cwV 1 hts hX12_forBehind_X12_can_v341 rfl rfl rfl (by decide +kernel) ⟨Nat.le_of_ble_eq_true rfl, Nat.le_of_ble_eq_true rfl⟩) ⟨zPre.blind, va_recv hK hP (ci := 11) (q0 := 0) rfl rfl, zPre.go hZ hP hK hD⟩ rfl rfl hl.1 rfl (lv_room (Nat.le_of_ble_eq_true rfl)) dX12_forBehind_82 ⟨Nat.le_of_ble_eq_true rfl, Nat.le_of_ble_eq_true rfl⟩) hS (fun q _ h => hFc q h) hFc (fun r41 u9 t9 H1 locs ht hvm hw hB hz1 hk1 hS => ?_)
        obtain ⟨hP, hK1, hD1⟩ := hB
        rw [ht] at hP
        have hD := hD1.weaken (fun _ _ _ h => hFc _ h)
        generalize H1 = H at hP hS ⊢
        obtain rfl : r41 = p40.1 := hw
        refine lv_if_ne (tgt := 89) hx hb dX12_forBehind_85 (by decide) (fun c42 => ?_) (fun c42 => ?_)
        ·
          replace hf := (if_neg c42).symm.trans hf
          exact j_X12_forBehind_89 l dC dI Q N R hx hb hr hml hown hts hlocks hZ hA hK p40.2 x1 _ _ _ hf hP hD hS (lv_sub hl [0, 1] rfl)
        ·
          replace hf := (if_pos c42).symm.trans hf
          obtain rfl := Option.some.inj hf
          exact W.vret hx hb hr (fun t ht hW => ⟨⟨(), rfl, trivial, by rw [ht]; exact hP, va_K.moved hW.alike hK, hD⟩, hS.F ht⟩) hS.2.2 dX12_forBehind_88
    ·
      replace hf := (if_pos c10).symm.trans hf
      exact j_X12_forBehind_59 l dC dI Q N R hx hb hr hml hown hts hlocks hZ hA hK (RS.setA (RS.setA p6.2 68 ((x1 : Int32).toNatClampNeg) p6.1) 70 ((x1 : Int32).toNatClampNeg) (p6.2.i 20)) x1 _ _ _ hf hP hD hS (lv_sub hl [0, 1] rfl)
theorem k_X12_rows_fieldLink_RX12_177_SRModel_fs_I : Cond.fieldLink RX12 177 "StatementRules2Model" "fs" "[I" ∈ wzX12_rows := List.mem_cons_of_mem _ (List.mem_append_left _ (List.mem_of_getElem? (i := 0) rfl))
theorem i_X12_rows_X12 : ∀ w ∈ wsX120, w ∈ wzX12_rows := fun _ h => List.mem_cons_of_mem _ (List.mem_append_right _ (List.mem_append_left _ (h)))
theorem k_X12_rows_fieldLink_RX12_201_SRModel_fz_I : Cond.fieldLink RX12 201 "StatementRules2Model" "fz" "[I" ∈ wzX12_rows := List.mem_cons_of_mem _ (List.mem_append_left _ (List.mem_of_getElem? (i := 1) rfl))
theorem k_X12_rows_fieldLink_RX12_150_SRModel_continues_I : Cond.fieldLink RX12 150 "StatementRules2Model" "continues" "[I" ∈ wzX12_rows := List.mem_cons_of_mem _ (List.mem_append_left _ (List.mem_of_getElem? (i := 2) rfl))
theorem k_X12_rows_fieldLink_RX12_180_SRModel_fp_I : Cond.fieldLink RX12 180 "StatementRules2Model" "fp" "[I" ∈ wzX12_rows := List.mem_cons_of_mem _ (List.mem_append_left _ (List.mem_of_getElem? (i := 3) rfl))
theorem k_X12_rows_fieldLink_RX12_87_SRModel_ix_I : Cond.fieldLink RX12 87 "StatementRules2Model" "ix" "[I" ∈ wzX12_rows := List.mem_cons_of_mem _ (List.mem_append_left _ (List.mem_of_getElem? (i := 4) rfl))
theorem k_X12_rows_fieldLink_RX12_358_SRModel_codes_I : Cond.fieldLink RX12 358 "StatementRules2Model" "codes" "I" ∈ wzX12_rows := List.mem_cons_of_mem _ (List.mem_append_left _ (List.mem_of_getElem? (i := 5) rfl))
theorem k_X12_rows_fieldLink_RX12_147_SRModel_breaks_I : Cond.fieldLink RX12 147 "StatementRules2Model" "breaks" "[I" ∈ wzX12_rows := List.mem_cons_of_mem _ (List.mem_append_left _ (List.mem_of_getElem? (i := 6) rfl))
theorem k_X12_rows_fieldLink_RX12_370_SRModel_depth_I : Cond.fieldLink RX12 370 "StatementRules2Model" "depth" "I" ∈ wzX12_rows := List.mem_cons_of_mem _ (List.mem_append_left _ (List.mem_of_getElem? (i := 7) rfl))
theorem k_X12_rows_fieldLink_RX12_367_SRModel_goals_I : Cond.fieldLink RX12 367 "StatementRules2Model" "goals" "I" ∈ wzX12_rows := List.mem_cons_of_mem _ (List.mem_append_left _ (List.mem_of_getElem? (i := 8) rfl))
theorem k_X12_rows_fieldLink_RX12_195_SRModel_fx_I : Cond.fieldLink RX12 195 "StatementRules2Model" "fx" "[I" ∈ wzX12_rows := List.mem_cons_of_mem _ (List.mem_append_left _ (List.mem_of_getElem? (i := 9) rfl))
theorem k_X12_rows_fieldLink_RX12_361_SRModel_seen_I : Cond.fieldLink RX12 361 "StatementRules2Model" "seen" "I" ∈ wzX12_rows := List.mem_cons_of_mem _ (List.mem_append_left _ (List.mem_of_getElem? (i := 10) rfl))
theorem k_X12_rows_fieldLink_RX12_204_SRModel_fn_J : Cond.fieldLink RX12 204 "StatementRules2Model" "fn" "[J" ∈ wzX12_rows := List.mem_cons_of_mem _ (List.mem_append_left _ (List.mem_of_getElem? (i := 11) rfl))
theorem k_X12_rows_fieldLink_RX12_90_SRModel_iy_I : Cond.fieldLink RX12 90 "StatementRules2Model" "iy" "[I" ∈ wzX12_rows := List.mem_cons_of_mem _ (List.mem_append_left _ (List.mem_of_getElem? (i := 12) rfl))
theorem k_X12_rows_fieldLink_RX12_186_SRModel_fr_I : Cond.fieldLink RX12 186 "StatementRules2Model" "fr" "[I" ∈ wzX12_rows := List.mem_cons_of_mem _ (List.mem_append_left _ (List.mem_of_getElem? (i := 13) rfl))
theorem k_X12_rows_fieldLink_RX12_307_SRModel_tok_I : Cond.fieldLink RX12 307 "StatementRules2Model" "tok" "I" ∈ wzX12_rows := List.mem_cons_of_mem _ (List.mem_append_left _ (List.mem_of_getElem? (i := 14) rfl))
set_option maxHeartbeats 4000000 in
set_option maxRecDepth 100000 in
theorem c_X12_rows (l : Launch) (dC : Nat → ClassId) (dI : Nat → Nat → Nat) (sz : Nat) (Q : RQ) (N : Nat) (σ : RS) (x1 : Int32) (R : RS) (hf : f_X12_rows N σ x1 = some R) : Met l yX12_rows wzX12_rows ({ frames := 6, cells := 0, slots := 0, locals := 360 }) (va_Pc [.ref Q.h0, .int x1] (zPre dC dI sz (rW Q σ) (rT Q))) (va_Qv (fun (_ : Unit) => True) (fun (_ : Unit) (t : State) => zPost dC dI (va_A (rW Q σ) sz) (rW Q R) (rT Q) t) (va_A (rW Q σ) sz)) 0 0 (va_A (rW Q σ) sz) := by
  refine Met.ofW (cc := cX12_rows) (maxL := 3) (ret := none) (by decide) rfl ?_
  intro p e s m args below meth c s₁ B hml hv
  obtain ⟨rfl, hsz, hZ, hP, hK, hD0⟩ := hv
  have hx := B.exec
  have hb := B.bytes
  have hr := B.returns
  have hts := atoms_spec (ws := wzX12_rows) B.pre
  have hown : s.vm.findClass RX12 = some m.cls := findClass_of_methodNamed B.named
  have hlocks := B.notSynchronized
  subst hsz
  have hD := hD0.self (sz := s.heap.size)
  generalize hAe : va_A (rW Q σ) s.heap.size = A at hD ⊢
  have hA : ∀ q : Nat, s.heap.size ≤ q → A q := fun q h => by rw [← hAe]; exact Or.inr h
  have hS : va_S A s.heap s.heap [] := va_S.rf
  have hl := lv_entry ([.ref Q.h0, .int x1]) (n := 3) (Nat.le_of_ble_eq_true rfl)
  rw [lg_entry_eq]
  generalize (lg_sl ([.ref Q.h0, .int x1]) ++ List.replicate (3 - (lg_sl ([.ref Q.h0, .int x1])).length) Slot.unset).toArray = ls at hl ⊢
  have hl : lv_has ls 3 [(0, .ref Q.h0), (1, .int x1)] := hl
  unfold f_X12_rows at hf
  refine lv_aload_n hx hb dX12_rows_0 rfl (lv_at hl 0 rfl) ?_
  refine rG_65 hx hb hts i_X12_rows_X12 hown hK hP (hts (.fieldLink RX12 177 "StatementRules2Model" "fs" "[I") k_X12_rows_fieldLink_RX12_177_SRModel_fs_I) dX12_rows_1 ?_
  refine lv_iload_n hx hb dX12_rows_4 rfl (lv_at hl 1 rfl) ?_
  obtain ⟨b1, hf⟩ := hf_ite hf
  refine rL_65 (v := (σ.a 65 ((x1 : Int32).toNatClampNeg))) hx hb hK hP b1 dX12_rows_5 rfl ?_
  refine lv_bipush (v := 10) hx hb dX12_rows_6 (by decide) ?_
  refine lv_icmp_ne (tgt := 69) hx hb dX12_rows_8 (by decide) (fun c2 => ?_) (fun c2 => ?_)
  ·
    replace hf := (if_neg c2).symm.trans hf
    refine lv_aload_n hx hb dX12_rows_69 rfl (lv_at hl 0 rfl) ?_
    refine rG_65 hx hb hts i_X12_rows_X12 hown hK hP (hts (.fieldLink RX12 177 "StatementRules2Model" "fs" "[I") k_X12_rows_fieldLink_RX12_177_SRModel_fs_I) dX12_rows_70 ?_
    refine lv_iload_n hx hb dX12_rows_73 rfl (lv_at hl 1 rfl) ?_
    refine rL_65 (v := (σ.a 65 ((x1 : Int32).toNatClampNeg))) hx hb hK hP b1 dX12_rows_74 rfl ?_
    refine lv_bipush (v := 12) hx hb dX12_rows_75 (by decide) ?_
    refine lv_icmp_ne (tgt := 153) hx hb dX12_rows_77 (by decide) (fun c3 => ?_) (fun c3 => ?_)
    ·
      replace hf := (if_neg c3).symm.trans hf
      refine lv_aload_n hx hb dX12_rows_153 rfl (lv_at hl 0 rfl) ?_
      refine rG_73 hx hb hts i_X12_rows_X12 hown hK hP (hts (.fieldLink RX12 201 "StatementRules2Model" "fz" "[I") k_X12_rows_fieldLink_RX12_201_SRModel_fz_I) dX12_rows_154 ?_
      refine lv_iload_n hx hb dX12_rows_157 rfl (lv_at hl 1 rfl) ?_
      refine rL_73 (v := (σ.a 73 ((x1 : Int32).toNatClampNeg))) hx hb hK hP b1 dX12_rows_158 rfl ?_
      refine lv_istore_n (lv' := [(2, .int (σ.a 73 ((x1 : Int32).toNatClampNeg))), (0, .ref Q.h0), (1, .int x1)]) hx hb dX12_rows_159 rfl hl (by decide) rfl (fun ls hl => ?_)
      refine lv_aload_n hx hb dX12_rows_160 rfl (lv_at hl 1 rfl) ?_
      refine lv_aload_n hx hb dX12_rows_161 rfl (lv_at hl 1 rfl) ?_
      refine rG_49 hx hb hts i_X12_rows_X12 hown hK hP (hts (.fieldLink RX12 150 "StatementRules2Model" "continues" "[I") k_X12_rows_fieldLink_RX12_150_SRModel_continues_I) dX12_rows_162 ?_
      refine lv_iload_n hx hb dX12_rows_165 rfl (lv_at hl 0 rfl) ?_
      obtain ⟨b4, hf⟩ := hf_ite hf
      refine rL_49 (v := (σ.a 49 (((σ.a 73 ((x1 : Int32).toNatClampNeg)) : Int32).toNatClampNeg))) hx hb hK hP b4 dX12_rows_166 rfl ?_
      refine lv_aload_n hx hb dX12_rows_167 rfl (lv_at hl 1 rfl) ?_
      refine rG_66 hx hb hts i_X12_rows_X12 hown hK hP (hts (.fieldLink RX12 180 "StatementRules2Model" "fp" "[I") k_X12_rows_fieldLink_RX12_180_SRModel_fp_I) dX12_rows_168 ?_
      refine lv_iload_n hx hb dX12_rows_171 rfl (lv_at hl 2 rfl) ?_
      refine rL_66 (v := (σ.a 66 ((x1 : Int32).toNatClampNeg))) hx hb hK hP b1 dX12_rows_172 rfl ?_
      obtain ⟨p5, hcp5, hf⟩ := hf_bind hf
      have hFc := r_free hD hS hA
      refine va_callv (va_runV (As := [.int (σ.a 49 (((σ.a 73 ((x1 : Int32).toNatClampNeg)) : Int32).toNatClampNeg)), .int (σ.a 66 ((x1 : Int32).toNatClampNeg))]) (rest := []) ⟨hx, hb, hml, hown, hts⟩ (c_X12_patch l dC dI _ Q N σ (σ.a 49 (((σ.a 73 ((x1 : Int32).toNatClampNeg)) : Int32).toNatClampNeg)) (σ.a 66 ((x1 : Int32).toNatClampNeg)) p5 hcp5) (cwV 2 hts hX12_rows_X12_patch_v510 rfl rfl rfl (by decide +kernel) ⟨Nat.le_of_ble_eq_true rfl, Nat.le_of_ble_eq_true rfl⟩) ⟨zPre.blind, va_recv hK hP (ci := 11) (q0 := 0) rfl rfl, zPre.go hZ hP hK hD⟩ rfl rfl hl.1 rfl (lv_room (Nat.le_of_ble_eq_true rfl)) dX12_rows_173 ⟨Nat.le_of_ble_eq_true rfl, Nat.le_of_ble_eq_true rfl⟩) hS (fun q _ h => hFc q h) hFc (fun u9 t9 H1 locs ht hvm hw hB hz1 hk1 hS => ?_)
      obtain ⟨hP, hK1, hD1⟩ := hB
      rw [ht] at hP
      have hD := hD1.weaken (fun _ _ _ h => hFc _ h)
      generalize H1 = H at hP hS ⊢
      refine lv_aload_n hx hb dX12_rows_176 rfl (lv_at hl 1 rfl) ?_
      refine lv_bipush (v := 15) hx hb dX12_rows_177 (by decide) ?_
      refine lv_aload_n hx hb dX12_rows_179 rfl (lv_at hl 1 rfl) ?_
      refine rG_66 hx hb hts i_X12_rows_X12 hown hK hP (hts (.fieldLink RX12 180 "StatementRules2Model" "fp" "[I") k_X12_rows_fieldLink_RX12_180_SRModel_fp_I) dX12_rows_180 ?_
      refine lv_iload_n hx hb dX12_rows_183 rfl (lv_at hl 2 rfl) ?_
      refine rL_66 (v := (p5.a 66 ((x1 : Int32).toNatClampNeg))) hx hb hK hP b1 dX12_rows_184 rfl ?_
      obtain ⟨p7, hcp7, hf⟩ := hf_bind hf
      have hFc := r_free hD hS hA
      refine va_calli (va_runV (As := [.int 15, .int (p5.a 66 ((x1 : Int32).toNatClampNeg))]) (rest := []) ⟨hx, hb, hml, hown, hts⟩ (c_X12_emit l dC dI _ Q N p5 15 (p5.a 66 ((x1 : Int32).toNatClampNeg)) p7 hcp7) (cwV 2 hts hX12_rows_X12_emit_v464 rfl rfl rfl (by decide +kernel) ⟨Nat.le_of_ble_eq_true rfl, Nat.le_of_ble_eq_true rfl⟩) ⟨zPre.blind, va_recv hK hP (ci := 11) (q0 := 0) rfl rfl, zPre.go hZ hP hK hD⟩ rfl rfl hl.1 rfl (lv_room (Nat.le_of_ble_eq_true rfl)) dX12_rows_185 ⟨Nat.le_of_ble_eq_true rfl, Nat.le_of_ble_eq_true rfl⟩) hS (fun q _ h => hFc q h) hFc (fun r8 u9 t9 H1 locs ht hvm hw hB hz1 hk1 hS => ?_)
      obtain ⟨hP, hK1, hD1⟩ := hB
      rw [ht] at hP
      have hD := hD1.weaken (fun _ _ _ h => hFc _ h)
      generalize H1 = H at hP hS ⊢
      obtain rfl : r8 = p7.1 := hw
      refine lv_pop hx hb dX12_rows_188 rfl ?_
      refine lv_aload_n hx hb dX12_rows_189 rfl (lv_at hl 1 rfl) ?_
      refine rG_22 hx hb hts i_X12_rows_X12 hown hK hP (hts (.fieldLink RX12 87 "StatementRules2Model" "ix" "[I") k_X12_rows_fieldLink_RX12_87_SRModel_ix_I) dX12_rows_190 ?_
      refine lv_aload_n hx hb dX12_rows_193 rfl (lv_at hl 1 rfl) ?_
      refine rG_66 hx hb hts i_X12_rows_X12 hown hK hP (hts (.fieldLink RX12 180 "StatementRules2Model" "fp" "[I") k_X12_rows_fieldLink_RX12_180_SRModel_fp_I) dX12_rows_194 ?_
      refine lv_iload_n hx hb dX12_rows_197 rfl (lv_at hl 2 rfl) ?_
      refine rL_66 (v := (p7.2.a 66 ((x1 : Int32).toNatClampNeg))) hx hb hK hP b1 dX12_rows_198 rfl ?_
      refine lv_aload_n hx hb dX12_rows_199 rfl (lv_at hl 1 rfl) ?_
      refine rG_20 (v := (p7.2.i 20)) hx hb hts i_X12_rows_X12 hown hK hP (hts (.fieldLink RX12 358 "StatementRules2Model" "codes" "I") k_X12_rows_fieldLink_RX12_358_SRModel_codes_I) dX12_rows_200 rfl ?_
      obtain ⟨b9, hf⟩ := hf_ite hf
      refine rS_22 hx hb hK hP hD hS b9 dX12_rows_203 (fun H locs hP hD hS => ?_)
      refine lv_aload_n hx hb dX12_rows_204 rfl (lv_at hl 1 rfl) ?_
      refine lv_aload_n hx hb dX12_rows_205 rfl (lv_at hl 1 rfl) ?_
      refine rG_48 hx hb hts i_X12_rows_X12 hown hK hP (hts (.fieldLink RX12 147 "StatementRules2Model" "breaks" "[I") k_X12_rows_fieldLink_RX12_147_SRModel_breaks_I) dX12_rows_206 ?_
      refine lv_iload_n hx hb dX12_rows_209 rfl (lv_at hl 0 rfl) ?_
      refine rL_48 (v := (p7.2.a 48 (((σ.a 73 ((x1 : Int32).toNatClampNeg)) : Int32).toNatClampNeg))) hx hb hK hP b4 dX12_rows_210 rfl ?_
      refine lv_aload_n hx hb dX12_rows_211 rfl (lv_at hl 1 rfl) ?_
      refine rG_20 (v := (p7.2.i 20)) hx hb hts i_X12_rows_X12 hown hK hP (hts (.fieldLink RX12 358 "StatementRules2Model" "codes" "I") k_X12_rows_fieldLink_RX12_358_SRModel_codes_I) dX12_rows_212 rfl ?_
      obtain ⟨p10, hcp10, hf⟩ := hf_bind hf
      have hFc := r_free hD hS hA
      refine va_callv (va_runV (As := [.int (p7.2.a 48 (((σ.a 73 ((x1 : Int32).toNatClampNeg)) : Int32).toNatClampNeg)), .int (p7.2.i 20)]) (rest := []) ⟨hx, hb, hml, hown, hts⟩ (c_X12_patch l dC dI _ Q N (RS.setA p7.2 22 (((p7.2.a 66 ((x1 : Int32).toNatClampNeg)) : Int32).toNatClampNeg) (p7.2.i 20)) (p7.2.a 48 (((σ.a 73 ((x1 : Int32).toNatClampNeg)) : Int32).toNatClampNeg)) (p7.2.i 20) p10 hcp10) (cwV 2 hts hX12_rows_X12_patch_v510 rfl rfl rfl (by decide +kernel) ⟨Nat.le_of_ble_eq_true rfl, Nat.le_of_ble_eq_true rfl⟩) ⟨zPre.blind, va_recv hK hP (ci := 11) (q0 := 0) rfl rfl, zPre.go hZ hP hK hD⟩ rfl rfl hl.1 rfl (lv_room (Nat.le_of_ble_eq_true rfl)) dX12_rows_215 ⟨Nat.le_of_ble_eq_true rfl, Nat.le_of_ble_eq_true rfl⟩) hS (fun q _ h => hFc q h) hFc (fun u9 t9 H1 locs ht hvm hw hB hz1 hk1 hS => ?_)
      obtain ⟨hP, hK1, hD1⟩ := hB
      rw [ht] at hP
      have hD := hD1.weaken (fun _ _ _ h => hFc _ h)
      generalize H1 = H at hP hS ⊢
      refine lv_aload_n hx hb dX12_rows_218 rfl (lv_at hl 1 rfl) ?_
      refine lv_bipush (v := 25) hx hb dX12_rows_219 (by decide) ?_
      refine lv_iconst (v := 0) hx hb dX12_rows_221 (by decide) ?_
      obtain ⟨p12, hcp12, hf⟩ := hf_bind hf
      have hFc := r_free hD hS hA
      refine va_calli (va_runV (As := [.int 25, .int 0]) (rest := []) ⟨hx, hb, hml, hown, hts⟩ (c_X12_emit l dC dI _ Q N p10 25 0 p12 hcp12) (cwV 2 hts hX12_rows_X12_emit_v464 rfl rfl rfl (by decide +kernel) ⟨Nat.le_of_ble_eq_true rfl, Nat.le_of_ble_eq_true rfl⟩) ⟨zPre.blind, va_recv hK hP (ci := 11) (q0 := 0) rfl rfl, zPre.go hZ hP hK hD⟩ rfl rfl hl.1 rfl (lv_room (Nat.le_of_ble_eq_true rfl)) dX12_rows_222 ⟨Nat.le_of_ble_eq_true rfl, Nat.le_of_ble_eq_true rfl⟩) hS (fun q _ h => hFc q h) hFc (fun r13 u9 t9 H1 locs ht hvm hw hB hz1 hk1 hS => ?_)
      obtain ⟨hP, hK1, hD1⟩ := hB
      rw [ht] at hP
      have hD := hD1.weaken (fun _ _ _ h => hFc _ h)
      generalize H1 = H at hP hS ⊢
      obtain rfl : r13 = p12.1 := hw
      refine lv_pop hx hb dX12_rows_225 rfl ?_
      refine lv_aload_n hx hb dX12_rows_226 rfl (lv_at hl 1 rfl) ?_
      refine lv_dup hx hb dX12_rows_227 rfl ?_
      refine rG_52 (v := (p12.2.i 52)) hx hb hts i_X12_rows_X12 hown hK hP (hts (.fieldLink RX12 370 "StatementRules2Model" "depth" "I") k_X12_rows_fieldLink_RX12_370_SRModel_depth_I) dX12_rows_228 rfl ?_
      refine lv_iconst (v := 1) hx hb dX12_rows_231 (by decide) ?_
      refine lv_isub hx hb dX12_rows_232 ?_
      refine rP_52 hx hb hts i_X12_rows_X12 hown hK hP hD hS (hts (.fieldLink RX12 370 "StatementRules2Model" "depth" "I") k_X12_rows_fieldLink_RX12_370_SRModel_depth_I) dX12_rows_233 (fun H locs hP hD hS => ?_)
      refine lv_aload_n hx hb dX12_rows_236 rfl (lv_at hl 1 rfl) ?_
      refine lv_dup hx hb dX12_rows_237 rfl ?_
      refine rG_43 (v := (p12.2.i 43)) hx hb hts i_X12_rows_X12 hown hK hP (hts (.fieldLink RX12 367 "StatementRules2Model" "goals" "I") k_X12_rows_fieldLink_RX12_367_SRModel_goals_I) dX12_rows_238 rfl ?_
      refine lv_iconst (v := 1) hx hb dX12_rows_241 (by decide) ?_
      refine lv_isub hx hb dX12_rows_242 ?_
      refine rP_43 hx hb hts i_X12_rows_X12 hown hK hP hD hS (hts (.fieldLink RX12 367 "StatementRules2Model" "goals" "I") k_X12_rows_fieldLink_RX12_367_SRModel_goals_I) dX12_rows_243 (fun H locs hP hD hS => ?_)
      refine lv_aload_n hx hb dX12_rows_246 rfl (lv_at hl 1 rfl) ?_
      refine lv_aload_n hx hb dX12_rows_247 rfl (lv_at hl 1 rfl) ?_
      refine rG_71 hx hb hts i_X12_rows_X12 hown hK hP (hts (.fieldLink RX12 195 "StatementRules2Model" "fx" "[I") k_X12_rows_fieldLink_RX12_195_SRModel_fx_I) dX12_rows_248 ?_
      refine lv_iload_n hx hb dX12_rows_251 rfl (lv_at hl 2 rfl) ?_
      refine rL_71 (v := (p12.2.a 71 ((x1 : Int32).toNatClampNeg))) hx hb hK hP b1 dX12_rows_252 rfl ?_
      refine rP_38 hx hb hts i_X12_rows_X12 hown hK hP hD hS (hts (.fieldLink RX12 361 "StatementRules2Model" "seen" "I") k_X12_rows_fieldLink_RX12_361_SRModel_seen_I) dX12_rows_253 (fun H locs hP hD hS => ?_)
      refine lv_aload_n hx hb dX12_rows_256 rfl (lv_at hl 1 rfl) ?_
      refine lv_iconst (v := 1) hx hb dX12_rows_257 (by decide) ?_
      obtain ⟨p14, hcp14, hf⟩ := hf_bind hf
      have hFc := r_free hD hS hA
      refine va_callv (va_runV (As := [.int 1]) (rest := []) ⟨hx, hb, hml, hown, hts⟩ (c_X12_over l dC dI _ Q N (RS.setI (RS.setI (RS.setI p12.2 52 ((p12.2.i 52) - 1)) 43 ((p12.2.i 43) - 1)) 38 (p12.2.a 71 ((x1 : Int32).toNatClampNeg))) 1 p14 hcp14) (cwV 1 hts hX12_rows_X12_over_v490 rfl rfl rfl (by decide +kernel) ⟨Nat.le_of_ble_eq_true rfl, Nat.le_of_ble_eq_true rfl⟩) ⟨zPre.blind, va_recv hK hP (ci := 11) (q0 := 0) rfl rfl, zPre.go hZ hP hK hD⟩ rfl rfl hl.1 rfl (lv_room (Nat.le_of_ble_eq_true rfl)) dX12_rows_258 ⟨Nat.le_of_ble_eq_true rfl, Nat.le_of_ble_eq_true rfl⟩) hS (fun q _ h => hFc q h) hFc (fun u9 t9 H1 locs ht hvm hw hB hz1 hk1 hS => ?_)
      obtain ⟨hP, hK1, hD1⟩ := hB
      rw [ht] at hP
      have hD := hD1.weaken (fun _ _ _ h => hFc _ h)
      generalize H1 = H at hP hS ⊢
      obtain rfl := Option.some.inj hf
      exact W.vret hx hb hr (fun t ht hW => ⟨⟨(), rfl, trivial, by rw [ht]; exact hP, va_K.moved hW.alike hK, hD⟩, hS.F ht⟩) hS.2.2 dX12_rows_261
    ·
      replace hf := (if_pos c3).symm.trans hf
      refine lv_aload_n hx hb dX12_rows_80 rfl (lv_at hl 0 rfl) ?_
      refine lv_aload_n hx hb dX12_rows_81 rfl (lv_at hl 0 rfl) ?_
      refine rG_74 hx hb hts i_X12_rows_X12 hown hK hP (hts (.fieldLink RX12 204 "StatementRules2Model" "fn" "[J") k_X12_rows_fieldLink_RX12_204_SRModel_fn_J) dX12_rows_82 ?_
      refine lv_iload_n hx hb dX12_rows_85 rfl (lv_at hl 1 rfl) ?_
      refine rL_74 (v := (σ.b 74 ((x1 : Int32).toNatClampNeg))) hx hb hK hP b1 dX12_rows_86 rfl ?_
      refine lv_iconst (v := 0) hx hb dX12_rows_87 (by decide) ?_
      obtain ⟨p16, hcp16, hf⟩ := hf_bind hf
      have hFc := r_free hD hS hA
      refine va_calli (va_runV (As := [.long (σ.b 74 ((x1 : Int32).toNatClampNeg)), .int 0]) (rest := []) ⟨hx, hb, hml, hown, hts⟩ (c_X12_see l dC dI _ Q N σ (σ.b 74 ((x1 : Int32).toNatClampNeg)) 0 p16 hcp16) (cwV 2 hts hX12_rows_X12_see_v506 rfl rfl rfl (by decide +kernel) ⟨Nat.le_of_ble_eq_true rfl, Nat.le_of_ble_eq_true rfl⟩) ⟨zPre.blind, va_recv hK hP (ci := 11) (q0 := 0) rfl rfl, zPre.go hZ hP hK hD⟩ rfl rfl hl.1 rfl (lv_room (Nat.le_of_ble_eq_true rfl)) dX12_rows_88 ⟨Nat.le_of_ble_eq_true rfl, Nat.le_of_ble_eq_true rfl⟩) hS (fun q _ h => hFc q h) hFc (fun r17 u9 t9 H1 locs ht hvm hw hB hz1 hk1 hS => ?_)
      obtain ⟨hP, hK1, hD1⟩ := hB
      rw [ht] at hP
      have hD := hD1.weaken (fun _ _ _ h => hFc _ h)
      generalize H1 = H at hP hS ⊢
      obtain rfl : r17 = p16.1 := hw
      refine lv_istore_n (lv' := [(2, .int p16.1), (0, .ref Q.h0), (1, .int x1)]) hx hb dX12_rows_91 rfl hl (by decide) rfl (fun ls hl => ?_)
      refine lv_aload_n hx hb dX12_rows_92 rfl (lv_at hl 1 rfl) ?_
      refine lv_bipush (v := 41) hx hb dX12_rows_93 (by decide) ?_
      obtain ⟨p18, hcp18, hf⟩ := hf_bind hf
      have hFc := r_free hD hS hA
      refine va_calli (va_runV (As := [.int 41]) (rest := []) ⟨hx, hb, hml, hown, hts⟩ (c_X12_shut l dC dI _ Q N p16.2 41 p18 hcp18) (cwV 1 hts hX12_rows_X12_shut_v468 rfl rfl rfl (by decide +kernel) ⟨Nat.le_of_ble_eq_true rfl, Nat.le_of_ble_eq_true rfl⟩) ⟨zPre.blind, va_recv hK hP (ci := 11) (q0 := 0) rfl rfl, zPre.go hZ hP hK hD⟩ rfl rfl hl.1 rfl (lv_room (Nat.le_of_ble_eq_true rfl)) dX12_rows_95 ⟨Nat.le_of_ble_eq_true rfl, Nat.le_of_ble_eq_true rfl⟩) hS (fun q _ h => hFc q h) hFc (fun r19 u9 t9 H1 locs ht hvm hw hB hz1 hk1 hS => ?_)
      obtain ⟨hP, hK1, hD1⟩ := hB
      rw [ht] at hP
      have hD := hD1.weaken (fun _ _ _ h => hFc _ h)
      generalize H1 = H at hP hS ⊢
      obtain rfl : r19 = p18.1 := hw
      refine lv_pop hx hb dX12_rows_98 rfl ?_
      refine lv_aload_n hx hb dX12_rows_99 rfl (lv_at hl 1 rfl) ?_
      refine lv_dup hx hb dX12_rows_100 rfl ?_
      refine rG_52 (v := (p18.2.i 52)) hx hb hts i_X12_rows_X12 hown hK hP (hts (.fieldLink RX12 370 "StatementRules2Model" "depth" "I") k_X12_rows_fieldLink_RX12_370_SRModel_depth_I) dX12_rows_101 rfl ?_
      refine lv_iconst (v := 1) hx hb dX12_rows_104 (by decide) ?_
      refine lv_iadd hx hb dX12_rows_105 ?_
      refine rP_52 hx hb hts i_X12_rows_X12 hown hK hP hD hS (hts (.fieldLink RX12 370 "StatementRules2Model" "depth" "I") k_X12_rows_fieldLink_RX12_370_SRModel_depth_I) dX12_rows_106 (fun H locs hP hD hS => ?_)
      refine lv_aload_n hx hb dX12_rows_109 rfl (lv_at hl 1 rfl) ?_
      refine rG_66 hx hb hts i_X12_rows_X12 hown hK hP (hts (.fieldLink RX12 180 "StatementRules2Model" "fp" "[I") k_X12_rows_fieldLink_RX12_180_SRModel_fp_I) dX12_rows_110 ?_
      refine lv_iload_n hx hb dX12_rows_113 rfl (lv_at hl 2 rfl) ?_
      refine lv_aload_n hx hb dX12_rows_114 rfl (lv_at hl 1 rfl) ?_
      refine lv_bipush (v := 24) hx hb dX12_rows_115 (by decide) ?_
      refine lv_iconst (v := 0) hx hb dX12_rows_117 (by decide) ?_
      obtain ⟨p20, hcp20, hf⟩ := hf_bind hf
      have hFc := r_free hD hS hA
      refine va_calli (va_runV (As := [.int 24, .int 0]) (rest := [.int x1, .ref (Q.q 66)]) ⟨hx, hb, hml, hown, hts⟩ (c_X12_emit l dC dI _ Q N (RS.setI p18.2 52 ((p18.2.i 52) + 1)) 24 0 p20 hcp20) (cwV 2 hts hX12_rows_X12_emit_v464 rfl rfl rfl (by decide +kernel) ⟨Nat.le_of_ble_eq_true rfl, Nat.le_of_ble_eq_true rfl⟩) ⟨zPre.blind, va_recv hK hP (ci := 11) (q0 := 0) rfl rfl, zPre.go hZ hP hK hD⟩ rfl rfl hl.1 rfl (lv_room (Nat.le_of_ble_eq_true rfl)) dX12_rows_118 ⟨Nat.le_of_ble_eq_true rfl, Nat.le_of_ble_eq_true rfl⟩) hS (fun q _ h => hFc q h) hFc (fun r21 u9 t9 H1 locs ht hvm hw hB hz1 hk1 hS => ?_)
      obtain ⟨hP, hK1, hD1⟩ := hB
      rw [ht] at hP
      have hD := hD1.weaken (fun _ _ _ h => hFc _ h)
      generalize H1 = H at hP hS ⊢
      obtain rfl : r21 = p20.1 := hw
      refine rS_66 hx hb hK hP hD hS b1 dX12_rows_121 (fun H locs hP hD hS => ?_)
      refine lv_aload_n hx hb dX12_rows_122 rfl (lv_at hl 1 rfl) ?_
      refine rG_23 hx hb hts i_X12_rows_X12 hown hK hP (hts (.fieldLink RX12 90 "StatementRules2Model" "iy" "[I") k_X12_rows_fieldLink_RX12_90_SRModel_iy_I) dX12_rows_123 ?_
      refine lv_aload_n hx hb dX12_rows_126 rfl (lv_at hl 1 rfl) ?_
      refine rG_66 hx hb hts i_X12_rows_X12 hown hK hP (hts (.fieldLink RX12 180 "StatementRules2Model" "fp" "[I") k_X12_rows_fieldLink_RX12_180_SRModel_fp_I) dX12_rows_127 ?_
      refine lv_iload_n hx hb dX12_rows_130 rfl (lv_at hl 2 rfl) ?_
      refine rL_66 (v := ((upd (p20.2.a 66) ((x1 : Int32).toNatClampNeg) p20.1) ((x1 : Int32).toNatClampNeg))) hx hb hK hP b1 dX12_rows_131 rfl ?_
      refine lv_iload_n hx hb dX12_rows_132 rfl (lv_at hl 0 rfl) ?_
      obtain ⟨b22, hf⟩ := hf_ite hf
      refine rS_23 hx hb hK hP hD hS b22 dX12_rows_133 (fun H locs hP hD hS => ?_)
      refine lv_aload_n hx hb dX12_rows_134 rfl (lv_at hl 1 rfl) ?_
      refine rG_73 hx hb hts i_X12_rows_X12 hown hK hP (hts (.fieldLink RX12 201 "StatementRules2Model" "fz" "[I") k_X12_rows_fieldLink_RX12_201_SRModel_fz_I) dX12_rows_135 ?_
      refine lv_iload_n hx hb dX12_rows_138 rfl (lv_at hl 2 rfl) ?_
      refine lv_aload_n hx hb dX12_rows_139 rfl (lv_at hl 1 rfl) ?_
      obtain ⟨p23, hcp23, hf⟩ := hf_bind hf
      have hFc := r_free hD hS hA
      refine va_calli (va_runV (As := []) (rest := [.int x1, .ref (Q.q 73)]) ⟨hx, hb, hml, hown, hts⟩ (c_X12_loopGoal l dC dI _ Q N (RS.setA (RS.setA p20.2 66 ((x1 : Int32).toNatClampNeg) p20.1) 23 ((((upd (p20.2.a 66) ((x1 : Int32).toNatClampNeg) p20.1) ((x1 : Int32).toNatClampNeg)) : Int32).toNatClampNeg) p16.1) p23 hcp23) (cwV 0 hts hX12_rows_X12_loopGoal_v536 rfl rfl rfl (by decide +kernel) ⟨Nat.le_of_ble_eq_true rfl, Nat.le_of_ble_eq_true rfl⟩) ⟨zPre.blind, va_recv hK hP (ci := 11) (q0 := 0) rfl rfl, zPre.go hZ hP hK hD⟩ rfl rfl hl.1 rfl (lv_room (Nat.le_of_ble_eq_true rfl)) dX12_rows_140 ⟨Nat.le_of_ble_eq_true rfl, Nat.le_of_ble_eq_true rfl⟩) hS (fun q _ h => hFc q h) hFc (fun r24 u9 t9 H1 locs ht hvm hw hB hz1 hk1 hS => ?_)
      obtain ⟨hP, hK1, hD1⟩ := hB
      rw [ht] at hP
      have hD := hD1.weaken (fun _ _ _ h => hFc _ h)
      generalize H1 = H at hP hS ⊢
      obtain rfl : r24 = p23.1 := hw
      refine rS_73 hx hb hK hP hD hS b1 dX12_rows_143 (fun H locs hP hD hS => ?_)
      refine lv_aload_n hx hb dX12_rows_144 rfl (lv_at hl 1 rfl) ?_
      refine lv_bipush (v := 13) hx hb dX12_rows_145 (by decide) ?_
      obtain ⟨p25, hcp25, hf⟩ := hf_bind hf
      have hFc := r_free hD hS hA
      refine va_callv (va_runV (As := [.int 13]) (rest := []) ⟨hx, hb, hml, hown, hts⟩ (c_X12_body l dC dI _ Q N (RS.setA p23.2 73 ((x1 : Int32).toNatClampNeg) p23.1) 13 p25 hcp25) (cwV 1 hts hX12_rows_X12_body_v521 rfl rfl rfl (by decide +kernel) ⟨Nat.le_of_ble_eq_true rfl, Nat.le_of_ble_eq_true rfl⟩) ⟨zPre.blind, va_recv hK hP (ci := 11) (q0 := 0) rfl rfl, zPre.go hZ hP hK hD⟩ rfl rfl hl.1 rfl (lv_room (Nat.le_of_ble_eq_true rfl)) dX12_rows_147 ⟨Nat.le_of_ble_eq_true rfl, Nat.le_of_ble_eq_true rfl⟩) hS (fun q _ h => hFc q h) hFc (fun u9 t9 H1 locs ht hvm hw hB hz1 hk1 hS => ?_)
      obtain ⟨hP, hK1, hD1⟩ := hB
      rw [ht] at hP
      have hD := hD1.weaken (fun _ _ _ h => hFc _ h)
      generalize H1 = H at hP hS ⊢
      refine lv_goto (tgt := 261) hx hb dX12_rows_150 (by decide) ?_
      obtain rfl := Option.some.inj hf
      exact W.vret hx hb hr (fun t ht hW => ⟨⟨(), rfl, trivial, by rw [ht]; exact hP, va_K.moved hW.alike hK, hD⟩, hS.F ht⟩) hS.2.2 dX12_rows_261
  ·
    replace hf := (if_pos c2).symm.trans hf
    refine lv_aload_n hx hb dX12_rows_11 rfl (lv_at hl 0 rfl) ?_
    refine rG_68 hx hb hts i_X12_rows_X12 hown hK hP (hts (.fieldLink RX12 186 "StatementRules2Model" "fr" "[I") k_X12_rows_fieldLink_RX12_186_SRModel_fr_I) dX12_rows_12 ?_
    refine lv_iload_n hx hb dX12_rows_15 rfl (lv_at hl 1 rfl) ?_
    refine lv_dup2_11 hx hb dX12_rows_16 rfl rfl ?_
    refine rL_68 (v := (σ.a 68 ((x1 : Int32).toNatClampNeg))) hx hb hK hP b1 dX12_rows_17 rfl ?_
    refine lv_iconst (v := 1) hx hb dX12_rows_18 (by decide) ?_
    refine lv_iadd hx hb dX12_rows_19 ?_
    refine rS_68 hx hb hK hP hD hS b1 dX12_rows_20 (fun H locs hP hD hS => ?_)
    refine lv_aload_n hx hb dX12_rows_21 rfl (lv_at hl 0 rfl) ?_
    refine rG_10 (v := (σ.i 10)) hx hb hts i_X12_rows_X12 hown hK hP (hts (.fieldLink RX12 307 "StatementRules2Model" "tok" "I") k_X12_rows_fieldLink_RX12_307_SRModel_tok_I) dX12_rows_22 rfl ?_
    refine lv_bipush (v := 44) hx hb dX12_rows_25 (by decide) ?_
    refine lv_icmp_ne (tgt := 45) hx hb dX12_rows_27 (by decide) (fun c27 => ?_) (fun c27 => ?_)
    ·
      replace hf := (if_neg c27).symm.trans hf
      refine lv_aload_n hx hb dX12_rows_45 rfl (lv_at hl 0 rfl) ?_
      refine lv_bipush (v := 23) hx hb dX12_rows_46 (by decide) ?_
      refine lv_aload_n hx hb dX12_rows_48 rfl (lv_at hl 0 rfl) ?_
      refine rG_68 hx hb hts i_X12_rows_X12 hown hK hP (hts (.fieldLink RX12 186 "StatementRules2Model" "fr" "[I") k_X12_rows_fieldLink_RX12_186_SRModel_fr_I) dX12_rows_49 ?_
      refine lv_iload_n hx hb dX12_rows_52 rfl (lv_at hl 1 rfl) ?_
      refine rL_68 (v := ((upd (σ.a 68) ((x1 : Int32).toNatClampNeg) ((σ.a 68 ((x1 : Int32).toNatClampNeg)) + 1)) ((x1 : Int32).toNatClampNeg))) hx hb hK hP b1 dX12_rows_53 rfl ?_
      obtain ⟨p28, hcp28, hf⟩ := hf_bind hf
      have hFc := r_free hD hS hA
      refine va_calli (va_runV (As := [.int 23, .int ((upd (σ.a 68) ((x1 : Int32).toNatClampNeg) ((σ.a 68 ((x1 : Int32).toNatClampNeg)) + 1)) ((x1 : Int32).toNatClampNeg))]) (rest := []) ⟨hx, hb, hml, hown, hts⟩ (c_X12_emit l dC dI _ Q N (RS.setA σ 68 ((x1 : Int32).toNatClampNeg) ((σ.a 68 ((x1 : Int32).toNatClampNeg)) + 1)) 23 ((upd (σ.a 68) ((x1 : Int32).toNatClampNeg) ((σ.a 68 ((x1 : Int32).toNatClampNeg)) + 1)) ((x1 : Int32).toNatClampNeg)) p28 hcp28) (cwV 2 hts hX12_rows_X12_emit_v464 rfl rfl rfl (by decide +kernel) ⟨Nat.le_of_ble_eq_true rfl, Nat.le_of_ble_eq_true rfl⟩) ⟨zPre.blind, va_recv hK hP (ci := 11) (q0 := 0) rfl rfl, zPre.go hZ hP hK hD⟩ rfl rfl hl.1 rfl (lv_room (Nat.le_of_ble_eq_true rfl)) dX12_rows_54 ⟨Nat.le_of_ble_eq_true rfl, Nat.le_of_ble_eq_true rfl⟩) hS (fun q _ h => hFc q h) hFc (fun r29 u9 t9 H1 locs ht hvm hw hB hz1 hk1 hS => ?_)
      obtain ⟨hP, hK1, hD1⟩ := hB
      rw [ht] at hP
      have hD := hD1.weaken (fun _ _ _ h => hFc _ h)
      generalize H1 = H at hP hS ⊢
      obtain rfl : r29 = p28.1 := hw
      refine lv_pop hx hb dX12_rows_57 rfl ?_
      refine lv_aload_n hx hb dX12_rows_58 rfl (lv_at hl 0 rfl) ?_
      refine rG_65 hx hb hts i_X12_rows_X12 hown hK hP (hts (.fieldLink RX12 177 "StatementRules2Model" "fs" "[I") k_X12_rows_fieldLink_RX12_177_SRModel_fs_I) dX12_rows_59 ?_
      refine lv_iload_n hx hb dX12_rows_62 rfl (lv_at hl 1 rfl) ?_
      refine lv_bipush (v := 12) hx hb dX12_rows_63 (by decide) ?_
      refine rS_65 hx hb hK hP hD hS b1 dX12_rows_65 (fun H locs hP hD hS => ?_)
      refine lv_goto (tgt := 261) hx hb dX12_rows_66 (by decide) ?_
      obtain rfl := Option.some.inj hf
      exact W.vret hx hb hr (fun t ht hW => ⟨⟨(), rfl, trivial, by rw [ht]; exact hP, va_K.moved hW.alike hK, hD⟩, hS.F ht⟩) hS.2.2 dX12_rows_261
    ·
      replace hf := (if_pos c27).symm.trans hf
      refine lv_aload_n hx hb dX12_rows_30 rfl (lv_at hl 0 rfl) ?_
      obtain ⟨p30, hcp30, hf⟩ := hf_bind hf
      have hFc := r_free hD hS hA
      refine va_callv (va_runV (As := []) (rest := []) ⟨hx, hb, hml, hown, hts⟩ (c_X12_next l dC dI _ Q N (RS.setA σ 68 ((x1 : Int32).toNatClampNeg) ((σ.a 68 ((x1 : Int32).toNatClampNeg)) + 1)) p30 hcp30) (cwV 0 hts hX12_rows_X12_next_v345 rfl rfl rfl (by decide +kernel) ⟨Nat.le_of_ble_eq_true rfl, Nat.le_of_ble_eq_true rfl⟩) ⟨zPre.blind, va_recv hK hP (ci := 11) (q0 := 0) rfl rfl, zPre.go hZ hP hK hD⟩ rfl rfl hl.1 rfl (lv_room (Nat.le_of_ble_eq_true rfl)) dX12_rows_31 ⟨Nat.le_of_ble_eq_true rfl, Nat.le_of_ble_eq_true rfl⟩) hS (fun q _ h => hFc q h) hFc (fun u9 t9 H1 locs ht hvm hw hB hz1 hk1 hS => ?_)
      obtain ⟨hP, hK1, hD1⟩ := hB
      rw [ht] at hP
      have hD := hD1.weaken (fun _ _ _ h => hFc _ h)
      generalize H1 = H at hP hS ⊢
      refine lv_aload_n hx hb dX12_rows_34 rfl (lv_at hl 0 rfl) ?_
      refine lv_bipush (v := 10) hx hb dX12_rows_35 (by decide) ?_
      refine lv_bipush (v := 16) hx hb dX12_rows_37 (by decide) ?_
      obtain ⟨p32, hcp32, hf⟩ := hf_bind hf
      have hFc := r_free hD hS hA
      refine va_callv (va_runV (As := [.int 10, .int 16]) (rest := []) ⟨hx, hb, hml, hown, hts⟩ (c_X12_then l dC dI _ Q N p30 10 16 p32 hcp32) (cwV 2 hts hX12_rows_X12_then_v393 rfl rfl rfl (by decide +kernel) ⟨Nat.le_of_ble_eq_true rfl, Nat.le_of_ble_eq_true rfl⟩) ⟨zPre.blind, va_recv hK hP (ci := 11) (q0 := 0) rfl rfl, zPre.go hZ hP hK hD⟩ rfl rfl hl.1 rfl (lv_room (Nat.le_of_ble_eq_true rfl)) dX12_rows_39 ⟨Nat.le_of_ble_eq_true rfl, Nat.le_of_ble_eq_true rfl⟩) hS (fun q _ h => hFc q h) hFc (fun u9 t9 H1 locs ht hvm hw hB hz1 hk1 hS => ?_)
      obtain ⟨hP, hK1, hD1⟩ := hB
      rw [ht] at hP
      have hD := hD1.weaken (fun _ _ _ h => hFc _ h)
      generalize H1 = H at hP hS ⊢
      refine lv_goto (tgt := 261) hx hb dX12_rows_42 (by decide) ?_
      obtain rfl := Option.some.inj hf
      exact W.vret hx hb hr (fun t ht hW => ⟨⟨(), rfl, trivial, by rw [ht]; exact hP, va_K.moved hW.alike hK, hD⟩, hS.F ht⟩) hS.2.2 dX12_rows_261
