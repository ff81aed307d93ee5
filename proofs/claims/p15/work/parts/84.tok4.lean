theorem k_X9_rowType_fieldLink_RX9_69_SR_Tokens_name_J : Cond.fieldLink RX9 69 "StatementRules2$Tokens" "name" "J" ∈ wzX9_rowType := List.mem_cons_of_mem _ (List.mem_append_left _ (List.mem_of_getElem? (i := 0) rfl))
theorem i_X9_rowType_X9 : ∀ w ∈ wsX90, w ∈ wzX9_rowType := fun _ h => List.mem_cons_of_mem _ (List.mem_append_right _ (List.mem_append_left _ (h)))
theorem k_X9_rowType_constantLong_RX9_76_255 : Cond.constantLong RX9 76 (255) ∈ wzX9_rowType := List.mem_cons_of_mem _ (List.mem_append_left _ (List.mem_of_getElem? (i := 1) rfl))
theorem k_X9_rowType_constantLong_RX9_78_48 : Cond.constantLong RX9 78 (48) ∈ wzX9_rowType := List.mem_cons_of_mem _ (List.mem_append_left _ (List.mem_of_getElem? (i := 2) rfl))
theorem k_X9_rowType_fieldLink_RX9_66_SR_Tokens_value_I : Cond.fieldLink RX9 66 "StatementRules2$Tokens" "value" "I" ∈ wzX9_rowType := List.mem_cons_of_mem _ (List.mem_append_left _ (List.mem_of_getElem? (i := 3) rfl))
theorem k_X9_rowType_constantLong_RX9_84_101 : Cond.constantLong RX9 84 (101) ∈ wzX9_rowType := List.mem_cons_of_mem _ (List.mem_append_left _ (List.mem_of_getElem? (i := 4) rfl))
theorem k_X9_rowType_constantLong_RX9_86_109 : Cond.constantLong RX9 86 (109) ∈ wzX9_rowType := List.mem_cons_of_mem _ (List.mem_append_left _ (List.mem_of_getElem? (i := 5) rfl))
theorem k_X9_rowType_constantLong_RX9_88_114 : Cond.constantLong RX9 88 (114) ∈ wzX9_rowType := List.mem_cons_of_mem _ (List.mem_append_left _ (List.mem_of_getElem? (i := 6) rfl))
theorem k_X9_rowType_constantLong_RX9_80_9 : Cond.constantLong RX9 80 (9) ∈ wzX9_rowType := List.mem_cons_of_mem _ (List.mem_append_left _ (List.mem_of_getElem? (i := 7) rfl))
theorem k_X9_rowType_constantLong_RX9_82_49 : Cond.constantLong RX9 82 (49) ∈ wzX9_rowType := List.mem_cons_of_mem _ (List.mem_append_left _ (List.mem_of_getElem? (i := 8) rfl))
theorem k_X9_rowType_fieldLink_RX9_9_SR_Tokens_words_J : Cond.fieldLink RX9 9 "StatementRules2$Tokens" "words" "[J" ∈ wzX9_rowType := List.mem_cons_of_mem _ (List.mem_append_left _ (List.mem_of_getElem? (i := 9) rfl))
set_option maxHeartbeats 4000000 in
set_option maxRecDepth 100000 in
theorem j_X9_rowType_171 {p : Program} {e : Env} {s : State} {m : MethodId} {args : Array Value} {below : List Frame} {meth : Method} {c : Code} {A : Nat → Prop} (l : Launch) (dC : Nat → ClassId) (dI : Nat → Nat → Nat) (h0 : Nat) (qt : Nat) (qw : Nat) (kt : ClassId) (kw : ClassId) (t2 : Int32) (t3 : Int32) (t4 : Int32) (t5 : Int32) (t7 : Int64) (ft : Nat → Int32) (fw : Nat → Int64) (hx : p.tables.exec = Jvm.exec) (hb : c.code = cX9_rowType) (hr : meth.sig.returnType = (some .int)) (hml : c.maxLocals = 8) (hown : s.vm.findClass RX9 = some m.cls) (hts : ∀ w ∈ wzX9_rowType, w.before args s = true) (hlocks : meth.locks = false) (hZ : zAMB s) (hA : ∀ q : Nat, s.heap.size ≤ q → A q) (hK : va_K (dC, dI) vwCl [(kt, .int), (kw, .long)] s) : ∀ (w0_6 : Int32) (l6 : Int64) (H : Heap) (locs : List Loc) (ls : Array Slot), va_P (dC, dI) vwCl [(h0, .inr (8, [.ref qt, .ref qw, .int t2, .int t3, .int t4, .int t5, .int w0_6, .long t7])), (qt, .inl (kt, 900, .inl ft)), (qw, .inl (kw, 25, .inr (.inl fw)))] H → va_D A [(h0, .inr (8, [.ref qt, .ref qw, .int t2, .int t3, .int t4, .int t5, .int w0_6, .long t7])), (qt, .inl (kt, 900, .inl ft)), (qw, .inl (kw, 25, .inr (.inl fw)))] → va_S A s.heap H locs → lv_has ls 8 [(0, .ref h0), (6, .long l6)] → W p l e ({ frames := 1, cells := 0, slots := 0, locals := 60 }) s m args below meth c H locs 0 0 (MQ below (va_Qi (fun (r : Int32) (_ : Unit) => True) (fun (_ : Unit) (t : State) => ∃ (u2 : Int32), ∃ (u3 : Int32), ∃ (u4 : Int32), ∃ (u5 : Int32), ∃ (u6 : Int32), ∃ (u7 : Int64), zPost dC dI A [(h0, .inr (8, [.ref qt, .ref qw, .int u2, .int u3, .int u4, .int u5, .int u6, .long u7])), (qt, .inl (kt, 900, .inl ft)), (qw, .inl (kw, 25, .inr (.inl fw)))] [(kt, .int), (kw, .long)] t) A) args s 0 0 A) (F0 m 171 ls []) := by
  intro w0_6 l6 H locs ls hP hD hS hl
  refine lv_lload hx hb dX9_rowType_171 (lv_at hl 1 rfl) ?_
  refine lv_ldc2 (v := 101) hx hb hown (hts (.constantLong RX9 84 (101)) k_X9_rowType_constantLong_RX9_84_101) dX9_rowType_173 ?_
  refine W.lcmp hx hb dX9_rowType_176 ?_
  refine lv_topi (fun z11 ez11 => ?_)
  refine lv_if_ne (tgt := 195) hx hb dX9_rowType_177 (by decide) (fun c12 => ?_) (fun c12 => ?_)
  ·
    refine lv_aload_n hx hb dX9_rowType_195 rfl (lv_at hl 0 rfl) ?_
    refine va_get (D := (dC, dI)) (ci := 8) (v := .int w0_6) (C := RX9) (T := TX9) (N := 8) hx hb hts i_X9_rowType_X9 hown hK hP 0 rfl rfl 6 (by decide) (hts (.fieldLink RX9 66 "StatementRules2$Tokens" "value" "I") k_X9_rowType_fieldLink_RX9_66_SR_Tokens_value_I) (fun _ h9 => h9) rfl dX9_rowType_196 ?_
    refine lv_bipush (v := 8) hx hb dX9_rowType_199 (by decide) ?_
    refine lv_icmp_lt (tgt := 206) hx hb dX9_rowType_201 (by decide) (fun c13 => ?_) (fun c13 => ?_)
    ·
      refine lv_lload hx hb dX9_rowType_206 (lv_at hl 1 rfl) ?_
      refine lv_ldc2 (v := 109) hx hb hown (hts (.constantLong RX9 86 (109)) k_X9_rowType_constantLong_RX9_86_109) dX9_rowType_208 ?_
      refine W.lcmp hx hb dX9_rowType_211 ?_
      refine lv_topi (fun z14 ez14 => ?_)
      refine lv_if_ne (tgt := 219) hx hb dX9_rowType_212 (by decide) (fun c15 => ?_) (fun c15 => ?_)
      ·
        refine lv_lload hx hb dX9_rowType_219 (lv_at hl 1 rfl) ?_
        refine lv_ldc2 (v := 114) hx hb hown (hts (.constantLong RX9 88 (114)) k_X9_rowType_constantLong_RX9_88_114) dX9_rowType_221 ?_
        refine W.lcmp hx hb dX9_rowType_224 ?_
        refine lv_topi (fun z16 ez16 => ?_)
        refine lv_if_ne (tgt := 232) hx hb dX9_rowType_225 (by decide) (fun c17 => ?_) (fun c17 => ?_)
        ·
          refine lv_iconst (v := 2) hx hb dX9_rowType_232 (by decide) ?_
          have hP9 := hP.sub (ws' := [(h0, .inr (8, [.ref qt, .ref qw, .int t2, .int t3, .int t4, .int t5, .int w0_6, .long t7])), (qt, .inl (kt, 900, .inl ft)), (qw, .inl (kw, 25, .inr (.inl fw)))]) [0, 1, 2] rfl
          have hD9 := hD.sub (ws' := [(h0, .inr (8, [.ref qt, .ref qw, .int t2, .int t3, .int t4, .int t5, .int w0_6, .long t7])), (qt, .inl (kt, 900, .inl ft)), (qw, .inl (kw, 25, .inr (.inl fw)))]) [0, 1, 2] (by decide) rfl
          have hK9 := hK.sub (tys' := [(kt, .int), (kw, .long)]) [0, 1] rfl
          exact W.iret (v := 2) hx hb hr (fun t ht hW => ⟨⟨2, (), rfl, trivial, t2, t3, t4, t5, w0_6, t7, by rw [ht]; exact hP9, va_K.moved hW.alike hK9, hD9⟩, hS.F ht⟩) hS.2.2 dX9_rowType_233
        ·
          refine lv_iconst (v := 4) hx hb dX9_rowType_228 (by decide) ?_
          refine lv_goto (tgt := 233) hx hb dX9_rowType_229 (by decide) ?_
          have hP9 := hP.sub (ws' := [(h0, .inr (8, [.ref qt, .ref qw, .int t2, .int t3, .int t4, .int t5, .int w0_6, .long t7])), (qt, .inl (kt, 900, .inl ft)), (qw, .inl (kw, 25, .inr (.inl fw)))]) [0, 1, 2] rfl
          have hD9 := hD.sub (ws' := [(h0, .inr (8, [.ref qt, .ref qw, .int t2, .int t3, .int t4, .int t5, .int w0_6, .long t7])), (qt, .inl (kt, 900, .inl ft)), (qw, .inl (kw, 25, .inr (.inl fw)))]) [0, 1, 2] (by decide) rfl
          have hK9 := hK.sub (tys' := [(kt, .int), (kw, .long)]) [0, 1] rfl
          exact W.iret (v := 4) hx hb hr (fun t ht hW => ⟨⟨4, (), rfl, trivial, t2, t3, t4, t5, w0_6, t7, by rw [ht]; exact hP9, va_K.moved hW.alike hK9, hD9⟩, hS.F ht⟩) hS.2.2 dX9_rowType_233
      ·
        refine lv_iconst (v := 3) hx hb dX9_rowType_215 (by decide) ?_
        refine lv_goto (tgt := 233) hx hb dX9_rowType_216 (by decide) ?_
        have hP9 := hP.sub (ws' := [(h0, .inr (8, [.ref qt, .ref qw, .int t2, .int t3, .int t4, .int t5, .int w0_6, .long t7])), (qt, .inl (kt, 900, .inl ft)), (qw, .inl (kw, 25, .inr (.inl fw)))]) [0, 1, 2] rfl
        have hD9 := hD.sub (ws' := [(h0, .inr (8, [.ref qt, .ref qw, .int t2, .int t3, .int t4, .int t5, .int w0_6, .long t7])), (qt, .inl (kt, 900, .inl ft)), (qw, .inl (kw, 25, .inr (.inl fw)))]) [0, 1, 2] (by decide) rfl
        have hK9 := hK.sub (tys' := [(kt, .int), (kw, .long)]) [0, 1] rfl
        exact W.iret (v := 3) hx hb hr (fun t ht hW => ⟨⟨3, (), rfl, trivial, t2, t3, t4, t5, w0_6, t7, by rw [ht]; exact hP9, va_K.moved hW.alike hK9, hD9⟩, hS.F ht⟩) hS.2.2 dX9_rowType_233
    ·
      refine lv_iconst (v := 2) hx hb dX9_rowType_204 (by decide) ?_
      have hP9 := hP.sub (ws' := [(h0, .inr (8, [.ref qt, .ref qw, .int t2, .int t3, .int t4, .int t5, .int w0_6, .long t7])), (qt, .inl (kt, 900, .inl ft)), (qw, .inl (kw, 25, .inr (.inl fw)))]) [0, 1, 2] rfl
      have hD9 := hD.sub (ws' := [(h0, .inr (8, [.ref qt, .ref qw, .int t2, .int t3, .int t4, .int t5, .int w0_6, .long t7])), (qt, .inl (kt, 900, .inl ft)), (qw, .inl (kw, 25, .inr (.inl fw)))]) [0, 1, 2] (by decide) rfl
      have hK9 := hK.sub (tys' := [(kt, .int), (kw, .long)]) [0, 1] rfl
      exact W.iret (v := 2) hx hb hr (fun t ht hW => ⟨⟨2, (), rfl, trivial, t2, t3, t4, t5, w0_6, t7, by rw [ht]; exact hP9, va_K.moved hW.alike hK9, hD9⟩, hS.F ht⟩) hS.2.2 dX9_rowType_205
  ·
    refine lv_aload_n hx hb dX9_rowType_180 rfl (lv_at hl 0 rfl) ?_
    refine va_get (D := (dC, dI)) (ci := 8) (v := .int w0_6) (C := RX9) (T := TX9) (N := 8) hx hb hts i_X9_rowType_X9 hown hK hP 0 rfl rfl 6 (by decide) (hts (.fieldLink RX9 66 "StatementRules2$Tokens" "value" "I") k_X9_rowType_fieldLink_RX9_66_SR_Tokens_value_I) (fun _ h9 => h9) rfl dX9_rowType_181 ?_
    refine lv_bipush (v := 12) hx hb dX9_rowType_184 (by decide) ?_
    refine lv_icmp_ge (tgt := 193) hx hb dX9_rowType_186 (by decide) (fun c18 => ?_) (fun c18 => ?_)
    ·
      refine lv_iconst (v := 2) hx hb dX9_rowType_193 (by decide) ?_
      have hP9 := hP.sub (ws' := [(h0, .inr (8, [.ref qt, .ref qw, .int t2, .int t3, .int t4, .int t5, .int w0_6, .long t7])), (qt, .inl (kt, 900, .inl ft)), (qw, .inl (kw, 25, .inr (.inl fw)))]) [0, 1, 2] rfl
      have hD9 := hD.sub (ws' := [(h0, .inr (8, [.ref qt, .ref qw, .int t2, .int t3, .int t4, .int t5, .int w0_6, .long t7])), (qt, .inl (kt, 900, .inl ft)), (qw, .inl (kw, 25, .inr (.inl fw)))]) [0, 1, 2] (by decide) rfl
      have hK9 := hK.sub (tys' := [(kt, .int), (kw, .long)]) [0, 1] rfl
      exact W.iret (v := 2) hx hb hr (fun t ht hW => ⟨⟨2, (), rfl, trivial, t2, t3, t4, t5, w0_6, t7, by rw [ht]; exact hP9, va_K.moved hW.alike hK9, hD9⟩, hS.F ht⟩) hS.2.2 dX9_rowType_194
    ·
      refine lv_iconst (v := 5) hx hb dX9_rowType_189 (by decide) ?_
      refine lv_goto (tgt := 194) hx hb dX9_rowType_190 (by decide) ?_
      have hP9 := hP.sub (ws' := [(h0, .inr (8, [.ref qt, .ref qw, .int t2, .int t3, .int t4, .int t5, .int w0_6, .long t7])), (qt, .inl (kt, 900, .inl ft)), (qw, .inl (kw, 25, .inr (.inl fw)))]) [0, 1, 2] rfl
      have hD9 := hD.sub (ws' := [(h0, .inr (8, [.ref qt, .ref qw, .int t2, .int t3, .int t4, .int t5, .int w0_6, .long t7])), (qt, .inl (kt, 900, .inl ft)), (qw, .inl (kw, 25, .inr (.inl fw)))]) [0, 1, 2] (by decide) rfl
      have hK9 := hK.sub (tys' := [(kt, .int), (kw, .long)]) [0, 1] rfl
      exact W.iret (v := 5) hx hb hr (fun t ht hW => ⟨⟨5, (), rfl, trivial, t2, t3, t4, t5, w0_6, t7, by rw [ht]; exact hP9, va_K.moved hW.alike hK9, hD9⟩, hS.F ht⟩) hS.2.2 dX9_rowType_194
set_option maxHeartbeats 4000000 in
set_option maxRecDepth 100000 in
theorem j_X9_rowType_153 {p : Program} {e : Env} {s : State} {m : MethodId} {args : Array Value} {below : List Frame} {meth : Method} {c : Code} {A : Nat → Prop} (l : Launch) (dC : Nat → ClassId) (dI : Nat → Nat → Nat) (h0 : Nat) (qt : Nat) (qw : Nat) (kt : ClassId) (kw : ClassId) (t2 : Int32) (t3 : Int32) (t4 : Int32) (t5 : Int32) (t6 : Int32) (t7 : Int64) (ft : Nat → Int32) (fw : Nat → Int64) (hx : p.tables.exec = Jvm.exec) (hb : c.code = cX9_rowType) (hr : meth.sig.returnType = (some .int)) (hml : c.maxLocals = 8) (hown : s.vm.findClass RX9 = some m.cls) (hts : ∀ w ∈ wzX9_rowType, w.before args s = true) (hlocks : meth.locks = false) (hZ : zAMB s) (hA : ∀ q : Nat, s.heap.size ≤ q → A q) (hK : va_K (dC, dI) vwCl [(kt, .int), (kw, .long)] s) : ∀ (l2 : Int64) (l4 : Int32) (l6 : Int64) (H : Heap) (locs : List Loc) (ls : Array Slot), va_P (dC, dI) vwCl [(h0, .inr (8, [.ref qt, .ref qw, .int t2, .int t3, .int t4, .int t5, .int t6, .long t7])), (qt, .inl (kt, 900, .inl ft)), (qw, .inl (kw, 25, .inr (.inl fw)))] H → va_D A [(h0, .inr (8, [.ref qt, .ref qw, .int t2, .int t3, .int t4, .int t5, .int t6, .long t7])), (qt, .inl (kt, 900, .inl ft)), (qw, .inl (kw, 25, .inr (.inl fw)))] → va_S A s.heap H locs → lv_has ls 8 [(0, .ref h0), (2, .long l2), (4, .int l4), (6, .long l6)] → W p l e ({ frames := 1, cells := 0, slots := 0, locals := 60 }) s m args below meth c H locs 0 0 (MQ below (va_Qi (fun (r : Int32) (_ : Unit) => True) (fun (_ : Unit) (t : State) => ∃ (u2 : Int32), ∃ (u3 : Int32), ∃ (u4 : Int32), ∃ (u5 : Int32), ∃ (u6 : Int32), ∃ (u7 : Int64), zPost dC dI A [(h0, .inr (8, [.ref qt, .ref qw, .int u2, .int u3, .int u4, .int u5, .int u6, .long u7])), (qt, .inl (kt, 900, .inl ft)), (qw, .inl (kw, 25, .inr (.inl fw)))] [(kt, .int), (kw, .long)] t) A) args s 0 0 A) (F0 m 153 ls []) := by
  intro l2 l4 l6 H locs ls hP hD hS hl
  refine lv_aload_n hx hb dX9_rowType_153 rfl (lv_at hl 0 rfl) ?_
  refine lv_lload_n hx hb dX9_rowType_154 rfl (lv_at hl 1 rfl) ?_
  obtain ⟨z8, ez8⟩ : ∃ y : Int32, y = (l2 : Int64).toInt32 := ⟨_, rfl⟩
  refine lv_l2i (v := z8) hx hb dX9_rowType_155 ez8.symm ?_
  refine lv_iload hx hb dX9_rowType_156 (lv_at hl 2 rfl) ?_
  refine lv_if_eq (tgt := 165) hx hb dX9_rowType_158 (by decide) (fun c9 => ?_) (fun c9 => ?_)
  ·
    refine lv_bipush (v := 10) hx hb dX9_rowType_165 (by decide) ?_
    refine lv_iadd hx hb dX9_rowType_167 ?_
    refine lv_topi (fun z10 ez10 => ?_)
    refine va_put (D := (dC, dI)) (ci := 8) (v := .int z10) (ty := .int) (C := RX9) (T := TX9) (N := 8) hx hb hts i_X9_rowType_X9 tyX9 tyX9_ok nmX9 hown hK hP hD hS 0 rfl rfl 6 (by decide) (hts (.fieldLink RX9 66 "StatementRules2$Tokens" "value" "I") k_X9_rowType_fieldLink_RX9_66_SR_Tokens_value_I) (fun _ h9 => h9) rfl (by decide +kernel) rfl rfl (Nat.le_of_ble_eq_true rfl) dX9_rowType_168 (fun H locs hP hD hS => ?_)
    have hP : va_P (dC, dI) vwCl [(h0, .inr (8, [.ref qt, .ref qw, .int t2, .int t3, .int t4, .int t5, .int z10, .long t7])), (qt, .inl (kt, 900, .inl ft)), (qw, .inl (kw, 25, .inr (.inl fw)))] H := hP
    have hD : va_D A [(h0, .inr (8, [.ref qt, .ref qw, .int t2, .int t3, .int t4, .int t5, .int z10, .long t7])), (qt, .inl (kt, 900, .inl ft)), (qw, .inl (kw, 25, .inr (.inl fw)))] := hD
    exact j_X9_rowType_171 l dC dI h0 qt qw kt kw t2 t3 t4 t5 t7 ft fw hx hb hr hml hown hts hlocks hZ hA hK z10 l6 _ _ _ hP hD hS (lv_sub hl [0, 3] rfl)
  ·
    refine lv_iconst (v := 0) hx hb dX9_rowType_161 (by decide) ?_
    refine lv_goto (tgt := 167) hx hb dX9_rowType_162 (by decide) ?_
    refine lv_iadd hx hb dX9_rowType_167 ?_
    refine lv_topi (fun z19 ez19 => ?_)
    refine va_put (D := (dC, dI)) (ci := 8) (v := .int z19) (ty := .int) (C := RX9) (T := TX9) (N := 8) hx hb hts i_X9_rowType_X9 tyX9 tyX9_ok nmX9 hown hK hP hD hS 0 rfl rfl 6 (by decide) (hts (.fieldLink RX9 66 "StatementRules2$Tokens" "value" "I") k_X9_rowType_fieldLink_RX9_66_SR_Tokens_value_I) (fun _ h9 => h9) rfl (by decide +kernel) rfl rfl (Nat.le_of_ble_eq_true rfl) dX9_rowType_168 (fun H locs hP hD hS => ?_)
    have hP : va_P (dC, dI) vwCl [(h0, .inr (8, [.ref qt, .ref qw, .int t2, .int t3, .int t4, .int t5, .int z19, .long t7])), (qt, .inl (kt, 900, .inl ft)), (qw, .inl (kw, 25, .inr (.inl fw)))] H := hP
    have hD : va_D A [(h0, .inr (8, [.ref qt, .ref qw, .int t2, .int t3, .int t4, .int t5, .int z19, .long t7])), (qt, .inl (kt, 900, .inl ft)), (qw, .inl (kw, 25, .inr (.inl fw)))] := hD
    exact j_X9_rowType_171 l dC dI h0 qt qw kt kw t2 t3 t4 t5 t7 ft fw hx hb hr hml hown hts hlocks hZ hA hK z19 l6 _ _ _ hP hD hS (lv_sub hl [0, 3] rfl)
set_option maxHeartbeats 4000000 in
set_option maxRecDepth 100000 in
theorem j_X9_rowType_129 {p : Program} {e : Env} {s : State} {m : MethodId} {args : Array Value} {below : List Frame} {meth : Method} {c : Code} {A : Nat → Prop} (l : Launch) (dC : Nat → ClassId) (dI : Nat → Nat → Nat) (h0 : Nat) (qt : Nat) (qw : Nat) (kt : ClassId) (kw : ClassId) (t2 : Int32) (t3 : Int32) (t4 : Int32) (t5 : Int32) (t6 : Int32) (t7 : Int64) (ft : Nat → Int32) (fw : Nat → Int64) (hx : p.tables.exec = Jvm.exec) (hb : c.code = cX9_rowType) (hr : meth.sig.returnType = (some .int)) (hml : c.maxLocals = 8) (hown : s.vm.findClass RX9 = some m.cls) (hts : ∀ w ∈ wzX9_rowType, w.before args s = true) (hlocks : meth.locks = false) (hZ : zAMB s) (hA : ∀ q : Nat, s.heap.size ≤ q → A q) (hK : va_K (dC, dI) vwCl [(kt, .int), (kw, .long)] s) : ∀ (l2 : Int64) (l4 : Int32) (H : Heap) (locs : List Loc) (ls : Array Slot), va_P (dC, dI) vwCl [(h0, .inr (8, [.ref qt, .ref qw, .int t2, .int t3, .int t4, .int t5, .int t6, .long t7])), (qt, .inl (kt, 900, .inl ft)), (qw, .inl (kw, 25, .inr (.inl fw)))] H → va_D A [(h0, .inr (8, [.ref qt, .ref qw, .int t2, .int t3, .int t4, .int t5, .int t6, .long t7])), (qt, .inl (kt, 900, .inl ft)), (qw, .inl (kw, 25, .inr (.inl fw)))] → va_S A s.heap H locs → lv_has ls 8 [(0, .ref h0), (2, .long l2), (4, .int l4)] → W p l e ({ frames := 1, cells := 0, slots := 0, locals := 60 }) s m args below meth c H locs 0 0 (MQ below (va_Qi (fun (r : Int32) (_ : Unit) => True) (fun (_ : Unit) (t : State) => ∃ (u2 : Int32), ∃ (u3 : Int32), ∃ (u4 : Int32), ∃ (u5 : Int32), ∃ (u6 : Int32), ∃ (u7 : Int64), zPost dC dI A [(h0, .inr (8, [.ref qt, .ref qw, .int u2, .int u3, .int u4, .int u5, .int u6, .long u7])), (qt, .inl (kt, 900, .inl ft)), (qw, .inl (kw, 25, .inr (.inl fw)))] [(kt, .int), (kw, .long)] t) A) args s 0 0 A) (F0 m 129 ls []) := by
  intro l2 l4 H locs ls hP hD hS hl
  refine lv_iload hx hb dX9_rowType_129 (lv_at hl 2 rfl) ?_
  refine lv_if_eq (tgt := 144) hx hb dX9_rowType_131 (by decide) (fun c6 => ?_) (fun c6 => ?_)
  ·
    refine lv_aload_n hx hb dX9_rowType_144 rfl (lv_at hl 0 rfl) ?_
    refine va_get (D := (dC, dI)) (ci := 8) (v := .long t7) (C := RX9) (T := TX9) (N := 8) hx hb hts i_X9_rowType_X9 hown hK hP 0 rfl rfl 7 (by decide) (hts (.fieldLink RX9 69 "StatementRules2$Tokens" "name" "J") k_X9_rowType_fieldLink_RX9_69_SR_Tokens_name_J) (fun _ h9 => h9) rfl dX9_rowType_145 ?_
    refine lv_bipush (v := 16) hx hb dX9_rowType_148 (by decide) ?_
    obtain ⟨z7, ez7⟩ : ∃ y : Int64, y = (t7 : Int64) >>> ((16 : Int32).toInt64 &&& 63) := ⟨_, rfl⟩
    refine lv_lshr (v := z7) hx hb dX9_rowType_150 ez7.symm ?_
    refine lv_lstore (lv' := [(6, .long z7), (0, .ref h0), (2, .long l2), (4, .int l4)]) hx hb dX9_rowType_151 hl (by decide) rfl (fun ls hl => ?_)
    exact j_X9_rowType_153 l dC dI h0 qt qw kt kw t2 t3 t4 t5 t6 t7 ft fw hx hb hr hml hown hts hlocks hZ hA hK l2 l4 z7 _ _ _ hP hD hS (lv_sub hl [1, 2, 3, 0] rfl)
  ·
    refine lv_aload_n hx hb dX9_rowType_134 rfl (lv_at hl 0 rfl) ?_
    refine va_get (D := (dC, dI)) (ci := 8) (v := .long t7) (C := RX9) (T := TX9) (N := 8) hx hb hts i_X9_rowType_X9 hown hK hP 0 rfl rfl 7 (by decide) (hts (.fieldLink RX9 69 "StatementRules2$Tokens" "name" "J") k_X9_rowType_fieldLink_RX9_69_SR_Tokens_name_J) (fun _ h9 => h9) rfl dX9_rowType_135 ?_
    refine lv_bipush (v := 8) hx hb dX9_rowType_138 (by decide) ?_
    obtain ⟨z20, ez20⟩ : ∃ y : Int64, y = (t7 : Int64) >>> ((8 : Int32).toInt64 &&& 63) := ⟨_, rfl⟩
    refine lv_lshr (v := z20) hx hb dX9_rowType_140 ez20.symm ?_
    refine lv_goto (tgt := 151) hx hb dX9_rowType_141 (by decide) ?_
    refine lv_lstore (lv' := [(6, .long z20), (0, .ref h0), (2, .long l2), (4, .int l4)]) hx hb dX9_rowType_151 hl (by decide) rfl (fun ls hl => ?_)
    exact j_X9_rowType_153 l dC dI h0 qt qw kt kw t2 t3 t4 t5 t6 t7 ft fw hx hb hr hml hown hts hlocks hZ hA hK l2 l4 z20 _ _ _ hP hD hS (lv_sub hl [1, 2, 3, 0] rfl)
set_option maxHeartbeats 4000000 in
set_option maxRecDepth 100000 in
theorem j_X9_rowType_117 {p : Program} {e : Env} {s : State} {m : MethodId} {args : Array Value} {below : List Frame} {meth : Method} {c : Code} {A : Nat → Prop} (l : Launch) (dC : Nat → ClassId) (dI : Nat → Nat → Nat) (h0 : Nat) (qt : Nat) (qw : Nat) (kt : ClassId) (kw : ClassId) (t2 : Int32) (t3 : Int32) (t4 : Int32) (t5 : Int32) (t6 : Int32) (t7 : Int64) (ft : Nat → Int32) (fw : Nat → Int64) (hx : p.tables.exec = Jvm.exec) (hb : c.code = cX9_rowType) (hr : meth.sig.returnType = (some .int)) (hml : c.maxLocals = 8) (hown : s.vm.findClass RX9 = some m.cls) (hts : ∀ w ∈ wzX9_rowType, w.before args s = true) (hlocks : meth.locks = false) (hZ : zAMB s) (hA : ∀ q : Nat, s.heap.size ≤ q → A q) (hK : va_K (dC, dI) vwCl [(kt, .int), (kw, .long)] s) : ∀ (l2 : Int64) (l4 : Int32) (l5 : Int32) (H : Heap) (locs : List Loc) (ls : Array Slot), va_P (dC, dI) vwCl [(h0, .inr (8, [.ref qt, .ref qw, .int t2, .int t3, .int t4, .int t5, .int t6, .long t7])), (qt, .inl (kt, 900, .inl ft)), (qw, .inl (kw, 25, .inr (.inl fw)))] H → va_D A [(h0, .inr (8, [.ref qt, .ref qw, .int t2, .int t3, .int t4, .int t5, .int t6, .long t7])), (qt, .inl (kt, 900, .inl ft)), (qw, .inl (kw, 25, .inr (.inl fw)))] → va_S A s.heap H locs → lv_has ls 8 [(0, .ref h0), (2, .long l2), (4, .int l4), (5, .int l5)] → W p l e ({ frames := 1, cells := 0, slots := 0, locals := 60 }) s m args below meth c H locs 0 0 (MQ below (va_Qi (fun (r : Int32) (_ : Unit) => True) (fun (_ : Unit) (t : State) => ∃ (u2 : Int32), ∃ (u3 : Int32), ∃ (u4 : Int32), ∃ (u5 : Int32), ∃ (u6 : Int32), ∃ (u7 : Int64), zPost dC dI A [(h0, .inr (8, [.ref qt, .ref qw, .int u2, .int u3, .int u4, .int u5, .int u6, .long u7])), (qt, .inl (kt, 900, .inl ft)), (qw, .inl (kw, 25, .inr (.inl fw)))] [(kt, .int), (kw, .long)] t) A) args s 0 0 A) (F0 m 117 ls []) := by
  intro l2 l4 l5 H locs ls hP hD hS hl
  refine lv_iload hx hb dX9_rowType_117 (lv_at hl 2 rfl) ?_
  refine lv_if_ne (tgt := 129) hx hb dX9_rowType_119 (by decide) (fun c5 => ?_) (fun c5 => ?_)
  ·
    exact j_X9_rowType_129 l dC dI h0 qt qw kt kw t2 t3 t4 t5 t6 t7 ft fw hx hb hr hml hown hts hlocks hZ hA hK l2 l4 _ _ _ hP hD hS (lv_sub hl [0, 1, 2] rfl)
  ·
    refine lv_iload hx hb dX9_rowType_122 (lv_at hl 3 rfl) ?_
    refine lv_if_ne (tgt := 129) hx hb dX9_rowType_124 (by decide) (fun c21 => ?_) (fun c21 => ?_)
    ·
      exact j_X9_rowType_129 l dC dI h0 qt qw kt kw t2 t3 t4 t5 t6 t7 ft fw hx hb hr hml hown hts hlocks hZ hA hK l2 l4 _ _ _ hP hD hS (lv_sub hl [0, 1, 2] rfl)
    ·
      refine lv_iconst (v := 2) hx hb dX9_rowType_127 (by decide) ?_
      have hP9 := hP.sub (ws' := [(h0, .inr (8, [.ref qt, .ref qw, .int t2, .int t3, .int t4, .int t5, .int t6, .long t7])), (qt, .inl (kt, 900, .inl ft)), (qw, .inl (kw, 25, .inr (.inl fw)))]) [0, 1, 2] rfl
      have hD9 := hD.sub (ws' := [(h0, .inr (8, [.ref qt, .ref qw, .int t2, .int t3, .int t4, .int t5, .int t6, .long t7])), (qt, .inl (kt, 900, .inl ft)), (qw, .inl (kw, 25, .inr (.inl fw)))]) [0, 1, 2] (by decide) rfl
      have hK9 := hK.sub (tys' := [(kt, .int), (kw, .long)]) [0, 1] rfl
      exact W.iret (v := 2) hx hb hr (fun t ht hW => ⟨⟨2, (), rfl, trivial, t2, t3, t4, t5, t6, t7, by rw [ht]; exact hP9, va_K.moved hW.alike hK9, hD9⟩, hS.F ht⟩) hS.2.2 dX9_rowType_128
set_option maxHeartbeats 4000000 in
set_option maxRecDepth 100000 in
theorem j_X9_rowType_114 {p : Program} {e : Env} {s : State} {m : MethodId} {args : Array Value} {below : List Frame} {meth : Method} {c : Code} {A : Nat → Prop} (l : Launch) (dC : Nat → ClassId) (dI : Nat → Nat → Nat) (h0 : Nat) (qt : Nat) (qw : Nat) (kt : ClassId) (kw : ClassId) (t2 : Int32) (t3 : Int32) (t4 : Int32) (t5 : Int32) (t6 : Int32) (t7 : Int64) (ft : Nat → Int32) (fw : Nat → Int64) (hx : p.tables.exec = Jvm.exec) (hb : c.code = cX9_rowType) (hr : meth.sig.returnType = (some .int)) (hml : c.maxLocals = 8) (hown : s.vm.findClass RX9 = some m.cls) (hts : ∀ w ∈ wzX9_rowType, w.before args s = true) (hlocks : meth.locks = false) (hZ : zAMB s) (hA : ∀ q : Nat, s.heap.size ≤ q → A q) (hK : va_K (dC, dI) vwCl [(kt, .int), (kw, .long)] s) : ∀ (l2 : Int64) (l4 : Int32) (H : Heap) (locs : List Loc) (ls : Array Slot), va_P (dC, dI) vwCl [(h0, .inr (8, [.ref qt, .ref qw, .int t2, .int t3, .int t4, .int t5, .int t6, .long t7])), (qt, .inl (kt, 900, .inl ft)), (qw, .inl (kw, 25, .inr (.inl fw)))] H → va_D A [(h0, .inr (8, [.ref qt, .ref qw, .int t2, .int t3, .int t4, .int t5, .int t6, .long t7])), (qt, .inl (kt, 900, .inl ft)), (qw, .inl (kw, 25, .inr (.inl fw)))] → va_S A s.heap H locs → lv_has ls 8 [(0, .ref h0), (2, .long l2), (4, .int l4)] → W p l e ({ frames := 1, cells := 0, slots := 0, locals := 60 }) s m args below meth c H locs 0 0 (MQ below (va_Qi (fun (r : Int32) (_ : Unit) => True) (fun (_ : Unit) (t : State) => ∃ (u2 : Int32), ∃ (u3 : Int32), ∃ (u4 : Int32), ∃ (u5 : Int32), ∃ (u6 : Int32), ∃ (u7 : Int64), zPost dC dI A [(h0, .inr (8, [.ref qt, .ref qw, .int u2, .int u3, .int u4, .int u5, .int u6, .long u7])), (qt, .inl (kt, 900, .inl ft)), (qw, .inl (kw, 25, .inr (.inl fw)))] [(kt, .int), (kw, .long)] t) A) args s 0 0 A) (F0 m 114 ls []) := by
  intro l2 l4 H locs ls hP hD hS hl
  refine lv_iconst (v := 0) hx hb dX9_rowType_114 (by decide) ?_
  refine lv_istore (lv' := [(5, .int 0), (0, .ref h0), (2, .long l2), (4, .int l4)]) hx hb dX9_rowType_115 hl (by decide) rfl (fun ls hl => ?_)
  exact j_X9_rowType_117 l dC dI h0 qt qw kt kw t2 t3 t4 t5 t6 t7 ft fw hx hb hr hml hown hts hlocks hZ hA hK l2 l4 0 _ _ _ hP hD hS (lv_sub hl [1, 2, 3, 0] rfl)
set_option maxHeartbeats 4000000 in
set_option maxRecDepth 100000 in
theorem j_X9_rowType_73 {p : Program} {e : Env} {s : State} {m : MethodId} {args : Array Value} {below : List Frame} {meth : Method} {c : Code} {A : Nat → Prop} (l : Launch) (dC : Nat → ClassId) (dI : Nat → Nat → Nat) (h0 : Nat) (qt : Nat) (qw : Nat) (kt : ClassId) (kw : ClassId) (t2 : Int32) (t3 : Int32) (t4 : Int32) (t5 : Int32) (t6 : Int32) (t7 : Int64) (ft : Nat → Int32) (fw : Nat → Int64) (x : Int32) (hx : p.tables.exec = Jvm.exec) (hb : c.code = cX9_rowType) (hr : meth.sig.returnType = (some .int)) (hml : c.maxLocals = 8) (hown : s.vm.findClass RX9 = some m.cls) (hts : ∀ w ∈ wzX9_rowType, w.before args s = true) (hlocks : meth.locks = false) (hZ : zAMB s) (hA : ∀ q : Nat, s.heap.size ≤ q → A q) (hK : va_K (dC, dI) vwCl [(kt, .int), (kw, .long)] s) : ∀ (l2 : Int64) (l4 : Int32) (H : Heap) (locs : List Loc) (ls : Array Slot), va_P (dC, dI) vwCl [(h0, .inr (8, [.ref qt, .ref qw, .int t2, .int t3, .int t4, .int t5, .int t6, .long t7])), (qt, .inl (kt, 900, .inl ft)), (qw, .inl (kw, 25, .inr (.inl fw)))] H → va_D A [(h0, .inr (8, [.ref qt, .ref qw, .int t2, .int t3, .int t4, .int t5, .int t6, .long t7])), (qt, .inl (kt, 900, .inl ft)), (qw, .inl (kw, 25, .inr (.inl fw)))] → va_S A s.heap H locs → lv_has ls 8 [(0, .ref h0), (1, .int x), (2, .long l2), (4, .int l4)] → W p l e ({ frames := 1, cells := 0, slots := 0, locals := 60 }) s m args below meth c H locs 0 0 (MQ below (va_Qi (fun (r : Int32) (_ : Unit) => True) (fun (_ : Unit) (t : State) => ∃ (u2 : Int32), ∃ (u3 : Int32), ∃ (u4 : Int32), ∃ (u5 : Int32), ∃ (u6 : Int32), ∃ (u7 : Int64), zPost dC dI A [(h0, .inr (8, [.ref qt, .ref qw, .int u2, .int u3, .int u4, .int u5, .int u6, .long u7])), (qt, .inl (kt, 900, .inl ft)), (qw, .inl (kw, 25, .inr (.inl fw)))] [(kt, .int), (kw, .long)] t) A) args s 0 0 A) (F0 m 73 ls []) := by
  intro l2 l4 H locs ls hP hD hS hl
  refine lv_iload_n hx hb dX9_rowType_73 rfl (lv_at hl 1 rfl) ?_
  refine lv_iconst (v := 3) hx hb dX9_rowType_74 (by decide) ?_
  refine lv_icmp_ne (tgt := 114) hx hb dX9_rowType_75 (by decide) (fun c4 => ?_) (fun c4 => ?_)
  ·
    exact j_X9_rowType_114 l dC dI h0 qt qw kt kw t2 t3 t4 t5 t6 t7 ft fw hx hb hr hml hown hts hlocks hZ hA hK l2 l4 _ _ _ hP hD hS (lv_sub hl [0, 2, 3] rfl)
  ·
    refine lv_lload_n hx hb dX9_rowType_78 rfl (lv_at hl 2 rfl) ?_
    refine lv_lconst (v := 0) hx hb dX9_rowType_79 (by decide) ?_
    refine W.lcmp hx hb dX9_rowType_80 ?_
    refine lv_topi (fun z22 ez22 => ?_)
    refine lv_if_lt (tgt := 114) hx hb dX9_rowType_81 (by decide) (fun c23 => ?_) (fun c23 => ?_)
    ·
      exact j_X9_rowType_114 l dC dI h0 qt qw kt kw t2 t3 t4 t5 t6 t7 ft fw hx hb hr hml hown hts hlocks hZ hA hK l2 l4 _ _ _ hP hD hS (lv_sub hl [0, 2, 3] rfl)
    ·
      refine lv_lload_n hx hb dX9_rowType_84 rfl (lv_at hl 2 rfl) ?_
      refine lv_ldc2 (v := 9) hx hb hown (hts (.constantLong RX9 80 (9)) k_X9_rowType_constantLong_RX9_80_9) dX9_rowType_85 ?_
      refine W.lcmp hx hb dX9_rowType_88 ?_
      refine lv_topi (fun z24 ez24 => ?_)
      refine lv_if_gt (tgt := 114) hx hb dX9_rowType_89 (by decide) (fun c25 => ?_) (fun c25 => ?_)
      ·
        exact j_X9_rowType_114 l dC dI h0 qt qw kt kw t2 t3 t4 t5 t6 t7 ft fw hx hb hr hml hown hts hlocks hZ hA hK l2 l4 _ _ _ hP hD hS (lv_sub hl [0, 2, 3] rfl)
      ·
        refine lv_aload_n hx hb dX9_rowType_92 rfl (lv_at hl 0 rfl) ?_
        refine va_get (D := (dC, dI)) (ci := 8) (v := .long t7) (C := RX9) (T := TX9) (N := 8) hx hb hts i_X9_rowType_X9 hown hK hP 0 rfl rfl 7 (by decide) (hts (.fieldLink RX9 69 "StatementRules2$Tokens" "name" "J") k_X9_rowType_fieldLink_RX9_69_SR_Tokens_name_J) (fun _ h9 => h9) rfl dX9_rowType_93 ?_
        refine lv_bipush (v := 8) hx hb dX9_rowType_96 (by decide) ?_
        obtain ⟨z26, ez26⟩ : ∃ y : Int64, y = (t7 : Int64) >>> ((8 : Int32).toInt64 &&& 63) := ⟨_, rfl⟩
        refine lv_lshr (v := z26) hx hb dX9_rowType_98 ez26.symm ?_
        refine lv_ldc2 (v := 255) hx hb hown (hts (.constantLong RX9 76 (255)) k_X9_rowType_constantLong_RX9_76_255) dX9_rowType_99 ?_
        refine lv_land hx hb dX9_rowType_102 ?_
        refine lv_topl (fun z27 ez27 => ?_)
        refine lv_ldc2 (v := 49) hx hb hown (hts (.constantLong RX9 82 (49)) k_X9_rowType_constantLong_RX9_82_49) dX9_rowType_103 ?_
        refine W.lcmp hx hb dX9_rowType_106 ?_
        refine lv_topi (fun z28 ez28 => ?_)
        refine lv_if_ne (tgt := 114) hx hb dX9_rowType_107 (by decide) (fun c29 => ?_) (fun c29 => ?_)
        ·
          exact j_X9_rowType_114 l dC dI h0 qt qw kt kw t2 t3 t4 t5 t6 t7 ft fw hx hb hr hml hown hts hlocks hZ hA hK l2 l4 _ _ _ hP hD hS (lv_sub hl [0, 2, 3] rfl)
        ·
          refine lv_iconst (v := 1) hx hb dX9_rowType_110 (by decide) ?_
          refine lv_goto (tgt := 115) hx hb dX9_rowType_111 (by decide) ?_
          refine lv_istore (lv' := [(5, .int 1), (0, .ref h0), (1, .int x), (2, .long l2), (4, .int l4)]) hx hb dX9_rowType_115 hl (by decide) rfl (fun ls hl => ?_)
          exact j_X9_rowType_117 l dC dI h0 qt qw kt kw t2 t3 t4 t5 t6 t7 ft fw hx hb hr hml hown hts hlocks hZ hA hK l2 l4 1 _ _ _ hP hD hS (lv_sub hl [1, 3, 4, 0] rfl)
set_option maxHeartbeats 4000000 in
set_option maxRecDepth 100000 in
theorem j_X9_rowType_70 {p : Program} {e : Env} {s : State} {m : MethodId} {args : Array Value} {below : List Frame} {meth : Method} {c : Code} {A : Nat → Prop} (l : Launch) (dC : Nat → ClassId) (dI : Nat → Nat → Nat) (h0 : Nat) (qt : Nat) (qw : Nat) (kt : ClassId) (kw : ClassId) (t2 : Int32) (t3 : Int32) (t4 : Int32) (t5 : Int32) (t6 : Int32) (t7 : Int64) (ft : Nat → Int32) (fw : Nat → Int64) (x : Int32) (hx : p.tables.exec = Jvm.exec) (hb : c.code = cX9_rowType) (hr : meth.sig.returnType = (some .int)) (hml : c.maxLocals = 8) (hown : s.vm.findClass RX9 = some m.cls) (hts : ∀ w ∈ wzX9_rowType, w.before args s = true) (hlocks : meth.locks = false) (hZ : zAMB s) (hA : ∀ q : Nat, s.heap.size ≤ q → A q) (hK : va_K (dC, dI) vwCl [(kt, .int), (kw, .long)] s) : ∀ (l2 : Int64) (H : Heap) (locs : List Loc) (ls : Array Slot), va_P (dC, dI) vwCl [(h0, .inr (8, [.ref qt, .ref qw, .int t2, .int t3, .int t4, .int t5, .int t6, .long t7])), (qt, .inl (kt, 900, .inl ft)), (qw, .inl (kw, 25, .inr (.inl fw)))] H → va_D A [(h0, .inr (8, [.ref qt, .ref qw, .int t2, .int t3, .int t4, .int t5, .int t6, .long t7])), (qt, .inl (kt, 900, .inl ft)), (qw, .inl (kw, 25, .inr (.inl fw)))] → va_S A s.heap H locs → lv_has ls 8 [(0, .ref h0), (1, .int x), (2, .long l2)] → W p l e ({ frames := 1, cells := 0, slots := 0, locals := 60 }) s m args below meth c H locs 0 0 (MQ below (va_Qi (fun (r : Int32) (_ : Unit) => True) (fun (_ : Unit) (t : State) => ∃ (u2 : Int32), ∃ (u3 : Int32), ∃ (u4 : Int32), ∃ (u5 : Int32), ∃ (u6 : Int32), ∃ (u7 : Int64), zPost dC dI A [(h0, .inr (8, [.ref qt, .ref qw, .int u2, .int u3, .int u4, .int u5, .int u6, .long u7])), (qt, .inl (kt, 900, .inl ft)), (qw, .inl (kw, 25, .inr (.inl fw)))] [(kt, .int), (kw, .long)] t) A) args s 0 0 A) (F0 m 70 ls []) := by
  intro l2 H locs ls hP hD hS hl
  refine lv_iconst (v := 0) hx hb dX9_rowType_70 (by decide) ?_
  refine lv_istore (lv' := [(4, .int 0), (0, .ref h0), (1, .int x), (2, .long l2)]) hx hb dX9_rowType_71 hl (by decide) rfl (fun ls hl => ?_)
  exact j_X9_rowType_73 l dC dI h0 qt qw kt kw t2 t3 t4 t5 t6 t7 ft fw x hx hb hr hml hown hts hlocks hZ hA hK l2 0 _ _ _ hP hD hS (lv_sub hl [1, 2, 3, 0] rfl)
set_option maxHeartbeats 4000000 in
set_option maxRecDepth 100000 in
theorem j_X9_rowType_2 {p : Program} {e : Env} {s : State} {m : MethodId} {args : Array Value} {below : List Frame} {meth : Method} {c : Code} {A : Nat → Prop} (l : Launch) (dC : Nat → ClassId) (dI : Nat → Nat → Nat) (h0 : Nat) (qt : Nat) (qw : Nat) (kt : ClassId) (kw : ClassId) (t2 : Int32) (t3 : Int32) (t4 : Int32) (t5 : Int32) (t6 : Int32) (t7 : Int64) (ft : Nat → Int32) (fw : Nat → Int64) (x : Int32) (hx : p.tables.exec = Jvm.exec) (hb : c.code = cX9_rowType) (hr : meth.sig.returnType = (some .int)) (hml : c.maxLocals = 8) (hown : s.vm.findClass RX9 = some m.cls) (hts : ∀ w ∈ wzX9_rowType, w.before args s = true) (hlocks : meth.locks = false) (hZ : zAMB s) (hA : ∀ q : Nat, s.heap.size ≤ q → A q) (hK : va_K (dC, dI) vwCl [(kt, .int), (kw, .long)] s) : ∀ (n9 : Nat) (l2 : Int32) (H : Heap) (locs : List Loc) (ls : Array Slot), (∃ k9 : Nat, l2 = nI k9 ∧ k9 + n9 = 25) → va_P (dC, dI) vwCl [(h0, .inr (8, [.ref qt, .ref qw, .int t2, .int t3, .int t4, .int t5, .int t6, .long t7])), (qt, .inl (kt, 900, .inl ft)), (qw, .inl (kw, 25, .inr (.inl fw)))] H → va_D A [(h0, .inr (8, [.ref qt, .ref qw, .int t2, .int t3, .int t4, .int t5, .int t6, .long t7])), (qt, .inl (kt, 900, .inl ft)), (qw, .inl (kw, 25, .inr (.inl fw)))] → va_S A s.heap H locs → lv_has ls 8 [(0, .ref h0), (1, .int x), (2, .int l2)] → W p l e ({ frames := 1, cells := 0, slots := 0, locals := 60 }) s m args below meth c H locs 0 0 (MQ below (va_Qi (fun (r : Int32) (_ : Unit) => True) (fun (_ : Unit) (t : State) => ∃ (u2 : Int32), ∃ (u3 : Int32), ∃ (u4 : Int32), ∃ (u5 : Int32), ∃ (u6 : Int32), ∃ (u7 : Int64), zPost dC dI A [(h0, .inr (8, [.ref qt, .ref qw, .int u2, .int u3, .int u4, .int u5, .int u6, .long u7])), (qt, .inl (kt, 900, .inl ft)), (qw, .inl (kw, 25, .inr (.inl fw)))] [(kt, .int), (kw, .long)] t) A) args s 0 0 A) (F0 m 2 ls []) := by
  intro n9
  induction n9 with
  | zero =>
    intro l2 H locs ls hinv hP hD hS hl
    have hge : (25 : Int32) ≤ l2 := by obtain ⟨k9, h9, h8⟩ := hinv; rw [h9, show k9 = 25 by omega]; decide
    refine lv_iload_n hx hb dX9_rowType_2 rfl (lv_at hl 2 rfl) ?_
    refine lv_bipush (v := 25) hx hb dX9_rowType_3 (by decide) ?_
    refine lv_icmp_ge (tgt := 34) hx hb dX9_rowType_5 (by decide) (fun _ => ?_) (fun c9 => absurd hge c9)
    refine lv_aload_n hx hb dX9_rowType_34 rfl (lv_at hl 0 rfl) ?_
    refine va_get (D := (dC, dI)) (ci := 8) (v := .long t7) (C := RX9) (T := TX9) (N := 8) hx hb hts i_X9_rowType_X9 hown hK hP 0 rfl rfl 7 (by decide) (hts (.fieldLink RX9 69 "StatementRules2$Tokens" "name" "J") k_X9_rowType_fieldLink_RX9_69_SR_Tokens_name_J) (fun _ h9 => h9) rfl dX9_rowType_35 ?_
    refine lv_ldc2 (v := 255) hx hb hown (hts (.constantLong RX9 76 (255)) k_X9_rowType_constantLong_RX9_76_255) dX9_rowType_38 ?_
    refine lv_land hx hb dX9_rowType_41 ?_
    refine lv_topl (fun z1 ez1 => ?_)
    refine lv_ldc2 (v := 48) hx hb hown (hts (.constantLong RX9 78 (48)) k_X9_rowType_constantLong_RX9_78_48) dX9_rowType_42 ?_
    refine lv_lsub hx hb dX9_rowType_45 ?_
    refine lv_topl (fun z2 ez2 => ?_)
    refine lv_lstore_n (lv' := [(2, .long z2), (0, .ref h0), (1, .int x)]) hx hb dX9_rowType_46 rfl hl (by decide) rfl (fun ls hl => ?_)
    refine lv_iload_n hx hb dX9_rowType_47 rfl (lv_at hl 2 rfl) ?_
    refine lv_iconst (v := 2) hx hb dX9_rowType_48 (by decide) ?_
    refine lv_icmp_ne (tgt := 70) hx hb dX9_rowType_49 (by decide) (fun c3 => ?_) (fun c3 => ?_)
    ·
      exact j_X9_rowType_70 l dC dI h0 qt qw kt kw t2 t3 t4 t5 t6 t7 ft fw x hx hb hr hml hown hts hlocks hZ hA hK z2 _ _ _ hP hD hS (lv_sub hl [1, 2, 0] rfl)
    ·
      refine lv_lload_n hx hb dX9_rowType_52 rfl (lv_at hl 0 rfl) ?_
      refine lv_lconst (v := 0) hx hb dX9_rowType_53 (by decide) ?_
      refine W.lcmp hx hb dX9_rowType_54 ?_
      refine lv_topi (fun z30 ez30 => ?_)
      refine lv_if_lt (tgt := 70) hx hb dX9_rowType_55 (by decide) (fun c31 => ?_) (fun c31 => ?_)
      ·
        exact j_X9_rowType_70 l dC dI h0 qt qw kt kw t2 t3 t4 t5 t6 t7 ft fw x hx hb hr hml hown hts hlocks hZ hA hK z2 _ _ _ hP hD hS (lv_sub hl [1, 2, 0] rfl)
      ·
        refine lv_lload_n hx hb dX9_rowType_58 rfl (lv_at hl 0 rfl) ?_
        refine lv_ldc2 (v := 9) hx hb hown (hts (.constantLong RX9 80 (9)) k_X9_rowType_constantLong_RX9_80_9) dX9_rowType_59 ?_
        refine W.lcmp hx hb dX9_rowType_62 ?_
        refine lv_topi (fun z32 ez32 => ?_)
        refine lv_if_gt (tgt := 70) hx hb dX9_rowType_63 (by decide) (fun c33 => ?_) (fun c33 => ?_)
        ·
          exact j_X9_rowType_70 l dC dI h0 qt qw kt kw t2 t3 t4 t5 t6 t7 ft fw x hx hb hr hml hown hts hlocks hZ hA hK z2 _ _ _ hP hD hS (lv_sub hl [1, 2, 0] rfl)
        ·
          refine lv_iconst (v := 1) hx hb dX9_rowType_66 (by decide) ?_
          refine lv_goto (tgt := 71) hx hb dX9_rowType_67 (by decide) ?_
          refine lv_istore (lv' := [(4, .int 1), (2, .long z2), (0, .ref h0), (1, .int x)]) hx hb dX9_rowType_71 hl (by decide) rfl (fun ls hl => ?_)
          exact j_X9_rowType_73 l dC dI h0 qt qw kt kw t2 t3 t4 t5 t6 t7 ft fw x hx hb hr hml hown hts hlocks hZ hA hK z2 1 _ _ _ hP hD hS (lv_sub hl [2, 3, 1, 0] rfl)
  | succ n9 ih =>
    intro l2 H locs ls hinv hP hD hS hl
    have hge : ¬ (25 : Int32) ≤ l2 := by obtain ⟨k9, h9, h8⟩ := hinv; rw [h9]; exact nI_ge (a := k9) (b := 25) (by omega) (by decide)
    refine lv_iload_n hx hb dX9_rowType_2 rfl (lv_at hl 2 rfl) ?_
    refine lv_bipush (v := 25) hx hb dX9_rowType_3 (by decide) ?_
    refine lv_icmp_ge (tgt := 34) hx hb dX9_rowType_5 (by decide) (fun c9 => absurd c9 hge) (fun _ => ?_)
    have hvp : vp_in l2 25 := by obtain ⟨k9, h9, h8⟩ := hinv; rw [h9]; exact vp_in_nI (by omega) (by decide)
    refine lv_aload_n hx hb dX9_rowType_8 rfl (lv_at hl 0 rfl) ?_
    refine va_get (D := (dC, dI)) (ci := 8) (v := .ref qw) (C := RX9) (T := TX9) (N := 8) hx hb hts i_X9_rowType_X9 hown hK hP 0 rfl rfl 1 (by decide) (hts (.fieldLink RX9 9 "StatementRules2$Tokens" "words" "[J") k_X9_rowType_fieldLink_RX9_9_SR_Tokens_words_J) (fun _ h9 => h9) rfl dX9_rowType_9 ?_
    refine lv_iload_n hx hb dX9_rowType_12 rfl (lv_at hl 2 rfl) ?_
    refine va_lald hx hb hK hP 2 1 rfl rfl hvp dX9_rowType_13 ?_
    refine lv_topl (fun z34 ez34 => ?_)
    refine lv_aload_n hx hb dX9_rowType_14 rfl (lv_at hl 0 rfl) ?_
    refine va_get (D := (dC, dI)) (ci := 8) (v := .long t7) (C := RX9) (T := TX9) (N := 8) hx hb hts i_X9_rowType_X9 hown hK hP 0 rfl rfl 7 (by decide) (hts (.fieldLink RX9 69 "StatementRules2$Tokens" "name" "J") k_X9_rowType_fieldLink_RX9_69_SR_Tokens_name_J) (fun _ h9 => h9) rfl dX9_rowType_15 ?_
    refine W.lcmp hx hb dX9_rowType_18 ?_
    refine lv_topi (fun z35 ez35 => ?_)
    refine lv_if_ne (tgt := 28) hx hb dX9_rowType_19 (by decide) (fun c36 => ?_) (fun c36 => ?_)
    ·
      obtain ⟨z37, ez37⟩ : ∃ y : Int32, y = l2 + Int32.ofInt (1) := ⟨_, rfl⟩
      refine lv_iinc (v := z37) (lv' := [(2, .int z37), (0, .ref h0), (1, .int x)]) hx hb dX9_rowType_28 hl (k := 2) rfl (ez37.symm) (by decide) rfl (fun ls hl => ?_)
      refine lv_goto (tgt := 2) hx hb dX9_rowType_31 (by decide) ?_
      exact ih z37 _ _ _ (by obtain ⟨k9, h9, h8⟩ := hinv; exact ⟨k9 + 1, by rw [ez37, h9]; exact nI_1 k9, by omega⟩) hP hD hS (lv_sub hl [1, 2, 0] rfl)
    ·
      refine lv_sipush (v := 200) hx hb dX9_rowType_22 (by decide) ?_
      refine lv_iload_n hx hb dX9_rowType_25 rfl (lv_at hl 2 rfl) ?_
      refine lv_iadd hx hb dX9_rowType_26 ?_
      refine lv_topi (fun z38 ez38 => ?_)
      have hP9 := hP.sub (ws' := [(h0, .inr (8, [.ref qt, .ref qw, .int t2, .int t3, .int t4, .int t5, .int t6, .long t7])), (qt, .inl (kt, 900, .inl ft)), (qw, .inl (kw, 25, .inr (.inl fw)))]) [0, 1, 2] rfl
      have hD9 := hD.sub (ws' := [(h0, .inr (8, [.ref qt, .ref qw, .int t2, .int t3, .int t4, .int t5, .int t6, .long t7])), (qt, .inl (kt, 900, .inl ft)), (qw, .inl (kw, 25, .inr (.inl fw)))]) [0, 1, 2] (by decide) rfl
      have hK9 := hK.sub (tys' := [(kt, .int), (kw, .long)]) [0, 1] rfl
      exact W.iret (v := z38) hx hb hr (fun t ht hW => ⟨⟨z38, (), rfl, trivial, t2, t3, t4, t5, t6, t7, by rw [ht]; exact hP9, va_K.moved hW.alike hK9, hD9⟩, hS.F ht⟩) hS.2.2 dX9_rowType_27
set_option maxHeartbeats 4000000 in
set_option maxRecDepth 100000 in
theorem c_X9_rowType (l : Launch) (dC : Nat → ClassId) (dI : Nat → Nat → Nat) (sz : Nat) (h0 : Nat) (x : Int32) (t2 : Int32) (t3 : Int32) (t4 : Int32) (t5 : Int32) (t6 : Int32) (t7 : Int64) (qt : Nat) (kt : ClassId) (ft : Nat → Int32) (qw : Nat) (kw : ClassId) (fw : Nat → Int64) : Met l yX9_rowType wzX9_rowType ({ frames := 1, cells := 0, slots := 0, locals := 60 }) (va_Pc [.ref h0, .int x] (zPre dC dI sz [(h0, .inr (8, [.ref qt, .ref qw, .int t2, .int t3, .int t4, .int t5, .int t6, .long t7])), (qt, .inl (kt, 900, .inl ft)), (qw, .inl (kw, 25, .inr (.inl fw)))] [(kt, .int), (kw, .long)])) (va_Qi (fun (r : Int32) (_ : Unit) => True) (fun (_ : Unit) (t : State) => ∃ (u2 : Int32), ∃ (u3 : Int32), ∃ (u4 : Int32), ∃ (u5 : Int32), ∃ (u6 : Int32), ∃ (u7 : Int64), zPost dC dI (va_A [(h0, .inr (8, [.ref qt, .ref qw, .int t2, .int t3, .int t4, .int t5, .int t6, .long t7])), (qt, .inl (kt, 900, .inl ft)), (qw, .inl (kw, 25, .inr (.inl fw)))] sz) [(h0, .inr (8, [.ref qt, .ref qw, .int u2, .int u3, .int u4, .int u5, .int u6, .long u7])), (qt, .inl (kt, 900, .inl ft)), (qw, .inl (kw, 25, .inr (.inl fw)))] [(kt, .int), (kw, .long)] t) (va_A [(h0, .inr (8, [.ref qt, .ref qw, .int t2, .int t3, .int t4, .int t5, .int t6, .long t7])), (qt, .inl (kt, 900, .inl ft)), (qw, .inl (kw, 25, .inr (.inl fw)))] sz)) 0 0 (va_A [(h0, .inr (8, [.ref qt, .ref qw, .int t2, .int t3, .int t4, .int t5, .int t6, .long t7])), (qt, .inl (kt, 900, .inl ft)), (qw, .inl (kw, 25, .inr (.inl fw)))] sz) := by
  refine Met.ofW (cc := cX9_rowType) (maxL := 8) (ret := (some .int)) (by decide) rfl ?_
  intro p e s m args below meth c s₁ B hml hv
  obtain ⟨rfl, hsz, hZ, hP, hK, hD0⟩ := hv
  have hx := B.exec
  have hb := B.bytes
  have hr := B.returns
  have hts := atoms_spec (ws := wzX9_rowType) B.pre
  have hown : s.vm.findClass RX9 = some m.cls := findClass_of_methodNamed B.named
  have hlocks := B.notSynchronized
  subst hsz
  have hD := hD0.self (sz := s.heap.size)
  generalize hAe : va_A [(h0, .inr (8, [.ref qt, .ref qw, .int t2, .int t3, .int t4, .int t5, .int t6, .long t7])), (qt, .inl (kt, 900, .inl ft)), (qw, .inl (kw, 25, .inr (.inl fw)))] s.heap.size = A at hD ⊢
  have hA : ∀ q : Nat, s.heap.size ≤ q → A q := fun q h => by rw [← hAe]; exact Or.inr h
  have hS : va_S A s.heap s.heap [] := va_S.rf
  have hP : va_P (dC, dI) vwCl [(h0, .inr (8, [.ref qt, .ref qw, .int t2, .int t3, .int t4, .int t5, .int t6, .long t7])), (qt, .inl (kt, 900, .inl ft)), (qw, .inl (kw, 25, .inr (.inl fw)))] s.heap := hP
  have hl := lv_entry ([.ref h0, .int x]) (n := 8) (Nat.le_of_ble_eq_true rfl)
  rw [lg_entry_eq]
  generalize (lg_sl ([.ref h0, .int x]) ++ List.replicate (8 - (lg_sl ([.ref h0, .int x])).length) Slot.unset).toArray = ls at hl ⊢
  have hl : lv_has ls 8 [(0, .ref h0), (1, .int x)] := hl
  refine lv_iconst (v := 0) hx hb dX9_rowType_0 (by decide) ?_
  refine lv_istore_n (lv' := [(2, .int 0), (0, .ref h0), (1, .int x)]) hx hb dX9_rowType_1 rfl hl (by decide) rfl (fun ls hl => ?_)
  exact j_X9_rowType_2 l dC dI h0 qt qw kt kw t2 t3 t4 t5 t6 t7 ft fw x hx hb hr hml hown hts hlocks hZ hA hK 25 0 _ _ _ ⟨0, nI_0.symm, rfl⟩ hP hD hS (lv_sub hl [1, 2, 0] rfl)
theorem k_X9_takeRow_fieldLink_RX9_69_SR_Tokens_name_J : Cond.fieldLink RX9 69 "StatementRules2$Tokens" "name" "J" ∈ wzX9_takeRow := List.mem_cons_of_mem _ (List.mem_append_left _ (List.mem_of_getElem? (i := 0) rfl))
theorem i_X9_takeRow_X9 : ∀ w ∈ wsX90, w ∈ wzX9_takeRow := fun _ h => List.mem_cons_of_mem _ (List.mem_append_right _ (List.mem_append_left _ (h)))
theorem k_X9_takeRow_fieldLink_RX9_34_SR_Tokens_next_I : Cond.fieldLink RX9 34 "StatementRules2$Tokens" "next" "I" ∈ wzX9_takeRow := List.mem_cons_of_mem _ (List.mem_append_left _ (List.mem_of_getElem? (i := 1) rfl))
theorem k_X9_takeRow_fieldLink_RX9_47_SR_Tokens_place_I : Cond.fieldLink RX9 47 "StatementRules2$Tokens" "place" "I" ∈ wzX9_takeRow := List.mem_cons_of_mem _ (List.mem_append_left _ (List.mem_of_getElem? (i := 2) rfl))
theorem k_X9_takeRow_fieldLink_RX9_40_SR_Tokens_type_I : Cond.fieldLink RX9 40 "StatementRules2$Tokens" "type" "I" ∈ wzX9_takeRow := List.mem_cons_of_mem _ (List.mem_append_left _ (List.mem_of_getElem? (i := 3) rfl))
set_option maxHeartbeats 4000000 in
set_option maxRecDepth 100000 in
theorem j_X9_takeRow_79 {p : Program} {e : Env} {s : State} {m : MethodId} {args : Array Value} {below : List Frame} {meth : Method} {c : Code} {A : Nat → Prop} (l : Launch) (dC : Nat → ClassId) (dI : Nat → Nat → Nat) (h0 : Nat) (qt : Nat) (qw : Nat) (kt : ClassId) (kw : ClassId) (t2 : Int32) (t4 : Int32) (t5 : Int32) (t6 : Int32) (ft : Nat → Int32) (fw : Nat → Int64) (hx : p.tables.exec = Jvm.exec) (hb : c.code = cX9_takeRow) (hr : meth.sig.returnType = none) (hml : c.maxLocals = 2) (hown : s.vm.findClass RX9 = some m.cls) (hts : ∀ w ∈ wzX9_takeRow, w.before args s = true) (hlocks : meth.locks = false) (hZ : zAMB s) (hA : ∀ q : Nat, s.heap.size ≤ q → A q) (hK : va_K (dC, dI) vwCl [(kt, .int), (kw, .long)] s) : ∀ (w0_3 : Int32) (w0_7 : Int64) (H : Heap) (locs : List Loc) (ls : Array Slot), va_P (dC, dI) vwCl [(h0, .inr (8, [.ref qt, .ref qw, .int t2, .int w0_3, .int t4, .int t5, .int t6, .long w0_7])), (qt, .inl (kt, 900, .inl ft)), (qw, .inl (kw, 25, .inr (.inl fw)))] H → va_D A [(h0, .inr (8, [.ref qt, .ref qw, .int t2, .int w0_3, .int t4, .int t5, .int t6, .long w0_7])), (qt, .inl (kt, 900, .inl ft)), (qw, .inl (kw, 25, .inr (.inl fw)))] → va_S A s.heap H locs → lv_has ls 2 [(0, .ref h0)] → W p l e ({ frames := 2, cells := 0, slots := 0, locals := 120 }) s m args below meth c H locs 0 0 (MQ below (va_Qv (fun (_ : Unit) => True) (fun (_ : Unit) (t : State) => ∃ (u2 : Int32), ∃ (u3 : Int32), ∃ (u4 : Int32), ∃ (u5 : Int32), ∃ (u6 : Int32), ∃ (u7 : Int64), zPost dC dI A [(h0, .inr (8, [.ref qt, .ref qw, .int u2, .int u3, .int u4, .int u5, .int u6, .long u7])), (qt, .inl (kt, 900, .inl ft)), (qw, .inl (kw, 25, .inr (.inl fw)))] [(kt, .int), (kw, .long)] t) A) args s 0 0 A) (F0 m 79 ls []) := by
  intro w0_3 w0_7 H locs ls hP hD hS hl
  refine lv_aload_n hx hb dX9_takeRow_79 rfl (lv_at hl 0 rfl) ?_
  refine lv_aload_n hx hb dX9_takeRow_80 rfl (lv_at hl 0 rfl) ?_
  refine va_get (D := (dC, dI)) (ci := 8) (v := .int w0_3) (C := RX9) (T := TX9) (N := 8) hx hb hts i_X9_takeRow_X9 hown hK hP 0 rfl rfl 3 (by decide) (hts (.fieldLink RX9 34 "StatementRules2$Tokens" "next" "I") k_X9_takeRow_fieldLink_RX9_34_SR_Tokens_next_I) (fun _ h9 => h9) rfl dX9_takeRow_81 ?_
  refine lv_aload_n hx hb dX9_takeRow_84 rfl (lv_at hl 0 rfl) ?_
  refine va_get (D := (dC, dI)) (ci := 8) (v := .int t5) (C := RX9) (T := TX9) (N := 8) hx hb hts i_X9_takeRow_X9 hown hK hP 0 rfl rfl 5 (by decide) (hts (.fieldLink RX9 47 "StatementRules2$Tokens" "place" "I") k_X9_takeRow_fieldLink_RX9_47_SR_Tokens_place_I) (fun _ h9 => h9) rfl dX9_takeRow_85 ?_
  refine lv_isub hx hb dX9_takeRow_88 ?_
  refine lv_topi (fun z1 ez1 => ?_)
  refine lv_bipush (v := 8) hx hb dX9_takeRow_89 (by decide) ?_
  refine lv_icmp_le (tgt := 99) hx hb dX9_takeRow_91 (by decide) (fun c2 => ?_) (fun c2 => ?_)
  ·
    refine lv_aload_n hx hb dX9_takeRow_99 rfl (lv_at hl 0 rfl) ?_
    refine lv_aload_n hx hb dX9_takeRow_100 rfl (lv_at hl 0 rfl) ?_
    refine va_get (D := (dC, dI)) (ci := 8) (v := .int w0_3) (C := RX9) (T := TX9) (N := 8) hx hb hts i_X9_takeRow_X9 hown hK hP 0 rfl rfl 3 (by decide) (hts (.fieldLink RX9 34 "StatementRules2$Tokens" "next" "I") k_X9_takeRow_fieldLink_RX9_34_SR_Tokens_next_I) (fun _ h9 => h9) rfl dX9_takeRow_101 ?_
    refine lv_aload_n hx hb dX9_takeRow_104 rfl (lv_at hl 0 rfl) ?_
    refine va_get (D := (dC, dI)) (ci := 8) (v := .int t5) (C := RX9) (T := TX9) (N := 8) hx hb hts i_X9_takeRow_X9 hown hK hP 0 rfl rfl 5 (by decide) (hts (.fieldLink RX9 47 "StatementRules2$Tokens" "place" "I") k_X9_takeRow_fieldLink_RX9_47_SR_Tokens_place_I) (fun _ h9 => h9) rfl dX9_takeRow_105 ?_
    refine lv_isub hx hb dX9_takeRow_108 ?_
    refine lv_topi (fun z3 ez3 => ?_)
    have hPc := hP.sub (ws' := [(h0, .inr (8, [.ref qt, .ref qw, .int t2, .int w0_3, .int t4, .int t5, .int t6, .long w0_7])), (qt, .inl (kt, 900, .inl ft)), (qw, .inl (kw, 25, .inr (.inl fw)))]) [0, 1, 2] rfl
    have hDc := hD.sub (ws' := [(h0, .inr (8, [.ref qt, .ref qw, .int t2, .int w0_3, .int t4, .int t5, .int t6, .long w0_7])), (qt, .inl (kt, 900, .inl ft)), (qw, .inl (kw, 25, .inr (.inl fw)))]) [0, 1, 2] (by decide) rfl
    have hKc := hK.sub (tys' := [(kt, .int), (kw, .long)]) [0, 1] rfl
    have hFc := va_free (wc := [(h0, .inr (8, [.ref qt, .ref qw, .int t2, .int w0_3, .int t4, .int t5, .int t6, .long w0_7])), (qt, .inl (kt, 900, .inl ft)), (qw, .inl (kw, 25, .inr (.inl fw)))]) hD hS hA [0, 1, 2] rfl
    refine va_calli (va_runV (As := [.int z3]) (rest := [.ref h0]) ⟨hx, hb, hml, hown, hts⟩ (c_X9_rowType l dC dI _ h0 z3 t2 w0_3 t4 t5 t6 w0_7 qt kt ft qw kw fw) (cwV 1 hts hX9_takeRow_X9_rowType_v73 rfl rfl rfl (by decide +kernel) ⟨Nat.le_of_ble_eq_true rfl, Nat.le_of_ble_eq_true rfl⟩) ⟨zPre.blind, va_recv hKc hPc (ci := 8) (q0 := 0) rfl rfl, zPre.go hZ hPc hKc hDc⟩ rfl rfl hl.1 rfl (lv_room (Nat.le_of_ble_eq_true rfl)) dX9_takeRow_109 ⟨Nat.le_of_ble_eq_true rfl, Nat.le_of_ble_eq_true rfl⟩) hS (fun q _ h => hFc q h) hFc (fun r4 u9 t9 H1 locs ht hvm hw hB hz1 hk1 hS => ?_)
    obtain ⟨u2_5, u3_6, u4_7, u5_8, u6_9, u7_10, hP1, hK1, hD1⟩ := hB
    rw [ht] at hP1
    have hK1 := va_K.moved hvm.symm hK1
    obtain ⟨hP, hD⟩ := va_join (wr := []) (w1 := [(h0, .inr (8, [.ref qt, .ref qw, .int u2_5, .int u3_6, .int u4_7, .int u5_8, .int u6_9, .long u7_10])), (qt, .inl (kt, 900, .inl ft)), (qw, .inl (kw, 25, .inr (.inl fw)))]) hP hD [0, 1, 2] [] rfl rfl (by decide) (by decide) hk1 hFc hP1 hD1
    have hK := hK.app hK1
    generalize H1 = H at hP hS ⊢
    have hP : va_P (dC, dI) vwCl [(h0, .inr (8, [.ref qt, .ref qw, .int u2_5, .int u3_6, .int u4_7, .int u5_8, .int u6_9, .long u7_10])), (qt, .inl (kt, 900, .inl ft)), (qw, .inl (kw, 25, .inr (.inl fw)))] H := hP
    have hD : va_D A [(h0, .inr (8, [.ref qt, .ref qw, .int u2_5, .int u3_6, .int u4_7, .int u5_8, .int u6_9, .long u7_10])), (qt, .inl (kt, 900, .inl ft)), (qw, .inl (kw, 25, .inr (.inl fw)))] := hD
    have hK : va_K (dC, dI) vwCl [(kt, .int), (kw, .long), (kt, .int), (kw, .long)] s := hK
    have hK : va_K (dC, dI) vwCl [(kt, .int), (kw, .long)] s := hK.sub [0, 1] rfl
    refine va_put (D := (dC, dI)) (ci := 8) (v := .int r4) (ty := .int) (C := RX9) (T := TX9) (N := 8) hx hb hts i_X9_takeRow_X9 tyX9 tyX9_ok nmX9 hown hK hP hD hS 0 rfl rfl 4 (by decide) (hts (.fieldLink RX9 40 "StatementRules2$Tokens" "type" "I") k_X9_takeRow_fieldLink_RX9_40_SR_Tokens_type_I) (fun _ h9 => h9) rfl (by decide +kernel) rfl rfl (Nat.le_of_ble_eq_true rfl) dX9_takeRow_112 (fun H locs hP hD hS => ?_)
    have hP : va_P (dC, dI) vwCl [(h0, .inr (8, [.ref qt, .ref qw, .int u2_5, .int u3_6, .int r4, .int u5_8, .int u6_9, .long u7_10])), (qt, .inl (kt, 900, .inl ft)), (qw, .inl (kw, 25, .inr (.inl fw)))] H := hP
    have hD : va_D A [(h0, .inr (8, [.ref qt, .ref qw, .int u2_5, .int u3_6, .int r4, .int u5_8, .int u6_9, .long u7_10])), (qt, .inl (kt, 900, .inl ft)), (qw, .inl (kw, 25, .inr (.inl fw)))] := hD
    have hP9 := hP.sub (ws' := [(h0, .inr (8, [.ref qt, .ref qw, .int u2_5, .int u3_6, .int r4, .int u5_8, .int u6_9, .long u7_10])), (qt, .inl (kt, 900, .inl ft)), (qw, .inl (kw, 25, .inr (.inl fw)))]) [0, 1, 2] rfl
    have hD9 := hD.sub (ws' := [(h0, .inr (8, [.ref qt, .ref qw, .int u2_5, .int u3_6, .int r4, .int u5_8, .int u6_9, .long u7_10])), (qt, .inl (kt, 900, .inl ft)), (qw, .inl (kw, 25, .inr (.inl fw)))]) [0, 1, 2] (by decide) rfl
    have hK9 := hK.sub (tys' := [(kt, .int), (kw, .long)]) [0, 1] rfl
    exact W.vret hx hb hr (fun t ht hW => ⟨⟨(), rfl, trivial, u2_5, u3_6, r4, u5_8, u6_9, u7_10, by rw [ht]; exact hP9, va_K.moved hW.alike hK9, hD9⟩, hS.F ht⟩) hS.2.2 dX9_takeRow_115
  ·
    refine lv_bipush (v := 6) hx hb dX9_takeRow_94 (by decide) ?_
    refine lv_goto (tgt := 112) hx hb dX9_takeRow_96 (by decide) ?_
    refine va_put (D := (dC, dI)) (ci := 8) (v := .int 6) (ty := .int) (C := RX9) (T := TX9) (N := 8) hx hb hts i_X9_takeRow_X9 tyX9 tyX9_ok nmX9 hown hK hP hD hS 0 rfl rfl 4 (by decide) (hts (.fieldLink RX9 40 "StatementRules2$Tokens" "type" "I") k_X9_takeRow_fieldLink_RX9_40_SR_Tokens_type_I) (fun _ h9 => h9) rfl (by decide +kernel) rfl rfl (Nat.le_of_ble_eq_true rfl) dX9_takeRow_112 (fun H locs hP hD hS => ?_)
    have hP : va_P (dC, dI) vwCl [(h0, .inr (8, [.ref qt, .ref qw, .int t2, .int w0_3, .int 6, .int t5, .int t6, .long w0_7])), (qt, .inl (kt, 900, .inl ft)), (qw, .inl (kw, 25, .inr (.inl fw)))] H := hP
    have hD : va_D A [(h0, .inr (8, [.ref qt, .ref qw, .int t2, .int w0_3, .int 6, .int t5, .int t6, .long w0_7])), (qt, .inl (kt, 900, .inl ft)), (qw, .inl (kw, 25, .inr (.inl fw)))] := hD
    have hP9 := hP.sub (ws' := [(h0, .inr (8, [.ref qt, .ref qw, .int t2, .int w0_3, .int 6, .int t5, .int t6, .long w0_7])), (qt, .inl (kt, 900, .inl ft)), (qw, .inl (kw, 25, .inr (.inl fw)))]) [0, 1, 2] rfl
    have hD9 := hD.sub (ws' := [(h0, .inr (8, [.ref qt, .ref qw, .int t2, .int w0_3, .int 6, .int t5, .int t6, .long w0_7])), (qt, .inl (kt, 900, .inl ft)), (qw, .inl (kw, 25, .inr (.inl fw)))]) [0, 1, 2] (by decide) rfl
    have hK9 := hK.sub (tys' := [(kt, .int), (kw, .long)]) [0, 1] rfl
    exact W.vret hx hb hr (fun t ht hW => ⟨⟨(), rfl, trivial, t2, w0_3, 6, t5, t6, w0_7, by rw [ht]; exact hP9, va_K.moved hW.alike hK9, hD9⟩, hS.F ht⟩) hS.2.2 dX9_takeRow_115
set_option maxHeartbeats 4000000 in
set_option maxRecDepth 100000 in
theorem j_X9_takeRow_7 {p : Program} {e : Env} {s : State} {m : MethodId} {args : Array Value} {below : List Frame} {meth : Method} {c : Code} {A : Nat → Prop} (l : Launch) (dC : Nat → ClassId) (dI : Nat → Nat → Nat) (h0 : Nat) (qt : Nat) (qw : Nat) (kt : ClassId) (kw : ClassId) (t2 : Int32) (t4 : Int32) (t5 : Int32) (t6 : Int32) (ft : Nat → Int32) (fw : Nat → Int64) (hx : p.tables.exec = Jvm.exec) (hb : c.code = cX9_takeRow) (hr : meth.sig.returnType = none) (hml : c.maxLocals = 2) (hown : s.vm.findClass RX9 = some m.cls) (hts : ∀ w ∈ wzX9_takeRow, w.before args s = true) (hlocks : meth.locks = false) (hZ : zAMB s) (hA : ∀ q : Nat, s.heap.size ≤ q → A q) (hK : va_K (dC, dI) vwCl [(kt, .int), (kw, .long)] s) : ∀ (n9 : Nat) (w0_3 : Int32) (w0_7 : Int64) (l1 : Int32) (H : Heap) (locs : List Loc) (ls : Array Slot), (∃ k9 : Nat, l1 = nI k9 ∧ k9 + n9 = 900) → va_P (dC, dI) vwCl [(h0, .inr (8, [.ref qt, .ref qw, .int t2, .int w0_3, .int t4, .int t5, .int t6, .long w0_7])), (qt, .inl (kt, 900, .inl ft)), (qw, .inl (kw, 25, .inr (.inl fw)))] H → va_D A [(h0, .inr (8, [.ref qt, .ref qw, .int t2, .int w0_3, .int t4, .int t5, .int t6, .long w0_7])), (qt, .inl (kt, 900, .inl ft)), (qw, .inl (kw, 25, .inr (.inl fw)))] → va_S A s.heap H locs → lv_has ls 2 [(0, .ref h0), (1, .int l1)] → W p l e ({ frames := 2, cells := 0, slots := 0, locals := 120 }) s m args below meth c H locs 0 0 (MQ below (va_Qv (fun (_ : Unit) => True) (fun (_ : Unit) (t : State) => ∃ (u2 : Int32), ∃ (u3 : Int32), ∃ (u4 : Int32), ∃ (u5 : Int32), ∃ (u6 : Int32), ∃ (u7 : Int64), zPost dC dI A [(h0, .inr (8, [.ref qt, .ref qw, .int u2, .int u3, .int u4, .int u5, .int u6, .long u7])), (qt, .inl (kt, 900, .inl ft)), (qw, .inl (kw, 25, .inr (.inl fw)))] [(kt, .int), (kw, .long)] t) A) args s 0 0 A) (F0 m 7 ls []) := by
  intro n9
  induction n9 with
  | zero =>
    intro w0_3 w0_7 l1 H locs ls hinv hP hD hS hl
    have hge : (900 : Int32) ≤ l1 := by obtain ⟨k9, h9, h8⟩ := hinv; rw [h9, show k9 = 900 by omega]; decide
    refine lv_iload_n hx hb dX9_takeRow_7 rfl (lv_at hl 1 rfl) ?_
    refine lv_sipush (v := 900) hx hb dX9_takeRow_8 (by decide) ?_
    refine lv_icmp_ge (tgt := 79) hx hb dX9_takeRow_11 (by decide) (fun _ => ?_) (fun c9 => absurd hge c9)
    exact j_X9_takeRow_79 l dC dI h0 qt qw kt kw t2 t4 t5 t6 ft fw hx hb hr hml hown hts hlocks hZ hA hK w0_3 w0_7 _ _ _ hP hD hS (lv_sub hl [0] rfl)
  | succ n9 ih =>
    intro w0_3 w0_7 l1 H locs ls hinv hP hD hS hl
    have hge : ¬ (900 : Int32) ≤ l1 := by obtain ⟨k9, h9, h8⟩ := hinv; rw [h9]; exact nI_ge (a := k9) (b := 900) (by omega) (by decide)
    refine lv_iload_n hx hb dX9_takeRow_7 rfl (lv_at hl 1 rfl) ?_
    refine lv_sipush (v := 900) hx hb dX9_takeRow_8 (by decide) ?_
    refine lv_icmp_ge (tgt := 79) hx hb dX9_takeRow_11 (by decide) (fun c9 => absurd c9 hge) (fun _ => ?_)
    refine lv_aload_n hx hb dX9_takeRow_14 rfl (lv_at hl 0 rfl) ?_
    refine lv_aload_n hx hb dX9_takeRow_15 rfl (lv_at hl 0 rfl) ?_
    refine va_get (D := (dC, dI)) (ci := 8) (v := .int w0_3) (C := RX9) (T := TX9) (N := 8) hx hb hts i_X9_takeRow_X9 hown hK hP 0 rfl rfl 3 (by decide) (hts (.fieldLink RX9 34 "StatementRules2$Tokens" "next" "I") k_X9_takeRow_fieldLink_RX9_34_SR_Tokens_next_I) (fun _ h9 => h9) rfl dX9_takeRow_16 ?_
    have hPc := hP.sub (ws' := [(h0, .inr (8, [.ref qt, .ref qw, .int t2, .int w0_3, .int t4, .int t5, .int t6, .long w0_7])), (qt, .inl (kt, 900, .inl ft))]) [0, 1] rfl
    have hDc := hD.sub (ws' := [(h0, .inr (8, [.ref qt, .ref qw, .int t2, .int w0_3, .int t4, .int t5, .int t6, .long w0_7])), (qt, .inl (kt, 900, .inl ft))]) [0, 1] (by decide) rfl
    have hKc := hK.sub (tys' := [(kt, .int)]) [0] rfl
    have hFc := va_free (wc := [(h0, .inr (8, [.ref qt, .ref qw, .int t2, .int w0_3, .int t4, .int t5, .int t6, .long w0_7])), (qt, .inl (kt, 900, .inl ft))]) hD hS hA [0, 1] rfl
    refine va_calli (va_runV (As := [.int w0_3]) (rest := []) ⟨hx, hb, hml, hown, hts⟩ (c_X9_byteAt l dC dI _ h0 w0_3 t2 w0_3 t4 t5 t6 w0_7 qw qt kt ft) (cwV 1 hts hX9_takeRow_X9_byteAt_v43 rfl rfl rfl (by decide +kernel) ⟨Nat.le_of_ble_eq_true rfl, Nat.le_of_ble_eq_true rfl⟩) ⟨zPre.blind, va_recv hKc hPc (ci := 8) (q0 := 0) rfl rfl, zPre.go hZ hPc hKc hDc⟩ rfl rfl hl.1 rfl (lv_room (Nat.le_of_ble_eq_true rfl)) dX9_takeRow_19 ⟨Nat.le_of_ble_eq_true rfl, Nat.le_of_ble_eq_true rfl⟩) hS (fun q _ h => hFc q h) hFc (fun r11 u9 t9 H1 locs ht hvm hw hB hz1 hk1 hS => ?_)
    obtain ⟨hP1, hK1, hD1⟩ := hB
    rw [ht] at hP1
    have hK1 := va_K.moved hvm.symm hK1
    obtain ⟨hP, hD⟩ := va_join (wr := [(qw, .inl (kw, 25, .inr (.inl fw)))]) (w1 := [(h0, .inr (8, [.ref qt, .ref qw, .int t2, .int w0_3, .int t4, .int t5, .int t6, .long w0_7])), (qt, .inl (kt, 900, .inl ft))]) hP hD [0, 1] [2] rfl rfl (by decide) (by decide) hk1 hFc hP1 hD1
    have hK := hK.app hK1
    generalize H1 = H at hP hS ⊢
    have hP : va_P (dC, dI) vwCl [(qw, .inl (kw, 25, .inr (.inl fw))), (h0, .inr (8, [.ref qt, .ref qw, .int t2, .int w0_3, .int t4, .int t5, .int t6, .long w0_7])), (qt, .inl (kt, 900, .inl ft))] H := hP
    have hD : va_D A [(qw, .inl (kw, 25, .inr (.inl fw))), (h0, .inr (8, [.ref qt, .ref qw, .int t2, .int w0_3, .int t4, .int t5, .int t6, .long w0_7])), (qt, .inl (kt, 900, .inl ft))] := hD
    have hK : va_K (dC, dI) vwCl [(kt, .int), (kw, .long), (kt, .int)] s := hK
    have hK : va_K (dC, dI) vwCl [(kt, .int), (kw, .long)] s := hK.sub [0, 1] rfl
    have hPc := hP.sub (ws' := []) [] rfl
    have hDc := hD.sub (ws' := []) [] (by decide) rfl
    have hKc := hK.sub (tys' := []) [] rfl
    have hFc := va_free (wc := []) hD hS hA [] rfl
    refine va_calli (va_runS (As := [.int r11]) (rest := []) ⟨hx, hb, hml, hown, hts⟩ (c_X9_isDigit l dC dI _ r11) (va_cwS 1 hts hX9_takeRow_X9_isDigit_s50 rfl rfl rfl (by decide +kernel) ⟨Nat.le_of_ble_eq_true rfl, Nat.le_of_ble_eq_true rfl⟩) ⟨zPre.blind, zPre.go hZ hPc hKc hDc⟩ rfl rfl hl.1 rfl (lv_room (Nat.le_of_ble_eq_true rfl)) dX9_takeRow_22 ⟨Nat.le_of_ble_eq_true rfl, Nat.le_of_ble_eq_true rfl⟩) hS (fun q _ h => hFc q h) hFc (fun r12 u9 t9 H1 locs ht hvm hw hB hz1 hk1 hS => ?_)
    obtain ⟨hP1, hK1, hD1⟩ := hB
    rw [ht] at hP1
    have hK1 := va_K.moved hvm.symm hK1
    obtain ⟨hP, hD⟩ := va_join (wr := [(qw, .inl (kw, 25, .inr (.inl fw))), (h0, .inr (8, [.ref qt, .ref qw, .int t2, .int w0_3, .int t4, .int t5, .int t6, .long w0_7])), (qt, .inl (kt, 900, .inl ft))]) (w1 := []) hP hD [] [0, 1, 2] rfl rfl (by decide) (by decide) hk1 hFc hP1 hD1
    have hK := hK.app hK1
    generalize H1 = H at hP hS ⊢
    have hP : va_P (dC, dI) vwCl [(qw, .inl (kw, 25, .inr (.inl fw))), (h0, .inr (8, [.ref qt, .ref qw, .int t2, .int w0_3, .int t4, .int t5, .int t6, .long w0_7])), (qt, .inl (kt, 900, .inl ft))] H := hP
    have hD : va_D A [(qw, .inl (kw, 25, .inr (.inl fw))), (h0, .inr (8, [.ref qt, .ref qw, .int t2, .int w0_3, .int t4, .int t5, .int t6, .long w0_7])), (qt, .inl (kt, 900, .inl ft))] := hD
    have hK : va_K (dC, dI) vwCl [(kt, .int), (kw, .long)] s := hK
    refine lv_if_ne (tgt := 42) hx hb dX9_takeRow_25 (by decide) (fun c13 => ?_) (fun c13 => ?_)
    ·
      refine lv_aload_n hx hb dX9_takeRow_42 rfl (lv_at hl 0 rfl) ?_
      refine lv_aload_n hx hb dX9_takeRow_43 rfl (lv_at hl 0 rfl) ?_
      refine va_get (D := (dC, dI)) (ci := 8) (v := .long w0_7) (C := RX9) (T := TX9) (N := 8) hx hb hts i_X9_takeRow_X9 hown hK hP 1 rfl rfl 7 (by decide) (hts (.fieldLink RX9 69 "StatementRules2$Tokens" "name" "J") k_X9_takeRow_fieldLink_RX9_69_SR_Tokens_name_J) (fun _ h9 => h9) rfl dX9_takeRow_44 ?_
      refine lv_bipush (v := 8) hx hb dX9_takeRow_47 (by decide) ?_
      obtain ⟨z14, ez14⟩ : ∃ y : Int64, y = (w0_7 : Int64) <<< ((8 : Int32).toInt64 &&& 63) := ⟨_, rfl⟩
      refine lv_lshl (v := z14) hx hb dX9_takeRow_49 ez14.symm ?_
      refine lv_aload_n hx hb dX9_takeRow_50 rfl (lv_at hl 0 rfl) ?_
      refine lv_aload_n hx hb dX9_takeRow_51 rfl (lv_at hl 0 rfl) ?_
      refine va_get (D := (dC, dI)) (ci := 8) (v := .int w0_3) (C := RX9) (T := TX9) (N := 8) hx hb hts i_X9_takeRow_X9 hown hK hP 1 rfl rfl 3 (by decide) (hts (.fieldLink RX9 34 "StatementRules2$Tokens" "next" "I") k_X9_takeRow_fieldLink_RX9_34_SR_Tokens_next_I) (fun _ h9 => h9) rfl dX9_takeRow_52 ?_
      have hPc := hP.sub (ws' := [(h0, .inr (8, [.ref qt, .ref qw, .int t2, .int w0_3, .int t4, .int t5, .int t6, .long w0_7])), (qt, .inl (kt, 900, .inl ft))]) [1, 2] rfl
      have hDc := hD.sub (ws' := [(h0, .inr (8, [.ref qt, .ref qw, .int t2, .int w0_3, .int t4, .int t5, .int t6, .long w0_7])), (qt, .inl (kt, 900, .inl ft))]) [1, 2] (by decide) rfl
      have hKc := hK.sub (tys' := [(kt, .int)]) [0] rfl
      have hFc := va_free (wc := [(h0, .inr (8, [.ref qt, .ref qw, .int t2, .int w0_3, .int t4, .int t5, .int t6, .long w0_7])), (qt, .inl (kt, 900, .inl ft))]) hD hS hA [1, 2] rfl
      refine va_calli (va_runV (As := [.int w0_3]) (rest := [.long z14, .ref h0]) ⟨hx, hb, hml, hown, hts⟩ (c_X9_byteAt l dC dI _ h0 w0_3 t2 w0_3 t4 t5 t6 w0_7 qw qt kt ft) (cwV 1 hts hX9_takeRow_X9_byteAt_v43 rfl rfl rfl (by decide +kernel) ⟨Nat.le_of_ble_eq_true rfl, Nat.le_of_ble_eq_true rfl⟩) ⟨zPre.blind, va_recv hKc hPc (ci := 8) (q0 := 0) rfl rfl, zPre.go hZ hPc hKc hDc⟩ rfl rfl hl.1 rfl (lv_room (Nat.le_of_ble_eq_true rfl)) dX9_takeRow_55 ⟨Nat.le_of_ble_eq_true rfl, Nat.le_of_ble_eq_true rfl⟩) hS (fun q _ h => hFc q h) hFc (fun r15 u9 t9 H1 locs ht hvm hw hB hz1 hk1 hS => ?_)
      obtain ⟨hP1, hK1, hD1⟩ := hB
      rw [ht] at hP1
      have hK1 := va_K.moved hvm.symm hK1
      obtain ⟨hP, hD⟩ := va_join (wr := [(qw, .inl (kw, 25, .inr (.inl fw)))]) (w1 := [(h0, .inr (8, [.ref qt, .ref qw, .int t2, .int w0_3, .int t4, .int t5, .int t6, .long w0_7])), (qt, .inl (kt, 900, .inl ft))]) hP hD [1, 2] [0] rfl rfl (by decide) (by decide) hk1 hFc hP1 hD1
      have hK := hK.app hK1
      generalize H1 = H at hP hS ⊢
      have hP : va_P (dC, dI) vwCl [(qw, .inl (kw, 25, .inr (.inl fw))), (h0, .inr (8, [.ref qt, .ref qw, .int t2, .int w0_3, .int t4, .int t5, .int t6, .long w0_7])), (qt, .inl (kt, 900, .inl ft))] H := hP
      have hD : va_D A [(qw, .inl (kw, 25, .inr (.inl fw))), (h0, .inr (8, [.ref qt, .ref qw, .int t2, .int w0_3, .int t4, .int t5, .int t6, .long w0_7])), (qt, .inl (kt, 900, .inl ft))] := hD
      have hK : va_K (dC, dI) vwCl [(kt, .int), (kw, .long), (kt, .int)] s := hK
      have hK : va_K (dC, dI) vwCl [(kt, .int), (kw, .long)] s := hK.sub [0, 1] rfl
      obtain ⟨z16, ez16⟩ : ∃ y : Int64, y = (r15 : Int32).toInt64 := ⟨_, rfl⟩
      refine lv_i2l (v := z16) hx hb dX9_takeRow_58 ez16.symm ?_
      refine lv_lor hx hb dX9_takeRow_59 ?_
      refine lv_topl (fun z17 ez17 => ?_)
      refine va_put (D := (dC, dI)) (ci := 8) (v := .long z17) (ty := .long) (C := RX9) (T := TX9) (N := 8) hx hb hts i_X9_takeRow_X9 tyX9 tyX9_ok nmX9 hown hK hP hD hS 1 rfl rfl 7 (by decide) (hts (.fieldLink RX9 69 "StatementRules2$Tokens" "name" "J") k_X9_takeRow_fieldLink_RX9_69_SR_Tokens_name_J) (fun _ h9 => h9) rfl (by decide +kernel) rfl rfl (Nat.le_of_ble_eq_true rfl) dX9_takeRow_60 (fun H locs hP hD hS => ?_)
      have hP : va_P (dC, dI) vwCl [(qw, .inl (kw, 25, .inr (.inl fw))), (h0, .inr (8, [.ref qt, .ref qw, .int t2, .int w0_3, .int t4, .int t5, .int t6, .long z17])), (qt, .inl (kt, 900, .inl ft))] H := hP
      have hD : va_D A [(qw, .inl (kw, 25, .inr (.inl fw))), (h0, .inr (8, [.ref qt, .ref qw, .int t2, .int w0_3, .int t4, .int t5, .int t6, .long z17])), (qt, .inl (kt, 900, .inl ft))] := hD
      refine lv_aload_n hx hb dX9_takeRow_63 rfl (lv_at hl 0 rfl) ?_
      refine lv_dup hx hb dX9_takeRow_64 rfl ?_
      refine va_get (D := (dC, dI)) (ci := 8) (v := .int w0_3) (C := RX9) (T := TX9) (N := 8) hx hb hts i_X9_takeRow_X9 hown hK hP 1 rfl rfl 3 (by decide) (hts (.fieldLink RX9 34 "StatementRules2$Tokens" "next" "I") k_X9_takeRow_fieldLink_RX9_34_SR_Tokens_next_I) (fun _ h9 => h9) rfl dX9_takeRow_65 ?_
      refine lv_iconst (v := 1) hx hb dX9_takeRow_68 (by decide) ?_
      refine lv_iadd hx hb dX9_takeRow_69 ?_
      refine lv_topi (fun z18 ez18 => ?_)
      refine va_put (D := (dC, dI)) (ci := 8) (v := .int z18) (ty := .int) (C := RX9) (T := TX9) (N := 8) hx hb hts i_X9_takeRow_X9 tyX9 tyX9_ok nmX9 hown hK hP hD hS 1 rfl rfl 3 (by decide) (hts (.fieldLink RX9 34 "StatementRules2$Tokens" "next" "I") k_X9_takeRow_fieldLink_RX9_34_SR_Tokens_next_I) (fun _ h9 => h9) rfl (by decide +kernel) rfl rfl (Nat.le_of_ble_eq_true rfl) dX9_takeRow_70 (fun H locs hP hD hS => ?_)
      have hP : va_P (dC, dI) vwCl [(qw, .inl (kw, 25, .inr (.inl fw))), (h0, .inr (8, [.ref qt, .ref qw, .int t2, .int z18, .int t4, .int t5, .int t6, .long z17])), (qt, .inl (kt, 900, .inl ft))] H := hP
      have hD : va_D A [(qw, .inl (kw, 25, .inr (.inl fw))), (h0, .inr (8, [.ref qt, .ref qw, .int t2, .int z18, .int t4, .int t5, .int t6, .long z17])), (qt, .inl (kt, 900, .inl ft))] := hD
      obtain ⟨z19, ez19⟩ : ∃ y : Int32, y = l1 + Int32.ofInt (1) := ⟨_, rfl⟩
      refine lv_iinc (v := z19) (lv' := [(1, .int z19), (0, .ref h0)]) hx hb dX9_takeRow_73 hl (k := 1) rfl (ez19.symm) (by decide) rfl (fun ls hl => ?_)
      refine lv_goto (tgt := 7) hx hb dX9_takeRow_76 (by decide) ?_
      have hP := hP.sub (ws' := [(h0, .inr (8, [.ref qt, .ref qw, .int t2, .int z18, .int t4, .int t5, .int t6, .long z17])), (qt, .inl (kt, 900, .inl ft)), (qw, .inl (kw, 25, .inr (.inl fw)))]) [1, 2, 0] rfl
      have hD := hD.sub (ws' := [(h0, .inr (8, [.ref qt, .ref qw, .int t2, .int z18, .int t4, .int t5, .int t6, .long z17])), (qt, .inl (kt, 900, .inl ft)), (qw, .inl (kw, 25, .inr (.inl fw)))]) [1, 2, 0] (by decide) rfl
      exact ih z18 z17 z19 _ _ _ (by obtain ⟨k9, h9, h8⟩ := hinv; exact ⟨k9 + 1, by rw [ez19, h9]; exact nI_1 k9, by omega⟩) hP hD hS (lv_sub hl [1, 0] rfl)
    ·
      refine lv_aload_n hx hb dX9_takeRow_28 rfl (lv_at hl 0 rfl) ?_
      refine lv_aload_n hx hb dX9_takeRow_29 rfl (lv_at hl 0 rfl) ?_
      refine va_get (D := (dC, dI)) (ci := 8) (v := .int w0_3) (C := RX9) (T := TX9) (N := 8) hx hb hts i_X9_takeRow_X9 hown hK hP 1 rfl rfl 3 (by decide) (hts (.fieldLink RX9 34 "StatementRules2$Tokens" "next" "I") k_X9_takeRow_fieldLink_RX9_34_SR_Tokens_next_I) (fun _ h9 => h9) rfl dX9_takeRow_30 ?_
      have hPc := hP.sub (ws' := [(h0, .inr (8, [.ref qt, .ref qw, .int t2, .int w0_3, .int t4, .int t5, .int t6, .long w0_7])), (qt, .inl (kt, 900, .inl ft))]) [1, 2] rfl
      have hDc := hD.sub (ws' := [(h0, .inr (8, [.ref qt, .ref qw, .int t2, .int w0_3, .int t4, .int t5, .int t6, .long w0_7])), (qt, .inl (kt, 900, .inl ft))]) [1, 2] (by decide) rfl
      have hKc := hK.sub (tys' := [(kt, .int)]) [0] rfl
      have hFc := va_free (wc := [(h0, .inr (8, [.ref qt, .ref qw, .int t2, .int w0_3, .int t4, .int t5, .int t6, .long w0_7])), (qt, .inl (kt, 900, .inl ft))]) hD hS hA [1, 2] rfl
      refine va_calli (va_runV (As := [.int w0_3]) (rest := []) ⟨hx, hb, hml, hown, hts⟩ (c_X9_byteAt l dC dI _ h0 w0_3 t2 w0_3 t4 t5 t6 w0_7 qw qt kt ft) (cwV 1 hts hX9_takeRow_X9_byteAt_v43 rfl rfl rfl (by decide +kernel) ⟨Nat.le_of_ble_eq_true rfl, Nat.le_of_ble_eq_true rfl⟩) ⟨zPre.blind, va_recv hKc hPc (ci := 8) (q0 := 0) rfl rfl, zPre.go hZ hPc hKc hDc⟩ rfl rfl hl.1 rfl (lv_room (Nat.le_of_ble_eq_true rfl)) dX9_takeRow_33 ⟨Nat.le_of_ble_eq_true rfl, Nat.le_of_ble_eq_true rfl⟩) hS (fun q _ h => hFc q h) hFc (fun r20 u9 t9 H1 locs ht hvm hw hB hz1 hk1 hS => ?_)
      obtain ⟨hP1, hK1, hD1⟩ := hB
      rw [ht] at hP1
      have hK1 := va_K.moved hvm.symm hK1
      obtain ⟨hP, hD⟩ := va_join (wr := [(qw, .inl (kw, 25, .inr (.inl fw)))]) (w1 := [(h0, .inr (8, [.ref qt, .ref qw, .int t2, .int w0_3, .int t4, .int t5, .int t6, .long w0_7])), (qt, .inl (kt, 900, .inl ft))]) hP hD [1, 2] [0] rfl rfl (by decide) (by decide) hk1 hFc hP1 hD1
      have hK := hK.app hK1
      generalize H1 = H at hP hS ⊢
      have hP : va_P (dC, dI) vwCl [(qw, .inl (kw, 25, .inr (.inl fw))), (h0, .inr (8, [.ref qt, .ref qw, .int t2, .int w0_3, .int t4, .int t5, .int t6, .long w0_7])), (qt, .inl (kt, 900, .inl ft))] H := hP
      have hD : va_D A [(qw, .inl (kw, 25, .inr (.inl fw))), (h0, .inr (8, [.ref qt, .ref qw, .int t2, .int w0_3, .int t4, .int t5, .int t6, .long w0_7])), (qt, .inl (kt, 900, .inl ft))] := hD
      have hK : va_K (dC, dI) vwCl [(kt, .int), (kw, .long), (kt, .int)] s := hK
      have hK : va_K (dC, dI) vwCl [(kt, .int), (kw, .long)] s := hK.sub [0, 1] rfl
      have hPc := hP.sub (ws' := []) [] rfl
      have hDc := hD.sub (ws' := []) [] (by decide) rfl
      have hKc := hK.sub (tys' := []) [] rfl
      have hFc := va_free (wc := []) hD hS hA [] rfl
      refine va_calli (va_runS (As := [.int r20]) (rest := []) ⟨hx, hb, hml, hown, hts⟩ (c_X9_isLetter l dC dI _ r20) (va_cwS 1 hts hX9_takeRow_X9_isLetter_s57 rfl rfl rfl (by decide +kernel) ⟨Nat.le_of_ble_eq_true rfl, Nat.le_of_ble_eq_true rfl⟩) ⟨zPre.blind, zPre.go hZ hPc hKc hDc⟩ rfl rfl hl.1 rfl (lv_room (Nat.le_of_ble_eq_true rfl)) dX9_takeRow_36 ⟨Nat.le_of_ble_eq_true rfl, Nat.le_of_ble_eq_true rfl⟩) hS (fun q _ h => hFc q h) hFc (fun r21 u9 t9 H1 locs ht hvm hw hB hz1 hk1 hS => ?_)
      obtain ⟨hP1, hK1, hD1⟩ := hB
      rw [ht] at hP1
      have hK1 := va_K.moved hvm.symm hK1
      obtain ⟨hP, hD⟩ := va_join (wr := [(qw, .inl (kw, 25, .inr (.inl fw))), (h0, .inr (8, [.ref qt, .ref qw, .int t2, .int w0_3, .int t4, .int t5, .int t6, .long w0_7])), (qt, .inl (kt, 900, .inl ft))]) (w1 := []) hP hD [] [0, 1, 2] rfl rfl (by decide) (by decide) hk1 hFc hP1 hD1
      have hK := hK.app hK1
      generalize H1 = H at hP hS ⊢
      have hP : va_P (dC, dI) vwCl [(qw, .inl (kw, 25, .inr (.inl fw))), (h0, .inr (8, [.ref qt, .ref qw, .int t2, .int w0_3, .int t4, .int t5, .int t6, .long w0_7])), (qt, .inl (kt, 900, .inl ft))] H := hP
      have hD : va_D A [(qw, .inl (kw, 25, .inr (.inl fw))), (h0, .inr (8, [.ref qt, .ref qw, .int t2, .int w0_3, .int t4, .int t5, .int t6, .long w0_7])), (qt, .inl (kt, 900, .inl ft))] := hD
      have hK : va_K (dC, dI) vwCl [(kt, .int), (kw, .long)] s := hK
      refine lv_if_eq (tgt := 79) hx hb dX9_takeRow_39 (by decide) (fun c22 => ?_) (fun c22 => ?_)
      ·
        have hP := hP.sub (ws' := [(h0, .inr (8, [.ref qt, .ref qw, .int t2, .int w0_3, .int t4, .int t5, .int t6, .long w0_7])), (qt, .inl (kt, 900, .inl ft)), (qw, .inl (kw, 25, .inr (.inl fw)))]) [1, 2, 0] rfl
        have hD := hD.sub (ws' := [(h0, .inr (8, [.ref qt, .ref qw, .int t2, .int w0_3, .int t4, .int t5, .int t6, .long w0_7])), (qt, .inl (kt, 900, .inl ft)), (qw, .inl (kw, 25, .inr (.inl fw)))]) [1, 2, 0] (by decide) rfl
        exact j_X9_takeRow_79 l dC dI h0 qt qw kt kw t2 t4 t5 t6 ft fw hx hb hr hml hown hts hlocks hZ hA hK w0_3 w0_7 _ _ _ hP hD hS (lv_sub hl [0] rfl)
      ·
        refine lv_aload_n hx hb dX9_takeRow_42 rfl (lv_at hl 0 rfl) ?_
        refine lv_aload_n hx hb dX9_takeRow_43 rfl (lv_at hl 0 rfl) ?_
        refine va_get (D := (dC, dI)) (ci := 8) (v := .long w0_7) (C := RX9) (T := TX9) (N := 8) hx hb hts i_X9_takeRow_X9 hown hK hP 1 rfl rfl 7 (by decide) (hts (.fieldLink RX9 69 "StatementRules2$Tokens" "name" "J") k_X9_takeRow_fieldLink_RX9_69_SR_Tokens_name_J) (fun _ h9 => h9) rfl dX9_takeRow_44 ?_
        refine lv_bipush (v := 8) hx hb dX9_takeRow_47 (by decide) ?_
        obtain ⟨z23, ez23⟩ : ∃ y : Int64, y = (w0_7 : Int64) <<< ((8 : Int32).toInt64 &&& 63) := ⟨_, rfl⟩
        refine lv_lshl (v := z23) hx hb dX9_takeRow_49 ez23.symm ?_
        refine lv_aload_n hx hb dX9_takeRow_50 rfl (lv_at hl 0 rfl) ?_
        refine lv_aload_n hx hb dX9_takeRow_51 rfl (lv_at hl 0 rfl) ?_
        refine va_get (D := (dC, dI)) (ci := 8) (v := .int w0_3) (C := RX9) (T := TX9) (N := 8) hx hb hts i_X9_takeRow_X9 hown hK hP 1 rfl rfl 3 (by decide) (hts (.fieldLink RX9 34 "StatementRules2$Tokens" "next" "I") k_X9_takeRow_fieldLink_RX9_34_SR_Tokens_next_I) (fun _ h9 => h9) rfl dX9_takeRow_52 ?_
        have hPc := hP.sub (ws' := [(h0, .inr (8, [.ref qt, .ref qw, .int t2, .int w0_3, .int t4, .int t5, .int t6, .long w0_7])), (qt, .inl (kt, 900, .inl ft))]) [1, 2] rfl
        have hDc := hD.sub (ws' := [(h0, .inr (8, [.ref qt, .ref qw, .int t2, .int w0_3, .int t4, .int t5, .int t6, .long w0_7])), (qt, .inl (kt, 900, .inl ft))]) [1, 2] (by decide) rfl
        have hKc := hK.sub (tys' := [(kt, .int)]) [0] rfl
        have hFc := va_free (wc := [(h0, .inr (8, [.ref qt, .ref qw, .int t2, .int w0_3, .int t4, .int t5, .int t6, .long w0_7])), (qt, .inl (kt, 900, .inl ft))]) hD hS hA [1, 2] rfl
        refine va_calli (va_runV (As := [.int w0_3]) (rest := [.long z23, .ref h0]) ⟨hx, hb, hml, hown, hts⟩ (c_X9_byteAt l dC dI _ h0 w0_3 t2 w0_3 t4 t5 t6 w0_7 qw qt kt ft) (cwV 1 hts hX9_takeRow_X9_byteAt_v43 rfl rfl rfl (by decide +kernel) ⟨Nat.le_of_ble_eq_true rfl, Nat.le_of_ble_eq_true rfl⟩) ⟨zPre.blind, va_recv hKc hPc (ci := 8) (q0 := 0) rfl rfl, zPre.go hZ hPc hKc hDc⟩ rfl rfl hl.1 rfl (lv_room (Nat.le_of_ble_eq_true rfl)) dX9_takeRow_55 ⟨Nat.le_of_ble_eq_true rfl, Nat.le_of_ble_eq_true rfl⟩) hS (fun q _ h => hFc q h) hFc (fun r24 u9 t9 H1 locs ht hvm hw hB hz1 hk1 hS => ?_)
        obtain ⟨hP1, hK1, hD1⟩ := hB
        rw [ht] at hP1
        have hK1 := va_K.moved hvm.symm hK1
        obtain ⟨hP, hD⟩ := va_join (wr := [(qw, .inl (kw, 25, .inr (.inl fw)))]) (w1 := [(h0, .inr (8, [.ref qt, .ref qw, .int t2, .int w0_3, .int t4, .int t5, .int t6, .long w0_7])), (qt, .inl (kt, 900, .inl ft))]) hP hD [1, 2] [0] rfl rfl (by decide) (by decide) hk1 hFc hP1 hD1
        have hK := hK.app hK1
        generalize H1 = H at hP hS ⊢
        have hP : va_P (dC, dI) vwCl [(qw, .inl (kw, 25, .inr (.inl fw))), (h0, .inr (8, [.ref qt, .ref qw, .int t2, .int w0_3, .int t4, .int t5, .int t6, .long w0_7])), (qt, .inl (kt, 900, .inl ft))] H := hP
        have hD : va_D A [(qw, .inl (kw, 25, .inr (.inl fw))), (h0, .inr (8, [.ref qt, .ref qw, .int t2, .int w0_3, .int t4, .int t5, .int t6, .long w0_7])), (qt, .inl (kt, 900, .inl ft))] := hD
        have hK : va_K (dC, dI) vwCl [(kt, .int), (kw, .long), (kt, .int)] s := hK
        have hK : va_K (dC, dI) vwCl [(kt, .int), (kw, .long)] s := hK.sub [0, 1] rfl
        obtain ⟨z25, ez25⟩ : ∃ y : Int64, y = (r24 : Int32).toInt64 := ⟨_, rfl⟩
        refine lv_i2l (v := z25) hx hb dX9_takeRow_58 ez25.symm ?_
        refine lv_lor hx hb dX9_takeRow_59 ?_
        refine lv_topl (fun z26 ez26 => ?_)
        refine va_put (D := (dC, dI)) (ci := 8) (v := .long z26) (ty := .long) (C := RX9) (T := TX9) (N := 8) hx hb hts i_X9_takeRow_X9 tyX9 tyX9_ok nmX9 hown hK hP hD hS 1 rfl rfl 7 (by decide) (hts (.fieldLink RX9 69 "StatementRules2$Tokens" "name" "J") k_X9_takeRow_fieldLink_RX9_69_SR_Tokens_name_J) (fun _ h9 => h9) rfl (by decide +kernel) rfl rfl (Nat.le_of_ble_eq_true rfl) dX9_takeRow_60 (fun H locs hP hD hS => ?_)
        have hP : va_P (dC, dI) vwCl [(qw, .inl (kw, 25, .inr (.inl fw))), (h0, .inr (8, [.ref qt, .ref qw, .int t2, .int w0_3, .int t4, .int t5, .int t6, .long z26])), (qt, .inl (kt, 900, .inl ft))] H := hP
        have hD : va_D A [(qw, .inl (kw, 25, .inr (.inl fw))), (h0, .inr (8, [.ref qt, .ref qw, .int t2, .int w0_3, .int t4, .int t5, .int t6, .long z26])), (qt, .inl (kt, 900, .inl ft))] := hD
        refine lv_aload_n hx hb dX9_takeRow_63 rfl (lv_at hl 0 rfl) ?_
        refine lv_dup hx hb dX9_takeRow_64 rfl ?_
        refine va_get (D := (dC, dI)) (ci := 8) (v := .int w0_3) (C := RX9) (T := TX9) (N := 8) hx hb hts i_X9_takeRow_X9 hown hK hP 1 rfl rfl 3 (by decide) (hts (.fieldLink RX9 34 "StatementRules2$Tokens" "next" "I") k_X9_takeRow_fieldLink_RX9_34_SR_Tokens_next_I) (fun _ h9 => h9) rfl dX9_takeRow_65 ?_
        refine lv_iconst (v := 1) hx hb dX9_takeRow_68 (by decide) ?_
        refine lv_iadd hx hb dX9_takeRow_69 ?_
        refine lv_topi (fun z27 ez27 => ?_)
        refine va_put (D := (dC, dI)) (ci := 8) (v := .int z27) (ty := .int) (C := RX9) (T := TX9) (N := 8) hx hb hts i_X9_takeRow_X9 tyX9 tyX9_ok nmX9 hown hK hP hD hS 1 rfl rfl 3 (by decide) (hts (.fieldLink RX9 34 "StatementRules2$Tokens" "next" "I") k_X9_takeRow_fieldLink_RX9_34_SR_Tokens_next_I) (fun _ h9 => h9) rfl (by decide +kernel) rfl rfl (Nat.le_of_ble_eq_true rfl) dX9_takeRow_70 (fun H locs hP hD hS => ?_)
        have hP : va_P (dC, dI) vwCl [(qw, .inl (kw, 25, .inr (.inl fw))), (h0, .inr (8, [.ref qt, .ref qw, .int t2, .int z27, .int t4, .int t5, .int t6, .long z26])), (qt, .inl (kt, 900, .inl ft))] H := hP
        have hD : va_D A [(qw, .inl (kw, 25, .inr (.inl fw))), (h0, .inr (8, [.ref qt, .ref qw, .int t2, .int z27, .int t4, .int t5, .int t6, .long z26])), (qt, .inl (kt, 900, .inl ft))] := hD
        obtain ⟨z28, ez28⟩ : ∃ y : Int32, y = l1 + Int32.ofInt (1) := ⟨_, rfl⟩
        refine lv_iinc (v := z28) (lv' := [(1, .int z28), (0, .ref h0)]) hx hb dX9_takeRow_73 hl (k := 1) rfl (ez28.symm) (by decide) rfl (fun ls hl => ?_)
        refine lv_goto (tgt := 7) hx hb dX9_takeRow_76 (by decide) ?_
        have hP := hP.sub (ws' := [(h0, .inr (8, [.ref qt, .ref qw, .int t2, .int z27, .int t4, .int t5, .int t6, .long z26])), (qt, .inl (kt, 900, .inl ft)), (qw, .inl (kw, 25, .inr (.inl fw)))]) [1, 2, 0] rfl
        have hD := hD.sub (ws' := [(h0, .inr (8, [.ref qt, .ref qw, .int t2, .int z27, .int t4, .int t5, .int t6, .long z26])), (qt, .inl (kt, 900, .inl ft)), (qw, .inl (kw, 25, .inr (.inl fw)))]) [1, 2, 0] (by decide) rfl
        exact ih z27 z26 z28 _ _ _ (by obtain ⟨k9, h9, h8⟩ := hinv; exact ⟨k9 + 1, by rw [ez28, h9]; exact nI_1 k9, by omega⟩) hP hD hS (lv_sub hl [1, 0] rfl)
set_option maxHeartbeats 4000000 in
set_option maxRecDepth 100000 in
theorem c_X9_takeRow (l : Launch) (dC : Nat → ClassId) (dI : Nat → Nat → Nat) (sz : Nat) (h0 : Nat) (t2 : Int32) (t3 : Int32) (t4 : Int32) (t5 : Int32) (t6 : Int32) (t7 : Int64) (qt : Nat) (kt : ClassId) (ft : Nat → Int32) (qw : Nat) (kw : ClassId) (fw : Nat → Int64) : Met l yX9_takeRow wzX9_takeRow ({ frames := 2, cells := 0, slots := 0, locals := 120 }) (va_Pc [.ref h0] (zPre dC dI sz [(h0, .inr (8, [.ref qt, .ref qw, .int t2, .int t3, .int t4, .int t5, .int t6, .long t7])), (qt, .inl (kt, 900, .inl ft)), (qw, .inl (kw, 25, .inr (.inl fw)))] [(kt, .int), (kw, .long)])) (va_Qv (fun (_ : Unit) => True) (fun (_ : Unit) (t : State) => ∃ (u2 : Int32), ∃ (u3 : Int32), ∃ (u4 : Int32), ∃ (u5 : Int32), ∃ (u6 : Int32), ∃ (u7 : Int64), zPost dC dI (va_A [(h0, .inr (8, [.ref qt, .ref qw, .int t2, .int t3, .int t4, .int t5, .int t6, .long t7])), (qt, .inl (kt, 900, .inl ft)), (qw, .inl (kw, 25, .inr (.inl fw)))] sz) [(h0, .inr (8, [.ref qt, .ref qw, .int u2, .int u3, .int u4, .int u5, .int u6, .long u7])), (qt, .inl (kt, 900, .inl ft)), (qw, .inl (kw, 25, .inr (.inl fw)))] [(kt, .int), (kw, .long)] t) (va_A [(h0, .inr (8, [.ref qt, .ref qw, .int t2, .int t3, .int t4, .int t5, .int t6, .long t7])), (qt, .inl (kt, 900, .inl ft)), (qw, .inl (kw, 25, .inr (.inl fw)))] sz)) 0 0 (va_A [(h0, .inr (8, [.ref qt, .ref qw, .int t2, .int t3, .int t4, .int t5, .int t6, .long t7])), (qt, .inl (kt, 900, .inl ft)), (qw, .inl (kw, 25, .inr (.inl fw)))] sz) := by
  refine Met.ofW (cc := cX9_takeRow) (maxL := 2) (ret := none) (by decide) rfl ?_
  intro p e s m args below meth c s₁ B hml hv
  obtain ⟨rfl, hsz, hZ, hP, hK, hD0⟩ := hv
  have hx := B.exec
  have hb := B.bytes
  have hr := B.returns
  have hts := atoms_spec (ws := wzX9_takeRow) B.pre
  have hown : s.vm.findClass RX9 = some m.cls := findClass_of_methodNamed B.named
  have hlocks := B.notSynchronized
  subst hsz
  have hD := hD0.self (sz := s.heap.size)
  generalize hAe : va_A [(h0, .inr (8, [.ref qt, .ref qw, .int t2, .int t3, .int t4, .int t5, .int t6, .long t7])), (qt, .inl (kt, 900, .inl ft)), (qw, .inl (kw, 25, .inr (.inl fw)))] s.heap.size = A at hD ⊢
  have hA : ∀ q : Nat, s.heap.size ≤ q → A q := fun q h => by rw [← hAe]; exact Or.inr h
  have hS : va_S A s.heap s.heap [] := va_S.rf
  have hP : va_P (dC, dI) vwCl [(h0, .inr (8, [.ref qt, .ref qw, .int t2, .int t3, .int t4, .int t5, .int t6, .long t7])), (qt, .inl (kt, 900, .inl ft)), (qw, .inl (kw, 25, .inr (.inl fw)))] s.heap := hP
  have hl := lv_entry ([.ref h0]) (n := 2) (Nat.le_of_ble_eq_true rfl)
  rw [lg_entry_eq]
  generalize (lg_sl ([.ref h0]) ++ List.replicate (2 - (lg_sl ([.ref h0])).length) Slot.unset).toArray = ls at hl ⊢
  have hl : lv_has ls 2 [(0, .ref h0)] := hl
  refine lv_aload_n hx hb dX9_takeRow_0 rfl (lv_at hl 0 rfl) ?_
  refine lv_lconst (v := 0) hx hb dX9_takeRow_1 (by decide) ?_
  refine va_put (D := (dC, dI)) (ci := 8) (v := .long 0) (ty := .long) (C := RX9) (T := TX9) (N := 8) hx hb hts i_X9_takeRow_X9 tyX9 tyX9_ok nmX9 hown hK hP hD hS 0 rfl rfl 7 (by decide) (hts (.fieldLink RX9 69 "StatementRules2$Tokens" "name" "J") k_X9_takeRow_fieldLink_RX9_69_SR_Tokens_name_J) (fun _ h9 => h9) rfl (by decide +kernel) rfl rfl (Nat.le_of_ble_eq_true rfl) dX9_takeRow_2 (fun H locs hP hD hS => ?_)
  have hP : va_P (dC, dI) vwCl [(h0, .inr (8, [.ref qt, .ref qw, .int t2, .int t3, .int t4, .int t5, .int t6, .long 0])), (qt, .inl (kt, 900, .inl ft)), (qw, .inl (kw, 25, .inr (.inl fw)))] H := hP
  have hD : va_D A [(h0, .inr (8, [.ref qt, .ref qw, .int t2, .int t3, .int t4, .int t5, .int t6, .long 0])), (qt, .inl (kt, 900, .inl ft)), (qw, .inl (kw, 25, .inr (.inl fw)))] := hD
  refine lv_iconst (v := 0) hx hb dX9_takeRow_5 (by decide) ?_
  refine lv_istore_n (lv' := [(1, .int 0), (0, .ref h0)]) hx hb dX9_takeRow_6 rfl hl (by decide) rfl (fun ls hl => ?_)
  exact j_X9_takeRow_7 l dC dI h0 qt qw kt kw t2 t4 t5 t6 ft fw hx hb hr hml hown hts hlocks hZ hA hK 900 t3 0 0 _ _ _ ⟨0, nI_0.symm, rfl⟩ hP hD hS (lv_sub hl [1, 0] rfl)
theorem k_X9_takeSign_fieldLink_RX9_34_SR_Tokens_next_I : Cond.fieldLink RX9 34 "StatementRules2$Tokens" "next" "I" ∈ wzX9_takeSign := List.mem_cons_of_mem _ (List.mem_append_left _ (List.mem_of_getElem? (i := 0) rfl))
theorem i_X9_takeSign_X9 : ∀ w ∈ wsX90, w ∈ wzX9_takeSign := fun _ h => List.mem_cons_of_mem _ (List.mem_append_right _ (List.mem_append_left _ (h)))
theorem k_X9_takeSign_fieldLink_RX9_40_SR_Tokens_type_I : Cond.fieldLink RX9 40 "StatementRules2$Tokens" "type" "I" ∈ wzX9_takeSign := List.mem_cons_of_mem _ (List.mem_append_left _ (List.mem_of_getElem? (i := 1) rfl))
set_option maxHeartbeats 4000000 in
set_option maxRecDepth 100000 in
theorem c_X9_takeSign (l : Launch) (dC : Nat → ClassId) (dI : Nat → Nat → Nat) (sz : Nat) (h0 : Nat) (t2 : Int32) (t3 : Int32) (t4 : Int32) (t5 : Int32) (t6 : Int32) (t7 : Int64) (qt : Nat) (kt : ClassId) (ft : Nat → Int32) (qw : Nat) (kw : ClassId) (fw : Nat → Int64) : Met l yX9_takeSign wzX9_takeSign ({ frames := 2, cells := 0, slots := 0, locals := 120 }) (va_Pc [.ref h0] (zPre dC dI sz [(h0, .inr (8, [.ref qt, .ref qw, .int t2, .int t3, .int t4, .int t5, .int t6, .long t7])), (qt, .inl (kt, 900, .inl ft)), (qw, .inl (kw, 25, .inr (.inl fw)))] [(kt, .int), (kw, .long)])) (va_Qv (fun (_ : Unit) => True) (fun (_ : Unit) (t : State) => ∃ (u2 : Int32), ∃ (u3 : Int32), ∃ (u4 : Int32), ∃ (u5 : Int32), ∃ (u6 : Int32), ∃ (u7 : Int64), zPost dC dI (va_A [(h0, .inr (8, [.ref qt, .ref qw, .int t2, .int t3, .int t4, .int t5, .int t6, .long t7])), (qt, .inl (kt, 900, .inl ft)), (qw, .inl (kw, 25, .inr (.inl fw)))] sz) [(h0, .inr (8, [.ref qt, .ref qw, .int u2, .int u3, .int u4, .int u5, .int u6, .long u7])), (qt, .inl (kt, 900, .inl ft)), (qw, .inl (kw, 25, .inr (.inl fw)))] [(kt, .int), (kw, .long)] t) (va_A [(h0, .inr (8, [.ref qt, .ref qw, .int t2, .int t3, .int t4, .int t5, .int t6, .long t7])), (qt, .inl (kt, 900, .inl ft)), (qw, .inl (kw, 25, .inr (.inl fw)))] sz)) 0 0 (va_A [(h0, .inr (8, [.ref qt, .ref qw, .int t2, .int t3, .int t4, .int t5, .int t6, .long t7])), (qt, .inl (kt, 900, .inl ft)), (qw, .inl (kw, 25, .inr (.inl fw)))] sz) := by
  refine Met.ofW (cc := cX9_takeSign) (maxL := 2) (ret := none) (by decide) rfl ?_
  intro p e s m args below meth c s₁ B hml hv
  obtain ⟨rfl, hsz, hZ, hP, hK, hD0⟩ := hv
  have hx := B.exec
  have hb := B.bytes
  have hr := B.returns
  have hts := atoms_spec (ws := wzX9_takeSign) B.pre
  have hown : s.vm.findClass RX9 = some m.cls := findClass_of_methodNamed B.named
  have hlocks := B.notSynchronized
  subst hsz
  have hD := hD0.self (sz := s.heap.size)
  generalize hAe : va_A [(h0, .inr (8, [.ref qt, .ref qw, .int t2, .int t3, .int t4, .int t5, .int t6, .long t7])), (qt, .inl (kt, 900, .inl ft)), (qw, .inl (kw, 25, .inr (.inl fw)))] s.heap.size = A at hD ⊢
  have hA : ∀ q : Nat, s.heap.size ≤ q → A q := fun q h => by rw [← hAe]; exact Or.inr h
  have hS : va_S A s.heap s.heap [] := va_S.rf
  have hP : va_P (dC, dI) vwCl [(h0, .inr (8, [.ref qt, .ref qw, .int t2, .int t3, .int t4, .int t5, .int t6, .long t7])), (qt, .inl (kt, 900, .inl ft)), (qw, .inl (kw, 25, .inr (.inl fw)))] s.heap := hP
  have hl := lv_entry ([.ref h0]) (n := 2) (Nat.le_of_ble_eq_true rfl)
  rw [lg_entry_eq]
  generalize (lg_sl ([.ref h0]) ++ List.replicate (2 - (lg_sl ([.ref h0])).length) Slot.unset).toArray = ls at hl ⊢
  have hl : lv_has ls 2 [(0, .ref h0)] := hl
  refine lv_aload_n hx hb dX9_takeSign_0 rfl (lv_at hl 0 rfl) ?_
  refine lv_aload_n hx hb dX9_takeSign_1 rfl (lv_at hl 0 rfl) ?_
  refine va_get (D := (dC, dI)) (ci := 8) (v := .int t3) (C := RX9) (T := TX9) (N := 8) hx hb hts i_X9_takeSign_X9 hown hK hP 0 rfl rfl 3 (by decide) (hts (.fieldLink RX9 34 "StatementRules2$Tokens" "next" "I") k_X9_takeSign_fieldLink_RX9_34_SR_Tokens_next_I) (fun _ h9 => h9) rfl dX9_takeSign_2 ?_
  have hPc := hP.sub (ws' := [(h0, .inr (8, [.ref qt, .ref qw, .int t2, .int t3, .int t4, .int t5, .int t6, .long t7])), (qt, .inl (kt, 900, .inl ft))]) [0, 1] rfl
  have hDc := hD.sub (ws' := [(h0, .inr (8, [.ref qt, .ref qw, .int t2, .int t3, .int t4, .int t5, .int t6, .long t7])), (qt, .inl (kt, 900, .inl ft))]) [0, 1] (by decide) rfl
  have hKc := hK.sub (tys' := [(kt, .int)]) [0] rfl
  have hFc := va_free (wc := [(h0, .inr (8, [.ref qt, .ref qw, .int t2, .int t3, .int t4, .int t5, .int t6, .long t7])), (qt, .inl (kt, 900, .inl ft))]) hD hS hA [0, 1] rfl
  refine va_calli (va_runV (As := [.int t3]) (rest := []) ⟨hx, hb, hml, hown, hts⟩ (c_X9_byteAt l dC dI _ h0 t3 t2 t3 t4 t5 t6 t7 qw qt kt ft) (cwV 1 hts hX9_takeSign_X9_byteAt_v43 rfl rfl rfl (by decide +kernel) ⟨Nat.le_of_ble_eq_true rfl, Nat.le_of_ble_eq_true rfl⟩) ⟨zPre.blind, va_recv hKc hPc (ci := 8) (q0 := 0) rfl rfl, zPre.go hZ hPc hKc hDc⟩ rfl rfl hl.1 rfl (lv_room (Nat.le_of_ble_eq_true rfl)) dX9_takeSign_5 ⟨Nat.le_of_ble_eq_true rfl, Nat.le_of_ble_eq_true rfl⟩) hS (fun q _ h => hFc q h) hFc (fun r1 u9 t9 H1 locs ht hvm hw hB hz1 hk1 hS => ?_)
  obtain ⟨hP1, hK1, hD1⟩ := hB
  rw [ht] at hP1
  have hK1 := va_K.moved hvm.symm hK1
  obtain ⟨hP, hD⟩ := va_join (wr := [(qw, .inl (kw, 25, .inr (.inl fw)))]) (w1 := [(h0, .inr (8, [.ref qt, .ref qw, .int t2, .int t3, .int t4, .int t5, .int t6, .long t7])), (qt, .inl (kt, 900, .inl ft))]) hP hD [0, 1] [2] rfl rfl (by decide) (by decide) hk1 hFc hP1 hD1
  have hK := hK.app hK1
  generalize H1 = H at hP hS ⊢
  have hP : va_P (dC, dI) vwCl [(qw, .inl (kw, 25, .inr (.inl fw))), (h0, .inr (8, [.ref qt, .ref qw, .int t2, .int t3, .int t4, .int t5, .int t6, .long t7])), (qt, .inl (kt, 900, .inl ft))] H := hP
  have hD : va_D A [(qw, .inl (kw, 25, .inr (.inl fw))), (h0, .inr (8, [.ref qt, .ref qw, .int t2, .int t3, .int t4, .int t5, .int t6, .long t7])), (qt, .inl (kt, 900, .inl ft))] := hD
  have hK : va_K (dC, dI) vwCl [(kt, .int), (kw, .long), (kt, .int)] s := hK
  have hK : va_K (dC, dI) vwCl [(kt, .int), (kw, .long)] s := hK.sub [0, 1] rfl
  refine lv_istore_n (lv' := [(1, .int r1), (0, .ref h0)]) hx hb dX9_takeSign_8 rfl hl (by decide) rfl (fun ls hl => ?_)
  refine lv_aload_n hx hb dX9_takeSign_9 rfl (lv_at hl 1 rfl) ?_
  refine lv_iload_n hx hb dX9_takeSign_10 rfl (lv_at hl 0 rfl) ?_
  refine lv_aload_n hx hb dX9_takeSign_11 rfl (lv_at hl 1 rfl) ?_
  refine lv_aload_n hx hb dX9_takeSign_12 rfl (lv_at hl 1 rfl) ?_
  refine va_get (D := (dC, dI)) (ci := 8) (v := .int t3) (C := RX9) (T := TX9) (N := 8) hx hb hts i_X9_takeSign_X9 hown hK hP 1 rfl rfl 3 (by decide) (hts (.fieldLink RX9 34 "StatementRules2$Tokens" "next" "I") k_X9_takeSign_fieldLink_RX9_34_SR_Tokens_next_I) (fun _ h9 => h9) rfl dX9_takeSign_13 ?_
  refine lv_iconst (v := 1) hx hb dX9_takeSign_16 (by decide) ?_
  refine lv_iadd hx hb dX9_takeSign_17 ?_
  refine lv_topi (fun z2 ez2 => ?_)
  have hPc := hP.sub (ws' := [(h0, .inr (8, [.ref qt, .ref qw, .int t2, .int t3, .int t4, .int t5, .int t6, .long t7])), (qt, .inl (kt, 900, .inl ft))]) [1, 2] rfl
  have hDc := hD.sub (ws' := [(h0, .inr (8, [.ref qt, .ref qw, .int t2, .int t3, .int t4, .int t5, .int t6, .long t7])), (qt, .inl (kt, 900, .inl ft))]) [1, 2] (by decide) rfl
  have hKc := hK.sub (tys' := [(kt, .int)]) [0] rfl
  have hFc := va_free (wc := [(h0, .inr (8, [.ref qt, .ref qw, .int t2, .int t3, .int t4, .int t5, .int t6, .long t7])), (qt, .inl (kt, 900, .inl ft))]) hD hS hA [1, 2] rfl
  refine va_calli (va_runV (As := [.int z2]) (rest := [.int r1, .ref h0]) ⟨hx, hb, hml, hown, hts⟩ (c_X9_byteAt l dC dI _ h0 z2 t2 t3 t4 t5 t6 t7 qw qt kt ft) (cwV 1 hts hX9_takeSign_X9_byteAt_v43 rfl rfl rfl (by decide +kernel) ⟨Nat.le_of_ble_eq_true rfl, Nat.le_of_ble_eq_true rfl⟩) ⟨zPre.blind, va_recv hKc hPc (ci := 8) (q0 := 0) rfl rfl, zPre.go hZ hPc hKc hDc⟩ rfl rfl hl.1 rfl (lv_room (Nat.le_of_ble_eq_true rfl)) dX9_takeSign_18 ⟨Nat.le_of_ble_eq_true rfl, Nat.le_of_ble_eq_true rfl⟩) hS (fun q _ h => hFc q h) hFc (fun r3 u9 t9 H1 locs ht hvm hw hB hz1 hk1 hS => ?_)
  obtain ⟨hP1, hK1, hD1⟩ := hB
  rw [ht] at hP1
  have hK1 := va_K.moved hvm.symm hK1
  obtain ⟨hP, hD⟩ := va_join (wr := [(qw, .inl (kw, 25, .inr (.inl fw)))]) (w1 := [(h0, .inr (8, [.ref qt, .ref qw, .int t2, .int t3, .int t4, .int t5, .int t6, .long t7])), (qt, .inl (kt, 900, .inl ft))]) hP hD [1, 2] [0] rfl rfl (by decide) (by decide) hk1 hFc hP1 hD1
  have hK := hK.app hK1
  generalize H1 = H at hP hS ⊢
  have hP : va_P (dC, dI) vwCl [(qw, .inl (kw, 25, .inr (.inl fw))), (h0, .inr (8, [.ref qt, .ref qw, .int t2, .int t3, .int t4, .int t5, .int t6, .long t7])), (qt, .inl (kt, 900, .inl ft))] H := hP
  have hD : va_D A [(qw, .inl (kw, 25, .inr (.inl fw))), (h0, .inr (8, [.ref qt, .ref qw, .int t2, .int t3, .int t4, .int t5, .int t6, .long t7])), (qt, .inl (kt, 900, .inl ft))] := hD
  have hK : va_K (dC, dI) vwCl [(kt, .int), (kw, .long), (kt, .int)] s := hK
  have hK : va_K (dC, dI) vwCl [(kt, .int), (kw, .long)] s := hK.sub [0, 1] rfl
  have hPc := hP.sub (ws' := []) [] rfl
  have hDc := hD.sub (ws' := []) [] (by decide) rfl
  have hKc := hK.sub (tys' := []) [] rfl
  have hFc := va_free (wc := []) hD hS hA [] rfl
  refine va_calli (va_runS (As := [.int r1, .int r3]) (rest := [.ref h0]) ⟨hx, hb, hml, hown, hts⟩ (c_X9_longSign l dC dI _ r1 r3) (va_cwS 2 hts hX9_takeSign_X9_longSign_s90 rfl rfl rfl (by decide +kernel) ⟨Nat.le_of_ble_eq_true rfl, Nat.le_of_ble_eq_true rfl⟩) ⟨zPre.blind, zPre.go hZ hPc hKc hDc⟩ rfl rfl hl.1 rfl (lv_room (Nat.le_of_ble_eq_true rfl)) dX9_takeSign_21 ⟨Nat.le_of_ble_eq_true rfl, Nat.le_of_ble_eq_true rfl⟩) hS (fun q _ h => hFc q h) hFc (fun r4 u9 t9 H1 locs ht hvm hw hB hz1 hk1 hS => ?_)
  obtain ⟨hP1, hK1, hD1⟩ := hB
  rw [ht] at hP1
  have hK1 := va_K.moved hvm.symm hK1
  obtain ⟨hP, hD⟩ := va_join (wr := [(qw, .inl (kw, 25, .inr (.inl fw))), (h0, .inr (8, [.ref qt, .ref qw, .int t2, .int t3, .int t4, .int t5, .int t6, .long t7])), (qt, .inl (kt, 900, .inl ft))]) (w1 := []) hP hD [] [0, 1, 2] rfl rfl (by decide) (by decide) hk1 hFc hP1 hD1
  have hK := hK.app hK1
  generalize H1 = H at hP hS ⊢
  have hP : va_P (dC, dI) vwCl [(qw, .inl (kw, 25, .inr (.inl fw))), (h0, .inr (8, [.ref qt, .ref qw, .int t2, .int t3, .int t4, .int t5, .int t6, .long t7])), (qt, .inl (kt, 900, .inl ft))] H := hP
  have hD : va_D A [(qw, .inl (kw, 25, .inr (.inl fw))), (h0, .inr (8, [.ref qt, .ref qw, .int t2, .int t3, .int t4, .int t5, .int t6, .long t7])), (qt, .inl (kt, 900, .inl ft))] := hD
  have hK : va_K (dC, dI) vwCl [(kt, .int), (kw, .long)] s := hK
  refine va_put (D := (dC, dI)) (ci := 8) (v := .int r4) (ty := .int) (C := RX9) (T := TX9) (N := 8) hx hb hts i_X9_takeSign_X9 tyX9 tyX9_ok nmX9 hown hK hP hD hS 1 rfl rfl 4 (by decide) (hts (.fieldLink RX9 40 "StatementRules2$Tokens" "type" "I") k_X9_takeSign_fieldLink_RX9_40_SR_Tokens_type_I) (fun _ h9 => h9) rfl (by decide +kernel) rfl rfl (Nat.le_of_ble_eq_true rfl) dX9_takeSign_24 (fun H locs hP hD hS => ?_)
  have hP : va_P (dC, dI) vwCl [(qw, .inl (kw, 25, .inr (.inl fw))), (h0, .inr (8, [.ref qt, .ref qw, .int t2, .int t3, .int r4, .int t5, .int t6, .long t7])), (qt, .inl (kt, 900, .inl ft))] H := hP
  have hD : va_D A [(qw, .inl (kw, 25, .inr (.inl fw))), (h0, .inr (8, [.ref qt, .ref qw, .int t2, .int t3, .int r4, .int t5, .int t6, .long t7])), (qt, .inl (kt, 900, .inl ft))] := hD
  refine lv_aload_n hx hb dX9_takeSign_27 rfl (lv_at hl 1 rfl) ?_
  refine va_get (D := (dC, dI)) (ci := 8) (v := .int r4) (C := RX9) (T := TX9) (N := 8) hx hb hts i_X9_takeSign_X9 hown hK hP 1 rfl rfl 4 (by decide) (hts (.fieldLink RX9 40 "StatementRules2$Tokens" "type" "I") k_X9_takeSign_fieldLink_RX9_40_SR_Tokens_type_I) (fun _ h9 => h9) rfl dX9_takeSign_28 ?_
  refine lv_bipush (v := 6) hx hb dX9_takeSign_31 (by decide) ?_
  refine lv_icmp_eq (tgt := 47) hx hb dX9_takeSign_33 (by decide) (fun c5 => ?_) (fun c5 => ?_)
  ·
    refine lv_aload_n hx hb dX9_takeSign_47 rfl (lv_at hl 1 rfl) ?_
    refine lv_dup hx hb dX9_takeSign_48 rfl ?_
    refine va_get (D := (dC, dI)) (ci := 8) (v := .int t3) (C := RX9) (T := TX9) (N := 8) hx hb hts i_X9_takeSign_X9 hown hK hP 1 rfl rfl 3 (by decide) (hts (.fieldLink RX9 34 "StatementRules2$Tokens" "next" "I") k_X9_takeSign_fieldLink_RX9_34_SR_Tokens_next_I) (fun _ h9 => h9) rfl dX9_takeSign_49 ?_
    refine lv_iconst (v := 1) hx hb dX9_takeSign_52 (by decide) ?_
    refine lv_iadd hx hb dX9_takeSign_53 ?_
    refine lv_topi (fun z6 ez6 => ?_)
    refine va_put (D := (dC, dI)) (ci := 8) (v := .int z6) (ty := .int) (C := RX9) (T := TX9) (N := 8) hx hb hts i_X9_takeSign_X9 tyX9 tyX9_ok nmX9 hown hK hP hD hS 1 rfl rfl 3 (by decide) (hts (.fieldLink RX9 34 "StatementRules2$Tokens" "next" "I") k_X9_takeSign_fieldLink_RX9_34_SR_Tokens_next_I) (fun _ h9 => h9) rfl (by decide +kernel) rfl rfl (Nat.le_of_ble_eq_true rfl) dX9_takeSign_54 (fun H locs hP hD hS => ?_)
    have hP : va_P (dC, dI) vwCl [(qw, .inl (kw, 25, .inr (.inl fw))), (h0, .inr (8, [.ref qt, .ref qw, .int t2, .int z6, .int r4, .int t5, .int t6, .long t7])), (qt, .inl (kt, 900, .inl ft))] H := hP
    have hD : va_D A [(qw, .inl (kw, 25, .inr (.inl fw))), (h0, .inr (8, [.ref qt, .ref qw, .int t2, .int z6, .int r4, .int t5, .int t6, .long t7])), (qt, .inl (kt, 900, .inl ft))] := hD
    refine lv_iload_n hx hb dX9_takeSign_57 rfl (lv_at hl 0 rfl) ?_
    have hPc := hP.sub (ws' := []) [] rfl
    have hDc := hD.sub (ws' := []) [] (by decide) rfl
    have hKc := hK.sub (tys' := []) [] rfl
    have hFc := va_free (wc := []) hD hS hA [] rfl
    refine va_calli (va_runS (As := [.int r1]) (rest := []) ⟨hx, hb, hml, hown, hts⟩ (c_X9_isSign l dC dI _ r1) (va_cwS 1 hts hX9_takeSign_X9_isSign_s94 rfl rfl rfl (by decide +kernel) ⟨Nat.le_of_ble_eq_true rfl, Nat.le_of_ble_eq_true rfl⟩) ⟨zPre.blind, zPre.go hZ hPc hKc hDc⟩ rfl rfl hl.1 rfl (lv_room (Nat.le_of_ble_eq_true rfl)) dX9_takeSign_58 ⟨Nat.le_of_ble_eq_true rfl, Nat.le_of_ble_eq_true rfl⟩) hS (fun q _ h => hFc q h) hFc (fun r7 u9 t9 H1 locs ht hvm hw hB hz1 hk1 hS => ?_)
    obtain ⟨hP1, hK1, hD1⟩ := hB
    rw [ht] at hP1
    have hK1 := va_K.moved hvm.symm hK1
    obtain ⟨hP, hD⟩ := va_join (wr := [(qw, .inl (kw, 25, .inr (.inl fw))), (h0, .inr (8, [.ref qt, .ref qw, .int t2, .int z6, .int r4, .int t5, .int t6, .long t7])), (qt, .inl (kt, 900, .inl ft))]) (w1 := []) hP hD [] [0, 1, 2] rfl rfl (by decide) (by decide) hk1 hFc hP1 hD1
    have hK := hK.app hK1
    generalize H1 = H at hP hS ⊢
    have hP : va_P (dC, dI) vwCl [(qw, .inl (kw, 25, .inr (.inl fw))), (h0, .inr (8, [.ref qt, .ref qw, .int t2, .int z6, .int r4, .int t5, .int t6, .long t7])), (qt, .inl (kt, 900, .inl ft))] H := hP
    have hD : va_D A [(qw, .inl (kw, 25, .inr (.inl fw))), (h0, .inr (8, [.ref qt, .ref qw, .int t2, .int z6, .int r4, .int t5, .int t6, .long t7])), (qt, .inl (kt, 900, .inl ft))] := hD
    have hK : va_K (dC, dI) vwCl [(kt, .int), (kw, .long)] s := hK
    refine lv_if_eq (tgt := 69) hx hb dX9_takeSign_61 (by decide) (fun c8 => ?_) (fun c8 => ?_)
    ·
      have hP9 := hP.sub (ws' := [(h0, .inr (8, [.ref qt, .ref qw, .int t2, .int z6, .int r4, .int t5, .int t6, .long t7])), (qt, .inl (kt, 900, .inl ft)), (qw, .inl (kw, 25, .inr (.inl fw)))]) [1, 2, 0] rfl
      have hD9 := hD.sub (ws' := [(h0, .inr (8, [.ref qt, .ref qw, .int t2, .int z6, .int r4, .int t5, .int t6, .long t7])), (qt, .inl (kt, 900, .inl ft)), (qw, .inl (kw, 25, .inr (.inl fw)))]) [1, 2, 0] (by decide) rfl
      have hK9 := hK.sub (tys' := [(kt, .int), (kw, .long)]) [0, 1] rfl
      exact W.vret hx hb hr (fun t ht hW => ⟨⟨(), rfl, trivial, t2, z6, r4, t5, t6, t7, by rw [ht]; exact hP9, va_K.moved hW.alike hK9, hD9⟩, hS.F ht⟩) hS.2.2 dX9_takeSign_69
    ·
      refine lv_aload_n hx hb dX9_takeSign_64 rfl (lv_at hl 1 rfl) ?_
      refine lv_iload_n hx hb dX9_takeSign_65 rfl (lv_at hl 0 rfl) ?_
      refine va_put (D := (dC, dI)) (ci := 8) (v := .int r1) (ty := .int) (C := RX9) (T := TX9) (N := 8) hx hb hts i_X9_takeSign_X9 tyX9 tyX9_ok nmX9 hown hK hP hD hS 1 rfl rfl 4 (by decide) (hts (.fieldLink RX9 40 "StatementRules2$Tokens" "type" "I") k_X9_takeSign_fieldLink_RX9_40_SR_Tokens_type_I) (fun _ h9 => h9) rfl (by decide +kernel) rfl rfl (Nat.le_of_ble_eq_true rfl) dX9_takeSign_66 (fun H locs hP hD hS => ?_)
      have hP : va_P (dC, dI) vwCl [(qw, .inl (kw, 25, .inr (.inl fw))), (h0, .inr (8, [.ref qt, .ref qw, .int t2, .int z6, .int r1, .int t5, .int t6, .long t7])), (qt, .inl (kt, 900, .inl ft))] H := hP
      have hD : va_D A [(qw, .inl (kw, 25, .inr (.inl fw))), (h0, .inr (8, [.ref qt, .ref qw, .int t2, .int z6, .int r1, .int t5, .int t6, .long t7])), (qt, .inl (kt, 900, .inl ft))] := hD
      have hP9 := hP.sub (ws' := [(h0, .inr (8, [.ref qt, .ref qw, .int t2, .int z6, .int r1, .int t5, .int t6, .long t7])), (qt, .inl (kt, 900, .inl ft)), (qw, .inl (kw, 25, .inr (.inl fw)))]) [1, 2, 0] rfl
      have hD9 := hD.sub (ws' := [(h0, .inr (8, [.ref qt, .ref qw, .int t2, .int z6, .int r1, .int t5, .int t6, .long t7])), (qt, .inl (kt, 900, .inl ft)), (qw, .inl (kw, 25, .inr (.inl fw)))]) [1, 2, 0] (by decide) rfl
      have hK9 := hK.sub (tys' := [(kt, .int), (kw, .long)]) [0, 1] rfl
      exact W.vret hx hb hr (fun t ht hW => ⟨⟨(), rfl, trivial, t2, z6, r1, t5, t6, t7, by rw [ht]; exact hP9, va_K.moved hW.alike hK9, hD9⟩, hS.F ht⟩) hS.2.2 dX9_takeSign_69
  ·
    refine lv_aload_n hx hb dX9_takeSign_36 rfl (lv_at hl 1 rfl) ?_
    refine lv_dup hx hb dX9_takeSign_37 rfl ?_
    refine va_get (D := (dC, dI)) (ci := 8) (v := .int t3) (C := RX9) (T := TX9) (N := 8) hx hb hts i_X9_takeSign_X9 hown hK hP 1 rfl rfl 3 (by decide) (hts (.fieldLink RX9 34 "StatementRules2$Tokens" "next" "I") k_X9_takeSign_fieldLink_RX9_34_SR_Tokens_next_I) (fun _ h9 => h9) rfl dX9_takeSign_38 ?_
    refine lv_iconst (v := 2) hx hb dX9_takeSign_41 (by decide) ?_
    refine lv_iadd hx hb dX9_takeSign_42 ?_
    refine lv_topi (fun z9 ez9 => ?_)
    refine va_put (D := (dC, dI)) (ci := 8) (v := .int z9) (ty := .int) (C := RX9) (T := TX9) (N := 8) hx hb hts i_X9_takeSign_X9 tyX9 tyX9_ok nmX9 hown hK hP hD hS 1 rfl rfl 3 (by decide) (hts (.fieldLink RX9 34 "StatementRules2$Tokens" "next" "I") k_X9_takeSign_fieldLink_RX9_34_SR_Tokens_next_I) (fun _ h9 => h9) rfl (by decide +kernel) rfl rfl (Nat.le_of_ble_eq_true rfl) dX9_takeSign_43 (fun H locs hP hD hS => ?_)
    have hP : va_P (dC, dI) vwCl [(qw, .inl (kw, 25, .inr (.inl fw))), (h0, .inr (8, [.ref qt, .ref qw, .int t2, .int z9, .int r4, .int t5, .int t6, .long t7])), (qt, .inl (kt, 900, .inl ft))] H := hP
    have hD : va_D A [(qw, .inl (kw, 25, .inr (.inl fw))), (h0, .inr (8, [.ref qt, .ref qw, .int t2, .int z9, .int r4, .int t5, .int t6, .long t7])), (qt, .inl (kt, 900, .inl ft))] := hD
    have hP9 := hP.sub (ws' := [(h0, .inr (8, [.ref qt, .ref qw, .int t2, .int z9, .int r4, .int t5, .int t6, .long t7])), (qt, .inl (kt, 900, .inl ft)), (qw, .inl (kw, 25, .inr (.inl fw)))]) [1, 2, 0] rfl
    have hD9 := hD.sub (ws' := [(h0, .inr (8, [.ref qt, .ref qw, .int t2, .int z9, .int r4, .int t5, .int t6, .long t7])), (qt, .inl (kt, 900, .inl ft)), (qw, .inl (kw, 25, .inr (.inl fw)))]) [1, 2, 0] (by decide) rfl
    have hK9 := hK.sub (tys' := [(kt, .int), (kw, .long)]) [0, 1] rfl
    exact W.vret hx hb hr (fun t ht hW => ⟨⟨(), rfl, trivial, t2, z9, r4, t5, t6, t7, by rw [ht]; exact hP9, va_K.moved hW.alike hK9, hD9⟩, hS.F ht⟩) hS.2.2 dX9_takeSign_46
