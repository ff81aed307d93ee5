theorem k_X9_takeNumber_fieldLink_RX9_66_SR_Tokens_value_I : Cond.fieldLink RX9 66 "StatementRules2$Tokens" "value" "I" ∈ wzX9_takeNumber := List.mem_cons_of_mem _ (List.mem_append_left _ (List.mem_of_getElem? (i := 0) rfl))
theorem i_X9_takeNumber_X9 : ∀ w ∈ wsX90, w ∈ wzX9_takeNumber := fun _ h => List.mem_cons_of_mem _ (List.mem_append_right _ (List.mem_append_left _ (h)))
theorem k_X9_takeNumber_fieldLink_RX9_34_SR_Tokens_next_I : Cond.fieldLink RX9 34 "StatementRules2$Tokens" "next" "I" ∈ wzX9_takeNumber := List.mem_cons_of_mem _ (List.mem_append_left _ (List.mem_of_getElem? (i := 1) rfl))
theorem k_X9_takeNumber_fieldLink_RX9_47_SR_Tokens_place_I : Cond.fieldLink RX9 47 "StatementRules2$Tokens" "place" "I" ∈ wzX9_takeNumber := List.mem_cons_of_mem _ (List.mem_append_left _ (List.mem_of_getElem? (i := 2) rfl))
theorem k_X9_takeNumber_fieldLink_RX9_40_SR_Tokens_type_I : Cond.fieldLink RX9 40 "StatementRules2$Tokens" "type" "I" ∈ wzX9_takeNumber := List.mem_cons_of_mem _ (List.mem_append_left _ (List.mem_of_getElem? (i := 3) rfl))
set_option maxHeartbeats 4000000 in
set_option maxRecDepth 100000 in
theorem j_X9_takeNumber_67 {p : Program} {e : Env} {s : State} {m : MethodId} {args : Array Value} {below : List Frame} {meth : Method} {c : Code} {A : Nat → Prop} (l : Launch) (dC : Nat → ClassId) (dI : Nat → Nat → Nat) (h0 : Nat) (qt : Nat) (qw : Nat) (kt : ClassId) (kw : ClassId) (t2 : Int32) (t4 : Int32) (t5 : Int32) (t7 : Int64) (ft : Nat → Int32) (fw : Nat → Int64) (hx : p.tables.exec = Jvm.exec) (hb : c.code = cX9_takeNumber) (hr : meth.sig.returnType = none) (hml : c.maxLocals = 2) (hown : s.vm.findClass RX9 = some m.cls) (hts : ∀ w ∈ wzX9_takeNumber, w.before args s = true) (hlocks : meth.locks = false) (hZ : zAMB s) (hA : ∀ q : Nat, s.heap.size ≤ q → A q) (hK : va_K (dC, dI) vwCl [(kt, .int), (kw, .long)] s) : ∀ (w0_3 : Int32) (w0_6 : Int32) (H : Heap) (locs : List Loc) (ls : Array Slot), va_P (dC, dI) vwCl [(h0, .inr (8, [.ref qt, .ref qw, .int t2, .int w0_3, .int t4, .int t5, .int w0_6, .long t7])), (qt, .inl (kt, 900, .inl ft)), (qw, .inl (kw, 25, .inr (.inl fw)))] H → va_D A [(h0, .inr (8, [.ref qt, .ref qw, .int t2, .int w0_3, .int t4, .int t5, .int w0_6, .long t7])), (qt, .inl (kt, 900, .inl ft)), (qw, .inl (kw, 25, .inr (.inl fw)))] → va_S A s.heap H locs → lv_has ls 2 [(0, .ref h0)] → W p l e ({ frames := 2, cells := 0, slots := 0, locals := 120 }) s m args below meth c H locs 0 0 (MQ below (va_Qv (fun (_ : Unit) => True) (fun (_ : Unit) (t : State) => ∃ (u2 : Int32), ∃ (u3 : Int32), ∃ (u4 : Int32), ∃ (u5 : Int32), ∃ (u6 : Int32), ∃ (u7 : Int64), zPost dC dI A [(h0, .inr (8, [.ref qt, .ref qw, .int u2, .int u3, .int u4, .int u5, .int u6, .long u7])), (qt, .inl (kt, 900, .inl ft)), (qw, .inl (kw, 25, .inr (.inl fw)))] [(kt, .int), (kw, .long)] t) A) args s 0 0 A) (F0 m 67 ls []) := by
  intro w0_3 w0_6 H locs ls hP hD hS hl
  refine lv_aload_n hx hb dX9_takeNumber_67 rfl (lv_at hl 0 rfl) ?_
  refine lv_aload_n hx hb dX9_takeNumber_68 rfl (lv_at hl 0 rfl) ?_
  refine va_get (D := (dC, dI)) (ci := 8) (v := .int w0_3) (C := RX9) (T := TX9) (N := 8) hx hb hts i_X9_takeNumber_X9 hown hK hP 0 rfl rfl 3 (by decide) (hts (.fieldLink RX9 34 "StatementRules2$Tokens" "next" "I") k_X9_takeNumber_fieldLink_RX9_34_SR_Tokens_next_I) (fun _ h9 => h9) rfl dX9_takeNumber_69 ?_
  refine lv_aload_n hx hb dX9_takeNumber_72 rfl (lv_at hl 0 rfl) ?_
  refine va_get (D := (dC, dI)) (ci := 8) (v := .int t5) (C := RX9) (T := TX9) (N := 8) hx hb hts i_X9_takeNumber_X9 hown hK hP 0 rfl rfl 5 (by decide) (hts (.fieldLink RX9 47 "StatementRules2$Tokens" "place" "I") k_X9_takeNumber_fieldLink_RX9_47_SR_Tokens_place_I) (fun _ h9 => h9) rfl dX9_takeNumber_73 ?_
  refine lv_isub hx hb dX9_takeNumber_76 ?_
  refine lv_topi (fun z1 ez1 => ?_)
  refine lv_bipush (v := 9) hx hb dX9_takeNumber_77 (by decide) ?_
  refine lv_icmp_le (tgt := 87) hx hb dX9_takeNumber_79 (by decide) (fun c2 => ?_) (fun c2 => ?_)
  ·
    refine lv_iconst (v := 1) hx hb dX9_takeNumber_87 (by decide) ?_
    refine va_put (D := (dC, dI)) (ci := 8) (v := .int 1) (ty := .int) (C := RX9) (T := TX9) (N := 8) hx hb hts i_X9_takeNumber_X9 tyX9 tyX9_ok nmX9 hown hK hP hD hS 0 rfl rfl 4 (by decide) (hts (.fieldLink RX9 40 "StatementRules2$Tokens" "type" "I") k_X9_takeNumber_fieldLink_RX9_40_SR_Tokens_type_I) (fun _ h9 => h9) rfl (by decide +kernel) rfl rfl (Nat.le_of_ble_eq_true rfl) dX9_takeNumber_88 (fun H locs hP hD hS => ?_)
    have hP : va_P (dC, dI) vwCl [(h0, .inr (8, [.ref qt, .ref qw, .int t2, .int w0_3, .int 1, .int t5, .int w0_6, .long t7])), (qt, .inl (kt, 900, .inl ft)), (qw, .inl (kw, 25, .inr (.inl fw)))] H := hP
    have hD : va_D A [(h0, .inr (8, [.ref qt, .ref qw, .int t2, .int w0_3, .int 1, .int t5, .int w0_6, .long t7])), (qt, .inl (kt, 900, .inl ft)), (qw, .inl (kw, 25, .inr (.inl fw)))] := hD
    have hP9 := hP.sub (ws' := [(h0, .inr (8, [.ref qt, .ref qw, .int t2, .int w0_3, .int 1, .int t5, .int w0_6, .long t7])), (qt, .inl (kt, 900, .inl ft)), (qw, .inl (kw, 25, .inr (.inl fw)))]) [0, 1, 2] rfl
    have hD9 := hD.sub (ws' := [(h0, .inr (8, [.ref qt, .ref qw, .int t2, .int w0_3, .int 1, .int t5, .int w0_6, .long t7])), (qt, .inl (kt, 900, .inl ft)), (qw, .inl (kw, 25, .inr (.inl fw)))]) [0, 1, 2] (by decide) rfl
    have hK9 := hK.sub (tys' := [(kt, .int), (kw, .long)]) [0, 1] rfl
    exact W.vret hx hb hr (fun t ht hW => ⟨⟨(), rfl, trivial, t2, w0_3, 1, t5, w0_6, t7, by rw [ht]; exact hP9, va_K.moved hW.alike hK9, hD9⟩, hS.F ht⟩) hS.2.2 dX9_takeNumber_91
  ·
    refine lv_bipush (v := 6) hx hb dX9_takeNumber_82 (by decide) ?_
    refine lv_goto (tgt := 88) hx hb dX9_takeNumber_84 (by decide) ?_
    refine va_put (D := (dC, dI)) (ci := 8) (v := .int 6) (ty := .int) (C := RX9) (T := TX9) (N := 8) hx hb hts i_X9_takeNumber_X9 tyX9 tyX9_ok nmX9 hown hK hP hD hS 0 rfl rfl 4 (by decide) (hts (.fieldLink RX9 40 "StatementRules2$Tokens" "type" "I") k_X9_takeNumber_fieldLink_RX9_40_SR_Tokens_type_I) (fun _ h9 => h9) rfl (by decide +kernel) rfl rfl (Nat.le_of_ble_eq_true rfl) dX9_takeNumber_88 (fun H locs hP hD hS => ?_)
    have hP : va_P (dC, dI) vwCl [(h0, .inr (8, [.ref qt, .ref qw, .int t2, .int w0_3, .int 6, .int t5, .int w0_6, .long t7])), (qt, .inl (kt, 900, .inl ft)), (qw, .inl (kw, 25, .inr (.inl fw)))] H := hP
    have hD : va_D A [(h0, .inr (8, [.ref qt, .ref qw, .int t2, .int w0_3, .int 6, .int t5, .int w0_6, .long t7])), (qt, .inl (kt, 900, .inl ft)), (qw, .inl (kw, 25, .inr (.inl fw)))] := hD
    have hP9 := hP.sub (ws' := [(h0, .inr (8, [.ref qt, .ref qw, .int t2, .int w0_3, .int 6, .int t5, .int w0_6, .long t7])), (qt, .inl (kt, 900, .inl ft)), (qw, .inl (kw, 25, .inr (.inl fw)))]) [0, 1, 2] rfl
    have hD9 := hD.sub (ws' := [(h0, .inr (8, [.ref qt, .ref qw, .int t2, .int w0_3, .int 6, .int t5, .int w0_6, .long t7])), (qt, .inl (kt, 900, .inl ft)), (qw, .inl (kw, 25, .inr (.inl fw)))]) [0, 1, 2] (by decide) rfl
    have hK9 := hK.sub (tys' := [(kt, .int), (kw, .long)]) [0, 1] rfl
    exact W.vret hx hb hr (fun t ht hW => ⟨⟨(), rfl, trivial, t2, w0_3, 6, t5, w0_6, t7, by rw [ht]; exact hP9, va_K.moved hW.alike hK9, hD9⟩, hS.F ht⟩) hS.2.2 dX9_takeNumber_91
set_option maxHeartbeats 4000000 in
set_option maxRecDepth 100000 in
theorem j_X9_takeNumber_7 {p : Program} {e : Env} {s : State} {m : MethodId} {args : Array Value} {below : List Frame} {meth : Method} {c : Code} {A : Nat → Prop} (l : Launch) (dC : Nat → ClassId) (dI : Nat → Nat → Nat) (h0 : Nat) (qt : Nat) (qw : Nat) (kt : ClassId) (kw : ClassId) (t2 : Int32) (t4 : Int32) (t5 : Int32) (t7 : Int64) (ft : Nat → Int32) (fw : Nat → Int64) (hx : p.tables.exec = Jvm.exec) (hb : c.code = cX9_takeNumber) (hr : meth.sig.returnType = none) (hml : c.maxLocals = 2) (hown : s.vm.findClass RX9 = some m.cls) (hts : ∀ w ∈ wzX9_takeNumber, w.before args s = true) (hlocks : meth.locks = false) (hZ : zAMB s) (hA : ∀ q : Nat, s.heap.size ≤ q → A q) (hK : va_K (dC, dI) vwCl [(kt, .int), (kw, .long)] s) : ∀ (n9 : Nat) (w0_3 : Int32) (w0_6 : Int32) (l1 : Int32) (H : Heap) (locs : List Loc) (ls : Array Slot), (∃ k9 : Nat, l1 = nI k9 ∧ k9 + n9 = 900) → va_P (dC, dI) vwCl [(h0, .inr (8, [.ref qt, .ref qw, .int t2, .int w0_3, .int t4, .int t5, .int w0_6, .long t7])), (qt, .inl (kt, 900, .inl ft)), (qw, .inl (kw, 25, .inr (.inl fw)))] H → va_D A [(h0, .inr (8, [.ref qt, .ref qw, .int t2, .int w0_3, .int t4, .int t5, .int w0_6, .long t7])), (qt, .inl (kt, 900, .inl ft)), (qw, .inl (kw, 25, .inr (.inl fw)))] → va_S A s.heap H locs → lv_has ls 2 [(0, .ref h0), (1, .int l1)] → W p l e ({ frames := 2, cells := 0, slots := 0, locals := 120 }) s m args below meth c H locs 0 0 (MQ below (va_Qv (fun (_ : Unit) => True) (fun (_ : Unit) (t : State) => ∃ (u2 : Int32), ∃ (u3 : Int32), ∃ (u4 : Int32), ∃ (u5 : Int32), ∃ (u6 : Int32), ∃ (u7 : Int64), zPost dC dI A [(h0, .inr (8, [.ref qt, .ref qw, .int u2, .int u3, .int u4, .int u5, .int u6, .long u7])), (qt, .inl (kt, 900, .inl ft)), (qw, .inl (kw, 25, .inr (.inl fw)))] [(kt, .int), (kw, .long)] t) A) args s 0 0 A) (F0 m 7 ls []) := by
  intro n9
  induction n9 with
  | zero =>
    intro w0_3 w0_6 l1 H locs ls hinv hP hD hS hl
    have hge : (900 : Int32) ≤ l1 := by obtain ⟨k9, h9, h8⟩ := hinv; rw [h9, show k9 = 900 by omega]; decide
    refine lv_iload_n hx hb dX9_takeNumber_7 rfl (lv_at hl 1 rfl) ?_
    refine lv_sipush (v := 900) hx hb dX9_takeNumber_8 (by decide) ?_
    refine lv_icmp_ge (tgt := 67) hx hb dX9_takeNumber_11 (by decide) (fun _ => ?_) (fun c9 => absurd hge c9)
    exact j_X9_takeNumber_67 l dC dI h0 qt qw kt kw t2 t4 t5 t7 ft fw hx hb hr hml hown hts hlocks hZ hA hK w0_3 w0_6 _ _ _ hP hD hS (lv_sub hl [0] rfl)
  | succ n9 ih =>
    intro w0_3 w0_6 l1 H locs ls hinv hP hD hS hl
    have hge : ¬ (900 : Int32) ≤ l1 := by obtain ⟨k9, h9, h8⟩ := hinv; rw [h9]; exact nI_ge (a := k9) (b := 900) (by omega) (by decide)
    refine lv_iload_n hx hb dX9_takeNumber_7 rfl (lv_at hl 1 rfl) ?_
    refine lv_sipush (v := 900) hx hb dX9_takeNumber_8 (by decide) ?_
    refine lv_icmp_ge (tgt := 67) hx hb dX9_takeNumber_11 (by decide) (fun c9 => absurd c9 hge) (fun _ => ?_)
    refine lv_aload_n hx hb dX9_takeNumber_14 rfl (lv_at hl 0 rfl) ?_
    refine lv_aload_n hx hb dX9_takeNumber_15 rfl (lv_at hl 0 rfl) ?_
    refine va_get (D := (dC, dI)) (ci := 8) (v := .int w0_3) (C := RX9) (T := TX9) (N := 8) hx hb hts i_X9_takeNumber_X9 hown hK hP 0 rfl rfl 3 (by decide) (hts (.fieldLink RX9 34 "StatementRules2$Tokens" "next" "I") k_X9_takeNumber_fieldLink_RX9_34_SR_Tokens_next_I) (fun _ h9 => h9) rfl dX9_takeNumber_16 ?_
    have hPc := hP.sub (ws' := [(h0, .inr (8, [.ref qt, .ref qw, .int t2, .int w0_3, .int t4, .int t5, .int w0_6, .long t7])), (qt, .inl (kt, 900, .inl ft))]) [0, 1] rfl
    have hDc := hD.sub (ws' := [(h0, .inr (8, [.ref qt, .ref qw, .int t2, .int w0_3, .int t4, .int t5, .int w0_6, .long t7])), (qt, .inl (kt, 900, .inl ft))]) [0, 1] (by decide) rfl
    have hKc := hK.sub (tys' := [(kt, .int)]) [0] rfl
    have hFc := va_free (wc := [(h0, .inr (8, [.ref qt, .ref qw, .int t2, .int w0_3, .int t4, .int t5, .int w0_6, .long t7])), (qt, .inl (kt, 900, .inl ft))]) hD hS hA [0, 1] rfl
    refine va_calli (va_runV (As := [.int w0_3]) (rest := []) ⟨hx, hb, hml, hown, hts⟩ (c_X9_byteAt l dC dI _ h0 w0_3 t2 w0_3 t4 t5 w0_6 t7 qw qt kt ft) (cwV 1 hts hX9_takeNumber_X9_byteAt_v43 rfl rfl rfl (by decide +kernel) ⟨Nat.le_of_ble_eq_true rfl, Nat.le_of_ble_eq_true rfl⟩) ⟨zPre.blind, va_recv hKc hPc (ci := 8) (q0 := 0) rfl rfl, zPre.go hZ hPc hKc hDc⟩ rfl rfl hl.1 rfl (lv_room (Nat.le_of_ble_eq_true rfl)) dX9_takeNumber_19 ⟨Nat.le_of_ble_eq_true rfl, Nat.le_of_ble_eq_true rfl⟩) hS (fun q _ h => hFc q h) hFc (fun r3 u9 t9 H1 locs ht hvm hw hB hz1 hk1 hS => ?_)
    obtain ⟨hP1, hK1, hD1⟩ := hB
    rw [ht] at hP1
    have hK1 := va_K.moved hvm.symm hK1
    obtain ⟨hP, hD⟩ := va_join (wr := [(qw, .inl (kw, 25, .inr (.inl fw)))]) (w1 := [(h0, .inr (8, [.ref qt, .ref qw, .int t2, .int w0_3, .int t4, .int t5, .int w0_6, .long t7])), (qt, .inl (kt, 900, .inl ft))]) hP hD [0, 1] [2] rfl rfl (by decide) (by decide) hk1 hFc hP1 hD1
    have hK := hK.app hK1
    generalize H1 = H at hP hS ⊢
    have hP : va_P (dC, dI) vwCl [(qw, .inl (kw, 25, .inr (.inl fw))), (h0, .inr (8, [.ref qt, .ref qw, .int t2, .int w0_3, .int t4, .int t5, .int w0_6, .long t7])), (qt, .inl (kt, 900, .inl ft))] H := hP
    have hD : va_D A [(qw, .inl (kw, 25, .inr (.inl fw))), (h0, .inr (8, [.ref qt, .ref qw, .int t2, .int w0_3, .int t4, .int t5, .int w0_6, .long t7])), (qt, .inl (kt, 900, .inl ft))] := hD
    have hK : va_K (dC, dI) vwCl [(kt, .int), (kw, .long), (kt, .int)] s := hK
    have hK : va_K (dC, dI) vwCl [(kt, .int), (kw, .long)] s := hK.sub [0, 1] rfl
    have hPc := hP.sub (ws' := []) [] rfl
    have hDc := hD.sub (ws' := []) [] (by decide) rfl
    have hKc := hK.sub (tys' := []) [] rfl
    have hFc := va_free (wc := []) hD hS hA [] rfl
    refine va_calli (va_runS (As := [.int r3]) (rest := []) ⟨hx, hb, hml, hown, hts⟩ (c_X9_isDigit l dC dI _ r3) (va_cwS 1 hts hX9_takeNumber_X9_isDigit_s50 rfl rfl rfl (by decide +kernel) ⟨Nat.le_of_ble_eq_true rfl, Nat.le_of_ble_eq_true rfl⟩) ⟨zPre.blind, zPre.go hZ hPc hKc hDc⟩ rfl rfl hl.1 rfl (lv_room (Nat.le_of_ble_eq_true rfl)) dX9_takeNumber_22 ⟨Nat.le_of_ble_eq_true rfl, Nat.le_of_ble_eq_true rfl⟩) hS (fun q _ h => hFc q h) hFc (fun r4 u9 t9 H1 locs ht hvm hw hB hz1 hk1 hS => ?_)
    obtain ⟨hP1, hK1, hD1⟩ := hB
    rw [ht] at hP1
    have hK1 := va_K.moved hvm.symm hK1
    obtain ⟨hP, hD⟩ := va_join (wr := [(qw, .inl (kw, 25, .inr (.inl fw))), (h0, .inr (8, [.ref qt, .ref qw, .int t2, .int w0_3, .int t4, .int t5, .int w0_6, .long t7])), (qt, .inl (kt, 900, .inl ft))]) (w1 := []) hP hD [] [0, 1, 2] rfl rfl (by decide) (by decide) hk1 hFc hP1 hD1
    have hK := hK.app hK1
    generalize H1 = H at hP hS ⊢
    have hP : va_P (dC, dI) vwCl [(qw, .inl (kw, 25, .inr (.inl fw))), (h0, .inr (8, [.ref qt, .ref qw, .int t2, .int w0_3, .int t4, .int t5, .int w0_6, .long t7])), (qt, .inl (kt, 900, .inl ft))] H := hP
    have hD : va_D A [(qw, .inl (kw, 25, .inr (.inl fw))), (h0, .inr (8, [.ref qt, .ref qw, .int t2, .int w0_3, .int t4, .int t5, .int w0_6, .long t7])), (qt, .inl (kt, 900, .inl ft))] := hD
    have hK : va_K (dC, dI) vwCl [(kt, .int), (kw, .long)] s := hK
    refine lv_if_eq (tgt := 67) hx hb dX9_takeNumber_25 (by decide) (fun c5 => ?_) (fun c5 => ?_)
    ·
      have hP := hP.sub (ws' := [(h0, .inr (8, [.ref qt, .ref qw, .int t2, .int w0_3, .int t4, .int t5, .int w0_6, .long t7])), (qt, .inl (kt, 900, .inl ft)), (qw, .inl (kw, 25, .inr (.inl fw)))]) [1, 2, 0] rfl
      have hD := hD.sub (ws' := [(h0, .inr (8, [.ref qt, .ref qw, .int t2, .int w0_3, .int t4, .int t5, .int w0_6, .long t7])), (qt, .inl (kt, 900, .inl ft)), (qw, .inl (kw, 25, .inr (.inl fw)))]) [1, 2, 0] (by decide) rfl
      exact j_X9_takeNumber_67 l dC dI h0 qt qw kt kw t2 t4 t5 t7 ft fw hx hb hr hml hown hts hlocks hZ hA hK w0_3 w0_6 _ _ _ hP hD hS (lv_sub hl [0] rfl)
    ·
      refine lv_aload_n hx hb dX9_takeNumber_28 rfl (lv_at hl 0 rfl) ?_
      refine lv_aload_n hx hb dX9_takeNumber_29 rfl (lv_at hl 0 rfl) ?_
      refine va_get (D := (dC, dI)) (ci := 8) (v := .int w0_6) (C := RX9) (T := TX9) (N := 8) hx hb hts i_X9_takeNumber_X9 hown hK hP 1 rfl rfl 6 (by decide) (hts (.fieldLink RX9 66 "StatementRules2$Tokens" "value" "I") k_X9_takeNumber_fieldLink_RX9_66_SR_Tokens_value_I) (fun _ h9 => h9) rfl dX9_takeNumber_30 ?_
      refine lv_bipush (v := 10) hx hb dX9_takeNumber_33 (by decide) ?_
      refine lv_imul hx hb dX9_takeNumber_35 ?_
      refine lv_topi (fun z6 ez6 => ?_)
      refine lv_aload_n hx hb dX9_takeNumber_36 rfl (lv_at hl 0 rfl) ?_
      refine lv_aload_n hx hb dX9_takeNumber_37 rfl (lv_at hl 0 rfl) ?_
      refine va_get (D := (dC, dI)) (ci := 8) (v := .int w0_3) (C := RX9) (T := TX9) (N := 8) hx hb hts i_X9_takeNumber_X9 hown hK hP 1 rfl rfl 3 (by decide) (hts (.fieldLink RX9 34 "StatementRules2$Tokens" "next" "I") k_X9_takeNumber_fieldLink_RX9_34_SR_Tokens_next_I) (fun _ h9 => h9) rfl dX9_takeNumber_38 ?_
      have hPc := hP.sub (ws' := [(h0, .inr (8, [.ref qt, .ref qw, .int t2, .int w0_3, .int t4, .int t5, .int w0_6, .long t7])), (qt, .inl (kt, 900, .inl ft))]) [1, 2] rfl
      have hDc := hD.sub (ws' := [(h0, .inr (8, [.ref qt, .ref qw, .int t2, .int w0_3, .int t4, .int t5, .int w0_6, .long t7])), (qt, .inl (kt, 900, .inl ft))]) [1, 2] (by decide) rfl
      have hKc := hK.sub (tys' := [(kt, .int)]) [0] rfl
      have hFc := va_free (wc := [(h0, .inr (8, [.ref qt, .ref qw, .int t2, .int w0_3, .int t4, .int t5, .int w0_6, .long t7])), (qt, .inl (kt, 900, .inl ft))]) hD hS hA [1, 2] rfl
      refine va_calli (va_runV (As := [.int w0_3]) (rest := [.int z6, .ref h0]) ⟨hx, hb, hml, hown, hts⟩ (c_X9_byteAt l dC dI _ h0 w0_3 t2 w0_3 t4 t5 w0_6 t7 qw qt kt ft) (cwV 1 hts hX9_takeNumber_X9_byteAt_v43 rfl rfl rfl (by decide +kernel) ⟨Nat.le_of_ble_eq_true rfl, Nat.le_of_ble_eq_true rfl⟩) ⟨zPre.blind, va_recv hKc hPc (ci := 8) (q0 := 0) rfl rfl, zPre.go hZ hPc hKc hDc⟩ rfl rfl hl.1 rfl (lv_room (Nat.le_of_ble_eq_true rfl)) dX9_takeNumber_41 ⟨Nat.le_of_ble_eq_true rfl, Nat.le_of_ble_eq_true rfl⟩) hS (fun q _ h => hFc q h) hFc (fun r7 u9 t9 H1 locs ht hvm hw hB hz1 hk1 hS => ?_)
      obtain ⟨hP1, hK1, hD1⟩ := hB
      rw [ht] at hP1
      have hK1 := va_K.moved hvm.symm hK1
      obtain ⟨hP, hD⟩ := va_join (wr := [(qw, .inl (kw, 25, .inr (.inl fw)))]) (w1 := [(h0, .inr (8, [.ref qt, .ref qw, .int t2, .int w0_3, .int t4, .int t5, .int w0_6, .long t7])), (qt, .inl (kt, 900, .inl ft))]) hP hD [1, 2] [0] rfl rfl (by decide) (by decide) hk1 hFc hP1 hD1
      have hK := hK.app hK1
      generalize H1 = H at hP hS ⊢
      have hP : va_P (dC, dI) vwCl [(qw, .inl (kw, 25, .inr (.inl fw))), (h0, .inr (8, [.ref qt, .ref qw, .int t2, .int w0_3, .int t4, .int t5, .int w0_6, .long t7])), (qt, .inl (kt, 900, .inl ft))] H := hP
      have hD : va_D A [(qw, .inl (kw, 25, .inr (.inl fw))), (h0, .inr (8, [.ref qt, .ref qw, .int t2, .int w0_3, .int t4, .int t5, .int w0_6, .long t7])), (qt, .inl (kt, 900, .inl ft))] := hD
      have hK : va_K (dC, dI) vwCl [(kt, .int), (kw, .long), (kt, .int)] s := hK
      have hK : va_K (dC, dI) vwCl [(kt, .int), (kw, .long)] s := hK.sub [0, 1] rfl
      refine lv_iadd hx hb dX9_takeNumber_44 ?_
      refine lv_topi (fun z8 ez8 => ?_)
      refine lv_bipush (v := 48) hx hb dX9_takeNumber_45 (by decide) ?_
      refine lv_isub hx hb dX9_takeNumber_47 ?_
      refine lv_topi (fun z9 ez9 => ?_)
      refine va_put (D := (dC, dI)) (ci := 8) (v := .int z9) (ty := .int) (C := RX9) (T := TX9) (N := 8) hx hb hts i_X9_takeNumber_X9 tyX9 tyX9_ok nmX9 hown hK hP hD hS 1 rfl rfl 6 (by decide) (hts (.fieldLink RX9 66 "StatementRules2$Tokens" "value" "I") k_X9_takeNumber_fieldLink_RX9_66_SR_Tokens_value_I) (fun _ h9 => h9) rfl (by decide +kernel) rfl rfl (Nat.le_of_ble_eq_true rfl) dX9_takeNumber_48 (fun H locs hP hD hS => ?_)
      have hP : va_P (dC, dI) vwCl [(qw, .inl (kw, 25, .inr (.inl fw))), (h0, .inr (8, [.ref qt, .ref qw, .int t2, .int w0_3, .int t4, .int t5, .int z9, .long t7])), (qt, .inl (kt, 900, .inl ft))] H := hP
      have hD : va_D A [(qw, .inl (kw, 25, .inr (.inl fw))), (h0, .inr (8, [.ref qt, .ref qw, .int t2, .int w0_3, .int t4, .int t5, .int z9, .long t7])), (qt, .inl (kt, 900, .inl ft))] := hD
      refine lv_aload_n hx hb dX9_takeNumber_51 rfl (lv_at hl 0 rfl) ?_
      refine lv_dup hx hb dX9_takeNumber_52 rfl ?_
      refine va_get (D := (dC, dI)) (ci := 8) (v := .int w0_3) (C := RX9) (T := TX9) (N := 8) hx hb hts i_X9_takeNumber_X9 hown hK hP 1 rfl rfl 3 (by decide) (hts (.fieldLink RX9 34 "StatementRules2$Tokens" "next" "I") k_X9_takeNumber_fieldLink_RX9_34_SR_Tokens_next_I) (fun _ h9 => h9) rfl dX9_takeNumber_53 ?_
      refine lv_iconst (v := 1) hx hb dX9_takeNumber_56 (by decide) ?_
      refine lv_iadd hx hb dX9_takeNumber_57 ?_
      refine lv_topi (fun z10 ez10 => ?_)
      refine va_put (D := (dC, dI)) (ci := 8) (v := .int z10) (ty := .int) (C := RX9) (T := TX9) (N := 8) hx hb hts i_X9_takeNumber_X9 tyX9 tyX9_ok nmX9 hown hK hP hD hS 1 rfl rfl 3 (by decide) (hts (.fieldLink RX9 34 "StatementRules2$Tokens" "next" "I") k_X9_takeNumber_fieldLink_RX9_34_SR_Tokens_next_I) (fun _ h9 => h9) rfl (by decide +kernel) rfl rfl (Nat.le_of_ble_eq_true rfl) dX9_takeNumber_58 (fun H locs hP hD hS => ?_)
      have hP : va_P (dC, dI) vwCl [(qw, .inl (kw, 25, .inr (.inl fw))), (h0, .inr (8, [.ref qt, .ref qw, .int t2, .int z10, .int t4, .int t5, .int z9, .long t7])), (qt, .inl (kt, 900, .inl ft))] H := hP
      have hD : va_D A [(qw, .inl (kw, 25, .inr (.inl fw))), (h0, .inr (8, [.ref qt, .ref qw, .int t2, .int z10, .int t4, .int t5, .int z9, .long t7])), (qt, .inl (kt, 900, .inl ft))] := hD
      obtain ⟨z11, ez11⟩ : ∃ y : Int32, y = l1 + Int32.ofInt (1) := ⟨_, rfl⟩
      refine lv_iinc (v := z11) (lv' := [(1, .int z11), (0, .ref h0)]) hx hb dX9_takeNumber_61 hl (k := 1) rfl (ez11.symm) (by decide) rfl (fun ls hl => ?_)
      refine lv_goto (tgt := 7) hx hb dX9_takeNumber_64 (by decide) ?_
      have hP := hP.sub (ws' := [(h0, .inr (8, [.ref qt, .ref qw, .int t2, .int z10, .int t4, .int t5, .int z9, .long t7])), (qt, .inl (kt, 900, .inl ft)), (qw, .inl (kw, 25, .inr (.inl fw)))]) [1, 2, 0] rfl
      have hD := hD.sub (ws' := [(h0, .inr (8, [.ref qt, .ref qw, .int t2, .int z10, .int t4, .int t5, .int z9, .long t7])), (qt, .inl (kt, 900, .inl ft)), (qw, .inl (kw, 25, .inr (.inl fw)))]) [1, 2, 0] (by decide) rfl
      exact ih z10 z9 z11 _ _ _ (by obtain ⟨k9, h9, h8⟩ := hinv; exact ⟨k9 + 1, by rw [ez11, h9]; exact nI_1 k9, by omega⟩) hP hD hS (lv_sub hl [1, 0] rfl)
set_option maxHeartbeats 4000000 in
set_option maxRecDepth 100000 in
theorem c_X9_takeNumber (l : Launch) (dC : Nat → ClassId) (dI : Nat → Nat → Nat) (sz : Nat) (h0 : Nat) (t2 : Int32) (t3 : Int32) (t4 : Int32) (t5 : Int32) (t6 : Int32) (t7 : Int64) (qt : Nat) (kt : ClassId) (ft : Nat → Int32) (qw : Nat) (kw : ClassId) (fw : Nat → Int64) : Met l yX9_takeNumber wzX9_takeNumber ({ frames := 2, cells := 0, slots := 0, locals := 120 }) (va_Pc [.ref h0] (zPre dC dI sz [(h0, .inr (8, [.ref qt, .ref qw, .int t2, .int t3, .int t4, .int t5, .int t6, .long t7])), (qt, .inl (kt, 900, .inl ft)), (qw, .inl (kw, 25, .inr (.inl fw)))] [(kt, .int), (kw, .long)])) (va_Qv (fun (_ : Unit) => True) (fun (_ : Unit) (t : State) => ∃ (u2 : Int32), ∃ (u3 : Int32), ∃ (u4 : Int32), ∃ (u5 : Int32), ∃ (u6 : Int32), ∃ (u7 : Int64), zPost dC dI (va_A [(h0, .inr (8, [.ref qt, .ref qw, .int t2, .int t3, .int t4, .int t5, .int t6, .long t7])), (qt, .inl (kt, 900, .inl ft)), (qw, .inl (kw, 25, .inr (.inl fw)))] sz) [(h0, .inr (8, [.ref qt, .ref qw, .int u2, .int u3, .int u4, .int u5, .int u6, .long u7])), (qt, .inl (kt, 900, .inl ft)), (qw, .inl (kw, 25, .inr (.inl fw)))] [(kt, .int), (kw, .long)] t) (va_A [(h0, .inr (8, [.ref qt, .ref qw, .int t2, .int t3, .int t4, .int t5, .int t6, .long t7])), (qt, .inl (kt, 900, .inl ft)), (qw, .inl (kw, 25, .inr (.inl fw)))] sz)) 0 0 (va_A [(h0, .inr (8, [.ref qt, .ref qw, .int t2, .int t3, .int t4, .int t5, .int t6, .long t7])), (qt, .inl (kt, 900, .inl ft)), (qw, .inl (kw, 25, .inr (.inl fw)))] sz) := by
  refine Met.ofW (cc := cX9_takeNumber) (maxL := 2) (ret := none) (by decide) rfl ?_
  intro p e s m args below meth c s₁ B hml hv
  obtain ⟨rfl, hsz, hZ, hP, hK, hD0⟩ := hv
  have hx := B.exec
  have hb := B.bytes
  have hr := B.returns
  have hts := atoms_spec (ws := wzX9_takeNumber) B.pre
  have hown : s.vm.findClass RX9 = some m.cls := findClass_of_methodNamed B.named
  have hlocks := B.notSynchronized
  subst hsz
  have hD := hD0.self (sz := s.heap.size)
  generalize hAe : va_A [(h0, .inr (8, [.ref qt, .ref qw, .int t2, .int t3, .int t4, .int t5, .int t6, .long t7])), (qt, .inl (kt, 900, .inl ft)), (qw, .inl (kw, 25, .inr (.inl fw)))] s.heap.size = A at hD ⊢
  have hA : ∀ q : Nat, s.heap.size ≤ q → A q := fun q h => by rw [← hAe]; exact Or.inr h
  have hS : va_S A s.heap s.heap [] := va_S.rf
  have hP : va_P (dC, dI) vwCl [(h0, .inr (8, [.ref qt, .ref qw, .int t2, .int t3, .int t4, .int t5, .int t6, .long t7])), (qt, .inl (kt, 900, .inl ft)), (qw, .inl (kw, 25, .inr (.inl fw)))] s.heap := hP
  have hl := lv_entry ([.ref h0]) (n := 2) (Nat.le_of_ble_eq_true rfl)
  rw [lg_entry_eq]
  generalize (lg_sl ([.ref h0]) ++ List.replicate (2 - (lg_sl ([.ref h0])).length) Slot.unset).toArray = ls at hl ⊢
  have hl : lv_has ls 2 [(0, .ref h0)] := hl
  refine lv_aload_n hx hb dX9_takeNumber_0 rfl (lv_at hl 0 rfl) ?_
  refine lv_iconst (v := 0) hx hb dX9_takeNumber_1 (by decide) ?_
  refine va_put (D := (dC, dI)) (ci := 8) (v := .int 0) (ty := .int) (C := RX9) (T := TX9) (N := 8) hx hb hts i_X9_takeNumber_X9 tyX9 tyX9_ok nmX9 hown hK hP hD hS 0 rfl rfl 6 (by decide) (hts (.fieldLink RX9 66 "StatementRules2$Tokens" "value" "I") k_X9_takeNumber_fieldLink_RX9_66_SR_Tokens_value_I) (fun _ h9 => h9) rfl (by decide +kernel) rfl rfl (Nat.le_of_ble_eq_true rfl) dX9_takeNumber_2 (fun H locs hP hD hS => ?_)
  have hP : va_P (dC, dI) vwCl [(h0, .inr (8, [.ref qt, .ref qw, .int t2, .int t3, .int t4, .int t5, .int 0, .long t7])), (qt, .inl (kt, 900, .inl ft)), (qw, .inl (kw, 25, .inr (.inl fw)))] H := hP
  have hD : va_D A [(h0, .inr (8, [.ref qt, .ref qw, .int t2, .int t3, .int t4, .int t5, .int 0, .long t7])), (qt, .inl (kt, 900, .inl ft)), (qw, .inl (kw, 25, .inr (.inl fw)))] := hD
  refine lv_iconst (v := 0) hx hb dX9_takeNumber_5 (by decide) ?_
  refine lv_istore_n (lv' := [(1, .int 0), (0, .ref h0)]) hx hb dX9_takeNumber_6 rfl hl (by decide) rfl (fun ls hl => ?_)
  exact j_X9_takeNumber_7 l dC dI h0 qt qw kt kw t2 t4 t5 t7 ft fw hx hb hr hml hown hts hlocks hZ hA hK 900 t3 0 0 _ _ _ ⟨0, nI_0.symm, rfl⟩ hP hD hS (lv_sub hl [1, 0] rfl)
