theorem k_X9_advance_fieldLink_RX9_34_SR_Tokens_next_I : Cond.fieldLink RX9 34 "StatementRules2$Tokens" "next" "I" ∈ wzX9_advance := List.mem_cons_of_mem _ (List.mem_append_left _ (List.mem_of_getElem? (i := 0) rfl))
theorem i_X9_advance_X9 : ∀ w ∈ wsX90, w ∈ wzX9_advance := fun _ h => List.mem_cons_of_mem _ (List.mem_append_right _ (List.mem_append_left _ (h)))
theorem k_X9_advance_fieldLink_RX9_47_SR_Tokens_place_I : Cond.fieldLink RX9 47 "StatementRules2$Tokens" "place" "I" ∈ wzX9_advance := List.mem_cons_of_mem _ (List.mem_append_left _ (List.mem_of_getElem? (i := 1) rfl))
theorem k_X9_advance_fieldLink_RX9_31_SR_Tokens_length_I : Cond.fieldLink RX9 31 "StatementRules2$Tokens" "length" "I" ∈ wzX9_advance := List.mem_cons_of_mem _ (List.mem_append_left _ (List.mem_of_getElem? (i := 2) rfl))
theorem k_X9_advance_fieldLink_RX9_40_SR_Tokens_type_I : Cond.fieldLink RX9 40 "StatementRules2$Tokens" "type" "I" ∈ wzX9_advance := List.mem_cons_of_mem _ (List.mem_append_left _ (List.mem_of_getElem? (i := 3) rfl))
set_option maxHeartbeats 4000000 in
set_option maxRecDepth 100000 in
theorem j_X9_advance_51 {p : Program} {e : Env} {s : State} {m : MethodId} {args : Array Value} {below : List Frame} {meth : Method} {c : Code} {A : Nat → Prop} (l : Launch) (dC : Nat → ClassId) (dI : Nat → Nat → Nat) (h0 : Nat) (qt : Nat) (qw : Nat) (kt : ClassId) (kw : ClassId) (t2 : Int32) (t4 : Int32) (t5 : Int32) (t6 : Int32) (t7 : Int64) (ft : Nat → Int32) (fw : Nat → Int64) (hx : p.tables.exec = Jvm.exec) (hb : c.code = cX9_advance) (hr : meth.sig.returnType = none) (hml : c.maxLocals = 2) (hown : s.vm.findClass RX9 = some m.cls) (hts : ∀ w ∈ wzX9_advance, w.before args s = true) (hlocks : meth.locks = false) (hZ : zAMB s) (hA : ∀ q : Nat, s.heap.size ≤ q → A q) (hK : va_K (dC, dI) vwCl [(kt, .int), (kw, .long)] s) : ∀ (w0_3 : Int32) (H : Heap) (locs : List Loc) (ls : Array Slot), va_P (dC, dI) vwCl [(h0, .inr (8, [.ref qt, .ref qw, .int t2, .int w0_3, .int t4, .int t5, .int t6, .long t7])), (qt, .inl (kt, 900, .inl ft)), (qw, .inl (kw, 25, .inr (.inl fw)))] H → va_D A [(h0, .inr (8, [.ref qt, .ref qw, .int t2, .int w0_3, .int t4, .int t5, .int t6, .long t7])), (qt, .inl (kt, 900, .inl ft)), (qw, .inl (kw, 25, .inr (.inl fw)))] → va_S A s.heap H locs → lv_has ls 2 [(0, .ref h0)] → W p l e ({ frames := 3, cells := 0, slots := 0, locals := 180 }) s m args below meth c H locs 0 0 (MQ below (va_Qv (fun (_ : Unit) => True) (fun (_ : Unit) (t : State) => ∃ (u2 : Int32), ∃ (u3 : Int32), ∃ (u4 : Int32), ∃ (u5 : Int32), ∃ (u6 : Int32), ∃ (u7 : Int64), zPost dC dI A [(h0, .inr (8, [.ref qt, .ref qw, .int u2, .int u3, .int u4, .int u5, .int u6, .long u7])), (qt, .inl (kt, 900, .inl ft)), (qw, .inl (kw, 25, .inr (.inl fw)))] [(kt, .int), (kw, .long)] t) A) args s 0 0 A) (F0 m 51 ls []) := by
  intro w0_3 H locs ls hP hD hS hl
  refine lv_aload_n hx hb dX9_advance_51 rfl (lv_at hl 0 rfl) ?_
  refine lv_aload_n hx hb dX9_advance_52 rfl (lv_at hl 0 rfl) ?_
  refine va_get (D := (dC, dI)) (ci := 8) (v := .int w0_3) (C := RX9) (T := TX9) (N := 8) hx hb hts i_X9_advance_X9 hown hK hP 0 rfl rfl 3 (by decide) (hts (.fieldLink RX9 34 "StatementRules2$Tokens" "next" "I") k_X9_advance_fieldLink_RX9_34_SR_Tokens_next_I) (fun _ h9 => h9) rfl dX9_advance_53 ?_
  refine va_put (D := (dC, dI)) (ci := 8) (v := .int w0_3) (ty := .int) (C := RX9) (T := TX9) (N := 8) hx hb hts i_X9_advance_X9 tyX9 tyX9_ok nmX9 hown hK hP hD hS 0 rfl rfl 5 (by decide) (hts (.fieldLink RX9 47 "StatementRules2$Tokens" "place" "I") k_X9_advance_fieldLink_RX9_47_SR_Tokens_place_I) (fun _ h9 => h9) rfl (by decide +kernel) rfl rfl (Nat.le_of_ble_eq_true rfl) dX9_advance_56 (fun H locs hP hD hS => ?_)
  have hP : va_P (dC, dI) vwCl [(h0, .inr (8, [.ref qt, .ref qw, .int t2, .int w0_3, .int t4, .int w0_3, .int t6, .long t7])), (qt, .inl (kt, 900, .inl ft)), (qw, .inl (kw, 25, .inr (.inl fw)))] H := hP
  have hD : va_D A [(h0, .inr (8, [.ref qt, .ref qw, .int t2, .int w0_3, .int t4, .int w0_3, .int t6, .long t7])), (qt, .inl (kt, 900, .inl ft)), (qw, .inl (kw, 25, .inr (.inl fw)))] := hD
  refine lv_aload_n hx hb dX9_advance_59 rfl (lv_at hl 0 rfl) ?_
  refine va_get (D := (dC, dI)) (ci := 8) (v := .int w0_3) (C := RX9) (T := TX9) (N := 8) hx hb hts i_X9_advance_X9 hown hK hP 0 rfl rfl 3 (by decide) (hts (.fieldLink RX9 34 "StatementRules2$Tokens" "next" "I") k_X9_advance_fieldLink_RX9_34_SR_Tokens_next_I) (fun _ h9 => h9) rfl dX9_advance_60 ?_
  refine lv_aload_n hx hb dX9_advance_63 rfl (lv_at hl 0 rfl) ?_
  refine va_get (D := (dC, dI)) (ci := 8) (v := .int t2) (C := RX9) (T := TX9) (N := 8) hx hb hts i_X9_advance_X9 hown hK hP 0 rfl rfl 2 (by decide) (hts (.fieldLink RX9 31 "StatementRules2$Tokens" "length" "I") k_X9_advance_fieldLink_RX9_31_SR_Tokens_length_I) (fun _ h9 => h9) rfl dX9_advance_64 ?_
  refine lv_icmp_lt (tgt := 78) hx hb dX9_advance_67 (by decide) (fun c1 => ?_) (fun c1 => ?_)
  ·
    refine lv_aload_n hx hb dX9_advance_78 rfl (lv_at hl 0 rfl) ?_
    refine lv_aload_n hx hb dX9_advance_79 rfl (lv_at hl 0 rfl) ?_
    refine va_get (D := (dC, dI)) (ci := 8) (v := .int w0_3) (C := RX9) (T := TX9) (N := 8) hx hb hts i_X9_advance_X9 hown hK hP 0 rfl rfl 3 (by decide) (hts (.fieldLink RX9 34 "StatementRules2$Tokens" "next" "I") k_X9_advance_fieldLink_RX9_34_SR_Tokens_next_I) (fun _ h9 => h9) rfl dX9_advance_80 ?_
    have hPc := hP.sub (ws' := [(h0, .inr (8, [.ref qt, .ref qw, .int t2, .int w0_3, .int t4, .int w0_3, .int t6, .long t7])), (qt, .inl (kt, 900, .inl ft))]) [0, 1] rfl
    have hDc := hD.sub (ws' := [(h0, .inr (8, [.ref qt, .ref qw, .int t2, .int w0_3, .int t4, .int w0_3, .int t6, .long t7])), (qt, .inl (kt, 900, .inl ft))]) [0, 1] (by decide) rfl
    have hKc := hK.sub (tys' := [(kt, .int)]) [0] rfl
    have hFc := va_free (wc := [(h0, .inr (8, [.ref qt, .ref qw, .int t2, .int w0_3, .int t4, .int w0_3, .int t6, .long t7])), (qt, .inl (kt, 900, .inl ft))]) hD hS hA [0, 1] rfl
    refine va_calli (va_runV (As := [.int w0_3]) (rest := []) ⟨hx, hb, hml, hown, hts⟩ (c_X9_byteAt l dC dI _ h0 w0_3 t2 w0_3 t4 w0_3 t6 t7 qw qt kt ft) (cwV 1 hts hX9_advance_X9_byteAt_v43 rfl rfl rfl (by decide +kernel) ⟨Nat.le_of_ble_eq_true rfl, Nat.le_of_ble_eq_true rfl⟩) ⟨zPre.blind, va_recv hKc hPc (ci := 8) (q0 := 0) rfl rfl, zPre.go hZ hPc hKc hDc⟩ rfl rfl hl.1 rfl (lv_room (Nat.le_of_ble_eq_true rfl)) dX9_advance_83 ⟨Nat.le_of_ble_eq_true rfl, Nat.le_of_ble_eq_true rfl⟩) hS (fun q _ h => hFc q h) hFc (fun r2 u9 t9 H1 locs ht hvm hw hB hz1 hk1 hS => ?_)
    obtain ⟨hP1, hK1, hD1⟩ := hB
    rw [ht] at hP1
    have hK1 := va_K.moved hvm.symm hK1
    obtain ⟨hP, hD⟩ := va_join (wr := [(qw, .inl (kw, 25, .inr (.inl fw)))]) (w1 := [(h0, .inr (8, [.ref qt, .ref qw, .int t2, .int w0_3, .int t4, .int w0_3, .int t6, .long t7])), (qt, .inl (kt, 900, .inl ft))]) hP hD [0, 1] [2] rfl rfl (by decide) (by decide) hk1 hFc hP1 hD1
    have hK := hK.app hK1
    generalize H1 = H at hP hS ⊢
    have hP : va_P (dC, dI) vwCl [(qw, .inl (kw, 25, .inr (.inl fw))), (h0, .inr (8, [.ref qt, .ref qw, .int t2, .int w0_3, .int t4, .int w0_3, .int t6, .long t7])), (qt, .inl (kt, 900, .inl ft))] H := hP
    have hD : va_D A [(qw, .inl (kw, 25, .inr (.inl fw))), (h0, .inr (8, [.ref qt, .ref qw, .int t2, .int w0_3, .int t4, .int w0_3, .int t6, .long t7])), (qt, .inl (kt, 900, .inl ft))] := hD
    have hK : va_K (dC, dI) vwCl [(kt, .int), (kw, .long), (kt, .int)] s := hK
    have hK : va_K (dC, dI) vwCl [(kt, .int), (kw, .long)] s := hK.sub [0, 1] rfl
    have hPc := hP.sub (ws' := []) [] rfl
    have hDc := hD.sub (ws' := []) [] (by decide) rfl
    have hKc := hK.sub (tys' := []) [] rfl
    have hFc := va_free (wc := []) hD hS hA [] rfl
    refine va_calli (va_runS (As := [.int r2]) (rest := []) ⟨hx, hb, hml, hown, hts⟩ (c_X9_isDigit l dC dI _ r2) (va_cwS 1 hts hX9_advance_X9_isDigit_s50 rfl rfl rfl (by decide +kernel) ⟨Nat.le_of_ble_eq_true rfl, Nat.le_of_ble_eq_true rfl⟩) ⟨zPre.blind, zPre.go hZ hPc hKc hDc⟩ rfl rfl hl.1 rfl (lv_room (Nat.le_of_ble_eq_true rfl)) dX9_advance_86 ⟨Nat.le_of_ble_eq_true rfl, Nat.le_of_ble_eq_true rfl⟩) hS (fun q _ h => hFc q h) hFc (fun r3 u9 t9 H1 locs ht hvm hw hB hz1 hk1 hS => ?_)
    obtain ⟨hP1, hK1, hD1⟩ := hB
    rw [ht] at hP1
    have hK1 := va_K.moved hvm.symm hK1
    obtain ⟨hP, hD⟩ := va_join (wr := [(qw, .inl (kw, 25, .inr (.inl fw))), (h0, .inr (8, [.ref qt, .ref qw, .int t2, .int w0_3, .int t4, .int w0_3, .int t6, .long t7])), (qt, .inl (kt, 900, .inl ft))]) (w1 := []) hP hD [] [0, 1, 2] rfl rfl (by decide) (by decide) hk1 hFc hP1 hD1
    have hK := hK.app hK1
    generalize H1 = H at hP hS ⊢
    have hP : va_P (dC, dI) vwCl [(qw, .inl (kw, 25, .inr (.inl fw))), (h0, .inr (8, [.ref qt, .ref qw, .int t2, .int w0_3, .int t4, .int w0_3, .int t6, .long t7])), (qt, .inl (kt, 900, .inl ft))] H := hP
    have hD : va_D A [(qw, .inl (kw, 25, .inr (.inl fw))), (h0, .inr (8, [.ref qt, .ref qw, .int t2, .int w0_3, .int t4, .int w0_3, .int t6, .long t7])), (qt, .inl (kt, 900, .inl ft))] := hD
    have hK : va_K (dC, dI) vwCl [(kt, .int), (kw, .long)] s := hK
    refine lv_if_eq (tgt := 99) hx hb dX9_advance_89 (by decide) (fun c4 => ?_) (fun c4 => ?_)
    ·
      refine lv_aload_n hx hb dX9_advance_99 rfl (lv_at hl 0 rfl) ?_
      refine lv_aload_n hx hb dX9_advance_100 rfl (lv_at hl 0 rfl) ?_
      refine va_get (D := (dC, dI)) (ci := 8) (v := .int w0_3) (C := RX9) (T := TX9) (N := 8) hx hb hts i_X9_advance_X9 hown hK hP 1 rfl rfl 3 (by decide) (hts (.fieldLink RX9 34 "StatementRules2$Tokens" "next" "I") k_X9_advance_fieldLink_RX9_34_SR_Tokens_next_I) (fun _ h9 => h9) rfl dX9_advance_101 ?_
      have hPc := hP.sub (ws' := [(h0, .inr (8, [.ref qt, .ref qw, .int t2, .int w0_3, .int t4, .int w0_3, .int t6, .long t7])), (qt, .inl (kt, 900, .inl ft))]) [1, 2] rfl
      have hDc := hD.sub (ws' := [(h0, .inr (8, [.ref qt, .ref qw, .int t2, .int w0_3, .int t4, .int w0_3, .int t6, .long t7])), (qt, .inl (kt, 900, .inl ft))]) [1, 2] (by decide) rfl
      have hKc := hK.sub (tys' := [(kt, .int)]) [0] rfl
      have hFc := va_free (wc := [(h0, .inr (8, [.ref qt, .ref qw, .int t2, .int w0_3, .int t4, .int w0_3, .int t6, .long t7])), (qt, .inl (kt, 900, .inl ft))]) hD hS hA [1, 2] rfl
      refine va_calli (va_runV (As := [.int w0_3]) (rest := []) ⟨hx, hb, hml, hown, hts⟩ (c_X9_byteAt l dC dI _ h0 w0_3 t2 w0_3 t4 w0_3 t6 t7 qw qt kt ft) (cwV 1 hts hX9_advance_X9_byteAt_v43 rfl rfl rfl (by decide +kernel) ⟨Nat.le_of_ble_eq_true rfl, Nat.le_of_ble_eq_true rfl⟩) ⟨zPre.blind, va_recv hKc hPc (ci := 8) (q0 := 0) rfl rfl, zPre.go hZ hPc hKc hDc⟩ rfl rfl hl.1 rfl (lv_room (Nat.le_of_ble_eq_true rfl)) dX9_advance_104 ⟨Nat.le_of_ble_eq_true rfl, Nat.le_of_ble_eq_true rfl⟩) hS (fun q _ h => hFc q h) hFc (fun r5 u9 t9 H1 locs ht hvm hw hB hz1 hk1 hS => ?_)
      obtain ⟨hP1, hK1, hD1⟩ := hB
      rw [ht] at hP1
      have hK1 := va_K.moved hvm.symm hK1
      obtain ⟨hP, hD⟩ := va_join (wr := [(qw, .inl (kw, 25, .inr (.inl fw)))]) (w1 := [(h0, .inr (8, [.ref qt, .ref qw, .int t2, .int w0_3, .int t4, .int w0_3, .int t6, .long t7])), (qt, .inl (kt, 900, .inl ft))]) hP hD [1, 2] [0] rfl rfl (by decide) (by decide) hk1 hFc hP1 hD1
      have hK := hK.app hK1
      generalize H1 = H at hP hS ⊢
      have hP : va_P (dC, dI) vwCl [(qw, .inl (kw, 25, .inr (.inl fw))), (h0, .inr (8, [.ref qt, .ref qw, .int t2, .int w0_3, .int t4, .int w0_3, .int t6, .long t7])), (qt, .inl (kt, 900, .inl ft))] H := hP
      have hD : va_D A [(qw, .inl (kw, 25, .inr (.inl fw))), (h0, .inr (8, [.ref qt, .ref qw, .int t2, .int w0_3, .int t4, .int w0_3, .int t6, .long t7])), (qt, .inl (kt, 900, .inl ft))] := hD
      have hK : va_K (dC, dI) vwCl [(kt, .int), (kw, .long), (kt, .int)] s := hK
      have hK : va_K (dC, dI) vwCl [(kt, .int), (kw, .long)] s := hK.sub [0, 1] rfl
      have hPc := hP.sub (ws' := []) [] rfl
      have hDc := hD.sub (ws' := []) [] (by decide) rfl
      have hKc := hK.sub (tys' := []) [] rfl
      have hFc := va_free (wc := []) hD hS hA [] rfl
      refine va_calli (va_runS (As := [.int r5]) (rest := []) ⟨hx, hb, hml, hown, hts⟩ (c_X9_isLetter l dC dI _ r5) (va_cwS 1 hts hX9_advance_X9_isLetter_s57 rfl rfl rfl (by decide +kernel) ⟨Nat.le_of_ble_eq_true rfl, Nat.le_of_ble_eq_true rfl⟩) ⟨zPre.blind, zPre.go hZ hPc hKc hDc⟩ rfl rfl hl.1 rfl (lv_room (Nat.le_of_ble_eq_true rfl)) dX9_advance_107 ⟨Nat.le_of_ble_eq_true rfl, Nat.le_of_ble_eq_true rfl⟩) hS (fun q _ h => hFc q h) hFc (fun r6 u9 t9 H1 locs ht hvm hw hB hz1 hk1 hS => ?_)
      obtain ⟨hP1, hK1, hD1⟩ := hB
      rw [ht] at hP1
      have hK1 := va_K.moved hvm.symm hK1
      obtain ⟨hP, hD⟩ := va_join (wr := [(qw, .inl (kw, 25, .inr (.inl fw))), (h0, .inr (8, [.ref qt, .ref qw, .int t2, .int w0_3, .int t4, .int w0_3, .int t6, .long t7])), (qt, .inl (kt, 900, .inl ft))]) (w1 := []) hP hD [] [0, 1, 2] rfl rfl (by decide) (by decide) hk1 hFc hP1 hD1
      have hK := hK.app hK1
      generalize H1 = H at hP hS ⊢
      have hP : va_P (dC, dI) vwCl [(qw, .inl (kw, 25, .inr (.inl fw))), (h0, .inr (8, [.ref qt, .ref qw, .int t2, .int w0_3, .int t4, .int w0_3, .int t6, .long t7])), (qt, .inl (kt, 900, .inl ft))] H := hP
      have hD : va_D A [(qw, .inl (kw, 25, .inr (.inl fw))), (h0, .inr (8, [.ref qt, .ref qw, .int t2, .int w0_3, .int t4, .int w0_3, .int t6, .long t7])), (qt, .inl (kt, 900, .inl ft))] := hD
      have hK : va_K (dC, dI) vwCl [(kt, .int), (kw, .long)] s := hK
      refine lv_if_eq (tgt := 120) hx hb dX9_advance_110 (by decide) (fun c7 => ?_) (fun c7 => ?_)
      ·
        refine lv_aload_n hx hb dX9_advance_120 rfl (lv_at hl 0 rfl) ?_
        have hPc := hP.sub (ws' := [(h0, .inr (8, [.ref qt, .ref qw, .int t2, .int w0_3, .int t4, .int w0_3, .int t6, .long t7])), (qt, .inl (kt, 900, .inl ft)), (qw, .inl (kw, 25, .inr (.inl fw)))]) [1, 2, 0] rfl
        have hDc := hD.sub (ws' := [(h0, .inr (8, [.ref qt, .ref qw, .int t2, .int w0_3, .int t4, .int w0_3, .int t6, .long t7])), (qt, .inl (kt, 900, .inl ft)), (qw, .inl (kw, 25, .inr (.inl fw)))]) [1, 2, 0] (by decide) rfl
        have hKc := hK.sub (tys' := [(kt, .int), (kw, .long)]) [0, 1] rfl
        have hFc := va_free (wc := [(h0, .inr (8, [.ref qt, .ref qw, .int t2, .int w0_3, .int t4, .int w0_3, .int t6, .long t7])), (qt, .inl (kt, 900, .inl ft)), (qw, .inl (kw, 25, .inr (.inl fw)))]) hD hS hA [1, 2, 0] rfl
        refine va_callv (va_runV (As := []) (rest := []) ⟨hx, hb, hml, hown, hts⟩ (c_X9_takeSign l dC dI _ h0 t2 w0_3 t4 w0_3 t6 t7 qt kt ft qw kw fw) (cwV 0 hts hX9_advance_X9_takeSign_v63 rfl rfl rfl (by decide +kernel) ⟨Nat.le_of_ble_eq_true rfl, Nat.le_of_ble_eq_true rfl⟩) ⟨zPre.blind, va_recv hKc hPc (ci := 8) (q0 := 0) rfl rfl, zPre.go hZ hPc hKc hDc⟩ rfl rfl hl.1 rfl (lv_room (Nat.le_of_ble_eq_true rfl)) dX9_advance_121 ⟨Nat.le_of_ble_eq_true rfl, Nat.le_of_ble_eq_true rfl⟩) hS (fun q _ h => hFc q h) hFc (fun u9 t9 H1 locs ht hvm hw hB hz1 hk1 hS => ?_)
        obtain ⟨u2_9, u3_10, u4_11, u5_12, u6_13, u7_14, hP1, hK1, hD1⟩ := hB
        rw [ht] at hP1
        have hK1 := va_K.moved hvm.symm hK1
        obtain ⟨hP, hD⟩ := va_join (wr := []) (w1 := [(h0, .inr (8, [.ref qt, .ref qw, .int u2_9, .int u3_10, .int u4_11, .int u5_12, .int u6_13, .long u7_14])), (qt, .inl (kt, 900, .inl ft)), (qw, .inl (kw, 25, .inr (.inl fw)))]) hP hD [1, 2, 0] [] rfl rfl (by decide) (by decide) hk1 hFc hP1 hD1
        have hK := hK.app hK1
        generalize H1 = H at hP hS ⊢
        have hP : va_P (dC, dI) vwCl [(h0, .inr (8, [.ref qt, .ref qw, .int u2_9, .int u3_10, .int u4_11, .int u5_12, .int u6_13, .long u7_14])), (qt, .inl (kt, 900, .inl ft)), (qw, .inl (kw, 25, .inr (.inl fw)))] H := hP
        have hD : va_D A [(h0, .inr (8, [.ref qt, .ref qw, .int u2_9, .int u3_10, .int u4_11, .int u5_12, .int u6_13, .long u7_14])), (qt, .inl (kt, 900, .inl ft)), (qw, .inl (kw, 25, .inr (.inl fw)))] := hD
        have hK : va_K (dC, dI) vwCl [(kt, .int), (kw, .long), (kt, .int), (kw, .long)] s := hK
        have hK : va_K (dC, dI) vwCl [(kt, .int), (kw, .long)] s := hK.sub [0, 1] rfl
        have hP9 := hP.sub (ws' := [(h0, .inr (8, [.ref qt, .ref qw, .int u2_9, .int u3_10, .int u4_11, .int u5_12, .int u6_13, .long u7_14])), (qt, .inl (kt, 900, .inl ft)), (qw, .inl (kw, 25, .inr (.inl fw)))]) [0, 1, 2] rfl
        have hD9 := hD.sub (ws' := [(h0, .inr (8, [.ref qt, .ref qw, .int u2_9, .int u3_10, .int u4_11, .int u5_12, .int u6_13, .long u7_14])), (qt, .inl (kt, 900, .inl ft)), (qw, .inl (kw, 25, .inr (.inl fw)))]) [0, 1, 2] (by decide) rfl
        have hK9 := hK.sub (tys' := [(kt, .int), (kw, .long)]) [0, 1] rfl
        exact W.vret hx hb hr (fun t ht hW => ⟨⟨(), rfl, trivial, u2_9, u3_10, u4_11, u5_12, u6_13, u7_14, by rw [ht]; exact hP9, va_K.moved hW.alike hK9, hD9⟩, hS.F ht⟩) hS.2.2 dX9_advance_124
      ·
        refine lv_aload_n hx hb dX9_advance_113 rfl (lv_at hl 0 rfl) ?_
        have hPc := hP.sub (ws' := [(h0, .inr (8, [.ref qt, .ref qw, .int t2, .int w0_3, .int t4, .int w0_3, .int t6, .long t7])), (qt, .inl (kt, 900, .inl ft)), (qw, .inl (kw, 25, .inr (.inl fw)))]) [1, 2, 0] rfl
        have hDc := hD.sub (ws' := [(h0, .inr (8, [.ref qt, .ref qw, .int t2, .int w0_3, .int t4, .int w0_3, .int t6, .long t7])), (qt, .inl (kt, 900, .inl ft)), (qw, .inl (kw, 25, .inr (.inl fw)))]) [1, 2, 0] (by decide) rfl
        have hKc := hK.sub (tys' := [(kt, .int), (kw, .long)]) [0, 1] rfl
        have hFc := va_free (wc := [(h0, .inr (8, [.ref qt, .ref qw, .int t2, .int w0_3, .int t4, .int w0_3, .int t6, .long t7])), (qt, .inl (kt, 900, .inl ft)), (qw, .inl (kw, 25, .inr (.inl fw)))]) hD hS hA [1, 2, 0] rfl
        refine va_callv (va_runV (As := []) (rest := []) ⟨hx, hb, hml, hown, hts⟩ (c_X9_takeRow l dC dI _ h0 t2 w0_3 t4 w0_3 t6 t7 qt kt ft qw kw fw) (cwV 0 hts hX9_advance_X9_takeRow_v60 rfl rfl rfl (by decide +kernel) ⟨Nat.le_of_ble_eq_true rfl, Nat.le_of_ble_eq_true rfl⟩) ⟨zPre.blind, va_recv hKc hPc (ci := 8) (q0 := 0) rfl rfl, zPre.go hZ hPc hKc hDc⟩ rfl rfl hl.1 rfl (lv_room (Nat.le_of_ble_eq_true rfl)) dX9_advance_114 ⟨Nat.le_of_ble_eq_true rfl, Nat.le_of_ble_eq_true rfl⟩) hS (fun q _ h => hFc q h) hFc (fun u9 t9 H1 locs ht hvm hw hB hz1 hk1 hS => ?_)
        obtain ⟨u2_16, u3_17, u4_18, u5_19, u6_20, u7_21, hP1, hK1, hD1⟩ := hB
        rw [ht] at hP1
        have hK1 := va_K.moved hvm.symm hK1
        obtain ⟨hP, hD⟩ := va_join (wr := []) (w1 := [(h0, .inr (8, [.ref qt, .ref qw, .int u2_16, .int u3_17, .int u4_18, .int u5_19, .int u6_20, .long u7_21])), (qt, .inl (kt, 900, .inl ft)), (qw, .inl (kw, 25, .inr (.inl fw)))]) hP hD [1, 2, 0] [] rfl rfl (by decide) (by decide) hk1 hFc hP1 hD1
        have hK := hK.app hK1
        generalize H1 = H at hP hS ⊢
        have hP : va_P (dC, dI) vwCl [(h0, .inr (8, [.ref qt, .ref qw, .int u2_16, .int u3_17, .int u4_18, .int u5_19, .int u6_20, .long u7_21])), (qt, .inl (kt, 900, .inl ft)), (qw, .inl (kw, 25, .inr (.inl fw)))] H := hP
        have hD : va_D A [(h0, .inr (8, [.ref qt, .ref qw, .int u2_16, .int u3_17, .int u4_18, .int u5_19, .int u6_20, .long u7_21])), (qt, .inl (kt, 900, .inl ft)), (qw, .inl (kw, 25, .inr (.inl fw)))] := hD
        have hK : va_K (dC, dI) vwCl [(kt, .int), (kw, .long), (kt, .int), (kw, .long)] s := hK
        have hK : va_K (dC, dI) vwCl [(kt, .int), (kw, .long)] s := hK.sub [0, 1] rfl
        refine lv_goto (tgt := 124) hx hb dX9_advance_117 (by decide) ?_
        have hP9 := hP.sub (ws' := [(h0, .inr (8, [.ref qt, .ref qw, .int u2_16, .int u3_17, .int u4_18, .int u5_19, .int u6_20, .long u7_21])), (qt, .inl (kt, 900, .inl ft)), (qw, .inl (kw, 25, .inr (.inl fw)))]) [0, 1, 2] rfl
        have hD9 := hD.sub (ws' := [(h0, .inr (8, [.ref qt, .ref qw, .int u2_16, .int u3_17, .int u4_18, .int u5_19, .int u6_20, .long u7_21])), (qt, .inl (kt, 900, .inl ft)), (qw, .inl (kw, 25, .inr (.inl fw)))]) [0, 1, 2] (by decide) rfl
        have hK9 := hK.sub (tys' := [(kt, .int), (kw, .long)]) [0, 1] rfl
        exact W.vret hx hb hr (fun t ht hW => ⟨⟨(), rfl, trivial, u2_16, u3_17, u4_18, u5_19, u6_20, u7_21, by rw [ht]; exact hP9, va_K.moved hW.alike hK9, hD9⟩, hS.F ht⟩) hS.2.2 dX9_advance_124
    ·
      refine lv_aload_n hx hb dX9_advance_92 rfl (lv_at hl 0 rfl) ?_
      have hPc := hP.sub (ws' := [(h0, .inr (8, [.ref qt, .ref qw, .int t2, .int w0_3, .int t4, .int w0_3, .int t6, .long t7])), (qt, .inl (kt, 900, .inl ft)), (qw, .inl (kw, 25, .inr (.inl fw)))]) [1, 2, 0] rfl
      have hDc := hD.sub (ws' := [(h0, .inr (8, [.ref qt, .ref qw, .int t2, .int w0_3, .int t4, .int w0_3, .int t6, .long t7])), (qt, .inl (kt, 900, .inl ft)), (qw, .inl (kw, 25, .inr (.inl fw)))]) [1, 2, 0] (by decide) rfl
      have hKc := hK.sub (tys' := [(kt, .int), (kw, .long)]) [0, 1] rfl
      have hFc := va_free (wc := [(h0, .inr (8, [.ref qt, .ref qw, .int t2, .int w0_3, .int t4, .int w0_3, .int t6, .long t7])), (qt, .inl (kt, 900, .inl ft)), (qw, .inl (kw, 25, .inr (.inl fw)))]) hD hS hA [1, 2, 0] rfl
      refine va_callv (va_runV (As := []) (rest := []) ⟨hx, hb, hml, hown, hts⟩ (c_X9_takeNumber l dC dI _ h0 t2 w0_3 t4 w0_3 t6 t7 qt kt ft qw kw fw) (cwV 0 hts hX9_advance_X9_takeNumber_v54 rfl rfl rfl (by decide +kernel) ⟨Nat.le_of_ble_eq_true rfl, Nat.le_of_ble_eq_true rfl⟩) ⟨zPre.blind, va_recv hKc hPc (ci := 8) (q0 := 0) rfl rfl, zPre.go hZ hPc hKc hDc⟩ rfl rfl hl.1 rfl (lv_room (Nat.le_of_ble_eq_true rfl)) dX9_advance_93 ⟨Nat.le_of_ble_eq_true rfl, Nat.le_of_ble_eq_true rfl⟩) hS (fun q _ h => hFc q h) hFc (fun u9 t9 H1 locs ht hvm hw hB hz1 hk1 hS => ?_)
      obtain ⟨u2_23, u3_24, u4_25, u5_26, u6_27, u7_28, hP1, hK1, hD1⟩ := hB
      rw [ht] at hP1
      have hK1 := va_K.moved hvm.symm hK1
      obtain ⟨hP, hD⟩ := va_join (wr := []) (w1 := [(h0, .inr (8, [.ref qt, .ref qw, .int u2_23, .int u3_24, .int u4_25, .int u5_26, .int u6_27, .long u7_28])), (qt, .inl (kt, 900, .inl ft)), (qw, .inl (kw, 25, .inr (.inl fw)))]) hP hD [1, 2, 0] [] rfl rfl (by decide) (by decide) hk1 hFc hP1 hD1
      have hK := hK.app hK1
      generalize H1 = H at hP hS ⊢
      have hP : va_P (dC, dI) vwCl [(h0, .inr (8, [.ref qt, .ref qw, .int u2_23, .int u3_24, .int u4_25, .int u5_26, .int u6_27, .long u7_28])), (qt, .inl (kt, 900, .inl ft)), (qw, .inl (kw, 25, .inr (.inl fw)))] H := hP
      have hD : va_D A [(h0, .inr (8, [.ref qt, .ref qw, .int u2_23, .int u3_24, .int u4_25, .int u5_26, .int u6_27, .long u7_28])), (qt, .inl (kt, 900, .inl ft)), (qw, .inl (kw, 25, .inr (.inl fw)))] := hD
      have hK : va_K (dC, dI) vwCl [(kt, .int), (kw, .long), (kt, .int), (kw, .long)] s := hK
      have hK : va_K (dC, dI) vwCl [(kt, .int), (kw, .long)] s := hK.sub [0, 1] rfl
      refine lv_goto (tgt := 124) hx hb dX9_advance_96 (by decide) ?_
      have hP9 := hP.sub (ws' := [(h0, .inr (8, [.ref qt, .ref qw, .int u2_23, .int u3_24, .int u4_25, .int u5_26, .int u6_27, .long u7_28])), (qt, .inl (kt, 900, .inl ft)), (qw, .inl (kw, 25, .inr (.inl fw)))]) [0, 1, 2] rfl
      have hD9 := hD.sub (ws' := [(h0, .inr (8, [.ref qt, .ref qw, .int u2_23, .int u3_24, .int u4_25, .int u5_26, .int u6_27, .long u7_28])), (qt, .inl (kt, 900, .inl ft)), (qw, .inl (kw, 25, .inr (.inl fw)))]) [0, 1, 2] (by decide) rfl
      have hK9 := hK.sub (tys' := [(kt, .int), (kw, .long)]) [0, 1] rfl
      exact W.vret hx hb hr (fun t ht hW => ⟨⟨(), rfl, trivial, u2_23, u3_24, u4_25, u5_26, u6_27, u7_28, by rw [ht]; exact hP9, va_K.moved hW.alike hK9, hD9⟩, hS.F ht⟩) hS.2.2 dX9_advance_124
  ·
    refine lv_aload_n hx hb dX9_advance_70 rfl (lv_at hl 0 rfl) ?_
    refine lv_iconst (v := 0) hx hb dX9_advance_71 (by decide) ?_
    refine va_put (D := (dC, dI)) (ci := 8) (v := .int 0) (ty := .int) (C := RX9) (T := TX9) (N := 8) hx hb hts i_X9_advance_X9 tyX9 tyX9_ok nmX9 hown hK hP hD hS 0 rfl rfl 4 (by decide) (hts (.fieldLink RX9 40 "StatementRules2$Tokens" "type" "I") k_X9_advance_fieldLink_RX9_40_SR_Tokens_type_I) (fun _ h9 => h9) rfl (by decide +kernel) rfl rfl (Nat.le_of_ble_eq_true rfl) dX9_advance_72 (fun H locs hP hD hS => ?_)
    have hP : va_P (dC, dI) vwCl [(h0, .inr (8, [.ref qt, .ref qw, .int t2, .int w0_3, .int 0, .int w0_3, .int t6, .long t7])), (qt, .inl (kt, 900, .inl ft)), (qw, .inl (kw, 25, .inr (.inl fw)))] H := hP
    have hD : va_D A [(h0, .inr (8, [.ref qt, .ref qw, .int t2, .int w0_3, .int 0, .int w0_3, .int t6, .long t7])), (qt, .inl (kt, 900, .inl ft)), (qw, .inl (kw, 25, .inr (.inl fw)))] := hD
    refine lv_goto (tgt := 124) hx hb dX9_advance_75 (by decide) ?_
    have hP9 := hP.sub (ws' := [(h0, .inr (8, [.ref qt, .ref qw, .int t2, .int w0_3, .int 0, .int w0_3, .int t6, .long t7])), (qt, .inl (kt, 900, .inl ft)), (qw, .inl (kw, 25, .inr (.inl fw)))]) [0, 1, 2] rfl
    have hD9 := hD.sub (ws' := [(h0, .inr (8, [.ref qt, .ref qw, .int t2, .int w0_3, .int 0, .int w0_3, .int t6, .long t7])), (qt, .inl (kt, 900, .inl ft)), (qw, .inl (kw, 25, .inr (.inl fw)))]) [0, 1, 2] (by decide) rfl
    have hK9 := hK.sub (tys' := [(kt, .int), (kw, .long)]) [0, 1] rfl
    exact W.vret hx hb hr (fun t ht hW => ⟨⟨(), rfl, trivial, t2, w0_3, 0, w0_3, t6, t7, by rw [ht]; exact hP9, va_K.moved hW.alike hK9, hD9⟩, hS.F ht⟩) hS.2.2 dX9_advance_124
set_option maxHeartbeats 4000000 in
set_option maxRecDepth 100000 in
theorem j_X9_advance_2 {p : Program} {e : Env} {s : State} {m : MethodId} {args : Array Value} {below : List Frame} {meth : Method} {c : Code} {A : Nat → Prop} (l : Launch) (dC : Nat → ClassId) (dI : Nat → Nat → Nat) (h0 : Nat) (qt : Nat) (qw : Nat) (kt : ClassId) (kw : ClassId) (t2 : Int32) (t4 : Int32) (t5 : Int32) (t6 : Int32) (t7 : Int64) (ft : Nat → Int32) (fw : Nat → Int64) (hx : p.tables.exec = Jvm.exec) (hb : c.code = cX9_advance) (hr : meth.sig.returnType = none) (hml : c.maxLocals = 2) (hown : s.vm.findClass RX9 = some m.cls) (hts : ∀ w ∈ wzX9_advance, w.before args s = true) (hlocks : meth.locks = false) (hZ : zAMB s) (hA : ∀ q : Nat, s.heap.size ≤ q → A q) (hK : va_K (dC, dI) vwCl [(kt, .int), (kw, .long)] s) : ∀ (n9 : Nat) (w0_3 : Int32) (l1 : Int32) (H : Heap) (locs : List Loc) (ls : Array Slot), (∃ k9 : Nat, l1 = nI k9 ∧ k9 + n9 = 900) → va_P (dC, dI) vwCl [(h0, .inr (8, [.ref qt, .ref qw, .int t2, .int w0_3, .int t4, .int t5, .int t6, .long t7])), (qt, .inl (kt, 900, .inl ft)), (qw, .inl (kw, 25, .inr (.inl fw)))] H → va_D A [(h0, .inr (8, [.ref qt, .ref qw, .int t2, .int w0_3, .int t4, .int t5, .int t6, .long t7])), (qt, .inl (kt, 900, .inl ft)), (qw, .inl (kw, 25, .inr (.inl fw)))] → va_S A s.heap H locs → lv_has ls 2 [(0, .ref h0), (1, .int l1)] → W p l e ({ frames := 3, cells := 0, slots := 0, locals := 180 }) s m args below meth c H locs 0 0 (MQ below (va_Qv (fun (_ : Unit) => True) (fun (_ : Unit) (t : State) => ∃ (u2 : Int32), ∃ (u3 : Int32), ∃ (u4 : Int32), ∃ (u5 : Int32), ∃ (u6 : Int32), ∃ (u7 : Int64), zPost dC dI A [(h0, .inr (8, [.ref qt, .ref qw, .int u2, .int u3, .int u4, .int u5, .int u6, .long u7])), (qt, .inl (kt, 900, .inl ft)), (qw, .inl (kw, 25, .inr (.inl fw)))] [(kt, .int), (kw, .long)] t) A) args s 0 0 A) (F0 m 2 ls []) := by
  intro n9
  induction n9 with
  | zero =>
    intro w0_3 l1 H locs ls hinv hP hD hS hl
    have hge : (900 : Int32) ≤ l1 := by obtain ⟨k9, h9, h8⟩ := hinv; rw [h9, show k9 = 900 by omega]; decide
    refine lv_iload_n hx hb dX9_advance_2 rfl (lv_at hl 1 rfl) ?_
    refine lv_sipush (v := 900) hx hb dX9_advance_3 (by decide) ?_
    refine lv_icmp_ge (tgt := 51) hx hb dX9_advance_6 (by decide) (fun _ => ?_) (fun c9 => absurd hge c9)
    exact j_X9_advance_51 l dC dI h0 qt qw kt kw t2 t4 t5 t6 t7 ft fw hx hb hr hml hown hts hlocks hZ hA hK w0_3 _ _ _ hP hD hS (lv_sub hl [0] rfl)
  | succ n9 ih =>
    intro w0_3 l1 H locs ls hinv hP hD hS hl
    have hge : ¬ (900 : Int32) ≤ l1 := by obtain ⟨k9, h9, h8⟩ := hinv; rw [h9]; exact nI_ge (a := k9) (b := 900) (by omega) (by decide)
    refine lv_iload_n hx hb dX9_advance_2 rfl (lv_at hl 1 rfl) ?_
    refine lv_sipush (v := 900) hx hb dX9_advance_3 (by decide) ?_
    refine lv_icmp_ge (tgt := 51) hx hb dX9_advance_6 (by decide) (fun c9 => absurd c9 hge) (fun _ => ?_)
    refine lv_aload_n hx hb dX9_advance_9 rfl (lv_at hl 0 rfl) ?_
    refine lv_aload_n hx hb dX9_advance_10 rfl (lv_at hl 0 rfl) ?_
    refine va_get (D := (dC, dI)) (ci := 8) (v := .int w0_3) (C := RX9) (T := TX9) (N := 8) hx hb hts i_X9_advance_X9 hown hK hP 0 rfl rfl 3 (by decide) (hts (.fieldLink RX9 34 "StatementRules2$Tokens" "next" "I") k_X9_advance_fieldLink_RX9_34_SR_Tokens_next_I) (fun _ h9 => h9) rfl dX9_advance_11 ?_
    have hPc := hP.sub (ws' := [(h0, .inr (8, [.ref qt, .ref qw, .int t2, .int w0_3, .int t4, .int t5, .int t6, .long t7])), (qt, .inl (kt, 900, .inl ft))]) [0, 1] rfl
    have hDc := hD.sub (ws' := [(h0, .inr (8, [.ref qt, .ref qw, .int t2, .int w0_3, .int t4, .int t5, .int t6, .long t7])), (qt, .inl (kt, 900, .inl ft))]) [0, 1] (by decide) rfl
    have hKc := hK.sub (tys' := [(kt, .int)]) [0] rfl
    have hFc := va_free (wc := [(h0, .inr (8, [.ref qt, .ref qw, .int t2, .int w0_3, .int t4, .int t5, .int t6, .long t7])), (qt, .inl (kt, 900, .inl ft))]) hD hS hA [0, 1] rfl
    refine va_calli (va_runV (As := [.int w0_3]) (rest := []) ⟨hx, hb, hml, hown, hts⟩ (c_X9_byteAt l dC dI _ h0 w0_3 t2 w0_3 t4 t5 t6 t7 qw qt kt ft) (cwV 1 hts hX9_advance_X9_byteAt_v43 rfl rfl rfl (by decide +kernel) ⟨Nat.le_of_ble_eq_true rfl, Nat.le_of_ble_eq_true rfl⟩) ⟨zPre.blind, va_recv hKc hPc (ci := 8) (q0 := 0) rfl rfl, zPre.go hZ hPc hKc hDc⟩ rfl rfl hl.1 rfl (lv_room (Nat.le_of_ble_eq_true rfl)) dX9_advance_14 ⟨Nat.le_of_ble_eq_true rfl, Nat.le_of_ble_eq_true rfl⟩) hS (fun q _ h => hFc q h) hFc (fun r29 u9 t9 H1 locs ht hvm hw hB hz1 hk1 hS => ?_)
    obtain ⟨hP1, hK1, hD1⟩ := hB
    rw [ht] at hP1
    have hK1 := va_K.moved hvm.symm hK1
    obtain ⟨hP, hD⟩ := va_join (wr := [(qw, .inl (kw, 25, .inr (.inl fw)))]) (w1 := [(h0, .inr (8, [.ref qt, .ref qw, .int t2, .int w0_3, .int t4, .int t5, .int t6, .long t7])), (qt, .inl (kt, 900, .inl ft))]) hP hD [0, 1] [2] rfl rfl (by decide) (by decide) hk1 hFc hP1 hD1
    have hK := hK.app hK1
    generalize H1 = H at hP hS ⊢
    have hP : va_P (dC, dI) vwCl [(qw, .inl (kw, 25, .inr (.inl fw))), (h0, .inr (8, [.ref qt, .ref qw, .int t2, .int w0_3, .int t4, .int t5, .int t6, .long t7])), (qt, .inl (kt, 900, .inl ft))] H := hP
    have hD : va_D A [(qw, .inl (kw, 25, .inr (.inl fw))), (h0, .inr (8, [.ref qt, .ref qw, .int t2, .int w0_3, .int t4, .int t5, .int t6, .long t7])), (qt, .inl (kt, 900, .inl ft))] := hD
    have hK : va_K (dC, dI) vwCl [(kt, .int), (kw, .long), (kt, .int)] s := hK
    have hK : va_K (dC, dI) vwCl [(kt, .int), (kw, .long)] s := hK.sub [0, 1] rfl
    refine lv_bipush (v := 32) hx hb dX9_advance_17 (by decide) ?_
    refine lv_icmp_eq (tgt := 35) hx hb dX9_advance_19 (by decide) (fun c30 => ?_) (fun c30 => ?_)
    ·
      refine lv_aload_n hx hb dX9_advance_35 rfl (lv_at hl 0 rfl) ?_
      refine lv_dup hx hb dX9_advance_36 rfl ?_
      refine va_get (D := (dC, dI)) (ci := 8) (v := .int w0_3) (C := RX9) (T := TX9) (N := 8) hx hb hts i_X9_advance_X9 hown hK hP 1 rfl rfl 3 (by decide) (hts (.fieldLink RX9 34 "StatementRules2$Tokens" "next" "I") k_X9_advance_fieldLink_RX9_34_SR_Tokens_next_I) (fun _ h9 => h9) rfl dX9_advance_37 ?_
      refine lv_iconst (v := 1) hx hb dX9_advance_40 (by decide) ?_
      refine lv_iadd hx hb dX9_advance_41 ?_
      refine lv_topi (fun z31 ez31 => ?_)
      refine va_put (D := (dC, dI)) (ci := 8) (v := .int z31) (ty := .int) (C := RX9) (T := TX9) (N := 8) hx hb hts i_X9_advance_X9 tyX9 tyX9_ok nmX9 hown hK hP hD hS 1 rfl rfl 3 (by decide) (hts (.fieldLink RX9 34 "StatementRules2$Tokens" "next" "I") k_X9_advance_fieldLink_RX9_34_SR_Tokens_next_I) (fun _ h9 => h9) rfl (by decide +kernel) rfl rfl (Nat.le_of_ble_eq_true rfl) dX9_advance_42 (fun H locs hP hD hS => ?_)
      have hP : va_P (dC, dI) vwCl [(qw, .inl (kw, 25, .inr (.inl fw))), (h0, .inr (8, [.ref qt, .ref qw, .int t2, .int z31, .int t4, .int t5, .int t6, .long t7])), (qt, .inl (kt, 900, .inl ft))] H := hP
      have hD : va_D A [(qw, .inl (kw, 25, .inr (.inl fw))), (h0, .inr (8, [.ref qt, .ref qw, .int t2, .int z31, .int t4, .int t5, .int t6, .long t7])), (qt, .inl (kt, 900, .inl ft))] := hD
      obtain ⟨z32, ez32⟩ : ∃ y : Int32, y = l1 + Int32.ofInt (1) := ⟨_, rfl⟩
      refine lv_iinc (v := z32) (lv' := [(1, .int z32), (0, .ref h0)]) hx hb dX9_advance_45 hl (k := 1) rfl (ez32.symm) (by decide) rfl (fun ls hl => ?_)
      refine lv_goto (tgt := 2) hx hb dX9_advance_48 (by decide) ?_
      have hP := hP.sub (ws' := [(h0, .inr (8, [.ref qt, .ref qw, .int t2, .int z31, .int t4, .int t5, .int t6, .long t7])), (qt, .inl (kt, 900, .inl ft)), (qw, .inl (kw, 25, .inr (.inl fw)))]) [1, 2, 0] rfl
      have hD := hD.sub (ws' := [(h0, .inr (8, [.ref qt, .ref qw, .int t2, .int z31, .int t4, .int t5, .int t6, .long t7])), (qt, .inl (kt, 900, .inl ft)), (qw, .inl (kw, 25, .inr (.inl fw)))]) [1, 2, 0] (by decide) rfl
      exact ih z31 z32 _ _ _ (by obtain ⟨k9, h9, h8⟩ := hinv; exact ⟨k9 + 1, by rw [ez32, h9]; exact nI_1 k9, by omega⟩) hP hD hS (lv_sub hl [1, 0] rfl)
    ·
      refine lv_aload_n hx hb dX9_advance_22 rfl (lv_at hl 0 rfl) ?_
      refine lv_aload_n hx hb dX9_advance_23 rfl (lv_at hl 0 rfl) ?_
      refine va_get (D := (dC, dI)) (ci := 8) (v := .int w0_3) (C := RX9) (T := TX9) (N := 8) hx hb hts i_X9_advance_X9 hown hK hP 1 rfl rfl 3 (by decide) (hts (.fieldLink RX9 34 "StatementRules2$Tokens" "next" "I") k_X9_advance_fieldLink_RX9_34_SR_Tokens_next_I) (fun _ h9 => h9) rfl dX9_advance_24 ?_
      have hPc := hP.sub (ws' := [(h0, .inr (8, [.ref qt, .ref qw, .int t2, .int w0_3, .int t4, .int t5, .int t6, .long t7])), (qt, .inl (kt, 900, .inl ft))]) [1, 2] rfl
      have hDc := hD.sub (ws' := [(h0, .inr (8, [.ref qt, .ref qw, .int t2, .int w0_3, .int t4, .int t5, .int t6, .long t7])), (qt, .inl (kt, 900, .inl ft))]) [1, 2] (by decide) rfl
      have hKc := hK.sub (tys' := [(kt, .int)]) [0] rfl
      have hFc := va_free (wc := [(h0, .inr (8, [.ref qt, .ref qw, .int t2, .int w0_3, .int t4, .int t5, .int t6, .long t7])), (qt, .inl (kt, 900, .inl ft))]) hD hS hA [1, 2] rfl
      refine va_calli (va_runV (As := [.int w0_3]) (rest := []) ⟨hx, hb, hml, hown, hts⟩ (c_X9_byteAt l dC dI _ h0 w0_3 t2 w0_3 t4 t5 t6 t7 qw qt kt ft) (cwV 1 hts hX9_advance_X9_byteAt_v43 rfl rfl rfl (by decide +kernel) ⟨Nat.le_of_ble_eq_true rfl, Nat.le_of_ble_eq_true rfl⟩) ⟨zPre.blind, va_recv hKc hPc (ci := 8) (q0 := 0) rfl rfl, zPre.go hZ hPc hKc hDc⟩ rfl rfl hl.1 rfl (lv_room (Nat.le_of_ble_eq_true rfl)) dX9_advance_27 ⟨Nat.le_of_ble_eq_true rfl, Nat.le_of_ble_eq_true rfl⟩) hS (fun q _ h => hFc q h) hFc (fun r33 u9 t9 H1 locs ht hvm hw hB hz1 hk1 hS => ?_)
      obtain ⟨hP1, hK1, hD1⟩ := hB
      rw [ht] at hP1
      have hK1 := va_K.moved hvm.symm hK1
      obtain ⟨hP, hD⟩ := va_join (wr := [(qw, .inl (kw, 25, .inr (.inl fw)))]) (w1 := [(h0, .inr (8, [.ref qt, .ref qw, .int t2, .int w0_3, .int t4, .int t5, .int t6, .long t7])), (qt, .inl (kt, 900, .inl ft))]) hP hD [1, 2] [0] rfl rfl (by decide) (by decide) hk1 hFc hP1 hD1
      have hK := hK.app hK1
      generalize H1 = H at hP hS ⊢
      have hP : va_P (dC, dI) vwCl [(qw, .inl (kw, 25, .inr (.inl fw))), (h0, .inr (8, [.ref qt, .ref qw, .int t2, .int w0_3, .int t4, .int t5, .int t6, .long t7])), (qt, .inl (kt, 900, .inl ft))] H := hP
      have hD : va_D A [(qw, .inl (kw, 25, .inr (.inl fw))), (h0, .inr (8, [.ref qt, .ref qw, .int t2, .int w0_3, .int t4, .int t5, .int t6, .long t7])), (qt, .inl (kt, 900, .inl ft))] := hD
      have hK : va_K (dC, dI) vwCl [(kt, .int), (kw, .long), (kt, .int)] s := hK
      have hK : va_K (dC, dI) vwCl [(kt, .int), (kw, .long)] s := hK.sub [0, 1] rfl
      refine lv_bipush (v := 10) hx hb dX9_advance_30 (by decide) ?_
      refine lv_icmp_ne (tgt := 51) hx hb dX9_advance_32 (by decide) (fun c34 => ?_) (fun c34 => ?_)
      ·
        have hP := hP.sub (ws' := [(h0, .inr (8, [.ref qt, .ref qw, .int t2, .int w0_3, .int t4, .int t5, .int t6, .long t7])), (qt, .inl (kt, 900, .inl ft)), (qw, .inl (kw, 25, .inr (.inl fw)))]) [1, 2, 0] rfl
        have hD := hD.sub (ws' := [(h0, .inr (8, [.ref qt, .ref qw, .int t2, .int w0_3, .int t4, .int t5, .int t6, .long t7])), (qt, .inl (kt, 900, .inl ft)), (qw, .inl (kw, 25, .inr (.inl fw)))]) [1, 2, 0] (by decide) rfl
        exact j_X9_advance_51 l dC dI h0 qt qw kt kw t2 t4 t5 t6 t7 ft fw hx hb hr hml hown hts hlocks hZ hA hK w0_3 _ _ _ hP hD hS (lv_sub hl [0] rfl)
      ·
        refine lv_aload_n hx hb dX9_advance_35 rfl (lv_at hl 0 rfl) ?_
        refine lv_dup hx hb dX9_advance_36 rfl ?_
        refine va_get (D := (dC, dI)) (ci := 8) (v := .int w0_3) (C := RX9) (T := TX9) (N := 8) hx hb hts i_X9_advance_X9 hown hK hP 1 rfl rfl 3 (by decide) (hts (.fieldLink RX9 34 "StatementRules2$Tokens" "next" "I") k_X9_advance_fieldLink_RX9_34_SR_Tokens_next_I) (fun _ h9 => h9) rfl dX9_advance_37 ?_
        refine lv_iconst (v := 1) hx hb dX9_advance_40 (by decide) ?_
        refine lv_iadd hx hb dX9_advance_41 ?_
        refine lv_topi (fun z35 ez35 => ?_)
        refine va_put (D := (dC, dI)) (ci := 8) (v := .int z35) (ty := .int) (C := RX9) (T := TX9) (N := 8) hx hb hts i_X9_advance_X9 tyX9 tyX9_ok nmX9 hown hK hP hD hS 1 rfl rfl 3 (by decide) (hts (.fieldLink RX9 34 "StatementRules2$Tokens" "next" "I") k_X9_advance_fieldLink_RX9_34_SR_Tokens_next_I) (fun _ h9 => h9) rfl (by decide +kernel) rfl rfl (Nat.le_of_ble_eq_true rfl) dX9_advance_42 (fun H locs hP hD hS => ?_)
        have hP : va_P (dC, dI) vwCl [(qw, .inl (kw, 25, .inr (.inl fw))), (h0, .inr (8, [.ref qt, .ref qw, .int t2, .int z35, .int t4, .int t5, .int t6, .long t7])), (qt, .inl (kt, 900, .inl ft))] H := hP
        have hD : va_D A [(qw, .inl (kw, 25, .inr (.inl fw))), (h0, .inr (8, [.ref qt, .ref qw, .int t2, .int z35, .int t4, .int t5, .int t6, .long t7])), (qt, .inl (kt, 900, .inl ft))] := hD
        obtain ⟨z36, ez36⟩ : ∃ y : Int32, y = l1 + Int32.ofInt (1) := ⟨_, rfl⟩
        refine lv_iinc (v := z36) (lv' := [(1, .int z36), (0, .ref h0)]) hx hb dX9_advance_45 hl (k := 1) rfl (ez36.symm) (by decide) rfl (fun ls hl => ?_)
        refine lv_goto (tgt := 2) hx hb dX9_advance_48 (by decide) ?_
        have hP := hP.sub (ws' := [(h0, .inr (8, [.ref qt, .ref qw, .int t2, .int z35, .int t4, .int t5, .int t6, .long t7])), (qt, .inl (kt, 900, .inl ft)), (qw, .inl (kw, 25, .inr (.inl fw)))]) [1, 2, 0] rfl
        have hD := hD.sub (ws' := [(h0, .inr (8, [.ref qt, .ref qw, .int t2, .int z35, .int t4, .int t5, .int t6, .long t7])), (qt, .inl (kt, 900, .inl ft)), (qw, .inl (kw, 25, .inr (.inl fw)))]) [1, 2, 0] (by decide) rfl
        exact ih z35 z36 _ _ _ (by obtain ⟨k9, h9, h8⟩ := hinv; exact ⟨k9 + 1, by rw [ez36, h9]; exact nI_1 k9, by omega⟩) hP hD hS (lv_sub hl [1, 0] rfl)
set_option maxHeartbeats 4000000 in
set_option maxRecDepth 100000 in
theorem c_X9_advance (l : Launch) (dC : Nat → ClassId) (dI : Nat → Nat → Nat) (sz : Nat) (h0 : Nat) (t2 : Int32) (t3 : Int32) (t4 : Int32) (t5 : Int32) (t6 : Int32) (t7 : Int64) (qt : Nat) (kt : ClassId) (ft : Nat → Int32) (qw : Nat) (kw : ClassId) (fw : Nat → Int64) : Met l yX9_advance wzX9_advance ({ frames := 3, cells := 0, slots := 0, locals := 180 }) (va_Pc [.ref h0] (zPre dC dI sz [(h0, .inr (8, [.ref qt, .ref qw, .int t2, .int t3, .int t4, .int t5, .int t6, .long t7])), (qt, .inl (kt, 900, .inl ft)), (qw, .inl (kw, 25, .inr (.inl fw)))] [(kt, .int), (kw, .long)])) (va_Qv (fun (_ : Unit) => True) (fun (_ : Unit) (t : State) => ∃ (u2 : Int32), ∃ (u3 : Int32), ∃ (u4 : Int32), ∃ (u5 : Int32), ∃ (u6 : Int32), ∃ (u7 : Int64), zPost dC dI (va_A [(h0, .inr (8, [.ref qt, .ref qw, .int t2, .int t3, .int t4, .int t5, .int t6, .long t7])), (qt, .inl (kt, 900, .inl ft)), (qw, .inl (kw, 25, .inr (.inl fw)))] sz) [(h0, .inr (8, [.ref qt, .ref qw, .int u2, .int u3, .int u4, .int u5, .int u6, .long u7])), (qt, .inl (kt, 900, .inl ft)), (qw, .inl (kw, 25, .inr (.inl fw)))] [(kt, .int), (kw, .long)] t) (va_A [(h0, .inr (8, [.ref qt, .ref qw, .int t2, .int t3, .int t4, .int t5, .int t6, .long t7])), (qt, .inl (kt, 900, .inl ft)), (qw, .inl (kw, 25, .inr (.inl fw)))] sz)) 0 0 (va_A [(h0, .inr (8, [.ref qt, .ref qw, .int t2, .int t3, .int t4, .int t5, .int t6, .long t7])), (qt, .inl (kt, 900, .inl ft)), (qw, .inl (kw, 25, .inr (.inl fw)))] sz) := by
  refine Met.ofW (cc := cX9_advance) (maxL := 2) (ret := none) (by decide) rfl ?_
  intro p e s m args below meth c s₁ B hml hv
  obtain ⟨rfl, hsz, hZ, hP, hK, hD0⟩ := hv
  have hx := B.exec
  have hb := B.bytes
  have hr := B.returns
  have hts := atoms_spec (ws := wzX9_advance) B.pre
  have hown : s.vm.findClass RX9 = some m.cls := findClass_of_methodNamed B.named
  have hlocks := B.notSynchronized
  subst hsz
  have hD := hD0.self (sz := s.heap.size)
  generalize hAe : va_A [(h0, .inr (8, [.ref qt, .ref qw, .int t2, .int t3, .int t4, .int t5, .int t6, .long t7])), (qt, .inl (kt, 900, .inl ft)), (qw, .inl (kw, 25, .inr (.inl fw)))] s.heap.size = A at hD ⊢
  have hA : ∀ q : Nat, s.heap.size ≤ q → A q := fun q h => by rw [← hAe]; exact Or.inr h
  have hS : va_S A s.heap s.heap [] := va_S.rf
  have hP : va_P (dC, dI) vwCl [(h0, .inr (8, [.ref qt, .ref qw, .int t2, .int t3, .int t4, .int t5, .int t6, .long t7])), (qt, .inl (kt, 900, .inl ft)), (qw, .inl (kw, 25, .inr (.inl fw)))] s.heap := hP
  have hl := lv_entry ([.ref h0]) (n := 2) (Nat.le_of_ble_eq_true rfl)
  rw [lg_entry_eq]
  generalize (lg_sl ([.ref h0]) ++ List.replicate (2 - (lg_sl ([.ref h0])).length) Slot.unset).toArray = ls at hl ⊢
  have hl : lv_has ls 2 [(0, .ref h0)] := hl
  refine lv_iconst (v := 0) hx hb dX9_advance_0 (by decide) ?_
  refine lv_istore_n (lv' := [(1, .int 0), (0, .ref h0)]) hx hb dX9_advance_1 rfl hl (by decide) rfl (fun ls hl => ?_)
  exact j_X9_advance_2 l dC dI h0 qt qw kt kw t2 t4 t5 t6 t7 ft fw hx hb hr hml hown hts hlocks hZ hA hK 900 t3 0 _ _ _ ⟨0, nI_0.symm, rfl⟩ hP hD hS (lv_sub hl [1, 0] rfl)
theorem k_X9_start_fieldLink_RX9_31_SR_Tokens_length_I : Cond.fieldLink RX9 31 "StatementRules2$Tokens" "length" "I" ∈ wzX9_start := List.mem_cons_of_mem _ (List.mem_append_left _ (List.mem_of_getElem? (i := 0) rfl))
theorem i_X9_start_X9 : ∀ w ∈ wsX90, w ∈ wzX9_start := fun _ h => List.mem_cons_of_mem _ (List.mem_append_right _ (List.mem_append_left _ (h)))
theorem k_X9_start_fieldLink_RX9_34_SR_Tokens_next_I : Cond.fieldLink RX9 34 "StatementRules2$Tokens" "next" "I" ∈ wzX9_start := List.mem_cons_of_mem _ (List.mem_append_left _ (List.mem_of_getElem? (i := 1) rfl))
set_option maxHeartbeats 4000000 in
set_option maxRecDepth 100000 in
theorem c_X9_start (l : Launch) (dC : Nat → ClassId) (dI : Nat → Nat → Nat) (sz : Nat) (h0 : Nat) (x : Int32) (t2 : Int32) (t3 : Int32) (t4 : Int32) (t5 : Int32) (t6 : Int32) (t7 : Int64) (qt : Nat) (kt : ClassId) (ft : Nat → Int32) (qw : Nat) (kw : ClassId) (fw : Nat → Int64) : Met l yX9_start wzX9_start ({ frames := 4, cells := 0, slots := 0, locals := 240 }) (va_Pc [.ref h0, .int x] (zPre dC dI sz [(h0, .inr (8, [.ref qt, .ref qw, .int t2, .int t3, .int t4, .int t5, .int t6, .long t7])), (qt, .inl (kt, 900, .inl ft)), (qw, .inl (kw, 25, .inr (.inl fw)))] [(kt, .int), (kw, .long)])) (va_Qv (fun (_ : Unit) => True) (fun (_ : Unit) (t : State) => ∃ (u2 : Int32), ∃ (u3 : Int32), ∃ (u4 : Int32), ∃ (u5 : Int32), ∃ (u6 : Int32), ∃ (u7 : Int64), zPost dC dI (va_A [(h0, .inr (8, [.ref qt, .ref qw, .int t2, .int t3, .int t4, .int t5, .int t6, .long t7])), (qt, .inl (kt, 900, .inl ft)), (qw, .inl (kw, 25, .inr (.inl fw)))] sz) [(h0, .inr (8, [.ref qt, .ref qw, .int u2, .int u3, .int u4, .int u5, .int u6, .long u7])), (qt, .inl (kt, 900, .inl ft)), (qw, .inl (kw, 25, .inr (.inl fw)))] [(kt, .int), (kw, .long)] t) (va_A [(h0, .inr (8, [.ref qt, .ref qw, .int t2, .int t3, .int t4, .int t5, .int t6, .long t7])), (qt, .inl (kt, 900, .inl ft)), (qw, .inl (kw, 25, .inr (.inl fw)))] sz)) 0 0 (va_A [(h0, .inr (8, [.ref qt, .ref qw, .int t2, .int t3, .int t4, .int t5, .int t6, .long t7])), (qt, .inl (kt, 900, .inl ft)), (qw, .inl (kw, 25, .inr (.inl fw)))] sz) := by
  refine Met.ofW (cc := cX9_start) (maxL := 2) (ret := none) (by decide) rfl ?_
  intro p e s m args below meth c s₁ B hml hv
  obtain ⟨rfl, hsz, hZ, hP, hK, hD0⟩ := hv
  have hx := B.exec
  have hb := B.bytes
  have hr := B.returns
  have hts := atoms_spec (ws := wzX9_start) B.pre
  have hown : s.vm.findClass RX9 = some m.cls := findClass_of_methodNamed B.named
  have hlocks := B.notSynchronized
  subst hsz
  have hD := hD0.self (sz := s.heap.size)
  generalize hAe : va_A [(h0, .inr (8, [.ref qt, .ref qw, .int t2, .int t3, .int t4, .int t5, .int t6, .long t7])), (qt, .inl (kt, 900, .inl ft)), (qw, .inl (kw, 25, .inr (.inl fw)))] s.heap.size = A at hD ⊢
  have hA : ∀ q : Nat, s.heap.size ≤ q → A q := fun q h => by rw [← hAe]; exact Or.inr h
  have hS : va_S A s.heap s.heap [] := va_S.rf
  have hP : va_P (dC, dI) vwCl [(h0, .inr (8, [.ref qt, .ref qw, .int t2, .int t3, .int t4, .int t5, .int t6, .long t7])), (qt, .inl (kt, 900, .inl ft)), (qw, .inl (kw, 25, .inr (.inl fw)))] s.heap := hP
  have hl := lv_entry ([.ref h0, .int x]) (n := 2) (Nat.le_of_ble_eq_true rfl)
  rw [lg_entry_eq]
  generalize (lg_sl ([.ref h0, .int x]) ++ List.replicate (2 - (lg_sl ([.ref h0, .int x])).length) Slot.unset).toArray = ls at hl ⊢
  have hl : lv_has ls 2 [(0, .ref h0), (1, .int x)] := hl
  refine lv_aload_n hx hb dX9_start_0 rfl (lv_at hl 0 rfl) ?_
  refine lv_iload_n hx hb dX9_start_1 rfl (lv_at hl 1 rfl) ?_
  refine va_put (D := (dC, dI)) (ci := 8) (v := .int x) (ty := .int) (C := RX9) (T := TX9) (N := 8) hx hb hts i_X9_start_X9 tyX9 tyX9_ok nmX9 hown hK hP hD hS 0 rfl rfl 2 (by decide) (hts (.fieldLink RX9 31 "StatementRules2$Tokens" "length" "I") k_X9_start_fieldLink_RX9_31_SR_Tokens_length_I) (fun _ h9 => h9) rfl (by decide +kernel) rfl rfl (Nat.le_of_ble_eq_true rfl) dX9_start_2 (fun H locs hP hD hS => ?_)
  have hP : va_P (dC, dI) vwCl [(h0, .inr (8, [.ref qt, .ref qw, .int x, .int t3, .int t4, .int t5, .int t6, .long t7])), (qt, .inl (kt, 900, .inl ft)), (qw, .inl (kw, 25, .inr (.inl fw)))] H := hP
  have hD : va_D A [(h0, .inr (8, [.ref qt, .ref qw, .int x, .int t3, .int t4, .int t5, .int t6, .long t7])), (qt, .inl (kt, 900, .inl ft)), (qw, .inl (kw, 25, .inr (.inl fw)))] := hD
  refine lv_aload_n hx hb dX9_start_5 rfl (lv_at hl 0 rfl) ?_
  refine lv_iconst (v := 0) hx hb dX9_start_6 (by decide) ?_
  refine va_put (D := (dC, dI)) (ci := 8) (v := .int 0) (ty := .int) (C := RX9) (T := TX9) (N := 8) hx hb hts i_X9_start_X9 tyX9 tyX9_ok nmX9 hown hK hP hD hS 0 rfl rfl 3 (by decide) (hts (.fieldLink RX9 34 "StatementRules2$Tokens" "next" "I") k_X9_start_fieldLink_RX9_34_SR_Tokens_next_I) (fun _ h9 => h9) rfl (by decide +kernel) rfl rfl (Nat.le_of_ble_eq_true rfl) dX9_start_7 (fun H locs hP hD hS => ?_)
  have hP : va_P (dC, dI) vwCl [(h0, .inr (8, [.ref qt, .ref qw, .int x, .int 0, .int t4, .int t5, .int t6, .long t7])), (qt, .inl (kt, 900, .inl ft)), (qw, .inl (kw, 25, .inr (.inl fw)))] H := hP
  have hD : va_D A [(h0, .inr (8, [.ref qt, .ref qw, .int x, .int 0, .int t4, .int t5, .int t6, .long t7])), (qt, .inl (kt, 900, .inl ft)), (qw, .inl (kw, 25, .inr (.inl fw)))] := hD
  refine lv_aload_n hx hb dX9_start_10 rfl (lv_at hl 0 rfl) ?_
  have hPc := hP.sub (ws' := [(h0, .inr (8, [.ref qt, .ref qw, .int x, .int 0, .int t4, .int t5, .int t6, .long t7])), (qt, .inl (kt, 900, .inl ft)), (qw, .inl (kw, 25, .inr (.inl fw)))]) [0, 1, 2] rfl
  have hDc := hD.sub (ws' := [(h0, .inr (8, [.ref qt, .ref qw, .int x, .int 0, .int t4, .int t5, .int t6, .long t7])), (qt, .inl (kt, 900, .inl ft)), (qw, .inl (kw, 25, .inr (.inl fw)))]) [0, 1, 2] (by decide) rfl
  have hKc := hK.sub (tys' := [(kt, .int), (kw, .long)]) [0, 1] rfl
  have hFc := va_free (wc := [(h0, .inr (8, [.ref qt, .ref qw, .int x, .int 0, .int t4, .int t5, .int t6, .long t7])), (qt, .inl (kt, 900, .inl ft)), (qw, .inl (kw, 25, .inr (.inl fw)))]) hD hS hA [0, 1, 2] rfl
  refine va_callv (va_runV (As := []) (rest := []) ⟨hx, hb, hml, hown, hts⟩ (c_X9_advance l dC dI _ h0 x 0 t4 t5 t6 t7 qt kt ft qw kw fw) (cwV 0 hts hX9_start_X9_advance_v37 rfl rfl rfl (by decide +kernel) ⟨Nat.le_of_ble_eq_true rfl, Nat.le_of_ble_eq_true rfl⟩) ⟨zPre.blind, va_recv hKc hPc (ci := 8) (q0 := 0) rfl rfl, zPre.go hZ hPc hKc hDc⟩ rfl rfl hl.1 rfl (lv_room (Nat.le_of_ble_eq_true rfl)) dX9_start_11 ⟨Nat.le_of_ble_eq_true rfl, Nat.le_of_ble_eq_true rfl⟩) hS (fun q _ h => hFc q h) hFc (fun u9 t9 H1 locs ht hvm hw hB hz1 hk1 hS => ?_)
  obtain ⟨u2_2, u3_3, u4_4, u5_5, u6_6, u7_7, hP1, hK1, hD1⟩ := hB
  rw [ht] at hP1
  have hK1 := va_K.moved hvm.symm hK1
  obtain ⟨hP, hD⟩ := va_join (wr := []) (w1 := [(h0, .inr (8, [.ref qt, .ref qw, .int u2_2, .int u3_3, .int u4_4, .int u5_5, .int u6_6, .long u7_7])), (qt, .inl (kt, 900, .inl ft)), (qw, .inl (kw, 25, .inr (.inl fw)))]) hP hD [0, 1, 2] [] rfl rfl (by decide) (by decide) hk1 hFc hP1 hD1
  have hK := hK.app hK1
  generalize H1 = H at hP hS ⊢
  have hP : va_P (dC, dI) vwCl [(h0, .inr (8, [.ref qt, .ref qw, .int u2_2, .int u3_3, .int u4_4, .int u5_5, .int u6_6, .long u7_7])), (qt, .inl (kt, 900, .inl ft)), (qw, .inl (kw, 25, .inr (.inl fw)))] H := hP
  have hD : va_D A [(h0, .inr (8, [.ref qt, .ref qw, .int u2_2, .int u3_3, .int u4_4, .int u5_5, .int u6_6, .long u7_7])), (qt, .inl (kt, 900, .inl ft)), (qw, .inl (kw, 25, .inr (.inl fw)))] := hD
  have hK : va_K (dC, dI) vwCl [(kt, .int), (kw, .long), (kt, .int), (kw, .long)] s := hK
  have hK : va_K (dC, dI) vwCl [(kt, .int), (kw, .long)] s := hK.sub [0, 1] rfl
  have hP9 := hP.sub (ws' := [(h0, .inr (8, [.ref qt, .ref qw, .int u2_2, .int u3_3, .int u4_4, .int u5_5, .int u6_6, .long u7_7])), (qt, .inl (kt, 900, .inl ft)), (qw, .inl (kw, 25, .inr (.inl fw)))]) [0, 1, 2] rfl
  have hD9 := hD.sub (ws' := [(h0, .inr (8, [.ref qt, .ref qw, .int u2_2, .int u3_3, .int u4_4, .int u5_5, .int u6_6, .long u7_7])), (qt, .inl (kt, 900, .inl ft)), (qw, .inl (kw, 25, .inr (.inl fw)))]) [0, 1, 2] (by decide) rfl
  have hK9 := hK.sub (tys' := [(kt, .int), (kw, .long)]) [0, 1] rfl
  exact W.vret hx hb hr (fun t ht hW => ⟨⟨(), rfl, trivial, u2_2, u3_3, u4_4, u5_5, u6_6, u7_7, by rw [ht]; exact hP9, va_K.moved hW.alike hK9, hD9⟩, hS.F ht⟩) hS.2.2 dX9_start_14
theorem k_X9_stop_fieldLink_RX9_31_SR_Tokens_length_I : Cond.fieldLink RX9 31 "StatementRules2$Tokens" "length" "I" ∈ wzX9_stop := List.mem_cons_of_mem _ (List.mem_append_left _ (List.mem_of_getElem? (i := 0) rfl))
theorem i_X9_stop_X9 : ∀ w ∈ wsX90, w ∈ wzX9_stop := fun _ h => List.mem_cons_of_mem _ (List.mem_append_right _ (List.mem_append_left _ (h)))
theorem k_X9_stop_fieldLink_RX9_34_SR_Tokens_next_I : Cond.fieldLink RX9 34 "StatementRules2$Tokens" "next" "I" ∈ wzX9_stop := List.mem_cons_of_mem _ (List.mem_append_left _ (List.mem_of_getElem? (i := 1) rfl))
theorem k_X9_stop_fieldLink_RX9_40_SR_Tokens_type_I : Cond.fieldLink RX9 40 "StatementRules2$Tokens" "type" "I" ∈ wzX9_stop := List.mem_cons_of_mem _ (List.mem_append_left _ (List.mem_of_getElem? (i := 2) rfl))
set_option maxHeartbeats 4000000 in
set_option maxRecDepth 100000 in
theorem c_X9_stop (l : Launch) (dC : Nat → ClassId) (dI : Nat → Nat → Nat) (sz : Nat) (h0 : Nat) (t2 : Int32) (t3 : Int32) (t4 : Int32) (t5 : Int32) (t6 : Int32) (t7 : Int64) (qt : Nat) (kt : ClassId) (ft : Nat → Int32) (qw : Nat) (kw : ClassId) (fw : Nat → Int64) : Met l yX9_stop wzX9_stop ({ frames := 1, cells := 0, slots := 0, locals := 60 }) (va_Pc [.ref h0] (zPre dC dI sz [(h0, .inr (8, [.ref qt, .ref qw, .int t2, .int t3, .int t4, .int t5, .int t6, .long t7])), (qt, .inl (kt, 900, .inl ft)), (qw, .inl (kw, 25, .inr (.inl fw)))] [(kt, .int), (kw, .long)])) (va_Qv (fun (_ : Unit) => True) (fun (_ : Unit) (t : State) => ∃ (u2 : Int32), ∃ (u3 : Int32), ∃ (u4 : Int32), ∃ (u5 : Int32), ∃ (u6 : Int32), ∃ (u7 : Int64), zPost dC dI (va_A [(h0, .inr (8, [.ref qt, .ref qw, .int t2, .int t3, .int t4, .int t5, .int t6, .long t7])), (qt, .inl (kt, 900, .inl ft)), (qw, .inl (kw, 25, .inr (.inl fw)))] sz) [(h0, .inr (8, [.ref qt, .ref qw, .int u2, .int u3, .int u4, .int u5, .int u6, .long u7])), (qt, .inl (kt, 900, .inl ft)), (qw, .inl (kw, 25, .inr (.inl fw)))] [(kt, .int), (kw, .long)] t) (va_A [(h0, .inr (8, [.ref qt, .ref qw, .int t2, .int t3, .int t4, .int t5, .int t6, .long t7])), (qt, .inl (kt, 900, .inl ft)), (qw, .inl (kw, 25, .inr (.inl fw)))] sz)) 0 0 (va_A [(h0, .inr (8, [.ref qt, .ref qw, .int t2, .int t3, .int t4, .int t5, .int t6, .long t7])), (qt, .inl (kt, 900, .inl ft)), (qw, .inl (kw, 25, .inr (.inl fw)))] sz) := by
  refine Met.ofW (cc := cX9_stop) (maxL := 1) (ret := none) (by decide) rfl ?_
  intro p e s m args below meth c s₁ B hml hv
  obtain ⟨rfl, hsz, hZ, hP, hK, hD0⟩ := hv
  have hx := B.exec
  have hb := B.bytes
  have hr := B.returns
  have hts := atoms_spec (ws := wzX9_stop) B.pre
  have hown : s.vm.findClass RX9 = some m.cls := findClass_of_methodNamed B.named
  have hlocks := B.notSynchronized
  subst hsz
  have hD := hD0.self (sz := s.heap.size)
  generalize hAe : va_A [(h0, .inr (8, [.ref qt, .ref qw, .int t2, .int t3, .int t4, .int t5, .int t6, .long t7])), (qt, .inl (kt, 900, .inl ft)), (qw, .inl (kw, 25, .inr (.inl fw)))] s.heap.size = A at hD ⊢
  have hA : ∀ q : Nat, s.heap.size ≤ q → A q := fun q h => by rw [← hAe]; exact Or.inr h
  have hS : va_S A s.heap s.heap [] := va_S.rf
  have hP : va_P (dC, dI) vwCl [(h0, .inr (8, [.ref qt, .ref qw, .int t2, .int t3, .int t4, .int t5, .int t6, .long t7])), (qt, .inl (kt, 900, .inl ft)), (qw, .inl (kw, 25, .inr (.inl fw)))] s.heap := hP
  have hl := lv_entry ([.ref h0]) (n := 1) (Nat.le_of_ble_eq_true rfl)
  rw [lg_entry_eq]
  generalize (lg_sl ([.ref h0]) ++ List.replicate (1 - (lg_sl ([.ref h0])).length) Slot.unset).toArray = ls at hl ⊢
  have hl : lv_has ls 1 [(0, .ref h0)] := hl
  refine lv_aload_n hx hb dX9_stop_0 rfl (lv_at hl 0 rfl) ?_
  refine lv_aload_n hx hb dX9_stop_1 rfl (lv_at hl 0 rfl) ?_
  refine va_get (D := (dC, dI)) (ci := 8) (v := .int t2) (C := RX9) (T := TX9) (N := 8) hx hb hts i_X9_stop_X9 hown hK hP 0 rfl rfl 2 (by decide) (hts (.fieldLink RX9 31 "StatementRules2$Tokens" "length" "I") k_X9_stop_fieldLink_RX9_31_SR_Tokens_length_I) (fun _ h9 => h9) rfl dX9_stop_2 ?_
  refine va_put (D := (dC, dI)) (ci := 8) (v := .int t2) (ty := .int) (C := RX9) (T := TX9) (N := 8) hx hb hts i_X9_stop_X9 tyX9 tyX9_ok nmX9 hown hK hP hD hS 0 rfl rfl 3 (by decide) (hts (.fieldLink RX9 34 "StatementRules2$Tokens" "next" "I") k_X9_stop_fieldLink_RX9_34_SR_Tokens_next_I) (fun _ h9 => h9) rfl (by decide +kernel) rfl rfl (Nat.le_of_ble_eq_true rfl) dX9_stop_5 (fun H locs hP hD hS => ?_)
  have hP : va_P (dC, dI) vwCl [(h0, .inr (8, [.ref qt, .ref qw, .int t2, .int t2, .int t4, .int t5, .int t6, .long t7])), (qt, .inl (kt, 900, .inl ft)), (qw, .inl (kw, 25, .inr (.inl fw)))] H := hP
  have hD : va_D A [(h0, .inr (8, [.ref qt, .ref qw, .int t2, .int t2, .int t4, .int t5, .int t6, .long t7])), (qt, .inl (kt, 900, .inl ft)), (qw, .inl (kw, 25, .inr (.inl fw)))] := hD
  refine lv_aload_n hx hb dX9_stop_8 rfl (lv_at hl 0 rfl) ?_
  refine lv_iconst (v := 0) hx hb dX9_stop_9 (by decide) ?_
  refine va_put (D := (dC, dI)) (ci := 8) (v := .int 0) (ty := .int) (C := RX9) (T := TX9) (N := 8) hx hb hts i_X9_stop_X9 tyX9 tyX9_ok nmX9 hown hK hP hD hS 0 rfl rfl 4 (by decide) (hts (.fieldLink RX9 40 "StatementRules2$Tokens" "type" "I") k_X9_stop_fieldLink_RX9_40_SR_Tokens_type_I) (fun _ h9 => h9) rfl (by decide +kernel) rfl rfl (Nat.le_of_ble_eq_true rfl) dX9_stop_10 (fun H locs hP hD hS => ?_)
  have hP : va_P (dC, dI) vwCl [(h0, .inr (8, [.ref qt, .ref qw, .int t2, .int t2, .int 0, .int t5, .int t6, .long t7])), (qt, .inl (kt, 900, .inl ft)), (qw, .inl (kw, 25, .inr (.inl fw)))] H := hP
  have hD : va_D A [(h0, .inr (8, [.ref qt, .ref qw, .int t2, .int t2, .int 0, .int t5, .int t6, .long t7])), (qt, .inl (kt, 900, .inl ft)), (qw, .inl (kw, 25, .inr (.inl fw)))] := hD
  have hP9 := hP.sub (ws' := [(h0, .inr (8, [.ref qt, .ref qw, .int t2, .int t2, .int 0, .int t5, .int t6, .long t7])), (qt, .inl (kt, 900, .inl ft)), (qw, .inl (kw, 25, .inr (.inl fw)))]) [0, 1, 2] rfl
  have hD9 := hD.sub (ws' := [(h0, .inr (8, [.ref qt, .ref qw, .int t2, .int t2, .int 0, .int t5, .int t6, .long t7])), (qt, .inl (kt, 900, .inl ft)), (qw, .inl (kw, 25, .inr (.inl fw)))]) [0, 1, 2] (by decide) rfl
  have hK9 := hK.sub (tys' := [(kt, .int), (kw, .long)]) [0, 1] rfl
  exact W.vret hx hb hr (fun t ht hW => ⟨⟨(), rfl, trivial, t2, t2, 0, t5, t6, t7, by rw [ht]; exact hP9, va_K.moved hW.alike hK9, hD9⟩, hS.F ht⟩) hS.2.2 dX9_stop_13
