set_option maxHeartbeats 4000000 in
set_option maxRecDepth 100000 in
theorem c_X3_compares (l : Launch) (dC : Nat → ClassId) (dI : Nat → Nat → Nat) (Q : CQ) (N : Nat) (σ : CS) (x0 : Int32) (x1 : Int32) (x2 : Int32) (R : Int32 × CS) (hf : f_X3_compares N σ x0 x1 x2 = some R) : Met l yX3_compares wzX3_compares ({ frames := 1, cells := CS.hs R.2 - CS.hs σ, slots := 17 * (CS.hs R.2 - CS.hs σ), locals := 60 * 1 }) (va_Pc [.int x0, .int x1, .int x2] (zPre dC dI (CS.hs σ) (cW Q σ) (cT Q))) (va_Qi (fun (r : Int32) (_ : Unit) => r = R.1) (fun (_ : Unit) (t : State) => zPost dC dI (va_A (cW Q σ) (CS.hs σ)) (cW Q R.2) (cT Q) t ∧ t.heap.size = CS.hs R.2) (va_A (cW Q σ) (CS.hs σ))) (CS.hs R.2 - CS.hs σ) (17 * (CS.hs R.2 - CS.hs σ)) (va_A (cW Q σ) (CS.hs σ)) := by
  refine Met.ofW (cc := cX3_compares) (maxL := 3) (ret := (some .boolean)) (by decide) rfl ?_
  intro p e s m args below meth c s₁ B hml hv
  obtain ⟨rfl, hsz, hZ, hP, hK, hD0⟩ := hv
  have hx := B.exec
  have hb := B.bytes
  have hr := B.returns
  have hts := atoms_spec (ws := wzX3_compares) B.pre
  have hown : s.vm.findClass RX3 = some m.cls := findClass_of_methodNamed B.named
  have hlocks := B.notSynchronized
  have hD := hD0.self (sz := CS.hs σ)
  generalize hAe : va_A (cW Q σ) (CS.hs σ) = A at hD ⊢
  have hA : ∀ q : Nat, s.heap.size ≤ q → A q := fun q h => by rw [← hAe]; exact Or.inr (hsz ▸ h)
  have hC : CP dC dI Q A s.heap σ s.heap [] := ⟨hP, hD, va_S.rf, hsz⟩
  have h0 : CS.hs σ ≤ CS.hs σ := Nat.le_refl _
  have hl := lv_entry ([.int x0, .int x1, .int x2]) (n := 3) (Nat.le_of_ble_eq_true rfl)
  rw [lg_entry_eq]
  generalize (lg_sl ([.int x0, .int x1, .int x2]) ++ List.replicate (3 - (lg_sl ([.int x0, .int x1, .int x2])).length) Slot.unset).toArray = ls at hl ⊢
  have hl : lv_has ls 3 [(0, .int x0), (1, .int x1), (2, .int x2)] := hl
  unfold f_X3_compares at hf
  refine W.widen (k := CS.hs σ - CS.hs σ) (n := 17 * (CS.hs σ - CS.hs σ)) (Nat.zero_le _) (Nat.zero_le _) ?_
  refine lv_iload_n hx hb dX3_compares_0 rfl (lv_at hl 0 rfl) ?_
  by_cases c1 : x0 = 12
  ·
    replace hf := (if_pos c1).symm.trans hf
    refine lv_tableIn (off := 35) (tgt := 36) hx hb dX3_compares_1 (by rw [c1]; decide) (by rw [c1]; decide) (by rw [c1]; decide) (by decide) ?_
    refine lv_iload_n hx hb dX3_compares_36 rfl (lv_at hl 1 rfl) ?_
    refine lv_iload_n hx hb dX3_compares_37 rfl (lv_at hl 2 rfl) ?_
    refine lv_icmp_ge (tgt := 45) hx hb dX3_compares_38 (by decide) (fun c2 => ?_) (fun c2 => ?_)
    ·
      replace hf := (if_pos c2).symm.trans hf
      refine lv_iconst (v := 0) hx hb dX3_compares_45 (by decide) ?_
      obtain rfl := Option.some.inj hf
      exact W.zret (v := 0) hx hb hr (rfl) (fun t ht hW => ⟨⟨0, (), rfl, rfl, ⟨by rw [ht]; exact hC.1, va_K.moved hW.alike hK, hC.2.1⟩, by rw [ht]; exact hC.2.2.2⟩, hC.2.2.1.F ht⟩) hC.2.2.1.2.2 dX3_compares_46
    ·
      replace hf := (if_neg c2).symm.trans hf
      refine lv_iconst (v := 1) hx hb dX3_compares_41 (by decide) ?_
      refine lv_goto (tgt := 46) hx hb dX3_compares_42 (by decide) ?_
      obtain rfl := Option.some.inj hf
      exact W.zret (v := 1) hx hb hr (rfl) (fun t ht hW => ⟨⟨1, (), rfl, rfl, ⟨by rw [ht]; exact hC.1, va_K.moved hW.alike hK, hC.2.1⟩, by rw [ht]; exact hC.2.2.2⟩, hC.2.2.1.F ht⟩) hC.2.2.1.2.2 dX3_compares_46
  replace hf := (if_neg c1).symm.trans hf
  by_cases c3 : x0 = 13
  ·
    replace hf := (if_pos c3).symm.trans hf
    refine lv_tableIn (off := 46) (tgt := 47) hx hb dX3_compares_1 (by rw [c3]; decide) (by rw [c3]; decide) (by rw [c3]; decide) (by decide) ?_
    refine lv_iload_n hx hb dX3_compares_47 rfl (lv_at hl 1 rfl) ?_
    refine lv_iload_n hx hb dX3_compares_48 rfl (lv_at hl 2 rfl) ?_
    refine lv_icmp_gt (tgt := 56) hx hb dX3_compares_49 (by decide) (fun c4 => ?_) (fun c4 => ?_)
    ·
      replace hf := (if_pos c4).symm.trans hf
      refine lv_iconst (v := 0) hx hb dX3_compares_56 (by decide) ?_
      obtain rfl := Option.some.inj hf
      exact W.zret (v := 0) hx hb hr (rfl) (fun t ht hW => ⟨⟨0, (), rfl, rfl, ⟨by rw [ht]; exact hC.1, va_K.moved hW.alike hK, hC.2.1⟩, by rw [ht]; exact hC.2.2.2⟩, hC.2.2.1.F ht⟩) hC.2.2.1.2.2 dX3_compares_57
    ·
      replace hf := (if_neg c4).symm.trans hf
      refine lv_iconst (v := 1) hx hb dX3_compares_52 (by decide) ?_
      refine lv_goto (tgt := 57) hx hb dX3_compares_53 (by decide) ?_
      obtain rfl := Option.some.inj hf
      exact W.zret (v := 1) hx hb hr (rfl) (fun t ht hW => ⟨⟨1, (), rfl, rfl, ⟨by rw [ht]; exact hC.1, va_K.moved hW.alike hK, hC.2.1⟩, by rw [ht]; exact hC.2.2.2⟩, hC.2.2.1.F ht⟩) hC.2.2.1.2.2 dX3_compares_57
  replace hf := (if_neg c3).symm.trans hf
  by_cases c5 : x0 = 14
  ·
    replace hf := (if_pos c5).symm.trans hf
    refine lv_tableIn (off := 57) (tgt := 58) hx hb dX3_compares_1 (by rw [c5]; decide) (by rw [c5]; decide) (by rw [c5]; decide) (by decide) ?_
    refine lv_iload_n hx hb dX3_compares_58 rfl (lv_at hl 1 rfl) ?_
    refine lv_iload_n hx hb dX3_compares_59 rfl (lv_at hl 2 rfl) ?_
    refine lv_icmp_le (tgt := 67) hx hb dX3_compares_60 (by decide) (fun c6 => ?_) (fun c6 => ?_)
    ·
      replace hf := (if_pos c6).symm.trans hf
      refine lv_iconst (v := 0) hx hb dX3_compares_67 (by decide) ?_
      obtain rfl := Option.some.inj hf
      exact W.zret (v := 0) hx hb hr (rfl) (fun t ht hW => ⟨⟨0, (), rfl, rfl, ⟨by rw [ht]; exact hC.1, va_K.moved hW.alike hK, hC.2.1⟩, by rw [ht]; exact hC.2.2.2⟩, hC.2.2.1.F ht⟩) hC.2.2.1.2.2 dX3_compares_68
    ·
      replace hf := (if_neg c6).symm.trans hf
      refine lv_iconst (v := 1) hx hb dX3_compares_63 (by decide) ?_
      refine lv_goto (tgt := 68) hx hb dX3_compares_64 (by decide) ?_
      obtain rfl := Option.some.inj hf
      exact W.zret (v := 1) hx hb hr (rfl) (fun t ht hW => ⟨⟨1, (), rfl, rfl, ⟨by rw [ht]; exact hC.1, va_K.moved hW.alike hK, hC.2.1⟩, by rw [ht]; exact hC.2.2.2⟩, hC.2.2.1.F ht⟩) hC.2.2.1.2.2 dX3_compares_68
  replace hf := (if_neg c5).symm.trans hf
  by_cases c7 : x0 = 15
  ·
    replace hf := (if_pos c7).symm.trans hf
    refine lv_tableIn (off := 68) (tgt := 69) hx hb dX3_compares_1 (by rw [c7]; decide) (by rw [c7]; decide) (by rw [c7]; decide) (by decide) ?_
    refine lv_iload_n hx hb dX3_compares_69 rfl (lv_at hl 1 rfl) ?_
    refine lv_iload_n hx hb dX3_compares_70 rfl (lv_at hl 2 rfl) ?_
    refine lv_icmp_lt (tgt := 78) hx hb dX3_compares_71 (by decide) (fun c8 => ?_) (fun c8 => ?_)
    ·
      replace hf := (if_pos c8).symm.trans hf
      refine lv_iconst (v := 0) hx hb dX3_compares_78 (by decide) ?_
      obtain rfl := Option.some.inj hf
      exact W.zret (v := 0) hx hb hr (rfl) (fun t ht hW => ⟨⟨0, (), rfl, rfl, ⟨by rw [ht]; exact hC.1, va_K.moved hW.alike hK, hC.2.1⟩, by rw [ht]; exact hC.2.2.2⟩, hC.2.2.1.F ht⟩) hC.2.2.1.2.2 dX3_compares_79
    ·
      replace hf := (if_neg c8).symm.trans hf
      refine lv_iconst (v := 1) hx hb dX3_compares_74 (by decide) ?_
      refine lv_goto (tgt := 79) hx hb dX3_compares_75 (by decide) ?_
      obtain rfl := Option.some.inj hf
      exact W.zret (v := 1) hx hb hr (rfl) (fun t ht hW => ⟨⟨1, (), rfl, rfl, ⟨by rw [ht]; exact hC.1, va_K.moved hW.alike hK, hC.2.1⟩, by rw [ht]; exact hC.2.2.2⟩, hC.2.2.1.F ht⟩) hC.2.2.1.2.2 dX3_compares_79
  replace hf := (if_neg c7).symm.trans hf
  by_cases c9 : x0 = 16
  ·
    replace hf := (if_pos c9).symm.trans hf
    refine lv_tableIn (off := 79) (tgt := 80) hx hb dX3_compares_1 (by rw [c9]; decide) (by rw [c9]; decide) (by rw [c9]; decide) (by decide) ?_
    refine lv_iload_n hx hb dX3_compares_80 rfl (lv_at hl 1 rfl) ?_
    refine lv_iload_n hx hb dX3_compares_81 rfl (lv_at hl 2 rfl) ?_
    refine lv_icmp_ne (tgt := 89) hx hb dX3_compares_82 (by decide) (fun c10 => ?_) (fun c10 => ?_)
    ·
      replace hf := (if_neg c10).symm.trans hf
      refine lv_iconst (v := 0) hx hb dX3_compares_89 (by decide) ?_
      obtain rfl := Option.some.inj hf
      exact W.zret (v := 0) hx hb hr (rfl) (fun t ht hW => ⟨⟨0, (), rfl, rfl, ⟨by rw [ht]; exact hC.1, va_K.moved hW.alike hK, hC.2.1⟩, by rw [ht]; exact hC.2.2.2⟩, hC.2.2.1.F ht⟩) hC.2.2.1.2.2 dX3_compares_90
    ·
      replace hf := (if_pos c10).symm.trans hf
      refine lv_iconst (v := 1) hx hb dX3_compares_85 (by decide) ?_
      refine lv_goto (tgt := 90) hx hb dX3_compares_86 (by decide) ?_
      obtain rfl := Option.some.inj hf
      exact W.zret (v := 1) hx hb hr (rfl) (fun t ht hW => ⟨⟨1, (), rfl, rfl, ⟨by rw [ht]; exact hC.1, va_K.moved hW.alike hK, hC.2.1⟩, by rw [ht]; exact hC.2.2.2⟩, hC.2.2.1.F ht⟩) hC.2.2.1.2.2 dX3_compares_90
  replace hf := (if_neg c9).symm.trans hf
  refine lv_tableOut (tgt := 91) hx hb dX3_compares_1 (by have := z_ton (a := 12) c1 (by decide); have := z_ton (a := 13) c3 (by decide); have := z_ton (a := 14) c5 (by decide); have := z_ton (a := 15) c7 (by decide); have := z_ton (a := 16) c9 (by decide); omega) (by decide) ?_
  refine lv_iload_n hx hb dX3_compares_91 rfl (lv_at hl 1 rfl) ?_
  refine lv_iload_n hx hb dX3_compares_92 rfl (lv_at hl 2 rfl) ?_
  refine lv_icmp_eq (tgt := 100) hx hb dX3_compares_93 (by decide) (fun c11 => ?_) (fun c11 => ?_)
  ·
    replace hf := (if_pos c11).symm.trans hf
    refine lv_iconst (v := 0) hx hb dX3_compares_100 (by decide) ?_
    obtain rfl := Option.some.inj hf
    exact W.zret (v := 0) hx hb hr (rfl) (fun t ht hW => ⟨⟨0, (), rfl, rfl, ⟨by rw [ht]; exact hC.1, va_K.moved hW.alike hK, hC.2.1⟩, by rw [ht]; exact hC.2.2.2⟩, hC.2.2.1.F ht⟩) hC.2.2.1.2.2 dX3_compares_101
  ·
    replace hf := (if_neg c11).symm.trans hf
    refine lv_iconst (v := 1) hx hb dX3_compares_96 (by decide) ?_
    refine lv_goto (tgt := 101) hx hb dX3_compares_97 (by decide) ?_
    obtain rfl := Option.some.inj hf
    exact W.zret (v := 1) hx hb hr (rfl) (fun t ht hW => ⟨⟨1, (), rfl, rfl, ⟨by rw [ht]; exact hC.1, va_K.moved hW.alike hK, hC.2.1⟩, by rw [ht]; exact hC.2.2.2⟩, hC.2.2.1.F ht⟩) hC.2.2.1.2.2 dX3_compares_101
theorem k_X8_init_methodLink_RX8_3_objectInit : Cond.methodLink RX8 3 objectInit ∈ wzX8_init := List.mem_cons_of_mem _ (List.mem_append_left _ (List.mem_of_getElem? (i := 0) rfl))
theorem k_X8_init_instanceMethod_objectInit : Cond.instanceMethod objectInit ∈ wzX8_init := List.mem_cons_of_mem _ (List.mem_append_left _ (List.mem_of_getElem? (i := 1) rfl))
theorem k_X8_init_code_objectInit_0xb1_1_none : Cond.code objectInit ⟨#[0xb1]⟩ 1 none ∈ wzX8_init := List.mem_cons_of_mem _ (List.mem_append_left _ (List.mem_of_getElem? (i := 2) rfl))
theorem k_X8_init_arrayClass_int : Cond.arrayClass .int ∈ wzX8_init := List.mem_cons_of_mem _ (List.mem_append_left _ (List.mem_of_getElem? (i := 3) rfl))
theorem i_X8_init_X8 : ∀ w ∈ wsX80, w ∈ wzX8_init := fun _ h => List.mem_cons_of_mem _ (List.mem_append_right _ (List.mem_append_left _ (h)))
theorem k_X8_init_fieldLink_RX8_9_SR_Thrown_kinds_I : Cond.fieldLink RX8 9 "StatementRules2$Thrown" "kinds" "[I" ∈ wzX8_init := List.mem_cons_of_mem _ (List.mem_append_left _ (List.mem_of_getElem? (i := 4) rfl))
theorem k_X8_init_fieldLink_RX8_15_SR_Thrown_numbers_I : Cond.fieldLink RX8 15 "StatementRules2$Thrown" "numbers" "[I" ∈ wzX8_init := List.mem_cons_of_mem _ (List.mem_append_left _ (List.mem_of_getElem? (i := 5) rfl))
set_option maxHeartbeats 4000000 in
set_option maxRecDepth 100000 in
theorem c_X8_init (l : Launch) (dC : Nat → ClassId) (dI : Nat → Nat → Nat) (Q : CQ) (N : Nat) (σ : CS) (x0 : Nat) (R : Unit × CS) (hf : f_X8_init N σ x0 = some R) : Met l yX8_init wzX8_init ({ frames := 1, cells := CS.hs R.2 - CS.hs σ, slots := 17 * (CS.hs R.2 - CS.hs σ), locals := 60 * 1 }) (va_Pc [.ref x0] (zPre dC dI (CS.hs σ) (cW Q σ) (cT Q))) (va_Qv (fun (_ : Unit) => True) (fun (_ : Unit) (t : State) => zPost dC dI (va_A (cW Q σ) (CS.hs σ)) (cW Q R.2) (cT Q) t ∧ t.heap.size = CS.hs R.2) (va_A (cW Q σ) (CS.hs σ))) (CS.hs R.2 - CS.hs σ) (17 * (CS.hs R.2 - CS.hs σ)) (va_A (cW Q σ) (CS.hs σ)) := by
  refine Met.ofW (cc := cX8_init) (maxL := 1) (ret := none) (by decide) rfl ?_
  intro p e s m args below meth c s₁ B hml hv
  obtain ⟨rfl, hsz, hZ, hP, hK, hD0⟩ := hv
  have hx := B.exec
  have hb := B.bytes
  have hr := B.returns
  have hts := atoms_spec (ws := wzX8_init) B.pre
  have hown : s.vm.findClass RX8 = some m.cls := findClass_of_methodNamed B.named
  have hlocks := B.notSynchronized
  have hin : meth.name = "<init>" := (name_of_methodNamed B.named B.method).1
  have hD := hD0.self (sz := CS.hs σ)
  generalize hAe : va_A (cW Q σ) (CS.hs σ) = A at hD ⊢
  have hA : ∀ q : Nat, s.heap.size ≤ q → A q := fun q h => by rw [← hAe]; exact Or.inr (hsz ▸ h)
  have hC : CP dC dI Q A s.heap σ s.heap [] := ⟨hP, hD, va_S.rf, hsz⟩
  have h0 : CS.hs σ ≤ CS.hs σ := Nat.le_refl _
  have hl := lv_entry ([.ref x0]) (n := 1) (Nat.le_of_ble_eq_true rfl)
  rw [lg_entry_eq]
  generalize (lg_sl ([.ref x0]) ++ List.replicate (1 - (lg_sl ([.ref x0])).length) Slot.unset).toArray = ls at hl ⊢
  have hl : lv_has ls 1 [(0, .ref x0)] := hl
  unfold f_X8_init at hf
  refine W.widen (k := CS.hs σ - CS.hs σ) (n := 17 * (CS.hs σ - CS.hs σ)) (Nat.zero_le _) (Nat.zero_le _) ?_
  refine lv_aload_n hx hb dX8_init_0 rfl (lv_at hl 0 rfl) ?_
  refine W.objInit hx hb hown (hts (.methodLink RX8 3 objectInit) k_X8_init_methodLink_RX8_3_objectInit) (hts (.instanceMethod objectInit) k_X8_init_instanceMethod_objectInit) (hts (.code objectInit ⟨#[0xb1]⟩ 1 none) k_X8_init_code_objectInit_0xb1_1_none) rfl (by rw [hml]; exact hl.1) rfl dX8_init_1 (Nat.le_of_ble_eq_true rfl) (Nat.le_of_ble_eq_true rfl) ?_
  refine W.eq (g2 := F0 m 4 ls []) rfl ?_
  refine lv_aload_n hx hb dX8_init_4 rfl (lv_at hl 0 rfl) ?_
  refine lv_bipush (v := 8) hx hb dX8_init_5 (by decide) ?_
  have hn9 : CS.hs σ + 1 ≤ CS.hs R.2 := Mono.go hf (mono_ite (mono_ite (mono_le (Nat.le_succ _) (mono_ite (mono_ite (mono_some (Nat.le_refl _)) mono_none) mono_none)) mono_none) mono_none)
  refine cNew_a hx hb (hts (.arrayClass .int) k_X8_init_arrayClass_int) hK hC hA (cN1 h0 hn9) (cN2 (by decide) h0 hn9) dX8_init_7 (fun H hC => ?_)
  have h1 : (CS.hs σ) ≤ CS.hs σ + 1 := Nat.le_succ_of_le h0
  refine W.widen (k := (CS.hs σ + 1) - (CS.hs σ)) (n := 17 * ((CS.hs σ + 1) - (CS.hs σ))) (cN3 h0) (cN4 (by decide) h0) ?_
  obtain ⟨b2, hf⟩ := hf_ite hf
  obtain ⟨b3, hf⟩ := hf_ite hf
  refine cK0 hx hb hts i_X8_init_X8 hown hK hC hin (hts (.fieldLink RX8 9 "StatementRules2$Thrown" "kinds" "[I") k_X8_init_fieldLink_RX8_9_SR_Thrown_kinds_I) dX8_init_9 b2 b3 (fun H locs hC => ?_)
  refine lv_aload_n hx hb dX8_init_12 rfl (lv_at hl 0 rfl) ?_
  refine lv_bipush (v := 8) hx hb dX8_init_13 (by decide) ?_
  have hn9 : (CS.hs σ + 1) + 1 ≤ CS.hs R.2 := Mono.go hf (mono_ite (mono_ite (mono_some (Nat.le_refl _)) mono_none) mono_none)
  refine cNew_a hx hb (hts (.arrayClass .int) k_X8_init_arrayClass_int) hK hC hA (cN1 h1 hn9) (cN2 (by decide) h1 hn9) dX8_init_15 (fun H hC => ?_)
  have h4 : (CS.hs σ) ≤ (CS.hs σ + 1) + 1 := Nat.le_succ_of_le h1
  refine W.widen (k := ((CS.hs σ + 1) + 1) - (CS.hs σ)) (n := 17 * (((CS.hs σ + 1) + 1) - (CS.hs σ))) (cN3 h1) (cN4 (by decide) h1) ?_
  obtain ⟨b5, hf⟩ := hf_ite hf
  obtain ⟨b6, hf⟩ := hf_ite hf
  refine cK1 hx hb hts i_X8_init_X8 hown hK hC hin (hts (.fieldLink RX8 15 "StatementRules2$Thrown" "numbers" "[I") k_X8_init_fieldLink_RX8_15_SR_Thrown_numbers_I) dX8_init_17 b5 b6 (fun H locs hC => ?_)
  obtain rfl := Option.some.inj hf
  exact W.vret hx hb hr (fun t ht hW => ⟨⟨(), rfl, trivial, ⟨by rw [ht]; exact hC.1, va_K.moved hW.alike hK, hC.2.1⟩, by rw [ht]; exact hC.2.2.2⟩, hC.2.2.1.F ht⟩) hC.2.2.1.2.2 dX8_init_20
theorem k_X3_isHeld_fieldLink_RX3_60_SR_Machine_depth_I : Cond.fieldLink RX3 60 "StatementRules2$Machine" "depth" "I" ∈ wzX3_isHeld := List.mem_cons_of_mem _ (List.mem_append_left _ (List.mem_of_getElem? (i := 0) rfl))
theorem i_X3_isHeld_X3 : ∀ w ∈ wsX30, w ∈ wzX3_isHeld := fun _ h => List.mem_cons_of_mem _ (List.mem_append_right _ (List.mem_append_left _ (h)))
theorem k_X3_isHeld_fieldLink_RX3_20_SR_Machine_frames_LSR_Frame : Cond.fieldLink RX3 20 "StatementRules2$Machine" "frames" "[LStatementRules2$Frame;" ∈ wzX3_isHeld := List.mem_cons_of_mem _ (List.mem_append_left _ (List.mem_of_getElem? (i := 1) rfl))
theorem i_X3_isHeld_X2 : ∀ w ∈ wsX20, w ∈ wzX3_isHeld := fun _ h => List.mem_cons_of_mem _ (List.mem_append_right _ (List.mem_append_right _ (List.mem_append_left _ (h))))
set_option maxHeartbeats 4000000 in
set_option maxRecDepth 100000 in
theorem j_X3_isHeld_46 {p : Program} {e : Env} {s : State} {m : MethodId} {args : Array Value} {below : List Frame} {meth : Method} {c : Code} {A : Nat → Prop} (l : Launch) (dC : Nat → ClassId) (dI : Nat → Nat → Nat) (Q : CQ) (N : Nat) (z9h : Nat) (R : Int32 × CS) (hx : p.tables.exec = Jvm.exec) (hb : c.code = cX3_isHeld) (hr : meth.sig.returnType = (some .boolean)) (hml : c.maxLocals = 4) (hown : s.vm.findClass RX3 = some m.cls) (hts : ∀ w ∈ wzX3_isHeld, w.before args s = true) (hlocks : meth.locks = false) (hZ : zAMB s) (hA : ∀ q : Nat, s.heap.size ≤ q → A q) (hK : va_K (dC, dI) vwCl (cT Q) s) : ∀ (σ : CS) (H : Heap) (locs : List Loc) (ls : Array Slot), f_X3_isHeld_46 N σ = some R → z9h ≤ CS.hs σ → CP dC dI Q A s.heap σ H locs → lv_has ls 4 [] → W p l e ({ frames := 1, cells := CS.hs R.2 - z9h, slots := 17 * (CS.hs R.2 - z9h), locals := 60 * 1 }) s m args below meth c H locs (CS.hs σ - z9h) (17 * (CS.hs σ - z9h)) (MQ below (va_Qi (fun (r : Int32) (_ : Unit) => r = R.1) (fun (_ : Unit) (t : State) => zPost dC dI A (cW Q R.2) (cT Q) t ∧ t.heap.size = CS.hs R.2) A) args s (CS.hs R.2 - z9h) (17 * (CS.hs R.2 - z9h)) A) (F0 m 46 ls []) := by
  intro σ  H locs ls hf h0 hC hl
  unfold f_X3_isHeld_46 at hf
  refine lv_iconst (v := 0) hx hb dX3_isHeld_46 (by decide) ?_
  obtain rfl := Option.some.inj hf
  exact W.zret (v := 0) hx hb hr (rfl) (fun t ht hW => ⟨⟨0, (), rfl, rfl, ⟨by rw [ht]; exact hC.1, va_K.moved hW.alike hK, hC.2.1⟩, by rw [ht]; exact hC.2.2.2⟩, hC.2.2.1.F ht⟩) hC.2.2.1.2.2 dX3_isHeld_47
set_option maxHeartbeats 4000000 in
set_option maxRecDepth 100000 in
theorem j_X3_isHeld_2 {p : Program} {e : Env} {s : State} {m : MethodId} {args : Array Value} {below : List Frame} {meth : Method} {c : Code} {A : Nat → Prop} (l : Launch) (dC : Nat → ClassId) (dI : Nat → Nat → Nat) (Q : CQ) (N : Nat) (z9h : Nat) (R : Int32 × CS) (hx : p.tables.exec = Jvm.exec) (hb : c.code = cX3_isHeld) (hr : meth.sig.returnType = (some .boolean)) (hml : c.maxLocals = 4) (hown : s.vm.findClass RX3 = some m.cls) (hts : ∀ w ∈ wzX3_isHeld, w.before args s = true) (hlocks : meth.locks = false) (hZ : zAMB s) (hA : ∀ q : Nat, s.heap.size ≤ q → A q) (hK : va_K (dC, dI) vwCl (cT Q) s) : ∀ (n9 : Nat), ∀ (σ : CS) (x1 : Nat) (x2 : Int32) (H : Heap) (locs : List Loc) (ls : Array Slot), f_X3_isHeld_2 N n9 σ x1 x2 = some R → z9h ≤ CS.hs σ → CP dC dI Q A s.heap σ H locs → lv_has ls 4 [(0, .ref (Q.o 7)), (1, .ref x1), (2, .int x2)] → W p l e ({ frames := 1, cells := CS.hs R.2 - z9h, slots := 17 * (CS.hs R.2 - z9h), locals := 60 * 1 }) s m args below meth c H locs (CS.hs σ - z9h) (17 * (CS.hs σ - z9h)) (MQ below (va_Qi (fun (r : Int32) (_ : Unit) => r = R.1) (fun (_ : Unit) (t : State) => zPost dC dI A (cW Q R.2) (cT Q) t ∧ t.heap.size = CS.hs R.2) A) args s (CS.hs R.2 - z9h) (17 * (CS.hs R.2 - z9h)) A) (F0 m 2 ls []) := by
  intro n9
  induction n9 with
  | zero => intro σ x1 x2 H locs ls hf; exact absurd hf (by intro q9; cases q9)
  | succ n9 ih =>
    intro σ x1 x2 H locs ls hf h0 hC hl
    replace hf : b_X3_isHeld_2 N (f_X3_isHeld_2 N n9) σ x1 x2 = some R := hf
    unfold b_X3_isHeld_2 at hf
    have hMK := fun (σ : CS) (x1 : Nat) (x2 : Int32) => m_X3_isHeld_2 N n9 σ x1 x2
    refine lv_iload_n hx hb dX3_isHeld_2 rfl (lv_at hl 2 rfl) ?_
    refine lv_aload_n hx hb dX3_isHeld_3 rfl (lv_at hl 0 rfl) ?_
    refine cG_67 (v := (σ.i 67)) hx hb hts i_X3_isHeld_X3 hown hK hC (hts (.fieldLink RX3 60 "StatementRules2$Machine" "depth" "I") k_X3_isHeld_fieldLink_RX3_60_SR_Machine_depth_I) (fun _ q9 => q9) dX3_isHeld_4 rfl ?_
    refine lv_icmp_ge (tgt := 46) hx hb dX3_isHeld_7 (by decide) (fun c1 => ?_) (fun c1 => ?_)
    ·
      replace hf := (if_pos c1).symm.trans hf
      exact j_X3_isHeld_46 l dC dI Q N z9h R hx hb hr hml hown hts hlocks hZ hA hK σ _ _ _ hf h0 hC (lv_sub hl [] rfl)
    ·
      replace hf := (if_neg c1).symm.trans hf
      refine lv_iload_n hx hb dX3_isHeld_10 rfl (lv_at hl 2 rfl) ?_
      refine lv_aload_n hx hb dX3_isHeld_11 rfl (lv_at hl 0 rfl) ?_
      refine cG_61 hx hb hts i_X3_isHeld_X3 hown hK hC (hts (.fieldLink RX3 20 "StatementRules2$Machine" "frames" "[LStatementRules2$Frame;") k_X3_isHeld_fieldLink_RX3_20_SR_Machine_frames_LSR_Frame) (fun _ q9 => q9) dX3_isHeld_12 ?_
      refine va_alen (v := 24) hx hb hK hC.1 26 3 rfl rfl rfl dX3_isHeld_15 ?_
      refine lv_icmp_ge (tgt := 46) hx hb dX3_isHeld_16 (by decide) (fun c2 => ?_) (fun c2 => ?_)
      ·
        replace hf := (if_pos c2).symm.trans hf
        exact j_X3_isHeld_46 l dC dI Q N z9h R hx hb hr hml hown hts hlocks hZ hA hK σ _ _ _ hf h0 hC (lv_sub hl [] rfl)
      ·
        replace hf := (if_neg c2).symm.trans hf
        refine lv_aload_n hx hb dX3_isHeld_19 rfl (lv_at hl 0 rfl) ?_
        refine cG_61 hx hb hts i_X3_isHeld_X3 hown hK hC (hts (.fieldLink RX3 20 "StatementRules2$Machine" "frames" "[LStatementRules2$Frame;") k_X3_isHeld_fieldLink_RX3_20_SR_Machine_frames_LSR_Frame) (fun _ q9 => q9) dX3_isHeld_20 ?_
        refine lv_iload_n hx hb dX3_isHeld_23 rfl (lv_at hl 2 rfl) ?_
        obtain ⟨b3, hf⟩ := hf_ite hf
        refine cL_61 (v := (CS.r σ 61 ((x2 : Int32).toNatClampNeg))) hx hb hK hC b3 dX3_isHeld_24 rfl ?_
        rcases hf_oc hf with ⟨q4, hf⟩ | ⟨a5, q4, hf⟩
        ·
          refine W.eq (congrArg (fun v9 => F0 m 25 ls (va_rf v9 :: [])) q4) ?_
          refine W.eq (g2 := F0 m 25 ls (.null :: [])) rfl ?_
          refine lv_astore_nN (lv' := [(3, .null), (0, .ref (Q.o 7)), (1, .ref x1), (2, .int x2)]) hx hb dX3_isHeld_25 rfl hl (by decide) rfl (fun ls hl => ?_)
          refine lv_aload_nN hx hb dX3_isHeld_26 rfl (lv_at hl 0 rfl) ?_
          refine lv_ifnullN (tgt := 40) hx hb dX3_isHeld_27 (by decide) ?_
          refine lv_iinc (v := (x2 + 1)) (lv' := [(2, .int (x2 + 1)), (3, .null), (0, .ref (Q.o 7)), (1, .ref x1)]) hx hb dX3_isHeld_40 hl (k := 3) rfl rfl (by decide) rfl (fun ls hl => ?_)
          refine lv_goto (tgt := 2) hx hb dX3_isHeld_43 (by decide) ?_
          exact ih σ x1 (x2 + 1) _ _ _ hf h0 hC (lv_sub hl [2, 3, 0] rfl)
        ·
          refine W.eq (congrArg (fun v9 => F0 m 25 ls (va_rf v9 :: [])) q4) ?_
          refine W.eq (g2 := F0 m 25 ls (.ref a5 :: [])) rfl ?_
          refine lv_astore_n (lv' := [(3, .ref a5), (0, .ref (Q.o 7)), (1, .ref x1), (2, .int x2)]) hx hb dX3_isHeld_25 rfl hl (by decide) rfl (fun ls hl => ?_)
          refine lv_aload_n hx hb dX3_isHeld_26 rfl (lv_at hl 0 rfl) ?_
          refine lv_ifnull hx hb dX3_isHeld_27 ?_
          refine lv_aload_n hx hb dX3_isHeld_30 rfl (lv_at hl 0 rfl) ?_
          obtain ⟨b6, hf⟩ := hf_ite hf
          refine pGN_X2_4 (v := (CS.ot σ a5)) hx hb hts i_X3_isHeld_X2 hown hK hC (va_Nw.use rfl (hZ.1 (.fieldLinkNest RX3 204 "StatementRules2$Frame" "thrown" "LStatementRules2$Thrown;" "StatementRules2") (by decide +kernel))) (fun _ q9 => q9) dX3_isHeld_31 b6 rfl ?_
          rcases hf_oc hf with ⟨q7, hf⟩ | ⟨a8, q7, hf⟩
          ·
            refine W.eq (congrArg (fun v9 => F0 m 34 ls (va_rf v9 :: [])) q7) ?_
            refine W.eq (g2 := F0 m 34 ls (.null :: [])) rfl ?_
            refine lv_aload_n hx hb dX3_isHeld_34 rfl (lv_at hl 2 rfl) ?_
            refine lv_acmp_ne (rx := none) (ry := (some x1)) (tgt := 40) hx hb dX3_isHeld_35 (by decide) (fun c9 => ?_) (fun c9 => ?_)
            ·
              replace hf := (if_neg c9).symm.trans hf
              refine lv_iinc (v := (x2 + 1)) (lv' := [(2, .int (x2 + 1)), (3, .ref a5), (0, .ref (Q.o 7)), (1, .ref x1)]) hx hb dX3_isHeld_40 hl (k := 3) rfl rfl (by decide) rfl (fun ls hl => ?_)
              refine lv_goto (tgt := 2) hx hb dX3_isHeld_43 (by decide) ?_
              exact ih σ x1 (x2 + 1) _ _ _ hf h0 hC (lv_sub hl [2, 3, 0] rfl)
            ·
              replace hf := (if_pos c9).symm.trans hf
              refine lv_iconst (v := 1) hx hb dX3_isHeld_38 (by decide) ?_
              obtain rfl := Option.some.inj hf
              exact W.zret (v := 1) hx hb hr (rfl) (fun t ht hW => ⟨⟨1, (), rfl, rfl, ⟨by rw [ht]; exact hC.1, va_K.moved hW.alike hK, hC.2.1⟩, by rw [ht]; exact hC.2.2.2⟩, hC.2.2.1.F ht⟩) hC.2.2.1.2.2 dX3_isHeld_39
          ·
            refine W.eq (congrArg (fun v9 => F0 m 34 ls (va_rf v9 :: [])) q7) ?_
            refine W.eq (g2 := F0 m 34 ls (.ref a8 :: [])) rfl ?_
            refine lv_aload_n hx hb dX3_isHeld_34 rfl (lv_at hl 2 rfl) ?_
            refine lv_acmp_ne (rx := (some a8)) (ry := (some x1)) (tgt := 40) hx hb dX3_isHeld_35 (by decide) (fun c10 => ?_) (fun c10 => ?_)
            ·
              replace hf := (if_neg c10).symm.trans hf
              refine lv_iinc (v := (x2 + 1)) (lv' := [(2, .int (x2 + 1)), (3, .ref a5), (0, .ref (Q.o 7)), (1, .ref x1)]) hx hb dX3_isHeld_40 hl (k := 3) rfl rfl (by decide) rfl (fun ls hl => ?_)
              refine lv_goto (tgt := 2) hx hb dX3_isHeld_43 (by decide) ?_
              exact ih σ x1 (x2 + 1) _ _ _ hf h0 hC (lv_sub hl [2, 3, 0] rfl)
            ·
              replace hf := (if_pos c10).symm.trans hf
              refine lv_iconst (v := 1) hx hb dX3_isHeld_38 (by decide) ?_
              obtain rfl := Option.some.inj hf
              exact W.zret (v := 1) hx hb hr (rfl) (fun t ht hW => ⟨⟨1, (), rfl, rfl, ⟨by rw [ht]; exact hC.1, va_K.moved hW.alike hK, hC.2.1⟩, by rw [ht]; exact hC.2.2.2⟩, hC.2.2.1.F ht⟩) hC.2.2.1.2.2 dX3_isHeld_39
set_option maxHeartbeats 4000000 in
set_option maxRecDepth 100000 in
theorem c_X3_isHeld (l : Launch) (dC : Nat → ClassId) (dI : Nat → Nat → Nat) (Q : CQ) (N : Nat) (σ : CS) (x1 : Nat) (R : Int32 × CS) (hf : f_X3_isHeld N σ x1 = some R) : Met l yX3_isHeld wzX3_isHeld ({ frames := 1, cells := CS.hs R.2 - CS.hs σ, slots := 17 * (CS.hs R.2 - CS.hs σ), locals := 60 * 1 }) (va_Pc [.ref (Q.o 7), .ref x1] (zPre dC dI (CS.hs σ) (cW Q σ) (cT Q))) (va_Qi (fun (r : Int32) (_ : Unit) => r = R.1) (fun (_ : Unit) (t : State) => zPost dC dI (va_A (cW Q σ) (CS.hs σ)) (cW Q R.2) (cT Q) t ∧ t.heap.size = CS.hs R.2) (va_A (cW Q σ) (CS.hs σ))) (CS.hs R.2 - CS.hs σ) (17 * (CS.hs R.2 - CS.hs σ)) (va_A (cW Q σ) (CS.hs σ)) := by
  refine Met.ofW (cc := cX3_isHeld) (maxL := 4) (ret := (some .boolean)) (by decide) rfl ?_
  intro p e s m args below meth c s₁ B hml hv
  obtain ⟨rfl, hsz, hZ, hP, hK, hD0⟩ := hv
  have hx := B.exec
  have hb := B.bytes
  have hr := B.returns
  have hts := atoms_spec (ws := wzX3_isHeld) B.pre
  have hown : s.vm.findClass RX3 = some m.cls := findClass_of_methodNamed B.named
  have hlocks := B.notSynchronized
  have hD := hD0.self (sz := CS.hs σ)
  generalize hAe : va_A (cW Q σ) (CS.hs σ) = A at hD ⊢
  have hA : ∀ q : Nat, s.heap.size ≤ q → A q := fun q h => by rw [← hAe]; exact Or.inr (hsz ▸ h)
  have hC : CP dC dI Q A s.heap σ s.heap [] := ⟨hP, hD, va_S.rf, hsz⟩
  have h0 : CS.hs σ ≤ CS.hs σ := Nat.le_refl _
  have hl := lv_entry ([.ref (Q.o 7), .ref x1]) (n := 4) (Nat.le_of_ble_eq_true rfl)
  rw [lg_entry_eq]
  generalize (lg_sl ([.ref (Q.o 7), .ref x1]) ++ List.replicate (4 - (lg_sl ([.ref (Q.o 7), .ref x1])).length) Slot.unset).toArray = ls at hl ⊢
  have hl : lv_has ls 4 [(0, .ref (Q.o 7)), (1, .ref x1)] := hl
  unfold f_X3_isHeld at hf
  refine W.widen (k := CS.hs σ - CS.hs σ) (n := 17 * (CS.hs σ - CS.hs σ)) (Nat.zero_le _) (Nat.zero_le _) ?_
  refine lv_iconst (v := 0) hx hb dX3_isHeld_0 (by decide) ?_
  refine lv_istore_n (lv' := [(2, .int 0), (0, .ref (Q.o 7)), (1, .ref x1)]) hx hb dX3_isHeld_1 rfl hl (by decide) rfl (fun ls hl => ?_)
  exact j_X3_isHeld_2 l dC dI Q N (CS.hs σ) R hx hb hr hml hown hts hlocks hZ hA hK N σ x1 0 _ _ _ hf h0 hC (lv_sub hl [1, 2, 0] rfl)
theorem k_X3_freeThrown_fieldLink_RX3_26_SR_Machine_pool_LSR_Thrown : Cond.fieldLink RX3 26 "StatementRules2$Machine" "pool" "[LStatementRules2$Thrown;" ∈ wzX3_freeThrown := List.mem_cons_of_mem _ (List.mem_append_left _ (List.mem_of_getElem? (i := 0) rfl))
theorem i_X3_freeThrown_X3 : ∀ w ∈ wsX30, w ∈ wzX3_freeThrown := fun _ h => List.mem_cons_of_mem _ (List.mem_append_right _ (List.mem_append_left _ (h)))
theorem i_X3_freeThrown_X8 : ∀ w ∈ wsX80, w ∈ wzX3_freeThrown := fun _ h => List.mem_cons_of_mem _ (List.mem_append_right _ (List.mem_append_right _ (List.mem_append_left _ (h))))
theorem k_X3_freeThrown_classLink_RX3_24_RX8 : Cond.classLink RX3 24 RX8 ∈ wzX3_freeThrown := List.mem_cons_of_mem _ (List.mem_append_left _ (List.mem_of_getElem? (i := 1) rfl))
theorem k_X3_freeThrown_instantiable_RX8_5 : Cond.instantiable RX8 5 ∈ wzX3_freeThrown := List.mem_cons_of_mem _ (List.mem_append_left _ (List.mem_of_getElem? (i := 2) rfl))
theorem k_X3_freeThrown_initialized_RX8 : Cond.initialized RX8 ∈ wzX3_freeThrown := List.mem_cons_of_mem _ (List.mem_append_left _ (List.mem_of_getElem? (i := 3) rfl))
theorem k_X3_freeThrown_instanceMethod_yX8_init : Cond.instanceMethod yX8_init ∈ wzX3_freeThrown := List.mem_cons_of_mem _ (List.mem_append_left _ (List.mem_of_getElem? (i := 4) rfl))
set_option maxHeartbeats 4000000 in
set_option maxRecDepth 100000 in
theorem j_X3_freeThrown_2 {p : Program} {e : Env} {s : State} {m : MethodId} {args : Array Value} {below : List Frame} {meth : Method} {c : Code} {A : Nat → Prop} (l : Launch) (dC : Nat → ClassId) (dI : Nat → Nat → Nat) (Q : CQ) (N : Nat) (z9h : Nat) (R : Option Nat × CS) (hx : p.tables.exec = Jvm.exec) (hb : c.code = cX3_freeThrown) (hr : meth.sig.returnType = (some (.object "StatementRules2$Thrown"))) (hml : c.maxLocals = 2) (hown : s.vm.findClass RX3 = some m.cls) (hts : ∀ w ∈ wzX3_freeThrown, w.before args s = true) (hlocks : meth.locks = false) (hZ : zAMB s) (hA : ∀ q : Nat, s.heap.size ≤ q → A q) (hK : va_K (dC, dI) vwCl (cT Q) s) : ∀ (n9 : Nat), ∀ (σ : CS) (x1 : Int32) (H : Heap) (locs : List Loc) (ls : Array Slot), f_X3_freeThrown_2 N n9 σ x1 = some R → z9h ≤ CS.hs σ → CP dC dI Q A s.heap σ H locs → lv_has ls 2 [(0, .ref (Q.o 7)), (1, .int x1)] → W p l e ({ frames := 2, cells := CS.hs R.2 - z9h, slots := 17 * (CS.hs R.2 - z9h), locals := 60 * 2 }) s m args below meth c H locs (CS.hs σ - z9h) (17 * (CS.hs σ - z9h)) (MQ below (va_Qq (fun (r : Option Nat) (_ : Unit) => r = R.1) (fun (_ : Unit) (t : State) => zPost dC dI A (cW Q R.2) (cT Q) t ∧ t.heap.size = CS.hs R.2) A) args s (CS.hs R.2 - z9h) (17 * (CS.hs R.2 - z9h)) A) (F0 m 2 ls []) := by
  intro n9
  induction n9 with
  | zero => intro σ x1 H locs ls hf; exact absurd hf (by intro q9; cases q9)
  | succ n9 ih =>
    intro σ x1 H locs ls hf h0 hC hl
    replace hf : b_X3_freeThrown_2 N (f_X3_freeThrown_2 N n9) σ x1 = some R := hf
    unfold b_X3_freeThrown_2 at hf
    have hMK := fun (σ : CS) (x1 : Int32) => m_X3_freeThrown_2 N n9 σ x1
    refine lv_iload_n hx hb dX3_freeThrown_2 rfl (lv_at hl 1 rfl) ?_
    refine lv_aload_n hx hb dX3_freeThrown_3 rfl (lv_at hl 0 rfl) ?_
    refine cG_62 hx hb hts i_X3_freeThrown_X3 hown hK hC (hts (.fieldLink RX3 26 "StatementRules2$Machine" "pool" "[LStatementRules2$Thrown;") k_X3_freeThrown_fieldLink_RX3_26_SR_Machine_pool_LSR_Thrown) (fun _ q9 => q9) dX3_freeThrown_4 ?_
    refine va_alen (v := 24) hx hb hK hC.1 27 4 rfl rfl rfl dX3_freeThrown_7 ?_
    refine lv_icmp_ge (tgt := 59) hx hb dX3_freeThrown_8 (by decide) (fun c1 => ?_) (fun c1 => ?_)
    ·
      replace hf := (if_pos c1).symm.trans hf
      have hn9 : CS.hs σ + 1 ≤ CS.hs R.2 := Mono.go hf (mono_bind (m_X8_init N (CS.new σ 4) (CS.hs σ)) (fun p3 => (mono_some (Nat.le_refl _))))
      refine cNew_X8 hx hb hts i_X3_freeThrown_X8 hown (hts (.classLink RX3 24 RX8) k_X3_freeThrown_classLink_RX3_24_RX8) (hts (.instantiable RX8 5) k_X3_freeThrown_instantiable_RX8_5) (hts (.initialized RX8) k_X3_freeThrown_initialized_RX8) hK hC hA (cN1 h0 hn9) (cN2 (by decide) h0 hn9) dX3_freeThrown_59 (fun H hC => ?_)
      have h2 : z9h ≤ CS.hs σ + 1 := Nat.le_succ_of_le h0
      refine W.widen (k := (CS.hs σ + 1) - z9h) (n := 17 * ((CS.hs σ + 1) - z9h)) (cN3 h0) (cN4 (by decide) h0) ?_
      refine lv_dup hx hb dX3_freeThrown_62 rfl ?_
      obtain ⟨p3, hcp3, hf⟩ := hf_bind hf
      have mo4 : (CS.hs σ + 1) ≤ CS.hs p3.2 := Mono.go hcp3 (m_X8_init N (CS.new σ 4) (CS.hs σ))
      have hr9 : CS.hs p3.2 ≤ CS.hs R.2 := Mono.go hf (mono_some (Nat.le_refl _))
      have hFc := cFree hC hA
      refine va_callv (va_runIN (As := []) (rest := [.ref (CS.hs σ)]) ⟨hx, hb, hml, hown, hts⟩ (c_X8_init l dC dI Q N (CS.new σ 4) (CS.hs σ) p3 hcp3) ⟨va_cnB 0 hts hX3_freeThrown_X8_init_n241 rfl rfl rfl (hZ.1 (.methodLinkNest RX3 241 yX8_init "StatementRules2") (by decide +kernel)) (hts (.initialized RX8) k_X3_freeThrown_initialized_RX8) (by decide +kernel) ⟨(show 1 + 1 ≤ 2 by omega), (show 8 + (1 + 11) + 60 * 1 ≤ 60 * 2 by omega)⟩, rfl, (hts (.instanceMethod yX8_init) k_X3_freeThrown_instanceMethod_yX8_init)⟩ ⟨zPre.blind, cPre_go hZ hK hC⟩ rfl rfl hl.1 rfl (lv_room (Nat.le_of_ble_eq_true rfl)) dX3_freeThrown_63 (cAcc h2 mo4 hr9)) hC.2.2.1 (fun q _ h => hFc q h) hFc (fun u9 t9 H1 locs ht hvm hw hB hz1 hk1 hS => ?_)
      obtain ⟨⟨hP, hK1, hD1⟩, hsz1⟩ := hB
      rw [ht] at hP hsz1
      have hC : CP dC dI Q A s.heap p3.2 H1 locs := ⟨hP, hD1.weaken (fun _ _ _ h => hFc _ h), hS, hsz1⟩
      generalize H1 = H at hC ⊢
      have h6 : z9h ≤ CS.hs p3.2 := Nat.le_trans h2 mo4
      refine W.widen (k := CS.hs p3.2 - z9h) (n := 17 * (CS.hs p3.2 - z9h)) (cAcc2 h2 mo4) (cAcc3 h2 mo4) ?_
      obtain rfl := Option.some.inj hf
      exact W.aret (v := .ref (CS.hs σ)) hx hb hr (Or.inl ⟨_, rfl⟩) (Or.inr ⟨_, rfl⟩) (fun t ht hW => ⟨⟨(some (CS.hs σ)), (), rfl, rfl, ⟨by rw [ht]; exact hC.1, va_K.moved hW.alike hK, hC.2.1⟩, by rw [ht]; exact hC.2.2.2⟩, hC.2.2.1.F ht⟩) hC.2.2.1.2.2 dX3_freeThrown_66
    ·
      replace hf := (if_neg c1).symm.trans hf
      refine lv_aload_n hx hb dX3_freeThrown_11 rfl (lv_at hl 0 rfl) ?_
      refine cG_62 hx hb hts i_X3_freeThrown_X3 hown hK hC (hts (.fieldLink RX3 26 "StatementRules2$Machine" "pool" "[LStatementRules2$Thrown;") k_X3_freeThrown_fieldLink_RX3_26_SR_Machine_pool_LSR_Thrown) (fun _ q9 => q9) dX3_freeThrown_12 ?_
      refine lv_iload_n hx hb dX3_freeThrown_15 rfl (lv_at hl 1 rfl) ?_
      obtain ⟨b7, hf⟩ := hf_ite hf
      refine cL_62 (v := (CS.r σ 62 ((x1 : Int32).toNatClampNeg))) hx hb hK hC b7 dX3_freeThrown_16 rfl ?_
      rcases hf_oc hf with ⟨q8, hf⟩ | ⟨a9, q8, hf⟩
      ·
        refine W.eq (congrArg (fun v9 => F0 m 17 ls (va_rf v9 :: [])) q8) ?_
        refine W.eq (g2 := F0 m 17 ls (.null :: [])) rfl ?_
        refine lv_ifnonnullN hx hb dX3_freeThrown_17 ?_
        refine lv_aload_n hx hb dX3_freeThrown_20 rfl (lv_at hl 0 rfl) ?_
        refine cG_62 hx hb hts i_X3_freeThrown_X3 hown hK hC (hts (.fieldLink RX3 26 "StatementRules2$Machine" "pool" "[LStatementRules2$Thrown;") k_X3_freeThrown_fieldLink_RX3_26_SR_Machine_pool_LSR_Thrown) (fun _ q9 => q9) dX3_freeThrown_21 ?_
        refine lv_iload_n hx hb dX3_freeThrown_24 rfl (lv_at hl 1 rfl) ?_
        have hn9 : CS.hs σ + 1 ≤ CS.hs R.2 := Mono.go hf (mono_bind (m_X8_init N (CS.new σ 4) (CS.hs σ)) (fun p11 => (mono_ite (mono_ite (mono_oc mono_none (fun a18 => (mono_bind (m_X3_isHeld N (CS.setR p11.2 62 ((x1 : Int32).toNatClampNeg) (some (CS.hs σ))) a18) (fun p19 => (mono_ite (mono_oc (mono_some (Nat.le_refl _)) (fun a25 => (mono_some (Nat.le_refl _)))) (hMK p19.2 (x1 + 1))))))) mono_none) mono_none)))
        refine cNew_X8 hx hb hts i_X3_freeThrown_X8 hown (hts (.classLink RX3 24 RX8) k_X3_freeThrown_classLink_RX3_24_RX8) (hts (.instantiable RX8 5) k_X3_freeThrown_instantiable_RX8_5) (hts (.initialized RX8) k_X3_freeThrown_initialized_RX8) hK hC hA (cN1 h0 hn9) (cN2 (by decide) h0 hn9) dX3_freeThrown_25 (fun H hC => ?_)
        have h10 : z9h ≤ CS.hs σ + 1 := Nat.le_succ_of_le h0
        refine W.widen (k := (CS.hs σ + 1) - z9h) (n := 17 * ((CS.hs σ + 1) - z9h)) (cN3 h0) (cN4 (by decide) h0) ?_
        refine lv_dup hx hb dX3_freeThrown_28 rfl ?_
        obtain ⟨p11, hcp11, hf⟩ := hf_bind hf
        have mo12 : (CS.hs σ + 1) ≤ CS.hs p11.2 := Mono.go hcp11 (m_X8_init N (CS.new σ 4) (CS.hs σ))
        have hr9 : CS.hs p11.2 ≤ CS.hs R.2 := Mono.go hf (mono_ite (mono_ite (mono_oc mono_none (fun a18 => (mono_bind (m_X3_isHeld N (CS.setR p11.2 62 ((x1 : Int32).toNatClampNeg) (some (CS.hs σ))) a18) (fun p19 => (mono_ite (mono_oc (mono_some (Nat.le_refl _)) (fun a25 => (mono_some (Nat.le_refl _)))) (hMK p19.2 (x1 + 1))))))) mono_none) mono_none)
        have hFc := cFree hC hA
        refine va_callv (va_runIN (As := []) (rest := [.ref (CS.hs σ), .int x1, .ref (Q.q 62)]) ⟨hx, hb, hml, hown, hts⟩ (c_X8_init l dC dI Q N (CS.new σ 4) (CS.hs σ) p11 hcp11) ⟨va_cnB 0 hts hX3_freeThrown_X8_init_n241 rfl rfl rfl (hZ.1 (.methodLinkNest RX3 241 yX8_init "StatementRules2") (by decide +kernel)) (hts (.initialized RX8) k_X3_freeThrown_initialized_RX8) (by decide +kernel) ⟨(show 1 + 1 ≤ 2 by omega), (show 8 + (1 + 11) + 60 * 1 ≤ 60 * 2 by omega)⟩, rfl, (hts (.instanceMethod yX8_init) k_X3_freeThrown_instanceMethod_yX8_init)⟩ ⟨zPre.blind, cPre_go hZ hK hC⟩ rfl rfl hl.1 rfl (lv_room (Nat.le_of_ble_eq_true rfl)) dX3_freeThrown_29 (cAcc h10 mo12 hr9)) hC.2.2.1 (fun q _ h => hFc q h) hFc (fun u9 t9 H1 locs ht hvm hw hB hz1 hk1 hS => ?_)
        obtain ⟨⟨hP, hK1, hD1⟩, hsz1⟩ := hB
        rw [ht] at hP hsz1
        have hC : CP dC dI Q A s.heap p11.2 H1 locs := ⟨hP, hD1.weaken (fun _ _ _ h => hFc _ h), hS, hsz1⟩
        generalize H1 = H at hC ⊢
        have h14 : z9h ≤ CS.hs p11.2 := Nat.le_trans h10 mo12
        refine W.widen (k := CS.hs p11.2 - z9h) (n := 17 * (CS.hs p11.2 - z9h)) (cAcc2 h10 mo12) (cAcc3 h10 mo12) ?_
        obtain ⟨b15, hf⟩ := hf_ite hf
        obtain ⟨b16, hf⟩ := hf_ite hf
        refine cS_62 hx hb hK hC b15 dX3_freeThrown_32 b16 (fun H locs hC => ?_)
        refine lv_aload_n hx hb dX3_freeThrown_33 rfl (lv_at hl 0 rfl) ?_
        refine lv_aload_n hx hb dX3_freeThrown_34 rfl (lv_at hl 0 rfl) ?_
        refine cG_62 hx hb hts i_X3_freeThrown_X3 hown hK hC (hts (.fieldLink RX3 26 "StatementRules2$Machine" "pool" "[LStatementRules2$Thrown;") k_X3_freeThrown_fieldLink_RX3_26_SR_Machine_pool_LSR_Thrown) (fun _ q9 => q9) dX3_freeThrown_35 ?_
        refine lv_iload_n hx hb dX3_freeThrown_38 rfl (lv_at hl 1 rfl) ?_
        refine cL_62 (v := (CS.r (CS.setR p11.2 62 ((x1 : Int32).toNatClampNeg) (some (CS.hs σ))) 62 ((x1 : Int32).toNatClampNeg))) hx hb hK hC b15 dX3_freeThrown_39 rfl ?_
        rcases hf_oc hf with ⟨q17, hf⟩ | ⟨a18, q17, hf⟩
        ·
          refine W.eq (congrArg (fun v9 => F0 m 40 ls (va_rf v9 :: [.ref (Q.o 7)])) q17) ?_
          refine W.eq (g2 := F0 m 40 ls (.null :: [.ref (Q.o 7)])) rfl ?_
          cases hf
        ·
          refine W.eq (congrArg (fun v9 => F0 m 40 ls (va_rf v9 :: [.ref (Q.o 7)])) q17) ?_
          refine W.eq (g2 := F0 m 40 ls (.ref a18 :: [.ref (Q.o 7)])) rfl ?_
          obtain ⟨p19, hcp19, hf⟩ := hf_bind hf
          have mo20 : CS.hs p11.2 ≤ CS.hs p19.2 := Mono.go hcp19 (m_X3_isHeld N (CS.setR p11.2 62 ((x1 : Int32).toNatClampNeg) (some (CS.hs σ))) a18)
          have hr9 : CS.hs p19.2 ≤ CS.hs R.2 := Mono.go hf (mono_ite (mono_oc (mono_some (Nat.le_refl _)) (fun a25 => (mono_some (Nat.le_refl _)))) (hMK p19.2 (x1 + 1)))
          have hFc := cFree hC hA
          refine va_calli (va_runV (As := [.ref a18]) (rest := []) ⟨hx, hb, hml, hown, hts⟩ (c_X3_isHeld l dC dI Q N (CS.setR p11.2 62 ((x1 : Int32).toNatClampNeg) (some (CS.hs σ))) a18 p19 hcp19) (cwV 1 hts hX3_freeThrown_X3_isHeld_v242 rfl rfl rfl (by decide +kernel) ⟨(show 1 + 1 ≤ 2 by omega), (show 8 + (4 + 11) + 60 * 1 ≤ 60 * 2 by omega)⟩) ⟨zPre.blind, va_recv hK hC.1 (ci := 2) (q0 := 7) rfl rfl, cPre_go hZ hK hC⟩ rfl rfl hl.1 rfl (lv_room (Nat.le_of_ble_eq_true rfl)) dX3_freeThrown_40 (cAcc h14 mo20 hr9)) hC.2.2.1 (fun q _ h => hFc q h) hFc (fun r21 u9 t9 H1 locs ht hvm hw hB hz1 hk1 hS => ?_)
          obtain ⟨⟨hP, hK1, hD1⟩, hsz1⟩ := hB
          rw [ht] at hP hsz1
          have hC : CP dC dI Q A s.heap p19.2 H1 locs := ⟨hP, hD1.weaken (fun _ _ _ h => hFc _ h), hS, hsz1⟩
          generalize H1 = H at hC ⊢
          have h22 : z9h ≤ CS.hs p19.2 := Nat.le_trans h14 mo20
          refine W.widen (k := CS.hs p19.2 - z9h) (n := 17 * (CS.hs p19.2 - z9h)) (cAcc2 h14 mo20) (cAcc3 h14 mo20) ?_
          obtain rfl : r21 = p19.1 := hw
          refine lv_if_ne (tgt := 53) hx hb dX3_freeThrown_43 (by decide) (fun c23 => ?_) (fun c23 => ?_)
          ·
            replace hf := (if_neg c23).symm.trans hf
            refine lv_iinc (v := (x1 + 1)) (lv' := [(1, .int (x1 + 1)), (0, .ref (Q.o 7))]) hx hb dX3_freeThrown_53 hl (k := 1) rfl rfl (by decide) rfl (fun ls hl => ?_)
            refine lv_goto (tgt := 2) hx hb dX3_freeThrown_56 (by decide) ?_
            exact ih p19.2 (x1 + 1) _ _ _ hf h22 hC (lv_sub hl [1, 0] rfl)
          ·
            replace hf := (if_pos c23).symm.trans hf
            refine lv_aload_n hx hb dX3_freeThrown_46 rfl (lv_at hl 0 rfl) ?_
            refine cG_62 hx hb hts i_X3_freeThrown_X3 hown hK hC (hts (.fieldLink RX3 26 "StatementRules2$Machine" "pool" "[LStatementRules2$Thrown;") k_X3_freeThrown_fieldLink_RX3_26_SR_Machine_pool_LSR_Thrown) (fun _ q9 => q9) dX3_freeThrown_47 ?_
            refine lv_iload_n hx hb dX3_freeThrown_50 rfl (lv_at hl 1 rfl) ?_
            refine cL_62 (v := (CS.r p19.2 62 ((x1 : Int32).toNatClampNeg))) hx hb hK hC b15 dX3_freeThrown_51 rfl ?_
            rcases hf_oc hf with ⟨q24, hf⟩ | ⟨a25, q24, hf⟩
            ·
              refine W.eq (congrArg (fun v9 => F0 m 52 ls (va_rf v9 :: [])) q24) ?_
              refine W.eq (g2 := F0 m 52 ls (.null :: [])) rfl ?_
              obtain rfl := Option.some.inj hf
              exact W.aret (v := .null) hx hb hr (Or.inl ⟨_, rfl⟩) (Or.inl rfl) (fun t ht hW => ⟨⟨none, (), rfl, rfl, ⟨by rw [ht]; exact hC.1, va_K.moved hW.alike hK, hC.2.1⟩, by rw [ht]; exact hC.2.2.2⟩, hC.2.2.1.F ht⟩) hC.2.2.1.2.2 dX3_freeThrown_52
            ·
              refine W.eq (congrArg (fun v9 => F0 m 52 ls (va_rf v9 :: [])) q24) ?_
              refine W.eq (g2 := F0 m 52 ls (.ref a25 :: [])) rfl ?_
              obtain rfl := Option.some.inj hf
              exact W.aret (v := .ref a25) hx hb hr (Or.inl ⟨_, rfl⟩) (Or.inr ⟨_, rfl⟩) (fun t ht hW => ⟨⟨(some a25), (), rfl, rfl, ⟨by rw [ht]; exact hC.1, va_K.moved hW.alike hK, hC.2.1⟩, by rw [ht]; exact hC.2.2.2⟩, hC.2.2.1.F ht⟩) hC.2.2.1.2.2 dX3_freeThrown_52
      ·
        refine W.eq (congrArg (fun v9 => F0 m 17 ls (va_rf v9 :: [])) q8) ?_
        refine W.eq (g2 := F0 m 17 ls (.ref a9 :: [])) rfl ?_
        refine lv_ifnonnull (tgt := 33) hx hb dX3_freeThrown_17 (by decide) ?_
        refine lv_aload_n hx hb dX3_freeThrown_33 rfl (lv_at hl 0 rfl) ?_
        refine lv_aload_n hx hb dX3_freeThrown_34 rfl (lv_at hl 0 rfl) ?_
        refine cG_62 hx hb hts i_X3_freeThrown_X3 hown hK hC (hts (.fieldLink RX3 26 "StatementRules2$Machine" "pool" "[LStatementRules2$Thrown;") k_X3_freeThrown_fieldLink_RX3_26_SR_Machine_pool_LSR_Thrown) (fun _ q9 => q9) dX3_freeThrown_35 ?_
        refine lv_iload_n hx hb dX3_freeThrown_38 rfl (lv_at hl 1 rfl) ?_
        refine cL_62 (v := (CS.r σ 62 ((x1 : Int32).toNatClampNeg))) hx hb hK hC b7 dX3_freeThrown_39 rfl ?_
        rcases hf_oc hf with ⟨q26, hf⟩ | ⟨a27, q26, hf⟩
        ·
          refine W.eq (congrArg (fun v9 => F0 m 40 ls (va_rf v9 :: [.ref (Q.o 7)])) q26) ?_
          refine W.eq (g2 := F0 m 40 ls (.null :: [.ref (Q.o 7)])) rfl ?_
          cases hf
        ·
          refine W.eq (congrArg (fun v9 => F0 m 40 ls (va_rf v9 :: [.ref (Q.o 7)])) q26) ?_
          refine W.eq (g2 := F0 m 40 ls (.ref a27 :: [.ref (Q.o 7)])) rfl ?_
          obtain ⟨p28, hcp28, hf⟩ := hf_bind hf
          have mo29 : CS.hs σ ≤ CS.hs p28.2 := Mono.go hcp28 (m_X3_isHeld N σ a27)
          have hr9 : CS.hs p28.2 ≤ CS.hs R.2 := Mono.go hf (mono_ite (mono_oc (mono_some (Nat.le_refl _)) (fun a34 => (mono_some (Nat.le_refl _)))) (hMK p28.2 (x1 + 1)))
          have hFc := cFree hC hA
          refine va_calli (va_runV (As := [.ref a27]) (rest := []) ⟨hx, hb, hml, hown, hts⟩ (c_X3_isHeld l dC dI Q N σ a27 p28 hcp28) (cwV 1 hts hX3_freeThrown_X3_isHeld_v242 rfl rfl rfl (by decide +kernel) ⟨(show 1 + 1 ≤ 2 by omega), (show 8 + (4 + 11) + 60 * 1 ≤ 60 * 2 by omega)⟩) ⟨zPre.blind, va_recv hK hC.1 (ci := 2) (q0 := 7) rfl rfl, cPre_go hZ hK hC⟩ rfl rfl hl.1 rfl (lv_room (Nat.le_of_ble_eq_true rfl)) dX3_freeThrown_40 (cAcc h0 mo29 hr9)) hC.2.2.1 (fun q _ h => hFc q h) hFc (fun r30 u9 t9 H1 locs ht hvm hw hB hz1 hk1 hS => ?_)
          obtain ⟨⟨hP, hK1, hD1⟩, hsz1⟩ := hB
          rw [ht] at hP hsz1
          have hC : CP dC dI Q A s.heap p28.2 H1 locs := ⟨hP, hD1.weaken (fun _ _ _ h => hFc _ h), hS, hsz1⟩
          generalize H1 = H at hC ⊢
          have h31 : z9h ≤ CS.hs p28.2 := Nat.le_trans h0 mo29
          refine W.widen (k := CS.hs p28.2 - z9h) (n := 17 * (CS.hs p28.2 - z9h)) (cAcc2 h0 mo29) (cAcc3 h0 mo29) ?_
          obtain rfl : r30 = p28.1 := hw
          refine lv_if_ne (tgt := 53) hx hb dX3_freeThrown_43 (by decide) (fun c32 => ?_) (fun c32 => ?_)
          ·
            replace hf := (if_neg c32).symm.trans hf
            refine lv_iinc (v := (x1 + 1)) (lv' := [(1, .int (x1 + 1)), (0, .ref (Q.o 7))]) hx hb dX3_freeThrown_53 hl (k := 1) rfl rfl (by decide) rfl (fun ls hl => ?_)
            refine lv_goto (tgt := 2) hx hb dX3_freeThrown_56 (by decide) ?_
            exact ih p28.2 (x1 + 1) _ _ _ hf h31 hC (lv_sub hl [1, 0] rfl)
          ·
            replace hf := (if_pos c32).symm.trans hf
            refine lv_aload_n hx hb dX3_freeThrown_46 rfl (lv_at hl 0 rfl) ?_
            refine cG_62 hx hb hts i_X3_freeThrown_X3 hown hK hC (hts (.fieldLink RX3 26 "StatementRules2$Machine" "pool" "[LStatementRules2$Thrown;") k_X3_freeThrown_fieldLink_RX3_26_SR_Machine_pool_LSR_Thrown) (fun _ q9 => q9) dX3_freeThrown_47 ?_
            refine lv_iload_n hx hb dX3_freeThrown_50 rfl (lv_at hl 1 rfl) ?_
            refine cL_62 (v := (CS.r p28.2 62 ((x1 : Int32).toNatClampNeg))) hx hb hK hC b7 dX3_freeThrown_51 rfl ?_
            rcases hf_oc hf with ⟨q33, hf⟩ | ⟨a34, q33, hf⟩
            ·
              refine W.eq (congrArg (fun v9 => F0 m 52 ls (va_rf v9 :: [])) q33) ?_
              refine W.eq (g2 := F0 m 52 ls (.null :: [])) rfl ?_
              obtain rfl := Option.some.inj hf
              exact W.aret (v := .null) hx hb hr (Or.inl ⟨_, rfl⟩) (Or.inl rfl) (fun t ht hW => ⟨⟨none, (), rfl, rfl, ⟨by rw [ht]; exact hC.1, va_K.moved hW.alike hK, hC.2.1⟩, by rw [ht]; exact hC.2.2.2⟩, hC.2.2.1.F ht⟩) hC.2.2.1.2.2 dX3_freeThrown_52
            ·
              refine W.eq (congrArg (fun v9 => F0 m 52 ls (va_rf v9 :: [])) q33) ?_
              refine W.eq (g2 := F0 m 52 ls (.ref a34 :: [])) rfl ?_
              obtain rfl := Option.some.inj hf
              exact W.aret (v := .ref a34) hx hb hr (Or.inl ⟨_, rfl⟩) (Or.inr ⟨_, rfl⟩) (fun t ht hW => ⟨⟨(some a34), (), rfl, rfl, ⟨by rw [ht]; exact hC.1, va_K.moved hW.alike hK, hC.2.1⟩, by rw [ht]; exact hC.2.2.2⟩, hC.2.2.1.F ht⟩) hC.2.2.1.2.2 dX3_freeThrown_52
set_option maxHeartbeats 4000000 in
set_option maxRecDepth 100000 in
theorem c_X3_freeThrown (l : Launch) (dC : Nat → ClassId) (dI : Nat → Nat → Nat) (Q : CQ) (N : Nat) (σ : CS) (R : Option Nat × CS) (hf : f_X3_freeThrown N σ = some R) : Met l yX3_freeThrown wzX3_freeThrown ({ frames := 2, cells := CS.hs R.2 - CS.hs σ, slots := 17 * (CS.hs R.2 - CS.hs σ), locals := 60 * 2 }) (va_Pc [.ref (Q.o 7)] (zPre dC dI (CS.hs σ) (cW Q σ) (cT Q))) (va_Qq (fun (r : Option Nat) (_ : Unit) => r = R.1) (fun (_ : Unit) (t : State) => zPost dC dI (va_A (cW Q σ) (CS.hs σ)) (cW Q R.2) (cT Q) t ∧ t.heap.size = CS.hs R.2) (va_A (cW Q σ) (CS.hs σ))) (CS.hs R.2 - CS.hs σ) (17 * (CS.hs R.2 - CS.hs σ)) (va_A (cW Q σ) (CS.hs σ)) := by
  refine Met.ofW (cc := cX3_freeThrown) (maxL := 2) (ret := (some (.object "StatementRules2$Thrown"))) (by decide) rfl ?_
  intro p e s m args below meth c s₁ B hml hv
  obtain ⟨rfl, hsz, hZ, hP, hK, hD0⟩ := hv
  have hx := B.exec
  have hb := B.bytes
  have hr := B.returns
  have hts := atoms_spec (ws := wzX3_freeThrown) B.pre
  have hown : s.vm.findClass RX3 = some m.cls := findClass_of_methodNamed B.named
  have hlocks := B.notSynchronized
  have hD := hD0.self (sz := CS.hs σ)
  generalize hAe : va_A (cW Q σ) (CS.hs σ) = A at hD ⊢
  have hA : ∀ q : Nat, s.heap.size ≤ q → A q := fun q h => by rw [← hAe]; exact Or.inr (hsz ▸ h)
  have hC : CP dC dI Q A s.heap σ s.heap [] := ⟨hP, hD, va_S.rf, hsz⟩
  have h0 : CS.hs σ ≤ CS.hs σ := Nat.le_refl _
  have hl := lv_entry ([.ref (Q.o 7)]) (n := 2) (Nat.le_of_ble_eq_true rfl)
  rw [lg_entry_eq]
  generalize (lg_sl ([.ref (Q.o 7)]) ++ List.replicate (2 - (lg_sl ([.ref (Q.o 7)])).length) Slot.unset).toArray = ls at hl ⊢
  have hl : lv_has ls 2 [(0, .ref (Q.o 7))] := hl
  unfold f_X3_freeThrown at hf
  refine W.widen (k := CS.hs σ - CS.hs σ) (n := 17 * (CS.hs σ - CS.hs σ)) (Nat.zero_le _) (Nat.zero_le _) ?_
  refine lv_iconst (v := 0) hx hb dX3_freeThrown_0 (by decide) ?_
  refine lv_istore_n (lv' := [(1, .int 0), (0, .ref (Q.o 7))]) hx hb dX3_freeThrown_1 rfl hl (by decide) rfl (fun ls hl => ?_)
  exact j_X3_freeThrown_2 l dC dI Q N (CS.hs σ) R hx hb hr hml hown hts hlocks hZ hA hK N σ 0 _ _ _ hf h0 hC (lv_sub hl [1, 0] rfl)
theorem k_X3_go_fieldLink_RX3_75_SR_Machine_way_I : Cond.fieldLink RX3 75 "StatementRules2$Machine" "way" "I" ∈ wzX3_go := List.mem_cons_of_mem _ (List.mem_append_left _ (List.mem_of_getElem? (i := 0) rfl))
theorem i_X3_go_X3 : ∀ w ∈ wsX30, w ∈ wzX3_go := fun _ h => List.mem_cons_of_mem _ (List.mem_append_right _ (List.mem_append_left _ (h)))
theorem k_X3_go_fieldLink_RX3_78_SR_Machine_wayValue_I : Cond.fieldLink RX3 78 "StatementRules2$Machine" "wayValue" "I" ∈ wzX3_go := List.mem_cons_of_mem _ (List.mem_append_left _ (List.mem_of_getElem? (i := 1) rfl))
theorem k_X3_go_fieldLink_RX3_235_SR_Machine_wayTarget_I : Cond.fieldLink RX3 235 "StatementRules2$Machine" "wayTarget" "I" ∈ wzX3_go := List.mem_cons_of_mem _ (List.mem_append_left _ (List.mem_of_getElem? (i := 2) rfl))
set_option maxHeartbeats 4000000 in
set_option maxRecDepth 100000 in
theorem c_X3_go (l : Launch) (dC : Nat → ClassId) (dI : Nat → Nat → Nat) (Q : CQ) (N : Nat) (σ : CS) (x1 : Int32) (x2 : Int32) (x3 : Int32) (R : Unit × CS) (hf : f_X3_go N σ x1 x2 x3 = some R) : Met l yX3_go wzX3_go ({ frames := 1, cells := CS.hs R.2 - CS.hs σ, slots := 17 * (CS.hs R.2 - CS.hs σ), locals := 60 * 1 }) (va_Pc [.ref (Q.o 7), .int x1, .int x2, .int x3] (zPre dC dI (CS.hs σ) (cW Q σ) (cT Q))) (va_Qv (fun (_ : Unit) => True) (fun (_ : Unit) (t : State) => zPost dC dI (va_A (cW Q σ) (CS.hs σ)) (cW Q R.2) (cT Q) t ∧ t.heap.size = CS.hs R.2) (va_A (cW Q σ) (CS.hs σ))) (CS.hs R.2 - CS.hs σ) (17 * (CS.hs R.2 - CS.hs σ)) (va_A (cW Q σ) (CS.hs σ)) := by
  refine Met.ofW (cc := cX3_go) (maxL := 4) (ret := none) (by decide) rfl ?_
  intro p e s m args below meth c s₁ B hml hv
  obtain ⟨rfl, hsz, hZ, hP, hK, hD0⟩ := hv
  have hx := B.exec
  have hb := B.bytes
  have hr := B.returns
  have hts := atoms_spec (ws := wzX3_go) B.pre
  have hown : s.vm.findClass RX3 = some m.cls := findClass_of_methodNamed B.named
  have hlocks := B.notSynchronized
  have hD := hD0.self (sz := CS.hs σ)
  generalize hAe : va_A (cW Q σ) (CS.hs σ) = A at hD ⊢
  have hA : ∀ q : Nat, s.heap.size ≤ q → A q := fun q h => by rw [← hAe]; exact Or.inr (hsz ▸ h)
  have hC : CP dC dI Q A s.heap σ s.heap [] := ⟨hP, hD, va_S.rf, hsz⟩
  have h0 : CS.hs σ ≤ CS.hs σ := Nat.le_refl _
  have hl := lv_entry ([.ref (Q.o 7), .int x1, .int x2, .int x3]) (n := 4) (Nat.le_of_ble_eq_true rfl)
  rw [lg_entry_eq]
  generalize (lg_sl ([.ref (Q.o 7), .int x1, .int x2, .int x3]) ++ List.replicate (4 - (lg_sl ([.ref (Q.o 7), .int x1, .int x2, .int x3])).length) Slot.unset).toArray = ls at hl ⊢
  have hl : lv_has ls 4 [(0, .ref (Q.o 7)), (1, .int x1), (2, .int x2), (3, .int x3)] := hl
  unfold f_X3_go at hf
  refine W.widen (k := CS.hs σ - CS.hs σ) (n := 17 * (CS.hs σ - CS.hs σ)) (Nat.zero_le _) (Nat.zero_le _) ?_
  refine lv_aload_n hx hb dX3_go_0 rfl (lv_at hl 0 rfl) ?_
  refine lv_iload_n hx hb dX3_go_1 rfl (lv_at hl 1 rfl) ?_
  refine cP_73 (v := x1) hx hb hts i_X3_go_X3 hown hK hC (hts (.fieldLink RX3 75 "StatementRules2$Machine" "way" "I") k_X3_go_fieldLink_RX3_75_SR_Machine_way_I) (fun _ q9 => q9) dX3_go_2 (fun H locs hC => ?_)
  refine lv_aload_n hx hb dX3_go_5 rfl (lv_at hl 0 rfl) ?_
  refine lv_iload_n hx hb dX3_go_6 rfl (lv_at hl 2 rfl) ?_
  refine cP_74 (v := x2) hx hb hts i_X3_go_X3 hown hK hC (hts (.fieldLink RX3 78 "StatementRules2$Machine" "wayValue" "I") k_X3_go_fieldLink_RX3_78_SR_Machine_wayValue_I) (fun _ q9 => q9) dX3_go_7 (fun H locs hC => ?_)
  refine lv_aload_n hx hb dX3_go_10 rfl (lv_at hl 0 rfl) ?_
  refine lv_iload_n hx hb dX3_go_11 rfl (lv_at hl 3 rfl) ?_
  refine cP_75 (v := x3) hx hb hts i_X3_go_X3 hown hK hC (hts (.fieldLink RX3 235 "StatementRules2$Machine" "wayTarget" "I") k_X3_go_fieldLink_RX3_235_SR_Machine_wayTarget_I) (fun _ q9 => q9) dX3_go_12 (fun H locs hC => ?_)
  obtain rfl := Option.some.inj hf
  exact W.vret hx hb hr (fun t ht hW => ⟨⟨(), rfl, trivial, ⟨by rw [ht]; exact hC.1, va_K.moved hW.alike hK, hC.2.1⟩, by rw [ht]; exact hC.2.2.2⟩, hC.2.2.1.F ht⟩) hC.2.2.1.2.2 dX3_go_15
theorem k_X3_raise_fieldLink_RX3_81_SR_Machine_wayThrown_LSR_Thrown : Cond.fieldLink RX3 81 "StatementRules2$Machine" "wayThrown" "LStatementRules2$Thrown;" ∈ wzX3_raise := List.mem_cons_of_mem _ (List.mem_append_left _ (List.mem_of_getElem? (i := 0) rfl))
theorem i_X3_raise_X3 : ∀ w ∈ wsX30, w ∈ wzX3_raise := fun _ h => List.mem_cons_of_mem _ (List.mem_append_right _ (List.mem_append_left _ (h)))
theorem i_X3_raise_X8 : ∀ w ∈ wsX80, w ∈ wzX3_raise := fun _ h => List.mem_cons_of_mem _ (List.mem_append_right _ (List.mem_append_right _ (List.mem_append_left _ (h))))
set_option maxHeartbeats 4000000 in
set_option maxRecDepth 100000 in
theorem c_X3_raise (l : Launch) (dC : Nat → ClassId) (dI : Nat → Nat → Nat) (Q : CQ) (N : Nat) (σ : CS) (x1 : Int32) (x2 : Int32) (R : Unit × CS) (hf : f_X3_raise N σ x1 x2 = some R) : Met l yX3_raise wzX3_raise ({ frames := 3, cells := CS.hs R.2 - CS.hs σ, slots := 17 * (CS.hs R.2 - CS.hs σ), locals := 60 * 3 }) (va_Pc [.ref (Q.o 7), .int x1, .int x2] (zPre dC dI (CS.hs σ) (cW Q σ) (cT Q))) (va_Qv (fun (_ : Unit) => True) (fun (_ : Unit) (t : State) => zPost dC dI (va_A (cW Q σ) (CS.hs σ)) (cW Q R.2) (cT Q) t ∧ t.heap.size = CS.hs R.2) (va_A (cW Q σ) (CS.hs σ))) (CS.hs R.2 - CS.hs σ) (17 * (CS.hs R.2 - CS.hs σ)) (va_A (cW Q σ) (CS.hs σ)) := by
  refine Met.ofW (cc := cX3_raise) (maxL := 3) (ret := none) (by decide) rfl ?_
  intro p e s m args below meth c s₁ B hml hv
  obtain ⟨rfl, hsz, hZ, hP, hK, hD0⟩ := hv
  have hx := B.exec
  have hb := B.bytes
  have hr := B.returns
  have hts := atoms_spec (ws := wzX3_raise) B.pre
  have hown : s.vm.findClass RX3 = some m.cls := findClass_of_methodNamed B.named
  have hlocks := B.notSynchronized
  have hD := hD0.self (sz := CS.hs σ)
  generalize hAe : va_A (cW Q σ) (CS.hs σ) = A at hD ⊢
  have hA : ∀ q : Nat, s.heap.size ≤ q → A q := fun q h => by rw [← hAe]; exact Or.inr (hsz ▸ h)
  have hC : CP dC dI Q A s.heap σ s.heap [] := ⟨hP, hD, va_S.rf, hsz⟩
  have h0 : CS.hs σ ≤ CS.hs σ := Nat.le_refl _
  have hl := lv_entry ([.ref (Q.o 7), .int x1, .int x2]) (n := 3) (Nat.le_of_ble_eq_true rfl)
  rw [lg_entry_eq]
  generalize (lg_sl ([.ref (Q.o 7), .int x1, .int x2]) ++ List.replicate (3 - (lg_sl ([.ref (Q.o 7), .int x1, .int x2])).length) Slot.unset).toArray = ls at hl ⊢
  have hl : lv_has ls 3 [(0, .ref (Q.o 7)), (1, .int x1), (2, .int x2)] := hl
  unfold f_X3_raise at hf
  refine W.widen (k := CS.hs σ - CS.hs σ) (n := 17 * (CS.hs σ - CS.hs σ)) (Nat.zero_le _) (Nat.zero_le _) ?_
  refine lv_aload_n hx hb dX3_raise_0 rfl (lv_at hl 0 rfl) ?_
  refine lv_aload_n hx hb dX3_raise_1 rfl (lv_at hl 0 rfl) ?_
  obtain ⟨p1, hcp1, hf⟩ := hf_bind hf
  have mo2 : CS.hs σ ≤ CS.hs p1.2 := Mono.go hcp1 (m_X3_freeThrown N σ)
  have hr9 : CS.hs p1.2 ≤ CS.hs R.2 := Mono.go hf (mono_oc (mono_oc mono_none (fun a8 => (mono_ite (mono_oc mono_none (fun a11 => (mono_ite (mono_oc mono_none (fun a14 => (mono_ite (mono_bind (m_X3_go N (CS.setO (CS.setO (CS.setO (CS.setW p1.2 none) a8 2 x1) a11 3 x2) a14 4 0) 4 0 0) (fun p16 => (mono_some (Nat.le_refl _)))) mono_none))) mono_none))) mono_none))) (fun a6 => (mono_oc mono_none (fun a21 => (mono_ite (mono_oc mono_none (fun a24 => (mono_ite (mono_oc mono_none (fun a27 => (mono_ite (mono_bind (m_X3_go N (CS.setO (CS.setO (CS.setO (CS.setW p1.2 (some a6)) a21 2 x1) a24 3 x2) a27 4 0) 4 0 0) (fun p29 => (mono_some (Nat.le_refl _)))) mono_none))) mono_none))) mono_none)))))
  have hFc := cFree hC hA
  refine va_callq (va_runV (As := []) (rest := [.ref (Q.o 7)]) ⟨hx, hb, hml, hown, hts⟩ (c_X3_freeThrown l dC dI Q N σ p1 hcp1) (cwV 0 hts hX3_raise_X3_freeThrown_v238 rfl rfl rfl (by decide +kernel) ⟨(show 2 + 1 ≤ 3 by omega), (show 8 + (2 + 11) + 60 * 2 ≤ 60 * 3 by omega)⟩) ⟨zPre.blind, va_recv hK hC.1 (ci := 2) (q0 := 7) rfl rfl, cPre_go hZ hK hC⟩ rfl rfl hl.1 rfl (lv_room (Nat.le_of_ble_eq_true rfl)) dX3_raise_2 (cAcc h0 mo2 hr9)) hC.2.2.1 (fun q _ h => hFc q h) hFc (fun r3 u9 t9 H1 locs ht hvm hw hB hz1 hk1 hS => ?_)
  obtain ⟨⟨hP, hK1, hD1⟩, hsz1⟩ := hB
  rw [ht] at hP hsz1
  have hC : CP dC dI Q A s.heap p1.2 H1 locs := ⟨hP, hD1.weaken (fun _ _ _ h => hFc _ h), hS, hsz1⟩
  generalize H1 = H at hC ⊢
  have h4 : (CS.hs σ) ≤ CS.hs p1.2 := Nat.le_trans h0 mo2
  refine W.widen (k := CS.hs p1.2 - (CS.hs σ)) (n := 17 * (CS.hs p1.2 - (CS.hs σ))) (cAcc2 h0 mo2) (cAcc3 h0 mo2) ?_
  obtain rfl : r3 = p1.1 := hw
  rcases hf_oc hf with ⟨q5, hf⟩ | ⟨a6, q5, hf⟩
  ·
    refine W.eq (congrArg (fun v9 => F0 m 5 ls (va_rf v9 :: [.ref (Q.o 7)])) q5) ?_
    refine W.eq (g2 := F0 m 5 ls (.null :: [.ref (Q.o 7)])) rfl ?_
    refine cP_76 (v := none) hx hb hts i_X3_raise_X3 hown hK hC (hts (.fieldLink RX3 81 "StatementRules2$Machine" "wayThrown" "LStatementRules2$Thrown;") k_X3_raise_fieldLink_RX3_81_SR_Machine_wayThrown_LSR_Thrown) (fun _ q9 => q9) dX3_raise_5 (fun H locs hC => ?_)
    refine lv_aload_n hx hb dX3_raise_8 rfl (lv_at hl 0 rfl) ?_
    refine cG_76 (v := (CS.w (CS.setW p1.2 none))) hx hb hts i_X3_raise_X3 hown hK hC (hts (.fieldLink RX3 81 "StatementRules2$Machine" "wayThrown" "LStatementRules2$Thrown;") k_X3_raise_fieldLink_RX3_81_SR_Machine_wayThrown_LSR_Thrown) (fun _ q9 => q9) dX3_raise_9 rfl ?_
    rcases hf_oc hf with ⟨q7, hf⟩ | ⟨a8, q7, hf⟩
    ·
      refine W.eq (congrArg (fun v9 => F0 m 12 ls (va_rf v9 :: [])) q7) ?_
      refine W.eq (g2 := F0 m 12 ls (.null :: [])) rfl ?_
      refine lv_iload_n hx hb dX3_raise_12 rfl (lv_at hl 1 rfl) ?_
      cases hf
    ·
      refine W.eq (congrArg (fun v9 => F0 m 12 ls (va_rf v9 :: [])) q7) ?_
      refine W.eq (g2 := F0 m 12 ls (.ref a8 :: [])) rfl ?_
      refine lv_iload_n hx hb dX3_raise_12 rfl (lv_at hl 1 rfl) ?_
      obtain ⟨b9, hf⟩ := hf_ite hf
      refine pPN_X8_2 (v := x1) hx hb hts i_X3_raise_X8 hown hK hC (va_Nw.use rfl (hZ.1 (.fieldLinkNest RX3 99 "StatementRules2$Thrown" "sort" "I" "StatementRules2") (by decide +kernel))) (fun _ q9 => q9) dX3_raise_13 b9 (fun H locs hC => ?_)
      refine lv_aload_n hx hb dX3_raise_16 rfl (lv_at hl 0 rfl) ?_
      refine cG_76 (v := (CS.w (CS.setO (CS.setW p1.2 none) a8 2 x1))) hx hb hts i_X3_raise_X3 hown hK hC (hts (.fieldLink RX3 81 "StatementRules2$Machine" "wayThrown" "LStatementRules2$Thrown;") k_X3_raise_fieldLink_RX3_81_SR_Machine_wayThrown_LSR_Thrown) (fun _ q9 => q9) dX3_raise_17 rfl ?_
      rcases hf_oc hf with ⟨q10, hf⟩ | ⟨a11, q10, hf⟩
      ·
        refine W.eq (congrArg (fun v9 => F0 m 20 ls (va_rf v9 :: [])) q10) ?_
        refine W.eq (g2 := F0 m 20 ls (.null :: [])) rfl ?_
        refine lv_iload_n hx hb dX3_raise_20 rfl (lv_at hl 2 rfl) ?_
        cases hf
      ·
        refine W.eq (congrArg (fun v9 => F0 m 20 ls (va_rf v9 :: [])) q10) ?_
        refine W.eq (g2 := F0 m 20 ls (.ref a11 :: [])) rfl ?_
        refine lv_iload_n hx hb dX3_raise_20 rfl (lv_at hl 2 rfl) ?_
        obtain ⟨b12, hf⟩ := hf_ite hf
        refine pPN_X8_3 (v := x2) hx hb hts i_X3_raise_X8 hown hK hC (va_Nw.use rfl (hZ.1 (.fieldLinkNest RX3 102 "StatementRules2$Thrown" "number" "I" "StatementRules2") (by decide +kernel))) (fun _ q9 => q9) dX3_raise_21 b12 (fun H locs hC => ?_)
        refine lv_aload_n hx hb dX3_raise_24 rfl (lv_at hl 0 rfl) ?_
        refine cG_76 (v := (CS.w (CS.setO (CS.setO (CS.setW p1.2 none) a8 2 x1) a11 3 x2))) hx hb hts i_X3_raise_X3 hown hK hC (hts (.fieldLink RX3 81 "StatementRules2$Machine" "wayThrown" "LStatementRules2$Thrown;") k_X3_raise_fieldLink_RX3_81_SR_Machine_wayThrown_LSR_Thrown) (fun _ q9 => q9) dX3_raise_25 rfl ?_
        rcases hf_oc hf with ⟨q13, hf⟩ | ⟨a14, q13, hf⟩
        ·
          refine W.eq (congrArg (fun v9 => F0 m 28 ls (va_rf v9 :: [])) q13) ?_
          refine W.eq (g2 := F0 m 28 ls (.null :: [])) rfl ?_
          refine lv_iconst (v := 0) hx hb dX3_raise_28 (by decide) ?_
          cases hf
        ·
          refine W.eq (congrArg (fun v9 => F0 m 28 ls (va_rf v9 :: [])) q13) ?_
          refine W.eq (g2 := F0 m 28 ls (.ref a14 :: [])) rfl ?_
          refine lv_iconst (v := 0) hx hb dX3_raise_28 (by decide) ?_
          obtain ⟨b15, hf⟩ := hf_ite hf
          refine pPN_X8_4 (v := 0) hx hb hts i_X3_raise_X8 hown hK hC (va_Nw.use rfl (hZ.1 (.fieldLinkNest RX3 105 "StatementRules2$Thrown" "count" "I" "StatementRules2") (by decide +kernel))) (fun _ q9 => q9) dX3_raise_29 b15 (fun H locs hC => ?_)
          refine lv_aload_n hx hb dX3_raise_32 rfl (lv_at hl 0 rfl) ?_
          refine lv_iconst (v := 4) hx hb dX3_raise_33 (by decide) ?_
          refine lv_iconst (v := 0) hx hb dX3_raise_34 (by decide) ?_
          refine lv_iconst (v := 0) hx hb dX3_raise_35 (by decide) ?_
          obtain ⟨p16, hcp16, hf⟩ := hf_bind hf
          have mo17 : CS.hs p1.2 ≤ CS.hs p16.2 := Mono.go hcp16 (m_X3_go N (CS.setO (CS.setO (CS.setO (CS.setW p1.2 none) a8 2 x1) a11 3 x2) a14 4 0) 4 0 0)
          have hr9 : CS.hs p16.2 ≤ CS.hs R.2 := Mono.go hf (mono_some (Nat.le_refl _))
          have hFc := cFree hC hA
          refine va_callv (va_runV (As := [.int 4, .int 0, .int 0]) (rest := []) ⟨hx, hb, hml, hown, hts⟩ (c_X3_go l dC dI Q N (CS.setO (CS.setO (CS.setO (CS.setW p1.2 none) a8 2 x1) a11 3 x2) a14 4 0) 4 0 0 p16 hcp16) (cwV 3 hts hX3_raise_X3_go_v213 rfl rfl rfl (by decide +kernel) ⟨(show 1 + 1 ≤ 3 by omega), (show 8 + (4 + 11) + 60 * 1 ≤ 60 * 3 by omega)⟩) ⟨zPre.blind, va_recv hK hC.1 (ci := 2) (q0 := 7) rfl rfl, cPre_go hZ hK hC⟩ rfl rfl hl.1 rfl (lv_room (Nat.le_of_ble_eq_true rfl)) dX3_raise_36 (cAcc h4 mo17 hr9)) hC.2.2.1 (fun q _ h => hFc q h) hFc (fun u9 t9 H1 locs ht hvm hw hB hz1 hk1 hS => ?_)
          obtain ⟨⟨hP, hK1, hD1⟩, hsz1⟩ := hB
          rw [ht] at hP hsz1
          have hC : CP dC dI Q A s.heap p16.2 H1 locs := ⟨hP, hD1.weaken (fun _ _ _ h => hFc _ h), hS, hsz1⟩
          generalize H1 = H at hC ⊢
          have h19 : (CS.hs σ) ≤ CS.hs p16.2 := Nat.le_trans h4 mo17
          refine W.widen (k := CS.hs p16.2 - (CS.hs σ)) (n := 17 * (CS.hs p16.2 - (CS.hs σ))) (cAcc2 h4 mo17) (cAcc3 h4 mo17) ?_
          obtain rfl := Option.some.inj hf
          exact W.vret hx hb hr (fun t ht hW => ⟨⟨(), rfl, trivial, ⟨by rw [ht]; exact hC.1, va_K.moved hW.alike hK, hC.2.1⟩, by rw [ht]; exact hC.2.2.2⟩, hC.2.2.1.F ht⟩) hC.2.2.1.2.2 dX3_raise_39
  ·
    refine W.eq (congrArg (fun v9 => F0 m 5 ls (va_rf v9 :: [.ref (Q.o 7)])) q5) ?_
    refine W.eq (g2 := F0 m 5 ls (.ref a6 :: [.ref (Q.o 7)])) rfl ?_
    refine cP_76 (v := (some a6)) hx hb hts i_X3_raise_X3 hown hK hC (hts (.fieldLink RX3 81 "StatementRules2$Machine" "wayThrown" "LStatementRules2$Thrown;") k_X3_raise_fieldLink_RX3_81_SR_Machine_wayThrown_LSR_Thrown) (fun _ q9 => q9) dX3_raise_5 (fun H locs hC => ?_)
    refine lv_aload_n hx hb dX3_raise_8 rfl (lv_at hl 0 rfl) ?_
    refine cG_76 (v := (CS.w (CS.setW p1.2 (some a6)))) hx hb hts i_X3_raise_X3 hown hK hC (hts (.fieldLink RX3 81 "StatementRules2$Machine" "wayThrown" "LStatementRules2$Thrown;") k_X3_raise_fieldLink_RX3_81_SR_Machine_wayThrown_LSR_Thrown) (fun _ q9 => q9) dX3_raise_9 rfl ?_
    rcases hf_oc hf with ⟨q20, hf⟩ | ⟨a21, q20, hf⟩
    ·
      refine W.eq (congrArg (fun v9 => F0 m 12 ls (va_rf v9 :: [])) q20) ?_
      refine W.eq (g2 := F0 m 12 ls (.null :: [])) rfl ?_
      refine lv_iload_n hx hb dX3_raise_12 rfl (lv_at hl 1 rfl) ?_
      cases hf
    ·
      refine W.eq (congrArg (fun v9 => F0 m 12 ls (va_rf v9 :: [])) q20) ?_
      refine W.eq (g2 := F0 m 12 ls (.ref a21 :: [])) rfl ?_
      refine lv_iload_n hx hb dX3_raise_12 rfl (lv_at hl 1 rfl) ?_
      obtain ⟨b22, hf⟩ := hf_ite hf
      refine pPN_X8_2 (v := x1) hx hb hts i_X3_raise_X8 hown hK hC (va_Nw.use rfl (hZ.1 (.fieldLinkNest RX3 99 "StatementRules2$Thrown" "sort" "I" "StatementRules2") (by decide +kernel))) (fun _ q9 => q9) dX3_raise_13 b22 (fun H locs hC => ?_)
      refine lv_aload_n hx hb dX3_raise_16 rfl (lv_at hl 0 rfl) ?_
      refine cG_76 (v := (CS.w (CS.setO (CS.setW p1.2 (some a6)) a21 2 x1))) hx hb hts i_X3_raise_X3 hown hK hC (hts (.fieldLink RX3 81 "StatementRules2$Machine" "wayThrown" "LStatementRules2$Thrown;") k_X3_raise_fieldLink_RX3_81_SR_Machine_wayThrown_LSR_Thrown) (fun _ q9 => q9) dX3_raise_17 rfl ?_
      rcases hf_oc hf with ⟨q23, hf⟩ | ⟨a24, q23, hf⟩
      ·
        refine W.eq (congrArg (fun v9 => F0 m 20 ls (va_rf v9 :: [])) q23) ?_
        refine W.eq (g2 := F0 m 20 ls (.null :: [])) rfl ?_
        refine lv_iload_n hx hb dX3_raise_20 rfl (lv_at hl 2 rfl) ?_
        cases hf
      ·
        refine W.eq (congrArg (fun v9 => F0 m 20 ls (va_rf v9 :: [])) q23) ?_
        refine W.eq (g2 := F0 m 20 ls (.ref a24 :: [])) rfl ?_
        refine lv_iload_n hx hb dX3_raise_20 rfl (lv_at hl 2 rfl) ?_
        obtain ⟨b25, hf⟩ := hf_ite hf
        refine pPN_X8_3 (v := x2) hx hb hts i_X3_raise_X8 hown hK hC (va_Nw.use rfl (hZ.1 (.fieldLinkNest RX3 102 "StatementRules2$Thrown" "number" "I" "StatementRules2") (by decide +kernel))) (fun _ q9 => q9) dX3_raise_21 b25 (fun H locs hC => ?_)
        refine lv_aload_n hx hb dX3_raise_24 rfl (lv_at hl 0 rfl) ?_
        refine cG_76 (v := (CS.w (CS.setO (CS.setO (CS.setW p1.2 (some a6)) a21 2 x1) a24 3 x2))) hx hb hts i_X3_raise_X3 hown hK hC (hts (.fieldLink RX3 81 "StatementRules2$Machine" "wayThrown" "LStatementRules2$Thrown;") k_X3_raise_fieldLink_RX3_81_SR_Machine_wayThrown_LSR_Thrown) (fun _ q9 => q9) dX3_raise_25 rfl ?_
        rcases hf_oc hf with ⟨q26, hf⟩ | ⟨a27, q26, hf⟩
        ·
          refine W.eq (congrArg (fun v9 => F0 m 28 ls (va_rf v9 :: [])) q26) ?_
          refine W.eq (g2 := F0 m 28 ls (.null :: [])) rfl ?_
          refine lv_iconst (v := 0) hx hb dX3_raise_28 (by decide) ?_
          cases hf
        ·
          refine W.eq (congrArg (fun v9 => F0 m 28 ls (va_rf v9 :: [])) q26) ?_
          refine W.eq (g2 := F0 m 28 ls (.ref a27 :: [])) rfl ?_
          refine lv_iconst (v := 0) hx hb dX3_raise_28 (by decide) ?_
          obtain ⟨b28, hf⟩ := hf_ite hf
          refine pPN_X8_4 (v := 0) hx hb hts i_X3_raise_X8 hown hK hC (va_Nw.use rfl (hZ.1 (.fieldLinkNest RX3 105 "StatementRules2$Thrown" "count" "I" "StatementRules2") (by decide +kernel))) (fun _ q9 => q9) dX3_raise_29 b28 (fun H locs hC => ?_)
          refine lv_aload_n hx hb dX3_raise_32 rfl (lv_at hl 0 rfl) ?_
          refine lv_iconst (v := 4) hx hb dX3_raise_33 (by decide) ?_
          refine lv_iconst (v := 0) hx hb dX3_raise_34 (by decide) ?_
          refine lv_iconst (v := 0) hx hb dX3_raise_35 (by decide) ?_
          obtain ⟨p29, hcp29, hf⟩ := hf_bind hf
          have mo30 : CS.hs p1.2 ≤ CS.hs p29.2 := Mono.go hcp29 (m_X3_go N (CS.setO (CS.setO (CS.setO (CS.setW p1.2 (some a6)) a21 2 x1) a24 3 x2) a27 4 0) 4 0 0)
          have hr9 : CS.hs p29.2 ≤ CS.hs R.2 := Mono.go hf (mono_some (Nat.le_refl _))
          have hFc := cFree hC hA
          refine va_callv (va_runV (As := [.int 4, .int 0, .int 0]) (rest := []) ⟨hx, hb, hml, hown, hts⟩ (c_X3_go l dC dI Q N (CS.setO (CS.setO (CS.setO (CS.setW p1.2 (some a6)) a21 2 x1) a24 3 x2) a27 4 0) 4 0 0 p29 hcp29) (cwV 3 hts hX3_raise_X3_go_v213 rfl rfl rfl (by decide +kernel) ⟨(show 1 + 1 ≤ 3 by omega), (show 8 + (4 + 11) + 60 * 1 ≤ 60 * 3 by omega)⟩) ⟨zPre.blind, va_recv hK hC.1 (ci := 2) (q0 := 7) rfl rfl, cPre_go hZ hK hC⟩ rfl rfl hl.1 rfl (lv_room (Nat.le_of_ble_eq_true rfl)) dX3_raise_36 (cAcc h4 mo30 hr9)) hC.2.2.1 (fun q _ h => hFc q h) hFc (fun u9 t9 H1 locs ht hvm hw hB hz1 hk1 hS => ?_)
          obtain ⟨⟨hP, hK1, hD1⟩, hsz1⟩ := hB
          rw [ht] at hP hsz1
          have hC : CP dC dI Q A s.heap p29.2 H1 locs := ⟨hP, hD1.weaken (fun _ _ _ h => hFc _ h), hS, hsz1⟩
          generalize H1 = H at hC ⊢
          have h32 : (CS.hs σ) ≤ CS.hs p29.2 := Nat.le_trans h4 mo30
          refine W.widen (k := CS.hs p29.2 - (CS.hs σ)) (n := 17 * (CS.hs p29.2 - (CS.hs σ))) (cAcc2 h4 mo30) (cAcc3 h4 mo30) ?_
          obtain rfl := Option.some.inj hf
          exact W.vret hx hb hr (fun t ht hW => ⟨⟨(), rfl, trivial, ⟨by rw [ht]; exact hC.1, va_K.moved hW.alike hK, hC.2.1⟩, by rw [ht]; exact hC.2.2.2⟩, hC.2.2.1.F ht⟩) hC.2.2.1.2.2 dX3_raise_39
set_option maxHeartbeats 4000000 in
set_option maxRecDepth 100000 in
theorem c_X3_divide (l : Launch) (dC : Nat → ClassId) (dI : Nat → Nat → Nat) (Q : CQ) (N : Nat) (σ : CS) (x1 : Int32) (x2 : Int32) (x3 : Int32) (R : Unit × CS) (hf : f_X3_divide N σ x1 x2 x3 = some R) : Met l yX3_divide wzX3_divide ({ frames := 4, cells := CS.hs R.2 - CS.hs σ, slots := 17 * (CS.hs R.2 - CS.hs σ), locals := 60 * 4 }) (va_Pc [.ref (Q.o 7), .int x1, .int x2, .int x3] (zPre dC dI (CS.hs σ) (cW Q σ) (cT Q))) (va_Qv (fun (_ : Unit) => True) (fun (_ : Unit) (t : State) => zPost dC dI (va_A (cW Q σ) (CS.hs σ)) (cW Q R.2) (cT Q) t ∧ t.heap.size = CS.hs R.2) (va_A (cW Q σ) (CS.hs σ))) (CS.hs R.2 - CS.hs σ) (17 * (CS.hs R.2 - CS.hs σ)) (va_A (cW Q σ) (CS.hs σ)) := by
  refine Met.ofW (cc := cX3_divide) (maxL := 4) (ret := none) (by decide) rfl ?_
  intro p e s m args below meth c s₁ B hml hv
  obtain ⟨rfl, hsz, hZ, hP, hK, hD0⟩ := hv
  have hx := B.exec
  have hb := B.bytes
  have hr := B.returns
  have hts := atoms_spec (ws := wzX3_divide) B.pre
  have hown : s.vm.findClass RX3 = some m.cls := findClass_of_methodNamed B.named
  have hlocks := B.notSynchronized
  have hD := hD0.self (sz := CS.hs σ)
  generalize hAe : va_A (cW Q σ) (CS.hs σ) = A at hD ⊢
  have hA : ∀ q : Nat, s.heap.size ≤ q → A q := fun q h => by rw [← hAe]; exact Or.inr (hsz ▸ h)
  have hC : CP dC dI Q A s.heap σ s.heap [] := ⟨hP, hD, va_S.rf, hsz⟩
  have h0 : CS.hs σ ≤ CS.hs σ := Nat.le_refl _
  have hl := lv_entry ([.ref (Q.o 7), .int x1, .int x2, .int x3]) (n := 4) (Nat.le_of_ble_eq_true rfl)
  rw [lg_entry_eq]
  generalize (lg_sl ([.ref (Q.o 7), .int x1, .int x2, .int x3]) ++ List.replicate (4 - (lg_sl ([.ref (Q.o 7), .int x1, .int x2, .int x3])).length) Slot.unset).toArray = ls at hl ⊢
  have hl : lv_has ls 4 [(0, .ref (Q.o 7)), (1, .int x1), (2, .int x2), (3, .int x3)] := hl
  unfold f_X3_divide at hf
  refine W.widen (k := CS.hs σ - CS.hs σ) (n := 17 * (CS.hs σ - CS.hs σ)) (Nat.zero_le _) (Nat.zero_le _) ?_
  refine lv_iload_n hx hb dX3_divide_0 rfl (lv_at hl 3 rfl) ?_
  refine lv_if_ne (tgt := 13) hx hb dX3_divide_1 (by decide) (fun c1 => ?_) (fun c1 => ?_)
  ·
    replace hf := (if_neg c1).symm.trans hf
    refine lv_aload_n hx hb dX3_divide_13 rfl (lv_at hl 0 rfl) ?_
    refine lv_iload_n hx hb dX3_divide_14 rfl (lv_at hl 1 rfl) ?_
    refine lv_bipush (v := 10) hx hb dX3_divide_15 (by decide) ?_
    refine lv_icmp_ne (tgt := 26) hx hb dX3_divide_17 (by decide) (fun c2 => ?_) (fun c2 => ?_)
    ·
      replace hf := (if_neg c2).symm.trans hf
      refine lv_iload_n hx hb dX3_divide_26 rfl (lv_at hl 2 rfl) ?_
      refine lv_iload_n hx hb dX3_divide_27 rfl (lv_at hl 3 rfl) ?_
      obtain ⟨b3, hf⟩ := hf_itn hf
      refine lv_irem hx hb dX3_divide_28 b3 ?_
      obtain ⟨p4, hcp4, hf⟩ := hf_bind hf
      have mo5 : CS.hs σ ≤ CS.hs p4.2 := Mono.go hcp4 (m_X3_push N σ (x2 - x2 / x3 * x3))
      have hr9 : CS.hs p4.2 ≤ CS.hs R.2 := Mono.go hf (mono_some (Nat.le_refl _))
      have hFc := cFree hC hA
      refine va_callv (va_runV (As := [.int (x2 - x2 / x3 * x3)]) (rest := []) ⟨hx, hb, hml, hown, hts⟩ (c_X3_push l dC dI Q N σ (x2 - x2 / x3 * x3) p4 hcp4) (cwV 1 hts hX3_divide_X3_push_v135 rfl rfl rfl (by decide +kernel) ⟨(show 2 + 1 ≤ 4 by omega), (show 8 + (2 + 11) + 60 * 2 ≤ 60 * 4 by omega)⟩) ⟨zPre.blind, va_recv hK hC.1 (ci := 2) (q0 := 7) rfl rfl, cPre_go hZ hK hC⟩ rfl rfl hl.1 rfl (lv_room (Nat.le_of_ble_eq_true rfl)) dX3_divide_29 (cAcc h0 mo5 hr9)) hC.2.2.1 (fun q _ h => hFc q h) hFc (fun u9 t9 H1 locs ht hvm hw hB hz1 hk1 hS => ?_)
      obtain ⟨⟨hP, hK1, hD1⟩, hsz1⟩ := hB
      rw [ht] at hP hsz1
      have hC : CP dC dI Q A s.heap p4.2 H1 locs := ⟨hP, hD1.weaken (fun _ _ _ h => hFc _ h), hS, hsz1⟩
      generalize H1 = H at hC ⊢
      have h7 : (CS.hs σ) ≤ CS.hs p4.2 := Nat.le_trans h0 mo5
      refine W.widen (k := CS.hs p4.2 - (CS.hs σ)) (n := 17 * (CS.hs p4.2 - (CS.hs σ))) (cAcc2 h0 mo5) (cAcc3 h0 mo5) ?_
      obtain rfl := Option.some.inj hf
      exact W.vret hx hb hr (fun t ht hW => ⟨⟨(), rfl, trivial, ⟨by rw [ht]; exact hC.1, va_K.moved hW.alike hK, hC.2.1⟩, by rw [ht]; exact hC.2.2.2⟩, hC.2.2.1.F ht⟩) hC.2.2.1.2.2 dX3_divide_32
    ·
      replace hf := (if_pos c2).symm.trans hf
      refine lv_iload_n hx hb dX3_divide_20 rfl (lv_at hl 2 rfl) ?_
      refine lv_iload_n hx hb dX3_divide_21 rfl (lv_at hl 3 rfl) ?_
      obtain ⟨b8, hf⟩ := hf_itn hf
      refine lv_idiv hx hb dX3_divide_22 b8 ?_
      refine lv_goto (tgt := 29) hx hb dX3_divide_23 (by decide) ?_
      obtain ⟨p9, hcp9, hf⟩ := hf_bind hf
      have mo10 : CS.hs σ ≤ CS.hs p9.2 := Mono.go hcp9 (m_X3_push N σ (x2 / x3))
      have hr9 : CS.hs p9.2 ≤ CS.hs R.2 := Mono.go hf (mono_some (Nat.le_refl _))
      have hFc := cFree hC hA
      refine va_callv (va_runV (As := [.int (x2 / x3)]) (rest := []) ⟨hx, hb, hml, hown, hts⟩ (c_X3_push l dC dI Q N σ (x2 / x3) p9 hcp9) (cwV 1 hts hX3_divide_X3_push_v135 rfl rfl rfl (by decide +kernel) ⟨(show 2 + 1 ≤ 4 by omega), (show 8 + (2 + 11) + 60 * 2 ≤ 60 * 4 by omega)⟩) ⟨zPre.blind, va_recv hK hC.1 (ci := 2) (q0 := 7) rfl rfl, cPre_go hZ hK hC⟩ rfl rfl hl.1 rfl (lv_room (Nat.le_of_ble_eq_true rfl)) dX3_divide_29 (cAcc h0 mo10 hr9)) hC.2.2.1 (fun q _ h => hFc q h) hFc (fun u9 t9 H1 locs ht hvm hw hB hz1 hk1 hS => ?_)
      obtain ⟨⟨hP, hK1, hD1⟩, hsz1⟩ := hB
      rw [ht] at hP hsz1
      have hC : CP dC dI Q A s.heap p9.2 H1 locs := ⟨hP, hD1.weaken (fun _ _ _ h => hFc _ h), hS, hsz1⟩
      generalize H1 = H at hC ⊢
      have h12 : (CS.hs σ) ≤ CS.hs p9.2 := Nat.le_trans h0 mo10
      refine W.widen (k := CS.hs p9.2 - (CS.hs σ)) (n := 17 * (CS.hs p9.2 - (CS.hs σ))) (cAcc2 h0 mo10) (cAcc3 h0 mo10) ?_
      obtain rfl := Option.some.inj hf
      exact W.vret hx hb hr (fun t ht hW => ⟨⟨(), rfl, trivial, ⟨by rw [ht]; exact hC.1, va_K.moved hW.alike hK, hC.2.1⟩, by rw [ht]; exact hC.2.2.2⟩, hC.2.2.1.F ht⟩) hC.2.2.1.2.2 dX3_divide_32
  ·
    replace hf := (if_pos c1).symm.trans hf
    refine lv_aload_n hx hb dX3_divide_4 rfl (lv_at hl 0 rfl) ?_
    refine lv_iconst (v := 2) hx hb dX3_divide_5 (by decide) ?_
    refine lv_iconst (v := 0) hx hb dX3_divide_6 (by decide) ?_
    obtain ⟨p13, hcp13, hf⟩ := hf_bind hf
    have mo14 : CS.hs σ ≤ CS.hs p13.2 := Mono.go hcp13 (m_X3_raise N σ 2 0)
    have hr9 : CS.hs p13.2 ≤ CS.hs R.2 := Mono.go hf (mono_some (Nat.le_refl _))
    have hFc := cFree hC hA
    refine va_callv (va_runV (As := [.int 2, .int 0]) (rest := []) ⟨hx, hb, hml, hown, hts⟩ (c_X3_raise l dC dI Q N σ 2 0 p13 hcp13) (cwV 2 hts hX3_divide_X3_raise_v150 rfl rfl rfl (by decide +kernel) ⟨(show 3 + 1 ≤ 4 by omega), (show 8 + (3 + 11) + 60 * 3 ≤ 60 * 4 by omega)⟩) ⟨zPre.blind, va_recv hK hC.1 (ci := 2) (q0 := 7) rfl rfl, cPre_go hZ hK hC⟩ rfl rfl hl.1 rfl (lv_room (Nat.le_of_ble_eq_true rfl)) dX3_divide_7 (cAcc h0 mo14 hr9)) hC.2.2.1 (fun q _ h => hFc q h) hFc (fun u9 t9 H1 locs ht hvm hw hB hz1 hk1 hS => ?_)
    obtain ⟨⟨hP, hK1, hD1⟩, hsz1⟩ := hB
    rw [ht] at hP hsz1
    have hC : CP dC dI Q A s.heap p13.2 H1 locs := ⟨hP, hD1.weaken (fun _ _ _ h => hFc _ h), hS, hsz1⟩
    generalize H1 = H at hC ⊢
    have h16 : (CS.hs σ) ≤ CS.hs p13.2 := Nat.le_trans h0 mo14
    refine W.widen (k := CS.hs p13.2 - (CS.hs σ)) (n := 17 * (CS.hs p13.2 - (CS.hs σ))) (cAcc2 h0 mo14) (cAcc3 h0 mo14) ?_
    refine lv_goto (tgt := 32) hx hb dX3_divide_10 (by decide) ?_
    obtain rfl := Option.some.inj hf
    exact W.vret hx hb hr (fun t ht hW => ⟨⟨(), rfl, trivial, ⟨by rw [ht]; exact hC.1, va_K.moved hW.alike hK, hC.2.1⟩, by rw [ht]; exact hC.2.2.2⟩, hC.2.2.1.F ht⟩) hC.2.2.1.2.2 dX3_divide_32
set_option maxHeartbeats 4000000 in
set_option maxRecDepth 100000 in
theorem c_X3_combine (l : Launch) (dC : Nat → ClassId) (dI : Nat → Nat → Nat) (Q : CQ) (N : Nat) (σ : CS) (x1 : Int32) (R : Unit × CS) (hf : f_X3_combine N σ x1 = some R) : Met l yX3_combine wzX3_combine ({ frames := 5, cells := CS.hs R.2 - CS.hs σ, slots := 17 * (CS.hs R.2 - CS.hs σ), locals := 60 * 5 }) (va_Pc [.ref (Q.o 7), .int x1] (zPre dC dI (CS.hs σ) (cW Q σ) (cT Q))) (va_Qv (fun (_ : Unit) => True) (fun (_ : Unit) (t : State) => zPost dC dI (va_A (cW Q σ) (CS.hs σ)) (cW Q R.2) (cT Q) t ∧ t.heap.size = CS.hs R.2) (va_A (cW Q σ) (CS.hs σ))) (CS.hs R.2 - CS.hs σ) (17 * (CS.hs R.2 - CS.hs σ)) (va_A (cW Q σ) (CS.hs σ)) := by
  refine Met.ofW (cc := cX3_combine) (maxL := 4) (ret := none) (by decide) rfl ?_
  intro p e s m args below meth c s₁ B hml hv
  obtain ⟨rfl, hsz, hZ, hP, hK, hD0⟩ := hv
  have hx := B.exec
  have hb := B.bytes
  have hr := B.returns
  have hts := atoms_spec (ws := wzX3_combine) B.pre
  have hown : s.vm.findClass RX3 = some m.cls := findClass_of_methodNamed B.named
  have hlocks := B.notSynchronized
  have hD := hD0.self (sz := CS.hs σ)
  generalize hAe : va_A (cW Q σ) (CS.hs σ) = A at hD ⊢
  have hA : ∀ q : Nat, s.heap.size ≤ q → A q := fun q h => by rw [← hAe]; exact Or.inr (hsz ▸ h)
  have hC : CP dC dI Q A s.heap σ s.heap [] := ⟨hP, hD, va_S.rf, hsz⟩
  have h0 : CS.hs σ ≤ CS.hs σ := Nat.le_refl _
  have hl := lv_entry ([.ref (Q.o 7), .int x1]) (n := 4) (Nat.le_of_ble_eq_true rfl)
  rw [lg_entry_eq]
  generalize (lg_sl ([.ref (Q.o 7), .int x1]) ++ List.replicate (4 - (lg_sl ([.ref (Q.o 7), .int x1])).length) Slot.unset).toArray = ls at hl ⊢
  have hl : lv_has ls 4 [(0, .ref (Q.o 7)), (1, .int x1)] := hl
  unfold f_X3_combine at hf
  refine W.widen (k := CS.hs σ - CS.hs σ) (n := 17 * (CS.hs σ - CS.hs σ)) (Nat.zero_le _) (Nat.zero_le _) ?_
  refine lv_aload_n hx hb dX3_combine_0 rfl (lv_at hl 0 rfl) ?_
  obtain ⟨p1, hcp1, hf⟩ := hf_bind hf
  have mo2 : CS.hs σ ≤ CS.hs p1.2 := Mono.go hcp1 (m_X3_pop N σ)
  have hr9 : CS.hs p1.2 ≤ CS.hs R.2 := Mono.go hf (mono_bind (m_X3_pop N p1.2) (fun p5 => (mono_ite (mono_ite (mono_bind (m_X3_push N p5.2 (p5.1 + p1.1)) (fun p11 => (mono_some (Nat.le_refl _)))) (mono_ite (mono_bind (m_X3_push N p5.2 (p5.1 - p1.1)) (fun p16 => (mono_some (Nat.le_refl _)))) (mono_ite (mono_bind (m_X3_push N p5.2 (p5.1 * p1.1)) (fun p21 => (mono_some (Nat.le_refl _)))) (mono_bind (m_X3_divide N p5.2 x1 p5.1 p1.1) (fun p25 => (mono_some (Nat.le_refl _))))))) (mono_bind (m_X3_compares N p5.2 x1 p5.1 p1.1) (fun p29 => (mono_ite (mono_bind (m_X3_push N p29.2 0) (fun p34 => (mono_some (Nat.le_refl _)))) (mono_bind (m_X3_push N p29.2 1) (fun p38 => (mono_some (Nat.le_refl _))))))))))
  have hFc := cFree hC hA
  refine va_calli (va_runV (As := []) (rest := []) ⟨hx, hb, hml, hown, hts⟩ (c_X3_pop l dC dI Q N σ p1 hcp1) (cwV 0 hts hX3_combine_X3_pop_v138 rfl rfl rfl (by decide +kernel) ⟨(show 2 + 1 ≤ 5 by omega), (show 8 + (1 + 11) + 60 * 2 ≤ 60 * 5 by omega)⟩) ⟨zPre.blind, va_recv hK hC.1 (ci := 2) (q0 := 7) rfl rfl, cPre_go hZ hK hC⟩ rfl rfl hl.1 rfl (lv_room (Nat.le_of_ble_eq_true rfl)) dX3_combine_1 (cAcc h0 mo2 hr9)) hC.2.2.1 (fun q _ h => hFc q h) hFc (fun r3 u9 t9 H1 locs ht hvm hw hB hz1 hk1 hS => ?_)
  obtain ⟨⟨hP, hK1, hD1⟩, hsz1⟩ := hB
  rw [ht] at hP hsz1
  have hC : CP dC dI Q A s.heap p1.2 H1 locs := ⟨hP, hD1.weaken (fun _ _ _ h => hFc _ h), hS, hsz1⟩
  generalize H1 = H at hC ⊢
  have h4 : (CS.hs σ) ≤ CS.hs p1.2 := Nat.le_trans h0 mo2
  refine W.widen (k := CS.hs p1.2 - (CS.hs σ)) (n := 17 * (CS.hs p1.2 - (CS.hs σ))) (cAcc2 h0 mo2) (cAcc3 h0 mo2) ?_
  obtain rfl : r3 = p1.1 := hw
  refine lv_istore_n (lv' := [(2, .int p1.1), (0, .ref (Q.o 7)), (1, .int x1)]) hx hb dX3_combine_4 rfl hl (by decide) rfl (fun ls hl => ?_)
  refine lv_aload_n hx hb dX3_combine_5 rfl (lv_at hl 1 rfl) ?_
  obtain ⟨p5, hcp5, hf⟩ := hf_bind hf
  have mo6 : CS.hs p1.2 ≤ CS.hs p5.2 := Mono.go hcp5 (m_X3_pop N p1.2)
  have hr9 : CS.hs p5.2 ≤ CS.hs R.2 := Mono.go hf (mono_ite (mono_ite (mono_bind (m_X3_push N p5.2 (p5.1 + p1.1)) (fun p11 => (mono_some (Nat.le_refl _)))) (mono_ite (mono_bind (m_X3_push N p5.2 (p5.1 - p1.1)) (fun p16 => (mono_some (Nat.le_refl _)))) (mono_ite (mono_bind (m_X3_push N p5.2 (p5.1 * p1.1)) (fun p21 => (mono_some (Nat.le_refl _)))) (mono_bind (m_X3_divide N p5.2 x1 p5.1 p1.1) (fun p25 => (mono_some (Nat.le_refl _))))))) (mono_bind (m_X3_compares N p5.2 x1 p5.1 p1.1) (fun p29 => (mono_ite (mono_bind (m_X3_push N p29.2 0) (fun p34 => (mono_some (Nat.le_refl _)))) (mono_bind (m_X3_push N p29.2 1) (fun p38 => (mono_some (Nat.le_refl _))))))))
  have hFc := cFree hC hA
  refine va_calli (va_runV (As := []) (rest := []) ⟨hx, hb, hml, hown, hts⟩ (c_X3_pop l dC dI Q N p1.2 p5 hcp5) (cwV 0 hts hX3_combine_X3_pop_v138 rfl rfl rfl (by decide +kernel) ⟨(show 2 + 1 ≤ 5 by omega), (show 8 + (1 + 11) + 60 * 2 ≤ 60 * 5 by omega)⟩) ⟨zPre.blind, va_recv hK hC.1 (ci := 2) (q0 := 7) rfl rfl, cPre_go hZ hK hC⟩ rfl rfl hl.1 rfl (lv_room (Nat.le_of_ble_eq_true rfl)) dX3_combine_6 (cAcc h4 mo6 hr9)) hC.2.2.1 (fun q _ h => hFc q h) hFc (fun r7 u9 t9 H1 locs ht hvm hw hB hz1 hk1 hS => ?_)
  obtain ⟨⟨hP, hK1, hD1⟩, hsz1⟩ := hB
  rw [ht] at hP hsz1
  have hC : CP dC dI Q A s.heap p5.2 H1 locs := ⟨hP, hD1.weaken (fun _ _ _ h => hFc _ h), hS, hsz1⟩
  generalize H1 = H at hC ⊢
  have h8 : (CS.hs σ) ≤ CS.hs p5.2 := Nat.le_trans h4 mo6
  refine W.widen (k := CS.hs p5.2 - (CS.hs σ)) (n := 17 * (CS.hs p5.2 - (CS.hs σ))) (cAcc2 h4 mo6) (cAcc3 h4 mo6) ?_
  obtain rfl : r7 = p5.1 := hw
  refine lv_istore_n (lv' := [(3, .int p5.1), (2, .int p1.1), (0, .ref (Q.o 7)), (1, .int x1)]) hx hb dX3_combine_9 rfl hl (by decide) rfl (fun ls hl => ?_)
  refine lv_iload_n hx hb dX3_combine_10 rfl (lv_at hl 3 rfl) ?_
  refine lv_bipush (v := 12) hx hb dX3_combine_11 (by decide) ?_
  refine lv_icmp_lt (tgt := 35) hx hb dX3_combine_13 (by decide) (fun c9 => ?_) (fun c9 => ?_)
  ·
    replace hf := (if_pos c9).symm.trans hf
    refine lv_iload_n hx hb dX3_combine_35 rfl (lv_at hl 3 rfl) ?_
    by_cases c10 : x1 = 7
    ·
      replace hf := (if_pos c10).symm.trans hf
      refine lv_tableIn (off := 28) (tgt := 64) hx hb dX3_combine_36 (by rw [c10]; decide) (by rw [c10]; decide) (by rw [c10]; decide) (by decide) ?_
      refine lv_aload_n hx hb dX3_combine_64 rfl (lv_at hl 2 rfl) ?_
      refine lv_iload_n hx hb dX3_combine_65 rfl (lv_at hl 0 rfl) ?_
      refine lv_iload_n hx hb dX3_combine_66 rfl (lv_at hl 1 rfl) ?_
      refine lv_iadd hx hb dX3_combine_67 ?_
      obtain ⟨p11, hcp11, hf⟩ := hf_bind hf
      have mo12 : CS.hs p5.2 ≤ CS.hs p11.2 := Mono.go hcp11 (m_X3_push N p5.2 (p5.1 + p1.1))
      have hr9 : CS.hs p11.2 ≤ CS.hs R.2 := Mono.go hf (mono_some (Nat.le_refl _))
      have hFc := cFree hC hA
      refine va_callv (va_runV (As := [.int (p5.1 + p1.1)]) (rest := []) ⟨hx, hb, hml, hown, hts⟩ (c_X3_push l dC dI Q N p5.2 (p5.1 + p1.1) p11 hcp11) (cwV 1 hts hX3_combine_X3_push_v135 rfl rfl rfl (by decide +kernel) ⟨(show 2 + 1 ≤ 5 by omega), (show 8 + (2 + 11) + 60 * 2 ≤ 60 * 5 by omega)⟩) ⟨zPre.blind, va_recv hK hC.1 (ci := 2) (q0 := 7) rfl rfl, cPre_go hZ hK hC⟩ rfl rfl hl.1 rfl (lv_room (Nat.le_of_ble_eq_true rfl)) dX3_combine_68 (cAcc h8 mo12 hr9)) hC.2.2.1 (fun q _ h => hFc q h) hFc (fun u9 t9 H1 locs ht hvm hw hB hz1 hk1 hS => ?_)
      obtain ⟨⟨hP, hK1, hD1⟩, hsz1⟩ := hB
      rw [ht] at hP hsz1
      have hC : CP dC dI Q A s.heap p11.2 H1 locs := ⟨hP, hD1.weaken (fun _ _ _ h => hFc _ h), hS, hsz1⟩
      generalize H1 = H at hC ⊢
      have h14 : (CS.hs σ) ≤ CS.hs p11.2 := Nat.le_trans h8 mo12
      refine W.widen (k := CS.hs p11.2 - (CS.hs σ)) (n := 17 * (CS.hs p11.2 - (CS.hs σ))) (cAcc2 h8 mo12) (cAcc3 h8 mo12) ?_
      refine lv_goto (tgt := 101) hx hb dX3_combine_71 (by decide) ?_
      obtain rfl := Option.some.inj hf
      exact W.vret hx hb hr (fun t ht hW => ⟨⟨(), rfl, trivial, ⟨by rw [ht]; exact hC.1, va_K.moved hW.alike hK, hC.2.1⟩, by rw [ht]; exact hC.2.2.2⟩, hC.2.2.1.F ht⟩) hC.2.2.1.2.2 dX3_combine_101
    replace hf := (if_neg c10).symm.trans hf
    by_cases c15 : x1 = 8
    ·
      replace hf := (if_pos c15).symm.trans hf
      refine lv_tableIn (off := 38) (tgt := 74) hx hb dX3_combine_36 (by rw [c15]; decide) (by rw [c15]; decide) (by rw [c15]; decide) (by decide) ?_
      refine lv_aload_n hx hb dX3_combine_74 rfl (lv_at hl 2 rfl) ?_
      refine lv_iload_n hx hb dX3_combine_75 rfl (lv_at hl 0 rfl) ?_
      refine lv_iload_n hx hb dX3_combine_76 rfl (lv_at hl 1 rfl) ?_
      refine lv_isub hx hb dX3_combine_77 ?_
      obtain ⟨p16, hcp16, hf⟩ := hf_bind hf
      have mo17 : CS.hs p5.2 ≤ CS.hs p16.2 := Mono.go hcp16 (m_X3_push N p5.2 (p5.1 - p1.1))
      have hr9 : CS.hs p16.2 ≤ CS.hs R.2 := Mono.go hf (mono_some (Nat.le_refl _))
      have hFc := cFree hC hA
      refine va_callv (va_runV (As := [.int (p5.1 - p1.1)]) (rest := []) ⟨hx, hb, hml, hown, hts⟩ (c_X3_push l dC dI Q N p5.2 (p5.1 - p1.1) p16 hcp16) (cwV 1 hts hX3_combine_X3_push_v135 rfl rfl rfl (by decide +kernel) ⟨(show 2 + 1 ≤ 5 by omega), (show 8 + (2 + 11) + 60 * 2 ≤ 60 * 5 by omega)⟩) ⟨zPre.blind, va_recv hK hC.1 (ci := 2) (q0 := 7) rfl rfl, cPre_go hZ hK hC⟩ rfl rfl hl.1 rfl (lv_room (Nat.le_of_ble_eq_true rfl)) dX3_combine_78 (cAcc h8 mo17 hr9)) hC.2.2.1 (fun q _ h => hFc q h) hFc (fun u9 t9 H1 locs ht hvm hw hB hz1 hk1 hS => ?_)
      obtain ⟨⟨hP, hK1, hD1⟩, hsz1⟩ := hB
      rw [ht] at hP hsz1
      have hC : CP dC dI Q A s.heap p16.2 H1 locs := ⟨hP, hD1.weaken (fun _ _ _ h => hFc _ h), hS, hsz1⟩
      generalize H1 = H at hC ⊢
      have h19 : (CS.hs σ) ≤ CS.hs p16.2 := Nat.le_trans h8 mo17
      refine W.widen (k := CS.hs p16.2 - (CS.hs σ)) (n := 17 * (CS.hs p16.2 - (CS.hs σ))) (cAcc2 h8 mo17) (cAcc3 h8 mo17) ?_
      refine lv_goto (tgt := 101) hx hb dX3_combine_81 (by decide) ?_
      obtain rfl := Option.some.inj hf
      exact W.vret hx hb hr (fun t ht hW => ⟨⟨(), rfl, trivial, ⟨by rw [ht]; exact hC.1, va_K.moved hW.alike hK, hC.2.1⟩, by rw [ht]; exact hC.2.2.2⟩, hC.2.2.1.F ht⟩) hC.2.2.1.2.2 dX3_combine_101
    replace hf := (if_neg c15).symm.trans hf
    by_cases c20 : x1 = 9
    ·
      replace hf := (if_pos c20).symm.trans hf
      refine lv_tableIn (off := 48) (tgt := 84) hx hb dX3_combine_36 (by rw [c20]; decide) (by rw [c20]; decide) (by rw [c20]; decide) (by decide) ?_
      refine lv_aload_n hx hb dX3_combine_84 rfl (lv_at hl 2 rfl) ?_
      refine lv_iload_n hx hb dX3_combine_85 rfl (lv_at hl 0 rfl) ?_
      refine lv_iload_n hx hb dX3_combine_86 rfl (lv_at hl 1 rfl) ?_
      refine lv_imul hx hb dX3_combine_87 ?_
      obtain ⟨p21, hcp21, hf⟩ := hf_bind hf
      have mo22 : CS.hs p5.2 ≤ CS.hs p21.2 := Mono.go hcp21 (m_X3_push N p5.2 (p5.1 * p1.1))
      have hr9 : CS.hs p21.2 ≤ CS.hs R.2 := Mono.go hf (mono_some (Nat.le_refl _))
      have hFc := cFree hC hA
      refine va_callv (va_runV (As := [.int (p5.1 * p1.1)]) (rest := []) ⟨hx, hb, hml, hown, hts⟩ (c_X3_push l dC dI Q N p5.2 (p5.1 * p1.1) p21 hcp21) (cwV 1 hts hX3_combine_X3_push_v135 rfl rfl rfl (by decide +kernel) ⟨(show 2 + 1 ≤ 5 by omega), (show 8 + (2 + 11) + 60 * 2 ≤ 60 * 5 by omega)⟩) ⟨zPre.blind, va_recv hK hC.1 (ci := 2) (q0 := 7) rfl rfl, cPre_go hZ hK hC⟩ rfl rfl hl.1 rfl (lv_room (Nat.le_of_ble_eq_true rfl)) dX3_combine_88 (cAcc h8 mo22 hr9)) hC.2.2.1 (fun q _ h => hFc q h) hFc (fun u9 t9 H1 locs ht hvm hw hB hz1 hk1 hS => ?_)
      obtain ⟨⟨hP, hK1, hD1⟩, hsz1⟩ := hB
      rw [ht] at hP hsz1
      have hC : CP dC dI Q A s.heap p21.2 H1 locs := ⟨hP, hD1.weaken (fun _ _ _ h => hFc _ h), hS, hsz1⟩
      generalize H1 = H at hC ⊢
      have h24 : (CS.hs σ) ≤ CS.hs p21.2 := Nat.le_trans h8 mo22
      refine W.widen (k := CS.hs p21.2 - (CS.hs σ)) (n := 17 * (CS.hs p21.2 - (CS.hs σ))) (cAcc2 h8 mo22) (cAcc3 h8 mo22) ?_
      refine lv_goto (tgt := 101) hx hb dX3_combine_91 (by decide) ?_
      obtain rfl := Option.some.inj hf
      exact W.vret hx hb hr (fun t ht hW => ⟨⟨(), rfl, trivial, ⟨by rw [ht]; exact hC.1, va_K.moved hW.alike hK, hC.2.1⟩, by rw [ht]; exact hC.2.2.2⟩, hC.2.2.1.F ht⟩) hC.2.2.1.2.2 dX3_combine_101
    replace hf := (if_neg c20).symm.trans hf
    refine lv_tableOut (tgt := 94) hx hb dX3_combine_36 (by have := z_ton (a := 7) c10 (by decide); have := z_ton (a := 8) c15 (by decide); have := z_ton (a := 9) c20 (by decide); omega) (by decide) ?_
    refine lv_aload_n hx hb dX3_combine_94 rfl (lv_at hl 2 rfl) ?_
    refine lv_iload_n hx hb dX3_combine_95 rfl (lv_at hl 3 rfl) ?_
    refine lv_iload_n hx hb dX3_combine_96 rfl (lv_at hl 0 rfl) ?_
    refine lv_iload_n hx hb dX3_combine_97 rfl (lv_at hl 1 rfl) ?_
    obtain ⟨p25, hcp25, hf⟩ := hf_bind hf
    have mo26 : CS.hs p5.2 ≤ CS.hs p25.2 := Mono.go hcp25 (m_X3_divide N p5.2 x1 p5.1 p1.1)
    have hr9 : CS.hs p25.2 ≤ CS.hs R.2 := Mono.go hf (mono_some (Nat.le_refl _))
    have hFc := cFree hC hA
    refine va_callv (va_runV (As := [.int x1, .int p5.1, .int p1.1]) (rest := []) ⟨hx, hb, hml, hown, hts⟩ (c_X3_divide l dC dI Q N p5.2 x1 p5.1 p1.1 p25 hcp25) (cwV 3 hts hX3_combine_X3_divide_v146 rfl rfl rfl (by decide +kernel) ⟨(show 4 + 1 ≤ 5 by omega), (show 8 + (4 + 11) + 60 * 4 ≤ 60 * 5 by omega)⟩) ⟨zPre.blind, va_recv hK hC.1 (ci := 2) (q0 := 7) rfl rfl, cPre_go hZ hK hC⟩ rfl rfl hl.1 rfl (lv_room (Nat.le_of_ble_eq_true rfl)) dX3_combine_98 (cAcc h8 mo26 hr9)) hC.2.2.1 (fun q _ h => hFc q h) hFc (fun u9 t9 H1 locs ht hvm hw hB hz1 hk1 hS => ?_)
    obtain ⟨⟨hP, hK1, hD1⟩, hsz1⟩ := hB
    rw [ht] at hP hsz1
    have hC : CP dC dI Q A s.heap p25.2 H1 locs := ⟨hP, hD1.weaken (fun _ _ _ h => hFc _ h), hS, hsz1⟩
    generalize H1 = H at hC ⊢
    have h28 : (CS.hs σ) ≤ CS.hs p25.2 := Nat.le_trans h8 mo26
    refine W.widen (k := CS.hs p25.2 - (CS.hs σ)) (n := 17 * (CS.hs p25.2 - (CS.hs σ))) (cAcc2 h8 mo26) (cAcc3 h8 mo26) ?_
    obtain rfl := Option.some.inj hf
    exact W.vret hx hb hr (fun t ht hW => ⟨⟨(), rfl, trivial, ⟨by rw [ht]; exact hC.1, va_K.moved hW.alike hK, hC.2.1⟩, by rw [ht]; exact hC.2.2.2⟩, hC.2.2.1.F ht⟩) hC.2.2.1.2.2 dX3_combine_101
  ·
    replace hf := (if_neg c9).symm.trans hf
    refine lv_aload_n hx hb dX3_combine_16 rfl (lv_at hl 2 rfl) ?_
    refine lv_iload_n hx hb dX3_combine_17 rfl (lv_at hl 3 rfl) ?_
    refine lv_iload_n hx hb dX3_combine_18 rfl (lv_at hl 0 rfl) ?_
    refine lv_iload_n hx hb dX3_combine_19 rfl (lv_at hl 1 rfl) ?_
    obtain ⟨p29, hcp29, hf⟩ := hf_bind hf
    have mo30 : CS.hs p5.2 ≤ CS.hs p29.2 := Mono.go hcp29 (m_X3_compares N p5.2 x1 p5.1 p1.1)
    have hr9 : CS.hs p29.2 ≤ CS.hs R.2 := Mono.go hf (mono_ite (mono_bind (m_X3_push N p29.2 0) (fun p34 => (mono_some (Nat.le_refl _)))) (mono_bind (m_X3_push N p29.2 1) (fun p38 => (mono_some (Nat.le_refl _)))))
    have hFc := cFree hC hA
    refine va_calli (va_runS (As := [.int x1, .int p5.1, .int p1.1]) (rest := [.ref (Q.o 7)]) ⟨hx, hb, hml, hown, hts⟩ (c_X3_compares l dC dI Q N p5.2 x1 p5.1 p1.1 p29 hcp29) (va_cwS 3 hts hX3_combine_X3_compares_s142 rfl rfl rfl (by decide +kernel) ⟨(show 1 + 1 ≤ 5 by omega), (show 8 + (3 + 11) + 60 * 1 ≤ 60 * 5 by omega)⟩) ⟨zPre.blind, cPre_go hZ hK hC⟩ rfl rfl hl.1 rfl (lv_room (Nat.le_of_ble_eq_true rfl)) dX3_combine_20 (cAcc h8 mo30 hr9)) hC.2.2.1 (fun q _ h => hFc q h) hFc (fun r31 u9 t9 H1 locs ht hvm hw hB hz1 hk1 hS => ?_)
    obtain ⟨⟨hP, hK1, hD1⟩, hsz1⟩ := hB
    rw [ht] at hP hsz1
    have hC : CP dC dI Q A s.heap p29.2 H1 locs := ⟨hP, hD1.weaken (fun _ _ _ h => hFc _ h), hS, hsz1⟩
    generalize H1 = H at hC ⊢
    have h32 : (CS.hs σ) ≤ CS.hs p29.2 := Nat.le_trans h8 mo30
    refine W.widen (k := CS.hs p29.2 - (CS.hs σ)) (n := 17 * (CS.hs p29.2 - (CS.hs σ))) (cAcc2 h8 mo30) (cAcc3 h8 mo30) ?_
    obtain rfl : r31 = p29.1 := hw
    refine lv_if_eq (tgt := 30) hx hb dX3_combine_23 (by decide) (fun c33 => ?_) (fun c33 => ?_)
    ·
      replace hf := (if_pos c33).symm.trans hf
      refine lv_iconst (v := 0) hx hb dX3_combine_30 (by decide) ?_
      obtain ⟨p34, hcp34, hf⟩ := hf_bind hf
      have mo35 : CS.hs p29.2 ≤ CS.hs p34.2 := Mono.go hcp34 (m_X3_push N p29.2 0)
      have hr9 : CS.hs p34.2 ≤ CS.hs R.2 := Mono.go hf (mono_some (Nat.le_refl _))
      have hFc := cFree hC hA
      refine va_callv (va_runV (As := [.int 0]) (rest := []) ⟨hx, hb, hml, hown, hts⟩ (c_X3_push l dC dI Q N p29.2 0 p34 hcp34) (cwV 1 hts hX3_combine_X3_push_v135 rfl rfl rfl (by decide +kernel) ⟨(show 2 + 1 ≤ 5 by omega), (show 8 + (2 + 11) + 60 * 2 ≤ 60 * 5 by omega)⟩) ⟨zPre.blind, va_recv hK hC.1 (ci := 2) (q0 := 7) rfl rfl, cPre_go hZ hK hC⟩ rfl rfl hl.1 rfl (lv_room (Nat.le_of_ble_eq_true rfl)) dX3_combine_31 (cAcc h32 mo35 hr9)) hC.2.2.1 (fun q _ h => hFc q h) hFc (fun u9 t9 H1 locs ht hvm hw hB hz1 hk1 hS => ?_)
      obtain ⟨⟨hP, hK1, hD1⟩, hsz1⟩ := hB
      rw [ht] at hP hsz1
      have hC : CP dC dI Q A s.heap p34.2 H1 locs := ⟨hP, hD1.weaken (fun _ _ _ h => hFc _ h), hS, hsz1⟩
      generalize H1 = H at hC ⊢
      have h37 : (CS.hs σ) ≤ CS.hs p34.2 := Nat.le_trans h32 mo35
      refine W.widen (k := CS.hs p34.2 - (CS.hs σ)) (n := 17 * (CS.hs p34.2 - (CS.hs σ))) (cAcc2 h32 mo35) (cAcc3 h32 mo35) ?_
      obtain rfl := Option.some.inj hf
      exact W.vret hx hb hr (fun t ht hW => ⟨⟨(), rfl, trivial, ⟨by rw [ht]; exact hC.1, va_K.moved hW.alike hK, hC.2.1⟩, by rw [ht]; exact hC.2.2.2⟩, hC.2.2.1.F ht⟩) hC.2.2.1.2.2 dX3_combine_34
    ·
      replace hf := (if_neg c33).symm.trans hf
      refine lv_iconst (v := 1) hx hb dX3_combine_26 (by decide) ?_
      refine lv_goto (tgt := 31) hx hb dX3_combine_27 (by decide) ?_
      obtain ⟨p38, hcp38, hf⟩ := hf_bind hf
      have mo39 : CS.hs p29.2 ≤ CS.hs p38.2 := Mono.go hcp38 (m_X3_push N p29.2 1)
      have hr9 : CS.hs p38.2 ≤ CS.hs R.2 := Mono.go hf (mono_some (Nat.le_refl _))
      have hFc := cFree hC hA
      refine va_callv (va_runV (As := [.int 1]) (rest := []) ⟨hx, hb, hml, hown, hts⟩ (c_X3_push l dC dI Q N p29.2 1 p38 hcp38) (cwV 1 hts hX3_combine_X3_push_v135 rfl rfl rfl (by decide +kernel) ⟨(show 2 + 1 ≤ 5 by omega), (show 8 + (2 + 11) + 60 * 2 ≤ 60 * 5 by omega)⟩) ⟨zPre.blind, va_recv hK hC.1 (ci := 2) (q0 := 7) rfl rfl, cPre_go hZ hK hC⟩ rfl rfl hl.1 rfl (lv_room (Nat.le_of_ble_eq_true rfl)) dX3_combine_31 (cAcc h32 mo39 hr9)) hC.2.2.1 (fun q _ h => hFc q h) hFc (fun u9 t9 H1 locs ht hvm hw hB hz1 hk1 hS => ?_)
      obtain ⟨⟨hP, hK1, hD1⟩, hsz1⟩ := hB
      rw [ht] at hP hsz1
      have hC : CP dC dI Q A s.heap p38.2 H1 locs := ⟨hP, hD1.weaken (fun _ _ _ h => hFc _ h), hS, hsz1⟩
      generalize H1 = H at hC ⊢
      have h41 : (CS.hs σ) ≤ CS.hs p38.2 := Nat.le_trans h32 mo39
      refine W.widen (k := CS.hs p38.2 - (CS.hs σ)) (n := 17 * (CS.hs p38.2 - (CS.hs σ))) (cAcc2 h32 mo39) (cAcc3 h32 mo39) ?_
      obtain rfl := Option.some.inj hf
      exact W.vret hx hb hr (fun t ht hW => ⟨⟨(), rfl, trivial, ⟨by rw [ht]; exact hC.1, va_K.moved hW.alike hK, hC.2.1⟩, by rw [ht]; exact hC.2.2.2⟩, hC.2.2.1.F ht⟩) hC.2.2.1.2.2 dX3_combine_34
