section
set_option maxHeartbeats 4000000 in
set_option maxRecDepth 100000 in
theorem c_X3_compares (l : Launch) (dC : Nat → ClassId) (dI : Nat → Nat → Nat) (Q : CQ) (N : Nat) (σ : CS) (x0 : Int32) (x1 : Int32) (x2 : Int32) (R : Int32 × CS) (hf : f_X3_compares N σ x0 x1 x2 = some R) : Met l yX3_compares wzX3_compares ({ frames := 1, cells := CS.hs R.2 - CS.hs σ, slots := 17 * (CS.hs R.2 - CS.hs σ), locals := 60 * 1 }) (va_Pc [.int x0, .int x1, .int x2] (zPre dC dI (CS.hs σ) (cW Q σ) (cT Q))) (va_Qi (fun (r : Int32) (_ : Unit) => r = R.1) (fun (_ : Unit) (t : State) => zPost dC dI (va_A (cW Q σ) (CS.hs σ)) (cW Q R.2) (cT Q) t ∧ t.heap.size = CS.hs R.2) (va_A (cW Q σ) (CS.hs σ))) (CS.hs R.2 - CS.hs σ) (17 * (CS.hs R.2 - CS.hs σ)) (va_A (cW Q σ) (CS.hs σ)) := by
  refine Met.ofW (cc := cX3_compares) (maxL := 3) (ret := (some .boolean)) (by decide) rfl ?_
  intro p e s m args below meth c s₁ B hml hv
  obtain ⟨rfl, hsz, hZ, hP, hK, hD0⟩ := hv
  have hx := B.exec
  have hb := B.bytes
  have hr := B.returns
  have hts := atoms_spec (ws := wzX3_compares) B.pre
  have hown : s.vm.findClass RX3 = some m.cls := findClass_of_methodNamed B.named
  have hlocks := B.notSynchronized
  have hD := hD0.self (sz := CS.hs σ)
  generalize hAe : va_A (cW Q σ) (CS.hs σ) = A at hD ⊢
  have hA : ∀ q : Nat, s.heap.size ≤ q → A q := fun q h => by rw [← hAe]; exact Or.inr (hsz ▸ h)
  have hC : CP dC dI Q A s.heap σ s.heap [] := ⟨hP, hD, va_S.rf, hsz⟩
  have h0 : CS.hs σ ≤ CS.hs σ := Nat.le_refl _
  have hl := lv_entry ([.int x0, .int x1, .int x2]) (n := 3) (Nat.le_of_ble_eq_true rfl)
  rw [lg_entry_eq]
  generalize (lg_sl ([.int x0, .int x1, .int x2]) ++ List.replicate (3 - (lg_sl ([.int x0, .int x1, .int x2])).length) Slot.unset).toArray = ls at hl ⊢
  have hl : lv_has ls 3 [(0, .int x0), (1, .int x1), (2, .int x2)] := hl
  unfold f_X3_compares at hf
  refine W.widen (k := CS.hs σ - CS.hs σ) (n := 17 * (CS.hs σ - CS.hs σ)) (Nat.zero_le _) (Nat.zero_le _) ?_
  refine lv_iload_n hx hb dX3_compares_0 rfl (lv_at hl 0 rfl) ?_
  by_cases c1 : x0 = 12
  ·
    replace hf := (if_pos c1).symm.trans hf
    refine lv_tableIn (off := 35) (tgt := 36) hx hb dX3_compares_1 (by rw [c1]; decide) (by rw [c1]; decide) (by rw [c1]; decide) (by decide) ?_
    refine lv_iload_n hx hb dX3_compares_36 rfl (lv_at hl 1 rfl) ?_
    refine lv_iload_n hx hb dX3_compares_37 rfl (lv_at hl 2 rfl) ?_
    refine lv_icmp_ge (tgt := 45) hx hb dX3_compares_38 (by decide) (fun c2 => ?_) (fun c2 => ?_)
    ·
      replace hf := (if_pos c2).symm.trans hf
      refine lv_iconst (v := 0) hx hb dX3_compares_45 (by decide) ?_
      obtain rfl := Option.some.inj hf
      exact W.zret (v := 0) hx hb hr (rfl) (fun t ht hW => ⟨⟨0, (), rfl, rfl, ⟨by rw [ht]; exact hC.1, va_K.moved hW.alike hK, hC.2.1⟩, by rw [ht]; exact hC.2.2.2⟩, hC.2.2.1.F ht⟩) hC.2.2.1.2.2 dX3_compares_46
    ·
      replace hf := (if_neg c2).symm.trans hf
      refine lv_iconst (v := 1) hx hb dX3_compares_41 (by decide) ?_
      refine lv_goto (tgt := 46) hx hb dX3_compares_42 (by decide) ?_
      obtain rfl := Option.some.inj hf
      exact W.zret (v := 1) hx hb hr (rfl) (fun t ht hW => ⟨⟨1, (), rfl, rfl, ⟨by rw [ht]; exact hC.1, va_K.moved hW.alike hK, hC.2.1⟩, by rw [ht]; exact hC.2.2.2⟩, hC.2.2.1.F ht⟩) hC.2.2.1.2.2 dX3_compares_46
  replace hf := (if_neg c1).symm.trans hf
  by_cases c3 : x0 = 13
  ·
    replace hf := (if_pos c3).symm.trans hf
    refine lv_tableIn (off := 46) (tgt := 47) hx hb dX3_compares_1 (by rw [c3]; decide) (by rw [c3]; decide) (by rw [c3]; decide) (by decide) ?_
    refine lv_iload_n hx hb dX3_compares_47 rfl (lv_at hl 1 rfl) ?_
    refine lv_iload_n hx hb dX3_compares_48 rfl (lv_at hl 2 rfl) ?_
    refine lv_icmp_gt (tgt := 56) hx hb dX3_compares_49 (by decide) (fun c4 => ?_) (fun c4 => ?_)
    ·
      replace hf := (if_pos c4).symm.trans hf
      refine lv_iconst (v := 0) hx hb dX3_compares_56 (by decide) ?_
      obtain rfl := Option.some.inj hf
      exact W.zret (v := 0) hx hb hr (rfl) (fun t ht hW => ⟨⟨0, (), rfl, rfl, ⟨by rw [ht]; exact hC.1, va_K.moved hW.alike hK, hC.2.1⟩, by rw [ht]; exact hC.2.2.2⟩, hC.2.2.1.F ht⟩) hC.2.2.1.2.2 dX3_compares_57
    ·
      replace hf := (if_neg c4).symm.trans hf
      refine lv_iconst (v := 1) hx hb dX3_compares_52 (by decide) ?_
      refine lv_goto (tgt := 57) hx hb dX3_compares_53 (by decide) ?_
      obtain rfl := Option.some.inj hf
      exact W.zret (v := 1) hx hb hr (rfl) (fun t ht hW => ⟨⟨1, (), rfl, rfl, ⟨by rw [ht]; exact hC.1, va_K.moved hW.alike hK, hC.2.1⟩, by rw [ht]; exact hC.2.2.2⟩, hC.2.2.1.F ht⟩) hC.2.2.1.2.2 dX3_compares_57
  replace hf := (if_neg c3).symm.trans hf
  by_cases c5 : x0 = 14
  ·
    replace hf := (if_pos c5).symm.trans hf
    refine lv_tableIn (off := 57) (tgt := 58) hx hb dX3_compares_1 (by rw [c5]; decide) (by rw [c5]; decide) (by rw [c5]; decide) (by decide) ?_
    refine lv_iload_n hx hb dX3_compares_58 rfl (lv_at hl 1 rfl) ?_
    refine lv_iload_n hx hb dX3_compares_59 rfl (lv_at hl 2 rfl) ?_
    refine lv_icmp_le (tgt := 67) hx hb dX3_compares_60 (by decide) (fun c6 => ?_) (fun c6 => ?_)
    ·
      replace hf := (if_pos c6).symm.trans hf
      refine lv_iconst (v := 0) hx hb dX3_compares_67 (by decide) ?_
      obtain rfl := Option.some.inj hf
      exact W.zret (v := 0) hx hb hr (rfl) (fun t ht hW => ⟨⟨0, (), rfl, rfl, ⟨by rw [ht]; exact hC.1, va_K.moved hW.alike hK, hC.2.1⟩, by rw [ht]; exact hC.2.2.2⟩, hC.2.2.1.F ht⟩) hC.2.2.1.2.2 dX3_compares_68
    ·
      replace hf := (if_neg c6).symm.trans hf
      refine lv_iconst (v := 1) hx hb dX3_compares_63 (by decide) ?_
      refine lv_goto (tgt := 68) hx hb dX3_compares_64 (by decide) ?_
      obtain rfl := Option.some.inj hf
      exact W.zret (v := 1) hx hb hr (rfl) (fun t ht hW => ⟨⟨1, (), rfl, rfl, ⟨by rw [ht]; exact hC.1, va_K.moved hW.alike hK, hC.2.1⟩, by rw [ht]; exact hC.2.2.2⟩, hC.2.2.1.F ht⟩) hC.2.2.1.2.2 dX3_compares_68
  replace hf := (if_neg c5).symm.trans hf
  by_cases c7 : x0 = 15
  ·
    replace hf := (if_pos c7).symm.trans hf
    refine lv_tableIn (off := 68) (tgt := 69) hx hb dX3_compares_1 (by rw [c7]; decide) (by rw [c7]; decide) (by rw [c7]; decide) (by decide) ?_
    refine lv_iload_n hx hb dX3_compares_69 rfl (lv_at hl 1 rfl) ?_
    refine lv_iload_n hx hb dX3_compares_70 rfl (lv_at hl 2 rfl) ?_
    refine lv_icmp_lt (tgt := 78) hx hb dX3_compares_71 (by decide) (fun c8 => ?_) (fun c8 => ?_)
    ·
      replace hf := (if_pos c8).symm.trans hf
      refine lv_iconst (v := 0) hx hb dX3_compares_78 (by decide) ?_
      obtain rfl := Option.some.inj hf
      exact W.zret (v := 0) hx hb hr (rfl) (fun t ht hW => ⟨⟨0, (), rfl, rfl, ⟨by rw [ht]; exact hC.1, va_K.moved hW.alike hK, hC.2.1⟩, by rw [ht]; exact hC.2.2.2⟩, hC.2.2.1.F ht⟩) hC.2.2.1.2.2 dX3_compares_79
    ·
      replace hf := (if_neg c8).symm.trans hf
      refine lv_iconst (v := 1) hx hb dX3_compares_74 (by decide) ?_
      refine lv_goto (tgt := 79) hx hb dX3_compares_75 (by decide) ?_
      obtain rfl := Option.some.inj hf
      exact W.zret (v := 1) hx hb hr (rfl) (fun t ht hW => ⟨⟨1, (), rfl, rfl, ⟨by rw [ht]; exact hC.1, va_K.moved hW.alike hK, hC.2.1⟩, by rw [ht]; exact hC.2.2.2⟩, hC.2.2.1.F ht⟩) hC.2.2.1.2.2 dX3_compares_79
  replace hf := (if_neg c7).symm.trans hf
  by_cases c9 : x0 = 16
  ·
    replace hf := (if_pos c9).symm.trans hf
    refine lv_tableIn (off := 79) (tgt := 80) hx hb dX3_compares_1 (by rw [c9]; decide) (by rw [c9]; decide) (by rw [c9]; decide) (by decide) ?_
    refine lv_iload_n hx hb dX3_compares_80 rfl (lv_at hl 1 rfl) ?_
    refine lv_iload_n hx hb dX3_compares_81 rfl (lv_at hl 2 rfl) ?_
    refine lv_icmp_ne (tgt := 89) hx hb dX3_compares_82 (by decide) (fun c10 => ?_) (fun c10 => ?_)
    ·
      replace hf := (if_neg c10).symm.trans hf
      refine lv_iconst (v := 0) hx hb dX3_compares_89 (by decide) ?_
      obtain rfl := Option.some.inj hf
      exact W.zret (v := 0) hx hb hr (rfl) (fun t ht hW => ⟨⟨0, (), rfl, rfl, ⟨by rw [ht]; exact hC.1, va_K.moved hW.alike hK, hC.2.1⟩, by rw [ht]; exact hC.2.2.2⟩, hC.2.2.1.F ht⟩) hC.2.2.1.2.2 dX3_compares_90
    ·
      replace hf := (if_pos c10).symm.trans hf
      refine lv_iconst (v := 1) hx hb dX3_compares_85 (by decide) ?_
      refine lv_goto (tgt := 90) hx hb dX3_compares_86 (by decide) ?_
      obtain rfl := Option.some.inj hf
      exact W.zret (v := 1) hx hb hr (rfl) (fun t ht hW => ⟨⟨1, (), rfl, rfl, ⟨by rw [ht]; exact hC.1, va_K.moved hW.alike hK, hC.2.1⟩, by rw [ht]; exact hC.2.2.2⟩, hC.2.2.1.F ht⟩) hC.2.2.1.2.2 dX3_compares_90
  replace hf := (if_neg c9).symm.trans hf
  refine lv_tableOut (tgt := 91) hx hb dX3_compares_1 (by have := z_ton (a := 12) c1 (by decide); have := z_ton (a := 13) c3 (by decide); have := z_ton (a := 14) c5 (by decide); have := z_ton (a := 15) c7 (by decide); have := z_ton (a := 16) c9 (by decide); omega) (by decide) ?_
  refine lv_iload_n hx hb dX3_compares_91 rfl (lv_at hl 1 rfl) ?_
  refine lv_iload_n hx hb dX3_compares_92 rfl (lv_at hl 2 rfl) ?_
  refine lv_icmp_eq (tgt := 100) hx hb dX3_compares_93 (by decide) (fun c11 => ?_) (fun c11 => ?_)
  ·
    replace hf := (if_pos c11).symm.trans hf
    refine lv_iconst (v := 0) hx hb dX3_compares_100 (by decide) ?_
    obtain rfl := Option.some.inj hf
    exact W.zret (v := 0) hx hb hr (rfl) (fun t ht hW => ⟨⟨0, (), rfl, rfl, ⟨by rw [ht]; exact hC.1, va_K.moved hW.alike hK, hC.2.1⟩, by rw [ht]; exact hC.2.2.2⟩, hC.2.2.1.F ht⟩) hC.2.2.1.2.2 dX3_compares_101
  ·
    replace hf := (if_neg c11).symm.trans hf
    refine lv_iconst (v := 1) hx hb dX3_compares_96 (by decide) ?_
    refine lv_goto (tgt := 101) hx hb dX3_compares_97 (by decide) ?_
    obtain rfl := Option.some.inj hf
    exact W.zret (v := 1) hx hb hr (rfl) (fun t ht hW => ⟨⟨1, (), rfl, rfl, ⟨by rw [ht]; exact hC.1, va_K.moved hW.alike hK, hC.2.1⟩, by rw [ht]; exact hC.2.2.2⟩, hC.2.2.1.F ht⟩) hC.2.2.1.2.2 dX3_compares_101
theorem k_X8_init_methodLink_RX8_3_objectInit : Cond.methodLink RX8 3 objectInit ∈ wzX8_init := List.mem_cons_of_mem _ (List.mem_append_left _ (List.mem_of_getElem? (i := 0) rfl))
theorem k_X8_init_instanceMethod_objectInit : Cond.instanceMethod objectInit ∈ wzX8_init := List.mem_cons_of_mem _ (List.mem_append_left _ (List.mem_of_getElem? (i := 1) rfl))
theorem k_X8_init_code_objectInit_0xb1_1_none : Cond.code objectInit ⟨#[0xb1]⟩ 1 none ∈ wzX8_init := List.mem_cons_of_mem _ (List.mem_append_left _ (List.mem_of_getElem? (i := 2) rfl))
theorem k_X8_init_arrayClass_int : Cond.arrayClass .int ∈ wzX8_init := List.mem_cons_of_mem _ (List.mem_append_left _ (List.mem_of_getElem? (i := 3) rfl))
theorem i_X8_init_X8 : ∀ w ∈ wsX80, w ∈ wzX8_init := fun _ h => List.mem_cons_of_mem _ (List.mem_append_right _ (List.mem_append_left _ (h)))
theorem k_X8_init_fieldLink_RX8_9_SR_Thrown_kinds_I : Cond.fieldLink RX8 9 "StatementRules2$Thrown" "kinds" "[I" ∈ wzX8_init := List.mem_cons_of_mem _ (List.mem_append_left _ (List.mem_of_getElem? (i := 4) rfl))
theorem k_X8_init_fieldLink_RX8_15_SR_Thrown_numbers_I : Cond.fieldLink RX8 15 "StatementRules2$Thrown" "numbers" "[I" ∈ wzX8_init := List.mem_cons_of_mem _ (List.mem_append_left _ (List.mem_of_getElem? (i := 5) rfl))
set_option maxHeartbeats 4000000 in
set_option maxRecDepth 100000 in
theorem c_X8_init (l : Launch) (dC : Nat → ClassId) (dI : Nat → Nat → Nat) (Q : CQ) (N : Nat) (σ : CS) (x0 : Nat) (R : Unit × CS) (hf : f_X8_init N σ x0 = some R) : Met l yX8_init wzX8_init ({ frames := 1, cells := CS.hs R.2 - CS.hs σ, slots := 17 * (CS.hs R.2 - CS.hs σ), locals := 60 * 1 }) (va_Pc [.ref x0] (zPre dC dI (CS.hs σ) (cW Q σ) (cT Q))) (va_Qv (fun (_ : Unit) => True) (fun (_ : Unit) (t : State) => zPost dC dI (va_A (cW Q σ) (CS.hs σ)) (cW Q R.2) (cT Q) t ∧ t.heap.size = CS.hs R.2) (va_A (cW Q σ) (CS.hs σ))) (CS.hs R.2 - CS.hs σ) (17 * (CS.hs R.2 - CS.hs σ)) (va_A (cW Q σ) (CS.hs σ)) := by
  refine Met.ofW (cc := cX8_init) (maxL := 1) (ret := none) (by decide) rfl ?_
  intro p e s m args below meth c s₁ B hml hv
  obtain ⟨rfl, hsz, hZ, hP, hK, hD0⟩ := hv
  have hx := B.exec
  have hb := B.bytes
  have hr := B.returns
  have hts := atoms_spec (ws := wzX8_init) B.pre
  have hown : s.vm.findClass RX8 = some m.cls := findClass_of_methodNamed B.named
  have hlocks := B.notSynchronized
  have hin : meth.name = "<init>" := (name_of_methodNamed B.named B.method).1
  have hD := hD0.self (sz := CS.hs σ)
  generalize hAe : va_A (cW Q σ) (CS.hs σ) = A at hD ⊢
  have hA : ∀ q : Nat, s.heap.size ≤ q → A q := fun q h => by rw [← hAe]; exact Or.inr (hsz ▸ h)
  have hC : CP dC dI Q A s.heap σ s.heap [] := ⟨hP, hD, va_S.rf, hsz⟩
  have h0 : CS.hs σ ≤ CS.hs σ := Nat.le_refl _
  have hl := lv_entry ([.ref x0]) (n := 1) (Nat.le_of_ble_eq_true rfl)
  rw [lg_entry_eq]
  generalize (lg_sl ([.ref x0]) ++ List.replicate (1 - (lg_sl ([.ref x0])).length) Slot.unset).toArray = ls at hl ⊢
  have hl : lv_has ls 1 [(0, .ref x0)] := hl
  unfold f_X8_init at hf
  refine W.widen (k := CS.hs σ - CS.hs σ) (n := 17 * (CS.hs σ - CS.hs σ)) (Nat.zero_le _) (Nat.zero_le _) ?_
  refine lv_aload_n hx hb dX8_init_0 rfl (lv_at hl 0 rfl) ?_
  refine W.objInit hx hb hown (hts (.methodLink RX8 3 objectInit) k_X8_init_methodLink_RX8_3_objectInit) (hts (.instanceMethod objectInit) k_X8_init_instanceMethod_objectInit) (hts (.code objectInit ⟨#[0xb1]⟩ 1 none) k_X8_init_code_objectInit_0xb1_1_none) rfl (by rw [hml]; exact hl.1) rfl dX8_init_1 (Nat.le_of_ble_eq_true rfl) (Nat.le_of_ble_eq_true rfl) ?_
  refine W.eq (g2 := F0 m 4 ls []) rfl ?_
  refine lv_aload_n hx hb dX8_init_4 rfl (lv_at hl 0 rfl) ?_
  refine lv_bipush (v := 8) hx hb dX8_init_5 (by decide) ?_
  have hn9 : CS.hs σ + 1 ≤ CS.hs R.2 := Mono.go hf (mono_ite (mono_ite (mono_le (Nat.le_succ _) (mono_ite (mono_ite (mono_some (Nat.le_refl _)) mono_none) mono_none)) mono_none) mono_none)
  refine cNew_a hx hb (hts (.arrayClass .int) k_X8_init_arrayClass_int) hK hC hA (cN1 h0 hn9) (cN2 (by decide) h0 hn9) dX8_init_7 (fun H hC => ?_)
  have h1 : (CS.hs σ) ≤ CS.hs σ + 1 := Nat.le_succ_of_le h0
  refine W.widen (k := (CS.hs σ + 1) - (CS.hs σ)) (n := 17 * ((CS.hs σ + 1) - (CS.hs σ))) (cN3 h0) (cN4 (by decide) h0) ?_
  obtain ⟨b2, hf⟩ := hf_ite hf
  obtain ⟨b3, hf⟩ := hf_ite hf
  refine cK0 hx hb hts i_X8_init_X8 hown hK hC hin (hts (.fieldLink RX8 9 "StatementRules2$Thrown" "kinds" "[I") k_X8_init_fieldLink_RX8_9_SR_Thrown_kinds_I) dX8_init_9 b2 b3 (fun H locs hC => ?_)
  refine lv_aload_n hx hb dX8_init_12 rfl (lv_at hl 0 rfl) ?_
  refine lv_bipush (v := 8) hx hb dX8_init_13 (by decide) ?_
  have hn9 : (CS.hs σ + 1) + 1 ≤ CS.hs R.2 := Mono.go hf (mono_ite (mono_ite (mono_some (Nat.le_refl _)) mono_none) mono_none)
  refine cNew_a hx hb (hts (.arrayClass .int) k_X8_init_arrayClass_int) hK hC hA (cN1 h1 hn9) (cN2 (by decide) h1 hn9) dX8_init_15 (fun H hC => ?_)
  have h4 : (CS.hs σ) ≤ (CS.hs σ + 1) + 1 := Nat.le_succ_of_le h1
  refine W.widen (k := ((CS.hs σ + 1) + 1) - (CS.hs σ)) (n := 17 * (((CS.hs σ + 1) + 1) - (CS.hs σ))) (cN3 h1) (cN4 (by decide) h1) ?_
  obtain ⟨b5, hf⟩ := hf_ite hf
  obtain ⟨b6, hf⟩ := hf_ite hf
  refine cK1 hx hb hts i_X8_init_X8 hown hK hC hin (hts (.fieldLink RX8 15 "StatementRules2$Thrown" "numbers" "[I") k_X8_init_fieldLink_RX8_15_SR_Thrown_numbers_I) dX8_init_17 b5 b6 (fun H locs hC => ?_)
  obtain rfl := Option.some.inj hf
  exact W.vret hx hb hr (fun t ht hW => ⟨⟨(), rfl, trivial, ⟨by rw [ht]; exact hC.1, va_K.moved hW.alike hK, hC.2.1⟩, by rw [ht]; exact hC.2.2.2⟩, hC.2.2.1.F ht⟩) hC.2.2.1.2.2 dX8_init_20
theorem k_X3_isHeld_fieldLink_RX3_60_SR_Machine_depth_I : Cond.fieldLink RX3 60 "StatementRules2$Machine" "depth" "I" ∈ wzX3_isHeld := List.mem_cons_of_mem _ (List.mem_append_left _ (List.mem_of_getElem? (i := 0) rfl))
theorem i_X3_isHeld_X3 : ∀ w ∈ wsX30, w ∈ wzX3_isHeld := fun _ h => List.mem_cons_of_mem _ (List.mem_append_right _ (List.mem_append_left _ (h)))
theorem k_X3_isHeld_fieldLink_RX3_20_SR_Machine_frames_LSR_Frame : Cond.fieldLink RX3 20 "StatementRules2$Machine" "frames" "[LStatementRules2$Frame;" ∈ wzX3_isHeld := List.mem_cons_of_mem _ (List.mem_append_left _ (List.mem_of_getElem? (i := 1) rfl))
theorem i_X3_isHeld_X2 : ∀ w ∈ wsX20, w ∈ wzX3_isHeld := fun _ h => List.mem_cons_of_mem _ (List.mem_append_right _ (List.mem_append_right _ (List.mem_append_left _ (h))))
set_option maxHeartbeats 4000000 in
set_option maxRecDepth 100000 in
theorem j_X3_isHeld_46 {p : Program} {e : Env} {s : State} {m : MethodId} {args : Array Value} {below : List Frame} {meth : Method} {c : Code} {A : Nat → Prop} (l : Launch) (dC : Nat → ClassId) (dI : Nat → Nat → Nat) (Q : CQ) (N : Nat) (z9h : Nat) (R : Int32 × CS) (hx : p.tables.exec = Jvm.exec) (hb : c.code = cX3_isHeld) (hr : meth.sig.returnType = (some .boolean)) (hml : c.maxLocals = 4) (hown : s.vm.findClass RX3 = some m.cls) (hts : ∀ w ∈ wzX3_isHeld, w.before args s = true) (hlocks : meth.locks = false) (hZ : zAMB s) (hA : ∀ q : Nat, s.heap.size ≤ q → A q) (hK : va_K (dC, dI) vwCl (cT Q) s) : ∀ (σ : CS) (H : Heap) (locs : List Loc) (ls : Array Slot), f_X3_isHeld_46 N σ = some R → z9h ≤ CS.hs σ → CP dC dI Q A s.heap σ H locs → lv_has ls 4 [] → W p l e ({ frames := 1, cells := CS.hs R.2 - z9h, slots := 17 * (CS.hs R.2 - z9h), locals := 60 * 1 }) s m args below meth c H locs (CS.hs σ - z9h) (17 * (CS.hs σ - z9h)) (MQ below (va_Qi (fun (r : Int32) (_ : Unit) => r = R.1) (fun (_ : Unit) (t : State) => zPost dC dI A (cW Q R.2) (cT Q) t ∧ t.heap.size = CS.hs R.2) A) args s (CS.hs R.2 - z9h) (17 * (CS.hs R.2 - z9h)) A) (F0 m 46 ls []) := by
  intro σ  H locs ls hf h0 hC hl
  unfold f_X3_isHeld_46 at hf
  refine lv_iconst (v := 0) hx hb dX3_isHeld_46 (by decide) ?_
  obtain rfl := Option.some.inj hf
  exact W.zret (v := 0) hx hb hr (rfl) (fun t ht hW => ⟨⟨0, (), rfl, rfl, ⟨by rw [ht]; exact hC.1, va_K.moved hW.alike hK, hC.2.1⟩, by rw [ht]; exact hC.2.2.2⟩, hC.2.2.1.F ht⟩) hC.2.2.1.2.2 dX3_isHeld_47
set_option maxHeartbeats 4000000 in
set_option maxRecDepth 100000 in
theorem j_X3_isHeld_2 {p : Program} {e : Env} {s : State} {m : MethodId} {args : Array Value} {below : List Frame} {meth : Method} {c : Code} {A : Nat → Prop} (l : Launch) (dC : Nat → ClassId) (dI : Nat → Nat → Nat) (Q : CQ) (N : Nat) (z9h : Nat) (R : Int32 × CS) (hx : p.tables.exec = Jvm.exec) (hb : c.code = cX3_isHeld) (hr : meth.sig.returnType = (some .boolean)) (hml : c.maxLocals = 4) (hown : s.vm.findClass RX3 = some m.cls) (hts : ∀ w ∈ wzX3_isHeld, w.before args s = true) (hlocks : meth.locks = false) (hZ : zAMB s) (hA : ∀ q : Nat, s.heap.size ≤ q → A q) (hK : va_K (dC, dI) vwCl (cT Q) s) : ∀ (n9 : Nat), ∀ (σ : CS) (x1 : Nat) (x2 : Int32) (H : Heap) (locs : List Loc) (ls : Array Slot), f_X3_isHeld_2 N n9 σ x1 x2 = some R → z9h ≤ CS.hs σ → CP dC dI Q A s.heap σ H locs → lv_has ls 4 [(0, .ref (Q.o 7)), (1, .ref x1), (2, .int x2)] → W p l e ({ frames := 1, cells := CS.hs R.2 - z9h, slots := 17 * (CS.hs R.2 - z9h), locals := 60 * 1 }) s m args below meth c H locs (CS.hs σ - z9h) (17 * (CS.hs σ - z9h)) (MQ below (va_Qi (fun (r : Int32) (_ : Unit) => r = R.1) (fun (_ : Unit) (t : State) => zPost dC dI A (cW Q R.2) (cT Q) t ∧ t.heap.size = CS.hs R.2) A) args s (CS.hs R.2 - z9h) (17 * (CS.hs R.2 - z9h)) A) (F0 m 2 ls []) := by
  intro n9
  induction n9 with
  | zero => intro σ x1 x2 H locs ls hf; exact absurd hf (by intro q9; cases q9)
  | succ n9 ih =>
    intro σ x1 x2 H locs ls hf h0 hC hl
    replace hf : b_X3_isHeld_2 N (f_X3_isHeld_2 N n9) σ x1 x2 = some R := hf
    unfold b_X3_isHeld_2 at hf
    have hMK := fun (σ : CS) (x1 : Nat) (x2 : Int32) => m_X3_isHeld_2 N n9 σ x1 x2
    refine lv_iload_n hx hb dX3_isHeld_2 rfl (lv_at hl 2 rfl) ?_
    refine lv_aload_n hx hb dX3_isHeld_3 rfl (lv_at hl 0 rfl) ?_
    refine cG_67 (v := (σ.i 67)) hx hb hts i_X3_isHeld_X3 hown hK hC (hts (.fieldLink RX3 60 "StatementRules2$Machine" "depth" "I") k_X3_isHeld_fieldLink_RX3_60_SR_Machine_depth_I) (fun _ q9 => q9) dX3_isHeld_4 rfl ?_
    refine lv_icmp_ge (tgt := 46) hx hb dX3_isHeld_7 (by decide) (fun c1 => ?_) (fun c1 => ?_)
    ·
      replace hf := (if_pos c1).symm.trans hf
      exact j_X3_isHeld_46 l dC dI Q N z9h R hx hb hr hml hown hts hlocks hZ hA hK σ _ _ _ hf h0 hC (lv_sub hl [] rfl)
    ·
      replace hf := (if_neg c1).symm.trans hf
      refine lv_iload_n hx hb dX3_isHeld_10 rfl (lv_at hl 2 rfl) ?_
      refine lv_aload_n hx hb dX3_isHeld_11 rfl (lv_at hl 0 rfl) ?_
      refine cG_61 hx hb hts i_X3_isHeld_X3 hown hK hC (hts (.fieldLink RX3 20 "StatementRules2$Machine" "frames" "[LStatementRules2$Frame;") k_X3_isHeld_fieldLink_RX3_20_SR_Machine_frames_LSR_Frame) (fun _ q9 => q9) dX3_isHeld_12 ?_
      refine va_alen (v := 24) hx hb hK hC.1 26 3 rfl rfl rfl dX3_isHeld_15 ?_
      refine lv_icmp_ge (tgt := 46) hx hb dX3_isHeld_16 (by decide) (fun c2 => ?_) (fun c2 => ?_)
      ·
        replace hf := (if_pos c2).symm.trans hf
        exact j_X3_isHeld_46 l dC dI Q N z9h R hx hb hr hml hown hts hlocks hZ hA hK σ _ _ _ hf h0 hC (lv_sub hl [] rfl)
      ·
        replace hf := (if_neg c2).symm.trans hf
        refine lv_aload_n hx hb dX3_isHeld_19 rfl (lv_at hl 0 rfl) ?_
        refine cG_61 hx hb hts i_X3_isHeld_X3 hown hK hC (hts (.fieldLink RX3 20 "StatementRules2$Machine" "frames" "[LStatementRules2$Frame;") k_X3_isHeld_fieldLink_RX3_20_SR_Machine_frames_LSR_Frame) (fun _ q9 => q9) dX3_isHeld_20 ?_
        refine lv_iload_n hx hb dX3_isHeld_23 rfl (lv_at hl 2 rfl) ?_
        obtain ⟨b3, hf⟩ := hf_ite hf
        refine cL_61 (v := (CS.r σ 61 ((x2 : Int32).toNatClampNeg))) hx hb hK hC b3 dX3_isHeld_24 rfl ?_
        rcases hf_oc hf with ⟨q4, hf⟩ | ⟨a5, q4, hf⟩
        ·
          refine W.eq (congrArg (fun v9 => F0 m 25 ls (va_rf v9 :: [])) q4) ?_
          refine W.eq (g2 := F0 m 25 ls (.null :: [])) rfl ?_
          refine lv_astore_nN (lv' := [(3, .null), (0, .ref (Q.o 7)), (1, .ref x1), (2, .int x2)]) hx hb dX3_isHeld_25 rfl hl (by decide) rfl (fun ls hl => ?_)
          refine lv_aload_nN hx hb dX3_isHeld_26 rfl (lv_at hl 0 rfl) ?_
          refine lv_ifnullN (tgt := 40) hx hb dX3_isHeld_27 (by decide) ?_
          refine lv_iinc (v := (x2 + 1)) (lv' := [(2, .int (x2 + 1)), (3, .null), (0, .ref (Q.o 7)), (1, .ref x1)]) hx hb dX3_isHeld_40 hl (k := 3) rfl rfl (by decide) rfl (fun ls hl => ?_)
          refine lv_goto (tgt := 2) hx hb dX3_isHeld_43 (by decide) ?_
          exact ih σ x1 (x2 + 1) _ _ _ hf h0 hC (lv_sub hl [2, 3, 0] rfl)
        ·
          refine W.eq (congrArg (fun v9 => F0 m 25 ls (va_rf v9 :: [])) q4) ?_
          refine W.eq (g2 := F0 m 25 ls (.ref a5 :: [])) rfl ?_
          refine lv_astore_n (lv' := [(3, .ref a5), (0, .ref (Q.o 7)), (1, .ref x1), (2, .int x2)]) hx hb dX3_isHeld_25 rfl hl (by decide) rfl (fun ls hl => ?_)
          refine lv_aload_n hx hb dX3_isHeld_26 rfl (lv_at hl 0 rfl) ?_
          refine lv_ifnull hx hb dX3_isHeld_27 ?_
          refine lv_aload_n hx hb dX3_isHeld_30 rfl (lv_at hl 0 rfl) ?_
          obtain ⟨b6, hf⟩ := hf_ite hf
          refine pGN_X2_4 (v := (CS.ot σ a5)) hx hb hts i_X3_isHeld_X2 hown hK hC (va_Nw.use rfl (hZ.1 (.fieldLinkNest RX3 204 "StatementRules2$Frame" "thrown" "LStatementRules2$Thrown;" "StatementRules2") (by decide +kernel))) (fun _ q9 => q9) dX3_isHeld_31 b6 rfl ?_
          rcases hf_oc hf with ⟨q7, hf⟩ | ⟨a8, q7, hf⟩
          ·
            refine W.eq (congrArg (fun v9 => F0 m 34 ls (va_rf v9 :: [])) q7) ?_
            refine W.eq (g2 := F0 m 34 ls (.null :: [])) rfl ?_
            refine lv_aload_n hx hb dX3_isHeld_34 rfl (lv_at hl 2 rfl) ?_
            refine lv_acmp_ne (rx := none) (ry := (some x1)) (tgt := 40) hx hb dX3_isHeld_35 (by decide) (fun c9 => ?_) (fun c9 => ?_)
            ·
              replace hf := (if_neg c9).symm.trans hf
              refine lv_iinc (v := (x2 + 1)) (lv' := [(2, .int (x2 + 1)), (3, .ref a5), (0, .ref (Q.o 7)), (1, .ref x1)]) hx hb dX3_isHeld_40 hl (k := 3) rfl rfl (by decide) rfl (fun ls hl => ?_)
              refine lv_goto (tgt := 2) hx hb dX3_isHeld_43 (by decide) ?_
              exact ih σ x1 (x2 + 1) _ _ _ hf h0 hC (lv_sub hl [2, 3, 0] rfl)
            ·
              replace hf := (if_pos c9).symm.trans hf
              refine lv_iconst (v := 1) hx hb dX3_isHeld_38 (by decide) ?_
              obtain rfl := Option.some.inj hf
              exact W.zret (v := 1) hx hb hr (rfl) (fun t ht hW => ⟨⟨1, (), rfl, rfl, ⟨by rw [ht]; exact hC.1, va_K.moved hW.alike hK, hC.2.1⟩, by rw [ht]; exact hC.2.2.2⟩, hC.2.2.1.F ht⟩) hC.2.2.1.2.2 dX3_isHeld_39
          ·
            refine W.eq (congrArg (fun v9 => F0 m 34 ls (va_rf v9 :: [])) q7) ?_
            refine W.eq (g2 := F0 m 34 ls (.ref a8 :: [])) rfl ?_
            refine lv_aload_n hx hb dX3_isHeld_34 rfl (lv_at hl 2 rfl) ?_
            refine lv_acmp_ne (rx := (some a8)) (ry := (some x1)) (tgt := 40) hx hb dX3_isHeld_35 (by decide) (fun c10 => ?_) (fun c10 => ?_)
            ·
              replace hf := (if_neg c10).symm.trans hf
              refine lv_iinc (v := (x2 + 1)) (lv' := [(2, .int (x2 + 1)), (3, .ref a5), (0, .ref (Q.o 7)), (1, .ref x1)]) hx hb dX3_isHeld_40 hl (k := 3) rfl rfl (by decide) rfl (fun ls hl => ?_)
              refine lv_goto (tgt := 2) hx hb dX3_isHeld_43 (by decide) ?_
              exact ih σ x1 (x2 + 1) _ _ _ hf h0 hC (lv_sub hl [2, 3, 0] rfl)
            ·
              replace hf := (if_pos c10).symm.trans hf
              refine lv_iconst (v := 1) hx hb dX3_isHeld_38 (by decide) ?_
              obtain rfl := Option.some.inj hf
              exact W.zret (v := 1) hx hb hr (rfl) (fun t ht hW => ⟨⟨1, (), rfl, rfl, ⟨by rw [ht]; exact hC.1, va_K.moved hW.alike hK, hC.2.1⟩, by rw [ht]; exact hC.2.2.2⟩, hC.2.2.1.F ht⟩) hC.2.2.1.2.2 dX3_isHeld_39
set_option maxHeartbeats 4000000 in
set_option maxRecDepth 100000 in
theorem c_X3_isHeld (l : Launch) (dC : Nat → ClassId) (dI : Nat → Nat → Nat) (Q : CQ) (N : Nat) (σ : CS) (x1 : Nat) (R : Int32 × CS) (hf : f_X3_isHeld N σ x1 = some R) : Met l yX3_isHeld wzX3_isHeld ({ frames := 1, cells := CS.hs R.2 - CS.hs σ, slots := 17 * (CS.hs R.2 - CS.hs σ), locals := 60 * 1 }) (va_Pc [.ref (Q.o 7), .ref x1] (zPre dC dI (CS.hs σ) (cW Q σ) (cT Q))) (va_Qi (fun (r : Int32) (_ : Unit) => r = R.1) (fun (_ : Unit) (t : State) => zPost dC dI (va_A (cW Q σ) (CS.hs σ)) (cW Q R.2) (cT Q) t ∧ t.heap.size = CS.hs R.2) (va_A (cW Q σ) (CS.hs σ))) (CS.hs R.2 - CS.hs σ) (17 * (CS.hs R.2 - CS.hs σ)) (va_A (cW Q σ) (CS.hs σ)) := by
  refine Met.ofW (cc := cX3_isHeld) (maxL := 4) (ret := (some .boolean)) (by decide) rfl ?_
  intro p e s m args below meth c s₁ B hml hv
  obtain ⟨rfl, hsz, hZ, hP, hK, hD0⟩ := hv
  have hx := B.exec
  have hb := B.bytes
  have hr := B.returns
  have hts := atoms_spec (ws := wzX3_isHeld) B.pre
  have hown : s.vm.findClass RX3 = some m.cls := findClass_of_methodNamed B.named
  have hlocks := B.notSynchronized
  have hD := hD0.self (sz := CS.hs σ)
  generalize hAe : va_A (cW Q σ) (CS.hs σ) = A at hD ⊢
  have hA : ∀ q : Nat, s.heap.size ≤ q → A q := fun q h => by rw [← hAe]; exact Or.inr (hsz ▸ h)
  have hC : CP dC dI Q A s.heap σ s.heap [] := ⟨hP, hD, va_S.rf, hsz⟩
  have h0 : CS.hs σ ≤ CS.hs σ := Nat.le_refl _
  have hl := lv_entry ([.ref (Q.o 7), .ref x1]) (n := 4) (Nat.le_of_ble_eq_true rfl)
  rw [lg_entry_eq]
  generalize (lg_sl ([.ref (Q.o 7), .ref x1]) ++ List.replicate (4 - (lg_sl ([.ref (Q.o 7), .ref x1])).length) Slot.unset).toArray = ls at hl ⊢
  have hl : lv_has ls 4 [(0, .ref (Q.o 7)), (1, .ref x1)] := hl
  unfold f_X3_isHeld at hf
  refine W.widen (k := CS.hs σ - CS.hs σ) (n := 17 * (CS.hs σ - CS.hs σ)) (Nat.zero_le _) (Nat.zero_le _) ?_
  refine lv_iconst (v := 0) hx hb dX3_isHeld_0 (by decide) ?_
  refine lv_istore_n (lv' := [(2, .int 0), (0, .ref (Q.o 7)), (1, .ref x1)]) hx hb dX3_isHeld_1 rfl hl (by decide) rfl (fun ls hl => ?_)
  exact j_X3_isHeld_2 l dC dI Q N (CS.hs σ) R hx hb hr hml hown hts hlocks hZ hA hK N σ x1 0 _ _ _ hf h0 hC (lv_sub hl [1, 2, 0] rfl)
theorem k_X3_freeThrown_fieldLink_RX3_26_SR_Machine_pool_LSR_Thrown : Cond.fieldLink RX3 26 "StatementRules2$Machine" "pool" "[LStatementRules2$Thrown;" ∈ wzX3_freeThrown := List.mem_cons_of_mem _ (List.mem_append_left _ (List.mem_of_getElem? (i := 0) rfl))
theorem i_X3_freeThrown_X3 : ∀ w ∈ wsX30, w ∈ wzX3_freeThrown := fun _ h => List.mem_cons_of_mem _ (List.mem_append_right _ (List.mem_append_left _ (h)))
theorem i_X3_freeThrown_X8 : ∀ w ∈ wsX80, w ∈ wzX3_freeThrown := fun _ h => List.mem_cons_of_mem _ (List.mem_append_right _ (List.mem_append_right _ (List.mem_append_left _ (h))))
theorem k_X3_freeThrown_classLink_RX3_24_RX8 : Cond.classLink RX3 24 RX8 ∈ wzX3_freeThrown := List.mem_cons_of_mem _ (List.mem_append_left _ (List.mem_of_getElem? (i := 1) rfl))
theorem k_X3_freeThrown_instantiable_RX8_5 : Cond.instantiable RX8 5 ∈ wzX3_freeThrown := List.mem_cons_of_mem _ (List.mem_append_left _ (List.mem_of_getElem? (i := 2) rfl))
theorem k_X3_freeThrown_initialized_RX8 : Cond.initialized RX8 ∈ wzX3_freeThrown := List.mem_cons_of_mem _ (List.mem_append_left _ (List.mem_of_getElem? (i := 3) rfl))
theorem k_X3_freeThrown_instanceMethod_yX8_init : Cond.instanceMethod yX8_init ∈ wzX3_freeThrown := List.mem_cons_of_mem _ (List.mem_append_left _ (List.mem_of_getElem? (i := 4) rfl))
set_option maxHeartbeats 4000000 in
set_option maxRecDepth 100000 in
theorem j_X3_freeThrown_2 {p : Program} {e : Env} {s : State} {m : MethodId} {args : Array Value} {below : List Frame} {meth : Method} {c : Code} {A : Nat → Prop} (l : Launch) (dC : Nat → ClassId) (dI : Nat → Nat → Nat) (Q : CQ) (N : Nat) (z9h : Nat) (R : Option Nat × CS) (hx : p.tables.exec = Jvm.exec) (hb : c.code = cX3_freeThrown) (hr : meth.sig.returnType = (some (.object "StatementRules2$Thrown"))) (hml : c.maxLocals = 2) (hown : s.vm.findClass RX3 = some m.cls) (hts : ∀ w ∈ wzX3_freeThrown, w.before args s = true) (hlocks : meth.locks = false) (hZ : zAMB s) (hA : ∀ q : Nat, s.heap.size ≤ q → A q) (hK : va_K (dC, dI) vwCl (cT Q) s) : ∀ (n9 : Nat), ∀ (σ : CS) (x1 : Int32) (H : Heap) (locs : List Loc) (ls : Array Slot), f_X3_freeThrown_2 N n9 σ x1 = some R → z9h ≤ CS.hs σ → CP dC dI Q A s.heap σ H locs → lv_has ls 2 [(0, .ref (Q.o 7)), (1, .int x1)] → W p l e ({ frames := 2, cells := CS.hs R.2 - z9h, slots := 17 * (CS.hs R.2 - z9h), locals := 60 * 2 }) s m args below meth c H locs (CS.hs σ - z9h) (17 * (CS.hs σ - z9h)) (MQ below (va_Qq (fun (r : Option Nat) (_ : Unit) => r = R.1) (fun (_ : Unit) (t : State) => zPost dC dI A (cW Q R.2) (cT Q) t ∧ t.heap.size = CS.hs R.2) A) args s (CS.hs R.2 - z9h) (17 * (CS.hs R.2 - z9h)) A) (F0 m 2 ls []) := by
  intro n9
  induction n9 with
  | zero => intro σ x1 H locs ls hf; exact absurd hf (by intro q9; cases q9)
  | succ n9 ih =>
    intro σ x1 H locs ls hf h0 hC hl
    replace hf : b_X3_freeThrown_2 N (f_X3_freeThrown_2 N n9) σ x1 = some R := hf
    unfold b_X3_freeThrown_2 at hf
    have hMK := fun (σ : CS) (x1 : Int32) => m_X3_freeThrown_2 N n9 σ x1
    refine lv_iload_n hx hb dX3_freeThrown_2 rfl (lv_at hl 1 rfl) ?_
    refine lv_aload_n hx hb dX3_freeThrown_3 rfl (lv_at hl 0 rfl) ?_
    refine cG_62 hx hb hts i_X3_freeThrown_X3 hown hK hC (hts (.fieldLink RX3 26 "StatementRules2$Machine" "pool" "[LStatementRules2$Thrown;") k_X3_freeThrown_fieldLink_RX3_26_SR_Machine_pool_LSR_Thrown) (fun _ q9 => q9) dX3_freeThrown_4 ?_
    refine va_alen (v := 24) hx hb hK hC.1 27 4 rfl rfl rfl dX3_freeThrown_7 ?_
    refine lv_icmp_ge (tgt := 59) hx hb dX3_freeThrown_8 (by decide) (fun c1 => ?_) (fun c1 => ?_)
    ·
      replace hf := (if_pos c1).symm.trans hf
      have hn9 : CS.hs σ + 1 ≤ CS.hs R.2 := Mono.go hf (mono_bind (m_X8_init N (CS.new σ 4) (CS.hs σ)) (fun p3 => (mono_some (Nat.le_refl _))))
      refine cNew_X8 hx hb hts i_X3_freeThrown_X8 hown (hts (.classLink RX3 24 RX8) k_X3_freeThrown_classLink_RX3_24_RX8) (hts (.instantiable RX8 5) k_X3_freeThrown_instantiable_RX8_5) (hts (.initialized RX8) k_X3_freeThrown_initialized_RX8) hK hC hA (cN1 h0 hn9) (cN2 (by decide) h0 hn9) dX3_freeThrown_59 (fun H hC => ?_)
      have h2 : z9h ≤ CS.hs σ + 1 := Nat.le_succ_of_le h0
      refine W.widen (k := (CS.hs σ + 1) - z9h) (n := 17 * ((CS.hs σ + 1) - z9h)) (cN3 h0) (cN4 (by decide) h0) ?_
      refine lv_dup hx hb dX3_freeThrown_62 rfl ?_
      obtain ⟨p3, hcp3, hf⟩ := hf_bind hf
      have mo4 : (CS.hs σ + 1) ≤ CS.hs p3.2 := Mono.go hcp3 (m_X8_init N (CS.new σ 4) (CS.hs σ))
      have hr9 : CS.hs p3.2 ≤ CS.hs R.2 := Mono.go hf (mono_some (Nat.le_refl _))
      have hFc := cFree hC hA
      refine va_callv (va_runIN (As := []) (rest := [.ref (CS.hs σ)]) ⟨hx, hb, hml, hown, hts⟩ (c_X8_init l dC dI Q N (CS.new σ 4) (CS.hs σ) p3 hcp3) ⟨va_cnB 0 hts hX3_freeThrown_X8_init_n241 rfl rfl rfl (hZ.1 (.methodLinkNest RX3 241 yX8_init "StatementRules2") (by decide +kernel)) (hts (.initialized RX8) k_X3_freeThrown_initialized_RX8) (by decide +kernel) ⟨(show 1 + 1 ≤ 2 by omega), (show 8 + (1 + 11) + 60 * 1 ≤ 60 * 2 by omega)⟩, rfl, (hts (.instanceMethod yX8_init) k_X3_freeThrown_instanceMethod_yX8_init)⟩ ⟨zPre.blind, cPre_go hZ hK hC⟩ rfl rfl hl.1 rfl (lv_room (Nat.le_of_ble_eq_true rfl)) dX3_freeThrown_63 (cAcc h2 mo4 hr9)) hC.2.2.1 (fun q _ h => hFc q h) hFc (fun u9 t9 H1 locs ht hvm hw hB hz1 hk1 hS => ?_)
      obtain ⟨⟨hP, hK1, hD1⟩, hsz1⟩ := hB
      rw [ht] at hP hsz1
      have hC : CP dC dI Q A s.heap p3.2 H1 locs := ⟨hP, hD1.weaken (fun _ _ _ h => hFc _ h), hS, hsz1⟩
      generalize H1 = H at hC ⊢
      have h6 : z9h ≤ CS.hs p3.2 := Nat.le_trans h2 mo4
      refine W.widen (k := CS.hs p3.2 - z9h) (n := 17 * (CS.hs p3.2 - z9h)) (cAcc2 h2 mo4) (cAcc3 h2 mo4) ?_
      obtain rfl := Option.some.inj hf
      exact W.aret (v := .ref (CS.hs σ)) hx hb hr (Or.inl ⟨_, rfl⟩) (Or.inr ⟨_, rfl⟩) (fun t ht hW => ⟨⟨(some (CS.hs σ)), (), rfl, rfl, ⟨by rw [ht]; exact hC.1, va_K.moved hW.alike hK, hC.2.1⟩, by rw [ht]; exact hC.2.2.2⟩, hC.2.2.1.F ht⟩) hC.2.2.1.2.2 dX3_freeThrown_66
    ·
      replace hf := (if_neg c1).symm.trans hf
      refine lv_aload_n hx hb dX3_freeThrown_11 rfl (lv_at hl 0 rfl) ?_
      refine cG_62 hx hb hts i_X3_freeThrown_X3 hown hK hC (hts (.fieldLink RX3 26 "StatementRules2$Machine" "pool" "[LStatementRules2$Thrown;") k_X3_freeThrown_fieldLink_RX3_26_SR_Machine_pool_LSR_Thrown) (fun _ q9 => q9) dX3_freeThrown_12 ?_
      refine lv_iload_n hx hb dX3_freeThrown_15 rfl (lv_at hl 1 rfl) ?_
      obtain ⟨b7, hf⟩ := hf_ite hf
      refine cL_62 (v := (CS.r σ 62 ((x1 : Int32).toNatClampNeg))) hx hb hK hC b7 dX3_freeThrown_16 rfl ?_
      rcases hf_oc hf with ⟨q8, hf⟩ | ⟨a9, q8, hf⟩
      ·
        refine W.eq (congrArg (fun v9 => F0 m 17 ls (va_rf v9 :: [])) q8) ?_
        refine W.eq (g2 := F0 m 17 ls (.null :: [])) rfl ?_
        refine lv_ifnonnullN hx hb dX3_freeThrown_17 ?_
        refine lv_aload_n hx hb dX3_freeThrown_20 rfl (lv_at hl 0 rfl) ?_
        refine cG_62 hx hb hts i_X3_freeThrown_X3 hown hK hC (hts (.fieldLink RX3 26 "StatementRules2$Machine" "pool" "[LStatementRules2$Thrown;") k_X3_freeThrown_fieldLink_RX3_26_SR_Machine_pool_LSR_Thrown) (fun _ q9 => q9) dX3_freeThrown_21 ?_
        refine lv_iload_n hx hb dX3_freeThrown_24 rfl (lv_at hl 1 rfl) ?_
        have hn9 : CS.hs σ + 1 ≤ CS.hs R.2 := Mono.go hf (mono_bind (m_X8_init N (CS.new σ 4) (CS.hs σ)) (fun p11 => (mono_ite (mono_ite (mono_oc mono_none (fun a18 => (mono_bind (m_X3_isHeld N (CS.setR p11.2 62 ((x1 : Int32).toNatClampNeg) (some (CS.hs σ))) a18) (fun p19 => (mono_ite (mono_oc (mono_some (Nat.le_refl _)) (fun a25 => (mono_some (Nat.le_refl _)))) (hMK p19.2 (x1 + 1))))))) mono_none) mono_none)))
        refine cNew_X8 hx hb hts i_X3_freeThrown_X8 hown (hts (.classLink RX3 24 RX8) k_X3_freeThrown_classLink_RX3_24_RX8) (hts (.instantiable RX8 5) k_X3_freeThrown_instantiable_RX8_5) (hts (.initialized RX8) k_X3_freeThrown_initialized_RX8) hK hC hA (cN1 h0 hn9) (cN2 (by decide) h0 hn9) dX3_freeThrown_25 (fun H hC => ?_)
        have h10 : z9h ≤ CS.hs σ + 1 := Nat.le_succ_of_le h0
        refine W.widen (k := (CS.hs σ + 1) - z9h) (n := 17 * ((CS.hs σ + 1) - z9h)) (cN3 h0) (cN4 (by decide) h0) ?_
        refine lv_dup hx hb dX3_freeThrown_28 rfl ?_
        obtain ⟨p11, hcp11, hf⟩ := hf_bind hf
        have mo12 : (CS.hs σ + 1) ≤ CS.hs p11.2 := Mono.go hcp11 (m_X8_init N (CS.new σ 4) (CS.hs σ))
        have hr9 : CS.hs p11.2 ≤ CS.hs R.2 := Mono.go hf (mono_ite (mono_ite (mono_oc mono_none (fun a18 => (mono_bind (m_X3_isHeld N (CS.setR p11.2 62 ((x1 : Int32).toNatClampNeg) (some (CS.hs σ))) a18) (fun p19 => (mono_ite (mono_oc (mono_some (Nat.le_refl _)) (fun a25 => (mono_some (Nat.le_refl _)))) (hMK p19.2 (x1 + 1))))))) mono_none) mono_none)
        have hFc := cFree hC hA
        refine va_callv (va_runIN (As := []) (rest := [.ref (CS.hs σ), .int x1, .ref (Q.q 62)]) ⟨hx, hb, hml, hown, hts⟩ (c_X8_init l dC dI Q N (CS.new σ 4) (CS.hs σ) p11 hcp11) ⟨va_cnB 0 hts hX3_freeThrown_X8_init_n241 rfl rfl rfl (hZ.1 (.methodLinkNest RX3 241 yX8_init "StatementRules2") (by decide +kernel)) (hts (.initialized RX8) k_X3_freeThrown_initialized_RX8) (by decide +kernel) ⟨(show 1 + 1 ≤ 2 by omega), (show 8 + (1 + 11) + 60 * 1 ≤ 60 * 2 by omega)⟩, rfl, (hts (.instanceMethod yX8_init) k_X3_freeThrown_instanceMethod_yX8_init)⟩ ⟨zPre.blind, cPre_go hZ hK hC⟩ rfl rfl hl.1 rfl (lv_room (Nat.le_of_ble_eq_true rfl)) dX3_freeThrown_29 (cAcc h10 mo12 hr9)) hC.2.2.1 (fun q _ h => hFc q h) hFc (fun u9 t9 H1 locs ht hvm hw hB hz1 hk1 hS => ?_)
        obtain ⟨⟨hP, hK1, hD1⟩, hsz1⟩ := hB
        rw [ht] at hP hsz1
        have hC : CP dC dI Q A s.heap p11.2 H1 locs := ⟨hP, hD1.weaken (fun _ _ _ h => hFc _ h), hS, hsz1⟩
        generalize H1 = H at hC ⊢
        have h14 : z9h ≤ CS.hs p11.2 := Nat.le_trans h10 mo12
        refine W.widen (k := CS.hs p11.2 - z9h) (n := 17 * (CS.hs p11.2 - z9h)) (cAcc2 h10 mo12) (cAcc3 h10 mo12) ?_
        obtain ⟨b15, hf⟩ := hf_ite hf
        obtain ⟨b16, hf⟩ := hf_ite hf
        refine cS_62 hx hb hK hC b15 dX3_freeThrown_32 b16 (fun H locs hC => ?_)
        refine lv_aload_n hx hb dX3_freeThrown_33 rfl (lv_at hl 0 rfl) ?_
        refine lv_aload_n hx hb dX3_freeThrown_34 rfl (lv_at hl 0 rfl) ?_
        refine cG_62 hx hb hts i_X3_freeThrown_X3 hown hK hC (hts (.fieldLink RX3 26 "StatementRules2$Machine" "pool" "[LStatementRules2$Thrown;") k_X3_freeThrown_fieldLink_RX3_26_SR_Machine_pool_LSR_Thrown) (fun _ q9 => q9) dX3_freeThrown_35 ?_
        refine lv_iload_n hx hb dX3_freeThrown_38 rfl (lv_at hl 1 rfl) ?_
        refine cL_62 (v := (CS.r (CS.setR p11.2 62 ((x1 : Int32).toNatClampNeg) (some (CS.hs σ))) 62 ((x1 : Int32).toNatClampNeg))) hx hb hK hC b15 dX3_freeThrown_39 rfl ?_
        rcases hf_oc hf with ⟨q17, hf⟩ | ⟨a18, q17, hf⟩
        ·
          refine W.eq (congrArg (fun v9 => F0 m 40 ls (va_rf v9 :: [.ref (Q.o 7)])) q17) ?_
          refine W.eq (g2 := F0 m 40 ls (.null :: [.ref (Q.o 7)])) rfl ?_
          cases hf
        ·
          refine W.eq (congrArg (fun v9 => F0 m 40 ls (va_rf v9 :: [.ref (Q.o 7)])) q17) ?_
          refine W.eq (g2 := F0 m 40 ls (.ref a18 :: [.ref (Q.o 7)])) rfl ?_
          obtain ⟨p19, hcp19, hf⟩ := hf_bind hf
          have mo20 : CS.hs p11.2 ≤ CS.hs p19.2 := Mono.go hcp19 (m_X3_isHeld N (CS.setR p11.2 62 ((x1 : Int32).toNatClampNeg) (some (CS.hs σ))) a18)
          have hr9 : CS.hs p19.2 ≤ CS.hs R.2 := Mono.go hf (mono_ite (mono_oc (mono_some (Nat.le_refl _)) (fun a25 => (mono_some (Nat.le_refl _)))) (hMK p19.2 (x1 + 1)))
          have hFc := cFree hC hA
          refine va_calli (va_runV (As := [.ref a18]) (rest := []) ⟨hx, hb, hml, hown, hts⟩ (c_X3_isHeld l dC dI Q N (CS.setR p11.2 62 ((x1 : Int32).toNatClampNeg) (some (CS.hs σ))) a18 p19 hcp19) (cwV 1 hts hX3_freeThrown_X3_isHeld_v242 rfl rfl rfl (by decide +kernel) ⟨(show 1 + 1 ≤ 2 by omega), (show 8 + (4 + 11) + 60 * 1 ≤ 60 * 2 by omega)⟩) ⟨zPre.blind, va_recv hK hC.1 (ci := 2) (q0 := 7) rfl rfl, cPre_go hZ hK hC⟩ rfl rfl hl.1 rfl (lv_room (Nat.le_of_ble_eq_true rfl)) dX3_freeThrown_40 (cAcc h14 mo20 hr9)) hC.2.2.1 (fun q _ h => hFc q h) hFc (fun r21 u9 t9 H1 locs ht hvm hw hB hz1 hk1 hS => ?_)
          obtain ⟨⟨hP, hK1, hD1⟩, hsz1⟩ := hB
          rw [ht] at hP hsz1
          have hC : CP dC dI Q A s.heap p19.2 H1 locs := ⟨hP, hD1.weaken (fun _ _ _ h => hFc _ h), hS, hsz1⟩
          generalize H1 = H at hC ⊢
          have h22 : z9h ≤ CS.hs p19.2 := Nat.le_trans h14 mo20
          refine W.widen (k := CS.hs p19.2 - z9h) (n := 17 * (CS.hs p19.2 - z9h)) (cAcc2 h14 mo20) (cAcc3 h14 mo20) ?_
          obtain rfl : r21 = p19.1 := hw
          refine lv_if_ne (tgt := 53) hx hb dX3_freeThrown_43 (by decide) (fun c23 => ?_) (fun c23 => ?_)
          ·
            replace hf := (if_neg c23).symm.trans hf
            refine lv_iinc (v := (x1 + 1)) (lv' := [(1, .int (x1 + 1)), (0, .ref (Q.o 7))]) hx hb dX3_freeThrown_53 hl (k := 1) rfl rfl (by decide) rfl (fun ls hl => ?_)
            refine lv_goto (tgt := 2) hx hb dX3_freeThrown_56 (by decide) ?_
            exact ih p19.2 (x1 + 1) _ _ _ hf h22 hC (lv_sub hl [1, 0] rfl)
          ·
            replace hf := (if_pos c23).symm.trans hf
            refine lv_aload_n hx hb dX3_freeThrown_46 rfl (lv_at hl 0 rfl) ?_
            refine cG_62 hx hb hts i_X3_freeThrown_X3 hown hK hC (hts (.fieldLink RX3 26 "StatementRules2$Machine" "pool" "[LStatementRules2$Thrown;") k_X3_freeThrown_fieldLink_RX3_26_SR_Machine_pool_LSR_Thrown) (fun _ q9 => q9) dX3_freeThrown_47 ?_
            refine lv_iload_n hx hb dX3_freeThrown_50 rfl (lv_at hl 1 rfl) ?_
            refine cL_62 (v := (CS.r p19.2 62 ((x1 : Int32).toNatClampNeg))) hx hb hK hC b15 dX3_freeThrown_51 rfl ?_
            rcases hf_oc hf with ⟨q24, hf⟩ | ⟨a25, q24, hf⟩
            ·
              refine W.eq (congrArg (fun v9 => F0 m 52 ls (va_rf v9 :: [])) q24) ?_
              refine W.eq (g2 := F0 m 52 ls (.null :: [])) rfl ?_
              obtain rfl := Option.some.inj hf
              exact W.aret (v := .null) hx hb hr (Or.inl ⟨_, rfl⟩) (Or.inl rfl) (fun t ht hW => ⟨⟨none, (), rfl, rfl, ⟨by rw [ht]; exact hC.1, va_K.moved hW.alike hK, hC.2.1⟩, by rw [ht]; exact hC.2.2.2⟩, hC.2.2.1.F ht⟩) hC.2.2.1.2.2 dX3_freeThrown_52
            ·
              refine W.eq (congrArg (fun v9 => F0 m 52 ls (va_rf v9 :: [])) q24) ?_
              refine W.eq (g2 := F0 m 52 ls (.ref a25 :: [])) rfl ?_
              obtain rfl := Option.some.inj hf
              exact W.aret (v := .ref a25) hx hb hr (Or.inl ⟨_, rfl⟩) (Or.inr ⟨_, rfl⟩) (fun t ht hW => ⟨⟨(some a25), (), rfl, rfl, ⟨by rw [ht]; exact hC.1, va_K.moved hW.alike hK, hC.2.1⟩, by rw [ht]; exact hC.2.2.2⟩, hC.2.2.1.F ht⟩) hC.2.2.1.2.2 dX3_freeThrown_52
      ·
        refine W.eq (congrArg (fun v9 => F0 m 17 ls (va_rf v9 :: [])) q8) ?_
        refine W.eq (g2 := F0 m 17 ls (.ref a9 :: [])) rfl ?_
        refine lv_ifnonnull (tgt := 33) hx hb dX3_freeThrown_17 (by decide) ?_
        refine lv_aload_n hx hb dX3_freeThrown_33 rfl (lv_at hl 0 rfl) ?_
        refine lv_aload_n hx hb dX3_freeThrown_34 rfl (lv_at hl 0 rfl) ?_
        refine cG_62 hx hb hts i_X3_freeThrown_X3 hown hK hC (hts (.fieldLink RX3 26 "StatementRules2$Machine" "pool" "[LStatementRules2$Thrown;") k_X3_freeThrown_fieldLink_RX3_26_SR_Machine_pool_LSR_Thrown) (fun _ q9 => q9) dX3_freeThrown_35 ?_
        refine lv_iload_n hx hb dX3_freeThrown_38 rfl (lv_at hl 1 rfl) ?_
        refine cL_62 (v := (CS.r σ 62 ((x1 : Int32).toNatClampNeg))) hx hb hK hC b7 dX3_freeThrown_39 rfl ?_
        rcases hf_oc hf with ⟨q26, hf⟩ | ⟨a27, q26, hf⟩
        ·
          refine W.eq (congrArg (fun v9 => F0 m 40 ls (va_rf v9 :: [.ref (Q.o 7)])) q26) ?_
          refine W.eq (g2 := F0 m 40 ls (.null :: [.ref (Q.o 7)])) rfl ?_
          cases hf
        ·
          refine W.eq (congrArg (fun v9 => F0 m 40 ls (va_rf v9 :: [.ref (Q.o 7)])) q26) ?_
          refine W.eq (g2 := F0 m 40 ls (.ref a27 :: [.ref (Q.o 7)])) rfl ?_
          obtain ⟨p28, hcp28, hf⟩ := hf_bind hf
          have mo29 : CS.hs σ ≤ CS.hs p28.2 := Mono.go hcp28 (m_X3_isHeld N σ a27)
          have hr9 : CS.hs p28.2 ≤ CS.hs R.2 := Mono.go hf (mono_ite (mono_oc (mono_some (Nat.le_refl _)) (fun a34 => (mono_some (Nat.le_refl _)))) (hMK p28.2 (x1 + 1)))
          have hFc := cFree hC hA
          refine va_calli (va_runV (As := [.ref a27]) (rest := []) ⟨hx, hb, hml, hown, hts⟩ (c_X3_isHeld l dC dI Q N σ a27 p28 hcp28) (cwV 1 hts hX3_freeThrown_X3_isHeld_v242 rfl rfl rfl (by decide +kernel) ⟨(show 1 + 1 ≤ 2 by omega), (show 8 + (4 + 11) + 60 * 1 ≤ 60 * 2 by omega)⟩) ⟨zPre.blind, va_recv hK hC.1 (ci := 2) (q0 := 7) rfl rfl, cPre_go hZ hK hC⟩ rfl rfl hl.1 rfl (lv_room (Nat.le_of_ble_eq_true rfl)) dX3_freeThrown_40 (cAcc h0 mo29 hr9)) hC.2.2.1 (fun q _ h => hFc q h) hFc (fun r30 u9 t9 H1 locs ht hvm hw hB hz1 hk1 hS => ?_)
          obtain ⟨⟨hP, hK1, hD1⟩, hsz1⟩ := hB
          rw [ht] at hP hsz1
          have hC : CP dC dI Q A s.heap p28.2 H1 locs := ⟨hP, hD1.weaken (fun _ _ _ h => hFc _ h), hS, hsz1⟩
          generalize H1 = H at hC ⊢
          have h31 : z9h ≤ CS.hs p28.2 := Nat.le_trans h0 mo29
          refine W.widen (k := CS.hs p28.2 - z9h) (n := 17 * (CS.hs p28.2 - z9h)) (cAcc2 h0 mo29) (cAcc3 h0 mo29) ?_
          obtain rfl : r30 = p28.1 := hw
          refine lv_if_ne (tgt := 53) hx hb dX3_freeThrown_43 (by decide) (fun c32 => ?_) (fun c32 => ?_)
          ·
            replace hf := (if_neg c32).symm.trans hf
            refine lv_iinc (v := (x1 + 1)) (lv' := [(1, .int (x1 + 1)), (0, .ref (Q.o 7))]) hx hb dX3_freeThrown_53 hl (k := 1) rfl rfl (by decide) rfl (fun ls hl => ?_)
            refine lv_goto (tgt := 2) hx hb dX3_freeThrown_56 (by decide) ?_
            exact ih p28.2 (x1 + 1) _ _ _ hf h31 hC (lv_sub hl [1, 0] rfl)
          ·
            replace hf := (if_pos c32).symm.trans hf
            refine lv_aload_n hx hb dX3_freeThrown_46 rfl (lv_at hl 0 rfl) ?_
            refine cG_62 hx hb hts i_X3_freeThrown_X3 hown hK hC (hts (.fieldLink RX3 26 "StatementRules2$Machine" "pool" "[LStatementRules2$Thrown;") k_X3_freeThrown_fieldLink_RX3_26_SR_Machine_pool_LSR_Thrown) (fun _ q9 => q9) dX3_freeThrown_47 ?_
            refine lv_iload_n hx hb dX3_freeThrown_50 rfl (lv_at hl 1 rfl) ?_
            refine cL_62 (v := (CS.r p28.2 62 ((x1 : Int32).toNatClampNeg))) hx hb hK hC b7 dX3_freeThrown_51 rfl ?_
            rcases hf_oc hf with ⟨q33, hf⟩ | ⟨a34, q33, hf⟩
            ·
              refine W.eq (congrArg (fun v9 => F0 m 52 ls (va_rf v9 :: [])) q33) ?_
              refine W.eq (g2 := F0 m 52 ls (.null :: [])) rfl ?_
              obtain rfl := Option.some.inj hf
              exact W.aret (v := .null) hx hb hr (Or.inl ⟨_, rfl⟩) (Or.inl rfl) (fun t ht hW => ⟨⟨none, (), rfl, rfl, ⟨by rw [ht]; exact hC.1, va_K.moved hW.alike hK, hC.2.1⟩, by rw [ht]; exact hC.2.2.2⟩, hC.2.2.1.F ht⟩) hC.2.2.1.2.2 dX3_freeThrown_52
            ·
              refine W.eq (congrArg (fun v9 => F0 m 52 ls (va_rf v9 :: [])) q33) ?_
              refine W.eq (g2 := F0 m 52 ls (.ref a34 :: [])) rfl ?_
              obtain rfl := Option.some.inj hf
              exact W.aret (v := .ref a34) hx hb hr (Or.inl ⟨_, rfl⟩) (Or.inr ⟨_, rfl⟩) (fun t ht hW => ⟨⟨(some a34), (), rfl, rfl, ⟨by rw [ht]; exact hC.1, va_K.moved hW.alike hK, hC.2.1⟩, by rw [ht]; exact hC.2.2.2⟩, hC.2.2.1.F ht⟩) hC.2.2.1.2.2 dX3_freeThrown_52
set_option maxHeartbeats 4000000 in
set_option maxRecDepth 100000 in
theorem c_X3_freeThrown (l : Launch) (dC : Nat → ClassId) (dI : Nat → Nat → Nat) (Q : CQ) (N : Nat) (σ : CS) (R : Option Nat × CS) (hf : f_X3_freeThrown N σ = some R) : Met l yX3_freeThrown wzX3_freeThrown ({ frames := 2, cells := CS.hs R.2 - CS.hs σ, slots := 17 * (CS.hs R.2 - CS.hs σ), locals := 60 * 2 }) (va_Pc [.ref (Q.o 7)] (zPre dC dI (CS.hs σ) (cW Q σ) (cT Q))) (va_Qq (fun (r : Option Nat) (_ : Unit) => r = R.1) (fun (_ : Unit) (t : State) => zPost dC dI (va_A (cW Q σ) (CS.hs σ)) (cW Q R.2) (cT Q) t ∧ t.heap.size = CS.hs R.2) (va_A (cW Q σ) (CS.hs σ))) (CS.hs R.2 - CS.hs σ) (17 * (CS.hs R.2 - CS.hs σ)) (va_A (cW Q σ) (CS.hs σ)) := by
  refine Met.ofW (cc := cX3_freeThrown) (maxL := 2) (ret := (some (.object "StatementRules2$Thrown"))) (by decide) rfl ?_
  intro p e s m args below meth c s₁ B hml hv
  obtain ⟨rfl, hsz, hZ, hP, hK, hD0⟩ := hv
  have hx := B.exec
  have hb := B.bytes
  have hr := B.returns
  have hts := atoms_spec (ws := wzX3_freeThrown) B.pre
  have hown : s.vm.findClass RX3 = some m.cls := findClass_of_methodNamed B.named
  have hlocks := B.notSynchronized
  have hD := hD0.self (sz := CS.hs σ)
  generalize hAe : va_A (cW Q σ) (CS.hs σ) = A at hD ⊢
  have hA : ∀ q : Nat, s.heap.size ≤ q → A q := fun q h => by rw [← hAe]; exact Or.inr (hsz ▸ h)
  have hC : CP dC dI Q A s.heap σ s.heap [] := ⟨hP, hD, va_S.rf, hsz⟩
  have h0 : CS.hs σ ≤ CS.hs σ := Nat.le_refl _
  have hl := lv_entry ([.ref (Q.o 7)]) (n := 2) (Nat.le_of_ble_eq_true rfl)
  rw [lg_entry_eq]
  generalize (lg_sl ([.ref (Q.o 7)]) ++ List.replicate (2 - (lg_sl ([.ref (Q.o 7)])).length) Slot.unset).toArray = ls at hl ⊢
  have hl : lv_has ls 2 [(0, .ref (Q.o 7))] := hl
  unfold f_X3_freeThrown at hf
  refine W.widen (k := CS.hs σ - CS.hs σ) (n := 17 * (CS.hs σ - CS.hs σ)) (Nat.zero_le _) (Nat.zero_le _) ?_
  refine lv_iconst (v := 0) hx hb dX3_freeThrown_0 (by decide) ?_
  refine lv_istore_n (lv' := [(1, .int 0), (0, .ref (Q.o 7))]) hx hb dX3_freeThrown_1 rfl hl (by decide) rfl (fun ls hl => ?_)
  exact j_X3_freeThrown_2 l dC dI Q N (CS.hs σ) R hx hb hr hml hown hts hlocks hZ hA hK N σ 0 _ _ _ hf h0 hC (lv_sub hl [1, 0] rfl)
theorem k_X3_go_fieldLink_RX3_75_SR_Machine_way_I : Cond.fieldLink RX3 75 "StatementRules2$Machine" "way" "I" ∈ wzX3_go := List.mem_cons_of_mem _ (List.mem_append_left _ (List.mem_of_getElem? (i := 0) rfl))
theorem i_X3_go_X3 : ∀ w ∈ wsX30, w ∈ wzX3_go := fun _ h => List.mem_cons_of_mem _ (List.mem_append_right _ (List.mem_append_left _ (h)))
theorem k_X3_go_fieldLink_RX3_78_SR_Machine_wayValue_I : Cond.fieldLink RX3 78 "StatementRules2$Machine" "wayValue" "I" ∈ wzX3_go := List.mem_cons_of_mem _ (List.mem_append_left _ (List.mem_of_getElem? (i := 1) rfl))
theorem k_X3_go_fieldLink_RX3_235_SR_Machine_wayTarget_I : Cond.fieldLink RX3 235 "StatementRules2$Machine" "wayTarget" "I" ∈ wzX3_go := List.mem_cons_of_mem _ (List.mem_append_left _ (List.mem_of_getElem? (i := 2) rfl))
set_option maxHeartbeats 4000000 in
set_option maxRecDepth 100000 in
theorem c_X3_go (l : Launch) (dC : Nat → ClassId) (dI : Nat → Nat → Nat) (Q : CQ) (N : Nat) (σ : CS) (x1 : Int32) (x2 : Int32) (x3 : Int32) (R : Unit × CS) (hf : f_X3_go N σ x1 x2 x3 = some R) : Met l yX3_go wzX3_go ({ frames := 1, cells := CS.hs R.2 - CS.hs σ, slots := 17 * (CS.hs R.2 - CS.hs σ), locals := 60 * 1 }) (va_Pc [.ref (Q.o 7), .int x1, .int x2, .int x3] (zPre dC dI (CS.hs σ) (cW Q σ) (cT Q))) (va_Qv (fun (_ : Unit) => True) (fun (_ : Unit) (t : State) => zPost dC dI (va_A (cW Q σ) (CS.hs σ)) (cW Q R.2) (cT Q) t ∧ t.heap.size = CS.hs R.2) (va_A (cW Q σ) (CS.hs σ))) (CS.hs R.2 - CS.hs σ) (17 * (CS.hs R.2 - CS.hs σ)) (va_A (cW Q σ) (CS.hs σ)) := by
  refine Met.ofW (cc := cX3_go) (maxL := 4) (ret := none) (by decide) rfl ?_
  intro p e s m args below meth c s₁ B hml hv
  obtain ⟨rfl, hsz, hZ, hP, hK, hD0⟩ := hv
  have hx := B.exec
  have hb := B.bytes
  have hr := B.returns
  have hts := atoms_spec (ws := wzX3_go) B.pre
  have hown : s.vm.findClass RX3 = some m.cls := findClass_of_methodNamed B.named
  have hlocks := B.notSynchronized
  have hD := hD0.self (sz := CS.hs σ)
  generalize hAe : va_A (cW Q σ) (CS.hs σ) = A at hD ⊢
  have hA : ∀ q : Nat, s.heap.size ≤ q → A q := fun q h => by rw [← hAe]; exact Or.inr (hsz ▸ h)
  have hC : CP dC dI Q A s.heap σ s.heap [] := ⟨hP, hD, va_S.rf, hsz⟩
  have h0 : CS.hs σ ≤ CS.hs σ := Nat.le_refl _
  have hl := lv_entry ([.ref (Q.o 7), .int x1, .int x2, .int x3]) (n := 4) (Nat.le_of_ble_eq_true rfl)
  rw [lg_entry_eq]
  generalize (lg_sl ([.ref (Q.o 7), .int x1, .int x2, .int x3]) ++ List.replicate (4 - (lg_sl ([.ref (Q.o 7), .int x1, .int x2, .int x3])).length) Slot.unset).toArray = ls at hl ⊢
  have hl : lv_has ls 4 [(0, .ref (Q.o 7)), (1, .int x1), (2, .int x2), (3, .int x3)] := hl
  unfold f_X3_go at hf
  refine W.widen (k := CS.hs σ - CS.hs σ) (n := 17 * (CS.hs σ - CS.hs σ)) (Nat.zero_le _) (Nat.zero_le _) ?_
  refine lv_aload_n hx hb dX3_go_0 rfl (lv_at hl 0 rfl) ?_
  refine lv_iload_n hx hb dX3_go_1 rfl (lv_at hl 1 rfl) ?_
  refine cP_73 (v := x1) hx hb hts i_X3_go_X3 hown hK hC (hts (.fieldLink RX3 75 "StatementRules2$Machine" "way" "I") k_X3_go_fieldLink_RX3_75_SR_Machine_way_I) (fun _ q9 => q9) dX3_go_2 (fun H locs hC => ?_)
  refine lv_aload_n hx hb dX3_go_5 rfl (lv_at hl 0 rfl) ?_
  refine lv_iload_n hx hb dX3_go_6 rfl (lv_at hl 2 rfl) ?_
  refine cP_74 (v := x2) hx hb hts i_X3_go_X3 hown hK hC (hts (.fieldLink RX3 78 "StatementRules2$Machine" "wayValue" "I") k_X3_go_fieldLink_RX3_78_SR_Machine_wayValue_I) (fun _ q9 => q9) dX3_go_7 (fun H locs hC => ?_)
  refine lv_aload_n hx hb dX3_go_10 rfl (lv_at hl 0 rfl) ?_
  refine lv_iload_n hx hb dX3_go_11 rfl (lv_at hl 3 rfl) ?_
  refine cP_75 (v := x3) hx hb hts i_X3_go_X3 hown hK hC (hts (.fieldLink RX3 235 "StatementRules2$Machine" "wayTarget" "I") k_X3_go_fieldLink_RX3_235_SR_Machine_wayTarget_I) (fun _ q9 => q9) dX3_go_12 (fun H locs hC => ?_)
  obtain rfl := Option.some.inj hf
  exact W.vret hx hb hr (fun t ht hW => ⟨⟨(), rfl, trivial, ⟨by rw [ht]; exact hC.1, va_K.moved hW.alike hK, hC.2.1⟩, by rw [ht]; exact hC.2.2.2⟩, hC.2.2.1.F ht⟩) hC.2.2.1.2.2 dX3_go_15
theorem k_X3_raise_fieldLink_RX3_81_SR_Machine_wayThrown_LSR_Thrown : Cond.fieldLink RX3 81 "StatementRules2$Machine" "wayThrown" "LStatementRules2$Thrown;" ∈ wzX3_raise := List.mem_cons_of_mem _ (List.mem_append_left _ (List.mem_of_getElem? (i := 0) rfl))
theorem i_X3_raise_X3 : ∀ w ∈ wsX30, w ∈ wzX3_raise := fun _ h => List.mem_cons_of_mem _ (List.mem_append_right _ (List.mem_append_left _ (h)))
theorem i_X3_raise_X8 : ∀ w ∈ wsX80, w ∈ wzX3_raise := fun _ h => List.mem_cons_of_mem _ (List.mem_append_right _ (List.mem_append_right _ (List.mem_append_left _ (h))))
set_option maxHeartbeats 4000000 in
set_option maxRecDepth 100000 in
theorem c_X3_raise (l : Launch) (dC : Nat → ClassId) (dI : Nat → Nat → Nat) (Q : CQ) (N : Nat) (σ : CS) (x1 : Int32) (x2 : Int32) (R : Unit × CS) (hf : f_X3_raise N σ x1 x2 = some R) : Met l yX3_raise wzX3_raise ({ frames := 3, cells := CS.hs R.2 - CS.hs σ, slots := 17 * (CS.hs R.2 - CS.hs σ), locals := 60 * 3 }) (va_Pc [.ref (Q.o 7), .int x1, .int x2] (zPre dC dI (CS.hs σ) (cW Q σ) (cT Q))) (va_Qv (fun (_ : Unit) => True) (fun (_ : Unit) (t : State) => zPost dC dI (va_A (cW Q σ) (CS.hs σ)) (cW Q R.2) (cT Q) t ∧ t.heap.size = CS.hs R.2) (va_A (cW Q σ) (CS.hs σ))) (CS.hs R.2 - CS.hs σ) (17 * (CS.hs R.2 - CS.hs σ)) (va_A (cW Q σ) (CS.hs σ)) := by
  refine Met.ofW (cc := cX3_raise) (maxL := 3) (ret := none) (by decide) rfl ?_
  intro p e s m args below meth c s₁ B hml hv
  obtain ⟨rfl, hsz, hZ, hP, hK, hD0⟩ := hv
  have hx := B.exec
  have hb := B.bytes
  have hr := B.returns
  have hts := atoms_spec (ws := wzX3_raise) B.pre
  have hown : s.vm.findClass RX3 = some m.cls := findClass_of_methodNamed B.named
  have hlocks := B.notSynchronized
  have hD := hD0.self (sz := CS.hs σ)
  generalize hAe : va_A (cW Q σ) (CS.hs σ) = A at hD ⊢
  have hA : ∀ q : Nat, s.heap.size ≤ q → A q := fun q h => by rw [← hAe]; exact Or.inr (hsz ▸ h)
  have hC : CP dC dI Q A s.heap σ s.heap [] := ⟨hP, hD, va_S.rf, hsz⟩
  have h0 : CS.hs σ ≤ CS.hs σ := Nat.le_refl _
  have hl := lv_entry ([.ref (Q.o 7), .int x1, .int x2]) (n := 3) (Nat.le_of_ble_eq_true rfl)
  rw [lg_entry_eq]
  generalize (lg_sl ([.ref (Q.o 7), .int x1, .int x2]) ++ List.replicate (3 - (lg_sl ([.ref (Q.o 7), .int x1, .int x2])).length) Slot.unset).toArray = ls at hl ⊢
  have hl : lv_has ls 3 [(0, .ref (Q.o 7)), (1, .int x1), (2, .int x2)] := hl
  unfold f_X3_raise at hf
  refine W.widen (k := CS.hs σ - CS.hs σ) (n := 17 * (CS.hs σ - CS.hs σ)) (Nat.zero_le _) (Nat.zero_le _) ?_
  refine lv_aload_n hx hb dX3_raise_0 rfl (lv_at hl 0 rfl) ?_
  refine lv_aload_n hx hb dX3_raise_1 rfl (lv_at hl 0 rfl) ?_
  obtain ⟨p1, hcp1, hf⟩ := hf_bind hf
  have mo2 : CS.hs σ ≤ CS.hs p1.2 := Mono.go hcp1 (m_X3_freeThrown N σ)
  have hr9 : CS.hs p1.2 ≤ CS.hs R.2 := Mono.go hf (mono_oc (mono_oc mono_none (fun a8 => (mono_ite (mono_oc mono_none (fun a11 => (mono_ite (mono_oc mono_none (fun a14 => (mono_ite (mono_bind (m_X3_go N (CS.setO (CS.setO (CS.setO (CS.setW p1.2 none) a8 2 x1) a11 3 x2) a14 4 0) 4 0 0) (fun p16 => (mono_some (Nat.le_refl _)))) mono_none))) mono_none))) mono_none))) (fun a6 => (mono_oc mono_none (fun a21 => (mono_ite (mono_oc mono_none (fun a24 => (mono_ite (mono_oc mono_none (fun a27 => (mono_ite (mono_bind (m_X3_go N (CS.setO (CS.setO (CS.setO (CS.setW p1.2 (some a6)) a21 2 x1) a24 3 x2) a27 4 0) 4 0 0) (fun p29 => (mono_some (Nat.le_refl _)))) mono_none))) mono_none))) mono_none)))))
  have hFc := cFree hC hA
  refine va_callq (va_runV (As := []) (rest := [.ref (Q.o 7)]) ⟨hx, hb, hml, hown, hts⟩ (c_X3_freeThrown l dC dI Q N σ p1 hcp1) (cwV 0 hts hX3_raise_X3_freeThrown_v238 rfl rfl rfl (by decide +kernel) ⟨(show 2 + 1 ≤ 3 by omega), (show 8 + (2 + 11) + 60 * 2 ≤ 60 * 3 by omega)⟩) ⟨zPre.blind, va_recv hK hC.1 (ci := 2) (q0 := 7) rfl rfl, cPre_go hZ hK hC⟩ rfl rfl hl.1 rfl (lv_room (Nat.le_of_ble_eq_true rfl)) dX3_raise_2 (cAcc h0 mo2 hr9)) hC.2.2.1 (fun q _ h => hFc q h) hFc (fun r3 u9 t9 H1 locs ht hvm hw hB hz1 hk1 hS => ?_)
  obtain ⟨⟨hP, hK1, hD1⟩, hsz1⟩ := hB
  rw [ht] at hP hsz1
  have hC : CP dC dI Q A s.heap p1.2 H1 locs := ⟨hP, hD1.weaken (fun _ _ _ h => hFc _ h), hS, hsz1⟩
  generalize H1 = H at hC ⊢
  have h4 : (CS.hs σ) ≤ CS.hs p1.2 := Nat.le_trans h0 mo2
  refine W.widen (k := CS.hs p1.2 - (CS.hs σ)) (n := 17 * (CS.hs p1.2 - (CS.hs σ))) (cAcc2 h0 mo2) (cAcc3 h0 mo2) ?_
  obtain rfl : r3 = p1.1 := hw
  rcases hf_oc hf with ⟨q5, hf⟩ | ⟨a6, q5, hf⟩
  ·
    refine W.eq (congrArg (fun v9 => F0 m 5 ls (va_rf v9 :: [.ref (Q.o 7)])) q5) ?_
    refine W.eq (g2 := F0 m 5 ls (.null :: [.ref (Q.o 7)])) rfl ?_
    refine cP_76 (v := none) hx hb hts i_X3_raise_X3 hown hK hC (hts (.fieldLink RX3 81 "StatementRules2$Machine" "wayThrown" "LStatementRules2$Thrown;") k_X3_raise_fieldLink_RX3_81_SR_Machine_wayThrown_LSR_Thrown) (fun _ q9 => q9) dX3_raise_5 (fun H locs hC => ?_)
    refine lv_aload_n hx hb dX3_raise_8 rfl (lv_at hl 0 rfl) ?_
    refine cG_76 (v := (CS.w (CS.setW p1.2 none))) hx hb hts i_X3_raise_X3 hown hK hC (hts (.fieldLink RX3 81 "StatementRules2$Machine" "wayThrown" "LStatementRules2$Thrown;") k_X3_raise_fieldLink_RX3_81_SR_Machine_wayThrown_LSR_Thrown) (fun _ q9 => q9) dX3_raise_9 rfl ?_
    rcases hf_oc hf with ⟨q7, hf⟩ | ⟨a8, q7, hf⟩
    ·
      refine W.eq (congrArg (fun v9 => F0 m 12 ls (va_rf v9 :: [])) q7) ?_
      refine W.eq (g2 := F0 m 12 ls (.null :: [])) rfl ?_
      refine lv_iload_n hx hb dX3_raise_12 rfl (lv_at hl 1 rfl) ?_
      cases hf
    ·
      refine W.eq (congrArg (fun v9 => F0 m 12 ls (va_rf v9 :: [])) q7) ?_
      refine W.eq (g2 := F0 m 12 ls (.ref a8 :: [])) rfl ?_
      refine lv_iload_n hx hb dX3_raise_12 rfl (lv_at hl 1 rfl) ?_
      obtain ⟨b9, hf⟩ := hf_ite hf
      refine pPN_X8_2 (v := x1) hx hb hts i_X3_raise_X8 hown hK hC (va_Nw.use rfl (hZ.1 (.fieldLinkNest RX3 99 "StatementRules2$Thrown" "sort" "I" "StatementRules2") (by decide +kernel))) (fun _ q9 => q9) dX3_raise_13 b9 (fun H locs hC => ?_)
      refine lv_aload_n hx hb dX3_raise_16 rfl (lv_at hl 0 rfl) ?_
      refine cG_76 (v := (CS.w (CS.setO (CS.setW p1.2 none) a8 2 x1))) hx hb hts i_X3_raise_X3 hown hK hC (hts (.fieldLink RX3 81 "StatementRules2$Machine" "wayThrown" "LStatementRules2$Thrown;") k_X3_raise_fieldLink_RX3_81_SR_Machine_wayThrown_LSR_Thrown) (fun _ q9 => q9) dX3_raise_17 rfl ?_
      rcases hf_oc hf with ⟨q10, hf⟩ | ⟨a11, q10, hf⟩
      ·
        refine W.eq (congrArg (fun v9 => F0 m 20 ls (va_rf v9 :: [])) q10) ?_
        refine W.eq (g2 := F0 m 20 ls (.null :: [])) rfl ?_
        refine lv_iload_n hx hb dX3_raise_20 rfl (lv_at hl 2 rfl) ?_
        cases hf
      ·
        refine W.eq (congrArg (fun v9 => F0 m 20 ls (va_rf v9 :: [])) q10) ?_
        refine W.eq (g2 := F0 m 20 ls (.ref a11 :: [])) rfl ?_
        refine lv_iload_n hx hb dX3_raise_20 rfl (lv_at hl 2 rfl) ?_
        obtain ⟨b12, hf⟩ := hf_ite hf
        refine pPN_X8_3 (v := x2) hx hb hts i_X3_raise_X8 hown hK hC (va_Nw.use rfl (hZ.1 (.fieldLinkNest RX3 102 "StatementRules2$Thrown" "number" "I" "StatementRules2") (by decide +kernel))) (fun _ q9 => q9) dX3_raise_21 b12 (fun H locs hC => ?_)
        refine lv_aload_n hx hb dX3_raise_24 rfl (lv_at hl 0 rfl) ?_
        refine cG_76 (v := (CS.w (CS.setO (CS.setO (CS.setW p1.2 none) a8 2 x1) a11 3 x2))) hx hb hts i_X3_raise_X3 hown hK hC (hts (.fieldLink RX3 81 "StatementRules2$Machine" "wayThrown" "LStatementRules2$Thrown;") k_X3_raise_fieldLink_RX3_81_SR_Machine_wayThrown_LSR_Thrown) (fun _ q9 => q9) dX3_raise_25 rfl ?_
        rcases hf_oc hf with ⟨q13, hf⟩ | ⟨a14, q13, hf⟩
        ·
          refine W.eq (congrArg (fun v9 => F0 m 28 ls (va_rf v9 :: [])) q13) ?_
          refine W.eq (g2 := F0 m 28 ls (.null :: [])) rfl ?_
          refine lv_iconst (v := 0) hx hb dX3_raise_28 (by decide) ?_
          cases hf
        ·
          refine W.eq (congrArg (fun v9 => F0 m 28 ls (va_rf v9 :: [])) q13) ?_
          refine W.eq (g2 := F0 m 28 ls (.ref a14 :: [])) rfl ?_
          refine lv_iconst (v := 0) hx hb dX3_raise_28 (by decide) ?_
          obtain ⟨b15, hf⟩ := hf_ite hf
          refine pPN_X8_4 (v := 0) hx hb hts i_X3_raise_X8 hown hK hC (va_Nw.use rfl (hZ.1 (.fieldLinkNest RX3 105 "StatementRules2$Thrown" "count" "I" "StatementRules2") (by decide +kernel))) (fun _ q9 => q9) dX3_raise_29 b15 (fun H locs hC => ?_)
          refine lv_aload_n hx hb dX3_raise_32 rfl (lv_at hl 0 rfl) ?_
          refine lv_iconst (v := 4) hx hb dX3_raise_33 (by decide) ?_
          refine lv_iconst (v := 0) hx hb dX3_raise_34 (by decide) ?_
          refine lv_iconst (v := 0) hx hb dX3_raise_35 (by decide) ?_
          obtain ⟨p16, hcp16, hf⟩ := hf_bind hf
          have mo17 : CS.hs p1.2 ≤ CS.hs p16.2 := Mono.go hcp16 (m_X3_go N (CS.setO (CS.setO (CS.setO (CS.setW p1.2 none) a8 2 x1) a11 3 x2) a14 4 0) 4 0 0)
          have hr9 : CS.hs p16.2 ≤ CS.hs R.2 := Mono.go hf (mono_some (Nat.le_refl _))
          have hFc := cFree hC hA
          refine va_callv (va_runV (As := [.int 4, .int 0, .int 0]) (rest := []) ⟨hx, hb, hml, hown, hts⟩ (c_X3_go l dC dI Q N (CS.setO (CS.setO (CS.setO (CS.setW p1.2 none) a8 2 x1) a11 3 x2) a14 4 0) 4 0 0 p16 hcp16) (cwV 3 hts hX3_raise_X3_go_v213 rfl rfl rfl (by decide +kernel) ⟨(show 1 + 1 ≤ 3 by omega), (show 8 + (4 + 11) + 60 * 1 ≤ 60 * 3 by omega)⟩) ⟨zPre.blind, va_recv hK hC.1 (ci := 2) (q0 := 7) rfl rfl, cPre_go hZ hK hC⟩ rfl rfl hl.1 rfl (lv_room (Nat.le_of_ble_eq_true rfl)) dX3_raise_36 (cAcc h4 mo17 hr9)) hC.2.2.1 (fun q _ h => hFc q h) hFc (fun u9 t9 H1 locs ht hvm hw hB hz1 hk1 hS => ?_)
          obtain ⟨⟨hP, hK1, hD1⟩, hsz1⟩ := hB
          rw [ht] at hP hsz1
          have hC : CP dC dI Q A s.heap p16.2 H1 locs := ⟨hP, hD1.weaken (fun _ _ _ h => hFc _ h), hS, hsz1⟩
          generalize H1 = H at hC ⊢
          have h19 : (CS.hs σ) ≤ CS.hs p16.2 := Nat.le_trans h4 mo17
          refine W.widen (k := CS.hs p16.2 - (CS.hs σ)) (n := 17 * (CS.hs p16.2 - (CS.hs σ))) (cAcc2 h4 mo17) (cAcc3 h4 mo17) ?_
          obtain rfl := Option.some.inj hf
          exact W.vret hx hb hr (fun t ht hW => ⟨⟨(), rfl, trivial, ⟨by rw [ht]; exact hC.1, va_K.moved hW.alike hK, hC.2.1⟩, by rw [ht]; exact hC.2.2.2⟩, hC.2.2.1.F ht⟩) hC.2.2.1.2.2 dX3_raise_39
  ·
    refine W.eq (congrArg (fun v9 => F0 m 5 ls (va_rf v9 :: [.ref (Q.o 7)])) q5) ?_
    refine W.eq (g2 := F0 m 5 ls (.ref a6 :: [.ref (Q.o 7)])) rfl ?_
    refine cP_76 (v := (some a6)) hx hb hts i_X3_raise_X3 hown hK hC (hts (.fieldLink RX3 81 "StatementRules2$Machine" "wayThrown" "LStatementRules2$Thrown;") k_X3_raise_fieldLink_RX3_81_SR_Machine_wayThrown_LSR_Thrown) (fun _ q9 => q9) dX3_raise_5 (fun H locs hC => ?_)
    refine lv_aload_n hx hb dX3_raise_8 rfl (lv_at hl 0 rfl) ?_
    refine cG_76 (v := (CS.w (CS.setW p1.2 (some a6)))) hx hb hts i_X3_raise_X3 hown hK hC (hts (.fieldLink RX3 81 "StatementRules2$Machine" "wayThrown" "LStatementRules2$Thrown;") k_X3_raise_fieldLink_RX3_81_SR_Machine_wayThrown_LSR_Thrown) (fun _ q9 => q9) dX3_raise_9 rfl ?_
    rcases hf_oc hf with ⟨q20, hf⟩ | ⟨a21, q20, hf⟩
    ·
      refine W.eq (congrArg (fun v9 => F0 m 12 ls (va_rf v9 :: [])) q20) ?_
      refine W.eq (g2 := F0 m 12 ls (.null :: [])) rfl ?_
      refine lv_iload_n hx hb dX3_raise_12 rfl (lv_at hl 1 rfl) ?_
      cases hf
    ·
      refine W.eq (congrArg (fun v9 => F0 m 12 ls (va_rf v9 :: [])) q20) ?_
      refine W.eq (g2 := F0 m 12 ls (.ref a21 :: [])) rfl ?_
      refine lv_iload_n hx hb dX3_raise_12 rfl (lv_at hl 1 rfl) ?_
      obtain ⟨b22, hf⟩ := hf_ite hf
      refine pPN_X8_2 (v := x1) hx hb hts i_X3_raise_X8 hown hK hC (va_Nw.use rfl (hZ.1 (.fieldLinkNest RX3 99 "StatementRules2$Thrown" "sort" "I" "StatementRules2") (by decide +kernel))) (fun _ q9 => q9) dX3_raise_13 b22 (fun H locs hC => ?_)
      refine lv_aload_n hx hb dX3_raise_16 rfl (lv_at hl 0 rfl) ?_
      refine cG_76 (v := (CS.w (CS.setO (CS.setW p1.2 (some a6)) a21 2 x1))) hx hb hts i_X3_raise_X3 hown hK hC (hts (.fieldLink RX3 81 "StatementRules2$Machine" "wayThrown" "LStatementRules2$Thrown;") k_X3_raise_fieldLink_RX3_81_SR_Machine_wayThrown_LSR_Thrown) (fun _ q9 => q9) dX3_raise_17 rfl ?_
      rcases hf_oc hf with ⟨q23, hf⟩ | ⟨a24, q23, hf⟩
      ·
        refine W.eq (congrArg (fun v9 => F0 m 20 ls (va_rf v9 :: [])) q23) ?_
        refine W.eq (g2 := F0 m 20 ls (.null :: [])) rfl ?_
        refine lv_iload_n hx hb dX3_raise_20 rfl (lv_at hl 2 rfl) ?_
        cases hf
      ·
        refine W.eq (congrArg (fun v9 => F0 m 20 ls (va_rf v9 :: [])) q23) ?_
        refine W.eq (g2 := F0 m 20 ls (.ref a24 :: [])) rfl ?_
        refine lv_iload_n hx hb dX3_raise_20 rfl (lv_at hl 2 rfl) ?_
        obtain ⟨b25, hf⟩ := hf_ite hf
        refine pPN_X8_3 (v := x2) hx hb hts i_X3_raise_X8 hown hK hC (va_Nw.use rfl (hZ.1 (.fieldLinkNest RX3 102 "StatementRules2$Thrown" "number" "I" "StatementRules2") (by decide +kernel))) (fun _ q9 => q9) dX3_raise_21 b25 (fun H locs hC => ?_)
        refine lv_aload_n hx hb dX3_raise_24 rfl (lv_at hl 0 rfl) ?_
        refine cG_76 (v := (CS.w (CS.setO (CS.setO (CS.setW p1.2 (some a6)) a21 2 x1) a24 3 x2))) hx hb hts i_X3_raise_X3 hown hK hC (hts (.fieldLink RX3 81 "StatementRules2$Machine" "wayThrown" "LStatementRules2$Thrown;") k_X3_raise_fieldLink_RX3_81_SR_Machine_wayThrown_LSR_Thrown) (fun _ q9 => q9) dX3_raise_25 rfl ?_
        rcases hf_oc hf with ⟨q26, hf⟩ | ⟨a27, q26, hf⟩
        ·
          refine W.eq (congrArg (fun v9 => F0 m 28 ls (va_rf v9 :: [])) q26) ?_
          refine W.eq (g2 := F0 m 28 ls (.null :: [])) rfl ?_
          refine lv_iconst (v := 0) hx hb dX3_raise_28 (by decide) ?_
          cases hf
        ·
          refine W.eq (congrArg (fun v9 => F0 m 28 ls (va_rf v9 :: [])) q26) ?_
          refine W.eq (g2 := F0 m 28 ls (.ref a27 :: [])) rfl ?_
          refine lv_iconst (v := 0) hx hb dX3_raise_28 (by decide) ?_
          obtain ⟨b28, hf⟩ := hf_ite hf
          refine pPN_X8_4 (v := 0) hx hb hts i_X3_raise_X8 hown hK hC (va_Nw.use rfl (hZ.1 (.fieldLinkNest RX3 105 "StatementRules2$Thrown" "count" "I" "StatementRules2") (by decide +kernel))) (fun _ q9 => q9) dX3_raise_29 b28 (fun H locs hC => ?_)
          refine lv_aload_n hx hb dX3_raise_32 rfl (lv_at hl 0 rfl) ?_
          refine lv_iconst (v := 4) hx hb dX3_raise_33 (by decide) ?_
          refine lv_iconst (v := 0) hx hb dX3_raise_34 (by decide) ?_
          refine lv_iconst (v := 0) hx hb dX3_raise_35 (by decide) ?_
          obtain ⟨p29, hcp29, hf⟩ := hf_bind hf
          have mo30 : CS.hs p1.2 ≤ CS.hs p29.2 := Mono.go hcp29 (m_X3_go N (CS.setO (CS.setO (CS.setO (CS.setW p1.2 (some a6)) a21 2 x1) a24 3 x2) a27 4 0) 4 0 0)
          have hr9 : CS.hs p29.2 ≤ CS.hs R.2 := Mono.go hf (mono_some (Nat.le_refl _))
          have hFc := cFree hC hA
          refine va_callv (va_runV (As := [.int 4, .int 0, .int 0]) (rest := []) ⟨hx, hb, hml, hown, hts⟩ (c_X3_go l dC dI Q N (CS.setO (CS.setO (CS.setO (CS.setW p1.2 (some a6)) a21 2 x1) a24 3 x2) a27 4 0) 4 0 0 p29 hcp29) (cwV 3 hts hX3_raise_X3_go_v213 rfl rfl rfl (by decide +kernel) ⟨(show 1 + 1 ≤ 3 by omega), (show 8 + (4 + 11) + 60 * 1 ≤ 60 * 3 by omega)⟩) ⟨zPre.blind, va_recv hK hC.1 (ci := 2) (q0 := 7) rfl rfl, cPre_go hZ hK hC⟩ rfl rfl hl.1 rfl (lv_room (Nat.le_of_ble_eq_true rfl)) dX3_raise_36 (cAcc h4 mo30 hr9)) hC.2.2.1 (fun q _ h => hFc q h) hFc (fun u9 t9 H1 locs ht hvm hw hB hz1 hk1 hS => ?_)
          obtain ⟨⟨hP, hK1, hD1⟩, hsz1⟩ := hB
          rw [ht] at hP hsz1
          have hC : CP dC dI Q A s.heap p29.2 H1 locs := ⟨hP, hD1.weaken (fun _ _ _ h => hFc _ h), hS, hsz1⟩
          generalize H1 = H at hC ⊢
          have h32 : (CS.hs σ) ≤ CS.hs p29.2 := Nat.le_trans h4 mo30
          refine W.widen (k := CS.hs p29.2 - (CS.hs σ)) (n := 17 * (CS.hs p29.2 - (CS.hs σ))) (cAcc2 h4 mo30) (cAcc3 h4 mo30) ?_
          obtain rfl := Option.some.inj hf
          exact W.vret hx hb hr (fun t ht hW => ⟨⟨(), rfl, trivial, ⟨by rw [ht]; exact hC.1, va_K.moved hW.alike hK, hC.2.1⟩, by rw [ht]; exact hC.2.2.2⟩, hC.2.2.1.F ht⟩) hC.2.2.1.2.2 dX3_raise_39
set_option maxHeartbeats 4000000 in
set_option maxRecDepth 100000 in
theorem c_X3_divide (l : Launch) (dC : Nat → ClassId) (dI : Nat → Nat → Nat) (Q : CQ) (N : Nat) (σ : CS) (x1 : Int32) (x2 : Int32) (x3 : Int32) (R : Unit × CS) (hf : f_X3_divide N σ x1 x2 x3 = some R) : Met l yX3_divide wzX3_divide ({ frames := 4, cells := CS.hs R.2 - CS.hs σ, slots := 17 * (CS.hs R.2 - CS.hs σ), locals := 60 * 4 }) (va_Pc [.ref (Q.o 7), .int x1, .int x2, .int x3] (zPre dC dI (CS.hs σ) (cW Q σ) (cT Q))) (va_Qv (fun (_ : Unit) => True) (fun (_ : Unit) (t : State) => zPost dC dI (va_A (cW Q σ) (CS.hs σ)) (cW Q R.2) (cT Q) t ∧ t.heap.size = CS.hs R.2) (va_A (cW Q σ) (CS.hs σ))) (CS.hs R.2 - CS.hs σ) (17 * (CS.hs R.2 - CS.hs σ)) (va_A (cW Q σ) (CS.hs σ)) := by
  refine Met.ofW (cc := cX3_divide) (maxL := 4) (ret := none) (by decide) rfl ?_
  intro p e s m args below meth c s₁ B hml hv
  obtain ⟨rfl, hsz, hZ, hP, hK, hD0⟩ := hv
  have hx := B.exec
  have hb := B.bytes
  have hr := B.returns
  have hts := atoms_spec (ws := wzX3_divide) B.pre
  have hown : s.vm.findClass RX3 = some m.cls := findClass_of_methodNamed B.named
  have hlocks := B.notSynchronized
  have hD := hD0.self (sz := CS.hs σ)
  generalize hAe : va_A (cW Q σ) (CS.hs σ) = A at hD ⊢
  have hA : ∀ q : Nat, s.heap.size ≤ q → A q := fun q h => by rw [← hAe]; exact Or.inr (hsz ▸ h)
  have hC : CP dC dI Q A s.heap σ s.heap [] := ⟨hP, hD, va_S.rf, hsz⟩
  have h0 : CS.hs σ ≤ CS.hs σ := Nat.le_refl _
  have hl := lv_entry ([.ref (Q.o 7), .int x1, .int x2, .int x3]) (n := 4) (Nat.le_of_ble_eq_true rfl)
  rw [lg_entry_eq]
  generalize (lg_sl ([.ref (Q.o 7), .int x1, .int x2, .int x3]) ++ List.replicate (4 - (lg_sl ([.ref (Q.o 7), .int x1, .int x2, .int x3])).length) Slot.unset).toArray = ls at hl ⊢
  have hl : lv_has ls 4 [(0, .ref (Q.o 7)), (1, .int x1), (2, .int x2), (3, .int x3)] := hl
  unfold f_X3_divide at hf
  refine W.widen (k := CS.hs σ - CS.hs σ) (n := 17 * (CS.hs σ - CS.hs σ)) (Nat.zero_le _) (Nat.zero_le _) ?_
  refine lv_iload_n hx hb dX3_divide_0 rfl (lv_at hl 3 rfl) ?_
  refine lv_if_ne (tgt := 13) hx hb dX3_divide_1 (by decide) (fun c1 => ?_) (fun c1 => ?_)
  ·
    replace hf := (if_neg c1).symm.trans hf
    refine lv_aload_n hx hb dX3_divide_13 rfl (lv_at hl 0 rfl) ?_
    refine lv_iload_n hx hb dX3_divide_14 rfl (lv_at hl 1 rfl) ?_
    refine lv_bipush (v := 10) hx hb dX3_divide_15 (by decide) ?_
    refine lv_icmp_ne (tgt := 26) hx hb dX3_divide_17 (by decide) (fun c2 => ?_) (fun c2 => ?_)
    ·
      replace hf := (if_neg c2).symm.trans hf
      refine lv_iload_n hx hb dX3_divide_26 rfl (lv_at hl 2 rfl) ?_
      refine lv_iload_n hx hb dX3_divide_27 rfl (lv_at hl 3 rfl) ?_
      obtain ⟨b3, hf⟩ := hf_itn hf
      refine lv_irem hx hb dX3_divide_28 b3 ?_
      obtain ⟨p4, hcp4, hf⟩ := hf_bind hf
      have mo5 : CS.hs σ ≤ CS.hs p4.2 := Mono.go hcp4 (m_X3_push N σ (x2 - x2 / x3 * x3))
      have hr9 : CS.hs p4.2 ≤ CS.hs R.2 := Mono.go hf (mono_some (Nat.le_refl _))
      have hFc := cFree hC hA
      refine va_callv (va_runV (As := [.int (x2 - x2 / x3 * x3)]) (rest := []) ⟨hx, hb, hml, hown, hts⟩ (c_X3_push l dC dI Q N σ (x2 - x2 / x3 * x3) p4 hcp4) (cwV 1 hts hX3_divide_X3_push_v135 rfl rfl rfl (by decide +kernel) ⟨(show 2 + 1 ≤ 4 by omega), (show 8 + (2 + 11) + 60 * 2 ≤ 60 * 4 by omega)⟩) ⟨zPre.blind, va_recv hK hC.1 (ci := 2) (q0 := 7) rfl rfl, cPre_go hZ hK hC⟩ rfl rfl hl.1 rfl (lv_room (Nat.le_of_ble_eq_true rfl)) dX3_divide_29 (cAcc h0 mo5 hr9)) hC.2.2.1 (fun q _ h => hFc q h) hFc (fun u9 t9 H1 locs ht hvm hw hB hz1 hk1 hS => ?_)
      obtain ⟨⟨hP, hK1, hD1⟩, hsz1⟩ := hB
      rw [ht] at hP hsz1
      have hC : CP dC dI Q A s.heap p4.2 H1 locs := ⟨hP, hD1.weaken (fun _ _ _ h => hFc _ h), hS, hsz1⟩
      generalize H1 = H at hC ⊢
      have h7 : (CS.hs σ) ≤ CS.hs p4.2 := Nat.le_trans h0 mo5
      refine W.widen (k := CS.hs p4.2 - (CS.hs σ)) (n := 17 * (CS.hs p4.2 - (CS.hs σ))) (cAcc2 h0 mo5) (cAcc3 h0 mo5) ?_
      obtain rfl := Option.some.inj hf
      exact W.vret hx hb hr (fun t ht hW => ⟨⟨(), rfl, trivial, ⟨by rw [ht]; exact hC.1, va_K.moved hW.alike hK, hC.2.1⟩, by rw [ht]; exact hC.2.2.2⟩, hC.2.2.1.F ht⟩) hC.2.2.1.2.2 dX3_divide_32
    ·
      replace hf := (if_pos c2).symm.trans hf
      refine lv_iload_n hx hb dX3_divide_20 rfl (lv_at hl 2 rfl) ?_
      refine lv_iload_n hx hb dX3_divide_21 rfl (lv_at hl 3 rfl) ?_
      obtain ⟨b8, hf⟩ := hf_itn hf
      refine lv_idiv hx hb dX3_divide_22 b8 ?_
      refine lv_goto (tgt := 29) hx hb dX3_divide_23 (by decide) ?_
      obtain ⟨p9, hcp9, hf⟩ := hf_bind hf
      have mo10 : CS.hs σ ≤ CS.hs p9.2 := Mono.go hcp9 (m_X3_push N σ (x2 / x3))
      have hr9 : CS.hs p9.2 ≤ CS.hs R.2 := Mono.go hf (mono_some (Nat.le_refl _))
      have hFc := cFree hC hA
      refine va_callv (va_runV (As := [.int (x2 / x3)]) (rest := []) ⟨hx, hb, hml, hown, hts⟩ (c_X3_push l dC dI Q N σ (x2 / x3) p9 hcp9) (cwV 1 hts hX3_divide_X3_push_v135 rfl rfl rfl (by decide +kernel) ⟨(show 2 + 1 ≤ 4 by omega), (show 8 + (2 + 11) + 60 * 2 ≤ 60 * 4 by omega)⟩) ⟨zPre.blind, va_recv hK hC.1 (ci := 2) (q0 := 7) rfl rfl, cPre_go hZ hK hC⟩ rfl rfl hl.1 rfl (lv_room (Nat.le_of_ble_eq_true rfl)) dX3_divide_29 (cAcc h0 mo10 hr9)) hC.2.2.1 (fun q _ h => hFc q h) hFc (fun u9 t9 H1 locs ht hvm hw hB hz1 hk1 hS => ?_)
      obtain ⟨⟨hP, hK1, hD1⟩, hsz1⟩ := hB
      rw [ht] at hP hsz1
      have hC : CP dC dI Q A s.heap p9.2 H1 locs := ⟨hP, hD1.weaken (fun _ _ _ h => hFc _ h), hS, hsz1⟩
      generalize H1 = H at hC ⊢
      have h12 : (CS.hs σ) ≤ CS.hs p9.2 := Nat.le_trans h0 mo10
      refine W.widen (k := CS.hs p9.2 - (CS.hs σ)) (n := 17 * (CS.hs p9.2 - (CS.hs σ))) (cAcc2 h0 mo10) (cAcc3 h0 mo10) ?_
      obtain rfl := Option.some.inj hf
      exact W.vret hx hb hr (fun t ht hW => ⟨⟨(), rfl, trivial, ⟨by rw [ht]; exact hC.1, va_K.moved hW.alike hK, hC.2.1⟩, by rw [ht]; exact hC.2.2.2⟩, hC.2.2.1.F ht⟩) hC.2.2.1.2.2 dX3_divide_32
  ·
    replace hf := (if_pos c1).symm.trans hf
    refine lv_aload_n hx hb dX3_divide_4 rfl (lv_at hl 0 rfl) ?_
    refine lv_iconst (v := 2) hx hb dX3_divide_5 (by decide) ?_
    refine lv_iconst (v := 0) hx hb dX3_divide_6 (by decide) ?_
    obtain ⟨p13, hcp13, hf⟩ := hf_bind hf
    have mo14 : CS.hs σ ≤ CS.hs p13.2 := Mono.go hcp13 (m_X3_raise N σ 2 0)
    have hr9 : CS.hs p13.2 ≤ CS.hs R.2 := Mono.go hf (mono_some (Nat.le_refl _))
    have hFc := cFree hC hA
    refine va_callv (va_runV (As := [.int 2, .int 0]) (rest := []) ⟨hx, hb, hml, hown, hts⟩ (c_X3_raise l dC dI Q N σ 2 0 p13 hcp13) (cwV 2 hts hX3_divide_X3_raise_v150 rfl rfl rfl (by decide +kernel) ⟨(show 3 + 1 ≤ 4 by omega), (show 8 + (3 + 11) + 60 * 3 ≤ 60 * 4 by omega)⟩) ⟨zPre.blind, va_recv hK hC.1 (ci := 2) (q0 := 7) rfl rfl, cPre_go hZ hK hC⟩ rfl rfl hl.1 rfl (lv_room (Nat.le_of_ble_eq_true rfl)) dX3_divide_7 (cAcc h0 mo14 hr9)) hC.2.2.1 (fun q _ h => hFc q h) hFc (fun u9 t9 H1 locs ht hvm hw hB hz1 hk1 hS => ?_)
    obtain ⟨⟨hP, hK1, hD1⟩, hsz1⟩ := hB
    rw [ht] at hP hsz1
    have hC : CP dC dI Q A s.heap p13.2 H1 locs := ⟨hP, hD1.weaken (fun _ _ _ h => hFc _ h), hS, hsz1⟩
    generalize H1 = H at hC ⊢
    have h16 : (CS.hs σ) ≤ CS.hs p13.2 := Nat.le_trans h0 mo14
    refine W.widen (k := CS.hs p13.2 - (CS.hs σ)) (n := 17 * (CS.hs p13.2 - (CS.hs σ))) (cAcc2 h0 mo14) (cAcc3 h0 mo14) ?_
    refine lv_goto (tgt := 32) hx hb dX3_divide_10 (by decide) ?_
    obtain rfl := Option.some.inj hf
    exact W.vret hx hb hr (fun t ht hW => ⟨⟨(), rfl, trivial, ⟨by rw [ht]; exact hC.1, va_K.moved hW.alike hK, hC.2.1⟩, by rw [ht]; exact hC.2.2.2⟩, hC.2.2.1.F ht⟩) hC.2.2.1.2.2 dX3_divide_32
set_option maxHeartbeats 4000000 in
set_option maxRecDepth 100000 in
theorem c_X3_combine (l : Launch) (dC : Nat → ClassId) (dI : Nat → Nat → Nat) (Q : CQ) (N : Nat) (σ : CS) (x1 : Int32) (R : Unit × CS) (hf : f_X3_combine N σ x1 = some R) : Met l yX3_combine wzX3_combine ({ frames := 5, cells := CS.hs R.2 - CS.hs σ, slots := 17 * (CS.hs R.2 - CS.hs σ), locals := 60 * 5 }) (va_Pc [.ref (Q.o 7), .int x1] (zPre dC dI (CS.hs σ) (cW Q σ) (cT Q))) (va_Qv (fun (_ : Unit) => True) (fun (_ : Unit) (t : State) => zPost dC dI (va_A (cW Q σ) (CS.hs σ)) (cW Q R.2) (cT Q) t ∧ t.heap.size = CS.hs R.2) (va_A (cW Q σ) (CS.hs σ))) (CS.hs R.2 - CS.hs σ) (17 * (CS.hs R.2 - CS.hs σ)) (va_A (cW Q σ) (CS.hs σ)) := by
  refine Met.ofW (cc := cX3_combine) (maxL := 4) (ret := none) (by decide) rfl ?_
  intro p e s m args below meth c s₁ B hml hv
  obtain ⟨rfl, hsz, hZ, hP, hK, hD0⟩ := hv
  have hx := B.exec
  have hb := B.bytes
  have hr := B.returns
  have hts := atoms_spec (ws := wzX3_combine) B.pre
  have hown : s.vm.findClass RX3 = some m.cls := findClass_of_methodNamed B.named
  have hlocks := B.notSynchronized
  have hD := hD0.self (sz := CS.hs σ)
  generalize hAe : va_A (cW Q σ) (CS.hs σ) = A at hD ⊢
  have hA : ∀ q : Nat, s.heap.size ≤ q → A q := fun q h => by rw [← hAe]; exact Or.inr (hsz ▸ h)
  have hC : CP dC dI Q A s.heap σ s.heap [] := ⟨hP, hD, va_S.rf, hsz⟩
  have h0 : CS.hs σ ≤ CS.hs σ := Nat.le_refl _
  have hl := lv_entry ([.ref (Q.o 7), .int x1]) (n := 4) (Nat.le_of_ble_eq_true rfl)
  rw [lg_entry_eq]
  generalize (lg_sl ([.ref (Q.o 7), .int x1]) ++ List.replicate (4 - (lg_sl ([.ref (Q.o 7), .int x1])).length) Slot.unset).toArray = ls at hl ⊢
  have hl : lv_has ls 4 [(0, .ref (Q.o 7)), (1, .int x1)] := hl
  unfold f_X3_combine at hf
  refine W.widen (k := CS.hs σ - CS.hs σ) (n := 17 * (CS.hs σ - CS.hs σ)) (Nat.zero_le _) (Nat.zero_le _) ?_
  refine lv_aload_n hx hb dX3_combine_0 rfl (lv_at hl 0 rfl) ?_
  obtain ⟨p1, hcp1, hf⟩ := hf_bind hf
  have mo2 : CS.hs σ ≤ CS.hs p1.2 := Mono.go hcp1 (m_X3_pop N σ)
  have hr9 : CS.hs p1.2 ≤ CS.hs R.2 := Mono.go hf (mono_bind (m_X3_pop N p1.2) (fun p5 => (mono_ite (mono_ite (mono_bind (m_X3_push N p5.2 (p5.1 + p1.1)) (fun p11 => (mono_some (Nat.le_refl _)))) (mono_ite (mono_bind (m_X3_push N p5.2 (p5.1 - p1.1)) (fun p16 => (mono_some (Nat.le_refl _)))) (mono_ite (mono_bind (m_X3_push N p5.2 (p5.1 * p1.1)) (fun p21 => (mono_some (Nat.le_refl _)))) (mono_bind (m_X3_divide N p5.2 x1 p5.1 p1.1) (fun p25 => (mono_some (Nat.le_refl _))))))) (mono_bind (m_X3_compares N p5.2 x1 p5.1 p1.1) (fun p29 => (mono_ite (mono_bind (m_X3_push N p29.2 0) (fun p34 => (mono_some (Nat.le_refl _)))) (mono_bind (m_X3_push N p29.2 1) (fun p38 => (mono_some (Nat.le_refl _))))))))))
  have hFc := cFree hC hA
  refine va_calli (va_runV (As := []) (rest := []) ⟨hx, hb, hml, hown, hts⟩ (c_X3_pop l dC dI Q N σ p1 hcp1) (cwV 0 hts hX3_combine_X3_pop_v138 rfl rfl rfl (by decide +kernel) ⟨(show 2 + 1 ≤ 5 by omega), (show 8 + (1 + 11) + 60 * 2 ≤ 60 * 5 by omega)⟩) ⟨zPre.blind, va_recv hK hC.1 (ci := 2) (q0 := 7) rfl rfl, cPre_go hZ hK hC⟩ rfl rfl hl.1 rfl (lv_room (Nat.le_of_ble_eq_true rfl)) dX3_combine_1 (cAcc h0 mo2 hr9)) hC.2.2.1 (fun q _ h => hFc q h) hFc (fun r3 u9 t9 H1 locs ht hvm hw hB hz1 hk1 hS => ?_)
  obtain ⟨⟨hP, hK1, hD1⟩, hsz1⟩ := hB
  rw [ht] at hP hsz1
  have hC : CP dC dI Q A s.heap p1.2 H1 locs := ⟨hP, hD1.weaken (fun _ _ _ h => hFc _ h), hS, hsz1⟩
  generalize H1 = H at hC ⊢
  have h4 : (CS.hs σ) ≤ CS.hs p1.2 := Nat.le_trans h0 mo2
  refine W.widen (k := CS.hs p1.2 - (CS.hs σ)) (n := 17 * (CS.hs p1.2 - (CS.hs σ))) (cAcc2 h0 mo2) (cAcc3 h0 mo2) ?_
  obtain rfl : r3 = p1.1 := hw
  refine lv_istore_n (lv' := [(2, .int p1.1), (0, .ref (Q.o 7)), (1, .int x1)]) hx hb dX3_combine_4 rfl hl (by decide) rfl (fun ls hl => ?_)
  refine lv_aload_n hx hb dX3_combine_5 rfl (lv_at hl 1 rfl) ?_
  obtain ⟨p5, hcp5, hf⟩ := hf_bind hf
  have mo6 : CS.hs p1.2 ≤ CS.hs p5.2 := Mono.go hcp5 (m_X3_pop N p1.2)
  have hr9 : CS.hs p5.2 ≤ CS.hs R.2 := Mono.go hf (mono_ite (mono_ite (mono_bind (m_X3_push N p5.2 (p5.1 + p1.1)) (fun p11 => (mono_some (Nat.le_refl _)))) (mono_ite (mono_bind (m_X3_push N p5.2 (p5.1 - p1.1)) (fun p16 => (mono_some (Nat.le_refl _)))) (mono_ite (mono_bind (m_X3_push N p5.2 (p5.1 * p1.1)) (fun p21 => (mono_some (Nat.le_refl _)))) (mono_bind (m_X3_divide N p5.2 x1 p5.1 p1.1) (fun p25 => (mono_some (Nat.le_refl _))))))) (mono_bind (m_X3_compares N p5.2 x1 p5.1 p1.1) (fun p29 => (mono_ite (mono_bind (m_X3_push N p29.2 0) (fun p34 => (mono_some (Nat.le_refl _)))) (mono_bind (m_X3_push N p29.2 1) (fun p38 => (mono_some (Nat.le_refl _))))))))
  have hFc := cFree hC hA
  refine va_calli (va_runV (As := []) (rest := []) ⟨hx, hb, hml, hown, hts⟩ (c_X3_pop l dC dI Q N p1.2 p5 hcp5) (cwV 0 hts hX3_combine_X3_pop_v138 rfl rfl rfl (by decide +kernel) ⟨(show 2 + 1 ≤ 5 by omega), (show 8 + (1 + 11) + 60 * 2 ≤ 60 * 5 by omega)⟩) ⟨zPre.blind, va_recv hK hC.1 (ci := 2) (q0 := 7) rfl rfl, cPre_go hZ hK hC⟩ rfl rfl hl.1 rfl (lv_room (Nat.le_of_ble_eq_true rfl)) dX3_combine_6 (cAcc h4 mo6 hr9)) hC.2.2.1 (fun q _ h => hFc q h) hFc (fun r7 u9 t9 H1 locs ht hvm hw hB hz1 hk1 hS => ?_)
  obtain ⟨⟨hP, hK1, hD1⟩, hsz1⟩ := hB
  rw [ht] at hP hsz1
  have hC : CP dC dI Q A s.heap p5.2 H1 locs := ⟨hP, hD1.weaken (fun _ _ _ h => hFc _ h), hS, hsz1⟩
  generalize H1 = H at hC ⊢
  have h8 : (CS.hs σ) ≤ CS.hs p5.2 := Nat.le_trans h4 mo6
  refine W.widen (k := CS.hs p5.2 - (CS.hs σ)) (n := 17 * (CS.hs p5.2 - (CS.hs σ))) (cAcc2 h4 mo6) (cAcc3 h4 mo6) ?_
  obtain rfl : r7 = p5.1 := hw
  refine lv_istore_n (lv' := [(3, .int p5.1), (2, .int p1.1), (0, .ref (Q.o 7)), (1, .int x1)]) hx hb dX3_combine_9 rfl hl (by decide) rfl (fun ls hl => ?_)
  refine lv_iload_n hx hb dX3_combine_10 rfl (lv_at hl 3 rfl) ?_
  refine lv_bipush (v := 12) hx hb dX3_combine_11 (by decide) ?_
  refine lv_icmp_lt (tgt := 35) hx hb dX3_combine_13 (by decide) (fun c9 => ?_) (fun c9 => ?_)
  ·
    replace hf := (if_pos c9).symm.trans hf
    refine lv_iload_n hx hb dX3_combine_35 rfl (lv_at hl 3 rfl) ?_
    by_cases c10 : x1 = 7
    ·
      replace hf := (if_pos c10).symm.trans hf
      refine lv_tableIn (off := 28) (tgt := 64) hx hb dX3_combine_36 (by rw [c10]; decide) (by rw [c10]; decide) (by rw [c10]; decide) (by decide) ?_
      refine lv_aload_n hx hb dX3_combine_64 rfl (lv_at hl 2 rfl) ?_
      refine lv_iload_n hx hb dX3_combine_65 rfl (lv_at hl 0 rfl) ?_
      refine lv_iload_n hx hb dX3_combine_66 rfl (lv_at hl 1 rfl) ?_
      refine lv_iadd hx hb dX3_combine_67 ?_
      obtain ⟨p11, hcp11, hf⟩ := hf_bind hf
      have mo12 : CS.hs p5.2 ≤ CS.hs p11.2 := Mono.go hcp11 (m_X3_push N p5.2 (p5.1 + p1.1))
      have hr9 : CS.hs p11.2 ≤ CS.hs R.2 := Mono.go hf (mono_some (Nat.le_refl _))
      have hFc := cFree hC hA
      refine va_callv (va_runV (As := [.int (p5.1 + p1.1)]) (rest := []) ⟨hx, hb, hml, hown, hts⟩ (c_X3_push l dC dI Q N p5.2 (p5.1 + p1.1) p11 hcp11) (cwV 1 hts hX3_combine_X3_push_v135 rfl rfl rfl (by decide +kernel) ⟨(show 2 + 1 ≤ 5 by omega), (show 8 + (2 + 11) + 60 * 2 ≤ 60 * 5 by omega)⟩) ⟨zPre.blind, va_recv hK hC.1 (ci := 2) (q0 := 7) rfl rfl, cPre_go hZ hK hC⟩ rfl rfl hl.1 rfl (lv_room (Nat.le_of_ble_eq_true rfl)) dX3_combine_68 (cAcc h8 mo12 hr9)) hC.2.2.1 (fun q _ h => hFc q h) hFc (fun u9 t9 H1 locs ht hvm hw hB hz1 hk1 hS => ?_)
      obtain ⟨⟨hP, hK1, hD1⟩, hsz1⟩ := hB
      rw [ht] at hP hsz1
      have hC : CP dC dI Q A s.heap p11.2 H1 locs := ⟨hP, hD1.weaken (fun _ _ _ h => hFc _ h), hS, hsz1⟩
      generalize H1 = H at hC ⊢
      have h14 : (CS.hs σ) ≤ CS.hs p11.2 := Nat.le_trans h8 mo12
      refine W.widen (k := CS.hs p11.2 - (CS.hs σ)) (n := 17 * (CS.hs p11.2 - (CS.hs σ))) (cAcc2 h8 mo12) (cAcc3 h8 mo12) ?_
      refine lv_goto (tgt := 101) hx hb dX3_combine_71 (by decide) ?_
      obtain rfl := Option.some.inj hf
      exact W.vret hx hb hr (fun t ht hW => ⟨⟨(), rfl, trivial, ⟨by rw [ht]; exact hC.1, va_K.moved hW.alike hK, hC.2.1⟩, by rw [ht]; exact hC.2.2.2⟩, hC.2.2.1.F ht⟩) hC.2.2.1.2.2 dX3_combine_101
    replace hf := (if_neg c10).symm.trans hf
    by_cases c15 : x1 = 8
    ·
      replace hf := (if_pos c15).symm.trans hf
      refine lv_tableIn (off := 38) (tgt := 74) hx hb dX3_combine_36 (by rw [c15]; decide) (by rw [c15]; decide) (by rw [c15]; decide) (by decide) ?_
      refine lv_aload_n hx hb dX3_combine_74 rfl (lv_at hl 2 rfl) ?_
      refine lv_iload_n hx hb dX3_combine_75 rfl (lv_at hl 0 rfl) ?_
      refine lv_iload_n hx hb dX3_combine_76 rfl (lv_at hl 1 rfl) ?_
      refine lv_isub hx hb dX3_combine_77 ?_
      obtain ⟨p16, hcp16, hf⟩ := hf_bind hf
      have mo17 : CS.hs p5.2 ≤ CS.hs p16.2 := Mono.go hcp16 (m_X3_push N p5.2 (p5.1 - p1.1))
      have hr9 : CS.hs p16.2 ≤ CS.hs R.2 := Mono.go hf (mono_some (Nat.le_refl _))
      have hFc := cFree hC hA
      refine va_callv (va_runV (As := [.int (p5.1 - p1.1)]) (rest := []) ⟨hx, hb, hml, hown, hts⟩ (c_X3_push l dC dI Q N p5.2 (p5.1 - p1.1) p16 hcp16) (cwV 1 hts hX3_combine_X3_push_v135 rfl rfl rfl (by decide +kernel) ⟨(show 2 + 1 ≤ 5 by omega), (show 8 + (2 + 11) + 60 * 2 ≤ 60 * 5 by omega)⟩) ⟨zPre.blind, va_recv hK hC.1 (ci := 2) (q0 := 7) rfl rfl, cPre_go hZ hK hC⟩ rfl rfl hl.1 rfl (lv_room (Nat.le_of_ble_eq_true rfl)) dX3_combine_78 (cAcc h8 mo17 hr9)) hC.2.2.1 (fun q _ h => hFc q h) hFc (fun u9 t9 H1 locs ht hvm hw hB hz1 hk1 hS => ?_)
      obtain ⟨⟨hP, hK1, hD1⟩, hsz1⟩ := hB
      rw [ht] at hP hsz1
      have hC : CP dC dI Q A s.heap p16.2 H1 locs := ⟨hP, hD1.weaken (fun _ _ _ h => hFc _ h), hS, hsz1⟩
      generalize H1 = H at hC ⊢
      have h19 : (CS.hs σ) ≤ CS.hs p16.2 := Nat.le_trans h8 mo17
      refine W.widen (k := CS.hs p16.2 - (CS.hs σ)) (n := 17 * (CS.hs p16.2 - (CS.hs σ))) (cAcc2 h8 mo17) (cAcc3 h8 mo17) ?_
      refine lv_goto (tgt := 101) hx hb dX3_combine_81 (by decide) ?_
      obtain rfl := Option.some.inj hf
      exact W.vret hx hb hr (fun t ht hW => ⟨⟨(), rfl, trivial, ⟨by rw [ht]; exact hC.1, va_K.moved hW.alike hK, hC.2.1⟩, by rw [ht]; exact hC.2.2.2⟩, hC.2.2.1.F ht⟩) hC.2.2.1.2.2 dX3_combine_101
    replace hf := (if_neg c15).symm.trans hf
    by_cases c20 : x1 = 9
    ·
      replace hf := (if_pos c20).symm.trans hf
      refine lv_tableIn (off := 48) (tgt := 84) hx hb dX3_combine_36 (by rw [c20]; decide) (by rw [c20]; decide) (by rw [c20]; decide) (by decide) ?_
      refine lv_aload_n hx hb dX3_combine_84 rfl (lv_at hl 2 rfl) ?_
      refine lv_iload_n hx hb dX3_combine_85 rfl (lv_at hl 0 rfl) ?_
      refine lv_iload_n hx hb dX3_combine_86 rfl (lv_at hl 1 rfl) ?_
      refine lv_imul hx hb dX3_combine_87 ?_
      obtain ⟨p21, hcp21, hf⟩ := hf_bind hf
      have mo22 : CS.hs p5.2 ≤ CS.hs p21.2 := Mono.go hcp21 (m_X3_push N p5.2 (p5.1 * p1.1))
      have hr9 : CS.hs p21.2 ≤ CS.hs R.2 := Mono.go hf (mono_some (Nat.le_refl _))
      have hFc := cFree hC hA
      refine va_callv (va_runV (As := [.int (p5.1 * p1.1)]) (rest := []) ⟨hx, hb, hml, hown, hts⟩ (c_X3_push l dC dI Q N p5.2 (p5.1 * p1.1) p21 hcp21) (cwV 1 hts hX3_combine_X3_push_v135 rfl rfl rfl (by decide +kernel) ⟨(show 2 + 1 ≤ 5 by omega), (show 8 + (2 + 11) + 60 * 2 ≤ 60 * 5 by omega)⟩) ⟨zPre.blind, va_recv hK hC.1 (ci := 2) (q0 := 7) rfl rfl, cPre_go hZ hK hC⟩ rfl rfl hl.1 rfl (lv_room (Nat.le_of_ble_eq_true rfl)) dX3_combine_88 (cAcc h8 mo22 hr9)) hC.2.2.1 (fun q _ h => hFc q h) hFc (fun u9 t9 H1 locs ht hvm hw hB hz1 hk1 hS => ?_)
      obtain ⟨⟨hP, hK1, hD1⟩, hsz1⟩ := hB
      rw [ht] at hP hsz1
      have hC : CP dC dI Q A s.heap p21.2 H1 locs := ⟨hP, hD1.weaken (fun _ _ _ h => hFc _ h), hS, hsz1⟩
      generalize H1 = H at hC ⊢
      have h24 : (CS.hs σ) ≤ CS.hs p21.2 := Nat.le_trans h8 mo22
      refine W.widen (k := CS.hs p21.2 - (CS.hs σ)) (n := 17 * (CS.hs p21.2 - (CS.hs σ))) (cAcc2 h8 mo22) (cAcc3 h8 mo22) ?_
      refine lv_goto (tgt := 101) hx hb dX3_combine_91 (by decide) ?_
      obtain rfl := Option.some.inj hf
      exact W.vret hx hb hr (fun t ht hW => ⟨⟨(), rfl, trivial, ⟨by rw [ht]; exact hC.1, va_K.moved hW.alike hK, hC.2.1⟩, by rw [ht]; exact hC.2.2.2⟩, hC.2.2.1.F ht⟩) hC.2.2.1.2.2 dX3_combine_101
    replace hf := (if_neg c20).symm.trans hf
    refine lv_tableOut (tgt := 94) hx hb dX3_combine_36 (by have := z_ton (a := 7) c10 (by decide); have := z_ton (a := 8) c15 (by decide); have := z_ton (a := 9) c20 (by decide); omega) (by decide) ?_
    refine lv_aload_n hx hb dX3_combine_94 rfl (lv_at hl 2 rfl) ?_
    refine lv_iload_n hx hb dX3_combine_95 rfl (lv_at hl 3 rfl) ?_
    refine lv_iload_n hx hb dX3_combine_96 rfl (lv_at hl 0 rfl) ?_
    refine lv_iload_n hx hb dX3_combine_97 rfl (lv_at hl 1 rfl) ?_
    obtain ⟨p25, hcp25, hf⟩ := hf_bind hf
    have mo26 : CS.hs p5.2 ≤ CS.hs p25.2 := Mono.go hcp25 (m_X3_divide N p5.2 x1 p5.1 p1.1)
    have hr9 : CS.hs p25.2 ≤ CS.hs R.2 := Mono.go hf (mono_some (Nat.le_refl _))
    have hFc := cFree hC hA
    refine va_callv (va_runV (As := [.int x1, .int p5.1, .int p1.1]) (rest := []) ⟨hx, hb, hml, hown, hts⟩ (c_X3_divide l dC dI Q N p5.2 x1 p5.1 p1.1 p25 hcp25) (cwV 3 hts hX3_combine_X3_divide_v146 rfl rfl rfl (by decide +kernel) ⟨(show 4 + 1 ≤ 5 by omega), (show 8 + (4 + 11) + 60 * 4 ≤ 60 * 5 by omega)⟩) ⟨zPre.blind, va_recv hK hC.1 (ci := 2) (q0 := 7) rfl rfl, cPre_go hZ hK hC⟩ rfl rfl hl.1 rfl (lv_room (Nat.le_of_ble_eq_true rfl)) dX3_combine_98 (cAcc h8 mo26 hr9)) hC.2.2.1 (fun q _ h => hFc q h) hFc (fun u9 t9 H1 locs ht hvm hw hB hz1 hk1 hS => ?_)
    obtain ⟨⟨hP, hK1, hD1⟩, hsz1⟩ := hB
    rw [ht] at hP hsz1
    have hC : CP dC dI Q A s.heap p25.2 H1 locs := ⟨hP, hD1.weaken (fun _ _ _ h => hFc _ h), hS, hsz1⟩
    generalize H1 = H at hC ⊢
    have h28 : (CS.hs σ) ≤ CS.hs p25.2 := Nat.le_trans h8 mo26
    refine W.widen (k := CS.hs p25.2 - (CS.hs σ)) (n := 17 * (CS.hs p25.2 - (CS.hs σ))) (cAcc2 h8 mo26) (cAcc3 h8 mo26) ?_
    obtain rfl := Option.some.inj hf
    exact W.vret hx hb hr (fun t ht hW => ⟨⟨(), rfl, trivial, ⟨by rw [ht]; exact hC.1, va_K.moved hW.alike hK, hC.2.1⟩, by rw [ht]; exact hC.2.2.2⟩, hC.2.2.1.F ht⟩) hC.2.2.1.2.2 dX3_combine_101
  ·
    replace hf := (if_neg c9).symm.trans hf
    refine lv_aload_n hx hb dX3_combine_16 rfl (lv_at hl 2 rfl) ?_
    refine lv_iload_n hx hb dX3_combine_17 rfl (lv_at hl 3 rfl) ?_
    refine lv_iload_n hx hb dX3_combine_18 rfl (lv_at hl 0 rfl) ?_
    refine lv_iload_n hx hb dX3_combine_19 rfl (lv_at hl 1 rfl) ?_
    obtain ⟨p29, hcp29, hf⟩ := hf_bind hf
    have mo30 : CS.hs p5.2 ≤ CS.hs p29.2 := Mono.go hcp29 (m_X3_compares N p5.2 x1 p5.1 p1.1)
    have hr9 : CS.hs p29.2 ≤ CS.hs R.2 := Mono.go hf (mono_ite (mono_bind (m_X3_push N p29.2 0) (fun p34 => (mono_some (Nat.le_refl _)))) (mono_bind (m_X3_push N p29.2 1) (fun p38 => (mono_some (Nat.le_refl _)))))
    have hFc := cFree hC hA
    refine va_calli (va_runS (As := [.int x1, .int p5.1, .int p1.1]) (rest := [.ref (Q.o 7)]) ⟨hx, hb, hml, hown, hts⟩ (c_X3_compares l dC dI Q N p5.2 x1 p5.1 p1.1 p29 hcp29) (va_cwS 3 hts hX3_combine_X3_compares_s142 rfl rfl rfl (by decide +kernel) ⟨(show 1 + 1 ≤ 5 by omega), (show 8 + (3 + 11) + 60 * 1 ≤ 60 * 5 by omega)⟩) ⟨zPre.blind, cPre_go hZ hK hC⟩ rfl rfl hl.1 rfl (lv_room (Nat.le_of_ble_eq_true rfl)) dX3_combine_20 (cAcc h8 mo30 hr9)) hC.2.2.1 (fun q _ h => hFc q h) hFc (fun r31 u9 t9 H1 locs ht hvm hw hB hz1 hk1 hS => ?_)
    obtain ⟨⟨hP, hK1, hD1⟩, hsz1⟩ := hB
    rw [ht] at hP hsz1
    have hC : CP dC dI Q A s.heap p29.2 H1 locs := ⟨hP, hD1.weaken (fun _ _ _ h => hFc _ h), hS, hsz1⟩
    generalize H1 = H at hC ⊢
    have h32 : (CS.hs σ) ≤ CS.hs p29.2 := Nat.le_trans h8 mo30
    refine W.widen (k := CS.hs p29.2 - (CS.hs σ)) (n := 17 * (CS.hs p29.2 - (CS.hs σ))) (cAcc2 h8 mo30) (cAcc3 h8 mo30) ?_
    obtain rfl : r31 = p29.1 := hw
    refine lv_if_eq (tgt := 30) hx hb dX3_combine_23 (by decide) (fun c33 => ?_) (fun c33 => ?_)
    ·
      replace hf := (if_pos c33).symm.trans hf
      refine lv_iconst (v := 0) hx hb dX3_combine_30 (by decide) ?_
      obtain ⟨p34, hcp34, hf⟩ := hf_bind hf
      have mo35 : CS.hs p29.2 ≤ CS.hs p34.2 := Mono.go hcp34 (m_X3_push N p29.2 0)
      have hr9 : CS.hs p34.2 ≤ CS.hs R.2 := Mono.go hf (mono_some (Nat.le_refl _))
      have hFc := cFree hC hA
      refine va_callv (va_runV (As := [.int 0]) (rest := []) ⟨hx, hb, hml, hown, hts⟩ (c_X3_push l dC dI Q N p29.2 0 p34 hcp34) (cwV 1 hts hX3_combine_X3_push_v135 rfl rfl rfl (by decide +kernel) ⟨(show 2 + 1 ≤ 5 by omega), (show 8 + (2 + 11) + 60 * 2 ≤ 60 * 5 by omega)⟩) ⟨zPre.blind, va_recv hK hC.1 (ci := 2) (q0 := 7) rfl rfl, cPre_go hZ hK hC⟩ rfl rfl hl.1 rfl (lv_room (Nat.le_of_ble_eq_true rfl)) dX3_combine_31 (cAcc h32 mo35 hr9)) hC.2.2.1 (fun q _ h => hFc q h) hFc (fun u9 t9 H1 locs ht hvm hw hB hz1 hk1 hS => ?_)
      obtain ⟨⟨hP, hK1, hD1⟩, hsz1⟩ := hB
      rw [ht] at hP hsz1
      have hC : CP dC dI Q A s.heap p34.2 H1 locs := ⟨hP, hD1.weaken (fun _ _ _ h => hFc _ h), hS, hsz1⟩
      generalize H1 = H at hC ⊢
      have h37 : (CS.hs σ) ≤ CS.hs p34.2 := Nat.le_trans h32 mo35
      refine W.widen (k := CS.hs p34.2 - (CS.hs σ)) (n := 17 * (CS.hs p34.2 - (CS.hs σ))) (cAcc2 h32 mo35) (cAcc3 h32 mo35) ?_
      obtain rfl := Option.some.inj hf
      exact W.vret hx hb hr (fun t ht hW => ⟨⟨(), rfl, trivial, ⟨by rw [ht]; exact hC.1, va_K.moved hW.alike hK, hC.2.1⟩, by rw [ht]; exact hC.2.2.2⟩, hC.2.2.1.F ht⟩) hC.2.2.1.2.2 dX3_combine_34
    ·
      replace hf := (if_neg c33).symm.trans hf
      refine lv_iconst (v := 1) hx hb dX3_combine_26 (by decide) ?_
      refine lv_goto (tgt := 31) hx hb dX3_combine_27 (by decide) ?_
      obtain ⟨p38, hcp38, hf⟩ := hf_bind hf
      have mo39 : CS.hs p29.2 ≤ CS.hs p38.2 := Mono.go hcp38 (m_X3_push N p29.2 1)
      have hr9 : CS.hs p38.2 ≤ CS.hs R.2 := Mono.go hf (mono_some (Nat.le_refl _))
      have hFc := cFree hC hA
      refine va_callv (va_runV (As := [.int 1]) (rest := []) ⟨hx, hb, hml, hown, hts⟩ (c_X3_push l dC dI Q N p29.2 1 p38 hcp38) (cwV 1 hts hX3_combine_X3_push_v135 rfl rfl rfl (by decide +kernel) ⟨(show 2 + 1 ≤ 5 by omega), (show 8 + (2 + 11) + 60 * 2 ≤ 60 * 5 by omega)⟩) ⟨zPre.blind, va_recv hK hC.1 (ci := 2) (q0 := 7) rfl rfl, cPre_go hZ hK hC⟩ rfl rfl hl.1 rfl (lv_room (Nat.le_of_ble_eq_true rfl)) dX3_combine_31 (cAcc h32 mo39 hr9)) hC.2.2.1 (fun q _ h => hFc q h) hFc (fun u9 t9 H1 locs ht hvm hw hB hz1 hk1 hS => ?_)
      obtain ⟨⟨hP, hK1, hD1⟩, hsz1⟩ := hB
      rw [ht] at hP hsz1
      have hC : CP dC dI Q A s.heap p38.2 H1 locs := ⟨hP, hD1.weaken (fun _ _ _ h => hFc _ h), hS, hsz1⟩
      generalize H1 = H at hC ⊢
      have h41 : (CS.hs σ) ≤ CS.hs p38.2 := Nat.le_trans h32 mo39
      refine W.widen (k := CS.hs p38.2 - (CS.hs σ)) (n := 17 * (CS.hs p38.2 - (CS.hs σ))) (cAcc2 h32 mo39) (cAcc3 h32 mo39) ?_
      obtain rfl := Option.some.inj hf
      exact W.vret hx hb hr (fun t ht hW => ⟨⟨(), rfl, trivial, ⟨by rw [ht]; exact hC.1, va_K.moved hW.alike hK, hC.2.1⟩, by rw [ht]; exact hC.2.2.2⟩, hC.2.2.1.F ht⟩) hC.2.2.1.2.2 dX3_combine_34
end
section
theorem k_X3_goIf_fieldLink_RX3_40_SR_Machine_code_LSR_Code : Cond.fieldLink RX3 40 "StatementRules2$Machine" "code" "LStatementRules2$Code;" ∈ wzX3_goIf := List.mem_cons_of_mem _ (List.mem_append_left _ (List.mem_of_getElem? (i := 0) rfl))
theorem i_X3_goIf_X3 : ∀ w ∈ wsX30, w ∈ wzX3_goIf := fun _ h => List.mem_cons_of_mem _ (List.mem_append_right _ (List.mem_append_left _ (h)))
theorem i_X3_goIf_X0 : ∀ w ∈ wsX00, w ∈ wzX3_goIf := fun _ h => List.mem_cons_of_mem _ (List.mem_append_right _ (List.mem_append_right _ (List.mem_append_left _ (h))))
theorem k_X3_goIf_initialized_RX11 : Cond.initialized RX11 ∈ wzX3_goIf := List.mem_cons_of_mem _ (List.mem_append_left _ (List.mem_of_getElem? (i := 1) rfl))
theorem k_X3_goIf_static_yX11_at : Cond.static yX11_at ∈ wzX3_goIf := List.mem_cons_of_mem _ (List.mem_append_left _ (List.mem_of_getElem? (i := 2) rfl))
theorem k_X3_goIf_fieldLink_RX3_57_SR_Machine_place_I : Cond.fieldLink RX3 57 "StatementRules2$Machine" "place" "I" ∈ wzX3_goIf := List.mem_cons_of_mem _ (List.mem_append_left _ (List.mem_of_getElem? (i := 3) rfl))
set_option maxHeartbeats 4000000 in
set_option maxRecDepth 100000 in
theorem c_X3_goIf (l : Launch) (dC : Nat → ClassId) (dI : Nat → Nat → Nat) (Q : CQ) (N : Nat) (σ : CS) (x1 : Int32) (x2 : Int32) (R : Unit × CS) (hf : f_X3_goIf N σ x1 x2 = some R) : Met l yX3_goIf wzX3_goIf ({ frames := 2, cells := CS.hs R.2 - CS.hs σ, slots := 17 * (CS.hs R.2 - CS.hs σ), locals := 60 * 2 }) (va_Pc [.ref (Q.o 7), .int x1, .int x2] (zPre dC dI (CS.hs σ) (cW Q σ) (cT Q))) (va_Qv (fun (_ : Unit) => True) (fun (_ : Unit) (t : State) => zPost dC dI (va_A (cW Q σ) (CS.hs σ)) (cW Q R.2) (cT Q) t ∧ t.heap.size = CS.hs R.2) (va_A (cW Q σ) (CS.hs σ))) (CS.hs R.2 - CS.hs σ) (17 * (CS.hs R.2 - CS.hs σ)) (va_A (cW Q σ) (CS.hs σ)) := by
  refine Met.ofW (cc := cX3_goIf) (maxL := 3) (ret := none) (by decide) rfl ?_
  intro p e s m args below meth c s₁ B hml hv
  obtain ⟨rfl, hsz, hZ, hP, hK, hD0⟩ := hv
  have hx := B.exec
  have hb := B.bytes
  have hr := B.returns
  have hts := atoms_spec (ws := wzX3_goIf) B.pre
  have hown : s.vm.findClass RX3 = some m.cls := findClass_of_methodNamed B.named
  have hlocks := B.notSynchronized
  have hD := hD0.self (sz := CS.hs σ)
  generalize hAe : va_A (cW Q σ) (CS.hs σ) = A at hD ⊢
  have hA : ∀ q : Nat, s.heap.size ≤ q → A q := fun q h => by rw [← hAe]; exact Or.inr (hsz ▸ h)
  have hC : CP dC dI Q A s.heap σ s.heap [] := ⟨hP, hD, va_S.rf, hsz⟩
  have h0 : CS.hs σ ≤ CS.hs σ := Nat.le_refl _
  have hl := lv_entry ([.ref (Q.o 7), .int x1, .int x2]) (n := 3) (Nat.le_of_ble_eq_true rfl)
  rw [lg_entry_eq]
  generalize (lg_sl ([.ref (Q.o 7), .int x1, .int x2]) ++ List.replicate (3 - (lg_sl ([.ref (Q.o 7), .int x1, .int x2])).length) Slot.unset).toArray = ls at hl ⊢
  have hl : lv_has ls 3 [(0, .ref (Q.o 7)), (1, .int x1), (2, .int x2)] := hl
  unfold f_X3_goIf at hf
  refine W.widen (k := CS.hs σ - CS.hs σ) (n := 17 * (CS.hs σ - CS.hs σ)) (Nat.zero_le _) (Nat.zero_le _) ?_
  refine lv_iload_n hx hb dX3_goIf_0 rfl (lv_at hl 1 rfl) ?_
  refine lv_if_eq (tgt := 19) hx hb dX3_goIf_1 (by decide) (fun c1 => ?_) (fun c1 => ?_)
  ·
    replace hf := (if_pos c1).symm.trans hf
    obtain rfl := Option.some.inj hf
    exact W.vret hx hb hr (fun t ht hW => ⟨⟨(), rfl, trivial, ⟨by rw [ht]; exact hC.1, va_K.moved hW.alike hK, hC.2.1⟩, by rw [ht]; exact hC.2.2.2⟩, hC.2.2.1.F ht⟩) hC.2.2.1.2.2 dX3_goIf_19
  ·
    replace hf := (if_neg c1).symm.trans hf
    refine lv_aload_n hx hb dX3_goIf_4 rfl (lv_at hl 0 rfl) ?_
    refine lv_aload_n hx hb dX3_goIf_5 rfl (lv_at hl 0 rfl) ?_
    refine cG_58 hx hb hts i_X3_goIf_X3 hown hK hC (hts (.fieldLink RX3 40 "StatementRules2$Machine" "code" "LStatementRules2$Code;") k_X3_goIf_fieldLink_RX3_40_SR_Machine_code_LSR_Code) (fun _ q9 => q9) dX3_goIf_6 ?_
    refine cGN_17 hx hb hts i_X3_goIf_X0 hown hK hC (va_Nw.use rfl (hZ.1 (.fieldLinkNest RX3 153 "StatementRules2$Code" "targets" "[I" "StatementRules2") (by decide +kernel))) (fun _ q9 => q9) dX3_goIf_9 ?_
    refine lv_iload_n hx hb dX3_goIf_12 rfl (lv_at hl 2 rfl) ?_
    have he9 := (cArr_17 (Q := Q) (σ := σ))
    have hFc := cFree1 hC hA he9
    have hr9 : CS.hs σ ≤ CS.hs R.2 := Mono.go hf (mono_some (Nat.le_refl _))
    refine va_calli (va_runSN (As := [.ref (Q.q 17), .int x2]) (rest := [.ref (Q.o 7)]) ⟨hx, hb, hml, hown, hts⟩ (c_X11_at l dC dI _ (Q.q 17) (Q.c 0) 1024 (σ.a 17) x2 (by decide)) ⟨va_cnB 2 hts hX3_goIf_X11_at_n111 rfl rfl rfl (hZ.1 (.methodLinkNest RX3 111 yX11_at "StatementRules2") (by decide +kernel)) (hts (.initialized RX11) k_X3_goIf_initialized_RX11) (by decide +kernel) ⟨(show 1 + 1 ≤ 2 by omega), (show 8 + (2 + 11) + 60 * 1 ≤ 60 * 2 by omega)⟩, (hts (.static yX11_at) k_X3_goIf_static_yX11_at), trivial⟩ ⟨zPre.blind, zPre.go hZ (cOne hC.1 he9) (hK.sub (tys' := [(Q.c 0, .int)]) [0] rfl) (cOneD hC.2.1 he9)⟩ rfl rfl hl.1 rfl (lv_room (Nat.le_of_ble_eq_true rfl)) dX3_goIf_13 ⟨cAcc4 h0 hr9, cAcc5 h0 hr9⟩) hC.2.2.1 (fun q _ h => hFc q h) hFc (fun r2 u9 t9 H1 locs ht hvm hw hB hz1 hk1 hS => ?_)
    obtain ⟨⟨hP1, hK1, hD1⟩, hsz1⟩ := hB
    rw [ht] at hP1 hsz1
    have hC := cBack (σ' := σ) hC he9 (cSelf he9) (Eq.refl (CS.hs σ)) hk1 hP1 hsz1 hS
    generalize H1 = H at hC ⊢
    obtain rfl : r2 = (gAt (σ.a 17) 1024 x2) := hw
    refine cP_66 (v := (gAt (σ.a 17) 1024 x2)) hx hb hts i_X3_goIf_X3 hown hK hC (hts (.fieldLink RX3 57 "StatementRules2$Machine" "place" "I") k_X3_goIf_fieldLink_RX3_57_SR_Machine_place_I) (fun _ q9 => q9) dX3_goIf_16 (fun H locs hC => ?_)
    obtain rfl := Option.some.inj hf
    exact W.vret hx hb hr (fun t ht hW => ⟨⟨(), rfl, trivial, ⟨by rw [ht]; exact hC.1, va_K.moved hW.alike hK, hC.2.1⟩, by rw [ht]; exact hC.2.2.2⟩, hC.2.2.1.F ht⟩) hC.2.2.1.2.2 dX3_goIf_19
theorem k_X3_keep_fieldLink_RX3_15_SR_Machine_values_I : Cond.fieldLink RX3 15 "StatementRules2$Machine" "values" "[I" ∈ wzX3_keep := List.mem_cons_of_mem _ (List.mem_append_left _ (List.mem_of_getElem? (i := 0) rfl))
theorem i_X3_keep_X3 : ∀ w ∈ wsX30, w ∈ wzX3_keep := fun _ h => List.mem_cons_of_mem _ (List.mem_append_right _ (List.mem_append_left _ (h)))
theorem k_X3_keep_fieldLink_RX3_54_SR_Machine_height_I : Cond.fieldLink RX3 54 "StatementRules2$Machine" "height" "I" ∈ wzX3_keep := List.mem_cons_of_mem _ (List.mem_append_left _ (List.mem_of_getElem? (i := 1) rfl))
theorem k_X3_keep_initialized_RX11 : Cond.initialized RX11 ∈ wzX3_keep := List.mem_cons_of_mem _ (List.mem_append_left _ (List.mem_of_getElem? (i := 2) rfl))
theorem k_X3_keep_static_yX11_at : Cond.static yX11_at ∈ wzX3_keep := List.mem_cons_of_mem _ (List.mem_append_left _ (List.mem_of_getElem? (i := 3) rfl))
theorem k_X3_keep_fieldLink_RX3_40_SR_Machine_code_LSR_Code : Cond.fieldLink RX3 40 "StatementRules2$Machine" "code" "LStatementRules2$Code;" ∈ wzX3_keep := List.mem_cons_of_mem _ (List.mem_append_left _ (List.mem_of_getElem? (i := 4) rfl))
theorem i_X3_keep_X0 : ∀ w ∈ wsX00, w ∈ wzX3_keep := fun _ h => List.mem_cons_of_mem _ (List.mem_append_right _ (List.mem_append_right _ (List.mem_append_left _ (h))))
theorem k_X3_keep_fieldLink_RX3_57_SR_Machine_place_I : Cond.fieldLink RX3 57 "StatementRules2$Machine" "place" "I" ∈ wzX3_keep := List.mem_cons_of_mem _ (List.mem_append_left _ (List.mem_of_getElem? (i := 5) rfl))
set_option maxHeartbeats 4000000 in
set_option maxRecDepth 100000 in
theorem j_X3_keep_22 {p : Program} {e : Env} {s : State} {m : MethodId} {args : Array Value} {below : List Frame} {meth : Method} {c : Code} {A : Nat → Prop} (l : Launch) (dC : Nat → ClassId) (dI : Nat → Nat → Nat) (Q : CQ) (N : Nat) (z9h : Nat) (R : Unit × CS) (hx : p.tables.exec = Jvm.exec) (hb : c.code = cX3_keep) (hr : meth.sig.returnType = none) (hml : c.maxLocals = 4) (hown : s.vm.findClass RX3 = some m.cls) (hts : ∀ w ∈ wzX3_keep, w.before args s = true) (hlocks : meth.locks = false) (hZ : zAMB s) (hA : ∀ q : Nat, s.heap.size ≤ q → A q) (hK : va_K (dC, dI) vwCl (cT Q) s) : ∀ (σ : CS) (x1 : Int32) (x2 : Int32) (x3 : Int32) (H : Heap) (locs : List Loc) (ls : Array Slot), f_X3_keep_22 N σ x1 x2 x3 = some R → z9h ≤ CS.hs σ → CP dC dI Q A s.heap σ H locs → lv_has ls 4 [(0, .ref (Q.o 7)), (1, .int x1), (2, .int x2), (3, .int x3)] → W p l e ({ frames := 3, cells := CS.hs R.2 - z9h, slots := 17 * (CS.hs R.2 - z9h), locals := 60 * 3 }) s m args below meth c H locs (CS.hs σ - z9h) (17 * (CS.hs σ - z9h)) (MQ below (va_Qv (fun (_ : Unit) => True) (fun (_ : Unit) (t : State) => zPost dC dI A (cW Q R.2) (cT Q) t ∧ t.heap.size = CS.hs R.2) A) args s (CS.hs R.2 - z9h) (17 * (CS.hs R.2 - z9h)) A) (F0 m 22 ls []) := by
  intro σ x1 x2 x3 H locs ls hf h0 hC hl
  unfold f_X3_keep_22 at hf
  refine lv_iload_n hx hb dX3_keep_22 rfl (lv_at hl 3 rfl) ?_
  refine lv_iload_n hx hb dX3_keep_23 rfl (lv_at hl 1 rfl) ?_
  refine lv_icmp_ne (tgt := 45) hx hb dX3_keep_24 (by decide) (fun c3 => ?_) (fun c3 => ?_)
  ·
    replace hf := (if_neg c3).symm.trans hf
    refine lv_aload_n hx hb dX3_keep_45 rfl (lv_at hl 0 rfl) ?_
    obtain ⟨p4, hcp4, hf⟩ := hf_bind hf
    have mo5 : CS.hs σ ≤ CS.hs p4.2 := Mono.go hcp4 (m_X3_pop N σ)
    have hr9 : CS.hs p4.2 ≤ CS.hs R.2 := Mono.go hf (mono_some (Nat.le_refl _))
    have hFc := cFree hC hA
    refine va_calli (va_runV (As := []) (rest := []) ⟨hx, hb, hml, hown, hts⟩ (c_X3_pop l dC dI Q N σ p4 hcp4) (cwV 0 hts hX3_keep_X3_pop_v138 rfl rfl rfl (by decide +kernel) ⟨(show 2 + 1 ≤ 3 by omega), (show 8 + (1 + 11) + 60 * 2 ≤ 60 * 3 by omega)⟩) ⟨zPre.blind, va_recv hK hC.1 (ci := 2) (q0 := 7) rfl rfl, cPre_go hZ hK hC⟩ rfl rfl hl.1 rfl (lv_room (Nat.le_of_ble_eq_true rfl)) dX3_keep_46 (cAcc h0 mo5 hr9)) hC.2.2.1 (fun q _ h => hFc q h) hFc (fun r6 u9 t9 H1 locs ht hvm hw hB hz1 hk1 hS => ?_)
    obtain ⟨⟨hP, hK1, hD1⟩, hsz1⟩ := hB
    rw [ht] at hP hsz1
    have hC : CP dC dI Q A s.heap p4.2 H1 locs := ⟨hP, hD1.weaken (fun _ _ _ h => hFc _ h), hS, hsz1⟩
    generalize H1 = H at hC ⊢
    have h7 : z9h ≤ CS.hs p4.2 := Nat.le_trans h0 mo5
    refine W.widen (k := CS.hs p4.2 - z9h) (n := 17 * (CS.hs p4.2 - z9h)) (cAcc2 h0 mo5) (cAcc3 h0 mo5) ?_
    obtain rfl : r6 = p4.1 := hw
    refine lv_pop hx hb dX3_keep_49 rfl ?_
    obtain rfl := Option.some.inj hf
    exact W.vret hx hb hr (fun t ht hW => ⟨⟨(), rfl, trivial, ⟨by rw [ht]; exact hC.1, va_K.moved hW.alike hK, hC.2.1⟩, by rw [ht]; exact hC.2.2.2⟩, hC.2.2.1.F ht⟩) hC.2.2.1.2.2 dX3_keep_50
  ·
    replace hf := (if_pos c3).symm.trans hf
    refine lv_aload_n hx hb dX3_keep_27 rfl (lv_at hl 0 rfl) ?_
    refine lv_aload_n hx hb dX3_keep_28 rfl (lv_at hl 0 rfl) ?_
    refine cG_58 hx hb hts i_X3_keep_X3 hown hK hC (hts (.fieldLink RX3 40 "StatementRules2$Machine" "code" "LStatementRules2$Code;") k_X3_keep_fieldLink_RX3_40_SR_Machine_code_LSR_Code) (fun _ q9 => q9) dX3_keep_29 ?_
    refine cGN_17 hx hb hts i_X3_keep_X0 hown hK hC (va_Nw.use rfl (hZ.1 (.fieldLinkNest RX3 153 "StatementRules2$Code" "targets" "[I" "StatementRules2") (by decide +kernel))) (fun _ q9 => q9) dX3_keep_32 ?_
    refine lv_iload_n hx hb dX3_keep_35 rfl (lv_at hl 2 rfl) ?_
    have he9 := (cArr_17 (Q := Q) (σ := σ))
    have hFc := cFree1 hC hA he9
    have hr9 : CS.hs σ ≤ CS.hs R.2 := Mono.go hf (mono_some (Nat.le_refl _))
    refine va_calli (va_runSN (As := [.ref (Q.q 17), .int x2]) (rest := [.ref (Q.o 7)]) ⟨hx, hb, hml, hown, hts⟩ (c_X11_at l dC dI _ (Q.q 17) (Q.c 0) 1024 (σ.a 17) x2 (by decide)) ⟨va_cnB 2 hts hX3_keep_X11_at_n111 rfl rfl rfl (hZ.1 (.methodLinkNest RX3 111 yX11_at "StatementRules2") (by decide +kernel)) (hts (.initialized RX11) k_X3_keep_initialized_RX11) (by decide +kernel) ⟨(show 1 + 1 ≤ 3 by omega), (show 8 + (2 + 11) + 60 * 1 ≤ 60 * 3 by omega)⟩, (hts (.static yX11_at) k_X3_keep_static_yX11_at), trivial⟩ ⟨zPre.blind, zPre.go hZ (cOne hC.1 he9) (hK.sub (tys' := [(Q.c 0, .int)]) [0] rfl) (cOneD hC.2.1 he9)⟩ rfl rfl hl.1 rfl (lv_room (Nat.le_of_ble_eq_true rfl)) dX3_keep_36 ⟨cAcc4 h0 hr9, cAcc5 h0 hr9⟩) hC.2.2.1 (fun q _ h => hFc q h) hFc (fun r8 u9 t9 H1 locs ht hvm hw hB hz1 hk1 hS => ?_)
    obtain ⟨⟨hP1, hK1, hD1⟩, hsz1⟩ := hB
    rw [ht] at hP1 hsz1
    have hC := cBack (σ' := σ) hC he9 (cSelf he9) (Eq.refl (CS.hs σ)) hk1 hP1 hsz1 hS
    generalize H1 = H at hC ⊢
    obtain rfl : r8 = (gAt (σ.a 17) 1024 x2) := hw
    refine cP_66 (v := (gAt (σ.a 17) 1024 x2)) hx hb hts i_X3_keep_X3 hown hK hC (hts (.fieldLink RX3 57 "StatementRules2$Machine" "place" "I") k_X3_keep_fieldLink_RX3_57_SR_Machine_place_I) (fun _ q9 => q9) dX3_keep_39 (fun H locs hC => ?_)
    refine lv_goto (tgt := 50) hx hb dX3_keep_42 (by decide) ?_
    obtain rfl := Option.some.inj hf
    exact W.vret hx hb hr (fun t ht hW => ⟨⟨(), rfl, trivial, ⟨by rw [ht]; exact hC.1, va_K.moved hW.alike hK, hC.2.1⟩, by rw [ht]; exact hC.2.2.2⟩, hC.2.2.1.F ht⟩) hC.2.2.1.2.2 dX3_keep_50
set_option maxHeartbeats 4000000 in
set_option maxRecDepth 100000 in
theorem c_X3_keep (l : Launch) (dC : Nat → ClassId) (dI : Nat → Nat → Nat) (Q : CQ) (N : Nat) (σ : CS) (x1 : Int32) (x2 : Int32) (R : Unit × CS) (hf : f_X3_keep N σ x1 x2 = some R) : Met l yX3_keep wzX3_keep ({ frames := 3, cells := CS.hs R.2 - CS.hs σ, slots := 17 * (CS.hs R.2 - CS.hs σ), locals := 60 * 3 }) (va_Pc [.ref (Q.o 7), .int x1, .int x2] (zPre dC dI (CS.hs σ) (cW Q σ) (cT Q))) (va_Qv (fun (_ : Unit) => True) (fun (_ : Unit) (t : State) => zPost dC dI (va_A (cW Q σ) (CS.hs σ)) (cW Q R.2) (cT Q) t ∧ t.heap.size = CS.hs R.2) (va_A (cW Q σ) (CS.hs σ))) (CS.hs R.2 - CS.hs σ) (17 * (CS.hs R.2 - CS.hs σ)) (va_A (cW Q σ) (CS.hs σ)) := by
  refine Met.ofW (cc := cX3_keep) (maxL := 4) (ret := none) (by decide) rfl ?_
  intro p e s m args below meth c s₁ B hml hv
  obtain ⟨rfl, hsz, hZ, hP, hK, hD0⟩ := hv
  have hx := B.exec
  have hb := B.bytes
  have hr := B.returns
  have hts := atoms_spec (ws := wzX3_keep) B.pre
  have hown : s.vm.findClass RX3 = some m.cls := findClass_of_methodNamed B.named
  have hlocks := B.notSynchronized
  have hD := hD0.self (sz := CS.hs σ)
  generalize hAe : va_A (cW Q σ) (CS.hs σ) = A at hD ⊢
  have hA : ∀ q : Nat, s.heap.size ≤ q → A q := fun q h => by rw [← hAe]; exact Or.inr (hsz ▸ h)
  have hC : CP dC dI Q A s.heap σ s.heap [] := ⟨hP, hD, va_S.rf, hsz⟩
  have h0 : CS.hs σ ≤ CS.hs σ := Nat.le_refl _
  have hl := lv_entry ([.ref (Q.o 7), .int x1, .int x2]) (n := 4) (Nat.le_of_ble_eq_true rfl)
  rw [lg_entry_eq]
  generalize (lg_sl ([.ref (Q.o 7), .int x1, .int x2]) ++ List.replicate (4 - (lg_sl ([.ref (Q.o 7), .int x1, .int x2])).length) Slot.unset).toArray = ls at hl ⊢
  have hl : lv_has ls 4 [(0, .ref (Q.o 7)), (1, .int x1), (2, .int x2)] := hl
  unfold f_X3_keep at hf
  refine W.widen (k := CS.hs σ - CS.hs σ) (n := 17 * (CS.hs σ - CS.hs σ)) (Nat.zero_le _) (Nat.zero_le _) ?_
  refine lv_aload_n hx hb dX3_keep_0 rfl (lv_at hl 0 rfl) ?_
  refine cG_60 hx hb hts i_X3_keep_X3 hown hK hC (hts (.fieldLink RX3 15 "StatementRules2$Machine" "values" "[I") k_X3_keep_fieldLink_RX3_15_SR_Machine_values_I) (fun _ q9 => q9) dX3_keep_1 ?_
  refine lv_aload_n hx hb dX3_keep_4 rfl (lv_at hl 0 rfl) ?_
  refine cG_65 (v := (σ.i 65)) hx hb hts i_X3_keep_X3 hown hK hC (hts (.fieldLink RX3 54 "StatementRules2$Machine" "height" "I") k_X3_keep_fieldLink_RX3_54_SR_Machine_height_I) (fun _ q9 => q9) dX3_keep_5 rfl ?_
  refine lv_iconst (v := 1) hx hb dX3_keep_8 (by decide) ?_
  refine lv_isub hx hb dX3_keep_9 ?_
  have he9 := (cArr_60 (Q := Q) (σ := σ))
  have hFc := cFree1 hC hA he9
  have hr9 : CS.hs σ ≤ CS.hs R.2 := Mono.go hf (mono_ite (m_X3_keep_22 N σ x1 x2 0) (m_X3_keep_22 N σ x1 x2 1))
  refine va_calli (va_runSN (As := [.ref (Q.q 60), .int ((σ.i 65) - 1)]) (rest := []) ⟨hx, hb, hml, hown, hts⟩ (c_X11_at l dC dI _ (Q.q 60) (Q.c 0) 600 (σ.a 60) ((σ.i 65) - 1) (by decide)) ⟨va_cnB 2 hts hX3_keep_X11_at_n111 rfl rfl rfl (hZ.1 (.methodLinkNest RX3 111 yX11_at "StatementRules2") (by decide +kernel)) (hts (.initialized RX11) k_X3_keep_initialized_RX11) (by decide +kernel) ⟨(show 1 + 1 ≤ 3 by omega), (show 8 + (2 + 11) + 60 * 1 ≤ 60 * 3 by omega)⟩, (hts (.static yX11_at) k_X3_keep_static_yX11_at), trivial⟩ ⟨zPre.blind, zPre.go hZ (cOne hC.1 he9) (hK.sub (tys' := [(Q.c 0, .int)]) [0] rfl) (cOneD hC.2.1 he9)⟩ rfl rfl hl.1 rfl (lv_room (Nat.le_of_ble_eq_true rfl)) dX3_keep_10 ⟨cAcc4 h0 hr9, cAcc5 h0 hr9⟩) hC.2.2.1 (fun q _ h => hFc q h) hFc (fun r1 u9 t9 H1 locs ht hvm hw hB hz1 hk1 hS => ?_)
  obtain ⟨⟨hP1, hK1, hD1⟩, hsz1⟩ := hB
  rw [ht] at hP1 hsz1
  have hC := cBack (σ' := σ) hC he9 (cSelf he9) (Eq.refl (CS.hs σ)) hk1 hP1 hsz1 hS
  generalize H1 = H at hC ⊢
  obtain rfl : r1 = (gAt (σ.a 60) 600 ((σ.i 65) - 1)) := hw
  refine lv_if_eq (tgt := 20) hx hb dX3_keep_13 (by decide) (fun c2 => ?_) (fun c2 => ?_)
  ·
    replace hf := (if_pos c2).symm.trans hf
    refine lv_iconst (v := 0) hx hb dX3_keep_20 (by decide) ?_
    refine lv_istore_n (lv' := [(3, .int 0), (0, .ref (Q.o 7)), (1, .int x1), (2, .int x2)]) hx hb dX3_keep_21 rfl hl (by decide) rfl (fun ls hl => ?_)
    exact j_X3_keep_22 l dC dI Q N (CS.hs σ) R hx hb hr hml hown hts hlocks hZ hA hK σ x1 x2 0 _ _ _ hf h0 hC (lv_sub hl [1, 2, 3, 0] rfl)
  ·
    replace hf := (if_neg c2).symm.trans hf
    refine lv_iconst (v := 1) hx hb dX3_keep_16 (by decide) ?_
    refine lv_goto (tgt := 21) hx hb dX3_keep_17 (by decide) ?_
    refine lv_istore_n (lv' := [(3, .int 1), (0, .ref (Q.o 7)), (1, .int x1), (2, .int x2)]) hx hb dX3_keep_21 rfl hl (by decide) rfl (fun ls hl => ?_)
    exact j_X3_keep_22 l dC dI Q N (CS.hs σ) R hx hb hr hml hown hts hlocks hZ hA hK σ x1 x2 1 _ _ _ hf h0 hC (lv_sub hl [1, 2, 3, 0] rfl)
theorem k_X3_compareCase_fieldLink_RX3_15_SR_Machine_values_I : Cond.fieldLink RX3 15 "StatementRules2$Machine" "values" "[I" ∈ wzX3_compareCase := List.mem_cons_of_mem _ (List.mem_append_left _ (List.mem_of_getElem? (i := 0) rfl))
theorem i_X3_compareCase_X3 : ∀ w ∈ wsX30, w ∈ wzX3_compareCase := fun _ h => List.mem_cons_of_mem _ (List.mem_append_right _ (List.mem_append_left _ (h)))
theorem k_X3_compareCase_fieldLink_RX3_54_SR_Machine_height_I : Cond.fieldLink RX3 54 "StatementRules2$Machine" "height" "I" ∈ wzX3_compareCase := List.mem_cons_of_mem _ (List.mem_append_left _ (List.mem_of_getElem? (i := 1) rfl))
theorem k_X3_compareCase_initialized_RX11 : Cond.initialized RX11 ∈ wzX3_compareCase := List.mem_cons_of_mem _ (List.mem_append_left _ (List.mem_of_getElem? (i := 2) rfl))
theorem k_X3_compareCase_static_yX11_at : Cond.static yX11_at ∈ wzX3_compareCase := List.mem_cons_of_mem _ (List.mem_append_left _ (List.mem_of_getElem? (i := 3) rfl))
theorem k_X3_compareCase_fieldLink_RX3_40_SR_Machine_code_LSR_Code : Cond.fieldLink RX3 40 "StatementRules2$Machine" "code" "LStatementRules2$Code;" ∈ wzX3_compareCase := List.mem_cons_of_mem _ (List.mem_append_left _ (List.mem_of_getElem? (i := 4) rfl))
theorem i_X3_compareCase_X0 : ∀ w ∈ wsX00, w ∈ wzX3_compareCase := fun _ h => List.mem_cons_of_mem _ (List.mem_append_right _ (List.mem_append_right _ (List.mem_append_left _ (h))))
theorem k_X3_compareCase_fieldLink_RX3_57_SR_Machine_place_I : Cond.fieldLink RX3 57 "StatementRules2$Machine" "place" "I" ∈ wzX3_compareCase := List.mem_cons_of_mem _ (List.mem_append_left _ (List.mem_of_getElem? (i := 5) rfl))
set_option maxHeartbeats 4000000 in
set_option maxRecDepth 100000 in
theorem c_X3_compareCase (l : Launch) (dC : Nat → ClassId) (dI : Nat → Nat → Nat) (Q : CQ) (N : Nat) (σ : CS) (x1 : Int32) (R : Unit × CS) (hf : f_X3_compareCase N σ x1 = some R) : Met l yX3_compareCase wzX3_compareCase ({ frames := 3, cells := CS.hs R.2 - CS.hs σ, slots := 17 * (CS.hs R.2 - CS.hs σ), locals := 60 * 3 }) (va_Pc [.ref (Q.o 7), .int x1] (zPre dC dI (CS.hs σ) (cW Q σ) (cT Q))) (va_Qv (fun (_ : Unit) => True) (fun (_ : Unit) (t : State) => zPost dC dI (va_A (cW Q σ) (CS.hs σ)) (cW Q R.2) (cT Q) t ∧ t.heap.size = CS.hs R.2) (va_A (cW Q σ) (CS.hs σ))) (CS.hs R.2 - CS.hs σ) (17 * (CS.hs R.2 - CS.hs σ)) (va_A (cW Q σ) (CS.hs σ)) := by
  refine Met.ofW (cc := cX3_compareCase) (maxL := 3) (ret := none) (by decide) rfl ?_
  intro p e s m args below meth c s₁ B hml hv
  obtain ⟨rfl, hsz, hZ, hP, hK, hD0⟩ := hv
  have hx := B.exec
  have hb := B.bytes
  have hr := B.returns
  have hts := atoms_spec (ws := wzX3_compareCase) B.pre
  have hown : s.vm.findClass RX3 = some m.cls := findClass_of_methodNamed B.named
  have hlocks := B.notSynchronized
  have hD := hD0.self (sz := CS.hs σ)
  generalize hAe : va_A (cW Q σ) (CS.hs σ) = A at hD ⊢
  have hA : ∀ q : Nat, s.heap.size ≤ q → A q := fun q h => by rw [← hAe]; exact Or.inr (hsz ▸ h)
  have hC : CP dC dI Q A s.heap σ s.heap [] := ⟨hP, hD, va_S.rf, hsz⟩
  have h0 : CS.hs σ ≤ CS.hs σ := Nat.le_refl _
  have hl := lv_entry ([.ref (Q.o 7), .int x1]) (n := 3) (Nat.le_of_ble_eq_true rfl)
  rw [lg_entry_eq]
  generalize (lg_sl ([.ref (Q.o 7), .int x1]) ++ List.replicate (3 - (lg_sl ([.ref (Q.o 7), .int x1])).length) Slot.unset).toArray = ls at hl ⊢
  have hl : lv_has ls 3 [(0, .ref (Q.o 7)), (1, .int x1)] := hl
  unfold f_X3_compareCase at hf
  refine W.widen (k := CS.hs σ - CS.hs σ) (n := 17 * (CS.hs σ - CS.hs σ)) (Nat.zero_le _) (Nat.zero_le _) ?_
  refine lv_aload_n hx hb dX3_compareCase_0 rfl (lv_at hl 0 rfl) ?_
  obtain ⟨p1, hcp1, hf⟩ := hf_bind hf
  have mo2 : CS.hs σ ≤ CS.hs p1.2 := Mono.go hcp1 (m_X3_pop N σ)
  have hr9 : CS.hs p1.2 ≤ CS.hs R.2 := Mono.go hf (mono_ite (mono_bind (m_X3_pop N p1.2) (fun p7 => (mono_some (Nat.le_refl _)))) (mono_some (Nat.le_refl _)))
  have hFc := cFree hC hA
  refine va_calli (va_runV (As := []) (rest := []) ⟨hx, hb, hml, hown, hts⟩ (c_X3_pop l dC dI Q N σ p1 hcp1) (cwV 0 hts hX3_compareCase_X3_pop_v138 rfl rfl rfl (by decide +kernel) ⟨(show 2 + 1 ≤ 3 by omega), (show 8 + (1 + 11) + 60 * 2 ≤ 60 * 3 by omega)⟩) ⟨zPre.blind, va_recv hK hC.1 (ci := 2) (q0 := 7) rfl rfl, cPre_go hZ hK hC⟩ rfl rfl hl.1 rfl (lv_room (Nat.le_of_ble_eq_true rfl)) dX3_compareCase_1 (cAcc h0 mo2 hr9)) hC.2.2.1 (fun q _ h => hFc q h) hFc (fun r3 u9 t9 H1 locs ht hvm hw hB hz1 hk1 hS => ?_)
  obtain ⟨⟨hP, hK1, hD1⟩, hsz1⟩ := hB
  rw [ht] at hP hsz1
  have hC : CP dC dI Q A s.heap p1.2 H1 locs := ⟨hP, hD1.weaken (fun _ _ _ h => hFc _ h), hS, hsz1⟩
  generalize H1 = H at hC ⊢
  have h4 : (CS.hs σ) ≤ CS.hs p1.2 := Nat.le_trans h0 mo2
  refine W.widen (k := CS.hs p1.2 - (CS.hs σ)) (n := 17 * (CS.hs p1.2 - (CS.hs σ))) (cAcc2 h0 mo2) (cAcc3 h0 mo2) ?_
  obtain rfl : r3 = p1.1 := hw
  refine lv_istore_n (lv' := [(2, .int p1.1), (0, .ref (Q.o 7)), (1, .int x1)]) hx hb dX3_compareCase_4 rfl hl (by decide) rfl (fun ls hl => ?_)
  refine lv_aload_n hx hb dX3_compareCase_5 rfl (lv_at hl 1 rfl) ?_
  refine cG_60 hx hb hts i_X3_compareCase_X3 hown hK hC (hts (.fieldLink RX3 15 "StatementRules2$Machine" "values" "[I") k_X3_compareCase_fieldLink_RX3_15_SR_Machine_values_I) (fun _ q9 => q9) dX3_compareCase_6 ?_
  refine lv_aload_n hx hb dX3_compareCase_9 rfl (lv_at hl 1 rfl) ?_
  refine cG_65 (v := (p1.2.i 65)) hx hb hts i_X3_compareCase_X3 hown hK hC (hts (.fieldLink RX3 54 "StatementRules2$Machine" "height" "I") k_X3_compareCase_fieldLink_RX3_54_SR_Machine_height_I) (fun _ q9 => q9) dX3_compareCase_10 rfl ?_
  refine lv_iconst (v := 1) hx hb dX3_compareCase_13 (by decide) ?_
  refine lv_isub hx hb dX3_compareCase_14 ?_
  have he9 := (cArr_60 (Q := Q) (σ := p1.2))
  have hFc := cFree1 hC hA he9
  have hr9 : CS.hs p1.2 ≤ CS.hs R.2 := Mono.go hf (mono_ite (mono_bind (m_X3_pop N p1.2) (fun p7 => (mono_some (Nat.le_refl _)))) (mono_some (Nat.le_refl _)))
  refine va_calli (va_runSN (As := [.ref (Q.q 60), .int ((p1.2.i 65) - 1)]) (rest := []) ⟨hx, hb, hml, hown, hts⟩ (c_X11_at l dC dI _ (Q.q 60) (Q.c 0) 600 (p1.2.a 60) ((p1.2.i 65) - 1) (by decide)) ⟨va_cnB 2 hts hX3_compareCase_X11_at_n111 rfl rfl rfl (hZ.1 (.methodLinkNest RX3 111 yX11_at "StatementRules2") (by decide +kernel)) (hts (.initialized RX11) k_X3_compareCase_initialized_RX11) (by decide +kernel) ⟨(show 1 + 1 ≤ 3 by omega), (show 8 + (2 + 11) + 60 * 1 ≤ 60 * 3 by omega)⟩, (hts (.static yX11_at) k_X3_compareCase_static_yX11_at), trivial⟩ ⟨zPre.blind, zPre.go hZ (cOne hC.1 he9) (hK.sub (tys' := [(Q.c 0, .int)]) [0] rfl) (cOneD hC.2.1 he9)⟩ rfl rfl hl.1 rfl (lv_room (Nat.le_of_ble_eq_true rfl)) dX3_compareCase_15 ⟨cAcc4 h4 hr9, cAcc5 h4 hr9⟩) hC.2.2.1 (fun q _ h => hFc q h) hFc (fun r5 u9 t9 H1 locs ht hvm hw hB hz1 hk1 hS => ?_)
  obtain ⟨⟨hP1, hK1, hD1⟩, hsz1⟩ := hB
  rw [ht] at hP1 hsz1
  have hC := cBack (σ' := p1.2) hC he9 (cSelf he9) (Eq.refl (CS.hs p1.2)) hk1 hP1 hsz1 hS
  generalize H1 = H at hC ⊢
  obtain rfl : r5 = (gAt (p1.2.a 60) 600 ((p1.2.i 65) - 1)) := hw
  refine lv_iload_n hx hb dX3_compareCase_18 rfl (lv_at hl 0 rfl) ?_
  refine lv_icmp_ne (tgt := 42) hx hb dX3_compareCase_19 (by decide) (fun c6 => ?_) (fun c6 => ?_)
  ·
    replace hf := (if_neg c6).symm.trans hf
    obtain rfl := Option.some.inj hf
    exact W.vret hx hb hr (fun t ht hW => ⟨⟨(), rfl, trivial, ⟨by rw [ht]; exact hC.1, va_K.moved hW.alike hK, hC.2.1⟩, by rw [ht]; exact hC.2.2.2⟩, hC.2.2.1.F ht⟩) hC.2.2.1.2.2 dX3_compareCase_42
  ·
    replace hf := (if_pos c6).symm.trans hf
    refine lv_aload_n hx hb dX3_compareCase_22 rfl (lv_at hl 1 rfl) ?_
    obtain ⟨p7, hcp7, hf⟩ := hf_bind hf
    have mo8 : CS.hs p1.2 ≤ CS.hs p7.2 := Mono.go hcp7 (m_X3_pop N p1.2)
    have hr9 : CS.hs p7.2 ≤ CS.hs R.2 := Mono.go hf (mono_some (Nat.le_refl _))
    have hFc := cFree hC hA
    refine va_calli (va_runV (As := []) (rest := []) ⟨hx, hb, hml, hown, hts⟩ (c_X3_pop l dC dI Q N p1.2 p7 hcp7) (cwV 0 hts hX3_compareCase_X3_pop_v138 rfl rfl rfl (by decide +kernel) ⟨(show 2 + 1 ≤ 3 by omega), (show 8 + (1 + 11) + 60 * 2 ≤ 60 * 3 by omega)⟩) ⟨zPre.blind, va_recv hK hC.1 (ci := 2) (q0 := 7) rfl rfl, cPre_go hZ hK hC⟩ rfl rfl hl.1 rfl (lv_room (Nat.le_of_ble_eq_true rfl)) dX3_compareCase_23 (cAcc h4 mo8 hr9)) hC.2.2.1 (fun q _ h => hFc q h) hFc (fun r9 u9 t9 H1 locs ht hvm hw hB hz1 hk1 hS => ?_)
    obtain ⟨⟨hP, hK1, hD1⟩, hsz1⟩ := hB
    rw [ht] at hP hsz1
    have hC : CP dC dI Q A s.heap p7.2 H1 locs := ⟨hP, hD1.weaken (fun _ _ _ h => hFc _ h), hS, hsz1⟩
    generalize H1 = H at hC ⊢
    have h10 : (CS.hs σ) ≤ CS.hs p7.2 := Nat.le_trans h4 mo8
    refine W.widen (k := CS.hs p7.2 - (CS.hs σ)) (n := 17 * (CS.hs p7.2 - (CS.hs σ))) (cAcc2 h4 mo8) (cAcc3 h4 mo8) ?_
    obtain rfl : r9 = p7.1 := hw
    refine lv_pop hx hb dX3_compareCase_26 rfl ?_
    refine lv_aload_n hx hb dX3_compareCase_27 rfl (lv_at hl 1 rfl) ?_
    refine lv_aload_n hx hb dX3_compareCase_28 rfl (lv_at hl 1 rfl) ?_
    refine cG_58 hx hb hts i_X3_compareCase_X3 hown hK hC (hts (.fieldLink RX3 40 "StatementRules2$Machine" "code" "LStatementRules2$Code;") k_X3_compareCase_fieldLink_RX3_40_SR_Machine_code_LSR_Code) (fun _ q9 => q9) dX3_compareCase_29 ?_
    refine cGN_17 hx hb hts i_X3_compareCase_X0 hown hK hC (va_Nw.use rfl (hZ.1 (.fieldLinkNest RX3 153 "StatementRules2$Code" "targets" "[I" "StatementRules2") (by decide +kernel))) (fun _ q9 => q9) dX3_compareCase_32 ?_
    refine lv_iload_n hx hb dX3_compareCase_35 rfl (lv_at hl 2 rfl) ?_
    have he9 := (cArr_17 (Q := Q) (σ := p7.2))
    have hFc := cFree1 hC hA he9
    have hr9 : CS.hs p7.2 ≤ CS.hs R.2 := Mono.go hf (mono_some (Nat.le_refl _))
    refine va_calli (va_runSN (As := [.ref (Q.q 17), .int x1]) (rest := [.ref (Q.o 7)]) ⟨hx, hb, hml, hown, hts⟩ (c_X11_at l dC dI _ (Q.q 17) (Q.c 0) 1024 (p7.2.a 17) x1 (by decide)) ⟨va_cnB 2 hts hX3_compareCase_X11_at_n111 rfl rfl rfl (hZ.1 (.methodLinkNest RX3 111 yX11_at "StatementRules2") (by decide +kernel)) (hts (.initialized RX11) k_X3_compareCase_initialized_RX11) (by decide +kernel) ⟨(show 1 + 1 ≤ 3 by omega), (show 8 + (2 + 11) + 60 * 1 ≤ 60 * 3 by omega)⟩, (hts (.static yX11_at) k_X3_compareCase_static_yX11_at), trivial⟩ ⟨zPre.blind, zPre.go hZ (cOne hC.1 he9) (hK.sub (tys' := [(Q.c 0, .int)]) [0] rfl) (cOneD hC.2.1 he9)⟩ rfl rfl hl.1 rfl (lv_room (Nat.le_of_ble_eq_true rfl)) dX3_compareCase_36 ⟨cAcc4 h10 hr9, cAcc5 h10 hr9⟩) hC.2.2.1 (fun q _ h => hFc q h) hFc (fun r11 u9 t9 H1 locs ht hvm hw hB hz1 hk1 hS => ?_)
    obtain ⟨⟨hP1, hK1, hD1⟩, hsz1⟩ := hB
    rw [ht] at hP1 hsz1
    have hC := cBack (σ' := p7.2) hC he9 (cSelf he9) (Eq.refl (CS.hs p7.2)) hk1 hP1 hsz1 hS
    generalize H1 = H at hC ⊢
    obtain rfl : r11 = (gAt (p7.2.a 17) 1024 x1) := hw
    refine cP_66 (v := (gAt (p7.2.a 17) 1024 x1)) hx hb hts i_X3_compareCase_X3 hown hK hC (hts (.fieldLink RX3 57 "StatementRules2$Machine" "place" "I") k_X3_compareCase_fieldLink_RX3_57_SR_Machine_place_I) (fun _ q9 => q9) dX3_compareCase_39 (fun H locs hC => ?_)
    obtain rfl := Option.some.inj hf
    exact W.vret hx hb hr (fun t ht hW => ⟨⟨(), rfl, trivial, ⟨by rw [ht]; exact hC.1, va_K.moved hW.alike hK, hC.2.1⟩, by rw [ht]; exact hC.2.2.2⟩, hC.2.2.1.F ht⟩) hC.2.2.1.2.2 dX3_compareCase_42
theorem k_X3_fillRow_fieldLink_RX3_9_SR_Machine_cells_I : Cond.fieldLink RX3 9 "StatementRules2$Machine" "cells" "[I" ∈ wzX3_fillRow := List.mem_cons_of_mem _ (List.mem_append_left _ (List.mem_of_getElem? (i := 0) rfl))
theorem i_X3_fillRow_X3 : ∀ w ∈ wsX30, w ∈ wzX3_fillRow := fun _ h => List.mem_cons_of_mem _ (List.mem_append_right _ (List.mem_append_left _ (h)))
theorem k_X3_fillRow_initialized_RX11 : Cond.initialized RX11 ∈ wzX3_fillRow := List.mem_cons_of_mem _ (List.mem_append_left _ (List.mem_of_getElem? (i := 1) rfl))
theorem k_X3_fillRow_static_yX11_put : Cond.static yX11_put ∈ wzX3_fillRow := List.mem_cons_of_mem _ (List.mem_append_left _ (List.mem_of_getElem? (i := 2) rfl))
set_option maxHeartbeats 4000000 in
set_option maxRecDepth 100000 in
theorem j_X3_fillRow_29 {p : Program} {e : Env} {s : State} {m : MethodId} {args : Array Value} {below : List Frame} {meth : Method} {c : Code} {A : Nat → Prop} (l : Launch) (dC : Nat → ClassId) (dI : Nat → Nat → Nat) (Q : CQ) (N : Nat) (z9h : Nat) (R : Unit × CS) (hx : p.tables.exec = Jvm.exec) (hb : c.code = cX3_fillRow) (hr : meth.sig.returnType = none) (hml : c.maxLocals = 4) (hown : s.vm.findClass RX3 = some m.cls) (hts : ∀ w ∈ wzX3_fillRow, w.before args s = true) (hlocks : meth.locks = false) (hZ : zAMB s) (hA : ∀ q : Nat, s.heap.size ≤ q → A q) (hK : va_K (dC, dI) vwCl (cT Q) s) : ∀ (n9 : Nat), ∀ (σ : CS) (x1 : Int32) (x3 : Int32) (H : Heap) (locs : List Loc) (ls : Array Slot), f_X3_fillRow_29 N n9 σ x1 x3 = some R → z9h ≤ CS.hs σ → CP dC dI Q A s.heap σ H locs → lv_has ls 4 [(0, .ref (Q.o 7)), (1, .int x1), (3, .int x3)] → W p l e ({ frames := 3, cells := CS.hs R.2 - z9h, slots := 17 * (CS.hs R.2 - z9h), locals := 60 * 3 }) s m args below meth c H locs (CS.hs σ - z9h) (17 * (CS.hs σ - z9h)) (MQ below (va_Qv (fun (_ : Unit) => True) (fun (_ : Unit) (t : State) => zPost dC dI A (cW Q R.2) (cT Q) t ∧ t.heap.size = CS.hs R.2) A) args s (CS.hs R.2 - z9h) (17 * (CS.hs R.2 - z9h)) A) (F0 m 29 ls []) := by
  intro n9
  induction n9 with
  | zero => intro σ x1 x3 H locs ls hf; exact absurd hf (by intro q9; cases q9)
  | succ n9 ih =>
    intro σ x1 x3 H locs ls hf h0 hC hl
    replace hf : b_X3_fillRow_29 N (f_X3_fillRow_29 N n9) σ x1 x3 = some R := hf
    unfold b_X3_fillRow_29 at hf
    have hMK := fun (σ : CS) (x1 : Int32) (x3 : Int32) => m_X3_fillRow_29 N n9 σ x1 x3
    refine lv_iload_n hx hb dX3_fillRow_29 rfl (lv_at hl 2 rfl) ?_
    refine lv_if_lt (tgt := 55) hx hb dX3_fillRow_30 (by decide) (fun c5 => ?_) (fun c5 => ?_)
    ·
      replace hf := (if_pos c5).symm.trans hf
      obtain rfl := Option.some.inj hf
      exact W.vret hx hb hr (fun t ht hW => ⟨⟨(), rfl, trivial, ⟨by rw [ht]; exact hC.1, va_K.moved hW.alike hK, hC.2.1⟩, by rw [ht]; exact hC.2.2.2⟩, hC.2.2.1.F ht⟩) hC.2.2.1.2.2 dX3_fillRow_55
    ·
      replace hf := (if_neg c5).symm.trans hf
      refine lv_aload_n hx hb dX3_fillRow_33 rfl (lv_at hl 0 rfl) ?_
      refine cG_59 hx hb hts i_X3_fillRow_X3 hown hK hC (hts (.fieldLink RX3 9 "StatementRules2$Machine" "cells" "[I") k_X3_fillRow_fieldLink_RX3_9_SR_Machine_cells_I) (fun _ q9 => q9) dX3_fillRow_34 ?_
      refine lv_iload_n hx hb dX3_fillRow_37 rfl (lv_at hl 1 rfl) ?_
      refine lv_iconst (v := 2) hx hb dX3_fillRow_38 (by decide) ?_
      refine lv_iadd hx hb dX3_fillRow_39 ?_
      refine lv_iload_n hx hb dX3_fillRow_40 rfl (lv_at hl 2 rfl) ?_
      refine lv_iadd hx hb dX3_fillRow_41 ?_
      refine lv_aload_n hx hb dX3_fillRow_42 rfl (lv_at hl 0 rfl) ?_
      obtain ⟨p6, hcp6, hf⟩ := hf_bind hf
      have mo7 : CS.hs σ ≤ CS.hs p6.2 := Mono.go hcp6 (m_X3_pop N σ)
      have hr9 : CS.hs p6.2 ≤ CS.hs R.2 := Mono.go hf (hMK (CS.putA p6.2 59 (gPut (p6.2.a 59) 720 ((x1 + 2) + x3) p6.1)) x1 (x3 + (-1)))
      have hFc := cFree hC hA
      refine va_calli (va_runV (As := []) (rest := [.int ((x1 + 2) + x3), .ref (Q.q 59)]) ⟨hx, hb, hml, hown, hts⟩ (c_X3_pop l dC dI Q N σ p6 hcp6) (cwV 0 hts hX3_fillRow_X3_pop_v138 rfl rfl rfl (by decide +kernel) ⟨(show 2 + 1 ≤ 3 by omega), (show 8 + (1 + 11) + 60 * 2 ≤ 60 * 3 by omega)⟩) ⟨zPre.blind, va_recv hK hC.1 (ci := 2) (q0 := 7) rfl rfl, cPre_go hZ hK hC⟩ rfl rfl hl.1 rfl (lv_room (Nat.le_of_ble_eq_true rfl)) dX3_fillRow_43 (cAcc h0 mo7 hr9)) hC.2.2.1 (fun q _ h => hFc q h) hFc (fun r8 u9 t9 H1 locs ht hvm hw hB hz1 hk1 hS => ?_)
      obtain ⟨⟨hP, hK1, hD1⟩, hsz1⟩ := hB
      rw [ht] at hP hsz1
      have hC : CP dC dI Q A s.heap p6.2 H1 locs := ⟨hP, hD1.weaken (fun _ _ _ h => hFc _ h), hS, hsz1⟩
      generalize H1 = H at hC ⊢
      have h9 : z9h ≤ CS.hs p6.2 := Nat.le_trans h0 mo7
      refine W.widen (k := CS.hs p6.2 - z9h) (n := 17 * (CS.hs p6.2 - z9h)) (cAcc2 h0 mo7) (cAcc3 h0 mo7) ?_
      obtain rfl : r8 = p6.1 := hw
      have he9 := (cArr_59 (Q := Q) (σ := p6.2))
      have hFc := cFree1 hC hA he9
      have hr9 : CS.hs p6.2 ≤ CS.hs R.2 := Mono.go hf (hMK (CS.putA p6.2 59 (gPut (p6.2.a 59) 720 ((x1 + 2) + x3) p6.1)) x1 (x3 + (-1)))
      refine va_callv (va_runSN (As := [.ref (Q.q 59), .int ((x1 + 2) + x3), .int p6.1]) (rest := []) ⟨hx, hb, hml, hown, hts⟩ (c_X11_put l dC dI _ (Q.q 59) (Q.c 0) 720 (p6.2.a 59) ((x1 + 2) + x3) p6.1 (by decide)) ⟨va_cnB 3 hts hX3_fillRow_X11_put_n50 rfl rfl rfl (hZ.1 (.methodLinkNest RX3 50 yX11_put "StatementRules2") (by decide +kernel)) (hts (.initialized RX11) k_X3_fillRow_initialized_RX11) (by decide +kernel) ⟨(show 1 + 1 ≤ 3 by omega), (show 8 + (3 + 11) + 60 * 1 ≤ 60 * 3 by omega)⟩, (hts (.static yX11_put) k_X3_fillRow_static_yX11_put), trivial⟩ ⟨zPre.blind, zPre.go hZ (cOne hC.1 he9) (hK.sub (tys' := [(Q.c 0, .int)]) [0] rfl) (cOneD hC.2.1 he9)⟩ rfl rfl hl.1 rfl (lv_room (Nat.le_of_ble_eq_true rfl)) dX3_fillRow_46 ⟨cAcc4 h9 hr9, cAcc5 h9 hr9⟩) hC.2.2.1 (fun q _ h => hFc q h) hFc (fun u9 t9 H1 locs ht hvm hw hB hz1 hk1 hS => ?_)
      obtain ⟨⟨hP1, hK1, hD1⟩, hsz1⟩ := hB
      rw [ht] at hP1 hsz1
      have hC := cBack (σ' := CS.putA p6.2 59 (gPut (p6.2.a 59) 720 ((x1 + 2) + x3) p6.1)) hC he9 cPutA_59 (cPutA_h _ _ _) hk1 hP1 hsz1 hS
      generalize H1 = H at hC ⊢
      refine lv_iinc (v := (x3 + (-1))) (lv' := [(3, .int (x3 + (-1))), (0, .ref (Q.o 7)), (1, .int x1)]) hx hb dX3_fillRow_49 hl (k := 2) rfl rfl (by decide) rfl (fun ls hl => ?_)
      refine lv_goto (tgt := 29) hx hb dX3_fillRow_52 (by decide) ?_
      exact ih (CS.putA p6.2 59 (gPut (p6.2.a 59) 720 ((x1 + 2) + x3) p6.1)) x1 (x3 + (-1)) _ _ _ hf h9 hC (lv_sub hl [1, 2, 0] rfl)
set_option maxHeartbeats 4000000 in
set_option maxRecDepth 100000 in
theorem c_X3_fillRow (l : Launch) (dC : Nat → ClassId) (dI : Nat → Nat → Nat) (Q : CQ) (N : Nat) (σ : CS) (x1 : Int32) (R : Unit × CS) (hf : f_X3_fillRow N σ x1 = some R) : Met l yX3_fillRow wzX3_fillRow ({ frames := 3, cells := CS.hs R.2 - CS.hs σ, slots := 17 * (CS.hs R.2 - CS.hs σ), locals := 60 * 3 }) (va_Pc [.ref (Q.o 7), .int x1] (zPre dC dI (CS.hs σ) (cW Q σ) (cT Q))) (va_Qv (fun (_ : Unit) => True) (fun (_ : Unit) (t : State) => zPost dC dI (va_A (cW Q σ) (CS.hs σ)) (cW Q R.2) (cT Q) t ∧ t.heap.size = CS.hs R.2) (va_A (cW Q σ) (CS.hs σ))) (CS.hs R.2 - CS.hs σ) (17 * (CS.hs R.2 - CS.hs σ)) (va_A (cW Q σ) (CS.hs σ)) := by
  refine Met.ofW (cc := cX3_fillRow) (maxL := 4) (ret := none) (by decide) rfl ?_
  intro p e s m args below meth c s₁ B hml hv
  obtain ⟨rfl, hsz, hZ, hP, hK, hD0⟩ := hv
  have hx := B.exec
  have hb := B.bytes
  have hr := B.returns
  have hts := atoms_spec (ws := wzX3_fillRow) B.pre
  have hown : s.vm.findClass RX3 = some m.cls := findClass_of_methodNamed B.named
  have hlocks := B.notSynchronized
  have hD := hD0.self (sz := CS.hs σ)
  generalize hAe : va_A (cW Q σ) (CS.hs σ) = A at hD ⊢
  have hA : ∀ q : Nat, s.heap.size ≤ q → A q := fun q h => by rw [← hAe]; exact Or.inr (hsz ▸ h)
  have hC : CP dC dI Q A s.heap σ s.heap [] := ⟨hP, hD, va_S.rf, hsz⟩
  have h0 : CS.hs σ ≤ CS.hs σ := Nat.le_refl _
  have hl := lv_entry ([.ref (Q.o 7), .int x1]) (n := 4) (Nat.le_of_ble_eq_true rfl)
  rw [lg_entry_eq]
  generalize (lg_sl ([.ref (Q.o 7), .int x1]) ++ List.replicate (4 - (lg_sl ([.ref (Q.o 7), .int x1])).length) Slot.unset).toArray = ls at hl ⊢
  have hl : lv_has ls 4 [(0, .ref (Q.o 7)), (1, .int x1)] := hl
  unfold f_X3_fillRow at hf
  refine W.widen (k := CS.hs σ - CS.hs σ) (n := 17 * (CS.hs σ - CS.hs σ)) (Nat.zero_le _) (Nat.zero_le _) ?_
  refine lv_aload_n hx hb dX3_fillRow_0 rfl (lv_at hl 0 rfl) ?_
  obtain ⟨p1, hcp1, hf⟩ := hf_bind hf
  have mo2 : CS.hs σ ≤ CS.hs p1.2 := Mono.go hcp1 (m_X3_pop N σ)
  have hr9 : CS.hs p1.2 ≤ CS.hs R.2 := Mono.go hf (m_X3_fillRow_29 N N (CS.putA (CS.putA p1.2 59 (gPut (p1.2.a 59) 720 x1 0)) 59 (gPut (CS.a (CS.putA p1.2 59 (gPut (p1.2.a 59) 720 x1 0)) 59) 720 (x1 + 1) p1.1)) x1 (p1.1 - 1))
  have hFc := cFree hC hA
  refine va_calli (va_runV (As := []) (rest := []) ⟨hx, hb, hml, hown, hts⟩ (c_X3_pop l dC dI Q N σ p1 hcp1) (cwV 0 hts hX3_fillRow_X3_pop_v138 rfl rfl rfl (by decide +kernel) ⟨(show 2 + 1 ≤ 3 by omega), (show 8 + (1 + 11) + 60 * 2 ≤ 60 * 3 by omega)⟩) ⟨zPre.blind, va_recv hK hC.1 (ci := 2) (q0 := 7) rfl rfl, cPre_go hZ hK hC⟩ rfl rfl hl.1 rfl (lv_room (Nat.le_of_ble_eq_true rfl)) dX3_fillRow_1 (cAcc h0 mo2 hr9)) hC.2.2.1 (fun q _ h => hFc q h) hFc (fun r3 u9 t9 H1 locs ht hvm hw hB hz1 hk1 hS => ?_)
  obtain ⟨⟨hP, hK1, hD1⟩, hsz1⟩ := hB
  rw [ht] at hP hsz1
  have hC : CP dC dI Q A s.heap p1.2 H1 locs := ⟨hP, hD1.weaken (fun _ _ _ h => hFc _ h), hS, hsz1⟩
  generalize H1 = H at hC ⊢
  have h4 : (CS.hs σ) ≤ CS.hs p1.2 := Nat.le_trans h0 mo2
  refine W.widen (k := CS.hs p1.2 - (CS.hs σ)) (n := 17 * (CS.hs p1.2 - (CS.hs σ))) (cAcc2 h0 mo2) (cAcc3 h0 mo2) ?_
  obtain rfl : r3 = p1.1 := hw
  refine lv_istore_n (lv' := [(2, .int p1.1), (0, .ref (Q.o 7)), (1, .int x1)]) hx hb dX3_fillRow_4 rfl hl (by decide) rfl (fun ls hl => ?_)
  refine lv_aload_n hx hb dX3_fillRow_5 rfl (lv_at hl 1 rfl) ?_
  refine cG_59 hx hb hts i_X3_fillRow_X3 hown hK hC (hts (.fieldLink RX3 9 "StatementRules2$Machine" "cells" "[I") k_X3_fillRow_fieldLink_RX3_9_SR_Machine_cells_I) (fun _ q9 => q9) dX3_fillRow_6 ?_
  refine lv_iload_n hx hb dX3_fillRow_9 rfl (lv_at hl 2 rfl) ?_
  refine lv_iconst (v := 0) hx hb dX3_fillRow_10 (by decide) ?_
  have he9 := (cArr_59 (Q := Q) (σ := p1.2))
  have hFc := cFree1 hC hA he9
  have hr9 : CS.hs p1.2 ≤ CS.hs R.2 := Mono.go hf (m_X3_fillRow_29 N N (CS.putA (CS.putA p1.2 59 (gPut (p1.2.a 59) 720 x1 0)) 59 (gPut (CS.a (CS.putA p1.2 59 (gPut (p1.2.a 59) 720 x1 0)) 59) 720 (x1 + 1) p1.1)) x1 (p1.1 - 1))
  refine va_callv (va_runSN (As := [.ref (Q.q 59), .int x1, .int 0]) (rest := []) ⟨hx, hb, hml, hown, hts⟩ (c_X11_put l dC dI _ (Q.q 59) (Q.c 0) 720 (p1.2.a 59) x1 0 (by decide)) ⟨va_cnB 3 hts hX3_fillRow_X11_put_n50 rfl rfl rfl (hZ.1 (.methodLinkNest RX3 50 yX11_put "StatementRules2") (by decide +kernel)) (hts (.initialized RX11) k_X3_fillRow_initialized_RX11) (by decide +kernel) ⟨(show 1 + 1 ≤ 3 by omega), (show 8 + (3 + 11) + 60 * 1 ≤ 60 * 3 by omega)⟩, (hts (.static yX11_put) k_X3_fillRow_static_yX11_put), trivial⟩ ⟨zPre.blind, zPre.go hZ (cOne hC.1 he9) (hK.sub (tys' := [(Q.c 0, .int)]) [0] rfl) (cOneD hC.2.1 he9)⟩ rfl rfl hl.1 rfl (lv_room (Nat.le_of_ble_eq_true rfl)) dX3_fillRow_11 ⟨cAcc4 h4 hr9, cAcc5 h4 hr9⟩) hC.2.2.1 (fun q _ h => hFc q h) hFc (fun u9 t9 H1 locs ht hvm hw hB hz1 hk1 hS => ?_)
  obtain ⟨⟨hP1, hK1, hD1⟩, hsz1⟩ := hB
  rw [ht] at hP1 hsz1
  have hC := cBack (σ' := CS.putA p1.2 59 (gPut (p1.2.a 59) 720 x1 0)) hC he9 cPutA_59 (cPutA_h _ _ _) hk1 hP1 hsz1 hS
  generalize H1 = H at hC ⊢
  refine lv_aload_n hx hb dX3_fillRow_14 rfl (lv_at hl 1 rfl) ?_
  refine cG_59 hx hb hts i_X3_fillRow_X3 hown hK hC (hts (.fieldLink RX3 9 "StatementRules2$Machine" "cells" "[I") k_X3_fillRow_fieldLink_RX3_9_SR_Machine_cells_I) (fun _ q9 => q9) dX3_fillRow_15 ?_
  refine lv_iload_n hx hb dX3_fillRow_18 rfl (lv_at hl 2 rfl) ?_
  refine lv_iconst (v := 1) hx hb dX3_fillRow_19 (by decide) ?_
  refine lv_iadd hx hb dX3_fillRow_20 ?_
  refine lv_iload_n hx hb dX3_fillRow_21 rfl (lv_at hl 0 rfl) ?_
  have he9 := (cArr_59 (Q := Q) (σ := CS.putA p1.2 59 (gPut (p1.2.a 59) 720 x1 0)))
  have hFc := cFree1 hC hA he9
  have hr9 : CS.hs p1.2 ≤ CS.hs R.2 := Mono.go hf (m_X3_fillRow_29 N N (CS.putA (CS.putA p1.2 59 (gPut (p1.2.a 59) 720 x1 0)) 59 (gPut (CS.a (CS.putA p1.2 59 (gPut (p1.2.a 59) 720 x1 0)) 59) 720 (x1 + 1) p1.1)) x1 (p1.1 - 1))
  refine va_callv (va_runSN (As := [.ref (Q.q 59), .int (x1 + 1), .int p1.1]) (rest := []) ⟨hx, hb, hml, hown, hts⟩ (c_X11_put l dC dI _ (Q.q 59) (Q.c 0) 720 (CS.a (CS.putA p1.2 59 (gPut (p1.2.a 59) 720 x1 0)) 59) (x1 + 1) p1.1 (by decide)) ⟨va_cnB 3 hts hX3_fillRow_X11_put_n50 rfl rfl rfl (hZ.1 (.methodLinkNest RX3 50 yX11_put "StatementRules2") (by decide +kernel)) (hts (.initialized RX11) k_X3_fillRow_initialized_RX11) (by decide +kernel) ⟨(show 1 + 1 ≤ 3 by omega), (show 8 + (3 + 11) + 60 * 1 ≤ 60 * 3 by omega)⟩, (hts (.static yX11_put) k_X3_fillRow_static_yX11_put), trivial⟩ ⟨zPre.blind, zPre.go hZ (cOne hC.1 he9) (hK.sub (tys' := [(Q.c 0, .int)]) [0] rfl) (cOneD hC.2.1 he9)⟩ rfl rfl hl.1 rfl (lv_room (Nat.le_of_ble_eq_true rfl)) dX3_fillRow_22 ⟨cAcc4 h4 hr9, cAcc5 h4 hr9⟩) hC.2.2.1 (fun q _ h => hFc q h) hFc (fun u9 t9 H1 locs ht hvm hw hB hz1 hk1 hS => ?_)
  obtain ⟨⟨hP1, hK1, hD1⟩, hsz1⟩ := hB
  rw [ht] at hP1 hsz1
  have hC := cBack (σ' := CS.putA (CS.putA p1.2 59 (gPut (p1.2.a 59) 720 x1 0)) 59 (gPut (CS.a (CS.putA p1.2 59 (gPut (p1.2.a 59) 720 x1 0)) 59) 720 (x1 + 1) p1.1)) hC he9 cPutA_59 (cPutA_h _ _ _) hk1 hP1 hsz1 hS
  generalize H1 = H at hC ⊢
  refine lv_iload_n hx hb dX3_fillRow_25 rfl (lv_at hl 0 rfl) ?_
  refine lv_iconst (v := 1) hx hb dX3_fillRow_26 (by decide) ?_
  refine lv_isub hx hb dX3_fillRow_27 ?_
  refine lv_istore_n (lv' := [(3, .int (p1.1 - 1)), (2, .int p1.1), (0, .ref (Q.o 7)), (1, .int x1)]) hx hb dX3_fillRow_28 rfl hl (by decide) rfl (fun ls hl => ?_)
  exact j_X3_fillRow_29 l dC dI Q N (CS.hs σ) R hx hb hr hml hown hts hlocks hZ hA hK N (CS.putA (CS.putA p1.2 59 (gPut (p1.2.a 59) 720 x1 0)) 59 (gPut (CS.a (CS.putA p1.2 59 (gPut (p1.2.a 59) 720 x1 0)) 59) 720 (x1 + 1) p1.1)) x1 (p1.1 - 1) _ _ _ hf h4 hC (lv_sub hl [2, 3, 0] rfl)
theorem k_X3_steer_fieldLink_RX3_40_SR_Machine_code_LSR_Code : Cond.fieldLink RX3 40 "StatementRules2$Machine" "code" "LStatementRules2$Code;" ∈ wzX3_steer := List.mem_cons_of_mem _ (List.mem_append_left _ (List.mem_of_getElem? (i := 0) rfl))
theorem i_X3_steer_X3 : ∀ w ∈ wsX30, w ∈ wzX3_steer := fun _ h => List.mem_cons_of_mem _ (List.mem_append_right _ (List.mem_append_left _ (h)))
theorem i_X3_steer_X0 : ∀ w ∈ wsX00, w ∈ wzX3_steer := fun _ h => List.mem_cons_of_mem _ (List.mem_append_right _ (List.mem_append_right _ (List.mem_append_left _ (h))))
theorem k_X3_steer_initialized_RX11 : Cond.initialized RX11 ∈ wzX3_steer := List.mem_cons_of_mem _ (List.mem_append_left _ (List.mem_of_getElem? (i := 1) rfl))
theorem k_X3_steer_static_yX11_at : Cond.static yX11_at ∈ wzX3_steer := List.mem_cons_of_mem _ (List.mem_append_left _ (List.mem_of_getElem? (i := 2) rfl))
theorem k_X3_steer_fieldLink_RX3_57_SR_Machine_place_I : Cond.fieldLink RX3 57 "StatementRules2$Machine" "place" "I" ∈ wzX3_steer := List.mem_cons_of_mem _ (List.mem_append_left _ (List.mem_of_getElem? (i := 3) rfl))
theorem k_X3_steer_fieldLink_RX3_36_SR_Machine_told_LSR_Told : Cond.fieldLink RX3 36 "StatementRules2$Machine" "told" "LStatementRules2$Told;" ∈ wzX3_steer := List.mem_cons_of_mem _ (List.mem_append_left _ (List.mem_of_getElem? (i := 4) rfl))
theorem i_X3_steer_X10 : ∀ w ∈ wsX100, w ∈ wzX3_steer := fun _ h => List.mem_cons_of_mem _ (List.mem_append_right _ (List.mem_append_right _ (List.mem_append_right _ (List.mem_append_left _ (h)))))
theorem k_X3_steer_fieldLink_RX3_9_SR_Machine_cells_I : Cond.fieldLink RX3 9 "StatementRules2$Machine" "cells" "[I" ∈ wzX3_steer := List.mem_cons_of_mem _ (List.mem_append_left _ (List.mem_of_getElem? (i := 5) rfl))
theorem k_X3_steer_static_yX11_put : Cond.static yX11_put ∈ wzX3_steer := List.mem_cons_of_mem _ (List.mem_append_left _ (List.mem_of_getElem? (i := 6) rfl))
set_option maxHeartbeats 4000000 in
set_option maxRecDepth 100000 in
theorem j_X3_steer_83 {p : Program} {e : Env} {s : State} {m : MethodId} {args : Array Value} {below : List Frame} {meth : Method} {c : Code} {A : Nat → Prop} (l : Launch) (dC : Nat → ClassId) (dI : Nat → Nat → Nat) (Q : CQ) (N : Nat) (z9h : Nat) (R : Unit × CS) (hx : p.tables.exec = Jvm.exec) (hb : c.code = cX3_steer) (hr : meth.sig.returnType = none) (hml : c.maxLocals = 3) (hown : s.vm.findClass RX3 = some m.cls) (hts : ∀ w ∈ wzX3_steer, w.before args s = true) (hlocks : meth.locks = false) (hZ : zAMB s) (hA : ∀ q : Nat, s.heap.size ≤ q → A q) (hK : va_K (dC, dI) vwCl (cT Q) s) : ∀ (σ : CS) (H : Heap) (locs : List Loc) (ls : Array Slot), f_X3_steer_83 N σ = some R → z9h ≤ CS.hs σ → CP dC dI Q A s.heap σ H locs → lv_has ls 3 [] → W p l e ({ frames := 4, cells := CS.hs R.2 - z9h, slots := 17 * (CS.hs R.2 - z9h), locals := 60 * 4 }) s m args below meth c H locs (CS.hs σ - z9h) (17 * (CS.hs σ - z9h)) (MQ below (va_Qv (fun (_ : Unit) => True) (fun (_ : Unit) (t : State) => zPost dC dI A (cW Q R.2) (cT Q) t ∧ t.heap.size = CS.hs R.2) A) args s (CS.hs R.2 - z9h) (17 * (CS.hs R.2 - z9h)) A) (F0 m 83 ls []) := by
  intro σ  H locs ls hf h0 hC hl
  unfold f_X3_steer_83 at hf
  refine lv_goto (tgt := 218) hx hb dX3_steer_83 (by decide) ?_
  obtain rfl := Option.some.inj hf
  exact W.vret hx hb hr (fun t ht hW => ⟨⟨(), rfl, trivial, ⟨by rw [ht]; exact hC.1, va_K.moved hW.alike hK, hC.2.1⟩, by rw [ht]; exact hC.2.2.2⟩, hC.2.2.1.F ht⟩) hC.2.2.1.2.2 dX3_steer_218
set_option maxHeartbeats 4000000 in
set_option maxRecDepth 100000 in
theorem j_X3_steer_102 {p : Program} {e : Env} {s : State} {m : MethodId} {args : Array Value} {below : List Frame} {meth : Method} {c : Code} {A : Nat → Prop} (l : Launch) (dC : Nat → ClassId) (dI : Nat → Nat → Nat) (Q : CQ) (N : Nat) (z9h : Nat) (R : Unit × CS) (hx : p.tables.exec = Jvm.exec) (hb : c.code = cX3_steer) (hr : meth.sig.returnType = none) (hml : c.maxLocals = 3) (hown : s.vm.findClass RX3 = some m.cls) (hts : ∀ w ∈ wzX3_steer, w.before args s = true) (hlocks : meth.locks = false) (hZ : zAMB s) (hA : ∀ q : Nat, s.heap.size ≤ q → A q) (hK : va_K (dC, dI) vwCl (cT Q) s) : ∀ (σ : CS) (H : Heap) (locs : List Loc) (ls : Array Slot), f_X3_steer_102 N σ = some R → z9h ≤ CS.hs σ → CP dC dI Q A s.heap σ H locs → lv_has ls 3 [] → W p l e ({ frames := 4, cells := CS.hs R.2 - z9h, slots := 17 * (CS.hs R.2 - z9h), locals := 60 * 4 }) s m args below meth c H locs (CS.hs σ - z9h) (17 * (CS.hs σ - z9h)) (MQ below (va_Qv (fun (_ : Unit) => True) (fun (_ : Unit) (t : State) => zPost dC dI A (cW Q R.2) (cT Q) t ∧ t.heap.size = CS.hs R.2) A) args s (CS.hs R.2 - z9h) (17 * (CS.hs R.2 - z9h)) A) (F0 m 102 ls []) := by
  intro σ  H locs ls hf h0 hC hl
  unfold f_X3_steer_102 at hf
  refine lv_goto (tgt := 218) hx hb dX3_steer_102 (by decide) ?_
  obtain rfl := Option.some.inj hf
  exact W.vret hx hb hr (fun t ht hW => ⟨⟨(), rfl, trivial, ⟨by rw [ht]; exact hC.1, va_K.moved hW.alike hK, hC.2.1⟩, by rw [ht]; exact hC.2.2.2⟩, hC.2.2.1.F ht⟩) hC.2.2.1.2.2 dX3_steer_218
set_option maxHeartbeats 4000000 in
set_option maxRecDepth 100000 in
theorem j_X3_steer_133 {p : Program} {e : Env} {s : State} {m : MethodId} {args : Array Value} {below : List Frame} {meth : Method} {c : Code} {A : Nat → Prop} (l : Launch) (dC : Nat → ClassId) (dI : Nat → Nat → Nat) (Q : CQ) (N : Nat) (z9h : Nat) (R : Unit × CS) (hx : p.tables.exec = Jvm.exec) (hb : c.code = cX3_steer) (hr : meth.sig.returnType = none) (hml : c.maxLocals = 3) (hown : s.vm.findClass RX3 = some m.cls) (hts : ∀ w ∈ wzX3_steer, w.before args s = true) (hlocks : meth.locks = false) (hZ : zAMB s) (hA : ∀ q : Nat, s.heap.size ≤ q → A q) (hK : va_K (dC, dI) vwCl (cT Q) s) : ∀ (σ : CS) (H : Heap) (locs : List Loc) (ls : Array Slot), f_X3_steer_133 N σ = some R → z9h ≤ CS.hs σ → CP dC dI Q A s.heap σ H locs → lv_has ls 3 [] → W p l e ({ frames := 4, cells := CS.hs R.2 - z9h, slots := 17 * (CS.hs R.2 - z9h), locals := 60 * 4 }) s m args below meth c H locs (CS.hs σ - z9h) (17 * (CS.hs σ - z9h)) (MQ below (va_Qv (fun (_ : Unit) => True) (fun (_ : Unit) (t : State) => zPost dC dI A (cW Q R.2) (cT Q) t ∧ t.heap.size = CS.hs R.2) A) args s (CS.hs R.2 - z9h) (17 * (CS.hs R.2 - z9h)) A) (F0 m 133 ls []) := by
  intro σ  H locs ls hf h0 hC hl
  unfold f_X3_steer_133 at hf
  refine lv_goto (tgt := 218) hx hb dX3_steer_133 (by decide) ?_
  obtain rfl := Option.some.inj hf
  exact W.vret hx hb hr (fun t ht hW => ⟨⟨(), rfl, trivial, ⟨by rw [ht]; exact hC.1, va_K.moved hW.alike hK, hC.2.1⟩, by rw [ht]; exact hC.2.2.2⟩, hC.2.2.1.F ht⟩) hC.2.2.1.2.2 dX3_steer_218
set_option maxHeartbeats 4000000 in
set_option maxRecDepth 100000 in
theorem j_X3_steer_174 {p : Program} {e : Env} {s : State} {m : MethodId} {args : Array Value} {below : List Frame} {meth : Method} {c : Code} {A : Nat → Prop} (l : Launch) (dC : Nat → ClassId) (dI : Nat → Nat → Nat) (Q : CQ) (N : Nat) (z9h : Nat) (R : Unit × CS) (hx : p.tables.exec = Jvm.exec) (hb : c.code = cX3_steer) (hr : meth.sig.returnType = none) (hml : c.maxLocals = 3) (hown : s.vm.findClass RX3 = some m.cls) (hts : ∀ w ∈ wzX3_steer, w.before args s = true) (hlocks : meth.locks = false) (hZ : zAMB s) (hA : ∀ q : Nat, s.heap.size ≤ q → A q) (hK : va_K (dC, dI) vwCl (cT Q) s) : ∀ (σ : CS) (H : Heap) (locs : List Loc) (ls : Array Slot), f_X3_steer_174 N σ = some R → z9h ≤ CS.hs σ → CP dC dI Q A s.heap σ H locs → lv_has ls 3 [] → W p l e ({ frames := 4, cells := CS.hs R.2 - z9h, slots := 17 * (CS.hs R.2 - z9h), locals := 60 * 4 }) s m args below meth c H locs (CS.hs σ - z9h) (17 * (CS.hs σ - z9h)) (MQ below (va_Qv (fun (_ : Unit) => True) (fun (_ : Unit) (t : State) => zPost dC dI A (cW Q R.2) (cT Q) t ∧ t.heap.size = CS.hs R.2) A) args s (CS.hs R.2 - z9h) (17 * (CS.hs R.2 - z9h)) A) (F0 m 174 ls []) := by
  intro σ  H locs ls hf h0 hC hl
  unfold f_X3_steer_174 at hf
  refine lv_goto (tgt := 218) hx hb dX3_steer_174 (by decide) ?_
  obtain rfl := Option.some.inj hf
  exact W.vret hx hb hr (fun t ht hW => ⟨⟨(), rfl, trivial, ⟨by rw [ht]; exact hC.1, va_K.moved hW.alike hK, hC.2.1⟩, by rw [ht]; exact hC.2.2.2⟩, hC.2.2.1.F ht⟩) hC.2.2.1.2.2 dX3_steer_218
set_option maxHeartbeats 4000000 in
set_option maxRecDepth 100000 in
theorem c_X3_steer (l : Launch) (dC : Nat → ClassId) (dI : Nat → Nat → Nat) (Q : CQ) (N : Nat) (σ : CS) (x1 : Int32) (x2 : Int32) (R : Unit × CS) (hf : f_X3_steer N σ x1 x2 = some R) : Met l yX3_steer wzX3_steer ({ frames := 4, cells := CS.hs R.2 - CS.hs σ, slots := 17 * (CS.hs R.2 - CS.hs σ), locals := 60 * 4 }) (va_Pc [.ref (Q.o 7), .int x1, .int x2] (zPre dC dI (CS.hs σ) (cW Q σ) (cT Q))) (va_Qv (fun (_ : Unit) => True) (fun (_ : Unit) (t : State) => zPost dC dI (va_A (cW Q σ) (CS.hs σ)) (cW Q R.2) (cT Q) t ∧ t.heap.size = CS.hs R.2) (va_A (cW Q σ) (CS.hs σ))) (CS.hs R.2 - CS.hs σ) (17 * (CS.hs R.2 - CS.hs σ)) (va_A (cW Q σ) (CS.hs σ)) := by
  refine Met.ofW (cc := cX3_steer) (maxL := 3) (ret := none) (by decide) rfl ?_
  intro p e s m args below meth c s₁ B hml hv
  obtain ⟨rfl, hsz, hZ, hP, hK, hD0⟩ := hv
  have hx := B.exec
  have hb := B.bytes
  have hr := B.returns
  have hts := atoms_spec (ws := wzX3_steer) B.pre
  have hown : s.vm.findClass RX3 = some m.cls := findClass_of_methodNamed B.named
  have hlocks := B.notSynchronized
  have hD := hD0.self (sz := CS.hs σ)
  generalize hAe : va_A (cW Q σ) (CS.hs σ) = A at hD ⊢
  have hA : ∀ q : Nat, s.heap.size ≤ q → A q := fun q h => by rw [← hAe]; exact Or.inr (hsz ▸ h)
  have hC : CP dC dI Q A s.heap σ s.heap [] := ⟨hP, hD, va_S.rf, hsz⟩
  have h0 : CS.hs σ ≤ CS.hs σ := Nat.le_refl _
  have hl := lv_entry ([.ref (Q.o 7), .int x1, .int x2]) (n := 3) (Nat.le_of_ble_eq_true rfl)
  rw [lg_entry_eq]
  generalize (lg_sl ([.ref (Q.o 7), .int x1, .int x2]) ++ List.replicate (3 - (lg_sl ([.ref (Q.o 7), .int x1, .int x2])).length) Slot.unset).toArray = ls at hl ⊢
  have hl : lv_has ls 3 [(0, .ref (Q.o 7)), (1, .int x1), (2, .int x2)] := hl
  unfold f_X3_steer at hf
  refine W.widen (k := CS.hs σ - CS.hs σ) (n := 17 * (CS.hs σ - CS.hs σ)) (Nat.zero_le _) (Nat.zero_le _) ?_
  refine lv_iload_n hx hb dX3_steer_0 rfl (lv_at hl 1 rfl) ?_
  by_cases c1 : x1 = 30
  ·
    replace hf := (if_pos c1).symm.trans hf
    refine lv_tableIn (off := 47) (tgt := 48) hx hb dX3_steer_1 (by rw [c1]; decide) (by rw [c1]; decide) (by rw [c1]; decide) (by decide) ?_
    refine lv_aload_n hx hb dX3_steer_48 rfl (lv_at hl 0 rfl) ?_
    refine lv_aload_n hx hb dX3_steer_49 rfl (lv_at hl 0 rfl) ?_
    refine cG_58 hx hb hts i_X3_steer_X3 hown hK hC (hts (.fieldLink RX3 40 "StatementRules2$Machine" "code" "LStatementRules2$Code;") k_X3_steer_fieldLink_RX3_40_SR_Machine_code_LSR_Code) (fun _ q9 => q9) dX3_steer_50 ?_
    refine cGN_17 hx hb hts i_X3_steer_X0 hown hK hC (va_Nw.use rfl (hZ.1 (.fieldLinkNest RX3 153 "StatementRules2$Code" "targets" "[I" "StatementRules2") (by decide +kernel))) (fun _ q9 => q9) dX3_steer_53 ?_
    refine lv_iload_n hx hb dX3_steer_56 rfl (lv_at hl 2 rfl) ?_
    have he9 := (cArr_17 (Q := Q) (σ := σ))
    have hFc := cFree1 hC hA he9
    have hr9 : CS.hs σ ≤ CS.hs R.2 := Mono.go hf (mono_some (Nat.le_refl _))
    refine va_calli (va_runSN (As := [.ref (Q.q 17), .int x2]) (rest := [.ref (Q.o 7)]) ⟨hx, hb, hml, hown, hts⟩ (c_X11_at l dC dI _ (Q.q 17) (Q.c 0) 1024 (σ.a 17) x2 (by decide)) ⟨va_cnB 2 hts hX3_steer_X11_at_n111 rfl rfl rfl (hZ.1 (.methodLinkNest RX3 111 yX11_at "StatementRules2") (by decide +kernel)) (hts (.initialized RX11) k_X3_steer_initialized_RX11) (by decide +kernel) ⟨(show 1 + 1 ≤ 4 by omega), (show 8 + (2 + 11) + 60 * 1 ≤ 60 * 4 by omega)⟩, (hts (.static yX11_at) k_X3_steer_static_yX11_at), trivial⟩ ⟨zPre.blind, zPre.go hZ (cOne hC.1 he9) (hK.sub (tys' := [(Q.c 0, .int)]) [0] rfl) (cOneD hC.2.1 he9)⟩ rfl rfl hl.1 rfl (lv_room (Nat.le_of_ble_eq_true rfl)) dX3_steer_57 ⟨cAcc4 h0 hr9, cAcc5 h0 hr9⟩) hC.2.2.1 (fun q _ h => hFc q h) hFc (fun r2 u9 t9 H1 locs ht hvm hw hB hz1 hk1 hS => ?_)
    obtain ⟨⟨hP1, hK1, hD1⟩, hsz1⟩ := hB
    rw [ht] at hP1 hsz1
    have hC := cBack (σ' := σ) hC he9 (cSelf he9) (Eq.refl (CS.hs σ)) hk1 hP1 hsz1 hS
    generalize H1 = H at hC ⊢
    obtain rfl : r2 = (gAt (σ.a 17) 1024 x2) := hw
    refine cP_66 (v := (gAt (σ.a 17) 1024 x2)) hx hb hts i_X3_steer_X3 hown hK hC (hts (.fieldLink RX3 57 "StatementRules2$Machine" "place" "I") k_X3_steer_fieldLink_RX3_57_SR_Machine_place_I) (fun _ q9 => q9) dX3_steer_60 (fun H locs hC => ?_)
    refine lv_goto (tgt := 218) hx hb dX3_steer_63 (by decide) ?_
    obtain rfl := Option.some.inj hf
    exact W.vret hx hb hr (fun t ht hW => ⟨⟨(), rfl, trivial, ⟨by rw [ht]; exact hC.1, va_K.moved hW.alike hK, hC.2.1⟩, by rw [ht]; exact hC.2.2.2⟩, hC.2.2.1.F ht⟩) hC.2.2.1.2.2 dX3_steer_218
  replace hf := (if_neg c1).symm.trans hf
  by_cases c3 : x1 = 31
  ·
    replace hf := (if_pos c3).symm.trans hf
    refine lv_tableIn (off := 65) (tgt := 66) hx hb dX3_steer_1 (by rw [c3]; decide) (by rw [c3]; decide) (by rw [c3]; decide) (by decide) ?_
    refine lv_aload_n hx hb dX3_steer_66 rfl (lv_at hl 0 rfl) ?_
    refine lv_aload_n hx hb dX3_steer_67 rfl (lv_at hl 0 rfl) ?_
    obtain ⟨p4, hcp4, hf⟩ := hf_bind hf
    have mo5 : CS.hs σ ≤ CS.hs p4.2 := Mono.go hcp4 (m_X3_pop N σ)
    have hr9 : CS.hs p4.2 ≤ CS.hs R.2 := Mono.go hf (mono_ite (mono_bind (m_X3_goIf N p4.2 1 x2) (fun p13 => (m_X3_steer_83 N p13.2))) (mono_bind (m_X3_goIf N p4.2 0 x2) (fun p9 => (m_X3_steer_83 N p9.2))))
    have hFc := cFree hC hA
    refine va_calli (va_runV (As := []) (rest := [.ref (Q.o 7)]) ⟨hx, hb, hml, hown, hts⟩ (c_X3_pop l dC dI Q N σ p4 hcp4) (cwV 0 hts hX3_steer_X3_pop_v138 rfl rfl rfl (by decide +kernel) ⟨(show 2 + 1 ≤ 4 by omega), (show 8 + (1 + 11) + 60 * 2 ≤ 60 * 4 by omega)⟩) ⟨zPre.blind, va_recv hK hC.1 (ci := 2) (q0 := 7) rfl rfl, cPre_go hZ hK hC⟩ rfl rfl hl.1 rfl (lv_room (Nat.le_of_ble_eq_true rfl)) dX3_steer_68 (cAcc h0 mo5 hr9)) hC.2.2.1 (fun q _ h => hFc q h) hFc (fun r6 u9 t9 H1 locs ht hvm hw hB hz1 hk1 hS => ?_)
    obtain ⟨⟨hP, hK1, hD1⟩, hsz1⟩ := hB
    rw [ht] at hP hsz1
    have hC : CP dC dI Q A s.heap p4.2 H1 locs := ⟨hP, hD1.weaken (fun _ _ _ h => hFc _ h), hS, hsz1⟩
    generalize H1 = H at hC ⊢
    have h7 : (CS.hs σ) ≤ CS.hs p4.2 := Nat.le_trans h0 mo5
    refine W.widen (k := CS.hs p4.2 - (CS.hs σ)) (n := 17 * (CS.hs p4.2 - (CS.hs σ))) (cAcc2 h0 mo5) (cAcc3 h0 mo5) ?_
    obtain rfl : r6 = p4.1 := hw
    refine lv_if_ne (tgt := 78) hx hb dX3_steer_71 (by decide) (fun c8 => ?_) (fun c8 => ?_)
    ·
      replace hf := (if_neg c8).symm.trans hf
      refine lv_iconst (v := 0) hx hb dX3_steer_78 (by decide) ?_
      refine lv_iload_n hx hb dX3_steer_79 rfl (lv_at hl 2 rfl) ?_
      obtain ⟨p9, hcp9, hf⟩ := hf_bind hf
      have mo10 : CS.hs p4.2 ≤ CS.hs p9.2 := Mono.go hcp9 (m_X3_goIf N p4.2 0 x2)
      have hr9 : CS.hs p9.2 ≤ CS.hs R.2 := Mono.go hf (m_X3_steer_83 N p9.2)
      have hFc := cFree hC hA
      refine va_callv (va_runV (As := [.int 0, .int x2]) (rest := []) ⟨hx, hb, hml, hown, hts⟩ (c_X3_goIf l dC dI Q N p4.2 0 x2 p9 hcp9) (cwV 2 hts hX3_steer_X3_goIf_v156 rfl rfl rfl (by decide +kernel) ⟨(show 2 + 1 ≤ 4 by omega), (show 8 + (3 + 11) + 60 * 2 ≤ 60 * 4 by omega)⟩) ⟨zPre.blind, va_recv hK hC.1 (ci := 2) (q0 := 7) rfl rfl, cPre_go hZ hK hC⟩ rfl rfl hl.1 rfl (lv_room (Nat.le_of_ble_eq_true rfl)) dX3_steer_80 (cAcc h7 mo10 hr9)) hC.2.2.1 (fun q _ h => hFc q h) hFc (fun u9 t9 H1 locs ht hvm hw hB hz1 hk1 hS => ?_)
      obtain ⟨⟨hP, hK1, hD1⟩, hsz1⟩ := hB
      rw [ht] at hP hsz1
      have hC : CP dC dI Q A s.heap p9.2 H1 locs := ⟨hP, hD1.weaken (fun _ _ _ h => hFc _ h), hS, hsz1⟩
      generalize H1 = H at hC ⊢
      have h12 : (CS.hs σ) ≤ CS.hs p9.2 := Nat.le_trans h7 mo10
      refine W.widen (k := CS.hs p9.2 - (CS.hs σ)) (n := 17 * (CS.hs p9.2 - (CS.hs σ))) (cAcc2 h7 mo10) (cAcc3 h7 mo10) ?_
      exact j_X3_steer_83 l dC dI Q N (CS.hs σ) R hx hb hr hml hown hts hlocks hZ hA hK p9.2 _ _ _ hf h12 hC (lv_sub hl [] rfl)
    ·
      replace hf := (if_pos c8).symm.trans hf
      refine lv_iconst (v := 1) hx hb dX3_steer_74 (by decide) ?_
      refine lv_goto (tgt := 79) hx hb dX3_steer_75 (by decide) ?_
      refine lv_iload_n hx hb dX3_steer_79 rfl (lv_at hl 2 rfl) ?_
      obtain ⟨p13, hcp13, hf⟩ := hf_bind hf
      have mo14 : CS.hs p4.2 ≤ CS.hs p13.2 := Mono.go hcp13 (m_X3_goIf N p4.2 1 x2)
      have hr9 : CS.hs p13.2 ≤ CS.hs R.2 := Mono.go hf (m_X3_steer_83 N p13.2)
      have hFc := cFree hC hA
      refine va_callv (va_runV (As := [.int 1, .int x2]) (rest := []) ⟨hx, hb, hml, hown, hts⟩ (c_X3_goIf l dC dI Q N p4.2 1 x2 p13 hcp13) (cwV 2 hts hX3_steer_X3_goIf_v156 rfl rfl rfl (by decide +kernel) ⟨(show 2 + 1 ≤ 4 by omega), (show 8 + (3 + 11) + 60 * 2 ≤ 60 * 4 by omega)⟩) ⟨zPre.blind, va_recv hK hC.1 (ci := 2) (q0 := 7) rfl rfl, cPre_go hZ hK hC⟩ rfl rfl hl.1 rfl (lv_room (Nat.le_of_ble_eq_true rfl)) dX3_steer_80 (cAcc h7 mo14 hr9)) hC.2.2.1 (fun q _ h => hFc q h) hFc (fun u9 t9 H1 locs ht hvm hw hB hz1 hk1 hS => ?_)
      obtain ⟨⟨hP, hK1, hD1⟩, hsz1⟩ := hB
      rw [ht] at hP hsz1
      have hC : CP dC dI Q A s.heap p13.2 H1 locs := ⟨hP, hD1.weaken (fun _ _ _ h => hFc _ h), hS, hsz1⟩
      generalize H1 = H at hC ⊢
      have h16 : (CS.hs σ) ≤ CS.hs p13.2 := Nat.le_trans h7 mo14
      refine W.widen (k := CS.hs p13.2 - (CS.hs σ)) (n := 17 * (CS.hs p13.2 - (CS.hs σ))) (cAcc2 h7 mo14) (cAcc3 h7 mo14) ?_
      exact j_X3_steer_83 l dC dI Q N (CS.hs σ) R hx hb hr hml hown hts hlocks hZ hA hK p13.2 _ _ _ hf h16 hC (lv_sub hl [] rfl)
  replace hf := (if_neg c3).symm.trans hf
  by_cases c17 : x1 = 32
  ·
    replace hf := (if_pos c17).symm.trans hf
    refine lv_tableIn (off := 85) (tgt := 86) hx hb dX3_steer_1 (by rw [c17]; decide) (by rw [c17]; decide) (by rw [c17]; decide) (by decide) ?_
    refine lv_aload_n hx hb dX3_steer_86 rfl (lv_at hl 0 rfl) ?_
    refine lv_iload_n hx hb dX3_steer_87 rfl (lv_at hl 1 rfl) ?_
    refine lv_bipush (v := 33) hx hb dX3_steer_88 (by decide) ?_
    refine lv_icmp_ne (tgt := 97) hx hb dX3_steer_90 (by decide) (fun c18 => ?_) (fun c18 => ?_)
    ·
      replace hf := (if_neg c18).symm.trans hf
      refine lv_iconst (v := 0) hx hb dX3_steer_97 (by decide) ?_
      refine lv_iload_n hx hb dX3_steer_98 rfl (lv_at hl 2 rfl) ?_
      obtain ⟨p19, hcp19, hf⟩ := hf_bind hf
      have mo20 : CS.hs σ ≤ CS.hs p19.2 := Mono.go hcp19 (m_X3_keep N σ 0 x2)
      have hr9 : CS.hs p19.2 ≤ CS.hs R.2 := Mono.go hf (m_X3_steer_102 N p19.2)
      have hFc := cFree hC hA
      refine va_callv (va_runV (As := [.int 0, .int x2]) (rest := []) ⟨hx, hb, hml, hown, hts⟩ (c_X3_keep l dC dI Q N σ 0 x2 p19 hcp19) (cwV 2 hts hX3_steer_X3_keep_v160 rfl rfl rfl (by decide +kernel) ⟨(show 3 + 1 ≤ 4 by omega), (show 8 + (4 + 11) + 60 * 3 ≤ 60 * 4 by omega)⟩) ⟨zPre.blind, va_recv hK hC.1 (ci := 2) (q0 := 7) rfl rfl, cPre_go hZ hK hC⟩ rfl rfl hl.1 rfl (lv_room (Nat.le_of_ble_eq_true rfl)) dX3_steer_99 (cAcc h0 mo20 hr9)) hC.2.2.1 (fun q _ h => hFc q h) hFc (fun u9 t9 H1 locs ht hvm hw hB hz1 hk1 hS => ?_)
      obtain ⟨⟨hP, hK1, hD1⟩, hsz1⟩ := hB
      rw [ht] at hP hsz1
      have hC : CP dC dI Q A s.heap p19.2 H1 locs := ⟨hP, hD1.weaken (fun _ _ _ h => hFc _ h), hS, hsz1⟩
      generalize H1 = H at hC ⊢
      have h22 : (CS.hs σ) ≤ CS.hs p19.2 := Nat.le_trans h0 mo20
      refine W.widen (k := CS.hs p19.2 - (CS.hs σ)) (n := 17 * (CS.hs p19.2 - (CS.hs σ))) (cAcc2 h0 mo20) (cAcc3 h0 mo20) ?_
      exact j_X3_steer_102 l dC dI Q N (CS.hs σ) R hx hb hr hml hown hts hlocks hZ hA hK p19.2 _ _ _ hf h22 hC (lv_sub hl [] rfl)
    ·
      replace hf := (if_pos c18).symm.trans hf
      refine lv_iconst (v := 1) hx hb dX3_steer_93 (by decide) ?_
      refine lv_goto (tgt := 98) hx hb dX3_steer_94 (by decide) ?_
      refine lv_iload_n hx hb dX3_steer_98 rfl (lv_at hl 2 rfl) ?_
      obtain ⟨p23, hcp23, hf⟩ := hf_bind hf
      have mo24 : CS.hs σ ≤ CS.hs p23.2 := Mono.go hcp23 (m_X3_keep N σ 1 x2)
      have hr9 : CS.hs p23.2 ≤ CS.hs R.2 := Mono.go hf (m_X3_steer_102 N p23.2)
      have hFc := cFree hC hA
      refine va_callv (va_runV (As := [.int 1, .int x2]) (rest := []) ⟨hx, hb, hml, hown, hts⟩ (c_X3_keep l dC dI Q N σ 1 x2 p23 hcp23) (cwV 2 hts hX3_steer_X3_keep_v160 rfl rfl rfl (by decide +kernel) ⟨(show 3 + 1 ≤ 4 by omega), (show 8 + (4 + 11) + 60 * 3 ≤ 60 * 4 by omega)⟩) ⟨zPre.blind, va_recv hK hC.1 (ci := 2) (q0 := 7) rfl rfl, cPre_go hZ hK hC⟩ rfl rfl hl.1 rfl (lv_room (Nat.le_of_ble_eq_true rfl)) dX3_steer_99 (cAcc h0 mo24 hr9)) hC.2.2.1 (fun q _ h => hFc q h) hFc (fun u9 t9 H1 locs ht hvm hw hB hz1 hk1 hS => ?_)
      obtain ⟨⟨hP, hK1, hD1⟩, hsz1⟩ := hB
      rw [ht] at hP hsz1
      have hC : CP dC dI Q A s.heap p23.2 H1 locs := ⟨hP, hD1.weaken (fun _ _ _ h => hFc _ h), hS, hsz1⟩
      generalize H1 = H at hC ⊢
      have h26 : (CS.hs σ) ≤ CS.hs p23.2 := Nat.le_trans h0 mo24
      refine W.widen (k := CS.hs p23.2 - (CS.hs σ)) (n := 17 * (CS.hs p23.2 - (CS.hs σ))) (cAcc2 h0 mo24) (cAcc3 h0 mo24) ?_
      exact j_X3_steer_102 l dC dI Q N (CS.hs σ) R hx hb hr hml hown hts hlocks hZ hA hK p23.2 _ _ _ hf h26 hC (lv_sub hl [] rfl)
  replace hf := (if_neg c17).symm.trans hf
  by_cases c27 : x1 = 33
  ·
    replace hf := (if_pos c27).symm.trans hf
    refine lv_tableIn (off := 85) (tgt := 86) hx hb dX3_steer_1 (by rw [c27]; decide) (by rw [c27]; decide) (by rw [c27]; decide) (by decide) ?_
    refine lv_aload_n hx hb dX3_steer_86 rfl (lv_at hl 0 rfl) ?_
    refine lv_iload_n hx hb dX3_steer_87 rfl (lv_at hl 1 rfl) ?_
    refine lv_bipush (v := 33) hx hb dX3_steer_88 (by decide) ?_
    refine lv_icmp_ne (tgt := 97) hx hb dX3_steer_90 (by decide) (fun c9 => absurd c27 c9) (fun _ => ?_)
    refine lv_iconst (v := 1) hx hb dX3_steer_93 (by decide) ?_
    refine lv_goto (tgt := 98) hx hb dX3_steer_94 (by decide) ?_
    refine lv_iload_n hx hb dX3_steer_98 rfl (lv_at hl 2 rfl) ?_
    obtain ⟨p28, hcp28, hf⟩ := hf_bind hf
    have mo29 : CS.hs σ ≤ CS.hs p28.2 := Mono.go hcp28 (m_X3_keep N σ 1 x2)
    have hr9 : CS.hs p28.2 ≤ CS.hs R.2 := Mono.go hf (m_X3_steer_102 N p28.2)
    have hFc := cFree hC hA
    refine va_callv (va_runV (As := [.int 1, .int x2]) (rest := []) ⟨hx, hb, hml, hown, hts⟩ (c_X3_keep l dC dI Q N σ 1 x2 p28 hcp28) (cwV 2 hts hX3_steer_X3_keep_v160 rfl rfl rfl (by decide +kernel) ⟨(show 3 + 1 ≤ 4 by omega), (show 8 + (4 + 11) + 60 * 3 ≤ 60 * 4 by omega)⟩) ⟨zPre.blind, va_recv hK hC.1 (ci := 2) (q0 := 7) rfl rfl, cPre_go hZ hK hC⟩ rfl rfl hl.1 rfl (lv_room (Nat.le_of_ble_eq_true rfl)) dX3_steer_99 (cAcc h0 mo29 hr9)) hC.2.2.1 (fun q _ h => hFc q h) hFc (fun u9 t9 H1 locs ht hvm hw hB hz1 hk1 hS => ?_)
    obtain ⟨⟨hP, hK1, hD1⟩, hsz1⟩ := hB
    rw [ht] at hP hsz1
    have hC : CP dC dI Q A s.heap p28.2 H1 locs := ⟨hP, hD1.weaken (fun _ _ _ h => hFc _ h), hS, hsz1⟩
    generalize H1 = H at hC ⊢
    have h31 : (CS.hs σ) ≤ CS.hs p28.2 := Nat.le_trans h0 mo29
    refine W.widen (k := CS.hs p28.2 - (CS.hs σ)) (n := 17 * (CS.hs p28.2 - (CS.hs σ))) (cAcc2 h0 mo29) (cAcc3 h0 mo29) ?_
    exact j_X3_steer_102 l dC dI Q N (CS.hs σ) R hx hb hr hml hown hts hlocks hZ hA hK p28.2 _ _ _ hf h31 hC (lv_sub hl [] rfl)
  replace hf := (if_neg c27).symm.trans hf
  by_cases c32 : x1 = 34
  ·
    replace hf := (if_pos c32).symm.trans hf
    refine lv_tableIn (off := 104) (tgt := 105) hx hb dX3_steer_1 (by rw [c32]; decide) (by rw [c32]; decide) (by rw [c32]; decide) (by decide) ?_
    refine lv_aload_n hx hb dX3_steer_105 rfl (lv_at hl 0 rfl) ?_
    refine lv_iload_n hx hb dX3_steer_106 rfl (lv_at hl 2 rfl) ?_
    obtain ⟨p33, hcp33, hf⟩ := hf_bind hf
    have mo34 : CS.hs σ ≤ CS.hs p33.2 := Mono.go hcp33 (m_X3_compareCase N σ x2)
    have hr9 : CS.hs p33.2 ≤ CS.hs R.2 := Mono.go hf (mono_some (Nat.le_refl _))
    have hFc := cFree hC hA
    refine va_callv (va_runV (As := [.int x2]) (rest := []) ⟨hx, hb, hml, hown, hts⟩ (c_X3_compareCase l dC dI Q N σ x2 p33 hcp33) (cwV 1 hts hX3_steer_X3_compareCase_v163 rfl rfl rfl (by decide +kernel) ⟨(show 3 + 1 ≤ 4 by omega), (show 8 + (3 + 11) + 60 * 3 ≤ 60 * 4 by omega)⟩) ⟨zPre.blind, va_recv hK hC.1 (ci := 2) (q0 := 7) rfl rfl, cPre_go hZ hK hC⟩ rfl rfl hl.1 rfl (lv_room (Nat.le_of_ble_eq_true rfl)) dX3_steer_107 (cAcc h0 mo34 hr9)) hC.2.2.1 (fun q _ h => hFc q h) hFc (fun u9 t9 H1 locs ht hvm hw hB hz1 hk1 hS => ?_)
    obtain ⟨⟨hP, hK1, hD1⟩, hsz1⟩ := hB
    rw [ht] at hP hsz1
    have hC : CP dC dI Q A s.heap p33.2 H1 locs := ⟨hP, hD1.weaken (fun _ _ _ h => hFc _ h), hS, hsz1⟩
    generalize H1 = H at hC ⊢
    have h36 : (CS.hs σ) ≤ CS.hs p33.2 := Nat.le_trans h0 mo34
    refine W.widen (k := CS.hs p33.2 - (CS.hs σ)) (n := 17 * (CS.hs p33.2 - (CS.hs σ))) (cAcc2 h0 mo34) (cAcc3 h0 mo34) ?_
    refine lv_goto (tgt := 218) hx hb dX3_steer_110 (by decide) ?_
    obtain rfl := Option.some.inj hf
    exact W.vret hx hb hr (fun t ht hW => ⟨⟨(), rfl, trivial, ⟨by rw [ht]; exact hC.1, va_K.moved hW.alike hK, hC.2.1⟩, by rw [ht]; exact hC.2.2.2⟩, hC.2.2.1.F ht⟩) hC.2.2.1.2.2 dX3_steer_218
  replace hf := (if_neg c32).symm.trans hf
  by_cases c37 : x1 = 35
  ·
    replace hf := (if_pos c37).symm.trans hf
    refine lv_tableIn (off := 112) (tgt := 113) hx hb dX3_steer_1 (by rw [c37]; decide) (by rw [c37]; decide) (by rw [c37]; decide) (by decide) ?_
    refine lv_aload_n hx hb dX3_steer_113 rfl (lv_at hl 0 rfl) ?_
    refine lv_aload_n hx hb dX3_steer_114 rfl (lv_at hl 0 rfl) ?_
    refine cG_57 hx hb hts i_X3_steer_X3 hown hK hC (hts (.fieldLink RX3 36 "StatementRules2$Machine" "told" "LStatementRules2$Told;") k_X3_steer_fieldLink_RX3_36_SR_Machine_told_LSR_Told) (fun _ q9 => q9) dX3_steer_115 ?_
    refine cGN_14 (v := (σ.i 14)) hx hb hts i_X3_steer_X10 hown hK hC (va_Nw.use rfl (hZ.1 (.fieldLinkNest RX3 166 "StatementRules2$Told" "assertsOn" "Z" "StatementRules2") (by decide +kernel))) (fun _ q9 => q9) dX3_steer_118 rfl ?_
    refine lv_if_ne (tgt := 128) hx hb dX3_steer_121 (by decide) (fun c38 => ?_) (fun c38 => ?_)
    ·
      replace hf := (if_neg c38).symm.trans hf
      refine lv_iconst (v := 0) hx hb dX3_steer_128 (by decide) ?_
      refine lv_iload_n hx hb dX3_steer_129 rfl (lv_at hl 2 rfl) ?_
      obtain ⟨p39, hcp39, hf⟩ := hf_bind hf
      have mo40 : CS.hs σ ≤ CS.hs p39.2 := Mono.go hcp39 (m_X3_goIf N σ 0 x2)
      have hr9 : CS.hs p39.2 ≤ CS.hs R.2 := Mono.go hf (m_X3_steer_133 N p39.2)
      have hFc := cFree hC hA
      refine va_callv (va_runV (As := [.int 0, .int x2]) (rest := []) ⟨hx, hb, hml, hown, hts⟩ (c_X3_goIf l dC dI Q N σ 0 x2 p39 hcp39) (cwV 2 hts hX3_steer_X3_goIf_v156 rfl rfl rfl (by decide +kernel) ⟨(show 2 + 1 ≤ 4 by omega), (show 8 + (3 + 11) + 60 * 2 ≤ 60 * 4 by omega)⟩) ⟨zPre.blind, va_recv hK hC.1 (ci := 2) (q0 := 7) rfl rfl, cPre_go hZ hK hC⟩ rfl rfl hl.1 rfl (lv_room (Nat.le_of_ble_eq_true rfl)) dX3_steer_130 (cAcc h0 mo40 hr9)) hC.2.2.1 (fun q _ h => hFc q h) hFc (fun u9 t9 H1 locs ht hvm hw hB hz1 hk1 hS => ?_)
      obtain ⟨⟨hP, hK1, hD1⟩, hsz1⟩ := hB
      rw [ht] at hP hsz1
      have hC : CP dC dI Q A s.heap p39.2 H1 locs := ⟨hP, hD1.weaken (fun _ _ _ h => hFc _ h), hS, hsz1⟩
      generalize H1 = H at hC ⊢
      have h42 : (CS.hs σ) ≤ CS.hs p39.2 := Nat.le_trans h0 mo40
      refine W.widen (k := CS.hs p39.2 - (CS.hs σ)) (n := 17 * (CS.hs p39.2 - (CS.hs σ))) (cAcc2 h0 mo40) (cAcc3 h0 mo40) ?_
      exact j_X3_steer_133 l dC dI Q N (CS.hs σ) R hx hb hr hml hown hts hlocks hZ hA hK p39.2 _ _ _ hf h42 hC (lv_sub hl [] rfl)
    ·
      replace hf := (if_pos c38).symm.trans hf
      refine lv_iconst (v := 1) hx hb dX3_steer_124 (by decide) ?_
      refine lv_goto (tgt := 129) hx hb dX3_steer_125 (by decide) ?_
      refine lv_iload_n hx hb dX3_steer_129 rfl (lv_at hl 2 rfl) ?_
      obtain ⟨p43, hcp43, hf⟩ := hf_bind hf
      have mo44 : CS.hs σ ≤ CS.hs p43.2 := Mono.go hcp43 (m_X3_goIf N σ 1 x2)
      have hr9 : CS.hs p43.2 ≤ CS.hs R.2 := Mono.go hf (m_X3_steer_133 N p43.2)
      have hFc := cFree hC hA
      refine va_callv (va_runV (As := [.int 1, .int x2]) (rest := []) ⟨hx, hb, hml, hown, hts⟩ (c_X3_goIf l dC dI Q N σ 1 x2 p43 hcp43) (cwV 2 hts hX3_steer_X3_goIf_v156 rfl rfl rfl (by decide +kernel) ⟨(show 2 + 1 ≤ 4 by omega), (show 8 + (3 + 11) + 60 * 2 ≤ 60 * 4 by omega)⟩) ⟨zPre.blind, va_recv hK hC.1 (ci := 2) (q0 := 7) rfl rfl, cPre_go hZ hK hC⟩ rfl rfl hl.1 rfl (lv_room (Nat.le_of_ble_eq_true rfl)) dX3_steer_130 (cAcc h0 mo44 hr9)) hC.2.2.1 (fun q _ h => hFc q h) hFc (fun u9 t9 H1 locs ht hvm hw hB hz1 hk1 hS => ?_)
      obtain ⟨⟨hP, hK1, hD1⟩, hsz1⟩ := hB
      rw [ht] at hP hsz1
      have hC : CP dC dI Q A s.heap p43.2 H1 locs := ⟨hP, hD1.weaken (fun _ _ _ h => hFc _ h), hS, hsz1⟩
      generalize H1 = H at hC ⊢
      have h46 : (CS.hs σ) ≤ CS.hs p43.2 := Nat.le_trans h0 mo44
      refine W.widen (k := CS.hs p43.2 - (CS.hs σ)) (n := 17 * (CS.hs p43.2 - (CS.hs σ))) (cAcc2 h0 mo44) (cAcc3 h0 mo44) ?_
      exact j_X3_steer_133 l dC dI Q N (CS.hs σ) R hx hb hr hml hown hts hlocks hZ hA hK p43.2 _ _ _ hf h46 hC (lv_sub hl [] rfl)
  replace hf := (if_neg c37).symm.trans hf
  by_cases c47 : x1 = 36
  ·
    replace hf := (if_pos c47).symm.trans hf
    refine lv_tableIn (off := 135) (tgt := 136) hx hb dX3_steer_1 (by rw [c47]; decide) (by rw [c47]; decide) (by rw [c47]; decide) (by decide) ?_
    refine lv_aload_n hx hb dX3_steer_136 rfl (lv_at hl 0 rfl) ?_
    refine lv_iload_n hx hb dX3_steer_137 rfl (lv_at hl 2 rfl) ?_
    obtain ⟨p48, hcp48, hf⟩ := hf_bind hf
    have mo49 : CS.hs σ ≤ CS.hs p48.2 := Mono.go hcp48 (m_X3_fillRow N σ x2)
    have hr9 : CS.hs p48.2 ≤ CS.hs R.2 := Mono.go hf (mono_some (Nat.le_refl _))
    have hFc := cFree hC hA
    refine va_callv (va_runV (As := [.int x2]) (rest := []) ⟨hx, hb, hml, hown, hts⟩ (c_X3_fillRow l dC dI Q N σ x2 p48 hcp48) (cwV 1 hts hX3_steer_X3_fillRow_v172 rfl rfl rfl (by decide +kernel) ⟨(show 3 + 1 ≤ 4 by omega), (show 8 + (4 + 11) + 60 * 3 ≤ 60 * 4 by omega)⟩) ⟨zPre.blind, va_recv hK hC.1 (ci := 2) (q0 := 7) rfl rfl, cPre_go hZ hK hC⟩ rfl rfl hl.1 rfl (lv_room (Nat.le_of_ble_eq_true rfl)) dX3_steer_138 (cAcc h0 mo49 hr9)) hC.2.2.1 (fun q _ h => hFc q h) hFc (fun u9 t9 H1 locs ht hvm hw hB hz1 hk1 hS => ?_)
    obtain ⟨⟨hP, hK1, hD1⟩, hsz1⟩ := hB
    rw [ht] at hP hsz1
    have hC : CP dC dI Q A s.heap p48.2 H1 locs := ⟨hP, hD1.weaken (fun _ _ _ h => hFc _ h), hS, hsz1⟩
    generalize H1 = H at hC ⊢
    have h51 : (CS.hs σ) ≤ CS.hs p48.2 := Nat.le_trans h0 mo49
    refine W.widen (k := CS.hs p48.2 - (CS.hs σ)) (n := 17 * (CS.hs p48.2 - (CS.hs σ))) (cAcc2 h0 mo49) (cAcc3 h0 mo49) ?_
    refine lv_goto (tgt := 218) hx hb dX3_steer_141 (by decide) ?_
    obtain rfl := Option.some.inj hf
    exact W.vret hx hb hr (fun t ht hW => ⟨⟨(), rfl, trivial, ⟨by rw [ht]; exact hC.1, va_K.moved hW.alike hK, hC.2.1⟩, by rw [ht]; exact hC.2.2.2⟩, hC.2.2.1.F ht⟩) hC.2.2.1.2.2 dX3_steer_218
  replace hf := (if_neg c47).symm.trans hf
  by_cases c52 : x1 = 37
  ·
    replace hf := (if_pos c52).symm.trans hf
    refine lv_tableIn (off := 143) (tgt := 144) hx hb dX3_steer_1 (by rw [c52]; decide) (by rw [c52]; decide) (by rw [c52]; decide) (by decide) ?_
    refine lv_aload_n hx hb dX3_steer_144 rfl (lv_at hl 0 rfl) ?_
    refine lv_aload_n hx hb dX3_steer_145 rfl (lv_at hl 0 rfl) ?_
    refine cG_59 hx hb hts i_X3_steer_X3 hown hK hC (hts (.fieldLink RX3 9 "StatementRules2$Machine" "cells" "[I") k_X3_steer_fieldLink_RX3_9_SR_Machine_cells_I) (fun _ q9 => q9) dX3_steer_146 ?_
    refine lv_iload_n hx hb dX3_steer_149 rfl (lv_at hl 2 rfl) ?_
    have he9 := (cArr_59 (Q := Q) (σ := σ))
    have hFc := cFree1 hC hA he9
    have hr9 : CS.hs σ ≤ CS.hs R.2 := Mono.go hf (mono_ite (mono_bind (m_X3_push N σ 0) (fun p56 => (m_X3_steer_174 N p56.2))) (mono_bind (m_X3_push N σ 1) (fun p60 => (m_X3_steer_174 N p60.2))))
    refine va_calli (va_runSN (As := [.ref (Q.q 59), .int x2]) (rest := [.ref (Q.o 7)]) ⟨hx, hb, hml, hown, hts⟩ (c_X11_at l dC dI _ (Q.q 59) (Q.c 0) 720 (σ.a 59) x2 (by decide)) ⟨va_cnB 2 hts hX3_steer_X11_at_n111 rfl rfl rfl (hZ.1 (.methodLinkNest RX3 111 yX11_at "StatementRules2") (by decide +kernel)) (hts (.initialized RX11) k_X3_steer_initialized_RX11) (by decide +kernel) ⟨(show 1 + 1 ≤ 4 by omega), (show 8 + (2 + 11) + 60 * 1 ≤ 60 * 4 by omega)⟩, (hts (.static yX11_at) k_X3_steer_static_yX11_at), trivial⟩ ⟨zPre.blind, zPre.go hZ (cOne hC.1 he9) (hK.sub (tys' := [(Q.c 0, .int)]) [0] rfl) (cOneD hC.2.1 he9)⟩ rfl rfl hl.1 rfl (lv_room (Nat.le_of_ble_eq_true rfl)) dX3_steer_150 ⟨cAcc4 h0 hr9, cAcc5 h0 hr9⟩) hC.2.2.1 (fun q _ h => hFc q h) hFc (fun r53 u9 t9 H1 locs ht hvm hw hB hz1 hk1 hS => ?_)
    obtain ⟨⟨hP1, hK1, hD1⟩, hsz1⟩ := hB
    rw [ht] at hP1 hsz1
    have hC := cBack (σ' := σ) hC he9 (cSelf he9) (Eq.refl (CS.hs σ)) hk1 hP1 hsz1 hS
    generalize H1 = H at hC ⊢
    obtain rfl : r53 = (gAt (σ.a 59) 720 x2) := hw
    refine lv_aload_n hx hb dX3_steer_153 rfl (lv_at hl 0 rfl) ?_
    refine cG_59 hx hb hts i_X3_steer_X3 hown hK hC (hts (.fieldLink RX3 9 "StatementRules2$Machine" "cells" "[I") k_X3_steer_fieldLink_RX3_9_SR_Machine_cells_I) (fun _ q9 => q9) dX3_steer_154 ?_
    refine lv_iload_n hx hb dX3_steer_157 rfl (lv_at hl 2 rfl) ?_
    refine lv_iconst (v := 1) hx hb dX3_steer_158 (by decide) ?_
    refine lv_iadd hx hb dX3_steer_159 ?_
    have he9 := (cArr_59 (Q := Q) (σ := σ))
    have hFc := cFree1 hC hA he9
    have hr9 : CS.hs σ ≤ CS.hs R.2 := Mono.go hf (mono_ite (mono_bind (m_X3_push N σ 0) (fun p56 => (m_X3_steer_174 N p56.2))) (mono_bind (m_X3_push N σ 1) (fun p60 => (m_X3_steer_174 N p60.2))))
    refine va_calli (va_runSN (As := [.ref (Q.q 59), .int (x2 + 1)]) (rest := [.int (gAt (σ.a 59) 720 x2), .ref (Q.o 7)]) ⟨hx, hb, hml, hown, hts⟩ (c_X11_at l dC dI _ (Q.q 59) (Q.c 0) 720 (σ.a 59) (x2 + 1) (by decide)) ⟨va_cnB 2 hts hX3_steer_X11_at_n111 rfl rfl rfl (hZ.1 (.methodLinkNest RX3 111 yX11_at "StatementRules2") (by decide +kernel)) (hts (.initialized RX11) k_X3_steer_initialized_RX11) (by decide +kernel) ⟨(show 1 + 1 ≤ 4 by omega), (show 8 + (2 + 11) + 60 * 1 ≤ 60 * 4 by omega)⟩, (hts (.static yX11_at) k_X3_steer_static_yX11_at), trivial⟩ ⟨zPre.blind, zPre.go hZ (cOne hC.1 he9) (hK.sub (tys' := [(Q.c 0, .int)]) [0] rfl) (cOneD hC.2.1 he9)⟩ rfl rfl hl.1 rfl (lv_room (Nat.le_of_ble_eq_true rfl)) dX3_steer_160 ⟨cAcc4 h0 hr9, cAcc5 h0 hr9⟩) hC.2.2.1 (fun q _ h => hFc q h) hFc (fun r54 u9 t9 H1 locs ht hvm hw hB hz1 hk1 hS => ?_)
    obtain ⟨⟨hP1, hK1, hD1⟩, hsz1⟩ := hB
    rw [ht] at hP1 hsz1
    have hC := cBack (σ' := σ) hC he9 (cSelf he9) (Eq.refl (CS.hs σ)) hk1 hP1 hsz1 hS
    generalize H1 = H at hC ⊢
    obtain rfl : r54 = (gAt (σ.a 59) 720 (x2 + 1)) := hw
    refine lv_icmp_ge (tgt := 170) hx hb dX3_steer_163 (by decide) (fun c55 => ?_) (fun c55 => ?_)
    ·
      replace hf := (if_pos c55).symm.trans hf
      refine lv_iconst (v := 0) hx hb dX3_steer_170 (by decide) ?_
      obtain ⟨p56, hcp56, hf⟩ := hf_bind hf
      have mo57 : CS.hs σ ≤ CS.hs p56.2 := Mono.go hcp56 (m_X3_push N σ 0)
      have hr9 : CS.hs p56.2 ≤ CS.hs R.2 := Mono.go hf (m_X3_steer_174 N p56.2)
      have hFc := cFree hC hA
      refine va_callv (va_runV (As := [.int 0]) (rest := []) ⟨hx, hb, hml, hown, hts⟩ (c_X3_push l dC dI Q N σ 0 p56 hcp56) (cwV 1 hts hX3_steer_X3_push_v135 rfl rfl rfl (by decide +kernel) ⟨(show 2 + 1 ≤ 4 by omega), (show 8 + (2 + 11) + 60 * 2 ≤ 60 * 4 by omega)⟩) ⟨zPre.blind, va_recv hK hC.1 (ci := 2) (q0 := 7) rfl rfl, cPre_go hZ hK hC⟩ rfl rfl hl.1 rfl (lv_room (Nat.le_of_ble_eq_true rfl)) dX3_steer_171 (cAcc h0 mo57 hr9)) hC.2.2.1 (fun q _ h => hFc q h) hFc (fun u9 t9 H1 locs ht hvm hw hB hz1 hk1 hS => ?_)
      obtain ⟨⟨hP, hK1, hD1⟩, hsz1⟩ := hB
      rw [ht] at hP hsz1
      have hC : CP dC dI Q A s.heap p56.2 H1 locs := ⟨hP, hD1.weaken (fun _ _ _ h => hFc _ h), hS, hsz1⟩
      generalize H1 = H at hC ⊢
      have h59 : (CS.hs σ) ≤ CS.hs p56.2 := Nat.le_trans h0 mo57
      refine W.widen (k := CS.hs p56.2 - (CS.hs σ)) (n := 17 * (CS.hs p56.2 - (CS.hs σ))) (cAcc2 h0 mo57) (cAcc3 h0 mo57) ?_
      exact j_X3_steer_174 l dC dI Q N (CS.hs σ) R hx hb hr hml hown hts hlocks hZ hA hK p56.2 _ _ _ hf h59 hC (lv_sub hl [] rfl)
    ·
      replace hf := (if_neg c55).symm.trans hf
      refine lv_iconst (v := 1) hx hb dX3_steer_166 (by decide) ?_
      refine lv_goto (tgt := 171) hx hb dX3_steer_167 (by decide) ?_
      obtain ⟨p60, hcp60, hf⟩ := hf_bind hf
      have mo61 : CS.hs σ ≤ CS.hs p60.2 := Mono.go hcp60 (m_X3_push N σ 1)
      have hr9 : CS.hs p60.2 ≤ CS.hs R.2 := Mono.go hf (m_X3_steer_174 N p60.2)
      have hFc := cFree hC hA
      refine va_callv (va_runV (As := [.int 1]) (rest := []) ⟨hx, hb, hml, hown, hts⟩ (c_X3_push l dC dI Q N σ 1 p60 hcp60) (cwV 1 hts hX3_steer_X3_push_v135 rfl rfl rfl (by decide +kernel) ⟨(show 2 + 1 ≤ 4 by omega), (show 8 + (2 + 11) + 60 * 2 ≤ 60 * 4 by omega)⟩) ⟨zPre.blind, va_recv hK hC.1 (ci := 2) (q0 := 7) rfl rfl, cPre_go hZ hK hC⟩ rfl rfl hl.1 rfl (lv_room (Nat.le_of_ble_eq_true rfl)) dX3_steer_171 (cAcc h0 mo61 hr9)) hC.2.2.1 (fun q _ h => hFc q h) hFc (fun u9 t9 H1 locs ht hvm hw hB hz1 hk1 hS => ?_)
      obtain ⟨⟨hP, hK1, hD1⟩, hsz1⟩ := hB
      rw [ht] at hP hsz1
      have hC : CP dC dI Q A s.heap p60.2 H1 locs := ⟨hP, hD1.weaken (fun _ _ _ h => hFc _ h), hS, hsz1⟩
      generalize H1 = H at hC ⊢
      have h63 : (CS.hs σ) ≤ CS.hs p60.2 := Nat.le_trans h0 mo61
      refine W.widen (k := CS.hs p60.2 - (CS.hs σ)) (n := 17 * (CS.hs p60.2 - (CS.hs σ))) (cAcc2 h0 mo61) (cAcc3 h0 mo61) ?_
      exact j_X3_steer_174 l dC dI Q N (CS.hs σ) R hx hb hr hml hown hts hlocks hZ hA hK p60.2 _ _ _ hf h63 hC (lv_sub hl [] rfl)
  replace hf := (if_neg c52).symm.trans hf
  refine lv_tableOut (tgt := 177) hx hb dX3_steer_1 (by have := z_ton (a := 30) c1 (by decide); have := z_ton (a := 31) c3 (by decide); have := z_ton (a := 32) c17 (by decide); have := z_ton (a := 33) c27 (by decide); have := z_ton (a := 34) c32 (by decide); have := z_ton (a := 35) c37 (by decide); have := z_ton (a := 36) c47 (by decide); have := z_ton (a := 37) c52 (by decide); omega) (by decide) ?_
  refine lv_aload_n hx hb dX3_steer_177 rfl (lv_at hl 0 rfl) ?_
  refine lv_aload_n hx hb dX3_steer_178 rfl (lv_at hl 0 rfl) ?_
  refine cG_59 hx hb hts i_X3_steer_X3 hown hK hC (hts (.fieldLink RX3 9 "StatementRules2$Machine" "cells" "[I") k_X3_steer_fieldLink_RX3_9_SR_Machine_cells_I) (fun _ q9 => q9) dX3_steer_179 ?_
  refine lv_iload_n hx hb dX3_steer_182 rfl (lv_at hl 2 rfl) ?_
  refine lv_iconst (v := 2) hx hb dX3_steer_183 (by decide) ?_
  refine lv_iadd hx hb dX3_steer_184 ?_
  refine lv_aload_n hx hb dX3_steer_185 rfl (lv_at hl 0 rfl) ?_
  refine cG_59 hx hb hts i_X3_steer_X3 hown hK hC (hts (.fieldLink RX3 9 "StatementRules2$Machine" "cells" "[I") k_X3_steer_fieldLink_RX3_9_SR_Machine_cells_I) (fun _ q9 => q9) dX3_steer_186 ?_
  refine lv_iload_n hx hb dX3_steer_189 rfl (lv_at hl 2 rfl) ?_
  have he9 := (cArr_59 (Q := Q) (σ := σ))
  have hFc := cFree1 hC hA he9
  have hr9 : CS.hs σ ≤ CS.hs R.2 := Mono.go hf (mono_bind (m_X3_push N σ (gAt (σ.a 59) 720 ((x2 + 2) + (gAt (σ.a 59) 720 x2)))) (fun p66 => (mono_some (Nat.le_refl _))))
  refine va_calli (va_runSN (As := [.ref (Q.q 59), .int x2]) (rest := [.int (x2 + 2), .ref (Q.q 59), .ref (Q.o 7)]) ⟨hx, hb, hml, hown, hts⟩ (c_X11_at l dC dI _ (Q.q 59) (Q.c 0) 720 (σ.a 59) x2 (by decide)) ⟨va_cnB 2 hts hX3_steer_X11_at_n111 rfl rfl rfl (hZ.1 (.methodLinkNest RX3 111 yX11_at "StatementRules2") (by decide +kernel)) (hts (.initialized RX11) k_X3_steer_initialized_RX11) (by decide +kernel) ⟨(show 1 + 1 ≤ 4 by omega), (show 8 + (2 + 11) + 60 * 1 ≤ 60 * 4 by omega)⟩, (hts (.static yX11_at) k_X3_steer_static_yX11_at), trivial⟩ ⟨zPre.blind, zPre.go hZ (cOne hC.1 he9) (hK.sub (tys' := [(Q.c 0, .int)]) [0] rfl) (cOneD hC.2.1 he9)⟩ rfl rfl hl.1 rfl (lv_room (Nat.le_of_ble_eq_true rfl)) dX3_steer_190 ⟨cAcc4 h0 hr9, cAcc5 h0 hr9⟩) hC.2.2.1 (fun q _ h => hFc q h) hFc (fun r64 u9 t9 H1 locs ht hvm hw hB hz1 hk1 hS => ?_)
  obtain ⟨⟨hP1, hK1, hD1⟩, hsz1⟩ := hB
  rw [ht] at hP1 hsz1
  have hC := cBack (σ' := σ) hC he9 (cSelf he9) (Eq.refl (CS.hs σ)) hk1 hP1 hsz1 hS
  generalize H1 = H at hC ⊢
  obtain rfl : r64 = (gAt (σ.a 59) 720 x2) := hw
  refine lv_iadd hx hb dX3_steer_193 ?_
  have he9 := (cArr_59 (Q := Q) (σ := σ))
  have hFc := cFree1 hC hA he9
  have hr9 : CS.hs σ ≤ CS.hs R.2 := Mono.go hf (mono_bind (m_X3_push N σ (gAt (σ.a 59) 720 ((x2 + 2) + (gAt (σ.a 59) 720 x2)))) (fun p66 => (mono_some (Nat.le_refl _))))
  refine va_calli (va_runSN (As := [.ref (Q.q 59), .int ((x2 + 2) + (gAt (σ.a 59) 720 x2))]) (rest := [.ref (Q.o 7)]) ⟨hx, hb, hml, hown, hts⟩ (c_X11_at l dC dI _ (Q.q 59) (Q.c 0) 720 (σ.a 59) ((x2 + 2) + (gAt (σ.a 59) 720 x2)) (by decide)) ⟨va_cnB 2 hts hX3_steer_X11_at_n111 rfl rfl rfl (hZ.1 (.methodLinkNest RX3 111 yX11_at "StatementRules2") (by decide +kernel)) (hts (.initialized RX11) k_X3_steer_initialized_RX11) (by decide +kernel) ⟨(show 1 + 1 ≤ 4 by omega), (show 8 + (2 + 11) + 60 * 1 ≤ 60 * 4 by omega)⟩, (hts (.static yX11_at) k_X3_steer_static_yX11_at), trivial⟩ ⟨zPre.blind, zPre.go hZ (cOne hC.1 he9) (hK.sub (tys' := [(Q.c 0, .int)]) [0] rfl) (cOneD hC.2.1 he9)⟩ rfl rfl hl.1 rfl (lv_room (Nat.le_of_ble_eq_true rfl)) dX3_steer_194 ⟨cAcc4 h0 hr9, cAcc5 h0 hr9⟩) hC.2.2.1 (fun q _ h => hFc q h) hFc (fun r65 u9 t9 H1 locs ht hvm hw hB hz1 hk1 hS => ?_)
  obtain ⟨⟨hP1, hK1, hD1⟩, hsz1⟩ := hB
  rw [ht] at hP1 hsz1
  have hC := cBack (σ' := σ) hC he9 (cSelf he9) (Eq.refl (CS.hs σ)) hk1 hP1 hsz1 hS
  generalize H1 = H at hC ⊢
  obtain rfl : r65 = (gAt (σ.a 59) 720 ((x2 + 2) + (gAt (σ.a 59) 720 x2))) := hw
  obtain ⟨p66, hcp66, hf⟩ := hf_bind hf
  have mo67 : CS.hs σ ≤ CS.hs p66.2 := Mono.go hcp66 (m_X3_push N σ (gAt (σ.a 59) 720 ((x2 + 2) + (gAt (σ.a 59) 720 x2))))
  have hr9 : CS.hs p66.2 ≤ CS.hs R.2 := Mono.go hf (mono_some (Nat.le_refl _))
  have hFc := cFree hC hA
  refine va_callv (va_runV (As := [.int (gAt (σ.a 59) 720 ((x2 + 2) + (gAt (σ.a 59) 720 x2)))]) (rest := []) ⟨hx, hb, hml, hown, hts⟩ (c_X3_push l dC dI Q N σ (gAt (σ.a 59) 720 ((x2 + 2) + (gAt (σ.a 59) 720 x2))) p66 hcp66) (cwV 1 hts hX3_steer_X3_push_v135 rfl rfl rfl (by decide +kernel) ⟨(show 2 + 1 ≤ 4 by omega), (show 8 + (2 + 11) + 60 * 2 ≤ 60 * 4 by omega)⟩) ⟨zPre.blind, va_recv hK hC.1 (ci := 2) (q0 := 7) rfl rfl, cPre_go hZ hK hC⟩ rfl rfl hl.1 rfl (lv_room (Nat.le_of_ble_eq_true rfl)) dX3_steer_197 (cAcc h0 mo67 hr9)) hC.2.2.1 (fun q _ h => hFc q h) hFc (fun u9 t9 H1 locs ht hvm hw hB hz1 hk1 hS => ?_)
  obtain ⟨⟨hP, hK1, hD1⟩, hsz1⟩ := hB
  rw [ht] at hP hsz1
  have hC : CP dC dI Q A s.heap p66.2 H1 locs := ⟨hP, hD1.weaken (fun _ _ _ h => hFc _ h), hS, hsz1⟩
  generalize H1 = H at hC ⊢
  have h69 : (CS.hs σ) ≤ CS.hs p66.2 := Nat.le_trans h0 mo67
  refine W.widen (k := CS.hs p66.2 - (CS.hs σ)) (n := 17 * (CS.hs p66.2 - (CS.hs σ))) (cAcc2 h0 mo67) (cAcc3 h0 mo67) ?_
  refine lv_aload_n hx hb dX3_steer_200 rfl (lv_at hl 0 rfl) ?_
  refine cG_59 hx hb hts i_X3_steer_X3 hown hK hC (hts (.fieldLink RX3 9 "StatementRules2$Machine" "cells" "[I") k_X3_steer_fieldLink_RX3_9_SR_Machine_cells_I) (fun _ q9 => q9) dX3_steer_201 ?_
  refine lv_iload_n hx hb dX3_steer_204 rfl (lv_at hl 2 rfl) ?_
  refine lv_aload_n hx hb dX3_steer_205 rfl (lv_at hl 0 rfl) ?_
  refine cG_59 hx hb hts i_X3_steer_X3 hown hK hC (hts (.fieldLink RX3 9 "StatementRules2$Machine" "cells" "[I") k_X3_steer_fieldLink_RX3_9_SR_Machine_cells_I) (fun _ q9 => q9) dX3_steer_206 ?_
  refine lv_iload_n hx hb dX3_steer_209 rfl (lv_at hl 2 rfl) ?_
  have he9 := (cArr_59 (Q := Q) (σ := p66.2))
  have hFc := cFree1 hC hA he9
  have hr9 : CS.hs p66.2 ≤ CS.hs R.2 := Mono.go hf (mono_some (Nat.le_refl _))
  refine va_calli (va_runSN (As := [.ref (Q.q 59), .int x2]) (rest := [.int x2, .ref (Q.q 59)]) ⟨hx, hb, hml, hown, hts⟩ (c_X11_at l dC dI _ (Q.q 59) (Q.c 0) 720 (p66.2.a 59) x2 (by decide)) ⟨va_cnB 2 hts hX3_steer_X11_at_n111 rfl rfl rfl (hZ.1 (.methodLinkNest RX3 111 yX11_at "StatementRules2") (by decide +kernel)) (hts (.initialized RX11) k_X3_steer_initialized_RX11) (by decide +kernel) ⟨(show 1 + 1 ≤ 4 by omega), (show 8 + (2 + 11) + 60 * 1 ≤ 60 * 4 by omega)⟩, (hts (.static yX11_at) k_X3_steer_static_yX11_at), trivial⟩ ⟨zPre.blind, zPre.go hZ (cOne hC.1 he9) (hK.sub (tys' := [(Q.c 0, .int)]) [0] rfl) (cOneD hC.2.1 he9)⟩ rfl rfl hl.1 rfl (lv_room (Nat.le_of_ble_eq_true rfl)) dX3_steer_210 ⟨cAcc4 h69 hr9, cAcc5 h69 hr9⟩) hC.2.2.1 (fun q _ h => hFc q h) hFc (fun r70 u9 t9 H1 locs ht hvm hw hB hz1 hk1 hS => ?_)
  obtain ⟨⟨hP1, hK1, hD1⟩, hsz1⟩ := hB
  rw [ht] at hP1 hsz1
  have hC := cBack (σ' := p66.2) hC he9 (cSelf he9) (Eq.refl (CS.hs p66.2)) hk1 hP1 hsz1 hS
  generalize H1 = H at hC ⊢
  obtain rfl : r70 = (gAt (p66.2.a 59) 720 x2) := hw
  refine lv_iconst (v := 1) hx hb dX3_steer_213 (by decide) ?_
  refine lv_iadd hx hb dX3_steer_214 ?_
  have he9 := (cArr_59 (Q := Q) (σ := p66.2))
  have hFc := cFree1 hC hA he9
  have hr9 : CS.hs p66.2 ≤ CS.hs R.2 := Mono.go hf (mono_some (Nat.le_refl _))
  refine va_callv (va_runSN (As := [.ref (Q.q 59), .int x2, .int ((gAt (p66.2.a 59) 720 x2) + 1)]) (rest := []) ⟨hx, hb, hml, hown, hts⟩ (c_X11_put l dC dI _ (Q.q 59) (Q.c 0) 720 (p66.2.a 59) x2 ((gAt (p66.2.a 59) 720 x2) + 1) (by decide)) ⟨va_cnB 3 hts hX3_steer_X11_put_n50 rfl rfl rfl (hZ.1 (.methodLinkNest RX3 50 yX11_put "StatementRules2") (by decide +kernel)) (hts (.initialized RX11) k_X3_steer_initialized_RX11) (by decide +kernel) ⟨(show 1 + 1 ≤ 4 by omega), (show 8 + (3 + 11) + 60 * 1 ≤ 60 * 4 by omega)⟩, (hts (.static yX11_put) k_X3_steer_static_yX11_put), trivial⟩ ⟨zPre.blind, zPre.go hZ (cOne hC.1 he9) (hK.sub (tys' := [(Q.c 0, .int)]) [0] rfl) (cOneD hC.2.1 he9)⟩ rfl rfl hl.1 rfl (lv_room (Nat.le_of_ble_eq_true rfl)) dX3_steer_215 ⟨cAcc4 h69 hr9, cAcc5 h69 hr9⟩) hC.2.2.1 (fun q _ h => hFc q h) hFc (fun u9 t9 H1 locs ht hvm hw hB hz1 hk1 hS => ?_)
  obtain ⟨⟨hP1, hK1, hD1⟩, hsz1⟩ := hB
  rw [ht] at hP1 hsz1
  have hC := cBack (σ' := CS.putA p66.2 59 (gPut (p66.2.a 59) 720 x2 ((gAt (p66.2.a 59) 720 x2) + 1))) hC he9 cPutA_59 (cPutA_h _ _ _) hk1 hP1 hsz1 hS
  generalize H1 = H at hC ⊢
  obtain rfl := Option.some.inj hf
  exact W.vret hx hb hr (fun t ht hW => ⟨⟨(), rfl, trivial, ⟨by rw [ht]; exact hC.1, va_K.moved hW.alike hK, hC.2.1⟩, by rw [ht]; exact hC.2.2.2⟩, hC.2.2.1.F ht⟩) hC.2.2.1.2.2 dX3_steer_218
theorem k_X3_step_fieldLink_RX3_69_SR_Machine_steps_I : Cond.fieldLink RX3 69 "StatementRules2$Machine" "steps" "I" ∈ wzX3_step := List.mem_cons_of_mem _ (List.mem_append_left _ (List.mem_of_getElem? (i := 0) rfl))
theorem i_X3_step_X3 : ∀ w ∈ wsX30, w ∈ wzX3_step := fun _ h => List.mem_cons_of_mem _ (List.mem_append_right _ (List.mem_append_left _ (h)))
theorem k_X3_step_fieldLink_RX3_85_SR_Machine_outcome_I : Cond.fieldLink RX3 85 "StatementRules2$Machine" "outcome" "I" ∈ wzX3_step := List.mem_cons_of_mem _ (List.mem_append_left _ (List.mem_of_getElem? (i := 1) rfl))
set_option maxHeartbeats 4000000 in
set_option maxRecDepth 100000 in
theorem c_X3_step (l : Launch) (dC : Nat → ClassId) (dI : Nat → Nat → Nat) (Q : CQ) (N : Nat) (σ : CS) (R : Unit × CS) (hf : f_X3_step N σ = some R) : Met l yX3_step wzX3_step ({ frames := 1, cells := CS.hs R.2 - CS.hs σ, slots := 17 * (CS.hs R.2 - CS.hs σ), locals := 60 * 1 }) (va_Pc [.ref (Q.o 7)] (zPre dC dI (CS.hs σ) (cW Q σ) (cT Q))) (va_Qv (fun (_ : Unit) => True) (fun (_ : Unit) (t : State) => zPost dC dI (va_A (cW Q σ) (CS.hs σ)) (cW Q R.2) (cT Q) t ∧ t.heap.size = CS.hs R.2) (va_A (cW Q σ) (CS.hs σ))) (CS.hs R.2 - CS.hs σ) (17 * (CS.hs R.2 - CS.hs σ)) (va_A (cW Q σ) (CS.hs σ)) := by
  refine Met.ofW (cc := cX3_step) (maxL := 1) (ret := none) (by decide) rfl ?_
  intro p e s m args below meth c s₁ B hml hv
  obtain ⟨rfl, hsz, hZ, hP, hK, hD0⟩ := hv
  have hx := B.exec
  have hb := B.bytes
  have hr := B.returns
  have hts := atoms_spec (ws := wzX3_step) B.pre
  have hown : s.vm.findClass RX3 = some m.cls := findClass_of_methodNamed B.named
  have hlocks := B.notSynchronized
  have hD := hD0.self (sz := CS.hs σ)
  generalize hAe : va_A (cW Q σ) (CS.hs σ) = A at hD ⊢
  have hA : ∀ q : Nat, s.heap.size ≤ q → A q := fun q h => by rw [← hAe]; exact Or.inr (hsz ▸ h)
  have hC : CP dC dI Q A s.heap σ s.heap [] := ⟨hP, hD, va_S.rf, hsz⟩
  have h0 : CS.hs σ ≤ CS.hs σ := Nat.le_refl _
  have hl := lv_entry ([.ref (Q.o 7)]) (n := 1) (Nat.le_of_ble_eq_true rfl)
  rw [lg_entry_eq]
  generalize (lg_sl ([.ref (Q.o 7)]) ++ List.replicate (1 - (lg_sl ([.ref (Q.o 7)])).length) Slot.unset).toArray = ls at hl ⊢
  have hl : lv_has ls 1 [(0, .ref (Q.o 7))] := hl
  unfold f_X3_step at hf
  refine W.widen (k := CS.hs σ - CS.hs σ) (n := 17 * (CS.hs σ - CS.hs σ)) (Nat.zero_le _) (Nat.zero_le _) ?_
  refine lv_aload_n hx hb dX3_step_0 rfl (lv_at hl 0 rfl) ?_
  refine cG_70 (v := (σ.i 70)) hx hb hts i_X3_step_X3 hown hK hC (hts (.fieldLink RX3 69 "StatementRules2$Machine" "steps" "I") k_X3_step_fieldLink_RX3_69_SR_Machine_steps_I) (fun _ q9 => q9) dX3_step_1 rfl ?_
  refine lv_sipush (v := 1000) hx hb dX3_step_4 (by decide) ?_
  refine lv_icmp_lt (tgt := 18) hx hb dX3_step_7 (by decide) (fun c1 => ?_) (fun c1 => ?_)
  ·
    replace hf := (if_pos c1).symm.trans hf
    refine lv_aload_n hx hb dX3_step_18 rfl (lv_at hl 0 rfl) ?_
    refine lv_dup hx hb dX3_step_19 rfl ?_
    refine cG_70 (v := (σ.i 70)) hx hb hts i_X3_step_X3 hown hK hC (hts (.fieldLink RX3 69 "StatementRules2$Machine" "steps" "I") k_X3_step_fieldLink_RX3_69_SR_Machine_steps_I) (fun _ q9 => q9) dX3_step_20 rfl ?_
    refine lv_iconst (v := 1) hx hb dX3_step_23 (by decide) ?_
    refine lv_iadd hx hb dX3_step_24 ?_
    refine cP_70 (v := ((σ.i 70) + 1)) hx hb hts i_X3_step_X3 hown hK hC (hts (.fieldLink RX3 69 "StatementRules2$Machine" "steps" "I") k_X3_step_fieldLink_RX3_69_SR_Machine_steps_I) (fun _ q9 => q9) dX3_step_25 (fun H locs hC => ?_)
    obtain rfl := Option.some.inj hf
    exact W.vret hx hb hr (fun t ht hW => ⟨⟨(), rfl, trivial, ⟨by rw [ht]; exact hC.1, va_K.moved hW.alike hK, hC.2.1⟩, by rw [ht]; exact hC.2.2.2⟩, hC.2.2.1.F ht⟩) hC.2.2.1.2.2 dX3_step_28
  ·
    replace hf := (if_neg c1).symm.trans hf
    refine lv_aload_n hx hb dX3_step_10 rfl (lv_at hl 0 rfl) ?_
    refine lv_iconst (v := 3) hx hb dX3_step_11 (by decide) ?_
    refine cP_72 (v := 3) hx hb hts i_X3_step_X3 hown hK hC (hts (.fieldLink RX3 85 "StatementRules2$Machine" "outcome" "I") k_X3_step_fieldLink_RX3_85_SR_Machine_outcome_I) (fun _ q9 => q9) dX3_step_12 (fun H locs hC => ?_)
    refine lv_goto (tgt := 28) hx hb dX3_step_15 (by decide) ?_
    obtain rfl := Option.some.inj hf
    exact W.vret hx hb hr (fun t ht hW => ⟨⟨(), rfl, trivial, ⟨by rw [ht]; exact hC.1, va_K.moved hW.alike hK, hC.2.1⟩, by rw [ht]; exact hC.2.2.2⟩, hC.2.2.1.F ht⟩) hC.2.2.1.2.2 dX3_step_28
end
section
theorem k_X3_note_fieldLink_RX3_66_SR_Machine_rowCount_I : Cond.fieldLink RX3 66 "StatementRules2$Machine" "rowCount" "I" ∈ wzX3_note := List.mem_cons_of_mem _ (List.mem_append_left _ (List.mem_of_getElem? (i := 0) rfl))
theorem i_X3_note_X3 : ∀ w ∈ wsX30, w ∈ wzX3_note := fun _ h => List.mem_cons_of_mem _ (List.mem_append_right _ (List.mem_append_left _ (h)))
theorem k_X3_note_fieldLink_RX3_33_SR_Machine_rows_I : Cond.fieldLink RX3 33 "StatementRules2$Machine" "rows" "[I" ∈ wzX3_note := List.mem_cons_of_mem _ (List.mem_append_left _ (List.mem_of_getElem? (i := 1) rfl))
theorem k_X3_note_initialized_RX11 : Cond.initialized RX11 ∈ wzX3_note := List.mem_cons_of_mem _ (List.mem_append_left _ (List.mem_of_getElem? (i := 2) rfl))
theorem k_X3_note_static_yX11_put : Cond.static yX11_put ∈ wzX3_note := List.mem_cons_of_mem _ (List.mem_append_left _ (List.mem_of_getElem? (i := 3) rfl))
set_option maxHeartbeats 4000000 in
set_option maxRecDepth 100000 in
theorem c_X3_note (l : Launch) (dC : Nat → ClassId) (dI : Nat → Nat → Nat) (Q : CQ) (N : Nat) (σ : CS) (x1 : Int32) (x2 : Int32) (R : Unit × CS) (hf : f_X3_note N σ x1 x2 = some R) : Met l yX3_note wzX3_note ({ frames := 2, cells := CS.hs R.2 - CS.hs σ, slots := 17 * (CS.hs R.2 - CS.hs σ), locals := 60 * 2 }) (va_Pc [.ref (Q.o 7), .int x1, .int x2] (zPre dC dI (CS.hs σ) (cW Q σ) (cT Q))) (va_Qv (fun (_ : Unit) => True) (fun (_ : Unit) (t : State) => zPost dC dI (va_A (cW Q σ) (CS.hs σ)) (cW Q R.2) (cT Q) t ∧ t.heap.size = CS.hs R.2) (va_A (cW Q σ) (CS.hs σ))) (CS.hs R.2 - CS.hs σ) (17 * (CS.hs R.2 - CS.hs σ)) (va_A (cW Q σ) (CS.hs σ)) := by
  refine Met.ofW (cc := cX3_note) (maxL := 3) (ret := none) (by decide) rfl ?_
  intro p e s m args below meth c s₁ B hml hv
  obtain ⟨rfl, hsz, hZ, hP, hK, hD0⟩ := hv
  have hx := B.exec
  have hb := B.bytes
  have hr := B.returns
  have hts := atoms_spec (ws := wzX3_note) B.pre
  have hown : s.vm.findClass RX3 = some m.cls := findClass_of_methodNamed B.named
  have hlocks := B.notSynchronized
  have hD := hD0.self (sz := CS.hs σ)
  generalize hAe : va_A (cW Q σ) (CS.hs σ) = A at hD ⊢
  have hA : ∀ q : Nat, s.heap.size ≤ q → A q := fun q h => by rw [← hAe]; exact Or.inr (hsz ▸ h)
  have hC : CP dC dI Q A s.heap σ s.heap [] := ⟨hP, hD, va_S.rf, hsz⟩
  have h0 : CS.hs σ ≤ CS.hs σ := Nat.le_refl _
  have hl := lv_entry ([.ref (Q.o 7), .int x1, .int x2]) (n := 3) (Nat.le_of_ble_eq_true rfl)
  rw [lg_entry_eq]
  generalize (lg_sl ([.ref (Q.o 7), .int x1, .int x2]) ++ List.replicate (3 - (lg_sl ([.ref (Q.o 7), .int x1, .int x2])).length) Slot.unset).toArray = ls at hl ⊢
  have hl : lv_has ls 3 [(0, .ref (Q.o 7)), (1, .int x1), (2, .int x2)] := hl
  unfold f_X3_note at hf
  refine W.widen (k := CS.hs σ - CS.hs σ) (n := 17 * (CS.hs σ - CS.hs σ)) (Nat.zero_le _) (Nat.zero_le _) ?_
  refine lv_aload_n hx hb dX3_note_0 rfl (lv_at hl 0 rfl) ?_
  refine cG_69 (v := (σ.i 69)) hx hb hts i_X3_note_X3 hown hK hC (hts (.fieldLink RX3 66 "StatementRules2$Machine" "rowCount" "I") k_X3_note_fieldLink_RX3_66_SR_Machine_rowCount_I) (fun _ q9 => q9) dX3_note_1 rfl ?_
  refine lv_sipush (v := 200) hx hb dX3_note_4 (by decide) ?_
  refine lv_icmp_ge (tgt := 50) hx hb dX3_note_7 (by decide) (fun c1 => ?_) (fun c1 => ?_)
  ·
    replace hf := (if_pos c1).symm.trans hf
    obtain rfl := Option.some.inj hf
    exact W.vret hx hb hr (fun t ht hW => ⟨⟨(), rfl, trivial, ⟨by rw [ht]; exact hC.1, va_K.moved hW.alike hK, hC.2.1⟩, by rw [ht]; exact hC.2.2.2⟩, hC.2.2.1.F ht⟩) hC.2.2.1.2.2 dX3_note_50
  ·
    replace hf := (if_neg c1).symm.trans hf
    refine lv_aload_n hx hb dX3_note_10 rfl (lv_at hl 0 rfl) ?_
    refine cG_64 hx hb hts i_X3_note_X3 hown hK hC (hts (.fieldLink RX3 33 "StatementRules2$Machine" "rows" "[I") k_X3_note_fieldLink_RX3_33_SR_Machine_rows_I) (fun _ q9 => q9) dX3_note_11 ?_
    refine lv_iconst (v := 2) hx hb dX3_note_14 (by decide) ?_
    refine lv_aload_n hx hb dX3_note_15 rfl (lv_at hl 0 rfl) ?_
    refine cG_69 (v := (σ.i 69)) hx hb hts i_X3_note_X3 hown hK hC (hts (.fieldLink RX3 66 "StatementRules2$Machine" "rowCount" "I") k_X3_note_fieldLink_RX3_66_SR_Machine_rowCount_I) (fun _ q9 => q9) dX3_note_16 rfl ?_
    refine lv_imul hx hb dX3_note_19 ?_
    refine lv_iload_n hx hb dX3_note_20 rfl (lv_at hl 1 rfl) ?_
    have he9 := (cArr_64 (Q := Q) (σ := σ))
    have hFc := cFree1 hC hA he9
    have hr9 : CS.hs σ ≤ CS.hs R.2 := Mono.go hf (mono_some (Nat.le_refl _))
    refine va_callv (va_runSN (As := [.ref (Q.q 64), .int (2 * (σ.i 69)), .int x1]) (rest := []) ⟨hx, hb, hml, hown, hts⟩ (c_X11_put l dC dI _ (Q.q 64) (Q.c 0) 400 (σ.a 64) (2 * (σ.i 69)) x1 (by decide)) ⟨va_cnB 3 hts hX3_note_X11_put_n50 rfl rfl rfl (hZ.1 (.methodLinkNest RX3 50 yX11_put "StatementRules2") (by decide +kernel)) (hts (.initialized RX11) k_X3_note_initialized_RX11) (by decide +kernel) ⟨(show 1 + 1 ≤ 2 by omega), (show 8 + (3 + 11) + 60 * 1 ≤ 60 * 2 by omega)⟩, (hts (.static yX11_put) k_X3_note_static_yX11_put), trivial⟩ ⟨zPre.blind, zPre.go hZ (cOne hC.1 he9) (hK.sub (tys' := [(Q.c 0, .int)]) [0] rfl) (cOneD hC.2.1 he9)⟩ rfl rfl hl.1 rfl (lv_room (Nat.le_of_ble_eq_true rfl)) dX3_note_21 ⟨cAcc4 h0 hr9, cAcc5 h0 hr9⟩) hC.2.2.1 (fun q _ h => hFc q h) hFc (fun u9 t9 H1 locs ht hvm hw hB hz1 hk1 hS => ?_)
    obtain ⟨⟨hP1, hK1, hD1⟩, hsz1⟩ := hB
    rw [ht] at hP1 hsz1
    have hC := cBack (σ' := CS.putA σ 64 (gPut (σ.a 64) 400 (2 * (σ.i 69)) x1)) hC he9 cPutA_64 (cPutA_h _ _ _) hk1 hP1 hsz1 hS
    generalize H1 = H at hC ⊢
    refine lv_aload_n hx hb dX3_note_24 rfl (lv_at hl 0 rfl) ?_
    refine cG_64 hx hb hts i_X3_note_X3 hown hK hC (hts (.fieldLink RX3 33 "StatementRules2$Machine" "rows" "[I") k_X3_note_fieldLink_RX3_33_SR_Machine_rows_I) (fun _ q9 => q9) dX3_note_25 ?_
    refine lv_iconst (v := 2) hx hb dX3_note_28 (by decide) ?_
    refine lv_aload_n hx hb dX3_note_29 rfl (lv_at hl 0 rfl) ?_
    refine cG_69 (v := (σ.i 69)) hx hb hts i_X3_note_X3 hown hK hC (hts (.fieldLink RX3 66 "StatementRules2$Machine" "rowCount" "I") k_X3_note_fieldLink_RX3_66_SR_Machine_rowCount_I) (fun _ q9 => q9) dX3_note_30 rfl ?_
    refine lv_imul hx hb dX3_note_33 ?_
    refine lv_iconst (v := 1) hx hb dX3_note_34 (by decide) ?_
    refine lv_iadd hx hb dX3_note_35 ?_
    refine lv_iload_n hx hb dX3_note_36 rfl (lv_at hl 2 rfl) ?_
    have he9 := (cArr_64 (Q := Q) (σ := CS.putA σ 64 (gPut (σ.a 64) 400 (2 * (σ.i 69)) x1)))
    have hFc := cFree1 hC hA he9
    have hr9 : CS.hs σ ≤ CS.hs R.2 := Mono.go hf (mono_some (Nat.le_refl _))
    refine va_callv (va_runSN (As := [.ref (Q.q 64), .int ((2 * (σ.i 69)) + 1), .int x2]) (rest := []) ⟨hx, hb, hml, hown, hts⟩ (c_X11_put l dC dI _ (Q.q 64) (Q.c 0) 400 (CS.a (CS.putA σ 64 (gPut (σ.a 64) 400 (2 * (σ.i 69)) x1)) 64) ((2 * (σ.i 69)) + 1) x2 (by decide)) ⟨va_cnB 3 hts hX3_note_X11_put_n50 rfl rfl rfl (hZ.1 (.methodLinkNest RX3 50 yX11_put "StatementRules2") (by decide +kernel)) (hts (.initialized RX11) k_X3_note_initialized_RX11) (by decide +kernel) ⟨(show 1 + 1 ≤ 2 by omega), (show 8 + (3 + 11) + 60 * 1 ≤ 60 * 2 by omega)⟩, (hts (.static yX11_put) k_X3_note_static_yX11_put), trivial⟩ ⟨zPre.blind, zPre.go hZ (cOne hC.1 he9) (hK.sub (tys' := [(Q.c 0, .int)]) [0] rfl) (cOneD hC.2.1 he9)⟩ rfl rfl hl.1 rfl (lv_room (Nat.le_of_ble_eq_true rfl)) dX3_note_37 ⟨cAcc4 h0 hr9, cAcc5 h0 hr9⟩) hC.2.2.1 (fun q _ h => hFc q h) hFc (fun u9 t9 H1 locs ht hvm hw hB hz1 hk1 hS => ?_)
    obtain ⟨⟨hP1, hK1, hD1⟩, hsz1⟩ := hB
    rw [ht] at hP1 hsz1
    have hC := cBack (σ' := CS.putA (CS.putA σ 64 (gPut (σ.a 64) 400 (2 * (σ.i 69)) x1)) 64 (gPut (CS.a (CS.putA σ 64 (gPut (σ.a 64) 400 (2 * (σ.i 69)) x1)) 64) 400 ((2 * (σ.i 69)) + 1) x2)) hC he9 cPutA_64 (cPutA_h _ _ _) hk1 hP1 hsz1 hS
    generalize H1 = H at hC ⊢
    refine lv_aload_n hx hb dX3_note_40 rfl (lv_at hl 0 rfl) ?_
    refine lv_dup hx hb dX3_note_41 rfl ?_
    refine cG_69 (v := (σ.i 69)) hx hb hts i_X3_note_X3 hown hK hC (hts (.fieldLink RX3 66 "StatementRules2$Machine" "rowCount" "I") k_X3_note_fieldLink_RX3_66_SR_Machine_rowCount_I) (fun _ q9 => q9) dX3_note_42 rfl ?_
    refine lv_iconst (v := 1) hx hb dX3_note_45 (by decide) ?_
    refine lv_iadd hx hb dX3_note_46 ?_
    refine cP_69 (v := ((σ.i 69) + 1)) hx hb hts i_X3_note_X3 hown hK hC (hts (.fieldLink RX3 66 "StatementRules2$Machine" "rowCount" "I") k_X3_note_fieldLink_RX3_66_SR_Machine_rowCount_I) (fun _ q9 => q9) dX3_note_47 (fun H locs hC => ?_)
    obtain rfl := Option.some.inj hf
    exact W.vret hx hb hr (fun t ht hW => ⟨⟨(), rfl, trivial, ⟨by rw [ht]; exact hC.1, va_K.moved hW.alike hK, hC.2.1⟩, by rw [ht]; exact hC.2.2.2⟩, hC.2.2.1.F ht⟩) hC.2.2.1.2.2 dX3_note_50
theorem k_X3_enter_fieldLink_RX3_60_SR_Machine_depth_I : Cond.fieldLink RX3 60 "StatementRules2$Machine" "depth" "I" ∈ wzX3_enter := List.mem_cons_of_mem _ (List.mem_append_left _ (List.mem_of_getElem? (i := 0) rfl))
theorem i_X3_enter_X3 : ∀ w ∈ wsX30, w ∈ wzX3_enter := fun _ h => List.mem_cons_of_mem _ (List.mem_append_right _ (List.mem_append_left _ (h)))
theorem k_X3_enter_fieldLink_RX3_20_SR_Machine_frames_LSR_Frame : Cond.fieldLink RX3 20 "StatementRules2$Machine" "frames" "[LStatementRules2$Frame;" ∈ wzX3_enter := List.mem_cons_of_mem _ (List.mem_append_left _ (List.mem_of_getElem? (i := 1) rfl))
theorem k_X3_enter_methodLink_RX3_187_yJ9_min_7cf53 : Cond.methodLink RX3 187 yJ9_min_7cf53 ∈ wzX3_enter := List.mem_cons_of_mem _ (List.mem_append_left _ (List.mem_of_getElem? (i := 2) rfl))
theorem k_X3_enter_static_yJ9_min_7cf53 : Cond.static yJ9_min_7cf53 ∈ wzX3_enter := List.mem_cons_of_mem _ (List.mem_append_left _ (List.mem_of_getElem? (i := 3) rfl))
theorem k_X3_enter_initialized_RJ9 : Cond.initialized RJ9 ∈ wzX3_enter := List.mem_cons_of_mem _ (List.mem_append_left _ (List.mem_of_getElem? (i := 4) rfl))
theorem k_X3_enter_code_yJ9_min_7cf53_cJ9_min_7cf53_2_some_int : Cond.code yJ9_min_7cf53 cJ9_min_7cf53 2 (some .int) ∈ wzX3_enter := List.mem_cons_of_mem _ (List.mem_append_left _ (List.mem_of_getElem? (i := 5) rfl))
theorem i_X3_enter_X2 : ∀ w ∈ wsX20, w ∈ wzX3_enter := fun _ h => List.mem_cons_of_mem _ (List.mem_append_right _ (List.mem_append_right _ (List.mem_append_left _ (h))))
theorem k_X3_enter_classLink_RX3_18_RX2 : Cond.classLink RX3 18 RX2 ∈ wzX3_enter := List.mem_cons_of_mem _ (List.mem_append_left _ (List.mem_of_getElem? (i := 6) rfl))
theorem k_X3_enter_instantiable_RX2_8 : Cond.instantiable RX2 8 ∈ wzX3_enter := List.mem_cons_of_mem _ (List.mem_append_left _ (List.mem_of_getElem? (i := 7) rfl))
theorem k_X3_enter_initialized_RX2 : Cond.initialized RX2 ∈ wzX3_enter := List.mem_cons_of_mem _ (List.mem_append_left _ (List.mem_of_getElem? (i := 8) rfl))
theorem k_X3_enter_instanceMethod_yX2_init : Cond.instanceMethod yX2_init ∈ wzX3_enter := List.mem_cons_of_mem _ (List.mem_append_left _ (List.mem_of_getElem? (i := 9) rfl))
theorem k_X3_enter_fieldLink_RX3_54_SR_Machine_height_I : Cond.fieldLink RX3 54 "StatementRules2$Machine" "height" "I" ∈ wzX3_enter := List.mem_cons_of_mem _ (List.mem_append_left _ (List.mem_of_getElem? (i := 10) rfl))
theorem k_X3_enter_fieldLink_RX3_63_SR_Machine_openedCount_I : Cond.fieldLink RX3 63 "StatementRules2$Machine" "openedCount" "I" ∈ wzX3_enter := List.mem_cons_of_mem _ (List.mem_append_left _ (List.mem_of_getElem? (i := 11) rfl))
set_option maxHeartbeats 4000000 in
set_option maxRecDepth 100000 in
theorem j_X3_enter_45 {p : Program} {e : Env} {s : State} {m : MethodId} {args : Array Value} {below : List Frame} {meth : Method} {c : Code} {A : Nat → Prop} (l : Launch) (dC : Nat → ClassId) (dI : Nat → Nat → Nat) (Q : CQ) (N : Nat) (z9h : Nat) (R : Unit × CS) (hx : p.tables.exec = Jvm.exec) (hb : c.code = cX3_enter) (hr : meth.sig.returnType = none) (hml : c.maxLocals = 5) (hown : s.vm.findClass RX3 = some m.cls) (hts : ∀ w ∈ wzX3_enter, w.before args s = true) (hlocks : meth.locks = false) (hZ : zAMB s) (hA : ∀ q : Nat, s.heap.size ≤ q → A q) (hK : va_K (dC, dI) vwCl (cT Q) s) : ∀ (σ : CS) (x1 : Int32) (x2 : Int32) (x3 : Int32) (x4 : Nat) (H : Heap) (locs : List Loc) (ls : Array Slot), f_X3_enter_45 N σ x1 x2 x3 x4 = some R → z9h ≤ CS.hs σ → CP dC dI Q A s.heap σ H locs → lv_has ls 5 [(0, .ref (Q.o 7)), (1, .int x1), (2, .int x2), (3, .int x3), (4, .ref x4)] → W p l e ({ frames := 2, cells := CS.hs R.2 - z9h, slots := 17 * (CS.hs R.2 - z9h), locals := 60 * 2 }) s m args below meth c H locs (CS.hs σ - z9h) (17 * (CS.hs σ - z9h)) (MQ below (va_Qv (fun (_ : Unit) => True) (fun (_ : Unit) (t : State) => zPost dC dI A (cW Q R.2) (cT Q) t ∧ t.heap.size = CS.hs R.2) A) args s (CS.hs R.2 - z9h) (17 * (CS.hs R.2 - z9h)) A) (F0 m 45 ls []) := by
  intro σ x1 x2 x3 x4 H locs ls hf h0 hC hl
  unfold f_X3_enter_45 at hf
  refine lv_aload hx hb dX3_enter_45 (lv_at hl 4 rfl) ?_
  refine lv_iload_n hx hb dX3_enter_47 rfl (lv_at hl 1 rfl) ?_
  obtain ⟨b11, hf⟩ := hf_ite hf
  refine pPN_X2_0 (v := x1) hx hb hts i_X3_enter_X2 hown hK hC (va_Nw.use rfl (hZ.1 (.fieldLinkNest RX3 194 "StatementRules2$Frame" "phase" "I" "StatementRules2") (by decide +kernel))) (fun _ q9 => q9) dX3_enter_48 b11 (fun H locs hC => ?_)
  refine lv_aload hx hb dX3_enter_51 (lv_at hl 4 rfl) ?_
  refine lv_iload_n hx hb dX3_enter_53 rfl (lv_at hl 2 rfl) ?_
  refine pPN_X2_1 (v := x2) hx hb hts i_X3_enter_X2 hown hK hC (va_Nw.use rfl (hZ.1 (.fieldLinkNest RX3 197 "StatementRules2$Frame" "argument" "I" "StatementRules2") (by decide +kernel))) (fun _ q9 => q9) dX3_enter_54 b11 (fun H locs hC => ?_)
  refine lv_aload hx hb dX3_enter_57 (lv_at hl 4 rfl) ?_
  refine lv_aload_n hx hb dX3_enter_59 rfl (lv_at hl 0 rfl) ?_
  refine cG_65 (v := (σ.i 65)) hx hb hts i_X3_enter_X3 hown hK hC (hts (.fieldLink RX3 54 "StatementRules2$Machine" "height" "I") k_X3_enter_fieldLink_RX3_54_SR_Machine_height_I) (fun _ q9 => q9) dX3_enter_60 rfl ?_
  refine pPN_X2_2 (v := (σ.i 65)) hx hb hts i_X3_enter_X2 hown hK hC (va_Nw.use rfl (hZ.1 (.fieldLinkNest RX3 200 "StatementRules2$Frame" "height" "I" "StatementRules2") (by decide +kernel))) (fun _ q9 => q9) dX3_enter_63 b11 (fun H locs hC => ?_)
  refine lv_aload hx hb dX3_enter_66 (lv_at hl 4 rfl) ?_
  refine lv_aload_n hx hb dX3_enter_68 rfl (lv_at hl 0 rfl) ?_
  refine cG_68 (v := (σ.i 68)) hx hb hts i_X3_enter_X3 hown hK hC (hts (.fieldLink RX3 63 "StatementRules2$Machine" "openedCount" "I") k_X3_enter_fieldLink_RX3_63_SR_Machine_openedCount_I) (fun _ q9 => q9) dX3_enter_69 rfl ?_
  refine pPN_X2_3 (v := (σ.i 68)) hx hb hts i_X3_enter_X2 hown hK hC (va_Nw.use rfl (hZ.1 (.fieldLinkNest RX3 201 "StatementRules2$Frame" "openedBefore" "I" "StatementRules2") (by decide +kernel))) (fun _ q9 => q9) dX3_enter_72 b11 (fun H locs hC => ?_)
  refine lv_aload hx hb dX3_enter_75 (lv_at hl 4 rfl) ?_
  refine lv_null hx hb dX3_enter_77 ?_
  refine pPN_X2_4 (v := none) hx hb hts i_X3_enter_X2 hown hK hC (va_Nw.use rfl (hZ.1 (.fieldLinkNest RX3 204 "StatementRules2$Frame" "thrown" "LStatementRules2$Thrown;" "StatementRules2") (by decide +kernel))) (fun _ q9 => q9) dX3_enter_78 b11 (fun H locs hC => ?_)
  refine lv_aload_n hx hb dX3_enter_81 rfl (lv_at hl 0 rfl) ?_
  refine lv_iload_n hx hb dX3_enter_82 rfl (lv_at hl 3 rfl) ?_
  refine lv_iconst (v := 1) hx hb dX3_enter_83 (by decide) ?_
  refine lv_iadd hx hb dX3_enter_84 ?_
  refine cP_67 (v := (x3 + 1)) hx hb hts i_X3_enter_X3 hown hK hC (hts (.fieldLink RX3 60 "StatementRules2$Machine" "depth" "I") k_X3_enter_fieldLink_RX3_60_SR_Machine_depth_I) (fun _ q9 => q9) dX3_enter_85 (fun H locs hC => ?_)
  obtain rfl := Option.some.inj hf
  exact W.vret hx hb hr (fun t ht hW => ⟨⟨(), rfl, trivial, ⟨by rw [ht]; exact hC.1, va_K.moved hW.alike hK, hC.2.1⟩, by rw [ht]; exact hC.2.2.2⟩, hC.2.2.1.F ht⟩) hC.2.2.1.2.2 dX3_enter_88
set_option maxHeartbeats 4000000 in
set_option maxRecDepth 100000 in
theorem c_X3_enter (l : Launch) (dC : Nat → ClassId) (dI : Nat → Nat → Nat) (Q : CQ) (N : Nat) (σ : CS) (x1 : Int32) (x2 : Int32) (R : Unit × CS) (hf : f_X3_enter N σ x1 x2 = some R) : Met l yX3_enter wzX3_enter ({ frames := 2, cells := CS.hs R.2 - CS.hs σ, slots := 17 * (CS.hs R.2 - CS.hs σ), locals := 60 * 2 }) (va_Pc [.ref (Q.o 7), .int x1, .int x2] (zPre dC dI (CS.hs σ) (cW Q σ) (cT Q))) (va_Qv (fun (_ : Unit) => True) (fun (_ : Unit) (t : State) => zPost dC dI (va_A (cW Q σ) (CS.hs σ)) (cW Q R.2) (cT Q) t ∧ t.heap.size = CS.hs R.2) (va_A (cW Q σ) (CS.hs σ))) (CS.hs R.2 - CS.hs σ) (17 * (CS.hs R.2 - CS.hs σ)) (va_A (cW Q σ) (CS.hs σ)) := by
  refine Met.ofW (cc := cX3_enter) (maxL := 5) (ret := none) (by decide) rfl ?_
  intro p e s m args below meth c s₁ B hml hv
  obtain ⟨rfl, hsz, hZ, hP, hK, hD0⟩ := hv
  have hx := B.exec
  have hb := B.bytes
  have hr := B.returns
  have hts := atoms_spec (ws := wzX3_enter) B.pre
  have hown : s.vm.findClass RX3 = some m.cls := findClass_of_methodNamed B.named
  have hlocks := B.notSynchronized
  have hD := hD0.self (sz := CS.hs σ)
  generalize hAe : va_A (cW Q σ) (CS.hs σ) = A at hD ⊢
  have hA : ∀ q : Nat, s.heap.size ≤ q → A q := fun q h => by rw [← hAe]; exact Or.inr (hsz ▸ h)
  have hC : CP dC dI Q A s.heap σ s.heap [] := ⟨hP, hD, va_S.rf, hsz⟩
  have h0 : CS.hs σ ≤ CS.hs σ := Nat.le_refl _
  have hl := lv_entry ([.ref (Q.o 7), .int x1, .int x2]) (n := 5) (Nat.le_of_ble_eq_true rfl)
  rw [lg_entry_eq]
  generalize (lg_sl ([.ref (Q.o 7), .int x1, .int x2]) ++ List.replicate (5 - (lg_sl ([.ref (Q.o 7), .int x1, .int x2])).length) Slot.unset).toArray = ls at hl ⊢
  have hl : lv_has ls 5 [(0, .ref (Q.o 7)), (1, .int x1), (2, .int x2)] := hl
  unfold f_X3_enter at hf
  refine W.widen (k := CS.hs σ - CS.hs σ) (n := 17 * (CS.hs σ - CS.hs σ)) (Nat.zero_le _) (Nat.zero_le _) ?_
  refine lv_aload_n hx hb dX3_enter_0 rfl (lv_at hl 0 rfl) ?_
  refine cG_67 (v := (σ.i 67)) hx hb hts i_X3_enter_X3 hown hK hC (hts (.fieldLink RX3 60 "StatementRules2$Machine" "depth" "I") k_X3_enter_fieldLink_RX3_60_SR_Machine_depth_I) (fun _ q9 => q9) dX3_enter_1 rfl ?_
  refine lv_aload_n hx hb dX3_enter_4 rfl (lv_at hl 0 rfl) ?_
  refine cG_61 hx hb hts i_X3_enter_X3 hown hK hC (hts (.fieldLink RX3 20 "StatementRules2$Machine" "frames" "[LStatementRules2$Frame;") k_X3_enter_fieldLink_RX3_20_SR_Machine_frames_LSR_Frame) (fun _ q9 => q9) dX3_enter_5 ?_
  refine va_alen (v := 24) hx hb hK hC.1 26 3 rfl rfl rfl dX3_enter_8 ?_
  refine lv_iconst (v := 1) hx hb dX3_enter_9 (by decide) ?_
  refine lv_isub hx hb dX3_enter_10 ?_
  refine lv_topi (fun z9 e9 => ?_)
  obtain rfl : z9 = 23 := e9.trans (by decide)
  have hr9 : CS.hs σ ≤ CS.hs R.2 := Mono.go hf (mono_ite (mono_oc (mono_le (Nat.le_succ _) (mono_bind (m_X2_init N (CS.new σ 1) (CS.hs σ)) (fun p5 => (mono_ite (mono_ite (m_X3_enter_45 N (CS.setR p5.2 61 (((if (23 : Int32) < (σ.i 67) then (23 : Int32) else (σ.i 67)) : Int32).toNatClampNeg) (some (CS.hs σ))) x1 x2 (if (23 : Int32) < (σ.i 67) then (23 : Int32) else (σ.i 67)) (CS.hs σ)) mono_none) mono_none)))) (fun a3 => (m_X3_enter_45 N σ x1 x2 (if (23 : Int32) < (σ.i 67) then (23 : Int32) else (σ.i 67)) a3))) mono_none)
  refine va_mmin hx hb (hml.trans hl.1.symm) hown (hts (.methodLink RX3 187 yJ9_min_7cf53) k_X3_enter_methodLink_RX3_187_yJ9_min_7cf53) (hts (.static yJ9_min_7cf53) k_X3_enter_static_yJ9_min_7cf53) (hts (.initialized RJ9) k_X3_enter_initialized_RJ9) (hts (.code yJ9_min_7cf53 cJ9_min_7cf53 2 (some .int)) k_X3_enter_code_yJ9_min_7cf53_cJ9_min_7cf53_2_some_int) (Nat.le_of_ble_eq_true rfl) (Nat.le_of_ble_eq_true rfl) (cAcc4 h0 hr9) (cAcc5 h0 hr9) dX3_enter_11 ?_
  refine lv_istore_n (lv' := [(3, .int (if (23 : Int32) < (σ.i 67) then (23 : Int32) else (σ.i 67))), (0, .ref (Q.o 7)), (1, .int x1), (2, .int x2)]) hx hb dX3_enter_14 rfl hl (by decide) rfl (fun ls hl => ?_)
  refine lv_aload_n hx hb dX3_enter_15 rfl (lv_at hl 1 rfl) ?_
  refine cG_61 hx hb hts i_X3_enter_X3 hown hK hC (hts (.fieldLink RX3 20 "StatementRules2$Machine" "frames" "[LStatementRules2$Frame;") k_X3_enter_fieldLink_RX3_20_SR_Machine_frames_LSR_Frame) (fun _ q9 => q9) dX3_enter_16 ?_
  refine lv_iload_n hx hb dX3_enter_19 rfl (lv_at hl 0 rfl) ?_
  obtain ⟨b1, hf⟩ := hf_ite hf
  refine cL_61 (v := (CS.r σ 61 (((if (23 : Int32) < (σ.i 67) then (23 : Int32) else (σ.i 67)) : Int32).toNatClampNeg))) hx hb hK hC b1 dX3_enter_20 rfl ?_
  rcases hf_oc hf with ⟨q2, hf⟩ | ⟨a3, q2, hf⟩
  ·
    refine W.eq (congrArg (fun v9 => F0 m 21 ls (va_rf v9 :: [])) q2) ?_
    refine W.eq (g2 := F0 m 21 ls (.null :: [])) rfl ?_
    refine lv_astoreN (lv' := [(4, .null), (3, .int (if (23 : Int32) < (σ.i 67) then (23 : Int32) else (σ.i 67))), (0, .ref (Q.o 7)), (1, .int x1), (2, .int x2)]) hx hb dX3_enter_21 hl (by decide) rfl (fun ls hl => ?_)
    refine lv_aloadN hx hb dX3_enter_23 (lv_at hl 0 rfl) ?_
    refine lv_ifnonnullN hx hb dX3_enter_25 ?_
    have hn9 : CS.hs σ + 1 ≤ CS.hs R.2 := Mono.go hf (mono_bind (m_X2_init N (CS.new σ 1) (CS.hs σ)) (fun p5 => (mono_ite (mono_ite (m_X3_enter_45 N (CS.setR p5.2 61 (((if (23 : Int32) < (σ.i 67) then (23 : Int32) else (σ.i 67)) : Int32).toNatClampNeg) (some (CS.hs σ))) x1 x2 (if (23 : Int32) < (σ.i 67) then (23 : Int32) else (σ.i 67)) (CS.hs σ)) mono_none) mono_none)))
    refine cNew_X2 hx hb hts i_X3_enter_X2 hown (hts (.classLink RX3 18 RX2) k_X3_enter_classLink_RX3_18_RX2) (hts (.instantiable RX2 8) k_X3_enter_instantiable_RX2_8) (hts (.initialized RX2) k_X3_enter_initialized_RX2) hK hC hA (cN1 h0 hn9) (cN2 (by decide) h0 hn9) dX3_enter_28 (fun H hC => ?_)
    have h4 : (CS.hs σ) ≤ CS.hs σ + 1 := Nat.le_succ_of_le h0
    refine W.widen (k := (CS.hs σ + 1) - (CS.hs σ)) (n := 17 * ((CS.hs σ + 1) - (CS.hs σ))) (cN3 h0) (cN4 (by decide) h0) ?_
    refine lv_dup hx hb dX3_enter_31 rfl ?_
    obtain ⟨p5, hcp5, hf⟩ := hf_bind hf
    have mo6 : (CS.hs σ + 1) ≤ CS.hs p5.2 := Mono.go hcp5 (m_X2_init N (CS.new σ 1) (CS.hs σ))
    have hr9 : CS.hs p5.2 ≤ CS.hs R.2 := Mono.go hf (mono_ite (mono_ite (m_X3_enter_45 N (CS.setR p5.2 61 (((if (23 : Int32) < (σ.i 67) then (23 : Int32) else (σ.i 67)) : Int32).toNatClampNeg) (some (CS.hs σ))) x1 x2 (if (23 : Int32) < (σ.i 67) then (23 : Int32) else (σ.i 67)) (CS.hs σ)) mono_none) mono_none)
    have hFc := cFree hC hA
    refine va_callv (va_runIN (As := []) (rest := [.ref (CS.hs σ)]) ⟨hx, hb, hml, hown, hts⟩ (c_X2_init l dC dI Q N (CS.new σ 1) (CS.hs σ) p5 hcp5) ⟨va_cnB 0 hts hX3_enter_X2_init_n193 rfl rfl rfl (hZ.1 (.methodLinkNest RX3 193 yX2_init "StatementRules2") (by decide +kernel)) (hts (.initialized RX2) k_X3_enter_initialized_RX2) (by decide +kernel) ⟨(show 1 + 1 ≤ 2 by omega), (show 8 + (1 + 11) + 60 * 1 ≤ 60 * 2 by omega)⟩, rfl, (hts (.instanceMethod yX2_init) k_X3_enter_instanceMethod_yX2_init)⟩ ⟨zPre.blind, cPre_go hZ hK hC⟩ rfl rfl hl.1 rfl (lv_room (Nat.le_of_ble_eq_true rfl)) dX3_enter_32 (cAcc h4 mo6 hr9)) hC.2.2.1 (fun q _ h => hFc q h) hFc (fun u9 t9 H1 locs ht hvm hw hB hz1 hk1 hS => ?_)
    obtain ⟨⟨hP, hK1, hD1⟩, hsz1⟩ := hB
    rw [ht] at hP hsz1
    have hC : CP dC dI Q A s.heap p5.2 H1 locs := ⟨hP, hD1.weaken (fun _ _ _ h => hFc _ h), hS, hsz1⟩
    generalize H1 = H at hC ⊢
    have h8 : (CS.hs σ) ≤ CS.hs p5.2 := Nat.le_trans h4 mo6
    refine W.widen (k := CS.hs p5.2 - (CS.hs σ)) (n := 17 * (CS.hs p5.2 - (CS.hs σ))) (cAcc2 h4 mo6) (cAcc3 h4 mo6) ?_
    refine lv_astore (lv' := [(4, .ref (CS.hs σ)), (3, .int (if (23 : Int32) < (σ.i 67) then (23 : Int32) else (σ.i 67))), (0, .ref (Q.o 7)), (1, .int x1), (2, .int x2)]) hx hb dX3_enter_35 hl (by decide) rfl (fun ls hl => ?_)
    refine lv_aload_n hx hb dX3_enter_37 rfl (lv_at hl 2 rfl) ?_
    refine cG_61 hx hb hts i_X3_enter_X3 hown hK hC (hts (.fieldLink RX3 20 "StatementRules2$Machine" "frames" "[LStatementRules2$Frame;") k_X3_enter_fieldLink_RX3_20_SR_Machine_frames_LSR_Frame) (fun _ q9 => q9) dX3_enter_38 ?_
    refine lv_iload_n hx hb dX3_enter_41 rfl (lv_at hl 1 rfl) ?_
    refine lv_aload hx hb dX3_enter_42 (lv_at hl 0 rfl) ?_
    obtain ⟨b9, hf⟩ := hf_ite hf
    obtain ⟨b10, hf⟩ := hf_ite hf
    refine cS_61 hx hb hK hC b9 dX3_enter_44 b10 (fun H locs hC => ?_)
    exact j_X3_enter_45 l dC dI Q N (CS.hs σ) R hx hb hr hml hown hts hlocks hZ hA hK (CS.setR p5.2 61 (((if (23 : Int32) < (σ.i 67) then (23 : Int32) else (σ.i 67)) : Int32).toNatClampNeg) (some (CS.hs σ))) x1 x2 (if (23 : Int32) < (σ.i 67) then (23 : Int32) else (σ.i 67)) (CS.hs σ) _ _ _ hf h8 hC (lv_sub hl [2, 3, 4, 1, 0] rfl)
  ·
    refine W.eq (congrArg (fun v9 => F0 m 21 ls (va_rf v9 :: [])) q2) ?_
    refine W.eq (g2 := F0 m 21 ls (.ref a3 :: [])) rfl ?_
    refine lv_astore (lv' := [(4, .ref a3), (3, .int (if (23 : Int32) < (σ.i 67) then (23 : Int32) else (σ.i 67))), (0, .ref (Q.o 7)), (1, .int x1), (2, .int x2)]) hx hb dX3_enter_21 hl (by decide) rfl (fun ls hl => ?_)
    refine lv_aload hx hb dX3_enter_23 (lv_at hl 0 rfl) ?_
    refine lv_ifnonnull (tgt := 45) hx hb dX3_enter_25 (by decide) ?_
    exact j_X3_enter_45 l dC dI Q N (CS.hs σ) R hx hb hr hml hown hts hlocks hZ hA hK σ x1 x2 (if (23 : Int32) < (σ.i 67) then (23 : Int32) else (σ.i 67)) a3 _ _ _ hf h0 hC (lv_sub hl [2, 3, 4, 1, 0] rfl)
theorem k_X3_openOne_fieldLink_RX3_36_SR_Machine_told_LSR_Told : Cond.fieldLink RX3 36 "StatementRules2$Machine" "told" "LStatementRules2$Told;" ∈ wzX3_openOne := List.mem_cons_of_mem _ (List.mem_append_left _ (List.mem_of_getElem? (i := 0) rfl))
theorem i_X3_openOne_X3 : ∀ w ∈ wsX30, w ∈ wzX3_openOne := fun _ h => List.mem_cons_of_mem _ (List.mem_append_right _ (List.mem_append_left _ (h)))
theorem i_X3_openOne_X10 : ∀ w ∈ wsX100, w ∈ wzX3_openOne := fun _ h => List.mem_cons_of_mem _ (List.mem_append_right _ (List.mem_append_right _ (List.mem_append_left _ (h))))
theorem k_X3_openOne_initialized_RX11 : Cond.initialized RX11 ∈ wzX3_openOne := List.mem_cons_of_mem _ (List.mem_append_left _ (List.mem_of_getElem? (i := 1) rfl))
theorem k_X3_openOne_static_yX11_at : Cond.static yX11_at ∈ wzX3_openOne := List.mem_cons_of_mem _ (List.mem_append_left _ (List.mem_of_getElem? (i := 2) rfl))
theorem k_X3_openOne_fieldLink_RX3_30_SR_Machine_opened_I : Cond.fieldLink RX3 30 "StatementRules2$Machine" "opened" "[I" ∈ wzX3_openOne := List.mem_cons_of_mem _ (List.mem_append_left _ (List.mem_of_getElem? (i := 3) rfl))
theorem k_X3_openOne_fieldLink_RX3_63_SR_Machine_openedCount_I : Cond.fieldLink RX3 63 "StatementRules2$Machine" "openedCount" "I" ∈ wzX3_openOne := List.mem_cons_of_mem _ (List.mem_append_left _ (List.mem_of_getElem? (i := 4) rfl))
theorem k_X3_openOne_static_yX11_put : Cond.static yX11_put ∈ wzX3_openOne := List.mem_cons_of_mem _ (List.mem_append_left _ (List.mem_of_getElem? (i := 5) rfl))
set_option maxHeartbeats 4000000 in
set_option maxRecDepth 100000 in
theorem c_X3_openOne (l : Launch) (dC : Nat → ClassId) (dI : Nat → Nat → Nat) (Q : CQ) (N : Nat) (σ : CS) (x1 : Int32) (R : Unit × CS) (hf : f_X3_openOne N σ x1 = some R) : Met l yX3_openOne wzX3_openOne ({ frames := 4, cells := CS.hs R.2 - CS.hs σ, slots := 17 * (CS.hs R.2 - CS.hs σ), locals := 60 * 4 }) (va_Pc [.ref (Q.o 7), .int x1] (zPre dC dI (CS.hs σ) (cW Q σ) (cT Q))) (va_Qv (fun (_ : Unit) => True) (fun (_ : Unit) (t : State) => zPost dC dI (va_A (cW Q σ) (CS.hs σ)) (cW Q R.2) (cT Q) t ∧ t.heap.size = CS.hs R.2) (va_A (cW Q σ) (CS.hs σ))) (CS.hs R.2 - CS.hs σ) (17 * (CS.hs R.2 - CS.hs σ)) (va_A (cW Q σ) (CS.hs σ)) := by
  refine Met.ofW (cc := cX3_openOne) (maxL := 2) (ret := none) (by decide) rfl ?_
  intro p e s m args below meth c s₁ B hml hv
  obtain ⟨rfl, hsz, hZ, hP, hK, hD0⟩ := hv
  have hx := B.exec
  have hb := B.bytes
  have hr := B.returns
  have hts := atoms_spec (ws := wzX3_openOne) B.pre
  have hown : s.vm.findClass RX3 = some m.cls := findClass_of_methodNamed B.named
  have hlocks := B.notSynchronized
  have hD := hD0.self (sz := CS.hs σ)
  generalize hAe : va_A (cW Q σ) (CS.hs σ) = A at hD ⊢
  have hA : ∀ q : Nat, s.heap.size ≤ q → A q := fun q h => by rw [← hAe]; exact Or.inr (hsz ▸ h)
  have hC : CP dC dI Q A s.heap σ s.heap [] := ⟨hP, hD, va_S.rf, hsz⟩
  have h0 : CS.hs σ ≤ CS.hs σ := Nat.le_refl _
  have hl := lv_entry ([.ref (Q.o 7), .int x1]) (n := 2) (Nat.le_of_ble_eq_true rfl)
  rw [lg_entry_eq]
  generalize (lg_sl ([.ref (Q.o 7), .int x1]) ++ List.replicate (2 - (lg_sl ([.ref (Q.o 7), .int x1])).length) Slot.unset).toArray = ls at hl ⊢
  have hl : lv_has ls 2 [(0, .ref (Q.o 7)), (1, .int x1)] := hl
  unfold f_X3_openOne at hf
  refine W.widen (k := CS.hs σ - CS.hs σ) (n := 17 * (CS.hs σ - CS.hs σ)) (Nat.zero_le _) (Nat.zero_le _) ?_
  refine lv_aload_n hx hb dX3_openOne_0 rfl (lv_at hl 0 rfl) ?_
  refine cG_57 hx hb hts i_X3_openOne_X3 hown hK hC (hts (.fieldLink RX3 36 "StatementRules2$Machine" "told" "LStatementRules2$Told;") k_X3_openOne_fieldLink_RX3_36_SR_Machine_told_LSR_Told) (fun _ q9 => q9) dX3_openOne_1 ?_
  refine cGN_11 hx hb hts i_X3_openOne_X10 hown hK hC (va_Nw.use rfl (hZ.1 (.fieldLinkNest RX3 207 "StatementRules2$Told" "opening" "[I" "StatementRules2") (by decide +kernel))) (fun _ q9 => q9) dX3_openOne_4 ?_
  refine lv_iload_n hx hb dX3_openOne_7 rfl (lv_at hl 1 rfl) ?_
  have he9 := (cArr_11 (Q := Q) (σ := σ))
  have hFc := cFree1 hC hA he9
  have hr9 : CS.hs σ ≤ CS.hs R.2 := Mono.go hf (mono_ite (mono_ite (mono_bind (m_X3_note N σ 1 x1) (fun p5 => (mono_some (Nat.le_refl _)))) (mono_some (Nat.le_refl _))) (mono_bind (m_X3_raise N σ (gAt (σ.a 11) 8 x1) x1) (fun p10 => (mono_some (Nat.le_refl _)))))
  refine va_calli (va_runSN (As := [.ref (Q.q 11), .int x1]) (rest := []) ⟨hx, hb, hml, hown, hts⟩ (c_X11_at l dC dI _ (Q.q 11) (Q.c 0) 8 (σ.a 11) x1 (by decide)) ⟨va_cnB 2 hts hX3_openOne_X11_at_n111 rfl rfl rfl (hZ.1 (.methodLinkNest RX3 111 yX11_at "StatementRules2") (by decide +kernel)) (hts (.initialized RX11) k_X3_openOne_initialized_RX11) (by decide +kernel) ⟨(show 1 + 1 ≤ 4 by omega), (show 8 + (2 + 11) + 60 * 1 ≤ 60 * 4 by omega)⟩, (hts (.static yX11_at) k_X3_openOne_static_yX11_at), trivial⟩ ⟨zPre.blind, zPre.go hZ (cOne hC.1 he9) (hK.sub (tys' := [(Q.c 0, .int)]) [0] rfl) (cOneD hC.2.1 he9)⟩ rfl rfl hl.1 rfl (lv_room (Nat.le_of_ble_eq_true rfl)) dX3_openOne_8 ⟨cAcc4 h0 hr9, cAcc5 h0 hr9⟩) hC.2.2.1 (fun q _ h => hFc q h) hFc (fun r1 u9 t9 H1 locs ht hvm hw hB hz1 hk1 hS => ?_)
  obtain ⟨⟨hP1, hK1, hD1⟩, hsz1⟩ := hB
  rw [ht] at hP1 hsz1
  have hC := cBack (σ' := σ) hC he9 (cSelf he9) (Eq.refl (CS.hs σ)) hk1 hP1 hsz1 hS
  generalize H1 = H at hC ⊢
  obtain rfl : r1 = (gAt (σ.a 11) 8 x1) := hw
  refine lv_if_lt (tgt := 33) hx hb dX3_openOne_11 (by decide) (fun c2 => ?_) (fun c2 => ?_)
  ·
    replace hf := (if_pos c2).symm.trans hf
    refine lv_aload_n hx hb dX3_openOne_33 rfl (lv_at hl 0 rfl) ?_
    refine cG_57 hx hb hts i_X3_openOne_X3 hown hK hC (hts (.fieldLink RX3 36 "StatementRules2$Machine" "told" "LStatementRules2$Told;") k_X3_openOne_fieldLink_RX3_36_SR_Machine_told_LSR_Told) (fun _ q9 => q9) dX3_openOne_34 ?_
    refine cGN_10 hx hb hts i_X3_openOne_X10 hown hK hC (va_Nw.use rfl (hZ.1 (.fieldLinkNest RX3 210 "StatementRules2$Told" "isNull" "[I" "StatementRules2") (by decide +kernel))) (fun _ q9 => q9) dX3_openOne_37 ?_
    refine lv_iload_n hx hb dX3_openOne_40 rfl (lv_at hl 1 rfl) ?_
    have he9 := (cArr_10 (Q := Q) (σ := σ))
    have hFc := cFree1 hC hA he9
    have hr9 : CS.hs σ ≤ CS.hs R.2 := Mono.go hf (mono_ite (mono_bind (m_X3_note N σ 1 x1) (fun p5 => (mono_some (Nat.le_refl _)))) (mono_some (Nat.le_refl _)))
    refine va_calli (va_runSN (As := [.ref (Q.q 10), .int x1]) (rest := []) ⟨hx, hb, hml, hown, hts⟩ (c_X11_at l dC dI _ (Q.q 10) (Q.c 0) 8 (σ.a 10) x1 (by decide)) ⟨va_cnB 2 hts hX3_openOne_X11_at_n111 rfl rfl rfl (hZ.1 (.methodLinkNest RX3 111 yX11_at "StatementRules2") (by decide +kernel)) (hts (.initialized RX11) k_X3_openOne_initialized_RX11) (by decide +kernel) ⟨(show 1 + 1 ≤ 4 by omega), (show 8 + (2 + 11) + 60 * 1 ≤ 60 * 4 by omega)⟩, (hts (.static yX11_at) k_X3_openOne_static_yX11_at), trivial⟩ ⟨zPre.blind, zPre.go hZ (cOne hC.1 he9) (hK.sub (tys' := [(Q.c 0, .int)]) [0] rfl) (cOneD hC.2.1 he9)⟩ rfl rfl hl.1 rfl (lv_room (Nat.le_of_ble_eq_true rfl)) dX3_openOne_41 ⟨cAcc4 h0 hr9, cAcc5 h0 hr9⟩) hC.2.2.1 (fun q _ h => hFc q h) hFc (fun r3 u9 t9 H1 locs ht hvm hw hB hz1 hk1 hS => ?_)
    obtain ⟨⟨hP1, hK1, hD1⟩, hsz1⟩ := hB
    rw [ht] at hP1 hsz1
    have hC := cBack (σ' := σ) hC he9 (cSelf he9) (Eq.refl (CS.hs σ)) hk1 hP1 hsz1 hS
    generalize H1 = H at hC ⊢
    obtain rfl : r3 = (gAt (σ.a 10) 8 x1) := hw
    refine lv_if_ne (tgt := 75) hx hb dX3_openOne_44 (by decide) (fun c4 => ?_) (fun c4 => ?_)
    ·
      replace hf := (if_neg c4).symm.trans hf
      obtain rfl := Option.some.inj hf
      exact W.vret hx hb hr (fun t ht hW => ⟨⟨(), rfl, trivial, ⟨by rw [ht]; exact hC.1, va_K.moved hW.alike hK, hC.2.1⟩, by rw [ht]; exact hC.2.2.2⟩, hC.2.2.1.F ht⟩) hC.2.2.1.2.2 dX3_openOne_75
    ·
      replace hf := (if_pos c4).symm.trans hf
      refine lv_aload_n hx hb dX3_openOne_47 rfl (lv_at hl 0 rfl) ?_
      refine lv_iconst (v := 1) hx hb dX3_openOne_48 (by decide) ?_
      refine lv_iload_n hx hb dX3_openOne_49 rfl (lv_at hl 1 rfl) ?_
      obtain ⟨p5, hcp5, hf⟩ := hf_bind hf
      have mo6 : CS.hs σ ≤ CS.hs p5.2 := Mono.go hcp5 (m_X3_note N σ 1 x1)
      have hr9 : CS.hs p5.2 ≤ CS.hs R.2 := Mono.go hf (mono_some (Nat.le_refl _))
      have hFc := cFree hC hA
      refine va_callv (va_runV (As := [.int 1, .int x1]) (rest := []) ⟨hx, hb, hml, hown, hts⟩ (c_X3_note l dC dI Q N σ 1 x1 p5 hcp5) (cwV 2 hts hX3_openOne_X3_note_v178 rfl rfl rfl (by decide +kernel) ⟨(show 2 + 1 ≤ 4 by omega), (show 8 + (3 + 11) + 60 * 2 ≤ 60 * 4 by omega)⟩) ⟨zPre.blind, va_recv hK hC.1 (ci := 2) (q0 := 7) rfl rfl, cPre_go hZ hK hC⟩ rfl rfl hl.1 rfl (lv_room (Nat.le_of_ble_eq_true rfl)) dX3_openOne_50 (cAcc h0 mo6 hr9)) hC.2.2.1 (fun q _ h => hFc q h) hFc (fun u9 t9 H1 locs ht hvm hw hB hz1 hk1 hS => ?_)
      obtain ⟨⟨hP, hK1, hD1⟩, hsz1⟩ := hB
      rw [ht] at hP hsz1
      have hC : CP dC dI Q A s.heap p5.2 H1 locs := ⟨hP, hD1.weaken (fun _ _ _ h => hFc _ h), hS, hsz1⟩
      generalize H1 = H at hC ⊢
      have h8 : (CS.hs σ) ≤ CS.hs p5.2 := Nat.le_trans h0 mo6
      refine W.widen (k := CS.hs p5.2 - (CS.hs σ)) (n := 17 * (CS.hs p5.2 - (CS.hs σ))) (cAcc2 h0 mo6) (cAcc3 h0 mo6) ?_
      refine lv_aload_n hx hb dX3_openOne_53 rfl (lv_at hl 0 rfl) ?_
      refine cG_63 hx hb hts i_X3_openOne_X3 hown hK hC (hts (.fieldLink RX3 30 "StatementRules2$Machine" "opened" "[I") k_X3_openOne_fieldLink_RX3_30_SR_Machine_opened_I) (fun _ q9 => q9) dX3_openOne_54 ?_
      refine lv_aload_n hx hb dX3_openOne_57 rfl (lv_at hl 0 rfl) ?_
      refine cG_68 (v := (p5.2.i 68)) hx hb hts i_X3_openOne_X3 hown hK hC (hts (.fieldLink RX3 63 "StatementRules2$Machine" "openedCount" "I") k_X3_openOne_fieldLink_RX3_63_SR_Machine_openedCount_I) (fun _ q9 => q9) dX3_openOne_58 rfl ?_
      refine lv_iload_n hx hb dX3_openOne_61 rfl (lv_at hl 1 rfl) ?_
      have he9 := (cArr_63 (Q := Q) (σ := p5.2))
      have hFc := cFree1 hC hA he9
      have hr9 : CS.hs p5.2 ≤ CS.hs R.2 := Mono.go hf (mono_some (Nat.le_refl _))
      refine va_callv (va_runSN (As := [.ref (Q.q 63), .int (p5.2.i 68), .int x1]) (rest := []) ⟨hx, hb, hml, hown, hts⟩ (c_X11_put l dC dI _ (Q.q 63) (Q.c 0) 320 (p5.2.a 63) (p5.2.i 68) x1 (by decide)) ⟨va_cnB 3 hts hX3_openOne_X11_put_n50 rfl rfl rfl (hZ.1 (.methodLinkNest RX3 50 yX11_put "StatementRules2") (by decide +kernel)) (hts (.initialized RX11) k_X3_openOne_initialized_RX11) (by decide +kernel) ⟨(show 1 + 1 ≤ 4 by omega), (show 8 + (3 + 11) + 60 * 1 ≤ 60 * 4 by omega)⟩, (hts (.static yX11_put) k_X3_openOne_static_yX11_put), trivial⟩ ⟨zPre.blind, zPre.go hZ (cOne hC.1 he9) (hK.sub (tys' := [(Q.c 0, .int)]) [0] rfl) (cOneD hC.2.1 he9)⟩ rfl rfl hl.1 rfl (lv_room (Nat.le_of_ble_eq_true rfl)) dX3_openOne_62 ⟨cAcc4 h8 hr9, cAcc5 h8 hr9⟩) hC.2.2.1 (fun q _ h => hFc q h) hFc (fun u9 t9 H1 locs ht hvm hw hB hz1 hk1 hS => ?_)
      obtain ⟨⟨hP1, hK1, hD1⟩, hsz1⟩ := hB
      rw [ht] at hP1 hsz1
      have hC := cBack (σ' := CS.putA p5.2 63 (gPut (p5.2.a 63) 320 (p5.2.i 68) x1)) hC he9 cPutA_63 (cPutA_h _ _ _) hk1 hP1 hsz1 hS
      generalize H1 = H at hC ⊢
      refine lv_aload_n hx hb dX3_openOne_65 rfl (lv_at hl 0 rfl) ?_
      refine lv_dup hx hb dX3_openOne_66 rfl ?_
      refine cG_68 (v := (p5.2.i 68)) hx hb hts i_X3_openOne_X3 hown hK hC (hts (.fieldLink RX3 63 "StatementRules2$Machine" "openedCount" "I") k_X3_openOne_fieldLink_RX3_63_SR_Machine_openedCount_I) (fun _ q9 => q9) dX3_openOne_67 rfl ?_
      refine lv_iconst (v := 1) hx hb dX3_openOne_70 (by decide) ?_
      refine lv_iadd hx hb dX3_openOne_71 ?_
      refine cP_68 (v := ((p5.2.i 68) + 1)) hx hb hts i_X3_openOne_X3 hown hK hC (hts (.fieldLink RX3 63 "StatementRules2$Machine" "openedCount" "I") k_X3_openOne_fieldLink_RX3_63_SR_Machine_openedCount_I) (fun _ q9 => q9) dX3_openOne_72 (fun H locs hC => ?_)
      obtain rfl := Option.some.inj hf
      exact W.vret hx hb hr (fun t ht hW => ⟨⟨(), rfl, trivial, ⟨by rw [ht]; exact hC.1, va_K.moved hW.alike hK, hC.2.1⟩, by rw [ht]; exact hC.2.2.2⟩, hC.2.2.1.F ht⟩) hC.2.2.1.2.2 dX3_openOne_75
  ·
    replace hf := (if_neg c2).symm.trans hf
    refine lv_aload_n hx hb dX3_openOne_14 rfl (lv_at hl 0 rfl) ?_
    refine lv_aload_n hx hb dX3_openOne_15 rfl (lv_at hl 0 rfl) ?_
    refine cG_57 hx hb hts i_X3_openOne_X3 hown hK hC (hts (.fieldLink RX3 36 "StatementRules2$Machine" "told" "LStatementRules2$Told;") k_X3_openOne_fieldLink_RX3_36_SR_Machine_told_LSR_Told) (fun _ q9 => q9) dX3_openOne_16 ?_
    refine cGN_11 hx hb hts i_X3_openOne_X10 hown hK hC (va_Nw.use rfl (hZ.1 (.fieldLinkNest RX3 207 "StatementRules2$Told" "opening" "[I" "StatementRules2") (by decide +kernel))) (fun _ q9 => q9) dX3_openOne_19 ?_
    refine lv_iload_n hx hb dX3_openOne_22 rfl (lv_at hl 1 rfl) ?_
    have he9 := (cArr_11 (Q := Q) (σ := σ))
    have hFc := cFree1 hC hA he9
    have hr9 : CS.hs σ ≤ CS.hs R.2 := Mono.go hf (mono_bind (m_X3_raise N σ (gAt (σ.a 11) 8 x1) x1) (fun p10 => (mono_some (Nat.le_refl _))))
    refine va_calli (va_runSN (As := [.ref (Q.q 11), .int x1]) (rest := [.ref (Q.o 7)]) ⟨hx, hb, hml, hown, hts⟩ (c_X11_at l dC dI _ (Q.q 11) (Q.c 0) 8 (σ.a 11) x1 (by decide)) ⟨va_cnB 2 hts hX3_openOne_X11_at_n111 rfl rfl rfl (hZ.1 (.methodLinkNest RX3 111 yX11_at "StatementRules2") (by decide +kernel)) (hts (.initialized RX11) k_X3_openOne_initialized_RX11) (by decide +kernel) ⟨(show 1 + 1 ≤ 4 by omega), (show 8 + (2 + 11) + 60 * 1 ≤ 60 * 4 by omega)⟩, (hts (.static yX11_at) k_X3_openOne_static_yX11_at), trivial⟩ ⟨zPre.blind, zPre.go hZ (cOne hC.1 he9) (hK.sub (tys' := [(Q.c 0, .int)]) [0] rfl) (cOneD hC.2.1 he9)⟩ rfl rfl hl.1 rfl (lv_room (Nat.le_of_ble_eq_true rfl)) dX3_openOne_23 ⟨cAcc4 h0 hr9, cAcc5 h0 hr9⟩) hC.2.2.1 (fun q _ h => hFc q h) hFc (fun r9 u9 t9 H1 locs ht hvm hw hB hz1 hk1 hS => ?_)
    obtain ⟨⟨hP1, hK1, hD1⟩, hsz1⟩ := hB
    rw [ht] at hP1 hsz1
    have hC := cBack (σ' := σ) hC he9 (cSelf he9) (Eq.refl (CS.hs σ)) hk1 hP1 hsz1 hS
    generalize H1 = H at hC ⊢
    obtain rfl : r9 = (gAt (σ.a 11) 8 x1) := hw
    refine lv_iload_n hx hb dX3_openOne_26 rfl (lv_at hl 1 rfl) ?_
    obtain ⟨p10, hcp10, hf⟩ := hf_bind hf
    have mo11 : CS.hs σ ≤ CS.hs p10.2 := Mono.go hcp10 (m_X3_raise N σ (gAt (σ.a 11) 8 x1) x1)
    have hr9 : CS.hs p10.2 ≤ CS.hs R.2 := Mono.go hf (mono_some (Nat.le_refl _))
    have hFc := cFree hC hA
    refine va_callv (va_runV (As := [.int (gAt (σ.a 11) 8 x1), .int x1]) (rest := []) ⟨hx, hb, hml, hown, hts⟩ (c_X3_raise l dC dI Q N σ (gAt (σ.a 11) 8 x1) x1 p10 hcp10) (cwV 2 hts hX3_openOne_X3_raise_v150 rfl rfl rfl (by decide +kernel) ⟨(show 3 + 1 ≤ 4 by omega), (show 8 + (3 + 11) + 60 * 3 ≤ 60 * 4 by omega)⟩) ⟨zPre.blind, va_recv hK hC.1 (ci := 2) (q0 := 7) rfl rfl, cPre_go hZ hK hC⟩ rfl rfl hl.1 rfl (lv_room (Nat.le_of_ble_eq_true rfl)) dX3_openOne_27 (cAcc h0 mo11 hr9)) hC.2.2.1 (fun q _ h => hFc q h) hFc (fun u9 t9 H1 locs ht hvm hw hB hz1 hk1 hS => ?_)
    obtain ⟨⟨hP, hK1, hD1⟩, hsz1⟩ := hB
    rw [ht] at hP hsz1
    have hC : CP dC dI Q A s.heap p10.2 H1 locs := ⟨hP, hD1.weaken (fun _ _ _ h => hFc _ h), hS, hsz1⟩
    generalize H1 = H at hC ⊢
    have h13 : (CS.hs σ) ≤ CS.hs p10.2 := Nat.le_trans h0 mo11
    refine W.widen (k := CS.hs p10.2 - (CS.hs σ)) (n := 17 * (CS.hs p10.2 - (CS.hs σ))) (cAcc2 h0 mo11) (cAcc3 h0 mo11) ?_
    refine lv_goto (tgt := 75) hx hb dX3_openOne_30 (by decide) ?_
    obtain rfl := Option.some.inj hf
    exact W.vret hx hb hr (fun t ht hW => ⟨⟨(), rfl, trivial, ⟨by rw [ht]; exact hC.1, va_K.moved hW.alike hK, hC.2.1⟩, by rw [ht]; exact hC.2.2.2⟩, hC.2.2.1.F ht⟩) hC.2.2.1.2.2 dX3_openOne_75
theorem k_X3_act_fieldLink_RX3_72_SR_Machine_taken_I : Cond.fieldLink RX3 72 "StatementRules2$Machine" "taken" "I" ∈ wzX3_act := List.mem_cons_of_mem _ (List.mem_append_left _ (List.mem_of_getElem? (i := 0) rfl))
theorem i_X3_act_X3 : ∀ w ∈ wsX30, w ∈ wzX3_act := fun _ h => List.mem_cons_of_mem _ (List.mem_append_right _ (List.mem_append_left _ (h)))
theorem k_X3_act_fieldLink_RX3_85_SR_Machine_outcome_I : Cond.fieldLink RX3 85 "StatementRules2$Machine" "outcome" "I" ∈ wzX3_act := List.mem_cons_of_mem _ (List.mem_append_left _ (List.mem_of_getElem? (i := 1) rfl))
set_option maxHeartbeats 4000000 in
set_option maxRecDepth 100000 in
theorem c_X3_act (l : Launch) (dC : Nat → ClassId) (dI : Nat → Nat → Nat) (Q : CQ) (N : Nat) (σ : CS) (x1 : Int32) (x2 : Int32) (R : Unit × CS) (hf : f_X3_act N σ x1 x2 = some R) : Met l yX3_act wzX3_act ({ frames := 5, cells := CS.hs R.2 - CS.hs σ, slots := 17 * (CS.hs R.2 - CS.hs σ), locals := 60 * 5 }) (va_Pc [.ref (Q.o 7), .int x1, .int x2] (zPre dC dI (CS.hs σ) (cW Q σ) (cT Q))) (va_Qv (fun (_ : Unit) => True) (fun (_ : Unit) (t : State) => zPost dC dI (va_A (cW Q σ) (CS.hs σ)) (cW Q R.2) (cT Q) t ∧ t.heap.size = CS.hs R.2) (va_A (cW Q σ) (CS.hs σ))) (CS.hs R.2 - CS.hs σ) (17 * (CS.hs R.2 - CS.hs σ)) (va_A (cW Q σ) (CS.hs σ)) := by
  refine Met.ofW (cc := cX3_act) (maxL := 3) (ret := none) (by decide) rfl ?_
  intro p e s m args below meth c s₁ B hml hv
  obtain ⟨rfl, hsz, hZ, hP, hK, hD0⟩ := hv
  have hx := B.exec
  have hb := B.bytes
  have hr := B.returns
  have hts := atoms_spec (ws := wzX3_act) B.pre
  have hown : s.vm.findClass RX3 = some m.cls := findClass_of_methodNamed B.named
  have hlocks := B.notSynchronized
  have hD := hD0.self (sz := CS.hs σ)
  generalize hAe : va_A (cW Q σ) (CS.hs σ) = A at hD ⊢
  have hA : ∀ q : Nat, s.heap.size ≤ q → A q := fun q h => by rw [← hAe]; exact Or.inr (hsz ▸ h)
  have hC : CP dC dI Q A s.heap σ s.heap [] := ⟨hP, hD, va_S.rf, hsz⟩
  have h0 : CS.hs σ ≤ CS.hs σ := Nat.le_refl _
  have hl := lv_entry ([.ref (Q.o 7), .int x1, .int x2]) (n := 3) (Nat.le_of_ble_eq_true rfl)
  rw [lg_entry_eq]
  generalize (lg_sl ([.ref (Q.o 7), .int x1, .int x2]) ++ List.replicate (3 - (lg_sl ([.ref (Q.o 7), .int x1, .int x2])).length) Slot.unset).toArray = ls at hl ⊢
  have hl : lv_has ls 3 [(0, .ref (Q.o 7)), (1, .int x1), (2, .int x2)] := hl
  unfold f_X3_act at hf
  refine W.widen (k := CS.hs σ - CS.hs σ) (n := 17 * (CS.hs σ - CS.hs σ)) (Nat.zero_le _) (Nat.zero_le _) ?_
  refine lv_iload_n hx hb dX3_act_0 rfl (lv_at hl 1 rfl) ?_
  by_cases c1 : x1 = 51
  ·
    replace hf := (if_pos c1).symm.trans hf
    refine lv_tableIn (off := 35) (tgt := 36) hx hb dX3_act_1 (by rw [c1]; decide) (by rw [c1]; decide) (by rw [c1]; decide) (by decide) ?_
    refine lv_aload_n hx hb dX3_act_36 rfl (lv_at hl 0 rfl) ?_
    obtain ⟨p2, hcp2, hf⟩ := hf_bind hf
    have mo3 : CS.hs σ ≤ CS.hs p2.2 := Mono.go hcp2 (m_X3_step N σ)
    have hr9 : CS.hs p2.2 ≤ CS.hs R.2 := Mono.go hf (mono_some (Nat.le_refl _))
    have hFc := cFree hC hA
    refine va_callv (va_runV (As := []) (rest := []) ⟨hx, hb, hml, hown, hts⟩ (c_X3_step l dC dI Q N σ p2 hcp2) (cwV 0 hts hX3_act_X3_step_v175 rfl rfl rfl (by decide +kernel) ⟨(show 1 + 1 ≤ 5 by omega), (show 8 + (1 + 11) + 60 * 1 ≤ 60 * 5 by omega)⟩) ⟨zPre.blind, va_recv hK hC.1 (ci := 2) (q0 := 7) rfl rfl, cPre_go hZ hK hC⟩ rfl rfl hl.1 rfl (lv_room (Nat.le_of_ble_eq_true rfl)) dX3_act_37 (cAcc h0 mo3 hr9)) hC.2.2.1 (fun q _ h => hFc q h) hFc (fun u9 t9 H1 locs ht hvm hw hB hz1 hk1 hS => ?_)
    obtain ⟨⟨hP, hK1, hD1⟩, hsz1⟩ := hB
    rw [ht] at hP hsz1
    have hC : CP dC dI Q A s.heap p2.2 H1 locs := ⟨hP, hD1.weaken (fun _ _ _ h => hFc _ h), hS, hsz1⟩
    generalize H1 = H at hC ⊢
    have h5 : (CS.hs σ) ≤ CS.hs p2.2 := Nat.le_trans h0 mo3
    refine W.widen (k := CS.hs p2.2 - (CS.hs σ)) (n := 17 * (CS.hs p2.2 - (CS.hs σ))) (cAcc2 h0 mo3) (cAcc3 h0 mo3) ?_
    refine lv_goto (tgt := 102) hx hb dX3_act_40 (by decide) ?_
    obtain rfl := Option.some.inj hf
    exact W.vret hx hb hr (fun t ht hW => ⟨⟨(), rfl, trivial, ⟨by rw [ht]; exact hC.1, va_K.moved hW.alike hK, hC.2.1⟩, by rw [ht]; exact hC.2.2.2⟩, hC.2.2.1.F ht⟩) hC.2.2.1.2.2 dX3_act_102
  replace hf := (if_neg c1).symm.trans hf
  by_cases c6 : x1 = 52
  ·
    replace hf := (if_pos c6).symm.trans hf
    refine lv_tableIn (off := 42) (tgt := 43) hx hb dX3_act_1 (by rw [c6]; decide) (by rw [c6]; decide) (by rw [c6]; decide) (by decide) ?_
    refine lv_aload_n hx hb dX3_act_43 rfl (lv_at hl 0 rfl) ?_
    refine lv_iconst (v := 0) hx hb dX3_act_44 (by decide) ?_
    refine lv_aload_n hx hb dX3_act_45 rfl (lv_at hl 0 rfl) ?_
    obtain ⟨p7, hcp7, hf⟩ := hf_bind hf
    have mo8 : CS.hs σ ≤ CS.hs p7.2 := Mono.go hcp7 (m_X3_pop N σ)
    have hr9 : CS.hs p7.2 ≤ CS.hs R.2 := Mono.go hf (mono_bind (m_X3_note N p7.2 0 p7.1) (fun p11 => (mono_some (Nat.le_refl _))))
    have hFc := cFree hC hA
    refine va_calli (va_runV (As := []) (rest := [.int 0, .ref (Q.o 7)]) ⟨hx, hb, hml, hown, hts⟩ (c_X3_pop l dC dI Q N σ p7 hcp7) (cwV 0 hts hX3_act_X3_pop_v138 rfl rfl rfl (by decide +kernel) ⟨(show 2 + 1 ≤ 5 by omega), (show 8 + (1 + 11) + 60 * 2 ≤ 60 * 5 by omega)⟩) ⟨zPre.blind, va_recv hK hC.1 (ci := 2) (q0 := 7) rfl rfl, cPre_go hZ hK hC⟩ rfl rfl hl.1 rfl (lv_room (Nat.le_of_ble_eq_true rfl)) dX3_act_46 (cAcc h0 mo8 hr9)) hC.2.2.1 (fun q _ h => hFc q h) hFc (fun r9 u9 t9 H1 locs ht hvm hw hB hz1 hk1 hS => ?_)
    obtain ⟨⟨hP, hK1, hD1⟩, hsz1⟩ := hB
    rw [ht] at hP hsz1
    have hC : CP dC dI Q A s.heap p7.2 H1 locs := ⟨hP, hD1.weaken (fun _ _ _ h => hFc _ h), hS, hsz1⟩
    generalize H1 = H at hC ⊢
    have h10 : (CS.hs σ) ≤ CS.hs p7.2 := Nat.le_trans h0 mo8
    refine W.widen (k := CS.hs p7.2 - (CS.hs σ)) (n := 17 * (CS.hs p7.2 - (CS.hs σ))) (cAcc2 h0 mo8) (cAcc3 h0 mo8) ?_
    obtain rfl : r9 = p7.1 := hw
    obtain ⟨p11, hcp11, hf⟩ := hf_bind hf
    have mo12 : CS.hs p7.2 ≤ CS.hs p11.2 := Mono.go hcp11 (m_X3_note N p7.2 0 p7.1)
    have hr9 : CS.hs p11.2 ≤ CS.hs R.2 := Mono.go hf (mono_some (Nat.le_refl _))
    have hFc := cFree hC hA
    refine va_callv (va_runV (As := [.int 0, .int p7.1]) (rest := []) ⟨hx, hb, hml, hown, hts⟩ (c_X3_note l dC dI Q N p7.2 0 p7.1 p11 hcp11) (cwV 2 hts hX3_act_X3_note_v178 rfl rfl rfl (by decide +kernel) ⟨(show 2 + 1 ≤ 5 by omega), (show 8 + (3 + 11) + 60 * 2 ≤ 60 * 5 by omega)⟩) ⟨zPre.blind, va_recv hK hC.1 (ci := 2) (q0 := 7) rfl rfl, cPre_go hZ hK hC⟩ rfl rfl hl.1 rfl (lv_room (Nat.le_of_ble_eq_true rfl)) dX3_act_49 (cAcc h10 mo12 hr9)) hC.2.2.1 (fun q _ h => hFc q h) hFc (fun u9 t9 H1 locs ht hvm hw hB hz1 hk1 hS => ?_)
    obtain ⟨⟨hP, hK1, hD1⟩, hsz1⟩ := hB
    rw [ht] at hP hsz1
    have hC : CP dC dI Q A s.heap p11.2 H1 locs := ⟨hP, hD1.weaken (fun _ _ _ h => hFc _ h), hS, hsz1⟩
    generalize H1 = H at hC ⊢
    have h14 : (CS.hs σ) ≤ CS.hs p11.2 := Nat.le_trans h10 mo12
    refine W.widen (k := CS.hs p11.2 - (CS.hs σ)) (n := 17 * (CS.hs p11.2 - (CS.hs σ))) (cAcc2 h10 mo12) (cAcc3 h10 mo12) ?_
    refine lv_goto (tgt := 102) hx hb dX3_act_52 (by decide) ?_
    obtain rfl := Option.some.inj hf
    exact W.vret hx hb hr (fun t ht hW => ⟨⟨(), rfl, trivial, ⟨by rw [ht]; exact hC.1, va_K.moved hW.alike hK, hC.2.1⟩, by rw [ht]; exact hC.2.2.2⟩, hC.2.2.1.F ht⟩) hC.2.2.1.2.2 dX3_act_102
  replace hf := (if_neg c6).symm.trans hf
  by_cases c15 : x1 = 53
  ·
    replace hf := (if_pos c15).symm.trans hf
    refine lv_tableIn (off := 54) (tgt := 55) hx hb dX3_act_1 (by rw [c15]; decide) (by rw [c15]; decide) (by rw [c15]; decide) (by decide) ?_
    refine lv_aload_n hx hb dX3_act_55 rfl (lv_at hl 0 rfl) ?_
    refine lv_iconst (v := 0) hx hb dX3_act_56 (by decide) ?_
    refine lv_iload_n hx hb dX3_act_57 rfl (lv_at hl 2 rfl) ?_
    obtain ⟨p16, hcp16, hf⟩ := hf_bind hf
    have mo17 : CS.hs σ ≤ CS.hs p16.2 := Mono.go hcp16 (m_X3_enter N σ 0 x2)
    have hr9 : CS.hs p16.2 ≤ CS.hs R.2 := Mono.go hf (mono_bind (m_X3_note N (CS.setI p16.2 71 ((p16.2.i 71) + 1)) 3 x2) (fun p20 => (mono_some (Nat.le_refl _))))
    have hFc := cFree hC hA
    refine va_callv (va_runV (As := [.int 0, .int x2]) (rest := []) ⟨hx, hb, hml, hown, hts⟩ (c_X3_enter l dC dI Q N σ 0 x2 p16 hcp16) (cwV 2 hts hX3_act_X3_enter_v181 rfl rfl rfl (by decide +kernel) ⟨(show 2 + 1 ≤ 5 by omega), (show 8 + (5 + 11) + 60 * 2 ≤ 60 * 5 by omega)⟩) ⟨zPre.blind, va_recv hK hC.1 (ci := 2) (q0 := 7) rfl rfl, cPre_go hZ hK hC⟩ rfl rfl hl.1 rfl (lv_room (Nat.le_of_ble_eq_true rfl)) dX3_act_58 (cAcc h0 mo17 hr9)) hC.2.2.1 (fun q _ h => hFc q h) hFc (fun u9 t9 H1 locs ht hvm hw hB hz1 hk1 hS => ?_)
    obtain ⟨⟨hP, hK1, hD1⟩, hsz1⟩ := hB
    rw [ht] at hP hsz1
    have hC : CP dC dI Q A s.heap p16.2 H1 locs := ⟨hP, hD1.weaken (fun _ _ _ h => hFc _ h), hS, hsz1⟩
    generalize H1 = H at hC ⊢
    have h19 : (CS.hs σ) ≤ CS.hs p16.2 := Nat.le_trans h0 mo17
    refine W.widen (k := CS.hs p16.2 - (CS.hs σ)) (n := 17 * (CS.hs p16.2 - (CS.hs σ))) (cAcc2 h0 mo17) (cAcc3 h0 mo17) ?_
    refine lv_aload_n hx hb dX3_act_61 rfl (lv_at hl 0 rfl) ?_
    refine lv_dup hx hb dX3_act_62 rfl ?_
    refine cG_71 (v := (p16.2.i 71)) hx hb hts i_X3_act_X3 hown hK hC (hts (.fieldLink RX3 72 "StatementRules2$Machine" "taken" "I") k_X3_act_fieldLink_RX3_72_SR_Machine_taken_I) (fun _ q9 => q9) dX3_act_63 rfl ?_
    refine lv_iconst (v := 1) hx hb dX3_act_66 (by decide) ?_
    refine lv_iadd hx hb dX3_act_67 ?_
    refine cP_71 (v := ((p16.2.i 71) + 1)) hx hb hts i_X3_act_X3 hown hK hC (hts (.fieldLink RX3 72 "StatementRules2$Machine" "taken" "I") k_X3_act_fieldLink_RX3_72_SR_Machine_taken_I) (fun _ q9 => q9) dX3_act_68 (fun H locs hC => ?_)
    refine lv_aload_n hx hb dX3_act_71 rfl (lv_at hl 0 rfl) ?_
    refine lv_iconst (v := 3) hx hb dX3_act_72 (by decide) ?_
    refine lv_iload_n hx hb dX3_act_73 rfl (lv_at hl 2 rfl) ?_
    obtain ⟨p20, hcp20, hf⟩ := hf_bind hf
    have mo21 : CS.hs p16.2 ≤ CS.hs p20.2 := Mono.go hcp20 (m_X3_note N (CS.setI p16.2 71 ((p16.2.i 71) + 1)) 3 x2)
    have hr9 : CS.hs p20.2 ≤ CS.hs R.2 := Mono.go hf (mono_some (Nat.le_refl _))
    have hFc := cFree hC hA
    refine va_callv (va_runV (As := [.int 3, .int x2]) (rest := []) ⟨hx, hb, hml, hown, hts⟩ (c_X3_note l dC dI Q N (CS.setI p16.2 71 ((p16.2.i 71) + 1)) 3 x2 p20 hcp20) (cwV 2 hts hX3_act_X3_note_v178 rfl rfl rfl (by decide +kernel) ⟨(show 2 + 1 ≤ 5 by omega), (show 8 + (3 + 11) + 60 * 2 ≤ 60 * 5 by omega)⟩) ⟨zPre.blind, va_recv hK hC.1 (ci := 2) (q0 := 7) rfl rfl, cPre_go hZ hK hC⟩ rfl rfl hl.1 rfl (lv_room (Nat.le_of_ble_eq_true rfl)) dX3_act_74 (cAcc h19 mo21 hr9)) hC.2.2.1 (fun q _ h => hFc q h) hFc (fun u9 t9 H1 locs ht hvm hw hB hz1 hk1 hS => ?_)
    obtain ⟨⟨hP, hK1, hD1⟩, hsz1⟩ := hB
    rw [ht] at hP hsz1
    have hC : CP dC dI Q A s.heap p20.2 H1 locs := ⟨hP, hD1.weaken (fun _ _ _ h => hFc _ h), hS, hsz1⟩
    generalize H1 = H at hC ⊢
    have h23 : (CS.hs σ) ≤ CS.hs p20.2 := Nat.le_trans h19 mo21
    refine W.widen (k := CS.hs p20.2 - (CS.hs σ)) (n := 17 * (CS.hs p20.2 - (CS.hs σ))) (cAcc2 h19 mo21) (cAcc3 h19 mo21) ?_
    refine lv_goto (tgt := 102) hx hb dX3_act_77 (by decide) ?_
    obtain rfl := Option.some.inj hf
    exact W.vret hx hb hr (fun t ht hW => ⟨⟨(), rfl, trivial, ⟨by rw [ht]; exact hC.1, va_K.moved hW.alike hK, hC.2.1⟩, by rw [ht]; exact hC.2.2.2⟩, hC.2.2.1.F ht⟩) hC.2.2.1.2.2 dX3_act_102
  replace hf := (if_neg c15).symm.trans hf
  by_cases c24 : x1 = 54
  ·
    replace hf := (if_pos c24).symm.trans hf
    refine lv_tableIn (off := 79) (tgt := 80) hx hb dX3_act_1 (by rw [c24]; decide) (by rw [c24]; decide) (by rw [c24]; decide) (by decide) ?_
    refine lv_aload_n hx hb dX3_act_80 rfl (lv_at hl 0 rfl) ?_
    refine lv_iconst (v := 1) hx hb dX3_act_81 (by decide) ?_
    refine lv_iload_n hx hb dX3_act_82 rfl (lv_at hl 2 rfl) ?_
    obtain ⟨p25, hcp25, hf⟩ := hf_bind hf
    have mo26 : CS.hs σ ≤ CS.hs p25.2 := Mono.go hcp25 (m_X3_enter N σ 1 x2)
    have hr9 : CS.hs p25.2 ≤ CS.hs R.2 := Mono.go hf (mono_some (Nat.le_refl _))
    have hFc := cFree hC hA
    refine va_callv (va_runV (As := [.int 1, .int x2]) (rest := []) ⟨hx, hb, hml, hown, hts⟩ (c_X3_enter l dC dI Q N σ 1 x2 p25 hcp25) (cwV 2 hts hX3_act_X3_enter_v181 rfl rfl rfl (by decide +kernel) ⟨(show 2 + 1 ≤ 5 by omega), (show 8 + (5 + 11) + 60 * 2 ≤ 60 * 5 by omega)⟩) ⟨zPre.blind, va_recv hK hC.1 (ci := 2) (q0 := 7) rfl rfl, cPre_go hZ hK hC⟩ rfl rfl hl.1 rfl (lv_room (Nat.le_of_ble_eq_true rfl)) dX3_act_83 (cAcc h0 mo26 hr9)) hC.2.2.1 (fun q _ h => hFc q h) hFc (fun u9 t9 H1 locs ht hvm hw hB hz1 hk1 hS => ?_)
    obtain ⟨⟨hP, hK1, hD1⟩, hsz1⟩ := hB
    rw [ht] at hP hsz1
    have hC : CP dC dI Q A s.heap p25.2 H1 locs := ⟨hP, hD1.weaken (fun _ _ _ h => hFc _ h), hS, hsz1⟩
    generalize H1 = H at hC ⊢
    have h28 : (CS.hs σ) ≤ CS.hs p25.2 := Nat.le_trans h0 mo26
    refine W.widen (k := CS.hs p25.2 - (CS.hs σ)) (n := 17 * (CS.hs p25.2 - (CS.hs σ))) (cAcc2 h0 mo26) (cAcc3 h0 mo26) ?_
    refine lv_goto (tgt := 102) hx hb dX3_act_86 (by decide) ?_
    obtain rfl := Option.some.inj hf
    exact W.vret hx hb hr (fun t ht hW => ⟨⟨(), rfl, trivial, ⟨by rw [ht]; exact hC.1, va_K.moved hW.alike hK, hC.2.1⟩, by rw [ht]; exact hC.2.2.2⟩, hC.2.2.1.F ht⟩) hC.2.2.1.2.2 dX3_act_102
  replace hf := (if_neg c24).symm.trans hf
  by_cases c29 : x1 = 55
  ·
    replace hf := (if_pos c29).symm.trans hf
    refine lv_tableIn (off := 88) (tgt := 89) hx hb dX3_act_1 (by rw [c29]; decide) (by rw [c29]; decide) (by rw [c29]; decide) (by decide) ?_
    refine lv_aload_n hx hb dX3_act_89 rfl (lv_at hl 0 rfl) ?_
    refine lv_iload_n hx hb dX3_act_90 rfl (lv_at hl 2 rfl) ?_
    obtain ⟨p30, hcp30, hf⟩ := hf_bind hf
    have mo31 : CS.hs σ ≤ CS.hs p30.2 := Mono.go hcp30 (m_X3_openOne N σ x2)
    have hr9 : CS.hs p30.2 ≤ CS.hs R.2 := Mono.go hf (mono_some (Nat.le_refl _))
    have hFc := cFree hC hA
    refine va_callv (va_runV (As := [.int x2]) (rest := []) ⟨hx, hb, hml, hown, hts⟩ (c_X3_openOne l dC dI Q N σ x2 p30 hcp30) (cwV 1 hts hX3_act_X3_openOne_v184 rfl rfl rfl (by decide +kernel) ⟨(show 4 + 1 ≤ 5 by omega), (show 8 + (2 + 11) + 60 * 4 ≤ 60 * 5 by omega)⟩) ⟨zPre.blind, va_recv hK hC.1 (ci := 2) (q0 := 7) rfl rfl, cPre_go hZ hK hC⟩ rfl rfl hl.1 rfl (lv_room (Nat.le_of_ble_eq_true rfl)) dX3_act_91 (cAcc h0 mo31 hr9)) hC.2.2.1 (fun q _ h => hFc q h) hFc (fun u9 t9 H1 locs ht hvm hw hB hz1 hk1 hS => ?_)
    obtain ⟨⟨hP, hK1, hD1⟩, hsz1⟩ := hB
    rw [ht] at hP hsz1
    have hC : CP dC dI Q A s.heap p30.2 H1 locs := ⟨hP, hD1.weaken (fun _ _ _ h => hFc _ h), hS, hsz1⟩
    generalize H1 = H at hC ⊢
    have h33 : (CS.hs σ) ≤ CS.hs p30.2 := Nat.le_trans h0 mo31
    refine W.widen (k := CS.hs p30.2 - (CS.hs σ)) (n := 17 * (CS.hs p30.2 - (CS.hs σ))) (cAcc2 h0 mo31) (cAcc3 h0 mo31) ?_
    refine lv_goto (tgt := 102) hx hb dX3_act_94 (by decide) ?_
    obtain rfl := Option.some.inj hf
    exact W.vret hx hb hr (fun t ht hW => ⟨⟨(), rfl, trivial, ⟨by rw [ht]; exact hC.1, va_K.moved hW.alike hK, hC.2.1⟩, by rw [ht]; exact hC.2.2.2⟩, hC.2.2.1.F ht⟩) hC.2.2.1.2.2 dX3_act_102
  replace hf := (if_neg c29).symm.trans hf
  refine lv_tableOut (tgt := 97) hx hb dX3_act_1 (by have := z_ton (a := 51) c1 (by decide); have := z_ton (a := 52) c6 (by decide); have := z_ton (a := 53) c15 (by decide); have := z_ton (a := 54) c24 (by decide); have := z_ton (a := 55) c29 (by decide); omega) (by decide) ?_
  refine lv_aload_n hx hb dX3_act_97 rfl (lv_at hl 0 rfl) ?_
  refine lv_iconst (v := 0) hx hb dX3_act_98 (by decide) ?_
  refine cP_72 (v := 0) hx hb hts i_X3_act_X3 hown hK hC (hts (.fieldLink RX3 85 "StatementRules2$Machine" "outcome" "I") k_X3_act_fieldLink_RX3_85_SR_Machine_outcome_I) (fun _ q9 => q9) dX3_act_99 (fun H locs hC => ?_)
  obtain rfl := Option.some.inj hf
  exact W.vret hx hb hr (fun t ht hW => ⟨⟨(), rfl, trivial, ⟨by rw [ht]; exact hC.1, va_K.moved hW.alike hK, hC.2.1⟩, by rw [ht]; exact hC.2.2.2⟩, hC.2.2.1.F ht⟩) hC.2.2.1.2.2 dX3_act_102
theorem k_X3_frame_fieldLink_RX3_60_SR_Machine_depth_I : Cond.fieldLink RX3 60 "StatementRules2$Machine" "depth" "I" ∈ wzX3_frame := List.mem_cons_of_mem _ (List.mem_append_left _ (List.mem_of_getElem? (i := 0) rfl))
theorem i_X3_frame_X3 : ∀ w ∈ wsX30, w ∈ wzX3_frame := fun _ h => List.mem_cons_of_mem _ (List.mem_append_right _ (List.mem_append_left _ (h)))
theorem k_X3_frame_fieldLink_RX3_20_SR_Machine_frames_LSR_Frame : Cond.fieldLink RX3 20 "StatementRules2$Machine" "frames" "[LStatementRules2$Frame;" ∈ wzX3_frame := List.mem_cons_of_mem _ (List.mem_append_left _ (List.mem_of_getElem? (i := 1) rfl))
set_option maxHeartbeats 4000000 in
set_option maxRecDepth 100000 in
theorem j_X3_frame_30 {p : Program} {e : Env} {s : State} {m : MethodId} {args : Array Value} {below : List Frame} {meth : Method} {c : Code} {A : Nat → Prop} (l : Launch) (dC : Nat → ClassId) (dI : Nat → Nat → Nat) (Q : CQ) (N : Nat) (z9h : Nat) (R : Option Nat × CS) (hx : p.tables.exec = Jvm.exec) (hb : c.code = cX3_frame) (hr : meth.sig.returnType = (some (.object "StatementRules2$Frame"))) (hml : c.maxLocals = 2) (hown : s.vm.findClass RX3 = some m.cls) (hts : ∀ w ∈ wzX3_frame, w.before args s = true) (hlocks : meth.locks = false) (hZ : zAMB s) (hA : ∀ q : Nat, s.heap.size ≤ q → A q) (hK : va_K (dC, dI) vwCl (cT Q) s) : ∀ (σ : CS) (H : Heap) (locs : List Loc) (ls : Array Slot), f_X3_frame_30 N σ = some R → z9h ≤ CS.hs σ → CP dC dI Q A s.heap σ H locs → lv_has ls 2 [] → W p l e ({ frames := 1, cells := CS.hs R.2 - z9h, slots := 17 * (CS.hs R.2 - z9h), locals := 60 * 1 }) s m args below meth c H locs (CS.hs σ - z9h) (17 * (CS.hs σ - z9h)) (MQ below (va_Qq (fun (r : Option Nat) (_ : Unit) => r = R.1) (fun (_ : Unit) (t : State) => zPost dC dI A (cW Q R.2) (cT Q) t ∧ t.heap.size = CS.hs R.2) A) args s (CS.hs R.2 - z9h) (17 * (CS.hs R.2 - z9h)) A) (F0 m 30 ls []) := by
  intro σ  H locs ls hf h0 hC hl
  unfold f_X3_frame_30 at hf
  refine lv_null hx hb dX3_frame_30 ?_
  obtain rfl := Option.some.inj hf
  exact W.aret (v := .null) hx hb hr (Or.inl ⟨_, rfl⟩) (Or.inl rfl) (fun t ht hW => ⟨⟨none, (), rfl, rfl, ⟨by rw [ht]; exact hC.1, va_K.moved hW.alike hK, hC.2.1⟩, by rw [ht]; exact hC.2.2.2⟩, hC.2.2.1.F ht⟩) hC.2.2.1.2.2 dX3_frame_31
set_option maxHeartbeats 4000000 in
set_option maxRecDepth 100000 in
theorem c_X3_frame (l : Launch) (dC : Nat → ClassId) (dI : Nat → Nat → Nat) (Q : CQ) (N : Nat) (σ : CS) (x1 : Int32) (R : Option Nat × CS) (hf : f_X3_frame N σ x1 = some R) : Met l yX3_frame wzX3_frame ({ frames := 1, cells := CS.hs R.2 - CS.hs σ, slots := 17 * (CS.hs R.2 - CS.hs σ), locals := 60 * 1 }) (va_Pc [.ref (Q.o 7), .int x1] (zPre dC dI (CS.hs σ) (cW Q σ) (cT Q))) (va_Qq (fun (r : Option Nat) (_ : Unit) => r = R.1) (fun (_ : Unit) (t : State) => zPost dC dI (va_A (cW Q σ) (CS.hs σ)) (cW Q R.2) (cT Q) t ∧ t.heap.size = CS.hs R.2) (va_A (cW Q σ) (CS.hs σ))) (CS.hs R.2 - CS.hs σ) (17 * (CS.hs R.2 - CS.hs σ)) (va_A (cW Q σ) (CS.hs σ)) := by
  refine Met.ofW (cc := cX3_frame) (maxL := 2) (ret := (some (.object "StatementRules2$Frame"))) (by decide) rfl ?_
  intro p e s m args below meth c s₁ B hml hv
  obtain ⟨rfl, hsz, hZ, hP, hK, hD0⟩ := hv
  have hx := B.exec
  have hb := B.bytes
  have hr := B.returns
  have hts := atoms_spec (ws := wzX3_frame) B.pre
  have hown : s.vm.findClass RX3 = some m.cls := findClass_of_methodNamed B.named
  have hlocks := B.notSynchronized
  have hD := hD0.self (sz := CS.hs σ)
  generalize hAe : va_A (cW Q σ) (CS.hs σ) = A at hD ⊢
  have hA : ∀ q : Nat, s.heap.size ≤ q → A q := fun q h => by rw [← hAe]; exact Or.inr (hsz ▸ h)
  have hC : CP dC dI Q A s.heap σ s.heap [] := ⟨hP, hD, va_S.rf, hsz⟩
  have h0 : CS.hs σ ≤ CS.hs σ := Nat.le_refl _
  have hl := lv_entry ([.ref (Q.o 7), .int x1]) (n := 2) (Nat.le_of_ble_eq_true rfl)
  rw [lg_entry_eq]
  generalize (lg_sl ([.ref (Q.o 7), .int x1]) ++ List.replicate (2 - (lg_sl ([.ref (Q.o 7), .int x1])).length) Slot.unset).toArray = ls at hl ⊢
  have hl : lv_has ls 2 [(0, .ref (Q.o 7)), (1, .int x1)] := hl
  unfold f_X3_frame at hf
  refine W.widen (k := CS.hs σ - CS.hs σ) (n := 17 * (CS.hs σ - CS.hs σ)) (Nat.zero_le _) (Nat.zero_le _) ?_
  refine lv_iload_n hx hb dX3_frame_0 rfl (lv_at hl 1 rfl) ?_
  refine lv_if_lt (tgt := 30) hx hb dX3_frame_1 (by decide) (fun c1 => ?_) (fun c1 => ?_)
  ·
    replace hf := (if_pos c1).symm.trans hf
    exact j_X3_frame_30 l dC dI Q N (CS.hs σ) R hx hb hr hml hown hts hlocks hZ hA hK σ _ _ _ hf h0 hC (lv_sub hl [] rfl)
  ·
    replace hf := (if_neg c1).symm.trans hf
    refine lv_iload_n hx hb dX3_frame_4 rfl (lv_at hl 1 rfl) ?_
    refine lv_aload_n hx hb dX3_frame_5 rfl (lv_at hl 0 rfl) ?_
    refine cG_67 (v := (σ.i 67)) hx hb hts i_X3_frame_X3 hown hK hC (hts (.fieldLink RX3 60 "StatementRules2$Machine" "depth" "I") k_X3_frame_fieldLink_RX3_60_SR_Machine_depth_I) (fun _ q9 => q9) dX3_frame_6 rfl ?_
    refine lv_icmp_ge (tgt := 30) hx hb dX3_frame_9 (by decide) (fun c2 => ?_) (fun c2 => ?_)
    ·
      replace hf := (if_pos c2).symm.trans hf
      exact j_X3_frame_30 l dC dI Q N (CS.hs σ) R hx hb hr hml hown hts hlocks hZ hA hK σ _ _ _ hf h0 hC (lv_sub hl [] rfl)
    ·
      replace hf := (if_neg c2).symm.trans hf
      refine lv_iload_n hx hb dX3_frame_12 rfl (lv_at hl 1 rfl) ?_
      refine lv_aload_n hx hb dX3_frame_13 rfl (lv_at hl 0 rfl) ?_
      refine cG_61 hx hb hts i_X3_frame_X3 hown hK hC (hts (.fieldLink RX3 20 "StatementRules2$Machine" "frames" "[LStatementRules2$Frame;") k_X3_frame_fieldLink_RX3_20_SR_Machine_frames_LSR_Frame) (fun _ q9 => q9) dX3_frame_14 ?_
      refine va_alen (v := 24) hx hb hK hC.1 26 3 rfl rfl rfl dX3_frame_17 ?_
      refine lv_icmp_ge (tgt := 30) hx hb dX3_frame_18 (by decide) (fun c3 => ?_) (fun c3 => ?_)
      ·
        replace hf := (if_pos c3).symm.trans hf
        exact j_X3_frame_30 l dC dI Q N (CS.hs σ) R hx hb hr hml hown hts hlocks hZ hA hK σ _ _ _ hf h0 hC (lv_sub hl [] rfl)
      ·
        replace hf := (if_neg c3).symm.trans hf
        refine lv_aload_n hx hb dX3_frame_21 rfl (lv_at hl 0 rfl) ?_
        refine cG_61 hx hb hts i_X3_frame_X3 hown hK hC (hts (.fieldLink RX3 20 "StatementRules2$Machine" "frames" "[LStatementRules2$Frame;") k_X3_frame_fieldLink_RX3_20_SR_Machine_frames_LSR_Frame) (fun _ q9 => q9) dX3_frame_22 ?_
        refine lv_iload_n hx hb dX3_frame_25 rfl (lv_at hl 1 rfl) ?_
        obtain ⟨b4, hf⟩ := hf_ite hf
        refine cL_61 (v := (CS.r σ 61 ((x1 : Int32).toNatClampNeg))) hx hb hK hC b4 dX3_frame_26 rfl ?_
        rcases hf_oc hf with ⟨q5, hf⟩ | ⟨a6, q5, hf⟩
        ·
          refine W.eq (congrArg (fun v9 => F0 m 27 ls (va_rf v9 :: [])) q5) ?_
          refine W.eq (g2 := F0 m 27 ls (.null :: [])) rfl ?_
          refine lv_goto (tgt := 31) hx hb dX3_frame_27 (by decide) ?_
          obtain rfl := Option.some.inj hf
          exact W.aret (v := .null) hx hb hr (Or.inl ⟨_, rfl⟩) (Or.inl rfl) (fun t ht hW => ⟨⟨none, (), rfl, rfl, ⟨by rw [ht]; exact hC.1, va_K.moved hW.alike hK, hC.2.1⟩, by rw [ht]; exact hC.2.2.2⟩, hC.2.2.1.F ht⟩) hC.2.2.1.2.2 dX3_frame_31
        ·
          refine W.eq (congrArg (fun v9 => F0 m 27 ls (va_rf v9 :: [])) q5) ?_
          refine W.eq (g2 := F0 m 27 ls (.ref a6 :: [])) rfl ?_
          refine lv_goto (tgt := 31) hx hb dX3_frame_27 (by decide) ?_
          obtain rfl := Option.some.inj hf
          exact W.aret (v := .ref a6) hx hb hr (Or.inl ⟨_, rfl⟩) (Or.inr ⟨_, rfl⟩) (fun t ht hW => ⟨⟨(some a6), (), rfl, rfl, ⟨by rw [ht]; exact hC.1, va_K.moved hW.alike hK, hC.2.1⟩, by rw [ht]; exact hC.2.2.2⟩, hC.2.2.1.F ht⟩) hC.2.2.1.2.2 dX3_frame_31
theorem i_X3_throwAgain_X2 : ∀ w ∈ wsX20, w ∈ wzX3_throwAgain := fun _ h => List.mem_cons_of_mem _ (List.mem_append_right _ (List.mem_append_left _ (h)))
theorem k_X3_throwAgain_fieldLink_RX3_81_SR_Machine_wayThrown_LSR_Thrown : Cond.fieldLink RX3 81 "StatementRules2$Machine" "wayThrown" "LStatementRules2$Thrown;" ∈ wzX3_throwAgain := List.mem_cons_of_mem _ (List.mem_append_left _ (List.mem_of_getElem? (i := 0) rfl))
theorem i_X3_throwAgain_X3 : ∀ w ∈ wsX30, w ∈ wzX3_throwAgain := fun _ h => List.mem_cons_of_mem _ (List.mem_append_right _ (List.mem_append_right _ (List.mem_append_left _ (h))))
set_option maxHeartbeats 4000000 in
set_option maxRecDepth 100000 in
theorem c_X3_throwAgain (l : Launch) (dC : Nat → ClassId) (dI : Nat → Nat → Nat) (Q : CQ) (N : Nat) (σ : CS) (x1 : Option Nat) (R : Unit × CS) (hf : f_X3_throwAgain N σ x1 = some R) : Met l yX3_throwAgain wzX3_throwAgain ({ frames := 2, cells := CS.hs R.2 - CS.hs σ, slots := 17 * (CS.hs R.2 - CS.hs σ), locals := 60 * 2 }) (va_Pc [.ref (Q.o 7), va_rf x1] (zPre dC dI (CS.hs σ) (cW Q σ) (cT Q))) (va_Qv (fun (_ : Unit) => True) (fun (_ : Unit) (t : State) => zPost dC dI (va_A (cW Q σ) (CS.hs σ)) (cW Q R.2) (cT Q) t ∧ t.heap.size = CS.hs R.2) (va_A (cW Q σ) (CS.hs σ))) (CS.hs R.2 - CS.hs σ) (17 * (CS.hs R.2 - CS.hs σ)) (va_A (cW Q σ) (CS.hs σ)) := by
  refine Met.ofW (cc := cX3_throwAgain) (maxL := 2) (ret := none) (by decide) rfl ?_
  intro p e s m args below meth c s₁ B hml hv
  obtain ⟨rfl, hsz, hZ, hP, hK, hD0⟩ := hv
  have hx := B.exec
  have hb := B.bytes
  have hr := B.returns
  have hts := atoms_spec (ws := wzX3_throwAgain) B.pre
  have hown : s.vm.findClass RX3 = some m.cls := findClass_of_methodNamed B.named
  have hlocks := B.notSynchronized
  have hD := hD0.self (sz := CS.hs σ)
  generalize hAe : va_A (cW Q σ) (CS.hs σ) = A at hD ⊢
  have hA : ∀ q : Nat, s.heap.size ≤ q → A q := fun q h => by rw [← hAe]; exact Or.inr (hsz ▸ h)
  have hC : CP dC dI Q A s.heap σ s.heap [] := ⟨hP, hD, va_S.rf, hsz⟩
  have h0 : CS.hs σ ≤ CS.hs σ := Nat.le_refl _
  have hl := lv_entry ([.ref (Q.o 7), va_rf x1]) (n := 2) (by cases x1 <;> exact Nat.le_of_ble_eq_true rfl)
  rw [lg_entry_eq]
  generalize (lg_sl ([.ref (Q.o 7), va_rf x1]) ++ List.replicate (2 - (lg_sl ([.ref (Q.o 7), va_rf x1])).length) Slot.unset).toArray = ls at hl ⊢
  have hl : lv_has ls 2 [(0, .ref (Q.o 7)), (1, va_rf x1)] := hl
  unfold f_X3_throwAgain at hf
  refine W.widen (k := CS.hs σ - CS.hs σ) (n := 17 * (CS.hs σ - CS.hs σ)) (Nat.zero_le _) (Nat.zero_le _) ?_
  rcases hf_oc hf with ⟨q1, hf⟩ | ⟨a2, q1, hf⟩
  ·
    subst q1
    have hl : lv_has ls 2 [(0, .ref (Q.o 7)), (1, .null)] := hl
    refine lv_aload_nN hx hb dX3_throwAgain_0 rfl (lv_at hl 1 rfl) ?_
    refine lv_ifnullN (tgt := 19) hx hb dX3_throwAgain_1 (by decide) ?_
    obtain rfl := Option.some.inj hf
    exact W.vret hx hb hr (fun t ht hW => ⟨⟨(), rfl, trivial, ⟨by rw [ht]; exact hC.1, va_K.moved hW.alike hK, hC.2.1⟩, by rw [ht]; exact hC.2.2.2⟩, hC.2.2.1.F ht⟩) hC.2.2.1.2.2 dX3_throwAgain_19
  ·
    subst q1
    have hl : lv_has ls 2 [(0, .ref (Q.o 7)), (1, .ref a2)] := hl
    refine lv_aload_n hx hb dX3_throwAgain_0 rfl (lv_at hl 1 rfl) ?_
    refine lv_ifnull hx hb dX3_throwAgain_1 ?_
    refine lv_aload_n hx hb dX3_throwAgain_4 rfl (lv_at hl 0 rfl) ?_
    refine lv_aload_n hx hb dX3_throwAgain_5 rfl (lv_at hl 1 rfl) ?_
    obtain ⟨b3, hf⟩ := hf_ite hf
    refine pGN_X2_4 (v := (CS.ot σ a2)) hx hb hts i_X3_throwAgain_X2 hown hK hC (va_Nw.use rfl (hZ.1 (.fieldLinkNest RX3 204 "StatementRules2$Frame" "thrown" "LStatementRules2$Thrown;" "StatementRules2") (by decide +kernel))) (fun _ q9 => q9) dX3_throwAgain_6 b3 rfl ?_
    rcases hf_oc hf with ⟨q4, hf⟩ | ⟨a5, q4, hf⟩
    ·
      refine W.eq (congrArg (fun v9 => F0 m 9 ls (va_rf v9 :: [.ref (Q.o 7)])) q4) ?_
      refine W.eq (g2 := F0 m 9 ls (.null :: [.ref (Q.o 7)])) rfl ?_
      refine cP_76 (v := none) hx hb hts i_X3_throwAgain_X3 hown hK hC (hts (.fieldLink RX3 81 "StatementRules2$Machine" "wayThrown" "LStatementRules2$Thrown;") k_X3_throwAgain_fieldLink_RX3_81_SR_Machine_wayThrown_LSR_Thrown) (fun _ q9 => q9) dX3_throwAgain_9 (fun H locs hC => ?_)
      refine lv_aload_n hx hb dX3_throwAgain_12 rfl (lv_at hl 0 rfl) ?_
      refine lv_iconst (v := 4) hx hb dX3_throwAgain_13 (by decide) ?_
      refine lv_iconst (v := 0) hx hb dX3_throwAgain_14 (by decide) ?_
      refine lv_iconst (v := 0) hx hb dX3_throwAgain_15 (by decide) ?_
      obtain ⟨p6, hcp6, hf⟩ := hf_bind hf
      have mo7 : CS.hs σ ≤ CS.hs p6.2 := Mono.go hcp6 (m_X3_go N (CS.setW σ none) 4 0 0)
      have hr9 : CS.hs p6.2 ≤ CS.hs R.2 := Mono.go hf (mono_some (Nat.le_refl _))
      have hFc := cFree hC hA
      refine va_callv (va_runV (As := [.int 4, .int 0, .int 0]) (rest := []) ⟨hx, hb, hml, hown, hts⟩ (c_X3_go l dC dI Q N (CS.setW σ none) 4 0 0 p6 hcp6) (cwV 3 hts hX3_throwAgain_X3_go_v213 rfl rfl rfl (by decide +kernel) ⟨(show 1 + 1 ≤ 2 by omega), (show 8 + (4 + 11) + 60 * 1 ≤ 60 * 2 by omega)⟩) ⟨zPre.blind, va_recv hK hC.1 (ci := 2) (q0 := 7) rfl rfl, cPre_go hZ hK hC⟩ rfl rfl hl.1 rfl (lv_room (Nat.le_of_ble_eq_true rfl)) dX3_throwAgain_16 (cAcc h0 mo7 hr9)) hC.2.2.1 (fun q _ h => hFc q h) hFc (fun u9 t9 H1 locs ht hvm hw hB hz1 hk1 hS => ?_)
      obtain ⟨⟨hP, hK1, hD1⟩, hsz1⟩ := hB
      rw [ht] at hP hsz1
      have hC : CP dC dI Q A s.heap p6.2 H1 locs := ⟨hP, hD1.weaken (fun _ _ _ h => hFc _ h), hS, hsz1⟩
      generalize H1 = H at hC ⊢
      have h9 : (CS.hs σ) ≤ CS.hs p6.2 := Nat.le_trans h0 mo7
      refine W.widen (k := CS.hs p6.2 - (CS.hs σ)) (n := 17 * (CS.hs p6.2 - (CS.hs σ))) (cAcc2 h0 mo7) (cAcc3 h0 mo7) ?_
      obtain rfl := Option.some.inj hf
      exact W.vret hx hb hr (fun t ht hW => ⟨⟨(), rfl, trivial, ⟨by rw [ht]; exact hC.1, va_K.moved hW.alike hK, hC.2.1⟩, by rw [ht]; exact hC.2.2.2⟩, hC.2.2.1.F ht⟩) hC.2.2.1.2.2 dX3_throwAgain_19
    ·
      refine W.eq (congrArg (fun v9 => F0 m 9 ls (va_rf v9 :: [.ref (Q.o 7)])) q4) ?_
      refine W.eq (g2 := F0 m 9 ls (.ref a5 :: [.ref (Q.o 7)])) rfl ?_
      refine cP_76 (v := (some a5)) hx hb hts i_X3_throwAgain_X3 hown hK hC (hts (.fieldLink RX3 81 "StatementRules2$Machine" "wayThrown" "LStatementRules2$Thrown;") k_X3_throwAgain_fieldLink_RX3_81_SR_Machine_wayThrown_LSR_Thrown) (fun _ q9 => q9) dX3_throwAgain_9 (fun H locs hC => ?_)
      refine lv_aload_n hx hb dX3_throwAgain_12 rfl (lv_at hl 0 rfl) ?_
      refine lv_iconst (v := 4) hx hb dX3_throwAgain_13 (by decide) ?_
      refine lv_iconst (v := 0) hx hb dX3_throwAgain_14 (by decide) ?_
      refine lv_iconst (v := 0) hx hb dX3_throwAgain_15 (by decide) ?_
      obtain ⟨p10, hcp10, hf⟩ := hf_bind hf
      have mo11 : CS.hs σ ≤ CS.hs p10.2 := Mono.go hcp10 (m_X3_go N (CS.setW σ (some a5)) 4 0 0)
      have hr9 : CS.hs p10.2 ≤ CS.hs R.2 := Mono.go hf (mono_some (Nat.le_refl _))
      have hFc := cFree hC hA
      refine va_callv (va_runV (As := [.int 4, .int 0, .int 0]) (rest := []) ⟨hx, hb, hml, hown, hts⟩ (c_X3_go l dC dI Q N (CS.setW σ (some a5)) 4 0 0 p10 hcp10) (cwV 3 hts hX3_throwAgain_X3_go_v213 rfl rfl rfl (by decide +kernel) ⟨(show 1 + 1 ≤ 2 by omega), (show 8 + (4 + 11) + 60 * 1 ≤ 60 * 2 by omega)⟩) ⟨zPre.blind, va_recv hK hC.1 (ci := 2) (q0 := 7) rfl rfl, cPre_go hZ hK hC⟩ rfl rfl hl.1 rfl (lv_room (Nat.le_of_ble_eq_true rfl)) dX3_throwAgain_16 (cAcc h0 mo11 hr9)) hC.2.2.1 (fun q _ h => hFc q h) hFc (fun u9 t9 H1 locs ht hvm hw hB hz1 hk1 hS => ?_)
      obtain ⟨⟨hP, hK1, hD1⟩, hsz1⟩ := hB
      rw [ht] at hP hsz1
      have hC : CP dC dI Q A s.heap p10.2 H1 locs := ⟨hP, hD1.weaken (fun _ _ _ h => hFc _ h), hS, hsz1⟩
      generalize H1 = H at hC ⊢
      have h13 : (CS.hs σ) ≤ CS.hs p10.2 := Nat.le_trans h0 mo11
      refine W.widen (k := CS.hs p10.2 - (CS.hs σ)) (n := 17 * (CS.hs p10.2 - (CS.hs σ))) (cAcc2 h0 mo11) (cAcc3 h0 mo11) ?_
      obtain rfl := Option.some.inj hf
      exact W.vret hx hb hr (fun t ht hW => ⟨⟨(), rfl, trivial, ⟨by rw [ht]; exact hC.1, va_K.moved hW.alike hK, hC.2.1⟩, by rw [ht]; exact hC.2.2.2⟩, hC.2.2.1.F ht⟩) hC.2.2.1.2.2 dX3_throwAgain_19
theorem k_X3_resume_fieldLink_RX3_60_SR_Machine_depth_I : Cond.fieldLink RX3 60 "StatementRules2$Machine" "depth" "I" ∈ wzX3_resume := List.mem_cons_of_mem _ (List.mem_append_left _ (List.mem_of_getElem? (i := 0) rfl))
theorem i_X3_resume_X3 : ∀ w ∈ wsX30, w ∈ wzX3_resume := fun _ h => List.mem_cons_of_mem _ (List.mem_append_right _ (List.mem_append_left _ (h)))
theorem i_X3_resume_X2 : ∀ w ∈ wsX20, w ∈ wzX3_resume := fun _ h => List.mem_cons_of_mem _ (List.mem_append_right _ (List.mem_append_right _ (List.mem_append_left _ (h))))
theorem k_X3_resume_fieldLink_RX3_81_SR_Machine_wayThrown_LSR_Thrown : Cond.fieldLink RX3 81 "StatementRules2$Machine" "wayThrown" "LStatementRules2$Thrown;" ∈ wzX3_resume := List.mem_cons_of_mem _ (List.mem_append_left _ (List.mem_of_getElem? (i := 1) rfl))
set_option maxHeartbeats 4000000 in
set_option maxRecDepth 100000 in
theorem c_X3_resume (l : Launch) (dC : Nat → ClassId) (dI : Nat → Nat → Nat) (Q : CQ) (N : Nat) (σ : CS) (x1 : Option Nat) (R : Unit × CS) (hf : f_X3_resume N σ x1 = some R) : Met l yX3_resume wzX3_resume ({ frames := 2, cells := CS.hs R.2 - CS.hs σ, slots := 17 * (CS.hs R.2 - CS.hs σ), locals := 60 * 2 }) (va_Pc [.ref (Q.o 7), va_rf x1] (zPre dC dI (CS.hs σ) (cW Q σ) (cT Q))) (va_Qv (fun (_ : Unit) => True) (fun (_ : Unit) (t : State) => zPost dC dI (va_A (cW Q σ) (CS.hs σ)) (cW Q R.2) (cT Q) t ∧ t.heap.size = CS.hs R.2) (va_A (cW Q σ) (CS.hs σ))) (CS.hs R.2 - CS.hs σ) (17 * (CS.hs R.2 - CS.hs σ)) (va_A (cW Q σ) (CS.hs σ)) := by
  refine Met.ofW (cc := cX3_resume) (maxL := 2) (ret := none) (by decide) rfl ?_
  intro p e s m args below meth c s₁ B hml hv
  obtain ⟨rfl, hsz, hZ, hP, hK, hD0⟩ := hv
  have hx := B.exec
  have hb := B.bytes
  have hr := B.returns
  have hts := atoms_spec (ws := wzX3_resume) B.pre
  have hown : s.vm.findClass RX3 = some m.cls := findClass_of_methodNamed B.named
  have hlocks := B.notSynchronized
  have hD := hD0.self (sz := CS.hs σ)
  generalize hAe : va_A (cW Q σ) (CS.hs σ) = A at hD ⊢
  have hA : ∀ q : Nat, s.heap.size ≤ q → A q := fun q h => by rw [← hAe]; exact Or.inr (hsz ▸ h)
  have hC : CP dC dI Q A s.heap σ s.heap [] := ⟨hP, hD, va_S.rf, hsz⟩
  have h0 : CS.hs σ ≤ CS.hs σ := Nat.le_refl _
  have hl := lv_entry ([.ref (Q.o 7), va_rf x1]) (n := 2) (by cases x1 <;> exact Nat.le_of_ble_eq_true rfl)
  rw [lg_entry_eq]
  generalize (lg_sl ([.ref (Q.o 7), va_rf x1]) ++ List.replicate (2 - (lg_sl ([.ref (Q.o 7), va_rf x1])).length) Slot.unset).toArray = ls at hl ⊢
  have hl : lv_has ls 2 [(0, .ref (Q.o 7)), (1, va_rf x1)] := hl
  unfold f_X3_resume at hf
  refine W.widen (k := CS.hs σ - CS.hs σ) (n := 17 * (CS.hs σ - CS.hs σ)) (Nat.zero_le _) (Nat.zero_le _) ?_
  rcases hf_oc hf with ⟨q1, hf⟩ | ⟨a2, q1, hf⟩
  ·
    subst q1
    have hl : lv_has ls 2 [(0, .ref (Q.o 7)), (1, .null)] := hl
    refine lv_aload_nN hx hb dX3_resume_0 rfl (lv_at hl 1 rfl) ?_
    refine lv_ifnullN (tgt := 38) hx hb dX3_resume_1 (by decide) ?_
    obtain rfl := Option.some.inj hf
    exact W.vret hx hb hr (fun t ht hW => ⟨⟨(), rfl, trivial, ⟨by rw [ht]; exact hC.1, va_K.moved hW.alike hK, hC.2.1⟩, by rw [ht]; exact hC.2.2.2⟩, hC.2.2.1.F ht⟩) hC.2.2.1.2.2 dX3_resume_38
  ·
    subst q1
    have hl : lv_has ls 2 [(0, .ref (Q.o 7)), (1, .ref a2)] := hl
    refine lv_aload_n hx hb dX3_resume_0 rfl (lv_at hl 1 rfl) ?_
    refine lv_ifnull hx hb dX3_resume_1 ?_
    refine lv_aload_n hx hb dX3_resume_4 rfl (lv_at hl 0 rfl) ?_
    refine lv_dup hx hb dX3_resume_5 rfl ?_
    refine cG_67 (v := (σ.i 67)) hx hb hts i_X3_resume_X3 hown hK hC (hts (.fieldLink RX3 60 "StatementRules2$Machine" "depth" "I") k_X3_resume_fieldLink_RX3_60_SR_Machine_depth_I) (fun _ q9 => q9) dX3_resume_6 rfl ?_
    refine lv_iconst (v := 1) hx hb dX3_resume_9 (by decide) ?_
    refine lv_isub hx hb dX3_resume_10 ?_
    refine cP_67 (v := ((σ.i 67) - 1)) hx hb hts i_X3_resume_X3 hown hK hC (hts (.fieldLink RX3 60 "StatementRules2$Machine" "depth" "I") k_X3_resume_fieldLink_RX3_60_SR_Machine_depth_I) (fun _ q9 => q9) dX3_resume_11 (fun H locs hC => ?_)
    refine lv_aload_n hx hb dX3_resume_14 rfl (lv_at hl 0 rfl) ?_
    refine lv_aload_n hx hb dX3_resume_15 rfl (lv_at hl 1 rfl) ?_
    obtain ⟨b3, hf⟩ := hf_ite hf
    refine pGN_X2_4 (v := (CS.ot (CS.setI σ 67 ((σ.i 67) - 1)) a2)) hx hb hts i_X3_resume_X2 hown hK hC (va_Nw.use rfl (hZ.1 (.fieldLinkNest RX3 204 "StatementRules2$Frame" "thrown" "LStatementRules2$Thrown;" "StatementRules2") (by decide +kernel))) (fun _ q9 => q9) dX3_resume_16 b3 rfl ?_
    rcases hf_oc hf with ⟨q4, hf⟩ | ⟨a5, q4, hf⟩
    ·
      refine W.eq (congrArg (fun v9 => F0 m 19 ls (va_rf v9 :: [.ref (Q.o 7)])) q4) ?_
      refine W.eq (g2 := F0 m 19 ls (.null :: [.ref (Q.o 7)])) rfl ?_
      refine cP_76 (v := none) hx hb hts i_X3_resume_X3 hown hK hC (hts (.fieldLink RX3 81 "StatementRules2$Machine" "wayThrown" "LStatementRules2$Thrown;") k_X3_resume_fieldLink_RX3_81_SR_Machine_wayThrown_LSR_Thrown) (fun _ q9 => q9) dX3_resume_19 (fun H locs hC => ?_)
      refine lv_aload_n hx hb dX3_resume_22 rfl (lv_at hl 0 rfl) ?_
      refine lv_aload_n hx hb dX3_resume_23 rfl (lv_at hl 1 rfl) ?_
      refine pGN_X2_5 (v := (CS.o (CS.setW (CS.setI σ 67 ((σ.i 67) - 1)) none) a2 5)) hx hb hts i_X3_resume_X2 hown hK hC (va_Nw.use rfl (hZ.1 (.fieldLinkNest RX3 246 "StatementRules2$Frame" "way" "I" "StatementRules2") (by decide +kernel))) (fun _ q9 => q9) dX3_resume_24 b3 rfl ?_
      refine lv_aload_n hx hb dX3_resume_27 rfl (lv_at hl 1 rfl) ?_
      refine pGN_X2_6 (v := (CS.o (CS.setW (CS.setI σ 67 ((σ.i 67) - 1)) none) a2 6)) hx hb hts i_X3_resume_X2 hown hK hC (va_Nw.use rfl (hZ.1 (.fieldLinkNest RX3 247 "StatementRules2$Frame" "wayValue" "I" "StatementRules2") (by decide +kernel))) (fun _ q9 => q9) dX3_resume_28 b3 rfl ?_
      refine lv_aload_n hx hb dX3_resume_31 rfl (lv_at hl 1 rfl) ?_
      refine pGN_X2_7 (v := (CS.o (CS.setW (CS.setI σ 67 ((σ.i 67) - 1)) none) a2 7)) hx hb hts i_X3_resume_X2 hown hK hC (va_Nw.use rfl (hZ.1 (.fieldLinkNest RX3 248 "StatementRules2$Frame" "wayTarget" "I" "StatementRules2") (by decide +kernel))) (fun _ q9 => q9) dX3_resume_32 b3 rfl ?_
      obtain ⟨p6, hcp6, hf⟩ := hf_bind hf
      have mo7 : CS.hs σ ≤ CS.hs p6.2 := Mono.go hcp6 (m_X3_go N (CS.setW (CS.setI σ 67 ((σ.i 67) - 1)) none) (CS.o (CS.setW (CS.setI σ 67 ((σ.i 67) - 1)) none) a2 5) (CS.o (CS.setW (CS.setI σ 67 ((σ.i 67) - 1)) none) a2 6) (CS.o (CS.setW (CS.setI σ 67 ((σ.i 67) - 1)) none) a2 7))
      have hr9 : CS.hs p6.2 ≤ CS.hs R.2 := Mono.go hf (mono_some (Nat.le_refl _))
      have hFc := cFree hC hA
      refine va_callv (va_runV (As := [.int (CS.o (CS.setW (CS.setI σ 67 ((σ.i 67) - 1)) none) a2 5), .int (CS.o (CS.setW (CS.setI σ 67 ((σ.i 67) - 1)) none) a2 6), .int (CS.o (CS.setW (CS.setI σ 67 ((σ.i 67) - 1)) none) a2 7)]) (rest := []) ⟨hx, hb, hml, hown, hts⟩ (c_X3_go l dC dI Q N (CS.setW (CS.setI σ 67 ((σ.i 67) - 1)) none) (CS.o (CS.setW (CS.setI σ 67 ((σ.i 67) - 1)) none) a2 5) (CS.o (CS.setW (CS.setI σ 67 ((σ.i 67) - 1)) none) a2 6) (CS.o (CS.setW (CS.setI σ 67 ((σ.i 67) - 1)) none) a2 7) p6 hcp6) (cwV 3 hts hX3_resume_X3_go_v213 rfl rfl rfl (by decide +kernel) ⟨(show 1 + 1 ≤ 2 by omega), (show 8 + (4 + 11) + 60 * 1 ≤ 60 * 2 by omega)⟩) ⟨zPre.blind, va_recv hK hC.1 (ci := 2) (q0 := 7) rfl rfl, cPre_go hZ hK hC⟩ rfl rfl hl.1 rfl (lv_room (Nat.le_of_ble_eq_true rfl)) dX3_resume_35 (cAcc h0 mo7 hr9)) hC.2.2.1 (fun q _ h => hFc q h) hFc (fun u9 t9 H1 locs ht hvm hw hB hz1 hk1 hS => ?_)
      obtain ⟨⟨hP, hK1, hD1⟩, hsz1⟩ := hB
      rw [ht] at hP hsz1
      have hC : CP dC dI Q A s.heap p6.2 H1 locs := ⟨hP, hD1.weaken (fun _ _ _ h => hFc _ h), hS, hsz1⟩
      generalize H1 = H at hC ⊢
      have h9 : (CS.hs σ) ≤ CS.hs p6.2 := Nat.le_trans h0 mo7
      refine W.widen (k := CS.hs p6.2 - (CS.hs σ)) (n := 17 * (CS.hs p6.2 - (CS.hs σ))) (cAcc2 h0 mo7) (cAcc3 h0 mo7) ?_
      obtain rfl := Option.some.inj hf
      exact W.vret hx hb hr (fun t ht hW => ⟨⟨(), rfl, trivial, ⟨by rw [ht]; exact hC.1, va_K.moved hW.alike hK, hC.2.1⟩, by rw [ht]; exact hC.2.2.2⟩, hC.2.2.1.F ht⟩) hC.2.2.1.2.2 dX3_resume_38
    ·
      refine W.eq (congrArg (fun v9 => F0 m 19 ls (va_rf v9 :: [.ref (Q.o 7)])) q4) ?_
      refine W.eq (g2 := F0 m 19 ls (.ref a5 :: [.ref (Q.o 7)])) rfl ?_
      refine cP_76 (v := (some a5)) hx hb hts i_X3_resume_X3 hown hK hC (hts (.fieldLink RX3 81 "StatementRules2$Machine" "wayThrown" "LStatementRules2$Thrown;") k_X3_resume_fieldLink_RX3_81_SR_Machine_wayThrown_LSR_Thrown) (fun _ q9 => q9) dX3_resume_19 (fun H locs hC => ?_)
      refine lv_aload_n hx hb dX3_resume_22 rfl (lv_at hl 0 rfl) ?_
      refine lv_aload_n hx hb dX3_resume_23 rfl (lv_at hl 1 rfl) ?_
      refine pGN_X2_5 (v := (CS.o (CS.setW (CS.setI σ 67 ((σ.i 67) - 1)) (some a5)) a2 5)) hx hb hts i_X3_resume_X2 hown hK hC (va_Nw.use rfl (hZ.1 (.fieldLinkNest RX3 246 "StatementRules2$Frame" "way" "I" "StatementRules2") (by decide +kernel))) (fun _ q9 => q9) dX3_resume_24 b3 rfl ?_
      refine lv_aload_n hx hb dX3_resume_27 rfl (lv_at hl 1 rfl) ?_
      refine pGN_X2_6 (v := (CS.o (CS.setW (CS.setI σ 67 ((σ.i 67) - 1)) (some a5)) a2 6)) hx hb hts i_X3_resume_X2 hown hK hC (va_Nw.use rfl (hZ.1 (.fieldLinkNest RX3 247 "StatementRules2$Frame" "wayValue" "I" "StatementRules2") (by decide +kernel))) (fun _ q9 => q9) dX3_resume_28 b3 rfl ?_
      refine lv_aload_n hx hb dX3_resume_31 rfl (lv_at hl 1 rfl) ?_
      refine pGN_X2_7 (v := (CS.o (CS.setW (CS.setI σ 67 ((σ.i 67) - 1)) (some a5)) a2 7)) hx hb hts i_X3_resume_X2 hown hK hC (va_Nw.use rfl (hZ.1 (.fieldLinkNest RX3 248 "StatementRules2$Frame" "wayTarget" "I" "StatementRules2") (by decide +kernel))) (fun _ q9 => q9) dX3_resume_32 b3 rfl ?_
      obtain ⟨p10, hcp10, hf⟩ := hf_bind hf
      have mo11 : CS.hs σ ≤ CS.hs p10.2 := Mono.go hcp10 (m_X3_go N (CS.setW (CS.setI σ 67 ((σ.i 67) - 1)) (some a5)) (CS.o (CS.setW (CS.setI σ 67 ((σ.i 67) - 1)) (some a5)) a2 5) (CS.o (CS.setW (CS.setI σ 67 ((σ.i 67) - 1)) (some a5)) a2 6) (CS.o (CS.setW (CS.setI σ 67 ((σ.i 67) - 1)) (some a5)) a2 7))
      have hr9 : CS.hs p10.2 ≤ CS.hs R.2 := Mono.go hf (mono_some (Nat.le_refl _))
      have hFc := cFree hC hA
      refine va_callv (va_runV (As := [.int (CS.o (CS.setW (CS.setI σ 67 ((σ.i 67) - 1)) (some a5)) a2 5), .int (CS.o (CS.setW (CS.setI σ 67 ((σ.i 67) - 1)) (some a5)) a2 6), .int (CS.o (CS.setW (CS.setI σ 67 ((σ.i 67) - 1)) (some a5)) a2 7)]) (rest := []) ⟨hx, hb, hml, hown, hts⟩ (c_X3_go l dC dI Q N (CS.setW (CS.setI σ 67 ((σ.i 67) - 1)) (some a5)) (CS.o (CS.setW (CS.setI σ 67 ((σ.i 67) - 1)) (some a5)) a2 5) (CS.o (CS.setW (CS.setI σ 67 ((σ.i 67) - 1)) (some a5)) a2 6) (CS.o (CS.setW (CS.setI σ 67 ((σ.i 67) - 1)) (some a5)) a2 7) p10 hcp10) (cwV 3 hts hX3_resume_X3_go_v213 rfl rfl rfl (by decide +kernel) ⟨(show 1 + 1 ≤ 2 by omega), (show 8 + (4 + 11) + 60 * 1 ≤ 60 * 2 by omega)⟩) ⟨zPre.blind, va_recv hK hC.1 (ci := 2) (q0 := 7) rfl rfl, cPre_go hZ hK hC⟩ rfl rfl hl.1 rfl (lv_room (Nat.le_of_ble_eq_true rfl)) dX3_resume_35 (cAcc h0 mo11 hr9)) hC.2.2.1 (fun q _ h => hFc q h) hFc (fun u9 t9 H1 locs ht hvm hw hB hz1 hk1 hS => ?_)
      obtain ⟨⟨hP, hK1, hD1⟩, hsz1⟩ := hB
      rw [ht] at hP hsz1
      have hC : CP dC dI Q A s.heap p10.2 H1 locs := ⟨hP, hD1.weaken (fun _ _ _ h => hFc _ h), hS, hsz1⟩
      generalize H1 = H at hC ⊢
      have h13 : (CS.hs σ) ≤ CS.hs p10.2 := Nat.le_trans h0 mo11
      refine W.widen (k := CS.hs p10.2 - (CS.hs σ)) (n := 17 * (CS.hs p10.2 - (CS.hs σ))) (cAcc2 h0 mo11) (cAcc3 h0 mo11) ?_
      obtain rfl := Option.some.inj hf
      exact W.vret hx hb hr (fun t ht hW => ⟨⟨(), rfl, trivial, ⟨by rw [ht]; exact hC.1, va_K.moved hW.alike hK, hC.2.1⟩, by rw [ht]; exact hC.2.2.2⟩, hC.2.2.1.F ht⟩) hC.2.2.1.2.2 dX3_resume_38
theorem i_X3_handle_X2 : ∀ w ∈ wsX20, w ∈ wzX3_handle := fun _ h => List.mem_cons_of_mem _ (List.mem_append_right _ (List.mem_append_left _ (h)))
theorem k_X3_handle_fieldLink_RX3_36_SR_Machine_told_LSR_Told : Cond.fieldLink RX3 36 "StatementRules2$Machine" "told" "LStatementRules2$Told;" ∈ wzX3_handle := List.mem_cons_of_mem _ (List.mem_append_left _ (List.mem_of_getElem? (i := 0) rfl))
theorem i_X3_handle_X3 : ∀ w ∈ wsX30, w ∈ wzX3_handle := fun _ h => List.mem_cons_of_mem _ (List.mem_append_right _ (List.mem_append_right _ (List.mem_append_left _ (h))))
theorem i_X3_handle_X8 : ∀ w ∈ wsX80, w ∈ wzX3_handle := fun _ h => List.mem_cons_of_mem _ (List.mem_append_right _ (List.mem_append_right _ (List.mem_append_right _ (List.mem_append_left _ (h)))))
theorem k_X3_handle_fieldLink_RX3_9_SR_Machine_cells_I : Cond.fieldLink RX3 9 "StatementRules2$Machine" "cells" "[I" ∈ wzX3_handle := List.mem_cons_of_mem _ (List.mem_append_left _ (List.mem_of_getElem? (i := 1) rfl))
theorem k_X3_handle_initialized_RX11 : Cond.initialized RX11 ∈ wzX3_handle := List.mem_cons_of_mem _ (List.mem_append_left _ (List.mem_of_getElem? (i := 2) rfl))
theorem k_X3_handle_static_yX11_put : Cond.static yX11_put ∈ wzX3_handle := List.mem_cons_of_mem _ (List.mem_append_left _ (List.mem_of_getElem? (i := 3) rfl))
set_option maxHeartbeats 4000000 in
set_option maxRecDepth 100000 in
theorem c_X3_handle (l : Launch) (dC : Nat → ClassId) (dI : Nat → Nat → Nat) (Q : CQ) (N : Nat) (σ : CS) (x1 : Int32) (x2 : Int32) (x3 : Option Nat) (R : Unit × CS) (hf : f_X3_handle N σ x1 x2 x3 = some R) : Met l yX3_handle wzX3_handle ({ frames := 3, cells := CS.hs R.2 - CS.hs σ, slots := 17 * (CS.hs R.2 - CS.hs σ), locals := 60 * 3 }) (va_Pc [.ref (Q.o 7), .int x1, .int x2, va_rf x3] (zPre dC dI (CS.hs σ) (cW Q σ) (cT Q))) (va_Qv (fun (_ : Unit) => True) (fun (_ : Unit) (t : State) => zPost dC dI (va_A (cW Q σ) (CS.hs σ)) (cW Q R.2) (cT Q) t ∧ t.heap.size = CS.hs R.2) (va_A (cW Q σ) (CS.hs σ))) (CS.hs R.2 - CS.hs σ) (17 * (CS.hs R.2 - CS.hs σ)) (va_A (cW Q σ) (CS.hs σ)) := by
  refine Met.ofW (cc := cX3_handle) (maxL := 4) (ret := none) (by decide) rfl ?_
  intro p e s m args below meth c s₁ B hml hv
  obtain ⟨rfl, hsz, hZ, hP, hK, hD0⟩ := hv
  have hx := B.exec
  have hb := B.bytes
  have hr := B.returns
  have hts := atoms_spec (ws := wzX3_handle) B.pre
  have hown : s.vm.findClass RX3 = some m.cls := findClass_of_methodNamed B.named
  have hlocks := B.notSynchronized
  have hD := hD0.self (sz := CS.hs σ)
  generalize hAe : va_A (cW Q σ) (CS.hs σ) = A at hD ⊢
  have hA : ∀ q : Nat, s.heap.size ≤ q → A q := fun q h => by rw [← hAe]; exact Or.inr (hsz ▸ h)
  have hC : CP dC dI Q A s.heap σ s.heap [] := ⟨hP, hD, va_S.rf, hsz⟩
  have h0 : CS.hs σ ≤ CS.hs σ := Nat.le_refl _
  have hl := lv_entry ([.ref (Q.o 7), .int x1, .int x2, va_rf x3]) (n := 4) (by cases x3 <;> exact Nat.le_of_ble_eq_true rfl)
  rw [lg_entry_eq]
  generalize (lg_sl ([.ref (Q.o 7), .int x1, .int x2, va_rf x3]) ++ List.replicate (4 - (lg_sl ([.ref (Q.o 7), .int x1, .int x2, va_rf x3])).length) Slot.unset).toArray = ls at hl ⊢
  have hl : lv_has ls 4 [(0, .ref (Q.o 7)), (1, .int x1), (2, .int x2), (3, va_rf x3)] := hl
  unfold f_X3_handle at hf
  refine W.widen (k := CS.hs σ - CS.hs σ) (n := 17 * (CS.hs σ - CS.hs σ)) (Nat.zero_le _) (Nat.zero_le _) ?_
  rcases hf_oc hf with ⟨q1, hf⟩ | ⟨a2, q1, hf⟩
  ·
    subst q1
    have hl : lv_has ls 4 [(0, .ref (Q.o 7)), (1, .int x1), (2, .int x2), (3, .null)] := hl
    refine lv_aload_nN hx hb dX3_handle_0 rfl (lv_at hl 3 rfl) ?_
    refine lv_ifnullN (tgt := 11) hx hb dX3_handle_1 (by decide) ?_
    obtain rfl := Option.some.inj hf
    exact W.vret hx hb hr (fun t ht hW => ⟨⟨(), rfl, trivial, ⟨by rw [ht]; exact hC.1, va_K.moved hW.alike hK, hC.2.1⟩, by rw [ht]; exact hC.2.2.2⟩, hC.2.2.1.F ht⟩) hC.2.2.1.2.2 dX3_handle_11
  ·
    subst q1
    have hl : lv_has ls 4 [(0, .ref (Q.o 7)), (1, .int x1), (2, .int x2), (3, .ref a2)] := hl
    refine lv_aload_n hx hb dX3_handle_0 rfl (lv_at hl 3 rfl) ?_
    refine lv_ifnull hx hb dX3_handle_1 ?_
    refine lv_aload_n hx hb dX3_handle_4 rfl (lv_at hl 3 rfl) ?_
    obtain ⟨b3, hf⟩ := hf_ite hf
    refine pGN_X2_4 (v := (CS.ot σ a2)) hx hb hts i_X3_handle_X2 hown hK hC (va_Nw.use rfl (hZ.1 (.fieldLinkNest RX3 204 "StatementRules2$Frame" "thrown" "LStatementRules2$Thrown;" "StatementRules2") (by decide +kernel))) (fun _ q9 => q9) dX3_handle_5 b3 rfl ?_
    rcases hf_oc hf with ⟨q4, hf⟩ | ⟨a5, q4, hf⟩
    ·
      refine W.eq (congrArg (fun v9 => F0 m 8 ls (va_rf v9 :: [])) q4) ?_
      refine W.eq (g2 := F0 m 8 ls (.null :: [])) rfl ?_
      refine lv_ifnonnullN hx hb dX3_handle_8 ?_
      obtain rfl := Option.some.inj hf
      exact W.vret hx hb hr (fun t ht hW => ⟨⟨(), rfl, trivial, ⟨by rw [ht]; exact hC.1, va_K.moved hW.alike hK, hC.2.1⟩, by rw [ht]; exact hC.2.2.2⟩, hC.2.2.1.F ht⟩) hC.2.2.1.2.2 dX3_handle_11
    ·
      refine W.eq (congrArg (fun v9 => F0 m 8 ls (va_rf v9 :: [])) q4) ?_
      refine W.eq (g2 := F0 m 8 ls (.ref a5 :: [])) rfl ?_
      refine lv_ifnonnull (tgt := 12) hx hb dX3_handle_8 (by decide) ?_
      refine lv_iload_n hx hb dX3_handle_12 rfl (lv_at hl 1 rfl) ?_
      refine lv_bipush (v := 58) hx hb dX3_handle_13 (by decide) ?_
      refine lv_icmp_ne (tgt := 26) hx hb dX3_handle_15 (by decide) (fun c6 => ?_) (fun c6 => ?_)
      ·
        replace hf := (if_neg c6).symm.trans hf
        refine lv_iload_n hx hb dX3_handle_26 rfl (lv_at hl 1 rfl) ?_
        refine lv_bipush (v := 57) hx hb dX3_handle_27 (by decide) ?_
        refine lv_icmp_ne (tgt := 50) hx hb dX3_handle_29 (by decide) (fun c7 => ?_) (fun c7 => ?_)
        ·
          replace hf := (if_neg c7).symm.trans hf
          refine lv_aload_n hx hb dX3_handle_50 rfl (lv_at hl 0 rfl) ?_
          refine lv_aload_n hx hb dX3_handle_51 rfl (lv_at hl 0 rfl) ?_
          refine cG_57 hx hb hts i_X3_handle_X3 hown hK hC (hts (.fieldLink RX3 36 "StatementRules2$Machine" "told" "LStatementRules2$Told;") k_X3_handle_fieldLink_RX3_36_SR_Machine_told_LSR_Told) (fun _ q9 => q9) dX3_handle_52 ?_
          refine lv_aload_n hx hb dX3_handle_55 rfl (lv_at hl 3 rfl) ?_
          refine pGN_X2_4 (v := (CS.ot σ a2)) hx hb hts i_X3_handle_X2 hown hK hC (va_Nw.use rfl (hZ.1 (.fieldLinkNest RX3 204 "StatementRules2$Frame" "thrown" "LStatementRules2$Thrown;" "StatementRules2") (by decide +kernel))) (fun _ q9 => q9) dX3_handle_56 b3 rfl ?_
          rcases hf_oc hf with ⟨q8, hf⟩ | ⟨a9, q8, hf⟩
          ·
            refine W.eq (congrArg (fun v9 => F0 m 59 ls (va_rf v9 :: [.ref (Q.o 1), .ref (Q.o 7)])) q8) ?_
            refine W.eq (g2 := F0 m 59 ls (.null :: [.ref (Q.o 1), .ref (Q.o 7)])) rfl ?_
            cases hf
          ·
            refine W.eq (congrArg (fun v9 => F0 m 59 ls (va_rf v9 :: [.ref (Q.o 1), .ref (Q.o 7)])) q8) ?_
            refine W.eq (g2 := F0 m 59 ls (.ref a9 :: [.ref (Q.o 1), .ref (Q.o 7)])) rfl ?_
            obtain ⟨b10, hf⟩ := hf_ite hf
            refine pGN_X8_2 (v := (CS.o σ a9 2)) hx hb hts i_X3_handle_X8 hown hK hC (va_Nw.use rfl (hZ.1 (.fieldLinkNest RX3 99 "StatementRules2$Thrown" "sort" "I" "StatementRules2") (by decide +kernel))) (fun _ q9 => q9) dX3_handle_59 b10 rfl ?_
            refine lv_iload_n hx hb dX3_handle_62 rfl (lv_at hl 2 rfl) ?_
            refine lv_bipush (v := 16) hx hb dX3_handle_63 (by decide) ?_
            refine lv_irem hx hb dX3_handle_65 (by decide) ?_
            obtain ⟨p11, hcp11, hf⟩ := hf_bind hf
            have mo12 : CS.hs σ ≤ CS.hs p11.2 := Mono.go hcp11 (m_X10_isUnder N σ (CS.o σ a9 2) (x2 - x2 / 16 * 16))
            have hr9 : CS.hs p11.2 ≤ CS.hs R.2 := Mono.go hf (mono_bind (m_X3_goIf N p11.2 p11.1 (x2 / 16)) (fun p15 => (mono_some (Nat.le_refl _))))
            have hFc := cFree hC hA
            refine va_calli (va_runV (As := [.int (CS.o σ a9 2), .int (x2 - x2 / 16 * 16)]) (rest := [.ref (Q.o 7)]) ⟨hx, hb, hml, hown, hts⟩ (c_X10_isUnder l dC dI Q N σ (CS.o σ a9 2) (x2 - x2 / 16 * 16) p11 hcp11) (cwV 2 hts hX3_handle_X10_isUnder_v231 rfl rfl rfl (by decide +kernel) ⟨(show 2 + 1 ≤ 3 by omega), (show 8 + (5 + 11) + 60 * 2 ≤ 60 * 3 by omega)⟩) ⟨zPre.blind, va_recv hK hC.1 (ci := 9) (q0 := 1) rfl rfl, cPre_go hZ hK hC⟩ rfl rfl hl.1 rfl (lv_room (Nat.le_of_ble_eq_true rfl)) dX3_handle_66 (cAcc h0 mo12 hr9)) hC.2.2.1 (fun q _ h => hFc q h) hFc (fun r13 u9 t9 H1 locs ht hvm hw hB hz1 hk1 hS => ?_)
            obtain ⟨⟨hP, hK1, hD1⟩, hsz1⟩ := hB
            rw [ht] at hP hsz1
            have hC : CP dC dI Q A s.heap p11.2 H1 locs := ⟨hP, hD1.weaken (fun _ _ _ h => hFc _ h), hS, hsz1⟩
            generalize H1 = H at hC ⊢
            have h14 : (CS.hs σ) ≤ CS.hs p11.2 := Nat.le_trans h0 mo12
            refine W.widen (k := CS.hs p11.2 - (CS.hs σ)) (n := 17 * (CS.hs p11.2 - (CS.hs σ))) (cAcc2 h0 mo12) (cAcc3 h0 mo12) ?_
            obtain rfl : r13 = p11.1 := hw
            refine lv_iload_n hx hb dX3_handle_69 rfl (lv_at hl 2 rfl) ?_
            refine lv_bipush (v := 16) hx hb dX3_handle_70 (by decide) ?_
            refine lv_idiv hx hb dX3_handle_72 (by decide) ?_
            obtain ⟨p15, hcp15, hf⟩ := hf_bind hf
            have mo16 : CS.hs p11.2 ≤ CS.hs p15.2 := Mono.go hcp15 (m_X3_goIf N p11.2 p11.1 (x2 / 16))
            have hr9 : CS.hs p15.2 ≤ CS.hs R.2 := Mono.go hf (mono_some (Nat.le_refl _))
            have hFc := cFree hC hA
            refine va_callv (va_runV (As := [.int p11.1, .int (x2 / 16)]) (rest := []) ⟨hx, hb, hml, hown, hts⟩ (c_X3_goIf l dC dI Q N p11.2 p11.1 (x2 / 16) p15 hcp15) (cwV 2 hts hX3_handle_X3_goIf_v156 rfl rfl rfl (by decide +kernel) ⟨(show 2 + 1 ≤ 3 by omega), (show 8 + (3 + 11) + 60 * 2 ≤ 60 * 3 by omega)⟩) ⟨zPre.blind, va_recv hK hC.1 (ci := 2) (q0 := 7) rfl rfl, cPre_go hZ hK hC⟩ rfl rfl hl.1 rfl (lv_room (Nat.le_of_ble_eq_true rfl)) dX3_handle_73 (cAcc h14 mo16 hr9)) hC.2.2.1 (fun q _ h => hFc q h) hFc (fun u9 t9 H1 locs ht hvm hw hB hz1 hk1 hS => ?_)
            obtain ⟨⟨hP, hK1, hD1⟩, hsz1⟩ := hB
            rw [ht] at hP hsz1
            have hC : CP dC dI Q A s.heap p15.2 H1 locs := ⟨hP, hD1.weaken (fun _ _ _ h => hFc _ h), hS, hsz1⟩
            generalize H1 = H at hC ⊢
            have h18 : (CS.hs σ) ≤ CS.hs p15.2 := Nat.le_trans h14 mo16
            refine W.widen (k := CS.hs p15.2 - (CS.hs σ)) (n := 17 * (CS.hs p15.2 - (CS.hs σ))) (cAcc2 h14 mo16) (cAcc3 h14 mo16) ?_
            obtain rfl := Option.some.inj hf
            exact W.vret hx hb hr (fun t ht hW => ⟨⟨(), rfl, trivial, ⟨by rw [ht]; exact hC.1, va_K.moved hW.alike hK, hC.2.1⟩, by rw [ht]; exact hC.2.2.2⟩, hC.2.2.1.F ht⟩) hC.2.2.1.2.2 dX3_handle_76
        ·
          replace hf := (if_pos c7).symm.trans hf
          refine lv_aload_n hx hb dX3_handle_32 rfl (lv_at hl 0 rfl) ?_
          refine cG_59 hx hb hts i_X3_handle_X3 hown hK hC (hts (.fieldLink RX3 9 "StatementRules2$Machine" "cells" "[I") k_X3_handle_fieldLink_RX3_9_SR_Machine_cells_I) (fun _ q9 => q9) dX3_handle_33 ?_
          refine lv_iload_n hx hb dX3_handle_36 rfl (lv_at hl 2 rfl) ?_
          refine lv_aload_n hx hb dX3_handle_37 rfl (lv_at hl 3 rfl) ?_
          refine pGN_X2_4 (v := (CS.ot σ a2)) hx hb hts i_X3_handle_X2 hown hK hC (va_Nw.use rfl (hZ.1 (.fieldLinkNest RX3 204 "StatementRules2$Frame" "thrown" "LStatementRules2$Thrown;" "StatementRules2") (by decide +kernel))) (fun _ q9 => q9) dX3_handle_38 b3 rfl ?_
          rcases hf_oc hf with ⟨q19, hf⟩ | ⟨a20, q19, hf⟩
          ·
            refine W.eq (congrArg (fun v9 => F0 m 41 ls (va_rf v9 :: [.int x2, .ref (Q.q 59)])) q19) ?_
            refine W.eq (g2 := F0 m 41 ls (.null :: [.int x2, .ref (Q.q 59)])) rfl ?_
            cases hf
          ·
            refine W.eq (congrArg (fun v9 => F0 m 41 ls (va_rf v9 :: [.int x2, .ref (Q.q 59)])) q19) ?_
            refine W.eq (g2 := F0 m 41 ls (.ref a20 :: [.int x2, .ref (Q.q 59)])) rfl ?_
            obtain ⟨b21, hf⟩ := hf_ite hf
            refine pGN_X8_3 (v := (CS.o σ a20 3)) hx hb hts i_X3_handle_X8 hown hK hC (va_Nw.use rfl (hZ.1 (.fieldLinkNest RX3 102 "StatementRules2$Thrown" "number" "I" "StatementRules2") (by decide +kernel))) (fun _ q9 => q9) dX3_handle_41 b21 rfl ?_
            have he9 := (cArr_59 (Q := Q) (σ := σ))
            have hFc := cFree1 hC hA he9
            have hr9 : CS.hs σ ≤ CS.hs R.2 := Mono.go hf (mono_some (Nat.le_refl _))
            refine va_callv (va_runSN (As := [.ref (Q.q 59), .int x2, .int (CS.o σ a20 3)]) (rest := []) ⟨hx, hb, hml, hown, hts⟩ (c_X11_put l dC dI _ (Q.q 59) (Q.c 0) 720 (σ.a 59) x2 (CS.o σ a20 3) (by decide)) ⟨va_cnB 3 hts hX3_handle_X11_put_n50 rfl rfl rfl (hZ.1 (.methodLinkNest RX3 50 yX11_put "StatementRules2") (by decide +kernel)) (hts (.initialized RX11) k_X3_handle_initialized_RX11) (by decide +kernel) ⟨(show 1 + 1 ≤ 3 by omega), (show 8 + (3 + 11) + 60 * 1 ≤ 60 * 3 by omega)⟩, (hts (.static yX11_put) k_X3_handle_static_yX11_put), trivial⟩ ⟨zPre.blind, zPre.go hZ (cOne hC.1 he9) (hK.sub (tys' := [(Q.c 0, .int)]) [0] rfl) (cOneD hC.2.1 he9)⟩ rfl rfl hl.1 rfl (lv_room (Nat.le_of_ble_eq_true rfl)) dX3_handle_44 ⟨cAcc4 h0 hr9, cAcc5 h0 hr9⟩) hC.2.2.1 (fun q _ h => hFc q h) hFc (fun u9 t9 H1 locs ht hvm hw hB hz1 hk1 hS => ?_)
            obtain ⟨⟨hP1, hK1, hD1⟩, hsz1⟩ := hB
            rw [ht] at hP1 hsz1
            have hC := cBack (σ' := CS.putA σ 59 (gPut (σ.a 59) 720 x2 (CS.o σ a20 3))) hC he9 cPutA_59 (cPutA_h _ _ _) hk1 hP1 hsz1 hS
            generalize H1 = H at hC ⊢
            refine lv_goto (tgt := 76) hx hb dX3_handle_47 (by decide) ?_
            obtain rfl := Option.some.inj hf
            exact W.vret hx hb hr (fun t ht hW => ⟨⟨(), rfl, trivial, ⟨by rw [ht]; exact hC.1, va_K.moved hW.alike hK, hC.2.1⟩, by rw [ht]; exact hC.2.2.2⟩, hC.2.2.1.F ht⟩) hC.2.2.1.2.2 dX3_handle_76
      ·
        replace hf := (if_pos c6).symm.trans hf
        refine lv_aload_n hx hb dX3_handle_18 rfl (lv_at hl 0 rfl) ?_
        refine lv_aload_n hx hb dX3_handle_19 rfl (lv_at hl 3 rfl) ?_
        obtain ⟨p22, hcp22, hf⟩ := hf_bind hf
        have mo23 : CS.hs σ ≤ CS.hs p22.2 := Mono.go hcp22 (m_X3_throwAgain N σ (some a2))
        have hr9 : CS.hs p22.2 ≤ CS.hs R.2 := Mono.go hf (mono_some (Nat.le_refl _))
        have hFc := cFree hC hA
        refine va_callv (va_runV (As := [.ref a2]) (rest := []) ⟨hx, hb, hml, hown, hts⟩ (c_X3_throwAgain l dC dI Q N σ (some a2) p22 hcp22) (cwV 1 hts hX3_handle_X3_throwAgain_v220 rfl rfl rfl (by decide +kernel) ⟨(show 2 + 1 ≤ 3 by omega), (show 8 + (2 + 11) + 60 * 2 ≤ 60 * 3 by omega)⟩) ⟨zPre.blind, va_recv hK hC.1 (ci := 2) (q0 := 7) rfl rfl, cPre_go hZ hK hC⟩ rfl rfl hl.1 rfl (lv_room (Nat.le_of_ble_eq_true rfl)) dX3_handle_20 (cAcc h0 mo23 hr9)) hC.2.2.1 (fun q _ h => hFc q h) hFc (fun u9 t9 H1 locs ht hvm hw hB hz1 hk1 hS => ?_)
        obtain ⟨⟨hP, hK1, hD1⟩, hsz1⟩ := hB
        rw [ht] at hP hsz1
        have hC : CP dC dI Q A s.heap p22.2 H1 locs := ⟨hP, hD1.weaken (fun _ _ _ h => hFc _ h), hS, hsz1⟩
        generalize H1 = H at hC ⊢
        have h25 : (CS.hs σ) ≤ CS.hs p22.2 := Nat.le_trans h0 mo23
        refine W.widen (k := CS.hs p22.2 - (CS.hs σ)) (n := 17 * (CS.hs p22.2 - (CS.hs σ))) (cAcc2 h0 mo23) (cAcc3 h0 mo23) ?_
        refine lv_goto (tgt := 76) hx hb dX3_handle_23 (by decide) ?_
        obtain rfl := Option.some.inj hf
        exact W.vret hx hb hr (fun t ht hW => ⟨⟨(), rfl, trivial, ⟨by rw [ht]; exact hC.1, va_K.moved hW.alike hK, hC.2.1⟩, by rw [ht]; exact hC.2.2.2⟩, hC.2.2.1.F ht⟩) hC.2.2.1.2.2 dX3_handle_76
end
