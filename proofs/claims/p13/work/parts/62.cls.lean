set_option maxHeartbeats 4000000 in
set_option maxRecDepth 100000 in
theorem c_X9_isSign (l : Launch) (dC : Nat → ClassId) (dI : Nat → Nat → Nat) (Q : CQ) (N : Nat) (σ : CS) (x0 : Int32) (R : Int32 × CS) (hf : f_X9_isSign N σ x0 = some R) : Met l yX9_isSign wzX9_isSign ({ frames := 1, cells := CS.hs R.2 - CS.hs σ, slots := 17 * (CS.hs R.2 - CS.hs σ), locals := 60 * 1 }) (va_Pc [.int x0] (zPre dC dI (CS.hs σ) (cW Q σ) (cT Q))) (va_Qi (fun (r : Int32) (_ : Unit) => r = R.1) (fun (_ : Unit) (t : State) => zPost dC dI (va_A (cW Q σ) (CS.hs σ)) (cW Q R.2) (cT Q) t ∧ t.heap.size = CS.hs R.2) (va_A (cW Q σ) (CS.hs σ))) (CS.hs R.2 - CS.hs σ) (17 * (CS.hs R.2 - CS.hs σ)) (va_A (cW Q σ) (CS.hs σ)) := by
  refine Met.ofW (cc := cX9_isSign) (maxL := 1) (ret := (some .boolean)) (by decide) rfl ?_
  intro p e s m args below meth c s₁ B hml hv
  obtain ⟨rfl, hsz, hZ, hP, hK, hD0⟩ := hv
  have hx := B.exec
  have hb := B.bytes
  have hr := B.returns
  have hts := atoms_spec (ws := wzX9_isSign) B.pre
  have hown : s.vm.findClass RX9 = some m.cls := findClass_of_methodNamed B.named
  have hlocks := B.notSynchronized
  have hD := hD0.self (sz := CS.hs σ)
  generalize hAe : va_A (cW Q σ) (CS.hs σ) = A at hD ⊢
  have hA : ∀ q : Nat, s.heap.size ≤ q → A q := fun q h => by rw [← hAe]; exact Or.inr (hsz ▸ h)
  have hC : CP dC dI Q A s.heap σ s.heap [] := ⟨hP, hD, va_S.rf, hsz⟩
  have h0 : CS.hs σ ≤ CS.hs σ := Nat.le_refl _
  have hl := lv_entry ([.int x0]) (n := 1) (Nat.le_of_ble_eq_true rfl)
  rw [lg_entry_eq]
  generalize (lg_sl ([.int x0]) ++ List.replicate (1 - (lg_sl ([.int x0])).length) Slot.unset).toArray = ls at hl ⊢
  have hl : lv_has ls 1 [(0, .int x0)] := hl
  unfold f_X9_isSign at hf
  refine W.widen (k := CS.hs σ - CS.hs σ) (n := 17 * (CS.hs σ - CS.hs σ)) (Nat.zero_le _) (Nat.zero_le _) ?_
  refine lv_iload_n hx hb dX9_isSign_0 rfl (lv_at hl 0 rfl) ?_
  by_cases c1 : x0 = 33
  ·
    replace hf := (if_pos c1).symm.trans hf
    refine lv_lookup (off := 163) (tgt := 164) hx hb dX9_isSign_1 (by decide) (by rw [c1]; decide) (by decide) ?_
    refine lv_iconst (v := 1) hx hb dX9_isSign_164 (by decide) ?_
    obtain rfl := Option.some.inj hf
    exact W.zret (v := 1) hx hb hr (rfl) (fun t ht hW => ⟨⟨1, (), rfl, rfl, ⟨by rw [ht]; exact hC.1, va_K.moved hW.alike hK, hC.2.1⟩, by rw [ht]; exact hC.2.2.2⟩, hC.2.2.1.F ht⟩) hC.2.2.1.2.2 dX9_isSign_165
  replace hf := (if_neg c1).symm.trans hf
  by_cases c2 : x0 = 37
  ·
    replace hf := (if_pos c2).symm.trans hf
    refine lv_lookup (off := 163) (tgt := 164) hx hb dX9_isSign_1 (by decide) (by rw [c2]; decide) (by decide) ?_
    refine lv_iconst (v := 1) hx hb dX9_isSign_164 (by decide) ?_
    obtain rfl := Option.some.inj hf
    exact W.zret (v := 1) hx hb hr (rfl) (fun t ht hW => ⟨⟨1, (), rfl, rfl, ⟨by rw [ht]; exact hC.1, va_K.moved hW.alike hK, hC.2.1⟩, by rw [ht]; exact hC.2.2.2⟩, hC.2.2.1.F ht⟩) hC.2.2.1.2.2 dX9_isSign_165
  replace hf := (if_neg c2).symm.trans hf
  by_cases c3 : x0 = 40
  ·
    replace hf := (if_pos c3).symm.trans hf
    refine lv_lookup (off := 163) (tgt := 164) hx hb dX9_isSign_1 (by decide) (by rw [c3]; decide) (by decide) ?_
    refine lv_iconst (v := 1) hx hb dX9_isSign_164 (by decide) ?_
    obtain rfl := Option.some.inj hf
    exact W.zret (v := 1) hx hb hr (rfl) (fun t ht hW => ⟨⟨1, (), rfl, rfl, ⟨by rw [ht]; exact hC.1, va_K.moved hW.alike hK, hC.2.1⟩, by rw [ht]; exact hC.2.2.2⟩, hC.2.2.1.F ht⟩) hC.2.2.1.2.2 dX9_isSign_165
  replace hf := (if_neg c3).symm.trans hf
  by_cases c4 : x0 = 41
  ·
    replace hf := (if_pos c4).symm.trans hf
    refine lv_lookup (off := 163) (tgt := 164) hx hb dX9_isSign_1 (by decide) (by rw [c4]; decide) (by decide) ?_
    refine lv_iconst (v := 1) hx hb dX9_isSign_164 (by decide) ?_
    obtain rfl := Option.some.inj hf
    exact W.zret (v := 1) hx hb hr (rfl) (fun t ht hW => ⟨⟨1, (), rfl, rfl, ⟨by rw [ht]; exact hC.1, va_K.moved hW.alike hK, hC.2.1⟩, by rw [ht]; exact hC.2.2.2⟩, hC.2.2.1.F ht⟩) hC.2.2.1.2.2 dX9_isSign_165
  replace hf := (if_neg c4).symm.trans hf
  by_cases c5 : x0 = 42
  ·
    replace hf := (if_pos c5).symm.trans hf
    refine lv_lookup (off := 163) (tgt := 164) hx hb dX9_isSign_1 (by decide) (by rw [c5]; decide) (by decide) ?_
    refine lv_iconst (v := 1) hx hb dX9_isSign_164 (by decide) ?_
    obtain rfl := Option.some.inj hf
    exact W.zret (v := 1) hx hb hr (rfl) (fun t ht hW => ⟨⟨1, (), rfl, rfl, ⟨by rw [ht]; exact hC.1, va_K.moved hW.alike hK, hC.2.1⟩, by rw [ht]; exact hC.2.2.2⟩, hC.2.2.1.F ht⟩) hC.2.2.1.2.2 dX9_isSign_165
  replace hf := (if_neg c5).symm.trans hf
  by_cases c6 : x0 = 43
  ·
    replace hf := (if_pos c6).symm.trans hf
    refine lv_lookup (off := 163) (tgt := 164) hx hb dX9_isSign_1 (by decide) (by rw [c6]; decide) (by decide) ?_
    refine lv_iconst (v := 1) hx hb dX9_isSign_164 (by decide) ?_
    obtain rfl := Option.some.inj hf
    exact W.zret (v := 1) hx hb hr (rfl) (fun t ht hW => ⟨⟨1, (), rfl, rfl, ⟨by rw [ht]; exact hC.1, va_K.moved hW.alike hK, hC.2.1⟩, by rw [ht]; exact hC.2.2.2⟩, hC.2.2.1.F ht⟩) hC.2.2.1.2.2 dX9_isSign_165
  replace hf := (if_neg c6).symm.trans hf
  by_cases c7 : x0 = 44
  ·
    replace hf := (if_pos c7).symm.trans hf
    refine lv_lookup (off := 163) (tgt := 164) hx hb dX9_isSign_1 (by decide) (by rw [c7]; decide) (by decide) ?_
    refine lv_iconst (v := 1) hx hb dX9_isSign_164 (by decide) ?_
    obtain rfl := Option.some.inj hf
    exact W.zret (v := 1) hx hb hr (rfl) (fun t ht hW => ⟨⟨1, (), rfl, rfl, ⟨by rw [ht]; exact hC.1, va_K.moved hW.alike hK, hC.2.1⟩, by rw [ht]; exact hC.2.2.2⟩, hC.2.2.1.F ht⟩) hC.2.2.1.2.2 dX9_isSign_165
  replace hf := (if_neg c7).symm.trans hf
  by_cases c8 : x0 = 45
  ·
    replace hf := (if_pos c8).symm.trans hf
    refine lv_lookup (off := 163) (tgt := 164) hx hb dX9_isSign_1 (by decide) (by rw [c8]; decide) (by decide) ?_
    refine lv_iconst (v := 1) hx hb dX9_isSign_164 (by decide) ?_
    obtain rfl := Option.some.inj hf
    exact W.zret (v := 1) hx hb hr (rfl) (fun t ht hW => ⟨⟨1, (), rfl, rfl, ⟨by rw [ht]; exact hC.1, va_K.moved hW.alike hK, hC.2.1⟩, by rw [ht]; exact hC.2.2.2⟩, hC.2.2.1.F ht⟩) hC.2.2.1.2.2 dX9_isSign_165
  replace hf := (if_neg c8).symm.trans hf
  by_cases c9 : x0 = 47
  ·
    replace hf := (if_pos c9).symm.trans hf
    refine lv_lookup (off := 163) (tgt := 164) hx hb dX9_isSign_1 (by decide) (by rw [c9]; decide) (by decide) ?_
    refine lv_iconst (v := 1) hx hb dX9_isSign_164 (by decide) ?_
    obtain rfl := Option.some.inj hf
    exact W.zret (v := 1) hx hb hr (rfl) (fun t ht hW => ⟨⟨1, (), rfl, rfl, ⟨by rw [ht]; exact hC.1, va_K.moved hW.alike hK, hC.2.1⟩, by rw [ht]; exact hC.2.2.2⟩, hC.2.2.1.F ht⟩) hC.2.2.1.2.2 dX9_isSign_165
  replace hf := (if_neg c9).symm.trans hf
  by_cases c10 : x0 = 58
  ·
    replace hf := (if_pos c10).symm.trans hf
    refine lv_lookup (off := 163) (tgt := 164) hx hb dX9_isSign_1 (by decide) (by rw [c10]; decide) (by decide) ?_
    refine lv_iconst (v := 1) hx hb dX9_isSign_164 (by decide) ?_
    obtain rfl := Option.some.inj hf
    exact W.zret (v := 1) hx hb hr (rfl) (fun t ht hW => ⟨⟨1, (), rfl, rfl, ⟨by rw [ht]; exact hC.1, va_K.moved hW.alike hK, hC.2.1⟩, by rw [ht]; exact hC.2.2.2⟩, hC.2.2.1.F ht⟩) hC.2.2.1.2.2 dX9_isSign_165
  replace hf := (if_neg c10).symm.trans hf
  by_cases c11 : x0 = 59
  ·
    replace hf := (if_pos c11).symm.trans hf
    refine lv_lookup (off := 163) (tgt := 164) hx hb dX9_isSign_1 (by decide) (by rw [c11]; decide) (by decide) ?_
    refine lv_iconst (v := 1) hx hb dX9_isSign_164 (by decide) ?_
    obtain rfl := Option.some.inj hf
    exact W.zret (v := 1) hx hb hr (rfl) (fun t ht hW => ⟨⟨1, (), rfl, rfl, ⟨by rw [ht]; exact hC.1, va_K.moved hW.alike hK, hC.2.1⟩, by rw [ht]; exact hC.2.2.2⟩, hC.2.2.1.F ht⟩) hC.2.2.1.2.2 dX9_isSign_165
  replace hf := (if_neg c11).symm.trans hf
  by_cases c12 : x0 = 60
  ·
    replace hf := (if_pos c12).symm.trans hf
    refine lv_lookup (off := 163) (tgt := 164) hx hb dX9_isSign_1 (by decide) (by rw [c12]; decide) (by decide) ?_
    refine lv_iconst (v := 1) hx hb dX9_isSign_164 (by decide) ?_
    obtain rfl := Option.some.inj hf
    exact W.zret (v := 1) hx hb hr (rfl) (fun t ht hW => ⟨⟨1, (), rfl, rfl, ⟨by rw [ht]; exact hC.1, va_K.moved hW.alike hK, hC.2.1⟩, by rw [ht]; exact hC.2.2.2⟩, hC.2.2.1.F ht⟩) hC.2.2.1.2.2 dX9_isSign_165
  replace hf := (if_neg c12).symm.trans hf
  by_cases c13 : x0 = 61
  ·
    replace hf := (if_pos c13).symm.trans hf
    refine lv_lookup (off := 163) (tgt := 164) hx hb dX9_isSign_1 (by decide) (by rw [c13]; decide) (by decide) ?_
    refine lv_iconst (v := 1) hx hb dX9_isSign_164 (by decide) ?_
    obtain rfl := Option.some.inj hf
    exact W.zret (v := 1) hx hb hr (rfl) (fun t ht hW => ⟨⟨1, (), rfl, rfl, ⟨by rw [ht]; exact hC.1, va_K.moved hW.alike hK, hC.2.1⟩, by rw [ht]; exact hC.2.2.2⟩, hC.2.2.1.F ht⟩) hC.2.2.1.2.2 dX9_isSign_165
  replace hf := (if_neg c13).symm.trans hf
  by_cases c14 : x0 = 62
  ·
    replace hf := (if_pos c14).symm.trans hf
    refine lv_lookup (off := 163) (tgt := 164) hx hb dX9_isSign_1 (by decide) (by rw [c14]; decide) (by decide) ?_
    refine lv_iconst (v := 1) hx hb dX9_isSign_164 (by decide) ?_
    obtain rfl := Option.some.inj hf
    exact W.zret (v := 1) hx hb hr (rfl) (fun t ht hW => ⟨⟨1, (), rfl, rfl, ⟨by rw [ht]; exact hC.1, va_K.moved hW.alike hK, hC.2.1⟩, by rw [ht]; exact hC.2.2.2⟩, hC.2.2.1.F ht⟩) hC.2.2.1.2.2 dX9_isSign_165
  replace hf := (if_neg c14).symm.trans hf
  by_cases c15 : x0 = 91
  ·
    replace hf := (if_pos c15).symm.trans hf
    refine lv_lookup (off := 163) (tgt := 164) hx hb dX9_isSign_1 (by decide) (by rw [c15]; decide) (by decide) ?_
    refine lv_iconst (v := 1) hx hb dX9_isSign_164 (by decide) ?_
    obtain rfl := Option.some.inj hf
    exact W.zret (v := 1) hx hb hr (rfl) (fun t ht hW => ⟨⟨1, (), rfl, rfl, ⟨by rw [ht]; exact hC.1, va_K.moved hW.alike hK, hC.2.1⟩, by rw [ht]; exact hC.2.2.2⟩, hC.2.2.1.F ht⟩) hC.2.2.1.2.2 dX9_isSign_165
  replace hf := (if_neg c15).symm.trans hf
  by_cases c16 : x0 = 93
  ·
    replace hf := (if_pos c16).symm.trans hf
    refine lv_lookup (off := 163) (tgt := 164) hx hb dX9_isSign_1 (by decide) (by rw [c16]; decide) (by decide) ?_
    refine lv_iconst (v := 1) hx hb dX9_isSign_164 (by decide) ?_
    obtain rfl := Option.some.inj hf
    exact W.zret (v := 1) hx hb hr (rfl) (fun t ht hW => ⟨⟨1, (), rfl, rfl, ⟨by rw [ht]; exact hC.1, va_K.moved hW.alike hK, hC.2.1⟩, by rw [ht]; exact hC.2.2.2⟩, hC.2.2.1.F ht⟩) hC.2.2.1.2.2 dX9_isSign_165
  replace hf := (if_neg c16).symm.trans hf
  by_cases c17 : x0 = 123
  ·
    replace hf := (if_pos c17).symm.trans hf
    refine lv_lookup (off := 163) (tgt := 164) hx hb dX9_isSign_1 (by decide) (by rw [c17]; decide) (by decide) ?_
    refine lv_iconst (v := 1) hx hb dX9_isSign_164 (by decide) ?_
    obtain rfl := Option.some.inj hf
    exact W.zret (v := 1) hx hb hr (rfl) (fun t ht hW => ⟨⟨1, (), rfl, rfl, ⟨by rw [ht]; exact hC.1, va_K.moved hW.alike hK, hC.2.1⟩, by rw [ht]; exact hC.2.2.2⟩, hC.2.2.1.F ht⟩) hC.2.2.1.2.2 dX9_isSign_165
  replace hf := (if_neg c17).symm.trans hf
  by_cases c18 : x0 = 124
  ·
    replace hf := (if_pos c18).symm.trans hf
    refine lv_lookup (off := 163) (tgt := 164) hx hb dX9_isSign_1 (by decide) (by rw [c18]; decide) (by decide) ?_
    refine lv_iconst (v := 1) hx hb dX9_isSign_164 (by decide) ?_
    obtain rfl := Option.some.inj hf
    exact W.zret (v := 1) hx hb hr (rfl) (fun t ht hW => ⟨⟨1, (), rfl, rfl, ⟨by rw [ht]; exact hC.1, va_K.moved hW.alike hK, hC.2.1⟩, by rw [ht]; exact hC.2.2.2⟩, hC.2.2.1.F ht⟩) hC.2.2.1.2.2 dX9_isSign_165
  replace hf := (if_neg c18).symm.trans hf
  by_cases c19 : x0 = 125
  ·
    replace hf := (if_pos c19).symm.trans hf
    refine lv_lookup (off := 163) (tgt := 164) hx hb dX9_isSign_1 (by decide) (by rw [c19]; decide) (by decide) ?_
    refine lv_iconst (v := 1) hx hb dX9_isSign_164 (by decide) ?_
    obtain rfl := Option.some.inj hf
    exact W.zret (v := 1) hx hb hr (rfl) (fun t ht hW => ⟨⟨1, (), rfl, rfl, ⟨by rw [ht]; exact hC.1, va_K.moved hW.alike hK, hC.2.1⟩, by rw [ht]; exact hC.2.2.2⟩, hC.2.2.1.F ht⟩) hC.2.2.1.2.2 dX9_isSign_165
  replace hf := (if_neg c19).symm.trans hf
  refine lv_lookup (off := 165) (tgt := 166) hx hb dX9_isSign_1 (by decide) (by show Op.lookupswitch.offset [(33, 163), (37, 163), (40, 163), (41, 163), (42, 163), (43, 163), (44, 163), (45, 163), (47, 163), (58, 163), (59, 163), (60, 163), (61, 163), (62, 163), (91, 163), (93, 163), (123, 163), (124, 163), (125, 163)] 165 (x0 : Int32).toInt = 165; rw [lv_osw (k := 33) (a := 33) c1 (by decide), lv_osw (k := 37) (a := 37) c2 (by decide), lv_osw (k := 40) (a := 40) c3 (by decide), lv_osw (k := 41) (a := 41) c4 (by decide), lv_osw (k := 42) (a := 42) c5 (by decide), lv_osw (k := 43) (a := 43) c6 (by decide), lv_osw (k := 44) (a := 44) c7 (by decide), lv_osw (k := 45) (a := 45) c8 (by decide), lv_osw (k := 47) (a := 47) c9 (by decide), lv_osw (k := 58) (a := 58) c10 (by decide), lv_osw (k := 59) (a := 59) c11 (by decide), lv_osw (k := 60) (a := 60) c12 (by decide), lv_osw (k := 61) (a := 61) c13 (by decide), lv_osw (k := 62) (a := 62) c14 (by decide), lv_osw (k := 91) (a := 91) c15 (by decide), lv_osw (k := 93) (a := 93) c16 (by decide), lv_osw (k := 123) (a := 123) c17 (by decide), lv_osw (k := 124) (a := 124) c18 (by decide), lv_osw (k := 125) (a := 125) c19 (by decide)]; rfl) (by decide) ?_
  refine lv_iconst (v := 0) hx hb dX9_isSign_166 (by decide) ?_
  obtain rfl := Option.some.inj hf
  exact W.zret (v := 0) hx hb hr (rfl) (fun t ht hW => ⟨⟨0, (), rfl, rfl, ⟨by rw [ht]; exact hC.1, va_K.moved hW.alike hK, hC.2.1⟩, by rw [ht]; exact hC.2.2.2⟩, hC.2.2.1.F ht⟩) hC.2.2.1.2.2 dX9_isSign_167
theorem k_X9_takeSign_fieldLink_RX9_34_SR_Tokens_next_I : Cond.fieldLink RX9 34 "StatementRules2$Tokens" "next" "I" ∈ wzX9_takeSign := List.mem_cons_of_mem _ (List.mem_append_left _ (List.mem_of_getElem? (i := 0) rfl))
theorem i_X9_takeSign_X9 : ∀ w ∈ wsX90, w ∈ wzX9_takeSign := fun _ h => List.mem_cons_of_mem _ (List.mem_append_right _ (List.mem_append_left _ (h)))
theorem k_X9_takeSign_fieldLink_RX9_40_SR_Tokens_type_I : Cond.fieldLink RX9 40 "StatementRules2$Tokens" "type" "I" ∈ wzX9_takeSign := List.mem_cons_of_mem _ (List.mem_append_left _ (List.mem_of_getElem? (i := 1) rfl))
set_option maxHeartbeats 4000000 in
set_option maxRecDepth 100000 in
theorem c_X9_takeSign (l : Launch) (dC : Nat → ClassId) (dI : Nat → Nat → Nat) (Q : CQ) (N : Nat) (σ : CS) (R : Unit × CS) (hf : f_X9_takeSign N σ = some R) : Met l yX9_takeSign wzX9_takeSign ({ frames := 2, cells := CS.hs R.2 - CS.hs σ, slots := 17 * (CS.hs R.2 - CS.hs σ), locals := 60 * 2 }) (va_Pc [.ref (Q.o 4)] (zPre dC dI (CS.hs σ) (cW Q σ) (cT Q))) (va_Qv (fun (_ : Unit) => True) (fun (_ : Unit) (t : State) => zPost dC dI (va_A (cW Q σ) (CS.hs σ)) (cW Q R.2) (cT Q) t ∧ t.heap.size = CS.hs R.2) (va_A (cW Q σ) (CS.hs σ))) (CS.hs R.2 - CS.hs σ) (17 * (CS.hs R.2 - CS.hs σ)) (va_A (cW Q σ) (CS.hs σ)) := by
  refine Met.ofW (cc := cX9_takeSign) (maxL := 2) (ret := none) (by decide) rfl ?_
  intro p e s m args below meth c s₁ B hml hv
  obtain ⟨rfl, hsz, hZ, hP, hK, hD0⟩ := hv
  have hx := B.exec
  have hb := B.bytes
  have hr := B.returns
  have hts := atoms_spec (ws := wzX9_takeSign) B.pre
  have hown : s.vm.findClass RX9 = some m.cls := findClass_of_methodNamed B.named
  have hlocks := B.notSynchronized
  have hD := hD0.self (sz := CS.hs σ)
  generalize hAe : va_A (cW Q σ) (CS.hs σ) = A at hD ⊢
  have hA : ∀ q : Nat, s.heap.size ≤ q → A q := fun q h => by rw [← hAe]; exact Or.inr (hsz ▸ h)
  have hC : CP dC dI Q A s.heap σ s.heap [] := ⟨hP, hD, va_S.rf, hsz⟩
  have h0 : CS.hs σ ≤ CS.hs σ := Nat.le_refl _
  have hl := lv_entry ([.ref (Q.o 4)]) (n := 2) (Nat.le_of_ble_eq_true rfl)
  rw [lg_entry_eq]
  generalize (lg_sl ([.ref (Q.o 4)]) ++ List.replicate (2 - (lg_sl ([.ref (Q.o 4)])).length) Slot.unset).toArray = ls at hl ⊢
  have hl : lv_has ls 2 [(0, .ref (Q.o 4))] := hl
  unfold f_X9_takeSign at hf
  refine W.widen (k := CS.hs σ - CS.hs σ) (n := 17 * (CS.hs σ - CS.hs σ)) (Nat.zero_le _) (Nat.zero_le _) ?_
  refine lv_aload_n hx hb dX9_takeSign_0 rfl (lv_at hl 0 rfl) ?_
  refine lv_aload_n hx hb dX9_takeSign_1 rfl (lv_at hl 0 rfl) ?_
  refine cG_42 (v := (σ.i 42)) hx hb hts i_X9_takeSign_X9 hown hK hC (hts (.fieldLink RX9 34 "StatementRules2$Tokens" "next" "I") k_X9_takeSign_fieldLink_RX9_34_SR_Tokens_next_I) (fun _ q9 => q9) dX9_takeSign_2 rfl ?_
  obtain ⟨p1, hcp1, hf⟩ := hf_bind hf
  have mo2 : CS.hs σ ≤ CS.hs p1.2 := Mono.go hcp1 (m_X9_byteAt N σ (σ.i 42))
  have hr9 : CS.hs p1.2 ≤ CS.hs R.2 := Mono.go hf (mono_bind (m_X9_byteAt N p1.2 ((p1.2.i 42) + 1)) (fun p5 => (mono_bind (m_X9_longSign N p5.2 p1.1 p5.1) (fun p9 => (mono_ite (mono_bind (m_X9_isSign N (CS.setI (CS.setI p9.2 43 p9.1) 42 ((p9.2.i 42) + 1)) p1.1) (fun p14 => (mono_ite (mono_some (Nat.le_refl _)) (mono_some (Nat.le_refl _))))) (mono_some (Nat.le_refl _)))))))
  have hFc := cFree hC hA
  refine va_calli (va_runV (As := [.int (σ.i 42)]) (rest := []) ⟨hx, hb, hml, hown, hts⟩ (c_X9_byteAt l dC dI Q N σ (σ.i 42) p1 hcp1) (cwV 1 hts hX9_takeSign_X9_byteAt_v43 rfl rfl rfl (by decide +kernel) ⟨(show 1 + 1 ≤ 2 by omega), (show 8 + (2 + 11) + 60 * 1 ≤ 60 * 2 by omega)⟩) ⟨zPre.blind, va_recv hK hC.1 (ci := 8) (q0 := 4) rfl rfl, cPre_go hZ hK hC⟩ rfl rfl hl.1 rfl (lv_room (Nat.le_of_ble_eq_true rfl)) dX9_takeSign_5 (cAcc h0 mo2 hr9)) hC.2.2.1 (fun q _ h => hFc q h) hFc (fun r3 u9 t9 H1 locs ht hvm hw hB hz1 hk1 hS => ?_)
  obtain ⟨⟨hP, hK1, hD1⟩, hsz1⟩ := hB
  rw [ht] at hP hsz1
  have hC : CP dC dI Q A s.heap p1.2 H1 locs := ⟨hP, hD1.weaken (fun _ _ _ h => hFc _ h), hS, hsz1⟩
  generalize H1 = H at hC ⊢
  have h4 : (CS.hs σ) ≤ CS.hs p1.2 := Nat.le_trans h0 mo2
  refine W.widen (k := CS.hs p1.2 - (CS.hs σ)) (n := 17 * (CS.hs p1.2 - (CS.hs σ))) (cAcc2 h0 mo2) (cAcc3 h0 mo2) ?_
  obtain rfl : r3 = p1.1 := hw
  refine lv_istore_n (lv' := [(1, .int p1.1), (0, .ref (Q.o 4))]) hx hb dX9_takeSign_8 rfl hl (by decide) rfl (fun ls hl => ?_)
  refine lv_aload_n hx hb dX9_takeSign_9 rfl (lv_at hl 1 rfl) ?_
  refine lv_iload_n hx hb dX9_takeSign_10 rfl (lv_at hl 0 rfl) ?_
  refine lv_aload_n hx hb dX9_takeSign_11 rfl (lv_at hl 1 rfl) ?_
  refine lv_aload_n hx hb dX9_takeSign_12 rfl (lv_at hl 1 rfl) ?_
  refine cG_42 (v := (p1.2.i 42)) hx hb hts i_X9_takeSign_X9 hown hK hC (hts (.fieldLink RX9 34 "StatementRules2$Tokens" "next" "I") k_X9_takeSign_fieldLink_RX9_34_SR_Tokens_next_I) (fun _ q9 => q9) dX9_takeSign_13 rfl ?_
  refine lv_iconst (v := 1) hx hb dX9_takeSign_16 (by decide) ?_
  refine lv_iadd hx hb dX9_takeSign_17 ?_
  obtain ⟨p5, hcp5, hf⟩ := hf_bind hf
  have mo6 : CS.hs p1.2 ≤ CS.hs p5.2 := Mono.go hcp5 (m_X9_byteAt N p1.2 ((p1.2.i 42) + 1))
  have hr9 : CS.hs p5.2 ≤ CS.hs R.2 := Mono.go hf (mono_bind (m_X9_longSign N p5.2 p1.1 p5.1) (fun p9 => (mono_ite (mono_bind (m_X9_isSign N (CS.setI (CS.setI p9.2 43 p9.1) 42 ((p9.2.i 42) + 1)) p1.1) (fun p14 => (mono_ite (mono_some (Nat.le_refl _)) (mono_some (Nat.le_refl _))))) (mono_some (Nat.le_refl _)))))
  have hFc := cFree hC hA
  refine va_calli (va_runV (As := [.int ((p1.2.i 42) + 1)]) (rest := [.int p1.1, .ref (Q.o 4)]) ⟨hx, hb, hml, hown, hts⟩ (c_X9_byteAt l dC dI Q N p1.2 ((p1.2.i 42) + 1) p5 hcp5) (cwV 1 hts hX9_takeSign_X9_byteAt_v43 rfl rfl rfl (by decide +kernel) ⟨(show 1 + 1 ≤ 2 by omega), (show 8 + (2 + 11) + 60 * 1 ≤ 60 * 2 by omega)⟩) ⟨zPre.blind, va_recv hK hC.1 (ci := 8) (q0 := 4) rfl rfl, cPre_go hZ hK hC⟩ rfl rfl hl.1 rfl (lv_room (Nat.le_of_ble_eq_true rfl)) dX9_takeSign_18 (cAcc h4 mo6 hr9)) hC.2.2.1 (fun q _ h => hFc q h) hFc (fun r7 u9 t9 H1 locs ht hvm hw hB hz1 hk1 hS => ?_)
  obtain ⟨⟨hP, hK1, hD1⟩, hsz1⟩ := hB
  rw [ht] at hP hsz1
  have hC : CP dC dI Q A s.heap p5.2 H1 locs := ⟨hP, hD1.weaken (fun _ _ _ h => hFc _ h), hS, hsz1⟩
  generalize H1 = H at hC ⊢
  have h8 : (CS.hs σ) ≤ CS.hs p5.2 := Nat.le_trans h4 mo6
  refine W.widen (k := CS.hs p5.2 - (CS.hs σ)) (n := 17 * (CS.hs p5.2 - (CS.hs σ))) (cAcc2 h4 mo6) (cAcc3 h4 mo6) ?_
  obtain rfl : r7 = p5.1 := hw
  obtain ⟨p9, hcp9, hf⟩ := hf_bind hf
  have mo10 : CS.hs p5.2 ≤ CS.hs p9.2 := Mono.go hcp9 (m_X9_longSign N p5.2 p1.1 p5.1)
  have hr9 : CS.hs p9.2 ≤ CS.hs R.2 := Mono.go hf (mono_ite (mono_bind (m_X9_isSign N (CS.setI (CS.setI p9.2 43 p9.1) 42 ((p9.2.i 42) + 1)) p1.1) (fun p14 => (mono_ite (mono_some (Nat.le_refl _)) (mono_some (Nat.le_refl _))))) (mono_some (Nat.le_refl _)))
  have hFc := cFree hC hA
  refine va_calli (va_runS (As := [.int p1.1, .int p5.1]) (rest := [.ref (Q.o 4)]) ⟨hx, hb, hml, hown, hts⟩ (c_X9_longSign l dC dI Q N p5.2 p1.1 p5.1 p9 hcp9) (va_cwS 2 hts hX9_takeSign_X9_longSign_s90 rfl rfl rfl (by decide +kernel) ⟨(show 1 + 1 ≤ 2 by omega), (show 8 + (2 + 11) + 60 * 1 ≤ 60 * 2 by omega)⟩) ⟨zPre.blind, cPre_go hZ hK hC⟩ rfl rfl hl.1 rfl (lv_room (Nat.le_of_ble_eq_true rfl)) dX9_takeSign_21 (cAcc h8 mo10 hr9)) hC.2.2.1 (fun q _ h => hFc q h) hFc (fun r11 u9 t9 H1 locs ht hvm hw hB hz1 hk1 hS => ?_)
  obtain ⟨⟨hP, hK1, hD1⟩, hsz1⟩ := hB
  rw [ht] at hP hsz1
  have hC : CP dC dI Q A s.heap p9.2 H1 locs := ⟨hP, hD1.weaken (fun _ _ _ h => hFc _ h), hS, hsz1⟩
  generalize H1 = H at hC ⊢
  have h12 : (CS.hs σ) ≤ CS.hs p9.2 := Nat.le_trans h8 mo10
  refine W.widen (k := CS.hs p9.2 - (CS.hs σ)) (n := 17 * (CS.hs p9.2 - (CS.hs σ))) (cAcc2 h8 mo10) (cAcc3 h8 mo10) ?_
  obtain rfl : r11 = p9.1 := hw
  refine cP_43 (v := p9.1) hx hb hts i_X9_takeSign_X9 hown hK hC (hts (.fieldLink RX9 40 "StatementRules2$Tokens" "type" "I") k_X9_takeSign_fieldLink_RX9_40_SR_Tokens_type_I) (fun _ q9 => q9) dX9_takeSign_24 (fun H locs hC => ?_)
  refine lv_aload_n hx hb dX9_takeSign_27 rfl (lv_at hl 1 rfl) ?_
  refine cG_43 (v := p9.1) hx hb hts i_X9_takeSign_X9 hown hK hC (hts (.fieldLink RX9 40 "StatementRules2$Tokens" "type" "I") k_X9_takeSign_fieldLink_RX9_40_SR_Tokens_type_I) (fun _ q9 => q9) dX9_takeSign_28 rfl ?_
  refine lv_bipush (v := 6) hx hb dX9_takeSign_31 (by decide) ?_
  refine lv_icmp_eq (tgt := 47) hx hb dX9_takeSign_33 (by decide) (fun c13 => ?_) (fun c13 => ?_)
  ·
    replace hf := (if_pos c13).symm.trans hf
    refine lv_aload_n hx hb dX9_takeSign_47 rfl (lv_at hl 1 rfl) ?_
    refine lv_dup hx hb dX9_takeSign_48 rfl ?_
    refine cG_42 (v := (p9.2.i 42)) hx hb hts i_X9_takeSign_X9 hown hK hC (hts (.fieldLink RX9 34 "StatementRules2$Tokens" "next" "I") k_X9_takeSign_fieldLink_RX9_34_SR_Tokens_next_I) (fun _ q9 => q9) dX9_takeSign_49 rfl ?_
    refine lv_iconst (v := 1) hx hb dX9_takeSign_52 (by decide) ?_
    refine lv_iadd hx hb dX9_takeSign_53 ?_
    refine cP_42 (v := ((p9.2.i 42) + 1)) hx hb hts i_X9_takeSign_X9 hown hK hC (hts (.fieldLink RX9 34 "StatementRules2$Tokens" "next" "I") k_X9_takeSign_fieldLink_RX9_34_SR_Tokens_next_I) (fun _ q9 => q9) dX9_takeSign_54 (fun H locs hC => ?_)
    refine lv_iload_n hx hb dX9_takeSign_57 rfl (lv_at hl 0 rfl) ?_
    obtain ⟨p14, hcp14, hf⟩ := hf_bind hf
    have mo15 : CS.hs p9.2 ≤ CS.hs p14.2 := Mono.go hcp14 (m_X9_isSign N (CS.setI (CS.setI p9.2 43 p9.1) 42 ((p9.2.i 42) + 1)) p1.1)
    have hr9 : CS.hs p14.2 ≤ CS.hs R.2 := Mono.go hf (mono_ite (mono_some (Nat.le_refl _)) (mono_some (Nat.le_refl _)))
    have hFc := cFree hC hA
    refine va_calli (va_runS (As := [.int p1.1]) (rest := []) ⟨hx, hb, hml, hown, hts⟩ (c_X9_isSign l dC dI Q N (CS.setI (CS.setI p9.2 43 p9.1) 42 ((p9.2.i 42) + 1)) p1.1 p14 hcp14) (va_cwS 1 hts hX9_takeSign_X9_isSign_s94 rfl rfl rfl (by decide +kernel) ⟨(show 1 + 1 ≤ 2 by omega), (show 8 + (1 + 11) + 60 * 1 ≤ 60 * 2 by omega)⟩) ⟨zPre.blind, cPre_go hZ hK hC⟩ rfl rfl hl.1 rfl (lv_room (Nat.le_of_ble_eq_true rfl)) dX9_takeSign_58 (cAcc h12 mo15 hr9)) hC.2.2.1 (fun q _ h => hFc q h) hFc (fun r16 u9 t9 H1 locs ht hvm hw hB hz1 hk1 hS => ?_)
    obtain ⟨⟨hP, hK1, hD1⟩, hsz1⟩ := hB
    rw [ht] at hP hsz1
    have hC : CP dC dI Q A s.heap p14.2 H1 locs := ⟨hP, hD1.weaken (fun _ _ _ h => hFc _ h), hS, hsz1⟩
    generalize H1 = H at hC ⊢
    have h17 : (CS.hs σ) ≤ CS.hs p14.2 := Nat.le_trans h12 mo15
    refine W.widen (k := CS.hs p14.2 - (CS.hs σ)) (n := 17 * (CS.hs p14.2 - (CS.hs σ))) (cAcc2 h12 mo15) (cAcc3 h12 mo15) ?_
    obtain rfl : r16 = p14.1 := hw
    refine lv_if_eq (tgt := 69) hx hb dX9_takeSign_61 (by decide) (fun c18 => ?_) (fun c18 => ?_)
    ·
      replace hf := (if_pos c18).symm.trans hf
      obtain rfl := Option.some.inj hf
      exact W.vret hx hb hr (fun t ht hW => ⟨⟨(), rfl, trivial, ⟨by rw [ht]; exact hC.1, va_K.moved hW.alike hK, hC.2.1⟩, by rw [ht]; exact hC.2.2.2⟩, hC.2.2.1.F ht⟩) hC.2.2.1.2.2 dX9_takeSign_69
    ·
      replace hf := (if_neg c18).symm.trans hf
      refine lv_aload_n hx hb dX9_takeSign_64 rfl (lv_at hl 1 rfl) ?_
      refine lv_iload_n hx hb dX9_takeSign_65 rfl (lv_at hl 0 rfl) ?_
      refine cP_43 (v := p1.1) hx hb hts i_X9_takeSign_X9 hown hK hC (hts (.fieldLink RX9 40 "StatementRules2$Tokens" "type" "I") k_X9_takeSign_fieldLink_RX9_40_SR_Tokens_type_I) (fun _ q9 => q9) dX9_takeSign_66 (fun H locs hC => ?_)
      obtain rfl := Option.some.inj hf
      exact W.vret hx hb hr (fun t ht hW => ⟨⟨(), rfl, trivial, ⟨by rw [ht]; exact hC.1, va_K.moved hW.alike hK, hC.2.1⟩, by rw [ht]; exact hC.2.2.2⟩, hC.2.2.1.F ht⟩) hC.2.2.1.2.2 dX9_takeSign_69
  ·
    replace hf := (if_neg c13).symm.trans hf
    refine lv_aload_n hx hb dX9_takeSign_36 rfl (lv_at hl 1 rfl) ?_
    refine lv_dup hx hb dX9_takeSign_37 rfl ?_
    refine cG_42 (v := (p9.2.i 42)) hx hb hts i_X9_takeSign_X9 hown hK hC (hts (.fieldLink RX9 34 "StatementRules2$Tokens" "next" "I") k_X9_takeSign_fieldLink_RX9_34_SR_Tokens_next_I) (fun _ q9 => q9) dX9_takeSign_38 rfl ?_
    refine lv_iconst (v := 2) hx hb dX9_takeSign_41 (by decide) ?_
    refine lv_iadd hx hb dX9_takeSign_42 ?_
    refine cP_42 (v := ((p9.2.i 42) + 2)) hx hb hts i_X9_takeSign_X9 hown hK hC (hts (.fieldLink RX9 34 "StatementRules2$Tokens" "next" "I") k_X9_takeSign_fieldLink_RX9_34_SR_Tokens_next_I) (fun _ q9 => q9) dX9_takeSign_43 (fun H locs hC => ?_)
    obtain rfl := Option.some.inj hf
    exact W.vret hx hb hr (fun t ht hW => ⟨⟨(), rfl, trivial, ⟨by rw [ht]; exact hC.1, va_K.moved hW.alike hK, hC.2.1⟩, by rw [ht]; exact hC.2.2.2⟩, hC.2.2.1.F ht⟩) hC.2.2.1.2.2 dX9_takeSign_46
theorem k_X9_advance_fieldLink_RX9_34_SR_Tokens_next_I : Cond.fieldLink RX9 34 "StatementRules2$Tokens" "next" "I" ∈ wzX9_advance := List.mem_cons_of_mem _ (List.mem_append_left _ (List.mem_of_getElem? (i := 0) rfl))
theorem i_X9_advance_X9 : ∀ w ∈ wsX90, w ∈ wzX9_advance := fun _ h => List.mem_cons_of_mem _ (List.mem_append_right _ (List.mem_append_left _ (h)))
theorem k_X9_advance_fieldLink_RX9_47_SR_Tokens_place_I : Cond.fieldLink RX9 47 "StatementRules2$Tokens" "place" "I" ∈ wzX9_advance := List.mem_cons_of_mem _ (List.mem_append_left _ (List.mem_of_getElem? (i := 1) rfl))
theorem k_X9_advance_fieldLink_RX9_31_SR_Tokens_length_I : Cond.fieldLink RX9 31 "StatementRules2$Tokens" "length" "I" ∈ wzX9_advance := List.mem_cons_of_mem _ (List.mem_append_left _ (List.mem_of_getElem? (i := 2) rfl))
theorem k_X9_advance_fieldLink_RX9_40_SR_Tokens_type_I : Cond.fieldLink RX9 40 "StatementRules2$Tokens" "type" "I" ∈ wzX9_advance := List.mem_cons_of_mem _ (List.mem_append_left _ (List.mem_of_getElem? (i := 3) rfl))
set_option maxHeartbeats 4000000 in
set_option maxRecDepth 100000 in
theorem j_X9_advance_51 {p : Program} {e : Env} {s : State} {m : MethodId} {args : Array Value} {below : List Frame} {meth : Method} {c : Code} {A : Nat → Prop} (l : Launch) (dC : Nat → ClassId) (dI : Nat → Nat → Nat) (Q : CQ) (N : Nat) (z9h : Nat) (R : Unit × CS) (hx : p.tables.exec = Jvm.exec) (hb : c.code = cX9_advance) (hr : meth.sig.returnType = none) (hml : c.maxLocals = 2) (hown : s.vm.findClass RX9 = some m.cls) (hts : ∀ w ∈ wzX9_advance, w.before args s = true) (hlocks : meth.locks = false) (hZ : zAMB s) (hA : ∀ q : Nat, s.heap.size ≤ q → A q) (hK : va_K (dC, dI) vwCl (cT Q) s) : ∀ (σ : CS) (H : Heap) (locs : List Loc) (ls : Array Slot), f_X9_advance_51 N σ = some R → z9h ≤ CS.hs σ → CP dC dI Q A s.heap σ H locs → lv_has ls 2 [(0, .ref (Q.o 4))] → W p l e ({ frames := 3, cells := CS.hs R.2 - z9h, slots := 17 * (CS.hs R.2 - z9h), locals := 60 * 3 }) s m args below meth c H locs (CS.hs σ - z9h) (17 * (CS.hs σ - z9h)) (MQ below (va_Qv (fun (_ : Unit) => True) (fun (_ : Unit) (t : State) => zPost dC dI A (cW Q R.2) (cT Q) t ∧ t.heap.size = CS.hs R.2) A) args s (CS.hs R.2 - z9h) (17 * (CS.hs R.2 - z9h)) A) (F0 m 51 ls []) := by
  intro σ  H locs ls hf h0 hC hl
  unfold f_X9_advance_51 at hf
  refine lv_aload_n hx hb dX9_advance_51 rfl (lv_at hl 0 rfl) ?_
  refine lv_aload_n hx hb dX9_advance_52 rfl (lv_at hl 0 rfl) ?_
  refine cG_42 (v := (σ.i 42)) hx hb hts i_X9_advance_X9 hown hK hC (hts (.fieldLink RX9 34 "StatementRules2$Tokens" "next" "I") k_X9_advance_fieldLink_RX9_34_SR_Tokens_next_I) (fun _ q9 => q9) dX9_advance_53 rfl ?_
  refine cP_44 (v := (σ.i 42)) hx hb hts i_X9_advance_X9 hown hK hC (hts (.fieldLink RX9 47 "StatementRules2$Tokens" "place" "I") k_X9_advance_fieldLink_RX9_47_SR_Tokens_place_I) (fun _ q9 => q9) dX9_advance_56 (fun H locs hC => ?_)
  refine lv_aload_n hx hb dX9_advance_59 rfl (lv_at hl 0 rfl) ?_
  refine cG_42 (v := (σ.i 42)) hx hb hts i_X9_advance_X9 hown hK hC (hts (.fieldLink RX9 34 "StatementRules2$Tokens" "next" "I") k_X9_advance_fieldLink_RX9_34_SR_Tokens_next_I) (fun _ q9 => q9) dX9_advance_60 rfl ?_
  refine lv_aload_n hx hb dX9_advance_63 rfl (lv_at hl 0 rfl) ?_
  refine cG_41 (v := (σ.i 41)) hx hb hts i_X9_advance_X9 hown hK hC (hts (.fieldLink RX9 31 "StatementRules2$Tokens" "length" "I") k_X9_advance_fieldLink_RX9_31_SR_Tokens_length_I) (fun _ q9 => q9) dX9_advance_64 rfl ?_
  refine lv_icmp_lt (tgt := 78) hx hb dX9_advance_67 (by decide) (fun c2 => ?_) (fun c2 => ?_)
  ·
    replace hf := (if_pos c2).symm.trans hf
    refine lv_aload_n hx hb dX9_advance_78 rfl (lv_at hl 0 rfl) ?_
    refine lv_aload_n hx hb dX9_advance_79 rfl (lv_at hl 0 rfl) ?_
    refine cG_42 (v := (σ.i 42)) hx hb hts i_X9_advance_X9 hown hK hC (hts (.fieldLink RX9 34 "StatementRules2$Tokens" "next" "I") k_X9_advance_fieldLink_RX9_34_SR_Tokens_next_I) (fun _ q9 => q9) dX9_advance_80 rfl ?_
    obtain ⟨p3, hcp3, hf⟩ := hf_bind hf
    have mo4 : CS.hs σ ≤ CS.hs p3.2 := Mono.go hcp3 (m_X9_byteAt N (CS.setI σ 44 (σ.i 42)) (σ.i 42))
    have hr9 : CS.hs p3.2 ≤ CS.hs R.2 := Mono.go hf (mono_bind (m_X9_isDigit N p3.2 p3.1) (fun p7 => (mono_ite (mono_bind (m_X9_byteAt N p7.2 (p7.2.i 42)) (fun p12 => (mono_bind (m_X9_isLetter N p12.2 p12.1) (fun p16 => (mono_ite (mono_bind (m_X9_takeSign N p16.2) (fun p21 => (mono_some (Nat.le_refl _)))) (mono_bind (m_X9_takeRow N p16.2) (fun p25 => (mono_some (Nat.le_refl _))))))))) (mono_bind (m_X9_takeNumber N p7.2) (fun p29 => (mono_some (Nat.le_refl _)))))))
    have hFc := cFree hC hA
    refine va_calli (va_runV (As := [.int (σ.i 42)]) (rest := []) ⟨hx, hb, hml, hown, hts⟩ (c_X9_byteAt l dC dI Q N (CS.setI σ 44 (σ.i 42)) (σ.i 42) p3 hcp3) (cwV 1 hts hX9_advance_X9_byteAt_v43 rfl rfl rfl (by decide +kernel) ⟨(show 1 + 1 ≤ 3 by omega), (show 8 + (2 + 11) + 60 * 1 ≤ 60 * 3 by omega)⟩) ⟨zPre.blind, va_recv hK hC.1 (ci := 8) (q0 := 4) rfl rfl, cPre_go hZ hK hC⟩ rfl rfl hl.1 rfl (lv_room (Nat.le_of_ble_eq_true rfl)) dX9_advance_83 (cAcc h0 mo4 hr9)) hC.2.2.1 (fun q _ h => hFc q h) hFc (fun r5 u9 t9 H1 locs ht hvm hw hB hz1 hk1 hS => ?_)
    obtain ⟨⟨hP, hK1, hD1⟩, hsz1⟩ := hB
    rw [ht] at hP hsz1
    have hC : CP dC dI Q A s.heap p3.2 H1 locs := ⟨hP, hD1.weaken (fun _ _ _ h => hFc _ h), hS, hsz1⟩
    generalize H1 = H at hC ⊢
    have h6 : z9h ≤ CS.hs p3.2 := Nat.le_trans h0 mo4
    refine W.widen (k := CS.hs p3.2 - z9h) (n := 17 * (CS.hs p3.2 - z9h)) (cAcc2 h0 mo4) (cAcc3 h0 mo4) ?_
    obtain rfl : r5 = p3.1 := hw
    obtain ⟨p7, hcp7, hf⟩ := hf_bind hf
    have mo8 : CS.hs p3.2 ≤ CS.hs p7.2 := Mono.go hcp7 (m_X9_isDigit N p3.2 p3.1)
    have hr9 : CS.hs p7.2 ≤ CS.hs R.2 := Mono.go hf (mono_ite (mono_bind (m_X9_byteAt N p7.2 (p7.2.i 42)) (fun p12 => (mono_bind (m_X9_isLetter N p12.2 p12.1) (fun p16 => (mono_ite (mono_bind (m_X9_takeSign N p16.2) (fun p21 => (mono_some (Nat.le_refl _)))) (mono_bind (m_X9_takeRow N p16.2) (fun p25 => (mono_some (Nat.le_refl _))))))))) (mono_bind (m_X9_takeNumber N p7.2) (fun p29 => (mono_some (Nat.le_refl _)))))
    have hFc := cFree hC hA
    refine va_calli (va_runS (As := [.int p3.1]) (rest := []) ⟨hx, hb, hml, hown, hts⟩ (c_X9_isDigit l dC dI Q N p3.2 p3.1 p7 hcp7) (va_cwS 1 hts hX9_advance_X9_isDigit_s50 rfl rfl rfl (by decide +kernel) ⟨(show 1 + 1 ≤ 3 by omega), (show 8 + (1 + 11) + 60 * 1 ≤ 60 * 3 by omega)⟩) ⟨zPre.blind, cPre_go hZ hK hC⟩ rfl rfl hl.1 rfl (lv_room (Nat.le_of_ble_eq_true rfl)) dX9_advance_86 (cAcc h6 mo8 hr9)) hC.2.2.1 (fun q _ h => hFc q h) hFc (fun r9 u9 t9 H1 locs ht hvm hw hB hz1 hk1 hS => ?_)
    obtain ⟨⟨hP, hK1, hD1⟩, hsz1⟩ := hB
    rw [ht] at hP hsz1
    have hC : CP dC dI Q A s.heap p7.2 H1 locs := ⟨hP, hD1.weaken (fun _ _ _ h => hFc _ h), hS, hsz1⟩
    generalize H1 = H at hC ⊢
    have h10 : z9h ≤ CS.hs p7.2 := Nat.le_trans h6 mo8
    refine W.widen (k := CS.hs p7.2 - z9h) (n := 17 * (CS.hs p7.2 - z9h)) (cAcc2 h6 mo8) (cAcc3 h6 mo8) ?_
    obtain rfl : r9 = p7.1 := hw
    refine lv_if_eq (tgt := 99) hx hb dX9_advance_89 (by decide) (fun c11 => ?_) (fun c11 => ?_)
    ·
      replace hf := (if_pos c11).symm.trans hf
      refine lv_aload_n hx hb dX9_advance_99 rfl (lv_at hl 0 rfl) ?_
      refine lv_aload_n hx hb dX9_advance_100 rfl (lv_at hl 0 rfl) ?_
      refine cG_42 (v := (p7.2.i 42)) hx hb hts i_X9_advance_X9 hown hK hC (hts (.fieldLink RX9 34 "StatementRules2$Tokens" "next" "I") k_X9_advance_fieldLink_RX9_34_SR_Tokens_next_I) (fun _ q9 => q9) dX9_advance_101 rfl ?_
      obtain ⟨p12, hcp12, hf⟩ := hf_bind hf
      have mo13 : CS.hs p7.2 ≤ CS.hs p12.2 := Mono.go hcp12 (m_X9_byteAt N p7.2 (p7.2.i 42))
      have hr9 : CS.hs p12.2 ≤ CS.hs R.2 := Mono.go hf (mono_bind (m_X9_isLetter N p12.2 p12.1) (fun p16 => (mono_ite (mono_bind (m_X9_takeSign N p16.2) (fun p21 => (mono_some (Nat.le_refl _)))) (mono_bind (m_X9_takeRow N p16.2) (fun p25 => (mono_some (Nat.le_refl _)))))))
      have hFc := cFree hC hA
      refine va_calli (va_runV (As := [.int (p7.2.i 42)]) (rest := []) ⟨hx, hb, hml, hown, hts⟩ (c_X9_byteAt l dC dI Q N p7.2 (p7.2.i 42) p12 hcp12) (cwV 1 hts hX9_advance_X9_byteAt_v43 rfl rfl rfl (by decide +kernel) ⟨(show 1 + 1 ≤ 3 by omega), (show 8 + (2 + 11) + 60 * 1 ≤ 60 * 3 by omega)⟩) ⟨zPre.blind, va_recv hK hC.1 (ci := 8) (q0 := 4) rfl rfl, cPre_go hZ hK hC⟩ rfl rfl hl.1 rfl (lv_room (Nat.le_of_ble_eq_true rfl)) dX9_advance_104 (cAcc h10 mo13 hr9)) hC.2.2.1 (fun q _ h => hFc q h) hFc (fun r14 u9 t9 H1 locs ht hvm hw hB hz1 hk1 hS => ?_)
      obtain ⟨⟨hP, hK1, hD1⟩, hsz1⟩ := hB
      rw [ht] at hP hsz1
      have hC : CP dC dI Q A s.heap p12.2 H1 locs := ⟨hP, hD1.weaken (fun _ _ _ h => hFc _ h), hS, hsz1⟩
      generalize H1 = H at hC ⊢
      have h15 : z9h ≤ CS.hs p12.2 := Nat.le_trans h10 mo13
      refine W.widen (k := CS.hs p12.2 - z9h) (n := 17 * (CS.hs p12.2 - z9h)) (cAcc2 h10 mo13) (cAcc3 h10 mo13) ?_
      obtain rfl : r14 = p12.1 := hw
      obtain ⟨p16, hcp16, hf⟩ := hf_bind hf
      have mo17 : CS.hs p12.2 ≤ CS.hs p16.2 := Mono.go hcp16 (m_X9_isLetter N p12.2 p12.1)
      have hr9 : CS.hs p16.2 ≤ CS.hs R.2 := Mono.go hf (mono_ite (mono_bind (m_X9_takeSign N p16.2) (fun p21 => (mono_some (Nat.le_refl _)))) (mono_bind (m_X9_takeRow N p16.2) (fun p25 => (mono_some (Nat.le_refl _)))))
      have hFc := cFree hC hA
      refine va_calli (va_runS (As := [.int p12.1]) (rest := []) ⟨hx, hb, hml, hown, hts⟩ (c_X9_isLetter l dC dI Q N p12.2 p12.1 p16 hcp16) (va_cwS 1 hts hX9_advance_X9_isLetter_s57 rfl rfl rfl (by decide +kernel) ⟨(show 1 + 1 ≤ 3 by omega), (show 8 + (1 + 11) + 60 * 1 ≤ 60 * 3 by omega)⟩) ⟨zPre.blind, cPre_go hZ hK hC⟩ rfl rfl hl.1 rfl (lv_room (Nat.le_of_ble_eq_true rfl)) dX9_advance_107 (cAcc h15 mo17 hr9)) hC.2.2.1 (fun q _ h => hFc q h) hFc (fun r18 u9 t9 H1 locs ht hvm hw hB hz1 hk1 hS => ?_)
      obtain ⟨⟨hP, hK1, hD1⟩, hsz1⟩ := hB
      rw [ht] at hP hsz1
      have hC : CP dC dI Q A s.heap p16.2 H1 locs := ⟨hP, hD1.weaken (fun _ _ _ h => hFc _ h), hS, hsz1⟩
      generalize H1 = H at hC ⊢
      have h19 : z9h ≤ CS.hs p16.2 := Nat.le_trans h15 mo17
      refine W.widen (k := CS.hs p16.2 - z9h) (n := 17 * (CS.hs p16.2 - z9h)) (cAcc2 h15 mo17) (cAcc3 h15 mo17) ?_
      obtain rfl : r18 = p16.1 := hw
      refine lv_if_eq (tgt := 120) hx hb dX9_advance_110 (by decide) (fun c20 => ?_) (fun c20 => ?_)
      ·
        replace hf := (if_pos c20).symm.trans hf
        refine lv_aload_n hx hb dX9_advance_120 rfl (lv_at hl 0 rfl) ?_
        obtain ⟨p21, hcp21, hf⟩ := hf_bind hf
        have mo22 : CS.hs p16.2 ≤ CS.hs p21.2 := Mono.go hcp21 (m_X9_takeSign N p16.2)
        have hr9 : CS.hs p21.2 ≤ CS.hs R.2 := Mono.go hf (mono_some (Nat.le_refl _))
        have hFc := cFree hC hA
        refine va_callv (va_runV (As := []) (rest := []) ⟨hx, hb, hml, hown, hts⟩ (c_X9_takeSign l dC dI Q N p16.2 p21 hcp21) (cwV 0 hts hX9_advance_X9_takeSign_v63 rfl rfl rfl (by decide +kernel) ⟨(show 2 + 1 ≤ 3 by omega), (show 8 + (2 + 11) + 60 * 2 ≤ 60 * 3 by omega)⟩) ⟨zPre.blind, va_recv hK hC.1 (ci := 8) (q0 := 4) rfl rfl, cPre_go hZ hK hC⟩ rfl rfl hl.1 rfl (lv_room (Nat.le_of_ble_eq_true rfl)) dX9_advance_121 (cAcc h19 mo22 hr9)) hC.2.2.1 (fun q _ h => hFc q h) hFc (fun u9 t9 H1 locs ht hvm hw hB hz1 hk1 hS => ?_)
        obtain ⟨⟨hP, hK1, hD1⟩, hsz1⟩ := hB
        rw [ht] at hP hsz1
        have hC : CP dC dI Q A s.heap p21.2 H1 locs := ⟨hP, hD1.weaken (fun _ _ _ h => hFc _ h), hS, hsz1⟩
        generalize H1 = H at hC ⊢
        have h24 : z9h ≤ CS.hs p21.2 := Nat.le_trans h19 mo22
        refine W.widen (k := CS.hs p21.2 - z9h) (n := 17 * (CS.hs p21.2 - z9h)) (cAcc2 h19 mo22) (cAcc3 h19 mo22) ?_
        obtain rfl := Option.some.inj hf
        exact W.vret hx hb hr (fun t ht hW => ⟨⟨(), rfl, trivial, ⟨by rw [ht]; exact hC.1, va_K.moved hW.alike hK, hC.2.1⟩, by rw [ht]; exact hC.2.2.2⟩, hC.2.2.1.F ht⟩) hC.2.2.1.2.2 dX9_advance_124
      ·
        replace hf := (if_neg c20).symm.trans hf
        refine lv_aload_n hx hb dX9_advance_113 rfl (lv_at hl 0 rfl) ?_
        obtain ⟨p25, hcp25, hf⟩ := hf_bind hf
        have mo26 : CS.hs p16.2 ≤ CS.hs p25.2 := Mono.go hcp25 (m_X9_takeRow N p16.2)
        have hr9 : CS.hs p25.2 ≤ CS.hs R.2 := Mono.go hf (mono_some (Nat.le_refl _))
        have hFc := cFree hC hA
        refine va_callv (va_runV (As := []) (rest := []) ⟨hx, hb, hml, hown, hts⟩ (c_X9_takeRow l dC dI Q N p16.2 p25 hcp25) (cwV 0 hts hX9_advance_X9_takeRow_v60 rfl rfl rfl (by decide +kernel) ⟨(show 2 + 1 ≤ 3 by omega), (show 8 + (2 + 11) + 60 * 2 ≤ 60 * 3 by omega)⟩) ⟨zPre.blind, va_recv hK hC.1 (ci := 8) (q0 := 4) rfl rfl, cPre_go hZ hK hC⟩ rfl rfl hl.1 rfl (lv_room (Nat.le_of_ble_eq_true rfl)) dX9_advance_114 (cAcc h19 mo26 hr9)) hC.2.2.1 (fun q _ h => hFc q h) hFc (fun u9 t9 H1 locs ht hvm hw hB hz1 hk1 hS => ?_)
        obtain ⟨⟨hP, hK1, hD1⟩, hsz1⟩ := hB
        rw [ht] at hP hsz1
        have hC : CP dC dI Q A s.heap p25.2 H1 locs := ⟨hP, hD1.weaken (fun _ _ _ h => hFc _ h), hS, hsz1⟩
        generalize H1 = H at hC ⊢
        have h28 : z9h ≤ CS.hs p25.2 := Nat.le_trans h19 mo26
        refine W.widen (k := CS.hs p25.2 - z9h) (n := 17 * (CS.hs p25.2 - z9h)) (cAcc2 h19 mo26) (cAcc3 h19 mo26) ?_
        refine lv_goto (tgt := 124) hx hb dX9_advance_117 (by decide) ?_
        obtain rfl := Option.some.inj hf
        exact W.vret hx hb hr (fun t ht hW => ⟨⟨(), rfl, trivial, ⟨by rw [ht]; exact hC.1, va_K.moved hW.alike hK, hC.2.1⟩, by rw [ht]; exact hC.2.2.2⟩, hC.2.2.1.F ht⟩) hC.2.2.1.2.2 dX9_advance_124
    ·
      replace hf := (if_neg c11).symm.trans hf
      refine lv_aload_n hx hb dX9_advance_92 rfl (lv_at hl 0 rfl) ?_
      obtain ⟨p29, hcp29, hf⟩ := hf_bind hf
      have mo30 : CS.hs p7.2 ≤ CS.hs p29.2 := Mono.go hcp29 (m_X9_takeNumber N p7.2)
      have hr9 : CS.hs p29.2 ≤ CS.hs R.2 := Mono.go hf (mono_some (Nat.le_refl _))
      have hFc := cFree hC hA
      refine va_callv (va_runV (As := []) (rest := []) ⟨hx, hb, hml, hown, hts⟩ (c_X9_takeNumber l dC dI Q N p7.2 p29 hcp29) (cwV 0 hts hX9_advance_X9_takeNumber_v54 rfl rfl rfl (by decide +kernel) ⟨(show 2 + 1 ≤ 3 by omega), (show 8 + (2 + 11) + 60 * 2 ≤ 60 * 3 by omega)⟩) ⟨zPre.blind, va_recv hK hC.1 (ci := 8) (q0 := 4) rfl rfl, cPre_go hZ hK hC⟩ rfl rfl hl.1 rfl (lv_room (Nat.le_of_ble_eq_true rfl)) dX9_advance_93 (cAcc h10 mo30 hr9)) hC.2.2.1 (fun q _ h => hFc q h) hFc (fun u9 t9 H1 locs ht hvm hw hB hz1 hk1 hS => ?_)
      obtain ⟨⟨hP, hK1, hD1⟩, hsz1⟩ := hB
      rw [ht] at hP hsz1
      have hC : CP dC dI Q A s.heap p29.2 H1 locs := ⟨hP, hD1.weaken (fun _ _ _ h => hFc _ h), hS, hsz1⟩
      generalize H1 = H at hC ⊢
      have h32 : z9h ≤ CS.hs p29.2 := Nat.le_trans h10 mo30
      refine W.widen (k := CS.hs p29.2 - z9h) (n := 17 * (CS.hs p29.2 - z9h)) (cAcc2 h10 mo30) (cAcc3 h10 mo30) ?_
      refine lv_goto (tgt := 124) hx hb dX9_advance_96 (by decide) ?_
      obtain rfl := Option.some.inj hf
      exact W.vret hx hb hr (fun t ht hW => ⟨⟨(), rfl, trivial, ⟨by rw [ht]; exact hC.1, va_K.moved hW.alike hK, hC.2.1⟩, by rw [ht]; exact hC.2.2.2⟩, hC.2.2.1.F ht⟩) hC.2.2.1.2.2 dX9_advance_124
  ·
    replace hf := (if_neg c2).symm.trans hf
    refine lv_aload_n hx hb dX9_advance_70 rfl (lv_at hl 0 rfl) ?_
    refine lv_iconst (v := 0) hx hb dX9_advance_71 (by decide) ?_
    refine cP_43 (v := 0) hx hb hts i_X9_advance_X9 hown hK hC (hts (.fieldLink RX9 40 "StatementRules2$Tokens" "type" "I") k_X9_advance_fieldLink_RX9_40_SR_Tokens_type_I) (fun _ q9 => q9) dX9_advance_72 (fun H locs hC => ?_)
    refine lv_goto (tgt := 124) hx hb dX9_advance_75 (by decide) ?_
    obtain rfl := Option.some.inj hf
    exact W.vret hx hb hr (fun t ht hW => ⟨⟨(), rfl, trivial, ⟨by rw [ht]; exact hC.1, va_K.moved hW.alike hK, hC.2.1⟩, by rw [ht]; exact hC.2.2.2⟩, hC.2.2.1.F ht⟩) hC.2.2.1.2.2 dX9_advance_124
set_option maxHeartbeats 4000000 in
set_option maxRecDepth 100000 in
theorem j_X9_advance_2 {p : Program} {e : Env} {s : State} {m : MethodId} {args : Array Value} {below : List Frame} {meth : Method} {c : Code} {A : Nat → Prop} (l : Launch) (dC : Nat → ClassId) (dI : Nat → Nat → Nat) (Q : CQ) (N : Nat) (z9h : Nat) (R : Unit × CS) (hx : p.tables.exec = Jvm.exec) (hb : c.code = cX9_advance) (hr : meth.sig.returnType = none) (hml : c.maxLocals = 2) (hown : s.vm.findClass RX9 = some m.cls) (hts : ∀ w ∈ wzX9_advance, w.before args s = true) (hlocks : meth.locks = false) (hZ : zAMB s) (hA : ∀ q : Nat, s.heap.size ≤ q → A q) (hK : va_K (dC, dI) vwCl (cT Q) s) : ∀ (n9 : Nat), ∀ (σ : CS) (x1 : Int32) (H : Heap) (locs : List Loc) (ls : Array Slot), f_X9_advance_2 N n9 σ x1 = some R → z9h ≤ CS.hs σ → CP dC dI Q A s.heap σ H locs → lv_has ls 2 [(0, .ref (Q.o 4)), (1, .int x1)] → W p l e ({ frames := 3, cells := CS.hs R.2 - z9h, slots := 17 * (CS.hs R.2 - z9h), locals := 60 * 3 }) s m args below meth c H locs (CS.hs σ - z9h) (17 * (CS.hs σ - z9h)) (MQ below (va_Qv (fun (_ : Unit) => True) (fun (_ : Unit) (t : State) => zPost dC dI A (cW Q R.2) (cT Q) t ∧ t.heap.size = CS.hs R.2) A) args s (CS.hs R.2 - z9h) (17 * (CS.hs R.2 - z9h)) A) (F0 m 2 ls []) := by
  intro n9
  induction n9 with
  | zero => intro σ x1 H locs ls hf; exact absurd hf (by intro q9; cases q9)
  | succ n9 ih =>
    intro σ x1 H locs ls hf h0 hC hl
    replace hf : b_X9_advance_2 N (f_X9_advance_2 N n9) σ x1 = some R := hf
    unfold b_X9_advance_2 at hf
    have hMK := fun (σ : CS) (x1 : Int32) => m_X9_advance_2 N n9 σ x1
    refine lv_iload_n hx hb dX9_advance_2 rfl (lv_at hl 1 rfl) ?_
    refine lv_sipush (v := 900) hx hb dX9_advance_3 (by decide) ?_
    refine lv_icmp_ge (tgt := 51) hx hb dX9_advance_6 (by decide) (fun c1 => ?_) (fun c1 => ?_)
    ·
      replace hf := (if_pos c1).symm.trans hf
      exact j_X9_advance_51 l dC dI Q N z9h R hx hb hr hml hown hts hlocks hZ hA hK σ _ _ _ hf h0 hC (lv_sub hl [0] rfl)
    ·
      replace hf := (if_neg c1).symm.trans hf
      refine lv_aload_n hx hb dX9_advance_9 rfl (lv_at hl 0 rfl) ?_
      refine lv_aload_n hx hb dX9_advance_10 rfl (lv_at hl 0 rfl) ?_
      refine cG_42 (v := (σ.i 42)) hx hb hts i_X9_advance_X9 hown hK hC (hts (.fieldLink RX9 34 "StatementRules2$Tokens" "next" "I") k_X9_advance_fieldLink_RX9_34_SR_Tokens_next_I) (fun _ q9 => q9) dX9_advance_11 rfl ?_
      obtain ⟨p33, hcp33, hf⟩ := hf_bind hf
      have mo34 : CS.hs σ ≤ CS.hs p33.2 := Mono.go hcp33 (m_X9_byteAt N σ (σ.i 42))
      have hr9 : CS.hs p33.2 ≤ CS.hs R.2 := Mono.go hf (mono_ite (hMK (CS.setI p33.2 42 ((p33.2.i 42) + 1)) (x1 + 1)) (mono_bind (m_X9_byteAt N p33.2 (p33.2.i 42)) (fun p38 => (mono_ite (hMK (CS.setI p38.2 42 ((p38.2.i 42) + 1)) (x1 + 1)) (m_X9_advance_51 N p38.2)))))
      have hFc := cFree hC hA
      refine va_calli (va_runV (As := [.int (σ.i 42)]) (rest := []) ⟨hx, hb, hml, hown, hts⟩ (c_X9_byteAt l dC dI Q N σ (σ.i 42) p33 hcp33) (cwV 1 hts hX9_advance_X9_byteAt_v43 rfl rfl rfl (by decide +kernel) ⟨(show 1 + 1 ≤ 3 by omega), (show 8 + (2 + 11) + 60 * 1 ≤ 60 * 3 by omega)⟩) ⟨zPre.blind, va_recv hK hC.1 (ci := 8) (q0 := 4) rfl rfl, cPre_go hZ hK hC⟩ rfl rfl hl.1 rfl (lv_room (Nat.le_of_ble_eq_true rfl)) dX9_advance_14 (cAcc h0 mo34 hr9)) hC.2.2.1 (fun q _ h => hFc q h) hFc (fun r35 u9 t9 H1 locs ht hvm hw hB hz1 hk1 hS => ?_)
      obtain ⟨⟨hP, hK1, hD1⟩, hsz1⟩ := hB
      rw [ht] at hP hsz1
      have hC : CP dC dI Q A s.heap p33.2 H1 locs := ⟨hP, hD1.weaken (fun _ _ _ h => hFc _ h), hS, hsz1⟩
      generalize H1 = H at hC ⊢
      have h36 : z9h ≤ CS.hs p33.2 := Nat.le_trans h0 mo34
      refine W.widen (k := CS.hs p33.2 - z9h) (n := 17 * (CS.hs p33.2 - z9h)) (cAcc2 h0 mo34) (cAcc3 h0 mo34) ?_
      obtain rfl : r35 = p33.1 := hw
      refine lv_bipush (v := 32) hx hb dX9_advance_17 (by decide) ?_
      refine lv_icmp_eq (tgt := 35) hx hb dX9_advance_19 (by decide) (fun c37 => ?_) (fun c37 => ?_)
      ·
        replace hf := (if_pos c37).symm.trans hf
        refine lv_aload_n hx hb dX9_advance_35 rfl (lv_at hl 0 rfl) ?_
        refine lv_dup hx hb dX9_advance_36 rfl ?_
        refine cG_42 (v := (p33.2.i 42)) hx hb hts i_X9_advance_X9 hown hK hC (hts (.fieldLink RX9 34 "StatementRules2$Tokens" "next" "I") k_X9_advance_fieldLink_RX9_34_SR_Tokens_next_I) (fun _ q9 => q9) dX9_advance_37 rfl ?_
        refine lv_iconst (v := 1) hx hb dX9_advance_40 (by decide) ?_
        refine lv_iadd hx hb dX9_advance_41 ?_
        refine cP_42 (v := ((p33.2.i 42) + 1)) hx hb hts i_X9_advance_X9 hown hK hC (hts (.fieldLink RX9 34 "StatementRules2$Tokens" "next" "I") k_X9_advance_fieldLink_RX9_34_SR_Tokens_next_I) (fun _ q9 => q9) dX9_advance_42 (fun H locs hC => ?_)
        refine lv_iinc (v := (x1 + 1)) (lv' := [(1, .int (x1 + 1)), (0, .ref (Q.o 4))]) hx hb dX9_advance_45 hl (k := 1) rfl rfl (by decide) rfl (fun ls hl => ?_)
        refine lv_goto (tgt := 2) hx hb dX9_advance_48 (by decide) ?_
        exact ih (CS.setI p33.2 42 ((p33.2.i 42) + 1)) (x1 + 1) _ _ _ hf h36 hC (lv_sub hl [1, 0] rfl)
      ·
        replace hf := (if_neg c37).symm.trans hf
        refine lv_aload_n hx hb dX9_advance_22 rfl (lv_at hl 0 rfl) ?_
        refine lv_aload_n hx hb dX9_advance_23 rfl (lv_at hl 0 rfl) ?_
        refine cG_42 (v := (p33.2.i 42)) hx hb hts i_X9_advance_X9 hown hK hC (hts (.fieldLink RX9 34 "StatementRules2$Tokens" "next" "I") k_X9_advance_fieldLink_RX9_34_SR_Tokens_next_I) (fun _ q9 => q9) dX9_advance_24 rfl ?_
        obtain ⟨p38, hcp38, hf⟩ := hf_bind hf
        have mo39 : CS.hs p33.2 ≤ CS.hs p38.2 := Mono.go hcp38 (m_X9_byteAt N p33.2 (p33.2.i 42))
        have hr9 : CS.hs p38.2 ≤ CS.hs R.2 := Mono.go hf (mono_ite (hMK (CS.setI p38.2 42 ((p38.2.i 42) + 1)) (x1 + 1)) (m_X9_advance_51 N p38.2))
        have hFc := cFree hC hA
        refine va_calli (va_runV (As := [.int (p33.2.i 42)]) (rest := []) ⟨hx, hb, hml, hown, hts⟩ (c_X9_byteAt l dC dI Q N p33.2 (p33.2.i 42) p38 hcp38) (cwV 1 hts hX9_advance_X9_byteAt_v43 rfl rfl rfl (by decide +kernel) ⟨(show 1 + 1 ≤ 3 by omega), (show 8 + (2 + 11) + 60 * 1 ≤ 60 * 3 by omega)⟩) ⟨zPre.blind, va_recv hK hC.1 (ci := 8) (q0 := 4) rfl rfl, cPre_go hZ hK hC⟩ rfl rfl hl.1 rfl (lv_room (Nat.le_of_ble_eq_true rfl)) dX9_advance_27 (cAcc h36 mo39 hr9)) hC.2.2.1 (fun q _ h => hFc q h) hFc (fun r40 u9 t9 H1 locs ht hvm hw hB hz1 hk1 hS => ?_)
        obtain ⟨⟨hP, hK1, hD1⟩, hsz1⟩ := hB
        rw [ht] at hP hsz1
        have hC : CP dC dI Q A s.heap p38.2 H1 locs := ⟨hP, hD1.weaken (fun _ _ _ h => hFc _ h), hS, hsz1⟩
        generalize H1 = H at hC ⊢
        have h41 : z9h ≤ CS.hs p38.2 := Nat.le_trans h36 mo39
        refine W.widen (k := CS.hs p38.2 - z9h) (n := 17 * (CS.hs p38.2 - z9h)) (cAcc2 h36 mo39) (cAcc3 h36 mo39) ?_
        obtain rfl : r40 = p38.1 := hw
        refine lv_bipush (v := 10) hx hb dX9_advance_30 (by decide) ?_
        refine lv_icmp_ne (tgt := 51) hx hb dX9_advance_32 (by decide) (fun c42 => ?_) (fun c42 => ?_)
        ·
          replace hf := (if_neg c42).symm.trans hf
          exact j_X9_advance_51 l dC dI Q N z9h R hx hb hr hml hown hts hlocks hZ hA hK p38.2 _ _ _ hf h41 hC (lv_sub hl [0] rfl)
        ·
          replace hf := (if_pos c42).symm.trans hf
          refine lv_aload_n hx hb dX9_advance_35 rfl (lv_at hl 0 rfl) ?_
          refine lv_dup hx hb dX9_advance_36 rfl ?_
          refine cG_42 (v := (p38.2.i 42)) hx hb hts i_X9_advance_X9 hown hK hC (hts (.fieldLink RX9 34 "StatementRules2$Tokens" "next" "I") k_X9_advance_fieldLink_RX9_34_SR_Tokens_next_I) (fun _ q9 => q9) dX9_advance_37 rfl ?_
          refine lv_iconst (v := 1) hx hb dX9_advance_40 (by decide) ?_
          refine lv_iadd hx hb dX9_advance_41 ?_
          refine cP_42 (v := ((p38.2.i 42) + 1)) hx hb hts i_X9_advance_X9 hown hK hC (hts (.fieldLink RX9 34 "StatementRules2$Tokens" "next" "I") k_X9_advance_fieldLink_RX9_34_SR_Tokens_next_I) (fun _ q9 => q9) dX9_advance_42 (fun H locs hC => ?_)
          refine lv_iinc (v := (x1 + 1)) (lv' := [(1, .int (x1 + 1)), (0, .ref (Q.o 4))]) hx hb dX9_advance_45 hl (k := 1) rfl rfl (by decide) rfl (fun ls hl => ?_)
          refine lv_goto (tgt := 2) hx hb dX9_advance_48 (by decide) ?_
          exact ih (CS.setI p38.2 42 ((p38.2.i 42) + 1)) (x1 + 1) _ _ _ hf h41 hC (lv_sub hl [1, 0] rfl)
set_option maxHeartbeats 4000000 in
set_option maxRecDepth 100000 in
theorem c_X9_advance (l : Launch) (dC : Nat → ClassId) (dI : Nat → Nat → Nat) (Q : CQ) (N : Nat) (σ : CS) (R : Unit × CS) (hf : f_X9_advance N σ = some R) : Met l yX9_advance wzX9_advance ({ frames := 3, cells := CS.hs R.2 - CS.hs σ, slots := 17 * (CS.hs R.2 - CS.hs σ), locals := 60 * 3 }) (va_Pc [.ref (Q.o 4)] (zPre dC dI (CS.hs σ) (cW Q σ) (cT Q))) (va_Qv (fun (_ : Unit) => True) (fun (_ : Unit) (t : State) => zPost dC dI (va_A (cW Q σ) (CS.hs σ)) (cW Q R.2) (cT Q) t ∧ t.heap.size = CS.hs R.2) (va_A (cW Q σ) (CS.hs σ))) (CS.hs R.2 - CS.hs σ) (17 * (CS.hs R.2 - CS.hs σ)) (va_A (cW Q σ) (CS.hs σ)) := by
  refine Met.ofW (cc := cX9_advance) (maxL := 2) (ret := none) (by decide) rfl ?_
  intro p e s m args below meth c s₁ B hml hv
  obtain ⟨rfl, hsz, hZ, hP, hK, hD0⟩ := hv
  have hx := B.exec
  have hb := B.bytes
  have hr := B.returns
  have hts := atoms_spec (ws := wzX9_advance) B.pre
  have hown : s.vm.findClass RX9 = some m.cls := findClass_of_methodNamed B.named
  have hlocks := B.notSynchronized
  have hD := hD0.self (sz := CS.hs σ)
  generalize hAe : va_A (cW Q σ) (CS.hs σ) = A at hD ⊢
  have hA : ∀ q : Nat, s.heap.size ≤ q → A q := fun q h => by rw [← hAe]; exact Or.inr (hsz ▸ h)
  have hC : CP dC dI Q A s.heap σ s.heap [] := ⟨hP, hD, va_S.rf, hsz⟩
  have h0 : CS.hs σ ≤ CS.hs σ := Nat.le_refl _
  have hl := lv_entry ([.ref (Q.o 4)]) (n := 2) (Nat.le_of_ble_eq_true rfl)
  rw [lg_entry_eq]
  generalize (lg_sl ([.ref (Q.o 4)]) ++ List.replicate (2 - (lg_sl ([.ref (Q.o 4)])).length) Slot.unset).toArray = ls at hl ⊢
  have hl : lv_has ls 2 [(0, .ref (Q.o 4))] := hl
  unfold f_X9_advance at hf
  refine W.widen (k := CS.hs σ - CS.hs σ) (n := 17 * (CS.hs σ - CS.hs σ)) (Nat.zero_le _) (Nat.zero_le _) ?_
  refine lv_iconst (v := 0) hx hb dX9_advance_0 (by decide) ?_
  refine lv_istore_n (lv' := [(1, .int 0), (0, .ref (Q.o 4))]) hx hb dX9_advance_1 rfl hl (by decide) rfl (fun ls hl => ?_)
  exact j_X9_advance_2 l dC dI Q N (CS.hs σ) R hx hb hr hml hown hts hlocks hZ hA hK N σ 0 _ _ _ hf h0 hC (lv_sub hl [1, 0] rfl)
theorem k_X1_skip_fieldLink_RX1_18_SR_Formulas_tokens_LSR_Tokens : Cond.fieldLink RX1 18 "StatementRules2$Formulas" "tokens" "LStatementRules2$Tokens;" ∈ wzX1_skip := List.mem_cons_of_mem _ (List.mem_append_left _ (List.mem_of_getElem? (i := 0) rfl))
theorem i_X1_skip_X7 : ∀ w ∈ wsX70, w ∈ wzX1_skip := fun _ h => List.mem_cons_of_mem _ (List.mem_append_right _ (List.mem_append_left _ (h)))
set_option maxHeartbeats 4000000 in
set_option maxRecDepth 100000 in
theorem j_X1_skip_17 {p : Program} {e : Env} {s : State} {m : MethodId} {args : Array Value} {below : List Frame} {meth : Method} {c : Code} {A : Nat → Prop} (l : Launch) (dC : Nat → ClassId) (dI : Nat → Nat → Nat) (Q : CQ) (N : Nat) (z9h : Nat) (R : Int32 × CS) (hx : p.tables.exec = Jvm.exec) (hb : c.code = cX1_skip) (hr : meth.sig.returnType = (some .boolean)) (hml : c.maxLocals = 3) (hown : s.vm.findClass RX1 = some m.cls) (hts : ∀ w ∈ wzX1_skip, w.before args s = true) (hlocks : meth.locks = false) (hZ : zAMB s) (hA : ∀ q : Nat, s.heap.size ≤ q → A q) (hK : va_K (dC, dI) vwCl (cT Q) s) : ∀ (σ : CS) (x2 : Int32) (H : Heap) (locs : List Loc) (ls : Array Slot), f_X1_skip_17 N σ x2 = some R → z9h ≤ CS.hs σ → CP dC dI Q A s.heap σ H locs → lv_has ls 3 [(2, .int x2)] → W p l e ({ frames := 4, cells := CS.hs R.2 - z9h, slots := 17 * (CS.hs R.2 - z9h), locals := 60 * 4 }) s m args below meth c H locs (CS.hs σ - z9h) (17 * (CS.hs σ - z9h)) (MQ below (va_Qi (fun (r : Int32) (_ : Unit) => r = R.1) (fun (_ : Unit) (t : State) => zPost dC dI A (cW Q R.2) (cT Q) t ∧ t.heap.size = CS.hs R.2) A) args s (CS.hs R.2 - z9h) (17 * (CS.hs R.2 - z9h)) A) (F0 m 17 ls []) := by
  intro σ x2 H locs ls hf h0 hC hl
  unfold f_X1_skip_17 at hf
  refine lv_iload_n hx hb dX1_skip_17 rfl (lv_at hl 0 rfl) ?_
  obtain ⟨b6, hf⟩ := hf_ite hf
  obtain rfl := Option.some.inj hf
  exact W.zret (v := x2) hx hb hr (z_nar b6) (fun t ht hW => ⟨⟨x2, (), rfl, rfl, ⟨by rw [ht]; exact hC.1, va_K.moved hW.alike hK, hC.2.1⟩, by rw [ht]; exact hC.2.2.2⟩, hC.2.2.1.F ht⟩) hC.2.2.1.2.2 dX1_skip_18
set_option maxHeartbeats 4000000 in
set_option maxRecDepth 100000 in
theorem c_X1_skip (l : Launch) (dC : Nat → ClassId) (dI : Nat → Nat → Nat) (Q : CQ) (N : Nat) (σ : CS) (x1 : Int32) (R : Int32 × CS) (hf : f_X1_skip N σ x1 = some R) : Met l yX1_skip wzX1_skip ({ frames := 4, cells := CS.hs R.2 - CS.hs σ, slots := 17 * (CS.hs R.2 - CS.hs σ), locals := 60 * 4 }) (va_Pc [.ref (Q.o 3), .int x1] (zPre dC dI (CS.hs σ) (cW Q σ) (cT Q))) (va_Qi (fun (r : Int32) (_ : Unit) => r = R.1) (fun (_ : Unit) (t : State) => zPost dC dI (va_A (cW Q σ) (CS.hs σ)) (cW Q R.2) (cT Q) t ∧ t.heap.size = CS.hs R.2) (va_A (cW Q σ) (CS.hs σ))) (CS.hs R.2 - CS.hs σ) (17 * (CS.hs R.2 - CS.hs σ)) (va_A (cW Q σ) (CS.hs σ)) := by
  refine Met.ofW (cc := cX1_skip) (maxL := 3) (ret := (some .boolean)) (by decide) rfl ?_
  intro p e s m args below meth c s₁ B hml hv
  obtain ⟨rfl, hsz, hZ, hP, hK, hD0⟩ := hv
  have hx := B.exec
  have hb := B.bytes
  have hr := B.returns
  have hts := atoms_spec (ws := wzX1_skip) B.pre
  have hown : s.vm.findClass RX1 = some m.cls := findClass_of_methodNamed B.named
  have hlocks := B.notSynchronized
  have hD := hD0.self (sz := CS.hs σ)
  generalize hAe : va_A (cW Q σ) (CS.hs σ) = A at hD ⊢
  have hA : ∀ q : Nat, s.heap.size ≤ q → A q := fun q h => by rw [← hAe]; exact Or.inr (hsz ▸ h)
  have hC : CP dC dI Q A s.heap σ s.heap [] := ⟨hP, hD, va_S.rf, hsz⟩
  have h0 : CS.hs σ ≤ CS.hs σ := Nat.le_refl _
  have hl := lv_entry ([.ref (Q.o 3), .int x1]) (n := 3) (Nat.le_of_ble_eq_true rfl)
  rw [lg_entry_eq]
  generalize (lg_sl ([.ref (Q.o 3), .int x1]) ++ List.replicate (3 - (lg_sl ([.ref (Q.o 3), .int x1])).length) Slot.unset).toArray = ls at hl ⊢
  have hl : lv_has ls 3 [(0, .ref (Q.o 3)), (1, .int x1)] := hl
  unfold f_X1_skip at hf
  refine W.widen (k := CS.hs σ - CS.hs σ) (n := 17 * (CS.hs σ - CS.hs σ)) (Nat.zero_le _) (Nat.zero_le _) ?_
  refine lv_aload_n hx hb dX1_skip_0 rfl (lv_at hl 0 rfl) ?_
  refine lv_iload_n hx hb dX1_skip_1 rfl (lv_at hl 1 rfl) ?_
  obtain ⟨p1, hcp1, hf⟩ := hf_bind hf
  have mo2 : CS.hs σ ≤ CS.hs p1.2 := Mono.go hcp1 (m_X1_found N σ x1)
  have hr9 : CS.hs p1.2 ≤ CS.hs R.2 := Mono.go hf (mono_ite (m_X1_skip_17 N p1.2 p1.1) (mono_bind (m_X9_advance N p1.2) (fun p7 => (m_X1_skip_17 N p7.2 p1.1))))
  have hFc := cFree hC hA
  refine va_calli (va_runU (As := [.int x1]) (rest := []) ⟨hx, hb, hml, hown, hts⟩ (c_X1_found l dC dI Q N σ x1 p1 hcp1) (va_cwU 1 hts hX1_skip_X1_found_u42 rfl rfl rfl rfl (by decide +kernel) ⟨(show 1 + 1 ≤ 4 by omega), (show 8 + (2 + 11) + 60 * 1 ≤ 60 * 4 by omega)⟩) ⟨zPre.blind, va_recv hK hC.1 (ci := 6) (q0 := 3) rfl rfl, cPre_go hZ hK hC⟩ rfl rfl hl.1 rfl (lv_room (Nat.le_of_ble_eq_true rfl)) dX1_skip_2 (cAcc h0 mo2 hr9)) hC.2.2.1 (fun q _ h => hFc q h) hFc (fun r3 u9 t9 H1 locs ht hvm hw hB hz1 hk1 hS => ?_)
  obtain ⟨⟨hP, hK1, hD1⟩, hsz1⟩ := hB
  rw [ht] at hP hsz1
  have hC : CP dC dI Q A s.heap p1.2 H1 locs := ⟨hP, hD1.weaken (fun _ _ _ h => hFc _ h), hS, hsz1⟩
  generalize H1 = H at hC ⊢
  have h4 : (CS.hs σ) ≤ CS.hs p1.2 := Nat.le_trans h0 mo2
  refine W.widen (k := CS.hs p1.2 - (CS.hs σ)) (n := 17 * (CS.hs p1.2 - (CS.hs σ))) (cAcc2 h0 mo2) (cAcc3 h0 mo2) ?_
  obtain rfl : r3 = p1.1 := hw
  refine lv_istore_n (lv' := [(2, .int p1.1), (0, .ref (Q.o 3)), (1, .int x1)]) hx hb dX1_skip_5 rfl hl (by decide) rfl (fun ls hl => ?_)
  refine lv_iload_n hx hb dX1_skip_6 rfl (lv_at hl 0 rfl) ?_
  refine lv_if_eq (tgt := 17) hx hb dX1_skip_7 (by decide) (fun c5 => ?_) (fun c5 => ?_)
  ·
    replace hf := (if_pos c5).symm.trans hf
    exact j_X1_skip_17 l dC dI Q N (CS.hs σ) R hx hb hr hml hown hts hlocks hZ hA hK p1.2 p1.1 _ _ _ hf h4 hC (lv_sub hl [0] rfl)
  ·
    replace hf := (if_neg c5).symm.trans hf
    refine lv_aload_n hx hb dX1_skip_10 rfl (lv_at hl 1 rfl) ?_
    refine cG_28 hx hb hts i_X1_skip_X7 hown hK hC (hts (.fieldLink RX1 18 "StatementRules2$Formulas" "tokens" "LStatementRules2$Tokens;") k_X1_skip_fieldLink_RX1_18_SR_Formulas_tokens_LSR_Tokens) (fun _ q9 => q9) dX1_skip_11 ?_
    obtain ⟨p7, hcp7, hf⟩ := hf_bind hf
    have mo8 : CS.hs p1.2 ≤ CS.hs p7.2 := Mono.go hcp7 (m_X9_advance N p1.2)
    have hr9 : CS.hs p7.2 ≤ CS.hs R.2 := Mono.go hf (m_X1_skip_17 N p7.2 p1.1)
    have hFc := cFree hC hA
    refine va_callv (va_runV (As := []) (rest := []) ⟨hx, hb, hml, hown, hts⟩ (c_X9_advance l dC dI Q N p1.2 p7 hcp7) (cwV 0 hts hX1_skip_X9_advance_v56 rfl rfl rfl (by decide +kernel) ⟨(show 3 + 1 ≤ 4 by omega), (show 8 + (2 + 11) + 60 * 3 ≤ 60 * 4 by omega)⟩) ⟨zPre.blind, va_recv hK hC.1 (ci := 8) (q0 := 4) rfl rfl, cPre_go hZ hK hC⟩ rfl rfl hl.1 rfl (lv_room (Nat.le_of_ble_eq_true rfl)) dX1_skip_14 (cAcc h4 mo8 hr9)) hC.2.2.1 (fun q _ h => hFc q h) hFc (fun u9 t9 H1 locs ht hvm hw hB hz1 hk1 hS => ?_)
    obtain ⟨⟨hP, hK1, hD1⟩, hsz1⟩ := hB
    rw [ht] at hP hsz1
    have hC : CP dC dI Q A s.heap p7.2 H1 locs := ⟨hP, hD1.weaken (fun _ _ _ h => hFc _ h), hS, hsz1⟩
    generalize H1 = H at hC ⊢
    have h10 : (CS.hs σ) ≤ CS.hs p7.2 := Nat.le_trans h4 mo8
    refine W.widen (k := CS.hs p7.2 - (CS.hs σ)) (n := 17 * (CS.hs p7.2 - (CS.hs σ))) (cAcc2 h4 mo8) (cAcc3 h4 mo8) ?_
    exact j_X1_skip_17 l dC dI Q N (CS.hs σ) R hx hb hr hml hown hts hlocks hZ hA hK p7.2 p1.1 _ _ _ hf h10 hC (lv_sub hl [0] rfl)
theorem k_X1_expect_fieldLink_RX1_18_SR_Formulas_tokens_LSR_Tokens : Cond.fieldLink RX1 18 "StatementRules2$Formulas" "tokens" "LStatementRules2$Tokens;" ∈ wzX1_expect := List.mem_cons_of_mem _ (List.mem_append_left _ (List.mem_of_getElem? (i := 0) rfl))
theorem i_X1_expect_X7 : ∀ w ∈ wsX70, w ∈ wzX1_expect := fun _ h => List.mem_cons_of_mem _ (List.mem_append_right _ (List.mem_append_left _ (h)))
set_option maxHeartbeats 4000000 in
set_option maxRecDepth 100000 in
theorem c_X1_expect (l : Launch) (dC : Nat → ClassId) (dI : Nat → Nat → Nat) (Q : CQ) (N : Nat) (σ : CS) (x1 : Int32) (R : Unit × CS) (hf : f_X1_expect N σ x1 = some R) : Met l yX1_expect wzX1_expect ({ frames := 4, cells := CS.hs R.2 - CS.hs σ, slots := 17 * (CS.hs R.2 - CS.hs σ), locals := 60 * 4 }) (va_Pc [.ref (Q.o 3), .int x1] (zPre dC dI (CS.hs σ) (cW Q σ) (cT Q))) (va_Qv (fun (_ : Unit) => True) (fun (_ : Unit) (t : State) => zPost dC dI (va_A (cW Q σ) (CS.hs σ)) (cW Q R.2) (cT Q) t ∧ t.heap.size = CS.hs R.2) (va_A (cW Q σ) (CS.hs σ))) (CS.hs R.2 - CS.hs σ) (17 * (CS.hs R.2 - CS.hs σ)) (va_A (cW Q σ) (CS.hs σ)) := by
  refine Met.ofW (cc := cX1_expect) (maxL := 2) (ret := none) (by decide) rfl ?_
  intro p e s m args below meth c s₁ B hml hv
  obtain ⟨rfl, hsz, hZ, hP, hK, hD0⟩ := hv
  have hx := B.exec
  have hb := B.bytes
  have hr := B.returns
  have hts := atoms_spec (ws := wzX1_expect) B.pre
  have hown : s.vm.findClass RX1 = some m.cls := findClass_of_methodNamed B.named
  have hlocks := B.notSynchronized
  have hD := hD0.self (sz := CS.hs σ)
  generalize hAe : va_A (cW Q σ) (CS.hs σ) = A at hD ⊢
  have hA : ∀ q : Nat, s.heap.size ≤ q → A q := fun q h => by rw [← hAe]; exact Or.inr (hsz ▸ h)
  have hC : CP dC dI Q A s.heap σ s.heap [] := ⟨hP, hD, va_S.rf, hsz⟩
  have h0 : CS.hs σ ≤ CS.hs σ := Nat.le_refl _
  have hl := lv_entry ([.ref (Q.o 3), .int x1]) (n := 2) (Nat.le_of_ble_eq_true rfl)
  rw [lg_entry_eq]
  generalize (lg_sl ([.ref (Q.o 3), .int x1]) ++ List.replicate (2 - (lg_sl ([.ref (Q.o 3), .int x1])).length) Slot.unset).toArray = ls at hl ⊢
  have hl : lv_has ls 2 [(0, .ref (Q.o 3)), (1, .int x1)] := hl
  unfold f_X1_expect at hf
  refine W.widen (k := CS.hs σ - CS.hs σ) (n := 17 * (CS.hs σ - CS.hs σ)) (Nat.zero_le _) (Nat.zero_le _) ?_
  refine lv_aload_n hx hb dX1_expect_0 rfl (lv_at hl 0 rfl) ?_
  refine lv_iload_n hx hb dX1_expect_1 rfl (lv_at hl 1 rfl) ?_
  obtain ⟨p1, hcp1, hf⟩ := hf_bind hf
  have mo2 : CS.hs σ ≤ CS.hs p1.2 := Mono.go hcp1 (m_X1_found N σ x1)
  have hr9 : CS.hs p1.2 ≤ CS.hs R.2 := Mono.go hf (mono_ite (mono_bind (m_X1_misplaced N p1.2) (fun p6 => (mono_some (Nat.le_refl _)))) (mono_bind (m_X9_advance N p1.2) (fun p10 => (mono_some (Nat.le_refl _)))))
  have hFc := cFree hC hA
  refine va_calli (va_runU (As := [.int x1]) (rest := []) ⟨hx, hb, hml, hown, hts⟩ (c_X1_found l dC dI Q N σ x1 p1 hcp1) (va_cwU 1 hts hX1_expect_X1_found_u42 rfl rfl rfl rfl (by decide +kernel) ⟨(show 1 + 1 ≤ 4 by omega), (show 8 + (2 + 11) + 60 * 1 ≤ 60 * 4 by omega)⟩) ⟨zPre.blind, va_recv hK hC.1 (ci := 6) (q0 := 3) rfl rfl, cPre_go hZ hK hC⟩ rfl rfl hl.1 rfl (lv_room (Nat.le_of_ble_eq_true rfl)) dX1_expect_2 (cAcc h0 mo2 hr9)) hC.2.2.1 (fun q _ h => hFc q h) hFc (fun r3 u9 t9 H1 locs ht hvm hw hB hz1 hk1 hS => ?_)
  obtain ⟨⟨hP, hK1, hD1⟩, hsz1⟩ := hB
  rw [ht] at hP hsz1
  have hC : CP dC dI Q A s.heap p1.2 H1 locs := ⟨hP, hD1.weaken (fun _ _ _ h => hFc _ h), hS, hsz1⟩
  generalize H1 = H at hC ⊢
  have h4 : (CS.hs σ) ≤ CS.hs p1.2 := Nat.le_trans h0 mo2
  refine W.widen (k := CS.hs p1.2 - (CS.hs σ)) (n := 17 * (CS.hs p1.2 - (CS.hs σ))) (cAcc2 h0 mo2) (cAcc3 h0 mo2) ?_
  obtain rfl : r3 = p1.1 := hw
  refine lv_if_eq (tgt := 18) hx hb dX1_expect_5 (by decide) (fun c5 => ?_) (fun c5 => ?_)
  ·
    replace hf := (if_pos c5).symm.trans hf
    refine lv_aload_n hx hb dX1_expect_18 rfl (lv_at hl 0 rfl) ?_
    obtain ⟨p6, hcp6, hf⟩ := hf_bind hf
    have mo7 : CS.hs p1.2 ≤ CS.hs p6.2 := Mono.go hcp6 (m_X1_misplaced N p1.2)
    have hr9 : CS.hs p6.2 ≤ CS.hs R.2 := Mono.go hf (mono_some (Nat.le_refl _))
    have hFc := cFree hC hA
    refine va_callv (va_runU (As := []) (rest := []) ⟨hx, hb, hml, hown, hts⟩ (c_X1_misplaced l dC dI Q N p1.2 p6 hcp6) (va_cwU 0 hts hX1_expect_X1_misplaced_u59 rfl rfl rfl rfl (by decide +kernel) ⟨(show 3 + 1 ≤ 4 by omega), (show 8 + (1 + 11) + 60 * 3 ≤ 60 * 4 by omega)⟩) ⟨zPre.blind, va_recv hK hC.1 (ci := 6) (q0 := 3) rfl rfl, cPre_go hZ hK hC⟩ rfl rfl hl.1 rfl (lv_room (Nat.le_of_ble_eq_true rfl)) dX1_expect_19 (cAcc h4 mo7 hr9)) hC.2.2.1 (fun q _ h => hFc q h) hFc (fun u9 t9 H1 locs ht hvm hw hB hz1 hk1 hS => ?_)
    obtain ⟨⟨hP, hK1, hD1⟩, hsz1⟩ := hB
    rw [ht] at hP hsz1
    have hC : CP dC dI Q A s.heap p6.2 H1 locs := ⟨hP, hD1.weaken (fun _ _ _ h => hFc _ h), hS, hsz1⟩
    generalize H1 = H at hC ⊢
    have h9 : (CS.hs σ) ≤ CS.hs p6.2 := Nat.le_trans h4 mo7
    refine W.widen (k := CS.hs p6.2 - (CS.hs σ)) (n := 17 * (CS.hs p6.2 - (CS.hs σ))) (cAcc2 h4 mo7) (cAcc3 h4 mo7) ?_
    obtain rfl := Option.some.inj hf
    exact W.vret hx hb hr (fun t ht hW => ⟨⟨(), rfl, trivial, ⟨by rw [ht]; exact hC.1, va_K.moved hW.alike hK, hC.2.1⟩, by rw [ht]; exact hC.2.2.2⟩, hC.2.2.1.F ht⟩) hC.2.2.1.2.2 dX1_expect_22
  ·
    replace hf := (if_neg c5).symm.trans hf
    refine lv_aload_n hx hb dX1_expect_8 rfl (lv_at hl 0 rfl) ?_
    refine cG_28 hx hb hts i_X1_expect_X7 hown hK hC (hts (.fieldLink RX1 18 "StatementRules2$Formulas" "tokens" "LStatementRules2$Tokens;") k_X1_expect_fieldLink_RX1_18_SR_Formulas_tokens_LSR_Tokens) (fun _ q9 => q9) dX1_expect_9 ?_
    obtain ⟨p10, hcp10, hf⟩ := hf_bind hf
    have mo11 : CS.hs p1.2 ≤ CS.hs p10.2 := Mono.go hcp10 (m_X9_advance N p1.2)
    have hr9 : CS.hs p10.2 ≤ CS.hs R.2 := Mono.go hf (mono_some (Nat.le_refl _))
    have hFc := cFree hC hA
    refine va_callv (va_runV (As := []) (rest := []) ⟨hx, hb, hml, hown, hts⟩ (c_X9_advance l dC dI Q N p1.2 p10 hcp10) (cwV 0 hts hX1_expect_X9_advance_v56 rfl rfl rfl (by decide +kernel) ⟨(show 3 + 1 ≤ 4 by omega), (show 8 + (2 + 11) + 60 * 3 ≤ 60 * 4 by omega)⟩) ⟨zPre.blind, va_recv hK hC.1 (ci := 8) (q0 := 4) rfl rfl, cPre_go hZ hK hC⟩ rfl rfl hl.1 rfl (lv_room (Nat.le_of_ble_eq_true rfl)) dX1_expect_12 (cAcc h4 mo11 hr9)) hC.2.2.1 (fun q _ h => hFc q h) hFc (fun u9 t9 H1 locs ht hvm hw hB hz1 hk1 hS => ?_)
    obtain ⟨⟨hP, hK1, hD1⟩, hsz1⟩ := hB
    rw [ht] at hP hsz1
    have hC : CP dC dI Q A s.heap p10.2 H1 locs := ⟨hP, hD1.weaken (fun _ _ _ h => hFc _ h), hS, hsz1⟩
    generalize H1 = H at hC ⊢
    have h13 : (CS.hs σ) ≤ CS.hs p10.2 := Nat.le_trans h4 mo11
    refine W.widen (k := CS.hs p10.2 - (CS.hs σ)) (n := 17 * (CS.hs p10.2 - (CS.hs σ))) (cAcc2 h4 mo11) (cAcc3 h4 mo11) ?_
    refine lv_goto (tgt := 22) hx hb dX1_expect_15 (by decide) ?_
    obtain rfl := Option.some.inj hf
    exact W.vret hx hb hr (fun t ht hW => ⟨⟨(), rfl, trivial, ⟨by rw [ht]; exact hC.1, va_K.moved hW.alike hK, hC.2.1⟩, by rw [ht]; exact hC.2.2.2⟩, hC.2.2.1.F ht⟩) hC.2.2.1.2.2 dX1_expect_22
theorem k_X1_open_fieldLink_RX1_62_SR_Formulas_openSigns_I : Cond.fieldLink RX1 62 "StatementRules2$Formulas" "openSigns" "I" ∈ wzX1_open := List.mem_cons_of_mem _ (List.mem_append_left _ (List.mem_of_getElem? (i := 0) rfl))
theorem i_X1_open_X7 : ∀ w ∈ wsX70, w ∈ wzX1_open := fun _ h => List.mem_cons_of_mem _ (List.mem_append_right _ (List.mem_append_left _ (h)))
theorem k_X1_open_fieldLink_RX1_18_SR_Formulas_tokens_LSR_Tokens : Cond.fieldLink RX1 18 "StatementRules2$Formulas" "tokens" "LStatementRules2$Tokens;" ∈ wzX1_open := List.mem_cons_of_mem _ (List.mem_append_left _ (List.mem_of_getElem? (i := 1) rfl))
theorem i_X1_open_X9 : ∀ w ∈ wsX90, w ∈ wzX1_open := fun _ h => List.mem_cons_of_mem _ (List.mem_append_right _ (List.mem_append_right _ (List.mem_append_left _ (h))))
set_option maxHeartbeats 4000000 in
set_option maxRecDepth 100000 in
theorem c_X1_open (l : Launch) (dC : Nat → ClassId) (dI : Nat → Nat → Nat) (Q : CQ) (N : Nat) (σ : CS) (x1 : Int32) (R : Unit × CS) (hf : f_X1_open N σ x1 = some R) : Met l yX1_open wzX1_open ({ frames := 4, cells := CS.hs R.2 - CS.hs σ, slots := 17 * (CS.hs R.2 - CS.hs σ), locals := 60 * 4 }) (va_Pc [.ref (Q.o 3), .int x1] (zPre dC dI (CS.hs σ) (cW Q σ) (cT Q))) (va_Qv (fun (_ : Unit) => True) (fun (_ : Unit) (t : State) => zPost dC dI (va_A (cW Q σ) (CS.hs σ)) (cW Q R.2) (cT Q) t ∧ t.heap.size = CS.hs R.2) (va_A (cW Q σ) (CS.hs σ))) (CS.hs R.2 - CS.hs σ) (17 * (CS.hs R.2 - CS.hs σ)) (va_A (cW Q σ) (CS.hs σ)) := by
  refine Met.ofW (cc := cX1_open) (maxL := 2) (ret := none) (by decide) rfl ?_
  intro p e s m args below meth c s₁ B hml hv
  obtain ⟨rfl, hsz, hZ, hP, hK, hD0⟩ := hv
  have hx := B.exec
  have hb := B.bytes
  have hr := B.returns
  have hts := atoms_spec (ws := wzX1_open) B.pre
  have hown : s.vm.findClass RX1 = some m.cls := findClass_of_methodNamed B.named
  have hlocks := B.notSynchronized
  have hD := hD0.self (sz := CS.hs σ)
  generalize hAe : va_A (cW Q σ) (CS.hs σ) = A at hD ⊢
  have hA : ∀ q : Nat, s.heap.size ≤ q → A q := fun q h => by rw [← hAe]; exact Or.inr (hsz ▸ h)
  have hC : CP dC dI Q A s.heap σ s.heap [] := ⟨hP, hD, va_S.rf, hsz⟩
  have h0 : CS.hs σ ≤ CS.hs σ := Nat.le_refl _
  have hl := lv_entry ([.ref (Q.o 3), .int x1]) (n := 2) (Nat.le_of_ble_eq_true rfl)
  rw [lg_entry_eq]
  generalize (lg_sl ([.ref (Q.o 3), .int x1]) ++ List.replicate (2 - (lg_sl ([.ref (Q.o 3), .int x1])).length) Slot.unset).toArray = ls at hl ⊢
  have hl : lv_has ls 2 [(0, .ref (Q.o 3)), (1, .int x1)] := hl
  unfold f_X1_open at hf
  refine W.widen (k := CS.hs σ - CS.hs σ) (n := 17 * (CS.hs σ - CS.hs σ)) (Nat.zero_le _) (Nat.zero_le _) ?_
  refine lv_aload_n hx hb dX1_open_0 rfl (lv_at hl 0 rfl) ?_
  refine lv_iload_n hx hb dX1_open_1 rfl (lv_at hl 1 rfl) ?_
  obtain ⟨p1, hcp1, hf⟩ := hf_bind hf
  have mo2 : CS.hs σ ≤ CS.hs p1.2 := Mono.go hcp1 (m_X1_found N σ x1)
  have hr9 : CS.hs p1.2 ≤ CS.hs R.2 := Mono.go hf (mono_ite (mono_bind (m_X1_misplaced N p1.2) (fun p15 => (mono_some (Nat.le_refl _)))) (mono_ite (mono_bind (m_X9_advance N (CS.setI p1.2 34 ((p1.2.i 34) + 1))) (fun p7 => (mono_some (Nat.le_refl _)))) (mono_bind (m_X1_fail N p1.2 6 (p1.2.i 44)) (fun p11 => (mono_some (Nat.le_refl _))))))
  have hFc := cFree hC hA
  refine va_calli (va_runU (As := [.int x1]) (rest := []) ⟨hx, hb, hml, hown, hts⟩ (c_X1_found l dC dI Q N σ x1 p1 hcp1) (va_cwU 1 hts hX1_open_X1_found_u42 rfl rfl rfl rfl (by decide +kernel) ⟨(show 1 + 1 ≤ 4 by omega), (show 8 + (2 + 11) + 60 * 1 ≤ 60 * 4 by omega)⟩) ⟨zPre.blind, va_recv hK hC.1 (ci := 6) (q0 := 3) rfl rfl, cPre_go hZ hK hC⟩ rfl rfl hl.1 rfl (lv_room (Nat.le_of_ble_eq_true rfl)) dX1_open_2 (cAcc h0 mo2 hr9)) hC.2.2.1 (fun q _ h => hFc q h) hFc (fun r3 u9 t9 H1 locs ht hvm hw hB hz1 hk1 hS => ?_)
  obtain ⟨⟨hP, hK1, hD1⟩, hsz1⟩ := hB
  rw [ht] at hP hsz1
  have hC : CP dC dI Q A s.heap p1.2 H1 locs := ⟨hP, hD1.weaken (fun _ _ _ h => hFc _ h), hS, hsz1⟩
  generalize H1 = H at hC ⊢
  have h4 : (CS.hs σ) ≤ CS.hs p1.2 := Nat.le_trans h0 mo2
  refine W.widen (k := CS.hs p1.2 - (CS.hs σ)) (n := 17 * (CS.hs p1.2 - (CS.hs σ))) (cAcc2 h0 mo2) (cAcc3 h0 mo2) ?_
  obtain rfl : r3 = p1.1 := hw
  refine lv_if_ne (tgt := 15) hx hb dX1_open_5 (by decide) (fun c5 => ?_) (fun c5 => ?_)
  ·
    replace hf := (if_neg c5).symm.trans hf
    refine lv_aload_n hx hb dX1_open_15 rfl (lv_at hl 0 rfl) ?_
    refine cG_34 (v := (p1.2.i 34)) hx hb hts i_X1_open_X7 hown hK hC (hts (.fieldLink RX1 62 "StatementRules2$Formulas" "openSigns" "I") k_X1_open_fieldLink_RX1_62_SR_Formulas_openSigns_I) (fun _ q9 => q9) dX1_open_16 rfl ?_
    refine lv_bipush (v := 20) hx hb dX1_open_19 (by decide) ?_
    refine lv_icmp_lt (tgt := 40) hx hb dX1_open_21 (by decide) (fun c6 => ?_) (fun c6 => ?_)
    ·
      replace hf := (if_pos c6).symm.trans hf
      refine lv_aload_n hx hb dX1_open_40 rfl (lv_at hl 0 rfl) ?_
      refine lv_dup hx hb dX1_open_41 rfl ?_
      refine cG_34 (v := (p1.2.i 34)) hx hb hts i_X1_open_X7 hown hK hC (hts (.fieldLink RX1 62 "StatementRules2$Formulas" "openSigns" "I") k_X1_open_fieldLink_RX1_62_SR_Formulas_openSigns_I) (fun _ q9 => q9) dX1_open_42 rfl ?_
      refine lv_iconst (v := 1) hx hb dX1_open_45 (by decide) ?_
      refine lv_iadd hx hb dX1_open_46 ?_
      refine cP_34 (v := ((p1.2.i 34) + 1)) hx hb hts i_X1_open_X7 hown hK hC (hts (.fieldLink RX1 62 "StatementRules2$Formulas" "openSigns" "I") k_X1_open_fieldLink_RX1_62_SR_Formulas_openSigns_I) (fun _ q9 => q9) dX1_open_47 (fun H locs hC => ?_)
      refine lv_aload_n hx hb dX1_open_50 rfl (lv_at hl 0 rfl) ?_
      refine cG_28 hx hb hts i_X1_open_X7 hown hK hC (hts (.fieldLink RX1 18 "StatementRules2$Formulas" "tokens" "LStatementRules2$Tokens;") k_X1_open_fieldLink_RX1_18_SR_Formulas_tokens_LSR_Tokens) (fun _ q9 => q9) dX1_open_51 ?_
      obtain ⟨p7, hcp7, hf⟩ := hf_bind hf
      have mo8 : CS.hs p1.2 ≤ CS.hs p7.2 := Mono.go hcp7 (m_X9_advance N (CS.setI p1.2 34 ((p1.2.i 34) + 1)))
      have hr9 : CS.hs p7.2 ≤ CS.hs R.2 := Mono.go hf (mono_some (Nat.le_refl _))
      have hFc := cFree hC hA
      refine va_callv (va_runV (As := []) (rest := []) ⟨hx, hb, hml, hown, hts⟩ (c_X9_advance l dC dI Q N (CS.setI p1.2 34 ((p1.2.i 34) + 1)) p7 hcp7) (cwV 0 hts hX1_open_X9_advance_v56 rfl rfl rfl (by decide +kernel) ⟨(show 3 + 1 ≤ 4 by omega), (show 8 + (2 + 11) + 60 * 3 ≤ 60 * 4 by omega)⟩) ⟨zPre.blind, va_recv hK hC.1 (ci := 8) (q0 := 4) rfl rfl, cPre_go hZ hK hC⟩ rfl rfl hl.1 rfl (lv_room (Nat.le_of_ble_eq_true rfl)) dX1_open_54 (cAcc h4 mo8 hr9)) hC.2.2.1 (fun q _ h => hFc q h) hFc (fun u9 t9 H1 locs ht hvm hw hB hz1 hk1 hS => ?_)
      obtain ⟨⟨hP, hK1, hD1⟩, hsz1⟩ := hB
      rw [ht] at hP hsz1
      have hC : CP dC dI Q A s.heap p7.2 H1 locs := ⟨hP, hD1.weaken (fun _ _ _ h => hFc _ h), hS, hsz1⟩
      generalize H1 = H at hC ⊢
      have h10 : (CS.hs σ) ≤ CS.hs p7.2 := Nat.le_trans h4 mo8
      refine W.widen (k := CS.hs p7.2 - (CS.hs σ)) (n := 17 * (CS.hs p7.2 - (CS.hs σ))) (cAcc2 h4 mo8) (cAcc3 h4 mo8) ?_
      obtain rfl := Option.some.inj hf
      exact W.vret hx hb hr (fun t ht hW => ⟨⟨(), rfl, trivial, ⟨by rw [ht]; exact hC.1, va_K.moved hW.alike hK, hC.2.1⟩, by rw [ht]; exact hC.2.2.2⟩, hC.2.2.1.F ht⟩) hC.2.2.1.2.2 dX1_open_57
    ·
      replace hf := (if_neg c6).symm.trans hf
      refine lv_aload_n hx hb dX1_open_24 rfl (lv_at hl 0 rfl) ?_
      refine lv_bipush (v := 6) hx hb dX1_open_25 (by decide) ?_
      refine lv_aload_n hx hb dX1_open_27 rfl (lv_at hl 0 rfl) ?_
      refine cG_28 hx hb hts i_X1_open_X7 hown hK hC (hts (.fieldLink RX1 18 "StatementRules2$Formulas" "tokens" "LStatementRules2$Tokens;") k_X1_open_fieldLink_RX1_18_SR_Formulas_tokens_LSR_Tokens) (fun _ q9 => q9) dX1_open_28 ?_
      refine cGN_44 (v := (p1.2.i 44)) hx hb hts i_X1_open_X9 hown hK hC (va_Nw.use rfl (hZ.1 (.fieldLinkNest RX1 46 "StatementRules2$Tokens" "place" "I" "StatementRules2") (by decide +kernel))) (fun _ q9 => q9) dX1_open_31 rfl ?_
      obtain ⟨p11, hcp11, hf⟩ := hf_bind hf
      have mo12 : CS.hs p1.2 ≤ CS.hs p11.2 := Mono.go hcp11 (m_X1_fail N p1.2 6 (p1.2.i 44))
      have hr9 : CS.hs p11.2 ≤ CS.hs R.2 := Mono.go hf (mono_some (Nat.le_refl _))
      have hFc := cFree hC hA
      refine va_callv (va_runU (As := [.int 6, .int (p1.2.i 44)]) (rest := []) ⟨hx, hb, hml, hown, hts⟩ (c_X1_fail l dC dI Q N p1.2 6 (p1.2.i 44) p11 hcp11) (va_cwU 2 hts hX1_open_X1_fail_u49 rfl rfl rfl rfl (by decide +kernel) ⟨(show 2 + 1 ≤ 4 by omega), (show 8 + (3 + 11) + 60 * 2 ≤ 60 * 4 by omega)⟩) ⟨zPre.blind, va_recv hK hC.1 (ci := 6) (q0 := 3) rfl rfl, cPre_go hZ hK hC⟩ rfl rfl hl.1 rfl (lv_room (Nat.le_of_ble_eq_true rfl)) dX1_open_34 (cAcc h4 mo12 hr9)) hC.2.2.1 (fun q _ h => hFc q h) hFc (fun u9 t9 H1 locs ht hvm hw hB hz1 hk1 hS => ?_)
      obtain ⟨⟨hP, hK1, hD1⟩, hsz1⟩ := hB
      rw [ht] at hP hsz1
      have hC : CP dC dI Q A s.heap p11.2 H1 locs := ⟨hP, hD1.weaken (fun _ _ _ h => hFc _ h), hS, hsz1⟩
      generalize H1 = H at hC ⊢
      have h14 : (CS.hs σ) ≤ CS.hs p11.2 := Nat.le_trans h4 mo12
      refine W.widen (k := CS.hs p11.2 - (CS.hs σ)) (n := 17 * (CS.hs p11.2 - (CS.hs σ))) (cAcc2 h4 mo12) (cAcc3 h4 mo12) ?_
      refine lv_goto (tgt := 57) hx hb dX1_open_37 (by decide) ?_
      obtain rfl := Option.some.inj hf
      exact W.vret hx hb hr (fun t ht hW => ⟨⟨(), rfl, trivial, ⟨by rw [ht]; exact hC.1, va_K.moved hW.alike hK, hC.2.1⟩, by rw [ht]; exact hC.2.2.2⟩, hC.2.2.1.F ht⟩) hC.2.2.1.2.2 dX1_open_57
  ·
    replace hf := (if_pos c5).symm.trans hf
    refine lv_aload_n hx hb dX1_open_8 rfl (lv_at hl 0 rfl) ?_
    obtain ⟨p15, hcp15, hf⟩ := hf_bind hf
    have mo16 : CS.hs p1.2 ≤ CS.hs p15.2 := Mono.go hcp15 (m_X1_misplaced N p1.2)
    have hr9 : CS.hs p15.2 ≤ CS.hs R.2 := Mono.go hf (mono_some (Nat.le_refl _))
    have hFc := cFree hC hA
    refine va_callv (va_runU (As := []) (rest := []) ⟨hx, hb, hml, hown, hts⟩ (c_X1_misplaced l dC dI Q N p1.2 p15 hcp15) (va_cwU 0 hts hX1_open_X1_misplaced_u59 rfl rfl rfl rfl (by decide +kernel) ⟨(show 3 + 1 ≤ 4 by omega), (show 8 + (1 + 11) + 60 * 3 ≤ 60 * 4 by omega)⟩) ⟨zPre.blind, va_recv hK hC.1 (ci := 6) (q0 := 3) rfl rfl, cPre_go hZ hK hC⟩ rfl rfl hl.1 rfl (lv_room (Nat.le_of_ble_eq_true rfl)) dX1_open_9 (cAcc h4 mo16 hr9)) hC.2.2.1 (fun q _ h => hFc q h) hFc (fun u9 t9 H1 locs ht hvm hw hB hz1 hk1 hS => ?_)
    obtain ⟨⟨hP, hK1, hD1⟩, hsz1⟩ := hB
    rw [ht] at hP hsz1
    have hC : CP dC dI Q A s.heap p15.2 H1 locs := ⟨hP, hD1.weaken (fun _ _ _ h => hFc _ h), hS, hsz1⟩
    generalize H1 = H at hC ⊢
    have h18 : (CS.hs σ) ≤ CS.hs p15.2 := Nat.le_trans h4 mo16
    refine W.widen (k := CS.hs p15.2 - (CS.hs σ)) (n := 17 * (CS.hs p15.2 - (CS.hs σ))) (cAcc2 h4 mo16) (cAcc3 h4 mo16) ?_
    refine lv_goto (tgt := 57) hx hb dX1_open_12 (by decide) ?_
    obtain rfl := Option.some.inj hf
    exact W.vret hx hb hr (fun t ht hW => ⟨⟨(), rfl, trivial, ⟨by rw [ht]; exact hC.1, va_K.moved hW.alike hK, hC.2.1⟩, by rw [ht]; exact hC.2.2.2⟩, hC.2.2.1.F ht⟩) hC.2.2.1.2.2 dX1_open_57
theorem k_X1_close_fieldLink_RX1_62_SR_Formulas_openSigns_I : Cond.fieldLink RX1 62 "StatementRules2$Formulas" "openSigns" "I" ∈ wzX1_close := List.mem_cons_of_mem _ (List.mem_append_left _ (List.mem_of_getElem? (i := 0) rfl))
theorem i_X1_close_X7 : ∀ w ∈ wsX70, w ∈ wzX1_close := fun _ h => List.mem_cons_of_mem _ (List.mem_append_right _ (List.mem_append_left _ (h)))
theorem k_X1_close_fieldLink_RX1_18_SR_Formulas_tokens_LSR_Tokens : Cond.fieldLink RX1 18 "StatementRules2$Formulas" "tokens" "LStatementRules2$Tokens;" ∈ wzX1_close := List.mem_cons_of_mem _ (List.mem_append_left _ (List.mem_of_getElem? (i := 1) rfl))
set_option maxHeartbeats 4000000 in
set_option maxRecDepth 100000 in
theorem j_X1_close_22 {p : Program} {e : Env} {s : State} {m : MethodId} {args : Array Value} {below : List Frame} {meth : Method} {c : Code} {A : Nat → Prop} (l : Launch) (dC : Nat → ClassId) (dI : Nat → Nat → Nat) (Q : CQ) (N : Nat) (z9h : Nat) (R : Unit × CS) (hx : p.tables.exec = Jvm.exec) (hb : c.code = cX1_close) (hr : meth.sig.returnType = none) (hml : c.maxLocals = 2) (hown : s.vm.findClass RX1 = some m.cls) (hts : ∀ w ∈ wzX1_close, w.before args s = true) (hlocks : meth.locks = false) (hZ : zAMB s) (hA : ∀ q : Nat, s.heap.size ≤ q → A q) (hK : va_K (dC, dI) vwCl (cT Q) s) : ∀ (σ : CS) (H : Heap) (locs : List Loc) (ls : Array Slot), f_X1_close_22 N σ = some R → z9h ≤ CS.hs σ → CP dC dI Q A s.heap σ H locs → lv_has ls 2 [(0, .ref (Q.o 3))] → W p l e ({ frames := 4, cells := CS.hs R.2 - z9h, slots := 17 * (CS.hs R.2 - z9h), locals := 60 * 4 }) s m args below meth c H locs (CS.hs σ - z9h) (17 * (CS.hs σ - z9h)) (MQ below (va_Qv (fun (_ : Unit) => True) (fun (_ : Unit) (t : State) => zPost dC dI A (cW Q R.2) (cT Q) t ∧ t.heap.size = CS.hs R.2) A) args s (CS.hs R.2 - z9h) (17 * (CS.hs R.2 - z9h)) A) (F0 m 22 ls []) := by
  intro σ  H locs ls hf h0 hC hl
  unfold f_X1_close_22 at hf
  refine lv_aload_n hx hb dX1_close_22 rfl (lv_at hl 0 rfl) ?_
  refine lv_dup hx hb dX1_close_23 rfl ?_
  refine cG_34 (v := (σ.i 34)) hx hb hts i_X1_close_X7 hown hK hC (hts (.fieldLink RX1 62 "StatementRules2$Formulas" "openSigns" "I") k_X1_close_fieldLink_RX1_62_SR_Formulas_openSigns_I) (fun _ q9 => q9) dX1_close_24 rfl ?_
  refine lv_iconst (v := 1) hx hb dX1_close_27 (by decide) ?_
  refine lv_isub hx hb dX1_close_28 ?_
  refine cP_34 (v := ((σ.i 34) - 1)) hx hb hts i_X1_close_X7 hown hK hC (hts (.fieldLink RX1 62 "StatementRules2$Formulas" "openSigns" "I") k_X1_close_fieldLink_RX1_62_SR_Formulas_openSigns_I) (fun _ q9 => q9) dX1_close_29 (fun H locs hC => ?_)
  obtain rfl := Option.some.inj hf
  exact W.vret hx hb hr (fun t ht hW => ⟨⟨(), rfl, trivial, ⟨by rw [ht]; exact hC.1, va_K.moved hW.alike hK, hC.2.1⟩, by rw [ht]; exact hC.2.2.2⟩, hC.2.2.1.F ht⟩) hC.2.2.1.2.2 dX1_close_32
set_option maxHeartbeats 4000000 in
set_option maxRecDepth 100000 in
theorem c_X1_close (l : Launch) (dC : Nat → ClassId) (dI : Nat → Nat → Nat) (Q : CQ) (N : Nat) (σ : CS) (x1 : Int32) (R : Unit × CS) (hf : f_X1_close N σ x1 = some R) : Met l yX1_close wzX1_close ({ frames := 4, cells := CS.hs R.2 - CS.hs σ, slots := 17 * (CS.hs R.2 - CS.hs σ), locals := 60 * 4 }) (va_Pc [.ref (Q.o 3), .int x1] (zPre dC dI (CS.hs σ) (cW Q σ) (cT Q))) (va_Qv (fun (_ : Unit) => True) (fun (_ : Unit) (t : State) => zPost dC dI (va_A (cW Q σ) (CS.hs σ)) (cW Q R.2) (cT Q) t ∧ t.heap.size = CS.hs R.2) (va_A (cW Q σ) (CS.hs σ))) (CS.hs R.2 - CS.hs σ) (17 * (CS.hs R.2 - CS.hs σ)) (va_A (cW Q σ) (CS.hs σ)) := by
  refine Met.ofW (cc := cX1_close) (maxL := 2) (ret := none) (by decide) rfl ?_
  intro p e s m args below meth c s₁ B hml hv
  obtain ⟨rfl, hsz, hZ, hP, hK, hD0⟩ := hv
  have hx := B.exec
  have hb := B.bytes
  have hr := B.returns
  have hts := atoms_spec (ws := wzX1_close) B.pre
  have hown : s.vm.findClass RX1 = some m.cls := findClass_of_methodNamed B.named
  have hlocks := B.notSynchronized
  have hD := hD0.self (sz := CS.hs σ)
  generalize hAe : va_A (cW Q σ) (CS.hs σ) = A at hD ⊢
  have hA : ∀ q : Nat, s.heap.size ≤ q → A q := fun q h => by rw [← hAe]; exact Or.inr (hsz ▸ h)
  have hC : CP dC dI Q A s.heap σ s.heap [] := ⟨hP, hD, va_S.rf, hsz⟩
  have h0 : CS.hs σ ≤ CS.hs σ := Nat.le_refl _
  have hl := lv_entry ([.ref (Q.o 3), .int x1]) (n := 2) (Nat.le_of_ble_eq_true rfl)
  rw [lg_entry_eq]
  generalize (lg_sl ([.ref (Q.o 3), .int x1]) ++ List.replicate (2 - (lg_sl ([.ref (Q.o 3), .int x1])).length) Slot.unset).toArray = ls at hl ⊢
  have hl : lv_has ls 2 [(0, .ref (Q.o 3)), (1, .int x1)] := hl
  unfold f_X1_close at hf
  refine W.widen (k := CS.hs σ - CS.hs σ) (n := 17 * (CS.hs σ - CS.hs σ)) (Nat.zero_le _) (Nat.zero_le _) ?_
  refine lv_aload_n hx hb dX1_close_0 rfl (lv_at hl 0 rfl) ?_
  refine lv_iload_n hx hb dX1_close_1 rfl (lv_at hl 1 rfl) ?_
  obtain ⟨p1, hcp1, hf⟩ := hf_bind hf
  have mo2 : CS.hs σ ≤ CS.hs p1.2 := Mono.go hcp1 (m_X1_found N σ x1)
  have hr9 : CS.hs p1.2 ≤ CS.hs R.2 := Mono.go hf (mono_ite (mono_bind (m_X1_misplaced N p1.2) (fun p6 => (m_X1_close_22 N p6.2))) (mono_bind (m_X9_advance N p1.2) (fun p10 => (m_X1_close_22 N p10.2))))
  have hFc := cFree hC hA
  refine va_calli (va_runU (As := [.int x1]) (rest := []) ⟨hx, hb, hml, hown, hts⟩ (c_X1_found l dC dI Q N σ x1 p1 hcp1) (va_cwU 1 hts hX1_close_X1_found_u42 rfl rfl rfl rfl (by decide +kernel) ⟨(show 1 + 1 ≤ 4 by omega), (show 8 + (2 + 11) + 60 * 1 ≤ 60 * 4 by omega)⟩) ⟨zPre.blind, va_recv hK hC.1 (ci := 6) (q0 := 3) rfl rfl, cPre_go hZ hK hC⟩ rfl rfl hl.1 rfl (lv_room (Nat.le_of_ble_eq_true rfl)) dX1_close_2 (cAcc h0 mo2 hr9)) hC.2.2.1 (fun q _ h => hFc q h) hFc (fun r3 u9 t9 H1 locs ht hvm hw hB hz1 hk1 hS => ?_)
  obtain ⟨⟨hP, hK1, hD1⟩, hsz1⟩ := hB
  rw [ht] at hP hsz1
  have hC : CP dC dI Q A s.heap p1.2 H1 locs := ⟨hP, hD1.weaken (fun _ _ _ h => hFc _ h), hS, hsz1⟩
  generalize H1 = H at hC ⊢
  have h4 : (CS.hs σ) ≤ CS.hs p1.2 := Nat.le_trans h0 mo2
  refine W.widen (k := CS.hs p1.2 - (CS.hs σ)) (n := 17 * (CS.hs p1.2 - (CS.hs σ))) (cAcc2 h0 mo2) (cAcc3 h0 mo2) ?_
  obtain rfl : r3 = p1.1 := hw
  refine lv_if_eq (tgt := 18) hx hb dX1_close_5 (by decide) (fun c5 => ?_) (fun c5 => ?_)
  ·
    replace hf := (if_pos c5).symm.trans hf
    refine lv_aload_n hx hb dX1_close_18 rfl (lv_at hl 0 rfl) ?_
    obtain ⟨p6, hcp6, hf⟩ := hf_bind hf
    have mo7 : CS.hs p1.2 ≤ CS.hs p6.2 := Mono.go hcp6 (m_X1_misplaced N p1.2)
    have hr9 : CS.hs p6.2 ≤ CS.hs R.2 := Mono.go hf (m_X1_close_22 N p6.2)
    have hFc := cFree hC hA
    refine va_callv (va_runU (As := []) (rest := []) ⟨hx, hb, hml, hown, hts⟩ (c_X1_misplaced l dC dI Q N p1.2 p6 hcp6) (va_cwU 0 hts hX1_close_X1_misplaced_u59 rfl rfl rfl rfl (by decide +kernel) ⟨(show 3 + 1 ≤ 4 by omega), (show 8 + (1 + 11) + 60 * 3 ≤ 60 * 4 by omega)⟩) ⟨zPre.blind, va_recv hK hC.1 (ci := 6) (q0 := 3) rfl rfl, cPre_go hZ hK hC⟩ rfl rfl hl.1 rfl (lv_room (Nat.le_of_ble_eq_true rfl)) dX1_close_19 (cAcc h4 mo7 hr9)) hC.2.2.1 (fun q _ h => hFc q h) hFc (fun u9 t9 H1 locs ht hvm hw hB hz1 hk1 hS => ?_)
    obtain ⟨⟨hP, hK1, hD1⟩, hsz1⟩ := hB
    rw [ht] at hP hsz1
    have hC : CP dC dI Q A s.heap p6.2 H1 locs := ⟨hP, hD1.weaken (fun _ _ _ h => hFc _ h), hS, hsz1⟩
    generalize H1 = H at hC ⊢
    have h9 : (CS.hs σ) ≤ CS.hs p6.2 := Nat.le_trans h4 mo7
    refine W.widen (k := CS.hs p6.2 - (CS.hs σ)) (n := 17 * (CS.hs p6.2 - (CS.hs σ))) (cAcc2 h4 mo7) (cAcc3 h4 mo7) ?_
    exact j_X1_close_22 l dC dI Q N (CS.hs σ) R hx hb hr hml hown hts hlocks hZ hA hK p6.2 _ _ _ hf h9 hC (lv_sub hl [0] rfl)
  ·
    replace hf := (if_neg c5).symm.trans hf
    refine lv_aload_n hx hb dX1_close_8 rfl (lv_at hl 0 rfl) ?_
    refine cG_28 hx hb hts i_X1_close_X7 hown hK hC (hts (.fieldLink RX1 18 "StatementRules2$Formulas" "tokens" "LStatementRules2$Tokens;") k_X1_close_fieldLink_RX1_18_SR_Formulas_tokens_LSR_Tokens) (fun _ q9 => q9) dX1_close_9 ?_
    obtain ⟨p10, hcp10, hf⟩ := hf_bind hf
    have mo11 : CS.hs p1.2 ≤ CS.hs p10.2 := Mono.go hcp10 (m_X9_advance N p1.2)
    have hr9 : CS.hs p10.2 ≤ CS.hs R.2 := Mono.go hf (m_X1_close_22 N p10.2)
    have hFc := cFree hC hA
    refine va_callv (va_runV (As := []) (rest := []) ⟨hx, hb, hml, hown, hts⟩ (c_X9_advance l dC dI Q N p1.2 p10 hcp10) (cwV 0 hts hX1_close_X9_advance_v56 rfl rfl rfl (by decide +kernel) ⟨(show 3 + 1 ≤ 4 by omega), (show 8 + (2 + 11) + 60 * 3 ≤ 60 * 4 by omega)⟩) ⟨zPre.blind, va_recv hK hC.1 (ci := 8) (q0 := 4) rfl rfl, cPre_go hZ hK hC⟩ rfl rfl hl.1 rfl (lv_room (Nat.le_of_ble_eq_true rfl)) dX1_close_12 (cAcc h4 mo11 hr9)) hC.2.2.1 (fun q _ h => hFc q h) hFc (fun u9 t9 H1 locs ht hvm hw hB hz1 hk1 hS => ?_)
    obtain ⟨⟨hP, hK1, hD1⟩, hsz1⟩ := hB
    rw [ht] at hP hsz1
    have hC : CP dC dI Q A s.heap p10.2 H1 locs := ⟨hP, hD1.weaken (fun _ _ _ h => hFc _ h), hS, hsz1⟩
    generalize H1 = H at hC ⊢
    have h13 : (CS.hs σ) ≤ CS.hs p10.2 := Nat.le_trans h4 mo11
    refine W.widen (k := CS.hs p10.2 - (CS.hs σ)) (n := 17 * (CS.hs p10.2 - (CS.hs σ))) (cAcc2 h4 mo11) (cAcc3 h4 mo11) ?_
    refine lv_goto (tgt := 22) hx hb dX1_close_15 (by decide) ?_
    exact j_X1_close_22 l dC dI Q N (CS.hs σ) R hx hb hr hml hown hts hlocks hZ hA hK p10.2 _ _ _ hf h13 hC (lv_sub hl [0] rfl)
theorem k_X1_product_fieldLink_RX1_18_SR_Formulas_tokens_LSR_Tokens : Cond.fieldLink RX1 18 "StatementRules2$Formulas" "tokens" "LStatementRules2$Tokens;" ∈ wzX1_product := List.mem_cons_of_mem _ (List.mem_append_right _ (List.mem_append_right _ (List.mem_append_right _ (List.mem_append_right _ (List.mem_append_right _ (List.mem_append_right _ (List.mem_append_right _ (List.mem_append_right _ (List.mem_append_right _ (List.mem_append_right _ (List.mem_append_left _ (List.mem_of_getElem? (i := 0) rfl))))))))))))
theorem i_X1_product_X7 : ∀ w ∈ wsX70, w ∈ wzX1_product := fun _ h => List.mem_cons_of_mem _ (List.mem_append_right _ (List.mem_append_right _ (List.mem_append_right _ (List.mem_append_right _ (List.mem_append_right _ (List.mem_append_right _ (List.mem_append_right _ (List.mem_append_right _ (List.mem_append_right _ (List.mem_append_right _ (List.mem_append_right _ (List.mem_append_right _ (List.mem_append_right _ (List.mem_append_right _ (List.mem_append_right _ (List.mem_append_right _ (List.mem_append_right _ (List.mem_append_right _ (List.mem_append_right _ (List.mem_append_right _ (List.mem_append_right _ (List.mem_append_right _ (List.mem_append_right _ (List.mem_append_right _ (List.mem_append_right _ (List.mem_append_right _ (List.mem_append_right _ (List.mem_append_right _ (List.mem_append_right _ (List.mem_append_right _ (List.mem_append_right _ (List.mem_append_right _ (List.mem_append_right _ (List.mem_append_right _ (List.mem_append_right _ (List.mem_append_right _ (List.mem_append_left _ (h))))))))))))))))))))))))))))))))))))))
theorem k_X1_product_fieldLink_RX1_22_SR_Formulas_code_LSR_Code : Cond.fieldLink RX1 22 "StatementRules2$Formulas" "code" "LStatementRules2$Code;" ∈ wzX1_product := List.mem_cons_of_mem _ (List.mem_append_right _ (List.mem_append_right _ (List.mem_append_right _ (List.mem_append_right _ (List.mem_append_right _ (List.mem_append_right _ (List.mem_append_right _ (List.mem_append_right _ (List.mem_append_right _ (List.mem_append_right _ (List.mem_append_left _ (List.mem_of_getElem? (i := 1) rfl))))))))))))
set_option maxHeartbeats 4000000 in
set_option maxRecDepth 100000 in
theorem j_X1_product_6 {p : Program} {e : Env} {s : State} {m : MethodId} {args : Array Value} {below : List Frame} {meth : Method} {c : Code} {A : Nat → Prop} (l : Launch) (dC : Nat → ClassId) (dI : Nat → Nat → Nat) (Q : CQ) (N : Nat) (d : Nat) (E1 : CS → Option (Unit × CS)) (E2 : CS → Option (Int32 × CS)) (hE1 : cMF l dC dI Q d E1) (hE2 : cMO l dC dI Q d E2) (hm1 : ∀ σ, Mono (CS.hs σ) (E1 σ)) (hm2 : ∀ σ, Mono (CS.hs σ) (E2 σ)) (z9h : Nat) (R : Unit × CS) (hx : p.tables.exec = Jvm.exec) (hb : c.code = cX1_product) (hr : meth.sig.returnType = none) (hml : c.maxLocals = 3) (hown : s.vm.findClass RX1 = some m.cls) (hts : ∀ w ∈ wzX1_product, w.before args s = true) (hlocks : meth.locks = false) (hZ : zAMB s) (hA : ∀ q : Nat, s.heap.size ≤ q → A q) (hK : va_K (dC, dI) vwCl (cT Q) s) : ∀ (n9 : Nat), ∀ (σ : CS) (x1 : Int32) (H : Heap) (locs : List Loc) (ls : Array Slot), f_X1_product_6 N E1 E2 n9 σ x1 = some R → z9h ≤ CS.hs σ → CP dC dI Q A s.heap σ H locs → lv_has ls 3 [(0, .ref (Q.o 3)), (1, .int x1)] → W p l e ({ frames := (11 + 40 * d), cells := CS.hs R.2 - z9h, slots := 17 * (CS.hs R.2 - z9h), locals := 60 * (11 + 40 * d) }) s m args below meth c H locs (CS.hs σ - z9h) (17 * (CS.hs σ - z9h)) (MQ below (va_Qv (fun (_ : Unit) => True) (fun (_ : Unit) (t : State) => zPost dC dI A (cW Q R.2) (cT Q) t ∧ t.heap.size = CS.hs R.2) A) args s (CS.hs R.2 - z9h) (17 * (CS.hs R.2 - z9h)) A) (F0 m 6 ls []) := by
  intro n9
  induction n9 with
  | zero => intro σ x1 H locs ls hf; exact absurd hf (by intro q9; cases q9)
  | succ n9 ih =>
    intro σ x1 H locs ls hf h0 hC hl
    replace hf : b_X1_product_6 N E1 E2 (f_X1_product_6 N E1 E2 n9) σ x1 = some R := hf
    unfold b_X1_product_6 at hf
    have hMK := fun (σ : CS) (x1 : Int32) => m_X1_product_6 N E1 E2 hm1 hm2 n9 σ x1
    refine lv_iload_n hx hb dX1_product_6 rfl (lv_at hl 1 rfl) ?_
    refine lv_sipush (v := 900) hx hb dX1_product_7 (by decide) ?_
    refine lv_icmp_ge (tgt := 97) hx hb dX1_product_10 (by decide) (fun c5 => ?_) (fun c5 => ?_)
    ·
      replace hf := (if_pos c5).symm.trans hf
      obtain rfl := Option.some.inj hf
      exact W.vret hx hb hr (fun t ht hW => ⟨⟨(), rfl, trivial, ⟨by rw [ht]; exact hC.1, va_K.moved hW.alike hK, hC.2.1⟩, by rw [ht]; exact hC.2.2.2⟩, hC.2.2.1.F ht⟩) hC.2.2.1.2.2 dX1_product_97
    ·
      replace hf := (if_neg c5).symm.trans hf
      refine lv_aload_n hx hb dX1_product_13 rfl (lv_at hl 0 rfl) ?_
      refine lv_bipush (v := 42) hx hb dX1_product_14 (by decide) ?_
      obtain ⟨p6, hcp6, hf⟩ := hf_bind hf
      have mo7 : CS.hs σ ≤ CS.hs p6.2 := Mono.go hcp6 (m_X1_found N σ 42)
      have hr9 : CS.hs p6.2 ≤ CS.hs R.2 := Mono.go hf (mono_ite (mono_bind (m_X1_found N p6.2 47) (fun p57 => (mono_ite (mono_bind (m_X1_found N p57.2 37) (fun p108 => (mono_ite (mono_some (Nat.le_refl _)) (mono_bind (m_X1_found N p108.2 42) (fun p113 => (mono_ite (mono_bind (m_X1_found N p113.2 47) (fun p118 => (mono_ite (mono_bind (m_X9_advance N p118.2) (fun p123 => (mono_bind (hm1 p123.2) (fun p127 => (mono_bind (m_X0_add N p127.2 11 0) (fun p131 => (hMK p131.2 (x1 + 1)))))))) (mono_bind (m_X9_advance N p118.2) (fun p135 => (mono_bind (hm1 p135.2) (fun p139 => (mono_bind (m_X0_add N p139.2 10 0) (fun p143 => (hMK p143.2 (x1 + 1))))))))))) (mono_bind (m_X9_advance N p113.2) (fun p147 => (mono_bind (hm1 p147.2) (fun p151 => (mono_bind (m_X0_add N p151.2 9 0) (fun p155 => (hMK p155.2 (x1 + 1)))))))))))))) (mono_bind (m_X1_found N p57.2 42) (fun p62 => (mono_ite (mono_bind (m_X1_found N p62.2 47) (fun p67 => (mono_ite (mono_bind (m_X9_advance N p67.2) (fun p72 => (mono_bind (hm1 p72.2) (fun p76 => (mono_bind (m_X0_add N p76.2 11 0) (fun p80 => (hMK p80.2 (x1 + 1)))))))) (mono_bind (m_X9_advance N p67.2) (fun p84 => (mono_bind (hm1 p84.2) (fun p88 => (mono_bind (m_X0_add N p88.2 10 0) (fun p92 => (hMK p92.2 (x1 + 1))))))))))) (mono_bind (m_X9_advance N p62.2) (fun p96 => (mono_bind (hm1 p96.2) (fun p100 => (mono_bind (m_X0_add N p100.2 9 0) (fun p104 => (hMK p104.2 (x1 + 1)))))))))))))) (mono_bind (m_X1_found N p6.2 42) (fun p11 => (mono_ite (mono_bind (m_X1_found N p11.2 47) (fun p16 => (mono_ite (mono_bind (m_X9_advance N p16.2) (fun p21 => (mono_bind (hm1 p21.2) (fun p25 => (mono_bind (m_X0_add N p25.2 11 0) (fun p29 => (hMK p29.2 (x1 + 1)))))))) (mono_bind (m_X9_advance N p16.2) (fun p33 => (mono_bind (hm1 p33.2) (fun p37 => (mono_bind (m_X0_add N p37.2 10 0) (fun p41 => (hMK p41.2 (x1 + 1))))))))))) (mono_bind (m_X9_advance N p11.2) (fun p45 => (mono_bind (hm1 p45.2) (fun p49 => (mono_bind (m_X0_add N p49.2 9 0) (fun p53 => (hMK p53.2 (x1 + 1))))))))))))
      have hFc := cFree hC hA
      refine va_calli (va_runU (As := [.int 42]) (rest := []) ⟨hx, hb, hml, hown, hts⟩ (c_X1_found l dC dI Q N σ 42 p6 hcp6) (va_cwU 1 hts hX1_product_X1_found_u42 rfl rfl rfl rfl (by decide +kernel) ⟨(show 1 + 1 ≤ (11 + 40 * d) by omega), (show 8 + (2 + 11) + 60 * 1 ≤ 60 * (11 + 40 * d) by omega)⟩) ⟨zPre.blind, va_recv hK hC.1 (ci := 6) (q0 := 3) rfl rfl, cPre_go hZ hK hC⟩ rfl rfl hl.1 rfl (lv_room (Nat.le_of_ble_eq_true rfl)) dX1_product_16 (cAcc h0 mo7 hr9)) hC.2.2.1 (fun q _ h => hFc q h) hFc (fun r8 u9 t9 H1 locs ht hvm hw hB hz1 hk1 hS => ?_)
      obtain ⟨⟨hP, hK1, hD1⟩, hsz1⟩ := hB
      rw [ht] at hP hsz1
      have hC : CP dC dI Q A s.heap p6.2 H1 locs := ⟨hP, hD1.weaken (fun _ _ _ h => hFc _ h), hS, hsz1⟩
      generalize H1 = H at hC ⊢
      have h9 : z9h ≤ CS.hs p6.2 := Nat.le_trans h0 mo7
      refine W.widen (k := CS.hs p6.2 - z9h) (n := 17 * (CS.hs p6.2 - z9h)) (cAcc2 h0 mo7) (cAcc3 h0 mo7) ?_
      obtain rfl : r8 = p6.1 := hw
      refine lv_if_ne (tgt := 40) hx hb dX1_product_19 (by decide) (fun c10 => ?_) (fun c10 => ?_)
      ·
        replace hf := (if_neg c10).symm.trans hf
        refine lv_aload_n hx hb dX1_product_40 rfl (lv_at hl 0 rfl) ?_
        refine lv_bipush (v := 42) hx hb dX1_product_41 (by decide) ?_
        obtain ⟨p11, hcp11, hf⟩ := hf_bind hf
        have mo12 : CS.hs p6.2 ≤ CS.hs p11.2 := Mono.go hcp11 (m_X1_found N p6.2 42)
        have hr9 : CS.hs p11.2 ≤ CS.hs R.2 := Mono.go hf (mono_ite (mono_bind (m_X1_found N p11.2 47) (fun p16 => (mono_ite (mono_bind (m_X9_advance N p16.2) (fun p21 => (mono_bind (hm1 p21.2) (fun p25 => (mono_bind (m_X0_add N p25.2 11 0) (fun p29 => (hMK p29.2 (x1 + 1)))))))) (mono_bind (m_X9_advance N p16.2) (fun p33 => (mono_bind (hm1 p33.2) (fun p37 => (mono_bind (m_X0_add N p37.2 10 0) (fun p41 => (hMK p41.2 (x1 + 1))))))))))) (mono_bind (m_X9_advance N p11.2) (fun p45 => (mono_bind (hm1 p45.2) (fun p49 => (mono_bind (m_X0_add N p49.2 9 0) (fun p53 => (hMK p53.2 (x1 + 1)))))))))
        have hFc := cFree hC hA
        refine va_calli (va_runU (As := [.int 42]) (rest := []) ⟨hx, hb, hml, hown, hts⟩ (c_X1_found l dC dI Q N p6.2 42 p11 hcp11) (va_cwU 1 hts hX1_product_X1_found_u42 rfl rfl rfl rfl (by decide +kernel) ⟨(show 1 + 1 ≤ (11 + 40 * d) by omega), (show 8 + (2 + 11) + 60 * 1 ≤ 60 * (11 + 40 * d) by omega)⟩) ⟨zPre.blind, va_recv hK hC.1 (ci := 6) (q0 := 3) rfl rfl, cPre_go hZ hK hC⟩ rfl rfl hl.1 rfl (lv_room (Nat.le_of_ble_eq_true rfl)) dX1_product_43 (cAcc h9 mo12 hr9)) hC.2.2.1 (fun q _ h => hFc q h) hFc (fun r13 u9 t9 H1 locs ht hvm hw hB hz1 hk1 hS => ?_)
        obtain ⟨⟨hP, hK1, hD1⟩, hsz1⟩ := hB
        rw [ht] at hP hsz1
        have hC : CP dC dI Q A s.heap p11.2 H1 locs := ⟨hP, hD1.weaken (fun _ _ _ h => hFc _ h), hS, hsz1⟩
        generalize H1 = H at hC ⊢
        have h14 : z9h ≤ CS.hs p11.2 := Nat.le_trans h9 mo12
        refine W.widen (k := CS.hs p11.2 - z9h) (n := 17 * (CS.hs p11.2 - z9h)) (cAcc2 h9 mo12) (cAcc3 h9 mo12) ?_
        obtain rfl : r13 = p11.1 := hw
        refine lv_if_eq (tgt := 54) hx hb dX1_product_46 (by decide) (fun c15 => ?_) (fun c15 => ?_)
        ·
          replace hf := (if_pos c15).symm.trans hf
          refine lv_aload_n hx hb dX1_product_54 rfl (lv_at hl 0 rfl) ?_
          refine lv_bipush (v := 47) hx hb dX1_product_55 (by decide) ?_
          obtain ⟨p16, hcp16, hf⟩ := hf_bind hf
          have mo17 : CS.hs p11.2 ≤ CS.hs p16.2 := Mono.go hcp16 (m_X1_found N p11.2 47)
          have hr9 : CS.hs p16.2 ≤ CS.hs R.2 := Mono.go hf (mono_ite (mono_bind (m_X9_advance N p16.2) (fun p21 => (mono_bind (hm1 p21.2) (fun p25 => (mono_bind (m_X0_add N p25.2 11 0) (fun p29 => (hMK p29.2 (x1 + 1)))))))) (mono_bind (m_X9_advance N p16.2) (fun p33 => (mono_bind (hm1 p33.2) (fun p37 => (mono_bind (m_X0_add N p37.2 10 0) (fun p41 => (hMK p41.2 (x1 + 1)))))))))
          have hFc := cFree hC hA
          refine va_calli (va_runU (As := [.int 47]) (rest := []) ⟨hx, hb, hml, hown, hts⟩ (c_X1_found l dC dI Q N p11.2 47 p16 hcp16) (va_cwU 1 hts hX1_product_X1_found_u42 rfl rfl rfl rfl (by decide +kernel) ⟨(show 1 + 1 ≤ (11 + 40 * d) by omega), (show 8 + (2 + 11) + 60 * 1 ≤ 60 * (11 + 40 * d) by omega)⟩) ⟨zPre.blind, va_recv hK hC.1 (ci := 6) (q0 := 3) rfl rfl, cPre_go hZ hK hC⟩ rfl rfl hl.1 rfl (lv_room (Nat.le_of_ble_eq_true rfl)) dX1_product_57 (cAcc h14 mo17 hr9)) hC.2.2.1 (fun q _ h => hFc q h) hFc (fun r18 u9 t9 H1 locs ht hvm hw hB hz1 hk1 hS => ?_)
          obtain ⟨⟨hP, hK1, hD1⟩, hsz1⟩ := hB
          rw [ht] at hP hsz1
          have hC : CP dC dI Q A s.heap p16.2 H1 locs := ⟨hP, hD1.weaken (fun _ _ _ h => hFc _ h), hS, hsz1⟩
          generalize H1 = H at hC ⊢
          have h19 : z9h ≤ CS.hs p16.2 := Nat.le_trans h14 mo17
          refine W.widen (k := CS.hs p16.2 - z9h) (n := 17 * (CS.hs p16.2 - z9h)) (cAcc2 h14 mo17) (cAcc3 h14 mo17) ?_
          obtain rfl : r18 = p16.1 := hw
          refine lv_if_eq (tgt := 68) hx hb dX1_product_60 (by decide) (fun c20 => ?_) (fun c20 => ?_)
          ·
            replace hf := (if_pos c20).symm.trans hf
            refine lv_bipush (v := 11) hx hb dX1_product_68 (by decide) ?_
            refine lv_istore_n (lv' := [(2, .int 11), (0, .ref (Q.o 3)), (1, .int x1)]) hx hb dX1_product_70 rfl hl (by decide) rfl (fun ls hl => ?_)
            refine lv_aload_n hx hb dX1_product_71 rfl (lv_at hl 1 rfl) ?_
            refine cG_28 hx hb hts i_X1_product_X7 hown hK hC (hts (.fieldLink RX1 18 "StatementRules2$Formulas" "tokens" "LStatementRules2$Tokens;") k_X1_product_fieldLink_RX1_18_SR_Formulas_tokens_LSR_Tokens) (fun _ q9 => q9) dX1_product_72 ?_
            obtain ⟨p21, hcp21, hf⟩ := hf_bind hf
            have mo22 : CS.hs p16.2 ≤ CS.hs p21.2 := Mono.go hcp21 (m_X9_advance N p16.2)
            have hr9 : CS.hs p21.2 ≤ CS.hs R.2 := Mono.go hf (mono_bind (hm1 p21.2) (fun p25 => (mono_bind (m_X0_add N p25.2 11 0) (fun p29 => (hMK p29.2 (x1 + 1))))))
            have hFc := cFree hC hA
            refine va_callv (va_runV (As := []) (rest := []) ⟨hx, hb, hml, hown, hts⟩ (c_X9_advance l dC dI Q N p16.2 p21 hcp21) (cwV 0 hts hX1_product_X9_advance_v56 rfl rfl rfl (by decide +kernel) ⟨(show 3 + 1 ≤ (11 + 40 * d) by omega), (show 8 + (2 + 11) + 60 * 3 ≤ 60 * (11 + 40 * d) by omega)⟩) ⟨zPre.blind, va_recv hK hC.1 (ci := 8) (q0 := 4) rfl rfl, cPre_go hZ hK hC⟩ rfl rfl hl.1 rfl (lv_room (Nat.le_of_ble_eq_true rfl)) dX1_product_75 (cAcc h19 mo22 hr9)) hC.2.2.1 (fun q _ h => hFc q h) hFc (fun u9 t9 H1 locs ht hvm hw hB hz1 hk1 hS => ?_)
            obtain ⟨⟨hP, hK1, hD1⟩, hsz1⟩ := hB
            rw [ht] at hP hsz1
            have hC : CP dC dI Q A s.heap p21.2 H1 locs := ⟨hP, hD1.weaken (fun _ _ _ h => hFc _ h), hS, hsz1⟩
            generalize H1 = H at hC ⊢
            have h24 : z9h ≤ CS.hs p21.2 := Nat.le_trans h19 mo22
            refine W.widen (k := CS.hs p21.2 - z9h) (n := 17 * (CS.hs p21.2 - z9h)) (cAcc2 h19 mo22) (cAcc3 h19 mo22) ?_
            refine lv_aload_n hx hb dX1_product_78 rfl (lv_at hl 1 rfl) ?_
            obtain ⟨p25, hcp25, hf⟩ := hf_bind hf
            have mo26 : CS.hs p21.2 ≤ CS.hs p25.2 := Mono.go hcp25 (hm1 p21.2)
            have hr9 : CS.hs p25.2 ≤ CS.hs R.2 := Mono.go hf (mono_bind (m_X0_add N p25.2 11 0) (fun p29 => (hMK p29.2 (x1 + 1))))
            have hFc := cFree hC hA
            refine va_callv (va_runU (As := []) (rest := []) ⟨hx, hb, hml, hown, hts⟩ (hE1 p21.2 p25 hcp25) (va_cwU 0 hts hX1_product_X1_factor_u73 rfl rfl rfl rfl (by decide +kernel) ⟨(show (10 + 40 * d) + 1 ≤ (11 + 40 * d) by omega), (show 8 + (1 + 11) + 60 * (10 + 40 * d) ≤ 60 * (11 + 40 * d) by omega)⟩) ⟨zPre.blind, va_recv hK hC.1 (ci := 6) (q0 := 3) rfl rfl, cPre_go hZ hK hC⟩ rfl rfl hl.1 rfl (lv_room (Nat.le_of_ble_eq_true rfl)) dX1_product_79 (cAcc h24 mo26 hr9)) hC.2.2.1 (fun q _ h => hFc q h) hFc (fun u9 t9 H1 locs ht hvm hw hB hz1 hk1 hS => ?_)
            obtain ⟨⟨hP, hK1, hD1⟩, hsz1⟩ := hB
            rw [ht] at hP hsz1
            have hC : CP dC dI Q A s.heap p25.2 H1 locs := ⟨hP, hD1.weaken (fun _ _ _ h => hFc _ h), hS, hsz1⟩
            generalize H1 = H at hC ⊢
            have h28 : z9h ≤ CS.hs p25.2 := Nat.le_trans h24 mo26
            refine W.widen (k := CS.hs p25.2 - z9h) (n := 17 * (CS.hs p25.2 - z9h)) (cAcc2 h24 mo26) (cAcc3 h24 mo26) ?_
            refine lv_aload_n hx hb dX1_product_82 rfl (lv_at hl 1 rfl) ?_
            refine cG_29 hx hb hts i_X1_product_X7 hown hK hC (hts (.fieldLink RX1 22 "StatementRules2$Formulas" "code" "LStatementRules2$Code;") k_X1_product_fieldLink_RX1_22_SR_Formulas_code_LSR_Code) (fun _ q9 => q9) dX1_product_83 ?_
            refine lv_iload_n hx hb dX1_product_86 rfl (lv_at hl 0 rfl) ?_
            refine lv_iconst (v := 0) hx hb dX1_product_87 (by decide) ?_
            obtain ⟨p29, hcp29, hf⟩ := hf_bind hf
            have mo30 : CS.hs p25.2 ≤ CS.hs p29.2 := Mono.go hcp29 (m_X0_add N p25.2 11 0)
            have hr9 : CS.hs p29.2 ≤ CS.hs R.2 := Mono.go hf (hMK p29.2 (x1 + 1))
            have hFc := cFree hC hA
            refine va_callv (va_runV (As := [.int 11, .int 0]) (rest := []) ⟨hx, hb, hml, hown, hts⟩ (c_X0_add l dC dI Q N p25.2 11 0 p29 hcp29) (cwV 2 hts hX1_product_X0_add_v68 rfl rfl rfl (by decide +kernel) ⟨(show 2 + 1 ≤ (11 + 40 * d) by omega), (show 8 + (3 + 11) + 60 * 2 ≤ 60 * (11 + 40 * d) by omega)⟩) ⟨zPre.blind, va_recv hK hC.1 (ci := 0) (q0 := 2) rfl rfl, cPre_go hZ hK hC⟩ rfl rfl hl.1 rfl (lv_room (Nat.le_of_ble_eq_true rfl)) dX1_product_88 (cAcc h28 mo30 hr9)) hC.2.2.1 (fun q _ h => hFc q h) hFc (fun u9 t9 H1 locs ht hvm hw hB hz1 hk1 hS => ?_)
            obtain ⟨⟨hP, hK1, hD1⟩, hsz1⟩ := hB
            rw [ht] at hP hsz1
            have hC : CP dC dI Q A s.heap p29.2 H1 locs := ⟨hP, hD1.weaken (fun _ _ _ h => hFc _ h), hS, hsz1⟩
            generalize H1 = H at hC ⊢
            have h32 : z9h ≤ CS.hs p29.2 := Nat.le_trans h28 mo30
            refine W.widen (k := CS.hs p29.2 - z9h) (n := 17 * (CS.hs p29.2 - z9h)) (cAcc2 h28 mo30) (cAcc3 h28 mo30) ?_
            refine lv_iinc (v := (x1 + 1)) (lv' := [(1, .int (x1 + 1)), (2, .int 11), (0, .ref (Q.o 3))]) hx hb dX1_product_91 hl (k := 2) rfl rfl (by decide) rfl (fun ls hl => ?_)
            refine lv_goto (tgt := 6) hx hb dX1_product_94 (by decide) ?_
            exact ih p29.2 (x1 + 1) _ _ _ hf h32 hC (lv_sub hl [2, 0] rfl)
          ·
            replace hf := (if_neg c20).symm.trans hf
            refine lv_bipush (v := 10) hx hb dX1_product_63 (by decide) ?_
            refine lv_goto (tgt := 70) hx hb dX1_product_65 (by decide) ?_
            refine lv_istore_n (lv' := [(2, .int 10), (0, .ref (Q.o 3)), (1, .int x1)]) hx hb dX1_product_70 rfl hl (by decide) rfl (fun ls hl => ?_)
            refine lv_aload_n hx hb dX1_product_71 rfl (lv_at hl 1 rfl) ?_
            refine cG_28 hx hb hts i_X1_product_X7 hown hK hC (hts (.fieldLink RX1 18 "StatementRules2$Formulas" "tokens" "LStatementRules2$Tokens;") k_X1_product_fieldLink_RX1_18_SR_Formulas_tokens_LSR_Tokens) (fun _ q9 => q9) dX1_product_72 ?_
            obtain ⟨p33, hcp33, hf⟩ := hf_bind hf
            have mo34 : CS.hs p16.2 ≤ CS.hs p33.2 := Mono.go hcp33 (m_X9_advance N p16.2)
            have hr9 : CS.hs p33.2 ≤ CS.hs R.2 := Mono.go hf (mono_bind (hm1 p33.2) (fun p37 => (mono_bind (m_X0_add N p37.2 10 0) (fun p41 => (hMK p41.2 (x1 + 1))))))
            have hFc := cFree hC hA
            refine va_callv (va_runV (As := []) (rest := []) ⟨hx, hb, hml, hown, hts⟩ (c_X9_advance l dC dI Q N p16.2 p33 hcp33) (cwV 0 hts hX1_product_X9_advance_v56 rfl rfl rfl (by decide +kernel) ⟨(show 3 + 1 ≤ (11 + 40 * d) by omega), (show 8 + (2 + 11) + 60 * 3 ≤ 60 * (11 + 40 * d) by omega)⟩) ⟨zPre.blind, va_recv hK hC.1 (ci := 8) (q0 := 4) rfl rfl, cPre_go hZ hK hC⟩ rfl rfl hl.1 rfl (lv_room (Nat.le_of_ble_eq_true rfl)) dX1_product_75 (cAcc h19 mo34 hr9)) hC.2.2.1 (fun q _ h => hFc q h) hFc (fun u9 t9 H1 locs ht hvm hw hB hz1 hk1 hS => ?_)
            obtain ⟨⟨hP, hK1, hD1⟩, hsz1⟩ := hB
            rw [ht] at hP hsz1
            have hC : CP dC dI Q A s.heap p33.2 H1 locs := ⟨hP, hD1.weaken (fun _ _ _ h => hFc _ h), hS, hsz1⟩
            generalize H1 = H at hC ⊢
            have h36 : z9h ≤ CS.hs p33.2 := Nat.le_trans h19 mo34
            refine W.widen (k := CS.hs p33.2 - z9h) (n := 17 * (CS.hs p33.2 - z9h)) (cAcc2 h19 mo34) (cAcc3 h19 mo34) ?_
            refine lv_aload_n hx hb dX1_product_78 rfl (lv_at hl 1 rfl) ?_
            obtain ⟨p37, hcp37, hf⟩ := hf_bind hf
            have mo38 : CS.hs p33.2 ≤ CS.hs p37.2 := Mono.go hcp37 (hm1 p33.2)
            have hr9 : CS.hs p37.2 ≤ CS.hs R.2 := Mono.go hf (mono_bind (m_X0_add N p37.2 10 0) (fun p41 => (hMK p41.2 (x1 + 1))))
            have hFc := cFree hC hA
            refine va_callv (va_runU (As := []) (rest := []) ⟨hx, hb, hml, hown, hts⟩ (hE1 p33.2 p37 hcp37) (va_cwU 0 hts hX1_product_X1_factor_u73 rfl rfl rfl rfl (by decide +kernel) ⟨(show (10 + 40 * d) + 1 ≤ (11 + 40 * d) by omega), (show 8 + (1 + 11) + 60 * (10 + 40 * d) ≤ 60 * (11 + 40 * d) by omega)⟩) ⟨zPre.blind, va_recv hK hC.1 (ci := 6) (q0 := 3) rfl rfl, cPre_go hZ hK hC⟩ rfl rfl hl.1 rfl (lv_room (Nat.le_of_ble_eq_true rfl)) dX1_product_79 (cAcc h36 mo38 hr9)) hC.2.2.1 (fun q _ h => hFc q h) hFc (fun u9 t9 H1 locs ht hvm hw hB hz1 hk1 hS => ?_)
            obtain ⟨⟨hP, hK1, hD1⟩, hsz1⟩ := hB
            rw [ht] at hP hsz1
            have hC : CP dC dI Q A s.heap p37.2 H1 locs := ⟨hP, hD1.weaken (fun _ _ _ h => hFc _ h), hS, hsz1⟩
            generalize H1 = H at hC ⊢
            have h40 : z9h ≤ CS.hs p37.2 := Nat.le_trans h36 mo38
            refine W.widen (k := CS.hs p37.2 - z9h) (n := 17 * (CS.hs p37.2 - z9h)) (cAcc2 h36 mo38) (cAcc3 h36 mo38) ?_
            refine lv_aload_n hx hb dX1_product_82 rfl (lv_at hl 1 rfl) ?_
            refine cG_29 hx hb hts i_X1_product_X7 hown hK hC (hts (.fieldLink RX1 22 "StatementRules2$Formulas" "code" "LStatementRules2$Code;") k_X1_product_fieldLink_RX1_22_SR_Formulas_code_LSR_Code) (fun _ q9 => q9) dX1_product_83 ?_
            refine lv_iload_n hx hb dX1_product_86 rfl (lv_at hl 0 rfl) ?_
            refine lv_iconst (v := 0) hx hb dX1_product_87 (by decide) ?_
            obtain ⟨p41, hcp41, hf⟩ := hf_bind hf
            have mo42 : CS.hs p37.2 ≤ CS.hs p41.2 := Mono.go hcp41 (m_X0_add N p37.2 10 0)
            have hr9 : CS.hs p41.2 ≤ CS.hs R.2 := Mono.go hf (hMK p41.2 (x1 + 1))
            have hFc := cFree hC hA
            refine va_callv (va_runV (As := [.int 10, .int 0]) (rest := []) ⟨hx, hb, hml, hown, hts⟩ (c_X0_add l dC dI Q N p37.2 10 0 p41 hcp41) (cwV 2 hts hX1_product_X0_add_v68 rfl rfl rfl (by decide +kernel) ⟨(show 2 + 1 ≤ (11 + 40 * d) by omega), (show 8 + (3 + 11) + 60 * 2 ≤ 60 * (11 + 40 * d) by omega)⟩) ⟨zPre.blind, va_recv hK hC.1 (ci := 0) (q0 := 2) rfl rfl, cPre_go hZ hK hC⟩ rfl rfl hl.1 rfl (lv_room (Nat.le_of_ble_eq_true rfl)) dX1_product_88 (cAcc h40 mo42 hr9)) hC.2.2.1 (fun q _ h => hFc q h) hFc (fun u9 t9 H1 locs ht hvm hw hB hz1 hk1 hS => ?_)
            obtain ⟨⟨hP, hK1, hD1⟩, hsz1⟩ := hB
            rw [ht] at hP hsz1
            have hC : CP dC dI Q A s.heap p41.2 H1 locs := ⟨hP, hD1.weaken (fun _ _ _ h => hFc _ h), hS, hsz1⟩
            generalize H1 = H at hC ⊢
            have h44 : z9h ≤ CS.hs p41.2 := Nat.le_trans h40 mo42
            refine W.widen (k := CS.hs p41.2 - z9h) (n := 17 * (CS.hs p41.2 - z9h)) (cAcc2 h40 mo42) (cAcc3 h40 mo42) ?_
            refine lv_iinc (v := (x1 + 1)) (lv' := [(1, .int (x1 + 1)), (2, .int 10), (0, .ref (Q.o 3))]) hx hb dX1_product_91 hl (k := 2) rfl rfl (by decide) rfl (fun ls hl => ?_)
            refine lv_goto (tgt := 6) hx hb dX1_product_94 (by decide) ?_
            exact ih p41.2 (x1 + 1) _ _ _ hf h44 hC (lv_sub hl [2, 0] rfl)
        ·
          replace hf := (if_neg c15).symm.trans hf
          refine lv_bipush (v := 9) hx hb dX1_product_49 (by decide) ?_
          refine lv_goto (tgt := 70) hx hb dX1_product_51 (by decide) ?_
          refine lv_istore_n (lv' := [(2, .int 9), (0, .ref (Q.o 3)), (1, .int x1)]) hx hb dX1_product_70 rfl hl (by decide) rfl (fun ls hl => ?_)
          refine lv_aload_n hx hb dX1_product_71 rfl (lv_at hl 1 rfl) ?_
          refine cG_28 hx hb hts i_X1_product_X7 hown hK hC (hts (.fieldLink RX1 18 "StatementRules2$Formulas" "tokens" "LStatementRules2$Tokens;") k_X1_product_fieldLink_RX1_18_SR_Formulas_tokens_LSR_Tokens) (fun _ q9 => q9) dX1_product_72 ?_
          obtain ⟨p45, hcp45, hf⟩ := hf_bind hf
          have mo46 : CS.hs p11.2 ≤ CS.hs p45.2 := Mono.go hcp45 (m_X9_advance N p11.2)
          have hr9 : CS.hs p45.2 ≤ CS.hs R.2 := Mono.go hf (mono_bind (hm1 p45.2) (fun p49 => (mono_bind (m_X0_add N p49.2 9 0) (fun p53 => (hMK p53.2 (x1 + 1))))))
          have hFc := cFree hC hA
          refine va_callv (va_runV (As := []) (rest := []) ⟨hx, hb, hml, hown, hts⟩ (c_X9_advance l dC dI Q N p11.2 p45 hcp45) (cwV 0 hts hX1_product_X9_advance_v56 rfl rfl rfl (by decide +kernel) ⟨(show 3 + 1 ≤ (11 + 40 * d) by omega), (show 8 + (2 + 11) + 60 * 3 ≤ 60 * (11 + 40 * d) by omega)⟩) ⟨zPre.blind, va_recv hK hC.1 (ci := 8) (q0 := 4) rfl rfl, cPre_go hZ hK hC⟩ rfl rfl hl.1 rfl (lv_room (Nat.le_of_ble_eq_true rfl)) dX1_product_75 (cAcc h14 mo46 hr9)) hC.2.2.1 (fun q _ h => hFc q h) hFc (fun u9 t9 H1 locs ht hvm hw hB hz1 hk1 hS => ?_)
          obtain ⟨⟨hP, hK1, hD1⟩, hsz1⟩ := hB
          rw [ht] at hP hsz1
          have hC : CP dC dI Q A s.heap p45.2 H1 locs := ⟨hP, hD1.weaken (fun _ _ _ h => hFc _ h), hS, hsz1⟩
          generalize H1 = H at hC ⊢
          have h48 : z9h ≤ CS.hs p45.2 := Nat.le_trans h14 mo46
          refine W.widen (k := CS.hs p45.2 - z9h) (n := 17 * (CS.hs p45.2 - z9h)) (cAcc2 h14 mo46) (cAcc3 h14 mo46) ?_
          refine lv_aload_n hx hb dX1_product_78 rfl (lv_at hl 1 rfl) ?_
          obtain ⟨p49, hcp49, hf⟩ := hf_bind hf
          have mo50 : CS.hs p45.2 ≤ CS.hs p49.2 := Mono.go hcp49 (hm1 p45.2)
          have hr9 : CS.hs p49.2 ≤ CS.hs R.2 := Mono.go hf (mono_bind (m_X0_add N p49.2 9 0) (fun p53 => (hMK p53.2 (x1 + 1))))
          have hFc := cFree hC hA
          refine va_callv (va_runU (As := []) (rest := []) ⟨hx, hb, hml, hown, hts⟩ (hE1 p45.2 p49 hcp49) (va_cwU 0 hts hX1_product_X1_factor_u73 rfl rfl rfl rfl (by decide +kernel) ⟨(show (10 + 40 * d) + 1 ≤ (11 + 40 * d) by omega), (show 8 + (1 + 11) + 60 * (10 + 40 * d) ≤ 60 * (11 + 40 * d) by omega)⟩) ⟨zPre.blind, va_recv hK hC.1 (ci := 6) (q0 := 3) rfl rfl, cPre_go hZ hK hC⟩ rfl rfl hl.1 rfl (lv_room (Nat.le_of_ble_eq_true rfl)) dX1_product_79 (cAcc h48 mo50 hr9)) hC.2.2.1 (fun q _ h => hFc q h) hFc (fun u9 t9 H1 locs ht hvm hw hB hz1 hk1 hS => ?_)
          obtain ⟨⟨hP, hK1, hD1⟩, hsz1⟩ := hB
          rw [ht] at hP hsz1
          have hC : CP dC dI Q A s.heap p49.2 H1 locs := ⟨hP, hD1.weaken (fun _ _ _ h => hFc _ h), hS, hsz1⟩
          generalize H1 = H at hC ⊢
          have h52 : z9h ≤ CS.hs p49.2 := Nat.le_trans h48 mo50
          refine W.widen (k := CS.hs p49.2 - z9h) (n := 17 * (CS.hs p49.2 - z9h)) (cAcc2 h48 mo50) (cAcc3 h48 mo50) ?_
          refine lv_aload_n hx hb dX1_product_82 rfl (lv_at hl 1 rfl) ?_
          refine cG_29 hx hb hts i_X1_product_X7 hown hK hC (hts (.fieldLink RX1 22 "StatementRules2$Formulas" "code" "LStatementRules2$Code;") k_X1_product_fieldLink_RX1_22_SR_Formulas_code_LSR_Code) (fun _ q9 => q9) dX1_product_83 ?_
          refine lv_iload_n hx hb dX1_product_86 rfl (lv_at hl 0 rfl) ?_
          refine lv_iconst (v := 0) hx hb dX1_product_87 (by decide) ?_
          obtain ⟨p53, hcp53, hf⟩ := hf_bind hf
          have mo54 : CS.hs p49.2 ≤ CS.hs p53.2 := Mono.go hcp53 (m_X0_add N p49.2 9 0)
          have hr9 : CS.hs p53.2 ≤ CS.hs R.2 := Mono.go hf (hMK p53.2 (x1 + 1))
          have hFc := cFree hC hA
          refine va_callv (va_runV (As := [.int 9, .int 0]) (rest := []) ⟨hx, hb, hml, hown, hts⟩ (c_X0_add l dC dI Q N p49.2 9 0 p53 hcp53) (cwV 2 hts hX1_product_X0_add_v68 rfl rfl rfl (by decide +kernel) ⟨(show 2 + 1 ≤ (11 + 40 * d) by omega), (show 8 + (3 + 11) + 60 * 2 ≤ 60 * (11 + 40 * d) by omega)⟩) ⟨zPre.blind, va_recv hK hC.1 (ci := 0) (q0 := 2) rfl rfl, cPre_go hZ hK hC⟩ rfl rfl hl.1 rfl (lv_room (Nat.le_of_ble_eq_true rfl)) dX1_product_88 (cAcc h52 mo54 hr9)) hC.2.2.1 (fun q _ h => hFc q h) hFc (fun u9 t9 H1 locs ht hvm hw hB hz1 hk1 hS => ?_)
          obtain ⟨⟨hP, hK1, hD1⟩, hsz1⟩ := hB
          rw [ht] at hP hsz1
          have hC : CP dC dI Q A s.heap p53.2 H1 locs := ⟨hP, hD1.weaken (fun _ _ _ h => hFc _ h), hS, hsz1⟩
          generalize H1 = H at hC ⊢
          have h56 : z9h ≤ CS.hs p53.2 := Nat.le_trans h52 mo54
          refine W.widen (k := CS.hs p53.2 - z9h) (n := 17 * (CS.hs p53.2 - z9h)) (cAcc2 h52 mo54) (cAcc3 h52 mo54) ?_
          refine lv_iinc (v := (x1 + 1)) (lv' := [(1, .int (x1 + 1)), (2, .int 9), (0, .ref (Q.o 3))]) hx hb dX1_product_91 hl (k := 2) rfl rfl (by decide) rfl (fun ls hl => ?_)
          refine lv_goto (tgt := 6) hx hb dX1_product_94 (by decide) ?_
          exact ih p53.2 (x1 + 1) _ _ _ hf h56 hC (lv_sub hl [2, 0] rfl)
      ·
        replace hf := (if_pos c10).symm.trans hf
        refine lv_aload_n hx hb dX1_product_22 rfl (lv_at hl 0 rfl) ?_
        refine lv_bipush (v := 47) hx hb dX1_product_23 (by decide) ?_
        obtain ⟨p57, hcp57, hf⟩ := hf_bind hf
        have mo58 : CS.hs p6.2 ≤ CS.hs p57.2 := Mono.go hcp57 (m_X1_found N p6.2 47)
        have hr9 : CS.hs p57.2 ≤ CS.hs R.2 := Mono.go hf (mono_ite (mono_bind (m_X1_found N p57.2 37) (fun p108 => (mono_ite (mono_some (Nat.le_refl _)) (mono_bind (m_X1_found N p108.2 42) (fun p113 => (mono_ite (mono_bind (m_X1_found N p113.2 47) (fun p118 => (mono_ite (mono_bind (m_X9_advance N p118.2) (fun p123 => (mono_bind (hm1 p123.2) (fun p127 => (mono_bind (m_X0_add N p127.2 11 0) (fun p131 => (hMK p131.2 (x1 + 1)))))))) (mono_bind (m_X9_advance N p118.2) (fun p135 => (mono_bind (hm1 p135.2) (fun p139 => (mono_bind (m_X0_add N p139.2 10 0) (fun p143 => (hMK p143.2 (x1 + 1))))))))))) (mono_bind (m_X9_advance N p113.2) (fun p147 => (mono_bind (hm1 p147.2) (fun p151 => (mono_bind (m_X0_add N p151.2 9 0) (fun p155 => (hMK p155.2 (x1 + 1)))))))))))))) (mono_bind (m_X1_found N p57.2 42) (fun p62 => (mono_ite (mono_bind (m_X1_found N p62.2 47) (fun p67 => (mono_ite (mono_bind (m_X9_advance N p67.2) (fun p72 => (mono_bind (hm1 p72.2) (fun p76 => (mono_bind (m_X0_add N p76.2 11 0) (fun p80 => (hMK p80.2 (x1 + 1)))))))) (mono_bind (m_X9_advance N p67.2) (fun p84 => (mono_bind (hm1 p84.2) (fun p88 => (mono_bind (m_X0_add N p88.2 10 0) (fun p92 => (hMK p92.2 (x1 + 1))))))))))) (mono_bind (m_X9_advance N p62.2) (fun p96 => (mono_bind (hm1 p96.2) (fun p100 => (mono_bind (m_X0_add N p100.2 9 0) (fun p104 => (hMK p104.2 (x1 + 1))))))))))))
        have hFc := cFree hC hA
        refine va_calli (va_runU (As := [.int 47]) (rest := []) ⟨hx, hb, hml, hown, hts⟩ (c_X1_found l dC dI Q N p6.2 47 p57 hcp57) (va_cwU 1 hts hX1_product_X1_found_u42 rfl rfl rfl rfl (by decide +kernel) ⟨(show 1 + 1 ≤ (11 + 40 * d) by omega), (show 8 + (2 + 11) + 60 * 1 ≤ 60 * (11 + 40 * d) by omega)⟩) ⟨zPre.blind, va_recv hK hC.1 (ci := 6) (q0 := 3) rfl rfl, cPre_go hZ hK hC⟩ rfl rfl hl.1 rfl (lv_room (Nat.le_of_ble_eq_true rfl)) dX1_product_25 (cAcc h9 mo58 hr9)) hC.2.2.1 (fun q _ h => hFc q h) hFc (fun r59 u9 t9 H1 locs ht hvm hw hB hz1 hk1 hS => ?_)
        obtain ⟨⟨hP, hK1, hD1⟩, hsz1⟩ := hB
        rw [ht] at hP hsz1
        have hC : CP dC dI Q A s.heap p57.2 H1 locs := ⟨hP, hD1.weaken (fun _ _ _ h => hFc _ h), hS, hsz1⟩
        generalize H1 = H at hC ⊢
        have h60 : z9h ≤ CS.hs p57.2 := Nat.le_trans h9 mo58
        refine W.widen (k := CS.hs p57.2 - z9h) (n := 17 * (CS.hs p57.2 - z9h)) (cAcc2 h9 mo58) (cAcc3 h9 mo58) ?_
        obtain rfl : r59 = p57.1 := hw
        refine lv_if_ne (tgt := 40) hx hb dX1_product_28 (by decide) (fun c61 => ?_) (fun c61 => ?_)
        ·
          replace hf := (if_neg c61).symm.trans hf
          refine lv_aload_n hx hb dX1_product_40 rfl (lv_at hl 0 rfl) ?_
          refine lv_bipush (v := 42) hx hb dX1_product_41 (by decide) ?_
          obtain ⟨p62, hcp62, hf⟩ := hf_bind hf
          have mo63 : CS.hs p57.2 ≤ CS.hs p62.2 := Mono.go hcp62 (m_X1_found N p57.2 42)
          have hr9 : CS.hs p62.2 ≤ CS.hs R.2 := Mono.go hf (mono_ite (mono_bind (m_X1_found N p62.2 47) (fun p67 => (mono_ite (mono_bind (m_X9_advance N p67.2) (fun p72 => (mono_bind (hm1 p72.2) (fun p76 => (mono_bind (m_X0_add N p76.2 11 0) (fun p80 => (hMK p80.2 (x1 + 1)))))))) (mono_bind (m_X9_advance N p67.2) (fun p84 => (mono_bind (hm1 p84.2) (fun p88 => (mono_bind (m_X0_add N p88.2 10 0) (fun p92 => (hMK p92.2 (x1 + 1))))))))))) (mono_bind (m_X9_advance N p62.2) (fun p96 => (mono_bind (hm1 p96.2) (fun p100 => (mono_bind (m_X0_add N p100.2 9 0) (fun p104 => (hMK p104.2 (x1 + 1)))))))))
          have hFc := cFree hC hA
          refine va_calli (va_runU (As := [.int 42]) (rest := []) ⟨hx, hb, hml, hown, hts⟩ (c_X1_found l dC dI Q N p57.2 42 p62 hcp62) (va_cwU 1 hts hX1_product_X1_found_u42 rfl rfl rfl rfl (by decide +kernel) ⟨(show 1 + 1 ≤ (11 + 40 * d) by omega), (show 8 + (2 + 11) + 60 * 1 ≤ 60 * (11 + 40 * d) by omega)⟩) ⟨zPre.blind, va_recv hK hC.1 (ci := 6) (q0 := 3) rfl rfl, cPre_go hZ hK hC⟩ rfl rfl hl.1 rfl (lv_room (Nat.le_of_ble_eq_true rfl)) dX1_product_43 (cAcc h60 mo63 hr9)) hC.2.2.1 (fun q _ h => hFc q h) hFc (fun r64 u9 t9 H1 locs ht hvm hw hB hz1 hk1 hS => ?_)
          obtain ⟨⟨hP, hK1, hD1⟩, hsz1⟩ := hB
          rw [ht] at hP hsz1
          have hC : CP dC dI Q A s.heap p62.2 H1 locs := ⟨hP, hD1.weaken (fun _ _ _ h => hFc _ h), hS, hsz1⟩
          generalize H1 = H at hC ⊢
          have h65 : z9h ≤ CS.hs p62.2 := Nat.le_trans h60 mo63
          refine W.widen (k := CS.hs p62.2 - z9h) (n := 17 * (CS.hs p62.2 - z9h)) (cAcc2 h60 mo63) (cAcc3 h60 mo63) ?_
          obtain rfl : r64 = p62.1 := hw
          refine lv_if_eq (tgt := 54) hx hb dX1_product_46 (by decide) (fun c66 => ?_) (fun c66 => ?_)
          ·
            replace hf := (if_pos c66).symm.trans hf
            refine lv_aload_n hx hb dX1_product_54 rfl (lv_at hl 0 rfl) ?_
            refine lv_bipush (v := 47) hx hb dX1_product_55 (by decide) ?_
            obtain ⟨p67, hcp67, hf⟩ := hf_bind hf
            have mo68 : CS.hs p62.2 ≤ CS.hs p67.2 := Mono.go hcp67 (m_X1_found N p62.2 47)
            have hr9 : CS.hs p67.2 ≤ CS.hs R.2 := Mono.go hf (mono_ite (mono_bind (m_X9_advance N p67.2) (fun p72 => (mono_bind (hm1 p72.2) (fun p76 => (mono_bind (m_X0_add N p76.2 11 0) (fun p80 => (hMK p80.2 (x1 + 1)))))))) (mono_bind (m_X9_advance N p67.2) (fun p84 => (mono_bind (hm1 p84.2) (fun p88 => (mono_bind (m_X0_add N p88.2 10 0) (fun p92 => (hMK p92.2 (x1 + 1)))))))))
            have hFc := cFree hC hA
            refine va_calli (va_runU (As := [.int 47]) (rest := []) ⟨hx, hb, hml, hown, hts⟩ (c_X1_found l dC dI Q N p62.2 47 p67 hcp67) (va_cwU 1 hts hX1_product_X1_found_u42 rfl rfl rfl rfl (by decide +kernel) ⟨(show 1 + 1 ≤ (11 + 40 * d) by omega), (show 8 + (2 + 11) + 60 * 1 ≤ 60 * (11 + 40 * d) by omega)⟩) ⟨zPre.blind, va_recv hK hC.1 (ci := 6) (q0 := 3) rfl rfl, cPre_go hZ hK hC⟩ rfl rfl hl.1 rfl (lv_room (Nat.le_of_ble_eq_true rfl)) dX1_product_57 (cAcc h65 mo68 hr9)) hC.2.2.1 (fun q _ h => hFc q h) hFc (fun r69 u9 t9 H1 locs ht hvm hw hB hz1 hk1 hS => ?_)
            obtain ⟨⟨hP, hK1, hD1⟩, hsz1⟩ := hB
            rw [ht] at hP hsz1
            have hC : CP dC dI Q A s.heap p67.2 H1 locs := ⟨hP, hD1.weaken (fun _ _ _ h => hFc _ h), hS, hsz1⟩
            generalize H1 = H at hC ⊢
            have h70 : z9h ≤ CS.hs p67.2 := Nat.le_trans h65 mo68
            refine W.widen (k := CS.hs p67.2 - z9h) (n := 17 * (CS.hs p67.2 - z9h)) (cAcc2 h65 mo68) (cAcc3 h65 mo68) ?_
            obtain rfl : r69 = p67.1 := hw
            refine lv_if_eq (tgt := 68) hx hb dX1_product_60 (by decide) (fun c71 => ?_) (fun c71 => ?_)
            ·
              replace hf := (if_pos c71).symm.trans hf
              refine lv_bipush (v := 11) hx hb dX1_product_68 (by decide) ?_
              refine lv_istore_n (lv' := [(2, .int 11), (0, .ref (Q.o 3)), (1, .int x1)]) hx hb dX1_product_70 rfl hl (by decide) rfl (fun ls hl => ?_)
              refine lv_aload_n hx hb dX1_product_71 rfl (lv_at hl 1 rfl) ?_
              refine cG_28 hx hb hts i_X1_product_X7 hown hK hC (hts (.fieldLink RX1 18 "StatementRules2$Formulas" "tokens" "LStatementRules2$Tokens;") k_X1_product_fieldLink_RX1_18_SR_Formulas_tokens_LSR_Tokens) (fun _ q9 => q9) dX1_product_72 ?_
              obtain ⟨p72, hcp72, hf⟩ := hf_bind hf
              have mo73 : CS.hs p67.2 ≤ CS.hs p72.2 := Mono.go hcp72 (m_X9_advance N p67.2)
              have hr9 : CS.hs p72.2 ≤ CS.hs R.2 := Mono.go hf (mono_bind (hm1 p72.2) (fun p76 => (mono_bind (m_X0_add N p76.2 11 0) (fun p80 => (hMK p80.2 (x1 + 1))))))
              have hFc := cFree hC hA
              refine va_callv (va_runV (As := []) (rest := []) ⟨hx, hb, hml, hown, hts⟩ (c_X9_advance l dC dI Q N p67.2 p72 hcp72) (cwV 0 hts hX1_product_X9_advance_v56 rfl rfl rfl (by decide +kernel) ⟨(show 3 + 1 ≤ (11 + 40 * d) by omega), (show 8 + (2 + 11) + 60 * 3 ≤ 60 * (11 + 40 * d) by omega)⟩) ⟨zPre.blind, va_recv hK hC.1 (ci := 8) (q0 := 4) rfl rfl, cPre_go hZ hK hC⟩ rfl rfl hl.1 rfl (lv_room (Nat.le_of_ble_eq_true rfl)) dX1_product_75 (cAcc h70 mo73 hr9)) hC.2.2.1 (fun q _ h => hFc q h) hFc (fun u9 t9 H1 locs ht hvm hw hB hz1 hk1 hS => ?_)
              obtain ⟨⟨hP, hK1, hD1⟩, hsz1⟩ := hB
              rw [ht] at hP hsz1
              have hC : CP dC dI Q A s.heap p72.2 H1 locs := ⟨hP, hD1.weaken (fun _ _ _ h => hFc _ h), hS, hsz1⟩
              generalize H1 = H at hC ⊢
              have h75 : z9h ≤ CS.hs p72.2 := Nat.le_trans h70 mo73
              refine W.widen (k := CS.hs p72.2 - z9h) (n := 17 * (CS.hs p72.2 - z9h)) (cAcc2 h70 mo73) (cAcc3 h70 mo73) ?_
              refine lv_aload_n hx hb dX1_product_78 rfl (lv_at hl 1 rfl) ?_
              obtain ⟨p76, hcp76, hf⟩ := hf_bind hf
              have mo77 : CS.hs p72.2 ≤ CS.hs p76.2 := Mono.go hcp76 (hm1 p72.2)
              have hr9 : CS.hs p76.2 ≤ CS.hs R.2 := Mono.go hf (mono_bind (m_X0_add N p76.2 11 0) (fun p80 => (hMK p80.2 (x1 + 1))))
              have hFc := cFree hC hA
              refine va_callv (va_runU (As := []) (rest := []) ⟨hx, hb, hml, hown, hts⟩ (hE1 p72.2 p76 hcp76) (va_cwU 0 hts hX1_product_X1_factor_u73 rfl rfl rfl rfl (by decide +kernel) ⟨(show (10 + 40 * d) + 1 ≤ (11 + 40 * d) by omega), (show 8 + (1 + 11) + 60 * (10 + 40 * d) ≤ 60 * (11 + 40 * d) by omega)⟩) ⟨zPre.blind, va_recv hK hC.1 (ci := 6) (q0 := 3) rfl rfl, cPre_go hZ hK hC⟩ rfl rfl hl.1 rfl (lv_room (Nat.le_of_ble_eq_true rfl)) dX1_product_79 (cAcc h75 mo77 hr9)) hC.2.2.1 (fun q _ h => hFc q h) hFc (fun u9 t9 H1 locs ht hvm hw hB hz1 hk1 hS => ?_)
              obtain ⟨⟨hP, hK1, hD1⟩, hsz1⟩ := hB
              rw [ht] at hP hsz1
              have hC : CP dC dI Q A s.heap p76.2 H1 locs := ⟨hP, hD1.weaken (fun _ _ _ h => hFc _ h), hS, hsz1⟩
              generalize H1 = H at hC ⊢
              have h79 : z9h ≤ CS.hs p76.2 := Nat.le_trans h75 mo77
              refine W.widen (k := CS.hs p76.2 - z9h) (n := 17 * (CS.hs p76.2 - z9h)) (cAcc2 h75 mo77) (cAcc3 h75 mo77) ?_
              refine lv_aload_n hx hb dX1_product_82 rfl (lv_at hl 1 rfl) ?_
              refine cG_29 hx hb hts i_X1_product_X7 hown hK hC (hts (.fieldLink RX1 22 "StatementRules2$Formulas" "code" "LStatementRules2$Code;") k_X1_product_fieldLink_RX1_22_SR_Formulas_code_LSR_Code) (fun _ q9 => q9) dX1_product_83 ?_
              refine lv_iload_n hx hb dX1_product_86 rfl (lv_at hl 0 rfl) ?_
              refine lv_iconst (v := 0) hx hb dX1_product_87 (by decide) ?_
              obtain ⟨p80, hcp80, hf⟩ := hf_bind hf
              have mo81 : CS.hs p76.2 ≤ CS.hs p80.2 := Mono.go hcp80 (m_X0_add N p76.2 11 0)
              have hr9 : CS.hs p80.2 ≤ CS.hs R.2 := Mono.go hf (hMK p80.2 (x1 + 1))
              have hFc := cFree hC hA
              refine va_callv (va_runV (As := [.int 11, .int 0]) (rest := []) ⟨hx, hb, hml, hown, hts⟩ (c_X0_add l dC dI Q N p76.2 11 0 p80 hcp80) (cwV 2 hts hX1_product_X0_add_v68 rfl rfl rfl (by decide +kernel) ⟨(show 2 + 1 ≤ (11 + 40 * d) by omega), (show 8 + (3 + 11) + 60 * 2 ≤ 60 * (11 + 40 * d) by omega)⟩) ⟨zPre.blind, va_recv hK hC.1 (ci := 0) (q0 := 2) rfl rfl, cPre_go hZ hK hC⟩ rfl rfl hl.1 rfl (lv_room (Nat.le_of_ble_eq_true rfl)) dX1_product_88 (cAcc h79 mo81 hr9)) hC.2.2.1 (fun q _ h => hFc q h) hFc (fun u9 t9 H1 locs ht hvm hw hB hz1 hk1 hS => ?_)
              obtain ⟨⟨hP, hK1, hD1⟩, hsz1⟩ := hB
              rw [ht] at hP hsz1
              have hC : CP dC dI Q A s.heap p80.2 H1 locs := ⟨hP, hD1.weaken (fun _ _ _ h => hFc _ h), hS, hsz1⟩
              generalize H1 = H at hC ⊢
              have h83 : z9h ≤ CS.hs p80.2 := Nat.le_trans h79 mo81
              refine W.widen (k := CS.hs p80.2 - z9h) (n := 17 * (CS.hs p80.2 - z9h)) (cAcc2 h79 mo81) (cAcc3 h79 mo81) ?_
              refine lv_iinc (v := (x1 + 1)) (lv' := [(1, .int (x1 + 1)), (2, .int 11), (0, .ref (Q.o 3))]) hx hb dX1_product_91 hl (k := 2) rfl rfl (by decide) rfl (fun ls hl => ?_)
              refine lv_goto (tgt := 6) hx hb dX1_product_94 (by decide) ?_
              exact ih p80.2 (x1 + 1) _ _ _ hf h83 hC (lv_sub hl [2, 0] rfl)
            ·
              replace hf := (if_neg c71).symm.trans hf
              refine lv_bipush (v := 10) hx hb dX1_product_63 (by decide) ?_
              refine lv_goto (tgt := 70) hx hb dX1_product_65 (by decide) ?_
              refine lv_istore_n (lv' := [(2, .int 10), (0, .ref (Q.o 3)), (1, .int x1)]) hx hb dX1_product_70 rfl hl (by decide) rfl (fun ls hl => ?_)
              refine lv_aload_n hx hb dX1_product_71 rfl (lv_at hl 1 rfl) ?_
              refine cG_28 hx hb hts i_X1_product_X7 hown hK hC (hts (.fieldLink RX1 18 "StatementRules2$Formulas" "tokens" "LStatementRules2$Tokens;") k_X1_product_fieldLink_RX1_18_SR_Formulas_tokens_LSR_Tokens) (fun _ q9 => q9) dX1_product_72 ?_
              obtain ⟨p84, hcp84, hf⟩ := hf_bind hf
              have mo85 : CS.hs p67.2 ≤ CS.hs p84.2 := Mono.go hcp84 (m_X9_advance N p67.2)
              have hr9 : CS.hs p84.2 ≤ CS.hs R.2 := Mono.go hf (mono_bind (hm1 p84.2) (fun p88 => (mono_bind (m_X0_add N p88.2 10 0) (fun p92 => (hMK p92.2 (x1 + 1))))))
              have hFc := cFree hC hA
              refine va_callv (va_runV (As := []) (rest := []) ⟨hx, hb, hml, hown, hts⟩ (c_X9_advance l dC dI Q N p67.2 p84 hcp84) (cwV 0 hts hX1_product_X9_advance_v56 rfl rfl rfl (by decide +kernel) ⟨(show 3 + 1 ≤ (11 + 40 * d) by omega), (show 8 + (2 + 11) + 60 * 3 ≤ 60 * (11 + 40 * d) by omega)⟩) ⟨zPre.blind, va_recv hK hC.1 (ci := 8) (q0 := 4) rfl rfl, cPre_go hZ hK hC⟩ rfl rfl hl.1 rfl (lv_room (Nat.le_of_ble_eq_true rfl)) dX1_product_75 (cAcc h70 mo85 hr9)) hC.2.2.1 (fun q _ h => hFc q h) hFc (fun u9 t9 H1 locs ht hvm hw hB hz1 hk1 hS => ?_)
              obtain ⟨⟨hP, hK1, hD1⟩, hsz1⟩ := hB
              rw [ht] at hP hsz1
              have hC : CP dC dI Q A s.heap p84.2 H1 locs := ⟨hP, hD1.weaken (fun _ _ _ h => hFc _ h), hS, hsz1⟩
              generalize H1 = H at hC ⊢
              have h87 : z9h ≤ CS.hs p84.2 := Nat.le_trans h70 mo85
              refine W.widen (k := CS.hs p84.2 - z9h) (n := 17 * (CS.hs p84.2 - z9h)) (cAcc2 h70 mo85) (cAcc3 h70 mo85) ?_
              refine lv_aload_n hx hb dX1_product_78 rfl (lv_at hl 1 rfl) ?_
              obtain ⟨p88, hcp88, hf⟩ := hf_bind hf
              have mo89 : CS.hs p84.2 ≤ CS.hs p88.2 := Mono.go hcp88 (hm1 p84.2)
              have hr9 : CS.hs p88.2 ≤ CS.hs R.2 := Mono.go hf (mono_bind (m_X0_add N p88.2 10 0) (fun p92 => (hMK p92.2 (x1 + 1))))
              have hFc := cFree hC hA
              refine va_callv (va_runU (As := []) (rest := []) ⟨hx, hb, hml, hown, hts⟩ (hE1 p84.2 p88 hcp88) (va_cwU 0 hts hX1_product_X1_factor_u73 rfl rfl rfl rfl (by decide +kernel) ⟨(show (10 + 40 * d) + 1 ≤ (11 + 40 * d) by omega), (show 8 + (1 + 11) + 60 * (10 + 40 * d) ≤ 60 * (11 + 40 * d) by omega)⟩) ⟨zPre.blind, va_recv hK hC.1 (ci := 6) (q0 := 3) rfl rfl, cPre_go hZ hK hC⟩ rfl rfl hl.1 rfl (lv_room (Nat.le_of_ble_eq_true rfl)) dX1_product_79 (cAcc h87 mo89 hr9)) hC.2.2.1 (fun q _ h => hFc q h) hFc (fun u9 t9 H1 locs ht hvm hw hB hz1 hk1 hS => ?_)
              obtain ⟨⟨hP, hK1, hD1⟩, hsz1⟩ := hB
              rw [ht] at hP hsz1
              have hC : CP dC dI Q A s.heap p88.2 H1 locs := ⟨hP, hD1.weaken (fun _ _ _ h => hFc _ h), hS, hsz1⟩
              generalize H1 = H at hC ⊢
              have h91 : z9h ≤ CS.hs p88.2 := Nat.le_trans h87 mo89
              refine W.widen (k := CS.hs p88.2 - z9h) (n := 17 * (CS.hs p88.2 - z9h)) (cAcc2 h87 mo89) (cAcc3 h87 mo89) ?_
              refine lv_aload_n hx hb dX1_product_82 rfl (lv_at hl 1 rfl) ?_
              refine cG_29 hx hb hts i_X1_product_X7 hown hK hC (hts (.fieldLink RX1 22 "StatementRules2$Formulas" "code" "LStatementRules2$Code;") k_X1_product_fieldLink_RX1_22_SR_Formulas_code_LSR_Code) (fun _ q9 => q9) dX1_product_83 ?_
              refine lv_iload_n hx hb dX1_product_86 rfl (lv_at hl 0 rfl) ?_
              refine lv_iconst (v := 0) hx hb dX1_product_87 (by decide) ?_
              obtain ⟨p92, hcp92, hf⟩ := hf_bind hf
              have mo93 : CS.hs p88.2 ≤ CS.hs p92.2 := Mono.go hcp92 (m_X0_add N p88.2 10 0)
              have hr9 : CS.hs p92.2 ≤ CS.hs R.2 := Mono.go hf (hMK p92.2 (x1 + 1))
              have hFc := cFree hC hA
              refine va_callv (va_runV (As := [.int 10, .int 0]) (rest := []) ⟨hx, hb, hml, hown, hts⟩ (c_X0_add l dC dI Q N p88.2 10 0 p92 hcp92) (cwV 2 hts hX1_product_X0_add_v68 rfl rfl rfl (by decide +kernel) ⟨(show 2 + 1 ≤ (11 + 40 * d) by omega), (show 8 + (3 + 11) + 60 * 2 ≤ 60 * (11 + 40 * d) by omega)⟩) ⟨zPre.blind, va_recv hK hC.1 (ci := 0) (q0 := 2) rfl rfl, cPre_go hZ hK hC⟩ rfl rfl hl.1 rfl (lv_room (Nat.le_of_ble_eq_true rfl)) dX1_product_88 (cAcc h91 mo93 hr9)) hC.2.2.1 (fun q _ h => hFc q h) hFc (fun u9 t9 H1 locs ht hvm hw hB hz1 hk1 hS => ?_)
              obtain ⟨⟨hP, hK1, hD1⟩, hsz1⟩ := hB
              rw [ht] at hP hsz1
              have hC : CP dC dI Q A s.heap p92.2 H1 locs := ⟨hP, hD1.weaken (fun _ _ _ h => hFc _ h), hS, hsz1⟩
              generalize H1 = H at hC ⊢
              have h95 : z9h ≤ CS.hs p92.2 := Nat.le_trans h91 mo93
              refine W.widen (k := CS.hs p92.2 - z9h) (n := 17 * (CS.hs p92.2 - z9h)) (cAcc2 h91 mo93) (cAcc3 h91 mo93) ?_
              refine lv_iinc (v := (x1 + 1)) (lv' := [(1, .int (x1 + 1)), (2, .int 10), (0, .ref (Q.o 3))]) hx hb dX1_product_91 hl (k := 2) rfl rfl (by decide) rfl (fun ls hl => ?_)
              refine lv_goto (tgt := 6) hx hb dX1_product_94 (by decide) ?_
              exact ih p92.2 (x1 + 1) _ _ _ hf h95 hC (lv_sub hl [2, 0] rfl)
          ·
            replace hf := (if_neg c66).symm.trans hf
            refine lv_bipush (v := 9) hx hb dX1_product_49 (by decide) ?_
            refine lv_goto (tgt := 70) hx hb dX1_product_51 (by decide) ?_
            refine lv_istore_n (lv' := [(2, .int 9), (0, .ref (Q.o 3)), (1, .int x1)]) hx hb dX1_product_70 rfl hl (by decide) rfl (fun ls hl => ?_)
            refine lv_aload_n hx hb dX1_product_71 rfl (lv_at hl 1 rfl) ?_
            refine cG_28 hx hb hts i_X1_product_X7 hown hK hC (hts (.fieldLink RX1 18 "StatementRules2$Formulas" "tokens" "LStatementRules2$Tokens;") k_X1_product_fieldLink_RX1_18_SR_Formulas_tokens_LSR_Tokens) (fun _ q9 => q9) dX1_product_72 ?_
            obtain ⟨p96, hcp96, hf⟩ := hf_bind hf
            have mo97 : CS.hs p62.2 ≤ CS.hs p96.2 := Mono.go hcp96 (m_X9_advance N p62.2)
            have hr9 : CS.hs p96.2 ≤ CS.hs R.2 := Mono.go hf (mono_bind (hm1 p96.2) (fun p100 => (mono_bind (m_X0_add N p100.2 9 0) (fun p104 => (hMK p104.2 (x1 + 1))))))
            have hFc := cFree hC hA
            refine va_callv (va_runV (As := []) (rest := []) ⟨hx, hb, hml, hown, hts⟩ (c_X9_advance l dC dI Q N p62.2 p96 hcp96) (cwV 0 hts hX1_product_X9_advance_v56 rfl rfl rfl (by decide +kernel) ⟨(show 3 + 1 ≤ (11 + 40 * d) by omega), (show 8 + (2 + 11) + 60 * 3 ≤ 60 * (11 + 40 * d) by omega)⟩) ⟨zPre.blind, va_recv hK hC.1 (ci := 8) (q0 := 4) rfl rfl, cPre_go hZ hK hC⟩ rfl rfl hl.1 rfl (lv_room (Nat.le_of_ble_eq_true rfl)) dX1_product_75 (cAcc h65 mo97 hr9)) hC.2.2.1 (fun q _ h => hFc q h) hFc (fun u9 t9 H1 locs ht hvm hw hB hz1 hk1 hS => ?_)
            obtain ⟨⟨hP, hK1, hD1⟩, hsz1⟩ := hB
            rw [ht] at hP hsz1
            have hC : CP dC dI Q A s.heap p96.2 H1 locs := ⟨hP, hD1.weaken (fun _ _ _ h => hFc _ h), hS, hsz1⟩
            generalize H1 = H at hC ⊢
            have h99 : z9h ≤ CS.hs p96.2 := Nat.le_trans h65 mo97
            refine W.widen (k := CS.hs p96.2 - z9h) (n := 17 * (CS.hs p96.2 - z9h)) (cAcc2 h65 mo97) (cAcc3 h65 mo97) ?_
            refine lv_aload_n hx hb dX1_product_78 rfl (lv_at hl 1 rfl) ?_
            obtain ⟨p100, hcp100, hf⟩ := hf_bind hf
            have mo101 : CS.hs p96.2 ≤ CS.hs p100.2 := Mono.go hcp100 (hm1 p96.2)
            have hr9 : CS.hs p100.2 ≤ CS.hs R.2 := Mono.go hf (mono_bind (m_X0_add N p100.2 9 0) (fun p104 => (hMK p104.2 (x1 + 1))))
            have hFc := cFree hC hA
            refine va_callv (va_runU (As := []) (rest := []) ⟨hx, hb, hml, hown, hts⟩ (hE1 p96.2 p100 hcp100) (va_cwU 0 hts hX1_product_X1_factor_u73 rfl rfl rfl rfl (by decide +kernel) ⟨(show (10 + 40 * d) + 1 ≤ (11 + 40 * d) by omega), (show 8 + (1 + 11) + 60 * (10 + 40 * d) ≤ 60 * (11 + 40 * d) by omega)⟩) ⟨zPre.blind, va_recv hK hC.1 (ci := 6) (q0 := 3) rfl rfl, cPre_go hZ hK hC⟩ rfl rfl hl.1 rfl (lv_room (Nat.le_of_ble_eq_true rfl)) dX1_product_79 (cAcc h99 mo101 hr9)) hC.2.2.1 (fun q _ h => hFc q h) hFc (fun u9 t9 H1 locs ht hvm hw hB hz1 hk1 hS => ?_)
            obtain ⟨⟨hP, hK1, hD1⟩, hsz1⟩ := hB
            rw [ht] at hP hsz1
            have hC : CP dC dI Q A s.heap p100.2 H1 locs := ⟨hP, hD1.weaken (fun _ _ _ h => hFc _ h), hS, hsz1⟩
            generalize H1 = H at hC ⊢
            have h103 : z9h ≤ CS.hs p100.2 := Nat.le_trans h99 mo101
            refine W.widen (k := CS.hs p100.2 - z9h) (n := 17 * (CS.hs p100.2 - z9h)) (cAcc2 h99 mo101) (cAcc3 h99 mo101) ?_
            refine lv_aload_n hx hb dX1_product_82 rfl (lv_at hl 1 rfl) ?_
            refine cG_29 hx hb hts i_X1_product_X7 hown hK hC (hts (.fieldLink RX1 22 "StatementRules2$Formulas" "code" "LStatementRules2$Code;") k_X1_product_fieldLink_RX1_22_SR_Formulas_code_LSR_Code) (fun _ q9 => q9) dX1_product_83 ?_
            refine lv_iload_n hx hb dX1_product_86 rfl (lv_at hl 0 rfl) ?_
            refine lv_iconst (v := 0) hx hb dX1_product_87 (by decide) ?_
            obtain ⟨p104, hcp104, hf⟩ := hf_bind hf
            have mo105 : CS.hs p100.2 ≤ CS.hs p104.2 := Mono.go hcp104 (m_X0_add N p100.2 9 0)
            have hr9 : CS.hs p104.2 ≤ CS.hs R.2 := Mono.go hf (hMK p104.2 (x1 + 1))
            have hFc := cFree hC hA
            refine va_callv (va_runV (As := [.int 9, .int 0]) (rest := []) ⟨hx, hb, hml, hown, hts⟩ (c_X0_add l dC dI Q N p100.2 9 0 p104 hcp104) (cwV 2 hts hX1_product_X0_add_v68 rfl rfl rfl (by decide +kernel) ⟨(show 2 + 1 ≤ (11 + 40 * d) by omega), (show 8 + (3 + 11) + 60 * 2 ≤ 60 * (11 + 40 * d) by omega)⟩) ⟨zPre.blind, va_recv hK hC.1 (ci := 0) (q0 := 2) rfl rfl, cPre_go hZ hK hC⟩ rfl rfl hl.1 rfl (lv_room (Nat.le_of_ble_eq_true rfl)) dX1_product_88 (cAcc h103 mo105 hr9)) hC.2.2.1 (fun q _ h => hFc q h) hFc (fun u9 t9 H1 locs ht hvm hw hB hz1 hk1 hS => ?_)
            obtain ⟨⟨hP, hK1, hD1⟩, hsz1⟩ := hB
            rw [ht] at hP hsz1
            have hC : CP dC dI Q A s.heap p104.2 H1 locs := ⟨hP, hD1.weaken (fun _ _ _ h => hFc _ h), hS, hsz1⟩
            generalize H1 = H at hC ⊢
            have h107 : z9h ≤ CS.hs p104.2 := Nat.le_trans h103 mo105
            refine W.widen (k := CS.hs p104.2 - z9h) (n := 17 * (CS.hs p104.2 - z9h)) (cAcc2 h103 mo105) (cAcc3 h103 mo105) ?_
            refine lv_iinc (v := (x1 + 1)) (lv' := [(1, .int (x1 + 1)), (2, .int 9), (0, .ref (Q.o 3))]) hx hb dX1_product_91 hl (k := 2) rfl rfl (by decide) rfl (fun ls hl => ?_)
            refine lv_goto (tgt := 6) hx hb dX1_product_94 (by decide) ?_
            exact ih p104.2 (x1 + 1) _ _ _ hf h107 hC (lv_sub hl [2, 0] rfl)
        ·
          replace hf := (if_pos c61).symm.trans hf
          refine lv_aload_n hx hb dX1_product_31 rfl (lv_at hl 0 rfl) ?_
          refine lv_bipush (v := 37) hx hb dX1_product_32 (by decide) ?_
          obtain ⟨p108, hcp108, hf⟩ := hf_bind hf
          have mo109 : CS.hs p57.2 ≤ CS.hs p108.2 := Mono.go hcp108 (m_X1_found N p57.2 37)
          have hr9 : CS.hs p108.2 ≤ CS.hs R.2 := Mono.go hf (mono_ite (mono_some (Nat.le_refl _)) (mono_bind (m_X1_found N p108.2 42) (fun p113 => (mono_ite (mono_bind (m_X1_found N p113.2 47) (fun p118 => (mono_ite (mono_bind (m_X9_advance N p118.2) (fun p123 => (mono_bind (hm1 p123.2) (fun p127 => (mono_bind (m_X0_add N p127.2 11 0) (fun p131 => (hMK p131.2 (x1 + 1)))))))) (mono_bind (m_X9_advance N p118.2) (fun p135 => (mono_bind (hm1 p135.2) (fun p139 => (mono_bind (m_X0_add N p139.2 10 0) (fun p143 => (hMK p143.2 (x1 + 1))))))))))) (mono_bind (m_X9_advance N p113.2) (fun p147 => (mono_bind (hm1 p147.2) (fun p151 => (mono_bind (m_X0_add N p151.2 9 0) (fun p155 => (hMK p155.2 (x1 + 1))))))))))))
          have hFc := cFree hC hA
          refine va_calli (va_runU (As := [.int 37]) (rest := []) ⟨hx, hb, hml, hown, hts⟩ (c_X1_found l dC dI Q N p57.2 37 p108 hcp108) (va_cwU 1 hts hX1_product_X1_found_u42 rfl rfl rfl rfl (by decide +kernel) ⟨(show 1 + 1 ≤ (11 + 40 * d) by omega), (show 8 + (2 + 11) + 60 * 1 ≤ 60 * (11 + 40 * d) by omega)⟩) ⟨zPre.blind, va_recv hK hC.1 (ci := 6) (q0 := 3) rfl rfl, cPre_go hZ hK hC⟩ rfl rfl hl.1 rfl (lv_room (Nat.le_of_ble_eq_true rfl)) dX1_product_34 (cAcc h60 mo109 hr9)) hC.2.2.1 (fun q _ h => hFc q h) hFc (fun r110 u9 t9 H1 locs ht hvm hw hB hz1 hk1 hS => ?_)
          obtain ⟨⟨hP, hK1, hD1⟩, hsz1⟩ := hB
          rw [ht] at hP hsz1
          have hC : CP dC dI Q A s.heap p108.2 H1 locs := ⟨hP, hD1.weaken (fun _ _ _ h => hFc _ h), hS, hsz1⟩
          generalize H1 = H at hC ⊢
          have h111 : z9h ≤ CS.hs p108.2 := Nat.le_trans h60 mo109
          refine W.widen (k := CS.hs p108.2 - z9h) (n := 17 * (CS.hs p108.2 - z9h)) (cAcc2 h60 mo109) (cAcc3 h60 mo109) ?_
          obtain rfl : r110 = p108.1 := hw
          refine lv_if_eq (tgt := 97) hx hb dX1_product_37 (by decide) (fun c112 => ?_) (fun c112 => ?_)
          ·
            replace hf := (if_pos c112).symm.trans hf
            obtain rfl := Option.some.inj hf
            exact W.vret hx hb hr (fun t ht hW => ⟨⟨(), rfl, trivial, ⟨by rw [ht]; exact hC.1, va_K.moved hW.alike hK, hC.2.1⟩, by rw [ht]; exact hC.2.2.2⟩, hC.2.2.1.F ht⟩) hC.2.2.1.2.2 dX1_product_97
          ·
            replace hf := (if_neg c112).symm.trans hf
            refine lv_aload_n hx hb dX1_product_40 rfl (lv_at hl 0 rfl) ?_
            refine lv_bipush (v := 42) hx hb dX1_product_41 (by decide) ?_
            obtain ⟨p113, hcp113, hf⟩ := hf_bind hf
            have mo114 : CS.hs p108.2 ≤ CS.hs p113.2 := Mono.go hcp113 (m_X1_found N p108.2 42)
            have hr9 : CS.hs p113.2 ≤ CS.hs R.2 := Mono.go hf (mono_ite (mono_bind (m_X1_found N p113.2 47) (fun p118 => (mono_ite (mono_bind (m_X9_advance N p118.2) (fun p123 => (mono_bind (hm1 p123.2) (fun p127 => (mono_bind (m_X0_add N p127.2 11 0) (fun p131 => (hMK p131.2 (x1 + 1)))))))) (mono_bind (m_X9_advance N p118.2) (fun p135 => (mono_bind (hm1 p135.2) (fun p139 => (mono_bind (m_X0_add N p139.2 10 0) (fun p143 => (hMK p143.2 (x1 + 1))))))))))) (mono_bind (m_X9_advance N p113.2) (fun p147 => (mono_bind (hm1 p147.2) (fun p151 => (mono_bind (m_X0_add N p151.2 9 0) (fun p155 => (hMK p155.2 (x1 + 1)))))))))
            have hFc := cFree hC hA
            refine va_calli (va_runU (As := [.int 42]) (rest := []) ⟨hx, hb, hml, hown, hts⟩ (c_X1_found l dC dI Q N p108.2 42 p113 hcp113) (va_cwU 1 hts hX1_product_X1_found_u42 rfl rfl rfl rfl (by decide +kernel) ⟨(show 1 + 1 ≤ (11 + 40 * d) by omega), (show 8 + (2 + 11) + 60 * 1 ≤ 60 * (11 + 40 * d) by omega)⟩) ⟨zPre.blind, va_recv hK hC.1 (ci := 6) (q0 := 3) rfl rfl, cPre_go hZ hK hC⟩ rfl rfl hl.1 rfl (lv_room (Nat.le_of_ble_eq_true rfl)) dX1_product_43 (cAcc h111 mo114 hr9)) hC.2.2.1 (fun q _ h => hFc q h) hFc (fun r115 u9 t9 H1 locs ht hvm hw hB hz1 hk1 hS => ?_)
            obtain ⟨⟨hP, hK1, hD1⟩, hsz1⟩ := hB
            rw [ht] at hP hsz1
            have hC : CP dC dI Q A s.heap p113.2 H1 locs := ⟨hP, hD1.weaken (fun _ _ _ h => hFc _ h), hS, hsz1⟩
            generalize H1 = H at hC ⊢
            have h116 : z9h ≤ CS.hs p113.2 := Nat.le_trans h111 mo114
            refine W.widen (k := CS.hs p113.2 - z9h) (n := 17 * (CS.hs p113.2 - z9h)) (cAcc2 h111 mo114) (cAcc3 h111 mo114) ?_
            obtain rfl : r115 = p113.1 := hw
            refine lv_if_eq (tgt := 54) hx hb dX1_product_46 (by decide) (fun c117 => ?_) (fun c117 => ?_)
            ·
              replace hf := (if_pos c117).symm.trans hf
              refine lv_aload_n hx hb dX1_product_54 rfl (lv_at hl 0 rfl) ?_
              refine lv_bipush (v := 47) hx hb dX1_product_55 (by decide) ?_
              obtain ⟨p118, hcp118, hf⟩ := hf_bind hf
              have mo119 : CS.hs p113.2 ≤ CS.hs p118.2 := Mono.go hcp118 (m_X1_found N p113.2 47)
              have hr9 : CS.hs p118.2 ≤ CS.hs R.2 := Mono.go hf (mono_ite (mono_bind (m_X9_advance N p118.2) (fun p123 => (mono_bind (hm1 p123.2) (fun p127 => (mono_bind (m_X0_add N p127.2 11 0) (fun p131 => (hMK p131.2 (x1 + 1)))))))) (mono_bind (m_X9_advance N p118.2) (fun p135 => (mono_bind (hm1 p135.2) (fun p139 => (mono_bind (m_X0_add N p139.2 10 0) (fun p143 => (hMK p143.2 (x1 + 1)))))))))
              have hFc := cFree hC hA
              refine va_calli (va_runU (As := [.int 47]) (rest := []) ⟨hx, hb, hml, hown, hts⟩ (c_X1_found l dC dI Q N p113.2 47 p118 hcp118) (va_cwU 1 hts hX1_product_X1_found_u42 rfl rfl rfl rfl (by decide +kernel) ⟨(show 1 + 1 ≤ (11 + 40 * d) by omega), (show 8 + (2 + 11) + 60 * 1 ≤ 60 * (11 + 40 * d) by omega)⟩) ⟨zPre.blind, va_recv hK hC.1 (ci := 6) (q0 := 3) rfl rfl, cPre_go hZ hK hC⟩ rfl rfl hl.1 rfl (lv_room (Nat.le_of_ble_eq_true rfl)) dX1_product_57 (cAcc h116 mo119 hr9)) hC.2.2.1 (fun q _ h => hFc q h) hFc (fun r120 u9 t9 H1 locs ht hvm hw hB hz1 hk1 hS => ?_)
              obtain ⟨⟨hP, hK1, hD1⟩, hsz1⟩ := hB
              rw [ht] at hP hsz1
              have hC : CP dC dI Q A s.heap p118.2 H1 locs := ⟨hP, hD1.weaken (fun _ _ _ h => hFc _ h), hS, hsz1⟩
              generalize H1 = H at hC ⊢
              have h121 : z9h ≤ CS.hs p118.2 := Nat.le_trans h116 mo119
              refine W.widen (k := CS.hs p118.2 - z9h) (n := 17 * (CS.hs p118.2 - z9h)) (cAcc2 h116 mo119) (cAcc3 h116 mo119) ?_
              obtain rfl : r120 = p118.1 := hw
              refine lv_if_eq (tgt := 68) hx hb dX1_product_60 (by decide) (fun c122 => ?_) (fun c122 => ?_)
              ·
                replace hf := (if_pos c122).symm.trans hf
                refine lv_bipush (v := 11) hx hb dX1_product_68 (by decide) ?_
                refine lv_istore_n (lv' := [(2, .int 11), (0, .ref (Q.o 3)), (1, .int x1)]) hx hb dX1_product_70 rfl hl (by decide) rfl (fun ls hl => ?_)
                refine lv_aload_n hx hb dX1_product_71 rfl (lv_at hl 1 rfl) ?_
                refine cG_28 hx hb hts i_X1_product_X7 hown hK hC (hts (.fieldLink RX1 18 "StatementRules2$Formulas" "tokens" "LStatementRules2$Tokens;") k_X1_product_fieldLink_RX1_18_SR_Formulas_tokens_LSR_Tokens) (fun _ q9 => q9) dX1_product_72 ?_
                obtain ⟨p123, hcp123, hf⟩ := hf_bind hf
                have mo124 : CS.hs p118.2 ≤ CS.hs p123.2 := Mono.go hcp123 (m_X9_advance N p118.2)
                have hr9 : CS.hs p123.2 ≤ CS.hs R.2 := Mono.go hf (mono_bind (hm1 p123.2) (fun p127 => (mono_bind (m_X0_add N p127.2 11 0) (fun p131 => (hMK p131.2 (x1 + 1))))))
                have hFc := cFree hC hA
                refine va_callv (va_runV (As := []) (rest := []) ⟨hx, hb, hml, hown, hts⟩ (c_X9_advance l dC dI Q N p118.2 p123 hcp123) (cwV 0 hts hX1_product_X9_advance_v56 rfl rfl rfl (by decide +kernel) ⟨(show 3 + 1 ≤ (11 + 40 * d) by omega), (show 8 + (2 + 11) + 60 * 3 ≤ 60 * (11 + 40 * d) by omega)⟩) ⟨zPre.blind, va_recv hK hC.1 (ci := 8) (q0 := 4) rfl rfl, cPre_go hZ hK hC⟩ rfl rfl hl.1 rfl (lv_room (Nat.le_of_ble_eq_true rfl)) dX1_product_75 (cAcc h121 mo124 hr9)) hC.2.2.1 (fun q _ h => hFc q h) hFc (fun u9 t9 H1 locs ht hvm hw hB hz1 hk1 hS => ?_)
                obtain ⟨⟨hP, hK1, hD1⟩, hsz1⟩ := hB
                rw [ht] at hP hsz1
                have hC : CP dC dI Q A s.heap p123.2 H1 locs := ⟨hP, hD1.weaken (fun _ _ _ h => hFc _ h), hS, hsz1⟩
                generalize H1 = H at hC ⊢
                have h126 : z9h ≤ CS.hs p123.2 := Nat.le_trans h121 mo124
                refine W.widen (k := CS.hs p123.2 - z9h) (n := 17 * (CS.hs p123.2 - z9h)) (cAcc2 h121 mo124) (cAcc3 h121 mo124) ?_
                refine lv_aload_n hx hb dX1_product_78 rfl (lv_at hl 1 rfl) ?_
                obtain ⟨p127, hcp127, hf⟩ := hf_bind hf
                have mo128 : CS.hs p123.2 ≤ CS.hs p127.2 := Mono.go hcp127 (hm1 p123.2)
                have hr9 : CS.hs p127.2 ≤ CS.hs R.2 := Mono.go hf (mono_bind (m_X0_add N p127.2 11 0) (fun p131 => (hMK p131.2 (x1 + 1))))
                have hFc := cFree hC hA
                refine va_callv (va_runU (As := []) (rest := []) ⟨hx, hb, hml, hown, hts⟩ (hE1 p123.2 p127 hcp127) (va_cwU 0 hts hX1_product_X1_factor_u73 rfl rfl rfl rfl (by decide +kernel) ⟨(show (10 + 40 * d) + 1 ≤ (11 + 40 * d) by omega), (show 8 + (1 + 11) + 60 * (10 + 40 * d) ≤ 60 * (11 + 40 * d) by omega)⟩) ⟨zPre.blind, va_recv hK hC.1 (ci := 6) (q0 := 3) rfl rfl, cPre_go hZ hK hC⟩ rfl rfl hl.1 rfl (lv_room (Nat.le_of_ble_eq_true rfl)) dX1_product_79 (cAcc h126 mo128 hr9)) hC.2.2.1 (fun q _ h => hFc q h) hFc (fun u9 t9 H1 locs ht hvm hw hB hz1 hk1 hS => ?_)
                obtain ⟨⟨hP, hK1, hD1⟩, hsz1⟩ := hB
                rw [ht] at hP hsz1
                have hC : CP dC dI Q A s.heap p127.2 H1 locs := ⟨hP, hD1.weaken (fun _ _ _ h => hFc _ h), hS, hsz1⟩
                generalize H1 = H at hC ⊢
                have h130 : z9h ≤ CS.hs p127.2 := Nat.le_trans h126 mo128
                refine W.widen (k := CS.hs p127.2 - z9h) (n := 17 * (CS.hs p127.2 - z9h)) (cAcc2 h126 mo128) (cAcc3 h126 mo128) ?_
                refine lv_aload_n hx hb dX1_product_82 rfl (lv_at hl 1 rfl) ?_
                refine cG_29 hx hb hts i_X1_product_X7 hown hK hC (hts (.fieldLink RX1 22 "StatementRules2$Formulas" "code" "LStatementRules2$Code;") k_X1_product_fieldLink_RX1_22_SR_Formulas_code_LSR_Code) (fun _ q9 => q9) dX1_product_83 ?_
                refine lv_iload_n hx hb dX1_product_86 rfl (lv_at hl 0 rfl) ?_
                refine lv_iconst (v := 0) hx hb dX1_product_87 (by decide) ?_
                obtain ⟨p131, hcp131, hf⟩ := hf_bind hf
                have mo132 : CS.hs p127.2 ≤ CS.hs p131.2 := Mono.go hcp131 (m_X0_add N p127.2 11 0)
                have hr9 : CS.hs p131.2 ≤ CS.hs R.2 := Mono.go hf (hMK p131.2 (x1 + 1))
                have hFc := cFree hC hA
                refine va_callv (va_runV (As := [.int 11, .int 0]) (rest := []) ⟨hx, hb, hml, hown, hts⟩ (c_X0_add l dC dI Q N p127.2 11 0 p131 hcp131) (cwV 2 hts hX1_product_X0_add_v68 rfl rfl rfl (by decide +kernel) ⟨(show 2 + 1 ≤ (11 + 40 * d) by omega), (show 8 + (3 + 11) + 60 * 2 ≤ 60 * (11 + 40 * d) by omega)⟩) ⟨zPre.blind, va_recv hK hC.1 (ci := 0) (q0 := 2) rfl rfl, cPre_go hZ hK hC⟩ rfl rfl hl.1 rfl (lv_room (Nat.le_of_ble_eq_true rfl)) dX1_product_88 (cAcc h130 mo132 hr9)) hC.2.2.1 (fun q _ h => hFc q h) hFc (fun u9 t9 H1 locs ht hvm hw hB hz1 hk1 hS => ?_)
                obtain ⟨⟨hP, hK1, hD1⟩, hsz1⟩ := hB
                rw [ht] at hP hsz1
                have hC : CP dC dI Q A s.heap p131.2 H1 locs := ⟨hP, hD1.weaken (fun _ _ _ h => hFc _ h), hS, hsz1⟩
                generalize H1 = H at hC ⊢
                have h134 : z9h ≤ CS.hs p131.2 := Nat.le_trans h130 mo132
                refine W.widen (k := CS.hs p131.2 - z9h) (n := 17 * (CS.hs p131.2 - z9h)) (cAcc2 h130 mo132) (cAcc3 h130 mo132) ?_
                refine lv_iinc (v := (x1 + 1)) (lv' := [(1, .int (x1 + 1)), (2, .int 11), (0, .ref (Q.o 3))]) hx hb dX1_product_91 hl (k := 2) rfl rfl (by decide) rfl (fun ls hl => ?_)
                refine lv_goto (tgt := 6) hx hb dX1_product_94 (by decide) ?_
                exact ih p131.2 (x1 + 1) _ _ _ hf h134 hC (lv_sub hl [2, 0] rfl)
              ·
                replace hf := (if_neg c122).symm.trans hf
                refine lv_bipush (v := 10) hx hb dX1_product_63 (by decide) ?_
                refine lv_goto (tgt := 70) hx hb dX1_product_65 (by decide) ?_
                refine lv_istore_n (lv' := [(2, .int 10), (0, .ref (Q.o 3)), (1, .int x1)]) hx hb dX1_product_70 rfl hl (by decide) rfl (fun ls hl => ?_)
                refine lv_aload_n hx hb dX1_product_71 rfl (lv_at hl 1 rfl) ?_
                refine cG_28 hx hb hts i_X1_product_X7 hown hK hC (hts (.fieldLink RX1 18 "StatementRules2$Formulas" "tokens" "LStatementRules2$Tokens;") k_X1_product_fieldLink_RX1_18_SR_Formulas_tokens_LSR_Tokens) (fun _ q9 => q9) dX1_product_72 ?_
                obtain ⟨p135, hcp135, hf⟩ := hf_bind hf
                have mo136 : CS.hs p118.2 ≤ CS.hs p135.2 := Mono.go hcp135 (m_X9_advance N p118.2)
                have hr9 : CS.hs p135.2 ≤ CS.hs R.2 := Mono.go hf (mono_bind (hm1 p135.2) (fun p139 => (mono_bind (m_X0_add N p139.2 10 0) (fun p143 => (hMK p143.2 (x1 + 1))))))
                have hFc := cFree hC hA
                refine va_callv (va_runV (As := []) (rest := []) ⟨hx, hb, hml, hown, hts⟩ (c_X9_advance l dC dI Q N p118.2 p135 hcp135) (cwV 0 hts hX1_product_X9_advance_v56 rfl rfl rfl (by decide +kernel) ⟨(show 3 + 1 ≤ (11 + 40 * d) by omega), (show 8 + (2 + 11) + 60 * 3 ≤ 60 * (11 + 40 * d) by omega)⟩) ⟨zPre.blind, va_recv hK hC.1 (ci := 8) (q0 := 4) rfl rfl, cPre_go hZ hK hC⟩ rfl rfl hl.1 rfl (lv_room (Nat.le_of_ble_eq_true rfl)) dX1_product_75 (cAcc h121 mo136 hr9)) hC.2.2.1 (fun q _ h => hFc q h) hFc (fun u9 t9 H1 locs ht hvm hw hB hz1 hk1 hS => ?_)
                obtain ⟨⟨hP, hK1, hD1⟩, hsz1⟩ := hB
                rw [ht] at hP hsz1
                have hC : CP dC dI Q A s.heap p135.2 H1 locs := ⟨hP, hD1.weaken (fun _ _ _ h => hFc _ h), hS, hsz1⟩
                generalize H1 = H at hC ⊢
                have h138 : z9h ≤ CS.hs p135.2 := Nat.le_trans h121 mo136
                refine W.widen (k := CS.hs p135.2 - z9h) (n := 17 * (CS.hs p135.2 - z9h)) (cAcc2 h121 mo136) (cAcc3 h121 mo136) ?_
                refine lv_aload_n hx hb dX1_product_78 rfl (lv_at hl 1 rfl) ?_
                obtain ⟨p139, hcp139, hf⟩ := hf_bind hf
                have mo140 : CS.hs p135.2 ≤ CS.hs p139.2 := Mono.go hcp139 (hm1 p135.2)
                have hr9 : CS.hs p139.2 ≤ CS.hs R.2 := Mono.go hf (mono_bind (m_X0_add N p139.2 10 0) (fun p143 => (hMK p143.2 (x1 + 1))))
                have hFc := cFree hC hA
                refine va_callv (va_runU (As := []) (rest := []) ⟨hx, hb, hml, hown, hts⟩ (hE1 p135.2 p139 hcp139) (va_cwU 0 hts hX1_product_X1_factor_u73 rfl rfl rfl rfl (by decide +kernel) ⟨(show (10 + 40 * d) + 1 ≤ (11 + 40 * d) by omega), (show 8 + (1 + 11) + 60 * (10 + 40 * d) ≤ 60 * (11 + 40 * d) by omega)⟩) ⟨zPre.blind, va_recv hK hC.1 (ci := 6) (q0 := 3) rfl rfl, cPre_go hZ hK hC⟩ rfl rfl hl.1 rfl (lv_room (Nat.le_of_ble_eq_true rfl)) dX1_product_79 (cAcc h138 mo140 hr9)) hC.2.2.1 (fun q _ h => hFc q h) hFc (fun u9 t9 H1 locs ht hvm hw hB hz1 hk1 hS => ?_)
                obtain ⟨⟨hP, hK1, hD1⟩, hsz1⟩ := hB
                rw [ht] at hP hsz1
                have hC : CP dC dI Q A s.heap p139.2 H1 locs := ⟨hP, hD1.weaken (fun _ _ _ h => hFc _ h), hS, hsz1⟩
                generalize H1 = H at hC ⊢
                have h142 : z9h ≤ CS.hs p139.2 := Nat.le_trans h138 mo140
                refine W.widen (k := CS.hs p139.2 - z9h) (n := 17 * (CS.hs p139.2 - z9h)) (cAcc2 h138 mo140) (cAcc3 h138 mo140) ?_
                refine lv_aload_n hx hb dX1_product_82 rfl (lv_at hl 1 rfl) ?_
                refine cG_29 hx hb hts i_X1_product_X7 hown hK hC (hts (.fieldLink RX1 22 "StatementRules2$Formulas" "code" "LStatementRules2$Code;") k_X1_product_fieldLink_RX1_22_SR_Formulas_code_LSR_Code) (fun _ q9 => q9) dX1_product_83 ?_
                refine lv_iload_n hx hb dX1_product_86 rfl (lv_at hl 0 rfl) ?_
                refine lv_iconst (v := 0) hx hb dX1_product_87 (by decide) ?_
                obtain ⟨p143, hcp143, hf⟩ := hf_bind hf
                have mo144 : CS.hs p139.2 ≤ CS.hs p143.2 := Mono.go hcp143 (m_X0_add N p139.2 10 0)
                have hr9 : CS.hs p143.2 ≤ CS.hs R.2 := Mono.go hf (hMK p143.2 (x1 + 1))
                have hFc := cFree hC hA
                refine va_callv (va_runV (As := [.int 10, .int 0]) (rest := []) ⟨hx, hb, hml, hown, hts⟩ (c_X0_add l dC dI Q N p139.2 10 0 p143 hcp143) (cwV 2 hts hX1_product_X0_add_v68 rfl rfl rfl (by decide +kernel) ⟨(show 2 + 1 ≤ (11 + 40 * d) by omega), (show 8 + (3 + 11) + 60 * 2 ≤ 60 * (11 + 40 * d) by omega)⟩) ⟨zPre.blind, va_recv hK hC.1 (ci := 0) (q0 := 2) rfl rfl, cPre_go hZ hK hC⟩ rfl rfl hl.1 rfl (lv_room (Nat.le_of_ble_eq_true rfl)) dX1_product_88 (cAcc h142 mo144 hr9)) hC.2.2.1 (fun q _ h => hFc q h) hFc (fun u9 t9 H1 locs ht hvm hw hB hz1 hk1 hS => ?_)
                obtain ⟨⟨hP, hK1, hD1⟩, hsz1⟩ := hB
                rw [ht] at hP hsz1
                have hC : CP dC dI Q A s.heap p143.2 H1 locs := ⟨hP, hD1.weaken (fun _ _ _ h => hFc _ h), hS, hsz1⟩
                generalize H1 = H at hC ⊢
                have h146 : z9h ≤ CS.hs p143.2 := Nat.le_trans h142 mo144
                refine W.widen (k := CS.hs p143.2 - z9h) (n := 17 * (CS.hs p143.2 - z9h)) (cAcc2 h142 mo144) (cAcc3 h142 mo144) ?_
                refine lv_iinc (v := (x1 + 1)) (lv' := [(1, .int (x1 + 1)), (2, .int 10), (0, .ref (Q.o 3))]) hx hb dX1_product_91 hl (k := 2) rfl rfl (by decide) rfl (fun ls hl => ?_)
                refine lv_goto (tgt := 6) hx hb dX1_product_94 (by decide) ?_
                exact ih p143.2 (x1 + 1) _ _ _ hf h146 hC (lv_sub hl [2, 0] rfl)
            ·
              replace hf := (if_neg c117).symm.trans hf
              refine lv_bipush (v := 9) hx hb dX1_product_49 (by decide) ?_
              refine lv_goto (tgt := 70) hx hb dX1_product_51 (by decide) ?_
              refine lv_istore_n (lv' := [(2, .int 9), (0, .ref (Q.o 3)), (1, .int x1)]) hx hb dX1_product_70 rfl hl (by decide) rfl (fun ls hl => ?_)
              refine lv_aload_n hx hb dX1_product_71 rfl (lv_at hl 1 rfl) ?_
              refine cG_28 hx hb hts i_X1_product_X7 hown hK hC (hts (.fieldLink RX1 18 "StatementRules2$Formulas" "tokens" "LStatementRules2$Tokens;") k_X1_product_fieldLink_RX1_18_SR_Formulas_tokens_LSR_Tokens) (fun _ q9 => q9) dX1_product_72 ?_
              obtain ⟨p147, hcp147, hf⟩ := hf_bind hf
              have mo148 : CS.hs p113.2 ≤ CS.hs p147.2 := Mono.go hcp147 (m_X9_advance N p113.2)
              have hr9 : CS.hs p147.2 ≤ CS.hs R.2 := Mono.go hf (mono_bind (hm1 p147.2) (fun p151 => (mono_bind (m_X0_add N p151.2 9 0) (fun p155 => (hMK p155.2 (x1 + 1))))))
              have hFc := cFree hC hA
              refine va_callv (va_runV (As := []) (rest := []) ⟨hx, hb, hml, hown, hts⟩ (c_X9_advance l dC dI Q N p113.2 p147 hcp147) (cwV 0 hts hX1_product_X9_advance_v56 rfl rfl rfl (by decide +kernel) ⟨(show 3 + 1 ≤ (11 + 40 * d) by omega), (show 8 + (2 + 11) + 60 * 3 ≤ 60 * (11 + 40 * d) by omega)⟩) ⟨zPre.blind, va_recv hK hC.1 (ci := 8) (q0 := 4) rfl rfl, cPre_go hZ hK hC⟩ rfl rfl hl.1 rfl (lv_room (Nat.le_of_ble_eq_true rfl)) dX1_product_75 (cAcc h116 mo148 hr9)) hC.2.2.1 (fun q _ h => hFc q h) hFc (fun u9 t9 H1 locs ht hvm hw hB hz1 hk1 hS => ?_)
              obtain ⟨⟨hP, hK1, hD1⟩, hsz1⟩ := hB
              rw [ht] at hP hsz1
              have hC : CP dC dI Q A s.heap p147.2 H1 locs := ⟨hP, hD1.weaken (fun _ _ _ h => hFc _ h), hS, hsz1⟩
              generalize H1 = H at hC ⊢
              have h150 : z9h ≤ CS.hs p147.2 := Nat.le_trans h116 mo148
              refine W.widen (k := CS.hs p147.2 - z9h) (n := 17 * (CS.hs p147.2 - z9h)) (cAcc2 h116 mo148) (cAcc3 h116 mo148) ?_
              refine lv_aload_n hx hb dX1_product_78 rfl (lv_at hl 1 rfl) ?_
              obtain ⟨p151, hcp151, hf⟩ := hf_bind hf
              have mo152 : CS.hs p147.2 ≤ CS.hs p151.2 := Mono.go hcp151 (hm1 p147.2)
              have hr9 : CS.hs p151.2 ≤ CS.hs R.2 := Mono.go hf (mono_bind (m_X0_add N p151.2 9 0) (fun p155 => (hMK p155.2 (x1 + 1))))
              have hFc := cFree hC hA
              refine va_callv (va_runU (As := []) (rest := []) ⟨hx, hb, hml, hown, hts⟩ (hE1 p147.2 p151 hcp151) (va_cwU 0 hts hX1_product_X1_factor_u73 rfl rfl rfl rfl (by decide +kernel) ⟨(show (10 + 40 * d) + 1 ≤ (11 + 40 * d) by omega), (show 8 + (1 + 11) + 60 * (10 + 40 * d) ≤ 60 * (11 + 40 * d) by omega)⟩) ⟨zPre.blind, va_recv hK hC.1 (ci := 6) (q0 := 3) rfl rfl, cPre_go hZ hK hC⟩ rfl rfl hl.1 rfl (lv_room (Nat.le_of_ble_eq_true rfl)) dX1_product_79 (cAcc h150 mo152 hr9)) hC.2.2.1 (fun q _ h => hFc q h) hFc (fun u9 t9 H1 locs ht hvm hw hB hz1 hk1 hS => ?_)
              obtain ⟨⟨hP, hK1, hD1⟩, hsz1⟩ := hB
              rw [ht] at hP hsz1
              have hC : CP dC dI Q A s.heap p151.2 H1 locs := ⟨hP, hD1.weaken (fun _ _ _ h => hFc _ h), hS, hsz1⟩
              generalize H1 = H at hC ⊢
              have h154 : z9h ≤ CS.hs p151.2 := Nat.le_trans h150 mo152
              refine W.widen (k := CS.hs p151.2 - z9h) (n := 17 * (CS.hs p151.2 - z9h)) (cAcc2 h150 mo152) (cAcc3 h150 mo152) ?_
              refine lv_aload_n hx hb dX1_product_82 rfl (lv_at hl 1 rfl) ?_
              refine cG_29 hx hb hts i_X1_product_X7 hown hK hC (hts (.fieldLink RX1 22 "StatementRules2$Formulas" "code" "LStatementRules2$Code;") k_X1_product_fieldLink_RX1_22_SR_Formulas_code_LSR_Code) (fun _ q9 => q9) dX1_product_83 ?_
              refine lv_iload_n hx hb dX1_product_86 rfl (lv_at hl 0 rfl) ?_
              refine lv_iconst (v := 0) hx hb dX1_product_87 (by decide) ?_
              obtain ⟨p155, hcp155, hf⟩ := hf_bind hf
              have mo156 : CS.hs p151.2 ≤ CS.hs p155.2 := Mono.go hcp155 (m_X0_add N p151.2 9 0)
              have hr9 : CS.hs p155.2 ≤ CS.hs R.2 := Mono.go hf (hMK p155.2 (x1 + 1))
              have hFc := cFree hC hA
              refine va_callv (va_runV (As := [.int 9, .int 0]) (rest := []) ⟨hx, hb, hml, hown, hts⟩ (c_X0_add l dC dI Q N p151.2 9 0 p155 hcp155) (cwV 2 hts hX1_product_X0_add_v68 rfl rfl rfl (by decide +kernel) ⟨(show 2 + 1 ≤ (11 + 40 * d) by omega), (show 8 + (3 + 11) + 60 * 2 ≤ 60 * (11 + 40 * d) by omega)⟩) ⟨zPre.blind, va_recv hK hC.1 (ci := 0) (q0 := 2) rfl rfl, cPre_go hZ hK hC⟩ rfl rfl hl.1 rfl (lv_room (Nat.le_of_ble_eq_true rfl)) dX1_product_88 (cAcc h154 mo156 hr9)) hC.2.2.1 (fun q _ h => hFc q h) hFc (fun u9 t9 H1 locs ht hvm hw hB hz1 hk1 hS => ?_)
              obtain ⟨⟨hP, hK1, hD1⟩, hsz1⟩ := hB
              rw [ht] at hP hsz1
              have hC : CP dC dI Q A s.heap p155.2 H1 locs := ⟨hP, hD1.weaken (fun _ _ _ h => hFc _ h), hS, hsz1⟩
              generalize H1 = H at hC ⊢
              have h158 : z9h ≤ CS.hs p155.2 := Nat.le_trans h154 mo156
              refine W.widen (k := CS.hs p155.2 - z9h) (n := 17 * (CS.hs p155.2 - z9h)) (cAcc2 h154 mo156) (cAcc3 h154 mo156) ?_
              refine lv_iinc (v := (x1 + 1)) (lv' := [(1, .int (x1 + 1)), (2, .int 9), (0, .ref (Q.o 3))]) hx hb dX1_product_91 hl (k := 2) rfl rfl (by decide) rfl (fun ls hl => ?_)
              refine lv_goto (tgt := 6) hx hb dX1_product_94 (by decide) ?_
              exact ih p155.2 (x1 + 1) _ _ _ hf h158 hC (lv_sub hl [2, 0] rfl)
set_option maxHeartbeats 4000000 in
set_option maxRecDepth 100000 in
theorem c_X1_product (l : Launch) (dC : Nat → ClassId) (dI : Nat → Nat → Nat) (Q : CQ) (N : Nat) (d : Nat) (E1 : CS → Option (Unit × CS)) (E2 : CS → Option (Int32 × CS)) (hE1 : cMF l dC dI Q d E1) (hE2 : cMO l dC dI Q d E2) (hm1 : ∀ σ, Mono (CS.hs σ) (E1 σ)) (hm2 : ∀ σ, Mono (CS.hs σ) (E2 σ)) (σ : CS) (R : Unit × CS) (hf : f_X1_product N E1 E2 σ = some R) : Met l yX1_product wzX1_product ({ frames := (11 + 40 * d), cells := CS.hs R.2 - CS.hs σ, slots := 17 * (CS.hs R.2 - CS.hs σ), locals := 60 * (11 + 40 * d) }) (va_Pc [.ref (Q.o 3)] (zPre dC dI (CS.hs σ) (cW Q σ) (cT Q))) (va_Qv (fun (_ : Unit) => True) (fun (_ : Unit) (t : State) => zPost dC dI (va_A (cW Q σ) (CS.hs σ)) (cW Q R.2) (cT Q) t ∧ t.heap.size = CS.hs R.2) (va_A (cW Q σ) (CS.hs σ))) (CS.hs R.2 - CS.hs σ) (17 * (CS.hs R.2 - CS.hs σ)) (va_A (cW Q σ) (CS.hs σ)) := by
  refine Met.ofW (cc := cX1_product) (maxL := 3) (ret := none) (by decide) rfl ?_
  intro p e s m args below meth c s₁ B hml hv
  obtain ⟨rfl, hsz, hZ, hP, hK, hD0⟩ := hv
  have hx := B.exec
  have hb := B.bytes
  have hr := B.returns
  have hts := atoms_spec (ws := wzX1_product) B.pre
  have hown : s.vm.findClass RX1 = some m.cls := findClass_of_methodNamed B.named
  have hlocks := B.notSynchronized
  have hD := hD0.self (sz := CS.hs σ)
  generalize hAe : va_A (cW Q σ) (CS.hs σ) = A at hD ⊢
  have hA : ∀ q : Nat, s.heap.size ≤ q → A q := fun q h => by rw [← hAe]; exact Or.inr (hsz ▸ h)
  have hC : CP dC dI Q A s.heap σ s.heap [] := ⟨hP, hD, va_S.rf, hsz⟩
  have h0 : CS.hs σ ≤ CS.hs σ := Nat.le_refl _
  have hl := lv_entry ([.ref (Q.o 3)]) (n := 3) (Nat.le_of_ble_eq_true rfl)
  rw [lg_entry_eq]
  generalize (lg_sl ([.ref (Q.o 3)]) ++ List.replicate (3 - (lg_sl ([.ref (Q.o 3)])).length) Slot.unset).toArray = ls at hl ⊢
  have hl : lv_has ls 3 [(0, .ref (Q.o 3))] := hl
  unfold f_X1_product at hf
  refine W.widen (k := CS.hs σ - CS.hs σ) (n := 17 * (CS.hs σ - CS.hs σ)) (Nat.zero_le _) (Nat.zero_le _) ?_
  refine lv_aload_n hx hb dX1_product_0 rfl (lv_at hl 0 rfl) ?_
  obtain ⟨p1, hcp1, hf⟩ := hf_bind hf
  have mo2 : CS.hs σ ≤ CS.hs p1.2 := Mono.go hcp1 (hm1 σ)
  have hr9 : CS.hs p1.2 ≤ CS.hs R.2 := Mono.go hf (m_X1_product_6 N E1 E2 hm1 hm2 N p1.2 0)
  have hFc := cFree hC hA
  refine va_callv (va_runU (As := []) (rest := []) ⟨hx, hb, hml, hown, hts⟩ (hE1 σ p1 hcp1) (va_cwU 0 hts hX1_product_X1_factor_u73 rfl rfl rfl rfl (by decide +kernel) ⟨(show (10 + 40 * d) + 1 ≤ (11 + 40 * d) by omega), (show 8 + (1 + 11) + 60 * (10 + 40 * d) ≤ 60 * (11 + 40 * d) by omega)⟩) ⟨zPre.blind, va_recv hK hC.1 (ci := 6) (q0 := 3) rfl rfl, cPre_go hZ hK hC⟩ rfl rfl hl.1 rfl (lv_room (Nat.le_of_ble_eq_true rfl)) dX1_product_1 (cAcc h0 mo2 hr9)) hC.2.2.1 (fun q _ h => hFc q h) hFc (fun u9 t9 H1 locs ht hvm hw hB hz1 hk1 hS => ?_)
  obtain ⟨⟨hP, hK1, hD1⟩, hsz1⟩ := hB
  rw [ht] at hP hsz1
  have hC : CP dC dI Q A s.heap p1.2 H1 locs := ⟨hP, hD1.weaken (fun _ _ _ h => hFc _ h), hS, hsz1⟩
  generalize H1 = H at hC ⊢
  have h4 : (CS.hs σ) ≤ CS.hs p1.2 := Nat.le_trans h0 mo2
  refine W.widen (k := CS.hs p1.2 - (CS.hs σ)) (n := 17 * (CS.hs p1.2 - (CS.hs σ))) (cAcc2 h0 mo2) (cAcc3 h0 mo2) ?_
  refine lv_iconst (v := 0) hx hb dX1_product_4 (by decide) ?_
  refine lv_istore_n (lv' := [(1, .int 0), (0, .ref (Q.o 3))]) hx hb dX1_product_5 rfl hl (by decide) rfl (fun ls hl => ?_)
  exact j_X1_product_6 l dC dI Q N d E1 E2 hE1 hE2 hm1 hm2 (CS.hs σ) R hx hb hr hml hown hts hlocks hZ hA hK N p1.2 0 _ _ _ hf h4 hC (lv_sub hl [1, 0] rfl)
