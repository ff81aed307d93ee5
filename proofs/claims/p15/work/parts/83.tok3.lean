set_option maxHeartbeats 4000000 in
set_option maxRecDepth 100000 in
theorem j_X9_longSign_73 {p : Program} {e : Env} {s : State} {m : MethodId} {args : Array Value} {below : List Frame} {meth : Method} {c : Code} {A : Nat → Prop} (l : Launch) (dC : Nat → ClassId) (dI : Nat → Nat → Nat) (x : Int32) (y : Int32) (hx : p.tables.exec = Jvm.exec) (hb : c.code = cX9_longSign) (hr : meth.sig.returnType = (some .int)) (hml : c.maxLocals = 2) (hown : s.vm.findClass RX9 = some m.cls) (hts : ∀ w ∈ wzX9_longSign, w.before args s = true) (hlocks : meth.locks = false) (hZ : zAMB s) (hA : ∀ q : Nat, s.heap.size ≤ q → A q) (hK : va_K (dC, dI) vwCl [] s) : ∀  (H : Heap) (locs : List Loc) (ls : Array Slot), va_P (dC, dI) vwCl [] H → va_D A [] → va_S A s.heap H locs → lv_has ls 2 [(0, .int x), (1, .int y)] → W p l e ({ frames := 1, cells := 0, slots := 0, locals := 60 }) s m args below meth c H locs 0 0 (MQ below (va_Qi (fun (r : Int32) (_ : Unit) => True) (fun (_ : Unit) (t : State) => zPost dC dI A [] [] t) A) args s 0 0 A) (F0 m 73 ls []) := by
  intro  H locs ls hP hD hS hl
  refine lv_iload_n hx hb dX9_longSign_73 rfl (lv_at hl 0 rfl) ?_
  refine lv_iload_n hx hb dX9_longSign_74 rfl (lv_at hl 1 rfl) ?_
  refine lv_icmp_eq (tgt := 81) hx hb dX9_longSign_75 (by decide) (fun c3 => ?_) (fun c3 => ?_)
  ·
    refine lv_iload_n hx hb dX9_longSign_81 rfl (lv_at hl 0 rfl) ?_
    refine lv_bipush (v := 38) hx hb dX9_longSign_82 (by decide) ?_
    refine lv_icmp_ne (tgt := 93) hx hb dX9_longSign_84 (by decide) (fun c4 => ?_) (fun c4 => ?_)
    ·
      refine lv_iload_n hx hb dX9_longSign_93 rfl (lv_at hl 0 rfl) ?_
      refine lv_bipush (v := 124) hx hb dX9_longSign_94 (by decide) ?_
      refine lv_icmp_ne (tgt := 105) hx hb dX9_longSign_96 (by decide) (fun c5 => ?_) (fun c5 => ?_)
      ·
        refine lv_iload_n hx hb dX9_longSign_105 rfl (lv_at hl 0 rfl) ?_
        refine lv_bipush (v := 43) hx hb dX9_longSign_106 (by decide) ?_
        refine lv_icmp_ne (tgt := 117) hx hb dX9_longSign_108 (by decide) (fun c6 => ?_) (fun c6 => ?_)
        ·
          refine lv_bipush (v := 6) hx hb dX9_longSign_117 (by decide) ?_
          have hP9 := hP.sub (ws' := []) [] rfl
          have hD9 := hD.sub (ws' := []) [] (by decide) rfl
          have hK9 := hK.sub (tys' := []) [] rfl
          exact W.iret (v := 6) hx hb hr (fun t ht hW => ⟨⟨6, (), rfl, trivial, by rw [ht]; exact hP9, va_K.moved hW.alike hK9, hD9⟩, hS.F ht⟩) hS.2.2 dX9_longSign_119
        ·
          refine lv_sipush (v := 135) hx hb dX9_longSign_111 (by decide) ?_
          refine lv_goto (tgt := 119) hx hb dX9_longSign_114 (by decide) ?_
          have hP9 := hP.sub (ws' := []) [] rfl
          have hD9 := hD.sub (ws' := []) [] (by decide) rfl
          have hK9 := hK.sub (tys' := []) [] rfl
          exact W.iret (v := 135) hx hb hr (fun t ht hW => ⟨⟨135, (), rfl, trivial, by rw [ht]; exact hP9, va_K.moved hW.alike hK9, hD9⟩, hS.F ht⟩) hS.2.2 dX9_longSign_119
      ·
        refine lv_sipush (v := 133) hx hb dX9_longSign_99 (by decide) ?_
        refine lv_goto (tgt := 119) hx hb dX9_longSign_102 (by decide) ?_
        have hP9 := hP.sub (ws' := []) [] rfl
        have hD9 := hD.sub (ws' := []) [] (by decide) rfl
        have hK9 := hK.sub (tys' := []) [] rfl
        exact W.iret (v := 133) hx hb hr (fun t ht hW => ⟨⟨133, (), rfl, trivial, by rw [ht]; exact hP9, va_K.moved hW.alike hK9, hD9⟩, hS.F ht⟩) hS.2.2 dX9_longSign_119
    ·
      refine lv_sipush (v := 132) hx hb dX9_longSign_87 (by decide) ?_
      refine lv_goto (tgt := 119) hx hb dX9_longSign_90 (by decide) ?_
      have hP9 := hP.sub (ws' := []) [] rfl
      have hD9 := hD.sub (ws' := []) [] (by decide) rfl
      have hK9 := hK.sub (tys' := []) [] rfl
      exact W.iret (v := 132) hx hb hr (fun t ht hW => ⟨⟨132, (), rfl, trivial, by rw [ht]; exact hP9, va_K.moved hW.alike hK9, hD9⟩, hS.F ht⟩) hS.2.2 dX9_longSign_119
  ·
    refine lv_bipush (v := 6) hx hb dX9_longSign_78 (by decide) ?_
    have hP9 := hP.sub (ws' := []) [] rfl
    have hD9 := hD.sub (ws' := []) [] (by decide) rfl
    have hK9 := hK.sub (tys' := []) [] rfl
    exact W.iret (v := 6) hx hb hr (fun t ht hW => ⟨⟨6, (), rfl, trivial, by rw [ht]; exact hP9, va_K.moved hW.alike hK9, hD9⟩, hS.F ht⟩) hS.2.2 dX9_longSign_80
set_option maxHeartbeats 4000000 in
set_option maxRecDepth 100000 in
theorem c_X9_longSign (l : Launch) (dC : Nat → ClassId) (dI : Nat → Nat → Nat) (sz : Nat) (x : Int32) (y : Int32) : Met l yX9_longSign wzX9_longSign ({ frames := 1, cells := 0, slots := 0, locals := 60 }) (va_Pc [.int x, .int y] (zPre dC dI sz [] [])) (va_Qi (fun (r : Int32) (_ : Unit) => True) (fun (_ : Unit) (t : State) => zPost dC dI (va_A [] sz) [] [] t) (va_A [] sz)) 0 0 (va_A [] sz) := by
  refine Met.ofW (cc := cX9_longSign) (maxL := 2) (ret := (some .int)) (by decide) rfl ?_
  intro p e s m args below meth c s₁ B hml hv
  obtain ⟨rfl, hsz, hZ, hP, hK, hD0⟩ := hv
  have hx := B.exec
  have hb := B.bytes
  have hr := B.returns
  have hts := atoms_spec (ws := wzX9_longSign) B.pre
  have hown : s.vm.findClass RX9 = some m.cls := findClass_of_methodNamed B.named
  have hlocks := B.notSynchronized
  subst hsz
  have hD := hD0.self (sz := s.heap.size)
  generalize hAe : va_A [] s.heap.size = A at hD ⊢
  have hA : ∀ q : Nat, s.heap.size ≤ q → A q := fun q h => by rw [← hAe]; exact Or.inr h
  have hS : va_S A s.heap s.heap [] := va_S.rf
  have hP : va_P (dC, dI) vwCl [] s.heap := hP
  have hl := lv_entry ([.int x, .int y]) (n := 2) (Nat.le_of_ble_eq_true rfl)
  rw [lg_entry_eq]
  generalize (lg_sl ([.int x, .int y]) ++ List.replicate (2 - (lg_sl ([.int x, .int y])).length) Slot.unset).toArray = ls at hl ⊢
  have hl : lv_has ls 2 [(0, .int x), (1, .int y)] := hl
  refine lv_iload_n hx hb dX9_longSign_0 rfl (lv_at hl 1 rfl) ?_
  refine lv_bipush (v := 61) hx hb dX9_longSign_1 (by decide) ?_
  refine lv_icmp_ne (tgt := 57) hx hb dX9_longSign_3 (by decide) (fun c1 => ?_) (fun c1 => ?_)
  ·
    refine lv_iload_n hx hb dX9_longSign_57 rfl (lv_at hl 0 rfl) ?_
    refine lv_bipush (v := 45) hx hb dX9_longSign_58 (by decide) ?_
    refine lv_icmp_ne (tgt := 73) hx hb dX9_longSign_60 (by decide) (fun c2 => ?_) (fun c2 => ?_)
    ·
      exact j_X9_longSign_73 l dC dI   x y hx hb hr hml hown hts hlocks hZ hA hK  _ _ _ hP hD hS (lv_sub hl [0, 1] rfl)
    ·
      refine lv_iload_n hx hb dX9_longSign_63 rfl (lv_at hl 1 rfl) ?_
      refine lv_bipush (v := 62) hx hb dX9_longSign_64 (by decide) ?_
      refine lv_icmp_ne (tgt := 73) hx hb dX9_longSign_66 (by decide) (fun c7 => ?_) (fun c7 => ?_)
      ·
        exact j_X9_longSign_73 l dC dI   x y hx hb hr hml hown hts hlocks hZ hA hK  _ _ _ hP hD hS (lv_sub hl [0, 1] rfl)
      ·
        refine lv_sipush (v := 134) hx hb dX9_longSign_69 (by decide) ?_
        have hP9 := hP.sub (ws' := []) [] rfl
        have hD9 := hD.sub (ws' := []) [] (by decide) rfl
        have hK9 := hK.sub (tys' := []) [] rfl
        exact W.iret (v := 134) hx hb hr (fun t ht hW => ⟨⟨134, (), rfl, trivial, by rw [ht]; exact hP9, va_K.moved hW.alike hK9, hD9⟩, hS.F ht⟩) hS.2.2 dX9_longSign_72
  ·
    refine lv_iload_n hx hb dX9_longSign_6 rfl (lv_at hl 0 rfl) ?_
    refine lv_bipush (v := 60) hx hb dX9_longSign_7 (by decide) ?_
    refine lv_icmp_ne (tgt := 18) hx hb dX9_longSign_9 (by decide) (fun c8 => ?_) (fun c8 => ?_)
    ·
      refine lv_iload_n hx hb dX9_longSign_18 rfl (lv_at hl 0 rfl) ?_
      refine lv_bipush (v := 62) hx hb dX9_longSign_19 (by decide) ?_
      refine lv_icmp_ne (tgt := 30) hx hb dX9_longSign_21 (by decide) (fun c9 => ?_) (fun c9 => ?_)
      ·
        refine lv_iload_n hx hb dX9_longSign_30 rfl (lv_at hl 0 rfl) ?_
        refine lv_bipush (v := 61) hx hb dX9_longSign_31 (by decide) ?_
        refine lv_icmp_ne (tgt := 42) hx hb dX9_longSign_33 (by decide) (fun c10 => ?_) (fun c10 => ?_)
        ·
          refine lv_iload_n hx hb dX9_longSign_42 rfl (lv_at hl 0 rfl) ?_
          refine lv_bipush (v := 33) hx hb dX9_longSign_43 (by decide) ?_
          refine lv_icmp_ne (tgt := 54) hx hb dX9_longSign_45 (by decide) (fun c11 => ?_) (fun c11 => ?_)
          ·
            refine lv_bipush (v := 6) hx hb dX9_longSign_54 (by decide) ?_
            have hP9 := hP.sub (ws' := []) [] rfl
            have hD9 := hD.sub (ws' := []) [] (by decide) rfl
            have hK9 := hK.sub (tys' := []) [] rfl
            exact W.iret (v := 6) hx hb hr (fun t ht hW => ⟨⟨6, (), rfl, trivial, by rw [ht]; exact hP9, va_K.moved hW.alike hK9, hD9⟩, hS.F ht⟩) hS.2.2 dX9_longSign_56
          ·
            refine lv_sipush (v := 131) hx hb dX9_longSign_48 (by decide) ?_
            refine lv_goto (tgt := 56) hx hb dX9_longSign_51 (by decide) ?_
            have hP9 := hP.sub (ws' := []) [] rfl
            have hD9 := hD.sub (ws' := []) [] (by decide) rfl
            have hK9 := hK.sub (tys' := []) [] rfl
            exact W.iret (v := 131) hx hb hr (fun t ht hW => ⟨⟨131, (), rfl, trivial, by rw [ht]; exact hP9, va_K.moved hW.alike hK9, hD9⟩, hS.F ht⟩) hS.2.2 dX9_longSign_56
        ·
          refine lv_sipush (v := 130) hx hb dX9_longSign_36 (by decide) ?_
          refine lv_goto (tgt := 56) hx hb dX9_longSign_39 (by decide) ?_
          have hP9 := hP.sub (ws' := []) [] rfl
          have hD9 := hD.sub (ws' := []) [] (by decide) rfl
          have hK9 := hK.sub (tys' := []) [] rfl
          exact W.iret (v := 130) hx hb hr (fun t ht hW => ⟨⟨130, (), rfl, trivial, by rw [ht]; exact hP9, va_K.moved hW.alike hK9, hD9⟩, hS.F ht⟩) hS.2.2 dX9_longSign_56
      ·
        refine lv_sipush (v := 129) hx hb dX9_longSign_24 (by decide) ?_
        refine lv_goto (tgt := 56) hx hb dX9_longSign_27 (by decide) ?_
        have hP9 := hP.sub (ws' := []) [] rfl
        have hD9 := hD.sub (ws' := []) [] (by decide) rfl
        have hK9 := hK.sub (tys' := []) [] rfl
        exact W.iret (v := 129) hx hb hr (fun t ht hW => ⟨⟨129, (), rfl, trivial, by rw [ht]; exact hP9, va_K.moved hW.alike hK9, hD9⟩, hS.F ht⟩) hS.2.2 dX9_longSign_56
    ·
      refine lv_sipush (v := 128) hx hb dX9_longSign_12 (by decide) ?_
      refine lv_goto (tgt := 56) hx hb dX9_longSign_15 (by decide) ?_
      have hP9 := hP.sub (ws' := []) [] rfl
      have hD9 := hD.sub (ws' := []) [] (by decide) rfl
      have hK9 := hK.sub (tys' := []) [] rfl
      exact W.iret (v := 128) hx hb hr (fun t ht hW => ⟨⟨128, (), rfl, trivial, by rw [ht]; exact hP9, va_K.moved hW.alike hK9, hD9⟩, hS.F ht⟩) hS.2.2 dX9_longSign_56
set_option maxHeartbeats 4000000 in
set_option maxRecDepth 100000 in
theorem c_X9_isSign (l : Launch) (dC : Nat → ClassId) (dI : Nat → Nat → Nat) (sz : Nat) (x : Int32) : Met l yX9_isSign wzX9_isSign ({ frames := 1, cells := 0, slots := 0, locals := 60 }) (va_Pc [.int x] (zPre dC dI sz [] [])) (va_Qi (fun (r : Int32) (_ : Unit) => r = 0 ∨ r = 1) (fun (_ : Unit) (t : State) => zPost dC dI (va_A [] sz) [] [] t) (va_A [] sz)) 0 0 (va_A [] sz) := by
  refine Met.ofW (cc := cX9_isSign) (maxL := 1) (ret := (some .boolean)) (by decide) rfl ?_
  intro p e s m args below meth c s₁ B hml hv
  obtain ⟨rfl, hsz, hZ, hP, hK, hD0⟩ := hv
  have hx := B.exec
  have hb := B.bytes
  have hr := B.returns
  have hts := atoms_spec (ws := wzX9_isSign) B.pre
  have hown : s.vm.findClass RX9 = some m.cls := findClass_of_methodNamed B.named
  have hlocks := B.notSynchronized
  subst hsz
  have hD := hD0.self (sz := s.heap.size)
  generalize hAe : va_A [] s.heap.size = A at hD ⊢
  have hA : ∀ q : Nat, s.heap.size ≤ q → A q := fun q h => by rw [← hAe]; exact Or.inr h
  have hS : va_S A s.heap s.heap [] := va_S.rf
  have hP : va_P (dC, dI) vwCl [] s.heap := hP
  have hl := lv_entry ([.int x]) (n := 1) (Nat.le_of_ble_eq_true rfl)
  rw [lg_entry_eq]
  generalize (lg_sl ([.int x]) ++ List.replicate (1 - (lg_sl ([.int x])).length) Slot.unset).toArray = ls at hl ⊢
  have hl : lv_has ls 1 [(0, .int x)] := hl
  refine lv_iload_n hx hb dX9_isSign_0 rfl (lv_at hl 0 rfl) ?_
  by_cases c1 : x = 33
  ·
    refine lv_lookup (off := 163) (tgt := 164) hx hb dX9_isSign_1 (by decide) (by rw [c1]; decide) (by decide) ?_
    refine lv_iconst (v := 1) hx hb dX9_isSign_164 (by decide) ?_
    have hP9 := hP.sub (ws' := []) [] rfl
    have hD9 := hD.sub (ws' := []) [] (by decide) rfl
    have hK9 := hK.sub (tys' := []) [] rfl
    exact W.zret (v := 1) hx hb hr (rfl) (fun t ht hW => ⟨⟨1, (), rfl, (Or.inr rfl), by rw [ht]; exact hP9, va_K.moved hW.alike hK9, hD9⟩, hS.F ht⟩) hS.2.2 dX9_isSign_165
  by_cases c2 : x = 37
  ·
    refine lv_lookup (off := 163) (tgt := 164) hx hb dX9_isSign_1 (by decide) (by rw [c2]; decide) (by decide) ?_
    refine lv_iconst (v := 1) hx hb dX9_isSign_164 (by decide) ?_
    have hP9 := hP.sub (ws' := []) [] rfl
    have hD9 := hD.sub (ws' := []) [] (by decide) rfl
    have hK9 := hK.sub (tys' := []) [] rfl
    exact W.zret (v := 1) hx hb hr (rfl) (fun t ht hW => ⟨⟨1, (), rfl, (Or.inr rfl), by rw [ht]; exact hP9, va_K.moved hW.alike hK9, hD9⟩, hS.F ht⟩) hS.2.2 dX9_isSign_165
  by_cases c3 : x = 40
  ·
    refine lv_lookup (off := 163) (tgt := 164) hx hb dX9_isSign_1 (by decide) (by rw [c3]; decide) (by decide) ?_
    refine lv_iconst (v := 1) hx hb dX9_isSign_164 (by decide) ?_
    have hP9 := hP.sub (ws' := []) [] rfl
    have hD9 := hD.sub (ws' := []) [] (by decide) rfl
    have hK9 := hK.sub (tys' := []) [] rfl
    exact W.zret (v := 1) hx hb hr (rfl) (fun t ht hW => ⟨⟨1, (), rfl, (Or.inr rfl), by rw [ht]; exact hP9, va_K.moved hW.alike hK9, hD9⟩, hS.F ht⟩) hS.2.2 dX9_isSign_165
  by_cases c4 : x = 41
  ·
    refine lv_lookup (off := 163) (tgt := 164) hx hb dX9_isSign_1 (by decide) (by rw [c4]; decide) (by decide) ?_
    refine lv_iconst (v := 1) hx hb dX9_isSign_164 (by decide) ?_
    have hP9 := hP.sub (ws' := []) [] rfl
    have hD9 := hD.sub (ws' := []) [] (by decide) rfl
    have hK9 := hK.sub (tys' := []) [] rfl
    exact W.zret (v := 1) hx hb hr (rfl) (fun t ht hW => ⟨⟨1, (), rfl, (Or.inr rfl), by rw [ht]; exact hP9, va_K.moved hW.alike hK9, hD9⟩, hS.F ht⟩) hS.2.2 dX9_isSign_165
  by_cases c5 : x = 42
  ·
    refine lv_lookup (off := 163) (tgt := 164) hx hb dX9_isSign_1 (by decide) (by rw [c5]; decide) (by decide) ?_
    refine lv_iconst (v := 1) hx hb dX9_isSign_164 (by decide) ?_
    have hP9 := hP.sub (ws' := []) [] rfl
    have hD9 := hD.sub (ws' := []) [] (by decide) rfl
    have hK9 := hK.sub (tys' := []) [] rfl
    exact W.zret (v := 1) hx hb hr (rfl) (fun t ht hW => ⟨⟨1, (), rfl, (Or.inr rfl), by rw [ht]; exact hP9, va_K.moved hW.alike hK9, hD9⟩, hS.F ht⟩) hS.2.2 dX9_isSign_165
  by_cases c6 : x = 43
  ·
    refine lv_lookup (off := 163) (tgt := 164) hx hb dX9_isSign_1 (by decide) (by rw [c6]; decide) (by decide) ?_
    refine lv_iconst (v := 1) hx hb dX9_isSign_164 (by decide) ?_
    have hP9 := hP.sub (ws' := []) [] rfl
    have hD9 := hD.sub (ws' := []) [] (by decide) rfl
    have hK9 := hK.sub (tys' := []) [] rfl
    exact W.zret (v := 1) hx hb hr (rfl) (fun t ht hW => ⟨⟨1, (), rfl, (Or.inr rfl), by rw [ht]; exact hP9, va_K.moved hW.alike hK9, hD9⟩, hS.F ht⟩) hS.2.2 dX9_isSign_165
  by_cases c7 : x = 44
  ·
    refine lv_lookup (off := 163) (tgt := 164) hx hb dX9_isSign_1 (by decide) (by rw [c7]; decide) (by decide) ?_
    refine lv_iconst (v := 1) hx hb dX9_isSign_164 (by decide) ?_
    have hP9 := hP.sub (ws' := []) [] rfl
    have hD9 := hD.sub (ws' := []) [] (by decide) rfl
    have hK9 := hK.sub (tys' := []) [] rfl
    exact W.zret (v := 1) hx hb hr (rfl) (fun t ht hW => ⟨⟨1, (), rfl, (Or.inr rfl), by rw [ht]; exact hP9, va_K.moved hW.alike hK9, hD9⟩, hS.F ht⟩) hS.2.2 dX9_isSign_165
  by_cases c8 : x = 45
  ·
    refine lv_lookup (off := 163) (tgt := 164) hx hb dX9_isSign_1 (by decide) (by rw [c8]; decide) (by decide) ?_
    refine lv_iconst (v := 1) hx hb dX9_isSign_164 (by decide) ?_
    have hP9 := hP.sub (ws' := []) [] rfl
    have hD9 := hD.sub (ws' := []) [] (by decide) rfl
    have hK9 := hK.sub (tys' := []) [] rfl
    exact W.zret (v := 1) hx hb hr (rfl) (fun t ht hW => ⟨⟨1, (), rfl, (Or.inr rfl), by rw [ht]; exact hP9, va_K.moved hW.alike hK9, hD9⟩, hS.F ht⟩) hS.2.2 dX9_isSign_165
  by_cases c9 : x = 47
  ·
    refine lv_lookup (off := 163) (tgt := 164) hx hb dX9_isSign_1 (by decide) (by rw [c9]; decide) (by decide) ?_
    refine lv_iconst (v := 1) hx hb dX9_isSign_164 (by decide) ?_
    have hP9 := hP.sub (ws' := []) [] rfl
    have hD9 := hD.sub (ws' := []) [] (by decide) rfl
    have hK9 := hK.sub (tys' := []) [] rfl
    exact W.zret (v := 1) hx hb hr (rfl) (fun t ht hW => ⟨⟨1, (), rfl, (Or.inr rfl), by rw [ht]; exact hP9, va_K.moved hW.alike hK9, hD9⟩, hS.F ht⟩) hS.2.2 dX9_isSign_165
  by_cases c10 : x = 58
  ·
    refine lv_lookup (off := 163) (tgt := 164) hx hb dX9_isSign_1 (by decide) (by rw [c10]; decide) (by decide) ?_
    refine lv_iconst (v := 1) hx hb dX9_isSign_164 (by decide) ?_
    have hP9 := hP.sub (ws' := []) [] rfl
    have hD9 := hD.sub (ws' := []) [] (by decide) rfl
    have hK9 := hK.sub (tys' := []) [] rfl
    exact W.zret (v := 1) hx hb hr (rfl) (fun t ht hW => ⟨⟨1, (), rfl, (Or.inr rfl), by rw [ht]; exact hP9, va_K.moved hW.alike hK9, hD9⟩, hS.F ht⟩) hS.2.2 dX9_isSign_165
  by_cases c11 : x = 59
  ·
    refine lv_lookup (off := 163) (tgt := 164) hx hb dX9_isSign_1 (by decide) (by rw [c11]; decide) (by decide) ?_
    refine lv_iconst (v := 1) hx hb dX9_isSign_164 (by decide) ?_
    have hP9 := hP.sub (ws' := []) [] rfl
    have hD9 := hD.sub (ws' := []) [] (by decide) rfl
    have hK9 := hK.sub (tys' := []) [] rfl
    exact W.zret (v := 1) hx hb hr (rfl) (fun t ht hW => ⟨⟨1, (), rfl, (Or.inr rfl), by rw [ht]; exact hP9, va_K.moved hW.alike hK9, hD9⟩, hS.F ht⟩) hS.2.2 dX9_isSign_165
  by_cases c12 : x = 60
  ·
    refine lv_lookup (off := 163) (tgt := 164) hx hb dX9_isSign_1 (by decide) (by rw [c12]; decide) (by decide) ?_
    refine lv_iconst (v := 1) hx hb dX9_isSign_164 (by decide) ?_
    have hP9 := hP.sub (ws' := []) [] rfl
    have hD9 := hD.sub (ws' := []) [] (by decide) rfl
    have hK9 := hK.sub (tys' := []) [] rfl
    exact W.zret (v := 1) hx hb hr (rfl) (fun t ht hW => ⟨⟨1, (), rfl, (Or.inr rfl), by rw [ht]; exact hP9, va_K.moved hW.alike hK9, hD9⟩, hS.F ht⟩) hS.2.2 dX9_isSign_165
  by_cases c13 : x = 61
  ·
    refine lv_lookup (off := 163) (tgt := 164) hx hb dX9_isSign_1 (by decide) (by rw [c13]; decide) (by decide) ?_
    refine lv_iconst (v := 1) hx hb dX9_isSign_164 (by decide) ?_
    have hP9 := hP.sub (ws' := []) [] rfl
    have hD9 := hD.sub (ws' := []) [] (by decide) rfl
    have hK9 := hK.sub (tys' := []) [] rfl
    exact W.zret (v := 1) hx hb hr (rfl) (fun t ht hW => ⟨⟨1, (), rfl, (Or.inr rfl), by rw [ht]; exact hP9, va_K.moved hW.alike hK9, hD9⟩, hS.F ht⟩) hS.2.2 dX9_isSign_165
  by_cases c14 : x = 62
  ·
    refine lv_lookup (off := 163) (tgt := 164) hx hb dX9_isSign_1 (by decide) (by rw [c14]; decide) (by decide) ?_
    refine lv_iconst (v := 1) hx hb dX9_isSign_164 (by decide) ?_
    have hP9 := hP.sub (ws' := []) [] rfl
    have hD9 := hD.sub (ws' := []) [] (by decide) rfl
    have hK9 := hK.sub (tys' := []) [] rfl
    exact W.zret (v := 1) hx hb hr (rfl) (fun t ht hW => ⟨⟨1, (), rfl, (Or.inr rfl), by rw [ht]; exact hP9, va_K.moved hW.alike hK9, hD9⟩, hS.F ht⟩) hS.2.2 dX9_isSign_165
  by_cases c15 : x = 91
  ·
    refine lv_lookup (off := 163) (tgt := 164) hx hb dX9_isSign_1 (by decide) (by rw [c15]; decide) (by decide) ?_
    refine lv_iconst (v := 1) hx hb dX9_isSign_164 (by decide) ?_
    have hP9 := hP.sub (ws' := []) [] rfl
    have hD9 := hD.sub (ws' := []) [] (by decide) rfl
    have hK9 := hK.sub (tys' := []) [] rfl
    exact W.zret (v := 1) hx hb hr (rfl) (fun t ht hW => ⟨⟨1, (), rfl, (Or.inr rfl), by rw [ht]; exact hP9, va_K.moved hW.alike hK9, hD9⟩, hS.F ht⟩) hS.2.2 dX9_isSign_165
  by_cases c16 : x = 93
  ·
    refine lv_lookup (off := 163) (tgt := 164) hx hb dX9_isSign_1 (by decide) (by rw [c16]; decide) (by decide) ?_
    refine lv_iconst (v := 1) hx hb dX9_isSign_164 (by decide) ?_
    have hP9 := hP.sub (ws' := []) [] rfl
    have hD9 := hD.sub (ws' := []) [] (by decide) rfl
    have hK9 := hK.sub (tys' := []) [] rfl
    exact W.zret (v := 1) hx hb hr (rfl) (fun t ht hW => ⟨⟨1, (), rfl, (Or.inr rfl), by rw [ht]; exact hP9, va_K.moved hW.alike hK9, hD9⟩, hS.F ht⟩) hS.2.2 dX9_isSign_165
  by_cases c17 : x = 123
  ·
    refine lv_lookup (off := 163) (tgt := 164) hx hb dX9_isSign_1 (by decide) (by rw [c17]; decide) (by decide) ?_
    refine lv_iconst (v := 1) hx hb dX9_isSign_164 (by decide) ?_
    have hP9 := hP.sub (ws' := []) [] rfl
    have hD9 := hD.sub (ws' := []) [] (by decide) rfl
    have hK9 := hK.sub (tys' := []) [] rfl
    exact W.zret (v := 1) hx hb hr (rfl) (fun t ht hW => ⟨⟨1, (), rfl, (Or.inr rfl), by rw [ht]; exact hP9, va_K.moved hW.alike hK9, hD9⟩, hS.F ht⟩) hS.2.2 dX9_isSign_165
  by_cases c18 : x = 124
  ·
    refine lv_lookup (off := 163) (tgt := 164) hx hb dX9_isSign_1 (by decide) (by rw [c18]; decide) (by decide) ?_
    refine lv_iconst (v := 1) hx hb dX9_isSign_164 (by decide) ?_
    have hP9 := hP.sub (ws' := []) [] rfl
    have hD9 := hD.sub (ws' := []) [] (by decide) rfl
    have hK9 := hK.sub (tys' := []) [] rfl
    exact W.zret (v := 1) hx hb hr (rfl) (fun t ht hW => ⟨⟨1, (), rfl, (Or.inr rfl), by rw [ht]; exact hP9, va_K.moved hW.alike hK9, hD9⟩, hS.F ht⟩) hS.2.2 dX9_isSign_165
  by_cases c19 : x = 125
  ·
    refine lv_lookup (off := 163) (tgt := 164) hx hb dX9_isSign_1 (by decide) (by rw [c19]; decide) (by decide) ?_
    refine lv_iconst (v := 1) hx hb dX9_isSign_164 (by decide) ?_
    have hP9 := hP.sub (ws' := []) [] rfl
    have hD9 := hD.sub (ws' := []) [] (by decide) rfl
    have hK9 := hK.sub (tys' := []) [] rfl
    exact W.zret (v := 1) hx hb hr (rfl) (fun t ht hW => ⟨⟨1, (), rfl, (Or.inr rfl), by rw [ht]; exact hP9, va_K.moved hW.alike hK9, hD9⟩, hS.F ht⟩) hS.2.2 dX9_isSign_165
  refine lv_lookup (off := 165) (tgt := 166) hx hb dX9_isSign_1 (by decide) (by show Op.lookupswitch.offset [(33, 163), (37, 163), (40, 163), (41, 163), (42, 163), (43, 163), (44, 163), (45, 163), (47, 163), (58, 163), (59, 163), (60, 163), (61, 163), (62, 163), (91, 163), (93, 163), (123, 163), (124, 163), (125, 163)] 165 (x : Int32).toInt = 165; rw [lv_osw (k := 33) (a := 33) c1 (by decide), lv_osw (k := 37) (a := 37) c2 (by decide), lv_osw (k := 40) (a := 40) c3 (by decide), lv_osw (k := 41) (a := 41) c4 (by decide), lv_osw (k := 42) (a := 42) c5 (by decide), lv_osw (k := 43) (a := 43) c6 (by decide), lv_osw (k := 44) (a := 44) c7 (by decide), lv_osw (k := 45) (a := 45) c8 (by decide), lv_osw (k := 47) (a := 47) c9 (by decide), lv_osw (k := 58) (a := 58) c10 (by decide), lv_osw (k := 59) (a := 59) c11 (by decide), lv_osw (k := 60) (a := 60) c12 (by decide), lv_osw (k := 61) (a := 61) c13 (by decide), lv_osw (k := 62) (a := 62) c14 (by decide), lv_osw (k := 91) (a := 91) c15 (by decide), lv_osw (k := 93) (a := 93) c16 (by decide), lv_osw (k := 123) (a := 123) c17 (by decide), lv_osw (k := 124) (a := 124) c18 (by decide), lv_osw (k := 125) (a := 125) c19 (by decide)]; rfl) (by decide) ?_
  refine lv_iconst (v := 0) hx hb dX9_isSign_166 (by decide) ?_
  have hP9 := hP.sub (ws' := []) [] rfl
  have hD9 := hD.sub (ws' := []) [] (by decide) rfl
  have hK9 := hK.sub (tys' := []) [] rfl
  exact W.zret (v := 0) hx hb hr (rfl) (fun t ht hW => ⟨⟨0, (), rfl, (Or.inl rfl), by rw [ht]; exact hP9, va_K.moved hW.alike hK9, hD9⟩, hS.F ht⟩) hS.2.2 dX9_isSign_167
