theorem z_vpn {x : Int32} {n : Nat} (hn : n < 2 ^ 31) (h1 : ¬ x < 0) (h2 : ¬ Int32.ofNat n ≤ x) : ib x n := by
  have a := Int32.le_iff_toInt_le.mp (Int32.not_lt.mp h1)
  have b := Int32.lt_iff_toInt_lt.mp (Int32.not_le.mp h2)
  have e8 : (Int32.ofNat n).toInt = n := nI_toInt hn
  rw [z_t0] at a
  rw [e8] at b
  exact ⟨a, b⟩
theorem z_vpm {x : Int32} {n : Nat} (h1 : x < 0) : ¬ ib x n := by
  intro h
  have a := Int32.lt_iff_toInt_lt.mp h1
  rw [z_t0] at a
  omega
theorem z_vpp {x : Int32} {n : Nat} (hn : n < 2 ^ 31) (h2 : Int32.ofNat n ≤ x) : ¬ ib x n := by
  intro h
  have b := Int32.le_iff_toInt_le.mp h2
  have e8 : (Int32.ofNat n).toInt = n := nI_toInt hn
  rw [e8] at b
  omega
set_option maxHeartbeats 4000000 in
set_option maxRecDepth 100000 in
theorem c_X11_at (l : Launch) (dC : Nat → ClassId) (dI : Nat → Nat → Nat) (sz : Nat) (row : Nat) (kA : ClassId) (n : Nat) (f : Nat → Int32) (i : Int32) (hn : n < 2 ^ 31) : Met l yX11_at wzX11_at ({ frames := 1, cells := 0, slots := 0, locals := 60 }) (va_Pc [.ref row, .int i] (zPre dC dI sz [(row, .inl (kA, n, .inl f))] [(kA, .int)])) (va_Qi (fun (r : Int32) (_ : Unit) => r = gAt f n i) (fun (_ : Unit) (t : State) => zPost dC dI (va_A [(row, .inl (kA, n, .inl f))] sz) [(row, .inl (kA, n, .inl f))] [(kA, .int)] t ∧ t.heap.size = sz) (va_A [(row, .inl (kA, n, .inl f))] sz)) 0 0 (va_A [(row, .inl (kA, n, .inl f))] sz) := by
  refine Met.ofW (cc := cX11_at) (maxL := 2) (ret := (some .int)) (by decide) rfl ?_
  intro p e s m args below meth c s₁ B hml hv
  obtain ⟨rfl, hsz, hZ, hP, hK, hD0⟩ := hv
  have hx := B.exec
  have hb := B.bytes
  have hr := B.returns
  have hlocks := B.notSynchronized
  subst hsz
  have hD := hD0.self (sz := s.heap.size)
  generalize hAe : va_A [(row, .inl (kA, n, .inl f))] s.heap.size = A at hD ⊢
  have hS : va_S A s.heap s.heap [] := va_S.rf
  have hl := lv_entry ([.ref row, .int i]) (n := 2) (Nat.le_of_ble_eq_true rfl)
  rw [lg_entry_eq]
  generalize (lg_sl ([.ref row, .int i]) ++ List.replicate (2 - (lg_sl ([.ref row, .int i])).length) Slot.unset).toArray = ls at hl ⊢
  have hl : lv_has ls 2 [(0, .ref row), (1, .int i)] := hl
  refine lv_iload_n hx hb dX11_at_0 rfl (lv_at hl 1 rfl) ?_
  refine lv_if_lt (tgt := 16) hx hb dX11_at_1 (by decide) (fun c1 => ?_) (fun c1 => ?_)
  · refine lv_iconst (v := 0) hx hb dX11_at_16 (by decide) ?_
    exact W.iret (v := 0) hx hb hr (fun t ht hW => ⟨⟨0, (), rfl, (if_neg (z_vpm c1)).symm, ⟨by rw [ht]; exact hP, va_K.moved hW.alike hK, hD⟩, by rw [ht]⟩, hS.F ht⟩) hS.2.2 dX11_at_17
  · refine lv_iload_n hx hb dX11_at_4 rfl (lv_at hl 1 rfl) ?_
    refine lv_aload_n hx hb dX11_at_5 rfl (lv_at hl 0 rfl) ?_
    refine va_alen (v := Int32.ofNat n) hx hb hK hP 0 0 rfl rfl rfl dX11_at_6 ?_
    refine lv_icmp_ge (tgt := 16) hx hb dX11_at_7 (by decide) (fun c2 => ?_) (fun c2 => ?_)
    · refine lv_iconst (v := 0) hx hb dX11_at_16 (by decide) ?_
      exact W.iret (v := 0) hx hb hr (fun t ht hW => ⟨⟨0, (), rfl, (if_neg (z_vpp hn c2)).symm, ⟨by rw [ht]; exact hP, va_K.moved hW.alike hK, hD⟩, by rw [ht]⟩, hS.F ht⟩) hS.2.2 dX11_at_17
    · have hvp := z_vpn hn c1 c2
      refine lv_aload_n hx hb dX11_at_10 rfl (lv_at hl 0 rfl) ?_
      refine lv_iload_n hx hb dX11_at_11 rfl (lv_at hl 1 rfl) ?_
      refine va_iald hx hb hK hP 0 0 rfl rfl (ib_in hvp) dX11_at_12 ?_
      refine lv_goto (tgt := 17) hx hb dX11_at_13 (by decide) ?_
      exact W.iret (v := (f i.toNatClampNeg)) hx hb hr (fun t ht hW => ⟨⟨(f i.toNatClampNeg), (), rfl, (if_pos hvp).symm, ⟨by rw [ht]; exact hP, va_K.moved hW.alike hK, hD⟩, by rw [ht]⟩, hS.F ht⟩) hS.2.2 dX11_at_17
set_option maxHeartbeats 4000000 in
set_option maxRecDepth 100000 in
theorem c_X11_put (l : Launch) (dC : Nat → ClassId) (dI : Nat → Nat → Nat) (sz : Nat) (row : Nat) (kA : ClassId) (n : Nat) (f : Nat → Int32) (i : Int32) (v : Int32) (hn : n < 2 ^ 31) : Met l yX11_put wzX11_put ({ frames := 1, cells := 0, slots := 0, locals := 60 }) (va_Pc [.ref row, .int i, .int v] (zPre dC dI sz [(row, .inl (kA, n, .inl f))] [(kA, .int)])) (va_Qv (fun (_ : Unit) => True) (fun (_ : Unit) (t : State) => zPost dC dI (va_A [(row, .inl (kA, n, .inl f))] sz) [(row, .inl (kA, n, .inl (gPut f n i v)))] [(kA, .int)] t ∧ t.heap.size = sz) (va_A [(row, .inl (kA, n, .inl f))] sz)) 0 0 (va_A [(row, .inl (kA, n, .inl f))] sz) := by
  refine Met.ofW (cc := cX11_put) (maxL := 3) (ret := none) (by decide) rfl ?_
  intro p e s m args below meth c s₁ B hml hv
  obtain ⟨rfl, hsz, hZ, hP, hK, hD0⟩ := hv
  have hx := B.exec
  have hb := B.bytes
  have hr := B.returns
  have hlocks := B.notSynchronized
  subst hsz
  have hD := hD0.self (sz := s.heap.size)
  generalize hAe : va_A [(row, .inl (kA, n, .inl f))] s.heap.size = A at hD ⊢
  have hS : va_S A s.heap s.heap [] := va_S.rf
  have hl := lv_entry ([.ref row, .int i, .int v]) (n := 3) (Nat.le_of_ble_eq_true rfl)
  rw [lg_entry_eq]
  generalize (lg_sl ([.ref row, .int i, .int v]) ++ List.replicate (3 - (lg_sl ([.ref row, .int i, .int v])).length) Slot.unset).toArray = ls at hl ⊢
  have hl : lv_has ls 3 [(0, .ref row), (1, .int i), (2, .int v)] := hl
  refine lv_iload_n hx hb dX11_put_0 rfl (lv_at hl 1 rfl) ?_
  refine lv_if_lt (tgt := 14) hx hb dX11_put_1 (by decide) (fun c1 => ?_) (fun c1 => ?_)
  · rw [show gPut f n i v = f from if_neg (z_vpm c1)]
    exact W.vret hx hb hr (fun t ht hW => ⟨⟨(), rfl, trivial, ⟨by rw [ht]; exact hP, va_K.moved hW.alike hK, hD⟩, by rw [ht]⟩, hS.F ht⟩) hS.2.2 dX11_put_14
  · refine lv_iload_n hx hb dX11_put_4 rfl (lv_at hl 1 rfl) ?_
    refine lv_aload_n hx hb dX11_put_5 rfl (lv_at hl 0 rfl) ?_
    refine va_alen (v := Int32.ofNat n) hx hb hK hP 0 0 rfl rfl rfl dX11_put_6 ?_
    refine lv_icmp_ge (tgt := 14) hx hb dX11_put_7 (by decide) (fun c2 => ?_) (fun c2 => ?_)
    · rw [show gPut f n i v = f from if_neg (z_vpp hn c2)]
      exact W.vret hx hb hr (fun t ht hW => ⟨⟨(), rfl, trivial, ⟨by rw [ht]; exact hP, va_K.moved hW.alike hK, hD⟩, by rw [ht]⟩, hS.F ht⟩) hS.2.2 dX11_put_14
    · have hvp := z_vpn hn c1 c2
      rw [show gPut f n i v = upd f i.toNatClampNeg v from if_pos hvp]
      refine lv_aload_n hx hb dX11_put_10 rfl (lv_at hl 0 rfl) ?_
      refine lv_iload_n hx hb dX11_put_11 rfl (lv_at hl 1 rfl) ?_
      refine lv_iload_n hx hb dX11_put_12 rfl (lv_at hl 2 rfl) ?_
      refine ce_iast hx hb hK hP hD hS 0 0 rfl rfl (ib_in hvp) dX11_put_13 (fun H locs hP hD hS hz => ?_)
      exact W.vret hx hb hr (fun t ht hW => ⟨⟨(), rfl, trivial, ⟨by rw [ht]; exact hP, va_K.moved hW.alike hK, hD⟩, by rw [ht]; exact hz⟩, hS.F ht⟩) hS.2.2 dX11_put_14
