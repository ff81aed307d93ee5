theorem k_X12_resource_fieldLink_RX12_273_SRModel_thrown_I : Cond.fieldLink RX12 273 "StatementRules2Model" "thrown" "I" ∈ wzX12_resource := List.mem_cons_of_mem _ (List.mem_append_left _ (List.mem_of_getElem? (i := 0) rfl))
theorem i_X12_resource_X12 : ∀ w ∈ wsX120, w ∈ wzX12_resource := fun _ h => List.mem_cons_of_mem _ (List.mem_append_right _ (List.mem_append_left _ (h)))
theorem k_X12_resource_fieldLink_RX12_13_SRModel_kinds_I : Cond.fieldLink RX12 13 "StatementRules2Model" "kinds" "I" ∈ wzX12_resource := List.mem_cons_of_mem _ (List.mem_append_left _ (List.mem_of_getElem? (i := 1) rfl))
theorem k_X12_resource_fieldLink_RX12_20_SRModel_isNull_Z : Cond.fieldLink RX12 20 "StatementRules2Model" "isNull" "[Z" ∈ wzX12_resource := List.mem_cons_of_mem _ (List.mem_append_left _ (List.mem_of_getElem? (i := 2) rfl))
theorem k_X12_resource_fieldLink_RX12_24_SRModel_opening_I : Cond.fieldLink RX12 24 "StatementRules2Model" "opening" "[I" ∈ wzX12_resource := List.mem_cons_of_mem _ (List.mem_append_left _ (List.mem_of_getElem? (i := 3) rfl))
theorem k_X12_resource_fieldLink_RX12_27_SRModel_closing_I : Cond.fieldLink RX12 27 "StatementRules2Model" "closing" "[I" ∈ wzX12_resource := List.mem_cons_of_mem _ (List.mem_append_left _ (List.mem_of_getElem? (i := 4) rfl))
set_option maxHeartbeats 4000000 in
set_option maxRecDepth 100000 in
theorem c_X12_resource (l : Launch) (dC : Nat → ClassId) (dI : Nat → Nat → Nat) (sz : Nat) (h0 : Nat) (x : Int32) (y : Int32) (o : Int32) (c9 : Int32) (qn : Nat) (kn : ClassId) (fn : Nat → Int32) (qo : Nat) (ko : ClassId) (fo : Nat → Int32) (qc : Nat) (kc : ClassId) (fc : Nat → Int32) (m_tape : Value) (m_above : Value) (m_words : Value) (m_op : Value) (m_ix : Value) (m_iy : Value) (m_entryValue : Value) (m_entryAt : Value) (m_entryNext : Value) (m_entryElse : Value) (m_tryCatch : Value) (m_tryFinal : Value) (m_tryEnd : Value) (m_catchKind : Value) (m_catchAt : Value) (m_catchSlot : Value) (m_catchNext : Value) (m_seenName : Value) (m_seenSlot : Value) (m_seenCaught : Value) (m_goalSort : Value) (m_goalName : Value) (m_goalLoop : Value) (m_goalDepth : Value) (m_breaks : Value) (m_continues : Value) (m_broken : Value) (m_continued : Value) (m_wallTry : Value) (m_wallGoals : Value) (m_pendGoal : Value) (m_pendBreak : Value) (m_pendTry : Value) (m_fk : Value) (m_fs : Value) (m_fp : Value) (m_fq : Value) (m_fr : Value) (m_fv : Value) (m_fw : Value) (m_fx : Value) (m_fy : Value) (m_fz : Value) (m_fn : Value) (m_rowSort : Value) (m_rowNumber : Value) (m_vals : Value) (m_thingKind : Value) (m_thingNumber : Value) (m_suppressedMany : Value) (m_suppressedKind : Value) (m_suppressedNumber : Value) (m_held : Value) (m_vs : Value) (m_openOf : Value) (m_waits : Value) (m_rk : Value) (m_ra : Value) (m_rb : Value) (m_rc : Value) (m_rHigh : Value) (m_rHow : Value) (m_rTo : Value) (m_rDepth : Value) (m_rValue : Value) (m_rThing : Value) : Met l yX12_resource wzX12_resource ({ frames := 2, cells := 0, slots := 0, locals := 120 }) (va_Pc [.ref h0, .int x, .int y, .int o, .int c9] (zPre dC dI sz [(h0, .inr (11, [.int 0, m_tape, .int 0, .int 4, m_above, .ref qn, .ref qo, .ref qc, .int 0, m_words, .int 0, .int 0, .int 0, .long 0, .int 0, .int 0, .int 0, .int 0, .int 0, .int 0, .int 0, m_op, m_ix, m_iy, .int 0, m_entryValue, m_entryAt, m_entryNext, m_entryElse, .int 0, m_tryCatch, m_tryFinal, m_tryEnd, .int 0, m_catchKind, m_catchAt, m_catchSlot, m_catchNext, .int 0, m_seenName, m_seenSlot, m_seenCaught, .int 0, .int 0, m_goalSort, m_goalName, m_goalLoop, m_goalDepth, m_breaks, m_continues, m_broken, m_continued, .int 0, .int 0, .int 0, .int 0, .int 0, m_wallTry, m_wallGoals, .int 0, m_pendGoal, m_pendBreak, m_pendTry, .int 0, m_fk, m_fs, m_fp, m_fq, m_fr, m_fv, m_fw, m_fx, m_fy, m_fz, m_fn, .int 0, .int 0, .int 0, .int 0, .int 0, .int 0, .int 0, m_rowSort, m_rowNumber, m_vals, .int 0, m_thingKind, m_thingNumber, m_suppressedMany, m_suppressedKind, m_suppressedNumber, m_held, .int 0, .int 0, m_vs, .int 0, m_openOf, .int 0, m_waits, .int 0, m_rk, m_ra, m_rb, m_rc, m_rHigh, m_rHow, m_rTo, m_rDepth, m_rValue, m_rThing, .int 0, .int 0, .int 0, .int 0, .int 0, .int 0])), (qn, .inl (kn, 8, .inl fn)), (qo, .inl (ko, 8, .inl fo)), (qc, .inl (kc, 8, .inl fc))] [(kn, .boolean), (ko, .int), (kc, .int)])) (va_Qi (fun (r : Int32) (_ : Unit) => r = if (¬ x < 0 ∧ ¬ 7 < x) ∧ (¬ y < 0 ∧ ¬ 1 < y) ∧ (¬ o < (-1) ∧ ¬ 3 < o) ∧ (¬ c9 < (-1) ∧ ¬ 3 < c9) then 1 else -1) (fun (_ : Unit) (t : State) => zPost dC dI (va_A [(h0, .inr (11, [.int 0, m_tape, .int 0, .int 4, m_above, .ref qn, .ref qo, .ref qc, .int 0, m_words, .int 0, .int 0, .int 0, .long 0, .int 0, .int 0, .int 0, .int 0, .int 0, .int 0, .int 0, m_op, m_ix, m_iy, .int 0, m_entryValue, m_entryAt, m_entryNext, m_entryElse, .int 0, m_tryCatch, m_tryFinal, m_tryEnd, .int 0, m_catchKind, m_catchAt, m_catchSlot, m_catchNext, .int 0, m_seenName, m_seenSlot, m_seenCaught, .int 0, .int 0, m_goalSort, m_goalName, m_goalLoop, m_goalDepth, m_breaks, m_continues, m_broken, m_continued, .int 0, .int 0, .int 0, .int 0, .int 0, m_wallTry, m_wallGoals, .int 0, m_pendGoal, m_pendBreak, m_pendTry, .int 0, m_fk, m_fs, m_fp, m_fq, m_fr, m_fv, m_fw, m_fx, m_fy, m_fz, m_fn, .int 0, .int 0, .int 0, .int 0, .int 0, .int 0, .int 0, m_rowSort, m_rowNumber, m_vals, .int 0, m_thingKind, m_thingNumber, m_suppressedMany, m_suppressedKind, m_suppressedNumber, m_held, .int 0, .int 0, m_vs, .int 0, m_openOf, .int 0, m_waits, .int 0, m_rk, m_ra, m_rb, m_rc, m_rHigh, m_rHow, m_rTo, m_rDepth, m_rValue, m_rThing, .int 0, .int 0, .int 0, .int 0, .int 0, .int 0])), (qn, .inl (kn, 8, .inl fn)), (qo, .inl (ko, 8, .inl fo)), (qc, .inl (kc, 8, .inl fc))] sz) [] [] t) (va_A [(h0, .inr (11, [.int 0, m_tape, .int 0, .int 4, m_above, .ref qn, .ref qo, .ref qc, .int 0, m_words, .int 0, .int 0, .int 0, .long 0, .int 0, .int 0, .int 0, .int 0, .int 0, .int 0, .int 0, m_op, m_ix, m_iy, .int 0, m_entryValue, m_entryAt, m_entryNext, m_entryElse, .int 0, m_tryCatch, m_tryFinal, m_tryEnd, .int 0, m_catchKind, m_catchAt, m_catchSlot, m_catchNext, .int 0, m_seenName, m_seenSlot, m_seenCaught, .int 0, .int 0, m_goalSort, m_goalName, m_goalLoop, m_goalDepth, m_breaks, m_continues, m_broken, m_continued, .int 0, .int 0, .int 0, .int 0, .int 0, m_wallTry, m_wallGoals, .int 0, m_pendGoal, m_pendBreak, m_pendTry, .int 0, m_fk, m_fs, m_fp, m_fq, m_fr, m_fv, m_fw, m_fx, m_fy, m_fz, m_fn, .int 0, .int 0, .int 0, .int 0, .int 0, .int 0, .int 0, m_rowSort, m_rowNumber, m_vals, .int 0, m_thingKind, m_thingNumber, m_suppressedMany, m_suppressedKind, m_suppressedNumber, m_held, .int 0, .int 0, m_vs, .int 0, m_openOf, .int 0, m_waits, .int 0, m_rk, m_ra, m_rb, m_rc, m_rHigh, m_rHow, m_rTo, m_rDepth, m_rValue, m_rThing, .int 0, .int 0, .int 0, .int 0, .int 0, .int 0])), (qn, .inl (kn, 8, .inl fn)), (qo, .inl (ko, 8, .inl fo)), (qc, .inl (kc, 8, .inl fc))] sz)) 0 0 (va_A [(h0, .inr (11, [.int 0, m_tape, .int 0, .int 4, m_above, .ref qn, .ref qo, .ref qc, .int 0, m_words, .int 0, .int 0, .int 0, .long 0, .int 0, .int 0, .int 0, .int 0, .int 0, .int 0, .int 0, m_op, m_ix, m_iy, .int 0, m_entryValue, m_entryAt, m_entryNext, m_entryElse, .int 0, m_tryCatch, m_tryFinal, m_tryEnd, .int 0, m_catchKind, m_catchAt, m_catchSlot, m_catchNext, .int 0, m_seenName, m_seenSlot, m_seenCaught, .int 0, .int 0, m_goalSort, m_goalName, m_goalLoop, m_goalDepth, m_breaks, m_continues, m_broken, m_continued, .int 0, .int 0, .int 0, .int 0, .int 0, m_wallTry, m_wallGoals, .int 0, m_pendGoal, m_pendBreak, m_pendTry, .int 0, m_fk, m_fs, m_fp, m_fq, m_fr, m_fv, m_fw, m_fx, m_fy, m_fz, m_fn, .int 0, .int 0, .int 0, .int 0, .int 0, .int 0, .int 0, m_rowSort, m_rowNumber, m_vals, .int 0, m_thingKind, m_thingNumber, m_suppressedMany, m_suppressedKind, m_suppressedNumber, m_held, .int 0, .int 0, m_vs, .int 0, m_openOf, .int 0, m_waits, .int 0, m_rk, m_ra, m_rb, m_rc, m_rHigh, m_rHow, m_rTo, m_rDepth, m_rValue, m_rThing, .int 0, .int 0, .int 0, .int 0, .int 0, .int 0])), (qn, .inl (kn, 8, .inl fn)), (qo, .inl (ko, 8, .inl fo)), (qc, .inl (kc, 8, .inl fc))] sz) := by
  refine Met.ofW (cc := cX12_resource) (maxL := 5) (ret := (some .int)) (by decide) rfl ?_
  intro p e s m args below meth c s₁ B hml hv
  obtain ⟨rfl, hsz, hZ, hP, hK, hD0⟩ := hv
  have hx := B.exec
  have hb := B.bytes
  have hr := B.returns
  have hts := atoms_spec (ws := wzX12_resource) B.pre
  have hown : s.vm.findClass RX12 = some m.cls := findClass_of_methodNamed B.named
  have hlocks := B.notSynchronized
  subst hsz
  have hD := hD0.self (sz := s.heap.size)
  generalize hAe : va_A [(h0, .inr (11, [.int 0, m_tape, .int 0, .int 4, m_above, .ref qn, .ref qo, .ref qc, .int 0, m_words, .int 0, .int 0, .int 0, .long 0, .int 0, .int 0, .int 0, .int 0, .int 0, .int 0, .int 0, m_op, m_ix, m_iy, .int 0, m_entryValue, m_entryAt, m_entryNext, m_entryElse, .int 0, m_tryCatch, m_tryFinal, m_tryEnd, .int 0, m_catchKind, m_catchAt, m_catchSlot, m_catchNext, .int 0, m_seenName, m_seenSlot, m_seenCaught, .int 0, .int 0, m_goalSort, m_goalName, m_goalLoop, m_goalDepth, m_breaks, m_continues, m_broken, m_continued, .int 0, .int 0, .int 0, .int 0, .int 0, m_wallTry, m_wallGoals, .int 0, m_pendGoal, m_pendBreak, m_pendTry, .int 0, m_fk, m_fs, m_fp, m_fq, m_fr, m_fv, m_fw, m_fx, m_fy, m_fz, m_fn, .int 0, .int 0, .int 0, .int 0, .int 0, .int 0, .int 0, m_rowSort, m_rowNumber, m_vals, .int 0, m_thingKind, m_thingNumber, m_suppressedMany, m_suppressedKind, m_suppressedNumber, m_held, .int 0, .int 0, m_vs, .int 0, m_openOf, .int 0, m_waits, .int 0, m_rk, m_ra, m_rb, m_rc, m_rHigh, m_rHow, m_rTo, m_rDepth, m_rValue, m_rThing, .int 0, .int 0, .int 0, .int 0, .int 0, .int 0])), (qn, .inl (kn, 8, .inl fn)), (qo, .inl (ko, 8, .inl fo)), (qc, .inl (kc, 8, .inl fc))] s.heap.size = A at hD ⊢
  have hA : ∀ q : Nat, s.heap.size ≤ q → A q := fun q h => by rw [← hAe]; exact Or.inr h
  have hS : va_S A s.heap s.heap [] := va_S.rf
  have hP : va_P (dC, dI) vwCl [(h0, .inr (11, [.int 0, m_tape, .int 0, .int 4, m_above, .ref qn, .ref qo, .ref qc, .int 0, m_words, .int 0, .int 0, .int 0, .long 0, .int 0, .int 0, .int 0, .int 0, .int 0, .int 0, .int 0, m_op, m_ix, m_iy, .int 0, m_entryValue, m_entryAt, m_entryNext, m_entryElse, .int 0, m_tryCatch, m_tryFinal, m_tryEnd, .int 0, m_catchKind, m_catchAt, m_catchSlot, m_catchNext, .int 0, m_seenName, m_seenSlot, m_seenCaught, .int 0, .int 0, m_goalSort, m_goalName, m_goalLoop, m_goalDepth, m_breaks, m_continues, m_broken, m_continued, .int 0, .int 0, .int 0, .int 0, .int 0, m_wallTry, m_wallGoals, .int 0, m_pendGoal, m_pendBreak, m_pendTry, .int 0, m_fk, m_fs, m_fp, m_fq, m_fr, m_fv, m_fw, m_fx, m_fy, m_fz, m_fn, .int 0, .int 0, .int 0, .int 0, .int 0, .int 0, .int 0, m_rowSort, m_rowNumber, m_vals, .int 0, m_thingKind, m_thingNumber, m_suppressedMany, m_suppressedKind, m_suppressedNumber, m_held, .int 0, .int 0, m_vs, .int 0, m_openOf, .int 0, m_waits, .int 0, m_rk, m_ra, m_rb, m_rc, m_rHigh, m_rHow, m_rTo, m_rDepth, m_rValue, m_rThing, .int 0, .int 0, .int 0, .int 0, .int 0, .int 0])), (qn, .inl (kn, 8, .inl fn)), (qo, .inl (ko, 8, .inl fo)), (qc, .inl (kc, 8, .inl fc))] s.heap := hP
  have hl := lv_entry ([.ref h0, .int x, .int y, .int o, .int c9]) (n := 5) (Nat.le_of_ble_eq_true rfl)
  rw [lg_entry_eq]
  generalize (lg_sl ([.ref h0, .int x, .int y, .int o, .int c9]) ++ List.replicate (5 - (lg_sl ([.ref h0, .int x, .int y, .int o, .int c9])).length) Slot.unset).toArray = ls at hl ⊢
  have hl : lv_has ls 5 [(0, .ref h0), (1, .int x), (2, .int y), (3, .int o), (4, .int c9)] := hl
  refine lv_aload_n hx hb dX12_resource_0 rfl (lv_at hl 0 rfl) ?_
  refine lv_iconst (v := 0) hx hb dX12_resource_1 (by decide) ?_
  refine va_put (D := (dC, dI)) (ci := 11) (v := .int 0) (ty := .int) (C := RX12) (T := TX12) (N := 116) hx hb hts i_X12_resource_X12 tyX12 tyX12_ok nmX12 hown hK hP hD hS 0 rfl rfl 0 (by decide) (hts (.fieldLink RX12 273 "StatementRules2Model" "thrown" "I") k_X12_resource_fieldLink_RX12_273_SRModel_thrown_I) (fun _ h9 => h9) rfl (by decide +kernel) rfl rfl (Nat.le_of_ble_eq_true rfl) dX12_resource_2 (fun H locs hP hD hS => ?_)
  have hP : va_P (dC, dI) vwCl [(h0, .inr (11, [.int 0, m_tape, .int 0, .int 4, m_above, .ref qn, .ref qo, .ref qc, .int 0, m_words, .int 0, .int 0, .int 0, .long 0, .int 0, .int 0, .int 0, .int 0, .int 0, .int 0, .int 0, m_op, m_ix, m_iy, .int 0, m_entryValue, m_entryAt, m_entryNext, m_entryElse, .int 0, m_tryCatch, m_tryFinal, m_tryEnd, .int 0, m_catchKind, m_catchAt, m_catchSlot, m_catchNext, .int 0, m_seenName, m_seenSlot, m_seenCaught, .int 0, .int 0, m_goalSort, m_goalName, m_goalLoop, m_goalDepth, m_breaks, m_continues, m_broken, m_continued, .int 0, .int 0, .int 0, .int 0, .int 0, m_wallTry, m_wallGoals, .int 0, m_pendGoal, m_pendBreak, m_pendTry, .int 0, m_fk, m_fs, m_fp, m_fq, m_fr, m_fv, m_fw, m_fx, m_fy, m_fz, m_fn, .int 0, .int 0, .int 0, .int 0, .int 0, .int 0, .int 0, m_rowSort, m_rowNumber, m_vals, .int 0, m_thingKind, m_thingNumber, m_suppressedMany, m_suppressedKind, m_suppressedNumber, m_held, .int 0, .int 0, m_vs, .int 0, m_openOf, .int 0, m_waits, .int 0, m_rk, m_ra, m_rb, m_rc, m_rHigh, m_rHow, m_rTo, m_rDepth, m_rValue, m_rThing, .int 0, .int 0, .int 0, .int 0, .int 0, .int 0])), (qn, .inl (kn, 8, .inl fn)), (qo, .inl (ko, 8, .inl fo)), (qc, .inl (kc, 8, .inl fc))] H := hP
  have hD : va_D A [(h0, .inr (11, [.int 0, m_tape, .int 0, .int 4, m_above, .ref qn, .ref qo, .ref qc, .int 0, m_words, .int 0, .int 0, .int 0, .long 0, .int 0, .int 0, .int 0, .int 0, .int 0, .int 0, .int 0, m_op, m_ix, m_iy, .int 0, m_entryValue, m_entryAt, m_entryNext, m_entryElse, .int 0, m_tryCatch, m_tryFinal, m_tryEnd, .int 0, m_catchKind, m_catchAt, m_catchSlot, m_catchNext, .int 0, m_seenName, m_seenSlot, m_seenCaught, .int 0, .int 0, m_goalSort, m_goalName, m_goalLoop, m_goalDepth, m_breaks, m_continues, m_broken, m_continued, .int 0, .int 0, .int 0, .int 0, .int 0, m_wallTry, m_wallGoals, .int 0, m_pendGoal, m_pendBreak, m_pendTry, .int 0, m_fk, m_fs, m_fp, m_fq, m_fr, m_fv, m_fw, m_fx, m_fy, m_fz, m_fn, .int 0, .int 0, .int 0, .int 0, .int 0, .int 0, .int 0, m_rowSort, m_rowNumber, m_vals, .int 0, m_thingKind, m_thingNumber, m_suppressedMany, m_suppressedKind, m_suppressedNumber, m_held, .int 0, .int 0, m_vs, .int 0, m_openOf, .int 0, m_waits, .int 0, m_rk, m_ra, m_rb, m_rc, m_rHigh, m_rHow, m_rTo, m_rDepth, m_rValue, m_rThing, .int 0, .int 0, .int 0, .int 0, .int 0, .int 0])), (qn, .inl (kn, 8, .inl fn)), (qo, .inl (ko, 8, .inl fo)), (qc, .inl (kc, 8, .inl fc))] := hD
  refine lv_iload_n hx hb dX12_resource_5 rfl (lv_at hl 1 rfl) ?_
  refine lv_iconst (v := 0) hx hb dX12_resource_6 (by decide) ?_
  refine lv_bipush (v := 7) hx hb dX12_resource_7 (by decide) ?_
  have hPc := hP.sub (ws' := []) [] rfl
  have hDc := hD.sub (ws' := []) [] (by decide) rfl
  have hKc := hK.sub (tys' := []) [] rfl
  have hFc := va_free (wc := []) hD hS hA [] rfl
  refine va_calli (va_runS (As := [.int x, .int 0, .int 7]) (rest := []) ⟨hx, hb, hml, hown, hts⟩ (c_X12_in l dC dI _ x 0 7) (va_cwS 3 hts hX12_resource_X12_in_s279 rfl rfl rfl (by decide +kernel) ⟨Nat.le_of_ble_eq_true rfl, Nat.le_of_ble_eq_true rfl⟩) ⟨zPre.blind, zPre.go hZ hPc hKc hDc⟩ rfl rfl hl.1 rfl (lv_room (Nat.le_of_ble_eq_true rfl)) dX12_resource_9 ⟨Nat.le_of_ble_eq_true rfl, Nat.le_of_ble_eq_true rfl⟩) hS (fun q _ h => hFc q h) hFc (fun r1 u9 t9 H1 locs ht hvm hw hB hz1 hk1 hS => ?_)
  obtain ⟨hP1, hK1, hD1⟩ := hB
  rw [ht] at hP1
  have hK1 := va_K.moved hvm.symm hK1
  obtain ⟨hP, hD⟩ := va_join (wr := [(h0, .inr (11, [.int 0, m_tape, .int 0, .int 4, m_above, .ref qn, .ref qo, .ref qc, .int 0, m_words, .int 0, .int 0, .int 0, .long 0, .int 0, .int 0, .int 0, .int 0, .int 0, .int 0, .int 0, m_op, m_ix, m_iy, .int 0, m_entryValue, m_entryAt, m_entryNext, m_entryElse, .int 0, m_tryCatch, m_tryFinal, m_tryEnd, .int 0, m_catchKind, m_catchAt, m_catchSlot, m_catchNext, .int 0, m_seenName, m_seenSlot, m_seenCaught, .int 0, .int 0, m_goalSort, m_goalName, m_goalLoop, m_goalDepth, m_breaks, m_continues, m_broken, m_continued, .int 0, .int 0, .int 0, .int 0, .int 0, m_wallTry, m_wallGoals, .int 0, m_pendGoal, m_pendBreak, m_pendTry, .int 0, m_fk, m_fs, m_fp, m_fq, m_fr, m_fv, m_fw, m_fx, m_fy, m_fz, m_fn, .int 0, .int 0, .int 0, .int 0, .int 0, .int 0, .int 0, m_rowSort, m_rowNumber, m_vals, .int 0, m_thingKind, m_thingNumber, m_suppressedMany, m_suppressedKind, m_suppressedNumber, m_held, .int 0, .int 0, m_vs, .int 0, m_openOf, .int 0, m_waits, .int 0, m_rk, m_ra, m_rb, m_rc, m_rHigh, m_rHow, m_rTo, m_rDepth, m_rValue, m_rThing, .int 0, .int 0, .int 0, .int 0, .int 0, .int 0])), (qn, .inl (kn, 8, .inl fn)), (qo, .inl (ko, 8, .inl fo)), (qc, .inl (kc, 8, .inl fc))]) (w1 := []) hP hD [] [0, 1, 2, 3] rfl rfl (by decide) (by decide) hk1 hFc hP1 hD1
  have hK := hK.app hK1
  generalize H1 = H at hP hS ⊢
  have hP : va_P (dC, dI) vwCl [(h0, .inr (11, [.int 0, m_tape, .int 0, .int 4, m_above, .ref qn, .ref qo, .ref qc, .int 0, m_words, .int 0, .int 0, .int 0, .long 0, .int 0, .int 0, .int 0, .int 0, .int 0, .int 0, .int 0, m_op, m_ix, m_iy, .int 0, m_entryValue, m_entryAt, m_entryNext, m_entryElse, .int 0, m_tryCatch, m_tryFinal, m_tryEnd, .int 0, m_catchKind, m_catchAt, m_catchSlot, m_catchNext, .int 0, m_seenName, m_seenSlot, m_seenCaught, .int 0, .int 0, m_goalSort, m_goalName, m_goalLoop, m_goalDepth, m_breaks, m_continues, m_broken, m_continued, .int 0, .int 0, .int 0, .int 0, .int 0, m_wallTry, m_wallGoals, .int 0, m_pendGoal, m_pendBreak, m_pendTry, .int 0, m_fk, m_fs, m_fp, m_fq, m_fr, m_fv, m_fw, m_fx, m_fy, m_fz, m_fn, .int 0, .int 0, .int 0, .int 0, .int 0, .int 0, .int 0, m_rowSort, m_rowNumber, m_vals, .int 0, m_thingKind, m_thingNumber, m_suppressedMany, m_suppressedKind, m_suppressedNumber, m_held, .int 0, .int 0, m_vs, .int 0, m_openOf, .int 0, m_waits, .int 0, m_rk, m_ra, m_rb, m_rc, m_rHigh, m_rHow, m_rTo, m_rDepth, m_rValue, m_rThing, .int 0, .int 0, .int 0, .int 0, .int 0, .int 0])), (qn, .inl (kn, 8, .inl fn)), (qo, .inl (ko, 8, .inl fo)), (qc, .inl (kc, 8, .inl fc))] H := hP
  have hD : va_D A [(h0, .inr (11, [.int 0, m_tape, .int 0, .int 4, m_above, .ref qn, .ref qo, .ref qc, .int 0, m_words, .int 0, .int 0, .int 0, .long 0, .int 0, .int 0, .int 0, .int 0, .int 0, .int 0, .int 0, m_op, m_ix, m_iy, .int 0, m_entryValue, m_entryAt, m_entryNext, m_entryElse, .int 0, m_tryCatch, m_tryFinal, m_tryEnd, .int 0, m_catchKind, m_catchAt, m_catchSlot, m_catchNext, .int 0, m_seenName, m_seenSlot, m_seenCaught, .int 0, .int 0, m_goalSort, m_goalName, m_goalLoop, m_goalDepth, m_breaks, m_continues, m_broken, m_continued, .int 0, .int 0, .int 0, .int 0, .int 0, m_wallTry, m_wallGoals, .int 0, m_pendGoal, m_pendBreak, m_pendTry, .int 0, m_fk, m_fs, m_fp, m_fq, m_fr, m_fv, m_fw, m_fx, m_fy, m_fz, m_fn, .int 0, .int 0, .int 0, .int 0, .int 0, .int 0, .int 0, m_rowSort, m_rowNumber, m_vals, .int 0, m_thingKind, m_thingNumber, m_suppressedMany, m_suppressedKind, m_suppressedNumber, m_held, .int 0, .int 0, m_vs, .int 0, m_openOf, .int 0, m_waits, .int 0, m_rk, m_ra, m_rb, m_rc, m_rHigh, m_rHow, m_rTo, m_rDepth, m_rValue, m_rThing, .int 0, .int 0, .int 0, .int 0, .int 0, .int 0])), (qn, .inl (kn, 8, .inl fn)), (qo, .inl (ko, 8, .inl fo)), (qc, .inl (kc, 8, .inl fc))] := hD
  have hK : va_K (dC, dI) vwCl [(kn, .boolean), (ko, .int), (kc, .int)] s := hK
  by_cases c2 : ¬ x < 0 ∧ ¬ 7 < x
  ·
    obtain rfl : r1 = 1 := hw.trans (if_pos c2)
    refine lv_if_eq (tgt := 53) hx hb dX12_resource_12 (by decide) (fun c9 => absurd c9 (by decide)) (fun _ => ?_)
    refine lv_iload_n hx hb dX12_resource_15 rfl (lv_at hl 2 rfl) ?_
    refine lv_iconst (v := 0) hx hb dX12_resource_16 (by decide) ?_
    refine lv_iconst (v := 1) hx hb dX12_resource_17 (by decide) ?_
    have hPc := hP.sub (ws' := []) [] rfl
    have hDc := hD.sub (ws' := []) [] (by decide) rfl
    have hKc := hK.sub (tys' := []) [] rfl
    have hFc := va_free (wc := []) hD hS hA [] rfl
    refine va_calli (va_runS (As := [.int y, .int 0, .int 1]) (rest := []) ⟨hx, hb, hml, hown, hts⟩ (c_X12_in l dC dI _ y 0 1) (va_cwS 3 hts hX12_resource_X12_in_s279 rfl rfl rfl (by decide +kernel) ⟨Nat.le_of_ble_eq_true rfl, Nat.le_of_ble_eq_true rfl⟩) ⟨zPre.blind, zPre.go hZ hPc hKc hDc⟩ rfl rfl hl.1 rfl (lv_room (Nat.le_of_ble_eq_true rfl)) dX12_resource_18 ⟨Nat.le_of_ble_eq_true rfl, Nat.le_of_ble_eq_true rfl⟩) hS (fun q _ h => hFc q h) hFc (fun r3 u9 t9 H1 locs ht hvm hw hB hz1 hk1 hS => ?_)
    obtain ⟨hP1, hK1, hD1⟩ := hB
    rw [ht] at hP1
    have hK1 := va_K.moved hvm.symm hK1
    obtain ⟨hP, hD⟩ := va_join (wr := [(h0, .inr (11, [.int 0, m_tape, .int 0, .int 4, m_above, .ref qn, .ref qo, .ref qc, .int 0, m_words, .int 0, .int 0, .int 0, .long 0, .int 0, .int 0, .int 0, .int 0, .int 0, .int 0, .int 0, m_op, m_ix, m_iy, .int 0, m_entryValue, m_entryAt, m_entryNext, m_entryElse, .int 0, m_tryCatch, m_tryFinal, m_tryEnd, .int 0, m_catchKind, m_catchAt, m_catchSlot, m_catchNext, .int 0, m_seenName, m_seenSlot, m_seenCaught, .int 0, .int 0, m_goalSort, m_goalName, m_goalLoop, m_goalDepth, m_breaks, m_continues, m_broken, m_continued, .int 0, .int 0, .int 0, .int 0, .int 0, m_wallTry, m_wallGoals, .int 0, m_pendGoal, m_pendBreak, m_pendTry, .int 0, m_fk, m_fs, m_fp, m_fq, m_fr, m_fv, m_fw, m_fx, m_fy, m_fz, m_fn, .int 0, .int 0, .int 0, .int 0, .int 0, .int 0, .int 0, m_rowSort, m_rowNumber, m_vals, .int 0, m_thingKind, m_thingNumber, m_suppressedMany, m_suppressedKind, m_suppressedNumber, m_held, .int 0, .int 0, m_vs, .int 0, m_openOf, .int 0, m_waits, .int 0, m_rk, m_ra, m_rb, m_rc, m_rHigh, m_rHow, m_rTo, m_rDepth, m_rValue, m_rThing, .int 0, .int 0, .int 0, .int 0, .int 0, .int 0])), (qn, .inl (kn, 8, .inl fn)), (qo, .inl (ko, 8, .inl fo)), (qc, .inl (kc, 8, .inl fc))]) (w1 := []) hP hD [] [0, 1, 2, 3] rfl rfl (by decide) (by decide) hk1 hFc hP1 hD1
    have hK := hK.app hK1
    generalize H1 = H at hP hS ⊢
    have hP : va_P (dC, dI) vwCl [(h0, .inr (11, [.int 0, m_tape, .int 0, .int 4, m_above, .ref qn, .ref qo, .ref qc, .int 0, m_words, .int 0, .int 0, .int 0, .long 0, .int 0, .int 0, .int 0, .int 0, .int 0, .int 0, .int 0, m_op, m_ix, m_iy, .int 0, m_entryValue, m_entryAt, m_entryNext, m_entryElse, .int 0, m_tryCatch, m_tryFinal, m_tryEnd, .int 0, m_catchKind, m_catchAt, m_catchSlot, m_catchNext, .int 0, m_seenName, m_seenSlot, m_seenCaught, .int 0, .int 0, m_goalSort, m_goalName, m_goalLoop, m_goalDepth, m_breaks, m_continues, m_broken, m_continued, .int 0, .int 0, .int 0, .int 0, .int 0, m_wallTry, m_wallGoals, .int 0, m_pendGoal, m_pendBreak, m_pendTry, .int 0, m_fk, m_fs, m_fp, m_fq, m_fr, m_fv, m_fw, m_fx, m_fy, m_fz, m_fn, .int 0, .int 0, .int 0, .int 0, .int 0, .int 0, .int 0, m_rowSort, m_rowNumber, m_vals, .int 0, m_thingKind, m_thingNumber, m_suppressedMany, m_suppressedKind, m_suppressedNumber, m_held, .int 0, .int 0, m_vs, .int 0, m_openOf, .int 0, m_waits, .int 0, m_rk, m_ra, m_rb, m_rc, m_rHigh, m_rHow, m_rTo, m_rDepth, m_rValue, m_rThing, .int 0, .int 0, .int 0, .int 0, .int 0, .int 0])), (qn, .inl (kn, 8, .inl fn)), (qo, .inl (ko, 8, .inl fo)), (qc, .inl (kc, 8, .inl fc))] H := hP
    have hD : va_D A [(h0, .inr (11, [.int 0, m_tape, .int 0, .int 4, m_above, .ref qn, .ref qo, .ref qc, .int 0, m_words, .int 0, .int 0, .int 0, .long 0, .int 0, .int 0, .int 0, .int 0, .int 0, .int 0, .int 0, m_op, m_ix, m_iy, .int 0, m_entryValue, m_entryAt, m_entryNext, m_entryElse, .int 0, m_tryCatch, m_tryFinal, m_tryEnd, .int 0, m_catchKind, m_catchAt, m_catchSlot, m_catchNext, .int 0, m_seenName, m_seenSlot, m_seenCaught, .int 0, .int 0, m_goalSort, m_goalName, m_goalLoop, m_goalDepth, m_breaks, m_continues, m_broken, m_continued, .int 0, .int 0, .int 0, .int 0, .int 0, m_wallTry, m_wallGoals, .int 0, m_pendGoal, m_pendBreak, m_pendTry, .int 0, m_fk, m_fs, m_fp, m_fq, m_fr, m_fv, m_fw, m_fx, m_fy, m_fz, m_fn, .int 0, .int 0, .int 0, .int 0, .int 0, .int 0, .int 0, m_rowSort, m_rowNumber, m_vals, .int 0, m_thingKind, m_thingNumber, m_suppressedMany, m_suppressedKind, m_suppressedNumber, m_held, .int 0, .int 0, m_vs, .int 0, m_openOf, .int 0, m_waits, .int 0, m_rk, m_ra, m_rb, m_rc, m_rHigh, m_rHow, m_rTo, m_rDepth, m_rValue, m_rThing, .int 0, .int 0, .int 0, .int 0, .int 0, .int 0])), (qn, .inl (kn, 8, .inl fn)), (qo, .inl (ko, 8, .inl fo)), (qc, .inl (kc, 8, .inl fc))] := hD
    have hK : va_K (dC, dI) vwCl [(kn, .boolean), (ko, .int), (kc, .int)] s := hK
    by_cases c4 : ¬ y < 0 ∧ ¬ 1 < y
    ·
      obtain rfl : r3 = 1 := hw.trans (if_pos c4)
      refine lv_if_eq (tgt := 53) hx hb dX12_resource_21 (by decide) (fun c9 => absurd c9 (by decide)) (fun _ => ?_)
      refine lv_iload_n hx hb dX12_resource_24 rfl (lv_at hl 3 rfl) ?_
      refine lv_iconst (v := (-1)) hx hb dX12_resource_25 (by decide) ?_
      refine lv_aload_n hx hb dX12_resource_26 rfl (lv_at hl 0 rfl) ?_
      refine va_get (D := (dC, dI)) (ci := 11) (v := .int 4) (C := RX12) (T := TX12) (N := 116) hx hb hts i_X12_resource_X12 hown hK hP 0 rfl rfl 3 (by decide) (hts (.fieldLink RX12 13 "StatementRules2Model" "kinds" "I") k_X12_resource_fieldLink_RX12_13_SRModel_kinds_I) (fun _ h9 => h9) rfl dX12_resource_27 ?_
      refine lv_iconst (v := 1) hx hb dX12_resource_30 (by decide) ?_
      refine lv_isub hx hb dX12_resource_31 ?_
      refine lv_topi (fun z5 ez5 => ?_)
      obtain rfl : z5 = 3 := ez5.trans (by decide)
      have hPc := hP.sub (ws' := []) [] rfl
      have hDc := hD.sub (ws' := []) [] (by decide) rfl
      have hKc := hK.sub (tys' := []) [] rfl
      have hFc := va_free (wc := []) hD hS hA [] rfl
      refine va_calli (va_runS (As := [.int o, .int (-1), .int 3]) (rest := []) ⟨hx, hb, hml, hown, hts⟩ (c_X12_in l dC dI _ o (-1) 3) (va_cwS 3 hts hX12_resource_X12_in_s279 rfl rfl rfl (by decide +kernel) ⟨Nat.le_of_ble_eq_true rfl, Nat.le_of_ble_eq_true rfl⟩) ⟨zPre.blind, zPre.go hZ hPc hKc hDc⟩ rfl rfl hl.1 rfl (lv_room (Nat.le_of_ble_eq_true rfl)) dX12_resource_32 ⟨Nat.le_of_ble_eq_true rfl, Nat.le_of_ble_eq_true rfl⟩) hS (fun q _ h => hFc q h) hFc (fun r6 u9 t9 H1 locs ht hvm hw hB hz1 hk1 hS => ?_)
      obtain ⟨hP1, hK1, hD1⟩ := hB
      rw [ht] at hP1
      have hK1 := va_K.moved hvm.symm hK1
      obtain ⟨hP, hD⟩ := va_join (wr := [(h0, .inr (11, [.int 0, m_tape, .int 0, .int 4, m_above, .ref qn, .ref qo, .ref qc, .int 0, m_words, .int 0, .int 0, .int 0, .long 0, .int 0, .int 0, .int 0, .int 0, .int 0, .int 0, .int 0, m_op, m_ix, m_iy, .int 0, m_entryValue, m_entryAt, m_entryNext, m_entryElse, .int 0, m_tryCatch, m_tryFinal, m_tryEnd, .int 0, m_catchKind, m_catchAt, m_catchSlot, m_catchNext, .int 0, m_seenName, m_seenSlot, m_seenCaught, .int 0, .int 0, m_goalSort, m_goalName, m_goalLoop, m_goalDepth, m_breaks, m_continues, m_broken, m_continued, .int 0, .int 0, .int 0, .int 0, .int 0, m_wallTry, m_wallGoals, .int 0, m_pendGoal, m_pendBreak, m_pendTry, .int 0, m_fk, m_fs, m_fp, m_fq, m_fr, m_fv, m_fw, m_fx, m_fy, m_fz, m_fn, .int 0, .int 0, .int 0, .int 0, .int 0, .int 0, .int 0, m_rowSort, m_rowNumber, m_vals, .int 0, m_thingKind, m_thingNumber, m_suppressedMany, m_suppressedKind, m_suppressedNumber, m_held, .int 0, .int 0, m_vs, .int 0, m_openOf, .int 0, m_waits, .int 0, m_rk, m_ra, m_rb, m_rc, m_rHigh, m_rHow, m_rTo, m_rDepth, m_rValue, m_rThing, .int 0, .int 0, .int 0, .int 0, .int 0, .int 0])), (qn, .inl (kn, 8, .inl fn)), (qo, .inl (ko, 8, .inl fo)), (qc, .inl (kc, 8, .inl fc))]) (w1 := []) hP hD [] [0, 1, 2, 3] rfl rfl (by decide) (by decide) hk1 hFc hP1 hD1
      have hK := hK.app hK1
      generalize H1 = H at hP hS ⊢
      have hP : va_P (dC, dI) vwCl [(h0, .inr (11, [.int 0, m_tape, .int 0, .int 4, m_above, .ref qn, .ref qo, .ref qc, .int 0, m_words, .int 0, .int 0, .int 0, .long 0, .int 0, .int 0, .int 0, .int 0, .int 0, .int 0, .int 0, m_op, m_ix, m_iy, .int 0, m_entryValue, m_entryAt, m_entryNext, m_entryElse, .int 0, m_tryCatch, m_tryFinal, m_tryEnd, .int 0, m_catchKind, m_catchAt, m_catchSlot, m_catchNext, .int 0, m_seenName, m_seenSlot, m_seenCaught, .int 0, .int 0, m_goalSort, m_goalName, m_goalLoop, m_goalDepth, m_breaks, m_continues, m_broken, m_continued, .int 0, .int 0, .int 0, .int 0, .int 0, m_wallTry, m_wallGoals, .int 0, m_pendGoal, m_pendBreak, m_pendTry, .int 0, m_fk, m_fs, m_fp, m_fq, m_fr, m_fv, m_fw, m_fx, m_fy, m_fz, m_fn, .int 0, .int 0, .int 0, .int 0, .int 0, .int 0, .int 0, m_rowSort, m_rowNumber, m_vals, .int 0, m_thingKind, m_thingNumber, m_suppressedMany, m_suppressedKind, m_suppressedNumber, m_held, .int 0, .int 0, m_vs, .int 0, m_openOf, .int 0, m_waits, .int 0, m_rk, m_ra, m_rb, m_rc, m_rHigh, m_rHow, m_rTo, m_rDepth, m_rValue, m_rThing, .int 0, .int 0, .int 0, .int 0, .int 0, .int 0])), (qn, .inl (kn, 8, .inl fn)), (qo, .inl (ko, 8, .inl fo)), (qc, .inl (kc, 8, .inl fc))] H := hP
      have hD : va_D A [(h0, .inr (11, [.int 0, m_tape, .int 0, .int 4, m_above, .ref qn, .ref qo, .ref qc, .int 0, m_words, .int 0, .int 0, .int 0, .long 0, .int 0, .int 0, .int 0, .int 0, .int 0, .int 0, .int 0, m_op, m_ix, m_iy, .int 0, m_entryValue, m_entryAt, m_entryNext, m_entryElse, .int 0, m_tryCatch, m_tryFinal, m_tryEnd, .int 0, m_catchKind, m_catchAt, m_catchSlot, m_catchNext, .int 0, m_seenName, m_seenSlot, m_seenCaught, .int 0, .int 0, m_goalSort, m_goalName, m_goalLoop, m_goalDepth, m_breaks, m_continues, m_broken, m_continued, .int 0, .int 0, .int 0, .int 0, .int 0, m_wallTry, m_wallGoals, .int 0, m_pendGoal, m_pendBreak, m_pendTry, .int 0, m_fk, m_fs, m_fp, m_fq, m_fr, m_fv, m_fw, m_fx, m_fy, m_fz, m_fn, .int 0, .int 0, .int 0, .int 0, .int 0, .int 0, .int 0, m_rowSort, m_rowNumber, m_vals, .int 0, m_thingKind, m_thingNumber, m_suppressedMany, m_suppressedKind, m_suppressedNumber, m_held, .int 0, .int 0, m_vs, .int 0, m_openOf, .int 0, m_waits, .int 0, m_rk, m_ra, m_rb, m_rc, m_rHigh, m_rHow, m_rTo, m_rDepth, m_rValue, m_rThing, .int 0, .int 0, .int 0, .int 0, .int 0, .int 0])), (qn, .inl (kn, 8, .inl fn)), (qo, .inl (ko, 8, .inl fo)), (qc, .inl (kc, 8, .inl fc))] := hD
      have hK : va_K (dC, dI) vwCl [(kn, .boolean), (ko, .int), (kc, .int)] s := hK
      by_cases c7 : ¬ o < (-1) ∧ ¬ 3 < o
      ·
        obtain rfl : r6 = 1 := hw.trans (if_pos c7)
        refine lv_if_eq (tgt := 53) hx hb dX12_resource_35 (by decide) (fun c9 => absurd c9 (by decide)) (fun _ => ?_)
        refine lv_iload hx hb dX12_resource_38 (lv_at hl 4 rfl) ?_
        refine lv_iconst (v := (-1)) hx hb dX12_resource_40 (by decide) ?_
        refine lv_aload_n hx hb dX12_resource_41 rfl (lv_at hl 0 rfl) ?_
        refine va_get (D := (dC, dI)) (ci := 11) (v := .int 4) (C := RX12) (T := TX12) (N := 116) hx hb hts i_X12_resource_X12 hown hK hP 0 rfl rfl 3 (by decide) (hts (.fieldLink RX12 13 "StatementRules2Model" "kinds" "I") k_X12_resource_fieldLink_RX12_13_SRModel_kinds_I) (fun _ h9 => h9) rfl dX12_resource_42 ?_
        refine lv_iconst (v := 1) hx hb dX12_resource_45 (by decide) ?_
        refine lv_isub hx hb dX12_resource_46 ?_
        refine lv_topi (fun z8 ez8 => ?_)
        obtain rfl : z8 = 3 := ez8.trans (by decide)
        have hPc := hP.sub (ws' := []) [] rfl
        have hDc := hD.sub (ws' := []) [] (by decide) rfl
        have hKc := hK.sub (tys' := []) [] rfl
        have hFc := va_free (wc := []) hD hS hA [] rfl
        refine va_calli (va_runS (As := [.int c9, .int (-1), .int 3]) (rest := []) ⟨hx, hb, hml, hown, hts⟩ (c_X12_in l dC dI _ c9 (-1) 3) (va_cwS 3 hts hX12_resource_X12_in_s279 rfl rfl rfl (by decide +kernel) ⟨Nat.le_of_ble_eq_true rfl, Nat.le_of_ble_eq_true rfl⟩) ⟨zPre.blind, zPre.go hZ hPc hKc hDc⟩ rfl rfl hl.1 rfl (lv_room (Nat.le_of_ble_eq_true rfl)) dX12_resource_47 ⟨Nat.le_of_ble_eq_true rfl, Nat.le_of_ble_eq_true rfl⟩) hS (fun q _ h => hFc q h) hFc (fun r9 u9 t9 H1 locs ht hvm hw hB hz1 hk1 hS => ?_)
        obtain ⟨hP1, hK1, hD1⟩ := hB
        rw [ht] at hP1
        have hK1 := va_K.moved hvm.symm hK1
        obtain ⟨hP, hD⟩ := va_join (wr := [(h0, .inr (11, [.int 0, m_tape, .int 0, .int 4, m_above, .ref qn, .ref qo, .ref qc, .int 0, m_words, .int 0, .int 0, .int 0, .long 0, .int 0, .int 0, .int 0, .int 0, .int 0, .int 0, .int 0, m_op, m_ix, m_iy, .int 0, m_entryValue, m_entryAt, m_entryNext, m_entryElse, .int 0, m_tryCatch, m_tryFinal, m_tryEnd, .int 0, m_catchKind, m_catchAt, m_catchSlot, m_catchNext, .int 0, m_seenName, m_seenSlot, m_seenCaught, .int 0, .int 0, m_goalSort, m_goalName, m_goalLoop, m_goalDepth, m_breaks, m_continues, m_broken, m_continued, .int 0, .int 0, .int 0, .int 0, .int 0, m_wallTry, m_wallGoals, .int 0, m_pendGoal, m_pendBreak, m_pendTry, .int 0, m_fk, m_fs, m_fp, m_fq, m_fr, m_fv, m_fw, m_fx, m_fy, m_fz, m_fn, .int 0, .int 0, .int 0, .int 0, .int 0, .int 0, .int 0, m_rowSort, m_rowNumber, m_vals, .int 0, m_thingKind, m_thingNumber, m_suppressedMany, m_suppressedKind, m_suppressedNumber, m_held, .int 0, .int 0, m_vs, .int 0, m_openOf, .int 0, m_waits, .int 0, m_rk, m_ra, m_rb, m_rc, m_rHigh, m_rHow, m_rTo, m_rDepth, m_rValue, m_rThing, .int 0, .int 0, .int 0, .int 0, .int 0, .int 0])), (qn, .inl (kn, 8, .inl fn)), (qo, .inl (ko, 8, .inl fo)), (qc, .inl (kc, 8, .inl fc))]) (w1 := []) hP hD [] [0, 1, 2, 3] rfl rfl (by decide) (by decide) hk1 hFc hP1 hD1
        have hK := hK.app hK1
        generalize H1 = H at hP hS ⊢
        have hP : va_P (dC, dI) vwCl [(h0, .inr (11, [.int 0, m_tape, .int 0, .int 4, m_above, .ref qn, .ref qo, .ref qc, .int 0, m_words, .int 0, .int 0, .int 0, .long 0, .int 0, .int 0, .int 0, .int 0, .int 0, .int 0, .int 0, m_op, m_ix, m_iy, .int 0, m_entryValue, m_entryAt, m_entryNext, m_entryElse, .int 0, m_tryCatch, m_tryFinal, m_tryEnd, .int 0, m_catchKind, m_catchAt, m_catchSlot, m_catchNext, .int 0, m_seenName, m_seenSlot, m_seenCaught, .int 0, .int 0, m_goalSort, m_goalName, m_goalLoop, m_goalDepth, m_breaks, m_continues, m_broken, m_continued, .int 0, .int 0, .int 0, .int 0, .int 0, m_wallTry, m_wallGoals, .int 0, m_pendGoal, m_pendBreak, m_pendTry, .int 0, m_fk, m_fs, m_fp, m_fq, m_fr, m_fv, m_fw, m_fx, m_fy, m_fz, m_fn, .int 0, .int 0, .int 0, .int 0, .int 0, .int 0, .int 0, m_rowSort, m_rowNumber, m_vals, .int 0, m_thingKind, m_thingNumber, m_suppressedMany, m_suppressedKind, m_suppressedNumber, m_held, .int 0, .int 0, m_vs, .int 0, m_openOf, .int 0, m_waits, .int 0, m_rk, m_ra, m_rb, m_rc, m_rHigh, m_rHow, m_rTo, m_rDepth, m_rValue, m_rThing, .int 0, .int 0, .int 0, .int 0, .int 0, .int 0])), (qn, .inl (kn, 8, .inl fn)), (qo, .inl (ko, 8, .inl fo)), (qc, .inl (kc, 8, .inl fc))] H := hP
        have hD : va_D A [(h0, .inr (11, [.int 0, m_tape, .int 0, .int 4, m_above, .ref qn, .ref qo, .ref qc, .int 0, m_words, .int 0, .int 0, .int 0, .long 0, .int 0, .int 0, .int 0, .int 0, .int 0, .int 0, .int 0, m_op, m_ix, m_iy, .int 0, m_entryValue, m_entryAt, m_entryNext, m_entryElse, .int 0, m_tryCatch, m_tryFinal, m_tryEnd, .int 0, m_catchKind, m_catchAt, m_catchSlot, m_catchNext, .int 0, m_seenName, m_seenSlot, m_seenCaught, .int 0, .int 0, m_goalSort, m_goalName, m_goalLoop, m_goalDepth, m_breaks, m_continues, m_broken, m_continued, .int 0, .int 0, .int 0, .int 0, .int 0, m_wallTry, m_wallGoals, .int 0, m_pendGoal, m_pendBreak, m_pendTry, .int 0, m_fk, m_fs, m_fp, m_fq, m_fr, m_fv, m_fw, m_fx, m_fy, m_fz, m_fn, .int 0, .int 0, .int 0, .int 0, .int 0, .int 0, .int 0, m_rowSort, m_rowNumber, m_vals, .int 0, m_thingKind, m_thingNumber, m_suppressedMany, m_suppressedKind, m_suppressedNumber, m_held, .int 0, .int 0, m_vs, .int 0, m_openOf, .int 0, m_waits, .int 0, m_rk, m_ra, m_rb, m_rc, m_rHigh, m_rHow, m_rTo, m_rDepth, m_rValue, m_rThing, .int 0, .int 0, .int 0, .int 0, .int 0, .int 0])), (qn, .inl (kn, 8, .inl fn)), (qo, .inl (ko, 8, .inl fo)), (qc, .inl (kc, 8, .inl fc))] := hD
        have hK : va_K (dC, dI) vwCl [(kn, .boolean), (ko, .int), (kc, .int)] s := hK
        by_cases c10 : ¬ c9 < (-1) ∧ ¬ 3 < c9
        ·
          obtain rfl : r9 = 1 := hw.trans (if_pos c10)
          refine lv_if_ne (tgt := 55) hx hb dX12_resource_50 (by decide) (fun _ => ?_) (fun c9 => absurd c9 (by decide))
          have hvp : vp_in x 8 := z_vpin c2.1 (z_78 c2.2)
          refine lv_aload_n hx hb dX12_resource_55 rfl (lv_at hl 0 rfl) ?_
          refine va_get (D := (dC, dI)) (ci := 11) (v := .ref qn) (C := RX12) (T := TX12) (N := 116) hx hb hts i_X12_resource_X12 hown hK hP 0 rfl rfl 5 (by decide) (hts (.fieldLink RX12 20 "StatementRules2Model" "isNull" "[Z") k_X12_resource_fieldLink_RX12_20_SRModel_isNull_Z) (fun _ h9 => h9) rfl dX12_resource_56 ?_
          refine lv_iload_n hx hb dX12_resource_59 rfl (lv_at hl 1 rfl) ?_
          refine lv_iload_n hx hb dX12_resource_60 rfl (lv_at hl 2 rfl) ?_
          refine lv_iconst (v := 1) hx hb dX12_resource_61 (by decide) ?_
          refine lv_icmp_ne (tgt := 69) hx hb dX12_resource_62 (by decide) (fun c11 => ?_) (fun c11 => ?_)
          ·
            refine lv_iconst (v := 0) hx hb dX12_resource_69 (by decide) ?_
            refine va_zast hx hb hK hP hD hS 1 0 rfl rfl hvp dX12_resource_70 (fun H locs hP hD hS => ?_)
            have hP : va_P (dC, dI) vwCl [(h0, .inr (11, [.int 0, m_tape, .int 0, .int 4, m_above, .ref qn, .ref qo, .ref qc, .int 0, m_words, .int 0, .int 0, .int 0, .long 0, .int 0, .int 0, .int 0, .int 0, .int 0, .int 0, .int 0, m_op, m_ix, m_iy, .int 0, m_entryValue, m_entryAt, m_entryNext, m_entryElse, .int 0, m_tryCatch, m_tryFinal, m_tryEnd, .int 0, m_catchKind, m_catchAt, m_catchSlot, m_catchNext, .int 0, m_seenName, m_seenSlot, m_seenCaught, .int 0, .int 0, m_goalSort, m_goalName, m_goalLoop, m_goalDepth, m_breaks, m_continues, m_broken, m_continued, .int 0, .int 0, .int 0, .int 0, .int 0, m_wallTry, m_wallGoals, .int 0, m_pendGoal, m_pendBreak, m_pendTry, .int 0, m_fk, m_fs, m_fp, m_fq, m_fr, m_fv, m_fw, m_fx, m_fy, m_fz, m_fn, .int 0, .int 0, .int 0, .int 0, .int 0, .int 0, .int 0, m_rowSort, m_rowNumber, m_vals, .int 0, m_thingKind, m_thingNumber, m_suppressedMany, m_suppressedKind, m_suppressedNumber, m_held, .int 0, .int 0, m_vs, .int 0, m_openOf, .int 0, m_waits, .int 0, m_rk, m_ra, m_rb, m_rc, m_rHigh, m_rHow, m_rTo, m_rDepth, m_rValue, m_rThing, .int 0, .int 0, .int 0, .int 0, .int 0, .int 0])), (qn, .inl (kn, 8, .inl (upd fn (x : Int32).toNatClampNeg (vp_nar .boolean 0)))), (qo, .inl (ko, 8, .inl fo)), (qc, .inl (kc, 8, .inl fc))] H := hP
            have hD : va_D A [(h0, .inr (11, [.int 0, m_tape, .int 0, .int 4, m_above, .ref qn, .ref qo, .ref qc, .int 0, m_words, .int 0, .int 0, .int 0, .long 0, .int 0, .int 0, .int 0, .int 0, .int 0, .int 0, .int 0, m_op, m_ix, m_iy, .int 0, m_entryValue, m_entryAt, m_entryNext, m_entryElse, .int 0, m_tryCatch, m_tryFinal, m_tryEnd, .int 0, m_catchKind, m_catchAt, m_catchSlot, m_catchNext, .int 0, m_seenName, m_seenSlot, m_seenCaught, .int 0, .int 0, m_goalSort, m_goalName, m_goalLoop, m_goalDepth, m_breaks, m_continues, m_broken, m_continued, .int 0, .int 0, .int 0, .int 0, .int 0, m_wallTry, m_wallGoals, .int 0, m_pendGoal, m_pendBreak, m_pendTry, .int 0, m_fk, m_fs, m_fp, m_fq, m_fr, m_fv, m_fw, m_fx, m_fy, m_fz, m_fn, .int 0, .int 0, .int 0, .int 0, .int 0, .int 0, .int 0, m_rowSort, m_rowNumber, m_vals, .int 0, m_thingKind, m_thingNumber, m_suppressedMany, m_suppressedKind, m_suppressedNumber, m_held, .int 0, .int 0, m_vs, .int 0, m_openOf, .int 0, m_waits, .int 0, m_rk, m_ra, m_rb, m_rc, m_rHigh, m_rHow, m_rTo, m_rDepth, m_rValue, m_rThing, .int 0, .int 0, .int 0, .int 0, .int 0, .int 0])), (qn, .inl (kn, 8, .inl (upd fn (x : Int32).toNatClampNeg (vp_nar .boolean 0)))), (qo, .inl (ko, 8, .inl fo)), (qc, .inl (kc, 8, .inl fc))] := hD
            generalize upd fn (x : Int32).toNatClampNeg (vp_nar .boolean 0) = f12 at hP hD
            refine lv_aload_n hx hb dX12_resource_71 rfl (lv_at hl 0 rfl) ?_
            refine va_get (D := (dC, dI)) (ci := 11) (v := .ref qo) (C := RX12) (T := TX12) (N := 116) hx hb hts i_X12_resource_X12 hown hK hP 0 rfl rfl 6 (by decide) (hts (.fieldLink RX12 24 "StatementRules2Model" "opening" "[I") k_X12_resource_fieldLink_RX12_24_SRModel_opening_I) (fun _ h9 => h9) rfl dX12_resource_72 ?_
            refine lv_iload_n hx hb dX12_resource_75 rfl (lv_at hl 1 rfl) ?_
            refine lv_iload_n hx hb dX12_resource_76 rfl (lv_at hl 3 rfl) ?_
            refine lv_iconst (v := 1) hx hb dX12_resource_77 (by decide) ?_
            refine lv_iadd hx hb dX12_resource_78 ?_
            refine lv_topi (fun z13 ez13 => ?_)
            refine va_iast hx hb hK hP hD hS 2 1 rfl rfl hvp dX12_resource_79 (fun H locs hP hD hS => ?_)
            have hP : va_P (dC, dI) vwCl [(h0, .inr (11, [.int 0, m_tape, .int 0, .int 4, m_above, .ref qn, .ref qo, .ref qc, .int 0, m_words, .int 0, .int 0, .int 0, .long 0, .int 0, .int 0, .int 0, .int 0, .int 0, .int 0, .int 0, m_op, m_ix, m_iy, .int 0, m_entryValue, m_entryAt, m_entryNext, m_entryElse, .int 0, m_tryCatch, m_tryFinal, m_tryEnd, .int 0, m_catchKind, m_catchAt, m_catchSlot, m_catchNext, .int 0, m_seenName, m_seenSlot, m_seenCaught, .int 0, .int 0, m_goalSort, m_goalName, m_goalLoop, m_goalDepth, m_breaks, m_continues, m_broken, m_continued, .int 0, .int 0, .int 0, .int 0, .int 0, m_wallTry, m_wallGoals, .int 0, m_pendGoal, m_pendBreak, m_pendTry, .int 0, m_fk, m_fs, m_fp, m_fq, m_fr, m_fv, m_fw, m_fx, m_fy, m_fz, m_fn, .int 0, .int 0, .int 0, .int 0, .int 0, .int 0, .int 0, m_rowSort, m_rowNumber, m_vals, .int 0, m_thingKind, m_thingNumber, m_suppressedMany, m_suppressedKind, m_suppressedNumber, m_held, .int 0, .int 0, m_vs, .int 0, m_openOf, .int 0, m_waits, .int 0, m_rk, m_ra, m_rb, m_rc, m_rHigh, m_rHow, m_rTo, m_rDepth, m_rValue, m_rThing, .int 0, .int 0, .int 0, .int 0, .int 0, .int 0])), (qn, .inl (kn, 8, .inl f12)), (qo, .inl (ko, 8, .inl (upd fo (x : Int32).toNatClampNeg z13))), (qc, .inl (kc, 8, .inl fc))] H := hP
            have hD : va_D A [(h0, .inr (11, [.int 0, m_tape, .int 0, .int 4, m_above, .ref qn, .ref qo, .ref qc, .int 0, m_words, .int 0, .int 0, .int 0, .long 0, .int 0, .int 0, .int 0, .int 0, .int 0, .int 0, .int 0, m_op, m_ix, m_iy, .int 0, m_entryValue, m_entryAt, m_entryNext, m_entryElse, .int 0, m_tryCatch, m_tryFinal, m_tryEnd, .int 0, m_catchKind, m_catchAt, m_catchSlot, m_catchNext, .int 0, m_seenName, m_seenSlot, m_seenCaught, .int 0, .int 0, m_goalSort, m_goalName, m_goalLoop, m_goalDepth, m_breaks, m_continues, m_broken, m_continued, .int 0, .int 0, .int 0, .int 0, .int 0, m_wallTry, m_wallGoals, .int 0, m_pendGoal, m_pendBreak, m_pendTry, .int 0, m_fk, m_fs, m_fp, m_fq, m_fr, m_fv, m_fw, m_fx, m_fy, m_fz, m_fn, .int 0, .int 0, .int 0, .int 0, .int 0, .int 0, .int 0, m_rowSort, m_rowNumber, m_vals, .int 0, m_thingKind, m_thingNumber, m_suppressedMany, m_suppressedKind, m_suppressedNumber, m_held, .int 0, .int 0, m_vs, .int 0, m_openOf, .int 0, m_waits, .int 0, m_rk, m_ra, m_rb, m_rc, m_rHigh, m_rHow, m_rTo, m_rDepth, m_rValue, m_rThing, .int 0, .int 0, .int 0, .int 0, .int 0, .int 0])), (qn, .inl (kn, 8, .inl f12)), (qo, .inl (ko, 8, .inl (upd fo (x : Int32).toNatClampNeg z13))), (qc, .inl (kc, 8, .inl fc))] := hD
            generalize upd fo (x : Int32).toNatClampNeg z13 = f14 at hP hD
            refine lv_aload_n hx hb dX12_resource_80 rfl (lv_at hl 0 rfl) ?_
            refine va_get (D := (dC, dI)) (ci := 11) (v := .ref qc) (C := RX12) (T := TX12) (N := 116) hx hb hts i_X12_resource_X12 hown hK hP 0 rfl rfl 7 (by decide) (hts (.fieldLink RX12 27 "StatementRules2Model" "closing" "[I") k_X12_resource_fieldLink_RX12_27_SRModel_closing_I) (fun _ h9 => h9) rfl dX12_resource_81 ?_
            refine lv_iload_n hx hb dX12_resource_84 rfl (lv_at hl 1 rfl) ?_
            refine lv_iload hx hb dX12_resource_85 (lv_at hl 4 rfl) ?_
            refine lv_iconst (v := 1) hx hb dX12_resource_87 (by decide) ?_
            refine lv_iadd hx hb dX12_resource_88 ?_
            refine lv_topi (fun z15 ez15 => ?_)
            refine va_iast hx hb hK hP hD hS 3 2 rfl rfl hvp dX12_resource_89 (fun H locs hP hD hS => ?_)
            have hP : va_P (dC, dI) vwCl [(h0, .inr (11, [.int 0, m_tape, .int 0, .int 4, m_above, .ref qn, .ref qo, .ref qc, .int 0, m_words, .int 0, .int 0, .int 0, .long 0, .int 0, .int 0, .int 0, .int 0, .int 0, .int 0, .int 0, m_op, m_ix, m_iy, .int 0, m_entryValue, m_entryAt, m_entryNext, m_entryElse, .int 0, m_tryCatch, m_tryFinal, m_tryEnd, .int 0, m_catchKind, m_catchAt, m_catchSlot, m_catchNext, .int 0, m_seenName, m_seenSlot, m_seenCaught, .int 0, .int 0, m_goalSort, m_goalName, m_goalLoop, m_goalDepth, m_breaks, m_continues, m_broken, m_continued, .int 0, .int 0, .int 0, .int 0, .int 0, m_wallTry, m_wallGoals, .int 0, m_pendGoal, m_pendBreak, m_pendTry, .int 0, m_fk, m_fs, m_fp, m_fq, m_fr, m_fv, m_fw, m_fx, m_fy, m_fz, m_fn, .int 0, .int 0, .int 0, .int 0, .int 0, .int 0, .int 0, m_rowSort, m_rowNumber, m_vals, .int 0, m_thingKind, m_thingNumber, m_suppressedMany, m_suppressedKind, m_suppressedNumber, m_held, .int 0, .int 0, m_vs, .int 0, m_openOf, .int 0, m_waits, .int 0, m_rk, m_ra, m_rb, m_rc, m_rHigh, m_rHow, m_rTo, m_rDepth, m_rValue, m_rThing, .int 0, .int 0, .int 0, .int 0, .int 0, .int 0])), (qn, .inl (kn, 8, .inl f12)), (qo, .inl (ko, 8, .inl f14)), (qc, .inl (kc, 8, .inl (upd fc (x : Int32).toNatClampNeg z15)))] H := hP
            have hD : va_D A [(h0, .inr (11, [.int 0, m_tape, .int 0, .int 4, m_above, .ref qn, .ref qo, .ref qc, .int 0, m_words, .int 0, .int 0, .int 0, .long 0, .int 0, .int 0, .int 0, .int 0, .int 0, .int 0, .int 0, m_op, m_ix, m_iy, .int 0, m_entryValue, m_entryAt, m_entryNext, m_entryElse, .int 0, m_tryCatch, m_tryFinal, m_tryEnd, .int 0, m_catchKind, m_catchAt, m_catchSlot, m_catchNext, .int 0, m_seenName, m_seenSlot, m_seenCaught, .int 0, .int 0, m_goalSort, m_goalName, m_goalLoop, m_goalDepth, m_breaks, m_continues, m_broken, m_continued, .int 0, .int 0, .int 0, .int 0, .int 0, m_wallTry, m_wallGoals, .int 0, m_pendGoal, m_pendBreak, m_pendTry, .int 0, m_fk, m_fs, m_fp, m_fq, m_fr, m_fv, m_fw, m_fx, m_fy, m_fz, m_fn, .int 0, .int 0, .int 0, .int 0, .int 0, .int 0, .int 0, m_rowSort, m_rowNumber, m_vals, .int 0, m_thingKind, m_thingNumber, m_suppressedMany, m_suppressedKind, m_suppressedNumber, m_held, .int 0, .int 0, m_vs, .int 0, m_openOf, .int 0, m_waits, .int 0, m_rk, m_ra, m_rb, m_rc, m_rHigh, m_rHow, m_rTo, m_rDepth, m_rValue, m_rThing, .int 0, .int 0, .int 0, .int 0, .int 0, .int 0])), (qn, .inl (kn, 8, .inl f12)), (qo, .inl (ko, 8, .inl f14)), (qc, .inl (kc, 8, .inl (upd fc (x : Int32).toNatClampNeg z15)))] := hD
            generalize upd fc (x : Int32).toNatClampNeg z15 = f16 at hP hD
            refine lv_iconst (v := 1) hx hb dX12_resource_90 (by decide) ?_
            have hP9 := hP.sub (ws' := []) [] rfl
            have hD9 := hD.sub (ws' := []) [] (by decide) rfl
            have hK9 := hK.sub (tys' := []) [] rfl
            exact W.iret (v := 1) hx hb hr (fun t ht hW => ⟨⟨1, (), rfl, (if_pos ⟨c2, c4, c7, c10⟩).symm, by rw [ht]; exact hP9, va_K.moved hW.alike hK9, hD9⟩, hS.F ht⟩) hS.2.2 dX12_resource_91
          ·
            refine lv_iconst (v := 1) hx hb dX12_resource_65 (by decide) ?_
            refine lv_goto (tgt := 70) hx hb dX12_resource_66 (by decide) ?_
            refine va_zast hx hb hK hP hD hS 1 0 rfl rfl hvp dX12_resource_70 (fun H locs hP hD hS => ?_)
            have hP : va_P (dC, dI) vwCl [(h0, .inr (11, [.int 0, m_tape, .int 0, .int 4, m_above, .ref qn, .ref qo, .ref qc, .int 0, m_words, .int 0, .int 0, .int 0, .long 0, .int 0, .int 0, .int 0, .int 0, .int 0, .int 0, .int 0, m_op, m_ix, m_iy, .int 0, m_entryValue, m_entryAt, m_entryNext, m_entryElse, .int 0, m_tryCatch, m_tryFinal, m_tryEnd, .int 0, m_catchKind, m_catchAt, m_catchSlot, m_catchNext, .int 0, m_seenName, m_seenSlot, m_seenCaught, .int 0, .int 0, m_goalSort, m_goalName, m_goalLoop, m_goalDepth, m_breaks, m_continues, m_broken, m_continued, .int 0, .int 0, .int 0, .int 0, .int 0, m_wallTry, m_wallGoals, .int 0, m_pendGoal, m_pendBreak, m_pendTry, .int 0, m_fk, m_fs, m_fp, m_fq, m_fr, m_fv, m_fw, m_fx, m_fy, m_fz, m_fn, .int 0, .int 0, .int 0, .int 0, .int 0, .int 0, .int 0, m_rowSort, m_rowNumber, m_vals, .int 0, m_thingKind, m_thingNumber, m_suppressedMany, m_suppressedKind, m_suppressedNumber, m_held, .int 0, .int 0, m_vs, .int 0, m_openOf, .int 0, m_waits, .int 0, m_rk, m_ra, m_rb, m_rc, m_rHigh, m_rHow, m_rTo, m_rDepth, m_rValue, m_rThing, .int 0, .int 0, .int 0, .int 0, .int 0, .int 0])), (qn, .inl (kn, 8, .inl (upd fn (x : Int32).toNatClampNeg (vp_nar .boolean 1)))), (qo, .inl (ko, 8, .inl fo)), (qc, .inl (kc, 8, .inl fc))] H := hP
            have hD : va_D A [(h0, .inr (11, [.int 0, m_tape, .int 0, .int 4, m_above, .ref qn, .ref qo, .ref qc, .int 0, m_words, .int 0, .int 0, .int 0, .long 0, .int 0, .int 0, .int 0, .int 0, .int 0, .int 0, .int 0, m_op, m_ix, m_iy, .int 0, m_entryValue, m_entryAt, m_entryNext, m_entryElse, .int 0, m_tryCatch, m_tryFinal, m_tryEnd, .int 0, m_catchKind, m_catchAt, m_catchSlot, m_catchNext, .int 0, m_seenName, m_seenSlot, m_seenCaught, .int 0, .int 0, m_goalSort, m_goalName, m_goalLoop, m_goalDepth, m_breaks, m_continues, m_broken, m_continued, .int 0, .int 0, .int 0, .int 0, .int 0, m_wallTry, m_wallGoals, .int 0, m_pendGoal, m_pendBreak, m_pendTry, .int 0, m_fk, m_fs, m_fp, m_fq, m_fr, m_fv, m_fw, m_fx, m_fy, m_fz, m_fn, .int 0, .int 0, .int 0, .int 0, .int 0, .int 0, .int 0, m_rowSort, m_rowNumber, m_vals, .int 0, m_thingKind, m_thingNumber, m_suppressedMany, m_suppressedKind, m_suppressedNumber, m_held, .int 0, .int 0, m_vs, .int 0, m_openOf, .int 0, m_waits, .int 0, m_rk, m_ra, m_rb, m_rc, m_rHigh, m_rHow, m_rTo, m_rDepth, m_rValue, m_rThing, .int 0, .int 0, .int 0, .int 0, .int 0, .int 0])), (qn, .inl (kn, 8, .inl (upd fn (x : Int32).toNatClampNeg (vp_nar .boolean 1)))), (qo, .inl (ko, 8, .inl fo)), (qc, .inl (kc, 8, .inl fc))] := hD
            generalize upd fn (x : Int32).toNatClampNeg (vp_nar .boolean 1) = f17 at hP hD
            refine lv_aload_n hx hb dX12_resource_71 rfl (lv_at hl 0 rfl) ?_
            refine va_get (D := (dC, dI)) (ci := 11) (v := .ref qo) (C := RX12) (T := TX12) (N := 116) hx hb hts i_X12_resource_X12 hown hK hP 0 rfl rfl 6 (by decide) (hts (.fieldLink RX12 24 "StatementRules2Model" "opening" "[I") k_X12_resource_fieldLink_RX12_24_SRModel_opening_I) (fun _ h9 => h9) rfl dX12_resource_72 ?_
            refine lv_iload_n hx hb dX12_resource_75 rfl (lv_at hl 1 rfl) ?_
            refine lv_iload_n hx hb dX12_resource_76 rfl (lv_at hl 3 rfl) ?_
            refine lv_iconst (v := 1) hx hb dX12_resource_77 (by decide) ?_
            refine lv_iadd hx hb dX12_resource_78 ?_
            refine lv_topi (fun z18 ez18 => ?_)
            refine va_iast hx hb hK hP hD hS 2 1 rfl rfl hvp dX12_resource_79 (fun H locs hP hD hS => ?_)
            have hP : va_P (dC, dI) vwCl [(h0, .inr (11, [.int 0, m_tape, .int 0, .int 4, m_above, .ref qn, .ref qo, .ref qc, .int 0, m_words, .int 0, .int 0, .int 0, .long 0, .int 0, .int 0, .int 0, .int 0, .int 0, .int 0, .int 0, m_op, m_ix, m_iy, .int 0, m_entryValue, m_entryAt, m_entryNext, m_entryElse, .int 0, m_tryCatch, m_tryFinal, m_tryEnd, .int 0, m_catchKind, m_catchAt, m_catchSlot, m_catchNext, .int 0, m_seenName, m_seenSlot, m_seenCaught, .int 0, .int 0, m_goalSort, m_goalName, m_goalLoop, m_goalDepth, m_breaks, m_continues, m_broken, m_continued, .int 0, .int 0, .int 0, .int 0, .int 0, m_wallTry, m_wallGoals, .int 0, m_pendGoal, m_pendBreak, m_pendTry, .int 0, m_fk, m_fs, m_fp, m_fq, m_fr, m_fv, m_fw, m_fx, m_fy, m_fz, m_fn, .int 0, .int 0, .int 0, .int 0, .int 0, .int 0, .int 0, m_rowSort, m_rowNumber, m_vals, .int 0, m_thingKind, m_thingNumber, m_suppressedMany, m_suppressedKind, m_suppressedNumber, m_held, .int 0, .int 0, m_vs, .int 0, m_openOf, .int 0, m_waits, .int 0, m_rk, m_ra, m_rb, m_rc, m_rHigh, m_rHow, m_rTo, m_rDepth, m_rValue, m_rThing, .int 0, .int 0, .int 0, .int 0, .int 0, .int 0])), (qn, .inl (kn, 8, .inl f17)), (qo, .inl (ko, 8, .inl (upd fo (x : Int32).toNatClampNeg z18))), (qc, .inl (kc, 8, .inl fc))] H := hP
            have hD : va_D A [(h0, .inr (11, [.int 0, m_tape, .int 0, .int 4, m_above, .ref qn, .ref qo, .ref qc, .int 0, m_words, .int 0, .int 0, .int 0, .long 0, .int 0, .int 0, .int 0, .int 0, .int 0, .int 0, .int 0, m_op, m_ix, m_iy, .int 0, m_entryValue, m_entryAt, m_entryNext, m_entryElse, .int 0, m_tryCatch, m_tryFinal, m_tryEnd, .int 0, m_catchKind, m_catchAt, m_catchSlot, m_catchNext, .int 0, m_seenName, m_seenSlot, m_seenCaught, .int 0, .int 0, m_goalSort, m_goalName, m_goalLoop, m_goalDepth, m_breaks, m_continues, m_broken, m_continued, .int 0, .int 0, .int 0, .int 0, .int 0, m_wallTry, m_wallGoals, .int 0, m_pendGoal, m_pendBreak, m_pendTry, .int 0, m_fk, m_fs, m_fp, m_fq, m_fr, m_fv, m_fw, m_fx, m_fy, m_fz, m_fn, .int 0, .int 0, .int 0, .int 0, .int 0, .int 0, .int 0, m_rowSort, m_rowNumber, m_vals, .int 0, m_thingKind, m_thingNumber, m_suppressedMany, m_suppressedKind, m_suppressedNumber, m_held, .int 0, .int 0, m_vs, .int 0, m_openOf, .int 0, m_waits, .int 0, m_rk, m_ra, m_rb, m_rc, m_rHigh, m_rHow, m_rTo, m_rDepth, m_rValue, m_rThing, .int 0, .int 0, .int 0, .int 0, .int 0, .int 0])), (qn, .inl (kn, 8, .inl f17)), (qo, .inl (ko, 8, .inl (upd fo (x : Int32).toNatClampNeg z18))), (qc, .inl (kc, 8, .inl fc))] := hD
            generalize upd fo (x : Int32).toNatClampNeg z18 = f19 at hP hD
            refine lv_aload_n hx hb dX12_resource_80 rfl (lv_at hl 0 rfl) ?_
            refine va_get (D := (dC, dI)) (ci := 11) (v := .ref qc) (C := RX12) (T := TX12) (N := 116) hx hb hts i_X12_resource_X12 hown hK hP 0 rfl rfl 7 (by decide) (hts (.fieldLink RX12 27 "StatementRules2Model" "closing" "[I") k_X12_resource_fieldLink_RX12_27_SRModel_closing_I) (fun _ h9 => h9) rfl dX12_resource_81 ?_
            refine lv_iload_n hx hb dX12_resource_84 rfl (lv_at hl 1 rfl) ?_
            refine lv_iload hx hb dX12_resource_85 (lv_at hl 4 rfl) ?_
            refine lv_iconst (v := 1) hx hb dX12_resource_87 (by decide) ?_
            refine lv_iadd hx hb dX12_resource_88 ?_
            refine lv_topi (fun z20 ez20 => ?_)
            refine va_iast hx hb hK hP hD hS 3 2 rfl rfl hvp dX12_resource_89 (fun H locs hP hD hS => ?_)
            have hP : va_P (dC, dI) vwCl [(h0, .inr (11, [.int 0, m_tape, .int 0, .int 4, m_above, .ref qn, .ref qo, .ref qc, .int 0, m_words, .int 0, .int 0, .int 0, .long 0, .int 0, .int 0, .int 0, .int 0, .int 0, .int 0, .int 0, m_op, m_ix, m_iy, .int 0, m_entryValue, m_entryAt, m_entryNext, m_entryElse, .int 0, m_tryCatch, m_tryFinal, m_tryEnd, .int 0, m_catchKind, m_catchAt, m_catchSlot, m_catchNext, .int 0, m_seenName, m_seenSlot, m_seenCaught, .int 0, .int 0, m_goalSort, m_goalName, m_goalLoop, m_goalDepth, m_breaks, m_continues, m_broken, m_continued, .int 0, .int 0, .int 0, .int 0, .int 0, m_wallTry, m_wallGoals, .int 0, m_pendGoal, m_pendBreak, m_pendTry, .int 0, m_fk, m_fs, m_fp, m_fq, m_fr, m_fv, m_fw, m_fx, m_fy, m_fz, m_fn, .int 0, .int 0, .int 0, .int 0, .int 0, .int 0, .int 0, m_rowSort, m_rowNumber, m_vals, .int 0, m_thingKind, m_thingNumber, m_suppressedMany, m_suppressedKind, m_suppressedNumber, m_held, .int 0, .int 0, m_vs, .int 0, m_openOf, .int 0, m_waits, .int 0, m_rk, m_ra, m_rb, m_rc, m_rHigh, m_rHow, m_rTo, m_rDepth, m_rValue, m_rThing, .int 0, .int 0, .int 0, .int 0, .int 0, .int 0])), (qn, .inl (kn, 8, .inl f17)), (qo, .inl (ko, 8, .inl f19)), (qc, .inl (kc, 8, .inl (upd fc (x : Int32).toNatClampNeg z20)))] H := hP
            have hD : va_D A [(h0, .inr (11, [.int 0, m_tape, .int 0, .int 4, m_above, .ref qn, .ref qo, .ref qc, .int 0, m_words, .int 0, .int 0, .int 0, .long 0, .int 0, .int 0, .int 0, .int 0, .int 0, .int 0, .int 0, m_op, m_ix, m_iy, .int 0, m_entryValue, m_entryAt, m_entryNext, m_entryElse, .int 0, m_tryCatch, m_tryFinal, m_tryEnd, .int 0, m_catchKind, m_catchAt, m_catchSlot, m_catchNext, .int 0, m_seenName, m_seenSlot, m_seenCaught, .int 0, .int 0, m_goalSort, m_goalName, m_goalLoop, m_goalDepth, m_breaks, m_continues, m_broken, m_continued, .int 0, .int 0, .int 0, .int 0, .int 0, m_wallTry, m_wallGoals, .int 0, m_pendGoal, m_pendBreak, m_pendTry, .int 0, m_fk, m_fs, m_fp, m_fq, m_fr, m_fv, m_fw, m_fx, m_fy, m_fz, m_fn, .int 0, .int 0, .int 0, .int 0, .int 0, .int 0, .int 0, m_rowSort, m_rowNumber, m_vals, .int 0, m_thingKind, m_thingNumber, m_suppressedMany, m_suppressedKind, m_suppressedNumber, m_held, .int 0, .int 0, m_vs, .int 0, m_openOf, .int 0, m_waits, .int 0, m_rk, m_ra, m_rb, m_rc, m_rHigh, m_rHow, m_rTo, m_rDepth, m_rValue, m_rThing, .int 0, .int 0, .int 0, .int 0, .int 0, .int 0])), (qn, .inl (kn, 8, .inl f17)), (qo, .inl (ko, 8, .inl f19)), (qc, .inl (kc, 8, .inl (upd fc (x : Int32).toNatClampNeg z20)))] := hD
            generalize upd fc (x : Int32).toNatClampNeg z20 = f21 at hP hD
            refine lv_iconst (v := 1) hx hb dX12_resource_90 (by decide) ?_
            have hP9 := hP.sub (ws' := []) [] rfl
            have hD9 := hD.sub (ws' := []) [] (by decide) rfl
            have hK9 := hK.sub (tys' := []) [] rfl
            exact W.iret (v := 1) hx hb hr (fun t ht hW => ⟨⟨1, (), rfl, (if_pos ⟨c2, c4, c7, c10⟩).symm, by rw [ht]; exact hP9, va_K.moved hW.alike hK9, hD9⟩, hS.F ht⟩) hS.2.2 dX12_resource_91
        ·
          obtain rfl : r9 = 0 := hw.trans (if_neg c10)
          refine lv_if_ne (tgt := 55) hx hb dX12_resource_50 (by decide) (fun c9 => absurd (by decide) c9) (fun _ => ?_)
          refine lv_iconst (v := (-1)) hx hb dX12_resource_53 (by decide) ?_
          have hP9 := hP.sub (ws' := []) [] rfl
          have hD9 := hD.sub (ws' := []) [] (by decide) rfl
          have hK9 := hK.sub (tys' := []) [] rfl
          exact W.iret (v := (-1)) hx hb hr (fun t ht hW => ⟨⟨(-1), (), rfl, (if_neg (fun h => c10 h.2.2.2)).symm, by rw [ht]; exact hP9, va_K.moved hW.alike hK9, hD9⟩, hS.F ht⟩) hS.2.2 dX12_resource_54
      ·
        obtain rfl : r6 = 0 := hw.trans (if_neg c7)
        refine lv_if_eq (tgt := 53) hx hb dX12_resource_35 (by decide) (fun _ => ?_) (fun c9 => absurd (by decide) c9)
        refine lv_iconst (v := (-1)) hx hb dX12_resource_53 (by decide) ?_
        have hP9 := hP.sub (ws' := []) [] rfl
        have hD9 := hD.sub (ws' := []) [] (by decide) rfl
        have hK9 := hK.sub (tys' := []) [] rfl
        exact W.iret (v := (-1)) hx hb hr (fun t ht hW => ⟨⟨(-1), (), rfl, (if_neg (fun h => c7 h.2.2.1)).symm, by rw [ht]; exact hP9, va_K.moved hW.alike hK9, hD9⟩, hS.F ht⟩) hS.2.2 dX12_resource_54
    ·
      obtain rfl : r3 = 0 := hw.trans (if_neg c4)
      refine lv_if_eq (tgt := 53) hx hb dX12_resource_21 (by decide) (fun _ => ?_) (fun c9 => absurd (by decide) c9)
      refine lv_iconst (v := (-1)) hx hb dX12_resource_53 (by decide) ?_
      have hP9 := hP.sub (ws' := []) [] rfl
      have hD9 := hD.sub (ws' := []) [] (by decide) rfl
      have hK9 := hK.sub (tys' := []) [] rfl
      exact W.iret (v := (-1)) hx hb hr (fun t ht hW => ⟨⟨(-1), (), rfl, (if_neg (fun h => c4 h.2.1)).symm, by rw [ht]; exact hP9, va_K.moved hW.alike hK9, hD9⟩, hS.F ht⟩) hS.2.2 dX12_resource_54
  ·
    obtain rfl : r1 = 0 := hw.trans (if_neg c2)
    refine lv_if_eq (tgt := 53) hx hb dX12_resource_12 (by decide) (fun _ => ?_) (fun c9 => absurd (by decide) c9)
    refine lv_iconst (v := (-1)) hx hb dX12_resource_53 (by decide) ?_
    have hP9 := hP.sub (ws' := []) [] rfl
    have hD9 := hD.sub (ws' := []) [] (by decide) rfl
    have hK9 := hK.sub (tys' := []) [] rfl
    exact W.iret (v := (-1)) hx hb hr (fun t ht hW => ⟨⟨(-1), (), rfl, (if_neg (fun h => c2 h.1)).symm, by rw [ht]; exact hP9, va_K.moved hW.alike hK9, hD9⟩, hS.F ht⟩) hS.2.2 dX12_resource_54
theorem k_X12_feed_fieldLink_RX12_273_SRModel_thrown_I : Cond.fieldLink RX12 273 "StatementRules2Model" "thrown" "I" ∈ wzX12_feed := List.mem_cons_of_mem _ (List.mem_append_left _ (List.mem_of_getElem? (i := 0) rfl))
theorem i_X12_feed_X12 : ∀ w ∈ wsX120, w ∈ wzX12_feed := fun _ h => List.mem_cons_of_mem _ (List.mem_append_right _ (List.mem_append_left _ (h)))
theorem k_X12_feed_fieldLink_RX12_276_SRModel_taped_I : Cond.fieldLink RX12 276 "StatementRules2Model" "taped" "I" ∈ wzX12_feed := List.mem_cons_of_mem _ (List.mem_append_left _ (List.mem_of_getElem? (i := 1) rfl))
theorem k_X12_feed_fieldLink_RX12_7_SRModel_tape_I : Cond.fieldLink RX12 7 "StatementRules2Model" "tape" "[I" ∈ wzX12_feed := List.mem_cons_of_mem _ (List.mem_append_left _ (List.mem_of_getElem? (i := 2) rfl))
set_option maxHeartbeats 4000000 in
set_option maxRecDepth 100000 in
theorem c_X12_feed (l : Launch) (dC : Nat → ClassId) (dI : Nat → Nat → Nat) (sz : Nat) (h0 : Nat) (a : Int32) (b : Int32) (c9 : Int32) (d : Int32) (e9 : Int32) (qt : Nat) (kt : ClassId) (f : Nat → Int32) (m_above : Value) (m_isNull : Value) (m_opening : Value) (m_closing : Value) (m_words : Value) (m_op : Value) (m_ix : Value) (m_iy : Value) (m_entryValue : Value) (m_entryAt : Value) (m_entryNext : Value) (m_entryElse : Value) (m_tryCatch : Value) (m_tryFinal : Value) (m_tryEnd : Value) (m_catchKind : Value) (m_catchAt : Value) (m_catchSlot : Value) (m_catchNext : Value) (m_seenName : Value) (m_seenSlot : Value) (m_seenCaught : Value) (m_goalSort : Value) (m_goalName : Value) (m_goalLoop : Value) (m_goalDepth : Value) (m_breaks : Value) (m_continues : Value) (m_broken : Value) (m_continued : Value) (m_wallTry : Value) (m_wallGoals : Value) (m_pendGoal : Value) (m_pendBreak : Value) (m_pendTry : Value) (m_fk : Value) (m_fs : Value) (m_fp : Value) (m_fq : Value) (m_fr : Value) (m_fv : Value) (m_fw : Value) (m_fx : Value) (m_fy : Value) (m_fz : Value) (m_fn : Value) (m_rowSort : Value) (m_rowNumber : Value) (m_vals : Value) (m_thingKind : Value) (m_thingNumber : Value) (m_suppressedMany : Value) (m_suppressedKind : Value) (m_suppressedNumber : Value) (m_held : Value) (m_vs : Value) (m_openOf : Value) (m_waits : Value) (m_rk : Value) (m_ra : Value) (m_rb : Value) (m_rc : Value) (m_rHigh : Value) (m_rHow : Value) (m_rTo : Value) (m_rDepth : Value) (m_rValue : Value) (m_rThing : Value) : Met l yX12_feed wzX12_feed ({ frames := 1, cells := 0, slots := 0, locals := 60 }) (va_Pc [.ref h0, .int a, .int b, .int c9, .int d, .int e9] (zPre dC dI sz [(h0, .inr (11, [.int 0, .ref qt, .int 0, .int 4, m_above, m_isNull, m_opening, m_closing, .int 0, m_words, .int 0, .int 0, .int 0, .long 0, .int 0, .int 0, .int 0, .int 0, .int 0, .int 0, .int 0, m_op, m_ix, m_iy, .int 0, m_entryValue, m_entryAt, m_entryNext, m_entryElse, .int 0, m_tryCatch, m_tryFinal, m_tryEnd, .int 0, m_catchKind, m_catchAt, m_catchSlot, m_catchNext, .int 0, m_seenName, m_seenSlot, m_seenCaught, .int 0, .int 0, m_goalSort, m_goalName, m_goalLoop, m_goalDepth, m_breaks, m_continues, m_broken, m_continued, .int 0, .int 0, .int 0, .int 0, .int 0, m_wallTry, m_wallGoals, .int 0, m_pendGoal, m_pendBreak, m_pendTry, .int 0, m_fk, m_fs, m_fp, m_fq, m_fr, m_fv, m_fw, m_fx, m_fy, m_fz, m_fn, .int 0, .int 0, .int 0, .int 0, .int 0, .int 0, .int 0, m_rowSort, m_rowNumber, m_vals, .int 0, m_thingKind, m_thingNumber, m_suppressedMany, m_suppressedKind, m_suppressedNumber, m_held, .int 0, .int 0, m_vs, .int 0, m_openOf, .int 0, m_waits, .int 0, m_rk, m_ra, m_rb, m_rc, m_rHigh, m_rHow, m_rTo, m_rDepth, m_rValue, m_rThing, .int 0, .int 0, .int 0, .int 0, .int 0, .int 0])), (qt, .inl (kt, 900, .inl f))] [(kt, .int)])) (va_Qi (fun (r : Int32) (_ : Unit) => r = 20) (fun (_ : Unit) (t : State) => zPost dC dI (va_A [(h0, .inr (11, [.int 0, .ref qt, .int 0, .int 4, m_above, m_isNull, m_opening, m_closing, .int 0, m_words, .int 0, .int 0, .int 0, .long 0, .int 0, .int 0, .int 0, .int 0, .int 0, .int 0, .int 0, m_op, m_ix, m_iy, .int 0, m_entryValue, m_entryAt, m_entryNext, m_entryElse, .int 0, m_tryCatch, m_tryFinal, m_tryEnd, .int 0, m_catchKind, m_catchAt, m_catchSlot, m_catchNext, .int 0, m_seenName, m_seenSlot, m_seenCaught, .int 0, .int 0, m_goalSort, m_goalName, m_goalLoop, m_goalDepth, m_breaks, m_continues, m_broken, m_continued, .int 0, .int 0, .int 0, .int 0, .int 0, m_wallTry, m_wallGoals, .int 0, m_pendGoal, m_pendBreak, m_pendTry, .int 0, m_fk, m_fs, m_fp, m_fq, m_fr, m_fv, m_fw, m_fx, m_fy, m_fz, m_fn, .int 0, .int 0, .int 0, .int 0, .int 0, .int 0, .int 0, m_rowSort, m_rowNumber, m_vals, .int 0, m_thingKind, m_thingNumber, m_suppressedMany, m_suppressedKind, m_suppressedNumber, m_held, .int 0, .int 0, m_vs, .int 0, m_openOf, .int 0, m_waits, .int 0, m_rk, m_ra, m_rb, m_rc, m_rHigh, m_rHow, m_rTo, m_rDepth, m_rValue, m_rThing, .int 0, .int 0, .int 0, .int 0, .int 0, .int 0])), (qt, .inl (kt, 900, .inl f))] sz) [] [] t) (va_A [(h0, .inr (11, [.int 0, .ref qt, .int 0, .int 4, m_above, m_isNull, m_opening, m_closing, .int 0, m_words, .int 0, .int 0, .int 0, .long 0, .int 0, .int 0, .int 0, .int 0, .int 0, .int 0, .int 0, m_op, m_ix, m_iy, .int 0, m_entryValue, m_entryAt, m_entryNext, m_entryElse, .int 0, m_tryCatch, m_tryFinal, m_tryEnd, .int 0, m_catchKind, m_catchAt, m_catchSlot, m_catchNext, .int 0, m_seenName, m_seenSlot, m_seenCaught, .int 0, .int 0, m_goalSort, m_goalName, m_goalLoop, m_goalDepth, m_breaks, m_continues, m_broken, m_continued, .int 0, .int 0, .int 0, .int 0, .int 0, m_wallTry, m_wallGoals, .int 0, m_pendGoal, m_pendBreak, m_pendTry, .int 0, m_fk, m_fs, m_fp, m_fq, m_fr, m_fv, m_fw, m_fx, m_fy, m_fz, m_fn, .int 0, .int 0, .int 0, .int 0, .int 0, .int 0, .int 0, m_rowSort, m_rowNumber, m_vals, .int 0, m_thingKind, m_thingNumber, m_suppressedMany, m_suppressedKind, m_suppressedNumber, m_held, .int 0, .int 0, m_vs, .int 0, m_openOf, .int 0, m_waits, .int 0, m_rk, m_ra, m_rb, m_rc, m_rHigh, m_rHow, m_rTo, m_rDepth, m_rValue, m_rThing, .int 0, .int 0, .int 0, .int 0, .int 0, .int 0])), (qt, .inl (kt, 900, .inl f))] sz)) 0 0 (va_A [(h0, .inr (11, [.int 0, .ref qt, .int 0, .int 4, m_above, m_isNull, m_opening, m_closing, .int 0, m_words, .int 0, .int 0, .int 0, .long 0, .int 0, .int 0, .int 0, .int 0, .int 0, .int 0, .int 0, m_op, m_ix, m_iy, .int 0, m_entryValue, m_entryAt, m_entryNext, m_entryElse, .int 0, m_tryCatch, m_tryFinal, m_tryEnd, .int 0, m_catchKind, m_catchAt, m_catchSlot, m_catchNext, .int 0, m_seenName, m_seenSlot, m_seenCaught, .int 0, .int 0, m_goalSort, m_goalName, m_goalLoop, m_goalDepth, m_breaks, m_continues, m_broken, m_continued, .int 0, .int 0, .int 0, .int 0, .int 0, m_wallTry, m_wallGoals, .int 0, m_pendGoal, m_pendBreak, m_pendTry, .int 0, m_fk, m_fs, m_fp, m_fq, m_fr, m_fv, m_fw, m_fx, m_fy, m_fz, m_fn, .int 0, .int 0, .int 0, .int 0, .int 0, .int 0, .int 0, m_rowSort, m_rowNumber, m_vals, .int 0, m_thingKind, m_thingNumber, m_suppressedMany, m_suppressedKind, m_suppressedNumber, m_held, .int 0, .int 0, m_vs, .int 0, m_openOf, .int 0, m_waits, .int 0, m_rk, m_ra, m_rb, m_rc, m_rHigh, m_rHow, m_rTo, m_rDepth, m_rValue, m_rThing, .int 0, .int 0, .int 0, .int 0, .int 0, .int 0])), (qt, .inl (kt, 900, .inl f))] sz) := by
  refine Met.ofW (cc := cX12_feed) (maxL := 8) (ret := (some .int)) (by decide) rfl ?_
  intro p e s m args below meth c s₁ B hml hv
  obtain ⟨rfl, hsz, hZ, hP, hK, hD0⟩ := hv
  have hx := B.exec
  have hb := B.bytes
  have hr := B.returns
  have hts := atoms_spec (ws := wzX12_feed) B.pre
  have hown : s.vm.findClass RX12 = some m.cls := findClass_of_methodNamed B.named
  have hlocks := B.notSynchronized
  subst hsz
  have hD := hD0.self (sz := s.heap.size)
  generalize hAe : va_A [(h0, .inr (11, [.int 0, .ref qt, .int 0, .int 4, m_above, m_isNull, m_opening, m_closing, .int 0, m_words, .int 0, .int 0, .int 0, .long 0, .int 0, .int 0, .int 0, .int 0, .int 0, .int 0, .int 0, m_op, m_ix, m_iy, .int 0, m_entryValue, m_entryAt, m_entryNext, m_entryElse, .int 0, m_tryCatch, m_tryFinal, m_tryEnd, .int 0, m_catchKind, m_catchAt, m_catchSlot, m_catchNext, .int 0, m_seenName, m_seenSlot, m_seenCaught, .int 0, .int 0, m_goalSort, m_goalName, m_goalLoop, m_goalDepth, m_breaks, m_continues, m_broken, m_continued, .int 0, .int 0, .int 0, .int 0, .int 0, m_wallTry, m_wallGoals, .int 0, m_pendGoal, m_pendBreak, m_pendTry, .int 0, m_fk, m_fs, m_fp, m_fq, m_fr, m_fv, m_fw, m_fx, m_fy, m_fz, m_fn, .int 0, .int 0, .int 0, .int 0, .int 0, .int 0, .int 0, m_rowSort, m_rowNumber, m_vals, .int 0, m_thingKind, m_thingNumber, m_suppressedMany, m_suppressedKind, m_suppressedNumber, m_held, .int 0, .int 0, m_vs, .int 0, m_openOf, .int 0, m_waits, .int 0, m_rk, m_ra, m_rb, m_rc, m_rHigh, m_rHow, m_rTo, m_rDepth, m_rValue, m_rThing, .int 0, .int 0, .int 0, .int 0, .int 0, .int 0])), (qt, .inl (kt, 900, .inl f))] s.heap.size = A at hD ⊢
  have hA : ∀ q : Nat, s.heap.size ≤ q → A q := fun q h => by rw [← hAe]; exact Or.inr h
  have hS : va_S A s.heap s.heap [] := va_S.rf
  have hP : va_P (dC, dI) vwCl [(h0, .inr (11, [.int 0, .ref qt, .int 0, .int 4, m_above, m_isNull, m_opening, m_closing, .int 0, m_words, .int 0, .int 0, .int 0, .long 0, .int 0, .int 0, .int 0, .int 0, .int 0, .int 0, .int 0, m_op, m_ix, m_iy, .int 0, m_entryValue, m_entryAt, m_entryNext, m_entryElse, .int 0, m_tryCatch, m_tryFinal, m_tryEnd, .int 0, m_catchKind, m_catchAt, m_catchSlot, m_catchNext, .int 0, m_seenName, m_seenSlot, m_seenCaught, .int 0, .int 0, m_goalSort, m_goalName, m_goalLoop, m_goalDepth, m_breaks, m_continues, m_broken, m_continued, .int 0, .int 0, .int 0, .int 0, .int 0, m_wallTry, m_wallGoals, .int 0, m_pendGoal, m_pendBreak, m_pendTry, .int 0, m_fk, m_fs, m_fp, m_fq, m_fr, m_fv, m_fw, m_fx, m_fy, m_fz, m_fn, .int 0, .int 0, .int 0, .int 0, .int 0, .int 0, .int 0, m_rowSort, m_rowNumber, m_vals, .int 0, m_thingKind, m_thingNumber, m_suppressedMany, m_suppressedKind, m_suppressedNumber, m_held, .int 0, .int 0, m_vs, .int 0, m_openOf, .int 0, m_waits, .int 0, m_rk, m_ra, m_rb, m_rc, m_rHigh, m_rHow, m_rTo, m_rDepth, m_rValue, m_rThing, .int 0, .int 0, .int 0, .int 0, .int 0, .int 0])), (qt, .inl (kt, 900, .inl f))] s.heap := hP
  have hl := lv_entry ([.ref h0, .int a, .int b, .int c9, .int d, .int e9]) (n := 8) (Nat.le_of_ble_eq_true rfl)
  rw [lg_entry_eq]
  generalize (lg_sl ([.ref h0, .int a, .int b, .int c9, .int d, .int e9]) ++ List.replicate (8 - (lg_sl ([.ref h0, .int a, .int b, .int c9, .int d, .int e9])).length) Slot.unset).toArray = ls at hl ⊢
  have hl : lv_has ls 8 [(0, .ref h0), (1, .int a), (2, .int b), (3, .int c9), (4, .int d), (5, .int e9)] := hl
  refine lv_aload_n hx hb dX12_feed_0 rfl (lv_at hl 0 rfl) ?_
  refine lv_iconst (v := 0) hx hb dX12_feed_1 (by decide) ?_
  refine va_put (D := (dC, dI)) (ci := 11) (v := .int 0) (ty := .int) (C := RX12) (T := TX12) (N := 116) hx hb hts i_X12_feed_X12 tyX12 tyX12_ok nmX12 hown hK hP hD hS 0 rfl rfl 0 (by decide) (hts (.fieldLink RX12 273 "StatementRules2Model" "thrown" "I") k_X12_feed_fieldLink_RX12_273_SRModel_thrown_I) (fun _ h9 => h9) rfl (by decide +kernel) rfl rfl (Nat.le_of_ble_eq_true rfl) dX12_feed_2 (fun H locs hP hD hS => ?_)
  have hP : va_P (dC, dI) vwCl [(h0, .inr (11, [.int 0, .ref qt, .int 0, .int 4, m_above, m_isNull, m_opening, m_closing, .int 0, m_words, .int 0, .int 0, .int 0, .long 0, .int 0, .int 0, .int 0, .int 0, .int 0, .int 0, .int 0, m_op, m_ix, m_iy, .int 0, m_entryValue, m_entryAt, m_entryNext, m_entryElse, .int 0, m_tryCatch, m_tryFinal, m_tryEnd, .int 0, m_catchKind, m_catchAt, m_catchSlot, m_catchNext, .int 0, m_seenName, m_seenSlot, m_seenCaught, .int 0, .int 0, m_goalSort, m_goalName, m_goalLoop, m_goalDepth, m_breaks, m_continues, m_broken, m_continued, .int 0, .int 0, .int 0, .int 0, .int 0, m_wallTry, m_wallGoals, .int 0, m_pendGoal, m_pendBreak, m_pendTry, .int 0, m_fk, m_fs, m_fp, m_fq, m_fr, m_fv, m_fw, m_fx, m_fy, m_fz, m_fn, .int 0, .int 0, .int 0, .int 0, .int 0, .int 0, .int 0, m_rowSort, m_rowNumber, m_vals, .int 0, m_thingKind, m_thingNumber, m_suppressedMany, m_suppressedKind, m_suppressedNumber, m_held, .int 0, .int 0, m_vs, .int 0, m_openOf, .int 0, m_waits, .int 0, m_rk, m_ra, m_rb, m_rc, m_rHigh, m_rHow, m_rTo, m_rDepth, m_rValue, m_rThing, .int 0, .int 0, .int 0, .int 0, .int 0, .int 0])), (qt, .inl (kt, 900, .inl f))] H := hP
  have hD : va_D A [(h0, .inr (11, [.int 0, .ref qt, .int 0, .int 4, m_above, m_isNull, m_opening, m_closing, .int 0, m_words, .int 0, .int 0, .int 0, .long 0, .int 0, .int 0, .int 0, .int 0, .int 0, .int 0, .int 0, m_op, m_ix, m_iy, .int 0, m_entryValue, m_entryAt, m_entryNext, m_entryElse, .int 0, m_tryCatch, m_tryFinal, m_tryEnd, .int 0, m_catchKind, m_catchAt, m_catchSlot, m_catchNext, .int 0, m_seenName, m_seenSlot, m_seenCaught, .int 0, .int 0, m_goalSort, m_goalName, m_goalLoop, m_goalDepth, m_breaks, m_continues, m_broken, m_continued, .int 0, .int 0, .int 0, .int 0, .int 0, m_wallTry, m_wallGoals, .int 0, m_pendGoal, m_pendBreak, m_pendTry, .int 0, m_fk, m_fs, m_fp, m_fq, m_fr, m_fv, m_fw, m_fx, m_fy, m_fz, m_fn, .int 0, .int 0, .int 0, .int 0, .int 0, .int 0, .int 0, m_rowSort, m_rowNumber, m_vals, .int 0, m_thingKind, m_thingNumber, m_suppressedMany, m_suppressedKind, m_suppressedNumber, m_held, .int 0, .int 0, m_vs, .int 0, m_openOf, .int 0, m_waits, .int 0, m_rk, m_ra, m_rb, m_rc, m_rHigh, m_rHow, m_rTo, m_rDepth, m_rValue, m_rThing, .int 0, .int 0, .int 0, .int 0, .int 0, .int 0])), (qt, .inl (kt, 900, .inl f))] := hD
  refine lv_aload_n hx hb dX12_feed_5 rfl (lv_at hl 0 rfl) ?_
  refine va_get (D := (dC, dI)) (ci := 11) (v := .int 0) (C := RX12) (T := TX12) (N := 116) hx hb hts i_X12_feed_X12 hown hK hP 0 rfl rfl 2 (by decide) (hts (.fieldLink RX12 276 "StatementRules2Model" "taped" "I") k_X12_feed_fieldLink_RX12_276_SRModel_taped_I) (fun _ h9 => h9) rfl dX12_feed_6 ?_
  refine lv_bipush (v := 20) hx hb dX12_feed_9 (by decide) ?_
  refine lv_iadd hx hb dX12_feed_11 ?_
  refine lv_topi (fun z1 ez1 => ?_)
  obtain rfl : z1 = 20 := ez1.trans (by decide)
  refine lv_sipush (v := 900) hx hb dX12_feed_12 (by decide) ?_
  refine lv_icmp_le (tgt := 21) hx hb dX12_feed_15 (by decide) (fun _ => ?_) (fun c9 => absurd (by decide) c9)
  refine lv_iconst (v := 0) hx hb dX12_feed_21 (by decide) ?_
  refine lv_istore (lv' := [(6, .int 0), (0, .ref h0), (1, .int a), (2, .int b), (3, .int c9), (4, .int d), (5, .int e9)]) hx hb dX12_feed_22 hl (by decide) rfl (fun ls hl => ?_)
  refine lv_iload hx hb dX12_feed_24 (lv_at hl 0 rfl) ?_
  refine lv_bipush (v := 20) hx hb dX12_feed_26 (by decide) ?_
  refine lv_icmp_ge (tgt := 114) hx hb dX12_feed_28 (by decide) (fun c9 => absurd c9 (by decide)) (fun _ => ?_)
  refine lv_iload hx hb dX12_feed_31 (lv_at hl 0 rfl) ?_
  refine lv_iconst (v := 4) hx hb dX12_feed_33 (by decide) ?_
  refine lv_icmp_ge (tgt := 41) hx hb dX12_feed_34 (by decide) (fun c9 => absurd c9 (by decide)) (fun _ => ?_)
  refine lv_iload_n hx hb dX12_feed_37 rfl (lv_at hl 2 rfl) ?_
  refine lv_goto (tgt := 77) hx hb dX12_feed_38 (by decide) ?_
  refine lv_istore (lv' := [(7, .int a), (6, .int 0), (0, .ref h0), (1, .int a), (2, .int b), (3, .int c9), (4, .int d), (5, .int e9)]) hx hb dX12_feed_77 hl (by decide) rfl (fun ls hl => ?_)
  refine lv_aload_n hx hb dX12_feed_79 rfl (lv_at hl 2 rfl) ?_
  refine va_get (D := (dC, dI)) (ci := 11) (v := .ref qt) (C := RX12) (T := TX12) (N := 116) hx hb hts i_X12_feed_X12 hown hK hP 0 rfl rfl 1 (by decide) (hts (.fieldLink RX12 7 "StatementRules2Model" "tape" "[I") k_X12_feed_fieldLink_RX12_7_SRModel_tape_I) (fun _ h9 => h9) rfl dX12_feed_80 ?_
  refine lv_aload_n hx hb dX12_feed_83 rfl (lv_at hl 2 rfl) ?_
  refine va_get (D := (dC, dI)) (ci := 11) (v := .int 0) (C := RX12) (T := TX12) (N := 116) hx hb hts i_X12_feed_X12 hown hK hP 0 rfl rfl 2 (by decide) (hts (.fieldLink RX12 276 "StatementRules2Model" "taped" "I") k_X12_feed_fieldLink_RX12_276_SRModel_taped_I) (fun _ h9 => h9) rfl dX12_feed_84 ?_
  refine lv_iload hx hb dX12_feed_87 (lv_at hl 1 rfl) ?_
  refine lv_iadd hx hb dX12_feed_89 ?_
  refine lv_topi (fun z2 ez2 => ?_)
  obtain rfl : z2 = 0 := ez2.trans (by decide)
  refine lv_iload hx hb dX12_feed_90 (lv_at hl 0 rfl) ?_
  refine lv_bipush (v := 24) hx hb dX12_feed_92 (by decide) ?_
  refine lv_bipush (v := 8) hx hb dX12_feed_94 (by decide) ?_
  refine lv_iload hx hb dX12_feed_96 (lv_at hl 1 rfl) ?_
  refine lv_iconst (v := 4) hx hb dX12_feed_98 (by decide) ?_
  refine lv_irem hx hb dX12_feed_99 (by decide) ?_
  refine lv_topi (fun z3 ez3 => ?_)
  obtain rfl : z3 = 0 := ez3.trans (by decide)
  refine lv_imul hx hb dX12_feed_100 ?_
  refine lv_topi (fun z4 ez4 => ?_)
  obtain rfl : z4 = 0 := ez4.trans (by decide)
  refine lv_isub hx hb dX12_feed_101 ?_
  refine lv_topi (fun z5 ez5 => ?_)
  obtain rfl : z5 = 24 := ez5.trans (by decide)
  refine lv_ishr hx hb dX12_feed_102 ?_
  refine lv_topi (fun z6 ez6 => ?_)
  refine lv_sipush (v := 255) hx hb dX12_feed_103 (by decide) ?_
  refine lv_iand hx hb dX12_feed_106 ?_
  refine lv_topi (fun z7 ez7 => ?_)
  refine va_iast hx hb hK hP hD hS 1 0 rfl rfl (by unfold vp_in; decide) dX12_feed_107 (fun H locs hP hD hS => ?_)
  have hP : va_P (dC, dI) vwCl [(h0, .inr (11, [.int 0, .ref qt, .int 0, .int 4, m_above, m_isNull, m_opening, m_closing, .int 0, m_words, .int 0, .int 0, .int 0, .long 0, .int 0, .int 0, .int 0, .int 0, .int 0, .int 0, .int 0, m_op, m_ix, m_iy, .int 0, m_entryValue, m_entryAt, m_entryNext, m_entryElse, .int 0, m_tryCatch, m_tryFinal, m_tryEnd, .int 0, m_catchKind, m_catchAt, m_catchSlot, m_catchNext, .int 0, m_seenName, m_seenSlot, m_seenCaught, .int 0, .int 0, m_goalSort, m_goalName, m_goalLoop, m_goalDepth, m_breaks, m_continues, m_broken, m_continued, .int 0, .int 0, .int 0, .int 0, .int 0, m_wallTry, m_wallGoals, .int 0, m_pendGoal, m_pendBreak, m_pendTry, .int 0, m_fk, m_fs, m_fp, m_fq, m_fr, m_fv, m_fw, m_fx, m_fy, m_fz, m_fn, .int 0, .int 0, .int 0, .int 0, .int 0, .int 0, .int 0, m_rowSort, m_rowNumber, m_vals, .int 0, m_thingKind, m_thingNumber, m_suppressedMany, m_suppressedKind, m_suppressedNumber, m_held, .int 0, .int 0, m_vs, .int 0, m_openOf, .int 0, m_waits, .int 0, m_rk, m_ra, m_rb, m_rc, m_rHigh, m_rHow, m_rTo, m_rDepth, m_rValue, m_rThing, .int 0, .int 0, .int 0, .int 0, .int 0, .int 0])), (qt, .inl (kt, 900, .inl (upd f (0 : Int32).toNatClampNeg z7)))] H := hP
  have hD : va_D A [(h0, .inr (11, [.int 0, .ref qt, .int 0, .int 4, m_above, m_isNull, m_opening, m_closing, .int 0, m_words, .int 0, .int 0, .int 0, .long 0, .int 0, .int 0, .int 0, .int 0, .int 0, .int 0, .int 0, m_op, m_ix, m_iy, .int 0, m_entryValue, m_entryAt, m_entryNext, m_entryElse, .int 0, m_tryCatch, m_tryFinal, m_tryEnd, .int 0, m_catchKind, m_catchAt, m_catchSlot, m_catchNext, .int 0, m_seenName, m_seenSlot, m_seenCaught, .int 0, .int 0, m_goalSort, m_goalName, m_goalLoop, m_goalDepth, m_breaks, m_continues, m_broken, m_continued, .int 0, .int 0, .int 0, .int 0, .int 0, m_wallTry, m_wallGoals, .int 0, m_pendGoal, m_pendBreak, m_pendTry, .int 0, m_fk, m_fs, m_fp, m_fq, m_fr, m_fv, m_fw, m_fx, m_fy, m_fz, m_fn, .int 0, .int 0, .int 0, .int 0, .int 0, .int 0, .int 0, m_rowSort, m_rowNumber, m_vals, .int 0, m_thingKind, m_thingNumber, m_suppressedMany, m_suppressedKind, m_suppressedNumber, m_held, .int 0, .int 0, m_vs, .int 0, m_openOf, .int 0, m_waits, .int 0, m_rk, m_ra, m_rb, m_rc, m_rHigh, m_rHow, m_rTo, m_rDepth, m_rValue, m_rThing, .int 0, .int 0, .int 0, .int 0, .int 0, .int 0])), (qt, .inl (kt, 900, .inl (upd f (0 : Int32).toNatClampNeg z7)))] := hD
  generalize upd f (0 : Int32).toNatClampNeg z7 = f8 at hP hD
  refine lv_iinc (v := 1) (lv' := [(6, .int 1), (7, .int a), (0, .ref h0), (1, .int a), (2, .int b), (3, .int c9), (4, .int d), (5, .int e9)]) hx hb dX12_feed_108 hl (k := 1) rfl (by decide) (by decide) rfl (fun ls hl => ?_)
  refine lv_goto (tgt := 24) hx hb dX12_feed_111 (by decide) ?_
  refine lv_iload hx hb dX12_feed_24 (lv_at hl 0 rfl) ?_
  refine lv_bipush (v := 20) hx hb dX12_feed_26 (by decide) ?_
  refine lv_icmp_ge (tgt := 114) hx hb dX12_feed_28 (by decide) (fun c9 => absurd c9 (by decide)) (fun _ => ?_)
  refine lv_iload hx hb dX12_feed_31 (lv_at hl 0 rfl) ?_
  refine lv_iconst (v := 4) hx hb dX12_feed_33 (by decide) ?_
  refine lv_icmp_ge (tgt := 41) hx hb dX12_feed_34 (by decide) (fun c9 => absurd c9 (by decide)) (fun _ => ?_)
  refine lv_iload_n hx hb dX12_feed_37 rfl (lv_at hl 3 rfl) ?_
  refine lv_goto (tgt := 77) hx hb dX12_feed_38 (by decide) ?_
  refine lv_istore (lv' := [(7, .int a), (6, .int 1), (0, .ref h0), (1, .int a), (2, .int b), (3, .int c9), (4, .int d), (5, .int e9)]) hx hb dX12_feed_77 hl (by decide) rfl (fun ls hl => ?_)
  refine lv_aload_n hx hb dX12_feed_79 rfl (lv_at hl 2 rfl) ?_
  refine va_get (D := (dC, dI)) (ci := 11) (v := .ref qt) (C := RX12) (T := TX12) (N := 116) hx hb hts i_X12_feed_X12 hown hK hP 0 rfl rfl 1 (by decide) (hts (.fieldLink RX12 7 "StatementRules2Model" "tape" "[I") k_X12_feed_fieldLink_RX12_7_SRModel_tape_I) (fun _ h9 => h9) rfl dX12_feed_80 ?_
  refine lv_aload_n hx hb dX12_feed_83 rfl (lv_at hl 2 rfl) ?_
  refine va_get (D := (dC, dI)) (ci := 11) (v := .int 0) (C := RX12) (T := TX12) (N := 116) hx hb hts i_X12_feed_X12 hown hK hP 0 rfl rfl 2 (by decide) (hts (.fieldLink RX12 276 "StatementRules2Model" "taped" "I") k_X12_feed_fieldLink_RX12_276_SRModel_taped_I) (fun _ h9 => h9) rfl dX12_feed_84 ?_
  refine lv_iload hx hb dX12_feed_87 (lv_at hl 1 rfl) ?_
  refine lv_iadd hx hb dX12_feed_89 ?_
  refine lv_topi (fun z9 ez9 => ?_)
  obtain rfl : z9 = 1 := ez9.trans (by decide)
  refine lv_iload hx hb dX12_feed_90 (lv_at hl 0 rfl) ?_
  refine lv_bipush (v := 24) hx hb dX12_feed_92 (by decide) ?_
  refine lv_bipush (v := 8) hx hb dX12_feed_94 (by decide) ?_
  refine lv_iload hx hb dX12_feed_96 (lv_at hl 1 rfl) ?_
  refine lv_iconst (v := 4) hx hb dX12_feed_98 (by decide) ?_
  refine lv_irem hx hb dX12_feed_99 (by decide) ?_
  refine lv_topi (fun z10 ez10 => ?_)
  obtain rfl : z10 = 1 := ez10.trans (by decide)
  refine lv_imul hx hb dX12_feed_100 ?_
  refine lv_topi (fun z11 ez11 => ?_)
  obtain rfl : z11 = 8 := ez11.trans (by decide)
  refine lv_isub hx hb dX12_feed_101 ?_
  refine lv_topi (fun z12 ez12 => ?_)
  obtain rfl : z12 = 16 := ez12.trans (by decide)
  refine lv_ishr hx hb dX12_feed_102 ?_
  refine lv_topi (fun z13 ez13 => ?_)
  refine lv_sipush (v := 255) hx hb dX12_feed_103 (by decide) ?_
  refine lv_iand hx hb dX12_feed_106 ?_
  refine lv_topi (fun z14 ez14 => ?_)
  refine va_iast hx hb hK hP hD hS 1 0 rfl rfl (by unfold vp_in; decide) dX12_feed_107 (fun H locs hP hD hS => ?_)
  have hP : va_P (dC, dI) vwCl [(h0, .inr (11, [.int 0, .ref qt, .int 0, .int 4, m_above, m_isNull, m_opening, m_closing, .int 0, m_words, .int 0, .int 0, .int 0, .long 0, .int 0, .int 0, .int 0, .int 0, .int 0, .int 0, .int 0, m_op, m_ix, m_iy, .int 0, m_entryValue, m_entryAt, m_entryNext, m_entryElse, .int 0, m_tryCatch, m_tryFinal, m_tryEnd, .int 0, m_catchKind, m_catchAt, m_catchSlot, m_catchNext, .int 0, m_seenName, m_seenSlot, m_seenCaught, .int 0, .int 0, m_goalSort, m_goalName, m_goalLoop, m_goalDepth, m_breaks, m_continues, m_broken, m_continued, .int 0, .int 0, .int 0, .int 0, .int 0, m_wallTry, m_wallGoals, .int 0, m_pendGoal, m_pendBreak, m_pendTry, .int 0, m_fk, m_fs, m_fp, m_fq, m_fr, m_fv, m_fw, m_fx, m_fy, m_fz, m_fn, .int 0, .int 0, .int 0, .int 0, .int 0, .int 0, .int 0, m_rowSort, m_rowNumber, m_vals, .int 0, m_thingKind, m_thingNumber, m_suppressedMany, m_suppressedKind, m_suppressedNumber, m_held, .int 0, .int 0, m_vs, .int 0, m_openOf, .int 0, m_waits, .int 0, m_rk, m_ra, m_rb, m_rc, m_rHigh, m_rHow, m_rTo, m_rDepth, m_rValue, m_rThing, .int 0, .int 0, .int 0, .int 0, .int 0, .int 0])), (qt, .inl (kt, 900, .inl (upd f8 (1 : Int32).toNatClampNeg z14)))] H := hP
  have hD : va_D A [(h0, .inr (11, [.int 0, .ref qt, .int 0, .int 4, m_above, m_isNull, m_opening, m_closing, .int 0, m_words, .int 0, .int 0, .int 0, .long 0, .int 0, .int 0, .int 0, .int 0, .int 0, .int 0, .int 0, m_op, m_ix, m_iy, .int 0, m_entryValue, m_entryAt, m_entryNext, m_entryElse, .int 0, m_tryCatch, m_tryFinal, m_tryEnd, .int 0, m_catchKind, m_catchAt, m_catchSlot, m_catchNext, .int 0, m_seenName, m_seenSlot, m_seenCaught, .int 0, .int 0, m_goalSort, m_goalName, m_goalLoop, m_goalDepth, m_breaks, m_continues, m_broken, m_continued, .int 0, .int 0, .int 0, .int 0, .int 0, m_wallTry, m_wallGoals, .int 0, m_pendGoal, m_pendBreak, m_pendTry, .int 0, m_fk, m_fs, m_fp, m_fq, m_fr, m_fv, m_fw, m_fx, m_fy, m_fz, m_fn, .int 0, .int 0, .int 0, .int 0, .int 0, .int 0, .int 0, m_rowSort, m_rowNumber, m_vals, .int 0, m_thingKind, m_thingNumber, m_suppressedMany, m_suppressedKind, m_suppressedNumber, m_held, .int 0, .int 0, m_vs, .int 0, m_openOf, .int 0, m_waits, .int 0, m_rk, m_ra, m_rb, m_rc, m_rHigh, m_rHow, m_rTo, m_rDepth, m_rValue, m_rThing, .int 0, .int 0, .int 0, .int 0, .int 0, .int 0])), (qt, .inl (kt, 900, .inl (upd f8 (1 : Int32).toNatClampNeg z14)))] := hD
  generalize upd f8 (1 : Int32).toNatClampNeg z14 = f15 at hP hD
  refine lv_iinc (v := 2) (lv' := [(6, .int 2), (7, .int a), (0, .ref h0), (1, .int a), (2, .int b), (3, .int c9), (4, .int d), (5, .int e9)]) hx hb dX12_feed_108 hl (k := 1) rfl (by decide) (by decide) rfl (fun ls hl => ?_)
  refine lv_goto (tgt := 24) hx hb dX12_feed_111 (by decide) ?_
  refine lv_iload hx hb dX12_feed_24 (lv_at hl 0 rfl) ?_
  refine lv_bipush (v := 20) hx hb dX12_feed_26 (by decide) ?_
  refine lv_icmp_ge (tgt := 114) hx hb dX12_feed_28 (by decide) (fun c9 => absurd c9 (by decide)) (fun _ => ?_)
  refine lv_iload hx hb dX12_feed_31 (lv_at hl 0 rfl) ?_
  refine lv_iconst (v := 4) hx hb dX12_feed_33 (by decide) ?_
  refine lv_icmp_ge (tgt := 41) hx hb dX12_feed_34 (by decide) (fun c9 => absurd c9 (by decide)) (fun _ => ?_)
  refine lv_iload_n hx hb dX12_feed_37 rfl (lv_at hl 3 rfl) ?_
  refine lv_goto (tgt := 77) hx hb dX12_feed_38 (by decide) ?_
  refine lv_istore (lv' := [(7, .int a), (6, .int 2), (0, .ref h0), (1, .int a), (2, .int b), (3, .int c9), (4, .int d), (5, .int e9)]) hx hb dX12_feed_77 hl (by decide) rfl (fun ls hl => ?_)
  refine lv_aload_n hx hb dX12_feed_79 rfl (lv_at hl 2 rfl) ?_
  refine va_get (D := (dC, dI)) (ci := 11) (v := .ref qt) (C := RX12) (T := TX12) (N := 116) hx hb hts i_X12_feed_X12 hown hK hP 0 rfl rfl 1 (by decide) (hts (.fieldLink RX12 7 "StatementRules2Model" "tape" "[I") k_X12_feed_fieldLink_RX12_7_SRModel_tape_I) (fun _ h9 => h9) rfl dX12_feed_80 ?_
  refine lv_aload_n hx hb dX12_feed_83 rfl (lv_at hl 2 rfl) ?_
  refine va_get (D := (dC, dI)) (ci := 11) (v := .int 0) (C := RX12) (T := TX12) (N := 116) hx hb hts i_X12_feed_X12 hown hK hP 0 rfl rfl 2 (by decide) (hts (.fieldLink RX12 276 "StatementRules2Model" "taped" "I") k_X12_feed_fieldLink_RX12_276_SRModel_taped_I) (fun _ h9 => h9) rfl dX12_feed_84 ?_
  refine lv_iload hx hb dX12_feed_87 (lv_at hl 1 rfl) ?_
  refine lv_iadd hx hb dX12_feed_89 ?_
  refine lv_topi (fun z16 ez16 => ?_)
  obtain rfl : z16 = 2 := ez16.trans (by decide)
  refine lv_iload hx hb dX12_feed_90 (lv_at hl 0 rfl) ?_
  refine lv_bipush (v := 24) hx hb dX12_feed_92 (by decide) ?_
  refine lv_bipush (v := 8) hx hb dX12_feed_94 (by decide) ?_
  refine lv_iload hx hb dX12_feed_96 (lv_at hl 1 rfl) ?_
  refine lv_iconst (v := 4) hx hb dX12_feed_98 (by decide) ?_
  refine lv_irem hx hb dX12_feed_99 (by decide) ?_
  refine lv_topi (fun z17 ez17 => ?_)
  obtain rfl : z17 = 2 := ez17.trans (by decide)
  refine lv_imul hx hb dX12_feed_100 ?_
  refine lv_topi (fun z18 ez18 => ?_)
  obtain rfl : z18 = 16 := ez18.trans (by decide)
  refine lv_isub hx hb dX12_feed_101 ?_
  refine lv_topi (fun z19 ez19 => ?_)
  obtain rfl : z19 = 8 := ez19.trans (by decide)
  refine lv_ishr hx hb dX12_feed_102 ?_
  refine lv_topi (fun z20 ez20 => ?_)
  refine lv_sipush (v := 255) hx hb dX12_feed_103 (by decide) ?_
  refine lv_iand hx hb dX12_feed_106 ?_
  refine lv_topi (fun z21 ez21 => ?_)
  refine va_iast hx hb hK hP hD hS 1 0 rfl rfl (by unfold vp_in; decide) dX12_feed_107 (fun H locs hP hD hS => ?_)
  have hP : va_P (dC, dI) vwCl [(h0, .inr (11, [.int 0, .ref qt, .int 0, .int 4, m_above, m_isNull, m_opening, m_closing, .int 0, m_words, .int 0, .int 0, .int 0, .long 0, .int 0, .int 0, .int 0, .int 0, .int 0, .int 0, .int 0, m_op, m_ix, m_iy, .int 0, m_entryValue, m_entryAt, m_entryNext, m_entryElse, .int 0, m_tryCatch, m_tryFinal, m_tryEnd, .int 0, m_catchKind, m_catchAt, m_catchSlot, m_catchNext, .int 0, m_seenName, m_seenSlot, m_seenCaught, .int 0, .int 0, m_goalSort, m_goalName, m_goalLoop, m_goalDepth, m_breaks, m_continues, m_broken, m_continued, .int 0, .int 0, .int 0, .int 0, .int 0, m_wallTry, m_wallGoals, .int 0, m_pendGoal, m_pendBreak, m_pendTry, .int 0, m_fk, m_fs, m_fp, m_fq, m_fr, m_fv, m_fw, m_fx, m_fy, m_fz, m_fn, .int 0, .int 0, .int 0, .int 0, .int 0, .int 0, .int 0, m_rowSort, m_rowNumber, m_vals, .int 0, m_thingKind, m_thingNumber, m_suppressedMany, m_suppressedKind, m_suppressedNumber, m_held, .int 0, .int 0, m_vs, .int 0, m_openOf, .int 0, m_waits, .int 0, m_rk, m_ra, m_rb, m_rc, m_rHigh, m_rHow, m_rTo, m_rDepth, m_rValue, m_rThing, .int 0, .int 0, .int 0, .int 0, .int 0, .int 0])), (qt, .inl (kt, 900, .inl (upd f15 (2 : Int32).toNatClampNeg z21)))] H := hP
  have hD : va_D A [(h0, .inr (11, [.int 0, .ref qt, .int 0, .int 4, m_above, m_isNull, m_opening, m_closing, .int 0, m_words, .int 0, .int 0, .int 0, .long 0, .int 0, .int 0, .int 0, .int 0, .int 0, .int 0, .int 0, m_op, m_ix, m_iy, .int 0, m_entryValue, m_entryAt, m_entryNext, m_entryElse, .int 0, m_tryCatch, m_tryFinal, m_tryEnd, .int 0, m_catchKind, m_catchAt, m_catchSlot, m_catchNext, .int 0, m_seenName, m_seenSlot, m_seenCaught, .int 0, .int 0, m_goalSort, m_goalName, m_goalLoop, m_goalDepth, m_breaks, m_continues, m_broken, m_continued, .int 0, .int 0, .int 0, .int 0, .int 0, m_wallTry, m_wallGoals, .int 0, m_pendGoal, m_pendBreak, m_pendTry, .int 0, m_fk, m_fs, m_fp, m_fq, m_fr, m_fv, m_fw, m_fx, m_fy, m_fz, m_fn, .int 0, .int 0, .int 0, .int 0, .int 0, .int 0, .int 0, m_rowSort, m_rowNumber, m_vals, .int 0, m_thingKind, m_thingNumber, m_suppressedMany, m_suppressedKind, m_suppressedNumber, m_held, .int 0, .int 0, m_vs, .int 0, m_openOf, .int 0, m_waits, .int 0, m_rk, m_ra, m_rb, m_rc, m_rHigh, m_rHow, m_rTo, m_rDepth, m_rValue, m_rThing, .int 0, .int 0, .int 0, .int 0, .int 0, .int 0])), (qt, .inl (kt, 900, .inl (upd f15 (2 : Int32).toNatClampNeg z21)))] := hD
  generalize upd f15 (2 : Int32).toNatClampNeg z21 = f22 at hP hD
  refine lv_iinc (v := 3) (lv' := [(6, .int 3), (7, .int a), (0, .ref h0), (1, .int a), (2, .int b), (3, .int c9), (4, .int d), (5, .int e9)]) hx hb dX12_feed_108 hl (k := 1) rfl (by decide) (by decide) rfl (fun ls hl => ?_)
  refine lv_goto (tgt := 24) hx hb dX12_feed_111 (by decide) ?_
  refine lv_iload hx hb dX12_feed_24 (lv_at hl 0 rfl) ?_
  refine lv_bipush (v := 20) hx hb dX12_feed_26 (by decide) ?_
  refine lv_icmp_ge (tgt := 114) hx hb dX12_feed_28 (by decide) (fun c9 => absurd c9 (by decide)) (fun _ => ?_)
  refine lv_iload hx hb dX12_feed_31 (lv_at hl 0 rfl) ?_
  refine lv_iconst (v := 4) hx hb dX12_feed_33 (by decide) ?_
  refine lv_icmp_ge (tgt := 41) hx hb dX12_feed_34 (by decide) (fun c9 => absurd c9 (by decide)) (fun _ => ?_)
  refine lv_iload_n hx hb dX12_feed_37 rfl (lv_at hl 3 rfl) ?_
  refine lv_goto (tgt := 77) hx hb dX12_feed_38 (by decide) ?_
  refine lv_istore (lv' := [(7, .int a), (6, .int 3), (0, .ref h0), (1, .int a), (2, .int b), (3, .int c9), (4, .int d), (5, .int e9)]) hx hb dX12_feed_77 hl (by decide) rfl (fun ls hl => ?_)
  refine lv_aload_n hx hb dX12_feed_79 rfl (lv_at hl 2 rfl) ?_
  refine va_get (D := (dC, dI)) (ci := 11) (v := .ref qt) (C := RX12) (T := TX12) (N := 116) hx hb hts i_X12_feed_X12 hown hK hP 0 rfl rfl 1 (by decide) (hts (.fieldLink RX12 7 "StatementRules2Model" "tape" "[I") k_X12_feed_fieldLink_RX12_7_SRModel_tape_I) (fun _ h9 => h9) rfl dX12_feed_80 ?_
  refine lv_aload_n hx hb dX12_feed_83 rfl (lv_at hl 2 rfl) ?_
  refine va_get (D := (dC, dI)) (ci := 11) (v := .int 0) (C := RX12) (T := TX12) (N := 116) hx hb hts i_X12_feed_X12 hown hK hP 0 rfl rfl 2 (by decide) (hts (.fieldLink RX12 276 "StatementRules2Model" "taped" "I") k_X12_feed_fieldLink_RX12_276_SRModel_taped_I) (fun _ h9 => h9) rfl dX12_feed_84 ?_
  refine lv_iload hx hb dX12_feed_87 (lv_at hl 1 rfl) ?_
  refine lv_iadd hx hb dX12_feed_89 ?_
  refine lv_topi (fun z23 ez23 => ?_)
  obtain rfl : z23 = 3 := ez23.trans (by decide)
  refine lv_iload hx hb dX12_feed_90 (lv_at hl 0 rfl) ?_
  refine lv_bipush (v := 24) hx hb dX12_feed_92 (by decide) ?_
  refine lv_bipush (v := 8) hx hb dX12_feed_94 (by decide) ?_
  refine lv_iload hx hb dX12_feed_96 (lv_at hl 1 rfl) ?_
  refine lv_iconst (v := 4) hx hb dX12_feed_98 (by decide) ?_
  refine lv_irem hx hb dX12_feed_99 (by decide) ?_
  refine lv_topi (fun z24 ez24 => ?_)
  obtain rfl : z24 = 3 := ez24.trans (by decide)
  refine lv_imul hx hb dX12_feed_100 ?_
  refine lv_topi (fun z25 ez25 => ?_)
  obtain rfl : z25 = 24 := ez25.trans (by decide)
  refine lv_isub hx hb dX12_feed_101 ?_
  refine lv_topi (fun z26 ez26 => ?_)
  obtain rfl : z26 = 0 := ez26.trans (by decide)
  refine lv_ishr hx hb dX12_feed_102 ?_
  refine lv_topi (fun z27 ez27 => ?_)
  refine lv_sipush (v := 255) hx hb dX12_feed_103 (by decide) ?_
  refine lv_iand hx hb dX12_feed_106 ?_
  refine lv_topi (fun z28 ez28 => ?_)
  refine va_iast hx hb hK hP hD hS 1 0 rfl rfl (by unfold vp_in; decide) dX12_feed_107 (fun H locs hP hD hS => ?_)
  have hP : va_P (dC, dI) vwCl [(h0, .inr (11, [.int 0, .ref qt, .int 0, .int 4, m_above, m_isNull, m_opening, m_closing, .int 0, m_words, .int 0, .int 0, .int 0, .long 0, .int 0, .int 0, .int 0, .int 0, .int 0, .int 0, .int 0, m_op, m_ix, m_iy, .int 0, m_entryValue, m_entryAt, m_entryNext, m_entryElse, .int 0, m_tryCatch, m_tryFinal, m_tryEnd, .int 0, m_catchKind, m_catchAt, m_catchSlot, m_catchNext, .int 0, m_seenName, m_seenSlot, m_seenCaught, .int 0, .int 0, m_goalSort, m_goalName, m_goalLoop, m_goalDepth, m_breaks, m_continues, m_broken, m_continued, .int 0, .int 0, .int 0, .int 0, .int 0, m_wallTry, m_wallGoals, .int 0, m_pendGoal, m_pendBreak, m_pendTry, .int 0, m_fk, m_fs, m_fp, m_fq, m_fr, m_fv, m_fw, m_fx, m_fy, m_fz, m_fn, .int 0, .int 0, .int 0, .int 0, .int 0, .int 0, .int 0, m_rowSort, m_rowNumber, m_vals, .int 0, m_thingKind, m_thingNumber, m_suppressedMany, m_suppressedKind, m_suppressedNumber, m_held, .int 0, .int 0, m_vs, .int 0, m_openOf, .int 0, m_waits, .int 0, m_rk, m_ra, m_rb, m_rc, m_rHigh, m_rHow, m_rTo, m_rDepth, m_rValue, m_rThing, .int 0, .int 0, .int 0, .int 0, .int 0, .int 0])), (qt, .inl (kt, 900, .inl (upd f22 (3 : Int32).toNatClampNeg z28)))] H := hP
  have hD : va_D A [(h0, .inr (11, [.int 0, .ref qt, .int 0, .int 4, m_above, m_isNull, m_opening, m_closing, .int 0, m_words, .int 0, .int 0, .int 0, .long 0, .int 0, .int 0, .int 0, .int 0, .int 0, .int 0, .int 0, m_op, m_ix, m_iy, .int 0, m_entryValue, m_entryAt, m_entryNext, m_entryElse, .int 0, m_tryCatch, m_tryFinal, m_tryEnd, .int 0, m_catchKind, m_catchAt, m_catchSlot, m_catchNext, .int 0, m_seenName, m_seenSlot, m_seenCaught, .int 0, .int 0, m_goalSort, m_goalName, m_goalLoop, m_goalDepth, m_breaks, m_continues, m_broken, m_continued, .int 0, .int 0, .int 0, .int 0, .int 0, m_wallTry, m_wallGoals, .int 0, m_pendGoal, m_pendBreak, m_pendTry, .int 0, m_fk, m_fs, m_fp, m_fq, m_fr, m_fv, m_fw, m_fx, m_fy, m_fz, m_fn, .int 0, .int 0, .int 0, .int 0, .int 0, .int 0, .int 0, m_rowSort, m_rowNumber, m_vals, .int 0, m_thingKind, m_thingNumber, m_suppressedMany, m_suppressedKind, m_suppressedNumber, m_held, .int 0, .int 0, m_vs, .int 0, m_openOf, .int 0, m_waits, .int 0, m_rk, m_ra, m_rb, m_rc, m_rHigh, m_rHow, m_rTo, m_rDepth, m_rValue, m_rThing, .int 0, .int 0, .int 0, .int 0, .int 0, .int 0])), (qt, .inl (kt, 900, .inl (upd f22 (3 : Int32).toNatClampNeg z28)))] := hD
  generalize upd f22 (3 : Int32).toNatClampNeg z28 = f29 at hP hD
  refine lv_iinc (v := 4) (lv' := [(6, .int 4), (7, .int a), (0, .ref h0), (1, .int a), (2, .int b), (3, .int c9), (4, .int d), (5, .int e9)]) hx hb dX12_feed_108 hl (k := 1) rfl (by decide) (by decide) rfl (fun ls hl => ?_)
  refine lv_goto (tgt := 24) hx hb dX12_feed_111 (by decide) ?_
  refine lv_iload hx hb dX12_feed_24 (lv_at hl 0 rfl) ?_
  refine lv_bipush (v := 20) hx hb dX12_feed_26 (by decide) ?_
  refine lv_icmp_ge (tgt := 114) hx hb dX12_feed_28 (by decide) (fun c9 => absurd c9 (by decide)) (fun _ => ?_)
  refine lv_iload hx hb dX12_feed_31 (lv_at hl 0 rfl) ?_
  refine lv_iconst (v := 4) hx hb dX12_feed_33 (by decide) ?_
  refine lv_icmp_ge (tgt := 41) hx hb dX12_feed_34 (by decide) (fun _ => ?_) (fun c9 => absurd (by decide) c9)
  refine lv_iload hx hb dX12_feed_41 (lv_at hl 0 rfl) ?_
  refine lv_bipush (v := 8) hx hb dX12_feed_43 (by decide) ?_
  refine lv_icmp_ge (tgt := 52) hx hb dX12_feed_45 (by decide) (fun c9 => absurd c9 (by decide)) (fun _ => ?_)
  refine lv_iload_n hx hb dX12_feed_48 rfl (lv_at hl 4 rfl) ?_
  refine lv_goto (tgt := 77) hx hb dX12_feed_49 (by decide) ?_
  refine lv_istore (lv' := [(7, .int b), (6, .int 4), (0, .ref h0), (1, .int a), (2, .int b), (3, .int c9), (4, .int d), (5, .int e9)]) hx hb dX12_feed_77 hl (by decide) rfl (fun ls hl => ?_)
  refine lv_aload_n hx hb dX12_feed_79 rfl (lv_at hl 2 rfl) ?_
  refine va_get (D := (dC, dI)) (ci := 11) (v := .ref qt) (C := RX12) (T := TX12) (N := 116) hx hb hts i_X12_feed_X12 hown hK hP 0 rfl rfl 1 (by decide) (hts (.fieldLink RX12 7 "StatementRules2Model" "tape" "[I") k_X12_feed_fieldLink_RX12_7_SRModel_tape_I) (fun _ h9 => h9) rfl dX12_feed_80 ?_
  refine lv_aload_n hx hb dX12_feed_83 rfl (lv_at hl 2 rfl) ?_
  refine va_get (D := (dC, dI)) (ci := 11) (v := .int 0) (C := RX12) (T := TX12) (N := 116) hx hb hts i_X12_feed_X12 hown hK hP 0 rfl rfl 2 (by decide) (hts (.fieldLink RX12 276 "StatementRules2Model" "taped" "I") k_X12_feed_fieldLink_RX12_276_SRModel_taped_I) (fun _ h9 => h9) rfl dX12_feed_84 ?_
  refine lv_iload hx hb dX12_feed_87 (lv_at hl 1 rfl) ?_
  refine lv_iadd hx hb dX12_feed_89 ?_
  refine lv_topi (fun z30 ez30 => ?_)
  obtain rfl : z30 = 4 := ez30.trans (by decide)
  refine lv_iload hx hb dX12_feed_90 (lv_at hl 0 rfl) ?_
  refine lv_bipush (v := 24) hx hb dX12_feed_92 (by decide) ?_
  refine lv_bipush (v := 8) hx hb dX12_feed_94 (by decide) ?_
  refine lv_iload hx hb dX12_feed_96 (lv_at hl 1 rfl) ?_
  refine lv_iconst (v := 4) hx hb dX12_feed_98 (by decide) ?_
  refine lv_irem hx hb dX12_feed_99 (by decide) ?_
  refine lv_topi (fun z31 ez31 => ?_)
  obtain rfl : z31 = 0 := ez31.trans (by decide)
  refine lv_imul hx hb dX12_feed_100 ?_
  refine lv_topi (fun z32 ez32 => ?_)
  obtain rfl : z32 = 0 := ez32.trans (by decide)
  refine lv_isub hx hb dX12_feed_101 ?_
  refine lv_topi (fun z33 ez33 => ?_)
  obtain rfl : z33 = 24 := ez33.trans (by decide)
  refine lv_ishr hx hb dX12_feed_102 ?_
  refine lv_topi (fun z34 ez34 => ?_)
  refine lv_sipush (v := 255) hx hb dX12_feed_103 (by decide) ?_
  refine lv_iand hx hb dX12_feed_106 ?_
  refine lv_topi (fun z35 ez35 => ?_)
  refine va_iast hx hb hK hP hD hS 1 0 rfl rfl (by unfold vp_in; decide) dX12_feed_107 (fun H locs hP hD hS => ?_)
  have hP : va_P (dC, dI) vwCl [(h0, .inr (11, [.int 0, .ref qt, .int 0, .int 4, m_above, m_isNull, m_opening, m_closing, .int 0, m_words, .int 0, .int 0, .int 0, .long 0, .int 0, .int 0, .int 0, .int 0, .int 0, .int 0, .int 0, m_op, m_ix, m_iy, .int 0, m_entryValue, m_entryAt, m_entryNext, m_entryElse, .int 0, m_tryCatch, m_tryFinal, m_tryEnd, .int 0, m_catchKind, m_catchAt, m_catchSlot, m_catchNext, .int 0, m_seenName, m_seenSlot, m_seenCaught, .int 0, .int 0, m_goalSort, m_goalName, m_goalLoop, m_goalDepth, m_breaks, m_continues, m_broken, m_continued, .int 0, .int 0, .int 0, .int 0, .int 0, m_wallTry, m_wallGoals, .int 0, m_pendGoal, m_pendBreak, m_pendTry, .int 0, m_fk, m_fs, m_fp, m_fq, m_fr, m_fv, m_fw, m_fx, m_fy, m_fz, m_fn, .int 0, .int 0, .int 0, .int 0, .int 0, .int 0, .int 0, m_rowSort, m_rowNumber, m_vals, .int 0, m_thingKind, m_thingNumber, m_suppressedMany, m_suppressedKind, m_suppressedNumber, m_held, .int 0, .int 0, m_vs, .int 0, m_openOf, .int 0, m_waits, .int 0, m_rk, m_ra, m_rb, m_rc, m_rHigh, m_rHow, m_rTo, m_rDepth, m_rValue, m_rThing, .int 0, .int 0, .int 0, .int 0, .int 0, .int 0])), (qt, .inl (kt, 900, .inl (upd f29 (4 : Int32).toNatClampNeg z35)))] H := hP
  have hD : va_D A [(h0, .inr (11, [.int 0, .ref qt, .int 0, .int 4, m_above, m_isNull, m_opening, m_closing, .int 0, m_words, .int 0, .int 0, .int 0, .long 0, .int 0, .int 0, .int 0, .int 0, .int 0, .int 0, .int 0, m_op, m_ix, m_iy, .int 0, m_entryValue, m_entryAt, m_entryNext, m_entryElse, .int 0, m_tryCatch, m_tryFinal, m_tryEnd, .int 0, m_catchKind, m_catchAt, m_catchSlot, m_catchNext, .int 0, m_seenName, m_seenSlot, m_seenCaught, .int 0, .int 0, m_goalSort, m_goalName, m_goalLoop, m_goalDepth, m_breaks, m_continues, m_broken, m_continued, .int 0, .int 0, .int 0, .int 0, .int 0, m_wallTry, m_wallGoals, .int 0, m_pendGoal, m_pendBreak, m_pendTry, .int 0, m_fk, m_fs, m_fp, m_fq, m_fr, m_fv, m_fw, m_fx, m_fy, m_fz, m_fn, .int 0, .int 0, .int 0, .int 0, .int 0, .int 0, .int 0, m_rowSort, m_rowNumber, m_vals, .int 0, m_thingKind, m_thingNumber, m_suppressedMany, m_suppressedKind, m_suppressedNumber, m_held, .int 0, .int 0, m_vs, .int 0, m_openOf, .int 0, m_waits, .int 0, m_rk, m_ra, m_rb, m_rc, m_rHigh, m_rHow, m_rTo, m_rDepth, m_rValue, m_rThing, .int 0, .int 0, .int 0, .int 0, .int 0, .int 0])), (qt, .inl (kt, 900, .inl (upd f29 (4 : Int32).toNatClampNeg z35)))] := hD
  generalize upd f29 (4 : Int32).toNatClampNeg z35 = f36 at hP hD
  refine lv_iinc (v := 5) (lv' := [(6, .int 5), (7, .int b), (0, .ref h0), (1, .int a), (2, .int b), (3, .int c9), (4, .int d), (5, .int e9)]) hx hb dX12_feed_108 hl (k := 1) rfl (by decide) (by decide) rfl (fun ls hl => ?_)
  refine lv_goto (tgt := 24) hx hb dX12_feed_111 (by decide) ?_
  refine lv_iload hx hb dX12_feed_24 (lv_at hl 0 rfl) ?_
  refine lv_bipush (v := 20) hx hb dX12_feed_26 (by decide) ?_
  refine lv_icmp_ge (tgt := 114) hx hb dX12_feed_28 (by decide) (fun c9 => absurd c9 (by decide)) (fun _ => ?_)
  refine lv_iload hx hb dX12_feed_31 (lv_at hl 0 rfl) ?_
  refine lv_iconst (v := 4) hx hb dX12_feed_33 (by decide) ?_
  refine lv_icmp_ge (tgt := 41) hx hb dX12_feed_34 (by decide) (fun _ => ?_) (fun c9 => absurd (by decide) c9)
  refine lv_iload hx hb dX12_feed_41 (lv_at hl 0 rfl) ?_
  refine lv_bipush (v := 8) hx hb dX12_feed_43 (by decide) ?_
  refine lv_icmp_ge (tgt := 52) hx hb dX12_feed_45 (by decide) (fun c9 => absurd c9 (by decide)) (fun _ => ?_)
  refine lv_iload_n hx hb dX12_feed_48 rfl (lv_at hl 4 rfl) ?_
  refine lv_goto (tgt := 77) hx hb dX12_feed_49 (by decide) ?_
  refine lv_istore (lv' := [(7, .int b), (6, .int 5), (0, .ref h0), (1, .int a), (2, .int b), (3, .int c9), (4, .int d), (5, .int e9)]) hx hb dX12_feed_77 hl (by decide) rfl (fun ls hl => ?_)
  refine lv_aload_n hx hb dX12_feed_79 rfl (lv_at hl 2 rfl) ?_
  refine va_get (D := (dC, dI)) (ci := 11) (v := .ref qt) (C := RX12) (T := TX12) (N := 116) hx hb hts i_X12_feed_X12 hown hK hP 0 rfl rfl 1 (by decide) (hts (.fieldLink RX12 7 "StatementRules2Model" "tape" "[I") k_X12_feed_fieldLink_RX12_7_SRModel_tape_I) (fun _ h9 => h9) rfl dX12_feed_80 ?_
  refine lv_aload_n hx hb dX12_feed_83 rfl (lv_at hl 2 rfl) ?_
  refine va_get (D := (dC, dI)) (ci := 11) (v := .int 0) (C := RX12) (T := TX12) (N := 116) hx hb hts i_X12_feed_X12 hown hK hP 0 rfl rfl 2 (by decide) (hts (.fieldLink RX12 276 "StatementRules2Model" "taped" "I") k_X12_feed_fieldLink_RX12_276_SRModel_taped_I) (fun _ h9 => h9) rfl dX12_feed_84 ?_
  refine lv_iload hx hb dX12_feed_87 (lv_at hl 1 rfl) ?_
  refine lv_iadd hx hb dX12_feed_89 ?_
  refine lv_topi (fun z37 ez37 => ?_)
  obtain rfl : z37 = 5 := ez37.trans (by decide)
  refine lv_iload hx hb dX12_feed_90 (lv_at hl 0 rfl) ?_
  refine lv_bipush (v := 24) hx hb dX12_feed_92 (by decide) ?_
  refine lv_bipush (v := 8) hx hb dX12_feed_94 (by decide) ?_
  refine lv_iload hx hb dX12_feed_96 (lv_at hl 1 rfl) ?_
  refine lv_iconst (v := 4) hx hb dX12_feed_98 (by decide) ?_
  refine lv_irem hx hb dX12_feed_99 (by decide) ?_
  refine lv_topi (fun z38 ez38 => ?_)
  obtain rfl : z38 = 1 := ez38.trans (by decide)
  refine lv_imul hx hb dX12_feed_100 ?_
  refine lv_topi (fun z39 ez39 => ?_)
  obtain rfl : z39 = 8 := ez39.trans (by decide)
  refine lv_isub hx hb dX12_feed_101 ?_
  refine lv_topi (fun z40 ez40 => ?_)
  obtain rfl : z40 = 16 := ez40.trans (by decide)
  refine lv_ishr hx hb dX12_feed_102 ?_
  refine lv_topi (fun z41 ez41 => ?_)
  refine lv_sipush (v := 255) hx hb dX12_feed_103 (by decide) ?_
  refine lv_iand hx hb dX12_feed_106 ?_
  refine lv_topi (fun z42 ez42 => ?_)
  refine va_iast hx hb hK hP hD hS 1 0 rfl rfl (by unfold vp_in; decide) dX12_feed_107 (fun H locs hP hD hS => ?_)
  have hP : va_P (dC, dI) vwCl [(h0, .inr (11, [.int 0, .ref qt, .int 0, .int 4, m_above, m_isNull, m_opening, m_closing, .int 0, m_words, .int 0, .int 0, .int 0, .long 0, .int 0, .int 0, .int 0, .int 0, .int 0, .int 0, .int 0, m_op, m_ix, m_iy, .int 0, m_entryValue, m_entryAt, m_entryNext, m_entryElse, .int 0, m_tryCatch, m_tryFinal, m_tryEnd, .int 0, m_catchKind, m_catchAt, m_catchSlot, m_catchNext, .int 0, m_seenName, m_seenSlot, m_seenCaught, .int 0, .int 0, m_goalSort, m_goalName, m_goalLoop, m_goalDepth, m_breaks, m_continues, m_broken, m_continued, .int 0, .int 0, .int 0, .int 0, .int 0, m_wallTry, m_wallGoals, .int 0, m_pendGoal, m_pendBreak, m_pendTry, .int 0, m_fk, m_fs, m_fp, m_fq, m_fr, m_fv, m_fw, m_fx, m_fy, m_fz, m_fn, .int 0, .int 0, .int 0, .int 0, .int 0, .int 0, .int 0, m_rowSort, m_rowNumber, m_vals, .int 0, m_thingKind, m_thingNumber, m_suppressedMany, m_suppressedKind, m_suppressedNumber, m_held, .int 0, .int 0, m_vs, .int 0, m_openOf, .int 0, m_waits, .int 0, m_rk, m_ra, m_rb, m_rc, m_rHigh, m_rHow, m_rTo, m_rDepth, m_rValue, m_rThing, .int 0, .int 0, .int 0, .int 0, .int 0, .int 0])), (qt, .inl (kt, 900, .inl (upd f36 (5 : Int32).toNatClampNeg z42)))] H := hP
  have hD : va_D A [(h0, .inr (11, [.int 0, .ref qt, .int 0, .int 4, m_above, m_isNull, m_opening, m_closing, .int 0, m_words, .int 0, .int 0, .int 0, .long 0, .int 0, .int 0, .int 0, .int 0, .int 0, .int 0, .int 0, m_op, m_ix, m_iy, .int 0, m_entryValue, m_entryAt, m_entryNext, m_entryElse, .int 0, m_tryCatch, m_tryFinal, m_tryEnd, .int 0, m_catchKind, m_catchAt, m_catchSlot, m_catchNext, .int 0, m_seenName, m_seenSlot, m_seenCaught, .int 0, .int 0, m_goalSort, m_goalName, m_goalLoop, m_goalDepth, m_breaks, m_continues, m_broken, m_continued, .int 0, .int 0, .int 0, .int 0, .int 0, m_wallTry, m_wallGoals, .int 0, m_pendGoal, m_pendBreak, m_pendTry, .int 0, m_fk, m_fs, m_fp, m_fq, m_fr, m_fv, m_fw, m_fx, m_fy, m_fz, m_fn, .int 0, .int 0, .int 0, .int 0, .int 0, .int 0, .int 0, m_rowSort, m_rowNumber, m_vals, .int 0, m_thingKind, m_thingNumber, m_suppressedMany, m_suppressedKind, m_suppressedNumber, m_held, .int 0, .int 0, m_vs, .int 0, m_openOf, .int 0, m_waits, .int 0, m_rk, m_ra, m_rb, m_rc, m_rHigh, m_rHow, m_rTo, m_rDepth, m_rValue, m_rThing, .int 0, .int 0, .int 0, .int 0, .int 0, .int 0])), (qt, .inl (kt, 900, .inl (upd f36 (5 : Int32).toNatClampNeg z42)))] := hD
  generalize upd f36 (5 : Int32).toNatClampNeg z42 = f43 at hP hD
  refine lv_iinc (v := 6) (lv' := [(6, .int 6), (7, .int b), (0, .ref h0), (1, .int a), (2, .int b), (3, .int c9), (4, .int d), (5, .int e9)]) hx hb dX12_feed_108 hl (k := 1) rfl (by decide) (by decide) rfl (fun ls hl => ?_)
  refine lv_goto (tgt := 24) hx hb dX12_feed_111 (by decide) ?_
  refine lv_iload hx hb dX12_feed_24 (lv_at hl 0 rfl) ?_
  refine lv_bipush (v := 20) hx hb dX12_feed_26 (by decide) ?_
  refine lv_icmp_ge (tgt := 114) hx hb dX12_feed_28 (by decide) (fun c9 => absurd c9 (by decide)) (fun _ => ?_)
  refine lv_iload hx hb dX12_feed_31 (lv_at hl 0 rfl) ?_
  refine lv_iconst (v := 4) hx hb dX12_feed_33 (by decide) ?_
  refine lv_icmp_ge (tgt := 41) hx hb dX12_feed_34 (by decide) (fun _ => ?_) (fun c9 => absurd (by decide) c9)
  refine lv_iload hx hb dX12_feed_41 (lv_at hl 0 rfl) ?_
  refine lv_bipush (v := 8) hx hb dX12_feed_43 (by decide) ?_
  refine lv_icmp_ge (tgt := 52) hx hb dX12_feed_45 (by decide) (fun c9 => absurd c9 (by decide)) (fun _ => ?_)
  refine lv_iload_n hx hb dX12_feed_48 rfl (lv_at hl 4 rfl) ?_
  refine lv_goto (tgt := 77) hx hb dX12_feed_49 (by decide) ?_
  refine lv_istore (lv' := [(7, .int b), (6, .int 6), (0, .ref h0), (1, .int a), (2, .int b), (3, .int c9), (4, .int d), (5, .int e9)]) hx hb dX12_feed_77 hl (by decide) rfl (fun ls hl => ?_)
  refine lv_aload_n hx hb dX12_feed_79 rfl (lv_at hl 2 rfl) ?_
  refine va_get (D := (dC, dI)) (ci := 11) (v := .ref qt) (C := RX12) (T := TX12) (N := 116) hx hb hts i_X12_feed_X12 hown hK hP 0 rfl rfl 1 (by decide) (hts (.fieldLink RX12 7 "StatementRules2Model" "tape" "[I") k_X12_feed_fieldLink_RX12_7_SRModel_tape_I) (fun _ h9 => h9) rfl dX12_feed_80 ?_
  refine lv_aload_n hx hb dX12_feed_83 rfl (lv_at hl 2 rfl) ?_
  refine va_get (D := (dC, dI)) (ci := 11) (v := .int 0) (C := RX12) (T := TX12) (N := 116) hx hb hts i_X12_feed_X12 hown hK hP 0 rfl rfl 2 (by decide) (hts (.fieldLink RX12 276 "StatementRules2Model" "taped" "I") k_X12_feed_fieldLink_RX12_276_SRModel_taped_I) (fun _ h9 => h9) rfl dX12_feed_84 ?_
  refine lv_iload hx hb dX12_feed_87 (lv_at hl 1 rfl) ?_
  refine lv_iadd hx hb dX12_feed_89 ?_
  refine lv_topi (fun z44 ez44 => ?_)
  obtain rfl : z44 = 6 := ez44.trans (by decide)
  refine lv_iload hx hb dX12_feed_90 (lv_at hl 0 rfl) ?_
  refine lv_bipush (v := 24) hx hb dX12_feed_92 (by decide) ?_
  refine lv_bipush (v := 8) hx hb dX12_feed_94 (by decide) ?_
  refine lv_iload hx hb dX12_feed_96 (lv_at hl 1 rfl) ?_
  refine lv_iconst (v := 4) hx hb dX12_feed_98 (by decide) ?_
  refine lv_irem hx hb dX12_feed_99 (by decide) ?_
  refine lv_topi (fun z45 ez45 => ?_)
  obtain rfl : z45 = 2 := ez45.trans (by decide)
  refine lv_imul hx hb dX12_feed_100 ?_
  refine lv_topi (fun z46 ez46 => ?_)
  obtain rfl : z46 = 16 := ez46.trans (by decide)
  refine lv_isub hx hb dX12_feed_101 ?_
  refine lv_topi (fun z47 ez47 => ?_)
  obtain rfl : z47 = 8 := ez47.trans (by decide)
  refine lv_ishr hx hb dX12_feed_102 ?_
  refine lv_topi (fun z48 ez48 => ?_)
  refine lv_sipush (v := 255) hx hb dX12_feed_103 (by decide) ?_
  refine lv_iand hx hb dX12_feed_106 ?_
  refine lv_topi (fun z49 ez49 => ?_)
  refine va_iast hx hb hK hP hD hS 1 0 rfl rfl (by unfold vp_in; decide) dX12_feed_107 (fun H locs hP hD hS => ?_)
  have hP : va_P (dC, dI) vwCl [(h0, .inr (11, [.int 0, .ref qt, .int 0, .int 4, m_above, m_isNull, m_opening, m_closing, .int 0, m_words, .int 0, .int 0, .int 0, .long 0, .int 0, .int 0, .int 0, .int 0, .int 0, .int 0, .int 0, m_op, m_ix, m_iy, .int 0, m_entryValue, m_entryAt, m_entryNext, m_entryElse, .int 0, m_tryCatch, m_tryFinal, m_tryEnd, .int 0, m_catchKind, m_catchAt, m_catchSlot, m_catchNext, .int 0, m_seenName, m_seenSlot, m_seenCaught, .int 0, .int 0, m_goalSort, m_goalName, m_goalLoop, m_goalDepth, m_breaks, m_continues, m_broken, m_continued, .int 0, .int 0, .int 0, .int 0, .int 0, m_wallTry, m_wallGoals, .int 0, m_pendGoal, m_pendBreak, m_pendTry, .int 0, m_fk, m_fs, m_fp, m_fq, m_fr, m_fv, m_fw, m_fx, m_fy, m_fz, m_fn, .int 0, .int 0, .int 0, .int 0, .int 0, .int 0, .int 0, m_rowSort, m_rowNumber, m_vals, .int 0, m_thingKind, m_thingNumber, m_suppressedMany, m_suppressedKind, m_suppressedNumber, m_held, .int 0, .int 0, m_vs, .int 0, m_openOf, .int 0, m_waits, .int 0, m_rk, m_ra, m_rb, m_rc, m_rHigh, m_rHow, m_rTo, m_rDepth, m_rValue, m_rThing, .int 0, .int 0, .int 0, .int 0, .int 0, .int 0])), (qt, .inl (kt, 900, .inl (upd f43 (6 : Int32).toNatClampNeg z49)))] H := hP
  have hD : va_D A [(h0, .inr (11, [.int 0, .ref qt, .int 0, .int 4, m_above, m_isNull, m_opening, m_closing, .int 0, m_words, .int 0, .int 0, .int 0, .long 0, .int 0, .int 0, .int 0, .int 0, .int 0, .int 0, .int 0, m_op, m_ix, m_iy, .int 0, m_entryValue, m_entryAt, m_entryNext, m_entryElse, .int 0, m_tryCatch, m_tryFinal, m_tryEnd, .int 0, m_catchKind, m_catchAt, m_catchSlot, m_catchNext, .int 0, m_seenName, m_seenSlot, m_seenCaught, .int 0, .int 0, m_goalSort, m_goalName, m_goalLoop, m_goalDepth, m_breaks, m_continues, m_broken, m_continued, .int 0, .int 0, .int 0, .int 0, .int 0, m_wallTry, m_wallGoals, .int 0, m_pendGoal, m_pendBreak, m_pendTry, .int 0, m_fk, m_fs, m_fp, m_fq, m_fr, m_fv, m_fw, m_fx, m_fy, m_fz, m_fn, .int 0, .int 0, .int 0, .int 0, .int 0, .int 0, .int 0, m_rowSort, m_rowNumber, m_vals, .int 0, m_thingKind, m_thingNumber, m_suppressedMany, m_suppressedKind, m_suppressedNumber, m_held, .int 0, .int 0, m_vs, .int 0, m_openOf, .int 0, m_waits, .int 0, m_rk, m_ra, m_rb, m_rc, m_rHigh, m_rHow, m_rTo, m_rDepth, m_rValue, m_rThing, .int 0, .int 0, .int 0, .int 0, .int 0, .int 0])), (qt, .inl (kt, 900, .inl (upd f43 (6 : Int32).toNatClampNeg z49)))] := hD
  generalize upd f43 (6 : Int32).toNatClampNeg z49 = f50 at hP hD
  refine lv_iinc (v := 7) (lv' := [(6, .int 7), (7, .int b), (0, .ref h0), (1, .int a), (2, .int b), (3, .int c9), (4, .int d), (5, .int e9)]) hx hb dX12_feed_108 hl (k := 1) rfl (by decide) (by decide) rfl (fun ls hl => ?_)
  refine lv_goto (tgt := 24) hx hb dX12_feed_111 (by decide) ?_
  refine lv_iload hx hb dX12_feed_24 (lv_at hl 0 rfl) ?_
  refine lv_bipush (v := 20) hx hb dX12_feed_26 (by decide) ?_
  refine lv_icmp_ge (tgt := 114) hx hb dX12_feed_28 (by decide) (fun c9 => absurd c9 (by decide)) (fun _ => ?_)
  refine lv_iload hx hb dX12_feed_31 (lv_at hl 0 rfl) ?_
  refine lv_iconst (v := 4) hx hb dX12_feed_33 (by decide) ?_
  refine lv_icmp_ge (tgt := 41) hx hb dX12_feed_34 (by decide) (fun _ => ?_) (fun c9 => absurd (by decide) c9)
  refine lv_iload hx hb dX12_feed_41 (lv_at hl 0 rfl) ?_
  refine lv_bipush (v := 8) hx hb dX12_feed_43 (by decide) ?_
  refine lv_icmp_ge (tgt := 52) hx hb dX12_feed_45 (by decide) (fun c9 => absurd c9 (by decide)) (fun _ => ?_)
  refine lv_iload_n hx hb dX12_feed_48 rfl (lv_at hl 4 rfl) ?_
  refine lv_goto (tgt := 77) hx hb dX12_feed_49 (by decide) ?_
  refine lv_istore (lv' := [(7, .int b), (6, .int 7), (0, .ref h0), (1, .int a), (2, .int b), (3, .int c9), (4, .int d), (5, .int e9)]) hx hb dX12_feed_77 hl (by decide) rfl (fun ls hl => ?_)
  refine lv_aload_n hx hb dX12_feed_79 rfl (lv_at hl 2 rfl) ?_
  refine va_get (D := (dC, dI)) (ci := 11) (v := .ref qt) (C := RX12) (T := TX12) (N := 116) hx hb hts i_X12_feed_X12 hown hK hP 0 rfl rfl 1 (by decide) (hts (.fieldLink RX12 7 "StatementRules2Model" "tape" "[I") k_X12_feed_fieldLink_RX12_7_SRModel_tape_I) (fun _ h9 => h9) rfl dX12_feed_80 ?_
  refine lv_aload_n hx hb dX12_feed_83 rfl (lv_at hl 2 rfl) ?_
  refine va_get (D := (dC, dI)) (ci := 11) (v := .int 0) (C := RX12) (T := TX12) (N := 116) hx hb hts i_X12_feed_X12 hown hK hP 0 rfl rfl 2 (by decide) (hts (.fieldLink RX12 276 "StatementRules2Model" "taped" "I") k_X12_feed_fieldLink_RX12_276_SRModel_taped_I) (fun _ h9 => h9) rfl dX12_feed_84 ?_
  refine lv_iload hx hb dX12_feed_87 (lv_at hl 1 rfl) ?_
  refine lv_iadd hx hb dX12_feed_89 ?_
  refine lv_topi (fun z51 ez51 => ?_)
  obtain rfl : z51 = 7 := ez51.trans (by decide)
  refine lv_iload hx hb dX12_feed_90 (lv_at hl 0 rfl) ?_
  refine lv_bipush (v := 24) hx hb dX12_feed_92 (by decide) ?_
  refine lv_bipush (v := 8) hx hb dX12_feed_94 (by decide) ?_
  refine lv_iload hx hb dX12_feed_96 (lv_at hl 1 rfl) ?_
  refine lv_iconst (v := 4) hx hb dX12_feed_98 (by decide) ?_
  refine lv_irem hx hb dX12_feed_99 (by decide) ?_
  refine lv_topi (fun z52 ez52 => ?_)
  obtain rfl : z52 = 3 := ez52.trans (by decide)
  refine lv_imul hx hb dX12_feed_100 ?_
  refine lv_topi (fun z53 ez53 => ?_)
  obtain rfl : z53 = 24 := ez53.trans (by decide)
  refine lv_isub hx hb dX12_feed_101 ?_
  refine lv_topi (fun z54 ez54 => ?_)
  obtain rfl : z54 = 0 := ez54.trans (by decide)
  refine lv_ishr hx hb dX12_feed_102 ?_
  refine lv_topi (fun z55 ez55 => ?_)
  refine lv_sipush (v := 255) hx hb dX12_feed_103 (by decide) ?_
  refine lv_iand hx hb dX12_feed_106 ?_
  refine lv_topi (fun z56 ez56 => ?_)
  refine va_iast hx hb hK hP hD hS 1 0 rfl rfl (by unfold vp_in; decide) dX12_feed_107 (fun H locs hP hD hS => ?_)
  have hP : va_P (dC, dI) vwCl [(h0, .inr (11, [.int 0, .ref qt, .int 0, .int 4, m_above, m_isNull, m_opening, m_closing, .int 0, m_words, .int 0, .int 0, .int 0, .long 0, .int 0, .int 0, .int 0, .int 0, .int 0, .int 0, .int 0, m_op, m_ix, m_iy, .int 0, m_entryValue, m_entryAt, m_entryNext, m_entryElse, .int 0, m_tryCatch, m_tryFinal, m_tryEnd, .int 0, m_catchKind, m_catchAt, m_catchSlot, m_catchNext, .int 0, m_seenName, m_seenSlot, m_seenCaught, .int 0, .int 0, m_goalSort, m_goalName, m_goalLoop, m_goalDepth, m_breaks, m_continues, m_broken, m_continued, .int 0, .int 0, .int 0, .int 0, .int 0, m_wallTry, m_wallGoals, .int 0, m_pendGoal, m_pendBreak, m_pendTry, .int 0, m_fk, m_fs, m_fp, m_fq, m_fr, m_fv, m_fw, m_fx, m_fy, m_fz, m_fn, .int 0, .int 0, .int 0, .int 0, .int 0, .int 0, .int 0, m_rowSort, m_rowNumber, m_vals, .int 0, m_thingKind, m_thingNumber, m_suppressedMany, m_suppressedKind, m_suppressedNumber, m_held, .int 0, .int 0, m_vs, .int 0, m_openOf, .int 0, m_waits, .int 0, m_rk, m_ra, m_rb, m_rc, m_rHigh, m_rHow, m_rTo, m_rDepth, m_rValue, m_rThing, .int 0, .int 0, .int 0, .int 0, .int 0, .int 0])), (qt, .inl (kt, 900, .inl (upd f50 (7 : Int32).toNatClampNeg z56)))] H := hP
  have hD : va_D A [(h0, .inr (11, [.int 0, .ref qt, .int 0, .int 4, m_above, m_isNull, m_opening, m_closing, .int 0, m_words, .int 0, .int 0, .int 0, .long 0, .int 0, .int 0, .int 0, .int 0, .int 0, .int 0, .int 0, m_op, m_ix, m_iy, .int 0, m_entryValue, m_entryAt, m_entryNext, m_entryElse, .int 0, m_tryCatch, m_tryFinal, m_tryEnd, .int 0, m_catchKind, m_catchAt, m_catchSlot, m_catchNext, .int 0, m_seenName, m_seenSlot, m_seenCaught, .int 0, .int 0, m_goalSort, m_goalName, m_goalLoop, m_goalDepth, m_breaks, m_continues, m_broken, m_continued, .int 0, .int 0, .int 0, .int 0, .int 0, m_wallTry, m_wallGoals, .int 0, m_pendGoal, m_pendBreak, m_pendTry, .int 0, m_fk, m_fs, m_fp, m_fq, m_fr, m_fv, m_fw, m_fx, m_fy, m_fz, m_fn, .int 0, .int 0, .int 0, .int 0, .int 0, .int 0, .int 0, m_rowSort, m_rowNumber, m_vals, .int 0, m_thingKind, m_thingNumber, m_suppressedMany, m_suppressedKind, m_suppressedNumber, m_held, .int 0, .int 0, m_vs, .int 0, m_openOf, .int 0, m_waits, .int 0, m_rk, m_ra, m_rb, m_rc, m_rHigh, m_rHow, m_rTo, m_rDepth, m_rValue, m_rThing, .int 0, .int 0, .int 0, .int 0, .int 0, .int 0])), (qt, .inl (kt, 900, .inl (upd f50 (7 : Int32).toNatClampNeg z56)))] := hD
  generalize upd f50 (7 : Int32).toNatClampNeg z56 = f57 at hP hD
  refine lv_iinc (v := 8) (lv' := [(6, .int 8), (7, .int b), (0, .ref h0), (1, .int a), (2, .int b), (3, .int c9), (4, .int d), (5, .int e9)]) hx hb dX12_feed_108 hl (k := 1) rfl (by decide) (by decide) rfl (fun ls hl => ?_)
  refine lv_goto (tgt := 24) hx hb dX12_feed_111 (by decide) ?_
  refine lv_iload hx hb dX12_feed_24 (lv_at hl 0 rfl) ?_
  refine lv_bipush (v := 20) hx hb dX12_feed_26 (by decide) ?_
  refine lv_icmp_ge (tgt := 114) hx hb dX12_feed_28 (by decide) (fun c9 => absurd c9 (by decide)) (fun _ => ?_)
  refine lv_iload hx hb dX12_feed_31 (lv_at hl 0 rfl) ?_
  refine lv_iconst (v := 4) hx hb dX12_feed_33 (by decide) ?_
  refine lv_icmp_ge (tgt := 41) hx hb dX12_feed_34 (by decide) (fun _ => ?_) (fun c9 => absurd (by decide) c9)
  refine lv_iload hx hb dX12_feed_41 (lv_at hl 0 rfl) ?_
  refine lv_bipush (v := 8) hx hb dX12_feed_43 (by decide) ?_
  refine lv_icmp_ge (tgt := 52) hx hb dX12_feed_45 (by decide) (fun _ => ?_) (fun c9 => absurd (by decide) c9)
  refine lv_iload hx hb dX12_feed_52 (lv_at hl 0 rfl) ?_
  refine lv_bipush (v := 12) hx hb dX12_feed_54 (by decide) ?_
  refine lv_icmp_ge (tgt := 63) hx hb dX12_feed_56 (by decide) (fun c9 => absurd c9 (by decide)) (fun _ => ?_)
  refine lv_iload_n hx hb dX12_feed_59 rfl (lv_at hl 5 rfl) ?_
  refine lv_goto (tgt := 77) hx hb dX12_feed_60 (by decide) ?_
  refine lv_istore (lv' := [(7, .int c9), (6, .int 8), (0, .ref h0), (1, .int a), (2, .int b), (3, .int c9), (4, .int d), (5, .int e9)]) hx hb dX12_feed_77 hl (by decide) rfl (fun ls hl => ?_)
  refine lv_aload_n hx hb dX12_feed_79 rfl (lv_at hl 2 rfl) ?_
  refine va_get (D := (dC, dI)) (ci := 11) (v := .ref qt) (C := RX12) (T := TX12) (N := 116) hx hb hts i_X12_feed_X12 hown hK hP 0 rfl rfl 1 (by decide) (hts (.fieldLink RX12 7 "StatementRules2Model" "tape" "[I") k_X12_feed_fieldLink_RX12_7_SRModel_tape_I) (fun _ h9 => h9) rfl dX12_feed_80 ?_
  refine lv_aload_n hx hb dX12_feed_83 rfl (lv_at hl 2 rfl) ?_
  refine va_get (D := (dC, dI)) (ci := 11) (v := .int 0) (C := RX12) (T := TX12) (N := 116) hx hb hts i_X12_feed_X12 hown hK hP 0 rfl rfl 2 (by decide) (hts (.fieldLink RX12 276 "StatementRules2Model" "taped" "I") k_X12_feed_fieldLink_RX12_276_SRModel_taped_I) (fun _ h9 => h9) rfl dX12_feed_84 ?_
  refine lv_iload hx hb dX12_feed_87 (lv_at hl 1 rfl) ?_
  refine lv_iadd hx hb dX12_feed_89 ?_
  refine lv_topi (fun z58 ez58 => ?_)
  obtain rfl : z58 = 8 := ez58.trans (by decide)
  refine lv_iload hx hb dX12_feed_90 (lv_at hl 0 rfl) ?_
  refine lv_bipush (v := 24) hx hb dX12_feed_92 (by decide) ?_
  refine lv_bipush (v := 8) hx hb dX12_feed_94 (by decide) ?_
  refine lv_iload hx hb dX12_feed_96 (lv_at hl 1 rfl) ?_
  refine lv_iconst (v := 4) hx hb dX12_feed_98 (by decide) ?_
  refine lv_irem hx hb dX12_feed_99 (by decide) ?_
  refine lv_topi (fun z59 ez59 => ?_)
  obtain rfl : z59 = 0 := ez59.trans (by decide)
  refine lv_imul hx hb dX12_feed_100 ?_
  refine lv_topi (fun z60 ez60 => ?_)
  obtain rfl : z60 = 0 := ez60.trans (by decide)
  refine lv_isub hx hb dX12_feed_101 ?_
  refine lv_topi (fun z61 ez61 => ?_)
  obtain rfl : z61 = 24 := ez61.trans (by decide)
  refine lv_ishr hx hb dX12_feed_102 ?_
  refine lv_topi (fun z62 ez62 => ?_)
  refine lv_sipush (v := 255) hx hb dX12_feed_103 (by decide) ?_
  refine lv_iand hx hb dX12_feed_106 ?_
  refine lv_topi (fun z63 ez63 => ?_)
  refine va_iast hx hb hK hP hD hS 1 0 rfl rfl (by unfold vp_in; decide) dX12_feed_107 (fun H locs hP hD hS => ?_)
  have hP : va_P (dC, dI) vwCl [(h0, .inr (11, [.int 0, .ref qt, .int 0, .int 4, m_above, m_isNull, m_opening, m_closing, .int 0, m_words, .int 0, .int 0, .int 0, .long 0, .int 0, .int 0, .int 0, .int 0, .int 0, .int 0, .int 0, m_op, m_ix, m_iy, .int 0, m_entryValue, m_entryAt, m_entryNext, m_entryElse, .int 0, m_tryCatch, m_tryFinal, m_tryEnd, .int 0, m_catchKind, m_catchAt, m_catchSlot, m_catchNext, .int 0, m_seenName, m_seenSlot, m_seenCaught, .int 0, .int 0, m_goalSort, m_goalName, m_goalLoop, m_goalDepth, m_breaks, m_continues, m_broken, m_continued, .int 0, .int 0, .int 0, .int 0, .int 0, m_wallTry, m_wallGoals, .int 0, m_pendGoal, m_pendBreak, m_pendTry, .int 0, m_fk, m_fs, m_fp, m_fq, m_fr, m_fv, m_fw, m_fx, m_fy, m_fz, m_fn, .int 0, .int 0, .int 0, .int 0, .int 0, .int 0, .int 0, m_rowSort, m_rowNumber, m_vals, .int 0, m_thingKind, m_thingNumber, m_suppressedMany, m_suppressedKind, m_suppressedNumber, m_held, .int 0, .int 0, m_vs, .int 0, m_openOf, .int 0, m_waits, .int 0, m_rk, m_ra, m_rb, m_rc, m_rHigh, m_rHow, m_rTo, m_rDepth, m_rValue, m_rThing, .int 0, .int 0, .int 0, .int 0, .int 0, .int 0])), (qt, .inl (kt, 900, .inl (upd f57 (8 : Int32).toNatClampNeg z63)))] H := hP
  have hD : va_D A [(h0, .inr (11, [.int 0, .ref qt, .int 0, .int 4, m_above, m_isNull, m_opening, m_closing, .int 0, m_words, .int 0, .int 0, .int 0, .long 0, .int 0, .int 0, .int 0, .int 0, .int 0, .int 0, .int 0, m_op, m_ix, m_iy, .int 0, m_entryValue, m_entryAt, m_entryNext, m_entryElse, .int 0, m_tryCatch, m_tryFinal, m_tryEnd, .int 0, m_catchKind, m_catchAt, m_catchSlot, m_catchNext, .int 0, m_seenName, m_seenSlot, m_seenCaught, .int 0, .int 0, m_goalSort, m_goalName, m_goalLoop, m_goalDepth, m_breaks, m_continues, m_broken, m_continued, .int 0, .int 0, .int 0, .int 0, .int 0, m_wallTry, m_wallGoals, .int 0, m_pendGoal, m_pendBreak, m_pendTry, .int 0, m_fk, m_fs, m_fp, m_fq, m_fr, m_fv, m_fw, m_fx, m_fy, m_fz, m_fn, .int 0, .int 0, .int 0, .int 0, .int 0, .int 0, .int 0, m_rowSort, m_rowNumber, m_vals, .int 0, m_thingKind, m_thingNumber, m_suppressedMany, m_suppressedKind, m_suppressedNumber, m_held, .int 0, .int 0, m_vs, .int 0, m_openOf, .int 0, m_waits, .int 0, m_rk, m_ra, m_rb, m_rc, m_rHigh, m_rHow, m_rTo, m_rDepth, m_rValue, m_rThing, .int 0, .int 0, .int 0, .int 0, .int 0, .int 0])), (qt, .inl (kt, 900, .inl (upd f57 (8 : Int32).toNatClampNeg z63)))] := hD
  generalize upd f57 (8 : Int32).toNatClampNeg z63 = f64 at hP hD
  refine lv_iinc (v := 9) (lv' := [(6, .int 9), (7, .int c9), (0, .ref h0), (1, .int a), (2, .int b), (3, .int c9), (4, .int d), (5, .int e9)]) hx hb dX12_feed_108 hl (k := 1) rfl (by decide) (by decide) rfl (fun ls hl => ?_)
  refine lv_goto (tgt := 24) hx hb dX12_feed_111 (by decide) ?_
  refine lv_iload hx hb dX12_feed_24 (lv_at hl 0 rfl) ?_
  refine lv_bipush (v := 20) hx hb dX12_feed_26 (by decide) ?_
  refine lv_icmp_ge (tgt := 114) hx hb dX12_feed_28 (by decide) (fun c9 => absurd c9 (by decide)) (fun _ => ?_)
  refine lv_iload hx hb dX12_feed_31 (lv_at hl 0 rfl) ?_
  refine lv_iconst (v := 4) hx hb dX12_feed_33 (by decide) ?_
  refine lv_icmp_ge (tgt := 41) hx hb dX12_feed_34 (by decide) (fun _ => ?_) (fun c9 => absurd (by decide) c9)
  refine lv_iload hx hb dX12_feed_41 (lv_at hl 0 rfl) ?_
  refine lv_bipush (v := 8) hx hb dX12_feed_43 (by decide) ?_
  refine lv_icmp_ge (tgt := 52) hx hb dX12_feed_45 (by decide) (fun _ => ?_) (fun c9 => absurd (by decide) c9)
  refine lv_iload hx hb dX12_feed_52 (lv_at hl 0 rfl) ?_
  refine lv_bipush (v := 12) hx hb dX12_feed_54 (by decide) ?_
  refine lv_icmp_ge (tgt := 63) hx hb dX12_feed_56 (by decide) (fun c9 => absurd c9 (by decide)) (fun _ => ?_)
  refine lv_iload_n hx hb dX12_feed_59 rfl (lv_at hl 5 rfl) ?_
  refine lv_goto (tgt := 77) hx hb dX12_feed_60 (by decide) ?_
  refine lv_istore (lv' := [(7, .int c9), (6, .int 9), (0, .ref h0), (1, .int a), (2, .int b), (3, .int c9), (4, .int d), (5, .int e9)]) hx hb dX12_feed_77 hl (by decide) rfl (fun ls hl => ?_)
  refine lv_aload_n hx hb dX12_feed_79 rfl (lv_at hl 2 rfl) ?_
  refine va_get (D := (dC, dI)) (ci := 11) (v := .ref qt) (C := RX12) (T := TX12) (N := 116) hx hb hts i_X12_feed_X12 hown hK hP 0 rfl rfl 1 (by decide) (hts (.fieldLink RX12 7 "StatementRules2Model" "tape" "[I") k_X12_feed_fieldLink_RX12_7_SRModel_tape_I) (fun _ h9 => h9) rfl dX12_feed_80 ?_
  refine lv_aload_n hx hb dX12_feed_83 rfl (lv_at hl 2 rfl) ?_
  refine va_get (D := (dC, dI)) (ci := 11) (v := .int 0) (C := RX12) (T := TX12) (N := 116) hx hb hts i_X12_feed_X12 hown hK hP 0 rfl rfl 2 (by decide) (hts (.fieldLink RX12 276 "StatementRules2Model" "taped" "I") k_X12_feed_fieldLink_RX12_276_SRModel_taped_I) (fun _ h9 => h9) rfl dX12_feed_84 ?_
  refine lv_iload hx hb dX12_feed_87 (lv_at hl 1 rfl) ?_
  refine lv_iadd hx hb dX12_feed_89 ?_
  refine lv_topi (fun z65 ez65 => ?_)
  obtain rfl : z65 = 9 := ez65.trans (by decide)
  refine lv_iload hx hb dX12_feed_90 (lv_at hl 0 rfl) ?_
  refine lv_bipush (v := 24) hx hb dX12_feed_92 (by decide) ?_
  refine lv_bipush (v := 8) hx hb dX12_feed_94 (by decide) ?_
  refine lv_iload hx hb dX12_feed_96 (lv_at hl 1 rfl) ?_
  refine lv_iconst (v := 4) hx hb dX12_feed_98 (by decide) ?_
  refine lv_irem hx hb dX12_feed_99 (by decide) ?_
  refine lv_topi (fun z66 ez66 => ?_)
  obtain rfl : z66 = 1 := ez66.trans (by decide)
  refine lv_imul hx hb dX12_feed_100 ?_
  refine lv_topi (fun z67 ez67 => ?_)
  obtain rfl : z67 = 8 := ez67.trans (by decide)
  refine lv_isub hx hb dX12_feed_101 ?_
  refine lv_topi (fun z68 ez68 => ?_)
  obtain rfl : z68 = 16 := ez68.trans (by decide)
  refine lv_ishr hx hb dX12_feed_102 ?_
  refine lv_topi (fun z69 ez69 => ?_)
  refine lv_sipush (v := 255) hx hb dX12_feed_103 (by decide) ?_
  refine lv_iand hx hb dX12_feed_106 ?_
  refine lv_topi (fun z70 ez70 => ?_)
  refine va_iast hx hb hK hP hD hS 1 0 rfl rfl (by unfold vp_in; decide) dX12_feed_107 (fun H locs hP hD hS => ?_)
  have hP : va_P (dC, dI) vwCl [(h0, .inr (11, [.int 0, .ref qt, .int 0, .int 4, m_above, m_isNull, m_opening, m_closing, .int 0, m_words, .int 0, .int 0, .int 0, .long 0, .int 0, .int 0, .int 0, .int 0, .int 0, .int 0, .int 0, m_op, m_ix, m_iy, .int 0, m_entryValue, m_entryAt, m_entryNext, m_entryElse, .int 0, m_tryCatch, m_tryFinal, m_tryEnd, .int 0, m_catchKind, m_catchAt, m_catchSlot, m_catchNext, .int 0, m_seenName, m_seenSlot, m_seenCaught, .int 0, .int 0, m_goalSort, m_goalName, m_goalLoop, m_goalDepth, m_breaks, m_continues, m_broken, m_continued, .int 0, .int 0, .int 0, .int 0, .int 0, m_wallTry, m_wallGoals, .int 0, m_pendGoal, m_pendBreak, m_pendTry, .int 0, m_fk, m_fs, m_fp, m_fq, m_fr, m_fv, m_fw, m_fx, m_fy, m_fz, m_fn, .int 0, .int 0, .int 0, .int 0, .int 0, .int 0, .int 0, m_rowSort, m_rowNumber, m_vals, .int 0, m_thingKind, m_thingNumber, m_suppressedMany, m_suppressedKind, m_suppressedNumber, m_held, .int 0, .int 0, m_vs, .int 0, m_openOf, .int 0, m_waits, .int 0, m_rk, m_ra, m_rb, m_rc, m_rHigh, m_rHow, m_rTo, m_rDepth, m_rValue, m_rThing, .int 0, .int 0, .int 0, .int 0, .int 0, .int 0])), (qt, .inl (kt, 900, .inl (upd f64 (9 : Int32).toNatClampNeg z70)))] H := hP
  have hD : va_D A [(h0, .inr (11, [.int 0, .ref qt, .int 0, .int 4, m_above, m_isNull, m_opening, m_closing, .int 0, m_words, .int 0, .int 0, .int 0, .long 0, .int 0, .int 0, .int 0, .int 0, .int 0, .int 0, .int 0, m_op, m_ix, m_iy, .int 0, m_entryValue, m_entryAt, m_entryNext, m_entryElse, .int 0, m_tryCatch, m_tryFinal, m_tryEnd, .int 0, m_catchKind, m_catchAt, m_catchSlot, m_catchNext, .int 0, m_seenName, m_seenSlot, m_seenCaught, .int 0, .int 0, m_goalSort, m_goalName, m_goalLoop, m_goalDepth, m_breaks, m_continues, m_broken, m_continued, .int 0, .int 0, .int 0, .int 0, .int 0, m_wallTry, m_wallGoals, .int 0, m_pendGoal, m_pendBreak, m_pendTry, .int 0, m_fk, m_fs, m_fp, m_fq, m_fr, m_fv, m_fw, m_fx, m_fy, m_fz, m_fn, .int 0, .int 0, .int 0, .int 0, .int 0, .int 0, .int 0, m_rowSort, m_rowNumber, m_vals, .int 0, m_thingKind, m_thingNumber, m_suppressedMany, m_suppressedKind, m_suppressedNumber, m_held, .int 0, .int 0, m_vs, .int 0, m_openOf, .int 0, m_waits, .int 0, m_rk, m_ra, m_rb, m_rc, m_rHigh, m_rHow, m_rTo, m_rDepth, m_rValue, m_rThing, .int 0, .int 0, .int 0, .int 0, .int 0, .int 0])), (qt, .inl (kt, 900, .inl (upd f64 (9 : Int32).toNatClampNeg z70)))] := hD
  generalize upd f64 (9 : Int32).toNatClampNeg z70 = f71 at hP hD
  refine lv_iinc (v := 10) (lv' := [(6, .int 10), (7, .int c9), (0, .ref h0), (1, .int a), (2, .int b), (3, .int c9), (4, .int d), (5, .int e9)]) hx hb dX12_feed_108 hl (k := 1) rfl (by decide) (by decide) rfl (fun ls hl => ?_)
  refine lv_goto (tgt := 24) hx hb dX12_feed_111 (by decide) ?_
  refine lv_iload hx hb dX12_feed_24 (lv_at hl 0 rfl) ?_
  refine lv_bipush (v := 20) hx hb dX12_feed_26 (by decide) ?_
  refine lv_icmp_ge (tgt := 114) hx hb dX12_feed_28 (by decide) (fun c9 => absurd c9 (by decide)) (fun _ => ?_)
  refine lv_iload hx hb dX12_feed_31 (lv_at hl 0 rfl) ?_
  refine lv_iconst (v := 4) hx hb dX12_feed_33 (by decide) ?_
  refine lv_icmp_ge (tgt := 41) hx hb dX12_feed_34 (by decide) (fun _ => ?_) (fun c9 => absurd (by decide) c9)
  refine lv_iload hx hb dX12_feed_41 (lv_at hl 0 rfl) ?_
  refine lv_bipush (v := 8) hx hb dX12_feed_43 (by decide) ?_
  refine lv_icmp_ge (tgt := 52) hx hb dX12_feed_45 (by decide) (fun _ => ?_) (fun c9 => absurd (by decide) c9)
  refine lv_iload hx hb dX12_feed_52 (lv_at hl 0 rfl) ?_
  refine lv_bipush (v := 12) hx hb dX12_feed_54 (by decide) ?_
  refine lv_icmp_ge (tgt := 63) hx hb dX12_feed_56 (by decide) (fun c9 => absurd c9 (by decide)) (fun _ => ?_)
  refine lv_iload_n hx hb dX12_feed_59 rfl (lv_at hl 5 rfl) ?_
  refine lv_goto (tgt := 77) hx hb dX12_feed_60 (by decide) ?_
  refine lv_istore (lv' := [(7, .int c9), (6, .int 10), (0, .ref h0), (1, .int a), (2, .int b), (3, .int c9), (4, .int d), (5, .int e9)]) hx hb dX12_feed_77 hl (by decide) rfl (fun ls hl => ?_)
  refine lv_aload_n hx hb dX12_feed_79 rfl (lv_at hl 2 rfl) ?_
  refine va_get (D := (dC, dI)) (ci := 11) (v := .ref qt) (C := RX12) (T := TX12) (N := 116) hx hb hts i_X12_feed_X12 hown hK hP 0 rfl rfl 1 (by decide) (hts (.fieldLink RX12 7 "StatementRules2Model" "tape" "[I") k_X12_feed_fieldLink_RX12_7_SRModel_tape_I) (fun _ h9 => h9) rfl dX12_feed_80 ?_
  refine lv_aload_n hx hb dX12_feed_83 rfl (lv_at hl 2 rfl) ?_
  refine va_get (D := (dC, dI)) (ci := 11) (v := .int 0) (C := RX12) (T := TX12) (N := 116) hx hb hts i_X12_feed_X12 hown hK hP 0 rfl rfl 2 (by decide) (hts (.fieldLink RX12 276 "StatementRules2Model" "taped" "I") k_X12_feed_fieldLink_RX12_276_SRModel_taped_I) (fun _ h9 => h9) rfl dX12_feed_84 ?_
  refine lv_iload hx hb dX12_feed_87 (lv_at hl 1 rfl) ?_
  refine lv_iadd hx hb dX12_feed_89 ?_
  refine lv_topi (fun z72 ez72 => ?_)
  obtain rfl : z72 = 10 := ez72.trans (by decide)
  refine lv_iload hx hb dX12_feed_90 (lv_at hl 0 rfl) ?_
  refine lv_bipush (v := 24) hx hb dX12_feed_92 (by decide) ?_
  refine lv_bipush (v := 8) hx hb dX12_feed_94 (by decide) ?_
  refine lv_iload hx hb dX12_feed_96 (lv_at hl 1 rfl) ?_
  refine lv_iconst (v := 4) hx hb dX12_feed_98 (by decide) ?_
  refine lv_irem hx hb dX12_feed_99 (by decide) ?_
  refine lv_topi (fun z73 ez73 => ?_)
  obtain rfl : z73 = 2 := ez73.trans (by decide)
  refine lv_imul hx hb dX12_feed_100 ?_
  refine lv_topi (fun z74 ez74 => ?_)
  obtain rfl : z74 = 16 := ez74.trans (by decide)
  refine lv_isub hx hb dX12_feed_101 ?_
  refine lv_topi (fun z75 ez75 => ?_)
  obtain rfl : z75 = 8 := ez75.trans (by decide)
  refine lv_ishr hx hb dX12_feed_102 ?_
  refine lv_topi (fun z76 ez76 => ?_)
  refine lv_sipush (v := 255) hx hb dX12_feed_103 (by decide) ?_
  refine lv_iand hx hb dX12_feed_106 ?_
  refine lv_topi (fun z77 ez77 => ?_)
  refine va_iast hx hb hK hP hD hS 1 0 rfl rfl (by unfold vp_in; decide) dX12_feed_107 (fun H locs hP hD hS => ?_)
  have hP : va_P (dC, dI) vwCl [(h0, .inr (11, [.int 0, .ref qt, .int 0, .int 4, m_above, m_isNull, m_opening, m_closing, .int 0, m_words, .int 0, .int 0, .int 0, .long 0, .int 0, .int 0, .int 0, .int 0, .int 0, .int 0, .int 0, m_op, m_ix, m_iy, .int 0, m_entryValue, m_entryAt, m_entryNext, m_entryElse, .int 0, m_tryCatch, m_tryFinal, m_tryEnd, .int 0, m_catchKind, m_catchAt, m_catchSlot, m_catchNext, .int 0, m_seenName, m_seenSlot, m_seenCaught, .int 0, .int 0, m_goalSort, m_goalName, m_goalLoop, m_goalDepth, m_breaks, m_continues, m_broken, m_continued, .int 0, .int 0, .int 0, .int 0, .int 0, m_wallTry, m_wallGoals, .int 0, m_pendGoal, m_pendBreak, m_pendTry, .int 0, m_fk, m_fs, m_fp, m_fq, m_fr, m_fv, m_fw, m_fx, m_fy, m_fz, m_fn, .int 0, .int 0, .int 0, .int 0, .int 0, .int 0, .int 0, m_rowSort, m_rowNumber, m_vals, .int 0, m_thingKind, m_thingNumber, m_suppressedMany, m_suppressedKind, m_suppressedNumber, m_held, .int 0, .int 0, m_vs, .int 0, m_openOf, .int 0, m_waits, .int 0, m_rk, m_ra, m_rb, m_rc, m_rHigh, m_rHow, m_rTo, m_rDepth, m_rValue, m_rThing, .int 0, .int 0, .int 0, .int 0, .int 0, .int 0])), (qt, .inl (kt, 900, .inl (upd f71 (10 : Int32).toNatClampNeg z77)))] H := hP
  have hD : va_D A [(h0, .inr (11, [.int 0, .ref qt, .int 0, .int 4, m_above, m_isNull, m_opening, m_closing, .int 0, m_words, .int 0, .int 0, .int 0, .long 0, .int 0, .int 0, .int 0, .int 0, .int 0, .int 0, .int 0, m_op, m_ix, m_iy, .int 0, m_entryValue, m_entryAt, m_entryNext, m_entryElse, .int 0, m_tryCatch, m_tryFinal, m_tryEnd, .int 0, m_catchKind, m_catchAt, m_catchSlot, m_catchNext, .int 0, m_seenName, m_seenSlot, m_seenCaught, .int 0, .int 0, m_goalSort, m_goalName, m_goalLoop, m_goalDepth, m_breaks, m_continues, m_broken, m_continued, .int 0, .int 0, .int 0, .int 0, .int 0, m_wallTry, m_wallGoals, .int 0, m_pendGoal, m_pendBreak, m_pendTry, .int 0, m_fk, m_fs, m_fp, m_fq, m_fr, m_fv, m_fw, m_fx, m_fy, m_fz, m_fn, .int 0, .int 0, .int 0, .int 0, .int 0, .int 0, .int 0, m_rowSort, m_rowNumber, m_vals, .int 0, m_thingKind, m_thingNumber, m_suppressedMany, m_suppressedKind, m_suppressedNumber, m_held, .int 0, .int 0, m_vs, .int 0, m_openOf, .int 0, m_waits, .int 0, m_rk, m_ra, m_rb, m_rc, m_rHigh, m_rHow, m_rTo, m_rDepth, m_rValue, m_rThing, .int 0, .int 0, .int 0, .int 0, .int 0, .int 0])), (qt, .inl (kt, 900, .inl (upd f71 (10 : Int32).toNatClampNeg z77)))] := hD
  generalize upd f71 (10 : Int32).toNatClampNeg z77 = f78 at hP hD
  refine lv_iinc (v := 11) (lv' := [(6, .int 11), (7, .int c9), (0, .ref h0), (1, .int a), (2, .int b), (3, .int c9), (4, .int d), (5, .int e9)]) hx hb dX12_feed_108 hl (k := 1) rfl (by decide) (by decide) rfl (fun ls hl => ?_)
  refine lv_goto (tgt := 24) hx hb dX12_feed_111 (by decide) ?_
  refine lv_iload hx hb dX12_feed_24 (lv_at hl 0 rfl) ?_
  refine lv_bipush (v := 20) hx hb dX12_feed_26 (by decide) ?_
  refine lv_icmp_ge (tgt := 114) hx hb dX12_feed_28 (by decide) (fun c9 => absurd c9 (by decide)) (fun _ => ?_)
  refine lv_iload hx hb dX12_feed_31 (lv_at hl 0 rfl) ?_
  refine lv_iconst (v := 4) hx hb dX12_feed_33 (by decide) ?_
  refine lv_icmp_ge (tgt := 41) hx hb dX12_feed_34 (by decide) (fun _ => ?_) (fun c9 => absurd (by decide) c9)
  refine lv_iload hx hb dX12_feed_41 (lv_at hl 0 rfl) ?_
  refine lv_bipush (v := 8) hx hb dX12_feed_43 (by decide) ?_
  refine lv_icmp_ge (tgt := 52) hx hb dX12_feed_45 (by decide) (fun _ => ?_) (fun c9 => absurd (by decide) c9)
  refine lv_iload hx hb dX12_feed_52 (lv_at hl 0 rfl) ?_
  refine lv_bipush (v := 12) hx hb dX12_feed_54 (by decide) ?_
  refine lv_icmp_ge (tgt := 63) hx hb dX12_feed_56 (by decide) (fun c9 => absurd c9 (by decide)) (fun _ => ?_)
  refine lv_iload_n hx hb dX12_feed_59 rfl (lv_at hl 5 rfl) ?_
  refine lv_goto (tgt := 77) hx hb dX12_feed_60 (by decide) ?_
  refine lv_istore (lv' := [(7, .int c9), (6, .int 11), (0, .ref h0), (1, .int a), (2, .int b), (3, .int c9), (4, .int d), (5, .int e9)]) hx hb dX12_feed_77 hl (by decide) rfl (fun ls hl => ?_)
  refine lv_aload_n hx hb dX12_feed_79 rfl (lv_at hl 2 rfl) ?_
  refine va_get (D := (dC, dI)) (ci := 11) (v := .ref qt) (C := RX12) (T := TX12) (N := 116) hx hb hts i_X12_feed_X12 hown hK hP 0 rfl rfl 1 (by decide) (hts (.fieldLink RX12 7 "StatementRules2Model" "tape" "[I") k_X12_feed_fieldLink_RX12_7_SRModel_tape_I) (fun _ h9 => h9) rfl dX12_feed_80 ?_
  refine lv_aload_n hx hb dX12_feed_83 rfl (lv_at hl 2 rfl) ?_
  refine va_get (D := (dC, dI)) (ci := 11) (v := .int 0) (C := RX12) (T := TX12) (N := 116) hx hb hts i_X12_feed_X12 hown hK hP 0 rfl rfl 2 (by decide) (hts (.fieldLink RX12 276 "StatementRules2Model" "taped" "I") k_X12_feed_fieldLink_RX12_276_SRModel_taped_I) (fun _ h9 => h9) rfl dX12_feed_84 ?_
  refine lv_iload hx hb dX12_feed_87 (lv_at hl 1 rfl) ?_
  refine lv_iadd hx hb dX12_feed_89 ?_
  refine lv_topi (fun z79 ez79 => ?_)
  obtain rfl : z79 = 11 := ez79.trans (by decide)
  refine lv_iload hx hb dX12_feed_90 (lv_at hl 0 rfl) ?_
  refine lv_bipush (v := 24) hx hb dX12_feed_92 (by decide) ?_
  refine lv_bipush (v := 8) hx hb dX12_feed_94 (by decide) ?_
  refine lv_iload hx hb dX12_feed_96 (lv_at hl 1 rfl) ?_
  refine lv_iconst (v := 4) hx hb dX12_feed_98 (by decide) ?_
  refine lv_irem hx hb dX12_feed_99 (by decide) ?_
  refine lv_topi (fun z80 ez80 => ?_)
  obtain rfl : z80 = 3 := ez80.trans (by decide)
  refine lv_imul hx hb dX12_feed_100 ?_
  refine lv_topi (fun z81 ez81 => ?_)
  obtain rfl : z81 = 24 := ez81.trans (by decide)
  refine lv_isub hx hb dX12_feed_101 ?_
  refine lv_topi (fun z82 ez82 => ?_)
  obtain rfl : z82 = 0 := ez82.trans (by decide)
  refine lv_ishr hx hb dX12_feed_102 ?_
  refine lv_topi (fun z83 ez83 => ?_)
  refine lv_sipush (v := 255) hx hb dX12_feed_103 (by decide) ?_
  refine lv_iand hx hb dX12_feed_106 ?_
  refine lv_topi (fun z84 ez84 => ?_)
  refine va_iast hx hb hK hP hD hS 1 0 rfl rfl (by unfold vp_in; decide) dX12_feed_107 (fun H locs hP hD hS => ?_)
  have hP : va_P (dC, dI) vwCl [(h0, .inr (11, [.int 0, .ref qt, .int 0, .int 4, m_above, m_isNull, m_opening, m_closing, .int 0, m_words, .int 0, .int 0, .int 0, .long 0, .int 0, .int 0, .int 0, .int 0, .int 0, .int 0, .int 0, m_op, m_ix, m_iy, .int 0, m_entryValue, m_entryAt, m_entryNext, m_entryElse, .int 0, m_tryCatch, m_tryFinal, m_tryEnd, .int 0, m_catchKind, m_catchAt, m_catchSlot, m_catchNext, .int 0, m_seenName, m_seenSlot, m_seenCaught, .int 0, .int 0, m_goalSort, m_goalName, m_goalLoop, m_goalDepth, m_breaks, m_continues, m_broken, m_continued, .int 0, .int 0, .int 0, .int 0, .int 0, m_wallTry, m_wallGoals, .int 0, m_pendGoal, m_pendBreak, m_pendTry, .int 0, m_fk, m_fs, m_fp, m_fq, m_fr, m_fv, m_fw, m_fx, m_fy, m_fz, m_fn, .int 0, .int 0, .int 0, .int 0, .int 0, .int 0, .int 0, m_rowSort, m_rowNumber, m_vals, .int 0, m_thingKind, m_thingNumber, m_suppressedMany, m_suppressedKind, m_suppressedNumber, m_held, .int 0, .int 0, m_vs, .int 0, m_openOf, .int 0, m_waits, .int 0, m_rk, m_ra, m_rb, m_rc, m_rHigh, m_rHow, m_rTo, m_rDepth, m_rValue, m_rThing, .int 0, .int 0, .int 0, .int 0, .int 0, .int 0])), (qt, .inl (kt, 900, .inl (upd f78 (11 : Int32).toNatClampNeg z84)))] H := hP
  have hD : va_D A [(h0, .inr (11, [.int 0, .ref qt, .int 0, .int 4, m_above, m_isNull, m_opening, m_closing, .int 0, m_words, .int 0, .int 0, .int 0, .long 0, .int 0, .int 0, .int 0, .int 0, .int 0, .int 0, .int 0, m_op, m_ix, m_iy, .int 0, m_entryValue, m_entryAt, m_entryNext, m_entryElse, .int 0, m_tryCatch, m_tryFinal, m_tryEnd, .int 0, m_catchKind, m_catchAt, m_catchSlot, m_catchNext, .int 0, m_seenName, m_seenSlot, m_seenCaught, .int 0, .int 0, m_goalSort, m_goalName, m_goalLoop, m_goalDepth, m_breaks, m_continues, m_broken, m_continued, .int 0, .int 0, .int 0, .int 0, .int 0, m_wallTry, m_wallGoals, .int 0, m_pendGoal, m_pendBreak, m_pendTry, .int 0, m_fk, m_fs, m_fp, m_fq, m_fr, m_fv, m_fw, m_fx, m_fy, m_fz, m_fn, .int 0, .int 0, .int 0, .int 0, .int 0, .int 0, .int 0, m_rowSort, m_rowNumber, m_vals, .int 0, m_thingKind, m_thingNumber, m_suppressedMany, m_suppressedKind, m_suppressedNumber, m_held, .int 0, .int 0, m_vs, .int 0, m_openOf, .int 0, m_waits, .int 0, m_rk, m_ra, m_rb, m_rc, m_rHigh, m_rHow, m_rTo, m_rDepth, m_rValue, m_rThing, .int 0, .int 0, .int 0, .int 0, .int 0, .int 0])), (qt, .inl (kt, 900, .inl (upd f78 (11 : Int32).toNatClampNeg z84)))] := hD
  generalize upd f78 (11 : Int32).toNatClampNeg z84 = f85 at hP hD
  refine lv_iinc (v := 12) (lv' := [(6, .int 12), (7, .int c9), (0, .ref h0), (1, .int a), (2, .int b), (3, .int c9), (4, .int d), (5, .int e9)]) hx hb dX12_feed_108 hl (k := 1) rfl (by decide) (by decide) rfl (fun ls hl => ?_)
  refine lv_goto (tgt := 24) hx hb dX12_feed_111 (by decide) ?_
  refine lv_iload hx hb dX12_feed_24 (lv_at hl 0 rfl) ?_
  refine lv_bipush (v := 20) hx hb dX12_feed_26 (by decide) ?_
  refine lv_icmp_ge (tgt := 114) hx hb dX12_feed_28 (by decide) (fun c9 => absurd c9 (by decide)) (fun _ => ?_)
  refine lv_iload hx hb dX12_feed_31 (lv_at hl 0 rfl) ?_
  refine lv_iconst (v := 4) hx hb dX12_feed_33 (by decide) ?_
  refine lv_icmp_ge (tgt := 41) hx hb dX12_feed_34 (by decide) (fun _ => ?_) (fun c9 => absurd (by decide) c9)
  refine lv_iload hx hb dX12_feed_41 (lv_at hl 0 rfl) ?_
  refine lv_bipush (v := 8) hx hb dX12_feed_43 (by decide) ?_
  refine lv_icmp_ge (tgt := 52) hx hb dX12_feed_45 (by decide) (fun _ => ?_) (fun c9 => absurd (by decide) c9)
  refine lv_iload hx hb dX12_feed_52 (lv_at hl 0 rfl) ?_
  refine lv_bipush (v := 12) hx hb dX12_feed_54 (by decide) ?_
  refine lv_icmp_ge (tgt := 63) hx hb dX12_feed_56 (by decide) (fun _ => ?_) (fun c9 => absurd (by decide) c9)
  refine lv_iload hx hb dX12_feed_63 (lv_at hl 0 rfl) ?_
  refine lv_bipush (v := 16) hx hb dX12_feed_65 (by decide) ?_
  refine lv_icmp_ge (tgt := 75) hx hb dX12_feed_67 (by decide) (fun c9 => absurd c9 (by decide)) (fun _ => ?_)
  refine lv_iload hx hb dX12_feed_70 (lv_at hl 6 rfl) ?_
  refine lv_goto (tgt := 77) hx hb dX12_feed_72 (by decide) ?_
  refine lv_istore (lv' := [(7, .int d), (6, .int 12), (0, .ref h0), (1, .int a), (2, .int b), (3, .int c9), (4, .int d), (5, .int e9)]) hx hb dX12_feed_77 hl (by decide) rfl (fun ls hl => ?_)
  refine lv_aload_n hx hb dX12_feed_79 rfl (lv_at hl 2 rfl) ?_
  refine va_get (D := (dC, dI)) (ci := 11) (v := .ref qt) (C := RX12) (T := TX12) (N := 116) hx hb hts i_X12_feed_X12 hown hK hP 0 rfl rfl 1 (by decide) (hts (.fieldLink RX12 7 "StatementRules2Model" "tape" "[I") k_X12_feed_fieldLink_RX12_7_SRModel_tape_I) (fun _ h9 => h9) rfl dX12_feed_80 ?_
  refine lv_aload_n hx hb dX12_feed_83 rfl (lv_at hl 2 rfl) ?_
  refine va_get (D := (dC, dI)) (ci := 11) (v := .int 0) (C := RX12) (T := TX12) (N := 116) hx hb hts i_X12_feed_X12 hown hK hP 0 rfl rfl 2 (by decide) (hts (.fieldLink RX12 276 "StatementRules2Model" "taped" "I") k_X12_feed_fieldLink_RX12_276_SRModel_taped_I) (fun _ h9 => h9) rfl dX12_feed_84 ?_
  refine lv_iload hx hb dX12_feed_87 (lv_at hl 1 rfl) ?_
  refine lv_iadd hx hb dX12_feed_89 ?_
  refine lv_topi (fun z86 ez86 => ?_)
  obtain rfl : z86 = 12 := ez86.trans (by decide)
  refine lv_iload hx hb dX12_feed_90 (lv_at hl 0 rfl) ?_
  refine lv_bipush (v := 24) hx hb dX12_feed_92 (by decide) ?_
  refine lv_bipush (v := 8) hx hb dX12_feed_94 (by decide) ?_
  refine lv_iload hx hb dX12_feed_96 (lv_at hl 1 rfl) ?_
  refine lv_iconst (v := 4) hx hb dX12_feed_98 (by decide) ?_
  refine lv_irem hx hb dX12_feed_99 (by decide) ?_
  refine lv_topi (fun z87 ez87 => ?_)
  obtain rfl : z87 = 0 := ez87.trans (by decide)
  refine lv_imul hx hb dX12_feed_100 ?_
  refine lv_topi (fun z88 ez88 => ?_)
  obtain rfl : z88 = 0 := ez88.trans (by decide)
  refine lv_isub hx hb dX12_feed_101 ?_
  refine lv_topi (fun z89 ez89 => ?_)
  obtain rfl : z89 = 24 := ez89.trans (by decide)
  refine lv_ishr hx hb dX12_feed_102 ?_
  refine lv_topi (fun z90 ez90 => ?_)
  refine lv_sipush (v := 255) hx hb dX12_feed_103 (by decide) ?_
  refine lv_iand hx hb dX12_feed_106 ?_
  refine lv_topi (fun z91 ez91 => ?_)
  refine va_iast hx hb hK hP hD hS 1 0 rfl rfl (by unfold vp_in; decide) dX12_feed_107 (fun H locs hP hD hS => ?_)
  have hP : va_P (dC, dI) vwCl [(h0, .inr (11, [.int 0, .ref qt, .int 0, .int 4, m_above, m_isNull, m_opening, m_closing, .int 0, m_words, .int 0, .int 0, .int 0, .long 0, .int 0, .int 0, .int 0, .int 0, .int 0, .int 0, .int 0, m_op, m_ix, m_iy, .int 0, m_entryValue, m_entryAt, m_entryNext, m_entryElse, .int 0, m_tryCatch, m_tryFinal, m_tryEnd, .int 0, m_catchKind, m_catchAt, m_catchSlot, m_catchNext, .int 0, m_seenName, m_seenSlot, m_seenCaught, .int 0, .int 0, m_goalSort, m_goalName, m_goalLoop, m_goalDepth, m_breaks, m_continues, m_broken, m_continued, .int 0, .int 0, .int 0, .int 0, .int 0, m_wallTry, m_wallGoals, .int 0, m_pendGoal, m_pendBreak, m_pendTry, .int 0, m_fk, m_fs, m_fp, m_fq, m_fr, m_fv, m_fw, m_fx, m_fy, m_fz, m_fn, .int 0, .int 0, .int 0, .int 0, .int 0, .int 0, .int 0, m_rowSort, m_rowNumber, m_vals, .int 0, m_thingKind, m_thingNumber, m_suppressedMany, m_suppressedKind, m_suppressedNumber, m_held, .int 0, .int 0, m_vs, .int 0, m_openOf, .int 0, m_waits, .int 0, m_rk, m_ra, m_rb, m_rc, m_rHigh, m_rHow, m_rTo, m_rDepth, m_rValue, m_rThing, .int 0, .int 0, .int 0, .int 0, .int 0, .int 0])), (qt, .inl (kt, 900, .inl (upd f85 (12 : Int32).toNatClampNeg z91)))] H := hP
  have hD : va_D A [(h0, .inr (11, [.int 0, .ref qt, .int 0, .int 4, m_above, m_isNull, m_opening, m_closing, .int 0, m_words, .int 0, .int 0, .int 0, .long 0, .int 0, .int 0, .int 0, .int 0, .int 0, .int 0, .int 0, m_op, m_ix, m_iy, .int 0, m_entryValue, m_entryAt, m_entryNext, m_entryElse, .int 0, m_tryCatch, m_tryFinal, m_tryEnd, .int 0, m_catchKind, m_catchAt, m_catchSlot, m_catchNext, .int 0, m_seenName, m_seenSlot, m_seenCaught, .int 0, .int 0, m_goalSort, m_goalName, m_goalLoop, m_goalDepth, m_breaks, m_continues, m_broken, m_continued, .int 0, .int 0, .int 0, .int 0, .int 0, m_wallTry, m_wallGoals, .int 0, m_pendGoal, m_pendBreak, m_pendTry, .int 0, m_fk, m_fs, m_fp, m_fq, m_fr, m_fv, m_fw, m_fx, m_fy, m_fz, m_fn, .int 0, .int 0, .int 0, .int 0, .int 0, .int 0, .int 0, m_rowSort, m_rowNumber, m_vals, .int 0, m_thingKind, m_thingNumber, m_suppressedMany, m_suppressedKind, m_suppressedNumber, m_held, .int 0, .int 0, m_vs, .int 0, m_openOf, .int 0, m_waits, .int 0, m_rk, m_ra, m_rb, m_rc, m_rHigh, m_rHow, m_rTo, m_rDepth, m_rValue, m_rThing, .int 0, .int 0, .int 0, .int 0, .int 0, .int 0])), (qt, .inl (kt, 900, .inl (upd f85 (12 : Int32).toNatClampNeg z91)))] := hD
  generalize upd f85 (12 : Int32).toNatClampNeg z91 = f92 at hP hD
  refine lv_iinc (v := 13) (lv' := [(6, .int 13), (7, .int d), (0, .ref h0), (1, .int a), (2, .int b), (3, .int c9), (4, .int d), (5, .int e9)]) hx hb dX12_feed_108 hl (k := 1) rfl (by decide) (by decide) rfl (fun ls hl => ?_)
  refine lv_goto (tgt := 24) hx hb dX12_feed_111 (by decide) ?_
  refine lv_iload hx hb dX12_feed_24 (lv_at hl 0 rfl) ?_
  refine lv_bipush (v := 20) hx hb dX12_feed_26 (by decide) ?_
  refine lv_icmp_ge (tgt := 114) hx hb dX12_feed_28 (by decide) (fun c9 => absurd c9 (by decide)) (fun _ => ?_)
  refine lv_iload hx hb dX12_feed_31 (lv_at hl 0 rfl) ?_
  refine lv_iconst (v := 4) hx hb dX12_feed_33 (by decide) ?_
  refine lv_icmp_ge (tgt := 41) hx hb dX12_feed_34 (by decide) (fun _ => ?_) (fun c9 => absurd (by decide) c9)
  refine lv_iload hx hb dX12_feed_41 (lv_at hl 0 rfl) ?_
  refine lv_bipush (v := 8) hx hb dX12_feed_43 (by decide) ?_
  refine lv_icmp_ge (tgt := 52) hx hb dX12_feed_45 (by decide) (fun _ => ?_) (fun c9 => absurd (by decide) c9)
  refine lv_iload hx hb dX12_feed_52 (lv_at hl 0 rfl) ?_
  refine lv_bipush (v := 12) hx hb dX12_feed_54 (by decide) ?_
  refine lv_icmp_ge (tgt := 63) hx hb dX12_feed_56 (by decide) (fun _ => ?_) (fun c9 => absurd (by decide) c9)
  refine lv_iload hx hb dX12_feed_63 (lv_at hl 0 rfl) ?_
  refine lv_bipush (v := 16) hx hb dX12_feed_65 (by decide) ?_
  refine lv_icmp_ge (tgt := 75) hx hb dX12_feed_67 (by decide) (fun c9 => absurd c9 (by decide)) (fun _ => ?_)
  refine lv_iload hx hb dX12_feed_70 (lv_at hl 6 rfl) ?_
  refine lv_goto (tgt := 77) hx hb dX12_feed_72 (by decide) ?_
  refine lv_istore (lv' := [(7, .int d), (6, .int 13), (0, .ref h0), (1, .int a), (2, .int b), (3, .int c9), (4, .int d), (5, .int e9)]) hx hb dX12_feed_77 hl (by decide) rfl (fun ls hl => ?_)
  refine lv_aload_n hx hb dX12_feed_79 rfl (lv_at hl 2 rfl) ?_
  refine va_get (D := (dC, dI)) (ci := 11) (v := .ref qt) (C := RX12) (T := TX12) (N := 116) hx hb hts i_X12_feed_X12 hown hK hP 0 rfl rfl 1 (by decide) (hts (.fieldLink RX12 7 "StatementRules2Model" "tape" "[I") k_X12_feed_fieldLink_RX12_7_SRModel_tape_I) (fun _ h9 => h9) rfl dX12_feed_80 ?_
  refine lv_aload_n hx hb dX12_feed_83 rfl (lv_at hl 2 rfl) ?_
  refine va_get (D := (dC, dI)) (ci := 11) (v := .int 0) (C := RX12) (T := TX12) (N := 116) hx hb hts i_X12_feed_X12 hown hK hP 0 rfl rfl 2 (by decide) (hts (.fieldLink RX12 276 "StatementRules2Model" "taped" "I") k_X12_feed_fieldLink_RX12_276_SRModel_taped_I) (fun _ h9 => h9) rfl dX12_feed_84 ?_
  refine lv_iload hx hb dX12_feed_87 (lv_at hl 1 rfl) ?_
  refine lv_iadd hx hb dX12_feed_89 ?_
  refine lv_topi (fun z93 ez93 => ?_)
  obtain rfl : z93 = 13 := ez93.trans (by decide)
  refine lv_iload hx hb dX12_feed_90 (lv_at hl 0 rfl) ?_
  refine lv_bipush (v := 24) hx hb dX12_feed_92 (by decide) ?_
  refine lv_bipush (v := 8) hx hb dX12_feed_94 (by decide) ?_
  refine lv_iload hx hb dX12_feed_96 (lv_at hl 1 rfl) ?_
  refine lv_iconst (v := 4) hx hb dX12_feed_98 (by decide) ?_
  refine lv_irem hx hb dX12_feed_99 (by decide) ?_
  refine lv_topi (fun z94 ez94 => ?_)
  obtain rfl : z94 = 1 := ez94.trans (by decide)
  refine lv_imul hx hb dX12_feed_100 ?_
  refine lv_topi (fun z95 ez95 => ?_)
  obtain rfl : z95 = 8 := ez95.trans (by decide)
  refine lv_isub hx hb dX12_feed_101 ?_
  refine lv_topi (fun z96 ez96 => ?_)
  obtain rfl : z96 = 16 := ez96.trans (by decide)
  refine lv_ishr hx hb dX12_feed_102 ?_
  refine lv_topi (fun z97 ez97 => ?_)
  refine lv_sipush (v := 255) hx hb dX12_feed_103 (by decide) ?_
  refine lv_iand hx hb dX12_feed_106 ?_
  refine lv_topi (fun z98 ez98 => ?_)
  refine va_iast hx hb hK hP hD hS 1 0 rfl rfl (by unfold vp_in; decide) dX12_feed_107 (fun H locs hP hD hS => ?_)
  have hP : va_P (dC, dI) vwCl [(h0, .inr (11, [.int 0, .ref qt, .int 0, .int 4, m_above, m_isNull, m_opening, m_closing, .int 0, m_words, .int 0, .int 0, .int 0, .long 0, .int 0, .int 0, .int 0, .int 0, .int 0, .int 0, .int 0, m_op, m_ix, m_iy, .int 0, m_entryValue, m_entryAt, m_entryNext, m_entryElse, .int 0, m_tryCatch, m_tryFinal, m_tryEnd, .int 0, m_catchKind, m_catchAt, m_catchSlot, m_catchNext, .int 0, m_seenName, m_seenSlot, m_seenCaught, .int 0, .int 0, m_goalSort, m_goalName, m_goalLoop, m_goalDepth, m_breaks, m_continues, m_broken, m_continued, .int 0, .int 0, .int 0, .int 0, .int 0, m_wallTry, m_wallGoals, .int 0, m_pendGoal, m_pendBreak, m_pendTry, .int 0, m_fk, m_fs, m_fp, m_fq, m_fr, m_fv, m_fw, m_fx, m_fy, m_fz, m_fn, .int 0, .int 0, .int 0, .int 0, .int 0, .int 0, .int 0, m_rowSort, m_rowNumber, m_vals, .int 0, m_thingKind, m_thingNumber, m_suppressedMany, m_suppressedKind, m_suppressedNumber, m_held, .int 0, .int 0, m_vs, .int 0, m_openOf, .int 0, m_waits, .int 0, m_rk, m_ra, m_rb, m_rc, m_rHigh, m_rHow, m_rTo, m_rDepth, m_rValue, m_rThing, .int 0, .int 0, .int 0, .int 0, .int 0, .int 0])), (qt, .inl (kt, 900, .inl (upd f92 (13 : Int32).toNatClampNeg z98)))] H := hP
  have hD : va_D A [(h0, .inr (11, [.int 0, .ref qt, .int 0, .int 4, m_above, m_isNull, m_opening, m_closing, .int 0, m_words, .int 0, .int 0, .int 0, .long 0, .int 0, .int 0, .int 0, .int 0, .int 0, .int 0, .int 0, m_op, m_ix, m_iy, .int 0, m_entryValue, m_entryAt, m_entryNext, m_entryElse, .int 0, m_tryCatch, m_tryFinal, m_tryEnd, .int 0, m_catchKind, m_catchAt, m_catchSlot, m_catchNext, .int 0, m_seenName, m_seenSlot, m_seenCaught, .int 0, .int 0, m_goalSort, m_goalName, m_goalLoop, m_goalDepth, m_breaks, m_continues, m_broken, m_continued, .int 0, .int 0, .int 0, .int 0, .int 0, m_wallTry, m_wallGoals, .int 0, m_pendGoal, m_pendBreak, m_pendTry, .int 0, m_fk, m_fs, m_fp, m_fq, m_fr, m_fv, m_fw, m_fx, m_fy, m_fz, m_fn, .int 0, .int 0, .int 0, .int 0, .int 0, .int 0, .int 0, m_rowSort, m_rowNumber, m_vals, .int 0, m_thingKind, m_thingNumber, m_suppressedMany, m_suppressedKind, m_suppressedNumber, m_held, .int 0, .int 0, m_vs, .int 0, m_openOf, .int 0, m_waits, .int 0, m_rk, m_ra, m_rb, m_rc, m_rHigh, m_rHow, m_rTo, m_rDepth, m_rValue, m_rThing, .int 0, .int 0, .int 0, .int 0, .int 0, .int 0])), (qt, .inl (kt, 900, .inl (upd f92 (13 : Int32).toNatClampNeg z98)))] := hD
  generalize upd f92 (13 : Int32).toNatClampNeg z98 = f99 at hP hD
  refine lv_iinc (v := 14) (lv' := [(6, .int 14), (7, .int d), (0, .ref h0), (1, .int a), (2, .int b), (3, .int c9), (4, .int d), (5, .int e9)]) hx hb dX12_feed_108 hl (k := 1) rfl (by decide) (by decide) rfl (fun ls hl => ?_)
  refine lv_goto (tgt := 24) hx hb dX12_feed_111 (by decide) ?_
  refine lv_iload hx hb dX12_feed_24 (lv_at hl 0 rfl) ?_
  refine lv_bipush (v := 20) hx hb dX12_feed_26 (by decide) ?_
  refine lv_icmp_ge (tgt := 114) hx hb dX12_feed_28 (by decide) (fun c9 => absurd c9 (by decide)) (fun _ => ?_)
  refine lv_iload hx hb dX12_feed_31 (lv_at hl 0 rfl) ?_
  refine lv_iconst (v := 4) hx hb dX12_feed_33 (by decide) ?_
  refine lv_icmp_ge (tgt := 41) hx hb dX12_feed_34 (by decide) (fun _ => ?_) (fun c9 => absurd (by decide) c9)
  refine lv_iload hx hb dX12_feed_41 (lv_at hl 0 rfl) ?_
  refine lv_bipush (v := 8) hx hb dX12_feed_43 (by decide) ?_
  refine lv_icmp_ge (tgt := 52) hx hb dX12_feed_45 (by decide) (fun _ => ?_) (fun c9 => absurd (by decide) c9)
  refine lv_iload hx hb dX12_feed_52 (lv_at hl 0 rfl) ?_
  refine lv_bipush (v := 12) hx hb dX12_feed_54 (by decide) ?_
  refine lv_icmp_ge (tgt := 63) hx hb dX12_feed_56 (by decide) (fun _ => ?_) (fun c9 => absurd (by decide) c9)
  refine lv_iload hx hb dX12_feed_63 (lv_at hl 0 rfl) ?_
  refine lv_bipush (v := 16) hx hb dX12_feed_65 (by decide) ?_
  refine lv_icmp_ge (tgt := 75) hx hb dX12_feed_67 (by decide) (fun c9 => absurd c9 (by decide)) (fun _ => ?_)
  refine lv_iload hx hb dX12_feed_70 (lv_at hl 6 rfl) ?_
  refine lv_goto (tgt := 77) hx hb dX12_feed_72 (by decide) ?_
  refine lv_istore (lv' := [(7, .int d), (6, .int 14), (0, .ref h0), (1, .int a), (2, .int b), (3, .int c9), (4, .int d), (5, .int e9)]) hx hb dX12_feed_77 hl (by decide) rfl (fun ls hl => ?_)
  refine lv_aload_n hx hb dX12_feed_79 rfl (lv_at hl 2 rfl) ?_
  refine va_get (D := (dC, dI)) (ci := 11) (v := .ref qt) (C := RX12) (T := TX12) (N := 116) hx hb hts i_X12_feed_X12 hown hK hP 0 rfl rfl 1 (by decide) (hts (.fieldLink RX12 7 "StatementRules2Model" "tape" "[I") k_X12_feed_fieldLink_RX12_7_SRModel_tape_I) (fun _ h9 => h9) rfl dX12_feed_80 ?_
  refine lv_aload_n hx hb dX12_feed_83 rfl (lv_at hl 2 rfl) ?_
  refine va_get (D := (dC, dI)) (ci := 11) (v := .int 0) (C := RX12) (T := TX12) (N := 116) hx hb hts i_X12_feed_X12 hown hK hP 0 rfl rfl 2 (by decide) (hts (.fieldLink RX12 276 "StatementRules2Model" "taped" "I") k_X12_feed_fieldLink_RX12_276_SRModel_taped_I) (fun _ h9 => h9) rfl dX12_feed_84 ?_
  refine lv_iload hx hb dX12_feed_87 (lv_at hl 1 rfl) ?_
  refine lv_iadd hx hb dX12_feed_89 ?_
  refine lv_topi (fun z100 ez100 => ?_)
  obtain rfl : z100 = 14 := ez100.trans (by decide)
  refine lv_iload hx hb dX12_feed_90 (lv_at hl 0 rfl) ?_
  refine lv_bipush (v := 24) hx hb dX12_feed_92 (by decide) ?_
  refine lv_bipush (v := 8) hx hb dX12_feed_94 (by decide) ?_
  refine lv_iload hx hb dX12_feed_96 (lv_at hl 1 rfl) ?_
  refine lv_iconst (v := 4) hx hb dX12_feed_98 (by decide) ?_
  refine lv_irem hx hb dX12_feed_99 (by decide) ?_
  refine lv_topi (fun z101 ez101 => ?_)
  obtain rfl : z101 = 2 := ez101.trans (by decide)
  refine lv_imul hx hb dX12_feed_100 ?_
  refine lv_topi (fun z102 ez102 => ?_)
  obtain rfl : z102 = 16 := ez102.trans (by decide)
  refine lv_isub hx hb dX12_feed_101 ?_
  refine lv_topi (fun z103 ez103 => ?_)
  obtain rfl : z103 = 8 := ez103.trans (by decide)
  refine lv_ishr hx hb dX12_feed_102 ?_
  refine lv_topi (fun z104 ez104 => ?_)
  refine lv_sipush (v := 255) hx hb dX12_feed_103 (by decide) ?_
  refine lv_iand hx hb dX12_feed_106 ?_
  refine lv_topi (fun z105 ez105 => ?_)
  refine va_iast hx hb hK hP hD hS 1 0 rfl rfl (by unfold vp_in; decide) dX12_feed_107 (fun H locs hP hD hS => ?_)
  have hP : va_P (dC, dI) vwCl [(h0, .inr (11, [.int 0, .ref qt, .int 0, .int 4, m_above, m_isNull, m_opening, m_closing, .int 0, m_words, .int 0, .int 0, .int 0, .long 0, .int 0, .int 0, .int 0, .int 0, .int 0, .int 0, .int 0, m_op, m_ix, m_iy, .int 0, m_entryValue, m_entryAt, m_entryNext, m_entryElse, .int 0, m_tryCatch, m_tryFinal, m_tryEnd, .int 0, m_catchKind, m_catchAt, m_catchSlot, m_catchNext, .int 0, m_seenName, m_seenSlot, m_seenCaught, .int 0, .int 0, m_goalSort, m_goalName, m_goalLoop, m_goalDepth, m_breaks, m_continues, m_broken, m_continued, .int 0, .int 0, .int 0, .int 0, .int 0, m_wallTry, m_wallGoals, .int 0, m_pendGoal, m_pendBreak, m_pendTry, .int 0, m_fk, m_fs, m_fp, m_fq, m_fr, m_fv, m_fw, m_fx, m_fy, m_fz, m_fn, .int 0, .int 0, .int 0, .int 0, .int 0, .int 0, .int 0, m_rowSort, m_rowNumber, m_vals, .int 0, m_thingKind, m_thingNumber, m_suppressedMany, m_suppressedKind, m_suppressedNumber, m_held, .int 0, .int 0, m_vs, .int 0, m_openOf, .int 0, m_waits, .int 0, m_rk, m_ra, m_rb, m_rc, m_rHigh, m_rHow, m_rTo, m_rDepth, m_rValue, m_rThing, .int 0, .int 0, .int 0, .int 0, .int 0, .int 0])), (qt, .inl (kt, 900, .inl (upd f99 (14 : Int32).toNatClampNeg z105)))] H := hP
  have hD : va_D A [(h0, .inr (11, [.int 0, .ref qt, .int 0, .int 4, m_above, m_isNull, m_opening, m_closing, .int 0, m_words, .int 0, .int 0, .int 0, .long 0, .int 0, .int 0, .int 0, .int 0, .int 0, .int 0, .int 0, m_op, m_ix, m_iy, .int 0, m_entryValue, m_entryAt, m_entryNext, m_entryElse, .int 0, m_tryCatch, m_tryFinal, m_tryEnd, .int 0, m_catchKind, m_catchAt, m_catchSlot, m_catchNext, .int 0, m_seenName, m_seenSlot, m_seenCaught, .int 0, .int 0, m_goalSort, m_goalName, m_goalLoop, m_goalDepth, m_breaks, m_continues, m_broken, m_continued, .int 0, .int 0, .int 0, .int 0, .int 0, m_wallTry, m_wallGoals, .int 0, m_pendGoal, m_pendBreak, m_pendTry, .int 0, m_fk, m_fs, m_fp, m_fq, m_fr, m_fv, m_fw, m_fx, m_fy, m_fz, m_fn, .int 0, .int 0, .int 0, .int 0, .int 0, .int 0, .int 0, m_rowSort, m_rowNumber, m_vals, .int 0, m_thingKind, m_thingNumber, m_suppressedMany, m_suppressedKind, m_suppressedNumber, m_held, .int 0, .int 0, m_vs, .int 0, m_openOf, .int 0, m_waits, .int 0, m_rk, m_ra, m_rb, m_rc, m_rHigh, m_rHow, m_rTo, m_rDepth, m_rValue, m_rThing, .int 0, .int 0, .int 0, .int 0, .int 0, .int 0])), (qt, .inl (kt, 900, .inl (upd f99 (14 : Int32).toNatClampNeg z105)))] := hD
  generalize upd f99 (14 : Int32).toNatClampNeg z105 = f106 at hP hD
  refine lv_iinc (v := 15) (lv' := [(6, .int 15), (7, .int d), (0, .ref h0), (1, .int a), (2, .int b), (3, .int c9), (4, .int d), (5, .int e9)]) hx hb dX12_feed_108 hl (k := 1) rfl (by decide) (by decide) rfl (fun ls hl => ?_)
  refine lv_goto (tgt := 24) hx hb dX12_feed_111 (by decide) ?_
  refine lv_iload hx hb dX12_feed_24 (lv_at hl 0 rfl) ?_
  refine lv_bipush (v := 20) hx hb dX12_feed_26 (by decide) ?_
  refine lv_icmp_ge (tgt := 114) hx hb dX12_feed_28 (by decide) (fun c9 => absurd c9 (by decide)) (fun _ => ?_)
  refine lv_iload hx hb dX12_feed_31 (lv_at hl 0 rfl) ?_
  refine lv_iconst (v := 4) hx hb dX12_feed_33 (by decide) ?_
  refine lv_icmp_ge (tgt := 41) hx hb dX12_feed_34 (by decide) (fun _ => ?_) (fun c9 => absurd (by decide) c9)
  refine lv_iload hx hb dX12_feed_41 (lv_at hl 0 rfl) ?_
  refine lv_bipush (v := 8) hx hb dX12_feed_43 (by decide) ?_
  refine lv_icmp_ge (tgt := 52) hx hb dX12_feed_45 (by decide) (fun _ => ?_) (fun c9 => absurd (by decide) c9)
  refine lv_iload hx hb dX12_feed_52 (lv_at hl 0 rfl) ?_
  refine lv_bipush (v := 12) hx hb dX12_feed_54 (by decide) ?_
  refine lv_icmp_ge (tgt := 63) hx hb dX12_feed_56 (by decide) (fun _ => ?_) (fun c9 => absurd (by decide) c9)
  refine lv_iload hx hb dX12_feed_63 (lv_at hl 0 rfl) ?_
  refine lv_bipush (v := 16) hx hb dX12_feed_65 (by decide) ?_
  refine lv_icmp_ge (tgt := 75) hx hb dX12_feed_67 (by decide) (fun c9 => absurd c9 (by decide)) (fun _ => ?_)
  refine lv_iload hx hb dX12_feed_70 (lv_at hl 6 rfl) ?_
  refine lv_goto (tgt := 77) hx hb dX12_feed_72 (by decide) ?_
  refine lv_istore (lv' := [(7, .int d), (6, .int 15), (0, .ref h0), (1, .int a), (2, .int b), (3, .int c9), (4, .int d), (5, .int e9)]) hx hb dX12_feed_77 hl (by decide) rfl (fun ls hl => ?_)
  refine lv_aload_n hx hb dX12_feed_79 rfl (lv_at hl 2 rfl) ?_
  refine va_get (D := (dC, dI)) (ci := 11) (v := .ref qt) (C := RX12) (T := TX12) (N := 116) hx hb hts i_X12_feed_X12 hown hK hP 0 rfl rfl 1 (by decide) (hts (.fieldLink RX12 7 "StatementRules2Model" "tape" "[I") k_X12_feed_fieldLink_RX12_7_SRModel_tape_I) (fun _ h9 => h9) rfl dX12_feed_80 ?_
  refine lv_aload_n hx hb dX12_feed_83 rfl (lv_at hl 2 rfl) ?_
  refine va_get (D := (dC, dI)) (ci := 11) (v := .int 0) (C := RX12) (T := TX12) (N := 116) hx hb hts i_X12_feed_X12 hown hK hP 0 rfl rfl 2 (by decide) (hts (.fieldLink RX12 276 "StatementRules2Model" "taped" "I") k_X12_feed_fieldLink_RX12_276_SRModel_taped_I) (fun _ h9 => h9) rfl dX12_feed_84 ?_
  refine lv_iload hx hb dX12_feed_87 (lv_at hl 1 rfl) ?_
  refine lv_iadd hx hb dX12_feed_89 ?_
  refine lv_topi (fun z107 ez107 => ?_)
  obtain rfl : z107 = 15 := ez107.trans (by decide)
  refine lv_iload hx hb dX12_feed_90 (lv_at hl 0 rfl) ?_
  refine lv_bipush (v := 24) hx hb dX12_feed_92 (by decide) ?_
  refine lv_bipush (v := 8) hx hb dX12_feed_94 (by decide) ?_
  refine lv_iload hx hb dX12_feed_96 (lv_at hl 1 rfl) ?_
  refine lv_iconst (v := 4) hx hb dX12_feed_98 (by decide) ?_
  refine lv_irem hx hb dX12_feed_99 (by decide) ?_
  refine lv_topi (fun z108 ez108 => ?_)
  obtain rfl : z108 = 3 := ez108.trans (by decide)
  refine lv_imul hx hb dX12_feed_100 ?_
  refine lv_topi (fun z109 ez109 => ?_)
  obtain rfl : z109 = 24 := ez109.trans (by decide)
  refine lv_isub hx hb dX12_feed_101 ?_
  refine lv_topi (fun z110 ez110 => ?_)
  obtain rfl : z110 = 0 := ez110.trans (by decide)
  refine lv_ishr hx hb dX12_feed_102 ?_
  refine lv_topi (fun z111 ez111 => ?_)
  refine lv_sipush (v := 255) hx hb dX12_feed_103 (by decide) ?_
  refine lv_iand hx hb dX12_feed_106 ?_
  refine lv_topi (fun z112 ez112 => ?_)
  refine va_iast hx hb hK hP hD hS 1 0 rfl rfl (by unfold vp_in; decide) dX12_feed_107 (fun H locs hP hD hS => ?_)
  have hP : va_P (dC, dI) vwCl [(h0, .inr (11, [.int 0, .ref qt, .int 0, .int 4, m_above, m_isNull, m_opening, m_closing, .int 0, m_words, .int 0, .int 0, .int 0, .long 0, .int 0, .int 0, .int 0, .int 0, .int 0, .int 0, .int 0, m_op, m_ix, m_iy, .int 0, m_entryValue, m_entryAt, m_entryNext, m_entryElse, .int 0, m_tryCatch, m_tryFinal, m_tryEnd, .int 0, m_catchKind, m_catchAt, m_catchSlot, m_catchNext, .int 0, m_seenName, m_seenSlot, m_seenCaught, .int 0, .int 0, m_goalSort, m_goalName, m_goalLoop, m_goalDepth, m_breaks, m_continues, m_broken, m_continued, .int 0, .int 0, .int 0, .int 0, .int 0, m_wallTry, m_wallGoals, .int 0, m_pendGoal, m_pendBreak, m_pendTry, .int 0, m_fk, m_fs, m_fp, m_fq, m_fr, m_fv, m_fw, m_fx, m_fy, m_fz, m_fn, .int 0, .int 0, .int 0, .int 0, .int 0, .int 0, .int 0, m_rowSort, m_rowNumber, m_vals, .int 0, m_thingKind, m_thingNumber, m_suppressedMany, m_suppressedKind, m_suppressedNumber, m_held, .int 0, .int 0, m_vs, .int 0, m_openOf, .int 0, m_waits, .int 0, m_rk, m_ra, m_rb, m_rc, m_rHigh, m_rHow, m_rTo, m_rDepth, m_rValue, m_rThing, .int 0, .int 0, .int 0, .int 0, .int 0, .int 0])), (qt, .inl (kt, 900, .inl (upd f106 (15 : Int32).toNatClampNeg z112)))] H := hP
  have hD : va_D A [(h0, .inr (11, [.int 0, .ref qt, .int 0, .int 4, m_above, m_isNull, m_opening, m_closing, .int 0, m_words, .int 0, .int 0, .int 0, .long 0, .int 0, .int 0, .int 0, .int 0, .int 0, .int 0, .int 0, m_op, m_ix, m_iy, .int 0, m_entryValue, m_entryAt, m_entryNext, m_entryElse, .int 0, m_tryCatch, m_tryFinal, m_tryEnd, .int 0, m_catchKind, m_catchAt, m_catchSlot, m_catchNext, .int 0, m_seenName, m_seenSlot, m_seenCaught, .int 0, .int 0, m_goalSort, m_goalName, m_goalLoop, m_goalDepth, m_breaks, m_continues, m_broken, m_continued, .int 0, .int 0, .int 0, .int 0, .int 0, m_wallTry, m_wallGoals, .int 0, m_pendGoal, m_pendBreak, m_pendTry, .int 0, m_fk, m_fs, m_fp, m_fq, m_fr, m_fv, m_fw, m_fx, m_fy, m_fz, m_fn, .int 0, .int 0, .int 0, .int 0, .int 0, .int 0, .int 0, m_rowSort, m_rowNumber, m_vals, .int 0, m_thingKind, m_thingNumber, m_suppressedMany, m_suppressedKind, m_suppressedNumber, m_held, .int 0, .int 0, m_vs, .int 0, m_openOf, .int 0, m_waits, .int 0, m_rk, m_ra, m_rb, m_rc, m_rHigh, m_rHow, m_rTo, m_rDepth, m_rValue, m_rThing, .int 0, .int 0, .int 0, .int 0, .int 0, .int 0])), (qt, .inl (kt, 900, .inl (upd f106 (15 : Int32).toNatClampNeg z112)))] := hD
  generalize upd f106 (15 : Int32).toNatClampNeg z112 = f113 at hP hD
  refine lv_iinc (v := 16) (lv' := [(6, .int 16), (7, .int d), (0, .ref h0), (1, .int a), (2, .int b), (3, .int c9), (4, .int d), (5, .int e9)]) hx hb dX12_feed_108 hl (k := 1) rfl (by decide) (by decide) rfl (fun ls hl => ?_)
  refine lv_goto (tgt := 24) hx hb dX12_feed_111 (by decide) ?_
  refine lv_iload hx hb dX12_feed_24 (lv_at hl 0 rfl) ?_
  refine lv_bipush (v := 20) hx hb dX12_feed_26 (by decide) ?_
  refine lv_icmp_ge (tgt := 114) hx hb dX12_feed_28 (by decide) (fun c9 => absurd c9 (by decide)) (fun _ => ?_)
  refine lv_iload hx hb dX12_feed_31 (lv_at hl 0 rfl) ?_
  refine lv_iconst (v := 4) hx hb dX12_feed_33 (by decide) ?_
  refine lv_icmp_ge (tgt := 41) hx hb dX12_feed_34 (by decide) (fun _ => ?_) (fun c9 => absurd (by decide) c9)
  refine lv_iload hx hb dX12_feed_41 (lv_at hl 0 rfl) ?_
  refine lv_bipush (v := 8) hx hb dX12_feed_43 (by decide) ?_
  refine lv_icmp_ge (tgt := 52) hx hb dX12_feed_45 (by decide) (fun _ => ?_) (fun c9 => absurd (by decide) c9)
  refine lv_iload hx hb dX12_feed_52 (lv_at hl 0 rfl) ?_
  refine lv_bipush (v := 12) hx hb dX12_feed_54 (by decide) ?_
  refine lv_icmp_ge (tgt := 63) hx hb dX12_feed_56 (by decide) (fun _ => ?_) (fun c9 => absurd (by decide) c9)
  refine lv_iload hx hb dX12_feed_63 (lv_at hl 0 rfl) ?_
  refine lv_bipush (v := 16) hx hb dX12_feed_65 (by decide) ?_
  refine lv_icmp_ge (tgt := 75) hx hb dX12_feed_67 (by decide) (fun _ => ?_) (fun c9 => absurd (by decide) c9)
  refine lv_iload hx hb dX12_feed_75 (lv_at hl 7 rfl) ?_
  refine lv_istore (lv' := [(7, .int e9), (6, .int 16), (0, .ref h0), (1, .int a), (2, .int b), (3, .int c9), (4, .int d), (5, .int e9)]) hx hb dX12_feed_77 hl (by decide) rfl (fun ls hl => ?_)
  refine lv_aload_n hx hb dX12_feed_79 rfl (lv_at hl 2 rfl) ?_
  refine va_get (D := (dC, dI)) (ci := 11) (v := .ref qt) (C := RX12) (T := TX12) (N := 116) hx hb hts i_X12_feed_X12 hown hK hP 0 rfl rfl 1 (by decide) (hts (.fieldLink RX12 7 "StatementRules2Model" "tape" "[I") k_X12_feed_fieldLink_RX12_7_SRModel_tape_I) (fun _ h9 => h9) rfl dX12_feed_80 ?_
  refine lv_aload_n hx hb dX12_feed_83 rfl (lv_at hl 2 rfl) ?_
  refine va_get (D := (dC, dI)) (ci := 11) (v := .int 0) (C := RX12) (T := TX12) (N := 116) hx hb hts i_X12_feed_X12 hown hK hP 0 rfl rfl 2 (by decide) (hts (.fieldLink RX12 276 "StatementRules2Model" "taped" "I") k_X12_feed_fieldLink_RX12_276_SRModel_taped_I) (fun _ h9 => h9) rfl dX12_feed_84 ?_
  refine lv_iload hx hb dX12_feed_87 (lv_at hl 1 rfl) ?_
  refine lv_iadd hx hb dX12_feed_89 ?_
  refine lv_topi (fun z114 ez114 => ?_)
  obtain rfl : z114 = 16 := ez114.trans (by decide)
  refine lv_iload hx hb dX12_feed_90 (lv_at hl 0 rfl) ?_
  refine lv_bipush (v := 24) hx hb dX12_feed_92 (by decide) ?_
  refine lv_bipush (v := 8) hx hb dX12_feed_94 (by decide) ?_
  refine lv_iload hx hb dX12_feed_96 (lv_at hl 1 rfl) ?_
  refine lv_iconst (v := 4) hx hb dX12_feed_98 (by decide) ?_
  refine lv_irem hx hb dX12_feed_99 (by decide) ?_
  refine lv_topi (fun z115 ez115 => ?_)
  obtain rfl : z115 = 0 := ez115.trans (by decide)
  refine lv_imul hx hb dX12_feed_100 ?_
  refine lv_topi (fun z116 ez116 => ?_)
  obtain rfl : z116 = 0 := ez116.trans (by decide)
  refine lv_isub hx hb dX12_feed_101 ?_
  refine lv_topi (fun z117 ez117 => ?_)
  obtain rfl : z117 = 24 := ez117.trans (by decide)
  refine lv_ishr hx hb dX12_feed_102 ?_
  refine lv_topi (fun z118 ez118 => ?_)
  refine lv_sipush (v := 255) hx hb dX12_feed_103 (by decide) ?_
  refine lv_iand hx hb dX12_feed_106 ?_
  refine lv_topi (fun z119 ez119 => ?_)
  refine va_iast hx hb hK hP hD hS 1 0 rfl rfl (by unfold vp_in; decide) dX12_feed_107 (fun H locs hP hD hS => ?_)
  have hP : va_P (dC, dI) vwCl [(h0, .inr (11, [.int 0, .ref qt, .int 0, .int 4, m_above, m_isNull, m_opening, m_closing, .int 0, m_words, .int 0, .int 0, .int 0, .long 0, .int 0, .int 0, .int 0, .int 0, .int 0, .int 0, .int 0, m_op, m_ix, m_iy, .int 0, m_entryValue, m_entryAt, m_entryNext, m_entryElse, .int 0, m_tryCatch, m_tryFinal, m_tryEnd, .int 0, m_catchKind, m_catchAt, m_catchSlot, m_catchNext, .int 0, m_seenName, m_seenSlot, m_seenCaught, .int 0, .int 0, m_goalSort, m_goalName, m_goalLoop, m_goalDepth, m_breaks, m_continues, m_broken, m_continued, .int 0, .int 0, .int 0, .int 0, .int 0, m_wallTry, m_wallGoals, .int 0, m_pendGoal, m_pendBreak, m_pendTry, .int 0, m_fk, m_fs, m_fp, m_fq, m_fr, m_fv, m_fw, m_fx, m_fy, m_fz, m_fn, .int 0, .int 0, .int 0, .int 0, .int 0, .int 0, .int 0, m_rowSort, m_rowNumber, m_vals, .int 0, m_thingKind, m_thingNumber, m_suppressedMany, m_suppressedKind, m_suppressedNumber, m_held, .int 0, .int 0, m_vs, .int 0, m_openOf, .int 0, m_waits, .int 0, m_rk, m_ra, m_rb, m_rc, m_rHigh, m_rHow, m_rTo, m_rDepth, m_rValue, m_rThing, .int 0, .int 0, .int 0, .int 0, .int 0, .int 0])), (qt, .inl (kt, 900, .inl (upd f113 (16 : Int32).toNatClampNeg z119)))] H := hP
  have hD : va_D A [(h0, .inr (11, [.int 0, .ref qt, .int 0, .int 4, m_above, m_isNull, m_opening, m_closing, .int 0, m_words, .int 0, .int 0, .int 0, .long 0, .int 0, .int 0, .int 0, .int 0, .int 0, .int 0, .int 0, m_op, m_ix, m_iy, .int 0, m_entryValue, m_entryAt, m_entryNext, m_entryElse, .int 0, m_tryCatch, m_tryFinal, m_tryEnd, .int 0, m_catchKind, m_catchAt, m_catchSlot, m_catchNext, .int 0, m_seenName, m_seenSlot, m_seenCaught, .int 0, .int 0, m_goalSort, m_goalName, m_goalLoop, m_goalDepth, m_breaks, m_continues, m_broken, m_continued, .int 0, .int 0, .int 0, .int 0, .int 0, m_wallTry, m_wallGoals, .int 0, m_pendGoal, m_pendBreak, m_pendTry, .int 0, m_fk, m_fs, m_fp, m_fq, m_fr, m_fv, m_fw, m_fx, m_fy, m_fz, m_fn, .int 0, .int 0, .int 0, .int 0, .int 0, .int 0, .int 0, m_rowSort, m_rowNumber, m_vals, .int 0, m_thingKind, m_thingNumber, m_suppressedMany, m_suppressedKind, m_suppressedNumber, m_held, .int 0, .int 0, m_vs, .int 0, m_openOf, .int 0, m_waits, .int 0, m_rk, m_ra, m_rb, m_rc, m_rHigh, m_rHow, m_rTo, m_rDepth, m_rValue, m_rThing, .int 0, .int 0, .int 0, .int 0, .int 0, .int 0])), (qt, .inl (kt, 900, .inl (upd f113 (16 : Int32).toNatClampNeg z119)))] := hD
  generalize upd f113 (16 : Int32).toNatClampNeg z119 = f120 at hP hD
  refine lv_iinc (v := 17) (lv' := [(6, .int 17), (7, .int e9), (0, .ref h0), (1, .int a), (2, .int b), (3, .int c9), (4, .int d), (5, .int e9)]) hx hb dX12_feed_108 hl (k := 1) rfl (by decide) (by decide) rfl (fun ls hl => ?_)
  refine lv_goto (tgt := 24) hx hb dX12_feed_111 (by decide) ?_
  refine lv_iload hx hb dX12_feed_24 (lv_at hl 0 rfl) ?_
  refine lv_bipush (v := 20) hx hb dX12_feed_26 (by decide) ?_
  refine lv_icmp_ge (tgt := 114) hx hb dX12_feed_28 (by decide) (fun c9 => absurd c9 (by decide)) (fun _ => ?_)
  refine lv_iload hx hb dX12_feed_31 (lv_at hl 0 rfl) ?_
  refine lv_iconst (v := 4) hx hb dX12_feed_33 (by decide) ?_
  refine lv_icmp_ge (tgt := 41) hx hb dX12_feed_34 (by decide) (fun _ => ?_) (fun c9 => absurd (by decide) c9)
  refine lv_iload hx hb dX12_feed_41 (lv_at hl 0 rfl) ?_
  refine lv_bipush (v := 8) hx hb dX12_feed_43 (by decide) ?_
  refine lv_icmp_ge (tgt := 52) hx hb dX12_feed_45 (by decide) (fun _ => ?_) (fun c9 => absurd (by decide) c9)
  refine lv_iload hx hb dX12_feed_52 (lv_at hl 0 rfl) ?_
  refine lv_bipush (v := 12) hx hb dX12_feed_54 (by decide) ?_
  refine lv_icmp_ge (tgt := 63) hx hb dX12_feed_56 (by decide) (fun _ => ?_) (fun c9 => absurd (by decide) c9)
  refine lv_iload hx hb dX12_feed_63 (lv_at hl 0 rfl) ?_
  refine lv_bipush (v := 16) hx hb dX12_feed_65 (by decide) ?_
  refine lv_icmp_ge (tgt := 75) hx hb dX12_feed_67 (by decide) (fun _ => ?_) (fun c9 => absurd (by decide) c9)
  refine lv_iload hx hb dX12_feed_75 (lv_at hl 7 rfl) ?_
  refine lv_istore (lv' := [(7, .int e9), (6, .int 17), (0, .ref h0), (1, .int a), (2, .int b), (3, .int c9), (4, .int d), (5, .int e9)]) hx hb dX12_feed_77 hl (by decide) rfl (fun ls hl => ?_)
  refine lv_aload_n hx hb dX12_feed_79 rfl (lv_at hl 2 rfl) ?_
  refine va_get (D := (dC, dI)) (ci := 11) (v := .ref qt) (C := RX12) (T := TX12) (N := 116) hx hb hts i_X12_feed_X12 hown hK hP 0 rfl rfl 1 (by decide) (hts (.fieldLink RX12 7 "StatementRules2Model" "tape" "[I") k_X12_feed_fieldLink_RX12_7_SRModel_tape_I) (fun _ h9 => h9) rfl dX12_feed_80 ?_
  refine lv_aload_n hx hb dX12_feed_83 rfl (lv_at hl 2 rfl) ?_
  refine va_get (D := (dC, dI)) (ci := 11) (v := .int 0) (C := RX12) (T := TX12) (N := 116) hx hb hts i_X12_feed_X12 hown hK hP 0 rfl rfl 2 (by decide) (hts (.fieldLink RX12 276 "StatementRules2Model" "taped" "I") k_X12_feed_fieldLink_RX12_276_SRModel_taped_I) (fun _ h9 => h9) rfl dX12_feed_84 ?_
  refine lv_iload hx hb dX12_feed_87 (lv_at hl 1 rfl) ?_
  refine lv_iadd hx hb dX12_feed_89 ?_
  refine lv_topi (fun z121 ez121 => ?_)
  obtain rfl : z121 = 17 := ez121.trans (by decide)
  refine lv_iload hx hb dX12_feed_90 (lv_at hl 0 rfl) ?_
  refine lv_bipush (v := 24) hx hb dX12_feed_92 (by decide) ?_
  refine lv_bipush (v := 8) hx hb dX12_feed_94 (by decide) ?_
  refine lv_iload hx hb dX12_feed_96 (lv_at hl 1 rfl) ?_
  refine lv_iconst (v := 4) hx hb dX12_feed_98 (by decide) ?_
  refine lv_irem hx hb dX12_feed_99 (by decide) ?_
  refine lv_topi (fun z122 ez122 => ?_)
  obtain rfl : z122 = 1 := ez122.trans (by decide)
  refine lv_imul hx hb dX12_feed_100 ?_
  refine lv_topi (fun z123 ez123 => ?_)
  obtain rfl : z123 = 8 := ez123.trans (by decide)
  refine lv_isub hx hb dX12_feed_101 ?_
  refine lv_topi (fun z124 ez124 => ?_)
  obtain rfl : z124 = 16 := ez124.trans (by decide)
  refine lv_ishr hx hb dX12_feed_102 ?_
  refine lv_topi (fun z125 ez125 => ?_)
  refine lv_sipush (v := 255) hx hb dX12_feed_103 (by decide) ?_
  refine lv_iand hx hb dX12_feed_106 ?_
  refine lv_topi (fun z126 ez126 => ?_)
  refine va_iast hx hb hK hP hD hS 1 0 rfl rfl (by unfold vp_in; decide) dX12_feed_107 (fun H locs hP hD hS => ?_)
  have hP : va_P (dC, dI) vwCl [(h0, .inr (11, [.int 0, .ref qt, .int 0, .int 4, m_above, m_isNull, m_opening, m_closing, .int 0, m_words, .int 0, .int 0, .int 0, .long 0, .int 0, .int 0, .int 0, .int 0, .int 0, .int 0, .int 0, m_op, m_ix, m_iy, .int 0, m_entryValue, m_entryAt, m_entryNext, m_entryElse, .int 0, m_tryCatch, m_tryFinal, m_tryEnd, .int 0, m_catchKind, m_catchAt, m_catchSlot, m_catchNext, .int 0, m_seenName, m_seenSlot, m_seenCaught, .int 0, .int 0, m_goalSort, m_goalName, m_goalLoop, m_goalDepth, m_breaks, m_continues, m_broken, m_continued, .int 0, .int 0, .int 0, .int 0, .int 0, m_wallTry, m_wallGoals, .int 0, m_pendGoal, m_pendBreak, m_pendTry, .int 0, m_fk, m_fs, m_fp, m_fq, m_fr, m_fv, m_fw, m_fx, m_fy, m_fz, m_fn, .int 0, .int 0, .int 0, .int 0, .int 0, .int 0, .int 0, m_rowSort, m_rowNumber, m_vals, .int 0, m_thingKind, m_thingNumber, m_suppressedMany, m_suppressedKind, m_suppressedNumber, m_held, .int 0, .int 0, m_vs, .int 0, m_openOf, .int 0, m_waits, .int 0, m_rk, m_ra, m_rb, m_rc, m_rHigh, m_rHow, m_rTo, m_rDepth, m_rValue, m_rThing, .int 0, .int 0, .int 0, .int 0, .int 0, .int 0])), (qt, .inl (kt, 900, .inl (upd f120 (17 : Int32).toNatClampNeg z126)))] H := hP
  have hD : va_D A [(h0, .inr (11, [.int 0, .ref qt, .int 0, .int 4, m_above, m_isNull, m_opening, m_closing, .int 0, m_words, .int 0, .int 0, .int 0, .long 0, .int 0, .int 0, .int 0, .int 0, .int 0, .int 0, .int 0, m_op, m_ix, m_iy, .int 0, m_entryValue, m_entryAt, m_entryNext, m_entryElse, .int 0, m_tryCatch, m_tryFinal, m_tryEnd, .int 0, m_catchKind, m_catchAt, m_catchSlot, m_catchNext, .int 0, m_seenName, m_seenSlot, m_seenCaught, .int 0, .int 0, m_goalSort, m_goalName, m_goalLoop, m_goalDepth, m_breaks, m_continues, m_broken, m_continued, .int 0, .int 0, .int 0, .int 0, .int 0, m_wallTry, m_wallGoals, .int 0, m_pendGoal, m_pendBreak, m_pendTry, .int 0, m_fk, m_fs, m_fp, m_fq, m_fr, m_fv, m_fw, m_fx, m_fy, m_fz, m_fn, .int 0, .int 0, .int 0, .int 0, .int 0, .int 0, .int 0, m_rowSort, m_rowNumber, m_vals, .int 0, m_thingKind, m_thingNumber, m_suppressedMany, m_suppressedKind, m_suppressedNumber, m_held, .int 0, .int 0, m_vs, .int 0, m_openOf, .int 0, m_waits, .int 0, m_rk, m_ra, m_rb, m_rc, m_rHigh, m_rHow, m_rTo, m_rDepth, m_rValue, m_rThing, .int 0, .int 0, .int 0, .int 0, .int 0, .int 0])), (qt, .inl (kt, 900, .inl (upd f120 (17 : Int32).toNatClampNeg z126)))] := hD
  generalize upd f120 (17 : Int32).toNatClampNeg z126 = f127 at hP hD
  refine lv_iinc (v := 18) (lv' := [(6, .int 18), (7, .int e9), (0, .ref h0), (1, .int a), (2, .int b), (3, .int c9), (4, .int d), (5, .int e9)]) hx hb dX12_feed_108 hl (k := 1) rfl (by decide) (by decide) rfl (fun ls hl => ?_)
  refine lv_goto (tgt := 24) hx hb dX12_feed_111 (by decide) ?_
  refine lv_iload hx hb dX12_feed_24 (lv_at hl 0 rfl) ?_
  refine lv_bipush (v := 20) hx hb dX12_feed_26 (by decide) ?_
  refine lv_icmp_ge (tgt := 114) hx hb dX12_feed_28 (by decide) (fun c9 => absurd c9 (by decide)) (fun _ => ?_)
  refine lv_iload hx hb dX12_feed_31 (lv_at hl 0 rfl) ?_
  refine lv_iconst (v := 4) hx hb dX12_feed_33 (by decide) ?_
  refine lv_icmp_ge (tgt := 41) hx hb dX12_feed_34 (by decide) (fun _ => ?_) (fun c9 => absurd (by decide) c9)
  refine lv_iload hx hb dX12_feed_41 (lv_at hl 0 rfl) ?_
  refine lv_bipush (v := 8) hx hb dX12_feed_43 (by decide) ?_
  refine lv_icmp_ge (tgt := 52) hx hb dX12_feed_45 (by decide) (fun _ => ?_) (fun c9 => absurd (by decide) c9)
  refine lv_iload hx hb dX12_feed_52 (lv_at hl 0 rfl) ?_
  refine lv_bipush (v := 12) hx hb dX12_feed_54 (by decide) ?_
  refine lv_icmp_ge (tgt := 63) hx hb dX12_feed_56 (by decide) (fun _ => ?_) (fun c9 => absurd (by decide) c9)
  refine lv_iload hx hb dX12_feed_63 (lv_at hl 0 rfl) ?_
  refine lv_bipush (v := 16) hx hb dX12_feed_65 (by decide) ?_
  refine lv_icmp_ge (tgt := 75) hx hb dX12_feed_67 (by decide) (fun _ => ?_) (fun c9 => absurd (by decide) c9)
  refine lv_iload hx hb dX12_feed_75 (lv_at hl 7 rfl) ?_
  refine lv_istore (lv' := [(7, .int e9), (6, .int 18), (0, .ref h0), (1, .int a), (2, .int b), (3, .int c9), (4, .int d), (5, .int e9)]) hx hb dX12_feed_77 hl (by decide) rfl (fun ls hl => ?_)
  refine lv_aload_n hx hb dX12_feed_79 rfl (lv_at hl 2 rfl) ?_
  refine va_get (D := (dC, dI)) (ci := 11) (v := .ref qt) (C := RX12) (T := TX12) (N := 116) hx hb hts i_X12_feed_X12 hown hK hP 0 rfl rfl 1 (by decide) (hts (.fieldLink RX12 7 "StatementRules2Model" "tape" "[I") k_X12_feed_fieldLink_RX12_7_SRModel_tape_I) (fun _ h9 => h9) rfl dX12_feed_80 ?_
  refine lv_aload_n hx hb dX12_feed_83 rfl (lv_at hl 2 rfl) ?_
  refine va_get (D := (dC, dI)) (ci := 11) (v := .int 0) (C := RX12) (T := TX12) (N := 116) hx hb hts i_X12_feed_X12 hown hK hP 0 rfl rfl 2 (by decide) (hts (.fieldLink RX12 276 "StatementRules2Model" "taped" "I") k_X12_feed_fieldLink_RX12_276_SRModel_taped_I) (fun _ h9 => h9) rfl dX12_feed_84 ?_
  refine lv_iload hx hb dX12_feed_87 (lv_at hl 1 rfl) ?_
  refine lv_iadd hx hb dX12_feed_89 ?_
  refine lv_topi (fun z128 ez128 => ?_)
  obtain rfl : z128 = 18 := ez128.trans (by decide)
  refine lv_iload hx hb dX12_feed_90 (lv_at hl 0 rfl) ?_
  refine lv_bipush (v := 24) hx hb dX12_feed_92 (by decide) ?_
  refine lv_bipush (v := 8) hx hb dX12_feed_94 (by decide) ?_
  refine lv_iload hx hb dX12_feed_96 (lv_at hl 1 rfl) ?_
  refine lv_iconst (v := 4) hx hb dX12_feed_98 (by decide) ?_
  refine lv_irem hx hb dX12_feed_99 (by decide) ?_
  refine lv_topi (fun z129 ez129 => ?_)
  obtain rfl : z129 = 2 := ez129.trans (by decide)
  refine lv_imul hx hb dX12_feed_100 ?_
  refine lv_topi (fun z130 ez130 => ?_)
  obtain rfl : z130 = 16 := ez130.trans (by decide)
  refine lv_isub hx hb dX12_feed_101 ?_
  refine lv_topi (fun z131 ez131 => ?_)
  obtain rfl : z131 = 8 := ez131.trans (by decide)
  refine lv_ishr hx hb dX12_feed_102 ?_
  refine lv_topi (fun z132 ez132 => ?_)
  refine lv_sipush (v := 255) hx hb dX12_feed_103 (by decide) ?_
  refine lv_iand hx hb dX12_feed_106 ?_
  refine lv_topi (fun z133 ez133 => ?_)
  refine va_iast hx hb hK hP hD hS 1 0 rfl rfl (by unfold vp_in; decide) dX12_feed_107 (fun H locs hP hD hS => ?_)
  have hP : va_P (dC, dI) vwCl [(h0, .inr (11, [.int 0, .ref qt, .int 0, .int 4, m_above, m_isNull, m_opening, m_closing, .int 0, m_words, .int 0, .int 0, .int 0, .long 0, .int 0, .int 0, .int 0, .int 0, .int 0, .int 0, .int 0, m_op, m_ix, m_iy, .int 0, m_entryValue, m_entryAt, m_entryNext, m_entryElse, .int 0, m_tryCatch, m_tryFinal, m_tryEnd, .int 0, m_catchKind, m_catchAt, m_catchSlot, m_catchNext, .int 0, m_seenName, m_seenSlot, m_seenCaught, .int 0, .int 0, m_goalSort, m_goalName, m_goalLoop, m_goalDepth, m_breaks, m_continues, m_broken, m_continued, .int 0, .int 0, .int 0, .int 0, .int 0, m_wallTry, m_wallGoals, .int 0, m_pendGoal, m_pendBreak, m_pendTry, .int 0, m_fk, m_fs, m_fp, m_fq, m_fr, m_fv, m_fw, m_fx, m_fy, m_fz, m_fn, .int 0, .int 0, .int 0, .int 0, .int 0, .int 0, .int 0, m_rowSort, m_rowNumber, m_vals, .int 0, m_thingKind, m_thingNumber, m_suppressedMany, m_suppressedKind, m_suppressedNumber, m_held, .int 0, .int 0, m_vs, .int 0, m_openOf, .int 0, m_waits, .int 0, m_rk, m_ra, m_rb, m_rc, m_rHigh, m_rHow, m_rTo, m_rDepth, m_rValue, m_rThing, .int 0, .int 0, .int 0, .int 0, .int 0, .int 0])), (qt, .inl (kt, 900, .inl (upd f127 (18 : Int32).toNatClampNeg z133)))] H := hP
  have hD : va_D A [(h0, .inr (11, [.int 0, .ref qt, .int 0, .int 4, m_above, m_isNull, m_opening, m_closing, .int 0, m_words, .int 0, .int 0, .int 0, .long 0, .int 0, .int 0, .int 0, .int 0, .int 0, .int 0, .int 0, m_op, m_ix, m_iy, .int 0, m_entryValue, m_entryAt, m_entryNext, m_entryElse, .int 0, m_tryCatch, m_tryFinal, m_tryEnd, .int 0, m_catchKind, m_catchAt, m_catchSlot, m_catchNext, .int 0, m_seenName, m_seenSlot, m_seenCaught, .int 0, .int 0, m_goalSort, m_goalName, m_goalLoop, m_goalDepth, m_breaks, m_continues, m_broken, m_continued, .int 0, .int 0, .int 0, .int 0, .int 0, m_wallTry, m_wallGoals, .int 0, m_pendGoal, m_pendBreak, m_pendTry, .int 0, m_fk, m_fs, m_fp, m_fq, m_fr, m_fv, m_fw, m_fx, m_fy, m_fz, m_fn, .int 0, .int 0, .int 0, .int 0, .int 0, .int 0, .int 0, m_rowSort, m_rowNumber, m_vals, .int 0, m_thingKind, m_thingNumber, m_suppressedMany, m_suppressedKind, m_suppressedNumber, m_held, .int 0, .int 0, m_vs, .int 0, m_openOf, .int 0, m_waits, .int 0, m_rk, m_ra, m_rb, m_rc, m_rHigh, m_rHow, m_rTo, m_rDepth, m_rValue, m_rThing, .int 0, .int 0, .int 0, .int 0, .int 0, .int 0])), (qt, .inl (kt, 900, .inl (upd f127 (18 : Int32).toNatClampNeg z133)))] := hD
  generalize upd f127 (18 : Int32).toNatClampNeg z133 = f134 at hP hD
  refine lv_iinc (v := 19) (lv' := [(6, .int 19), (7, .int e9), (0, .ref h0), (1, .int a), (2, .int b), (3, .int c9), (4, .int d), (5, .int e9)]) hx hb dX12_feed_108 hl (k := 1) rfl (by decide) (by decide) rfl (fun ls hl => ?_)
  refine lv_goto (tgt := 24) hx hb dX12_feed_111 (by decide) ?_
  refine lv_iload hx hb dX12_feed_24 (lv_at hl 0 rfl) ?_
  refine lv_bipush (v := 20) hx hb dX12_feed_26 (by decide) ?_
  refine lv_icmp_ge (tgt := 114) hx hb dX12_feed_28 (by decide) (fun c9 => absurd c9 (by decide)) (fun _ => ?_)
  refine lv_iload hx hb dX12_feed_31 (lv_at hl 0 rfl) ?_
  refine lv_iconst (v := 4) hx hb dX12_feed_33 (by decide) ?_
  refine lv_icmp_ge (tgt := 41) hx hb dX12_feed_34 (by decide) (fun _ => ?_) (fun c9 => absurd (by decide) c9)
  refine lv_iload hx hb dX12_feed_41 (lv_at hl 0 rfl) ?_
  refine lv_bipush (v := 8) hx hb dX12_feed_43 (by decide) ?_
  refine lv_icmp_ge (tgt := 52) hx hb dX12_feed_45 (by decide) (fun _ => ?_) (fun c9 => absurd (by decide) c9)
  refine lv_iload hx hb dX12_feed_52 (lv_at hl 0 rfl) ?_
  refine lv_bipush (v := 12) hx hb dX12_feed_54 (by decide) ?_
  refine lv_icmp_ge (tgt := 63) hx hb dX12_feed_56 (by decide) (fun _ => ?_) (fun c9 => absurd (by decide) c9)
  refine lv_iload hx hb dX12_feed_63 (lv_at hl 0 rfl) ?_
  refine lv_bipush (v := 16) hx hb dX12_feed_65 (by decide) ?_
  refine lv_icmp_ge (tgt := 75) hx hb dX12_feed_67 (by decide) (fun _ => ?_) (fun c9 => absurd (by decide) c9)
  refine lv_iload hx hb dX12_feed_75 (lv_at hl 7 rfl) ?_
  refine lv_istore (lv' := [(7, .int e9), (6, .int 19), (0, .ref h0), (1, .int a), (2, .int b), (3, .int c9), (4, .int d), (5, .int e9)]) hx hb dX12_feed_77 hl (by decide) rfl (fun ls hl => ?_)
  refine lv_aload_n hx hb dX12_feed_79 rfl (lv_at hl 2 rfl) ?_
  refine va_get (D := (dC, dI)) (ci := 11) (v := .ref qt) (C := RX12) (T := TX12) (N := 116) hx hb hts i_X12_feed_X12 hown hK hP 0 rfl rfl 1 (by decide) (hts (.fieldLink RX12 7 "StatementRules2Model" "tape" "[I") k_X12_feed_fieldLink_RX12_7_SRModel_tape_I) (fun _ h9 => h9) rfl dX12_feed_80 ?_
  refine lv_aload_n hx hb dX12_feed_83 rfl (lv_at hl 2 rfl) ?_
  refine va_get (D := (dC, dI)) (ci := 11) (v := .int 0) (C := RX12) (T := TX12) (N := 116) hx hb hts i_X12_feed_X12 hown hK hP 0 rfl rfl 2 (by decide) (hts (.fieldLink RX12 276 "StatementRules2Model" "taped" "I") k_X12_feed_fieldLink_RX12_276_SRModel_taped_I) (fun _ h9 => h9) rfl dX12_feed_84 ?_
  refine lv_iload hx hb dX12_feed_87 (lv_at hl 1 rfl) ?_
  refine lv_iadd hx hb dX12_feed_89 ?_
  refine lv_topi (fun z135 ez135 => ?_)
  obtain rfl : z135 = 19 := ez135.trans (by decide)
  refine lv_iload hx hb dX12_feed_90 (lv_at hl 0 rfl) ?_
  refine lv_bipush (v := 24) hx hb dX12_feed_92 (by decide) ?_
  refine lv_bipush (v := 8) hx hb dX12_feed_94 (by decide) ?_
  refine lv_iload hx hb dX12_feed_96 (lv_at hl 1 rfl) ?_
  refine lv_iconst (v := 4) hx hb dX12_feed_98 (by decide) ?_
  refine lv_irem hx hb dX12_feed_99 (by decide) ?_
  refine lv_topi (fun z136 ez136 => ?_)
  obtain rfl : z136 = 3 := ez136.trans (by decide)
  refine lv_imul hx hb dX12_feed_100 ?_
  refine lv_topi (fun z137 ez137 => ?_)
  obtain rfl : z137 = 24 := ez137.trans (by decide)
  refine lv_isub hx hb dX12_feed_101 ?_
  refine lv_topi (fun z138 ez138 => ?_)
  obtain rfl : z138 = 0 := ez138.trans (by decide)
  refine lv_ishr hx hb dX12_feed_102 ?_
  refine lv_topi (fun z139 ez139 => ?_)
  refine lv_sipush (v := 255) hx hb dX12_feed_103 (by decide) ?_
  refine lv_iand hx hb dX12_feed_106 ?_
  refine lv_topi (fun z140 ez140 => ?_)
  refine va_iast hx hb hK hP hD hS 1 0 rfl rfl (by unfold vp_in; decide) dX12_feed_107 (fun H locs hP hD hS => ?_)
  have hP : va_P (dC, dI) vwCl [(h0, .inr (11, [.int 0, .ref qt, .int 0, .int 4, m_above, m_isNull, m_opening, m_closing, .int 0, m_words, .int 0, .int 0, .int 0, .long 0, .int 0, .int 0, .int 0, .int 0, .int 0, .int 0, .int 0, m_op, m_ix, m_iy, .int 0, m_entryValue, m_entryAt, m_entryNext, m_entryElse, .int 0, m_tryCatch, m_tryFinal, m_tryEnd, .int 0, m_catchKind, m_catchAt, m_catchSlot, m_catchNext, .int 0, m_seenName, m_seenSlot, m_seenCaught, .int 0, .int 0, m_goalSort, m_goalName, m_goalLoop, m_goalDepth, m_breaks, m_continues, m_broken, m_continued, .int 0, .int 0, .int 0, .int 0, .int 0, m_wallTry, m_wallGoals, .int 0, m_pendGoal, m_pendBreak, m_pendTry, .int 0, m_fk, m_fs, m_fp, m_fq, m_fr, m_fv, m_fw, m_fx, m_fy, m_fz, m_fn, .int 0, .int 0, .int 0, .int 0, .int 0, .int 0, .int 0, m_rowSort, m_rowNumber, m_vals, .int 0, m_thingKind, m_thingNumber, m_suppressedMany, m_suppressedKind, m_suppressedNumber, m_held, .int 0, .int 0, m_vs, .int 0, m_openOf, .int 0, m_waits, .int 0, m_rk, m_ra, m_rb, m_rc, m_rHigh, m_rHow, m_rTo, m_rDepth, m_rValue, m_rThing, .int 0, .int 0, .int 0, .int 0, .int 0, .int 0])), (qt, .inl (kt, 900, .inl (upd f134 (19 : Int32).toNatClampNeg z140)))] H := hP
  have hD : va_D A [(h0, .inr (11, [.int 0, .ref qt, .int 0, .int 4, m_above, m_isNull, m_opening, m_closing, .int 0, m_words, .int 0, .int 0, .int 0, .long 0, .int 0, .int 0, .int 0, .int 0, .int 0, .int 0, .int 0, m_op, m_ix, m_iy, .int 0, m_entryValue, m_entryAt, m_entryNext, m_entryElse, .int 0, m_tryCatch, m_tryFinal, m_tryEnd, .int 0, m_catchKind, m_catchAt, m_catchSlot, m_catchNext, .int 0, m_seenName, m_seenSlot, m_seenCaught, .int 0, .int 0, m_goalSort, m_goalName, m_goalLoop, m_goalDepth, m_breaks, m_continues, m_broken, m_continued, .int 0, .int 0, .int 0, .int 0, .int 0, m_wallTry, m_wallGoals, .int 0, m_pendGoal, m_pendBreak, m_pendTry, .int 0, m_fk, m_fs, m_fp, m_fq, m_fr, m_fv, m_fw, m_fx, m_fy, m_fz, m_fn, .int 0, .int 0, .int 0, .int 0, .int 0, .int 0, .int 0, m_rowSort, m_rowNumber, m_vals, .int 0, m_thingKind, m_thingNumber, m_suppressedMany, m_suppressedKind, m_suppressedNumber, m_held, .int 0, .int 0, m_vs, .int 0, m_openOf, .int 0, m_waits, .int 0, m_rk, m_ra, m_rb, m_rc, m_rHigh, m_rHow, m_rTo, m_rDepth, m_rValue, m_rThing, .int 0, .int 0, .int 0, .int 0, .int 0, .int 0])), (qt, .inl (kt, 900, .inl (upd f134 (19 : Int32).toNatClampNeg z140)))] := hD
  generalize upd f134 (19 : Int32).toNatClampNeg z140 = f141 at hP hD
  refine lv_iinc (v := 20) (lv' := [(6, .int 20), (7, .int e9), (0, .ref h0), (1, .int a), (2, .int b), (3, .int c9), (4, .int d), (5, .int e9)]) hx hb dX12_feed_108 hl (k := 1) rfl (by decide) (by decide) rfl (fun ls hl => ?_)
  refine lv_goto (tgt := 24) hx hb dX12_feed_111 (by decide) ?_
  refine lv_iload hx hb dX12_feed_24 (lv_at hl 0 rfl) ?_
  refine lv_bipush (v := 20) hx hb dX12_feed_26 (by decide) ?_
  refine lv_icmp_ge (tgt := 114) hx hb dX12_feed_28 (by decide) (fun _ => ?_) (fun c9 => absurd (by decide) c9)
  refine lv_aload_n hx hb dX12_feed_114 rfl (lv_at hl 2 rfl) ?_
  refine lv_dup hx hb dX12_feed_115 rfl ?_
  refine va_get (D := (dC, dI)) (ci := 11) (v := .int 0) (C := RX12) (T := TX12) (N := 116) hx hb hts i_X12_feed_X12 hown hK hP 0 rfl rfl 2 (by decide) (hts (.fieldLink RX12 276 "StatementRules2Model" "taped" "I") k_X12_feed_fieldLink_RX12_276_SRModel_taped_I) (fun _ h9 => h9) rfl dX12_feed_116 ?_
  refine lv_bipush (v := 20) hx hb dX12_feed_119 (by decide) ?_
  refine lv_iadd hx hb dX12_feed_121 ?_
  refine lv_topi (fun z142 ez142 => ?_)
  obtain rfl : z142 = 20 := ez142.trans (by decide)
  refine va_put (D := (dC, dI)) (ci := 11) (v := .int 20) (ty := .int) (C := RX12) (T := TX12) (N := 116) hx hb hts i_X12_feed_X12 tyX12 tyX12_ok nmX12 hown hK hP hD hS 0 rfl rfl 2 (by decide) (hts (.fieldLink RX12 276 "StatementRules2Model" "taped" "I") k_X12_feed_fieldLink_RX12_276_SRModel_taped_I) (fun _ h9 => h9) rfl (by decide +kernel) rfl rfl (Nat.le_of_ble_eq_true rfl) dX12_feed_122 (fun H locs hP hD hS => ?_)
  have hP : va_P (dC, dI) vwCl [(h0, .inr (11, [.int 0, .ref qt, .int 20, .int 4, m_above, m_isNull, m_opening, m_closing, .int 0, m_words, .int 0, .int 0, .int 0, .long 0, .int 0, .int 0, .int 0, .int 0, .int 0, .int 0, .int 0, m_op, m_ix, m_iy, .int 0, m_entryValue, m_entryAt, m_entryNext, m_entryElse, .int 0, m_tryCatch, m_tryFinal, m_tryEnd, .int 0, m_catchKind, m_catchAt, m_catchSlot, m_catchNext, .int 0, m_seenName, m_seenSlot, m_seenCaught, .int 0, .int 0, m_goalSort, m_goalName, m_goalLoop, m_goalDepth, m_breaks, m_continues, m_broken, m_continued, .int 0, .int 0, .int 0, .int 0, .int 0, m_wallTry, m_wallGoals, .int 0, m_pendGoal, m_pendBreak, m_pendTry, .int 0, m_fk, m_fs, m_fp, m_fq, m_fr, m_fv, m_fw, m_fx, m_fy, m_fz, m_fn, .int 0, .int 0, .int 0, .int 0, .int 0, .int 0, .int 0, m_rowSort, m_rowNumber, m_vals, .int 0, m_thingKind, m_thingNumber, m_suppressedMany, m_suppressedKind, m_suppressedNumber, m_held, .int 0, .int 0, m_vs, .int 0, m_openOf, .int 0, m_waits, .int 0, m_rk, m_ra, m_rb, m_rc, m_rHigh, m_rHow, m_rTo, m_rDepth, m_rValue, m_rThing, .int 0, .int 0, .int 0, .int 0, .int 0, .int 0])), (qt, .inl (kt, 900, .inl f141))] H := hP
  have hD : va_D A [(h0, .inr (11, [.int 0, .ref qt, .int 20, .int 4, m_above, m_isNull, m_opening, m_closing, .int 0, m_words, .int 0, .int 0, .int 0, .long 0, .int 0, .int 0, .int 0, .int 0, .int 0, .int 0, .int 0, m_op, m_ix, m_iy, .int 0, m_entryValue, m_entryAt, m_entryNext, m_entryElse, .int 0, m_tryCatch, m_tryFinal, m_tryEnd, .int 0, m_catchKind, m_catchAt, m_catchSlot, m_catchNext, .int 0, m_seenName, m_seenSlot, m_seenCaught, .int 0, .int 0, m_goalSort, m_goalName, m_goalLoop, m_goalDepth, m_breaks, m_continues, m_broken, m_continued, .int 0, .int 0, .int 0, .int 0, .int 0, m_wallTry, m_wallGoals, .int 0, m_pendGoal, m_pendBreak, m_pendTry, .int 0, m_fk, m_fs, m_fp, m_fq, m_fr, m_fv, m_fw, m_fx, m_fy, m_fz, m_fn, .int 0, .int 0, .int 0, .int 0, .int 0, .int 0, .int 0, m_rowSort, m_rowNumber, m_vals, .int 0, m_thingKind, m_thingNumber, m_suppressedMany, m_suppressedKind, m_suppressedNumber, m_held, .int 0, .int 0, m_vs, .int 0, m_openOf, .int 0, m_waits, .int 0, m_rk, m_ra, m_rb, m_rc, m_rHigh, m_rHow, m_rTo, m_rDepth, m_rValue, m_rThing, .int 0, .int 0, .int 0, .int 0, .int 0, .int 0])), (qt, .inl (kt, 900, .inl f141))] := hD
  refine lv_aload_n hx hb dX12_feed_125 rfl (lv_at hl 2 rfl) ?_
  refine va_get (D := (dC, dI)) (ci := 11) (v := .int 20) (C := RX12) (T := TX12) (N := 116) hx hb hts i_X12_feed_X12 hown hK hP 0 rfl rfl 2 (by decide) (hts (.fieldLink RX12 276 "StatementRules2Model" "taped" "I") k_X12_feed_fieldLink_RX12_276_SRModel_taped_I) (fun _ h9 => h9) rfl dX12_feed_126 ?_
  have hP9 := hP.sub (ws' := []) [] rfl
  have hD9 := hD.sub (ws' := []) [] (by decide) rfl
  have hK9 := hK.sub (tys' := []) [] rfl
  exact W.iret (v := 20) hx hb hr (fun t ht hW => ⟨⟨20, (), rfl, rfl, by rw [ht]; exact hP9, va_K.moved hW.alike hK9, hD9⟩, hS.F ht⟩) hS.2.2 dX12_feed_129
