theorem k_X1_condition_fieldLink_RX1_22_SR_Formulas_code_LSR_Code : Cond.fieldLink RX1 22 "StatementRules2$Formulas" "code" "LStatementRules2$Code;" ∈ wzX1_condition := List.mem_cons_of_mem _ (List.mem_append_right _ (List.mem_append_right _ (List.mem_append_right _ (List.mem_append_right _ (List.mem_append_left _ (List.mem_of_getElem? (i := 0) rfl))))))
theorem i_X1_condition_X7 : ∀ w ∈ wsX70, w ∈ wzX1_condition := fun _ h => List.mem_cons_of_mem _ (List.mem_append_right _ (List.mem_append_right _ (List.mem_append_right _ (List.mem_append_right _ (List.mem_append_right _ (List.mem_append_right _ (List.mem_append_right _ (List.mem_append_right _ (List.mem_append_right _ (List.mem_append_right _ (List.mem_append_right _ (List.mem_append_right _ (List.mem_append_right _ (List.mem_append_right _ (List.mem_append_right _ (List.mem_append_right _ (List.mem_append_right _ (List.mem_append_right _ (List.mem_append_right _ (List.mem_append_right _ (List.mem_append_right _ (List.mem_append_right _ (List.mem_append_right _ (List.mem_append_right _ (List.mem_append_right _ (List.mem_append_right _ (List.mem_append_right _ (List.mem_append_right _ (List.mem_append_right _ (List.mem_append_right _ (List.mem_append_right _ (List.mem_append_right _ (List.mem_append_right _ (List.mem_append_right _ (List.mem_append_right _ (List.mem_append_right _ (List.mem_append_left _ (h))))))))))))))))))))))))))))))))))))))
set_option maxHeartbeats 4000000 in
set_option maxRecDepth 100000 in
theorem j_X1_condition_65 {p : Program} {e : Env} {s : State} {m : MethodId} {args : Array Value} {below : List Frame} {meth : Method} {c : Code} {A : Nat → Prop} (l : Launch) (dC : Nat → ClassId) (dI : Nat → Nat → Nat) (Q : CQ) (N : Nat) (d : Nat) (E1 : CS → Option (Unit × CS)) (E2 : CS → Option (Int32 × CS)) (hE1 : cMF l dC dI Q d E1) (hE2 : cMO l dC dI Q d E2) (hm1 : ∀ σ, Mono (CS.hs σ) (E1 σ)) (hm2 : ∀ σ, Mono (CS.hs σ) (E2 σ)) (z9h : Nat) (R : Int32 × CS) (hx : p.tables.exec = Jvm.exec) (hb : c.code = cX1_condition) (hr : meth.sig.returnType = (some .boolean)) (hml : c.maxLocals = 4) (hown : s.vm.findClass RX1 = some m.cls) (hts : ∀ w ∈ wzX1_condition, w.before args s = true) (hlocks : meth.locks = false) (hZ : zAMB s) (hA : ∀ q : Nat, s.heap.size ≤ q → A q) (hK : va_K (dC, dI) vwCl (cT Q) s) : ∀ (σ : CS) (x2 : Int32) (H : Heap) (locs : List Loc) (ls : Array Slot), f_X1_condition_65 N E1 E2 σ x2 = some R → z9h ≤ CS.hs σ → CP dC dI Q A s.heap σ H locs → lv_has ls 4 [(0, .ref (Q.o 3)), (2, .int x2)] → W p l e ({ frames := (12 + 40 * d), cells := CS.hs R.2 - z9h, slots := 17 * (CS.hs R.2 - z9h), locals := 60 * (12 + 40 * d) }) s m args below meth c H locs (CS.hs σ - z9h) (17 * (CS.hs σ - z9h)) (MQ below (va_Qi (fun (r : Int32) (_ : Unit) => r = R.1) (fun (_ : Unit) (t : State) => zPost dC dI A (cW Q R.2) (cT Q) t ∧ t.heap.size = CS.hs R.2) A) args s (CS.hs R.2 - z9h) (17 * (CS.hs R.2 - z9h)) A) (F0 m 65 ls []) := by
  intro σ x2 H locs ls hf h0 hC hl
  unfold f_X1_condition_65 at hf
  refine lv_aload_n hx hb dX1_condition_65 rfl (lv_at hl 0 rfl) ?_
  refine cG_29 hx hb hts i_X1_condition_X7 hown hK hC (hts (.fieldLink RX1 22 "StatementRules2$Formulas" "code" "LStatementRules2$Code;") k_X1_condition_fieldLink_RX1_22_SR_Formulas_code_LSR_Code) (fun _ q9 => q9) dX1_condition_66 ?_
  refine lv_iload_n hx hb dX1_condition_69 rfl (lv_at hl 1 rfl) ?_
  obtain ⟨p15, hcp15, hf⟩ := hf_bind hf
  have mo16 : CS.hs σ ≤ CS.hs p15.2 := Mono.go hcp15 (m_X0_aim N σ x2)
  have hr9 : CS.hs p15.2 ≤ CS.hs R.2 := Mono.go hf (mono_some (Nat.le_refl _))
  have hFc := cFree hC hA
  refine va_callv (va_runV (As := [.int x2]) (rest := []) ⟨hx, hb, hml, hown, hts⟩ (c_X0_aim l dC dI Q N σ x2 p15 hcp15) (cwV 1 hts hX1_condition_X0_aim_v121 rfl rfl rfl (by decide +kernel) ⟨(show 2 + 1 ≤ (12 + 40 * d) by omega), (show 8 + (2 + 11) + 60 * 2 ≤ 60 * (12 + 40 * d) by omega)⟩) ⟨zPre.blind, va_recv hK hC.1 (ci := 0) (q0 := 2) rfl rfl, cPre_go hZ hK hC⟩ rfl rfl hl.1 rfl (lv_room (Nat.le_of_ble_eq_true rfl)) dX1_condition_70 (cAcc h0 mo16 hr9)) hC.2.2.1 (fun q _ h => hFc q h) hFc (fun u9 t9 H1 locs ht hvm hw hB hz1 hk1 hS => ?_)
  obtain ⟨⟨hP, hK1, hD1⟩, hsz1⟩ := hB
  rw [ht] at hP hsz1
  have hC : CP dC dI Q A s.heap p15.2 H1 locs := ⟨hP, hD1.weaken (fun _ _ _ h => hFc _ h), hS, hsz1⟩
  generalize H1 = H at hC ⊢
  have h18 : z9h ≤ CS.hs p15.2 := Nat.le_trans h0 mo16
  refine W.widen (k := CS.hs p15.2 - z9h) (n := 17 * (CS.hs p15.2 - z9h)) (cAcc2 h0 mo16) (cAcc3 h0 mo16) ?_
  refine lv_iconst (v := 0) hx hb dX1_condition_73 (by decide) ?_
  obtain rfl := Option.some.inj hf
  exact W.zret (v := 0) hx hb hr (rfl) (fun t ht hW => ⟨⟨0, (), rfl, rfl, ⟨by rw [ht]; exact hC.1, va_K.moved hW.alike hK, hC.2.1⟩, by rw [ht]; exact hC.2.2.2⟩, hC.2.2.1.F ht⟩) hC.2.2.1.2.2 dX1_condition_74
set_option maxHeartbeats 4000000 in
set_option maxRecDepth 100000 in
theorem j_X1_condition_27 {p : Program} {e : Env} {s : State} {m : MethodId} {args : Array Value} {below : List Frame} {meth : Method} {c : Code} {A : Nat → Prop} (l : Launch) (dC : Nat → ClassId) (dI : Nat → Nat → Nat) (Q : CQ) (N : Nat) (d : Nat) (E1 : CS → Option (Unit × CS)) (E2 : CS → Option (Int32 × CS)) (hE1 : cMF l dC dI Q d E1) (hE2 : cMO l dC dI Q d E2) (hm1 : ∀ σ, Mono (CS.hs σ) (E1 σ)) (hm2 : ∀ σ, Mono (CS.hs σ) (E2 σ)) (z9h : Nat) (R : Int32 × CS) (hx : p.tables.exec = Jvm.exec) (hb : c.code = cX1_condition) (hr : meth.sig.returnType = (some .boolean)) (hml : c.maxLocals = 4) (hown : s.vm.findClass RX1 = some m.cls) (hts : ∀ w ∈ wzX1_condition, w.before args s = true) (hlocks : meth.locks = false) (hZ : zAMB s) (hA : ∀ q : Nat, s.heap.size ≤ q → A q) (hK : va_K (dC, dI) vwCl (cT Q) s) : ∀ (n9 : Nat), ∀ (σ : CS) (x2 : Int32) (x3 : Int32) (H : Heap) (locs : List Loc) (ls : Array Slot), f_X1_condition_27 N E1 E2 n9 σ x2 x3 = some R → z9h ≤ CS.hs σ → CP dC dI Q A s.heap σ H locs → lv_has ls 4 [(0, .ref (Q.o 3)), (2, .int x2), (3, .int x3)] → W p l e ({ frames := (12 + 40 * d), cells := CS.hs R.2 - z9h, slots := 17 * (CS.hs R.2 - z9h), locals := 60 * (12 + 40 * d) }) s m args below meth c H locs (CS.hs σ - z9h) (17 * (CS.hs σ - z9h)) (MQ below (va_Qi (fun (r : Int32) (_ : Unit) => r = R.1) (fun (_ : Unit) (t : State) => zPost dC dI A (cW Q R.2) (cT Q) t ∧ t.heap.size = CS.hs R.2) A) args s (CS.hs R.2 - z9h) (17 * (CS.hs R.2 - z9h)) A) (F0 m 27 ls []) := by
  intro n9
  induction n9 with
  | zero => intro σ x2 x3 H locs ls hf; exact absurd hf (by intro q9; cases q9)
  | succ n9 ih =>
    intro σ x2 x3 H locs ls hf h0 hC hl
    replace hf : b_X1_condition_27 N E1 E2 (f_X1_condition_27 N E1 E2 n9) σ x2 x3 = some R := hf
    unfold b_X1_condition_27 at hf
    have hMK := fun (σ : CS) (x2 : Int32) (x3 : Int32) => m_X1_condition_27 N E1 E2 hm1 hm2 n9 σ x2 x3
    refine lv_iload_n hx hb dX1_condition_27 rfl (lv_at hl 2 rfl) ?_
    refine lv_sipush (v := 900) hx hb dX1_condition_28 (by decide) ?_
    refine lv_icmp_ge (tgt := 65) hx hb dX1_condition_31 (by decide) (fun c14 => ?_) (fun c14 => ?_)
    ·
      replace hf := (if_pos c14).symm.trans hf
      exact j_X1_condition_65 l dC dI Q N d E1 E2 hE1 hE2 hm1 hm2 z9h R hx hb hr hml hown hts hlocks hZ hA hK σ x2 _ _ _ hf h0 hC (lv_sub hl [0, 1] rfl)
    ·
      replace hf := (if_neg c14).symm.trans hf
      refine lv_aload_n hx hb dX1_condition_34 rfl (lv_at hl 0 rfl) ?_
      refine lv_sipush (v := 133) hx hb dX1_condition_35 (by decide) ?_
      obtain ⟨p19, hcp19, hf⟩ := hf_bind hf
      have mo20 : CS.hs σ ≤ CS.hs p19.2 := Mono.go hcp19 (m_X1_skip N σ 133)
      have hr9 : CS.hs p19.2 ≤ CS.hs R.2 := Mono.go hf (mono_ite (m_X1_condition_65 N E1 E2 hm1 hm2 p19.2 x2) (mono_bind (m_X0_add N p19.2 33 x2) (fun p24 => (mono_bind (m_X1_conjunction N E1 E2 hm1 hm2 p24.2) (fun p28 => (hMK p28.2 x2 (x3 + 1)))))))
      have hFc := cFree hC hA
      refine va_calli (va_runU (As := [.int 133]) (rest := []) ⟨hx, hb, hml, hown, hts⟩ (c_X1_skip l dC dI Q N σ 133 p19 hcp19) (va_cwU 1 hts hX1_condition_X1_skip_u130 rfl rfl rfl rfl (by decide +kernel) ⟨(show 4 + 1 ≤ (12 + 40 * d) by omega), (show 8 + (3 + 11) + 60 * 4 ≤ 60 * (12 + 40 * d) by omega)⟩) ⟨zPre.blind, va_recv hK hC.1 (ci := 6) (q0 := 3) rfl rfl, cPre_go hZ hK hC⟩ rfl rfl hl.1 rfl (lv_room (Nat.le_of_ble_eq_true rfl)) dX1_condition_38 (cAcc h0 mo20 hr9)) hC.2.2.1 (fun q _ h => hFc q h) hFc (fun r21 u9 t9 H1 locs ht hvm hw hB hz1 hk1 hS => ?_)
      obtain ⟨⟨hP, hK1, hD1⟩, hsz1⟩ := hB
      rw [ht] at hP hsz1
      have hC : CP dC dI Q A s.heap p19.2 H1 locs := ⟨hP, hD1.weaken (fun _ _ _ h => hFc _ h), hS, hsz1⟩
      generalize H1 = H at hC ⊢
      have h22 : z9h ≤ CS.hs p19.2 := Nat.le_trans h0 mo20
      refine W.widen (k := CS.hs p19.2 - z9h) (n := 17 * (CS.hs p19.2 - z9h)) (cAcc2 h0 mo20) (cAcc3 h0 mo20) ?_
      obtain rfl : r21 = p19.1 := hw
      refine lv_if_eq (tgt := 65) hx hb dX1_condition_41 (by decide) (fun c23 => ?_) (fun c23 => ?_)
      ·
        replace hf := (if_pos c23).symm.trans hf
        exact j_X1_condition_65 l dC dI Q N d E1 E2 hE1 hE2 hm1 hm2 z9h R hx hb hr hml hown hts hlocks hZ hA hK p19.2 x2 _ _ _ hf h22 hC (lv_sub hl [0, 1] rfl)
      ·
        replace hf := (if_neg c23).symm.trans hf
        refine lv_aload_n hx hb dX1_condition_44 rfl (lv_at hl 0 rfl) ?_
        refine cG_29 hx hb hts i_X1_condition_X7 hown hK hC (hts (.fieldLink RX1 22 "StatementRules2$Formulas" "code" "LStatementRules2$Code;") k_X1_condition_fieldLink_RX1_22_SR_Formulas_code_LSR_Code) (fun _ q9 => q9) dX1_condition_45 ?_
        refine lv_bipush (v := 33) hx hb dX1_condition_48 (by decide) ?_
        refine lv_iload_n hx hb dX1_condition_50 rfl (lv_at hl 1 rfl) ?_
        obtain ⟨p24, hcp24, hf⟩ := hf_bind hf
        have mo25 : CS.hs p19.2 ≤ CS.hs p24.2 := Mono.go hcp24 (m_X0_add N p19.2 33 x2)
        have hr9 : CS.hs p24.2 ≤ CS.hs R.2 := Mono.go hf (mono_bind (m_X1_conjunction N E1 E2 hm1 hm2 p24.2) (fun p28 => (hMK p28.2 x2 (x3 + 1))))
        have hFc := cFree hC hA
        refine va_callv (va_runV (As := [.int 33, .int x2]) (rest := []) ⟨hx, hb, hml, hown, hts⟩ (c_X0_add l dC dI Q N p19.2 33 x2 p24 hcp24) (cwV 2 hts hX1_condition_X0_add_v68 rfl rfl rfl (by decide +kernel) ⟨(show 2 + 1 ≤ (12 + 40 * d) by omega), (show 8 + (3 + 11) + 60 * 2 ≤ 60 * (12 + 40 * d) by omega)⟩) ⟨zPre.blind, va_recv hK hC.1 (ci := 0) (q0 := 2) rfl rfl, cPre_go hZ hK hC⟩ rfl rfl hl.1 rfl (lv_room (Nat.le_of_ble_eq_true rfl)) dX1_condition_51 (cAcc h22 mo25 hr9)) hC.2.2.1 (fun q _ h => hFc q h) hFc (fun u9 t9 H1 locs ht hvm hw hB hz1 hk1 hS => ?_)
        obtain ⟨⟨hP, hK1, hD1⟩, hsz1⟩ := hB
        rw [ht] at hP hsz1
        have hC : CP dC dI Q A s.heap p24.2 H1 locs := ⟨hP, hD1.weaken (fun _ _ _ h => hFc _ h), hS, hsz1⟩
        generalize H1 = H at hC ⊢
        have h27 : z9h ≤ CS.hs p24.2 := Nat.le_trans h22 mo25
        refine W.widen (k := CS.hs p24.2 - z9h) (n := 17 * (CS.hs p24.2 - z9h)) (cAcc2 h22 mo25) (cAcc3 h22 mo25) ?_
        refine lv_aload_n hx hb dX1_condition_54 rfl (lv_at hl 0 rfl) ?_
        obtain ⟨p28, hcp28, hf⟩ := hf_bind hf
        have mo29 : CS.hs p24.2 ≤ CS.hs p28.2 := Mono.go hcp28 (m_X1_conjunction N E1 E2 hm1 hm2 p24.2)
        have hr9 : CS.hs p28.2 ≤ CS.hs R.2 := Mono.go hf (hMK p28.2 x2 (x3 + 1))
        have hFc := cFree hC hA
        refine va_calli (va_runU (As := []) (rest := []) ⟨hx, hb, hml, hown, hts⟩ (c_X1_conjunction l dC dI Q N d E1 E2 hE1 hE2 hm1 hm2 p24.2 p28 hcp28) (va_cwU 0 hts hX1_condition_X1_conjunction_u146 rfl rfl rfl rfl (by decide +kernel) ⟨(show (11 + 40 * d) + 1 ≤ (12 + 40 * d) by omega), (show 8 + (4 + 11) + 60 * (11 + 40 * d) ≤ 60 * (12 + 40 * d) by omega)⟩) ⟨zPre.blind, va_recv hK hC.1 (ci := 6) (q0 := 3) rfl rfl, cPre_go hZ hK hC⟩ rfl rfl hl.1 rfl (lv_room (Nat.le_of_ble_eq_true rfl)) dX1_condition_55 (cAcc h27 mo29 hr9)) hC.2.2.1 (fun q _ h => hFc q h) hFc (fun r30 u9 t9 H1 locs ht hvm hw hB hz1 hk1 hS => ?_)
        obtain ⟨⟨hP, hK1, hD1⟩, hsz1⟩ := hB
        rw [ht] at hP hsz1
        have hC : CP dC dI Q A s.heap p28.2 H1 locs := ⟨hP, hD1.weaken (fun _ _ _ h => hFc _ h), hS, hsz1⟩
        generalize H1 = H at hC ⊢
        have h31 : z9h ≤ CS.hs p28.2 := Nat.le_trans h27 mo29
        refine W.widen (k := CS.hs p28.2 - z9h) (n := 17 * (CS.hs p28.2 - z9h)) (cAcc2 h27 mo29) (cAcc3 h27 mo29) ?_
        obtain rfl : r30 = p28.1 := hw
        refine lv_pop hx hb dX1_condition_58 rfl ?_
        refine lv_iinc (v := (x3 + 1)) (lv' := [(3, .int (x3 + 1)), (0, .ref (Q.o 3)), (2, .int x2)]) hx hb dX1_condition_59 hl (k := 2) rfl rfl (by decide) rfl (fun ls hl => ?_)
        refine lv_goto (tgt := 27) hx hb dX1_condition_62 (by decide) ?_
        exact ih p28.2 x2 (x3 + 1) _ _ _ hf h31 hC (lv_sub hl [1, 2, 0] rfl)
set_option maxHeartbeats 4000000 in
set_option maxRecDepth 100000 in
theorem c_X1_condition (l : Launch) (dC : Nat → ClassId) (dI : Nat → Nat → Nat) (Q : CQ) (N : Nat) (d : Nat) (E1 : CS → Option (Unit × CS)) (E2 : CS → Option (Int32 × CS)) (hE1 : cMF l dC dI Q d E1) (hE2 : cMO l dC dI Q d E2) (hm1 : ∀ σ, Mono (CS.hs σ) (E1 σ)) (hm2 : ∀ σ, Mono (CS.hs σ) (E2 σ)) (σ : CS) (R : Int32 × CS) (hf : f_X1_condition N E1 E2 σ = some R) : Met l yX1_condition wzX1_condition ({ frames := (12 + 40 * d), cells := CS.hs R.2 - CS.hs σ, slots := 17 * (CS.hs R.2 - CS.hs σ), locals := 60 * (12 + 40 * d) }) (va_Pc [.ref (Q.o 3)] (zPre dC dI (CS.hs σ) (cW Q σ) (cT Q))) (va_Qi (fun (r : Int32) (_ : Unit) => r = R.1) (fun (_ : Unit) (t : State) => zPost dC dI (va_A (cW Q σ) (CS.hs σ)) (cW Q R.2) (cT Q) t ∧ t.heap.size = CS.hs R.2) (va_A (cW Q σ) (CS.hs σ))) (CS.hs R.2 - CS.hs σ) (17 * (CS.hs R.2 - CS.hs σ)) (va_A (cW Q σ) (CS.hs σ)) := by
  refine Met.ofW (cc := cX1_condition) (maxL := 4) (ret := (some .boolean)) (by decide) rfl ?_
  intro p e s m args below meth c s₁ B hml hv
  obtain ⟨rfl, hsz, hZ, hP, hK, hD0⟩ := hv
  have hx := B.exec
  have hb := B.bytes
  have hr := B.returns
  have hts := atoms_spec (ws := wzX1_condition) B.pre
  have hown : s.vm.findClass RX1 = some m.cls := findClass_of_methodNamed B.named
  have hlocks := B.notSynchronized
  have hD := hD0.self (sz := CS.hs σ)
  generalize hAe : va_A (cW Q σ) (CS.hs σ) = A at hD ⊢
  have hA : ∀ q : Nat, s.heap.size ≤ q → A q := fun q h => by rw [← hAe]; exact Or.inr (hsz ▸ h)
  have hC : CP dC dI Q A s.heap σ s.heap [] := ⟨hP, hD, va_S.rf, hsz⟩
  have h0 : CS.hs σ ≤ CS.hs σ := Nat.le_refl _
  have hl := lv_entry ([.ref (Q.o 3)]) (n := 4) (Nat.le_of_ble_eq_true rfl)
  rw [lg_entry_eq]
  generalize (lg_sl ([.ref (Q.o 3)]) ++ List.replicate (4 - (lg_sl ([.ref (Q.o 3)])).length) Slot.unset).toArray = ls at hl ⊢
  have hl : lv_has ls 4 [(0, .ref (Q.o 3))] := hl
  unfold f_X1_condition at hf
  refine W.widen (k := CS.hs σ - CS.hs σ) (n := 17 * (CS.hs σ - CS.hs σ)) (Nat.zero_le _) (Nat.zero_le _) ?_
  refine lv_aload_n hx hb dX1_condition_0 rfl (lv_at hl 0 rfl) ?_
  obtain ⟨p1, hcp1, hf⟩ := hf_bind hf
  have mo2 : CS.hs σ ≤ CS.hs p1.2 := Mono.go hcp1 (m_X1_conjunction N E1 E2 hm1 hm2 σ)
  have hr9 : CS.hs p1.2 ≤ CS.hs R.2 := Mono.go hf (mono_bind (m_X1_found N p1.2 133) (fun p5 => (mono_ite (mono_ite (mono_some (Nat.le_refl _)) mono_none) (mono_bind (m_X0_newTarget N p5.2) (fun p10 => (m_X1_condition_27 N E1 E2 hm1 hm2 N p10.2 p10.1 0))))))
  have hFc := cFree hC hA
  refine va_calli (va_runU (As := []) (rest := []) ⟨hx, hb, hml, hown, hts⟩ (c_X1_conjunction l dC dI Q N d E1 E2 hE1 hE2 hm1 hm2 σ p1 hcp1) (va_cwU 0 hts hX1_condition_X1_conjunction_u146 rfl rfl rfl rfl (by decide +kernel) ⟨(show (11 + 40 * d) + 1 ≤ (12 + 40 * d) by omega), (show 8 + (4 + 11) + 60 * (11 + 40 * d) ≤ 60 * (12 + 40 * d) by omega)⟩) ⟨zPre.blind, va_recv hK hC.1 (ci := 6) (q0 := 3) rfl rfl, cPre_go hZ hK hC⟩ rfl rfl hl.1 rfl (lv_room (Nat.le_of_ble_eq_true rfl)) dX1_condition_1 (cAcc h0 mo2 hr9)) hC.2.2.1 (fun q _ h => hFc q h) hFc (fun r3 u9 t9 H1 locs ht hvm hw hB hz1 hk1 hS => ?_)
  obtain ⟨⟨hP, hK1, hD1⟩, hsz1⟩ := hB
  rw [ht] at hP hsz1
  have hC : CP dC dI Q A s.heap p1.2 H1 locs := ⟨hP, hD1.weaken (fun _ _ _ h => hFc _ h), hS, hsz1⟩
  generalize H1 = H at hC ⊢
  have h4 : (CS.hs σ) ≤ CS.hs p1.2 := Nat.le_trans h0 mo2
  refine W.widen (k := CS.hs p1.2 - (CS.hs σ)) (n := 17 * (CS.hs p1.2 - (CS.hs σ))) (cAcc2 h0 mo2) (cAcc3 h0 mo2) ?_
  obtain rfl : r3 = p1.1 := hw
  refine lv_istore_n (lv' := [(1, .int p1.1), (0, .ref (Q.o 3))]) hx hb dX1_condition_4 rfl hl (by decide) rfl (fun ls hl => ?_)
  refine lv_aload_n hx hb dX1_condition_5 rfl (lv_at hl 1 rfl) ?_
  refine lv_sipush (v := 133) hx hb dX1_condition_6 (by decide) ?_
  obtain ⟨p5, hcp5, hf⟩ := hf_bind hf
  have mo6 : CS.hs p1.2 ≤ CS.hs p5.2 := Mono.go hcp5 (m_X1_found N p1.2 133)
  have hr9 : CS.hs p5.2 ≤ CS.hs R.2 := Mono.go hf (mono_ite (mono_ite (mono_some (Nat.le_refl _)) mono_none) (mono_bind (m_X0_newTarget N p5.2) (fun p10 => (m_X1_condition_27 N E1 E2 hm1 hm2 N p10.2 p10.1 0))))
  have hFc := cFree hC hA
  refine va_calli (va_runU (As := [.int 133]) (rest := []) ⟨hx, hb, hml, hown, hts⟩ (c_X1_found l dC dI Q N p1.2 133 p5 hcp5) (va_cwU 1 hts hX1_condition_X1_found_u42 rfl rfl rfl rfl (by decide +kernel) ⟨(show 1 + 1 ≤ (12 + 40 * d) by omega), (show 8 + (2 + 11) + 60 * 1 ≤ 60 * (12 + 40 * d) by omega)⟩) ⟨zPre.blind, va_recv hK hC.1 (ci := 6) (q0 := 3) rfl rfl, cPre_go hZ hK hC⟩ rfl rfl hl.1 rfl (lv_room (Nat.le_of_ble_eq_true rfl)) dX1_condition_9 (cAcc h4 mo6 hr9)) hC.2.2.1 (fun q _ h => hFc q h) hFc (fun r7 u9 t9 H1 locs ht hvm hw hB hz1 hk1 hS => ?_)
  obtain ⟨⟨hP, hK1, hD1⟩, hsz1⟩ := hB
  rw [ht] at hP hsz1
  have hC : CP dC dI Q A s.heap p5.2 H1 locs := ⟨hP, hD1.weaken (fun _ _ _ h => hFc _ h), hS, hsz1⟩
  generalize H1 = H at hC ⊢
  have h8 : (CS.hs σ) ≤ CS.hs p5.2 := Nat.le_trans h4 mo6
  refine W.widen (k := CS.hs p5.2 - (CS.hs σ)) (n := 17 * (CS.hs p5.2 - (CS.hs σ))) (cAcc2 h4 mo6) (cAcc3 h4 mo6) ?_
  obtain rfl : r7 = p5.1 := hw
  refine lv_if_ne (tgt := 17) hx hb dX1_condition_12 (by decide) (fun c9 => ?_) (fun c9 => ?_)
  ·
    replace hf := (if_neg c9).symm.trans hf
    refine lv_aload_n hx hb dX1_condition_17 rfl (lv_at hl 1 rfl) ?_
    refine cG_29 hx hb hts i_X1_condition_X7 hown hK hC (hts (.fieldLink RX1 22 "StatementRules2$Formulas" "code" "LStatementRules2$Code;") k_X1_condition_fieldLink_RX1_22_SR_Formulas_code_LSR_Code) (fun _ q9 => q9) dX1_condition_18 ?_
    obtain ⟨p10, hcp10, hf⟩ := hf_bind hf
    have mo11 : CS.hs p5.2 ≤ CS.hs p10.2 := Mono.go hcp10 (m_X0_newTarget N p5.2)
    have hr9 : CS.hs p10.2 ≤ CS.hs R.2 := Mono.go hf (m_X1_condition_27 N E1 E2 hm1 hm2 N p10.2 p10.1 0)
    have hFc := cFree hC hA
    refine va_calli (va_runV (As := []) (rest := []) ⟨hx, hb, hml, hown, hts⟩ (c_X0_newTarget l dC dI Q N p5.2 p10 hcp10) (cwV 0 hts hX1_condition_X0_newTarget_v110 rfl rfl rfl (by decide +kernel) ⟨(show 2 + 1 ≤ (12 + 40 * d) by omega), (show 8 + (1 + 11) + 60 * 2 ≤ 60 * (12 + 40 * d) by omega)⟩) ⟨zPre.blind, va_recv hK hC.1 (ci := 0) (q0 := 2) rfl rfl, cPre_go hZ hK hC⟩ rfl rfl hl.1 rfl (lv_room (Nat.le_of_ble_eq_true rfl)) dX1_condition_21 (cAcc h8 mo11 hr9)) hC.2.2.1 (fun q _ h => hFc q h) hFc (fun r12 u9 t9 H1 locs ht hvm hw hB hz1 hk1 hS => ?_)
    obtain ⟨⟨hP, hK1, hD1⟩, hsz1⟩ := hB
    rw [ht] at hP hsz1
    have hC : CP dC dI Q A s.heap p10.2 H1 locs := ⟨hP, hD1.weaken (fun _ _ _ h => hFc _ h), hS, hsz1⟩
    generalize H1 = H at hC ⊢
    have h13 : (CS.hs σ) ≤ CS.hs p10.2 := Nat.le_trans h8 mo11
    refine W.widen (k := CS.hs p10.2 - (CS.hs σ)) (n := 17 * (CS.hs p10.2 - (CS.hs σ))) (cAcc2 h8 mo11) (cAcc3 h8 mo11) ?_
    obtain rfl : r12 = p10.1 := hw
    refine lv_istore_n (lv' := [(2, .int p10.1), (1, .int p1.1), (0, .ref (Q.o 3))]) hx hb dX1_condition_24 rfl hl (by decide) rfl (fun ls hl => ?_)
    refine lv_iconst (v := 0) hx hb dX1_condition_25 (by decide) ?_
    refine lv_istore_n (lv' := [(3, .int 0), (2, .int p10.1), (1, .int p1.1), (0, .ref (Q.o 3))]) hx hb dX1_condition_26 rfl hl (by decide) rfl (fun ls hl => ?_)
    exact j_X1_condition_27 l dC dI Q N d E1 E2 hE1 hE2 hm1 hm2 (CS.hs σ) R hx hb hr hml hown hts hlocks hZ hA hK N p10.2 p10.1 0 _ _ _ hf h13 hC (lv_sub hl [3, 1, 0] rfl)
  ·
    replace hf := (if_pos c9).symm.trans hf
    refine lv_iload_n hx hb dX1_condition_15 rfl (lv_at hl 0 rfl) ?_
    obtain ⟨b32, hf⟩ := hf_ite hf
    obtain rfl := Option.some.inj hf
    exact W.zret (v := p1.1) hx hb hr (z_nar b32) (fun t ht hW => ⟨⟨p1.1, (), rfl, rfl, ⟨by rw [ht]; exact hC.1, va_K.moved hW.alike hK, hC.2.1⟩, by rw [ht]; exact hC.2.2.2⟩, hC.2.2.1.F ht⟩) hC.2.2.1.2.2 dX1_condition_16
set_option maxHeartbeats 4000000 in
set_option maxRecDepth 100000 in
theorem c_X7_conditionInside (l : Launch) (dC : Nat → ClassId) (dI : Nat → Nat → Nat) (Q : CQ) (N : Nat) (d : Nat) (E1 : CS → Option (Unit × CS)) (E2 : CS → Option (Int32 × CS)) (hE1 : cMF l dC dI Q d E1) (hE2 : cMO l dC dI Q d E2) (hm1 : ∀ σ, Mono (CS.hs σ) (E1 σ)) (hm2 : ∀ σ, Mono (CS.hs σ) (E2 σ)) (σ : CS) (R : Int32 × CS) (hf : f_X7_conditionInside N E1 E2 σ = some R) : Met l yX7_conditionInside wzX7_conditionInside ({ frames := (13 + 40 * d), cells := CS.hs R.2 - CS.hs σ, slots := 17 * (CS.hs R.2 - CS.hs σ), locals := 60 * (13 + 40 * d) }) (va_Pc [.ref (Q.o 3)] (zPre dC dI (CS.hs σ) (cW Q σ) (cT Q))) (va_Qi (fun (r : Int32) (_ : Unit) => r = R.1) (fun (_ : Unit) (t : State) => zPost dC dI (va_A (cW Q σ) (CS.hs σ)) (cW Q R.2) (cT Q) t ∧ t.heap.size = CS.hs R.2) (va_A (cW Q σ) (CS.hs σ))) (CS.hs R.2 - CS.hs σ) (17 * (CS.hs R.2 - CS.hs σ)) (va_A (cW Q σ) (CS.hs σ)) := by
  refine Met.ofW (cc := cX7_conditionInside) (maxL := 2) (ret := (some .boolean)) (by decide) rfl ?_
  intro p e s m args below meth c s₁ B hml hv
  obtain ⟨rfl, hsz, hZ, hP, hK, hD0⟩ := hv
  have hx := B.exec
  have hb := B.bytes
  have hr := B.returns
  have hts := atoms_spec (ws := wzX7_conditionInside) B.pre
  have hown : s.vm.findClass RX7 = some m.cls := findClass_of_methodNamed B.named
  have hlocks := B.notSynchronized
  have hD := hD0.self (sz := CS.hs σ)
  generalize hAe : va_A (cW Q σ) (CS.hs σ) = A at hD ⊢
  have hA : ∀ q : Nat, s.heap.size ≤ q → A q := fun q h => by rw [← hAe]; exact Or.inr (hsz ▸ h)
  have hC : CP dC dI Q A s.heap σ s.heap [] := ⟨hP, hD, va_S.rf, hsz⟩
  have h0 : CS.hs σ ≤ CS.hs σ := Nat.le_refl _
  have hl := lv_entry ([.ref (Q.o 3)]) (n := 2) (Nat.le_of_ble_eq_true rfl)
  rw [lg_entry_eq]
  generalize (lg_sl ([.ref (Q.o 3)]) ++ List.replicate (2 - (lg_sl ([.ref (Q.o 3)])).length) Slot.unset).toArray = ls at hl ⊢
  have hl : lv_has ls 2 [(0, .ref (Q.o 3))] := hl
  unfold f_X7_conditionInside at hf
  refine W.widen (k := CS.hs σ - CS.hs σ) (n := 17 * (CS.hs σ - CS.hs σ)) (Nat.zero_le _) (Nat.zero_le _) ?_
  refine lv_aload_n hx hb dX7_conditionInside_0 rfl (lv_at hl 0 rfl) ?_
  refine lv_bipush (v := 40) hx hb dX7_conditionInside_1 (by decide) ?_
  obtain ⟨p1, hcp1, hf⟩ := hf_bind hf
  have mo2 : CS.hs σ ≤ CS.hs p1.2 := Mono.go hcp1 (m_X1_open N σ 40)
  have hr9 : CS.hs p1.2 ≤ CS.hs R.2 := Mono.go hf (mono_bind (m_X1_condition N E1 E2 hm1 hm2 p1.2) (fun p5 => (mono_bind (m_X1_close N p5.2 41) (fun p9 => (mono_ite (mono_some (Nat.le_refl _)) mono_none)))))
  have hFc := cFree hC hA
  refine va_callv (va_runU (As := [.int 40]) (rest := []) ⟨hx, hb, hml, hown, hts⟩ (c_X1_open l dC dI Q N σ 40 p1 hcp1) (va_cwU 1 hts hX7_conditionInside_X1_open_u173 rfl rfl rfl rfl (by decide +kernel) ⟨(show 4 + 1 ≤ (13 + 40 * d) by omega), (show 8 + (2 + 11) + 60 * 4 ≤ 60 * (13 + 40 * d) by omega)⟩) ⟨zPre.blind, va_recv hK hC.1 (ci := 6) (q0 := 3) rfl rfl, cPre_go hZ hK hC⟩ rfl rfl hl.1 rfl (lv_room (Nat.le_of_ble_eq_true rfl)) dX7_conditionInside_3 (cAcc h0 mo2 hr9)) hC.2.2.1 (fun q _ h => hFc q h) hFc (fun u9 t9 H1 locs ht hvm hw hB hz1 hk1 hS => ?_)
  obtain ⟨⟨hP, hK1, hD1⟩, hsz1⟩ := hB
  rw [ht] at hP hsz1
  have hC : CP dC dI Q A s.heap p1.2 H1 locs := ⟨hP, hD1.weaken (fun _ _ _ h => hFc _ h), hS, hsz1⟩
  generalize H1 = H at hC ⊢
  have h4 : (CS.hs σ) ≤ CS.hs p1.2 := Nat.le_trans h0 mo2
  refine W.widen (k := CS.hs p1.2 - (CS.hs σ)) (n := 17 * (CS.hs p1.2 - (CS.hs σ))) (cAcc2 h0 mo2) (cAcc3 h0 mo2) ?_
  refine lv_aload_n hx hb dX7_conditionInside_6 rfl (lv_at hl 0 rfl) ?_
  obtain ⟨p5, hcp5, hf⟩ := hf_bind hf
  have mo6 : CS.hs p1.2 ≤ CS.hs p5.2 := Mono.go hcp5 (m_X1_condition N E1 E2 hm1 hm2 p1.2)
  have hr9 : CS.hs p5.2 ≤ CS.hs R.2 := Mono.go hf (mono_bind (m_X1_close N p5.2 41) (fun p9 => (mono_ite (mono_some (Nat.le_refl _)) mono_none)))
  have hFc := cFree hC hA
  refine va_calli (va_runU (As := []) (rest := []) ⟨hx, hb, hml, hown, hts⟩ (c_X1_condition l dC dI Q N d E1 E2 hE1 hE2 hm1 hm2 p1.2 p5 hcp5) (va_cwU 0 hts hX7_conditionInside_X1_condition_u312 rfl rfl rfl rfl (by decide +kernel) ⟨(show (12 + 40 * d) + 1 ≤ (13 + 40 * d) by omega), (show 8 + (4 + 11) + 60 * (12 + 40 * d) ≤ 60 * (13 + 40 * d) by omega)⟩) ⟨zPre.blind, va_recv hK hC.1 (ci := 6) (q0 := 3) rfl rfl, cPre_go hZ hK hC⟩ rfl rfl hl.1 rfl (lv_room (Nat.le_of_ble_eq_true rfl)) dX7_conditionInside_7 (cAcc h4 mo6 hr9)) hC.2.2.1 (fun q _ h => hFc q h) hFc (fun r7 u9 t9 H1 locs ht hvm hw hB hz1 hk1 hS => ?_)
  obtain ⟨⟨hP, hK1, hD1⟩, hsz1⟩ := hB
  rw [ht] at hP hsz1
  have hC : CP dC dI Q A s.heap p5.2 H1 locs := ⟨hP, hD1.weaken (fun _ _ _ h => hFc _ h), hS, hsz1⟩
  generalize H1 = H at hC ⊢
  have h8 : (CS.hs σ) ≤ CS.hs p5.2 := Nat.le_trans h4 mo6
  refine W.widen (k := CS.hs p5.2 - (CS.hs σ)) (n := 17 * (CS.hs p5.2 - (CS.hs σ))) (cAcc2 h4 mo6) (cAcc3 h4 mo6) ?_
  obtain rfl : r7 = p5.1 := hw
  refine lv_istore_n (lv' := [(1, .int p5.1), (0, .ref (Q.o 3))]) hx hb dX7_conditionInside_10 rfl hl (by decide) rfl (fun ls hl => ?_)
  refine lv_aload_n hx hb dX7_conditionInside_11 rfl (lv_at hl 1 rfl) ?_
  refine lv_bipush (v := 41) hx hb dX7_conditionInside_12 (by decide) ?_
  obtain ⟨p9, hcp9, hf⟩ := hf_bind hf
  have mo10 : CS.hs p5.2 ≤ CS.hs p9.2 := Mono.go hcp9 (m_X1_close N p5.2 41)
  have hr9 : CS.hs p9.2 ≤ CS.hs R.2 := Mono.go hf (mono_ite (mono_some (Nat.le_refl _)) mono_none)
  have hFc := cFree hC hA
  refine va_callv (va_runU (As := [.int 41]) (rest := []) ⟨hx, hb, hml, hown, hts⟩ (c_X1_close l dC dI Q N p5.2 41 p9 hcp9) (va_cwU 1 hts hX7_conditionInside_X1_close_u318 rfl rfl rfl rfl (by decide +kernel) ⟨(show 4 + 1 ≤ (13 + 40 * d) by omega), (show 8 + (2 + 11) + 60 * 4 ≤ 60 * (13 + 40 * d) by omega)⟩) ⟨zPre.blind, va_recv hK hC.1 (ci := 6) (q0 := 3) rfl rfl, cPre_go hZ hK hC⟩ rfl rfl hl.1 rfl (lv_room (Nat.le_of_ble_eq_true rfl)) dX7_conditionInside_14 (cAcc h8 mo10 hr9)) hC.2.2.1 (fun q _ h => hFc q h) hFc (fun u9 t9 H1 locs ht hvm hw hB hz1 hk1 hS => ?_)
  obtain ⟨⟨hP, hK1, hD1⟩, hsz1⟩ := hB
  rw [ht] at hP hsz1
  have hC : CP dC dI Q A s.heap p9.2 H1 locs := ⟨hP, hD1.weaken (fun _ _ _ h => hFc _ h), hS, hsz1⟩
  generalize H1 = H at hC ⊢
  have h12 : (CS.hs σ) ≤ CS.hs p9.2 := Nat.le_trans h8 mo10
  refine W.widen (k := CS.hs p9.2 - (CS.hs σ)) (n := 17 * (CS.hs p9.2 - (CS.hs σ))) (cAcc2 h8 mo10) (cAcc3 h8 mo10) ?_
  refine lv_iload_n hx hb dX7_conditionInside_17 rfl (lv_at hl 0 rfl) ?_
  obtain ⟨b13, hf⟩ := hf_ite hf
  obtain rfl := Option.some.inj hf
  exact W.zret (v := p5.1) hx hb hr (z_nar b13) (fun t ht hW => ⟨⟨p5.1, (), rfl, rfl, ⟨by rw [ht]; exact hC.1, va_K.moved hW.alike hK, hC.2.1⟩, by rw [ht]; exact hC.2.2.2⟩, hC.2.2.1.F ht⟩) hC.2.2.1.2.2 dX7_conditionInside_18
theorem k_X7_endDo_fieldLink_RX7_61_SR_Statements_alive_Z : Cond.fieldLink RX7 61 "StatementRules2$Statements" "alive" "Z" ∈ wzX7_endDo := List.mem_cons_of_mem _ (List.mem_append_right _ (List.mem_append_right _ (List.mem_append_right _ (List.mem_append_right _ (List.mem_append_right _ (List.mem_append_right _ (List.mem_append_right _ (List.mem_append_right _ (List.mem_append_right _ (List.mem_append_right _ (List.mem_append_right _ (List.mem_append_right _ (List.mem_append_right _ (List.mem_append_right _ (List.mem_append_right _ (List.mem_append_right _ (List.mem_append_right _ (List.mem_append_right _ (List.mem_append_right _ (List.mem_append_right _ (List.mem_append_right _ (List.mem_append_right _ (List.mem_append_right _ (List.mem_append_right _ (List.mem_append_left _ (List.mem_of_getElem? (i := 0) rfl))))))))))))))))))))))))))
theorem i_X7_endDo_X7 : ∀ w ∈ wsX70, w ∈ wzX7_endDo := fun _ h => List.mem_cons_of_mem _ (List.mem_append_right _ (List.mem_append_right _ (List.mem_append_right _ (List.mem_append_right _ (List.mem_append_right _ (List.mem_append_right _ (List.mem_append_right _ (List.mem_append_right _ (List.mem_append_right _ (List.mem_append_right _ (List.mem_append_right _ (List.mem_append_right _ (List.mem_append_right _ (List.mem_append_right _ (List.mem_append_right _ (List.mem_append_right _ (List.mem_append_right _ (List.mem_append_right _ (List.mem_append_right _ (List.mem_append_right _ (List.mem_append_right _ (List.mem_append_right _ (List.mem_append_right _ (List.mem_append_right _ (List.mem_append_right _ (List.mem_append_right _ (List.mem_append_right _ (List.mem_append_right _ (List.mem_append_right _ (List.mem_append_right _ (List.mem_append_right _ (List.mem_append_right _ (List.mem_append_right _ (List.mem_append_right _ (List.mem_append_right _ (List.mem_append_right _ (List.mem_append_left _ (h))))))))))))))))))))))))))))))))))))))
theorem k_X7_endDo_fieldLink_RX7_20_SR_Statements_code_LSR_Code : Cond.fieldLink RX7 20 "StatementRules2$Statements" "code" "LStatementRules2$Code;" ∈ wzX7_endDo := List.mem_cons_of_mem _ (List.mem_append_right _ (List.mem_append_right _ (List.mem_append_right _ (List.mem_append_right _ (List.mem_append_right _ (List.mem_append_right _ (List.mem_append_right _ (List.mem_append_right _ (List.mem_append_right _ (List.mem_append_right _ (List.mem_append_right _ (List.mem_append_right _ (List.mem_append_right _ (List.mem_append_right _ (List.mem_append_right _ (List.mem_append_right _ (List.mem_append_right _ (List.mem_append_right _ (List.mem_append_right _ (List.mem_append_right _ (List.mem_append_right _ (List.mem_append_right _ (List.mem_append_right _ (List.mem_append_right _ (List.mem_append_left _ (List.mem_of_getElem? (i := 1) rfl))))))))))))))))))))))))))
theorem k_X7_endDo_sameField_SR_Statements_SR_Formulas_code_LSR_Code : Cond.sameField "StatementRules2$Statements" "StatementRules2$Formulas" "code" "LStatementRules2$Code;" ∈ wzX7_endDo := List.mem_cons_of_mem _ (List.mem_append_right _ (List.mem_append_right _ (List.mem_append_right _ (List.mem_append_right _ (List.mem_append_right _ (List.mem_append_right _ (List.mem_append_right _ (List.mem_append_right _ (List.mem_append_right _ (List.mem_append_right _ (List.mem_append_right _ (List.mem_append_right _ (List.mem_append_right _ (List.mem_append_right _ (List.mem_append_right _ (List.mem_append_right _ (List.mem_append_right _ (List.mem_append_right _ (List.mem_append_right _ (List.mem_append_right _ (List.mem_append_right _ (List.mem_append_right _ (List.mem_append_right _ (List.mem_append_right _ (List.mem_append_left _ (List.mem_of_getElem? (i := 2) rfl))))))))))))))))))))))))))
theorem i_X7_endDo_X5 : ∀ w ∈ wsX50, w ∈ wzX7_endDo := fun _ h => List.mem_cons_of_mem _ (List.mem_append_right _ (List.mem_append_right _ (List.mem_append_right _ (List.mem_append_right _ (List.mem_append_right _ (List.mem_append_right _ (List.mem_append_right _ (List.mem_append_right _ (List.mem_append_right _ (List.mem_append_right _ (List.mem_append_right _ (List.mem_append_right _ (List.mem_append_right _ (List.mem_append_right _ (List.mem_append_right _ (List.mem_append_right _ (List.mem_append_right _ (List.mem_append_right _ (List.mem_append_right _ (List.mem_append_right _ (List.mem_append_right _ (List.mem_append_right _ (List.mem_append_right _ (List.mem_append_right _ (List.mem_append_right _ (List.mem_append_right _ (List.mem_append_right _ (List.mem_append_right _ (List.mem_append_right _ (List.mem_append_right _ (List.mem_append_right _ (List.mem_append_right _ (List.mem_append_right _ (List.mem_append_right _ (List.mem_append_right _ (List.mem_append_right _ (List.mem_append_right _ (List.mem_append_right _ (List.mem_append_right _ (List.mem_append_right _ (List.mem_append_right _ (List.mem_append_left _ (h)))))))))))))))))))))))))))))))))))))))))))
theorem k_X7_endDo_fieldLink_RX7_14_SR_Statements_opens_LSR_Opens : Cond.fieldLink RX7 14 "StatementRules2$Statements" "opens" "LStatementRules2$Opens;" ∈ wzX7_endDo := List.mem_cons_of_mem _ (List.mem_append_right _ (List.mem_append_right _ (List.mem_append_right _ (List.mem_append_right _ (List.mem_append_right _ (List.mem_append_right _ (List.mem_append_right _ (List.mem_append_right _ (List.mem_append_right _ (List.mem_append_right _ (List.mem_append_right _ (List.mem_append_right _ (List.mem_append_right _ (List.mem_append_right _ (List.mem_append_right _ (List.mem_append_right _ (List.mem_append_right _ (List.mem_append_right _ (List.mem_append_right _ (List.mem_append_right _ (List.mem_append_right _ (List.mem_append_right _ (List.mem_append_right _ (List.mem_append_right _ (List.mem_append_left _ (List.mem_of_getElem? (i := 3) rfl))))))))))))))))))))))))))
set_option maxHeartbeats 4000000 in
set_option maxRecDepth 100000 in
theorem j_X7_endDo_25 {p : Program} {e : Env} {s : State} {m : MethodId} {args : Array Value} {below : List Frame} {meth : Method} {c : Code} {A : Nat → Prop} (l : Launch) (dC : Nat → ClassId) (dI : Nat → Nat → Nat) (Q : CQ) (N : Nat) (d : Nat) (E1 : CS → Option (Unit × CS)) (E2 : CS → Option (Int32 × CS)) (hE1 : cMF l dC dI Q d E1) (hE2 : cMO l dC dI Q d E2) (hm1 : ∀ σ, Mono (CS.hs σ) (E1 σ)) (hm2 : ∀ σ, Mono (CS.hs σ) (E2 σ)) (z9h : Nat) (R : Unit × CS) (hx : p.tables.exec = Jvm.exec) (hb : c.code = cX7_endDo) (hr : meth.sig.returnType = none) (hml : c.maxLocals = 4) (hown : s.vm.findClass RX7 = some m.cls) (hts : ∀ w ∈ wzX7_endDo, w.before args s = true) (hlocks : meth.locks = false) (hZ : zAMB s) (hA : ∀ q : Nat, s.heap.size ≤ q → A q) (hK : va_K (dC, dI) vwCl (cT Q) s) : ∀ (σ : CS) (x1 : Nat) (x2 : Int32) (H : Heap) (locs : List Loc) (ls : Array Slot), f_X7_endDo_25 N E1 E2 σ x1 x2 = some R → z9h ≤ CS.hs σ → CP dC dI Q A s.heap σ H locs → lv_has ls 4 [(0, .ref (Q.o 3)), (1, .ref x1), (2, .int x2)] → W p l e ({ frames := (14 + 40 * d), cells := CS.hs R.2 - z9h, slots := 17 * (CS.hs R.2 - z9h), locals := 60 * (14 + 40 * d) }) s m args below meth c H locs (CS.hs σ - z9h) (17 * (CS.hs σ - z9h)) (MQ below (va_Qv (fun (_ : Unit) => True) (fun (_ : Unit) (t : State) => zPost dC dI A (cW Q R.2) (cT Q) t ∧ t.heap.size = CS.hs R.2) A) args s (CS.hs R.2 - z9h) (17 * (CS.hs R.2 - z9h)) A) (F0 m 25 ls []) := by
  intro σ x1 x2 H locs ls hf h0 hC hl
  unfold f_X7_endDo_25 at hf
  refine lv_aload_n hx hb dX7_endDo_25 rfl (lv_at hl 0 rfl) ?_
  refine lv_sipush (v := 205) hx hb dX7_endDo_26 (by decide) ?_
  obtain ⟨p2, hcp2, hf⟩ := hf_bind hf
  have mo3 : CS.hs σ ≤ CS.hs p2.2 := Mono.go hcp2 (m_X1_expect N σ 205)
  have hr9 : CS.hs p2.2 ≤ CS.hs R.2 := Mono.go hf (mono_ite (mono_bind (m_X0_aim N p2.2 (CS.o p2.2 x1 10)) (fun p7 => (mono_bind (m_X7_conditionInside N E1 E2 hm1 hm2 p7.2) (fun p11 => (mono_bind (m_X1_expect N p11.2 59) (fun p15 => (mono_ite (mono_bind (m_X0_add N p15.2 31 (CS.o p15.2 x1 9)) (fun p20 => (mono_ite (mono_bind (m_X0_add N p20.2 30 (CS.o p20.2 x1 11)) (fun p25 => (mono_ite (mono_bind (m_X0_aim N p25.2 (CS.o p25.2 x1 9)) (fun p30 => (mono_ite (mono_bind (m_X6_isGoneTo N p30.2 x1 0) (fun p35 => (mono_ite (mono_some (Nat.le_refl _)) (mono_some (Nat.le_refl _))))) (mono_ite (mono_some (Nat.le_refl _)) (mono_bind (m_X6_isGoneTo N p30.2 x1 0) (fun p41 => (mono_ite (mono_some (Nat.le_refl _)) (mono_some (Nat.le_refl _))))))))) mono_none))) mono_none))) mono_none))))))) mono_none)
  have hFc := cFree hC hA
  refine va_callv (va_runU (As := [.int 205]) (rest := []) ⟨hx, hb, hml, hown, hts⟩ (c_X1_expect l dC dI Q N σ 205 p2 hcp2) (va_cwU 1 hts hX7_endDo_X1_expect_u155 rfl rfl rfl rfl (by decide +kernel) ⟨(show 4 + 1 ≤ (14 + 40 * d) by omega), (show 8 + (2 + 11) + 60 * 4 ≤ 60 * (14 + 40 * d) by omega)⟩) ⟨zPre.blind, va_recv hK hC.1 (ci := 6) (q0 := 3) rfl rfl, cPre_go hZ hK hC⟩ rfl rfl hl.1 rfl (lv_room (Nat.le_of_ble_eq_true rfl)) dX7_endDo_29 (cAcc h0 mo3 hr9)) hC.2.2.1 (fun q _ h => hFc q h) hFc (fun u9 t9 H1 locs ht hvm hw hB hz1 hk1 hS => ?_)
  obtain ⟨⟨hP, hK1, hD1⟩, hsz1⟩ := hB
  rw [ht] at hP hsz1
  have hC : CP dC dI Q A s.heap p2.2 H1 locs := ⟨hP, hD1.weaken (fun _ _ _ h => hFc _ h), hS, hsz1⟩
  generalize H1 = H at hC ⊢
  have h5 : z9h ≤ CS.hs p2.2 := Nat.le_trans h0 mo3
  refine W.widen (k := CS.hs p2.2 - z9h) (n := 17 * (CS.hs p2.2 - z9h)) (cAcc2 h0 mo3) (cAcc3 h0 mo3) ?_
  refine lv_aload_n hx hb dX7_endDo_32 rfl (lv_at hl 0 rfl) ?_
  refine cG_29 hx hb hts i_X7_endDo_X7 hown hK hC (hts (.fieldLink RX7 20 "StatementRules2$Statements" "code" "LStatementRules2$Code;") k_X7_endDo_fieldLink_RX7_20_SR_Statements_code_LSR_Code) (fun x9 q9 => u_same (hts (.sameField "StatementRules2$Statements" "StatementRules2$Formulas" "code" "LStatementRules2$Code;") k_X7_endDo_sameField_SR_Statements_SR_Formulas_code_LSR_Code) x9 q9) dX7_endDo_33 ?_
  refine lv_aload_n hx hb dX7_endDo_36 rfl (lv_at hl 1 rfl) ?_
  obtain ⟨b6, hf⟩ := hf_ite hf
  refine pGN_X5_10 (v := (CS.o p2.2 x1 10)) hx hb hts i_X7_endDo_X5 hown hK hC (va_Nw.use rfl (hZ.1 (.fieldLinkNest RX7 284 "StatementRules2$Open" "next" "I" "StatementRules2") (by decide +kernel))) (fun _ q9 => q9) dX7_endDo_37 b6 rfl ?_
  obtain ⟨p7, hcp7, hf⟩ := hf_bind hf
  have mo8 : CS.hs p2.2 ≤ CS.hs p7.2 := Mono.go hcp7 (m_X0_aim N p2.2 (CS.o p2.2 x1 10))
  have hr9 : CS.hs p7.2 ≤ CS.hs R.2 := Mono.go hf (mono_bind (m_X7_conditionInside N E1 E2 hm1 hm2 p7.2) (fun p11 => (mono_bind (m_X1_expect N p11.2 59) (fun p15 => (mono_ite (mono_bind (m_X0_add N p15.2 31 (CS.o p15.2 x1 9)) (fun p20 => (mono_ite (mono_bind (m_X0_add N p20.2 30 (CS.o p20.2 x1 11)) (fun p25 => (mono_ite (mono_bind (m_X0_aim N p25.2 (CS.o p25.2 x1 9)) (fun p30 => (mono_ite (mono_bind (m_X6_isGoneTo N p30.2 x1 0) (fun p35 => (mono_ite (mono_some (Nat.le_refl _)) (mono_some (Nat.le_refl _))))) (mono_ite (mono_some (Nat.le_refl _)) (mono_bind (m_X6_isGoneTo N p30.2 x1 0) (fun p41 => (mono_ite (mono_some (Nat.le_refl _)) (mono_some (Nat.le_refl _))))))))) mono_none))) mono_none))) mono_none)))))
  have hFc := cFree hC hA
  refine va_callv (va_runV (As := [.int (CS.o p2.2 x1 10)]) (rest := []) ⟨hx, hb, hml, hown, hts⟩ (c_X0_aim l dC dI Q N p2.2 (CS.o p2.2 x1 10) p7 hcp7) (cwV 1 hts hX7_endDo_X0_aim_v158 rfl rfl rfl (by decide +kernel) ⟨(show 2 + 1 ≤ (14 + 40 * d) by omega), (show 8 + (2 + 11) + 60 * 2 ≤ 60 * (14 + 40 * d) by omega)⟩) ⟨zPre.blind, va_recv hK hC.1 (ci := 0) (q0 := 2) rfl rfl, cPre_go hZ hK hC⟩ rfl rfl hl.1 rfl (lv_room (Nat.le_of_ble_eq_true rfl)) dX7_endDo_40 (cAcc h5 mo8 hr9)) hC.2.2.1 (fun q _ h => hFc q h) hFc (fun u9 t9 H1 locs ht hvm hw hB hz1 hk1 hS => ?_)
  obtain ⟨⟨hP, hK1, hD1⟩, hsz1⟩ := hB
  rw [ht] at hP hsz1
  have hC : CP dC dI Q A s.heap p7.2 H1 locs := ⟨hP, hD1.weaken (fun _ _ _ h => hFc _ h), hS, hsz1⟩
  generalize H1 = H at hC ⊢
  have h10 : z9h ≤ CS.hs p7.2 := Nat.le_trans h5 mo8
  refine W.widen (k := CS.hs p7.2 - z9h) (n := 17 * (CS.hs p7.2 - z9h)) (cAcc2 h5 mo8) (cAcc3 h5 mo8) ?_
  refine lv_aload_n hx hb dX7_endDo_43 rfl (lv_at hl 0 rfl) ?_
  obtain ⟨p11, hcp11, hf⟩ := hf_bind hf
  have mo12 : CS.hs p7.2 ≤ CS.hs p11.2 := Mono.go hcp11 (m_X7_conditionInside N E1 E2 hm1 hm2 p7.2)
  have hr9 : CS.hs p11.2 ≤ CS.hs R.2 := Mono.go hf (mono_bind (m_X1_expect N p11.2 59) (fun p15 => (mono_ite (mono_bind (m_X0_add N p15.2 31 (CS.o p15.2 x1 9)) (fun p20 => (mono_ite (mono_bind (m_X0_add N p20.2 30 (CS.o p20.2 x1 11)) (fun p25 => (mono_ite (mono_bind (m_X0_aim N p25.2 (CS.o p25.2 x1 9)) (fun p30 => (mono_ite (mono_bind (m_X6_isGoneTo N p30.2 x1 0) (fun p35 => (mono_ite (mono_some (Nat.le_refl _)) (mono_some (Nat.le_refl _))))) (mono_ite (mono_some (Nat.le_refl _)) (mono_bind (m_X6_isGoneTo N p30.2 x1 0) (fun p41 => (mono_ite (mono_some (Nat.le_refl _)) (mono_some (Nat.le_refl _))))))))) mono_none))) mono_none))) mono_none)))
  have hFc := cFree hC hA
  refine va_calli (va_runV (As := []) (rest := []) ⟨hx, hb, hml, hown, hts⟩ (c_X7_conditionInside l dC dI Q N d E1 E2 hE1 hE2 hm1 hm2 p7.2 p11 hcp11) (cwV 0 hts hX7_endDo_X7_conditionInside_v315 rfl rfl rfl (by decide +kernel) ⟨(show (13 + 40 * d) + 1 ≤ (14 + 40 * d) by omega), (show 8 + (2 + 11) + 60 * (13 + 40 * d) ≤ 60 * (14 + 40 * d) by omega)⟩) ⟨zPre.blind, va_recv hK hC.1 (ci := 6) (q0 := 3) rfl rfl, cPre_go hZ hK hC⟩ rfl rfl hl.1 rfl (lv_room (Nat.le_of_ble_eq_true rfl)) dX7_endDo_44 (cAcc h10 mo12 hr9)) hC.2.2.1 (fun q _ h => hFc q h) hFc (fun r13 u9 t9 H1 locs ht hvm hw hB hz1 hk1 hS => ?_)
  obtain ⟨⟨hP, hK1, hD1⟩, hsz1⟩ := hB
  rw [ht] at hP hsz1
  have hC : CP dC dI Q A s.heap p11.2 H1 locs := ⟨hP, hD1.weaken (fun _ _ _ h => hFc _ h), hS, hsz1⟩
  generalize H1 = H at hC ⊢
  have h14 : z9h ≤ CS.hs p11.2 := Nat.le_trans h10 mo12
  refine W.widen (k := CS.hs p11.2 - z9h) (n := 17 * (CS.hs p11.2 - z9h)) (cAcc2 h10 mo12) (cAcc3 h10 mo12) ?_
  obtain rfl : r13 = p11.1 := hw
  refine lv_istore_n (lv' := [(3, .int p11.1), (0, .ref (Q.o 3)), (1, .ref x1), (2, .int x2)]) hx hb dX7_endDo_47 rfl hl (by decide) rfl (fun ls hl => ?_)
  refine lv_aload_n hx hb dX7_endDo_48 rfl (lv_at hl 1 rfl) ?_
  refine lv_bipush (v := 59) hx hb dX7_endDo_49 (by decide) ?_
  obtain ⟨p15, hcp15, hf⟩ := hf_bind hf
  have mo16 : CS.hs p11.2 ≤ CS.hs p15.2 := Mono.go hcp15 (m_X1_expect N p11.2 59)
  have hr9 : CS.hs p15.2 ≤ CS.hs R.2 := Mono.go hf (mono_ite (mono_bind (m_X0_add N p15.2 31 (CS.o p15.2 x1 9)) (fun p20 => (mono_ite (mono_bind (m_X0_add N p20.2 30 (CS.o p20.2 x1 11)) (fun p25 => (mono_ite (mono_bind (m_X0_aim N p25.2 (CS.o p25.2 x1 9)) (fun p30 => (mono_ite (mono_bind (m_X6_isGoneTo N p30.2 x1 0) (fun p35 => (mono_ite (mono_some (Nat.le_refl _)) (mono_some (Nat.le_refl _))))) (mono_ite (mono_some (Nat.le_refl _)) (mono_bind (m_X6_isGoneTo N p30.2 x1 0) (fun p41 => (mono_ite (mono_some (Nat.le_refl _)) (mono_some (Nat.le_refl _))))))))) mono_none))) mono_none))) mono_none)
  have hFc := cFree hC hA
  refine va_callv (va_runU (As := [.int 59]) (rest := []) ⟨hx, hb, hml, hown, hts⟩ (c_X1_expect l dC dI Q N p11.2 59 p15 hcp15) (va_cwU 1 hts hX7_endDo_X1_expect_u155 rfl rfl rfl rfl (by decide +kernel) ⟨(show 4 + 1 ≤ (14 + 40 * d) by omega), (show 8 + (2 + 11) + 60 * 4 ≤ 60 * (14 + 40 * d) by omega)⟩) ⟨zPre.blind, va_recv hK hC.1 (ci := 6) (q0 := 3) rfl rfl, cPre_go hZ hK hC⟩ rfl rfl hl.1 rfl (lv_room (Nat.le_of_ble_eq_true rfl)) dX7_endDo_51 (cAcc h14 mo16 hr9)) hC.2.2.1 (fun q _ h => hFc q h) hFc (fun u9 t9 H1 locs ht hvm hw hB hz1 hk1 hS => ?_)
  obtain ⟨⟨hP, hK1, hD1⟩, hsz1⟩ := hB
  rw [ht] at hP hsz1
  have hC : CP dC dI Q A s.heap p15.2 H1 locs := ⟨hP, hD1.weaken (fun _ _ _ h => hFc _ h), hS, hsz1⟩
  generalize H1 = H at hC ⊢
  have h18 : z9h ≤ CS.hs p15.2 := Nat.le_trans h14 mo16
  refine W.widen (k := CS.hs p15.2 - z9h) (n := 17 * (CS.hs p15.2 - z9h)) (cAcc2 h14 mo16) (cAcc3 h14 mo16) ?_
  refine lv_aload_n hx hb dX7_endDo_54 rfl (lv_at hl 1 rfl) ?_
  refine cG_29 hx hb hts i_X7_endDo_X7 hown hK hC (hts (.fieldLink RX7 20 "StatementRules2$Statements" "code" "LStatementRules2$Code;") k_X7_endDo_fieldLink_RX7_20_SR_Statements_code_LSR_Code) (fun x9 q9 => u_same (hts (.sameField "StatementRules2$Statements" "StatementRules2$Formulas" "code" "LStatementRules2$Code;") k_X7_endDo_sameField_SR_Statements_SR_Formulas_code_LSR_Code) x9 q9) dX7_endDo_55 ?_
  refine lv_bipush (v := 31) hx hb dX7_endDo_58 (by decide) ?_
  refine lv_aload_n hx hb dX7_endDo_60 rfl (lv_at hl 2 rfl) ?_
  obtain ⟨b19, hf⟩ := hf_ite hf
  refine pGN_X5_9 (v := (CS.o p15.2 x1 9)) hx hb hts i_X7_endDo_X5 hown hK hC (va_Nw.use rfl (hZ.1 (.fieldLinkNest RX7 196 "StatementRules2$Open" "exit" "I" "StatementRules2") (by decide +kernel))) (fun _ q9 => q9) dX7_endDo_61 b19 rfl ?_
  obtain ⟨p20, hcp20, hf⟩ := hf_bind hf
  have mo21 : CS.hs p15.2 ≤ CS.hs p20.2 := Mono.go hcp20 (m_X0_add N p15.2 31 (CS.o p15.2 x1 9))
  have hr9 : CS.hs p20.2 ≤ CS.hs R.2 := Mono.go hf (mono_ite (mono_bind (m_X0_add N p20.2 30 (CS.o p20.2 x1 11)) (fun p25 => (mono_ite (mono_bind (m_X0_aim N p25.2 (CS.o p25.2 x1 9)) (fun p30 => (mono_ite (mono_bind (m_X6_isGoneTo N p30.2 x1 0) (fun p35 => (mono_ite (mono_some (Nat.le_refl _)) (mono_some (Nat.le_refl _))))) (mono_ite (mono_some (Nat.le_refl _)) (mono_bind (m_X6_isGoneTo N p30.2 x1 0) (fun p41 => (mono_ite (mono_some (Nat.le_refl _)) (mono_some (Nat.le_refl _))))))))) mono_none))) mono_none)
  have hFc := cFree hC hA
  refine va_callv (va_runV (As := [.int 31, .int (CS.o p15.2 x1 9)]) (rest := []) ⟨hx, hb, hml, hown, hts⟩ (c_X0_add l dC dI Q N p15.2 31 (CS.o p15.2 x1 9) p20 hcp20) (cwV 2 hts hX7_endDo_X0_add_v176 rfl rfl rfl (by decide +kernel) ⟨(show 2 + 1 ≤ (14 + 40 * d) by omega), (show 8 + (3 + 11) + 60 * 2 ≤ 60 * (14 + 40 * d) by omega)⟩) ⟨zPre.blind, va_recv hK hC.1 (ci := 0) (q0 := 2) rfl rfl, cPre_go hZ hK hC⟩ rfl rfl hl.1 rfl (lv_room (Nat.le_of_ble_eq_true rfl)) dX7_endDo_64 (cAcc h18 mo21 hr9)) hC.2.2.1 (fun q _ h => hFc q h) hFc (fun u9 t9 H1 locs ht hvm hw hB hz1 hk1 hS => ?_)
  obtain ⟨⟨hP, hK1, hD1⟩, hsz1⟩ := hB
  rw [ht] at hP hsz1
  have hC : CP dC dI Q A s.heap p20.2 H1 locs := ⟨hP, hD1.weaken (fun _ _ _ h => hFc _ h), hS, hsz1⟩
  generalize H1 = H at hC ⊢
  have h23 : z9h ≤ CS.hs p20.2 := Nat.le_trans h18 mo21
  refine W.widen (k := CS.hs p20.2 - z9h) (n := 17 * (CS.hs p20.2 - z9h)) (cAcc2 h18 mo21) (cAcc3 h18 mo21) ?_
  refine lv_aload_n hx hb dX7_endDo_67 rfl (lv_at hl 1 rfl) ?_
  refine cG_29 hx hb hts i_X7_endDo_X7 hown hK hC (hts (.fieldLink RX7 20 "StatementRules2$Statements" "code" "LStatementRules2$Code;") k_X7_endDo_fieldLink_RX7_20_SR_Statements_code_LSR_Code) (fun x9 q9 => u_same (hts (.sameField "StatementRules2$Statements" "StatementRules2$Formulas" "code" "LStatementRules2$Code;") k_X7_endDo_sameField_SR_Statements_SR_Formulas_code_LSR_Code) x9 q9) dX7_endDo_68 ?_
  refine lv_bipush (v := 30) hx hb dX7_endDo_71 (by decide) ?_
  refine lv_aload_n hx hb dX7_endDo_73 rfl (lv_at hl 2 rfl) ?_
  obtain ⟨b24, hf⟩ := hf_ite hf
  refine pGN_X5_11 (v := (CS.o p20.2 x1 11)) hx hb hts i_X7_endDo_X5 hown hK hC (va_Nw.use rfl (hZ.1 (.fieldLinkNest RX7 140 "StatementRules2$Open" "other" "I" "StatementRules2") (by decide +kernel))) (fun _ q9 => q9) dX7_endDo_74 b24 rfl ?_
  obtain ⟨p25, hcp25, hf⟩ := hf_bind hf
  have mo26 : CS.hs p20.2 ≤ CS.hs p25.2 := Mono.go hcp25 (m_X0_add N p20.2 30 (CS.o p20.2 x1 11))
  have hr9 : CS.hs p25.2 ≤ CS.hs R.2 := Mono.go hf (mono_ite (mono_bind (m_X0_aim N p25.2 (CS.o p25.2 x1 9)) (fun p30 => (mono_ite (mono_bind (m_X6_isGoneTo N p30.2 x1 0) (fun p35 => (mono_ite (mono_some (Nat.le_refl _)) (mono_some (Nat.le_refl _))))) (mono_ite (mono_some (Nat.le_refl _)) (mono_bind (m_X6_isGoneTo N p30.2 x1 0) (fun p41 => (mono_ite (mono_some (Nat.le_refl _)) (mono_some (Nat.le_refl _))))))))) mono_none)
  have hFc := cFree hC hA
  refine va_callv (va_runV (As := [.int 30, .int (CS.o p20.2 x1 11)]) (rest := []) ⟨hx, hb, hml, hown, hts⟩ (c_X0_add l dC dI Q N p20.2 30 (CS.o p20.2 x1 11) p25 hcp25) (cwV 2 hts hX7_endDo_X0_add_v176 rfl rfl rfl (by decide +kernel) ⟨(show 2 + 1 ≤ (14 + 40 * d) by omega), (show 8 + (3 + 11) + 60 * 2 ≤ 60 * (14 + 40 * d) by omega)⟩) ⟨zPre.blind, va_recv hK hC.1 (ci := 0) (q0 := 2) rfl rfl, cPre_go hZ hK hC⟩ rfl rfl hl.1 rfl (lv_room (Nat.le_of_ble_eq_true rfl)) dX7_endDo_77 (cAcc h23 mo26 hr9)) hC.2.2.1 (fun q _ h => hFc q h) hFc (fun u9 t9 H1 locs ht hvm hw hB hz1 hk1 hS => ?_)
  obtain ⟨⟨hP, hK1, hD1⟩, hsz1⟩ := hB
  rw [ht] at hP hsz1
  have hC : CP dC dI Q A s.heap p25.2 H1 locs := ⟨hP, hD1.weaken (fun _ _ _ h => hFc _ h), hS, hsz1⟩
  generalize H1 = H at hC ⊢
  have h28 : z9h ≤ CS.hs p25.2 := Nat.le_trans h23 mo26
  refine W.widen (k := CS.hs p25.2 - z9h) (n := 17 * (CS.hs p25.2 - z9h)) (cAcc2 h23 mo26) (cAcc3 h23 mo26) ?_
  refine lv_aload_n hx hb dX7_endDo_80 rfl (lv_at hl 1 rfl) ?_
  refine cG_29 hx hb hts i_X7_endDo_X7 hown hK hC (hts (.fieldLink RX7 20 "StatementRules2$Statements" "code" "LStatementRules2$Code;") k_X7_endDo_fieldLink_RX7_20_SR_Statements_code_LSR_Code) (fun x9 q9 => u_same (hts (.sameField "StatementRules2$Statements" "StatementRules2$Formulas" "code" "LStatementRules2$Code;") k_X7_endDo_sameField_SR_Statements_SR_Formulas_code_LSR_Code) x9 q9) dX7_endDo_81 ?_
  refine lv_aload_n hx hb dX7_endDo_84 rfl (lv_at hl 2 rfl) ?_
  obtain ⟨b29, hf⟩ := hf_ite hf
  refine pGN_X5_9 (v := (CS.o p25.2 x1 9)) hx hb hts i_X7_endDo_X5 hown hK hC (va_Nw.use rfl (hZ.1 (.fieldLinkNest RX7 196 "StatementRules2$Open" "exit" "I" "StatementRules2") (by decide +kernel))) (fun _ q9 => q9) dX7_endDo_85 b29 rfl ?_
  obtain ⟨p30, hcp30, hf⟩ := hf_bind hf
  have mo31 : CS.hs p25.2 ≤ CS.hs p30.2 := Mono.go hcp30 (m_X0_aim N p25.2 (CS.o p25.2 x1 9))
  have hr9 : CS.hs p30.2 ≤ CS.hs R.2 := Mono.go hf (mono_ite (mono_bind (m_X6_isGoneTo N p30.2 x1 0) (fun p35 => (mono_ite (mono_some (Nat.le_refl _)) (mono_some (Nat.le_refl _))))) (mono_ite (mono_some (Nat.le_refl _)) (mono_bind (m_X6_isGoneTo N p30.2 x1 0) (fun p41 => (mono_ite (mono_some (Nat.le_refl _)) (mono_some (Nat.le_refl _)))))))
  have hFc := cFree hC hA
  refine va_callv (va_runV (As := [.int (CS.o p25.2 x1 9)]) (rest := []) ⟨hx, hb, hml, hown, hts⟩ (c_X0_aim l dC dI Q N p25.2 (CS.o p25.2 x1 9) p30 hcp30) (cwV 1 hts hX7_endDo_X0_aim_v158 rfl rfl rfl (by decide +kernel) ⟨(show 2 + 1 ≤ (14 + 40 * d) by omega), (show 8 + (2 + 11) + 60 * 2 ≤ 60 * (14 + 40 * d) by omega)⟩) ⟨zPre.blind, va_recv hK hC.1 (ci := 0) (q0 := 2) rfl rfl, cPre_go hZ hK hC⟩ rfl rfl hl.1 rfl (lv_room (Nat.le_of_ble_eq_true rfl)) dX7_endDo_88 (cAcc h28 mo31 hr9)) hC.2.2.1 (fun q _ h => hFc q h) hFc (fun u9 t9 H1 locs ht hvm hw hB hz1 hk1 hS => ?_)
  obtain ⟨⟨hP, hK1, hD1⟩, hsz1⟩ := hB
  rw [ht] at hP hsz1
  have hC : CP dC dI Q A s.heap p30.2 H1 locs := ⟨hP, hD1.weaken (fun _ _ _ h => hFc _ h), hS, hsz1⟩
  generalize H1 = H at hC ⊢
  have h33 : z9h ≤ CS.hs p30.2 := Nat.le_trans h28 mo31
  refine W.widen (k := CS.hs p30.2 - z9h) (n := 17 * (CS.hs p30.2 - z9h)) (cAcc2 h28 mo31) (cAcc3 h28 mo31) ?_
  refine lv_aload_n hx hb dX7_endDo_91 rfl (lv_at hl 1 rfl) ?_
  refine lv_iload_n hx hb dX7_endDo_92 rfl (lv_at hl 3 rfl) ?_
  refine lv_if_eq (tgt := 100) hx hb dX7_endDo_93 (by decide) (fun c34 => ?_) (fun c34 => ?_)
  ·
    replace hf := (if_pos c34).symm.trans hf
    refine lv_aload_n hx hb dX7_endDo_100 rfl (lv_at hl 1 rfl) ?_
    refine cG_35 hx hb hts i_X7_endDo_X7 hown hK hC (hts (.fieldLink RX7 14 "StatementRules2$Statements" "opens" "LStatementRules2$Opens;") k_X7_endDo_fieldLink_RX7_14_SR_Statements_opens_LSR_Opens) (fun _ q9 => q9) dX7_endDo_101 ?_
    refine lv_aload_n hx hb dX7_endDo_104 rfl (lv_at hl 2 rfl) ?_
    refine lv_iconst (v := 0) hx hb dX7_endDo_105 (by decide) ?_
    obtain ⟨p35, hcp35, hf⟩ := hf_bind hf
    have mo36 : CS.hs p30.2 ≤ CS.hs p35.2 := Mono.go hcp35 (m_X6_isGoneTo N p30.2 x1 0)
    have hr9 : CS.hs p35.2 ≤ CS.hs R.2 := Mono.go hf (mono_ite (mono_some (Nat.le_refl _)) (mono_some (Nat.le_refl _)))
    have hFc := cFree hC hA
    refine va_calli (va_runV (As := [.ref x1, .int 0]) (rest := [.ref (Q.o 3)]) ⟨hx, hb, hml, hown, hts⟩ (c_X6_isGoneTo l dC dI Q N p30.2 x1 0 p35 hcp35) (cwV 2 hts hX7_endDo_X6_isGoneTo_v362 rfl rfl rfl (by decide +kernel) ⟨(show 2 + 1 ≤ (14 + 40 * d) by omega), (show 8 + (4 + 11) + 60 * 2 ≤ 60 * (14 + 40 * d) by omega)⟩) ⟨zPre.blind, va_recv hK hC.1 (ci := 5) (q0 := 6) rfl rfl, cPre_go hZ hK hC⟩ rfl rfl hl.1 rfl (lv_room (Nat.le_of_ble_eq_true rfl)) dX7_endDo_106 (cAcc h33 mo36 hr9)) hC.2.2.1 (fun q _ h => hFc q h) hFc (fun r37 u9 t9 H1 locs ht hvm hw hB hz1 hk1 hS => ?_)
    obtain ⟨⟨hP, hK1, hD1⟩, hsz1⟩ := hB
    rw [ht] at hP hsz1
    have hC : CP dC dI Q A s.heap p35.2 H1 locs := ⟨hP, hD1.weaken (fun _ _ _ h => hFc _ h), hS, hsz1⟩
    generalize H1 = H at hC ⊢
    have h38 : z9h ≤ CS.hs p35.2 := Nat.le_trans h33 mo36
    refine W.widen (k := CS.hs p35.2 - z9h) (n := 17 * (CS.hs p35.2 - z9h)) (cAcc2 h33 mo36) (cAcc3 h33 mo36) ?_
    obtain rfl : r37 = p35.1 := hw
    refine lv_if_eq (tgt := 116) hx hb dX7_endDo_109 (by decide) (fun c39 => ?_) (fun c39 => ?_)
    ·
      replace hf := (if_pos c39).symm.trans hf
      refine lv_iconst (v := 0) hx hb dX7_endDo_116 (by decide) ?_
      refine cP_36 (v := 0) hx hb hts i_X7_endDo_X7 hown hK hC (hts (.fieldLink RX7 61 "StatementRules2$Statements" "alive" "Z") k_X7_endDo_fieldLink_RX7_61_SR_Statements_alive_Z) (fun _ q9 => q9) dX7_endDo_117 (by decide) (fun H locs hC => ?_)
      obtain rfl := Option.some.inj hf
      exact W.vret hx hb hr (fun t ht hW => ⟨⟨(), rfl, trivial, ⟨by rw [ht]; exact hC.1, va_K.moved hW.alike hK, hC.2.1⟩, by rw [ht]; exact hC.2.2.2⟩, hC.2.2.1.F ht⟩) hC.2.2.1.2.2 dX7_endDo_120
    ·
      replace hf := (if_neg c39).symm.trans hf
      refine lv_iconst (v := 1) hx hb dX7_endDo_112 (by decide) ?_
      refine lv_goto (tgt := 117) hx hb dX7_endDo_113 (by decide) ?_
      refine cP_36 (v := 1) hx hb hts i_X7_endDo_X7 hown hK hC (hts (.fieldLink RX7 61 "StatementRules2$Statements" "alive" "Z") k_X7_endDo_fieldLink_RX7_61_SR_Statements_alive_Z) (fun _ q9 => q9) dX7_endDo_117 (by decide) (fun H locs hC => ?_)
      obtain rfl := Option.some.inj hf
      exact W.vret hx hb hr (fun t ht hW => ⟨⟨(), rfl, trivial, ⟨by rw [ht]; exact hC.1, va_K.moved hW.alike hK, hC.2.1⟩, by rw [ht]; exact hC.2.2.2⟩, hC.2.2.1.F ht⟩) hC.2.2.1.2.2 dX7_endDo_120
  ·
    replace hf := (if_neg c34).symm.trans hf
    refine lv_iload_n hx hb dX7_endDo_96 rfl (lv_at hl 0 rfl) ?_
    refine lv_if_eq (tgt := 112) hx hb dX7_endDo_97 (by decide) (fun c40 => ?_) (fun c40 => ?_)
    ·
      replace hf := (if_pos c40).symm.trans hf
      refine lv_iconst (v := 1) hx hb dX7_endDo_112 (by decide) ?_
      refine lv_goto (tgt := 117) hx hb dX7_endDo_113 (by decide) ?_
      refine cP_36 (v := 1) hx hb hts i_X7_endDo_X7 hown hK hC (hts (.fieldLink RX7 61 "StatementRules2$Statements" "alive" "Z") k_X7_endDo_fieldLink_RX7_61_SR_Statements_alive_Z) (fun _ q9 => q9) dX7_endDo_117 (by decide) (fun H locs hC => ?_)
      obtain rfl := Option.some.inj hf
      exact W.vret hx hb hr (fun t ht hW => ⟨⟨(), rfl, trivial, ⟨by rw [ht]; exact hC.1, va_K.moved hW.alike hK, hC.2.1⟩, by rw [ht]; exact hC.2.2.2⟩, hC.2.2.1.F ht⟩) hC.2.2.1.2.2 dX7_endDo_120
    ·
      replace hf := (if_neg c40).symm.trans hf
      refine lv_aload_n hx hb dX7_endDo_100 rfl (lv_at hl 1 rfl) ?_
      refine cG_35 hx hb hts i_X7_endDo_X7 hown hK hC (hts (.fieldLink RX7 14 "StatementRules2$Statements" "opens" "LStatementRules2$Opens;") k_X7_endDo_fieldLink_RX7_14_SR_Statements_opens_LSR_Opens) (fun _ q9 => q9) dX7_endDo_101 ?_
      refine lv_aload_n hx hb dX7_endDo_104 rfl (lv_at hl 2 rfl) ?_
      refine lv_iconst (v := 0) hx hb dX7_endDo_105 (by decide) ?_
      obtain ⟨p41, hcp41, hf⟩ := hf_bind hf
      have mo42 : CS.hs p30.2 ≤ CS.hs p41.2 := Mono.go hcp41 (m_X6_isGoneTo N p30.2 x1 0)
      have hr9 : CS.hs p41.2 ≤ CS.hs R.2 := Mono.go hf (mono_ite (mono_some (Nat.le_refl _)) (mono_some (Nat.le_refl _)))
      have hFc := cFree hC hA
      refine va_calli (va_runV (As := [.ref x1, .int 0]) (rest := [.ref (Q.o 3)]) ⟨hx, hb, hml, hown, hts⟩ (c_X6_isGoneTo l dC dI Q N p30.2 x1 0 p41 hcp41) (cwV 2 hts hX7_endDo_X6_isGoneTo_v362 rfl rfl rfl (by decide +kernel) ⟨(show 2 + 1 ≤ (14 + 40 * d) by omega), (show 8 + (4 + 11) + 60 * 2 ≤ 60 * (14 + 40 * d) by omega)⟩) ⟨zPre.blind, va_recv hK hC.1 (ci := 5) (q0 := 6) rfl rfl, cPre_go hZ hK hC⟩ rfl rfl hl.1 rfl (lv_room (Nat.le_of_ble_eq_true rfl)) dX7_endDo_106 (cAcc h33 mo42 hr9)) hC.2.2.1 (fun q _ h => hFc q h) hFc (fun r43 u9 t9 H1 locs ht hvm hw hB hz1 hk1 hS => ?_)
      obtain ⟨⟨hP, hK1, hD1⟩, hsz1⟩ := hB
      rw [ht] at hP hsz1
      have hC : CP dC dI Q A s.heap p41.2 H1 locs := ⟨hP, hD1.weaken (fun _ _ _ h => hFc _ h), hS, hsz1⟩
      generalize H1 = H at hC ⊢
      have h44 : z9h ≤ CS.hs p41.2 := Nat.le_trans h33 mo42
      refine W.widen (k := CS.hs p41.2 - z9h) (n := 17 * (CS.hs p41.2 - z9h)) (cAcc2 h33 mo42) (cAcc3 h33 mo42) ?_
      obtain rfl : r43 = p41.1 := hw
      refine lv_if_eq (tgt := 116) hx hb dX7_endDo_109 (by decide) (fun c45 => ?_) (fun c45 => ?_)
      ·
        replace hf := (if_pos c45).symm.trans hf
        refine lv_iconst (v := 0) hx hb dX7_endDo_116 (by decide) ?_
        refine cP_36 (v := 0) hx hb hts i_X7_endDo_X7 hown hK hC (hts (.fieldLink RX7 61 "StatementRules2$Statements" "alive" "Z") k_X7_endDo_fieldLink_RX7_61_SR_Statements_alive_Z) (fun _ q9 => q9) dX7_endDo_117 (by decide) (fun H locs hC => ?_)
        obtain rfl := Option.some.inj hf
        exact W.vret hx hb hr (fun t ht hW => ⟨⟨(), rfl, trivial, ⟨by rw [ht]; exact hC.1, va_K.moved hW.alike hK, hC.2.1⟩, by rw [ht]; exact hC.2.2.2⟩, hC.2.2.1.F ht⟩) hC.2.2.1.2.2 dX7_endDo_120
      ·
        replace hf := (if_neg c45).symm.trans hf
        refine lv_iconst (v := 1) hx hb dX7_endDo_112 (by decide) ?_
        refine lv_goto (tgt := 117) hx hb dX7_endDo_113 (by decide) ?_
        refine cP_36 (v := 1) hx hb hts i_X7_endDo_X7 hown hK hC (hts (.fieldLink RX7 61 "StatementRules2$Statements" "alive" "Z") k_X7_endDo_fieldLink_RX7_61_SR_Statements_alive_Z) (fun _ q9 => q9) dX7_endDo_117 (by decide) (fun H locs hC => ?_)
        obtain rfl := Option.some.inj hf
        exact W.vret hx hb hr (fun t ht hW => ⟨⟨(), rfl, trivial, ⟨by rw [ht]; exact hC.1, va_K.moved hW.alike hK, hC.2.1⟩, by rw [ht]; exact hC.2.2.2⟩, hC.2.2.1.F ht⟩) hC.2.2.1.2.2 dX7_endDo_120
set_option maxHeartbeats 4000000 in
set_option maxRecDepth 100000 in
theorem j_X7_endDo_19 {p : Program} {e : Env} {s : State} {m : MethodId} {args : Array Value} {below : List Frame} {meth : Method} {c : Code} {A : Nat → Prop} (l : Launch) (dC : Nat → ClassId) (dI : Nat → Nat → Nat) (Q : CQ) (N : Nat) (d : Nat) (E1 : CS → Option (Unit × CS)) (E2 : CS → Option (Int32 × CS)) (hE1 : cMF l dC dI Q d E1) (hE2 : cMO l dC dI Q d E2) (hm1 : ∀ σ, Mono (CS.hs σ) (E1 σ)) (hm2 : ∀ σ, Mono (CS.hs σ) (E2 σ)) (z9h : Nat) (R : Unit × CS) (hx : p.tables.exec = Jvm.exec) (hb : c.code = cX7_endDo) (hr : meth.sig.returnType = none) (hml : c.maxLocals = 4) (hown : s.vm.findClass RX7 = some m.cls) (hts : ∀ w ∈ wzX7_endDo, w.before args s = true) (hlocks : meth.locks = false) (hZ : zAMB s) (hA : ∀ q : Nat, s.heap.size ≤ q → A q) (hK : va_K (dC, dI) vwCl (cT Q) s) : ∀ (σ : CS) (x1 : Nat) (H : Heap) (locs : List Loc) (ls : Array Slot), f_X7_endDo_19 N E1 E2 σ x1 = some R → z9h ≤ CS.hs σ → CP dC dI Q A s.heap σ H locs → lv_has ls 4 [(0, .ref (Q.o 3)), (1, .ref x1)] → W p l e ({ frames := (14 + 40 * d), cells := CS.hs R.2 - z9h, slots := 17 * (CS.hs R.2 - z9h), locals := 60 * (14 + 40 * d) }) s m args below meth c H locs (CS.hs σ - z9h) (17 * (CS.hs σ - z9h)) (MQ below (va_Qv (fun (_ : Unit) => True) (fun (_ : Unit) (t : State) => zPost dC dI A (cW Q R.2) (cT Q) t ∧ t.heap.size = CS.hs R.2) A) args s (CS.hs R.2 - z9h) (17 * (CS.hs R.2 - z9h)) A) (F0 m 19 ls []) := by
  intro σ x1 H locs ls hf h0 hC hl
  unfold f_X7_endDo_19 at hf
  refine lv_iconst (v := 1) hx hb dX7_endDo_19 (by decide) ?_
  refine lv_goto (tgt := 24) hx hb dX7_endDo_20 (by decide) ?_
  refine lv_istore_n (lv' := [(2, .int 1), (0, .ref (Q.o 3)), (1, .ref x1)]) hx hb dX7_endDo_24 rfl hl (by decide) rfl (fun ls hl => ?_)
  exact j_X7_endDo_25 l dC dI Q N d E1 E2 hE1 hE2 hm1 hm2 z9h R hx hb hr hml hown hts hlocks hZ hA hK σ x1 1 _ _ _ hf h0 hC (lv_sub hl [1, 2, 0] rfl)
set_option maxHeartbeats 4000000 in
set_option maxRecDepth 100000 in
theorem c_X7_endDo (l : Launch) (dC : Nat → ClassId) (dI : Nat → Nat → Nat) (Q : CQ) (N : Nat) (d : Nat) (E1 : CS → Option (Unit × CS)) (E2 : CS → Option (Int32 × CS)) (hE1 : cMF l dC dI Q d E1) (hE2 : cMO l dC dI Q d E2) (hm1 : ∀ σ, Mono (CS.hs σ) (E1 σ)) (hm2 : ∀ σ, Mono (CS.hs σ) (E2 σ)) (σ : CS) (x1 : Nat) (R : Unit × CS) (hf : f_X7_endDo N E1 E2 σ x1 = some R) : Met l yX7_endDo wzX7_endDo ({ frames := (14 + 40 * d), cells := CS.hs R.2 - CS.hs σ, slots := 17 * (CS.hs R.2 - CS.hs σ), locals := 60 * (14 + 40 * d) }) (va_Pc [.ref (Q.o 3), .ref x1] (zPre dC dI (CS.hs σ) (cW Q σ) (cT Q))) (va_Qv (fun (_ : Unit) => True) (fun (_ : Unit) (t : State) => zPost dC dI (va_A (cW Q σ) (CS.hs σ)) (cW Q R.2) (cT Q) t ∧ t.heap.size = CS.hs R.2) (va_A (cW Q σ) (CS.hs σ))) (CS.hs R.2 - CS.hs σ) (17 * (CS.hs R.2 - CS.hs σ)) (va_A (cW Q σ) (CS.hs σ)) := by
  refine Met.ofW (cc := cX7_endDo) (maxL := 4) (ret := none) (by decide) rfl ?_
  intro p e s m args below meth c s₁ B hml hv
  obtain ⟨rfl, hsz, hZ, hP, hK, hD0⟩ := hv
  have hx := B.exec
  have hb := B.bytes
  have hr := B.returns
  have hts := atoms_spec (ws := wzX7_endDo) B.pre
  have hown : s.vm.findClass RX7 = some m.cls := findClass_of_methodNamed B.named
  have hlocks := B.notSynchronized
  have hD := hD0.self (sz := CS.hs σ)
  generalize hAe : va_A (cW Q σ) (CS.hs σ) = A at hD ⊢
  have hA : ∀ q : Nat, s.heap.size ≤ q → A q := fun q h => by rw [← hAe]; exact Or.inr (hsz ▸ h)
  have hC : CP dC dI Q A s.heap σ s.heap [] := ⟨hP, hD, va_S.rf, hsz⟩
  have h0 : CS.hs σ ≤ CS.hs σ := Nat.le_refl _
  have hl := lv_entry ([.ref (Q.o 3), .ref x1]) (n := 4) (Nat.le_of_ble_eq_true rfl)
  rw [lg_entry_eq]
  generalize (lg_sl ([.ref (Q.o 3), .ref x1]) ++ List.replicate (4 - (lg_sl ([.ref (Q.o 3), .ref x1])).length) Slot.unset).toArray = ls at hl ⊢
  have hl : lv_has ls 4 [(0, .ref (Q.o 3)), (1, .ref x1)] := hl
  unfold f_X7_endDo at hf
  refine W.widen (k := CS.hs σ - CS.hs σ) (n := 17 * (CS.hs σ - CS.hs σ)) (Nat.zero_le _) (Nat.zero_le _) ?_
  refine lv_aload_n hx hb dX7_endDo_0 rfl (lv_at hl 0 rfl) ?_
  refine cG_36 (v := (σ.i 36)) hx hb hts i_X7_endDo_X7 hown hK hC (hts (.fieldLink RX7 61 "StatementRules2$Statements" "alive" "Z") k_X7_endDo_fieldLink_RX7_61_SR_Statements_alive_Z) (fun _ q9 => q9) dX7_endDo_1 rfl ?_
  refine lv_if_ne (tgt := 19) hx hb dX7_endDo_4 (by decide) (fun c1 => ?_) (fun c1 => ?_)
  ·
    replace hf := (if_neg c1).symm.trans hf
    exact j_X7_endDo_19 l dC dI Q N d E1 E2 hE1 hE2 hm1 hm2 (CS.hs σ) R hx hb hr hml hown hts hlocks hZ hA hK σ x1 _ _ _ hf h0 hC (lv_sub hl [0, 1] rfl)
  ·
    replace hf := (if_pos c1).symm.trans hf
    refine lv_aload_n hx hb dX7_endDo_7 rfl (lv_at hl 0 rfl) ?_
    refine cG_35 hx hb hts i_X7_endDo_X7 hown hK hC (hts (.fieldLink RX7 14 "StatementRules2$Statements" "opens" "LStatementRules2$Opens;") k_X7_endDo_fieldLink_RX7_14_SR_Statements_opens_LSR_Opens) (fun _ q9 => q9) dX7_endDo_8 ?_
    refine lv_aload_n hx hb dX7_endDo_11 rfl (lv_at hl 1 rfl) ?_
    refine lv_iconst (v := 1) hx hb dX7_endDo_12 (by decide) ?_
    obtain ⟨p46, hcp46, hf⟩ := hf_bind hf
    have mo47 : CS.hs σ ≤ CS.hs p46.2 := Mono.go hcp46 (m_X6_isGoneTo N σ x1 1)
    have hr9 : CS.hs p46.2 ≤ CS.hs R.2 := Mono.go hf (mono_ite (m_X7_endDo_25 N E1 E2 hm1 hm2 p46.2 x1 0) (m_X7_endDo_19 N E1 E2 hm1 hm2 p46.2 x1))
    have hFc := cFree hC hA
    refine va_calli (va_runV (As := [.ref x1, .int 1]) (rest := []) ⟨hx, hb, hml, hown, hts⟩ (c_X6_isGoneTo l dC dI Q N σ x1 1 p46 hcp46) (cwV 2 hts hX7_endDo_X6_isGoneTo_v362 rfl rfl rfl (by decide +kernel) ⟨(show 2 + 1 ≤ (14 + 40 * d) by omega), (show 8 + (4 + 11) + 60 * 2 ≤ 60 * (14 + 40 * d) by omega)⟩) ⟨zPre.blind, va_recv hK hC.1 (ci := 5) (q0 := 6) rfl rfl, cPre_go hZ hK hC⟩ rfl rfl hl.1 rfl (lv_room (Nat.le_of_ble_eq_true rfl)) dX7_endDo_13 (cAcc h0 mo47 hr9)) hC.2.2.1 (fun q _ h => hFc q h) hFc (fun r48 u9 t9 H1 locs ht hvm hw hB hz1 hk1 hS => ?_)
    obtain ⟨⟨hP, hK1, hD1⟩, hsz1⟩ := hB
    rw [ht] at hP hsz1
    have hC : CP dC dI Q A s.heap p46.2 H1 locs := ⟨hP, hD1.weaken (fun _ _ _ h => hFc _ h), hS, hsz1⟩
    generalize H1 = H at hC ⊢
    have h49 : (CS.hs σ) ≤ CS.hs p46.2 := Nat.le_trans h0 mo47
    refine W.widen (k := CS.hs p46.2 - (CS.hs σ)) (n := 17 * (CS.hs p46.2 - (CS.hs σ))) (cAcc2 h0 mo47) (cAcc3 h0 mo47) ?_
    obtain rfl : r48 = p46.1 := hw
    refine lv_if_eq (tgt := 23) hx hb dX7_endDo_16 (by decide) (fun c50 => ?_) (fun c50 => ?_)
    ·
      replace hf := (if_pos c50).symm.trans hf
      refine lv_iconst (v := 0) hx hb dX7_endDo_23 (by decide) ?_
      refine lv_istore_n (lv' := [(2, .int 0), (0, .ref (Q.o 3)), (1, .ref x1)]) hx hb dX7_endDo_24 rfl hl (by decide) rfl (fun ls hl => ?_)
      exact j_X7_endDo_25 l dC dI Q N d E1 E2 hE1 hE2 hm1 hm2 (CS.hs σ) R hx hb hr hml hown hts hlocks hZ hA hK p46.2 x1 0 _ _ _ hf h49 hC (lv_sub hl [1, 2, 0] rfl)
    ·
      replace hf := (if_neg c50).symm.trans hf
      exact j_X7_endDo_19 l dC dI Q N d E1 E2 hE1 hE2 hm1 hm2 (CS.hs σ) R hx hb hr hml hown hts hlocks hZ hA hK p46.2 x1 _ _ _ hf h49 hC (lv_sub hl [0, 1] rfl)
theorem i_X7_endBody_X5 : ∀ w ∈ wsX50, w ∈ wzX7_endBody := fun _ h => List.mem_cons_of_mem _ (List.mem_append_right _ (List.mem_append_right _ (List.mem_append_right _ (List.mem_append_right _ (List.mem_append_right _ (List.mem_append_right _ (List.mem_append_right _ (List.mem_append_right _ (List.mem_append_right _ (List.mem_append_right _ (List.mem_append_right _ (List.mem_append_right _ (List.mem_append_right _ (List.mem_append_right _ (List.mem_append_right _ (List.mem_append_right _ (List.mem_append_right _ (List.mem_append_right _ (List.mem_append_right _ (List.mem_append_right _ (List.mem_append_right _ (List.mem_append_right _ (List.mem_append_right _ (List.mem_append_right _ (List.mem_append_right _ (List.mem_append_right _ (List.mem_append_right _ (List.mem_append_right _ (List.mem_append_right _ (List.mem_append_right _ (List.mem_append_right _ (List.mem_append_right _ (List.mem_append_right _ (List.mem_append_right _ (List.mem_append_right _ (List.mem_append_right _ (List.mem_append_right _ (List.mem_append_right _ (List.mem_append_right _ (List.mem_append_right _ (List.mem_append_right _ (List.mem_append_left _ (h)))))))))))))))))))))))))))))))))))))))))))
theorem k_X7_endBody_fieldLink_RX7_20_SR_Statements_code_LSR_Code : Cond.fieldLink RX7 20 "StatementRules2$Statements" "code" "LStatementRules2$Code;" ∈ wzX7_endBody := List.mem_cons_of_mem _ (List.mem_append_right _ (List.mem_append_right _ (List.mem_append_right _ (List.mem_append_right _ (List.mem_append_right _ (List.mem_append_right _ (List.mem_append_right _ (List.mem_append_right _ (List.mem_append_right _ (List.mem_append_right _ (List.mem_append_right _ (List.mem_append_right _ (List.mem_append_right _ (List.mem_append_right _ (List.mem_append_right _ (List.mem_append_right _ (List.mem_append_right _ (List.mem_append_right _ (List.mem_append_right _ (List.mem_append_right _ (List.mem_append_right _ (List.mem_append_right _ (List.mem_append_right _ (List.mem_append_left _ (List.mem_of_getElem? (i := 0) rfl)))))))))))))))))))))))))
theorem k_X7_endBody_sameField_SR_Statements_SR_Formulas_code_LSR_Code : Cond.sameField "StatementRules2$Statements" "StatementRules2$Formulas" "code" "LStatementRules2$Code;" ∈ wzX7_endBody := List.mem_cons_of_mem _ (List.mem_append_right _ (List.mem_append_right _ (List.mem_append_right _ (List.mem_append_right _ (List.mem_append_right _ (List.mem_append_right _ (List.mem_append_right _ (List.mem_append_right _ (List.mem_append_right _ (List.mem_append_right _ (List.mem_append_right _ (List.mem_append_right _ (List.mem_append_right _ (List.mem_append_right _ (List.mem_append_right _ (List.mem_append_right _ (List.mem_append_right _ (List.mem_append_right _ (List.mem_append_right _ (List.mem_append_right _ (List.mem_append_right _ (List.mem_append_right _ (List.mem_append_right _ (List.mem_append_left _ (List.mem_of_getElem? (i := 1) rfl)))))))))))))))))))))))))
theorem i_X7_endBody_X7 : ∀ w ∈ wsX70, w ∈ wzX7_endBody := fun _ h => List.mem_cons_of_mem _ (List.mem_append_right _ (List.mem_append_right _ (List.mem_append_right _ (List.mem_append_right _ (List.mem_append_right _ (List.mem_append_right _ (List.mem_append_right _ (List.mem_append_right _ (List.mem_append_right _ (List.mem_append_right _ (List.mem_append_right _ (List.mem_append_right _ (List.mem_append_right _ (List.mem_append_right _ (List.mem_append_right _ (List.mem_append_right _ (List.mem_append_right _ (List.mem_append_right _ (List.mem_append_right _ (List.mem_append_right _ (List.mem_append_right _ (List.mem_append_right _ (List.mem_append_right _ (List.mem_append_right _ (List.mem_append_right _ (List.mem_append_right _ (List.mem_append_right _ (List.mem_append_right _ (List.mem_append_right _ (List.mem_append_right _ (List.mem_append_right _ (List.mem_append_right _ (List.mem_append_right _ (List.mem_append_right _ (List.mem_append_right _ (List.mem_append_right _ (List.mem_append_left _ (h))))))))))))))))))))))))))))))))))))))
theorem k_X7_endBody_fieldLink_RX7_61_SR_Statements_alive_Z : Cond.fieldLink RX7 61 "StatementRules2$Statements" "alive" "Z" ∈ wzX7_endBody := List.mem_cons_of_mem _ (List.mem_append_right _ (List.mem_append_right _ (List.mem_append_right _ (List.mem_append_right _ (List.mem_append_right _ (List.mem_append_right _ (List.mem_append_right _ (List.mem_append_right _ (List.mem_append_right _ (List.mem_append_right _ (List.mem_append_right _ (List.mem_append_right _ (List.mem_append_right _ (List.mem_append_right _ (List.mem_append_right _ (List.mem_append_right _ (List.mem_append_right _ (List.mem_append_right _ (List.mem_append_right _ (List.mem_append_right _ (List.mem_append_right _ (List.mem_append_right _ (List.mem_append_right _ (List.mem_append_left _ (List.mem_of_getElem? (i := 2) rfl)))))))))))))))))))))))))
theorem k_X7_endBody_fieldLink_RX7_29_SR_Statements_names_LSR_Names : Cond.fieldLink RX7 29 "StatementRules2$Statements" "names" "LStatementRules2$Names;" ∈ wzX7_endBody := List.mem_cons_of_mem _ (List.mem_append_right _ (List.mem_append_right _ (List.mem_append_right _ (List.mem_append_right _ (List.mem_append_right _ (List.mem_append_right _ (List.mem_append_right _ (List.mem_append_right _ (List.mem_append_right _ (List.mem_append_right _ (List.mem_append_right _ (List.mem_append_right _ (List.mem_append_right _ (List.mem_append_right _ (List.mem_append_right _ (List.mem_append_right _ (List.mem_append_right _ (List.mem_append_right _ (List.mem_append_right _ (List.mem_append_right _ (List.mem_append_right _ (List.mem_append_right _ (List.mem_append_right _ (List.mem_append_left _ (List.mem_of_getElem? (i := 3) rfl)))))))))))))))))))))))))
theorem k_X7_endBody_sameField_SR_Statements_SR_Formulas_names_LSR_Names : Cond.sameField "StatementRules2$Statements" "StatementRules2$Formulas" "names" "LStatementRules2$Names;" ∈ wzX7_endBody := List.mem_cons_of_mem _ (List.mem_append_right _ (List.mem_append_right _ (List.mem_append_right _ (List.mem_append_right _ (List.mem_append_right _ (List.mem_append_right _ (List.mem_append_right _ (List.mem_append_right _ (List.mem_append_right _ (List.mem_append_right _ (List.mem_append_right _ (List.mem_append_right _ (List.mem_append_right _ (List.mem_append_right _ (List.mem_append_right _ (List.mem_append_right _ (List.mem_append_right _ (List.mem_append_right _ (List.mem_append_right _ (List.mem_append_right _ (List.mem_append_right _ (List.mem_append_right _ (List.mem_append_right _ (List.mem_append_left _ (List.mem_of_getElem? (i := 4) rfl)))))))))))))))))))))))))
theorem i_X7_endBody_X4 : ∀ w ∈ wsX40, w ∈ wzX7_endBody := fun _ h => List.mem_cons_of_mem _ (List.mem_append_right _ (List.mem_append_right _ (List.mem_append_right _ (List.mem_append_right _ (List.mem_append_right _ (List.mem_append_right _ (List.mem_append_right _ (List.mem_append_right _ (List.mem_append_right _ (List.mem_append_right _ (List.mem_append_right _ (List.mem_append_right _ (List.mem_append_right _ (List.mem_append_right _ (List.mem_append_right _ (List.mem_append_right _ (List.mem_append_right _ (List.mem_append_right _ (List.mem_append_right _ (List.mem_append_right _ (List.mem_append_right _ (List.mem_append_right _ (List.mem_append_right _ (List.mem_append_right _ (List.mem_append_right _ (List.mem_append_right _ (List.mem_append_right _ (List.mem_append_right _ (List.mem_append_right _ (List.mem_append_right _ (List.mem_append_right _ (List.mem_append_right _ (List.mem_append_right _ (List.mem_append_right _ (List.mem_append_right _ (List.mem_append_right _ (List.mem_append_right _ (List.mem_append_right _ (List.mem_append_right _ (List.mem_append_right _ (List.mem_append_left _ (h))))))))))))))))))))))))))))))))))))))))))
theorem k_X7_endBody_fieldLink_RX7_14_SR_Statements_opens_LSR_Opens : Cond.fieldLink RX7 14 "StatementRules2$Statements" "opens" "LStatementRules2$Opens;" ∈ wzX7_endBody := List.mem_cons_of_mem _ (List.mem_append_right _ (List.mem_append_right _ (List.mem_append_right _ (List.mem_append_right _ (List.mem_append_right _ (List.mem_append_right _ (List.mem_append_right _ (List.mem_append_right _ (List.mem_append_right _ (List.mem_append_right _ (List.mem_append_right _ (List.mem_append_right _ (List.mem_append_right _ (List.mem_append_right _ (List.mem_append_right _ (List.mem_append_right _ (List.mem_append_right _ (List.mem_append_right _ (List.mem_append_right _ (List.mem_append_right _ (List.mem_append_right _ (List.mem_append_right _ (List.mem_append_right _ (List.mem_append_left _ (List.mem_of_getElem? (i := 5) rfl)))))))))))))))))))))))))
set_option maxHeartbeats 4000000 in
set_option maxRecDepth 100000 in
theorem j_X7_endBody_193 {p : Program} {e : Env} {s : State} {m : MethodId} {args : Array Value} {below : List Frame} {meth : Method} {c : Code} {A : Nat → Prop} (l : Launch) (dC : Nat → ClassId) (dI : Nat → Nat → Nat) (Q : CQ) (N : Nat) (d : Nat) (E1 : CS → Option (Unit × CS)) (E2 : CS → Option (Int32 × CS)) (hE1 : cMF l dC dI Q d E1) (hE2 : cMO l dC dI Q d E2) (hm1 : ∀ σ, Mono (CS.hs σ) (E1 σ)) (hm2 : ∀ σ, Mono (CS.hs σ) (E2 σ)) (z9h : Nat) (R : Unit × CS) (hx : p.tables.exec = Jvm.exec) (hb : c.code = cX7_endBody) (hr : meth.sig.returnType = none) (hml : c.maxLocals = 2) (hown : s.vm.findClass RX7 = some m.cls) (hts : ∀ w ∈ wzX7_endBody, w.before args s = true) (hlocks : meth.locks = false) (hZ : zAMB s) (hA : ∀ q : Nat, s.heap.size ≤ q → A q) (hK : va_K (dC, dI) vwCl (cT Q) s) : ∀ (σ : CS) (x1 : Nat) (H : Heap) (locs : List Loc) (ls : Array Slot), f_X7_endBody_193 N E1 E2 σ x1 = some R → z9h ≤ CS.hs σ → CP dC dI Q A s.heap σ H locs → lv_has ls 2 [(0, .ref (Q.o 3)), (1, .ref x1)] → W p l e ({ frames := (15 + 40 * d), cells := CS.hs R.2 - z9h, slots := 17 * (CS.hs R.2 - z9h), locals := 60 * (15 + 40 * d) }) s m args below meth c H locs (CS.hs σ - z9h) (17 * (CS.hs σ - z9h)) (MQ below (va_Qv (fun (_ : Unit) => True) (fun (_ : Unit) (t : State) => zPost dC dI A (cW Q R.2) (cT Q) t ∧ t.heap.size = CS.hs R.2) A) args s (CS.hs R.2 - z9h) (17 * (CS.hs R.2 - z9h)) A) (F0 m 193 ls []) := by
  intro σ x1 H locs ls hf h0 hC hl
  unfold f_X7_endBody_193 at hf
  refine lv_aload_n hx hb dX7_endBody_193 rfl (lv_at hl 0 rfl) ?_
  refine cG_31 hx hb hts i_X7_endBody_X7 hown hK hC (hts (.fieldLink RX7 29 "StatementRules2$Statements" "names" "LStatementRules2$Names;") k_X7_endBody_fieldLink_RX7_29_SR_Statements_names_LSR_Names) (fun x9 q9 => u_same (hts (.sameField "StatementRules2$Statements" "StatementRules2$Formulas" "names" "LStatementRules2$Names;") k_X7_endBody_sameField_SR_Statements_SR_Formulas_names_LSR_Names) x9 q9) dX7_endBody_194 ?_
  refine lv_aload_n hx hb dX7_endBody_197 rfl (lv_at hl 1 rfl) ?_
  obtain ⟨b13, hf⟩ := hf_ite hf
  refine pGN_X5_3 (v := (CS.o σ x1 3)) hx hb hts i_X7_endBody_X5 hown hK hC (va_Nw.use rfl (hZ.1 (.fieldLinkNest RX7 338 "StatementRules2$Open" "namesBefore" "I" "StatementRules2") (by decide +kernel))) (fun _ q9 => q9) dX7_endBody_198 b13 rfl ?_
  refine cPN_50 (v := (CS.o σ x1 3)) hx hb hts i_X7_endBody_X4 hown hK hC (va_Nw.use rfl (hZ.1 (.fieldLinkNest RX7 33 "StatementRules2$Names" "count" "I" "StatementRules2") (by decide +kernel))) (fun _ q9 => q9) dX7_endBody_201 (fun H locs hC => ?_)
  refine lv_aload_n hx hb dX7_endBody_204 rfl (lv_at hl 0 rfl) ?_
  refine cG_35 hx hb hts i_X7_endBody_X7 hown hK hC (hts (.fieldLink RX7 14 "StatementRules2$Statements" "opens" "LStatementRules2$Opens;") k_X7_endBody_fieldLink_RX7_14_SR_Statements_opens_LSR_Opens) (fun _ q9 => q9) dX7_endBody_205 ?_
  obtain ⟨p14, hcp14, hf⟩ := hf_bind hf
  have mo15 : CS.hs σ ≤ CS.hs p14.2 := Mono.go hcp14 (m_X6_pop N (CS.setI σ 50 (CS.o σ x1 3)))
  have hr9 : CS.hs p14.2 ≤ CS.hs R.2 := Mono.go hf (mono_some (Nat.le_refl _))
  have hFc := cFree hC hA
  refine va_callv (va_runV (As := []) (rest := []) ⟨hx, hb, hml, hown, hts⟩ (c_X6_pop l dC dI Q N (CS.setI σ 50 (CS.o σ x1 3)) p14 hcp14) (cwV 0 hts hX7_endBody_X6_pop_v369 rfl rfl rfl (by decide +kernel) ⟨(show 1 + 1 ≤ (15 + 40 * d) by omega), (show 8 + (1 + 11) + 60 * 1 ≤ 60 * (15 + 40 * d) by omega)⟩) ⟨zPre.blind, va_recv hK hC.1 (ci := 5) (q0 := 6) rfl rfl, cPre_go hZ hK hC⟩ rfl rfl hl.1 rfl (lv_room (Nat.le_of_ble_eq_true rfl)) dX7_endBody_208 (cAcc h0 mo15 hr9)) hC.2.2.1 (fun q _ h => hFc q h) hFc (fun u9 t9 H1 locs ht hvm hw hB hz1 hk1 hS => ?_)
  obtain ⟨⟨hP, hK1, hD1⟩, hsz1⟩ := hB
  rw [ht] at hP hsz1
  have hC : CP dC dI Q A s.heap p14.2 H1 locs := ⟨hP, hD1.weaken (fun _ _ _ h => hFc _ h), hS, hsz1⟩
  generalize H1 = H at hC ⊢
  have h17 : z9h ≤ CS.hs p14.2 := Nat.le_trans h0 mo15
  refine W.widen (k := CS.hs p14.2 - z9h) (n := 17 * (CS.hs p14.2 - z9h)) (cAcc2 h0 mo15) (cAcc3 h0 mo15) ?_
  obtain rfl := Option.some.inj hf
  exact W.vret hx hb hr (fun t ht hW => ⟨⟨(), rfl, trivial, ⟨by rw [ht]; exact hC.1, va_K.moved hW.alike hK, hC.2.1⟩, by rw [ht]; exact hC.2.2.2⟩, hC.2.2.1.F ht⟩) hC.2.2.1.2.2 dX7_endBody_211
set_option maxHeartbeats 4000000 in
set_option maxRecDepth 100000 in
theorem j_X7_endBody_88 {p : Program} {e : Env} {s : State} {m : MethodId} {args : Array Value} {below : List Frame} {meth : Method} {c : Code} {A : Nat → Prop} (l : Launch) (dC : Nat → ClassId) (dI : Nat → Nat → Nat) (Q : CQ) (N : Nat) (d : Nat) (E1 : CS → Option (Unit × CS)) (E2 : CS → Option (Int32 × CS)) (hE1 : cMF l dC dI Q d E1) (hE2 : cMO l dC dI Q d E2) (hm1 : ∀ σ, Mono (CS.hs σ) (E1 σ)) (hm2 : ∀ σ, Mono (CS.hs σ) (E2 σ)) (z9h : Nat) (R : Unit × CS) (hx : p.tables.exec = Jvm.exec) (hb : c.code = cX7_endBody) (hr : meth.sig.returnType = none) (hml : c.maxLocals = 2) (hown : s.vm.findClass RX7 = some m.cls) (hts : ∀ w ∈ wzX7_endBody, w.before args s = true) (hlocks : meth.locks = false) (hZ : zAMB s) (hA : ∀ q : Nat, s.heap.size ≤ q → A q) (hK : va_K (dC, dI) vwCl (cT Q) s) : ∀ (σ : CS) (x1 : Nat) (H : Heap) (locs : List Loc) (ls : Array Slot), f_X7_endBody_88 N E1 E2 σ x1 = some R → z9h ≤ CS.hs σ → CP dC dI Q A s.heap σ H locs → lv_has ls 2 [(0, .ref (Q.o 3)), (1, .ref x1)] → W p l e ({ frames := (15 + 40 * d), cells := CS.hs R.2 - z9h, slots := 17 * (CS.hs R.2 - z9h), locals := 60 * (15 + 40 * d) }) s m args below meth c H locs (CS.hs σ - z9h) (17 * (CS.hs σ - z9h)) (MQ below (va_Qv (fun (_ : Unit) => True) (fun (_ : Unit) (t : State) => zPost dC dI A (cW Q R.2) (cT Q) t ∧ t.heap.size = CS.hs R.2) A) args s (CS.hs R.2 - z9h) (17 * (CS.hs R.2 - z9h)) A) (F0 m 88 ls []) := by
  intro σ x1 H locs ls hf h0 hC hl
  unfold f_X7_endBody_88 at hf
  refine lv_goto (tgt := 193) hx hb dX7_endBody_88 (by decide) ?_
  exact j_X7_endBody_193 l dC dI Q N d E1 E2 hE1 hE2 hm1 hm2 z9h R hx hb hr hml hown hts hlocks hZ hA hK σ x1 _ _ _ hf h0 hC (lv_sub hl [0, 1] rfl)
set_option maxHeartbeats 4000000 in
set_option maxRecDepth 100000 in
theorem j_X7_endBody_130 {p : Program} {e : Env} {s : State} {m : MethodId} {args : Array Value} {below : List Frame} {meth : Method} {c : Code} {A : Nat → Prop} (l : Launch) (dC : Nat → ClassId) (dI : Nat → Nat → Nat) (Q : CQ) (N : Nat) (d : Nat) (E1 : CS → Option (Unit × CS)) (E2 : CS → Option (Int32 × CS)) (hE1 : cMF l dC dI Q d E1) (hE2 : cMO l dC dI Q d E2) (hm1 : ∀ σ, Mono (CS.hs σ) (E1 σ)) (hm2 : ∀ σ, Mono (CS.hs σ) (E2 σ)) (z9h : Nat) (R : Unit × CS) (hx : p.tables.exec = Jvm.exec) (hb : c.code = cX7_endBody) (hr : meth.sig.returnType = none) (hml : c.maxLocals = 2) (hown : s.vm.findClass RX7 = some m.cls) (hts : ∀ w ∈ wzX7_endBody, w.before args s = true) (hlocks : meth.locks = false) (hZ : zAMB s) (hA : ∀ q : Nat, s.heap.size ≤ q → A q) (hK : va_K (dC, dI) vwCl (cT Q) s) : ∀ (σ : CS) (x1 : Nat) (H : Heap) (locs : List Loc) (ls : Array Slot), f_X7_endBody_130 N E1 E2 σ x1 = some R → z9h ≤ CS.hs σ → CP dC dI Q A s.heap σ H locs → lv_has ls 2 [(0, .ref (Q.o 3)), (1, .ref x1)] → W p l e ({ frames := (15 + 40 * d), cells := CS.hs R.2 - z9h, slots := 17 * (CS.hs R.2 - z9h), locals := 60 * (15 + 40 * d) }) s m args below meth c H locs (CS.hs σ - z9h) (17 * (CS.hs σ - z9h)) (MQ below (va_Qv (fun (_ : Unit) => True) (fun (_ : Unit) (t : State) => zPost dC dI A (cW Q R.2) (cT Q) t ∧ t.heap.size = CS.hs R.2) A) args s (CS.hs R.2 - z9h) (17 * (CS.hs R.2 - z9h)) A) (F0 m 130 ls []) := by
  intro σ x1 H locs ls hf h0 hC hl
  unfold f_X7_endBody_130 at hf
  refine lv_goto (tgt := 193) hx hb dX7_endBody_130 (by decide) ?_
  exact j_X7_endBody_193 l dC dI Q N d E1 E2 hE1 hE2 hm1 hm2 z9h R hx hb hr hml hown hts hlocks hZ hA hK σ x1 _ _ _ hf h0 hC (lv_sub hl [0, 1] rfl)
set_option maxHeartbeats 4000000 in
set_option maxRecDepth 100000 in
theorem c_X7_endBody (l : Launch) (dC : Nat → ClassId) (dI : Nat → Nat → Nat) (Q : CQ) (N : Nat) (d : Nat) (E1 : CS → Option (Unit × CS)) (E2 : CS → Option (Int32 × CS)) (hE1 : cMF l dC dI Q d E1) (hE2 : cMO l dC dI Q d E2) (hm1 : ∀ σ, Mono (CS.hs σ) (E1 σ)) (hm2 : ∀ σ, Mono (CS.hs σ) (E2 σ)) (σ : CS) (x1 : Nat) (R : Unit × CS) (hf : f_X7_endBody N E1 E2 σ x1 = some R) : Met l yX7_endBody wzX7_endBody ({ frames := (15 + 40 * d), cells := CS.hs R.2 - CS.hs σ, slots := 17 * (CS.hs R.2 - CS.hs σ), locals := 60 * (15 + 40 * d) }) (va_Pc [.ref (Q.o 3), .ref x1] (zPre dC dI (CS.hs σ) (cW Q σ) (cT Q))) (va_Qv (fun (_ : Unit) => True) (fun (_ : Unit) (t : State) => zPost dC dI (va_A (cW Q σ) (CS.hs σ)) (cW Q R.2) (cT Q) t ∧ t.heap.size = CS.hs R.2) (va_A (cW Q σ) (CS.hs σ))) (CS.hs R.2 - CS.hs σ) (17 * (CS.hs R.2 - CS.hs σ)) (va_A (cW Q σ) (CS.hs σ)) := by
  refine Met.ofW (cc := cX7_endBody) (maxL := 2) (ret := none) (by decide) rfl ?_
  intro p e s m args below meth c s₁ B hml hv
  obtain ⟨rfl, hsz, hZ, hP, hK, hD0⟩ := hv
  have hx := B.exec
  have hb := B.bytes
  have hr := B.returns
  have hts := atoms_spec (ws := wzX7_endBody) B.pre
  have hown : s.vm.findClass RX7 = some m.cls := findClass_of_methodNamed B.named
  have hlocks := B.notSynchronized
  have hD := hD0.self (sz := CS.hs σ)
  generalize hAe : va_A (cW Q σ) (CS.hs σ) = A at hD ⊢
  have hA : ∀ q : Nat, s.heap.size ≤ q → A q := fun q h => by rw [← hAe]; exact Or.inr (hsz ▸ h)
  have hC : CP dC dI Q A s.heap σ s.heap [] := ⟨hP, hD, va_S.rf, hsz⟩
  have h0 : CS.hs σ ≤ CS.hs σ := Nat.le_refl _
  have hl := lv_entry ([.ref (Q.o 3), .ref x1]) (n := 2) (Nat.le_of_ble_eq_true rfl)
  rw [lg_entry_eq]
  generalize (lg_sl ([.ref (Q.o 3), .ref x1]) ++ List.replicate (2 - (lg_sl ([.ref (Q.o 3), .ref x1])).length) Slot.unset).toArray = ls at hl ⊢
  have hl : lv_has ls 2 [(0, .ref (Q.o 3)), (1, .ref x1)] := hl
  unfold f_X7_endBody at hf
  refine W.widen (k := CS.hs σ - CS.hs σ) (n := 17 * (CS.hs σ - CS.hs σ)) (Nat.zero_le _) (Nat.zero_le _) ?_
  refine lv_aload_n hx hb dX7_endBody_0 rfl (lv_at hl 1 rfl) ?_
  obtain ⟨b1, hf⟩ := hf_ite hf
  refine pGN_X5_0 (v := (CS.o σ x1 0)) hx hb hts i_X7_endBody_X5 hown hK hC (va_Nw.use rfl (hZ.1 (.fieldLinkNest RX7 107 "StatementRules2$Open" "sort" "I" "StatementRules2") (by decide +kernel))) (fun _ q9 => q9) dX7_endBody_1 b1 rfl ?_
  by_cases c2 : (CS.o σ x1 0) = 203
  ·
    replace hf := (if_pos c2).symm.trans hf
    refine lv_lookup (off := 44) (tgt := 48) hx hb dX7_endBody_4 (by decide) (by rw [c2]; decide) (by decide) ?_
    refine lv_aload_n hx hb dX7_endBody_48 rfl (lv_at hl 0 rfl) ?_
    refine lv_aload_n hx hb dX7_endBody_49 rfl (lv_at hl 1 rfl) ?_
    obtain ⟨p3, hcp3, hf⟩ := hf_bind hf
    have mo4 : CS.hs σ ≤ CS.hs p3.2 := Mono.go hcp3 (m_X7_endIf N σ x1)
    have hr9 : CS.hs p3.2 ≤ CS.hs R.2 := Mono.go hf (mono_some (Nat.le_refl _))
    have hFc := cFree hC hA
    refine va_callv (va_runV (As := [.ref x1]) (rest := []) ⟨hx, hb, hml, hown, hts⟩ (c_X7_endIf l dC dI Q N σ x1 p3 hcp3) (cwV 1 hts hX7_endBody_X7_endIf_v356 rfl rfl rfl (by decide +kernel) ⟨(show 5 + 1 ≤ (15 + 40 * d) by omega), (show 8 + (2 + 11) + 60 * 5 ≤ 60 * (15 + 40 * d) by omega)⟩) ⟨zPre.blind, va_recv hK hC.1 (ci := 6) (q0 := 3) rfl rfl, cPre_go hZ hK hC⟩ rfl rfl hl.1 rfl (lv_room (Nat.le_of_ble_eq_true rfl)) dX7_endBody_50 (cAcc h0 mo4 hr9)) hC.2.2.1 (fun q _ h => hFc q h) hFc (fun u9 t9 H1 locs ht hvm hw hB hz1 hk1 hS => ?_)
    obtain ⟨⟨hP, hK1, hD1⟩, hsz1⟩ := hB
    rw [ht] at hP hsz1
    have hC : CP dC dI Q A s.heap p3.2 H1 locs := ⟨hP, hD1.weaken (fun _ _ _ h => hFc _ h), hS, hsz1⟩
    generalize H1 = H at hC ⊢
    have h6 : (CS.hs σ) ≤ CS.hs p3.2 := Nat.le_trans h0 mo4
    refine W.widen (k := CS.hs p3.2 - (CS.hs σ)) (n := 17 * (CS.hs p3.2 - (CS.hs σ))) (cAcc2 h0 mo4) (cAcc3 h0 mo4) ?_
    obtain rfl := Option.some.inj hf
    exact W.vret hx hb hr (fun t ht hW => ⟨⟨(), rfl, trivial, ⟨by rw [ht]; exact hC.1, va_K.moved hW.alike hK, hC.2.1⟩, by rw [ht]; exact hC.2.2.2⟩, hC.2.2.1.F ht⟩) hC.2.2.1.2.2 dX7_endBody_53
  replace hf := (if_neg c2).symm.trans hf
  by_cases c7 : (CS.o σ x1 0) = 204
  ·
    replace hf := (if_pos c7).symm.trans hf
    refine lv_lookup (off := 50) (tgt := 54) hx hb dX7_endBody_4 (by decide) (by rw [c7]; decide) (by decide) ?_
    refine lv_aload_n hx hb dX7_endBody_54 rfl (lv_at hl 0 rfl) ?_
    refine cG_29 hx hb hts i_X7_endBody_X7 hown hK hC (hts (.fieldLink RX7 20 "StatementRules2$Statements" "code" "LStatementRules2$Code;") k_X7_endBody_fieldLink_RX7_20_SR_Statements_code_LSR_Code) (fun x9 q9 => u_same (hts (.sameField "StatementRules2$Statements" "StatementRules2$Formulas" "code" "LStatementRules2$Code;") k_X7_endBody_sameField_SR_Statements_SR_Formulas_code_LSR_Code) x9 q9) dX7_endBody_55 ?_
    refine lv_aload_n hx hb dX7_endBody_58 rfl (lv_at hl 1 rfl) ?_
    refine pGN_X5_9 (v := (CS.o σ x1 9)) hx hb hts i_X7_endBody_X5 hown hK hC (va_Nw.use rfl (hZ.1 (.fieldLinkNest RX7 196 "StatementRules2$Open" "exit" "I" "StatementRules2") (by decide +kernel))) (fun _ q9 => q9) dX7_endBody_59 b1 rfl ?_
    obtain ⟨p8, hcp8, hf⟩ := hf_bind hf
    have mo9 : CS.hs σ ≤ CS.hs p8.2 := Mono.go hcp8 (m_X0_aim N σ (CS.o σ x1 9))
    have hr9 : CS.hs p8.2 ≤ CS.hs R.2 := Mono.go hf (mono_ite (mono_ite (mono_ite (m_X7_endBody_88 N E1 E2 hm1 hm2 (CS.setI p8.2 36 0) x1) (m_X7_endBody_88 N E1 E2 hm1 hm2 (CS.setI p8.2 36 1) x1)) mono_none) (m_X7_endBody_88 N E1 E2 hm1 hm2 (CS.setI p8.2 36 1) x1))
    have hFc := cFree hC hA
    refine va_callv (va_runV (As := [.int (CS.o σ x1 9)]) (rest := []) ⟨hx, hb, hml, hown, hts⟩ (c_X0_aim l dC dI Q N σ (CS.o σ x1 9) p8 hcp8) (cwV 1 hts hX7_endBody_X0_aim_v158 rfl rfl rfl (by decide +kernel) ⟨(show 2 + 1 ≤ (15 + 40 * d) by omega), (show 8 + (2 + 11) + 60 * 2 ≤ 60 * (15 + 40 * d) by omega)⟩) ⟨zPre.blind, va_recv hK hC.1 (ci := 0) (q0 := 2) rfl rfl, cPre_go hZ hK hC⟩ rfl rfl hl.1 rfl (lv_room (Nat.le_of_ble_eq_true rfl)) dX7_endBody_62 (cAcc h0 mo9 hr9)) hC.2.2.1 (fun q _ h => hFc q h) hFc (fun u9 t9 H1 locs ht hvm hw hB hz1 hk1 hS => ?_)
    obtain ⟨⟨hP, hK1, hD1⟩, hsz1⟩ := hB
    rw [ht] at hP hsz1
    have hC : CP dC dI Q A s.heap p8.2 H1 locs := ⟨hP, hD1.weaken (fun _ _ _ h => hFc _ h), hS, hsz1⟩
    generalize H1 = H at hC ⊢
    have h11 : (CS.hs σ) ≤ CS.hs p8.2 := Nat.le_trans h0 mo9
    refine W.widen (k := CS.hs p8.2 - (CS.hs σ)) (n := 17 * (CS.hs p8.2 - (CS.hs σ))) (cAcc2 h0 mo9) (cAcc3 h0 mo9) ?_
    refine lv_aload_n hx hb dX7_endBody_65 rfl (lv_at hl 0 rfl) ?_
    refine lv_aload_n hx hb dX7_endBody_66 rfl (lv_at hl 0 rfl) ?_
    refine cG_36 (v := (p8.2.i 36)) hx hb hts i_X7_endBody_X7 hown hK hC (hts (.fieldLink RX7 61 "StatementRules2$Statements" "alive" "Z") k_X7_endBody_fieldLink_RX7_61_SR_Statements_alive_Z) (fun _ q9 => q9) dX7_endBody_67 rfl ?_
    refine lv_if_ne (tgt := 80) hx hb dX7_endBody_70 (by decide) (fun c12 => ?_) (fun c12 => ?_)
    ·
      replace hf := (if_neg c12).symm.trans hf
      refine lv_iconst (v := 1) hx hb dX7_endBody_80 (by decide) ?_
      refine lv_goto (tgt := 85) hx hb dX7_endBody_81 (by decide) ?_
      refine cP_36 (v := 1) hx hb hts i_X7_endBody_X7 hown hK hC (hts (.fieldLink RX7 61 "StatementRules2$Statements" "alive" "Z") k_X7_endBody_fieldLink_RX7_61_SR_Statements_alive_Z) (fun _ q9 => q9) dX7_endBody_85 (by decide) (fun H locs hC => ?_)
      exact j_X7_endBody_88 l dC dI Q N d E1 E2 hE1 hE2 hm1 hm2 (CS.hs σ) R hx hb hr hml hown hts hlocks hZ hA hK (CS.setI p8.2 36 1) x1 _ _ _ hf h11 hC (lv_sub hl [0, 1] rfl)
    ·
      replace hf := (if_pos c12).symm.trans hf
      refine lv_aload_n hx hb dX7_endBody_73 rfl (lv_at hl 1 rfl) ?_
      obtain ⟨b18, hf⟩ := hf_ite hf
      refine pGN_X5_6 (v := (CS.o p8.2 x1 6)) hx hb hts i_X7_endBody_X5 hown hK hC (va_Nw.use rfl (hZ.1 (.fieldLinkNest RX7 359 "StatementRules2$Open" "ends" "Z" "StatementRules2") (by decide +kernel))) (fun _ q9 => q9) dX7_endBody_74 b18 rfl ?_
      refine lv_if_eq (tgt := 84) hx hb dX7_endBody_77 (by decide) (fun c19 => ?_) (fun c19 => ?_)
      ·
        replace hf := (if_pos c19).symm.trans hf
        refine lv_iconst (v := 0) hx hb dX7_endBody_84 (by decide) ?_
        refine cP_36 (v := 0) hx hb hts i_X7_endBody_X7 hown hK hC (hts (.fieldLink RX7 61 "StatementRules2$Statements" "alive" "Z") k_X7_endBody_fieldLink_RX7_61_SR_Statements_alive_Z) (fun _ q9 => q9) dX7_endBody_85 (by decide) (fun H locs hC => ?_)
        exact j_X7_endBody_88 l dC dI Q N d E1 E2 hE1 hE2 hm1 hm2 (CS.hs σ) R hx hb hr hml hown hts hlocks hZ hA hK (CS.setI p8.2 36 0) x1 _ _ _ hf h11 hC (lv_sub hl [0, 1] rfl)
      ·
        replace hf := (if_neg c19).symm.trans hf
        refine lv_iconst (v := 1) hx hb dX7_endBody_80 (by decide) ?_
        refine lv_goto (tgt := 85) hx hb dX7_endBody_81 (by decide) ?_
        refine cP_36 (v := 1) hx hb hts i_X7_endBody_X7 hown hK hC (hts (.fieldLink RX7 61 "StatementRules2$Statements" "alive" "Z") k_X7_endBody_fieldLink_RX7_61_SR_Statements_alive_Z) (fun _ q9 => q9) dX7_endBody_85 (by decide) (fun H locs hC => ?_)
        exact j_X7_endBody_88 l dC dI Q N d E1 E2 hE1 hE2 hm1 hm2 (CS.hs σ) R hx hb hr hml hown hts hlocks hZ hA hK (CS.setI p8.2 36 1) x1 _ _ _ hf h11 hC (lv_sub hl [0, 1] rfl)
  replace hf := (if_neg c7).symm.trans hf
  by_cases c20 : (CS.o σ x1 0) = 206
  ·
    replace hf := (if_pos c20).symm.trans hf
    refine lv_lookup (off := 129) (tgt := 133) hx hb dX7_endBody_4 (by decide) (by rw [c20]; decide) (by decide) ?_
    refine lv_aload_n hx hb dX7_endBody_133 rfl (lv_at hl 0 rfl) ?_
    refine lv_aload_n hx hb dX7_endBody_134 rfl (lv_at hl 1 rfl) ?_
    obtain ⟨p21, hcp21, hf⟩ := hf_bind hf
    have mo22 : CS.hs σ ≤ CS.hs p21.2 := Mono.go hcp21 (m_X7_endDo N E1 E2 hm1 hm2 σ x1)
    have hr9 : CS.hs p21.2 ≤ CS.hs R.2 := Mono.go hf (m_X7_endBody_193 N E1 E2 hm1 hm2 p21.2 x1)
    have hFc := cFree hC hA
    refine va_callv (va_runV (As := [.ref x1]) (rest := []) ⟨hx, hb, hml, hown, hts⟩ (c_X7_endDo l dC dI Q N d E1 E2 hE1 hE2 hm1 hm2 σ x1 p21 hcp21) (cwV 1 hts hX7_endBody_X7_endDo_v366 rfl rfl rfl (by decide +kernel) ⟨(show (14 + 40 * d) + 1 ≤ (15 + 40 * d) by omega), (show 8 + (4 + 11) + 60 * (14 + 40 * d) ≤ 60 * (15 + 40 * d) by omega)⟩) ⟨zPre.blind, va_recv hK hC.1 (ci := 6) (q0 := 3) rfl rfl, cPre_go hZ hK hC⟩ rfl rfl hl.1 rfl (lv_room (Nat.le_of_ble_eq_true rfl)) dX7_endBody_135 (cAcc h0 mo22 hr9)) hC.2.2.1 (fun q _ h => hFc q h) hFc (fun u9 t9 H1 locs ht hvm hw hB hz1 hk1 hS => ?_)
    obtain ⟨⟨hP, hK1, hD1⟩, hsz1⟩ := hB
    rw [ht] at hP hsz1
    have hC : CP dC dI Q A s.heap p21.2 H1 locs := ⟨hP, hD1.weaken (fun _ _ _ h => hFc _ h), hS, hsz1⟩
    generalize H1 = H at hC ⊢
    have h24 : (CS.hs σ) ≤ CS.hs p21.2 := Nat.le_trans h0 mo22
    refine W.widen (k := CS.hs p21.2 - (CS.hs σ)) (n := 17 * (CS.hs p21.2 - (CS.hs σ))) (cAcc2 h0 mo22) (cAcc3 h0 mo22) ?_
    refine lv_goto (tgt := 193) hx hb dX7_endBody_138 (by decide) ?_
    exact j_X7_endBody_193 l dC dI Q N d E1 E2 hE1 hE2 hm1 hm2 (CS.hs σ) R hx hb hr hml hown hts hlocks hZ hA hK p21.2 x1 _ _ _ hf h24 hC (lv_sub hl [0, 1] rfl)
  replace hf := (if_neg c20).symm.trans hf
  by_cases c25 : (CS.o σ x1 0) = 303
  ·
    replace hf := (if_pos c25).symm.trans hf
    refine lv_lookup (off := 87) (tgt := 91) hx hb dX7_endBody_4 (by decide) (by rw [c25]; decide) (by decide) ?_
    refine lv_aload_n hx hb dX7_endBody_91 rfl (lv_at hl 0 rfl) ?_
    refine cG_29 hx hb hts i_X7_endBody_X7 hown hK hC (hts (.fieldLink RX7 20 "StatementRules2$Statements" "code" "LStatementRules2$Code;") k_X7_endBody_fieldLink_RX7_20_SR_Statements_code_LSR_Code) (fun x9 q9 => u_same (hts (.sameField "StatementRules2$Statements" "StatementRules2$Formulas" "code" "LStatementRules2$Code;") k_X7_endBody_sameField_SR_Statements_SR_Formulas_code_LSR_Code) x9 q9) dX7_endBody_92 ?_
    refine lv_aload_n hx hb dX7_endBody_95 rfl (lv_at hl 1 rfl) ?_
    refine pGN_X5_9 (v := (CS.o σ x1 9)) hx hb hts i_X7_endBody_X5 hown hK hC (va_Nw.use rfl (hZ.1 (.fieldLinkNest RX7 196 "StatementRules2$Open" "exit" "I" "StatementRules2") (by decide +kernel))) (fun _ q9 => q9) dX7_endBody_96 b1 rfl ?_
    obtain ⟨p26, hcp26, hf⟩ := hf_bind hf
    have mo27 : CS.hs σ ≤ CS.hs p26.2 := Mono.go hcp26 (m_X0_aim N σ (CS.o σ x1 9))
    have hr9 : CS.hs p26.2 ≤ CS.hs R.2 := Mono.go hf (mono_ite (mono_bind (m_X6_isGoneTo N p26.2 x1 0) (fun p31 => (mono_ite (m_X7_endBody_130 N E1 E2 hm1 hm2 (CS.setI p31.2 36 0) x1) (m_X7_endBody_130 N E1 E2 hm1 hm2 (CS.setI p31.2 36 1) x1)))) (m_X7_endBody_130 N E1 E2 hm1 hm2 (CS.setI p26.2 36 1) x1))
    have hFc := cFree hC hA
    refine va_callv (va_runV (As := [.int (CS.o σ x1 9)]) (rest := []) ⟨hx, hb, hml, hown, hts⟩ (c_X0_aim l dC dI Q N σ (CS.o σ x1 9) p26 hcp26) (cwV 1 hts hX7_endBody_X0_aim_v158 rfl rfl rfl (by decide +kernel) ⟨(show 2 + 1 ≤ (15 + 40 * d) by omega), (show 8 + (2 + 11) + 60 * 2 ≤ 60 * (15 + 40 * d) by omega)⟩) ⟨zPre.blind, va_recv hK hC.1 (ci := 0) (q0 := 2) rfl rfl, cPre_go hZ hK hC⟩ rfl rfl hl.1 rfl (lv_room (Nat.le_of_ble_eq_true rfl)) dX7_endBody_99 (cAcc h0 mo27 hr9)) hC.2.2.1 (fun q _ h => hFc q h) hFc (fun u9 t9 H1 locs ht hvm hw hB hz1 hk1 hS => ?_)
    obtain ⟨⟨hP, hK1, hD1⟩, hsz1⟩ := hB
    rw [ht] at hP hsz1
    have hC : CP dC dI Q A s.heap p26.2 H1 locs := ⟨hP, hD1.weaken (fun _ _ _ h => hFc _ h), hS, hsz1⟩
    generalize H1 = H at hC ⊢
    have h29 : (CS.hs σ) ≤ CS.hs p26.2 := Nat.le_trans h0 mo27
    refine W.widen (k := CS.hs p26.2 - (CS.hs σ)) (n := 17 * (CS.hs p26.2 - (CS.hs σ))) (cAcc2 h0 mo27) (cAcc3 h0 mo27) ?_
    refine lv_aload_n hx hb dX7_endBody_102 rfl (lv_at hl 0 rfl) ?_
    refine lv_aload_n hx hb dX7_endBody_103 rfl (lv_at hl 0 rfl) ?_
    refine cG_36 (v := (p26.2.i 36)) hx hb hts i_X7_endBody_X7 hown hK hC (hts (.fieldLink RX7 61 "StatementRules2$Statements" "alive" "Z") k_X7_endBody_fieldLink_RX7_61_SR_Statements_alive_Z) (fun _ q9 => q9) dX7_endBody_104 rfl ?_
    refine lv_if_ne (tgt := 122) hx hb dX7_endBody_107 (by decide) (fun c30 => ?_) (fun c30 => ?_)
    ·
      replace hf := (if_neg c30).symm.trans hf
      refine lv_iconst (v := 1) hx hb dX7_endBody_122 (by decide) ?_
      refine lv_goto (tgt := 127) hx hb dX7_endBody_123 (by decide) ?_
      refine cP_36 (v := 1) hx hb hts i_X7_endBody_X7 hown hK hC (hts (.fieldLink RX7 61 "StatementRules2$Statements" "alive" "Z") k_X7_endBody_fieldLink_RX7_61_SR_Statements_alive_Z) (fun _ q9 => q9) dX7_endBody_127 (by decide) (fun H locs hC => ?_)
      exact j_X7_endBody_130 l dC dI Q N d E1 E2 hE1 hE2 hm1 hm2 (CS.hs σ) R hx hb hr hml hown hts hlocks hZ hA hK (CS.setI p26.2 36 1) x1 _ _ _ hf h29 hC (lv_sub hl [0, 1] rfl)
    ·
      replace hf := (if_pos c30).symm.trans hf
      refine lv_aload_n hx hb dX7_endBody_110 rfl (lv_at hl 0 rfl) ?_
      refine cG_35 hx hb hts i_X7_endBody_X7 hown hK hC (hts (.fieldLink RX7 14 "StatementRules2$Statements" "opens" "LStatementRules2$Opens;") k_X7_endBody_fieldLink_RX7_14_SR_Statements_opens_LSR_Opens) (fun _ q9 => q9) dX7_endBody_111 ?_
      refine lv_aload_n hx hb dX7_endBody_114 rfl (lv_at hl 1 rfl) ?_
      refine lv_iconst (v := 0) hx hb dX7_endBody_115 (by decide) ?_
      obtain ⟨p31, hcp31, hf⟩ := hf_bind hf
      have mo32 : CS.hs p26.2 ≤ CS.hs p31.2 := Mono.go hcp31 (m_X6_isGoneTo N p26.2 x1 0)
      have hr9 : CS.hs p31.2 ≤ CS.hs R.2 := Mono.go hf (mono_ite (m_X7_endBody_130 N E1 E2 hm1 hm2 (CS.setI p31.2 36 0) x1) (m_X7_endBody_130 N E1 E2 hm1 hm2 (CS.setI p31.2 36 1) x1))
      have hFc := cFree hC hA
      refine va_calli (va_runV (As := [.ref x1, .int 0]) (rest := [.ref (Q.o 3)]) ⟨hx, hb, hml, hown, hts⟩ (c_X6_isGoneTo l dC dI Q N p26.2 x1 0 p31 hcp31) (cwV 2 hts hX7_endBody_X6_isGoneTo_v362 rfl rfl rfl (by decide +kernel) ⟨(show 2 + 1 ≤ (15 + 40 * d) by omega), (show 8 + (4 + 11) + 60 * 2 ≤ 60 * (15 + 40 * d) by omega)⟩) ⟨zPre.blind, va_recv hK hC.1 (ci := 5) (q0 := 6) rfl rfl, cPre_go hZ hK hC⟩ rfl rfl hl.1 rfl (lv_room (Nat.le_of_ble_eq_true rfl)) dX7_endBody_116 (cAcc h29 mo32 hr9)) hC.2.2.1 (fun q _ h => hFc q h) hFc (fun r33 u9 t9 H1 locs ht hvm hw hB hz1 hk1 hS => ?_)
      obtain ⟨⟨hP, hK1, hD1⟩, hsz1⟩ := hB
      rw [ht] at hP hsz1
      have hC : CP dC dI Q A s.heap p31.2 H1 locs := ⟨hP, hD1.weaken (fun _ _ _ h => hFc _ h), hS, hsz1⟩
      generalize H1 = H at hC ⊢
      have h34 : (CS.hs σ) ≤ CS.hs p31.2 := Nat.le_trans h29 mo32
      refine W.widen (k := CS.hs p31.2 - (CS.hs σ)) (n := 17 * (CS.hs p31.2 - (CS.hs σ))) (cAcc2 h29 mo32) (cAcc3 h29 mo32) ?_
      obtain rfl : r33 = p31.1 := hw
      refine lv_if_eq (tgt := 126) hx hb dX7_endBody_119 (by decide) (fun c35 => ?_) (fun c35 => ?_)
      ·
        replace hf := (if_pos c35).symm.trans hf
        refine lv_iconst (v := 0) hx hb dX7_endBody_126 (by decide) ?_
        refine cP_36 (v := 0) hx hb hts i_X7_endBody_X7 hown hK hC (hts (.fieldLink RX7 61 "StatementRules2$Statements" "alive" "Z") k_X7_endBody_fieldLink_RX7_61_SR_Statements_alive_Z) (fun _ q9 => q9) dX7_endBody_127 (by decide) (fun H locs hC => ?_)
        exact j_X7_endBody_130 l dC dI Q N d E1 E2 hE1 hE2 hm1 hm2 (CS.hs σ) R hx hb hr hml hown hts hlocks hZ hA hK (CS.setI p31.2 36 0) x1 _ _ _ hf h34 hC (lv_sub hl [0, 1] rfl)
      ·
        replace hf := (if_neg c35).symm.trans hf
        refine lv_iconst (v := 1) hx hb dX7_endBody_122 (by decide) ?_
        refine lv_goto (tgt := 127) hx hb dX7_endBody_123 (by decide) ?_
        refine cP_36 (v := 1) hx hb hts i_X7_endBody_X7 hown hK hC (hts (.fieldLink RX7 61 "StatementRules2$Statements" "alive" "Z") k_X7_endBody_fieldLink_RX7_61_SR_Statements_alive_Z) (fun _ q9 => q9) dX7_endBody_127 (by decide) (fun H locs hC => ?_)
        exact j_X7_endBody_130 l dC dI Q N d E1 E2 hE1 hE2 hm1 hm2 (CS.hs σ) R hx hb hr hml hown hts hlocks hZ hA hK (CS.setI p31.2 36 1) x1 _ _ _ hf h34 hC (lv_sub hl [0, 1] rfl)
  replace hf := (if_neg c25).symm.trans hf
  refine lv_lookup (off := 137) (tgt := 141) hx hb dX7_endBody_4 (by decide) (by show Op.lookupswitch.offset [(203, 44), (204, 50), (206, 129), (303, 87)] 137 ((CS.o σ x1 0) : Int32).toInt = 137; rw [lv_osw (k := 203) (a := 203) c2 (by decide), lv_osw (k := 204) (a := 204) c7 (by decide), lv_osw (k := 206) (a := 206) c20 (by decide), lv_osw (k := 303) (a := 303) c25 (by decide)]; rfl) (by decide) ?_
  refine lv_aload_n hx hb dX7_endBody_141 rfl (lv_at hl 0 rfl) ?_
  refine cG_29 hx hb hts i_X7_endBody_X7 hown hK hC (hts (.fieldLink RX7 20 "StatementRules2$Statements" "code" "LStatementRules2$Code;") k_X7_endBody_fieldLink_RX7_20_SR_Statements_code_LSR_Code) (fun x9 q9 => u_same (hts (.sameField "StatementRules2$Statements" "StatementRules2$Formulas" "code" "LStatementRules2$Code;") k_X7_endBody_sameField_SR_Statements_SR_Formulas_code_LSR_Code) x9 q9) dX7_endBody_142 ?_
  refine lv_bipush (v := 30) hx hb dX7_endBody_145 (by decide) ?_
  refine lv_aload_n hx hb dX7_endBody_147 rfl (lv_at hl 1 rfl) ?_
  refine pGN_X5_10 (v := (CS.o σ x1 10)) hx hb hts i_X7_endBody_X5 hown hK hC (va_Nw.use rfl (hZ.1 (.fieldLinkNest RX7 284 "StatementRules2$Open" "next" "I" "StatementRules2") (by decide +kernel))) (fun _ q9 => q9) dX7_endBody_148 b1 rfl ?_
  obtain ⟨p36, hcp36, hf⟩ := hf_bind hf
  have mo37 : CS.hs σ ≤ CS.hs p36.2 := Mono.go hcp36 (m_X0_add N σ 30 (CS.o σ x1 10))
  have hr9 : CS.hs p36.2 ≤ CS.hs R.2 := Mono.go hf (mono_ite (mono_bind (m_X0_aim N p36.2 (CS.o p36.2 x1 9)) (fun p41 => (mono_ite (mono_ite (m_X7_endBody_193 N E1 E2 hm1 hm2 (CS.setI p41.2 36 1) x1) (mono_bind (m_X6_isGoneTo N p41.2 x1 0) (fun p47 => (mono_ite (m_X7_endBody_193 N E1 E2 hm1 hm2 (CS.setI p47.2 36 0) x1) (m_X7_endBody_193 N E1 E2 hm1 hm2 (CS.setI p47.2 36 1) x1))))) mono_none))) mono_none)
  have hFc := cFree hC hA
  refine va_callv (va_runV (As := [.int 30, .int (CS.o σ x1 10)]) (rest := []) ⟨hx, hb, hml, hown, hts⟩ (c_X0_add l dC dI Q N σ 30 (CS.o σ x1 10) p36 hcp36) (cwV 2 hts hX7_endBody_X0_add_v176 rfl rfl rfl (by decide +kernel) ⟨(show 2 + 1 ≤ (15 + 40 * d) by omega), (show 8 + (3 + 11) + 60 * 2 ≤ 60 * (15 + 40 * d) by omega)⟩) ⟨zPre.blind, va_recv hK hC.1 (ci := 0) (q0 := 2) rfl rfl, cPre_go hZ hK hC⟩ rfl rfl hl.1 rfl (lv_room (Nat.le_of_ble_eq_true rfl)) dX7_endBody_151 (cAcc h0 mo37 hr9)) hC.2.2.1 (fun q _ h => hFc q h) hFc (fun u9 t9 H1 locs ht hvm hw hB hz1 hk1 hS => ?_)
  obtain ⟨⟨hP, hK1, hD1⟩, hsz1⟩ := hB
  rw [ht] at hP hsz1
  have hC : CP dC dI Q A s.heap p36.2 H1 locs := ⟨hP, hD1.weaken (fun _ _ _ h => hFc _ h), hS, hsz1⟩
  generalize H1 = H at hC ⊢
  have h39 : (CS.hs σ) ≤ CS.hs p36.2 := Nat.le_trans h0 mo37
  refine W.widen (k := CS.hs p36.2 - (CS.hs σ)) (n := 17 * (CS.hs p36.2 - (CS.hs σ))) (cAcc2 h0 mo37) (cAcc3 h0 mo37) ?_
  refine lv_aload_n hx hb dX7_endBody_154 rfl (lv_at hl 0 rfl) ?_
  refine cG_29 hx hb hts i_X7_endBody_X7 hown hK hC (hts (.fieldLink RX7 20 "StatementRules2$Statements" "code" "LStatementRules2$Code;") k_X7_endBody_fieldLink_RX7_20_SR_Statements_code_LSR_Code) (fun x9 q9 => u_same (hts (.sameField "StatementRules2$Statements" "StatementRules2$Formulas" "code" "LStatementRules2$Code;") k_X7_endBody_sameField_SR_Statements_SR_Formulas_code_LSR_Code) x9 q9) dX7_endBody_155 ?_
  refine lv_aload_n hx hb dX7_endBody_158 rfl (lv_at hl 1 rfl) ?_
  obtain ⟨b40, hf⟩ := hf_ite hf
  refine pGN_X5_9 (v := (CS.o p36.2 x1 9)) hx hb hts i_X7_endBody_X5 hown hK hC (va_Nw.use rfl (hZ.1 (.fieldLinkNest RX7 196 "StatementRules2$Open" "exit" "I" "StatementRules2") (by decide +kernel))) (fun _ q9 => q9) dX7_endBody_159 b40 rfl ?_
  obtain ⟨p41, hcp41, hf⟩ := hf_bind hf
  have mo42 : CS.hs p36.2 ≤ CS.hs p41.2 := Mono.go hcp41 (m_X0_aim N p36.2 (CS.o p36.2 x1 9))
  have hr9 : CS.hs p41.2 ≤ CS.hs R.2 := Mono.go hf (mono_ite (mono_ite (m_X7_endBody_193 N E1 E2 hm1 hm2 (CS.setI p41.2 36 1) x1) (mono_bind (m_X6_isGoneTo N p41.2 x1 0) (fun p47 => (mono_ite (m_X7_endBody_193 N E1 E2 hm1 hm2 (CS.setI p47.2 36 0) x1) (m_X7_endBody_193 N E1 E2 hm1 hm2 (CS.setI p47.2 36 1) x1))))) mono_none)
  have hFc := cFree hC hA
  refine va_callv (va_runV (As := [.int (CS.o p36.2 x1 9)]) (rest := []) ⟨hx, hb, hml, hown, hts⟩ (c_X0_aim l dC dI Q N p36.2 (CS.o p36.2 x1 9) p41 hcp41) (cwV 1 hts hX7_endBody_X0_aim_v158 rfl rfl rfl (by decide +kernel) ⟨(show 2 + 1 ≤ (15 + 40 * d) by omega), (show 8 + (2 + 11) + 60 * 2 ≤ 60 * (15 + 40 * d) by omega)⟩) ⟨zPre.blind, va_recv hK hC.1 (ci := 0) (q0 := 2) rfl rfl, cPre_go hZ hK hC⟩ rfl rfl hl.1 rfl (lv_room (Nat.le_of_ble_eq_true rfl)) dX7_endBody_162 (cAcc h39 mo42 hr9)) hC.2.2.1 (fun q _ h => hFc q h) hFc (fun u9 t9 H1 locs ht hvm hw hB hz1 hk1 hS => ?_)
  obtain ⟨⟨hP, hK1, hD1⟩, hsz1⟩ := hB
  rw [ht] at hP hsz1
  have hC : CP dC dI Q A s.heap p41.2 H1 locs := ⟨hP, hD1.weaken (fun _ _ _ h => hFc _ h), hS, hsz1⟩
  generalize H1 = H at hC ⊢
  have h44 : (CS.hs σ) ≤ CS.hs p41.2 := Nat.le_trans h39 mo42
  refine W.widen (k := CS.hs p41.2 - (CS.hs σ)) (n := 17 * (CS.hs p41.2 - (CS.hs σ))) (cAcc2 h39 mo42) (cAcc3 h39 mo42) ?_
  refine lv_aload_n hx hb dX7_endBody_165 rfl (lv_at hl 0 rfl) ?_
  refine lv_aload_n hx hb dX7_endBody_166 rfl (lv_at hl 1 rfl) ?_
  obtain ⟨b45, hf⟩ := hf_ite hf
  refine pGN_X5_7 (v := (CS.o p41.2 x1 7)) hx hb hts i_X7_endBody_X5 hown hK hC (va_Nw.use rfl (hZ.1 (.fieldLinkNest RX7 324 "StatementRules2$Open" "never" "Z" "StatementRules2") (by decide +kernel))) (fun _ q9 => q9) dX7_endBody_167 b45 rfl ?_
  refine lv_if_eq (tgt := 185) hx hb dX7_endBody_170 (by decide) (fun c46 => ?_) (fun c46 => ?_)
  ·
    replace hf := (if_pos c46).symm.trans hf
    refine lv_iconst (v := 1) hx hb dX7_endBody_185 (by decide) ?_
    refine lv_goto (tgt := 190) hx hb dX7_endBody_186 (by decide) ?_
    refine cP_36 (v := 1) hx hb hts i_X7_endBody_X7 hown hK hC (hts (.fieldLink RX7 61 "StatementRules2$Statements" "alive" "Z") k_X7_endBody_fieldLink_RX7_61_SR_Statements_alive_Z) (fun _ q9 => q9) dX7_endBody_190 (by decide) (fun H locs hC => ?_)
    exact j_X7_endBody_193 l dC dI Q N d E1 E2 hE1 hE2 hm1 hm2 (CS.hs σ) R hx hb hr hml hown hts hlocks hZ hA hK (CS.setI p41.2 36 1) x1 _ _ _ hf h44 hC (lv_sub hl [0, 1] rfl)
  ·
    replace hf := (if_neg c46).symm.trans hf
    refine lv_aload_n hx hb dX7_endBody_173 rfl (lv_at hl 0 rfl) ?_
    refine cG_35 hx hb hts i_X7_endBody_X7 hown hK hC (hts (.fieldLink RX7 14 "StatementRules2$Statements" "opens" "LStatementRules2$Opens;") k_X7_endBody_fieldLink_RX7_14_SR_Statements_opens_LSR_Opens) (fun _ q9 => q9) dX7_endBody_174 ?_
    refine lv_aload_n hx hb dX7_endBody_177 rfl (lv_at hl 1 rfl) ?_
    refine lv_iconst (v := 0) hx hb dX7_endBody_178 (by decide) ?_
    obtain ⟨p47, hcp47, hf⟩ := hf_bind hf
    have mo48 : CS.hs p41.2 ≤ CS.hs p47.2 := Mono.go hcp47 (m_X6_isGoneTo N p41.2 x1 0)
    have hr9 : CS.hs p47.2 ≤ CS.hs R.2 := Mono.go hf (mono_ite (m_X7_endBody_193 N E1 E2 hm1 hm2 (CS.setI p47.2 36 0) x1) (m_X7_endBody_193 N E1 E2 hm1 hm2 (CS.setI p47.2 36 1) x1))
    have hFc := cFree hC hA
    refine va_calli (va_runV (As := [.ref x1, .int 0]) (rest := [.ref (Q.o 3)]) ⟨hx, hb, hml, hown, hts⟩ (c_X6_isGoneTo l dC dI Q N p41.2 x1 0 p47 hcp47) (cwV 2 hts hX7_endBody_X6_isGoneTo_v362 rfl rfl rfl (by decide +kernel) ⟨(show 2 + 1 ≤ (15 + 40 * d) by omega), (show 8 + (4 + 11) + 60 * 2 ≤ 60 * (15 + 40 * d) by omega)⟩) ⟨zPre.blind, va_recv hK hC.1 (ci := 5) (q0 := 6) rfl rfl, cPre_go hZ hK hC⟩ rfl rfl hl.1 rfl (lv_room (Nat.le_of_ble_eq_true rfl)) dX7_endBody_179 (cAcc h44 mo48 hr9)) hC.2.2.1 (fun q _ h => hFc q h) hFc (fun r49 u9 t9 H1 locs ht hvm hw hB hz1 hk1 hS => ?_)
    obtain ⟨⟨hP, hK1, hD1⟩, hsz1⟩ := hB
    rw [ht] at hP hsz1
    have hC : CP dC dI Q A s.heap p47.2 H1 locs := ⟨hP, hD1.weaken (fun _ _ _ h => hFc _ h), hS, hsz1⟩
    generalize H1 = H at hC ⊢
    have h50 : (CS.hs σ) ≤ CS.hs p47.2 := Nat.le_trans h44 mo48
    refine W.widen (k := CS.hs p47.2 - (CS.hs σ)) (n := 17 * (CS.hs p47.2 - (CS.hs σ))) (cAcc2 h44 mo48) (cAcc3 h44 mo48) ?_
    obtain rfl : r49 = p47.1 := hw
    refine lv_if_eq (tgt := 189) hx hb dX7_endBody_182 (by decide) (fun c51 => ?_) (fun c51 => ?_)
    ·
      replace hf := (if_pos c51).symm.trans hf
      refine lv_iconst (v := 0) hx hb dX7_endBody_189 (by decide) ?_
      refine cP_36 (v := 0) hx hb hts i_X7_endBody_X7 hown hK hC (hts (.fieldLink RX7 61 "StatementRules2$Statements" "alive" "Z") k_X7_endBody_fieldLink_RX7_61_SR_Statements_alive_Z) (fun _ q9 => q9) dX7_endBody_190 (by decide) (fun H locs hC => ?_)
      exact j_X7_endBody_193 l dC dI Q N d E1 E2 hE1 hE2 hm1 hm2 (CS.hs σ) R hx hb hr hml hown hts hlocks hZ hA hK (CS.setI p47.2 36 0) x1 _ _ _ hf h50 hC (lv_sub hl [0, 1] rfl)
    ·
      replace hf := (if_neg c51).symm.trans hf
      refine lv_iconst (v := 1) hx hb dX7_endBody_185 (by decide) ?_
      refine lv_goto (tgt := 190) hx hb dX7_endBody_186 (by decide) ?_
      refine cP_36 (v := 1) hx hb hts i_X7_endBody_X7 hown hK hC (hts (.fieldLink RX7 61 "StatementRules2$Statements" "alive" "Z") k_X7_endBody_fieldLink_RX7_61_SR_Statements_alive_Z) (fun _ q9 => q9) dX7_endBody_190 (by decide) (fun H locs hC => ?_)
      exact j_X7_endBody_193 l dC dI Q N d E1 E2 hE1 hE2 hm1 hm2 (CS.hs σ) R hx hb hr hml hown hts hlocks hZ hA hK (CS.setI p47.2 36 1) x1 _ _ _ hf h50 hC (lv_sub hl [0, 1] rfl)
