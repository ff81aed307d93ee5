theorem k_X5_init_methodLink_RX5_3_objectInit : Cond.methodLink RX5 3 objectInit ∈ wzX5_init := List.mem_cons_of_mem _ (List.mem_append_left _ (List.mem_of_getElem? (i := 0) rfl))
theorem k_X5_init_instanceMethod_objectInit : Cond.instanceMethod objectInit ∈ wzX5_init := List.mem_cons_of_mem _ (List.mem_append_left _ (List.mem_of_getElem? (i := 1) rfl))
theorem k_X5_init_code_objectInit_0xb1_1_none : Cond.code objectInit ⟨#[0xb1]⟩ 1 none ∈ wzX5_init := List.mem_cons_of_mem _ (List.mem_append_left _ (List.mem_of_getElem? (i := 2) rfl))
set_option maxHeartbeats 4000000 in
set_option maxRecDepth 100000 in
theorem c_X5_init (l : Launch) (dC : Nat → ClassId) (dI : Nat → Nat → Nat) (Q : CQ) (N : Nat) (σ : CS) (x0 : Nat) (R : Unit × CS) (hf : f_X5_init N σ x0 = some R) : Met l yX5_init wzX5_init ({ frames := 1, cells := CS.hs R.2 - CS.hs σ, slots := 17 * (CS.hs R.2 - CS.hs σ), locals := 60 * 1 }) (va_Pc [.ref x0] (zPre dC dI (CS.hs σ) (cW Q σ) (cT Q))) (va_Qv (fun (_ : Unit) => True) (fun (_ : Unit) (t : State) => zPost dC dI (va_A (cW Q σ) (CS.hs σ)) (cW Q R.2) (cT Q) t ∧ t.heap.size = CS.hs R.2) (va_A (cW Q σ) (CS.hs σ))) (CS.hs R.2 - CS.hs σ) (17 * (CS.hs R.2 - CS.hs σ)) (va_A (cW Q σ) (CS.hs σ)) := by
  refine Met.ofW (cc := cX5_init) (maxL := 1) (ret := none) (by decide) rfl ?_
  intro p e s m args below meth c s₁ B hml hv
  obtain ⟨rfl, hsz, hZ, hP, hK, hD0⟩ := hv
  have hx := B.exec
  have hb := B.bytes
  have hr := B.returns
  have hts := atoms_spec (ws := wzX5_init) B.pre
  have hown : s.vm.findClass RX5 = some m.cls := findClass_of_methodNamed B.named
  have hlocks := B.notSynchronized
  have hin : meth.name = "<init>" := (name_of_methodNamed B.named B.method).1
  have hD := hD0.self (sz := CS.hs σ)
  generalize hAe : va_A (cW Q σ) (CS.hs σ) = A at hD ⊢
  have hA : ∀ q : Nat, s.heap.size ≤ q → A q := fun q h => by rw [← hAe]; exact Or.inr (hsz ▸ h)
  have hC : CP dC dI Q A s.heap σ s.heap [] := ⟨hP, hD, va_S.rf, hsz⟩
  have h0 : CS.hs σ ≤ CS.hs σ := Nat.le_refl _
  have hl := lv_entry ([.ref x0]) (n := 1) (Nat.le_of_ble_eq_true rfl)
  rw [lg_entry_eq]
  generalize (lg_sl ([.ref x0]) ++ List.replicate (1 - (lg_sl ([.ref x0])).length) Slot.unset).toArray = ls at hl ⊢
  have hl : lv_has ls 1 [(0, .ref x0)] := hl
  unfold f_X5_init at hf
  refine W.widen (k := CS.hs σ - CS.hs σ) (n := 17 * (CS.hs σ - CS.hs σ)) (Nat.zero_le _) (Nat.zero_le _) ?_
  refine lv_aload_n hx hb dX5_init_0 rfl (lv_at hl 0 rfl) ?_
  refine W.objInit hx hb hown (hts (.methodLink RX5 3 objectInit) k_X5_init_methodLink_RX5_3_objectInit) (hts (.instanceMethod objectInit) k_X5_init_instanceMethod_objectInit) (hts (.code objectInit ⟨#[0xb1]⟩ 1 none) k_X5_init_code_objectInit_0xb1_1_none) rfl (by rw [hml]; exact hl.1) rfl dX5_init_1 (Nat.le_of_ble_eq_true rfl) (Nat.le_of_ble_eq_true rfl) ?_
  refine W.eq (g2 := F0 m 4 ls []) rfl ?_
  obtain rfl := Option.some.inj hf
  exact W.vret hx hb hr (fun t ht hW => ⟨⟨(), rfl, trivial, ⟨by rw [ht]; exact hC.1, va_K.moved hW.alike hK, hC.2.1⟩, by rw [ht]; exact hC.2.2.2⟩, hC.2.2.1.F ht⟩) hC.2.2.1.2.2 dX5_init_4
theorem k_X5_isLoop_fieldLink_RX5_9_SR_Open_sort_I : Cond.fieldLink RX5 9 "StatementRules2$Open" "sort" "I" ∈ wzX5_isLoop := List.mem_cons_of_mem _ (List.mem_append_left _ (List.mem_of_getElem? (i := 0) rfl))
theorem i_X5_isLoop_X5 : ∀ w ∈ wsX50, w ∈ wzX5_isLoop := fun _ h => List.mem_cons_of_mem _ (List.mem_append_right _ (List.mem_append_left _ (h)))
set_option maxHeartbeats 4000000 in
set_option maxRecDepth 100000 in
theorem j_X5_isLoop_40 {p : Program} {e : Env} {s : State} {m : MethodId} {args : Array Value} {below : List Frame} {meth : Method} {c : Code} {A : Nat → Prop} (l : Launch) (dC : Nat → ClassId) (dI : Nat → Nat → Nat) (Q : CQ) (N : Nat) (z9h : Nat) (R : Int32 × CS) (hx : p.tables.exec = Jvm.exec) (hb : c.code = cX5_isLoop) (hr : meth.sig.returnType = (some .boolean)) (hml : c.maxLocals = 1) (hown : s.vm.findClass RX5 = some m.cls) (hts : ∀ w ∈ wzX5_isLoop, w.before args s = true) (hlocks : meth.locks = false) (hZ : zAMB s) (hA : ∀ q : Nat, s.heap.size ≤ q → A q) (hK : va_K (dC, dI) vwCl (cT Q) s) : ∀ (σ : CS) (H : Heap) (locs : List Loc) (ls : Array Slot), f_X5_isLoop_40 N σ = some R → z9h ≤ CS.hs σ → CP dC dI Q A s.heap σ H locs → lv_has ls 1 [] → W p l e ({ frames := 1, cells := CS.hs R.2 - z9h, slots := 17 * (CS.hs R.2 - z9h), locals := 60 * 1 }) s m args below meth c H locs (CS.hs σ - z9h) (17 * (CS.hs σ - z9h)) (MQ below (va_Qi (fun (r : Int32) (_ : Unit) => r = R.1) (fun (_ : Unit) (t : State) => zPost dC dI A (cW Q R.2) (cT Q) t ∧ t.heap.size = CS.hs R.2) A) args s (CS.hs R.2 - z9h) (17 * (CS.hs R.2 - z9h)) A) (F0 m 40 ls []) := by
  intro σ  H locs ls hf h0 hC hl
  unfold f_X5_isLoop_40 at hf
  refine lv_iconst (v := 1) hx hb dX5_isLoop_40 (by decide) ?_
  refine lv_goto (tgt := 45) hx hb dX5_isLoop_41 (by decide) ?_
  obtain rfl := Option.some.inj hf
  exact W.zret (v := 1) hx hb hr (rfl) (fun t ht hW => ⟨⟨1, (), rfl, rfl, ⟨by rw [ht]; exact hC.1, va_K.moved hW.alike hK, hC.2.1⟩, by rw [ht]; exact hC.2.2.2⟩, hC.2.2.1.F ht⟩) hC.2.2.1.2.2 dX5_isLoop_45
set_option maxHeartbeats 4000000 in
set_option maxRecDepth 100000 in
theorem c_X5_isLoop (l : Launch) (dC : Nat → ClassId) (dI : Nat → Nat → Nat) (Q : CQ) (N : Nat) (σ : CS) (x0 : Nat) (R : Int32 × CS) (hf : f_X5_isLoop N σ x0 = some R) : Met l yX5_isLoop wzX5_isLoop ({ frames := 1, cells := CS.hs R.2 - CS.hs σ, slots := 17 * (CS.hs R.2 - CS.hs σ), locals := 60 * 1 }) (va_Pc [.ref x0] (zPre dC dI (CS.hs σ) (cW Q σ) (cT Q))) (va_Qi (fun (r : Int32) (_ : Unit) => r = R.1) (fun (_ : Unit) (t : State) => zPost dC dI (va_A (cW Q σ) (CS.hs σ)) (cW Q R.2) (cT Q) t ∧ t.heap.size = CS.hs R.2) (va_A (cW Q σ) (CS.hs σ))) (CS.hs R.2 - CS.hs σ) (17 * (CS.hs R.2 - CS.hs σ)) (va_A (cW Q σ) (CS.hs σ)) := by
  refine Met.ofW (cc := cX5_isLoop) (maxL := 1) (ret := (some .boolean)) (by decide) rfl ?_
  intro p e s m args below meth c s₁ B hml hv
  obtain ⟨rfl, hsz, hZ, hP, hK, hD0⟩ := hv
  have hx := B.exec
  have hb := B.bytes
  have hr := B.returns
  have hts := atoms_spec (ws := wzX5_isLoop) B.pre
  have hown : s.vm.findClass RX5 = some m.cls := findClass_of_methodNamed B.named
  have hlocks := B.notSynchronized
  have hD := hD0.self (sz := CS.hs σ)
  generalize hAe : va_A (cW Q σ) (CS.hs σ) = A at hD ⊢
  have hA : ∀ q : Nat, s.heap.size ≤ q → A q := fun q h => by rw [← hAe]; exact Or.inr (hsz ▸ h)
  have hC : CP dC dI Q A s.heap σ s.heap [] := ⟨hP, hD, va_S.rf, hsz⟩
  have h0 : CS.hs σ ≤ CS.hs σ := Nat.le_refl _
  have hl := lv_entry ([.ref x0]) (n := 1) (Nat.le_of_ble_eq_true rfl)
  rw [lg_entry_eq]
  generalize (lg_sl ([.ref x0]) ++ List.replicate (1 - (lg_sl ([.ref x0])).length) Slot.unset).toArray = ls at hl ⊢
  have hl : lv_has ls 1 [(0, .ref x0)] := hl
  unfold f_X5_isLoop at hf
  refine W.widen (k := CS.hs σ - CS.hs σ) (n := 17 * (CS.hs σ - CS.hs σ)) (Nat.zero_le _) (Nat.zero_le _) ?_
  refine lv_aload_n hx hb dX5_isLoop_0 rfl (lv_at hl 0 rfl) ?_
  obtain ⟨b1, hf⟩ := hf_ite hf
  refine pG_X5_0 (v := (CS.o σ x0 0)) hx hb hts i_X5_isLoop_X5 hown hK hC (hts (.fieldLink RX5 9 "StatementRules2$Open" "sort" "I") k_X5_isLoop_fieldLink_RX5_9_SR_Open_sort_I) (fun _ q9 => q9) dX5_isLoop_1 b1 rfl ?_
  refine lv_sipush (v := 205) hx hb dX5_isLoop_4 (by decide) ?_
  refine lv_icmp_eq (tgt := 40) hx hb dX5_isLoop_7 (by decide) (fun c2 => ?_) (fun c2 => ?_)
  ·
    replace hf := (if_pos c2).symm.trans hf
    exact j_X5_isLoop_40 l dC dI Q N (CS.hs σ) R hx hb hr hml hown hts hlocks hZ hA hK σ _ _ _ hf h0 hC (lv_sub hl [] rfl)
  ·
    replace hf := (if_neg c2).symm.trans hf
    refine lv_aload_n hx hb dX5_isLoop_10 rfl (lv_at hl 0 rfl) ?_
    refine pG_X5_0 (v := (CS.o σ x0 0)) hx hb hts i_X5_isLoop_X5 hown hK hC (hts (.fieldLink RX5 9 "StatementRules2$Open" "sort" "I") k_X5_isLoop_fieldLink_RX5_9_SR_Open_sort_I) (fun _ q9 => q9) dX5_isLoop_11 b1 rfl ?_
    refine lv_sipush (v := 206) hx hb dX5_isLoop_14 (by decide) ?_
    refine lv_icmp_eq (tgt := 40) hx hb dX5_isLoop_17 (by decide) (fun c3 => ?_) (fun c3 => ?_)
    ·
      replace hf := (if_pos c3).symm.trans hf
      exact j_X5_isLoop_40 l dC dI Q N (CS.hs σ) R hx hb hr hml hown hts hlocks hZ hA hK σ _ _ _ hf h0 hC (lv_sub hl [] rfl)
    ·
      replace hf := (if_neg c3).symm.trans hf
      refine lv_aload_n hx hb dX5_isLoop_20 rfl (lv_at hl 0 rfl) ?_
      refine pG_X5_0 (v := (CS.o σ x0 0)) hx hb hts i_X5_isLoop_X5 hown hK hC (hts (.fieldLink RX5 9 "StatementRules2$Open" "sort" "I") k_X5_isLoop_fieldLink_RX5_9_SR_Open_sort_I) (fun _ q9 => q9) dX5_isLoop_21 b1 rfl ?_
      refine lv_sipush (v := 207) hx hb dX5_isLoop_24 (by decide) ?_
      refine lv_icmp_eq (tgt := 40) hx hb dX5_isLoop_27 (by decide) (fun c4 => ?_) (fun c4 => ?_)
      ·
        replace hf := (if_pos c4).symm.trans hf
        exact j_X5_isLoop_40 l dC dI Q N (CS.hs σ) R hx hb hr hml hown hts hlocks hZ hA hK σ _ _ _ hf h0 hC (lv_sub hl [] rfl)
      ·
        replace hf := (if_neg c4).symm.trans hf
        refine lv_aload_n hx hb dX5_isLoop_30 rfl (lv_at hl 0 rfl) ?_
        refine pG_X5_0 (v := (CS.o σ x0 0)) hx hb hts i_X5_isLoop_X5 hown hK hC (hts (.fieldLink RX5 9 "StatementRules2$Open" "sort" "I") k_X5_isLoop_fieldLink_RX5_9_SR_Open_sort_I) (fun _ q9 => q9) dX5_isLoop_31 b1 rfl ?_
        refine lv_sipush (v := 304) hx hb dX5_isLoop_34 (by decide) ?_
        refine lv_icmp_ne (tgt := 44) hx hb dX5_isLoop_37 (by decide) (fun c5 => ?_) (fun c5 => ?_)
        ·
          replace hf := (if_neg c5).symm.trans hf
          refine lv_iconst (v := 0) hx hb dX5_isLoop_44 (by decide) ?_
          obtain rfl := Option.some.inj hf
          exact W.zret (v := 0) hx hb hr (rfl) (fun t ht hW => ⟨⟨0, (), rfl, rfl, ⟨by rw [ht]; exact hC.1, va_K.moved hW.alike hK, hC.2.1⟩, by rw [ht]; exact hC.2.2.2⟩, hC.2.2.1.F ht⟩) hC.2.2.1.2.2 dX5_isLoop_45
        ·
          replace hf := (if_pos c5).symm.trans hf
          exact j_X5_isLoop_40 l dC dI Q N (CS.hs σ) R hx hb hr hml hown hts hlocks hZ hA hK σ _ _ _ hf h0 hC (lv_sub hl [] rfl)
theorem k_X5_hasOneBody_fieldLink_RX5_9_SR_Open_sort_I : Cond.fieldLink RX5 9 "StatementRules2$Open" "sort" "I" ∈ wzX5_hasOneBody := List.mem_cons_of_mem _ (List.mem_append_left _ (List.mem_of_getElem? (i := 0) rfl))
theorem i_X5_hasOneBody_X5 : ∀ w ∈ wsX50, w ∈ wzX5_hasOneBody := fun _ h => List.mem_cons_of_mem _ (List.mem_append_right _ (List.mem_append_left _ (h)))
set_option maxHeartbeats 4000000 in
set_option maxRecDepth 100000 in
theorem j_X5_hasOneBody_37 {p : Program} {e : Env} {s : State} {m : MethodId} {args : Array Value} {below : List Frame} {meth : Method} {c : Code} {A : Nat → Prop} (l : Launch) (dC : Nat → ClassId) (dI : Nat → Nat → Nat) (Q : CQ) (N : Nat) (z9h : Nat) (R : Int32 × CS) (hx : p.tables.exec = Jvm.exec) (hb : c.code = cX5_hasOneBody) (hr : meth.sig.returnType = (some .boolean)) (hml : c.maxLocals = 1) (hown : s.vm.findClass RX5 = some m.cls) (hts : ∀ w ∈ wzX5_hasOneBody, w.before args s = true) (hlocks : meth.locks = false) (hZ : zAMB s) (hA : ∀ q : Nat, s.heap.size ≤ q → A q) (hK : va_K (dC, dI) vwCl (cT Q) s) : ∀ (σ : CS) (H : Heap) (locs : List Loc) (ls : Array Slot), f_X5_hasOneBody_37 N σ = some R → z9h ≤ CS.hs σ → CP dC dI Q A s.heap σ H locs → lv_has ls 1 [] → W p l e ({ frames := 2, cells := CS.hs R.2 - z9h, slots := 17 * (CS.hs R.2 - z9h), locals := 60 * 2 }) s m args below meth c H locs (CS.hs σ - z9h) (17 * (CS.hs σ - z9h)) (MQ below (va_Qi (fun (r : Int32) (_ : Unit) => r = R.1) (fun (_ : Unit) (t : State) => zPost dC dI A (cW Q R.2) (cT Q) t ∧ t.heap.size = CS.hs R.2) A) args s (CS.hs R.2 - z9h) (17 * (CS.hs R.2 - z9h)) A) (F0 m 37 ls []) := by
  intro σ  H locs ls hf h0 hC hl
  unfold f_X5_hasOneBody_37 at hf
  refine lv_iconst (v := 1) hx hb dX5_hasOneBody_37 (by decide) ?_
  refine lv_goto (tgt := 42) hx hb dX5_hasOneBody_38 (by decide) ?_
  obtain rfl := Option.some.inj hf
  exact W.zret (v := 1) hx hb hr (rfl) (fun t ht hW => ⟨⟨1, (), rfl, rfl, ⟨by rw [ht]; exact hC.1, va_K.moved hW.alike hK, hC.2.1⟩, by rw [ht]; exact hC.2.2.2⟩, hC.2.2.1.F ht⟩) hC.2.2.1.2.2 dX5_hasOneBody_42
set_option maxHeartbeats 4000000 in
set_option maxRecDepth 100000 in
theorem c_X5_hasOneBody (l : Launch) (dC : Nat → ClassId) (dI : Nat → Nat → Nat) (Q : CQ) (N : Nat) (σ : CS) (x0 : Nat) (R : Int32 × CS) (hf : f_X5_hasOneBody N σ x0 = some R) : Met l yX5_hasOneBody wzX5_hasOneBody ({ frames := 2, cells := CS.hs R.2 - CS.hs σ, slots := 17 * (CS.hs R.2 - CS.hs σ), locals := 60 * 2 }) (va_Pc [.ref x0] (zPre dC dI (CS.hs σ) (cW Q σ) (cT Q))) (va_Qi (fun (r : Int32) (_ : Unit) => r = R.1) (fun (_ : Unit) (t : State) => zPost dC dI (va_A (cW Q σ) (CS.hs σ)) (cW Q R.2) (cT Q) t ∧ t.heap.size = CS.hs R.2) (va_A (cW Q σ) (CS.hs σ))) (CS.hs R.2 - CS.hs σ) (17 * (CS.hs R.2 - CS.hs σ)) (va_A (cW Q σ) (CS.hs σ)) := by
  refine Met.ofW (cc := cX5_hasOneBody) (maxL := 1) (ret := (some .boolean)) (by decide) rfl ?_
  intro p e s m args below meth c s₁ B hml hv
  obtain ⟨rfl, hsz, hZ, hP, hK, hD0⟩ := hv
  have hx := B.exec
  have hb := B.bytes
  have hr := B.returns
  have hts := atoms_spec (ws := wzX5_hasOneBody) B.pre
  have hown : s.vm.findClass RX5 = some m.cls := findClass_of_methodNamed B.named
  have hlocks := B.notSynchronized
  have hD := hD0.self (sz := CS.hs σ)
  generalize hAe : va_A (cW Q σ) (CS.hs σ) = A at hD ⊢
  have hA : ∀ q : Nat, s.heap.size ≤ q → A q := fun q h => by rw [← hAe]; exact Or.inr (hsz ▸ h)
  have hC : CP dC dI Q A s.heap σ s.heap [] := ⟨hP, hD, va_S.rf, hsz⟩
  have h0 : CS.hs σ ≤ CS.hs σ := Nat.le_refl _
  have hl := lv_entry ([.ref x0]) (n := 1) (Nat.le_of_ble_eq_true rfl)
  rw [lg_entry_eq]
  generalize (lg_sl ([.ref x0]) ++ List.replicate (1 - (lg_sl ([.ref x0])).length) Slot.unset).toArray = ls at hl ⊢
  have hl : lv_has ls 1 [(0, .ref x0)] := hl
  unfold f_X5_hasOneBody at hf
  refine W.widen (k := CS.hs σ - CS.hs σ) (n := 17 * (CS.hs σ - CS.hs σ)) (Nat.zero_le _) (Nat.zero_le _) ?_
  refine lv_aload_n hx hb dX5_hasOneBody_0 rfl (lv_at hl 0 rfl) ?_
  obtain ⟨b1, hf⟩ := hf_ite hf
  obtain ⟨k2, hk2⟩ := cPl (Q := Q) (s := σ) (a := x0) b1.1
  rw [cE0 (show CS.k σ x0 = 0 from b1.2)] at hk2
  obtain ⟨p3, hcp3, hf⟩ := hf_bind hf
  have hm4 : CS.hs σ ≤ CS.hs p3.2 := Mono.go hcp3 (m_X5_isLoop N σ x0)
  have hr9 : CS.hs p3.2 ≤ CS.hs R.2 := Mono.go hf (mono_ite (mono_ite (mono_ite (m_X5_hasOneBody_37 N p3.2) (mono_ite (m_X5_hasOneBody_37 N p3.2) (mono_ite (m_X5_hasOneBody_37 N p3.2) (mono_some (Nat.le_refl _))))) mono_none) (m_X5_hasOneBody_37 N p3.2))
  have hFc := cFree hC hA
  refine va_calli (va_runV (As := []) (rest := []) ⟨hx, hb, hml, hown, hts⟩ (c_X5_isLoop l dC dI Q N σ x0 p3 hcp3) (cwV 0 hts hX5_hasOneBody_X5_isLoop_v15 rfl rfl rfl (by decide +kernel) ⟨(show 1 + 1 ≤ 2 by omega), (show 8 + (1 + 11) + 60 * 1 ≤ 60 * 2 by omega)⟩) ⟨zPre.blind, va_recv hK hC.1 (ci := 4) (q0 := k2) rfl hk2, cPre_go hZ hK hC⟩ rfl rfl hl.1 rfl (lv_room (Nat.le_of_ble_eq_true rfl)) dX5_hasOneBody_1 (cAcc h0 hm4 hr9)) hC.2.2.1 (fun q _ h => hFc q h) hFc (fun r5 u9 t9 H1 locs ht hvm hw hB hz1 hk1 hS => ?_)
  obtain ⟨⟨hP, hK1, hD1⟩, hsz1⟩ := hB
  rw [ht] at hP hsz1
  have hC : CP dC dI Q A s.heap p3.2 H1 locs := ⟨hP, hD1.weaken (fun _ _ _ h => hFc _ h), hS, hsz1⟩
  generalize H1 = H at hC ⊢
  have h6 : (CS.hs σ) ≤ CS.hs p3.2 := Nat.le_trans h0 hm4
  refine W.widen (k := CS.hs p3.2 - (CS.hs σ)) (n := 17 * (CS.hs p3.2 - (CS.hs σ))) (cAcc2 h0 hm4) (cAcc3 h0 hm4) ?_
  obtain rfl : r5 = p3.1 := hw
  refine lv_if_ne (tgt := 37) hx hb dX5_hasOneBody_4 (by decide) (fun c7 => ?_) (fun c7 => ?_)
  ·
    replace hf := (if_neg c7).symm.trans hf
    exact j_X5_hasOneBody_37 l dC dI Q N (CS.hs σ) R hx hb hr hml hown hts hlocks hZ hA hK p3.2 _ _ _ hf h6 hC (lv_sub hl [] rfl)
  ·
    replace hf := (if_pos c7).symm.trans hf
    refine lv_aload_n hx hb dX5_hasOneBody_7 rfl (lv_at hl 0 rfl) ?_
    obtain ⟨b8, hf⟩ := hf_ite hf
    refine pG_X5_0 (v := (CS.o p3.2 x0 0)) hx hb hts i_X5_hasOneBody_X5 hown hK hC (hts (.fieldLink RX5 9 "StatementRules2$Open" "sort" "I") k_X5_hasOneBody_fieldLink_RX5_9_SR_Open_sort_I) (fun _ q9 => q9) dX5_hasOneBody_8 b8 rfl ?_
    refine lv_sipush (v := 303) hx hb dX5_hasOneBody_11 (by decide) ?_
    refine lv_icmp_eq (tgt := 37) hx hb dX5_hasOneBody_14 (by decide) (fun c9 => ?_) (fun c9 => ?_)
    ·
      replace hf := (if_pos c9).symm.trans hf
      exact j_X5_hasOneBody_37 l dC dI Q N (CS.hs σ) R hx hb hr hml hown hts hlocks hZ hA hK p3.2 _ _ _ hf h6 hC (lv_sub hl [] rfl)
    ·
      replace hf := (if_neg c9).symm.trans hf
      refine lv_aload_n hx hb dX5_hasOneBody_17 rfl (lv_at hl 0 rfl) ?_
      refine pG_X5_0 (v := (CS.o p3.2 x0 0)) hx hb hts i_X5_hasOneBody_X5 hown hK hC (hts (.fieldLink RX5 9 "StatementRules2$Open" "sort" "I") k_X5_hasOneBody_fieldLink_RX5_9_SR_Open_sort_I) (fun _ q9 => q9) dX5_hasOneBody_18 b8 rfl ?_
      refine lv_sipush (v := 203) hx hb dX5_hasOneBody_21 (by decide) ?_
      refine lv_icmp_eq (tgt := 37) hx hb dX5_hasOneBody_24 (by decide) (fun c10 => ?_) (fun c10 => ?_)
      ·
        replace hf := (if_pos c10).symm.trans hf
        exact j_X5_hasOneBody_37 l dC dI Q N (CS.hs σ) R hx hb hr hml hown hts hlocks hZ hA hK p3.2 _ _ _ hf h6 hC (lv_sub hl [] rfl)
      ·
        replace hf := (if_neg c10).symm.trans hf
        refine lv_aload_n hx hb dX5_hasOneBody_27 rfl (lv_at hl 0 rfl) ?_
        refine pG_X5_0 (v := (CS.o p3.2 x0 0)) hx hb hts i_X5_hasOneBody_X5 hown hK hC (hts (.fieldLink RX5 9 "StatementRules2$Open" "sort" "I") k_X5_hasOneBody_fieldLink_RX5_9_SR_Open_sort_I) (fun _ q9 => q9) dX5_hasOneBody_28 b8 rfl ?_
        refine lv_sipush (v := 204) hx hb dX5_hasOneBody_31 (by decide) ?_
        refine lv_icmp_ne (tgt := 41) hx hb dX5_hasOneBody_34 (by decide) (fun c11 => ?_) (fun c11 => ?_)
        ·
          replace hf := (if_neg c11).symm.trans hf
          refine lv_iconst (v := 0) hx hb dX5_hasOneBody_41 (by decide) ?_
          obtain rfl := Option.some.inj hf
          exact W.zret (v := 0) hx hb hr (rfl) (fun t ht hW => ⟨⟨0, (), rfl, rfl, ⟨by rw [ht]; exact hC.1, va_K.moved hW.alike hK, hC.2.1⟩, by rw [ht]; exact hC.2.2.2⟩, hC.2.2.1.F ht⟩) hC.2.2.1.2.2 dX5_hasOneBody_42
        ·
          replace hf := (if_pos c11).symm.trans hf
          exact j_X5_hasOneBody_37 l dC dI Q N (CS.hs σ) R hx hb hr hml hown hts hlocks hZ hA hK p3.2 _ _ _ hf h6 hC (lv_sub hl [] rfl)
theorem k_X6_clear_fieldLink_RX6_21_SR_Opens_count_I : Cond.fieldLink RX6 21 "StatementRules2$Opens" "count" "I" ∈ wzX6_clear := List.mem_cons_of_mem _ (List.mem_append_left _ (List.mem_of_getElem? (i := 0) rfl))
theorem i_X6_clear_X6 : ∀ w ∈ wsX60, w ∈ wzX6_clear := fun _ h => List.mem_cons_of_mem _ (List.mem_append_right _ (List.mem_append_left _ (h)))
theorem k_X6_clear_fieldLink_RX6_25_SR_Opens_serials_I : Cond.fieldLink RX6 25 "StatementRules2$Opens" "serials" "I" ∈ wzX6_clear := List.mem_cons_of_mem _ (List.mem_append_left _ (List.mem_of_getElem? (i := 1) rfl))
theorem k_X6_clear_fieldLink_RX6_28_SR_Opens_jumpCount_I : Cond.fieldLink RX6 28 "StatementRules2$Opens" "jumpCount" "I" ∈ wzX6_clear := List.mem_cons_of_mem _ (List.mem_append_left _ (List.mem_of_getElem? (i := 2) rfl))
theorem k_X6_clear_fieldLink_RX6_31_SR_Opens_arm_I : Cond.fieldLink RX6 31 "StatementRules2$Opens" "arm" "I" ∈ wzX6_clear := List.mem_cons_of_mem _ (List.mem_append_left _ (List.mem_of_getElem? (i := 3) rfl))
set_option maxHeartbeats 4000000 in
set_option maxRecDepth 100000 in
theorem c_X6_clear (l : Launch) (dC : Nat → ClassId) (dI : Nat → Nat → Nat) (Q : CQ) (N : Nat) (σ : CS) (R : Unit × CS) (hf : f_X6_clear N σ = some R) : Met l yX6_clear wzX6_clear ({ frames := 1, cells := CS.hs R.2 - CS.hs σ, slots := 17 * (CS.hs R.2 - CS.hs σ), locals := 60 * 1 }) (va_Pc [.ref (Q.o 6)] (zPre dC dI (CS.hs σ) (cW Q σ) (cT Q))) (va_Qv (fun (_ : Unit) => True) (fun (_ : Unit) (t : State) => zPost dC dI (va_A (cW Q σ) (CS.hs σ)) (cW Q R.2) (cT Q) t ∧ t.heap.size = CS.hs R.2) (va_A (cW Q σ) (CS.hs σ))) (CS.hs R.2 - CS.hs σ) (17 * (CS.hs R.2 - CS.hs σ)) (va_A (cW Q σ) (CS.hs σ)) := by
  refine Met.ofW (cc := cX6_clear) (maxL := 1) (ret := none) (by decide) rfl ?_
  intro p e s m args below meth c s₁ B hml hv
  obtain ⟨rfl, hsz, hZ, hP, hK, hD0⟩ := hv
  have hx := B.exec
  have hb := B.bytes
  have hr := B.returns
  have hts := atoms_spec (ws := wzX6_clear) B.pre
  have hown : s.vm.findClass RX6 = some m.cls := findClass_of_methodNamed B.named
  have hlocks := B.notSynchronized
  have hD := hD0.self (sz := CS.hs σ)
  generalize hAe : va_A (cW Q σ) (CS.hs σ) = A at hD ⊢
  have hA : ∀ q : Nat, s.heap.size ≤ q → A q := fun q h => by rw [← hAe]; exact Or.inr (hsz ▸ h)
  have hC : CP dC dI Q A s.heap σ s.heap [] := ⟨hP, hD, va_S.rf, hsz⟩
  have h0 : CS.hs σ ≤ CS.hs σ := Nat.le_refl _
  have hl := lv_entry ([.ref (Q.o 6)]) (n := 1) (Nat.le_of_ble_eq_true rfl)
  rw [lg_entry_eq]
  generalize (lg_sl ([.ref (Q.o 6)]) ++ List.replicate (1 - (lg_sl ([.ref (Q.o 6)])).length) Slot.unset).toArray = ls at hl ⊢
  have hl : lv_has ls 1 [(0, .ref (Q.o 6))] := hl
  unfold f_X6_clear at hf
  refine W.widen (k := CS.hs σ - CS.hs σ) (n := 17 * (CS.hs σ - CS.hs σ)) (Nat.zero_le _) (Nat.zero_le _) ?_
  refine lv_aload_n hx hb dX6_clear_0 rfl (lv_at hl 0 rfl) ?_
  refine lv_iconst (v := 0) hx hb dX6_clear_1 (by decide) ?_
  refine cP_53 (v := 0) hx hb hts i_X6_clear_X6 hown hK hC (hts (.fieldLink RX6 21 "StatementRules2$Opens" "count" "I") k_X6_clear_fieldLink_RX6_21_SR_Opens_count_I) (fun _ q9 => q9) dX6_clear_2 (fun H locs hC => ?_)
  refine lv_aload_n hx hb dX6_clear_5 rfl (lv_at hl 0 rfl) ?_
  refine lv_iconst (v := 0) hx hb dX6_clear_6 (by decide) ?_
  refine cP_54 (v := 0) hx hb hts i_X6_clear_X6 hown hK hC (hts (.fieldLink RX6 25 "StatementRules2$Opens" "serials" "I") k_X6_clear_fieldLink_RX6_25_SR_Opens_serials_I) (fun _ q9 => q9) dX6_clear_7 (fun H locs hC => ?_)
  refine lv_aload_n hx hb dX6_clear_10 rfl (lv_at hl 0 rfl) ?_
  refine lv_iconst (v := 0) hx hb dX6_clear_11 (by decide) ?_
  refine cP_55 (v := 0) hx hb hts i_X6_clear_X6 hown hK hC (hts (.fieldLink RX6 28 "StatementRules2$Opens" "jumpCount" "I") k_X6_clear_fieldLink_RX6_28_SR_Opens_jumpCount_I) (fun _ q9 => q9) dX6_clear_12 (fun H locs hC => ?_)
  refine lv_aload_n hx hb dX6_clear_15 rfl (lv_at hl 0 rfl) ?_
  refine lv_iconst (v := (-1)) hx hb dX6_clear_16 (by decide) ?_
  refine cP_56 (v := (-1)) hx hb hts i_X6_clear_X6 hown hK hC (hts (.fieldLink RX6 31 "StatementRules2$Opens" "arm" "I") k_X6_clear_fieldLink_RX6_31_SR_Opens_arm_I) (fun _ q9 => q9) dX6_clear_17 (fun H locs hC => ?_)
  obtain rfl := Option.some.inj hf
  exact W.vret hx hb hr (fun t ht hW => ⟨⟨(), rfl, trivial, ⟨by rw [ht]; exact hC.1, va_K.moved hW.alike hK, hC.2.1⟩, by rw [ht]; exact hC.2.2.2⟩, hC.2.2.1.F ht⟩) hC.2.2.1.2.2 dX6_clear_20
theorem k_X6_push_fieldLink_RX6_21_SR_Opens_count_I : Cond.fieldLink RX6 21 "StatementRules2$Opens" "count" "I" ∈ wzX6_push := List.mem_cons_of_mem _ (List.mem_append_left _ (List.mem_of_getElem? (i := 0) rfl))
theorem i_X6_push_X6 : ∀ w ∈ wsX60, w ∈ wzX6_push := fun _ h => List.mem_cons_of_mem _ (List.mem_append_right _ (List.mem_append_left _ (h)))
theorem k_X6_push_fieldLink_RX6_11_SR_Opens_rows_LSR_Open : Cond.fieldLink RX6 11 "StatementRules2$Opens" "rows" "[LStatementRules2$Open;" ∈ wzX6_push := List.mem_cons_of_mem _ (List.mem_append_left _ (List.mem_of_getElem? (i := 1) rfl))
theorem k_X6_push_methodLink_RX6_34_yJ9_min_7cf53 : Cond.methodLink RX6 34 yJ9_min_7cf53 ∈ wzX6_push := List.mem_cons_of_mem _ (List.mem_append_left _ (List.mem_of_getElem? (i := 2) rfl))
theorem k_X6_push_static_yJ9_min_7cf53 : Cond.static yJ9_min_7cf53 ∈ wzX6_push := List.mem_cons_of_mem _ (List.mem_append_left _ (List.mem_of_getElem? (i := 3) rfl))
theorem k_X6_push_initialized_RJ9 : Cond.initialized RJ9 ∈ wzX6_push := List.mem_cons_of_mem _ (List.mem_append_left _ (List.mem_of_getElem? (i := 4) rfl))
theorem k_X6_push_code_yJ9_min_7cf53_cJ9_min_7cf53_2_some_int : Cond.code yJ9_min_7cf53 cJ9_min_7cf53 2 (some .int) ∈ wzX6_push := List.mem_cons_of_mem _ (List.mem_append_left _ (List.mem_of_getElem? (i := 5) rfl))
theorem i_X6_push_X5 : ∀ w ∈ wsX50, w ∈ wzX6_push := fun _ h => List.mem_cons_of_mem _ (List.mem_append_right _ (List.mem_append_right _ (List.mem_append_left _ (h))))
theorem k_X6_push_classLink_RX6_9_RX5 : Cond.classLink RX6 9 RX5 ∈ wzX6_push := List.mem_cons_of_mem _ (List.mem_append_left _ (List.mem_of_getElem? (i := 6) rfl))
theorem k_X6_push_instantiable_RX5_17 : Cond.instantiable RX5 17 ∈ wzX6_push := List.mem_cons_of_mem _ (List.mem_append_left _ (List.mem_of_getElem? (i := 7) rfl))
theorem k_X6_push_initialized_RX5 : Cond.initialized RX5 ∈ wzX6_push := List.mem_cons_of_mem _ (List.mem_append_left _ (List.mem_of_getElem? (i := 8) rfl))
theorem k_X6_push_instanceMethod_yX5_init : Cond.instanceMethod yX5_init ∈ wzX6_push := List.mem_cons_of_mem _ (List.mem_append_left _ (List.mem_of_getElem? (i := 9) rfl))
theorem k_X6_push_fieldLink_RX6_25_SR_Opens_serials_I : Cond.fieldLink RX6 25 "StatementRules2$Opens" "serials" "I" ∈ wzX6_push := List.mem_cons_of_mem _ (List.mem_append_left _ (List.mem_of_getElem? (i := 10) rfl))
theorem k_X6_push_fieldLink_RX6_28_SR_Opens_jumpCount_I : Cond.fieldLink RX6 28 "StatementRules2$Opens" "jumpCount" "I" ∈ wzX6_push := List.mem_cons_of_mem _ (List.mem_append_left _ (List.mem_of_getElem? (i := 11) rfl))
set_option maxHeartbeats 4000000 in
set_option maxRecDepth 100000 in
theorem j_X6_push_48 {p : Program} {e : Env} {s : State} {m : MethodId} {args : Array Value} {below : List Frame} {meth : Method} {c : Code} {A : Nat → Prop} (l : Launch) (dC : Nat → ClassId) (dI : Nat → Nat → Nat) (Q : CQ) (N : Nat) (z9h : Nat) (R : Option Nat × CS) (hx : p.tables.exec = Jvm.exec) (hb : c.code = cX6_push) (hr : meth.sig.returnType = (some (.object "StatementRules2$Open"))) (hml : c.maxLocals = 6) (hown : s.vm.findClass RX6 = some m.cls) (hts : ∀ w ∈ wzX6_push, w.before args s = true) (hlocks : meth.locks = false) (hZ : zAMB s) (hA : ∀ q : Nat, s.heap.size ≤ q → A q) (hK : va_K (dC, dI) vwCl (cT Q) s) : ∀ (σ : CS) (x1 : Int32) (x2 : Int32) (x3 : Int32) (x4 : Int32) (x5 : Nat) (H : Heap) (locs : List Loc) (ls : Array Slot), f_X6_push_48 N σ x1 x2 x3 x4 x5 = some R → z9h ≤ CS.hs σ → CP dC dI Q A s.heap σ H locs → lv_has ls 6 [(0, .ref (Q.o 6)), (1, .int x1), (2, .int x2), (3, .int x3), (4, .int x4), (5, .ref x5)] → W p l e ({ frames := 2, cells := CS.hs R.2 - z9h, slots := 17 * (CS.hs R.2 - z9h), locals := 60 * 2 }) s m args below meth c H locs (CS.hs σ - z9h) (17 * (CS.hs σ - z9h)) (MQ below (va_Qq (fun (r : Option Nat) (_ : Unit) => r = R.1) (fun (_ : Unit) (t : State) => zPost dC dI A (cW Q R.2) (cT Q) t ∧ t.heap.size = CS.hs R.2) A) args s (CS.hs R.2 - z9h) (17 * (CS.hs R.2 - z9h)) A) (F0 m 48 ls []) := by
  intro σ x1 x2 x3 x4 x5 H locs ls hf h0 hC hl
  unfold f_X6_push_48 at hf
  refine lv_aload_n hx hb dX6_push_48 rfl (lv_at hl 0 rfl) ?_
  refine lv_iload hx hb dX6_push_49 (lv_at hl 4 rfl) ?_
  refine lv_iconst (v := 1) hx hb dX6_push_51 (by decide) ?_
  refine lv_iadd hx hb dX6_push_52 ?_
  refine cP_53 (v := (x4 + 1)) hx hb hts i_X6_push_X6 hown hK hC (hts (.fieldLink RX6 21 "StatementRules2$Opens" "count" "I") k_X6_push_fieldLink_RX6_21_SR_Opens_count_I) (fun _ q9 => q9) dX6_push_53 (fun H locs hC => ?_)
  refine lv_aload_n hx hb dX6_push_56 rfl (lv_at hl 0 rfl) ?_
  refine lv_dup hx hb dX6_push_57 rfl ?_
  refine cG_54 (v := (σ.i 54)) hx hb hts i_X6_push_X6 hown hK hC (hts (.fieldLink RX6 25 "StatementRules2$Opens" "serials" "I") k_X6_push_fieldLink_RX6_25_SR_Opens_serials_I) (fun _ q9 => q9) dX6_push_58 rfl ?_
  refine lv_iconst (v := 1) hx hb dX6_push_61 (by decide) ?_
  refine lv_iadd hx hb dX6_push_62 ?_
  refine cP_54 (v := ((σ.i 54) + 1)) hx hb hts i_X6_push_X6 hown hK hC (hts (.fieldLink RX6 25 "StatementRules2$Opens" "serials" "I") k_X6_push_fieldLink_RX6_25_SR_Opens_serials_I) (fun _ q9 => q9) dX6_push_63 (fun H locs hC => ?_)
  refine lv_aload hx hb dX6_push_66 (lv_at hl 5 rfl) ?_
  refine lv_iload_n hx hb dX6_push_68 rfl (lv_at hl 1 rfl) ?_
  obtain ⟨b11, hf⟩ := hf_ite hf
  refine pPN_X5_0 (v := x1) hx hb hts i_X6_push_X5 hown hK hC (va_Nw.use rfl (hZ.1 (.fieldLinkNest RX6 41 "StatementRules2$Open" "sort" "I" "StatementRules2") (by decide +kernel))) (fun _ q9 => q9) dX6_push_69 b11 (fun H locs hC => ?_)
  refine lv_aload hx hb dX6_push_72 (lv_at hl 5 rfl) ?_
  refine lv_aload_n hx hb dX6_push_74 rfl (lv_at hl 0 rfl) ?_
  refine cG_54 (v := ((σ.i 54) + 1)) hx hb hts i_X6_push_X6 hown hK hC (hts (.fieldLink RX6 25 "StatementRules2$Opens" "serials" "I") k_X6_push_fieldLink_RX6_25_SR_Opens_serials_I) (fun _ q9 => q9) dX6_push_75 rfl ?_
  refine pPN_X5_1 (v := ((σ.i 54) + 1)) hx hb hts i_X6_push_X5 hown hK hC (va_Nw.use rfl (hZ.1 (.fieldLinkNest RX6 44 "StatementRules2$Open" "serial" "I" "StatementRules2") (by decide +kernel))) (fun _ q9 => q9) dX6_push_78 b11 (fun H locs hC => ?_)
  refine lv_aload hx hb dX6_push_81 (lv_at hl 5 rfl) ?_
  refine lv_iload_n hx hb dX6_push_83 rfl (lv_at hl 2 rfl) ?_
  refine pPN_X5_2 (v := x2) hx hb hts i_X6_push_X5 hown hK hC (va_Nw.use rfl (hZ.1 (.fieldLinkNest RX6 47 "StatementRules2$Open" "depth" "I" "StatementRules2") (by decide +kernel))) (fun _ q9 => q9) dX6_push_84 b11 (fun H locs hC => ?_)
  refine lv_aload hx hb dX6_push_87 (lv_at hl 5 rfl) ?_
  refine lv_iload_n hx hb dX6_push_89 rfl (lv_at hl 3 rfl) ?_
  refine pPN_X5_3 (v := x3) hx hb hts i_X6_push_X5 hown hK hC (va_Nw.use rfl (hZ.1 (.fieldLinkNest RX6 50 "StatementRules2$Open" "namesBefore" "I" "StatementRules2") (by decide +kernel))) (fun _ q9 => q9) dX6_push_90 b11 (fun H locs hC => ?_)
  refine lv_aload hx hb dX6_push_93 (lv_at hl 5 rfl) ?_
  refine lv_lconst (v := 0) hx hb dX6_push_95 (by decide) ?_
  refine pPN_X5_4 (v := 0) hx hb hts i_X6_push_X5 hown hK hC (va_Nw.use rfl (hZ.1 (.fieldLinkNest RX6 53 "StatementRules2$Open" "label" "J" "StatementRules2") (by decide +kernel))) (fun _ q9 => q9) dX6_push_96 b11 (fun H locs hC => ?_)
  refine lv_aload hx hb dX6_push_99 (lv_at hl 5 rfl) ?_
  refine lv_iconst (v := 0) hx hb dX6_push_101 (by decide) ?_
  refine pPN_X5_5 (v := 0) hx hb hts i_X6_push_X5 hown hK hC (va_Nw.use rfl (hZ.1 (.fieldLinkNest RX6 57 "StatementRules2$Open" "begun" "Z" "StatementRules2") (by decide +kernel))) (fun _ q9 => q9) dX6_push_102 b11 (by decide) (fun H locs hC => ?_)
  refine lv_aload hx hb dX6_push_105 (lv_at hl 5 rfl) ?_
  refine lv_iconst (v := 0) hx hb dX6_push_107 (by decide) ?_
  refine pPN_X5_6 (v := 0) hx hb hts i_X6_push_X5 hown hK hC (va_Nw.use rfl (hZ.1 (.fieldLinkNest RX6 61 "StatementRules2$Open" "ends" "Z" "StatementRules2") (by decide +kernel))) (fun _ q9 => q9) dX6_push_108 b11 (by decide) (fun H locs hC => ?_)
  refine lv_aload hx hb dX6_push_111 (lv_at hl 5 rfl) ?_
  refine lv_iconst (v := 0) hx hb dX6_push_113 (by decide) ?_
  refine pPN_X5_7 (v := 0) hx hb hts i_X6_push_X5 hown hK hC (va_Nw.use rfl (hZ.1 (.fieldLinkNest RX6 64 "StatementRules2$Open" "never" "Z" "StatementRules2") (by decide +kernel))) (fun _ q9 => q9) dX6_push_114 b11 (by decide) (fun H locs hC => ?_)
  refine lv_aload hx hb dX6_push_117 (lv_at hl 5 rfl) ?_
  refine lv_iconst (v := 0) hx hb dX6_push_119 (by decide) ?_
  refine pPN_X5_8 (v := 0) hx hb hts i_X6_push_X5 hown hK hC (va_Nw.use rfl (hZ.1 (.fieldLinkNest RX6 67 "StatementRules2$Open" "whole" "Z" "StatementRules2") (by decide +kernel))) (fun _ q9 => q9) dX6_push_120 b11 (by decide) (fun H locs hC => ?_)
  refine lv_aload hx hb dX6_push_123 (lv_at hl 5 rfl) ?_
  refine lv_iconst (v := (-1)) hx hb dX6_push_125 (by decide) ?_
  refine pPN_X5_9 (v := (-1)) hx hb hts i_X6_push_X5 hown hK hC (va_Nw.use rfl (hZ.1 (.fieldLinkNest RX6 70 "StatementRules2$Open" "exit" "I" "StatementRules2") (by decide +kernel))) (fun _ q9 => q9) dX6_push_126 b11 (fun H locs hC => ?_)
  refine lv_aload hx hb dX6_push_129 (lv_at hl 5 rfl) ?_
  refine lv_iconst (v := (-1)) hx hb dX6_push_131 (by decide) ?_
  refine pPN_X5_10 (v := (-1)) hx hb hts i_X6_push_X5 hown hK hC (va_Nw.use rfl (hZ.1 (.fieldLinkNest RX6 73 "StatementRules2$Open" "next" "I" "StatementRules2") (by decide +kernel))) (fun _ q9 => q9) dX6_push_132 b11 (fun H locs hC => ?_)
  refine lv_aload hx hb dX6_push_135 (lv_at hl 5 rfl) ?_
  refine lv_iconst (v := (-1)) hx hb dX6_push_137 (by decide) ?_
  refine pPN_X5_11 (v := (-1)) hx hb hts i_X6_push_X5 hown hK hC (va_Nw.use rfl (hZ.1 (.fieldLinkNest RX6 76 "StatementRules2$Open" "other" "I" "StatementRules2") (by decide +kernel))) (fun _ q9 => q9) dX6_push_138 b11 (fun H locs hC => ?_)
  refine lv_aload hx hb dX6_push_141 (lv_at hl 5 rfl) ?_
  refine lv_iconst (v := 0) hx hb dX6_push_143 (by decide) ?_
  refine pPN_X5_12 (v := 0) hx hb hts i_X6_push_X5 hown hK hC (va_Nw.use rfl (hZ.1 (.fieldLinkNest RX6 79 "StatementRules2$Open" "caught" "I" "StatementRules2") (by decide +kernel))) (fun _ q9 => q9) dX6_push_144 b11 (fun H locs hC => ?_)
  refine lv_aload hx hb dX6_push_147 (lv_at hl 5 rfl) ?_
  refine lv_aload_n hx hb dX6_push_149 rfl (lv_at hl 0 rfl) ?_
  refine cG_55 (v := (σ.i 55)) hx hb hts i_X6_push_X6 hown hK hC (hts (.fieldLink RX6 28 "StatementRules2$Opens" "jumpCount" "I") k_X6_push_fieldLink_RX6_28_SR_Opens_jumpCount_I) (fun _ q9 => q9) dX6_push_150 rfl ?_
  refine pPN_X5_14 (v := (σ.i 55)) hx hb hts i_X6_push_X5 hown hK hC (va_Nw.use rfl (hZ.1 (.fieldLinkNest RX6 82 "StatementRules2$Open" "firstJump" "I" "StatementRules2") (by decide +kernel))) (fun _ q9 => q9) dX6_push_153 b11 (fun H locs hC => ?_)
  refine lv_aload hx hb dX6_push_156 (lv_at hl 5 rfl) ?_
  obtain rfl := Option.some.inj hf
  exact W.aret (v := .ref x5) hx hb hr (Or.inl ⟨_, rfl⟩) (Or.inr ⟨_, rfl⟩) (fun t ht hW => ⟨⟨(some x5), (), rfl, rfl, ⟨by rw [ht]; exact hC.1, va_K.moved hW.alike hK, hC.2.1⟩, by rw [ht]; exact hC.2.2.2⟩, hC.2.2.1.F ht⟩) hC.2.2.1.2.2 dX6_push_158
set_option maxHeartbeats 4000000 in
set_option maxRecDepth 100000 in
theorem c_X6_push (l : Launch) (dC : Nat → ClassId) (dI : Nat → Nat → Nat) (Q : CQ) (N : Nat) (σ : CS) (x1 : Int32) (x2 : Int32) (x3 : Int32) (R : Option Nat × CS) (hf : f_X6_push N σ x1 x2 x3 = some R) : Met l yX6_push wzX6_push ({ frames := 2, cells := CS.hs R.2 - CS.hs σ, slots := 17 * (CS.hs R.2 - CS.hs σ), locals := 60 * 2 }) (va_Pc [.ref (Q.o 6), .int x1, .int x2, .int x3] (zPre dC dI (CS.hs σ) (cW Q σ) (cT Q))) (va_Qq (fun (r : Option Nat) (_ : Unit) => r = R.1) (fun (_ : Unit) (t : State) => zPost dC dI (va_A (cW Q σ) (CS.hs σ)) (cW Q R.2) (cT Q) t ∧ t.heap.size = CS.hs R.2) (va_A (cW Q σ) (CS.hs σ))) (CS.hs R.2 - CS.hs σ) (17 * (CS.hs R.2 - CS.hs σ)) (va_A (cW Q σ) (CS.hs σ)) := by
  refine Met.ofW (cc := cX6_push) (maxL := 6) (ret := (some (.object "StatementRules2$Open"))) (by decide) rfl ?_
  intro p e s m args below meth c s₁ B hml hv
  obtain ⟨rfl, hsz, hZ, hP, hK, hD0⟩ := hv
  have hx := B.exec
  have hb := B.bytes
  have hr := B.returns
  have hts := atoms_spec (ws := wzX6_push) B.pre
  have hown : s.vm.findClass RX6 = some m.cls := findClass_of_methodNamed B.named
  have hlocks := B.notSynchronized
  have hD := hD0.self (sz := CS.hs σ)
  generalize hAe : va_A (cW Q σ) (CS.hs σ) = A at hD ⊢
  have hA : ∀ q : Nat, s.heap.size ≤ q → A q := fun q h => by rw [← hAe]; exact Or.inr (hsz ▸ h)
  have hC : CP dC dI Q A s.heap σ s.heap [] := ⟨hP, hD, va_S.rf, hsz⟩
  have h0 : CS.hs σ ≤ CS.hs σ := Nat.le_refl _
  have hl := lv_entry ([.ref (Q.o 6), .int x1, .int x2, .int x3]) (n := 6) (Nat.le_of_ble_eq_true rfl)
  rw [lg_entry_eq]
  generalize (lg_sl ([.ref (Q.o 6), .int x1, .int x2, .int x3]) ++ List.replicate (6 - (lg_sl ([.ref (Q.o 6), .int x1, .int x2, .int x3])).length) Slot.unset).toArray = ls at hl ⊢
  have hl : lv_has ls 6 [(0, .ref (Q.o 6)), (1, .int x1), (2, .int x2), (3, .int x3)] := hl
  unfold f_X6_push at hf
  refine W.widen (k := CS.hs σ - CS.hs σ) (n := 17 * (CS.hs σ - CS.hs σ)) (Nat.zero_le _) (Nat.zero_le _) ?_
  refine lv_aload_n hx hb dX6_push_0 rfl (lv_at hl 0 rfl) ?_
  refine cG_53 (v := (σ.i 53)) hx hb hts i_X6_push_X6 hown hK hC (hts (.fieldLink RX6 21 "StatementRules2$Opens" "count" "I") k_X6_push_fieldLink_RX6_21_SR_Opens_count_I) (fun _ q9 => q9) dX6_push_1 rfl ?_
  refine lv_aload_n hx hb dX6_push_4 rfl (lv_at hl 0 rfl) ?_
  refine cG_51 hx hb hts i_X6_push_X6 hown hK hC (hts (.fieldLink RX6 11 "StatementRules2$Opens" "rows" "[LStatementRules2$Open;") k_X6_push_fieldLink_RX6_11_SR_Opens_rows_LSR_Open) (fun _ q9 => q9) dX6_push_5 ?_
  refine va_alen (v := 400) hx hb hK hC.1 22 2 rfl rfl rfl dX6_push_8 ?_
  refine lv_iconst (v := 1) hx hb dX6_push_9 (by decide) ?_
  refine lv_isub hx hb dX6_push_10 ?_
  refine lv_topi (fun z9 e9 => ?_)
  obtain rfl : z9 = 399 := e9.trans (by decide)
  have hr9 : CS.hs σ ≤ CS.hs R.2 := Mono.go hf (mono_ite (mono_oc (mono_le (Nat.le_succ _) (mono_bind (m_X5_init N (CS.new σ 0) (CS.hs σ)) (fun p5 => (mono_ite (mono_ite (m_X6_push_48 N (CS.setR p5.2 51 (((if (399 : Int32) < (σ.i 53) then (399 : Int32) else (σ.i 53)) : Int32).toNatClampNeg) (some (CS.hs σ))) x1 x2 x3 (if (399 : Int32) < (σ.i 53) then (399 : Int32) else (σ.i 53)) (CS.hs σ)) mono_none) mono_none)))) (fun a3 => (m_X6_push_48 N σ x1 x2 x3 (if (399 : Int32) < (σ.i 53) then (399 : Int32) else (σ.i 53)) a3))) mono_none)
  refine va_mmin hx hb (hml.trans hl.1.symm) hown (hts (.methodLink RX6 34 yJ9_min_7cf53) k_X6_push_methodLink_RX6_34_yJ9_min_7cf53) (hts (.static yJ9_min_7cf53) k_X6_push_static_yJ9_min_7cf53) (hts (.initialized RJ9) k_X6_push_initialized_RJ9) (hts (.code yJ9_min_7cf53 cJ9_min_7cf53 2 (some .int)) k_X6_push_code_yJ9_min_7cf53_cJ9_min_7cf53_2_some_int) (Nat.le_of_ble_eq_true rfl) (Nat.le_of_ble_eq_true rfl) (cAcc4 h0 hr9) (cAcc5 h0 hr9) dX6_push_11 ?_
  refine lv_istore (lv' := [(4, .int (if (399 : Int32) < (σ.i 53) then (399 : Int32) else (σ.i 53))), (0, .ref (Q.o 6)), (1, .int x1), (2, .int x2), (3, .int x3)]) hx hb dX6_push_14 hl (by decide) rfl (fun ls hl => ?_)
  refine lv_aload_n hx hb dX6_push_16 rfl (lv_at hl 1 rfl) ?_
  refine cG_51 hx hb hts i_X6_push_X6 hown hK hC (hts (.fieldLink RX6 11 "StatementRules2$Opens" "rows" "[LStatementRules2$Open;") k_X6_push_fieldLink_RX6_11_SR_Opens_rows_LSR_Open) (fun _ q9 => q9) dX6_push_17 ?_
  refine lv_iload hx hb dX6_push_20 (lv_at hl 0 rfl) ?_
  obtain ⟨b1, hf⟩ := hf_ite hf
  refine cL_51 (v := (CS.r σ 51 (((if (399 : Int32) < (σ.i 53) then (399 : Int32) else (σ.i 53)) : Int32).toNatClampNeg))) hx hb hK hC b1 dX6_push_22 rfl ?_
  rcases hf_oc hf with ⟨q2, hf⟩ | ⟨a3, q2, hf⟩
  ·
    refine W.eq (congrArg (fun v9 => F0 m 23 ls (va_rf v9 :: [])) q2) ?_
    refine W.eq (g2 := F0 m 23 ls (.null :: [])) rfl ?_
    refine lv_astoreN (lv' := [(5, .null), (4, .int (if (399 : Int32) < (σ.i 53) then (399 : Int32) else (σ.i 53))), (0, .ref (Q.o 6)), (1, .int x1), (2, .int x2), (3, .int x3)]) hx hb dX6_push_23 hl (by decide) rfl (fun ls hl => ?_)
    refine lv_aloadN hx hb dX6_push_25 (lv_at hl 0 rfl) ?_
    refine lv_ifnonnullN hx hb dX6_push_27 ?_
    have hn9 : CS.hs σ + 1 ≤ CS.hs R.2 := Mono.go hf (mono_bind (m_X5_init N (CS.new σ 0) (CS.hs σ)) (fun p5 => (mono_ite (mono_ite (m_X6_push_48 N (CS.setR p5.2 51 (((if (399 : Int32) < (σ.i 53) then (399 : Int32) else (σ.i 53)) : Int32).toNatClampNeg) (some (CS.hs σ))) x1 x2 x3 (if (399 : Int32) < (σ.i 53) then (399 : Int32) else (σ.i 53)) (CS.hs σ)) mono_none) mono_none)))
    refine cNew_X5 hx hb hts i_X6_push_X5 hown (hts (.classLink RX6 9 RX5) k_X6_push_classLink_RX6_9_RX5) (hts (.instantiable RX5 17) k_X6_push_instantiable_RX5_17) (hts (.initialized RX5) k_X6_push_initialized_RX5) hK hC hA (cN1 h0 hn9) (cN2 (by decide) h0 hn9) dX6_push_30 (fun H hC => ?_)
    have h4 : (CS.hs σ) ≤ CS.hs σ + 1 := Nat.le_succ_of_le h0
    refine W.widen (k := (CS.hs σ + 1) - (CS.hs σ)) (n := 17 * ((CS.hs σ + 1) - (CS.hs σ))) (cN3 h0) (cN4 (by decide) h0) ?_
    refine lv_dup hx hb dX6_push_33 rfl ?_
    obtain ⟨p5, hcp5, hf⟩ := hf_bind hf
    have hm6 : (CS.hs σ + 1) ≤ CS.hs p5.2 := Mono.go hcp5 (m_X5_init N (CS.new σ 0) (CS.hs σ))
    have hr9 : CS.hs p5.2 ≤ CS.hs R.2 := Mono.go hf (mono_ite (mono_ite (m_X6_push_48 N (CS.setR p5.2 51 (((if (399 : Int32) < (σ.i 53) then (399 : Int32) else (σ.i 53)) : Int32).toNatClampNeg) (some (CS.hs σ))) x1 x2 x3 (if (399 : Int32) < (σ.i 53) then (399 : Int32) else (σ.i 53)) (CS.hs σ)) mono_none) mono_none)
    have hFc := cFree hC hA
    refine va_callv (va_runIN (As := []) (rest := [.ref (CS.hs σ)]) ⟨hx, hb, hml, hown, hts⟩ (c_X5_init l dC dI Q N (CS.new σ 0) (CS.hs σ) p5 hcp5) ⟨va_cnB 0 hts hX6_push_X5_init_n40 rfl rfl rfl (hZ.1 (.methodLinkNest RX6 40 yX5_init "StatementRules2") (by decide +kernel)) (hts (.initialized RX5) k_X6_push_initialized_RX5) (by decide +kernel) ⟨(show 1 + 1 ≤ 2 by omega), (show 8 + (1 + 11) + 60 * 1 ≤ 60 * 2 by omega)⟩, rfl, (hts (.instanceMethod yX5_init) k_X6_push_instanceMethod_yX5_init)⟩ ⟨zPre.blind, cPre_go hZ hK hC⟩ rfl rfl hl.1 rfl (lv_room (Nat.le_of_ble_eq_true rfl)) dX6_push_34 (cAcc h4 hm6 hr9)) hC.2.2.1 (fun q _ h => hFc q h) hFc (fun u9 t9 H1 locs ht hvm hw hB hz1 hk1 hS => ?_)
    obtain ⟨⟨hP, hK1, hD1⟩, hsz1⟩ := hB
    rw [ht] at hP hsz1
    have hC : CP dC dI Q A s.heap p5.2 H1 locs := ⟨hP, hD1.weaken (fun _ _ _ h => hFc _ h), hS, hsz1⟩
    generalize H1 = H at hC ⊢
    have h8 : (CS.hs σ) ≤ CS.hs p5.2 := Nat.le_trans h4 hm6
    refine W.widen (k := CS.hs p5.2 - (CS.hs σ)) (n := 17 * (CS.hs p5.2 - (CS.hs σ))) (cAcc2 h4 hm6) (cAcc3 h4 hm6) ?_
    refine lv_astore (lv' := [(5, .ref (CS.hs σ)), (4, .int (if (399 : Int32) < (σ.i 53) then (399 : Int32) else (σ.i 53))), (0, .ref (Q.o 6)), (1, .int x1), (2, .int x2), (3, .int x3)]) hx hb dX6_push_37 hl (by decide) rfl (fun ls hl => ?_)
    refine lv_aload_n hx hb dX6_push_39 rfl (lv_at hl 2 rfl) ?_
    refine cG_51 hx hb hts i_X6_push_X6 hown hK hC (hts (.fieldLink RX6 11 "StatementRules2$Opens" "rows" "[LStatementRules2$Open;") k_X6_push_fieldLink_RX6_11_SR_Opens_rows_LSR_Open) (fun _ q9 => q9) dX6_push_40 ?_
    refine lv_iload hx hb dX6_push_43 (lv_at hl 1 rfl) ?_
    refine lv_aload hx hb dX6_push_45 (lv_at hl 0 rfl) ?_
    obtain ⟨b9, hf⟩ := hf_ite hf
    obtain ⟨b10, hf⟩ := hf_ite hf
    refine cS_51 hx hb hK hC b9 dX6_push_47 b10 (fun H locs hC => ?_)
    exact j_X6_push_48 l dC dI Q N (CS.hs σ) R hx hb hr hml hown hts hlocks hZ hA hK (CS.setR p5.2 51 (((if (399 : Int32) < (σ.i 53) then (399 : Int32) else (σ.i 53)) : Int32).toNatClampNeg) (some (CS.hs σ))) x1 x2 x3 (if (399 : Int32) < (σ.i 53) then (399 : Int32) else (σ.i 53)) (CS.hs σ) _ _ _ hf h8 hC (lv_sub hl [2, 3, 4, 5, 1, 0] rfl)
  ·
    refine W.eq (congrArg (fun v9 => F0 m 23 ls (va_rf v9 :: [])) q2) ?_
    refine W.eq (g2 := F0 m 23 ls (.ref a3 :: [])) rfl ?_
    refine lv_astore (lv' := [(5, .ref a3), (4, .int (if (399 : Int32) < (σ.i 53) then (399 : Int32) else (σ.i 53))), (0, .ref (Q.o 6)), (1, .int x1), (2, .int x2), (3, .int x3)]) hx hb dX6_push_23 hl (by decide) rfl (fun ls hl => ?_)
    refine lv_aload hx hb dX6_push_25 (lv_at hl 0 rfl) ?_
    refine lv_ifnonnull (tgt := 48) hx hb dX6_push_27 (by decide) ?_
    exact j_X6_push_48 l dC dI Q N (CS.hs σ) R hx hb hr hml hown hts hlocks hZ hA hK σ x1 x2 x3 (if (399 : Int32) < (σ.i 53) then (399 : Int32) else (σ.i 53)) a3 _ _ _ hf h0 hC (lv_sub hl [2, 3, 4, 5, 1, 0] rfl)
theorem k_X6_pop_fieldLink_RX6_21_SR_Opens_count_I : Cond.fieldLink RX6 21 "StatementRules2$Opens" "count" "I" ∈ wzX6_pop := List.mem_cons_of_mem _ (List.mem_append_left _ (List.mem_of_getElem? (i := 0) rfl))
theorem i_X6_pop_X6 : ∀ w ∈ wsX60, w ∈ wzX6_pop := fun _ h => List.mem_cons_of_mem _ (List.mem_append_right _ (List.mem_append_left _ (h)))
theorem k_X6_pop_methodLink_RX6_85_yJ9_max_7cf53 : Cond.methodLink RX6 85 yJ9_max_7cf53 ∈ wzX6_pop := List.mem_cons_of_mem _ (List.mem_append_left _ (List.mem_of_getElem? (i := 1) rfl))
theorem k_X6_pop_static_yJ9_max_7cf53 : Cond.static yJ9_max_7cf53 ∈ wzX6_pop := List.mem_cons_of_mem _ (List.mem_append_left _ (List.mem_of_getElem? (i := 2) rfl))
theorem k_X6_pop_initialized_RJ9 : Cond.initialized RJ9 ∈ wzX6_pop := List.mem_cons_of_mem _ (List.mem_append_left _ (List.mem_of_getElem? (i := 3) rfl))
theorem k_X6_pop_code_yJ9_max_7cf53_cJ9_max_7cf53_2_some_int : Cond.code yJ9_max_7cf53 cJ9_max_7cf53 2 (some .int) ∈ wzX6_pop := List.mem_cons_of_mem _ (List.mem_append_left _ (List.mem_of_getElem? (i := 4) rfl))
set_option maxHeartbeats 4000000 in
set_option maxRecDepth 100000 in
theorem c_X6_pop (l : Launch) (dC : Nat → ClassId) (dI : Nat → Nat → Nat) (Q : CQ) (N : Nat) (σ : CS) (R : Unit × CS) (hf : f_X6_pop N σ = some R) : Met l yX6_pop wzX6_pop ({ frames := 1, cells := CS.hs R.2 - CS.hs σ, slots := 17 * (CS.hs R.2 - CS.hs σ), locals := 60 * 1 }) (va_Pc [.ref (Q.o 6)] (zPre dC dI (CS.hs σ) (cW Q σ) (cT Q))) (va_Qv (fun (_ : Unit) => True) (fun (_ : Unit) (t : State) => zPost dC dI (va_A (cW Q σ) (CS.hs σ)) (cW Q R.2) (cT Q) t ∧ t.heap.size = CS.hs R.2) (va_A (cW Q σ) (CS.hs σ))) (CS.hs R.2 - CS.hs σ) (17 * (CS.hs R.2 - CS.hs σ)) (va_A (cW Q σ) (CS.hs σ)) := by
  refine Met.ofW (cc := cX6_pop) (maxL := 1) (ret := none) (by decide) rfl ?_
  intro p e s m args below meth c s₁ B hml hv
  obtain ⟨rfl, hsz, hZ, hP, hK, hD0⟩ := hv
  have hx := B.exec
  have hb := B.bytes
  have hr := B.returns
  have hts := atoms_spec (ws := wzX6_pop) B.pre
  have hown : s.vm.findClass RX6 = some m.cls := findClass_of_methodNamed B.named
  have hlocks := B.notSynchronized
  have hD := hD0.self (sz := CS.hs σ)
  generalize hAe : va_A (cW Q σ) (CS.hs σ) = A at hD ⊢
  have hA : ∀ q : Nat, s.heap.size ≤ q → A q := fun q h => by rw [← hAe]; exact Or.inr (hsz ▸ h)
  have hC : CP dC dI Q A s.heap σ s.heap [] := ⟨hP, hD, va_S.rf, hsz⟩
  have h0 : CS.hs σ ≤ CS.hs σ := Nat.le_refl _
  have hl := lv_entry ([.ref (Q.o 6)]) (n := 1) (Nat.le_of_ble_eq_true rfl)
  rw [lg_entry_eq]
  generalize (lg_sl ([.ref (Q.o 6)]) ++ List.replicate (1 - (lg_sl ([.ref (Q.o 6)])).length) Slot.unset).toArray = ls at hl ⊢
  have hl : lv_has ls 1 [(0, .ref (Q.o 6))] := hl
  unfold f_X6_pop at hf
  refine W.widen (k := CS.hs σ - CS.hs σ) (n := 17 * (CS.hs σ - CS.hs σ)) (Nat.zero_le _) (Nat.zero_le _) ?_
  refine lv_aload_n hx hb dX6_pop_0 rfl (lv_at hl 0 rfl) ?_
  refine lv_iconst (v := 0) hx hb dX6_pop_1 (by decide) ?_
  refine lv_aload_n hx hb dX6_pop_2 rfl (lv_at hl 0 rfl) ?_
  refine cG_53 (v := (σ.i 53)) hx hb hts i_X6_pop_X6 hown hK hC (hts (.fieldLink RX6 21 "StatementRules2$Opens" "count" "I") k_X6_pop_fieldLink_RX6_21_SR_Opens_count_I) (fun _ q9 => q9) dX6_pop_3 rfl ?_
  refine lv_iconst (v := 1) hx hb dX6_pop_6 (by decide) ?_
  refine lv_isub hx hb dX6_pop_7 ?_
  have hr9 : CS.hs σ ≤ CS.hs R.2 := Mono.go hf (mono_some (Nat.le_refl _))
  refine va_mmax hx hb (hml.trans hl.1.symm) hown (hts (.methodLink RX6 85 yJ9_max_7cf53) k_X6_pop_methodLink_RX6_85_yJ9_max_7cf53) (hts (.static yJ9_max_7cf53) k_X6_pop_static_yJ9_max_7cf53) (hts (.initialized RJ9) k_X6_pop_initialized_RJ9) (hts (.code yJ9_max_7cf53 cJ9_max_7cf53 2 (some .int)) k_X6_pop_code_yJ9_max_7cf53_cJ9_max_7cf53_2_some_int) (Nat.le_of_ble_eq_true rfl) (Nat.le_of_ble_eq_true rfl) (cAcc4 h0 hr9) (cAcc5 h0 hr9) dX6_pop_8 ?_
  refine cP_53 (v := (if 0 < ((σ.i 53) - 1) then ((σ.i 53) - 1) else 0)) hx hb hts i_X6_pop_X6 hown hK hC (hts (.fieldLink RX6 21 "StatementRules2$Opens" "count" "I") k_X6_pop_fieldLink_RX6_21_SR_Opens_count_I) (fun _ q9 => q9) dX6_pop_11 (fun H locs hC => ?_)
  obtain rfl := Option.some.inj hf
  exact W.vret hx hb hr (fun t ht hW => ⟨⟨(), rfl, trivial, ⟨by rw [ht]; exact hC.1, va_K.moved hW.alike hK, hC.2.1⟩, by rw [ht]; exact hC.2.2.2⟩, hC.2.2.1.F ht⟩) hC.2.2.1.2.2 dX6_pop_14
theorem k_X6_row_fieldLink_RX6_21_SR_Opens_count_I : Cond.fieldLink RX6 21 "StatementRules2$Opens" "count" "I" ∈ wzX6_row := List.mem_cons_of_mem _ (List.mem_append_left _ (List.mem_of_getElem? (i := 0) rfl))
theorem i_X6_row_X6 : ∀ w ∈ wsX60, w ∈ wzX6_row := fun _ h => List.mem_cons_of_mem _ (List.mem_append_right _ (List.mem_append_left _ (h)))
theorem k_X6_row_fieldLink_RX6_11_SR_Opens_rows_LSR_Open : Cond.fieldLink RX6 11 "StatementRules2$Opens" "rows" "[LStatementRules2$Open;" ∈ wzX6_row := List.mem_cons_of_mem _ (List.mem_append_left _ (List.mem_of_getElem? (i := 1) rfl))
set_option maxHeartbeats 4000000 in
set_option maxRecDepth 100000 in
theorem j_X6_row_30 {p : Program} {e : Env} {s : State} {m : MethodId} {args : Array Value} {below : List Frame} {meth : Method} {c : Code} {A : Nat → Prop} (l : Launch) (dC : Nat → ClassId) (dI : Nat → Nat → Nat) (Q : CQ) (N : Nat) (z9h : Nat) (R : Option Nat × CS) (hx : p.tables.exec = Jvm.exec) (hb : c.code = cX6_row) (hr : meth.sig.returnType = (some (.object "StatementRules2$Open"))) (hml : c.maxLocals = 2) (hown : s.vm.findClass RX6 = some m.cls) (hts : ∀ w ∈ wzX6_row, w.before args s = true) (hlocks : meth.locks = false) (hZ : zAMB s) (hA : ∀ q : Nat, s.heap.size ≤ q → A q) (hK : va_K (dC, dI) vwCl (cT Q) s) : ∀ (σ : CS) (H : Heap) (locs : List Loc) (ls : Array Slot), f_X6_row_30 N σ = some R → z9h ≤ CS.hs σ → CP dC dI Q A s.heap σ H locs → lv_has ls 2 [] → W p l e ({ frames := 1, cells := CS.hs R.2 - z9h, slots := 17 * (CS.hs R.2 - z9h), locals := 60 * 1 }) s m args below meth c H locs (CS.hs σ - z9h) (17 * (CS.hs σ - z9h)) (MQ below (va_Qq (fun (r : Option Nat) (_ : Unit) => r = R.1) (fun (_ : Unit) (t : State) => zPost dC dI A (cW Q R.2) (cT Q) t ∧ t.heap.size = CS.hs R.2) A) args s (CS.hs R.2 - z9h) (17 * (CS.hs R.2 - z9h)) A) (F0 m 30 ls []) := by
  intro σ  H locs ls hf h0 hC hl
  unfold f_X6_row_30 at hf
  refine lv_null hx hb dX6_row_30 ?_
  obtain rfl := Option.some.inj hf
  exact W.aret (v := .null) hx hb hr (Or.inl ⟨_, rfl⟩) (Or.inl rfl) (fun t ht hW => ⟨⟨none, (), rfl, rfl, ⟨by rw [ht]; exact hC.1, va_K.moved hW.alike hK, hC.2.1⟩, by rw [ht]; exact hC.2.2.2⟩, hC.2.2.1.F ht⟩) hC.2.2.1.2.2 dX6_row_31
set_option maxHeartbeats 4000000 in
set_option maxRecDepth 100000 in
theorem c_X6_row (l : Launch) (dC : Nat → ClassId) (dI : Nat → Nat → Nat) (Q : CQ) (N : Nat) (σ : CS) (x1 : Int32) (R : Option Nat × CS) (hf : f_X6_row N σ x1 = some R) : Met l yX6_row wzX6_row ({ frames := 1, cells := CS.hs R.2 - CS.hs σ, slots := 17 * (CS.hs R.2 - CS.hs σ), locals := 60 * 1 }) (va_Pc [.ref (Q.o 6), .int x1] (zPre dC dI (CS.hs σ) (cW Q σ) (cT Q))) (va_Qq (fun (r : Option Nat) (_ : Unit) => r = R.1) (fun (_ : Unit) (t : State) => zPost dC dI (va_A (cW Q σ) (CS.hs σ)) (cW Q R.2) (cT Q) t ∧ t.heap.size = CS.hs R.2) (va_A (cW Q σ) (CS.hs σ))) (CS.hs R.2 - CS.hs σ) (17 * (CS.hs R.2 - CS.hs σ)) (va_A (cW Q σ) (CS.hs σ)) := by
  refine Met.ofW (cc := cX6_row) (maxL := 2) (ret := (some (.object "StatementRules2$Open"))) (by decide) rfl ?_
  intro p e s m args below meth c s₁ B hml hv
  obtain ⟨rfl, hsz, hZ, hP, hK, hD0⟩ := hv
  have hx := B.exec
  have hb := B.bytes
  have hr := B.returns
  have hts := atoms_spec (ws := wzX6_row) B.pre
  have hown : s.vm.findClass RX6 = some m.cls := findClass_of_methodNamed B.named
  have hlocks := B.notSynchronized
  have hD := hD0.self (sz := CS.hs σ)
  generalize hAe : va_A (cW Q σ) (CS.hs σ) = A at hD ⊢
  have hA : ∀ q : Nat, s.heap.size ≤ q → A q := fun q h => by rw [← hAe]; exact Or.inr (hsz ▸ h)
  have hC : CP dC dI Q A s.heap σ s.heap [] := ⟨hP, hD, va_S.rf, hsz⟩
  have h0 : CS.hs σ ≤ CS.hs σ := Nat.le_refl _
  have hl := lv_entry ([.ref (Q.o 6), .int x1]) (n := 2) (Nat.le_of_ble_eq_true rfl)
  rw [lg_entry_eq]
  generalize (lg_sl ([.ref (Q.o 6), .int x1]) ++ List.replicate (2 - (lg_sl ([.ref (Q.o 6), .int x1])).length) Slot.unset).toArray = ls at hl ⊢
  have hl : lv_has ls 2 [(0, .ref (Q.o 6)), (1, .int x1)] := hl
  unfold f_X6_row at hf
  refine W.widen (k := CS.hs σ - CS.hs σ) (n := 17 * (CS.hs σ - CS.hs σ)) (Nat.zero_le _) (Nat.zero_le _) ?_
  refine lv_iload_n hx hb dX6_row_0 rfl (lv_at hl 1 rfl) ?_
  refine lv_if_lt (tgt := 30) hx hb dX6_row_1 (by decide) (fun c1 => ?_) (fun c1 => ?_)
  ·
    replace hf := (if_pos c1).symm.trans hf
    exact j_X6_row_30 l dC dI Q N (CS.hs σ) R hx hb hr hml hown hts hlocks hZ hA hK σ _ _ _ hf h0 hC (lv_sub hl [] rfl)
  ·
    replace hf := (if_neg c1).symm.trans hf
    refine lv_iload_n hx hb dX6_row_4 rfl (lv_at hl 1 rfl) ?_
    refine lv_aload_n hx hb dX6_row_5 rfl (lv_at hl 0 rfl) ?_
    refine cG_53 (v := (σ.i 53)) hx hb hts i_X6_row_X6 hown hK hC (hts (.fieldLink RX6 21 "StatementRules2$Opens" "count" "I") k_X6_row_fieldLink_RX6_21_SR_Opens_count_I) (fun _ q9 => q9) dX6_row_6 rfl ?_
    refine lv_icmp_ge (tgt := 30) hx hb dX6_row_9 (by decide) (fun c2 => ?_) (fun c2 => ?_)
    ·
      replace hf := (if_pos c2).symm.trans hf
      exact j_X6_row_30 l dC dI Q N (CS.hs σ) R hx hb hr hml hown hts hlocks hZ hA hK σ _ _ _ hf h0 hC (lv_sub hl [] rfl)
    ·
      replace hf := (if_neg c2).symm.trans hf
      refine lv_iload_n hx hb dX6_row_12 rfl (lv_at hl 1 rfl) ?_
      refine lv_aload_n hx hb dX6_row_13 rfl (lv_at hl 0 rfl) ?_
      refine cG_51 hx hb hts i_X6_row_X6 hown hK hC (hts (.fieldLink RX6 11 "StatementRules2$Opens" "rows" "[LStatementRules2$Open;") k_X6_row_fieldLink_RX6_11_SR_Opens_rows_LSR_Open) (fun _ q9 => q9) dX6_row_14 ?_
      refine va_alen (v := 400) hx hb hK hC.1 22 2 rfl rfl rfl dX6_row_17 ?_
      refine lv_icmp_ge (tgt := 30) hx hb dX6_row_18 (by decide) (fun c3 => ?_) (fun c3 => ?_)
      ·
        replace hf := (if_pos c3).symm.trans hf
        exact j_X6_row_30 l dC dI Q N (CS.hs σ) R hx hb hr hml hown hts hlocks hZ hA hK σ _ _ _ hf h0 hC (lv_sub hl [] rfl)
      ·
        replace hf := (if_neg c3).symm.trans hf
        refine lv_aload_n hx hb dX6_row_21 rfl (lv_at hl 0 rfl) ?_
        refine cG_51 hx hb hts i_X6_row_X6 hown hK hC (hts (.fieldLink RX6 11 "StatementRules2$Opens" "rows" "[LStatementRules2$Open;") k_X6_row_fieldLink_RX6_11_SR_Opens_rows_LSR_Open) (fun _ q9 => q9) dX6_row_22 ?_
        refine lv_iload_n hx hb dX6_row_25 rfl (lv_at hl 1 rfl) ?_
        obtain ⟨b4, hf⟩ := hf_ite hf
        refine cL_51 (v := (CS.r σ 51 ((x1 : Int32).toNatClampNeg))) hx hb hK hC b4 dX6_row_26 rfl ?_
        rcases hf_oc hf with ⟨q5, hf⟩ | ⟨a6, q5, hf⟩
        ·
          refine W.eq (congrArg (fun v9 => F0 m 27 ls (va_rf v9 :: [])) q5) ?_
          refine W.eq (g2 := F0 m 27 ls (.null :: [])) rfl ?_
          refine lv_goto (tgt := 31) hx hb dX6_row_27 (by decide) ?_
          obtain rfl := Option.some.inj hf
          exact W.aret (v := .null) hx hb hr (Or.inl ⟨_, rfl⟩) (Or.inl rfl) (fun t ht hW => ⟨⟨none, (), rfl, rfl, ⟨by rw [ht]; exact hC.1, va_K.moved hW.alike hK, hC.2.1⟩, by rw [ht]; exact hC.2.2.2⟩, hC.2.2.1.F ht⟩) hC.2.2.1.2.2 dX6_row_31
        ·
          refine W.eq (congrArg (fun v9 => F0 m 27 ls (va_rf v9 :: [])) q5) ?_
          refine W.eq (g2 := F0 m 27 ls (.ref a6 :: [])) rfl ?_
          refine lv_goto (tgt := 31) hx hb dX6_row_27 (by decide) ?_
          obtain rfl := Option.some.inj hf
          exact W.aret (v := .ref a6) hx hb hr (Or.inl ⟨_, rfl⟩) (Or.inr ⟨_, rfl⟩) (fun t ht hW => ⟨⟨(some a6), (), rfl, rfl, ⟨by rw [ht]; exact hC.1, va_K.moved hW.alike hK, hC.2.1⟩, by rw [ht]; exact hC.2.2.2⟩, hC.2.2.1.F ht⟩) hC.2.2.1.2.2 dX6_row_31
theorem k_X6_nearest_fieldLink_RX6_21_SR_Opens_count_I : Cond.fieldLink RX6 21 "StatementRules2$Opens" "count" "I" ∈ wzX6_nearest := List.mem_cons_of_mem _ (List.mem_append_left _ (List.mem_of_getElem? (i := 0) rfl))
theorem i_X6_nearest_X6 : ∀ w ∈ wsX60, w ∈ wzX6_nearest := fun _ h => List.mem_cons_of_mem _ (List.mem_append_right _ (List.mem_append_left _ (h)))
theorem k_X6_nearest_fieldLink_RX6_31_SR_Opens_arm_I : Cond.fieldLink RX6 31 "StatementRules2$Opens" "arm" "I" ∈ wzX6_nearest := List.mem_cons_of_mem _ (List.mem_append_left _ (List.mem_of_getElem? (i := 1) rfl))
theorem i_X6_nearest_X5 : ∀ w ∈ wsX50, w ∈ wzX6_nearest := fun _ h => List.mem_cons_of_mem _ (List.mem_append_right _ (List.mem_append_right _ (List.mem_append_left _ (h))))
set_option maxHeartbeats 4000000 in
set_option maxRecDepth 100000 in
theorem j_X6_nearest_46 {p : Program} {e : Env} {s : State} {m : MethodId} {args : Array Value} {below : List Frame} {meth : Method} {c : Code} {A : Nat → Prop} (l : Launch) (dC : Nat → ClassId) (dI : Nat → Nat → Nat) (Q : CQ) (N : Nat) (z9h : Nat) (R : Int32 × CS) (hx : p.tables.exec = Jvm.exec) (hb : c.code = cX6_nearest) (hr : meth.sig.returnType = (some .int)) (hml : c.maxLocals = 4) (hown : s.vm.findClass RX6 = some m.cls) (hts : ∀ w ∈ wzX6_nearest, w.before args s = true) (hlocks : meth.locks = false) (hZ : zAMB s) (hA : ∀ q : Nat, s.heap.size ≤ q → A q) (hK : va_K (dC, dI) vwCl (cT Q) s) : ∀ (σ : CS) (x2 : Int32) (H : Heap) (locs : List Loc) (ls : Array Slot), f_X6_nearest_46 N σ x2 = some R → z9h ≤ CS.hs σ → CP dC dI Q A s.heap σ H locs → lv_has ls 4 [(2, .int x2)] → W p l e ({ frames := 2, cells := CS.hs R.2 - z9h, slots := 17 * (CS.hs R.2 - z9h), locals := 60 * 2 }) s m args below meth c H locs (CS.hs σ - z9h) (17 * (CS.hs σ - z9h)) (MQ below (va_Qi (fun (r : Int32) (_ : Unit) => r = R.1) (fun (_ : Unit) (t : State) => zPost dC dI A (cW Q R.2) (cT Q) t ∧ t.heap.size = CS.hs R.2) A) args s (CS.hs R.2 - z9h) (17 * (CS.hs R.2 - z9h)) A) (F0 m 46 ls []) := by
  intro σ x2 H locs ls hf h0 hC hl
  unfold f_X6_nearest_46 at hf
  refine lv_iload_n hx hb dX6_nearest_46 rfl (lv_at hl 0 rfl) ?_
  obtain rfl := Option.some.inj hf
  exact W.iret (v := x2) hx hb hr (fun t ht hW => ⟨⟨x2, (), rfl, rfl, ⟨by rw [ht]; exact hC.1, va_K.moved hW.alike hK, hC.2.1⟩, by rw [ht]; exact hC.2.2.2⟩, hC.2.2.1.F ht⟩) hC.2.2.1.2.2 dX6_nearest_47
set_option maxHeartbeats 4000000 in
set_option maxRecDepth 100000 in
theorem j_X6_nearest_7 {p : Program} {e : Env} {s : State} {m : MethodId} {args : Array Value} {below : List Frame} {meth : Method} {c : Code} {A : Nat → Prop} (l : Launch) (dC : Nat → ClassId) (dI : Nat → Nat → Nat) (Q : CQ) (N : Nat) (z9h : Nat) (R : Int32 × CS) (hx : p.tables.exec = Jvm.exec) (hb : c.code = cX6_nearest) (hr : meth.sig.returnType = (some .int)) (hml : c.maxLocals = 4) (hown : s.vm.findClass RX6 = some m.cls) (hts : ∀ w ∈ wzX6_nearest, w.before args s = true) (hlocks : meth.locks = false) (hZ : zAMB s) (hA : ∀ q : Nat, s.heap.size ≤ q → A q) (hK : va_K (dC, dI) vwCl (cT Q) s) : ∀ (n9 : Nat), ∀ (σ : CS) (x1 : Int32) (x2 : Int32) (H : Heap) (locs : List Loc) (ls : Array Slot), f_X6_nearest_7 N n9 σ x1 x2 = some R → z9h ≤ CS.hs σ → CP dC dI Q A s.heap σ H locs → lv_has ls 4 [(0, .ref (Q.o 6)), (1, .int x1), (2, .int x2)] → W p l e ({ frames := 2, cells := CS.hs R.2 - z9h, slots := 17 * (CS.hs R.2 - z9h), locals := 60 * 2 }) s m args below meth c H locs (CS.hs σ - z9h) (17 * (CS.hs σ - z9h)) (MQ below (va_Qi (fun (r : Int32) (_ : Unit) => r = R.1) (fun (_ : Unit) (t : State) => zPost dC dI A (cW Q R.2) (cT Q) t ∧ t.heap.size = CS.hs R.2) A) args s (CS.hs R.2 - z9h) (17 * (CS.hs R.2 - z9h)) A) (F0 m 7 ls []) := by
  intro n9
  induction n9 with
  | zero => intro σ x1 x2 H locs ls hf; exact absurd hf (by intro q9; cases q9)
  | succ n9 ih =>
    intro σ x1 x2 H locs ls hf h0 hC hl
    replace hf : b_X6_nearest_7 N (f_X6_nearest_7 N n9) σ x1 x2 = some R := hf
    unfold b_X6_nearest_7 at hf
    have hMK := fun (σ : CS) (x1 : Int32) (x2 : Int32) => m_X6_nearest_7 N n9 σ x1 x2
    refine lv_iload_n hx hb dX6_nearest_7 rfl (lv_at hl 2 rfl) ?_
    refine lv_aload_n hx hb dX6_nearest_8 rfl (lv_at hl 0 rfl) ?_
    refine cG_56 (v := (σ.i 56)) hx hb hts i_X6_nearest_X6 hown hK hC (hts (.fieldLink RX6 31 "StatementRules2$Opens" "arm" "I") k_X6_nearest_fieldLink_RX6_31_SR_Opens_arm_I) (fun _ q9 => q9) dX6_nearest_9 rfl ?_
    refine lv_icmp_le (tgt := 54) hx hb dX6_nearest_12 (by decide) (fun c1 => ?_) (fun c1 => ?_)
    ·
      replace hf := (if_pos c1).symm.trans hf
      refine lv_iconst (v := (-1)) hx hb dX6_nearest_54 (by decide) ?_
      obtain rfl := Option.some.inj hf
      exact W.iret (v := (-1)) hx hb hr (fun t ht hW => ⟨⟨(-1), (), rfl, rfl, ⟨by rw [ht]; exact hC.1, va_K.moved hW.alike hK, hC.2.1⟩, by rw [ht]; exact hC.2.2.2⟩, hC.2.2.1.F ht⟩) hC.2.2.1.2.2 dX6_nearest_55
    ·
      replace hf := (if_neg c1).symm.trans hf
      refine lv_aload_n hx hb dX6_nearest_15 rfl (lv_at hl 0 rfl) ?_
      refine lv_iload_n hx hb dX6_nearest_16 rfl (lv_at hl 2 rfl) ?_
      obtain ⟨p2, hcp2, hf⟩ := hf_bind hf
      have hm3 : CS.hs σ ≤ CS.hs p2.2 := Mono.go hcp2 (m_X6_row N σ x2)
      have hr9 : CS.hs p2.2 ≤ CS.hs R.2 := Mono.go hf (mono_oc (hMK p2.2 x1 (x2 + (-1))) (fun a7 => (mono_ite (mono_bind (m_X5_isLoop N p2.2 a7) (fun p10 => (mono_ite (mono_ite (mono_ite (mono_ite (m_X6_nearest_46 N p10.2 x2) (hMK p10.2 x1 (x2 + (-1)))) mono_none) (hMK p10.2 x1 (x2 + (-1)))) (m_X6_nearest_46 N p10.2 x2)))) mono_none)))
      have hFc := cFree hC hA
      refine va_callq (va_runV (As := [.int x2]) (rest := []) ⟨hx, hb, hml, hown, hts⟩ (c_X6_row l dC dI Q N σ x2 p2 hcp2) (cwV 1 hts hX6_nearest_X6_row_v88 rfl rfl rfl (by decide +kernel) ⟨(show 1 + 1 ≤ 2 by omega), (show 8 + (2 + 11) + 60 * 1 ≤ 60 * 2 by omega)⟩) ⟨zPre.blind, va_recv hK hC.1 (ci := 5) (q0 := 6) rfl rfl, cPre_go hZ hK hC⟩ rfl rfl hl.1 rfl (lv_room (Nat.le_of_ble_eq_true rfl)) dX6_nearest_17 (cAcc h0 hm3 hr9)) hC.2.2.1 (fun q _ h => hFc q h) hFc (fun r4 u9 t9 H1 locs ht hvm hw hB hz1 hk1 hS => ?_)
      obtain ⟨⟨hP, hK1, hD1⟩, hsz1⟩ := hB
      rw [ht] at hP hsz1
      have hC : CP dC dI Q A s.heap p2.2 H1 locs := ⟨hP, hD1.weaken (fun _ _ _ h => hFc _ h), hS, hsz1⟩
      generalize H1 = H at hC ⊢
      have h5 : z9h ≤ CS.hs p2.2 := Nat.le_trans h0 hm3
      refine W.widen (k := CS.hs p2.2 - z9h) (n := 17 * (CS.hs p2.2 - z9h)) (cAcc2 h0 hm3) (cAcc3 h0 hm3) ?_
      obtain rfl : r4 = p2.1 := hw
      rcases hf_oc hf with ⟨q6, hf⟩ | ⟨a7, q6, hf⟩
      ·
        refine W.eq (congrArg (fun v9 => F0 m 20 ls (va_rf v9 :: [])) q6) ?_
        refine W.eq (g2 := F0 m 20 ls (.null :: [])) rfl ?_
        refine lv_astore_nN (lv' := [(3, .null), (0, .ref (Q.o 6)), (1, .int x1), (2, .int x2)]) hx hb dX6_nearest_20 rfl hl (by decide) rfl (fun ls hl => ?_)
        refine lv_aload_nN hx hb dX6_nearest_21 rfl (lv_at hl 0 rfl) ?_
        refine lv_ifnullN (tgt := 48) hx hb dX6_nearest_22 (by decide) ?_
        refine lv_iinc (v := (x2 + (-1))) (lv' := [(2, .int (x2 + (-1))), (3, .null), (0, .ref (Q.o 6)), (1, .int x1)]) hx hb dX6_nearest_48 hl (k := 3) rfl rfl (by decide) rfl (fun ls hl => ?_)
        refine lv_goto (tgt := 7) hx hb dX6_nearest_51 (by decide) ?_
        exact ih p2.2 x1 (x2 + (-1)) _ _ _ hf h5 hC (lv_sub hl [2, 3, 0] rfl)
      ·
        refine W.eq (congrArg (fun v9 => F0 m 20 ls (va_rf v9 :: [])) q6) ?_
        refine W.eq (g2 := F0 m 20 ls (.ref a7 :: [])) rfl ?_
        refine lv_astore_n (lv' := [(3, .ref a7), (0, .ref (Q.o 6)), (1, .int x1), (2, .int x2)]) hx hb dX6_nearest_20 rfl hl (by decide) rfl (fun ls hl => ?_)
        refine lv_aload_n hx hb dX6_nearest_21 rfl (lv_at hl 0 rfl) ?_
        refine lv_ifnull hx hb dX6_nearest_22 ?_
        refine lv_aload_n hx hb dX6_nearest_25 rfl (lv_at hl 0 rfl) ?_
        obtain ⟨b8, hf⟩ := hf_ite hf
        obtain ⟨k9, hk9⟩ := cPl (Q := Q) (s := p2.2) (a := a7) b8.1
        rw [cE0 (show CS.k p2.2 a7 = 0 from b8.2)] at hk9
        obtain ⟨p10, hcp10, hf⟩ := hf_bind hf
        have hm11 : CS.hs p2.2 ≤ CS.hs p10.2 := Mono.go hcp10 (m_X5_isLoop N p2.2 a7)
        have hr9 : CS.hs p10.2 ≤ CS.hs R.2 := Mono.go hf (mono_ite (mono_ite (mono_ite (mono_ite (m_X6_nearest_46 N p10.2 x2) (hMK p10.2 x1 (x2 + (-1)))) mono_none) (hMK p10.2 x1 (x2 + (-1)))) (m_X6_nearest_46 N p10.2 x2))
        have hFc := cFree hC hA
        refine va_calli (va_runV (As := []) (rest := []) ⟨hx, hb, hml, hown, hts⟩ (c_X5_isLoop l dC dI Q N p2.2 a7 p10 hcp10) (cwV 0 hts hX6_nearest_X5_isLoop_v92 rfl rfl rfl (by decide +kernel) ⟨(show 1 + 1 ≤ 2 by omega), (show 8 + (1 + 11) + 60 * 1 ≤ 60 * 2 by omega)⟩) ⟨zPre.blind, va_recv hK hC.1 (ci := 4) (q0 := k9) rfl hk9, cPre_go hZ hK hC⟩ rfl rfl hl.1 rfl (lv_room (Nat.le_of_ble_eq_true rfl)) dX6_nearest_26 (cAcc h5 hm11 hr9)) hC.2.2.1 (fun q _ h => hFc q h) hFc (fun r12 u9 t9 H1 locs ht hvm hw hB hz1 hk1 hS => ?_)
        obtain ⟨⟨hP, hK1, hD1⟩, hsz1⟩ := hB
        rw [ht] at hP hsz1
        have hC : CP dC dI Q A s.heap p10.2 H1 locs := ⟨hP, hD1.weaken (fun _ _ _ h => hFc _ h), hS, hsz1⟩
        generalize H1 = H at hC ⊢
        have h13 : z9h ≤ CS.hs p10.2 := Nat.le_trans h5 hm11
        refine W.widen (k := CS.hs p10.2 - z9h) (n := 17 * (CS.hs p10.2 - z9h)) (cAcc2 h5 hm11) (cAcc3 h5 hm11) ?_
        obtain rfl : r12 = p10.1 := hw
        refine lv_if_ne (tgt := 46) hx hb dX6_nearest_29 (by decide) (fun c14 => ?_) (fun c14 => ?_)
        ·
          replace hf := (if_neg c14).symm.trans hf
          exact j_X6_nearest_46 l dC dI Q N z9h R hx hb hr hml hown hts hlocks hZ hA hK p10.2 x2 _ _ _ hf h13 hC (lv_sub hl [3] rfl)
        ·
          replace hf := (if_pos c14).symm.trans hf
          refine lv_iload_n hx hb dX6_nearest_32 rfl (lv_at hl 2 rfl) ?_
          refine lv_if_ne (tgt := 48) hx hb dX6_nearest_33 (by decide) (fun c15 => ?_) (fun c15 => ?_)
          ·
            replace hf := (if_neg c15).symm.trans hf
            refine lv_iinc (v := (x2 + (-1))) (lv' := [(2, .int (x2 + (-1))), (3, .ref a7), (0, .ref (Q.o 6)), (1, .int x1)]) hx hb dX6_nearest_48 hl (k := 3) rfl rfl (by decide) rfl (fun ls hl => ?_)
            refine lv_goto (tgt := 7) hx hb dX6_nearest_51 (by decide) ?_
            exact ih p10.2 x1 (x2 + (-1)) _ _ _ hf h13 hC (lv_sub hl [2, 3, 0] rfl)
          ·
            replace hf := (if_pos c15).symm.trans hf
            refine lv_aload_n hx hb dX6_nearest_36 rfl (lv_at hl 0 rfl) ?_
            obtain ⟨b16, hf⟩ := hf_ite hf
            refine pGN_X5_0 (v := (CS.o p10.2 a7 0)) hx hb hts i_X6_nearest_X5 hown hK hC (va_Nw.use rfl (hZ.1 (.fieldLinkNest RX6 41 "StatementRules2$Open" "sort" "I" "StatementRules2") (by decide +kernel))) (fun _ q9 => q9) dX6_nearest_37 b16 rfl ?_
            refine lv_sipush (v := 218) hx hb dX6_nearest_40 (by decide) ?_
            refine lv_icmp_ne (tgt := 48) hx hb dX6_nearest_43 (by decide) (fun c17 => ?_) (fun c17 => ?_)
            ·
              replace hf := (if_neg c17).symm.trans hf
              refine lv_iinc (v := (x2 + (-1))) (lv' := [(2, .int (x2 + (-1))), (3, .ref a7), (0, .ref (Q.o 6)), (1, .int x1)]) hx hb dX6_nearest_48 hl (k := 3) rfl rfl (by decide) rfl (fun ls hl => ?_)
              refine lv_goto (tgt := 7) hx hb dX6_nearest_51 (by decide) ?_
              exact ih p10.2 x1 (x2 + (-1)) _ _ _ hf h13 hC (lv_sub hl [2, 3, 0] rfl)
            ·
              replace hf := (if_pos c17).symm.trans hf
              exact j_X6_nearest_46 l dC dI Q N z9h R hx hb hr hml hown hts hlocks hZ hA hK p10.2 x2 _ _ _ hf h13 hC (lv_sub hl [3] rfl)
set_option maxHeartbeats 4000000 in
set_option maxRecDepth 100000 in
theorem c_X6_nearest (l : Launch) (dC : Nat → ClassId) (dI : Nat → Nat → Nat) (Q : CQ) (N : Nat) (σ : CS) (x1 : Int32) (R : Int32 × CS) (hf : f_X6_nearest N σ x1 = some R) : Met l yX6_nearest wzX6_nearest ({ frames := 2, cells := CS.hs R.2 - CS.hs σ, slots := 17 * (CS.hs R.2 - CS.hs σ), locals := 60 * 2 }) (va_Pc [.ref (Q.o 6), .int x1] (zPre dC dI (CS.hs σ) (cW Q σ) (cT Q))) (va_Qi (fun (r : Int32) (_ : Unit) => r = R.1) (fun (_ : Unit) (t : State) => zPost dC dI (va_A (cW Q σ) (CS.hs σ)) (cW Q R.2) (cT Q) t ∧ t.heap.size = CS.hs R.2) (va_A (cW Q σ) (CS.hs σ))) (CS.hs R.2 - CS.hs σ) (17 * (CS.hs R.2 - CS.hs σ)) (va_A (cW Q σ) (CS.hs σ)) := by
  refine Met.ofW (cc := cX6_nearest) (maxL := 4) (ret := (some .int)) (by decide) rfl ?_
  intro p e s m args below meth c s₁ B hml hv
  obtain ⟨rfl, hsz, hZ, hP, hK, hD0⟩ := hv
  have hx := B.exec
  have hb := B.bytes
  have hr := B.returns
  have hts := atoms_spec (ws := wzX6_nearest) B.pre
  have hown : s.vm.findClass RX6 = some m.cls := findClass_of_methodNamed B.named
  have hlocks := B.notSynchronized
  have hD := hD0.self (sz := CS.hs σ)
  generalize hAe : va_A (cW Q σ) (CS.hs σ) = A at hD ⊢
  have hA : ∀ q : Nat, s.heap.size ≤ q → A q := fun q h => by rw [← hAe]; exact Or.inr (hsz ▸ h)
  have hC : CP dC dI Q A s.heap σ s.heap [] := ⟨hP, hD, va_S.rf, hsz⟩
  have h0 : CS.hs σ ≤ CS.hs σ := Nat.le_refl _
  have hl := lv_entry ([.ref (Q.o 6), .int x1]) (n := 4) (Nat.le_of_ble_eq_true rfl)
  rw [lg_entry_eq]
  generalize (lg_sl ([.ref (Q.o 6), .int x1]) ++ List.replicate (4 - (lg_sl ([.ref (Q.o 6), .int x1])).length) Slot.unset).toArray = ls at hl ⊢
  have hl : lv_has ls 4 [(0, .ref (Q.o 6)), (1, .int x1)] := hl
  unfold f_X6_nearest at hf
  refine W.widen (k := CS.hs σ - CS.hs σ) (n := 17 * (CS.hs σ - CS.hs σ)) (Nat.zero_le _) (Nat.zero_le _) ?_
  refine lv_aload_n hx hb dX6_nearest_0 rfl (lv_at hl 0 rfl) ?_
  refine cG_53 (v := (σ.i 53)) hx hb hts i_X6_nearest_X6 hown hK hC (hts (.fieldLink RX6 21 "StatementRules2$Opens" "count" "I") k_X6_nearest_fieldLink_RX6_21_SR_Opens_count_I) (fun _ q9 => q9) dX6_nearest_1 rfl ?_
  refine lv_iconst (v := 1) hx hb dX6_nearest_4 (by decide) ?_
  refine lv_isub hx hb dX6_nearest_5 ?_
  refine lv_istore_n (lv' := [(2, .int ((σ.i 53) - 1)), (0, .ref (Q.o 6)), (1, .int x1)]) hx hb dX6_nearest_6 rfl hl (by decide) rfl (fun ls hl => ?_)
  exact j_X6_nearest_7 l dC dI Q N (CS.hs σ) R hx hb hr hml hown hts hlocks hZ hA hK N σ x1 ((σ.i 53) - 1) _ _ _ hf h0 hC (lv_sub hl [1, 2, 0] rfl)
theorem k_X6_labelled_fieldLink_RX6_21_SR_Opens_count_I : Cond.fieldLink RX6 21 "StatementRules2$Opens" "count" "I" ∈ wzX6_labelled := List.mem_cons_of_mem _ (List.mem_append_left _ (List.mem_of_getElem? (i := 0) rfl))
theorem i_X6_labelled_X6 : ∀ w ∈ wsX60, w ∈ wzX6_labelled := fun _ h => List.mem_cons_of_mem _ (List.mem_append_right _ (List.mem_append_left _ (h)))
theorem k_X6_labelled_fieldLink_RX6_31_SR_Opens_arm_I : Cond.fieldLink RX6 31 "StatementRules2$Opens" "arm" "I" ∈ wzX6_labelled := List.mem_cons_of_mem _ (List.mem_append_left _ (List.mem_of_getElem? (i := 1) rfl))
theorem i_X6_labelled_X5 : ∀ w ∈ wsX50, w ∈ wzX6_labelled := fun _ h => List.mem_cons_of_mem _ (List.mem_append_right _ (List.mem_append_right _ (List.mem_append_left _ (h))))
set_option maxHeartbeats 4000000 in
set_option maxRecDepth 100000 in
theorem j_X6_labelled_7 {p : Program} {e : Env} {s : State} {m : MethodId} {args : Array Value} {below : List Frame} {meth : Method} {c : Code} {A : Nat → Prop} (l : Launch) (dC : Nat → ClassId) (dI : Nat → Nat → Nat) (Q : CQ) (N : Nat) (z9h : Nat) (R : Int32 × CS) (hx : p.tables.exec = Jvm.exec) (hb : c.code = cX6_labelled) (hr : meth.sig.returnType = (some .int)) (hml : c.maxLocals = 5) (hown : s.vm.findClass RX6 = some m.cls) (hts : ∀ w ∈ wzX6_labelled, w.before args s = true) (hlocks : meth.locks = false) (hZ : zAMB s) (hA : ∀ q : Nat, s.heap.size ≤ q → A q) (hK : va_K (dC, dI) vwCl (cT Q) s) : ∀ (n9 : Nat), ∀ (σ : CS) (x1 : Int64) (x3 : Int32) (H : Heap) (locs : List Loc) (ls : Array Slot), f_X6_labelled_7 N n9 σ x1 x3 = some R → z9h ≤ CS.hs σ → CP dC dI Q A s.heap σ H locs → lv_has ls 5 [(0, .ref (Q.o 6)), (1, .long x1), (3, .int x3)] → W p l e ({ frames := 2, cells := CS.hs R.2 - z9h, slots := 17 * (CS.hs R.2 - z9h), locals := 60 * 2 }) s m args below meth c H locs (CS.hs σ - z9h) (17 * (CS.hs σ - z9h)) (MQ below (va_Qi (fun (r : Int32) (_ : Unit) => r = R.1) (fun (_ : Unit) (t : State) => zPost dC dI A (cW Q R.2) (cT Q) t ∧ t.heap.size = CS.hs R.2) A) args s (CS.hs R.2 - z9h) (17 * (CS.hs R.2 - z9h)) A) (F0 m 7 ls []) := by
  intro n9
  induction n9 with
  | zero => intro σ x1 x3 H locs ls hf; exact absurd hf (by intro q9; cases q9)
  | succ n9 ih =>
    intro σ x1 x3 H locs ls hf h0 hC hl
    replace hf : b_X6_labelled_7 N (f_X6_labelled_7 N n9) σ x1 x3 = some R := hf
    unfold b_X6_labelled_7 at hf
    have hMK := fun (σ : CS) (x1 : Int64) (x3 : Int32) => m_X6_labelled_7 N n9 σ x1 x3
    refine lv_iload_n hx hb dX6_labelled_7 rfl (lv_at hl 2 rfl) ?_
    refine lv_aload_n hx hb dX6_labelled_8 rfl (lv_at hl 0 rfl) ?_
    refine cG_56 (v := (σ.i 56)) hx hb hts i_X6_labelled_X6 hown hK hC (hts (.fieldLink RX6 31 "StatementRules2$Opens" "arm" "I") k_X6_labelled_fieldLink_RX6_31_SR_Opens_arm_I) (fun _ q9 => q9) dX6_labelled_9 rfl ?_
    refine lv_icmp_le (tgt := 56) hx hb dX6_labelled_12 (by decide) (fun c1 => ?_) (fun c1 => ?_)
    ·
      replace hf := (if_pos c1).symm.trans hf
      refine lv_iconst (v := (-1)) hx hb dX6_labelled_56 (by decide) ?_
      obtain rfl := Option.some.inj hf
      exact W.iret (v := (-1)) hx hb hr (fun t ht hW => ⟨⟨(-1), (), rfl, rfl, ⟨by rw [ht]; exact hC.1, va_K.moved hW.alike hK, hC.2.1⟩, by rw [ht]; exact hC.2.2.2⟩, hC.2.2.1.F ht⟩) hC.2.2.1.2.2 dX6_labelled_57
    ·
      replace hf := (if_neg c1).symm.trans hf
      refine lv_aload_n hx hb dX6_labelled_15 rfl (lv_at hl 0 rfl) ?_
      refine lv_iload_n hx hb dX6_labelled_16 rfl (lv_at hl 2 rfl) ?_
      obtain ⟨p2, hcp2, hf⟩ := hf_bind hf
      have hm3 : CS.hs σ ≤ CS.hs p2.2 := Mono.go hcp2 (m_X6_row N σ x3)
      have hr9 : CS.hs p2.2 ≤ CS.hs R.2 := Mono.go hf (mono_oc (hMK p2.2 x1 (x3 + (-1))) (fun a7 => (mono_ite (mono_ite (mono_ite (mono_some (Nat.le_refl _)) (hMK p2.2 x1 (x3 + (-1)))) (hMK p2.2 x1 (x3 + (-1)))) mono_none)))
      have hFc := cFree hC hA
      refine va_callq (va_runV (As := [.int x3]) (rest := []) ⟨hx, hb, hml, hown, hts⟩ (c_X6_row l dC dI Q N σ x3 p2 hcp2) (cwV 1 hts hX6_labelled_X6_row_v88 rfl rfl rfl (by decide +kernel) ⟨(show 1 + 1 ≤ 2 by omega), (show 8 + (2 + 11) + 60 * 1 ≤ 60 * 2 by omega)⟩) ⟨zPre.blind, va_recv hK hC.1 (ci := 5) (q0 := 6) rfl rfl, cPre_go hZ hK hC⟩ rfl rfl hl.1 rfl (lv_room (Nat.le_of_ble_eq_true rfl)) dX6_labelled_17 (cAcc h0 hm3 hr9)) hC.2.2.1 (fun q _ h => hFc q h) hFc (fun r4 u9 t9 H1 locs ht hvm hw hB hz1 hk1 hS => ?_)
      obtain ⟨⟨hP, hK1, hD1⟩, hsz1⟩ := hB
      rw [ht] at hP hsz1
      have hC : CP dC dI Q A s.heap p2.2 H1 locs := ⟨hP, hD1.weaken (fun _ _ _ h => hFc _ h), hS, hsz1⟩
      generalize H1 = H at hC ⊢
      have h5 : z9h ≤ CS.hs p2.2 := Nat.le_trans h0 hm3
      refine W.widen (k := CS.hs p2.2 - z9h) (n := 17 * (CS.hs p2.2 - z9h)) (cAcc2 h0 hm3) (cAcc3 h0 hm3) ?_
      obtain rfl : r4 = p2.1 := hw
      rcases hf_oc hf with ⟨q6, hf⟩ | ⟨a7, q6, hf⟩
      ·
        refine W.eq (congrArg (fun v9 => F0 m 20 ls (va_rf v9 :: [])) q6) ?_
        refine W.eq (g2 := F0 m 20 ls (.null :: [])) rfl ?_
        refine lv_astoreN (lv' := [(4, .null), (0, .ref (Q.o 6)), (1, .long x1), (3, .int x3)]) hx hb dX6_labelled_20 hl (by decide) rfl (fun ls hl => ?_)
        refine lv_aloadN hx hb dX6_labelled_22 (lv_at hl 0 rfl) ?_
        refine lv_ifnullN (tgt := 50) hx hb dX6_labelled_24 (by decide) ?_
        refine lv_iinc (v := (x3 + (-1))) (lv' := [(3, .int (x3 + (-1))), (4, .null), (0, .ref (Q.o 6)), (1, .long x1)]) hx hb dX6_labelled_50 hl (k := 3) rfl rfl (by decide) rfl (fun ls hl => ?_)
        refine lv_goto (tgt := 7) hx hb dX6_labelled_53 (by decide) ?_
        exact ih p2.2 x1 (x3 + (-1)) _ _ _ hf h5 hC (lv_sub hl [2, 3, 0] rfl)
      ·
        refine W.eq (congrArg (fun v9 => F0 m 20 ls (va_rf v9 :: [])) q6) ?_
        refine W.eq (g2 := F0 m 20 ls (.ref a7 :: [])) rfl ?_
        refine lv_astore (lv' := [(4, .ref a7), (0, .ref (Q.o 6)), (1, .long x1), (3, .int x3)]) hx hb dX6_labelled_20 hl (by decide) rfl (fun ls hl => ?_)
        refine lv_aload hx hb dX6_labelled_22 (lv_at hl 0 rfl) ?_
        refine lv_ifnull hx hb dX6_labelled_24 ?_
        refine lv_aload hx hb dX6_labelled_27 (lv_at hl 0 rfl) ?_
        obtain ⟨b8, hf⟩ := hf_ite hf
        refine pGN_X5_0 (v := (CS.o p2.2 a7 0)) hx hb hts i_X6_labelled_X5 hown hK hC (va_Nw.use rfl (hZ.1 (.fieldLinkNest RX6 41 "StatementRules2$Open" "sort" "I" "StatementRules2") (by decide +kernel))) (fun _ q9 => q9) dX6_labelled_29 b8 rfl ?_
        refine lv_sipush (v := 303) hx hb dX6_labelled_32 (by decide) ?_
        refine lv_icmp_ne (tgt := 50) hx hb dX6_labelled_35 (by decide) (fun c9 => ?_) (fun c9 => ?_)
        ·
          replace hf := (if_neg c9).symm.trans hf
          refine lv_iinc (v := (x3 + (-1))) (lv' := [(3, .int (x3 + (-1))), (4, .ref a7), (0, .ref (Q.o 6)), (1, .long x1)]) hx hb dX6_labelled_50 hl (k := 3) rfl rfl (by decide) rfl (fun ls hl => ?_)
          refine lv_goto (tgt := 7) hx hb dX6_labelled_53 (by decide) ?_
          exact ih p2.2 x1 (x3 + (-1)) _ _ _ hf h5 hC (lv_sub hl [2, 3, 0] rfl)
        ·
          replace hf := (if_pos c9).symm.trans hf
          refine lv_aload hx hb dX6_labelled_38 (lv_at hl 0 rfl) ?_
          refine pGN_X5_4 (v := (CS.ol p2.2 a7)) hx hb hts i_X6_labelled_X5 hown hK hC (va_Nw.use rfl (hZ.1 (.fieldLinkNest RX6 53 "StatementRules2$Open" "label" "J" "StatementRules2") (by decide +kernel))) (fun _ q9 => q9) dX6_labelled_40 b8 rfl ?_
          refine lv_lload_n hx hb dX6_labelled_43 rfl (lv_at hl 2 rfl) ?_
          refine W.lcmp hx hb dX6_labelled_44 ?_
          refine lv_if_ne (tgt := 50) hx hb dX6_labelled_45 (by decide) (fun c10 => ?_) (fun c10 => ?_)
          ·
            replace hf := (if_neg c10).symm.trans hf
            refine lv_iinc (v := (x3 + (-1))) (lv' := [(3, .int (x3 + (-1))), (4, .ref a7), (0, .ref (Q.o 6)), (1, .long x1)]) hx hb dX6_labelled_50 hl (k := 3) rfl rfl (by decide) rfl (fun ls hl => ?_)
            refine lv_goto (tgt := 7) hx hb dX6_labelled_53 (by decide) ?_
            exact ih p2.2 x1 (x3 + (-1)) _ _ _ hf h5 hC (lv_sub hl [2, 3, 0] rfl)
          ·
            replace hf := (if_pos c10).symm.trans hf
            refine lv_iload_n hx hb dX6_labelled_48 rfl (lv_at hl 3 rfl) ?_
            obtain rfl := Option.some.inj hf
            exact W.iret (v := x3) hx hb hr (fun t ht hW => ⟨⟨x3, (), rfl, rfl, ⟨by rw [ht]; exact hC.1, va_K.moved hW.alike hK, hC.2.1⟩, by rw [ht]; exact hC.2.2.2⟩, hC.2.2.1.F ht⟩) hC.2.2.1.2.2 dX6_labelled_49
set_option maxHeartbeats 4000000 in
set_option maxRecDepth 100000 in
theorem c_X6_labelled (l : Launch) (dC : Nat → ClassId) (dI : Nat → Nat → Nat) (Q : CQ) (N : Nat) (σ : CS) (x1 : Int64) (R : Int32 × CS) (hf : f_X6_labelled N σ x1 = some R) : Met l yX6_labelled wzX6_labelled ({ frames := 2, cells := CS.hs R.2 - CS.hs σ, slots := 17 * (CS.hs R.2 - CS.hs σ), locals := 60 * 2 }) (va_Pc [.ref (Q.o 6), .long x1] (zPre dC dI (CS.hs σ) (cW Q σ) (cT Q))) (va_Qi (fun (r : Int32) (_ : Unit) => r = R.1) (fun (_ : Unit) (t : State) => zPost dC dI (va_A (cW Q σ) (CS.hs σ)) (cW Q R.2) (cT Q) t ∧ t.heap.size = CS.hs R.2) (va_A (cW Q σ) (CS.hs σ))) (CS.hs R.2 - CS.hs σ) (17 * (CS.hs R.2 - CS.hs σ)) (va_A (cW Q σ) (CS.hs σ)) := by
  refine Met.ofW (cc := cX6_labelled) (maxL := 5) (ret := (some .int)) (by decide) rfl ?_
  intro p e s m args below meth c s₁ B hml hv
  obtain ⟨rfl, hsz, hZ, hP, hK, hD0⟩ := hv
  have hx := B.exec
  have hb := B.bytes
  have hr := B.returns
  have hts := atoms_spec (ws := wzX6_labelled) B.pre
  have hown : s.vm.findClass RX6 = some m.cls := findClass_of_methodNamed B.named
  have hlocks := B.notSynchronized
  have hD := hD0.self (sz := CS.hs σ)
  generalize hAe : va_A (cW Q σ) (CS.hs σ) = A at hD ⊢
  have hA : ∀ q : Nat, s.heap.size ≤ q → A q := fun q h => by rw [← hAe]; exact Or.inr (hsz ▸ h)
  have hC : CP dC dI Q A s.heap σ s.heap [] := ⟨hP, hD, va_S.rf, hsz⟩
  have h0 : CS.hs σ ≤ CS.hs σ := Nat.le_refl _
  have hl := lv_entry ([.ref (Q.o 6), .long x1]) (n := 5) (Nat.le_of_ble_eq_true rfl)
  rw [lg_entry_eq]
  generalize (lg_sl ([.ref (Q.o 6), .long x1]) ++ List.replicate (5 - (lg_sl ([.ref (Q.o 6), .long x1])).length) Slot.unset).toArray = ls at hl ⊢
  have hl : lv_has ls 5 [(0, .ref (Q.o 6)), (1, .long x1)] := hl
  unfold f_X6_labelled at hf
  refine W.widen (k := CS.hs σ - CS.hs σ) (n := 17 * (CS.hs σ - CS.hs σ)) (Nat.zero_le _) (Nat.zero_le _) ?_
  refine lv_aload_n hx hb dX6_labelled_0 rfl (lv_at hl 0 rfl) ?_
  refine cG_53 (v := (σ.i 53)) hx hb hts i_X6_labelled_X6 hown hK hC (hts (.fieldLink RX6 21 "StatementRules2$Opens" "count" "I") k_X6_labelled_fieldLink_RX6_21_SR_Opens_count_I) (fun _ q9 => q9) dX6_labelled_1 rfl ?_
  refine lv_iconst (v := 1) hx hb dX6_labelled_4 (by decide) ?_
  refine lv_isub hx hb dX6_labelled_5 ?_
  refine lv_istore_n (lv' := [(3, .int ((σ.i 53) - 1)), (0, .ref (Q.o 6)), (1, .long x1)]) hx hb dX6_labelled_6 rfl hl (by decide) rfl (fun ls hl => ?_)
  exact j_X6_labelled_7 l dC dI Q N (CS.hs σ) R hx hb hr hml hown hts hlocks hZ hA hK N σ x1 ((σ.i 53) - 1) _ _ _ hf h0 hC (lv_sub hl [1, 2, 0] rfl)
theorem k_X6_loopBehind_fieldLink_RX6_21_SR_Opens_count_I : Cond.fieldLink RX6 21 "StatementRules2$Opens" "count" "I" ∈ wzX6_loopBehind := List.mem_cons_of_mem _ (List.mem_append_left _ (List.mem_of_getElem? (i := 0) rfl))
theorem i_X6_loopBehind_X6 : ∀ w ∈ wsX60, w ∈ wzX6_loopBehind := fun _ h => List.mem_cons_of_mem _ (List.mem_append_right _ (List.mem_append_left _ (h)))
theorem i_X6_loopBehind_X5 : ∀ w ∈ wsX50, w ∈ wzX6_loopBehind := fun _ h => List.mem_cons_of_mem _ (List.mem_append_right _ (List.mem_append_right _ (List.mem_append_left _ (h))))
set_option maxHeartbeats 4000000 in
set_option maxRecDepth 100000 in
theorem j_X6_loopBehind_47 {p : Program} {e : Env} {s : State} {m : MethodId} {args : Array Value} {below : List Frame} {meth : Method} {c : Code} {A : Nat → Prop} (l : Launch) (dC : Nat → ClassId) (dI : Nat → Nat → Nat) (Q : CQ) (N : Nat) (z9h : Nat) (R : Int32 × CS) (hx : p.tables.exec = Jvm.exec) (hb : c.code = cX6_loopBehind) (hr : meth.sig.returnType = (some .int)) (hml : c.maxLocals = 4) (hown : s.vm.findClass RX6 = some m.cls) (hts : ∀ w ∈ wzX6_loopBehind, w.before args s = true) (hlocks : meth.locks = false) (hZ : zAMB s) (hA : ∀ q : Nat, s.heap.size ≤ q → A q) (hK : va_K (dC, dI) vwCl (cT Q) s) : ∀ (σ : CS) (H : Heap) (locs : List Loc) (ls : Array Slot), f_X6_loopBehind_47 N σ = some R → z9h ≤ CS.hs σ → CP dC dI Q A s.heap σ H locs → lv_has ls 4 [] → W p l e ({ frames := 2, cells := CS.hs R.2 - z9h, slots := 17 * (CS.hs R.2 - z9h), locals := 60 * 2 }) s m args below meth c H locs (CS.hs σ - z9h) (17 * (CS.hs σ - z9h)) (MQ below (va_Qi (fun (r : Int32) (_ : Unit) => r = R.1) (fun (_ : Unit) (t : State) => zPost dC dI A (cW Q R.2) (cT Q) t ∧ t.heap.size = CS.hs R.2) A) args s (CS.hs R.2 - z9h) (17 * (CS.hs R.2 - z9h)) A) (F0 m 47 ls []) := by
  intro σ  H locs ls hf h0 hC hl
  unfold f_X6_loopBehind_47 at hf
  refine lv_iconst (v := (-1)) hx hb dX6_loopBehind_47 (by decide) ?_
  obtain rfl := Option.some.inj hf
  exact W.iret (v := (-1)) hx hb hr (fun t ht hW => ⟨⟨(-1), (), rfl, rfl, ⟨by rw [ht]; exact hC.1, va_K.moved hW.alike hK, hC.2.1⟩, by rw [ht]; exact hC.2.2.2⟩, hC.2.2.1.F ht⟩) hC.2.2.1.2.2 dX6_loopBehind_48
set_option maxHeartbeats 4000000 in
set_option maxRecDepth 100000 in
theorem j_X6_loopBehind_32 {p : Program} {e : Env} {s : State} {m : MethodId} {args : Array Value} {below : List Frame} {meth : Method} {c : Code} {A : Nat → Prop} (l : Launch) (dC : Nat → ClassId) (dI : Nat → Nat → Nat) (Q : CQ) (N : Nat) (z9h : Nat) (R : Int32 × CS) (hx : p.tables.exec = Jvm.exec) (hb : c.code = cX6_loopBehind) (hr : meth.sig.returnType = (some .int)) (hml : c.maxLocals = 4) (hown : s.vm.findClass RX6 = some m.cls) (hts : ∀ w ∈ wzX6_loopBehind, w.before args s = true) (hlocks : meth.locks = false) (hZ : zAMB s) (hA : ∀ q : Nat, s.heap.size ≤ q → A q) (hK : va_K (dC, dI) vwCl (cT Q) s) : ∀ (σ : CS) (x2 : Int32) (x3 : Option Nat) (H : Heap) (locs : List Loc) (ls : Array Slot), f_X6_loopBehind_32 N σ x2 x3 = some R → z9h ≤ CS.hs σ → CP dC dI Q A s.heap σ H locs → lv_has ls 4 [(2, .int x2), (3, va_rf x3)] → W p l e ({ frames := 2, cells := CS.hs R.2 - z9h, slots := 17 * (CS.hs R.2 - z9h), locals := 60 * 2 }) s m args below meth c H locs (CS.hs σ - z9h) (17 * (CS.hs σ - z9h)) (MQ below (va_Qi (fun (r : Int32) (_ : Unit) => r = R.1) (fun (_ : Unit) (t : State) => zPost dC dI A (cW Q R.2) (cT Q) t ∧ t.heap.size = CS.hs R.2) A) args s (CS.hs R.2 - z9h) (17 * (CS.hs R.2 - z9h)) A) (F0 m 32 ls []) := by
  intro σ x2 x3 H locs ls hf h0 hC hl
  unfold f_X6_loopBehind_32 at hf
  rcases hf_oc hf with ⟨q8, hf⟩ | ⟨a9, q8, hf⟩
  ·
    subst q8
    have hl : lv_has ls 4 [(2, .int x2), (3, .null)] := hl
    refine lv_aload_nN hx hb dX6_loopBehind_32 rfl (lv_at hl 1 rfl) ?_
    refine lv_ifnullN (tgt := 47) hx hb dX6_loopBehind_33 (by decide) ?_
    exact j_X6_loopBehind_47 l dC dI Q N z9h R hx hb hr hml hown hts hlocks hZ hA hK σ _ _ _ hf h0 hC (lv_sub hl [] rfl)
  ·
    subst q8
    have hl : lv_has ls 4 [(2, .int x2), (3, .ref a9)] := hl
    refine lv_aload_n hx hb dX6_loopBehind_32 rfl (lv_at hl 1 rfl) ?_
    refine lv_ifnull hx hb dX6_loopBehind_33 ?_
    refine lv_aload_n hx hb dX6_loopBehind_36 rfl (lv_at hl 1 rfl) ?_
    obtain ⟨b10, hf⟩ := hf_ite hf
    obtain ⟨k11, hk11⟩ := cPl (Q := Q) (s := σ) (a := a9) b10.1
    rw [cE0 (show CS.k σ a9 = 0 from b10.2)] at hk11
    obtain ⟨p12, hcp12, hf⟩ := hf_bind hf
    have hm13 : CS.hs σ ≤ CS.hs p12.2 := Mono.go hcp12 (m_X5_isLoop N σ a9)
    have hr9 : CS.hs p12.2 ≤ CS.hs R.2 := Mono.go hf (mono_ite (m_X6_loopBehind_47 N p12.2) (mono_some (Nat.le_refl _)))
    have hFc := cFree hC hA
    refine va_calli (va_runV (As := []) (rest := []) ⟨hx, hb, hml, hown, hts⟩ (c_X5_isLoop l dC dI Q N σ a9 p12 hcp12) (cwV 0 hts hX6_loopBehind_X5_isLoop_v92 rfl rfl rfl (by decide +kernel) ⟨(show 1 + 1 ≤ 2 by omega), (show 8 + (1 + 11) + 60 * 1 ≤ 60 * 2 by omega)⟩) ⟨zPre.blind, va_recv hK hC.1 (ci := 4) (q0 := k11) rfl hk11, cPre_go hZ hK hC⟩ rfl rfl hl.1 rfl (lv_room (Nat.le_of_ble_eq_true rfl)) dX6_loopBehind_37 (cAcc h0 hm13 hr9)) hC.2.2.1 (fun q _ h => hFc q h) hFc (fun r14 u9 t9 H1 locs ht hvm hw hB hz1 hk1 hS => ?_)
    obtain ⟨⟨hP, hK1, hD1⟩, hsz1⟩ := hB
    rw [ht] at hP hsz1
    have hC : CP dC dI Q A s.heap p12.2 H1 locs := ⟨hP, hD1.weaken (fun _ _ _ h => hFc _ h), hS, hsz1⟩
    generalize H1 = H at hC ⊢
    have h15 : z9h ≤ CS.hs p12.2 := Nat.le_trans h0 hm13
    refine W.widen (k := CS.hs p12.2 - z9h) (n := 17 * (CS.hs p12.2 - z9h)) (cAcc2 h0 hm13) (cAcc3 h0 hm13) ?_
    obtain rfl : r14 = p12.1 := hw
    refine lv_if_eq (tgt := 47) hx hb dX6_loopBehind_40 (by decide) (fun c16 => ?_) (fun c16 => ?_)
    ·
      replace hf := (if_pos c16).symm.trans hf
      exact j_X6_loopBehind_47 l dC dI Q N z9h R hx hb hr hml hown hts hlocks hZ hA hK p12.2 _ _ _ hf h15 hC (lv_sub hl [] rfl)
    ·
      replace hf := (if_neg c16).symm.trans hf
      refine lv_iload_n hx hb dX6_loopBehind_43 rfl (lv_at hl 0 rfl) ?_
      refine lv_goto (tgt := 48) hx hb dX6_loopBehind_44 (by decide) ?_
      obtain rfl := Option.some.inj hf
      exact W.iret (v := x2) hx hb hr (fun t ht hW => ⟨⟨x2, (), rfl, rfl, ⟨by rw [ht]; exact hC.1, va_K.moved hW.alike hK, hC.2.1⟩, by rw [ht]; exact hC.2.2.2⟩, hC.2.2.1.F ht⟩) hC.2.2.1.2.2 dX6_loopBehind_48
set_option maxHeartbeats 4000000 in
set_option maxRecDepth 100000 in
theorem j_X6_loopBehind_4 {p : Program} {e : Env} {s : State} {m : MethodId} {args : Array Value} {below : List Frame} {meth : Method} {c : Code} {A : Nat → Prop} (l : Launch) (dC : Nat → ClassId) (dI : Nat → Nat → Nat) (Q : CQ) (N : Nat) (z9h : Nat) (R : Int32 × CS) (hx : p.tables.exec = Jvm.exec) (hb : c.code = cX6_loopBehind) (hr : meth.sig.returnType = (some .int)) (hml : c.maxLocals = 4) (hown : s.vm.findClass RX6 = some m.cls) (hts : ∀ w ∈ wzX6_loopBehind, w.before args s = true) (hlocks : meth.locks = false) (hZ : zAMB s) (hA : ∀ q : Nat, s.heap.size ≤ q → A q) (hK : va_K (dC, dI) vwCl (cT Q) s) : ∀ (n9 : Nat), ∀ (σ : CS) (x2 : Int32) (H : Heap) (locs : List Loc) (ls : Array Slot), f_X6_loopBehind_4 N n9 σ x2 = some R → z9h ≤ CS.hs σ → CP dC dI Q A s.heap σ H locs → lv_has ls 4 [(0, .ref (Q.o 6)), (2, .int x2)] → W p l e ({ frames := 2, cells := CS.hs R.2 - z9h, slots := 17 * (CS.hs R.2 - z9h), locals := 60 * 2 }) s m args below meth c H locs (CS.hs σ - z9h) (17 * (CS.hs σ - z9h)) (MQ below (va_Qi (fun (r : Int32) (_ : Unit) => r = R.1) (fun (_ : Unit) (t : State) => zPost dC dI A (cW Q R.2) (cT Q) t ∧ t.heap.size = CS.hs R.2) A) args s (CS.hs R.2 - z9h) (17 * (CS.hs R.2 - z9h)) A) (F0 m 4 ls []) := by
  intro n9
  induction n9 with
  | zero => intro σ x2 H locs ls hf; exact absurd hf (by intro q9; cases q9)
  | succ n9 ih =>
    intro σ x2 H locs ls hf h0 hC hl
    replace hf : b_X6_loopBehind_4 N (f_X6_loopBehind_4 N n9) σ x2 = some R := hf
    unfold b_X6_loopBehind_4 at hf
    have hMK := fun (σ : CS) (x2 : Int32) => m_X6_loopBehind_4 N n9 σ x2
    refine lv_iload_n hx hb dX6_loopBehind_4 rfl (lv_at hl 1 rfl) ?_
    refine lv_aload_n hx hb dX6_loopBehind_5 rfl (lv_at hl 0 rfl) ?_
    refine cG_53 (v := (σ.i 53)) hx hb hts i_X6_loopBehind_X6 hown hK hC (hts (.fieldLink RX6 21 "StatementRules2$Opens" "count" "I") k_X6_loopBehind_fieldLink_RX6_21_SR_Opens_count_I) (fun _ q9 => q9) dX6_loopBehind_6 rfl ?_
    refine lv_icmp_ge (tgt := 55) hx hb dX6_loopBehind_9 (by decide) (fun c1 => ?_) (fun c1 => ?_)
    ·
      replace hf := (if_pos c1).symm.trans hf
      refine lv_iconst (v := (-1)) hx hb dX6_loopBehind_55 (by decide) ?_
      obtain rfl := Option.some.inj hf
      exact W.iret (v := (-1)) hx hb hr (fun t ht hW => ⟨⟨(-1), (), rfl, rfl, ⟨by rw [ht]; exact hC.1, va_K.moved hW.alike hK, hC.2.1⟩, by rw [ht]; exact hC.2.2.2⟩, hC.2.2.1.F ht⟩) hC.2.2.1.2.2 dX6_loopBehind_56
    ·
      replace hf := (if_neg c1).symm.trans hf
      refine lv_aload_n hx hb dX6_loopBehind_12 rfl (lv_at hl 0 rfl) ?_
      refine lv_iload_n hx hb dX6_loopBehind_13 rfl (lv_at hl 1 rfl) ?_
      obtain ⟨p2, hcp2, hf⟩ := hf_bind hf
      have hm3 : CS.hs σ ≤ CS.hs p2.2 := Mono.go hcp2 (m_X6_row N σ x2)
      have hr9 : CS.hs p2.2 ≤ CS.hs R.2 := Mono.go hf (mono_oc (m_X6_loopBehind_32 N p2.2 x2 none) (fun a7 => (mono_ite (mono_ite (hMK p2.2 (x2 + 1)) (m_X6_loopBehind_32 N p2.2 x2 (some a7))) mono_none)))
      have hFc := cFree hC hA
      refine va_callq (va_runV (As := [.int x2]) (rest := []) ⟨hx, hb, hml, hown, hts⟩ (c_X6_row l dC dI Q N σ x2 p2 hcp2) (cwV 1 hts hX6_loopBehind_X6_row_v88 rfl rfl rfl (by decide +kernel) ⟨(show 1 + 1 ≤ 2 by omega), (show 8 + (2 + 11) + 60 * 1 ≤ 60 * 2 by omega)⟩) ⟨zPre.blind, va_recv hK hC.1 (ci := 5) (q0 := 6) rfl rfl, cPre_go hZ hK hC⟩ rfl rfl hl.1 rfl (lv_room (Nat.le_of_ble_eq_true rfl)) dX6_loopBehind_14 (cAcc h0 hm3 hr9)) hC.2.2.1 (fun q _ h => hFc q h) hFc (fun r4 u9 t9 H1 locs ht hvm hw hB hz1 hk1 hS => ?_)
      obtain ⟨⟨hP, hK1, hD1⟩, hsz1⟩ := hB
      rw [ht] at hP hsz1
      have hC : CP dC dI Q A s.heap p2.2 H1 locs := ⟨hP, hD1.weaken (fun _ _ _ h => hFc _ h), hS, hsz1⟩
      generalize H1 = H at hC ⊢
      have h5 : z9h ≤ CS.hs p2.2 := Nat.le_trans h0 hm3
      refine W.widen (k := CS.hs p2.2 - z9h) (n := 17 * (CS.hs p2.2 - z9h)) (cAcc2 h0 hm3) (cAcc3 h0 hm3) ?_
      obtain rfl : r4 = p2.1 := hw
      rcases hf_oc hf with ⟨q6, hf⟩ | ⟨a7, q6, hf⟩
      ·
        refine W.eq (congrArg (fun v9 => F0 m 17 ls (va_rf v9 :: [])) q6) ?_
        refine W.eq (g2 := F0 m 17 ls (.null :: [])) rfl ?_
        refine lv_astore_nN (lv' := [(3, .null), (0, .ref (Q.o 6)), (2, .int x2)]) hx hb dX6_loopBehind_17 rfl hl (by decide) rfl (fun ls hl => ?_)
        refine lv_aload_nN hx hb dX6_loopBehind_18 rfl (lv_at hl 0 rfl) ?_
        refine lv_ifnullN (tgt := 32) hx hb dX6_loopBehind_19 (by decide) ?_
        exact j_X6_loopBehind_32 l dC dI Q N z9h R hx hb hr hml hown hts hlocks hZ hA hK p2.2 x2 none _ _ _ hf h5 hC (lv_sub hl [2, 0] rfl)
      ·
        refine W.eq (congrArg (fun v9 => F0 m 17 ls (va_rf v9 :: [])) q6) ?_
        refine W.eq (g2 := F0 m 17 ls (.ref a7 :: [])) rfl ?_
        refine lv_astore_n (lv' := [(3, .ref a7), (0, .ref (Q.o 6)), (2, .int x2)]) hx hb dX6_loopBehind_17 rfl hl (by decide) rfl (fun ls hl => ?_)
        refine lv_aload_n hx hb dX6_loopBehind_18 rfl (lv_at hl 0 rfl) ?_
        refine lv_ifnull hx hb dX6_loopBehind_19 ?_
        refine lv_aload_n hx hb dX6_loopBehind_22 rfl (lv_at hl 0 rfl) ?_
        obtain ⟨b17, hf⟩ := hf_ite hf
        refine pGN_X5_0 (v := (CS.o p2.2 a7 0)) hx hb hts i_X6_loopBehind_X5 hown hK hC (va_Nw.use rfl (hZ.1 (.fieldLinkNest RX6 41 "StatementRules2$Open" "sort" "I" "StatementRules2") (by decide +kernel))) (fun _ q9 => q9) dX6_loopBehind_23 b17 rfl ?_
        refine lv_sipush (v := 303) hx hb dX6_loopBehind_26 (by decide) ?_
        refine lv_icmp_eq (tgt := 49) hx hb dX6_loopBehind_29 (by decide) (fun c18 => ?_) (fun c18 => ?_)
        ·
          replace hf := (if_pos c18).symm.trans hf
          refine lv_iinc (v := (x2 + 1)) (lv' := [(2, .int (x2 + 1)), (3, .ref a7), (0, .ref (Q.o 6))]) hx hb dX6_loopBehind_49 hl (k := 2) rfl rfl (by decide) rfl (fun ls hl => ?_)
          refine lv_goto (tgt := 4) hx hb dX6_loopBehind_52 (by decide) ?_
          exact ih p2.2 (x2 + 1) _ _ _ hf h5 hC (lv_sub hl [2, 0] rfl)
        ·
          replace hf := (if_neg c18).symm.trans hf
          exact j_X6_loopBehind_32 l dC dI Q N z9h R hx hb hr hml hown hts hlocks hZ hA hK p2.2 x2 (some a7) _ _ _ hf h5 hC (lv_sub hl [2, 0] rfl)
set_option maxHeartbeats 4000000 in
set_option maxRecDepth 100000 in
theorem c_X6_loopBehind (l : Launch) (dC : Nat → ClassId) (dI : Nat → Nat → Nat) (Q : CQ) (N : Nat) (σ : CS) (x1 : Int32) (R : Int32 × CS) (hf : f_X6_loopBehind N σ x1 = some R) : Met l yX6_loopBehind wzX6_loopBehind ({ frames := 2, cells := CS.hs R.2 - CS.hs σ, slots := 17 * (CS.hs R.2 - CS.hs σ), locals := 60 * 2 }) (va_Pc [.ref (Q.o 6), .int x1] (zPre dC dI (CS.hs σ) (cW Q σ) (cT Q))) (va_Qi (fun (r : Int32) (_ : Unit) => r = R.1) (fun (_ : Unit) (t : State) => zPost dC dI (va_A (cW Q σ) (CS.hs σ)) (cW Q R.2) (cT Q) t ∧ t.heap.size = CS.hs R.2) (va_A (cW Q σ) (CS.hs σ))) (CS.hs R.2 - CS.hs σ) (17 * (CS.hs R.2 - CS.hs σ)) (va_A (cW Q σ) (CS.hs σ)) := by
  refine Met.ofW (cc := cX6_loopBehind) (maxL := 4) (ret := (some .int)) (by decide) rfl ?_
  intro p e s m args below meth c s₁ B hml hv
  obtain ⟨rfl, hsz, hZ, hP, hK, hD0⟩ := hv
  have hx := B.exec
  have hb := B.bytes
  have hr := B.returns
  have hts := atoms_spec (ws := wzX6_loopBehind) B.pre
  have hown : s.vm.findClass RX6 = some m.cls := findClass_of_methodNamed B.named
  have hlocks := B.notSynchronized
  have hD := hD0.self (sz := CS.hs σ)
  generalize hAe : va_A (cW Q σ) (CS.hs σ) = A at hD ⊢
  have hA : ∀ q : Nat, s.heap.size ≤ q → A q := fun q h => by rw [← hAe]; exact Or.inr (hsz ▸ h)
  have hC : CP dC dI Q A s.heap σ s.heap [] := ⟨hP, hD, va_S.rf, hsz⟩
  have h0 : CS.hs σ ≤ CS.hs σ := Nat.le_refl _
  have hl := lv_entry ([.ref (Q.o 6), .int x1]) (n := 4) (Nat.le_of_ble_eq_true rfl)
  rw [lg_entry_eq]
  generalize (lg_sl ([.ref (Q.o 6), .int x1]) ++ List.replicate (4 - (lg_sl ([.ref (Q.o 6), .int x1])).length) Slot.unset).toArray = ls at hl ⊢
  have hl : lv_has ls 4 [(0, .ref (Q.o 6)), (1, .int x1)] := hl
  unfold f_X6_loopBehind at hf
  refine W.widen (k := CS.hs σ - CS.hs σ) (n := 17 * (CS.hs σ - CS.hs σ)) (Nat.zero_le _) (Nat.zero_le _) ?_
  refine lv_iload_n hx hb dX6_loopBehind_0 rfl (lv_at hl 1 rfl) ?_
  refine lv_iconst (v := 1) hx hb dX6_loopBehind_1 (by decide) ?_
  refine lv_iadd hx hb dX6_loopBehind_2 ?_
  refine lv_istore_n (lv' := [(2, .int (x1 + 1)), (0, .ref (Q.o 6)), (1, .int x1)]) hx hb dX6_loopBehind_3 rfl hl (by decide) rfl (fun ls hl => ?_)
  exact j_X6_loopBehind_4 l dC dI Q N (CS.hs σ) R hx hb hr hml hown hts hlocks hZ hA hK N σ (x1 + 1) _ _ _ hf h0 hC (lv_sub hl [1, 0] rfl)
