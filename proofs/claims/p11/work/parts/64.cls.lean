theorem k_X5_init_methodLink_RX5_3_objectInit : Cond.methodLink RX5 3 objectInit ∈ wzX5_init := List.mem_cons_of_mem _ (List.mem_append_left _ (List.mem_of_getElem? (i := 0) rfl))
theorem k_X5_init_instanceMethod_objectInit : Cond.instanceMethod objectInit ∈ wzX5_init := List.mem_cons_of_mem _ (List.mem_append_left _ (List.mem_of_getElem? (i := 1) rfl))
theorem k_X5_init_code_objectInit_0xb1_1_none : Cond.code objectInit ⟨#[0xb1]⟩ 1 none ∈ wzX5_init := List.mem_cons_of_mem _ (List.mem_append_left _ (List.mem_of_getElem? (i := 2) rfl))
set_option maxHeartbeats 4000000 in
set_option maxRecDepth 100000 in
theorem c_X5_init (l : Launch) (dC : Nat → ClassId) (dI : Nat → Nat → Nat) (Q : CQ) (N : Nat) (σ : CS) (x0 : Nat) (R : Unit × CS) (hf : f_X5_init N σ x0 = some R) : Met l yX5_init wzX5_init ({ frames := 1, cells := CS.hs R.2 - CS.hs σ, slots := 17 * (CS.hs R.2 - CS.hs σ), locals := 60 * 1 }) (va_Pc [.ref x0] (zPre dC dI (CS.hs σ) (cW Q σ) (cT Q))) (va_Qv (fun (_ : Unit) => True) (fun (_ : Unit) (t : State) => zPost dC dI (va_A (cW Q σ) (CS.hs σ)) (cW Q R.2) (cT Q) t ∧ t.heap.size = CS.hs R.2) (va_A (cW Q σ) (CS.hs σ))) (CS.hs R.2 - CS.hs σ) (17 * (CS.hs R.2 - CS.hs σ)) (va_A (cW Q σ) (CS.hs σ)) := by
  refine Met.ofW (cc := cX5_init) (maxL := 1) (ret := none) (by decide) rfl ?_
  intro p e s m args below meth c s₁ B hml hv
  obtain ⟨rfl, hsz, hZ, hP, hK, hD0⟩ := hv
  have hx := B.exec
  have hb := B.bytes
  have hr := B.returns
  have hts := atoms_spec (ws := wzX5_init) B.pre
  have hown : s.vm.findClass RX5 = some m.cls := findClass_of_methodNamed B.named
  have hlocks := B.notSynchronized
  have hin : meth.name = "<init>" := (name_of_methodNamed B.named B.method).1
  have hD := hD0.self (sz := CS.hs σ)
  generalize hAe : va_A (cW Q σ) (CS.hs σ) = A at hD ⊢
  have hA : ∀ q : Nat, s.heap.size ≤ q → A q := fun q h => by rw [← hAe]; exact Or.inr (hsz ▸ h)
  have hC : CP dC dI Q A s.heap σ s.heap [] := ⟨hP, hD, va_S.rf, hsz⟩
  have h0 : CS.hs σ ≤ CS.hs σ := Nat.le_refl _
  have hl := lv_entry ([.ref x0]) (n := 1) (Nat.le_of_ble_eq_true rfl)
  rw [lg_entry_eq]
  generalize (lg_sl ([.ref x0]) ++ List.replicate (1 - (lg_sl ([.ref x0])).length) Slot.unset).toArray = ls at hl ⊢
  have hl : lv_has ls 1 [(0, .ref x0)] := hl
  unfold f_X5_init at hf
  refine W.widen (k := CS.hs σ - CS.hs σ) (n := 17 * (CS.hs σ - CS.hs σ)) (Nat.zero_le _) (Nat.zero_le _) ?_
  refine lv_aload_n hx hb dX5_init_0 rfl (lv_at hl 0 rfl) ?_
  refine W.objInit hx hb hown (hts (.methodLink RX5 3 objectInit) k_X5_init_methodLink_RX5_3_objectInit) (hts (.instanceMethod objectInit) k_X5_init_instanceMethod_objectInit) (hts (.code objectInit ⟨#[0xb1]⟩ 1 none) k_X5_init_code_objectInit_0xb1_1_none) rfl (by rw [hml]; exact hl.1) rfl dX5_init_1 (Nat.le_of_ble_eq_true rfl) (Nat.le_of_ble_eq_true rfl) ?_
  refine W.eq (g2 := F0 m 4 ls []) rfl ?_
  obtain rfl := Option.some.inj hf
  exact W.vret hx hb hr (fun t ht hW => ⟨⟨(), rfl, trivial, ⟨by rw [ht]; exact hC.1, va_K.moved hW.alike hK, hC.2.1⟩, by rw [ht]; exact hC.2.2.2⟩, hC.2.2.1.F ht⟩) hC.2.2.1.2.2 dX5_init_4
theorem k_X6_push_fieldLink_RX6_21_SR_Opens_count_I : Cond.fieldLink RX6 21 "StatementRules2$Opens" "count" "I" ∈ wzX6_push := List.mem_cons_of_mem _ (List.mem_append_left _ (List.mem_of_getElem? (i := 0) rfl))
theorem i_X6_push_X6 : ∀ w ∈ wsX60, w ∈ wzX6_push := fun _ h => List.mem_cons_of_mem _ (List.mem_append_right _ (List.mem_append_left _ (h)))
theorem k_X6_push_fieldLink_RX6_11_SR_Opens_rows_LSR_Open : Cond.fieldLink RX6 11 "StatementRules2$Opens" "rows" "[LStatementRules2$Open;" ∈ wzX6_push := List.mem_cons_of_mem _ (List.mem_append_left _ (List.mem_of_getElem? (i := 1) rfl))
theorem k_X6_push_methodLink_RX6_34_yJ9_min_7cf53 : Cond.methodLink RX6 34 yJ9_min_7cf53 ∈ wzX6_push := List.mem_cons_of_mem _ (List.mem_append_left _ (List.mem_of_getElem? (i := 2) rfl))
theorem k_X6_push_static_yJ9_min_7cf53 : Cond.static yJ9_min_7cf53 ∈ wzX6_push := List.mem_cons_of_mem _ (List.mem_append_left _ (List.mem_of_getElem? (i := 3) rfl))
theorem k_X6_push_initialized_RJ9 : Cond.initialized RJ9 ∈ wzX6_push := List.mem_cons_of_mem _ (List.mem_append_left _ (List.mem_of_getElem? (i := 4) rfl))
theorem k_X6_push_code_yJ9_min_7cf53_cJ9_min_7cf53_2_some_int : Cond.code yJ9_min_7cf53 cJ9_min_7cf53 2 (some .int) ∈ wzX6_push := List.mem_cons_of_mem _ (List.mem_append_left _ (List.mem_of_getElem? (i := 5) rfl))
theorem i_X6_push_X5 : ∀ w ∈ wsX50, w ∈ wzX6_push := fun _ h => List.mem_cons_of_mem _ (List.mem_append_right _ (List.mem_append_right _ (List.mem_append_left _ (h))))
theorem k_X6_push_classLink_RX6_9_RX5 : Cond.classLink RX6 9 RX5 ∈ wzX6_push := List.mem_cons_of_mem _ (List.mem_append_left _ (List.mem_of_getElem? (i := 6) rfl))
theorem k_X6_push_instantiable_RX5_17 : Cond.instantiable RX5 17 ∈ wzX6_push := List.mem_cons_of_mem _ (List.mem_append_left _ (List.mem_of_getElem? (i := 7) rfl))
theorem k_X6_push_initialized_RX5 : Cond.initialized RX5 ∈ wzX6_push := List.mem_cons_of_mem _ (List.mem_append_left _ (List.mem_of_getElem? (i := 8) rfl))
theorem k_X6_push_instanceMethod_yX5_init : Cond.instanceMethod yX5_init ∈ wzX6_push := List.mem_cons_of_mem _ (List.mem_append_left _ (List.mem_of_getElem? (i := 9) rfl))
theorem k_X6_push_fieldLink_RX6_25_SR_Opens_serials_I : Cond.fieldLink RX6 25 "StatementRules2$Opens" "serials" "I" ∈ wzX6_push := List.mem_cons_of_mem _ (List.mem_append_left _ (List.mem_of_getElem? (i := 10) rfl))
theorem k_X6_push_fieldLink_RX6_28_SR_Opens_jumpCount_I : Cond.fieldLink RX6 28 "StatementRules2$Opens" "jumpCount" "I" ∈ wzX6_push := List.mem_cons_of_mem _ (List.mem_append_left _ (List.mem_of_getElem? (i := 11) rfl))
set_option maxHeartbeats 4000000 in
set_option maxRecDepth 100000 in
theorem j_X6_push_48 {p : Program} {e : Env} {s : State} {m : MethodId} {args : Array Value} {below : List Frame} {meth : Method} {c : Code} {A : Nat → Prop} (l : Launch) (dC : Nat → ClassId) (dI : Nat → Nat → Nat) (Q : CQ) (N : Nat) (z9h : Nat) (R : Option Nat × CS) (hx : p.tables.exec = Jvm.exec) (hb : c.code = cX6_push) (hr : meth.sig.returnType = (some (.object "StatementRules2$Open"))) (hml : c.maxLocals = 6) (hown : s.vm.findClass RX6 = some m.cls) (hts : ∀ w ∈ wzX6_push, w.before args s = true) (hlocks : meth.locks = false) (hZ : zAMB s) (hA : ∀ q : Nat, s.heap.size ≤ q → A q) (hK : va_K (dC, dI) vwCl (cT Q) s) : ∀ (σ : CS) (x1 : Int32) (x2 : Int32) (x3 : Int32) (x4 : Int32) (x5 : Nat) (H : Heap) (locs : List Loc) (ls : Array Slot), f_X6_push_48 N σ x1 x2 x3 x4 x5 = some R → z9h ≤ CS.hs σ → CP dC dI Q A s.heap σ H locs → lv_has ls 6 [(0, .ref (Q.o 6)), (1, .int x1), (2, .int x2), (3, .int x3), (4, .int x4), (5, .ref x5)] → W p l e ({ frames := 2, cells := CS.hs R.2 - z9h, slots := 17 * (CS.hs R.2 - z9h), locals := 60 * 2 }) s m args below meth c H locs (CS.hs σ - z9h) (17 * (CS.hs σ - z9h)) (MQ below (va_Qq (fun (r : Option Nat) (_ : Unit) => r = R.1) (fun (_ : Unit) (t : State) => zPost dC dI A (cW Q R.2) (cT Q) t ∧ t.heap.size = CS.hs R.2) A) args s (CS.hs R.2 - z9h) (17 * (CS.hs R.2 - z9h)) A) (F0 m 48 ls []) := by
  intro σ x1 x2 x3 x4 x5 H locs ls hf h0 hC hl
  unfold f_X6_push_48 at hf
  refine lv_aload_n hx hb dX6_push_48 rfl (lv_at hl 0 rfl) ?_
  refine lv_iload hx hb dX6_push_49 (lv_at hl 4 rfl) ?_
  refine lv_iconst (v := 1) hx hb dX6_push_51 (by decide) ?_
  refine lv_iadd hx hb dX6_push_52 ?_
  refine cP_53 (v := (x4 + 1)) hx hb hts i_X6_push_X6 hown hK hC (hts (.fieldLink RX6 21 "StatementRules2$Opens" "count" "I") k_X6_push_fieldLink_RX6_21_SR_Opens_count_I) (fun _ q9 => q9) dX6_push_53 (fun H locs hC => ?_)
  refine lv_aload_n hx hb dX6_push_56 rfl (lv_at hl 0 rfl) ?_
  refine lv_dup hx hb dX6_push_57 rfl ?_
  refine cG_54 (v := (σ.i 54)) hx hb hts i_X6_push_X6 hown hK hC (hts (.fieldLink RX6 25 "StatementRules2$Opens" "serials" "I") k_X6_push_fieldLink_RX6_25_SR_Opens_serials_I) (fun _ q9 => q9) dX6_push_58 rfl ?_
  refine lv_iconst (v := 1) hx hb dX6_push_61 (by decide) ?_
  refine lv_iadd hx hb dX6_push_62 ?_
  refine cP_54 (v := ((σ.i 54) + 1)) hx hb hts i_X6_push_X6 hown hK hC (hts (.fieldLink RX6 25 "StatementRules2$Opens" "serials" "I") k_X6_push_fieldLink_RX6_25_SR_Opens_serials_I) (fun _ q9 => q9) dX6_push_63 (fun H locs hC => ?_)
  refine lv_aload hx hb dX6_push_66 (lv_at hl 5 rfl) ?_
  refine lv_iload_n hx hb dX6_push_68 rfl (lv_at hl 1 rfl) ?_
  obtain ⟨b11, hf⟩ := hf_ite hf
  refine pPN_X5_0 (v := x1) hx hb hts i_X6_push_X5 hown hK hC (va_Nw.use rfl (hZ.1 (.fieldLinkNest RX6 41 "StatementRules2$Open" "sort" "I" "StatementRules2") (by decide +kernel))) (fun _ q9 => q9) dX6_push_69 b11 (fun H locs hC => ?_)
  refine lv_aload hx hb dX6_push_72 (lv_at hl 5 rfl) ?_
  refine lv_aload_n hx hb dX6_push_74 rfl (lv_at hl 0 rfl) ?_
  refine cG_54 (v := ((σ.i 54) + 1)) hx hb hts i_X6_push_X6 hown hK hC (hts (.fieldLink RX6 25 "StatementRules2$Opens" "serials" "I") k_X6_push_fieldLink_RX6_25_SR_Opens_serials_I) (fun _ q9 => q9) dX6_push_75 rfl ?_
  refine pPN_X5_1 (v := ((σ.i 54) + 1)) hx hb hts i_X6_push_X5 hown hK hC (va_Nw.use rfl (hZ.1 (.fieldLinkNest RX6 44 "StatementRules2$Open" "serial" "I" "StatementRules2") (by decide +kernel))) (fun _ q9 => q9) dX6_push_78 b11 (fun H locs hC => ?_)
  refine lv_aload hx hb dX6_push_81 (lv_at hl 5 rfl) ?_
  refine lv_iload_n hx hb dX6_push_83 rfl (lv_at hl 2 rfl) ?_
  refine pPN_X5_2 (v := x2) hx hb hts i_X6_push_X5 hown hK hC (va_Nw.use rfl (hZ.1 (.fieldLinkNest RX6 47 "StatementRules2$Open" "depth" "I" "StatementRules2") (by decide +kernel))) (fun _ q9 => q9) dX6_push_84 b11 (fun H locs hC => ?_)
  refine lv_aload hx hb dX6_push_87 (lv_at hl 5 rfl) ?_
  refine lv_iload_n hx hb dX6_push_89 rfl (lv_at hl 3 rfl) ?_
  refine pPN_X5_3 (v := x3) hx hb hts i_X6_push_X5 hown hK hC (va_Nw.use rfl (hZ.1 (.fieldLinkNest RX6 50 "StatementRules2$Open" "namesBefore" "I" "StatementRules2") (by decide +kernel))) (fun _ q9 => q9) dX6_push_90 b11 (fun H locs hC => ?_)
  refine lv_aload hx hb dX6_push_93 (lv_at hl 5 rfl) ?_
  refine lv_lconst (v := 0) hx hb dX6_push_95 (by decide) ?_
  refine pPN_X5_4 (v := 0) hx hb hts i_X6_push_X5 hown hK hC (va_Nw.use rfl (hZ.1 (.fieldLinkNest RX6 53 "StatementRules2$Open" "label" "J" "StatementRules2") (by decide +kernel))) (fun _ q9 => q9) dX6_push_96 b11 (fun H locs hC => ?_)
  refine lv_aload hx hb dX6_push_99 (lv_at hl 5 rfl) ?_
  refine lv_iconst (v := 0) hx hb dX6_push_101 (by decide) ?_
  refine pPN_X5_5 (v := 0) hx hb hts i_X6_push_X5 hown hK hC (va_Nw.use rfl (hZ.1 (.fieldLinkNest RX6 57 "StatementRules2$Open" "begun" "Z" "StatementRules2") (by decide +kernel))) (fun _ q9 => q9) dX6_push_102 b11 (by decide) (fun H locs hC => ?_)
  refine lv_aload hx hb dX6_push_105 (lv_at hl 5 rfl) ?_
  refine lv_iconst (v := 0) hx hb dX6_push_107 (by decide) ?_
  refine pPN_X5_6 (v := 0) hx hb hts i_X6_push_X5 hown hK hC (va_Nw.use rfl (hZ.1 (.fieldLinkNest RX6 61 "StatementRules2$Open" "ends" "Z" "StatementRules2") (by decide +kernel))) (fun _ q9 => q9) dX6_push_108 b11 (by decide) (fun H locs hC => ?_)
  refine lv_aload hx hb dX6_push_111 (lv_at hl 5 rfl) ?_
  refine lv_iconst (v := 0) hx hb dX6_push_113 (by decide) ?_
  refine pPN_X5_7 (v := 0) hx hb hts i_X6_push_X5 hown hK hC (va_Nw.use rfl (hZ.1 (.fieldLinkNest RX6 64 "StatementRules2$Open" "never" "Z" "StatementRules2") (by decide +kernel))) (fun _ q9 => q9) dX6_push_114 b11 (by decide) (fun H locs hC => ?_)
  refine lv_aload hx hb dX6_push_117 (lv_at hl 5 rfl) ?_
  refine lv_iconst (v := 0) hx hb dX6_push_119 (by decide) ?_
  refine pPN_X5_8 (v := 0) hx hb hts i_X6_push_X5 hown hK hC (va_Nw.use rfl (hZ.1 (.fieldLinkNest RX6 67 "StatementRules2$Open" "whole" "Z" "StatementRules2") (by decide +kernel))) (fun _ q9 => q9) dX6_push_120 b11 (by decide) (fun H locs hC => ?_)
  refine lv_aload hx hb dX6_push_123 (lv_at hl 5 rfl) ?_
  refine lv_iconst (v := (-1)) hx hb dX6_push_125 (by decide) ?_
  refine pPN_X5_9 (v := (-1)) hx hb hts i_X6_push_X5 hown hK hC (va_Nw.use rfl (hZ.1 (.fieldLinkNest RX6 70 "StatementRules2$Open" "exit" "I" "StatementRules2") (by decide +kernel))) (fun _ q9 => q9) dX6_push_126 b11 (fun H locs hC => ?_)
  refine lv_aload hx hb dX6_push_129 (lv_at hl 5 rfl) ?_
  refine lv_iconst (v := (-1)) hx hb dX6_push_131 (by decide) ?_
  refine pPN_X5_10 (v := (-1)) hx hb hts i_X6_push_X5 hown hK hC (va_Nw.use rfl (hZ.1 (.fieldLinkNest RX6 73 "StatementRules2$Open" "next" "I" "StatementRules2") (by decide +kernel))) (fun _ q9 => q9) dX6_push_132 b11 (fun H locs hC => ?_)
  refine lv_aload hx hb dX6_push_135 (lv_at hl 5 rfl) ?_
  refine lv_iconst (v := (-1)) hx hb dX6_push_137 (by decide) ?_
  refine pPN_X5_11 (v := (-1)) hx hb hts i_X6_push_X5 hown hK hC (va_Nw.use rfl (hZ.1 (.fieldLinkNest RX6 76 "StatementRules2$Open" "other" "I" "StatementRules2") (by decide +kernel))) (fun _ q9 => q9) dX6_push_138 b11 (fun H locs hC => ?_)
  refine lv_aload hx hb dX6_push_141 (lv_at hl 5 rfl) ?_
  refine lv_iconst (v := 0) hx hb dX6_push_143 (by decide) ?_
  refine pPN_X5_12 (v := 0) hx hb hts i_X6_push_X5 hown hK hC (va_Nw.use rfl (hZ.1 (.fieldLinkNest RX6 79 "StatementRules2$Open" "caught" "I" "StatementRules2") (by decide +kernel))) (fun _ q9 => q9) dX6_push_144 b11 (fun H locs hC => ?_)
  refine lv_aload hx hb dX6_push_147 (lv_at hl 5 rfl) ?_
  refine lv_aload_n hx hb dX6_push_149 rfl (lv_at hl 0 rfl) ?_
  refine cG_55 (v := (σ.i 55)) hx hb hts i_X6_push_X6 hown hK hC (hts (.fieldLink RX6 28 "StatementRules2$Opens" "jumpCount" "I") k_X6_push_fieldLink_RX6_28_SR_Opens_jumpCount_I) (fun _ q9 => q9) dX6_push_150 rfl ?_
  refine pPN_X5_14 (v := (σ.i 55)) hx hb hts i_X6_push_X5 hown hK hC (va_Nw.use rfl (hZ.1 (.fieldLinkNest RX6 82 "StatementRules2$Open" "firstJump" "I" "StatementRules2") (by decide +kernel))) (fun _ q9 => q9) dX6_push_153 b11 (fun H locs hC => ?_)
  refine lv_aload hx hb dX6_push_156 (lv_at hl 5 rfl) ?_
  obtain rfl := Option.some.inj hf
  exact W.aret (v := .ref x5) hx hb hr (Or.inl ⟨_, rfl⟩) (Or.inr ⟨_, rfl⟩) (fun t ht hW => ⟨⟨(some x5), (), rfl, rfl, ⟨by rw [ht]; exact hC.1, va_K.moved hW.alike hK, hC.2.1⟩, by rw [ht]; exact hC.2.2.2⟩, hC.2.2.1.F ht⟩) hC.2.2.1.2.2 dX6_push_158
set_option maxHeartbeats 4000000 in
set_option maxRecDepth 100000 in
theorem c_X6_push (l : Launch) (dC : Nat → ClassId) (dI : Nat → Nat → Nat) (Q : CQ) (N : Nat) (σ : CS) (x1 : Int32) (x2 : Int32) (x3 : Int32) (R : Option Nat × CS) (hf : f_X6_push N σ x1 x2 x3 = some R) : Met l yX6_push wzX6_push ({ frames := 2, cells := CS.hs R.2 - CS.hs σ, slots := 17 * (CS.hs R.2 - CS.hs σ), locals := 60 * 2 }) (va_Pc [.ref (Q.o 6), .int x1, .int x2, .int x3] (zPre dC dI (CS.hs σ) (cW Q σ) (cT Q))) (va_Qq (fun (r : Option Nat) (_ : Unit) => r = R.1) (fun (_ : Unit) (t : State) => zPost dC dI (va_A (cW Q σ) (CS.hs σ)) (cW Q R.2) (cT Q) t ∧ t.heap.size = CS.hs R.2) (va_A (cW Q σ) (CS.hs σ))) (CS.hs R.2 - CS.hs σ) (17 * (CS.hs R.2 - CS.hs σ)) (va_A (cW Q σ) (CS.hs σ)) := by
  refine Met.ofW (cc := cX6_push) (maxL := 6) (ret := (some (.object "StatementRules2$Open"))) (by decide) rfl ?_
  intro p e s m args below meth c s₁ B hml hv
  obtain ⟨rfl, hsz, hZ, hP, hK, hD0⟩ := hv
  have hx := B.exec
  have hb := B.bytes
  have hr := B.returns
  have hts := atoms_spec (ws := wzX6_push) B.pre
  have hown : s.vm.findClass RX6 = some m.cls := findClass_of_methodNamed B.named
  have hlocks := B.notSynchronized
  have hD := hD0.self (sz := CS.hs σ)
  generalize hAe : va_A (cW Q σ) (CS.hs σ) = A at hD ⊢
  have hA : ∀ q : Nat, s.heap.size ≤ q → A q := fun q h => by rw [← hAe]; exact Or.inr (hsz ▸ h)
  have hC : CP dC dI Q A s.heap σ s.heap [] := ⟨hP, hD, va_S.rf, hsz⟩
  have h0 : CS.hs σ ≤ CS.hs σ := Nat.le_refl _
  have hl := lv_entry ([.ref (Q.o 6), .int x1, .int x2, .int x3]) (n := 6) (Nat.le_of_ble_eq_true rfl)
  rw [lg_entry_eq]
  generalize (lg_sl ([.ref (Q.o 6), .int x1, .int x2, .int x3]) ++ List.replicate (6 - (lg_sl ([.ref (Q.o 6), .int x1, .int x2, .int x3])).length) Slot.unset).toArray = ls at hl ⊢
  have hl : lv_has ls 6 [(0, .ref (Q.o 6)), (1, .int x1), (2, .int x2), (3, .int x3)] := hl
  unfold f_X6_push at hf
  refine W.widen (k := CS.hs σ - CS.hs σ) (n := 17 * (CS.hs σ - CS.hs σ)) (Nat.zero_le _) (Nat.zero_le _) ?_
  refine lv_aload_n hx hb dX6_push_0 rfl (lv_at hl 0 rfl) ?_
  refine cG_53 (v := (σ.i 53)) hx hb hts i_X6_push_X6 hown hK hC (hts (.fieldLink RX6 21 "StatementRules2$Opens" "count" "I") k_X6_push_fieldLink_RX6_21_SR_Opens_count_I) (fun _ q9 => q9) dX6_push_1 rfl ?_
  refine lv_aload_n hx hb dX6_push_4 rfl (lv_at hl 0 rfl) ?_
  refine cG_51 hx hb hts i_X6_push_X6 hown hK hC (hts (.fieldLink RX6 11 "StatementRules2$Opens" "rows" "[LStatementRules2$Open;") k_X6_push_fieldLink_RX6_11_SR_Opens_rows_LSR_Open) (fun _ q9 => q9) dX6_push_5 ?_
  refine va_alen (v := 400) hx hb hK hC.1 22 2 rfl rfl rfl dX6_push_8 ?_
  refine lv_iconst (v := 1) hx hb dX6_push_9 (by decide) ?_
  refine lv_isub hx hb dX6_push_10 ?_
  refine lv_topi (fun z9 e9 => ?_)
  obtain rfl : z9 = 399 := e9.trans (by decide)
  have hr9 : CS.hs σ ≤ CS.hs R.2 := Mono.go hf (mono_ite (mono_oc (mono_le (Nat.le_succ _) (mono_bind (m_X5_init N (CS.new σ 0) (CS.hs σ)) (fun p5 => (mono_ite (mono_ite (m_X6_push_48 N (CS.setR p5.2 51 (((if (399 : Int32) < (σ.i 53) then (399 : Int32) else (σ.i 53)) : Int32).toNatClampNeg) (some (CS.hs σ))) x1 x2 x3 (if (399 : Int32) < (σ.i 53) then (399 : Int32) else (σ.i 53)) (CS.hs σ)) mono_none) mono_none)))) (fun a3 => (m_X6_push_48 N σ x1 x2 x3 (if (399 : Int32) < (σ.i 53) then (399 : Int32) else (σ.i 53)) a3))) mono_none)
  refine va_mmin hx hb (hml.trans hl.1.symm) hown (hts (.methodLink RX6 34 yJ9_min_7cf53) k_X6_push_methodLink_RX6_34_yJ9_min_7cf53) (hts (.static yJ9_min_7cf53) k_X6_push_static_yJ9_min_7cf53) (hts (.initialized RJ9) k_X6_push_initialized_RJ9) (hts (.code yJ9_min_7cf53 cJ9_min_7cf53 2 (some .int)) k_X6_push_code_yJ9_min_7cf53_cJ9_min_7cf53_2_some_int) (Nat.le_of_ble_eq_true rfl) (Nat.le_of_ble_eq_true rfl) (cAcc4 h0 hr9) (cAcc5 h0 hr9) dX6_push_11 ?_
  refine lv_istore (lv' := [(4, .int (if (399 : Int32) < (σ.i 53) then (399 : Int32) else (σ.i 53))), (0, .ref (Q.o 6)), (1, .int x1), (2, .int x2), (3, .int x3)]) hx hb dX6_push_14 hl (by decide) rfl (fun ls hl => ?_)
  refine lv_aload_n hx hb dX6_push_16 rfl (lv_at hl 1 rfl) ?_
  refine cG_51 hx hb hts i_X6_push_X6 hown hK hC (hts (.fieldLink RX6 11 "StatementRules2$Opens" "rows" "[LStatementRules2$Open;") k_X6_push_fieldLink_RX6_11_SR_Opens_rows_LSR_Open) (fun _ q9 => q9) dX6_push_17 ?_
  refine lv_iload hx hb dX6_push_20 (lv_at hl 0 rfl) ?_
  obtain ⟨b1, hf⟩ := hf_ite hf
  refine cL_51 (v := (CS.r σ 51 (((if (399 : Int32) < (σ.i 53) then (399 : Int32) else (σ.i 53)) : Int32).toNatClampNeg))) hx hb hK hC b1 dX6_push_22 rfl ?_
  rcases hf_oc hf with ⟨q2, hf⟩ | ⟨a3, q2, hf⟩
  ·
    refine W.eq (congrArg (fun v9 => F0 m 23 ls (va_rf v9 :: [])) q2) ?_
    refine W.eq (g2 := F0 m 23 ls (.null :: [])) rfl ?_
    refine lv_astoreN (lv' := [(5, .null), (4, .int (if (399 : Int32) < (σ.i 53) then (399 : Int32) else (σ.i 53))), (0, .ref (Q.o 6)), (1, .int x1), (2, .int x2), (3, .int x3)]) hx hb dX6_push_23 hl (by decide) rfl (fun ls hl => ?_)
    refine lv_aloadN hx hb dX6_push_25 (lv_at hl 0 rfl) ?_
    refine lv_ifnonnullN hx hb dX6_push_27 ?_
    have hn9 : CS.hs σ + 1 ≤ CS.hs R.2 := Mono.go hf (mono_bind (m_X5_init N (CS.new σ 0) (CS.hs σ)) (fun p5 => (mono_ite (mono_ite (m_X6_push_48 N (CS.setR p5.2 51 (((if (399 : Int32) < (σ.i 53) then (399 : Int32) else (σ.i 53)) : Int32).toNatClampNeg) (some (CS.hs σ))) x1 x2 x3 (if (399 : Int32) < (σ.i 53) then (399 : Int32) else (σ.i 53)) (CS.hs σ)) mono_none) mono_none)))
    refine cNew_X5 hx hb hts i_X6_push_X5 hown (hts (.classLink RX6 9 RX5) k_X6_push_classLink_RX6_9_RX5) (hts (.instantiable RX5 17) k_X6_push_instantiable_RX5_17) (hts (.initialized RX5) k_X6_push_initialized_RX5) hK hC hA (cN1 h0 hn9) (cN2 (by decide) h0 hn9) dX6_push_30 (fun H hC => ?_)
    have h4 : (CS.hs σ) ≤ CS.hs σ + 1 := Nat.le_succ_of_le h0
    refine W.widen (k := (CS.hs σ + 1) - (CS.hs σ)) (n := 17 * ((CS.hs σ + 1) - (CS.hs σ))) (cN3 h0) (cN4 (by decide) h0) ?_
    refine lv_dup hx hb dX6_push_33 rfl ?_
    obtain ⟨p5, hcp5, hf⟩ := hf_bind hf
    have mo6 : (CS.hs σ + 1) ≤ CS.hs p5.2 := Mono.go hcp5 (m_X5_init N (CS.new σ 0) (CS.hs σ))
    have hr9 : CS.hs p5.2 ≤ CS.hs R.2 := Mono.go hf (mono_ite (mono_ite (m_X6_push_48 N (CS.setR p5.2 51 (((if (399 : Int32) < (σ.i 53) then (399 : Int32) else (σ.i 53)) : Int32).toNatClampNeg) (some (CS.hs σ))) x1 x2 x3 (if (399 : Int32) < (σ.i 53) then (399 : Int32) else (σ.i 53)) (CS.hs σ)) mono_none) mono_none)
    have hFc := cFree hC hA
    refine va_callv (va_runIN (As := []) (rest := [.ref (CS.hs σ)]) ⟨hx, hb, hml, hown, hts⟩ (c_X5_init l dC dI Q N (CS.new σ 0) (CS.hs σ) p5 hcp5) ⟨va_cnB 0 hts hX6_push_X5_init_n40 rfl rfl rfl (hZ.1 (.methodLinkNest RX6 40 yX5_init "StatementRules2") (by decide +kernel)) (hts (.initialized RX5) k_X6_push_initialized_RX5) (by decide +kernel) ⟨(show 1 + 1 ≤ 2 by omega), (show 8 + (1 + 11) + 60 * 1 ≤ 60 * 2 by omega)⟩, rfl, (hts (.instanceMethod yX5_init) k_X6_push_instanceMethod_yX5_init)⟩ ⟨zPre.blind, cPre_go hZ hK hC⟩ rfl rfl hl.1 rfl (lv_room (Nat.le_of_ble_eq_true rfl)) dX6_push_34 (cAcc h4 mo6 hr9)) hC.2.2.1 (fun q _ h => hFc q h) hFc (fun u9 t9 H1 locs ht hvm hw hB hz1 hk1 hS => ?_)
    obtain ⟨⟨hP, hK1, hD1⟩, hsz1⟩ := hB
    rw [ht] at hP hsz1
    have hC : CP dC dI Q A s.heap p5.2 H1 locs := ⟨hP, hD1.weaken (fun _ _ _ h => hFc _ h), hS, hsz1⟩
    generalize H1 = H at hC ⊢
    have h8 : (CS.hs σ) ≤ CS.hs p5.2 := Nat.le_trans h4 mo6
    refine W.widen (k := CS.hs p5.2 - (CS.hs σ)) (n := 17 * (CS.hs p5.2 - (CS.hs σ))) (cAcc2 h4 mo6) (cAcc3 h4 mo6) ?_
    refine lv_astore (lv' := [(5, .ref (CS.hs σ)), (4, .int (if (399 : Int32) < (σ.i 53) then (399 : Int32) else (σ.i 53))), (0, .ref (Q.o 6)), (1, .int x1), (2, .int x2), (3, .int x3)]) hx hb dX6_push_37 hl (by decide) rfl (fun ls hl => ?_)
    refine lv_aload_n hx hb dX6_push_39 rfl (lv_at hl 2 rfl) ?_
    refine cG_51 hx hb hts i_X6_push_X6 hown hK hC (hts (.fieldLink RX6 11 "StatementRules2$Opens" "rows" "[LStatementRules2$Open;") k_X6_push_fieldLink_RX6_11_SR_Opens_rows_LSR_Open) (fun _ q9 => q9) dX6_push_40 ?_
    refine lv_iload hx hb dX6_push_43 (lv_at hl 1 rfl) ?_
    refine lv_aload hx hb dX6_push_45 (lv_at hl 0 rfl) ?_
    obtain ⟨b9, hf⟩ := hf_ite hf
    obtain ⟨b10, hf⟩ := hf_ite hf
    refine cS_51 hx hb hK hC b9 dX6_push_47 b10 (fun H locs hC => ?_)
    exact j_X6_push_48 l dC dI Q N (CS.hs σ) R hx hb hr hml hown hts hlocks hZ hA hK (CS.setR p5.2 51 (((if (399 : Int32) < (σ.i 53) then (399 : Int32) else (σ.i 53)) : Int32).toNatClampNeg) (some (CS.hs σ))) x1 x2 x3 (if (399 : Int32) < (σ.i 53) then (399 : Int32) else (σ.i 53)) (CS.hs σ) _ _ _ hf h8 hC (lv_sub hl [2, 3, 4, 5, 1, 0] rfl)
  ·
    refine W.eq (congrArg (fun v9 => F0 m 23 ls (va_rf v9 :: [])) q2) ?_
    refine W.eq (g2 := F0 m 23 ls (.ref a3 :: [])) rfl ?_
    refine lv_astore (lv' := [(5, .ref a3), (4, .int (if (399 : Int32) < (σ.i 53) then (399 : Int32) else (σ.i 53))), (0, .ref (Q.o 6)), (1, .int x1), (2, .int x2), (3, .int x3)]) hx hb dX6_push_23 hl (by decide) rfl (fun ls hl => ?_)
    refine lv_aload hx hb dX6_push_25 (lv_at hl 0 rfl) ?_
    refine lv_ifnonnull (tgt := 48) hx hb dX6_push_27 (by decide) ?_
    exact j_X6_push_48 l dC dI Q N (CS.hs σ) R hx hb hr hml hown hts hlocks hZ hA hK σ x1 x2 x3 (if (399 : Int32) < (σ.i 53) then (399 : Int32) else (σ.i 53)) a3 _ _ _ hf h0 hC (lv_sub hl [2, 3, 4, 5, 1, 0] rfl)
theorem k_X6_row_fieldLink_RX6_21_SR_Opens_count_I : Cond.fieldLink RX6 21 "StatementRules2$Opens" "count" "I" ∈ wzX6_row := List.mem_cons_of_mem _ (List.mem_append_left _ (List.mem_of_getElem? (i := 0) rfl))
theorem i_X6_row_X6 : ∀ w ∈ wsX60, w ∈ wzX6_row := fun _ h => List.mem_cons_of_mem _ (List.mem_append_right _ (List.mem_append_left _ (h)))
theorem k_X6_row_fieldLink_RX6_11_SR_Opens_rows_LSR_Open : Cond.fieldLink RX6 11 "StatementRules2$Opens" "rows" "[LStatementRules2$Open;" ∈ wzX6_row := List.mem_cons_of_mem _ (List.mem_append_left _ (List.mem_of_getElem? (i := 1) rfl))
set_option maxHeartbeats 4000000 in
set_option maxRecDepth 100000 in
theorem j_X6_row_30 {p : Program} {e : Env} {s : State} {m : MethodId} {args : Array Value} {below : List Frame} {meth : Method} {c : Code} {A : Nat → Prop} (l : Launch) (dC : Nat → ClassId) (dI : Nat → Nat → Nat) (Q : CQ) (N : Nat) (z9h : Nat) (R : Option Nat × CS) (hx : p.tables.exec = Jvm.exec) (hb : c.code = cX6_row) (hr : meth.sig.returnType = (some (.object "StatementRules2$Open"))) (hml : c.maxLocals = 2) (hown : s.vm.findClass RX6 = some m.cls) (hts : ∀ w ∈ wzX6_row, w.before args s = true) (hlocks : meth.locks = false) (hZ : zAMB s) (hA : ∀ q : Nat, s.heap.size ≤ q → A q) (hK : va_K (dC, dI) vwCl (cT Q) s) : ∀ (σ : CS) (H : Heap) (locs : List Loc) (ls : Array Slot), f_X6_row_30 N σ = some R → z9h ≤ CS.hs σ → CP dC dI Q A s.heap σ H locs → lv_has ls 2 [] → W p l e ({ frames := 1, cells := CS.hs R.2 - z9h, slots := 17 * (CS.hs R.2 - z9h), locals := 60 * 1 }) s m args below meth c H locs (CS.hs σ - z9h) (17 * (CS.hs σ - z9h)) (MQ below (va_Qq (fun (r : Option Nat) (_ : Unit) => r = R.1) (fun (_ : Unit) (t : State) => zPost dC dI A (cW Q R.2) (cT Q) t ∧ t.heap.size = CS.hs R.2) A) args s (CS.hs R.2 - z9h) (17 * (CS.hs R.2 - z9h)) A) (F0 m 30 ls []) := by
  intro σ  H locs ls hf h0 hC hl
  unfold f_X6_row_30 at hf
  refine lv_null hx hb dX6_row_30 ?_
  obtain rfl := Option.some.inj hf
  exact W.aret (v := .null) hx hb hr (Or.inl ⟨_, rfl⟩) (Or.inl rfl) (fun t ht hW => ⟨⟨none, (), rfl, rfl, ⟨by rw [ht]; exact hC.1, va_K.moved hW.alike hK, hC.2.1⟩, by rw [ht]; exact hC.2.2.2⟩, hC.2.2.1.F ht⟩) hC.2.2.1.2.2 dX6_row_31
set_option maxHeartbeats 4000000 in
set_option maxRecDepth 100000 in
theorem c_X6_row (l : Launch) (dC : Nat → ClassId) (dI : Nat → Nat → Nat) (Q : CQ) (N : Nat) (σ : CS) (x1 : Int32) (R : Option Nat × CS) (hf : f_X6_row N σ x1 = some R) : Met l yX6_row wzX6_row ({ frames := 1, cells := CS.hs R.2 - CS.hs σ, slots := 17 * (CS.hs R.2 - CS.hs σ), locals := 60 * 1 }) (va_Pc [.ref (Q.o 6), .int x1] (zPre dC dI (CS.hs σ) (cW Q σ) (cT Q))) (va_Qq (fun (r : Option Nat) (_ : Unit) => r = R.1) (fun (_ : Unit) (t : State) => zPost dC dI (va_A (cW Q σ) (CS.hs σ)) (cW Q R.2) (cT Q) t ∧ t.heap.size = CS.hs R.2) (va_A (cW Q σ) (CS.hs σ))) (CS.hs R.2 - CS.hs σ) (17 * (CS.hs R.2 - CS.hs σ)) (va_A (cW Q σ) (CS.hs σ)) := by
  refine Met.ofW (cc := cX6_row) (maxL := 2) (ret := (some (.object "StatementRules2$Open"))) (by decide) rfl ?_
  intro p e s m args below meth c s₁ B hml hv
  obtain ⟨rfl, hsz, hZ, hP, hK, hD0⟩ := hv
  have hx := B.exec
  have hb := B.bytes
  have hr := B.returns
  have hts := atoms_spec (ws := wzX6_row) B.pre
  have hown : s.vm.findClass RX6 = some m.cls := findClass_of_methodNamed B.named
  have hlocks := B.notSynchronized
  have hD := hD0.self (sz := CS.hs σ)
  generalize hAe : va_A (cW Q σ) (CS.hs σ) = A at hD ⊢
  have hA : ∀ q : Nat, s.heap.size ≤ q → A q := fun q h => by rw [← hAe]; exact Or.inr (hsz ▸ h)
  have hC : CP dC dI Q A s.heap σ s.heap [] := ⟨hP, hD, va_S.rf, hsz⟩
  have h0 : CS.hs σ ≤ CS.hs σ := Nat.le_refl _
  have hl := lv_entry ([.ref (Q.o 6), .int x1]) (n := 2) (Nat.le_of_ble_eq_true rfl)
  rw [lg_entry_eq]
  generalize (lg_sl ([.ref (Q.o 6), .int x1]) ++ List.replicate (2 - (lg_sl ([.ref (Q.o 6), .int x1])).length) Slot.unset).toArray = ls at hl ⊢
  have hl : lv_has ls 2 [(0, .ref (Q.o 6)), (1, .int x1)] := hl
  unfold f_X6_row at hf
  refine W.widen (k := CS.hs σ - CS.hs σ) (n := 17 * (CS.hs σ - CS.hs σ)) (Nat.zero_le _) (Nat.zero_le _) ?_
  refine lv_iload_n hx hb dX6_row_0 rfl (lv_at hl 1 rfl) ?_
  refine lv_if_lt (tgt := 30) hx hb dX6_row_1 (by decide) (fun c1 => ?_) (fun c1 => ?_)
  ·
    replace hf := (if_pos c1).symm.trans hf
    exact j_X6_row_30 l dC dI Q N (CS.hs σ) R hx hb hr hml hown hts hlocks hZ hA hK σ _ _ _ hf h0 hC (lv_sub hl [] rfl)
  ·
    replace hf := (if_neg c1).symm.trans hf
    refine lv_iload_n hx hb dX6_row_4 rfl (lv_at hl 1 rfl) ?_
    refine lv_aload_n hx hb dX6_row_5 rfl (lv_at hl 0 rfl) ?_
    refine cG_53 (v := (σ.i 53)) hx hb hts i_X6_row_X6 hown hK hC (hts (.fieldLink RX6 21 "StatementRules2$Opens" "count" "I") k_X6_row_fieldLink_RX6_21_SR_Opens_count_I) (fun _ q9 => q9) dX6_row_6 rfl ?_
    refine lv_icmp_ge (tgt := 30) hx hb dX6_row_9 (by decide) (fun c2 => ?_) (fun c2 => ?_)
    ·
      replace hf := (if_pos c2).symm.trans hf
      exact j_X6_row_30 l dC dI Q N (CS.hs σ) R hx hb hr hml hown hts hlocks hZ hA hK σ _ _ _ hf h0 hC (lv_sub hl [] rfl)
    ·
      replace hf := (if_neg c2).symm.trans hf
      refine lv_iload_n hx hb dX6_row_12 rfl (lv_at hl 1 rfl) ?_
      refine lv_aload_n hx hb dX6_row_13 rfl (lv_at hl 0 rfl) ?_
      refine cG_51 hx hb hts i_X6_row_X6 hown hK hC (hts (.fieldLink RX6 11 "StatementRules2$Opens" "rows" "[LStatementRules2$Open;") k_X6_row_fieldLink_RX6_11_SR_Opens_rows_LSR_Open) (fun _ q9 => q9) dX6_row_14 ?_
      refine va_alen (v := 400) hx hb hK hC.1 22 2 rfl rfl rfl dX6_row_17 ?_
      refine lv_icmp_ge (tgt := 30) hx hb dX6_row_18 (by decide) (fun c3 => ?_) (fun c3 => ?_)
      ·
        replace hf := (if_pos c3).symm.trans hf
        exact j_X6_row_30 l dC dI Q N (CS.hs σ) R hx hb hr hml hown hts hlocks hZ hA hK σ _ _ _ hf h0 hC (lv_sub hl [] rfl)
      ·
        replace hf := (if_neg c3).symm.trans hf
        refine lv_aload_n hx hb dX6_row_21 rfl (lv_at hl 0 rfl) ?_
        refine cG_51 hx hb hts i_X6_row_X6 hown hK hC (hts (.fieldLink RX6 11 "StatementRules2$Opens" "rows" "[LStatementRules2$Open;") k_X6_row_fieldLink_RX6_11_SR_Opens_rows_LSR_Open) (fun _ q9 => q9) dX6_row_22 ?_
        refine lv_iload_n hx hb dX6_row_25 rfl (lv_at hl 1 rfl) ?_
        obtain ⟨b4, hf⟩ := hf_ite hf
        refine cL_51 (v := (CS.r σ 51 ((x1 : Int32).toNatClampNeg))) hx hb hK hC b4 dX6_row_26 rfl ?_
        rcases hf_oc hf with ⟨q5, hf⟩ | ⟨a6, q5, hf⟩
        ·
          refine W.eq (congrArg (fun v9 => F0 m 27 ls (va_rf v9 :: [])) q5) ?_
          refine W.eq (g2 := F0 m 27 ls (.null :: [])) rfl ?_
          refine lv_goto (tgt := 31) hx hb dX6_row_27 (by decide) ?_
          obtain rfl := Option.some.inj hf
          exact W.aret (v := .null) hx hb hr (Or.inl ⟨_, rfl⟩) (Or.inl rfl) (fun t ht hW => ⟨⟨none, (), rfl, rfl, ⟨by rw [ht]; exact hC.1, va_K.moved hW.alike hK, hC.2.1⟩, by rw [ht]; exact hC.2.2.2⟩, hC.2.2.1.F ht⟩) hC.2.2.1.2.2 dX6_row_31
        ·
          refine W.eq (congrArg (fun v9 => F0 m 27 ls (va_rf v9 :: [])) q5) ?_
          refine W.eq (g2 := F0 m 27 ls (.ref a6 :: [])) rfl ?_
          refine lv_goto (tgt := 31) hx hb dX6_row_27 (by decide) ?_
          obtain rfl := Option.some.inj hf
          exact W.aret (v := .ref a6) hx hb hr (Or.inl ⟨_, rfl⟩) (Or.inr ⟨_, rfl⟩) (fun t ht hW => ⟨⟨(some a6), (), rfl, rfl, ⟨by rw [ht]; exact hC.1, va_K.moved hW.alike hK, hC.2.1⟩, by rw [ht]; exact hC.2.2.2⟩, hC.2.2.1.F ht⟩) hC.2.2.1.2.2 dX6_row_31
theorem k_X5_isLoop_fieldLink_RX5_9_SR_Open_sort_I : Cond.fieldLink RX5 9 "StatementRules2$Open" "sort" "I" ∈ wzX5_isLoop := List.mem_cons_of_mem _ (List.mem_append_left _ (List.mem_of_getElem? (i := 0) rfl))
theorem i_X5_isLoop_X5 : ∀ w ∈ wsX50, w ∈ wzX5_isLoop := fun _ h => List.mem_cons_of_mem _ (List.mem_append_right _ (List.mem_append_left _ (h)))
set_option maxHeartbeats 4000000 in
set_option maxRecDepth 100000 in
theorem j_X5_isLoop_40 {p : Program} {e : Env} {s : State} {m : MethodId} {args : Array Value} {below : List Frame} {meth : Method} {c : Code} {A : Nat → Prop} (l : Launch) (dC : Nat → ClassId) (dI : Nat → Nat → Nat) (Q : CQ) (N : Nat) (z9h : Nat) (R : Int32 × CS) (hx : p.tables.exec = Jvm.exec) (hb : c.code = cX5_isLoop) (hr : meth.sig.returnType = (some .boolean)) (hml : c.maxLocals = 1) (hown : s.vm.findClass RX5 = some m.cls) (hts : ∀ w ∈ wzX5_isLoop, w.before args s = true) (hlocks : meth.locks = false) (hZ : zAMB s) (hA : ∀ q : Nat, s.heap.size ≤ q → A q) (hK : va_K (dC, dI) vwCl (cT Q) s) : ∀ (σ : CS) (H : Heap) (locs : List Loc) (ls : Array Slot), f_X5_isLoop_40 N σ = some R → z9h ≤ CS.hs σ → CP dC dI Q A s.heap σ H locs → lv_has ls 1 [] → W p l e ({ frames := 1, cells := CS.hs R.2 - z9h, slots := 17 * (CS.hs R.2 - z9h), locals := 60 * 1 }) s m args below meth c H locs (CS.hs σ - z9h) (17 * (CS.hs σ - z9h)) (MQ below (va_Qi (fun (r : Int32) (_ : Unit) => r = R.1) (fun (_ : Unit) (t : State) => zPost dC dI A (cW Q R.2) (cT Q) t ∧ t.heap.size = CS.hs R.2) A) args s (CS.hs R.2 - z9h) (17 * (CS.hs R.2 - z9h)) A) (F0 m 40 ls []) := by
  intro σ  H locs ls hf h0 hC hl
  unfold f_X5_isLoop_40 at hf
  refine lv_iconst (v := 1) hx hb dX5_isLoop_40 (by decide) ?_
  refine lv_goto (tgt := 45) hx hb dX5_isLoop_41 (by decide) ?_
  obtain rfl := Option.some.inj hf
  exact W.zret (v := 1) hx hb hr (rfl) (fun t ht hW => ⟨⟨1, (), rfl, rfl, ⟨by rw [ht]; exact hC.1, va_K.moved hW.alike hK, hC.2.1⟩, by rw [ht]; exact hC.2.2.2⟩, hC.2.2.1.F ht⟩) hC.2.2.1.2.2 dX5_isLoop_45
set_option maxHeartbeats 4000000 in
set_option maxRecDepth 100000 in
theorem c_X5_isLoop (l : Launch) (dC : Nat → ClassId) (dI : Nat → Nat → Nat) (Q : CQ) (N : Nat) (σ : CS) (x0 : Nat) (R : Int32 × CS) (hf : f_X5_isLoop N σ x0 = some R) : Met l yX5_isLoop wzX5_isLoop ({ frames := 1, cells := CS.hs R.2 - CS.hs σ, slots := 17 * (CS.hs R.2 - CS.hs σ), locals := 60 * 1 }) (va_Pc [.ref x0] (zPre dC dI (CS.hs σ) (cW Q σ) (cT Q))) (va_Qi (fun (r : Int32) (_ : Unit) => r = R.1) (fun (_ : Unit) (t : State) => zPost dC dI (va_A (cW Q σ) (CS.hs σ)) (cW Q R.2) (cT Q) t ∧ t.heap.size = CS.hs R.2) (va_A (cW Q σ) (CS.hs σ))) (CS.hs R.2 - CS.hs σ) (17 * (CS.hs R.2 - CS.hs σ)) (va_A (cW Q σ) (CS.hs σ)) := by
  refine Met.ofW (cc := cX5_isLoop) (maxL := 1) (ret := (some .boolean)) (by decide) rfl ?_
  intro p e s m args below meth c s₁ B hml hv
  obtain ⟨rfl, hsz, hZ, hP, hK, hD0⟩ := hv
  have hx := B.exec
  have hb := B.bytes
  have hr := B.returns
  have hts := atoms_spec (ws := wzX5_isLoop) B.pre
  have hown : s.vm.findClass RX5 = some m.cls := findClass_of_methodNamed B.named
  have hlocks := B.notSynchronized
  have hD := hD0.self (sz := CS.hs σ)
  generalize hAe : va_A (cW Q σ) (CS.hs σ) = A at hD ⊢
  have hA : ∀ q : Nat, s.heap.size ≤ q → A q := fun q h => by rw [← hAe]; exact Or.inr (hsz ▸ h)
  have hC : CP dC dI Q A s.heap σ s.heap [] := ⟨hP, hD, va_S.rf, hsz⟩
  have h0 : CS.hs σ ≤ CS.hs σ := Nat.le_refl _
  have hl := lv_entry ([.ref x0]) (n := 1) (Nat.le_of_ble_eq_true rfl)
  rw [lg_entry_eq]
  generalize (lg_sl ([.ref x0]) ++ List.replicate (1 - (lg_sl ([.ref x0])).length) Slot.unset).toArray = ls at hl ⊢
  have hl : lv_has ls 1 [(0, .ref x0)] := hl
  unfold f_X5_isLoop at hf
  refine W.widen (k := CS.hs σ - CS.hs σ) (n := 17 * (CS.hs σ - CS.hs σ)) (Nat.zero_le _) (Nat.zero_le _) ?_
  refine lv_aload_n hx hb dX5_isLoop_0 rfl (lv_at hl 0 rfl) ?_
  obtain ⟨b1, hf⟩ := hf_ite hf
  refine pG_X5_0 (v := (CS.o σ x0 0)) hx hb hts i_X5_isLoop_X5 hown hK hC (hts (.fieldLink RX5 9 "StatementRules2$Open" "sort" "I") k_X5_isLoop_fieldLink_RX5_9_SR_Open_sort_I) (fun _ q9 => q9) dX5_isLoop_1 b1 rfl ?_
  refine lv_sipush (v := 205) hx hb dX5_isLoop_4 (by decide) ?_
  refine lv_icmp_eq (tgt := 40) hx hb dX5_isLoop_7 (by decide) (fun c2 => ?_) (fun c2 => ?_)
  ·
    replace hf := (if_pos c2).symm.trans hf
    exact j_X5_isLoop_40 l dC dI Q N (CS.hs σ) R hx hb hr hml hown hts hlocks hZ hA hK σ _ _ _ hf h0 hC (lv_sub hl [] rfl)
  ·
    replace hf := (if_neg c2).symm.trans hf
    refine lv_aload_n hx hb dX5_isLoop_10 rfl (lv_at hl 0 rfl) ?_
    refine pG_X5_0 (v := (CS.o σ x0 0)) hx hb hts i_X5_isLoop_X5 hown hK hC (hts (.fieldLink RX5 9 "StatementRules2$Open" "sort" "I") k_X5_isLoop_fieldLink_RX5_9_SR_Open_sort_I) (fun _ q9 => q9) dX5_isLoop_11 b1 rfl ?_
    refine lv_sipush (v := 206) hx hb dX5_isLoop_14 (by decide) ?_
    refine lv_icmp_eq (tgt := 40) hx hb dX5_isLoop_17 (by decide) (fun c3 => ?_) (fun c3 => ?_)
    ·
      replace hf := (if_pos c3).symm.trans hf
      exact j_X5_isLoop_40 l dC dI Q N (CS.hs σ) R hx hb hr hml hown hts hlocks hZ hA hK σ _ _ _ hf h0 hC (lv_sub hl [] rfl)
    ·
      replace hf := (if_neg c3).symm.trans hf
      refine lv_aload_n hx hb dX5_isLoop_20 rfl (lv_at hl 0 rfl) ?_
      refine pG_X5_0 (v := (CS.o σ x0 0)) hx hb hts i_X5_isLoop_X5 hown hK hC (hts (.fieldLink RX5 9 "StatementRules2$Open" "sort" "I") k_X5_isLoop_fieldLink_RX5_9_SR_Open_sort_I) (fun _ q9 => q9) dX5_isLoop_21 b1 rfl ?_
      refine lv_sipush (v := 207) hx hb dX5_isLoop_24 (by decide) ?_
      refine lv_icmp_eq (tgt := 40) hx hb dX5_isLoop_27 (by decide) (fun c4 => ?_) (fun c4 => ?_)
      ·
        replace hf := (if_pos c4).symm.trans hf
        exact j_X5_isLoop_40 l dC dI Q N (CS.hs σ) R hx hb hr hml hown hts hlocks hZ hA hK σ _ _ _ hf h0 hC (lv_sub hl [] rfl)
      ·
        replace hf := (if_neg c4).symm.trans hf
        refine lv_aload_n hx hb dX5_isLoop_30 rfl (lv_at hl 0 rfl) ?_
        refine pG_X5_0 (v := (CS.o σ x0 0)) hx hb hts i_X5_isLoop_X5 hown hK hC (hts (.fieldLink RX5 9 "StatementRules2$Open" "sort" "I") k_X5_isLoop_fieldLink_RX5_9_SR_Open_sort_I) (fun _ q9 => q9) dX5_isLoop_31 b1 rfl ?_
        refine lv_sipush (v := 304) hx hb dX5_isLoop_34 (by decide) ?_
        refine lv_icmp_ne (tgt := 44) hx hb dX5_isLoop_37 (by decide) (fun c5 => ?_) (fun c5 => ?_)
        ·
          replace hf := (if_neg c5).symm.trans hf
          refine lv_iconst (v := 0) hx hb dX5_isLoop_44 (by decide) ?_
          obtain rfl := Option.some.inj hf
          exact W.zret (v := 0) hx hb hr (rfl) (fun t ht hW => ⟨⟨0, (), rfl, rfl, ⟨by rw [ht]; exact hC.1, va_K.moved hW.alike hK, hC.2.1⟩, by rw [ht]; exact hC.2.2.2⟩, hC.2.2.1.F ht⟩) hC.2.2.1.2.2 dX5_isLoop_45
        ·
          replace hf := (if_pos c5).symm.trans hf
          exact j_X5_isLoop_40 l dC dI Q N (CS.hs σ) R hx hb hr hml hown hts hlocks hZ hA hK σ _ _ _ hf h0 hC (lv_sub hl [] rfl)
theorem k_X5_hasOneBody_fieldLink_RX5_9_SR_Open_sort_I : Cond.fieldLink RX5 9 "StatementRules2$Open" "sort" "I" ∈ wzX5_hasOneBody := List.mem_cons_of_mem _ (List.mem_append_left _ (List.mem_of_getElem? (i := 0) rfl))
theorem i_X5_hasOneBody_X5 : ∀ w ∈ wsX50, w ∈ wzX5_hasOneBody := fun _ h => List.mem_cons_of_mem _ (List.mem_append_right _ (List.mem_append_left _ (h)))
set_option maxHeartbeats 4000000 in
set_option maxRecDepth 100000 in
theorem j_X5_hasOneBody_37 {p : Program} {e : Env} {s : State} {m : MethodId} {args : Array Value} {below : List Frame} {meth : Method} {c : Code} {A : Nat → Prop} (l : Launch) (dC : Nat → ClassId) (dI : Nat → Nat → Nat) (Q : CQ) (N : Nat) (z9h : Nat) (R : Int32 × CS) (hx : p.tables.exec = Jvm.exec) (hb : c.code = cX5_hasOneBody) (hr : meth.sig.returnType = (some .boolean)) (hml : c.maxLocals = 1) (hown : s.vm.findClass RX5 = some m.cls) (hts : ∀ w ∈ wzX5_hasOneBody, w.before args s = true) (hlocks : meth.locks = false) (hZ : zAMB s) (hA : ∀ q : Nat, s.heap.size ≤ q → A q) (hK : va_K (dC, dI) vwCl (cT Q) s) : ∀ (σ : CS) (H : Heap) (locs : List Loc) (ls : Array Slot), f_X5_hasOneBody_37 N σ = some R → z9h ≤ CS.hs σ → CP dC dI Q A s.heap σ H locs → lv_has ls 1 [] → W p l e ({ frames := 2, cells := CS.hs R.2 - z9h, slots := 17 * (CS.hs R.2 - z9h), locals := 60 * 2 }) s m args below meth c H locs (CS.hs σ - z9h) (17 * (CS.hs σ - z9h)) (MQ below (va_Qi (fun (r : Int32) (_ : Unit) => r = R.1) (fun (_ : Unit) (t : State) => zPost dC dI A (cW Q R.2) (cT Q) t ∧ t.heap.size = CS.hs R.2) A) args s (CS.hs R.2 - z9h) (17 * (CS.hs R.2 - z9h)) A) (F0 m 37 ls []) := by
  intro σ  H locs ls hf h0 hC hl
  unfold f_X5_hasOneBody_37 at hf
  refine lv_iconst (v := 1) hx hb dX5_hasOneBody_37 (by decide) ?_
  refine lv_goto (tgt := 42) hx hb dX5_hasOneBody_38 (by decide) ?_
  obtain rfl := Option.some.inj hf
  exact W.zret (v := 1) hx hb hr (rfl) (fun t ht hW => ⟨⟨1, (), rfl, rfl, ⟨by rw [ht]; exact hC.1, va_K.moved hW.alike hK, hC.2.1⟩, by rw [ht]; exact hC.2.2.2⟩, hC.2.2.1.F ht⟩) hC.2.2.1.2.2 dX5_hasOneBody_42
set_option maxHeartbeats 4000000 in
set_option maxRecDepth 100000 in
theorem c_X5_hasOneBody (l : Launch) (dC : Nat → ClassId) (dI : Nat → Nat → Nat) (Q : CQ) (N : Nat) (σ : CS) (x0 : Nat) (R : Int32 × CS) (hf : f_X5_hasOneBody N σ x0 = some R) : Met l yX5_hasOneBody wzX5_hasOneBody ({ frames := 2, cells := CS.hs R.2 - CS.hs σ, slots := 17 * (CS.hs R.2 - CS.hs σ), locals := 60 * 2 }) (va_Pc [.ref x0] (zPre dC dI (CS.hs σ) (cW Q σ) (cT Q))) (va_Qi (fun (r : Int32) (_ : Unit) => r = R.1) (fun (_ : Unit) (t : State) => zPost dC dI (va_A (cW Q σ) (CS.hs σ)) (cW Q R.2) (cT Q) t ∧ t.heap.size = CS.hs R.2) (va_A (cW Q σ) (CS.hs σ))) (CS.hs R.2 - CS.hs σ) (17 * (CS.hs R.2 - CS.hs σ)) (va_A (cW Q σ) (CS.hs σ)) := by
  refine Met.ofW (cc := cX5_hasOneBody) (maxL := 1) (ret := (some .boolean)) (by decide) rfl ?_
  intro p e s m args below meth c s₁ B hml hv
  obtain ⟨rfl, hsz, hZ, hP, hK, hD0⟩ := hv
  have hx := B.exec
  have hb := B.bytes
  have hr := B.returns
  have hts := atoms_spec (ws := wzX5_hasOneBody) B.pre
  have hown : s.vm.findClass RX5 = some m.cls := findClass_of_methodNamed B.named
  have hlocks := B.notSynchronized
  have hD := hD0.self (sz := CS.hs σ)
  generalize hAe : va_A (cW Q σ) (CS.hs σ) = A at hD ⊢
  have hA : ∀ q : Nat, s.heap.size ≤ q → A q := fun q h => by rw [← hAe]; exact Or.inr (hsz ▸ h)
  have hC : CP dC dI Q A s.heap σ s.heap [] := ⟨hP, hD, va_S.rf, hsz⟩
  have h0 : CS.hs σ ≤ CS.hs σ := Nat.le_refl _
  have hl := lv_entry ([.ref x0]) (n := 1) (Nat.le_of_ble_eq_true rfl)
  rw [lg_entry_eq]
  generalize (lg_sl ([.ref x0]) ++ List.replicate (1 - (lg_sl ([.ref x0])).length) Slot.unset).toArray = ls at hl ⊢
  have hl : lv_has ls 1 [(0, .ref x0)] := hl
  unfold f_X5_hasOneBody at hf
  refine W.widen (k := CS.hs σ - CS.hs σ) (n := 17 * (CS.hs σ - CS.hs σ)) (Nat.zero_le _) (Nat.zero_le _) ?_
  refine lv_aload_n hx hb dX5_hasOneBody_0 rfl (lv_at hl 0 rfl) ?_
  obtain ⟨b1, hf⟩ := hf_ite hf
  obtain ⟨k2, hk2⟩ := cPl (Q := Q) (s := σ) (a := x0) b1.1
  rw [cE0 (show CS.k σ x0 = 0 from b1.2)] at hk2
  obtain ⟨p3, hcp3, hf⟩ := hf_bind hf
  have mo4 : CS.hs σ ≤ CS.hs p3.2 := Mono.go hcp3 (m_X5_isLoop N σ x0)
  have hr9 : CS.hs p3.2 ≤ CS.hs R.2 := Mono.go hf (mono_ite (mono_ite (mono_ite (m_X5_hasOneBody_37 N p3.2) (mono_ite (m_X5_hasOneBody_37 N p3.2) (mono_ite (m_X5_hasOneBody_37 N p3.2) (mono_some (Nat.le_refl _))))) mono_none) (m_X5_hasOneBody_37 N p3.2))
  have hFc := cFree hC hA
  refine va_calli (va_runV (As := []) (rest := []) ⟨hx, hb, hml, hown, hts⟩ (c_X5_isLoop l dC dI Q N σ x0 p3 hcp3) (cwV 0 hts hX5_hasOneBody_X5_isLoop_v15 rfl rfl rfl (by decide +kernel) ⟨(show 1 + 1 ≤ 2 by omega), (show 8 + (1 + 11) + 60 * 1 ≤ 60 * 2 by omega)⟩) ⟨zPre.blind, va_recv hK hC.1 (ci := 4) (q0 := k2) rfl hk2, cPre_go hZ hK hC⟩ rfl rfl hl.1 rfl (lv_room (Nat.le_of_ble_eq_true rfl)) dX5_hasOneBody_1 (cAcc h0 mo4 hr9)) hC.2.2.1 (fun q _ h => hFc q h) hFc (fun r5 u9 t9 H1 locs ht hvm hw hB hz1 hk1 hS => ?_)
  obtain ⟨⟨hP, hK1, hD1⟩, hsz1⟩ := hB
  rw [ht] at hP hsz1
  have hC : CP dC dI Q A s.heap p3.2 H1 locs := ⟨hP, hD1.weaken (fun _ _ _ h => hFc _ h), hS, hsz1⟩
  generalize H1 = H at hC ⊢
  have h6 : (CS.hs σ) ≤ CS.hs p3.2 := Nat.le_trans h0 mo4
  refine W.widen (k := CS.hs p3.2 - (CS.hs σ)) (n := 17 * (CS.hs p3.2 - (CS.hs σ))) (cAcc2 h0 mo4) (cAcc3 h0 mo4) ?_
  obtain rfl : r5 = p3.1 := hw
  refine lv_if_ne (tgt := 37) hx hb dX5_hasOneBody_4 (by decide) (fun c7 => ?_) (fun c7 => ?_)
  ·
    replace hf := (if_neg c7).symm.trans hf
    exact j_X5_hasOneBody_37 l dC dI Q N (CS.hs σ) R hx hb hr hml hown hts hlocks hZ hA hK p3.2 _ _ _ hf h6 hC (lv_sub hl [] rfl)
  ·
    replace hf := (if_pos c7).symm.trans hf
    refine lv_aload_n hx hb dX5_hasOneBody_7 rfl (lv_at hl 0 rfl) ?_
    obtain ⟨b8, hf⟩ := hf_ite hf
    refine pG_X5_0 (v := (CS.o p3.2 x0 0)) hx hb hts i_X5_hasOneBody_X5 hown hK hC (hts (.fieldLink RX5 9 "StatementRules2$Open" "sort" "I") k_X5_hasOneBody_fieldLink_RX5_9_SR_Open_sort_I) (fun _ q9 => q9) dX5_hasOneBody_8 b8 rfl ?_
    refine lv_sipush (v := 303) hx hb dX5_hasOneBody_11 (by decide) ?_
    refine lv_icmp_eq (tgt := 37) hx hb dX5_hasOneBody_14 (by decide) (fun c9 => ?_) (fun c9 => ?_)
    ·
      replace hf := (if_pos c9).symm.trans hf
      exact j_X5_hasOneBody_37 l dC dI Q N (CS.hs σ) R hx hb hr hml hown hts hlocks hZ hA hK p3.2 _ _ _ hf h6 hC (lv_sub hl [] rfl)
    ·
      replace hf := (if_neg c9).symm.trans hf
      refine lv_aload_n hx hb dX5_hasOneBody_17 rfl (lv_at hl 0 rfl) ?_
      refine pG_X5_0 (v := (CS.o p3.2 x0 0)) hx hb hts i_X5_hasOneBody_X5 hown hK hC (hts (.fieldLink RX5 9 "StatementRules2$Open" "sort" "I") k_X5_hasOneBody_fieldLink_RX5_9_SR_Open_sort_I) (fun _ q9 => q9) dX5_hasOneBody_18 b8 rfl ?_
      refine lv_sipush (v := 203) hx hb dX5_hasOneBody_21 (by decide) ?_
      refine lv_icmp_eq (tgt := 37) hx hb dX5_hasOneBody_24 (by decide) (fun c10 => ?_) (fun c10 => ?_)
      ·
        replace hf := (if_pos c10).symm.trans hf
        exact j_X5_hasOneBody_37 l dC dI Q N (CS.hs σ) R hx hb hr hml hown hts hlocks hZ hA hK p3.2 _ _ _ hf h6 hC (lv_sub hl [] rfl)
      ·
        replace hf := (if_neg c10).symm.trans hf
        refine lv_aload_n hx hb dX5_hasOneBody_27 rfl (lv_at hl 0 rfl) ?_
        refine pG_X5_0 (v := (CS.o p3.2 x0 0)) hx hb hts i_X5_hasOneBody_X5 hown hK hC (hts (.fieldLink RX5 9 "StatementRules2$Open" "sort" "I") k_X5_hasOneBody_fieldLink_RX5_9_SR_Open_sort_I) (fun _ q9 => q9) dX5_hasOneBody_28 b8 rfl ?_
        refine lv_sipush (v := 204) hx hb dX5_hasOneBody_31 (by decide) ?_
        refine lv_icmp_ne (tgt := 41) hx hb dX5_hasOneBody_34 (by decide) (fun c11 => ?_) (fun c11 => ?_)
        ·
          replace hf := (if_neg c11).symm.trans hf
          refine lv_iconst (v := 0) hx hb dX5_hasOneBody_41 (by decide) ?_
          obtain rfl := Option.some.inj hf
          exact W.zret (v := 0) hx hb hr (rfl) (fun t ht hW => ⟨⟨0, (), rfl, rfl, ⟨by rw [ht]; exact hC.1, va_K.moved hW.alike hK, hC.2.1⟩, by rw [ht]; exact hC.2.2.2⟩, hC.2.2.1.F ht⟩) hC.2.2.1.2.2 dX5_hasOneBody_42
        ·
          replace hf := (if_pos c11).symm.trans hf
          exact j_X5_hasOneBody_37 l dC dI Q N (CS.hs σ) R hx hb hr hml hown hts hlocks hZ hA hK p3.2 _ _ _ hf h6 hC (lv_sub hl [] rfl)
theorem k_X6_pop_fieldLink_RX6_21_SR_Opens_count_I : Cond.fieldLink RX6 21 "StatementRules2$Opens" "count" "I" ∈ wzX6_pop := List.mem_cons_of_mem _ (List.mem_append_left _ (List.mem_of_getElem? (i := 0) rfl))
theorem i_X6_pop_X6 : ∀ w ∈ wsX60, w ∈ wzX6_pop := fun _ h => List.mem_cons_of_mem _ (List.mem_append_right _ (List.mem_append_left _ (h)))
theorem k_X6_pop_methodLink_RX6_85_yJ9_max_7cf53 : Cond.methodLink RX6 85 yJ9_max_7cf53 ∈ wzX6_pop := List.mem_cons_of_mem _ (List.mem_append_left _ (List.mem_of_getElem? (i := 1) rfl))
theorem k_X6_pop_static_yJ9_max_7cf53 : Cond.static yJ9_max_7cf53 ∈ wzX6_pop := List.mem_cons_of_mem _ (List.mem_append_left _ (List.mem_of_getElem? (i := 2) rfl))
theorem k_X6_pop_initialized_RJ9 : Cond.initialized RJ9 ∈ wzX6_pop := List.mem_cons_of_mem _ (List.mem_append_left _ (List.mem_of_getElem? (i := 3) rfl))
theorem k_X6_pop_code_yJ9_max_7cf53_cJ9_max_7cf53_2_some_int : Cond.code yJ9_max_7cf53 cJ9_max_7cf53 2 (some .int) ∈ wzX6_pop := List.mem_cons_of_mem _ (List.mem_append_left _ (List.mem_of_getElem? (i := 4) rfl))
set_option maxHeartbeats 4000000 in
set_option maxRecDepth 100000 in
theorem c_X6_pop (l : Launch) (dC : Nat → ClassId) (dI : Nat → Nat → Nat) (Q : CQ) (N : Nat) (σ : CS) (R : Unit × CS) (hf : f_X6_pop N σ = some R) : Met l yX6_pop wzX6_pop ({ frames := 1, cells := CS.hs R.2 - CS.hs σ, slots := 17 * (CS.hs R.2 - CS.hs σ), locals := 60 * 1 }) (va_Pc [.ref (Q.o 6)] (zPre dC dI (CS.hs σ) (cW Q σ) (cT Q))) (va_Qv (fun (_ : Unit) => True) (fun (_ : Unit) (t : State) => zPost dC dI (va_A (cW Q σ) (CS.hs σ)) (cW Q R.2) (cT Q) t ∧ t.heap.size = CS.hs R.2) (va_A (cW Q σ) (CS.hs σ))) (CS.hs R.2 - CS.hs σ) (17 * (CS.hs R.2 - CS.hs σ)) (va_A (cW Q σ) (CS.hs σ)) := by
  refine Met.ofW (cc := cX6_pop) (maxL := 1) (ret := none) (by decide) rfl ?_
  intro p e s m args below meth c s₁ B hml hv
  obtain ⟨rfl, hsz, hZ, hP, hK, hD0⟩ := hv
  have hx := B.exec
  have hb := B.bytes
  have hr := B.returns
  have hts := atoms_spec (ws := wzX6_pop) B.pre
  have hown : s.vm.findClass RX6 = some m.cls := findClass_of_methodNamed B.named
  have hlocks := B.notSynchronized
  have hD := hD0.self (sz := CS.hs σ)
  generalize hAe : va_A (cW Q σ) (CS.hs σ) = A at hD ⊢
  have hA : ∀ q : Nat, s.heap.size ≤ q → A q := fun q h => by rw [← hAe]; exact Or.inr (hsz ▸ h)
  have hC : CP dC dI Q A s.heap σ s.heap [] := ⟨hP, hD, va_S.rf, hsz⟩
  have h0 : CS.hs σ ≤ CS.hs σ := Nat.le_refl _
  have hl := lv_entry ([.ref (Q.o 6)]) (n := 1) (Nat.le_of_ble_eq_true rfl)
  rw [lg_entry_eq]
  generalize (lg_sl ([.ref (Q.o 6)]) ++ List.replicate (1 - (lg_sl ([.ref (Q.o 6)])).length) Slot.unset).toArray = ls at hl ⊢
  have hl : lv_has ls 1 [(0, .ref (Q.o 6))] := hl
  unfold f_X6_pop at hf
  refine W.widen (k := CS.hs σ - CS.hs σ) (n := 17 * (CS.hs σ - CS.hs σ)) (Nat.zero_le _) (Nat.zero_le _) ?_
  refine lv_aload_n hx hb dX6_pop_0 rfl (lv_at hl 0 rfl) ?_
  refine lv_iconst (v := 0) hx hb dX6_pop_1 (by decide) ?_
  refine lv_aload_n hx hb dX6_pop_2 rfl (lv_at hl 0 rfl) ?_
  refine cG_53 (v := (σ.i 53)) hx hb hts i_X6_pop_X6 hown hK hC (hts (.fieldLink RX6 21 "StatementRules2$Opens" "count" "I") k_X6_pop_fieldLink_RX6_21_SR_Opens_count_I) (fun _ q9 => q9) dX6_pop_3 rfl ?_
  refine lv_iconst (v := 1) hx hb dX6_pop_6 (by decide) ?_
  refine lv_isub hx hb dX6_pop_7 ?_
  have hr9 : CS.hs σ ≤ CS.hs R.2 := Mono.go hf (mono_some (Nat.le_refl _))
  refine va_mmax hx hb (hml.trans hl.1.symm) hown (hts (.methodLink RX6 85 yJ9_max_7cf53) k_X6_pop_methodLink_RX6_85_yJ9_max_7cf53) (hts (.static yJ9_max_7cf53) k_X6_pop_static_yJ9_max_7cf53) (hts (.initialized RJ9) k_X6_pop_initialized_RJ9) (hts (.code yJ9_max_7cf53 cJ9_max_7cf53 2 (some .int)) k_X6_pop_code_yJ9_max_7cf53_cJ9_max_7cf53_2_some_int) (Nat.le_of_ble_eq_true rfl) (Nat.le_of_ble_eq_true rfl) (cAcc4 h0 hr9) (cAcc5 h0 hr9) dX6_pop_8 ?_
  refine cP_53 (v := (if 0 < ((σ.i 53) - 1) then ((σ.i 53) - 1) else 0)) hx hb hts i_X6_pop_X6 hown hK hC (hts (.fieldLink RX6 21 "StatementRules2$Opens" "count" "I") k_X6_pop_fieldLink_RX6_21_SR_Opens_count_I) (fun _ q9 => q9) dX6_pop_11 (fun H locs hC => ?_)
  obtain rfl := Option.some.inj hf
  exact W.vret hx hb hr (fun t ht hW => ⟨⟨(), rfl, trivial, ⟨by rw [ht]; exact hC.1, va_K.moved hW.alike hK, hC.2.1⟩, by rw [ht]; exact hC.2.2.2⟩, hC.2.2.1.F ht⟩) hC.2.2.1.2.2 dX6_pop_14
theorem i_X7_endIf_X5 : ∀ w ∈ wsX50, w ∈ wzX7_endIf := fun _ h => List.mem_cons_of_mem _ (List.mem_append_right _ (List.mem_append_left _ (h)))
theorem k_X7_endIf_fieldLink_RX7_61_SR_Statements_alive_Z : Cond.fieldLink RX7 61 "StatementRules2$Statements" "alive" "Z" ∈ wzX7_endIf := List.mem_cons_of_mem _ (List.mem_append_left _ (List.mem_of_getElem? (i := 0) rfl))
theorem i_X7_endIf_X7 : ∀ w ∈ wsX70, w ∈ wzX7_endIf := fun _ h => List.mem_cons_of_mem _ (List.mem_append_right _ (List.mem_append_right _ (List.mem_append_left _ (h))))
theorem k_X7_endIf_fieldLink_RX7_20_SR_Statements_code_LSR_Code : Cond.fieldLink RX7 20 "StatementRules2$Statements" "code" "LStatementRules2$Code;" ∈ wzX7_endIf := List.mem_cons_of_mem _ (List.mem_append_left _ (List.mem_of_getElem? (i := 1) rfl))
theorem k_X7_endIf_sameField_SR_Statements_SR_Formulas_code_LSR_Code : Cond.sameField "StatementRules2$Statements" "StatementRules2$Formulas" "code" "LStatementRules2$Code;" ∈ wzX7_endIf := List.mem_cons_of_mem _ (List.mem_append_left _ (List.mem_of_getElem? (i := 2) rfl))
theorem k_X7_endIf_fieldLink_RX7_14_SR_Statements_opens_LSR_Opens : Cond.fieldLink RX7 14 "StatementRules2$Statements" "opens" "LStatementRules2$Opens;" ∈ wzX7_endIf := List.mem_cons_of_mem _ (List.mem_append_left _ (List.mem_of_getElem? (i := 3) rfl))
set_option maxHeartbeats 4000000 in
set_option maxRecDepth 100000 in
theorem c_X7_endIf (l : Launch) (dC : Nat → ClassId) (dI : Nat → Nat → Nat) (Q : CQ) (N : Nat) (σ : CS) (x1 : Nat) (R : Unit × CS) (hf : f_X7_endIf N σ x1 = some R) : Met l yX7_endIf wzX7_endIf ({ frames := 5, cells := CS.hs R.2 - CS.hs σ, slots := 17 * (CS.hs R.2 - CS.hs σ), locals := 60 * 5 }) (va_Pc [.ref (Q.o 3), .ref x1] (zPre dC dI (CS.hs σ) (cW Q σ) (cT Q))) (va_Qv (fun (_ : Unit) => True) (fun (_ : Unit) (t : State) => zPost dC dI (va_A (cW Q σ) (CS.hs σ)) (cW Q R.2) (cT Q) t ∧ t.heap.size = CS.hs R.2) (va_A (cW Q σ) (CS.hs σ))) (CS.hs R.2 - CS.hs σ) (17 * (CS.hs R.2 - CS.hs σ)) (va_A (cW Q σ) (CS.hs σ)) := by
  refine Met.ofW (cc := cX7_endIf) (maxL := 2) (ret := none) (by decide) rfl ?_
  intro p e s m args below meth c s₁ B hml hv
  obtain ⟨rfl, hsz, hZ, hP, hK, hD0⟩ := hv
  have hx := B.exec
  have hb := B.bytes
  have hr := B.returns
  have hts := atoms_spec (ws := wzX7_endIf) B.pre
  have hown : s.vm.findClass RX7 = some m.cls := findClass_of_methodNamed B.named
  have hlocks := B.notSynchronized
  have hD := hD0.self (sz := CS.hs σ)
  generalize hAe : va_A (cW Q σ) (CS.hs σ) = A at hD ⊢
  have hA : ∀ q : Nat, s.heap.size ≤ q → A q := fun q h => by rw [← hAe]; exact Or.inr (hsz ▸ h)
  have hC : CP dC dI Q A s.heap σ s.heap [] := ⟨hP, hD, va_S.rf, hsz⟩
  have h0 : CS.hs σ ≤ CS.hs σ := Nat.le_refl _
  have hl := lv_entry ([.ref (Q.o 3), .ref x1]) (n := 2) (Nat.le_of_ble_eq_true rfl)
  rw [lg_entry_eq]
  generalize (lg_sl ([.ref (Q.o 3), .ref x1]) ++ List.replicate (2 - (lg_sl ([.ref (Q.o 3), .ref x1])).length) Slot.unset).toArray = ls at hl ⊢
  have hl : lv_has ls 2 [(0, .ref (Q.o 3)), (1, .ref x1)] := hl
  unfold f_X7_endIf at hf
  refine W.widen (k := CS.hs σ - CS.hs σ) (n := 17 * (CS.hs σ - CS.hs σ)) (Nat.zero_le _) (Nat.zero_le _) ?_
  refine lv_aload_n hx hb dX7_endIf_0 rfl (lv_at hl 0 rfl) ?_
  refine lv_sipush (v := 204) hx hb dX7_endIf_1 (by decide) ?_
  obtain ⟨p1, hcp1, hf⟩ := hf_bind hf
  have mo2 : CS.hs σ ≤ CS.hs p1.2 := Mono.go hcp1 (m_X1_skip N σ 204)
  have hr9 : CS.hs p1.2 ≤ CS.hs R.2 := Mono.go hf (mono_ite (mono_ite (mono_bind (m_X0_aim N p1.2 (CS.o p1.2 x1 10)) (fun p23 => (mono_bind (m_X6_pop N (CS.setI p23.2 36 1)) (fun p27 => (mono_some (Nat.le_refl _)))))) mono_none) (mono_ite (mono_ite (mono_bind (m_X0_newTarget N (CS.setO (CS.setO (CS.setO p1.2 x1 0 204) x1 5 0) x1 6 (p1.2.i 36))) (fun p8 => (mono_ite (mono_bind (m_X0_add N (CS.setO p8.2 x1 9 p8.1) 30 (CS.o (CS.setO p8.2 x1 9 p8.1) x1 9)) (fun p13 => (mono_ite (mono_bind (m_X0_aim N p13.2 (CS.o p13.2 x1 10)) (fun p18 => (mono_some (Nat.le_refl _)))) mono_none))) mono_none))) mono_none) mono_none))
  have hFc := cFree hC hA
  refine va_calli (va_runU (As := [.int 204]) (rest := []) ⟨hx, hb, hml, hown, hts⟩ (c_X1_skip l dC dI Q N σ 204 p1 hcp1) (va_cwU 1 hts hX7_endIf_X1_skip_u205 rfl rfl rfl rfl (by decide +kernel) ⟨(show 4 + 1 ≤ 5 by omega), (show 8 + (3 + 11) + 60 * 4 ≤ 60 * 5 by omega)⟩) ⟨zPre.blind, va_recv hK hC.1 (ci := 6) (q0 := 3) rfl rfl, cPre_go hZ hK hC⟩ rfl rfl hl.1 rfl (lv_room (Nat.le_of_ble_eq_true rfl)) dX7_endIf_4 (cAcc h0 mo2 hr9)) hC.2.2.1 (fun q _ h => hFc q h) hFc (fun r3 u9 t9 H1 locs ht hvm hw hB hz1 hk1 hS => ?_)
  obtain ⟨⟨hP, hK1, hD1⟩, hsz1⟩ := hB
  rw [ht] at hP hsz1
  have hC : CP dC dI Q A s.heap p1.2 H1 locs := ⟨hP, hD1.weaken (fun _ _ _ h => hFc _ h), hS, hsz1⟩
  generalize H1 = H at hC ⊢
  have h4 : (CS.hs σ) ≤ CS.hs p1.2 := Nat.le_trans h0 mo2
  refine W.widen (k := CS.hs p1.2 - (CS.hs σ)) (n := 17 * (CS.hs p1.2 - (CS.hs σ))) (cAcc2 h0 mo2) (cAcc3 h0 mo2) ?_
  obtain rfl : r3 = p1.1 := hw
  refine lv_if_ne (tgt := 34) hx hb dX7_endIf_7 (by decide) (fun c5 => ?_) (fun c5 => ?_)
  ·
    replace hf := (if_neg c5).symm.trans hf
    refine lv_aload_n hx hb dX7_endIf_34 rfl (lv_at hl 1 rfl) ?_
    refine lv_sipush (v := 204) hx hb dX7_endIf_35 (by decide) ?_
    obtain ⟨b6, hf⟩ := hf_ite hf
    refine pPN_X5_0 (v := 204) hx hb hts i_X7_endIf_X5 hown hK hC (va_Nw.use rfl (hZ.1 (.fieldLinkNest RX7 107 "StatementRules2$Open" "sort" "I" "StatementRules2") (by decide +kernel))) (fun _ q9 => q9) dX7_endIf_38 b6 (fun H locs hC => ?_)
    refine lv_aload_n hx hb dX7_endIf_41 rfl (lv_at hl 1 rfl) ?_
    refine lv_iconst (v := 0) hx hb dX7_endIf_42 (by decide) ?_
    refine pPN_X5_5 (v := 0) hx hb hts i_X7_endIf_X5 hown hK hC (va_Nw.use rfl (hZ.1 (.fieldLinkNest RX7 130 "StatementRules2$Open" "begun" "Z" "StatementRules2") (by decide +kernel))) (fun _ q9 => q9) dX7_endIf_43 b6 (by decide) (fun H locs hC => ?_)
    refine lv_aload_n hx hb dX7_endIf_46 rfl (lv_at hl 1 rfl) ?_
    refine lv_aload_n hx hb dX7_endIf_47 rfl (lv_at hl 0 rfl) ?_
    refine cG_36 (v := (p1.2.i 36)) hx hb hts i_X7_endIf_X7 hown hK hC (hts (.fieldLink RX7 61 "StatementRules2$Statements" "alive" "Z") k_X7_endIf_fieldLink_RX7_61_SR_Statements_alive_Z) (fun _ q9 => q9) dX7_endIf_48 rfl ?_
    obtain ⟨b7, hf⟩ := hf_ite hf
    refine pPN_X5_6 (v := (p1.2.i 36)) hx hb hts i_X7_endIf_X5 hown hK hC (va_Nw.use rfl (hZ.1 (.fieldLinkNest RX7 359 "StatementRules2$Open" "ends" "Z" "StatementRules2") (by decide +kernel))) (fun _ q9 => q9) dX7_endIf_51 b6 b7 (fun H locs hC => ?_)
    refine lv_aload_n hx hb dX7_endIf_54 rfl (lv_at hl 1 rfl) ?_
    refine lv_aload_n hx hb dX7_endIf_55 rfl (lv_at hl 0 rfl) ?_
    refine cG_29 hx hb hts i_X7_endIf_X7 hown hK hC (hts (.fieldLink RX7 20 "StatementRules2$Statements" "code" "LStatementRules2$Code;") k_X7_endIf_fieldLink_RX7_20_SR_Statements_code_LSR_Code) (fun x9 q9 => u_same (hts (.sameField "StatementRules2$Statements" "StatementRules2$Formulas" "code" "LStatementRules2$Code;") k_X7_endIf_sameField_SR_Statements_SR_Formulas_code_LSR_Code) x9 q9) dX7_endIf_56 ?_
    obtain ⟨p8, hcp8, hf⟩ := hf_bind hf
    have mo9 : CS.hs p1.2 ≤ CS.hs p8.2 := Mono.go hcp8 (m_X0_newTarget N (CS.setO (CS.setO (CS.setO p1.2 x1 0 204) x1 5 0) x1 6 (p1.2.i 36)))
    have hr9 : CS.hs p8.2 ≤ CS.hs R.2 := Mono.go hf (mono_ite (mono_bind (m_X0_add N (CS.setO p8.2 x1 9 p8.1) 30 (CS.o (CS.setO p8.2 x1 9 p8.1) x1 9)) (fun p13 => (mono_ite (mono_bind (m_X0_aim N p13.2 (CS.o p13.2 x1 10)) (fun p18 => (mono_some (Nat.le_refl _)))) mono_none))) mono_none)
    have hFc := cFree hC hA
    refine va_calli (va_runV (As := []) (rest := [.ref x1]) ⟨hx, hb, hml, hown, hts⟩ (c_X0_newTarget l dC dI Q N (CS.setO (CS.setO (CS.setO p1.2 x1 0 204) x1 5 0) x1 6 (p1.2.i 36)) p8 hcp8) (cwV 0 hts hX7_endIf_X0_newTarget_v136 rfl rfl rfl (by decide +kernel) ⟨(show 2 + 1 ≤ 5 by omega), (show 8 + (1 + 11) + 60 * 2 ≤ 60 * 5 by omega)⟩) ⟨zPre.blind, va_recv hK hC.1 (ci := 0) (q0 := 2) rfl rfl, cPre_go hZ hK hC⟩ rfl rfl hl.1 rfl (lv_room (Nat.le_of_ble_eq_true rfl)) dX7_endIf_59 (cAcc h4 mo9 hr9)) hC.2.2.1 (fun q _ h => hFc q h) hFc (fun r10 u9 t9 H1 locs ht hvm hw hB hz1 hk1 hS => ?_)
    obtain ⟨⟨hP, hK1, hD1⟩, hsz1⟩ := hB
    rw [ht] at hP hsz1
    have hC : CP dC dI Q A s.heap p8.2 H1 locs := ⟨hP, hD1.weaken (fun _ _ _ h => hFc _ h), hS, hsz1⟩
    generalize H1 = H at hC ⊢
    have h11 : (CS.hs σ) ≤ CS.hs p8.2 := Nat.le_trans h4 mo9
    refine W.widen (k := CS.hs p8.2 - (CS.hs σ)) (n := 17 * (CS.hs p8.2 - (CS.hs σ))) (cAcc2 h4 mo9) (cAcc3 h4 mo9) ?_
    obtain rfl : r10 = p8.1 := hw
    obtain ⟨b12, hf⟩ := hf_ite hf
    refine pPN_X5_9 (v := p8.1) hx hb hts i_X7_endIf_X5 hown hK hC (va_Nw.use rfl (hZ.1 (.fieldLinkNest RX7 196 "StatementRules2$Open" "exit" "I" "StatementRules2") (by decide +kernel))) (fun _ q9 => q9) dX7_endIf_62 b12 (fun H locs hC => ?_)
    refine lv_aload_n hx hb dX7_endIf_65 rfl (lv_at hl 0 rfl) ?_
    refine cG_29 hx hb hts i_X7_endIf_X7 hown hK hC (hts (.fieldLink RX7 20 "StatementRules2$Statements" "code" "LStatementRules2$Code;") k_X7_endIf_fieldLink_RX7_20_SR_Statements_code_LSR_Code) (fun x9 q9 => u_same (hts (.sameField "StatementRules2$Statements" "StatementRules2$Formulas" "code" "LStatementRules2$Code;") k_X7_endIf_sameField_SR_Statements_SR_Formulas_code_LSR_Code) x9 q9) dX7_endIf_66 ?_
    refine lv_bipush (v := 30) hx hb dX7_endIf_69 (by decide) ?_
    refine lv_aload_n hx hb dX7_endIf_71 rfl (lv_at hl 1 rfl) ?_
    refine pGN_X5_9 (v := (CS.o (CS.setO p8.2 x1 9 p8.1) x1 9)) hx hb hts i_X7_endIf_X5 hown hK hC (va_Nw.use rfl (hZ.1 (.fieldLinkNest RX7 196 "StatementRules2$Open" "exit" "I" "StatementRules2") (by decide +kernel))) (fun _ q9 => q9) dX7_endIf_72 b12 rfl ?_
    obtain ⟨p13, hcp13, hf⟩ := hf_bind hf
    have mo14 : CS.hs p8.2 ≤ CS.hs p13.2 := Mono.go hcp13 (m_X0_add N (CS.setO p8.2 x1 9 p8.1) 30 (CS.o (CS.setO p8.2 x1 9 p8.1) x1 9))
    have hr9 : CS.hs p13.2 ≤ CS.hs R.2 := Mono.go hf (mono_ite (mono_bind (m_X0_aim N p13.2 (CS.o p13.2 x1 10)) (fun p18 => (mono_some (Nat.le_refl _)))) mono_none)
    have hFc := cFree hC hA
    refine va_callv (va_runV (As := [.int 30, .int (CS.o (CS.setO p8.2 x1 9 p8.1) x1 9)]) (rest := []) ⟨hx, hb, hml, hown, hts⟩ (c_X0_add l dC dI Q N (CS.setO p8.2 x1 9 p8.1) 30 (CS.o (CS.setO p8.2 x1 9 p8.1) x1 9) p13 hcp13) (cwV 2 hts hX7_endIf_X0_add_v176 rfl rfl rfl (by decide +kernel) ⟨(show 2 + 1 ≤ 5 by omega), (show 8 + (3 + 11) + 60 * 2 ≤ 60 * 5 by omega)⟩) ⟨zPre.blind, va_recv hK hC.1 (ci := 0) (q0 := 2) rfl rfl, cPre_go hZ hK hC⟩ rfl rfl hl.1 rfl (lv_room (Nat.le_of_ble_eq_true rfl)) dX7_endIf_75 (cAcc h11 mo14 hr9)) hC.2.2.1 (fun q _ h => hFc q h) hFc (fun u9 t9 H1 locs ht hvm hw hB hz1 hk1 hS => ?_)
    obtain ⟨⟨hP, hK1, hD1⟩, hsz1⟩ := hB
    rw [ht] at hP hsz1
    have hC : CP dC dI Q A s.heap p13.2 H1 locs := ⟨hP, hD1.weaken (fun _ _ _ h => hFc _ h), hS, hsz1⟩
    generalize H1 = H at hC ⊢
    have h16 : (CS.hs σ) ≤ CS.hs p13.2 := Nat.le_trans h11 mo14
    refine W.widen (k := CS.hs p13.2 - (CS.hs σ)) (n := 17 * (CS.hs p13.2 - (CS.hs σ))) (cAcc2 h11 mo14) (cAcc3 h11 mo14) ?_
    refine lv_aload_n hx hb dX7_endIf_78 rfl (lv_at hl 0 rfl) ?_
    refine cG_29 hx hb hts i_X7_endIf_X7 hown hK hC (hts (.fieldLink RX7 20 "StatementRules2$Statements" "code" "LStatementRules2$Code;") k_X7_endIf_fieldLink_RX7_20_SR_Statements_code_LSR_Code) (fun x9 q9 => u_same (hts (.sameField "StatementRules2$Statements" "StatementRules2$Formulas" "code" "LStatementRules2$Code;") k_X7_endIf_sameField_SR_Statements_SR_Formulas_code_LSR_Code) x9 q9) dX7_endIf_79 ?_
    refine lv_aload_n hx hb dX7_endIf_82 rfl (lv_at hl 1 rfl) ?_
    obtain ⟨b17, hf⟩ := hf_ite hf
    refine pGN_X5_10 (v := (CS.o p13.2 x1 10)) hx hb hts i_X7_endIf_X5 hown hK hC (va_Nw.use rfl (hZ.1 (.fieldLinkNest RX7 284 "StatementRules2$Open" "next" "I" "StatementRules2") (by decide +kernel))) (fun _ q9 => q9) dX7_endIf_83 b17 rfl ?_
    obtain ⟨p18, hcp18, hf⟩ := hf_bind hf
    have mo19 : CS.hs p13.2 ≤ CS.hs p18.2 := Mono.go hcp18 (m_X0_aim N p13.2 (CS.o p13.2 x1 10))
    have hr9 : CS.hs p18.2 ≤ CS.hs R.2 := Mono.go hf (mono_some (Nat.le_refl _))
    have hFc := cFree hC hA
    refine va_callv (va_runV (As := [.int (CS.o p13.2 x1 10)]) (rest := []) ⟨hx, hb, hml, hown, hts⟩ (c_X0_aim l dC dI Q N p13.2 (CS.o p13.2 x1 10) p18 hcp18) (cwV 1 hts hX7_endIf_X0_aim_v158 rfl rfl rfl (by decide +kernel) ⟨(show 2 + 1 ≤ 5 by omega), (show 8 + (2 + 11) + 60 * 2 ≤ 60 * 5 by omega)⟩) ⟨zPre.blind, va_recv hK hC.1 (ci := 0) (q0 := 2) rfl rfl, cPre_go hZ hK hC⟩ rfl rfl hl.1 rfl (lv_room (Nat.le_of_ble_eq_true rfl)) dX7_endIf_86 (cAcc h16 mo19 hr9)) hC.2.2.1 (fun q _ h => hFc q h) hFc (fun u9 t9 H1 locs ht hvm hw hB hz1 hk1 hS => ?_)
    obtain ⟨⟨hP, hK1, hD1⟩, hsz1⟩ := hB
    rw [ht] at hP hsz1
    have hC : CP dC dI Q A s.heap p18.2 H1 locs := ⟨hP, hD1.weaken (fun _ _ _ h => hFc _ h), hS, hsz1⟩
    generalize H1 = H at hC ⊢
    have h21 : (CS.hs σ) ≤ CS.hs p18.2 := Nat.le_trans h16 mo19
    refine W.widen (k := CS.hs p18.2 - (CS.hs σ)) (n := 17 * (CS.hs p18.2 - (CS.hs σ))) (cAcc2 h16 mo19) (cAcc3 h16 mo19) ?_
    refine lv_aload_n hx hb dX7_endIf_89 rfl (lv_at hl 0 rfl) ?_
    refine lv_iconst (v := 1) hx hb dX7_endIf_90 (by decide) ?_
    refine cP_36 (v := 1) hx hb hts i_X7_endIf_X7 hown hK hC (hts (.fieldLink RX7 61 "StatementRules2$Statements" "alive" "Z") k_X7_endIf_fieldLink_RX7_61_SR_Statements_alive_Z) (fun _ q9 => q9) dX7_endIf_91 (by decide) (fun H locs hC => ?_)
    obtain rfl := Option.some.inj hf
    exact W.vret hx hb hr (fun t ht hW => ⟨⟨(), rfl, trivial, ⟨by rw [ht]; exact hC.1, va_K.moved hW.alike hK, hC.2.1⟩, by rw [ht]; exact hC.2.2.2⟩, hC.2.2.1.F ht⟩) hC.2.2.1.2.2 dX7_endIf_94
  ·
    replace hf := (if_pos c5).symm.trans hf
    refine lv_aload_n hx hb dX7_endIf_10 rfl (lv_at hl 0 rfl) ?_
    refine cG_29 hx hb hts i_X7_endIf_X7 hown hK hC (hts (.fieldLink RX7 20 "StatementRules2$Statements" "code" "LStatementRules2$Code;") k_X7_endIf_fieldLink_RX7_20_SR_Statements_code_LSR_Code) (fun x9 q9 => u_same (hts (.sameField "StatementRules2$Statements" "StatementRules2$Formulas" "code" "LStatementRules2$Code;") k_X7_endIf_sameField_SR_Statements_SR_Formulas_code_LSR_Code) x9 q9) dX7_endIf_11 ?_
    refine lv_aload_n hx hb dX7_endIf_14 rfl (lv_at hl 1 rfl) ?_
    obtain ⟨b22, hf⟩ := hf_ite hf
    refine pGN_X5_10 (v := (CS.o p1.2 x1 10)) hx hb hts i_X7_endIf_X5 hown hK hC (va_Nw.use rfl (hZ.1 (.fieldLinkNest RX7 284 "StatementRules2$Open" "next" "I" "StatementRules2") (by decide +kernel))) (fun _ q9 => q9) dX7_endIf_15 b22 rfl ?_
    obtain ⟨p23, hcp23, hf⟩ := hf_bind hf
    have mo24 : CS.hs p1.2 ≤ CS.hs p23.2 := Mono.go hcp23 (m_X0_aim N p1.2 (CS.o p1.2 x1 10))
    have hr9 : CS.hs p23.2 ≤ CS.hs R.2 := Mono.go hf (mono_bind (m_X6_pop N (CS.setI p23.2 36 1)) (fun p27 => (mono_some (Nat.le_refl _))))
    have hFc := cFree hC hA
    refine va_callv (va_runV (As := [.int (CS.o p1.2 x1 10)]) (rest := []) ⟨hx, hb, hml, hown, hts⟩ (c_X0_aim l dC dI Q N p1.2 (CS.o p1.2 x1 10) p23 hcp23) (cwV 1 hts hX7_endIf_X0_aim_v158 rfl rfl rfl (by decide +kernel) ⟨(show 2 + 1 ≤ 5 by omega), (show 8 + (2 + 11) + 60 * 2 ≤ 60 * 5 by omega)⟩) ⟨zPre.blind, va_recv hK hC.1 (ci := 0) (q0 := 2) rfl rfl, cPre_go hZ hK hC⟩ rfl rfl hl.1 rfl (lv_room (Nat.le_of_ble_eq_true rfl)) dX7_endIf_18 (cAcc h4 mo24 hr9)) hC.2.2.1 (fun q _ h => hFc q h) hFc (fun u9 t9 H1 locs ht hvm hw hB hz1 hk1 hS => ?_)
    obtain ⟨⟨hP, hK1, hD1⟩, hsz1⟩ := hB
    rw [ht] at hP hsz1
    have hC : CP dC dI Q A s.heap p23.2 H1 locs := ⟨hP, hD1.weaken (fun _ _ _ h => hFc _ h), hS, hsz1⟩
    generalize H1 = H at hC ⊢
    have h26 : (CS.hs σ) ≤ CS.hs p23.2 := Nat.le_trans h4 mo24
    refine W.widen (k := CS.hs p23.2 - (CS.hs σ)) (n := 17 * (CS.hs p23.2 - (CS.hs σ))) (cAcc2 h4 mo24) (cAcc3 h4 mo24) ?_
    refine lv_aload_n hx hb dX7_endIf_21 rfl (lv_at hl 0 rfl) ?_
    refine lv_iconst (v := 1) hx hb dX7_endIf_22 (by decide) ?_
    refine cP_36 (v := 1) hx hb hts i_X7_endIf_X7 hown hK hC (hts (.fieldLink RX7 61 "StatementRules2$Statements" "alive" "Z") k_X7_endIf_fieldLink_RX7_61_SR_Statements_alive_Z) (fun _ q9 => q9) dX7_endIf_23 (by decide) (fun H locs hC => ?_)
    refine lv_aload_n hx hb dX7_endIf_26 rfl (lv_at hl 0 rfl) ?_
    refine cG_35 hx hb hts i_X7_endIf_X7 hown hK hC (hts (.fieldLink RX7 14 "StatementRules2$Statements" "opens" "LStatementRules2$Opens;") k_X7_endIf_fieldLink_RX7_14_SR_Statements_opens_LSR_Opens) (fun _ q9 => q9) dX7_endIf_27 ?_
    obtain ⟨p27, hcp27, hf⟩ := hf_bind hf
    have mo28 : CS.hs p23.2 ≤ CS.hs p27.2 := Mono.go hcp27 (m_X6_pop N (CS.setI p23.2 36 1))
    have hr9 : CS.hs p27.2 ≤ CS.hs R.2 := Mono.go hf (mono_some (Nat.le_refl _))
    have hFc := cFree hC hA
    refine va_callv (va_runV (As := []) (rest := []) ⟨hx, hb, hml, hown, hts⟩ (c_X6_pop l dC dI Q N (CS.setI p23.2 36 1) p27 hcp27) (cwV 0 hts hX7_endIf_X6_pop_v369 rfl rfl rfl (by decide +kernel) ⟨(show 1 + 1 ≤ 5 by omega), (show 8 + (1 + 11) + 60 * 1 ≤ 60 * 5 by omega)⟩) ⟨zPre.blind, va_recv hK hC.1 (ci := 5) (q0 := 6) rfl rfl, cPre_go hZ hK hC⟩ rfl rfl hl.1 rfl (lv_room (Nat.le_of_ble_eq_true rfl)) dX7_endIf_30 (cAcc h26 mo28 hr9)) hC.2.2.1 (fun q _ h => hFc q h) hFc (fun u9 t9 H1 locs ht hvm hw hB hz1 hk1 hS => ?_)
    obtain ⟨⟨hP, hK1, hD1⟩, hsz1⟩ := hB
    rw [ht] at hP hsz1
    have hC : CP dC dI Q A s.heap p27.2 H1 locs := ⟨hP, hD1.weaken (fun _ _ _ h => hFc _ h), hS, hsz1⟩
    generalize H1 = H at hC ⊢
    have h30 : (CS.hs σ) ≤ CS.hs p27.2 := Nat.le_trans h26 mo28
    refine W.widen (k := CS.hs p27.2 - (CS.hs σ)) (n := 17 * (CS.hs p27.2 - (CS.hs σ))) (cAcc2 h26 mo28) (cAcc3 h26 mo28) ?_
    obtain rfl := Option.some.inj hf
    exact W.vret hx hb hr (fun t ht hW => ⟨⟨(), rfl, trivial, ⟨by rw [ht]; exact hC.1, va_K.moved hW.alike hK, hC.2.1⟩, by rw [ht]; exact hC.2.2.2⟩, hC.2.2.1.F ht⟩) hC.2.2.1.2.2 dX7_endIf_33
theorem i_X6_jumpTo_X5 : ∀ w ∈ wsX50, w ∈ wzX6_jumpTo := fun _ h => List.mem_cons_of_mem _ (List.mem_append_right _ (List.mem_append_left _ (h)))
set_option maxHeartbeats 4000000 in
set_option maxRecDepth 100000 in
theorem c_X6_jumpTo (l : Launch) (dC : Nat → ClassId) (dI : Nat → Nat → Nat) (Q : CQ) (N : Nat) (σ : CS) (x0 : Nat) (x1 : Int32) (R : Int32 × CS) (hf : f_X6_jumpTo N σ x0 x1 = some R) : Met l yX6_jumpTo wzX6_jumpTo ({ frames := 1, cells := CS.hs R.2 - CS.hs σ, slots := 17 * (CS.hs R.2 - CS.hs σ), locals := 60 * 1 }) (va_Pc [.ref x0, .int x1] (zPre dC dI (CS.hs σ) (cW Q σ) (cT Q))) (va_Qi (fun (r : Int32) (_ : Unit) => r = R.1) (fun (_ : Unit) (t : State) => zPost dC dI (va_A (cW Q σ) (CS.hs σ)) (cW Q R.2) (cT Q) t ∧ t.heap.size = CS.hs R.2) (va_A (cW Q σ) (CS.hs σ))) (CS.hs R.2 - CS.hs σ) (17 * (CS.hs R.2 - CS.hs σ)) (va_A (cW Q σ) (CS.hs σ)) := by
  refine Met.ofW (cc := cX6_jumpTo) (maxL := 2) (ret := (some .int)) (by decide) rfl ?_
  intro p e s m args below meth c s₁ B hml hv
  obtain ⟨rfl, hsz, hZ, hP, hK, hD0⟩ := hv
  have hx := B.exec
  have hb := B.bytes
  have hr := B.returns
  have hts := atoms_spec (ws := wzX6_jumpTo) B.pre
  have hown : s.vm.findClass RX6 = some m.cls := findClass_of_methodNamed B.named
  have hlocks := B.notSynchronized
  have hD := hD0.self (sz := CS.hs σ)
  generalize hAe : va_A (cW Q σ) (CS.hs σ) = A at hD ⊢
  have hA : ∀ q : Nat, s.heap.size ≤ q → A q := fun q h => by rw [← hAe]; exact Or.inr (hsz ▸ h)
  have hC : CP dC dI Q A s.heap σ s.heap [] := ⟨hP, hD, va_S.rf, hsz⟩
  have h0 : CS.hs σ ≤ CS.hs σ := Nat.le_refl _
  have hl := lv_entry ([.ref x0, .int x1]) (n := 2) (Nat.le_of_ble_eq_true rfl)
  rw [lg_entry_eq]
  generalize (lg_sl ([.ref x0, .int x1]) ++ List.replicate (2 - (lg_sl ([.ref x0, .int x1])).length) Slot.unset).toArray = ls at hl ⊢
  have hl : lv_has ls 2 [(0, .ref x0), (1, .int x1)] := hl
  unfold f_X6_jumpTo at hf
  refine W.widen (k := CS.hs σ - CS.hs σ) (n := 17 * (CS.hs σ - CS.hs σ)) (Nat.zero_le _) (Nat.zero_le _) ?_
  refine lv_iconst (v := 2) hx hb dX6_jumpTo_0 (by decide) ?_
  refine lv_aload_n hx hb dX6_jumpTo_1 rfl (lv_at hl 0 rfl) ?_
  obtain ⟨b1, hf⟩ := hf_ite hf
  refine pGN_X5_1 (v := (CS.o σ x0 1)) hx hb hts i_X6_jumpTo_X5 hown hK hC (va_Nw.use rfl (hZ.1 (.fieldLinkNest RX6 44 "StatementRules2$Open" "serial" "I" "StatementRules2") (by decide +kernel))) (fun _ q9 => q9) dX6_jumpTo_2 b1 rfl ?_
  refine lv_imul hx hb dX6_jumpTo_5 ?_
  refine lv_iload_n hx hb dX6_jumpTo_6 rfl (lv_at hl 1 rfl) ?_
  refine lv_if_eq (tgt := 14) hx hb dX6_jumpTo_7 (by decide) (fun c2 => ?_) (fun c2 => ?_)
  ·
    replace hf := (if_pos c2).symm.trans hf
    refine lv_iconst (v := 0) hx hb dX6_jumpTo_14 (by decide) ?_
    refine lv_iadd hx hb dX6_jumpTo_15 ?_
    obtain rfl := Option.some.inj hf
    exact W.iret (v := ((2 * (CS.o σ x0 1)) + 0)) hx hb hr (fun t ht hW => ⟨⟨((2 * (CS.o σ x0 1)) + 0), (), rfl, rfl, ⟨by rw [ht]; exact hC.1, va_K.moved hW.alike hK, hC.2.1⟩, by rw [ht]; exact hC.2.2.2⟩, hC.2.2.1.F ht⟩) hC.2.2.1.2.2 dX6_jumpTo_16
  ·
    replace hf := (if_neg c2).symm.trans hf
    refine lv_iconst (v := 1) hx hb dX6_jumpTo_10 (by decide) ?_
    refine lv_goto (tgt := 15) hx hb dX6_jumpTo_11 (by decide) ?_
    refine lv_iadd hx hb dX6_jumpTo_15 ?_
    obtain rfl := Option.some.inj hf
    exact W.iret (v := ((2 * (CS.o σ x0 1)) + 1)) hx hb hr (fun t ht hW => ⟨⟨((2 * (CS.o σ x0 1)) + 1), (), rfl, rfl, ⟨by rw [ht]; exact hC.1, va_K.moved hW.alike hK, hC.2.1⟩, by rw [ht]; exact hC.2.2.2⟩, hC.2.2.1.F ht⟩) hC.2.2.1.2.2 dX6_jumpTo_16
theorem i_X6_isGoneTo_X5 : ∀ w ∈ wsX50, w ∈ wzX6_isGoneTo := fun _ h => List.mem_cons_of_mem _ (List.mem_append_right _ (List.mem_append_left _ (h)))
theorem k_X6_isGoneTo_fieldLink_RX6_28_SR_Opens_jumpCount_I : Cond.fieldLink RX6 28 "StatementRules2$Opens" "jumpCount" "I" ∈ wzX6_isGoneTo := List.mem_cons_of_mem _ (List.mem_append_left _ (List.mem_of_getElem? (i := 0) rfl))
theorem i_X6_isGoneTo_X6 : ∀ w ∈ wsX60, w ∈ wzX6_isGoneTo := fun _ h => List.mem_cons_of_mem _ (List.mem_append_right _ (List.mem_append_right _ (List.mem_append_left _ (h))))
theorem k_X6_isGoneTo_fieldLink_RX6_17_SR_Opens_jumps_I : Cond.fieldLink RX6 17 "StatementRules2$Opens" "jumps" "[I" ∈ wzX6_isGoneTo := List.mem_cons_of_mem _ (List.mem_append_left _ (List.mem_of_getElem? (i := 1) rfl))
theorem k_X6_isGoneTo_initialized_RX11 : Cond.initialized RX11 ∈ wzX6_isGoneTo := List.mem_cons_of_mem _ (List.mem_append_left _ (List.mem_of_getElem? (i := 2) rfl))
theorem k_X6_isGoneTo_static_yX11_at : Cond.static yX11_at ∈ wzX6_isGoneTo := List.mem_cons_of_mem _ (List.mem_append_left _ (List.mem_of_getElem? (i := 3) rfl))
set_option maxHeartbeats 4000000 in
set_option maxRecDepth 100000 in
theorem j_X6_isGoneTo_5 {p : Program} {e : Env} {s : State} {m : MethodId} {args : Array Value} {below : List Frame} {meth : Method} {c : Code} {A : Nat → Prop} (l : Launch) (dC : Nat → ClassId) (dI : Nat → Nat → Nat) (Q : CQ) (N : Nat) (z9h : Nat) (R : Int32 × CS) (hx : p.tables.exec = Jvm.exec) (hb : c.code = cX6_isGoneTo) (hr : meth.sig.returnType = (some .boolean)) (hml : c.maxLocals = 4) (hown : s.vm.findClass RX6 = some m.cls) (hts : ∀ w ∈ wzX6_isGoneTo, w.before args s = true) (hlocks : meth.locks = false) (hZ : zAMB s) (hA : ∀ q : Nat, s.heap.size ≤ q → A q) (hK : va_K (dC, dI) vwCl (cT Q) s) : ∀ (n9 : Nat), ∀ (σ : CS) (x1 : Nat) (x2 : Int32) (x3 : Int32) (H : Heap) (locs : List Loc) (ls : Array Slot), f_X6_isGoneTo_5 N n9 σ x1 x2 x3 = some R → z9h ≤ CS.hs σ → CP dC dI Q A s.heap σ H locs → lv_has ls 4 [(0, .ref (Q.o 6)), (1, .ref x1), (2, .int x2), (3, .int x3)] → W p l e ({ frames := 2, cells := CS.hs R.2 - z9h, slots := 17 * (CS.hs R.2 - z9h), locals := 60 * 2 }) s m args below meth c H locs (CS.hs σ - z9h) (17 * (CS.hs σ - z9h)) (MQ below (va_Qi (fun (r : Int32) (_ : Unit) => r = R.1) (fun (_ : Unit) (t : State) => zPost dC dI A (cW Q R.2) (cT Q) t ∧ t.heap.size = CS.hs R.2) A) args s (CS.hs R.2 - z9h) (17 * (CS.hs R.2 - z9h)) A) (F0 m 5 ls []) := by
  intro n9
  induction n9 with
  | zero => intro σ x1 x2 x3 H locs ls hf; exact absurd hf (by intro q9; cases q9)
  | succ n9 ih =>
    intro σ x1 x2 x3 H locs ls hf h0 hC hl
    replace hf : b_X6_isGoneTo_5 N (f_X6_isGoneTo_5 N n9) σ x1 x2 x3 = some R := hf
    unfold b_X6_isGoneTo_5 at hf
    have hMK := fun (σ : CS) (x1 : Nat) (x2 : Int32) (x3 : Int32) => m_X6_isGoneTo_5 N n9 σ x1 x2 x3
    refine lv_iload_n hx hb dX6_isGoneTo_5 rfl (lv_at hl 3 rfl) ?_
    refine lv_aload_n hx hb dX6_isGoneTo_6 rfl (lv_at hl 0 rfl) ?_
    refine cG_55 (v := (σ.i 55)) hx hb hts i_X6_isGoneTo_X6 hown hK hC (hts (.fieldLink RX6 28 "StatementRules2$Opens" "jumpCount" "I") k_X6_isGoneTo_fieldLink_RX6_28_SR_Opens_jumpCount_I) (fun _ q9 => q9) dX6_isGoneTo_7 rfl ?_
    refine lv_icmp_ge (tgt := 37) hx hb dX6_isGoneTo_10 (by decide) (fun c2 => ?_) (fun c2 => ?_)
    ·
      replace hf := (if_pos c2).symm.trans hf
      refine lv_iconst (v := 0) hx hb dX6_isGoneTo_37 (by decide) ?_
      obtain rfl := Option.some.inj hf
      exact W.zret (v := 0) hx hb hr (rfl) (fun t ht hW => ⟨⟨0, (), rfl, rfl, ⟨by rw [ht]; exact hC.1, va_K.moved hW.alike hK, hC.2.1⟩, by rw [ht]; exact hC.2.2.2⟩, hC.2.2.1.F ht⟩) hC.2.2.1.2.2 dX6_isGoneTo_38
    ·
      replace hf := (if_neg c2).symm.trans hf
      refine lv_aload_n hx hb dX6_isGoneTo_13 rfl (lv_at hl 0 rfl) ?_
      refine cG_52 hx hb hts i_X6_isGoneTo_X6 hown hK hC (hts (.fieldLink RX6 17 "StatementRules2$Opens" "jumps" "[I") k_X6_isGoneTo_fieldLink_RX6_17_SR_Opens_jumps_I) (fun _ q9 => q9) dX6_isGoneTo_14 ?_
      refine lv_iload_n hx hb dX6_isGoneTo_17 rfl (lv_at hl 3 rfl) ?_
      have he9 := (cArr_52 (Q := Q) (σ := σ))
      have hFc := cFree1 hC hA he9
      have hr9 : CS.hs σ ≤ CS.hs R.2 := Mono.go hf (mono_bind (m_X6_jumpTo N σ x1 x2) (fun p4 => (mono_ite (mono_some (Nat.le_refl _)) (hMK p4.2 x1 x2 (x3 + 1)))))
      refine va_calli (va_runSN (As := [.ref (Q.q 52), .int x3]) (rest := []) ⟨hx, hb, hml, hown, hts⟩ (c_X11_at l dC dI _ (Q.q 52) (Q.c 0) 160 (σ.a 52) x3 (by decide)) ⟨va_cnB 2 hts hX6_isGoneTo_X11_at_n104 rfl rfl rfl (hZ.1 (.methodLinkNest RX6 104 yX11_at "StatementRules2") (by decide +kernel)) (hts (.initialized RX11) k_X6_isGoneTo_initialized_RX11) (by decide +kernel) ⟨(show 1 + 1 ≤ 2 by omega), (show 8 + (2 + 11) + 60 * 1 ≤ 60 * 2 by omega)⟩, (hts (.static yX11_at) k_X6_isGoneTo_static_yX11_at), trivial⟩ ⟨zPre.blind, zPre.go hZ (cOne hC.1 he9) (hK.sub (tys' := [(Q.c 0, .int)]) [0] rfl) (cOneD hC.2.1 he9)⟩ rfl rfl hl.1 rfl (lv_room (Nat.le_of_ble_eq_true rfl)) dX6_isGoneTo_18 ⟨cAcc4 h0 hr9, cAcc5 h0 hr9⟩) hC.2.2.1 (fun q _ h => hFc q h) hFc (fun r3 u9 t9 H1 locs ht hvm hw hB hz1 hk1 hS => ?_)
      obtain ⟨⟨hP1, hK1, hD1⟩, hsz1⟩ := hB
      rw [ht] at hP1 hsz1
      have hC := cBack (σ' := σ) hC he9 (cSelf he9) (Eq.refl (CS.hs σ)) hk1 hP1 hsz1 hS
      generalize H1 = H at hC ⊢
      obtain rfl : r3 = (gAt (σ.a 52) 160 x3) := hw
      refine lv_aload_n hx hb dX6_isGoneTo_21 rfl (lv_at hl 1 rfl) ?_
      refine lv_iload_n hx hb dX6_isGoneTo_22 rfl (lv_at hl 2 rfl) ?_
      obtain ⟨p4, hcp4, hf⟩ := hf_bind hf
      have mo5 : CS.hs σ ≤ CS.hs p4.2 := Mono.go hcp4 (m_X6_jumpTo N σ x1 x2)
      have hr9 : CS.hs p4.2 ≤ CS.hs R.2 := Mono.go hf (mono_ite (mono_some (Nat.le_refl _)) (hMK p4.2 x1 x2 (x3 + 1)))
      have hFc := cFree hC hA
      refine va_calli (va_runS (As := [.ref x1, .int x2]) (rest := [.int (gAt (σ.a 52) 160 x3)]) ⟨hx, hb, hml, hown, hts⟩ (c_X6_jumpTo l dC dI Q N σ x1 x2 p4 hcp4) (va_cwS 2 hts hX6_isGoneTo_X6_jumpTo_s96 rfl rfl rfl (by decide +kernel) ⟨(show 1 + 1 ≤ 2 by omega), (show 8 + (2 + 11) + 60 * 1 ≤ 60 * 2 by omega)⟩) ⟨zPre.blind, cPre_go hZ hK hC⟩ rfl rfl hl.1 rfl (lv_room (Nat.le_of_ble_eq_true rfl)) dX6_isGoneTo_23 (cAcc h0 mo5 hr9)) hC.2.2.1 (fun q _ h => hFc q h) hFc (fun r6 u9 t9 H1 locs ht hvm hw hB hz1 hk1 hS => ?_)
      obtain ⟨⟨hP, hK1, hD1⟩, hsz1⟩ := hB
      rw [ht] at hP hsz1
      have hC : CP dC dI Q A s.heap p4.2 H1 locs := ⟨hP, hD1.weaken (fun _ _ _ h => hFc _ h), hS, hsz1⟩
      generalize H1 = H at hC ⊢
      have h7 : z9h ≤ CS.hs p4.2 := Nat.le_trans h0 mo5
      refine W.widen (k := CS.hs p4.2 - z9h) (n := 17 * (CS.hs p4.2 - z9h)) (cAcc2 h0 mo5) (cAcc3 h0 mo5) ?_
      obtain rfl : r6 = p4.1 := hw
      refine lv_icmp_ne (tgt := 31) hx hb dX6_isGoneTo_26 (by decide) (fun c8 => ?_) (fun c8 => ?_)
      ·
        replace hf := (if_neg c8).symm.trans hf
        refine lv_iinc (v := (x3 + 1)) (lv' := [(3, .int (x3 + 1)), (0, .ref (Q.o 6)), (1, .ref x1), (2, .int x2)]) hx hb dX6_isGoneTo_31 hl (k := 3) rfl rfl (by decide) rfl (fun ls hl => ?_)
        refine lv_goto (tgt := 5) hx hb dX6_isGoneTo_34 (by decide) ?_
        exact ih p4.2 x1 x2 (x3 + 1) _ _ _ hf h7 hC (lv_sub hl [1, 2, 3, 0] rfl)
      ·
        replace hf := (if_pos c8).symm.trans hf
        refine lv_iconst (v := 1) hx hb dX6_isGoneTo_29 (by decide) ?_
        obtain rfl := Option.some.inj hf
        exact W.zret (v := 1) hx hb hr (rfl) (fun t ht hW => ⟨⟨1, (), rfl, rfl, ⟨by rw [ht]; exact hC.1, va_K.moved hW.alike hK, hC.2.1⟩, by rw [ht]; exact hC.2.2.2⟩, hC.2.2.1.F ht⟩) hC.2.2.1.2.2 dX6_isGoneTo_30
set_option maxHeartbeats 4000000 in
set_option maxRecDepth 100000 in
theorem c_X6_isGoneTo (l : Launch) (dC : Nat → ClassId) (dI : Nat → Nat → Nat) (Q : CQ) (N : Nat) (σ : CS) (x1 : Nat) (x2 : Int32) (R : Int32 × CS) (hf : f_X6_isGoneTo N σ x1 x2 = some R) : Met l yX6_isGoneTo wzX6_isGoneTo ({ frames := 2, cells := CS.hs R.2 - CS.hs σ, slots := 17 * (CS.hs R.2 - CS.hs σ), locals := 60 * 2 }) (va_Pc [.ref (Q.o 6), .ref x1, .int x2] (zPre dC dI (CS.hs σ) (cW Q σ) (cT Q))) (va_Qi (fun (r : Int32) (_ : Unit) => r = R.1) (fun (_ : Unit) (t : State) => zPost dC dI (va_A (cW Q σ) (CS.hs σ)) (cW Q R.2) (cT Q) t ∧ t.heap.size = CS.hs R.2) (va_A (cW Q σ) (CS.hs σ))) (CS.hs R.2 - CS.hs σ) (17 * (CS.hs R.2 - CS.hs σ)) (va_A (cW Q σ) (CS.hs σ)) := by
  refine Met.ofW (cc := cX6_isGoneTo) (maxL := 4) (ret := (some .boolean)) (by decide) rfl ?_
  intro p e s m args below meth c s₁ B hml hv
  obtain ⟨rfl, hsz, hZ, hP, hK, hD0⟩ := hv
  have hx := B.exec
  have hb := B.bytes
  have hr := B.returns
  have hts := atoms_spec (ws := wzX6_isGoneTo) B.pre
  have hown : s.vm.findClass RX6 = some m.cls := findClass_of_methodNamed B.named
  have hlocks := B.notSynchronized
  have hD := hD0.self (sz := CS.hs σ)
  generalize hAe : va_A (cW Q σ) (CS.hs σ) = A at hD ⊢
  have hA : ∀ q : Nat, s.heap.size ≤ q → A q := fun q h => by rw [← hAe]; exact Or.inr (hsz ▸ h)
  have hC : CP dC dI Q A s.heap σ s.heap [] := ⟨hP, hD, va_S.rf, hsz⟩
  have h0 : CS.hs σ ≤ CS.hs σ := Nat.le_refl _
  have hl := lv_entry ([.ref (Q.o 6), .ref x1, .int x2]) (n := 4) (Nat.le_of_ble_eq_true rfl)
  rw [lg_entry_eq]
  generalize (lg_sl ([.ref (Q.o 6), .ref x1, .int x2]) ++ List.replicate (4 - (lg_sl ([.ref (Q.o 6), .ref x1, .int x2])).length) Slot.unset).toArray = ls at hl ⊢
  have hl : lv_has ls 4 [(0, .ref (Q.o 6)), (1, .ref x1), (2, .int x2)] := hl
  unfold f_X6_isGoneTo at hf
  refine W.widen (k := CS.hs σ - CS.hs σ) (n := 17 * (CS.hs σ - CS.hs σ)) (Nat.zero_le _) (Nat.zero_le _) ?_
  refine lv_aload_n hx hb dX6_isGoneTo_0 rfl (lv_at hl 1 rfl) ?_
  obtain ⟨b1, hf⟩ := hf_ite hf
  refine pGN_X5_14 (v := (CS.o σ x1 14)) hx hb hts i_X6_isGoneTo_X5 hown hK hC (va_Nw.use rfl (hZ.1 (.fieldLinkNest RX6 82 "StatementRules2$Open" "firstJump" "I" "StatementRules2") (by decide +kernel))) (fun _ q9 => q9) dX6_isGoneTo_1 b1 rfl ?_
  refine lv_istore_n (lv' := [(3, .int (CS.o σ x1 14)), (0, .ref (Q.o 6)), (1, .ref x1), (2, .int x2)]) hx hb dX6_isGoneTo_4 rfl hl (by decide) rfl (fun ls hl => ?_)
  exact j_X6_isGoneTo_5 l dC dI Q N (CS.hs σ) R hx hb hr hml hown hts hlocks hZ hA hK N σ x1 x2 (CS.o σ x1 14) _ _ _ hf h0 hC (lv_sub hl [1, 2, 3, 0] rfl)
theorem k_X1_conjunction_fieldLink_RX1_22_SR_Formulas_code_LSR_Code : Cond.fieldLink RX1 22 "StatementRules2$Formulas" "code" "LStatementRules2$Code;" ∈ wzX1_conjunction := List.mem_cons_of_mem _ (List.mem_append_right _ (List.mem_append_right _ (List.mem_append_right _ (List.mem_append_right _ (List.mem_append_right _ (List.mem_append_left _ (List.mem_of_getElem? (i := 0) rfl)))))))
theorem i_X1_conjunction_X7 : ∀ w ∈ wsX70, w ∈ wzX1_conjunction := fun _ h => List.mem_cons_of_mem _ (List.mem_append_right _ (List.mem_append_right _ (List.mem_append_right _ (List.mem_append_right _ (List.mem_append_right _ (List.mem_append_right _ (List.mem_append_right _ (List.mem_append_right _ (List.mem_append_right _ (List.mem_append_right _ (List.mem_append_right _ (List.mem_append_right _ (List.mem_append_right _ (List.mem_append_right _ (List.mem_append_right _ (List.mem_append_right _ (List.mem_append_right _ (List.mem_append_right _ (List.mem_append_right _ (List.mem_append_right _ (List.mem_append_right _ (List.mem_append_right _ (List.mem_append_right _ (List.mem_append_right _ (List.mem_append_right _ (List.mem_append_right _ (List.mem_append_right _ (List.mem_append_right _ (List.mem_append_right _ (List.mem_append_right _ (List.mem_append_right _ (List.mem_append_right _ (List.mem_append_right _ (List.mem_append_right _ (List.mem_append_right _ (List.mem_append_right _ (List.mem_append_left _ (h))))))))))))))))))))))))))))))))))))))
set_option maxHeartbeats 4000000 in
set_option maxRecDepth 100000 in
theorem j_X1_conjunction_65 {p : Program} {e : Env} {s : State} {m : MethodId} {args : Array Value} {below : List Frame} {meth : Method} {c : Code} {A : Nat → Prop} (l : Launch) (dC : Nat → ClassId) (dI : Nat → Nat → Nat) (Q : CQ) (N : Nat) (d : Nat) (E1 : CS → Option (Unit × CS)) (E2 : CS → Option (Int32 × CS)) (hE1 : cMF l dC dI Q d E1) (hE2 : cMO l dC dI Q d E2) (hm1 : ∀ σ, Mono (CS.hs σ) (E1 σ)) (hm2 : ∀ σ, Mono (CS.hs σ) (E2 σ)) (z9h : Nat) (R : Int32 × CS) (hx : p.tables.exec = Jvm.exec) (hb : c.code = cX1_conjunction) (hr : meth.sig.returnType = (some .boolean)) (hml : c.maxLocals = 4) (hown : s.vm.findClass RX1 = some m.cls) (hts : ∀ w ∈ wzX1_conjunction, w.before args s = true) (hlocks : meth.locks = false) (hZ : zAMB s) (hA : ∀ q : Nat, s.heap.size ≤ q → A q) (hK : va_K (dC, dI) vwCl (cT Q) s) : ∀ (σ : CS) (x2 : Int32) (H : Heap) (locs : List Loc) (ls : Array Slot), f_X1_conjunction_65 N E1 E2 σ x2 = some R → z9h ≤ CS.hs σ → CP dC dI Q A s.heap σ H locs → lv_has ls 4 [(0, .ref (Q.o 3)), (2, .int x2)] → W p l e ({ frames := (11 + 40 * d), cells := CS.hs R.2 - z9h, slots := 17 * (CS.hs R.2 - z9h), locals := 60 * (11 + 40 * d) }) s m args below meth c H locs (CS.hs σ - z9h) (17 * (CS.hs σ - z9h)) (MQ below (va_Qi (fun (r : Int32) (_ : Unit) => r = R.1) (fun (_ : Unit) (t : State) => zPost dC dI A (cW Q R.2) (cT Q) t ∧ t.heap.size = CS.hs R.2) A) args s (CS.hs R.2 - z9h) (17 * (CS.hs R.2 - z9h)) A) (F0 m 65 ls []) := by
  intro σ x2 H locs ls hf h0 hC hl
  unfold f_X1_conjunction_65 at hf
  refine lv_aload_n hx hb dX1_conjunction_65 rfl (lv_at hl 0 rfl) ?_
  refine cG_29 hx hb hts i_X1_conjunction_X7 hown hK hC (hts (.fieldLink RX1 22 "StatementRules2$Formulas" "code" "LStatementRules2$Code;") k_X1_conjunction_fieldLink_RX1_22_SR_Formulas_code_LSR_Code) (fun _ q9 => q9) dX1_conjunction_66 ?_
  refine lv_iload_n hx hb dX1_conjunction_69 rfl (lv_at hl 1 rfl) ?_
  obtain ⟨p15, hcp15, hf⟩ := hf_bind hf
  have mo16 : CS.hs σ ≤ CS.hs p15.2 := Mono.go hcp15 (m_X0_aim N σ x2)
  have hr9 : CS.hs p15.2 ≤ CS.hs R.2 := Mono.go hf (mono_some (Nat.le_refl _))
  have hFc := cFree hC hA
  refine va_callv (va_runV (As := [.int x2]) (rest := []) ⟨hx, hb, hml, hown, hts⟩ (c_X0_aim l dC dI Q N σ x2 p15 hcp15) (cwV 1 hts hX1_conjunction_X0_aim_v121 rfl rfl rfl (by decide +kernel) ⟨(show 2 + 1 ≤ (11 + 40 * d) by omega), (show 8 + (2 + 11) + 60 * 2 ≤ 60 * (11 + 40 * d) by omega)⟩) ⟨zPre.blind, va_recv hK hC.1 (ci := 0) (q0 := 2) rfl rfl, cPre_go hZ hK hC⟩ rfl rfl hl.1 rfl (lv_room (Nat.le_of_ble_eq_true rfl)) dX1_conjunction_70 (cAcc h0 mo16 hr9)) hC.2.2.1 (fun q _ h => hFc q h) hFc (fun u9 t9 H1 locs ht hvm hw hB hz1 hk1 hS => ?_)
  obtain ⟨⟨hP, hK1, hD1⟩, hsz1⟩ := hB
  rw [ht] at hP hsz1
  have hC : CP dC dI Q A s.heap p15.2 H1 locs := ⟨hP, hD1.weaken (fun _ _ _ h => hFc _ h), hS, hsz1⟩
  generalize H1 = H at hC ⊢
  have h18 : z9h ≤ CS.hs p15.2 := Nat.le_trans h0 mo16
  refine W.widen (k := CS.hs p15.2 - z9h) (n := 17 * (CS.hs p15.2 - z9h)) (cAcc2 h0 mo16) (cAcc3 h0 mo16) ?_
  refine lv_iconst (v := 0) hx hb dX1_conjunction_73 (by decide) ?_
  obtain rfl := Option.some.inj hf
  exact W.zret (v := 0) hx hb hr (rfl) (fun t ht hW => ⟨⟨0, (), rfl, rfl, ⟨by rw [ht]; exact hC.1, va_K.moved hW.alike hK, hC.2.1⟩, by rw [ht]; exact hC.2.2.2⟩, hC.2.2.1.F ht⟩) hC.2.2.1.2.2 dX1_conjunction_74
set_option maxHeartbeats 4000000 in
set_option maxRecDepth 100000 in
theorem j_X1_conjunction_27 {p : Program} {e : Env} {s : State} {m : MethodId} {args : Array Value} {below : List Frame} {meth : Method} {c : Code} {A : Nat → Prop} (l : Launch) (dC : Nat → ClassId) (dI : Nat → Nat → Nat) (Q : CQ) (N : Nat) (d : Nat) (E1 : CS → Option (Unit × CS)) (E2 : CS → Option (Int32 × CS)) (hE1 : cMF l dC dI Q d E1) (hE2 : cMO l dC dI Q d E2) (hm1 : ∀ σ, Mono (CS.hs σ) (E1 σ)) (hm2 : ∀ σ, Mono (CS.hs σ) (E2 σ)) (z9h : Nat) (R : Int32 × CS) (hx : p.tables.exec = Jvm.exec) (hb : c.code = cX1_conjunction) (hr : meth.sig.returnType = (some .boolean)) (hml : c.maxLocals = 4) (hown : s.vm.findClass RX1 = some m.cls) (hts : ∀ w ∈ wzX1_conjunction, w.before args s = true) (hlocks : meth.locks = false) (hZ : zAMB s) (hA : ∀ q : Nat, s.heap.size ≤ q → A q) (hK : va_K (dC, dI) vwCl (cT Q) s) : ∀ (n9 : Nat), ∀ (σ : CS) (x2 : Int32) (x3 : Int32) (H : Heap) (locs : List Loc) (ls : Array Slot), f_X1_conjunction_27 N E1 E2 n9 σ x2 x3 = some R → z9h ≤ CS.hs σ → CP dC dI Q A s.heap σ H locs → lv_has ls 4 [(0, .ref (Q.o 3)), (2, .int x2), (3, .int x3)] → W p l e ({ frames := (11 + 40 * d), cells := CS.hs R.2 - z9h, slots := 17 * (CS.hs R.2 - z9h), locals := 60 * (11 + 40 * d) }) s m args below meth c H locs (CS.hs σ - z9h) (17 * (CS.hs σ - z9h)) (MQ below (va_Qi (fun (r : Int32) (_ : Unit) => r = R.1) (fun (_ : Unit) (t : State) => zPost dC dI A (cW Q R.2) (cT Q) t ∧ t.heap.size = CS.hs R.2) A) args s (CS.hs R.2 - z9h) (17 * (CS.hs R.2 - z9h)) A) (F0 m 27 ls []) := by
  intro n9
  induction n9 with
  | zero => intro σ x2 x3 H locs ls hf; exact absurd hf (by intro q9; cases q9)
  | succ n9 ih =>
    intro σ x2 x3 H locs ls hf h0 hC hl
    replace hf : b_X1_conjunction_27 N E1 E2 (f_X1_conjunction_27 N E1 E2 n9) σ x2 x3 = some R := hf
    unfold b_X1_conjunction_27 at hf
    have hMK := fun (σ : CS) (x2 : Int32) (x3 : Int32) => m_X1_conjunction_27 N E1 E2 hm1 hm2 n9 σ x2 x3
    refine lv_iload_n hx hb dX1_conjunction_27 rfl (lv_at hl 2 rfl) ?_
    refine lv_sipush (v := 900) hx hb dX1_conjunction_28 (by decide) ?_
    refine lv_icmp_ge (tgt := 65) hx hb dX1_conjunction_31 (by decide) (fun c14 => ?_) (fun c14 => ?_)
    ·
      replace hf := (if_pos c14).symm.trans hf
      exact j_X1_conjunction_65 l dC dI Q N d E1 E2 hE1 hE2 hm1 hm2 z9h R hx hb hr hml hown hts hlocks hZ hA hK σ x2 _ _ _ hf h0 hC (lv_sub hl [0, 1] rfl)
    ·
      replace hf := (if_neg c14).symm.trans hf
      refine lv_aload_n hx hb dX1_conjunction_34 rfl (lv_at hl 0 rfl) ?_
      refine lv_sipush (v := 132) hx hb dX1_conjunction_35 (by decide) ?_
      obtain ⟨p19, hcp19, hf⟩ := hf_bind hf
      have mo20 : CS.hs σ ≤ CS.hs p19.2 := Mono.go hcp19 (m_X1_skip N σ 132)
      have hr9 : CS.hs p19.2 ≤ CS.hs R.2 := Mono.go hf (mono_ite (m_X1_conjunction_65 N E1 E2 hm1 hm2 p19.2 x2) (mono_bind (m_X0_add N p19.2 32 x2) (fun p24 => (mono_bind (hm2 p24.2) (fun p28 => (hMK p28.2 x2 (x3 + 1)))))))
      have hFc := cFree hC hA
      refine va_calli (va_runU (As := [.int 132]) (rest := []) ⟨hx, hb, hml, hown, hts⟩ (c_X1_skip l dC dI Q N σ 132 p19 hcp19) (va_cwU 1 hts hX1_conjunction_X1_skip_u130 rfl rfl rfl rfl (by decide +kernel) ⟨(show 4 + 1 ≤ (11 + 40 * d) by omega), (show 8 + (3 + 11) + 60 * 4 ≤ 60 * (11 + 40 * d) by omega)⟩) ⟨zPre.blind, va_recv hK hC.1 (ci := 6) (q0 := 3) rfl rfl, cPre_go hZ hK hC⟩ rfl rfl hl.1 rfl (lv_room (Nat.le_of_ble_eq_true rfl)) dX1_conjunction_38 (cAcc h0 mo20 hr9)) hC.2.2.1 (fun q _ h => hFc q h) hFc (fun r21 u9 t9 H1 locs ht hvm hw hB hz1 hk1 hS => ?_)
      obtain ⟨⟨hP, hK1, hD1⟩, hsz1⟩ := hB
      rw [ht] at hP hsz1
      have hC : CP dC dI Q A s.heap p19.2 H1 locs := ⟨hP, hD1.weaken (fun _ _ _ h => hFc _ h), hS, hsz1⟩
      generalize H1 = H at hC ⊢
      have h22 : z9h ≤ CS.hs p19.2 := Nat.le_trans h0 mo20
      refine W.widen (k := CS.hs p19.2 - z9h) (n := 17 * (CS.hs p19.2 - z9h)) (cAcc2 h0 mo20) (cAcc3 h0 mo20) ?_
      obtain rfl : r21 = p19.1 := hw
      refine lv_if_eq (tgt := 65) hx hb dX1_conjunction_41 (by decide) (fun c23 => ?_) (fun c23 => ?_)
      ·
        replace hf := (if_pos c23).symm.trans hf
        exact j_X1_conjunction_65 l dC dI Q N d E1 E2 hE1 hE2 hm1 hm2 z9h R hx hb hr hml hown hts hlocks hZ hA hK p19.2 x2 _ _ _ hf h22 hC (lv_sub hl [0, 1] rfl)
      ·
        replace hf := (if_neg c23).symm.trans hf
        refine lv_aload_n hx hb dX1_conjunction_44 rfl (lv_at hl 0 rfl) ?_
        refine cG_29 hx hb hts i_X1_conjunction_X7 hown hK hC (hts (.fieldLink RX1 22 "StatementRules2$Formulas" "code" "LStatementRules2$Code;") k_X1_conjunction_fieldLink_RX1_22_SR_Formulas_code_LSR_Code) (fun _ q9 => q9) dX1_conjunction_45 ?_
        refine lv_bipush (v := 32) hx hb dX1_conjunction_48 (by decide) ?_
        refine lv_iload_n hx hb dX1_conjunction_50 rfl (lv_at hl 1 rfl) ?_
        obtain ⟨p24, hcp24, hf⟩ := hf_bind hf
        have mo25 : CS.hs p19.2 ≤ CS.hs p24.2 := Mono.go hcp24 (m_X0_add N p19.2 32 x2)
        have hr9 : CS.hs p24.2 ≤ CS.hs R.2 := Mono.go hf (mono_bind (hm2 p24.2) (fun p28 => (hMK p28.2 x2 (x3 + 1))))
        have hFc := cFree hC hA
        refine va_callv (va_runV (As := [.int 32, .int x2]) (rest := []) ⟨hx, hb, hml, hown, hts⟩ (c_X0_add l dC dI Q N p19.2 32 x2 p24 hcp24) (cwV 2 hts hX1_conjunction_X0_add_v68 rfl rfl rfl (by decide +kernel) ⟨(show 2 + 1 ≤ (11 + 40 * d) by omega), (show 8 + (3 + 11) + 60 * 2 ≤ 60 * (11 + 40 * d) by omega)⟩) ⟨zPre.blind, va_recv hK hC.1 (ci := 0) (q0 := 2) rfl rfl, cPre_go hZ hK hC⟩ rfl rfl hl.1 rfl (lv_room (Nat.le_of_ble_eq_true rfl)) dX1_conjunction_51 (cAcc h22 mo25 hr9)) hC.2.2.1 (fun q _ h => hFc q h) hFc (fun u9 t9 H1 locs ht hvm hw hB hz1 hk1 hS => ?_)
        obtain ⟨⟨hP, hK1, hD1⟩, hsz1⟩ := hB
        rw [ht] at hP hsz1
        have hC : CP dC dI Q A s.heap p24.2 H1 locs := ⟨hP, hD1.weaken (fun _ _ _ h => hFc _ h), hS, hsz1⟩
        generalize H1 = H at hC ⊢
        have h27 : z9h ≤ CS.hs p24.2 := Nat.le_trans h22 mo25
        refine W.widen (k := CS.hs p24.2 - z9h) (n := 17 * (CS.hs p24.2 - z9h)) (cAcc2 h22 mo25) (cAcc3 h22 mo25) ?_
        refine lv_aload_n hx hb dX1_conjunction_54 rfl (lv_at hl 0 rfl) ?_
        obtain ⟨p28, hcp28, hf⟩ := hf_bind hf
        have mo29 : CS.hs p24.2 ≤ CS.hs p28.2 := Mono.go hcp28 (hm2 p24.2)
        have hr9 : CS.hs p28.2 ≤ CS.hs R.2 := Mono.go hf (hMK p28.2 x2 (x3 + 1))
        have hFc := cFree hC hA
        refine va_calli (va_runU (As := []) (rest := []) ⟨hx, hb, hml, hown, hts⟩ (hE2 p24.2 p28 hcp28) (va_cwU 0 hts hX1_conjunction_X1_one_u150 rfl rfl rfl rfl (by decide +kernel) ⟨(show (10 + 40 * d) + 1 ≤ (11 + 40 * d) by omega), (show 8 + (1 + 11) + 60 * (10 + 40 * d) ≤ 60 * (11 + 40 * d) by omega)⟩) ⟨zPre.blind, va_recv hK hC.1 (ci := 6) (q0 := 3) rfl rfl, cPre_go hZ hK hC⟩ rfl rfl hl.1 rfl (lv_room (Nat.le_of_ble_eq_true rfl)) dX1_conjunction_55 (cAcc h27 mo29 hr9)) hC.2.2.1 (fun q _ h => hFc q h) hFc (fun r30 u9 t9 H1 locs ht hvm hw hB hz1 hk1 hS => ?_)
        obtain ⟨⟨hP, hK1, hD1⟩, hsz1⟩ := hB
        rw [ht] at hP hsz1
        have hC : CP dC dI Q A s.heap p28.2 H1 locs := ⟨hP, hD1.weaken (fun _ _ _ h => hFc _ h), hS, hsz1⟩
        generalize H1 = H at hC ⊢
        have h31 : z9h ≤ CS.hs p28.2 := Nat.le_trans h27 mo29
        refine W.widen (k := CS.hs p28.2 - z9h) (n := 17 * (CS.hs p28.2 - z9h)) (cAcc2 h27 mo29) (cAcc3 h27 mo29) ?_
        obtain rfl : r30 = p28.1 := hw
        refine lv_pop hx hb dX1_conjunction_58 rfl ?_
        refine lv_iinc (v := (x3 + 1)) (lv' := [(3, .int (x3 + 1)), (0, .ref (Q.o 3)), (2, .int x2)]) hx hb dX1_conjunction_59 hl (k := 2) rfl rfl (by decide) rfl (fun ls hl => ?_)
        refine lv_goto (tgt := 27) hx hb dX1_conjunction_62 (by decide) ?_
        exact ih p28.2 x2 (x3 + 1) _ _ _ hf h31 hC (lv_sub hl [1, 2, 0] rfl)
set_option maxHeartbeats 4000000 in
set_option maxRecDepth 100000 in
theorem c_X1_conjunction (l : Launch) (dC : Nat → ClassId) (dI : Nat → Nat → Nat) (Q : CQ) (N : Nat) (d : Nat) (E1 : CS → Option (Unit × CS)) (E2 : CS → Option (Int32 × CS)) (hE1 : cMF l dC dI Q d E1) (hE2 : cMO l dC dI Q d E2) (hm1 : ∀ σ, Mono (CS.hs σ) (E1 σ)) (hm2 : ∀ σ, Mono (CS.hs σ) (E2 σ)) (σ : CS) (R : Int32 × CS) (hf : f_X1_conjunction N E1 E2 σ = some R) : Met l yX1_conjunction wzX1_conjunction ({ frames := (11 + 40 * d), cells := CS.hs R.2 - CS.hs σ, slots := 17 * (CS.hs R.2 - CS.hs σ), locals := 60 * (11 + 40 * d) }) (va_Pc [.ref (Q.o 3)] (zPre dC dI (CS.hs σ) (cW Q σ) (cT Q))) (va_Qi (fun (r : Int32) (_ : Unit) => r = R.1) (fun (_ : Unit) (t : State) => zPost dC dI (va_A (cW Q σ) (CS.hs σ)) (cW Q R.2) (cT Q) t ∧ t.heap.size = CS.hs R.2) (va_A (cW Q σ) (CS.hs σ))) (CS.hs R.2 - CS.hs σ) (17 * (CS.hs R.2 - CS.hs σ)) (va_A (cW Q σ) (CS.hs σ)) := by
  refine Met.ofW (cc := cX1_conjunction) (maxL := 4) (ret := (some .boolean)) (by decide) rfl ?_
  intro p e s m args below meth c s₁ B hml hv
  obtain ⟨rfl, hsz, hZ, hP, hK, hD0⟩ := hv
  have hx := B.exec
  have hb := B.bytes
  have hr := B.returns
  have hts := atoms_spec (ws := wzX1_conjunction) B.pre
  have hown : s.vm.findClass RX1 = some m.cls := findClass_of_methodNamed B.named
  have hlocks := B.notSynchronized
  have hD := hD0.self (sz := CS.hs σ)
  generalize hAe : va_A (cW Q σ) (CS.hs σ) = A at hD ⊢
  have hA : ∀ q : Nat, s.heap.size ≤ q → A q := fun q h => by rw [← hAe]; exact Or.inr (hsz ▸ h)
  have hC : CP dC dI Q A s.heap σ s.heap [] := ⟨hP, hD, va_S.rf, hsz⟩
  have h0 : CS.hs σ ≤ CS.hs σ := Nat.le_refl _
  have hl := lv_entry ([.ref (Q.o 3)]) (n := 4) (Nat.le_of_ble_eq_true rfl)
  rw [lg_entry_eq]
  generalize (lg_sl ([.ref (Q.o 3)]) ++ List.replicate (4 - (lg_sl ([.ref (Q.o 3)])).length) Slot.unset).toArray = ls at hl ⊢
  have hl : lv_has ls 4 [(0, .ref (Q.o 3))] := hl
  unfold f_X1_conjunction at hf
  refine W.widen (k := CS.hs σ - CS.hs σ) (n := 17 * (CS.hs σ - CS.hs σ)) (Nat.zero_le _) (Nat.zero_le _) ?_
  refine lv_aload_n hx hb dX1_conjunction_0 rfl (lv_at hl 0 rfl) ?_
  obtain ⟨p1, hcp1, hf⟩ := hf_bind hf
  have mo2 : CS.hs σ ≤ CS.hs p1.2 := Mono.go hcp1 (hm2 σ)
  have hr9 : CS.hs p1.2 ≤ CS.hs R.2 := Mono.go hf (mono_bind (m_X1_found N p1.2 132) (fun p5 => (mono_ite (mono_ite (mono_some (Nat.le_refl _)) mono_none) (mono_bind (m_X0_newTarget N p5.2) (fun p10 => (m_X1_conjunction_27 N E1 E2 hm1 hm2 N p10.2 p10.1 0))))))
  have hFc := cFree hC hA
  refine va_calli (va_runU (As := []) (rest := []) ⟨hx, hb, hml, hown, hts⟩ (hE2 σ p1 hcp1) (va_cwU 0 hts hX1_conjunction_X1_one_u150 rfl rfl rfl rfl (by decide +kernel) ⟨(show (10 + 40 * d) + 1 ≤ (11 + 40 * d) by omega), (show 8 + (1 + 11) + 60 * (10 + 40 * d) ≤ 60 * (11 + 40 * d) by omega)⟩) ⟨zPre.blind, va_recv hK hC.1 (ci := 6) (q0 := 3) rfl rfl, cPre_go hZ hK hC⟩ rfl rfl hl.1 rfl (lv_room (Nat.le_of_ble_eq_true rfl)) dX1_conjunction_1 (cAcc h0 mo2 hr9)) hC.2.2.1 (fun q _ h => hFc q h) hFc (fun r3 u9 t9 H1 locs ht hvm hw hB hz1 hk1 hS => ?_)
  obtain ⟨⟨hP, hK1, hD1⟩, hsz1⟩ := hB
  rw [ht] at hP hsz1
  have hC : CP dC dI Q A s.heap p1.2 H1 locs := ⟨hP, hD1.weaken (fun _ _ _ h => hFc _ h), hS, hsz1⟩
  generalize H1 = H at hC ⊢
  have h4 : (CS.hs σ) ≤ CS.hs p1.2 := Nat.le_trans h0 mo2
  refine W.widen (k := CS.hs p1.2 - (CS.hs σ)) (n := 17 * (CS.hs p1.2 - (CS.hs σ))) (cAcc2 h0 mo2) (cAcc3 h0 mo2) ?_
  obtain rfl : r3 = p1.1 := hw
  refine lv_istore_n (lv' := [(1, .int p1.1), (0, .ref (Q.o 3))]) hx hb dX1_conjunction_4 rfl hl (by decide) rfl (fun ls hl => ?_)
  refine lv_aload_n hx hb dX1_conjunction_5 rfl (lv_at hl 1 rfl) ?_
  refine lv_sipush (v := 132) hx hb dX1_conjunction_6 (by decide) ?_
  obtain ⟨p5, hcp5, hf⟩ := hf_bind hf
  have mo6 : CS.hs p1.2 ≤ CS.hs p5.2 := Mono.go hcp5 (m_X1_found N p1.2 132)
  have hr9 : CS.hs p5.2 ≤ CS.hs R.2 := Mono.go hf (mono_ite (mono_ite (mono_some (Nat.le_refl _)) mono_none) (mono_bind (m_X0_newTarget N p5.2) (fun p10 => (m_X1_conjunction_27 N E1 E2 hm1 hm2 N p10.2 p10.1 0))))
  have hFc := cFree hC hA
  refine va_calli (va_runU (As := [.int 132]) (rest := []) ⟨hx, hb, hml, hown, hts⟩ (c_X1_found l dC dI Q N p1.2 132 p5 hcp5) (va_cwU 1 hts hX1_conjunction_X1_found_u42 rfl rfl rfl rfl (by decide +kernel) ⟨(show 1 + 1 ≤ (11 + 40 * d) by omega), (show 8 + (2 + 11) + 60 * 1 ≤ 60 * (11 + 40 * d) by omega)⟩) ⟨zPre.blind, va_recv hK hC.1 (ci := 6) (q0 := 3) rfl rfl, cPre_go hZ hK hC⟩ rfl rfl hl.1 rfl (lv_room (Nat.le_of_ble_eq_true rfl)) dX1_conjunction_9 (cAcc h4 mo6 hr9)) hC.2.2.1 (fun q _ h => hFc q h) hFc (fun r7 u9 t9 H1 locs ht hvm hw hB hz1 hk1 hS => ?_)
  obtain ⟨⟨hP, hK1, hD1⟩, hsz1⟩ := hB
  rw [ht] at hP hsz1
  have hC : CP dC dI Q A s.heap p5.2 H1 locs := ⟨hP, hD1.weaken (fun _ _ _ h => hFc _ h), hS, hsz1⟩
  generalize H1 = H at hC ⊢
  have h8 : (CS.hs σ) ≤ CS.hs p5.2 := Nat.le_trans h4 mo6
  refine W.widen (k := CS.hs p5.2 - (CS.hs σ)) (n := 17 * (CS.hs p5.2 - (CS.hs σ))) (cAcc2 h4 mo6) (cAcc3 h4 mo6) ?_
  obtain rfl : r7 = p5.1 := hw
  refine lv_if_ne (tgt := 17) hx hb dX1_conjunction_12 (by decide) (fun c9 => ?_) (fun c9 => ?_)
  ·
    replace hf := (if_neg c9).symm.trans hf
    refine lv_aload_n hx hb dX1_conjunction_17 rfl (lv_at hl 1 rfl) ?_
    refine cG_29 hx hb hts i_X1_conjunction_X7 hown hK hC (hts (.fieldLink RX1 22 "StatementRules2$Formulas" "code" "LStatementRules2$Code;") k_X1_conjunction_fieldLink_RX1_22_SR_Formulas_code_LSR_Code) (fun _ q9 => q9) dX1_conjunction_18 ?_
    obtain ⟨p10, hcp10, hf⟩ := hf_bind hf
    have mo11 : CS.hs p5.2 ≤ CS.hs p10.2 := Mono.go hcp10 (m_X0_newTarget N p5.2)
    have hr9 : CS.hs p10.2 ≤ CS.hs R.2 := Mono.go hf (m_X1_conjunction_27 N E1 E2 hm1 hm2 N p10.2 p10.1 0)
    have hFc := cFree hC hA
    refine va_calli (va_runV (As := []) (rest := []) ⟨hx, hb, hml, hown, hts⟩ (c_X0_newTarget l dC dI Q N p5.2 p10 hcp10) (cwV 0 hts hX1_conjunction_X0_newTarget_v110 rfl rfl rfl (by decide +kernel) ⟨(show 2 + 1 ≤ (11 + 40 * d) by omega), (show 8 + (1 + 11) + 60 * 2 ≤ 60 * (11 + 40 * d) by omega)⟩) ⟨zPre.blind, va_recv hK hC.1 (ci := 0) (q0 := 2) rfl rfl, cPre_go hZ hK hC⟩ rfl rfl hl.1 rfl (lv_room (Nat.le_of_ble_eq_true rfl)) dX1_conjunction_21 (cAcc h8 mo11 hr9)) hC.2.2.1 (fun q _ h => hFc q h) hFc (fun r12 u9 t9 H1 locs ht hvm hw hB hz1 hk1 hS => ?_)
    obtain ⟨⟨hP, hK1, hD1⟩, hsz1⟩ := hB
    rw [ht] at hP hsz1
    have hC : CP dC dI Q A s.heap p10.2 H1 locs := ⟨hP, hD1.weaken (fun _ _ _ h => hFc _ h), hS, hsz1⟩
    generalize H1 = H at hC ⊢
    have h13 : (CS.hs σ) ≤ CS.hs p10.2 := Nat.le_trans h8 mo11
    refine W.widen (k := CS.hs p10.2 - (CS.hs σ)) (n := 17 * (CS.hs p10.2 - (CS.hs σ))) (cAcc2 h8 mo11) (cAcc3 h8 mo11) ?_
    obtain rfl : r12 = p10.1 := hw
    refine lv_istore_n (lv' := [(2, .int p10.1), (1, .int p1.1), (0, .ref (Q.o 3))]) hx hb dX1_conjunction_24 rfl hl (by decide) rfl (fun ls hl => ?_)
    refine lv_iconst (v := 0) hx hb dX1_conjunction_25 (by decide) ?_
    refine lv_istore_n (lv' := [(3, .int 0), (2, .int p10.1), (1, .int p1.1), (0, .ref (Q.o 3))]) hx hb dX1_conjunction_26 rfl hl (by decide) rfl (fun ls hl => ?_)
    exact j_X1_conjunction_27 l dC dI Q N d E1 E2 hE1 hE2 hm1 hm2 (CS.hs σ) R hx hb hr hml hown hts hlocks hZ hA hK N p10.2 p10.1 0 _ _ _ hf h13 hC (lv_sub hl [3, 1, 0] rfl)
  ·
    replace hf := (if_pos c9).symm.trans hf
    refine lv_iload_n hx hb dX1_conjunction_15 rfl (lv_at hl 0 rfl) ?_
    obtain ⟨b32, hf⟩ := hf_ite hf
    obtain rfl := Option.some.inj hf
    exact W.zret (v := p1.1) hx hb hr (z_nar b32) (fun t ht hW => ⟨⟨p1.1, (), rfl, rfl, ⟨by rw [ht]; exact hC.1, va_K.moved hW.alike hK, hC.2.1⟩, by rw [ht]; exact hC.2.2.2⟩, hC.2.2.1.F ht⟩) hC.2.2.1.2.2 dX1_conjunction_16
