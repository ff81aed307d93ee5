section
def zBY : List Int32 := [105, 110, 116, 32, 118, 97, 114, 32, 108, 111, 103, 32, 105, 102, 32, 101, 108, 115, 101, 32, 119, 104, 105, 108, 101, 32, 100, 111, 32, 102, 111, 114, 32, 98, 114, 101, 97, 107, 32, 99, 111, 110, 116, 105, 110, 117, 101, 32, 114, 101, 116, 117, 114, 110, 32, 116, 104, 114, 111, 119, 32, 108, 111, 99, 107, 32, 116, 114, 121, 32, 119, 105, 116, 104, 32, 99, 97, 116, 99, 104, 32, 102, 105, 110, 97, 108, 108, 121, 32, 97, 115, 115, 101, 114, 116, 32, 115, 119, 105, 116, 99, 104, 32, 99, 97, 115, 101, 32, 100, 101, 102, 97, 117, 108, 116, 32, 121, 105, 101, 108, 100, 32, 116, 114, 117, 101, 32, 102, 97, 108, 115, 101, 32, 110, 117, 108, 108]
def zCH (i : Int32) : Int32 := (((zBY.getD i.toNatClampNeg 0) &&& 255).toUInt32 % 65536).toInt32
def zTX : String := "int var log if else while do for break continue return throw lock try with catch finally assert switch case default yield true false null"
/-- what stands all along of the words' text, outside A -/
def zSTR (aS aV : Nat) (A : Nat → Prop) (U : State) (H : Heap) : Prop :=
  vk_R RX9 19 zTX aS U ∧ va_O "java/lang/String" aS A U H ∧ va_OF "java/lang/String" "coder" "B" (.int 0) aS A U H ∧ va_OF "java/lang/String" "value" "[B" (.ref aV) aS A U H ∧ va_T .byte aV 137 (fun j => .int (zBY.getD j 0)) A U H ∧ va_Z "java/lang/String" "COMPACT_STRINGS" "Z" (.int 1) A U H ∧ va_Zq "jdk/internal/util/Preconditions" "SIOOBE_FORMATTER" "Ljava/util/function/BiFunction;" A U H
theorem zSTR.kept {aS aV : Nat} {A : Nat → Prop} {U : State} {H H1 : Heap} (h : zSTR aS aV A U H) (hq : ∀ a : Nat, a < H.size → ¬ A a → H1[a]? = H[a]?) : zSTR aS aV A U H1 :=
  ⟨h.1, h.2.1.kept hq, h.2.2.1.kept hq, h.2.2.2.1.kept hq, h.2.2.2.2.1.kept hq, h.2.2.2.2.2.1.kept hq, h.2.2.2.2.2.2.kept hq⟩
theorem zSTR.narrow {aS aV : Nat} {A B : Nat → Prop} {U : State} {H : Heap} (h : zSTR aS aV A U H) (hq : ∀ q, B q → A q) : zSTR aS aV B U H :=
  ⟨h.1, h.2.1.narrow hq, h.2.2.1.narrow hq, h.2.2.2.1.narrow hq, h.2.2.2.2.1.narrow hq, h.2.2.2.2.2.1.narrow hq, h.2.2.2.2.2.2.narrow hq⟩
theorem zSTR.warm {aS aV : Nat} {A : Nat → Prop} {s U : State} {H : Heap} (hW : s.WarmedH U.vm) (h : zSTR aS aV A s H) : zSTR aS aV A U H :=
  ⟨vk_R.warm hW h.1, va_O.moved hW.alike h.2.1, va_OF.moved hW.alike h.2.2.1, va_OF.moved hW.alike h.2.2.2.1, va_T.moved hW.alike h.2.2.2.2.1, va_Z.moved hW.alike h.2.2.2.2.2.1, va_Zq.moved hW.alike h.2.2.2.2.2.2⟩
theorem zSTR.calling {aS aV : Nat} {A : Nat → Prop} {U : State} {H : Heap} {g : JFrame} {mk : MethodId} {a : Array Value} (h : zSTR aS aV A U H) : zSTR aS aV A (U.calling g mk a) H :=
  ⟨vk_R.same (u := U) rfl h.1, va_O.moved (u := U) (Vm.Alike.refl U.vm) h.2.1, va_OF.moved (u := U) (Vm.Alike.refl U.vm) h.2.2.1, va_OF.moved (u := U) (Vm.Alike.refl U.vm) h.2.2.2.1, va_T.moved (u := U) (Vm.Alike.refl U.vm) h.2.2.2.2.1, va_Z.moved (u := U) (Vm.Alike.refl U.vm) h.2.2.2.2.2.1, va_Zq.moved (u := U) (Vm.Alike.refl U.vm) h.2.2.2.2.2.2⟩
theorem zSTR.recv {aS aV : Nat} {A : Nat → Prop} {s : State} {H : Heap} {locs : List Loc} (h : zSTR aS aV A s s.heap) (hS : va_S A s.heap H locs) : ∃ cell : Cell, H[aS]? = some cell ∧ cell.vm.isStatics = false ∧ s.vm.findClass RJ0 = some cell.cls := by
  obtain ⟨cell, h1, h2, h3, -⟩ := h.2.1.kept hS.2.1
  exact ⟨cell, h1, h2, h3⟩
def zPreS (dC : Nat → ClassId) (dI : Nat → Nat → Nat) (sz : Nat) (W0 : va_W) (tys : List (ClassId × FieldType)) (aS aV : Nat) (U : State) : Prop :=
  zPre dC dI sz W0 tys U ∧ zSTR aS aV (va_A W0 sz) U U.heap
theorem zPreS.blind {av : List Value} {dC : Nat → ClassId} {dI : Nat → Nat → Nat} {sz : Nat} {W0 : va_W} {tys : List (ClassId × FieldType)} {aS aV : Nat} : FrameBlind (va_Pc av (zPreS dC dI sz W0 tys aS aV)) := by
  intro a U g mk q
  obtain ⟨q0, q1, q2⟩ := q
  have q3 : va_Pc av (zPre dC dI sz W0 tys) a (U.calling g mk a) := zPre.blind a U g mk ⟨q0, q1⟩
  exact ⟨q0, q3.2, q2.calling⟩
theorem zPreS.go {av : List Value} {dC : Nat → ClassId} {dI : Nat → Nat → Nat} {W0 : va_W} {tys : List (ClassId × FieldType)} {s : State} {H : Heap} {locs : List Loc} {A : Nat → Prop} {aS aV : Nat} (hX : zSTR aS aV A s s.heap) (hS : va_S A s.heap H locs) (hF : ∀ q, va_A W0 H.size q → A q) (hZ : zAMB s) (hP : va_P (dC, dI) vwCl W0 H) (hK : va_K (dC, dI) vwCl tys s) (hD : va_D A W0) :
    ∀ U : State, U.heap = H → s.WarmedH U.vm → va_Pc av (zPreS dC dI H.size W0 tys aS aV) av.toArray U :=
  fun U hU hW => ⟨rfl, (zPre.go (av := av) hZ hP hK hD U hU hW).2, by rw [hU]; exact ((hX.kept hS.2.1).narrow hF).warm hW⟩
theorem z_win {x : Int32} {w : Nat} (h : x = nI w) (hw : w < 2 ^ 31) (hc : ¬ 25 ≤ x) : vp_in x 25 := by
  subst h
  refine vp_in_nI ?_ (by decide)
  rcases Nat.lt_or_ge w 25 with q | q
  · exact q
  · exact absurd (show (25 : Int32) ≤ nI w from nI_le (a := 25) q hw) hc
theorem z_lt137 {x : Int32} (h : vp_in x 137) : ¬ x < 0 ∧ x < 137 := by
  have h9 := vp_in_iff.mp h
  have e0 : (0 : Int32).toInt = 0 := by decide
  have e1 : (137 : Int32).toInt = 137 := by decide
  refine ⟨fun g => ?_, Int32.lt_iff_toInt_lt.mpr ?_⟩
  · have g9 := Int32.lt_iff_toInt_lt.mp g
    rw [e0] at g9
    omega
  · rw [e1]
    omega
theorem k_J0_coder_7d493_fieldLink_RJ0_38_java_lang_String_COMPACT_STRINGS_Z : Cond.fieldLink RJ0 38 "java/lang/String" "COMPACT_STRINGS" "Z" ∈ wzJ0_coder_7d493 := List.mem_cons_of_mem _ (List.mem_append_left _ (List.mem_of_getElem? (i := 0) rfl))
theorem k_J0_coder_7d493_fieldLink_RJ0_15_java_lang_String_coder_B : Cond.fieldLink RJ0 15 "java/lang/String" "coder" "B" ∈ wzJ0_coder_7d493 := List.mem_cons_of_mem _ (List.mem_append_left _ (List.mem_of_getElem? (i := 1) rfl))
set_option maxHeartbeats 4000000 in
set_option maxRecDepth 100000 in
theorem c_J0_coder_7d493 (l : Launch) (dC : Nat → ClassId) (dI : Nat → Nat → Nat) (sz : Nat) (aS : Nat) (aV : Nat) : Met l yJ0_coder_7d493 wzJ0_coder_7d493 ({ frames := 1, cells := 0, slots := 0, locals := 60 }) (va_Pc [.ref aS] (zPreS dC dI sz [] [] aS aV)) (va_Qi (fun (r : Int32) (_ : Unit) => r = 0) (fun (_ : Unit) (t : State) => zPost dC dI (va_A [] sz) [] [] t) (va_A [] sz)) 0 0 (va_A [] sz) := by
  refine Met.ofW (cc := cJ0_coder_7d493) (maxL := 1) (ret := (some .byte)) (by decide) rfl ?_
  intro p e s m args below meth c s₁ B hml hv
  obtain ⟨rfl, ⟨hsz, hZ, hP, hK, hD0⟩, hX⟩ := hv
  have hx := B.exec
  have hb := B.bytes
  have hr := B.returns
  have hts := atoms_spec (ws := wzJ0_coder_7d493) B.pre
  have hown : s.vm.findClass RJ0 = some m.cls := findClass_of_methodNamed B.named
  have hlocks := B.notSynchronized
  subst hsz
  have hD := hD0.self (sz := s.heap.size)
  generalize hAe : va_A [] s.heap.size = A at hD hX ⊢
  have hA : ∀ q : Nat, s.heap.size ≤ q → A q := fun q h => by rw [← hAe]; exact Or.inr h
  have hS : va_S A s.heap s.heap [] := va_S.rf
  have hP : va_P (dC, dI) vwCl [] s.heap := hP
  have hl := lv_entry ([.ref aS]) (n := 1) (Nat.le_of_ble_eq_true rfl)
  rw [lg_entry_eq]
  generalize (lg_sl ([.ref aS]) ++ List.replicate (1 - (lg_sl ([.ref aS])).length) Slot.unset).toArray = ls at hl ⊢
  have hl : lv_has ls 1 [(0, .ref aS)] := hl
  refine va_gets (v := .int 1) hx hb hX.2.2.2.2.2.1 hS hown (hts (.fieldLink RJ0 38 "java/lang/String" "COMPACT_STRINGS" "Z") k_J0_coder_7d493_fieldLink_RJ0_38_java_lang_String_COMPACT_STRINGS_Z) (fun _ h9 => h9) dJ0_coder_7d493_0 ?_
  refine lv_if_eq (tgt := 13) hx hb dJ0_coder_7d493_3 (by decide) (fun c9 => absurd c9 (by decide)) (fun _ => ?_)
  refine lv_aload_n hx hb dJ0_coder_7d493_6 rfl (lv_at hl 0 rfl) ?_
  refine vk_getf (o := "java/lang/String") (n := "coder") (d := "B") (v := .int 0) (q := aS) hx hb hX.2.2.1 hS hown (hts (.fieldLink RJ0 15 "java/lang/String" "coder" "B") k_J0_coder_7d493_fieldLink_RJ0_15_java_lang_String_coder_B) (fun _ h9 => h9) dJ0_coder_7d493_7 ?_
  refine lv_goto (tgt := 14) hx hb dJ0_coder_7d493_10 (by decide) ?_
  have hP9 := hP.sub (ws' := []) [] rfl
  have hD9 := hD.sub (ws' := []) [] (by decide) rfl
  have hK9 := hK.sub (tys' := []) [] rfl
  exact W.zret (v := 0) hx hb hr (rfl) (fun t ht hW => ⟨⟨0, (), rfl, rfl, by rw [ht]; exact hP9, va_K.moved hW.alike hK9, hD9⟩, hS.F ht⟩) hS.2.2 dJ0_coder_7d493_14
theorem k_J0_length_8abf5_fieldLink_RJ0_9_java_lang_String_value_B : Cond.fieldLink RJ0 9 "java/lang/String" "value" "[B" ∈ wzJ0_length_8abf5 := List.mem_cons_of_mem _ (List.mem_append_left _ (List.mem_of_getElem? (i := 0) rfl))
set_option maxHeartbeats 4000000 in
set_option maxRecDepth 100000 in
theorem c_J0_length_8abf5 (l : Launch) (dC : Nat → ClassId) (dI : Nat → Nat → Nat) (sz : Nat) (aS : Nat) (aV : Nat) : Met l yJ0_length_8abf5 wzJ0_length_8abf5 ({ frames := 2, cells := 0, slots := 0, locals := 120 }) (va_Pc [.ref aS] (zPreS dC dI sz [] [] aS aV)) (va_Qi (fun (r : Int32) (_ : Unit) => r = 137) (fun (_ : Unit) (t : State) => zPost dC dI (va_A [] sz) [] [] t) (va_A [] sz)) 0 0 (va_A [] sz) := by
  refine Met.ofW (cc := cJ0_length_8abf5) (maxL := 1) (ret := (some .int)) (by decide) rfl ?_
  intro p e s m args below meth c s₁ B hml hv
  obtain ⟨rfl, ⟨hsz, hZ, hP, hK, hD0⟩, hX⟩ := hv
  have hx := B.exec
  have hb := B.bytes
  have hr := B.returns
  have hts := atoms_spec (ws := wzJ0_length_8abf5) B.pre
  have hown : s.vm.findClass RJ0 = some m.cls := findClass_of_methodNamed B.named
  have hlocks := B.notSynchronized
  subst hsz
  have hD := hD0.self (sz := s.heap.size)
  generalize hAe : va_A [] s.heap.size = A at hD hX ⊢
  have hA : ∀ q : Nat, s.heap.size ≤ q → A q := fun q h => by rw [← hAe]; exact Or.inr h
  have hS : va_S A s.heap s.heap [] := va_S.rf
  have hP : va_P (dC, dI) vwCl [] s.heap := hP
  have hl := lv_entry ([.ref aS]) (n := 1) (Nat.le_of_ble_eq_true rfl)
  rw [lg_entry_eq]
  generalize (lg_sl ([.ref aS]) ++ List.replicate (1 - (lg_sl ([.ref aS])).length) Slot.unset).toArray = ls at hl ⊢
  have hl : lv_has ls 1 [(0, .ref aS)] := hl
  refine lv_aload_n hx hb dJ0_length_8abf5_0 rfl (lv_at hl 0 rfl) ?_
  refine vk_getf (o := "java/lang/String") (n := "value") (d := "[B") (v := .ref aV) (q := aS) hx hb hX.2.2.2.1 hS hown (hts (.fieldLink RJ0 9 "java/lang/String" "value" "[B") k_J0_length_8abf5_fieldLink_RJ0_9_java_lang_String_value_B) (fun _ h9 => h9) dJ0_length_8abf5_1 ?_
  refine va_tlen (v := 137) hx hb hX.2.2.2.2.1 hS (by decide) dJ0_length_8abf5_4 ?_
  refine lv_aload_n hx hb dJ0_length_8abf5_5 rfl (lv_at hl 0 rfl) ?_
  have hPc := hP.sub (ws' := []) [] rfl
  have hDc := hD.sub (ws' := []) [] (by decide) rfl
  have hKc := hK.sub (tys' := []) [] rfl
  have hFc := va_free (wc := []) hD hS hA [] rfl
  refine va_calli (va_runV (As := []) (rest := [.int 137]) ⟨hx, hb, hml, hown, hts⟩ (c_J0_coder_7d493 l dC dI _ aS aV) (cwV 0 hts hJ0_length_8abf5_J0_coder_7d493_v335 rfl rfl rfl (by decide +kernel) ⟨Nat.le_of_ble_eq_true rfl, Nat.le_of_ble_eq_true rfl⟩) ⟨zPreS.blind, hX.recv hS, zPreS.go hX hS hFc hZ hPc hKc hDc⟩ rfl rfl hl.1 rfl (lv_room (Nat.le_of_ble_eq_true rfl)) dJ0_length_8abf5_6 ⟨Nat.le_of_ble_eq_true rfl, Nat.le_of_ble_eq_true rfl⟩) hS (fun q _ h => hFc q h) hFc (fun r1 u9 t9 H1 locs ht hvm hw hB hz1 hk1 hS => ?_)
  obtain ⟨hP1, hK1, hD1⟩ := hB
  rw [ht] at hP1
  have hK1 := va_K.moved hvm.symm hK1
  obtain ⟨hP, hD⟩ := va_join (wr := []) (w1 := []) hP hD [] [] rfl rfl (by decide) (by decide) hk1 hFc hP1 hD1
  have hK := hK.app hK1
  generalize H1 = H at hP hS ⊢
  have hP : va_P (dC, dI) vwCl [] H := hP
  have hD : va_D A [] := hD
  have hK : va_K (dC, dI) vwCl [] s := hK
  obtain rfl : r1 = 0 := hw
  refine lv_ishr hx hb dJ0_length_8abf5_9 ?_
  refine lv_topi (fun z2 ez2 => ?_)
  obtain rfl : z2 = 137 := ez2.trans (by decide)
  have hP9 := hP.sub (ws' := []) [] rfl
  have hD9 := hD.sub (ws' := []) [] (by decide) rfl
  have hK9 := hK.sub (tys' := []) [] rfl
  exact W.iret (v := 137) hx hb hr (fun t ht hW => ⟨⟨137, (), rfl, rfl, by rw [ht]; exact hP9, va_K.moved hW.alike hK9, hD9⟩, hS.F ht⟩) hS.2.2 dJ0_length_8abf5_10
theorem k_J0_isLatin1_aae02_fieldLink_RJ0_38_java_lang_String_COMPACT_STRINGS_Z : Cond.fieldLink RJ0 38 "java/lang/String" "COMPACT_STRINGS" "Z" ∈ wzJ0_isLatin1_aae02 := List.mem_cons_of_mem _ (List.mem_append_left _ (List.mem_of_getElem? (i := 0) rfl))
theorem k_J0_isLatin1_aae02_fieldLink_RJ0_15_java_lang_String_coder_B : Cond.fieldLink RJ0 15 "java/lang/String" "coder" "B" ∈ wzJ0_isLatin1_aae02 := List.mem_cons_of_mem _ (List.mem_append_left _ (List.mem_of_getElem? (i := 1) rfl))
set_option maxHeartbeats 4000000 in
set_option maxRecDepth 100000 in
theorem c_J0_isLatin1_aae02 (l : Launch) (dC : Nat → ClassId) (dI : Nat → Nat → Nat) (sz : Nat) (aS : Nat) (aV : Nat) : Met l yJ0_isLatin1_aae02 wzJ0_isLatin1_aae02 ({ frames := 1, cells := 0, slots := 0, locals := 60 }) (va_Pc [.ref aS] (zPreS dC dI sz [] [] aS aV)) (va_Qi (fun (r : Int32) (_ : Unit) => r = 1) (fun (_ : Unit) (t : State) => zPost dC dI (va_A [] sz) [] [] t) (va_A [] sz)) 0 0 (va_A [] sz) := by
  refine Met.ofW (cc := cJ0_isLatin1_aae02) (maxL := 1) (ret := (some .boolean)) (by decide) rfl ?_
  intro p e s m args below meth c s₁ B hml hv
  obtain ⟨rfl, ⟨hsz, hZ, hP, hK, hD0⟩, hX⟩ := hv
  have hx := B.exec
  have hb := B.bytes
  have hr := B.returns
  have hts := atoms_spec (ws := wzJ0_isLatin1_aae02) B.pre
  have hown : s.vm.findClass RJ0 = some m.cls := findClass_of_methodNamed B.named
  have hlocks := B.notSynchronized
  subst hsz
  have hD := hD0.self (sz := s.heap.size)
  generalize hAe : va_A [] s.heap.size = A at hD hX ⊢
  have hA : ∀ q : Nat, s.heap.size ≤ q → A q := fun q h => by rw [← hAe]; exact Or.inr h
  have hS : va_S A s.heap s.heap [] := va_S.rf
  have hP : va_P (dC, dI) vwCl [] s.heap := hP
  have hl := lv_entry ([.ref aS]) (n := 1) (Nat.le_of_ble_eq_true rfl)
  rw [lg_entry_eq]
  generalize (lg_sl ([.ref aS]) ++ List.replicate (1 - (lg_sl ([.ref aS])).length) Slot.unset).toArray = ls at hl ⊢
  have hl : lv_has ls 1 [(0, .ref aS)] := hl
  refine va_gets (v := .int 1) hx hb hX.2.2.2.2.2.1 hS hown (hts (.fieldLink RJ0 38 "java/lang/String" "COMPACT_STRINGS" "Z") k_J0_isLatin1_aae02_fieldLink_RJ0_38_java_lang_String_COMPACT_STRINGS_Z) (fun _ h9 => h9) dJ0_isLatin1_aae02_0 ?_
  refine lv_if_eq (tgt := 17) hx hb dJ0_isLatin1_aae02_3 (by decide) (fun c9 => absurd c9 (by decide)) (fun _ => ?_)
  refine lv_aload_n hx hb dJ0_isLatin1_aae02_6 rfl (lv_at hl 0 rfl) ?_
  refine vk_getf (o := "java/lang/String") (n := "coder") (d := "B") (v := .int 0) (q := aS) hx hb hX.2.2.1 hS hown (hts (.fieldLink RJ0 15 "java/lang/String" "coder" "B") k_J0_isLatin1_aae02_fieldLink_RJ0_15_java_lang_String_coder_B) (fun _ h9 => h9) dJ0_isLatin1_aae02_7 ?_
  refine lv_if_ne (tgt := 17) hx hb dJ0_isLatin1_aae02_10 (by decide) (fun c9 => absurd (by decide) c9) (fun _ => ?_)
  refine lv_iconst (v := 1) hx hb dJ0_isLatin1_aae02_13 (by decide) ?_
  refine lv_goto (tgt := 18) hx hb dJ0_isLatin1_aae02_14 (by decide) ?_
  have hP9 := hP.sub (ws' := []) [] rfl
  have hD9 := hD.sub (ws' := []) [] (by decide) rfl
  have hK9 := hK.sub (tys' := []) [] rfl
  exact W.zret (v := 1) hx hb hr (rfl) (fun t ht hW => ⟨⟨1, (), rfl, rfl, by rw [ht]; exact hP9, va_K.moved hW.alike hK9, hD9⟩, hS.F ht⟩) hS.2.2 dJ0_isLatin1_aae02_18
set_option maxHeartbeats 4000000 in
set_option maxRecDepth 100000 in
theorem c_J3_checkIndex_n (l : Launch) (dC : Nat → ClassId) (dI : Nat → Nat → Nat) (sz : Nat) (i : Int32) (n : Int32) (h1 : ¬ i < 0) (h2 : i < n) : Met l yJ3_checkIndex_8e157 wzJ3_checkIndex_8e157 ({ frames := 1, cells := 0, slots := 0, locals := 60 }) (va_Pc [.int i, .int n, .null] (zPre dC dI sz [] [])) (va_Qi (fun (r : Int32) (_ : Unit) => True) (fun (_ : Unit) (t : State) => zPost dC dI (va_A [] sz) [] [] t) (va_A [] sz)) 0 0 (va_A [] sz) := by
  refine Met.ofW (cc := cJ3_checkIndex_8e157) (maxL := 3) (ret := (some .int)) (by decide) rfl ?_
  intro p e s m args below meth c s₁ B hml hv
  obtain ⟨rfl, hsz, hZ, hP, hK, hD0⟩ := hv
  have hx := B.exec
  have hb := B.bytes
  have hr := B.returns
  have hts := atoms_spec (ws := wzJ3_checkIndex_8e157) B.pre
  have hown : s.vm.findClass RJ3 = some m.cls := findClass_of_methodNamed B.named
  have hlocks := B.notSynchronized
  subst hsz
  have hD := hD0.self (sz := s.heap.size)
  generalize hAe : va_A [] s.heap.size = A at hD ⊢
  have hA : ∀ q : Nat, s.heap.size ≤ q → A q := fun q h => by rw [← hAe]; exact Or.inr h
  have hS : va_S A s.heap s.heap [] := va_S.rf
  have hP : va_P (dC, dI) vwCl [] s.heap := hP
  have hl := lv_entry ([.int i, .int n, .null]) (n := 3) (Nat.le_of_ble_eq_true rfl)
  rw [lg_entry_eq]
  generalize (lg_sl ([.int i, .int n, .null]) ++ List.replicate (3 - (lg_sl ([.int i, .int n, .null])).length) Slot.unset).toArray = ls at hl ⊢
  have hl : lv_has ls 3 [(0, .int i), (1, .int n), (2, .null)] := hl
  refine lv_iload_n hx hb dJ3_checkIndex_8e157_0 rfl (lv_at hl 0 rfl) ?_
  refine lv_if_lt (tgt := 9) hx hb dJ3_checkIndex_8e157_1 (by decide) (fun c9 => absurd c9 h1) (fun _ => ?_)
  refine lv_iload_n hx hb dJ3_checkIndex_8e157_4 rfl (lv_at hl 0 rfl) ?_
  refine lv_iload_n hx hb dJ3_checkIndex_8e157_5 rfl (lv_at hl 1 rfl) ?_
  refine lv_icmp_lt (tgt := 16) hx hb dJ3_checkIndex_8e157_6 (by decide) (fun _ => ?_) (fun c9 => absurd h2 c9)
  refine lv_iload_n hx hb dJ3_checkIndex_8e157_16 rfl (lv_at hl 0 rfl) ?_
  have hP9 := hP.sub (ws' := []) [] rfl
  have hD9 := hD.sub (ws' := []) [] (by decide) rfl
  have hK9 := hK.sub (tys' := []) [] rfl
  exact W.iret (v := i) hx hb hr (fun t ht hW => ⟨⟨i, (), rfl, trivial, by rw [ht]; exact hP9, va_K.moved hW.alike hK9, hD9⟩, hS.F ht⟩) hS.2.2 dJ3_checkIndex_8e157_17
set_option maxHeartbeats 4000000 in
set_option maxRecDepth 100000 in
theorem c_J3_checkIndex_r (l : Launch) (dC : Nat → ClassId) (dI : Nat → Nat → Nat) (sz : Nat) (i : Int32) (n : Int32) (tq : Nat) (h1 : ¬ i < 0) (h2 : i < n) : Met l yJ3_checkIndex_8e157 wzJ3_checkIndex_8e157 ({ frames := 1, cells := 0, slots := 0, locals := 60 }) (va_Pc [.int i, .int n, .ref tq] (zPre dC dI sz [] [])) (va_Qi (fun (r : Int32) (_ : Unit) => True) (fun (_ : Unit) (t : State) => zPost dC dI (va_A [] sz) [] [] t) (va_A [] sz)) 0 0 (va_A [] sz) := by
  refine Met.ofW (cc := cJ3_checkIndex_8e157) (maxL := 3) (ret := (some .int)) (by decide) rfl ?_
  intro p e s m args below meth c s₁ B hml hv
  obtain ⟨rfl, hsz, hZ, hP, hK, hD0⟩ := hv
  have hx := B.exec
  have hb := B.bytes
  have hr := B.returns
  have hts := atoms_spec (ws := wzJ3_checkIndex_8e157) B.pre
  have hown : s.vm.findClass RJ3 = some m.cls := findClass_of_methodNamed B.named
  have hlocks := B.notSynchronized
  subst hsz
  have hD := hD0.self (sz := s.heap.size)
  generalize hAe : va_A [] s.heap.size = A at hD ⊢
  have hA : ∀ q : Nat, s.heap.size ≤ q → A q := fun q h => by rw [← hAe]; exact Or.inr h
  have hS : va_S A s.heap s.heap [] := va_S.rf
  have hP : va_P (dC, dI) vwCl [] s.heap := hP
  have hl := lv_entry ([.int i, .int n, .ref tq]) (n := 3) (Nat.le_of_ble_eq_true rfl)
  rw [lg_entry_eq]
  generalize (lg_sl ([.int i, .int n, .ref tq]) ++ List.replicate (3 - (lg_sl ([.int i, .int n, .ref tq])).length) Slot.unset).toArray = ls at hl ⊢
  have hl : lv_has ls 3 [(0, .int i), (1, .int n), (2, .ref tq)] := hl
  refine lv_iload_n hx hb dJ3_checkIndex_8e157_0 rfl (lv_at hl 0 rfl) ?_
  refine lv_if_lt (tgt := 9) hx hb dJ3_checkIndex_8e157_1 (by decide) (fun c9 => absurd c9 h1) (fun _ => ?_)
  refine lv_iload_n hx hb dJ3_checkIndex_8e157_4 rfl (lv_at hl 0 rfl) ?_
  refine lv_iload_n hx hb dJ3_checkIndex_8e157_5 rfl (lv_at hl 1 rfl) ?_
  refine lv_icmp_lt (tgt := 16) hx hb dJ3_checkIndex_8e157_6 (by decide) (fun _ => ?_) (fun c9 => absurd h2 c9)
  refine lv_iload_n hx hb dJ3_checkIndex_8e157_16 rfl (lv_at hl 0 rfl) ?_
  have hP9 := hP.sub (ws' := []) [] rfl
  have hD9 := hD.sub (ws' := []) [] (by decide) rfl
  have hK9 := hK.sub (tys' := []) [] rfl
  exact W.iret (v := i) hx hb hr (fun t ht hW => ⟨⟨i, (), rfl, trivial, by rw [ht]; exact hP9, va_K.moved hW.alike hK9, hD9⟩, hS.F ht⟩) hS.2.2 dJ3_checkIndex_8e157_17
theorem k_J0_checkIndex_df160_fieldLink_RJ0_1053_jdk_internal_util_Preconditions_SIOOBE_FORMATTER_Ljava_util_function_BiFunction : Cond.fieldLink RJ0 1053 "jdk/internal/util/Preconditions" "SIOOBE_FORMATTER" "Ljava/util/function/BiFunction;" ∈ wzJ0_checkIndex_df160 := List.mem_cons_of_mem _ (List.mem_append_left _ (List.mem_of_getElem? (i := 0) rfl))
set_option maxHeartbeats 4000000 in
set_option maxRecDepth 100000 in
theorem c_J0_checkIndex_df160 (l : Launch) (dC : Nat → ClassId) (dI : Nat → Nat → Nat) (sz : Nat) (aS : Nat) (aV : Nat) (i : Int32) (n : Int32) (h1 : ¬ i < 0) (h2 : i < n) : Met l yJ0_checkIndex_df160 wzJ0_checkIndex_df160 ({ frames := 2, cells := 0, slots := 0, locals := 120 }) (va_Pc [.int i, .int n] (zPreS dC dI sz [] [] aS aV)) (va_Qv (fun (_ : Unit) => True) (fun (_ : Unit) (t : State) => zPost dC dI (va_A [] sz) [] [] t) (va_A [] sz)) 0 0 (va_A [] sz) := by
  refine Met.ofW (cc := cJ0_checkIndex_df160) (maxL := 2) (ret := none) (by decide) rfl ?_
  intro p e s m args below meth c s₁ B hml hv
  obtain ⟨rfl, ⟨hsz, hZ, hP, hK, hD0⟩, hX⟩ := hv
  have hx := B.exec
  have hb := B.bytes
  have hr := B.returns
  have hts := atoms_spec (ws := wzJ0_checkIndex_df160) B.pre
  have hown : s.vm.findClass RJ0 = some m.cls := findClass_of_methodNamed B.named
  have hlocks := B.notSynchronized
  subst hsz
  have hD := hD0.self (sz := s.heap.size)
  generalize hAe : va_A [] s.heap.size = A at hD hX ⊢
  have hA : ∀ q : Nat, s.heap.size ≤ q → A q := fun q h => by rw [← hAe]; exact Or.inr h
  have hS : va_S A s.heap s.heap [] := va_S.rf
  have hP : va_P (dC, dI) vwCl [] s.heap := hP
  have hl := lv_entry ([.int i, .int n]) (n := 2) (Nat.le_of_ble_eq_true rfl)
  rw [lg_entry_eq]
  generalize (lg_sl ([.int i, .int n]) ++ List.replicate (2 - (lg_sl ([.int i, .int n])).length) Slot.unset).toArray = ls at hl ⊢
  have hl : lv_has ls 2 [(0, .int i), (1, .int n)] := hl
  refine lv_iload_n hx hb dJ0_checkIndex_df160_0 rfl (lv_at hl 0 rfl) ?_
  refine lv_iload_n hx hb dJ0_checkIndex_df160_1 rfl (lv_at hl 1 rfl) ?_
  rcases hX.2.2.2.2.2.2 with hq | ⟨tq, hq⟩
  ·
    refine va_gets (v := .null) hx hb hq hS hown (hts (.fieldLink RJ0 1053 "jdk/internal/util/Preconditions" "SIOOBE_FORMATTER" "Ljava/util/function/BiFunction;") k_J0_checkIndex_df160_fieldLink_RJ0_1053_jdk_internal_util_Preconditions_SIOOBE_FORMATTER_Ljava_util_function_BiFunction) (fun _ h9 => h9) dJ0_checkIndex_df160_2 ?_
    have hPc := hP.sub (ws' := []) [] rfl
    have hDc := hD.sub (ws' := []) [] (by decide) rfl
    have hKc := hK.sub (tys' := []) [] rfl
    have hFc := va_free (wc := []) hD hS hA [] rfl
    refine va_calli (va_runS (As := [.int i, .int n, .null]) (rest := []) ⟨hx, hb, hml, hown, hts⟩ (c_J3_checkIndex_n l dC dI _ i n h1 h2) (va_cwS 3 hts hJ0_checkIndex_df160_J3_checkIndex_8e157_s1059 rfl rfl rfl (by decide +kernel) ⟨Nat.le_of_ble_eq_true rfl, Nat.le_of_ble_eq_true rfl⟩) ⟨zPre.blind, zPre.go hZ hPc hKc hDc⟩ rfl rfl hl.1 rfl (lv_room (Nat.le_of_ble_eq_true rfl)) dJ0_checkIndex_df160_5 ⟨Nat.le_of_ble_eq_true rfl, Nat.le_of_ble_eq_true rfl⟩) hS (fun q _ h => hFc q h) hFc (fun r1 u9 t9 H1 locs ht hvm hw hB hz1 hk1 hS => ?_)
    obtain ⟨hP1, hK1, hD1⟩ := hB
    rw [ht] at hP1
    have hK1 := va_K.moved hvm.symm hK1
    obtain ⟨hP, hD⟩ := va_join (wr := []) (w1 := []) hP hD [] [] rfl rfl (by decide) (by decide) hk1 hFc hP1 hD1
    have hK := hK.app hK1
    generalize H1 = H at hP hS ⊢
    have hP : va_P (dC, dI) vwCl [] H := hP
    have hD : va_D A [] := hD
    have hK : va_K (dC, dI) vwCl [] s := hK
    refine lv_pop hx hb dJ0_checkIndex_df160_8 rfl ?_
    have hP9 := hP.sub (ws' := []) [] rfl
    have hD9 := hD.sub (ws' := []) [] (by decide) rfl
    have hK9 := hK.sub (tys' := []) [] rfl
    exact W.vret hx hb hr (fun t ht hW => ⟨⟨(), rfl, trivial, by rw [ht]; exact hP9, va_K.moved hW.alike hK9, hD9⟩, hS.F ht⟩) hS.2.2 dJ0_checkIndex_df160_9
  ·
    refine va_gets (v := .ref tq) hx hb hq hS hown (hts (.fieldLink RJ0 1053 "jdk/internal/util/Preconditions" "SIOOBE_FORMATTER" "Ljava/util/function/BiFunction;") k_J0_checkIndex_df160_fieldLink_RJ0_1053_jdk_internal_util_Preconditions_SIOOBE_FORMATTER_Ljava_util_function_BiFunction) (fun _ h9 => h9) dJ0_checkIndex_df160_2 ?_
    have hPc := hP.sub (ws' := []) [] rfl
    have hDc := hD.sub (ws' := []) [] (by decide) rfl
    have hKc := hK.sub (tys' := []) [] rfl
    have hFc := va_free (wc := []) hD hS hA [] rfl
    refine va_calli (va_runS (As := [.int i, .int n, .ref tq]) (rest := []) ⟨hx, hb, hml, hown, hts⟩ (c_J3_checkIndex_r l dC dI _ i n tq h1 h2) (va_cwS 3 hts hJ0_checkIndex_df160_J3_checkIndex_8e157_s1059 rfl rfl rfl (by decide +kernel) ⟨Nat.le_of_ble_eq_true rfl, Nat.le_of_ble_eq_true rfl⟩) ⟨zPre.blind, zPre.go hZ hPc hKc hDc⟩ rfl rfl hl.1 rfl (lv_room (Nat.le_of_ble_eq_true rfl)) dJ0_checkIndex_df160_5 ⟨Nat.le_of_ble_eq_true rfl, Nat.le_of_ble_eq_true rfl⟩) hS (fun q _ h => hFc q h) hFc (fun r2 u9 t9 H1 locs ht hvm hw hB hz1 hk1 hS => ?_)
    obtain ⟨hP1, hK1, hD1⟩ := hB
    rw [ht] at hP1
    have hK1 := va_K.moved hvm.symm hK1
    obtain ⟨hP, hD⟩ := va_join (wr := []) (w1 := []) hP hD [] [] rfl rfl (by decide) (by decide) hk1 hFc hP1 hD1
    have hK := hK.app hK1
    generalize H1 = H at hP hS ⊢
    have hP : va_P (dC, dI) vwCl [] H := hP
    have hD : va_D A [] := hD
    have hK : va_K (dC, dI) vwCl [] s := hK
    refine lv_pop hx hb dJ0_checkIndex_df160_8 rfl ?_
    have hP9 := hP.sub (ws' := []) [] rfl
    have hD9 := hD.sub (ws' := []) [] (by decide) rfl
    have hK9 := hK.sub (tys' := []) [] rfl
    exact W.vret hx hb hr (fun t ht hW => ⟨⟨(), rfl, trivial, by rw [ht]; exact hP9, va_K.moved hW.alike hK9, hD9⟩, hS.F ht⟩) hS.2.2 dJ0_checkIndex_df160_9
set_option maxHeartbeats 4000000 in
set_option maxRecDepth 100000 in
theorem c_J1_charAt_3b067 (l : Launch) (dC : Nat → ClassId) (dI : Nat → Nat → Nat) (sz : Nat) (aS : Nat) (aV : Nat) (i : Int32) (hi : vp_in i 137) : Met l yJ1_charAt_3b067 wzJ1_charAt_3b067 ({ frames := 3, cells := 0, slots := 0, locals := 180 }) (va_Pc [.ref aV, .int i] (zPreS dC dI sz [] [] aS aV)) (va_Qi (fun (r : Int32) (_ : Unit) => narrow .char (.int r) = .int r ∧ r = zCH i) (fun (_ : Unit) (t : State) => zPost dC dI (va_A [] sz) [] [] t) (va_A [] sz)) 0 0 (va_A [] sz) := by
  refine Met.ofW (cc := cJ1_charAt_3b067) (maxL := 2) (ret := (some .char)) (by decide) rfl ?_
  intro p e s m args below meth c s₁ B hml hv
  obtain ⟨rfl, ⟨hsz, hZ, hP, hK, hD0⟩, hX⟩ := hv
  have hx := B.exec
  have hb := B.bytes
  have hr := B.returns
  have hts := atoms_spec (ws := wzJ1_charAt_3b067) B.pre
  have hown : s.vm.findClass RJ1 = some m.cls := findClass_of_methodNamed B.named
  have hlocks := B.notSynchronized
  subst hsz
  have hD := hD0.self (sz := s.heap.size)
  generalize hAe : va_A [] s.heap.size = A at hD hX ⊢
  have hA : ∀ q : Nat, s.heap.size ≤ q → A q := fun q h => by rw [← hAe]; exact Or.inr h
  have hS : va_S A s.heap s.heap [] := va_S.rf
  have hP : va_P (dC, dI) vwCl [] s.heap := hP
  have hl := lv_entry ([.ref aV, .int i]) (n := 2) (Nat.le_of_ble_eq_true rfl)
  rw [lg_entry_eq]
  generalize (lg_sl ([.ref aV, .int i]) ++ List.replicate (2 - (lg_sl ([.ref aV, .int i])).length) Slot.unset).toArray = ls at hl ⊢
  have hl : lv_has ls 2 [(0, .ref aV), (1, .int i)] := hl
  refine lv_iload_n hx hb dJ1_charAt_3b067_0 rfl (lv_at hl 1 rfl) ?_
  refine lv_aload_n hx hb dJ1_charAt_3b067_1 rfl (lv_at hl 0 rfl) ?_
  refine va_tlen (v := 137) hx hb hX.2.2.2.2.1 hS (by decide) dJ1_charAt_3b067_2 ?_
  have hPc := hP.sub (ws' := []) [] rfl
  have hDc := hD.sub (ws' := []) [] (by decide) rfl
  have hKc := hK.sub (tys' := []) [] rfl
  have hFc := va_free (wc := []) hD hS hA [] rfl
  refine va_callv (va_runS (As := [.int i, .int 137]) (rest := []) ⟨hx, hb, hml, hown, hts⟩ (c_J0_checkIndex_df160 l dC dI _ aS aV i 137 (z_lt137 hi).1 (z_lt137 hi).2) (va_cwS 2 hts hJ1_charAt_3b067_J0_checkIndex_df160_s9 rfl rfl rfl (by decide +kernel) ⟨Nat.le_of_ble_eq_true rfl, Nat.le_of_ble_eq_true rfl⟩) ⟨zPreS.blind, zPreS.go hX hS hFc hZ hPc hKc hDc⟩ rfl rfl hl.1 rfl (lv_room (Nat.le_of_ble_eq_true rfl)) dJ1_charAt_3b067_3 ⟨Nat.le_of_ble_eq_true rfl, Nat.le_of_ble_eq_true rfl⟩) hS (fun q _ h => hFc q h) hFc (fun u9 t9 H1 locs ht hvm hw hB hz1 hk1 hS => ?_)
  obtain ⟨hP1, hK1, hD1⟩ := hB
  rw [ht] at hP1
  have hK1 := va_K.moved hvm.symm hK1
  obtain ⟨hP, hD⟩ := va_join (wr := []) (w1 := []) hP hD [] [] rfl rfl (by decide) (by decide) hk1 hFc hP1 hD1
  have hK := hK.app hK1
  generalize H1 = H at hP hS ⊢
  have hP : va_P (dC, dI) vwCl [] H := hP
  have hD : va_D A [] := hD
  have hK : va_K (dC, dI) vwCl [] s := hK
  refine lv_aload_n hx hb dJ1_charAt_3b067_6 rfl (lv_at hl 0 rfl) ?_
  refine lv_iload_n hx hb dJ1_charAt_3b067_7 rfl (lv_at hl 1 rfl) ?_
  refine va_tb (v := .int (zBY.getD (i : Int32).toNatClampNeg 0)) hx hb hX.2.2.2.2.1 hS hi rfl dJ1_charAt_3b067_8 ?_
  refine lv_topi (fun z3 ez3 => ?_)
  refine lv_sipush (v := 255) hx hb dJ1_charAt_3b067_9 (by decide) ?_
  refine lv_iand hx hb dJ1_charAt_3b067_12 ?_
  refine lv_topi (fun z4 ez4 => ?_)
  obtain ⟨z5, ez5⟩ : ∃ y : Int32, y = ((z4 : Int32).toUInt32 % 65536).toInt32 := ⟨_, rfl⟩
  refine lv_i2c (v := z5) hx hb dJ1_charAt_3b067_13 ez5.symm ?_
  have hP9 := hP.sub (ws' := []) [] rfl
  have hD9 := hD.sub (ws' := []) [] (by decide) rfl
  have hK9 := hK.sub (tys' := []) [] rfl
  exact W.zret (v := z5) hx hb hr ((by rw [ez5]; exact pk_nc _)) (fun t ht hW => ⟨⟨z5, (), rfl, ⟨(by rw [ez5]; exact pk_nc _), (by rw [ez5, ez4, ez3]; rfl)⟩, by rw [ht]; exact hP9, va_K.moved hW.alike hK9, hD9⟩, hS.F ht⟩) hS.2.2 dJ1_charAt_3b067_14
theorem k_J0_charAt_5068e_fieldLink_RJ0_9_java_lang_String_value_B : Cond.fieldLink RJ0 9 "java/lang/String" "value" "[B" ∈ wzJ0_charAt_5068e := List.mem_cons_of_mem _ (List.mem_append_left _ (List.mem_of_getElem? (i := 0) rfl))
set_option maxHeartbeats 4000000 in
set_option maxRecDepth 100000 in
theorem c_J0_charAt_5068e (l : Launch) (dC : Nat → ClassId) (dI : Nat → Nat → Nat) (sz : Nat) (aS : Nat) (aV : Nat) (i : Int32) (hi : vp_in i 137) : Met l yJ0_charAt_5068e wzJ0_charAt_5068e ({ frames := 4, cells := 0, slots := 0, locals := 240 }) (va_Pc [.ref aS, .int i] (zPreS dC dI sz [] [] aS aV)) (va_Qi (fun (r : Int32) (_ : Unit) => narrow .char (.int r) = .int r ∧ r = zCH i) (fun (_ : Unit) (t : State) => zPost dC dI (va_A [] sz) [] [] t) (va_A [] sz)) 0 0 (va_A [] sz) := by
  refine Met.ofW (cc := cJ0_charAt_5068e) (maxL := 2) (ret := (some .char)) (by decide) rfl ?_
  intro p e s m args below meth c s₁ B hml hv
  obtain ⟨rfl, ⟨hsz, hZ, hP, hK, hD0⟩, hX⟩ := hv
  have hx := B.exec
  have hb := B.bytes
  have hr := B.returns
  have hts := atoms_spec (ws := wzJ0_charAt_5068e) B.pre
  have hown : s.vm.findClass RJ0 = some m.cls := findClass_of_methodNamed B.named
  have hlocks := B.notSynchronized
  subst hsz
  have hD := hD0.self (sz := s.heap.size)
  generalize hAe : va_A [] s.heap.size = A at hD hX ⊢
  have hA : ∀ q : Nat, s.heap.size ≤ q → A q := fun q h => by rw [← hAe]; exact Or.inr h
  have hS : va_S A s.heap s.heap [] := va_S.rf
  have hP : va_P (dC, dI) vwCl [] s.heap := hP
  have hl := lv_entry ([.ref aS, .int i]) (n := 2) (Nat.le_of_ble_eq_true rfl)
  rw [lg_entry_eq]
  generalize (lg_sl ([.ref aS, .int i]) ++ List.replicate (2 - (lg_sl ([.ref aS, .int i])).length) Slot.unset).toArray = ls at hl ⊢
  have hl : lv_has ls 2 [(0, .ref aS), (1, .int i)] := hl
  refine lv_aload_n hx hb dJ0_charAt_5068e_0 rfl (lv_at hl 0 rfl) ?_
  have hPc := hP.sub (ws' := []) [] rfl
  have hDc := hD.sub (ws' := []) [] (by decide) rfl
  have hKc := hK.sub (tys' := []) [] rfl
  have hFc := va_free (wc := []) hD hS hA [] rfl
  refine va_calli (va_runV (As := []) (rest := []) ⟨hx, hb, hml, hown, hts⟩ (c_J0_isLatin1_aae02 l dC dI _ aS aV) (cwV 0 hts hJ0_charAt_5068e_J0_isLatin1_aae02_v492 rfl rfl rfl (by decide +kernel) ⟨Nat.le_of_ble_eq_true rfl, Nat.le_of_ble_eq_true rfl⟩) ⟨zPreS.blind, hX.recv hS, zPreS.go hX hS hFc hZ hPc hKc hDc⟩ rfl rfl hl.1 rfl (lv_room (Nat.le_of_ble_eq_true rfl)) dJ0_charAt_5068e_1 ⟨Nat.le_of_ble_eq_true rfl, Nat.le_of_ble_eq_true rfl⟩) hS (fun q _ h => hFc q h) hFc (fun r1 u9 t9 H1 locs ht hvm hw hB hz1 hk1 hS => ?_)
  obtain ⟨hP1, hK1, hD1⟩ := hB
  rw [ht] at hP1
  have hK1 := va_K.moved hvm.symm hK1
  obtain ⟨hP, hD⟩ := va_join (wr := []) (w1 := []) hP hD [] [] rfl rfl (by decide) (by decide) hk1 hFc hP1 hD1
  have hK := hK.app hK1
  generalize H1 = H at hP hS ⊢
  have hP : va_P (dC, dI) vwCl [] H := hP
  have hD : va_D A [] := hD
  have hK : va_K (dC, dI) vwCl [] s := hK
  obtain rfl : r1 = 1 := hw
  refine lv_if_eq (tgt := 16) hx hb dJ0_charAt_5068e_4 (by decide) (fun c9 => absurd c9 (by decide)) (fun _ => ?_)
  refine lv_aload_n hx hb dJ0_charAt_5068e_7 rfl (lv_at hl 0 rfl) ?_
  refine vk_getf (o := "java/lang/String") (n := "value") (d := "[B") (v := .ref aV) (q := aS) hx hb hX.2.2.2.1 hS hown (hts (.fieldLink RJ0 9 "java/lang/String" "value" "[B") k_J0_charAt_5068e_fieldLink_RJ0_9_java_lang_String_value_B) (fun _ h9 => h9) dJ0_charAt_5068e_8 ?_
  refine lv_iload_n hx hb dJ0_charAt_5068e_11 rfl (lv_at hl 1 rfl) ?_
  have hPc := hP.sub (ws' := []) [] rfl
  have hDc := hD.sub (ws' := []) [] (by decide) rfl
  have hKc := hK.sub (tys' := []) [] rfl
  have hFc := va_free (wc := []) hD hS hA [] rfl
  refine va_calli (va_runS (As := [.ref aV, .int i]) (rest := []) ⟨hx, hb, hml, hown, hts⟩ (c_J1_charAt_3b067 l dC dI _ aS aV i hi) (va_cwS 2 hts hJ0_charAt_5068e_J1_charAt_3b067_s495 rfl rfl rfl (by decide +kernel) ⟨Nat.le_of_ble_eq_true rfl, Nat.le_of_ble_eq_true rfl⟩) ⟨zPreS.blind, zPreS.go hX hS hFc hZ hPc hKc hDc⟩ rfl rfl hl.1 rfl (lv_room (Nat.le_of_ble_eq_true rfl)) dJ0_charAt_5068e_12 ⟨Nat.le_of_ble_eq_true rfl, Nat.le_of_ble_eq_true rfl⟩) hS (fun q _ h => hFc q h) hFc (fun r2 u9 t9 H1 locs ht hvm hw hB hz1 hk1 hS => ?_)
  obtain ⟨hP1, hK1, hD1⟩ := hB
  rw [ht] at hP1
  have hK1 := va_K.moved hvm.symm hK1
  obtain ⟨hP, hD⟩ := va_join (wr := []) (w1 := []) hP hD [] [] rfl rfl (by decide) (by decide) hk1 hFc hP1 hD1
  have hK := hK.app hK1
  generalize H1 = H at hP hS ⊢
  have hP : va_P (dC, dI) vwCl [] H := hP
  have hD : va_D A [] := hD
  have hK : va_K (dC, dI) vwCl [] s := hK
  have hP9 := hP.sub (ws' := []) [] rfl
  have hD9 := hD.sub (ws' := []) [] (by decide) rfl
  have hK9 := hK.sub (tys' := []) [] rfl
  exact W.zret (v := r2) hx hb hr (hw.1) (fun t ht hW => ⟨⟨r2, (), rfl, hw, by rw [ht]; exact hP9, va_K.moved hW.alike hK9, hD9⟩, hS.F ht⟩) hS.2.2 dJ0_charAt_5068e_15
end
section
def zW0L : List Nat := [0, 0, 0, 0, 1, 1, 1, 1, 2, 2, 2, 2, 3, 3, 3, 4, 4, 4, 4, 4, 5, 5, 5, 5, 5, 5, 6, 6, 6, 7, 7, 7, 7, 8, 8, 8, 8, 8, 8, 9, 9, 9, 9, 9, 9, 9, 9, 9, 10, 10, 10, 10, 10, 10, 10, 11, 11, 11, 11, 11, 11, 12, 12, 12, 12, 12, 13, 13, 13, 13, 14, 14, 14, 14, 14, 15, 15, 15, 15, 15, 15, 16, 16, 16, 16, 16, 16, 16, 16, 17, 17, 17, 17, 17, 17, 17, 18, 18, 18, 18, 18, 18, 18, 19, 19, 19, 19, 19, 20, 20, 20, 20, 20, 20, 20, 20, 21, 21, 21, 21, 21, 21, 22, 22, 22, 22, 22, 23, 23, 23, 23, 23, 23, 24, 24, 24, 24, 24]
def zT2L : List Int64 := [0, 105, 26990, 6909556, 0, 118, 30305, 7758194, 0, 108, 27759, 7106407, 0, 105, 26982, 0, 101, 25964, 6646899, 1701606245, 0, 119, 30568, 7825513, 2003331436, 512852847717, 0, 100, 25711, 0, 102, 26223, 6713202, 0, 98, 25202, 6451813, 1651664225, 422826041707, 0, 99, 25455, 6516590, 1668247156, 427071272041, 109330245642606, 27988542884507253, 7165066978433856869, 0, 114, 29285, 7497076, 1919251573, 491328402802, 125780071117422, 0, 116, 29800, 7628914, 1953002095, 499968536439, 0, 108, 27759, 7106403, 1819239275, 0, 116, 29810, 7631481, 0, 119, 30569, 7825780, 2003399784, 0, 99, 25441, 6513012, 1667331171, 426836779880, 0, 102, 26217, 6711662, 1718185569, 439855505772, 112603009477740, 28826370426301561, 0, 97, 24947, 6386547, 1634956133, 418548770162, 107148485161588, 0, 115, 29559, 7567209, 1937205620, 495924638819, 126956707537768, 0, 99, 25441, 6513011, 1667330917, 0, 100, 25701, 6579558, 1684366945, 431197938037, 110386672137580, 28258988067220596, 0, 121, 31081, 7956837, 2036950380, 521459297380, 0, 116, 29810, 7631477, 1953658213, 0, 102, 26209, 6709612, 1717660787, 439721161573, 0, 110, 28277, 7239020, 1853189228]
def zWVL : List Int64 := [6909556, 7758194, 7106407, 26982, 1701606245, 512852847717, 25711, 6713202, 422826041707, 7165066978433856869, 125780071117422, 499968536439, 1819239275, 7631481, 2003399784, 426836779880, 28826370426301561, 107148485161588, 126956707537768, 1667330917, 28258988067220596, 521459297380, 1953658213, 439721161573, 1853189228]
def zW0 (i : Nat) : Nat := zW0L.getD i 0
def zT2 (i : Nat) : Int64 := zT2L.getD i 0
/-- the words as far as they are laid -/
def zF (i : Nat) : Nat → Int64 := fun j => if j < zW0 i then zWVL.getD j 0 else if j = zW0 i then zT2 i else 0
theorem zSTP.all : ∀ i, i < 137 → zW0 i < 25 ∧ (zCH (nI i) = 32 → zW0 (i + 1) = zW0 i + 1 ∧ zT2 (i + 1) = 0 ∧ zT2 i = zWVL.getD (zW0 i) 0) ∧ (¬ zCH (nI i) = 32 → zW0 (i + 1) = zW0 i ∧ zT2 (i + 1) = (zT2 i <<< ((8 : Int32).toInt64 &&& 63)) ||| (zCH (nI i)).toInt64) := by decide +kernel
theorem zF.sp {i : Nat} (hi : i < 137) (h : zCH (nI i) = 32) : zW0 (i + 1) = zW0 i + 1 ∧ zF (i + 1) = zF i := by
  obtain ⟨-, a, -⟩ := zSTP.all i hi
  obtain ⟨a1, a2, a3⟩ := a h
  refine ⟨a1, funext fun j => ?_⟩
  unfold zF
  rw [a1, a2]
  by_cases c : j < zW0 i
  · rw [if_pos (by omega), if_pos c]
  · rw [if_neg c]
    by_cases d : j = zW0 i
    · rw [if_pos (by omega), if_pos d, a3, d]
    · rw [if_neg (by omega), if_neg d]
      by_cases e : j = zW0 i + 1
      · rw [if_pos e]
      · rw [if_neg e]
theorem zF.ch {i : Nat} (hi : i < 137) (h : ¬ zCH (nI i) = 32) : zW0 (i + 1) = zW0 i ∧ zF (i + 1) = vp_updL (zF i) (zW0 i) ((zF i (zW0 i) <<< ((8 : Int32).toInt64 &&& 63)) ||| (zCH (nI i)).toInt64) := by
  obtain ⟨-, -, a⟩ := zSTP.all i hi
  obtain ⟨a1, a2⟩ := a h
  have e0 : zF i (zW0 i) = zT2 i := by
    unfold zF
    rw [if_neg (by omega), if_pos rfl]
  refine ⟨a1, funext fun j => ?_⟩
  rw [e0, ← a2]
  show zF (i + 1) j = if j = zW0 i then zT2 (i + 1) else zF i j
  unfold zF
  rw [a1]
  by_cases c : j < zW0 i
  · rw [if_pos c, if_neg (by omega), if_pos c]
  · rw [if_neg c]
    by_cases d : j = zW0 i
    · rw [if_pos d, if_pos d]
    · rw [if_neg d, if_neg d, if_neg c, if_neg d]
theorem zF.z : zF 0 = fun _ => 0 := by
  funext j
  unfold zF
  have e1 : zW0 0 = 0 := rfl
  have e2 : zT2 0 = 0 := rfl
  rw [e1, e2, if_neg (by omega)]
  by_cases d : j = 0
  · rw [if_pos d]
  · rw [if_neg d]
theorem k_X9_init_fieldLink_RX9_9_SR_Tokens_words_J : Cond.fieldLink RX9 9 "StatementRules2$Tokens" "words" "[J" ∈ wzX9_init := List.mem_cons_of_mem _ (List.mem_append_left _ (List.mem_of_getElem? (i := 0) rfl))
theorem i_X9_init_X9 : ∀ w ∈ wsX90, w ∈ wzX9_init := fun _ h => List.mem_cons_of_mem _ (List.mem_append_right _ (List.mem_append_left _ (h)))
set_option maxHeartbeats 4000000 in
set_option maxRecDepth 100000 in
theorem z_loopX9 {p : Program} {e : Env} {s : State} {m : MethodId} {args : Array Value} {below : List Frame} {meth : Method} {c : Code} {Q : State → Prop} {A : Nat → Prop} (l : Launch) (dC : Nat → ClassId) (dI : Nat → Nat → Nat) (h0 qt q1 : Nat) (k1 : ClassId) (aS aV : Nat) (hx : p.tables.exec = Jvm.exec) (hb : c.code = cX9_init) (hml : c.maxLocals = 4) (hown : s.vm.findClass RX9 = some m.cls) (hts : ∀ w ∈ wzX9_init, w.before args s = true) (hZ : zAMB s) (hX : zSTR aS aV A s s.heap) (hA : ∀ q : Nat, s.heap.size ≤ q → A q) (hK : va_K (dC, dI) vwCl [(k1, .long)] s) (kk : ∀ (H : Heap) (locs : List Loc) (ls : Array Slot), va_P (dC, dI) vwCl [(h0, .inr (8, [.ref qt, .ref q1, .int 0, .int 0, .int 0, .int 0, .int 0, .long 0])), (q1, .inl (k1, 25, .inr (.inl (zF 137))))] H → va_D A [(h0, .inr (8, [.ref qt, .ref q1, .int 0, .int 0, .int 0, .int 0, .int 0, .long 0])), (q1, .inl (k1, 25, .inr (.inl (zF 137))))] → va_S A s.heap H locs → lv_has ls 4 [(0, .ref h0)] → W p l e ({ frames := 5, cells := 1, slots := 25, locals := 300 }) s m args below meth c H locs 1 25 Q (F0 m 82 ls [])) : ∀ (n i : Nat) (xi yw : Int32) (f : Nat → Int64) (H : Heap) (locs : List Loc) (ls : Array Slot), i + n = 137 → xi = nI i → yw = nI (zW0 i) → f = zF i → va_P (dC, dI) vwCl [(h0, .inr (8, [.ref qt, .ref q1, .int 0, .int 0, .int 0, .int 0, .int 0, .long 0])), (q1, .inl (k1, 25, .inr (.inl f)))] H → va_D A [(h0, .inr (8, [.ref qt, .ref q1, .int 0, .int 0, .int 0, .int 0, .int 0, .long 0])), (q1, .inl (k1, 25, .inr (.inl f)))] → va_S A s.heap H locs → lv_has ls 4 [(3, .int xi), (2, .int yw), (0, .ref h0), (1, .ref qt)] → W p l e ({ frames := 5, cells := 1, slots := 25, locals := 300 }) s m args below meth c H locs 1 25 Q (F0 m 21 ls []) := by
  intro n
  induction n with
  | zero =>
    intro i xi yw f H locs ls hi hx9 hy9 hf9 hP hD hS hl
    have hge : (137 : Int32) ≤ xi := by rw [hx9, show i = 137 by omega]; decide
    refine lv_iload_n hx hb dX9_init_21 rfl (lv_at hl 0 rfl) ?_
    refine va_ldcS (tx := zTX) (q := aS) hx hb hown hX.1 dX9_init_22 ?_
    have hPc := hP.sub (ws' := []) [] rfl
    have hDc := hD.sub (ws' := []) [] (by decide) rfl
    have hKc := hK.sub (tys' := []) [] rfl
    have hFc := va_free (wc := []) hD hS hA [] rfl
    refine va_calli (va_runV (As := []) (rest := [.int xi]) ⟨hx, hb, hml, hown, hts⟩ (c_J0_length_8abf5 l dC dI _ aS aV) (cwV 0 hts hX9_init_J0_length_8abf5_v21 rfl rfl rfl (by decide +kernel) ⟨Nat.le_of_ble_eq_true rfl, Nat.le_of_ble_eq_true rfl⟩) ⟨zPreS.blind, hX.recv hS, zPreS.go hX hS hFc hZ hPc hKc hDc⟩ rfl rfl hl.1 rfl (lv_room (Nat.le_of_ble_eq_true rfl)) dX9_init_24 ⟨Nat.le_of_ble_eq_true rfl, Nat.le_of_ble_eq_true rfl⟩) hS (fun q _ h => hFc q h) hFc (fun r1 u9 t9 H1 locs ht hvm hw hB hz1 hk1 hS => ?_)
    obtain ⟨hP1, hK1, hD1⟩ := hB
    rw [ht] at hP1
    have hK1 := va_K.moved hvm.symm hK1
    obtain ⟨hP, hD⟩ := va_join (wr := [(h0, .inr (8, [.ref qt, .ref q1, .int 0, .int 0, .int 0, .int 0, .int 0, .long 0])), (q1, .inl (k1, 25, .inr (.inl f)))]) (w1 := []) hP hD [] [0, 1] rfl rfl (by decide) (by decide) hk1 hFc hP1 hD1
    have hK := hK.app hK1
    generalize H1 = H at hP hS ⊢
    have hP : va_P (dC, dI) vwCl [(h0, .inr (8, [.ref qt, .ref q1, .int 0, .int 0, .int 0, .int 0, .int 0, .long 0])), (q1, .inl (k1, 25, .inr (.inl f)))] H := hP
    have hD : va_D A [(h0, .inr (8, [.ref qt, .ref q1, .int 0, .int 0, .int 0, .int 0, .int 0, .long 0])), (q1, .inl (k1, 25, .inr (.inl f)))] := hD
    have hK : va_K (dC, dI) vwCl [(k1, .long)] s := hK
    obtain rfl : r1 = 137 := hw
    refine lv_icmp_ge (tgt := 82) hx hb dX9_init_27 (by decide) (fun _ => ?_) (fun c9 => absurd hge c9)
    have e137 : i = 137 := by omega
    rw [hf9, e137] at hP hD
    exact kk _ _ _ hP hD hS (lv_sub hl [2] rfl)
  | succ n ih =>
    intro i xi yw f H locs ls hi hx9 hy9 hf9 hP hD hS hl
    have hge : ¬ (137 : Int32) ≤ xi := by rw [hx9]; exact nI_ge (a := i) (b := 137) (by omega) (by decide)
    have hin : vp_in xi 137 := by rw [hx9]; exact vp_in_nI (by omega) (by decide)
    refine lv_iload_n hx hb dX9_init_21 rfl (lv_at hl 0 rfl) ?_
    refine va_ldcS (tx := zTX) (q := aS) hx hb hown hX.1 dX9_init_22 ?_
    have hPc := hP.sub (ws' := []) [] rfl
    have hDc := hD.sub (ws' := []) [] (by decide) rfl
    have hKc := hK.sub (tys' := []) [] rfl
    have hFc := va_free (wc := []) hD hS hA [] rfl
    refine va_calli (va_runV (As := []) (rest := [.int xi]) ⟨hx, hb, hml, hown, hts⟩ (c_J0_length_8abf5 l dC dI _ aS aV) (cwV 0 hts hX9_init_J0_length_8abf5_v21 rfl rfl rfl (by decide +kernel) ⟨Nat.le_of_ble_eq_true rfl, Nat.le_of_ble_eq_true rfl⟩) ⟨zPreS.blind, hX.recv hS, zPreS.go hX hS hFc hZ hPc hKc hDc⟩ rfl rfl hl.1 rfl (lv_room (Nat.le_of_ble_eq_true rfl)) dX9_init_24 ⟨Nat.le_of_ble_eq_true rfl, Nat.le_of_ble_eq_true rfl⟩) hS (fun q _ h => hFc q h) hFc (fun r2 u9 t9 H1 locs ht hvm hw hB hz1 hk1 hS => ?_)
    obtain ⟨hP1, hK1, hD1⟩ := hB
    rw [ht] at hP1
    have hK1 := va_K.moved hvm.symm hK1
    obtain ⟨hP, hD⟩ := va_join (wr := [(h0, .inr (8, [.ref qt, .ref q1, .int 0, .int 0, .int 0, .int 0, .int 0, .long 0])), (q1, .inl (k1, 25, .inr (.inl f)))]) (w1 := []) hP hD [] [0, 1] rfl rfl (by decide) (by decide) hk1 hFc hP1 hD1
    have hK := hK.app hK1
    generalize H1 = H at hP hS ⊢
    have hP : va_P (dC, dI) vwCl [(h0, .inr (8, [.ref qt, .ref q1, .int 0, .int 0, .int 0, .int 0, .int 0, .long 0])), (q1, .inl (k1, 25, .inr (.inl f)))] H := hP
    have hD : va_D A [(h0, .inr (8, [.ref qt, .ref q1, .int 0, .int 0, .int 0, .int 0, .int 0, .long 0])), (q1, .inl (k1, 25, .inr (.inl f)))] := hD
    have hK : va_K (dC, dI) vwCl [(k1, .long)] s := hK
    obtain rfl : r2 = 137 := hw
    refine lv_icmp_ge (tgt := 82) hx hb dX9_init_27 (by decide) (fun c9 => absurd c9 hge) (fun _ => ?_)
    refine va_ldcS (tx := zTX) (q := aS) hx hb hown hX.1 dX9_init_30 ?_
    refine lv_iload_n hx hb dX9_init_32 rfl (lv_at hl 0 rfl) ?_
    have hPc := hP.sub (ws' := []) [] rfl
    have hDc := hD.sub (ws' := []) [] (by decide) rfl
    have hKc := hK.sub (tys' := []) [] rfl
    have hFc := va_free (wc := []) hD hS hA [] rfl
    refine va_calli (va_runV (As := [.int xi]) (rest := []) ⟨hx, hb, hml, hown, hts⟩ (c_J0_charAt_5068e l dC dI _ aS aV xi hin) (cwV 1 hts hX9_init_J0_charAt_5068e_v27 rfl rfl rfl (by decide +kernel) ⟨Nat.le_of_ble_eq_true rfl, Nat.le_of_ble_eq_true rfl⟩) ⟨zPreS.blind, hX.recv hS, zPreS.go hX hS hFc hZ hPc hKc hDc⟩ rfl rfl hl.1 rfl (lv_room (Nat.le_of_ble_eq_true rfl)) dX9_init_33 ⟨Nat.le_of_ble_eq_true rfl, Nat.le_of_ble_eq_true rfl⟩) hS (fun q _ h => hFc q h) hFc (fun r3 u9 t9 H1 locs ht hvm hw hB hz1 hk1 hS => ?_)
    have hr3 := hw
    obtain ⟨hP1, hK1, hD1⟩ := hB
    rw [ht] at hP1
    have hK1 := va_K.moved hvm.symm hK1
    obtain ⟨hP, hD⟩ := va_join (wr := [(h0, .inr (8, [.ref qt, .ref q1, .int 0, .int 0, .int 0, .int 0, .int 0, .long 0])), (q1, .inl (k1, 25, .inr (.inl f)))]) (w1 := []) hP hD [] [0, 1] rfl rfl (by decide) (by decide) hk1 hFc hP1 hD1
    have hK := hK.app hK1
    generalize H1 = H at hP hS ⊢
    have hP : va_P (dC, dI) vwCl [(h0, .inr (8, [.ref qt, .ref q1, .int 0, .int 0, .int 0, .int 0, .int 0, .long 0])), (q1, .inl (k1, 25, .inr (.inl f)))] H := hP
    have hD : va_D A [(h0, .inr (8, [.ref qt, .ref q1, .int 0, .int 0, .int 0, .int 0, .int 0, .long 0])), (q1, .inl (k1, 25, .inr (.inl f)))] := hD
    have hK : va_K (dC, dI) vwCl [(k1, .long)] s := hK
    refine lv_bipush (v := 32) hx hb dX9_init_36 (by decide) ?_
    refine lv_icmp_ne (tgt := 47) hx hb dX9_init_38 (by decide) (fun c4 => ?_) (fun c4 => ?_)
    ·
      refine lv_iload_n hx hb dX9_init_47 rfl (lv_at hl 1 rfl) ?_
      refine lv_bipush (v := 25) hx hb dX9_init_48 (by decide) ?_
      refine lv_icmp_ge (tgt := 76) hx hb dX9_init_50 (by decide) (fun c5 => ?_) (fun c5 => ?_)
      ·
        obtain ⟨z6, ez6⟩ : ∃ y : Int32, y = xi + Int32.ofInt (1) := ⟨_, rfl⟩
        refine lv_iinc (v := z6) (lv' := [(3, .int z6), (2, .int yw), (0, .ref h0), (1, .ref qt)]) hx hb dX9_init_76 hl (k := 0) rfl (ez6.symm) (by decide) rfl (fun ls hl => ?_)
        refine lv_goto (tgt := 21) hx hb dX9_init_79 (by decide) ?_
        exact absurd c5 (by rw [hy9]; exact nI_ge (a := zW0 i) (b := 25) ((zSTP.all i (by omega)).1) (by decide))
      ·
        have hwin : vp_in yw 25 := z_win hy9 (by have := (zSTP.all i (by omega)).1; omega) c5
        refine lv_aload_n hx hb dX9_init_53 rfl (lv_at hl 2 rfl) ?_
        refine va_get (D := (dC, dI)) (ci := 8) (v := .ref q1) (C := RX9) (T := TX9) (N := 8) hx hb hts i_X9_init_X9 hown hK hP 0 rfl rfl 1 (by decide) (hts (.fieldLink RX9 9 "StatementRules2$Tokens" "words" "[J") k_X9_init_fieldLink_RX9_9_SR_Tokens_words_J) (fun _ h9 => h9) rfl dX9_init_54 ?_
        refine lv_iload_n hx hb dX9_init_57 rfl (lv_at hl 1 rfl) ?_
        refine lv_aload_n hx hb dX9_init_58 rfl (lv_at hl 2 rfl) ?_
        refine va_get (D := (dC, dI)) (ci := 8) (v := .ref q1) (C := RX9) (T := TX9) (N := 8) hx hb hts i_X9_init_X9 hown hK hP 0 rfl rfl 1 (by decide) (hts (.fieldLink RX9 9 "StatementRules2$Tokens" "words" "[J") k_X9_init_fieldLink_RX9_9_SR_Tokens_words_J) (fun _ h9 => h9) rfl dX9_init_59 ?_
        refine lv_iload_n hx hb dX9_init_62 rfl (lv_at hl 1 rfl) ?_
        refine va_lald hx hb hK hP 1 0 rfl rfl hwin dX9_init_63 ?_
        refine lv_topl (fun z7 ez7 => ?_)
        refine lv_bipush (v := 8) hx hb dX9_init_64 (by decide) ?_
        obtain ⟨z8, ez8⟩ : ∃ y : Int64, y = (z7 : Int64) <<< ((8 : Int32).toInt64 &&& 63) := ⟨_, rfl⟩
        refine lv_lshl (v := z8) hx hb dX9_init_66 ez8.symm ?_
        refine va_ldcS (tx := zTX) (q := aS) hx hb hown hX.1 dX9_init_67 ?_
        refine lv_iload_n hx hb dX9_init_69 rfl (lv_at hl 0 rfl) ?_
        have hPc := hP.sub (ws' := []) [] rfl
        have hDc := hD.sub (ws' := []) [] (by decide) rfl
        have hKc := hK.sub (tys' := []) [] rfl
        have hFc := va_free (wc := []) hD hS hA [] rfl
        refine va_calli (va_runV (As := [.int xi]) (rest := [.long z8, .int yw, .ref q1]) ⟨hx, hb, hml, hown, hts⟩ (c_J0_charAt_5068e l dC dI _ aS aV xi hin) (cwV 1 hts hX9_init_J0_charAt_5068e_v27 rfl rfl rfl (by decide +kernel) ⟨Nat.le_of_ble_eq_true rfl, Nat.le_of_ble_eq_true rfl⟩) ⟨zPreS.blind, hX.recv hS, zPreS.go hX hS hFc hZ hPc hKc hDc⟩ rfl rfl hl.1 rfl (lv_room (Nat.le_of_ble_eq_true rfl)) dX9_init_70 ⟨Nat.le_of_ble_eq_true rfl, Nat.le_of_ble_eq_true rfl⟩) hS (fun q _ h => hFc q h) hFc (fun r9 u9 t9 H1 locs ht hvm hw hB hz1 hk1 hS => ?_)
        have hr9 := hw
        obtain ⟨hP1, hK1, hD1⟩ := hB
        rw [ht] at hP1
        have hK1 := va_K.moved hvm.symm hK1
        obtain ⟨hP, hD⟩ := va_join (wr := [(h0, .inr (8, [.ref qt, .ref q1, .int 0, .int 0, .int 0, .int 0, .int 0, .long 0])), (q1, .inl (k1, 25, .inr (.inl f)))]) (w1 := []) hP hD [] [0, 1] rfl rfl (by decide) (by decide) hk1 hFc hP1 hD1
        have hK := hK.app hK1
        generalize H1 = H at hP hS ⊢
        have hP : va_P (dC, dI) vwCl [(h0, .inr (8, [.ref qt, .ref q1, .int 0, .int 0, .int 0, .int 0, .int 0, .long 0])), (q1, .inl (k1, 25, .inr (.inl f)))] H := hP
        have hD : va_D A [(h0, .inr (8, [.ref qt, .ref q1, .int 0, .int 0, .int 0, .int 0, .int 0, .long 0])), (q1, .inl (k1, 25, .inr (.inl f)))] := hD
        have hK : va_K (dC, dI) vwCl [(k1, .long)] s := hK
        obtain ⟨z10, ez10⟩ : ∃ y : Int64, y = (r9 : Int32).toInt64 := ⟨_, rfl⟩
        refine lv_i2l (v := z10) hx hb dX9_init_73 ez10.symm ?_
        refine lv_lor hx hb dX9_init_74 ?_
        refine lv_topl (fun z11 ez11 => ?_)
        refine va_last hx hb hK hP hD hS 1 0 rfl rfl hwin dX9_init_75 (fun H locs hP hD hS => ?_)
        obtain ⟨f12, hfv, hP, hD⟩ : ∃ (f12 : Nat → Int64), f12 = vp_updL f yw.toNatClampNeg ((f yw.toNatClampNeg <<< ((8 : Int32).toInt64 &&& 63)) ||| (r9 : Int32).toInt64) ∧ va_P (dC, dI) vwCl [(h0, .inr (8, [.ref qt, .ref q1, .int 0, .int 0, .int 0, .int 0, .int 0, .long 0])), (q1, .inl (k1, 25, .inr (.inl f12)))] H ∧ va_D A [(h0, .inr (8, [.ref qt, .ref q1, .int 0, .int 0, .int 0, .int 0, .int 0, .long 0])), (q1, .inl (k1, 25, .inr (.inl f12)))] := ⟨_, by rw [ez11, ez10, ez8, ez7], hP, hD⟩
        obtain ⟨z13, ez13⟩ : ∃ y : Int32, y = xi + Int32.ofInt (1) := ⟨_, rfl⟩
        refine lv_iinc (v := z13) (lv' := [(3, .int z13), (2, .int yw), (0, .ref h0), (1, .ref qt)]) hx hb dX9_init_76 hl (k := 0) rfl (ez13.symm) (by decide) rfl (fun ls hl => ?_)
        refine lv_goto (tgt := 21) hx hb dX9_init_79 (by decide) ?_
        have hch := zF.ch (i := i) (by omega) (by rw [← hx9, ← hr3.2]; exact c4)
        exact ih (i + 1) z13 yw _ _ _ _ (by omega) (by rw [ez13, hx9]; exact nI_1 i) (by rw [hch.1]; exact hy9) (by rw [hch.2, hfv, hy9, nI_clamp (by have := (zSTP.all i (by omega)).1; omega), hf9, ← hx9, ← hr9.2]) hP hD hS (lv_sub hl [0, 1, 2, 3] rfl)
    ·
      obtain ⟨z14, ez14⟩ : ∃ y : Int32, y = yw + Int32.ofInt (1) := ⟨_, rfl⟩
      refine lv_iinc (v := z14) (lv' := [(2, .int z14), (3, .int xi), (0, .ref h0), (1, .ref qt)]) hx hb dX9_init_41 hl (k := 1) rfl (ez14.symm) (by decide) rfl (fun ls hl => ?_)
      refine lv_goto (tgt := 76) hx hb dX9_init_44 (by decide) ?_
      obtain ⟨z15, ez15⟩ : ∃ y : Int32, y = xi + Int32.ofInt (1) := ⟨_, rfl⟩
      refine lv_iinc (v := z15) (lv' := [(3, .int z15), (2, .int z14), (0, .ref h0), (1, .ref qt)]) hx hb dX9_init_76 hl (k := 1) rfl (ez15.symm) (by decide) rfl (fun ls hl => ?_)
      refine lv_goto (tgt := 21) hx hb dX9_init_79 (by decide) ?_
      have hsp := zF.sp (i := i) (by omega) (by rw [← hx9, ← hr3.2]; exact c4)
      exact ih (i + 1) z15 z14 _ _ _ _ (by omega) (by rw [ez15, hx9]; exact nI_1 i) (by rw [ez14, hy9, hsp.1]; exact nI_1 _) (hf9.trans hsp.2.symm) hP hD hS (lv_sub hl [0, 1, 2, 3] rfl)
theorem k_X9_init_methodLink_RX9_3_objectInit : Cond.methodLink RX9 3 objectInit ∈ wzX9_init := List.mem_cons_of_mem _ (List.mem_append_left _ (List.mem_of_getElem? (i := 1) rfl))
theorem k_X9_init_instanceMethod_objectInit : Cond.instanceMethod objectInit ∈ wzX9_init := List.mem_cons_of_mem _ (List.mem_append_left _ (List.mem_of_getElem? (i := 2) rfl))
theorem k_X9_init_code_objectInit_0xb1_1_none : Cond.code objectInit ⟨#[0xb1]⟩ 1 none ∈ wzX9_init := List.mem_cons_of_mem _ (List.mem_append_left _ (List.mem_of_getElem? (i := 3) rfl))
theorem k_X9_init_arrayClass_long : Cond.arrayClass .long ∈ wzX9_init := List.mem_cons_of_mem _ (List.mem_append_left _ (List.mem_of_getElem? (i := 4) rfl))
theorem k_X9_init_fieldLink_RX9_15_SR_Tokens_tape_I : Cond.fieldLink RX9 15 "StatementRules2$Tokens" "tape" "[I" ∈ wzX9_init := List.mem_cons_of_mem _ (List.mem_append_left _ (List.mem_of_getElem? (i := 5) rfl))
set_option maxHeartbeats 4000000 in
set_option maxRecDepth 100000 in
theorem c_X9_init (l : Launch) (dC : Nat → ClassId) (dI : Nat → Nat → Nat) (sz : Nat) (h0 : Nat) (qt : Nat) (aS : Nat) (aV : Nat) : Met l yX9_init wzX9_init ({ frames := 5, cells := 1, slots := 25, locals := 300 }) (va_Pc [.ref h0, .ref qt] (zPreS dC dI sz [(h0, .inr (8, [.null, .null, .int 0, .int 0, .int 0, .int 0, .int 0, .long 0]))] [] aS aV)) (va_Qv (fun (_ : Unit) => True) (fun (_ : Unit) (t : State) => ∃ (qw : Nat), ∃ (kw : ClassId), zPost dC dI (va_A [(h0, .inr (8, [.null, .null, .int 0, .int 0, .int 0, .int 0, .int 0, .long 0]))] sz) [(h0, .inr (8, [.ref qt, .ref qw, .int 0, .int 0, .int 0, .int 0, .int 0, .long 0])), (qw, .inl (kw, 25, .inr (.inl (zF 137))))] [(kw, .long)] t) (va_A [(h0, .inr (8, [.null, .null, .int 0, .int 0, .int 0, .int 0, .int 0, .long 0]))] sz)) 1 25 (va_A [(h0, .inr (8, [.null, .null, .int 0, .int 0, .int 0, .int 0, .int 0, .long 0]))] sz) := by
  refine Met.ofW (cc := cX9_init) (maxL := 4) (ret := none) (by decide) rfl ?_
  intro p e s m args below meth c s₁ B hml hv
  obtain ⟨rfl, ⟨hsz, hZ, hP, hK, hD0⟩, hX⟩ := hv
  have hx := B.exec
  have hb := B.bytes
  have hr := B.returns
  have hts := atoms_spec (ws := wzX9_init) B.pre
  have hown : s.vm.findClass RX9 = some m.cls := findClass_of_methodNamed B.named
  have hlocks := B.notSynchronized
  have hin : meth.name = "<init>" := (name_of_methodNamed B.named B.method).1
  subst hsz
  have hD := hD0.self (sz := s.heap.size)
  generalize hAe : va_A [(h0, .inr (8, [.null, .null, .int 0, .int 0, .int 0, .int 0, .int 0, .long 0]))] s.heap.size = A at hD hX ⊢
  have hA : ∀ q : Nat, s.heap.size ≤ q → A q := fun q h => by rw [← hAe]; exact Or.inr h
  have hS : va_S A s.heap s.heap [] := va_S.rf
  have hP : va_P (dC, dI) vwCl [(h0, .inr (8, [.null, .null, .int 0, .int 0, .int 0, .int 0, .int 0, .long 0]))] s.heap := hP
  have hl := lv_entry ([.ref h0, .ref qt]) (n := 4) (Nat.le_of_ble_eq_true rfl)
  rw [lg_entry_eq]
  generalize (lg_sl ([.ref h0, .ref qt]) ++ List.replicate (4 - (lg_sl ([.ref h0, .ref qt])).length) Slot.unset).toArray = ls at hl ⊢
  have hl : lv_has ls 4 [(0, .ref h0), (1, .ref qt)] := hl
  refine lv_aload_n hx hb dX9_init_0 rfl (lv_at hl 0 rfl) ?_
  refine W.objInit hx hb hown (hts (.methodLink RX9 3 objectInit) k_X9_init_methodLink_RX9_3_objectInit) (hts (.instanceMethod objectInit) k_X9_init_instanceMethod_objectInit) (hts (.code objectInit ⟨#[0xb1]⟩ 1 none) k_X9_init_code_objectInit_0xb1_1_none) rfl (by rw [hml]; exact hl.1) rfl dX9_init_1 (Nat.le_of_ble_eq_true rfl) (Nat.le_of_ble_eq_true rfl) ?_
  refine W.eq (g2 := F0 m 4 ls []) rfl ?_
  refine lv_aload_n hx hb dX9_init_4 rfl (lv_at hl 0 rfl) ?_
  refine lv_bipush (v := 25) hx hb dX9_init_5 (by decide) ?_
  refine va_newa (atype := .long) (ty := .long) (N' := 25) (a0 := (25, .inr (.inl (fun _ => 0)))) hx hb (hts (.arrayClass .long) k_X9_init_arrayClass_long) rfl hK hP hD hS hA (z_newl 25) (by decide) (by decide) (by decide) (Nat.le_of_ble_eq_true rfl) (Nat.le_of_ble_eq_true rfl) dX9_init_7 (fun q1 kq1 H hK hP hD hS => ?_)
  refine W.widen (k := 1) (n := 25) (by omega) (by omega) ?_
  have hP : va_P (dC, dI) vwCl [(h0, .inr (8, [.null, .null, .int 0, .int 0, .int 0, .int 0, .int 0, .long 0])), (q1, .inl (kq1, 25, .inr (.inl (fun _ => 0))))] H := hP
  have hD : va_D A [(h0, .inr (8, [.null, .null, .int 0, .int 0, .int 0, .int 0, .int 0, .long 0])), (q1, .inl (kq1, 25, .inr (.inl (fun _ => 0))))] := hD
  have hK : va_K (dC, dI) vwCl [(kq1, .long)] s := hK
  refine va_putF (D := (dC, dI)) (ci := 8) (v := .ref q1) (ty := (.array .long)) (C := RX9) (T := TX9) (N := 8) hx hb hts i_X9_init_X9 tyX9 tyX9_ok nmX9 hown hK hP hD hS 0 rfl rfl 1 (by decide) (hts (.fieldLink RX9 9 "StatementRules2$Tokens" "words" "[J") k_X9_init_fieldLink_RX9_9_SR_Tokens_words_J) (fun _ h9 => h9) rfl hin rfl (by decide +kernel) rfl rfl (Nat.le_of_ble_eq_true rfl) dX9_init_9 (fun H locs hP hD hS => ?_)
  have hP : va_P (dC, dI) vwCl [(h0, .inr (8, [.null, .ref q1, .int 0, .int 0, .int 0, .int 0, .int 0, .long 0])), (q1, .inl (kq1, 25, .inr (.inl (fun _ => 0))))] H := hP
  have hD : va_D A [(h0, .inr (8, [.null, .ref q1, .int 0, .int 0, .int 0, .int 0, .int 0, .long 0])), (q1, .inl (kq1, 25, .inr (.inl (fun _ => 0))))] := hD
  refine lv_aload_n hx hb dX9_init_12 rfl (lv_at hl 0 rfl) ?_
  refine lv_aload_n hx hb dX9_init_13 rfl (lv_at hl 1 rfl) ?_
  refine va_putF (D := (dC, dI)) (ci := 8) (v := .ref qt) (ty := (.array .int)) (C := RX9) (T := TX9) (N := 8) hx hb hts i_X9_init_X9 tyX9 tyX9_ok nmX9 hown hK hP hD hS 0 rfl rfl 0 (by decide) (hts (.fieldLink RX9 15 "StatementRules2$Tokens" "tape" "[I") k_X9_init_fieldLink_RX9_15_SR_Tokens_tape_I) (fun _ h9 => h9) rfl hin rfl (by decide +kernel) rfl rfl (Nat.le_of_ble_eq_true rfl) dX9_init_14 (fun H locs hP hD hS => ?_)
  have hP : va_P (dC, dI) vwCl [(h0, .inr (8, [.ref qt, .ref q1, .int 0, .int 0, .int 0, .int 0, .int 0, .long 0])), (q1, .inl (kq1, 25, .inr (.inl (fun _ => 0))))] H := hP
  have hD : va_D A [(h0, .inr (8, [.ref qt, .ref q1, .int 0, .int 0, .int 0, .int 0, .int 0, .long 0])), (q1, .inl (kq1, 25, .inr (.inl (fun _ => 0))))] := hD
  refine lv_iconst (v := 0) hx hb dX9_init_17 (by decide) ?_
  refine lv_istore_n (lv' := [(2, .int 0), (0, .ref h0), (1, .ref qt)]) hx hb dX9_init_18 rfl hl (by decide) rfl (fun ls hl => ?_)
  refine lv_iconst (v := 0) hx hb dX9_init_19 (by decide) ?_
  refine lv_istore_n (lv' := [(3, .int 0), (2, .int 0), (0, .ref h0), (1, .ref qt)]) hx hb dX9_init_20 rfl hl (by decide) rfl (fun ls hl => ?_)
  refine z_loopX9 l dC dI h0 qt q1 kq1 aS aV hx hb hml hown hts hZ hX hA hK (fun H locs ls hP hD hS hl => ?_) 137 0 0 0 _ _ _ _ rfl nI_0.symm nI_0.symm zF.z.symm hP hD hS (lv_sub hl [0, 1, 2, 3] rfl)
  have hP9 := hP.sub (ws' := [(h0, .inr (8, [.ref qt, .ref q1, .int 0, .int 0, .int 0, .int 0, .int 0, .long 0])), (q1, .inl (kq1, 25, .inr (.inl (zF 137))))]) [0, 1] rfl
  have hD9 := hD.sub (ws' := [(h0, .inr (8, [.ref qt, .ref q1, .int 0, .int 0, .int 0, .int 0, .int 0, .long 0])), (q1, .inl (kq1, 25, .inr (.inl (zF 137))))]) [0, 1] (by decide) rfl
  have hK9 := hK.sub (tys' := [(kq1, .long)]) [0] rfl
  exact W.vret hx hb hr (fun t ht hW => ⟨⟨(), rfl, trivial, q1, kq1, by rw [ht]; exact hP9, va_K.moved hW.alike hK9, hD9⟩, hS.F ht⟩) hS.2.2 dX9_init_82
end
section
theorem k_X11_init_methodLink_RX11_1_objectInit : Cond.methodLink RX11 1 objectInit ∈ wzX11_init := List.mem_cons_of_mem _ (List.mem_append_left _ (List.mem_of_getElem? (i := 0) rfl))
theorem k_X11_init_instanceMethod_objectInit : Cond.instanceMethod objectInit ∈ wzX11_init := List.mem_cons_of_mem _ (List.mem_append_left _ (List.mem_of_getElem? (i := 1) rfl))
theorem k_X11_init_code_objectInit_0xb1_1_none : Cond.code objectInit ⟨#[0xb1]⟩ 1 none ∈ wzX11_init := List.mem_cons_of_mem _ (List.mem_append_left _ (List.mem_of_getElem? (i := 2) rfl))
theorem k_X11_init_arrayClass_int : Cond.arrayClass .int ∈ wzX11_init := List.mem_cons_of_mem _ (List.mem_append_left _ (List.mem_of_getElem? (i := 3) rfl))
theorem k_X11_init_fieldLink_RX11_9_SR_tape_I : Cond.fieldLink RX11 9 "StatementRules2" "tape" "[I" ∈ wzX11_init := List.mem_cons_of_mem _ (List.mem_append_left _ (List.mem_of_getElem? (i := 4) rfl))
theorem i_X11_init_X11 : ∀ w ∈ wsX110, w ∈ wzX11_init := fun _ h => List.mem_cons_of_mem _ (List.mem_append_right _ (List.mem_append_left _ (h)))
theorem df_X10 : ∀ j, j < 6 → defaultValue (tyX10 j) = vp_V [.null, .null, .null, .null, .int 0, .int 0] j := by decide +kernel
theorem i_X11_init_X10 : ∀ w ∈ wsX100, w ∈ wzX11_init := fun _ h => List.mem_cons_of_mem _ (List.mem_append_right _ (List.mem_append_right _ (List.mem_append_left _ (h))))
theorem k_X11_init_classLink_RX11_13_RX10 : Cond.classLink RX11 13 RX10 ∈ wzX11_init := List.mem_cons_of_mem _ (List.mem_append_left _ (List.mem_of_getElem? (i := 5) rfl))
theorem k_X11_init_instantiable_RX10_6 : Cond.instantiable RX10 6 ∈ wzX11_init := List.mem_cons_of_mem _ (List.mem_append_left _ (List.mem_of_getElem? (i := 6) rfl))
theorem k_X11_init_initialized_RX10 : Cond.initialized RX10 ∈ wzX11_init := List.mem_cons_of_mem _ (List.mem_append_left _ (List.mem_of_getElem? (i := 7) rfl))
theorem k_X11_init_methodLink_RX11_15_yX10_init : Cond.methodLink RX11 15 yX10_init ∈ wzX11_init := List.mem_cons_of_mem _ (List.mem_append_left _ (List.mem_of_getElem? (i := 8) rfl))
theorem k_X11_init_instanceMethod_yX10_init : Cond.instanceMethod yX10_init ∈ wzX11_init := List.mem_cons_of_mem _ (List.mem_append_left _ (List.mem_of_getElem? (i := 9) rfl))
theorem k_X11_init_fieldLink_RX11_16_SR_told_LSR_Told : Cond.fieldLink RX11 16 "StatementRules2" "told" "LStatementRules2$Told;" ∈ wzX11_init := List.mem_cons_of_mem _ (List.mem_append_left _ (List.mem_of_getElem? (i := 10) rfl))
theorem df_X0 : ∀ j, j < 13 → defaultValue (tyX0 j) = vp_V [.null, .null, .null, .null, .null, .int 0, .int 0, .int 0, .int 0, .int 0, .int 0, .int 0, .int 0] j := by decide +kernel
theorem i_X11_init_X0 : ∀ w ∈ wsX00, w ∈ wzX11_init := fun _ h => List.mem_cons_of_mem _ (List.mem_append_right _ (List.mem_append_right _ (List.mem_append_right _ (List.mem_append_left _ (h)))))
theorem k_X11_init_classLink_RX11_20_RX0 : Cond.classLink RX11 20 RX0 ∈ wzX11_init := List.mem_cons_of_mem _ (List.mem_append_left _ (List.mem_of_getElem? (i := 11) rfl))
theorem k_X11_init_instantiable_RX0_13 : Cond.instantiable RX0 13 ∈ wzX11_init := List.mem_cons_of_mem _ (List.mem_append_left _ (List.mem_of_getElem? (i := 12) rfl))
theorem k_X11_init_initialized_RX0 : Cond.initialized RX0 ∈ wzX11_init := List.mem_cons_of_mem _ (List.mem_append_left _ (List.mem_of_getElem? (i := 13) rfl))
theorem k_X11_init_instanceMethod_yX0_init : Cond.instanceMethod yX0_init ∈ wzX11_init := List.mem_cons_of_mem _ (List.mem_append_left _ (List.mem_of_getElem? (i := 14) rfl))
theorem k_X11_init_fieldLink_RX11_23_SR_code_LSR_Code : Cond.fieldLink RX11 23 "StatementRules2" "code" "LStatementRules2$Code;" ∈ wzX11_init := List.mem_cons_of_mem _ (List.mem_append_left _ (List.mem_of_getElem? (i := 15) rfl))
theorem df_X7 : ∀ j, j < 11 → defaultValue (tyX7 j) = vp_V [.null, .null, .null, .null, .int 0, .int 0, .int 0, .null, .int 0, .int 0, .int 0] j := by decide +kernel
theorem i_X11_init_X7 : ∀ w ∈ wsX70, w ∈ wzX11_init := fun _ h => List.mem_cons_of_mem _ (List.mem_append_right _ (List.mem_append_right _ (List.mem_append_right _ (List.mem_append_right _ (List.mem_append_left _ (h))))))
theorem k_X11_init_classLink_RX11_27_RX7 : Cond.classLink RX11 27 RX7 ∈ wzX11_init := List.mem_cons_of_mem _ (List.mem_append_left _ (List.mem_of_getElem? (i := 16) rfl))
theorem k_X11_init_instantiable_RX7_11 : Cond.instantiable RX7 11 ∈ wzX11_init := List.mem_cons_of_mem _ (List.mem_append_left _ (List.mem_of_getElem? (i := 17) rfl))
theorem k_X11_init_initialized_RX7 : Cond.initialized RX7 ∈ wzX11_init := List.mem_cons_of_mem _ (List.mem_append_left _ (List.mem_of_getElem? (i := 18) rfl))
theorem df_X9 : ∀ j, j < 8 → defaultValue (tyX9 j) = vp_V [.null, .null, .int 0, .int 0, .int 0, .int 0, .int 0, .long 0] j := by decide +kernel
theorem i_X11_init_X9 : ∀ w ∈ wsX90, w ∈ wzX11_init := fun _ h => List.mem_cons_of_mem _ (List.mem_append_right _ (List.mem_append_right _ (List.mem_append_right _ (List.mem_append_right _ (List.mem_append_right _ (List.mem_append_left _ (h)))))))
theorem k_X11_init_classLink_RX11_29_RX9 : Cond.classLink RX11 29 RX9 ∈ wzX11_init := List.mem_cons_of_mem _ (List.mem_append_left _ (List.mem_of_getElem? (i := 19) rfl))
theorem k_X11_init_instantiable_RX9_8 : Cond.instantiable RX9 8 ∈ wzX11_init := List.mem_cons_of_mem _ (List.mem_append_left _ (List.mem_of_getElem? (i := 20) rfl))
theorem k_X11_init_initialized_RX9 : Cond.initialized RX9 ∈ wzX11_init := List.mem_cons_of_mem _ (List.mem_append_left _ (List.mem_of_getElem? (i := 21) rfl))
theorem k_X11_init_methodLink_RX11_31_yX9_init : Cond.methodLink RX11 31 yX9_init ∈ wzX11_init := List.mem_cons_of_mem _ (List.mem_append_left _ (List.mem_of_getElem? (i := 22) rfl))
theorem k_X11_init_instanceMethod_yX9_init : Cond.instanceMethod yX9_init ∈ wzX11_init := List.mem_cons_of_mem _ (List.mem_append_left _ (List.mem_of_getElem? (i := 23) rfl))
theorem k_X11_init_methodLink_RX11_34_yX7_init : Cond.methodLink RX11 34 yX7_init ∈ wzX11_init := List.mem_cons_of_mem _ (List.mem_append_left _ (List.mem_of_getElem? (i := 24) rfl))
theorem k_X11_init_instanceMethod_yX7_init : Cond.instanceMethod yX7_init ∈ wzX11_init := List.mem_cons_of_mem _ (List.mem_append_left _ (List.mem_of_getElem? (i := 25) rfl))
theorem k_X11_init_fieldLink_RX11_37_SR_reader_LSR_Statements : Cond.fieldLink RX11 37 "StatementRules2" "reader" "LStatementRules2$Statements;" ∈ wzX11_init := List.mem_cons_of_mem _ (List.mem_append_left _ (List.mem_of_getElem? (i := 26) rfl))
theorem df_X3 : ∀ j, j < 20 → defaultValue (tyX3 j) = vp_V [.null, .null, .null, .null, .null, .null, .null, .null, .int 0, .int 0, .int 0, .int 0, .int 0, .int 0, .int 0, .int 0, .int 0, .int 0, .int 0, .null] j := by decide +kernel
theorem i_X11_init_X3 : ∀ w ∈ wsX30, w ∈ wzX11_init := fun _ h => List.mem_cons_of_mem _ (List.mem_append_right _ (List.mem_append_right _ (List.mem_append_right _ (List.mem_append_right _ (List.mem_append_right _ (List.mem_append_right _ (List.mem_append_left _ (h))))))))
theorem k_X11_init_classLink_RX11_41_RX3 : Cond.classLink RX11 41 RX3 ∈ wzX11_init := List.mem_cons_of_mem _ (List.mem_append_left _ (List.mem_of_getElem? (i := 27) rfl))
theorem k_X11_init_instantiable_RX3_20 : Cond.instantiable RX3 20 ∈ wzX11_init := List.mem_cons_of_mem _ (List.mem_append_left _ (List.mem_of_getElem? (i := 28) rfl))
theorem k_X11_init_initialized_RX3 : Cond.initialized RX3 ∈ wzX11_init := List.mem_cons_of_mem _ (List.mem_append_left _ (List.mem_of_getElem? (i := 29) rfl))
theorem k_X11_init_methodLink_RX11_43_yX3_init : Cond.methodLink RX11 43 yX3_init ∈ wzX11_init := List.mem_cons_of_mem _ (List.mem_append_left _ (List.mem_of_getElem? (i := 30) rfl))
theorem k_X11_init_instanceMethod_yX3_init : Cond.instanceMethod yX3_init ∈ wzX11_init := List.mem_cons_of_mem _ (List.mem_append_left _ (List.mem_of_getElem? (i := 31) rfl))
theorem k_X11_init_fieldLink_RX11_46_SR_machine_LSR_Machine : Cond.fieldLink RX11 46 "StatementRules2" "machine" "LStatementRules2$Machine;" ∈ wzX11_init := List.mem_cons_of_mem _ (List.mem_append_left _ (List.mem_of_getElem? (i := 32) rfl))
set_option maxHeartbeats 4000000 in
set_option maxRecDepth 100000 in
theorem c_X11_init (l : Launch) (dC : Nat → ClassId) (dI : Nat → Nat → Nat) (sz : Nat) (h0 : Nat) (aS : Nat) (aV : Nat) : Met l yX11_init wzX11_init ({ frames := 6, cells := 29, slots := 8125, locals := 360 }) (va_Pc [.ref h0] (zPreS dC dI sz [(h0, .inr (10, [.null, .null, .null, .null, .null, .int 0, .int 0, .int 0, .int 0]))] [] aS aV)) (va_Qv (fun (_ : Unit) => True) (fun (_ : Unit) (t : State) => ∃ (qt : Nat), ∃ (q10 : Nat), ∃ (q0 : Nat), ∃ (q7 : Nat), ∃ (q3 : Nat), ∃ (q9 : Nat), ∃ (qy : Nat), ∃ (q4 : Nat), ∃ (q6 : Nat), ∃ (kt : ClassId), ∃ (ky : ClassId), ∃ (ta : Nat), ∃ (tn : Nat), ∃ (to : Nat), ∃ (tc : Nat), ∃ (kta : ClassId), ∃ (ktn : ClassId), ∃ (kto : ClassId), ∃ (ktc : ClassId), ∃ (fo : Nat → Int32), ∃ (fc : Nat → Int32), ∃ (co : Nat), ∃ (ca : Nat), ∃ (ct : Nat), ∃ (cv : Nat), ∃ (cw : Nat), ∃ (kco : ClassId), ∃ (kca : ClassId), ∃ (kct : ClassId), ∃ (kcv : ClassId), ∃ (kcw : ClassId), ∃ (nn : Nat), ∃ (nc : Nat), ∃ (nf : Nat), ∃ (knn : ClassId), ∃ (knc : ClassId), ∃ (knf : ClassId), ∃ (qr : Nat), ∃ (qj : Nat), ∃ (kr : ClassId), ∃ (kj : ClassId), ∃ (qM0 : Nat), ∃ (kM0 : ClassId), ∃ (qM1 : Nat), ∃ (kM1 : ClassId), ∃ (qM2 : Nat), ∃ (kM2 : ClassId), ∃ (qM3 : Nat), ∃ (kM3 : ClassId), ∃ (qM4 : Nat), ∃ (kM4 : ClassId), ∃ (qM5 : Nat), ∃ (kM5 : ClassId), zPost dC dI (va_A [(h0, .inr (10, [.null, .null, .null, .null, .null, .int 0, .int 0, .int 0, .int 0]))] sz) [(h0, .inr (10, [.ref qt, .ref q10, .ref q0, .ref q7, .ref q3, .int 0, .int 0, .int 0, .int 0])), (q10, .inr (9, [.ref ta, .ref tn, .ref to, .ref tc, .int 4, .int 0])), (q0, .inr (0, [.ref co, .ref ca, .ref ct, .ref cv, .ref cw, .int 0, .int 0, .int 0, .int 0, .int 0, .int 0, .int 0, .int 0])), (q7, .inr (6, [.ref q9, .ref q0, .ref q10, .ref q4, .int 0, .int 0, .int 0, .ref q6, .int 0, .int 0, .int 0])), (q9, .inr (8, [.ref qt, .ref qy, .int 0, .int 0, .int 0, .int 0, .int 0, .long 0])), (q4, .inr (3, [.ref nn, .ref nc, .ref nf, .int 0])), (q6, .inr (5, [.ref qr, .ref qj, .int 0, .int 0, .int 0, .int 0])), (q3, .inr (2, [.ref q10, .ref q0, .ref qM0, .ref qM1, .ref qM2, .ref qM3, .ref qM4, .ref qM5, .int 0, .int 0, .int 0, .int 0, .int 0, .int 0, .int 0, .int 0, .int 0, .int 0, .int 0, .null])), (qt, .inl (kt, 900, .inl (fun _ => 0))), (ta, .inl (kta, 12, .inl (upd (fun _ => 0) 0 (-1)))), (tn, .inl (ktn, 8, .inl (fun _ => 0))), (to, .inl (kto, 8, .inl fo)), (tc, .inl (ktc, 8, .inl fc)), (co, .inl (kco, 1200, .inl (fun _ => 0))), (ca, .inl (kca, 1200, .inl (fun _ => 0))), (ct, .inl (kct, 1024, .inl (fun _ => 0))), (cv, .inl (kcv, 320, .inl (fun _ => 0))), (cw, .inl (kcw, 320, .inl (fun _ => 0))), (qy, .inl (ky, 25, .inr (.inl (zF 137)))), (nn, .inl (knn, 128, .inr (.inl (fun _ => 0)))), (nc, .inl (knc, 128, .inl (fun _ => 0))), (nf, .inl (knf, 128, .inl (fun _ => 0))), (qr, .inl (kr, 400, .inr (.inr (.inr (.inr (fun _ => none)))))), (qj, .inl (kj, 160, .inl (fun _ => 0))), (qM0, .inl (kM0, 720, .inl (fun _ => 0))), (qM1, .inl (kM1, 600, .inl (fun _ => 0))), (qM2, .inl (kM2, 24, .inr (.inr (.inr (.inr (fun _ => none)))))), (qM3, .inl (kM3, 24, .inr (.inr (.inr (.inr (fun _ => none)))))), (qM4, .inl (kM4, 320, .inl (fun _ => 0))), (qM5, .inl (kM5, 400, .inl (fun _ => 0)))] [(kt, .int), (kta, .int), (ktn, .int), (kto, .int), (ktc, .int), (kco, .int), (kca, .int), (kct, .int), (kcv, .int), (kcw, .int), (ky, .long), (knn, .long), (knc, .int), (knf, .int), (kr, .object "StatementRules2$Open"), (kj, .int), (kM0, .int), (kM1, .int), (kM2, .object "StatementRules2$Frame"), (kM3, .object "StatementRules2$Thrown"), (kM4, .int), (kM5, .int)] t) (va_A [(h0, .inr (10, [.null, .null, .null, .null, .null, .int 0, .int 0, .int 0, .int 0]))] sz)) 29 8125 (va_A [(h0, .inr (10, [.null, .null, .null, .null, .null, .int 0, .int 0, .int 0, .int 0]))] sz) := by
  refine Met.ofW (cc := cX11_init) (maxL := 1) (ret := none) (by decide) rfl ?_
  intro p e s m args below meth c s₁ B hml hv
  obtain ⟨rfl, ⟨hsz, hZ, hP, hK, hD0⟩, hX⟩ := hv
  have hx := B.exec
  have hb := B.bytes
  have hr := B.returns
  have hts := atoms_spec (ws := wzX11_init) B.pre
  have hown : s.vm.findClass RX11 = some m.cls := findClass_of_methodNamed B.named
  have hlocks := B.notSynchronized
  have hin : meth.name = "<init>" := (name_of_methodNamed B.named B.method).1
  subst hsz
  have hD := hD0.self (sz := s.heap.size)
  generalize hAe : va_A [(h0, .inr (10, [.null, .null, .null, .null, .null, .int 0, .int 0, .int 0, .int 0]))] s.heap.size = A at hD hX ⊢
  have hA : ∀ q : Nat, s.heap.size ≤ q → A q := fun q h => by rw [← hAe]; exact Or.inr h
  have hS : va_S A s.heap s.heap [] := va_S.rf
  have hP : va_P (dC, dI) vwCl [(h0, .inr (10, [.null, .null, .null, .null, .null, .int 0, .int 0, .int 0, .int 0]))] s.heap := hP
  have hl := lv_entry ([.ref h0]) (n := 1) (Nat.le_of_ble_eq_true rfl)
  rw [lg_entry_eq]
  generalize (lg_sl ([.ref h0]) ++ List.replicate (1 - (lg_sl ([.ref h0])).length) Slot.unset).toArray = ls at hl ⊢
  have hl : lv_has ls 1 [(0, .ref h0)] := hl
  refine lv_aload_n hx hb dX11_init_0 rfl (lv_at hl 0 rfl) ?_
  refine W.objInit hx hb hown (hts (.methodLink RX11 1 objectInit) k_X11_init_methodLink_RX11_1_objectInit) (hts (.instanceMethod objectInit) k_X11_init_instanceMethod_objectInit) (hts (.code objectInit ⟨#[0xb1]⟩ 1 none) k_X11_init_code_objectInit_0xb1_1_none) rfl (by rw [hml]; exact hl.1) rfl dX11_init_1 (Nat.le_of_ble_eq_true rfl) (Nat.le_of_ble_eq_true rfl) ?_
  refine W.eq (g2 := F0 m 4 ls []) rfl ?_
  refine lv_aload_n hx hb dX11_init_4 rfl (lv_at hl 0 rfl) ?_
  refine lv_sipush (v := 900) hx hb dX11_init_5 (by decide) ?_
  refine va_newa (atype := .int) (ty := .int) (N' := 900) (a0 := (900, .inl (fun _ => 0))) hx hb (hts (.arrayClass .int) k_X11_init_arrayClass_int) rfl hK hP hD hS hA (z_newi 900) (by decide) (by decide) (by decide) (Nat.le_of_ble_eq_true rfl) (Nat.le_of_ble_eq_true rfl) dX11_init_8 (fun q1 kq1 H hK hP hD hS => ?_)
  refine W.widen (k := 1) (n := 900) (by omega) (by omega) ?_
  have hP : va_P (dC, dI) vwCl [(h0, .inr (10, [.null, .null, .null, .null, .null, .int 0, .int 0, .int 0, .int 0])), (q1, .inl (kq1, 900, .inl (fun _ => 0)))] H := hP
  have hD : va_D A [(h0, .inr (10, [.null, .null, .null, .null, .null, .int 0, .int 0, .int 0, .int 0])), (q1, .inl (kq1, 900, .inl (fun _ => 0)))] := hD
  have hK : va_K (dC, dI) vwCl [(kq1, .int)] s := hK
  refine va_putF (D := (dC, dI)) (ci := 10) (v := .ref q1) (ty := (.array .int)) (C := RX11) (T := TX11) (N := 9) hx hb hts i_X11_init_X11 tyX11 tyX11_ok nmX11 hown hK hP hD hS 0 rfl rfl 0 (by decide) (hts (.fieldLink RX11 9 "StatementRules2" "tape" "[I") k_X11_init_fieldLink_RX11_9_SR_tape_I) (fun _ h9 => h9) rfl hin rfl (by decide +kernel) rfl rfl (Nat.le_of_ble_eq_true rfl) dX11_init_10 (fun H locs hP hD hS => ?_)
  have hP : va_P (dC, dI) vwCl [(h0, .inr (10, [.ref q1, .null, .null, .null, .null, .int 0, .int 0, .int 0, .int 0])), (q1, .inl (kq1, 900, .inl (fun _ => 0)))] H := hP
  have hD : va_D A [(h0, .inr (10, [.ref q1, .null, .null, .null, .null, .int 0, .int 0, .int 0, .int 0])), (q1, .inl (kq1, 900, .inl (fun _ => 0)))] := hD
  refine lv_aload_n hx hb dX11_init_13 rfl (lv_at hl 0 rfl) ?_
  refine va_new (ci := 9) (fs := [.null, .null, .null, .null, .int 0, .int 0]) (C := RX10) (T := TX10) (N := 6) hx hb hts i_X11_init_X10 tyX10 tyX10_ok hown (hts (.classLink RX11 13 RX10) k_X11_init_classLink_RX11_13_RX10) (hts (.instantiable RX10 6) k_X11_init_instantiable_RX10_6) (hts (.initialized RX10) k_X11_init_initialized_RX10) hK hP hD hS hA rfl df_X10 (Nat.le_of_ble_eq_true rfl) (Nat.le_of_ble_eq_true rfl) dX11_init_14 (fun q2 H hP hD hS => ?_)
  refine W.widen (k := 2) (n := 906) (by omega) (by omega) ?_
  have hP : va_P (dC, dI) vwCl [(h0, .inr (10, [.ref q1, .null, .null, .null, .null, .int 0, .int 0, .int 0, .int 0])), (q1, .inl (kq1, 900, .inl (fun _ => 0))), (q2, .inr (9, [.null, .null, .null, .null, .int 0, .int 0]))] H := hP
  have hD : va_D A [(h0, .inr (10, [.ref q1, .null, .null, .null, .null, .int 0, .int 0, .int 0, .int 0])), (q1, .inl (kq1, 900, .inl (fun _ => 0))), (q2, .inr (9, [.null, .null, .null, .null, .int 0, .int 0]))] := hD
  refine lv_dup hx hb dX11_init_17 rfl ?_
  have hPc := hP.sub (ws' := [(q2, .inr (9, [.null, .null, .null, .null, .int 0, .int 0]))]) [2] rfl
  have hDc := hD.sub (ws' := [(q2, .inr (9, [.null, .null, .null, .null, .int 0, .int 0]))]) [2] (by decide) rfl
  have hKc := hK.sub (tys' := []) [] rfl
  have hFc := va_free (wc := [(q2, .inr (9, [.null, .null, .null, .null, .int 0, .int 0]))]) hD hS hA [2] rfl
  refine va_callv (va_runI (As := []) (rest := [.ref q2, .ref h0]) ⟨hx, hb, hml, hown, hts⟩ (c_X10_init l dC dI _ q2) (cwI 0 hts hX11_init_X10_init_i15 rfl rfl rfl (hts (.initialized RX10) k_X11_init_initialized_RX10) (hts (.methodLink RX11 15 yX10_init) k_X11_init_methodLink_RX11_15_yX10_init) (hts (.instanceMethod yX10_init) k_X11_init_instanceMethod_yX10_init) rfl (by decide +kernel) ⟨Nat.le_of_ble_eq_true rfl, Nat.le_of_ble_eq_true rfl⟩) ⟨zPre.blind, zPre.go hZ hPc hKc hDc⟩ rfl rfl hl.1 rfl (lv_room (Nat.le_of_ble_eq_true rfl)) dX11_init_18 ⟨Nat.le_of_ble_eq_true rfl, Nat.le_of_ble_eq_true rfl⟩) hS (fun q _ h => hFc q h) hFc (fun u9 t9 H1 locs ht hvm hw hB hz1 hk1 hS => ?_)
  obtain ⟨qa_4, kA_5, qn_6, kn_7, qo_8, ko_9, qc_10, kc_11, fo_12, fc_13, hP1, hK1, hD1⟩ := hB
  rw [ht] at hP1
  have hK1 := va_K.moved hvm.symm hK1
  obtain ⟨hP, hD⟩ := va_join (wr := [(h0, .inr (10, [.ref q1, .null, .null, .null, .null, .int 0, .int 0, .int 0, .int 0])), (q1, .inl (kq1, 900, .inl (fun _ => 0)))]) (w1 := [(q2, .inr (9, [.ref qa_4, .ref qn_6, .ref qo_8, .ref qc_10, .int 4, .int 0])), (qa_4, .inl (kA_5, 12, .inl (upd (fun _ => 0) 0 (-1)))), (qn_6, .inl (kn_7, 8, .inl (fun _ => 0))), (qo_8, .inl (ko_9, 8, .inl fo_12)), (qc_10, .inl (kc_11, 8, .inl fc_13))]) hP hD [2] [0, 1] rfl rfl (by decide) (by decide) hk1 hFc hP1 hD1
  have hK := hK.app hK1
  generalize H1 = H at hP hS ⊢
  have hP : va_P (dC, dI) vwCl [(h0, .inr (10, [.ref q1, .null, .null, .null, .null, .int 0, .int 0, .int 0, .int 0])), (q1, .inl (kq1, 900, .inl (fun _ => 0))), (q2, .inr (9, [.ref qa_4, .ref qn_6, .ref qo_8, .ref qc_10, .int 4, .int 0])), (qa_4, .inl (kA_5, 12, .inl (upd (fun _ => 0) 0 (-1)))), (qn_6, .inl (kn_7, 8, .inl (fun _ => 0))), (qo_8, .inl (ko_9, 8, .inl fo_12)), (qc_10, .inl (kc_11, 8, .inl fc_13))] H := hP
  have hD : va_D A [(h0, .inr (10, [.ref q1, .null, .null, .null, .null, .int 0, .int 0, .int 0, .int 0])), (q1, .inl (kq1, 900, .inl (fun _ => 0))), (q2, .inr (9, [.ref qa_4, .ref qn_6, .ref qo_8, .ref qc_10, .int 4, .int 0])), (qa_4, .inl (kA_5, 12, .inl (upd (fun _ => 0) 0 (-1)))), (qn_6, .inl (kn_7, 8, .inl (fun _ => 0))), (qo_8, .inl (ko_9, 8, .inl fo_12)), (qc_10, .inl (kc_11, 8, .inl fc_13))] := hD
  have hK : va_K (dC, dI) vwCl [(kq1, .int), (kA_5, .int), (kn_7, .int), (ko_9, .int), (kc_11, .int)] s := hK
  refine W.widen (k := 6) (n := 942) (by omega) (by omega) ?_
  refine va_putF (D := (dC, dI)) (ci := 10) (v := .ref q2) (ty := (.object "StatementRules2$Told")) (C := RX11) (T := TX11) (N := 9) hx hb hts i_X11_init_X11 tyX11 tyX11_ok nmX11 hown hK hP hD hS 0 rfl rfl 1 (by decide) (hts (.fieldLink RX11 16 "StatementRules2" "told" "LStatementRules2$Told;") k_X11_init_fieldLink_RX11_16_SR_told_LSR_Told) (fun _ h9 => h9) rfl hin rfl (by decide +kernel) rfl rfl (Nat.le_of_ble_eq_true rfl) dX11_init_21 (fun H locs hP hD hS => ?_)
  have hP : va_P (dC, dI) vwCl [(h0, .inr (10, [.ref q1, .ref q2, .null, .null, .null, .int 0, .int 0, .int 0, .int 0])), (q1, .inl (kq1, 900, .inl (fun _ => 0))), (q2, .inr (9, [.ref qa_4, .ref qn_6, .ref qo_8, .ref qc_10, .int 4, .int 0])), (qa_4, .inl (kA_5, 12, .inl (upd (fun _ => 0) 0 (-1)))), (qn_6, .inl (kn_7, 8, .inl (fun _ => 0))), (qo_8, .inl (ko_9, 8, .inl fo_12)), (qc_10, .inl (kc_11, 8, .inl fc_13))] H := hP
  have hD : va_D A [(h0, .inr (10, [.ref q1, .ref q2, .null, .null, .null, .int 0, .int 0, .int 0, .int 0])), (q1, .inl (kq1, 900, .inl (fun _ => 0))), (q2, .inr (9, [.ref qa_4, .ref qn_6, .ref qo_8, .ref qc_10, .int 4, .int 0])), (qa_4, .inl (kA_5, 12, .inl (upd (fun _ => 0) 0 (-1)))), (qn_6, .inl (kn_7, 8, .inl (fun _ => 0))), (qo_8, .inl (ko_9, 8, .inl fo_12)), (qc_10, .inl (kc_11, 8, .inl fc_13))] := hD
  refine lv_aload_n hx hb dX11_init_24 rfl (lv_at hl 0 rfl) ?_
  refine va_new (ci := 0) (fs := [.null, .null, .null, .null, .null, .int 0, .int 0, .int 0, .int 0, .int 0, .int 0, .int 0, .int 0]) (C := RX0) (T := TX0) (N := 13) hx hb hts i_X11_init_X0 tyX0 tyX0_ok hown (hts (.classLink RX11 20 RX0) k_X11_init_classLink_RX11_20_RX0) (hts (.instantiable RX0 13) k_X11_init_instantiable_RX0_13) (hts (.initialized RX0) k_X11_init_initialized_RX0) hK hP hD hS hA rfl df_X0 (Nat.le_of_ble_eq_true rfl) (Nat.le_of_ble_eq_true rfl) dX11_init_25 (fun q14 H hP hD hS => ?_)
  refine W.widen (k := 7) (n := 955) (by omega) (by omega) ?_
  have hP : va_P (dC, dI) vwCl [(h0, .inr (10, [.ref q1, .ref q2, .null, .null, .null, .int 0, .int 0, .int 0, .int 0])), (q1, .inl (kq1, 900, .inl (fun _ => 0))), (q2, .inr (9, [.ref qa_4, .ref qn_6, .ref qo_8, .ref qc_10, .int 4, .int 0])), (qa_4, .inl (kA_5, 12, .inl (upd (fun _ => 0) 0 (-1)))), (qn_6, .inl (kn_7, 8, .inl (fun _ => 0))), (qo_8, .inl (ko_9, 8, .inl fo_12)), (qc_10, .inl (kc_11, 8, .inl fc_13)), (q14, .inr (0, [.null, .null, .null, .null, .null, .int 0, .int 0, .int 0, .int 0, .int 0, .int 0, .int 0, .int 0]))] H := hP
  have hD : va_D A [(h0, .inr (10, [.ref q1, .ref q2, .null, .null, .null, .int 0, .int 0, .int 0, .int 0])), (q1, .inl (kq1, 900, .inl (fun _ => 0))), (q2, .inr (9, [.ref qa_4, .ref qn_6, .ref qo_8, .ref qc_10, .int 4, .int 0])), (qa_4, .inl (kA_5, 12, .inl (upd (fun _ => 0) 0 (-1)))), (qn_6, .inl (kn_7, 8, .inl (fun _ => 0))), (qo_8, .inl (ko_9, 8, .inl fo_12)), (qc_10, .inl (kc_11, 8, .inl fc_13)), (q14, .inr (0, [.null, .null, .null, .null, .null, .int 0, .int 0, .int 0, .int 0, .int 0, .int 0, .int 0, .int 0]))] := hD
  refine lv_dup hx hb dX11_init_28 rfl ?_
  have hPc := hP.sub (ws' := [(q14, .inr (0, [.null, .null, .null, .null, .null, .int 0, .int 0, .int 0, .int 0, .int 0, .int 0, .int 0, .int 0]))]) [7] rfl
  have hDc := hD.sub (ws' := [(q14, .inr (0, [.null, .null, .null, .null, .null, .int 0, .int 0, .int 0, .int 0, .int 0, .int 0, .int 0, .int 0]))]) [7] (by decide) rfl
  have hKc := hK.sub (tys' := []) [] rfl
  have hFc := va_free (wc := [(q14, .inr (0, [.null, .null, .null, .null, .null, .int 0, .int 0, .int 0, .int 0, .int 0, .int 0, .int 0, .int 0]))]) hD hS hA [7] rfl
  refine va_callv (va_runIN (As := []) (rest := [.ref q14, .ref h0]) ⟨hx, hb, hml, hown, hts⟩ (c_X0_init l dC dI _ q14) ⟨va_cnB 0 hts hX11_init_X0_init_n22 rfl rfl rfl (hZ.1 (.methodLinkNest RX11 22 yX0_init "StatementRules2") (by decide +kernel)) (hts (.initialized RX0) k_X11_init_initialized_RX0) (by decide +kernel) ⟨Nat.le_of_ble_eq_true rfl, Nat.le_of_ble_eq_true rfl⟩, rfl, (hts (.instanceMethod yX0_init) k_X11_init_instanceMethod_yX0_init)⟩ ⟨zPre.blind, zPre.go hZ hPc hKc hDc⟩ rfl rfl hl.1 rfl (lv_room (Nat.le_of_ble_eq_true rfl)) dX11_init_29 ⟨Nat.le_of_ble_eq_true rfl, Nat.le_of_ble_eq_true rfl⟩) hS (fun q _ h => hFc q h) hFc (fun u9 t9 H1 locs ht hvm hw hB hz1 hk1 hS => ?_)
  obtain ⟨qo_16, qa_17, qt_18, qv_19, qw_20, ko_21, ka_22, kt_23, kv_24, kw_25, hP1, hK1, hD1⟩ := hB
  rw [ht] at hP1
  have hK1 := va_K.moved hvm.symm hK1
  obtain ⟨hP, hD⟩ := va_join (wr := [(h0, .inr (10, [.ref q1, .ref q2, .null, .null, .null, .int 0, .int 0, .int 0, .int 0])), (q1, .inl (kq1, 900, .inl (fun _ => 0))), (q2, .inr (9, [.ref qa_4, .ref qn_6, .ref qo_8, .ref qc_10, .int 4, .int 0])), (qa_4, .inl (kA_5, 12, .inl (upd (fun _ => 0) 0 (-1)))), (qn_6, .inl (kn_7, 8, .inl (fun _ => 0))), (qo_8, .inl (ko_9, 8, .inl fo_12)), (qc_10, .inl (kc_11, 8, .inl fc_13))]) (w1 := [(q14, .inr (0, [.ref qo_16, .ref qa_17, .ref qt_18, .ref qv_19, .ref qw_20, .int 0, .int 0, .int 0, .int 0, .int 0, .int 0, .int 0, .int 0])), (qo_16, .inl (ko_21, 1200, .inl (fun _ => 0))), (qa_17, .inl (ka_22, 1200, .inl (fun _ => 0))), (qt_18, .inl (kt_23, 1024, .inl (fun _ => 0))), (qv_19, .inl (kv_24, 320, .inl (fun _ => 0))), (qw_20, .inl (kw_25, 320, .inl (fun _ => 0)))]) hP hD [7] [0, 1, 2, 3, 4, 5, 6] rfl rfl (by decide) (by decide) hk1 hFc hP1 hD1
  have hK := hK.app hK1
  generalize H1 = H at hP hS ⊢
  have hP : va_P (dC, dI) vwCl [(h0, .inr (10, [.ref q1, .ref q2, .null, .null, .null, .int 0, .int 0, .int 0, .int 0])), (q1, .inl (kq1, 900, .inl (fun _ => 0))), (q2, .inr (9, [.ref qa_4, .ref qn_6, .ref qo_8, .ref qc_10, .int 4, .int 0])), (qa_4, .inl (kA_5, 12, .inl (upd (fun _ => 0) 0 (-1)))), (qn_6, .inl (kn_7, 8, .inl (fun _ => 0))), (qo_8, .inl (ko_9, 8, .inl fo_12)), (qc_10, .inl (kc_11, 8, .inl fc_13)), (q14, .inr (0, [.ref qo_16, .ref qa_17, .ref qt_18, .ref qv_19, .ref qw_20, .int 0, .int 0, .int 0, .int 0, .int 0, .int 0, .int 0, .int 0])), (qo_16, .inl (ko_21, 1200, .inl (fun _ => 0))), (qa_17, .inl (ka_22, 1200, .inl (fun _ => 0))), (qt_18, .inl (kt_23, 1024, .inl (fun _ => 0))), (qv_19, .inl (kv_24, 320, .inl (fun _ => 0))), (qw_20, .inl (kw_25, 320, .inl (fun _ => 0)))] H := hP
  have hD : va_D A [(h0, .inr (10, [.ref q1, .ref q2, .null, .null, .null, .int 0, .int 0, .int 0, .int 0])), (q1, .inl (kq1, 900, .inl (fun _ => 0))), (q2, .inr (9, [.ref qa_4, .ref qn_6, .ref qo_8, .ref qc_10, .int 4, .int 0])), (qa_4, .inl (kA_5, 12, .inl (upd (fun _ => 0) 0 (-1)))), (qn_6, .inl (kn_7, 8, .inl (fun _ => 0))), (qo_8, .inl (ko_9, 8, .inl fo_12)), (qc_10, .inl (kc_11, 8, .inl fc_13)), (q14, .inr (0, [.ref qo_16, .ref qa_17, .ref qt_18, .ref qv_19, .ref qw_20, .int 0, .int 0, .int 0, .int 0, .int 0, .int 0, .int 0, .int 0])), (qo_16, .inl (ko_21, 1200, .inl (fun _ => 0))), (qa_17, .inl (ka_22, 1200, .inl (fun _ => 0))), (qt_18, .inl (kt_23, 1024, .inl (fun _ => 0))), (qv_19, .inl (kv_24, 320, .inl (fun _ => 0))), (qw_20, .inl (kw_25, 320, .inl (fun _ => 0)))] := hD
  have hK : va_K (dC, dI) vwCl [(kq1, .int), (kA_5, .int), (kn_7, .int), (ko_9, .int), (kc_11, .int), (ko_21, .int), (ka_22, .int), (kt_23, .int), (kv_24, .int), (kw_25, .int)] s := hK
  refine W.widen (k := 12) (n := 5019) (by omega) (by omega) ?_
  refine va_putF (D := (dC, dI)) (ci := 10) (v := .ref q14) (ty := (.object "StatementRules2$Code")) (C := RX11) (T := TX11) (N := 9) hx hb hts i_X11_init_X11 tyX11 tyX11_ok nmX11 hown hK hP hD hS 0 rfl rfl 2 (by decide) (hts (.fieldLink RX11 23 "StatementRules2" "code" "LStatementRules2$Code;") k_X11_init_fieldLink_RX11_23_SR_code_LSR_Code) (fun _ h9 => h9) rfl hin rfl (by decide +kernel) rfl rfl (Nat.le_of_ble_eq_true rfl) dX11_init_32 (fun H locs hP hD hS => ?_)
  have hP : va_P (dC, dI) vwCl [(h0, .inr (10, [.ref q1, .ref q2, .ref q14, .null, .null, .int 0, .int 0, .int 0, .int 0])), (q1, .inl (kq1, 900, .inl (fun _ => 0))), (q2, .inr (9, [.ref qa_4, .ref qn_6, .ref qo_8, .ref qc_10, .int 4, .int 0])), (qa_4, .inl (kA_5, 12, .inl (upd (fun _ => 0) 0 (-1)))), (qn_6, .inl (kn_7, 8, .inl (fun _ => 0))), (qo_8, .inl (ko_9, 8, .inl fo_12)), (qc_10, .inl (kc_11, 8, .inl fc_13)), (q14, .inr (0, [.ref qo_16, .ref qa_17, .ref qt_18, .ref qv_19, .ref qw_20, .int 0, .int 0, .int 0, .int 0, .int 0, .int 0, .int 0, .int 0])), (qo_16, .inl (ko_21, 1200, .inl (fun _ => 0))), (qa_17, .inl (ka_22, 1200, .inl (fun _ => 0))), (qt_18, .inl (kt_23, 1024, .inl (fun _ => 0))), (qv_19, .inl (kv_24, 320, .inl (fun _ => 0))), (qw_20, .inl (kw_25, 320, .inl (fun _ => 0)))] H := hP
  have hD : va_D A [(h0, .inr (10, [.ref q1, .ref q2, .ref q14, .null, .null, .int 0, .int 0, .int 0, .int 0])), (q1, .inl (kq1, 900, .inl (fun _ => 0))), (q2, .inr (9, [.ref qa_4, .ref qn_6, .ref qo_8, .ref qc_10, .int 4, .int 0])), (qa_4, .inl (kA_5, 12, .inl (upd (fun _ => 0) 0 (-1)))), (qn_6, .inl (kn_7, 8, .inl (fun _ => 0))), (qo_8, .inl (ko_9, 8, .inl fo_12)), (qc_10, .inl (kc_11, 8, .inl fc_13)), (q14, .inr (0, [.ref qo_16, .ref qa_17, .ref qt_18, .ref qv_19, .ref qw_20, .int 0, .int 0, .int 0, .int 0, .int 0, .int 0, .int 0, .int 0])), (qo_16, .inl (ko_21, 1200, .inl (fun _ => 0))), (qa_17, .inl (ka_22, 1200, .inl (fun _ => 0))), (qt_18, .inl (kt_23, 1024, .inl (fun _ => 0))), (qv_19, .inl (kv_24, 320, .inl (fun _ => 0))), (qw_20, .inl (kw_25, 320, .inl (fun _ => 0)))] := hD
  refine lv_aload_n hx hb dX11_init_35 rfl (lv_at hl 0 rfl) ?_
  refine va_new (ci := 6) (fs := [.null, .null, .null, .null, .int 0, .int 0, .int 0, .null, .int 0, .int 0, .int 0]) (C := RX7) (T := TX7) (N := 11) hx hb hts i_X11_init_X7 tyX7 tyX7_ok hown (hts (.classLink RX11 27 RX7) k_X11_init_classLink_RX11_27_RX7) (hts (.instantiable RX7 11) k_X11_init_instantiable_RX7_11) (hts (.initialized RX7) k_X11_init_initialized_RX7) hK hP hD hS hA rfl df_X7 (Nat.le_of_ble_eq_true rfl) (Nat.le_of_ble_eq_true rfl) dX11_init_36 (fun q26 H hP hD hS => ?_)
  refine W.widen (k := 13) (n := 5030) (by omega) (by omega) ?_
  have hP : va_P (dC, dI) vwCl [(h0, .inr (10, [.ref q1, .ref q2, .ref q14, .null, .null, .int 0, .int 0, .int 0, .int 0])), (q1, .inl (kq1, 900, .inl (fun _ => 0))), (q2, .inr (9, [.ref qa_4, .ref qn_6, .ref qo_8, .ref qc_10, .int 4, .int 0])), (qa_4, .inl (kA_5, 12, .inl (upd (fun _ => 0) 0 (-1)))), (qn_6, .inl (kn_7, 8, .inl (fun _ => 0))), (qo_8, .inl (ko_9, 8, .inl fo_12)), (qc_10, .inl (kc_11, 8, .inl fc_13)), (q14, .inr (0, [.ref qo_16, .ref qa_17, .ref qt_18, .ref qv_19, .ref qw_20, .int 0, .int 0, .int 0, .int 0, .int 0, .int 0, .int 0, .int 0])), (qo_16, .inl (ko_21, 1200, .inl (fun _ => 0))), (qa_17, .inl (ka_22, 1200, .inl (fun _ => 0))), (qt_18, .inl (kt_23, 1024, .inl (fun _ => 0))), (qv_19, .inl (kv_24, 320, .inl (fun _ => 0))), (qw_20, .inl (kw_25, 320, .inl (fun _ => 0))), (q26, .inr (6, [.null, .null, .null, .null, .int 0, .int 0, .int 0, .null, .int 0, .int 0, .int 0]))] H := hP
  have hD : va_D A [(h0, .inr (10, [.ref q1, .ref q2, .ref q14, .null, .null, .int 0, .int 0, .int 0, .int 0])), (q1, .inl (kq1, 900, .inl (fun _ => 0))), (q2, .inr (9, [.ref qa_4, .ref qn_6, .ref qo_8, .ref qc_10, .int 4, .int 0])), (qa_4, .inl (kA_5, 12, .inl (upd (fun _ => 0) 0 (-1)))), (qn_6, .inl (kn_7, 8, .inl (fun _ => 0))), (qo_8, .inl (ko_9, 8, .inl fo_12)), (qc_10, .inl (kc_11, 8, .inl fc_13)), (q14, .inr (0, [.ref qo_16, .ref qa_17, .ref qt_18, .ref qv_19, .ref qw_20, .int 0, .int 0, .int 0, .int 0, .int 0, .int 0, .int 0, .int 0])), (qo_16, .inl (ko_21, 1200, .inl (fun _ => 0))), (qa_17, .inl (ka_22, 1200, .inl (fun _ => 0))), (qt_18, .inl (kt_23, 1024, .inl (fun _ => 0))), (qv_19, .inl (kv_24, 320, .inl (fun _ => 0))), (qw_20, .inl (kw_25, 320, .inl (fun _ => 0))), (q26, .inr (6, [.null, .null, .null, .null, .int 0, .int 0, .int 0, .null, .int 0, .int 0, .int 0]))] := hD
  refine lv_dup hx hb dX11_init_39 rfl ?_
  refine va_new (ci := 8) (fs := [.null, .null, .int 0, .int 0, .int 0, .int 0, .int 0, .long 0]) (C := RX9) (T := TX9) (N := 8) hx hb hts i_X11_init_X9 tyX9 tyX9_ok hown (hts (.classLink RX11 29 RX9) k_X11_init_classLink_RX11_29_RX9) (hts (.instantiable RX9 8) k_X11_init_instantiable_RX9_8) (hts (.initialized RX9) k_X11_init_initialized_RX9) hK hP hD hS hA rfl df_X9 (Nat.le_of_ble_eq_true rfl) (Nat.le_of_ble_eq_true rfl) dX11_init_40 (fun q27 H hP hD hS => ?_)
  refine W.widen (k := 14) (n := 5038) (by omega) (by omega) ?_
  have hP : va_P (dC, dI) vwCl [(h0, .inr (10, [.ref q1, .ref q2, .ref q14, .null, .null, .int 0, .int 0, .int 0, .int 0])), (q1, .inl (kq1, 900, .inl (fun _ => 0))), (q2, .inr (9, [.ref qa_4, .ref qn_6, .ref qo_8, .ref qc_10, .int 4, .int 0])), (qa_4, .inl (kA_5, 12, .inl (upd (fun _ => 0) 0 (-1)))), (qn_6, .inl (kn_7, 8, .inl (fun _ => 0))), (qo_8, .inl (ko_9, 8, .inl fo_12)), (qc_10, .inl (kc_11, 8, .inl fc_13)), (q14, .inr (0, [.ref qo_16, .ref qa_17, .ref qt_18, .ref qv_19, .ref qw_20, .int 0, .int 0, .int 0, .int 0, .int 0, .int 0, .int 0, .int 0])), (qo_16, .inl (ko_21, 1200, .inl (fun _ => 0))), (qa_17, .inl (ka_22, 1200, .inl (fun _ => 0))), (qt_18, .inl (kt_23, 1024, .inl (fun _ => 0))), (qv_19, .inl (kv_24, 320, .inl (fun _ => 0))), (qw_20, .inl (kw_25, 320, .inl (fun _ => 0))), (q26, .inr (6, [.null, .null, .null, .null, .int 0, .int 0, .int 0, .null, .int 0, .int 0, .int 0])), (q27, .inr (8, [.null, .null, .int 0, .int 0, .int 0, .int 0, .int 0, .long 0]))] H := hP
  have hD : va_D A [(h0, .inr (10, [.ref q1, .ref q2, .ref q14, .null, .null, .int 0, .int 0, .int 0, .int 0])), (q1, .inl (kq1, 900, .inl (fun _ => 0))), (q2, .inr (9, [.ref qa_4, .ref qn_6, .ref qo_8, .ref qc_10, .int 4, .int 0])), (qa_4, .inl (kA_5, 12, .inl (upd (fun _ => 0) 0 (-1)))), (qn_6, .inl (kn_7, 8, .inl (fun _ => 0))), (qo_8, .inl (ko_9, 8, .inl fo_12)), (qc_10, .inl (kc_11, 8, .inl fc_13)), (q14, .inr (0, [.ref qo_16, .ref qa_17, .ref qt_18, .ref qv_19, .ref qw_20, .int 0, .int 0, .int 0, .int 0, .int 0, .int 0, .int 0, .int 0])), (qo_16, .inl (ko_21, 1200, .inl (fun _ => 0))), (qa_17, .inl (ka_22, 1200, .inl (fun _ => 0))), (qt_18, .inl (kt_23, 1024, .inl (fun _ => 0))), (qv_19, .inl (kv_24, 320, .inl (fun _ => 0))), (qw_20, .inl (kw_25, 320, .inl (fun _ => 0))), (q26, .inr (6, [.null, .null, .null, .null, .int 0, .int 0, .int 0, .null, .int 0, .int 0, .int 0])), (q27, .inr (8, [.null, .null, .int 0, .int 0, .int 0, .int 0, .int 0, .long 0]))] := hD
  refine lv_dup hx hb dX11_init_43 rfl ?_
  refine lv_aload_n hx hb dX11_init_44 rfl (lv_at hl 0 rfl) ?_
  refine va_get (D := (dC, dI)) (ci := 10) (v := .ref q1) (C := RX11) (T := TX11) (N := 9) hx hb hts i_X11_init_X11 hown hK hP 0 rfl rfl 0 (by decide) (hts (.fieldLink RX11 9 "StatementRules2" "tape" "[I") k_X11_init_fieldLink_RX11_9_SR_tape_I) (fun _ h9 => h9) rfl dX11_init_45 ?_
  have hPc := hP.sub (ws' := [(q27, .inr (8, [.null, .null, .int 0, .int 0, .int 0, .int 0, .int 0, .long 0]))]) [14] rfl
  have hDc := hD.sub (ws' := [(q27, .inr (8, [.null, .null, .int 0, .int 0, .int 0, .int 0, .int 0, .long 0]))]) [14] (by decide) rfl
  have hKc := hK.sub (tys' := []) [] rfl
  have hFc := va_free (wc := [(q27, .inr (8, [.null, .null, .int 0, .int 0, .int 0, .int 0, .int 0, .long 0]))]) hD hS hA [14] rfl
  refine va_callv (va_runI (As := [.ref q1]) (rest := [.ref q27, .ref q26, .ref q26, .ref h0]) ⟨hx, hb, hml, hown, hts⟩ (c_X9_init l dC dI _ q27 q1 aS aV) (cwI 1 hts hX11_init_X9_init_i31 rfl rfl rfl (hts (.initialized RX9) k_X11_init_initialized_RX9) (hts (.methodLink RX11 31 yX9_init) k_X11_init_methodLink_RX11_31_yX9_init) (hts (.instanceMethod yX9_init) k_X11_init_instanceMethod_yX9_init) rfl (by decide +kernel) ⟨Nat.le_of_ble_eq_true rfl, Nat.le_of_ble_eq_true rfl⟩) ⟨zPreS.blind, zPreS.go hX hS hFc hZ hPc hKc hDc⟩ rfl rfl hl.1 rfl (lv_room (Nat.le_of_ble_eq_true rfl)) dX11_init_48 ⟨Nat.le_of_ble_eq_true rfl, Nat.le_of_ble_eq_true rfl⟩) hS (fun q _ h => hFc q h) hFc (fun u9 t9 H1 locs ht hvm hw hB hz1 hk1 hS => ?_)
  obtain ⟨qw_29, kw_30, hP1, hK1, hD1⟩ := hB
  rw [ht] at hP1
  have hK1 := va_K.moved hvm.symm hK1
  obtain ⟨hP, hD⟩ := va_join (wr := [(h0, .inr (10, [.ref q1, .ref q2, .ref q14, .null, .null, .int 0, .int 0, .int 0, .int 0])), (q1, .inl (kq1, 900, .inl (fun _ => 0))), (q2, .inr (9, [.ref qa_4, .ref qn_6, .ref qo_8, .ref qc_10, .int 4, .int 0])), (qa_4, .inl (kA_5, 12, .inl (upd (fun _ => 0) 0 (-1)))), (qn_6, .inl (kn_7, 8, .inl (fun _ => 0))), (qo_8, .inl (ko_9, 8, .inl fo_12)), (qc_10, .inl (kc_11, 8, .inl fc_13)), (q14, .inr (0, [.ref qo_16, .ref qa_17, .ref qt_18, .ref qv_19, .ref qw_20, .int 0, .int 0, .int 0, .int 0, .int 0, .int 0, .int 0, .int 0])), (qo_16, .inl (ko_21, 1200, .inl (fun _ => 0))), (qa_17, .inl (ka_22, 1200, .inl (fun _ => 0))), (qt_18, .inl (kt_23, 1024, .inl (fun _ => 0))), (qv_19, .inl (kv_24, 320, .inl (fun _ => 0))), (qw_20, .inl (kw_25, 320, .inl (fun _ => 0))), (q26, .inr (6, [.null, .null, .null, .null, .int 0, .int 0, .int 0, .null, .int 0, .int 0, .int 0]))]) (w1 := [(q27, .inr (8, [.ref q1, .ref qw_29, .int 0, .int 0, .int 0, .int 0, .int 0, .long 0])), (qw_29, .inl (kw_30, 25, .inr (.inl (zF 137))))]) hP hD [14] [0, 1, 2, 3, 4, 5, 6, 7, 8, 9, 10, 11, 12, 13] rfl rfl (by decide) (by decide) hk1 hFc hP1 hD1
  have hK := hK.app hK1
  generalize H1 = H at hP hS ⊢
  have hP : va_P (dC, dI) vwCl [(h0, .inr (10, [.ref q1, .ref q2, .ref q14, .null, .null, .int 0, .int 0, .int 0, .int 0])), (q1, .inl (kq1, 900, .inl (fun _ => 0))), (q2, .inr (9, [.ref qa_4, .ref qn_6, .ref qo_8, .ref qc_10, .int 4, .int 0])), (qa_4, .inl (kA_5, 12, .inl (upd (fun _ => 0) 0 (-1)))), (qn_6, .inl (kn_7, 8, .inl (fun _ => 0))), (qo_8, .inl (ko_9, 8, .inl fo_12)), (qc_10, .inl (kc_11, 8, .inl fc_13)), (q14, .inr (0, [.ref qo_16, .ref qa_17, .ref qt_18, .ref qv_19, .ref qw_20, .int 0, .int 0, .int 0, .int 0, .int 0, .int 0, .int 0, .int 0])), (qo_16, .inl (ko_21, 1200, .inl (fun _ => 0))), (qa_17, .inl (ka_22, 1200, .inl (fun _ => 0))), (qt_18, .inl (kt_23, 1024, .inl (fun _ => 0))), (qv_19, .inl (kv_24, 320, .inl (fun _ => 0))), (qw_20, .inl (kw_25, 320, .inl (fun _ => 0))), (q26, .inr (6, [.null, .null, .null, .null, .int 0, .int 0, .int 0, .null, .int 0, .int 0, .int 0])), (q27, .inr (8, [.ref q1, .ref qw_29, .int 0, .int 0, .int 0, .int 0, .int 0, .long 0])), (qw_29, .inl (kw_30, 25, .inr (.inl (zF 137))))] H := hP
  have hD : va_D A [(h0, .inr (10, [.ref q1, .ref q2, .ref q14, .null, .null, .int 0, .int 0, .int 0, .int 0])), (q1, .inl (kq1, 900, .inl (fun _ => 0))), (q2, .inr (9, [.ref qa_4, .ref qn_6, .ref qo_8, .ref qc_10, .int 4, .int 0])), (qa_4, .inl (kA_5, 12, .inl (upd (fun _ => 0) 0 (-1)))), (qn_6, .inl (kn_7, 8, .inl (fun _ => 0))), (qo_8, .inl (ko_9, 8, .inl fo_12)), (qc_10, .inl (kc_11, 8, .inl fc_13)), (q14, .inr (0, [.ref qo_16, .ref qa_17, .ref qt_18, .ref qv_19, .ref qw_20, .int 0, .int 0, .int 0, .int 0, .int 0, .int 0, .int 0, .int 0])), (qo_16, .inl (ko_21, 1200, .inl (fun _ => 0))), (qa_17, .inl (ka_22, 1200, .inl (fun _ => 0))), (qt_18, .inl (kt_23, 1024, .inl (fun _ => 0))), (qv_19, .inl (kv_24, 320, .inl (fun _ => 0))), (qw_20, .inl (kw_25, 320, .inl (fun _ => 0))), (q26, .inr (6, [.null, .null, .null, .null, .int 0, .int 0, .int 0, .null, .int 0, .int 0, .int 0])), (q27, .inr (8, [.ref q1, .ref qw_29, .int 0, .int 0, .int 0, .int 0, .int 0, .long 0])), (qw_29, .inl (kw_30, 25, .inr (.inl (zF 137))))] := hD
  have hK : va_K (dC, dI) vwCl [(kq1, .int), (kA_5, .int), (kn_7, .int), (ko_9, .int), (kc_11, .int), (ko_21, .int), (ka_22, .int), (kt_23, .int), (kv_24, .int), (kw_25, .int), (kw_30, .long)] s := hK
  refine W.widen (k := 15) (n := 5063) (by omega) (by omega) ?_
  refine lv_aload_n hx hb dX11_init_51 rfl (lv_at hl 0 rfl) ?_
  refine va_get (D := (dC, dI)) (ci := 10) (v := .ref q14) (C := RX11) (T := TX11) (N := 9) hx hb hts i_X11_init_X11 hown hK hP 0 rfl rfl 2 (by decide) (hts (.fieldLink RX11 23 "StatementRules2" "code" "LStatementRules2$Code;") k_X11_init_fieldLink_RX11_23_SR_code_LSR_Code) (fun _ h9 => h9) rfl dX11_init_52 ?_
  refine lv_aload_n hx hb dX11_init_55 rfl (lv_at hl 0 rfl) ?_
  refine va_get (D := (dC, dI)) (ci := 10) (v := .ref q2) (C := RX11) (T := TX11) (N := 9) hx hb hts i_X11_init_X11 hown hK hP 0 rfl rfl 1 (by decide) (hts (.fieldLink RX11 16 "StatementRules2" "told" "LStatementRules2$Told;") k_X11_init_fieldLink_RX11_16_SR_told_LSR_Told) (fun _ h9 => h9) rfl dX11_init_56 ?_
  have hPc := hP.sub (ws' := [(q26, .inr (6, [.null, .null, .null, .null, .int 0, .int 0, .int 0, .null, .int 0, .int 0, .int 0]))]) [13] rfl
  have hDc := hD.sub (ws' := [(q26, .inr (6, [.null, .null, .null, .null, .int 0, .int 0, .int 0, .null, .int 0, .int 0, .int 0]))]) [13] (by decide) rfl
  have hKc := hK.sub (tys' := []) [] rfl
  have hFc := va_free (wc := [(q26, .inr (6, [.null, .null, .null, .null, .int 0, .int 0, .int 0, .null, .int 0, .int 0, .int 0]))]) hD hS hA [13] rfl
  refine va_callv (va_runI (As := [.ref q27, .ref q14, .ref q2]) (rest := [.ref q26, .ref h0]) ⟨hx, hb, hml, hown, hts⟩ (c_X7_init l dC dI _ q26 q27 q14 q2) (cwI 3 hts hX11_init_X7_init_i34 rfl rfl rfl (hts (.initialized RX7) k_X11_init_initialized_RX7) (hts (.methodLink RX11 34 yX7_init) k_X11_init_methodLink_RX11_34_yX7_init) (hts (.instanceMethod yX7_init) k_X11_init_instanceMethod_yX7_init) rfl (by decide +kernel) ⟨Nat.le_of_ble_eq_true rfl, Nat.le_of_ble_eq_true rfl⟩) ⟨zPre.blind, zPre.go hZ hPc hKc hDc⟩ rfl rfl hl.1 rfl (lv_room (Nat.le_of_ble_eq_true rfl)) dX11_init_59 ⟨Nat.le_of_ble_eq_true rfl, Nat.le_of_ble_eq_true rfl⟩) hS (fun q _ h => hFc q h) hFc (fun u9 t9 H1 locs ht hvm hw hB hz1 hk1 hS => ?_)
  obtain ⟨q4_32, qn_33, kn_34, qc_35, kc_36, qf_37, kf_38, q6_39, qr_40, qj_41, kr_42, kj_43, hP1, hK1, hD1⟩ := hB
  rw [ht] at hP1
  have hK1 := va_K.moved hvm.symm hK1
  obtain ⟨hP, hD⟩ := va_join (wr := [(h0, .inr (10, [.ref q1, .ref q2, .ref q14, .null, .null, .int 0, .int 0, .int 0, .int 0])), (q1, .inl (kq1, 900, .inl (fun _ => 0))), (q2, .inr (9, [.ref qa_4, .ref qn_6, .ref qo_8, .ref qc_10, .int 4, .int 0])), (qa_4, .inl (kA_5, 12, .inl (upd (fun _ => 0) 0 (-1)))), (qn_6, .inl (kn_7, 8, .inl (fun _ => 0))), (qo_8, .inl (ko_9, 8, .inl fo_12)), (qc_10, .inl (kc_11, 8, .inl fc_13)), (q14, .inr (0, [.ref qo_16, .ref qa_17, .ref qt_18, .ref qv_19, .ref qw_20, .int 0, .int 0, .int 0, .int 0, .int 0, .int 0, .int 0, .int 0])), (qo_16, .inl (ko_21, 1200, .inl (fun _ => 0))), (qa_17, .inl (ka_22, 1200, .inl (fun _ => 0))), (qt_18, .inl (kt_23, 1024, .inl (fun _ => 0))), (qv_19, .inl (kv_24, 320, .inl (fun _ => 0))), (qw_20, .inl (kw_25, 320, .inl (fun _ => 0))), (q27, .inr (8, [.ref q1, .ref qw_29, .int 0, .int 0, .int 0, .int 0, .int 0, .long 0])), (qw_29, .inl (kw_30, 25, .inr (.inl (zF 137))))]) (w1 := [(q26, .inr (6, [.ref q27, .ref q14, .ref q2, .ref q4_32, .int 0, .int 0, .int 0, .ref q6_39, .int 0, .int 0, .int 0])), (q4_32, .inr (3, [.ref qn_33, .ref qc_35, .ref qf_37, .int 0])), (qn_33, .inl (kn_34, 128, .inr (.inl (fun _ => 0)))), (qc_35, .inl (kc_36, 128, .inl (fun _ => 0))), (qf_37, .inl (kf_38, 128, .inl (fun _ => 0))), (q6_39, .inr (5, [.ref qr_40, .ref qj_41, .int 0, .int 0, .int 0, .int 0])), (qr_40, .inl (kr_42, 400, .inr (.inr (.inr (.inr (fun _ => none)))))), (qj_41, .inl (kj_43, 160, .inl (fun _ => 0)))]) hP hD [13] [0, 1, 2, 3, 4, 5, 6, 7, 8, 9, 10, 11, 12, 14, 15] rfl rfl (by decide) (by decide) hk1 hFc hP1 hD1
  have hK := hK.app hK1
  generalize H1 = H at hP hS ⊢
  have hP : va_P (dC, dI) vwCl [(h0, .inr (10, [.ref q1, .ref q2, .ref q14, .null, .null, .int 0, .int 0, .int 0, .int 0])), (q1, .inl (kq1, 900, .inl (fun _ => 0))), (q2, .inr (9, [.ref qa_4, .ref qn_6, .ref qo_8, .ref qc_10, .int 4, .int 0])), (qa_4, .inl (kA_5, 12, .inl (upd (fun _ => 0) 0 (-1)))), (qn_6, .inl (kn_7, 8, .inl (fun _ => 0))), (qo_8, .inl (ko_9, 8, .inl fo_12)), (qc_10, .inl (kc_11, 8, .inl fc_13)), (q14, .inr (0, [.ref qo_16, .ref qa_17, .ref qt_18, .ref qv_19, .ref qw_20, .int 0, .int 0, .int 0, .int 0, .int 0, .int 0, .int 0, .int 0])), (qo_16, .inl (ko_21, 1200, .inl (fun _ => 0))), (qa_17, .inl (ka_22, 1200, .inl (fun _ => 0))), (qt_18, .inl (kt_23, 1024, .inl (fun _ => 0))), (qv_19, .inl (kv_24, 320, .inl (fun _ => 0))), (qw_20, .inl (kw_25, 320, .inl (fun _ => 0))), (q27, .inr (8, [.ref q1, .ref qw_29, .int 0, .int 0, .int 0, .int 0, .int 0, .long 0])), (qw_29, .inl (kw_30, 25, .inr (.inl (zF 137)))), (q26, .inr (6, [.ref q27, .ref q14, .ref q2, .ref q4_32, .int 0, .int 0, .int 0, .ref q6_39, .int 0, .int 0, .int 0])), (q4_32, .inr (3, [.ref qn_33, .ref qc_35, .ref qf_37, .int 0])), (qn_33, .inl (kn_34, 128, .inr (.inl (fun _ => 0)))), (qc_35, .inl (kc_36, 128, .inl (fun _ => 0))), (qf_37, .inl (kf_38, 128, .inl (fun _ => 0))), (q6_39, .inr (5, [.ref qr_40, .ref qj_41, .int 0, .int 0, .int 0, .int 0])), (qr_40, .inl (kr_42, 400, .inr (.inr (.inr (.inr (fun _ => none)))))), (qj_41, .inl (kj_43, 160, .inl (fun _ => 0)))] H := hP
  have hD : va_D A [(h0, .inr (10, [.ref q1, .ref q2, .ref q14, .null, .null, .int 0, .int 0, .int 0, .int 0])), (q1, .inl (kq1, 900, .inl (fun _ => 0))), (q2, .inr (9, [.ref qa_4, .ref qn_6, .ref qo_8, .ref qc_10, .int 4, .int 0])), (qa_4, .inl (kA_5, 12, .inl (upd (fun _ => 0) 0 (-1)))), (qn_6, .inl (kn_7, 8, .inl (fun _ => 0))), (qo_8, .inl (ko_9, 8, .inl fo_12)), (qc_10, .inl (kc_11, 8, .inl fc_13)), (q14, .inr (0, [.ref qo_16, .ref qa_17, .ref qt_18, .ref qv_19, .ref qw_20, .int 0, .int 0, .int 0, .int 0, .int 0, .int 0, .int 0, .int 0])), (qo_16, .inl (ko_21, 1200, .inl (fun _ => 0))), (qa_17, .inl (ka_22, 1200, .inl (fun _ => 0))), (qt_18, .inl (kt_23, 1024, .inl (fun _ => 0))), (qv_19, .inl (kv_24, 320, .inl (fun _ => 0))), (qw_20, .inl (kw_25, 320, .inl (fun _ => 0))), (q27, .inr (8, [.ref q1, .ref qw_29, .int 0, .int 0, .int 0, .int 0, .int 0, .long 0])), (qw_29, .inl (kw_30, 25, .inr (.inl (zF 137)))), (q26, .inr (6, [.ref q27, .ref q14, .ref q2, .ref q4_32, .int 0, .int 0, .int 0, .ref q6_39, .int 0, .int 0, .int 0])), (q4_32, .inr (3, [.ref qn_33, .ref qc_35, .ref qf_37, .int 0])), (qn_33, .inl (kn_34, 128, .inr (.inl (fun _ => 0)))), (qc_35, .inl (kc_36, 128, .inl (fun _ => 0))), (qf_37, .inl (kf_38, 128, .inl (fun _ => 0))), (q6_39, .inr (5, [.ref qr_40, .ref qj_41, .int 0, .int 0, .int 0, .int 0])), (qr_40, .inl (kr_42, 400, .inr (.inr (.inr (.inr (fun _ => none)))))), (qj_41, .inl (kj_43, 160, .inl (fun _ => 0)))] := hD
  have hK : va_K (dC, dI) vwCl [(kq1, .int), (kA_5, .int), (kn_7, .int), (ko_9, .int), (kc_11, .int), (ko_21, .int), (ka_22, .int), (kt_23, .int), (kv_24, .int), (kw_25, .int), (kw_30, .long), (kn_34, .long), (kc_36, .int), (kf_38, .int), (kr_42, .object "StatementRules2$Open"), (kj_43, .int)] s := hK
  refine W.widen (k := 22) (n := 6017) (by omega) (by omega) ?_
  refine va_putF (D := (dC, dI)) (ci := 10) (v := .ref q26) (ty := (.object "StatementRules2$Statements")) (C := RX11) (T := TX11) (N := 9) hx hb hts i_X11_init_X11 tyX11 tyX11_ok nmX11 hown hK hP hD hS 0 rfl rfl 3 (by decide) (hts (.fieldLink RX11 37 "StatementRules2" "reader" "LStatementRules2$Statements;") k_X11_init_fieldLink_RX11_37_SR_reader_LSR_Statements) (fun _ h9 => h9) rfl hin rfl (by decide +kernel) rfl rfl (Nat.le_of_ble_eq_true rfl) dX11_init_62 (fun H locs hP hD hS => ?_)
  have hP : va_P (dC, dI) vwCl [(h0, .inr (10, [.ref q1, .ref q2, .ref q14, .ref q26, .null, .int 0, .int 0, .int 0, .int 0])), (q1, .inl (kq1, 900, .inl (fun _ => 0))), (q2, .inr (9, [.ref qa_4, .ref qn_6, .ref qo_8, .ref qc_10, .int 4, .int 0])), (qa_4, .inl (kA_5, 12, .inl (upd (fun _ => 0) 0 (-1)))), (qn_6, .inl (kn_7, 8, .inl (fun _ => 0))), (qo_8, .inl (ko_9, 8, .inl fo_12)), (qc_10, .inl (kc_11, 8, .inl fc_13)), (q14, .inr (0, [.ref qo_16, .ref qa_17, .ref qt_18, .ref qv_19, .ref qw_20, .int 0, .int 0, .int 0, .int 0, .int 0, .int 0, .int 0, .int 0])), (qo_16, .inl (ko_21, 1200, .inl (fun _ => 0))), (qa_17, .inl (ka_22, 1200, .inl (fun _ => 0))), (qt_18, .inl (kt_23, 1024, .inl (fun _ => 0))), (qv_19, .inl (kv_24, 320, .inl (fun _ => 0))), (qw_20, .inl (kw_25, 320, .inl (fun _ => 0))), (q27, .inr (8, [.ref q1, .ref qw_29, .int 0, .int 0, .int 0, .int 0, .int 0, .long 0])), (qw_29, .inl (kw_30, 25, .inr (.inl (zF 137)))), (q26, .inr (6, [.ref q27, .ref q14, .ref q2, .ref q4_32, .int 0, .int 0, .int 0, .ref q6_39, .int 0, .int 0, .int 0])), (q4_32, .inr (3, [.ref qn_33, .ref qc_35, .ref qf_37, .int 0])), (qn_33, .inl (kn_34, 128, .inr (.inl (fun _ => 0)))), (qc_35, .inl (kc_36, 128, .inl (fun _ => 0))), (qf_37, .inl (kf_38, 128, .inl (fun _ => 0))), (q6_39, .inr (5, [.ref qr_40, .ref qj_41, .int 0, .int 0, .int 0, .int 0])), (qr_40, .inl (kr_42, 400, .inr (.inr (.inr (.inr (fun _ => none)))))), (qj_41, .inl (kj_43, 160, .inl (fun _ => 0)))] H := hP
  have hD : va_D A [(h0, .inr (10, [.ref q1, .ref q2, .ref q14, .ref q26, .null, .int 0, .int 0, .int 0, .int 0])), (q1, .inl (kq1, 900, .inl (fun _ => 0))), (q2, .inr (9, [.ref qa_4, .ref qn_6, .ref qo_8, .ref qc_10, .int 4, .int 0])), (qa_4, .inl (kA_5, 12, .inl (upd (fun _ => 0) 0 (-1)))), (qn_6, .inl (kn_7, 8, .inl (fun _ => 0))), (qo_8, .inl (ko_9, 8, .inl fo_12)), (qc_10, .inl (kc_11, 8, .inl fc_13)), (q14, .inr (0, [.ref qo_16, .ref qa_17, .ref qt_18, .ref qv_19, .ref qw_20, .int 0, .int 0, .int 0, .int 0, .int 0, .int 0, .int 0, .int 0])), (qo_16, .inl (ko_21, 1200, .inl (fun _ => 0))), (qa_17, .inl (ka_22, 1200, .inl (fun _ => 0))), (qt_18, .inl (kt_23, 1024, .inl (fun _ => 0))), (qv_19, .inl (kv_24, 320, .inl (fun _ => 0))), (qw_20, .inl (kw_25, 320, .inl (fun _ => 0))), (q27, .inr (8, [.ref q1, .ref qw_29, .int 0, .int 0, .int 0, .int 0, .int 0, .long 0])), (qw_29, .inl (kw_30, 25, .inr (.inl (zF 137)))), (q26, .inr (6, [.ref q27, .ref q14, .ref q2, .ref q4_32, .int 0, .int 0, .int 0, .ref q6_39, .int 0, .int 0, .int 0])), (q4_32, .inr (3, [.ref qn_33, .ref qc_35, .ref qf_37, .int 0])), (qn_33, .inl (kn_34, 128, .inr (.inl (fun _ => 0)))), (qc_35, .inl (kc_36, 128, .inl (fun _ => 0))), (qf_37, .inl (kf_38, 128, .inl (fun _ => 0))), (q6_39, .inr (5, [.ref qr_40, .ref qj_41, .int 0, .int 0, .int 0, .int 0])), (qr_40, .inl (kr_42, 400, .inr (.inr (.inr (.inr (fun _ => none)))))), (qj_41, .inl (kj_43, 160, .inl (fun _ => 0)))] := hD
  refine lv_aload_n hx hb dX11_init_65 rfl (lv_at hl 0 rfl) ?_
  refine va_new (ci := 2) (fs := [.null, .null, .null, .null, .null, .null, .null, .null, .int 0, .int 0, .int 0, .int 0, .int 0, .int 0, .int 0, .int 0, .int 0, .int 0, .int 0, .null]) (C := RX3) (T := TX3) (N := 20) hx hb hts i_X11_init_X3 tyX3 tyX3_ok hown (hts (.classLink RX11 41 RX3) k_X11_init_classLink_RX11_41_RX3) (hts (.instantiable RX3 20) k_X11_init_instantiable_RX3_20) (hts (.initialized RX3) k_X11_init_initialized_RX3) hK hP hD hS hA rfl df_X3 (Nat.le_of_ble_eq_true rfl) (Nat.le_of_ble_eq_true rfl) dX11_init_66 (fun q44 H hP hD hS => ?_)
  refine W.widen (k := 23) (n := 6037) (by omega) (by omega) ?_
  have hP : va_P (dC, dI) vwCl [(h0, .inr (10, [.ref q1, .ref q2, .ref q14, .ref q26, .null, .int 0, .int 0, .int 0, .int 0])), (q1, .inl (kq1, 900, .inl (fun _ => 0))), (q2, .inr (9, [.ref qa_4, .ref qn_6, .ref qo_8, .ref qc_10, .int 4, .int 0])), (qa_4, .inl (kA_5, 12, .inl (upd (fun _ => 0) 0 (-1)))), (qn_6, .inl (kn_7, 8, .inl (fun _ => 0))), (qo_8, .inl (ko_9, 8, .inl fo_12)), (qc_10, .inl (kc_11, 8, .inl fc_13)), (q14, .inr (0, [.ref qo_16, .ref qa_17, .ref qt_18, .ref qv_19, .ref qw_20, .int 0, .int 0, .int 0, .int 0, .int 0, .int 0, .int 0, .int 0])), (qo_16, .inl (ko_21, 1200, .inl (fun _ => 0))), (qa_17, .inl (ka_22, 1200, .inl (fun _ => 0))), (qt_18, .inl (kt_23, 1024, .inl (fun _ => 0))), (qv_19, .inl (kv_24, 320, .inl (fun _ => 0))), (qw_20, .inl (kw_25, 320, .inl (fun _ => 0))), (q27, .inr (8, [.ref q1, .ref qw_29, .int 0, .int 0, .int 0, .int 0, .int 0, .long 0])), (qw_29, .inl (kw_30, 25, .inr (.inl (zF 137)))), (q26, .inr (6, [.ref q27, .ref q14, .ref q2, .ref q4_32, .int 0, .int 0, .int 0, .ref q6_39, .int 0, .int 0, .int 0])), (q4_32, .inr (3, [.ref qn_33, .ref qc_35, .ref qf_37, .int 0])), (qn_33, .inl (kn_34, 128, .inr (.inl (fun _ => 0)))), (qc_35, .inl (kc_36, 128, .inl (fun _ => 0))), (qf_37, .inl (kf_38, 128, .inl (fun _ => 0))), (q6_39, .inr (5, [.ref qr_40, .ref qj_41, .int 0, .int 0, .int 0, .int 0])), (qr_40, .inl (kr_42, 400, .inr (.inr (.inr (.inr (fun _ => none)))))), (qj_41, .inl (kj_43, 160, .inl (fun _ => 0))), (q44, .inr (2, [.null, .null, .null, .null, .null, .null, .null, .null, .int 0, .int 0, .int 0, .int 0, .int 0, .int 0, .int 0, .int 0, .int 0, .int 0, .int 0, .null]))] H := hP
  have hD : va_D A [(h0, .inr (10, [.ref q1, .ref q2, .ref q14, .ref q26, .null, .int 0, .int 0, .int 0, .int 0])), (q1, .inl (kq1, 900, .inl (fun _ => 0))), (q2, .inr (9, [.ref qa_4, .ref qn_6, .ref qo_8, .ref qc_10, .int 4, .int 0])), (qa_4, .inl (kA_5, 12, .inl (upd (fun _ => 0) 0 (-1)))), (qn_6, .inl (kn_7, 8, .inl (fun _ => 0))), (qo_8, .inl (ko_9, 8, .inl fo_12)), (qc_10, .inl (kc_11, 8, .inl fc_13)), (q14, .inr (0, [.ref qo_16, .ref qa_17, .ref qt_18, .ref qv_19, .ref qw_20, .int 0, .int 0, .int 0, .int 0, .int 0, .int 0, .int 0, .int 0])), (qo_16, .inl (ko_21, 1200, .inl (fun _ => 0))), (qa_17, .inl (ka_22, 1200, .inl (fun _ => 0))), (qt_18, .inl (kt_23, 1024, .inl (fun _ => 0))), (qv_19, .inl (kv_24, 320, .inl (fun _ => 0))), (qw_20, .inl (kw_25, 320, .inl (fun _ => 0))), (q27, .inr (8, [.ref q1, .ref qw_29, .int 0, .int 0, .int 0, .int 0, .int 0, .long 0])), (qw_29, .inl (kw_30, 25, .inr (.inl (zF 137)))), (q26, .inr (6, [.ref q27, .ref q14, .ref q2, .ref q4_32, .int 0, .int 0, .int 0, .ref q6_39, .int 0, .int 0, .int 0])), (q4_32, .inr (3, [.ref qn_33, .ref qc_35, .ref qf_37, .int 0])), (qn_33, .inl (kn_34, 128, .inr (.inl (fun _ => 0)))), (qc_35, .inl (kc_36, 128, .inl (fun _ => 0))), (qf_37, .inl (kf_38, 128, .inl (fun _ => 0))), (q6_39, .inr (5, [.ref qr_40, .ref qj_41, .int 0, .int 0, .int 0, .int 0])), (qr_40, .inl (kr_42, 400, .inr (.inr (.inr (.inr (fun _ => none)))))), (qj_41, .inl (kj_43, 160, .inl (fun _ => 0))), (q44, .inr (2, [.null, .null, .null, .null, .null, .null, .null, .null, .int 0, .int 0, .int 0, .int 0, .int 0, .int 0, .int 0, .int 0, .int 0, .int 0, .int 0, .null]))] := hD
  refine lv_dup hx hb dX11_init_69 rfl ?_
  refine lv_aload_n hx hb dX11_init_70 rfl (lv_at hl 0 rfl) ?_
  refine va_get (D := (dC, dI)) (ci := 10) (v := .ref q2) (C := RX11) (T := TX11) (N := 9) hx hb hts i_X11_init_X11 hown hK hP 0 rfl rfl 1 (by decide) (hts (.fieldLink RX11 16 "StatementRules2" "told" "LStatementRules2$Told;") k_X11_init_fieldLink_RX11_16_SR_told_LSR_Told) (fun _ h9 => h9) rfl dX11_init_71 ?_
  refine lv_aload_n hx hb dX11_init_74 rfl (lv_at hl 0 rfl) ?_
  refine va_get (D := (dC, dI)) (ci := 10) (v := .ref q14) (C := RX11) (T := TX11) (N := 9) hx hb hts i_X11_init_X11 hown hK hP 0 rfl rfl 2 (by decide) (hts (.fieldLink RX11 23 "StatementRules2" "code" "LStatementRules2$Code;") k_X11_init_fieldLink_RX11_23_SR_code_LSR_Code) (fun _ h9 => h9) rfl dX11_init_75 ?_
  have hPc := hP.sub (ws' := [(q44, .inr (2, [.null, .null, .null, .null, .null, .null, .null, .null, .int 0, .int 0, .int 0, .int 0, .int 0, .int 0, .int 0, .int 0, .int 0, .int 0, .int 0, .null]))]) [23] rfl
  have hDc := hD.sub (ws' := [(q44, .inr (2, [.null, .null, .null, .null, .null, .null, .null, .null, .int 0, .int 0, .int 0, .int 0, .int 0, .int 0, .int 0, .int 0, .int 0, .int 0, .int 0, .null]))]) [23] (by decide) rfl
  have hKc := hK.sub (tys' := []) [] rfl
  have hFc := va_free (wc := [(q44, .inr (2, [.null, .null, .null, .null, .null, .null, .null, .null, .int 0, .int 0, .int 0, .int 0, .int 0, .int 0, .int 0, .int 0, .int 0, .int 0, .int 0, .null]))]) hD hS hA [23] rfl
  refine va_callv (va_runI (As := [.ref q2, .ref q14]) (rest := [.ref q44, .ref h0]) ⟨hx, hb, hml, hown, hts⟩ (c_X3_init l dC dI _ q44 q2 q14) (cwI 2 hts hX11_init_X3_init_i43 rfl rfl rfl (hts (.initialized RX3) k_X11_init_initialized_RX3) (hts (.methodLink RX11 43 yX3_init) k_X11_init_methodLink_RX11_43_yX3_init) (hts (.instanceMethod yX3_init) k_X11_init_instanceMethod_yX3_init) rfl (by decide +kernel) ⟨Nat.le_of_ble_eq_true rfl, Nat.le_of_ble_eq_true rfl⟩) ⟨zPre.blind, zPre.go hZ hPc hKc hDc⟩ rfl rfl hl.1 rfl (lv_room (Nat.le_of_ble_eq_true rfl)) dX11_init_78 ⟨Nat.le_of_ble_eq_true rfl, Nat.le_of_ble_eq_true rfl⟩) hS (fun q _ h => hFc q h) hFc (fun u9 t9 H1 locs ht hvm hw hB hz1 hk1 hS => ?_)
  obtain ⟨qM0_46, kM0_47, qM1_48, kM1_49, qM2_50, kM2_51, qM3_52, kM3_53, qM4_54, kM4_55, qM5_56, kM5_57, hP1, hK1, hD1⟩ := hB
  rw [ht] at hP1
  have hK1 := va_K.moved hvm.symm hK1
  obtain ⟨hP, hD⟩ := va_join (wr := [(h0, .inr (10, [.ref q1, .ref q2, .ref q14, .ref q26, .null, .int 0, .int 0, .int 0, .int 0])), (q1, .inl (kq1, 900, .inl (fun _ => 0))), (q2, .inr (9, [.ref qa_4, .ref qn_6, .ref qo_8, .ref qc_10, .int 4, .int 0])), (qa_4, .inl (kA_5, 12, .inl (upd (fun _ => 0) 0 (-1)))), (qn_6, .inl (kn_7, 8, .inl (fun _ => 0))), (qo_8, .inl (ko_9, 8, .inl fo_12)), (qc_10, .inl (kc_11, 8, .inl fc_13)), (q14, .inr (0, [.ref qo_16, .ref qa_17, .ref qt_18, .ref qv_19, .ref qw_20, .int 0, .int 0, .int 0, .int 0, .int 0, .int 0, .int 0, .int 0])), (qo_16, .inl (ko_21, 1200, .inl (fun _ => 0))), (qa_17, .inl (ka_22, 1200, .inl (fun _ => 0))), (qt_18, .inl (kt_23, 1024, .inl (fun _ => 0))), (qv_19, .inl (kv_24, 320, .inl (fun _ => 0))), (qw_20, .inl (kw_25, 320, .inl (fun _ => 0))), (q27, .inr (8, [.ref q1, .ref qw_29, .int 0, .int 0, .int 0, .int 0, .int 0, .long 0])), (qw_29, .inl (kw_30, 25, .inr (.inl (zF 137)))), (q26, .inr (6, [.ref q27, .ref q14, .ref q2, .ref q4_32, .int 0, .int 0, .int 0, .ref q6_39, .int 0, .int 0, .int 0])), (q4_32, .inr (3, [.ref qn_33, .ref qc_35, .ref qf_37, .int 0])), (qn_33, .inl (kn_34, 128, .inr (.inl (fun _ => 0)))), (qc_35, .inl (kc_36, 128, .inl (fun _ => 0))), (qf_37, .inl (kf_38, 128, .inl (fun _ => 0))), (q6_39, .inr (5, [.ref qr_40, .ref qj_41, .int 0, .int 0, .int 0, .int 0])), (qr_40, .inl (kr_42, 400, .inr (.inr (.inr (.inr (fun _ => none)))))), (qj_41, .inl (kj_43, 160, .inl (fun _ => 0)))]) (w1 := [(q44, .inr (2, [.ref q2, .ref q14, .ref qM0_46, .ref qM1_48, .ref qM2_50, .ref qM3_52, .ref qM4_54, .ref qM5_56, .int 0, .int 0, .int 0, .int 0, .int 0, .int 0, .int 0, .int 0, .int 0, .int 0, .int 0, .null])), (qM0_46, .inl (kM0_47, 720, .inl (fun _ => 0))), (qM1_48, .inl (kM1_49, 600, .inl (fun _ => 0))), (qM2_50, .inl (kM2_51, 24, .inr (.inr (.inr (.inr (fun _ => none)))))), (qM3_52, .inl (kM3_53, 24, .inr (.inr (.inr (.inr (fun _ => none)))))), (qM4_54, .inl (kM4_55, 320, .inl (fun _ => 0))), (qM5_56, .inl (kM5_57, 400, .inl (fun _ => 0)))]) hP hD [23] [0, 1, 2, 3, 4, 5, 6, 7, 8, 9, 10, 11, 12, 13, 14, 15, 16, 17, 18, 19, 20, 21, 22] rfl rfl (by decide) (by decide) hk1 hFc hP1 hD1
  have hK := hK.app hK1
  generalize H1 = H at hP hS ⊢
  have hP : va_P (dC, dI) vwCl [(h0, .inr (10, [.ref q1, .ref q2, .ref q14, .ref q26, .null, .int 0, .int 0, .int 0, .int 0])), (q1, .inl (kq1, 900, .inl (fun _ => 0))), (q2, .inr (9, [.ref qa_4, .ref qn_6, .ref qo_8, .ref qc_10, .int 4, .int 0])), (qa_4, .inl (kA_5, 12, .inl (upd (fun _ => 0) 0 (-1)))), (qn_6, .inl (kn_7, 8, .inl (fun _ => 0))), (qo_8, .inl (ko_9, 8, .inl fo_12)), (qc_10, .inl (kc_11, 8, .inl fc_13)), (q14, .inr (0, [.ref qo_16, .ref qa_17, .ref qt_18, .ref qv_19, .ref qw_20, .int 0, .int 0, .int 0, .int 0, .int 0, .int 0, .int 0, .int 0])), (qo_16, .inl (ko_21, 1200, .inl (fun _ => 0))), (qa_17, .inl (ka_22, 1200, .inl (fun _ => 0))), (qt_18, .inl (kt_23, 1024, .inl (fun _ => 0))), (qv_19, .inl (kv_24, 320, .inl (fun _ => 0))), (qw_20, .inl (kw_25, 320, .inl (fun _ => 0))), (q27, .inr (8, [.ref q1, .ref qw_29, .int 0, .int 0, .int 0, .int 0, .int 0, .long 0])), (qw_29, .inl (kw_30, 25, .inr (.inl (zF 137)))), (q26, .inr (6, [.ref q27, .ref q14, .ref q2, .ref q4_32, .int 0, .int 0, .int 0, .ref q6_39, .int 0, .int 0, .int 0])), (q4_32, .inr (3, [.ref qn_33, .ref qc_35, .ref qf_37, .int 0])), (qn_33, .inl (kn_34, 128, .inr (.inl (fun _ => 0)))), (qc_35, .inl (kc_36, 128, .inl (fun _ => 0))), (qf_37, .inl (kf_38, 128, .inl (fun _ => 0))), (q6_39, .inr (5, [.ref qr_40, .ref qj_41, .int 0, .int 0, .int 0, .int 0])), (qr_40, .inl (kr_42, 400, .inr (.inr (.inr (.inr (fun _ => none)))))), (qj_41, .inl (kj_43, 160, .inl (fun _ => 0))), (q44, .inr (2, [.ref q2, .ref q14, .ref qM0_46, .ref qM1_48, .ref qM2_50, .ref qM3_52, .ref qM4_54, .ref qM5_56, .int 0, .int 0, .int 0, .int 0, .int 0, .int 0, .int 0, .int 0, .int 0, .int 0, .int 0, .null])), (qM0_46, .inl (kM0_47, 720, .inl (fun _ => 0))), (qM1_48, .inl (kM1_49, 600, .inl (fun _ => 0))), (qM2_50, .inl (kM2_51, 24, .inr (.inr (.inr (.inr (fun _ => none)))))), (qM3_52, .inl (kM3_53, 24, .inr (.inr (.inr (.inr (fun _ => none)))))), (qM4_54, .inl (kM4_55, 320, .inl (fun _ => 0))), (qM5_56, .inl (kM5_57, 400, .inl (fun _ => 0)))] H := hP
  have hD : va_D A [(h0, .inr (10, [.ref q1, .ref q2, .ref q14, .ref q26, .null, .int 0, .int 0, .int 0, .int 0])), (q1, .inl (kq1, 900, .inl (fun _ => 0))), (q2, .inr (9, [.ref qa_4, .ref qn_6, .ref qo_8, .ref qc_10, .int 4, .int 0])), (qa_4, .inl (kA_5, 12, .inl (upd (fun _ => 0) 0 (-1)))), (qn_6, .inl (kn_7, 8, .inl (fun _ => 0))), (qo_8, .inl (ko_9, 8, .inl fo_12)), (qc_10, .inl (kc_11, 8, .inl fc_13)), (q14, .inr (0, [.ref qo_16, .ref qa_17, .ref qt_18, .ref qv_19, .ref qw_20, .int 0, .int 0, .int 0, .int 0, .int 0, .int 0, .int 0, .int 0])), (qo_16, .inl (ko_21, 1200, .inl (fun _ => 0))), (qa_17, .inl (ka_22, 1200, .inl (fun _ => 0))), (qt_18, .inl (kt_23, 1024, .inl (fun _ => 0))), (qv_19, .inl (kv_24, 320, .inl (fun _ => 0))), (qw_20, .inl (kw_25, 320, .inl (fun _ => 0))), (q27, .inr (8, [.ref q1, .ref qw_29, .int 0, .int 0, .int 0, .int 0, .int 0, .long 0])), (qw_29, .inl (kw_30, 25, .inr (.inl (zF 137)))), (q26, .inr (6, [.ref q27, .ref q14, .ref q2, .ref q4_32, .int 0, .int 0, .int 0, .ref q6_39, .int 0, .int 0, .int 0])), (q4_32, .inr (3, [.ref qn_33, .ref qc_35, .ref qf_37, .int 0])), (qn_33, .inl (kn_34, 128, .inr (.inl (fun _ => 0)))), (qc_35, .inl (kc_36, 128, .inl (fun _ => 0))), (qf_37, .inl (kf_38, 128, .inl (fun _ => 0))), (q6_39, .inr (5, [.ref qr_40, .ref qj_41, .int 0, .int 0, .int 0, .int 0])), (qr_40, .inl (kr_42, 400, .inr (.inr (.inr (.inr (fun _ => none)))))), (qj_41, .inl (kj_43, 160, .inl (fun _ => 0))), (q44, .inr (2, [.ref q2, .ref q14, .ref qM0_46, .ref qM1_48, .ref qM2_50, .ref qM3_52, .ref qM4_54, .ref qM5_56, .int 0, .int 0, .int 0, .int 0, .int 0, .int 0, .int 0, .int 0, .int 0, .int 0, .int 0, .null])), (qM0_46, .inl (kM0_47, 720, .inl (fun _ => 0))), (qM1_48, .inl (kM1_49, 600, .inl (fun _ => 0))), (qM2_50, .inl (kM2_51, 24, .inr (.inr (.inr (.inr (fun _ => none)))))), (qM3_52, .inl (kM3_53, 24, .inr (.inr (.inr (.inr (fun _ => none)))))), (qM4_54, .inl (kM4_55, 320, .inl (fun _ => 0))), (qM5_56, .inl (kM5_57, 400, .inl (fun _ => 0)))] := hD
  have hK : va_K (dC, dI) vwCl [(kq1, .int), (kA_5, .int), (kn_7, .int), (ko_9, .int), (kc_11, .int), (ko_21, .int), (ka_22, .int), (kt_23, .int), (kv_24, .int), (kw_25, .int), (kw_30, .long), (kn_34, .long), (kc_36, .int), (kf_38, .int), (kr_42, .object "StatementRules2$Open"), (kj_43, .int), (kM0_47, .int), (kM1_49, .int), (kM2_51, .object "StatementRules2$Frame"), (kM3_53, .object "StatementRules2$Thrown"), (kM4_55, .int), (kM5_57, .int)] s := hK
  refine W.widen (k := 29) (n := 8125) (by omega) (by omega) ?_
  refine va_putF (D := (dC, dI)) (ci := 10) (v := .ref q44) (ty := (.object "StatementRules2$Machine")) (C := RX11) (T := TX11) (N := 9) hx hb hts i_X11_init_X11 tyX11 tyX11_ok nmX11 hown hK hP hD hS 0 rfl rfl 4 (by decide) (hts (.fieldLink RX11 46 "StatementRules2" "machine" "LStatementRules2$Machine;") k_X11_init_fieldLink_RX11_46_SR_machine_LSR_Machine) (fun _ h9 => h9) rfl hin rfl (by decide +kernel) rfl rfl (Nat.le_of_ble_eq_true rfl) dX11_init_81 (fun H locs hP hD hS => ?_)
  have hP : va_P (dC, dI) vwCl [(h0, .inr (10, [.ref q1, .ref q2, .ref q14, .ref q26, .ref q44, .int 0, .int 0, .int 0, .int 0])), (q1, .inl (kq1, 900, .inl (fun _ => 0))), (q2, .inr (9, [.ref qa_4, .ref qn_6, .ref qo_8, .ref qc_10, .int 4, .int 0])), (qa_4, .inl (kA_5, 12, .inl (upd (fun _ => 0) 0 (-1)))), (qn_6, .inl (kn_7, 8, .inl (fun _ => 0))), (qo_8, .inl (ko_9, 8, .inl fo_12)), (qc_10, .inl (kc_11, 8, .inl fc_13)), (q14, .inr (0, [.ref qo_16, .ref qa_17, .ref qt_18, .ref qv_19, .ref qw_20, .int 0, .int 0, .int 0, .int 0, .int 0, .int 0, .int 0, .int 0])), (qo_16, .inl (ko_21, 1200, .inl (fun _ => 0))), (qa_17, .inl (ka_22, 1200, .inl (fun _ => 0))), (qt_18, .inl (kt_23, 1024, .inl (fun _ => 0))), (qv_19, .inl (kv_24, 320, .inl (fun _ => 0))), (qw_20, .inl (kw_25, 320, .inl (fun _ => 0))), (q27, .inr (8, [.ref q1, .ref qw_29, .int 0, .int 0, .int 0, .int 0, .int 0, .long 0])), (qw_29, .inl (kw_30, 25, .inr (.inl (zF 137)))), (q26, .inr (6, [.ref q27, .ref q14, .ref q2, .ref q4_32, .int 0, .int 0, .int 0, .ref q6_39, .int 0, .int 0, .int 0])), (q4_32, .inr (3, [.ref qn_33, .ref qc_35, .ref qf_37, .int 0])), (qn_33, .inl (kn_34, 128, .inr (.inl (fun _ => 0)))), (qc_35, .inl (kc_36, 128, .inl (fun _ => 0))), (qf_37, .inl (kf_38, 128, .inl (fun _ => 0))), (q6_39, .inr (5, [.ref qr_40, .ref qj_41, .int 0, .int 0, .int 0, .int 0])), (qr_40, .inl (kr_42, 400, .inr (.inr (.inr (.inr (fun _ => none)))))), (qj_41, .inl (kj_43, 160, .inl (fun _ => 0))), (q44, .inr (2, [.ref q2, .ref q14, .ref qM0_46, .ref qM1_48, .ref qM2_50, .ref qM3_52, .ref qM4_54, .ref qM5_56, .int 0, .int 0, .int 0, .int 0, .int 0, .int 0, .int 0, .int 0, .int 0, .int 0, .int 0, .null])), (qM0_46, .inl (kM0_47, 720, .inl (fun _ => 0))), (qM1_48, .inl (kM1_49, 600, .inl (fun _ => 0))), (qM2_50, .inl (kM2_51, 24, .inr (.inr (.inr (.inr (fun _ => none)))))), (qM3_52, .inl (kM3_53, 24, .inr (.inr (.inr (.inr (fun _ => none)))))), (qM4_54, .inl (kM4_55, 320, .inl (fun _ => 0))), (qM5_56, .inl (kM5_57, 400, .inl (fun _ => 0)))] H := hP
  have hD : va_D A [(h0, .inr (10, [.ref q1, .ref q2, .ref q14, .ref q26, .ref q44, .int 0, .int 0, .int 0, .int 0])), (q1, .inl (kq1, 900, .inl (fun _ => 0))), (q2, .inr (9, [.ref qa_4, .ref qn_6, .ref qo_8, .ref qc_10, .int 4, .int 0])), (qa_4, .inl (kA_5, 12, .inl (upd (fun _ => 0) 0 (-1)))), (qn_6, .inl (kn_7, 8, .inl (fun _ => 0))), (qo_8, .inl (ko_9, 8, .inl fo_12)), (qc_10, .inl (kc_11, 8, .inl fc_13)), (q14, .inr (0, [.ref qo_16, .ref qa_17, .ref qt_18, .ref qv_19, .ref qw_20, .int 0, .int 0, .int 0, .int 0, .int 0, .int 0, .int 0, .int 0])), (qo_16, .inl (ko_21, 1200, .inl (fun _ => 0))), (qa_17, .inl (ka_22, 1200, .inl (fun _ => 0))), (qt_18, .inl (kt_23, 1024, .inl (fun _ => 0))), (qv_19, .inl (kv_24, 320, .inl (fun _ => 0))), (qw_20, .inl (kw_25, 320, .inl (fun _ => 0))), (q27, .inr (8, [.ref q1, .ref qw_29, .int 0, .int 0, .int 0, .int 0, .int 0, .long 0])), (qw_29, .inl (kw_30, 25, .inr (.inl (zF 137)))), (q26, .inr (6, [.ref q27, .ref q14, .ref q2, .ref q4_32, .int 0, .int 0, .int 0, .ref q6_39, .int 0, .int 0, .int 0])), (q4_32, .inr (3, [.ref qn_33, .ref qc_35, .ref qf_37, .int 0])), (qn_33, .inl (kn_34, 128, .inr (.inl (fun _ => 0)))), (qc_35, .inl (kc_36, 128, .inl (fun _ => 0))), (qf_37, .inl (kf_38, 128, .inl (fun _ => 0))), (q6_39, .inr (5, [.ref qr_40, .ref qj_41, .int 0, .int 0, .int 0, .int 0])), (qr_40, .inl (kr_42, 400, .inr (.inr (.inr (.inr (fun _ => none)))))), (qj_41, .inl (kj_43, 160, .inl (fun _ => 0))), (q44, .inr (2, [.ref q2, .ref q14, .ref qM0_46, .ref qM1_48, .ref qM2_50, .ref qM3_52, .ref qM4_54, .ref qM5_56, .int 0, .int 0, .int 0, .int 0, .int 0, .int 0, .int 0, .int 0, .int 0, .int 0, .int 0, .null])), (qM0_46, .inl (kM0_47, 720, .inl (fun _ => 0))), (qM1_48, .inl (kM1_49, 600, .inl (fun _ => 0))), (qM2_50, .inl (kM2_51, 24, .inr (.inr (.inr (.inr (fun _ => none)))))), (qM3_52, .inl (kM3_53, 24, .inr (.inr (.inr (.inr (fun _ => none)))))), (qM4_54, .inl (kM4_55, 320, .inl (fun _ => 0))), (qM5_56, .inl (kM5_57, 400, .inl (fun _ => 0)))] := hD
  have hP9 := hP.sub (ws' := [(h0, .inr (10, [.ref q1, .ref q2, .ref q14, .ref q26, .ref q44, .int 0, .int 0, .int 0, .int 0])), (q2, .inr (9, [.ref qa_4, .ref qn_6, .ref qo_8, .ref qc_10, .int 4, .int 0])), (q14, .inr (0, [.ref qo_16, .ref qa_17, .ref qt_18, .ref qv_19, .ref qw_20, .int 0, .int 0, .int 0, .int 0, .int 0, .int 0, .int 0, .int 0])), (q26, .inr (6, [.ref q27, .ref q14, .ref q2, .ref q4_32, .int 0, .int 0, .int 0, .ref q6_39, .int 0, .int 0, .int 0])), (q27, .inr (8, [.ref q1, .ref qw_29, .int 0, .int 0, .int 0, .int 0, .int 0, .long 0])), (q4_32, .inr (3, [.ref qn_33, .ref qc_35, .ref qf_37, .int 0])), (q6_39, .inr (5, [.ref qr_40, .ref qj_41, .int 0, .int 0, .int 0, .int 0])), (q44, .inr (2, [.ref q2, .ref q14, .ref qM0_46, .ref qM1_48, .ref qM2_50, .ref qM3_52, .ref qM4_54, .ref qM5_56, .int 0, .int 0, .int 0, .int 0, .int 0, .int 0, .int 0, .int 0, .int 0, .int 0, .int 0, .null])), (q1, .inl (kq1, 900, .inl (fun _ => 0))), (qa_4, .inl (kA_5, 12, .inl (upd (fun _ => 0) 0 (-1)))), (qn_6, .inl (kn_7, 8, .inl (fun _ => 0))), (qo_8, .inl (ko_9, 8, .inl fo_12)), (qc_10, .inl (kc_11, 8, .inl fc_13)), (qo_16, .inl (ko_21, 1200, .inl (fun _ => 0))), (qa_17, .inl (ka_22, 1200, .inl (fun _ => 0))), (qt_18, .inl (kt_23, 1024, .inl (fun _ => 0))), (qv_19, .inl (kv_24, 320, .inl (fun _ => 0))), (qw_20, .inl (kw_25, 320, .inl (fun _ => 0))), (qw_29, .inl (kw_30, 25, .inr (.inl (zF 137)))), (qn_33, .inl (kn_34, 128, .inr (.inl (fun _ => 0)))), (qc_35, .inl (kc_36, 128, .inl (fun _ => 0))), (qf_37, .inl (kf_38, 128, .inl (fun _ => 0))), (qr_40, .inl (kr_42, 400, .inr (.inr (.inr (.inr (fun _ => none)))))), (qj_41, .inl (kj_43, 160, .inl (fun _ => 0))), (qM0_46, .inl (kM0_47, 720, .inl (fun _ => 0))), (qM1_48, .inl (kM1_49, 600, .inl (fun _ => 0))), (qM2_50, .inl (kM2_51, 24, .inr (.inr (.inr (.inr (fun _ => none)))))), (qM3_52, .inl (kM3_53, 24, .inr (.inr (.inr (.inr (fun _ => none)))))), (qM4_54, .inl (kM4_55, 320, .inl (fun _ => 0))), (qM5_56, .inl (kM5_57, 400, .inl (fun _ => 0)))]) [0, 2, 7, 15, 13, 16, 20, 23, 1, 3, 4, 5, 6, 8, 9, 10, 11, 12, 14, 17, 18, 19, 21, 22, 24, 25, 26, 27, 28, 29] rfl
  have hD9 := hD.sub (ws' := [(h0, .inr (10, [.ref q1, .ref q2, .ref q14, .ref q26, .ref q44, .int 0, .int 0, .int 0, .int 0])), (q2, .inr (9, [.ref qa_4, .ref qn_6, .ref qo_8, .ref qc_10, .int 4, .int 0])), (q14, .inr (0, [.ref qo_16, .ref qa_17, .ref qt_18, .ref qv_19, .ref qw_20, .int 0, .int 0, .int 0, .int 0, .int 0, .int 0, .int 0, .int 0])), (q26, .inr (6, [.ref q27, .ref q14, .ref q2, .ref q4_32, .int 0, .int 0, .int 0, .ref q6_39, .int 0, .int 0, .int 0])), (q27, .inr (8, [.ref q1, .ref qw_29, .int 0, .int 0, .int 0, .int 0, .int 0, .long 0])), (q4_32, .inr (3, [.ref qn_33, .ref qc_35, .ref qf_37, .int 0])), (q6_39, .inr (5, [.ref qr_40, .ref qj_41, .int 0, .int 0, .int 0, .int 0])), (q44, .inr (2, [.ref q2, .ref q14, .ref qM0_46, .ref qM1_48, .ref qM2_50, .ref qM3_52, .ref qM4_54, .ref qM5_56, .int 0, .int 0, .int 0, .int 0, .int 0, .int 0, .int 0, .int 0, .int 0, .int 0, .int 0, .null])), (q1, .inl (kq1, 900, .inl (fun _ => 0))), (qa_4, .inl (kA_5, 12, .inl (upd (fun _ => 0) 0 (-1)))), (qn_6, .inl (kn_7, 8, .inl (fun _ => 0))), (qo_8, .inl (ko_9, 8, .inl fo_12)), (qc_10, .inl (kc_11, 8, .inl fc_13)), (qo_16, .inl (ko_21, 1200, .inl (fun _ => 0))), (qa_17, .inl (ka_22, 1200, .inl (fun _ => 0))), (qt_18, .inl (kt_23, 1024, .inl (fun _ => 0))), (qv_19, .inl (kv_24, 320, .inl (fun _ => 0))), (qw_20, .inl (kw_25, 320, .inl (fun _ => 0))), (qw_29, .inl (kw_30, 25, .inr (.inl (zF 137)))), (qn_33, .inl (kn_34, 128, .inr (.inl (fun _ => 0)))), (qc_35, .inl (kc_36, 128, .inl (fun _ => 0))), (qf_37, .inl (kf_38, 128, .inl (fun _ => 0))), (qr_40, .inl (kr_42, 400, .inr (.inr (.inr (.inr (fun _ => none)))))), (qj_41, .inl (kj_43, 160, .inl (fun _ => 0))), (qM0_46, .inl (kM0_47, 720, .inl (fun _ => 0))), (qM1_48, .inl (kM1_49, 600, .inl (fun _ => 0))), (qM2_50, .inl (kM2_51, 24, .inr (.inr (.inr (.inr (fun _ => none)))))), (qM3_52, .inl (kM3_53, 24, .inr (.inr (.inr (.inr (fun _ => none)))))), (qM4_54, .inl (kM4_55, 320, .inl (fun _ => 0))), (qM5_56, .inl (kM5_57, 400, .inl (fun _ => 0)))]) [0, 2, 7, 15, 13, 16, 20, 23, 1, 3, 4, 5, 6, 8, 9, 10, 11, 12, 14, 17, 18, 19, 21, 22, 24, 25, 26, 27, 28, 29] (by decide) rfl
  have hK9 := hK.sub (tys' := [(kq1, .int), (kA_5, .int), (kn_7, .int), (ko_9, .int), (kc_11, .int), (ko_21, .int), (ka_22, .int), (kt_23, .int), (kv_24, .int), (kw_25, .int), (kw_30, .long), (kn_34, .long), (kc_36, .int), (kf_38, .int), (kr_42, .object "StatementRules2$Open"), (kj_43, .int), (kM0_47, .int), (kM1_49, .int), (kM2_51, .object "StatementRules2$Frame"), (kM3_53, .object "StatementRules2$Thrown"), (kM4_55, .int), (kM5_57, .int)]) [0, 1, 2, 3, 4, 5, 6, 7, 8, 9, 10, 11, 12, 13, 14, 15, 16, 17, 18, 19, 20, 21] rfl
  exact W.vret hx hb hr (fun t ht hW => ⟨⟨(), rfl, trivial, q1, q2, q14, q26, q44, q27, qw_29, q4_32, q6_39, kq1, kw_30, qa_4, qn_6, qo_8, qc_10, kA_5, kn_7, ko_9, kc_11, fo_12, fc_13, qo_16, qa_17, qt_18, qv_19, qw_20, ko_21, ka_22, kt_23, kv_24, kw_25, qn_33, qc_35, qf_37, kn_34, kc_36, kf_38, qr_40, qj_41, kr_42, kj_43, qM0_46, kM0_47, qM1_48, kM1_49, qM2_50, kM2_51, qM3_52, kM3_53, qM4_54, kM4_55, qM5_56, kM5_57, by rw [ht]; exact hP9, va_K.moved hW.alike hK9, hD9⟩, hS.F ht⟩) hS.2.2 dX11_init_84
end
section
def zR (n k : Int32) : Int32 := n / k + (if n - n / k * k = 0 then 0 else 1)
theorem z_rem {n k : Int32} (h1 : ¬ n < 0) (h2 : ¬ k < 0) (h3 : ¬ k = 0) (h : n - n / k * k ≤ 0) : n - n / k * k = 0 := by
  obtain ⟨a, ha, rfl⟩ := nI_of h1
  obtain ⟨b, hb, rfl⟩ := nI_of h2
  have hb0 : 0 < b := by
    rcases Nat.eq_zero_or_pos b with q | q
    · subst q; exact absurd nI_0 h3
    · exact q
  rw [pk_rem ha hb0 hb] at h ⊢
  have hm : a % b < b := Nat.mod_lt a hb0
  rcases Nat.eq_zero_or_pos (a % b) with q | q
  · rw [q]; exact nI_0
  · exact absurd h (nI_nle q (by omega))
set_option maxHeartbeats 4000000 in
set_option maxRecDepth 100000 in
theorem c_X11_rounds_b1 (l : Launch) (dC : Nat → ClassId) (dI : Nat → Nat → Nat) (sz : Nat) (h0 : Nat) (n : Int32) (k : Int32) (x_tape : Value) (x_told : Value) (x_code : Value) (x_reader : Value) (x_machine : Value) (x_length : Value) (x_latestFault : Value) (x_hasProgram : Value) (x_hasRun : Value) (h1 : n < 0) : Met l yX11_rounds wzX11_rounds ({ frames := 1, cells := 0, slots := 0, locals := 60 }) (va_Pc [.ref h0, .int n, .int k] (zPre dC dI sz [(h0, .inr (10, [x_tape, x_told, x_code, x_reader, x_machine, x_length, x_latestFault, x_hasProgram, x_hasRun]))] [])) (va_Qi (fun (r : Int32) (_ : Unit) => r = -1) (fun (_ : Unit) (t : State) => zPost dC dI (va_A [(h0, .inr (10, [x_tape, x_told, x_code, x_reader, x_machine, x_length, x_latestFault, x_hasProgram, x_hasRun]))] sz) [(h0, .inr (10, [x_tape, x_told, x_code, x_reader, x_machine, x_length, x_latestFault, x_hasProgram, x_hasRun]))] [] t) (va_A [(h0, .inr (10, [x_tape, x_told, x_code, x_reader, x_machine, x_length, x_latestFault, x_hasProgram, x_hasRun]))] sz)) 0 0 (va_A [(h0, .inr (10, [x_tape, x_told, x_code, x_reader, x_machine, x_length, x_latestFault, x_hasProgram, x_hasRun]))] sz) := by
  refine Met.ofW (cc := cX11_rounds) (maxL := 3) (ret := (some .int)) (by decide) rfl ?_
  intro p e s m args below meth c s₁ B hml hv
  obtain ⟨rfl, hsz, hZ, hP, hK, hD0⟩ := hv
  have hx := B.exec
  have hb := B.bytes
  have hr := B.returns
  have hts := atoms_spec (ws := wzX11_rounds) B.pre
  have hown : s.vm.findClass RX11 = some m.cls := findClass_of_methodNamed B.named
  have hlocks := B.notSynchronized
  subst hsz
  have hD := hD0.self (sz := s.heap.size)
  generalize hAe : va_A [(h0, .inr (10, [x_tape, x_told, x_code, x_reader, x_machine, x_length, x_latestFault, x_hasProgram, x_hasRun]))] s.heap.size = A at hD ⊢
  have hA : ∀ q : Nat, s.heap.size ≤ q → A q := fun q h => by rw [← hAe]; exact Or.inr h
  have hS : va_S A s.heap s.heap [] := va_S.rf
  have hP : va_P (dC, dI) vwCl [(h0, .inr (10, [x_tape, x_told, x_code, x_reader, x_machine, x_length, x_latestFault, x_hasProgram, x_hasRun]))] s.heap := hP
  have hl := lv_entry ([.ref h0, .int n, .int k]) (n := 3) (Nat.le_of_ble_eq_true rfl)
  rw [lg_entry_eq]
  generalize (lg_sl ([.ref h0, .int n, .int k]) ++ List.replicate (3 - (lg_sl ([.ref h0, .int n, .int k])).length) Slot.unset).toArray = ls at hl ⊢
  have hl : lv_has ls 3 [(0, .ref h0), (1, .int n), (2, .int k)] := hl
  refine lv_iload_n hx hb dX11_rounds_0 rfl (lv_at hl 1 rfl) ?_
  refine lv_if_lt (tgt := 8) hx hb dX11_rounds_1 (by decide) (fun _ => ?_) (fun c9 => absurd h1 c9)
  refine lv_iconst (v := (-1)) hx hb dX11_rounds_8 (by decide) ?_
  have hP9 := hP.sub (ws' := [(h0, .inr (10, [x_tape, x_told, x_code, x_reader, x_machine, x_length, x_latestFault, x_hasProgram, x_hasRun]))]) [0] rfl
  have hD9 := hD.sub (ws' := [(h0, .inr (10, [x_tape, x_told, x_code, x_reader, x_machine, x_length, x_latestFault, x_hasProgram, x_hasRun]))]) [0] (by decide) rfl
  have hK9 := hK.sub (tys' := []) [] rfl
  exact W.iret (v := (-1)) hx hb hr (fun t ht hW => ⟨⟨(-1), (), rfl, rfl, by rw [ht]; exact hP9, va_K.moved hW.alike hK9, hD9⟩, hS.F ht⟩) hS.2.2 dX11_rounds_9
set_option maxHeartbeats 4000000 in
set_option maxRecDepth 100000 in
theorem c_X11_rounds_b2 (l : Launch) (dC : Nat → ClassId) (dI : Nat → Nat → Nat) (sz : Nat) (h0 : Nat) (n : Int32) (k : Int32) (x_tape : Value) (x_told : Value) (x_code : Value) (x_reader : Value) (x_machine : Value) (x_length : Value) (x_latestFault : Value) (x_hasProgram : Value) (x_hasRun : Value) (h1 : ¬ n < 0) (h2 : k < 0) : Met l yX11_rounds wzX11_rounds ({ frames := 1, cells := 0, slots := 0, locals := 60 }) (va_Pc [.ref h0, .int n, .int k] (zPre dC dI sz [(h0, .inr (10, [x_tape, x_told, x_code, x_reader, x_machine, x_length, x_latestFault, x_hasProgram, x_hasRun]))] [])) (va_Qi (fun (r : Int32) (_ : Unit) => r = -1) (fun (_ : Unit) (t : State) => zPost dC dI (va_A [(h0, .inr (10, [x_tape, x_told, x_code, x_reader, x_machine, x_length, x_latestFault, x_hasProgram, x_hasRun]))] sz) [(h0, .inr (10, [x_tape, x_told, x_code, x_reader, x_machine, x_length, x_latestFault, x_hasProgram, x_hasRun]))] [] t) (va_A [(h0, .inr (10, [x_tape, x_told, x_code, x_reader, x_machine, x_length, x_latestFault, x_hasProgram, x_hasRun]))] sz)) 0 0 (va_A [(h0, .inr (10, [x_tape, x_told, x_code, x_reader, x_machine, x_length, x_latestFault, x_hasProgram, x_hasRun]))] sz) := by
  refine Met.ofW (cc := cX11_rounds) (maxL := 3) (ret := (some .int)) (by decide) rfl ?_
  intro p e s m args below meth c s₁ B hml hv
  obtain ⟨rfl, hsz, hZ, hP, hK, hD0⟩ := hv
  have hx := B.exec
  have hb := B.bytes
  have hr := B.returns
  have hts := atoms_spec (ws := wzX11_rounds) B.pre
  have hown : s.vm.findClass RX11 = some m.cls := findClass_of_methodNamed B.named
  have hlocks := B.notSynchronized
  subst hsz
  have hD := hD0.self (sz := s.heap.size)
  generalize hAe : va_A [(h0, .inr (10, [x_tape, x_told, x_code, x_reader, x_machine, x_length, x_latestFault, x_hasProgram, x_hasRun]))] s.heap.size = A at hD ⊢
  have hA : ∀ q : Nat, s.heap.size ≤ q → A q := fun q h => by rw [← hAe]; exact Or.inr h
  have hS : va_S A s.heap s.heap [] := va_S.rf
  have hP : va_P (dC, dI) vwCl [(h0, .inr (10, [x_tape, x_told, x_code, x_reader, x_machine, x_length, x_latestFault, x_hasProgram, x_hasRun]))] s.heap := hP
  have hl := lv_entry ([.ref h0, .int n, .int k]) (n := 3) (Nat.le_of_ble_eq_true rfl)
  rw [lg_entry_eq]
  generalize (lg_sl ([.ref h0, .int n, .int k]) ++ List.replicate (3 - (lg_sl ([.ref h0, .int n, .int k])).length) Slot.unset).toArray = ls at hl ⊢
  have hl : lv_has ls 3 [(0, .ref h0), (1, .int n), (2, .int k)] := hl
  refine lv_iload_n hx hb dX11_rounds_0 rfl (lv_at hl 1 rfl) ?_
  refine lv_if_lt (tgt := 8) hx hb dX11_rounds_1 (by decide) (fun c9 => absurd c9 h1) (fun _ => ?_)
  refine lv_iload_n hx hb dX11_rounds_4 rfl (lv_at hl 2 rfl) ?_
  refine lv_if_ge (tgt := 10) hx hb dX11_rounds_5 (by decide) (fun c9 => absurd c9 (Int32.not_le.mpr h2)) (fun _ => ?_)
  refine lv_iconst (v := (-1)) hx hb dX11_rounds_8 (by decide) ?_
  have hP9 := hP.sub (ws' := [(h0, .inr (10, [x_tape, x_told, x_code, x_reader, x_machine, x_length, x_latestFault, x_hasProgram, x_hasRun]))]) [0] rfl
  have hD9 := hD.sub (ws' := [(h0, .inr (10, [x_tape, x_told, x_code, x_reader, x_machine, x_length, x_latestFault, x_hasProgram, x_hasRun]))]) [0] (by decide) rfl
  have hK9 := hK.sub (tys' := []) [] rfl
  exact W.iret (v := (-1)) hx hb hr (fun t ht hW => ⟨⟨(-1), (), rfl, rfl, by rw [ht]; exact hP9, va_K.moved hW.alike hK9, hD9⟩, hS.F ht⟩) hS.2.2 dX11_rounds_9
set_option maxHeartbeats 4000000 in
set_option maxRecDepth 100000 in
theorem c_X11_rounds_ok (l : Launch) (dC : Nat → ClassId) (dI : Nat → Nat → Nat) (sz : Nat) (h0 : Nat) (n : Int32) (k : Int32) (x_tape : Value) (x_told : Value) (x_code : Value) (x_reader : Value) (x_machine : Value) (x_length : Value) (x_latestFault : Value) (x_hasProgram : Value) (x_hasRun : Value) (h1 : ¬ n < 0) (h2 : ¬ k < 0) (h3 : ¬ k = 0) : Met l yX11_rounds wzX11_rounds ({ frames := 1, cells := 0, slots := 0, locals := 60 }) (va_Pc [.ref h0, .int n, .int k] (zPre dC dI sz [(h0, .inr (10, [x_tape, x_told, x_code, x_reader, x_machine, x_length, x_latestFault, x_hasProgram, x_hasRun]))] [])) (va_Qi (fun (r : Int32) (_ : Unit) => r = zR n k) (fun (_ : Unit) (t : State) => zPost dC dI (va_A [(h0, .inr (10, [x_tape, x_told, x_code, x_reader, x_machine, x_length, x_latestFault, x_hasProgram, x_hasRun]))] sz) [(h0, .inr (10, [x_tape, x_told, x_code, x_reader, x_machine, x_length, x_latestFault, x_hasProgram, x_hasRun]))] [] t) (va_A [(h0, .inr (10, [x_tape, x_told, x_code, x_reader, x_machine, x_length, x_latestFault, x_hasProgram, x_hasRun]))] sz)) 0 0 (va_A [(h0, .inr (10, [x_tape, x_told, x_code, x_reader, x_machine, x_length, x_latestFault, x_hasProgram, x_hasRun]))] sz) := by
  refine Met.ofW (cc := cX11_rounds) (maxL := 3) (ret := (some .int)) (by decide) rfl ?_
  intro p e s m args below meth c s₁ B hml hv
  obtain ⟨rfl, hsz, hZ, hP, hK, hD0⟩ := hv
  have hx := B.exec
  have hb := B.bytes
  have hr := B.returns
  have hts := atoms_spec (ws := wzX11_rounds) B.pre
  have hown : s.vm.findClass RX11 = some m.cls := findClass_of_methodNamed B.named
  have hlocks := B.notSynchronized
  subst hsz
  have hD := hD0.self (sz := s.heap.size)
  generalize hAe : va_A [(h0, .inr (10, [x_tape, x_told, x_code, x_reader, x_machine, x_length, x_latestFault, x_hasProgram, x_hasRun]))] s.heap.size = A at hD ⊢
  have hA : ∀ q : Nat, s.heap.size ≤ q → A q := fun q h => by rw [← hAe]; exact Or.inr h
  have hS : va_S A s.heap s.heap [] := va_S.rf
  have hP : va_P (dC, dI) vwCl [(h0, .inr (10, [x_tape, x_told, x_code, x_reader, x_machine, x_length, x_latestFault, x_hasProgram, x_hasRun]))] s.heap := hP
  have hl := lv_entry ([.ref h0, .int n, .int k]) (n := 3) (Nat.le_of_ble_eq_true rfl)
  rw [lg_entry_eq]
  generalize (lg_sl ([.ref h0, .int n, .int k]) ++ List.replicate (3 - (lg_sl ([.ref h0, .int n, .int k])).length) Slot.unset).toArray = ls at hl ⊢
  have hl : lv_has ls 3 [(0, .ref h0), (1, .int n), (2, .int k)] := hl
  refine lv_iload_n hx hb dX11_rounds_0 rfl (lv_at hl 1 rfl) ?_
  refine lv_if_lt (tgt := 8) hx hb dX11_rounds_1 (by decide) (fun c9 => absurd c9 h1) (fun _ => ?_)
  refine lv_iload_n hx hb dX11_rounds_4 rfl (lv_at hl 2 rfl) ?_
  refine lv_if_ge (tgt := 10) hx hb dX11_rounds_5 (by decide) (fun _ => ?_) (fun c9 => absurd (Int32.not_lt.mp h2) c9)
  refine lv_iload_n hx hb dX11_rounds_10 rfl (lv_at hl 2 rfl) ?_
  refine lv_if_ne (tgt := 22) hx hb dX11_rounds_11 (by decide) (fun _ => ?_) (fun c9 => absurd c9 h3)
  refine lv_iload_n hx hb dX11_rounds_22 rfl (lv_at hl 1 rfl) ?_
  refine lv_iload_n hx hb dX11_rounds_23 rfl (lv_at hl 2 rfl) ?_
  refine lv_idiv hx hb dX11_rounds_24 (h3) ?_
  refine lv_topi (fun z1 ez1 => ?_)
  refine lv_iload_n hx hb dX11_rounds_25 rfl (lv_at hl 1 rfl) ?_
  refine lv_iload_n hx hb dX11_rounds_26 rfl (lv_at hl 2 rfl) ?_
  refine lv_irem hx hb dX11_rounds_27 (h3) ?_
  refine lv_topi (fun z2 ez2 => ?_)
  refine lv_if_ne (tgt := 35) hx hb dX11_rounds_28 (by decide) (fun c3 => ?_) (fun c3 => ?_)
  ·
    refine lv_iconst (v := 1) hx hb dX11_rounds_35 (by decide) ?_
    refine lv_iadd hx hb dX11_rounds_36 ?_
    refine lv_topi (fun z4 ez4 => ?_)
    have hP9 := hP.sub (ws' := [(h0, .inr (10, [x_tape, x_told, x_code, x_reader, x_machine, x_length, x_latestFault, x_hasProgram, x_hasRun]))]) [0] rfl
    have hD9 := hD.sub (ws' := [(h0, .inr (10, [x_tape, x_told, x_code, x_reader, x_machine, x_length, x_latestFault, x_hasProgram, x_hasRun]))]) [0] (by decide) rfl
    have hK9 := hK.sub (tys' := []) [] rfl
    exact W.iret (v := z4) hx hb hr (fun t ht hW => ⟨⟨z4, (), rfl, (by unfold zR; rw [if_neg (fun g => c3 (ez2.trans g))]; rw [ez4, ez1]), by rw [ht]; exact hP9, va_K.moved hW.alike hK9, hD9⟩, hS.F ht⟩) hS.2.2 dX11_rounds_37
  ·
    refine lv_iconst (v := 0) hx hb dX11_rounds_31 (by decide) ?_
    refine lv_goto (tgt := 36) hx hb dX11_rounds_32 (by decide) ?_
    refine lv_iadd hx hb dX11_rounds_36 ?_
    refine lv_topi (fun z5 ez5 => ?_)
    have hP9 := hP.sub (ws' := [(h0, .inr (10, [x_tape, x_told, x_code, x_reader, x_machine, x_length, x_latestFault, x_hasProgram, x_hasRun]))]) [0] rfl
    have hD9 := hD.sub (ws' := [(h0, .inr (10, [x_tape, x_told, x_code, x_reader, x_machine, x_length, x_latestFault, x_hasProgram, x_hasRun]))]) [0] (by decide) rfl
    have hK9 := hK.sub (tys' := []) [] rfl
    exact W.iret (v := z5) hx hb hr (fun t ht hW => ⟨⟨z5, (), rfl, (by unfold zR; rw [if_pos (ez2.symm.trans c3)]; rw [ez5, ez1]), by rw [ht]; exact hP9, va_K.moved hW.alike hK9, hD9⟩, hS.F ht⟩) hS.2.2 dX11_rounds_37
def zTB : List Cond := [.castable "java/lang/ArithmeticException" "java/lang/ArithmeticException", .declares ⟨"java/lang/RuntimeException", "<init>", "()V"⟩, .declares ⟨"java/lang/Exception", "<init>", "()V"⟩, .declares ⟨"java/lang/Throwable", "<init>", "()V"⟩]
def zIsT : Cond → Bool
  | .castable .. => true
  | .declares .. => true
  | _ => false
theorem zTB_is : zTB.all zIsT = true := by decide +kernel
theorem zTB_all : ∀ w ∈ (vx_at0 RX11 150 "java/lang/ArithmeticException" ["java/lang/RuntimeException", "java/lang/Exception"]).filter (fun w => !goodWord w), w ∈ zTB := by decide +kernel
theorem zTB_ot : (Cond.classLink RX11 148 "java/lang/ArithmeticException" :: Cond.initialized "java/lang/ArithmeticException" :: (vx_at0 RX11 150 "java/lang/ArithmeticException" ["java/lang/RuntimeException", "java/lang/Exception"])).all vx_ot = true := by decide +kernel
/-- what a throw asks of the start: some words, two statics outside A -/
def zTHR (A : Nat → Prop) (U : State) (H : Heap) : Prop := (∀ w ∈ zTB, va_Nw w U) ∧ vx_Zq Bundle.tN "UNASSIGNED_STACK" Bundle.steD A U H ∧ vx_Zq Bundle.tN "SUPPRESSED_SENTINEL" Bundle.listD A U H
theorem zT_warm {w : Cond} (hw : zIsT w = true) {s U : State} (hW : s.WarmedH U.vm) (h : va_Nw w s) : va_Nw w U := by
  cases w <;> first | exact va_Nw.warmC hW h | exact va_Nw.warmD hW h | (simp [zIsT] at hw)
theorem zT_same {w : Cond} (hw : zIsT w = true) {u U : State} (hv : u.vm = U.vm) (h : va_Nw w u) : va_Nw w U := by
  cases w <;> first | exact va_Nw.same rfl hv h | (simp [zIsT] at hw)
theorem zT_use {w : Cond} (hw : zIsT w = true) {a : Array Value} {U : State} (h : va_Nw w U) : w.before a U = true := by
  cases w <;> first | exact va_Nw.use rfl h | (simp [zIsT] at hw)
theorem zTHR.kept {A : Nat → Prop} {U : State} {H H1 : Heap} (h : zTHR A U H) (hq : ∀ a : Nat, a < H.size → ¬ A a → H1[a]? = H[a]?) : zTHR A U H1 := ⟨h.1, h.2.1.kept hq, h.2.2.kept hq⟩
theorem zTHR.narrow {A B : Nat → Prop} {U : State} {H : Heap} (h : zTHR A U H) (hq : ∀ q, B q → A q) : zTHR B U H := ⟨h.1, h.2.1.narrow hq, h.2.2.narrow hq⟩
theorem zTHR.warm {A : Nat → Prop} {s U : State} {H : Heap} (hW : s.WarmedH U.vm) (h : zTHR A s H) : zTHR A U H := ⟨fun w hw => zT_warm (List.all_eq_true.mp zTB_is w hw) hW (h.1 w hw), vx_Zq.moved hW.alike h.2.1, vx_Zq.moved hW.alike h.2.2⟩
theorem zTHR.calling {A : Nat → Prop} {U : State} {H : Heap} {g : JFrame} {mk : MethodId} {a : Array Value} (h : zTHR A U H) : zTHR A (U.calling g mk a) H := ⟨fun w hw => zT_same (u := U) (U := U.calling g mk a) (List.all_eq_true.mp zTB_is w hw) rfl (h.1 w hw), vx_Zq.moved (u := U) (U := U.calling g mk a) (Vm.Alike.refl U.vm) h.2.1, vx_Zq.moved (u := U) (U := U.calling g mk a) (Vm.Alike.refl U.vm) h.2.2⟩
def zPreT (dC : Nat → ClassId) (dI : Nat → Nat → Nat) (sz : Nat) (W0 : va_W) (tys : List (ClassId × FieldType)) (U : State) : Prop :=
  zPre dC dI sz W0 tys U ∧ zTHR (va_A W0 sz) U U.heap
theorem zPreT.blind {av : List Value} {dC : Nat → ClassId} {dI : Nat → Nat → Nat} {sz : Nat} {W0 : va_W} {tys : List (ClassId × FieldType)} : FrameBlind (va_Pc av (zPreT dC dI sz W0 tys)) := by
  intro a U g mk q
  obtain ⟨q0, q1, q2⟩ := q
  have q3 : va_Pc av (zPre dC dI sz W0 tys) a (U.calling g mk a) := zPre.blind a U g mk ⟨q0, q1⟩
  exact ⟨q0, q3.2, q2.calling⟩
theorem zPreT.go {av : List Value} {dC : Nat → ClassId} {dI : Nat → Nat → Nat} {W0 : va_W} {tys : List (ClassId × FieldType)} {s : State} {H : Heap} {locs : List Loc} {A : Nat → Prop} (hX : zTHR A s s.heap) (hS : va_S A s.heap H locs) (hF : ∀ q, va_A W0 H.size q → A q) (hZ : zAMB s) (hP : va_P (dC, dI) vwCl W0 H) (hK : va_K (dC, dI) vwCl tys s) (hD : va_D A W0) :
    ∀ U : State, U.heap = H → s.WarmedH U.vm → va_Pc av (zPreT dC dI H.size W0 tys) av.toArray U :=
  fun U hU hW => ⟨rfl, (zPre.go (av := av) hZ hP hK hD U hU hW).2, by rw [hU]; exact ((hX.kept hS.2.1).narrow hF).warm hW⟩
theorem k_X11_rounds_classLink_RX11_148_java_lang_ArithmeticException : Cond.classLink RX11 148 "java/lang/ArithmeticException" ∈ wzX11_rounds := List.mem_cons_of_mem _ (List.mem_append_left _ (List.mem_of_getElem? (i := 0) rfl))
theorem k_X11_rounds_initialized_java_lang_ArithmeticException : Cond.initialized "java/lang/ArithmeticException" ∈ wzX11_rounds := List.mem_cons_of_mem _ (List.mem_append_left _ (List.mem_of_getElem? (i := 1) rfl))
set_option maxHeartbeats 4000000 in
set_option maxRecDepth 100000 in
theorem c_X11_rounds_z (l : Launch) (dC : Nat → ClassId) (dI : Nat → Nat → Nat) (sz : Nat) (h0 : Nat) (n : Int32) (x_tape : Value) (x_told : Value) (x_code : Value) (x_reader : Value) (x_machine : Value) (x_length : Value) (x_latestFault : Value) (x_hasProgram : Value) (x_hasRun : Value) (hl9 : l.stackTraces = false) (h1 : ¬ n < 0) : vx_Met l yX11_rounds wzX11_rounds ({ frames := 7, cells := 1, slots := 6, locals := 420 }) (va_Pc [.ref h0, .int n, .int 0] (zPreT dC dI sz [(h0, .inr (10, [x_tape, x_told, x_code, x_reader, x_machine, x_length, x_latestFault, x_hasProgram, x_hasRun]))] [])) (va_Qi (fun (r : Int32) (_ : Unit) => False) (fun (_ : Unit) (t : State) => zPost dC dI (va_A [(h0, .inr (10, [x_tape, x_told, x_code, x_reader, x_machine, x_length, x_latestFault, x_hasProgram, x_hasRun]))] sz) [] [] t) (va_A [(h0, .inr (10, [x_tape, x_told, x_code, x_reader, x_machine, x_length, x_latestFault, x_hasProgram, x_hasRun]))] sz)) (vx_X (fun (_ : Unit) => True) (fun (E : String) (_ : Unit) (_ : State) => E = "java/lang/ArithmeticException") (va_A [] sz)) 1 6 (va_A [(h0, .inr (10, [x_tape, x_told, x_code, x_reader, x_machine, x_length, x_latestFault, x_hasProgram, x_hasRun]))] sz) := by
  refine vx_ofW (cc := cX11_rounds) (maxL := 3) (ret := (some .int)) (by decide) rfl ?_
  intro p e s m args below meth c s₁ B hml htab hv
  obtain ⟨rfl, ⟨hsz, hZ, hP, hK, hD0⟩, hX⟩ := hv
  have hx := B.exec
  have hb := B.bytes
  have hr := B.returns
  have hts := atoms_spec (ws := wzX11_rounds) B.pre
  have hown : s.vm.findClass RX11 = some m.cls := findClass_of_methodNamed B.named
  have hlocks := B.notSynchronized
  subst hsz
  have hD := hD0.self (sz := s.heap.size)
  generalize hAe : va_A [(h0, .inr (10, [x_tape, x_told, x_code, x_reader, x_machine, x_length, x_latestFault, x_hasProgram, x_hasRun]))] s.heap.size = A at hD hX ⊢
  have hA : ∀ q : Nat, s.heap.size ≤ q → A q := fun q h => by rw [← hAe]; exact Or.inr h
  have hS : va_S A s.heap s.heap [] := va_S.rf
  have hP : va_P (dC, dI) vwCl [(h0, .inr (10, [x_tape, x_told, x_code, x_reader, x_machine, x_length, x_latestFault, x_hasProgram, x_hasRun]))] s.heap := hP
  have hl := lv_entry ([.ref h0, .int n, .int 0]) (n := 3) (Nat.le_of_ble_eq_true rfl)
  rw [lg_entry_eq]
  generalize (lg_sl ([.ref h0, .int n, .int 0]) ++ List.replicate (3 - (lg_sl ([.ref h0, .int n, .int 0])).length) Slot.unset).toArray = ls at hl ⊢
  have hl : lv_has ls 3 [(0, .ref h0), (1, .int n), (2, .int 0)] := hl
  refine lv_iload_n hx hb dX11_rounds_0 rfl (lv_at hl 1 rfl) ?_
  refine lv_if_lt (tgt := 8) hx hb dX11_rounds_1 (by decide) (fun c9 => absurd c9 h1) (fun _ => ?_)
  refine lv_iload_n hx hb dX11_rounds_4 rfl (lv_at hl 2 rfl) ?_
  refine lv_if_ge (tgt := 10) hx hb dX11_rounds_5 (by decide) (fun _ => ?_) (fun c9 => absurd (by decide) c9)
  refine lv_iload_n hx hb dX11_rounds_10 rfl (lv_at hl 2 rfl) ?_
  refine lv_if_ne (tgt := 22) hx hb dX11_rounds_11 (by decide) (fun c9 => absurd (by decide) c9) (fun _ => ?_)
  have hat : ∀ w ∈ (vx_at0 RX11 150 "java/lang/ArithmeticException" ["java/lang/RuntimeException", "java/lang/Exception"]), w.before _ s = true := vx_hat (fun w h => hts w (List.mem_cons_of_mem _ (List.mem_append_right _ (List.mem_append_left _ (h))))) zTB_all (fun w h => zT_use (List.all_eq_true.mp zTB_is w h) (hX.1 w h))
  exact vx_throw0 (A := A) hx hb hl9 (own := RX11) (cls := "java/lang/ArithmeticException") (names := ["java/lang/RuntimeException", "java/lang/Exception"]) (ik := 148) (ic := 150) hown (by decide) (by decide) (hts (.classLink RX11 148 "java/lang/ArithmeticException") k_X11_rounds_classLink_RX11_148_java_lang_ArithmeticException) (hts (.initialized "java/lang/ArithmeticException") k_X11_rounds_initialized_java_lang_ArithmeticException) hat (fun w h => List.all_eq_true.mp zTB_ot w h) hX.2.1 hX.2.2 hS (hl.1.trans hml.symm) dX11_rounds_14 dX11_rounds_17 dX11_rounds_18 dX11_rounds_21 (fun x h => (htab x h).elim) (by decide) (by decide) (by decide) (by decide) hlocks (fun t _ h5 h6 => ⟨(), trivial, rfl, h5, fun q hq _ => h6 q hq⟩) (fun z h => nomatch h) (by decide) (by decide)
set_option maxHeartbeats 4000000 in
set_option maxRecDepth 100000 in
theorem c_L_rounds_b1 (l : Launch) (dC : Nat → ClassId) (dI : Nat → Nat → Nat) (sz : Nat) (h0 : Nat) (n : Int32) (k : Int32) (qo : Nat) (ko : ClassId) (fo : Nat → Int64) (x_tape : Value) (x_told : Value) (x_code : Value) (x_reader : Value) (x_machine : Value) (x_length : Value) (x_latestFault : Value) (x_hasProgram : Value) (x_hasRun : Value) (h1 : n < 0) : Met l yL_rounds wzL_rounds ({ frames := 2, cells := 0, slots := 0, locals := 120 }) (va_Pc [.ref h0, .int n, .int k, .ref qo] (zPre dC dI sz [(h0, .inr (10, [x_tape, x_told, x_code, x_reader, x_machine, x_length, x_latestFault, x_hasProgram, x_hasRun])), (qo, .inl (ko, 1, .inr (.inl fo)))] [(ko, .long)])) (va_Qi (fun (r : Int32) (_ : Unit) => r = 0) (fun (_ : Unit) (t : State) => zPost dC dI (va_A [(h0, .inr (10, [x_tape, x_told, x_code, x_reader, x_machine, x_length, x_latestFault, x_hasProgram, x_hasRun])), (qo, .inl (ko, 1, .inr (.inl fo)))] sz) [(h0, .inr (10, [x_tape, x_told, x_code, x_reader, x_machine, x_length, x_latestFault, x_hasProgram, x_hasRun])), (qo, .inl (ko, 1, .inr (.inl (vp_updL fo 0 (-1)))))] [(ko, .long)] t) (va_A [(h0, .inr (10, [x_tape, x_told, x_code, x_reader, x_machine, x_length, x_latestFault, x_hasProgram, x_hasRun])), (qo, .inl (ko, 1, .inr (.inl fo)))] sz)) 0 0 (va_A [(h0, .inr (10, [x_tape, x_told, x_code, x_reader, x_machine, x_length, x_latestFault, x_hasProgram, x_hasRun])), (qo, .inl (ko, 1, .inr (.inl fo)))] sz) := by
  refine va_MetW (hh := [(0, 10, 13, 13)]) (cc := cL_rounds) (maxL := 5) (ret := (some .int)) (by decide) rfl ?_
  intro p e s m args below meth c s₁ B hml hv
  obtain ⟨rfl, hsz, hZ, hP, hK, hD0⟩ := hv
  have hx := B.exec
  have hb := B.bytes
  have hr := B.returns
  have hts := atoms_spec (ws := wzL_rounds) B.pre
  have hown : s.vm.findClass RL = some m.cls := findClass_of_methodNamed B.named
  have hlocks := B.notSynchronized
  subst hsz
  have hD := hD0.self (sz := s.heap.size)
  generalize hAe : va_A [(h0, .inr (10, [x_tape, x_told, x_code, x_reader, x_machine, x_length, x_latestFault, x_hasProgram, x_hasRun])), (qo, .inl (ko, 1, .inr (.inl fo)))] s.heap.size = A at hD ⊢
  have hA : ∀ q : Nat, s.heap.size ≤ q → A q := fun q h => by rw [← hAe]; exact Or.inr h
  have hS : va_S A s.heap s.heap [] := va_S.rf
  have hP : va_P (dC, dI) vwCl [(h0, .inr (10, [x_tape, x_told, x_code, x_reader, x_machine, x_length, x_latestFault, x_hasProgram, x_hasRun])), (qo, .inl (ko, 1, .inr (.inl fo)))] s.heap := hP
  have hl := lv_entry ([.ref h0, .int n, .int k, .ref qo]) (n := 5) (Nat.le_of_ble_eq_true rfl)
  rw [lg_entry_eq]
  generalize (lg_sl ([.ref h0, .int n, .int k, .ref qo]) ++ List.replicate (5 - (lg_sl ([.ref h0, .int n, .int k, .ref qo])).length) Slot.unset).toArray = ls at hl ⊢
  have hl : lv_has ls 5 [(0, .ref h0), (1, .int n), (2, .int k), (3, .ref qo)] := hl
  refine lv_aload_n hx hb dL_rounds_0 rfl (lv_at hl 3 rfl) ?_
  refine lv_iconst (v := 0) hx hb dL_rounds_1 (by decide) ?_
  refine lv_aload_n hx hb dL_rounds_2 rfl (lv_at hl 0 rfl) ?_
  refine lv_iload_n hx hb dL_rounds_3 rfl (lv_at hl 1 rfl) ?_
  refine lv_iload_n hx hb dL_rounds_4 rfl (lv_at hl 2 rfl) ?_
  have hPc := hP.sub (ws' := [(h0, .inr (10, [x_tape, x_told, x_code, x_reader, x_machine, x_length, x_latestFault, x_hasProgram, x_hasRun]))]) [0] rfl
  have hDc := hD.sub (ws' := [(h0, .inr (10, [x_tape, x_told, x_code, x_reader, x_machine, x_length, x_latestFault, x_hasProgram, x_hasRun]))]) [0] (by decide) rfl
  have hKc := hK.sub (tys' := []) [] rfl
  have hFc := va_free (wc := [(h0, .inr (10, [x_tape, x_told, x_code, x_reader, x_machine, x_length, x_latestFault, x_hasProgram, x_hasRun]))]) hD hS hA [0] rfl
  refine va_calli (va_runV (As := [.int n, .int k]) (rest := [.int 0, .ref qo]) ⟨hx, hb, hml, hown, hts⟩ (c_X11_rounds_b1 l dC dI _ h0 n k x_tape x_told x_code x_reader x_machine x_length x_latestFault x_hasProgram x_hasRun h1) (cwV 2 hts hL_rounds_X11_rounds_v7 rfl rfl rfl (by decide +kernel) ⟨Nat.le_of_ble_eq_true rfl, Nat.le_of_ble_eq_true rfl⟩) ⟨zPre.blind, va_recv hKc hPc (ci := 10) (q0 := 0) rfl rfl, zPre.go hZ hPc hKc hDc⟩ rfl rfl hl.1 rfl (lv_room (Nat.le_of_ble_eq_true rfl)) dL_rounds_5 ⟨Nat.le_of_ble_eq_true rfl, Nat.le_of_ble_eq_true rfl⟩) hS (fun q _ h => hFc q h) hFc (fun r1 u9 t9 H1 locs ht hvm hw hB hz1 hk1 hS => ?_)
  obtain ⟨hP1, hK1, hD1⟩ := hB
  rw [ht] at hP1
  have hK1 := va_K.moved hvm.symm hK1
  obtain ⟨hP, hD⟩ := va_join (wr := [(qo, .inl (ko, 1, .inr (.inl fo)))]) (w1 := [(h0, .inr (10, [x_tape, x_told, x_code, x_reader, x_machine, x_length, x_latestFault, x_hasProgram, x_hasRun]))]) hP hD [0] [1] rfl rfl (by decide) (by decide) hk1 hFc hP1 hD1
  have hK := hK.app hK1
  generalize H1 = H at hP hS ⊢
  have hP : va_P (dC, dI) vwCl [(qo, .inl (ko, 1, .inr (.inl fo))), (h0, .inr (10, [x_tape, x_told, x_code, x_reader, x_machine, x_length, x_latestFault, x_hasProgram, x_hasRun]))] H := hP
  have hD : va_D A [(qo, .inl (ko, 1, .inr (.inl fo))), (h0, .inr (10, [x_tape, x_told, x_code, x_reader, x_machine, x_length, x_latestFault, x_hasProgram, x_hasRun]))] := hD
  have hK : va_K (dC, dI) vwCl [(ko, .long)] s := hK
  obtain rfl : r1 = (-1) := hw
  refine lv_i2l (v := -1) hx hb dL_rounds_8 (by decide) ?_
  refine va_last hx hb hK hP hD hS 0 0 rfl rfl (by unfold vp_in; decide) dL_rounds_9 (fun H locs hP hD hS => ?_)
  have hP : va_P (dC, dI) vwCl [(qo, .inl (ko, 1, .inr (.inl (vp_updL fo 0 (-1))))), (h0, .inr (10, [x_tape, x_told, x_code, x_reader, x_machine, x_length, x_latestFault, x_hasProgram, x_hasRun]))] H := hP
  have hD : va_D A [(qo, .inl (ko, 1, .inr (.inl (vp_updL fo 0 (-1))))), (h0, .inr (10, [x_tape, x_told, x_code, x_reader, x_machine, x_length, x_latestFault, x_hasProgram, x_hasRun]))] := hD
  refine lv_goto (tgt := 17) hx hb dL_rounds_10 (by decide) ?_
  refine lv_iconst (v := 0) hx hb dL_rounds_17 (by decide) ?_
  have hP9 := hP.sub (ws' := [(h0, .inr (10, [x_tape, x_told, x_code, x_reader, x_machine, x_length, x_latestFault, x_hasProgram, x_hasRun])), (qo, .inl (ko, 1, .inr (.inl (vp_updL fo 0 (-1)))))]) [1, 0] rfl
  have hD9 := hD.sub (ws' := [(h0, .inr (10, [x_tape, x_told, x_code, x_reader, x_machine, x_length, x_latestFault, x_hasProgram, x_hasRun])), (qo, .inl (ko, 1, .inr (.inl (vp_updL fo 0 (-1)))))]) [1, 0] (by decide) rfl
  have hK9 := hK.sub (tys' := [(ko, .long)]) [0] rfl
  exact W.iret (v := 0) hx hb hr (fun t ht hW => ⟨⟨0, (), rfl, rfl, by rw [ht]; exact hP9, va_K.moved hW.alike hK9, hD9⟩, hS.F ht⟩) hS.2.2 dL_rounds_18
set_option maxHeartbeats 4000000 in
set_option maxRecDepth 100000 in
theorem c_L_rounds_b2 (l : Launch) (dC : Nat → ClassId) (dI : Nat → Nat → Nat) (sz : Nat) (h0 : Nat) (n : Int32) (k : Int32) (qo : Nat) (ko : ClassId) (fo : Nat → Int64) (x_tape : Value) (x_told : Value) (x_code : Value) (x_reader : Value) (x_machine : Value) (x_length : Value) (x_latestFault : Value) (x_hasProgram : Value) (x_hasRun : Value) (h1 : ¬ n < 0) (h2 : k < 0) : Met l yL_rounds wzL_rounds ({ frames := 2, cells := 0, slots := 0, locals := 120 }) (va_Pc [.ref h0, .int n, .int k, .ref qo] (zPre dC dI sz [(h0, .inr (10, [x_tape, x_told, x_code, x_reader, x_machine, x_length, x_latestFault, x_hasProgram, x_hasRun])), (qo, .inl (ko, 1, .inr (.inl fo)))] [(ko, .long)])) (va_Qi (fun (r : Int32) (_ : Unit) => r = 0) (fun (_ : Unit) (t : State) => zPost dC dI (va_A [(h0, .inr (10, [x_tape, x_told, x_code, x_reader, x_machine, x_length, x_latestFault, x_hasProgram, x_hasRun])), (qo, .inl (ko, 1, .inr (.inl fo)))] sz) [(h0, .inr (10, [x_tape, x_told, x_code, x_reader, x_machine, x_length, x_latestFault, x_hasProgram, x_hasRun])), (qo, .inl (ko, 1, .inr (.inl (vp_updL fo 0 (-1)))))] [(ko, .long)] t) (va_A [(h0, .inr (10, [x_tape, x_told, x_code, x_reader, x_machine, x_length, x_latestFault, x_hasProgram, x_hasRun])), (qo, .inl (ko, 1, .inr (.inl fo)))] sz)) 0 0 (va_A [(h0, .inr (10, [x_tape, x_told, x_code, x_reader, x_machine, x_length, x_latestFault, x_hasProgram, x_hasRun])), (qo, .inl (ko, 1, .inr (.inl fo)))] sz) := by
  refine va_MetW (hh := [(0, 10, 13, 13)]) (cc := cL_rounds) (maxL := 5) (ret := (some .int)) (by decide) rfl ?_
  intro p e s m args below meth c s₁ B hml hv
  obtain ⟨rfl, hsz, hZ, hP, hK, hD0⟩ := hv
  have hx := B.exec
  have hb := B.bytes
  have hr := B.returns
  have hts := atoms_spec (ws := wzL_rounds) B.pre
  have hown : s.vm.findClass RL = some m.cls := findClass_of_methodNamed B.named
  have hlocks := B.notSynchronized
  subst hsz
  have hD := hD0.self (sz := s.heap.size)
  generalize hAe : va_A [(h0, .inr (10, [x_tape, x_told, x_code, x_reader, x_machine, x_length, x_latestFault, x_hasProgram, x_hasRun])), (qo, .inl (ko, 1, .inr (.inl fo)))] s.heap.size = A at hD ⊢
  have hA : ∀ q : Nat, s.heap.size ≤ q → A q := fun q h => by rw [← hAe]; exact Or.inr h
  have hS : va_S A s.heap s.heap [] := va_S.rf
  have hP : va_P (dC, dI) vwCl [(h0, .inr (10, [x_tape, x_told, x_code, x_reader, x_machine, x_length, x_latestFault, x_hasProgram, x_hasRun])), (qo, .inl (ko, 1, .inr (.inl fo)))] s.heap := hP
  have hl := lv_entry ([.ref h0, .int n, .int k, .ref qo]) (n := 5) (Nat.le_of_ble_eq_true rfl)
  rw [lg_entry_eq]
  generalize (lg_sl ([.ref h0, .int n, .int k, .ref qo]) ++ List.replicate (5 - (lg_sl ([.ref h0, .int n, .int k, .ref qo])).length) Slot.unset).toArray = ls at hl ⊢
  have hl : lv_has ls 5 [(0, .ref h0), (1, .int n), (2, .int k), (3, .ref qo)] := hl
  refine lv_aload_n hx hb dL_rounds_0 rfl (lv_at hl 3 rfl) ?_
  refine lv_iconst (v := 0) hx hb dL_rounds_1 (by decide) ?_
  refine lv_aload_n hx hb dL_rounds_2 rfl (lv_at hl 0 rfl) ?_
  refine lv_iload_n hx hb dL_rounds_3 rfl (lv_at hl 1 rfl) ?_
  refine lv_iload_n hx hb dL_rounds_4 rfl (lv_at hl 2 rfl) ?_
  have hPc := hP.sub (ws' := [(h0, .inr (10, [x_tape, x_told, x_code, x_reader, x_machine, x_length, x_latestFault, x_hasProgram, x_hasRun]))]) [0] rfl
  have hDc := hD.sub (ws' := [(h0, .inr (10, [x_tape, x_told, x_code, x_reader, x_machine, x_length, x_latestFault, x_hasProgram, x_hasRun]))]) [0] (by decide) rfl
  have hKc := hK.sub (tys' := []) [] rfl
  have hFc := va_free (wc := [(h0, .inr (10, [x_tape, x_told, x_code, x_reader, x_machine, x_length, x_latestFault, x_hasProgram, x_hasRun]))]) hD hS hA [0] rfl
  refine va_calli (va_runV (As := [.int n, .int k]) (rest := [.int 0, .ref qo]) ⟨hx, hb, hml, hown, hts⟩ (c_X11_rounds_b2 l dC dI _ h0 n k x_tape x_told x_code x_reader x_machine x_length x_latestFault x_hasProgram x_hasRun h1 h2) (cwV 2 hts hL_rounds_X11_rounds_v7 rfl rfl rfl (by decide +kernel) ⟨Nat.le_of_ble_eq_true rfl, Nat.le_of_ble_eq_true rfl⟩) ⟨zPre.blind, va_recv hKc hPc (ci := 10) (q0 := 0) rfl rfl, zPre.go hZ hPc hKc hDc⟩ rfl rfl hl.1 rfl (lv_room (Nat.le_of_ble_eq_true rfl)) dL_rounds_5 ⟨Nat.le_of_ble_eq_true rfl, Nat.le_of_ble_eq_true rfl⟩) hS (fun q _ h => hFc q h) hFc (fun r1 u9 t9 H1 locs ht hvm hw hB hz1 hk1 hS => ?_)
  obtain ⟨hP1, hK1, hD1⟩ := hB
  rw [ht] at hP1
  have hK1 := va_K.moved hvm.symm hK1
  obtain ⟨hP, hD⟩ := va_join (wr := [(qo, .inl (ko, 1, .inr (.inl fo)))]) (w1 := [(h0, .inr (10, [x_tape, x_told, x_code, x_reader, x_machine, x_length, x_latestFault, x_hasProgram, x_hasRun]))]) hP hD [0] [1] rfl rfl (by decide) (by decide) hk1 hFc hP1 hD1
  have hK := hK.app hK1
  generalize H1 = H at hP hS ⊢
  have hP : va_P (dC, dI) vwCl [(qo, .inl (ko, 1, .inr (.inl fo))), (h0, .inr (10, [x_tape, x_told, x_code, x_reader, x_machine, x_length, x_latestFault, x_hasProgram, x_hasRun]))] H := hP
  have hD : va_D A [(qo, .inl (ko, 1, .inr (.inl fo))), (h0, .inr (10, [x_tape, x_told, x_code, x_reader, x_machine, x_length, x_latestFault, x_hasProgram, x_hasRun]))] := hD
  have hK : va_K (dC, dI) vwCl [(ko, .long)] s := hK
  obtain rfl : r1 = (-1) := hw
  refine lv_i2l (v := -1) hx hb dL_rounds_8 (by decide) ?_
  refine va_last hx hb hK hP hD hS 0 0 rfl rfl (by unfold vp_in; decide) dL_rounds_9 (fun H locs hP hD hS => ?_)
  have hP : va_P (dC, dI) vwCl [(qo, .inl (ko, 1, .inr (.inl (vp_updL fo 0 (-1))))), (h0, .inr (10, [x_tape, x_told, x_code, x_reader, x_machine, x_length, x_latestFault, x_hasProgram, x_hasRun]))] H := hP
  have hD : va_D A [(qo, .inl (ko, 1, .inr (.inl (vp_updL fo 0 (-1))))), (h0, .inr (10, [x_tape, x_told, x_code, x_reader, x_machine, x_length, x_latestFault, x_hasProgram, x_hasRun]))] := hD
  refine lv_goto (tgt := 17) hx hb dL_rounds_10 (by decide) ?_
  refine lv_iconst (v := 0) hx hb dL_rounds_17 (by decide) ?_
  have hP9 := hP.sub (ws' := [(h0, .inr (10, [x_tape, x_told, x_code, x_reader, x_machine, x_length, x_latestFault, x_hasProgram, x_hasRun])), (qo, .inl (ko, 1, .inr (.inl (vp_updL fo 0 (-1)))))]) [1, 0] rfl
  have hD9 := hD.sub (ws' := [(h0, .inr (10, [x_tape, x_told, x_code, x_reader, x_machine, x_length, x_latestFault, x_hasProgram, x_hasRun])), (qo, .inl (ko, 1, .inr (.inl (vp_updL fo 0 (-1)))))]) [1, 0] (by decide) rfl
  have hK9 := hK.sub (tys' := [(ko, .long)]) [0] rfl
  exact W.iret (v := 0) hx hb hr (fun t ht hW => ⟨⟨0, (), rfl, rfl, by rw [ht]; exact hP9, va_K.moved hW.alike hK9, hD9⟩, hS.F ht⟩) hS.2.2 dL_rounds_18
set_option maxHeartbeats 4000000 in
set_option maxRecDepth 100000 in
theorem c_L_rounds_ok (l : Launch) (dC : Nat → ClassId) (dI : Nat → Nat → Nat) (sz : Nat) (h0 : Nat) (n : Int32) (k : Int32) (qo : Nat) (ko : ClassId) (fo : Nat → Int64) (x_tape : Value) (x_told : Value) (x_code : Value) (x_reader : Value) (x_machine : Value) (x_length : Value) (x_latestFault : Value) (x_hasProgram : Value) (x_hasRun : Value) (h1 : ¬ n < 0) (h2 : ¬ k < 0) (h3 : ¬ k = 0) : Met l yL_rounds wzL_rounds ({ frames := 2, cells := 0, slots := 0, locals := 120 }) (va_Pc [.ref h0, .int n, .int k, .ref qo] (zPre dC dI sz [(h0, .inr (10, [x_tape, x_told, x_code, x_reader, x_machine, x_length, x_latestFault, x_hasProgram, x_hasRun])), (qo, .inl (ko, 1, .inr (.inl fo)))] [(ko, .long)])) (va_Qi (fun (r : Int32) (_ : Unit) => r = 0) (fun (_ : Unit) (t : State) => zPost dC dI (va_A [(h0, .inr (10, [x_tape, x_told, x_code, x_reader, x_machine, x_length, x_latestFault, x_hasProgram, x_hasRun])), (qo, .inl (ko, 1, .inr (.inl fo)))] sz) [(h0, .inr (10, [x_tape, x_told, x_code, x_reader, x_machine, x_length, x_latestFault, x_hasProgram, x_hasRun])), (qo, .inl (ko, 1, .inr (.inl (vp_updL fo 0 (((zR n k) : Int32).toInt64)))))] [(ko, .long)] t) (va_A [(h0, .inr (10, [x_tape, x_told, x_code, x_reader, x_machine, x_length, x_latestFault, x_hasProgram, x_hasRun])), (qo, .inl (ko, 1, .inr (.inl fo)))] sz)) 0 0 (va_A [(h0, .inr (10, [x_tape, x_told, x_code, x_reader, x_machine, x_length, x_latestFault, x_hasProgram, x_hasRun])), (qo, .inl (ko, 1, .inr (.inl fo)))] sz) := by
  refine va_MetW (hh := [(0, 10, 13, 13)]) (cc := cL_rounds) (maxL := 5) (ret := (some .int)) (by decide) rfl ?_
  intro p e s m args below meth c s₁ B hml hv
  obtain ⟨rfl, hsz, hZ, hP, hK, hD0⟩ := hv
  have hx := B.exec
  have hb := B.bytes
  have hr := B.returns
  have hts := atoms_spec (ws := wzL_rounds) B.pre
  have hown : s.vm.findClass RL = some m.cls := findClass_of_methodNamed B.named
  have hlocks := B.notSynchronized
  subst hsz
  have hD := hD0.self (sz := s.heap.size)
  generalize hAe : va_A [(h0, .inr (10, [x_tape, x_told, x_code, x_reader, x_machine, x_length, x_latestFault, x_hasProgram, x_hasRun])), (qo, .inl (ko, 1, .inr (.inl fo)))] s.heap.size = A at hD ⊢
  have hA : ∀ q : Nat, s.heap.size ≤ q → A q := fun q h => by rw [← hAe]; exact Or.inr h
  have hS : va_S A s.heap s.heap [] := va_S.rf
  have hP : va_P (dC, dI) vwCl [(h0, .inr (10, [x_tape, x_told, x_code, x_reader, x_machine, x_length, x_latestFault, x_hasProgram, x_hasRun])), (qo, .inl (ko, 1, .inr (.inl fo)))] s.heap := hP
  have hl := lv_entry ([.ref h0, .int n, .int k, .ref qo]) (n := 5) (Nat.le_of_ble_eq_true rfl)
  rw [lg_entry_eq]
  generalize (lg_sl ([.ref h0, .int n, .int k, .ref qo]) ++ List.replicate (5 - (lg_sl ([.ref h0, .int n, .int k, .ref qo])).length) Slot.unset).toArray = ls at hl ⊢
  have hl : lv_has ls 5 [(0, .ref h0), (1, .int n), (2, .int k), (3, .ref qo)] := hl
  refine lv_aload_n hx hb dL_rounds_0 rfl (lv_at hl 3 rfl) ?_
  refine lv_iconst (v := 0) hx hb dL_rounds_1 (by decide) ?_
  refine lv_aload_n hx hb dL_rounds_2 rfl (lv_at hl 0 rfl) ?_
  refine lv_iload_n hx hb dL_rounds_3 rfl (lv_at hl 1 rfl) ?_
  refine lv_iload_n hx hb dL_rounds_4 rfl (lv_at hl 2 rfl) ?_
  have hPc := hP.sub (ws' := [(h0, .inr (10, [x_tape, x_told, x_code, x_reader, x_machine, x_length, x_latestFault, x_hasProgram, x_hasRun]))]) [0] rfl
  have hDc := hD.sub (ws' := [(h0, .inr (10, [x_tape, x_told, x_code, x_reader, x_machine, x_length, x_latestFault, x_hasProgram, x_hasRun]))]) [0] (by decide) rfl
  have hKc := hK.sub (tys' := []) [] rfl
  have hFc := va_free (wc := [(h0, .inr (10, [x_tape, x_told, x_code, x_reader, x_machine, x_length, x_latestFault, x_hasProgram, x_hasRun]))]) hD hS hA [0] rfl
  refine va_calli (va_runV (As := [.int n, .int k]) (rest := [.int 0, .ref qo]) ⟨hx, hb, hml, hown, hts⟩ (c_X11_rounds_ok l dC dI _ h0 n k x_tape x_told x_code x_reader x_machine x_length x_latestFault x_hasProgram x_hasRun h1 h2 h3) (cwV 2 hts hL_rounds_X11_rounds_v7 rfl rfl rfl (by decide +kernel) ⟨Nat.le_of_ble_eq_true rfl, Nat.le_of_ble_eq_true rfl⟩) ⟨zPre.blind, va_recv hKc hPc (ci := 10) (q0 := 0) rfl rfl, zPre.go hZ hPc hKc hDc⟩ rfl rfl hl.1 rfl (lv_room (Nat.le_of_ble_eq_true rfl)) dL_rounds_5 ⟨Nat.le_of_ble_eq_true rfl, Nat.le_of_ble_eq_true rfl⟩) hS (fun q _ h => hFc q h) hFc (fun r1 u9 t9 H1 locs ht hvm hw hB hz1 hk1 hS => ?_)
  obtain ⟨hP1, hK1, hD1⟩ := hB
  rw [ht] at hP1
  have hK1 := va_K.moved hvm.symm hK1
  obtain ⟨hP, hD⟩ := va_join (wr := [(qo, .inl (ko, 1, .inr (.inl fo)))]) (w1 := [(h0, .inr (10, [x_tape, x_told, x_code, x_reader, x_machine, x_length, x_latestFault, x_hasProgram, x_hasRun]))]) hP hD [0] [1] rfl rfl (by decide) (by decide) hk1 hFc hP1 hD1
  have hK := hK.app hK1
  generalize H1 = H at hP hS ⊢
  have hP : va_P (dC, dI) vwCl [(qo, .inl (ko, 1, .inr (.inl fo))), (h0, .inr (10, [x_tape, x_told, x_code, x_reader, x_machine, x_length, x_latestFault, x_hasProgram, x_hasRun]))] H := hP
  have hD : va_D A [(qo, .inl (ko, 1, .inr (.inl fo))), (h0, .inr (10, [x_tape, x_told, x_code, x_reader, x_machine, x_length, x_latestFault, x_hasProgram, x_hasRun]))] := hD
  have hK : va_K (dC, dI) vwCl [(ko, .long)] s := hK
  obtain rfl : r1 = (zR n k) := hw
  refine lv_i2l (v := ((zR n k) : Int32).toInt64) hx hb dL_rounds_8 rfl ?_
  refine va_last hx hb hK hP hD hS 0 0 rfl rfl (by unfold vp_in; decide) dL_rounds_9 (fun H locs hP hD hS => ?_)
  have hP : va_P (dC, dI) vwCl [(qo, .inl (ko, 1, .inr (.inl (vp_updL fo 0 (((zR n k) : Int32).toInt64))))), (h0, .inr (10, [x_tape, x_told, x_code, x_reader, x_machine, x_length, x_latestFault, x_hasProgram, x_hasRun]))] H := hP
  have hD : va_D A [(qo, .inl (ko, 1, .inr (.inl (vp_updL fo 0 (((zR n k) : Int32).toInt64))))), (h0, .inr (10, [x_tape, x_told, x_code, x_reader, x_machine, x_length, x_latestFault, x_hasProgram, x_hasRun]))] := hD
  refine lv_goto (tgt := 17) hx hb dL_rounds_10 (by decide) ?_
  refine lv_iconst (v := 0) hx hb dL_rounds_17 (by decide) ?_
  have hP9 := hP.sub (ws' := [(h0, .inr (10, [x_tape, x_told, x_code, x_reader, x_machine, x_length, x_latestFault, x_hasProgram, x_hasRun])), (qo, .inl (ko, 1, .inr (.inl (vp_updL fo 0 (((zR n k) : Int32).toInt64)))))]) [1, 0] rfl
  have hD9 := hD.sub (ws' := [(h0, .inr (10, [x_tape, x_told, x_code, x_reader, x_machine, x_length, x_latestFault, x_hasProgram, x_hasRun])), (qo, .inl (ko, 1, .inr (.inl (vp_updL fo 0 (((zR n k) : Int32).toInt64)))))]) [1, 0] (by decide) rfl
  have hK9 := hK.sub (tys' := [(ko, .long)]) [0] rfl
  exact W.iret (v := 0) hx hb hr (fun t ht hW => ⟨⟨0, (), rfl, rfl, by rw [ht]; exact hP9, va_K.moved hW.alike hK9, hD9⟩, hS.F ht⟩) hS.2.2 dL_rounds_18
section Rows
variable {p : Program} {l : Launch} {e : Env} {R : Room} {s : State} {m : MethodId} {args : Array Value} {below : List Frame} {meth : Method} {c : Code} {H : Heap} {locs : List Loc} {cells slots : Nat} {Q : State → Prop}
variable {mc ms : Nat} {free : Addr → Prop} {A0 A1 : Nat → Prop} {H0 : Heap} {a : Array Value} {pc : Nat} {ls : Array Slot} {st0 rest : List Value}
/-- caught by the row x of this method's table; the rows ahead don't take it -/
theorem vx_catch {own name : String} {E : String} {ce : Cell} {q : Addr} (hown : s.vm.findClass own = some m.cls) (pre : List ExceptionTableEntry) (x : ExceptionTableEntry) (suf : List ExceptionTableEntry) (hsplit : c.exceptionTable.toList = pre ++ x :: suf)
    (hpass : ∀ z ∈ pre, covers z pc = false ∨ (z.catchType ≠ 0 ∧ ∃ nm : String, (Cond.classLink own z.catchType nm).before args s = true ∧ va_Nc E nm s)) (hx : covers x pc = true) (h0 : x.catchType ≠ 0)
    (hlink : (Cond.classLink own x.catchType name).before args s = true) (hcast : (Cond.castable E name).before args s = true) (hcell : H[q]? = some ce) (hv : ce.vm = .none) (hcl : s.vm.findClass E = some ce.cls)
    (kk : W p l e R s m args below meth c H locs cells slots Q (F0 m x.handlerPc ls [.ref q])) : vx_W p l e R s m args below meth c H locs cells slots Q (F0 m pc ls rest) q := by
  intro T hT X
  have hpl : e.platform.magicAccessors = ({} : Platform).magicAccessors := by rw [X.admits.platform]
  obtain ⟨c3, c4, hc3, hc4, hasg⟩ := Cond.castable_spec hcast
  cases Option.some.inj (hc3.symm.trans hcl)
  obtain ⟨c5, hc5, hcl5⟩ := Cond.classLink_spec hown hlink e.platform hpl
  cases Option.some.inj (hc4.symm.trans hc5)
  obtain ⟨vm', X', st⟩ := Jvm.Stand.thenCaughtThrough X q (g := F0 m pc ls rest) rfl (Steps.refl _) (by rw [hT]; exact hcell) (by rw [hv]; rfl) (by obtain ⟨k9, h9, -⟩ := Vm.findClass_spec hcl; exact ⟨k9, h9⟩) pre x suf hsplit
    (fun z hz => by
      rcases hpass z hz with h | ⟨hz0, nm, hl1, hn1⟩
      · exact Or.inl h
      · obtain ⟨c6, hc6, hcl6⟩ := Cond.classLink_spec hown hl1 e.platform hpl
        obtain ⟨a8, b8, h1, h2, h3⟩ := hn1
        cases Option.some.inj (h1.symm.trans hcl)
        cases Option.some.inj (h2.symm.trans hc6)
        exact Or.inr ⟨hz0, _, hcl6, h3⟩) hx (Or.inr ⟨h0, c4, hcl5, hasg⟩)
  obtain ⟨t, a1, b1⟩ := kk (T.setVm vm') hT X'
  exact ⟨t, st.trans a1, b1⟩
end Rows
theorem k_L_rounds_classLink_RL_13_java_lang_ArithmeticException : Cond.classLink RL 13 "java/lang/ArithmeticException" ∈ wzL_rounds := List.mem_cons_of_mem _ (List.mem_append_left _ (List.mem_of_getElem? (i := 0) rfl))
set_option maxHeartbeats 4000000 in
set_option maxRecDepth 100000 in
theorem c_L_rounds_z (l : Launch) (dC : Nat → ClassId) (dI : Nat → Nat → Nat) (sz : Nat) (h0 : Nat) (n : Int32) (qo : Nat) (ko : ClassId) (fo : Nat → Int64) (x_tape : Value) (x_told : Value) (x_code : Value) (x_reader : Value) (x_machine : Value) (x_length : Value) (x_latestFault : Value) (x_hasProgram : Value) (x_hasRun : Value) (hl9 : l.stackTraces = false) (h1 : ¬ n < 0) : Met l yL_rounds wzL_rounds ({ frames := 8, cells := 1, slots := 6, locals := 480 }) (va_Pc [.ref h0, .int n, .int 0, .ref qo] (zPreT dC dI sz [(h0, .inr (10, [x_tape, x_told, x_code, x_reader, x_machine, x_length, x_latestFault, x_hasProgram, x_hasRun])), (qo, .inl (ko, 1, .inr (.inl fo)))] [(ko, .long)])) (va_Qi (fun (r : Int32) (_ : Unit) => r = 1) (fun (_ : Unit) (t : State) => zPost dC dI (va_A [(h0, .inr (10, [x_tape, x_told, x_code, x_reader, x_machine, x_length, x_latestFault, x_hasProgram, x_hasRun])), (qo, .inl (ko, 1, .inr (.inl fo)))] sz) [(h0, .inr (10, [x_tape, x_told, x_code, x_reader, x_machine, x_length, x_latestFault, x_hasProgram, x_hasRun])), (qo, .inl (ko, 1, .inr (.inl fo)))] [(ko, .long)] t) (va_A [(h0, .inr (10, [x_tape, x_told, x_code, x_reader, x_machine, x_length, x_latestFault, x_hasProgram, x_hasRun])), (qo, .inl (ko, 1, .inr (.inl fo)))] sz)) 1 6 (va_A [(h0, .inr (10, [x_tape, x_told, x_code, x_reader, x_machine, x_length, x_latestFault, x_hasProgram, x_hasRun])), (qo, .inl (ko, 1, .inr (.inl fo)))] sz) := by
  refine va_MetW (hh := [(0, 10, 13, 13)]) (cc := cL_rounds) (maxL := 5) (ret := (some .int)) (by decide) rfl ?_
  intro p e s m args below meth c s₁ B hml hv
  obtain ⟨rfl, ⟨hsz, hZ, hP, hK, hD0⟩, hX⟩ := hv
  have hx := B.exec
  have hb := B.bytes
  have hr := B.returns
  have hts := atoms_spec (ws := wzL_rounds) B.pre
  have hown : s.vm.findClass RL = some m.cls := findClass_of_methodNamed B.named
  have hlocks := B.notSynchronized
  subst hsz
  have hD := hD0.self (sz := s.heap.size)
  generalize hAe : va_A [(h0, .inr (10, [x_tape, x_told, x_code, x_reader, x_machine, x_length, x_latestFault, x_hasProgram, x_hasRun])), (qo, .inl (ko, 1, .inr (.inl fo)))] s.heap.size = A at hD hX ⊢
  have hA : ∀ q : Nat, s.heap.size ≤ q → A q := fun q h => by rw [← hAe]; exact Or.inr h
  have hS : va_S A s.heap s.heap [] := va_S.rf
  have hP : va_P (dC, dI) vwCl [(h0, .inr (10, [x_tape, x_told, x_code, x_reader, x_machine, x_length, x_latestFault, x_hasProgram, x_hasRun])), (qo, .inl (ko, 1, .inr (.inl fo)))] s.heap := hP
  have hl := lv_entry ([.ref h0, .int n, .int 0, .ref qo]) (n := 5) (Nat.le_of_ble_eq_true rfl)
  rw [lg_entry_eq]
  generalize (lg_sl ([.ref h0, .int n, .int 0, .ref qo]) ++ List.replicate (5 - (lg_sl ([.ref h0, .int n, .int 0, .ref qo])).length) Slot.unset).toArray = ls at hl ⊢
  have hl : lv_has ls 5 [(0, .ref h0), (1, .int n), (2, .int 0), (3, .ref qo)] := hl
  refine lv_aload_n hx hb dL_rounds_0 rfl (lv_at hl 3 rfl) ?_
  refine lv_iconst (v := 0) hx hb dL_rounds_1 (by decide) ?_
  refine lv_aload_n hx hb dL_rounds_2 rfl (lv_at hl 0 rfl) ?_
  refine lv_iload_n hx hb dL_rounds_3 rfl (lv_at hl 1 rfl) ?_
  refine lv_iload_n hx hb dL_rounds_4 rfl (lv_at hl 2 rfl) ?_
  have hPc := hP.sub (ws' := [(h0, .inr (10, [x_tape, x_told, x_code, x_reader, x_machine, x_length, x_latestFault, x_hasProgram, x_hasRun]))]) [0] rfl
  have hDc := hD.sub (ws' := [(h0, .inr (10, [x_tape, x_told, x_code, x_reader, x_machine, x_length, x_latestFault, x_hasProgram, x_hasRun]))]) [0] (by decide) rfl
  have hKc := hK.sub (tys' := []) [] rfl
  have hFc := va_free (wc := [(h0, .inr (10, [x_tape, x_told, x_code, x_reader, x_machine, x_length, x_latestFault, x_hasProgram, x_hasRun]))]) hD hS hA [0] rfl
  have hFe := va_free (wc := []) hD hS hA [] rfl
  refine vx_calli (vx_runV (As := [.int n, .int 0]) (rest := [.int 0, .ref qo]) ⟨hx, hb, hml, hown, hts⟩ (c_X11_rounds_z l dC dI _ h0 n _ _ _ _ _ _ _ _ _ hl9 h1) (cwV 2 hts hL_rounds_X11_rounds_v7 rfl rfl rfl (by decide +kernel) ⟨Nat.le_of_ble_eq_true rfl, Nat.le_of_ble_eq_true rfl⟩) ⟨zPreT.blind, va_recv hKc hPc (ci := 10) (q0 := 0) rfl rfl, zPreT.go hX hS hFc hZ hPc hKc hDc⟩ rfl rfl hl.1 rfl (lv_room (Nat.le_of_ble_eq_true rfl)) dL_rounds_5 ⟨Nat.le_of_ble_eq_true rfl, Nat.le_of_ble_eq_true rfl⟩) hS (fun q _ h => hFc q h) hFc (fun q _ h => hFe q (h.elim (fun z => Or.inl z) (fun z => Or.inr z))) (fun E ce q9 u9 t9 H1 locs ht hvm _ hE hz1 hk1 hS hce hcv hcl => ?_) (fun r u9 t9 H1 locs ht hvm hw hB hz1 hk1 hS => hw.elim)
  obtain rfl : E = "java/lang/ArithmeticException" := hE
  have hP1 : va_P (dC, dI) vwCl [] H1 := fun k q h => by simp at h
  have hD1 : va_D (va_A [] s.heap.size) [] := ⟨fun i j p q h => by simp at h, fun k q h => by simp at h⟩
  obtain ⟨hP, hD⟩ := va_join (wr := [(h0, .inr (10, [x_tape, x_told, x_code, x_reader, x_machine, x_length, x_latestFault, x_hasProgram, x_hasRun])), (qo, .inl (ko, 1, .inr (.inl fo)))]) (w1 := []) hP hD [] [0, 1] rfl rfl (by decide) (by decide) hk1 hFe hP1 hD1
  generalize H1 = H at hP hS hce ⊢
  have hP : va_P (dC, dI) vwCl [(h0, .inr (10, [x_tape, x_told, x_code, x_reader, x_machine, x_length, x_latestFault, x_hasProgram, x_hasRun])), (qo, .inl (ko, 1, .inr (.inl fo)))] H := hP
  have hD : va_D A [(h0, .inr (10, [x_tape, x_told, x_code, x_reader, x_machine, x_length, x_latestFault, x_hasProgram, x_hasRun])), (qo, .inl (ko, 1, .inr (.inl fo)))] := hD
  have hTab := vx_table (x := yL_rounds) B (hts (.codeWith yL_rounds cL_rounds 5 (some .int) [(0, 10, 13, 13)]) List.mem_cons_self)
  refine vx_widen (k := 1) (n := 6) (by omega) (by omega) ?_
  refine vx_catch (own := RL) (name := "java/lang/ArithmeticException") (E := "java/lang/ArithmeticException") hown [] { startPc := 0, endPc := 10, handlerPc := 13, catchType := 13 } [] hTab (fun z h => nomatch h) (by decide) (by decide) (hts (.classLink RL 13 "java/lang/ArithmeticException") k_L_rounds_classLink_RL_13_java_lang_ArithmeticException) (zT_use (w := .castable "java/lang/ArithmeticException" "java/lang/ArithmeticException") rfl (hX.1 _ (List.mem_cons_self))) hce hcv hcl ?_
  refine W.eq (g2 := F0 m 13 ls [.ref q9]) rfl ?_
  refine lv_astore (lv' := [(4, .ref q9), (0, .ref h0), (1, .int n), (2, .int 0), (3, .ref qo)]) hx hb dL_rounds_13 hl (by decide) rfl (fun ls hl => ?_)
  refine lv_iconst (v := 1) hx hb dL_rounds_15 (by decide) ?_
  have hP9 := hP.sub (ws' := [(h0, .inr (10, [x_tape, x_told, x_code, x_reader, x_machine, x_length, x_latestFault, x_hasProgram, x_hasRun])), (qo, .inl (ko, 1, .inr (.inl fo)))]) [0, 1] rfl
  have hD9 := hD.sub (ws' := [(h0, .inr (10, [x_tape, x_told, x_code, x_reader, x_machine, x_length, x_latestFault, x_hasProgram, x_hasRun])), (qo, .inl (ko, 1, .inr (.inl fo)))]) [0, 1] (by decide) rfl
  have hK9 := hK.sub (tys' := [(ko, .long)]) [0] rfl
  exact W.iret (v := 1) hx hb hr (fun t ht hW => ⟨⟨1, (), rfl, rfl, by rw [ht]; exact hP9, va_K.moved hW.alike hK9, hD9⟩, hS.F ht⟩) hS.2.2 dL_rounds_16
end
section
/-! both readers: the tokens, side by side -/
def tm (x : Int32) : Int32 := if x.toInt < 128 then x else if x.toInt < 200 then x + 172 else x + 210
theorem tm_0 : tm 0 = 0 := by decide
theorem tm_1 : tm 1 = 1 := by decide
theorem tm_2 : tm 2 = 2 := by decide
theorem tm_6 : tm 6 = 6 := by decide
def tyR (x : Int32) : Prop := (0 ≤ x.toInt ∧ x.toInt ≤ 135) ∨ (200 ≤ x.toInt ∧ x.toInt ≤ 224)
theorem ty_0 : tyR 0 := Or.inl ⟨by decide, by decide⟩
theorem ty_1 : tyR 1 := Or.inl ⟨by decide, by decide⟩
theorem ty_2 : tyR 2 := Or.inl ⟨by decide, by decide⟩
theorem ty_6 : tyR 6 := Or.inl ⟨by decide, by decide⟩
theorem tm_int {x : Int32} (h : tyR x) : (x.toInt < 128 ∧ (tm x).toInt = x.toInt) ∨ ((128 ≤ x.toInt ∧ x.toInt < 200) ∧ (tm x).toInt = x.toInt + 172) ∨ (200 ≤ x.toInt ∧ (tm x).toInt = x.toInt + 210) := by
  have e1 : (172 : Int32).toInt = 172 := by decide
  have e2 : (210 : Int32).toInt = 210 := by decide
  unfold tyR at h
  unfold tm
  by_cases c : x.toInt < 128
  · rw [if_pos c]
    exact Or.inl ⟨c, rfl⟩
  · rw [if_neg c]
    by_cases d : x.toInt < 200
    · rw [if_pos d]
      refine Or.inr (Or.inl ⟨⟨by omega, d⟩, ?_⟩)
      rw [toInt_add] <;> rw [e1] <;> omega
    · rw [if_neg d]
      refine Or.inr (Or.inr ⟨by omega, ?_⟩)
      rw [toInt_add] <;> rw [e2] <;> omega
theorem tm_inj {x y : Int32} (hx : tyR x) (hy : tyR y) (h : tm x = tm y) : x = y := by
  have e : (tm x).toInt = (tm y).toInt := by rw [h]
  have a := tm_int hx
  have b := tm_int hy
  refine Int32.toInt_inj.mp ?_
  unfold tyR at hx hy
  omega
/-- the tapes and the words are the same -/
def TPR (S : CS) (s : RS) : Prop := S.i 41 = s.i 2 ∧ (0 ≤ (s.i 2).toInt ∧ (s.i 2).toInt ≤ 900) ∧ (∀ k : Nat, (k : Int) < (s.i 2).toInt → S.a 0 k = s.a 1 k) ∧ (∀ k : Nat, k < 25 → S.b 40 k = s.b 9 k)
theorem TPR.of {S R : CS} {s u : RS} (h : TPR S s) (hc : TKC S R) (hr : TU s u) : TPR R u := by
  obtain ⟨h1, h2, h3, h4⟩ := h
  have e1 : R.i 41 = S.i 41 := hc.2 41 (by decide) (by decide) (by decide) (by decide)
  have e2 : u.i 2 = s.i 2 := hr.taped
  have e3 : R.a = S.a := hc.1.2.2.2.2.2.2.2.2.2.2
  have e4 : R.b = S.b := hc.1.2.2.2.2.2.2.2.2.2.1
  refine ⟨by rw [e1, e2]; exact h1, by rw [e2]; exact h2, fun k hk => ?_, fun k hk => ?_⟩
  · rw [e2] at hk
    rw [e3, hr.2.1]
    exact h3 k hk
  · rw [e4, hr.2.2]
    exact h4 k hk
theorem by_lo {S : CS} {s : RS} (h : TPR S s) {x : Int32} (h0 : 0 ≤ x.toInt) (h1 : x.toInt < (s.i 2).toInt) : BY S x = bt s x := by
  obtain ⟨a1, a2, a3, a4⟩ := h
  unfold BY bt
  rw [if_pos ⟨⟨h0, by omega⟩, by rw [a1, Int32.lt_iff_toInt_lt]; exact h1⟩, if_neg (fun q => by have := le_int q; omega)]
  have := clampI h0
  exact a3 _ (by omega)
theorem by_hi {S : CS} {s : RS} (h : TPR S s) {x : Int32} (h1 : (s.i 2).toInt ≤ x.toInt) : BY S x = -1 ∧ bt s x = 0 := by
  obtain ⟨a1, a2, a3, a4⟩ := h
  unfold BY bt
  exact ⟨if_neg (fun q => by have := lt_int q.2; rw [a1] at this; omega), if_pos (Int32.le_iff_toInt_le.mpr h1)⟩
/-- the bytes there: the same, or behind the end -/
theorem by_bt {S : CS} {s : RS} (h : TPR S s) {x : Int32} (h0 : 0 ≤ x.toInt) : (x.toInt < (s.i 2).toInt ∧ BY S x = bt s x) ∨ ((s.i 2).toInt ≤ x.toInt ∧ BY S x = -1 ∧ bt s x = 0) := by
  rcases Int.lt_or_le x.toInt (s.i 2).toInt with c | c
  · exact Or.inl ⟨c, by_lo h h0 c⟩
  · exact Or.inr ⟨c, by_hi h c⟩
theorem by_eq {S : CS} {s : RS} (h : TPR S s) {x v : Int32} (h0 : 0 ≤ x.toInt) (hv : ¬ v = -1 ∧ ¬ v = 0) : BY S x = v ↔ bt s x = v := by
  rcases by_bt h h0 with ⟨-, e⟩ | ⟨-, e1, e2⟩
  · rw [e]
  · rw [e1, e2]
    exact ⟨fun q => absurd q.symm hv.1, fun q => absurd q.symm hv.2⟩
theorem dg_iff {x : Int32} : isDg x ↔ (48 ≤ x ∧ x ≤ 57) := by
  unfold isDg
  rw [Int32.le_iff_toInt_le, Int32.le_iff_toInt_le]
  exact Iff.rfl
theorem lt_iff9 {x : Int32} : isLt x ↔ (97 ≤ x ∧ x ≤ 122) := by
  unfold isLt
  rw [Int32.le_iff_toInt_le, Int32.le_iff_toInt_le]
  exact Iff.rfl
theorem by_dg {S : CS} {s : RS} (h : TPR S s) {x : Int32} (h0 : 0 ≤ x.toInt) : isDg (BY S x) ↔ isDg (bt s x) := by
  rcases by_bt h h0 with ⟨-, e⟩ | ⟨-, e1, e2⟩
  · rw [e]
  · rw [e1, e2]
    have em : (-1 : Int32).toInt = -1 := by decide
    unfold isDg
    rw [em, z_t0]
    omega
theorem by_lt {S : CS} {s : RS} (h : TPR S s) {x : Int32} (h0 : 0 ≤ x.toInt) : isLt (BY S x) ↔ isLt (bt s x) := by
  rcases by_bt h h0 with ⟨-, e⟩ | ⟨-, e1, e2⟩
  · rw [e]
  · rw [e1, e2]
    have em : (-1 : Int32).toInt = -1 := by decide
    unfold isLt
    rw [em, z_t0]
    omega
/-- what the class's tokens ask, as equations -/
theorem e_by {N : Nat} {S : CS} {x : Int32} : f_X9_byteAt N S x = some (BY S x, S) := by
  obtain ⟨R, e, h1, h2⟩ := q_by (N := N) (s := S) x
  rw [e, ← h2, ← h1]
theorem e_dg1 {N : Nat} {S : CS} {x : Int32} (h : isDg x) : f_X9_isDigit N S x = some (1, S) := by
  unfold f_X9_isDigit
  have g := dg_iff.mp h
  exact (if_neg (Int32.not_lt.mpr g.1)).trans (if_neg (Int32.not_lt.mpr g.2))
theorem e_dg0 {N : Nat} {S : CS} {x : Int32} (h : ¬ isDg x) : f_X9_isDigit N S x = some (0, S) := by
  obtain ⟨R, e, h1, h2, h3⟩ := q_dg (N := N) (s := S) x
  rw [e]
  have z : R.1 = 0 := Classical.byContradiction (fun q => h (h2 q))
  rw [← h1, ← z]
theorem e_lt1 {N : Nat} {S : CS} {x : Int32} (h : isLt x) : f_X9_isLetter N S x = some (1, S) := by
  unfold f_X9_isLetter
  have g := lt_iff9.mp h
  exact (if_neg (Int32.not_lt.mpr g.1)).trans (if_neg (Int32.not_lt.mpr g.2))
theorem e_lt0 {N : Nat} {S : CS} {x : Int32} (h : ¬ isLt x) : f_X9_isLetter N S x = some (0, S) := by
  obtain ⟨R, e, h1, h2, h3⟩ := q_lt (N := N) (s := S) x
  rw [e]
  have z : R.1 = 0 := Classical.byContradiction (fun q => h (h2 q))
  rw [← h1, ← z]
theorem r_dg1 {N : Nat} {s : RS} {x : Int32} (h : isDg x) : f_X12_isDigit N s x = some (1, s) := by rw [e_isDigit, if_pos (dg_iff.mp h)]
theorem r_dg0 {N : Nat} {s : RS} {x : Int32} (h : ¬ isDg x) : f_X12_isDigit N s x = some (0, s) := by rw [e_isDigit, if_neg (fun q => h (dg_iff.mpr q))]
theorem r_lt1 {N : Nat} {s : RS} {x : Int32} (h : isLt x) : f_X12_isLetter N s x = some (1, s) := by rw [e_isLetter, if_pos (lt_iff9.mp h)]
theorem r_lt0 {N : Nat} {s : RS} {x : Int32} (h : ¬ isLt x) : f_X12_isLetter N s x = some (0, s) := by rw [e_isLetter, if_neg (fun q => h (lt_iff9.mpr q))]
/-- what the tokens are: the same, in the words of each -/
def TKR (S : CS) (s : RS) : Prop := S.i 44 = s.i 11 ∧ S.i 42 = s.i 12 ∧ s.i 10 = tm (S.i 43) ∧ tyR (S.i 43) ∧ (S.i 43 = 2 → S.l = s.l) ∧ (S.i 43 = 1 ∨ S.i 43 = 3 ∨ S.i 43 = 4 ∨ S.i 43 = 5 → S.i 45 = s.i 14)
theorem TKR.is {S : CS} {s : RS} (h : TKR S s) {c d : Int32} (hc : tyR c) (e : tm c = d) : S.i 43 = c ↔ s.i 10 = d := by
  rw [h.2.2.1, ← e]
  exact ⟨fun q => by rw [q], fun q => tm_inj h.2.2.2.1 hc q⟩
/-- the place where both stand -/
def POS (S : CS) (s : RS) : Prop := S.i 42 = s.i 12 ∧ 0 ≤ (s.i 12).toInt ∧ (s.i 12).toInt ≤ (s.i 2).toInt
/-- digits -/
theorem y_num {N : Nat} : ∀ (n1 n2 : Nat) (S : CS) (s : RS) (x1 : Int32) (m : Nat) (R : Unit × CS) (u : RS), TPR S s → POS S s → S.i 44 = s.i 11 → 0 ≤ (s.i 11).toInt → (s.i 12).toInt = (s.i 11).toInt + m → x1.toInt = (m : Int) → (m ≤ 9 → S.i 45 = s.i 14) → f_X9_takeNumber_7 N n1 S x1 = some R → f_X12_next_116 N n2 s = some u → TKR R.2 u
  | 0, _, _, _, _, _, _, _, _, _, _, _, _, _, _, e, _ => by cases e
  | n1 + 1, 0, _, _, _, _, _, _, _, _, _, _, _, _, _, _, g => by cases g
  | n1 + 1, n2 + 1, S, s, x1, m, R, u, hT, hP, h44, h0, hm, hx, hv, e, g => by
    have e' : b_X9_takeNumber_7 N (f_X9_takeNumber_7 N n1) S x1 = some R := e
    have g' : b_X12_next_116 N (f_X12_next_116 N n2) s = some u := g
    unfold b_X9_takeNumber_7 f_X9_takeNumber_67 at e'
    unfold b_X12_next_116 f_X12_next_211 at g'
    obtain ⟨p1, p2, p3⟩ := hP
    obtain ⟨t1, t2, t3, t4⟩ := id hT
    have e9 : (9 : Int32).toInt = 9 := by decide
    have e900 : (900 : Int32).toInt = 900 := by decide
    have i12 : 0 ≤ s.i 12 := by rw [Int32.le_iff_toInt_le, z_t0]; exact p2
    have i2 : s.i 2 ≤ 900 := by rw [Int32.le_iff_toInt_le, e900]; exact t2.2
    have es : (s.i 12 - s.i 11).toInt = (m : Int) := by rw [toInt_sub] <;> omega
    have eS : S.i 42 - S.i 44 = s.i 12 - s.i 11 := by rw [p1, h44]
    rw [e_at i12 i2, ob_some] at g'
    have fin : ¬ isDg (bt s (s.i 12)) → TKR R.2 u := fun d => by
      have dC : ¬ isDg (BY S (S.i 42)) := by rw [p1, by_dg hT p2]; exact d
      have e2 : (if S.i 42 - S.i 44 ≤ 9 then some ((), CS.setI S 43 1) else some ((), CS.setI S 43 6)) = some R := by
        by_cases c : (900 : Int32) ≤ x1
        · rw [if_pos c] at e'; exact e'
        · rw [if_neg c, e_by, ob_some, e_dg0 dC, ob_some, if_pos rfl] at e'; exact e'
      have g2 : (if s.i 12 - s.i 11 ≤ 9 then some (RS.setI s 10 1) else some (RS.setI s 10 6)) = some u := by
        rw [r_dg0 d, ob_some, if_pos rfl] at g'; exact g'
      rw [eS] at e2
      by_cases c : s.i 12 - s.i 11 ≤ 9
      · rw [if_pos c] at e2 g2
        cases e2
        cases g2
        have c' := le_int c
        exact ⟨h44, p1, tm_1.symm, ty_1, fun q => absurd (show (1 : Int32) = 2 from q) (by decide), fun _ => hv (by omega)⟩
      · rw [if_neg c] at e2 g2
        cases e2
        cases g2
        exact ⟨h44, p1, tm_6.symm, ty_6, fun q => absurd (show (6 : Int32) = 2 from q) (by decide), fun q => absurd (show (6 : Int32) = 1 ∨ (6 : Int32) = 3 ∨ (6 : Int32) = 4 ∨ (6 : Int32) = 5 from q) (by decide)⟩
    by_cases d : isDg (bt s (s.i 12))
    · have dC : isDg (BY S (S.i 42)) := by rw [p1, by_dg hT p2]; exact d
      have inr : (s.i 12).toInt < (s.i 2).toInt := by
        have := BY.dg (Or.inl dC)
        rw [p1, t1] at this
        exact this.2.2
      have eb : BY S (S.i 42) = bt s (s.i 12) := by rw [p1]; exact by_lo hT p2 inr
      have c9 : ¬ (900 : Int32) ≤ x1 := fun q => by
        have := le_int q
        omega
      have e12 : (s.i 12 + 1).toInt = (s.i 12).toInt + 1 := ad1 p2 (by omega)
      have ex1 : (x1 + 1).toInt = ((m + 1 : Nat) : Int) := by rw [ad1 (by omega) (by omega)]; omega
      rw [if_neg c9, e_by, ob_some, e_dg1 dC, ob_some, if_neg n10, e_by, ob_some] at e'
      rw [r_dg1 d, ob_some, if_neg n10] at g'
      by_cases c : (9 : Int32) ≤ s.i 12 - s.i 11
      · have c' := le_int c
        have g2 : f_X12_next_116 N n2 (RS.setI (RS.setI s 14 (s.i 14)) 12 (s.i 12 + 1)) = some u := by rw [if_pos c] at g'; exact g'
        refine y_num n1 n2 _ _ (x1 + 1) (m + 1) R u (hT.of (((TKC.rf S).i 45 _ (by omega)).i 42 _ (by omega)) ((TU.i14 s _).tr (TU.i12 _ _))) ⟨?_, ?_, ?_⟩ h44 h0 ?_ ex1 (fun q => by omega) e' g2
        · show S.i 42 + 1 = s.i 12 + 1
          rw [p1]
        · show 0 ≤ (s.i 12 + 1).toInt
          omega
        · show (s.i 12 + 1).toInt ≤ (s.i 2).toInt
          omega
        · show (s.i 12 + 1).toInt = (s.i 11).toInt + ((m + 1 : Nat) : Int)
          omega
      · have c' := lt_int (Int32.not_le.mp c)
        have g2 : f_X12_next_116 N n2 (RS.setI (RS.setI s 14 (((10 * (s.i 14)) + bt s (s.i 12)) - 48)) 12 (s.i 12 + 1)) = some u := by
          rw [if_neg c, e_at i12 i2, ob_some] at g'; exact g'
        refine y_num n1 n2 _ _ (x1 + 1) (m + 1) R u (hT.of (((TKC.rf S).i 45 _ (by omega)).i 42 _ (by omega)) ((TU.i14 s _).tr (TU.i12 _ _))) ⟨?_, ?_, ?_⟩ h44 h0 ?_ ex1 (fun q => ?_) e' g2
        · show S.i 42 + 1 = s.i 12 + 1
          rw [p1]
        · show 0 ≤ (s.i 12 + 1).toInt
          omega
        · show (s.i 12 + 1).toInt ≤ (s.i 2).toInt
          omega
        · show (s.i 12 + 1).toInt = (s.i 11).toInt + ((m + 1 : Nat) : Int)
          omega
        · show S.i 45 * 10 + BY S (S.i 42) - 48 = 10 * s.i 14 + bt s (s.i 12) - 48
          rw [hv (by omega), eb, Int32.mul_comm]
    · exact fin d
end
section
/-! both readers: signs -/
def LS2 (c d : Int32) : Int32 := if c = d then (if c = 38 then 132 else if c = 124 then 133 else if c = 43 then 135 else 6) else 6
def LSG (c d : Int32) : Int32 := if d = 61 then (if c = 60 then 128 else if c = 62 then 129 else if c = 61 then 130 else if c = 33 then 131 else 6) else if c = 45 then (if d = 62 then 134 else LS2 c d) else LS2 c d
def TWO (c d : Int32) : Int32 := if c = 60 ∧ d = 61 then 300 else if c = 62 ∧ d = 61 then 301 else if c = 61 ∧ d = 61 then 302 else if c = 33 ∧ d = 61 then 303 else if c = 38 ∧ d = 38 then 304 else if c = 124 ∧ d = 124 then 305 else if c = 45 ∧ d = 62 then 306 else if c = 43 ∧ d = 43 then 307 else 0
theorem so_ite {α β : Type} {c : Prop} [Decidable c] (x y : α) (s : β) : (if c then some (x, s) else some (y, s)) = some (if c then x else y, s) := by
  by_cases h : c
  · rw [if_pos h, if_pos h]
  · rw [if_neg h, if_neg h]
theorem e_long2 {N : Nat} {S : CS} {c d : Int32} : f_X9_longSign_73 N S c d = some (LS2 c d, S) := by
  unfold f_X9_longSign_73 LS2
  rw [so_ite, so_ite, so_ite, so_ite]
theorem e_long {N : Nat} {S : CS} {c d : Int32} : f_X9_longSign N S c d = some (LSG c d, S) := by
  unfold f_X9_longSign LSG
  rw [e_long2, so_ite, so_ite, so_ite, so_ite, so_ite, so_ite, so_ite]

/-- a sign of two bytes, or none: the same in both -/
def lsR (c d d' : Int32) : Prop := (TWO c d' = 0 ∧ LSG c d = 6) ∨ (TWO c d' = tm (LSG c d) ∧ tyR (LSG c d) ∧ ¬ LSG c d = 6 ∧ 0 < TWO c d')
theorem ls_none {c d d' : Int32} (n1 : ¬ d = 61) (n2 : ¬ d = 62) (n3 : ¬ d = 38) (n4 : ¬ d = 124) (n5 : ¬ d = 43) (m1 : ¬ d' = 61) (m2 : ¬ d' = 62) (m3 : ¬ d' = 38) (m4 : ¬ d' = 124) (m5 : ¬ d' = 43) : lsR c d d' := by
  refine Or.inl ⟨?_, ?_⟩
  · unfold TWO
    rw [if_neg (fun q => m1 q.2), if_neg (fun q => m1 q.2), if_neg (fun q => m1 q.2), if_neg (fun q => m1 q.2), if_neg (fun q => m3 q.2), if_neg (fun q => m4 q.2), if_neg (fun q => m2 q.2), if_neg (fun q => m5 q.2)]
  · have w : LS2 c d = 6 := by
      unfold LS2
      by_cases h : c = d
      · rw [if_pos h, if_neg (fun q => n3 (h.symm.trans q)), if_neg (fun q => n4 (h.symm.trans q)), if_neg (fun q => n5 (h.symm.trans q))]
      · rw [if_neg h]
    unfold LSG
    rw [if_neg n1, if_neg n2, w]
    by_cases h : c = 45
    · rw [if_pos h]
    · rw [if_neg h]
theorem ls_61 {c : Int32} : lsR c 61 61 := by
  by_cases h60 : c = 60
  · subst h60
    exact Or.inr ⟨by decide, Or.inl ⟨by decide, by decide⟩, by decide, by decide⟩
  by_cases h62 : c = 62
  · subst h62
    exact Or.inr ⟨by decide, Or.inl ⟨by decide, by decide⟩, by decide, by decide⟩
  by_cases h61 : c = 61
  · subst h61
    exact Or.inr ⟨by decide, Or.inl ⟨by decide, by decide⟩, by decide, by decide⟩
  by_cases h33 : c = 33
  · subst h33
    exact Or.inr ⟨by decide, Or.inl ⟨by decide, by decide⟩, by decide, by decide⟩
  refine Or.inl ⟨?_, ?_⟩
  · unfold TWO
    rw [if_neg (fun q => h60 q.1), if_neg (fun q => h62 q.1), if_neg (fun q => h61 q.1), if_neg (fun q => h33 q.1), if_neg (fun q => absurd q.2 (by decide)), if_neg (fun q => absurd q.2 (by decide)), if_neg (fun q => absurd q.2 (by decide)), if_neg (fun q => absurd q.2 (by decide))]
  · unfold LSG
    rw [if_pos rfl, if_neg h60, if_neg h62, if_neg h61, if_neg h33]
theorem ls_62 {c : Int32} : lsR c 62 62 := by
  by_cases h45 : c = 45
  · subst h45
    exact Or.inr ⟨by decide, Or.inl ⟨by decide, by decide⟩, by decide, by decide⟩
  refine Or.inl ⟨?_, ?_⟩
  · unfold TWO
    rw [if_neg (fun q => absurd q.2 (by decide)), if_neg (fun q => absurd q.2 (by decide)), if_neg (fun q => absurd q.2 (by decide)), if_neg (fun q => absurd q.2 (by decide)), if_neg (fun q => absurd q.2 (by decide)), if_neg (fun q => absurd q.2 (by decide)), if_neg (fun q => h45 q.1), if_neg (fun q => absurd q.2 (by decide))]
  · unfold LSG
    have w : LS2 c 62 = 6 := by
      unfold LS2
      by_cases h : c = 62
      · rw [if_pos h, if_neg (fun q => absurd (h.symm.trans q) (by decide)), if_neg (fun q => absurd (h.symm.trans q) (by decide)), if_neg (fun q => absurd (h.symm.trans q) (by decide))]
      · rw [if_neg h]
    rw [if_neg (by decide), if_neg h45, w]
theorem ls_38 {c : Int32} : lsR c 38 38 := by
  by_cases h38 : c = 38
  · subst h38
    exact Or.inr ⟨by decide, Or.inl ⟨by decide, by decide⟩, by decide, by decide⟩
  refine Or.inl ⟨?_, ?_⟩
  · unfold TWO
    rw [if_neg (fun q => absurd q.2 (by decide)), if_neg (fun q => absurd q.2 (by decide)), if_neg (fun q => absurd q.2 (by decide)), if_neg (fun q => absurd q.2 (by decide)), if_neg (fun q => h38 q.1), if_neg (fun q => absurd q.2 (by decide)), if_neg (fun q => absurd q.2 (by decide)), if_neg (fun q => absurd q.2 (by decide))]
  · unfold LSG
    have w : LS2 c 38 = 6 := by
      unfold LS2
      by_cases h : c = 38
      · exact absurd h h38
      · rw [if_neg h]
    rw [if_neg (by decide), w]
    by_cases h : c = 45
    · rw [if_pos h, if_neg (by decide)]
    · rw [if_neg h]
theorem ls_124 {c : Int32} : lsR c 124 124 := by
  by_cases h124 : c = 124
  · subst h124
    exact Or.inr ⟨by decide, Or.inl ⟨by decide, by decide⟩, by decide, by decide⟩
  refine Or.inl ⟨?_, ?_⟩
  · unfold TWO
    rw [if_neg (fun q => absurd q.2 (by decide)), if_neg (fun q => absurd q.2 (by decide)), if_neg (fun q => absurd q.2 (by decide)), if_neg (fun q => absurd q.2 (by decide)), if_neg (fun q => absurd q.2 (by decide)), if_neg (fun q => h124 q.1), if_neg (fun q => absurd q.2 (by decide)), if_neg (fun q => absurd q.2 (by decide))]
  · unfold LSG
    have w : LS2 c 124 = 6 := by
      unfold LS2
      by_cases h : c = 124
      · exact absurd h h124
      · rw [if_neg h]
    rw [if_neg (by decide), w]
    by_cases h : c = 45
    · rw [if_pos h, if_neg (by decide)]
    · rw [if_neg h]
theorem ls_43 {c : Int32} : lsR c 43 43 := by
  by_cases h43 : c = 43
  · subst h43
    exact Or.inr ⟨by decide, Or.inl ⟨by decide, by decide⟩, by decide, by decide⟩
  refine Or.inl ⟨?_, ?_⟩
  · unfold TWO
    rw [if_neg (fun q => absurd q.2 (by decide)), if_neg (fun q => absurd q.2 (by decide)), if_neg (fun q => absurd q.2 (by decide)), if_neg (fun q => absurd q.2 (by decide)), if_neg (fun q => absurd q.2 (by decide)), if_neg (fun q => absurd q.2 (by decide)), if_neg (fun q => absurd q.2 (by decide)), if_neg (fun q => h43 q.1)]
  · unfold LSG
    have w : LS2 c 43 = 6 := by
      unfold LS2
      by_cases h : c = 43
      · exact absurd h h43
      · rw [if_neg h]
    rw [if_neg (by decide), w]
    by_cases h : c = 45
    · rw [if_pos h, if_neg (by decide)]
    · rw [if_neg h]
theorem ls_all {c d d' : Int32} (h : ∀ v : Int32, ¬ v = -1 ∧ ¬ v = 0 → (d = v ↔ d' = v)) : lsR c d d' := by
  by_cases a61 : d = 61
  · have b := (h 61 (by decide)).mp a61
    rw [a61, b]
    exact ls_61
  have b61 : ¬ d' = 61 := fun q => a61 ((h 61 (by decide)).mpr q)
  by_cases a62 : d = 62
  · have b := (h 62 (by decide)).mp a62
    rw [a62, b]
    exact ls_62
  have b62 : ¬ d' = 62 := fun q => a62 ((h 62 (by decide)).mpr q)
  by_cases a38 : d = 38
  · have b := (h 38 (by decide)).mp a38
    rw [a38, b]
    exact ls_38
  have b38 : ¬ d' = 38 := fun q => a38 ((h 38 (by decide)).mpr q)
  by_cases a124 : d = 124
  · have b := (h 124 (by decide)).mp a124
    rw [a124, b]
    exact ls_124
  have b124 : ¬ d' = 124 := fun q => a124 ((h 124 (by decide)).mpr q)
  by_cases a43 : d = 43
  · have b := (h 43 (by decide)).mp a43
    rw [a43, b]
    exact ls_43
  have b43 : ¬ d' = 43 := fun q => a43 ((h 43 (by decide)).mpr q)
  exact ls_none a61 a62 a38 a124 a43 b61 b62 b38 b124 b43
def bg (v : Int32) : Prop := v = 6 ∨ 128 ≤ v.toInt
theorem bg_ite {c : Prop} [Decidable c] {x y : Int32} (hx : bg x) (hy : bg y) : bg (if c then x else y) := by
  by_cases h : c
  · rw [if_pos h]; exact hx
  · rw [if_neg h]; exact hy
theorem ls_bg (c d : Int32) : bg (LSG c d) := by
  have b6 : bg 6 := Or.inl rfl
  have w : bg (LS2 c d) := bg_ite (bg_ite (Or.inr (by decide)) (bg_ite (Or.inr (by decide)) (bg_ite (Or.inr (by decide)) b6))) b6
  exact bg_ite (bg_ite (Or.inr (by decide)) (bg_ite (Or.inr (by decide)) (bg_ite (Or.inr (by decide)) (bg_ite (Or.inr (by decide)) b6)))) (bg_ite (bg_ite (Or.inr (by decide)) w) w)
def sgL : List Int32 := [33, 37, 40, 41, 42, 43, 44, 45, 47, 58, 59, 60, 61, 62, 91, 93, 123, 124, 125]
theorem ite_so {α : Type} {c : Prop} [Decidable c] {x y z : α} (h1 : c → x = z) (h2 : ¬ c → y = z) : (if c then x else y) = z := by
  by_cases h : c
  · rw [if_pos h]; exact h1 h
  · rw [if_neg h]; exact h2 h
theorem e_sg1 {N : Nat} {S : CS} {c : Int32} (h : c ∈ sgL) : f_X9_isSign N S c = some (1, S) := by
  unfold f_X9_isSign
  refine ite_so (fun _ => rfl) (fun g33 => ?_)
  refine ite_so (fun _ => rfl) (fun g37 => ?_)
  refine ite_so (fun _ => rfl) (fun g40 => ?_)
  refine ite_so (fun _ => rfl) (fun g41 => ?_)
  refine ite_so (fun _ => rfl) (fun g42 => ?_)
  refine ite_so (fun _ => rfl) (fun g43 => ?_)
  refine ite_so (fun _ => rfl) (fun g44 => ?_)
  refine ite_so (fun _ => rfl) (fun g45 => ?_)
  refine ite_so (fun _ => rfl) (fun g47 => ?_)
  refine ite_so (fun _ => rfl) (fun g58 => ?_)
  refine ite_so (fun _ => rfl) (fun g59 => ?_)
  refine ite_so (fun _ => rfl) (fun g60 => ?_)
  refine ite_so (fun _ => rfl) (fun g61 => ?_)
  refine ite_so (fun _ => rfl) (fun g62 => ?_)
  refine ite_so (fun _ => rfl) (fun g91 => ?_)
  refine ite_so (fun _ => rfl) (fun g93 => ?_)
  refine ite_so (fun _ => rfl) (fun g123 => ?_)
  refine ite_so (fun _ => rfl) (fun g124 => ?_)
  refine ite_so (fun _ => rfl) (fun g125 => ?_)
  exfalso
  unfold sgL at h
  simp only [List.mem_cons, List.not_mem_nil, or_false] at h
  rcases h with h | h | h | h | h | h | h | h | h | h | h | h | h | h | h | h | h | h | h
  · exact g33 h
  · exact g37 h
  · exact g40 h
  · exact g41 h
  · exact g42 h
  · exact g43 h
  · exact g44 h
  · exact g45 h
  · exact g47 h
  · exact g58 h
  · exact g59 h
  · exact g60 h
  · exact g61 h
  · exact g62 h
  · exact g91 h
  · exact g93 h
  · exact g123 h
  · exact g124 h
  · exact g125 h
theorem e_sg0 {N : Nat} {S : CS} {c : Int32} (h : ¬ c ∈ sgL) : f_X9_isSign N S c = some (0, S) := by
  have n : ∀ v : Int32, v ∈ sgL → ¬ c = v := fun v hv q => h (by rw [q]; exact hv)
  unfold f_X9_isSign
  rw [if_neg (n 33 (by decide)), if_neg (n 37 (by decide)), if_neg (n 40 (by decide)), if_neg (n 41 (by decide)), if_neg (n 42 (by decide)), if_neg (n 43 (by decide)), if_neg (n 44 (by decide)), if_neg (n 45 (by decide)), if_neg (n 47 (by decide)), if_neg (n 58 (by decide)), if_neg (n 59 (by decide)), if_neg (n 60 (by decide)), if_neg (n 61 (by decide)), if_neg (n 62 (by decide)), if_neg (n 91 (by decide)), if_neg (n 93 (by decide)), if_neg (n 123 (by decide)), if_neg (n 124 (by decide)), if_neg (n 125 (by decide))]
theorem r_sg1 {N : Nat} {s : RS} {c : Int32} (h : c ∈ sgL) : f_X12_readSign_165 N s c 0 = some (RS.setI s 10 c) := by
  unfold f_X12_readSign_165 f_X12_readSign_299 f_X12_readSign_306
  refine (if_pos (by decide)).trans ?_
  refine ite_so (fun _ => if_neg n10) (fun g123 => ?_)
  refine ite_so (fun _ => if_neg n10) (fun g125 => ?_)
  refine ite_so (fun _ => if_neg n10) (fun g40 => ?_)
  refine ite_so (fun _ => if_neg n10) (fun g41 => ?_)
  refine ite_so (fun _ => if_neg n10) (fun g91 => ?_)
  refine ite_so (fun _ => if_neg n10) (fun g93 => ?_)
  refine ite_so (fun _ => if_neg n10) (fun g59 => ?_)
  refine ite_so (fun _ => if_neg n10) (fun g58 => ?_)
  refine ite_so (fun _ => if_neg n10) (fun g44 => ?_)
  refine ite_so (fun _ => if_neg n10) (fun g61 => ?_)
  refine ite_so (fun _ => if_neg n10) (fun g43 => ?_)
  refine ite_so (fun _ => if_neg n10) (fun g45 => ?_)
  refine ite_so (fun _ => if_neg n10) (fun g42 => ?_)
  refine ite_so (fun _ => if_neg n10) (fun g47 => ?_)
  refine ite_so (fun _ => if_neg n10) (fun g37 => ?_)
  refine ite_so (fun _ => if_neg n10) (fun g60 => ?_)
  refine ite_so (fun _ => if_neg n10) (fun g62 => ?_)
  refine ite_so (fun _ => if_neg n10) (fun g33 => ?_)
  refine ite_so (fun _ => if_neg n10) (fun g124 => ?_)
  exfalso
  unfold sgL at h
  simp only [List.mem_cons, List.not_mem_nil, or_false] at h
  rcases h with h | h | h | h | h | h | h | h | h | h | h | h | h | h | h | h | h | h | h
  · exact g33 h
  · exact g37 h
  · exact g40 h
  · exact g41 h
  · exact g42 h
  · exact g43 h
  · exact g44 h
  · exact g45 h
  · exact g47 h
  · exact g58 h
  · exact g59 h
  · exact g60 h
  · exact g61 h
  · exact g62 h
  · exact g91 h
  · exact g93 h
  · exact g123 h
  · exact g124 h
  · exact g125 h
theorem r_sg0 {N : Nat} {s : RS} {c : Int32} (h : ¬ c ∈ sgL) : f_X12_readSign_165 N s c 0 = some (RS.setI s 10 6) := by
  have n : ∀ v : Int32, v ∈ sgL → ¬ c = v := fun v hv q => h (by rw [q]; exact hv)
  unfold f_X12_readSign_165 f_X12_readSign_306
  rw [if_pos (by decide), if_neg (n 123 (by decide)), if_neg (n 125 (by decide)), if_neg (n 40 (by decide)), if_neg (n 41 (by decide)), if_neg (n 91 (by decide)), if_neg (n 93 (by decide)), if_neg (n 59 (by decide)), if_neg (n 58 (by decide)), if_neg (n 44 (by decide)), if_neg (n 61 (by decide)), if_neg (n 43 (by decide)), if_neg (n 45 (by decide)), if_neg (n 42 (by decide)), if_neg (n 47 (by decide)), if_neg (n 37 (by decide)), if_neg (n 60 (by decide)), if_neg (n 62 (by decide)), if_neg (n 33 (by decide)), if_neg (n 124 (by decide))]
  exact if_pos rfl
theorem r_two {N : Nat} {s : RS} {c t : Int32} (h : 0 < t) : f_X12_readSign_165 N s c t = some (RS.setI (RS.setI s 12 (s.i 12 + 1)) 10 t) := by
  unfold f_X12_readSign_165
  exact if_neg (Int32.not_le.mpr h)
theorem e_readSign {N : Nat} {s : RS} {c : Int32} (h0 : 0 ≤ s.i 12 + 1) (h9 : s.i 2 ≤ 900) : f_X12_readSign N s c = f_X12_readSign_165 N (RS.setI s 12 (s.i 12 + 1)) c (TWO c (bt s (s.i 12 + 1))) := by
  have eb : bt (RS.setI s 12 (s.i 12 + 1)) (s.i 12 + 1) = bt s (s.i 12 + 1) := rfl
  unfold f_X12_readSign f_X12_readSign_37 f_X12_readSign_55 f_X12_readSign_73 f_X12_readSign_91 f_X12_readSign_109 f_X12_readSign_127 f_X12_readSign_145 f_X12_readSign_163 TWO
  rw [e_at (σ := RS.setI s 12 (s.i 12 + 1)) h0 h9, ob_some, eb]
  generalize bt s (s.i 12 + 1) = d
  refine ite_so (fun g => ?_) (fun g60 => ?_)
  · refine ite_so (fun k => ?_) (fun k => ?_)
    · rw [if_pos ⟨g, k⟩]
    · subst g
      rw [if_neg (by decide), if_neg (by decide), if_neg (by decide), if_neg (by decide), if_neg (by decide), if_neg (by decide), if_neg (by decide)]
      rw [if_neg (fun q => k q.2), if_neg (fun q => absurd q.1 (by decide)), if_neg (fun q => absurd q.1 (by decide)), if_neg (fun q => absurd q.1 (by decide)), if_neg (fun q => absurd q.1 (by decide)), if_neg (fun q => absurd q.1 (by decide)), if_neg (fun q => absurd q.1 (by decide)), if_neg (fun q => absurd q.1 (by decide))]
  refine ite_so (fun g => ?_) (fun g62 => ?_)
  · refine ite_so (fun k => ?_) (fun k => ?_)
    · rw [if_neg (fun q => g60 q.1), if_pos ⟨g, k⟩]
    · subst g
      rw [if_neg (by decide), if_neg (by decide), if_neg (by decide), if_neg (by decide), if_neg (by decide), if_neg (by decide)]
      rw [if_neg (fun q => g60 q.1), if_neg (fun q => k q.2), if_neg (fun q => absurd q.1 (by decide)), if_neg (fun q => absurd q.1 (by decide)), if_neg (fun q => absurd q.1 (by decide)), if_neg (fun q => absurd q.1 (by decide)), if_neg (fun q => absurd q.1 (by decide)), if_neg (fun q => absurd q.1 (by decide))]
  refine ite_so (fun g => ?_) (fun g61 => ?_)
  · refine ite_so (fun k => ?_) (fun k => ?_)
    · rw [if_neg (fun q => g60 q.1), if_neg (fun q => g62 q.1), if_pos ⟨g, k⟩]
    · subst g
      rw [if_neg (by decide), if_neg (by decide), if_neg (by decide), if_neg (by decide), if_neg (by decide)]
      rw [if_neg (fun q => g60 q.1), if_neg (fun q => g62 q.1), if_neg (fun q => k q.2), if_neg (fun q => absurd q.1 (by decide)), if_neg (fun q => absurd q.1 (by decide)), if_neg (fun q => absurd q.1 (by decide)), if_neg (fun q => absurd q.1 (by decide)), if_neg (fun q => absurd q.1 (by decide))]
  refine ite_so (fun g => ?_) (fun g33 => ?_)
  · refine ite_so (fun k => ?_) (fun k => ?_)
    · rw [if_neg (fun q => g60 q.1), if_neg (fun q => g62 q.1), if_neg (fun q => g61 q.1), if_pos ⟨g, k⟩]
    · subst g
      rw [if_neg (by decide), if_neg (by decide), if_neg (by decide), if_neg (by decide)]
      rw [if_neg (fun q => g60 q.1), if_neg (fun q => g62 q.1), if_neg (fun q => g61 q.1), if_neg (fun q => k q.2), if_neg (fun q => absurd q.1 (by decide)), if_neg (fun q => absurd q.1 (by decide)), if_neg (fun q => absurd q.1 (by decide)), if_neg (fun q => absurd q.1 (by decide))]
  refine ite_so (fun g => ?_) (fun g38 => ?_)
  · refine ite_so (fun k => ?_) (fun k => ?_)
    · rw [if_neg (fun q => g60 q.1), if_neg (fun q => g62 q.1), if_neg (fun q => g61 q.1), if_neg (fun q => g33 q.1), if_pos ⟨g, k⟩]
    · subst g
      rw [if_neg (by decide), if_neg (by decide), if_neg (by decide)]
      rw [if_neg (fun q => g60 q.1), if_neg (fun q => g62 q.1), if_neg (fun q => g61 q.1), if_neg (fun q => g33 q.1), if_neg (fun q => k q.2), if_neg (fun q => absurd q.1 (by decide)), if_neg (fun q => absurd q.1 (by decide)), if_neg (fun q => absurd q.1 (by decide))]
  refine ite_so (fun g => ?_) (fun g124 => ?_)
  · refine ite_so (fun k => ?_) (fun k => ?_)
    · rw [if_neg (fun q => g60 q.1), if_neg (fun q => g62 q.1), if_neg (fun q => g61 q.1), if_neg (fun q => g33 q.1), if_neg (fun q => g38 q.1), if_pos ⟨g, k⟩]
    · subst g
      rw [if_neg (by decide), if_neg (by decide)]
      rw [if_neg (fun q => g60 q.1), if_neg (fun q => g62 q.1), if_neg (fun q => g61 q.1), if_neg (fun q => g33 q.1), if_neg (fun q => g38 q.1), if_neg (fun q => k q.2), if_neg (fun q => absurd q.1 (by decide)), if_neg (fun q => absurd q.1 (by decide))]
  refine ite_so (fun g => ?_) (fun g45 => ?_)
  · refine ite_so (fun k => ?_) (fun k => ?_)
    · rw [if_neg (fun q => g60 q.1), if_neg (fun q => g62 q.1), if_neg (fun q => g61 q.1), if_neg (fun q => g33 q.1), if_neg (fun q => g38 q.1), if_neg (fun q => g124 q.1), if_pos ⟨g, k⟩]
    · subst g
      rw [if_neg (by decide)]
      rw [if_neg (fun q => g60 q.1), if_neg (fun q => g62 q.1), if_neg (fun q => g61 q.1), if_neg (fun q => g33 q.1), if_neg (fun q => g38 q.1), if_neg (fun q => g124 q.1), if_neg (fun q => k q.2), if_neg (fun q => absurd q.1 (by decide))]
  refine ite_so (fun g => ?_) (fun g43 => ?_)
  · refine ite_so (fun k => ?_) (fun k => ?_)
    · rw [if_neg (fun q => g60 q.1), if_neg (fun q => g62 q.1), if_neg (fun q => g61 q.1), if_neg (fun q => g33 q.1), if_neg (fun q => g38 q.1), if_neg (fun q => g124 q.1), if_neg (fun q => g45 q.1), if_pos ⟨g, k⟩]
    · subst g
      rw [if_neg (fun q => g60 q.1), if_neg (fun q => g62 q.1), if_neg (fun q => g61 q.1), if_neg (fun q => g33 q.1), if_neg (fun q => g38 q.1), if_neg (fun q => g124 q.1), if_neg (fun q => g45 q.1), if_neg (fun q => k q.2)]
  rw [if_neg (fun q => g60 q.1), if_neg (fun q => g62 q.1), if_neg (fun q => g61 q.1), if_neg (fun q => g33 q.1), if_neg (fun q => g38 q.1), if_neg (fun q => g124 q.1), if_neg (fun q => g45 q.1), if_neg (fun q => g43 q.1)]
theorem ite_or {P : Int32 → Prop} {c : Prop} [Decidable c] {x y : Int32} (h1 : c → P x) (h2 : ¬ c → P y) : P (if c then x else y) := by
  by_cases h : c
  · rw [if_pos h]; exact h1 h
  · rw [if_neg h]; exact h2 h
/-- a sign: the same in both -/
theorem y_sign {N : Nat} {S : CS} {s : RS} {c : Int32} {R : Unit × CS} {u : RS} (hT : TPR S s) (hP : POS S s) (hlt : (s.i 12).toInt < (s.i 2).toInt) (h44 : S.i 44 = s.i 11) (hc : c = bt s (s.i 12)) (e : f_X9_takeSign N S = some R) (g : f_X12_readSign N s c = some u) : TKR R.2 u := by
  obtain ⟨p1, p2, p3⟩ := hP
  obtain ⟨t1, t2, t3, t4⟩ := id hT
  have e12 : (s.i 12 + 1).toInt = (s.i 12).toInt + 1 := ad1 p2 (by omega)
  have e900 : (900 : Int32).toInt = 900 := by decide
  have i2 : s.i 2 ≤ 900 := by rw [Int32.le_iff_toInt_le, e900]; exact t2.2
  have ec : BY S (S.i 42) = c := by rw [p1, hc]; exact by_lo hT p2 hlt
  rw [e_readSign (by rw [Int32.le_iff_toInt_le, z_t0]; omega) i2] at g
  unfold f_X9_takeSign at e
  rw [e_by, ob_some, e_by, ob_some, e_long, ob_some, ec] at e
  have hd : ∀ v : Int32, ¬ v = -1 ∧ ¬ v = 0 → (BY S (S.i 42 + 1) = v ↔ bt s (s.i 12 + 1) = v) := fun v hv => by
    rw [p1]
    exact by_eq hT (by omega) hv
  rcases ls_all (c := c) hd with ⟨w1, w2⟩ | ⟨w1, w2, w3, w4⟩
  · rw [w1] at g
    rw [w2, if_pos rfl] at e
    by_cases k : c ∈ sgL
    · rw [r_sg1 k] at g
      rw [e_sg1 k, ob_some, if_neg n10] at e
      cases e
      cases g
      have r : tyR c := by
        have q : ∀ v : Int32, v ∈ sgL → (33 ≤ v.toInt ∧ v.toInt ≤ 125) := by decide
        have := q c k
        exact Or.inl ⟨by omega, by omega⟩
      have l : c.toInt < 128 := by
        have q : ∀ v : Int32, v ∈ sgL → v.toInt < 128 := by decide
        exact q c k
      have nn : ∀ v : Int32, v.toInt < 33 → ¬ c = v := fun v hv q => by
        have w : ∀ v : Int32, v ∈ sgL → 33 ≤ v.toInt := by decide
        have := w c k
        rw [q] at this
        omega
      refine ⟨h44, ?_, ?_, r, fun q => absurd q (nn 2 (by decide)), fun q => ?_⟩
      · show S.i 42 + 1 = s.i 12 + 1
        rw [p1]
      · show c = tm c
        unfold tm
        rw [if_pos l]
      · rcases q with q | q | q | q
        · exact absurd q (nn 1 (by decide))
        · exact absurd q (nn 3 (by decide))
        · exact absurd q (nn 4 (by decide))
        · exact absurd q (nn 5 (by decide))
    · rw [r_sg0 k] at g
      rw [e_sg0 k, ob_some, if_pos rfl] at e
      cases e
      cases g
      refine ⟨h44, ?_, tm_6.symm, ty_6, fun q => absurd (show (6 : Int32) = 2 from q) (by decide), fun q => absurd (show (6 : Int32) = 1 ∨ (6 : Int32) = 3 ∨ (6 : Int32) = 4 ∨ (6 : Int32) = 5 from q) (by decide)⟩
      show S.i 42 + 1 = s.i 12 + 1
      rw [p1]
  · rw [r_two w4] at g
    rw [if_neg w3] at e
    cases e
    cases g
    have big : 128 ≤ (LSG c (BY S (S.i 42 + 1))).toInt := by
      have a := tm_int w2
      have b := lt_int w4
      rw [z_t0, w1] at b
      exact (ls_bg c (BY S (S.i 42 + 1))).resolve_left w3
    have nn : ∀ v : Int32, v.toInt < 128 → ¬ LSG c (BY S (S.i 42 + 1)) = v := fun v hv q => by
      rw [q] at big
      omega
    refine ⟨h44, ?_, w1, w2, fun q => absurd q (nn 2 (by decide)), fun q => ?_⟩
    · show S.i 42 + 2 = s.i 12 + 1 + 1
      rw [p1, Int32.add_assoc]
      rfl
    · rcases q with q | q | q | q
      · exact absurd q (nn 1 (by decide))
      · exact absurd q (nn 3 (by decide))
      · exact absurd q (nn 4 (by decide))
      · exact absurd q (nn 5 (by decide))
end
section
/-! both readers: rows of letters and digits -/
theorem i64_nn {x : Int64} (hx : 0 ≤ x.toInt) : (x.toBitVec.toNat : Int) = x.toInt := by
  have h1 : x.toInt = x.toBitVec.toInt := rfl
  have h2 := BitVec.toInt_eq_toNat_cond x.toBitVec
  have h3 := x.toBitVec.isLt
  rw [h1] at hx ⊢
  rw [h2] at hx ⊢
  by_cases c : 2 * x.toBitVec.toNat < 2 ^ 64
  · rw [if_pos c]
  · rw [if_neg c] at hx; omega
theorem i64_of {x : Int64} {n : Nat} (h : x.toBitVec.toNat = n) (hn : n < 2 ^ 63) : x.toInt = (n : Int) := by
  have h1 : x.toInt = x.toBitVec.toInt := rfl
  have h2 := BitVec.toInt_eq_toNat_cond x.toBitVec
  rw [h1, h2, if_pos (by omega), h]
theorem shl8 (l : Int64) (b : Int32) (hl : 0 ≤ l.toInt ∧ l.toInt < 1099511627776) (hb : 0 ≤ b.toInt ∧ b.toInt < 256) : ((l <<< ((8 : Int32).toInt64 &&& 63)) ||| b.toInt64).toInt = l.toInt * 256 + b.toInt := by
  have e8 : ((8 : Int32).toInt64 &&& 63) = 8 := by decide
  rw [e8]
  have l1 := i64_nn hl.1
  have eb : b.toInt64.toInt = b.toInt := Int32.toInt_toInt64 _
  have b1 := i64_nn (x := b.toInt64) (by omega)
  have e : ((8 : Int64).toBitVec.smod 64) = 8#64 := by decide
  have e2 : (8#64).toNat = 8 := by decide
  have q : ((l <<< (8 : Int64)) ||| b.toInt64).toBitVec.toNat = l.toBitVec.toNat * 256 + b.toInt64.toBitVec.toNat := by
    rw [Int64.toBitVec_or, BitVec.toNat_or, Int64.toBitVec_shiftLeft, e]
    show (l.toBitVec <<< 8#64).toNat ||| b.toInt64.toBitVec.toNat = _
    rw [BitVec.shiftLeft_eq', BitVec.toNat_shiftLeft, e2]
    have m : l.toBitVec.toNat <<< 8 % 2 ^ 64 = l.toBitVec.toNat <<< 8 := by
      rw [Nat.shiftLeft_eq]
      exact Nat.mod_eq_of_lt (by omega)
    rw [m, ← Nat.shiftLeft_add_eq_or_of_lt (i := 8) (by omega), Nat.shiftLeft_eq]
  rw [i64_of q (by omega)]
  omega
theorem shr_8 (y : Int64) : (y >>> ((8 : Int32).toInt64 &&& 63)).toInt = y.toInt / 256 := by
  have e8 : ((8 : Int32).toInt64 &&& 63) = 8 := by decide
  rw [e8]
  have e : ((8 : Int64).toBitVec.smod 64) = 8#64 := by decide
  have e2 : (8#64).toNat = 8 := by decide
  show (y >>> (8 : Int64)).toBitVec.toInt = y.toInt / 256
  rw [Int64.toBitVec_shiftRight, e]
  show (y.toBitVec.sshiftRight' 8#64).toInt = y.toInt / 256
  rw [BitVec.sshiftRight_eq', BitVec.toInt_sshiftRight, e2, Int.shiftRight_eq_div_pow]
  rfl
theorem shr_16 (y : Int64) : (y >>> ((16 : Int32).toInt64 &&& 63)).toInt = y.toInt / 65536 := by
  have e8 : ((16 : Int32).toInt64 &&& 63) = 16 := by decide
  rw [e8]
  have e : ((16 : Int64).toBitVec.smod 64) = 16#64 := by decide
  have e2 : (16#64).toNat = 16 := by decide
  show (y >>> (16 : Int64)).toBitVec.toInt = y.toInt / 65536
  rw [Int64.toBitVec_shiftRight, e]
  show (y.toBitVec.sshiftRight' 16#64).toInt = y.toInt / 65536
  rw [BitVec.sshiftRight_eq', BitVec.toInt_sshiftRight, e2, Int.shiftRight_eq_div_pow]
  rfl
theorem and_255 (y : Int64) (h : 0 ≤ y.toInt) : (y &&& 255).toInt = y.toInt % 256 := by
  have y1 := i64_nn h
  have e2 : (255 : Int64).toBitVec.toNat = 2 ^ 8 - 1 := by decide
  have q : (y &&& 255).toBitVec.toNat = y.toBitVec.toNat % 256 := by
    rw [Int64.toBitVec_and, BitVec.toNat_and, e2, Nat.and_two_pow_sub_one_eq_mod]
  rw [i64_of q (by omega)]
  omega
theorem sub_48 (y : Int64) (h : 0 ≤ y.toInt ∧ y.toInt < 256) : (y - 48).toInt = y.toInt - 48 := by
  have e : (48 : Int64).toInt = 48 := by decide
  rw [Int64.toInt_sub, e, Int.bmod_eq_of_le (by omega) (by omega)]
theorem lgc_eq {x y : Int64} : lg_cmp x y = 0 ↔ x = y := ⟨lg_eq, fun h => by
  unfold lg_cmp
  rw [if_neg (fun q => by rw [h] at q; exact absurd (Int64.lt_iff_toInt_lt.mp q) (Int.lt_irrefl _)), if_pos h]⟩
theorem lgc_lt {x y : Int64} : lg_cmp x y < 0 ↔ x.toInt < y.toInt := by
  unfold lg_cmp
  by_cases c : x > y
  · rw [if_pos c]
    have := Int64.lt_iff_toInt_lt.mp c
    exact ⟨fun q => absurd q (by decide), fun q => by omega⟩
  · rw [if_neg c]
    have c' : ¬ y.toInt < x.toInt := fun q => c (Int64.lt_iff_toInt_lt.mpr q)
    by_cases d : x = y
    · rw [if_pos d, d]
      exact ⟨fun q => absurd q (by decide), fun q => absurd q (Int.lt_irrefl _)⟩
    · rw [if_neg d]
      have d' : ¬ x.toInt = y.toInt := fun q => d (Int64.toInt_inj.mp q)
      exact ⟨fun _ => by omega, fun _ => by decide⟩
theorem lgc_gt {x y : Int64} : 0 < lg_cmp x y ↔ y.toInt < x.toInt := by
  unfold lg_cmp
  by_cases c : x > y
  · rw [if_pos c]
    exact ⟨fun _ => Int64.lt_iff_toInt_lt.mp c, fun _ => by decide⟩
  · rw [if_neg c]
    have c' : ¬ y.toInt < x.toInt := fun q => c (Int64.lt_iff_toInt_lt.mpr q)
    by_cases d : x = y
    · rw [if_pos d]
      exact ⟨fun q => absurd q (by decide), fun q => absurd q c'⟩
    · rw [if_neg d]
      exact ⟨fun q => absurd q (by decide), fun q => absurd q c'⟩
/-- the bytes of a row, in one number -/
def pk (g : Nat → Int32) (F : Nat) : Nat → Int64
  | 0 => 0
  | m + 1 => (pk g F m <<< ((8 : Int32).toInt64 &&& 63)) ||| (g (F + m)).toInt64
theorem pk_2 {g : Nat → Int32} {F : Nat} (h0 : 48 ≤ (g F).toInt ∧ (g F).toInt ≤ 122) (h1 : 48 ≤ (g (F + 1)).toInt ∧ (g (F + 1)).toInt ≤ 122) : (pk g F 2).toInt = (g F).toInt * 256 + (g (F + 1)).toInt := by
  have a : (pk g F 1).toInt = (g F).toInt := sh8_0 (g F) ⟨by omega, by omega⟩
  show ((pk g F 1 <<< ((8 : Int32).toInt64 &&& 63)) ||| (g (F + 1)).toInt64).toInt = _
  rw [shl8 _ _ (by omega) (by omega), a]
theorem pk_3 {g : Nat → Int32} {F : Nat} (h0 : 48 ≤ (g F).toInt ∧ (g F).toInt ≤ 122) (h1 : 48 ≤ (g (F + 1)).toInt ∧ (g (F + 1)).toInt ≤ 122) (h2 : 48 ≤ (g (F + 2)).toInt ∧ (g (F + 2)).toInt ≤ 122) : (pk g F 3).toInt = (g F).toInt * 65536 + (g (F + 1)).toInt * 256 + (g (F + 2)).toInt := by
  have a := pk_2 h0 h1
  show ((pk g F 2 <<< ((8 : Int32).toInt64 &&& 63)) ||| (g (F + 2)).toInt64).toInt = _
  rw [shl8 _ _ (by omega) (by omega), a]
  omega
/-- the words -/
def WDS (s : RS) : Prop := ∀ k : Nat, k < 25 → s.b 9 k = zRW k
theorem zRW_inj : ∀ j : Nat, j < 25 → ∀ k : Nat, k < 25 → zRW j = zRW k → j = k := by decide +kernel
theorem zRW_2 : ∀ k : Nat, k < 25 → ¬ (25856 ≤ (zRW k).toInt ∧ (zRW k).toInt ≤ 26111) ∧ ¬ (27904 ≤ (zRW k).toInt ∧ (zRW k).toInt ≤ 28159) ∧ ¬ (29184 ≤ (zRW k).toInt ∧ (zRW k).toInt ≤ 29439) ∧ ¬ (6619136 ≤ (zRW k).toInt ∧ (zRW k).toInt ≤ 6684671) := by decide +kernel
/-- the class: a word, or what is behind the words -/
noncomputable def RTL (N : Nat) (S : CS) (z : Int32) : Option (Int32 × CS) := (if z = 2 then (if (lg_cmp ((S.l &&& 255) - 48) 0) < 0 then f_X9_rowType_70 N S z ((S.l &&& 255) - 48) else (if 0 < (lg_cmp ((S.l &&& 255) - 48) 9) then f_X9_rowType_70 N S z ((S.l &&& 255) - 48) else f_X9_rowType_73 N S z ((S.l &&& 255) - 48) 1)) else f_X9_rowType_70 N S z ((S.l &&& 255) - 48))
theorem y_rt {N : Nat} {S : CS} {z : Int32} : ∀ (n : Nat) (x2 : Int32) (R : Int32 × CS), 0 ≤ x2.toInt → x2.toInt ≤ 25 → f_X9_rowType_2 N n S z x2 = some R → (∃ k : Nat, x2.toInt ≤ (k : Int) ∧ k < 25 ∧ S.b 40 k = S.l ∧ R.2 = S ∧ R.1.toInt = 200 + (k : Int)) ∨ ((∀ k : Nat, x2.toInt ≤ (k : Int) → k < 25 → ¬ S.b 40 k = S.l) ∧ RTL N S z = some R)
  | 0, _, _, _, _, e => by cases e
  | n + 1, x2, R, h0, h25, e => by
    have e' : b_X9_rowType_2 N (f_X9_rowType_2 N n) S z x2 = some R := e
    unfold b_X9_rowType_2 at e'
    have e25 : (25 : Int32).toInt = 25 := by decide
    have e200 : (200 : Int32).toInt = 200 := by decide
    by_cases c : (25 : Int32) ≤ x2
    · rw [if_pos c] at e'
      have := le_int c
      exact Or.inr ⟨fun k h1 h2 => by omega, e'⟩
    · rw [if_neg c] at e'
      have lt := lt_int (Int32.not_le.mp c)
      obtain ⟨hib, e'⟩ := hf_ite e'
      have ck := clampI h0
      by_cases d : lg_cmp (S.b 40 x2.toNatClampNeg) S.l = 0
      · rw [if_pos d] at e'
        cases e'
        refine Or.inl ⟨x2.toNatClampNeg, by omega, by omega, lg_eq d, rfl, ?_⟩
        show (200 + x2).toInt = _
        rw [toInt_add] <;> rw [e200] <;> omega
      · rw [if_neg d] at e'
        have e1 : (x2 + 1).toInt = x2.toInt + 1 := ad1 h0 (by omega)
        have nd : ¬ S.b 40 x2.toNatClampNeg = S.l := fun q => d (lgc_eq.mpr q)
        rcases y_rt n (x2 + 1) R (by omega) (by omega) e' with ⟨k, k1, k2, k3⟩ | ⟨k1, k2⟩
        · exact Or.inl ⟨k, by omega, k2, k3⟩
        · refine Or.inr ⟨fun k h1 h2 => ?_, k2⟩
          by_cases q : (k : Int) = x2.toInt
          · have : k = x2.toNatClampNeg := by omega
            rw [this]
            exact nd
          · exact k1 k (by omega) h2
/-- the reference: the words -/
theorem y_rw {N : Nat} : ∀ (n : Nat) (s : RS) (x4 : Int32) (u : RS), 0 ≤ x4.toInt → x4.toInt ≤ 25 → f_X12_readName_260 N n s x4 = some u → (u.i 11 = s.i 11 ∧ u.i 12 = s.i 12 ∧ u.i 14 = s.i 14 ∧ u.l = s.l) ∧ ((∃ k : Nat, x4.toInt ≤ (k : Int) ∧ k < 25 ∧ s.b 9 k = s.l ∧ (u.i 10).toInt = 410 + (k : Int)) ∨ ((∀ k : Nat, x4.toInt ≤ (k : Int) → k < 25 → ¬ s.b 9 k = s.l) ∧ u.i 10 = s.i 10))
  | 0, _, _, _, _, _, e => by cases e
  | n + 1, s, x4, u, h0, h25, e => by
    have e' : b_X12_readName_260 N (f_X12_readName_260 N n) s x4 = some u := e
    unfold b_X12_readName_260 at e'
    have e25 : (25 : Int32).toInt = 25 := by decide
    have e410 : (410 : Int32).toInt = 410 := by decide
    by_cases c : (25 : Int32) ≤ x4
    · rw [if_pos c] at e'
      cases e'
      have := le_int c
      exact ⟨⟨rfl, rfl, rfl, rfl⟩, Or.inr ⟨fun k h1 h2 => by omega, rfl⟩⟩
    · rw [if_neg c] at e'
      have lt := lt_int (Int32.not_le.mp c)
      obtain ⟨hib, e'⟩ := hf_ite e'
      have ck := clampI h0
      have e1 : (x4 + 1).toInt = x4.toInt + 1 := ad1 h0 (by omega)
      by_cases d : lg_cmp (s.b 9 x4.toNatClampNeg) s.l = 0
      · rw [if_pos d] at e'
        obtain ⟨⟨a1, a2, a3, a4⟩, b⟩ := y_rw n (RS.setI s 10 (410 + x4)) (x4 + 1) u (by omega) (by omega) e'
        refine ⟨⟨a1, a2, a3, a4⟩, Or.inl ?_⟩
        rcases b with ⟨k, k1, k2, k3, k4⟩ | ⟨k1, k2⟩
        · exact ⟨k, by omega, k2, k3, k4⟩
        · refine ⟨x4.toNatClampNeg, by omega, by omega, lg_eq d, ?_⟩
          rw [k2]
          show (410 + x4).toInt = _
          rw [toInt_add] <;> rw [e410] <;> omega
      · rw [if_neg d] at e'
        have nd : ¬ s.b 9 x4.toNatClampNeg = s.l := fun q => d (lgc_eq.mpr q)
        obtain ⟨⟨a1, a2, a3, a4⟩, b⟩ := y_rw n (RS.setI s 10 (s.i 10)) (x4 + 1) u (by omega) (by omega) e'
        refine ⟨⟨a1, a2, a3, a4⟩, ?_⟩
        rcases b with ⟨k, k1, k2, k3, k4⟩ | ⟨k1, k2⟩
        · exact Or.inl ⟨k, by omega, k2, k3, k4⟩
        · refine Or.inr ⟨fun k h1 h2 => ?_, k2⟩
          by_cases q : (k : Int) = x4.toInt
          · have : k = x4.toNatClampNeg := by omega
            rw [this]
            exact nd
          · exact k1 k (by omega) h2
end
section
/-! both readers: what a row of letters and digits is -/
/-- the class, no word: by the row's size and bytes -/
theorem rtl_o {N : Nat} {S : CS} {z : Int32} (h2 : ¬ z = 2) (h3 : ¬ z = 3) : RTL N S z = some (2, S) := by
  unfold RTL f_X9_rowType_70 f_X9_rowType_73 f_X9_rowType_114 f_X9_rowType_117
  exact (if_neg h2).trans ((if_neg h3).trans ((if_pos rfl).trans (if_pos rfl)))
theorem rtl_2n {N : Nat} {S : CS} {b0 b1 : Int} (hl : S.l.toInt = b0 * 256 + b1) (r0 : 48 ≤ b0 ∧ b0 ≤ 122) (r1 : 48 ≤ b1 ∧ b1 ≤ 122) (h : ¬ b1 ≤ 57) : RTL N S 2 = some (2, S) := by
  have a : (S.l &&& 255).toInt = b1 := by rw [and_255 _ (by omega), hl]; omega
  have b : ((S.l &&& 255) - 48).toInt = b1 - 48 := by rw [sub_48 _ (by omega), a]
  have e9 : (9 : Int64).toInt = 9 := by decide
  have e0 : (0 : Int64).toInt = 0 := by decide
  unfold RTL f_X9_rowType_70 f_X9_rowType_73 f_X9_rowType_114 f_X9_rowType_117
  refine (if_pos rfl).trans ?_
  refine (if_neg (fun q => by have := lgc_lt.mp q; omega)).trans ?_
  refine (if_pos (lgc_gt.mpr (by omega))).trans ?_
  exact (if_neg (by decide)).trans ((if_pos rfl).trans (if_pos rfl))
/-- the letter and the number decide -/
theorem rt_171 {N : Nat} {S : CS} {x6 : Int64} {v : Int32} (hv : 0 ≤ v.toInt) (e45 : S.i 45 = v) : (x6.toInt = 101 → v.toInt < 12 → f_X9_rowType_171 N S x6 = some (5, S)) ∧ (x6.toInt = 101 → ¬ v.toInt < 12 → f_X9_rowType_171 N S x6 = some (2, S)) ∧ (x6.toInt = 109 → v.toInt < 8 → f_X9_rowType_171 N S x6 = some (3, S)) ∧ (x6.toInt = 114 → v.toInt < 8 → f_X9_rowType_171 N S x6 = some (4, S)) ∧ (¬ x6.toInt = 101 → ¬ v.toInt < 8 → f_X9_rowType_171 N S x6 = some (2, S)) ∧ (¬ x6.toInt = 101 → ¬ x6.toInt = 109 → ¬ x6.toInt = 114 → f_X9_rowType_171 N S x6 = some (2, S)) := by
  have q : ∀ (w : Int64), lg_cmp x6 w = 0 ↔ x6.toInt = w.toInt := fun w => by rw [lgc_eq]; exact ⟨fun h => by rw [h], fun h => Int64.toInt_inj.mp h⟩
  have q1 := q 101
  have q2 := q 109
  have q3 := q 114
  have c1 : (101 : Int64).toInt = 101 := by decide
  have c2 : (109 : Int64).toInt = 109 := by decide
  have c3 : (114 : Int64).toInt = 114 := by decide
  rw [c1] at q1
  rw [c2] at q2
  rw [c3] at q3
  have e12 : (12 : Int32).toInt = 12 := by decide
  have e8 : (8 : Int32).toInt = 8 := by decide
  unfold f_X9_rowType_171
  rw [e45]
  refine ⟨fun h1 h2 => ?_, fun h1 h2 => ?_, fun h1 h2 => ?_, fun h1 h2 => ?_, fun h1 h2 => ?_, fun h1 h2 h3 => ?_⟩
  · exact (if_pos (q1.mpr h1)).trans (if_neg (fun w => by have := le_int w; omega))
  · exact (if_pos (q1.mpr h1)).trans (if_pos (by rw [Int32.le_iff_toInt_le]; omega))
  · exact (if_neg (fun w => by have := q1.mp w; omega)).trans ((if_pos (by rw [Int32.lt_iff_toInt_lt]; omega)).trans (if_pos (q2.mpr h1)))
  · exact (if_neg (fun w => by have := q1.mp w; omega)).trans ((if_pos (by rw [Int32.lt_iff_toInt_lt]; omega)).trans ((if_neg (fun w => by have := q2.mp w; omega)).trans (if_pos (q3.mpr h1))))
  · exact (if_neg (fun w => h1 (q1.mp w))).trans (if_neg (fun w => by have := lt_int w; omega))
  · refine (if_neg (fun w => h1 (q1.mp w))).trans ?_
    by_cases d : v < 8
    · exact (if_pos d).trans ((if_neg (fun w => h2 (q2.mp w))).trans (if_neg (fun w => h3 (q3.mp w))))
    · exact if_neg d
theorem rtl_2y {N : Nat} {S : CS} {b0 b1 : Int} (hl : S.l.toInt = b0 * 256 + b1) (r0 : 48 ≤ b0 ∧ b0 ≤ 122) (r1 : 48 ≤ b1 ∧ b1 ≤ 57) : ∃ (v : Int32) (x6 : Int64), v.toInt = b1 - 48 ∧ x6.toInt = b0 ∧ RTL N S 2 = f_X9_rowType_171 N (CS.setI S 45 v) x6 := by
  have a : (S.l &&& 255).toInt = b1 := by rw [and_255 _ (by omega), hl]; omega
  have b : ((S.l &&& 255) - 48).toInt = b1 - 48 := by rw [sub_48 _ (by omega), a]
  have e9 : (9 : Int64).toInt = 9 := by decide
  have e0 : (0 : Int64).toInt = 0 := by decide
  have e00 : (0 : Int32).toInt = 0 := by decide
  have v1 : (((S.l &&& 255) - 48 : Int64).toInt32).toInt = b1 - 48 := by rw [Int64.toInt_toInt32, b, Int.bmod_eq_of_le (by omega) (by omega)]
  refine ⟨((S.l &&& 255) - 48 : Int64).toInt32 + 0, S.l >>> ((8 : Int32).toInt64 &&& 63), ?_, by rw [shr_8, hl]; omega, ?_⟩
  · rw [toInt_add] <;> rw [e00, v1] <;> omega
  · unfold RTL f_X9_rowType_73 f_X9_rowType_114 f_X9_rowType_117 f_X9_rowType_129 f_X9_rowType_153
    refine (if_pos rfl).trans ?_
    refine (if_neg (fun q => by have := lgc_lt.mp q; omega)).trans ?_
    refine (if_neg (fun q => by have := lgc_gt.mp q; omega)).trans ?_
    refine (if_neg (by decide)).trans ?_
    exact (if_neg n10).trans ((if_neg n10).trans (if_neg n10))
theorem rtl_3n {N : Nat} {S : CS} {b0 b1 b2 : Int} (hl : S.l.toInt = b0 * 65536 + b1 * 256 + b2) (r0 : 48 ≤ b0 ∧ b0 ≤ 122) (r1 : 48 ≤ b1 ∧ b1 ≤ 122) (r2 : 48 ≤ b2 ∧ b2 ≤ 122) (h : ¬ (b2 ≤ 57 ∧ b1 = 49)) : RTL N S 3 = some (2, S) := by
  have a : (S.l &&& 255).toInt = b2 := by rw [and_255 _ (by omega), hl]; omega
  have b : ((S.l &&& 255) - 48).toInt = b2 - 48 := by rw [sub_48 _ (by omega), a]
  have c : ((S.l >>> ((8 : Int32).toInt64 &&& 63)) &&& 255).toInt = b1 := by rw [and_255 _ (by rw [shr_8, hl]; omega), shr_8, hl]; omega
  have e9 : (9 : Int64).toInt = 9 := by decide
  have e0 : (0 : Int64).toInt = 0 := by decide
  have e49 : (49 : Int64).toInt = 49 := by decide
  have fin : f_X9_rowType_114 N S ((S.l &&& 255) - 48) 0 = some (2, S) := by
    unfold f_X9_rowType_114 f_X9_rowType_117
    exact (if_pos rfl).trans (if_pos rfl)
  unfold RTL f_X9_rowType_70 f_X9_rowType_73
  refine (if_neg (by decide)).trans ?_
  refine (if_pos rfl).trans ?_
  refine (if_neg (fun q => by have := lgc_lt.mp q; omega)).trans ?_
  refine ite_so (fun _ => fin) (fun q => ?_)
  refine ite_so (fun k => ?_) (fun _ => fin)
  exfalso
  have k' := lgc_eq.mp k
  rw [k', e49] at c
  refine h ⟨?_, c.symm⟩
  have : ¬ 9 < b2 - 48 := fun w => q (lgc_gt.mpr (by omega))
  omega
theorem rtl_3y {N : Nat} {S : CS} {b0 b1 b2 : Int} (hl : S.l.toInt = b0 * 65536 + b1 * 256 + b2) (r0 : 48 ≤ b0 ∧ b0 ≤ 122) (r1 : b1 = 49) (r2 : 48 ≤ b2 ∧ b2 ≤ 57) : ∃ (v : Int32) (x6 : Int64), v.toInt = b2 - 38 ∧ x6.toInt = b0 ∧ RTL N S 3 = f_X9_rowType_171 N (CS.setI S 45 v) x6 := by
  have a : (S.l &&& 255).toInt = b2 := by rw [and_255 _ (by omega), hl]; omega
  have b : ((S.l &&& 255) - 48).toInt = b2 - 48 := by rw [sub_48 _ (by omega), a]
  have c : ((S.l >>> ((8 : Int32).toInt64 &&& 63)) &&& 255).toInt = b1 := by rw [and_255 _ (by rw [shr_8, hl]; omega), shr_8, hl]; omega
  have e9 : (9 : Int64).toInt = 9 := by decide
  have e0 : (0 : Int64).toInt = 0 := by decide
  have e49 : (49 : Int64).toInt = 49 := by decide
  have e10 : (10 : Int32).toInt = 10 := by decide
  have v1 : (((S.l &&& 255) - 48 : Int64).toInt32).toInt = b2 - 48 := by rw [Int64.toInt_toInt32, b, Int.bmod_eq_of_le (by omega) (by omega)]
  refine ⟨((S.l &&& 255) - 48 : Int64).toInt32 + 10, S.l >>> ((16 : Int32).toInt64 &&& 63), ?_, by rw [shr_16, hl]; omega, ?_⟩
  · rw [toInt_add] <;> rw [e10, v1] <;> omega
  · unfold RTL f_X9_rowType_70 f_X9_rowType_73 f_X9_rowType_117 f_X9_rowType_129 f_X9_rowType_153
    refine (if_neg (by decide)).trans ?_
    refine (if_pos rfl).trans ?_
    refine (if_neg (fun q => by have := lgc_lt.mp q; omega)).trans ?_
    refine (if_neg (fun q => by have := lgc_gt.mp q; omega)).trans ?_
    refine (if_pos (lgc_eq.mpr (Int64.toInt_inj.mp (by rw [c, e49]; exact r1)))).trans ?_
    exact (if_pos rfl).trans ((if_neg n10).trans ((if_pos rfl).trans (if_pos rfl)))
end
section
/-! both readers: a row of letters and digits, its end -/
def RNE (N : Nat) (s : RS) : Option RS := (if ((s.i 12) - (s.i 11)) ≤ 8 then (f_X12_at N s (s.i 11)).bind fun p14 => (f_X12_at N p14.2 ((p14.2.i 11) + 1)).bind fun p16 => (if ((s.i 12) - (s.i 11)) = 2 then (if p14.1 = 109 then f_X12_readName_135 N (RS.setI p16.2 10 2) ((s.i 12) - (s.i 11)) p14.1 (p16.1 - 48) else (if p14.1 = 114 then f_X12_readName_135 N (RS.setI p16.2 10 2) ((s.i 12) - (s.i 11)) p14.1 (p16.1 - 48) else f_X12_readName_168 N (RS.setI p16.2 10 2) ((s.i 12) - (s.i 11)) p14.1 (p16.1 - 48))) else f_X12_readName_168 N (RS.setI p16.2 10 2) ((s.i 12) - (s.i 11)) p14.1 (p16.1 - 48)) else some (RS.setI s 10 6))
/-- the same, its bytes read -/
def RNB (N : Nat) (s : RS) (z c d : Int32) : Option RS := (if z = 2 then (if c = 109 then f_X12_readName_135 N (RS.setI s 10 2) z c d else (if c = 114 then f_X12_readName_135 N (RS.setI s 10 2) z c d else f_X12_readName_168 N (RS.setI s 10 2) z c d)) else f_X12_readName_168 N (RS.setI s 10 2) z c d)
theorem rne_b {N : Nat} {s : RS} (h0 : 0 ≤ s.i 11) (h1 : 0 ≤ s.i 11 + 1) (h9 : s.i 2 ≤ 900) (h8 : s.i 12 - s.i 11 ≤ 8) : RNE N s = RNB N s (s.i 12 - s.i 11) (bt s (s.i 11)) (bt s (s.i 11 + 1) - 48) := by
  unfold RNE RNB
  rw [if_pos h8, e_at h0 h9, ob_some]
  show Option.bind (f_X12_at N s (s.i 11 + 1)) _ = _
  rw [e_at h1 h9, ob_some]
theorem rnb_m {N : Nat} {s : RS} {d : Int32} (h : 0 ≤ d ∧ d ≤ 7) : RNB N s 2 109 d = some (RS.setI (RS.setI (RS.setI s 10 2) 10 3) 14 d) := by
  unfold RNB f_X12_readName_135 f_X12_readName_160
  refine (if_pos rfl).trans ((if_pos rfl).trans ?_)
  rw [e_in1 h, ob_some]
  exact (if_neg n10).trans (if_pos rfl)
theorem rnb_r {N : Nat} {s : RS} {d : Int32} (h : 0 ≤ d ∧ d ≤ 7) : RNB N s 2 114 d = some (RS.setI (RS.setI (RS.setI s 10 2) 10 4) 14 d) := by
  unfold RNB f_X12_readName_135 f_X12_readName_160
  refine (if_pos rfl).trans ((if_neg (by decide)).trans ((if_pos rfl).trans ?_))
  rw [e_in1 h, ob_some]
  exact (if_neg n10).trans (if_neg (by decide))
theorem rnb_e2 {N : Nat} {s : RS} {d : Int32} (h : 0 ≤ d ∧ d ≤ 9) : RNB N s 2 101 d = some (RS.setI (RS.setI (RS.setI s 10 2) 10 5) 14 d) := by
  unfold RNB f_X12_readName_168 f_X12_readName_220 f_X12_readName_254
  refine (if_pos rfl).trans ((if_neg (by decide)).trans ((if_neg (by decide)).trans ((if_pos rfl).trans ((if_pos rfl).trans ?_))))
  rw [e_in1 h, ob_some]
  exact (if_neg n10).trans (if_pos rfl)
theorem rnb_e3 {N : Nat} {s : RS} (h0 : 0 ≤ s.i 11 + 2) (h9 : s.i 2 ≤ 900) (h : 0 ≤ bt s (s.i 11 + 2) - 48 ∧ bt s (s.i 11 + 2) - 48 ≤ 1) : RNB N s 3 101 1 = some (RS.setI (RS.setI (RS.setI s 10 2) 10 5) 14 (10 + bt s (s.i 11 + 2) - 48)) := by
  unfold RNB f_X12_readName_168 f_X12_readName_189 f_X12_readName_220 f_X12_readName_254
  refine (if_neg (by decide)).trans ((if_pos rfl).trans ((if_neg (by decide)).trans ((if_pos rfl).trans ((if_pos rfl).trans ?_))))
  show Option.bind (f_X12_at N (RS.setI s 10 2) ((RS.setI s 10 2).i 11 + 2)) _ = _
  rw [e_at (σ := RS.setI s 10 2) (x := (RS.setI s 10 2).i 11 + 2) h0 h9, ob_some]
  show Option.bind (f_X12_in N (RS.setI s 10 2) (bt s (s.i 11 + 2) - 48) 0 1) _ = _
  rw [e_in1 h, ob_some]
  refine (if_neg n10).trans ((if_neg (by decide)).trans ?_)
  show Option.bind (f_X12_at N (RS.setI (RS.setI s 10 2) 10 5) (s.i 11 + 2)) _ = _
  rw [e_at (σ := RS.setI (RS.setI s 10 2) 10 5) h0 h9, ob_some]
  rfl
/-- none of these: a word, or a name -/
theorem rnb_o {N : Nat} {s : RS} {z c d : Int32} (h0 : 0 ≤ s.i 11 + 2) (h9 : s.i 2 ≤ 900) (hm : z = 2 → c = 109 ∨ c = 114 → ¬ (0 ≤ d ∧ d ≤ 7)) (he : c = 101 → z = 2 → ¬ (0 ≤ d ∧ d ≤ 9)) (h3 : c = 101 → z = 3 → d = 1 → ¬ (0 ≤ bt s (s.i 11 + 2) - 48 ∧ bt s (s.i 11 + 2) - 48 ≤ 1)) : RNB N s z c d = f_X12_readName_257 N (RS.setI s 10 2) := by
  have w168 : f_X12_readName_168 N (RS.setI s 10 2) z c d = f_X12_readName_257 N (RS.setI s 10 2) := by
    have w189 : c = 101 → f_X12_readName_189 N (RS.setI s 10 2) z d = f_X12_readName_257 N (RS.setI s 10 2) := fun hc => by
      unfold f_X12_readName_189
      refine ite_so (fun k3 => ?_) (fun _ => rfl)
      refine ite_so (fun k1 => ?_) (fun _ => rfl)
      show Option.bind (f_X12_at N (RS.setI s 10 2) ((RS.setI s 10 2).i 11 + 2)) _ = _
      rw [e_at (σ := RS.setI s 10 2) (x := (RS.setI s 10 2).i 11 + 2) h0 h9, ob_some]
      show Option.bind (f_X12_in N (RS.setI s 10 2) (bt s (s.i 11 + 2) - 48) 0 1) _ = _
      rw [e_in0 (h3 hc k3 k1), ob_some]
      exact if_pos rfl
    unfold f_X12_readName_168
    refine ite_so (fun hc => ?_) (fun _ => rfl)
    refine ite_so (fun k => ?_) (fun _ => w189 hc)
    rw [e_in0 (he hc k), ob_some]
    exact (if_pos rfl).trans (w189 hc)
  have w135 : z = 2 → c = 109 ∨ c = 114 → f_X12_readName_135 N (RS.setI s 10 2) z c d = f_X12_readName_257 N (RS.setI s 10 2) := fun k hc => by
    unfold f_X12_readName_135
    rw [e_in0 (hm k hc), ob_some]
    exact (if_pos rfl).trans w168
  unfold RNB
  exact ite_so (fun k => ite_so (fun hc => w135 k (Or.inl hc)) (fun _ => ite_so (fun hc => w135 k (Or.inr hc)) (fun _ => w168))) (fun _ => w168)
theorem z_of {z : Int32} {m : Nat} (h : z.toInt = (m : Int)) (v : Int32) (k : Nat) (hv : v.toInt = (k : Int)) : z = v ↔ m = k := ⟨fun q => by rw [q, hv] at h; omega, fun q => Int32.toInt_inj.mp (by rw [h, hv, q])⟩
/-- the end of a row: the same token in both -/
theorem y_end {N : Nat} {S : CS} {s : RS} {m : Nat} {R : Unit × CS} {u : RS} (hT : TPR S s) (hP : POS S s) (h44 : S.i 44 = s.i 11) (h0 : 0 ≤ (s.i 11).toInt) (hm : (s.i 12).toInt = (s.i 11).toInt + m) (m1 : 1 ≤ m) (hl : S.l = s.l) (hk : s.l = pk (s.a 1) (s.i 11).toNatClampNeg m) (hb : ∀ j : Nat, j < m → 48 ≤ (s.a 1 ((s.i 11).toNatClampNeg + j)).toInt ∧ (s.a 1 ((s.i 11).toNatClampNeg + j)).toInt ≤ 122) (hw : WDS s) (e : f_X9_takeRow_79 N S = some R) (g : RNE N s = some u) : TKR R.2 u := by
  obtain ⟨p1, p2, p3⟩ := hP
  obtain ⟨t1, t2, t3, t4⟩ := id hT
  have e900 : (900 : Int32).toInt = 900 := by decide
  have e1' : (1 : Int32).toInt = 1 := by decide
  have e2' : (2 : Int32).toInt = 2 := by decide
  have e3' : (3 : Int32).toInt = 3 := by decide
  have e8' : (8 : Int32).toInt = 8 := by decide
  have e48 : (48 : Int32).toInt = 48 := by decide
  have i2 : s.i 2 ≤ 900 := by rw [Int32.le_iff_toInt_le, e900]; exact t2.2
  have i11 : 0 ≤ s.i 11 := by rw [Int32.le_iff_toInt_le, z_t0]; exact h0
  have a1 : (s.i 11 + 1).toInt = (s.i 11).toInt + 1 := ad1 h0 (by omega)
  have a2 : (s.i 11 + 2).toInt = (s.i 11).toInt + 2 := by rw [toInt_add] <;> rw [e2'] <;> omega
  have j1 : 0 ≤ s.i 11 + 1 := by rw [Int32.le_iff_toInt_le, z_t0]; omega
  have j2 : 0 ≤ s.i 11 + 2 := by rw [Int32.le_iff_toInt_le, z_t0]; omega
  have ck := clampI h0
  have es : (s.i 12 - s.i 11).toInt = (m : Int) := by rw [toInt_sub] <;> omega
  have eS : S.i 42 - S.i 44 = s.i 12 - s.i 11 := by rw [p1, h44]
  have bj : ∀ (j : Nat) (x : Int32), x.toInt = (s.i 11).toInt + j → j < m → bt s x = s.a 1 ((s.i 11).toNatClampNeg + j) := fun j x hx hj => by
    unfold bt
    rw [if_neg (fun q => by have := le_int q; omega)]
    have := clampI (k := x) (by omega)
    rw [show x.toNatClampNeg = (s.i 11).toNatClampNeg + j by omega]
  unfold f_X9_takeRow_79 at e
  rw [eS] at e
  by_cases c : s.i 12 - s.i 11 ≤ 8
  · rw [if_pos c] at e
    rw [rne_b i11 j1 i2 c] at g
    generalize s.i 12 - s.i 11 = z at e g es
    obtain ⟨p, ep, e⟩ := hf_bind e
    cases e
    have z2 := z_of es 2 2 e2'
    have z3 := z_of es 3 3 e3'
    have c0 := bj 0 (s.i 11) (by omega) (by omega)
    have r0 := hb 0 (by omega)
    rw [Nat.add_zero] at c0 r0
    have ix : ∀ v : Int32, bt s (s.i 11) = v ↔ (s.a 1 (s.i 11).toNatClampNeg).toInt = v.toInt := fun v => by rw [c0]; exact ⟨fun q => by rw [q], fun q => Int32.toInt_inj.mp q⟩
    have x9 := ix 109
    have x4 := ix 114
    have x1 := ix 101
    have k9 : (109 : Int32).toInt = 109 := by decide
    have k4 : (114 : Int32).toInt = 114 := by decide
    have k1 : (101 : Int32).toInt = 101 := by decide
    rw [k9] at x9
    rw [k4] at x4
    rw [k1] at x1
    have dd : ∀ (x : Int32) (j : Nat), x.toInt = (s.i 11).toInt + j → j < m → (bt s x - 48).toInt = (s.a 1 ((s.i 11).toNatClampNeg + j)).toInt - 48 := fun x j hx hj => by
      have r := hb j hj
      rw [bj j x hx hj, toInt_sub] <;> rw [e48] <;> omega
    have d1 : 2 ≤ m → (bt s (s.i 11 + 1) - 48).toInt = (s.a 1 ((s.i 11).toNatClampNeg + 1)).toInt - 48 := fun q => dd _ 1 (by omega) (by omega)
    have d2 : 3 ≤ m → (bt s (s.i 11 + 2) - 48).toInt = (s.a 1 ((s.i 11).toNatClampNeg + 2)).toInt - 48 := fun q => dd _ 2 (by omega) (by omega)
    have l2 : m = 2 → s.l.toInt = (s.a 1 (s.i 11).toNatClampNeg).toInt * 256 + (s.a 1 ((s.i 11).toNatClampNeg + 1)).toInt := fun q => by
      rw [hk, q]
      exact pk_2 r0 (hb 1 (by omega))
    have l3 : m = 3 → s.l.toInt = (s.a 1 (s.i 11).toNatClampNeg).toInt * 65536 + (s.a 1 ((s.i 11).toNatClampNeg + 1)).toInt * 256 + (s.a 1 ((s.i 11).toNatClampNeg + 2)).toInt := fun q => by
      rw [hk, q]
      exact pk_3 r0 (hb 1 (by omega)) (hb 2 (by omega))
    have le_i : ∀ (a b : Int32), a ≤ b ↔ a.toInt ≤ b.toInt := fun a b => Int32.le_iff_toInt_le
    have e7' : (7 : Int32).toInt = 7 := by decide
    have e9' : (9 : Int32).toInt = 9 := by decide
    rcases y_rt N 0 p (by decide) (by decide) ep with ⟨k, -, k2, k3, k4', k5⟩ | ⟨nw, tl⟩
    · -- a word
      have lw : s.l = zRW k := by rw [← hl, ← k3, t4 k k2, hw k k2]
      obtain ⟨w1, w2, w3, w4⟩ := zRW_2 k k2
      rw [← lw] at w1 w2 w3 w4
      rw [rnb_o j2 i2 ?_ ?_ ?_] at g
      · unfold f_X12_readName_257 at g
        obtain ⟨⟨b1, b2, b3, b4⟩, b⟩ := y_rw N (RS.setI s 10 2) 0 u (by decide) (by decide) g
        rcases b with ⟨k', -, q2, q3, q4⟩ | ⟨q1, -⟩
        · have kk : k' = k := zRW_inj k' q2 k k2 (by rw [← hw k' q2, ← lw]; exact q3)
          rw [kk] at q4
          have tr : tyR p.1 := Or.inr (by omega)
          have nn : ∀ v : Int32, v.toInt < 200 → ¬ p.1 = v := fun v hv q => by rw [q] at k5; omega
          rw [k4']
          refine ⟨h44.trans b1.symm, p1.trans b2.symm, ?_, tr, fun q => absurd q (nn 2 (by decide)), fun q => ?_⟩
          · refine Int32.toInt_inj.mp ?_
            have := tm_int tr
            show (u.i 10).toInt = (tm p.1).toInt
            omega
          · rcases q with q | q | q | q
            · exact absurd q (nn 1 (by decide))
            · exact absurd q (nn 3 (by decide))
            · exact absurd q (nn 4 (by decide))
            · exact absurd q (nn 5 (by decide))
        · exfalso
          refine q1 k (by rw [z_t0]; omega) k2 ?_
          show s.b 9 k = s.l
          rw [hw k k2, lw]
      · intro q1 q2 q3
        have m2 := z2.mp q1
        have L := l2 m2
        have D := d1 (by omega)
        have u1 := (le_i _ _).mp q3.1
        have u2 := (le_i _ _).mp q3.2
        rw [z_t0] at u1
        rw [e7'] at u2
        rw [x9, x4] at q2
        omega
      · intro q1 q2 q3
        have m2 := z2.mp q2
        have L := l2 m2
        have D := d1 (by omega)
        have u1 := (le_i _ _).mp q3.1
        have u2 := (le_i _ _).mp q3.2
        rw [z_t0] at u1
        rw [e9'] at u2
        rw [x1] at q1
        omega
      · intro q1 q2 q3 q4
        have m3 := z3.mp q2
        have L := l3 m3
        have r1 := hb 1 (by omega)
        have r2 := hb 2 (by omega)
        rw [x1] at q1
        omega
    · -- no word
      have nw' : ∀ k : Nat, k < 25 → ¬ s.b 9 k = s.l := fun k hk2 q => nw k (by rw [z_t0]; omega) hk2 (by rw [hl, t4 k hk2]; exact q)
      have nam : ∀ (T : CS), p = (2, T) → T.i 42 = S.i 42 → T.i 44 = S.i 44 → T.l = S.l → RNB N s z (bt s (s.i 11)) (bt s (s.i 11 + 1) - 48) = f_X12_readName_257 N (RS.setI s 10 2) → TKR (CS.setI p.2 43 p.1) u := fun T hp h2 h4 h5 hg => by
        rw [hg] at g
        unfold f_X12_readName_257 at g
        obtain ⟨⟨b1, b2, b3, b4⟩, b⟩ := y_rw N (RS.setI s 10 2) 0 u (by decide) (by decide) g
        rw [hp]
        rcases b with ⟨k', -, q2, q3, q4⟩ | ⟨-, q2⟩
        · exact absurd q3 (nw' k' q2)
        · refine ⟨(h4.trans h44).trans b1.symm, (h2.trans p1).trans b2.symm, ?_, ty_2, fun _ => (h5.trans hl).trans b4.symm, fun q => absurd (show (2 : Int32) = 1 ∨ (2 : Int32) = 3 ∨ (2 : Int32) = 4 ∨ (2 : Int32) = 5 from q) (by decide)⟩
          rw [q2]
          exact tm_2.symm
      have spc : ∀ (t v w : Int32) (T : CS), p = (t, T) → T.i 42 = S.i 42 → T.i 44 = S.i 44 → T.i 45 = v → (t = 3 ∨ t = 4 ∨ t = 5) → v = w → RNB N s z (bt s (s.i 11)) (bt s (s.i 11 + 1) - 48) = some (RS.setI (RS.setI (RS.setI s 10 2) 10 t) 14 w) → TKR (CS.setI p.2 43 p.1) u := fun t v w T hp h2 h4 h5 ht hv hg => by
        rw [hg] at g
        cases g
        rw [hp]
        refine ⟨h4.trans h44, h2.trans p1, ?_, ?_, fun q => ?_, fun _ => h5.trans hv⟩
        · show t = tm t
          rcases ht with rfl | rfl | rfl <;> decide
        · show tyR t
          rcases ht with rfl | rfl | rfl <;> exact Or.inl ⟨by decide, by decide⟩
        · have q' : t = 2 := q
          rcases ht with rfl | rfl | rfl <;> exact absurd q' (by decide)
      by_cases m2 : m = 2
      · have zz : z = 2 := z2.mpr m2
        have r1 := hb 1 (by omega)
        have L : S.l.toInt = (s.a 1 (s.i 11).toNatClampNeg).toInt * 256 + (s.a 1 ((s.i 11).toNatClampNeg + 1)).toInt := by rw [hl]; exact l2 m2
        have D := d1 (by omega)
        rw [zz] at tl g nam spc
        by_cases dg : (s.a 1 ((s.i 11).toNatClampNeg + 1)).toInt ≤ 57
        · obtain ⟨v, x6, v1, v2, v3⟩ := rtl_2y (N := N) L r0 ⟨r1.1, dg⟩
          rw [v3] at tl
          obtain ⟨w1, w2, w3, w4, w5, w6⟩ := rt_171 (N := N) (S := CS.setI S 45 v) (x6 := x6) (v := v) (by omega) (ci_at _ _ _)
          have vv : v = bt s (s.i 11 + 1) - 48 := Int32.toInt_inj.mp (by rw [v1, D])
          have n42 : (CS.setI S 45 v).i 42 = S.i 42 := ci_ne _ _ _ (by decide)
          have n44 : (CS.setI S 45 v).i 44 = S.i 44 := ci_ne _ _ _ (by decide)
          have n45 : (CS.setI S 45 v).i 45 = v := ci_at _ _ _
          by_cases c1 : (s.a 1 (s.i 11).toNatClampNeg).toInt = 101
          · rw [w1 (by omega) (by omega)] at tl
            cases tl
            refine spc 5 v _ _ rfl n42 n44 n45 (by decide) vv ?_
            rw [x1.mpr c1]
            exact rnb_e2 ⟨by rw [le_i, z_t0]; omega, by rw [le_i, e9']; omega⟩
          · by_cases c8 : v.toInt < 8
            · by_cases cm : (s.a 1 (s.i 11).toNatClampNeg).toInt = 109
              · rw [w3 (by omega) c8] at tl
                cases tl
                refine spc 3 v _ _ rfl n42 n44 n45 (by decide) vv ?_
                rw [x9.mpr cm]
                exact rnb_m ⟨by rw [le_i, z_t0]; omega, by rw [le_i, e7']; omega⟩
              · by_cases cr : (s.a 1 (s.i 11).toNatClampNeg).toInt = 114
                · rw [w4 (by omega) c8] at tl
                  cases tl
                  refine spc 4 v _ _ rfl n42 n44 n45 (by decide) vv ?_
                  rw [x4.mpr cr]
                  exact rnb_r ⟨by rw [le_i, z_t0]; omega, by rw [le_i, e7']; omega⟩
                · rw [w6 (by omega) (by omega) (by omega)] at tl
                  cases tl
                  refine nam _ rfl n42 n44 rfl (rnb_o j2 i2 (fun _ q _ => ?_) (fun q _ _ => c1 (x1.mp q)) (fun q _ _ _ => c1 (x1.mp q)))
                  rw [x9, x4] at q
                  omega
            · rw [w5 (by omega) c8] at tl
              cases tl
              refine nam _ rfl n42 n44 rfl (rnb_o j2 i2 (fun _ _ q => ?_) (fun q _ _ => c1 (x1.mp q)) (fun q _ _ _ => c1 (x1.mp q)))
              have := (le_i _ _).mp q.2
              rw [e7'] at this
              omega
        · rw [rtl_2n L r0 r1 dg] at tl
          cases tl
          refine nam S rfl rfl rfl rfl (rnb_o j2 i2 (fun _ _ q => ?_) (fun _ _ q => ?_) (fun _ q => absurd q (by decide)))
          · have := (le_i _ _).mp q.2
            rw [e7'] at this
            omega
          · have := (le_i _ _).mp q.2
            rw [e9'] at this
            omega
      · by_cases m3 : m = 3
        · have zz : z = 3 := z3.mpr m3
          have r1 := hb 1 (by omega)
          have r2 := hb 2 (by omega)
          have L : S.l.toInt = (s.a 1 (s.i 11).toNatClampNeg).toInt * 65536 + (s.a 1 ((s.i 11).toNatClampNeg + 1)).toInt * 256 + (s.a 1 ((s.i 11).toNatClampNeg + 2)).toInt := by rw [hl]; exact l3 m3
          have D := d1 (by omega)
          have D2 := d2 (by omega)
          rw [zz] at tl g nam spc
          by_cases dg : (s.a 1 ((s.i 11).toNatClampNeg + 2)).toInt ≤ 57 ∧ (s.a 1 ((s.i 11).toNatClampNeg + 1)).toInt = 49
          · obtain ⟨v, x6, v1, v2, v3⟩ := rtl_3y (N := N) L r0 dg.2 ⟨r2.1, dg.1⟩
            rw [v3] at tl
            obtain ⟨w1, w2, w3, w4, w5, w6⟩ := rt_171 (N := N) (S := CS.setI S 45 v) (x6 := x6) (v := v) (by omega) (ci_at _ _ _)
            have n42 : (CS.setI S 45 v).i 42 = S.i 42 := ci_ne _ _ _ (by decide)
            have n44 : (CS.setI S 45 v).i 44 = S.i 44 := ci_ne _ _ _ (by decide)
            have n45 : (CS.setI S 45 v).i 45 = v := ci_at _ _ _
            by_cases c1 : (s.a 1 (s.i 11).toNatClampNeg).toInt = 101
            · by_cases c12 : v.toInt < 12
              · rw [w1 (by omega) c12] at tl
                cases tl
                have db : bt s (s.i 11 + 1) - 48 = 1 := Int32.toInt_inj.mp (by rw [D, e1']; omega)
                have e10 : (10 : Int32).toInt = 10 := by decide
                have b2' := bj 2 (s.i 11 + 2) (by omega) (by omega)
                have tb : (bt s (s.i 11 + 2)).toInt = (s.a 1 ((s.i 11).toNatClampNeg + 2)).toInt := by rw [b2']
                have s1 : (10 + bt s (s.i 11 + 2)).toInt = 10 + (bt s (s.i 11 + 2)).toInt := by rw [toInt_add] <;> rw [e10] <;> omega
                have s2 : (10 + bt s (s.i 11 + 2) - 48).toInt = 10 + (bt s (s.i 11 + 2)).toInt - 48 := by rw [toInt_sub] <;> rw [e48, s1] <;> omega
                refine spc 5 v (10 + bt s (s.i 11 + 2) - 48) _ rfl n42 n44 n45 (by decide) (Int32.toInt_inj.mp (by rw [v1, s2]; omega)) ?_
                rw [x1.mpr c1, db]
                exact rnb_e3 j2 i2 ⟨by rw [le_i, z_t0]; omega, by rw [le_i, e1']; omega⟩
              · rw [w2 (by omega) c12] at tl
                cases tl
                refine nam _ rfl n42 n44 rfl (rnb_o j2 i2 (fun q => absurd q (by decide)) (fun _ q => absurd q (by decide)) (fun _ _ _ q => ?_))
                have := (le_i _ _).mp q.2
                rw [e1'] at this
                omega
            · rw [w5 (by omega) (by omega)] at tl
              cases tl
              exact nam _ rfl n42 n44 rfl (rnb_o j2 i2 (fun q => absurd q (by decide)) (fun _ q => absurd q (by decide)) (fun q _ _ _ => c1 (x1.mp q)))
          · rw [rtl_3n L r0 r1 r2 dg] at tl
            cases tl
            refine nam S rfl rfl rfl rfl (rnb_o j2 i2 (fun q => absurd q (by decide)) (fun _ q => absurd q (by decide)) (fun _ _ q1 q2 => dg ⟨?_, ?_⟩))
            · have := (le_i _ _).mp q2.2
              rw [e1'] at this
              omega
            · rw [q1, e1'] at D
              omega
        · rw [rtl_o (fun q => m2 (z2.mp q)) (fun q => m3 (z3.mp q))] at tl
          cases tl
          exact nam S rfl rfl rfl rfl (rnb_o j2 i2 (fun q => absurd (z2.mp q) m2) (fun _ q => absurd (z2.mp q) m2) (fun _ q => absurd (z3.mp q) m3))
  · rw [if_neg c] at e
    unfold RNE at g
    rw [if_neg c] at g
    cases e
    cases g
    exact ⟨h44, p1, tm_6.symm, ty_6, fun q => absurd (show (6 : Int32) = 2 from q) (by decide), fun q => absurd (show (6 : Int32) = 1 ∨ (6 : Int32) = 3 ∨ (6 : Int32) = 4 ∨ (6 : Int32) = 5 from q) (by decide)⟩
end
