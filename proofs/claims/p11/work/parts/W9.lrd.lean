def zR (n k : Int32) : Int32 := n / k + (if n - n / k * k = 0 then 0 else 1)
theorem z_rem {n k : Int32} (h1 : ¬ n < 0) (h2 : ¬ k < 0) (h3 : ¬ k = 0) (h : n - n / k * k ≤ 0) : n - n / k * k = 0 := by
  obtain ⟨a, ha, rfl⟩ := nI_of h1
  obtain ⟨b, hb, rfl⟩ := nI_of h2
  have hb0 : 0 < b := by
    rcases Nat.eq_zero_or_pos b with q | q
    · subst q; exact absurd nI_0 h3
    · exact q
  rw [pk_rem ha hb0 hb] at h ⊢
  have hm : a % b < b := Nat.mod_lt a hb0
  rcases Nat.eq_zero_or_pos (a % b) with q | q
  · rw [q]; exact nI_0
  · exact absurd h (nI_nle q (by omega))
set_option maxHeartbeats 4000000 in
set_option maxRecDepth 100000 in
theorem c_X11_rounds_b1 (l : Launch) (dC : Nat → ClassId) (dI : Nat → Nat → Nat) (sz : Nat) (h0 : Nat) (n : Int32) (k : Int32) (x_tape : Value) (x_told : Value) (x_code : Value) (x_reader : Value) (x_machine : Value) (x_length : Value) (x_latestFault : Value) (x_hasProgram : Value) (x_hasRun : Value) (h1 : n < 0) : Met l yX11_rounds wzX11_rounds ({ frames := 1, cells := 0, slots := 0, locals := 60 }) (va_Pc [.ref h0, .int n, .int k] (zPre dC dI sz [(h0, .inr (10, [x_tape, x_told, x_code, x_reader, x_machine, x_length, x_latestFault, x_hasProgram, x_hasRun]))] [])) (va_Qi (fun (r : Int32) (_ : Unit) => r = -1) (fun (_ : Unit) (t : State) => zPost dC dI (va_A [(h0, .inr (10, [x_tape, x_told, x_code, x_reader, x_machine, x_length, x_latestFault, x_hasProgram, x_hasRun]))] sz) [(h0, .inr (10, [x_tape, x_told, x_code, x_reader, x_machine, x_length, x_latestFault, x_hasProgram, x_hasRun]))] [] t) (va_A [(h0, .inr (10, [x_tape, x_told, x_code, x_reader, x_machine, x_length, x_latestFault, x_hasProgram, x_hasRun]))] sz)) 0 0 (va_A [(h0, .inr (10, [x_tape, x_told, x_code, x_reader, x_machine, x_length, x_latestFault, x_hasProgram, x_hasRun]))] sz) := by
  refine Met.ofW (cc := cX11_rounds) (maxL := 3) (ret := (some .int)) (by decide) rfl ?_
  intro p e s m args below meth c s₁ B hml hv
  obtain ⟨rfl, hsz, hZ, hP, hK, hD0⟩ := hv
  have hx := B.exec
  have hb := B.bytes
  have hr := B.returns
  have hts := atoms_spec (ws := wzX11_rounds) B.pre
  have hown : s.vm.findClass RX11 = some m.cls := findClass_of_methodNamed B.named
  have hlocks := B.notSynchronized
  subst hsz
  have hD := hD0.self (sz := s.heap.size)
  generalize hAe : va_A [(h0, .inr (10, [x_tape, x_told, x_code, x_reader, x_machine, x_length, x_latestFault, x_hasProgram, x_hasRun]))] s.heap.size = A at hD ⊢
  have hA : ∀ q : Nat, s.heap.size ≤ q → A q := fun q h => by rw [← hAe]; exact Or.inr h
  have hS : va_S A s.heap s.heap [] := va_S.rf
  have hP : va_P (dC, dI) vwCl [(h0, .inr (10, [x_tape, x_told, x_code, x_reader, x_machine, x_length, x_latestFault, x_hasProgram, x_hasRun]))] s.heap := hP
  have hl := lv_entry ([.ref h0, .int n, .int k]) (n := 3) (Nat.le_of_ble_eq_true rfl)
  rw [lg_entry_eq]
  generalize (lg_sl ([.ref h0, .int n, .int k]) ++ List.replicate (3 - (lg_sl ([.ref h0, .int n, .int k])).length) Slot.unset).toArray = ls at hl ⊢
  have hl : lv_has ls 3 [(0, .ref h0), (1, .int n), (2, .int k)] := hl
  refine lv_iload_n hx hb dX11_rounds_0 rfl (lv_at hl 1 rfl) ?_
  refine lv_if_lt (tgt := 8) hx hb dX11_rounds_1 (by decide) (fun _ => ?_) (fun c9 => absurd h1 c9)
  refine lv_iconst (v := (-1)) hx hb dX11_rounds_8 (by decide) ?_
  have hP9 := hP.sub (ws' := [(h0, .inr (10, [x_tape, x_told, x_code, x_reader, x_machine, x_length, x_latestFault, x_hasProgram, x_hasRun]))]) [0] rfl
  have hD9 := hD.sub (ws' := [(h0, .inr (10, [x_tape, x_told, x_code, x_reader, x_machine, x_length, x_latestFault, x_hasProgram, x_hasRun]))]) [0] (by decide) rfl
  have hK9 := hK.sub (tys' := []) [] rfl
  exact W.iret (v := (-1)) hx hb hr (fun t ht hW => ⟨⟨(-1), (), rfl, rfl, by rw [ht]; exact hP9, va_K.moved hW.alike hK9, hD9⟩, hS.F ht⟩) hS.2.2 dX11_rounds_9
set_option maxHeartbeats 4000000 in
set_option maxRecDepth 100000 in
theorem c_X11_rounds_b2 (l : Launch) (dC : Nat → ClassId) (dI : Nat → Nat → Nat) (sz : Nat) (h0 : Nat) (n : Int32) (k : Int32) (x_tape : Value) (x_told : Value) (x_code : Value) (x_reader : Value) (x_machine : Value) (x_length : Value) (x_latestFault : Value) (x_hasProgram : Value) (x_hasRun : Value) (h1 : ¬ n < 0) (h2 : k < 0) : Met l yX11_rounds wzX11_rounds ({ frames := 1, cells := 0, slots := 0, locals := 60 }) (va_Pc [.ref h0, .int n, .int k] (zPre dC dI sz [(h0, .inr (10, [x_tape, x_told, x_code, x_reader, x_machine, x_length, x_latestFault, x_hasProgram, x_hasRun]))] [])) (va_Qi (fun (r : Int32) (_ : Unit) => r = -1) (fun (_ : Unit) (t : State) => zPost dC dI (va_A [(h0, .inr (10, [x_tape, x_told, x_code, x_reader, x_machine, x_length, x_latestFault, x_hasProgram, x_hasRun]))] sz) [(h0, .inr (10, [x_tape, x_told, x_code, x_reader, x_machine, x_length, x_latestFault, x_hasProgram, x_hasRun]))] [] t) (va_A [(h0, .inr (10, [x_tape, x_told, x_code, x_reader, x_machine, x_length, x_latestFault, x_hasProgram, x_hasRun]))] sz)) 0 0 (va_A [(h0, .inr (10, [x_tape, x_told, x_code, x_reader, x_machine, x_length, x_latestFault, x_hasProgram, x_hasRun]))] sz) := by
  refine Met.ofW (cc := cX11_rounds) (maxL := 3) (ret := (some .int)) (by decide) rfl ?_
  intro p e s m args below meth c s₁ B hml hv
  obtain ⟨rfl, hsz, hZ, hP, hK, hD0⟩ := hv
  have hx := B.exec
  have hb := B.bytes
  have hr := B.returns
  have hts := atoms_spec (ws := wzX11_rounds) B.pre
  have hown : s.vm.findClass RX11 = some m.cls := findClass_of_methodNamed B.named
  have hlocks := B.notSynchronized
  subst hsz
  have hD := hD0.self (sz := s.heap.size)
  generalize hAe : va_A [(h0, .inr (10, [x_tape, x_told, x_code, x_reader, x_machine, x_length, x_latestFault, x_hasProgram, x_hasRun]))] s.heap.size = A at hD ⊢
  have hA : ∀ q : Nat, s.heap.size ≤ q → A q := fun q h => by rw [← hAe]; exact Or.inr h
  have hS : va_S A s.heap s.heap [] := va_S.rf
  have hP : va_P (dC, dI) vwCl [(h0, .inr (10, [x_tape, x_told, x_code, x_reader, x_machine, x_length, x_latestFault, x_hasProgram, x_hasRun]))] s.heap := hP
  have hl := lv_entry ([.ref h0, .int n, .int k]) (n := 3) (Nat.le_of_ble_eq_true rfl)
  rw [lg_entry_eq]
  generalize (lg_sl ([.ref h0, .int n, .int k]) ++ List.replicate (3 - (lg_sl ([.ref h0, .int n, .int k])).length) Slot.unset).toArray = ls at hl ⊢
  have hl : lv_has ls 3 [(0, .ref h0), (1, .int n), (2, .int k)] := hl
  refine lv_iload_n hx hb dX11_rounds_0 rfl (lv_at hl 1 rfl) ?_
  refine lv_if_lt (tgt := 8) hx hb dX11_rounds_1 (by decide) (fun c9 => absurd c9 h1) (fun _ => ?_)
  refine lv_iload_n hx hb dX11_rounds_4 rfl (lv_at hl 2 rfl) ?_
  refine lv_if_ge (tgt := 10) hx hb dX11_rounds_5 (by decide) (fun c9 => absurd c9 (Int32.not_le.mpr h2)) (fun _ => ?_)
  refine lv_iconst (v := (-1)) hx hb dX11_rounds_8 (by decide) ?_
  have hP9 := hP.sub (ws' := [(h0, .inr (10, [x_tape, x_told, x_code, x_reader, x_machine, x_length, x_latestFault, x_hasProgram, x_hasRun]))]) [0] rfl
  have hD9 := hD.sub (ws' := [(h0, .inr (10, [x_tape, x_told, x_code, x_reader, x_machine, x_length, x_latestFault, x_hasProgram, x_hasRun]))]) [0] (by decide) rfl
  have hK9 := hK.sub (tys' := []) [] rfl
  exact W.iret (v := (-1)) hx hb hr (fun t ht hW => ⟨⟨(-1), (), rfl, rfl, by rw [ht]; exact hP9, va_K.moved hW.alike hK9, hD9⟩, hS.F ht⟩) hS.2.2 dX11_rounds_9
set_option maxHeartbeats 4000000 in
set_option maxRecDepth 100000 in
theorem c_X11_rounds_ok (l : Launch) (dC : Nat → ClassId) (dI : Nat → Nat → Nat) (sz : Nat) (h0 : Nat) (n : Int32) (k : Int32) (x_tape : Value) (x_told : Value) (x_code : Value) (x_reader : Value) (x_machine : Value) (x_length : Value) (x_latestFault : Value) (x_hasProgram : Value) (x_hasRun : Value) (h1 : ¬ n < 0) (h2 : ¬ k < 0) (h3 : ¬ k = 0) : Met l yX11_rounds wzX11_rounds ({ frames := 1, cells := 0, slots := 0, locals := 60 }) (va_Pc [.ref h0, .int n, .int k] (zPre dC dI sz [(h0, .inr (10, [x_tape, x_told, x_code, x_reader, x_machine, x_length, x_latestFault, x_hasProgram, x_hasRun]))] [])) (va_Qi (fun (r : Int32) (_ : Unit) => r = zR n k) (fun (_ : Unit) (t : State) => zPost dC dI (va_A [(h0, .inr (10, [x_tape, x_told, x_code, x_reader, x_machine, x_length, x_latestFault, x_hasProgram, x_hasRun]))] sz) [(h0, .inr (10, [x_tape, x_told, x_code, x_reader, x_machine, x_length, x_latestFault, x_hasProgram, x_hasRun]))] [] t) (va_A [(h0, .inr (10, [x_tape, x_told, x_code, x_reader, x_machine, x_length, x_latestFault, x_hasProgram, x_hasRun]))] sz)) 0 0 (va_A [(h0, .inr (10, [x_tape, x_told, x_code, x_reader, x_machine, x_length, x_latestFault, x_hasProgram, x_hasRun]))] sz) := by
  refine Met.ofW (cc := cX11_rounds) (maxL := 3) (ret := (some .int)) (by decide) rfl ?_
  intro p e s m args below meth c s₁ B hml hv
  obtain ⟨rfl, hsz, hZ, hP, hK, hD0⟩ := hv
  have hx := B.exec
  have hb := B.bytes
  have hr := B.returns
  have hts := atoms_spec (ws := wzX11_rounds) B.pre
  have hown : s.vm.findClass RX11 = some m.cls := findClass_of_methodNamed B.named
  have hlocks := B.notSynchronized
  subst hsz
  have hD := hD0.self (sz := s.heap.size)
  generalize hAe : va_A [(h0, .inr (10, [x_tape, x_told, x_code, x_reader, x_machine, x_length, x_latestFault, x_hasProgram, x_hasRun]))] s.heap.size = A at hD ⊢
  have hA : ∀ q : Nat, s.heap.size ≤ q → A q := fun q h => by rw [← hAe]; exact Or.inr h
  have hS : va_S A s.heap s.heap [] := va_S.rf
  have hP : va_P (dC, dI) vwCl [(h0, .inr (10, [x_tape, x_told, x_code, x_reader, x_machine, x_length, x_latestFault, x_hasProgram, x_hasRun]))] s.heap := hP
  have hl := lv_entry ([.ref h0, .int n, .int k]) (n := 3) (Nat.le_of_ble_eq_true rfl)
  rw [lg_entry_eq]
  generalize (lg_sl ([.ref h0, .int n, .int k]) ++ List.replicate (3 - (lg_sl ([.ref h0, .int n, .int k])).length) Slot.unset).toArray = ls at hl ⊢
  have hl : lv_has ls 3 [(0, .ref h0), (1, .int n), (2, .int k)] := hl
  refine lv_iload_n hx hb dX11_rounds_0 rfl (lv_at hl 1 rfl) ?_
  refine lv_if_lt (tgt := 8) hx hb dX11_rounds_1 (by decide) (fun c9 => absurd c9 h1) (fun _ => ?_)
  refine lv_iload_n hx hb dX11_rounds_4 rfl (lv_at hl 2 rfl) ?_
  refine lv_if_ge (tgt := 10) hx hb dX11_rounds_5 (by decide) (fun _ => ?_) (fun c9 => absurd (Int32.not_lt.mp h2) c9)
  refine lv_iload_n hx hb dX11_rounds_10 rfl (lv_at hl 2 rfl) ?_
  refine lv_if_ne (tgt := 22) hx hb dX11_rounds_11 (by decide) (fun _ => ?_) (fun c9 => absurd c9 h3)
  refine lv_iload_n hx hb dX11_rounds_22 rfl (lv_at hl 1 rfl) ?_
  refine lv_iload_n hx hb dX11_rounds_23 rfl (lv_at hl 2 rfl) ?_
  refine lv_idiv hx hb dX11_rounds_24 (h3) ?_
  refine lv_topi (fun z1 ez1 => ?_)
  refine lv_iload_n hx hb dX11_rounds_25 rfl (lv_at hl 1 rfl) ?_
  refine lv_iload_n hx hb dX11_rounds_26 rfl (lv_at hl 2 rfl) ?_
  refine lv_irem hx hb dX11_rounds_27 (h3) ?_
  refine lv_topi (fun z2 ez2 => ?_)
  refine lv_if_ne (tgt := 35) hx hb dX11_rounds_28 (by decide) (fun c3 => ?_) (fun c3 => ?_)
  ·
    refine lv_iconst (v := 1) hx hb dX11_rounds_35 (by decide) ?_
    refine lv_iadd hx hb dX11_rounds_36 ?_
    refine lv_topi (fun z4 ez4 => ?_)
    have hP9 := hP.sub (ws' := [(h0, .inr (10, [x_tape, x_told, x_code, x_reader, x_machine, x_length, x_latestFault, x_hasProgram, x_hasRun]))]) [0] rfl
    have hD9 := hD.sub (ws' := [(h0, .inr (10, [x_tape, x_told, x_code, x_reader, x_machine, x_length, x_latestFault, x_hasProgram, x_hasRun]))]) [0] (by decide) rfl
    have hK9 := hK.sub (tys' := []) [] rfl
    exact W.iret (v := z4) hx hb hr (fun t ht hW => ⟨⟨z4, (), rfl, (by unfold zR; rw [if_neg (fun g => c3 (ez2.trans g))]; rw [ez4, ez1]), by rw [ht]; exact hP9, va_K.moved hW.alike hK9, hD9⟩, hS.F ht⟩) hS.2.2 dX11_rounds_37
  ·
    refine lv_iconst (v := 0) hx hb dX11_rounds_31 (by decide) ?_
    refine lv_goto (tgt := 36) hx hb dX11_rounds_32 (by decide) ?_
    refine lv_iadd hx hb dX11_rounds_36 ?_
    refine lv_topi (fun z5 ez5 => ?_)
    have hP9 := hP.sub (ws' := [(h0, .inr (10, [x_tape, x_told, x_code, x_reader, x_machine, x_length, x_latestFault, x_hasProgram, x_hasRun]))]) [0] rfl
    have hD9 := hD.sub (ws' := [(h0, .inr (10, [x_tape, x_told, x_code, x_reader, x_machine, x_length, x_latestFault, x_hasProgram, x_hasRun]))]) [0] (by decide) rfl
    have hK9 := hK.sub (tys' := []) [] rfl
    exact W.iret (v := z5) hx hb hr (fun t ht hW => ⟨⟨z5, (), rfl, (by unfold zR; rw [if_pos (ez2.symm.trans c3)]; rw [ez5, ez1]), by rw [ht]; exact hP9, va_K.moved hW.alike hK9, hD9⟩, hS.F ht⟩) hS.2.2 dX11_rounds_37
def zTB : List Cond := [.castable "java/lang/ArithmeticException" "java/lang/ArithmeticException", .declares ⟨"java/lang/RuntimeException", "<init>", "()V"⟩, .declares ⟨"java/lang/Exception", "<init>", "()V"⟩, .declares ⟨"java/lang/Throwable", "<init>", "()V"⟩]
def zIsT : Cond → Bool
  | .castable .. => true
  | .declares .. => true
  | _ => false
theorem zTB_is : zTB.all zIsT = true := by decide +kernel
theorem zTB_all : ∀ w ∈ (vx_at0 RX11 150 "java/lang/ArithmeticException" ["java/lang/RuntimeException", "java/lang/Exception"]).filter (fun w => !goodWord w), w ∈ zTB := by decide +kernel
theorem zTB_ot : (Cond.classLink RX11 148 "java/lang/ArithmeticException" :: Cond.initialized "java/lang/ArithmeticException" :: (vx_at0 RX11 150 "java/lang/ArithmeticException" ["java/lang/RuntimeException", "java/lang/Exception"])).all vx_ot = true := by decide +kernel
/-- what a throw asks of the start: some words, two statics outside A -/
def zTHR (A : Nat → Prop) (U : State) (H : Heap) : Prop := (∀ w ∈ zTB, va_Nw w U) ∧ vx_Zq Bundle.tN "UNASSIGNED_STACK" Bundle.steD A U H ∧ vx_Zq Bundle.tN "SUPPRESSED_SENTINEL" Bundle.listD A U H
theorem zT_warm {w : Cond} (hw : zIsT w = true) {s U : State} (hW : s.WarmedH U.vm) (h : va_Nw w s) : va_Nw w U := by
  cases w <;> first | exact va_Nw.warmC hW h | exact va_Nw.warmD hW h | (simp [zIsT] at hw)
theorem zT_same {w : Cond} (hw : zIsT w = true) {u U : State} (hv : u.vm = U.vm) (h : va_Nw w u) : va_Nw w U := by
  cases w <;> first | exact va_Nw.same rfl hv h | (simp [zIsT] at hw)
theorem zT_use {w : Cond} (hw : zIsT w = true) {a : Array Value} {U : State} (h : va_Nw w U) : w.before a U = true := by
  cases w <;> first | exact va_Nw.use rfl h | (simp [zIsT] at hw)
theorem zTHR.kept {A : Nat → Prop} {U : State} {H H1 : Heap} (h : zTHR A U H) (hq : ∀ a : Nat, a < H.size → ¬ A a → H1[a]? = H[a]?) : zTHR A U H1 := ⟨h.1, h.2.1.kept hq, h.2.2.kept hq⟩
theorem zTHR.narrow {A B : Nat → Prop} {U : State} {H : Heap} (h : zTHR A U H) (hq : ∀ q, B q → A q) : zTHR B U H := ⟨h.1, h.2.1.narrow hq, h.2.2.narrow hq⟩
theorem zTHR.warm {A : Nat → Prop} {s U : State} {H : Heap} (hW : s.WarmedH U.vm) (h : zTHR A s H) : zTHR A U H := ⟨fun w hw => zT_warm (List.all_eq_true.mp zTB_is w hw) hW (h.1 w hw), vx_Zq.moved hW.alike h.2.1, vx_Zq.moved hW.alike h.2.2⟩
theorem zTHR.calling {A : Nat → Prop} {U : State} {H : Heap} {g : JFrame} {mk : MethodId} {a : Array Value} (h : zTHR A U H) : zTHR A (U.calling g mk a) H := ⟨fun w hw => zT_same (u := U) (U := U.calling g mk a) (List.all_eq_true.mp zTB_is w hw) rfl (h.1 w hw), vx_Zq.moved (u := U) (U := U.calling g mk a) (Vm.Alike.refl U.vm) h.2.1, vx_Zq.moved (u := U) (U := U.calling g mk a) (Vm.Alike.refl U.vm) h.2.2⟩
def zPreT (dC : Nat → ClassId) (dI : Nat → Nat → Nat) (sz : Nat) (W0 : va_W) (tys : List (ClassId × FieldType)) (U : State) : Prop :=
  zPre dC dI sz W0 tys U ∧ zTHR (va_A W0 sz) U U.heap
theorem zPreT.blind {av : List Value} {dC : Nat → ClassId} {dI : Nat → Nat → Nat} {sz : Nat} {W0 : va_W} {tys : List (ClassId × FieldType)} : FrameBlind (va_Pc av (zPreT dC dI sz W0 tys)) := by
  intro a U g mk q
  obtain ⟨q0, q1, q2⟩ := q
  have q3 : va_Pc av (zPre dC dI sz W0 tys) a (U.calling g mk a) := zPre.blind a U g mk ⟨q0, q1⟩
  exact ⟨q0, q3.2, q2.calling⟩
theorem zPreT.go {av : List Value} {dC : Nat → ClassId} {dI : Nat → Nat → Nat} {W0 : va_W} {tys : List (ClassId × FieldType)} {s : State} {H : Heap} {locs : List Loc} {A : Nat → Prop} (hX : zTHR A s s.heap) (hS : va_S A s.heap H locs) (hF : ∀ q, va_A W0 H.size q → A q) (hZ : zAMB s) (hP : va_P (dC, dI) vwCl W0 H) (hK : va_K (dC, dI) vwCl tys s) (hD : va_D A W0) :
    ∀ U : State, U.heap = H → s.WarmedH U.vm → va_Pc av (zPreT dC dI H.size W0 tys) av.toArray U :=
  fun U hU hW => ⟨rfl, (zPre.go (av := av) hZ hP hK hD U hU hW).2, by rw [hU]; exact ((hX.kept hS.2.1).narrow hF).warm hW⟩
theorem k_X11_rounds_classLink_RX11_148_java_lang_ArithmeticException : Cond.classLink RX11 148 "java/lang/ArithmeticException" ∈ wzX11_rounds := List.mem_cons_of_mem _ (List.mem_append_left _ (List.mem_of_getElem? (i := 0) rfl))
theorem k_X11_rounds_initialized_java_lang_ArithmeticException : Cond.initialized "java/lang/ArithmeticException" ∈ wzX11_rounds := List.mem_cons_of_mem _ (List.mem_append_left _ (List.mem_of_getElem? (i := 1) rfl))
set_option maxHeartbeats 4000000 in
set_option maxRecDepth 100000 in
theorem c_X11_rounds_z (l : Launch) (dC : Nat → ClassId) (dI : Nat → Nat → Nat) (sz : Nat) (h0 : Nat) (n : Int32) (x_tape : Value) (x_told : Value) (x_code : Value) (x_reader : Value) (x_machine : Value) (x_length : Value) (x_latestFault : Value) (x_hasProgram : Value) (x_hasRun : Value) (hl9 : l.stackTraces = false) (h1 : ¬ n < 0) : vx_Met l yX11_rounds wzX11_rounds ({ frames := 7, cells := 1, slots := 6, locals := 420 }) (va_Pc [.ref h0, .int n, .int 0] (zPreT dC dI sz [(h0, .inr (10, [x_tape, x_told, x_code, x_reader, x_machine, x_length, x_latestFault, x_hasProgram, x_hasRun]))] [])) (va_Qi (fun (r : Int32) (_ : Unit) => False) (fun (_ : Unit) (t : State) => zPost dC dI (va_A [(h0, .inr (10, [x_tape, x_told, x_code, x_reader, x_machine, x_length, x_latestFault, x_hasProgram, x_hasRun]))] sz) [] [] t) (va_A [(h0, .inr (10, [x_tape, x_told, x_code, x_reader, x_machine, x_length, x_latestFault, x_hasProgram, x_hasRun]))] sz)) (vx_X (fun (_ : Unit) => True) (fun (E : String) (_ : Unit) (_ : State) => E = "java/lang/ArithmeticException") (va_A [] sz)) 1 6 (va_A [(h0, .inr (10, [x_tape, x_told, x_code, x_reader, x_machine, x_length, x_latestFault, x_hasProgram, x_hasRun]))] sz) := by
  refine vx_ofW (cc := cX11_rounds) (maxL := 3) (ret := (some .int)) (by decide) rfl ?_
  intro p e s m args below meth c s₁ B hml htab hv
  obtain ⟨rfl, ⟨hsz, hZ, hP, hK, hD0⟩, hX⟩ := hv
  have hx := B.exec
  have hb := B.bytes
  have hr := B.returns
  have hts := atoms_spec (ws := wzX11_rounds) B.pre
  have hown : s.vm.findClass RX11 = some m.cls := findClass_of_methodNamed B.named
  have hlocks := B.notSynchronized
  subst hsz
  have hD := hD0.self (sz := s.heap.size)
  generalize hAe : va_A [(h0, .inr (10, [x_tape, x_told, x_code, x_reader, x_machine, x_length, x_latestFault, x_hasProgram, x_hasRun]))] s.heap.size = A at hD hX ⊢
  have hA : ∀ q : Nat, s.heap.size ≤ q → A q := fun q h => by rw [← hAe]; exact Or.inr h
  have hS : va_S A s.heap s.heap [] := va_S.rf
  have hP : va_P (dC, dI) vwCl [(h0, .inr (10, [x_tape, x_told, x_code, x_reader, x_machine, x_length, x_latestFault, x_hasProgram, x_hasRun]))] s.heap := hP
  have hl := lv_entry ([.ref h0, .int n, .int 0]) (n := 3) (Nat.le_of_ble_eq_true rfl)
  rw [lg_entry_eq]
  generalize (lg_sl ([.ref h0, .int n, .int 0]) ++ List.replicate (3 - (lg_sl ([.ref h0, .int n, .int 0])).length) Slot.unset).toArray = ls at hl ⊢
  have hl : lv_has ls 3 [(0, .ref h0), (1, .int n), (2, .int 0)] := hl
  refine lv_iload_n hx hb dX11_rounds_0 rfl (lv_at hl 1 rfl) ?_
  refine lv_if_lt (tgt := 8) hx hb dX11_rounds_1 (by decide) (fun c9 => absurd c9 h1) (fun _ => ?_)
  refine lv_iload_n hx hb dX11_rounds_4 rfl (lv_at hl 2 rfl) ?_
  refine lv_if_ge (tgt := 10) hx hb dX11_rounds_5 (by decide) (fun _ => ?_) (fun c9 => absurd (by decide) c9)
  refine lv_iload_n hx hb dX11_rounds_10 rfl (lv_at hl 2 rfl) ?_
  refine lv_if_ne (tgt := 22) hx hb dX11_rounds_11 (by decide) (fun c9 => absurd (by decide) c9) (fun _ => ?_)
  have hat : ∀ w ∈ (vx_at0 RX11 150 "java/lang/ArithmeticException" ["java/lang/RuntimeException", "java/lang/Exception"]), w.before _ s = true := vx_hat (fun w h => hts w (List.mem_cons_of_mem _ (List.mem_append_right _ (List.mem_append_left _ (h))))) zTB_all (fun w h => zT_use (List.all_eq_true.mp zTB_is w h) (hX.1 w h))
  exact vx_throw0 (A := A) hx hb hl9 (own := RX11) (cls := "java/lang/ArithmeticException") (names := ["java/lang/RuntimeException", "java/lang/Exception"]) (ik := 148) (ic := 150) hown (by decide) (by decide) (hts (.classLink RX11 148 "java/lang/ArithmeticException") k_X11_rounds_classLink_RX11_148_java_lang_ArithmeticException) (hts (.initialized "java/lang/ArithmeticException") k_X11_rounds_initialized_java_lang_ArithmeticException) hat (fun w h => List.all_eq_true.mp zTB_ot w h) hX.2.1 hX.2.2 hS (hl.1.trans hml.symm) dX11_rounds_14 dX11_rounds_17 dX11_rounds_18 dX11_rounds_21 (fun x h => (htab x h).elim) (by decide) (by decide) (by decide) (by decide) hlocks (fun t _ h5 h6 => ⟨(), trivial, rfl, h5, fun q hq _ => h6 q hq⟩) (fun z h => nomatch h) (by decide) (by decide)
set_option maxHeartbeats 4000000 in
set_option maxRecDepth 100000 in
theorem c_L_rounds_b1 (l : Launch) (dC : Nat → ClassId) (dI : Nat → Nat → Nat) (sz : Nat) (h0 : Nat) (n : Int32) (k : Int32) (qo : Nat) (ko : ClassId) (fo : Nat → Int64) (x_tape : Value) (x_told : Value) (x_code : Value) (x_reader : Value) (x_machine : Value) (x_length : Value) (x_latestFault : Value) (x_hasProgram : Value) (x_hasRun : Value) (h1 : n < 0) : Met l yL_rounds wzL_rounds ({ frames := 2, cells := 0, slots := 0, locals := 120 }) (va_Pc [.ref h0, .int n, .int k, .ref qo] (zPre dC dI sz [(h0, .inr (10, [x_tape, x_told, x_code, x_reader, x_machine, x_length, x_latestFault, x_hasProgram, x_hasRun])), (qo, .inl (ko, 1, .inr (.inl fo)))] [(ko, .long)])) (va_Qi (fun (r : Int32) (_ : Unit) => r = 0) (fun (_ : Unit) (t : State) => zPost dC dI (va_A [(h0, .inr (10, [x_tape, x_told, x_code, x_reader, x_machine, x_length, x_latestFault, x_hasProgram, x_hasRun])), (qo, .inl (ko, 1, .inr (.inl fo)))] sz) [(h0, .inr (10, [x_tape, x_told, x_code, x_reader, x_machine, x_length, x_latestFault, x_hasProgram, x_hasRun])), (qo, .inl (ko, 1, .inr (.inl (vp_updL fo 0 (-1)))))] [(ko, .long)] t) (va_A [(h0, .inr (10, [x_tape, x_told, x_code, x_reader, x_machine, x_length, x_latestFault, x_hasProgram, x_hasRun])), (qo, .inl (ko, 1, .inr (.inl fo)))] sz)) 0 0 (va_A [(h0, .inr (10, [x_tape, x_told, x_code, x_reader, x_machine, x_length, x_latestFault, x_hasProgram, x_hasRun])), (qo, .inl (ko, 1, .inr (.inl fo)))] sz) := by
  refine va_MetW (hh := [(0, 10, 13, 13)]) (cc := cL_rounds) (maxL := 5) (ret := (some .int)) (by decide) rfl ?_
  intro p e s m args below meth c s₁ B hml hv
  obtain ⟨rfl, hsz, hZ, hP, hK, hD0⟩ := hv
  have hx := B.exec
  have hb := B.bytes
  have hr := B.returns
  have hts := atoms_spec (ws := wzL_rounds) B.pre
  have hown : s.vm.findClass RL = some m.cls := findClass_of_methodNamed B.named
  have hlocks := B.notSynchronized
  subst hsz
  have hD := hD0.self (sz := s.heap.size)
  generalize hAe : va_A [(h0, .inr (10, [x_tape, x_told, x_code, x_reader, x_machine, x_length, x_latestFault, x_hasProgram, x_hasRun])), (qo, .inl (ko, 1, .inr (.inl fo)))] s.heap.size = A at hD ⊢
  have hA : ∀ q : Nat, s.heap.size ≤ q → A q := fun q h => by rw [← hAe]; exact Or.inr h
  have hS : va_S A s.heap s.heap [] := va_S.rf
  have hP : va_P (dC, dI) vwCl [(h0, .inr (10, [x_tape, x_told, x_code, x_reader, x_machine, x_length, x_latestFault, x_hasProgram, x_hasRun])), (qo, .inl (ko, 1, .inr (.inl fo)))] s.heap := hP
  have hl := lv_entry ([.ref h0, .int n, .int k, .ref qo]) (n := 5) (Nat.le_of_ble_eq_true rfl)
  rw [lg_entry_eq]
  generalize (lg_sl ([.ref h0, .int n, .int k, .ref qo]) ++ List.replicate (5 - (lg_sl ([.ref h0, .int n, .int k, .ref qo])).length) Slot.unset).toArray = ls at hl ⊢
  have hl : lv_has ls 5 [(0, .ref h0), (1, .int n), (2, .int k), (3, .ref qo)] := hl
  refine lv_aload_n hx hb dL_rounds_0 rfl (lv_at hl 3 rfl) ?_
  refine lv_iconst (v := 0) hx hb dL_rounds_1 (by decide) ?_
  refine lv_aload_n hx hb dL_rounds_2 rfl (lv_at hl 0 rfl) ?_
  refine lv_iload_n hx hb dL_rounds_3 rfl (lv_at hl 1 rfl) ?_
  refine lv_iload_n hx hb dL_rounds_4 rfl (lv_at hl 2 rfl) ?_
  have hPc := hP.sub (ws' := [(h0, .inr (10, [x_tape, x_told, x_code, x_reader, x_machine, x_length, x_latestFault, x_hasProgram, x_hasRun]))]) [0] rfl
  have hDc := hD.sub (ws' := [(h0, .inr (10, [x_tape, x_told, x_code, x_reader, x_machine, x_length, x_latestFault, x_hasProgram, x_hasRun]))]) [0] (by decide) rfl
  have hKc := hK.sub (tys' := []) [] rfl
  have hFc := va_free (wc := [(h0, .inr (10, [x_tape, x_told, x_code, x_reader, x_machine, x_length, x_latestFault, x_hasProgram, x_hasRun]))]) hD hS hA [0] rfl
  refine va_calli (va_runV (As := [.int n, .int k]) (rest := [.int 0, .ref qo]) ⟨hx, hb, hml, hown, hts⟩ (c_X11_rounds_b1 l dC dI _ h0 n k x_tape x_told x_code x_reader x_machine x_length x_latestFault x_hasProgram x_hasRun h1) (cwV 2 hts hL_rounds_X11_rounds_v7 rfl rfl rfl (by decide +kernel) ⟨Nat.le_of_ble_eq_true rfl, Nat.le_of_ble_eq_true rfl⟩) ⟨zPre.blind, va_recv hKc hPc (ci := 10) (q0 := 0) rfl rfl, zPre.go hZ hPc hKc hDc⟩ rfl rfl hl.1 rfl (lv_room (Nat.le_of_ble_eq_true rfl)) dL_rounds_5 ⟨Nat.le_of_ble_eq_true rfl, Nat.le_of_ble_eq_true rfl⟩) hS (fun q _ h => hFc q h) hFc (fun r1 u9 t9 H1 locs ht hvm hw hB hz1 hk1 hS => ?_)
  obtain ⟨hP1, hK1, hD1⟩ := hB
  rw [ht] at hP1
  have hK1 := va_K.moved hvm.symm hK1
  obtain ⟨hP, hD⟩ := va_join (wr := [(qo, .inl (ko, 1, .inr (.inl fo)))]) (w1 := [(h0, .inr (10, [x_tape, x_told, x_code, x_reader, x_machine, x_length, x_latestFault, x_hasProgram, x_hasRun]))]) hP hD [0] [1] rfl rfl (by decide) (by decide) hk1 hFc hP1 hD1
  have hK := hK.app hK1
  generalize H1 = H at hP hS ⊢
  have hP : va_P (dC, dI) vwCl [(qo, .inl (ko, 1, .inr (.inl fo))), (h0, .inr (10, [x_tape, x_told, x_code, x_reader, x_machine, x_length, x_latestFault, x_hasProgram, x_hasRun]))] H := hP
  have hD : va_D A [(qo, .inl (ko, 1, .inr (.inl fo))), (h0, .inr (10, [x_tape, x_told, x_code, x_reader, x_machine, x_length, x_latestFault, x_hasProgram, x_hasRun]))] := hD
  have hK : va_K (dC, dI) vwCl [(ko, .long)] s := hK
  obtain rfl : r1 = (-1) := hw
  refine lv_i2l (v := -1) hx hb dL_rounds_8 (by decide) ?_
  refine va_last hx hb hK hP hD hS 0 0 rfl rfl (by unfold vp_in; decide) dL_rounds_9 (fun H locs hP hD hS => ?_)
  have hP : va_P (dC, dI) vwCl [(qo, .inl (ko, 1, .inr (.inl (vp_updL fo 0 (-1))))), (h0, .inr (10, [x_tape, x_told, x_code, x_reader, x_machine, x_length, x_latestFault, x_hasProgram, x_hasRun]))] H := hP
  have hD : va_D A [(qo, .inl (ko, 1, .inr (.inl (vp_updL fo 0 (-1))))), (h0, .inr (10, [x_tape, x_told, x_code, x_reader, x_machine, x_length, x_latestFault, x_hasProgram, x_hasRun]))] := hD
  refine lv_goto (tgt := 17) hx hb dL_rounds_10 (by decide) ?_
  refine lv_iconst (v := 0) hx hb dL_rounds_17 (by decide) ?_
  have hP9 := hP.sub (ws' := [(h0, .inr (10, [x_tape, x_told, x_code, x_reader, x_machine, x_length, x_latestFault, x_hasProgram, x_hasRun])), (qo, .inl (ko, 1, .inr (.inl (vp_updL fo 0 (-1)))))]) [1, 0] rfl
  have hD9 := hD.sub (ws' := [(h0, .inr (10, [x_tape, x_told, x_code, x_reader, x_machine, x_length, x_latestFault, x_hasProgram, x_hasRun])), (qo, .inl (ko, 1, .inr (.inl (vp_updL fo 0 (-1)))))]) [1, 0] (by decide) rfl
  have hK9 := hK.sub (tys' := [(ko, .long)]) [0] rfl
  exact W.iret (v := 0) hx hb hr (fun t ht hW => ⟨⟨0, (), rfl, rfl, by rw [ht]; exact hP9, va_K.moved hW.alike hK9, hD9⟩, hS.F ht⟩) hS.2.2 dL_rounds_18
set_option maxHeartbeats 4000000 in
set_option maxRecDepth 100000 in
theorem c_L_rounds_b2 (l : Launch) (dC : Nat → ClassId) (dI : Nat → Nat → Nat) (sz : Nat) (h0 : Nat) (n : Int32) (k : Int32) (qo : Nat) (ko : ClassId) (fo : Nat → Int64) (x_tape : Value) (x_told : Value) (x_code : Value) (x_reader : Value) (x_machine : Value) (x_length : Value) (x_latestFault : Value) (x_hasProgram : Value) (x_hasRun : Value) (h1 : ¬ n < 0) (h2 : k < 0) : Met l yL_rounds wzL_rounds ({ frames := 2, cells := 0, slots := 0, locals := 120 }) (va_Pc [.ref h0, .int n, .int k, .ref qo] (zPre dC dI sz [(h0, .inr (10, [x_tape, x_told, x_code, x_reader, x_machine, x_length, x_latestFault, x_hasProgram, x_hasRun])), (qo, .inl (ko, 1, .inr (.inl fo)))] [(ko, .long)])) (va_Qi (fun (r : Int32) (_ : Unit) => r = 0) (fun (_ : Unit) (t : State) => zPost dC dI (va_A [(h0, .inr (10, [x_tape, x_told, x_code, x_reader, x_machine, x_length, x_latestFault, x_hasProgram, x_hasRun])), (qo, .inl (ko, 1, .inr (.inl fo)))] sz) [(h0, .inr (10, [x_tape, x_told, x_code, x_reader, x_machine, x_length, x_latestFault, x_hasProgram, x_hasRun])), (qo, .inl (ko, 1, .inr (.inl (vp_updL fo 0 (-1)))))] [(ko, .long)] t) (va_A [(h0, .inr (10, [x_tape, x_told, x_code, x_reader, x_machine, x_length, x_latestFault, x_hasProgram, x_hasRun])), (qo, .inl (ko, 1, .inr (.inl fo)))] sz)) 0 0 (va_A [(h0, .inr (10, [x_tape, x_told, x_code, x_reader, x_machine, x_length, x_latestFault, x_hasProgram, x_hasRun])), (qo, .inl (ko, 1, .inr (.inl fo)))] sz) := by
  refine va_MetW (hh := [(0, 10, 13, 13)]) (cc := cL_rounds) (maxL := 5) (ret := (some .int)) (by decide) rfl ?_
  intro p e s m args below meth c s₁ B hml hv
  obtain ⟨rfl, hsz, hZ, hP, hK, hD0⟩ := hv
  have hx := B.exec
  have hb := B.bytes
  have hr := B.returns
  have hts := atoms_spec (ws := wzL_rounds) B.pre
  have hown : s.vm.findClass RL = some m.cls := findClass_of_methodNamed B.named
  have hlocks := B.notSynchronized
  subst hsz
  have hD := hD0.self (sz := s.heap.size)
  generalize hAe : va_A [(h0, .inr (10, [x_tape, x_told, x_code, x_reader, x_machine, x_length, x_latestFault, x_hasProgram, x_hasRun])), (qo, .inl (ko, 1, .inr (.inl fo)))] s.heap.size = A at hD ⊢
  have hA : ∀ q : Nat, s.heap.size ≤ q → A q := fun q h => by rw [← hAe]; exact Or.inr h
  have hS : va_S A s.heap s.heap [] := va_S.rf
  have hP : va_P (dC, dI) vwCl [(h0, .inr (10, [x_tape, x_told, x_code, x_reader, x_machine, x_length, x_latestFault, x_hasProgram, x_hasRun])), (qo, .inl (ko, 1, .inr (.inl fo)))] s.heap := hP
  have hl := lv_entry ([.ref h0, .int n, .int k, .ref qo]) (n := 5) (Nat.le_of_ble_eq_true rfl)
  rw [lg_entry_eq]
  generalize (lg_sl ([.ref h0, .int n, .int k, .ref qo]) ++ List.replicate (5 - (lg_sl ([.ref h0, .int n, .int k, .ref qo])).length) Slot.unset).toArray = ls at hl ⊢
  have hl : lv_has ls 5 [(0, .ref h0), (1, .int n), (2, .int k), (3, .ref qo)] := hl
  refine lv_aload_n hx hb dL_rounds_0 rfl (lv_at hl 3 rfl) ?_
  refine lv_iconst (v := 0) hx hb dL_rounds_1 (by decide) ?_
  refine lv_aload_n hx hb dL_rounds_2 rfl (lv_at hl 0 rfl) ?_
  refine lv_iload_n hx hb dL_rounds_3 rfl (lv_at hl 1 rfl) ?_
  refine lv_iload_n hx hb dL_rounds_4 rfl (lv_at hl 2 rfl) ?_
  have hPc := hP.sub (ws' := [(h0, .inr (10, [x_tape, x_told, x_code, x_reader, x_machine, x_length, x_latestFault, x_hasProgram, x_hasRun]))]) [0] rfl
  have hDc := hD.sub (ws' := [(h0, .inr (10, [x_tape, x_told, x_code, x_reader, x_machine, x_length, x_latestFault, x_hasProgram, x_hasRun]))]) [0] (by decide) rfl
  have hKc := hK.sub (tys' := []) [] rfl
  have hFc := va_free (wc := [(h0, .inr (10, [x_tape, x_told, x_code, x_reader, x_machine, x_length, x_latestFault, x_hasProgram, x_hasRun]))]) hD hS hA [0] rfl
  refine va_calli (va_runV (As := [.int n, .int k]) (rest := [.int 0, .ref qo]) ⟨hx, hb, hml, hown, hts⟩ (c_X11_rounds_b2 l dC dI _ h0 n k x_tape x_told x_code x_reader x_machine x_length x_latestFault x_hasProgram x_hasRun h1 h2) (cwV 2 hts hL_rounds_X11_rounds_v7 rfl rfl rfl (by decide +kernel) ⟨Nat.le_of_ble_eq_true rfl, Nat.le_of_ble_eq_true rfl⟩) ⟨zPre.blind, va_recv hKc hPc (ci := 10) (q0 := 0) rfl rfl, zPre.go hZ hPc hKc hDc⟩ rfl rfl hl.1 rfl (lv_room (Nat.le_of_ble_eq_true rfl)) dL_rounds_5 ⟨Nat.le_of_ble_eq_true rfl, Nat.le_of_ble_eq_true rfl⟩) hS (fun q _ h => hFc q h) hFc (fun r1 u9 t9 H1 locs ht hvm hw hB hz1 hk1 hS => ?_)
  obtain ⟨hP1, hK1, hD1⟩ := hB
  rw [ht] at hP1
  have hK1 := va_K.moved hvm.symm hK1
  obtain ⟨hP, hD⟩ := va_join (wr := [(qo, .inl (ko, 1, .inr (.inl fo)))]) (w1 := [(h0, .inr (10, [x_tape, x_told, x_code, x_reader, x_machine, x_length, x_latestFault, x_hasProgram, x_hasRun]))]) hP hD [0] [1] rfl rfl (by decide) (by decide) hk1 hFc hP1 hD1
  have hK := hK.app hK1
  generalize H1 = H at hP hS ⊢
  have hP : va_P (dC, dI) vwCl [(qo, .inl (ko, 1, .inr (.inl fo))), (h0, .inr (10, [x_tape, x_told, x_code, x_reader, x_machine, x_length, x_latestFault, x_hasProgram, x_hasRun]))] H := hP
  have hD : va_D A [(qo, .inl (ko, 1, .inr (.inl fo))), (h0, .inr (10, [x_tape, x_told, x_code, x_reader, x_machine, x_length, x_latestFault, x_hasProgram, x_hasRun]))] := hD
  have hK : va_K (dC, dI) vwCl [(ko, .long)] s := hK
  obtain rfl : r1 = (-1) := hw
  refine lv_i2l (v := -1) hx hb dL_rounds_8 (by decide) ?_
  refine va_last hx hb hK hP hD hS 0 0 rfl rfl (by unfold vp_in; decide) dL_rounds_9 (fun H locs hP hD hS => ?_)
  have hP : va_P (dC, dI) vwCl [(qo, .inl (ko, 1, .inr (.inl (vp_updL fo 0 (-1))))), (h0, .inr (10, [x_tape, x_told, x_code, x_reader, x_machine, x_length, x_latestFault, x_hasProgram, x_hasRun]))] H := hP
  have hD : va_D A [(qo, .inl (ko, 1, .inr (.inl (vp_updL fo 0 (-1))))), (h0, .inr (10, [x_tape, x_told, x_code, x_reader, x_machine, x_length, x_latestFault, x_hasProgram, x_hasRun]))] := hD
  refine lv_goto (tgt := 17) hx hb dL_rounds_10 (by decide) ?_
  refine lv_iconst (v := 0) hx hb dL_rounds_17 (by decide) ?_
  have hP9 := hP.sub (ws' := [(h0, .inr (10, [x_tape, x_told, x_code, x_reader, x_machine, x_length, x_latestFault, x_hasProgram, x_hasRun])), (qo, .inl (ko, 1, .inr (.inl (vp_updL fo 0 (-1)))))]) [1, 0] rfl
  have hD9 := hD.sub (ws' := [(h0, .inr (10, [x_tape, x_told, x_code, x_reader, x_machine, x_length, x_latestFault, x_hasProgram, x_hasRun])), (qo, .inl (ko, 1, .inr (.inl (vp_updL fo 0 (-1)))))]) [1, 0] (by decide) rfl
  have hK9 := hK.sub (tys' := [(ko, .long)]) [0] rfl
  exact W.iret (v := 0) hx hb hr (fun t ht hW => ⟨⟨0, (), rfl, rfl, by rw [ht]; exact hP9, va_K.moved hW.alike hK9, hD9⟩, hS.F ht⟩) hS.2.2 dL_rounds_18
set_option maxHeartbeats 4000000 in
set_option maxRecDepth 100000 in
theorem c_L_rounds_ok (l : Launch) (dC : Nat → ClassId) (dI : Nat → Nat → Nat) (sz : Nat) (h0 : Nat) (n : Int32) (k : Int32) (qo : Nat) (ko : ClassId) (fo : Nat → Int64) (x_tape : Value) (x_told : Value) (x_code : Value) (x_reader : Value) (x_machine : Value) (x_length : Value) (x_latestFault : Value) (x_hasProgram : Value) (x_hasRun : Value) (h1 : ¬ n < 0) (h2 : ¬ k < 0) (h3 : ¬ k = 0) : Met l yL_rounds wzL_rounds ({ frames := 2, cells := 0, slots := 0, locals := 120 }) (va_Pc [.ref h0, .int n, .int k, .ref qo] (zPre dC dI sz [(h0, .inr (10, [x_tape, x_told, x_code, x_reader, x_machine, x_length, x_latestFault, x_hasProgram, x_hasRun])), (qo, .inl (ko, 1, .inr (.inl fo)))] [(ko, .long)])) (va_Qi (fun (r : Int32) (_ : Unit) => r = 0) (fun (_ : Unit) (t : State) => zPost dC dI (va_A [(h0, .inr (10, [x_tape, x_told, x_code, x_reader, x_machine, x_length, x_latestFault, x_hasProgram, x_hasRun])), (qo, .inl (ko, 1, .inr (.inl fo)))] sz) [(h0, .inr (10, [x_tape, x_told, x_code, x_reader, x_machine, x_length, x_latestFault, x_hasProgram, x_hasRun])), (qo, .inl (ko, 1, .inr (.inl (vp_updL fo 0 (((zR n k) : Int32).toInt64)))))] [(ko, .long)] t) (va_A [(h0, .inr (10, [x_tape, x_told, x_code, x_reader, x_machine, x_length, x_latestFault, x_hasProgram, x_hasRun])), (qo, .inl (ko, 1, .inr (.inl fo)))] sz)) 0 0 (va_A [(h0, .inr (10, [x_tape, x_told, x_code, x_reader, x_machine, x_length, x_latestFault, x_hasProgram, x_hasRun])), (qo, .inl (ko, 1, .inr (.inl fo)))] sz) := by
  refine va_MetW (hh := [(0, 10, 13, 13)]) (cc := cL_rounds) (maxL := 5) (ret := (some .int)) (by decide) rfl ?_
  intro p e s m args below meth c s₁ B hml hv
  obtain ⟨rfl, hsz, hZ, hP, hK, hD0⟩ := hv
  have hx := B.exec
  have hb := B.bytes
  have hr := B.returns
  have hts := atoms_spec (ws := wzL_rounds) B.pre
  have hown : s.vm.findClass RL = some m.cls := findClass_of_methodNamed B.named
  have hlocks := B.notSynchronized
  subst hsz
  have hD := hD0.self (sz := s.heap.size)
  generalize hAe : va_A [(h0, .inr (10, [x_tape, x_told, x_code, x_reader, x_machine, x_length, x_latestFault, x_hasProgram, x_hasRun])), (qo, .inl (ko, 1, .inr (.inl fo)))] s.heap.size = A at hD ⊢
  have hA : ∀ q : Nat, s.heap.size ≤ q → A q := fun q h => by rw [← hAe]; exact Or.inr h
  have hS : va_S A s.heap s.heap [] := va_S.rf
  have hP : va_P (dC, dI) vwCl [(h0, .inr (10, [x_tape, x_told, x_code, x_reader, x_machine, x_length, x_latestFault, x_hasProgram, x_hasRun])), (qo, .inl (ko, 1, .inr (.inl fo)))] s.heap := hP
  have hl := lv_entry ([.ref h0, .int n, .int k, .ref qo]) (n := 5) (Nat.le_of_ble_eq_true rfl)
  rw [lg_entry_eq]
  generalize (lg_sl ([.ref h0, .int n, .int k, .ref qo]) ++ List.replicate (5 - (lg_sl ([.ref h0, .int n, .int k, .ref qo])).length) Slot.unset).toArray = ls at hl ⊢
  have hl : lv_has ls 5 [(0, .ref h0), (1, .int n), (2, .int k), (3, .ref qo)] := hl
  refine lv_aload_n hx hb dL_rounds_0 rfl (lv_at hl 3 rfl) ?_
  refine lv_iconst (v := 0) hx hb dL_rounds_1 (by decide) ?_
  refine lv_aload_n hx hb dL_rounds_2 rfl (lv_at hl 0 rfl) ?_
  refine lv_iload_n hx hb dL_rounds_3 rfl (lv_at hl 1 rfl) ?_
  refine lv_iload_n hx hb dL_rounds_4 rfl (lv_at hl 2 rfl) ?_
  have hPc := hP.sub (ws' := [(h0, .inr (10, [x_tape, x_told, x_code, x_reader, x_machine, x_length, x_latestFault, x_hasProgram, x_hasRun]))]) [0] rfl
  have hDc := hD.sub (ws' := [(h0, .inr (10, [x_tape, x_told, x_code, x_reader, x_machine, x_length, x_latestFault, x_hasProgram, x_hasRun]))]) [0] (by decide) rfl
  have hKc := hK.sub (tys' := []) [] rfl
  have hFc := va_free (wc := [(h0, .inr (10, [x_tape, x_told, x_code, x_reader, x_machine, x_length, x_latestFault, x_hasProgram, x_hasRun]))]) hD hS hA [0] rfl
  refine va_calli (va_runV (As := [.int n, .int k]) (rest := [.int 0, .ref qo]) ⟨hx, hb, hml, hown, hts⟩ (c_X11_rounds_ok l dC dI _ h0 n k x_tape x_told x_code x_reader x_machine x_length x_latestFault x_hasProgram x_hasRun h1 h2 h3) (cwV 2 hts hL_rounds_X11_rounds_v7 rfl rfl rfl (by decide +kernel) ⟨Nat.le_of_ble_eq_true rfl, Nat.le_of_ble_eq_true rfl⟩) ⟨zPre.blind, va_recv hKc hPc (ci := 10) (q0 := 0) rfl rfl, zPre.go hZ hPc hKc hDc⟩ rfl rfl hl.1 rfl (lv_room (Nat.le_of_ble_eq_true rfl)) dL_rounds_5 ⟨Nat.le_of_ble_eq_true rfl, Nat.le_of_ble_eq_true rfl⟩) hS (fun q _ h => hFc q h) hFc (fun r1 u9 t9 H1 locs ht hvm hw hB hz1 hk1 hS => ?_)
  obtain ⟨hP1, hK1, hD1⟩ := hB
  rw [ht] at hP1
  have hK1 := va_K.moved hvm.symm hK1
  obtain ⟨hP, hD⟩ := va_join (wr := [(qo, .inl (ko, 1, .inr (.inl fo)))]) (w1 := [(h0, .inr (10, [x_tape, x_told, x_code, x_reader, x_machine, x_length, x_latestFault, x_hasProgram, x_hasRun]))]) hP hD [0] [1] rfl rfl (by decide) (by decide) hk1 hFc hP1 hD1
  have hK := hK.app hK1
  generalize H1 = H at hP hS ⊢
  have hP : va_P (dC, dI) vwCl [(qo, .inl (ko, 1, .inr (.inl fo))), (h0, .inr (10, [x_tape, x_told, x_code, x_reader, x_machine, x_length, x_latestFault, x_hasProgram, x_hasRun]))] H := hP
  have hD : va_D A [(qo, .inl (ko, 1, .inr (.inl fo))), (h0, .inr (10, [x_tape, x_told, x_code, x_reader, x_machine, x_length, x_latestFault, x_hasProgram, x_hasRun]))] := hD
  have hK : va_K (dC, dI) vwCl [(ko, .long)] s := hK
  obtain rfl : r1 = (zR n k) := hw
  refine lv_i2l (v := ((zR n k) : Int32).toInt64) hx hb dL_rounds_8 rfl ?_
  refine va_last hx hb hK hP hD hS 0 0 rfl rfl (by unfold vp_in; decide) dL_rounds_9 (fun H locs hP hD hS => ?_)
  have hP : va_P (dC, dI) vwCl [(qo, .inl (ko, 1, .inr (.inl (vp_updL fo 0 (((zR n k) : Int32).toInt64))))), (h0, .inr (10, [x_tape, x_told, x_code, x_reader, x_machine, x_length, x_latestFault, x_hasProgram, x_hasRun]))] H := hP
  have hD : va_D A [(qo, .inl (ko, 1, .inr (.inl (vp_updL fo 0 (((zR n k) : Int32).toInt64))))), (h0, .inr (10, [x_tape, x_told, x_code, x_reader, x_machine, x_length, x_latestFault, x_hasProgram, x_hasRun]))] := hD
  refine lv_goto (tgt := 17) hx hb dL_rounds_10 (by decide) ?_
  refine lv_iconst (v := 0) hx hb dL_rounds_17 (by decide) ?_
  have hP9 := hP.sub (ws' := [(h0, .inr (10, [x_tape, x_told, x_code, x_reader, x_machine, x_length, x_latestFault, x_hasProgram, x_hasRun])), (qo, .inl (ko, 1, .inr (.inl (vp_updL fo 0 (((zR n k) : Int32).toInt64)))))]) [1, 0] rfl
  have hD9 := hD.sub (ws' := [(h0, .inr (10, [x_tape, x_told, x_code, x_reader, x_machine, x_length, x_latestFault, x_hasProgram, x_hasRun])), (qo, .inl (ko, 1, .inr (.inl (vp_updL fo 0 (((zR n k) : Int32).toInt64)))))]) [1, 0] (by decide) rfl
  have hK9 := hK.sub (tys' := [(ko, .long)]) [0] rfl
  exact W.iret (v := 0) hx hb hr (fun t ht hW => ⟨⟨0, (), rfl, rfl, by rw [ht]; exact hP9, va_K.moved hW.alike hK9, hD9⟩, hS.F ht⟩) hS.2.2 dL_rounds_18
section Rows
variable {p : Program} {l : Launch} {e : Env} {R : Room} {s : State} {m : MethodId} {args : Array Value} {below : List Frame} {meth : Method} {c : Code} {H : Heap} {locs : List Loc} {cells slots : Nat} {Q : State → Prop}
variable {mc ms : Nat} {free : Addr → Prop} {A0 A1 : Nat → Prop} {H0 : Heap} {a : Array Value} {pc : Nat} {ls : Array Slot} {st0 rest : List Value}
/-- caught by the row x of this method's table; the rows ahead don't take it -/
theorem vx_catch {own name : String} {E : String} {ce : Cell} {q : Addr} (hown : s.vm.findClass own = some m.cls) (pre : List ExceptionTableEntry) (x : ExceptionTableEntry) (suf : List ExceptionTableEntry) (hsplit : c.exceptionTable.toList = pre ++ x :: suf)
    (hpass : ∀ z ∈ pre, covers z pc = false ∨ (z.catchType ≠ 0 ∧ ∃ nm : String, (Cond.classLink own z.catchType nm).before args s = true ∧ va_Nc E nm s)) (hx : covers x pc = true) (h0 : x.catchType ≠ 0)
    (hlink : (Cond.classLink own x.catchType name).before args s = true) (hcast : (Cond.castable E name).before args s = true) (hcell : H[q]? = some ce) (hv : ce.vm = .none) (hcl : s.vm.findClass E = some ce.cls)
    (kk : W p l e R s m args below meth c H locs cells slots Q (F0 m x.handlerPc ls [.ref q])) : vx_W p l e R s m args below meth c H locs cells slots Q (F0 m pc ls rest) q := by
  intro T hT X
  have hpl : e.platform.magicAccessors = ({} : Platform).magicAccessors := by rw [X.admits.platform]
  obtain ⟨c3, c4, hc3, hc4, hasg⟩ := Cond.castable_spec hcast
  cases Option.some.inj (hc3.symm.trans hcl)
  obtain ⟨c5, hc5, hcl5⟩ := Cond.classLink_spec hown hlink e.platform hpl
  cases Option.some.inj (hc4.symm.trans hc5)
  obtain ⟨vm', X', st⟩ := Jvm.Stand.thenCaughtThrough X q (g := F0 m pc ls rest) rfl (Steps.refl _) (by rw [hT]; exact hcell) (by rw [hv]; rfl) (by obtain ⟨k9, h9, -⟩ := Vm.findClass_spec hcl; exact ⟨k9, h9⟩) pre x suf hsplit
    (fun z hz => by
      rcases hpass z hz with h | ⟨hz0, nm, hl1, hn1⟩
      · exact Or.inl h
      · obtain ⟨c6, hc6, hcl6⟩ := Cond.classLink_spec hown hl1 e.platform hpl
        obtain ⟨a8, b8, h1, h2, h3⟩ := hn1
        cases Option.some.inj (h1.symm.trans hcl)
        cases Option.some.inj (h2.symm.trans hc6)
        exact Or.inr ⟨hz0, _, hcl6, h3⟩) hx (Or.inr ⟨h0, c4, hcl5, hasg⟩)
  obtain ⟨t, a1, b1⟩ := kk (T.setVm vm') hT X'
  exact ⟨t, st.trans a1, b1⟩
end Rows
theorem k_L_rounds_classLink_RL_13_java_lang_ArithmeticException : Cond.classLink RL 13 "java/lang/ArithmeticException" ∈ wzL_rounds := List.mem_cons_of_mem _ (List.mem_append_left _ (List.mem_of_getElem? (i := 0) rfl))
set_option maxHeartbeats 4000000 in
set_option maxRecDepth 100000 in
theorem c_L_rounds_z (l : Launch) (dC : Nat → ClassId) (dI : Nat → Nat → Nat) (sz : Nat) (h0 : Nat) (n : Int32) (qo : Nat) (ko : ClassId) (fo : Nat → Int64) (x_tape : Value) (x_told : Value) (x_code : Value) (x_reader : Value) (x_machine : Value) (x_length : Value) (x_latestFault : Value) (x_hasProgram : Value) (x_hasRun : Value) (hl9 : l.stackTraces = false) (h1 : ¬ n < 0) : Met l yL_rounds wzL_rounds ({ frames := 8, cells := 1, slots := 6, locals := 480 }) (va_Pc [.ref h0, .int n, .int 0, .ref qo] (zPreT dC dI sz [(h0, .inr (10, [x_tape, x_told, x_code, x_reader, x_machine, x_length, x_latestFault, x_hasProgram, x_hasRun])), (qo, .inl (ko, 1, .inr (.inl fo)))] [(ko, .long)])) (va_Qi (fun (r : Int32) (_ : Unit) => r = 1) (fun (_ : Unit) (t : State) => zPost dC dI (va_A [(h0, .inr (10, [x_tape, x_told, x_code, x_reader, x_machine, x_length, x_latestFault, x_hasProgram, x_hasRun])), (qo, .inl (ko, 1, .inr (.inl fo)))] sz) [(h0, .inr (10, [x_tape, x_told, x_code, x_reader, x_machine, x_length, x_latestFault, x_hasProgram, x_hasRun])), (qo, .inl (ko, 1, .inr (.inl fo)))] [(ko, .long)] t) (va_A [(h0, .inr (10, [x_tape, x_told, x_code, x_reader, x_machine, x_length, x_latestFault, x_hasProgram, x_hasRun])), (qo, .inl (ko, 1, .inr (.inl fo)))] sz)) 1 6 (va_A [(h0, .inr (10, [x_tape, x_told, x_code, x_reader, x_machine, x_length, x_latestFault, x_hasProgram, x_hasRun])), (qo, .inl (ko, 1, .inr (.inl fo)))] sz) := by
  refine va_MetW (hh := [(0, 10, 13, 13)]) (cc := cL_rounds) (maxL := 5) (ret := (some .int)) (by decide) rfl ?_
  intro p e s m args below meth c s₁ B hml hv
  obtain ⟨rfl, ⟨hsz, hZ, hP, hK, hD0⟩, hX⟩ := hv
  have hx := B.exec
  have hb := B.bytes
  have hr := B.returns
  have hts := atoms_spec (ws := wzL_rounds) B.pre
  have hown : s.vm.findClass RL = some m.cls := findClass_of_methodNamed B.named
  have hlocks := B.notSynchronized
  subst hsz
  have hD := hD0.self (sz := s.heap.size)
  generalize hAe : va_A [(h0, .inr (10, [x_tape, x_told, x_code, x_reader, x_machine, x_length, x_latestFault, x_hasProgram, x_hasRun])), (qo, .inl (ko, 1, .inr (.inl fo)))] s.heap.size = A at hD hX ⊢
  have hA : ∀ q : Nat, s.heap.size ≤ q → A q := fun q h => by rw [← hAe]; exact Or.inr h
  have hS : va_S A s.heap s.heap [] := va_S.rf
  have hP : va_P (dC, dI) vwCl [(h0, .inr (10, [x_tape, x_told, x_code, x_reader, x_machine, x_length, x_latestFault, x_hasProgram, x_hasRun])), (qo, .inl (ko, 1, .inr (.inl fo)))] s.heap := hP
  have hl := lv_entry ([.ref h0, .int n, .int 0, .ref qo]) (n := 5) (Nat.le_of_ble_eq_true rfl)
  rw [lg_entry_eq]
  generalize (lg_sl ([.ref h0, .int n, .int 0, .ref qo]) ++ List.replicate (5 - (lg_sl ([.ref h0, .int n, .int 0, .ref qo])).length) Slot.unset).toArray = ls at hl ⊢
  have hl : lv_has ls 5 [(0, .ref h0), (1, .int n), (2, .int 0), (3, .ref qo)] := hl
  refine lv_aload_n hx hb dL_rounds_0 rfl (lv_at hl 3 rfl) ?_
  refine lv_iconst (v := 0) hx hb dL_rounds_1 (by decide) ?_
  refine lv_aload_n hx hb dL_rounds_2 rfl (lv_at hl 0 rfl) ?_
  refine lv_iload_n hx hb dL_rounds_3 rfl (lv_at hl 1 rfl) ?_
  refine lv_iload_n hx hb dL_rounds_4 rfl (lv_at hl 2 rfl) ?_
  have hPc := hP.sub (ws' := [(h0, .inr (10, [x_tape, x_told, x_code, x_reader, x_machine, x_length, x_latestFault, x_hasProgram, x_hasRun]))]) [0] rfl
  have hDc := hD.sub (ws' := [(h0, .inr (10, [x_tape, x_told, x_code, x_reader, x_machine, x_length, x_latestFault, x_hasProgram, x_hasRun]))]) [0] (by decide) rfl
  have hKc := hK.sub (tys' := []) [] rfl
  have hFc := va_free (wc := [(h0, .inr (10, [x_tape, x_told, x_code, x_reader, x_machine, x_length, x_latestFault, x_hasProgram, x_hasRun]))]) hD hS hA [0] rfl
  have hFe := va_free (wc := []) hD hS hA [] rfl
  refine vx_calli (vx_runV (As := [.int n, .int 0]) (rest := [.int 0, .ref qo]) ⟨hx, hb, hml, hown, hts⟩ (c_X11_rounds_z l dC dI _ h0 n _ _ _ _ _ _ _ _ _ hl9 h1) (cwV 2 hts hL_rounds_X11_rounds_v7 rfl rfl rfl (by decide +kernel) ⟨Nat.le_of_ble_eq_true rfl, Nat.le_of_ble_eq_true rfl⟩) ⟨zPreT.blind, va_recv hKc hPc (ci := 10) (q0 := 0) rfl rfl, zPreT.go hX hS hFc hZ hPc hKc hDc⟩ rfl rfl hl.1 rfl (lv_room (Nat.le_of_ble_eq_true rfl)) dL_rounds_5 ⟨Nat.le_of_ble_eq_true rfl, Nat.le_of_ble_eq_true rfl⟩) hS (fun q _ h => hFc q h) hFc (fun q _ h => hFe q (h.elim (fun z => Or.inl z) (fun z => Or.inr z))) (fun E ce q9 u9 t9 H1 locs ht hvm _ hE hz1 hk1 hS hce hcv hcl => ?_) (fun r u9 t9 H1 locs ht hvm hw hB hz1 hk1 hS => hw.elim)
  obtain rfl : E = "java/lang/ArithmeticException" := hE
  have hP1 : va_P (dC, dI) vwCl [] H1 := fun k q h => by simp at h
  have hD1 : va_D (va_A [] s.heap.size) [] := ⟨fun i j p q h => by simp at h, fun k q h => by simp at h⟩
  obtain ⟨hP, hD⟩ := va_join (wr := [(h0, .inr (10, [x_tape, x_told, x_code, x_reader, x_machine, x_length, x_latestFault, x_hasProgram, x_hasRun])), (qo, .inl (ko, 1, .inr (.inl fo)))]) (w1 := []) hP hD [] [0, 1] rfl rfl (by decide) (by decide) hk1 hFe hP1 hD1
  generalize H1 = H at hP hS hce ⊢
  have hP : va_P (dC, dI) vwCl [(h0, .inr (10, [x_tape, x_told, x_code, x_reader, x_machine, x_length, x_latestFault, x_hasProgram, x_hasRun])), (qo, .inl (ko, 1, .inr (.inl fo)))] H := hP
  have hD : va_D A [(h0, .inr (10, [x_tape, x_told, x_code, x_reader, x_machine, x_length, x_latestFault, x_hasProgram, x_hasRun])), (qo, .inl (ko, 1, .inr (.inl fo)))] := hD
  have hTab := vx_table (x := yL_rounds) B (hts (.codeWith yL_rounds cL_rounds 5 (some .int) [(0, 10, 13, 13)]) List.mem_cons_self)
  refine vx_widen (k := 1) (n := 6) (by omega) (by omega) ?_
  refine vx_catch (own := RL) (name := "java/lang/ArithmeticException") (E := "java/lang/ArithmeticException") hown [] { startPc := 0, endPc := 10, handlerPc := 13, catchType := 13 } [] hTab (fun z h => nomatch h) (by decide) (by decide) (hts (.classLink RL 13 "java/lang/ArithmeticException") k_L_rounds_classLink_RL_13_java_lang_ArithmeticException) (zT_use (w := .castable "java/lang/ArithmeticException" "java/lang/ArithmeticException") rfl (hX.1 _ (List.mem_cons_self))) hce hcv hcl ?_
  refine W.eq (g2 := F0 m 13 ls [.ref q9]) rfl ?_
  refine lv_astore (lv' := [(4, .ref q9), (0, .ref h0), (1, .int n), (2, .int 0), (3, .ref qo)]) hx hb dL_rounds_13 hl (by decide) rfl (fun ls hl => ?_)
  refine lv_iconst (v := 1) hx hb dL_rounds_15 (by decide) ?_
  have hP9 := hP.sub (ws' := [(h0, .inr (10, [x_tape, x_told, x_code, x_reader, x_machine, x_length, x_latestFault, x_hasProgram, x_hasRun])), (qo, .inl (ko, 1, .inr (.inl fo)))]) [0, 1] rfl
  have hD9 := hD.sub (ws' := [(h0, .inr (10, [x_tape, x_told, x_code, x_reader, x_machine, x_length, x_latestFault, x_hasProgram, x_hasRun])), (qo, .inl (ko, 1, .inr (.inl fo)))]) [0, 1] (by decide) rfl
  have hK9 := hK.sub (tys' := [(ko, .long)]) [0] rfl
  exact W.iret (v := 1) hx hb hr (fun t ht hW => ⟨⟨1, (), rfl, rfl, by rw [ht]; exact hP9, va_K.moved hW.alike hK9, hD9⟩, hS.F ht⟩) hS.2.2 dL_rounds_16
