def zTB : List Cond := [.castable "java/lang/ArithmeticException" "java/lang/ArithmeticException", .declares ⟨"java/lang/RuntimeException", "<init>", "()V"⟩, .declares ⟨"java/lang/Exception", "<init>", "()V"⟩, .declares ⟨"java/lang/Throwable", "<init>", "()V"⟩]
def zIsT : Cond → Bool
  | .castable .. => true
  | .declares .. => true
  | _ => false
theorem zTB_is : zTB.all zIsT = true := by decide +kernel
theorem zTB_all : ∀ w ∈ (vx_at0 RX11 150 "java/lang/ArithmeticException" ["java/lang/RuntimeException", "java/lang/Exception"]).filter (fun w => !goodWord w), w ∈ zTB := by decide +kernel
theorem zTB_ot : (Cond.classLink RX11 148 "java/lang/ArithmeticException" :: Cond.initialized "java/lang/ArithmeticException" :: (vx_at0 RX11 150 "java/lang/ArithmeticException" ["java/lang/RuntimeException", "java/lang/Exception"])).all vx_ot = true := by decide +kernel
/-- what a throw asks of the start: some words, two statics outside A -/
def zTHR (A : Nat → Prop) (U : State) (H : Heap) : Prop := (∀ w ∈ zTB, va_Nw w U) ∧ vx_Zq Bundle.tN "UNASSIGNED_STACK" Bundle.steD A U H ∧ vx_Zq Bundle.tN "SUPPRESSED_SENTINEL" Bundle.listD A U H
theorem zT_warm {w : Cond} (hw : zIsT w = true) {s U : State} (hW : s.WarmedH U.vm) (h : va_Nw w s) : va_Nw w U := by
  cases w <;> first | exact va_Nw.warmC hW h | exact va_Nw.warmD hW h | (simp [zIsT] at hw)
theorem zT_same {w : Cond} (hw : zIsT w = true) {u U : State} (hv : u.vm = U.vm) (h : va_Nw w u) : va_Nw w U := by
  cases w <;> first | exact va_Nw.same rfl hv h | (simp [zIsT] at hw)
theorem zT_use {w : Cond} (hw : zIsT w = true) {a : Array Value} {U : State} (h : va_Nw w U) : w.before a U = true := by
  cases w <;> first | exact va_Nw.use rfl h | (simp [zIsT] at hw)
theorem zTHR.kept {A : Nat → Prop} {U : State} {H H1 : Heap} (h : zTHR A U H) (hq : ∀ a : Nat, a < H.size → ¬ A a → H1[a]? = H[a]?) : zTHR A U H1 := ⟨h.1, h.2.1.kept hq, h.2.2.kept hq⟩
theorem zTHR.narrow {A B : Nat → Prop} {U : State} {H : Heap} (h : zTHR A U H) (hq : ∀ q, B q → A q) : zTHR B U H := ⟨h.1, h.2.1.narrow hq, h.2.2.narrow hq⟩
theorem zTHR.warm {A : Nat → Prop} {s U : State} {H : Heap} (hW : s.WarmedH U.vm) (h : zTHR A s H) : zTHR A U H := ⟨fun w hw => zT_warm (List.all_eq_true.mp zTB_is w hw) hW (h.1 w hw), vx_Zq.moved hW.alike h.2.1, vx_Zq.moved hW.alike h.2.2⟩
theorem zTHR.calling {A : Nat → Prop} {U : State} {H : Heap} {g : JFrame} {mk : MethodId} {a : Array Value} (h : zTHR A U H) : zTHR A (U.calling g mk a) H := ⟨fun w hw => zT_same (u := U) (U := U.calling g mk a) (List.all_eq_true.mp zTB_is w hw) rfl (h.1 w hw), vx_Zq.moved (u := U) (U := U.calling g mk a) (Vm.Alike.refl U.vm) h.2.1, vx_Zq.moved (u := U) (U := U.calling g mk a) (Vm.Alike.refl U.vm) h.2.2⟩
def zPreT (dC : Nat → ClassId) (dI : Nat → Nat → Nat) (sz : Nat) (W0 : va_W) (tys : List (ClassId × FieldType)) (U : State) : Prop :=
  zPre dC dI sz W0 tys U ∧ zTHR (va_A W0 sz) U U.heap
theorem zPreT.blind {av : List Value} {dC : Nat → ClassId} {dI : Nat → Nat → Nat} {sz : Nat} {W0 : va_W} {tys : List (ClassId × FieldType)} : FrameBlind (va_Pc av (zPreT dC dI sz W0 tys)) := by
  intro a U g mk q
  obtain ⟨q0, q1, q2⟩ := q
  have q3 : va_Pc av (zPre dC dI sz W0 tys) a (U.calling g mk a) := zPre.blind a U g mk ⟨q0, q1⟩
  exact ⟨q0, q3.2, q2.calling⟩
theorem zPreT.go {av : List Value} {dC : Nat → ClassId} {dI : Nat → Nat → Nat} {W0 : va_W} {tys : List (ClassId × FieldType)} {s : State} {H : Heap} {locs : List Loc} {A : Nat → Prop} (hX : zTHR A s s.heap) (hS : va_S A s.heap H locs) (hF : ∀ q, va_A W0 H.size q → A q) (hZ : zAMB s) (hP : va_P (dC, dI) vwCl W0 H) (hK : va_K (dC, dI) vwCl tys s) (hD : va_D A W0) :
    ∀ U : State, U.heap = H → s.WarmedH U.vm → va_Pc av (zPreT dC dI H.size W0 tys) av.toArray U :=
  fun U hU hW => ⟨rfl, (zPre.go (av := av) hZ hP hK hD U hU hW).2, by rw [hU]; exact ((hX.kept hS.2.1).narrow hF).warm hW⟩
theorem k_X11_rounds_classLink_RX11_148_java_lang_ArithmeticException : Cond.classLink RX11 148 "java/lang/ArithmeticException" ∈ wzX11_rounds := List.mem_cons_of_mem _ (List.mem_append_left _ (List.mem_of_getElem? (i := 0) rfl))
theorem k_X11_rounds_initialized_java_lang_ArithmeticException : Cond.initialized "java/lang/ArithmeticException" ∈ wzX11_rounds := List.mem_cons_of_mem _ (List.mem_append_left _ (List.mem_of_getElem? (i := 1) rfl))
set_option maxHeartbeats 4000000 in
set_option maxRecDepth 100000 in
theorem c_X11_rounds_z (l : Launch) (dC : Nat → ClassId) (dI : Nat → Nat → Nat) (sz : Nat) (h0 : Nat) (n : Int32) (x_tape : Value) (x_told : Value) (x_code : Value) (x_reader : Value) (x_machine : Value) (x_length : Value) (x_latestFault : Value) (x_hasProgram : Value) (x_hasRun : Value) (hl9 : l.stackTraces = false) (h1 : ¬ n < 0) : vx_Met l yX11_rounds wzX11_rounds ({ frames := 7, cells := 1, slots := 6, locals := 420 }) (va_Pc [.ref h0, .int n, .int 0] (zPreT dC dI sz [(h0, .inr (10, [x_tape, x_told, x_code, x_reader, x_machine, x_length, x_latestFault, x_hasProgram, x_hasRun]))] [])) (va_Qi (fun (r : Int32) (_ : Unit) => False) (fun (_ : Unit) (t : State) => zPost dC dI (va_A [(h0, .inr (10, [x_tape, x_told, x_code, x_reader, x_machine, x_length, x_latestFault, x_hasProgram, x_hasRun]))] sz) [] [] t) (va_A [(h0, .inr (10, [x_tape, x_told, x_code, x_reader, x_machine, x_length, x_latestFault, x_hasProgram, x_hasRun]))] sz)) (vx_X (fun (_ : Unit) => True) (fun (E : String) (_ : Unit) (_ : State) => E = "java/lang/ArithmeticException") (va_A [] sz)) 1 6 (va_A [(h0, .inr (10, [x_tape, x_told, x_code, x_reader, x_machine, x_length, x_latestFault, x_hasProgram, x_hasRun]))] sz) := by
  refine vx_ofW (cc := cX11_rounds) (maxL := 3) (ret := (some .int)) (by decide) rfl ?_
  intro p e s m args below meth c s₁ B hml htab hv
  obtain ⟨rfl, ⟨hsz, hZ, hP, hK, hD0⟩, hX⟩ := hv
  have hx := B.exec
  have hb := B.bytes
  have hr := B.returns
  have hts := atoms_spec (ws := wzX11_rounds) B.pre
  have hown : s.vm.findClass RX11 = some m.cls := findClass_of_methodNamed B.named
  have hlocks := B.notSynchronized
  subst hsz
  have hD := hD0.self (sz := s.heap.size)
  generalize hAe : va_A [(h0, .inr (10, [x_tape, x_told, x_code, x_reader, x_machine, x_length, x_latestFault, x_hasProgram, x_hasRun]))] s.heap.size = A at hD hX ⊢
  have hA : ∀ q : Nat, s.heap.size ≤ q → A q := fun q h => by rw [← hAe]; exact Or.inr h
  have hS : va_S A s.heap s.heap [] := va_S.rf
  have hP : va_P (dC, dI) vwCl [(h0, .inr (10, [x_tape, x_told, x_code, x_reader, x_machine, x_length, x_latestFault, x_hasProgram, x_hasRun]))] s.heap := hP
  have hl := lv_entry ([.ref h0, .int n, .int 0]) (n := 3) (Nat.le_of_ble_eq_true rfl)
  rw [lg_entry_eq]
  generalize (lg_sl ([.ref h0, .int n, .int 0]) ++ List.replicate (3 - (lg_sl ([.ref h0, .int n, .int 0])).length) Slot.unset).toArray = ls at hl ⊢
  have hl : lv_has ls 3 [(0, .ref h0), (1, .int n), (2, .int 0)] := hl
  refine lv_iload_n hx hb dX11_rounds_0 rfl (lv_at hl 1 rfl) ?_
  refine lv_if_lt (tgt := 8) hx hb dX11_rounds_1 (by decide) (fun c9 => absurd c9 h1) (fun _ => ?_)
  refine lv_iload_n hx hb dX11_rounds_4 rfl (lv_at hl 2 rfl) ?_
  refine lv_if_ge (tgt := 10) hx hb dX11_rounds_5 (by decide) (fun _ => ?_) (fun c9 => absurd (by decide) c9)
  refine lv_iload_n hx hb dX11_rounds_10 rfl (lv_at hl 2 rfl) ?_
  refine lv_if_ne (tgt := 22) hx hb dX11_rounds_11 (by decide) (fun c9 => absurd (by decide) c9) (fun _ => ?_)
  have hat : ∀ w ∈ (vx_at0 RX11 150 "java/lang/ArithmeticException" ["java/lang/RuntimeException", "java/lang/Exception"]), w.before _ s = true := vx_hat (fun w h => hts w (List.mem_cons_of_mem _ (List.mem_append_right _ (List.mem_append_left _ (h))))) zTB_all (fun w h => zT_use (List.all_eq_true.mp zTB_is w h) (hX.1 w h))
  exact vx_throw0 (A := A) hx hb hl9 (own := RX11) (cls := "java/lang/ArithmeticException") (names := ["java/lang/RuntimeException", "java/lang/Exception"]) (ik := 148) (ic := 150) hown (by decide) (by decide) (hts (.classLink RX11 148 "java/lang/ArithmeticException") k_X11_rounds_classLink_RX11_148_java_lang_ArithmeticException) (hts (.initialized "java/lang/ArithmeticException") k_X11_rounds_initialized_java_lang_ArithmeticException) hat (fun w h => List.all_eq_true.mp zTB_ot w h) hX.2.1 hX.2.2 hS (hl.1.trans hml.symm) dX11_rounds_14 dX11_rounds_17 dX11_rounds_18 dX11_rounds_21 (fun x h => (htab x h).elim) (by decide) (by decide) (by decide) (by decide) hlocks (fun t _ h5 h6 => ⟨(), trivial, rfl, h5, fun q hq _ => h6 q hq⟩) (fun z h => nomatch h) (by decide) (by decide)
