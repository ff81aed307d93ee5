def zBY : List Int32 := [105, 110, 116, 32, 118, 97, 114, 32, 108, 111, 103, 32, 105, 102, 32, 101, 108, 115, 101, 32, 119, 104, 105, 108, 101, 32, 100, 111, 32, 102, 111, 114, 32, 98, 114, 101, 97, 107, 32, 99, 111, 110, 116, 105, 110, 117, 101, 32, 114, 101, 116, 117, 114, 110, 32, 116, 104, 114, 111, 119, 32, 108, 111, 99, 107, 32, 116, 114, 121, 32, 119, 105, 116, 104, 32, 99, 97, 116, 99, 104, 32, 102, 105, 110, 97, 108, 108, 121, 32, 97, 115, 115, 101, 114, 116, 32, 115, 119, 105, 116, 99, 104, 32, 99, 97, 115, 101, 32, 100, 101, 102, 97, 117, 108, 116, 32, 121, 105, 101, 108, 100, 32, 116, 114, 117, 101, 32, 102, 97, 108, 115, 101, 32, 110, 117, 108, 108]
def zTX : String := "int var log if else while do for break continue return throw lock try with catch finally assert switch case default yield true false null"
/-- what stands all along of the words' text, outside A -/
def zSTR (aS aV : Nat) (A : Nat → Prop) (U : State) (H : Heap) : Prop :=
  vk_R RX9 19 zTX aS U ∧ va_O "java/lang/String" aS A U H ∧ va_OF "java/lang/String" "coder" "B" (.int 0) aS A U H ∧ va_OF "java/lang/String" "value" "[B" (.ref aV) aS A U H ∧ va_T .byte aV 137 (fun j => .int (zBY.getD j 0)) A U H ∧ va_Z "java/lang/String" "COMPACT_STRINGS" "Z" (.int 1) A U H ∧ va_Zq "jdk/internal/util/Preconditions" "SIOOBE_FORMATTER" "Ljava/util/function/BiFunction;" A U H
theorem zSTR.kept {aS aV : Nat} {A : Nat → Prop} {U : State} {H H1 : Heap} (h : zSTR aS aV A U H) (hq : ∀ a : Nat, a < H.size → ¬ A a → H1[a]? = H[a]?) : zSTR aS aV A U H1 :=
  ⟨h.1, h.2.1.kept hq, h.2.2.1.kept hq, h.2.2.2.1.kept hq, h.2.2.2.2.1.kept hq, h.2.2.2.2.2.1.kept hq, h.2.2.2.2.2.2.kept hq⟩
theorem zSTR.narrow {aS aV : Nat} {A B : Nat → Prop} {U : State} {H : Heap} (h : zSTR aS aV A U H) (hq : ∀ q, B q → A q) : zSTR aS aV B U H :=
  ⟨h.1, h.2.1.narrow hq, h.2.2.1.narrow hq, h.2.2.2.1.narrow hq, h.2.2.2.2.1.narrow hq, h.2.2.2.2.2.1.narrow hq, h.2.2.2.2.2.2.narrow hq⟩
theorem zSTR.warm {aS aV : Nat} {A : Nat → Prop} {s U : State} {H : Heap} (hW : s.WarmedH U.vm) (h : zSTR aS aV A s H) : zSTR aS aV A U H :=
  ⟨vk_R.warm hW h.1, va_O.moved hW.alike h.2.1, va_OF.moved hW.alike h.2.2.1, va_OF.moved hW.alike h.2.2.2.1, va_T.moved hW.alike h.2.2.2.2.1, va_Z.moved hW.alike h.2.2.2.2.2.1, va_Zq.moved hW.alike h.2.2.2.2.2.2⟩
theorem zSTR.calling {aS aV : Nat} {A : Nat → Prop} {U : State} {H : Heap} {g : JFrame} {mk : MethodId} {a : Array Value} (h : zSTR aS aV A U H) : zSTR aS aV A (U.calling g mk a) H :=
  ⟨vk_R.same (u := U) rfl h.1, va_O.moved (u := U) (Vm.Alike.refl U.vm) h.2.1, va_OF.moved (u := U) (Vm.Alike.refl U.vm) h.2.2.1, va_OF.moved (u := U) (Vm.Alike.refl U.vm) h.2.2.2.1, va_T.moved (u := U) (Vm.Alike.refl U.vm) h.2.2.2.2.1, va_Z.moved (u := U) (Vm.Alike.refl U.vm) h.2.2.2.2.2.1, va_Zq.moved (u := U) (Vm.Alike.refl U.vm) h.2.2.2.2.2.2⟩
theorem zSTR.recv {aS aV : Nat} {A : Nat → Prop} {s : State} {H : Heap} {locs : List Loc} (h : zSTR aS aV A s s.heap) (hS : va_S A s.heap H locs) : ∃ cell : Cell, H[aS]? = some cell ∧ cell.vm.isStatics = false ∧ s.vm.findClass RJ0 = some cell.cls := by
  obtain ⟨cell, h1, h2, h3, -⟩ := h.2.1.kept hS.2.1
  exact ⟨cell, h1, h2, h3⟩
def zPreS (dC : Nat → ClassId) (dI : Nat → Nat → Nat) (sz : Nat) (W0 : va_W) (tys : List (ClassId × FieldType)) (aS aV : Nat) (U : State) : Prop :=
  zPre dC dI sz W0 tys U ∧ zSTR aS aV (va_A W0 sz) U U.heap
theorem zPreS.blind {av : List Value} {dC : Nat → ClassId} {dI : Nat → Nat → Nat} {sz : Nat} {W0 : va_W} {tys : List (ClassId × FieldType)} {aS aV : Nat} : FrameBlind (va_Pc av (zPreS dC dI sz W0 tys aS aV)) := by
  intro a U g mk q
  obtain ⟨q0, q1, q2⟩ := q
  have q3 : va_Pc av (zPre dC dI sz W0 tys) a (U.calling g mk a) := zPre.blind a U g mk ⟨q0, q1⟩
  exact ⟨q0, q3.2, q2.calling⟩
theorem zPreS.go {av : List Value} {dC : Nat → ClassId} {dI : Nat → Nat → Nat} {W0 : va_W} {tys : List (ClassId × FieldType)} {s : State} {H : Heap} {locs : List Loc} {A : Nat → Prop} {aS aV : Nat} (hX : zSTR aS aV A s s.heap) (hS : va_S A s.heap H locs) (hF : ∀ q, va_A W0 H.size q → A q) (hZ : zAMB s) (hP : va_P (dC, dI) vwCl W0 H) (hK : va_K (dC, dI) vwCl tys s) (hD : va_D A W0) :
    ∀ U : State, U.heap = H → s.WarmedH U.vm → va_Pc av (zPreS dC dI H.size W0 tys aS aV) av.toArray U :=
  fun U hU hW => ⟨rfl, (zPre.go (av := av) hZ hP hK hD U hU hW).2, by rw [hU]; exact ((hX.kept hS.2.1).narrow hF).warm hW⟩
theorem z_win {x : Int32} {w : Nat} (h : x = nI w) (hw : w < 2 ^ 31) (hc : ¬ 25 ≤ x) : vp_in x 25 := by
  subst h
  refine vp_in_nI ?_ (by decide)
  rcases Nat.lt_or_ge w 25 with q | q
  · exact q
  · exact absurd (show (25 : Int32) ≤ nI w from nI_le (a := 25) q hw) hc
theorem z_lt137 {x : Int32} (h : vp_in x 137) : ¬ x < 0 ∧ x < 137 := by
  have h9 := vp_in_iff.mp h
  have e0 : (0 : Int32).toInt = 0 := by decide
  have e1 : (137 : Int32).toInt = 137 := by decide
  refine ⟨fun g => ?_, Int32.lt_iff_toInt_lt.mpr ?_⟩
  · have g9 := Int32.lt_iff_toInt_lt.mp g
    rw [e0] at g9
    omega
  · rw [e1]
    omega
