/-- the words of links between nest mates -/
def zNW : List Cond := [
  .methodLinkNest "StatementRules2" 22 ⟨"StatementRules2$Code", "<init>", "()V"⟩ "StatementRules2",
  .methodLinkNest "StatementRules2$Formulas" 11 ⟨"StatementRules2$Names", "<init>", "()V"⟩ "StatementRules2",
  .methodLinkNest "StatementRules2$Statements" 11 ⟨"StatementRules2$Opens", "<init>", "()V"⟩ "StatementRules2",
  .methodLinkNest "StatementRules2$Told" 28 ⟨"StatementRules2", "put", "([III)V"⟩ "StatementRules2",
  .methodLinkNest "StatementRules2$Opens" 40 ⟨"StatementRules2$Open", "<init>", "()V"⟩ "StatementRules2",
  .methodLinkNest "StatementRules2$Code" 53 ⟨"StatementRules2", "put", "([III)V"⟩ "StatementRules2",
  .methodLinkNest "StatementRules2$Opens" 104 ⟨"StatementRules2", "at", "([II)I"⟩ "StatementRules2",
  .methodLinkNest "StatementRules2$Names" 24 ⟨"StatementRules2", "at", "([II)I"⟩ "StatementRules2",
  .methodLinkNest "StatementRules2$Code" 57 ⟨"StatementRules2", "at", "([II)I"⟩ "StatementRules2",
  .methodLinkNest "StatementRules2$Opens" 100 ⟨"StatementRules2", "put", "([III)V"⟩ "StatementRules2",
  .methodLinkNest "StatementRules2$Told" 32 ⟨"StatementRules2", "at", "([II)I"⟩ "StatementRules2",
  .methodLinkNest "StatementRules2$Machine" 50 ⟨"StatementRules2", "put", "([III)V"⟩ "StatementRules2",
  .methodLinkNest "StatementRules2$Machine" 111 ⟨"StatementRules2", "at", "([II)I"⟩ "StatementRules2",
  .methodLinkNest "StatementRules2$Machine" 241 ⟨"StatementRules2$Thrown", "<init>", "()V"⟩ "StatementRules2",
  .methodLinkNest "StatementRules2$Machine" 193 ⟨"StatementRules2$Frame", "<init>", "()V"⟩ "StatementRules2",
  .methodLinkNest "StatementRules2$Thrown" 22 ⟨"StatementRules2", "put", "([III)V"⟩ "StatementRules2",
  .fieldLinkNest "StatementRules2$Machine" 210 "StatementRules2$Told" "isNull" "[I" "StatementRules2",
  .fieldLinkNest "StatementRules2$Machine" 207 "StatementRules2$Told" "opening" "[I" "StatementRules2",
  .fieldLinkNest "StatementRules2$Machine" 265 "StatementRules2$Told" "closing" "[I" "StatementRules2",
  .fieldLinkNest "StatementRules2" 81 "StatementRules2$Told" "assertsOn" "Z" "StatementRules2",
  .fieldLinkNest "StatementRules2$Machine" 166 "StatementRules2$Told" "assertsOn" "Z" "StatementRules2",
  .fieldLinkNest "StatementRules2$Machine" 108 "StatementRules2$Code" "ops" "[I" "StatementRules2",
  .fieldLinkNest "StatementRules2$Machine" 115 "StatementRules2$Code" "arguments" "[I" "StatementRules2",
  .fieldLinkNest "StatementRules2$Machine" 153 "StatementRules2$Code" "targets" "[I" "StatementRules2",
  .fieldLinkNest "StatementRules2$Formulas" 114 "StatementRules2$Code" "caseCount" "I" "StatementRules2",
  .fieldLinkNest "StatementRules2$Statements" 347 "StatementRules2$Code" "caseCount" "I" "StatementRules2",
  .fieldLinkNest "StatementRules2$Machine" 44 "StatementRules2$Code" "cellCount" "I" "StatementRules2",
  .fieldLinkNest "StatementRules2$Statements" 167 "StatementRules2$Code" "statements" "I" "StatementRules2",
  .fieldLinkNest "StatementRules2" 97 "StatementRules2$Code" "statements" "I" "StatementRules2",
  .fieldLinkNest "StatementRules2" 106 "StatementRules2$Code" "toldNames" "I" "StatementRules2",
  .fieldLinkNest "StatementRules2$Statements" 267 "StatementRules2$Code" "toldNames" "I" "StatementRules2",
  .fieldLinkNest "StatementRules2" 109 "StatementRules2$Code" "jumps" "I" "StatementRules2",
  .fieldLinkNest "StatementRules2$Statements" 270 "StatementRules2$Code" "jumps" "I" "StatementRules2",
  .fieldLinkNest "StatementRules2" 103 "StatementRules2$Code" "endReached" "Z" "StatementRules2",
  .fieldLinkNest "StatementRules2$Statements" 372 "StatementRules2$Code" "endReached" "Z" "StatementRules2",
  .fieldLinkNest "StatementRules2$Formulas" 53 "StatementRules2$Tokens" "type" "I" "StatementRules2",
  .fieldLinkNest "StatementRules2$Statements" 214 "StatementRules2$Tokens" "type" "I" "StatementRules2",
  .fieldLinkNest "StatementRules2$Formulas" 46 "StatementRules2$Tokens" "place" "I" "StatementRules2",
  .fieldLinkNest "StatementRules2$Statements" 143 "StatementRules2$Tokens" "place" "I" "StatementRules2",
  .fieldLinkNest "StatementRules2$Formulas" 76 "StatementRules2$Tokens" "value" "I" "StatementRules2",
  .fieldLinkNest "StatementRules2$Statements" 297 "StatementRules2$Tokens" "value" "I" "StatementRules2",
  .fieldLinkNest "StatementRules2$Statements" 181 "StatementRules2$Tokens" "name" "J" "StatementRules2",
  .fieldLinkNest "StatementRules2$Formulas" 98 "StatementRules2$Tokens" "name" "J" "StatementRules2",
  .fieldLinkNest "StatementRules2$Statements" 33 "StatementRules2$Names" "count" "I" "StatementRules2",
  .fieldLinkNest "StatementRules2$Statements" 92 "StatementRules2$Opens" "count" "I" "StatementRules2",
  .fieldLinkNest "StatementRules2$Statements" 401 "StatementRules2$Opens" "jumpCount" "I" "StatementRules2",
  .fieldLinkNest "StatementRules2$Statements" 294 "StatementRules2$Opens" "arm" "I" "StatementRules2",
  .fieldLinkNest "StatementRules2" 122 "StatementRules2$Machine" "rows" "[I" "StatementRules2",
  .fieldLinkNest "StatementRules2" 119 "StatementRules2$Machine" "rowCount" "I" "StatementRules2",
  .fieldLinkNest "StatementRules2$Statements" 107 "StatementRules2$Open" "sort" "I" "StatementRules2",
  .fieldLinkNest "StatementRules2$Opens" 41 "StatementRules2$Open" "sort" "I" "StatementRules2",
  .fieldLinkNest "StatementRules2$Opens" 44 "StatementRules2$Open" "serial" "I" "StatementRules2",
  .fieldLinkNest "StatementRules2$Opens" 47 "StatementRules2$Open" "depth" "I" "StatementRules2",
  .fieldLinkNest "StatementRules2$Statements" 287 "StatementRules2$Open" "depth" "I" "StatementRules2",
  .fieldLinkNest "StatementRules2$Opens" 50 "StatementRules2$Open" "namesBefore" "I" "StatementRules2",
  .fieldLinkNest "StatementRules2$Statements" 338 "StatementRules2$Open" "namesBefore" "I" "StatementRules2",
  .fieldLinkNest "StatementRules2$Opens" 53 "StatementRules2$Open" "label" "J" "StatementRules2",
  .fieldLinkNest "StatementRules2$Statements" 193 "StatementRules2$Open" "label" "J" "StatementRules2",
  .fieldLinkNest "StatementRules2$Opens" 57 "StatementRules2$Open" "begun" "Z" "StatementRules2",
  .fieldLinkNest "StatementRules2$Statements" 130 "StatementRules2$Open" "begun" "Z" "StatementRules2",
  .fieldLinkNest "StatementRules2$Opens" 61 "StatementRules2$Open" "ends" "Z" "StatementRules2",
  .fieldLinkNest "StatementRules2$Statements" 359 "StatementRules2$Open" "ends" "Z" "StatementRules2",
  .fieldLinkNest "StatementRules2$Opens" 64 "StatementRules2$Open" "never" "Z" "StatementRules2",
  .fieldLinkNest "StatementRules2$Statements" 324 "StatementRules2$Open" "never" "Z" "StatementRules2",
  .fieldLinkNest "StatementRules2$Opens" 67 "StatementRules2$Open" "whole" "Z" "StatementRules2",
  .fieldLinkNest "StatementRules2$Statements" 350 "StatementRules2$Open" "whole" "Z" "StatementRules2",
  .fieldLinkNest "StatementRules2$Opens" 70 "StatementRules2$Open" "exit" "I" "StatementRules2",
  .fieldLinkNest "StatementRules2$Statements" 196 "StatementRules2$Open" "exit" "I" "StatementRules2",
  .fieldLinkNest "StatementRules2$Opens" 73 "StatementRules2$Open" "next" "I" "StatementRules2",
  .fieldLinkNest "StatementRules2$Statements" 284 "StatementRules2$Open" "next" "I" "StatementRules2",
  .fieldLinkNest "StatementRules2$Opens" 76 "StatementRules2$Open" "other" "I" "StatementRules2",
  .fieldLinkNest "StatementRules2$Statements" 140 "StatementRules2$Open" "other" "I" "StatementRules2",
  .fieldLinkNest "StatementRules2$Opens" 79 "StatementRules2$Open" "caught" "I" "StatementRules2",
  .fieldLinkNest "StatementRules2$Statements" 394 "StatementRules2$Open" "caught" "I" "StatementRules2",
  .fieldLinkNest "StatementRules2$Statements" 149 "StatementRules2$Open" "firstCase" "I" "StatementRules2",
  .fieldLinkNest "StatementRules2$Opens" 82 "StatementRules2$Open" "firstJump" "I" "StatementRules2",
  .fieldLinkNest "StatementRules2$Statements" 407 "StatementRules2$Open" "firstJump" "I" "StatementRules2",
  .fieldLinkNest "StatementRules2$Statements" 404 "StatementRules2$Open" "finallyJump" "I" "StatementRules2",
  .fieldLinkNest "StatementRules2$Statements" 413 "StatementRules2$Open" "outerArm" "I" "StatementRules2",
  .fieldLinkNest "StatementRules2" 138 "StatementRules2$Thrown" "kinds" "[I" "StatementRules2",
  .fieldLinkNest "StatementRules2" 141 "StatementRules2$Thrown" "numbers" "[I" "StatementRules2",
  .fieldLinkNest "StatementRules2$Machine" 99 "StatementRules2$Thrown" "sort" "I" "StatementRules2",
  .fieldLinkNest "StatementRules2$Machine" 102 "StatementRules2$Thrown" "number" "I" "StatementRules2",
  .fieldLinkNest "StatementRules2$Machine" 105 "StatementRules2$Thrown" "count" "I" "StatementRules2",
  .fieldLinkNest "StatementRules2" 133 "StatementRules2$Thrown" "count" "I" "StatementRules2",
  .fieldLinkNest "StatementRules2$Machine" 194 "StatementRules2$Frame" "phase" "I" "StatementRules2",
  .fieldLinkNest "StatementRules2$Machine" 197 "StatementRules2$Frame" "argument" "I" "StatementRules2",
  .fieldLinkNest "StatementRules2$Machine" 200 "StatementRules2$Frame" "height" "I" "StatementRules2",
  .fieldLinkNest "StatementRules2$Machine" 201 "StatementRules2$Frame" "openedBefore" "I" "StatementRules2",
  .fieldLinkNest "StatementRules2$Machine" 204 "StatementRules2$Frame" "thrown" "LStatementRules2$Thrown;" "StatementRules2",
  .fieldLinkNest "StatementRules2$Machine" 246 "StatementRules2$Frame" "way" "I" "StatementRules2",
  .fieldLinkNest "StatementRules2$Machine" 247 "StatementRules2$Frame" "wayValue" "I" "StatementRules2",
  .fieldLinkNest "StatementRules2$Machine" 248 "StatementRules2$Frame" "wayTarget" "I" "StatementRules2",
  .declares ⟨"StatementRules2$Formulas", "armBlock", "(I)V"⟩]
def zIsN : Cond → Bool
  | .methodLinkNest .. => true
  | .fieldLinkNest .. => true
  | .declares .. => true
  | _ => false
theorem zNW_is : zNW.all zIsN = true := by decide +kernel
set_option maxRecDepth 20000 in
theorem zNW_in : ∀ w ∈ zNW, w ∈ lw_tbl := by decide +kernel
/-- what stands all along: the nest mates' links, the classes of the arrays of references -/
def zAMB (U : State) : Prop := (∀ w ∈ zNW, va_Nw w U) ∧ va_AO "StatementRules2$Open" U ∧ va_AO "StatementRules2$Frame" U ∧ va_AO "StatementRules2$Thrown" U
theorem zNw_warm {w : Cond} (hw : zIsN w = true) {s U : State} (hW : s.WarmedH U.vm) (h : va_Nw w s) : va_Nw w U := by
  cases w <;> first | exact va_Nw.warmM hW h | exact va_Nw.warmF hW h | exact va_Nw.warmD hW h | (simp [zIsN] at hw)
theorem zNw_same {w : Cond} (hw : zIsN w = true) {u U : State} (hv : u.vm = U.vm) (h : va_Nw w u) : va_Nw w U := by
  cases w <;> first | exact va_Nw.same rfl hv h | (simp [zIsN] at hw)
theorem zAMB.warm {s U : State} (hW : s.WarmedH U.vm) (h : zAMB s) : zAMB U :=
  ⟨fun w hw => zNw_warm (List.all_eq_true.mp zNW_is w hw) hW (h.1 w hw), va_AO.moved hW.alike h.2.1, va_AO.moved hW.alike h.2.2.1, va_AO.moved hW.alike h.2.2.2⟩
theorem zAMB.calling {U : State} {g : JFrame} {mk : MethodId} {a : Array Value} (h : zAMB U) : zAMB (U.calling g mk a) :=
  ⟨fun w hw => zNw_same (u := U) (U := U.calling g mk a) (List.all_eq_true.mp zNW_is w hw) rfl (h.1 w hw), va_AO.moved (Vm.Alike.refl U.vm) h.2.1, va_AO.moved (Vm.Alike.refl U.vm) h.2.2.1, va_AO.moved (Vm.Alike.refl U.vm) h.2.2.2⟩
/-- a contract's start -/
def zPre (dC : Nat → ClassId) (dI : Nat → Nat → Nat) (sz : Nat) (W0 : va_W) (tys : List (ClassId × FieldType)) (U : State) : Prop :=
  U.heap.size = sz ∧ zAMB U ∧ va_P (dC, dI) vwCl W0 U.heap ∧ va_K (dC, dI) vwCl tys U ∧ va_D (fun _ => True) W0
/-- a contract's end -/
def zPost (dC : Nat → ClassId) (dI : Nat → Nat → Nat) (A : Nat → Prop) (W1 : va_W) (tys : List (ClassId × FieldType)) (t : State) : Prop :=
  va_P (dC, dI) vwCl W1 t.heap ∧ va_K (dC, dI) vwCl tys t ∧ va_D A W1
theorem zPre.blind {av : List Value} {dC : Nat → ClassId} {dI : Nat → Nat → Nat} {sz : Nat} {W0 : va_W} {tys : List (ClassId × FieldType)} : FrameBlind (va_Pc av (zPre dC dI sz W0 tys)) := by
  intro a U g mk q
  obtain ⟨q0, q1, qZ, qP, qK, qD⟩ := q
  exact ⟨q0, q1, qZ.calling, qP, va_K.moved (u := U) (U := U.calling g mk a) (Vm.Alike.refl U.vm) qK, qD⟩
theorem zPre.go {av : List Value} {dC : Nat → ClassId} {dI : Nat → Nat → Nat} {W0 : va_W} {tys : List (ClassId × FieldType)} {s : State} {H : Heap} {A : Nat → Prop} (hZ : zAMB s) (hP : va_P (dC, dI) vwCl W0 H) (hK : va_K (dC, dI) vwCl tys s) (hD : va_D A W0) :
    ∀ U : State, U.heap = H → s.WarmedH U.vm → va_Pc av (zPre dC dI H.size W0 tys) av.toArray U :=
  fun _ hU hW => ⟨rfl, by rw [hU], hZ.warm hW, by rw [hU]; exact hP, va_K.moved hW.alike hK, hD.weaken (fun _ _ _ _ => trivial)⟩
theorem z_t0 : (0 : Int32).toInt = 0 := by decide
theorem z_vpin {x : Int32} (h1 : ¬ x < 0) (h2 : ¬ 8 ≤ x) : vp_in x 8 := by
  rw [vp_in_iff]
  have a := Int32.le_iff_toInt_le.mp (Int32.not_lt.mp h1)
  have b := Int32.lt_iff_toInt_lt.mp (Int32.not_le.mp h2)
  have e8 : (8 : Int32).toInt = 8 := by decide
  rw [z_t0] at a
  rw [e8] at b
  omega
theorem z_four {a : Int32} (h : ¬ a < 0 ∧ ¬ 4 ≤ a) : a = 0 ∨ a = 1 ∨ a = 2 ∨ a = 3 := by
  have x := Int32.le_iff_toInt_le.mp (Int32.not_lt.mp h.1)
  have y := Int32.lt_iff_toInt_lt.mp (Int32.not_le.mp h.2)
  have e4 : (4 : Int32).toInt = 4 := by decide
  have e1 : (1 : Int32).toInt = 1 := by decide
  have e2 : (2 : Int32).toInt = 2 := by decide
  have e3 : (3 : Int32).toInt = 3 := by decide
  rw [z_t0] at x
  rw [e4] at y
  rcases (show a.toInt = 0 ∨ a.toInt = 1 ∨ a.toInt = 2 ∨ a.toInt = 3 by omega) with h | h | h | h
  · exact Or.inl (Int32.toInt_inj.mp (h.trans z_t0.symm))
  · exact Or.inr (Or.inl (Int32.toInt_inj.mp (h.trans e1.symm)))
  · exact Or.inr (Or.inr (Or.inl (Int32.toInt_inj.mp (h.trans e2.symm))))
  · exact Or.inr (Or.inr (Or.inr (Int32.toInt_inj.mp (h.trans e3.symm))))
theorem z_34 {x : Int32} (h : ¬ 3 < x) : ¬ 4 ≤ x := by
  intro g
  have a := Int32.le_iff_toInt_le.mp g
  have b := Int32.le_iff_toInt_le.mp (Int32.not_lt.mp h)
  have e3 : (3 : Int32).toInt = 3 := by decide
  have e4 : (4 : Int32).toInt = 4 := by decide
  rw [e4] at a
  rw [e3] at b
  omega
theorem z_78 {x : Int32} (h : ¬ 7 < x) : ¬ 8 ≤ x := by
  intro g
  have a := Int32.le_iff_toInt_le.mp g
  have b := Int32.le_iff_toInt_le.mp (Int32.not_lt.mp h)
  have e3 : (7 : Int32).toInt = 7 := by decide
  have e4 : (8 : Int32).toInt = 8 := by decide
  rw [e4] at a
  rw [e3] at b
  omega
theorem z_four3 {a : Int32} (h : ¬ a < 0 ∧ ¬ 3 < a) : a = 0 ∨ a = 1 ∨ a = 2 ∨ a = 3 := z_four ⟨h.1, z_34 h.2⟩
theorem z_eq0 {n : Int32} (h1 : ¬ n < 0) (h2 : n ≤ 0) : n = 0 := Int32.le_antisymm h2 (Int32.not_lt.mp h1)
