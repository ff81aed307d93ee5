/-! the class's machine: frames looked at, rows of a try, what is thrown again, what goes on -/
theorem e_frm {N : Nat} {s : CS} {x : Int32} {d f : Nat} (hx : x.toInt = (d : Int)) (h1 : (d : Int) < (s.i 67).toInt) (h24 : d < 24) (hf : s.r 61 d = some f) : f_X3_frame N s x = some (some f, s) := by
  unfold f_X3_frame
  have e24 : (24 : Int32).toInt = 24 := by decide
  rw [if_neg (by rw [Int32.lt_iff_toInt_lt, z_t0]; omega), if_neg (by rw [Int32.le_iff_toInt_le]; omega), if_neg (by rw [Int32.le_iff_toInt_le, e24]; omega), if_pos (show ib x 24 from ⟨by omega, by omega⟩), cl_nat hx, hf]
  rfl
theorem e_frT {N : Nat} {s : CS} {d f : Nat} (hx : (s.i 67).toInt = (d : Int) + 1) (h24 : d < 24) (hf : s.r 61 d = some f) : f_X3_frame N s (s.i 67 - 1) = some (some f, s) := e_frm (sub_n1 hx) (by omega) h24 hf
theorem e_frE {N : Nat} {s : CS} (hx : (s.i 67).toInt = 0) : f_X3_frame N s (s.i 67 - 1) = some (none, s) := by
  unfold f_X3_frame f_X3_frame_30
  have e1 : (1 : Int32).toInt = 1 := by decide
  have z : (s.i 67 - 1).toInt = -1 := by
    rw [toInt_sub] <;> rw [e1] <;> omega
  rw [if_pos (by rw [Int32.lt_iff_toInt_lt, z_t0]; omega)]
/-- the frame on top, behind an instruction's first step -/
theorem fr_nx {s : CS} {d f : Nat} (hx : (s.i 67).toInt = (d : Int) + 1) (hf : s.r 61 d = some f) : ((cNx s).i 67).toInt = (d : Int) + 1 ∧ (cNx s).r 61 d = some f := ⟨by rw [cNx_i (by decide)]; exact hx, hf⟩
theorem xi_hnd {N : Nat} {s : CS} {R : Unit × CS} {d f : Nat} (ho : cOp s = 56 ∨ cOp s = 57 ∨ cOp s = 58) (hx : (s.i 67).toInt = (d : Int) + 1) (h24 : d < 24) (hf : s.r 61 d = some f) (e : f_X3_instruction N s = some R) : ∃ Q : Unit × CS, f_X3_handle N (cNx s) (cOp s) (cAr s) (some f) = some Q ∧ R.2 = Q.2 := by
  have z := xi_tur (by rcases ho with h | h | h <;> rw [h] <;> decide) (by rcases ho with h | h | h <;> rw [h] <;> decide) (by rcases ho with h | h | h <;> rw [h] <;> decide) (by rcases ho with h | h | h <;> rw [h] <;> decide) e
  unfold f_X3_turn at z
  obtain ⟨q1, q2⟩ := fr_nx hx hf
  rw [if_neg (by rcases ho with h | h | h <;> rw [h] <;> decide), if_neg (by rcases ho with h | h | h <;> rw [h] <;> decide), if_neg (by rcases ho with h | h | h <;> rw [h] <;> decide), if_neg (by rcases ho with h | h | h <;> rw [h] <;> decide), if_neg (by rcases ho with h | h | h <;> rw [h] <;> decide), if_neg (by rcases ho with h | h | h <;> rw [h] <;> decide), e_frT q1 h24 q2, ob_some] at z
  have z2 : ((f_X3_handle N (cNx s) (cOp s) (cAr s) (some f)).bind fun p73 => some ((), p73.2)) = some R := z
  obtain ⟨Q, w1, w2⟩ := hf_bind z2
  exact ⟨Q, w1, by rw [← Option.some.inj w2]⟩
/-- MATCH -/
theorem xi_56 {N : Nat} (hN : 1000 ≤ N) {s : CS} {R : Unit × CS} {d f b : Nat} (h : cOp s = 56) (hx : (s.i 67).toInt = (d : Int) + 1) (h24 : d < 24) (hf : s.r 61 d = some f) (hb : s.ot f = some b) (e : f_X3_instruction N s = some R) : ∃ v : Int32, f_X10_isUnder N (cNx s) (s.o b 2) (cAr s - cAr s / 16 * 16) = some (v, cNx s) ∧ R.2 = if v = 0 then cNx s else CS.setI (cNx s) 66 (cTg s (cAr s / 16)) := by
  obtain ⟨Q, q1, q2⟩ := xi_hnd (Or.inl h) hx h24 hf e
  rw [h] at q1
  unfold f_X3_handle at q1
  have q3 := (hf_ite (show (if oK (cNx s) f 1 then oCase (CS.ot (cNx s) f) (some ((), cNx s)) (fun a5 => (if (56 : Int32) = 58 then (f_X3_throwAgain N (cNx s) (some f)).bind fun p22 => some ((), p22.2) else (if (56 : Int32) = 57 then oCase (CS.ot (cNx s) f) (none) (fun a20 => if oK (cNx s) a20 2 then some ((), CS.putA (cNx s) 59 (gPut ((cNx s).a 59) 720 (cAr s) (CS.o (cNx s) a20 3))) else none) else oCase (CS.ot (cNx s) f) (none) (fun a9 => if oK (cNx s) a9 2 then (f_X10_isUnder N (cNx s) (CS.o (cNx s) a9 2) (cAr s - cAr s / 16 * 16)).bind fun p11 => (f_X3_goIf N p11.2 p11.1 (cAr s / 16)).bind fun p15 => some ((), p15.2) else none)))) else none) = some Q from q1)).2
  have ot : CS.ot (cNx s) f = some b := hb
  rw [ot] at q3
  have q4 : (if oK (cNx s) b 2 then (f_X10_isUnder N (cNx s) (CS.o (cNx s) b 2) (cAr s - cAr s / 16 * 16)).bind fun p11 => (f_X3_goIf N p11.2 p11.1 (cAr s / 16)).bind fun p15 => some ((), p15.2) else none) = some Q := q3
  obtain ⟨I, i1, i2⟩ := hf_bind (hf_ite q4).2
  obtain ⟨j1, j2⟩ := ok_at (q_isUnder hN) i1
  obtain ⟨G, g1, g2⟩ := hf_bind i2
  have eI : I = (I.1, cNx s) := by rw [← j1]
  refine ⟨I.1, by rw [← eI]; exact i1, ?_⟩
  rw [q2, ← Option.some.inj g2]
  unfold f_X3_goIf at g1
  rw [j1] at g1
  by_cases c : I.1 = 0
  · rw [if_pos c] at g1 ⊢
    rw [← Option.some.inj g1]
  · rw [if_neg c] at g1 ⊢
    rw [← Option.some.inj g1]
    rfl
/-- CAUGHT -/
theorem xi_57 {N : Nat} {s : CS} {R : Unit × CS} {d f b : Nat} (h : cOp s = 57) (hx : (s.i 67).toInt = (d : Int) + 1) (h24 : d < 24) (hf : s.r 61 d = some f) (hb : s.ot f = some b) (e : f_X3_instruction N s = some R) : R.2 = CS.putA (cNx s) 59 (gPut (s.a 59) 720 (cAr s) (s.o b 3)) := by
  obtain ⟨Q, q1, q2⟩ := xi_hnd (Or.inr (Or.inl h)) hx h24 hf e
  rw [h] at q1
  unfold f_X3_handle at q1
  have q3 := (hf_ite (show (if oK (cNx s) f 1 then oCase (CS.ot (cNx s) f) (some ((), cNx s)) (fun a5 => (if (57 : Int32) = 58 then (f_X3_throwAgain N (cNx s) (some f)).bind fun p22 => some ((), p22.2) else (if (57 : Int32) = 57 then oCase (CS.ot (cNx s) f) (none) (fun a20 => if oK (cNx s) a20 2 then some ((), CS.putA (cNx s) 59 (gPut ((cNx s).a 59) 720 (cAr s) (CS.o (cNx s) a20 3))) else none) else oCase (CS.ot (cNx s) f) (none) (fun a9 => if oK (cNx s) a9 2 then (f_X10_isUnder N (cNx s) (CS.o (cNx s) a9 2) (cAr s - cAr s / 16 * 16)).bind fun p11 => (f_X3_goIf N p11.2 p11.1 (cAr s / 16)).bind fun p15 => some ((), p15.2) else none)))) else none) = some Q from q1)).2
  have ot : CS.ot (cNx s) f = some b := hb
  rw [ot] at q3
  have q4 : (if oK (cNx s) b 2 then some ((), CS.putA (cNx s) 59 (gPut ((cNx s).a 59) 720 (cAr s) (CS.o (cNx s) b 3))) else none) = some Q := q3
  rw [q2, ← Option.some.inj (hf_ite q4).2]
  rfl
/-- thrown again -/
noncomputable def cAg (s : CS) (b : Nat) : CS := CS.setI (CS.setI (CS.setI (CS.setW s (some b)) 73 4) 74 0) 75 0
theorem ag_c {N : Nat} {s : CS} {R : Unit × CS} {f b : Nat} (hb : s.ot f = some b) (e : f_X3_throwAgain N s (some f) = some R) : R.2 = cAg s b := by
  unfold f_X3_throwAgain at e
  have e1 := (hf_ite (show (if oK s f 1 then oCase (CS.ot s f) ((f_X3_go N (CS.setW s none) 4 0 0).bind fun p6 => some ((), p6.2)) (fun a5 => (f_X3_go N (CS.setW s (some a5)) 4 0 0).bind fun p10 => some ((), p10.2)) else none) = some R from e)).2
  rw [hb] at e1
  have e2 : ((f_X3_go N (CS.setW s (some b)) 4 0 0).bind fun p10 => some ((), p10.2)) = some R := e1
  unfold f_X3_go at e2
  rw [ob_some] at e2
  rw [← Option.some.inj e2]
  rfl
/-- UNCAUGHT -/
theorem xi_58 {N : Nat} {s : CS} {R : Unit × CS} {d f b : Nat} (h : cOp s = 58) (hx : (s.i 67).toInt = (d : Int) + 1) (h24 : d < 24) (hf : s.r 61 d = some f) (hb : s.ot f = some b) (e : f_X3_instruction N s = some R) : R.2 = cAg (cNx s) b := by
  obtain ⟨Q, q1, q2⟩ := xi_hnd (Or.inr (Or.inr h)) hx h24 hf e
  rw [h] at q1
  unfold f_X3_handle at q1
  have q3 := (hf_ite (show (if oK (cNx s) f 1 then oCase (CS.ot (cNx s) f) (some ((), cNx s)) (fun a5 => (if (58 : Int32) = 58 then (f_X3_throwAgain N (cNx s) (some f)).bind fun p22 => some ((), p22.2) else (if (58 : Int32) = 57 then oCase (CS.ot (cNx s) f) (none) (fun a20 => if oK (cNx s) a20 2 then some ((), CS.putA (cNx s) 59 (gPut ((cNx s).a 59) 720 (cAr s) (CS.o (cNx s) a20 3))) else none) else oCase (CS.ot (cNx s) f) (none) (fun a9 => if oK (cNx s) a9 2 then (f_X10_isUnder N (cNx s) (CS.o (cNx s) a9 2) (cAr s - cAr s / 16 * 16)).bind fun p11 => (f_X3_goIf N p11.2 p11.1 (cAr s / 16)).bind fun p15 => some ((), p15.2) else none)))) else none) = some Q from q1)).2
  have ot : CS.ot (cNx s) f = some b := hb
  rw [ot] at q3
  have q4 : ((f_X3_throwAgain N (cNx s) (some f)).bind fun p22 => some ((), p22.2)) = some Q := q3
  obtain ⟨A, a1, a2⟩ := hf_bind q4
  rw [q2, ← Option.some.inj a2]
  exact ag_c (s := cNx s) hb a1
/-- RETHROW -/
theorem xi_64 {N : Nat} {s : CS} {R : Unit × CS} {d f b : Nat} (h : cOp s = 64) (hx : (cAr s).toInt = (d : Int)) (h1 : (d : Int) < (s.i 67).toInt) (h24 : d < 24) (hf : s.r 61 d = some f) (hb : s.ot f = some b) (e : f_X3_instruction N s = some R) : R.2 = cAg (cNx s) b := by
  have z := xi_tur (by rw [h]; decide) (by rw [h]; decide) (by rw [h]; decide) (by rw [h]; decide) e
  rw [h] at z
  unfold f_X3_turn at z
  have f1 : (d : Int) < ((cNx s).i 67).toInt := by
    rw [cNx_i (by decide)]
    exact h1
  have fe : f_X3_frame N (cNx s) (cAr s) = some (some f, cNx s) := e_frm hx f1 h24 hf
  rw [if_neg (by decide), if_neg (by decide), if_neg (by decide), if_neg (by decide), if_neg (by decide), if_pos rfl, fe, ob_some] at z
  have z2 : ((f_X3_throwAgain N (cNx s) (some f)).bind fun p59 => some ((), p59.2)) = some R := z
  obtain ⟨A, a1, a2⟩ := hf_bind z2
  rw [← Option.some.inj a2]
  exact ag_c (s := cNx s) hb a1
/-- RESUME -/
noncomputable def cRs (s : CS) (f : Nat) : CS := CS.setI (CS.setI (CS.setI (CS.setW (CS.setI s 67 (s.i 67 - 1)) (s.ot f)) 73 (s.o f 5)) 74 (s.o f 6)) 75 (s.o f 7)
theorem xi_59 {N : Nat} {s : CS} {R : Unit × CS} {d f : Nat} (h : cOp s = 59) (hx : (s.i 67).toInt = (d : Int) + 1) (h24 : d < 24) (hf : s.r 61 d = some f) (e : f_X3_instruction N s = some R) : R.2 = cRs (cNx s) f := by
  have z := xi_tur (by rw [h]; decide) (by rw [h]; decide) (by rw [h]; decide) (by rw [h]; decide) e
  rw [h] at z
  unfold f_X3_turn at z
  obtain ⟨q1, q2⟩ := fr_nx hx hf
  rw [if_pos rfl, e_frT q1 h24 q2, ob_some] at z
  have z2 : ((f_X3_resume N (cNx s) (some f)).bind fun p12 => some ((), p12.2)) = some R := z
  obtain ⟨A, a1, a2⟩ := hf_bind z2
  rw [← Option.some.inj a2]
  unfold f_X3_resume at a1
  obtain ⟨S, hS⟩ : ∃ S, S = cNx s := ⟨_, rfl⟩
  rw [← hS] at a1 ⊢
  have a3 := (hf_ite (show (if oK S f 1 then oCase (CS.ot (CS.setI S 67 ((S.i 67) - 1)) f) ((f_X3_go N (CS.setW (CS.setI S 67 ((S.i 67) - 1)) none) (CS.o (CS.setW (CS.setI S 67 ((S.i 67) - 1)) none) f 5) (CS.o (CS.setW (CS.setI S 67 ((S.i 67) - 1)) none) f 6) (CS.o (CS.setW (CS.setI S 67 ((S.i 67) - 1)) none) f 7)).bind fun p6 => some ((), p6.2)) (fun a5 => (f_X3_go N (CS.setW (CS.setI S 67 ((S.i 67) - 1)) (some a5)) (CS.o (CS.setW (CS.setI S 67 ((S.i 67) - 1)) (some a5)) f 5) (CS.o (CS.setW (CS.setI S 67 ((S.i 67) - 1)) (some a5)) f 6) (CS.o (CS.setW (CS.setI S 67 ((S.i 67) - 1)) (some a5)) f 7)).bind fun p10 => some ((), p10.2)) else none) = some A from a1)).2
  unfold cRs
  rw [cot_setI] at a3
  cases ho : S.ot f with
  | none =>
    rw [ho] at a3
    have a4 : ((f_X3_go N (CS.setW (CS.setI S 67 ((S.i 67) - 1)) none) (CS.o (CS.setW (CS.setI S 67 ((S.i 67) - 1)) none) f 5) (CS.o (CS.setW (CS.setI S 67 ((S.i 67) - 1)) none) f 6) (CS.o (CS.setW (CS.setI S 67 ((S.i 67) - 1)) none) f 7)).bind fun p6 => some ((), p6.2)) = some A := a3
    rw [co_setW, co_setI] at a4
    unfold f_X3_go at a4
    rw [ob_some] at a4
    rw [← Option.some.inj a4]
  | some b =>
    rw [ho] at a3
    have a4 : ((f_X3_go N (CS.setW (CS.setI S 67 ((S.i 67) - 1)) (some b)) (CS.o (CS.setW (CS.setI S 67 ((S.i 67) - 1)) (some b)) f 5) (CS.o (CS.setW (CS.setI S 67 ((S.i 67) - 1)) (some b)) f 6) (CS.o (CS.setW (CS.setI S 67 ((S.i 67) - 1)) (some b)) f 7)).bind fun p10 => some ((), p10.2)) = some A := a3
    rw [co_setW, co_setI] at a4
    unfold f_X3_go at a4
    rw [ob_some] at a4
    rw [← Option.some.inj a4]
