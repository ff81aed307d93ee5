/-! the class's machine: what each instruction does -/
noncomputable def cPu (s : CS) (v : Int32) : CS := CS.setI (CS.putA s 60 (gPut (s.a 60) 600 (s.i 65) v)) 65 (s.i 65 + 1)
noncomputable def cPo (s : CS) : CS := CS.setI s 65 (s.i 65 - 1)
def cTp (s : CS) : Int32 := gAt (s.a 60) 600 (s.i 65 - 1)
theorem e_cPu (N : Nat) (s : CS) (v : Int32) : f_X3_push N s v = some ((), cPu s v) := rfl
theorem e_cPo (N : Nat) (s : CS) : f_X3_pop N s = some (cTp s, cPo s) := rfl
/-- op, argument, and one place on -/
def cOp (s : CS) : Int32 := gAt (s.a 15) 1200 (s.i 66)
def cAr (s : CS) : Int32 := gAt (s.a 16) 1200 (s.i 66)
noncomputable def cNx (s : CS) : CS := CS.setI s 66 (s.i 66 + 1)
theorem xi_mov {N : Nat} {s : CS} {R : Unit × CS} (h : ¬ 7 ≤ cOp s) (e : f_X3_instruction N s = some R) : f_X3_move N (cNx s) (cOp s) (cAr s) = some R := by
  unfold f_X3_instruction at e
  exact ob_un ((if_neg h).symm.trans e)
theorem xi_com {N : Nat} {s : CS} {R : Unit × CS} (h : 7 ≤ cOp s) (h2 : ¬ 30 ≤ cOp s) (e : f_X3_instruction N s = some R) : f_X3_combine N (cNx s) (cOp s) = some R := by
  unfold f_X3_instruction at e
  exact ob_un ((if_neg h2).symm.trans ((if_pos h).symm.trans e))
theorem xi_ste {N : Nat} {s : CS} {R : Unit × CS} (h2 : 30 ≤ cOp s) (h3 : ¬ 50 ≤ cOp s) (h : 7 ≤ cOp s) (e : f_X3_instruction N s = some R) : f_X3_steer N (cNx s) (cOp s) (cAr s) = some R := by
  unfold f_X3_instruction at e
  exact ob_un ((if_neg h3).symm.trans ((if_pos h2).symm.trans ((if_pos h).symm.trans e)))
theorem xi_act {N : Nat} {s : CS} {R : Unit × CS} (h3 : 50 ≤ cOp s) (h4 : ¬ 56 ≤ cOp s) (h2 : 30 ≤ cOp s) (h : 7 ≤ cOp s) (e : f_X3_instruction N s = some R) : f_X3_act N (cNx s) (cOp s) (cAr s) = some R := by
  unfold f_X3_instruction at e
  exact ob_un ((if_neg h4).symm.trans ((if_pos h3).symm.trans ((if_pos h2).symm.trans ((if_pos h).symm.trans e))))
theorem xi_tur {N : Nat} {s : CS} {R : Unit × CS} (h4 : 56 ≤ cOp s) (h3 : 50 ≤ cOp s) (h2 : 30 ≤ cOp s) (h : 7 ≤ cOp s) (e : f_X3_instruction N s = some R) : f_X3_turn N (cNx s) (cOp s) (cAr s) = some R := by
  unfold f_X3_instruction at e
  exact ob_un ((if_pos h4).symm.trans ((if_pos h3).symm.trans ((if_pos h2).symm.trans ((if_pos h).symm.trans e))))
theorem xi_0 {N : Nat} {s : CS} {R : Unit × CS} (h : cOp s = 0) (e : f_X3_instruction N s = some R) : R.2 = cPu (cNx s) (cAr s) := by
  have z := xi_mov (by rw [h]; decide) e
  rw [h] at z
  unfold f_X3_move at z
  rw [if_pos rfl] at z
  rw [← Option.some.inj z]
  rfl
theorem xi_1 {N : Nat} {s : CS} {R : Unit × CS} (h : cOp s = 1) (e : f_X3_instruction N s = some R) : R.2 = cPu (cNx s) (gAt (s.a 59) 720 (cAr s)) := by
  have z := xi_mov (by rw [h]; decide) e
  rw [h] at z
  unfold f_X3_move at z
  rw [if_neg (by decide), if_pos rfl] at z
  rw [← Option.some.inj z]
  rfl
theorem xi_2 {N : Nat} {s : CS} {R : Unit × CS} (h : cOp s = 2) (e : f_X3_instruction N s = some R) : R.2 = CS.putA (cPo (cNx s)) 59 (gPut (s.a 59) 720 (cAr s) (cTp s)) := by
  have z := xi_mov (by rw [h]; decide) e
  rw [h] at z
  unfold f_X3_move at z
  rw [if_neg (by decide), if_neg (by decide), if_pos rfl] at z
  rw [← Option.some.inj z]
  rfl
theorem xi_3 {N : Nat} {s : CS} {R : Unit × CS} (h : cOp s = 3) (e : f_X3_instruction N s = some R) : R.2 = CS.putA (cNx s) 59 (gPut (s.a 59) 720 (cAr s) (gAt (s.a 59) 720 (cAr s) + 1)) := by
  have z := xi_mov (by rw [h]; decide) e
  rw [h] at z
  unfold f_X3_move at z
  rw [if_neg (by decide), if_neg (by decide), if_neg (by decide), if_pos rfl] at z
  rw [← Option.some.inj z]
  rfl
theorem xi_4 {N : Nat} {s : CS} {R : Unit × CS} (h : cOp s = 4) (e : f_X3_instruction N s = some R) : R.2 = cPu (cPo (cNx s)) (-(cTp s)) := by
  have z := xi_mov (by rw [h]; decide) e
  rw [h] at z
  unfold f_X3_move at z
  rw [if_neg (by decide), if_neg (by decide), if_neg (by decide), if_neg (by decide), if_pos rfl] at z
  rw [← Option.some.inj z]
  rfl
theorem xi_5 {N : Nat} {s : CS} {R : Unit × CS} (h : cOp s = 5) (e : f_X3_instruction N s = some R) : R.2 = cPu (cPo (cNx s)) (1 - cTp s) := by
  have z := xi_mov (by rw [h]; decide) e
  rw [h] at z
  unfold f_X3_move at z
  rw [if_neg (by decide), if_neg (by decide), if_neg (by decide), if_neg (by decide), if_neg (by decide), if_pos rfl] at z
  rw [← Option.some.inj z]
  rfl
theorem xi_6 {N : Nat} {s : CS} {R : Unit × CS} (h : cOp s = 6) (e : f_X3_instruction N s = some R) : R.2 = cPo (cNx s) := by
  have z := xi_mov (by rw [h]; decide) e
  rw [h] at z
  unfold f_X3_move at z
  rw [if_neg (by decide), if_neg (by decide), if_neg (by decide), if_neg (by decide), if_neg (by decide), if_neg (by decide)] at z
  rw [← Option.some.inj z]
  rfl
theorem xi_7 {N : Nat} {s : CS} {R : Unit × CS} (h : cOp s = 7) (e : f_X3_instruction N s = some R) : R.2 = cPu (cPo (cPo (cNx s))) (cTp (cPo s) + cTp s) := by
  have z := xi_com (by rw [h]; decide) (by rw [h]; decide) e
  rw [h] at z
  unfold f_X3_combine at z
  rw [e_cPo, ob_some, e_cPo, ob_some, if_pos (by decide), if_pos rfl] at z
  rw [← Option.some.inj z]
  rfl
theorem xi_8 {N : Nat} {s : CS} {R : Unit × CS} (h : cOp s = 8) (e : f_X3_instruction N s = some R) : R.2 = cPu (cPo (cPo (cNx s))) (cTp (cPo s) - cTp s) := by
  have z := xi_com (by rw [h]; decide) (by rw [h]; decide) e
  rw [h] at z
  unfold f_X3_combine at z
  rw [e_cPo, ob_some, e_cPo, ob_some, if_pos (by decide), if_neg (by decide), if_pos rfl] at z
  rw [← Option.some.inj z]
  rfl
theorem xi_9 {N : Nat} {s : CS} {R : Unit × CS} (h : cOp s = 9) (e : f_X3_instruction N s = some R) : R.2 = cPu (cPo (cPo (cNx s))) (cTp (cPo s) * cTp s) := by
  have z := xi_com (by rw [h]; decide) (by rw [h]; decide) e
  rw [h] at z
  unfold f_X3_combine at z
  rw [e_cPo, ob_some, e_cPo, ob_some, if_pos (by decide), if_neg (by decide), if_neg (by decide), if_pos rfl] at z
  rw [← Option.some.inj z]
  rfl
theorem xi_30 {N : Nat} {s : CS} {R : Unit × CS} (h : cOp s = 30) (e : f_X3_instruction N s = some R) : R.2 = CS.setI (cNx s) 66 (gAt (s.a 17) 1024 (cAr s)) := by
  have z := xi_ste (by rw [h]; decide) (by rw [h]; decide) (by rw [h]; decide) e
  rw [h] at z
  unfold f_X3_steer at z
  rw [if_pos rfl] at z
  rw [← Option.some.inj z]
  rfl
theorem xi_31 {N : Nat} {s : CS} {R : Unit × CS} (h : cOp s = 31) (e : f_X3_instruction N s = some R) : R.2 = if cTp s = 0 then CS.setI (cPo (cNx s)) 66 (gAt (s.a 17) 1024 (cAr s)) else cPo (cNx s) := by
  have z := xi_ste (by rw [h]; decide) (by rw [h]; decide) (by rw [h]; decide) e
  rw [h] at z
  unfold f_X3_steer f_X3_steer_83 f_X3_goIf at z
  rw [if_neg (by decide), if_pos rfl, e_cPo, ob_some] at z
  by_cases c : cTp s = 0
  · rw [if_pos c]
    have z1 := (if_pos (show cTp (cNx s) = 0 from c)).symm.trans z
    have z2 : some ((), CS.setI (cPo (cNx s)) 66 (gAt (s.a 17) 1024 (cAr s))) = some R := z1
    rw [← Option.some.inj z2]
  · rw [if_neg c]
    have z1 := (if_neg (show ¬ cTp (cNx s) = 0 from c)).symm.trans z
    have z2 : some ((), cPo (cNx s)) = some R := z1
    rw [← Option.some.inj z2]
theorem xi_51 {N : Nat} {s : CS} {R : Unit × CS} (h : cOp s = 51) (e : f_X3_instruction N s = some R) : f_X3_step N (cNx s) = some R := by
  have z := xi_act (by rw [h]; decide) (by rw [h]; decide) (by rw [h]; decide) (by rw [h]; decide) e
  rw [h] at z
  unfold f_X3_act at z
  rw [if_pos rfl] at z
  exact ob_un z
theorem xi_52 {N : Nat} {s : CS} {R : Unit × CS} (h : cOp s = 52) (e : f_X3_instruction N s = some R) : f_X3_note N (cPo (cNx s)) 0 (cTp s) = some R := by
  have z := xi_act (by rw [h]; decide) (by rw [h]; decide) (by rw [h]; decide) (by rw [h]; decide) e
  rw [h] at z
  unfold f_X3_act at z
  rw [if_neg (by decide), if_pos rfl, e_cPo, ob_some] at z
  exact ob_un z
theorem xi_50 {N : Nat} {s : CS} {R : Unit × CS} (h : cOp s = 50) (e : f_X3_instruction N s = some R) : R.2 = CS.setI (cNx s) 72 0 := by
  have z := xi_act (by rw [h]; decide) (by rw [h]; decide) (by rw [h]; decide) (by rw [h]; decide) e
  rw [h] at z
  unfold f_X3_act at z
  rw [if_neg (by decide), if_neg (by decide), if_neg (by decide), if_neg (by decide), if_neg (by decide)] at z
  rw [← Option.some.inj z]
theorem xi_60 {N : Nat} {s : CS} {R : Unit × CS} (h : cOp s = 60) (e : f_X3_instruction N s = some R) : R.2 = CS.setI (CS.setI (CS.setI (cNx s) 73 1) 74 0) 75 (cAr s) := by
  have z := xi_tur (by rw [h]; decide) (by rw [h]; decide) (by rw [h]; decide) (by rw [h]; decide) e
  rw [h] at z
  unfold f_X3_turn f_X3_go at z
  rw [if_neg (by decide), if_pos rfl] at z
  have z2 : some ((), CS.setI (CS.setI (CS.setI (cNx s) 73 1) 74 0) 75 (cAr s)) = some R := z
  rw [← Option.some.inj z2]
theorem xi_61 {N : Nat} {s : CS} {R : Unit × CS} (h : cOp s = 61) (e : f_X3_instruction N s = some R) : R.2 = CS.setI (CS.setI (CS.setI (cPo (cNx s)) 73 2) 74 (cTp s)) 75 (cAr s) := by
  have z := xi_tur (by rw [h]; decide) (by rw [h]; decide) (by rw [h]; decide) (by rw [h]; decide) e
  rw [h] at z
  unfold f_X3_turn f_X3_go at z
  rw [if_neg (by decide), if_neg (by decide), if_pos rfl, e_cPo, ob_some] at z
  have z2 : some ((), CS.setI (CS.setI (CS.setI (cPo (cNx s)) 73 2) 74 (cTp s)) 75 (cAr s)) = some R := z
  rw [← Option.some.inj z2]
theorem xi_62 {N : Nat} {s : CS} {R : Unit × CS} (h : cOp s = 62) (e : f_X3_instruction N s = some R) : R.2 = CS.setI (CS.setI (CS.setI (cPo (cNx s)) 73 3) 74 (cTp s)) 75 0 := by
  have z := xi_tur (by rw [h]; decide) (by rw [h]; decide) (by rw [h]; decide) (by rw [h]; decide) e
  rw [h] at z
  unfold f_X3_turn f_X3_go at z
  rw [if_neg (by decide), if_neg (by decide), if_neg (by decide), if_pos rfl, e_cPo, ob_some] at z
  have z2 : some ((), CS.setI (CS.setI (CS.setI (cPo (cNx s)) 73 3) 74 (cTp s)) 75 0) = some R := z
  rw [← Option.some.inj z2]
theorem xi_63 {N : Nat} {s : CS} {R : Unit × CS} (h : cOp s = 63) (e : f_X3_instruction N s = some R) : f_X3_raise N (cPo (cNx s)) (cAr s) (cTp s) = some R := by
  have z := xi_tur (by rw [h]; decide) (by rw [h]; decide) (by rw [h]; decide) (by rw [h]; decide) e
  rw [h] at z
  unfold f_X3_turn at z
  rw [if_neg (by decide), if_neg (by decide), if_neg (by decide), if_neg (by decide), if_pos rfl, e_cPo, ob_some] at z
  exact ob_un z
