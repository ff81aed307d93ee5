/-! both machines: leaving, one record and one frame -/
def LVB (N : Nat) (K : RS → Option (RS)) (σ : RS) : Option (RS) :=
  if ib ((σ.i 99) - 1) 300 then (if (σ.a 100 ((((σ.i 99) - 1) : Int32).toNatClampNeg)) = 1 then (f_X12_row N σ 4 (σ.a 101 ((((σ.i 99) - 1) : Int32).toNatClampNeg))).bind fun p27 => if ib (p27.a 101 ((((σ.i 99) - 1) : Int32).toNatClampNeg)) 8 then K (RS.setI (RS.setA p27 91 (((p27.a 101 ((((σ.i 99) - 1) : Int32).toNatClampNeg)) : Int32).toNatClampNeg) ((p27.a 91 (((p27.a 101 ((((σ.i 99) - 1) : Int32).toNatClampNeg)) : Int32).toNatClampNeg)) - 1)) 99 ((p27.i 99) - 1)) else none else (if (σ.a 100 ((((σ.i 99) - 1) : Int32).toNatClampNeg)) = 2 then K (RS.setI (RS.setI σ 97 (σ.a 101 ((((σ.i 99) - 1) : Int32).toNatClampNeg))) 99 ((σ.i 99) - 1)) else (if (σ.a 100 ((((σ.i 99) - 1) : Int32).toNatClampNeg)) = 4 then (if (σ.a 102 ((((σ.i 99) - 1) : Int32).toNatClampNeg)) = 0 then (f_X12_closeAll N σ ((σ.i 99) - 1)).bind fun p13 => (if (p13.i 110) = 3 then (f_X12_isCaught N p13 ((σ.i 99) - 1)).bind fun p20 => (if p20.1 = 0 then (if 2 ≤ (p20.2.a 102 ((((σ.i 99) - 1) : Int32).toNatClampNeg)) then K (RS.setI p20.2 99 ((p20.2.i 99) - 1)) else (f_X12_finals N p20.2 ((σ.i 99) - 1)).bind fun p24 => (if p24.1 = 0 then K (RS.setI p24.2 99 ((p24.2.i 99) - 1)) else some p24.2)) else some p20.2) else (if 2 ≤ (p13.a 102 ((((σ.i 99) - 1) : Int32).toNatClampNeg)) then K (RS.setI p13 99 ((p13.i 99) - 1)) else (f_X12_finals N p13 ((σ.i 99) - 1)).bind fun p17 => (if p17.1 = 0 then K (RS.setI p17.2 99 ((p17.2.i 99) - 1)) else some p17.2))) else (if 2 ≤ (σ.a 102 ((((σ.i 99) - 1) : Int32).toNatClampNeg)) then K (RS.setI σ 99 ((σ.i 99) - 1)) else (f_X12_finals N σ ((σ.i 99) - 1)).bind fun p10 => (if p10.1 = 0 then K (RS.setI p10.2 99 ((p10.2.i 99) - 1)) else some p10.2))) else K (RS.setI σ 99 ((σ.i 99) - 1))))) else none
/-- the goal is not reached -/
def LVG (r : RS) : Prop := ((r.i 110 = 1 ∨ r.i 110 = 4) ∧ ¬ r.i 99 ≤ r.i 112) ∨ (¬ r.i 110 = 1 ∧ ¬ r.i 110 = 4 ∧ ¬ r.i 99 ≤ 0)
theorem lv_ng {N n : Nat} {r V : RS} (h : LVG r) (g : f_X12_leave_0 N (n + 1) r = some V) : LVB N (f_X12_leave_0 N n) r = some V := by
  have g' : b_X12_leave_0 N (f_X12_leave_0 N n) r = some V := g
  unfold b_X12_leave_0 at g'
  rcases h with ⟨h1 | h1, h2⟩ | ⟨h1, h2, h3⟩
  · rw [if_pos h1, if_neg h2] at g'
    exact g'
  · rw [if_neg (by rw [h1]; decide), if_pos h1, if_neg h2] at g'
    exact g'
  · rw [if_neg h1, if_neg h2, if_neg h3] at g'
    exact g'
/-- the goal of a jump -/
theorem lv_g1 {N n : Nat} {r V : RS} (h1 : r.i 110 = 1) (h2 : r.i 99 ≤ r.i 112) (g : f_X12_leave_0 N (n + 1) r = some V) : V = RS.setI r 92 (r.i 111) := by
  have g' : b_X12_leave_0 N (f_X12_leave_0 N n) r = some V := g
  unfold b_X12_leave_0 at g'
  rw [if_pos h1, if_pos h2] at g'
  exact (Option.some.inj g').symm
/-- the goal of a yield -/
theorem lv_g4 {N n : Nat} {r V : RS} (h1 : r.i 110 = 4) (h2 : r.i 99 ≤ r.i 112) (g : f_X12_leave_0 N (n + 1) r = some V) : ∃ W : RS, W = rPu (RS.setI (RS.setI r 99 (r.i 99 - 1)) 93 (r.a 104 (r.i 99 - 1).toNatClampNeg)) (r.i 113) ∧ V = RS.setI W 92 (W.a 23 (W.a 101 (W.i 99).toNatClampNeg).toNatClampNeg) := by
  have g' : b_X12_leave_0 N (f_X12_leave_0 N n) r = some V := g
  unfold b_X12_leave_0 at g'
  rw [if_neg (by rw [h1]; decide), if_pos h1, if_pos h2] at g'
  obtain ⟨-, g1⟩ := hf_ite g'
  obtain ⟨W, w1, w2⟩ := hf_bind g1
  have w3 := (hf_ite (hf_ite w2).2).2
  exact ⟨W, e_rPu w1, (Option.some.inj w3).symm⟩
/-- no record is left -/
theorem lv_gE {N n : Nat} {r V : RS} (h1 : ¬ r.i 110 = 1) (h2 : ¬ r.i 110 = 4) (h3 : r.i 99 ≤ 0) (g : f_X12_leave_0 N (n + 1) r = some V) : V = RS.setI (RS.setI r 115 (r.i 110)) 92 (-1) := by
  have g' : b_X12_leave_0 N (f_X12_leave_0 N n) r = some V := g
  unfold b_X12_leave_0 at g'
  rw [if_neg h1, if_neg h2, if_pos h3] at g'
  exact (Option.some.inj g').symm
theorem lv_r1 {N : Nat} {K : RS → Option RS} {r V : RS} {k : Nat} (hk : (r.i 99 - 1).toNatClampNeg = k) (h : r.a 100 k = 1) (g : LVB N K r = some V) : ∃ P : RS, f_X12_row N r 4 (r.a 101 k) = some P ∧ ib (P.a 101 k) 8 ∧ K (RS.setI (RS.setA P 91 (P.a 101 k).toNatClampNeg (P.a 91 (P.a 101 k).toNatClampNeg - 1)) 99 (P.i 99 - 1)) = some V := by
  unfold LVB at g
  rw [hk] at g
  obtain ⟨-, g1⟩ := hf_ite g
  rw [if_pos h] at g1
  obtain ⟨P, p1, p2⟩ := hf_bind g1
  obtain ⟨p3, p4⟩ := hf_ite p2
  exact ⟨P, p1, p3, p4⟩
theorem lv_r2 {N : Nat} {K : RS → Option RS} {r V : RS} {k : Nat} (hk : (r.i 99 - 1).toNatClampNeg = k) (h : r.a 100 k = 2) (g : LVB N K r = some V) : K (RS.setI (RS.setI r 97 (r.a 101 k)) 99 (r.i 99 - 1)) = some V := by
  unfold LVB at g
  rw [hk] at g
  obtain ⟨-, g1⟩ := hf_ite g
  rw [if_neg (by rw [h]; decide), if_pos h] at g1
  exact g1
theorem lv_r3 {N : Nat} {K : RS → Option RS} {r V : RS} {k : Nat} (hk : (r.i 99 - 1).toNatClampNeg = k) (h : r.a 100 k = 3) (g : LVB N K r = some V) : K (RS.setI r 99 (r.i 99 - 1)) = some V := by
  unfold LVB at g
  rw [hk] at g
  obtain ⟨-, g1⟩ := hf_ite g
  rw [if_neg (by rw [h]; decide), if_neg (by rw [h]; decide), if_neg (by rw [h]; decide)] at g1
  exact g1
/-- a finally, or none -/
def LVF (N : Nat) (K : RS → Option RS) (r V : RS) (y : Int32) : Prop := ∃ P : Int32 × RS, f_X12_finals N r y = some P ∧ ((P.1 = 0 ∧ K (RS.setI P.2 99 (P.2.i 99 - 1)) = some V) ∨ (¬ P.1 = 0 ∧ P.2 = V))
theorem lv_f {N : Nat} {K : RS → Option RS} {r V : RS} {y : Int32} (g : ((f_X12_finals N r y).bind fun p10 => (if p10.1 = 0 then K (RS.setI p10.2 99 ((p10.2.i 99) - 1)) else some p10.2)) = some V) : LVF N K r V y := by
  obtain ⟨P, p1, p2⟩ := hf_bind g
  refine ⟨P, p1, ?_⟩
  by_cases c : P.1 = 0
  · rw [if_pos c] at p2
    exact Or.inl ⟨c, p2⟩
  · rw [if_neg c] at p2
    exact Or.inr ⟨c, Option.some.inj p2⟩
theorem lv_r42 {N : Nat} {K : RS → Option RS} {r V : RS} {k : Nat} (hk : (r.i 99 - 1).toNatClampNeg = k) (h : r.a 100 k = 4) (hb : r.a 102 k = 2) (g : LVB N K r = some V) : K (RS.setI r 99 (r.i 99 - 1)) = some V := by
  unfold LVB at g
  rw [hk] at g
  obtain ⟨-, g1⟩ := hf_ite g
  rw [if_neg (by rw [h]; decide), if_neg (by rw [h]; decide), if_pos h, if_neg (by rw [hb]; decide), if_pos (by rw [hb]; decide)] at g1
  exact g1
theorem lv_r41 {N : Nat} {K : RS → Option RS} {r V : RS} {k : Nat} (hk : (r.i 99 - 1).toNatClampNeg = k) (h : r.a 100 k = 4) (hb : r.a 102 k = 1) (g : LVB N K r = some V) : LVF N K r V (r.i 99 - 1) := by
  unfold LVB at g
  rw [hk] at g
  obtain ⟨-, g1⟩ := hf_ite g
  rw [if_neg (by rw [h]; decide), if_neg (by rw [h]; decide), if_pos h, if_neg (by rw [hb]; decide), if_neg (by rw [hb]; decide)] at g1
  exact lv_f g1
theorem lv_r40 {N : Nat} {K : RS → Option RS} {r V : RS} {k : Nat} (hk : (r.i 99 - 1).toNatClampNeg = k) (h : r.a 100 k = 4) (hb : r.a 102 k = 0) (g : LVB N K r = some V) : ∃ P : RS, f_X12_closeAll N r (r.i 99 - 1) = some P ∧ ((P.i 110 = 3 ∧ ∃ Q : Int32 × RS, f_X12_isCaught N P (r.i 99 - 1) = some Q ∧ ((¬ Q.1 = 0 ∧ Q.2 = V) ∨ (Q.1 = 0 ∧ (Q.2.a 102 k = 0 → LVF N K Q.2 V (r.i 99 - 1))))) ∨ (¬ P.i 110 = 3 ∧ (P.a 102 k = 0 → LVF N K P V (r.i 99 - 1)))) := by
  unfold LVB at g
  rw [hk] at g
  obtain ⟨-, g1⟩ := hf_ite g
  rw [if_neg (by rw [h]; decide), if_neg (by rw [h]; decide), if_pos h, if_pos hb] at g1
  obtain ⟨P, p1, p2⟩ := hf_bind g1
  refine ⟨P, p1, ?_⟩
  by_cases c : P.i 110 = 3
  · rw [if_pos c] at p2
    obtain ⟨Q, q1, q2⟩ := hf_bind p2
    refine Or.inl ⟨c, Q, q1, ?_⟩
    by_cases cq : Q.1 = 0
    · rw [if_pos cq] at q2
      refine Or.inr ⟨cq, fun z => ?_⟩
      rw [if_neg (by rw [z]; decide)] at q2
      exact lv_f q2
    · rw [if_neg cq] at q2
      exact Or.inl ⟨cq, Option.some.inj q2⟩
  · rw [if_neg c] at p2
    refine Or.inr ⟨c, fun z => ?_⟩
    rw [if_neg (by rw [z]; decide)] at p2
    exact lv_f p2
/-- the class: there is a frame to leave -/
def LTG (s : CS) : Prop := s.i 75 - s.i 75 / 32 * 32 < s.i 67
theorem lo_arr {N : Nat} {s S : CS} (h : (s.i 67).toInt = 0 ∨ ∃ d f : Nat, (s.i 67).toInt = (d : Int) + 1 ∧ d < 24 ∧ s.r 61 d = some f ∧ ¬ LTG s) (e : f_X3_leaveOne N s = some ((), S)) : f_X3_arrive N s = some ((), S) := by
  unfold f_X3_leaveOne f_X3_leaveOne_29 at e
  rcases h with h | ⟨d, f, h1, h2, h3, h4⟩
  · rw [e_frE h, ob_some] at e
    have e1 : ((f_X3_arrive N s).bind fun p7 => some ((), p7.2)) = some ((), S) := e
    obtain ⟨P, p1, p2⟩ := hf_bind e1
    rw [p1]
    exact p2
  · rw [e_frT h1 h2 h3, ob_some] at e
    have e1 : ((f_X3_arrive N s).bind fun p7 => some ((), p7.2)) = some ((), S) := (if_neg h4).symm.trans e
    obtain ⟨P, p1, p2⟩ := hf_bind e1
    rw [p1]
    exact p2
theorem lo_top {N d f : Nat} {s S : CS} (h1 : (s.i 67).toInt = (d : Int) + 1) (h2 : d < 24) (h3 : s.r 61 d = some f) (h4 : LTG s) (e : f_X3_leaveOne N s = some ((), S)) : (if (CS.o s f 0) = 1 then (f_X3_leaveBody N s f).bind fun p27 => some ((), p27.2) else (if (CS.o s f 0) = 2 then (if (gAt (s.a 17) 1024 ((CS.o s f 1) + 1)) < 0 then f_X3_leaveOne_87 N s f else (f_X3_enterFinally N s f).bind fun p23 => some ((), p23.2)) else f_X3_leaveOne_87 N s f)) = some ((), S) := by
  unfold f_X3_leaveOne at e
  rw [e_frT h1 h2 h3, ob_some] at e
  have e1 := (if_pos h4).symm.trans e
  exact (hf_ite e1).2
theorem lo_b {N d f : Nat} {s S : CS} (h1 : (s.i 67).toInt = (d : Int) + 1) (h2 : d < 24) (h3 : s.r 61 d = some f) (h4 : LTG s) (ho : s.o f 0 = 1) (e : f_X3_leaveOne N s = some ((), S)) : f_X3_leaveBody N s f = some ((), S) := by
  have z := lo_top h1 h2 h3 h4 e
  rw [if_pos ho] at z
  obtain ⟨P, p1, p2⟩ := hf_bind z
  rw [p1]
  exact p2
theorem lo_0 {N d f : Nat} {s S : CS} (h1 : (s.i 67).toInt = (d : Int) + 1) (h2 : d < 24) (h3 : s.r 61 d = some f) (h4 : LTG s) (ho : s.o f 0 = 0) (e : f_X3_leaveOne N s = some ((), S)) : ∃ P : Unit × CS, f_X3_note N (CS.setI s 71 (s.i 71 - 1)) 4 (s.o f 1) = some P ∧ S = CS.setI P.2 67 (P.2.i 67 - 1) := by
  have z := lo_top h1 h2 h3 h4 e
  rw [if_neg (by rw [ho]; decide), if_neg (by rw [ho]; decide)] at z
  unfold f_X3_leaveOne_87 f_X3_leaveOne_113 at z
  have z1 := (hf_ite z).2
  rw [if_pos ho] at z1
  obtain ⟨P, p1, p2⟩ := hf_bind z1
  exact ⟨P, p1, (congrArg Prod.snd (Option.some.inj p2)).symm⟩
theorem lo_p {N d f : Nat} {s S : CS} (h1 : (s.i 67).toInt = (d : Int) + 1) (h2 : d < 24) (h3 : s.r 61 d = some f) (h4 : LTG s) (ho : s.o f 0 = 3 ∨ (s.o f 0 = 2 ∧ (cTg s (s.o f 1 + 1)).toInt < 0)) (e : f_X3_leaveOne N s = some ((), S)) : S = CS.setI s 67 (s.i 67 - 1) := by
  have z := lo_top h1 h2 h3 h4 e
  unfold f_X3_leaveOne_87 f_X3_leaveOne_113 at z
  rcases ho with ho | ⟨ho, ht⟩
  · rw [if_neg (by rw [ho]; decide), if_neg (by rw [ho]; decide)] at z
    have z1 := (hf_ite z).2
    rw [if_neg (by rw [ho]; decide)] at z1
    exact (congrArg Prod.snd (Option.some.inj z1)).symm
  · rw [if_neg (by rw [ho]; decide), if_pos ho] at z
    have z0 := (if_pos (show gAt (s.a 17) 1024 (s.o f 1 + 1) < 0 by rw [Int32.lt_iff_toInt_lt, z_t0]; exact ht)).symm.trans z
    have z1 := (hf_ite z0).2
    rw [if_neg (by rw [ho]; decide)] at z1
    exact (congrArg Prod.snd (Option.some.inj z1)).symm
/-- a finally begins -/
noncomputable def cFi (s : CS) (f : Nat) : CS := CS.setO (CS.setO (CS.setO (CS.setOt (CS.setO s f 0 3) f s.w) f 5 (s.i 73)) f 6 (s.i 74)) f 7 (s.i 75)
theorem lo_f {N d f : Nat} {s S : CS} (h1 : (s.i 67).toInt = (d : Int) + 1) (h2 : d < 24) (h3 : s.r 61 d = some f) (h4 : LTG s) (ho : s.o f 0 = 2) (ht : ¬ (cTg s (s.o f 1 + 1)).toInt < 0) (e : f_X3_leaveOne N s = some ((), S)) : S = cBg (cFi s f) f ((cFi s f).o f 1 + 1) := by
  have z := lo_top h1 h2 h3 h4 e
  rw [if_neg (by rw [ho]; decide), if_pos ho] at z
  have z0 := (if_neg (show ¬ gAt (s.a 17) 1024 (s.o f 1 + 1) < 0 by rw [Int32.lt_iff_toInt_lt, z_t0]; exact ht)).symm.trans z
  obtain ⟨P, p1, p2⟩ := hf_bind z0
  have eS : S = P.2 := (congrArg Prod.snd (Option.some.inj p2)).symm
  rw [eS]
  unfold f_X3_enterFinally at p1
  have p3 := (hf_ite p1).2
  rw [cw_setO] at p3
  cases hw : s.w with
  | none =>
    rw [hw] at p3
    obtain ⟨Y, hY⟩ : ∃ Y, Y = CS.setO (CS.setO (CS.setO (CS.setOt (CS.setO s f 0 3) f none) f 5 (s.i 73)) f 6 (s.i 74)) f 7 (s.i 75) := ⟨_, rfl⟩
    have p4 : ((f_X3_begin N Y f (Y.o f 1 + 1)).bind fun p4 => some ((), p4.2)) = some P := by
      rw [hY]
      exact p3
    have eY : cFi s f = Y := by
      rw [hY]
      unfold cFi
      rw [hw]
    rw [eY]
    clear hY eY p3
    obtain ⟨B, b1, b2⟩ := hf_bind p4
    unfold f_X3_begin at b1
    have b3 := Option.some.inj (hf_ite b1).2
    have b4 := Option.some.inj b2
    rw [← b4, ← b3]
    unfold cBg
    rw [ca_setI]
  | some b =>
    rw [hw] at p3
    obtain ⟨Y, hY⟩ : ∃ Y, Y = CS.setO (CS.setO (CS.setO (CS.setOt (CS.setO s f 0 3) f (some b)) f 5 (s.i 73)) f 6 (s.i 74)) f 7 (s.i 75) := ⟨_, rfl⟩
    have p4 : ((f_X3_begin N Y f (Y.o f 1 + 1)).bind fun p8 => some ((), p8.2)) = some P := by
      rw [hY]
      exact p3
    have eY : cFi s f = Y := by
      rw [hY]
      unfold cFi
      rw [hw]
    rw [eY]
    clear hY eY p3
    obtain ⟨B, b1, b2⟩ := hf_bind p4
    unfold f_X3_begin at b1
    have b3 := Option.some.inj (hf_ite b1).2
    have b4 := Option.some.inj b2
    rw [← b4, ← b3]
    unfold cBg
    rw [ca_setI]
