/-! the class's machine: instructions -/
theorem q_isUnder2 {N : Nat} {s : CS} {x2 : Int32} : ∀ (n : Nat) (x3 x4 : Int32), 0 ≤ x4.toInt → x4.toInt ≤ 12 → 12 - x4.toInt < n → ok (f_X10_isUnder_5 N n s x2 x3 x4) (fun R => R.2 = s ∧ (R.1 = 0 ∨ R.1 = 1))
  | 0, _, _, _, _, h => by omega
  | n + 1, x3, x4, h0, h12, hn => by
    show ok (b_X10_isUnder_5 N (f_X10_isUnder_5 N n) s x2 x3 x4) _
    unfold b_X10_isUnder_5 f_X10_isUnder_38
    have e12 : (12 : Int32).toInt = 12 := by decide
    have e1 : (1 : Int32).toInt = 1 := by decide
    refine ok_ite (fun _ => ok_some ⟨rfl, Or.inl rfl⟩) (fun c => ok_ite (fun _ => ok_some ⟨rfl, Or.inl rfl⟩) (fun _ => ok_ite (fun _ => ok_some ⟨rfl, Or.inr rfl⟩) (fun _ => ?_)))
    have l1 : x4.toInt < 12 := by
      have := lt_int (Int32.not_le.mp c)
      rw [e12] at this; exact this
    have es : (x4 + 1).toInt = x4.toInt + 1 := by rw [toInt_add] <;> rw [e1] <;> omega
    exact q_isUnder2 n _ (x4 + 1) (by omega) (by omega) (by omega)
theorem q_isUnder {N : Nat} (hN : 1000 ≤ N) {s : CS} {x1 x2 : Int32} : ok (f_X10_isUnder N s x1 x2) (fun R => R.2 = s ∧ (R.1 = 0 ∨ R.1 = 1)) := q_isUnder2 N x1 0 (by decide) (by decide) (by rw [z_t0]; omega)
theorem q_divide {N : Nat} (hN : 1000 ≤ N) {H : Nat} {s : CS} (hr : REFS s) (hm : ROOM H s) (h0d : 0 ≤ dpI s) (hd : dpI s ≤ 22) (x y z : Int32) : ok (f_X3_divide N s x y z) (fun R => PQ s R.2 ∨ RSD H s R.2) := by
  unfold f_X3_divide
  refine ok_ite (fun _ => ok_bind (q_raise hN hr hm h0d hd 2 0) (fun p hp => ok_some (Or.inr hp))) (fun c => ok_ite (fun _ => ?_) (fun _ => ?_))
  · rw [if_neg c]; exact ok_bind (q_push N s _) (fun p hp => ok_some (Or.inl hp))
  · rw [if_neg c]; exact ok_bind (q_push N s _) (fun p hp => ok_some (Or.inl hp))
theorem q_combine {N : Nat} (hN : 1000 ≤ N) {H : Nat} {s : CS} (hr : REFS s) (hm : ROOM H s) (h0d : 0 ≤ dpI s) (hd : dpI s ≤ 22) (x : Int32) : ok (f_X3_combine N s x) (fun R => PQ s R.2 ∨ ∃ X, PQ s X ∧ RSD H X R.2) := by
  unfold f_X3_combine
  refine ok_bind (q_pop N s) (fun p hp => ok_bind (q_pop N p.2) (fun q hq => ?_))
  have hpq : PQ s q.2 := hp.tr hq
  have pp : ∀ (X : CS) (v : Int32), PQ s X → ok ((f_X3_push N X v).bind fun p => some ((), p.2)) (fun R => PQ s R.2 ∨ ∃ X, PQ s X ∧ RSD H X R.2) := fun X v hX => ok_bind (q_push N X v) (fun p hp => ok_some (Or.inl (hX.tr hp)))
  refine ok_ite (fun _ => ok_ite (fun _ => pp _ _ hpq) (fun _ => ok_ite (fun _ => pp _ _ hpq) (fun _ => ok_ite (fun _ => pp _ _ hpq) (fun _ => ?_)))) (fun _ => ?_)
  · have ed : dpI q.2 = dpI s := by unfold dpI; rw [hpq.1.2.1 67 (by omega)]
    refine ok_bind (q_divide hN (hpq.1.refs hr) (hpq.1.room hm) (by rw [ed]; exact h0d) (by rw [ed]; exact hd) _ _ _) (fun r hr' => ok_some ?_)
    rcases hr' with z | z
    · exact Or.inl (hpq.tr z)
    · exact Or.inr ⟨q.2, hpq, z⟩
  · refine ok_bind (q_compares N q.2 _ _ _) (fun r hr' => ?_)
    rw [hr']
    exact ok_ite (fun _ => pp _ _ hpq) (fun _ => pp _ _ hpq)
theorem q_fill {N : Nat} {s : CS} {x1 : Int32} : ∀ (n : Nat) (X : CS) (x3 : Int32), PQ s X → -1 ≤ x3.toInt → x3.toInt < n → ok (f_X3_fillRow_29 N (n + 1) X x1 x3) (fun R => PQ s R.2)
  | n, X, x3, hX, h1, hn => by
    show ok (b_X3_fillRow_29 N (f_X3_fillRow_29 N n) X x1 x3) _
    unfold b_X3_fillRow_29
    refine ok_ite (fun _ => ok_some hX) (fun c => ?_)
    have ge : 0 ≤ x3.toInt := by
      have := le_int (Int32.not_lt.mp c)
      rw [z_t0] at this; exact this
    have e1 : (-1 : Int32).toInt = -1 := by decide
    have l2 := Int32.toInt_lt x3
    have es : (x3 + (-1)).toInt = x3.toInt - 1 := by rw [toInt_add] <;> rw [e1] <;> omega
    refine ok_bind (q_pop N X) (fun p hp => ?_)
    obtain ⟨n', rfl⟩ : ∃ n', n = n' + 1 := ⟨n - 1, by omega⟩
    exact q_fill n' _ (x3 + (-1)) (hX.tr ⟨hp.1.a 59 _ (by decide), hp.2⟩) (by omega) (by omega)
  termination_by n => n
theorem q_fillRow {N : Nat} (hN : 10000000000 ≤ N) (s : CS) (x : Int32) : ok (f_X3_fillRow N s x) (fun R => PQ s R.2) := by
  unfold f_X3_fillRow
  refine ok_bind (q_pop N s) (fun p hp => ?_)
  obtain ⟨N', rfl⟩ : ∃ N', N = N' + 1 := ⟨N - 1, by omega⟩
  have hX : PQ s (CS.putA (CS.putA p.2 59 (gPut (p.2.a 59) 720 x 0)) 59 (gPut (CS.a (CS.putA p.2 59 (gPut (p.2.a 59) 720 x 0)) 59) 720 (x + 1) p.1)) := hp.tr ⟨((PV.rf p.2).a 59 _ (by decide)).a 59 _ (by decide), rfl⟩
  generalize CS.putA (CS.putA p.2 59 (gPut (p.2.a 59) 720 x 0)) 59 (gPut (CS.a (CS.putA p.2 59 (gPut (p.2.a 59) 720 x 0)) 59) 720 (x + 1) p.1) = X at hX ⊢
  by_cases c : -1 ≤ (p.1 - 1).toInt
  · have := Int32.toInt_lt (p.1 - 1)
    exact q_fill N' X (p.1 - 1) hX c (by omega)
  · show ok (b_X3_fillRow_29 (N' + 1) (f_X3_fillRow_29 (N' + 1) N') X x (p.1 - 1)) _
    unfold b_X3_fillRow_29
    rw [if_pos (Int32.lt_iff_toInt_lt.mpr (by rw [z_t0]; omega))]
    exact ok_some hX
/-- what an instruction that steers does to the place -/
def STR (s R : CS) (x y : Int32) : Prop := PV s R ∧ ((R.i 66 = s.i 66 ∧ ¬ x = 30) ∨ (R.i 66 = tg s y ∧ x.toInt ≤ 35))
theorem q_goIf {N : Nat} {s X : CS} {z y : Int32} (hX : PQ s X) : ok (f_X3_goIf N X z y) (fun R => PV s R.2 ∧ (R.2.i 66 = s.i 66 ∨ R.2.i 66 = tg s y)) := by
  unfold f_X3_goIf
  refine ok_ite (fun _ => ok_some ⟨hX.1, Or.inl hX.2⟩) (fun _ => ok_some ⟨hX.1.i 66 _ (by decide), Or.inr ?_⟩)
  show (CS.setI X 66 (gAt (X.a 17) 1024 y)).i 66 = _
  rw [ci_at, hX.1.2.2 17 (by omega)]
  rfl
theorem q_keep {N : Nat} {s : CS} {z y : Int32} : ok (f_X3_keep N s z y) (fun R => PV s R.2 ∧ (R.2.i 66 = s.i 66 ∨ R.2.i 66 = tg s y)) := by
  unfold f_X3_keep
  have k22 : ∀ v : Int32, ok (f_X3_keep_22 N s z y v) (fun R => PV s R.2 ∧ (R.2.i 66 = s.i 66 ∨ R.2.i 66 = tg s y)) := fun v => by
    unfold f_X3_keep_22
    refine ok_ite (fun _ => ok_some ⟨(PV.rf s).i 66 _ (by decide), Or.inr ?_⟩) (fun _ => ok_bind (q_pop N s) (fun p hp => ok_some ⟨hp.1, Or.inl hp.2⟩))
    show (CS.setI s 66 (gAt (s.a 17) 1024 y)).i 66 = _
    rw [ci_at]
    rfl
  exact ok_ite (fun _ => k22 0) (fun _ => k22 1)
theorem q_case {N : Nat} {s : CS} {y : Int32} : ok (f_X3_compareCase N s y) (fun R => PV s R.2 ∧ (R.2.i 66 = s.i 66 ∨ R.2.i 66 = tg s y)) := by
  unfold f_X3_compareCase
  refine ok_bind (q_pop N s) (fun p hp => ok_ite (fun _ => ok_bind (q_pop N p.2) (fun q hq => ok_some ?_)) (fun _ => ok_some ⟨hp.1, Or.inl hp.2⟩))
  have h := hp.tr hq
  refine ⟨h.1.i 66 _ (by decide), Or.inr ?_⟩
  show (CS.setI q.2 66 (gAt (q.2.a 17) 1024 y)).i 66 = _
  rw [ci_at, h.1.2.2 17 (by omega)]
  rfl
theorem q_steer {N : Nat} (hN : 10000000000 ≤ N) {s : CS} {x y : Int32} : ok (f_X3_steer N s x y) (fun R => STR s R.2 x y) := by
  unfold f_X3_steer f_X3_steer_83 f_X3_steer_102 f_X3_steer_133 f_X3_steer_174
  have e30 : (30 : Int32).toInt = 30 := by decide
  refine ok_ite (fun c => ok_some ⟨(PV.rf s).i 66 _ (by decide), Or.inr ⟨?_, by rw [c, e30]; omega⟩⟩) (fun c0 => ?_)
  · show (CS.setI s 66 (gAt (s.a 17) 1024 y)).i 66 = _
    rw [ci_at]
    rfl
  have two : ∀ {R : CS}, PV s R ∧ (R.i 66 = s.i 66 ∨ R.i 66 = tg s y) → x.toInt ≤ 35 → STR s R x y := fun {R} h hx => ⟨h.1, by
    rcases h.2 with q | q
    · exact Or.inl ⟨q, c0⟩
    · exact Or.inr ⟨q, hx⟩⟩
  have one : ∀ {R : CS}, PQ s R → STR s R x y := fun {R} h => ⟨h.1, Or.inl ⟨h.2, c0⟩⟩
  refine ok_ite (fun c => ?_) (fun _ => ok_ite (fun c => ?_) (fun _ => ok_ite (fun c => ?_) (fun _ => ok_ite (fun c => ?_) (fun _ => ok_ite (fun c => ?_) (fun _ => ok_ite (fun _ => ?_) (fun _ => ok_ite (fun _ => ?_) (fun _ => ?_)))))))
  · refine ok_bind (q_pop N s) (fun p hp => ok_ite (fun _ => ok_bind (q_goIf hp) (fun q hq => ok_some (two hq (by rw [c]; decide)))) (fun _ => ok_bind (q_goIf hp) (fun q hq => ok_some (two hq (by rw [c]; decide)))))
  · exact ok_ite (fun _ => ok_bind q_keep (fun q hq => ok_some (two hq (by rw [c]; decide)))) (fun _ => ok_bind q_keep (fun q hq => ok_some (two hq (by rw [c]; decide))))
  · exact ok_bind q_keep (fun q hq => ok_some (two hq (by rw [c]; decide)))
  · exact ok_bind q_case (fun q hq => ok_some (two hq (by rw [c]; decide)))
  · exact ok_ite (fun _ => ok_bind (q_goIf (PQ.rf s)) (fun q hq => ok_some (two hq (by rw [c]; decide)))) (fun _ => ok_bind (q_goIf (PQ.rf s)) (fun q hq => ok_some (two hq (by rw [c]; decide))))
  · exact ok_bind (q_fillRow hN s y) (fun q hq => ok_some (one hq))
  · exact ok_ite (fun _ => ok_bind (q_push N s 0) (fun q hq => ok_some (one hq))) (fun _ => ok_bind (q_push N s 1) (fun q hq => ok_some (one hq)))
  · exact ok_bind (q_push N s _) (fun q hq => ok_some (one ⟨hq.1.a 59 _ (by decide), hq.2⟩))
/-- what stands while the machine goes on -/
def MST (H : Nat) (s : CS) (D : Nat → List Nat) (k : Int) (c : List Nat) : Prop := REFS s ∧ ROOM H s ∧ WTC s D ∧ (0 ≤ (s.i 68).toInt ∧ (s.i 68).toInt ≤ k) ∧ ((c.length : Int) = dpI s ∧ c.length ≤ 21) ∧ FRM s D k c ∧ HLD s c ∧ s.i 73 = 0
theorem MST.pv {H : Nat} {s R : CS} {D : Nat → List Nat} {k : Int} {c : List Nat} (h : MST H s D k c) (hp : PV s R) : MST H R D k c := by
  obtain ⟨a1, a2, a3, a4, a5, a6, a7, a8⟩ := h
  refine ⟨hp.refs a1, hp.room a2, hp.ceq.wt a3, by rw [hp.2.1 68 (by omega)]; exact a4, ?_, hp.frm (Int.le_refl _) a6, hp.hld a7, (hp.2.1 73 (by omega)).trans a8⟩
  unfold dpI at *; rw [hp.2.1 67 (by omega)]; exact a5
theorem MST.on {H : Nat} {s : CS} {D : Nat → List Nat} {k n : Int} {c : List Nat} (hk : 0 ≤ k) (h : MST H s D k c) (v : VN s D n c) (e : (s.i 66).toInt = n) : MI H s D (k + 1) := by
  obtain ⟨a1, a2, a3, a4, a5, a6, a7, a8⟩ := h
  exact ⟨a1, a2, a3, by omega, c, a5.1, by omega, (PV.rf s).frm (by omega) a6, Or.inl ⟨a8, a7, v.on (by omega) e⟩⟩
theorem MST.rs {H : Nat} {s R : CS} {D : Nat → List Nat} {k : Int} {c : List Nat} (h : MST H s D k c) (r : RSD H s R) : MI H R D (k + 1) := by
  obtain ⟨a1, a2, a3, a4, a5, a6, a7, a8⟩ := h
  obtain ⟨b1, b2, b3, b4, b5, b6, b7, b8, b9, b10⟩ := r
  refine ⟨b1, b2, b3.ceq.wt a3, by rw [b4 68 (by decide) (by decide) (by decide)]; omega, c, ?_, by omega, b10.frm a1 b3.ceq b9 (by omega) (by omega) a6, Or.inr (Or.inr ⟨Or.inr b5, b6, b10.hld a1 b9 (by rw [List.length_tail]; omega) a7.tail, fun _ => b7⟩)⟩
  unfold dpI at *; rw [b4 67 (by decide) (by decide) (by decide)]; exact a5.1
/-- a way out is taken -/
theorem MST.go {H : Nat} {s : CS} {D : Nat → List Nat} {k : Int} {c : List Nat} (h : MST H s D k c) (w v t : Int32) (hw : (w = 1 ∨ w = 2) ∧ LVT s D t c ∨ w = 3 ∧ t = 0) : MI H (CS.setI (CS.setI (CS.setI s 73 w) 74 v) 75 t) D (k + 1) ∧ MR s (CS.setI (CS.setI (CS.setI s 73 w) 74 v) 75 t) := by
  obtain ⟨a1, a2, a3, a4, a5, a6, a7, a8⟩ := h
  obtain ⟨T, hT⟩ : ∃ T, T = CS.setI (CS.setI (CS.setI s 73 w) 74 v) 75 t := ⟨_, rfl⟩
  have ti : ∀ j : Nat, j ≠ 73 → j ≠ 74 → j ≠ 75 → T.i j = s.i j := fun j q1 q2 q3 => by rw [hT, ci_ne _ _ _ q3, ci_ne _ _ _ q2, ci_ne _ _ _ q1]
  have t73 : T.i 73 = w := by rw [hT, ci_ne _ _ _ (by decide), ci_ne _ _ _ (by decide), ci_at]
  have t75 : T.i 75 = t := by rw [hT, ci_at]
  have base : T.hs = s.hs ∧ T.L = s.L ∧ T.k = s.k ∧ T.o = s.o ∧ T.ol = s.ol ∧ T.ot = s.ot ∧ T.r = s.r ∧ T.w = s.w ∧ T.b = s.b ∧ T.l = s.l ∧ T.a = s.a := by
    rw [hT, chs_setI, chs_setI, chs_setI, cL_setI, cL_setI, cL_setI, ck_setI, ck_setI, ck_setI, co_setI, co_setI, co_setI, col_setI, col_setI, col_setI, cot_setI, cot_setI, cot_setI, cr_setI, cr_setI, cr_setI, cw_setI, cw_setI, cw_setI, cb_setI, cb_setI, cb_setI, cl_setI, cl_setI, cl_setI, ca_setI, ca_setI, ca_setI]
    exact ⟨rfl, rfl, rfl, rfl, rfl, rfl, rfl, rfl, rfl, rfl, rfl⟩
  rw [← hT]
  clear hT
  obtain ⟨b1, b2, b3, b4, b5, b6, b7, b8, b9, b10, b11⟩ := base
  have ok' : ∀ {x t : Nat}, oK T x t = oK s x t := fun {x t} => by unfold oK; rw [b2, b3]
  have mr : MR s T := ⟨fun j hj => ti j (by omega) (by omega) (by omega), fun _ _ => by rw [b11], b9, b10, by rw [b7], fun x hx => ⟨by rw [ok']; exact hx, by rw [b4], by rw [b5]⟩⟩
  have fk : FK s T := fun x hx => ⟨by rw [ok']; exact hx, by rw [b4], by rw [b6]⟩
  have hh : HLD T c := fk.hld a1 (by rw [b7]) (by omega) a7
  refine ⟨⟨?_, ?_, mr.ceq.wt a3, by rw [ti 68 (by decide) (by decide) (by decide)]; omega, c, ?_, by omega, fk.frm a1 mr.ceq (by rw [b7]) (by omega) (by omega) a6, ?_⟩, mr⟩
  · unfold REFS inP oK at *; rw [b1, b2, b3, b6, b7, b8]; exact a1
  · unfold ROOM at *; rw [b1, b7]; exact a2
  · unfold dpI at *; rw [ti 67 (by decide) (by decide) (by decide)]; exact a5.1
  · rcases hw with ⟨q1, q2⟩ | ⟨q1, q2⟩
    · exact Or.inr (Or.inl ⟨by rw [t73]; exact q1, by rw [mr.ceq.lv, t75]; exact q2, hh.tail, Or.inl hh⟩)
    · exact Or.inr (Or.inr ⟨Or.inl (t73.trans q1), t75.trans q2, hh.tail, fun z => by rw [t73, q1] at z; exact absurd z (by decide)⟩)
/-- what a frame holds is thrown again -/
theorem MST.again {H : Nat} {s : CS} {D : Nat → List Nat} {k : Int} {c : List Nat} (h : MST H s D k c) (b : Nat) (hb : inP s b) : MI H (CS.setI (CS.setI (CS.setI (CS.setW s (some b)) 73 4) 74 0) 75 0) D (k + 1) ∧ MR s (CS.setI (CS.setI (CS.setI (CS.setW s (some b)) 73 4) 74 0) 75 0) := by
  obtain ⟨a1, a2, a3, a4, a5, a6, a7, a8⟩ := h
  obtain ⟨T, hT⟩ : ∃ T, T = CS.setI (CS.setI (CS.setI (CS.setW s (some b)) 73 4) 74 0) 75 0 := ⟨_, rfl⟩
  have ti : ∀ j : Nat, j ≠ 73 → j ≠ 74 → j ≠ 75 → T.i j = s.i j := fun j q1 q2 q3 => by rw [hT, ci_ne _ _ _ q3, ci_ne _ _ _ q2, ci_ne _ _ _ q1, ci_setW]
  have t73 : T.i 73 = 4 := by rw [hT, ci_ne _ _ _ (by decide), ci_ne _ _ _ (by decide), ci_at]
  have t75 : T.i 75 = 0 := by rw [hT, ci_at]
  have tw : T.w = some b := by rw [hT, cw_setI, cw_setI, cw_setI, cw_at]
  have base : T.hs = s.hs ∧ T.L = s.L ∧ T.k = s.k ∧ T.o = s.o ∧ T.ol = s.ol ∧ T.ot = s.ot ∧ T.r = s.r ∧ T.b = s.b ∧ T.l = s.l ∧ T.a = s.a := by
    rw [hT, chs_setI, chs_setI, chs_setI, cL_setI, cL_setI, cL_setI, ck_setI, ck_setI, ck_setI, co_setI, co_setI, co_setI, col_setI, col_setI, col_setI, cot_setI, cot_setI, cot_setI, cr_setI, cr_setI, cr_setI, cb_setI, cb_setI, cb_setI, cl_setI, cl_setI, cl_setI, ca_setI, ca_setI, ca_setI, chs_setW, cL_setW, ck_setW, co_setW, col_setW, cot_setW, cr_setW, cb_setW, cl_setW, ca_setW]
    exact ⟨rfl, rfl, rfl, rfl, rfl, rfl, rfl, rfl, rfl, rfl⟩
  rw [← hT]
  clear hT
  obtain ⟨b1, b2, b3, b4, b5, b6, b7, b9, b10, b11⟩ := base
  have ok' : ∀ {x t : Nat}, oK T x t = oK s x t := fun {x t} => by unfold oK; rw [b2, b3]
  have mr : MR s T := ⟨fun j hj => ti j (by omega) (by omega) (by omega), fun _ _ => by rw [b11], b9, b10, by rw [b7], fun x hx => ⟨by rw [ok']; exact hx, by rw [b4], by rw [b5]⟩⟩
  have fk : FK s T := fun x hx => ⟨by rw [ok']; exact hx, by rw [b4], by rw [b6]⟩
  have hh : HLD T c := fk.hld a1 (by rw [b7]) (by omega) a7
  refine ⟨⟨?_, ?_, mr.ceq.wt a3, by rw [ti 68 (by decide) (by decide) (by decide)]; omega, c, ?_, by omega, fk.frm a1 mr.ceq (by rw [b7]) (by omega) (by omega) a6, Or.inr (Or.inr ⟨Or.inr t73, t75, hh.tail, fun _ => by rw [tw]; intro q; cases q⟩)⟩, mr⟩
  · refine ⟨by rw [b1, b2]; exact a1.1, fun i x hi e => by rw [ok']; exact a1.2.1 i x hi (by rw [← b7]; exact e), by rw [b7]; exact a1.2.2.1, fun i x hi e => by rw [ok']; exact a1.2.2.2.1 i x hi (by rw [← b7]; exact e), by rw [b7]; exact a1.2.2.2.2.1, fun i x hi e => by rw [ok', ok', ok']; exact a1.2.2.2.2.2.1 i x hi (by rw [← b7]; exact e), by rw [b7]; exact a1.2.2.2.2.2.2.1, by unfold inP; rw [b6, b7]; exact a1.2.2.2.2.2.2.2.1, fun b' q => ?_⟩
    rw [tw] at q
    cases q
    unfold inP; rw [b7]; exact hb
  · unfold ROOM at *; rw [b1, b7]; exact a2
  · unfold dpI at *; rw [ti 67 (by decide) (by decide) (by decide)]; exact a5.1
