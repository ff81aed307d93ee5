/-! the class's machine: a run -/
theorem q_instr {N : Nat} (hN : 10000000000 ≤ N) {H : Nat} {s : CS} {D : Nat → List Nat} {k : Int} (hk : 0 ≤ k) (k4 : k ≤ 4000000) (h : MI H s D k) (h0 : s.i 73 = 0) : ok (f_X3_instruction N s) (fun R => (MI H R.2 D (k + 1) ∨ ¬ R.2.i 72 = -1) ∧ MR s R.2 ∧ REFS R.2 ∧ ROOM H R.2) := by
  obtain ⟨a1, a2, a3, a4, c, b1, b2, b3, b4⟩ := (show MI H s D k from h)
  obtain ⟨m1, m2, m3⟩ : s.i 73 = 0 ∧ HLD s c ∧ ONP s D k c := by
    rcases b4 with z | z | z
    · exact z
    · rcases z.1 with q | q <;> rw [h0] at q <;> exact absurd q (by decide)
    · rcases z.1 with q | q <;> rw [h0] at q <;> exact absurd q (by decide)
  obtain ⟨p0, p1, p2⟩ := m3
  have e1 : (1 : Int32).toInt = 1 := by decide
  have es : (s.i 66 + 1).toInt = (s.i 66).toInt + 1 := by rw [toInt_add] <;> rw [e1] <;> omega
  have pvS : PV s (CS.setI s 66 (s.i 66 + 1)) := (PV.rf s).i 66 _ (by decide)
  have S66 : ((CS.setI s 66 (s.i 66 + 1)).i 66).toInt = (s.i 66).toInt + 1 := by rw [ci_at, es]
  have pack : ∀ {R : CS}, MI H R D (k + 1) ∧ MR s R → (MI H R D (k + 1) ∨ ¬ R.i 72 = -1) ∧ MR s R ∧ REFS R ∧ ROOM H R := fun {R} q => ⟨Or.inl q.1, q.2, q.1.1, q.1.2.1⟩
  unfold f_X3_instruction
  by_cases cp : (s.i 66).toInt < 1200
  case neg =>
    have g0 : ∀ f : Nat → Int32, gAt f 1200 (s.i 66) = 0 := fun f => if_neg (fun q => cp (by have := q.2; omega))
    rw [g0, g0]
    have l7 : ¬ (7 : Int32) ≤ 0 := by decide
    rw [if_neg l7]
    refine ok_bind (q_move N _ 0 0) (fun p hp => ok_some (pack ⟨?_, pvS.mr.tr hp.1.mr⟩))
    have pv := pvS.tr hp.1
    refine ⟨pv.refs a1, pv.room a2, pv.ceq.wt a3, by rw [pv.2.1 68 (by omega)]; omega, c, ?_, b2, pv.frm (by omega) b3, Or.inl ⟨(pv.2.1 73 (by omega)).trans h0, pv.hld m2, ?_⟩⟩
    · unfold dpI at *; rw [pv.2.1 67 (by omega)]; exact b1
    · have e : (p.2.i 66).toInt = (s.i 66).toInt + 1 := by rw [hp.2]; exact S66
      unfold ONP
      rw [e]
      exact ⟨by omega, by omega, Or.inl (by omega)⟩
  obtain ⟨q1, q2⟩ := p2.resolve_left (by omega)
  obtain ⟨P, hP⟩ : ∃ P, P = (s.i 66).toInt.toNat := ⟨_, rfl⟩
  have hP' : (P : Int) = (s.i 66).toInt := by rw [hP]; exact Int.toNat_of_nonneg p0
  rw [← hP] at q2
  have cn : (s.i 66).toNatClampNeg = P := by rw [hP]; rfl
  have g1 : ∀ f : Nat → Int32, gAt f 1200 (s.i 66) = f P := fun f => by
    unfold gAt
    rw [if_pos (show ib (s.i 66) 1200 from ⟨p0, by omega⟩), cn]
  rw [g1, g1]
  obtain ⟨hin, hlen⟩ := a3.2.2 P (by omega) (by omega)
  rw [q2] at hlen
  obtain ⟨i1, i2, i3, i4, i5, i6, i7, i8, i9, i10, i11, i12, i13⟩ := hin
  rw [q2] at i1 i2 i3 i4 i5 i6 i7 i8 i9 i10 i11 i12
  obtain ⟨n, hn⟩ : ∃ n, n = (P : Int) + 1 := ⟨_, rfl⟩
  rw [← hn] at i1 i3 i4 i5 i6 i7 i8
  have S66n : ((CS.setI s 66 (s.i 66 + 1)).i 66).toInt = n := by rw [S66, hn]; omega
  have hS0 : MST H s D k c := ⟨a1, a2, a3, a4, ⟨b1, hlen⟩, b3, m2, h0⟩
  have hS := hS0.pv pvS
  have ceq := pvS.ceq
  have mrS := pvS.mr
  generalize CS.setI s 66 (s.i 66 + 1) = X at *
  obtain ⟨o, ho⟩ : ∃ o, o = s.a 15 P := ⟨_, rfl⟩
  obtain ⟨y, hy⟩ : ∃ y, y = s.a 16 P := ⟨_, rfl⟩
  rw [← ho, ← hy]
  rw [← ho] at i1 i2 i3 i4 i5 i6 i7 i8 i9 i10 i11 i12 i13
  rw [← hy] at i2 i3 i7 i8 i11 i12
  clear ho hy
  rw [← ceq.vn] at i1 i3 i4 i5 i6 i7 i8
  rw [← ceq.vt] at i2 i3 i8
  rw [← ceq.hn] at i7
  rw [← ceq.lv] at i11
  have t7 : (7 : Int32).toInt = 7 := by decide
  have t30 : (30 : Int32).toInt = 30 := by decide
  have t50 : (50 : Int32).toInt = 50 := by decide
  have t56 : (56 : Int32).toInt = 56 := by decide
  have le : ∀ {z : Int32}, z ≤ o → z.toInt ≤ o.toInt := fun q => le_int q
  have lt : ∀ {z : Int32}, ¬ z ≤ o → o.toInt < z.toInt := fun q => lt_int (Int32.not_le.mp q)
  have eqI : ∀ {z : Int32}, o = z → o.toInt = z.toInt := fun q => by rw [q]
  have t51 : (51 : Int32).toInt = 51 := by decide
  have t52 : (52 : Int32).toInt = 52 := by decide
  have t53 : (53 : Int32).toInt = 53 := by decide
  have t54 : (54 : Int32).toInt = 54 := by decide
  have t55 : (55 : Int32).toInt = 55 := by decide
  have t57 : (57 : Int32).toInt = 57 := by decide
  have t58 : (58 : Int32).toInt = 58 := by decide
  have t59 : (59 : Int32).toInt = 59 := by decide
  have t60 : (60 : Int32).toInt = 60 := by decide
  have t61 : (61 : Int32).toInt = 61 := by decide
  have t64 : (64 : Int32).toInt = 64 := by decide
  have pq : ∀ {R : CS}, PQ X R → VN X D n c → MI H R D (k + 1) ∧ MR s R := fun {R} q v => by
    have v' : VN R D n c := by rw [q.1.ceq.vn]; exact v
    exact ⟨(hS.pv q.1).on hk v' (by rw [q.2]; exact S66n), mrS.tr q.1.mr⟩
  refine ok_ite (fun c7 => ok_ite (fun c30 => ok_ite (fun c50 => ok_ite (fun c56 => ?_) (fun c56 => ?_)) (fun c50 => ?_)) (fun c30 => ?_)) (fun c7 => ?_)
  · have l := le c56
    rw [t56] at l
    refine ok_bind (q_turn hN hk hS S66n ⟨l, i13⟩ (fun q => i5 (Or.inr (Or.inr (Or.inr (by rw [eqI q, t57]))))) (fun q => i8 (by rw [eqI q, t56])) (fun q => i9 (by rw [eqI q, t58])) (fun q => i10 (by rw [eqI q, t59])) (fun q => i11 ?_) (fun q => i12 (by rw [eqI q, t64]))) (fun p hp => ok_some (pack ⟨hp.1, mrS.tr hp.2⟩))
    rcases q with q | q
    · exact Or.inl (by rw [eqI q, t60])
    · exact Or.inr (by rw [eqI q, t61])
  · refine ok_bind (q_act hN hk k4 hS S66n (fun q => i5 ?_) (fun q => i6 (by rw [eqI q, t53])) (fun q => i7 (by rw [eqI q, t54])) (fun _ => True.intro)) (fun p hp => ok_some ⟨hp.1, mrS.tr hp.2.1, hp.2.2⟩)
    rcases q with q | q | q
    · exact Or.inl (by rw [eqI q, t51])
    · exact Or.inr (Or.inl (by rw [eqI q, t52]))
    · exact Or.inr (Or.inr (Or.inl (by rw [eqI q, t55])))
  · have l1 := le c30
    have l2 := lt c50
    rw [t30] at l1
    rw [t50] at l2
    refine ok_bind (q_steer hN) (fun p hp => ok_some (pack ?_))
    obtain ⟨pv, z⟩ := hp
    rcases z with ⟨z1, z2⟩ | ⟨z1, z2⟩
    · refine pq ⟨pv, z1⟩ ?_
      have n30 : ¬ o.toInt = 30 := fun q => z2 (Int32.toInt_inj.mp (by rw [t30]; exact q))
      by_cases c35 : o.toInt ≤ 35
      · exact (i3 (by omega) c35).2
      · exact i4 (by omega) l2
    · have v : VT X D y c := by
        by_cases q : o.toInt = 30
        · exact i2 q
        · exact (i3 (by omega) z2).1
      have v' : VT p.2 D y c := by rw [pv.ceq.vt]; exact v
      refine ⟨(hS.pv pv).on (n := (tg p.2 y).toInt) hk v' ?_, mrS.tr pv.mr⟩
      rw [z1]
      unfold tg
      rw [pv.2.2 17 (by omega)]
  · have l2 := lt c30
    rw [t30] at l2
    have hl := hS.2.2.2.2.1
    refine ok_bind (q_combine (by omega) hS.1 hS.2.1 (by omega) (by omega) o) (fun p hp => ok_some (pack ?_))
    rcases hp with z | ⟨Y, z1, z2⟩
    · exact pq z (i1 l2)
    · exact ⟨(hS.pv z1.1).rs z2, (mrS.tr z1.1.mr).tr z2.2.2.1⟩
  · have l2 := lt c7
    rw [t7] at l2
    exact ok_bind (q_move N X o y) (fun p hp => ok_some (pack (pq hp (i1 (by omega)))))
theorem q_ticks {N : Nat} (hN : 10000000000 ≤ N) {H : Nat} {s : CS} {D : Nat → List Nat} : ∀ (n : Nat) (σ : CS) (x3 : Int32), 0 ≤ x3.toInt → x3.toInt ≤ 4000000 → 4000000 - x3.toInt < n → (MI H σ D x3.toInt ∨ ¬ σ.i 72 = -1) → MR s σ → REFS σ → ROOM H σ → ok (f_X3_perform_110 N n σ x3) (fun R => REFS R.2 ∧ ROOM H R.2 ∧ MR s R.2)
  | 0, _, _, _, _, h, _, _, _, _ => by omega
  | n + 1, σ, x3, h0, h4, hn, hi, hm, hr, hro => by
    show ok (b_X3_perform_110 N (f_X3_perform_110 N n) σ x3) _
    unfold b_X3_perform_110 f_X3_perform_148
    have e4 : (4000000 : Int32).toInt = 4000000 := by decide
    have e1 : (1 : Int32).toInt = 1 := by decide
    refine ok_ite (fun _ => ok_some ⟨hr, hro, hm⟩) (fun c => ok_ite (fun c72 => ?_) (fun _ => ok_some ⟨hr, hro, hm⟩))
    have l : x3.toInt < 4000000 := by
      have := lt_int (Int32.not_le.mp c)
      rw [e4] at this; exact this
    have es : (x3 + 1).toInt = x3.toInt + 1 := by rw [toInt_add] <;> rw [e1] <;> omega
    have hM := hi.resolve_right (fun q => q c72)
    refine ok_ite (fun c73 => ?_) (fun c73 => ?_)
    · refine ok_bind (q_instr hN h0 h4 hM c73) (fun p hp => ?_)
      exact q_ticks hN n p.2 (x3 + 1) (by omega) (by omega) (by omega) (by rw [es]; exact hp.1) (hm.tr hp.2.1) hp.2.2.1 hp.2.2.2
    · refine ok_bind (q_leaveOne hN h0 hM c73) (fun p hp => ?_)
      exact q_ticks hN n p.2 (x3 + 1) (by omega) (by omega) (by omega) (by rw [es]; exact Or.inl hp.1) (hm.tr hp.2) hp.1.1 hp.1.2.1
theorem q_perf35 {N : Nat} (hN : 10000000000 ≤ N) {H : Nat} {s X : CS} {D : Nat → List Nat} (hX : PV s X) (hr : REFS s) (hm : ROOM H s) (hw : WTC s D) (x1 x2 : Int32) : ok (f_X3_perform_35 N X x1 x2) (fun R => REFS R.2 ∧ ROOM H R.2 ∧ MR s R.2) := by
  unfold f_X3_perform_35
  obtain ⟨A, hA⟩ : ∃ A, A = CS.putA (CS.putA X 59 (gPut (X.a 59) 720 0 x1)) 59 (gPut (CS.a (CS.putA X 59 (gPut (X.a 59) 720 0 x1)) 59) 720 1 x2) := ⟨_, rfl⟩
  have pA : PV s A := by rw [hA]; exact hX.tr (((PV.rf X).a 59 _ (by decide)).a 59 _ (by decide))
  rw [← hA]
  clear hA
  obtain ⟨B, hB⟩ : ∃ B, B = CS.setI (CS.setI (CS.setI A 65 0) 66 0) 69 0 := ⟨_, rfl⟩
  obtain ⟨T, hT⟩ : ∃ T, T = CS.setI (CS.setW (CS.setI (CS.setI (CS.setI (CS.setI (CS.setI (CS.setI (CS.setI (CS.setI (CS.setI A 65 0) 66 0) 67 0) 68 0) 69 0) 70 0) 71 0) 73 0) 74 0) none) 72 (-1) := ⟨_, rfl⟩
  have ti : ∀ j : Nat, j < 65 ∨ j = 75 → T.i j = A.i j := fun j q => by rw [hT, ci_ne _ _ _ (by omega), ci_setW, ci_ne _ _ _ (by omega), ci_ne _ _ _ (by omega), ci_ne _ _ _ (by omega), ci_ne _ _ _ (by omega), ci_ne _ _ _ (by omega), ci_ne _ _ _ (by omega), ci_ne _ _ _ (by omega), ci_ne _ _ _ (by omega), ci_ne _ _ _ (by omega)]
  have t66 : T.i 66 = 0 := by rw [hT, ci_ne _ _ _ (by decide), ci_setW, ci_ne _ _ _ (by decide), ci_ne _ _ _ (by decide), ci_ne _ _ _ (by decide), ci_ne _ _ _ (by decide), ci_ne _ _ _ (by decide), ci_ne _ _ _ (by decide), ci_ne _ _ _ (by decide), ci_at]
  have t67 : T.i 67 = 0 := by rw [hT, ci_ne _ _ _ (by decide), ci_setW, ci_ne _ _ _ (by decide), ci_ne _ _ _ (by decide), ci_ne _ _ _ (by decide), ci_ne _ _ _ (by decide), ci_ne _ _ _ (by decide), ci_ne _ _ _ (by decide), ci_at]
  have t68 : T.i 68 = 0 := by rw [hT, ci_ne _ _ _ (by decide), ci_setW, ci_ne _ _ _ (by decide), ci_ne _ _ _ (by decide), ci_ne _ _ _ (by decide), ci_ne _ _ _ (by decide), ci_ne _ _ _ (by decide), ci_at]
  have t73 : T.i 73 = 0 := by rw [hT, ci_ne _ _ _ (by decide), ci_setW, ci_ne _ _ _ (by decide), ci_at]
  have tw : T.w = none := by rw [hT, cw_setI, cw_at]
  have base : T.hs = A.hs ∧ T.L = A.L ∧ T.k = A.k ∧ T.o = A.o ∧ T.ol = A.ol ∧ T.ot = A.ot ∧ T.r = A.r ∧ T.b = A.b ∧ T.l = A.l ∧ T.a = A.a := by
    rw [hT]
    refine ⟨?_, ?_, ?_, ?_, ?_, ?_, ?_, ?_, ?_, ?_⟩
    · rw [chs_setI, chs_setW, chs_setI, chs_setI, chs_setI, chs_setI, chs_setI, chs_setI, chs_setI, chs_setI, chs_setI]
    · rw [cL_setI, cL_setW, cL_setI, cL_setI, cL_setI, cL_setI, cL_setI, cL_setI, cL_setI, cL_setI, cL_setI]
    · rw [ck_setI, ck_setW, ck_setI, ck_setI, ck_setI, ck_setI, ck_setI, ck_setI, ck_setI, ck_setI, ck_setI]
    · rw [co_setI, co_setW, co_setI, co_setI, co_setI, co_setI, co_setI, co_setI, co_setI, co_setI, co_setI]
    · rw [col_setI, col_setW, col_setI, col_setI, col_setI, col_setI, col_setI, col_setI, col_setI, col_setI, col_setI]
    · rw [cot_setI, cot_setW, cot_setI, cot_setI, cot_setI, cot_setI, cot_setI, cot_setI, cot_setI, cot_setI, cot_setI]
    · rw [cr_setI, cr_setW, cr_setI, cr_setI, cr_setI, cr_setI, cr_setI, cr_setI, cr_setI, cr_setI, cr_setI]
    · rw [cb_setI, cb_setW, cb_setI, cb_setI, cb_setI, cb_setI, cb_setI, cb_setI, cb_setI, cb_setI, cb_setI]
    · rw [cl_setI, cl_setW, cl_setI, cl_setI, cl_setI, cl_setI, cl_setI, cl_setI, cl_setI, cl_setI, cl_setI]
    · rw [ca_setI, ca_setW, ca_setI, ca_setI, ca_setI, ca_setI, ca_setI, ca_setI, ca_setI, ca_setI, ca_setI]
  rw [← hT]
  clear hT hB B
  obtain ⟨b1, b2, b3, b4, b5, b6, b7, b9, b10, b11⟩ := base
  have ok' : ∀ {x t : Nat}, oK T x t = oK A x t := fun {x t} => by unfold oK; rw [b2, b3]
  have mr : MR A T := ⟨fun j hj => ti j (by omega), fun _ _ => by rw [b11], b9, b10, by rw [b7], fun x hx => ⟨by rw [ok']; exact hx, by rw [b4], by rw [b5]⟩⟩
  have rA := pA.refs hr
  have rT : REFS T := ⟨by rw [b1, b2]; exact rA.1, fun i x hi e => by rw [ok']; exact rA.2.1 i x hi (by rw [← b7]; exact e), by rw [b7]; exact rA.2.2.1, fun i x hi e => by rw [ok']; exact rA.2.2.2.1 i x hi (by rw [← b7]; exact e), by rw [b7]; exact rA.2.2.2.2.1, fun i x hi e => by rw [ok', ok', ok']; exact rA.2.2.2.2.2.1 i x hi (by rw [← b7]; exact e), by rw [b7]; exact rA.2.2.2.2.2.2.1, by unfold inP; rw [b6, b7]; exact rA.2.2.2.2.2.2.2.1, fun b q => by rw [tw] at q; cases q⟩
  have mT : ROOM H T := by
    have := pA.room hm
    unfold ROOM at *; rw [b1, b7]; exact this
  have ceq := pA.ceq.tr mr.ceq
  have wT := ceq.wt hw
  refine q_ticks (D := D) hN N T 0 (by decide) (by decide) (by rw [z_t0]; omega) (Or.inl ⟨rT, mT, wT, by rw [t68]; decide, [], ?_, by show (0 : Nat) ≤ 22; omega, True.intro, Or.inl ⟨t73, True.intro, ?_⟩⟩) (pA.mr.tr mr) rT mT
  · unfold dpI; rw [t67]; decide
  · unfold ONP
    rw [t66, z_t0]
    exact ⟨by omega, by omega, Or.inr ⟨wT.1, wT.2.1⟩⟩
theorem q_perf2 {N : Nat} (hN : 10000000000 ≤ N) {H : Nat} {s : CS} {D : Nat → List Nat} (hr : REFS s) (hm : ROOM H s) (hw : WTC s D) (x1 x2 : Int32) : ∀ (n : Nat) (X : CS) (x3 : Int32), PV s X → 0 ≤ x3.toInt → x3.toInt ≤ 720 → 720 - x3.toInt < n → ok (f_X3_perform_2 N n X x1 x2 x3) (fun R => REFS R.2 ∧ ROOM H R.2 ∧ MR s R.2)
  | 0, _, _, _, _, _, h => by omega
  | n + 1, X, x3, hX, h0, h7, hn => by
    show ok (b_X3_perform_2 N (f_X3_perform_2 N n) X x1 x2 x3) _
    unfold b_X3_perform_2
    have e7 : (720 : Int32).toInt = 720 := by decide
    have e1 : (1 : Int32).toInt = 1 := by decide
    refine ok_ite (fun _ => q_perf35 hN hX hr hm hw x1 x2) (fun _ => ok_ite (fun _ => q_perf35 hN hX hr hm hw x1 x2) (fun c => ?_))
    have l : x3.toInt < 720 := by
      have := lt_int (Int32.not_le.mp c)
      rw [e7] at this; exact this
    have es : (x3 + 1).toInt = x3.toInt + 1 := by rw [toInt_add] <;> rw [e1] <;> omega
    exact ok_chk ⟨h0, l⟩ (q_perf2 hN hr hm hw x1 x2 n _ (x3 + 1) (hX.A 59 _ _ (by decide)) (by omega) (by omega) (by omega))
theorem q_perform {N : Nat} (hN : 10000000000 ≤ N) {H : Nat} {s : CS} {D : Nat → List Nat} (hr : REFS s) (hm : ROOM H s) (hw : WTC s D) (x1 x2 : Int32) : ok (f_X3_perform N s x1 x2) (fun R => REFS R.2 ∧ ROOM H R.2 ∧ MR s R.2) := q_perf2 hN hr hm hw x1 x2 N s 0 (PV.rf s) (by decide) (by decide) (by rw [z_t0]; omega)
