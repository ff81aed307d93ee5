/-! the class's machine: one frame is left -/
theorem HLD.tail {s : CS} : ∀ {c : List Nat}, HLD s c → HLD s c.tail
  | [], h => h
  | _ :: _, h => h.2
theorem MW.pv {s R : CS} {D : Nat → List Nat} {k : Int} {c : List Nat} (h : MW s D k c) (hp : PV s R) (e66 : R.i 66 = s.i 66) : MW R D (k + 1) c := by
  have e73 : R.i 73 = s.i 73 := hp.2.1 73 (by omega)
  have e75 : R.i 75 = s.i 75 := hp.2.1 75 (by omega)
  have ew : R.w = s.w := hp.1.2.2.2.2.2.2.2.1
  rcases h with ⟨h1, h2, h3⟩ | ⟨h1, h2, h3, h4⟩ | ⟨h1, h2, h3, h4⟩
  · refine Or.inl ⟨e73.trans h1, hp.hld h2, ?_⟩
    unfold ONP szI at *
    rw [e66, hp.2.1 20 (by omega)]
    exact ⟨h3.1, by omega, h3.2.2⟩
  · refine Or.inr (Or.inl ⟨by rw [e73]; exact h1, by rw [hp.ceq.lv, e75]; exact h2, hp.hld h3, ?_⟩)
    rcases h4 with h4 | h4
    · exact Or.inl (hp.hld h4)
    · exact Or.inr (by unfold GOL at *; rw [e75]; exact h4)
  · exact Or.inr (Or.inr ⟨by rw [e73]; exact h1, e75.trans h2, hp.hld h3, fun q => by rw [ew]; exact h4 (e73.symm.trans q)⟩)
theorem MI.pq {H : Nat} {s R : CS} {D : Nat → List Nat} {k : Int} (h : MI H s D k) (hp : PV s R) (e66 : R.i 66 = s.i 66) : MI H R D (k + 1) := by
  obtain ⟨a1, a2, a3, a4, c, b1, b2, b3, b4⟩ := h
  refine ⟨hp.refs a1, hp.room a2, hp.ceq.wt a3, by rw [hp.2.1 68 (by omega)]; omega, c, ?_, b2, hp.frm (by omega) b3, b4.pv hp e66⟩
  unfold dpI at *; rw [hp.2.1 67 (by omega)]; exact b1
theorem q_top {N : Nat} {s : CS} {D : Nat → List Nat} {k : Int} {c : List Nat} (hl : (c.length : Int) = dpI s) (h22 : c.length ≤ 22) (hf : FRM s D k c) : (c = [] ∧ f_X3_frame N s (s.i 67 - 1) = some (none, s)) ∨ ∃ (ph a : Nat) (r : List Nat), c = ph :: r ∧ f_X3_frame N s (s.i 67 - 1) = some (some a, s) ∧ s.r 61 r.length = some a ∧ oK s a 1 ∧ (s.o a 0).toInt = (ph : Int) ∧ FR1 s D k a ph r ∧ FRM s D k r := by
  have e1 : (1 : Int32).toInt = 1 := by decide
  have e24 : (24 : Int32).toInt = 24 := by decide
  have hl' : (s.i 67).toInt = (c.length : Int) := hl.symm
  have es : (s.i 67 - 1).toInt = (c.length : Int) - 1 := by rw [toInt_sub] <;> rw [e1] <;> omega
  unfold f_X3_frame f_X3_frame_30
  match c, hf, hl', es, h22 with
  | [], _, hl', es, _ =>
    left
    have c0 : s.i 67 - 1 < 0 := Int32.lt_iff_toInt_lt.mpr (by rw [z_t0, es]; show ((0 : Nat) : Int) - 1 < 0; omega)
    exact ⟨rfl, if_pos c0⟩
  | ph :: r, ⟨⟨a, h1, h2, h3, h4⟩, h5⟩, hl', es, h22 =>
    right
    have es : (s.i 67 - 1).toInt = (r.length : Int) := by rw [es]; show ((r.length + 1 : Nat) : Int) - 1 = _; omega
    have hl' : (s.i 67).toInt = (r.length : Int) + 1 := by rw [hl']; show ((r.length + 1 : Nat) : Int) = _; omega
    have h22 : r.length + 1 ≤ 22 := h22
    have c0 : ¬ s.i 67 - 1 < 0 := fun q => by have := lt_int q; rw [z_t0] at this; omega
    have c1 : ¬ s.i 67 ≤ s.i 67 - 1 := fun q => by have := le_int q; omega
    have c2 : ¬ (24 : Int32) ≤ s.i 67 - 1 := fun q => by have := le_int q; omega
    have cn : (s.i 67 - 1).toNatClampNeg = r.length := by
      have := clampI (k := s.i 67 - 1) (by omega)
      omega
    refine ⟨ph, a, r, rfl, ?_, h1, h2, h3, h4, h5⟩
    rw [if_neg c0, if_neg c1, if_neg c2, if_pos (show ib (s.i 67 - 1) 24 from ⟨by omega, by omega⟩), cn, h1]
    rfl
theorem q_arrive {N H : Nat} {s : CS} {D : Nat → List Nat} {k : Int} {c : List Nat} (hk : 0 ≤ k) (h : MI H s D k) (hl : (c.length : Int) = dpI s) (h22 : c.length ≤ 22) (hf : FRM s D k c) (hw : MW s D k c) (h0 : ¬ s.i 73 = 0) (hg : (s.i 73 = 1 ∨ s.i 73 = 2) → HLD s c ∧ VT s D (s.i 75 / 32) c) : ok (f_X3_arrive N s) (fun R => MI H R.2 D (k + 1) ∧ MR s R.2) := by
  unfold f_X3_arrive
  have fin : ∀ X : CS, PQ s X → (s.i 73 = 1 ∨ s.i 73 = 2) → ok (f_X3_arrive_48 N X) (fun R => MI H R.2 D (k + 1) ∧ MR s R.2) := fun X hX hq => by
    obtain ⟨g1, g2⟩ := hg hq
    unfold f_X3_arrive_48
    refine ok_some ?_
    obtain ⟨T, hT⟩ : ∃ T, T = CS.setI (CS.setI X 66 (gAt (X.a 17) 1024 ((X.i 75) / 32))) 73 0 := ⟨_, rfl⟩
    have ti : ∀ j : Nat, j ≠ 66 → j ≠ 73 → T.i j = X.i j := fun j q1 q2 => by rw [hT, ci_ne _ _ _ q2, ci_ne _ _ _ q1]
    have t66 : T.i 66 = tg s (s.i 75 / 32) := by
      rw [hT, ci_ne _ _ _ (by decide), ci_at, hX.1.2.1 75 (by omega), hX.1.2.2 17 (by omega)]
      rfl
    have t73 : T.i 73 = 0 := by rw [hT, ci_at]
    have pv : PV X (CS.setI X 66 (gAt (X.a 17) 1024 ((X.i 75) / 32))) := (PV.rf X).i 66 _ (by decide)
    have base : T.hs = X.hs ∧ T.L = X.L ∧ T.k = X.k ∧ T.o = X.o ∧ T.ol = X.ol ∧ T.ot = X.ot ∧ T.r = X.r ∧ T.w = X.w ∧ T.b = X.b ∧ T.l = X.l ∧ T.a = X.a := by
      rw [hT, chs_setI, chs_setI, cL_setI, cL_setI, ck_setI, ck_setI, co_setI, co_setI, col_setI, col_setI, cot_setI, cot_setI, cr_setI, cr_setI, cw_setI, cw_setI, cb_setI, cb_setI, cl_setI, cl_setI, ca_setI, ca_setI]
      exact ⟨rfl, rfl, rfl, rfl, rfl, rfl, rfl, rfl, rfl, rfl, rfl⟩
    show MI H (CS.setI (CS.setI X 66 (gAt (X.a 17) 1024 ((X.i 75) / 32))) 73 0) D (k + 1) ∧ MR s (CS.setI (CS.setI X 66 (gAt (X.a 17) 1024 ((X.i 75) / 32))) 73 0)
    rw [← hT]
    clear hT pv
    obtain ⟨b1, b2, b3, b4, b5, b6, b7, b8, b9, b10, b11⟩ := base
    have r1 := hX.1.refs h.1
    have r2 := hX.1.room h.2.1
    have ok' : ∀ {x t : Nat}, oK T x t = oK X x t := fun {x t} => by unfold oK; rw [b2, b3]
    have mr : MR X T := ⟨fun j hj => ti j (by omega) (by omega), fun _ _ => by rw [b11], b9, b10, by rw [b7], fun x hx => ⟨by rw [ok']; exact hx, by rw [b4], by rw [b5]⟩⟩
    have ceq := hX.1.ceq.tr mr.ceq
    have fk : ∀ i a : Nat, i < c.length → s.r 61 i = some a → T.r 61 i = some a ∧ (oK s a 1 → oK T a 1) ∧ T.o a = s.o a ∧ T.ot a = s.ot a := fun i a _ e => ⟨by rw [b7, hX.1.1.2.2.2.2.2.2.1]; exact e, fun q => by rw [ok', hX.1.ok1]; exact q, by rw [b4, hX.1.1.2.2.2.1], by rw [b6, hX.1.1.2.2.2.2.2.1]⟩
    refine ⟨⟨?_, ?_, ceq.wt h.2.2.1, ?_, c, ?_, h22, hf.of ceq (by omega) fk, Or.inl ⟨t73, g1.of (fun i a hi e => ⟨(fk i a hi e).1, fun q => by rw [(fk i a hi e).2.2.2]; exact q⟩), ?_⟩⟩, hX.1.mr.tr mr⟩
    · unfold REFS inP oK at *; rw [b1, b2, b3, b6, b7, b8]; exact r1
    · unfold ROOM at *; rw [b1, b7]; exact r2
    · rw [ti 68 (by decide) (by decide), hX.1.2.1 68 (by omega)]; have := h.2.2.2.1; omega
    · unfold dpI at *; rw [ti 67 (by decide) (by decide), hX.1.2.1 67 (by omega)]; exact hl
    · have g2' : VT T D (s.i 75 / 32) c := by rw [ceq.vt]; exact g2
      refine VN.on (n := (tg T (s.i 75 / 32)).toInt) g2' (by omega) ?_
      rw [t66]; unfold tg; rw [ceq.2.2.1]
  have pv72 : ∀ v : Int32, MI H (CS.setI s 72 v) D (k + 1) ∧ MR s (CS.setI s 72 v) := fun v => by
    have pv : PV s (CS.setI s 72 v) := (PV.rf s).i 72 v (by decide)
    exact ⟨h.pq pv (ci_ne _ _ _ (by decide)), pv.mr⟩
  refine ok_ite (fun _ => ok_some (pv72 1)) (fun c3 => ok_ite (fun _ => ok_some (pv72 2)) (fun c4 => ?_))
  have h12 : s.i 73 = 1 ∨ s.i 73 = 2 := by
    rcases hw with q | q | q
    · exact absurd q.1 h0
    · exact q.1
    · rcases q.1 with q | q
      · exact absurd q c3
      · exact absurd q c4
  exact ok_ite (fun _ => ok_bind (q_push N s _) (fun p hp => fin p.2 hp h12)) (fun _ => fin s (PQ.rf s) h12)
theorem q_leaveOne {N : Nat} (hN : 10000000000 ≤ N) {H : Nat} {s : CS} {D : Nat → List Nat} {k : Int} (hk : 0 ≤ k) (h : MI H s D k) (h0 : ¬ s.i 73 = 0) : ok (f_X3_leaveOne N s) (fun R => MI H R.2 D (k + 1) ∧ MR s R.2) := by
  obtain ⟨hr, hm, hwt, h68, c, hl, h22, hf, hw⟩ := (show MI H s D k from h)
  unfold f_X3_leaveOne f_X3_leaveOne_29
  have arr : ((s.i 73 = 1 ∨ s.i 73 = 2) → HLD s c ∧ VT s D (s.i 75 / 32) c) → ok ((f_X3_arrive N s).bind fun p7 => some ((), p7.2)) (fun R => MI H R.2 D (k + 1) ∧ MR s R.2) := fun hg => ok_bind (q_arrive hk h hl h22 hf hw h0 hg) (fun p hp => ok_some hp)
  rcases q_top (N := N) hl h22 hf with ⟨e1, e2⟩ | ⟨ph, a, r, e1, e2, e3, e4, e5, e6, e7⟩
  · rw [e2]
    show ok ((f_X3_arrive N s).bind fun p7 => some ((), p7.2)) _
    refine arr (fun q => ?_)
    rcases hw with z | z | z
    · exact absurd z.1 h0
    · obtain ⟨g, g1, g2, g3⟩ := z.2.1
      rw [e1] at g2 g3 ⊢
      have g2 : g ≤ 0 := g2
      refine ⟨True.intro, ?_⟩
      have e : ([] : List Nat).drop (([] : List Nat).length - g) = [] := List.drop_nil
      rw [e] at g3
      exact g3
    · rcases z.1 with y | y <;> rcases q with q | q <;> rw [y] at q <;> exact absurd q (by decide)
  rw [e2]
  show ok (if ((s.i 75) - (s.i 75) / 32 * 32) < (s.i 67) then if oK s a 1 then (if (CS.o s a 0) = 1 then (f_X3_leaveBody N s a).bind fun p27 => some ((), p27.2) else (if (CS.o s a 0) = 2 then (if (gAt (s.a 17) 1024 ((CS.o s a 1) + 1)) < 0 then f_X3_leaveOne_87 N s a else (f_X3_enterFinally N s a).bind fun p23 => some ((), p23.2)) else f_X3_leaveOne_87 N s a)) else none else ((f_X3_arrive N s).bind fun p7 => some ((), p7.2))) _
  subst e1
  have hl' : (r.length : Int) + 1 = dpI s := by rw [← hl]; show _ = ((r.length + 1 : Nat) : Int); omega
  have h22' : r.length + 1 ≤ 22 := h22
  by_cases cg : ((s.i 75) - (s.i 75) / 32 * 32) < (s.i 67)
  case neg =>
    rw [if_neg cg]
    refine arr (fun q => ?_)
    have ge : dpI s ≤ GOL s := le_int (Int32.not_lt.mp cg)
    rcases hw with z | z | z
    · exact absurd z.1 h0
    · obtain ⟨g, g1, g2, g3⟩ := z.2.1
      have g1' : GOL s = (g : Int) := g1
      have g2' : g ≤ r.length + 1 := g2
      have eg : g = r.length + 1 := by omega
      refine ⟨z.2.2.2.resolve_right (fun y => ?_), ?_⟩
      · have y : GOL s < ((r.length + 1 : Nat) : Int) := y
        omega
      · have e : (ph :: r).drop ((ph :: r).length - g) = ph :: r := by
          have : (ph :: r).length - g = 0 := by show r.length + 1 - g = 0; omega
          rw [this]; rfl
        rw [e] at g3
        exact g3
    · rcases z.1 with y | y <;> rcases q with q | q <;> rw [y] at q <;> exact absurd q (by decide)
  rw [if_pos cg, if_pos e4]
  have lt : GOL s < dpI s := lt_int cg
  have lt' : (s.i 75 - s.i 75 / 32 * 32).toInt < (r.length : Int) + 1 := by rw [hl']; exact lt
  have ht : HLD s r := by
    rcases hw with z | z | z
    · exact absurd z.1 h0
    · exact z.2.2.1
    · exact z.2.2.1
  have way : s.i 73 = 1 ∨ s.i 73 = 2 ∨ s.i 73 = 3 ∨ s.i 73 = 4 := by
    rcases hw with z | z | z
    · exact absurd z.1 h0
    · rcases z.1 with q | q
      · exact Or.inl q
      · exact Or.inr (Or.inl q)
    · rcases z.1 with q | q
      · exact Or.inr (Or.inr (Or.inl q))
      · exact Or.inr (Or.inr (Or.inr q))
  have w12 : (s.i 73 = 1 ∨ s.i 73 = 2) → LVT s D (s.i 75) (ph :: r) := fun q => by
    rcases hw with z | z | z
    · exact absurd z.1 h0
    · exact z.2.1
    · rcases z.1 with y | y <;> rcases q with q | q <;> rw [y] at q <;> exact absurd q (by decide)
  have w34 : (s.i 73 = 3 ∨ s.i 73 = 4) → s.i 75 = 0 ∧ (s.i 73 = 4 → s.w ≠ none) := fun q => by
    rcases hw with z | z | z
    · exact absurd z.1 h0
    · rcases z.1 with y | y <;> rcases q with q | q <;> rw [y] at q <;> exact absurd q (by decide)
    · exact ⟨z.2.1, z.2.2.2⟩
  have dflt : ok (f_X3_leaveOne_87 N s a) (fun R => MI H R.2 D (k + 1) ∧ MR s R.2) := by
    unfold f_X3_leaveOne_87
    rw [if_pos e4]
    have fin : ∀ X : CS, PV s X → ok (f_X3_leaveOne_113 N X) (fun R => MI H R.2 D (k + 1) ∧ MR s R.2) := fun X hX => by
      unfold f_X3_leaveOne_113
      refine ok_some ?_
      obtain ⟨T, hT⟩ : ∃ T, T = CS.setI X 67 ((X.i 67) - 1) := ⟨_, rfl⟩
      have ti : ∀ j : Nat, j ≠ 67 → T.i j = X.i j := fun j q => by rw [hT, ci_ne _ _ _ q]
      have t67 : T.i 67 = s.i 67 - 1 := by rw [hT, ci_at, hX.2.1 67 (by omega)]
      have base : T.hs = X.hs ∧ T.L = X.L ∧ T.k = X.k ∧ T.o = X.o ∧ T.ol = X.ol ∧ T.ot = X.ot ∧ T.r = X.r ∧ T.w = X.w ∧ T.b = X.b ∧ T.l = X.l ∧ T.a = X.a := by
        rw [hT, chs_setI, cL_setI, ck_setI, co_setI, col_setI, cot_setI, cr_setI, cw_setI, cb_setI, cl_setI, ca_setI]
        exact ⟨rfl, rfl, rfl, rfl, rfl, rfl, rfl, rfl, rfl, rfl, rfl⟩
      show MI H (CS.setI X 67 ((X.i 67) - 1)) D (k + 1) ∧ MR s (CS.setI X 67 ((X.i 67) - 1))
      rw [← hT]
      clear hT
      obtain ⟨b1, b2, b3, b4, b5, b6, b7, b8, b9, b10, b11⟩ := base
      have r1 := hX.refs hr
      have r2 := hX.room hm
      have ok' : ∀ {x t : Nat}, oK T x t = oK X x t := fun {x t} => by unfold oK; rw [b2, b3]
      have mr : MR X T := ⟨fun j hj => ti j (by omega), fun _ _ => by rw [b11], b9, b10, by rw [b7], fun x hx => ⟨by rw [ok']; exact hx, by rw [b4], by rw [b5]⟩⟩
      have ceq := hX.ceq.tr mr.ceq
      have fk : ∀ i x : Nat, s.r 61 i = some x → T.r 61 i = some x ∧ (oK s x 1 → oK T x 1) ∧ T.o x = s.o x ∧ T.ot x = s.ot x := fun i x e => ⟨by rw [b7, hX.1.2.2.2.2.2.2.1]; exact e, fun q => by rw [ok', hX.ok1]; exact q, by rw [b4, hX.1.2.2.2.1], by rw [b6, hX.1.2.2.2.2.2.1]⟩
      have hT' : HLD T r := ht.of (fun i x _ e => ⟨(fk i x e).1, fun q => by rw [(fk i x e).2.2.2]; exact q⟩)
      have t73 : T.i 73 = s.i 73 := (ti 73 (by decide)).trans (hX.2.1 73 (by omega))
      have t75 : T.i 75 = s.i 75 := (ti 75 (by decide)).trans (hX.2.1 75 (by omega))
      have e1 : (1 : Int32).toInt = 1 := by decide
      have hl2 : (s.i 67).toInt = (r.length : Int) + 1 := hl'.symm
      refine ⟨⟨?_, ?_, ceq.wt hwt, ?_, r, ?_, by omega, e7.of ceq (by omega) (fun i x _ e => fk i x e), ?_⟩, hX.mr.tr mr⟩
      · unfold REFS inP oK at *; rw [b1, b2, b3, b6, b7, b8]; exact r1
      · unfold ROOM at *; rw [b1, b7]; exact r2
      · rw [ti 68 (by decide), hX.2.1 68 (by omega)]; omega
      · show (r.length : Int) = (T.i 67).toInt
        rw [t67, toInt_sub] <;> rw [e1] <;> omega
      · rcases way with q | q | q | q
        · exact Or.inr (Or.inl ⟨Or.inl (t73.trans q), by rw [ceq.lv, t75]; exact ((w12 (Or.inl q)).g (ph' := 0) lt').2, hT'.tail, Or.inl hT'⟩)
        · exact Or.inr (Or.inl ⟨Or.inr (t73.trans q), by rw [ceq.lv, t75]; exact ((w12 (Or.inr q)).g (ph' := 0) lt').2, hT'.tail, Or.inl hT'⟩)
        · exact Or.inr (Or.inr ⟨Or.inl (t73.trans q), t75.trans (w34 (Or.inl q)).1, hT'.tail, fun z => by rw [t73, q] at z; exact absurd z (by decide)⟩)
        · exact Or.inr (Or.inr ⟨Or.inr (t73.trans q), t75.trans (w34 (Or.inr q)).1, hT'.tail, fun _ => by rw [b8, hX.1.2.2.2.2.2.2.2.1]; exact (w34 (Or.inr q)).2 q⟩)
    refine ok_ite (fun _ => ?_) (fun _ => fin s (PV.rf s))
    refine ok_bind (q_note N (CS.setI s 71 ((s.i 71) - 1)) 4 _) (fun p hp => fin p.2 (((PV.rf s).i 71 _ (by decide)).tr hp.1))
  have a24 : r.length < 24 := by omega
  refine ok_ite (fun c1 => ?_) (fun c1 => ok_ite (fun c2 => ok_ite (fun _ => dflt) (fun c3 => ?_)) (fun _ => dflt))
  · have ph1 : ph = 1 := by
      have t1 : (1 : Int32).toInt = 1 := by decide
      rw [c1, t1] at e5; omega
    refine ok_bind (q_lb hN hr hm (by omega) (by omega) e4 e6.1.1 h68.1) (fun p hp => ok_some ?_)
    obtain ⟨σ, ls, f⟩ := hp
    obtain ⟨⟨⟨f1, f2, f3, f4⟩, f5, f6, f7, f8, f9⟩, f10, f11, f12, ⟨f13, f14⟩, f15⟩ := f
    obtain ⟨l1, l2, l3, l4, l5, l6, l7⟩ := ls
    have qa := l4 a e4
    have okR : ∀ {x t : Nat}, oK p.2 x t = oK σ x t := fun {x t} => by unfold oK; rw [f7, f8]
    have σ61 : σ.r 61 r.length = some a := by rw [l5]; exact e3
    have ceq : CEQ s p.2 := ⟨by rw [f1]; exact l3.2.1 15 (by omega), by rw [f1]; exact l3.2.1 16 (by omega), by rw [f1]; exact l3.2.1 17 (by omega), (f10 20 (by decide) (by decide) (by decide) (by decide)).trans (l3.1 20 (by omega))⟩
    have ceqσ : CEQ σ p.2 := ⟨by rw [f1], by rw [f1], by rw [f1], f10 20 (by decide) (by decide) (by decide) (by decide)⟩
    have fσ : FRM σ D k r := l4.frm hr l3.ceq l5 (Int.le_refl _) (by omega) e7
    have hσ : HLD σ r := l4.hld hr l5 (by omega) ht
    have hR : HLD p.2 r := hσ.tl l1 a24 σ61 (by rw [f4]) (fun x hx => (f12 x hx).2)
    have hnd : HND s D (s.o a 1) r := e6.2.1 (Or.inl ph1)
    have o1 : p.2.o a 1 = s.o a 1 := by rw [f14 1 (by decide), qa.2.1]
    have o3 : p.2.o a 3 = s.o a 3 := by rw [f14 3 (by decide), qa.2.1]
    refine ⟨⟨?_, ?_, ceq.wt hwt, ?_, 2 :: r, ?_, by show r.length + 1 ≤ 22; omega, ⟨⟨a, by rw [f4]; exact σ61, by rw [okR]; exact qa.1, by rw [f13]; decide, ⟨by rw [o3]; have := e6.1; omega, fun _ => by rw [o1, ceq.hn]; exact hnd, fun q => absurd q (by omega)⟩⟩, fσ.tl l1 a24 σ61 ceqσ (by rw [f4]) (by omega) (fun x hx => ⟨fun q => by rw [okR]; exact q, (f12 x hx).1, (f12 x hx).2⟩)⟩, ?_⟩, l3.tr ⟨fun j hj => f10 j (by omega) (by omega) (by omega) (by omega), fun _ _ => by rw [f1], f2, f3, by rw [f4], fun x hx => ⟨by rw [okR]; exact hx, (f12 x (fun q => by rw [q] at hx; have := hx.2; rw [qa.1.2] at this; omega)).1, by rw [f9]⟩⟩⟩
    · refine l1.fr (a := a) f6 f7 f8 f4 (fun b q => ?_) (fun x hx => (f12 x hx).2) (fun b q => ?_)
      · rw [f5] at q; exact l1.2.2.2.2.2.2.2.2 b q
      · rcases f15 with z | z
        · rw [z.2.2.2] at q; exact l1.2.2.2.2.2.2.2.2 b q
        · rw [z.2.2.2] at q; exact l1.2.2.2.2.2.2.2.1 r.length a b a24 σ61 q
    · unfold ROOM at *; rw [f6, f4]; exact l2
    · rw [f11, qa.2.1]; have := e6.1; omega
    · show ((r.length + 1 : Nat) : Int) = (p.2.i 67).toInt
      rw [f10 67 (by decide) (by decide) (by decide) (by decide), l6 67 (by omega)]
      have : (s.i 67).toInt = (r.length : Int) + 1 := hl'.symm
      omega
    · rcases f15 with ⟨z1, z2, z3, z4⟩ | ⟨z1, z2, z3, z4⟩
      · have wn : σ.w ≠ none := by
          rcases l7 with ⟨y1, y2, y3⟩ | y
          · rw [y3]
            have : s.i 73 = 4 := y1.symm.trans z1
            exact (w34 (Or.inr this)).2 this
          · exact y.2.2
        refine Or.inl ⟨z2, ⟨fun _ => ?_, hR⟩, ?_⟩
        · cases hwσ : σ.w with
          | none => exact absurd hwσ wn
          | some b => exact ⟨a, b, by rw [f4]; exact σ61, z4.trans hwσ⟩
        · have v : VT p.2 D (s.o a 1) (2 :: r) := by rw [ceq.vt]; exact hnd.1
          refine VN.on (n := (tg p.2 (s.o a 1)).toInt) v (by omega) ?_
          rw [z3, qa.2.1]
          unfold tg
          rw [f1]
      · rcases l7 with ⟨y1, y2, y3⟩ | y
        · have t73 : p.2.i 73 = s.i 73 := z2.trans y1
          have t75 : p.2.i 75 = s.i 75 := (f10 75 (by decide) (by decide) (by decide) (by decide)).trans y2
          have ng : ¬ s.i 73 = 4 := fun q => z1 (y1.trans q)
          have gl : GOL p.2 < (((2 :: r : List Nat).length : Nat) : Int) := by
            unfold GOL at *
            rw [t75]
            show _ < ((r.length + 1 : Nat) : Int)
            omega
          rcases way with q | q | q | q
          · exact Or.inr (Or.inl ⟨Or.inl (t73.trans q), by rw [ceq.lv, t75]; exact ((w12 (Or.inl q)).g lt').1, hR, Or.inr gl⟩)
          · exact Or.inr (Or.inl ⟨Or.inr (t73.trans q), by rw [ceq.lv, t75]; exact ((w12 (Or.inr q)).g lt').1, hR, Or.inr gl⟩)
          · exact Or.inr (Or.inr ⟨Or.inl (t73.trans q), t75.trans (w34 (Or.inl q)).1, hR, fun z => by rw [t73, q] at z; exact absurd z (by decide)⟩)
          · exact absurd q ng
        · exact absurd y.1 z1
  · have ph2 : ph = 2 := by
      have t1 : (2 : Int32).toInt = 2 := by decide
      rw [c2, t1] at e5; omega
    refine ok_bind (q_ef e4) (fun p hp => ok_some ?_)
    obtain ⟨⟨⟨f1, f2, f3, f4⟩, f5, f6, f7, f8, f9⟩, f10, f12, ⟨f13, f14, f15, f16⟩, f17, f18, f19⟩ := hp
    have okR : ∀ {x t : Nat}, oK p.2 x t = oK s x t := fun {x t} => by unfold oK; rw [f7, f8]
    have ceq : CEQ s p.2 := ⟨by rw [f1], by rw [f1], by rw [f1], f10 20 (by decide) (by decide) (by decide)⟩
    have hnd : HND s D (s.o a 1) r := e6.2.1 (Or.inr ph2)
    have hR : HLD p.2 r := ht.tl hr a24 e3 (by rw [f4]) (fun x hx => (f12 x hx).2)
    have fin0 : 0 ≤ (tg s (s.o a 1 + 1)).toInt := by
      have := le_int (Int32.not_lt.mp c3)
      rw [z_t0] at this; exact this
    refine ⟨⟨?_, ?_, ceq.wt hwt, by rw [f10 68 (by decide) (by decide) (by decide)]; omega, 3 :: r, ?_, by show r.length + 1 ≤ 22; omega, ⟨⟨a, by rw [f4]; exact e3, by rw [okR]; exact e4, by rw [f13]; decide, ⟨by rw [f14]; have := e6.1; omega, fun q => absurd q (by omega), fun _ => ⟨by rw [f15]; exact way, fun q => ?_, fun q => ?_, fun q => ?_⟩⟩⟩, e7.tl hr a24 e3 ceq (by rw [f4]) (by omega) (fun x hx => ⟨fun q => by rw [okR]; exact q, (f12 x hx).1, (f12 x hx).2⟩)⟩, Or.inl ⟨f17, ⟨fun q => absurd q (by omega), hR⟩, ?_⟩⟩, ⟨fun j hj => f10 j (by omega) (by omega) (by omega), fun _ _ => by rw [f1], f2, f3, by rw [f4], fun x hx => ⟨by rw [okR]; exact hx, (f12 x (fun q => by rw [q] at hx; have := hx.2; rw [e4.2] at this; omega)).1, by rw [f9]⟩⟩⟩
    · refine hr.fr (a := a) f6 f7 f8 f4 (fun b q => by rw [f5] at q; exact hr.2.2.2.2.2.2.2.2 b q) (fun x hx => (f12 x hx).2) (fun b q => by rw [f19] at q; exact hr.2.2.2.2.2.2.2.2 b q)
    · unfold ROOM at *; rw [f6, f4]; exact hm
    · show ((r.length + 1 : Nat) : Int) = (p.2.i 67).toInt
      rw [f10 67 (by decide) (by decide) (by decide)]
      have : (s.i 67).toInt = (r.length : Int) + 1 := hl'.symm
      omega
    · rw [f15] at q
      rw [ceq.lv, f16]
      exact ((w12 q).g (ph' := 0) lt').2
    · rw [f15] at q
      rw [f16]; exact (w34 q).1
    · rw [f15] at q
      rw [f19]; exact (w34 (Or.inr q)).2 q
    · have v : VT p.2 D (s.o a 1 + 1) (3 :: r) := by rw [ceq.vt]; exact hnd.2 fin0
      refine VN.on (n := (tg p.2 (s.o a 1 + 1)).toInt) v (by omega) ?_
      rw [f18]
      unfold tg
      rw [f1]
