/-! the class's machine: one instruction -/
theorem q_ent {N H : Nat} {X : CS} {D : Nat → List Nat} {k n : Int} {c : List Nat} {ph : Nat} {x1 y : Int32} (hk : 0 ≤ k) (h : MST H X D k c) (e66 : (X.i 66).toInt = n) (hx : x1.toInt = (ph : Int)) (hp : ph = 0 ∨ ph = 1 ∧ HND X D y c) (v : VN X D n (ph :: c)) : ok (f_X3_enter N X x1 y) (fun R => ∀ T : CS, PQ R.2 T → MI H T D (k + 1) ∧ MR X T) := by
  obtain ⟨a1, a2, a3, a4, a5, a6, a7, a8⟩ := h
  refine ok_imp (q_enter a1 a2 a5.1 a5.2 a6 a7 a4 hx hp) (fun R hR T hT => ?_)
  obtain ⟨r1, r2, r3, r4, r5, r6, r7, r8⟩ := hR
  have ceq := r3.ceq.tr hT.1.ceq
  refine ⟨⟨hT.1.refs r1, hT.1.room r2, ceq.wt a3, by rw [hT.1.2.1 68 (by omega), r4 68 (by decide)]; omega, ph :: c, ?_, by show c.length + 1 ≤ 22; omega, hT.1.frm (by omega) r7, Or.inl ⟨by rw [hT.1.2.1 73 (by omega), r4 73 (by decide)]; exact a8, hT.1.hld r8, ?_⟩⟩, r3.tr hT.1.mr⟩
  · show ((c.length + 1 : Nat) : Int) = (T.i 67).toInt
    rw [hT.1.2.1 67 (by omega)]
    have : (R.2.i 67).toInt = dpI X + 1 := r6
    omega
  · have v' : VN T D n (ph :: c) := by rw [ceq.vn]; exact v
    exact v'.on (by omega) (by rw [hT.2, r4 66 (by decide)]; exact e66)
theorem q_act {N : Nat} (hN : 10000000000 ≤ N) {H : Nat} {X : CS} {D : Nat → List Nat} {k n : Int} {c : List Nat} {x y : Int32} (hk : 0 ≤ k) (k4 : k ≤ 4000000) (h : MST H X D k c) (e66 : (X.i 66).toInt = n) (v1 : x = 51 ∨ x = 52 ∨ x = 55 → VN X D n c) (v2 : x = 53 → VN X D n (0 :: c)) (v3 : x = 54 → VN X D n (1 :: c) ∧ HND X D y c) (v4 : ¬ (x = 51 ∨ x = 52 ∨ x = 53 ∨ x = 54 ∨ x = 55) → True) : ok (f_X3_act N X x y) (fun R => (MI H R.2 D (k + 1) ∨ ¬ R.2.i 72 = -1) ∧ MR X R.2 ∧ REFS R.2 ∧ ROOM H R.2) := by
  obtain ⟨a1, a2, a3, a4, a5, a6, a7, a8⟩ := (show MST H X D k c from h)
  have pack : ∀ {R : CS}, MI H R D (k + 1) ∧ MR X R → (MI H R D (k + 1) ∨ ¬ R.i 72 = -1) ∧ MR X R ∧ REFS R ∧ ROOM H R := fun {R} q => ⟨Or.inl q.1, q.2, q.1.1, q.1.2.1⟩
  have pq : ∀ {R : CS}, PQ X R → VN X D n c → MI H R D (k + 1) ∧ MR X R := fun {R} q v => by
    have v' : VN R D n c := by rw [q.1.ceq.vn]; exact v
    exact ⟨(h.pv q.1).on hk v' (by rw [q.2]; exact e66), q.1.mr⟩
  unfold f_X3_act f_X3_step
  refine ok_ite (fun c1 => ?_) (fun c1 => ok_ite (fun c2 => ?_) (fun c2 => ok_ite (fun c3 => ?_) (fun c3 => ok_ite (fun c4 => ?_) (fun c4 => ok_ite (fun c5 => ?_) (fun c5 => ?_)))))
  · refine ok_bind (Q := fun R => PQ X R.2) (ok_ite (fun _ => ok_some ⟨(PV.rf X).i 70 _ (by decide), ci_ne _ _ _ (by decide)⟩) (fun _ => ok_some ⟨(PV.rf X).i 72 _ (by decide), ci_ne _ _ _ (by decide)⟩)) (fun p hp => ok_some (pack (pq hp (v1 (Or.inl c1)))))
  · exact ok_bind (q_pop N X) (fun p hp => ok_bind (q_note N p.2 0 _) (fun q hq => ok_some (pack (pq (hp.tr hq) (v1 (Or.inr (Or.inl c2)))))))
  · refine ok_bind (q_ent hk h e66 (ph := 0) (by decide) (Or.inl rfl) (v2 c3)) (fun p hp => ?_)
    refine ok_bind (q_note N (CS.setI p.2 71 ((p.2.i 71) + 1)) 3 y) (fun q hq => ok_some (pack (hp q.2 ?_)))
    exact PQ.tr ⟨(PV.rf p.2).i 71 _ (by decide), ci_ne _ _ _ (by decide)⟩ hq
  · exact ok_bind (q_ent hk h e66 (ph := 1) (by decide) (Or.inr ⟨rfl, (v3 c4).2⟩) (v3 c4).1) (fun p hp => ok_some (pack (hp p.2 (PQ.rf p.2))))
  · have v := v1 (Or.inr (Or.inr c5))
    unfold f_X3_openOne
    refine ok_bind (Q := fun R => MI H R.2 D (k + 1) ∧ MR X R.2) (ok_ite (fun _ => ok_ite (fun _ => ?_) (fun _ => ok_some (pq (PQ.rf X) v))) (fun _ => ?_)) (fun p hp => ok_some (pack hp))
    · refine ok_bind (q_note N X 1 y) (fun p hp => ok_some ?_)
      have hY : PQ X (CS.putA p.2 63 (gPut (p.2.a 63) 320 (p.2.i 68) y)) := hp.tr ⟨(PV.rf p.2).a 63 _ (by decide), rfl⟩
      show MI H (CS.setI (CS.putA p.2 63 (gPut (p.2.a 63) 320 (p.2.i 68) y)) 68 (p.2.i 68 + 1)) D (k + 1) ∧ MR X (CS.setI (CS.putA p.2 63 (gPut (p.2.a 63) 320 (p.2.i 68) y)) 68 (p.2.i 68 + 1))
      have e68 : p.2.i 68 = X.i 68 := hp.1.2.1 68 (by omega)
      rw [e68]
      rw [e68] at hY
      generalize CS.putA p.2 63 (gPut (p.2.a 63) 320 (X.i 68) y) = Y at hY ⊢
      obtain ⟨T, hT⟩ : ∃ T, T = CS.setI Y 68 (X.i 68 + 1) := ⟨_, rfl⟩
      have ti : ∀ j : Nat, j ≠ 68 → T.i j = Y.i j := fun j q => by rw [hT, ci_ne _ _ _ q]
      have t68 : T.i 68 = X.i 68 + 1 := by rw [hT, ci_at]
      have base : T.hs = Y.hs ∧ T.L = Y.L ∧ T.k = Y.k ∧ T.o = Y.o ∧ T.ol = Y.ol ∧ T.ot = Y.ot ∧ T.r = Y.r ∧ T.w = Y.w ∧ T.b = Y.b ∧ T.l = Y.l ∧ T.a = Y.a := by
        rw [hT, chs_setI, cL_setI, ck_setI, co_setI, col_setI, cot_setI, cr_setI, cw_setI, cb_setI, cl_setI, ca_setI]
        exact ⟨rfl, rfl, rfl, rfl, rfl, rfl, rfl, rfl, rfl, rfl, rfl⟩
      rw [← hT]
      clear hT
      obtain ⟨b1, b2, b3, b4, b5, b6, b7, b8, b9, b10, b11⟩ := base
      have ok' : ∀ {x t : Nat}, oK T x t = oK Y x t := fun {x t} => by unfold oK; rw [b2, b3]
      have mr : MR Y T := ⟨fun j hj => ti j (by omega), fun _ _ => by rw [b11], b9, b10, by rw [b7], fun x hx => ⟨by rw [ok']; exact hx, by rw [b4], by rw [b5]⟩⟩
      have fk : FK Y T := fun x hx => ⟨by rw [ok']; exact hx, by rw [b4], by rw [b6]⟩
      have hS := h.pv hY.1
      have e1 : (1 : Int32).toInt = 1 := by decide
      have es : (X.i 68 + 1).toInt = (X.i 68).toInt + 1 := by rw [toInt_add] <;> rw [e1] <;> omega
      have v' : VN T D n c := by rw [mr.ceq.vn, hY.1.ceq.vn]; exact v
      refine ⟨⟨?_, ?_, mr.ceq.wt hS.2.2.1, by rw [t68, es]; omega, c, ?_, by omega, fk.frm hS.1 mr.ceq (by rw [b7]) (by omega) (by omega) hS.2.2.2.2.2.1, Or.inl ⟨(ti 73 (by decide)).trans hS.2.2.2.2.2.2.2, fk.hld hS.1 (by rw [b7]) (by omega) hS.2.2.2.2.2.2.1, v'.on (by omega) (by rw [ti 66 (by decide), hY.2]; exact e66)⟩⟩, hY.1.mr.tr mr⟩
      · have := hS.1
        unfold REFS inP oK at *; rw [b1, b2, b3, b6, b7, b8]; exact this
      · have := hS.2.1
        unfold ROOM at *; rw [b1, b7]; exact this
      · have := hS.2.2.2.2.1.1
        unfold dpI at *; rw [ti 67 (by decide)]; exact this
    · exact ok_bind (q_raise (by omega) a1 a2 (by omega) (by omega) _ _) (fun p hp => ok_some ⟨h.rs hp, hp.2.2.1⟩)
  · have pv : PV X (CS.setI X 72 0) := (PV.rf X).i 72 0 (by decide)
    refine ok_some ⟨Or.inr ?_, pv.mr, pv.refs a1, pv.room a2⟩
    show ¬ (CS.setI X 72 0).i 72 = -1
    rw [ci_at]
    decide
theorem HLD.at2 {s : CS} {c : List Nat} {x : Int32} (h : HLD s c) (ha : AT2 c x) : ∃ i a b : Nat, x.toInt = (i : Int) ∧ i < c.length ∧ s.r 61 i = some a ∧ s.ot a = some b := by
  obtain ⟨i, i1, i2, r, q, e, l⟩ := ha
  have key : ∀ r : List Nat, HLD s (r ++ 2 :: q) → HLD s (2 :: q) := fun r => by
    induction r with
    | nil => exact id
    | cons p r ih => exact fun z => ih z.2
  rw [e] at h
  obtain ⟨a, b, z1, z2⟩ := (key r h).1 rfl
  exact ⟨i, a, b, i1, i2, by rw [← l]; exact z1, z2⟩
theorem q_again {N H : Nat} {X : CS} {D : Nat → List Nat} {k : Int} {c : List Nat} {a b : Nat} (h : MST H X D k c) (ha : oK X a 1) (hb : X.ot a = some b) (hp : inP X b) : ok (f_X3_throwAgain N X (some a)) (fun R => MI H R.2 D (k + 1) ∧ MR X R.2) := by
  unfold f_X3_throwAgain
  show ok (if oK X a 1 then oCase (CS.ot X a) _ _ else none) _
  rw [if_pos ha, hb]
  exact ok_some (h.again b hp)
theorem q_turn {N : Nat} (hN : 10000000000 ≤ N) {H : Nat} {X : CS} {D : Nat → List Nat} {k n : Int} {c : List Nat} {x y : Int32} (hk : 0 ≤ k) (h : MST H X D k c) (e66 : (X.i 66).toInt = n) (hx : 56 ≤ x.toInt ∧ x.toInt ≤ 64) (v1 : x = 57 → VN X D n c) (v2 : x = 56 → VT X D (y / 16) c ∧ VN X D n c) (v3 : x = 58 → ∃ r, c = 2 :: r) (v4 : x = 59 → ∃ r, c = 3 :: r) (v5 : x = 60 ∨ x = 61 → LVT X D y c) (v6 : x = 64 → AT2 c y) : ok (f_X3_turn N X x y) (fun R => MI H R.2 D (k + 1) ∧ MR X R.2) := by
  obtain ⟨a1, a2, a3, a4, a5, a6, a7, a8⟩ := (show MST H X D k c from h)
  have pq : ∀ {R : CS}, PQ X R → VN X D n c → MI H R D (k + 1) ∧ MR X R := fun {R} q v => by
    have v' : VN R D n c := by rw [q.1.ceq.vn]; exact v
    exact ⟨(h.pv q.1).on hk v' (by rw [q.2]; exact e66), q.1.mr⟩
  have go : ∀ (Y : CS) (w v t : Int32), PQ X Y → ((w = 1 ∨ w = 2) ∧ LVT X D t c ∨ w = 3 ∧ t = 0) → ok ((f_X3_go N Y w v t).bind fun p => some ((), p.2)) (fun R => MI H R.2 D (k + 1) ∧ MR X R.2) := fun Y w v t hY hw => by
    have q := (h.pv hY.1).go w v t (by rw [hY.1.ceq.lv]; exact hw)
    exact ok_some ⟨q.1, hY.1.mr.tr q.2⟩
  have topq := q_top (N := N) a5.1 (by omega) a6
  unfold f_X3_turn
  refine ok_ite (fun c9 => ?_) (fun c9 => ok_ite (fun c60 => ?_) (fun c60 => ok_ite (fun c61 => ?_) (fun c61 => ok_ite (fun c62 => ?_) (fun c62 => ok_ite (fun c63 => ?_) (fun c63 => ok_ite (fun c64 => ?_) (fun c64 => ?_))))))
  · obtain ⟨r0, er⟩ := v4 c9
    rcases topq with ⟨e1, e2⟩ | ⟨ph, a, r, e1, e2, e3, e4, e5, e6, e7⟩
    · rw [e1] at er; cases er
    rw [e1] at er
    injection er with er1 er2
    subst er2
    rw [e2]
    show ok ((f_X3_resume N X (some a)).bind fun p12 => some ((), p12.2)) _
    unfold f_X3_resume
    show ok (((if oK X a 1 then oCase (CS.ot (CS.setI X 67 ((X.i 67) - 1)) a) ((f_X3_go N (CS.setW (CS.setI X 67 ((X.i 67) - 1)) none) (CS.o (CS.setW (CS.setI X 67 ((X.i 67) - 1)) none) a 5) (CS.o (CS.setW (CS.setI X 67 ((X.i 67) - 1)) none) a 6) (CS.o (CS.setW (CS.setI X 67 ((X.i 67) - 1)) none) a 7)).bind fun p6 => some ((), p6.2)) (fun a5 => (f_X3_go N (CS.setW (CS.setI X 67 ((X.i 67) - 1)) (some a5)) (CS.o (CS.setW (CS.setI X 67 ((X.i 67) - 1)) (some a5)) a 5) (CS.o (CS.setW (CS.setI X 67 ((X.i 67) - 1)) (some a5)) a 6) (CS.o (CS.setW (CS.setI X 67 ((X.i 67) - 1)) (some a5)) a 7)).bind fun p10 => some ((), p10.2)) else none) : Option (Unit × CS)).bind fun p12 => some ((), p12.2)) _
    rw [if_pos e4]
    have key : ∀ v : Option Nat, v = X.ot a → MI H (CS.setI (CS.setI (CS.setI (CS.setW (CS.setI X 67 ((X.i 67) - 1)) v) 73 (X.o a 5)) 74 (X.o a 6)) 75 (X.o a 7)) D (k + 1) ∧ MR X (CS.setI (CS.setI (CS.setI (CS.setW (CS.setI X 67 ((X.i 67) - 1)) v) 73 (X.o a 5)) 74 (X.o a 6)) 75 (X.o a 7)) := fun v hv => by
      obtain ⟨T, hT⟩ : ∃ T, T = CS.setI (CS.setI (CS.setI (CS.setW (CS.setI X 67 ((X.i 67) - 1)) v) 73 (X.o a 5)) 74 (X.o a 6)) 75 (X.o a 7) := ⟨_, rfl⟩
      have ti : ∀ j : Nat, j ≠ 67 → j ≠ 73 → j ≠ 74 → j ≠ 75 → T.i j = X.i j := fun j q0 q1 q2 q3 => by rw [hT, ci_ne _ _ _ q3, ci_ne _ _ _ q2, ci_ne _ _ _ q1, ci_setW, ci_ne _ _ _ q0]
      have t67 : T.i 67 = X.i 67 - 1 := by rw [hT, ci_ne _ _ _ (by decide), ci_ne _ _ _ (by decide), ci_ne _ _ _ (by decide), ci_setW, ci_at]
      have t73 : T.i 73 = X.o a 5 := by rw [hT, ci_ne _ _ _ (by decide), ci_ne _ _ _ (by decide), ci_at]
      have t75 : T.i 75 = X.o a 7 := by rw [hT, ci_at]
      have tw : T.w = X.ot a := by rw [hT, cw_setI, cw_setI, cw_setI, cw_at, hv]
      have base : T.hs = X.hs ∧ T.L = X.L ∧ T.k = X.k ∧ T.o = X.o ∧ T.ol = X.ol ∧ T.ot = X.ot ∧ T.r = X.r ∧ T.b = X.b ∧ T.l = X.l ∧ T.a = X.a := by
        rw [hT, chs_setI, chs_setI, chs_setI, chs_setW, chs_setI, cL_setI, cL_setI, cL_setI, cL_setW, cL_setI, ck_setI, ck_setI, ck_setI, ck_setW, ck_setI, co_setI, co_setI, co_setI, co_setW, co_setI, col_setI, col_setI, col_setI, col_setW, col_setI, cot_setI, cot_setI, cot_setI, cot_setW, cot_setI, cr_setI, cr_setI, cr_setI, cr_setW, cr_setI, cb_setI, cb_setI, cb_setI, cb_setW, cb_setI, cl_setI, cl_setI, cl_setI, cl_setW, cl_setI, ca_setI, ca_setI, ca_setI, ca_setW, ca_setI]
        exact ⟨rfl, rfl, rfl, rfl, rfl, rfl, rfl, rfl, rfl, rfl⟩
      rw [← hT]
      clear hT
      obtain ⟨b1, b2, b3, b4, b5, b6, b7, b9, b10, b11⟩ := base
      have ok' : ∀ {x t : Nat}, oK T x t = oK X x t := fun {x t} => by unfold oK; rw [b2, b3]
      have mr : MR X T := ⟨fun j hj => ti j (by omega) (by omega) (by omega) (by omega), fun _ _ => by rw [b11], b9, b10, by rw [b7], fun x hx => ⟨by rw [ok']; exact hx, by rw [b4], by rw [b5]⟩⟩
      have fk : FK X T := fun x hx => ⟨by rw [ok']; exact hx, by rw [b4], by rw [b6]⟩
      rw [e1] at a5 a7
      have l21 : r.length + 1 ≤ 21 := a5.2
      have l1 : ((r.length + 1 : Nat) : Int) = dpI X := a5.1
      have hh : HLD T r := fk.hld a1 (by rw [b7]) (by omega) a7.2
      have e1' : (1 : Int32).toInt = 1 := by decide
      have hl2 : (X.i 67).toInt = (r.length : Int) + 1 := by have : dpI X = (X.i 67).toInt := rfl; omega
      obtain ⟨s1, s2, s3, s4⟩ := e6.2.2 er1
      refine ⟨⟨?_, ?_, mr.ceq.wt a3, by rw [ti 68 (by decide) (by decide) (by decide) (by decide)]; omega, r, ?_, by omega, fk.frm a1 mr.ceq (by rw [b7]) (by omega) (by omega) e7, ?_⟩, mr⟩
      · refine ⟨by rw [b1, b2]; exact a1.1, fun i x hi e => by rw [ok']; exact a1.2.1 i x hi (by rw [← b7]; exact e), by rw [b7]; exact a1.2.2.1, fun i x hi e => by rw [ok']; exact a1.2.2.2.1 i x hi (by rw [← b7]; exact e), by rw [b7]; exact a1.2.2.2.2.1, fun i x hi e => by rw [ok', ok', ok']; exact a1.2.2.2.2.2.1 i x hi (by rw [← b7]; exact e), by rw [b7]; exact a1.2.2.2.2.2.2.1, by unfold inP; rw [b6, b7]; exact a1.2.2.2.2.2.2.2.1, fun b' q => ?_⟩
        rw [tw] at q
        unfold inP; rw [b7]; exact a1.2.2.2.2.2.2.2.1 r.length a b' (by omega) e3 q
      · unfold ROOM at *; rw [b1, b7]; exact a2
      · show (r.length : Int) = (T.i 67).toInt
        rw [t67, toInt_sub] <;> rw [e1'] <;> omega
      · rcases s1 with q | q | q | q
        · exact Or.inr (Or.inl ⟨Or.inl (t73.trans q), by rw [mr.ceq.lv, t75]; exact s2 (Or.inl q), hh.tail, Or.inl hh⟩)
        · exact Or.inr (Or.inl ⟨Or.inr (t73.trans q), by rw [mr.ceq.lv, t75]; exact s2 (Or.inr q), hh.tail, Or.inl hh⟩)
        · exact Or.inr (Or.inr ⟨Or.inl (t73.trans q), t75.trans (s3 (Or.inl q)), hh.tail, fun z => by rw [t73, q] at z; exact absurd z (by decide)⟩)
        · exact Or.inr (Or.inr ⟨Or.inr (t73.trans q), t75.trans (s3 (Or.inr q)), hh.tail, fun _ => by rw [tw]; exact s4 q⟩)
    cases ho : X.ot a with
    | none =>
      rw [cot_setI, ho]
      exact ok_some (key none ho.symm)
    | some b =>
      rw [cot_setI, ho]
      exact ok_some (key (some b) ho.symm)
  · exact go X 1 0 y (PQ.rf X) (Or.inl ⟨Or.inl rfl, v5 (Or.inl c60)⟩)
  · exact ok_bind (q_pop N X) (fun p hp => go p.2 2 p.1 y hp (Or.inl ⟨Or.inr rfl, v5 (Or.inr c61)⟩))
  · exact ok_bind (q_pop N X) (fun p hp => go p.2 3 p.1 0 hp (Or.inr ⟨rfl, rfl⟩))
  · refine ok_bind (q_pop N X) (fun p hp => ?_)
    have hS := h.pv hp.1
    have hl := hS.2.2.2.2.1
    exact ok_bind (q_raise (by omega) hS.1 hS.2.1 (by omega) (by omega) _ _) (fun q hq => ok_some ⟨hS.rs hq, hp.1.mr.tr hq.2.2.1⟩)
  · obtain ⟨i, a, b, i1, i2, i3, i4⟩ := a7.at2 (v6 c64)
    have dp : (X.i 67).toInt = (c.length : Int) := a5.1.symm
    have e24 : (24 : Int32).toInt = 24 := by decide
    have f : f_X3_frame N X y = some (some a, X) := by
      unfold f_X3_frame
      have cn : y.toNatClampNeg = i := by
        have := clampI (k := y) (by omega)
        omega
      rw [if_neg (fun q => by have := lt_int q; rw [z_t0] at this; omega), if_neg (fun q => by have := le_int q; omega), if_neg (fun q => by have := le_int q; omega), if_pos (show ib y 24 from ⟨by omega, by omega⟩), cn, i3]
      rfl
    rw [f]
    show ok ((f_X3_throwAgain N X (some a)).bind fun p59 => some ((), p59.2)) _
    exact ok_bind (q_again h (a1.2.2.2.1 i a (by omega) i3) i4 (a1.2.2.2.2.2.2.2.1 i a b (by omega) i3 i4)) (fun p hp => ok_some hp)
  · have t56 : (56 : Int32).toInt = 56 := by decide
    have t57 : (57 : Int32).toInt = 57 := by decide
    have t58 : (58 : Int32).toInt = 58 := by decide
    have t59 : (59 : Int32).toInt = 59 := by decide
    have t60 : (60 : Int32).toInt = 60 := by decide
    have t61 : (61 : Int32).toInt = 61 := by decide
    have t62 : (62 : Int32).toInt = 62 := by decide
    have t63 : (63 : Int32).toInt = 63 := by decide
    have t64 : (64 : Int32).toInt = 64 := by decide
    have ne : ∀ {z : Int32}, ¬ x = z → ¬ x.toInt = z.toInt := fun {z} q e => q (Int32.toInt_inj.mp e)
    have n1 := ne c9
    have n2 := ne c60
    have n3 := ne c61
    have n4 := ne c62
    have n5 := ne c63
    have n6 := ne c64
    rw [t59] at n1
    rw [t60] at n2
    rw [t61] at n3
    rw [t62] at n4
    rw [t63] at n5
    rw [t64] at n6
    have hc : x = 56 ∨ x = 57 ∨ x = 58 := by
      by_cases q1 : x.toInt = 56
      · exact Or.inl (Int32.toInt_inj.mp (by rw [t56]; exact q1))
      by_cases q2 : x.toInt = 57
      · exact Or.inr (Or.inl (Int32.toInt_inj.mp (by rw [t57]; exact q2)))
      · exact Or.inr (Or.inr (Int32.toInt_inj.mp (by rw [t58]; omega)))
    have stay : ¬ x = 58 → MI H X D (k + 1) ∧ MR X X := fun q => by
      rcases hc with z | z | z
      · exact pq (PQ.rf X) (v2 z).2
      · exact pq (PQ.rf X) (v1 z)
      · exact absurd z q
    rcases topq with ⟨e1, e2⟩ | ⟨ph, a, r, e1, e2, e3, e4, e5, e6, e7⟩
    · rw [e2]
      show ok ((f_X3_handle N X x y none).bind fun p69 => some ((), p69.2)) _
      unfold f_X3_handle
      refine ok_some (stay (fun q => ?_))
      obtain ⟨r0, er⟩ := v3 q
      rw [e1] at er; cases er
    rw [e2]
    show ok ((f_X3_handle N X x y (some a)).bind fun p73 => some ((), p73.2)) _
    refine ok_bind (Q := fun R => MI H R.2 D (k + 1) ∧ MR X R.2) ?_ (fun p hp => ok_some hp)
    unfold f_X3_handle
    show ok (if oK X a 1 then oCase (CS.ot X a) (some ((), X)) (fun a5 => (if x = 58 then (f_X3_throwAgain N X (some a)).bind fun p22 => some ((), p22.2) else (if x = 57 then oCase (CS.ot X a) (none) (fun a20 => if oK X a20 2 then some ((), CS.putA X 59 (gPut (X.a 59) 720 y (CS.o X a20 3))) else none) else oCase (CS.ot X a) (none) (fun a9 => if oK X a9 2 then (f_X10_isUnder N X (CS.o X a9 2) (y - y / 16 * 16)).bind fun p11 => (f_X3_goIf N p11.2 p11.1 (y / 16)).bind fun p15 => some ((), p15.2) else none)))) else none) _
    rw [if_pos e4]
    have r24 : r.length < 24 := by
      have := a5.2
      rw [e1] at this
      have : r.length + 1 ≤ 21 := this
      omega
    cases ho : X.ot a with
    | none =>
      refine ok_some (stay (fun q => ?_))
      obtain ⟨r0, er⟩ := v3 q
      rw [e1] at er
      injection er with er1 er2
      rw [e1] at a7
      obtain ⟨a', b', z1, z2⟩ := a7.1 er1
      rw [e3] at z1
      cases z1
      rw [ho] at z2
      cases z2
    | some b =>
      have hb := a1.2.2.2.2.2.2.2.1 r.length a b r24 e3 ho
      obtain ⟨j, j1, j2⟩ := hb
      have okb := (a1.2.2.2.2.2.1 j b j1 j2).1
      show ok (if x = 58 then (f_X3_throwAgain N X (some a)).bind fun p22 => some ((), p22.2) else (if x = 57 then (if oK X b 2 then some ((), CS.putA X 59 (gPut (X.a 59) 720 y (CS.o X b 3))) else none) else (if oK X b 2 then (f_X10_isUnder N X (CS.o X b 2) (y - y / 16 * 16)).bind fun p11 => (f_X3_goIf N p11.2 p11.1 (y / 16)).bind fun p15 => some ((), p15.2) else none))) _
      refine ok_ite (fun _ => ok_bind (q_again h e4 ho ⟨j, j1, j2⟩) (fun p hp => ok_some hp)) (fun c58 => ok_ite (fun c57 => ?_) (fun c57 => ?_))
      · rw [if_pos okb]
        exact ok_some (pq ⟨(PV.rf X).a 59 _ (by decide), rfl⟩ (v1 c57))
      · rw [if_pos okb]
        have c56 : x = 56 := by
          rcases hc with z | z | z
          · exact z
          · exact absurd z c57
          · exact absurd z c58
        obtain ⟨g1, g2⟩ := v2 c56
        refine ok_bind (q_isUnder (by omega)) (fun p hp => ?_)
        rw [hp.1]
        refine ok_bind (q_goIf (PQ.rf X)) (fun q hq => ok_some ?_)
        rcases hq.2 with z | z
        · exact pq ⟨hq.1, z⟩ g2
        · have v' : VT q.2 D (y / 16) c := by rw [hq.1.ceq.vt]; exact g1
          refine ⟨(h.pv hq.1).on (n := (tg q.2 (y / 16)).toInt) hk v' ?_, hq.1.mr⟩
          rw [z]
          unfold tg
          rw [hq.1.2.2 17 (by omega)]
