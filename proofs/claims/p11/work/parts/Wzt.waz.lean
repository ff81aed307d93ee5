/-! both readers: the way through a head in which a name is told -/
theorem WAY.rf {d : Int32} {T : Nat} {P : CS} {q : RS} (h : ENV d P q) (ht : tpI q = (T : Int)) (h36 : P.i 36 = 1) : WAY d T 0 0 0 0 0 P q P q :=
  ⟨h, ht, FRB.rf _ _, TBK.rf _, ⟨rfl, fun _ _ => rfl, fun _ _ _ _ => ⟨rfl, rfl⟩, fun _ _ => rfl, Int.le_refl _, Int.le_refl _, fun _ _ => rfl, fun k h1 h2 => by omega⟩, ⟨rfl, rfl, rfl, rfl, h36⟩, ⟨by omega, by omega, Int.le_refl _, by omega⟩, ⟨by omega, by omega, Int.le_refl _⟩⟩
theorem WAZ.tr {d d0 : Int32} {T : Nat} {p f k y z p1 f1 k1 y1 z1 : Int} {S P R : CS} {s q u : RS} (h : WAZ d0 T p f k y z S s P q) (g : WAY d T p1 f1 k1 y1 z1 P q R u) (hp : 0 ≤ p1) : WAZ d T (p + p1) (f + f1) (k + k1) (y + y1) (z + z1) S s R u := by
  obtain ⟨h1, h2, h3, ⟨ht, hcd, hn⟩, h5, ⟨i1, i3, i4, i5⟩, ⟨n1, n2, n3, n4⟩, ⟨r1, r2, r3⟩, ⟨l1, l2⟩⟩ := h
  obtain ⟨g1, g2, g3, g4, g5, ⟨j1, j2, j3, j4, j5⟩, ⟨m1, m2, m3, m4⟩, ⟨s1, s2, s3⟩⟩ := g
  obtain ⟨t1, t2, t3, t4, t5, t6, t7, t8, t9, t10⟩ := g4.1.1
  obtain ⟨a1, a2, a3, a4, a5, a6, a7, a8, a9⟩ := hn
  exact ⟨g1, g2, h3.tr g3, ⟨ht.tr g4.1.r l1 (by rw [a4]; exact Int.le_refl _) (by rw [a6]; exact Int.le_refl _), hcd.tr (g4.2.wk hcd.1), ⟨t1.trans a1, t2.trans a2, t3.trans a3, t5.trans a4, t6.trans a5, t7.trans a6, t8.trans a7, t9.trans a8, t10.trans a9⟩⟩, h5.tr i3 g5, ⟨j1.trans i1, j3.trans i3, j4.trans i4, j5⟩, ⟨by omega, by omega, by omega, by omega⟩, ⟨by omega, by omega, by omega⟩, ⟨by rw [t4]; exact l1, fun w => by rw [t4]; have := l2 w; omega⟩⟩
theorem WAZ.nu {d : Int32} {T : Nat} {p f k y z p' f' k' y' z' : Int} {S P : CS} {s q : RS} (h : WAZ d T p f k y z S s P q) (hp : p' ≤ p) (hf : f' ≤ f) (hk : k' = k) (hy : y ≤ y') (hz : z' ≤ z) : WAZ d T p' f' k' y' z' S s P q := by
  obtain ⟨h1, h2, h3, h4, h5, h6, ⟨n1, n2, n3, n4⟩, ⟨r1, r2, r3⟩, l⟩ := h
  exact ⟨h1, h2, h3, h4, h5, h6, ⟨by omega, by omega, n3, by omega⟩, ⟨by omega, by omega, r3⟩, l⟩
theorem WAZ.sum {d d0 : Int32} {T : Nat} {p f k y z : Int} {S P : CS} {s q : RS} (h : WAZ d T p f k y z S s P q) (h0 : ENV d0 S s) : SGS P (cnI P).toNat = SGS S (cnI S).toNat ∧ WCS P (cnI P).toNat = WCS S (cnI S).toNat := by
  have w := h0.ri.2.2.2.1
  refine sum_eq w.2 (fun i hi => ?_) h.2.2.2.2.2.1.2.1
  have hi' : (i : Int) < (S.i 53).toInt := by
    have : cnI S = (S.i 53).toInt := rfl
    omega
  exact ⟨h.2.2.2.2.1.2.1 i hi', fun a ha => h.2.2.2.2.1.2.2.1 i a hi' ha⟩
theorem WAZ.sg {d d0 : Int32} {T : Nat} {p f k y z : Int} {S P : CS} {s q : RS} (h : WAZ d T p f k y z S s P q) (h0 : ENV d0 S s) : SGS P (cnI P).toNat + k ≤ sgI P := by
  rw [(h.sum h0).1]
  have e0 := h0.2.2.1.1
  have e1 := h.1.2.2.1.1
  have w := h0.ri.2.2.2.2.2.2
  have n := h.2.2.2.2.2.2.1.2.2.2
  unfold sgI at *
  rw [e0] at w
  rw [e1]
  omega
theorem WAZ.pay {d d0 : Int32} {T : Nat} {p f k y z : Int} {S P : CS} {s q : RS} (h : WAZ d T p f k y z S s P q) (h0 : ENV d0 S s) (hp : 4 ≤ p) : WCS P (cnI P).toNat + 3 ≤ eI P := by
  rw [(h.sum h0).2]
  have w := h0.ri.2.2.2.2.2.1
  have a := (eI.ge S).2
  have b := (eI.ge P).1
  have n := h.2.2.2.2.2.2.1.1
  have e0 := h0.1.2.2.2.1.1
  have e1 := h.1.1.2.2.2.1.1
  unfold plI at a b
  rw [e0] at a
  rw [e1] at b
  omega
theorem WAZ.cl {N : Nat} (hN : 1000 ≤ N) {d d0 : Int32} {T : Nat} {p f k y z : Int} {S P : CS} {s q : RS} {R : Unit × CS} {V : Int32 × RS} {c e : Int32} (h : WAZ d T p f k y z S s P q) (hs : ENV d0 S s) (hk : 1 ≤ k) (hc : tyR c) (hd : tm c = e) (h6 : ¬ e = 6) (h0 : ¬ c = 0) (e1 : f_X1_close N P c = some R) (g : f_X12_shut N q e = some V) : (V.1 = 0 ∧ ¬ R.2.i 32 = 0 ∧ ¬ V.2.i 15 = 0) ∨ (V.1 = 1 ∧ WAZ d T (p + 1) (f + 3) (k - 1) (y - 2) (z + 1) S s R.2 V.2 ∧ (∀ r : Nat, FRB r q V.2) ∧ V.2.i 20 = q.i 20) := by
  have sg := h.sg hs
  rcases y_close hN h.1 (by omega) hc hd h6 h0 e1 g with o | ⟨o1, o2, o3, o4, o5, o6, o7, o8, o9, o10, o11, o12⟩
  · exact Or.inl o
  · have q17 : (V.2.i 17).toInt = (q.i 17).toInt + 1 := by rw [o6, t17_up (N := N) h.1]
    have w0 := WAY.rf h.1 h.2.1 h.2.2.2.2.2.1.2.2.2
    have w1 := w0.tok (p1 := 1) (f1 := 3) (k1 := -1) o3 (qj_63 o4 h.2.1) (FRB.of o4) (TBK.of o4 (by rw [o8]; exact Int.le_refl _) (fun j _ => by rw [o9])) o5 o10 o11 ⟨o7, (by
      unfold phI
      rw [o8, q17]
      omega), by omega, by omega⟩
    exact Or.inr ⟨o1, (h.tr w1 (by omega)).nu (by omega) (by omega) (by omega) (by omega) (by omega), fun r => FRB.of o4, o8⟩
theorem WAZ.s22 {d : Int32} {T j : Nat} {p f k y z : Int} {S P : CS} {s q : RS} {v : Int32} (h : WAZ d T p f k y z S s P q) (hj : (s.i 20).toInt ≤ (j : Int)) : WAZ d T p f k y z S s P (RS.setA q 22 j v) := by
  obtain ⟨h1, h2, h3, ⟨ht, hcd, hn⟩, h5, h6, h7, h8, ⟨l1, l2⟩⟩ := h
  obtain ⟨a1, a2, a3, a4, a5, a6, a7, a8, a9⟩ := hn
  exact ⟨setA_env (Or.inl rfl) h1, h2, h3.tr (setA_frb (Or.inl rfl)), ⟨ht.tr (setA_tb0 (Or.inl rfl)).r l1 (by rw [a4]; exact Int.le_refl _) (by rw [a6]; exact Int.le_refl _), ⟨hcd.1, fun m hm => (setA_ne (by omega)).trans (hcd.2 m hm)⟩, ⟨a1, a2, a3, a4, a5, a6, a7, a8, a9⟩⟩, h5, h6, h7, h8, ⟨l1, l2⟩⟩
theorem WAZ.sa {d : Int32} {T : Nat} {p f k y z : Int} {S P : CS} {s q : RS} {j : Nat} {v : Int32} (h : WAZ d T p f k y z S s P q) (hj : 64 ≤ j ∧ j ≤ 73) : WAZ d T p f k y z S s P (RS.setA q j T v) := ((h.tr ((WAY.rf h.1 h.2.1 h.2.2.2.2.2.1.2.2.2).sa hj) (Int.le_refl _)).nu (by omega) (by omega) (by omega) (by omega) (by omega))
/-- what is expected stands there -/
theorem WAY.nd {N : Nat} (hN : 1000 ≤ N) {d : Int32} {T : Nat} {p f k y z : Int} {S P : CS} {s q : RS} {R : Unit × CS} {V : Int32 × RS} {c e : Int32} (h : WAY d T p f k y z S s P q) (hc : tyR c) (hd : tm c = e) (h6 : ¬ e = 6) (h0 : ¬ c = 0) (e1 : f_X1_expect N P c = some R) (g : f_X12_need N q e = some V) : (V.1 = 0 ∧ ¬ R.2.i 32 = 0 ∧ ¬ V.2.i 15 = 0) ∨ (V.1 = 1 ∧ WAY d T (p + 1) (f + 3) (k + 0) (y - 2 * 1) (z + 1) S s R.2 V.2 ∧ ∀ r : Nat, FRB r q V.2) := by
  rcases y_need hN h.1 hc hd h6 h0 e1 g with o | ⟨o1, o2, o3, o4, o5, o6, o7, o8, o9, o10, o11, o12⟩
  · exact Or.inl o
  · have q17 : (V.2.i 17).toInt = (q.i 17).toInt + 1 := by rw [o6, t17_up (N := N) h.1]
    refine Or.inr ⟨o1, h.tok o3 (qj_63 o4 h.2.1) (FRB.of o4) (TBK.of o4 (by rw [o8]; exact Int.le_refl _) (fun j _ => by rw [o9])) o5 o10 o11 ⟨o7, ?_, by omega, by rw [o12]; omega⟩, fun r => FRB.of o4⟩
    unfold phI
    rw [o8, q17]
    omega
/-- a piece more, with other tellings ahead -/
theorem WAY.cx2 {d d' : Int32} {T : Nat} {p f k y z p1 f1 k1 : Int} {S P R : CS} {s q u : RS} (h : WAY d T p f k y z S s P q) (ev : ENV d' R u) (tu : tpI u = (T : Int)) (fr : FRB T q u) (tb : TBK q u) (ck : CKX P R) (n : (q.i 11).toInt + p1 ≤ (u.i 11).toInt ∧ phI q + f1 ≤ phI u ∧ (q.i 17).toInt ≤ (u.i 17).toInt ∧ (u.i 19).toInt = (q.i 19).toInt + k1) : WAY d' T (p + p1) (f + f1) (k + k1) y z S s R u := by
  obtain ⟨h1, h2, h3, h4, h5, ⟨i1, i2, i3, i4, i5⟩, ⟨h6, h7, h8, h9⟩, ⟨h10, h11, h12⟩⟩ := h
  have k11 := h1.1.2.2.2.1.1
  have k11' := ev.1.2.2.2.1.1
  obtain ⟨⟨a1, a2, a3, a4, a5, a6⟩, -, -, -, -, -, -, -, b1, b2, b3⟩ := id ck
  rw [k11, k11'] at b1 b2 b3
  exact ⟨ev, tu, h3.tr fr, h4.tr tb, h5.tr i3 ck.z, ⟨a3.trans i1, a4.trans i2, a5.trans i3, a6.trans i4, a2.trans i5⟩, ⟨by omega, by omega, by omega, by omega⟩, ⟨by omega, by omega, by omega⟩⟩
/-- the row gets another count of names -/
theorem PSQ.so3 {S R : CS} {a m : Nat} {v x3 w : Int32} (h : PSQ S R a m v x3) : PSQ S (CS.setO R a 3 w) a m v w := by
  obtain ⟨⟨c1, c2, c3, c4, c5, c6, c7, c8⟩, h2, h3, h4, ⟨f0, f1, f3, f14⟩, h6⟩ := h
  refine ⟨⟨c1, c2, fun i b hi hb => ?_, c4, c5, c6, c7, c8⟩, h2, h3, h4, ⟨(so_nk (by decide)).trans f0, (so_nk (by decide)).trans f1, so_at, (so_nk (by decide)).trans f14⟩, h6⟩
  have z := c3 i b hi hb
  rw [so_ne (h6 i b hi hb)]
  exact z
/-- the frame on top, its state aside -/
def FT (T : Nat) (q u : RS) : Prop := u.a 64 T = q.a 64 T ∧ u.a 66 T = q.a 66 T ∧ u.a 67 T = q.a 67 T ∧ u.a 68 T = q.a 68 T ∧ u.a 69 T = q.a 69 T ∧ u.a 70 T = q.a 70 T ∧ u.a 71 T = q.a 71 T ∧ u.a 72 T = q.a 72 T ∧ u.a 73 T = q.a 73 T
theorem FT.tr {T : Nat} {q u w : RS} (h : FT T q u) (g : FT T u w) : FT T q w := by
  obtain ⟨h1, h2, h3, h4, h5, h6, h7, h8, h9⟩ := h
  obtain ⟨g1, g2, g3, g4, g5, g6, g7, g8, g9⟩ := g
  exact ⟨g1.trans h1, g2.trans h2, g3.trans h3, g4.trans h4, g5.trans h5, g6.trans h6, g7.trans h7, g8.trans h8, g9.trans h9⟩
theorem FRB.ft {T : Nat} {q u : RS} (h : ∀ r : Nat, FRB r q u) : FT T q u ∧ u.a 65 T = q.a 65 T := by
  obtain ⟨f0, f1, f2, f3, f4, f5, f6, f7, f8, f9, -⟩ := h (T + 1) T (by omega)
  exact ⟨⟨f0, f2, f3, f4, f5, f6, f7, f8, f9⟩, f1⟩
theorem EXO.ft {d : Int32} {T : Nat} {st : Int32} {S R : CS} {q u : RS} (x : EXO d T st S q R u) : FT T q u ∧ u.a 65 T = st := by
  obtain ⟨f0, f1, f2, f3, f4, f5, f6, f7, f8, f9, -⟩ := x.2.2.1
  exact ⟨⟨f0, f2, f3, f4, f5, f6, f7, f8, f9⟩, f1⟩
theorem FT.s65 {T : Nat} {q : RS} {v : Int32} : FT T q (RS.setA q 65 T v) := ⟨rfl, rfl, rfl, rfl, rfl, rfl, rfl, rfl, rfl⟩
theorem WAZ.em {N : Nat} {d : Int32} {T : Nat} {p f k y z : Int} {S P : CS} {s q : RS} {o x : Int32} {v : Int32 × RS} (h : WAZ d T p f k y z S s P q) (h1 : 1 ≤ phI q) (e : f_X12_emit N q o x = some v) : WAZ d T p (f - 1) k y z S s P v.2 ∧ (∀ r : Nat, FRB r q v.2) ∧ v.1 = q.i 20 ∧ (v.2.i 20).toInt = (q.i 20).toInt + 1 ∧ v.2.i 10 = q.i 10 := by
  obtain ⟨w1, w2, w3, w4, w5⟩ := (WAY.rf h.1 h.2.1 h.2.2.2.2.2.1.2.2.2).em h1 e
  exact ⟨(h.tr w1 (by omega)).nu (by omega) (by omega) (by omega) (by omega) (by omega), w2, w3, w4, w5⟩
theorem WAZ.ad {N : Nat} {d : Int32} {T : Nat} {p f k y z : Int} {S P : CS} {s q : RS} {o x : Int32} {w : Unit × CS} (h : WAZ d T p f k y z S s P q) (e : f_X0_add N P o x = some w) : WAZ d T p f k y z S s w.2 q :=
  (h.tr ((WAY.rf h.1 h.2.1 h.2.2.2.2.2.1.2.2.2).ad e) (by omega)).nu (by omega) (by omega) (by omega) (by omega) (by omega)
theorem WAZ.ai {N : Nat} {d : Int32} {T : Nat} {p f k y z : Int} {S P : CS} {s q : RS} {x : Int32} {w : Unit × CS} (h : WAZ d T p f k y z S s P q) (e : f_X0_aim N P x = some w) : WAZ d T p f k y z S s w.2 q :=
  (h.tr ((WAY.rf h.1 h.2.1 h.2.2.2.2.2.1.2.2.2).ai e) (by omega)).nu (by omega) (by omega) (by omega) (by omega) (by omega)
theorem WAZ.nt {N : Nat} {d : Int32} {T : Nat} {p f k y z : Int} {S P : CS} {s q : RS} {w : Int32 × CS} (h : WAZ d T p f k y z S s P q) (h21 : (P.i 21).toInt + 1 ≤ 3 * (q.i 11).toInt + 8) (e : f_X0_newTarget N P = some w) : WAZ d T p f k (y + 1) z S s w.2 q :=
  (h.tr ((WAY.rf h.1 h.2.1 h.2.2.2.2.2.1.2.2.2).nt h21 e) (by omega)).nu (by omega) (by omega) (by omega) (by omega) (by omega)
theorem WAZ.nd {N : Nat} (hN : 1000 ≤ N) {d : Int32} {T : Nat} {p f k y z : Int} {S P : CS} {s q : RS} {R : Unit × CS} {V : Int32 × RS} {c e : Int32} (h : WAZ d T p f k y z S s P q) (hc : tyR c) (hd : tm c = e) (h6 : ¬ e = 6) (h0 : ¬ c = 0) (e1 : f_X1_expect N P c = some R) (g : f_X12_need N q e = some V) : (V.1 = 0 ∧ ¬ R.2.i 32 = 0 ∧ ¬ V.2.i 15 = 0) ∨ (V.1 = 1 ∧ WAZ d T (p + 1) (f + 3) k (y - 2) (z + 1) S s R.2 V.2 ∧ ∀ r : Nat, FRB r q V.2) := by
  rcases (WAY.rf h.1 h.2.1 h.2.2.2.2.2.1.2.2.2).nd hN hc hd h6 h0 e1 g with o | ⟨o1, w1, w2⟩
  · exact Or.inl o
  · exact Or.inr ⟨o1, (h.tr w1 (by omega)).nu (by omega) (by omega) (by omega) (by omega) (by omega), w2⟩
theorem WAZ.nx {N : Nat} (hN : 1000 ≤ N) {d : Int32} {T : Nat} {p f k y z : Int} {S P : CS} {s q u : RS} {R : Unit × CS} (h : WAZ d T p f k y z S s P q) (nz : ¬ P.i 43 = 0) (e : f_X9_advance N P = some R) (g : f_X12_next N q = some u) : WAZ d T (p + 1) (f + 3) k (y - 2) (z + 1) S s R.2 u ∧ (∀ r : Nat, FRB r q u) := by
  obtain ⟨w1, w2⟩ := (WAY.rf h.1 h.2.1 h.2.2.2.2.2.1.2.2.2).nx hN nz e g
  exact ⟨(h.tr w1 (by omega)).nu (by omega) (by omega) (by omega) (by omega) (by omega), w2⟩
theorem WAZ.exo {d : Int32} {T : Nat} {st : Int32} {p f k y z : Int} {S P R : CS} {s q u : RS} (h : WAZ d T p f k y z S s P q) (x : EXO d T st P q R u) : WAZ d T (p + 1) (f + 1) k y z S s R u :=
  (h.tr ((WAY.rf h.1 h.2.1 h.2.2.2.2.2.1.2.2.2).exo x) (by omega)).nu (by omega) (by omega) (by omega) (by omega) (by omega)
theorem WAZ.lo {d : Int32} {T : Nat} {p f k y z : Int} {S P : CS} {s q : RS} (h : WAZ d T p f k y z S s P q) : (s.i 11).toInt + p ≤ (q.i 11).toInt ∧ phI s + f ≤ phI q ∧ (s.i 20).toInt ≤ (q.i 20).toInt ∧ (P.i 21).toInt + 2 * (s.i 11).toInt ≤ (S.i 21).toInt + 2 * (q.i 11).toInt + y ∧ (P.i 54).toInt + (s.i 11).toInt + z ≤ (S.i 54).toInt + (q.i 11).toInt := ⟨h.2.2.2.2.2.2.1.1, h.2.2.2.2.2.2.1.2.1, h.2.2.2.1.2.1.1, h.2.2.2.2.2.2.2.1.1, h.2.2.2.2.2.2.2.1.2.1⟩
