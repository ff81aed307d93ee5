/-! both readers: a row more, any but a loop's and a label's -/
/-- the chains, heads and waiting instructions of the rows lie before the statement's code -/
def COF (s : RS) (R : CS) (u : RS) (L : List CEL) (col : Nat → Option (Nat × Bool)) : Prop := (∀ k : Int, (s.i 20).toInt ≤ k → col k.toNat = none) ∧ (∀ y ∈ L, R.o y.2.1 0 = 218 → (u.a 66 (ceT y)).toInt < (s.i 20).toInt) ∧ (∀ y ∈ L, ∀ k : Int, PLF R u y k → k < (s.i 20).toInt)
theorem COL.cof {S R : CS} {s u : RS} {T : Nat} {L : List CEL} {col : Nat → Option (Nat × Bool)} {b20 : Int} (h : COL S s L col b20) (h0 : 0 ≤ (s.i 20).toInt) (hin : INL S s T L) (ck : CKZ S R) (f : FRB T s u) : COF s R u L col := by
  have eo := fun c hc => (hin.o ck c hc).1
  have fr : ∀ c ∈ L, u.a 66 (ceT c) = s.a 66 (ceT c) ∧ u.a 67 (ceT c) = s.a 67 (ceT c) ∧ u.a 68 (ceT c) = s.a 68 (ceT c) := fun c hc => by
    have a := (hin c hc).2.2.1
    have b := wid1 (S.o c.2.1 0)
    have z := f (ceT c) (by omega)
    exact ⟨z.2.2.1, z.2.2.2.1, z.2.2.2.2.1⟩
  refine ⟨fun k hk => (h.fresh h0 hk).1, fun y hy t => ?_, fun y hy k p => ?_⟩
  · rw [eo y hy] at t
    rw [(fr y hy).1]
    exact (h.2.2.2.2.1 y hy t).2.1
  · have p' : PLF S s y k := by
      unfold PLF at *
      rw [eo y hy, (fr y hy).1, (fr y hy).2.1, (fr y hy).2.2] at p
      exact p
    exact (h.2.2.2.2.2.2 y hy k p').2.1
/-- as WAZ, but frames above T and the depth may be other -/
def NM9 (s u : RS) : Prop := u.i 2 = s.i 2 ∧ u.i 3 = s.i 3 ∧ u.i 8 = s.i 8 ∧ u.i 43 = s.i 43 ∧ True ∧ u.i 56 = s.i 56 ∧ u.a 1 = s.a 1 ∧ u.a 4 = s.a 4 ∧ u.b 9 = s.b 9
def WAX (d : Int32) (T : Nat) (p f k y z : Int) (S : CS) (s : RS) (P : CS) (q : RS) : Prop := ENV d P q ∧ True ∧ FRB T s q ∧ (TBR s q ∧ CDK (s.i 20).toInt s q ∧ NM9 s q) ∧ CKZ S P ∧ (P.i 38 = S.i 38 ∧ P.i 53 = S.i 53 ∧ P.i 56 = S.i 56 ∧ P.i 36 = 1) ∧ ((s.i 11).toInt + p ≤ (q.i 11).toInt ∧ phI s + f ≤ phI q ∧ (s.i 17).toInt ≤ (q.i 17).toInt ∧ (q.i 19).toInt = (s.i 19).toInt + k) ∧ ((P.i 21).toInt + 2 * (s.i 11).toInt ≤ (S.i 21).toInt + 2 * (q.i 11).toInt + y ∧ (P.i 54).toInt + (s.i 11).toInt + z ≤ (S.i 54).toInt + (q.i 11).toInt ∧ 6 * (P.i 55).toInt + (s.i 11).toInt ≤ 6 * (S.i 55).toInt + (q.i 11).toInt) ∧ ((s.i 38).toInt ≤ (q.i 38).toInt ∧ (8 * ((s.i 38).toInt - 2) ≤ (s.i 11).toInt → 8 * ((q.i 38).toInt - 2) ≤ (q.i 11).toInt))
theorem WAZ.x {d : Int32} {T : Nat} {p f k y z : Int} {S P : CS} {s q : RS} (h : WAZ d T p f k y z S s P q) : WAX d T p f k y z S s P q := by
  obtain ⟨h1, h2, h3, ⟨h4, h5, ⟨a1, a2, a3, a4, a5, a6, a7, a8, a9⟩⟩, h6, h7, h8, h9, h10⟩ := h
  exact ⟨h1, trivial, h3, ⟨h4, h5, ⟨a1, a2, a3, a4, trivial, a6, a7, a8, a9⟩⟩, h6, h7, h8, h9, h10⟩
theorem WAX.nu {d : Int32} {T : Nat} {p f k y z p' f' k' y' z' : Int} {S P : CS} {s q : RS} (h : WAX d T p f k y z S s P q) (hp : p' ≤ p) (hf : f' ≤ f) (hk : k' = k) (hy : y ≤ y') (hz : z' ≤ z) : WAX d T p' f' k' y' z' S s P q := by
  obtain ⟨h1, h2, h3, h4, h5, h6, ⟨n1, n2, n3, n4⟩, ⟨r1, r2, r3⟩, l⟩ := h
  exact ⟨h1, h2, h3, h4, h5, h6, ⟨by omega, by omega, n3, by omega⟩, ⟨by omega, by omega, r3⟩, l⟩
theorem WAX.lo {d : Int32} {T : Nat} {p f k y z : Int} {S P : CS} {s q : RS} (h : WAX d T p f k y z S s P q) : (s.i 11).toInt + p ≤ (q.i 11).toInt ∧ phI s + f ≤ phI q ∧ (s.i 20).toInt ≤ (q.i 20).toInt ∧ (P.i 21).toInt + 2 * (s.i 11).toInt ≤ (S.i 21).toInt + 2 * (q.i 11).toInt + y ∧ (P.i 54).toInt + (s.i 11).toInt + z ≤ (S.i 54).toInt + (q.i 11).toInt ∧ (s.i 17).toInt ≤ (q.i 17).toInt := ⟨h.2.2.2.2.2.2.1.1, h.2.2.2.2.2.2.1.2.1, h.2.2.2.1.2.1.1, h.2.2.2.2.2.2.2.1.1, h.2.2.2.2.2.2.2.1.2.1, h.2.2.2.2.2.2.1.2.2.1⟩
theorem WAX.sum {d d0 : Int32} {T : Nat} {p f k y z : Int} {S P : CS} {s q : RS} (h : WAX d T p f k y z S s P q) (h0 : ENV d0 S s) : SGS P (cnI P).toNat = SGS S (cnI S).toNat ∧ WCS P (cnI P).toNat = WCS S (cnI S).toNat := by
  have w := h0.ri.2.2.2.1
  refine sum_eq w.2 (fun i hi => ?_) h.2.2.2.2.2.1.2.1
  have hi' : (i : Int) < (S.i 53).toInt := by
    have : cnI S = (S.i 53).toInt := rfl
    omega
  exact ⟨h.2.2.2.2.1.2.1 i hi', fun a ha => h.2.2.2.2.1.2.2.1 i a hi' ha⟩
theorem WAX.sg {d d0 : Int32} {T : Nat} {p f k y z : Int} {S P : CS} {s q : RS} (h : WAX d T p f k y z S s P q) (h0 : ENV d0 S s) : SGS P (cnI P).toNat + k ≤ sgI P := by
  rw [(h.sum h0).1]
  have e0 := h0.2.2.1.1
  have e1 := h.1.2.2.1.1
  have w := h0.ri.2.2.2.2.2.2
  have n := h.2.2.2.2.2.2.1.2.2.2
  unfold sgI at *
  rw [e0] at w
  rw [e1]
  omega
theorem WAX.pay {d d0 : Int32} {T : Nat} {p f k y z : Int} {S P : CS} {s q : RS} (h : WAX d T p f k y z S s P q) (h0 : ENV d0 S s) (hp : 4 ≤ p) : WCS P (cnI P).toNat + 3 ≤ eI P := by
  rw [(h.sum h0).2]
  have w := h0.ri.2.2.2.2.2.1
  have a := (eI.ge S).2
  have b := (eI.ge P).1
  have n := h.2.2.2.2.2.2.1.1
  have e0 := h0.1.2.2.2.1.1
  have e1 := h.1.1.2.2.2.1.1
  unfold plI at a b
  rw [e0] at a
  rw [e1] at b
  omega
/-- the reference changes, no token is read, no name told -/
theorem WAX.rs {d : Int32} {T : Nat} {p f k y z f1 : Int} {S P : CS} {s q u : RS} (h : WAX d T p f k y z S s P q) (ev : ENV d P u) (fr : FRB T q u) (tb : TBK9 q u) (n : u.i 11 = q.i 11 ∧ phI q + f1 ≤ phI u ∧ u.i 17 = q.i 17 ∧ u.i 19 = q.i 19) : WAX d T p (f + f1) k y z S s P u := by
  obtain ⟨h1, -, h3, ⟨h4, h5, ⟨a1, a2, a3, a4, -, a6, a7, a8, a9⟩⟩, h6, h7, ⟨n1, n2, n3, n4⟩, ⟨r1, r2, r3⟩, ⟨l1, l2⟩⟩ := h
  obtain ⟨⟨⟨t1, t2, t3, t4, t5, -, t7, t8, t9, t10⟩, tr⟩, tc⟩ := tb
  exact ⟨ev, trivial, h3.tr fr, ⟨h4.tr tr l1 (by rw [a4]; exact Int.le_refl _) (by rw [a6]; exact Int.le_refl _), h5.tr (tc.wk h5.1), ⟨t1.trans a1, t2.trans a2, t3.trans a3, t5.trans a4, trivial, t7.trans a6, t8.trans a7, t9.trans a8, t10.trans a9⟩⟩, h6, h7, ⟨by rw [n.1]; exact n1, by omega, by rw [n.2.2.1]; exact n3, by rw [n.2.2.2]; exact n4⟩, ⟨by rw [n.1]; exact r1, by rw [n.1]; exact r2, by rw [n.1]; exact r3⟩, ⟨by rw [t4]; exact l1, fun w => by rw [t4, n.1]; exact l2 w⟩⟩
theorem WAX.op {N : Nat} (hN : 1000 ≤ N) {d : Int32} {T : Nat} {p f k y z : Int} {S P : CS} {s q : RS} {R : Unit × CS} {V : Int32 × RS} {c e : Int32} (h : WAX d T p f k y z S s P q) (hc : tyR c) (hd : tm c = e) (h6 : ¬ e = 6) (h0 : ¬ c = 0) (e1 : f_X1_open N P c = some R) (g : f_X12_open N q e = some V) : (V.1 = 0 ∧ ¬ R.2.i 32 = 0 ∧ ¬ V.2.i 15 = 0) ∨ (V.1 = 1 ∧ WAX d T (p + 1) (f + 3) (k + 1) (y - 2) (z + 1) S s R.2 V.2 ∧ (∀ r : Nat, FRB r q V.2) ∧ V.2.i 63 = q.i 63 ∧ V.2.i 38 = q.i 38) := by
  rcases y_open hN h.1 hc hd h6 h0 e1 g with o | ⟨o1, o2, o3, o4, o5, o6, o7, o8, o9, o10, o11, o12⟩
  · exact Or.inl o
  · have q17 : (V.2.i 17).toInt = (q.i 17).toInt + 1 := by rw [o6, t17_up (N := N) h.1]
    have ck := CKX.of o5 o10 o11
    obtain ⟨h1, -, h3, ⟨h4, h5, ⟨a1, a2, a3, a4, -, a6, a7, a8, a9⟩⟩, h6', ⟨i1, i3, i4, i5⟩, ⟨n1, n2, n3, n4⟩, ⟨r1, r2, r3⟩, ⟨l1, l2⟩⟩ := h
    obtain ⟨⟨⟨t1, t2, t3, t4, t5, t6, t7, t8, t9, t10⟩, tr⟩, tc⟩ := TBK.of (s := q) (u := V.2) o4 (by rw [o8]; exact Int.le_refl _) (fun j _ => by rw [o9])
    obtain ⟨⟨b1, b2, b3, b4, b5, b6⟩, -⟩ := id ck
    have e21 := pj_21 o5
    have e54 := pj_54 o5
    have e55 := (pj_eq o5).2.2.2.2.2.2.2.2.2.2.2.2.2.2.2.2.1
    have e63 : V.2.i 63 = q.i 63 := (qj_eq o4).2.2.2.2.2.2.2.2.2.2.2.2.2.2.2.2.1
    refine Or.inr ⟨o1, ⟨o3, trivial, h3.tr (FRB.of o4), ⟨h4.tr tr l1 (by rw [a4]; exact Int.le_refl _) (by rw [a6]; exact Int.le_refl _), h5.tr (tc.wk h5.1), ⟨t1.trans a1, t2.trans a2, t3.trans a3, t5.trans a4, trivial, t7.trans a6, t8.trans a7, t9.trans a8, t10.trans a9⟩⟩, h6'.tr i3 ck.z, ⟨b3.trans i1, b5.trans i3, b6.trans i4, b2.trans i5⟩, ⟨by omega, ?_, by omega, by omega⟩, ⟨by rw [e21]; omega, by rw [e54]; omega, by rw [e55]; omega⟩, ⟨by rw [t4]; exact l1, fun w => by rw [t4]; have := l2 w; omega⟩⟩, fun r => FRB.of o4, e63, t4⟩
    have z1 : phI V.2 = phI q + 3 := by
      unfold phI
      rw [o8, q17]
      omega
    omega
set_option maxHeartbeats 4000000 in
theorem COR.gen {d : Int32} {B : CS} {b : RS} {t0 T : Nat} {L : List CEL} {x p f k y z : Int} {S P R : CS} {s q u : RS} {c : CEL} {a m : Nat} {v x3 : Int32} (hC : COR d B b t0 (c :: L) x S s) (q1 : TOP S s c) (q2 : LOW S s c) (q3 : T = ceT c + wid (S.o c.2.1 0)) (hT : t0 ≤ T) (hm : NMC c S) (hx : S.o c.2.1 0 = 303 → x = -1) (w : WAX d T p f k y z S s P q) (hp : 0 ≤ p) (nv : ¬ v = 303 ∧ ¬ v = 205 ∧ ¬ v = 206 ∧ ¬ v = 207 ∧ ¬ v = 304 ∧ ¬ v = 216 ∧ isKS v) (sq : PSQ P R a m v x3) (g3 : R.o a 3 = S.i 50) (x38 : (R.i 38).toInt = (P.i 38).toInt + (nDp v : Int)) (fu : FRB T q u) (tu : TBR q u) (cu : CDK (q.i 20).toInt q u) (nu : u.i 2 = q.i 2 ∧ u.i 3 = q.i 3 ∧ u.i 8 = q.i 8 ∧ u.i 38 = q.i 38 ∧ u.a 1 = q.a 1 ∧ u.a 4 = q.a 4 ∧ u.b 9 = q.b 9) (e43 : (u.i 43).toInt = (q.i 43).toInt + (nGo v : Int)) (e56 : (u.i 56).toInt = (q.i 56).toInt + (nWl v : Int)) (ev : ENV d R u) (nn : (q.i 11).toInt ≤ (u.i 11).toInt ∧ phI s + dbt v ≤ phI u ∧ (q.i 17).toInt ≤ (u.i 17).toInt ∧ (u.i 19).toInt = (s.i 19).toInt + (nSg v : Int)) (n21 : (R.i 21).toInt + 2 * (s.i 11).toInt ≤ (S.i 21).toInt + 2 * (u.i 11).toInt) (n54 : (R.i 54).toInt + (s.i 11).toInt ≤ (S.i 54).toInt + (u.i 11).toInt) (up : u.i 59 = q.i 59 ∧ u.a 60 = q.a 60 ∧ u.a 61 = q.a 61 ∧ u.a 62 = q.a 62) (cst : ∀ c1 : CEL, c1.1 = m → c1.2.1 = a → ceT c1 = T → (ceG c1 : Int) = (q.i 43).toInt → (ceW c1 : Int) = (q.i 56).toInt → CST R u c1 (R.i 22).toInt (u.i 24).toInt (u.i 33).toInt (R.i 22).toInt (u.i 24).toInt (u.i 33).toInt) (na : ∀ g : Nat, (q.i 43).toInt = (g : Int) → isGo v → ¬ u.a 44 g = 3 ∧ u.a 50 g = 0 ∧ u.a 51 g = 0) (hy : isTy v → (u.a 66 T).toInt = (q.i 29).toInt) (hcol : ∀ (c1 : CEL) (col : Nat → Option (Nat × Bool)), c1.2.1 = a → ceT c1 = T → (ceG c1 : Int) = (q.i 43).toInt → (∀ y ∈ c :: L, y.1 < c1.1) → COL R u (c :: L) col (b.i 20).toInt → COF s R u (c :: L) col → (b.i 20).toInt ≤ (s.i 20).toInt → COL R u (c1 :: c :: L) col (b.i 20).toInt) : ∃ c1 : CEL, COR d B b t0 (c1 :: c :: L) (-9) R u ∧ TOP R u c1 ∧ c1.2.1 = a ∧ ceT c1 = T := by
  obtain ⟨w1, w2, wf, ⟨wt, wcd, wn⟩, wz, ⟨j38, j53, j56, j36⟩, ⟨n11, nph, n17, n19⟩, ⟨-, -, n55⟩, ⟨l38, l8⟩⟩ := w
  obtain ⟨nm1, nm2, nm3, nm4, nm5, nm6, nm7, nm8, nm9⟩ := wn
  obtain ⟨nu1, nu2, nu3, nu4, nu5, nu6, nu7⟩ := nu
  have hin := hC.inl q1 q3
  obtain ⟨zX, ⟨r53, r54, r55, r52⟩, ⟨r50, r56, r36⟩, ⟨m1', m2', rr1⟩, ⟨g0, g1', -, g14⟩, -⟩ := id sq
  have hv0 := hC.1
  have t1 := q1.2.1
  have t2 := q1.2.2
  have fr1 : FRB T s u := wf.tr fu
  have tb : TBR s u := wt.tr tu l38 (by rw [nm4]; exact Int.le_refl _) (by rw [nm6]; exact Int.le_refl _)
  have cd1 : CDK (s.i 20).toInt s u := wcd.tr (cu.wk wcd.1)
  have ckall : CKZ S R := wz.tr j53 zX
  have eo := (hin.o ckall c List.mem_cons_self).1
  have low : LOW R u c := q2.mv eo fr1 (by omega)
  have z44 : S.i 44 = s.i 11 := hv0.1.2.2.2.1.1
  have z45 : R.i 44 = u.i 11 := ev.1.2.2.2.1.1
  have rte : RTE S R := by
    unfold RTE
    rw [z44, z45, r55]
    exact ⟨n21, n54, by omega⟩
  obtain ⟨sj1, sj2, sj3, sj4, sj5, sj6⟩ := id w1.sj
  have hi11 := i11_hi w1
  have hinP : INL P q T (c :: L) := hin.mv wz j53 nm4 nm6
  have eoP : ∀ y ∈ c :: L, P.o y.2.1 = S.o y.2.1 := fun y hy => (hin.o wz y hy).1
  have eP : ∀ y ∈ c :: L, R.o y.2.1 = P.o y.2.1 := fun y hy => (hinP.o zX y hy).1
  obtain ⟨b29, b30, b0, col, hc⟩ := id hC.2.2.2.2.2.2.2.2.2.2
  have jP : JMQ P q (c :: L) (b.i 59).toInt (b.i 29).toInt := hC.2.2.1.mv b29 hv0.sj.1 hin wz wf wt
  have jp := hC.jp
  obtain ⟨-, -, -, -, -, -, j7, -⟩ := id jP
  obtain ⟨k1, k2, k3, k4, k5⟩ := j7 c List.mem_cons_self
  rw [eoP c List.mem_cons_self] at k1 k2 k3 k4 k5
  have lo29 : (s.i 29).toInt ≤ (q.i 29).toInt := wt.2.2.2.2.2.1
  have t21 := hC.2.2.2.2.2.2.2.2.1.1
  have q54 := hC.2.2.2.2.2.2.2.2.1.2.2
  have n8 := hC.2.2.2.2.2.2.2.2.1.2.1
  have h8 := l8 n8
  have o1i : (R.o a 1).toInt = (P.i 54).toInt + 1 := by rw [g1', ad1 sj1 (by omega)]
  have s43 : (q.i 43).toInt = (s.i 43).toInt := by rw [nm4]
  have s56 : (q.i 56).toInt = (s.i 56).toInt := by rw [nm6]
  obtain ⟨c1, hc1⟩ : ∃ c1 : CEL, c1 = (c.1 + 1, a, T, ceG c + nGo (S.o c.2.1 0), ceW c + nWl (S.o c.2.1 0)) := ⟨_, rfl⟩
  have v1 : c1.1 = c.1 + 1 := by rw [hc1]
  have v2 : c1.2.1 = a := by rw [hc1]
  have v3 : ceT c1 = T := by rw [hc1]; rfl
  have v4 : ceG c1 = ceG c + nGo (S.o c.2.1 0) := by rw [hc1]; rfl
  have v5 : ceW c1 = ceW c + nWl (S.o c.2.1 0) := by rw [hc1]; rfl
  clear hc1
  have em2 : m = c.1 + 1 := by
    have a1 := q1.1
    rw [j53] at m1'
    omega
  have v4' : (ceG c1 : Int) = (q.i 43).toInt := by rw [v4, s43, t1]; omega
  have v5' : (ceW c1 : Int) = (q.i 56).toInt := by rw [v5, s56, t2]; omega
  have s20 : 0 ≤ (s.i 20).toInt := by
    have := hC.2.2.2.2.2.1.2.2.1.1
    omega
  have ord := STK.ord L c _ _ _ hC.2.1
  have hn : ∀ y ∈ c :: L, y.1 < c1.1 := fun y hy => by
    rcases List.mem_cons.mp hy with rfl | hy
    · omega
    · have := ord y hy
      omega
  have iar : IAR R u := by
    obtain ⟨⟨z1, z2⟩, z3⟩ := hC.2.2.2.2.2.2.2.2.2.1
    have e56' : R.i 56 = S.i 56 := r56.trans j56
    unfold IAR
    rw [e56']
    refine ⟨⟨fun z => ?_, fun z => ?_⟩, fun z => ?_⟩
    · obtain ⟨g', w1, w2⟩ := z1 z
      exact ⟨g', by omega, (tb.2.1 g' w1).1.trans w2⟩
    · obtain ⟨g', w1, w2⟩ := z
      by_cases cg : (g' : Int) < (s.i 43).toInt
      · exact z2 ⟨g', cg, (tb.2.1 g' cg).1.symm.trans w2⟩
      · exfalso
        by_cases gv : isGo v
        · have eg : (q.i 43).toInt = (g' : Int) := by
            have := nGo1 gv
            omega
          exact (na g' eg gv).1 w2
        · have := nGo.eq gv
          omega
    · obtain ⟨w1, w2, a', w3⟩ := z3 z
      exact ⟨by rw [r53, j53]; omega, w2, a', (ckall.2.1 _ (by omega)).trans w3⟩
  have lb : LBC R u (c :: L) (-1) := by
    have z := hC.2.2.2.1
    have z2 : LBC S s (c :: L) (-1) := by
      by_cases w : S.o c.2.1 0 = 303
      · rw [hx w] at z
        exact z
      · exact z.no w
    exact LBC.mv (c :: L) (-1) z2 (fun y hy => (hin.o ckall y hy).1) (fun y hy w => (tb.2.1 (ceG y) ((hin y hy).2.2.2.1 (Or.inl w))).2.2.1)
  have bs := hC.2.2.2.2.2.1.2.2.1.1
  refine ⟨c1, hC.push hin hT ev fr1 tb cd1 ⟨nu1.trans nm1, nu2.trans nm2, nu3.trans nm3, nu5.trans nm7, nu6.trans nm8, nu7.trans nm9⟩ (by omega) (by omega) ckall jP hinP eP fu (fun y hy hgo bb => ?_) ⟨by have := jp.1.1; omega, fun y hy ty => ?_, w1.wp.2⟩ ⟨sj1, sj3⟩ r54 r55 r52 (by rw [v2, g0, x38, j38]) (by rw [r53, j53]; omega) rte ⟨by omega, by rw [v2, g0]; exact nn.2.1, by omega, by rw [v2, g0]; exact nn.2.2.2⟩ (by omega) (by omega) (by rw [nu4]; omega) (by rw [nu4]; exact l38) up.1 up.2.1 up.2.2.1 up.2.2.2 (cst c1 (by rw [v1]; exact em2.symm) v2 v3 v4' v5') ⟨v1, by rw [v3, eo]; exact q3, by rw [v4, eo], by rw [v5, eo], by rw [v2, eo, o1i]; omega, by rw [v2, eo, g14]; exact k4, fun w => by rw [v2, eo, g14]; rw [eo] at w; exact (k5 w).2, fun w1 w2 w3 => by rw [v2, eo, g3]; rw [eo] at w1 w2 w3; exact hm w1 w2 w3, by rw [v2, g0]; exact nv.2.2.2.2.2.2⟩ low ?_ iar ⟨col, hcol c1 col v2 v3 v4' hn (hc.mv b0 hin ckall fr1 tb cd1) (hc.cof s20 hin ckall fr1) bs⟩ (by rw [v2]; exact o1i) (by rw [v2]; exact g14) (by rw [v2, g0]; exact nv.2.2.2.2.2.1) (fun w bb => ?_) (fun w => ?_) (r56.trans j56) (by rw [v2]; exact g3), ⟨?_, ?_, ?_⟩, v2, v3⟩
  · have lt := (hinP y hy).2.2.2.1 hgo
    have w' := tu.2.1 (ceG y) lt
    unfold flg
    rw [w'.2.2.2.2.1, w'.2.2.2.2.2.1]
  · rw [eoP y hy] at ty
    have w1 := wid1 (S.o y.2.1 0)
    have w2 := (hin y hy).2.2.1
    rw [(wf (ceT y) (by omega)).2.2.1]
    have := jp.1.2.1 y hy ty
    omega
  · unfold LBC
    rw [v2, if_neg (by rw [g0]; exact nv.1), if_neg (by
      rw [g0]
      intro z
      rcases z with z | z | z | z
      · exact nv.2.1 z
      · exact nv.2.2.1 z
      · exact nv.2.2.2.1 z
      · exact nv.2.2.2.2.1 z)]
    exact lb
  · rw [v2, g0] at w
    obtain ⟨-, y1, y2⟩ := na (ceG c1) v4'.symm w
    unfold flg
    rw [y1, y2]
    by_cases z : bb = 0
    · exact if_pos z
    · exact if_neg z
  · rw [v2, g0] at w
    rw [v3]
    exact hy w
  · rw [r53, j53, v1]
    have := q1.1
    omega
  · rw [v2, g0, v4', e43]
  · rw [v2, g0, v5', e56]
