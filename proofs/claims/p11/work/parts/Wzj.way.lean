/-! both readers: the way through a statement's head -/
/-- from where the statement began to a later place in its head, its frame on top: p bytes, f free instructions, k signs, y targets and z rows that are (not) paid -/
def WAY (d : Int32) (T : Nat) (p f k y z : Int) (S : CS) (s : RS) (P : CS) (q : RS) : Prop := ENV d P q ∧ tpI q = (T : Int) ∧ FRB T s q ∧ TBK s q ∧ CKZ S P ∧ (P.i 38 = S.i 38 ∧ P.i 50 = S.i 50 ∧ P.i 53 = S.i 53 ∧ P.i 56 = S.i 56 ∧ P.i 36 = 1) ∧ ((s.i 11).toInt + p ≤ (q.i 11).toInt ∧ phI s + f ≤ phI q ∧ (s.i 17).toInt ≤ (q.i 17).toInt ∧ (q.i 19).toInt = (s.i 19).toInt + k) ∧ ((P.i 21).toInt + 2 * (s.i 11).toInt ≤ (S.i 21).toInt + 2 * (q.i 11).toInt + y ∧ (P.i 54).toInt + (s.i 11).toInt + z ≤ (S.i 54).toInt + (q.i 11).toInt ∧ 6 * (P.i 55).toInt + (s.i 11).toInt ≤ 6 * (S.i 55).toInt + (q.i 11).toInt)
theorem WAY.stm {d : Int32} {T : Nat} {S : CS} {s : RS} {K : Int32} (hv : ENV d S s) (ht : tpI s = (T : Int)) : WAY d T 0 0 0 0 0 S s (CS.setI (CS.setI S 36 1) 24 ((S.i 24) + 1)) (RS.setA (RS.setI s 53 ((s.i 53) + 1)) 64 T K) := by
  have ev := hv.stm (t := T) (K := K)
  obtain ⟨fz, kz⟩ := stm_r (s := s) (t := T) (v := s.i 53 + 1) (K := K)
  obtain ⟨zS, rS⟩ := stm_z S (S.i 24 + 1)
  obtain ⟨s1, hs1⟩ : ∃ y, y = RS.setA (RS.setI s 53 ((s.i 53) + 1)) 64 T K := ⟨_, rfl⟩
  obtain ⟨S1, hS1⟩ : ∃ y, y = CS.setI (CS.setI S 36 1) 24 ((S.i 24) + 1) := ⟨_, rfl⟩
  have i1 : ∀ k : Nat, k ≠ 53 → s1.i k = s.i k := by
    rw [hs1]
    exact fun k h => if_neg h
  have iS : ∀ k : Nat, k ≠ 36 → k ≠ 24 → S1.i k = S.i k := by
    rw [hS1]
    exact fun k h1 h2 => (ci_ne _ _ _ h2).trans (ci_ne _ _ _ h1)
  have iS36 : S1.i 36 = 1 := by
    rw [hS1, ci_ne _ _ _ (by decide), ci_at]
  rw [← hs1] at ev fz kz ⊢
  rw [← hS1] at ev zS rS ⊢
  clear hs1 hS1
  have e11 := i1 11 (by decide)
  refine ⟨ev, ?_, fz, kz, zS, ⟨iS 38 (by decide) (by decide), iS 50 (by decide) (by decide), iS 53 (by decide) (by decide), iS 56 (by decide) (by decide), iS36⟩, ⟨by rw [e11]; omega, ?_, by rw [i1 17 (by decide)]; exact Int.le_refl _, by rw [i1 19 (by decide)]; omega⟩, ⟨by rw [e11, iS 21 (by decide) (by decide)]; omega, by rw [e11, iS 54 (by decide) (by decide)]; omega, by rw [e11, iS 55 (by decide) (by decide)]; exact Int.le_refl _⟩⟩
  · show (s1.i 63).toInt = (T : Int)
    rw [i1 63 (by decide)]
    exact ht
  · unfold phI
    rw [i1 17 (by decide), i1 20 (by decide)]
    omega
/-- a piece more -/
theorem WAY.cx {d : Int32} {T : Nat} {p f k y z p1 f1 k1 : Int} {S P R : CS} {s q u : RS} (h : WAY d T p f k y z S s P q) (ev : ENV d R u) (tu : tpI u = (T : Int)) (fr : FRB T q u) (tb : TBK q u) (ck : CKX P R) (n : (q.i 11).toInt + p1 ≤ (u.i 11).toInt ∧ phI q + f1 ≤ phI u ∧ (q.i 17).toInt ≤ (u.i 17).toInt ∧ (u.i 19).toInt = (q.i 19).toInt + k1) : WAY d T (p + p1) (f + f1) (k + k1) y z S s R u := by
  obtain ⟨h1, h2, h3, h4, h5, ⟨i1, i2, i3, i4, i5⟩, ⟨h6, h7, h8, h9⟩, ⟨h10, h11, h12⟩⟩ := h
  have k11 := h1.1.2.2.2.1.1
  have k11' := ev.1.2.2.2.1.1
  obtain ⟨⟨a1, a2, a3, a4, a5, a6⟩, -, -, -, -, -, -, -, b1, b2, b3⟩ := id ck
  rw [k11, k11'] at b1 b2 b3
  exact ⟨ev, tu, h3.tr fr, h4.tr tb, h5.tr i3 ck.z, ⟨a3.trans i1, a4.trans i2, a5.trans i3, a6.trans i4, a2.trans i5⟩, ⟨by omega, by omega, by omega, by omega⟩, ⟨by omega, by omega, by omega⟩⟩
/-- a token more, that makes no row and no target -/
theorem WAY.tok {d : Int32} {T : Nat} {p f k y z p1 f1 k1 : Int} {S P R : CS} {s q u : RS} (h : WAY d T p f k y z S s P q) (ev : ENV d R u) (tu : tpI u = (T : Int)) (fr : FRB T q u) (tb : TBK q u) (pj1 : pj R = pj P) (e22 : R.i 22 = P.i 22) (e18 : A18 P R) (n : (q.i 11).toInt + p1 ≤ (u.i 11).toInt ∧ phI q + f1 ≤ phI u ∧ (q.i 17).toInt ≤ (u.i 17).toInt ∧ (u.i 19).toInt = (q.i 19).toInt + k1) : WAY d T (p + p1) (f + f1) (k + k1) (y - 2 * p1) (z + p1) S s R u := by
  have g := h.cx ev tu fr tb (CKX.of pj1 e22 e18) n
  obtain ⟨h1, h2, h3, h4, h5, -, ⟨h6, h7, h8, h9⟩, ⟨h10, h11, h12⟩⟩ := h
  obtain ⟨g1, g2, g3, g4, g5, g6, g7, ⟨g10, g11, g12⟩⟩ := g
  have e21 := pj_21 pj1
  have e54 := pj_54 pj1
  have n1 := n.1
  rw [← e21] at h10
  rw [← e54] at h11
  exact ⟨g1, g2, g3, g4, g5, g6, g7, ⟨by omega, by omega, g12⟩⟩
theorem WAY.nt {N : Nat} {d : Int32} {T : Nat} {p f k y z : Int} {S P : CS} {s q : RS} {w : Int32 × CS} (h : WAY d T p f k y z S s P q) (h21 : (P.i 21).toInt + 1 ≤ 3 * (q.i 11).toInt + 8) (e : f_X0_newTarget N P = some w) : WAY d T p f k (y + 1) z S s w.2 q := by
  obtain ⟨h1, h2, h3, h4, h5, ⟨i1, i2, i3, i4, i5⟩, h6, ⟨h10, h11, h12⟩⟩ := h
  obtain ⟨e1, e2, e3⟩ := h1.nt h21 e
  have hi := i11_hi h1
  have t21 := h1.t21
  unfold f_X0_newTarget at e
  cases e
  exact ⟨e1, h2, h3, h4, h5, ⟨i1, i2, i3, i4, i5⟩, h6, ⟨by omega, h11, h12⟩⟩
theorem WAY.nx {N : Nat} (hN : 1000 ≤ N) {d : Int32} {T : Nat} {p f k y z : Int} {S P : CS} {s q u : RS} {R : Unit × CS} (h : WAY d T p f k y z S s P q) (nz : ¬ P.i 43 = 0) (e : f_X9_advance N P = some R) (g : f_X12_next N q = some u) : WAY d T (p + 1) (f + 3) (k + 0) (y - 2 * 1) (z + 1) S s R.2 u ∧ (∀ r : Nat, FRB r q u) := by
  obtain ⟨a1, a2, a3, a4, a5, a6, a7, a8, a9, a10⟩ := h.1.adv hN nz e g
  have q17 : (u.i 17).toInt = (q.i 17).toInt + 1 := by rw [a4, t17_up (N := N) h.1]
  refine ⟨h.tok a1 (qj_63 a2 h.2.1) (FRB.of a2) (TBK.of a2 (by rw [a6]; exact Int.le_refl _) (fun j _ => by rw [a7])) a3 a8 a9 ⟨a5, ?_, by omega, by rw [a10]; omega⟩, fun r => FRB.of a2⟩
  unfold phI
  rw [a6, q17]
  omega
theorem WAY.ad {N : Nat} {d : Int32} {T : Nat} {p f k y z : Int} {S P : CS} {s q : RS} {o x : Int32} {w : Unit × CS} (h : WAY d T p f k y z S s P q) (e : f_X0_add N P o x = some w) : WAY d T (p + 0) (f + 0) (k + 0) y z S s w.2 q := by
  obtain ⟨a1, a2, -, -⟩ := y_add h.1 e
  exact h.cx a1 h.2.1 (FRB.rf _ _) (TBK.rf _) a2 ⟨by omega, by omega, Int.le_refl _, by omega⟩
theorem WAY.ai {N : Nat} {d : Int32} {T : Nat} {p f k y z : Int} {S P : CS} {s q : RS} {x : Int32} {w : Unit × CS} (h : WAY d T p f k y z S s P q) (e : f_X0_aim N P x = some w) : WAY d T (p + 0) (f + 0) (k + 0) y z S s w.2 q := by
  obtain ⟨a1, a2, -, -⟩ := y_aim h.1 e
  exact h.cx a1 h.2.1 (FRB.rf _ _) (TBK.rf _) a2 ⟨by omega, by omega, Int.le_refl _, by omega⟩
theorem WAY.em {N : Nat} {d : Int32} {T : Nat} {p f k y z : Int} {S P : CS} {s q : RS} {o x : Int32} {v : Int32 × RS} (h : WAY d T p f k y z S s P q) (h1 : 1 ≤ phI q) (e : f_X12_emit N q o x = some v) : WAY d T (p + 0) (f + (-1)) (k + 0) y z S s P v.2 ∧ (∀ r : Nat, FRB r q v.2) ∧ v.1 = q.i 20 ∧ (v.2.i 20).toInt = (q.i 20).toInt + 1 ∧ v.2.i 10 = q.i 10 := by
  obtain ⟨n1, n2, n3, n4, n5, n6, n7, n8, n9, n10', n11⟩ := y_emit h.1 h.2.1 h1 e
  exact ⟨h.cx n1 n2 (n3 T) n4 (CKX.rf P) ⟨by rw [n8]; omega, by omega, by rw [n9]; exact Int.le_refl _, by rw [n10']; omega⟩, n3, n6, n7, n11⟩
theorem WAY.sa {d : Int32} {T : Nat} {p f k y z : Int} {S P : CS} {s q : RS} {j : Nat} {v : Int32} (h : WAY d T p f k y z S s P q) (hj : 64 ≤ j ∧ j ≤ 73) : WAY d T p f k y z S s P (RS.setA q j T v) := by
  obtain ⟨h1, h2, h3, h4, h5, i, h6, h10⟩ := h
  exact ⟨setA_env (Or.inr hj) h1, h2, h3.tr (setA_frb (Or.inr ⟨hj.1, hj.2, Nat.le_refl _⟩)), h4.tr (setA_tbk hj), h5, i, h6, h10⟩
theorem WAY.op {N : Nat} (hN : 1000 ≤ N) {d : Int32} {T : Nat} {p f k y z : Int} {S P : CS} {s q : RS} {R : Unit × CS} {V : Int32 × RS} {c e : Int32} (h : WAY d T p f k y z S s P q) (hc : tyR c) (hd : tm c = e) (h6 : ¬ e = 6) (h0 : ¬ c = 0) (e1 : f_X1_open N P c = some R) (g : f_X12_open N q e = some V) : (V.1 = 0 ∧ ¬ R.2.i 32 = 0 ∧ ¬ V.2.i 15 = 0) ∨ (V.1 = 1 ∧ WAY d T (p + 1) (f + 3) (k + 1) (y - 2 * 1) (z + 1) S s R.2 V.2 ∧ ∀ r : Nat, FRB r q V.2) := by
  rcases y_open hN h.1 hc hd h6 h0 e1 g with o | ⟨o1, o2, o3, o4, o5, o6, o7, o8, o9, o10, o11, o12⟩
  · exact Or.inl o
  · have q17 : (V.2.i 17).toInt = (q.i 17).toInt + 1 := by rw [o6, t17_up (N := N) h.1]
    refine Or.inr ⟨o1, h.tok o3 (qj_63 o4 h.2.1) (FRB.of o4) (TBK.of o4 (by rw [o8]; exact Int.le_refl _) (fun j _ => by rw [o9])) o5 o10 o11 ⟨o7, ?_, by omega, o12⟩, fun r => FRB.of o4⟩
    unfold phI
    rw [o8, q17]
    omega
/-- the rows and their signs are those where the statement began -/
theorem WAY.sum {d d0 : Int32} {T : Nat} {p f k y z : Int} {S P : CS} {s q : RS} (h : WAY d T p f k y z S s P q) (h0 : ENV d0 S s) : SGS P (cnI P).toNat = SGS S (cnI S).toNat ∧ WCS P (cnI P).toNat = WCS S (cnI S).toNat := by
  have w := h0.ri.2.2.2.1
  refine sum_eq w.2 (fun i hi => ?_) h.2.2.2.2.2.1.2.2.1
  have hi' : (i : Int) < (S.i 53).toInt := by
    have : cnI S = (S.i 53).toInt := rfl
    omega
  exact ⟨h.2.2.2.2.1.2.1 i hi', fun a ha => h.2.2.2.2.1.2.2.1 i a hi' ha⟩
theorem WAY.sg {d d0 : Int32} {T : Nat} {p f k y z : Int} {S P : CS} {s q : RS} (h : WAY d T p f k y z S s P q) (h0 : ENV d0 S s) : SGS P (cnI P).toNat + k ≤ sgI P := by
  rw [(h.sum h0).1]
  have e0 := h0.2.2.1.1
  have e1 := h.1.2.2.1.1
  have w := h0.ri.2.2.2.2.2.2
  have n := h.2.2.2.2.2.2.1.2.2.2
  unfold sgI at *
  rw [e0] at w
  rw [e1]
  omega
theorem WAY.pay {d d0 : Int32} {T : Nat} {p f k y z : Int} {S P : CS} {s q : RS} (h : WAY d T p f k y z S s P q) (h0 : ENV d0 S s) (hp : 4 ≤ p) : WCS P (cnI P).toNat + 3 ≤ eI P := by
  rw [(h.sum h0).2]
  have w := h0.ri.2.2.2.2.2.1
  have a := (eI.ge S).2
  have b := (eI.ge P).1
  have n := h.2.2.2.2.2.2.1.1
  have e0 := h0.1.2.2.2.1.1
  have e1 := h.1.1.2.2.2.1.1
  unfold plI at a b
  rw [e0] at a
  rw [e1] at b
  omega
theorem WAY.cl {N : Nat} (hN : 1000 ≤ N) {d d0 : Int32} {T : Nat} {p f k y z : Int} {S P : CS} {s q : RS} {R : Unit × CS} {V : Int32 × RS} {c e : Int32} (h : WAY d T p f k y z S s P q) (hs : ENV d0 S s) (hk : 1 ≤ k) (hc : tyR c) (hd : tm c = e) (h6 : ¬ e = 6) (h0 : ¬ c = 0) (e1 : f_X1_close N P c = some R) (g : f_X12_shut N q e = some V) : (V.1 = 0 ∧ ¬ R.2.i 32 = 0 ∧ ¬ V.2.i 15 = 0) ∨ (V.1 = 1 ∧ WAY d T (p + 1) (f + 3) (k + (-1)) (y - 2 * 1) (z + 1) S s R.2 V.2 ∧ ∀ r : Nat, FRB r q V.2) := by
  have sg := h.sg hs
  rcases y_close hN h.1 (by omega) hc hd h6 h0 e1 g with o | ⟨o1, o2, o3, o4, o5, o6, o7, o8, o9, o10, o11, o12⟩
  · exact Or.inl o
  · have q17 : (V.2.i 17).toInt = (q.i 17).toInt + 1 := by rw [o6, t17_up (N := N) h.1]
    refine Or.inr ⟨o1, h.tok o3 (qj_63 o4 h.2.1) (FRB.of o4) (TBK.of o4 (by rw [o8]; exact Int.le_refl _) (fun j _ => by rw [o9])) o5 o10 o11 ⟨o7, ?_, by omega, by omega⟩, fun r => FRB.of o4⟩
    unfold phI
    rw [o8, q17]
    omega
theorem WAY.exo {d : Int32} {T : Nat} {st : Int32} {p f k y z : Int} {S P R : CS} {s q u : RS} (h : WAY d T p f k y z S s P q) (x : EXO d T st P q R u) : WAY d T (p + 1) (f + 1) (k + 0) y z S s R u := by
  obtain ⟨x1, x2, x3, x4, x5, x6, x7, x8, x9, x10⟩ := x
  exact h.cx x1 x2 x4 x5 x6 ⟨x7, x8, by omega, by rw [x10]; omega⟩
/-- all that stands is moved to that place -/
theorem COR.way {d : Int32} {B : CS} {b : RS} {t0 T : Nat} {L : List CEL} {x p f k y z : Int} {S P : CS} {s q : RS} {c : CEL} (hC : COR d B b t0 (c :: L) x S s) (ht : TOP S s c) (lw : LOW S s c) (hw : T = ceT c + wid (S.o c.2.1 0)) (hT : t0 ≤ T) (w : WAY d T p f k y z S s P q) (n : 0 ≤ p ∧ 0 ≤ f ∧ y ≤ 0 ∧ 0 ≤ z ∧ k = 0) : COR d B b t0 (c :: L) x P q ∧ TOP P q c ∧ LOW P q c ∧ P.o c.2.1 = S.o c.2.1 := by
  obtain ⟨h1, h2, h3, h4, h5, ⟨i1, i2, i3, i4, i5⟩, ⟨h6, h7, h8, h9⟩, ⟨h10, h11, h12⟩⟩ := w
  have hin := hC.inl ht hw
  obtain ⟨t1, t2, t3, t4, t5, t6, t7, t8, t9, t10⟩ := h4.1.1
  have eo := (hin.o h5 c List.mem_cons_self).1
  have n8 := hC.2.2.2.2.2.2.2.2.1.2.1
  have k11 := hC.1.1.2.2.2.1.1
  have k11' := h1.1.2.2.2.1.1
  have rt : RTE S P := by
    unfold RTE
    rw [k11, k11']
    exact ⟨by omega, by omega, by omega⟩
  exact ⟨hC.mv hin hT h1 h3 h4.1.r h4.2 ⟨t1, t2, t3, t5, t6, t7, t8, t9, t10⟩ h5 ⟨i1, i3, i4⟩ rt ⟨by omega, by omega, by omega, by omega⟩ (by rw [t4]; omega) (by rw [t4]; exact Int.le_refl _), ht.mv eo i3 t5 t7, lw.mv eo h3 (by omega), eo⟩
