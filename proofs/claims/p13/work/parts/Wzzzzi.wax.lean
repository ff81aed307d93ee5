/-! both readers: ways with any reach; a row whose goal went before -/
def WYX (d : Int32) (T : Nat) (p f k : Int) (S : CS) (s : RS) (P : CS) (q : RS) : Prop := ENV d P q ∧ tpI q = (T : Int) ∧ FRB T s q ∧ TBK s q ∧ CKX S P ∧ ((s.i 11).toInt + p ≤ (q.i 11).toInt ∧ phI s + f ≤ phI q ∧ (s.i 17).toInt ≤ (q.i 17).toInt ∧ (q.i 19).toInt = (s.i 19).toInt + k)
theorem WYX.rf {d : Int32} {T : Nat} {P : CS} {q : RS} (h : ENV d P q) (ht : tpI q = (T : Int)) : WYX d T 0 0 0 P q P q := ⟨h, ht, FRB.rf _ _, TBK.rf _, CKX.rf _, ⟨by omega, by omega, Int.le_refl _, by omega⟩⟩
theorem WYX.cx {d : Int32} {T : Nat} {p f k p1 f1 k1 : Int} {S P R : CS} {s q u : RS} (h : WYX d T p f k S s P q) (ev : ENV d R u) (tu : tpI u = (T : Int)) (fr : FRB T q u) (tb : TBK q u) (ck : CKX P R) (n : (q.i 11).toInt + p1 ≤ (u.i 11).toInt ∧ phI q + f1 ≤ phI u ∧ (q.i 17).toInt ≤ (u.i 17).toInt ∧ (u.i 19).toInt = (q.i 19).toInt + k1) : WYX d T (p + p1) (f + f1) (k + k1) S s R u := by
  obtain ⟨h1, h2, h3, h4, h5, ⟨h6, h7, h8, h9⟩⟩ := h
  exact ⟨ev, tu, h3.tr fr, h4.tr tb, h5.tr ck, ⟨by omega, by omega, by omega, by omega⟩⟩
theorem WYX.ad {N : Nat} {d : Int32} {T : Nat} {p f k : Int} {S P : CS} {s q : RS} {o x : Int32} {w : Unit × CS} (h : WYX d T p f k S s P q) (e : f_X0_add N P o x = some w) : WYX d T (p + 0) (f + 0) (k + 0) S s w.2 q := by
  obtain ⟨a1, a2, -, -⟩ := y_add h.1 e
  exact h.cx a1 h.2.1 (FRB.rf _ _) (TBK.rf _) a2 ⟨by omega, by omega, Int.le_refl _, by omega⟩
theorem WYX.ai {N : Nat} {d : Int32} {T : Nat} {p f k : Int} {S P : CS} {s q : RS} {x : Int32} {w : Unit × CS} (h : WYX d T p f k S s P q) (e : f_X0_aim N P x = some w) : WYX d T (p + 0) (f + 0) (k + 0) S s w.2 q := by
  obtain ⟨a1, a2, -, -⟩ := y_aim h.1 e
  exact h.cx a1 h.2.1 (FRB.rf _ _) (TBK.rf _) a2 ⟨by omega, by omega, Int.le_refl _, by omega⟩
theorem WYX.em {N : Nat} {d : Int32} {T : Nat} {p f k : Int} {S P : CS} {s q : RS} {o x : Int32} {v : Int32 × RS} (h : WYX d T p f k S s P q) (h1 : 1 ≤ phI q) (e : f_X12_emit N q o x = some v) : WYX d T (p + 0) (f + (-1)) (k + 0) S s P v.2 ∧ (∀ r : Nat, FRB r q v.2) ∧ v.1 = q.i 20 ∧ (v.2.i 20).toInt = (q.i 20).toInt + 1 ∧ v.2.i 10 = q.i 10 := by
  obtain ⟨n1, n2, n3, n4, n5, n6, n7, n8, n9, n10', n11⟩ := y_emit h.1 h.2.1 h1 e
  exact ⟨h.cx n1 n2 (n3 T) n4 (CKX.rf P) ⟨by rw [n8]; omega, by omega, by rw [n9]; exact Int.le_refl _, by rw [n10']; omega⟩, n3, n6, n7, n11⟩
theorem WYX.sa {d : Int32} {T : Nat} {p f k : Int} {S P : CS} {s q : RS} {j : Nat} {v : Int32} (h : WYX d T p f k S s P q) (hj : 64 ≤ j ∧ j ≤ 73) : WYX d T p f k S s P (RS.setA q j T v) := by
  obtain ⟨h1, h2, h3, h4, h5, h6⟩ := h
  exact ⟨setA_env (Or.inr hj) h1, h2, h3.tr (setA_frb (Or.inr ⟨hj.1, hj.2, Nat.le_refl _⟩)), h4.tr (setA_tbk hj), h5, h6⟩
theorem WYX.nd {N : Nat} (hN : 1000 ≤ N) {d : Int32} {T : Nat} {p f k : Int} {S P : CS} {s q : RS} {R : Unit × CS} {V : Int32 × RS} {c e : Int32} (h : WYX d T p f k S s P q) (hc : tyR c) (hd : tm c = e) (h6 : ¬ e = 6) (h0 : ¬ c = 0) (e1 : f_X1_expect N P c = some R) (g : f_X12_need N q e = some V) : (V.1 = 0 ∧ ¬ R.2.i 32 = 0 ∧ ¬ V.2.i 15 = 0) ∨ (V.1 = 1 ∧ WYX d T (p + 1) (f + 3) (k + 0) S s R.2 V.2 ∧ ∀ r : Nat, FRB r q V.2) := by
  rcases y_need hN h.1 hc hd h6 h0 e1 g with o | ⟨o1, o2, o3, o4, o5, o6, o7, o8, o9, o10, o11, o12⟩
  · exact Or.inl o
  · have q17 : (V.2.i 17).toInt = (q.i 17).toInt + 1 := by rw [o6, t17_up (N := N) h.1]
    refine Or.inr ⟨o1, h.cx o3 (qj_63 o4 h.2.1) (FRB.of o4) (TBK.of o4 (by rw [o8]; exact Int.le_refl _) (fun j _ => by rw [o9])) (CKX.of o5 o10 o11) ⟨o7, ?_, by omega, by rw [o12]; omega⟩, fun r => FRB.of o4⟩
    unfold phI
    rw [o8, q17]
    omega
theorem WYX.op {N : Nat} (hN : 1000 ≤ N) {d : Int32} {T : Nat} {p f k : Int} {S P : CS} {s q : RS} {R : Unit × CS} {V : Int32 × RS} {c e : Int32} (h : WYX d T p f k S s P q) (hc : tyR c) (hd : tm c = e) (h6 : ¬ e = 6) (h0 : ¬ c = 0) (e1 : f_X1_open N P c = some R) (g : f_X12_open N q e = some V) : (V.1 = 0 ∧ ¬ R.2.i 32 = 0 ∧ ¬ V.2.i 15 = 0) ∨ (V.1 = 1 ∧ WYX d T (p + 1) (f + 3) (k + 1) S s R.2 V.2 ∧ ∀ r : Nat, FRB r q V.2) := by
  rcases y_open hN h.1 hc hd h6 h0 e1 g with o | ⟨o1, o2, o3, o4, o5, o6, o7, o8, o9, o10, o11, o12⟩
  · exact Or.inl o
  · have q17 : (V.2.i 17).toInt = (q.i 17).toInt + 1 := by rw [o6, t17_up (N := N) h.1]
    refine Or.inr ⟨o1, h.cx o3 (qj_63 o4 h.2.1) (FRB.of o4) (TBK.of o4 (by rw [o8]; exact Int.le_refl _) (fun j _ => by rw [o9])) (CKX.of o5 o10 o11) ⟨o7, ?_, by omega, o12⟩, fun r => FRB.of o4⟩
    unfold phI
    rw [o8, q17]
    omega
theorem WYX.sg {d d0 : Int32} {T : Nat} {p f k : Int} {S P : CS} {s q : RS} (h : WYX d T p f k S s P q) (h0 : ENV d0 S s) : SGS P (cnI P).toNat + k ≤ sgI P := by
  rw [(h.2.2.2.2.1.sum h0.ri).1]
  have e0 := h0.2.2.1.1
  have e1 := h.1.2.2.1.1
  have w := h0.ri.2.2.2.2.2.2
  have n := h.2.2.2.2.2.2.2.2
  unfold sgI at *
  rw [e0] at w
  rw [e1]
  omega
theorem WYX.cl {N : Nat} (hN : 1000 ≤ N) {d d0 : Int32} {T : Nat} {p f k : Int} {S P : CS} {s q : RS} {R : Unit × CS} {V : Int32 × RS} {c e : Int32} (h : WYX d T p f k S s P q) (hs : ENV d0 S s) (hk : 1 ≤ k) (hc : tyR c) (hd : tm c = e) (h6 : ¬ e = 6) (h0 : ¬ c = 0) (e1 : f_X1_close N P c = some R) (g : f_X12_shut N q e = some V) : (V.1 = 0 ∧ ¬ R.2.i 32 = 0 ∧ ¬ V.2.i 15 = 0) ∨ (V.1 = 1 ∧ WYX d T (p + 1) (f + 3) (k + (-1)) S s R.2 V.2 ∧ ∀ r : Nat, FRB r q V.2) := by
  have sg := h.sg hs
  rcases y_close hN h.1 (by omega) hc hd h6 h0 e1 g with o | ⟨o1, o2, o3, o4, o5, o6, o7, o8, o9, o10, o11, o12⟩
  · exact Or.inl o
  · have q17 : (V.2.i 17).toInt = (q.i 17).toInt + 1 := by rw [o6, t17_up (N := N) h.1]
    refine Or.inr ⟨o1, h.cx o3 (qj_63 o4 h.2.1) (FRB.of o4) (TBK.of o4 (by rw [o8]; exact Int.le_refl _) (fun j _ => by rw [o9])) (CKX.of o5 o10 o11) ⟨o7, ?_, by omega, by omega⟩, fun r => FRB.of o4⟩
    unfold phI
    rw [o8, q17]
    omega
theorem WYX.exo {d : Int32} {T : Nat} {st : Int32} {p f k : Int} {S P R : CS} {s q u : RS} (h : WYX d T p f k S s P q) (x : EXO d T st P q R u) : WYX d T (p + 1) (f + 1) (k + 0) S s R u := by
  obtain ⟨x1, x2, x3, x4, x5, x6, x7, x8, x9, x10⟩ := x
  exact h.cx x1 x2 x4 x5 x6 ⟨x7, x8, by omega, by rw [x10]; omega⟩
/-- all that stands is moved to that place -/
theorem COR.wyx {d : Int32} {B : CS} {b : RS} {t0 T : Nat} {L : List CEL} {x p f k : Int} {S P : CS} {s q : RS} (hC : COR d B b t0 L x S s) (hin : INL S s T L) (hT : t0 ≤ T) (w : WYX d T p f k S s P q) (n : 0 ≤ p ∧ 0 ≤ f ∧ k = 0) : COR d B b t0 L x P q := by
  obtain ⟨h1, h2, h3, h4, h5, ⟨h6, h7, h8, h9⟩⟩ := w
  obtain ⟨t1, t2, t3, t4, t5, t6, t7, t8, t9, t10⟩ := h4.1.1
  have n8 := hC.2.2.2.2.2.2.2.2.1.2.1
  exact hC.mv hin hT h1 h3 h4.1.r h4.2 ⟨t1, t2, t3, t5, t6, t7, t8, t9, t10⟩ h5.z ⟨h5.1.2.2.1, h5.1.2.2.2.2.1, h5.1.2.2.2.2.2⟩ h5.2.2.2.2.2.2.2.2 ⟨by omega, by omega, h8, by omega⟩ (by rw [t4]; omega) (by rw [t4]; exact Int.le_refl _)
/-- a goal goes before its row -/
theorem COR.go1 {d : Int32} {B : CS} {b : RS} {t0 : Nat} {L : List CEL} {S : CS} {s w : RS} {c1 c : CEL} (hD : COR d B b t0 (c :: L) (-9) S s) (tp : TOP S s c1) (lk : LNK S c1 c) (lw : LOW S s c) (bz : BAZ B b (c1 :: c :: L)) (hT : t0 ≤ ceT c1) (go : isGo (S.o c1.2.1 0)) (nw0 : nWl (S.o c1.2.1 0) = 0) (n44 : ¬ s.a 44 (ceG c1) = 3) (wi : ∀ k : Nat, k ≠ 43 → w.i k = s.i k) (w43 : (w.i 43).toInt = (ceG c1 : Int)) (wl : w.l = s.l) (wb : w.b = s.b) (wa : ∀ k : Nat, ¬ (64 ≤ k ∧ k ≤ 73) → w.a k = s.a k) (wf : ∀ k j : Nat, j ≠ ceT c1 → w.a k j = s.a k j) : COR d B b t0 (c :: L) (-9) S w ∧ LOW S w c ∧ INL S w (ceT c1) (c :: L) ∧ INL S s (ceT c1) (c :: L) ∧ FRB (ceT c1) s w ∧ TBR s w ∧ CDK (s.i 20).toInt s w := by
  obtain ⟨n1, n2, n3, n4', -⟩ := id lk
  have hvS := hD.1
  have cb := hD.2.2.2.2.1
  have t1 := tp.1
  have tg := tp.2.1
  have t56 := tp.2.2
  have ng := nGo1 go
  have bz' : BAZ B b (c :: L) := bz
  obtain ⟨r1, r2, r3, r4, r5⟩ := BAZ.all cb L c _ _ _ bz' hD.2.1 (by omega)
  have hin := STK.inl L c _ _ _ hD.2.1 (by omega) (by omega) (by omega)
  rw [← n2] at hin
  obtain ⟨gl1, gl2⟩ := STK.gl L c _ _ _ hD.2.1 r1
  have phw : phI w = phI s := by
    unfold phI
    rw [wi 17 (by decide), wi 20 (by decide)]
  have wp : WPI w := by
    have w0 := hvS.wp
    refine ⟨⟨by omega, by rw [wi 56 (by decide)]; exact w0.1.2.1, fun z => ?_, by rw [wi 29 (by decide)]; exact w0.1.2.2.2⟩, fun j hj => ?_⟩
    · rw [wi 56 (by decide)] at z ⊢
      rw [wa 58 (by decide), w43]
      rcases WLT L c _ _ _ hD.2.1 r3 with ⟨w', hw', w1, w2, -⟩ | ⟨-, w2, w3⟩
      · obtain ⟨⟨-, z2⟩, -⟩ := hD.2.1.ty w' hw' w1
        have g3 := gl2 w' hw'
        have en : ((s.i 56).toInt - 1).toNat = ceW w' := by omega
        rw [en, z2]
        omega
      · have e56 : (s.i 56).toInt = (b.i 56).toInt := by omega
        have y := (hD.2.2.2.2.2.1.2.1.2.2.2.2.2.1 ((b.i 56).toInt - 1).toNat (by omega)).2
        have z3 := w3 (by omega)
        rw [e56, y]
        omega
    · rw [wi 59 (by decide)] at hj
      rw [wa 62 (by decide), wi 29 (by decide)]
      exact w0.2 j hj
  have evw : ENV d S w := hvS.kq (wi 38 (by decide)) (wi 2 (by decide)) (wi 3 (by decide)) (wi 18 (by decide)) (wi 53 (by decide)) (wi 54 (by decide)) (wi 55 (by decide)) (wa 1 (by decide)) (wa 4 (by decide)) (wa 41 (by decide)) (by rw [wb]) (by rw [wb]) (wi 10 (by decide)) (wi 11 (by decide)) (wi 12 (by decide)) (wi 14 (by decide)) (wi 15 (by decide)) (wi 17 (by decide)) (wi 19 (by decide)) wl ⟨by rw [wi 20 (by decide)]; exact hvS.2.2.2.2.2.2.1, by rw [phw]; exact hvS.2.2.2.2.2.2.2.1⟩ wp
  have fr : FRB (ceT c1) s w := fun j hj => ⟨wf 64 j (by omega), wf 65 j (by omega), wf 66 j (by omega), wf 67 j (by omega), wf 68 j (by omega), wf 69 j (by omega), wf 70 j (by omega), wf 71 j (by omega), wf 72 j (by omega), wf 73 j (by omega), by rw [wb]⟩
  have tb : TBR s w := by
    unfold TBR
    rw [wb, wi 59 (by decide), wi 29 (by decide), wi 33 (by decide), wi 24 (by decide)]
    exact ⟨fun _ _ => ⟨rfl, by rw [wa 40 (by decide)], by rw [wa 41 (by decide)]⟩, fun _ _ => ⟨by rw [wa 44 (by decide)], rfl, by rw [wa 46 (by decide)], by rw [wa 47 (by decide)], by rw [wa 50 (by decide)], by rw [wa 51 (by decide)], by rw [wa 48 (by decide)], by rw [wa 49 (by decide)]⟩, fun _ _ => ⟨by rw [wa 57 (by decide)], by rw [wa 58 (by decide)]⟩, ⟨Int.le_refl _, fun j k1 k2 => by omega⟩, fun _ _ => ⟨by rw [wa 60 (by decide)], by rw [wa 61 (by decide)], by rw [wa 62 (by decide)]⟩, Int.le_refl _, fun _ _ => by rw [wa 30 (by decide)], Int.le_refl _, fun _ _ => ⟨by rw [wa 34 (by decide)], by rw [wa 37 (by decide)]⟩, Int.le_refl _, fun _ _ => ⟨by rw [wa 25 (by decide)], by rw [wa 27 (by decide)], by rw [wa 28 (by decide)]⟩⟩
  have tbb := hD.2.2.2.2.2.1.2.1
  have iar : IAR S w := by
    obtain ⟨⟨z1, z2⟩, z3⟩ := hD.2.2.2.2.2.2.2.2.2.1
    unfold IAR
    rw [wa 44 (by decide), w43]
    refine ⟨⟨fun z => ?_, fun z => ?_⟩, z3⟩
    · obtain ⟨g, g1, g2⟩ := z1 z
      have : ¬ g = ceG c1 := fun q => n44 (by rw [← q]; exact g2)
      exact ⟨g, by omega, g2⟩
    · obtain ⟨g, g1, g2⟩ := z
      exact z2 ⟨g, by omega, g2⟩
  have n8 := hD.2.2.2.2.2.2.2.2.1.2.1
  refine ⟨hD.mv2 hin hT evw fr tb ⟨by rw [wi 20 (by decide)]; exact Int.le_refl _, fun j _ => by rw [wa 22 (by decide)]⟩ ⟨wi 2 (by decide), wi 3 (by decide), wi 8 (by decide), wa 1 (by decide), wa 4 (by decide), by rw [wb]⟩ (CKZ.rf S) rfl rfl (fun y hy => (hD.2.2.2.2.2.2.2.1.2.1 y hy).2) (by omega) (by rw [wi 38 (by decide)]; exact tbb.1) (by rw [w43]; omega) (by rw [wi 56 (by decide)]; exact tbb.2.2.1) iar ⟨Int.le_refl _, Int.le_refl _, Int.le_refl _⟩ ⟨by rw [wi 11 (by decide)]; exact Int.le_refl _, by rw [phw]; exact hD.2.2.2.2.2.2.1.2.1, by rw [wi 17 (by decide)]; exact Int.le_refl _, by rw [wi 19 (by decide)]⟩ (by rw [wi 38 (by decide), wi 11 (by decide)]; exact n8), lw.mv rfl fr (by omega), fun y hy => ?_, hin, fr, tb, ⟨by rw [wi 20 (by decide)]; exact Int.le_refl _, fun j _ => by rw [wa 22 (by decide)]⟩⟩
  obtain ⟨z1, z2, z3, z4, z5⟩ := hin y hy
  refine ⟨z1, z2, z3, fun g => ?_, fun g => by rw [wi 56 (by decide)]; exact z5 g⟩
  have := gl2 y hy
  have := nGo1 g
  rw [w43]
  omega
theorem pop_coreG {N ng : Nat} {d : Int32} {B : CS} {b : RS} {t0 : Nat} {L : List CEL} {S X : CS} {s q V : RS} {c1 c : CEL} {v : Int32} (hD : COR d B b t0 (c :: L) (-9) S s) (tp : (S.i 53).toInt = (c1.1 : Int) + 1 ∧ (s.i 43).toInt = (ceG c1 : Int) + (ng : Int) ∧ (s.i 56).toInt = (ceW c1 : Int) + (nWl (S.o c1.2.1 0) : Int)) (lk : LNK S c1 c) (lw : LOW S s c) (bz : BAZ B b (c :: L)) (hT : t0 ≤ ceT c1) (t9 : ceT c1 < 1000) (ts : tpI s = (ceT c1 : Int)) (nw0 : nWl (S.o c1.2.1 0) = 0) (na : ng = 0 ∨ (ng = 1 ∧ ¬ s.a 44 (ceG c1) = 3)) (hv : v = 0 ∨ v = 1) (ho : f_X12_over N q v = some V) (hq : (∀ k : Nat, k ≠ 38 → k ≠ 43 → k ≠ 52 → q.i k = s.i k) ∧ q.l = s.l ∧ q.a = s.a ∧ q.b = s.b) (q38 : q.i 38 = S.o c1.2.1 3) (q43 : (q.i 43).toInt = (s.i 43).toInt - (ng : Int)) (o3 : (b.i 38).toInt ≤ (S.o c1.2.1 3).toInt ∧ (S.o c1.2.1 3).toInt ≤ (S.i 50).toInt) (o3y : ∀ y ∈ c :: L, (S.o y.2.1 3).toInt ≤ (S.o c1.2.1 3).toInt) (Xi0 : ∀ k : Nat, k ≠ 36 → k ≠ 50 → k ≠ 53 → X.i k = S.i k) (X50 : X.i 50 = S.o c1.2.1 3) (X53 : (X.i 53).toInt = (c.1 : Int) + 1) (X36 : X.i 36 = v) (Xr : X.r = S.r ∧ X.o = S.o ∧ X.ol = S.ol ∧ X.a = S.a ∧ X.b = S.b ∧ X.l = S.l ∧ (X.hs = S.hs ∧ X.L = S.L ∧ X.k = S.k)) : POPD d B b t0 c L X V ∧ (∀ y ∈ c :: L, X.o y.2.1 = S.o y.2.1) := by
  obtain ⟨n1, n2, n3, n4', -, -, -, n8, -⟩ := id lk
  have hvS := hD.1
  have cb := hD.2.2.2.2.1
  have t1 := tp.1
  obtain ⟨r1, r2, r3, r4, r5⟩ := BAZ.all cb L c _ _ _ bz hD.2.1 (by omega)
  have lo := BAZ.lo _ bz
  have hin := STK.inl L c _ _ _ hD.2.1 (by omega) (by have := tp.2.1; omega) (by have := tp.2.2; omega)
  rw [← n2] at hin
  have s50 := hvS.2.1.1
  have o38 : (S.o c1.2.1 3).toInt ≤ (s.i 38).toInt := by
    rw [← s50]
    exact o3.2
  obtain ⟨x1, x2, x3, x4, x5, x6, x7⟩ := Xr
  -- the reference
  obtain ⟨y1, y2, y3, y4⟩ := hq
  have y1 : ∀ k : Nat, k ≠ 38 → k ≠ 43 → k ≠ 52 → q.i k = s.i k := y1
  have phq : phI q = phI s := by
    unfold phI
    rw [y1 17 (by decide) (by decide) (by decide), y1 20 (by decide) (by decide) (by decide)]
  have hvL := hvS.less (w := S.o c1.2.1 3) ⟨by omega, o38⟩
  have jq : ∀ k : Nat, k ≠ 43 → k ≠ 52 → q.i k = (RS.setI s 38 (S.o c1.2.1 3)).i k := fun k hk hk2 => by
    by_cases z : k = 38
    · rw [z, q38]
      rfl
    · rw [y1 k z hk hk2]
      exact (if_neg z).symm
  have evq : ENV d (CS.setI S 50 (S.o c1.2.1 3)) q := by
    refine hvL.kq (jq 38 (by decide) (by decide)) (jq 2 (by decide) (by decide)) (jq 3 (by decide) (by decide)) (jq 18 (by decide) (by decide)) (jq 53 (by decide) (by decide)) (jq 54 (by decide) (by decide)) (jq 55 (by decide) (by decide)) (by rw [y3]; rfl) (by rw [y3]; rfl) (by rw [y3]; rfl) (by rw [y4]; rfl) (by rw [y4]; rfl) (jq 10 (by decide) (by decide)) (jq 11 (by decide) (by decide)) (jq 12 (by decide) (by decide)) (jq 14 (by decide) (by decide)) (jq 15 (by decide) (by decide)) (jq 17 (by decide) (by decide)) (jq 19 (by decide) (by decide)) y2 ?_ ?_
    · rw [phq, y1 20 (by decide) (by decide) (by decide)]
      exact ⟨hvS.2.2.2.2.2.2.1, hvS.2.2.2.2.2.2.2.1⟩
    · have w := hvS.wp
      have tg := tp.2.1
      refine ⟨⟨by rw [q43]; omega, by rw [y1 56 (by decide) (by decide) (by decide)]; exact w.1.2.1, fun z => ?_, by rw [y1 29 (by decide) (by decide) (by decide)]; exact w.1.2.2.2⟩, fun j hj => ?_⟩
      · rw [y1 56 (by decide) (by decide) (by decide)] at z ⊢
        rw [y3, q43]
        have t56 := tp.2.2
        obtain ⟨gl1, gl2⟩ := STK.gl L c _ _ _ hD.2.1 r1
        rcases WLT L c _ _ _ hD.2.1 r3 with ⟨w', hw', w1, w2, -⟩ | ⟨-, w2, w3⟩
        · obtain ⟨⟨-, z2⟩, -⟩ := hD.2.1.ty w' hw' w1
          have g3 := gl2 w' hw'
          have en : ((s.i 56).toInt - 1).toNat = ceW w' := by omega
          rw [en, z2]
          omega
        · have e56 : (s.i 56).toInt = (b.i 56).toInt := by omega
          have y := (hD.2.2.2.2.2.1.2.1.2.2.2.2.2.1 ((b.i 56).toInt - 1).toNat (by omega)).2
          have z3 := w3 (by omega)
          rw [e56, y]
          omega
      · rw [y1 59 (by decide) (by decide) (by decide)] at hj
        rw [y3, y1 29 (by decide) (by decide) (by decide)]
        exact w.2 j hj
  have tq : tpI q = (ceT c1 : Int) := by
    show (q.i 63).toInt = _
    rw [y1 63 (by decide) (by decide) (by decide)]
    exact ts
  obtain ⟨v1, v2, -, -, v5, -, v7, v8, v9, v10⟩ := y_over evq tq t9 ho
  have eV : V = RS.setI (RS.setI q 75 v) 63 (q.i 63 - 1) := by
    unfold f_X12_over at ho
    obtain ⟨-, ho⟩ := hf_ite ho
    exact (Option.some.inj ho).symm
  have Va : V.a = s.a := by rw [eV]; exact y3
  have Vb : V.b = s.b := by rw [eV]; exact y4
  have Vi : ∀ k : Nat, k ≠ 38 → k ≠ 43 → k ≠ 52 → k ≠ 63 → k ≠ 75 → V.i k = s.i k := fun k h0 h1 h4 h2 h3 => by
    rw [eV]
    have z : (RS.setI (RS.setI q 75 v) 63 (q.i 63 - 1)).i k = q.i k := (if_neg h2).trans (if_neg h3)
    rw [z, y1 k h0 h1 h4]
  have V38 : V.i 38 = S.o c1.2.1 3 := by
    rw [eV]
    exact q38
  have V43 : V.i 43 = q.i 43 := by
    rw [eV]
    rfl
  clear eV
  have phV : phI V = phI s := v7.trans phq
  have tg := tp.2.1
  have tw := tp.2.2
  have evX : ENV d X V := by
    refine v1.gx (fun j _ h36 _ h53 _ _ _ => ?_) ⟨by rw [x4]; rfl, by rw [x4]; rfl, by rw [x4]; rfl⟩ x5 x6 ?_ ?_ ?_
    · by_cases z : j = 50
      · rw [z, X50, ci_at]
      · rw [Xi0 j h36 z h53, ci_ne _ _ _ z]
    · have w := hvS.ri
      refine w.pop (n := c1.1) (by show (S.i 53).toInt = _; omega) x1 x2 x3 (by show (X.i 53).toInt = _; omega) x7 ?_ ?_
      · have w8 := w.2.2.2.2.2.2
        have tn : (cnI S).toNat = c1.1 + 1 := by
          have : cnI S = (S.i 53).toInt := rfl
          omega
        rw [tn] at w8
        have z : sgI X = sgI S := by
          unfold sgI
          rw [Xi0 34 (by decide) (by decide) (by decide)]
        have s0 : 0 ≤ sgn S (rowA S c1.1) := by
          unfold sgn
          by_cases k1 : S.o (rowA S c1.1) 0 = 302
          · rw [if_pos k1]; decide
          · rw [if_neg k1]
            by_cases k2 : S.o (rowA S c1.1) 0 = 301 ∨ S.o (rowA S c1.1) 0 = 212 ∨ S.o (rowA S c1.1) 0 = 218 ∨ S.o (rowA S c1.1) 0 = 213 ∨ S.o (rowA S c1.1) 0 = 215 ∨ S.o (rowA S c1.1) 0 = 216
            · rw [if_pos k2]; decide
            · rw [if_neg k2]; exact Int.le_refl _
        omega
      · unfold eI plI
        rw [Xi0 43 (by decide) (by decide) (by decide), Xi0 44 (by decide) (by decide) (by decide)]
        exact Int.le_refl _
    · have z := v1.sj
      have c54 : (CS.setI S 50 (S.o c1.2.1 3)).i 54 = S.i 54 ∧ (CS.setI S 50 (S.o c1.2.1 3)).i 55 = S.i 55 ∧ (CS.setI S 50 (S.o c1.2.1 3)).i 38 = S.i 38 := ⟨rfl, rfl, rfl⟩
      unfold SJB at *
      rw [c54.1, c54.2.1, c54.2.2] at z
      rw [Xi0 54 (by decide) (by decide) (by decide), Xi0 55 (by decide) (by decide) (by decide), Xi0 38 (by decide) (by decide) (by decide)]
      exact z
    · rw [Xi0 21 (by decide) (by decide) (by decide)]
      exact v1.t21
  have ck : CKZ S X := ⟨Xi0 22 (by decide) (by decide) (by decide), fun _ _ => by rw [x1], fun _ _ _ _ => by rw [x2, x3]; exact ⟨rfl, rfl⟩, fun _ _ => by rw [x4], by rw [Xi0 54 (by decide) (by decide) (by decide)]; exact Int.le_refl _, by rw [Xi0 55 (by decide) (by decide) (by decide)]; exact Int.le_refl _, fun _ _ => by rw [x4], fun k h1 h2 => by rw [Xi0 55 (by decide) (by decide) (by decide)] at h2; omega⟩
  have fr : FRB (ceT c1) s V := fun j _ => by
    rw [Va, Vb]
    exact ⟨rfl, rfl, rfl, rfl, rfl, rfl, rfl, rfl, rfl, rfl, rfl⟩
  have tb : TBR s V := by
    unfold TBR
    rw [Va, Vb, Vi 59 (by decide) (by decide) (by decide) (by decide) (by decide), Vi 29 (by decide) (by decide) (by decide) (by decide) (by decide), Vi 33 (by decide) (by decide) (by decide) (by decide) (by decide), Vi 24 (by decide) (by decide) (by decide) (by decide) (by decide)]
    exact ⟨fun _ _ => ⟨rfl, rfl, rfl⟩, fun _ _ => ⟨rfl, rfl, rfl, rfl, rfl, rfl, rfl, rfl⟩, fun _ _ => ⟨rfl, rfl⟩, ⟨Int.le_refl _, fun j k1 k2 => by omega⟩, fun _ _ => ⟨rfl, rfl, rfl⟩, Int.le_refl _, fun _ _ => rfl, Int.le_refl _, fun _ _ => ⟨rfl, rfl⟩, Int.le_refl _, fun _ _ => ⟨rfl, rfl, rfl⟩⟩
  have tbb := hD.2.2.2.2.2.1.2.1
  have gl := STK.gl L c _ _ _ hD.2.1 r1
  have iar : IAR X V := by
    obtain ⟨⟨z1, z2⟩, z3⟩ := hD.2.2.2.2.2.2.2.2.2.1
    unfold IAR
    rw [Xi0 56 (by decide) (by decide) (by decide), Va, x1, V43, q43]
    refine ⟨⟨fun z => ?_, fun z => ?_⟩, fun z => ?_⟩
    · obtain ⟨g, g1, g2⟩ := z1 z
      refine ⟨g, ?_, g2⟩
      rcases na with n0 | ⟨n1', n44⟩
      · omega
      · have : ¬ g = ceG c1 := fun q => n44 (by rw [← q]; exact g2)
        omega
    · obtain ⟨g, g1, g2⟩ := z
      exact z2 ⟨g, by omega, g2⟩
    · obtain ⟨k1, k2, k3⟩ := z3 z
      exact ⟨by omega, k2, k3⟩
  have cV := hD.mv2 hin hT evX fr tb ⟨by rw [Vi 20 (by decide) (by decide) (by decide) (by decide) (by decide)]; exact Int.le_refl _, fun j _ => by rw [Va]⟩ ⟨Vi 2 (by decide) (by decide) (by decide) (by decide) (by decide), Vi 3 (by decide) (by decide) (by decide) (by decide) (by decide), Vi 8 (by decide) (by decide) (by decide) (by decide) (by decide), by rw [Va], by rw [Va], by rw [Vb]⟩ ck (Xi0 38 (by decide) (by decide) (by decide)) (Xi0 56 (by decide) (by decide) (by decide)) (fun y hy => by rw [X50]; exact o3y y hy) (by omega) (by rw [V38]; exact o3.1) (by rw [V43, q43]; have := gl.1; omega) (by rw [Vi 56 (by decide) (by decide) (by decide) (by decide) (by decide)]; exact tbb.2.2.1) iar (by
    unfold RTE
    rw [Xi0 21 (by decide) (by decide) (by decide), Xi0 54 (by decide) (by decide) (by decide), Xi0 55 (by decide) (by decide) (by decide), Xi0 44 (by decide) (by decide) (by decide)]
    exact ⟨Int.le_refl _, Int.le_refl _, Int.le_refl _⟩) ⟨by rw [Vi 11 (by decide) (by decide) (by decide) (by decide) (by decide)]; exact Int.le_refl _, by rw [phV]; exact hD.2.2.2.2.2.2.1.2.1, by rw [Vi 17 (by decide) (by decide) (by decide) (by decide) (by decide)]; exact Int.le_refl _, by rw [Vi 19 (by decide) (by decide) (by decide) (by decide) (by decide)]⟩ (by rw [V38, Vi 11 (by decide) (by decide) (by decide) (by decide) (by decide)]; have := hD.2.2.2.2.2.2.2.2.1.2.1; omega)
  have eo : ∀ y ∈ c :: L, X.o y.2.1 = S.o y.2.1 := fun y _ => by rw [x2]
  have lwV : LOW X V c := lw.mv (eo c List.mem_cons_self) fr (by omega)
  refine ⟨⟨cV, ⟨X53, ?_, ?_⟩, MOD.rt lwV ?_ (v5.trans X36.symm) (by rw [X36]; exact hv) (fun z1 z2 z3 => ?_)⟩, eo⟩
  · rw [V43, q43, eo c List.mem_cons_self]
    omega
  · rw [Vi 56 (by decide) (by decide) (by decide) (by decide) (by decide), eo c List.mem_cons_self]
    omega
  · rw [v2, eo c List.mem_cons_self]
    omega
  · rw [x2] at z1 z2 z3 ⊢
    rw [X50]
    exact n8 z1 z2 z3
