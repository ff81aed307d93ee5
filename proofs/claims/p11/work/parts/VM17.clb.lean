/-! both machines: one close, and all of them -/
theorem FEQ.ri {s : CS} {r : RS} {mu : Nat → Nat} {c : List Ent} {m : Int} {k : Nat} {v : Int32} (h : k ≠ 85) (h3 : k ≠ 3) : FEQ s s r (RS.setI r k v) mu mu c m := ⟨fun i f _ q => ⟨q, rfl, rfl⟩, fun b _ t => ⟨TLV.of (r := r) (R := RS.setI r k v) rfl rfl rfl id (by rw [ri_ne (Ne.symm h)]; exact Int.le_refl _) rfl rfl rfl (fun _ _ => rfl) (fun _ _ => rfl) (ri_ne (Ne.symm h3)) t, rfl, rfl⟩, ⟨rfl, rfl, rfl, rfl, rfl⟩, fun _ _ _ _ _ => rfl, fun _ _ => ⟨fun _ _ => rfl, fun _ _ => rfl⟩, fun _ _ => rfl⟩
theorem DY0.of {s S : CS} {r R : RS} {mu nu : Nat → Nat} {AL : Als} {c : List Ent} {n n' : Int} (d : DY0 s r mu AL c n) (f : FEQ s S r R mu nu c (r.i 97).toInt) (e67 : S.i 67 = s.i 67) (e71 : S.i 71 = s.i 71) (e97 : R.i 97 = r.i 97) (e99 : R.i 99 = r.i 99) (e115 : R.i 115 = r.i 115) (e91 : R.a 91 = r.a 91) (m : MUI R nu) (t : 0 ≤ (R.i 85).toInt ∧ (R.i 85).toInt + tps c ≤ 2 * (R.i 80).toInt + n') : DY0 S R nu AL c n' := by
  obtain ⟨d1, ⟨d2, d3⟩, d4, -, -, d7⟩ := d
  refine ⟨by rw [e97]; exact d1.of f, ⟨by rw [e67]; exact d2, by rw [e99]; exact d3⟩, by rw [e71, hS_of e91]; exact d4, t, m, by rw [e115]; exact d7⟩
theorem WYC.of {s S : CS} {r R : RS} {mu nu : Nat → Nat} {AL : Als} {c : List Ent} {h u : Nat} (w : WYC s r mu AL c h u) (e73 : S.i 73 = s.i 73) (e74 : S.i 74 = s.i 74) (e75 : S.i 75 = s.i 75) (ew : S.w = s.w) (j110 : R.i 110 = r.i 110) (j111 : R.i 111 = r.i 111) (j112 : R.i 112 = r.i 112) (j113 : R.i 113 = r.i 113) (j114 : R.i 114 = r.i 114) (e17 : S.a 17 = s.a 17) (e21 : R.a 21 = r.a 21) (e31 : R.a 31 = r.a 31) (e23 : R.a 23 = r.a 23) (hb : ∀ b : Nat, s.w = some b → TLV s r mu b → TLV S R nu b ∧ nu b = mu b) : WYC S R nu AL c h u := by
  unfold WYC
  rw [e73, e74, e75, ew, j110, j111, j112, j113, j114]
  rcases w with w | w
  · exact Or.inl w
  · exact Or.inr (w.of e17 e21 e31 e23 hb)
/-- a row of the trace, in both: all else stays -/
theorem nt_both {N : Nat} {nm : Nat → Nat → Prop} {s : CS} {r V : RS} {x y : Int32} {R : Unit × CS} (m : MTR s r) (e : f_X3_note N s x y = some R) (g : f_X12_row N r x y = some V) : MTR R.2 V ∧ EXC nm s R.2 ∧ EXV nm r V ∧ (R.2.i 65 = s.i 65 ∧ R.2.a 60 = s.a 60 ∧ V.i 93 = r.i 93 ∧ V.a 94 = r.a 94) ∧ (R.2.a 59 = s.a 59 ∧ V.a 84 = r.a 84) ∧ V.i 80 = r.i 80 := by
  obtain ⟨n1, n2, n3, ⟨n4, n5, n6, n7, n8⟩, n9, n10⟩ := m.note e g
  exact ⟨n1, ⟨fun j _ _ h3 _ => n2 j h3, fun k _ _ h3 => n3 k h3, ⟨n4, n5, n6, n7, n8⟩, fun k _ => congrFun (n3 59 (by decide)) k⟩, ⟨fun j _ h2 _ _ => n9 j h2, fun k h1 h2 _ _ => n10 k h1 h2, fun l _ => congrFun (n10 84 (by decide) (by decide)) l, le_80 (n9 80 (by decide))⟩, ⟨n2 65 (by decide), n3 60 (by decide), n9 93 (by decide), n10 94 (by decide) (by decide)⟩, ⟨n3 59 (by decide), n10 84 (by decide) (by decide)⟩, n9 80 (by decide)⟩
theorem cl_one {N H : Nat} (hN : 1000 ≤ N) {nm : Nat → Nat → Prop} {s : CS} {r V : RS} {mu : Nat → Nat} {AL : Als} {h u n' : Nat} {c : List Ent} {n : Int} {y : Int32} {R : Unit × CS} (ck : CTK nm c) (d22 : frs c ≤ 22) (i : CLI nm H s r mu AL h c n u) (h1 : 1 ≤ (r.i 95).toInt) (e : f_X3_closeOne N s (r.a 96 (r.i 95 - 1).toNatClampNeg) = some R) (hc : ¬ r.i 95 ≤ r.a 103 y.toNatClampNeg) (g : f_X12_closeAll_0 N (n' + 1) r y = some V) : ∃ (W : RS) (nu : Nat → Nat) (n1 : Int), CLI nm H R.2 W nu AL h c n1 u ∧ f_X12_closeAll_0 N n' W y = some V ∧ (W.i 95 = r.i 95 - 1 ∧ W.a 103 = r.a 103 ∧ W.i 80 = r.i 80) ∧ WKP s R.2 r W ∧ R.2.r 61 = s.r 61 ∧ ∀ f : Nat, oK s f 1 → oK R.2 f 1 ∧ R.2.o f = s.o f := by
  obtain ⟨⟨i1, i2⟩, i3, ⟨i4, i5, i6⟩, i7, ⟨i8, i9⟩, i10, i11, ⟨i12, i13⟩, i14⟩ := i
  obtain ⟨p4, q4, q5, q6⟩ := clr_step hc g
  obtain ⟨P, p1, p2⟩ := clc_step e
  have e1 : (1 : Int32).toInt = 1 := by decide
  have w95 : (r.i 95 - 1).toInt = (r.i 95).toInt - 1 := by
    rw [toInt_sub] <;> rw [e1] <;> omega
  obtain ⟨x, hx⟩ : ∃ x, x = r.a 96 (r.i 95 - 1).toNatClampNeg := ⟨_, rfl⟩
  rw [← hx] at q4 q5 q6 p1 p2
  obtain ⟨k, hk⟩ : ∃ k : Nat, x.toInt = (k : Int) := ⟨x.toInt.toNat, by have := q5.1; omega⟩
  have k8 : k < 8 := by have := q5.2; omega
  obtain ⟨s1, s2, s3⟩ := i11.1 k k8
  rw [cl_nat hk] at q6
  have ek : gAt (s.a 12) 8 x = s.a 12 k := by
    unfold gAt
    rw [if_pos ⟨by omega, by omega⟩, cl_nat hk]
  have e7 : r.a 7 k - 1 = s.a 12 k := by
    rw [← s3]
    exact Int32.add_sub_cancel _ _
  rw [e7] at q6
  rw [ek] at p2
  -- the rows of the trace
  have m0 : MTR s (RS.setI r 95 (r.i 95 - 1)) := i5.of rfl rfl rfl (ri_ne (by decide)) (ri_ne (by decide)) rfl rfl
  obtain ⟨t1, t2, t3, ⟨t4, t5, t6, t7⟩, ⟨t8, t9⟩, t80⟩ := nt_both (nm := nm) m0 p1 q4
  have pq := ok_at (q_note N s 2 x) p1
  have d0 : DY0 s (RS.setI r 95 (r.i 95 - 1)) mu AL c n := i7.of (FEQ.ri (by decide) (by decide)) rfl rfl (ri_ne (by decide)) (ri_ne (by decide)) (ri_ne (by decide)) rfl (by
    have z := i7.2.2.2.2.1
    unfold MUI at *
    rw [ri_ne (by decide)]
    exact z) (by
    have z := i7.2.2.2.1
    rw [ri_ne (by decide), ri_ne (by decide)]
    exact z)
  have d1 : DY0 P.2 p4 mu AL c n := d0.ex ck t2 t3
  have w0 : WYC s (RS.setI r 95 (r.i 95 - 1)) mu AL c h u := i10.of rfl rfl rfl rfl (ri_ne (by decide)) (ri_ne (by decide)) (ri_ne (by decide)) (ri_ne (by decide)) (ri_ne (by decide)) rfl rfl rfl rfl (fun b _ t => ⟨TLV.of (r := r) (R := RS.setI r 95 (r.i 95 - 1)) rfl rfl rfl id (by rw [ri_ne (by decide)]; exact Int.le_refl _) rfl rfl rfl (fun _ _ => rfl) (fun _ _ => rfl) (ri_ne (by decide)) t, rfl⟩)
  have w1 : WYC P.2 p4 mu AL c h u := w0.ex t2 t3
  have p95 : p4.i 95 = r.i 95 - 1 := (t3.1 95 (by decide) (by decide) (by decide) (by decide)).trans ri_at
  have pa : ∀ k : Nat, k ≠ 82 → k ≠ 83 → k ≠ 84 → k ≠ 94 → p4.a k = r.a k := t3.2.1
  have sa : ∀ k : Nat, k ≠ 59 → k ≠ 60 → k ≠ 64 → P.2.a k = s.a k := t2.2.1
  have si : ∀ j : Nat, j ≠ 65 → j ≠ 66 → j ≠ 69 → j ≠ 70 → P.2.i j = s.i j := t2.1
  have vv : MVH P.2 p4 h := i4.of t4 t5 (t6.trans (ri_ne (by decide))) t7 (fun z q => z ((si 73 (by decide) (by decide) (by decide) (by decide)).trans q))
  have nmm : ∀ k l : Nat, nm k l → P.2.a 59 k = p4.a 84 l := fun k l q => by
    rw [t8, t9]
    exact i6 k l q
  have rsc : TLR P.2 p4 := TLR.ex (nm := nm) (r := RS.setI r 95 (r.i 95 - 1)) t2 t3 (i11.of (fun _ _ => rfl) (fun _ _ => rfl) ⟨fun j hj => ri_ne (by omega), fun _ _ => rfl⟩)
  have op : ∀ k : Nat, (k : Int) < (p4.i 95).toInt → P.2.a 63 k = p4.a 96 k := fun k q => by
    rw [sa 63 (by decide) (by decide) (by decide), pa 96 (by decide) (by decide) (by decide) (by decide)]
    rw [p95, w95] at q
    exact i14 k (by omega)
  have b95 : 0 ≤ (p4.i 95).toInt ∧ (p4.i 95).toInt ≤ 320 := by
    rw [p95, w95]
    omega
  have refsP := pq.1.refs i1
  have roomP := pq.1.room i2
  have j110 : p4.i 110 = r.i 110 := (t3.1 110 (by decide) (by decide) (by decide) (by decide)).trans (ri_ne (by decide))
  have wk1 : WKP s P.2 r p4 := Or.inr ⟨si 73 (by decide) (by decide) (by decide) (by decide), si 74 (by decide) (by decide) (by decide) (by decide), si 75 (by decide) (by decide) (by decide) (by decide), j110, (t3.1 112 (by decide) (by decide) (by decide) (by decide)).trans (ri_ne (by decide))⟩
  have p80 : p4.i 80 = r.i 80 := t80.trans (ri_ne (by decide))
  have c0 : (0 : Int32).toInt = 0 := by decide
  have okP : ∀ f : Nat, oK s f 1 → oK P.2 f 1 ∧ P.2.o f = s.o f := fun f q => ⟨by rw [pq.1.ok1]; exact q, by rw [t2.2.2.1.2.2.1]⟩
  have r61 : P.2.r 61 = s.r 61 := by rw [t2.2.2.1.1]
  have cliP : CLI nm H P.2 p4 mu AL h c n u := ⟨⟨refsP, roomP⟩, (si 72 (by decide) (by decide) (by decide) (by decide)).trans i3, ⟨vv, t1, nmm⟩, d1, ⟨i8, fun q => i9 (fun z => q ((si 73 (by decide) (by decide) (by decide) (by decide)).trans z))⟩, w1, rsc, b95, op⟩
  have st := t1.1.2.2
  have bnd := d1.2.2.2.1
  have d67 := d1.2.1.1
  rcases p2 with ⟨c1, eR⟩ | ⟨c1, c2, f⟩ | ⟨c1, c2, Q, f, eR⟩
  · rcases q6 with ⟨z, g1⟩ | ⟨z, -⟩ | ⟨z, -⟩
    · rw [eR]
      exact ⟨p4, mu, n, cliP, g1, ⟨p95, pa 103 (by decide) (by decide) (by decide) (by decide), p80⟩, wk1, r61, okP⟩
    · exact absurd (Int32.not_lt.mp z) c1
    · exact absurd (Int32.not_lt.mp z) c1
  · rcases q6 with ⟨z, -⟩ | ⟨z, z2, g1⟩ | ⟨z, z2, -⟩
    · exact absurd c1 (Int32.not_le.mpr z)
    · obtain ⟨b, b1, b2, b3, b4⟩ := w1.th c2
      obtain ⟨Q, f1, eR⟩ := f b b1
      obtain ⟨f2, f3, ⟨f4, f5, f6, f7⟩, f8, f9⟩ := sup_both (c := c) (m := (p4.i 97).toInt) refsP d22 d1.2.2.2.2.1 (by omega) b3 b2 f1
      have lbr := ok_at (q_supp refsP roomP b3.2.2.1 (s.a 12 k) x) f1
      rw [eR]
      obtain ⟨W, hW⟩ : ∃ W, W = rSup p4 (s.a 12 k) x := ⟨_, rfl⟩
      rw [← hW] at f2 f3 f8 f9 g1
      refine ⟨W, mu, n, ⟨⟨lbr.1, lbr.2.1⟩, by rw [f4]; exact cliP.2.1, ⟨vv.of (by rw [f4]) (by rw [f5]) (by rw [f8]) (f9 94 (by decide) (by decide) (by decide)) (fun z => by rw [f4] at z; exact z), t1.of (by rw [f4]) (by rw [f4]) (by rw [f5]) (by rw [f8]) (by rw [f8]) (f9 82 (by decide) (by decide) (by decide)) (f9 83 (by decide) (by decide) (by decide)), fun k' l q => ?_⟩, d1.of f2 (by rw [f4]) (by rw [f4]) (by rw [f8]) (by rw [f8]) (by rw [f8]) (f9 91 (by decide) (by decide) (by decide)) ?_ (by rw [f8]; exact bnd), ⟨i8, fun q => ?_⟩, WYC.mk4 (by rw [f4]; exact c2) (by rw [f4]; exact b4) (by rw [f8]; exact z2) (by rw [f7]; exact b1) (by rw [f8]; exact b2) f3, rsc.of (fun j _ => by rw [f4]) (fun k _ => by rw [f5]) ⟨fun j _ => by rw [f8], fun k hk => f9 k (by omega) (by omega) (by omega)⟩, by rw [f8]; exact b95, fun k' q => ?_⟩, g1, ⟨by rw [f8]; exact p95, (f9 103 (by decide) (by decide) (by decide)).trans (pa 103 (by decide) (by decide) (by decide) (by decide)), by rw [f8]; exact p80⟩, Or.inl (by rw [f4]; exact c2), by rw [f6]; exact r61, fun f' q => ?_⟩
      · rw [f5, f9 84 (by decide) (by decide) (by decide)]
        exact nmm k' l q
      · have z := d1.2.2.2.2.1
        unfold MUI at *
        rw [f8]
        exact z
      · exact absurd (by rw [f4]; exact c2) q
      · rw [f8] at q
        rw [f5, f9 96 (by decide) (by decide) (by decide)]
        exact op k' q
      · obtain ⟨y1, y2⟩ := okP f' q
        obtain ⟨y3, y4, -⟩ := lbr.2.2.2.1 f' y1
        exact ⟨y3, y4.trans y2⟩
    · exact absurd (w1.h4.mp c2) z2
  · rcases q6 with ⟨z, -⟩ | ⟨z, z2, -⟩ | ⟨z, z2, W, z3, g1⟩
    · exact absurd c1 (Int32.not_le.mpr z)
    · exact absurd (w1.h4.mpr z2) c2
    · have n0 : n = 0 := cliP.2.2.2.2.1.2 c2
      have kd0 : 0 ≤ (s.a 12 k).toInt := by
        have := le_int c1
        rw [c0] at this
        exact this
      have kd1 : (s.a 12 k).toInt < (p4.i 3).toInt := by
        obtain ⟨z8, z9⟩ := i11.2.2.2.2.2.2 k k8
        have y8 := le_int z8
        have y9 := le_int z9
        have y12 := le_int i11.2.2.2.1.2
        have e12 : (12 : Int32).toInt = 12 := by decide
        have p3 : p4.i 3 = r.i 3 := (t3.1 3 (by decide) (by decide) (by decide) (by decide)).trans (ri_ne (by decide))
        rw [p3]
        rw [← e7, toInt_sub] <;> rw [e1] <;> rw [c0] at y8 <;> omega
      obtain ⟨nu, b, f2, f3, ⟨f4, f5, f6⟩, ⟨f7, ⟨f8, f9⟩, f10, f11⟩, f12, ⟨f13, f14⟩, f15⟩ := ra_both (c := c) (m := (p4.i 97).toInt) hN refsP roomP d67 d22 d1.2.2.2.2.1 bnd.1 (by omega) kd0 kd1 f z3
      have rsd := ok_at (q_raise hN refsP roomP (by unfold dpI; omega) (by unfold dpI; omega) (s.a 12 k) x) f
      have g12 : ∀ j : Nat, j ≠ 85 → j ≠ 110 → j ≠ 114 → W.i j = p4.i j := f12
      rw [eR]
      refine ⟨W, nu, 1, ⟨⟨rsd.1, rsd.2.1⟩, (f7 72 (by decide) (by decide) (by decide)).trans cliP.2.1, ⟨vv.of (f7 65 (by decide) (by decide) (by decide)) (by rw [f10]) (g12 93 (by decide) (by decide) (by decide)) (f15 94 (by decide) (by decide) (by decide)) (fun z => absurd f8 z), t1.of (f7 69 (by decide) (by decide) (by decide)) (f7 70 (by decide) (by decide) (by decide)) (by rw [f10]) (g12 80 (by decide) (by decide) (by decide)) (g12 81 (by decide) (by decide) (by decide)) (f15 82 (by decide) (by decide) (by decide)) (f15 83 (by decide) (by decide) (by decide)), fun k' l q => ?_⟩, d1.of f2 (f7 67 (by decide) (by decide) (by decide)) (f7 71 (by decide) (by decide) (by decide)) (g12 97 (by decide) (by decide) (by decide)) (g12 99 (by decide) (by decide) (by decide)) (g12 115 (by decide) (by decide) (by decide)) (f15 91 (by decide) (by decide) (by decide)) f3 ?_, ⟨by decide, fun q => absurd f8 q⟩, WYC.mk4 f8 f9 f13 f4 f5 f6, rsc.of (fun j hj => f7 j (by omega) (by omega) (by omega)) (fun k _ => by rw [f10]) ⟨fun j hj => g12 j (by omega) (by omega) (by omega), fun k hk => f15 k (by omega) (by omega) (by omega)⟩, ?_, fun k' q => ?_⟩, g1, ⟨(g12 95 (by decide) (by decide) (by decide)).trans p95, (f15 103 (by decide) (by decide) (by decide)).trans (pa 103 (by decide) (by decide) (by decide) (by decide)), (g12 80 (by decide) (by decide) (by decide)).trans p80⟩, Or.inl f8, by rw [f11]; exact r61, fun f' q => ?_⟩
      · rw [f10, f15 84 (by decide) (by decide) (by decide)]
        exact nmm k' l q
      · rw [g12 80 (by decide) (by decide) (by decide)]
        omega
      · rw [g12 95 (by decide) (by decide) (by decide)]
        exact b95
      · rw [g12 95 (by decide) (by decide) (by decide)] at q
        rw [f10, f15 96 (by decide) (by decide) (by decide)]
        exact op k' q
      · obtain ⟨y1, y2⟩ := okP f' q
        obtain ⟨y3, y4, -⟩ := rsd.2.2.2.2.2.2.2.2.2 f' y1
        exact ⟨y3, y4.trans y2⟩
