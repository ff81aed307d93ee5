/-! the class's reading: code, rows and depth apart -/
def JK (H : HB) (x y : Int) (cD c d : List Nat) (X : List (Nat × List Nat)) (P : List Nat) (lim : List Int) (s : CS) : Prop := CBS H s ∧ (s.i 32 = 0 → GW cD c X P lim s ∧ NB x y d s)
theorem JJ.k {H : HB} {x y : Int} {c : List Nat} {X : List (Nat × List Nat)} {P : List Nat} {lim : List Int} {s : CS} (h : JJ H x y c X P lim s) : JK H x y c c c X P lim s := h
theorem JK.j {H : HB} {x y : Int} {c : List Nat} {X : List (Nat × List Nat)} {P : List Nat} {lim : List Int} {s : CS} (h : JK H x y c c c X P lim s) : JJ H x y c X P lim s := h
theorem JK.w {H : HB} {x y x' y' : Int} {cD c d : List Nat} {X : List (Nat × List Nat)} {P : List Nat} {lim : List Int} {s : CS} (h : JK H x y cD c d X P lim s) (hx : x ≤ x') (hy : y ≤ y') : JK H x' y' cD c d X P lim s := ⟨h.1, fun q => by
  obtain ⟨g, n⟩ := h.2 q
  refine ⟨g, ?_⟩
  unfold NB at *
  exact ⟨by omega, n.2.1, by omega, n.2.2.2⟩⟩
theorem JK.flt {H : HB} {x y : Int} {cD c d : List Nat} {X : List (Nat × List Nat)} {P : List Nat} {lim : List Int} {s R : CS} (h : CBS H s) (hf : FLD s R) : JK H x y cD c d X P lim R := ⟨hf.t9.cb h hf.2.2.1 (fun _ => hf.2.2.2.2) (fun q => absurd q hf.2.2.2.1), fun q => absurd q hf.2.2.2.1⟩
theorem JK.adv {H : HB} {x y x' y' : Int} {cD c d : List Nat} {X : List (Nat × List Nat)} {P : List Nat} {lim : List Int} {s R : CS} (h : JK H x y cD c d X P lim s) (ha : ADV s R) (hxy : s.i 32 = 0 → x + 100 * plI s ≤ x' + 100 * plI R ∧ y + eI s ≤ y' + eI R) : JK H x' y' cD c d X P lim R := by
  obtain ⟨h1, h2⟩ := h
  have t9 := ha.1.t9
  have e32 : R.i 32 = s.i 32 := ha.1.2 32 (by decide) (by decide) (by decide) (by decide)
  have cb := t9.cb h1 ha.2.1 (fun q => ha.2.2.2.2 (h1.2.2.2.2.1 (by rw [← e32]; exact q))) (fun q => e32.symm.trans q)
  refine ⟨cb, fun q => ?_⟩
  obtain ⟨g, n⟩ := h2 (e32.symm.trans q)
  have gn := ha.gain h1.2.2.1
  have e34 : sgI R = sgI s := by unfold sgI; rw [ha.1.2 34 (by decide) (by decide) (by decide) (by decide)]
  refine ⟨g.ck h1.1 t9.ck, t9.nb n h1.1 ⟨h1.2.2.2.2.2.2.1.1, h1.2.2.2.2.2.2.1.2.1⟩ h1.2.2.2.2.2.2.1.2.2 ?_ gn.1 (hxy (e32.symm.trans q)).1 (hxy (e32.symm.trans q)).2 (by rw [e34]; exact ⟨n.2.2.2.2.2.2.1, n.2.2.2.1⟩)⟩
  by_cases z : s.i 43 = 0
  · have z2 := ha.2.2.2.2 z
    have n1 : ¬ ALN (s.i 43) := fun y => by unfold ALN at y; rw [z, z_t0] at y; omega
    have n2 : ¬ ALN (R.i 43) := fun y => by unfold ALN at y; rw [z2, z_t0] at y; omega
    rw [eI.sg n1, eI.sg n2]
    have := gn.1
    omega
  · exact (gn.2.1 z).2
theorem JK.add {H : HB} {x y : Int} {cD c d c1 : List Nat} {X : List (Nat × List Nat)} {P : List Nat} {lim : List Int} {s R : CS} {o v : Int32} (h : JK H x y cD c d X P lim s) (ha : ADD s R o v) (hx : x ≤ 10000) (hy : y ≤ 100) (hl : s.i 32 = 0 → cD.length ≤ 21) (hI : s.i 32 = 0 → ∀ (DT : Nat → List Nat) (KT : Nat → Prop), (∀ q ∈ X, (q.1 : Int) < tcI s ∧ DT q.1 = q.2 ∧ ¬ KT q.1) → (∀ n : Nat, (n : Int) = cnI s → RCH s DT KT n c lim) → (∀ n : Nat, (n : Int) < nmI s → NMT (s.a 49 n) c) → IOK (tcI s) DT KT o v cD c1) : JK H (x + 1) y c1 c d X P lim R := by
  obtain ⟨h1, h2⟩ := h
  have sm := ha.smr
  obtain ⟨⟨b1, b2, b3, b4, b5, b6, b7, b8, b9, b10⟩, b11, b12, b13, b14, b15⟩ := (show ADD s R o v from ha)
  refine ⟨ha.cb h1, fun q => ?_⟩
  have q' : s.i 32 = 0 := (b11 32 (by decide)).symm.trans q
  obtain ⟨g, n⟩ := h2 q'
  have sz := n.sz h1.2.2.1 h1.2.2.2.2.2.2.1.1 hx hy
  refine ⟨g.add h1.1 ha (by omega) (hl q') (hI q'), n.of h1.2.2.2.2.2.2.1.1 h1.2.2.2.2.2.2.1.2.2 sm (by rw [b7]) b4 ⟨b11 43 (by decide), b11 44 (by decide)⟩ ?_ ?_⟩
  · obtain ⟨D, DT, KT, -, -, -, g4, -⟩ := g
    have e1 : (1 : Int32).toInt = 1 := by decide
    have g4' : 0 ≤ (s.i 20).toInt := g4.1
    have s0 : (s.i 20).toInt ≤ 200000 := sz.1
    have esz : szI R = szI s + 1 := by
      show (R.i 20).toInt = (s.i 20).toInt + 1
      rw [b12, toInt_add] <;> rw [e1] <;> omega
    omega
  · have : tcI R = tcI s := by unfold tcI; rw [b11 21 (by decide)]
    omega
theorem JK.new {H : HB} {x y : Int} {cD c d : List Nat} {X : List (Nat × List Nat)} {P : List Nat} {lim : List Int} {s R : CS} (h : JK H x y cD c d X P lim s) (hr : NTG s R) (hx : x ≤ 10000) (hy : y ≤ 100) (t : List Nat) : JK H x (y + 1) cD c d (((tcI s).toNat, t) :: X) ((tcI s).toNat :: P) lim R := by
  obtain ⟨h1, h2⟩ := h
  have sm := hr.smr
  obtain ⟨⟨b1, b2, b3, b4, b5, b6, b7, b8, b9, b10⟩, b11, b12, b13, b14⟩ := (show NTG s R from hr)
  refine ⟨hr.cb h1 (fun q => by
    have w := h2 q
    exact ⟨w.1.tc0.1, by have := (w.2.sz h1.2.2.1 h1.2.2.2.2.2.2.1.1 hx hy).2; omega⟩), fun q => ?_⟩
  have q' : s.i 32 = 0 := (b11 32 (by decide)).symm.trans q
  obtain ⟨g, n⟩ := h2 q'
  have sz := n.sz h1.2.2.1 h1.2.2.2.2.2.2.1.1 hx hy
  refine ⟨g.new hr (by omega) t, n.of h1.2.2.2.2.2.2.1.1 h1.2.2.2.2.2.2.1.2.2 sm (by rw [b7]) b4 ⟨b11 43 (by decide), b11 44 (by decide)⟩ ?_ ?_⟩
  · have : szI R = szI s := by unfold szI; rw [b11 20 (by decide)]
    omega
  · have e1 : (1 : Int32).toInt = 1 := by decide
    have t0 : 0 ≤ (s.i 21).toInt := g.tc0.1
    have t1 : (s.i 21).toInt ≤ 1010 := sz.2
    have : tcI R = tcI s + 1 := by
      show (R.i 21).toInt = (s.i 21).toInt + 1
      rw [b12, toInt_add] <;> rw [e1] <;> omega
    omega
/-- a target is aimed: what is known of it may stand in X or in a row -/
theorem JK.aim {H : HB} {x y : Int} {cD c d : List Nat} {X : List (Nat × List Nat)} {P P' : List Nat} {lim : List Int} {s R : CS} {t : Int32} (h : JK H x y cD c d X P lim s) (ha : AIM s R t) (hx : x ≤ 10000) (hy : y ≤ 100) (hT : s.i 32 = 0 → ∀ (DT : Nat → List Nat) (KT : Nat → Prop), (∀ q ∈ X, (q.1 : Int) < tcI s ∧ DT q.1 = q.2 ∧ ¬ KT q.1) → (∀ n : Nat, (n : Int) = cnI s → RCH s DT KT n c lim) → 0 ≤ t.toInt ∧ t.toInt < tcI s ∧ DT t.toInt.toNat = cD) (hP : s.i 32 = 0 → ∀ k ∈ P, k ∈ P' ∨ (k : Int) = t.toInt) : JK H x y cD c d X P' lim R := by
  obtain ⟨h1, h2⟩ := h
  have sm := ha.smr
  obtain ⟨⟨b1, b2, b3, b4, b5, b6, b7, b8, b9, b10⟩, b11, b13, b14⟩ := (show AIM s R t from ha)
  refine ⟨ha.cb h1 (fun q => (h2 q).1.tc0.2), fun q => ?_⟩
  have q' : s.i 32 = 0 := by rw [← b11]; exact q
  obtain ⟨g, n⟩ := h2 q'
  have sz := n.sz h1.2.2.1 h1.2.2.2.2.2.2.1.1 hx hy
  refine ⟨g.aim ha (by omega) (hT q') (hP q'), n.of h1.2.2.2.2.2.2.1.1 h1.2.2.2.2.2.2.1.2.2 sm (by rw [b7]) b4 ⟨by rw [b11], by rw [b11]⟩ ?_ ?_⟩
  · have : szI R = szI s := by unfold szI; rw [b11]
    omega
  · have : tcI R = tcI s := by unfold tcI; rw [b11]
    omega
/-- more is known of a target -/
theorem JK.ext {H : HB} {x y : Int} {cD c d : List Nat} {X : List (Nat × List Nat)} {P : List Nat} {lim : List Int} {s : CS} (h : JK H x y cD c d X P lim s) (t : Int32) (b : List Nat) (hT : s.i 32 = 0 → ∀ (DT : Nat → List Nat) (KT : Nat → Prop), (∀ q ∈ X, (q.1 : Int) < tcI s ∧ DT q.1 = q.2 ∧ ¬ KT q.1) → (∀ n : Nat, (n : Int) = cnI s → RCH s DT KT n c lim) → TTc (tcI s) DT KT t b) : JK H x y cD c d ((t.toInt.toNat, b) :: X) P lim s := by
  refine ⟨h.1, fun q => ⟨?_, (h.2 q).2⟩⟩
  obtain ⟨D, DT, KT, h1, h2, h3, h4, h5, ⟨n, n1, n2, n3⟩, h7⟩ := (h.2 q).1
  have tt := hT q DT KT h5 (fun m hm => by
    have e : m = n := by omega
    rw [e]; exact n3)
  refine ⟨D, DT, KT, h1, h2, h3, h4, fun p hp => ?_, ⟨n, n1, n2, n3⟩, h7⟩
  rcases List.mem_cons.mp hp with e | e
  · rw [e]
    obtain ⟨t1, t2, t3, t4⟩ := tt
    exact ⟨by show (t.toInt.toNat : Int) < tcI s; omega, t3, t4⟩
  · exact h5 p e
theorem JK.sub {H : HB} {x y : Int} {cD c d : List Nat} {X X' : List (Nat × List Nat)} {P : List Nat} {lim : List Int} {s : CS} (h : JK H x y cD c d X P lim s) (hX : ∀ q ∈ X', q ∈ X) : JK H x y cD c d X' P lim s := ⟨h.1, fun q => ⟨(h.2 q).1.sub hX, (h.2 q).2⟩⟩
theorem JK.perm {H : HB} {x y : Int} {cD c d : List Nat} {X : List (Nat × List Nat)} {P P' : List Nat} {lim : List Int} {s : CS} (h : JK H x y cD c d X P lim s) (hP : s.i 32 = 0 → ∀ k ∈ P, k ∈ P') : JK H x y cD c d X P' lim s := by
  refine ⟨h.1, fun q => ⟨?_, (h.2 q).2⟩⟩
  obtain ⟨D, DT, KT, h1, h2, h3, h4⟩ := (h.2 q).1
  refine ⟨D, DT, KT, h1, h2, fun t a1 a2 a3 => ?_, h4⟩
  rcases h3 t a1 a2 a3 with z | z
  · exact Or.inl (hP q t z)
  · exact Or.inr z
/-- signs -/
theorem JK.op {H : HB} {x y : Int} {cD c d : List Nat} {X : List (Nat × List Nat)} {P : List Nat} {lim : List Int} {s R : CS} {v : Int32} (h : JK H x y cD c d X P lim s) (hv : ¬ v = 0) (ho : FLD s R ∨ (s.i 43 = v ∧ s.i 34 < 20 ∧ ADV (CS.setI s 34 (s.i 34 + 1)) R)) : JK H (x - 100) y cD c d X P lim R ∧ (R.i 32 = 0 → MOV 1 s R) := by
  rcases ho with hf | ⟨h1, h2, h3⟩
  · exact ⟨JK.flt h.1 hf, fun q => absurd q hf.2.2.2.1⟩
  have t9 : TS9 s (CS.setI s 34 (s.i 34 + 1)) := (TS9.rf s).i34 _
  have yi : ∀ j : Nat, j ≠ 34 → (CS.setI s 34 (s.i 34 + 1)).i j = s.i j := fun j q => ci_ne _ _ _ q
  have y34 : (CS.setI s 34 (s.i 34 + 1)).i 34 = s.i 34 + 1 := ci_at _ _ _
  have lY : LC (CS.setI s 34 (s.i 34 + 1)) := h.1.2.2.1
  generalize CS.setI s 34 (s.i 34 + 1) = Y at *
  have plY : plI Y = plI s := by unfold plI; rw [yi 44 (by decide)]
  have eY : eI Y = eI s := by unfold eI; rw [plY, yi 43 (by decide)]
  have cY : CBS H Y := t9.cb h.1 lY (by rw [yi 32 (by decide), yi 43 (by decide)]; exact h.1.2.2.2.2.1) (fun q => (yi 32 (by decide)).symm.trans q)
  have jY : JK H x y cD c d X P lim Y := by
    refine ⟨cY, fun q => ?_⟩
    obtain ⟨g, n⟩ := h.2 ((yi 32 (by decide)).symm.trans q)
    have sg := i34_op n.2.2.2.1.1 h2
    have esg : sgI Y = sgI s + 1 := by unfold sgI; rw [y34]; exact sg.1
    refine ⟨g.ck h.1.1 t9.ck, t9.nb n h.1.1 ⟨h.1.2.2.2.2.2.2.1.1, h.1.2.2.2.2.2.2.1.2.1⟩ h.1.2.2.2.2.2.2.1.2.2 (by omega) (by omega) (by omega) (by omega) ⟨?_, ?_, ?_⟩⟩
    · have := n.2.2.2.2.2.2.1; omega
    · have := n.2.2.2.1.1; omega
    · omega
  have gn := h3.gain cY.2.2.1
  have n0 : ¬ Y.i 43 = 0 := by rw [yi 43 (by decide), h1]; exact hv
  have g1 := gn.2.1 n0
  refine ⟨jY.adv h3 (fun _ => by omega), fun q => ?_⟩
  have q' : s.i 32 = 0 := (yi 32 (by decide)).symm.trans (h3.f32.symm.trans q)
  obtain ⟨g, n⟩ := h.2 q'
  have sg := i34_op n.2.2.2.1.1 h2
  refine ⟨q', ⟨by omega, by omega⟩, ?_, t9.smx.tr h3.smr.x⟩
  have e : sgI R = sgI Y := by unfold sgI; rw [h3.smr.1.1]
  rw [e]
  unfold sgI
  rw [y34]
  exact sg.1
theorem JK.dn {H : HB} {x y : Int} {cD c d : List Nat} {X : List (Nat × List Nat)} {P : List Nat} {lim : List Int} {s : CS} (h : JK H x y cD c d X P lim s) (hs : s.i 32 = 0 → SGS s (cnI s).toNat ≤ sgI s - 1 ∧ 0 ≤ sgI s - 1) : JK H x y cD c d X P lim (CS.setI s 34 (s.i 34 - 1)) ∧ ((CS.setI s 34 (s.i 34 - 1)).i 32 = 0 → s.i 32 = 0 ∧ plI (CS.setI s 34 (s.i 34 - 1)) = plI s ∧ eI (CS.setI s 34 (s.i 34 - 1)) = eI s ∧ sgI (CS.setI s 34 (s.i 34 - 1)) = sgI s - 1 ∧ SMX s (CS.setI s 34 (s.i 34 - 1))) := by
  have t9 : TS9 s (CS.setI s 34 (s.i 34 - 1)) := (TS9.rf s).i34 _
  have yi : ∀ j : Nat, j ≠ 34 → (CS.setI s 34 (s.i 34 - 1)).i j = s.i j := fun j q => ci_ne _ _ _ q
  have y34 : (CS.setI s 34 (s.i 34 - 1)).i 34 = s.i 34 - 1 := ci_at _ _ _
  have lY : LC (CS.setI s 34 (s.i 34 - 1)) := h.1.2.2.1
  generalize CS.setI s 34 (s.i 34 - 1) = Y at *
  have plY : plI Y = plI s := by unfold plI; rw [yi 44 (by decide)]
  have eY : eI Y = eI s := by unfold eI; rw [plY, yi 43 (by decide)]
  have e1 : (1 : Int32).toInt = 1 := by decide
  have esg : s.i 32 = 0 → sgI Y = sgI s - 1 := fun q => by
    have q1 := (hs q).2
    have n := (h.2 q).2.2.2.2.1.2
    have q1 : 0 ≤ (s.i 34).toInt - 1 := q1
    have n : (s.i 34).toInt ≤ 20 := n
    show (Y.i 34).toInt = (s.i 34).toInt - 1
    rw [y34, toInt_sub] <;> rw [e1] <;> omega
  refine ⟨⟨t9.cb h.1 lY (by rw [yi 32 (by decide), yi 43 (by decide)]; exact h.1.2.2.2.2.1) (fun q => (yi 32 (by decide)).symm.trans q), fun q => ?_⟩, fun q => ?_⟩
  · have q' := (yi 32 (by decide)).symm.trans q
    obtain ⟨g, n⟩ := h.2 q'
    have e := esg q'
    have s2 := hs q'
    have n3 := n.2.2.2.1.2
    exact ⟨g.ck h.1.1 t9.ck, t9.nb n h.1.1 ⟨h.1.2.2.2.2.2.2.1.1, h.1.2.2.2.2.2.2.1.2.1⟩ h.1.2.2.2.2.2.2.1.2.2 (by omega) (by omega) (by omega) (by omega) ⟨by omega, by omega, by omega⟩⟩
  · have q' := (yi 32 (by decide)).symm.trans q
    exact ⟨q', plY, eY, esg q', t9.smx⟩
theorem q_clsK {N : Nat} {H : HB} (hN : 1000 ≤ N) {x y : Int} {cD c d : List Nat} {X : List (Nat × List Nat)} {P : List Nat} {lim : List Int} {s : CS} (h : JK H x y cD c d X P lim s) (hs : s.i 32 = 0 → SGS s (cnI s).toNat ≤ sgI s - 1 ∧ 0 ≤ sgI s - 1) (v : Int32) (hv : ¬ v = 0) : ok (f_X1_close N s v) (fun R => JK H (x - 100) y cD c d X P lim R.2 ∧ (R.2.i 32 = 0 → MOV (-1) s R.2)) := by
  unfold f_X1_close f_X1_close_22
  have fin : ∀ V : CS, JK H (x - 100) y cD c d X P lim V → (V.i 32 = 0 → EXR s V) → ok (some ((), CS.setI V 34 ((V.i 34) - 1))) (fun R => JK H (x - 100) y cD c d X P lim R.2 ∧ (R.2.i 32 = 0 → MOV (-1) s R.2)) := fun V hV he => by
    have d := hV.dn (fun q => by
      have ex := he q
      have z := hs ex.1
      have ecn : cnI V = cnI s := by unfold cnI; rw [ex.2.2.1.2.2.2.1]
      rw [ex.sg, ecn, (ex.2.2.2.1.sums h.1.2.2.2.2.2.2.1.2.2).2.1]
      exact z)
    refine ok_some ⟨d.1, fun q => ?_⟩
    obtain ⟨d1, d2, d3, d4, d5⟩ := d.2 q
    have ex := he d1
    exact ⟨ex.1, ⟨by rw [d2]; exact ex.2.1.1, by rw [d3]; exact ex.2.1.2⟩, by rw [d4, ex.sg]; omega, ex.2.2.x.tr d5⟩
  refine ok_bind (q_found s v) (fun p hp => ?_)
  obtain ⟨p1, p2⟩ := hp
  rw [p1]
  rcases p2 with ⟨q1, q2⟩ | ⟨q1, q2⟩
  · rw [if_pos q1]
    exact ok_bind (q_misp h.1) (fun q hq => fin q.2 (JK.flt h.1 hq) (fun z => absurd z hq.2.2.2.1))
  · rw [q1, if_neg (by decide)]
    refine ok_bind (q_advC hN h.1) (fun q hq => ?_)
    have gn := hq.gain h.1.2.2.1
    have g1 := gn.2.1 (by rw [q2]; exact hv)
    exact fin q.2 (h.adv hq (fun _ => by omega)) (fun z => ⟨hq.f32.symm.trans z, g1, hq.smr⟩)
