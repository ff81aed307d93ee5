/-! both readers: a try goes -/
/-- what waits at a try that goes: it waits at the next wall, or arrives, or never arrives -/
theorem JSI.rsv {Ψ Ψ' : GPS} {V : List RVW} {r6 : RVW} {col : Nat → Option (Nat × Bool)} {YJ : Nat → List Nat} {b s0 u σ0 σ1 : RS} {x2 : Int32} {y : Nat} (h : JSI Ψ (r6 :: V) col YJ b s0) (t6 : isTyv r6) (nd : ∀ q ∈ V, isTyv q → ¬ q.2.1 66 = r6.2.1 66) (pl : ∀ q ∈ V, q.2.2.1 < r6.2.2.1) (y66 : (r6.2.1 66).toInt = (y : Int) ∧ (b.i 29).toInt ≤ (y : Int) ∧ (y : Int) < (u.i 29).toInt) (e0 : σ0.i 59 = s0.i 59 ∧ ∀ k : Nat, (k = 47 ∨ k = 48 ∨ k = 49 ∨ k = 50 ∨ k = 51 ∨ k = 60 ∨ k = 61 ∨ k = 62) → σ0.a k = s0.a k) (rx : RSX (r6.2.1 66) x2 0 σ0 σ1) (eu : u.i 43 = s0.i 43 ∧ u.i 59 = s0.i 59 ∧ ∀ k : Nat, (k = 47 ∨ k = 48 ∨ k = 49 ∨ k = 50 ∨ k = 51 ∨ k = 60 ∨ k = 61 ∨ k = 62) → u.a k = σ1.a k) (l20 : (s0.i 20).toInt ≤ (u.i 20).toInt) (l29 : (s0.i 29).toInt ≤ (u.i 29).toInt) (a22 : ∀ j : Nat, ¬ col j = none → u.a 22 j = s0.a 22 j) (a31 : ∀ z : Nat, (z : Int) < (s0.i 29).toInt → ¬ PTY (r6 :: V) z → u.a 31 z = s0.a 31 z) (ps : ∀ (FC : Nat → Prop) (nm : Nat → Nat → Prop), Ψ' FC nm → Ψ FC nm) (wts : ∀ i : Nat, WTS σ0 i → ∀ r ∈ V, isGo r.v → (σ0.a 60 i).toInt = ((r.2.2.2 : Nat) : Int) → ∃ r3 ∈ V, isTyv r3 ∧ isWl r3.v ∧ σ0.a 57 ((σ0.i 56).toInt - 1).toNat = r3.2.1 66 ∧ r.2.2.1 < r3.2.2.1) (lost : x2 = 0 → 0 ≤ (u.a 31 y).toInt ∧ ∀ (FC : Nat → Prop) (nm : Nat → Nat → Prop), Ψ' FC nm → ¬ FC y) : JSI Ψ' V col YJ b u := by
  obtain ⟨h1, h2, h3, h4⟩ := h
  obtain ⟨⟨r1, r2, r3', r4⟩, r5, r6x, r7⟩ := rx
  have cy : (r6.2.1 66).toNatClampNeg = y := by
    have := clampI (show 0 ≤ (r6.2.1 66).toInt by omega)
    omega
  have ngo6 : ¬ isGo r6.v := tyv.go t6
  have ua : ∀ k : Nat, (k = 47 ∨ k = 48 ∨ k = 49 ∨ k = 50 ∨ k = 51 ∨ k = 60 ∨ k = 61 ∨ k = 62) → k ≠ 50 → k ≠ 51 → k ≠ 62 → u.a k = s0.a k := fun k k1 k3 k4 k5 => by
    rw [eu.2.2 k k1, r4 k k3 k4 k5, e0.2 k k1]
  have nn : ∀ (j : Nat) (x : Nat × Bool), col j = some x → ¬ col j = none := fun j x e z => by
    rw [z] at e
    cases e
  have npt : ¬ PTY V y := fun ⟨q, hq, q1, q2⟩ => nd q hq q1 (Int32.toInt_inj.mp (by omega))
  have fl1 : ∀ (g : Nat) (k : Bool), jfl s0 g k = 1 → jfl u g k = 1 := fun g k z => by
    unfold jfl at z ⊢
    cases k with
    | true =>
      have z' : s0.a 50 g = 1 := z
      show u.a 50 g = 1
      rw [eu.2.2 50 (by decide)]
      rcases r7 50 g (Or.inl rfl) with w | w
      · rw [w, e0.2 50 (by decide)]
        exact z'
      · exact w.1
    | false =>
      have z' : s0.a 51 g = 1 := z
      show u.a 51 g = 1
      rw [eu.2.2 51 (by decide)]
      rcases r7 51 g (Or.inr rfl) with w | w
      · rw [w, e0.2 51 (by decide)]
        exact z'
      · exact w.1
  refine ⟨fun r hr go => ?_, fun j g k hc => ?_, fun r hr => h3 r (List.mem_cons_of_mem _ hr), h4.2⟩
  · obtain ⟨z0, l1, l2, z1, z2, z3⟩ := h1 r (List.mem_cons_of_mem _ hr) go
    refine ⟨by rw [eu.1]; exact z0, l1, l2, ?_, ?_, z3⟩
    · rw [ua 48 (by decide) (by decide) (by decide) (by decide)]
      exact lks.mv l1 _ z1 (fun j hj => a22 j (nn j _ ((z3 j).1.mpr hj)))
    · rw [ua 49 (by decide) (by decide) (by decide) (by decide)]
      exact lks.mv l2 _ z2 (fun j hj => a22 j (nn j _ ((z3 j).2.mpr hj)))
  · obtain ⟨⟨z1, z2⟩, r, hr, go, eg, z3⟩ := h2 j g k hc
    have hr' : r ∈ V := (List.mem_cons.mp hr).resolve_left (fun z => by rw [z] at go; exact ngo6 go.1)
    refine ⟨⟨z1, by omega⟩, r, hr', go, eg, ?_⟩
    rcases z3 with z3 | ⟨i, i1, i2, i3, q, hq, i4, i5, i6, i7, i8⟩ | ⟨w, hw, w1, w2, w3, w4⟩
    · exact Or.inl (fl1 g k z3)
    · have a60 : u.a 60 i = s0.a 60 i := by rw [ua 60 (by decide) (by decide) (by decide) (by decide)]
      have a61 : u.a 61 i = s0.a 61 i := by rw [ua 61 (by decide) (by decide) (by decide) (by decide)]
      rcases List.mem_cons.mp hq with hq6 | hqV
      · -- it waited here
        rw [hq6] at i5 i6 i7 i8
        have i6' : σ0.a 62 i = r6.2.1 66 := by rw [e0.2 62 (by decide)]; exact i6
        rcases r6x i (by omega) (by rw [e0.1]; exact i1) i6' with ⟨m1, m2⟩ | ⟨m1, m2, m3⟩ | ⟨m1, m2, m3, m4⟩
        · obtain ⟨l1, l2⟩ := lost m1
          rw [cy] at i7
          exact Or.inr (Or.inr ⟨y, i7, y66.2, npt, l1, l2⟩)
        · obtain ⟨q3, hq3, t1, t2, t3, t4⟩ := wts i m2 r hr' go.1 (by rw [e0.2 60 (by decide), eg]; exact i2)
          have l3 : r.2.2.1 < q3.2.2.1 := t4
          have l6 := pl q3 hq3
          refine Or.inr (Or.inl ⟨i, by rw [eu.2.1]; exact i1, by rw [a60]; exact i2, by rw [a61]; exact i3, q3, hq3, t1, l3, by rw [eu.2.2 62 (by decide), m3]; exact t3, i8 q3 (List.mem_cons_of_mem _ hq3) t2 l3 l6, fun q2 hq2 n1 n2 n3 => i8 q2 (List.mem_cons_of_mem _ hq2) n1 n2 (by omega)⟩)
        · refine Or.inl ?_
          have gn : (σ0.a 60 i).toInt.toNat = g := by
            rw [e0.2 60 (by decide), i2]
            rfl
          rw [gn] at m4
          unfold fBr at m4
          rw [e0.2 61 (by decide)] at m4
          unfold jfl
          cases k with
          | true =>
            rw [if_neg (i3.mpr rfl)] at m4
            show u.a 50 g = 1
            rw [eu.2.2 50 (by decide)]
            exact m4
          | false =>
            rw [if_pos (Classical.byContradiction (fun z => by
              have := i3.mp z
              cases this))] at m4
            show u.a 51 g = 1
            rw [eu.2.2 51 (by decide)]
            exact m4
      · -- elsewhere
        have n6 : ¬ σ0.a 62 i = r6.2.1 66 := fun z => by
          rw [e0.2 62 (by decide), i6] at z
          exact nd q hqV i4 z
        exact Or.inr (Or.inl ⟨i, by rw [eu.2.1]; exact i1, by rw [a60]; exact i2, by rw [a61]; exact i3, q, hqV, i4, i5, by rw [eu.2.2 62 (by decide), r5 i (Or.inr (Or.inr n6)), e0.2 62 (by decide)]; exact i6, i7, fun q2 hq2 => i8 q2 (List.mem_cons_of_mem _ hq2)⟩)
    · exact Or.inr (Or.inr ⟨w, hw, ⟨w1.1, by omega⟩, fun ⟨q, hq, p⟩ => w2 ⟨q, List.mem_cons_of_mem _ hq, p⟩, by rw [a31 w w1.2 w2]; exact w3, fun FC nm q => w4 FC nm (ps FC nm q)⟩)
section
variable {A : JBA} {U : RS} {B : CS} {b : RS} {V0 W : List RVW} {s0 : RS} {K K' : JKT} {a e : Int} {S : CS} {s : RS}
/-- a target that is never aimed -/
theorem JRG.ded {x : Int32} (h : JRG A U B b V0 s0 (tv x :: W) K a e S s) {r6 : RVW} (h6 : r6 ∈ W ∧ isTyv r6 ∧ ¬ r6.2.2.1 = 0 ∧ r6.1 11 = x ∧ r6.1 9 ∈ ptl (W ++ V0)) (h44 : (S.i 44).toInt ≤ 900) (he : e ≤ 100) (hK : ∀ (FC : Nat → Prop) (SF : CS) (nm : Nat → Nat → Prop) (X : Als) (ω : Nat) (j : JCT) (Z : Prop), (cTg SF x).toInt < 0 → TGT3 r6 → K FC SF nm X ω j Z → K' FC SF nm X ω j Z) : JRG A U B b V0 s0 W K' a e S s := by
  intro crB
  obtain ⟨b1, b2, b3, b4, Ψ, G, col, YJ, sax, ⟨pin, pin0⟩, tgi, jsi, main⟩ := h crB
  obtain ⟨-, -, r3, -⟩ := crB.rms b1
  have b0 := crB.1.1.2.1
  have tg : ptl ((tv x :: W) ++ V0) = x :: ptl (W ++ V0) := by
    show rtgs (tv x) ++ ptl (W ++ V0) = _
    rw [tv.tgs]
    rfl
  have pc : ∀ {k : Nat}, PEN (W ++ V0) col k → PEN ((tv x :: W) ++ V0) col k := fun {k} p => by
    rcases p with p | ⟨q, hq, p⟩
    · exact Or.inl p
    · exact Or.inr ⟨q, List.mem_cons_of_mem _ hq, p⟩
  obtain ⟨t1, t2⟩ := tgi
  rw [tg] at t1 t2
  obtain ⟨x1, x2, x3⟩ := t2 x List.mem_cons_self
  have t1' := List.nodup_cons.mp t1
  refine ⟨b1, b2, b3, b4, Ψ, G, col, YJ, SAX.mo (fun k ⟨q, hq, p⟩ => ⟨q, List.mem_cons_of_mem _ hq, p⟩) (fun k ⟨q, hq, p⟩ => ⟨q, List.mem_cons_of_mem _ hq, p⟩) sax, ⟨⟨fun k q => pin.1 k (pc q), fun k ⟨q, hq, p⟩ => pin.2.1 k ⟨q, List.mem_cons_of_mem _ hq, p⟩, fun k ⟨q, hq, p⟩ => pin.2.2.1 k ⟨q, List.mem_cons_of_mem _ hq, p⟩, fun k ⟨q, hq, p⟩ => pin.2.2.2 k ⟨q, List.mem_cons_of_mem _ hq, p⟩⟩, pin0⟩, ⟨t1'.2, fun z hz => t2 z (List.mem_cons_of_mem _ hz)⟩, ⟨jsi.1.mv (tv.rj x W).symm (fun r hr => Or.inl (List.mem_cons_of_mem _ hr)) b4 (KD2.rf _ _) (fun _ _ q => q), jsi.2.1, fun r hr => jsi.2.2.1 r (List.mem_cons_of_mem _ hr), jsi.2.2.2⟩, ?_⟩
  intro FC SF nm X h0 ω c0 psi ng0 hc0 hh0 hω
  obtain ⟨⟨ng, hc, hh, wn⟩, mn⟩ := main FC SF nm X h0 ω c0 psi ng0 hc0 hh0 hω
  refine ⟨⟨ng, hc, hh, wn.mv (Int.le_refl _) (fun r hr _ => List.mem_cons_of_mem _ hr)⟩, fun fc fg hA tyc jr => hK FC SF nm X ω _ _ ?_ ((wn.1 r6 (List.mem_cons_of_mem _ h6.1) (Or.inr ⟨h6.2.1, h6.2.2.1⟩)).2 h6.2.1).2.2 (mn (fc.pl (fun y hy => by rw [tg]; exact List.mem_cons_of_mem _ hy)) (fg.st (fun k q => pc q) (fun k ⟨q, hq, p⟩ => ⟨q, List.mem_cons_of_mem _ hq, p⟩) (fun k ⟨q, hq, p⟩ => ⟨q, List.mem_cons_of_mem _ hq, p⟩) (fun k ⟨q, hq, p⟩ => ⟨q, List.mem_cons_of_mem _ hq, p⟩) (fun k ⟨q, hq, p⟩ => ⟨q, List.mem_cons_of_mem _ hq, p⟩)) hA tyc jr)⟩
  have lx : x.toInt + 1 < (S.i 21).toInt := by
    obtain ⟨-, -, t3⟩ := (wn.1 r6 (List.mem_cons_of_mem _ h6.1) (Or.inr ⟨h6.2.1, h6.2.2.1⟩)).2 h6.2.1
    have z1 := t3.1
    have z2 := (t2 _ (List.mem_cons_of_mem _ h6.2.2.2.2)).2.1
    rw [h6.2.2.2.1] at z1
    omega
  have ckx := clampI (show 0 ≤ x.toInt by omega)
  have sf := fc.2.2 x.toNatClampNeg (by omega) (by omega) (Or.inr ⟨by omega, fun y hy z => t1'.1 (by
    have : y = x := Int32.toInt_inj.mp (by omega)
    rw [← this]
    exact hy)⟩)
  unfold cTg gAt
  rw [if_pos (show ib x 1024 from ⟨by omega, by omega⟩)]
  show (SF.a 17 x.toNatClampNeg).toInt < 0
  rw [sf, x3]
  decide
/-- a try's row under another sort -/
theorem JRG.rl5 {r5 r6 : RVW} {tl : List Int32} (h : JRG A U B b V0 s0 [r5] K a e S s) (t5 : isTyv r5) (t6 : isTyv r6) (p5 : ¬ r5.2.2.1 = 0) (wl : isWl r6.v → isWl r5.v) (nv : ¬ r6.v = 213 ∧ ¬ r6.v = 215) (e2 : r6.2.2 = r5.2.2 ∧ r6.2.1 66 = r5.2.1 66 ∧ r6.2.1 72 = r5.2.1 72 ∧ r6.1 2 = r5.1 2 ∧ r6.1 9 = r5.1 9 ∧ r6.1 11 = r5.1 11) (etl : rtgs r5 = tl ++ rtgs r6) : JRG A U B b V0 s0 (tvs tl ++ [r6]) K a e S s := by
  intro crB
  obtain ⟨b1, b2, b3, b4, Ψ, G, col, YJ, sax, ⟨pin, pin0⟩, tgi, ⟨jsj, bD, hds⟩, main⟩ := h crB
  obtain ⟨e22, e66, e72, eo2, eo9, eo11⟩ := e2
  have p6 : ¬ r6.2.2.1 = 0 := by rw [e22]; exact p5
  have erj5 : rjw [r5] = [r5] := rjw.y ⟨show isTy r5.v from t5, p5⟩
  have erj : rjw (tvs tl ++ [r6]) = [r6] := (tvs.rjw tl [r6]).trans (rjw.y ⟨show isTy r6.v from t6, p6⟩)
  have nvs : ∀ v : Int32, ¬ (v = 213 ∨ v = 215 ∨ v = 305 ∨ v = 216) → ¬ r6.v = v := fun v hv q => hv (by rw [← q]; exact t6)
  have mm : ∀ q : RVW, q ∈ tvs tl ++ [r6] → (∃ x : Int32, q = tv x) ∨ q = r6 := fun q hq => by
    rcases List.mem_append.mp hq with z | z
    · exact Or.inl (tvs.mem _ z)
    · exact Or.inr (List.mem_singleton.mp z)
  have mt : ∀ {P : RVW → Prop}, (∀ x : Int32, ¬ P (tv x)) → (P r6 → P r5) → (∃ q ∈ tvs tl ++ [r6] ++ V0, P q) → ∃ q ∈ [r5] ++ V0, P q := fun {P} hP hr ⟨q, hq, p⟩ => by
    rcases List.mem_append.mp hq with z | z
    · rcases mm q z with ⟨x, e⟩ | e
      · rw [e] at p
        exact absurd p (hP x)
      · rw [e] at p
        exact ⟨r5, List.mem_cons_self, hr p⟩
    · exact ⟨q, List.mem_append_right _ z, p⟩
  have pe' : ∀ k : Nat, PEN (tvs tl ++ [r6] ++ V0) col k → PEN ([r5] ++ V0) col k := fun k p => by
    rcases p with p | p
    · exact Or.inl p
    · exact Or.inr (mt (P := fun q => rsite q k) (fun x => tv.site) (fun z => absurd z (tyv.site t6)) p)
  have nv' : ¬ (r6.v = 218 ∨ r6.v = 995) := fun z => z.elim (nvs _ (by decide)) (nvs _ (by decide))
  have ph' : ∀ k : Nat, PCH (tvs tl ++ [r6] ++ V0) k → PCH ([r5] ++ V0) k := fun k p => mt (P := fun q => (q.v = 218 ∨ q.v = 995) ∧ (k : Int) = (q.2.1 66).toInt) (fun x z => absurd z.1 (by rw [tv.v]; decide)) (fun z => absurd z.1 nv') p
  have pz' : ∀ k : Nat, PCZ (tvs tl ++ [r6] ++ V0) k → PCZ ([r5] ++ V0) k := fun k p => mt (P := fun q => q.v = 218 ∧ (k : Int) = (q.2.1 67).toInt) (fun x z => absurd z.1 (by rw [tv.v]; decide)) (fun z => absurd (Or.inl z.1) nv') p
  have py' : ∀ k : Nat, PTY (tvs tl ++ [r6] ++ V0) k → PTY ([r5] ++ V0) k := fun k p => mt (P := fun q => isTyv q ∧ (k : Int) = (q.2.1 66).toInt) (fun x z => absurd z.1 tv.ty) (fun z => ⟨t5, by rw [← e66]; exact z.2⟩) p
  have pa' : ∀ k : Nat, PCA (tvs tl ++ [r6] ++ V0) k → PCA ([r5] ++ V0) k := fun k p => mt (P := fun q => isTyv q ∧ (k : Int) = (q.2.1 72).toInt) (fun x z => absurd z.1 tv.ty) (fun z => ⟨t5, by rw [← e72]; exact z.2⟩) p
  have etg : ptl (tvs tl ++ [r6] ++ V0) = ptl ([r5] ++ V0) := by
    rw [ptl.app, ptl.app, tvs_ptl]
    show (tl ++ (rtgs r6 ++ [])) ++ ptl V0 = rtgs r5 ++ ptl V0
    rw [List.append_nil, ← etl]
  obtain ⟨jsi, ⟨n1, n2, n3⟩, n4, n5⟩ := jsj
  rw [erj5] at jsi n5
  refine ⟨b1, b2, b3, b4, Ψ, G, col, YJ, SAX.mo py' pa' sax, ⟨⟨fun k q => pin.1 k (pe' k q), fun k q => pin.2.1 k (pz' k q), fun k q => pin.2.2.1 k (py' k q), fun k q => pin.2.2.2 k (pa' k q)⟩, pin0⟩, ?_, ⟨⟨?_, ⟨fun q hq k p => ?_, n2, fun w hw k p => ?_⟩, n4, fun z z1 z2 => n5 z z1 (fun ⟨q, hq, q1, q2⟩ => z2 ?_)⟩, bD, fun q hq x hx => ?_, hds.2⟩, ?_⟩
  · unfold TGI at tgi ⊢
    rw [etg]
    exact tgi
  · rw [erj]
    exact JSI.rt jsi t5 t6 e22 e66 wl
  · rcases List.mem_append.mp hq with z | z
    · rcases mm q z with ⟨x, e⟩ | e
      · rw [e] at p
        exact absurd p tv.site
      · rw [e] at p
        exact absurd p (tyv.site t6)
    · exact n1 q (List.mem_append_right _ z) k p
  · rcases mm w hw with ⟨x, e⟩ | e
    · rw [e] at p
      exact absurd p tv.site
    · rw [e] at p
      exact absurd p (tyv.site t6)
  · rw [erj]
    rw [List.mem_singleton.mp hq] at q2
    exact ⟨r6, List.mem_cons_self, t6, by rw [e66]; exact q2⟩
  · rcases List.mem_append.mp hq with z | z
    · rcases mm q z with ⟨y, e⟩ | e
      · rw [e] at hx
        exact absurd hx (tv.hd x)
      · rw [e] at hx
        exact absurd hx (tyv.hd t6)
    · exact hds.1 q (List.mem_append_right _ z) x hx
  intro FC SF nm X h0 ω c0 psi ng0 hc0 hh0 hω
  obtain ⟨⟨ng, hc, hh, wn⟩, mn⟩ := main FC SF nm X h0 ω c0 psi ng0 hc0 hh0 hω
  refine ⟨⟨ng, hc, hh, fun q hq hv => ?_, wn.2⟩, fun fc fg hA tyc jr => mn (fc.pl (fun y hy => by rw [etg] at hy; exact hy)) (fg.st pe' pz' py' pa' ph') hA tyc jr⟩
  rcases mm q hq with ⟨x, e⟩ | e
  · rw [e] at hv
    exact absurd hv (WGD.no (by rw [tv.v]; decide) rfl)
  · rw [e]
    obtain ⟨m1, m2, m3⟩ := (wn.1 r5 List.mem_cons_self (Or.inr ⟨t5, p5⟩)).2 t5
    exact ⟨fun z => absurd z (nvs _ (by decide)), fun _ => ⟨by rw [eo2]; exact m1, by rw [eo9]; exact m2, by rw [eo9, eo11]; exact m3.1, by rw [eo11]; exact m3.2.1, fun z => absurd z nv.1, fun z => absurd z nv.1, fun z => absurd z nv.2⟩⟩
theorem rjw.sub {q : RVW} : ∀ (W : List RVW), q ∈ rjw W → q ∈ W
  | [], h => h
  | r :: W, h => by
    by_cases c : (r.v = 213 ∨ r.v = 215 ∨ r.v = 305 ∨ r.v = 216) ∧ ¬ r.2.2.1 = 0
    · rw [rjw.y c] at h
      rcases List.mem_cons.mp h with z | z
      · rw [z]
        exact List.mem_cons_self
      · exact List.mem_cons_of_mem _ (rjw.sub W z)
    · rw [rjw.n c] at h
      exact List.mem_cons_of_mem _ (rjw.sub W h)
/-- a word of a try that is open is set -/
theorem JRG.s30 {k y : Nat} {v : Int32} (h : JRG A U B b V0 s0 W K a e S s) (hk : k = 30 ∨ k = 31 ∨ k = 32) (hy : (b.i 29).toInt ≤ (y : Int)) (hp : PTY (rjw W) y) (nd : ∀ q ∈ V0, isTyv q → ¬ (q.2.1 66).toNatClampNeg = y) : JRG A U B b V0 s0 W K a e S (RS.setA s k y v) := by
  intro crB
  obtain ⟨b1, b2, b3, b4, Ψ, G, col, YJ, sax, ⟨pin, pin0⟩, tgi, ⟨jsj, bD, hds⟩, main⟩ := h crB
  obtain ⟨u, hu⟩ : ∃ u, u = RS.setA s k y v := ⟨_, rfl⟩
  have ui : u.i = s.i := by rw [hu]; rfl
  have ua : ∀ n : Nat, n ≠ k → u.a n = s.a n := fun n hn => by rw [hu]; exact setA_nk hn
  have uk : ∀ j : Nat, j ≠ y → ∀ n : Nat, u.a n j = s.a n j := fun j hj n => by
    by_cases c : n = k
    · rw [hu, c, setA_ne hj]
    · rw [ua n c]
  rw [← hu]
  clear hu
  have pW : PTY (W ++ V0) y := by
    obtain ⟨q, hq, q1⟩ := hp
    exact ⟨q, List.mem_append_left _ (rjw.sub W hq), q1⟩
  obtain ⟨⟨k1, k2, k3, k4, k5⟩, m1, m2, m3, m4⟩ := b3
  have n21 : ∀ n : Nat, (21 ≤ n ∧ n ≤ 28) ∨ (34 ≤ n ∧ n ≤ 40) → u.a n = s.a n := fun n hn => ua n (by omega)
  refine ⟨b1, ⟨b2.1, b2.2.nk (NK.eq rfl rfl (by rw [ui]) (by rw [ui]))⟩, ⟨⟨by rw [ui]; exact k1, by rw [ui]; exact k2, by rw [ui]; exact k3, by rw [ui]; exact k4, fun q => by
    have z := k5 q
    unfold SLO at z ⊢
    rw [ui]
    exact z⟩, fun j hj => by rw [n21 21 (by omega), n21 22 (by omega), n21 23 (by omega)]; exact m1 j hj, fun j hj => by rw [n21 25 (by omega), n21 26 (by omega), n21 27 (by omega), n21 28 (by omega)]; exact m2 j hj, fun j hj => by rw [uk j (by omega), uk j (by omega), uk j (by omega)]; exact m3 j hj, fun j hj => by rw [n21 34 (by omega), n21 35 (by omega), n21 36 (by omega), n21 37 (by omega)]; exact m4 j hj⟩, ?_, Ψ, G, col, YJ, ?_, ⟨?_, pin0⟩, tgi, ⟨⟨jsj.1, jsj.2.1, fun j hj => by rw [n21 22 (by omega)]; exact jsj.2.2.1 j hj, fun z z1 z2 => by
    rw [uk z (fun w => z2 (by rw [w]; exact hp))]
    exact jsj.2.2.2 z z1 z2⟩, bD, hds.1, ?_⟩, ?_⟩
  · unfold KDC SLC SLO at b4 ⊢
    rw [ui]
    exact b4
  · unfold SAX GHM SLO at sax ⊢
    rw [ui]
    exact sax
  · unfold PIN at pin ⊢
    rw [ui]
    exact pin
  · refine ⟨hds.2.1.mv (Int.le_refl _) (Int.le_refl _) (fun _ _ => rfl) (by rw [ui]; exact Int.le_refl _) (fun j _ => by
      rw [n21 25 (by omega), n21 26 (by omega), n21 27 (by omega), n21 28 (by omega)]
      exact ⟨rfl, rfl, rfl, rfl⟩) (fun q hq z => by rw [n21 22 (by omega)]) (fun q hq z => uk _ (nd q hq z) _) (fun q hq z => uk _ (nd q hq z) _), hds.2.2.mv (by rw [ui]; exact Int.le_refl _) (by rw [ui]; exact Int.le_refl _)⟩
  intro FC SF nm X h0 ω c0 psi ng0 hc0 hh0 hω
  obtain ⟨⟨ng, hc, hh, wn⟩, mn⟩ := main FC SF nm X h0 ω c0 psi ng0 hc0 hh0 hω
  refine ⟨⟨⟨⟨fun n hn => ?_, ng.1.2.1, by rw [ui]; exact ng.1.2.2.1, ?_⟩, ng.2⟩, hc, hh, wn⟩, fun fc fg hA tyc jr => mn fc ?_ hA tyc jr⟩
  · rw [ui] at hn
    rw [n21 40 (by omega)]
    exact ng.1.1 n hn
  · have z := ng.1.2.2.2
    unfold NCB SLO at z ⊢
    rw [ui]
    exact z
  · obtain ⟨g1, g4, g5, g6, g7⟩ := fg
    rw [ui] at g1 g4 g5 g6 g7
    refine ⟨g1, fun j j1 j2 => ?_, fun j j1 j2 => ?_, fun j j1 j2 j3 => ?_, fun j j1 j2 => ?_⟩
    · have z := g4 j j1 j2
      rw [n21 21 (by omega), n21 22 (by omega), n21 23 (by omega)] at z
      exact z
    · have z := g5 j j1 j2
      rw [n21 25 (by omega), n21 26 (by omega), n21 27 (by omega), n21 28 (by omega)] at z
      exact z
    · have z := g6 j j1 j2 j3
      have ne : j ≠ y := fun w => j3 (by rw [w]; exact pW)
      rw [uk j ne, uk j ne, uk j ne] at z
      exact z
    · have z := g7 j j1 j2
      rw [n21 34 (by omega), n21 35 (by omega), n21 36 (by omega), n21 37 (by omega)] at z
      exact z
set_option maxHeartbeats 1000000 in
/-- a try goes: its words stand, what waited at it is resolved -/
theorem JRG.cty {r6 : RVW} {σ0 σ1 u : RS} {x2 : Int32} {y : Nat} (h : JRG A U B b V0 s0 [r6] K a e S s) (t6 : isTyv r6) (e6 : rtgs r6 = [r6.1 9]) (p6 : ¬ r6.2.2.1 = 0) (nd : ∀ q ∈ V0, isTyv q → ¬ q.2.1 66 = r6.2.1 66) (nd2 : ∀ q ∈ V0, isTyv q → 0 ≤ (r6.2.1 72).toInt → ¬ q.2.1 72 = r6.2.1 72) (pl : ∀ q ∈ V0, q.2.2.1 < r6.2.2.1) (y66 : (r6.2.1 66).toInt = (y : Int) ∧ (b.i 29).toInt ≤ (y : Int)) (e0 : σ0.i 59 = s0.i 59 ∧ ∀ k : Nat, (k = 47 ∨ k = 48 ∨ k = 49 ∨ k = 50 ∨ k = 51 ∨ k = 60 ∨ k = 61 ∨ k = 62) → σ0.a k = s0.a k) (rx : RSX (r6.2.1 66) x2 0 σ0 σ1) (eu : u.i 43 = s0.i 43 ∧ u.i 59 = s0.i 59 ∧ ∀ k : Nat, (k = 47 ∨ k = 48 ∨ k = 49 ∨ k = 50 ∨ k = 51 ∨ k = 60 ∨ k = 61 ∨ k = 62) → u.a k = σ1.a k) (du : D52 s u) (n38 : u.i 38 = s.i 38 ∧ u.a 40 = s.a 40 ∧ u.i 52 = s.i 52) (l11 : (s0.i 11).toInt ≤ (u.i 11).toInt) (l19 : (s0.i 19).toInt ≤ (u.i 19).toInt) (wts : ∀ i : Nat, WTS σ0 i → ∀ r ∈ V0, isGo r.v → (σ0.a 60 i).toInt = ((r.2.2.2 : Nat) : Int) → ∃ r3 ∈ V0, isTyv r3 ∧ isWl r3.v ∧ σ0.a 57 ((σ0.i 56).toInt - 1).toNat = r3.2.1 66 ∧ r.2.2.1 < r3.2.2.1) (x31 : x2 = 0 → 0 ≤ (u.a 31 y).toInt) : JRG A U B b V0 u (tvs [r6.1 9]) (fun FC SF nm X ω j Z => ((U.a 30 y = u.a 30 y ∧ U.a 31 y = u.a 31 y ∧ U.a 32 y = u.a 32 y) ∧ (0 ≤ (r6.2.1 72).toInt → U.a 37 (r6.2.1 72).toNatClampNeg = u.a 37 (r6.2.1 72).toNatClampNeg) ∧ (FC y ↔ ¬ x2 = 0)) ∧ K FC SF nm X ω j Z) a e S u := by
  intro crB
  obtain ⟨b1, b2, b3, b4, Ψ, G, col, YJ, sax, ⟨pin, pin0⟩, tgi, ⟨jsj, bD, hds⟩, main⟩ := h crB
  have erj : rjw [r6] = [r6] := rjw.y ⟨show isTy r6.v from t6, p6⟩
  have mt : ∀ {P : RVW → Prop}, (∀ x : Int32, ¬ P (tv x)) → (∃ q ∈ tvs [r6.1 9] ++ V0, P q) → ∃ q ∈ V0, P q := fun {P} hP ⟨q, hq, p⟩ => by
    rcases List.mem_append.mp hq with z | z
    · obtain ⟨x, e⟩ := tvs.mem _ z
      rw [e] at p
      exact absurd p (hP x)
    · exact ⟨q, z, p⟩
  have up : ∀ {P : RVW → Prop}, (∃ q ∈ V0, P q) → ∃ q ∈ [r6] ++ V0, P q := fun {P} ⟨q, hq, p⟩ => ⟨q, List.mem_append_right _ hq, p⟩
  have pe0 : ∀ k : Nat, PEN (tvs [r6.1 9] ++ V0) col k → PEN V0 col k := fun k p => p.imp_right (fun z => mt (P := fun q => rsite q k) (fun x => tv.site) z)
  have ph0 : ∀ k : Nat, PCH (tvs [r6.1 9] ++ V0) k → PCH V0 k := fun k p => mt (P := fun q => (q.v = 218 ∨ q.v = 995) ∧ (k : Int) = (q.2.1 66).toInt) (fun x z => absurd z.1 (by rw [tv.v]; decide)) p
  have pz0 : ∀ k : Nat, PCZ (tvs [r6.1 9] ++ V0) k → PCZ V0 k := fun k p => mt (P := fun q => q.v = 218 ∧ (k : Int) = (q.2.1 67).toInt) (fun x z => absurd z.1 (by rw [tv.v]; decide)) p
  have py0 : ∀ k : Nat, PTY (tvs [r6.1 9] ++ V0) k → PTY V0 k := fun k p => mt (P := fun q => isTyv q ∧ (k : Int) = (q.2.1 66).toInt) (fun x z => absurd z.1 tv.ty) p
  have pa0 : ∀ k : Nat, PCA (tvs [r6.1 9] ++ V0) k → PCA V0 k := fun k p => mt (P := fun q => isTyv q ∧ (k : Int) = (q.2.1 72).toInt) (fun x z => absurd z.1 tv.ty) p
  have npt : ¬ PTY (tvs [r6.1 9] ++ V0) y := fun p => by
    obtain ⟨q, hq, q1, q2⟩ := py0 y p
    exact nd q hq q1 (Int32.toInt_inj.mp (by omega))
  have p6y : PTY ([r6] ++ V0) y := ⟨r6, List.mem_cons_self, t6, y66.1.symm⟩
  have y29 : (y : Int) < (u.i 29).toInt := by
    rw [du.1.2.2.1]
    exact pin.2.2.1 y p6y
  have etg : ptl (tvs [r6.1 9] ++ V0) = ptl ([r6] ++ V0) := by
    rw [ptl.app, tvs_ptl]
    show _ = rtgs r6 ++ ptl V0
    rw [e6]
  have sax1 : SAX ([r6] ++ V0) Ψ B b S u := sax.d (D38.rf S) du
  obtain ⟨jsi, ⟨n1, n2, n3⟩, n4, n5⟩ := jsj
  rw [erj] at jsi n5
  have js : JSI (fun FC nm => Ψ FC nm ∧ (FC y ↔ ¬ x2 = 0)) V0 col YJ b u := JSI.rsv jsi t6 nd pl ⟨y66.1, y66.2, y29⟩ e0 rx eu (by rw [du.1.1]; exact b4.1.1) (by rw [du.1.2.2.1]; exact b4.1.2.2.1) (fun j hj => by rw [du.2.2.1]; exact n4 j hj) (fun z z1 z2 => by
    rw [du.2.2.2.2.2.2.2.2.2.1]
    exact n5 z z1 (fun ⟨q, hq, p⟩ => z2 ⟨q, List.mem_append_left _ hq, p⟩)) (fun _ _ q => q.1) wts (fun z => ⟨x31 z, fun FC nm q f => q.2.mp f z⟩)
  have pinu : PIN (tvs [r6.1 9] ++ V0) col s := ⟨fun k q => pin.1 k ((pe0 k q).imp_right up), fun k q => pin.2.1 k (up (pz0 k q)), fun k q => pin.2.2.1 k (up (py0 k q)), fun k q => pin.2.2.2 k (up (pa0 k q))⟩
  have pinV : PIN V0 col s := ⟨fun k q => pin.1 k (q.imp_right up), fun k q => pin.2.1 k (up q), fun k q => pin.2.2.1 k (up q), fun k q => pin.2.2.2 k (up q)⟩
  refine ⟨b1, ⟨b2.1, b2.2.nk (NK.eq rfl rfl n38.2.2 n38.1)⟩, b3.d du, KDC.rf _, (fun FC nm => Ψ FC nm ∧ (FC y ↔ ¬ x2 = 0)), G, col, YJ, ?_, ⟨pinu.d du, pinV.d du⟩, ?_, ⟨⟨by rw [tvs.rj]; exact js, ⟨fun q hq k p => ?_, n2, fun w hw k p => ?_⟩, fun _ _ => rfl, fun _ _ _ => rfl⟩, bD, fun q hq x hx => ?_, hds.2.d (D38.rf S) du⟩, ?_⟩
  · intro sl
    obtain ⟨g1, F, M, g2, g3⟩ := sax1 sl
    refine ⟨⟨g1.1, fun k p => g1.2 k (up (pa0 k p))⟩, fun z => if z = y then ¬ x2 = 0 else F z, M, g2, fun FC nm w => ⟨g3 FC nm ⟨fun z z1 z2 z3 => ?_, w.2⟩, ?_⟩⟩
    · have ne : ¬ z = y := fun c => z3 (by rw [c]; exact p6y)
      have q : FC z ↔ (if z = y then ¬ x2 = 0 else F z) := w.1 z z1 z2 (fun p => z3 (up (py0 z p)))
      rw [if_neg ne] at q
      exact q
    · have q : FC y ↔ (if y = y then ¬ x2 = 0 else F y) := w.1 y y66.2 y29 npt
      rw [if_pos rfl] at q
      exact q
  · unfold TGI at tgi ⊢
    rw [etg]
    exact tgi
  · rcases List.mem_append.mp hq with z | z
    · obtain ⟨x, e⟩ := tvs.mem _ z
      rw [e] at p
      exact absurd p tv.site
    · exact n1 q (List.mem_append_right _ z) k p
  · obtain ⟨x, e⟩ := tvs.mem _ hw
    rw [e] at p
    exact absurd p tv.site
  · rcases List.mem_append.mp hq with z | z
    · obtain ⟨x', e⟩ := tvs.mem _ z
      rw [e] at hx
      exact absurd hx (tv.hd x)
    · exact hds.1 q (List.mem_append_right _ z) x hx
  intro FC SF nm X h0 ω c0 psi ng0 hc0 hh0 hω
  obtain ⟨⟨ng, hc, hh, wn⟩, mn⟩ := main FC SF nm X h0 ω c0 psi.1 ng0 hc0 hh0 hω
  refine ⟨⟨⟨⟨fun k hk => ?_, ng.1.2.1, by rw [n38.2.2]; exact ng.1.2.2.1, ng.1.2.2.2.d (D38.rf S) du⟩, Int.le_trans ng.2 l19⟩, hc, Int.le_trans hh l11, fun q hq hv => ?_, ?_⟩, fun fc fg hA tyc jr => ⟨⟨?_, fun z => ?_, psi.2⟩, mn (fc.pl (fun y hy => by rw [etg] at hy; exact hy)) ((fg.d du).st (fun k q => (pe0 k q).imp_right up) (fun k q => up (pz0 k q)) (fun k q => up (py0 k q)) (fun k q => up (pa0 k q)) (fun k q => up (ph0 k q))) hA tyc jr⟩⟩
  · rw [n38.1] at hk
    rw [n38.2.1]
    exact ng.1.1 k hk
  · obtain ⟨x, e⟩ := tvs.mem _ hq
    rw [e] at hv
    exact absurd hv (WGD.no (by rw [tv.v]; decide) rfl)
  · exact wn.2.mv V0 (fun q hq go => by
      rw [eu.2.2 47 (by decide), rx.1.2.2.2 47 (by decide) (by decide) (by decide), e0.2 47 (by decide)]) l11
  · exact fg.2.2.2.1 y y66.2 y29 npt
  · have ck := clampI z
    refine (fg.2.2.2.2 _ ((sax ng0.2.2.2.2.1).1.2 _ ⟨r6, List.mem_cons_self, t6, ck⟩) ?_).2.2.2 (fun p => ?_)
    · rw [du.1.2.2.2.1]
      exact pin.2.2.2 _ ⟨r6, List.mem_cons_self, t6, ck⟩
    · obtain ⟨q, hq, q1, q2⟩ := pa0 _ p
      exact nd2 q hq q1 z (Int32.toInt_inj.mp (by omega))
end
