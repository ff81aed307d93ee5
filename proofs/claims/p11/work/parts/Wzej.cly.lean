/-! both readers: a try's row closes -/
/-- what is known when a try's block ends -/
def KTY (U : RS) (r : RVW) (g : Nat × Nat × List (Int32 × Nat)) (S : CS) (s : RS) : JKT := fun FC SF nm X ω j Z => ((r.1 2).toInt = (frs j.c : Int) ∧ NT5 (r.1 9) ∧ TGT3 r) ∧ HC0 nm j.h (jen (fun _ => g) ω r j.h j.l ++ j.c) ∧ (TRH FC SF U nm X (fun _ => g) ω r j → JCU FC SF U nm X (fun _ => g) ω r j S s → Z)
theorem jen.cg {G : GHT} {ω h l : Nat} {r : RVW} {g : Nat × Nat × List (Int32 × Nat)} (e : G r.2.2.1 = g) : jen G ω r h l = jen (fun _ => g) ω r h l := by
  unfold jen
  rw [e]
theorem TRH.cg {FC : Nat → Prop} {SF : CS} {U : RS} {nm : Nat → Nat → Prop} {X : Als} {G : GHT} {ω : Nat} {r : RVW} {j : JCT} {g : Nat × Nat × List (Int32 × Nat)} (e : G r.2.2.1 = g) (h : TRH FC SF U nm X (fun _ => g) ω r j) : TRH FC SF U nm X G ω r j := by
  unfold TRH HRB at h ⊢
  rw [jen.cg e, e]
  exact h
theorem JCU.cg {FC : Nat → Prop} {SF : CS} {U : RS} {nm : Nat → Nat → Prop} {X : Als} {G : GHT} {ω : Nat} {r : RVW} {j : JCT} {g : Nat × Nat × List (Int32 × Nat)} {S : CS} {s : RS} (e : G r.2.2.1 = g) (h : JCU FC SF U nm X (fun _ => g) ω r j S s) : JCU FC SF U nm X G ω r j S s := by
  unfold JCU at h ⊢
  rw [jen.cg e]
  exact h
theorem tyv.site {r : RVW} (h : isTyv r) {k : Nat} : ¬ rsite r k := fun z => by
  have h' : isTy r.v := h
  unfold rsite at z
  unfold isTy at h'
  rcases h' with q | q | q | q <;> rw [q] at z <;> rcases z with ⟨z, -⟩ | ⟨z, -⟩ | ⟨z, -⟩ | ⟨z, -⟩ <;> exact absurd z (by decide)
theorem tyv.hd {r : RVW} (h : isTyv r) {x : Int32} : ¬ rhd r x := fun z => by
  have h' : isTy r.v := h
  unfold rhd at z
  unfold isTy at h'
  rcases h' with q | q | q | q <;> rw [q] at z <;> rcases z with ⟨z, -⟩ | ⟨z, -⟩ | ⟨z, -⟩ <;> exact absurd z (by decide)
theorem tyv.go {r : RVW} (h : isTyv r) : ¬ isGo r.v := fun z => by
  have h' : isTy r.v := h
  unfold isTy at h'
  unfold isGo at z
  rcases h' with q | q | q | q <;> rw [q] at z <;> exact absurd z (by decide)
theorem tyv.jrh {FC : Nat → Prop} {SF : CS} {U : RS} {nm : Nat → Nat → Prop} {X : Als} {G : GHT} {col : Nat → Option (Nat × Bool)} {YJ : Nat → List Nat} {ω : Nat} {r : RVW} {j : JCT} (h : isTyv r) (z : TRH FC SF U nm X G ω r j) : JRH FC SF U nm X G col YJ ω r j := by
  have ng := tyv.go h
  have h' : isTy r.v := h
  unfold isTy at h'
  have nv : ∀ v : Int32, ¬ (v = 213 ∨ v = 215 ∨ v = 305 ∨ v = 216) → ¬ r.v = v := fun v hv q => hv (by rw [← q]; exact h')
  exact ⟨fun q => absurd q (nv _ (by decide)), fun q => absurd q (nv _ (by decide)), fun q => absurd q (nv _ (by decide)), fun q => absurd q (nv _ (by decide)), fun q => absurd q (nv _ (by decide)), fun q => absurd q (nv _ (by decide)), fun q => absurd q (nv _ (by decide)), fun _ => z, fun q => absurd q ng⟩
theorem tvs.rjw : ∀ (l : List Int32) (W : List RVW), rjw (tvs l ++ W) = rjw W
  | [], _ => rfl
  | x :: l, W => (tv.rj x (tvs l ++ W)).trans (tvs.rjw l W)
theorem JSI.rt {Ψ : GPS} {V : List RVW} {r r' : RVW} {col : Nat → Option (Nat × Bool)} {YJ : Nat → List Nat} {b s : RS} (h : JSI Ψ (r :: V) col YJ b s) (ty : isTyv r) (ty' : isTyv r') (e2 : r'.2.2 = r.2.2) (e66 : r'.2.1 66 = r.2.1 66) (wl : isWl r'.v → isWl r.v) : JSI Ψ (r' :: V) col YJ b s := by
  obtain ⟨h1, h2, h3, h4⟩ := h
  have pt : ∀ y : Nat, PTY (r' :: V) y → PTY (r :: V) y := fun y p => by
    obtain ⟨q, hq, q1, q2⟩ := p
    rcases List.mem_cons.mp hq with z | z
    · rw [z, e66] at q2
      exact ⟨r, List.mem_cons_self, ty, q2⟩
    · exact ⟨q, List.mem_cons_of_mem _ z, q1, q2⟩
  refine ⟨fun q hq go => ?_, fun j g k hc => ?_, fun q hq k p => ?_, fun k p => absurd p (tyv.site ty'), h4.2⟩
  · rcases List.mem_cons.mp hq with z | z
    · rw [z] at go
      exact absurd go (tyv.go ty')
    · exact h1 q (List.mem_cons_of_mem _ z) go
  · obtain ⟨z1, q, hq, gq, eq, z3⟩ := h2 j g k hc
    have hq' : q ∈ V := (List.mem_cons.mp hq).resolve_left (fun z => by rw [z] at gq; exact tyv.go ty gq.1)
    refine ⟨z1, q, List.mem_cons_of_mem _ hq', gq, eq, ?_⟩
    rcases z3 with z3 | ⟨i, i1, i2, i3, r2, hr2, i4, i5, i6, i7, i8⟩ | ⟨w, hw, w1, w2, w3, w4⟩
    · exact Or.inl z3
    · have i8' : ∀ r3 ∈ r' :: V, isWl r3.v → q.2.2.1 < r3.2.2.1 → r3.2.2.1 < r2.2.2.1 → (r3.2.1 66).toNatClampNeg ∈ YJ j := fun r3 hr3 w1 w2 w3 => by
        rcases List.mem_cons.mp hr3 with z | z
        · rw [z] at w1 w2 w3 ⊢
          rw [e2] at w2 w3
          rw [e66]
          exact i8 r List.mem_cons_self (wl w1) w2 w3
        · exact i8 r3 (List.mem_cons_of_mem _ z) w1 w2 w3
      rcases List.mem_cons.mp hr2 with z | z
      · rw [z] at i4 i5 i6 i7 i8'
        exact Or.inr (Or.inl ⟨i, i1, i2, i3, r', List.mem_cons_self, ty', by rw [e2]; exact i5, by rw [e66]; exact i6, by rw [e66]; exact i7, fun r3 hr3 w1 w2 w3 => i8' r3 hr3 w1 w2 (by rw [e2] at w3; exact w3)⟩)
      · exact Or.inr (Or.inl ⟨i, i1, i2, i3, r2, List.mem_cons_of_mem _ z, i4, i5, i6, i7, i8'⟩)
    · exact Or.inr (Or.inr ⟨w, hw, w1, fun p => w2 (pt w p), w3, w4⟩)
  · rcases List.mem_cons.mp hq with z | z
    · rw [z] at p
      exact absurd p (tyv.site ty')
    · exact h3 q (List.mem_cons_of_mem _ z) k p
section
variable {A : JBA} {U : RS} {B : CS} {b : RS} {V : List RVW} {r r' : RVW} {S S' : CS} {s u' : RS} {tl : List Int32}
set_option maxHeartbeats 2000000 in
/-- a try's block ends: its row waits, relabelled -/
theorem JRW.cly (crB : CRQB B) (h : JRW A U B b (r :: V) S s) (n8' : N8 B b (r :: V) S s → N8 B b V S' u') (r0 : ¬ r.2.2.1 = 0) (ty : r.v = 213 ∨ r.v = 215 ∨ r.v = 216) (ty' : (¬ r.v = 216 ∧ r'.v = 305) ∨ (r.v = 216 ∧ r'.v = 216)) (e2 : r'.2.2 = r.2.2 ∧ r'.2.1 66 = r.2.1 66 ∧ r'.2.1 72 = r.2.1 72 ∧ r'.1 2 = r.1 2 ∧ r'.1 9 = r.1 9 ∧ r'.1 11 = r.1 11) (etl : rtgs r = tl ++ rtgs r') (dS : D38 S S') (du : D52 s u') (e19 : (u'.i 19 = s.i 19 ∨ (b.i 19).toInt + (sfr V : Int) ≤ (u'.i 19).toInt) ∧ u'.i 11 = s.i 11 ∧ u'.i 43 = s.i 43 ∧ u'.i 59 = s.i 59) (eA : ∀ k : Nat, 47 ≤ k → k ≤ 62 → u'.a k = s.a k) (hN : ∀ (nm : Nat → Nat → Prop) (G : GHT) (ω : Nat) (j : JCT), (r.v = 215 → NB4 (G r.2.2.1).2.1 r) → NMG nm (jen G ω r j.h j.l ++ j.c) S s → HC0 nm j.h (jen G ω r j.h j.l ++ j.c) → NMH nm j.c S' u' ∧ HC0 nm j.h j.c) {e dr : Int} (hdr : dr ≤ 1 ∧ (r.v = 216 → dr ≤ 0)) (h1 : e = 1 ∨ (e = 0 ∧ ALN (S.i 43))) : ∃ g : Nat × Nat × List (Int32 × Nat), ((r.v = 215 → (g.2.2.length = 0 ∨ 3 * (g.2.2.length : Int) + 3 ≤ (s.i 11).toInt) ∧ ∀ z ∈ g.2.2, ((z.2 : Nat) : Int) ≤ (S.i 20).toInt) ∧ (r.v = 216 → (s.a 31 (r.2.1 66).toNatClampNeg).toInt = (g.1 : Int)) ∧ (¬ r.v = 216 → (s.a 31 (r.2.1 66).toNatClampNeg).toInt < 0) ∧ (r.v = 215 ∨ r.v = 216 → ∀ z ∈ g.2.2, s.a 30 (r.2.1 66).toNatClampNeg = z.1)) ∧ JRG A U B b V u' (tvs tl ++ [r']) (KTY U r g S s) (-dr) e S' u' := by
  obtain ⟨⟨eB, hB1, b1⟩, ⟨b2, n8⟩, b3, Ψ, G, col, YJ, sax, pin, tgi, ⟨jsi, ⟨eD, hD1, bD⟩, hds⟩, main⟩ := h crB
  have leD : ∀ x : Int, (x = 0 ∨ (x = 1 ∧ ¬ ALN (S.i 43))) → x ≤ e := fun x hx => by
    rcases hx with z | ⟨z, z'⟩ <;> rcases h1 with q | ⟨q, q'⟩
    · omega
    · omega
    · omega
    · exact absurd q' z'
  obtain ⟨e22, e66, e72, eo2, eo9, eo11⟩ := e2
  have tyr : isTyv r := by
    show isTy r.v
    rcases ty with z | z | z
    · exact Or.inl z
    · exact Or.inr (Or.inl z)
    · exact Or.inr (Or.inr (Or.inr z))
  have tyr' : isTyv r' := by
    show isTy r'.v
    rcases ty' with ⟨-, z⟩ | ⟨-, z⟩
    · exact Or.inr (Or.inr (Or.inl z))
    · exact Or.inr (Or.inr (Or.inr z))
  have df : dfr r.v = 1 := by
    unfold dfr
    exact if_pos (Or.inr ty)
  have wl : isWl r'.v → isWl r.v := fun z => by
    rcases ty' with ⟨q, -⟩ | ⟨-, q⟩
    · rcases ty with w | w | w
      · exact Or.inl w
      · exact Or.inr (Or.inl w)
      · exact absurd w q
    · rw [q] at z
      unfold isWl at z
      exact absurd z (by decide)
  have js : JSI Ψ (r' :: V) col YJ b s := jsi.rt tyr tyr' e22 e66 wl
  have n0' : ¬ r'.2.2.1 = 0 := by rw [e22]; exact r0
  have erj : rjw (tvs tl ++ [r']) = [r'] := (tvs.rjw tl [r']).trans (rjw.y ⟨show isTy r'.v from tyr', n0'⟩)
  -- what waits
  have mm : ∀ q : RVW, q ∈ tvs tl ++ [r'] → (∃ x : Int32, q = tv x) ∨ q = r' := fun q hq => by
    rcases List.mem_append.mp hq with z | z
    · exact Or.inl (tvs.mem _ z)
    · exact Or.inr (List.mem_singleton.mp z)
  have mt : ∀ {P : RVW → Prop}, (∀ x : Int32, ¬ P (tv x)) → (P r' → P r) → (∃ q ∈ tvs tl ++ [r'] ++ V, P q) → ∃ q ∈ r :: V, P q := fun {P} hP hr ⟨q, hq, p⟩ => by
    rcases List.mem_append.mp hq with z | z
    · rcases mm q z with ⟨x, e⟩ | e
      · rw [e] at p
        exact absurd p (hP x)
      · rw [e] at p
        exact ⟨r, List.mem_cons_self, hr p⟩
    · exact ⟨q, List.mem_cons_of_mem _ z, p⟩
  have pe' : ∀ k : Nat, PEN (tvs tl ++ [r'] ++ V) col k → PEN (r :: V) col k := fun k p => by
    rcases p with p | p
    · exact Or.inl p
    · exact Or.inr (mt (P := fun q => rsite q k) (fun x => tv.site) (fun z => absurd z (tyv.site tyr')) p)
  have nv' : ¬ (r'.v = 218 ∨ r'.v = 995) := by
    rcases ty' with ⟨-, z⟩ | ⟨-, z⟩ <;> rw [z] <;> decide
  have ph' : ∀ k : Nat, PCH (tvs tl ++ [r'] ++ V) k → PCH (r :: V) k := fun k p => mt (P := fun q => (q.v = 218 ∨ q.v = 995) ∧ (k : Int) = (q.2.1 66).toInt) (fun x z => absurd z.1 (by rw [tv.v]; decide)) (fun z => absurd z.1 nv') p
  have pz' : ∀ k : Nat, PCZ (tvs tl ++ [r'] ++ V) k → PCZ (r :: V) k := fun k p => mt (P := fun q => q.v = 218 ∧ (k : Int) = (q.2.1 67).toInt) (fun x z => absurd z.1 (by rw [tv.v]; decide)) (fun z => absurd (Or.inl z.1) nv') p
  have py' : ∀ k : Nat, PTY (tvs tl ++ [r'] ++ V) k → PTY (r :: V) k := fun k p => mt (P := fun q => isTyv q ∧ (k : Int) = (q.2.1 66).toInt) (fun x z => absurd z.1 tv.ty) (fun z => ⟨tyr, by rw [← e66]; exact z.2⟩) p
  have pa' : ∀ k : Nat, PCA (tvs tl ++ [r'] ++ V) k → PCA (r :: V) k := fun k p => mt (P := fun q => isTyv q ∧ (k : Int) = (q.2.1 72).toInt) (fun x z => absurd z.1 tv.ty) (fun z => ⟨tyr, by rw [← e72]; exact z.2⟩) p
  have gk : GKV (r' :: V) s u' := ⟨fun q hq go => by
    have z := (js.1 q hq go).1
    rw [eA 50 (by decide) (by decide), eA 51 (by decide) (by decide), eA 48 (by decide) (by decide), eA 49 (by decide) (by decide), eA 47 (by decide) (by decide)]
    exact ⟨by rw [e19.2.2.1]; exact z, rfl, rfl, rfl, rfl, rfl⟩, by rw [e19.2.2.2]; exact Int.le_refl _, fun j _ => by
    rw [eA 60 (by decide) (by decide), eA 61 (by decide) (by decide), eA 62 (by decide) (by decide)]
    exact ⟨rfl, rfl, rfl⟩⟩
  have js' : JSI Ψ (r' :: V) col YJ b u' := js.mw gk (by rw [du.1.1]; exact Int.le_refl _) (by rw [du.1.2.2.1]; exact Int.le_refl _) (fun j _ => by rw [du.2.2.1]) (fun w _ _ => by rw [du.2.2.2.2.2.2.2.2.2.1]) (fun _ _ q => q)
  have pinu : PIN (tvs tl ++ [r'] ++ V) col s := ⟨fun k q => pin.1 k (pe' k q), fun k q => pin.2.1 k (pz' k q), fun k q => pin.2.2.1 k (py' k q), fun k q => pin.2.2.2 k (pa' k q)⟩
  have pinV : PIN V col s := ⟨fun k q => pin.1 k (q.elim Or.inl (fun ⟨w, hw, p⟩ => Or.inr ⟨w, List.mem_cons_of_mem _ hw, p⟩)), fun k ⟨w, hw, p⟩ => pin.2.1 k ⟨w, List.mem_cons_of_mem _ hw, p⟩, fun k ⟨w, hw, p⟩ => pin.2.2.1 k ⟨w, List.mem_cons_of_mem _ hw, p⟩, fun k ⟨w, hw, p⟩ => pin.2.2.2 k ⟨w, List.mem_cons_of_mem _ hw, p⟩⟩
  have etg : ptl (tvs tl ++ [r'] ++ V) = ptl (r :: V) := by
    rw [ptl.app, ptl.app, tvs_ptl]
    show (tl ++ (rtgs r' ++ [])) ++ ptl V = rtgs r ++ ptl V
    rw [List.append_nil, ← etl]
  have tgu : TGI B (tvs tl ++ [r'] ++ V) S := by
    unfold TGI at tgi ⊢
    rw [etg]
    exact tgi
  have swt : SWT (b.i 24).toInt G V S' u' := SWT.d ⟨fun q hq => hds.2.1 q (List.mem_cons_of_mem _ hq), fun q hq => hds.2.2 q (List.mem_cons_of_mem _ hq)⟩ dS du
  have dbe : DB G (r :: V) = DB G V + dbr (G r.2.2.1) r.v := rfl
  have dge := DB.ge G V
  have hdr' : dr ≤ dbr (G r.2.2.1) r.v := by
    unfold dbr
    rcases ty with z | z | z
    · rw [if_pos (Or.inr (Or.inr (Or.inr (Or.inl z))))]
      exact hdr.1
    · rw [if_pos (Or.inr (Or.inr (Or.inr (Or.inr (Or.inl z)))))]
      exact hdr.1
    · rw [if_neg (by rw [z]; decide), if_neg (by rw [z]; decide)]
      exact hdr.2 z
  -- the ghost
  obtain ⟨g, g1, g2, g3, g4, g5⟩ : ∃ g : Nat × Nat × List (Int32 × Nat), (r.v = 215 → g.2.2.length = 0 ∨ 3 * (g.2.2.length : Int) + 3 ≤ (s.i 11).toInt) ∧ (r.v = 215 → ∀ z ∈ g.2.2, ((z.2 : Nat) : Int) ≤ (S.i 20).toInt) ∧ ((r.v = 215 → 3 * ((G r.2.2.1).2.2.length : Int) + 3 ≤ (s.i 11).toInt) → G r.2.2.1 = g) ∧ g.1 = (G r.2.2.1).1 ∧ (r.v = 215 ∨ r.v = 216 → ∀ z ∈ g.2.2, s.a 30 (r.2.1 66).toNatClampNeg = z.1) := by
    by_cases st : r.v = 215 → 3 * ((G r.2.2.1).2.2.length : Int) + 3 ≤ (s.i 11).toInt
    · exact ⟨G r.2.2.1, fun z => Or.inr (st z), (hds.2.1 r List.mem_cons_self).2.2.1, fun _ => rfl, rfl, (hds.2.1 r List.mem_cons_self).2.2.2.2.2⟩
    · exact ⟨((G r.2.2.1).1, 0, []), fun _ => Or.inl rfl, fun _ z hz => absurd hz List.not_mem_nil, fun z => absurd z st, rfl, fun _ z hz => absurd hz List.not_mem_nil⟩
  refine ⟨g, ⟨fun z => ⟨g1 z, g2 z⟩, fun z => by rw [g4]; exact (hds.2.1 r List.mem_cons_self).2.1 z, fun z => (hds.2.1 r List.mem_cons_self).2.2.2.2.1 tyr z, g5⟩, fun _ => ⟨(bD.d dS).wk (by omega) (leD _ hD1), ⟨fun k k1 k2 => by rw [dS.2.2.2.1]; exact b2 k k1 k2, n8' n8⟩, b3.d du, KDC.rf _, Ψ, G, col, YJ, (SAX.mo py' pa' sax).d dS du, ⟨pinu.d du, pinV.d du⟩, tgu.d dS, ⟨⟨by rw [erj]; exact js', ⟨fun q hq k p => ?_, jsi.2.2.2.2, fun w hw k p => ?_⟩, fun _ _ => rfl, fun _ _ _ => rfl⟩, (bD.d dS).wk (by omega) (leD _ hD1), fun q hq x hx => ?_, swt⟩, ?_⟩⟩
  · rcases List.mem_append.mp hq with z | z
    · rcases mm q z with ⟨x, e⟩ | e
      · rw [e] at p
        exact absurd p tv.site
      · rw [e] at p
        exact absurd p (tyv.site tyr')
    · exact jsi.2.2.1 q (List.mem_cons_of_mem _ z) k p
  · rcases mm w hw with ⟨x, e⟩ | e
    · rw [e] at p
      exact absurd p tv.site
    · rw [e] at p
      exact absurd p (tyv.site tyr')
  · rw [dS.2.2.2.1, dS.1.2.1, dS.1.1]
    rcases List.mem_append.mp hq with z | z
    · rcases mm q z with ⟨y, e⟩ | e
      · rw [e] at hx
        exact absurd hx (tv.hd x)
      · rw [e] at hx
        exact absurd hx (tyv.hd tyr')
    · exact hds.1 q (List.mem_cons_of_mem _ z) x hx
  intro FC SF nm X h0 ω c0' psi ng0 hc0 hh0 hω
  obtain ⟨⟨ng, hc, hh, dp⟩, mn⟩ := main FC SF nm X h0 ω c0' psi ng0 hc0 hh0 hω
  have eg : G r.2.2.1 = g := g3 (fun z => (dp.1.2.2.2 z).1)
  have e1 : JCX G ω h0 c0' (r :: V) = ((JCX G ω h0 c0' V).h, (JCX G ω h0 c0' V).l + jlv r.v, jty r.v ((JCX G ω h0 c0' V).l + jlv r.v) (JCX G ω h0 c0' V).t, jen G ω r (JCX G ω h0 c0' V).h (JCX G ω h0 c0' V).l ++ (JCX G ω h0 c0' V).c) := rfl
  rw [e1] at ng hc hh
  obtain ⟨nh, hc1⟩ := hN nm G ω (JCX G ω h0 c0' V) (fun z => (dp.1.2.2.2 z).2) ng hc
  have frl : frs (JCX G ω h0 c0' V).c ≤ frs (jen G ω r (JCX G ω h0 c0' V).h (JCX G ω h0 c0' V).l ++ (JCX G ω h0 c0' V).c) := by
    rw [frs.app]
    omega
  have msl : msr (JCX G ω h0 c0' V).c ≤ msr (jen G ω r (JCX G ω h0 c0' V).h (JCX G ω h0 c0' V).l ++ (JCX G ω h0 c0' V).c) := msr.app _ _
  have hh' : ((2 * (JCX G ω h0 c0' V).h + msr (jen G ω r (JCX G ω h0 c0' V).h (JCX G ω h0 c0' V).l ++ (JCX G ω h0 c0' V).c) : Nat) : Int) ≤ (s.i 11).toInt := hh
  have fr9' : ((frs (jen G ω r (JCX G ω h0 c0' V).h (JCX G ω h0 c0' V).l ++ (JCX G ω h0 c0' V).c) : Nat) : Int) ≤ (s.i 19).toInt := ng.2.2.2.1
  have l19 : (frs (JCX G ω h0 c0' V).c : Int) ≤ (u'.i 19).toInt := by
    rcases e19.1 with z | z
    · rw [z]
      omega
    · have c1 := (JCX.cnt G ω h0 c0' V).2.1
      have c2 := ng0.2.2.2.1
      omega
  have fr2 : (r.1 2).toInt = (frs (JCX G ω h0 c0' V).c : Int) := by rw [(dp.1.2.1 df).1, (JCX.cnt G ω h0 c0' V).2.1]
  have t3 : TGT3 r := dp.1.2.2.1 tyr
  refine ⟨⟨⟨nh, l19⟩, hc1, by rw [e19.2.1]; omega, fun q hq hv => ?_, ?_⟩, fun fc fg hA tyc jr => ⟨⟨fr2, (dp.1.2.1 df).2, t3⟩, by rw [← jen.cg eg]; exact hc, fun z cu => ?_⟩⟩
  · rcases mm q hq with ⟨x, e⟩ | e
    · rw [e] at hv
      exact absurd hv (WGD.no (by rw [tv.v]; decide) rfl)
    · rw [e]
      refine ⟨fun z => ?_, fun _ => ⟨by rw [eo2]; exact fr2, by rw [eo9]; exact (dp.1.2.1 df).2, by rw [eo9, eo11]; exact t3.1, by rw [eo11]; exact t3.2.1, fun z => ?_, fun z => ?_, fun z => ?_⟩⟩
      all_goals
        exfalso
        rcases ty' with ⟨-, w⟩ | ⟨-, w⟩ <;> rw [w] at z <;> exact absurd z (by decide)
  · exact dp.2.mv V (fun q hq go => by rw [eA 47 (by decide) (by decide)]) (by rw [e19.2.1]; exact Int.le_refl _)
  · have fcS : FGD (r :: V) B S SF := (fc.d dS).pl (fun y hy => by rw [etg] at hy; exact hy)
    have fgs : FGP (r :: V) col b s U := (fg.d du).st pe' pz' py' pa' ph'
    have y := mn fcS fgs hA tyc ⟨tyv.jrh tyr (TRH.cg eg z), jr⟩ (JCU.cg eg cu)
    exact ⟨y.1, y.2.2⟩
end
