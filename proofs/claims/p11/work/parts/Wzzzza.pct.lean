/-! both readers: a catch is pushed -/
/-- no name has these cells, none these slots -/
def GNS (S R : CS) (s u : RS) : GPS := fun _ nm => ∀ k l : Nat, ((S.i 23).toInt ≤ (k : Int) ∧ (k : Int) < (R.i 23).toInt) ∨ ((s.i 42).toInt ≤ (l : Int) ∧ (l : Int) < (u.i 42).toInt) → ¬ nm k l
/-- what a catch's head changes: the try y, its last catch z, new catches -/
def DCT (y : Nat) (z : Int) (s u : RS) : Prop := (u.i 20 = s.i 20 ∧ u.i 24 = s.i 24 ∧ u.i 29 = s.i 29 ∧ (s.i 33).toInt ≤ (u.i 33).toInt) ∧ (u.a 21 = s.a 21 ∧ u.a 22 = s.a 22 ∧ u.a 23 = s.a 23) ∧ (u.a 25 = s.a 25 ∧ u.a 26 = s.a 26 ∧ u.a 27 = s.a 27 ∧ u.a 28 = s.a 28) ∧ (u.a 31 = s.a 31 ∧ u.a 32 = s.a 32 ∧ ∀ j : Nat, ¬ j = y → u.a 30 j = s.a 30 j) ∧ ∀ j : Nat, (j : Int) < (s.i 33).toInt → u.a 34 j = s.a 34 j ∧ u.a 35 j = s.a 35 j ∧ u.a 36 j = s.a 36 j ∧ (¬ (j : Int) = z → u.a 37 j = s.a 37 j)
/-- what is known of the new catches -/
def TCCH (U s u : RS) (r r6 : RVW) : Prop := (∀ j : Nat, (s.i 33).toInt ≤ (j : Int) → (j : Int) < (u.i 33).toInt → U.a 34 j = u.a 34 j ∧ U.a 35 j = u.a 35 j ∧ U.a 36 j = u.a 36 j ∧ (¬ (j : Int) = (r.2.1 72).toInt → U.a 37 j = u.a 37 j)) ∧ (0 ≤ (r6.2.1 72).toInt → U.a 37 (r6.2.1 72).toNatClampNeg = u.a 37 (r6.2.1 72).toNatClampNeg)
section
variable {A : JBA} {U : RS} {B : CS} {b : RS} {V0 : List RVW} {s0 : RS} {K : JKT} {a e : Int} {R0 R : CS} {u0 u : RS} {r r6 : RVW} {tl : List Int32} {y : Nat}
set_option maxHeartbeats 4000000 in
theorem JRG.pct (gv : Nat × Nat × List (Int32 × Nat)) (n8' : N8 B b V0 R0 u0 → N8 B b (r :: V0) R u) (dR : D38 (CS.setI R0 23 (R.i 23)) R) (i23 : (R.i 23).toInt = (R0.i 23).toInt + 1) (du : DCT y (r6.2.1 72).toInt u0 u) (h : JRG A U B b V0 s0 (tvs tl ++ [r6]) K a e R0 u0) (ty : r.v = 215) (t6 : isTyv r6) (p6 : ¬ r6.2.2.1 = 0) (wl : isWl r.v → isWl r6.v) (e2 : r.2.2 = r6.2.2 ∧ r.2.1 66 = r6.2.1 66 ∧ r.1 2 = r6.1 2 ∧ r.1 9 = r6.1 9 ∧ r.1 11 = r6.1 11) (n33 : 0 ≤ (u0.i 33).toInt) (n72 : (u0.i 33).toInt ≤ (r.2.1 72).toInt ∧ (r.2.1 72).toInt < (u.i 33).toInt) (h44 : (R0.i 44).toInt ≤ 900) (la : a ≤ -1) (le : e + 2 ≤ 0) (eJ : u.i 43 = s0.i 43 ∧ u.i 59 = s0.i 59 ∧ ∀ k : Nat, (k = 47 ∨ k = 48 ∨ k = 49 ∨ k = 50 ∨ k = 51 ∨ k = 60 ∨ k = 61 ∨ k = 62) → u.a k = s0.a k) (l19 : (s0.i 19).toInt ≤ (u.i 19).toInt) (l11 : (s0.i 11).toInt ≤ (u.i 11).toInt) (pl : ∀ q ∈ V0, q.2.2.1 < r.2.2.1) (tg : (rtgs r).Perm (tl ++ rtgs r6)) (y66 : (r.2.1 66).toInt = (y : Int)) (yb : (b.i 29).toInt ≤ (y : Int)) (t37 : ∀ j : Nat, (j : Int) < (b.i 33).toInt → u.a 37 j = u0.a 37 j) (nd : ∀ q ∈ V0, isTyv q → ¬ (q.2.1 66).toNatClampNeg = y) (nd2 : ∀ q ∈ V0, isTyv q → 0 ≤ (r6.2.1 72).toInt → ¬ q.2.1 72 = r6.2.1 72) (slo : SLO b → SLO u0 → (u0.i 42).toInt ≤ (u.i 42).toInt ∧ SLO u) (s15 : (u.a 31 y).toInt < 0 ∧ 3 * (gv.2.2.length : Int) + 3 ≤ (u.i 11).toInt ∧ ∀ z ∈ gv.2.2, ((z.2 : Nat) : Int) ≤ (R.i 20).toInt) (s30 : ∀ z ∈ gv.2.2, u.a 30 y = z.1) (hN : ∀ (nm : Nat → Nat → Prop) (G : GHT) (ω : Nat) (j : JCT), G r.2.2.1 = gv → NMH nm j.c R0 u0 → (frs j.c : Int) ≤ (s0.i 19).toInt → HC0 nm j.h j.c → ((2 * j.h + msr j.c : Nat) : Int) ≤ (s0.i 11).toInt → (r.1 2).toInt = (frs j.c : Int) → (0 ≤ (R0.i 23).toInt ∧ (R0.i 23).toInt < 720) → GNS R0 R u0 u (fun _ => True) nm → ((u0.i 42).toInt ≤ (u.i 42).toInt ∧ SLO u) → NMG nm (jen G ω r j.h j.l ++ j.c) R u ∧ HC0 nm j.h (jen G ω r j.h j.l ++ j.c) ∧ ((2 * j.h + msr (jen G ω r j.h j.l ++ j.c) : Nat) : Int) ≤ (u.i 11).toInt ∧ NB4 gv.2.1 r) (hK : ∀ (FC : Nat → Prop) (SF : CS) (nm : Nat → Nat → Prop) (X : Als) (G : GHT) (ω : Nat) (j : JCT) (Z : Prop), G r.2.2.1 = gv → 1300 ≤ ω → pcC R ≤ 1200 → HC0 nm j.h j.c → TYC SF U (GU FC SF U nm X) (ω + j.t) j.c → j.t ≤ j.l → TCCH U u0 u r r6 → SLO u0 → K FC SF nm X ω j Z → TRH FC SF U nm X G ω r j → (R.i 36 = 1 → GU2 FC SF U nm X (pcC R) (pcR u) j.h (ω + (j.l + jlv r.v) - pcC R) (jen G ω r j.h j.l ++ j.c)) → Z) : JRW A U B b (r :: V0) R u := by
  intro crB
  obtain ⟨b1, b2, b3, b4, Ψ, G, col, YJ, sax, ⟨pin, pin0⟩, tgi, ⟨jsj, bD, hds⟩, main⟩ := h crB
  obtain ⟨e22, e66, eo2, eo9, eo11⟩ := e2
  obtain ⟨⟨d20, d24, d29, d33⟩, ⟨d21, d22, d23⟩, ⟨d25, d26, d27, d28⟩, ⟨d31, d32, d30⟩, d34⟩ := du
  obtain ⟨-, -, -, r4, r5⟩ := crB.rms b1
  have tyr : isTyv r := Or.inr (Or.inl ty)
  have nvs : ∀ v : Int32, ¬ v = 215 → ¬ r.v = v := fun v hv q => hv (by rw [← q]; exact ty)
  have cky : (r.2.1 66).toNatClampNeg = y := by
    have := clampI (show 0 ≤ (r.2.1 66).toInt by omega)
    omega
  have df : dfr r.v = 1 := by
    unfold dfr
    exact if_pos (Or.inr (Or.inr (Or.inl ty)))
  have erj : rjw (tvs tl ++ [r6]) = [r6] := (tvs.rjw tl [r6]).trans (rjw.y ⟨show isTy r6.v from t6, p6⟩)
  have m6 : r6 ∈ tvs tl ++ [r6] := List.mem_append_right _ List.mem_cons_self
  have m6' : r6 ∈ tvs tl ++ [r6] ++ V0 := List.mem_append_left _ m6
  have pn : ∀ q ∈ V0, ¬ q.2.2.1 = r.2.2.1 := fun q hq z => by
    have := pl q hq
    omega
  have mt : ∀ {P : RVW → Prop}, (P r → P r6) → (∃ q ∈ r :: V0, P q) → ∃ q ∈ tvs tl ++ [r6] ++ V0, P q := fun {P} hr ⟨q, hq, p⟩ => by
    rcases List.mem_cons.mp hq with z | z
    · rw [z] at p
      exact ⟨r6, List.mem_append_left _ m6, hr p⟩
    · exact ⟨q, List.mem_append_right _ z, p⟩
  have pe : ∀ k : Nat, PEN (r :: V0) col k → PEN (tvs tl ++ [r6] ++ V0) col k := fun k p => p.imp_right (fun z => mt (P := fun q => rsite q k) (fun z => absurd z (tyv.site tyr)) z)
  have nv' : ¬ (r.v = 218 ∨ r.v = 995) := fun z => z.elim (nvs _ (by decide)) (nvs _ (by decide))
  have ph : ∀ k : Nat, PCH (r :: V0) k → PCH (tvs tl ++ [r6] ++ V0) k := fun k p => mt (P := fun q => (q.v = 218 ∨ q.v = 995) ∧ (k : Int) = (q.2.1 66).toInt) (fun z => absurd z.1 nv') p
  have pz : ∀ k : Nat, PCZ (r :: V0) k → PCZ (tvs tl ++ [r6] ++ V0) k := fun k p => mt (P := fun q => q.v = 218 ∧ (k : Int) = (q.2.1 67).toInt) (fun z => absurd (Or.inl z.1) nv') p
  have py : ∀ k : Nat, PTY (r :: V0) k → PTY (tvs tl ++ [r6] ++ V0) k := fun k p => mt (P := fun q => isTyv q ∧ (k : Int) = (q.2.1 66).toInt) (fun z => ⟨t6, by rw [← e66]; exact z.2⟩) p
  have paV : ∀ k : Nat, PCA V0 k → PCA (tvs tl ++ [r6] ++ V0) k := fun k ⟨q, hq, p⟩ => ⟨q, List.mem_append_right _ hq, p⟩
  have pa : ∀ k : Nat, PCA (r :: V0) k → (k : Int) = (r.2.1 72).toInt ∨ PCA V0 k := fun k ⟨q, hq, p⟩ => by
    rcases List.mem_cons.mp hq with z | z
    · rw [z] at p
      exact Or.inl p.2
    · exact Or.inr ⟨q, z, p⟩
  have pm : (ptl (r :: V0)).Perm (ptl (tvs tl ++ [r6] ++ V0)) := by
    rw [ptl.app, ptl.app, tvs_ptl]
    show (rtgs r ++ ptl V0).Perm ((tl ++ (rtgs r6 ++ [])) ++ ptl V0)
    rw [List.append_nil]
    exact tg.append_right _
  have x1 : KD1 0 2 R0 (CS.setI R0 23 (R.i 23)) := by
    refine ⟨⟨Int.le_refl _, ?_, ?_⟩, fun _ _ => ⟨rfl, rfl⟩, Int.le_refl _, ⟨?_, ?_⟩, Int.le_refl _, fun _ _ => rfl⟩
    · show (R0.i 20).toInt + (R0.i 44).toInt ≤ (R0.i 20).toInt + (R0.i 44).toInt + 0
      omega
    · show (R0.i 21).toInt + (R0.i 44).toInt ≤ (R0.i 21).toInt + (R0.i 44).toInt + 2
      omega
    · show (R0.i 23).toInt ≤ (R.i 23).toInt
      omega
    · show 2 * (R.i 23).toInt + (R0.i 44).toInt ≤ 2 * (R0.i 23).toInt + (R0.i 44).toInt + 2
      omega
  have b23 := b1.2.2.2.1.1
  have a17 : R.a 17 = R0.a 17 := dR.2.2.2.1
  have q20 : R.i 20 = R0.i 20 := dR.1.1
  have q21 : R.i 21 = R0.i 21 := dR.1.2.1
  replace b1 := (b1.tr x1).d dR
  replace bD := (bD.tr x1).d dR
  obtain ⟨⟨k1, k2, k3, k4, k5⟩, w1, w2, w3, w4⟩ := b3
  have b3' : KD2 (b.i 20).toInt b u := by
    refine ⟨⟨by rw [d20]; exact k1, by rw [d24]; exact k2, by rw [d29]; exact k3, by omega, fun sl => ⟨by have := (k5 sl).1; have := (slo sl (k5 sl).2).1; omega, (slo sl (k5 sl).2).2⟩⟩, fun j hj => by rw [d21, d22, d23]; exact w1 j hj, fun j hj => by rw [d25, d26, d27, d28]; exact w2 j hj, fun j hj => by rw [d31, d32, d30 j (by omega)]; exact w3 j hj, fun j hj => ?_⟩
    obtain ⟨z1, z2, z3, z4⟩ := d34 j (by omega)
    rw [z1, z2, z3, t37 j hj]
    exact w4 j hj
  have sax' : SAX (r :: V0) (GPS.an Ψ (GNS R0 R u0 u)) B b R u := fun sl => by
    obtain ⟨⟨su, lb⟩, F, M, ⟨g1, g2⟩, gM⟩ := sax sl
    have l42 := (k5 sl).1
    have d42 := (slo sl su).1
    refine ⟨⟨(slo sl su).2, fun k hk => ?_⟩, F, M, ⟨fun k l m => ?_, g2⟩, fun FC nm hh => ⟨gM FC nm ⟨fun y' y1 y2 y3 => hh.1 y' y1 (by rw [d29]; exact y2) (fun p => y3 (py _ p)), fun k l hkl => hh.2 k l ?_⟩, fun k l hkl q => ?_⟩⟩
    · rcases pa k hk with z | z
      · omega
      · exact lb k (paV k z)
    · obtain ⟨⟨m1, m2⟩, m3, m4⟩ := g1 k l m
      exact ⟨⟨m1, by omega⟩, m3, by omega⟩
    · rcases hkl with z | z
      · exact Or.inl ⟨z.1, by omega⟩
      · exact Or.inr ⟨z.1, by omega⟩
    · have z : M k l := (hh.2 k l (by
        rcases hkl with z | z
        · exact Or.inl ⟨by omega, z.2⟩
        · exact Or.inr ⟨by omega, z.2⟩)).mp q
      obtain ⟨⟨m1, m2⟩, m3, m4⟩ := g1 k l z
      omega
  replace tgi : TGI B (tvs tl ++ [r6] ++ V0) R := by
    unfold TGI at tgi ⊢
    rw [q21, a17]
    exact tgi
  obtain ⟨jsi, ⟨n1, n2, n3⟩, n4, n5⟩ := jsj
  rw [erj] at jsi n5
  have jsr : JSI Ψ (r :: V0) col YJ b s0 := JSI.rt jsi t6 tyr e22 e66 wl
  have gkv : GKV (r :: V0) s0 u := ⟨fun q hq go => by
    have z := (jsr.1 q hq go).1
    rw [eJ.2.2 50 (by decide), eJ.2.2 51 (by decide), eJ.2.2 48 (by decide), eJ.2.2 49 (by decide), eJ.2.2 47 (by decide)]
    exact ⟨by rw [eJ.1]; exact z, rfl, rfl, rfl, rfl, rfl⟩, by rw [eJ.2.1]; exact Int.le_refl _, fun j _ => by
    rw [eJ.2.2 60 (by decide), eJ.2.2 61 (by decide), eJ.2.2 62 (by decide)]
    exact ⟨rfl, rfl, rfl⟩⟩
  have jsu : JSI (GPS.an Ψ (GNS R0 R u0 u)) (r :: V0) col YJ b u := jsr.mw gkv (by rw [d20]; exact b4.1.1) (by rw [d29]; exact b4.1.2.2.1) (fun j hj => by rw [d22]; exact n4 j hj) (fun y y1 y2 => by
    rw [d31]
    exact n5 y y1 (fun ⟨q, hq, q1, q2⟩ => y2 ⟨r, List.mem_cons_self, tyr, by rw [List.mem_singleton.mp hq] at q2; rw [e66]; exact q2⟩)) (fun _ _ q => q.1)
  have swt : SWT (b.i 24).toInt (G.set r.2.2.1 gv) (r :: V0) R u := by
    have z : SWT (b.i 24).toInt G V0 R u := ⟨hds.2.1.mv (by rw [q20]; exact Int.le_refl _) (by rw [dR.1.2.2.1]; exact Int.le_refl _) (fun k _ => by rw [dR.2.2.2.2]; rfl) (by rw [d24]; exact Int.le_refl _) (fun j _ => by
      rw [d25, d26, d27, d28]
      exact ⟨rfl, rfl, rfl, rfl⟩) (fun _ _ _ => by rw [d22]) (fun _ _ _ => by rw [d31]) (fun q hq tq => d30 _ (nd q hq tq)), hds.2.2.mv (by rw [d20]; exact Int.le_refl _) (by rw [d29]; exact Int.le_refl _)⟩
    refine ⟨fun q hq => ?_, fun q hq => ?_⟩
    · rcases List.mem_cons.mp hq with e9 | hq
      · rw [e9]
        refine ⟨fun w => absurd w (nvs _ (by decide)), fun w => absurd w (nvs _ (by decide)), fun w => by rw [GHT.at]; exact s15.2.2, fun w => absurd w (nvs _ (by decide)), fun _ _ => by rw [cky]; exact s15.1, fun _ => by rw [GHT.at, cky]; exact s30⟩
      · have y := z.1 q hq
        unfold SWG
        rw [GHT.ne (pn q hq)]
        exact y
    · rcases List.mem_cons.mp hq with e9 | hq
      · rw [e9]
        refine ⟨fun w => absurd w (nvs _ (by decide)), fun w => ⟨by omega, ?_⟩, nvs _ (by decide)⟩
        have z := pin.2.2.1 _ (py _ ⟨r, List.mem_cons_self, tyr, y66.symm⟩)
        rw [d29]
        omega
      · exact z.2 q hq
  have dbs : DB (G.set r.2.2.1 gv) (r :: V0) = DB G V0 + dbr gv r.v := by
    show DB (G.set r.2.2.1 gv) V0 + dbr (G.set r.2.2.1 gv r.2.2.1) r.v = _
    rw [DB.gs V0 pn, GHT.at]
  have dbl : a + dbr gv r.v ≤ 0 := by
    unfold dbr
    rw [if_pos (Or.inr (Or.inr (Or.inr (Or.inr (Or.inl ty)))))]
    omega
  have hD : ∃ e : Int, (e = 0 ∨ (e = 1 ∧ ¬ ALN (R.i 43))) ∧ KD1 (-(DB (G.set r.2.2.1 gv) (r :: V0))) e B R := by
    rw [dbs]
    exact ⟨0, Or.inl rfl, bD.wk (by omega) le⟩
  refine ⟨⟨0, Or.inl rfl, b1.wk (by omega) le⟩, ⟨fun k k1 k2 => by rw [a17]; exact b2.1 k k1 k2, n8' b2.2⟩, b3', GPS.an Ψ (GNS R0 R u0 u), G.set r.2.2.1 gv, col, YJ, sax', ⟨fun k q => by rw [d20]; exact pin.1 k (pe k q), fun k q => by rw [d24]; exact pin.2.1 k (pz k q), fun k q => by rw [d29]; exact pin.2.2.1 k (py k q), fun k q => ?_⟩, ⟨pm.symm.nodup tgi.1, fun x hx => tgi.2 x (pm.mem_iff.mp hx)⟩, ⟨jsu, hD, fun q hq x hx => ?_, swt⟩, ?_⟩
  · rcases pa k q with z | z
    · omega
    · have := pin.2.2.2 k (paV k z)
      omega
  · rw [a17, q21, q20]
    rcases List.mem_cons.mp hq with z | z
    · rw [z] at hx
      exact absurd hx (tyv.hd tyr)
    · exact hds.1 q (List.mem_append_right _ z) x hx
  intro FC SF nm X h0 ω c0 psi ng0 hc0 hh0 hω
  obtain ⟨⟨ng, hc, hh, wn⟩, mn⟩ := main FC SF nm X h0 ω c0 psi.1 ng0 hc0 hh0 hω
  obtain ⟨w2', w9, w3'⟩ := (wn.1 r6 m6 (Or.inr ⟨t6, p6⟩)).2 t6
  have ecx : JCX (G.set r.2.2.1 gv) ω h0 c0 V0 = JCX G ω h0 c0 V0 := JCX.gs V0 pn
  have slb : SLO b := ng0.2.2.2.2.1
  have hj := hN nm (G.set r.2.2.1 gv) ω (JCX G ω h0 c0 V0) GHT.at ng.1 ng.2 hc hh (by rw [eo2]; exact w2') ⟨by omega, by omega⟩ psi.2 (slo slb (k5 slb).2)
  have hd : DPM (G.set r.2.2.1 gv) (frs c0) c0.length u (r :: V0) := ⟨⟨fun z => absurd z (tyv.go tyr), fun _ => ⟨by rw [eo2, w2', (JCX.cnt G ω h0 c0 V0).2.1], by rw [eo9]; exact w9⟩, fun _ => ⟨by rw [eo9, eo11]; exact w3'.1, by rw [eo11]; exact w3'.2.1, fun z => absurd z (nvs _ (by decide)), fun z => absurd z (nvs _ (by decide)), fun z => by omega⟩, fun z => by rw [GHT.at]; exact ⟨s15.2.1, hj.2.2.2⟩⟩, (DPM.gs V0 pn).mpr (wn.2.mv V0 (fun q hq go => by rw [eJ.2.2 47 (by decide)]) l11)⟩
  have e1 : JCX (G.set r.2.2.1 gv) ω h0 c0 (r :: V0) = ((JCX G ω h0 c0 V0).h, (JCX G ω h0 c0 V0).l + jlv r.v, jty r.v ((JCX G ω h0 c0 V0).l + jlv r.v) (JCX G ω h0 c0 V0).t, jen (G.set r.2.2.1 gv) ω r (JCX G ω h0 c0 V0).h (JCX G ω h0 c0 V0).l ++ (JCX G ω h0 c0 V0).c) := by
    show ((JCX (G.set r.2.2.1 gv) ω h0 c0 V0).h, (JCX (G.set r.2.2.1 gv) ω h0 c0 V0).l + jlv r.v, jty r.v ((JCX (G.set r.2.2.1 gv) ω h0 c0 V0).l + jlv r.v) (JCX (G.set r.2.2.1 gv) ω h0 c0 V0).t, jen (G.set r.2.2.1 gv) ω r (JCX (G.set r.2.2.1 gv) ω h0 c0 V0).h (JCX (G.set r.2.2.1 gv) ω h0 c0 V0).l ++ (JCX (G.set r.2.2.1 gv) ω h0 c0 V0).c) = _
    rw [ecx]
  rw [e1]
  refine ⟨⟨hj.1, hj.2.1, hj.2.2.1, hd⟩, fun fc fg hA tyc jr cur => ?_⟩
  have jr1 : JRH FC SF U nm X (G.set r.2.2.1 gv) col YJ ω r (JCX G ω h0 c0 V0) := by
    have z := jr.1
    rw [ecx] at z
    exact z
  have jr2 : JRS FC SF U nm X G col YJ ω h0 c0 V0 := by
    have z := jr.2
    rw [JRS.gs V0 pn] at z
    exact z
  have fc' : FGD (tvs tl ++ [r6] ++ V0) B R0 SF := (fc.d dR).pl (fun y hy => pm.mem_iff.mp hy)
  obtain ⟨f1, f4, f5, f6, f7⟩ := id fg
  have pyy : PTY (tvs tl ++ [r6] ++ V0) y := ⟨r6, m6', t6, by rw [← e66]; exact y66.symm⟩
  have fg' : FGP (tvs tl ++ [r6] ++ V0) col b u0 U := by
    refine ⟨by rw [← d20]; exact f1, fun j j1 j2 => ?_, fun j j1 j2 => ?_, fun j j1 j2 q => ?_, fun j j1 j2 => ?_⟩
    · rw [← d21, ← d22, ← d23]
      obtain ⟨z1, z2, z3⟩ := f4 j j1 (by rw [d20]; exact j2)
      exact ⟨z1, fun q => z2 (fun p => q (pe j p)), fun q => z3 (fun p => q (ph j p))⟩
    · rw [← d25, ← d26, ← d27, ← d28]
      obtain ⟨z1, z2, z3, z4⟩ := f5 j j1 (by rw [d24]; exact j2)
      exact ⟨z1, z2, fun q => z3 (fun p => q (pz j p)), z4⟩
    · rw [← d30 j (fun z => q (by rw [z]; exact pyy)), ← d31, ← d32]
      exact f6 j j1 (by rw [d29]; exact j2) (fun p => q (py j p))
    · obtain ⟨z1, z2, z3, z4⟩ := d34 j j2
      obtain ⟨y1, y2, y3, y4⟩ := f7 j j1 (by omega)
      rw [← z1, ← z2, ← z3]
      refine ⟨y1, y2, y3, fun q => ?_⟩
      rw [← z4 (fun z => q ⟨r6, m6', t6, z⟩)]
      refine y4 (fun p => ?_)
      rcases pa j p with z | z
      · omega
      · exact q (paV j z)
  have k0 := mn fc' fg' hA tyc jr2
  have tb : TCCH U u0 u r r6 := by
    refine ⟨fun j j1 j2 => ?_, fun z0 => ?_⟩
    · obtain ⟨y1, y2, y3, y4⟩ := f7 j (by omega) j2
      refine ⟨y1, y2, y3, fun q => y4 (fun p => ?_)⟩
      rcases pa j p with z | z
      · exact q z
      · have := pin.2.2.2 j (paV j z)
        omega
    · have ck := clampI z0
      have z1 := pin.2.2.2 _ ⟨r6, m6', t6, ck⟩
      refine (f7 _ (by have := (sax slb).1.2 _ ⟨r6, m6', t6, ck⟩; omega) (by omega)).2.2.2 (fun p => ?_)
      rcases pa _ p with z | ⟨q, hq, q1, q2⟩
      · omega
      · exact nd2 q hq q1 z0 (Int32.toInt_inj.mp (by omega))
  have z := hK FC SF nm X (G.set r.2.2.1 gv) ω _ _ GHT.at hω (by have := fc.1.2; unfold pcC; omega) hc (JRS.ty tyc V0 jr2) (JCX.tl G ω h0 c0 V0) tb (k5 slb).2 k0 (jr1.2.2.2.2.2.2.2.1 tyr) cur
  refine ⟨z.1, ?_⟩
  show JHH FC SF U nm X (G.set r.2.2.1 gv) ω r (JCX (G.set r.2.2.1 gv) ω h0 c0 V0) ∧ JHS FC SF U nm X (G.set r.2.2.1 gv) ω h0 c0 V0
  rw [JHS.gs V0 pn]
  exact ⟨⟨fun q => absurd q (nvs _ (by decide)), fun q => absurd q (nvs _ (by decide)), fun q => absurd q (nvs _ (by decide)), fun q => absurd q (nvs _ (by decide)), fun q => absurd q (nvs _ (by decide))⟩, z.2⟩
end
