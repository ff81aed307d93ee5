/-! both readers: a try's next block begins -/
section
variable {A : JBA} {U : RS} {B : CS} {b : RS} {V0 : List RVW} {s0 : RS} {K : JKT} {a e : Int} {R0 R : CS} {u0 u : RS} {r r6 : RVW} {tl : List Int32}
set_option maxHeartbeats 2000000 in
theorem JRG.pty (gv : Nat × Nat × List (Int32 × Nat)) (n8' : N8 B b V0 R0 u0 → N8 B b (r :: V0) R u) (dR : D38 R0 R) (du : D52 u0 u) (h : JRG A U B b V0 s0 (tvs tl ++ [r6]) K a e R0 u0) (ty : r.v = 215 ∨ r.v = 216) (t6 : isTyv r6) (p6 : ¬ r6.2.2.1 = 0) (wl : isWl r.v → isWl r6.v) (e2 : r.2.2 = r6.2.2 ∧ r.2.1 66 = r6.2.1 66 ∧ r.2.1 72 = r6.2.1 72 ∧ r.1 2 = r6.1 2 ∧ r.1 9 = r6.1 9 ∧ r.1 11 = r6.1 11) (la : a ≤ 0 ∧ (r.v = 215 → a ≤ -1)) (le : e ≤ 0 ∨ (e ≤ 1 ∧ ¬ ALN (R.i 43))) (eJ : u.i 43 = s0.i 43 ∧ u.i 59 = s0.i 59 ∧ ∀ k : Nat, (k = 47 ∨ k = 48 ∨ k = 49 ∨ k = 50 ∨ k = 51 ∨ k = 60 ∨ k = 61 ∨ k = 62) → u.a k = s0.a k) (l19 : (s0.i 19).toInt ≤ (u.i 19).toInt) (l11 : (s0.i 11).toInt ≤ (u.i 11).toInt) (pl : ∀ q ∈ V0, q.2.2.1 < r.2.2.1) (tg : (rtgs r).Perm (tl ++ rtgs r6)) (y66 : 0 ≤ (r.2.1 66).toInt) (s16 : r.v = 216 → (u.a 31 (r.2.1 66).toNatClampNeg).toInt = (gv.1 : Int)) (s15 : r.v = 215 → (u.a 31 (r.2.1 66).toNatClampNeg).toInt < 0 ∧ 0 ≤ (r.2.1 72).toInt ∧ 3 * (gv.2.2.length : Int) + 3 ≤ (u.i 11).toInt ∧ ∀ z ∈ gv.2.2, ((z.2 : Nat) : Int) ≤ (R.i 20).toInt) (s30 : ∀ z ∈ gv.2.2, u.a 30 (r.2.1 66).toNatClampNeg = z.1) (hN : ∀ (nm : Nat → Nat → Prop) (G : GHT) (ω : Nat) (j : JCT), G r.2.2.1 = gv → NMH nm j.c R0 u0 → (frs j.c : Int) ≤ (s0.i 19).toInt → HC0 nm j.h j.c → ((2 * j.h + msr j.c : Nat) : Int) ≤ (s0.i 11).toInt → (r.1 2).toInt = (frs j.c : Int) → NMG nm (jen G ω r j.h j.l ++ j.c) R u ∧ HC0 nm j.h (jen G ω r j.h j.l ++ j.c) ∧ ((2 * j.h + msr (jen G ω r j.h j.l ++ j.c) : Nat) : Int) ≤ (u.i 11).toInt ∧ (r.v = 215 → NB4 gv.2.1 r)) (hK : ∀ (FC : Nat → Prop) (SF : CS) (nm : Nat → Nat → Prop) (X : Als) (G : GHT) (ω : Nat) (j : JCT) (Z : Prop), G r.2.2.1 = gv → 1300 ≤ ω → pcC R ≤ 1200 → HC0 nm j.h j.c → TYC SF U (GU FC SF U nm X) (ω + j.t) j.c → j.t ≤ j.l → K FC SF nm X ω j Z → TRH FC SF U nm X G ω r j → (R.i 36 = 1 → GU2 FC SF U nm X (pcC R) (pcR u) j.h (ω + (j.l + jlv r.v) - pcC R) (jen G ω r j.h j.l ++ j.c)) → Z) : JRW A U B b (r :: V0) R u := by
  intro crB
  obtain ⟨b1, b2, b3, b4, Ψ, G, col, YJ, sax, ⟨pin, pin0⟩, tgi, ⟨jsj, bD, hds⟩, main⟩ := h crB
  obtain ⟨e22, e66, e72, eo2, eo9, eo11⟩ := e2
  have tyr : isTyv r := by
    show isTy r.v
    rcases ty with z | z
    · exact Or.inr (Or.inl z)
    · exact Or.inr (Or.inr (Or.inr z))
  have nvs : ∀ v : Int32, ¬ (v = 215 ∨ v = 216) → ¬ r.v = v := fun v hv q => hv (by rw [← q]; exact ty)
  have df : dfr r.v = 1 := by
    unfold dfr
    exact if_pos (ty.elim (fun z => Or.inr (Or.inr (Or.inl z))) (fun z => Or.inr (Or.inr (Or.inr z))))
  have erj : rjw (tvs tl ++ [r6]) = [r6] := (tvs.rjw tl [r6]).trans (rjw.y ⟨show isTy r6.v from t6, p6⟩)
  have m6 : r6 ∈ tvs tl ++ [r6] := List.mem_append_right _ List.mem_cons_self
  have pn : ∀ q ∈ V0, ¬ q.2.2.1 = r.2.2.1 := fun q hq z => by
    have := pl q hq
    omega
  have mt : ∀ {P : RVW → Prop}, (P r → P r6) → (∃ q ∈ r :: V0, P q) → ∃ q ∈ tvs tl ++ [r6] ++ V0, P q := fun {P} hr ⟨q, hq, p⟩ => by
    rcases List.mem_cons.mp hq with z | z
    · rw [z] at p
      exact ⟨r6, List.mem_append_left _ m6, hr p⟩
    · exact ⟨q, List.mem_append_right _ z, p⟩
  have pe : ∀ k : Nat, PEN (r :: V0) col k → PEN (tvs tl ++ [r6] ++ V0) col k := fun k p => p.imp_right (fun z => mt (P := fun q => rsite q k) (fun z => absurd z (tyv.site tyr)) z)
  have nv' : ¬ (r.v = 218 ∨ r.v = 995) := fun z => z.elim (nvs _ (by decide)) (nvs _ (by decide))
  have ph : ∀ k : Nat, PCH (r :: V0) k → PCH (tvs tl ++ [r6] ++ V0) k := fun k p => mt (P := fun q => (q.v = 218 ∨ q.v = 995) ∧ (k : Int) = (q.2.1 66).toInt) (fun z => absurd z.1 nv') p
  have pz : ∀ k : Nat, PCZ (r :: V0) k → PCZ (tvs tl ++ [r6] ++ V0) k := fun k p => mt (P := fun q => q.v = 218 ∧ (k : Int) = (q.2.1 67).toInt) (fun z => absurd (Or.inl z.1) nv') p
  have py : ∀ k : Nat, PTY (r :: V0) k → PTY (tvs tl ++ [r6] ++ V0) k := fun k p => mt (P := fun q => isTyv q ∧ (k : Int) = (q.2.1 66).toInt) (fun z => ⟨t6, by rw [← e66]; exact z.2⟩) p
  have pa : ∀ k : Nat, PCA (r :: V0) k → PCA (tvs tl ++ [r6] ++ V0) k := fun k p => mt (P := fun q => isTyv q ∧ (k : Int) = (q.2.1 72).toInt) (fun z => ⟨t6, by rw [← e72]; exact z.2⟩) p
  have pm : (ptl (r :: V0)).Perm (ptl (tvs tl ++ [r6] ++ V0)) := by
    rw [ptl.app, ptl.app, tvs_ptl]
    show (rtgs r ++ ptl V0).Perm ((tl ++ (rtgs r6 ++ [])) ++ ptl V0)
    rw [List.append_nil]
    exact tg.append_right _
  replace b1 := b1.d dR
  replace bD := bD.d dR
  replace b3 := b3.d du
  replace b4 := b4.d du
  replace sax := sax.d dR du
  replace pin := pin.d du
  replace tgi := tgi.d dR
  obtain ⟨jsi, ⟨n1, n2, n3⟩, n4, n5⟩ := jsj
  rw [erj] at jsi n5
  have jsr : JSI Ψ (r :: V0) col YJ b s0 := JSI.rt jsi t6 tyr e22 e66 wl
  have gkv : GKV (r :: V0) s0 u := ⟨fun q hq go => by
    have z := (jsr.1 q hq go).1
    rw [eJ.2.2 50 (by decide), eJ.2.2 51 (by decide), eJ.2.2 48 (by decide), eJ.2.2 49 (by decide), eJ.2.2 47 (by decide)]
    exact ⟨by rw [eJ.1]; exact z, rfl, rfl, rfl, rfl, rfl⟩, by rw [eJ.2.1]; exact Int.le_refl _, fun j _ => by
    rw [eJ.2.2 60 (by decide), eJ.2.2 61 (by decide), eJ.2.2 62 (by decide)]
    exact ⟨rfl, rfl, rfl⟩⟩
  have jsu : JSI Ψ (r :: V0) col YJ b u := jsr.mw gkv b4.1.1 b4.1.2.2.1 (fun j hj => by rw [du.2.2.1]; exact n4 j hj) (fun y y1 y2 => by
    rw [du.2.2.2.2.2.2.2.2.2.1]
    exact n5 y y1 (fun ⟨q, hq, q1, q2⟩ => y2 ⟨r, List.mem_cons_self, tyr, by rw [List.mem_singleton.mp hq] at q2; rw [e66]; exact q2⟩)) (fun _ _ q => q)
  have cky := clampI y66
  have swt : SWT (b.i 24).toInt (G.set r.2.2.1 gv) (r :: V0) R u := by
    have z : SWT (b.i 24).toInt G V0 R u := hds.2.d dR du
    refine ⟨fun q hq => ?_, fun q hq => ?_⟩
    · rcases List.mem_cons.mp hq with e9 | hq
      · rw [e9]
        refine ⟨fun w => absurd w (nvs _ (by decide)), fun w => by rw [GHT.at]; exact s16 w, fun w => by rw [GHT.at]; exact (s15 w).2.2.2, fun w => absurd w (nvs _ (by decide)), fun _ w => (s15 (ty.resolve_right w)).1, fun _ => by rw [GHT.at]; exact s30⟩
      · have y := z.1 q hq
        unfold SWG
        rw [GHT.ne (pn q hq)]
        exact y
    · rcases List.mem_cons.mp hq with e9 | hq
      · rw [e9]
        refine ⟨fun w => absurd w (nvs _ (by decide)), fun w => ⟨y66, ?_⟩, nvs _ (by decide)⟩
        have z := pin.2.2.1 _ (py _ ⟨r, List.mem_cons_self, tyr, cky⟩)
        omega
      · exact z.2 q hq
  have dbs : DB (G.set r.2.2.1 gv) (r :: V0) = DB G V0 + dbr gv r.v := by
    show DB (G.set r.2.2.1 gv) V0 + dbr (G.set r.2.2.1 gv r.2.2.1) r.v = _
    rw [DB.gs V0 pn, GHT.at]
  have dbl : a + dbr gv r.v ≤ 0 := by
    unfold dbr
    rcases ty with z | z
    · rw [if_pos (Or.inr (Or.inr (Or.inr (Or.inr (Or.inl z)))))]
      have := la.2 z
      omega
    · rw [if_neg (by rw [z]; decide), if_neg (by rw [z]; decide)]
      have := la.1
      omega
  have hD : ∃ e : Int, (e = 0 ∨ (e = 1 ∧ ¬ ALN (R.i 43))) ∧ KD1 (-(DB (G.set r.2.2.1 gv) (r :: V0))) e B R := by
    rw [dbs]
    rcases le with z | ⟨z, z'⟩
    · exact ⟨0, Or.inl rfl, bD.wk (by omega) z⟩
    · exact ⟨1, Or.inr ⟨rfl, z'⟩, bD.wk (by omega) z⟩
  refine ⟨?_, ⟨fun k k1 k2 => by rw [dR.2.2.2.1]; exact b2.1 k k1 k2, n8' b2.2⟩, b3, Ψ, G.set r.2.2.1 gv, col, YJ, sax.mo py pa, ⟨fun k q => pin.1 k (pe k q), fun k q => pin.2.1 k (pz k q), fun k q => pin.2.2.1 k (py k q), fun k q => pin.2.2.2 k (pa k q)⟩, ⟨pm.symm.nodup tgi.1, fun x hx => tgi.2 x (pm.mem_iff.mp hx)⟩, ⟨jsu, hD, fun q hq x hx => ?_, swt⟩, ?_⟩
  · rcases le with z | ⟨z, z'⟩
    · exact ⟨0, Or.inl rfl, b1.wk la.1 z⟩
    · exact ⟨1, Or.inr ⟨rfl, z'⟩, b1.wk la.1 z⟩
  · rw [dR.2.2.2.1, dR.1.2.1, dR.1.1]
    rcases List.mem_cons.mp hq with z | z
    · rw [z] at hx
      exact absurd hx (tyv.hd tyr)
    · exact hds.1 q (List.mem_append_right _ z) x hx
  intro FC SF nm X h0 ω c0 psi ng0 hc0 hh0 hω
  obtain ⟨⟨ng, hc, hh, wn⟩, mn⟩ := main FC SF nm X h0 ω c0 psi ng0 hc0 hh0 hω
  obtain ⟨w2, w9, w3⟩ := (wn.1 r6 m6 (Or.inr ⟨t6, p6⟩)).2 t6
  have ecx : JCX (G.set r.2.2.1 gv) ω h0 c0 V0 = JCX G ω h0 c0 V0 := JCX.gs V0 pn
  have hj := hN nm (G.set r.2.2.1 gv) ω (JCX G ω h0 c0 V0) GHT.at ng.1 ng.2 hc hh (by rw [eo2]; exact w2)
  have hd : DPM (G.set r.2.2.1 gv) (frs c0) c0.length u (r :: V0) := ⟨⟨fun z => absurd z (tyv.go tyr), fun _ => ⟨by rw [eo2, w2, (JCX.cnt G ω h0 c0 V0).2.1], by rw [eo9]; exact w9⟩, fun _ => ⟨by rw [eo9, eo11]; exact w3.1, by rw [eo11]; exact w3.2.1, fun z => absurd z (nvs _ (by decide)), fun z => absurd z (nvs _ (by decide)), fun z => (s15 z).2.1⟩, fun z => by rw [GHT.at]; exact ⟨(s15 z).2.2.1, hj.2.2.2 z⟩⟩, (DPM.gs V0 pn).mpr (wn.2.mv V0 (fun q hq go => by rw [eJ.2.2 47 (by decide)]) l11)⟩
  have e1 : JCX (G.set r.2.2.1 gv) ω h0 c0 (r :: V0) = ((JCX G ω h0 c0 V0).h, (JCX G ω h0 c0 V0).l + jlv r.v, jty r.v ((JCX G ω h0 c0 V0).l + jlv r.v) (JCX G ω h0 c0 V0).t, jen (G.set r.2.2.1 gv) ω r (JCX G ω h0 c0 V0).h (JCX G ω h0 c0 V0).l ++ (JCX G ω h0 c0 V0).c) := by
    show ((JCX (G.set r.2.2.1 gv) ω h0 c0 V0).h, (JCX (G.set r.2.2.1 gv) ω h0 c0 V0).l + jlv r.v, jty r.v ((JCX (G.set r.2.2.1 gv) ω h0 c0 V0).l + jlv r.v) (JCX (G.set r.2.2.1 gv) ω h0 c0 V0).t, jen (G.set r.2.2.1 gv) ω r (JCX (G.set r.2.2.1 gv) ω h0 c0 V0).h (JCX (G.set r.2.2.1 gv) ω h0 c0 V0).l ++ (JCX (G.set r.2.2.1 gv) ω h0 c0 V0).c) = _
    rw [ecx]
  rw [e1]
  refine ⟨⟨hj.1, hj.2.1, hj.2.2.1, hd⟩, fun fc fg hA tyc jr cur => ?_⟩
  have jr1 : JRH FC SF U nm X (G.set r.2.2.1 gv) col YJ ω r (JCX G ω h0 c0 V0) := by
    have z := jr.1
    rw [ecx] at z
    exact z
  have jr2 : JRS FC SF U nm X G col YJ ω h0 c0 V0 := by
    have z := jr.2
    rw [JRS.gs V0 pn] at z
    exact z
  have k0 := mn ((fc.d dR).pl (fun y hy => pm.mem_iff.mp hy)) ((fg.st pe pz py pa ph).d du) hA tyc jr2
  have z := hK FC SF nm X (G.set r.2.2.1 gv) ω _ _ GHT.at hω (by have := fc.1.2; unfold pcC; omega) hc (JRS.ty tyc V0 jr2) (JCX.tl G ω h0 c0 V0) k0 (jr1.2.2.2.2.2.2.2.1 tyr) cur
  refine ⟨z.1, ?_⟩
  show JHH FC SF U nm X (G.set r.2.2.1 gv) ω r (JCX (G.set r.2.2.1 gv) ω h0 c0 V0) ∧ JHS FC SF U nm X (G.set r.2.2.1 gv) ω h0 c0 V0
  rw [JHS.gs V0 pn]
  exact ⟨⟨fun q => absurd q (nvs _ (by decide)), fun q => absurd q (nvs _ (by decide)), fun q => absurd q (nvs _ (by decide)), fun q => absurd q (nvs _ (by decide)), fun q => absurd q (nvs _ (by decide))⟩, z.2⟩
end
