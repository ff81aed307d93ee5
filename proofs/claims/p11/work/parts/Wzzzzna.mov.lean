/-! both readers: the rows that are open, between turns -/
section
variable {A : JBA} {U : RS} {B : CS} {b : RS} {V : List RVW} {S R : CS} {s u : RS}
/-- nothing of the code changes -/
theorem JRW.mv (h : JRW A U B b V S s) (dR : D38 S R) (i38 : R.i 38 = S.i 38) (i36 : R.i 36 = S.i 36) (i43 : R.i 43 = S.i 43) (a48 : R.a 48 = S.a 48) (a49 : R.a 49 = S.a 49) (du : D52 s u) (ui : u.i 38 = s.i 38 ∧ u.i 52 = s.i 52 ∧ u.i 11 = s.i 11 ∧ u.i 19 = s.i 19 ∧ u.i 43 = s.i 43 ∧ u.i 59 = s.i 59) (ua : u.a 40 = s.a 40 ∧ u.a 47 = s.a 47 ∧ u.a 48 = s.a 48 ∧ u.a 49 = s.a 49 ∧ u.a 50 = s.a 50 ∧ u.a 51 = s.a 51 ∧ u.a 60 = s.a 60 ∧ u.a 61 = s.a 61 ∧ u.a 62 = s.a 62) : JRW A U B b V R u := by
  intro crB
  obtain ⟨⟨e, he, k1⟩, k2, k3, Ψ, G, col, YJ, sax, pin, tgi, ⟨jsi, ⟨e', he', kD⟩, hds, swt⟩, main⟩ := h crB
  obtain ⟨u38, u52, u11, u19, u43, u59⟩ := ui
  obtain ⟨v40, v47, v48, v49, v50, v51, v60, v61, v62⟩ := ua
  have gkv : GKV V s u := ⟨fun q hq go => by
    have z := (jsi.1 q hq go).1
    rw [v50, v51, v48, v49, v47, u43]
    exact ⟨z, rfl, rfl, rfl, rfl, rfl⟩, by rw [u59]; exact Int.le_refl _, fun j _ => by
    rw [v60, v61, v62]
    exact ⟨rfl, rfl, rfl⟩⟩
  have js : JSI Ψ V col YJ b u := jsi.mw gkv (by rw [du.1.1]; exact Int.le_refl _) (by rw [du.1.2.2.1]; exact Int.le_refl _) (fun j _ => by rw [du.2.2.1]) (fun y _ _ => by rw [du.2.2.2.2.2.2.2.2.2.1]) (fun _ _ q => q)
  refine ⟨⟨e, by rw [i43]; exact he, k1.d dR⟩, ⟨fun k a1 a2 => by rw [dR.2.2.2.1]; exact k2.1 k a1 a2, k2.2.nk (NK.eq a48 a49 u52 u38)⟩, k3.d du, Ψ, G, col, YJ, sax.d dR du, pin.d du, tgi.d dR, ⟨js, ⟨e', by rw [i43]; exact he', kD.d dR⟩, fun q hq x hx => by rw [dR.2.2.2.1, dR.1.2.1, dR.1.1]; exact hds q hq x hx, swt.d dR du⟩, ?_⟩
  intro FC SF nm X h0 ω c0 psi ng0 hc0 hh0 hω
  obtain ⟨⟨ng, hc, hh, dp⟩, mn⟩ := main FC SF nm X h0 ω c0 psi ng0 hc0 hh0 hω
  have pC : pcC R = pcC S := by
    unfold pcC
    rw [dR.1.1]
  have pR : pcR u = pcR s := by
    unfold pcR
    rw [du.1.1]
  refine ⟨⟨⟨fun k hk => ?_, by rw [i38]; exact ng.2.1, by rw [u52]; exact ng.2.2.1, by rw [u19]; exact ng.2.2.2.1, ng.2.2.2.2.d dR du⟩, hc, by rw [u11]; exact hh, dp.mv V (fun q hq go => by rw [v47]) (by rw [u11]; exact Int.le_refl _)⟩, fun fc fg hA tyc jr cur => mn (fc.d dR) (fg.d du) hA tyc jr (fun z => ?_)⟩
  · rw [a48, a49, v40]
    exact ng.1 k (by rw [← u38]; exact hk)
  · have y := cur (by rw [i36]; exact z)
    rw [pC, pR] at y
    exact y
theorem JRW.x (h : JRW A U B b V S s) : JRX A U B b V S s := ⟨fun r V' e z crB => absurd z (h.n5 crB r (by rw [e]; exact List.mem_cons_self)), fun _ => h⟩
theorem JRX.w {c : CEL} {L : List CEL} (h : JRX A U B b (vws S s (c :: L)) S s) (n5 : ¬ S.o c.2.1 0 = 305) : JRW A U B b (vws S s (c :: L)) S s := h.2 (fun r V' e => by
  cases e
  exact n5)
end
/-- the number of kinds is known -/
theorem COR.ku3 {d : Int32} {B : CS} {b : RS} {t0 : Nat} {L : List CEL} {x : Int} {S : CS} {s U : RS} (h : COR d B b t0 L x S s) (k : KU3 U b) : KU3 U s := ⟨k.1.trans h.2.2.2.2.2.1.2.2.2.2.1.symm, k.2⟩
section
variable {A : JBA} {U : RS} {B : CS} {b : RS} {S : CS} {s : RS} {r r' : RVW}
theorem v300 (v0 : r.v = 300) : (∀ k : Nat, ¬ rsite r k) ∧ ¬ isTyv r ∧ ¬ isGo r.v ∧ (∀ x : Int32, ¬ rhd r x) ∧ rtgs r = [] ∧ (∀ (G : GHT) (ω h l : Nat), jen G ω r h l = []) ∧ ¬ r.v = 218 ∧ ¬ (r.v = 218 ∨ r.v = 995) := by
  refine ⟨fun k h => ?_, ?_, ?_, fun x h => ?_, ?_, fun G ω h l => ?_, by rw [v0]; decide, by rw [v0]; decide⟩
  · unfold rsite at h
    rw [v0] at h
    rcases h with ⟨h, -⟩ | ⟨h, -⟩ | ⟨h, -⟩ | ⟨h, -⟩ <;> exact absurd h (by decide)
  · unfold isTyv isTy
    rw [v0]
    decide
  · unfold isGo
    rw [v0]
    decide
  · unfold rhd at h
    rw [v0] at h
    rcases h with ⟨h, -⟩ | ⟨h, -⟩ | ⟨h, -⟩ <;> exact absurd h (by decide)
  · unfold rtgs
    rw [v0, if_neg (by decide), if_neg (by decide), if_neg (by decide), if_neg (by decide), if_neg (by decide)]
  · unfold jen
    rw [v0, if_neg (by decide), if_neg (by decide), if_neg (by decide), if_neg (by decide), if_neg (by decide)]
theorem JRW.r0 (h : JRW A U B b [r] S s) (e1 : r'.1 = r.1) (e2 : r'.2.2 = r.2.2) (v0 : r.v = 300) : JRW A U B b [r'] S s := by
  intro crB
  have ev : r'.v = r.v := congrFun e1 0
  have v0' : r'.v = 300 := ev.trans v0
  obtain ⟨s1, t1, g1, d1, l1, j1, n1, m1⟩ := v300 v0
  obtain ⟨s2, t2, g2, d2, l2, j2, n2, m2⟩ := v300 v0'
  obtain ⟨k1, k2, k3, Ψ, G, col, YJ, sax, pin, tgi, ⟨jsi, kD, hds, swt⟩, main⟩ := h crB
  have mem : ∀ {P : RVW → Prop} {q : RVW}, q ∈ [r'] → P r' → P q := fun hq p => by rw [List.mem_singleton.mp hq]; exact p
  have nx : ∀ {P : RVW → Prop} {q : RVW}, ¬ P q → (∃ w ∈ [q], P w) → False := fun hn ⟨w, hw, p⟩ => hn (by rw [← List.mem_singleton.mp hw]; exact p)
  have pe : ∀ {q q' : RVW} (k : Nat), (∀ k : Nat, ¬ rsite q k) → PEN [q] col k → PEN [q'] col k := fun k hn p => p.elim Or.inl (fun z => (nx (P := fun w => rsite w k) (hn k) z).elim)
  have pt : ptl [r'] = ptl [r] := by
    show rtgs r' ++ [] = rtgs r ++ []
    rw [l1, l2]
  have db : DB G [r'] = DB G [r] := by
    show DB G [] + dbr (G r'.2.2.1) r'.v = DB G [] + dbr (G r.2.2.1) r.v
    rw [ev, e2]
  have jc : ∀ (ω h0 : Nat) (c0 : List Ent), JCX G ω h0 c0 [r'] = JCX G ω h0 c0 [r] := fun ω h0 c0 => by
    show (h0, 0 + jlv r'.v, jty r'.v (0 + jlv r'.v) 0, jen G ω r' h0 0 ++ c0) = (h0, 0 + jlv r.v, jty r.v (0 + jlv r.v) 0, jen G ω r h0 0 ++ c0)
    rw [j1, j2, ev]
  have nocol : ∀ j : Nat, col j = none := fun j => by
    cases hc : col j with
    | none => rfl
    | some x =>
      obtain ⟨g, k⟩ := x
      obtain ⟨-, w, hw, ⟨go, -⟩, -⟩ := jsi.2.1 j g k hc
      rw [List.mem_singleton.mp hw] at go
      exact absurd go g1
  have nv : ∀ v : Int32, ¬ v = 300 → ¬ r'.v = v := fun v hv z => hv (z.symm.trans v0')
  have nvr : ∀ v : Int32, ¬ v = 300 → ¬ r.v = v := fun v hv z => hv (z.symm.trans v0)
  refine ⟨k1, ⟨k2.1, (k2.2.c0 (by rw [v0]; decide) (NK.eq rfl rfl rfl rfl)).p0 (by rw [v0']; decide) (NK.eq rfl rfl rfl rfl)⟩, k3, Ψ, G, col, YJ, SAX.mo (fun k z => (nx (P := fun w => isTyv w ∧ (k : Int) = (w.2.1 66).toInt) (fun y => t2 y.1) z).elim) (fun k z => (nx (P := fun w => isTyv w ∧ (k : Int) = (w.2.1 72).toInt) (fun y => t2 y.1) z).elim) sax, ⟨fun k p => pin.1 k (pe k s2 p), fun k z => (nx (P := fun w => w.v = 218 ∧ (k : Int) = (w.2.1 67).toInt) (fun y => n2 y.1) z).elim, fun k z => (nx (P := fun w => isTyv w ∧ (k : Int) = (w.2.1 66).toInt) (fun y => t2 y.1) z).elim, fun k z => (nx (P := fun w => isTyv w ∧ (k : Int) = (w.2.1 72).toInt) (fun y => t2 y.1) z).elim⟩, ?_, ⟨⟨fun q hq go => absurd go (mem (P := fun w => ¬ isGo w.v) hq g2), fun j g k hc => absurd hc (by rw [nocol j]; exact fun z => by cases z), fun q hq k p => absurd p (mem (P := fun w => ¬ rsite w k) hq (s2 k)), ?_⟩, by rw [db]; exact kD, fun q hq x hx => absurd hx (mem (P := fun w => ¬ rhd w x) hq (d2 x)), fun q hq => ?_, fun q hq => ?_⟩, ?_⟩
  · unfold TGI at tgi ⊢
    rw [pt]
    exact tgi
  · exact ⟨fun k p => absurd p (s2 k), True.intro⟩
  · rw [List.mem_singleton.mp hq]
    exact ⟨fun z => absurd z n2, fun z => absurd z (nv _ (by decide)), fun z => absurd z (nv _ (by decide)), fun z => absurd z n2, fun z => absurd z t2, fun z => z.elim (fun z => absurd z (nv _ (by decide))) (fun z => absurd z (nv _ (by decide)))⟩
  · rw [List.mem_singleton.mp hq]
    exact ⟨fun z => absurd z n2, fun z => absurd z t2, nv _ (by decide)⟩
  intro FC SF nm X h0 ω c0 psi ng0 hc0 hh0 hω
  obtain ⟨⟨ng, hc, hh, dp⟩, mn⟩ := main FC SF nm X h0 ω c0 psi ng0 hc0 hh0 hω
  rw [jc]
  have nty : ¬ isTy r'.v := t2
  refine ⟨⟨ng, hc, hh, ⟨⟨fun z => absurd z g2, fun z => ?_, fun z => absurd z nty, fun z => absurd z (nv _ (by decide))⟩, True.intro⟩⟩, fun fc fg hA tyc jr cur => ?_⟩
  · unfold dfr at z
    rw [v0', if_neg (by decide)] at z
    exact absurd z (by decide)
  · have fc' : FGD [r] B S SF := fc.pl (fun y hy => by rw [← pt]; exact hy)
    have fg' : FGP [r] col b s U := fg.st (fun k p => pe k s2 p) (fun k z => (nx (P := fun w => w.v = 218 ∧ (k : Int) = (w.2.1 67).toInt) (fun y => n2 y.1) z).elim) (fun k z => (nx (P := fun w => isTyv w ∧ (k : Int) = (w.2.1 66).toInt) (fun y => t2 y.1) z).elim) (fun k z => (nx (P := fun w => isTyv w ∧ (k : Int) = (w.2.1 72).toInt) (fun y => t2 y.1) z).elim) (fun k z => (nx (P := fun w => (w.v = 218 ∨ w.v = 995) ∧ (k : Int) = (w.2.1 66).toInt) (fun y => m2 y.1) z).elim)
    have jr' : JRS FC SF U nm X G col YJ ω h0 c0 [r] := ⟨⟨fun z => absurd z (nvr _ (by decide)), fun z => absurd z (nvr _ (by decide)), fun z => absurd z (nvr _ (by decide)), fun z => absurd z (nvr _ (by decide)), fun z => absurd z (nvr _ (by decide)), fun z => absurd z (nvr _ (by decide)), fun z => absurd z (nvr _ (by decide)), fun z => absurd z t1, fun z => absurd z g1⟩, True.intro⟩
    have y := mn fc' fg' hA tyc jr' cur
    exact ⟨y.1, ⟨fun z => absurd z (nv _ (by decide)), fun z => absurd z (nv _ (by decide)), fun z => absurd z (nv _ (by decide)), fun z => absurd z (nv _ (by decide)), fun z => absurd z (nv _ (by decide))⟩, True.intro⟩
end
theorem NEW.mj {d : Int32} {B : CS} {b : RS} {t0 : Nat} {c : CEL} {L : List CEL} {R : CS} {u : RS} {J J' : List RVW → CS → RS → Prop} (h : NEW d B b t0 c L R u J) (f : ∀ (V : List RVW) (R : CS) (u : RS), J V R u → J' V R u) : NEW d B b t0 c L R u J' := by
  obtain ⟨c1, h1, h2, h3, h4⟩ := h
  exact ⟨c1, h1, h2, h3, f _ _ _ h4⟩
theorem OUTS.mj {N : Nat} {d : Int32} {B : CS} {b : RS} {t0 T : Nat} {c : CEL} {L : List CEL} {x : Int} {R : CS} {U : RS} {J J' : List RVW → CS → RS → Prop} (h : OUTS N d B b t0 T c L x R U J) (f : ∀ (V : List RVW) (R : CS) (u : RS), J V R u → J' V R u) : OUTS N d B b t0 T c L x R U J' := by
  rcases h with z | z | ⟨m, u, g, z⟩ | ⟨m, u, g, z, j⟩
  · exact Or.inl z
  · exact Or.inr (Or.inl z)
  · exact Or.inr (Or.inr (Or.inl ⟨m, u, g, z.mj f⟩))
  · exact Or.inr (Or.inr (Or.inr ⟨m, u, g, z, f _ _ _ j⟩))
section
variable {A : JBA} {U : RS} {B : CS} {b u : RS} {r : RVW}
theorem v302 (v0 : r.v = 300 ∨ r.v = 302) : (∀ k : Nat, ¬ rsite r k) ∧ ¬ isTyv r ∧ ¬ isGo r.v ∧ (∀ x : Int32, ¬ rhd r x) ∧ rtgs r = [] ∧ (∀ (G : GHT) (ω h l : Nat), jen G ω r h l = []) ∧ ∀ v : Int32, ¬ (v = 300 ∨ v = 302) → ¬ r.v = v := by
  refine ⟨fun k h => ?_, ?_, ?_, fun x h => ?_, ?_, fun G ω h l => ?_, fun v hv z => hv (by rw [← z]; exact v0)⟩
  · unfold rsite at h
    rcases v0 with v0 | v0 <;> rw [v0] at h <;> rcases h with ⟨h, -⟩ | ⟨h, -⟩ | ⟨h, -⟩ | ⟨h, -⟩ <;> exact absurd h (by decide)
  · unfold isTyv isTy
    rcases v0 with v0 | v0 <;> rw [v0] <;> decide
  · unfold isGo
    rcases v0 with v0 | v0 <;> rw [v0] <;> decide
  · unfold rhd at h
    rcases v0 with v0 | v0 <;> rw [v0] at h <;> rcases h with ⟨h, -⟩ | ⟨h, -⟩ | ⟨h, -⟩ <;> exact absurd h (by decide)
  · unfold rtgs
    rcases v0 with v0 | v0 <;> rw [v0, if_neg (by decide), if_neg (by decide), if_neg (by decide), if_neg (by decide), if_neg (by decide)]
  · unfold jen
    rcases v0 with v0 | v0 <;> rw [v0, if_neg (by decide), if_neg (by decide), if_neg (by decide), if_neg (by decide), if_neg (by decide)]
/-- the rows' code where the base's row alone stands -/
theorem JRW.ini (v0 : r.v = 300 ∨ r.v = 302) (i36 : B.i 36 = 1) (du : D52 b u) (e52 : u.i 52 = b.i 52) (nv : NMV b u) (l11 : (b.i 11).toInt + 1 ≤ (u.i 11).toInt) (l19 : (b.i 19).toInt ≤ (u.i 19).toInt) : JRW A U B b [r] B u := by
  intro crB
  obtain ⟨s2, t2, g2, d2, l2, j2, nv2⟩ := v302 v0
  have nx : ∀ {P : RVW → Prop} {q : RVW}, ¬ P q → (∃ w ∈ [q], P w) → False := fun hn ⟨w, hw, p⟩ => hn (by rw [← List.mem_singleton.mp hw]; exact p)
  have mem : ∀ {P : RVW → Prop} {q : RVW}, q ∈ [r] → P r → P q := fun hq p => by rw [List.mem_singleton.mp hq]; exact p
  have pt : ptl [r] = [] := by
    show rtgs r ++ [] = []
    rw [l2]
    rfl
  obtain ⟨G0, -⟩ : ∃ G0 : GHT, ∀ n : Nat, G0 n = (0, 0, []) := ⟨fun _ => (0, 0, []), fun _ => rfl⟩
  have db : DB G0 [r] = 0 := by
    show (0 : Int) + dbr (G0 r.2.2.1) r.v = 0
    unfold dbr
    rcases v0 with z | z <;> rw [z, if_neg (by decide), if_neg (by decide)] <;> rfl
  have jl : jlv r.v = 0 := by
    unfold jlv
    rcases v0 with z | z <;> rw [z, if_neg (by decide), if_neg (by decide), if_neg (by decide), if_neg (by decide)]
  have kd : KD2 (b.i 20).toInt b u := (KD2.rf (b.i 20).toInt b).d du
  have slu : SLO b → SLO u := fun q => by
    unfold SLO at q ⊢
    rw [du.1.2.2.2.2, du.1.1]
    exact q
  refine ⟨⟨0, Or.inl rfl, KD1.rf B⟩, ⟨CT7.rf _ _ B, ⟨fun _ _ _ => ⟨rfl, rfl⟩, by rw [show sl32 [r] = 0 + d32 r.v from rfl, d32.no (by rcases v0 with z | z <;> rw [z] <;> decide), e52, Int32.add_zero, Int32.add_zero]⟩⟩, kd, GPS.tt, G0, fun _ => none, fun _ => [], fun sl => ⟨⟨slu sl, fun k z => (nx (P := fun w => isTyv w ∧ (k : Int) = (w.2.1 72).toInt) (fun y => t2 y.1) z).elim⟩, fun _ => True, fun _ _ => False, ⟨fun _ _ z => z.elim, fun _ _ _ _ z => z.elim⟩, fun _ _ _ => True.intro⟩, ⟨fun k p => p.elim (fun z => absurd rfl z) (fun z => (nx (P := fun w => rsite w k) (s2 k) z).elim), fun k z => (nx (P := fun w => w.v = 218 ∧ (k : Int) = (w.2.1 67).toInt) (fun y => nv2 218 (by decide) y.1) z).elim, fun k z => (nx (P := fun w => isTyv w ∧ (k : Int) = (w.2.1 66).toInt) (fun y => t2 y.1) z).elim, fun k z => (nx (P := fun w => isTyv w ∧ (k : Int) = (w.2.1 72).toInt) (fun y => t2 y.1) z).elim⟩, ⟨by rw [pt]; exact List.nodup_nil, fun x hx => by rw [pt] at hx; exact absurd hx List.not_mem_nil⟩, ⟨⟨fun q hq go => absurd go (mem (P := fun w => ¬ isGo w.v) hq g2), fun j g k hc => (by cases hc), fun q hq k p => rfl, ⟨fun k p => absurd p (s2 k), True.intro⟩⟩, ⟨0, Or.inl rfl, by rw [db]; exact KD1.rf B⟩, fun q hq x hx => absurd hx (mem (P := fun w => ¬ rhd w x) hq (d2 x)), fun q hq => ?_, fun q hq => ?_⟩, ?_⟩
  · rw [List.mem_singleton.mp hq]
    exact ⟨fun z => absurd z (nv2 _ (by decide)), fun z => absurd z (nv2 _ (by decide)), fun z => absurd z (nv2 _ (by decide)), fun z => absurd z (nv2 _ (by decide)), fun z => absurd z t2, fun z => z.elim (fun z => absurd z (nv2 _ (by decide))) (fun z => absurd z (nv2 _ (by decide)))⟩
  · rw [List.mem_singleton.mp hq]
    exact ⟨fun z => absurd z (nv2 _ (by decide)), fun z => absurd z t2, nv2 _ (by decide)⟩
  intro FC SF nm X h0 ω c0 psi ng0 hc0 hh0 hω
  have jc : JCX G0 ω h0 c0 [r] = (h0, 0, jty r.v 0 0, c0) := by
    show (h0, 0 + jlv r.v, jty r.v (0 + jlv r.v) 0, jen G0 ω r h0 0 ++ c0) = _
    rw [j2, jl]
    rfl
  have nty : ¬ isTy r.v := t2
  rw [jc]
  have pR : pcR u = pcR b := by
    unfold pcR
    rw [du.1.1]
  refine ⟨⟨⟨fun k hk => ?_, ng0.2.1, by rw [e52]; exact ng0.2.2.1, Int.le_trans ng0.2.2.2.1 l19, ng0.2.2.2.2.d (D38.rf B) du⟩, hc0, Int.le_trans hh0 l11, ⟨⟨fun z => absurd z g2, fun z => ?_, fun z => absurd z nty, fun z => absurd z (nv2 _ (by decide))⟩, True.intro⟩⟩, fun fc fg hA tyc jr cur => ⟨?_, ⟨fun z => absurd z (nv2 _ (by decide)), fun z => absurd z (nv2 _ (by decide)), fun z => absurd z (nv2 _ (by decide)), fun z => absurd z (nv2 _ (by decide)), fun z => absurd z (nv2 _ (by decide))⟩, True.intro⟩⟩
  · have hk' : (k : Int) < (b.i 38).toInt := by rw [← nv.1]; exact hk
    rw [nv.2 k hk']
    exact ng0.1 k hk'
  · unfold dfr at z
    rcases v0 with y | y <;> rw [y, if_neg (by decide)] at z <;> exact absurd z (by decide)
  · have y := cur i36
    rw [pR] at y
    exact y
end
theorem gput_at {f : Nat → Int32} {n : Nat} {x v : Int32} (h : ib x n) : gPut f n x v x.toNatClampNeg = v := by
  unfold gPut
  rw [if_pos h]
  exact if_pos rfl
theorem gput_ne {f : Nat → Int32} {n : Nat} {x v : Int32} {j : Nat} (h : ¬ j = x.toNatClampNeg) : gPut f n x v j = f j := by
  unfold gPut
  by_cases c : ib x n
  · rw [if_pos c]
    exact if_neg h
  · rw [if_neg c]
