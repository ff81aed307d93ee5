/-! both readers: int NAME = EXPR; whole -/
/-- the class's name and what is told with it -/
theorem y_tell {N : Nat} {d : Int32} {S : CS} {s : RS} {l : Int64} {w : Int32 × CS} {v : Int32 × RS} (h : ENV (d + 1) S s) (hb : 8 * ((s.i 38).toInt - 1) ≤ (s.i 11).toInt + 1) (hn : ∀ k : Nat, (k : Int) < (s.i 38).toInt → ¬ s.b 39 k = l) (e : f_X7_tell N S l = some w) (g : f_X12_see N s l 0 = some v) : ENV d w.2 v.2 ∧ CKX S (CS.setI w.2 50 (S.i 50)) ∧ w.2.i 50 = S.i 50 + 1 ∧ w.2.i 43 = S.i 43 ∧ w.2.i 21 = S.i 21 ∧ w.2.i 36 = S.i 36 := by
  unfold f_X7_tell at e
  obtain ⟨a, ea, e⟩ := hf_bind e
  obtain ⟨b, eb, e⟩ := hf_bind e
  cases e
  have ka := kd_X0_newCells N S 1 a ea
  have kp := pj2_eq ka
  have va := h.kd ka
  have em : ¬ (0 ≤ (-1 : Int32).toInt) := by decide
  have bz : vp_nar .boolean (0 : Int32) = 0 := by decide
  have nm := ENV.nm va hb hn ⟨fun q => absurd q em, fun q => absurd bz q⟩ eb g
  have hh := nms_hi va
  have n1 := va.2.1.1
  unfold f_X4_add at eb
  have e128 : (128 : Int32).toInt = 128 := by decide
  rw [if_neg (show ¬ 128 ≤ a.2.i 50 from fun q => by have := le_int q; rw [n1] at this; omega)] at eb
  obtain ⟨i2, eb⟩ := hf_ite eb
  cases eb
  have i50 : a.2.i 50 = S.i 50 := (pj_eq kp.1).2.2.2.2.2.2.2.2.2.2.2.2.2.1
  have ck : CKX S a.2 := CKX.of kp.1 kp.2.2.2.2.1 kp.2.2.2.2.2.2.2.2.2.2.2
  refine ⟨nm.told, ?_, ?_, (show a.2.i 43 = S.i 43 from kp.2.2.2.2.2.2.2.1), (show a.2.i 21 = S.i 21 from pj_21 kp.1), (show a.2.i 36 = S.i 36 from ck.1.2.1)⟩
  · obtain ⟨⟨a1, a2, a3, a4, a5, a6⟩, b1, b2, b3, b4, b5, b6, b7, b8⟩ := ck
    exact ⟨⟨a1, a2, a3, ci_at _ _ _, a5, a6⟩, b1, b2, b3, b4, b5, b6, b7, b8⟩
  · show a.2.i 50 + 1 = S.i 50 + 1
    rw [i50]
/-- a name more: the class's cell -/
theorem cd_tell {N : Nat} {S : CS} {l : Int64} {w : Int32 × CS} (e : f_X7_tell N S l = some w) (h0 : 0 ≤ (S.i 50).toInt) (h1 : (S.i 50).toInt < 128) (c0 : 0 ≤ (S.i 23).toInt) (c1 : (S.i 23).toInt < 1000) : CD1 0 2 S w.2 ∧ w.1 = S.i 23 ∧ (w.2.i 23).toInt = (S.i 23).toInt + 1 ∧ w.2.a 17 = S.a 17 ∧ w.2.i 20 = S.i 20 ∧ w.2.i 21 = S.i 21 ∧ w.2.i 44 = S.i 44 ∧ (w.2.i 50).toInt = (S.i 50).toInt + 1 ∧ (w.2.a 48 (S.i 50).toNatClampNeg = S.i 23 ∧ w.2.a 49 (S.i 50).toNatClampNeg = -1) := by
  have e128 : (128 : Int32).toInt = 128 := by decide
  unfold f_X7_tell at e
  obtain ⟨a, ea, e⟩ := hf_bind e
  obtain ⟨b, eb, e⟩ := hf_bind e
  cases e
  unfold f_X0_newCells at ea
  cases ea
  unfold f_X4_add at eb
  have nlt : ¬ 128 ≤ S.i 50 := fun q => by
    have := le_int q
    omega
  rw [if_neg (show ¬ 128 ≤ (CS.setI S 23 (S.i 23 + 1)).i 50 from nlt)] at eb
  obtain ⟨i2, eb⟩ := hf_ite eb
  cases eb
  have s50 : (S.i 50 + 1).toInt = (S.i 50).toInt + 1 := ad1 h0 (by omega)
  have s23 : (S.i 23 + 1).toInt = (S.i 23).toInt + 1 := ad1 c0 (by omega)
  have ck := clampI h0
  have cc : ((S.i 23 + 1) - 1) = S.i 23 := Int32.add_sub_cancel _ _
  refine ⟨⟨⟨Int.le_refl _, ?_, ?_⟩, fun j _ => ⟨rfl, rfl⟩, Int.le_refl _, ?_, fun k hk => ⟨?_, ?_⟩, ⟨?_, ?_⟩, rfl, Int.le_refl _, fun _ _ => rfl⟩, cc, s23, rfl, rfl, rfl, rfl, s50, ⟨?_, ?_⟩⟩
  · show (S.i 20).toInt + (S.i 44).toInt ≤ (S.i 20).toInt + (S.i 44).toInt + 0
    omega
  · show (S.i 21).toInt + (S.i 44).toInt ≤ (S.i 21).toInt + (S.i 44).toInt + 2
    omega
  · show (S.i 50).toInt ≤ (S.i 50 + 1).toInt
    omega
  · exact if_neg (show ¬ k = (S.i 50).toNatClampNeg by omega)
  · exact if_neg (show ¬ k = (S.i 50).toNatClampNeg by omega)
  · show (S.i 23).toInt ≤ (S.i 23 + 1).toInt
    omega
  · show 2 * (S.i 23 + 1).toInt + (S.i 44).toInt ≤ 2 * (S.i 23).toInt + (S.i 44).toInt + 2
    omega
  · exact (if_pos rfl).trans cc
  · exact if_pos rfl
/-- the reference's slot -/
theorem see_cd {N : Nat} {s : RS} {l : Int64} {y : Int32} {z : Int32 × RS} (g : f_X12_see N s l y = some z) : z.1 = s.i 42 ∧ z.2.i 42 = s.i 42 + 1 ∧ z.2.a 40 (s.i 38).toNatClampNeg = s.i 42 := by
  unfold f_X12_see at g
  obtain ⟨i1, g⟩ := hf_ite g
  cases g
  exact ⟨Int32.add_sub_cancel _ _, rfl, if_pos rfl⟩
/-- a new name in the class: nothing else -/
theorem nn_pj {N : Nat} {S : CS} {P : Int64 × CS} (e : f_X7_newName N S = some P) (c : S.i 43 = 2) (h32 : P.2.i 32 = 0) : pj P.2 = pj S := by
  unfold f_X7_newName f_X7_newName_56 at e
  rw [e_fnd1 c, ob_some, if_neg n10] at e
  obtain ⟨F, eF, e⟩ := hf_bind e
  have k1 : pj F.2 = pj S := kc_X4_find N S _ F eF
  by_cases cF : F.1 < 0
  · rw [if_pos cF] at e
    obtain ⟨a, ea, e⟩ := hf_bind e
    cases e
    exact (kc_X9_advance N F.2 a ea).trans k1
  · rw [if_neg cF] at e
    obtain ⟨f, ef, e⟩ := hf_bind e
    cases e
    exact absurd h32 (y_fail (by decide) ef)
/-- a statement's code, with the names behind it -/
def CDW (a : Int) (T : JT9) (U : RS) (S : CS) (s : RS) (R : CS) (u : RS) : Prop := CRB S → CD1 a (-1) S R ∧ CT7 0 (S.i 21).toInt S R ∧ CD2 (s.i 20).toInt s u ∧ ∃ Ψ : GPS, SAT Ψ S s R u ∧ (∀ (FC : Nat → Prop) (nm : Nat → Nat → Prop) (c : List Ent), Ψ FC nm → NMG nm c S s → NMG nm c R u) ∧ ∀ (FC : Nat → Prop) (SF : CS) (nm : Nat → Nat → Prop) (X : Als) (c : List Ent) (h w2 W g0 : Nat), Ψ FC nm → FGC S R SF → FGR s u U → NMG nm c S s → HC0 nm h c → ((2 * h + 0 + msr c : Nat) : Int) ≤ (s.i 11).toInt → TYC SF U (GU FC SF U nm X) W c → W + 1 ≤ w2 → T FC SF nm X c h w2 → GU FC SF U nm X (pcC S) (pcR s) h (w2 + (pcC R - pcC S)) g0 c
theorem CDG.t {a : Int} {T : JT9} {U : RS} {S R : CS} {s u : RS} (h : CDG a T U S s R u) (n50 : S.i 50 = s.i 38) (e38 : u.i 38 = s.i 38) (a40 : ∀ j : Nat, (j : Int) < (s.i 38).toInt → u.a 40 j = s.a 40 j) (l19 : (s.i 19).toInt ≤ (u.i 19).toInt) : CDW a T U S s R u := fun cr => by
  obtain ⟨h1, h2, h3, Ψ, sat, h4⟩ := h cr
  exact ⟨h1, h2, h3, Ψ, sat, fun FC nm c _ ng => ng.mv n50 h1 h3 e38 a40 l19, h4⟩
/-- int NAME = EXPR: its code -/
theorem cdw_tell {N : Nat} {d d' : Int32} {S X1 X5 : CS} {s B u V U : RS} {l : Int64} {x9 : Int32 × CS} {z : Int32 × RS} {R : CS} (hv : ENV d S s) (pre1 : CD1 (-6) (-6) S X1) (pre7 : ∀ a b : Int, CT7 a b S X1) (pre2 : ∀ c : Int, CD2 c s B) (pC : X1.i 20 = S.i 20) (pR : B.i 20 = s.i 20) (B38 : B.i 38 = s.i 38) (B40 : ∀ j : Nat, (j : Int) < (s.i 38).toInt → B.a 40 j = s.a 40 j) (B11 : (s.i 11).toInt ≤ (B.i 11).toInt) (B19 : B.i 19 = s.i 19) (xc : CDE 0 U X1 B X5 u) (w1 : ENV d' X5 u) (u38 : u.i 38 = s.i 38) (u40 : ∀ j : Nat, (j : Int) < (s.i 38).toInt → u.a 40 j = s.a 40 j) (u19 : u.i 19 = s.i 19) (u11 : (s.i 11).toInt + 7 ≤ (u.i 11).toInt) (e9 : f_X7_tell N X5 l = some x9) (t50 : x9.2.i 50 = z.2.i 38) (hz : f_X12_see N u l 0 = some z) (v42 : V.i 42 = z.2.i 42 ∧ (V.i 20).toInt = (z.2.i 20).toInt + 1) (V38 : V.i 38 = z.2.i 38) (V40 : ∀ j : Nat, (j : Int) < (z.2.i 38).toInt → V.a 40 j = z.2.a 40 j) (V19 : V.i 19 = s.i 19) (one : ∀ (T : JT9), (∀ (FC : Nat → Prop) (SF : CS) (nm : Nat → Nat → Prop) (X : Als) (c : List Ent) (h w2 W g0 : Nat), PQX SF U (pcC x9.2) (pcR z.2) → HC0 nm h c → h < 600 → NM4 nm c x9.2 z.2 → TYC SF U (GU FC SF U nm X) W c → W + 1 ≤ w2 → SF.a 15 (pcC x9.2) = 2 → SF.a 16 (pcC x9.2) = x9.1 → U.a 21 (pcR z.2) = 5 → U.a 22 (pcR z.2) = z.1 → pcC R = pcC x9.2 + 1 → pcR V = pcR z.2 + 1 → T FC SF nm X c h w2 → GU FC SF U nm X (pcC x9.2) (pcR z.2) h (w2 + 1) g0 c) → CDO 0 T U x9.2 z.2 R V) : CDW (-1) (JGO U R V) U S s R V := by
  intro cr
  have n50 := hv.2.1.1
  have n5 := w1.2.1.1
  have hk8 := nms_hi w1
  have cr1 : CRB X1 := cr.of pre1 (by omega) (by omega)
  obtain ⟨f1, f2, f3, Ψ1, sat1, r1⟩ := xc cr1
  have cr5 : CRB X5 := cr1.of f1 (by omega) (by omega)
  have hi5 := (i11_hi w1).2
  have u44 : (X5.i 44).toInt = (u.i 11).toInt := by rw [w1.p44.1]
  have h50 : 0 ≤ (X5.i 50).toInt ∧ (X5.i 50).toInt < 128 := by rw [n5]; exact ⟨by omega, by omega⟩
  obtain ⟨d1, d2, d3, d4, d5, d6, d7, d8, d9, d10⟩ := cd_tell e9 h50.1 h50.2 cr5.2.2.2.1 (by have := cr5.2.2; omega)
  obtain ⟨g1, g2, g3⟩ := see_cd hz
  obtain ⟨⟨z0, z9⟩, zi38, zi, za, -, -, zr⟩ := y_see hz
  have c59 : CD1 0 0 X1 x9.2 → CRB x9.2 := fun q => cr1.of q (by omega) (by omega)
  have cS9 : CD1 (-6) (-5) S x9.2 := ((pre1.tr f1).tr d1).wk (by omega) (by omega)
  have cr9 : CRB x9.2 := cr.of cS9 (by omega) (by omega)
  obtain ⟨k1, k2, k3, k4⟩ := one (fun FC SF nm X c h' w2 => ∃ h w : Nat, h' = h + 1 ∧ w ≤ w2 ∧ GU2 FC SF U nm X (pcC R) (pcR V) h w c ∧ ∃ a b : Nat, x9.1.toInt = (a : Int) ∧ z.1.toInt = (b : Int) ∧ nm a b) (fun FC SF nm X c h' w2 W g0 pq hc h6 ng ty hW x1 x2 x3 x4 x5 x6 tt => by
    obtain ⟨h, w, eh, hw, hg, a, b, y1, y2, y3⟩ := tt
    exact gi_UStor (pq.hc hc) pq.2.1 ⟨⟨a, b, by rw [x2]; exact y1, by rw [x4]; exact y2, y3⟩, Or.inl ⟨x1, x3, h, eh, w, by omega, by rw [← x5, ← x6]; exact hg.1⟩⟩) cr9
  have z20 : z.2.i 20 = u.i 20 := zi 20 (by decide) (by decide)
  have pu := w1.p20
  -- the reference behind the formula
  have cuV : CD2 (u.i 20).toInt u V := by
    have k3' := k3.2
    rw [z20] at k3'
    refine ⟨⟨by rw [← z20]; exact k3.1.1, ?_, ?_, ?_, fun sl => ?_, ?_⟩, fun j hj => ?_, fun j hj => ?_, fun j hj => ?_, fun j hj => ?_⟩
    · rw [← zi 24 (by decide) (by decide)]
      exact k3.1.2.1
    · rw [← zi 29 (by decide) (by decide)]
      exact k3.1.2.2.1
    · rw [← zi 33 (by decide) (by decide)]
      exact k3.1.2.2.2.1
    · have s1 : (u.i 42 + 1).toInt = (u.i 42).toInt + 1 := ad1 sl.1 (by have := sl.2; omega)
      refine ⟨by rw [v42.1, g2, s1]; omega, by rw [v42.1, g2, s1]; have := sl.1; omega, by rw [v42.1, g2, s1, v42.2, z20]; have := sl.2; omega⟩
    · rw [← zi 52 (by decide) (by decide)]
      exact k3.1.2.2.2.2.2
    · rw [← za 21 (by decide) (by decide), ← za 22 (by decide) (by decide), ← za 23 (by decide) (by decide)]
      exact k3'.1 j hj
    · rw [← za 25 (by decide) (by decide), ← za 26 (by decide) (by decide), ← za 27 (by decide) (by decide), ← za 28 (by decide) (by decide)]
      exact k3'.2.1 j (by rw [zi 24 (by decide) (by decide)]; exact hj)
    · rw [← za 30 (by decide) (by decide), ← za 31 (by decide) (by decide), ← za 32 (by decide) (by decide)]
      exact k3'.2.2.1 j (by rw [zi 29 (by decide) (by decide)]; exact hj)
    · rw [← za 34 (by decide) (by decide), ← za 35 (by decide) (by decide), ← za 36 (by decide) (by decide), ← za 37 (by decide) (by decide)]
      exact k3'.2.2.2 j (by rw [zi 33 (by decide) (by decide)]; exact hj)
  have c5R : CD1 0 2 X5 R := (d1.tr k1).wk (by omega) (by omega)
  have l20 := f3.1.1
  have lB : (B.i 20).toInt = (s.i 20).toInt := by rw [pR]
  have csV : CD2 (s.i 20).toInt s V := (pre2 _).tr ((f3.wk (by omega)).tr (cuV.wk (by omega)))
  have cSR : CD1 (-6) (-5) S R := ((pre1.tr f1).tr c5R).wk (by omega) (by omega)
  -- the names behind
  have ngE : ∀ (nm : Nat → Nat → Prop) (c : List Ent), (∃ a b : Nat, x9.1.toInt = (a : Int) ∧ z.1.toInt = (b : Int) ∧ nm a b) → NMG nm c S s → NM4 nm c x9.2 z.2 ∧ NMG nm c R V := fun nm c hn ng => by
    obtain ⟨a, b, y1, y2, y3⟩ := hn
    have i38 : (z.2.i 38).toInt = (s.i 38).toInt + 1 := by
      rw [zi38, ad1 z0 (by omega), u38]
    have ck : (((s.i 38).toNatClampNeg : Nat) : Int) = (s.i 38).toInt := clampI (by rw [← u38]; exact z0)
    have n55 : X5.i 50 = s.i 38 := n5.trans u38
    rw [n55] at d9 d10 d8
    rw [u38] at g3
    have n9 : NM4 nm c x9.2 z.2 := by
      refine ⟨fun k hk => ?_, by rw [cS9.2.2.2.2.2.2.1]; exact ng.2.1, by rw [zi 52 (by decide) (by decide), f3.1.2.2.2.2.2, (pre2 0).1.2.2.2.2.2]; exact ng.2.2.1, by rw [zi 19 (by decide) (by decide), u19]; exact ng.2.2.2.1⟩
      rw [i38] at hk
      by_cases q : (k : Int) < (s.i 38).toInt
      · obtain ⟨x1, x2⟩ := cS9.2.2.2.2.1 k (by rw [n50]; exact q)
        rw [x1, x2, (zr k (by rw [u38]; exact q)).2.1, u40 k q]
        exact ng.1 k q
      · have ek : k = (s.i 38).toNatClampNeg := by omega
        rw [ek, d9, d10, g3]
        have em : (-1 : Int32).toInt = -1 := by decide
        refine ⟨fun _ => ⟨a, b, by rw [← d2]; exact y1, by rw [← g1]; exact y2, y3⟩, fun z => ?_⟩
        rw [em] at z
        omega
    exact ⟨n9, (n9.mv t50 k1 k3 V38 V40 (by rw [V19, zi 19 (by decide) (by decide), u19]; exact Int.le_refl _)).g (ng.2.2.2.2.mv cSR.2.2.2.2.2.1.1 csV.1.2.2.2.2.1)⟩
  refine ⟨cSR.wk (by omega) (by omega), ?_, csV, GPS.an Ψ1 (fun _ nm => ∃ a b : Nat, x9.1.toInt = (a : Int) ∧ z.1.toInt = (b : Int) ∧ nm a b), ?_, fun FC nm c ps ng => (ngE nm c ps.2 ng).2, ?_⟩
  · exact ((pre7 _ _).tr (f2.wk (Int.le_refl _) pre1.2.2.1)).tr ((CT7.eq d4).tr (k2.wk (Int.le_refl _) (by rw [d6]; have := pre1.2.2.1; have := f1.2.2.1; omega)))
  · have satP : SAT (fun _ nm => ∃ a b : Nat, x9.1.toInt = (a : Int) ∧ z.1.toInt = (b : Int) ∧ nm a b) X5 u R V := fun sl => by
      have s1 : (u.i 42 + 1).toInt = (u.i 42).toInt + 1 := ad1 sl.1 (by have := sl.2; omega)
      have ca : ((x9.1.toNatClampNeg : Nat) : Int) = x9.1.toInt := clampI (by rw [d2]; exact cr5.2.2.2.1)
      have cb : ((z.1.toNatClampNeg : Nat) : Int) = z.1.toInt := clampI (by rw [g1]; exact sl.1)
      have R23 := k1.2.2.2.2.2.1.1
      have ea : x9.1.toInt = (X5.i 23).toInt := by rw [d2]
      have eb : z.1.toInt = (u.i 42).toInt := by rw [g1]
      have V42 : (V.i 42).toInt = (u.i 42).toInt + 1 := by rw [v42.1, g2, s1]
      refine ⟨(cuV.1.2.2.2.2.1 sl).2, fun _ => True, fun k l => k = x9.1.toNatClampNeg ∧ l = z.1.toNatClampNeg, ⟨fun k l h => ?_, fun c l c' l' h h' => ?_⟩, fun FC nm g => ⟨_, _, ca.symm, cb.symm, (g.2 _ _ (Or.inl ⟨by omega, by omega⟩)).mpr ⟨rfl, rfl⟩⟩⟩
      · obtain ⟨h1, h2⟩ := h
        rw [h1, h2]
        exact ⟨⟨by omega, by omega⟩, by omega, by omega⟩
      · exact ⟨fun _ => h.2.trans h'.2.symm, fun _ => h.1.trans h'.1.symm⟩
    exact (SAT.an sat1 satP (MNO.of f1 f3) (MNO.of c5R cuV)).wd (MNO.of pre1 (pre2 0)) (MNO.of (CD1.rf R) (CD2.rf 0 V))
  intro FC SF nm X c h w2 W g0 ps fc fr ng hc hh ty hW tt
  obtain ⟨w, hw, hg⟩ := tt
  have pcX : pcC x9.2 = pcC X5 := by unfold pcC; rw [d5]
  have prZ : pcR z.2 = pcR u := by unfold pcR; rw [z20]
  have pcS : pcC X1 = pcC S := by unfold pcC; rw [pC]
  have prS : pcR B = pcR s := by unfold pcR; rw [pR]
  have fc9 : FGC x9.2 R SF := fc.sub cS9 (CD1.rf R) (CT7.rf _ _ R)
  have csu : CD2 (s.i 20).toInt s u := (pre2 _).tr (f3.wk (by omega))
  have fru : FGR u V U := fr.sub csu (CD2.rf 0 V) (fun _ _ _ => ⟨rfl, rfl, rfl⟩)
  have frz : FGR z.2 V U := by
    unfold FGR at fru ⊢
    rw [z20, zi 24 (by decide) (by decide), zi 29 (by decide) (by decide), zi 33 (by decide) (by decide)]
    exact fru
  have z11 : z.2.i 11 = u.i 11 := zi 11 (by decide) (by decide)
  have zz := k4 FC SF nm X c (h + 1) w2 W 0 fc9 frz (ngE nm c ps.2 ng).1 (hc.up (Nat.le_succ _)) (by rw [z11]; omega) ty hW ⟨h, w, rfl, hw, hg, ps.2⟩
  rw [pcX, prZ] at zz
  have ngB : NMG nm c X1 B := ng.mv n50 pre1 (pre2 0) B38 B40 (by rw [B19]; exact Int.le_refl _)
  have fc1 : FGC X1 X5 SF := fc.sub pre1 c5R ((CT7.eq d4).tr (k2.wk cr1.2.1 (by rw [d6]; exact Int.le_refl _)))
  have fr1 : FGR B u U := fr.sub (pre2 0) cuV (cuV.c3 (Int.le_refl _))
  have zf := r1 FC SF nm X c h (w2 + (pcC R - pcC X5)) W g0 ps.1 fc1 fr1 ngB hc (by omega) ty (by omega) True.intro zz
  rw [pcS, prS] at zf
  have le1 : pcC S ≤ pcC X5 := by
    have a := pre1.1.1
    have b := f1.1.1
    unfold pcC
    omega
  have le2 : pcC X5 ≤ pcC R := by
    have a := c5R.1.1
    unfold pcC
    omega
  rw [show w2 + (pcC R - pcC S) = w2 + (pcC R - pcC X5) + (pcC X5 - pcC S) by omega]
  exact zf
def SXD (N : Nat) (K : Int32) (P : CS → RS → Prop) (Q : RS → CS → RS → CS → RS → Prop) (F : CS → Option (Unit × CS)) : Prop := ∀ (d : Int32) (S : CS) (s U : RS) (n t : Nat) (R : Unit × CS), ENV d S s → P S s → S.i 36 = 1 → tpI s = t → s.a 64 t = K → s.a 65 t = 0 → 2 ≤ phI s → F S = some R → f_X12_parse_10 N n s = some U → (¬ R.2.i 32 = 0 ∧ ¬ U.i 15 = 0) ∨ ∃ (m : Nat) (u : RS), f_X12_parse_10 N m u = some U ∧ DON d t S s R.2 u ∧ Q U S s R.2 u
theorem SXK.d {N : Nat} {K tok : Int32} {P : CS → RS → Prop} {F : CS → Option (Unit × CS)} {Q : RS → CS → RS → CS → RS → Prop} (h : SXK N K tok P F Q) : SXD N K (fun S s => P S s ∧ S.i 43 = tok) (fun U S s R u => u.i 38 = s.i 38 ∧ Q U S s R u) F := by
  intro d S s U n t R hv hP h36 ht hk hs h2 e g
  rcases h d S s U n t R hv hP.1 h36 ht hk hs h2 hP.2 e g with z | ⟨m, u, g2, xo, x75, xq⟩
  · exact Or.inl z
  · obtain ⟨dn, u38⟩ := xo.don x75
    exact Or.inr ⟨m, u, g2, dn, u38, xq⟩
set_option maxHeartbeats 4000000 in
theorem sx_tell {N : Nat} (hN : 1000 ≤ N) {E1 : CS → Option (Unit × CS)} {E2 : CS → Option (Int32 × CS)} (hm1 : ∀ σ, Kf (CS.i σ 32) (E1 σ)) (hm2 : ∀ σ, Kf (CS.i σ 32) (E2 σ)) (hE : SXR N 18 E1) : SXD N 4 (fun S s => (S.i 43 = 200 ∨ S.i 43 = 201) ∧ 8 * ((s.i 38).toInt - 2) ≤ (s.i 11).toInt) (fun U S s R u => R.i 36 = 1 ∧ CDW (-1) (JGO U R u) U S s R u) (fun S => (f_X9_advance N S).bind fun p7 => (f_X7_newName N p7.2).bind fun p11 => (f_X7_define N E1 E2 p11.2 p11.1).bind fun p15 => (f_X1_expect N p15.2 59).bind fun p19 => some ((), p19.2)) := by
  intro d S s U n t R hv hP h36 ht hk hs h2 e g
  obtain ⟨h43, h8⟩ := hP
  obtain ⟨m, V, hV, g2⟩ := rl_4 g ht hv.1.2.1 hk
  unfold f_X12_tell at hV
  obtain ⟨hib, hV⟩ := hf_ite hV
  have t9 : t < 1000 := by
    have h2 : (s.i 63).toInt = (t : Int) := ht
    have := hib.2
    omega
  rw [tp_nat ht, if_pos hs] at hV
  obtain ⟨q, hq, hV⟩ := hf_bind hV
  obtain ⟨p7, e7, e⟩ := hf_bind e
  obtain ⟨p11, e11, e⟩ := hf_bind e
  obtain ⟨p15, e15, e⟩ := hf_bind e
  obtain ⟨p19, e19, e⟩ := hf_bind e
  cases e
  have nz : ¬ S.i 43 = 0 := fun z => by
    rcases h43 with y | y <;> rw [y] at z <;> exact absurd z (by decide)
  obtain ⟨a1, tq, fq, kq, cq, l11, pq, q17, q19⟩ := y_nx hN hv ht nz e7 hq
  obtain ⟨-, adv, -, b9⟩ := y_adv hN hv.1 e7 hq
  rw [if_pos a1.1.2.1] at hV
  obtain ⟨Q, hQ, hV⟩ := hf_bind hV
  have e63 : q.i 63 = s.i 63 := Int32.toInt_inj.mp (by
    have x : (q.i 63).toInt = (t : Int) := tq
    have y : (s.i 63).toInt = (t : Int) := ht
    omega)
  rw [← e63] at hQ
  unfold f_X7_define at e15
  obtain ⟨x1, ex1, e15⟩ := hf_bind e15
  obtain ⟨x5, ex5, e15⟩ := hf_bind e15
  obtain ⟨x9, ex9, e15⟩ := hf_bind e15
  obtain ⟨x13, ex13, e15⟩ := hf_bind e15
  cases e15
  have f5 : ¬ x5.2.i 32 = 0 → ¬ p19.2.i 32 = 0 := fun z => by
    have z1 : ¬ x9.2.i 32 = 0 := by rw [kF_X7_tell N x5.2 p11.1 x9 ex9 z]; exact z
    have z2 : ¬ x13.2.i 32 = 0 := by rw [fst_add ex13]; exact z1
    rw [kF_X1_expect N x13.2 59 p19 e19 z2]
    exact z2
  have f1 : ¬ x1.2.i 32 = 0 → ¬ p19.2.i 32 = 0 := fun z => f5 (by rw [kF_X1_expression N E1 E2 hm1 hm2 x1.2 x5 ex5 z]; exact z)
  rcases y_newName hN a1 tq e11 hQ with ⟨o1, o2, o3⟩ | ⟨o1, c2, l1, b74, fresh, v1, v2, v3, v4, v5, v6, v7, v8, v9, v10⟩
  · rw [if_pos o1] at hV
    cases hV
    refine Or.inl ⟨f1 ?_, u_flt g2 o3⟩
    rw [kF_X1_expect N p11.2 61 x1 ex1 o2]
    exact o2
  rw [if_neg (show ¬ Q.1 = 0 by rw [o1]; decide)] at hV
  obtain ⟨b, hb, hV⟩ := hf_bind hV
  rw [ob_id] at hV
  rcases y_need hN v1 (c := 61) (d := 61) (Or.inl ⟨by decide, by decide⟩) (by decide) (by decide) (by decide) ex1 hb with ⟨o1', o2, o3⟩ | ⟨o1', o2, o3, o4, o5, o6, o7, o8, o9, o10, o11, o12⟩
  · exact Or.inl ⟨f1 o2, u_flt g2 (krf_f_X12_then N b.2 1 16 V hV o3)⟩
  have tb := qj_63 o4 v2
  have b17 : (b.2.i 17).toInt = (Q.2.i 17).toInt + 1 := by rw [o6]; exact t17_up (N := N) v1
  have pb : phI b.2 = phI Q.2 + 3 := by
    unfold phI
    rw [o8, b17]
    omega
  have fb : FRB (t + 1) Q.2 b.2 := FRB.of o4
  have kb : TBK Q.2 b.2 := TBK.of o4 (by rw [o8]; exact Int.le_refl _) (fun j _ => by rw [o9])
  have b64 : b.2.a 64 t = 4 := by
    rw [(fb t (by omega)).1, v4 64 (by decide) (by decide), (fq (t + 1) t (by omega)).1]
    exact hk
  have bb74 : b.2.b 74 t = q.l := ((fb t (by omega)).2.2.2.2.2.2.2.2.2.2).trans b74
  rcases y_expr hN hm1 hm2 hE o3 tb (by omega) ex5 hV g2 with ⟨x1', x2'⟩ | ⟨m2, u, g3, ⟨w1, w2, ⟨r0, r1, -, -, -, -, -, -, -, -, r10⟩, w4, w5, w6, w7, w8, w9, w10⟩, xc⟩
  · exact Or.inl ⟨f5 x1', x2'⟩
  obtain ⟨m3, V3, hV3, g4⟩ := rl_4 g3 w2 w1.1.2.1 (r0.trans b64)
  unfold f_X12_tell at hV3
  obtain ⟨-, hV3⟩ := hf_ite hV3
  rw [tp_nat w2, if_neg (show ¬ u.a 65 t = 0 by rw [r1]; decide), r10.trans bb74] at hV3
  obtain ⟨z, hz, hV3⟩ := hf_bind hV3
  obtain ⟨y, hy, hV3⟩ := hf_bind hV3
  obtain ⟨c, hc, hV3⟩ := hf_bind hV3
  rw [ob_id] at hV3
  -- places
  have tbu : TBK q u := (v5.tr kb).tr w5
  have u38 : u.i 38 = s.i 38 := tbu.1.1.2.2.2.1.trans kq.1.1.2.2.2.1
  have q38 : q.i 38 = s.i 38 := kq.1.1.2.2.2.1
  have p4 : (s.i 11).toInt + 4 ≤ (q.i 11).toInt := by
    have l3 := hv.lb.1.2.1 h43
    have al : ALW (S.i 43) := Or.inr (by rcases h43 with y | y <;> rw [y] <;> decide)
    have an : ALN (p7.2.i 43) := Or.inl (by rw [c2]; decide)
    have gp := adv.2.2.2.1 al an
    rw [hv.1.2.2.2.1.1, hv.1.2.2.2.1.2.1] at l3
    rw [hv.1.2.2.2.1.2.1, a1.1.2.2.2.1.1] at gp
    omega
  have u11 : (s.i 11).toInt + 7 ≤ (u.i 11).toInt := by omega
  have fr : ∀ k : Nat, (k : Int) < (u.i 38).toInt → ¬ u.b 39 k = q.l := fun k hk z => by
    rw [u38, ← q38] at hk
    rw [(tbu.1.2.1 k hk).1] at z
    exact fresh k hk z
  rw [l1] at ex9
  obtain ⟨t1, t2, t3, t4, t5, t6⟩ := y_tell w1 (by rw [u38]; omega) fr ex9 hz
  obtain ⟨s1, s2, s3, s4, s5, s6⟩ := see_tbr hz
  have tz : tpI z.2 = t := by
    show (z.2.i 63).toInt = (t : Int)
    rw [(y_see hz).2.2.1 63 (by decide) (by decide)]
    exact w2
  rcases y_tail hN t1 tz t9 (by omega) ex13 e19 hy hc hV3 with ⟨j1, j2⟩ | ⟨⟨j1, j2, j3, j4, j5, j6, j7, j8, j9, j10⟩, -, v42, one⟩
  · exact Or.inl ⟨j1, u_flt g4 j2⟩
  have zi := (y_see hz).2.2.1
  have z11 : z.2.i 11 = u.i 11 := zi 11 (by decide) (by decide)
  have z17 : z.2.i 17 = u.i 17 := zi 17 (by decide) (by decide)
  have z19 : z.2.i 19 = u.i 19 := zi 19 (by decide) (by decide)
  have z20 : z.2.i 20 = u.i 20 := zi 20 (by decide) (by decide)
  -- the class, all of it
  have ck1 : CKX S x5.2 := (((cq.tr v6).tr (CKX.of o5 o10 o11)).tr w6)
  have ck2 : CKX S (CS.setI x9.2 50 (x5.2.i 50)) := ck1.tr t2
  have V38 : V3.i 38 = z.2.i 38 := j4.1.1.2.2.2.1
  have tbs : TBK s u := kq.tr tbu
  have tr1 : TBR s V3 := (tbs.1.r.tr s1 (by rw [u38]; exact Int.le_refl _) (by rw [tbs.1.1.2.2.2.2.1]; exact Int.le_refl _) (by rw [tbs.1.1.2.2.2.2.2.2.1]; exact Int.le_refl _)).tr j4.1.r (by rw [s6, u38]; omega) (by rw [s3.2.2.2.1, tbs.1.1.2.2.2.2.1]; exact Int.le_refl _) (by rw [s3.2.2.2.2.2.1, tbs.1.1.2.2.2.2.2.2.1]; exact Int.le_refl _)
  have l20 : (s.i 20).toInt ≤ (u.i 20).toInt := tbs.2.1
  obtain ⟨⟨a1', a2', a3', -, a5', a6'⟩, b1', b2', b3', b4', b5', b6', b7', b8'⟩ := ck2
  obtain ⟨⟨c1', c2', c3', c4', c5', c6'⟩, d1', d2', d3', d4', d5', d6', d7', d8'⟩ := j5
  have A1 : x9.2.i 22 = S.i 22 := a1'
  have A2 : x9.2.i 36 = S.i 36 := a2'
  have A3 : x9.2.i 38 = S.i 38 := a3'
  have A5 : x9.2.i 53 = S.i 53 := a5'
  have A6 : x9.2.i 56 = S.i 56 := a6'
  have B1 : ∀ k : Nat, (k : Int) < (S.i 53).toInt → x9.2.r 51 k = S.r 51 k := b1'
  have B2 : ∀ k a : Nat, (k : Int) < (S.i 53).toInt → S.r 51 k = some a → x9.2.o a = S.o a ∧ x9.2.ol a = S.ol a := b2'
  have B3 : ∀ k : Nat, (k : Int) < (S.i 22).toInt → x9.2.a 18 k = S.a 18 k := b3'
  have B4 : (S.i 54).toInt ≤ (x9.2.i 54).toInt := b4'
  have B5 : (S.i 55).toInt ≤ (x9.2.i 55).toInt := b5'
  have B6 : ∀ k : Nat, (k : Int) < (S.i 55).toInt → x9.2.a 52 k = S.a 52 k := b6'
  have B7 : ∀ k : Nat, (S.i 55).toInt ≤ (k : Int) → (k : Int) < (x9.2.i 55).toInt → x9.2.a 52 k = 0 ∨ (2 * (S.i 54).toInt + 1 < (x9.2.a 52 k).toInt ∧ (x9.2.a 52 k).toInt ≤ 2 * (x9.2.i 54).toInt + 1) := b7'
  have B8 : RTE S x9.2 := b8'
  have B9 : RTE x9.2 p19.2 := d8'
  have ckz : CKZ S p19.2 := by
    refine ⟨c1'.trans A1, fun k hk => (d1' k (by rw [A5]; exact hk)).trans (B1 k hk), fun k a hk ha => ?_, fun k hk => (d3' k (by rw [A1]; exact hk)).trans (B3 k hk), Int.le_trans B4 d4', Int.le_trans B5 d5', fun k hk => (d6' k (by omega)).trans (B6 k hk), fun k h1 h2 => ?_⟩
    · have e := B2 k a hk ha
      have f := d2' k a (by rw [A5]; exact hk) ((B1 k hk).trans ha)
      exact ⟨f.1.trans e.1, f.2.trans e.2⟩
    · by_cases cc : (k : Int) < (x9.2.i 55).toInt
      · rw [d6' k cc]
        rcases B7 k h1 cc with z | z
        · exact Or.inl z
        · exact Or.inr ⟨z.1, by omega⟩
      · rcases d7' k (by omega) h2 with z | z
        · exact Or.inl z
        · exact Or.inr ⟨by omega, z.2⟩
  have rte : RTE S p19.2 := by
    unfold RTE at *
    omega
  obtain ⟨t21, t22, t23, t24, t25, t26, t27, t28, t29, t210⟩ := tbs.1.1
  obtain ⟨n21, n22, n23, n24, n25, n26, n27, n28, n29⟩ := s3
  obtain ⟨k21, k22, k23, -, k25, k26, k27, k28, k29, k210⟩ := j4.1.1
  have j7' : (u.i 11).toInt + 1 ≤ (V3.i 11).toInt := by rw [← z11]; exact j7
  have j9' : (u.i 17).toInt + 1 ≤ (V3.i 17).toInt := by rw [← z17]; exact j9
  refine Or.inr ⟨m3, V3, g4, ⟨j1, j2, (((fq t).tr (v3.tr (FRB.of o4))).tr w4).tr ((s4 t).tr (j3 t)), tr1, (tbs.2.tr (s2.wk l20)).tr (j4.2.wk (by rw [z20]; exact l20)), ⟨k21.trans (n21.trans t21), k22.trans (n22.trans t22), k23.trans (n23.trans t23), k25.trans (n24.trans t25), k26.trans (n25.trans t26), k27.trans (n26.trans t27), k28.trans (n27.trans t28), k29.trans (n28.trans t29), k210.trans (n29.trans t210)⟩, ckz, ⟨c3'.trans A3, c5'.trans A5, c6'.trans A6⟩, rte, ⟨by omega, by omega, by omega, by rw [j10, z19, w10, o12, v10, q19]⟩, ?_, fun _ => ?_, ?_⟩, c2'.trans (A2.trans h36), ?_⟩
  rotate_right
  · obtain ⟨-, -, -, -, -, -, -, -, -, -, -, -, -, i50, -, -, -, -, -, -, a48, a49, -, -, -, -, -, i21, -⟩ := pj_eq (kc_X9_advance N S p7 e7)
    have ke7 := ke_X9_advance N S p7 e7
    have h44 : (S.i 44).toInt + 4 ≤ (p7.2.i 44).toInt := by rw [hv.p44.1, a1.p44.1]; exact p4
    have y1 : CD1 (-4) (-4) S p7.2 := CD1.pe (b := 4) ke7 i21 i50 a48 a49 h44
    obtain ⟨y2, y3, y4, y5, -, y6⟩ := tok_cd a1 v1 (nn_pj e11 c2 v1.1.1) (ke_X7_newName N p7.2 p11 e11) (kre_f_X12_telling N q _ Q hQ) v7
    obtain ⟨y7, y8, y9, y10, -, y11⟩ := tok_cd v1 o3 o5 (ke_X1_expect N p11.2 61 x1 ex1) (kre_f_X12_need N Q.2 61 b hb) o7
    have qq := kre_f_X12_next N s q hq
    have tsb : TBK s b.2 := (kq.tr v5).tr kb
    exact cdw_tell hv (((y1.tr y2).tr y7).wk (by omega) (by omega)) (fun a b => ((CT7.eq (pe_eq ke7).2.2.2.1).tr (y3 a b)).tr (y8 a b)) (fun c => ((CD2.qe qq).tr (y4 c)).tr (y9 c)) (y10.trans (y5.trans (pe_eq ke7).1)) (y11.trans (y6.trans (qe_eq qq).1.1)) tsb.1.1.2.2.2.1 (fun j hj => (tsb.1.2.1 j hj).2.1) (by omega) (by rw [o12, v10, q19]) xc w1 u38 (fun j hj => (tbs.1.2.1 j hj).2.1) (by rw [w10, o12, v10, q19]) u11 ex9 t1.2.1.1 hz v42 V38 (fun j hj => (j4.1.2.1 j hj).2.1) (by rw [j10, z19, w10, o12, v10, q19]) (one U)
  · rw [j6]
    exact ⟨(c2'.trans (A2.trans h36)).symm, Or.inr (c2'.trans (A2.trans h36))⟩
  · rw [V38, s6, u38]
    rw [z11] at j7
    omega
  · rw [V38, s6, u38]
    omega
