section
/-! both readers: one arm, behind its numbers -/
theorem y_need {N : Nat} (hN : 1000 ≤ N) {dl : Int32} {S : CS} {s : RS} {R : Unit × CS} {V : Int32 × RS} {c d : Int32} (h : ENV dl S s) (hc : tyR c) (hd : tm c = d) (h6 : ¬ d = 6) (h0 : ¬ c = 0) (e : f_X1_expect N S c = some R) (g : f_X12_need N s d = some V) : (V.1 = 0 ∧ ¬ R.2.i 32 = 0 ∧ ¬ V.2.i 15 = 0) ∨ (V.1 = 1 ∧ S.i 43 = c ∧ ENV dl R.2 V.2 ∧ qj V.2 = qj s ∧ pj R.2 = pj S ∧ V.2.i 17 = s.i 17 + 1 ∧ (s.i 11).toInt + 1 ≤ (V.2.i 11).toInt ∧ V.2.i 20 = s.i 20 ∧ V.2.a 22 = s.a 22 ∧ R.2.i 22 = S.i 22 ∧ A18 S R.2 ∧ V.2.i 19 = s.i 19) := by
  have is := h.1.2.2.2.1.is hc hd
  have h15 := h.1.2.1
  unfold f_X1_expect at e
  unfold f_X12_need f_X12_need_27 f_X12_need_31 at g
  rw [if_pos h15] at g
  by_cases k : S.i 43 = c
  · have k' := is.mp k
    rw [e_fnd1 k, ob_some, if_neg n10] at e
    rw [if_pos k', y_can1 h15 (by rw [k']; exact h6), ob_some, if_neg n10] at g
    obtain ⟨p, ep, e⟩ := hf_bind e
    obtain ⟨q, gq, g⟩ := hf_bind g
    have nx := h.adv hN (fun z => h0 (k.symm.trans z)) ep gq
    rw [if_pos nx.1.1.2.1] at g
    cases e
    cases g
    exact Or.inr ⟨rfl, k, nx⟩
  · have k' : ¬ s.i 10 = d := fun q => k (is.mpr q)
    rw [e_fnd0 k, ob_some, if_pos rfl] at e
    rw [if_neg k'] at g
    obtain ⟨p, ep, e⟩ := hf_bind e
    obtain ⟨q, gq, g⟩ := hf_bind g
    obtain ⟨q1, q2⟩ := y_can0 gq
    rw [if_pos q1, if_neg q2] at g
    cases e
    cases g
    exact Or.inl ⟨rfl, y_misp ep, q2⟩
/-- an arm is done in both -/
def AXO (d : Int32) (t : Nat) (S : CS) (s : RS) (R : CS) (u : RS) : Prop := ENV d R u ∧ tpI u = (t : Int) ∧ (u.a 64 t = 19 ∧ u.a 65 t = 2 ∧ u.a 66 t = s.a 66 t ∧ u.a 67 t = s.a 67 t ∧ u.a 68 t = s.a 68 t) ∧ FRB t s u ∧ TBK s u ∧ CKX S R ∧ (s.i 11).toInt + 1 ≤ (u.i 11).toInt ∧ phI s + 1 ≤ phI u ∧ (s.i 17).toInt + 1 ≤ (u.i 17).toInt ∧ u.i 19 = s.i 19
/-- an arm's row can be paid, its goal stands on top -/
def GAR (S : CS) (s : RS) : Prop := SGS S (cnI S).toNat + 1 ≤ sgI S ∧ WCS S (cnI S).toNat + 9 ≤ (s.i 11).toInt ∧ 0 < (s.i 43).toInt ∧ s.a 44 ((s.i 43).toInt - 1).toNat = 3 ∧ (S.i 21).toInt ≤ 3 * (s.i 11).toInt ∧ (S.i 54).toInt ≤ (s.i 11).toInt
theorem GAR.mv {S R : CS} {s u : RS} (h : GAR S s) (w : RWI S) (ck : CKX S R) (e34 : R.i 34 = S.i 34) (tb : TBZ s u) (h11 : (s.i 11).toInt ≤ (u.i 11).toInt) (e21 : R.i 21 = S.i 21) (e54 : R.i 54 = S.i 54) : GAR R u := by
  obtain ⟨h1, h2, h3, h4, h5⟩ := h
  obtain ⟨q1, q2⟩ := ck.sum w
  have e43 : u.i 43 = s.i 43 := tb.1.2.2.2.2.1
  refine ⟨by rw [q1]; unfold sgI at *; rw [e34]; exact h1, by rw [q2]; omega, by rw [e43]; exact h3, ?_, by rw [e21]; omega, by rw [e54]; omega⟩
  rw [e43, (tb.2.2.1 _ (by omega)).1]
  exact h4
/-- behind the arms all is good -/
def EXG (FC : Nat → Prop) (SF : CS) (U : RS) (nm : Nat → Nat → Prop) (X : Als) (x3 : Int32) (q0 h we : Nat) (c : List Ent) : Prop := ∃ pe qe : Nat, (cTg SF x3).toInt = (pe : Int) ∧ (U.a 23 q0).toInt = (qe : Int) ∧ GU FC SF U nm X pe qe (h + 1) we 0 c ∧ 0 ≤ x3.toInt ∧ x3.toInt ≤ 5000
/-- an arm's code: from its first place on all is good, if it is behind the arms -/
def ARC (x3 : Int32) (q0 : Nat) (U : RS) (S : CS) (s : RS) (R : CS) (u : RS) : Prop := ∃ Ψ : GPS, SAT Ψ S s R u ∧ ∀ (FC : Nat → Prop) (SF : CS) (nm : Nat → Nat → Prop) (X : Als) (c : List Ent) (h w W we g0 : Nat), Ψ FC nm → FGC S R SF → FGR s u U → NMG nm ((5, h, q0, 0, 0, 0, 0) :: c) S s → HC0 nm h c → ((2 * h + msr c : Nat) : Int) + 2 ≤ (s.i 11).toInt → TYC SF U (GU FC SF U nm X) W c → W + 1 ≤ w → we ≤ w → EXG FC SF U nm X x3 q0 h we c → g0 ≤ 1 → GU FC SF U nm X (pcC S) (pcR s) h (w + (pcC R - pcC S)) g0 ((5, h, q0, 0, 0, 0, 0) :: c)
theorem ARC.pre {x3 : Int32} {q0 : Nat} {U : RS} {S A R : CS} {s q u : RS} {d e c' : Int} (h : ARC x3 q0 U A q R u) (x : CD1 d e S A) (y : CD2 c' s q) (pC : pcC A = pcC S) (pR : pcR q = pcR s) (n : S.i 50 = s.i 38) (e38 : q.i 38 = s.i 38) (a40 : ∀ j : Nat, (j : Int) < (s.i 38).toInt → q.a 40 j = s.a 40 j) (l : (s.i 11).toInt ≤ (q.i 11).toInt) (l19 : (s.i 19).toInt ≤ (q.i 19).toInt) : ARC x3 q0 U S s R u := by
  obtain ⟨Ψ, sat, h⟩ := h
  refine ⟨Ψ, sat.wd (MNO.of x y) (MNO.of (CD1.rf R) (CD2.rf 0 u)), fun FC SF nm X c h' w W we g0 ps fc fr ng hc hh ty hW hE ex hg => ?_⟩
  have z := h FC SF nm X c h' w W we g0 ps (fc.sub x (CD1.rf R) (CT7.rf _ _ R)) (fr.sub y (CD2.rf 0 u) (fun _ _ _ => ⟨rfl, rfl, rfl⟩)) (ng.mv n x y e38 a40 l19) hc (by omega) ty hW hE ex hg
  rw [pC, pR] at z
  exact z
theorem gs_are {FC : Nat → Prop} {s0 : CS} {r0 : RS} {nm : Nat → Nat → Prop} {X : Als} {p q h w g pe qe we : Nat} {a : Ent} {c : List Ent} (pq : PQX s0 r0 p q) (k : HC0 nm h (a :: c)) (e1 : s0.a 15 p = 30) (e2 : r0.a 21 q = 30) (ea : a.k = 5) (ht : (cTg s0 (s0.a 16 p)).toInt = (pe : Int)) (hx : (r0.a 23 a.x).toInt = (qe : Int)) (l : we + 1 ≤ w) (z : GU FC s0 r0 nm X pe qe h we 0 c) : GU FC s0 r0 nm X p q h w g (a :: c) := gi_UAre (pq.hc k) pq.2.1 ⟨e1, e2, a, c, rfl, ea, pe, qe, we, ⟨ht, hx⟩, l, z⟩
theorem HC0.arm {nm : Nat → Nat → Prop} {h q : Nat} {c : List Ent} (z : HC0 nm h c) : HC0 nm h ((5, h, q, 0, 0, 0, 0) :: c) := by
  obtain ⟨z1, z2, z3, z4⟩ := z
  refine ⟨⟨fun k y => ?_, fun l y => ?_, z1⟩, z2, z3, fun e he => ?_⟩
  · rcases y with ⟨y, -⟩ | ⟨y, -⟩ <;> exact absurd (show (5 : Nat) = _ from y) (by decide)
  · exact absurd (show (5 : Nat) = 2 from y.1) (by decide)
  · rcases List.mem_cons.mp he with rfl | he
    · exact Nat.le_refl _
    · exact z4 e he
theorem TYC.arm {SF : CS} {U : RS} {AL : Als} {W h q : Nat} {c : List Ent} (z : TYC SF U AL W c) : TYC SF U AL W ((5, h, q, 0, 0, 0, 0) :: c) := ⟨fun y => absurd (show (5 : Nat) = 1 from y) (by decide), fun y => y.elim (fun y => absurd (show (5 : Nat) = 1 from y) (by decide)) (fun y => absurd (show (5 : Nat) = 2 from y) (by decide)), z⟩
/-- the goal on top was made at this depth -/
def G47 (s : RS) : Prop := 0 < (s.i 43).toInt ∧ s.a 47 ((s.i 43).toInt - 1).toNat = s.i 52
theorem G47.mv {s u : RS} (h : G47 s) (tb : TBZ s u) (e52 : u.i 52 = s.i 52) : G47 u := by
  have e43 : u.i 43 = s.i 43 := tb.1.2.2.2.2.1
  have h0 := h.1
  refine ⟨by rw [e43]; exact h0, ?_⟩
  rw [e43, (tb.2.2.1 _ (by omega)).2.2.2.1, e52]
  exact h.2
/-- the code of an arm's block -/
def ABD (x3 : Int32) (t : Nat) (U : RS) (S : CS) (s : RS) (R : CS) (u : RS) : Prop := ∀ q0 : Nat, (s.a 66 t).toInt = (q0 : Int) → CRB S → G47 s → CD1 0 (-1) S R ∧ CT7 0 (S.i 21).toInt S R ∧ CD2 (s.i 20).toInt s u ∧ ARC x3 q0 U S s R u
/-- the code of an arm, with its target x4 -/
def ACD (x3 x4 : Int32) (t : Nat) (U : RS) (S : CS) (s : RS) (R : CS) (u : RS) : Prop := ∀ q0 : Nat, (s.a 66 t).toInt = (q0 : Int) → CRB S → G47 s → 0 ≤ x4.toInt → x4.toInt < (S.i 21).toInt → CD1 0 (-1) S R ∧ (∀ k : Nat, (k : Int) < (S.i 21).toInt → ¬ (k : Int) = x4.toInt → R.a 17 k = S.a 17 k) ∧ cTg R x4 = S.i 20 ∧ CD2 (s.i 20).toInt s u ∧ ARC x3 q0 U S s R u
/-- what the block of an arm must do -/
def ABK (N : Nat) (A : CS → Int32 → Option (Unit × CS)) : Prop := ∀ (d x : Int32) (S : CS) (s V U : RS) (n t : Nat) (R : Unit × CS), ENV d S s → GAR S s → tpI s = t → s.a 64 t = 19 → S.i 43 = 123 → 3 ≤ phI s → A S x = some R → ((f_X12_open N s 123).bind fun p65 => (f_X12_then N (RS.setA p65.2 71 t (p65.2.i 38)) 6 1).bind fun p67 => some p67) = some V → f_X12_parse_10 N n V = some U → (¬ R.2.i 32 = 0 ∧ ¬ U.i 15 = 0) ∨ ∃ (m : Nat) (u : RS), f_X12_parse_10 N m u = some U ∧ AXO d t S s R.2 u ∧ ABD x t U S s R.2 u
theorem qj_63 {s u : RS} {t : Nat} (h : qj u = qj s) (ht : tpI s = t) : tpI u = t := by
  have r1 : u.i 63 = s.i 63 := congrArg (fun v : QJT => v.1.2.2.2.2.2.2.2.2.2.2.2.2.2.2.2.2.1) h
  show (u.i 63).toInt = (t : Int)
  rw [r1]
  exact ht
theorem y_arm100 {N : Nat} (hN : 1000 ≤ N) {E1 : CS → Option (Unit × CS)} {E2 : CS → Option (Int32 × CS)} (hm1 : ∀ σ, Kf (CS.i σ 32) (E1 σ)) (hm2 : ∀ σ, Kf (CS.i σ 32) (E2 σ)) (hE : SXR N 18 E1) (hB : ABK N (f_X7_armBlock N E1 E2)) {d : Int32} {S : CS} {s U : RS} {n t : Nat} {R : Int32 × CS} {x3 x4 x5 : Int32} (hv : ENV d S s) (hG : GAR S s) (ht : tpI s = t) (hk : s.a 64 t = 19) (hs : s.a 65 t = 5) (e : f_X1_arm_100 N E1 E2 S x3 x4 x5 = some R) (g : f_X12_parse_10 N n s = some U) : (¬ R.2.i 32 = 0 ∧ ¬ U.i 15 = 0) ∨ ∃ (m : Nat) (u : RS), f_X12_parse_10 N m u = some U ∧ AXO d t S s R.2 u ∧ R.1 = x5 ∧ ACD x3 x4 t U S s R.2 u := by
  obtain ⟨m, V, hV, g2⟩ := rl_19 g ht hv.1.2.1 hk
  have ph0 := hv.2.2.2.2.2.2.2.1
  unfold f_X12_arms at hV
  obtain ⟨hib, hV⟩ := hf_ite hV
  rw [tp_nat ht, if_neg (show ¬ s.a 65 t = 0 by rw [hs]; decide), if_neg (show ¬ s.a 65 t = 1 by rw [hs]; decide), if_neg (show ¬ s.a 65 t = 2 by rw [hs]; decide), if_neg (show ¬ s.a 65 t = 3 by rw [hs]; decide), if_neg (show ¬ s.a 65 t = 4 by rw [hs]; decide), if_pos hs] at hV
  unfold f_X1_arm_100 f_X1_arm_153 at e
  obtain ⟨p, e1, e⟩ := hf_bind e
  obtain ⟨a, e2, e⟩ := hf_bind e
  obtain ⟨q, hq, hV⟩ := hf_bind hV
  have ka := kd_X0_aim N p.2 x4 a e2
  have kp := pj2_eq ka
  have per : ¬ a.2.i 32 = 0 → ¬ R.2.i 32 = 0 := fun z => by
    by_cases c : a.2.i 43 = 123
    · rw [e_fnd1 c, ob_some, if_neg n10] at e
      obtain ⟨b, eb, e⟩ := hf_bind e
      cases e
      show ¬ b.2.i 32 = 0
      rw [kF_X7_armBlock N E1 E2 hm1 hm2 a.2 x3 b eb z]
      exact z
    · rw [e_fnd0 c, ob_some, if_pos rfl] at e
      obtain ⟨x, ex, e⟩ := hf_bind e
      obtain ⟨y, ey, e⟩ := hf_bind e
      obtain ⟨w, ew, e⟩ := hf_bind e
      cases e
      have z1 : ¬ x.2.i 32 = 0 := by rw [kF_X1_expression N E1 E2 hm1 hm2 a.2 x ex z]; exact z
      have z2 : ¬ y.2.i 32 = 0 := by rw [kF_X1_expect N x.2 59 y ey z1]; exact z1
      show ¬ w.2.i 32 = 0
      rw [fst_add ew]
      exact z2
  rcases y_need hN hv (c := 134) (d := 306) (Or.inl ⟨by decide, by decide⟩) (by decide) (by decide) (by decide) e1 hq with ⟨o1, o2, o3⟩ | ⟨o1, o2, o3, o4, o5, o6, o7, o8, o9, o10, o11, o12⟩
  · rw [if_neg o3] at hV
    unfold f_X12_arms_400 at hV
    rw [ob_id] at hV
    exact Or.inl ⟨per (by rw [kp.2.1]; exact o2), u_flt g2 (krf_f_X12_then N q.2 7 16 V hV o3)⟩
  · rw [if_pos o3.1.2.1] at hV
    have oa := o3.kd ka
    have tq := qj_63 o4 ht
    have fq : FRB (t + 1) s q.2 := FRB.of o4
    have fqt := fq t (by omega)
    have q64 : q.2.a 64 t = 19 := fqt.1.trans hk
    have i123 := tk_is oa (a := 123) (b := 123) (Or.inl ⟨by decide, by decide⟩) (by decide)
    have t17 : (q.2.i 17).toInt = (s.i 17).toInt + 1 := by rw [o6]; exact t17_up (N := N) hv
    have pq : phI q.2 = phI s + 3 := by
      unfold phI
      rw [o8, t17]
      omega
    have cka : CKX S a.2 := (CKX.of o5 o10 o11).tr (CKX.of kp.1 kp.2.2.2.2.1 kp.2.2.2.2.2.2.2.2.2.2.2)
    have tbq : TBK s q.2 := TBK.of o4 (by rw [o8]; exact Int.le_refl _) (fun j _ => by rw [o9])
    have q44 : (S.i 44).toInt = (s.i 11).toInt := by rw [hv.p44.1]
    have q44' := hv.p44
    have pre : ∀ q0 : Nat, (s.a 66 t).toInt = (q0 : Int) → CRB S → G47 s → 0 ≤ x4.toInt → x4.toInt < (S.i 21).toInt → ∀ (R : CS) (u : RS), (CRB a.2 → G47 q.2 → CD1 0 (-1) a.2 R ∧ CT7 0 (a.2.i 21).toInt a.2 R ∧ CD2 (q.2.i 20).toInt q.2 u ∧ ARC x3 q0 U a.2 q.2 R u) → CD1 0 (-1) S R ∧ (∀ k : Nat, (k : Int) < (S.i 21).toInt → ¬ (k : Int) = x4.toInt → R.a 17 k = S.a 17 k) ∧ cTg R x4 = S.i 20 ∧ CD2 (s.i 20).toInt s u ∧ ARC x3 q0 U S s R u := fun q0 h66 cr g47 y0 y1 R u hA => by
      obtain ⟨a1, a2, a3, a4, a5, a6⟩ := tok_cd hv o3 o5 (ke_X1_expect N S 134 p e1) (kre_f_X12_need N s 306 q hq) o7
      have crp : CRB p.2 := cr.of a1 (by omega) (by omega)
      obtain ⟨b1, b2, b3, b4, b5, b6, b7, b8⟩ := cd_aim e2 y0 (by have := cr.2.2; omega)
      have cra : CRB a.2 := crp.of b1 (by omega) (by omega)
      have i21 : a.2.i 21 = S.i 21 := b7.trans a5
      obtain ⟨c1, c2, c3, c4⟩ := hA cra (g47.mv tbq.1 (a3 0).1.2.2.2.2.2)
      rw [i21] at c2
      refine ⟨((a1.tr b1).tr c1).wk (by omega) (by omega), fun k k1 k2 => ?_, ?_, (a3 _).tr (c3.wk (by rw [a6]; exact Int.le_refl _)), c4.pre (a1.tr b1) (a3 0) (by unfold pcC; rw [b6, a4]) (by unfold pcR; rw [a6]) hv.2.1.1 tbq.1.1.2.2.2.1 (fun j hj => (tbq.1.2.1 j hj).2.1) (by omega) (by rw [o12]; exact Int.le_refl _)⟩
      · rw [c2 k (by omega) k1, b2 k k2]
        exact a2 0 (S.i 21).toInt k (by omega) k1
      · have i9 : ib x4 1024 := ⟨y0, by have := cr.2.2; omega⟩
        have ck := clampI y0
        rw [← a4, ← b3]
        unfold cTg gAt
        rw [if_pos i9, if_pos i9]
        exact c2 _ (by omega) (by omega)
    by_cases c : a.2.i 43 = 123
    · rw [if_pos (i123.mp c)] at hV
      rw [e_fnd1 c, ob_some, if_neg n10] at e
      obtain ⟨b, eb, e⟩ := hf_bind e
      cases e
      rcases hB d x3 a.2 q.2 V U m t b oa (hG.mv hv.ri cka (by rw [oa.2.2.1.1, o12, hv.2.2.1.1]) tbq.1 (by omega) ((pj_21 kp.1).trans (pj_21 o5)) ((pj_54 kp.1).trans (pj_54 o5))) tq q64 c (by omega) eb hV g2 with z | ⟨m2, u, g3, ⟨w1, w2, ⟨w31, w32, w33, w34, w35⟩, w4, w5, w6, w7, w8, w9, w10⟩, abd⟩
      · exact Or.inl z
      · refine Or.inr ⟨m2, u, g3, ⟨w1, w2, ⟨w31, w32, w33.trans fqt.2.2.1, w34.trans fqt.2.2.2.1, w35.trans fqt.2.2.2.2.1⟩, (FRB.of o4).tr w4, tbq.tr w5, cka.tr w6, by omega, by omega, by omega, w10.trans o12⟩, rfl, fun q0 h66 cr g47 y0 y1 => ?_⟩
        exact pre q0 h66 cr g47 y0 y1 b.2 u (fun cra g47' => abd q0 (by rw [fqt.2.2.1]; exact h66) cra g47')
    · rw [if_neg (fun z => c (i123.mpr z))] at hV
      unfold f_X12_arms_400 at hV
      rw [ob_id] at hV
      rw [e_fnd0 c, ob_some, if_pos rfl] at e
      obtain ⟨x, ex, e⟩ := hf_bind e
      obtain ⟨y, ey, e⟩ := hf_bind e
      obtain ⟨w, ew, e⟩ := hf_bind e
      cases e
      obtain ⟨hV', t99⟩ := r_then tq hV
      rw [hV'] at g2
      rcases sx_expression hN hm1 hm2 hE d a.2 (TH q.2 t 7 16) U m (t + 1) x oa.th (TH.tp tq (by omega)) TH.fk TH.fs (show 3 ≤ phI q.2 by omega) ex g2 with ⟨x1, x2⟩ | ⟨m2, u, g3, xo, xc⟩
      · refine Or.inl ⟨?_, x2⟩
        show ¬ w.2.i 32 = 0
        rw [fst_add ew, kF_X1_expect N x.2 59 y ey x1]
        exact x1
      · obtain ⟨w1, w2, w3, w4, w5, w6, w7, w8, w9⟩ := xo
        have fut := w3 t (by omega)
        have u64 : u.a 64 t = 19 := by
          rw [fut.1, TH.fk0 (Nat.le_refl t)]
          exact q64
        have u65 : u.a 65 t = 7 := by
          rw [fut.2.1]
          exact TH.st
        have tu : tpI u = t := by
          rw [w2]
          omega
        have w6' : (q.2.i 11).toInt + 1 ≤ (u.i 11).toInt := w6
        have w7' : phI q.2 + 1 ≤ phI u := w7
        have w8' : (q.2.i 17).toInt + 1 ≤ (u.i 17).toInt := w8
        have w9' : u.i 19 = q.2.i 19 := w9
        obtain ⟨m3, V3, hV3, g4⟩ := rl_19 g3 tu w1.1.2.1 u64
        unfold f_X12_arms at hV3
        obtain ⟨-, hV3⟩ := hf_ite hV3
        rw [tp_nat tu, if_neg (show ¬ u.a 65 t = 0 by rw [u65]; decide), if_neg (show ¬ u.a 65 t = 1 by rw [u65]; decide), if_neg (show ¬ u.a 65 t = 2 by rw [u65]; decide), if_neg (show ¬ u.a 65 t = 3 by rw [u65]; decide), if_neg (show ¬ u.a 65 t = 4 by rw [u65]; decide), if_neg (show ¬ u.a 65 t = 5 by rw [u65]; decide), if_neg (show ¬ u.a 65 t = 6 by rw [u65]; decide)] at hV3
        obtain ⟨z, hz, hV3⟩ := hf_bind hV3
        obtain ⟨y2, hy2, hV3⟩ := hf_bind hV3
        cases hV3
        rcases y_need hN w1 (c := 59) (d := 59) (Or.inl ⟨by decide, by decide⟩) (by decide) (by decide) (by decide) ey hz with ⟨b1, b2, b3⟩ | ⟨b1, b2, b3, b4, b5, b6, b7, b8, b9, b10, b11, b12⟩
        · refine Or.inl ⟨?_, u_flt g4 (show ¬ y2.2.i 15 = 0 from krf_f_X12_emit N z.2 30 0 y2 hy2 b3)⟩
          show ¬ w.2.i 32 = 0
          rw [fst_add ew]
          exact b2
        · have z17 : (z.2.i 17).toInt = (u.i 17).toInt + 1 := by rw [b6]; exact t17_up (N := N) w1
          have pz : phI z.2 = phI u + 3 := by
            unfold phI
            rw [b8, z17]
            omega
          obtain ⟨n1, n2, n3, n4, n5, n6⟩ := em_env b3 (by omega) hy2
          have kw := kd_X0_add N y.2 30 x3 w ew
          have kwp := pj2_eq kw
          have nq := qj2_eq n3
          have ty : tpI y2.2 = t := qj_63 nq.1 (qj_63 b4 tu)
          have fz : FRB (t + 1) u z.2 := FRB.of b4
          have fy : FRB (t + 1) z.2 y2.2 := FRB.of nq.1
          have fzt := fz t (by omega)
          have fyt := fy t (by omega)
          have fin : ∀ k : Nat, ¬ k = 65 → (RS.setA y2.2 65 t 2).a k t = y2.2.a k t := fun k hk => by
            show (if k = 65 then upd (y2.2.a 65) t 2 else y2.2.a k) t = y2.2.a k t
            rw [if_neg hk]
          have e65 : (RS.setA y2.2 65 t 2).a 65 t = 2 := by
            show upd (y2.2.a 65) t 2 t = 2
            exact if_pos rfl
          have tb : TBK y2.2 (RS.setA y2.2 65 t 2) := ⟨setA_tb0 (Or.inr (by omega)), Int.le_refl _, fun _ _ => rfl⟩
          refine Or.inr ⟨m3, _, g4, ⟨setA_env (Or.inr (by omega)) (n1.kd kw), ty, ⟨?_, e65, ?_, ?_, ?_⟩, ?_, (((tbq.tr TH.tbk).tr w4).tr (TBK.of b4 (by rw [b8]; exact Int.le_refl _) (fun j _ => by rw [b9]))).tr (n2.tr tb), ((cka.tr w5).tr (CKX.of b5 b10 b11)).tr (CKX.of kwp.1 kwp.2.2.2.2.1 kwp.2.2.2.2.2.2.2.2.2.2.2), ?_, ?_, ?_, ?_⟩, rfl, fun q0 h66 cr g47 y0 y1 => pre q0 h66 cr g47 y0 y1 w.2 _ (fun cra _ => ?_)⟩
          · rw [fin 64 (by decide), fyt.1, fzt.1]
            exact u64
          · rw [fin 66 (by decide), fyt.2.2.1, fzt.2.2.1, fut.2.2.1]
            exact fqt.2.2.1
          · rw [fin 67 (by decide), fyt.2.2.2.1, fzt.2.2.2.1, fut.2.2.2.1]
            exact fqt.2.2.2.1
          · rw [fin 68 (by decide), fyt.2.2.2.2.1, fzt.2.2.2.2.1, fut.2.2.2.2.1]
            exact fqt.2.2.2.2.1
          · exact (((((FRB.of o4).tr TH.frb).tr (w3.mo (by omega))).tr (FRB.of b4)).tr (FRB.of nq.1)).tr (setA_frb (Or.inr ⟨by omega, by omega, Nat.le_refl _⟩))
          · show (s.i 11).toInt + 1 ≤ (y2.2.i 11).toInt
            rw [nq.2.2.1]
            omega
          · show phI s + 1 ≤ phI y2.2
            omega
          · show (s.i 17).toInt + 1 ≤ (y2.2.i 17).toInt
            rw [nq.2.2.2.2.2.2.2.1]
            omega
          · show y2.2.i 19 = s.i 19
            rw [nq.2.2.2.2.2.2.2.2.1, b12, w9', o12]
          · obtain ⟨f1, f2, f3, f4⟩ := xc cra
            have crx : CRB x.2 := cra.of f1 (by omega) (by omega)
            obtain ⟨j1, j2, j3, j4, j5, j6⟩ := tok_cd w1 b3 b5 (ke_X1_expect N x.2 59 y ey) (kre_f_X12_need N u 59 z hz) b7
            have cry : CRB y.2 := crx.of j1 (by omega) (by omega)
            have y44 := b3.p44
            have y44' : (y.2.i 44).toInt = (z.2.i 11).toInt := by rw [y44.1]
            obtain ⟨d1, d2, ⟨d3, d3'⟩, d4, d5, d6⟩ := cd_add ew cry.1.1 (by have := cry.1.2; omega)
            have p20 := b3.p20
            obtain ⟨m1, -, m3e, m4e, -, -⟩ := cd_emit hy2 p20.1 (by omega)
            have sT : CD2 (q.2.i 20).toInt q.2 (TH q.2 t 7 16) := CD2.qe rfl
            have su : CD2 (q.2.i 20).toInt q.2 u := sT.tr f3
            have uz : CD2 (u.i 20).toInt u (RS.setA y2.2 65 t 2) := ((j3 _).tr (m1.wk (by rw [j6]; exact Int.le_refl _))).tr (CD2.qe rfl)
            have cxw : CD1 0 (-1) x.2 w.2 := (j1.tr d1).wk (by omega) (by omega)
            have txw : ∀ a b : Int, CT7 a b x.2 w.2 := fun a b => (j2 a b).tr (CT7.eq d4)
            obtain ⟨Ψ1, sat1, f4⟩ := f4
            refine ⟨(f1.tr cxw).wk (by omega) (by omega), f2.tr (txw _ _), su.tr (uz.wk su.1.1), Ψ1, sat1.wd (MNO.of (CD1.rf a.2) sT) (MNO.of cxw uz), ?_⟩
            intro FC SF nm X c h w0 W we g0 ps fc fr ng hc hh ty hW hE ex _
            obtain ⟨pe', qe', ex1, ex2, ex3, -⟩ := ex
            have pai : ((pcC a.2 : Nat) : Int) = (a.2.i 20).toInt := Int.toNat_of_nonneg cra.1.1
            have pxi : ((pcC x.2 : Nat) : Int) = (x.2.i 20).toInt := Int.toNat_of_nonneg crx.1.1
            have pyi : pcC y.2 = pcC x.2 := by unfold pcC; rw [j4]
            have p20u := w1.p20
            have pui : ((pcR u : Nat) : Int) = (u.i 20).toInt := Int.toNat_of_nonneg p20u.1
            have pzi : pcR z.2 = pcR u := by unfold pcR; rw [j6]
            have lax := f1.1.1
            have pw : pcC w.2 = pcC x.2 + 1 := by
              rw [← pyi]
              unfold pcC
              rw [d2]
              have := cry.1.1
              omega
            have f15 := fc.2.1 (pcC x.2) (by omega) (by rw [d2, j4]; omega)
            rw [pyi] at d3 d3'
            rw [pzi] at m4e
            have lsu := su.1.1
            have u21 := fr.2.1 (pcR u) (by omega) (by show _ < (y2.2.i 20).toInt; rw [m3e, j6]; omega)
            have fr1 : (y2.2.i 20).toInt ≤ (U.i 20).toInt := fr.1.2.1
            rw [m3e, j6] at fr1
            have plt : pcC x.2 < 1200 := by
              have x44 : (x.2.i 44).toInt = (u.i 11).toInt := by rw [w1.p44.1]
              have := crx.1.2
              have := w1.p44
              omega
            have pq9 : PQX SF U (pcC x.2) (pcR u) := ⟨plt, by omega, fr.1.2.2⟩
            have z0 := gs_are (g := 0) (w := w0 + 1) (a := (5, h, q0, 0, 0, 0, 0)) pq9 (hc.arm.up (by omega)) (by rw [f15.1]; exact d3) (by rw [u21.1]; exact m4e) rfl (by rw [f15.2, d3']; exact ex1) ex2 (by omega) ex3
            have z1 := f4 FC SF nm X ((5, h, q0, 0, 0, 0, 0) :: c) h (w0 + 1) W g0 ps (fc.sub (CD1.rf a.2) cxw (txw _ _)) (fr.sub sT uz (uz.c3 (Int.le_refl _))) (ng.mv oa.2.1.1 (CD1.rf a.2) sT rfl (fun _ _ => rfl) (Int.le_refl _)) hc.arm (show ((2 * h + 0 + msr ((5, h, q0, 0, 0, 0, 0) :: c) : Nat) : Int) ≤ (q.2.i 11).toInt by rw [msr_arm]; omega) ty.arm (by omega) True.intro z0
            rw [pw, show w0 + (pcC x.2 + 1 - pcC a.2) = w0 + 1 + (pcC x.2 - pcC a.2) by omega]
            exact z1
end
section
/-! both readers: inside the arms of a choice -/
/-- what stands between the arms: the choice began at S0, s0; its code's place is not below c -/
def AMI (d : Int32) (t : Nat) (f x4 : Int32) (c : Int) (L : List Nat) (S0 : CS) (s0 : RS) (S : CS) (s : RS) : Prop := ENV d S s ∧ tpI s = (t : Int) ∧ s.a 64 t = 19 ∧ CKN S0 S ∧ TBC c s0 s ∧ FRB t s0 s ∧ (CSE S s f L ∧ chn s (s.a 22 (s.a 66 t).toNatClampNeg) L ∧ FQL s t L ∧ (∀ j ∈ L, (s0.i 24).toInt ≤ (j : Int))) ∧ (0 ≤ c ∧ c ≤ (s0.i 20).toInt ∧ c ≤ (s.a 66 t).toInt ∧ (s.a 66 t).toInt < (s.i 20).toInt) ∧ ((s.a 68 t = 0 ∨ s.a 68 t = 1) ∧ (s.a 68 t = 1 ↔ 0 ≤ x4.toInt)) ∧ f = S0.i 22 ∧ s.i 19 = s0.i 19 ∧ ((s0.i 11).toInt ≤ (s.i 11).toInt ∧ phI s0 ≤ phI s ∧ (s0.i 17).toInt ≤ (s.i 17).toInt ∧ (S.i 21).toInt ≤ 3 * (s.i 11).toInt ∧ (S.i 54).toInt ≤ (s.i 11).toInt)
def KDB (f : Int32) (S : CS) (s : RS) : Prop := 3 * (S.i 22).toInt + 10 ≤ (s.i 11).toInt + KD S f.toInt (S.i 22).toInt
/-- what stands since the choice's first sign -/
def GA0 (S0 : CS) (s0 : RS) : Prop := RWI S0 ∧ SGS S0 (cnI S0).toNat + 1 ≤ (s0.i 19).toInt ∧ WCS S0 (cnI S0).toNat + 7 ≤ (s0.i 11).toInt ∧ (0 < (s0.i 43).toInt ∧ s0.a 44 ((s0.i 43).toInt - 1).toNat = 3) ∧ (0 < (s0.i 56).toInt → (s0.a 58 ((s0.i 56).toInt - 1).toNat).toInt ≤ (s0.i 43).toInt - 1) ∧ G47 s0
theorem AMI.sgr {d : Int32} {t : Nat} {f x4 : Int32} {c : Int} {L : List Nat} {S0 S : CS} {s0 s : RS} (h : AMI d t f x4 c L S0 s0 S s) (hG : GA0 S0 s0) : SGS S (cnI S).toNat + 1 ≤ sgI S := by
  obtain ⟨h1, h2, h3, h4, h5, h6, -, -, -, v1, v2, -⟩ := h
  rw [(h4.sum hG.1).1]
  unfold sgI
  rw [h1.2.2.1.1, v2]
  exact hG.2.1
theorem AMI.gar {d : Int32} {t : Nat} {f x4 : Int32} {c : Int} {L : List Nat} {S0 S : CS} {s0 s : RS} (h : AMI d t f x4 c L S0 s0 S s) (hG : GA0 S0 s0) (h2 : (s0.i 11).toInt + 2 ≤ (s.i 11).toInt) : GAR S s := by
  have g1 := h.sgr hG
  have v6 := h.2.2.2.2.2.2.2.2.2.2.2.2.2.2
  obtain ⟨-, -, -, h4, h5, -⟩ := h
  have q := (h4.sum hG.1).2
  have e43 : s.i 43 = s0.i 43 := h5.1.1.2.2.2.2.1
  obtain ⟨-, -, w3, ⟨w4, w5⟩, -⟩ := hG
  refine ⟨g1, by rw [q]; omega, by rw [e43]; exact w4, ?_, v6⟩
  rw [e43, (h5.1.2.2.1 _ (by omega)).1]
  exact w5
/-- over the rest of an arm -/
theorem AMI.axo {d : Int32} {t : Nat} {f x4 : Int32} {c : Int} {L : List Nat} {S0 S R : CS} {s0 s u : RS} (h : AMI d t f x4 c L S0 s0 S s) (hk : KDB f S s) (g : AXO d t S s R u) : AMI d t f x4 c L S0 s0 R u ∧ KDB f R u := by
  obtain ⟨h1, h2, h3, h4, h5, h6, ⟨c1, c2, c3, c4⟩, ⟨p1, p2, p3, p4⟩, ⟨r1, r2⟩, v1, v2, ⟨v3, v4, v5, v6, v7⟩⟩ := h
  obtain ⟨w1, w2, ⟨w31, w32, w33, w34, w35⟩, w4, w5, w6, w7, w8, w9, w10⟩ := g
  have e22 : R.i 22 = S.i 22 := w6.1.1
  have e18 := w6.2.2.2.1
  have m24 := w5.1.2.2.2.2.2.2.2.2.2.2.2
  have l24 := w5.1.2.2.2.2.2.2.2.2.2.2.1
  have jl := chn.lt L _ c2
  have l20 := h5.2.1
  have ck := clampI (k := s.a 66 t) (by omega)
  have cse : CSE R u f L := by
    obtain ⟨a1, a2, a3⟩ := c1
    refine ⟨a1, by rw [e22]; exact a2, fun v => ?_⟩
    constructor
    · intro ⟨i, i1, i2, i3⟩
      rw [e22] at i2
      rw [e18 i i2] at i3
      obtain ⟨j, j1, j2, j3⟩ := (a3 v).mp ⟨i, i1, i2, i3⟩
      have mj := m24 j (jl j j1)
      exact ⟨j, j1, by rw [mj.2.2]; exact j2, by rw [mj.1]; exact j3⟩
    · intro ⟨j, j1, j2, j3⟩
      have mj := m24 j (jl j j1)
      rw [mj.2.2] at j2
      rw [mj.1] at j3
      obtain ⟨i, i1, i2, i3⟩ := (a3 v).mpr ⟨j, j1, j2, j3⟩
      exact ⟨i, i1, by rw [e22]; exact i2, by rw [e18 i i2]; exact i3⟩
  have ch : chn u (u.a 22 (u.a 66 t).toNatClampNeg) L := by
    rw [w33, w5.2.2 _ (by omega)]
    exact chn.up l24 (fun j hj => (m24 j hj).2.1) _ _ c2
  have fq : FQL u t L := by
    unfold FQL at *
    rw [w34]
    exact c3
  refine ⟨⟨w1, w2, w31, h4.exp w6, ⟨h5.1.tr w5.1, h5.2.tr (w5.2.wk (by omega))⟩, h6.tr w4, ⟨cse, ch, fq, c4⟩, ⟨p1, p2, by rw [w33]; exact p3, ?_⟩, ⟨by rw [w35]; exact r1, by rw [w35]; exact r2⟩, v1, w10.trans v2, by omega, by omega, by omega, ?_, ?_⟩, ?_⟩
  · have := w5.2.1
    rw [w33]
    omega
  · have r9 := w6.r21
    rw [h1.1.2.2.2.1.1, w1.1.2.2.2.1.1] at r9
    omega
  · have r9 := w6.2.2.2.2.2.2.2.2.2.1
    rw [h1.1.2.2.2.1.1, w1.1.2.2.2.1.1] at r9
    omega
  · unfold KDB at *
    rw [e22, KD.eq (fun i hi => e18 i hi)]
    omega
/-- over a number -/
theorem AMI.num {d : Int32} {t : Nat} {f x4 : Int32} {c : Int} {L : List Nat} {S0 S R : CS} {s0 s u : RS} (h : AMI d t f x4 c L S0 s0 S s) (hk : 3 * (S.i 22).toInt + 11 ≤ (s.i 11).toInt + KD S f.toInt (S.i 22).toInt) (g : CNX9 d t f L S s R u) : (∃ L' : List Nat, AMI d t f x4 c L' S0 s0 R u) ∧ KDB f R u ∧ u.a 65 t = s.a 65 t ∧ (s.i 11).toInt + 1 ≤ (u.i 11).toInt ∧ phI s + 3 ≤ phI u ∧ (s.i 17).toInt + 1 ≤ (u.i 17).toInt := by
  obtain ⟨h1, h2, h3, h4, h5, h6, ⟨c1, c2, c3, c4⟩, ⟨p1, p2, p3, p4⟩, ⟨r1, r2⟩, v1, v2, ⟨v3, v4, v5, v6, v7⟩⟩ := h
  obtain ⟨k1, k2, k3⟩ := g.kd h1.2.2.2.2.2.2.2.2.2.1 c1.2.1 hk
  obtain ⟨f1, f2, f3, f4, f5, f6, f7, f8, fa, fi, fb, e, q1, q2, q3, q4⟩ := g.fr h4 h5 c4 p3 (by rw [h1.1.2.2.2.1.1, k1.1.2.2.2.1.1]; exact g.b11)
  have p21 := pj_21 g.qpj
  have p54 := pj_54 g.qpj
  have u66 : u.a 66 = s.a 66 := fa 66 (by decide) (by decide) (by decide) (by decide) (by decide) (by decide)
  have u68 : u.a 68 = s.a 68 := fa 68 (by decide) (by decide) (by decide) (by decide) (by decide) (by decide)
  have u64 : u.a 64 = s.a 64 := fa 64 (by decide) (by decide) (by decide) (by decide) (by decide) (by decide)
  have u65 : u.a 65 = s.a 65 := fa 65 (by decide) (by decide) (by decide) (by decide) (by decide) (by decide)
  have u20 : u.i 20 = s.i 20 := fi 20 (by decide) (by decide) (by decide) (by decide) (by decide) (by decide)
  refine ⟨⟨L ++ [e], k1, ?_, by rw [u64]; exact h3, f1, f2, h6.tr f3, ⟨q1, q2, q3, q4⟩, ⟨p1, p2, by rw [u66]; exact p3, by rw [u66, u20]; exact p4⟩, ⟨by rw [u68]; exact r1, by rw [u68]; exact r2⟩, v1, f5.trans v2, by omega, by omega, by omega, by rw [p21]; omega, by rw [p54]; omega⟩, k3, by rw [u65], f8, f6, f7⟩
  show (u.i 63).toInt = (t : Int)
  rw [f4]
  exact h2
end
section
/-! both readers: inside the arms, one token on; the frame's state is set -/
theorem AMI.adw {N : Nat} (hN : 1000 ≤ N) {d : Int32} {t : Nat} {f x4 : Int32} {c : Int} {L : List Nat} {S0 S W : CS} {s0 s u : RS} {R : Unit × CS} (h : AMI d t f x4 c L S0 s0 S s) (hW : ENV d W s) (w22 : W.i 22 = S.i 22) (w18 : W.a 18 = S.a 18) (hck : ∀ T : CS, pj T = pj W → T.i 22 = W.i 22 → T.a 18 = W.a 18 → (W.i 44).toInt + 1 ≤ (T.i 44).toInt → CKX S T ∧ (T.i 21).toInt ≤ (S.i 21).toInt + 1) (hz : ¬ W.i 43 = 0) (e : f_X9_advance N W = some R) (g : f_X12_next N s = some u) : AMI d t f x4 c L S0 s0 R.2 u ∧ u.a = s.a ∧ R.2.i 22 = S.i 22 ∧ R.2.a 18 = S.a 18 ∧ (s.i 11).toInt + 1 ≤ (u.i 11).toInt ∧ phI u = phI s + 3 ∧ (u.i 17).toInt = (s.i 17).toInt + 1 ∧ (s.i 12).toInt ≤ (u.i 11).toInt := by
  obtain ⟨h1, h2, h3, h4, h5, h6, ⟨c1, c2, c3, c4⟩, ⟨p1, p2, p3, p4⟩, ⟨r1, r2⟩, v1, v2, ⟨v3, v4, v5, v6, v7⟩⟩ := h
  obtain ⟨w1, w2, w3, w4, w5, w6, w7, w8, w9, w10⟩ := hW.adv hN hz e g
  obtain ⟨-, -, tu, b9⟩ := y_adv hN hW.1 e g
  have ua : u.a = s.a := by rw [tu.2.1]; rfl
  have u24 : u.i 24 = s.i 24 := tu.1 24 (by decide) (by decide) (by decide) (by decide)
  have t17 : (u.i 17).toInt = (s.i 17).toInt + 1 := by rw [w4]; exact t17_up (N := N) h1
  have pu : phI u = phI s + 3 := by
    unfold phI
    rw [w6, t17]
    omega
  have z22 := w8.trans w22
  have z18 := w9.1.trans w18
  obtain ⟨ck, l21⟩ := hck R.2 w3 w8 w9.1 (by rw [hW.1.2.2.2.1.1, w1.1.2.2.2.1.1]; exact w5)
  refine ⟨⟨w1, qj_63 w2 h2, by rw [ua]; exact h3, h4.exp ck, ⟨h5.1.tr (TBZ.of w2), by rw [w6]; exact h5.2.1, fun j hj => by rw [ua]; exact h5.2.2 j hj⟩, h6.tr (FRB.of w2), ⟨?_, ?_, ?_, c4⟩, ⟨p1, p2, by rw [ua]; exact p3, by rw [ua, w6]; exact p4⟩, ⟨by rw [ua]; exact r1, by rw [ua]; exact r2⟩, v1, w10.trans v2, by omega, by omega, by omega, by omega, ?_⟩, ua, z22, z18, w5, pu, t17, b9⟩
  · unfold CSE at *
    rw [z22, z18, ua]
    exact c1
  · rw [ua]
    exact chn.up (by rw [u24]; exact Int.le_refl _) (fun i _ => by rw [ua]) _ _ c2
  · unfold FQL at *
    rw [ua]
    exact c3
  · have r9 := ck.2.2.2.2.2.2.2.2.2.1
    rw [h1.1.2.2.2.1.1, w1.1.2.2.2.1.1] at r9
    omega
theorem AMI.adv {N : Nat} (hN : 1000 ≤ N) {d : Int32} {t : Nat} {f x4 : Int32} {c : Int} {L : List Nat} {S0 S : CS} {s0 s u : RS} {R : Unit × CS} (h : AMI d t f x4 c L S0 s0 S s) (hz : ¬ S.i 43 = 0) (e : f_X9_advance N S = some R) (g : f_X12_next N s = some u) : AMI d t f x4 c L S0 s0 R.2 u ∧ u.a = s.a ∧ R.2.i 22 = S.i 22 ∧ R.2.a 18 = S.a 18 ∧ (s.i 11).toInt + 1 ≤ (u.i 11).toInt ∧ phI u = phI s + 3 ∧ (u.i 17).toInt = (s.i 17).toInt + 1 ∧ (s.i 12).toInt ≤ (u.i 11).toInt := h.adw hN h.1 rfl rfl (fun T k1 k2 k3 k4 => ⟨CKX.of k1 k2 ⟨k3, by omega⟩, by rw [pj_21 k1]; omega⟩) hz e g
/-- a target more, then one token on -/
theorem AMI.nadv {N : Nat} (hN : 1000 ≤ N) {d : Int32} {t : Nat} {f x4 : Int32} {c : Int} {L : List Nat} {S0 S : CS} {s0 s u : RS} {w : Int32 × CS} {R : Unit × CS} (h : AMI d t f x4 c L S0 s0 S s) (hz : ¬ S.i 43 = 0) (ew : f_X0_newTarget N S = some w) (e : f_X9_advance N w.2 = some R) (g : f_X12_next N s = some u) : (AMI d t f x4 c L S0 s0 R.2 u ∧ u.a = s.a ∧ R.2.i 22 = S.i 22 ∧ R.2.a 18 = S.a 18 ∧ (s.i 11).toInt + 1 ≤ (u.i 11).toInt ∧ phI u = phI s + 3 ∧ (u.i 17).toInt = (s.i 17).toInt + 1 ∧ (s.i 12).toInt ≤ (u.i 11).toInt) ∧ 0 ≤ w.1.toInt := by
  obtain ⟨-, n43, n44, n22, n18, n21⟩ := nt_i ew
  have h6 := h.2.2.2.2.2.2.2.2.2.2.2.2.2.2
  have h0 := h.1.t21.1
  obtain ⟨vw, w1, w21⟩ := h.1.nt (by omega) ew
  refine ⟨h.adw hN vw n22 n18 (fun T k1 k2 k3 k4 => ?_) (by rw [n43]; exact hz) e g, by omega⟩
  have t21 : (T.i 21).toInt = (S.i 21).toInt + 1 := by rw [pj_21 k1]; exact w21
  rw [n44] at k4
  exact ⟨CKX.nt ew (CKX.of k1 k2 ⟨k3, by rw [n44]; omega⟩) (by omega), by omega⟩
theorem AMI.s65 {d : Int32} {t : Nat} {f x4 v : Int32} {c : Int} {L : List Nat} {S0 S : CS} {s0 s : RS} (h : AMI d t f x4 c L S0 s0 S s) : AMI d t f x4 c L S0 s0 S (RS.setA s 65 t v) := by
  obtain ⟨h1, h2, h3, h4, h5, h6, ⟨c1, c2, c3, c4⟩, p, r, v1, v2, v3⟩ := h
  have ch : chn (RS.setA s 65 t v) (s.a 22 (s.a 66 t).toNatClampNeg) L := chn.up (s := s) (u := RS.setA s 65 t v) (Int.le_refl _) (fun _ _ => rfl) _ _ c2
  exact ⟨setA_env (Or.inr (by omega)) h1, h2, h3, h4, ⟨h5.1.tr (setA_tb0 (Or.inr (by omega))), h5.2⟩, h6.tr (setA_frb (Or.inr ⟨by omega, by omega, Nat.le_refl _⟩)), ⟨c1, ch, c3, c4⟩, p, r, v1, v2, v3⟩
theorem s65_at {s : RS} {t : Nat} {v : Int32} : (RS.setA s 65 t v).a 65 t = v := by
  show upd (s.a 65) t v t = v
  exact if_pos rfl
/-! the code of the arms so far -/
def AMV (Q : Int32 → Int32 → Prop) (f x4 : Int32) (L : List Nat) (S : CS) (s : RS) : Prop := (∀ k ∈ L, s.a 28 k = 0 → ∀ i : Nat, f.toInt ≤ (i : Int) → (i : Int) < (S.i 22).toInt → S.a 18 i = s.a 25 k → Q (S.a 19 i) (s.a 26 k)) ∧ ∀ k ∈ L, ¬ s.a 28 k = 0 → Q x4 (s.a 26 k)
theorem AMV.mv {Q Q' : Int32 → Int32 → Prop} {f x4 : Int32} {L : List Nat} {S R : CS} {s u : RS} (h : AMV Q f x4 L S s) (q : ∀ T v : Int32, Q T v → Q' T v) (e22 : R.i 22 = S.i 22) (e18 : ∀ i : Nat, (i : Int) < (S.i 22).toInt → R.a 18 i = S.a 18 i) (e19 : ∀ i : Nat, (i : Int) < (S.i 22).toInt → R.a 19 i = S.a 19 i) (e : ∀ k ∈ L, u.a 25 k = s.a 25 k ∧ u.a 26 k = s.a 26 k ∧ u.a 28 k = s.a 28 k) : AMV Q' f x4 L R u := by
  obtain ⟨h1, h2⟩ := h
  refine ⟨fun k hk z i i1 i2 i3 => ?_, fun k hk z => ?_⟩
  · obtain ⟨e1, e2, e3⟩ := e k hk
    rw [e22] at i2
    rw [e18 i i2, e1] at i3
    rw [e3] at z
    rw [e19 i i2, e2]
    exact q _ _ (h1 k hk z i i1 i2 i3)
  · obtain ⟨e1, e2, e3⟩ := e k hk
    rw [e3] at z
    rw [e2]
    exact q _ _ (h2 k hk z)
/-- as FGR, but the links of the entries L may still change -/
def FGX (L : List Nat) (s u U : RS) : Prop := (0 ≤ (s.i 20).toInt ∧ (u.i 20).toInt ≤ (U.i 20).toInt ∧ (U.i 20).toInt ≤ 3000) ∧ (∀ j : Nat, (s.i 20).toInt ≤ (j : Int) → (j : Int) < (u.i 20).toInt → U.a 21 j = u.a 21 j ∧ U.a 22 j = u.a 22 j ∧ U.a 23 j = u.a 23 j) ∧ (∀ j : Nat, (s.i 24).toInt ≤ (j : Int) → (j : Int) < (u.i 24).toInt → U.a 25 j = u.a 25 j ∧ U.a 26 j = u.a 26 j ∧ (j ∉ L → U.a 27 j = u.a 27 j) ∧ U.a 28 j = u.a 28 j) ∧ (∀ j : Nat, (s.i 29).toInt ≤ (j : Int) → (j : Int) < (u.i 29).toInt → U.a 30 j = u.a 30 j ∧ U.a 31 j = u.a 31 j ∧ U.a 32 j = u.a 32 j) ∧ ∀ j : Nat, (s.i 33).toInt ≤ (j : Int) → (j : Int) < (u.i 33).toInt → U.a 34 j = u.a 34 j ∧ U.a 35 j = u.a 35 j ∧ U.a 36 j = u.a 36 j ∧ U.a 37 j = u.a 37 j
theorem FGR.x {s u U : RS} (h : FGR s u U) (L : List Nat) : FGX L s u U := ⟨h.1, h.2.1, fun j j1 j2 => ⟨(h.2.2.1 j j1 j2).1, (h.2.2.1 j j1 j2).2.1, fun _ => (h.2.2.1 j j1 j2).2.2.1, (h.2.2.1 j j1 j2).2.2.2⟩, h.2.2.2⟩
theorem FGX.pre {L L' : List Nat} {b s u U : RS} (h : FGX L' b u U) (l20 : (s.i 20).toInt ≤ (u.i 20).toInt) (c : ∀ j : Nat, (b.i 20).toInt ≤ (j : Int) → (j : Int) < (s.i 20).toInt → u.a 21 j = s.a 21 j ∧ u.a 22 j = s.a 22 j ∧ u.a 23 j = s.a 23 j) (l24 : (s.i 24).toInt ≤ (u.i 24).toInt) (e : ∀ j : Nat, (b.i 24).toInt ≤ (j : Int) → (j : Int) < (s.i 24).toInt → u.a 25 j = s.a 25 j ∧ u.a 26 j = s.a 26 j ∧ (j ∉ L → u.a 27 j = s.a 27 j ∧ j ∉ L') ∧ u.a 28 j = s.a 28 j) (l29 : (s.i 29).toInt ≤ (u.i 29).toInt) (t : ∀ j : Nat, (j : Int) < (s.i 29).toInt → u.a 30 j = s.a 30 j ∧ u.a 31 j = s.a 31 j ∧ u.a 32 j = s.a 32 j) (l33 : (s.i 33).toInt ≤ (u.i 33).toInt) (k : ∀ j : Nat, (j : Int) < (s.i 33).toInt → u.a 34 j = s.a 34 j ∧ u.a 35 j = s.a 35 j ∧ u.a 36 j = s.a 36 j ∧ u.a 37 j = s.a 37 j) : FGX L b s U := by
  obtain ⟨⟨h1, h2, h3⟩, h4, h5, h6, h7⟩ := h
  refine ⟨⟨h1, by omega, h3⟩, fun j j1 j2 => ?_, fun j j1 j2 => ?_, fun j j1 j2 => ?_, fun j j1 j2 => ?_⟩
  · have x := h4 j j1 (by omega)
    have y := c j j1 j2
    exact ⟨x.1.trans y.1, x.2.1.trans y.2.1, x.2.2.trans y.2.2⟩
  · have x := h5 j j1 (by omega)
    have y := e j j1 j2
    exact ⟨x.1.trans y.1, x.2.1.trans y.2.1, fun z => (x.2.2.1 (y.2.2.1 z).2).trans (y.2.2.1 z).1, x.2.2.2.trans y.2.2.2⟩
  · have x := h6 j j1 (by omega)
    have y := t j j2
    exact ⟨x.1.trans y.1, x.2.1.trans y.2.1, x.2.2.trans y.2.2⟩
  · have x := h7 j j1 (by omega)
    have y := k j j2
    exact ⟨x.1.trans y.1, x.2.1.trans y.2.1, x.2.2.1.trans y.2.2.1, x.2.2.2.trans y.2.2.2⟩
theorem FGX.cd {L : List Nat} {b s u U : RS} {c : Int} (h : FGX L b u U) (y : CD2 c s u) (lc : (s.i 20).toInt ≤ c) : FGX L b s U := h.pre y.1.1 (fun j _ j2 => y.2.1 j (by omega)) y.1.2.1 (fun j _ j2 => ⟨(y.2.2.1 j j2).1, (y.2.2.1 j j2).2.1, fun z => ⟨(y.2.2.1 j j2).2.2.1, z⟩, (y.2.2.1 j j2).2.2.2⟩) y.1.2.2.1 y.2.2.2.1 y.1.2.2.2.1 y.2.2.2.2
/-- a piece behind the entries L -/
theorem FGX.mid {L : List Nat} {b s u U : RS} {c : Int} (h : FGX L b u U) (x : CD2 c b s) (hL : ∀ j ∈ L, (j : Int) < (s.i 24).toInt) : FGR s u U := by
  obtain ⟨⟨h1, h2, h3⟩, h4, h5, h6, h7⟩ := h
  obtain ⟨⟨x1, x2, x3, x4, -⟩, -⟩ := x
  refine ⟨⟨by omega, h2, h3⟩, fun j j1 j2 => h4 j (by omega) j2, fun j j1 j2 => ?_, fun j j1 j2 => h6 j (by omega) j2, fun j j1 j2 => h7 j (by omega) j2⟩
  have y := h5 j (by omega) j2
  exact ⟨y.1, y.2.1, y.2.2.1 (fun z => by have := hL j z; omega), y.2.2.2⟩
/-- the arms that were read: all their entries lead to good places, or to Z -/
def AMW (δ : Int) (Z : Int32 → Int32 → Prop) (x2 : Int32) (q0 t : Nat) (U : RS) (Sb : CS) (sb : RS) (f x4 : Int32) (L : List Nat) (S : CS) (s : RS) : Prop := ((s.a 66 t).toInt = (q0 : Int) ∧ (q0 : Int) < (sb.i 20).toInt) ∧ (0 ≤ δ ∧ f.toInt ≤ (S.i 22).toInt) ∧ (x4.toInt < 0 → ∀ k ∈ L, s.a 28 k = 0) ∧ (CRB Sb → CD1 (-(2 * ((S.i 22).toInt - f.toInt) + δ)) 0 Sb S ∧ CT7 0 (Sb.i 21).toInt Sb S ∧ CD2 (q0 : Int) sb s ∧ ∃ Ψ : GPS, SAT Ψ Sb sb S s ∧ ∀ (FC : Nat → Prop) (SF : CS) (nm : Nat → Nat → Prop) (X : Als) (c : List Ent) (h w W we : Nat), Ψ FC nm → FGC Sb S SF → FGX L sb s U → NMG nm ((5, h, q0, 0, 0, 0, 0) :: c) Sb sb → HC0 nm h c → ((2 * h + msr c : Nat) : Int) + 2 ≤ (sb.i 11).toInt → TYC SF U (GU FC SF U nm X) W c → W + 1 ≤ w → we ≤ w → EXG FC SF U nm X x2 q0 h we c → AMV (fun T v => JX SF (GU FC SF U nm X) T v h (w + (pcC S - pcC Sb)) 0 0 ((5, h, q0, 0, 0, 0, 0) :: c) ∨ Z T v) f x4 L S s)
theorem AMW.crb {δ : Int} {Z : Int32 → Int32 → Prop} {x2 : Int32} {q0 t : Nat} {U : RS} {Sb : CS} {sb : RS} {f x4 : Int32} {L : List Nat} {S : CS} {s : RS} (h : AMW δ Z x2 q0 t U Sb sb f x4 L S s) (cr : CRB Sb) : CRB S := cr.of (h.2.2.2 cr).1 (by have := h.2.1; omega) (Int.le_refl _)
/-- tokens on, targets more -/
theorem AMW.tk {δ δ' : Int} {Z Z' : Int32 → Int32 → Prop} {x2 : Int32} {q0 t : Nat} {U : RS} {Sb : CS} {sb : RS} {f x4 : Int32} {L : List Nat} {S R : CS} {s u : RS} {a b : Int} (h : AMW δ Z x2 q0 t U Sb sb f x4 L S s) (hz : ∀ T v : Int32, Z T v → Z' T v) (x : CRB S → CD1 a b S R ∧ CT7 0 (S.i 21).toInt S R) (ha : 0 ≤ δ' ∧ δ' ≤ δ - a) (hb : b ≤ 0) (e20 : R.i 20 = S.i 20) (e22 : R.i 22 = S.i 22) (e18 : R.a 18 = S.a 18) (e19 : R.a 19 = S.a 19) (q : qe u = qe s) (e66 : u.a 66 t = s.a 66 t) : AMW δ' Z' x2 q0 t U Sb sb f x4 L R u := by
  obtain ⟨h0, h9, h1, h2⟩ := h
  have y : ∀ c : Int, CD2 c s u := fun c => CD2.qe q
  obtain ⟨-, -, -, -, q25, q26, -, q28, -⟩ := qe_eq q
  refine ⟨by rw [e66]; exact h0, ⟨ha.1, by rw [e22]; exact h9.2⟩, by rw [q28]; exact h1, fun cr => ?_⟩
  obtain ⟨c1, c2, c3, Ψ, sat, h2⟩ := h2 cr
  have crS : CRB S := cr.of c1 (by omega) (Int.le_refl _)
  obtain ⟨x1, x2'⟩ := x crS
  have pc : pcC R = pcC S := by unfold pcC; rw [e20]
  refine ⟨(c1.tr x1).wk (by rw [e22]; omega) (by omega), c2.tr (x2'.wk (Int.le_refl _) c1.2.2.1), c3.tr (y _), Ψ, sat.wd (MNO.of (CD1.rf Sb) (CD2.rf 0 sb)) (MNO.of x1 (y 0)), fun FC SF nm X c h w W we ps fc fr ng hc hh ty hW hE ex => ?_⟩
  have z := h2 FC SF nm X c h w W we ps (fc.sub (CD1.rf Sb) x1 (x2'.wk cr.2.1 (Int.le_refl _))) (fr.cd (y (s.i 20).toInt) (Int.le_refl _)) ng hc hh ty hW hE ex
  rw [pc]
  exact z.mv (fun T v k => k.imp id (hz T v)) e22 (fun i _ => by rw [e18]) (fun i _ => by rw [e19]) (fun k _ => ⟨by rw [q25], by rw [q26], by rw [q28]⟩)
/-- an entry more -/
theorem AMW.ent {δ δ' : Int} {Z : Int32 → Int32 → Prop} {x2 : Int32} {q0 t : Nat} {U : RS} {Sb : CS} {sb : RS} {f x4 x5 : Int32} {L : List Nat} {S R : CS} {s u : RS} {a b : Int} {e : Nat} (h : AMW δ Z x2 q0 t U Sb sb f x4 L S s) (x : CRB S → CD1 a b S R ∧ CT7 0 (S.i 21).toInt S R) (ha : 0 ≤ δ' ∧ 2 * (R.i 22).toInt + δ' ≤ 2 * (S.i 22).toInt + δ - a ∧ (S.i 22).toInt ≤ (R.i 22).toInt) (hb : b ≤ 0) (e20 : R.i 20 = S.i 20)
    (h5 : x5.toInt < 0 → x4.toInt < 0 ∧ u.a 28 e = 0) (he : (s.i 24).toInt = (e : Int)) (e24 : (u.i 24).toInt = (s.i 24).toInt + 1) (eL : ∀ j ∈ L, (sb.i 24).toInt ≤ (j : Int) ∧ j < e) (f25 : ∀ i : Nat, i < e → u.a 25 i = s.a 25 i ∧ u.a 26 i = s.a 26 i ∧ u.a 28 i = s.a 28 i) (f27 : ∀ i : Nat, i < e → i ∉ L → u.a 27 i = s.a 27 i) (f22 : ∀ i : Nat, ¬ i = (s.a 66 t).toNatClampNeg → u.a 22 i = s.a 22 i) (fa : ∀ k : Nat, k ≠ 22 → k ≠ 25 → k ≠ 26 → k ≠ 27 → k ≠ 28 → k ≠ 67 → k ≠ 65 → k ≠ 68 → u.a k = s.a k) (fi : ∀ k : Nat, k ≠ 10 → k ≠ 11 → k ≠ 12 → k ≠ 14 → k ≠ 17 → k ≠ 24 → u.i k = s.i k)
    (am : ∀ Q : Int32 → Int32 → Prop, (∀ T v : Int32, Z T v → Q T v) → AMV Q f x4 L S s → AMV Q f x5 (L ++ [e]) R u) : AMW δ' Z x2 q0 t U Sb sb f x5 (L ++ [e]) R u := by
  obtain ⟨⟨h0, h0'⟩, h9, h1, h2⟩ := h
  have ck := clampI (k := s.a 66 t) (by omega)
  have i20 := fi 20 (by decide) (by decide) (by decide) (by decide) (by decide) (by decide)
  have i29 := fi 29 (by decide) (by decide) (by decide) (by decide) (by decide) (by decide)
  have i33 := fi 33 (by decide) (by decide) (by decide) (by decide) (by decide) (by decide)
  have i42 := fi 42 (by decide) (by decide) (by decide) (by decide) (by decide) (by decide)
  have i52 := fi 52 (by decide) (by decide) (by decide) (by decide) (by decide) (by decide)
  have g : ∀ k : Nat, (k = 21 ∨ k = 23 ∨ (30 ≤ k ∧ k ≤ 37) ∨ k = 66) → u.a k = s.a k := fun k z => fa k (by omega) (by omega) (by omega) (by omega) (by omega) (by omega) (by omega) (by omega)
  refine ⟨⟨by rw [g 66 (by omega)]; exact h0, h0'⟩, ⟨ha.1, by omega⟩, fun z k hk => ?_, fun cr => ?_⟩
  · rcases List.mem_append.mp hk with y | y
    · rw [(f25 k (eL k y).2).2.2]
      exact h1 (h5 z).1 k y
    · rcases List.mem_cons.mp y with rfl | y
      · exact (h5 z).2
      · exact absurd y List.not_mem_nil
  obtain ⟨c1, c2, c3, Ψ, sat, h2⟩ := h2 cr
  have crS : CRB S := cr.of c1 (by omega) (Int.le_refl _)
  obtain ⟨x1, x2'⟩ := x crS
  have pc : pcC R = pcC S := by unfold pcC; rw [e20]
  have l24 := c3.1.2.1
  have sb20 := c3.1.1
  have cd : CD2 (q0 : Int) sb u := by
    obtain ⟨⟨d1, d2, d3, d4, d5, d6⟩, d7, d8, d9, d10⟩ := c3
    refine ⟨⟨by rw [i20]; exact d1, by omega, by rw [i29]; exact d3, by rw [i33]; exact d4, d5.tr (SLC.eq i42 (by rw [i20]; exact Int.le_refl _)), by rw [i52]; exact d6⟩, fun j hj => ?_, fun j hj => ?_, fun j hj => ?_, fun j hj => ?_⟩
    · rw [g 21 (by omega), f22 j (by omega), g 23 (by omega)]
      exact d7 j hj
    · obtain ⟨y1, y2, y3⟩ := f25 j (by omega)
      rw [y1, y2, f27 j (by omega) (fun z => by have := (eL j z).1; omega), y3]
      exact d8 j hj
    · rw [g 30 (by omega), g 31 (by omega), g 32 (by omega)]
      exact d9 j hj
    · rw [g 34 (by omega), g 35 (by omega), g 36 (by omega), g 37 (by omega)]
      exact d10 j hj
  refine ⟨(c1.tr x1).wk (by omega) (by omega), c2.tr (x2'.wk (Int.le_refl _) c1.2.2.1), cd, Ψ, sat.wd (MNO.of (CD1.rf Sb) (CD2.rf 0 sb)) ⟨x1.2.2.2.2.2.1.1, SLC.eq i42 (by rw [i20]; exact Int.le_refl _), by rw [i29]; exact Int.le_refl _⟩, fun FC SF nm X c h w W we ps fc fr ng hc hh ty hW hE ex => ?_⟩
  have z := h2 FC SF nm X c h w W we ps (fc.sub (CD1.rf Sb) x1 (x2'.wk cr.2.1 (Int.le_refl _))) (fr.pre (by rw [i20]; exact Int.le_refl _) (fun j j1 j2 => ⟨by rw [g 21 (by omega)], f22 j (by omega), by rw [g 23 (by omega)]⟩) (by omega) (fun j j1 j2 => ?_) (by rw [i29]; exact Int.le_refl _) (fun j _ => ⟨by rw [g 30 (by omega)], by rw [g 31 (by omega)], by rw [g 32 (by omega)]⟩) (by rw [i33]; exact Int.le_refl _) (fun j _ => ⟨by rw [g 34 (by omega)], by rw [g 35 (by omega)], by rw [g 36 (by omega)], by rw [g 37 (by omega)]⟩)) ng hc hh ty hW hE ex
  · rw [pc]
    exact am _ (fun T v k => Or.inr k) z
  · obtain ⟨y1, y2, y3⟩ := f25 j (by omega)
    refine ⟨y1, y2, fun k => ⟨f27 j (by omega) k, fun y => ?_⟩, y3⟩
    rcases List.mem_append.mp y with y | y
    · exact k y
    · rcases List.mem_cons.mp y with y | y
      · omega
      · exact absurd y List.not_mem_nil
theorem chn.un {s : RS} : ∀ (L M : List Nat) (k : Int32), chn s k L → chn s k M → L = M
  | [], [], _, _, _ => rfl
  | [], j :: M, k, h, g => by
    have h' : k.toInt < 0 := h
    have := g.1
    omega
  | i :: L, [], k, h, g => by
    have g' : k.toInt < 0 := g
    have := h.1
    omega
  | i :: L, j :: M, k, h, g => by
    have e : i = j := by
      have := h.1
      have := g.1
      omega
    subst e
    rw [chn.un L M _ h.2.2.2 g.2.2.2]
/-- a number more -/
theorem AMW.num {x2 : Int32} {q0 t : Nat} {U : RS} {Sb : CS} {sb : RS} {d f x4 tgt v0 : Int32} {c : Int} {L : List Nat} {S R : CS} {s u : RS} (h : AMW 1 (fun T v => T = tgt ∧ v = v0) x2 q0 t U Sb sb f x4 L S s) (hA : AMI d t f x4 c L Sb sb S s) (g : CNX9 d t f L S s R u) (k : CNC tgt S s R u) (h20 : s.i 20 = v0) (h44 : (S.i 44).toInt + 1 ≤ (R.i 44).toInt) : ∃ L' : List Nat, AMW 0 (fun T v => T = tgt ∧ v = v0) x2 q0 t U Sb sb f x4 L' R u ∧ chn u (u.a 22 (u.a 66 t).toNatClampNeg) L' ∧ u.i 20 = v0 := by
  have jl := chn.lt L _ hA.2.2.2.2.2.2.1.2.1
  have jb := hA.2.2.2.2.2.2.1.2.2.2
  have cs0 := hA.2.2.2.2.2.2.1.1
  have qpj := g.qpj
  obtain ⟨S1, s1, v, h1, ⟨ea, eb, ei⟩, ⟨ep, e22, e18⟩, ⟨b17, b11⟩, ⟨e, q1, q2, q3, q4, q5, q6, q7, q8, q9, q10, f1, f17, f20, f19, f63, f24, fa, f67, f25, f27, f22, fi, fb⟩, ln⟩ := g
  obtain ⟨⟨k20, k23, k38, k15, k16, k17⟩, k19, k19', e', ke, k26, k26'⟩ := k
  have e24 := ei 24 (by decide) (by decide) (by decide) (by decide) (by decide)
  have ee : e' = e := by
    rw [e24] at q1
    omega
  subst ee
  rw [e22] at q6 q7 q8 q9
  rw [e18] at q7 q9
  have fr : ¬ ∃ i : Nat, f.toInt ≤ (i : Int) ∧ (i : Int) < (S.i 22).toInt ∧ S.a 18 i = v := q9
  have r4 := hA.1.2.2.2.2.2.2.2.2.2.1
  have ff := cs0.2.1
  have new : u.a 28 e' = 0 ∧ u.a 25 e' = v := by
    obtain ⟨j, j1, j2, j3⟩ := (q2.2.2 v).mp ⟨(S.i 22).toInt.toNat, by omega, by omega, q8⟩
    rcases List.mem_append.mp j1 with z | z
    · exfalso
      have jj := jl j z
      obtain ⟨y1, y2⟩ := f25 j (by omega)
      rw [ea] at y1 y2
      exact fr ((cs0.2.2 v).mpr ⟨j, z, by rw [← y2]; exact j2, by rw [← y1]; exact j3⟩)
    · rcases List.mem_cons.mp z with rfl | z
      · exact ⟨j2, j3⟩
      · exact absurd z List.not_mem_nil
  obtain ⟨-, -, -, -, -, -, -, -, -, -, -, -, -, i50, -, -, -, -, -, -, a48, a49, -, -, -, -, -, i21, -⟩ := pj_eq qpj
  refine ⟨L ++ [e'], h.ent (a := -1) (b := -1) (fun _ => ⟨⟨⟨by rw [k20]; exact Int.le_refl _, by rw [k20]; omega, by rw [i21]; omega⟩, fun j _ => ⟨by rw [k15], by rw [k16]⟩, by rw [i21]; exact Int.le_refl _, by rw [i50]; exact Int.le_refl _, fun j _ => ⟨by rw [a48], by rw [a49]⟩, ⟨by rw [k23]; exact Int.le_refl _, by rw [k23]; omega⟩, k38, by omega, k19⟩, fun j _ _ => by rw [k17]⟩) ⟨by omega, by omega, by omega⟩ (by omega) k20 (fun z => ⟨z, new.1⟩) ke (by rw [f24, e24]) (fun j hj => ⟨jb j hj, by have := jl j hj; omega⟩) (fun i hi => ?_) (fun i hi hn => ?_) (fun i hi => ?_) (fun m m1 m2 m3 m4 m5 m6 _ _ => ?_) (fun m m1 m2 m3 m4 m5 m6 => ?_) (fun Q hQ am => ?_), q3, ?_⟩
  · have y := f25 i hi
    rw [ea] at y
    exact ⟨y.1, k26' i hi, y.2⟩
  · rw [f27 i hi hn, ea]
  · rw [f22 i (by rw [ea]; exact hi), ea]
  · rw [fa m m1 m2 m3 m4 m5 m6, ea]
  · rw [fi m m1 m2 m3 m4 m5 m6, ei m m1 m2 m3 m4 m5]
  · obtain ⟨am1, am2⟩ := am
    refine ⟨fun k hk z i i1 i2 i3 => ?_, fun k hk z => ?_⟩
    · rcases List.mem_append.mp hk with y | y
      · have jj := jl k y
        obtain ⟨y1, y2⟩ := f25 k (by omega)
        rw [ea] at y1 y2
        by_cases ci : (i : Int) < (S.i 22).toInt
        · rw [k19 i ci, k26' k (by omega)]
          exact am1 k y (by rw [← y2]; exact z) i i1 ci (by rw [← q7 i ci, ← y1]; exact i3)
        · exfalso
          have : i = (S.i 22).toInt.toNat := by omega
          rw [this, q8] at i3
          exact fr ((cs0.2.2 v).mpr ⟨k, y, by rw [← y2]; exact z, by rw [← y1]; exact i3.symm⟩)
      · rcases List.mem_cons.mp y with rfl | y
        · by_cases ci : (i : Int) < (S.i 22).toInt
          · exfalso
            rw [q7 i ci, new.2] at i3
            exact fr ⟨i, i1, ci, i3⟩
          · have : i = (S.i 22).toInt.toNat := by omega
            rw [this, k19', k26]
            exact hQ _ _ ⟨rfl, h20⟩
        · exact absurd y List.not_mem_nil
    · rcases List.mem_append.mp hk with y | y
      · have jj := jl k y
        obtain ⟨y1, y2⟩ := f25 k (by omega)
        rw [ea] at y2
        rw [k26' k (by omega)]
        exact am2 k y (by rw [← y2]; exact z)
      · rcases List.mem_cons.mp y with rfl | y
        · exact absurd new.1 z
        · exact absurd y List.not_mem_nil
  · rw [f20, ei 20 (by decide) (by decide) (by decide) (by decide) (by decide)]
    exact h20
/-- the entry of default -/
theorem AMW.dft {N : Nat} {δ : Int} {Z : Int32 → Int32 → Prop} {x2 : Int32} {q0 t : Nat} {U : RS} {Sb : CS} {sb : RS} {d f x4 x5 x : Int32} {c : Int} {L : List Nat} {S : CS} {s y : RS} (h : AMW δ Z x2 q0 t U Sb sb f x4 L S s) (hA : AMI d t f x4 c L Sb sb S s) (hx : x.toNatClampNeg = t) (h4 : x4.toInt < 0) (h5 : 0 ≤ x5.toInt) (hZ : Z x5 (s.i 20)) (g : f_X12_entry N (RS.setA s 68 t 1) x 0 1 = some y) : ∃ L' : List Nat, AMW δ Z x2 q0 t U Sb sb f x5 L' S y ∧ chn y (y.a 22 (y.a 66 t).toNatClampNeg) L' ∧ y.i 20 = s.i 20 := by
  have jl := chn.lt L _ hA.2.2.2.2.2.2.1.2.1
  have jb := hA.2.2.2.2.2.2.1.2.2.2
  have c2 := hA.2.2.2.2.2.2.1.2.1
  have c3 := hA.2.2.2.2.2.2.1.2.2.1
  have en := y_entry hx g
  have b1 : vp_nar .boolean (1 : Int32) = 1 := by decide
  rw [b1] at en
  have hh : (RS.setA s 68 t 1).i = s.i ∧ ∀ k : Nat, k ≠ 68 → (RS.setA s 68 t 1).a k = s.a k := ⟨rfl, fun k h => setA_nk h⟩
  have ch : chn (RS.setA s 68 t 1) ((RS.setA s 68 t 1).a 22 ((RS.setA s 68 t 1).a 66 t).toNatClampNeg) L := chn.up (s := s) (u := RS.setA s 68 t 1) (Int.le_refl _) (fun _ _ => rfl) _ _ c2
  obtain ⟨s', hs'⟩ : ∃ z, z = RS.setA s 68 t 1 := ⟨_, rfl⟩
  rw [← hs'] at en ch hh
  have c3' : FQL s' t L := by
    unfold FQL at *
    rw [hh.2 67 (by decide)]
    exact c3
  clear hs' g
  obtain ⟨hi, ha⟩ := hh
  obtain ⟨e, k1, k2, k3, k4, k5, k6, k7, k8⟩ := en.chain ch c3'
  obtain ⟨n1, n2, n3, n4, n5, n6, n7, n8, n9, n10', n26⟩ := en
  rw [hi] at k1
  have ek : (s'.i 24).toNatClampNeg = e := by
    have := clampI n2.1
    rw [hi] at this ⊢
    omega
  have e24 : (y.i 24).toInt = (s.i 24).toInt + 1 := by
    rw [n1, ad1 n2.1 (by omega), hi]
  have x1 := h.2.2.1 h4
  have hd := h.2.1
  refine ⟨L ++ [e], h.ent (a := 0) (b := 0) (fun _ => ⟨CD1.rf S, CT7.rf _ _ S⟩) ⟨hd.1, by omega, by omega⟩ (by omega) rfl (fun z => by omega) k1 e24 (fun j hj => ⟨jb j hj, by have := jl j hj; omega⟩) (fun i hi' => ?_) (fun i hi' hn => ?_) (fun i hi' => ?_) (fun m m1 m2 m3 m4 m5 m6 _ m8 => ?_) (fun m m1 m2 m3 m4 m5 m6 => ?_) (fun Q hQ am => ?_), k2, ?_⟩
  · have y1 := k6 i hi'
    rw [ha 25 (by decide), ha 28 (by decide)] at y1
    refine ⟨y1.1, ?_, y1.2⟩
    rw [n26, ek, ha 26 (by decide)]
    exact if_neg (by omega)
  · rw [k7 i hi' hn, ha 27 (by decide)]
  · rw [k8 i (by rw [ha 66 (by decide)]; exact hi'), ha 22 (by decide)]
  · rw [n7 m m1 m2 m3 m4 m5 m6, ha m m8]
  · rw [n8 m m6, hi]
  · obtain ⟨am1, am2⟩ := am
    have old : ∀ k ∈ L, y.a 25 k = s.a 25 k ∧ y.a 26 k = s.a 26 k ∧ y.a 28 k = s.a 28 k := fun k hk => by
      have jj := jl k hk
      have y1 := k6 k (by omega)
      rw [ha 25 (by decide), ha 28 (by decide)] at y1
      refine ⟨y1.1, ?_, y1.2⟩
      rw [n26, ek, ha 26 (by decide)]
      exact if_neg (by omega)
    refine ⟨fun k hk z i i1 i2 i3 => ?_, fun k hk z => ?_⟩
    · rcases List.mem_append.mp hk with w | w
      · obtain ⟨o1, o2, o3⟩ := old k w
        rw [o2]
        exact am1 k w (by rw [← o3]; exact z) i i1 i2 (by rw [← o1]; exact i3)
      · rcases List.mem_cons.mp w with rfl | w
        · rw [k5] at z
          exact absurd z (by decide)
        · exact absurd w List.not_mem_nil
    · rcases List.mem_append.mp hk with w | w
      · obtain ⟨o1, o2, o3⟩ := old k w
        rw [o3] at z
        exact absurd (x1 k w) z
      · rcases List.mem_cons.mp w with rfl | w
        · have : y.a 26 k = s.i 20 := by
            rw [n26, ek]
            exact (if_pos rfl).trans (by rw [hi])
          rw [this]
          exact hQ _ _ hZ
        · exact absurd w List.not_mem_nil
  · rw [n8 20 (by decide), hi]
/-- the target of an arm that is not aimed yet -/
def TGU (tgt : Int32) (Sb S : CS) : Prop := CRB Sb → ((Sb.i 21).toInt ≤ tgt.toInt ∧ tgt.toInt + 1 = (S.i 21).toInt) ∧ (S.a 17 tgt.toNatClampNeg).toInt < 0
theorem TGU.mv {tgt : Int32} {Sb S R : CS} (h : TGU tgt Sb S) (h21 : R.i 21 = S.i 21) (h17 : R.a 17 = S.a 17) : TGU tgt Sb R := fun cr => by
  rw [h21, h17]
  exact h cr
/-- the arm itself -/
theorem AMW.arm {δ : Int} {x2 : Int32} {q0 t : Nat} {U : RS} {Sb : CS} {sb : RS} {d f x4 tgt v0 : Int32} {c : Int} {L : List Nat} {S R : CS} {s u : RS} (h : AMW δ (fun T v => T = tgt ∧ v = v0) x2 q0 t U Sb sb f x4 L S s) (hA : AMI d t f x4 c L Sb sb S s) (h20 : s.i 20 = v0) (g : AXO d t S s R u) (k : ACD x2 tgt t U S s R u) (ht : TGU tgt Sb S) (h47 : G47 sb) : AMW δ (fun _ _ => False) x2 q0 t U Sb sb f x4 L R u := by
  have jl := chn.lt L _ hA.2.2.2.2.2.2.1.2.1
  obtain ⟨a1, a2, a3, a4, a5, a6, -, -, -, a7, a8, ⟨a9, -⟩⟩ := hA
  obtain ⟨w1, w2, ⟨w31, w32, w33, w34, w35⟩, w4, w5, w6, w7, w8, w9, w10⟩ := g
  have m24 := w5.1.2.2.2.2.2.2.2.2.2.2.2
  obtain ⟨h0, h9, h1, h2⟩ := h
  have w22 : R.i 22 = S.i 22 := w6.1.1
  refine ⟨by rw [w33]; exact h0, ⟨h9.1, by rw [w22]; exact h9.2⟩, fun z y hy => by rw [(m24 y (jl y hy)).2.2]; exact h1 z y hy, fun cr => ?_⟩
  obtain ⟨c1, c2, c3, Ψ, sat, h2⟩ := h2 cr
  obtain ⟨⟨t1, t2⟩, t3⟩ := ht cr
  have crS : CRB S := cr.of c1 (by omega) (Int.le_refl _)
  have t0 : 0 ≤ tgt.toInt := by have := cr.2.1; omega
  have ck := clampI t0
  obtain ⟨k1, k2, k3, k4, Ψ2, sat2, k5⟩ := k q0 h0.1 crS (h47.mv a5.1 c3.1.2.2.2.2.2) t0 (by omega)
  have l20 := c3.1.1
  have n50 : Sb.i 50 = sb.i 38 := by
    have e1 : S.i 50 = Sb.i 50 := a4.1.1.2.2.2.1
    have e2 : s.i 38 = sb.i 38 := a5.1.1.2.2.2.1
    rw [← e1, ← e2]
    exact a1.2.1.1
  refine ⟨(c1.tr k1).wk (by rw [w22]; omega) (by omega), fun j j1 j2 => (k2 j (by have := c1.2.2.1; omega) (by omega)).trans (c2 j j1 j2), c3.tr (k4.wk (by omega)), _, sat.an sat2 (MNO.of c1 c3) (MNO.of k1 k4), ?_⟩
  intro FC SF nm X c h w W we ps fc fr ng hc hh ty hW hE ex
  have pb : ((pcC Sb : Nat) : Int) = (Sb.i 20).toInt := Int.toNat_of_nonneg cr.1.1
  have pS : ((pcC S : Nat) : Int) = (S.i 20).toInt := Int.toNat_of_nonneg crS.1.1
  have pR : ((pcC R : Nat) : Int) = (R.i 20).toInt := Int.toNat_of_nonneg (by have := k1.1.1; have := crS.1.1; omega)
  have l1 := c1.1.1
  have l2 := k1.1.1
  have fcS : FGC Sb S SF := by
    obtain ⟨⟨f1, f2⟩, f3, f4⟩ := fc
    refine ⟨⟨f1, by omega⟩, fun j j1 j2 => ?_, fun j j1 j2 j3 => ?_⟩
    · have y1 := f3 j j1 (by omega)
      have y2 := k1.2.1 j j2
      exact ⟨y1.1.trans y2.1, y1.2.trans y2.2⟩
    · have ne : ¬ (j : Int) = tgt.toInt := fun z => by
        have : j = tgt.toNatClampNeg := by omega
        rw [this] at j3
        omega
      have y2 := k2 j j2 ne
      exact (f4 j j1 (by have := k1.2.2.1; omega) (j3.elim (fun q => Or.inl (by rw [y2]; exact q)) (fun q => Or.inr (by have := k1.2.2.1; omega)))).trans y2
  have z1 := h2 FC SF nm X c h (w + (pcC R - pcC S)) W we ps.1 fcS (fr.cd k4 (Int.le_refl _)) ng hc hh ty (by omega) (by omega) ex
  have z2 := k5 FC SF nm X c h w W we 0 ps.2 (fc.sub c1 (CD1.rf R) (CT7.rf _ _ R)) (fr.mid c3 jl) (ng.mv n50 c1 c3 a5.1.1.2.2.2.1 (fun j hj => (a5.1.2.1 j hj).2.1) (by rw [a8]; exact Int.le_refl _)) hc (by omega) ty hW hE ex (by decide)
  have e18 := w6.2.2.2.1
  refine z1.mv (fun T v y => Or.inl ?_) w6.1.1 e18 k1.2.2.2.2.2.2.2.2 (fun y hy => ⟨(m24 y (jl y hy)).1, (k4.2.2.1 y (jl y hy)).2.1, (m24 y (jl y hy)).2.2⟩)
  rcases y with ⟨p', q', w', y1, y2, y3⟩ | ⟨rfl, rfl⟩
  · exact ⟨p', q', w', y1, by omega, y3⟩
  · refine ⟨pcC S, pcR s, _, ⟨?_, ?_⟩, (by omega : w + (pcC R - pcC S) + 0 ≤ _), z2⟩
    · have i9 : ib T 1024 := ⟨t0, by have := crS.2.2; have : (S.i 44).toInt = (s.i 11).toInt := by rw [a1.p44.1]
                                     have := a1.p44
                                     omega⟩
      have k3' := k3
      unfold cTg gAt at k3' ⊢
      rw [if_pos i9] at k3' ⊢
      have y1 := fc.2.2 T.toNatClampNeg (by omega) (by have := k1.2.2.1; omega) (Or.inl (by rw [k3']; exact crS.1.1))
      rw [y1, k3', pS]
    · rw [← h20]
      exact (Int.toNat_of_nonneg a1.p20.1).symm
theorem nt_un {N : Nat} {S : CS} {w : Int32 × CS} (e : f_X0_newTarget N S = some w) (h0 : 0 ≤ (S.i 21).toInt) (h1 : (S.i 21).toInt < 1024) : (w.2.a 17 w.1.toNatClampNeg).toInt < 0 := by
  unfold f_X0_newTarget at e
  cases e
  have hib : ib (S.i 21) 1024 := ⟨h0, by omega⟩
  show (gPut (S.a 17) 1024 (S.i 21) (-1) ((S.i 21 + 1) - 1).toNatClampNeg).toInt < 0
  rw [Int32.add_sub_cancel]
  unfold gPut
  rw [if_pos hib]
  show (if (S.i 21).toNatClampNeg = (S.i 21).toNatClampNeg then (-1 : Int32) else _).toInt < 0
  rw [if_pos rfl]
  decide
theorem nt_eq {N : Nat} {S : CS} {w : Int32 × CS} (e : f_X0_newTarget N S = some w) : w.2.i 20 = S.i 20 ∧ w.2.i 22 = S.i 22 ∧ w.2.a 18 = S.a 18 ∧ w.2.a 19 = S.a 19 ∧ w.2.i 43 = S.i 43 := by
  unfold f_X0_newTarget at e
  cases e
  exact ⟨rfl, rfl, rfl, rfl, rfl⟩
/-- a target more, a token on -/
theorem AMW.nadv {N : Nat} (hN : 1000 ≤ N) {δ : Int} {Z Z' : Int32 → Int32 → Prop} {x2 : Int32} {q0 t : Nat} {U : RS} {Sb : CS} {sb : RS} {d f x4 : Int32} {L : List Nat} {S : CS} {s u : RS} {w : Int32 × CS} {R : Unit × CS} (h : AMW δ Z x2 q0 t U Sb sb f x4 L S s) (hz : ∀ T v : Int32, Z T v → Z' T v) (hv : ENV d S s) (h21 : (S.i 21).toInt + 1 ≤ 3 * (s.i 11).toInt + 8) (nz : ¬ S.i 43 = 0) (ew : f_X0_newTarget N S = some w) (e : f_X9_advance N w.2 = some R) (g : f_X12_next N s = some u) : AMW (δ + 1) Z' x2 q0 t U Sb sb f x4 L R.2 u ∧ TGU w.1 Sb R.2 ∧ u.i 20 = s.i 20 := by
  obtain ⟨n20, n22, n18, n19, n43⟩ := nt_eq ew
  have vw := (hv.nt h21 ew).1
  have nz' : ¬ w.2.i 43 = 0 := by rw [n43]; exact nz
  obtain ⟨a1, a2, a3, a4, a5, a6, a7⟩ := adv_cd hN vw nz' e g
  obtain ⟨w1, w2, w3, w4, w5, w6, w7, w8, w9, w10⟩ := vw.adv hN nz' e g
  obtain ⟨p20, p15, p16, p17, p23, p38, p22, p19⟩ := pe_eq (ke_X9_advance N w.2 R e)
  have s44 : (S.i 44).toInt = (s.i 11).toInt := by rw [hv.p44.1]
  have q44 := hv.p44
  have e66 : u.a 66 t = s.a 66 t := ((FRB.of w2 : FRB (t + 1) s u) t (by omega)).2.2.1
  have x : CRB S → CD1 (-1) 0 S R.2 ∧ CT7 0 (S.i 21).toInt S R.2 := fun crS => by
    obtain ⟨n1, n2, n3, n4, -⟩ := cd_nt ew crS.2.1 (by have := crS.2.2; omega)
    exact ⟨(n1.tr a1).wk (by omega) (by omega), (n4 0).tr (a2 _ _)⟩
  have hd := h.2.1
  refine ⟨h.tk hz x ⟨by omega, by omega⟩ (by omega) (p20.trans n20) (p22.trans n22) (w9.1.trans n18) (p19.trans n19) (kre_f_X12_next N s u g) e66, fun cr => ?_, a6⟩
  have crS := h.crb cr
  have c1 := (h.2.2.2 cr).1
  obtain ⟨n1, n2, n3, n4, -⟩ := cd_nt ew crS.2.1 (by have := crS.2.2; omega)
  have un := nt_un ew crS.2.1 (by have := crS.2.2; omega)
  have l := c1.2.2.1
  refine ⟨⟨by rw [n2]; exact l, by rw [a5, n2]; omega⟩, by rw [p17]; exact un⟩
end
section
/-! both readers: the numbers of an arm, then the arm -/
/-- an arm is done, seen from the place s -/
def AMD (x2 : Int32) (q0 : Nat) (U : RS) (d : Int32) (t : Nat) (f x4 : Int32) (c : Int) (S0 : CS) (s0 s : RS) (R : CS) (u : RS) : Prop := (∃ L : List Nat, AMI d t f x4 c L S0 s0 R u ∧ AMW 0 (fun _ _ => False) x2 q0 t U S0 s0 f x4 L R u) ∧ KDB f R u ∧ u.a 65 t = 2 ∧ (s.i 11).toInt + 1 ≤ (u.i 11).toInt ∧ phI s + 1 ≤ phI u ∧ (s.i 17).toInt + 1 ≤ (u.i 17).toInt
theorem y_nums {N : Nat} (hN : 1000 ≤ N) {E1 : CS → Option (Unit × CS)} {E2 : CS → Option (Int32 × CS)} (hm1 : ∀ σ, Kf (CS.i σ 32) (E1 σ)) (hm2 : ∀ σ, Kf (CS.i σ 32) (E2 σ)) (hE : SXR N 18 E1) (hB : ABK N (f_X7_armBlock N E1 E2)) {d : Int32} {t : Nat} {f x3 x5 tgt v0 : Int32} {q0 : Nat} {c : Int} {S0 : CS} {s0 U : RS} (hG : GA0 S0 s0) : ∀ (n1 : Nat) (n : Nat) (L : List Nat) (S : CS) (s : RS) (x6 : Int32) (R : Int32 × CS), AMI d t f x5 c L S0 s0 S s → AMW 1 (fun T v => T = tgt ∧ v = v0) x3 q0 t U S0 s0 f x5 L S s → s.i 20 = v0 → TGU tgt S0 S → (s0.i 11).toInt + 2 ≤ (s.i 11).toInt → 3 * (S.i 22).toInt + 11 ≤ (s.i 11).toInt + KD S f.toInt (S.i 22).toInt → s.a 65 t = 3 → 0 ≤ x6.toInt → x6.toInt ≤ (s.i 11).toInt → ((f_X1_caseNumber N S f tgt).bind fun p53 => f_X1_arm_70 N E1 E2 n1 p53.2 f x3 tgt x5 x6) = some R → f_X12_parse_10 N n s = some U → (¬ R.2.i 32 = 0 ∧ ¬ U.i 15 = 0) ∨ ∃ (m : Nat) (u : RS), f_X12_parse_10 N m u = some U ∧ AMD x3 q0 U d t f x5 c S0 s0 s R.2 u ∧ R.1 = x5
  | 0, _, _, _, _, _, _, _, _, _, _, _, _, _, _, _, e, _ => by
    obtain ⟨p, _, e⟩ := hf_bind e
    cases e
  | n1 + 1, n, L, S, s, x6, R, hA, hW, h20, hU, h2, hk, hs, x0, x9, e, g => by
    obtain ⟨p, ep, e⟩ := hf_bind e
    have fl : ¬ p.2.i 32 = 0 → ¬ R.2.i 32 = 0 := fun z => by rw [kF_X1_arm_70 N E1 E2 hm1 hm2 (n1 + 1) p.2 f x3 tgt x5 x6 R e z]; exact z
    have hv := hA.1
    have ht := hA.2.1
    have hk64 := hA.2.2.1
    have hc := hA.2.2.2.2.2.2.1
    obtain ⟨m, V, hV, g2⟩ := rl_19 g ht hv.1.2.1 hk64
    unfold f_X12_arms at hV
    obtain ⟨hib, hV⟩ := hf_ite hV
    rw [tp_nat ht, if_neg (show ¬ s.a 65 t = 0 by rw [hs]; decide), if_neg (show ¬ s.a 65 t = 1 by rw [hs]; decide), if_neg (show ¬ s.a 65 t = 2 by rw [hs]; decide), if_pos hs] at hV
    obtain ⟨q, hq, hV⟩ := hf_bind hV
    have kl := KD.le S f.toInt (S.i 22).toInt
    have pl := hv.1.2.2.2.2.1
    have pm := hv.1.2.2.1.2.1
    have lc0 := hv.1.2.2.2.2.2.2.1.2.1
    have k11 := hv.1.2.2.2.1.1
    have k12 := hv.1.2.2.2.1.2.1
    rw [k11, k12] at lc0
    rcases y_caseNumber hN hv (tp_nat ht) hc.1 hc.2.1 hc.2.2.1 (by omega) ep hq with ⟨o1, o2, o3⟩ | ⟨o1, o2, oc⟩
    · rw [if_pos o1] at hV
      cases hV
      exact Or.inl ⟨fl o2, u_flt g2 o3⟩
    · rw [if_neg (show ¬ q.1 = 0 by rw [o1]; decide)] at hV
      obtain ⟨⟨L', a1⟩, a2, a3, a4, a5, a6⟩ := hA.num hk o2
      have z44 : (S.i 44).toInt + 1 ≤ (p.2.i 44).toInt := by rw [hv.p44.1, a1.1.p44.1]; exact a4
      obtain ⟨L2, aw, ac, a20⟩ := hW.num hA o2 oc h20 z44
      have eL : L2 = L' := chn.un _ _ _ ac a1.2.2.2.2.2.2.1.2.1
      subst eL
      have hU2 : TGU tgt S0 p.2 := hU.mv (pj_21 o2.qpj) oc.1.2.2.2.2.2
      have e' : b_X1_arm_70 N E1 E2 (f_X1_arm_70 N E1 E2 n1) p.2 f x3 tgt x5 x6 = some R := e
      unfold b_X1_arm_70 f_X1_skip f_X1_skip_17 at e'
      have e900 : (900 : Int32).toInt = 900 := by decide
      have qv := a1.1
      have qpl := qv.1.2.2.2.2.1
      have qpm := qv.1.2.2.1.2.1
      have qlc := qv.1.2.2.2.2.2.2.1.2.1
      have q11 := qv.1.2.2.2.1.1
      have q12 := qv.1.2.2.2.1.2.1
      rw [q11, q12] at qlc
      have c9 : ¬ (900 : Int32) ≤ x6 := fun z => by
        have := le_int z
        omega
      rw [if_neg c9] at e'
      have i44 := tk_is qv (a := 44) (b := 44) (Or.inl ⟨by decide, by decide⟩) (by decide)
      obtain ⟨r, er, e'⟩ := hf_bind e'
      by_cases k : p.2.i 43 = 44
      · rw [if_pos (i44.mp k)] at hV
        unfold f_X12_arms_333 at hV
        rw [if_pos (show (RS.setA q.2 65 t 3).i 10 = 44 from i44.mp k), ob_id] at hV
        rw [e_fnd1 k, ob_some, if_neg n10] at er
        obtain ⟨a, ea, er⟩ := hf_bind er
        cases er
        obtain ⟨b1, b2, b3, b4, b5, b6, b7, b8⟩ := (a1.s65 (v := 3)).adv hN (by rw [k]; decide) ea hV
        have b5' : (q.2.i 11).toInt + 1 ≤ (V.i 11).toInt := b5
        obtain ⟨d1', d2', d3', d4', d5', d6', d7'⟩ := adv_cd hN (a1.s65 (v := 3)).1 (by rw [k]; decide) ea hV
        obtain ⟨p20, p15, p16, p17, p23, p38, p22, p19⟩ := pe_eq (ke_X9_advance N p.2 a ea)
        have aw2 := aw.tk (δ' := 1) (Z' := fun T v => T = tgt ∧ v = v0) (R := a.2) (u := V) (fun _ _ z => z) (fun _ => ⟨d1', d2' _ _⟩) ⟨by omega, by omega⟩ (by omega) p20 p22 b4 p19 (show qe V = qe (RS.setA q.2 65 t 3) from kre_f_X12_next N (RS.setA q.2 65 t 3) V hV) (by rw [b2]; rfl)
        have hU3 : TGU tgt S0 a.2 := hU2.mv d5' p17
        have b6' : phI V = phI q.2 + 3 := b6
        have b7' : (V.i 17).toInt = (q.2.i 17).toInt + 1 := b7
        have x61 : (x6 + 1).toInt = x6.toInt + 1 := ad1 x0 (by omega)
        have kb : 3 * (a.2.i 22).toInt + 11 ≤ (V.i 11).toInt + KD a.2 f.toInt (a.2.i 22).toInt := by
          unfold KDB at a2
          rw [b3, KD.eq (s := p.2) (fun i _ => by rw [b4])]
          omega
        have e2 : ((f_X1_caseNumber N a.2 f tgt).bind fun p53 => f_X1_arm_70 N E1 E2 n1 p53.2 f x3 tgt x5 (x6 + 1)) = some R := (if_neg n10).symm.trans e'
        rcases y_nums hN hm1 hm2 hE hB hG n1 m L2 a.2 V (x6 + 1) R b1 aw2 (d6'.trans a20) hU3 (by omega) kb (by rw [b2]; exact s65_at) (by omega) (by omega) e2 g2 with z | ⟨m2, u, g3, ⟨w1, w2, w3, w4, w5, w6⟩, w7⟩
        · exact Or.inl z
        · exact Or.inr ⟨m2, u, g3, ⟨w1, w2, w3, by omega, by omega, by omega⟩, w7⟩
      · have k' : ¬ q.2.i 10 = 44 := fun z => k (i44.mpr z)
        rw [if_neg k'] at hV
        unfold f_X12_arms_333 at hV
        rw [if_neg (show ¬ (RS.setA q.2 65 t 5).i 10 = 44 from k')] at hV
        cases hV
        rw [e_fnd0 k, ob_some, if_pos rfl] at er
        cases er
        have e2 : f_X1_arm_100 N E1 E2 p.2 x3 tgt x5 = some R := (if_pos rfl).symm.trans e'
        have a7 := a1.s65 (v := 5)
        rcases y_arm100 hN hm1 hm2 hE hB a7.1 (a7.gar hG (show (s0.i 11).toInt + 2 ≤ (q.2.i 11).toInt by omega)) a7.2.1 a7.2.2.1 s65_at e2 g2 with z | ⟨m2, u, g3, xo, w7, acd⟩
        · exact Or.inl z
        · obtain ⟨z1, z2⟩ := a7.axo (show KDB f p.2 (RS.setA q.2 65 t 5) from a2) xo
          have y7 : (q.2.i 11).toInt + 1 ≤ (u.i 11).toInt := xo.2.2.2.2.2.2.1
          have y8 : phI q.2 + 1 ≤ phI u := xo.2.2.2.2.2.2.2.1
          have y9 : (q.2.i 17).toInt + 1 ≤ (u.i 17).toInt := xo.2.2.2.2.2.2.2.2.1
          have aw3 := (aw.tk (δ' := 0) (Z' := fun T v => T = tgt ∧ v = v0) (R := p.2) (u := RS.setA q.2 65 t 5) (fun _ _ z => z) (fun _ => ⟨CD1.rf _, CT7.rf _ _ _⟩) ⟨by omega, by omega⟩ (by omega) rfl rfl rfl rfl rfl rfl).arm a7 a20 xo acd hU2 hG.2.2.2.2.2
          exact Or.inr ⟨m2, u, g3, ⟨⟨L2, z1, aw3⟩, z2, xo.2.2.1.2.1, by omega, by omega, by omega⟩, w7⟩
end
section
/-! both readers: an arm, from its first word on -/
/-- the tables from s0 on, over an entry -/
theorem TBC.ent {c : Int} {s0 s y : RS} {t : Nat} {v b : Int32} {L : List Nat} (hT : TBC c s0 s) (hn : ENR s t v b y) (hl : chn s (s.a 22 (s.a 66 t).toNatClampNeg) L) (hq : FQL s t L) (hL : ∀ j ∈ L, (s0.i 24).toInt ≤ (j : Int)) (h66 : 0 ≤ c ∧ c ≤ (s.a 66 t).toInt) : TBC c s0 y := by
  obtain ⟨e, k1, k2, k3, k4, k5, k6, k7, k8⟩ := hn.chain hl hq
  obtain ⟨n1, n2, n3, n4, n5, n6, n7, n8, n9, n10, -⟩ := id hn
  obtain ⟨⟨⟨t1, t2, t3, t4, t5, t6, t7, t8, t9, t10⟩, n, g43, g56, ⟨l59, m59⟩, b59, l29, m29, l33, m33, l24, m24⟩, l20, m20⟩ := hT
  have ya : ∀ k : Nat, k ≠ 22 → k ≠ 25 → k ≠ 26 → k ≠ 27 → k ≠ 28 → k ≠ 67 → y.a k = s.a k := n7
  have e24 : (y.i 24).toInt = (s.i 24).toInt + 1 := by rw [n1]; exact ad1 n2.1 (by omega)
  refine ⟨⟨⟨(n8 2 (by decide)).trans t1, (n8 3 (by decide)).trans t2, (n8 8 (by decide)).trans t3, (n8 38 (by decide)).trans t4, (n8 43 (by decide)).trans t5, (n8 2 (by decide)).trans t6, (n8 56 (by decide)).trans t7, (ya 1 (by decide) (by decide) (by decide) (by decide) (by decide) (by decide)).trans t8, (ya 4 (by decide) (by decide) (by decide) (by decide) (by decide) (by decide)).trans t9, by rw [n9]; exact t10⟩, fun j hj => ?_, fun j hj => ?_, fun j hj => ?_, ⟨?_, fun j k1 k2 => ?_⟩, fun j hj => ?_, ?_, fun j hj => ?_, ?_, fun j hj => ?_, by omega, fun j hj => ?_⟩, ?_, fun j hj => ?_⟩
  · rw [n9, ya 40 (by decide) (by decide) (by decide) (by decide) (by decide) (by decide), ya 41 (by decide) (by decide) (by decide) (by decide) (by decide) (by decide)]
    exact n j hj
  · rw [n9, ya 44 (by decide) (by decide) (by decide) (by decide) (by decide) (by decide), ya 46 (by decide) (by decide) (by decide) (by decide) (by decide) (by decide), ya 47 (by decide) (by decide) (by decide) (by decide) (by decide) (by decide), ya 50 (by decide) (by decide) (by decide) (by decide) (by decide) (by decide), ya 51 (by decide) (by decide) (by decide) (by decide) (by decide) (by decide), ya 48 (by decide) (by decide) (by decide) (by decide) (by decide) (by decide), ya 49 (by decide) (by decide) (by decide) (by decide) (by decide) (by decide)]
    exact g43 j hj
  · rw [ya 57 (by decide) (by decide) (by decide) (by decide) (by decide) (by decide), ya 58 (by decide) (by decide) (by decide) (by decide) (by decide) (by decide)]
    exact g56 j hj
  · rw [n8 59 (by decide)]
    exact l59
  · rw [n8 59 (by decide)] at k2
    rw [ya 62 (by decide) (by decide) (by decide) (by decide) (by decide) (by decide)]
    exact m59 j k1 k2
  · rw [ya 60 (by decide) (by decide) (by decide) (by decide) (by decide) (by decide), ya 61 (by decide) (by decide) (by decide) (by decide) (by decide) (by decide), ya 62 (by decide) (by decide) (by decide) (by decide) (by decide) (by decide)]
    exact b59 j hj
  · rw [n8 29 (by decide)]
    exact l29
  · rw [ya 30 (by decide) (by decide) (by decide) (by decide) (by decide) (by decide)]
    exact m29 j hj
  · rw [n8 33 (by decide)]
    exact l33
  · rw [ya 34 (by decide) (by decide) (by decide) (by decide) (by decide) (by decide), ya 37 (by decide) (by decide) (by decide) (by decide) (by decide) (by decide)]
    exact m33 j hj
  · have a := k6 j (by omega)
    have b := k7 j (by omega) (fun z => by have := hL j z; omega)
    rw [a.1, a.2, b]
    exact m24 j hj
  · rw [n8 20 (by decide)]
    exact l20
  · rw [k8 j (by intro z; have : ((s.a 66 t).toNatClampNeg : Int) = (s.a 66 t).toInt := clampI (by omega); omega)]
    exact m20 j hj
theorem s68_at {s : RS} {t : Nat} {v : Int32} : (RS.setA s 68 t v).a 68 t = v := by
  show upd (s.a 68) t v t = v
  exact if_pos rfl
/-- the entry of default -/
theorem AMI.dft {N : Nat} {d : Int32} {t : Nat} {f x4 x5 x : Int32} {c : Int} {L : List Nat} {S0 S : CS} {s0 s y : RS} (h : AMI d t f x4 c L S0 s0 S s) (hx : x.toNatClampNeg = t) (h5 : 0 ≤ x5.toInt) (g : f_X12_entry N (RS.setA s 68 t 1) x 0 1 = some y) : (∃ L' : List Nat, AMI d t f x5 c L' S0 s0 S y) ∧ y.i 11 = s.i 11 ∧ y.i 17 = s.i 17 ∧ phI y = phI s ∧ y.i 12 = s.i 12 := by
  obtain ⟨h1, h2, h3, h4, h5', h6, ⟨c1, c2, c3, c4⟩, ⟨p1, p2, p3, p4⟩, -, v1, v2, v3⟩ := h
  have en := y_entry hx g
  have b1 : vp_nar .boolean (1 : Int32) = 1 := by decide
  rw [b1] at en
  have ch : chn (RS.setA s 68 t 1) (s.a 22 (s.a 66 t).toNatClampNeg) L := chn.up (s := s) (u := RS.setA s 68 t 1) (Int.le_refl _) (fun _ _ => rfl) _ _ c2
  have ev : ENV d S (RS.setA s 68 t 1) := setA_env (Or.inr (by omega)) h1
  have tb : TBC c s0 (RS.setA s 68 t 1) := ⟨h5'.1.tr (setA_tb0 (Or.inr (by omega))), h5'.2⟩
  have fr : FRB t s0 (RS.setA s 68 t 1) := h6.tr (setA_frb (Or.inr ⟨by omega, by omega, Nat.le_refl _⟩))
  have tb2 := tb.ent en ch c3 c4 ⟨p1, p3⟩
  have s68 : (RS.setA s 68 t 1).a 68 t = 1 := s68_at
  have hh : (RS.setA s 68 t 1).i = s.i ∧ (RS.setA s 68 t 1).a 64 = s.a 64 ∧ (RS.setA s 68 t 1).a 66 = s.a 66 ∧ (RS.setA s 68 t 1).a 28 = s.a 28 ∧ (RS.setA s 68 t 1).a 25 = s.a 25 ∧ (RS.setA s 68 t 1).a 67 = s.a 67 ∧ (RS.setA s 68 t 1).a 22 = s.a 22 := ⟨rfl, rfl, rfl, rfl, rfl, rfl, rfl⟩
  obtain ⟨s', hs'⟩ : ∃ z, z = RS.setA s 68 t 1 := ⟨_, rfl⟩
  rw [← hs'] at en ch ev fr s68 hh
  have c3' : FQL s' t L := by
    unfold FQL at *
    rw [hh.2.2.2.2.2.1]
    exact c3
  have ch' : chn s' (s'.a 22 (s'.a 66 t).toNatClampNeg) L := by rw [hh.2.2.2.2.2.2, hh.2.2.1]; exact ch
  clear hs' g tb
  obtain ⟨e, k1, k2, k3, k4, k5, k6, k7, k8⟩ := en.chain ch' c3'
  obtain ⟨n1, n2, n3, n4, n5, n6, n7, n8, n9, n10, -⟩ := en
  have jl := chn.lt L _ ch
  have a64 : y.a 64 = s'.a 64 := n7 64 (by decide) (by decide) (by decide) (by decide) (by decide) (by decide)
  have a66 : y.a 66 = s'.a 66 := n7 66 (by decide) (by decide) (by decide) (by decide) (by decide) (by decide)
  have a68 : y.a 68 = s'.a 68 := n7 68 (by decide) (by decide) (by decide) (by decide) (by decide) (by decide)
  have y20 : y.i 20 = s.i 20 := (n8 20 (by decide)).trans (by rw [hh.1])
  have y11 : y.i 11 = s.i 11 := (n8 11 (by decide)).trans (by rw [hh.1])
  have y17 : y.i 17 = s.i 17 := (n8 17 (by decide)).trans (by rw [hh.1])
  have y12 : y.i 12 = s.i 12 := (n8 12 (by decide)).trans (by rw [hh.1])
  have y19 : y.i 19 = s.i 19 := (n8 19 (by decide)).trans (by rw [hh.1])
  have py : phI y = phI s := by
    unfold phI
    rw [y17, y20]
  have ey : ENV d S y := ev.kq (n8 38 (by decide)) (n8 2 (by decide)) (n8 3 (by decide)) (n8 18 (by decide)) (n8 53 (by decide)) (n8 54 (by decide)) (n8 55 (by decide)) (n7 1 (by decide) (by decide) (by decide) (by decide) (by decide) (by decide)) (n7 4 (by decide) (by decide) (by decide) (by decide) (by decide) (by decide)) (n7 41 (by decide) (by decide) (by decide) (by decide) (by decide) (by decide)) (by rw [n9]) (by rw [n9]) (n8 10 (by decide)) (n8 11 (by decide)) (n8 12 (by decide)) (n8 14 (by decide)) (n8 15 (by decide)) (n8 17 (by decide)) (n8 19 (by decide)) n10 ⟨by rw [y20]; exact h1.2.2.2.2.2.2.1, by rw [py]; exact h1.2.2.2.2.2.2.2.1⟩ (ev.wp.of (by rw [n8 43 (by decide)]; exact Int.le_refl _) (n8 56 (by decide)) (n8 59 (by decide)) (n8 29 (by decide)) (n7 58 (by decide) (by decide) (by decide) (by decide) (by decide) (by decide)) (n7 62 (by decide) (by decide) (by decide) (by decide) (by decide) (by decide)))
  have le : (s0.i 24).toInt ≤ (e : Int) := by
    have q := h5'.1.2.2.2.2.2.2.2.2.2.2.1
    rw [← k1, hh.1]
    exact q
  refine ⟨⟨L ++ [e], ey, ?_, by rw [a64, hh.2.1]; exact h3, h4, tb2, ?_, ⟨⟨c1.1, c1.2.1, fun w => ?_⟩, k2, k3, fun j hj => ?_⟩, ⟨p1, p2, by rw [a66, hh.2.2.1]; exact p3, by rw [a66, hh.2.2.1, y20]; exact p4⟩, ⟨by rw [a68, s68]; exact Or.inr rfl, by rw [a68, s68]; exact ⟨fun _ => h5, fun _ => rfl⟩⟩, v1, y19.trans v2, by rw [y11, py, y17]; exact v3⟩, y11, y17, py, y12⟩
  · show (y.i 63).toInt = (t : Int)
    rw [n8 63 (by decide), hh.1]
    exact h2
  · refine fr.tr (fun j hj => ⟨by rw [a64], by rw [n7 65 (by decide) (by decide) (by decide) (by decide) (by decide) (by decide)], by rw [a66], ?_, by rw [a68], by rw [n7 69 (by decide) (by decide) (by decide) (by decide) (by decide) (by decide)], by rw [n7 70 (by decide) (by decide) (by decide) (by decide) (by decide) (by decide)], by rw [n7 71 (by decide) (by decide) (by decide) (by decide) (by decide) (by decide)], by rw [n7 72 (by decide) (by decide) (by decide) (by decide) (by decide) (by decide)], by rw [n7 73 (by decide) (by decide) (by decide) (by decide) (by decide) (by decide)], by rw [n9]⟩)
    rw [n5]
    exact if_neg (by omega)
  · rw [c1.2.2 w]
    constructor
    · intro ⟨j, j1, j2, j3⟩
      have jj := jl j j1
      have a := k6 j (by omega)
      exact ⟨j, List.mem_append_left _ j1, by rw [a.2, hh.2.2.2.1]; exact j2, by rw [a.1, hh.2.2.2.2.1]; exact j3⟩
    · intro ⟨j, j1, j2, j3⟩
      rcases List.mem_append.mp j1 with z | z
      · have jj := jl j z
        have a := k6 j (by omega)
        rw [a.2, hh.2.2.2.1] at j2
        rw [a.1, hh.2.2.2.2.1] at j3
        exact ⟨j, z, j2, j3⟩
      · rcases List.mem_cons.mp z with rfl | z
        · rw [k5] at j2
          exact absurd j2 (by decide)
        · exact absurd z List.not_mem_nil
  · rcases List.mem_append.mp hj with z | z
    · exact c4 j z
    · rcases List.mem_cons.mp z with rfl | z
      · exact le
      · exact absurd z List.not_mem_nil
/-- the numbers so far, between two arms -/
def KD8 (f : Int32) (S : CS) (s : RS) : Prop := 3 * (S.i 22).toInt + 8 ≤ (s.i 11).toInt + KD S f.toInt (S.i 22).toInt
theorem y_arm {N : Nat} (hN : 1000 ≤ N) {E1 : CS → Option (Unit × CS)} {E2 : CS → Option (Int32 × CS)} (hm1 : ∀ σ, Kf (CS.i σ 32) (E1 σ)) (hm2 : ∀ σ, Kf (CS.i σ 32) (E2 σ)) (hE : SXR N 18 E1) (hB : ABK N (f_X7_armBlock N E1 E2)) {d : Int32} {t n : Nat} {f x3 x4 : Int32} {c : Int} {L : List Nat} {S0 S : CS} {s0 s U : RS} {R : Int32 × CS} {q0 : Nat} (hG : GA0 S0 s0) (hA : AMI d t f x4 c L S0 s0 S s) (hW : AMW 0 (fun _ _ => False) x3 q0 t U S0 s0 f x4 L S s) (hk : KD8 f S s) (hs : s.a 65 t = 2) (hc : S.i 43 = 219 ∨ S.i 43 = 220) (e : f_X1_arm N E1 E2 S f x4 x3 = some R) (g : f_X12_parse_10 N n s = some U) : (¬ R.2.i 32 = 0 ∧ ¬ U.i 15 = 0) ∨ ∃ (m : Nat) (u : RS), f_X12_parse_10 N m u = some U ∧ AMD x3 q0 U d t f R.1 c S0 s0 s R.2 u := by
  have hv := hA.1
  have ht := hA.2.1
  obtain ⟨m, V, hV, g2⟩ := rl_19 g ht hv.1.2.1 hA.2.2.1
  have i219 := tk_is hv (a := 219) (b := 429) (Or.inr ⟨by decide, by decide⟩) (by decide)
  have i220 := tk_is hv (a := 220) (b := 430) (Or.inr ⟨by decide, by decide⟩) (by decide)
  unfold f_X12_arms at hV
  obtain ⟨hib, hV⟩ := hf_ite hV
  rw [tp_nat ht, if_neg (show ¬ s.a 65 t = 0 by rw [hs]; decide), if_neg (show ¬ s.a 65 t = 1 by rw [hs]; decide), if_pos hs] at hV
  unfold f_X1_arm at e
  obtain ⟨w, ew, e⟩ := hf_bind e
  obtain ⟨-, n43, n44, n22, n18, n21⟩ := nt_i ew
  have nz : ¬ S.i 43 = 0 := fun z => by
    rcases hc with q | q <;> rw [q] at z <;> exact absurd z (by decide)
  have lc := hv.1.2.2.2.2.2.2.1
  have k11 := hv.1.2.2.2.1.1
  have k12 := hv.1.2.2.2.1.2.1
  by_cases k : S.i 43 = 220
  · -- default
    have kr := i220.mp k
    rw [if_neg (show ¬ s.i 10 = 429 by rw [kr]; decide), if_pos kr] at hV
    rw [e_fnd1 (show w.2.i 43 = 220 by rw [n43]; exact k), ob_some, if_neg n10] at e
    have r2 := hA.2.2.2.2.2.2.2.2.1
    unfold f_X1_arm_39 at e
    by_cases c4 : x4 < 0
    · rw [if_pos c4] at e
      have c4' : ¬ 0 ≤ x4.toInt := by
        have := lt_int c4
        rw [z_t0] at this
        omega
      rw [if_neg (fun z => c4' (r2.2.mp z))] at hV
      obtain ⟨y, hy, hV⟩ := hf_bind hV
      obtain ⟨v, hv2, hV⟩ := hf_bind hV
      cases hV
      obtain ⟨a, ea, e⟩ := hf_bind e
      have v6 := hA.2.2.2.2.2.2.2.2.2.2.2.2.2.2
      have w0 := (hv.nt (by omega) ew).2.1
      have w9 : 0 ≤ w.1.toInt := by
        have := hv.2.2.2.2.2.2.2.2.2.2.2.1
        omega
      obtain ⟨⟨L1, a1⟩, y11, y17, py, y12⟩ := hA.dft (x5 := w.1) (x := s.i 63) (tp_nat ht) w9 hy
      obtain ⟨⟨b1, b2, b3, b4, b5, b6, b7, b8⟩, -⟩ := a1.nadv hN nz ew ea hv2
      have c40 : x4.toInt < 0 := by
        have := lt_int c4
        rw [z_t0] at this
        exact this
      obtain ⟨L2, aw, ac, a20⟩ := (hW.tk (δ' := 0) (Z' := fun T v => T = w.1 ∧ v = s.i 20) (R := S) (u := s) (fun _ _ z => z.elim) (fun _ => ⟨CD1.rf _, CT7.rf _ _ _⟩) ⟨by omega, by omega⟩ (by omega) rfl rfl rfl rfl rfl rfl).dft hA (tp_nat ht) c40 w9 ⟨rfl, rfl⟩ hy
      have eL : L2 = L1 := chn.un _ _ _ ac a1.2.2.2.2.2.2.1.2.1
      subst eL
      obtain ⟨aw2, hU, b20⟩ := aw.nadv hN (Z' := fun T v => T = w.1 ∧ v = s.i 20) (fun _ _ z => z) a1.1 (by have := a1.2.2.2.2.2.2.2.2.2.2.2.2.2.2.1; omega) nz ew ea hv2
      have z1 := b1.s65 (v := 5)
      have v3 := hA.2.2.2.2.2.2.2.2.2.2.2.1
      have b8' : (y.i 12).toInt ≤ (v.i 11).toInt := b8
      rw [y12] at b8'
      have l2 := lc.2.2.2.2.2.1 (Or.inl (by rw [k]; decide))
      rw [k11, k12] at l2
      have kd : KDB f a.2 (RS.setA v 65 t 5) := by
        unfold KD8 at hk
        unfold KDB
        show 3 * (a.2.i 22).toInt + 10 ≤ (v.i 11).toInt + KD a.2 f.toInt (a.2.i 22).toInt
        rw [b3, KD.eq (s := S) (fun i _ => by rw [b4])]
        omega
      rcases y_arm100 hN hm1 hm2 hE hB z1.1 (z1.gar hG (show (s0.i 11).toInt + 2 ≤ (v.i 11).toInt by omega)) z1.2.1 z1.2.2.1 s65_at e g2 with z | ⟨m2, u, g3, xo, w7, acd⟩
      · exact Or.inl z
      · obtain ⟨q1, q2⟩ := z1.axo kd xo
        have y7 : (v.i 11).toInt + 1 ≤ (u.i 11).toInt := xo.2.2.2.2.2.2.1
        have y8 : phI v + 1 ≤ phI u := xo.2.2.2.2.2.2.2.1
        have y9 : (v.i 17).toInt + 1 ≤ (u.i 17).toInt := xo.2.2.2.2.2.2.2.2.1
        rw [y11] at b5
        rw [py] at b6
        rw [y17] at b7
        have aw3 := (aw2.tk (δ' := 0) (Z' := fun T v => T = w.1 ∧ v = s.i 20) (R := a.2) (u := RS.setA v 65 t 5) (fun _ _ z => z) (fun _ => ⟨CD1.rf _, CT7.rf _ _ _⟩) ⟨by omega, by omega⟩ (by omega) rfl rfl rfl rfl rfl rfl).arm z1 (show v.i 20 = s.i 20 from b20.trans a20) xo acd hU hG.2.2.2.2.2
        refine Or.inr ⟨m2, u, g3, ⟨⟨L2, ?_⟩, q2, xo.2.2.1.2.1, by omega, by omega, by omega⟩⟩
        rw [w7]
        exact ⟨q1, aw3⟩
    · rw [if_neg c4] at e
      have c4' : 0 ≤ x4.toInt := by
        have := le_int (Int32.not_lt.mp c4)
        rw [z_t0] at this
        exact this
      rw [if_pos (r2.2.mpr c4'), e_fail, ob_some, if_pos hv.1.2.1] at hV
      cases hV
      obtain ⟨p, ep, e⟩ := hf_bind e
      obtain ⟨a, ea, e⟩ := hf_bind e
      have f1 := y_fail (by decide) ep
      have f2 : ¬ a.2.i 32 = 0 := by rw [kF_X9_advance N p.2 a ea f1]; exact f1
      refine Or.inl ⟨by rw [kF_X1_arm_100 N E1 E2 hm1 hm2 a.2 x3 w.1 w.1 R e f2]; exact f2, u_flt g2 ?_⟩
      show ¬ (4 : Int32) = 0
      decide
  · -- case
    have k9 := hc.resolve_right k
    have kr := i219.mp k9
    rw [if_pos kr] at hV
    rw [e_fnd0 (show ¬ w.2.i 43 = 220 by rw [n43]; exact k), ob_some, if_pos rfl] at e
    obtain ⟨a, ea, e⟩ := hf_bind e
    obtain ⟨v, hv2, hV⟩ := hf_bind hV
    cases hV
    obtain ⟨⟨b1, b2, b3, b4, b5, b6, b7, b8⟩, -⟩ := hA.nadv hN nz ew ea hv2
    have v6' := hA.2.2.2.2.2.2.2.2.2.2.2.2.2.2
    have z1 := b1.s65 (v := 3)
    obtain ⟨aw2, hU, b20⟩ := hW.nadv hN (Z' := fun T v => T = w.1 ∧ v = s.i 20) (fun _ _ z => z.elim) hv (by omega) nz ew ea hv2
    have aw3 := aw2.tk (δ' := 1) (Z' := fun T v => T = w.1 ∧ v = s.i 20) (R := a.2) (u := RS.setA v 65 t 3) (fun _ _ z => z) (fun _ => ⟨CD1.rf _, CT7.rf _ _ _⟩) ⟨by omega, by omega⟩ (by omega) rfl rfl rfl rfl rfl rfl
    have v3 := hA.2.2.2.2.2.2.2.2.2.2.2.1
    have l2 := lc.2.2.2.2.2.2.1 (Or.inr k9)
    rw [k11, k12] at l2
    have kd : 3 * (a.2.i 22).toInt + 11 ≤ (v.i 11).toInt + KD a.2 f.toInt (a.2.i 22).toInt := by
      unfold KD8 at hk
      rw [b3, KD.eq (s := S) (fun i _ => by rw [b4])]
      omega
    have hi := i11_hi b1.1
    rcases y_nums hN hm1 hm2 hE hB hG N m L a.2 (RS.setA v 65 t 3) 0 R z1 aw3 b20 hU (show (s0.i 11).toInt + 2 ≤ (v.i 11).toInt by omega) kd s65_at (by decide) (by rw [z_t0]; exact hi.1) e g2 with z | ⟨m2, u, g3, ⟨w1, w2, w3, w4, w5, w6⟩, w7⟩
    · exact Or.inl z
    · have w4' : (v.i 11).toInt + 1 ≤ (u.i 11).toInt := w4
      have w5' : phI v + 1 ≤ phI u := w5
      have w6' : (v.i 17).toInt + 1 ≤ (u.i 17).toInt := w6
      rw [w7]
      exact Or.inr ⟨m2, u, g3, ⟨w1, w2, w3, by omega, by omega, by omega⟩⟩
end
section
/-! both readers: the end of a choice -/
theorem close_no {N : Nat} {S : CS} {c : Int32} {R : Unit × CS} (k : ¬ S.i 43 = c) (e : f_X1_close N S c = some R) : ¬ R.2.i 32 = 0 := by
  unfold f_X1_close f_X1_close_22 at e
  rw [e_fnd0 k, ob_some, if_pos rfl] at e
  obtain ⟨p, ep, e⟩ := hf_bind e
  cases e
  exact (show ¬ p.2.i 32 = 0 from y_misp ep)
def st22 (f : Int32) (v : PJT2) : PJT2 := (v.1, (v.2.1.1, v.2.1.2.1, v.2.1.2.2.1, f, v.2.1.2.2.2.2), v.2.2)
theorem pj2_22 (S : CS) (f : Int32) : pj2 (CS.setI S 22 f) = st22 f (pj2 S) := rfl
/-- the class: the cases are laid, and taken away -/
theorem y_adc {N : Nat} {f x2 : Int32} : ∀ (n : Nat) (S : CS) (x3 : Int32) (R : Unit × CS), f_X0_addCases_2 N n S f x2 x3 = some R → pj2 R.2 = pj2 (CS.setI S 22 f)
  | 0, _, _, _, e => by cases e
  | n + 1, S, x3, R, e => by
    have e' : b_X0_addCases_2 N (f_X0_addCases_2 N n) S f x2 x3 = some R := e
    unfold b_X0_addCases_2 at e'
    by_cases c : S.i 22 ≤ x3
    · rw [if_pos c] at e'
      obtain ⟨p, ep, e'⟩ := hf_bind e'
      obtain ⟨q, eq, e'⟩ := hf_bind e'
      cases e'
      exact (kd_X0_add N p.2 30 x2 q eq).trans (kd_X0_add N _ 6 0 p ep)
    · rw [if_neg c] at e'
      obtain ⟨p, ep, e'⟩ := hf_bind e'
      obtain ⟨q, eq, e'⟩ := hf_bind e'
      have h1 := (kd_X0_add N p.2 34 _ q eq).trans (kd_X0_add N S 0 _ p ep)
      have h2 := y_adc n q.2 (x3 + 1) R e'
      rw [h2, pj2_22, pj2_22, h1]
theorem ENV.s22 {d : Int32} {S : CS} {s : RS} {f : Int32} (h : ENV d S s) (h0 : 0 ≤ f.toInt) (h9 : f.toInt ≤ (S.i 22).toInt) : ENV d (CS.setI S 22 f) s := by
  obtain ⟨⟨h1, h2, h3, h4, h5, h6, h7, h8⟩, n, o, c, l, k, ⟨r1, r2, r3, r4, r5, r6, r7, r8, r9, r10, r11⟩⟩ := h
  exact ⟨⟨h1, h2, h3, h4, h5, h6, h7, h8⟩, n, o, c, l, k, ⟨r1, r2, r3, h0, (show 3 * f.toInt ≤ (s.i 11).toInt by omega), r6, r7, r8.mv rfl rfl rfl rfl ⟨rfl, rfl, rfl⟩ r8.2.2.2.2.2.2 (Int.le_refl _), r9, r10, r11⟩⟩
theorem TBC.eq {c : Int} {s0 q w : RS} (h : TBC c s0 q) (hi : ∀ k : Nat, k ≠ 43 → k ≠ 52 → k ≠ 63 → w.i k = q.i k) (ha : ∀ k : Nat, k ≠ 23 → w.a k = q.a k) (hb : w.b = q.b) (h43 : w.i 43 = q.i 43) : TBC c s0 w := by
  unfold TBC TBZ CDK at *
  rw [hi 2 (by decide) (by decide) (by decide), hi 3 (by decide) (by decide) (by decide), hi 8 (by decide) (by decide) (by decide), hi 38 (by decide) (by decide) (by decide), h43, hi 56 (by decide) (by decide) (by decide), ha 1 (by decide), ha 4 (by decide), hb, ha 40 (by decide), ha 41 (by decide), ha 44 (by decide), ha 46 (by decide), ha 47 (by decide), ha 50 (by decide), ha 51 (by decide), ha 48 (by decide), ha 49 (by decide), ha 57 (by decide), ha 58 (by decide), hi 59 (by decide) (by decide) (by decide), ha 60 (by decide), ha 61 (by decide), ha 62 (by decide), hi 29 (by decide) (by decide) (by decide), ha 30 (by decide), hi 33 (by decide) (by decide) (by decide), ha 34 (by decide), ha 37 (by decide), hi 24 (by decide) (by decide) (by decide), ha 25 (by decide), ha 27 (by decide), ha 28 (by decide), hi 20 (by decide) (by decide) (by decide), ha 22 (by decide)]
  exact h
/-- a choice is done, seen from its first arm on -/
def CHE (d : Int32) (t : Nat) (c : Int) (S0 : CS) (s0 : RS) (R : CS) (u : RS) : Prop := ENV d R u ∧ tpI u = (t : Int) - 1 ∧ FRB t s0 u ∧ (u.i 43 = s0.i 43 - 1 ∧ u.i 2 = s0.i 2) ∧ TBC c s0 (RS.setI (RS.setI u 43 (s0.i 43)) 52 (s0.i 52)) ∧ CKX S0 R ∧ (s0.i 11).toInt + 1 ≤ (u.i 11).toInt ∧ phI s0 + 3 ≤ phI u ∧ (s0.i 17).toInt + 1 ≤ (u.i 17).toInt ∧ (u.i 19).toInt = (s0.i 19).toInt - 1
/-! the code of a choice's end -/
theorem add_eq {N : Nat} {S : CS} {o x : Int32} {R : Unit × CS} (e : f_X0_add N S o x = some R) : (∀ k : Nat, k ≠ 20 → R.2.i k = S.i k) ∧ ∀ k : Nat, k ≠ 15 → k ≠ 16 → R.2.a k = S.a k := by
  unfold f_X0_add at e
  cases e
  exact ⟨fun k h => ci_ne _ _ _ h, fun k h1 h2 => (if_neg h2).trans (if_neg h1)⟩
/-- m cases from x3 on, the value goes, then x2 -/
def ADL (S : CS) (x3 : Int) (m : Nat) (x2 f : Int32) (R : CS) : Prop := (R.i 20).toInt = (S.i 20).toInt + 2 * m + 2 ∧ (∀ j : Nat, (j : Int) < (S.i 20).toInt → R.a 15 j = S.a 15 j ∧ R.a 16 j = S.a 16 j) ∧ (∀ i : Nat, i < m → ∀ j : Nat, (j : Int) = (S.i 20).toInt + 2 * i → R.a 15 j = 0 ∧ R.a 16 j = S.a 18 (x3 + i).toNat ∧ R.a 15 (j + 1) = 34 ∧ R.a 16 (j + 1) = S.a 19 (x3 + i).toNat) ∧ (∀ j : Nat, (j : Int) = (S.i 20).toInt + 2 * m → R.a 15 j = 6 ∧ R.a 15 (j + 1) = 30 ∧ R.a 16 (j + 1) = x2) ∧ ((∀ k : Nat, k ≠ 20 → k ≠ 22 → R.i k = S.i k) ∧ (∀ k : Nat, k ≠ 15 → k ≠ 16 → R.a k = S.a k) ∧ R.i 22 = f)
theorem adc_cd {N : Nat} {f x2 : Int32} : ∀ (n : Nat) (S : CS) (x3 : Int32) (R : Unit × CS), f_X0_addCases_2 N n S f x2 x3 = some R → 0 ≤ x3.toInt → x3.toInt ≤ (S.i 22).toInt → (S.i 22).toInt ≤ 320 → 0 ≤ (S.i 20).toInt → (S.i 20).toInt + 2 * ((S.i 22).toInt - x3.toInt) + 2 ≤ 1200 → ADL S x3.toInt ((S.i 22).toInt - x3.toInt).toNat x2 f R.2 := by
  intro n
  induction n with
  | zero =>
    intro S x3 R e
    cases e
  | succ n ih =>
    intro S x3 R e h0 h1 h2 h3 h4
    have e' : b_X0_addCases_2 N (f_X0_addCases_2 N n) S f x2 x3 = some R := e
    unfold b_X0_addCases_2 at e'
    by_cases c : S.i 22 ≤ x3
    · rw [if_pos c] at e'
      have c' := le_int c
      obtain ⟨p, ep, e'⟩ := hf_bind e'
      obtain ⟨q, eq, e'⟩ := hf_bind e'
      cases e'
      have s20 : (CS.setI S 22 f).i 20 = S.i 20 := ci_ne _ _ _ (by decide)
      obtain ⟨p1, p2, ⟨p3, p4⟩, -⟩ := cd_add ep (by rw [s20]; exact h3) (by rw [s20]; omega)
      obtain ⟨pi, pa⟩ := add_eq ep
      rw [s20] at p2
      obtain ⟨q1, q2, ⟨q3, q4⟩, -⟩ := cd_add eq (by omega) (by omega)
      obtain ⟨qi, qa⟩ := add_eq eq
      have m0 : ((S.i 22).toInt - x3.toInt).toNat = 0 := by omega
      rw [m0]
      have pc : ((pcC (CS.setI S 22 f) : Nat) : Int) = (S.i 20).toInt := by
        unfold pcC
        rw [s20]
        exact Int.toNat_of_nonneg h3
      have pc2 : ((pcC p.2 : Nat) : Int) = (S.i 20).toInt + 1 := by
        unfold pcC
        rw [p2]
        exact Int.toNat_of_nonneg (by omega)
      refine ⟨?_, fun j hj => ?_, fun i hi => by omega, fun j hj => ?_, fun k k1 k2 => ?_, fun k k1 k2 => (qa k k1 k2).trans (pa k k1 k2), ?_⟩
      · show (q.2.i 20).toInt = _
        rw [q2, p2]
        omega
      · have x := q1.2.1 j (by omega)
        have y := p1.2.1 j (by rw [s20]; exact hj)
        exact ⟨x.1.trans y.1, x.2.trans y.2⟩
      · have j1 : j = pcC (CS.setI S 22 f) := by omega
        have j2 : j + 1 = pcC p.2 := by omega
        refine ⟨?_, ?_, ?_⟩
        · show q.2.a 15 j = 6
          rw [(q1.2.1 j (by omega)).1, j1]
          exact p3
        · show q.2.a 15 (j + 1) = 30
          rw [j2]
          exact q3
        · show q.2.a 16 (j + 1) = x2
          rw [j2]
          exact q4
      · exact (qi k k1).trans ((pi k k1).trans (ci_ne _ _ _ k2))
      · exact (qi 22 (by decide)).trans ((pi 22 (by decide)).trans (ci_at _ _ _))
    · rw [if_neg c] at e'
      have c' := lt_int (Int32.not_le.mp c)
      obtain ⟨p, ep, e'⟩ := hf_bind e'
      obtain ⟨q, eq, e'⟩ := hf_bind e'
      obtain ⟨p1, p2, ⟨p3, p4⟩, -⟩ := cd_add ep h3 (by omega)
      obtain ⟨pi, pa⟩ := add_eq ep
      obtain ⟨q1, q2, ⟨q3, q4⟩, -⟩ := cd_add eq (by omega) (by omega)
      obtain ⟨qi, qa⟩ := add_eq eq
      have x31 : (x3 + 1).toInt = x3.toInt + 1 := ad1 h0 (by omega)
      have q22 : q.2.i 22 = S.i 22 := (qi 22 (by decide)).trans (pi 22 (by decide))
      obtain ⟨r1, r2, r3, r4, ri, ra, r22⟩ := ih q.2 (x3 + 1) R e' (by omega) (by rw [q22]; omega) (by rw [q22]; exact h2) (by omega) (by rw [q22]; omega)
      obtain ⟨m, hm⟩ : ∃ m, m = ((q.2.i 22).toInt - (x3 + 1).toInt).toNat := ⟨_, rfl⟩
      rw [← hm] at r1 r3 r4
      rw [q22, x31] at hm
      have em : ((S.i 22).toInt - x3.toInt).toNat = m + 1 := by omega
      rw [em]
      have pc : ((pcC S : Nat) : Int) = (S.i 20).toInt := Int.toNat_of_nonneg h3
      have pc2 : ((pcC p.2 : Nat) : Int) = (S.i 20).toInt + 1 := by
        unfold pcC
        rw [p2]
        exact Int.toNat_of_nonneg (by omega)
      have ck := clampI h0
      have i9 : ib x3 320 := ⟨h0, by omega⟩
      have g18 : gAt (S.a 18) 320 x3 = S.a 18 x3.toNatClampNeg := by
        unfold gAt
        exact if_pos i9
      have g19 : gAt (p.2.a 19) 320 x3 = S.a 19 x3.toNatClampNeg := by
        unfold gAt
        rw [pa 19 (by decide) (by decide)]
        exact if_pos i9
      have q18 : q.2.a 18 = S.a 18 := (qa 18 (by decide) (by decide)).trans (pa 18 (by decide) (by decide))
      have q19 : q.2.a 19 = S.a 19 := (qa 19 (by decide) (by decide)).trans (pa 19 (by decide) (by decide))
      refine ⟨?_, fun j hj => ?_, fun i hi j hj => ?_, fun j hj => ?_, fun k k1 k2 => (ri k k1 k2).trans ((qi k k1).trans (pi k k1)), fun k k1 k2 => (ra k k1 k2).trans ((qa k k1 k2).trans (pa k k1 k2)), r22⟩
      · rw [r1, q2, p2]
        omega
      · have x := r2 j (by omega)
        have y := q1.2.1 j (by omega)
        have z := p1.2.1 j hj
        exact ⟨x.1.trans (y.1.trans z.1), x.2.trans (y.2.trans z.2)⟩
      · cases i with
        | zero =>
          have j1 : j = pcC S := by omega
          have j2 : j + 1 = pcC p.2 := by omega
          have x := r2 j (by omega)
          have y := q1.2.1 j (by omega)
          have x' := r2 (j + 1) (by omega)
          have en : (x3.toInt + ((0 : Nat) : Int)).toNat = x3.toNatClampNeg := by omega
          rw [en]
          refine ⟨?_, ?_, ?_, ?_⟩
          · rw [x.1, y.1, j1]
            exact p3
          · rw [x.2, y.2, j1, p4, g18]
          · rw [x'.1, j2]
            exact q3
          · rw [x'.2, j2, q4, g19]
        | succ i =>
          have z := r3 i (by omega) j (by omega)
          have en : (x3.toInt + ((i + 1 : Nat) : Int)).toNat = ((x3 + 1).toInt + (i : Int)).toNat := by omega
          rw [en, ← q18, ← q19]
          exact z
      · exact r4 j (by omega)
theorem chn.chl {u U : RS} : ∀ (L : List Nat) (k : Int32), chn u k L → (∀ j ∈ L, U.a 27 j = u.a 27 j) → CHL U L k
  | [], _, h, _ => h
  | j :: L, k, h, e => ⟨h.1, by rw [e j List.mem_cons_self]; exact chn.chl L _ h.2.2.2 (fun i hi => e i (List.mem_cons_of_mem _ hi))⟩
theorem gs_arms {FC : Nat → Prop} {s0 : CS} {r0 : RS} {nm : Nat → Nat → Prop} {X : Als} {p q h w g d n : Nat} {L : List Nat} {c : List Ent} (pq : PQX s0 r0 p q) (k : HC0 nm h c) (e1 : s0.a 15 p = 30) (hd : (cTg s0 (s0.a 16 p)).toInt = (d : Int)) (dsp : DSP s0 d n) (hh : h + 2 ≤ 600) (ch : CHL r0 L (r0.a 22 q)) (hw : 2 * n + 3 ≤ w) (e2 : r0.a 21 q = 29) (cho : CHO s0 r0 (GU FC s0 r0 nm X) q h w d n L ((5, h, q, 0, 0, 0, 0) :: c)) : GU FC s0 r0 nm X p q (h + 1) w g c := gi_UCho (pq.hc (k.up (Nat.le_succ _))) pq.2.1 ⟨e1, d, n, h, L, hd, dsp, ⟨rfl, hh⟩, ch, hw, Or.inr ⟨e2, cho⟩⟩
/-- the code of a choice from its first arm on -/
def CHC (x1 x2 : Int32) (q0 : Nat) (U : RS) (Sb : CS) (sb : RS) (R : CS) (u : RS) : Prop := CRB Sb → (0 ≤ x1.toInt ∧ x1.toInt < (Sb.i 21).toInt) → (0 ≤ x2.toInt ∧ x2.toInt < (Sb.i 21).toInt) → ¬ x1.toInt = x2.toInt → CD1 1 0 Sb R ∧ (∀ k : Nat, (k : Int) < (Sb.i 21).toInt → ¬ (k : Int) = x1.toInt → ¬ (k : Int) = x2.toInt → R.a 17 k = Sb.a 17 k) ∧ (0 ≤ (cTg R x1).toInt ∧ cTg R x2 = R.i 20) ∧ CD2 (q0 : Int) sb (RS.setI u 52 (sb.i 52)) ∧ (u.a 23 q0 = u.i 20 ∧ u.i 52 = sb.i 52 - 1) ∧ ∃ Ψ : GPS, SAT Ψ Sb sb R u ∧ ∀ (FC : Nat → Prop) (SF : CS) (nm : Nat → Nat → Prop) (X : Als) (c : List Ent) (h w W g0 p0 : Nat), Ψ FC nm → FGC Sb R SF → cTg SF x1 = cTg R x1 → cTg SF x2 = cTg R x2 → FGR sb u U → (U.a 21 q0 = 29 ∧ U.a 22 q0 = u.a 22 q0 ∧ U.a 23 q0 = u.a 23 q0) → NMG nm ((5, h, q0, 0, 0, 0, 0) :: c) Sb sb → HC0 nm h c → ((2 * h + msr c : Nat) : Int) + 2 ≤ (sb.i 11).toInt → TYC SF U (GU FC SF U nm X) W c → W + 1 ≤ w → pcC Sb = p0 + 1 → SF.a 15 p0 = 30 → SF.a 16 p0 = x1 → GU FC SF U nm X (pcC R) (pcR u) (h + 1) w 0 c → GU FC SF U nm X p0 q0 (h + 1) (w + (pcC R - p0)) g0 c
theorem aim_eq {N : Nat} {S : CS} {x : Int32} {R : Unit × CS} (e : f_X0_aim N S x = some R) : (∀ k : Nat, R.2.i k = S.i k) ∧ ∀ k : Nat, k ≠ 17 → R.2.a k = S.a k := by
  unfold f_X0_aim at e
  cases e
  exact ⟨fun k => rfl, fun k h => if_neg h⟩
set_option maxHeartbeats 4000000 in
theorem chc_of {N : Nat} {d : Int32} {t : Nat} {f x1 x2 x4 : Int32} {c0 : Int} {q0 : Nat} {L : List Nat} {Sb S : CS} {sb s U u : RS} {p35 p39 p43 p47 : Unit × CS} {q : Int32 × RS} (hA : AMI d t f x4 c0 L Sb sb S s) (hW : AMW 0 (fun _ _ => False) x2 q0 t U Sb sb f x4 L S s) (o3 : ENV d p35.2 q.2) (o5 : pj p35.2 = pj S) (o7 : (s.i 11).toInt + 1 ≤ (q.2.i 11).toInt) (o18 : A18 S p35.2) (e35 : f_X1_close N S 125 = some p35) (e39 : f_X0_aim N p35.2 x1 = some p39) (e43 : f_X0_addCases N p39.2 f x4 = some p43) (e47 : f_X0_aim N p43.2 x2 = some p47) (hq : f_X12_shut N s 125 = some q) (ui : ∀ k : Nat, k ≠ 43 → k ≠ 52 → k ≠ 63 → u.i k = q.2.i k) (ua : ∀ k : Nat, k ≠ 23 → u.a k = q.2.a k) (u23 : u.a 23 = upd (q.2.a 23) (q.2.a 66 t).toNatClampNeg (q.2.i 20)) (u52 : u.i 52 = q.2.i 52 - 1) (e66 : q.2.a 66 t = s.a 66 t) : CHC x1 x2 q0 U Sb sb p47.2 u := by
  intro cr y1 y2 ny
  have crS := hW.crb cr
  obtain ⟨⟨h01, h02⟩, h9, h1, h2⟩ := id hW
  obtain ⟨c1, c2, c3, Ψ, sat, h2⟩ := h2 cr
  have kpe := ke_X1_close N S 125 p35 e35
  have kqe := kre_f_X12_shut N s 125 q hq
  have hv := hA.1
  obtain ⟨a1, a2, a3, a4, a5, a6⟩ := tok_cd hv o3 o5 kpe kqe o7
  obtain ⟨p20, p15, p16, p17, p23, p38, p22, p19⟩ := pe_eq kpe
  obtain ⟨⟨q20, q24, q29, q33, q42, q52⟩, qa21, qa22, qa23, qa25, qa26, qa27, qa28, qa30, qa31, qa32, qa34, qa35, qa36, qa37⟩ := qe_eq kqe
  obtain ⟨-, ht, h64, hck, htb, hfr, ⟨s1, s2, s3, s4⟩, ⟨b1, b2, b3, b4⟩, ⟨r1, r2⟩, v1, v2, ⟨v3, v4, v5, v6, v7⟩⟩ := hA
  have s44 : (S.i 44).toInt = (s.i 11).toInt := by rw [hv.p44.1]
  have q44 := hv.p44
  have n4 := hv.2.2.2.2.2.2.2.2.2.1
  have n5 := hv.2.2.2.2.2.2.2.2.2.2.1
  have cr21 := crS.2
  have cS1 := c1.1
  have crb1 := cr.1
  have p21 := pj_21 o5
  -- the class
  obtain ⟨x1a, x1b, x1c, -⟩ := cd_aim e39 y1.1 (by have := c1.2.2.1; omega)
  obtain ⟨i39, a39⟩ := aim_eq e39
  obtain ⟨d1, d2, d3, d4, di, da, d22⟩ := adc_cd N p39.2 f p43 (show f_X0_addCases_2 N N p39.2 f x4 f = some p43 from e43) s1.1 (by rw [i39, p22]; exact s1.2.1) (by rw [i39, p22]; omega) (by rw [i39, p20]; exact crS.1.1) (by rw [i39, i39, p20, p22]; omega)
  obtain ⟨x2a, x2b, x2c, -⟩ := cd_aim e47 y2.1 (by have := c1.2.2.1; omega)
  obtain ⟨i47, a47⟩ := aim_eq e47
  obtain ⟨n, hn⟩ : ∃ n, n = ((p39.2.i 22).toInt - f.toInt).toNat := ⟨_, rfl⟩
  rw [← hn] at d1 d3 d4
  rw [i39, p22] at hn
  have hn' : (n : Int) = (S.i 22).toInt - f.toInt := by
    rw [hn]
    exact Int.toNat_of_nonneg (by have := h9.2; omega)
  rw [i39, p20] at d1 d2 d3 d4
  have Ri : ∀ k : Nat, k ≠ 20 → k ≠ 22 → p47.2.i k = p35.2.i k := fun k k1 k2 => (i47 k).trans ((di k k1 k2).trans (i39 k))
  have Ra : ∀ k : Nat, k ≠ 15 → k ≠ 16 → k ≠ 17 → p47.2.a k = p35.2.a k := fun k k1 k2 k3 => (a47 k k3).trans ((da k k1 k2).trans (a39 k k3))
  have R20 : (p47.2.i 20).toInt = (S.i 20).toInt + 2 * n + 2 := by rw [i47]; exact d1
  have R15 : p47.2.a 15 = p43.2.a 15 := a47 15 (by decide)
  have R16 : p47.2.a 16 = p43.2.a 16 := a47 16 (by decide)
  have Rc : ∀ j : Nat, (j : Int) < (S.i 20).toInt → p47.2.a 15 j = S.a 15 j ∧ p47.2.a 16 j = S.a 16 j := fun j hj => by
    rw [R15, R16, (d2 j hj).1, (d2 j hj).2, a39 15 (by decide), a39 16 (by decide), p15, p16]
    exact ⟨rfl, rfl⟩
  have R17 : ∀ k : Nat, ¬ (k : Int) = x1.toInt → ¬ (k : Int) = x2.toInt → p47.2.a 17 k = S.a 17 k := fun k k1 k2 => by
    rw [x2b k k2, da 17 (by decide) (by decide), x1b k k1, p17]
  have ck1 := clampI y1.1
  have i91 : ib x1 1024 := ⟨y1.1, by have := c1.2.2.1; omega⟩
  have Rx1 : cTg p47.2 x1 = S.i 20 := by
    have z := x1c
    unfold cTg gAt at z ⊢
    rw [if_pos i91] at z ⊢
    rw [x2b _ (by omega), da 17 (by decide) (by decide), z, p20]
  have Rx2 : cTg p47.2 x2 = p47.2.i 20 := by rw [x2c, i47]
  have pb : ((pcC Sb : Nat) : Int) = (Sb.i 20).toInt := Int.toNat_of_nonneg cr.1.1
  have pS : ((pcC S : Nat) : Int) = (S.i 20).toInt := Int.toNat_of_nonneg crS.1.1
  have pR : ((pcC p47.2 : Nat) : Int) = (p47.2.i 20).toInt := Int.toNat_of_nonneg (by omega)
  have p20s := hv.p20
  have ckq : (s.a 66 t).toNatClampNeg = q0 := by
    have := clampI (k := s.a 66 t) (by omega)
    omega
  have ckq2 : (q.2.a 66 t).toNatClampNeg = q0 := by rw [e66]; exact ckq
  rw [ckq2] at u23
  have c320 := c3.1.1
  have u20 : u.i 20 = s.i 20 := (ui 20 (by decide) (by decide) (by decide)).trans q20
  have u24 : u.i 24 = s.i 24 := (ui 24 (by decide) (by decide) (by decide)).trans q24
  have u29 : u.i 29 = s.i 29 := (ui 29 (by decide) (by decide) (by decide)).trans q29
  have u33 : u.i 33 = s.i 33 := (ui 33 (by decide) (by decide) (by decide)).trans q33
  have u42 : u.i 42 = s.i 42 := (ui 42 (by decide) (by decide) (by decide)).trans q42
  have u21 : u.a 21 = s.a 21 := (ua 21 (by decide)).trans qa21
  have u22 : u.a 22 = s.a 22 := (ua 22 (by decide)).trans qa22
  have w23 : ∀ j : Nat, ¬ j = q0 → u.a 23 j = s.a 23 j := fun j hj => by
    rw [u23]
    exact (if_neg hj).trans (by rw [qa23])
  have w25 : u.a 25 = s.a 25 := (ua 25 (by decide)).trans qa25
  have w26 : u.a 26 = s.a 26 := (ua 26 (by decide)).trans qa26
  have w27 : u.a 27 = s.a 27 := (ua 27 (by decide)).trans qa27
  have w28 : u.a 28 = s.a 28 := (ua 28 (by decide)).trans qa28
  have w30 : u.a 30 = s.a 30 := (ua 30 (by decide)).trans qa30
  have w31 : u.a 31 = s.a 31 := (ua 31 (by decide)).trans qa31
  have w32 : u.a 32 = s.a 32 := (ua 32 (by decide)).trans qa32
  have w34 : u.a 34 = s.a 34 := (ua 34 (by decide)).trans qa34
  have w35 : u.a 35 = s.a 35 := (ua 35 (by decide)).trans qa35
  have w36 : u.a 36 = s.a 36 := (ua 36 (by decide)).trans qa36
  have w37 : u.a 37 = s.a 37 := (ua 37 (by decide)).trans qa37
  have u23q : u.a 23 q0 = u.i 20 := by
    rw [u23, ui 20 (by decide) (by decide) (by decide)]
    exact if_pos rfl
  obtain ⟨⟨g1, g2, g3⟩, g4, g5, g6, g7, ⟨g8, g9⟩, g10, g11, g12⟩ := c1.tr a1
  refine ⟨⟨⟨by omega, ?_, ?_⟩, fun j hj => ?_, ?_, ?_, fun k hk => ?_, ⟨?_, ?_⟩, ?_, ?_, fun k hk => ?_⟩, fun k k1 k2 k3 => (R17 k k2 k3).trans (c2 k (by omega) k1), ⟨by rw [Rx1]; exact crS.1.1, Rx2⟩, ?_, ⟨u23q, ?_⟩, Ψ, sat.wd (MNO.of (CD1.rf Sb) (CD2.rf 0 sb)) ⟨?_, SLC.eq u42 (by rw [u20]; exact Int.le_refl _), by rw [u29]; exact Int.le_refl _⟩, ?_⟩
  · rw [R20, Ri 44 (by decide) (by decide)]
    rw [p20] at g2
    omega
  · rw [Ri 21 (by decide) (by decide), Ri 44 (by decide) (by decide)]
    omega
  · have y := Rc j (by omega)
    have z := c1.2.1 j hj
    exact ⟨y.1.trans z.1, y.2.trans z.2⟩
  · rw [Ri 21 (by decide) (by decide)]
    exact g5
  · rw [Ri 50 (by decide) (by decide)]
    exact g6
  · rw [Ra 48 (by decide) (by decide) (by decide), Ra 49 (by decide) (by decide) (by decide)]
    exact g7 k hk
  · rw [Ri 23 (by decide) (by decide)]
    exact g8
  · rw [Ri 23 (by decide) (by decide), Ri 44 (by decide) (by decide)]
    omega
  · rw [Ri 38 (by decide) (by decide)]
    exact g10
  · rw [i47, d22, v1]
    exact Int.le_refl _
  · rw [Ra 19 (by decide) (by decide) (by decide)]
    exact g12 k hk
  · obtain ⟨⟨z1, z2, z3, z4, z5, z6⟩, z7, z8, z9, z10⟩ := c3
    refine ⟨⟨?_, ?_, ?_, ?_, ?_, rfl⟩, fun j hj => ?_, fun j hj => ?_, fun j hj => ?_, fun j hj => ?_⟩
    · show (sb.i 20).toInt ≤ (u.i 20).toInt
      rw [u20]
      exact z1
    · show (sb.i 24).toInt ≤ (u.i 24).toInt
      rw [u24]
      exact z2
    · show (sb.i 29).toInt ≤ (u.i 29).toInt
      rw [u29]
      exact z3
    · show (sb.i 33).toInt ≤ (u.i 33).toInt
      rw [u33]
      exact z4
    · exact (show SLC sb u from SLC.tr z5 (SLC.eq u42 (by rw [u20]; exact Int.le_refl _)))
    · show u.a 21 j = sb.a 21 j ∧ u.a 22 j = sb.a 22 j ∧ u.a 23 j = sb.a 23 j
      rw [u21, u22, w23 j (by omega)]
      exact z7 j hj
    · show u.a 25 j = sb.a 25 j ∧ u.a 26 j = sb.a 26 j ∧ u.a 27 j = sb.a 27 j ∧ u.a 28 j = sb.a 28 j
      rw [w25, w26, w27, w28]
      exact z8 j hj
    · show u.a 30 j = sb.a 30 j ∧ u.a 31 j = sb.a 31 j ∧ u.a 32 j = sb.a 32 j
      rw [w30, w31, w32]
      exact z9 j hj
    · show u.a 34 j = sb.a 34 j ∧ u.a 35 j = sb.a 35 j ∧ u.a 36 j = sb.a 36 j ∧ u.a 37 j = sb.a 37 j
      rw [w34, w35, w36, w37]
      exact z10 j hj
  · rw [u52, q52, c3.1.2.2.2.2.2]
  · rw [Ri 23 (by decide) (by decide), p23]
    exact Int.le_refl _
  intro FC SF nm X c h w W g0 p0 ps fc fx1 fx2 fr f3 ng hc hh ty hW' e0 e15 e16 z
  have R21 : p47.2.i 21 = S.i 21 := (Ri 21 (by decide) (by decide)).trans p21
  have fcS : FGC Sb S SF := by
    obtain ⟨⟨f1, f2⟩, f4, f5⟩ := fc
    refine ⟨⟨f1, by omega⟩, fun j j1 j2 => ?_, fun k k1 k2 k3 => ?_⟩
    · have y := f4 j j1 (by omega)
      have y' := Rc j j2
      exact ⟨y.1.trans y'.1, y.2.trans y'.2⟩
    · have y' := R17 k (by omega) (by omega)
      exact (f5 k k1 (by rw [R21]; exact k2) (k3.elim (fun q => Or.inl (by rw [y']; exact q)) (fun q => Or.inr (by rw [R21]; exact q)))).trans y'
  have frS : FGX L sb s U := (fr.x L).pre (by rw [u20]; exact Int.le_refl _) (fun j j1 j2 => ⟨by rw [u21], by rw [u22], w23 j (by omega)⟩) (by rw [u24]; exact Int.le_refl _) (fun j j1 j2 => ⟨by rw [w25], by rw [w26], fun y => ⟨by rw [w27], y⟩, by rw [w28]⟩) (by rw [u29]; exact Int.le_refl _) (fun j _ => ⟨by rw [w30], by rw [w31], by rw [w32]⟩) (by rw [u33]; exact Int.le_refl _) (fun j _ => ⟨by rw [w34], by rw [w35], by rw [w36], by rw [w37]⟩)
  have exg : EXG FC SF U nm X x2 q0 h w c := by
    refine ⟨pcC p47.2, pcR u, ?_, ?_, z, y2.1, by have := c1.2.2.1; have := cr21.2.1; have := q44.2; omega⟩
    · rw [fx2, Rx2]
      exact pR.symm
    · rw [f3.2.2, u23q]
      exact (Int.toNat_of_nonneg (by rw [u20]; exact p20s.1)).symm
  have am := h2 FC SF nm X c h w W w ps fcS frS ng hc hh ty hW' (Nat.le_refl _) exg
  have jl := chn.lt L _ s2
  have sb44 := hv.p44
  have frU := fr.1
  have eL : ∀ k ∈ L, U.a 25 k = s.a 25 k ∧ U.a 26 k = s.a 26 k ∧ U.a 27 k = s.a 27 k ∧ U.a 28 k = s.a 28 k := fun k hk => by
    have y := fr.2.2.1 k (s4 k hk) (by rw [u24]; exact jl k hk)
    rw [w25, w26, w27, w28] at y
    exact y
  have dsp : DSP SF (pcC S) n := by
    refine ⟨by omega, fun i hi => ?_, ?_, ?_⟩
    · have y := d3 i hi (pcC S + 2 * i) (by omega)
      have f1 := fc.2.1 (pcC S + 2 * i) (by omega) (by omega)
      have f2 := fc.2.1 (pcC S + 2 * i + 1) (by omega) (by omega)
      rw [f1.1, f2.1, R15]
      exact ⟨y.1, y.2.2.1⟩
    · have y := d4 (pcC S + 2 * n) (by omega)
      rw [(fc.2.1 (pcC S + 2 * n) (by omega) (by omega)).1, R15]
      exact y.1
    · have y := d4 (pcC S + 2 * n) (by omega)
      rw [(fc.2.1 (pcC S + 2 * n + 1) (by omega) (by omega)).1, R15]
      exact y.2.1
  have g18 : p39.2.a 18 = S.a 18 := (a39 18 (by decide)).trans o18.1
  have g19 : p39.2.a 19 = S.a 19 := (a39 19 (by decide)).trans p19
  have vl : ∀ i : Nat, i < n → SF.a 16 (pcC S + 2 * i) = S.a 18 (f.toInt + i).toNat ∧ SF.a 16 (pcC S + 2 * i + 1) = S.a 19 (f.toInt + i).toNat := fun i hi => by
    have y := d3 i hi (pcC S + 2 * i) (by omega)
    rw [(fc.2.1 (pcC S + 2 * i) (by omega) (by omega)).2, (fc.2.1 (pcC S + 2 * i + 1) (by omega) (by omega)).2, R16, y.2.1, y.2.2.2, g18, g19]
    exact ⟨rfl, rfl⟩
  have f0 := s1.1
  have u20i : (u.i 20).toInt = (s.i 20).toInt := by rw [u20]
  refine gs_arms (d := pcC S) (n := n) (L := L) ⟨by omega, by omega, frU.2.2⟩ hc e15 ?_ dsp (by omega) ?_ (by omega) f3.1 ⟨fun i hi => ?_, fun k hk k0 => ?_, fun k hk k0 i hi hv' => ?_, fun k hk k0 => ?_⟩
  · rw [e16, fx1, Rx1]
    exact pS.symm
  · rw [f3.2.1, u22]
    rw [ckq] at s2
    exact chn.chl L _ s2 (fun j hj => (eL j hj).2.2.1)
  · obtain ⟨j, j1, j2, j3⟩ := (s1.2.2 (S.a 18 (f.toInt + i).toNat)).mp ⟨(f.toInt + i).toNat, by omega, by omega, rfl⟩
    exact ⟨j, j1, by rw [(eL j j1).2.2.2]; exact j2, by rw [(eL j j1).1, (vl i hi).1]; exact j3⟩
  · rw [(eL k hk).2.2.2] at k0
    obtain ⟨i, i1, i2, i3⟩ := (s1.2.2 (s.a 25 k)).mpr ⟨k, hk, k0, rfl⟩
    refine ⟨((i : Int) - f.toInt).toNat, by omega, ?_⟩
    rw [(vl _ (by omega)).1, (eL k hk).1, ← i3]
    have : (f.toInt + ((((i : Int) - f.toInt).toNat : Nat) : Int)).toNat = i := by omega
    rw [this]
  · rw [(eL k hk).2.2.2] at k0
    rw [(vl i hi).1, (eL k hk).1] at hv'
    rcases am.1 k hk k0 (f.toInt + i).toNat (by omega) (by omega) hv' with ⟨p', q', w', z1, z2, z3⟩ | z
    · rw [(vl i hi).2, (eL k hk).2.1]
      exact ⟨p', q', w', z1, by omega, z3⟩
    · exact z.elim
  · rw [(eL k hk).2.2.2] at k0
    have y := d4 (pcC S + 2 * n) (by omega)
    have y16 : SF.a 16 (pcC S + 2 * n + 1) = x4 := by
      rw [(fc.2.1 (pcC S + 2 * n + 1) (by omega) (by omega)).2, R16]
      exact y.2.2
    rcases am.2 k hk k0 with ⟨p', q', w', z1, z2, z3⟩ | z
    · rw [y16, (eL k hk).2.1]
      exact ⟨p', q', w', z1, by omega, z3⟩
    · exact z.elim
set_option maxHeartbeats 4000000 in
theorem y_cend {N : Nat} (hN : 1000 ≤ N) {E1 : CS → Option (Unit × CS)} {E2 : CS → Option (Int32 × CS)} (hm1 : ∀ σ, Kf (CS.i σ 32) (E1 σ)) (hm2 : ∀ σ, Kf (CS.i σ 32) (E2 σ)) {d : Int32} {t n : Nat} {f x1 x2 x4 : Int32} {c : Int} {L : List Nat} {S0 S : CS} {s0 s U : RS} {R : Unit × CS} {q0 : Nat} (hA : AMI d t f x4 c L S0 s0 S s) (hW : AMW 0 (fun _ _ => False) x2 q0 t U S0 s0 f x4 L S s) (hG : GA0 S0 s0) (hs : s.a 65 t = 2) (n19 : ¬ S.i 43 = 219) (n20 : ¬ S.i 43 = 220) (e : f_X1_choice_113 N E1 E2 S x1 x2 f x4 = some R) (g : f_X12_parse_10 N n s = some U) : (¬ R.2.i 32 = 0 ∧ ¬ U.i 15 = 0) ∨ ∃ (m : Nat) (u : RS), f_X12_parse_10 N m u = some U ∧ CHE d t c S0 s0 R.2 u ∧ CHC x1 x2 q0 U S0 s0 R.2 u := by
  have hA0 := hA
  have hsg := hA.sgr hG
  obtain ⟨hv, ht, h64, hck, htb, hfr, ⟨c1, c2, c3, c4⟩, ⟨p1, p2, p3, p4⟩, ⟨r1, r2⟩, v1, v2, ⟨v3, v4, v5, v6, v7⟩⟩ := hA
  have h15 := hv.1.2.1
  obtain ⟨m, V, hV, g2⟩ := rl_19 g ht h15 h64
  have i219 := tk_is hv (a := 219) (b := 429) (Or.inr ⟨by decide, by decide⟩) (by decide)
  have i220 := tk_is hv (a := 220) (b := 430) (Or.inr ⟨by decide, by decide⟩) (by decide)
  have i125 := tk_is hv (a := 125) (b := 125) (Or.inl ⟨by decide, by decide⟩) (by decide)
  unfold f_X12_arms at hV
  obtain ⟨hib, hV⟩ := hf_ite hV
  rw [tp_nat ht, if_neg (show ¬ s.a 65 t = 0 by rw [hs]; decide), if_neg (show ¬ s.a 65 t = 1 by rw [hs]; decide), if_pos hs, if_neg (fun z => n19 (i219.mpr z)), if_neg (fun z => n20 (i220.mpr z))] at hV
  have t9 : t < 1000 := by
    have h2 : (s.i 63).toInt = (t : Int) := ht
    have := hib.2
    omega
  have mis : ∀ p : Unit × CS, f_X1_misplaced N S = some p → f_X1_choice_122 N E1 E2 p.2 x1 x2 f x4 = some R → ¬ R.2.i 32 = 0 := fun p ep e => by
    have := y_misp ep
    rw [kF_X1_choice_122 N E1 E2 hm1 hm2 p.2 x1 x2 f x4 R e this]
    exact this
  unfold f_X1_choice_113 at e
  by_cases k : S.i 43 = 125
  · have kr := i125.mp k
    rw [if_pos kr] at hV
    by_cases c4' : (0 : Int32) ≤ x4
    · rw [if_pos c4'] at e
      have x0 : 0 ≤ x4.toInt := by
        have := le_int c4'
        rw [z_t0] at this
        exact this
      rw [if_pos (r2.mpr x0), y_can1 h15 (by rw [kr]; decide), ob_some, if_neg n10] at hV
      unfold f_X1_choice_122 at e
      unfold f_X12_arms_250 at hV
      rw [tp_nat ht] at hV
      obtain ⟨p35, e35, e⟩ := hf_bind e
      obtain ⟨p39, e39, e⟩ := hf_bind e
      obtain ⟨p43, e43, e⟩ := hf_bind e
      obtain ⟨p47, e47, e⟩ := hf_bind e
      cases e
      obtain ⟨q, hq, hV⟩ := hf_bind hV
      obtain ⟨-, hV⟩ := hf_ite hV
      obtain ⟨-, hV⟩ := hf_ite hV
      cases hV
      rcases y_close hN hv hsg (c := 125) (d := 125) (Or.inl ⟨by decide, by decide⟩) (by decide) (by decide) (by decide) e35 hq with ⟨o1, o2, o3⟩ | ⟨o1, o2, o3, o4, o5, o6, o7, o8, o9, o10, o11, o12⟩
      · refine Or.inl ⟨?_, u_flt g2 (show ¬ q.2.i 15 = 0 from o3)⟩
        have z1 : ¬ p39.2.i 32 = 0 := by rw [kF_X0_aim N p35.2 x1 p39 e39 o2]; exact o2
        have z2 : ¬ p43.2.i 32 = 0 := by rw [kF_X0_addCases N p39.2 f x4 p43 e43 z1]; exact z1
        show ¬ p47.2.i 32 = 0
        rw [kF_X0_aim N p43.2 x2 p47 e47 z2]
        exact z2
      · have k39 := kd_X0_aim N p35.2 x1 p39 e39
        have k43 : pj2 p43.2 = pj2 (CS.setI p39.2 22 f) := y_adc N p39.2 f p43 e43
        have k47 := (kd_X0_aim N p43.2 x2 p47 e47).trans k43
        have q39 := pj2_eq k39
        have q47 := pj2_eq k47
        have ck39 : CKN S0 p39.2 := (hck.exp (CKX.of o5 o10 o11)).exp (CKX.of q39.1 q39.2.2.2.2.1 q39.2.2.2.2.2.2.2.2.2.2.2)
        have ckr : CKX S0 p47.2 := by
          have z := ck39.1
          rw [← v1] at z
          exact z.tr (CKX.of q47.1 q47.2.2.2.2.1 q47.2.2.2.2.2.2.2.2.2.2.2)
        have f22 : f.toInt ≤ (p39.2.i 22).toInt := by
          rw [q39.2.2.2.2.1, o10]
          exact c1.2.1
        have env : ENV d p47.2 q.2 := ((o3.kd k39).s22 c1.1 f22).kd k47
        have tq : tpI q.2 = t := qj_63 o4 ht
        have t17 : (q.2.i 17).toInt = (s.i 17).toInt + 1 := by rw [o6]; exact t17_up (N := N) hv
        have pq : phI q.2 = phI s + 3 := by
          unfold phI
          rw [o8, t17]
          omega
        have tbq : TBC c s0 q.2 := ⟨htb.1.tr (TBZ.of o4), by rw [o8]; exact htb.2.1, fun j hj => by rw [o9]; exact htb.2.2 j hj⟩
        have frq : FRB t s0 q.2 := hfr.tr (FRB.of o4)
        obtain ⟨u, hu⟩ : ∃ y, y = RS.setI (RS.setA (RS.setI (RS.setI q.2 43 ((q.2.i 43) - 1)) 52 ((q.2.i 52) - 1)) 23 (((q.2.a 66 t) : Int32).toNatClampNeg) (q.2.i 20)) 63 ((q.2.i 63) - 1) := ⟨_, rfl⟩
        rw [← hu] at g2
        have ui : ∀ k : Nat, k ≠ 43 → k ≠ 52 → k ≠ 63 → u.i k = q.2.i k := by
          rw [hu]
          exact fun k h1 h2 h3 => (if_neg h3).trans ((if_neg h2).trans (if_neg h1))
        have ua : ∀ k : Nat, k ≠ 23 → u.a k = q.2.a k := by
          rw [hu]
          exact fun k h => if_neg h
        have ub : u.b = q.2.b ∧ u.l = q.2.l := by
          rw [hu]
          exact ⟨rfl, rfl⟩
        have u43 : u.i 43 = q.2.i 43 - 1 := by
          rw [hu]
          rfl
        have u52 : u.i 52 = q.2.i 52 - 1 := by
          rw [hu]
          rfl
        have u63 : u.i 63 = q.2.i 63 - 1 := by
          rw [hu]
          rfl
        have u23 : u.a 23 = upd (q.2.a 23) (q.2.a 66 t).toNatClampNeg (q.2.i 20) := by
          rw [hu]
          rfl
        clear hu
        have pu : phI u = phI q.2 := by
          unfold phI
          rw [ui 17 (by decide) (by decide) (by decide), ui 20 (by decide) (by decide) (by decide)]
        have q43 : q.2.i 43 = s0.i 43 := tbq.1.1.2.2.2.2.1
        have q56 : q.2.i 56 = s0.i 56 := tbq.1.1.2.2.2.2.2.2.1
        have w43 : (u.i 43).toInt = (s0.i 43).toInt - 1 := by
          have e1 : (1 : Int32).toInt = 1 := by decide
          have z := hG.2.2.2.1.1
          have z2 := Int32.toInt_lt (s0.i 43)
          rw [u43, q43, toInt_sub] <;> rw [e1] <;> omega
        have hwu : WPI u := by
          obtain ⟨⟨x1, x2, x3, x5⟩, x4⟩ := env.wp
          have z := hG.2.2.2.1.1
          have w56 : u.i 56 = s0.i 56 := (ui 56 (by decide) (by decide) (by decide)).trans q56
          refine ⟨⟨by omega, by rw [ui 56 (by decide) (by decide) (by decide)]; exact x2, fun y => ?_, by rw [ui 29 (by decide) (by decide) (by decide)]; exact x5⟩, fun j hj => ?_⟩
          · rw [w56] at y ⊢
            rw [ua 58 (by decide), (tbq.1.2.2.2.1 _ (by omega)).2, w43]
            exact hG.2.2.2.2.1 y
          · rw [ui 59 (by decide) (by decide) (by decide)] at hj
            rw [ua 62 (by decide), ui 29 (by decide) (by decide) (by decide)]
            exact x4 j hj
        have env2 : ENV d p47.2 u := env.kq (ui 38 (by decide) (by decide) (by decide)) (ui 2 (by decide) (by decide) (by decide)) (ui 3 (by decide) (by decide) (by decide)) (ui 18 (by decide) (by decide) (by decide)) (ui 53 (by decide) (by decide) (by decide)) (ui 54 (by decide) (by decide) (by decide)) (ui 55 (by decide) (by decide) (by decide)) (ua 1 (by decide)) (ua 4 (by decide)) (ua 41 (by decide)) (by rw [ub.1]) (by rw [ub.1]) (ui 10 (by decide) (by decide) (by decide)) (ui 11 (by decide) (by decide) (by decide)) (ui 12 (by decide) (by decide) (by decide)) (ui 14 (by decide) (by decide) (by decide)) (ui 15 (by decide) (by decide) (by decide)) (ui 17 (by decide) (by decide) (by decide)) (ui 19 (by decide) (by decide) (by decide)) ub.2 ⟨by rw [ui 20 (by decide) (by decide) (by decide)]; exact env.2.2.2.2.2.2.1, by rw [pu]; exact env.2.2.2.2.2.2.2.1⟩ hwu
        have q52 : q.2.i 2 = s0.i 2 := tbq.1.1.2.2.2.2.2.1
        have w11 : u.i 11 = q.2.i 11 := ui 11 (by decide) (by decide) (by decide)
        have w17 : u.i 17 = q.2.i 17 := ui 17 (by decide) (by decide) (by decide)
        have w19 : u.i 19 = q.2.i 19 := ui 19 (by decide) (by decide) (by decide)
        have e66q : q.2.a 66 t = s.a 66 t := ((FRB.of o4 : FRB (t + 1) s q.2) t (by omega)).2.2.1
        refine Or.inr ⟨m, u, g2, ⟨env2, ?_, ?_, ⟨by rw [u43, q43], (ui 2 (by decide) (by decide) (by decide)).trans q52⟩, ?_, ckr, by rw [w11]; omega, by omega, by rw [w17]; omega, by rw [w19, o12, v2]⟩, chc_of hA0 hW o3 o5 o7 o11 e35 e39 e43 e47 hq ui ua u23 u52 e66q⟩
        · show (u.i 63).toInt = (t : Int) - 1
          rw [u63]
          exact tp_sub tq t9
        · exact frq.tr (fun j _ => ⟨by rw [ua 64 (by decide)], by rw [ua 65 (by decide)], by rw [ua 66 (by decide)], by rw [ua 67 (by decide)], by rw [ua 68 (by decide)], by rw [ua 69 (by decide)], by rw [ua 70 (by decide)], by rw [ua 71 (by decide)], by rw [ua 72 (by decide)], by rw [ua 73 (by decide)], by rw [ub.1]⟩)
        · exact tbq.eq (fun k h1 h2 h3 => (if_neg h2).trans ((if_neg h1).trans (ui k h1 h2 h3))) (fun k h => ua k h) ub.1 (show s0.i 43 = q.2.i 43 from q43.symm)
    · rw [if_neg c4'] at e
      obtain ⟨p, ep, e⟩ := hf_bind e
      have x0 : ¬ 0 ≤ x4.toInt := fun z => c4' (by rw [Int32.le_iff_toInt_le, z_t0]; exact z)
      rw [if_neg (fun z => x0 (r2.mp z))] at hV
      obtain ⟨q, hq, hV⟩ := hf_bind hV
      obtain ⟨q1, q2⟩ := y_can0 hq
      rw [if_pos q1] at hV
      cases hV
      exact Or.inl ⟨mis p ep e, u_flt g2 q2⟩
  · rw [if_neg (fun z => k (i125.mpr z))] at hV
    obtain ⟨q, hq, hV⟩ := hf_bind hV
    obtain ⟨q1, q2⟩ := y_can0 hq
    rw [if_pos q1] at hV
    cases hV
    refine Or.inl ⟨?_, u_flt g2 q2⟩
    by_cases c4' : (0 : Int32) ≤ x4
    · rw [if_pos c4'] at e
      unfold f_X1_choice_122 at e
      obtain ⟨p35, e35, e⟩ := hf_bind e
      obtain ⟨p39, e39, e⟩ := hf_bind e
      obtain ⟨p43, e43, e⟩ := hf_bind e
      obtain ⟨p47, e47, e⟩ := hf_bind e
      cases e
      have o2 := close_no k e35
      have z1 : ¬ p39.2.i 32 = 0 := by rw [kF_X0_aim N p35.2 x1 p39 e39 o2]; exact o2
      have z2 : ¬ p43.2.i 32 = 0 := by rw [kF_X0_addCases N p39.2 f x4 p43 e43 z1]; exact z1
      show ¬ p47.2.i 32 = 0
      rw [kF_X0_aim N p43.2 x2 p47 e47 z2]
      exact z2
    · rw [if_neg c4'] at e
      obtain ⟨p, ep, e⟩ := hf_bind e
      exact mis p ep e
/-- the arms one by one, then the end -/
theorem y_cloop {N : Nat} (hN : 1000 ≤ N) {E1 : CS → Option (Unit × CS)} {E2 : CS → Option (Int32 × CS)} (hm1 : ∀ σ, Kf (CS.i σ 32) (E1 σ)) (hm2 : ∀ σ, Kf (CS.i σ 32) (E2 σ)) (hE : SXR N 18 E1) (hB : ABK N (f_X7_armBlock N E1 E2)) {d : Int32} {t : Nat} {f x1 x2 : Int32} {c : Int} {q0 : Nat} {S0 : CS} {s0 U : RS} (hG : GA0 S0 s0) : ∀ (n1 n : Nat) (L : List Nat) (S : CS) (s : RS) (x4 x5 : Int32) (R : Unit × CS), AMI d t f x4 c L S0 s0 S s → AMW 0 (fun _ _ => False) x2 q0 t U S0 s0 f x4 L S s → KD8 f S s → s.a 65 t = 2 → 0 ≤ x5.toInt → x5.toInt ≤ (s.i 11).toInt → f_X1_choice_69 N E1 E2 n1 S x1 x2 f x4 x5 = some R → f_X12_parse_10 N n s = some U → (¬ R.2.i 32 = 0 ∧ ¬ U.i 15 = 0) ∨ ∃ (m : Nat) (u : RS), f_X12_parse_10 N m u = some U ∧ CHE d t c S0 s0 R.2 u ∧ CHC x1 x2 q0 U S0 s0 R.2 u
  | 0, _, _, _, _, _, _, _, _, _, _, _, _, _, e, _ => by cases e
  | n1 + 1, n, L, S, s, x4, x5, R, hA, hW, hk, hs, x0, x9, e, g => by
    have e' : b_X1_choice_69 N E1 E2 (f_X1_choice_69 N E1 E2 n1) S x1 x2 f x4 x5 = some R := e
    unfold b_X1_choice_69 at e'
    have step : ∀ p : Int32 × CS, (S.i 43 = 219 ∨ S.i 43 = 220) → f_X1_arm N E1 E2 S f x4 x2 = some p → f_X1_choice_69 N E1 E2 n1 p.2 x1 x2 f p.1 (x5 + 1) = some R → (¬ R.2.i 32 = 0 ∧ ¬ U.i 15 = 0) ∨ ∃ (m : Nat) (u : RS), f_X12_parse_10 N m u = some U ∧ CHE d t c S0 s0 R.2 u ∧ CHC x1 x2 q0 U S0 s0 R.2 u := fun p hc ep e => by
      rcases y_arm hN hm1 hm2 hE hB hG hA hW hk hs hc ep g with ⟨z1, z2⟩ | ⟨m, u, g2, ⟨L2, w1, w1'⟩, w2, w3, w4, w5, w6⟩
      · refine Or.inl ⟨?_, z2⟩
        rw [kF_X1_choice_69 N E1 E2 hm1 hm2 n1 p.2 x1 x2 f p.1 (x5 + 1) R e z1]
        exact z1
      · have hi := i11_hi hA.1
        have xx : (x5 + 1).toInt = x5.toInt + 1 := ad1 x0 (by omega)
        have k8 : KD8 f p.2 u := by
          unfold KDB at w2
          unfold KD8
          omega
        exact y_cloop hN hm1 hm2 hE hB hG n1 m L2 p.2 u p.1 (x5 + 1) R w1 w1' k8 w3 (by omega) (by omega) e g2
    by_cases c9 : (900 : Int32) ≤ x5
    · rw [if_pos c9] at e'
      have z := no_900 hA.1 x9 c9
      exact y_cend hN hm1 hm2 hA hW hG hs (by rw [z]; decide) (by rw [z]; decide) e' g
    · rw [if_neg c9] at e'
      by_cases k1 : S.i 43 = 219
      · rw [e_fnd1 k1, ob_some, if_neg n10] at e'
        obtain ⟨p, ep, e'⟩ := hf_bind e'
        exact step p (Or.inl k1) ep e'
      · rw [e_fnd0 k1, ob_some, if_pos rfl] at e'
        by_cases k2 : S.i 43 = 220
        · rw [e_fnd1 k2, ob_some, if_neg n10] at e'
          obtain ⟨p, ep, e'⟩ := hf_bind e'
          exact step p (Or.inr k2) ep e'
        · rw [e_fnd0 k2, ob_some, if_pos rfl] at e'
          exact y_cend hN hm1 hm2 hA hW hG hs k1 k2 e' g
end
section
/-! both readers: a choice, whole -/
theorem em_at {N : Nat} {s : RS} {o x : Int32} {V : Int32 × RS} (h : f_X12_emit N s o x = some V) (h3 : (s.i 20).toInt < 3000) : V.2.a 22 (s.i 20).toNatClampNeg = x := by
  have e3 : (3000 : Int32).toInt = 3000 := by decide
  unfold f_X12_emit f_X12_emit_21 at h
  by_cases c : (3000 : Int32) ≤ s.i 20
  · have := le_int c
    omega
  · rw [if_neg c] at h
    obtain ⟨hib, h⟩ := hf_ite h
    cases h
    show upd (s.a 22) (s.i 20).toNatClampNeg x (s.i 20).toNatClampNeg = x
    exact if_pos rfl
theorem i20_hi {d : Int32} {S : CS} {s : RS} (hv : ENV d S s) (hp : 1 ≤ phI s) : (s.i 20).toInt < 3000 := by
  obtain ⟨h1, -, -, -, -, -, ⟨r1, r2, r3, r4, r5, -⟩⟩ := hv
  have b5 := h1.2.2.2.2.1
  have b3 := h1.2.2.1.2.1
  have b4 := h1.2.2.2.2.2.2.1.2.1
  have k11 := h1.2.2.2.1.1
  have k12 := h1.2.2.2.1.2.1
  rw [k11, k12] at b4
  unfold phI at hp
  omega
theorem g_goal {N : Nat} {u : RS} {w : Int32} {n : Int64} {V : Int32 × RS} (h : f_X12_goal N u w n = some V) : (0 ≤ (u.i 43).toInt ∧ (u.i 43).toInt < 460) ∧ V = (u.i 43, GO u w n) := by
  have h' := h
  unfold f_X12_goal at h'
  obtain ⟨i, -⟩ := hf_ite h'
  rw [p_go w n i.1 i.2] at h
  cases h
  exact ⟨⟨i.1, i.2⟩, rfl⟩
/-- the state between the sign that closes and the arms: x is s with the frame's marks and a goal more -/
def CHB (t : Nat) (v : Int32) (s x : RS) : Prop := (∀ k : Nat, k ≠ 43 → k ≠ 52 → x.i k = s.i k) ∧ (∀ k : Nat, k < 44 ∨ k = 45 ∨ (51 < k ∧ k < 66) ∨ 68 < k → x.a k = s.a k) ∧ (∀ k j : Nat, k < 52 → (j : Int) < (s.i 43).toInt → x.a k j = s.a k j) ∧ (∀ k : Nat, k ≠ 45 → x.b k = s.b k) ∧ (∀ j : Nat, (j : Int) < (s.i 43).toInt → x.b 45 j = s.b 45 j) ∧ x.l = s.l ∧ (x.a 66 t = v ∧ x.a 67 t = -1 ∧ x.a 68 t = 0) ∧ (∀ k j : Nat, 52 < k → ¬ j = t → x.a k j = s.a k j) ∧ (0 ≤ (s.i 43).toInt ∧ (s.i 43).toInt < 460 ∧ x.i 43 = s.i 43 + 1 ∧ x.i 52 = s.i 52 + 1 ∧ x.a 44 (s.i 43).toNatClampNeg = 3)
theorem setA_lo {s : RS} {k k' g j : Nat} {v : Int32} (h : k ≠ k' ∨ j ≠ g) : (s.setA k' g v).a k j = s.a k j := by
  rcases h with h | h
  · rw [setA_nk h]
  · exact setA_ne h
theorem y_chb {N : Nat} {s : RS} {t : Nat} {v : Int32} {n : Int64} {V : Int32 × RS} (h : f_X12_goal N (RS.setI (RS.setA (RS.setA (RS.setA s 66 t v) 67 t (-1)) 68 t 0) 52 (s.i 52 + 1)) 3 n = some V) : CHB t v s V.2 := by
  obtain ⟨y, hy⟩ : ∃ y, y = RS.setI (RS.setA (RS.setA (RS.setA s 66 t v) 67 t (-1)) 68 t 0) 52 (s.i 52 + 1) := ⟨_, rfl⟩
  rw [← hy] at h
  have yi : ∀ k : Nat, k ≠ 52 → y.i k = s.i k := by
    rw [hy]
    exact fun k h => if_neg h
  have ya : ∀ k : Nat, k ≠ 66 → k ≠ 67 → k ≠ 68 → y.a k = s.a k := by
    rw [hy]
    exact fun k h1 h2 h3 => (if_neg h3).trans ((if_neg h2).trans (if_neg h1))
  have yj : ∀ k j : Nat, ¬ j = t → y.a k j = s.a k j := by
    rw [hy]
    exact fun k j hj => (setA_ne hj).trans ((setA_ne hj).trans (setA_ne hj))
  have y6 : y.a 66 t = v := by
    rw [hy]
    exact (setA_lo (Or.inl (by decide))).trans ((setA_lo (Or.inl (by decide))).trans setA_at)
  have y7 : y.a 67 t = -1 := by
    rw [hy]
    exact (setA_lo (Or.inl (by decide))).trans setA_at
  have y8 : y.a 68 t = 0 := by
    rw [hy]
    exact setA_at
  have yb : y.b = s.b ∧ y.l = s.l := by
    rw [hy]
    exact ⟨rfl, rfl⟩
  have y52 : y.i 52 = s.i 52 + 1 := by
    rw [hy]
    rfl
  clear hy
  obtain ⟨⟨g0, g9⟩, hV⟩ := g_goal h
  have y43 := yi 43 (by decide)
  have ck := clampI g0
  obtain ⟨x, hx⟩ : ∃ x, x = GO y 3 n := ⟨_, rfl⟩
  have xi : ∀ k : Nat, k ≠ 43 → x.i k = y.i k := by
    rw [hx]
    exact fun k h => GO.eI h
  have x43 : x.i 43 = y.i 43 + 1 := by
    rw [hx]
    rfl
  have xa : ∀ k : Nat, (k < 44 ∨ k = 45 ∨ 51 < k) → x.a k = y.a k := by
    rw [hx]
    exact fun k h => GO.eA h
  have xl : ∀ k j : Nat, j ≠ (y.i 43).toNatClampNeg → x.a k j = y.a k j := by
    rw [hx]
    exact fun k j h => GO.lo h
  have xb : ∀ k : Nat, k ≠ 45 → x.b k = y.b k := by
    rw [hx]
    exact fun k h => if_neg h
  have xb2 : ∀ j : Nat, j ≠ (y.i 43).toNatClampNeg → x.b 45 j = y.b 45 j := by
    rw [hx]
    exact fun j h => if_neg h
  have x44 : x.a 44 (y.i 43).toNatClampNeg = 3 := by
    rw [hx]
    exact GO.a44
  have xL : x.l = y.l := by
    rw [hx]
    rfl
  have e2 : V.2 = x := by rw [hV, hx]
  clear hx
  rw [e2]
  rw [y43] at g0 g9 ck
  refine ⟨fun k h1 h2 => (xi k h1).trans (yi k h2), fun k h => (xa k (by omega)).trans (ya k (by omega) (by omega) (by omega)), fun k j h1 h2 => (xl k j (by rw [y43]; omega)).trans (by rw [ya k (by omega) (by omega) (by omega)]), fun k h => (xb k h).trans (by rw [yb.1]), fun j h => (xb2 j (by rw [y43]; omega)).trans (by rw [yb.1]), xL.trans yb.2, ⟨?_, ?_, ?_⟩, fun k j h1 h2 => ?_, g0, g9, by rw [x43, y43], (xi 52 (by decide)).trans y52, by rw [← y43]; exact x44⟩
  · rw [xa 66 (by omega)]
    exact y6
  · rw [xa 67 (by omega)]
    exact y7
  · rw [xa 68 (by omega)]
    exact y8
  · rw [xa k (by omega)]
    exact yj k j h2
/-- from before the arms to behind them -/
theorem TBZ.chb {t : Nat} {v : Int32} {s x u : RS} (h : CHB t v s x) (h43 : u.i 43 = x.i 43 - 1) (h52 : u.i 2 = x.i 2) (g : TBZ x (RS.setI (RS.setI u 43 (x.i 43)) 52 (x.i 52))) : TBZ s u := by
  obtain ⟨a1, a2, a3, a4, a5, a6, -, a8, ⟨b1, b2, b3, b4, -⟩⟩ := h
  obtain ⟨⟨t1, t2, t3, t4, -, -, t7, t8, t9, t10⟩, n, g43, g56, ⟨l59, m59⟩, b59, l29, m29, l33, m33, l24, m24⟩ := g
  have e43 : (x.i 43).toInt = (s.i 43).toInt + 1 := by rw [b3]; exact ad1 b1 (by omega)
  have f43 : u.i 43 = s.i 43 := by rw [h43, b3, Int32.add_sub_cancel]
  have f52 : u.i 2 = s.i 2 := h52.trans (a1 2 (by decide) (by decide))
  have t1 : u.i 2 = x.i 2 := t1
  have t2 : u.i 3 = x.i 3 := t2
  have t3 : u.i 8 = x.i 8 := t3
  have t4 : u.i 38 = x.i 38 := t4
  have t7 : u.i 56 = x.i 56 := t7
  have t8 : u.a 1 = x.a 1 := t8
  have t9 : u.a 4 = x.a 4 := t9
  have t10 : u.b 9 = x.b 9 := t10
  have l59 : (x.i 59).toInt ≤ (u.i 59).toInt := l59
  have m59 : ∀ j : Nat, (x.i 59).toInt ≤ (j : Int) → (j : Int) < (u.i 59).toInt → u.a 62 j = -1 := m59
  have l29 : (x.i 29).toInt ≤ (u.i 29).toInt := l29
  have l33 : (x.i 33).toInt ≤ (u.i 33).toInt := l33
  have l24 : (x.i 24).toInt ≤ (u.i 24).toInt := l24
  have z : ∀ k : Nat, k ≠ 43 → k ≠ 52 → x.i k = s.i k := a1
  rw [z 59 (by decide) (by decide)] at l59 m59
  rw [z 29 (by decide) (by decide)] at l29
  rw [z 33 (by decide) (by decide)] at l33
  rw [z 24 (by decide) (by decide)] at l24
  refine ⟨⟨t1.trans (z 2 (by decide) (by decide)), t2.trans (z 3 (by decide) (by decide)), t3.trans (z 8 (by decide) (by decide)), t4.trans (z 38 (by decide) (by decide)), f43, f52, t7.trans (z 56 (by decide) (by decide)), t8.trans (a2 1 (by omega)), t9.trans (a2 4 (by omega)), t10.trans (a4 9 (by decide))⟩, fun j hj => ?_, fun j hj => ?_, fun j hj => ?_, ⟨l59, m59⟩, fun j hj => ?_, l29, fun j hj => ?_, l33, fun j hj => ?_, l24, fun j hj => ?_⟩
  · obtain ⟨q1, q2, q3⟩ := n j (by rw [z 38 (by decide) (by decide)]; exact hj)
    exact ⟨q1.trans (by rw [a4 39 (by decide)]), q2.trans (by rw [a2 40 (by omega)]), q3.trans (by rw [a2 41 (by omega)])⟩
  · obtain ⟨q1, q2, q3, q4, q5, q6, q7, q8⟩ := g43 j (by omega)
    exact ⟨q1.trans (a3 44 j (by decide) hj), q2.trans (a5 j hj), q3.trans (a3 46 j (by decide) hj), q4.trans (a3 47 j (by decide) hj), q5.trans (a3 50 j (by decide) hj), q6.trans (a3 51 j (by decide) hj), q7.trans (a3 48 j (by decide) hj), q8.trans (a3 49 j (by decide) hj)⟩
  · obtain ⟨q1, q2⟩ := g56 j (by rw [z 56 (by decide) (by decide)]; exact hj)
    exact ⟨q1.trans (by rw [a2 57 (by omega)]), q2.trans (by rw [a2 58 (by omega)])⟩
  · obtain ⟨q1, q2, q3⟩ := b59 j (by rw [z 59 (by decide) (by decide)]; exact hj)
    exact ⟨q1.trans (by rw [a2 60 (by omega)]), q2.trans (by rw [a2 61 (by omega)]), q3.trans (by rw [a2 62 (by omega)])⟩
  · exact (m29 j (by rw [z 29 (by decide) (by decide)]; exact hj)).trans (by rw [a2 30 (by omega)])
  · obtain ⟨q1, q2⟩ := m33 j (by rw [z 33 (by decide) (by decide)]; exact hj)
    exact ⟨q1.trans (by rw [a2 34 (by omega)]), q2.trans (by rw [a2 37 (by omega)])⟩
  · obtain ⟨q1, q2, q3⟩ := m24 j (by rw [z 24 (by decide) (by decide)]; exact hj)
    exact ⟨q1.trans (by rw [a2 25 (by omega)]), q2.trans (by rw [a2 27 (by omega)]), q3.trans (by rw [a2 28 (by omega)])⟩
end
section
/-! both readers: a choice -/
theorem rsIa2 {r : RS} {k : Nat} {w : Int32} : (RS.setI r k w).a = r.a := rfl
theorem gl_47 {N : Nat} {s : RS} {x : Int32} {l : Int64} {z : Int32 × RS} (g : f_X12_goal N s x l = some z) : z.2.a 47 (s.i 43).toNatClampNeg = s.i 52 ∧ z.2.i 52 = s.i 52 := by
  unfold f_X12_goal at g
  obtain ⟨-, g⟩ := hf_ite g
  cases g
  refine ⟨?_, rfl⟩
  rw [rsIa2, setA_nk (by decide), setA_nk (by decide), setA_nk (by decide), setA_nk (by decide), setA_at]
/-- CKX without the targets -/
def CKY (S R : CS) : Prop := (R.i 22 = S.i 22 ∧ R.i 36 = S.i 36 ∧ R.i 38 = S.i 38 ∧ R.i 50 = S.i 50 ∧ R.i 53 = S.i 53 ∧ R.i 56 = S.i 56) ∧ (∀ k : Nat, (k : Int) < (S.i 53).toInt → R.r 51 k = S.r 51 k) ∧ (∀ k a : Nat, (k : Int) < (S.i 53).toInt → S.r 51 k = some a → R.o a = S.o a ∧ R.ol a = S.ol a) ∧ (∀ k : Nat, (k : Int) < (S.i 22).toInt → R.a 18 k = S.a 18 k) ∧ (S.i 54).toInt ≤ (R.i 54).toInt ∧ (S.i 55).toInt ≤ (R.i 55).toInt ∧ (∀ k : Nat, (k : Int) < (S.i 55).toInt → R.a 52 k = S.a 52 k) ∧ (∀ k : Nat, (S.i 55).toInt ≤ (k : Int) → (k : Int) < (R.i 55).toInt → R.a 52 k = 0 ∨ (2 * (S.i 54).toInt + 1 < (R.a 52 k).toInt ∧ (R.a 52 k).toInt ≤ 2 * (R.i 54).toInt + 1)) ∧ (R.i 54).toInt + (S.i 44).toInt ≤ (S.i 54).toInt + (R.i 44).toInt ∧ 6 * (R.i 55).toInt + (S.i 44).toInt ≤ 6 * (S.i 55).toInt + (R.i 44).toInt
theorem CKX.y {S R : CS} (h : CKX S R) : CKY S R := ⟨h.1, h.2.1, h.2.2.1, h.2.2.2.1, h.2.2.2.2.1, h.2.2.2.2.2.1, h.2.2.2.2.2.2.1, h.2.2.2.2.2.2.2.1, h.2.2.2.2.2.2.2.2.2⟩
theorem CKY.nt {N : Nat} {S R : CS} {w : Int32 × CS} (e : f_X0_newTarget N S = some w) (g : CKY w.2 R) : CKY S R := by
  unfold f_X0_newTarget at e
  cases e
  exact g
theorem CKX.trx {S R T : CS} (h : CKX S R) (g : CKY R T) (hr : (T.i 21).toInt + 2 * (S.i 44).toInt ≤ (S.i 21).toInt + 2 * (T.i 44).toInt) : CKX S T := by
  obtain ⟨⟨a1, a2, a3, a4, a5, a6⟩, b1, b2, b3, b4, b5, b6, b7, b8, b9, b10⟩ := h
  obtain ⟨⟨c1, c2, c3, c4, c5, c6⟩, d1, d2, d3, d4, d5, d6, d7, d9, d10⟩ := g
  refine ⟨⟨c1.trans a1, c2.trans a2, c3.trans a3, c4.trans a4, c5.trans a5, c6.trans a6⟩, fun k hk => (d1 k (by rw [a5]; exact hk)).trans (b1 k hk), fun k a hk ha => ?_, fun k hk => (d3 k (by rw [a1]; exact hk)).trans (b3 k hk), Int.le_trans b4 d4, Int.le_trans b5 d5, fun k hk => (d6 k (by omega)).trans (b6 k hk), fun k h1 h2 => ?_, hr, by omega, by omega⟩
  · have e := b2 k a hk ha
    have f := d2 k a (by rw [a5]; exact hk) ((b1 k hk).trans ha)
    exact ⟨f.1.trans e.1, f.2.trans e.2⟩
  · by_cases c : (k : Int) < (R.i 55).toInt
    · rw [d6 k c]
      rcases b7 k h1 c with z | z
      · exact Or.inl z
      · exact Or.inr ⟨z.1, by omega⟩
    · rcases d7 k (by omega) h2 with z | z
      · exact Or.inl z
      · exact Or.inr ⟨by omega, z.2⟩
theorem ENV.chb {d : Int32} {t : Nat} {v : Int32} {S : CS} {s x : RS} (h : ENV d S s) (g : CHB t v s x) : ENV d S x ∧ phI x = phI s := by
  obtain ⟨a1, a2, a3, a4, a5, a6, -, a8, ⟨b1, b2, b3, -⟩⟩ := g
  have px : phI x = phI s := by
    unfold phI
    rw [a1 17 (by decide) (by decide), a1 20 (by decide) (by decide)]
  exact ⟨h.kq (a1 38 (by decide) (by decide)) (a1 2 (by decide) (by decide)) (a1 3 (by decide) (by decide)) (a1 18 (by decide) (by decide)) (a1 53 (by decide) (by decide)) (a1 54 (by decide) (by decide)) (a1 55 (by decide) (by decide)) (a2 1 (by omega)) (a2 4 (by omega)) (a2 41 (by omega)) (a4 9 (by decide)) (a4 39 (by decide)) (a1 10 (by decide) (by decide)) (a1 11 (by decide) (by decide)) (a1 12 (by decide) (by decide)) (a1 14 (by decide) (by decide)) (a1 15 (by decide) (by decide)) (a1 17 (by decide) (by decide)) (a1 19 (by decide) (by decide)) a6 ⟨by rw [a1 20 (by decide) (by decide)]; exact h.2.2.2.2.2.2.1, by rw [px]; exact h.2.2.2.2.2.2.2.1⟩ (h.wp.of (by rw [b3, ad1 b1 (by omega)]; omega) (a1 56 (by decide) (by decide)) (a1 59 (by decide) (by decide)) (a1 29 (by decide) (by decide)) (a2 58 (by omega)) (a2 62 (by omega))), px⟩
theorem FRB.chb {t : Nat} {v : Int32} {s x : RS} (g : CHB t v s x) : FRB t s x := by
  obtain ⟨-, a2, a3, a4, a5, a6, -, a8, -⟩ := g
  exact fun j hj => ⟨a8 64 j (by decide) (by omega), a8 65 j (by decide) (by omega), a8 66 j (by decide) (by omega), a8 67 j (by decide) (by omega), a8 68 j (by decide) (by omega), a8 69 j (by decide) (by omega), a8 70 j (by decide) (by omega), a8 71 j (by decide) (by omega), a8 72 j (by decide) (by omega), a8 73 j (by decide) (by omega), by rw [a4 74 (by decide)]⟩
/-- all but the depth -/
theorem CD2.to {c : Int} {s u : RS} (h : CD2 c s u) : CD2 c s (RS.setI u 52 (s.i 52)) := ⟨⟨h.1.1, h.1.2.1, h.1.2.2.1, h.1.2.2.2.1, h.1.2.2.2.2.1, rfl⟩, h.2⟩
theorem CD2.nn {c : Int} {s p u : RS} (h : CD2 c s (RS.setI p 52 (s.i 52))) (g : CD2 c p (RS.setI u 52 (p.i 52))) : CD2 c s (RS.setI u 52 (s.i 52)) := by
  have g' : CD2 c (RS.setI p 52 (s.i 52)) (RS.setI u 52 (s.i 52)) := ⟨⟨g.1.1, g.1.2.1, g.1.2.2.1, g.1.2.2.2.1, g.1.2.2.2.2.1, rfl⟩, g.2⟩
  exact h.tr g'
theorem CD2.n0 {c : Int} {s u : RS} (h : CD2 c s (RS.setI u 52 (s.i 52))) (e : u.i 52 = s.i 52) : CD2 c s u := ⟨⟨h.1.1, h.1.2.1, h.1.2.2.1, h.1.2.2.2.1, h.1.2.2.2.2.1, e⟩, h.2⟩
theorem CHB.cd {t : Nat} {v : Int32} {s x : RS} (h : CHB t v s x) (c : Int) : CD2 c s (RS.setI x 52 (s.i 52)) := by
  obtain ⟨a1, a2, -⟩ := h
  refine ⟨⟨?_, ?_, ?_, ?_, ?_, rfl⟩, fun j _ => ?_, fun j _ => ?_, fun j _ => ?_, fun j _ => ?_⟩
  · show (s.i 20).toInt ≤ (x.i 20).toInt
    rw [a1 20 (by decide) (by decide)]
    exact Int.le_refl _
  · show (s.i 24).toInt ≤ (x.i 24).toInt
    rw [a1 24 (by decide) (by decide)]
    exact Int.le_refl _
  · show (s.i 29).toInt ≤ (x.i 29).toInt
    rw [a1 29 (by decide) (by decide)]
    exact Int.le_refl _
  · show (s.i 33).toInt ≤ (x.i 33).toInt
    rw [a1 33 (by decide) (by decide)]
    exact Int.le_refl _
  · exact (show SLC s x from SLC.eq (a1 42 (by decide) (by decide)) (by rw [a1 20 (by decide) (by decide)]; exact Int.le_refl _))
  · show x.a 21 j = s.a 21 j ∧ x.a 22 j = s.a 22 j ∧ x.a 23 j = s.a 23 j
    rw [a2 21 (by omega), a2 22 (by omega), a2 23 (by omega)]
    exact ⟨rfl, rfl, rfl⟩
  · show x.a 25 j = s.a 25 j ∧ x.a 26 j = s.a 26 j ∧ x.a 27 j = s.a 27 j ∧ x.a 28 j = s.a 28 j
    rw [a2 25 (by omega), a2 26 (by omega), a2 27 (by omega), a2 28 (by omega)]
    exact ⟨rfl, rfl, rfl, rfl⟩
  · show x.a 30 j = s.a 30 j ∧ x.a 31 j = s.a 31 j ∧ x.a 32 j = s.a 32 j
    rw [a2 30 (by omega), a2 31 (by omega), a2 32 (by omega)]
    exact ⟨rfl, rfl, rfl⟩
  · show x.a 34 j = s.a 34 j ∧ x.a 35 j = s.a 35 j ∧ x.a 36 j = s.a 36 j ∧ x.a 37 j = s.a 37 j
    rw [a2 34 (by omega), a2 35 (by omega), a2 36 (by omega), a2 37 (by omega)]
    exact ⟨rfl, rfl, rfl, rfl⟩
set_option maxHeartbeats 16000000 in
theorem sx_choice {N : Nat} (hN : 1000 ≤ N) {E1 : CS → Option (Unit × CS)} {E2 : CS → Option (Int32 × CS)} (hm1 : ∀ σ, Kf (CS.i σ 32) (E1 σ)) (hm2 : ∀ σ, Kf (CS.i σ 32) (E2 σ)) (hE : SXR N 18 E1) (hB : ABK N (f_X7_armBlock N E1 E2)) : SXC N (f_X1_choice N E1 E2) := by
  intro d S s U n t R hv ht hk hs h3 csw e g
  obtain ⟨m, V, hV, g2⟩ := rl_19 g ht hv.1.2.1 hk
  unfold f_X12_arms at hV
  obtain ⟨hib, hV⟩ := hf_ite hV
  rw [tp_nat ht, if_pos hs] at hV
  unfold f_X1_choice at e
  obtain ⟨p1, e1, e⟩ := hf_bind e
  obtain ⟨p5, e5, e⟩ := hf_bind e
  obtain ⟨p9, e9, e⟩ := hf_bind e
  obtain ⟨p13, e13, e⟩ := hf_bind e
  obtain ⟨p17, e17, e⟩ := hf_bind e
  obtain ⟨p21, e21, e⟩ := hf_bind e
  obtain ⟨p25, e25, e⟩ := hf_bind e
  obtain ⟨p29, e29, e⟩ := hf_bind e
  obtain ⟨q3, hq3, hV⟩ := hf_bind hV
  obtain ⟨q5, hq5, hV⟩ := hf_bind hV
  rw [ob_id] at hV
  have f17 : ¬ p17.2.i 32 = 0 → ¬ R.2.i 32 = 0 := fun z => by
    have z1 : ¬ p21.2.i 32 = 0 := by rw [(nt_i e21).1]; exact z
    have z2 : ¬ p25.2.i 32 = 0 := by rw [(nt_i e25).1]; exact z1
    have z3 : ¬ p29.2.i 32 = 0 := by rw [fst_add e29]; exact z2
    rw [kF_X1_choice_69 N E1 E2 hm1 hm2 N p29.2 p21.1 p25.1 (p25.2.i 22) (-1) 0 R e z3]
    exact z3
  have f13 : ¬ p13.2.i 32 = 0 → ¬ R.2.i 32 = 0 := fun z => f17 (by rw [kF_X1_open N p13.2 123 p17 e17 z]; exact z)
  have f9 : ¬ p9.2.i 32 = 0 → ¬ R.2.i 32 = 0 := fun z => f13 (by rw [kF_X1_close N p9.2 41 p13 e13 z]; exact z)
  have f5 : ¬ p5.2.i 32 = 0 → ¬ R.2.i 32 = 0 := fun z => f9 (by rw [kF_X1_expression N E1 E2 hm1 hm2 p5.2 p9 e9 z]; exact z)
  obtain ⟨a1, a2, a3, a4, a5, a6, a7, a8, a9, a10⟩ := hv.adv hN (by rw [csw]; decide) e1 hq3
  obtain ⟨-, -, tu, b9⟩ := y_adv hN hv.1 e1 hq3
  have l4 : (s.i 11).toInt + 4 ≤ (q3.i 11).toInt := by
    have l2 := hv.1.2.2.2.2.2.2.1.2.2.2.2.2.2.1 (Or.inl csw)
    rw [hv.1.2.2.2.1.1, hv.1.2.2.2.1.2.1] at l2
    omega
  have t3 := qj_63 a2 ht
  have s17 : (q3.i 17).toInt = (s.i 17).toInt + 1 := by rw [a4]; exact t17_up (N := N) hv
  have pq3 : phI q3 = phI s + 3 := by
    unfold phI
    rw [a6, s17]
    omega
  rcases y_open hN a1 (c := 40) (d := 40) (Or.inl ⟨by decide, by decide⟩) (by decide) (by decide) (by decide) e5 hq5 with ⟨o1, o2, o3⟩ | ⟨o1, o2, o3, o4, o5, o6, o7, o8, o9, o10, o11, o12⟩
  · exact Or.inl ⟨f5 o2, u_flt g2 (krf_f_X12_then N q5.2 1 16 V hV o3)⟩
  have t5 := qj_63 o4 t3
  have q17 : (q5.2.i 17).toInt = (s.i 17).toInt + 2 := by rw [o6, t17_up (N := N) a1, s17]; omega
  have pq5 : phI q5.2 = phI s + 6 := by
    unfold phI at pq3 ⊢
    rw [o8, q17]
    rw [s17] at pq3
    omega
  obtain ⟨hV', t99⟩ := r_then t5 hV
  rw [hV'] at g2
  rcases sx_expression hN hm1 hm2 hE d p5.2 (TH q5.2 t 1 16) U m (t + 1) p9 o3.th (TH.tp t5 (by omega)) TH.fk TH.fs (show 3 ≤ phI q5.2 by omega) e9 g2 with ⟨x1, x2⟩ | ⟨m2, u, g3, xo, xc⟩
  · exact Or.inl ⟨f9 x1, x2⟩
  obtain ⟨w1, w2, w3, w4, w5, w6, w7, w8, w9⟩ := xo
  have fut := w3 t (by omega)
  have fq5 : FRB (t + 1) q3 q5.2 := FRB.of o4
  have fq3 : FRB (t + 1) s q3 := FRB.of a2
  have u64 : u.a 64 t = 19 := by
    rw [fut.1, TH.fk0 (Nat.le_refl t), (fq5 t (by omega)).1, (fq3 t (by omega)).1]
    exact hk
  have u65 : u.a 65 t = 1 := by
    rw [fut.2.1]
    exact TH.st
  have tu' : tpI u = t := by
    rw [w2]
    omega
  have w6' : (q5.2.i 11).toInt + 1 ≤ (u.i 11).toInt := w6
  have w7' : phI q5.2 + 1 ≤ phI u := w7
  have w8' : (q5.2.i 17).toInt + 1 ≤ (u.i 17).toInt := w8
  have w9' : u.i 19 = q5.2.i 19 := w9
  have s19 := hv.2.2.1.2.1
  have u19 : (u.i 19).toInt = (s.i 19).toInt + 1 := by rw [w9', o12, a10]
  obtain ⟨m3, V3, hV3, g4⟩ := rl_19 g3 tu' w1.1.2.1 u64
  unfold f_X12_arms at hV3
  obtain ⟨-, hV3⟩ := hf_ite hV3
  rw [tp_nat tu', if_neg (show ¬ u.a 65 t = 0 by rw [u65]; decide), if_pos u65] at hV3
  obtain ⟨q10, h10, hV3⟩ := hf_bind hV3
  obtain ⟨q12, h12, hV3⟩ := hf_bind hV3
  obtain ⟨q14, h14, hV3⟩ := hf_bind hV3
  obtain ⟨q16, h16, hV3⟩ := hf_bind hV3
  cases hV3
  have hcb := y_chb h14
  have c15 : q14.2.i 15 = q12.2.i 15 := hcb.1 15 (by decide) (by decide)
  rcases y_close hN w1 (sg_room hv w1 (((CKX.of a3 a8 a9).tr (CKX.of o5 o10 o11)).tr w5) (by omega)) (c := 41) (d := 41) (Or.inl ⟨by decide, by decide⟩) (by decide) (by decide) (by decide) e13 h10 with ⟨b1, b2, b3⟩ | ⟨b1, b2, b3, b4, b5, b6, b7, b8, b9', b10, b11, b12⟩
  · refine Or.inl ⟨f13 b2, u_flt g4 ?_⟩
    have z1 : ¬ q12.2.i 15 = 0 := krf_f_X12_emit N q10.2 29 (-1) q12 h12 b3
    have z2 : ¬ q14.2.i 15 = 0 := by rw [c15]; exact z1
    exact (show ¬ q16.2.i 15 = 0 from krf_f_X12_open N q14.2 123 q16 h16 z2)
  have z17 : (q10.2.i 17).toInt = (u.i 17).toInt + 1 := by rw [b6]; exact t17_up (N := N) w1
  have p10 : phI q10.2 = phI u + 3 := by
    unfold phI
    rw [b8, z17]
    omega
  obtain ⟨n1, n2, n3, n4, n5, n6⟩ := em_env b3 (by omega) h12
  have n22 := em_at h12 (i20_hi b3 (by omega))
  have nq := qj2_eq n3
  obtain ⟨c1, c2⟩ := n1.chb hcb
  rcases y_open hN c1 (c := 123) (d := 123) (Or.inl ⟨by decide, by decide⟩) (by decide) (by decide) (by decide) e17 h16 with ⟨d1, d2, d3⟩ | ⟨d1, d2, d3, d4, d5, d6, d7, d8, d9, d10, d11, d12⟩
  · exact Or.inl ⟨f17 d2, u_flt g4 (show ¬ q16.2.i 15 = 0 from d3)⟩
  -- the tables from s to q12
  have tb1 : TBK s q12.2 := ((((TBK.of a2 (by rw [a6]; exact Int.le_refl _) (fun j _ => by rw [a7])).tr (TBK.of o4 (by rw [o8]; exact Int.le_refl _) (fun j _ => by rw [o9]))).tr TH.tbk).tr w4).tr ((TBK.of b4 (by rw [b8]; exact Int.le_refl _) (fun j _ => by rw [b9'])).tr n2)
  have fr1 : FRB t s q12.2 := (((((FRB.of a2).tr (FRB.of o4)).tr TH.frb).tr (w3.mo (by omega))).tr (FRB.of b4)).tr (FRB.of nq.1)
  have ck1 : CKX S p17.2 := ((((CKX.of a3 a8 a9).tr (CKX.of o5 o10 o11)).tr w5).tr (CKX.of b5 b10 b11)).tr (CKX.of d5 d10 d11)
  have t10 : tpI q10.2 = t := qj_63 b4 tu'
  have t12 : tpI q12.2 = t := qj_63 nq.1 t10
  have t14 : tpI q14.2 = t := by
    show (q14.2.i 63).toInt = (t : Int)
    rw [hcb.1 63 (by decide) (by decide)]
    exact t12
  have t16 : tpI q16.2 = t := qj_63 d4 t14
  have x11 : (q14.2.i 11).toInt = (q10.2.i 11).toInt := by rw [hcb.1 11 (by decide) (by decide), nq.2.2.1]
  have x17 : (q14.2.i 17).toInt = (q10.2.i 17).toInt := by rw [hcb.1 17 (by decide) (by decide), nq.2.2.2.2.2.2.2.1]
  have x19 : (q14.2.i 19).toInt = (q10.2.i 19).toInt := by rw [hcb.1 19 (by decide) (by decide), nq.2.2.2.2.2.2.2.2.1]
  have x20 : (q14.2.i 20).toInt = (q10.2.i 20).toInt + 1 := by rw [hcb.1 20 (by decide) (by decide), n6]
  have y17 : (q16.2.i 17).toInt = (q14.2.i 17).toInt + 1 := by rw [d6]; exact t17_up (N := N) c1
  have py : phI q16.2 = phI u + 5 := by
    unfold phI at p10 ⊢
    rw [d8, y17, x17, x20]
    omega
  have s20 : (s.i 20).toInt ≤ (u.i 20).toInt := by
    have q := w4.2.1
    have q' : (q5.2.i 20).toInt ≤ (u.i 20).toInt := q
    rw [o8, a6] at q'
    exact q'
  -- the class: two targets more
  have k11 := hv.1.2.2.2.1.1
  have k17 := d3.1.2.2.2.1.1
  have r9 : (p17.2.i 21).toInt + 2 * (q5.2.i 11).toInt ≤ (S.i 21).toInt + 2 * (u.i 11).toInt := by
    have q := w5.r21
    rw [o3.1.2.2.2.1.1, w1.1.2.2.2.1.1] at q
    rw [pj_21 d5, pj_21 b5, ← pj_21 a3, ← pj_21 o5]
    exact q
  have r7 := hv.t21.2
  obtain ⟨v1, -, v3⟩ := d3.nt (by omega) e21
  obtain ⟨v4, -, v6⟩ := v1.nt (by omega) e25
  have k29 := kd_X0_add N p25.2 30 p21.1 p29 e29
  have q29 := pj2_eq k29
  have v7 := v4.kd k29
  have n54a : p21.2.i 54 = p17.2.i 54 := by
    have z := e21
    unfold f_X0_newTarget at z
    cases z
    rfl
  have n54b : p25.2.i 54 = p21.2.i 54 := by
    have z := e25
    unfold f_X0_newTarget at z
    cases z
    rfl
  obtain ⟨-, -, i44a, i22a, i18a, -⟩ := nt_i e21
  obtain ⟨-, -, i44b, i22b, i18b, -⟩ := nt_i e25
  have e2922 : p29.2.i 22 = p25.2.i 22 := q29.2.2.2.2.1
  have e1722 : p25.2.i 22 = S.i 22 := by rw [i22b, i22a]; exact ck1.1.1
  have r5 := hv.2.2.2.2.2.2.2.2.2.2.1
  have r4 := hv.2.2.2.2.2.2.2.2.2.1
  obtain ⟨s0, hs0⟩ : ∃ z, z = RS.setA q16.2 65 t 2 := ⟨_, rfl⟩
  rw [← hs0] at g4
  have zi : s0.i = q16.2.i := by rw [hs0]; rfl
  have za : ∀ k : Nat, k ≠ 65 → s0.a k = q16.2.a k := by
    rw [hs0]
    exact fun k h => setA_nk h
  have zb : s0.b = q16.2.b := by rw [hs0]; rfl
  have z65 : s0.a 65 t = 2 := by
    rw [hs0]
    exact setA_at
  have zj : ∀ j : Nat, ¬ j = t → s0.a 65 j = q16.2.a 65 j := by
    rw [hs0]
    exact fun j h => setA_ne h
  have tb0 : TBZ q16.2 s0 := by
    rw [hs0]
    exact setA_tb0 (Or.inr (by omega))
  have qe0 : qe s0 = qe q16.2 := by
    rw [hs0]
    rfl
  have venv : ENV d p29.2 s0 := by
    rw [hs0]
    exact setA_env (Or.inr (by omega)) v7
  clear hs0
  have fd : FRB (t + 1) q14.2 q16.2 := FRB.of d4
  have fdt := fd t (by omega)
  have g66 : s0.a 66 t = q12.1 := by rw [za 66 (by decide), fdt.2.2.1]; exact hcb.2.2.2.2.2.2.1.1
  have g67 : s0.a 67 t = -1 := by rw [za 67 (by decide), fdt.2.2.2.1]; exact hcb.2.2.2.2.2.2.1.2.1
  have g68 : s0.a 68 t = 0 := by rw [za 68 (by decide), fdt.2.2.2.2.1]; exact hcb.2.2.2.2.2.2.1.2.2
  have g64 : s0.a 64 t = 19 := by
    rw [za 64 (by decide), fdt.1, hcb.2.1 64 (by omega), ((FRB.of nq.1 : FRB (t + 1) q10.2 q12.2) t (by omega)).1, ((FRB.of b4 : FRB (t + 1) u q10.2) t (by omega)).1]
    exact u64
  have g22 : (s0.a 22 (s0.a 66 t).toNatClampNeg).toInt < 0 := by
    rw [g66, n5, za 22 (by decide), d9, hcb.2.1 22 (by omega), n22]
    decide
  have z20 : (s0.i 20).toInt = (q10.2.i 20).toInt + 1 := by rw [zi, d8, x20]
  have z11 : (s0.i 11).toInt = (q16.2.i 11).toInt := by rw [zi]
  have pz : phI s0 = phI u + 5 := by
    have : phI s0 = phI q16.2 := by
      unfold phI
      rw [zi]
    rw [this, py]
  have em : (-1 : Int32).toInt = -1 := by decide
  have i10 : (q10.2.i 20).toInt = (u.i 20).toInt := by rw [b8]
  have g66' : (s0.a 66 t).toInt = (u.i 20).toInt := by rw [g66, n5, i10]
  have z19 : (s0.i 19).toInt = (s.i 19).toInt + 1 := by
    rw [zi, d12, x19, b12, u19]
    omega
  have i29 : (p29.2.i 21).toInt = (p17.2.i 21).toInt + 2 := by
    rw [pj_21 q29.1, v6, v3]
    omega
  have ck29 : CKX S p29.2 := by
    refine ck1.trx (CKY.nt e21 (CKY.nt e25 (CKX.of q29.1 e2922 q29.2.2.2.2.2.2.2.2.2.2.2).y)) ?_
    rw [venv.1.2.2.2.1.1, k11]
    omega
  have tbx : TBZ q14.2 s0 := (TBZ.of d4).tr tb0
  have e43 : s0.i 43 = q14.2.i 43 := tbx.1.2.2.2.2.1
  have e52 : s0.i 2 = q14.2.i 2 := tbx.1.2.2.2.2.2.1
  have hG : GA0 p29.2 s0 := by
    obtain ⟨⟨x1, x2, x3, -⟩, -⟩ := n1.wp
    obtain ⟨f1, f2, f3, f4, f5⟩ := hcb.2.2.2.2.2.2.2.2
    have g43 : (s0.i 43).toInt = (q12.2.i 43).toInt + 1 := by rw [e43, f3]; exact ad1 f1 (by omega)
    have cl := clampI f1
    have sm := ck29.sum hv.ri
    have z56 : s0.i 56 = q12.2.i 56 := by rw [tbx.1.2.2.2.2.2.2.1]; exact hcb.1 56 (by decide) (by decide)
    refine ⟨venv.ri, ?_, ?_, ⟨by omega, ?_⟩, fun y => ?_, by omega, ?_⟩
    · rw [sm.1, z19]
      have := hv.ri.2.2.2.2.2.2
      unfold sgI at this
      rw [hv.2.2.1.1] at this
      omega
    · rw [sm.2]
      have a := hv.ri.2.2.2.2.2.1
      have b := (eI.ge S).2
      unfold plI at b
      rw [k11] at b
      omega
    · have ei : ((s0.i 43).toInt - 1).toNat = (q12.2.i 43).toNatClampNeg := by omega
      have xi : ((q12.2.i 43).toNatClampNeg : Int) < (q14.2.i 43).toInt := by rw [← e43]; omega
      rw [ei, (tbx.2.2.1 _ xi).1]
      exact f5
    · rw [z56] at y ⊢
      have i56 : ((((q12.2.i 56).toInt - 1).toNat : Nat) : Int) < (q14.2.i 56).toInt := by rw [hcb.1 56 (by decide) (by decide)]; omega
      rw [(tbx.2.2.2.1 _ i56).2, hcb.2.1 58 (by omega)]
      have := x3 y
      omega
    · have ei : ((s0.i 43).toInt - 1).toNat = (q12.2.i 43).toNatClampNeg := by omega
      have xi : ((q12.2.i 43).toNatClampNeg : Int) < (q14.2.i 43).toInt := by rw [← e43]; omega
      obtain ⟨w1, w2⟩ := gl_47 h14
      have w1' : q14.2.a 47 (q12.2.i 43).toNatClampNeg = q12.2.i 52 + 1 := w1
      have w2' : q14.2.i 52 = q12.2.i 52 + 1 := w2
      have w3 : s0.i 52 = q14.2.i 52 := (qe_eq (qe0.trans (kre_f_X12_open N q14.2 123 q16 h16))).1.2.2.2.2.2
      rw [ei, (tbx.2.2.1 _ xi).2.2.2.1, w3, w1', w2']
  have hA : AMI d t (p25.2.i 22) (-1) (s.i 20).toInt [] p29.2 s0 p29.2 s0 := by
    refine ⟨venv, ?_, g64, CKN.rf _, ⟨TBZ.rf _, Int.le_refl _, fun _ _ => rfl⟩, FRB.rf _ _, ⟨⟨?_, ?_, fun v => ⟨?_, ?_⟩⟩, g22, ⟨fun _ => ?_, fun L0 j q => ?_⟩, fun j hj => absurd hj List.not_mem_nil⟩, ⟨hv.2.2.2.2.2.2.1, ?_, ?_, ?_⟩, ⟨Or.inl g68, ?_⟩, e2922.symm, rfl, Int.le_refl _, Int.le_refl _, Int.le_refl _, ?_, ?_⟩
    · show (s0.i 63).toInt = (t : Int)
      rw [zi]
      exact t16
    · rw [e1722]
      exact r4
    · rw [e2922]
      exact Int.le_refl _
    · intro ⟨i, i1, i2, _⟩
      rw [e2922] at i2
      omega
    · intro ⟨j, hj, _⟩
      exact absurd hj List.not_mem_nil
    · rw [g67, em]
      omega
    · exact absurd q.symm (by simp)
    · omega
    · omega
    · omega
    · rw [g68, em]
      exact ⟨fun z => absurd z (by decide), fun z => absurd z (by omega)⟩
    · omega
    · have r54 := w5.2.2.2.2.2.2.2.2.2.1
      rw [o3.1.2.2.2.1.1, w1.1.2.2.2.1.1] at r54
      have s54 := hv.sj.2.1
      rw [pj_54 q29.1, n54b, n54a, pj_54 d5, pj_54 b5]
      rw [pj_54 o5, pj_54 a3] at r54
      omega
  have k8 : KD8 (p25.2.i 22) p29.2 s0 := by
    have kl := KD.le p29.2 (p25.2.i 22).toInt (p29.2.i 22).toInt
    have e9 : (p29.2.i 22).toInt = (S.i 22).toInt := by rw [e2922, e1722]
    unfold KD8
    omega
  have hi := i11_hi venv
  have hq0 : (s0.a 66 t).toInt = ((pcR u : Nat) : Int) := by
    rw [g66']
    exact (Int.toNat_of_nonneg w1.p20.1).symm
  have hW0 : AMW 0 (fun _ _ => False) p25.1 (pcR u) t U p29.2 s0 (p25.2.i 22) (-1) [] p29.2 s0 := by
    refine ⟨⟨hq0, ?_⟩, ⟨Int.le_refl _, by rw [e2922]; exact Int.le_refl _⟩, fun _ k hk => absurd hk List.not_mem_nil, fun cr => ⟨(CD1.rf p29.2).wk (by rw [e2922]; omega) (Int.le_refl _), CT7.rf _ _ _, CD2.rf _ _, GPS.tt, SAT.tt _ _ _ _ (SLC.eq rfl (Int.le_refl _)), ?_⟩⟩
    · rw [← hq0, g66', z20, i10]
      omega
    · intro FC SF nm X c h w W we _ _ _ _ _ _ _ _ _ _
      exact ⟨fun k hk => absurd hk List.not_mem_nil, fun k hk => absurd hk List.not_mem_nil⟩
  rcases y_cloop hN hm1 hm2 hE hB hG N m3 [] p29.2 s0 (-1) 0 R hA hW0 k8 z65 (by decide) (by rw [z_t0]; exact hi.1) e g4 with z | ⟨m4, y, g5, ⟨h1, h2, h3', ⟨h41, h42⟩, h5, h6, h7, h8, h9, h10'⟩, chc⟩
  · exact Or.inl z
  refine Or.inr ⟨m4, y, g5, ⟨h1, h2, ?_, ?_, ?_, by omega, by omega, ?_, ?_⟩, fun cr => ?_⟩
  · have f0 : FRB t q16.2 s0 := fun j hj => ⟨by rw [za 64 (by decide)], zj j (by omega), by rw [za 66 (by decide)], by rw [za 67 (by decide)], by rw [za 68 (by decide)], by rw [za 69 (by decide)], by rw [za 70 (by decide)], by rw [za 71 (by decide)], by rw [za 72 (by decide)], by rw [za 73 (by decide)], by rw [zb]⟩
    exact (((fr1.tr (FRB.chb hcb)).tr (fd.mo (by omega))).tr f0).tr h3'
  · have hx := tbx.tr h5.1
    rw [e43] at hx
    have hx : TBZ q14.2 (RS.setI (RS.setI y 43 (q14.2.i 43)) 52 (q14.2.i 52)) := hx
    rw [e43] at h41
    rw [e52] at h42
    have cd : CDK (s.i 20).toInt q12.2 s0 := ⟨by rw [zi, d8, hcb.1 20 (by decide) (by decide)]; exact Int.le_refl _, fun j _ => by rw [za 22 (by decide), d9, hcb.2.1 22 (by omega)]⟩
    exact ⟨tb1.1.tr (TBZ.chb hcb h41 h42 hx), (tb1.2.tr cd).tr (show CDK (s.i 20).toInt s0 y from h5.2)⟩
  · exact ck29.tr h6
  · have : (q16.2.i 17).toInt = (s0.i 17).toInt := by rw [zi]
    omega
  · exact o19 (by rw [h10', z19]; omega)
  · obtain ⟨k1, k2, k3, k4, k5, k6, k7⟩ := adv_cd hN hv (by rw [csw]; decide) e1 hq3
    have crp1 : CRB p1.2 := cr.of k1 (by omega) (by omega)
    obtain ⟨l1, l2, l3, l4', l5, l6⟩ := tok_cd a1 o3 o5 (ke_X1_open N p1.2 40 p5 e5) (kre_f_X12_open N q3 40 q5 hq5) o7
    have crp5 : CRB p5.2 := crp1.of l1 (by omega) (by omega)
    obtain ⟨f1, f2, f3, Ψ1, sat1, f4⟩ := xc crp5
    have crp9 : CRB p9.2 := crp5.of f1 (by omega) (by omega)
    obtain ⟨i1, i2, i3, i4, i5, i6⟩ := tok_cd w1 b3 b5 (ke_X1_close N p9.2 41 p13 e13) (kre_f_X12_shut N u 41 q10 h10) b7
    obtain ⟨j1, j2, j3, j4, j5, j6⟩ := tok_cd c1 d3 d5 (ke_X1_open N p13.2 123 p17 e17) (kre_f_X12_open N q14.2 123 q16 h16) d7
    have c9 : CD1 (-2) (-3) S p9.2 := ((k1.tr l1).tr f1).wk (by omega) (by omega)
    have c917 : CD1 (-2) (-2) p9.2 p17.2 := (i1.tr j1).wk (by omega) (by omega)
    have c17 : CD1 (-4) (-5) S p17.2 := (c9.tr c917).wk (by omega) (by omega)
    have cr17 : CRB p17.2 := cr.of c17 (by omega) (by omega)
    have q44 := d3.p44
    have q44' : (p17.2.i 44).toInt = (q16.2.i 11).toInt := by rw [q44.1]
    have S44 := hv.p44
    have S44' : (S.i 44).toInt = (s.i 11).toInt := by rw [S44.1]
    have c171 := c17.1
    obtain ⟨m1, m2, m3', m4', m5, m6, m7, m8⟩ := cd_nt e21 cr17.2.1 (by have := cr17.2.2; omega)
    obtain ⟨r1, r2, r3, r4', r5, r6, r7, r8⟩ := cd_nt e25 (by have := cr17.2.1; omega) (by have := cr17.2.2; omega)
    obtain ⟨t1, t2, ⟨t3, t3'⟩, t4, t5, t6⟩ := cd_add e29 (by rw [r7, m7]; exact cr17.1.1) (by rw [r7, m7]; have := cr17.1.2; omega)
    have c1729 : CD1 1 2 p17.2 p29.2 := ((m1.tr r1).tr t1).wk (by omega) (by omega)
    have c29 : CD1 (-3) (-3) S p29.2 := (c17.tr c1729).wk (by omega) (by omega)
    have cr29 : CRB p29.2 := cr.of c29 (by omega) (by omega)
    have x1e : p21.1.toInt = (p17.2.i 21).toInt := by rw [m2]
    have x2e : p25.1.toInt = (p17.2.i 21).toInt + 1 := by rw [r2, m3']
    have i2921 : (p29.2.i 21).toInt = (p17.2.i 21).toInt + 2 := by rw [t5, r3, m3']; omega
    have z17 := cr17.2.1
    obtain ⟨y1, y2, ⟨y3, y4⟩, y5, ⟨y6, y7⟩, Ψ2, sat2, y8⟩ := chc cr29 ⟨by omega, by omega⟩ ⟨by omega, by omega⟩ (by omega)
    -- the reference
    have p20 := b3.p20
    obtain ⟨v1', v2', v3', v4', v5', v6'⟩ := cd_emit h12 p20.1 (by omega)
    have sT : CD2 (s.i 20).toInt s (TH q5.2 t 1 16) := ((k3 _).tr (l3 _)).tr (CD2.qe rfl)
    have su : CD2 (s.i 20).toInt s u := sT.tr (f3.wk (by show _ ≤ (q5.2.i 20).toInt; rw [l6, k6]; exact Int.le_refl _))
    have su20 := su.1.1
    have u12 : CD2 (u.i 20).toInt u q12.2 := (i3 _).tr (v1'.wk (by rw [i6]; exact Int.le_refl _))
    have s12 : CD2 (s.i 20).toInt s q12.2 := su.tr (u12.wk su20)
    have n0 : ∀ c : Int, CD2 c q12.2 (RS.setI s0 52 (q12.2.i 52)) := fun c => ((hcb.cd c).nn (j3 c).to).nn (CD2.qe qe0 : CD2 c q16.2 s0).to
    have u0 : ∀ c : Int, c ≤ (u.i 20).toInt → CD2 c u (RS.setI s0 52 (u.i 52)) := fun c hc => (u12.wk hc).to.nn (n0 c)
    have s0n : CD2 (s.i 20).toInt s (RS.setI s0 52 (s.i 52)) := s12.to.nn (n0 _)
    have i52 : s0.i 52 = s.i 52 + 1 := by
      rw [(qe_eq qe0).1.2.2.2.2.2, (j3 0).1.2.2.2.2.2, hcb.2.2.2.2.2.2.2.2.2.2.2.1, s12.1.2.2.2.2.2]
    have y52 : y.i 52 = s.i 52 := by rw [y7, i52, Int32.add_sub_cancel]
    have pu : ((pcR u : Nat) : Int) = (u.i 20).toInt := Int.toNat_of_nonneg w1.p20.1
    have uyn : CD2 (s.i 20).toInt u (RS.setI y 52 (u.i 52)) := (u0 _ su20).nn (y5.wk (by omega))
    have syn : CD2 (s.i 20).toInt s (RS.setI y 52 (s.i 52)) := su.to.nn uyn
    have e029 : CD1 1 0 p29.2 R.2 := y1
    have c9R : CD1 0 0 p9.2 R.2 := ((c917.tr c1729).tr y1).wk (by omega) (by omega)
    have tSp : CT7 0 (S.i 21).toInt S p5.2 := (k2 _ _).tr (l2 _ _)
    have t9R : CT7 0 (p9.2.i 21).toInt p9.2 R.2 := fun k kk1 kk2 => by
      have q1 : (k : Int) < (p17.2.i 21).toInt := by rw [j5, i5]; exact kk2
      rw [y2 k (by omega) (by omega) (by omega), t4, r4' 0 k kk1 (by omega), m4' 0 k kk1 q1, (j2 0 (p17.2.i 21).toInt k kk1 q1 : p17.2.a 17 k = p13.2.a 17 k), (i2 0 (p17.2.i 21).toInt k kk1 q1 : p13.2.a 17 k = p9.2.a 17 k)]
    have tS : CT7 0 (S.i 21).toInt S R.2 := (tSp.tr (f2.wk (Int.le_refl _) (by rw [l5, k5]; exact Int.le_refl _))).tr (t9R.wk (Int.le_refl _) c9.2.2.1)
    have kT : TBK s (TH q5.2 t 1 16) := ((TBK.of a2 (by rw [a6]; exact Int.le_refl _) (fun j _ => by rw [a7])).tr (TBK.of o4 (by rw [o8]; exact Int.le_refl _) (fun j _ => by rw [o9]))).tr TH.tbk
    have lR : CD1 0 (-1) S R.2 := (c29.tr y1).wk (by omega) (by omega)
    refine ⟨lR, tS, syn.n0 y52, _, (sat1.wd (MNO.of (k1.tr l1) sT) (⟨(c917.tr c1729).2.2.2.2.2.1.1, (u0 0 w1.p20.1).1.2.2.2.2.1, (u0 0 w1.p20.1).1.2.2.1⟩ : MNO p9.2 u p29.2 s0)).an sat2 (⟨c29.2.2.2.2.2.1.1, s0n.1.2.2.2.2.1, s0n.1.2.2.1⟩ : MNO S s p29.2 s0) (⟨y1.2.2.2.2.2.1.1, y5.1.2.2.2.2.1, y5.1.2.2.1⟩ : MNO p29.2 s0 R.2 y), ?_⟩
    intro FC SF nm X c h w0 W g0 ps fc fr ng hc hh ty hW hg zz
    have pS : ((pcC S : Nat) : Int) = (S.i 20).toInt := Int.toNat_of_nonneg cr.1.1
    have p9i : ((pcC p9.2 : Nat) : Int) = (p9.2.i 20).toInt := Int.toNat_of_nonneg crp9.1.1
    have p5i : pcC p5.2 = pcC S := by unfold pcC; rw [l4', k4]
    have p17i : pcC p25.2 = pcC p9.2 := by unfold pcC; rw [r7, m7, j4, i4]
    have p29i : pcC p29.2 = pcC p9.2 + 1 := by
      rw [← p17i]
      unfold pcC
      rw [t2, r7, m7]
      have := cr17.1.1
      omega
    have lR20 := y1.1.1
    have p29' : ((pcC p29.2 : Nat) : Int) = (p29.2.i 20).toInt := Int.toNat_of_nonneg cr29.1.1
    have pRi : ((pcC R.2 : Nat) : Int) = (R.2.i 20).toInt := Int.toNat_of_nonneg (by have := cr29.1.1; omega)
    have l9 := c9.1.1
    have f15 := fc.2.1 (pcC p9.2) (by omega) (by omega)
    have g15 := y1.2.1 (pcC p9.2) (by omega)
    rw [p17i] at t3 t3'
    have fx : ∀ x : Int32, (p17.2.i 21).toInt ≤ x.toInt → x.toInt < (p29.2.i 21).toInt → 0 ≤ (cTg R.2 x).toInt → cTg SF x = cTg R.2 x := fun x x0 x1 x2 => by
      have h4 : (p29.2.i 44).toInt = (s0.i 11).toInt := by rw [venv.p44.1]
      have h4' := venv.p44
      have h4'' := cr29.2.2
      have i9 : ib x 1024 := ⟨by omega, by omega⟩
      have ck := clampI (k := x) (by omega)
      unfold cTg gAt at x2 ⊢
      rw [if_pos i9] at x2
      have := c17.2.2.1
      rw [fc.2.2 x.toNatClampNeg (by omega) (by have := y1.2.2.1; omega) (Or.inl x2)]
    have frU := fr.1
    have op : U.a 21 (pcR u) = 29 := by
      have z0 : (s0.i 20).toInt = (u.i 20).toInt + 1 := by rw [z20, i6]
      have kk := krc_f_X12_parse_10 N m3 s0 U g4 (by have := w1.p20.1; omega) (by have := w1.p20; omega)
      rw [kk.2 (pcR u) (by have := w1.p20; omega) (by omega)]
      have e1' := (n0 (q12.2.i 20).toInt).2.1 (pcR u) (by rw [v3', i6]; omega)
      have e2' : s0.a 21 (pcR u) = q12.2.a 21 (pcR u) := e1'.1
      rw [e2']
      have pq10 : pcR q10.2 = pcR u := by unfold pcR; rw [i6]
      rw [← pq10]
      exact v4'
    have zz1 : (s0.i 20).toInt ≤ (y.i 20).toInt := y5.1.1
    have zz0 : (s0.i 20).toInt = (u.i 20).toInt + 1 := by rw [z20, i6]
    have qy := fr.2.1 (pcR u) (by omega) (by omega)
    have n50 := hv.2.1.1
    have i38 : s0.i 38 = s.i 38 := by
      have z1 : q14.2.i 38 = q12.2.i 38 := hcb.1 38 (by decide) (by decide)
      have z2 : s0.i 38 = q14.2.i 38 := tbx.1.2.2.2.1
      rw [z2, z1]
      exact tb1.1.1.2.2.2.1
    have ng0 : NMG nm ((5, h, pcR u, 0, 0, 0, 0) :: c) p29.2 s0 := by
      refine ⟨fun k hk => ?_, ?_, ?_, ?_, ?_⟩
      · rw [i38] at hk
        obtain ⟨e48, e49⟩ := c29.2.2.2.2.1 k (by rw [n50]; exact hk)
        have e40 : s0.a 40 k = s.a 40 k := by
          have z1 : q14.2.a 40 = q12.2.a 40 := hcb.2.1 40 (by omega)
          rw [(tbx.2.1 k (by rw [hcb.1 38 (by decide) (by decide), tb1.1.1.2.2.2.1]; exact hk)).2.1, z1, (tb1.1.2.1 k hk).2.1]
        rw [e48, e49, e40]
        obtain ⟨n1', n2'⟩ := ng.1 k hk
        exact ⟨n1', fun z => by
          obtain ⟨l1, e, l0, he, z⟩ := n2' z
          exact ⟨_ :: l1, e, l0, by rw [he]; rfl, z⟩⟩
      · show ((frs c + 0 : Nat) : Int) = (p29.2.i 38).toInt
        rw [c29.2.2.2.2.2.2.1]
        exact ng.2.1
      · have z9 := ng.2.2.1
        show ((c.length + 1 : Nat) : Int) = (s0.i 52).toInt
        have z8 := msr_len c
        rw [i52, ad1 (by omega) (by omega)]
        omega
      · have z9 := ng.2.2.2.1
        show ((frs c + 0 : Nat) : Int) ≤ (s0.i 19).toInt
        rw [z19]
        omega
      · have z9 : NCB c p29.2 s0 := ng.2.2.2.2.mv c29.2.2.2.2.2.1.1 s0n.1.2.2.2.2.1
        refine ⟨z9.1, fun e he => ?_⟩
        rcases List.mem_cons.mp he with rfl | he
        · exact ⟨fun k y => by rcases y with ⟨y, -⟩ | ⟨y, -⟩ <;> exact absurd (show (5 : Nat) = _ from y) (by decide), fun l y => absurd (show (5 : Nat) = 2 from y.1) (by decide)⟩
        · exact z9.2 e he
    have z1 := y8 FC SF nm X c h w0 W 0 (pcC p9.2) ps.2 (fc.sub c29 (CD1.rf R.2) (CT7.rf _ _ R.2)) (fx p21.1 (by omega) (by omega) y3) (fx p25.1 (by omega) (by omega) (by rw [y4]; have := cr29.1.1; omega)) (show FGR s0 y U from (show FGR (RS.setI s0 52 (s.i 52)) y U from fr.sub s0n (CD2.rf 0 y) (fun _ _ _ => ⟨rfl, rfl, rfl⟩))) ⟨op, qy.2⟩ ng0 hc (by omega) ty hW p29i (by rw [f15.1, g15.1]; exact t3) (by rw [f15.2, g15.2]; exact t3') zz
    have z2 := f4 FC SF nm X c h (w0 + (pcC R.2 - pcC p9.2)) W g0 ps.1 (fc.sub (k1.tr l1) c9R (t9R.wk (by rw [l5, k5]; exact cr.2.1) (Int.le_refl _))) (fr.sub sT (uyn.n0 (y52.trans su.1.2.2.2.2.2.symm)) (fun j jj1 jj2 => ((u0 _ (Int.le_refl _)).nn (y5.wk (by omega))).2.1 j jj2)) (ng.mv n50 (k1.tr l1) sT kT.1.1.2.2.2.1 (fun j hj => (kT.1.2.1 j hj).2.1) (show (s.i 19).toInt ≤ (q5.2.i 19).toInt by rw [o12, a10]; omega)) hc (show ((2 * h + 0 + msr c : Nat) : Int) ≤ (q5.2.i 11).toInt by omega) ty (by omega) True.intro z1
    rw [p5i, show pcR (TH q5.2 t 1 16) = pcR s by unfold pcR; rw [show (TH q5.2 t 1 16).i 20 = q5.2.i 20 from rfl, l6, k6]] at z2
    rw [show w0 + (pcC R.2 - pcC S) = w0 + (pcC R.2 - pcC p9.2) + (pcC p9.2 - pcC S) by omega]
    exact z2
end
section
/-! the class: a row more -/
def RWZ (S : CS) : Prop := (∀ i a : Nat, i < 400 → S.r 51 i = some a → oK S a 0) ∧ (∀ i j a : Nat, i < 400 → j < 400 → S.r 51 i = some a → S.r 51 j = some a → i = j) ∧ (∀ x ∈ S.L, x < S.hs)
theorem RWI.s {S : CS} (h : RWI S) : RWZ S := ⟨h.1, h.2.1, h.2.2.1⟩
/-- row a, at place m -/
def PSR (S R : CS) (a m : Nat) (x1 x3 : Int32) : Prop := (R.a = S.a ∧ R.b = S.b ∧ R.l = S.l) ∧ (∀ j : Nat, j ≠ 53 → j ≠ 54 → R.i j = S.i j) ∧ (R.i 53 = S.i 53 + 1 ∧ R.i 54 = S.i 54 + 1) ∧ R.r 51 m = some a ∧ (∀ k j : Nat, ¬ (k = 51 ∧ j = m) → R.r k j = S.r k j) ∧ RWZ R ∧ (∀ i b : Nat, i < 400 → i ≠ m → S.r 51 i = some b → b ≠ a) ∧ (∀ b : Nat, b ≠ a → R.o b = S.o b ∧ R.ol b = S.ol b) ∧ (R.o a 0 = x1 ∧ R.o a 1 = S.i 54 + 1 ∧ R.o a 3 = x3 ∧ R.ol a = 0) ∧ (R.o a 5 = 0 ∧ R.o a 6 = 0 ∧ R.o a 7 = 0 ∧ R.o a 8 = 0) ∧ (R.o a 9 = -1 ∧ R.o a 10 = -1 ∧ R.o a 11 = -1 ∧ R.o a 12 = 0 ∧ R.o a 14 = S.i 55)
theorem y_psh48 {N : Nat} {s : CS} {x1 x2 x3 x4 : Int32} {a : Nat} {R : Option Nat × CS} (e : f_X6_push_48 N s x1 x2 x3 x4 a = some R) : R.1 = some a ∧ ∃ g : Nat → Int32, OUV (CS.setI (CS.setI s 53 (x4 + 1)) 54 (s.i 54 + 1)) R.2 a g 0 ∧ (g 0 = x1 ∧ g 1 = s.i 54 + 1 ∧ g 3 = x3) ∧ (g 5 = 0 ∧ g 6 = 0 ∧ g 7 = 0 ∧ g 8 = 0) ∧ (g 9 = -1 ∧ g 10 = -1 ∧ g 11 = -1 ∧ g 12 = 0 ∧ g 14 = s.i 55) := by
  unfold f_X6_push_48 at e
  obtain ⟨-, e⟩ := hf_ite e
  cases e
  refine ⟨rfl, ?_⟩
  generalize CS.setI (CS.setI s 53 (x4 + 1)) 54 (s.i 54 + 1) = B
  exact ⟨_, (((((((((((((((OUV.rf B a).o 0 x1).o 1 _).o 2 x2).o 3 x3).l 0).o 5 0).o 6 0).o 7 0).o 8 0).o 9 (-1)).o 10 (-1)).o 11 (-1)).o 12 0).o 14 _), ⟨rfl, rfl, rfl⟩, ⟨rfl, rfl, rfl, rfl⟩, ⟨rfl, rfl, rfl, rfl, rfl⟩⟩
theorem y_push {N : Nat} {S : CS} {x1 x2 x3 : Int32} {R : Option Nat × CS} {m : Nat} (w : RWZ S) (hm : cnI S = (m : Int)) (m4 : m < 399) (e : f_X6_push N S x1 x2 x3 = some R) : ∃ a : Nat, R.1 = some a ∧ PSR S R.2 a m x1 x3 := by
  obtain ⟨w1, w2, w3⟩ := w
  have hm' : (S.i 53).toInt = (m : Int) := hm
  have e399 : (399 : Int32).toInt = 399 := by decide
  have hq : (if (399 : Int32) < (S.i 53) then (399 : Int32) else (S.i 53)) = S.i 53 := if_neg (fun z => by
    have := lt_int z
    omega)
  have en : (S.i 53).toNatClampNeg = m := by
    show (S.i 53).toInt.toNat = m
    rw [hm']
    exact Int.toNat_natCast _
  unfold f_X6_push at e
  rw [hq] at e
  obtain ⟨hib, e⟩ := hf_ite e
  rw [en] at e
  have main : ∀ (V : CS) (a : Nat), (V.i = S.i ∧ V.a = S.a ∧ V.b = S.b ∧ V.l = S.l) → V.r 51 m = some a → (∀ k j : Nat, ¬ (k = 51 ∧ j = m) → V.r k j = S.r k j) → (∀ b : Nat, b ≠ a → V.o b = S.o b ∧ V.ol b = S.ol b) → RWZ V → (∀ i b : Nat, i < 400 → i ≠ m → S.r 51 i = some b → b ≠ a) → f_X6_push_48 N V x1 x2 x3 (S.i 53) a = some R → ∃ a : Nat, R.1 = some a ∧ PSR S R.2 a m x1 x3 := fun V a vi vr vj vo vw vn e => by
    obtain ⟨r1, g, ⟨⟨b1, b2, b3, b4, b5, b6, b7, b8, b9, b10⟩, b11, b12, b13⟩, ⟨g0, g1, g3⟩, ⟨g5, g6, g7, g8⟩, ⟨g9, g10, g11, g12, g14⟩⟩ := y_psh48 e
    obtain ⟨v1, v2, v3, v4⟩ := vi
    have Ti : R.2.i = (CS.setI (CS.setI V 53 (S.i 53 + 1)) 54 (V.i 54 + 1)).i := b10
    have Tr : R.2.r = V.r := b5
    have TL : R.2.L = V.L := b2
    have Tk : R.2.k = V.k := b3
    have Th : R.2.hs = V.hs := b1
    refine ⟨a, r1, ⟨(show R.2.a = V.a from b9).trans v2, (show R.2.b = V.b from b7).trans v3, (show R.2.l = V.l from b8).trans v4⟩, fun j y1 y2 => ?_, ⟨?_, ?_⟩, by rw [Tr]; exact vr, fun k j h => by rw [Tr]; exact vj k j h, ⟨fun i b hi h => ?_, fun i j b hi hj h1 h2 => ?_, by rw [TL, Th]; exact vw.2.2⟩, vn, fun b hb => ?_, ⟨by rw [b12]; exact g0, by rw [b12, g1, v1], by rw [b12]; exact g3, b13⟩, ⟨by rw [b12]; exact g5, by rw [b12]; exact g6, by rw [b12]; exact g7, by rw [b12]; exact g8⟩, ⟨by rw [b12]; exact g9, by rw [b12]; exact g10, by rw [b12]; exact g11, by rw [b12]; exact g12, by rw [b12, g14, v1]⟩⟩
    · rw [Ti, ci_ne _ _ _ y2, ci_ne _ _ _ y1, v1]
    · rw [Ti, ci_ne _ _ _ (by decide), ci_at]
    · rw [Ti, ci_at, v1]
    · rw [Tr] at h
      have q := vw.1 i b hi h
      unfold oK at *
      rw [TL, Tk]
      exact q
    · rw [Tr] at h1 h2
      exact vw.2.1 i j b hi hj h1 h2
    · have q := b11 b hb
      have q2 := vo b hb
      exact ⟨(show R.2.o b = V.o b from q.1).trans q2.1, (show R.2.ol b = V.ol b from q.2).trans q2.2⟩
  cases hr : S.r 51 m with
  | some a =>
    rw [hr] at e
    exact main S a ⟨rfl, rfl, rfl, rfl⟩ hr (fun _ _ _ => rfl) (fun _ _ => ⟨rfl, rfl⟩) ⟨w1, w2, w3⟩ (fun i b hi hne h => fun z => hne (w2 i m a hi (by omega) (by rw [← z]; exact h) hr)) e
  | none =>
    rw [hr] at e
    have e' : ((f_X5_init N (CS.new S 0) (CS.hs S)).bind fun p5 => if ib (S.i 53) 400 then if oK p5.2 (CS.hs S) 0 then f_X6_push_48 N (CS.setR p5.2 51 m (some (CS.hs S))) x1 x2 x3 (S.i 53) (CS.hs S) else none else none) = some R := e
    unfold f_X5_init at e'
    rw [ob_some] at e'
    obtain ⟨-, e'⟩ := hf_ite e'
    obtain ⟨-, e'⟩ := hf_ite e'
    have fresh : ∀ i b : Nat, i < 400 → S.r 51 i = some b → b ≠ S.hs := fun i b hi h z => by
      have q := w3 b (w1 i b hi h).1
      omega
    have nr : ∀ k j : Nat, ¬ (k = 51 ∧ j = m) → (CS.setR (CS.new S 0) 51 m (some S.hs)).r k j = S.r k j := fun k j h => by
      show va_up S.r 51 (va_up (S.r 51) m (some S.hs)) k j = S.r k j
      unfold va_up
      by_cases c : k = 51
      · subst c
        rw [if_pos rfl, if_neg (fun z => h ⟨rfl, z⟩)]
      · rw [if_neg c]
    have nm : (CS.setR (CS.new S 0) 51 m (some S.hs)).r 51 m = some S.hs := by
      show va_up S.r 51 (va_up (S.r 51) m (some S.hs)) 51 m = some S.hs
      unfold va_up
      rw [if_pos rfl, if_pos rfl]
    have nL : (CS.setR (CS.new S 0) 51 m (some S.hs)).L = S.L ++ [S.hs] := rfl
    have nk : (CS.setR (CS.new S 0) 51 m (some S.hs)).k = va_up S.k S.hs 0 := rfl
    have nh : (CS.setR (CS.new S 0) 51 m (some S.hs)).hs = S.hs + 1 := rfl
    have no : ∀ b : Nat, b ≠ S.hs → (CS.setR (CS.new S 0) 51 m (some S.hs)).o b = S.o b ∧ (CS.setR (CS.new S 0) 51 m (some S.hs)).ol b = S.ol b := fun b hb => ⟨if_neg hb, if_neg hb⟩
    refine main (CS.setR (CS.new S 0) 51 m (some S.hs)) S.hs ⟨rfl, rfl, rfl, rfl⟩ nm nr no ⟨fun i b hi h => ?_, fun i j b hi hj h1 h2 => ?_, fun x hx => ?_⟩ (fun i b hi _ h => fresh i b hi h) e'
    · show b ∈ (CS.setR (CS.new S 0) 51 m (some S.hs)).L ∧ (CS.setR (CS.new S 0) 51 m (some S.hs)).k b = 0
      rw [nL, nk]
      by_cases c : i = m
      · subst c
        rw [nm] at h
        cases h
        exact ⟨List.mem_append_right _ List.mem_cons_self, if_pos rfl⟩
      · rw [nr 51 i (fun z => c z.2)] at h
        obtain ⟨q1, q2⟩ := w1 i b hi h
        exact ⟨List.mem_append_left _ q1, (if_neg (fresh i b hi h)).trans q2⟩
    · by_cases c : i = m
      · by_cases c2 : j = m
        · exact c.trans c2.symm
        · exfalso
          rw [nr 51 j (fun z => c2 z.2)] at h2
          rw [c, nm] at h1
          cases h1
          exact fresh j _ hj h2 rfl
      · by_cases c2 : j = m
        · exfalso
          rw [nr 51 i (fun z => c z.2)] at h1
          rw [c2, nm] at h2
          cases h2
          exact fresh i _ hi h1 rfl
        · rw [nr 51 i (fun z => c z.2)] at h1
          rw [nr 51 j (fun z => c2 z.2)] at h2
          exact w2 i j b hi hj h1 h2
    · rw [nL] at hx
      rw [nh]
      rcases List.mem_append.mp hx with z | z
      · have := w3 x z
        omega
      · rcases List.mem_cons.mp z with rfl | z
        · omega
        · exact absurd z List.not_mem_nil
/-- the rows are fewer than 381 -/
theorem RWI.few {d : Int32} {S : CS} {s : RS} (h : ENV d S s) : ∃ m : Nat, cnI S = (m : Int) ∧ m ≤ 380 := by
  have w := h.ri
  obtain ⟨-, -, -, ⟨w4, w5⟩, w6, w7, w8⟩ := w
  refine ⟨(cnI S).toNat, by omega, w6.bound ?_ ?_⟩
  · have a := (eI.ge S).2
    have b := (i11_hi h).2
    unfold plI at a
    rw [h.1.2.2.2.1.1] at a
    omega
  · have a := h.2.2.1
    unfold sgI at w8
    rw [a.1] at w8
    omega
end
section
/-! both readers: rows and frames side by side -/
/-- a row: its place, address, first frame, the goals and the walls below it -/
abbrev CEL : Type := Nat × Nat × Nat × Nat × Nat
def ceT (c : CEL) : Nat := c.2.2.1
def ceG (c : CEL) : Nat := c.2.2.2.1
def ceW (c : CEL) : Nat := c.2.2.2.2
def isOne (v : Int32) : Prop := v = 203 ∨ v = 204 ∨ v = 303 ∨ v = 205 ∨ v = 206 ∨ v = 207 ∨ v = 304
def isTy (v : Int32) : Prop := v = 213 ∨ v = 215 ∨ v = 305 ∨ v = 216
/-- a row that is no base -/
def isKS (v : Int32) : Prop := isOne v ∨ isTy v ∨ v = 301 ∨ v = 218 ∨ v = 212
def isGo (v : Int32) : Prop := v = 303 ∨ v = 218 ∨ v = 205 ∨ v = 206 ∨ v = 207 ∨ v = 304
def isWl (v : Int32) : Prop := v = 213 ∨ v = 215 ∨ v = 305
def wid (v : Int32) : Nat := if v = 301 ∨ v = 302 ∨ v = 218 then 2 else if v = 212 ∨ v = 213 ∨ v = 215 ∨ v = 216 then 3 else 1
def nGo (v : Int32) : Nat := if v = 303 ∨ v = 218 ∨ v = 205 ∨ v = 206 ∨ v = 207 ∨ v = 304 then 1 else 0
def nWl (v : Int32) : Nat := if v = 213 ∨ v = 215 ∨ v = 305 then 1 else 0
def nDp (v : Int32) : Nat := if v = 212 ∨ v = 213 ∨ v = 215 ∨ v = 305 ∨ v = 216 then 1 else 0
/-- the frames of a row, by its sort -/
def FBL (s : RS) (t : Nat) : Prop := s.a 64 t = 3 ∧ s.a 65 t = 1 ∧ s.a 64 (t + 1) = 1
def F301 (s : RS) (t : Nat) (v : Int32) : Prop := FBL s t ∧ s.a 66 t = v
def F302 (s : RS) (t : Nat) (v : Int32) : Prop := s.a 64 t = 19 ∧ s.a 65 t = 6 ∧ s.a 71 t = v ∧ s.a 64 (t + 1) = 1
def F303 (s : RS) (t g : Nat) (l : Int64) : Prop := s.a 64 t = 5 ∧ s.a 65 t = 1 ∧ (s.a 66 t).toInt = (g : Int) ∧ s.a 44 g = 2 ∧ s.b 45 g = l
def F203 (s : RS) (t : Nat) : Prop := s.a 64 t = 9 ∧ s.a 65 t = 2
def F204 (s : RS) (t : Nat) (v : Int32) : Prop := s.a 64 t = 9 ∧ s.a 65 t = 3 ∧ s.a 67 t = v ∧ (v = 0 ∨ v = 1)
def F205 (s : RS) (t g : Nat) (v : Int32) : Prop := s.a 64 t = 10 ∧ s.a 65 t = 2 ∧ (s.a 68 t).toInt = (g : Int) ∧ s.a 71 t = v ∧ s.a 44 g = 0
def F206 (s : RS) (t g : Nat) : Prop := s.a 64 t = 11 ∧ s.a 65 t = 1 ∧ (s.a 68 t).toInt = (g : Int) ∧ s.a 44 g = 0
def F207 (s : RS) (t g : Nat) (n v : Int32) : Prop := s.a 64 t = 12 ∧ s.a 65 t = 8 ∧ (s.a 73 t).toInt = (g : Int) ∧ s.a 71 t = n ∧ s.a 72 t = v ∧ s.a 44 g = 0
def F304 (s : RS) (t g : Nat) (n : Int32) : Prop := s.a 64 t = 12 ∧ s.a 65 t = 13 ∧ (s.a 73 t).toInt = (g : Int) ∧ s.a 71 t = n ∧ s.a 44 g = 0
def F212 (s : RS) (t : Nat) (n : Int32) : Prop := s.a 64 t = 13 ∧ s.a 65 t = 1 ∧ F301 s (t + 1) n
def F218 (s : RS) (t g : Nat) (n o : Int32) : Prop := s.a 64 t = 14 ∧ (s.a 72 t).toInt = (g : Int) ∧ s.a 71 t = n ∧ s.a 44 g = 1 ∧ (s.a 68 t = 0 ∨ s.a 68 t = 1) ∧ (s.a 68 t = 1 ↔ 0 ≤ o.toInt)
/-- a try: its record, whether it is whole, what it catches -/
def FTR (s : RS) (t g w : Nat) (v wh : Int32) : Prop := s.a 64 t = 15 ∧ (0 ≤ (s.a 66 t).toInt ∧ (s.a 66 t).toInt < (s.i 29).toInt) ∧ ((wh = 1 ↔ s.a 67 t = 1 ∨ 0 ≤ (s.a 72 t).toInt) ∧ (wh = 0 ∨ wh = 1)) ∧ (isWl v → s.a 57 w = s.a 66 t ∧ (s.a 58 w).toInt = (g : Int))
def FTS (s : RS) (t : Nat) (v n e : Int32) : Prop := (v = 213 → s.a 65 t = 1 ∧ F301 s (t + 1) n ∧ e = 0) ∧ (v = 215 → s.a 65 t = 3 ∧ FBL s (t + 1) ∧ s.a 71 t = n ∧ s.a 68 t = e) ∧ (v = 305 → s.a 65 t = 2 ∧ s.a 68 t = e) ∧ (v = 216 → s.a 65 t = 4 ∧ F301 s (t + 1) n ∧ s.a 68 t = e) ∧ (e = 0 ∨ e = 1)
def RFR (S : CS) (s : RS) (a t g w : Nat) : Prop := (S.o a 0 = 300 → s.a 64 t = 1) ∧ (S.o a 0 = 301 → F301 s t (S.o a 3)) ∧ (S.o a 0 = 302 → F302 s t (S.o a 3)) ∧ (S.o a 0 = 303 → F303 s t g (S.ol a)) ∧ (S.o a 0 = 203 → F203 s t) ∧ (S.o a 0 = 204 → F204 s t (S.o a 6)) ∧ (S.o a 0 = 205 → F205 s t g (S.o a 7)) ∧ (S.o a 0 = 206 → F206 s t g) ∧ (S.o a 0 = 207 → F207 s t g (S.o a 3) (S.o a 7)) ∧ (S.o a 0 = 304 → F304 s t g (S.o a 3) ∧ S.o a 7 = 0) ∧ (S.o a 0 = 212 → F212 s t (S.o a 3)) ∧ (S.o a 0 = 218 → F218 s t g (S.o a 3) (S.o a 11)) ∧ (isTy (S.o a 0) → FTR s t g w (S.o a 0) (S.o a 8) ∧ FTS s t (S.o a 0) (S.o a 3) (S.o a 6))
/-- how many of the entries are no default; how many of them stand before j -/
def nd (f : Nat → Int32) : List Nat → Nat
  | [] => 0
  | j :: L => nd f L + (if f j = 0 then 1 else 0)
def ndx (f : Nat → Int32) (j : Nat) : List Nat → Nat
  | [] => 0
  | i :: L => if i = j then 0 else ndx f j L + (if f i = 0 then 1 else 0)
theorem nd.eq {f g : Nat → Int32} : ∀ (L : List Nat), (∀ j ∈ L, f j = g j) → nd f L = nd g L
  | [], _ => rfl
  | j :: L, h => by
    show nd f L + (if f j = 0 then 1 else 0) = nd g L + (if g j = 0 then 1 else 0)
    rw [nd.eq L (fun i hi => h i (List.mem_cons_of_mem _ hi)), h j List.mem_cons_self]
theorem ndx.eq {f g : Nat → Int32} {j : Nat} : ∀ (L : List Nat), (∀ j ∈ L, f j = g j) → ndx f j L = ndx g j L
  | [], _ => rfl
  | i :: L, h => by
    show (if i = j then 0 else ndx f j L + (if f i = 0 then 1 else 0)) = (if i = j then 0 else ndx g j L + (if g i = 0 then 1 else 0))
    rw [ndx.eq L (fun k hk => h k (List.mem_cons_of_mem _ hk)), h i List.mem_cons_self]
theorem nd.app {f : Nat → Int32} : ∀ (L M : List Nat), nd f (L ++ M) = nd f L + nd f M
  | [], M => (Nat.zero_add _).symm
  | j :: L, M => by
    show nd f (L ++ M) + (if f j = 0 then 1 else 0) = (nd f L + (if f j = 0 then 1 else 0)) + nd f M
    rw [nd.app L M]
    omega
theorem ndx.app {f : Nat → Int32} {j : Nat} : ∀ (L M : List Nat), j ∈ L → ndx f j (L ++ M) = ndx f j L
  | [], _, h => absurd h List.not_mem_nil
  | i :: L, M, h => by
    show (if i = j then 0 else ndx f j (L ++ M) + (if f i = 0 then 1 else 0)) = (if i = j then 0 else ndx f j L + (if f i = 0 then 1 else 0))
    by_cases e : i = j
    · rw [if_pos e, if_pos e]
    · rw [if_neg e, if_neg e, ndx.app L M ((List.mem_cons.mp h).resolve_left (fun z => e z.symm))]
theorem ndx.new {f : Nat → Int32} {j : Nat} : ∀ (L : List Nat), ¬ j ∈ L → ndx f j (L ++ [j]) = nd f L
  | [], _ => if_pos rfl
  | i :: L, h => by
    show (if i = j then 0 else ndx f j (L ++ [j]) + (if f i = 0 then 1 else 0)) = nd f L + (if f i = 0 then 1 else 0)
    rw [if_neg (fun e => h (by rw [e]; exact List.mem_cons_self)), ndx.new L (fun z => h (List.mem_cons_of_mem _ z))]
theorem ndx.lt {f : Nat → Int32} {j : Nat} : ∀ (L : List Nat), j ∈ L → f j = 0 → ndx f j L < nd f L
  | [], h, _ => absurd h List.not_mem_nil
  | i :: L, h, hz => by
    show (if i = j then 0 else ndx f j L + (if f i = 0 then 1 else 0)) < nd f L + (if f i = 0 then 1 else 0)
    by_cases e : i = j
    · rw [if_pos e, e, if_pos hz]
      omega
    · rw [if_neg e]
      have := ndx.lt L ((List.mem_cons.mp h).resolve_left (fun z => e z.symm)) hz
      omega
theorem chn.uq {s : RS} : ∀ (L M : List Nat) (k : Int32), chn s k L → chn s k M → L = M
  | [], [], _, _, _ => rfl
  | [], j :: M, k, g, h => by
    have h1 := h.1
    have g1 : k.toInt < 0 := g
    omega
  | j :: L, [], k, g, h => by
    have h1 := g.1
    have g1 : k.toInt < 0 := h
    omega
  | j :: L, i :: M, k, g, h => by
    have e : j = i := by
      have := g.1
      have := h.1
      omega
    have h4 := h.2.2.2
    rw [← e] at h4
    rw [chn.uq L M _ g.2.2.2 h4, e]
/-- the numbers of a switch, from f up to m -/
def CSM (S : CS) (s : RS) (f m : Int) (L : List Nat) : Prop := 0 ≤ f ∧ (f ≤ m ∧ m = f + (nd (s.a 28) L : Int) ∧ ∀ i j : Nat, f ≤ (i : Int) → (i : Int) < m → j ∈ L → s.a 28 j = 0 → S.a 18 i = s.a 25 j → (i : Int) = f + (ndx (s.a 28) j L : Int)) ∧ ∀ v : Int32, (∃ i : Nat, f ≤ (i : Int) ∧ (i : Int) < m ∧ S.a 18 i = v) ↔ (∃ j ∈ L, s.a 28 j = 0 ∧ s.a 25 j = v)
/-- the kinds that a try catches -/
def kch (s : RS) : Int32 → List Nat → Prop
  | k, [] => k.toInt < 0
  | k, j :: L => k.toInt = (j : Int) ∧ (j : Int) < (s.i 33).toInt ∧ (∀ i ∈ L, j < i) ∧ kch s (s.a 37 j) L
def KMK (s : RS) (v : Int32) (L : List Nat) : Prop := (∀ k : Nat, k < 12 → (((v >>> Int32.ofNat k) &&& 1) = 1 ↔ ∃ j ∈ L, (s.a 34 j).toInt = (k : Int))) ∧ ∀ j ∈ L, 0 ≤ (s.a 34 j).toInt ∧ (s.a 34 j).toInt < 12
/-- a row, static: cases up to m, entries below e, catches below k; those of the rows below: m', e', k' -/
def CST (S : CS) (s : RS) (c : CEL) (m e k m' e' k' : Int) : Prop := S.r 51 c.1 = some c.2.1 ∧ c.1 < 400 ∧ RFR S s c.2.1 (ceT c) (ceG c) (ceW c) ∧
  (¬ S.o c.2.1 0 = 218 → m' = m ∧ e' = e) ∧ (S.o c.2.1 0 = 218 → m' = (S.o c.2.1 13).toInt ∧ e' ≤ e ∧ (0 ≤ (s.a 66 (ceT c)).toInt ∧ (s.a 66 (ceT c)).toInt < (s.i 20).toInt) ∧ ∃ L : List Nat, CSM S s m' m L ∧ chn s (s.a 22 (s.a 66 (ceT c)).toNatClampNeg) L ∧ FQL s (ceT c) L ∧ ∀ j ∈ L, e' ≤ (j : Int) ∧ (j : Int) < e) ∧
  (¬ isTy (S.o c.2.1 0) → k' = k) ∧ (isTy (S.o c.2.1 0) → k' ≤ k ∧ ∃ L : List Nat, kch s (s.a 30 (s.a 66 (ceT c)).toNatClampNeg) L ∧ KMK s (S.o c.2.1 12) L ∧ ((L = [] → (s.a 72 (ceT c)).toInt < 0) ∧ (∀ (L0 : List Nat) (j : Nat), L = L0 ++ [j] → (s.a 72 (ceT c)).toInt = (j : Int))) ∧ ∀ j ∈ L, k' ≤ (j : Int) ∧ (j : Int) < k)
/-- c stands right above c0 -/
def LNK (S : CS) (c c0 : CEL) : Prop := c.1 = c0.1 + 1 ∧ ceT c = ceT c0 + wid (S.o c0.2.1 0) ∧ ceG c = ceG c0 + nGo (S.o c0.2.1 0) ∧ ceW c = ceW c0 + nWl (S.o c0.2.1 0) ∧ (S.o c0.2.1 1).toInt < (S.o c.2.1 1).toInt ∧ (S.o c0.2.1 14).toInt ≤ (S.o c.2.1 14).toInt ∧ (S.o c0.2.1 0 = 216 → (S.o c0.2.1 15).toInt ≤ (S.o c.2.1 14).toInt) ∧ (isOne (S.o c0.2.1 0) → ¬ S.o c0.2.1 0 = 207 → ¬ S.o c0.2.1 0 = 304 → S.o c.2.1 3 = S.o c0.2.1 3) ∧ isKS (S.o c.2.1 0)
/-- a statement runs in it -/
def LOW (S : CS) (s : RS) (c : CEL) : Prop := ¬ S.o c.2.1 0 = 305 ∧ (S.o c.2.1 0 = 218 → s.a 65 (ceT c) = 3 ∧ s.a 64 (ceT c + 1) = 1) ∧ (¬ isOne (S.o c.2.1 0) → s.a 65 (ceT c + wid (S.o c.2.1 0) - 1) = 1 ∧ s.a 64 (ceT c + wid (S.o c.2.1 0) - 1) = 1) ∧ (isOne (S.o c.2.1 0) ∨ S.o c.2.1 0 = 218 → S.o c.2.1 5 = 1)
def STK (S : CS) (s : RS) : List CEL → Int → Int → Int → Prop
  | [], _, _, _ => True
  | c :: L, m, e, k => ∃ m' e' k' : Int, CST S s c m e k m' e' k' ∧ (∀ c0 ∈ L.head?, LNK S c c0 ∧ LOW S s c0) ∧ STK S s L m' e' k'
/-- the labels: x says what a label at the top must have -/
def LBC (S : CS) (s : RS) : List CEL → Int → Prop
  | [], _ => True
  | c :: L, x => if S.o c.2.1 0 = 303 then ((x = -9 ∨ (s.a 46 (ceG c)).toInt = x) ∧ LBC S s L (if x = -1 then -2 else x)) else if S.o c.2.1 0 = 205 ∨ S.o c.2.1 0 = 206 ∨ S.o c.2.1 0 = 207 ∨ S.o c.2.1 0 = 304 then LBC S s L (ceG c) else LBC S s L (-1)
/-- the flag of a goal -/
def flg (s : RS) (g : Nat) (b : Int) : Int32 := if b = 0 then s.a 50 g else s.a 51 g
/-- a record in the range of a try -/
def INR (S : CS) (q : CEL) (i : Nat) : Prop := (S.o q.2.1 14).toInt ≤ (i : Int) ∧ (S.o q.2.1 0 = 216 → (i : Int) < (S.o q.2.1 15).toInt)
def SAF (S : CS) (L : List CEL) (n i : Nat) : Prop := ∀ q ∈ L, isTy (S.o q.2.1 0) → n < q.1 → ¬ INR S q i
def RCD (S : CS) (c : CEL) (b : Int) (i : Nat) : Prop := (i : Int) < (S.i 55).toInt ∧ (S.a 52 i).toInt = 2 * (S.o c.2.1 1).toInt + b ∧ (S.o c.2.1 14).toInt ≤ (i : Int)
def PND (s : RS) (c q : CEL) (b : Int) (k : Nat) : Prop := (k : Int) < (s.i 59).toInt ∧ (s.a 60 k).toInt = (ceG c : Int) ∧ (¬ s.a 61 k = 0 ↔ b = 0) ∧ s.a 62 k = s.a 66 (ceT q)
def JMQ (S : CS) (s : RS) (L : List CEL) (B59 B29 : Int) : Prop :=
  (∀ c ∈ L, isGo (S.o c.2.1 0) → ∀ b : Int, b = 0 ∨ b = 1 → ∀ i : Nat, RCD S c b i → flg s (ceG c) b = 1 ∨ ∃ k : Nat, ∃ q ∈ L, isTy (S.o q.2.1 0) ∧ c.1 < q.1 ∧ PND s c q b k ∧ INR S q i) ∧
  (∀ c ∈ L, isGo (S.o c.2.1 0) → ∀ b : Int, b = 0 ∨ b = 1 → flg s (ceG c) b = 1 → ∃ i : Nat, RCD S c b i ∧ (S.o c.2.1 14).toInt ≤ (i : Int) ∧ SAF S L c.1 i) ∧
  (∀ k : Nat, (k : Int) < (s.i 59).toInt → ∀ q ∈ L, isTy (S.o q.2.1 0) → s.a 62 k = s.a 66 (ceT q) → ∃ c ∈ L, isGo (S.o c.2.1 0) ∧ c.1 < q.1 ∧ ∃ b : Int, (b = 0 ∨ b = 1) ∧ PND s c q b k ∧ ∃ i : Nat, RCD S c b i ∧ INR S q i ∧ SAF S L q.1 i) ∧
  (∀ k : Nat, B59 ≤ (k : Int) → (k : Int) < (s.i 59).toInt → s.a 62 k = -1 ∨ ∃ q ∈ L, isTy (S.o q.2.1 0) ∧ s.a 62 k = s.a 66 (ceT q)) ∧
  (∀ q ∈ L, isTy (S.o q.2.1 0) → B29 ≤ (s.a 66 (ceT q)).toInt) ∧ (∀ q ∈ L, ∀ p ∈ L, isTy (S.o q.2.1 0) → isTy (S.o p.2.1 0) → q.1 < p.1 → (s.a 66 (ceT q)).toInt < (s.a 66 (ceT p)).toInt) ∧
  (∀ c ∈ L, 0 < (S.o c.2.1 1).toInt ∧ (S.o c.2.1 1).toInt ≤ (S.i 54).toInt ∧ 0 ≤ (S.o c.2.1 14).toInt ∧ (S.o c.2.1 14).toInt ≤ (S.i 55).toInt ∧ (S.o c.2.1 0 = 216 → (S.o c.2.1 14).toInt ≤ (S.o c.2.1 15).toInt ∧ (S.o c.2.1 15).toInt ≤ (S.i 55).toInt)) ∧
  ((∀ i : Nat, (i : Int) < (S.i 55).toInt → (∃ c ∈ L, (S.o c.2.1 14).toInt ≤ (i : Int)) → (S.a 52 i).toInt ≤ 2 * (S.i 54).toInt + 1) ∧ (∀ c ∈ L, isGo (S.o c.2.1 0) → ∀ b : Int, flg s (ceG c) b = 0 ∨ flg s (ceG c) b = 1))
end
