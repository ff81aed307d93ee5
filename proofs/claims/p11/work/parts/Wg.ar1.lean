/-! both readers: one arm, behind its numbers -/
theorem y_need {N : Nat} (hN : 1000 ≤ N) {dl : Int32} {S : CS} {s : RS} {R : Unit × CS} {V : Int32 × RS} {c d : Int32} (h : ENV dl S s) (hc : tyR c) (hd : tm c = d) (h6 : ¬ d = 6) (h0 : ¬ c = 0) (e : f_X1_expect N S c = some R) (g : f_X12_need N s d = some V) : (V.1 = 0 ∧ ¬ R.2.i 32 = 0 ∧ ¬ V.2.i 15 = 0) ∨ (V.1 = 1 ∧ S.i 43 = c ∧ ENV dl R.2 V.2 ∧ qj V.2 = qj s ∧ pj R.2 = pj S ∧ V.2.i 17 = s.i 17 + 1 ∧ (s.i 11).toInt + 1 ≤ (V.2.i 11).toInt ∧ V.2.i 20 = s.i 20 ∧ V.2.a 22 = s.a 22 ∧ R.2.i 22 = S.i 22 ∧ A18 S R.2 ∧ V.2.i 19 = s.i 19) := by
  have is := h.1.2.2.2.1.is hc hd
  have h15 := h.1.2.1
  unfold f_X1_expect at e
  unfold f_X12_need f_X12_need_27 f_X12_need_31 at g
  rw [if_pos h15] at g
  by_cases k : S.i 43 = c
  · have k' := is.mp k
    rw [e_fnd1 k, ob_some, if_neg n10] at e
    rw [if_pos k', y_can1 h15 (by rw [k']; exact h6), ob_some, if_neg n10] at g
    obtain ⟨p, ep, e⟩ := hf_bind e
    obtain ⟨q, gq, g⟩ := hf_bind g
    have nx := h.adv hN (fun z => h0 (k.symm.trans z)) ep gq
    rw [if_pos nx.1.1.2.1] at g
    cases e
    cases g
    exact Or.inr ⟨rfl, k, nx⟩
  · have k' : ¬ s.i 10 = d := fun q => k (is.mpr q)
    rw [e_fnd0 k, ob_some, if_pos rfl] at e
    rw [if_neg k'] at g
    obtain ⟨p, ep, e⟩ := hf_bind e
    obtain ⟨q, gq, g⟩ := hf_bind g
    obtain ⟨q1, q2⟩ := y_can0 gq
    rw [if_pos q1, if_neg q2] at g
    cases e
    cases g
    exact Or.inl ⟨rfl, y_misp ep, q2⟩
/-- an arm is done in both -/
def AXO (d : Int32) (t : Nat) (S : CS) (s : RS) (R : CS) (u : RS) : Prop := ENV d R u ∧ tpI u = (t : Int) ∧ (u.a 64 t = 19 ∧ u.a 65 t = 2 ∧ u.a 66 t = s.a 66 t ∧ u.a 67 t = s.a 67 t ∧ u.a 68 t = s.a 68 t) ∧ FRB t s u ∧ TBK s u ∧ CKX S R ∧ (s.i 11).toInt + 1 ≤ (u.i 11).toInt ∧ phI s + 1 ≤ phI u ∧ (s.i 17).toInt + 1 ≤ (u.i 17).toInt ∧ u.i 19 = s.i 19
/-- an arm's row can be paid, its goal stands on top -/
def GAR (S : CS) (s : RS) : Prop := SGS S (cnI S).toNat + 1 ≤ sgI S ∧ WCS S (cnI S).toNat + 9 ≤ (s.i 11).toInt ∧ 0 < (s.i 43).toInt ∧ s.a 44 ((s.i 43).toInt - 1).toNat = 3 ∧ (S.i 21).toInt ≤ 3 * (s.i 11).toInt ∧ (S.i 54).toInt ≤ (s.i 11).toInt
theorem GAR.mv {S R : CS} {s u : RS} (h : GAR S s) (w : RWI S) (ck : CKX S R) (e34 : R.i 34 = S.i 34) (tb : TBZ s u) (h11 : (s.i 11).toInt ≤ (u.i 11).toInt) (e21 : R.i 21 = S.i 21) (e54 : R.i 54 = S.i 54) : GAR R u := by
  obtain ⟨h1, h2, h3, h4, h5⟩ := h
  obtain ⟨q1, q2⟩ := ck.sum w
  have e43 : u.i 43 = s.i 43 := tb.1.2.2.2.2.1
  refine ⟨by rw [q1]; unfold sgI at *; rw [e34]; exact h1, by rw [q2]; omega, by rw [e43]; exact h3, ?_, by rw [e21]; omega, by rw [e54]; omega⟩
  rw [e43, (tb.2.2.1 _ (by omega)).1]
  exact h4
/-- behind the arms all is good -/
def EXG (FC : Nat → Prop) (SF : CS) (U : RS) (nm : Nat → Nat → Prop) (X : Als) (x3 : Int32) (q0 h we : Nat) (c : List Ent) : Prop := ∃ pe qe : Nat, (cTg SF x3).toInt = (pe : Int) ∧ (U.a 23 q0).toInt = (qe : Int) ∧ GU FC SF U nm X pe qe (h + 1) we 0 c ∧ 0 ≤ x3.toInt ∧ x3.toInt ≤ 5000
/-- an arm's code: from its first place on all is good, if it is behind the arms -/
def ARC (x3 : Int32) (q0 : Nat) (U : RS) (S : CS) (s : RS) (R : CS) (u : RS) : Prop := ∃ Ψ : GPS, SAT Ψ S s R u ∧ ∀ (FC : Nat → Prop) (SF : CS) (nm : Nat → Nat → Prop) (X : Als) (c : List Ent) (h w W we g0 : Nat), Ψ FC nm → FGC S R SF → FGR s u U → NMG nm ((5, h, q0, 0, 0, 0, 0) :: c) S s → HC0 nm h c → ((2 * h + msr c : Nat) : Int) + 2 ≤ (s.i 11).toInt → TYC SF U (GU FC SF U nm X) W c → W + 1 ≤ w → we ≤ w → EXG FC SF U nm X x3 q0 h we c → g0 ≤ 1 → GU FC SF U nm X (pcC S) (pcR s) h (w + (pcC R - pcC S)) g0 ((5, h, q0, 0, 0, 0, 0) :: c)
theorem ARC.pre {x3 : Int32} {q0 : Nat} {U : RS} {S A R : CS} {s q u : RS} {d e c' : Int} (h : ARC x3 q0 U A q R u) (x : CD1 d e S A) (y : CD2 c' s q) (pC : pcC A = pcC S) (pR : pcR q = pcR s) (n : S.i 50 = s.i 38) (e38 : q.i 38 = s.i 38) (a40 : ∀ j : Nat, (j : Int) < (s.i 38).toInt → q.a 40 j = s.a 40 j) (l : (s.i 11).toInt ≤ (q.i 11).toInt) (l19 : (s.i 19).toInt ≤ (q.i 19).toInt) : ARC x3 q0 U S s R u := by
  obtain ⟨Ψ, sat, h⟩ := h
  refine ⟨Ψ, sat.wd (MNO.of x y) (MNO.of (CD1.rf R) (CD2.rf 0 u)), fun FC SF nm X c h' w W we g0 ps fc fr ng hc hh ty hW hE ex hg => ?_⟩
  have z := h FC SF nm X c h' w W we g0 ps (fc.sub x (CD1.rf R) (CT7.rf _ _ R)) (fr.sub y (CD2.rf 0 u) (fun _ _ _ => ⟨rfl, rfl, rfl⟩)) (ng.mv n x y e38 a40 l19) hc (by omega) ty hW hE ex hg
  rw [pC, pR] at z
  exact z
theorem gs_are {FC : Nat → Prop} {s0 : CS} {r0 : RS} {nm : Nat → Nat → Prop} {X : Als} {p q h w g pe qe we : Nat} {a : Ent} {c : List Ent} (pq : PQX s0 r0 p q) (k : HC0 nm h (a :: c)) (e1 : s0.a 15 p = 30) (e2 : r0.a 21 q = 30) (ea : a.k = 5) (ht : (cTg s0 (s0.a 16 p)).toInt = (pe : Int)) (hx : (r0.a 23 a.x).toInt = (qe : Int)) (l : we + 1 ≤ w) (z : GU FC s0 r0 nm X pe qe h we 0 c) : GU FC s0 r0 nm X p q h w g (a :: c) := gi_UAre (pq.hc k) pq.2.1 ⟨e1, e2, a, c, rfl, ea, pe, qe, we, ⟨ht, hx⟩, l, z⟩
theorem HC0.arm {nm : Nat → Nat → Prop} {h q : Nat} {c : List Ent} (z : HC0 nm h c) : HC0 nm h ((5, h, q, 0, 0, 0, 0) :: c) := by
  obtain ⟨z1, z2, z3, z4⟩ := z
  refine ⟨⟨fun k y => ?_, fun l y => ?_, z1⟩, z2, z3, fun e he => ?_⟩
  · rcases y with ⟨y, -⟩ | ⟨y, -⟩ <;> exact absurd (show (5 : Nat) = _ from y) (by decide)
  · exact absurd (show (5 : Nat) = 2 from y.1) (by decide)
  · rcases List.mem_cons.mp he with rfl | he
    · exact Nat.le_refl _
    · exact z4 e he
theorem TYC.arm {SF : CS} {U : RS} {AL : Als} {W h q : Nat} {c : List Ent} (z : TYC SF U AL W c) : TYC SF U AL W ((5, h, q, 0, 0, 0, 0) :: c) := ⟨fun y => absurd (show (5 : Nat) = 1 from y) (by decide), fun y => y.elim (fun y => absurd (show (5 : Nat) = 1 from y) (by decide)) (fun y => absurd (show (5 : Nat) = 2 from y) (by decide)), z⟩
/-- the goal on top was made at this depth -/
def G47 (s : RS) : Prop := 0 < (s.i 43).toInt ∧ s.a 47 ((s.i 43).toInt - 1).toNat = s.i 52
theorem G47.mv {s u : RS} (h : G47 s) (tb : TBZ s u) (e52 : u.i 52 = s.i 52) : G47 u := by
  have e43 : u.i 43 = s.i 43 := tb.1.2.2.2.2.1
  have h0 := h.1
  refine ⟨by rw [e43]; exact h0, ?_⟩
  rw [e43, (tb.2.2.1 _ (by omega)).2.2.2.1, e52]
  exact h.2
/-- the code of an arm's block -/
def ABD (x3 : Int32) (t : Nat) (U : RS) (S : CS) (s : RS) (R : CS) (u : RS) : Prop := ∀ q0 : Nat, (s.a 66 t).toInt = (q0 : Int) → CRB S → G47 s → CD1 0 (-1) S R ∧ CT7 0 (S.i 21).toInt S R ∧ CD2 (s.i 20).toInt s u ∧ ARC x3 q0 U S s R u
/-- the code of an arm, with its target x4 -/
def ACD (x3 x4 : Int32) (t : Nat) (U : RS) (S : CS) (s : RS) (R : CS) (u : RS) : Prop := ∀ q0 : Nat, (s.a 66 t).toInt = (q0 : Int) → CRB S → G47 s → 0 ≤ x4.toInt → x4.toInt < (S.i 21).toInt → CD1 0 (-1) S R ∧ (∀ k : Nat, (k : Int) < (S.i 21).toInt → ¬ (k : Int) = x4.toInt → R.a 17 k = S.a 17 k) ∧ cTg R x4 = S.i 20 ∧ CD2 (s.i 20).toInt s u ∧ ARC x3 q0 U S s R u
/-- what the block of an arm must do -/
def ABK (N : Nat) (A : CS → Int32 → Option (Unit × CS)) : Prop := ∀ (d x : Int32) (S : CS) (s V U : RS) (n t : Nat) (R : Unit × CS), ENV d S s → GAR S s → tpI s = t → s.a 64 t = 19 → S.i 43 = 123 → 3 ≤ phI s → A S x = some R → ((f_X12_open N s 123).bind fun p65 => (f_X12_then N (RS.setA p65.2 71 t (p65.2.i 38)) 6 1).bind fun p67 => some p67) = some V → f_X12_parse_10 N n V = some U → (¬ R.2.i 32 = 0 ∧ ¬ U.i 15 = 0) ∨ ∃ (m : Nat) (u : RS), f_X12_parse_10 N m u = some U ∧ AXO d t S s R.2 u ∧ ABD x t U S s R.2 u
theorem qj_63 {s u : RS} {t : Nat} (h : qj u = qj s) (ht : tpI s = t) : tpI u = t := by
  have r1 : u.i 63 = s.i 63 := congrArg (fun v : QJT => v.1.2.2.2.2.2.2.2.2.2.2.2.2.2.2.2.2.1) h
  show (u.i 63).toInt = (t : Int)
  rw [r1]
  exact ht
theorem y_arm100 {N : Nat} (hN : 1000 ≤ N) {E1 : CS → Option (Unit × CS)} {E2 : CS → Option (Int32 × CS)} (hm1 : ∀ σ, Kf (CS.i σ 32) (E1 σ)) (hm2 : ∀ σ, Kf (CS.i σ 32) (E2 σ)) (hE : SXR N 18 E1) (hB : ABK N (f_X7_armBlock N E1 E2)) {d : Int32} {S : CS} {s U : RS} {n t : Nat} {R : Int32 × CS} {x3 x4 x5 : Int32} (hv : ENV d S s) (hG : GAR S s) (ht : tpI s = t) (hk : s.a 64 t = 19) (hs : s.a 65 t = 5) (e : f_X1_arm_100 N E1 E2 S x3 x4 x5 = some R) (g : f_X12_parse_10 N n s = some U) : (¬ R.2.i 32 = 0 ∧ ¬ U.i 15 = 0) ∨ ∃ (m : Nat) (u : RS), f_X12_parse_10 N m u = some U ∧ AXO d t S s R.2 u ∧ R.1 = x5 ∧ ACD x3 x4 t U S s R.2 u := by
  obtain ⟨m, V, hV, g2⟩ := rl_19 g ht hv.1.2.1 hk
  have ph0 := hv.2.2.2.2.2.2.2.1
  unfold f_X12_arms at hV
  obtain ⟨hib, hV⟩ := hf_ite hV
  rw [tp_nat ht, if_neg (show ¬ s.a 65 t = 0 by rw [hs]; decide), if_neg (show ¬ s.a 65 t = 1 by rw [hs]; decide), if_neg (show ¬ s.a 65 t = 2 by rw [hs]; decide), if_neg (show ¬ s.a 65 t = 3 by rw [hs]; decide), if_neg (show ¬ s.a 65 t = 4 by rw [hs]; decide), if_pos hs] at hV
  unfold f_X1_arm_100 f_X1_arm_153 at e
  obtain ⟨p, e1, e⟩ := hf_bind e
  obtain ⟨a, e2, e⟩ := hf_bind e
  obtain ⟨q, hq, hV⟩ := hf_bind hV
  have ka := kd_X0_aim N p.2 x4 a e2
  have kp := pj2_eq ka
  have per : ¬ a.2.i 32 = 0 → ¬ R.2.i 32 = 0 := fun z => by
    by_cases c : a.2.i 43 = 123
    · rw [e_fnd1 c, ob_some, if_neg n10] at e
      obtain ⟨b, eb, e⟩ := hf_bind e
      cases e
      show ¬ b.2.i 32 = 0
      rw [kF_X7_armBlock N E1 E2 hm1 hm2 a.2 x3 b eb z]
      exact z
    · rw [e_fnd0 c, ob_some, if_pos rfl] at e
      obtain ⟨x, ex, e⟩ := hf_bind e
      obtain ⟨y, ey, e⟩ := hf_bind e
      obtain ⟨w, ew, e⟩ := hf_bind e
      cases e
      have z1 : ¬ x.2.i 32 = 0 := by rw [kF_X1_expression N E1 E2 hm1 hm2 a.2 x ex z]; exact z
      have z2 : ¬ y.2.i 32 = 0 := by rw [kF_X1_expect N x.2 59 y ey z1]; exact z1
      show ¬ w.2.i 32 = 0
      rw [fst_add ew]
      exact z2
  rcases y_need hN hv (c := 134) (d := 306) (Or.inl ⟨by decide, by decide⟩) (by decide) (by decide) (by decide) e1 hq with ⟨o1, o2, o3⟩ | ⟨o1, o2, o3, o4, o5, o6, o7, o8, o9, o10, o11, o12⟩
  · rw [if_neg o3] at hV
    unfold f_X12_arms_400 at hV
    rw [ob_id] at hV
    exact Or.inl ⟨per (by rw [kp.2.1]; exact o2), u_flt g2 (krf_f_X12_then N q.2 7 16 V hV o3)⟩
  · rw [if_pos o3.1.2.1] at hV
    have oa := o3.kd ka
    have tq := qj_63 o4 ht
    have fq : FRB (t + 1) s q.2 := FRB.of o4
    have fqt := fq t (by omega)
    have q64 : q.2.a 64 t = 19 := fqt.1.trans hk
    have i123 := tk_is oa (a := 123) (b := 123) (Or.inl ⟨by decide, by decide⟩) (by decide)
    have t17 : (q.2.i 17).toInt = (s.i 17).toInt + 1 := by rw [o6]; exact t17_up (N := N) hv
    have pq : phI q.2 = phI s + 3 := by
      unfold phI
      rw [o8, t17]
      omega
    have cka : CKX S a.2 := (CKX.of o5 o10 o11).tr (CKX.of kp.1 kp.2.2.2.2.1 kp.2.2.2.2.2.2.2.2.2.2.2)
    have tbq : TBK s q.2 := TBK.of o4 (by rw [o8]; exact Int.le_refl _) (fun j _ => by rw [o9])
    have q44 : (S.i 44).toInt = (s.i 11).toInt := by rw [hv.p44.1]
    have q44' := hv.p44
    have pre : ∀ q0 : Nat, (s.a 66 t).toInt = (q0 : Int) → CRB S → G47 s → 0 ≤ x4.toInt → x4.toInt < (S.i 21).toInt → ∀ (R : CS) (u : RS), (CRB a.2 → G47 q.2 → CD1 0 (-1) a.2 R ∧ CT7 0 (a.2.i 21).toInt a.2 R ∧ CD2 (q.2.i 20).toInt q.2 u ∧ ARC x3 q0 U a.2 q.2 R u) → CD1 0 (-1) S R ∧ (∀ k : Nat, (k : Int) < (S.i 21).toInt → ¬ (k : Int) = x4.toInt → R.a 17 k = S.a 17 k) ∧ cTg R x4 = S.i 20 ∧ CD2 (s.i 20).toInt s u ∧ ARC x3 q0 U S s R u := fun q0 h66 cr g47 y0 y1 R u hA => by
      obtain ⟨a1, a2, a3, a4, a5, a6⟩ := tok_cd hv o3 o5 (ke_X1_expect N S 134 p e1) (kre_f_X12_need N s 306 q hq) o7
      have crp : CRB p.2 := cr.of a1 (by omega) (by omega)
      obtain ⟨b1, b2, b3, b4, b5, b6, b7, b8⟩ := cd_aim e2 y0 (by have := cr.2.2; omega)
      have cra : CRB a.2 := crp.of b1 (by omega) (by omega)
      have i21 : a.2.i 21 = S.i 21 := b7.trans a5
      obtain ⟨c1, c2, c3, c4⟩ := hA cra (g47.mv tbq.1 (a3 0).1.2.2.2.2.2)
      rw [i21] at c2
      refine ⟨((a1.tr b1).tr c1).wk (by omega) (by omega), fun k k1 k2 => ?_, ?_, (a3 _).tr (c3.wk (by rw [a6]; exact Int.le_refl _)), c4.pre (a1.tr b1) (a3 0) (by unfold pcC; rw [b6, a4]) (by unfold pcR; rw [a6]) hv.2.1.1 tbq.1.1.2.2.2.1 (fun j hj => (tbq.1.2.1 j hj).2.1) (by omega) (by rw [o12]; exact Int.le_refl _)⟩
      · rw [c2 k (by omega) k1, b2 k k2]
        exact a2 0 (S.i 21).toInt k (by omega) k1
      · have i9 : ib x4 1024 := ⟨y0, by have := cr.2.2; omega⟩
        have ck := clampI y0
        rw [← a4, ← b3]
        unfold cTg gAt
        rw [if_pos i9, if_pos i9]
        exact c2 _ (by omega) (by omega)
    by_cases c : a.2.i 43 = 123
    · rw [if_pos (i123.mp c)] at hV
      rw [e_fnd1 c, ob_some, if_neg n10] at e
      obtain ⟨b, eb, e⟩ := hf_bind e
      cases e
      rcases hB d x3 a.2 q.2 V U m t b oa (hG.mv hv.ri cka (by rw [oa.2.2.1.1, o12, hv.2.2.1.1]) tbq.1 (by omega) ((pj_21 kp.1).trans (pj_21 o5)) ((pj_54 kp.1).trans (pj_54 o5))) tq q64 c (by omega) eb hV g2 with z | ⟨m2, u, g3, ⟨w1, w2, ⟨w31, w32, w33, w34, w35⟩, w4, w5, w6, w7, w8, w9, w10⟩, abd⟩
      · exact Or.inl z
      · refine Or.inr ⟨m2, u, g3, ⟨w1, w2, ⟨w31, w32, w33.trans fqt.2.2.1, w34.trans fqt.2.2.2.1, w35.trans fqt.2.2.2.2.1⟩, (FRB.of o4).tr w4, tbq.tr w5, cka.tr w6, by omega, by omega, by omega, w10.trans o12⟩, rfl, fun q0 h66 cr g47 y0 y1 => ?_⟩
        exact pre q0 h66 cr g47 y0 y1 b.2 u (fun cra g47' => abd q0 (by rw [fqt.2.2.1]; exact h66) cra g47')
    · rw [if_neg (fun z => c (i123.mpr z))] at hV
      unfold f_X12_arms_400 at hV
      rw [ob_id] at hV
      rw [e_fnd0 c, ob_some, if_pos rfl] at e
      obtain ⟨x, ex, e⟩ := hf_bind e
      obtain ⟨y, ey, e⟩ := hf_bind e
      obtain ⟨w, ew, e⟩ := hf_bind e
      cases e
      obtain ⟨hV', t99⟩ := r_then tq hV
      rw [hV'] at g2
      rcases sx_expression hN hm1 hm2 hE d a.2 (TH q.2 t 7 16) U m (t + 1) x oa.th (TH.tp tq (by omega)) TH.fk TH.fs (show 3 ≤ phI q.2 by omega) ex g2 with ⟨x1, x2⟩ | ⟨m2, u, g3, xo, xc⟩
      · refine Or.inl ⟨?_, x2⟩
        show ¬ w.2.i 32 = 0
        rw [fst_add ew, kF_X1_expect N x.2 59 y ey x1]
        exact x1
      · obtain ⟨w1, w2, w3, w4, w5, w6, w7, w8, w9⟩ := xo
        have fut := w3 t (by omega)
        have u64 : u.a 64 t = 19 := by
          rw [fut.1, TH.fk0 (Nat.le_refl t)]
          exact q64
        have u65 : u.a 65 t = 7 := by
          rw [fut.2.1]
          exact TH.st
        have tu : tpI u = t := by
          rw [w2]
          omega
        have w6' : (q.2.i 11).toInt + 1 ≤ (u.i 11).toInt := w6
        have w7' : phI q.2 + 1 ≤ phI u := w7
        have w8' : (q.2.i 17).toInt + 1 ≤ (u.i 17).toInt := w8
        have w9' : u.i 19 = q.2.i 19 := w9
        obtain ⟨m3, V3, hV3, g4⟩ := rl_19 g3 tu w1.1.2.1 u64
        unfold f_X12_arms at hV3
        obtain ⟨-, hV3⟩ := hf_ite hV3
        rw [tp_nat tu, if_neg (show ¬ u.a 65 t = 0 by rw [u65]; decide), if_neg (show ¬ u.a 65 t = 1 by rw [u65]; decide), if_neg (show ¬ u.a 65 t = 2 by rw [u65]; decide), if_neg (show ¬ u.a 65 t = 3 by rw [u65]; decide), if_neg (show ¬ u.a 65 t = 4 by rw [u65]; decide), if_neg (show ¬ u.a 65 t = 5 by rw [u65]; decide), if_neg (show ¬ u.a 65 t = 6 by rw [u65]; decide)] at hV3
        obtain ⟨z, hz, hV3⟩ := hf_bind hV3
        obtain ⟨y2, hy2, hV3⟩ := hf_bind hV3
        cases hV3
        rcases y_need hN w1 (c := 59) (d := 59) (Or.inl ⟨by decide, by decide⟩) (by decide) (by decide) (by decide) ey hz with ⟨b1, b2, b3⟩ | ⟨b1, b2, b3, b4, b5, b6, b7, b8, b9, b10, b11, b12⟩
        · refine Or.inl ⟨?_, u_flt g4 (show ¬ y2.2.i 15 = 0 from krf_f_X12_emit N z.2 30 0 y2 hy2 b3)⟩
          show ¬ w.2.i 32 = 0
          rw [fst_add ew]
          exact b2
        · have z17 : (z.2.i 17).toInt = (u.i 17).toInt + 1 := by rw [b6]; exact t17_up (N := N) w1
          have pz : phI z.2 = phI u + 3 := by
            unfold phI
            rw [b8, z17]
            omega
          obtain ⟨n1, n2, n3, n4, n5, n6⟩ := em_env b3 (by omega) hy2
          have kw := kd_X0_add N y.2 30 x3 w ew
          have kwp := pj2_eq kw
          have nq := qj2_eq n3
          have ty : tpI y2.2 = t := qj_63 nq.1 (qj_63 b4 tu)
          have fz : FRB (t + 1) u z.2 := FRB.of b4
          have fy : FRB (t + 1) z.2 y2.2 := FRB.of nq.1
          have fzt := fz t (by omega)
          have fyt := fy t (by omega)
          have fin : ∀ k : Nat, ¬ k = 65 → (RS.setA y2.2 65 t 2).a k t = y2.2.a k t := fun k hk => by
            show (if k = 65 then upd (y2.2.a 65) t 2 else y2.2.a k) t = y2.2.a k t
            rw [if_neg hk]
          have e65 : (RS.setA y2.2 65 t 2).a 65 t = 2 := by
            show upd (y2.2.a 65) t 2 t = 2
            exact if_pos rfl
          have tb : TBK y2.2 (RS.setA y2.2 65 t 2) := ⟨setA_tb0 (Or.inr (by omega)), Int.le_refl _, fun _ _ => rfl⟩
          refine Or.inr ⟨m3, _, g4, ⟨setA_env (Or.inr (by omega)) (n1.kd kw), ty, ⟨?_, e65, ?_, ?_, ?_⟩, ?_, (((tbq.tr TH.tbk).tr w4).tr (TBK.of b4 (by rw [b8]; exact Int.le_refl _) (fun j _ => by rw [b9]))).tr (n2.tr tb), ((cka.tr w5).tr (CKX.of b5 b10 b11)).tr (CKX.of kwp.1 kwp.2.2.2.2.1 kwp.2.2.2.2.2.2.2.2.2.2.2), ?_, ?_, ?_, ?_⟩, rfl, fun q0 h66 cr g47 y0 y1 => pre q0 h66 cr g47 y0 y1 w.2 _ (fun cra _ => ?_)⟩
          · rw [fin 64 (by decide), fyt.1, fzt.1]
            exact u64
          · rw [fin 66 (by decide), fyt.2.2.1, fzt.2.2.1, fut.2.2.1]
            exact fqt.2.2.1
          · rw [fin 67 (by decide), fyt.2.2.2.1, fzt.2.2.2.1, fut.2.2.2.1]
            exact fqt.2.2.2.1
          · rw [fin 68 (by decide), fyt.2.2.2.2.1, fzt.2.2.2.2.1, fut.2.2.2.2.1]
            exact fqt.2.2.2.2.1
          · exact (((((FRB.of o4).tr TH.frb).tr (w3.mo (by omega))).tr (FRB.of b4)).tr (FRB.of nq.1)).tr (setA_frb (Or.inr ⟨by omega, by omega, Nat.le_refl _⟩))
          · show (s.i 11).toInt + 1 ≤ (y2.2.i 11).toInt
            rw [nq.2.2.1]
            omega
          · show phI s + 1 ≤ phI y2.2
            omega
          · show (s.i 17).toInt + 1 ≤ (y2.2.i 17).toInt
            rw [nq.2.2.2.2.2.2.2.1]
            omega
          · show y2.2.i 19 = s.i 19
            rw [nq.2.2.2.2.2.2.2.2.1, b12, w9', o12]
          · obtain ⟨f1, f2, f3, f4⟩ := xc cra
            have crx : CRB x.2 := cra.of f1 (by omega) (by omega)
            obtain ⟨j1, j2, j3, j4, j5, j6⟩ := tok_cd w1 b3 b5 (ke_X1_expect N x.2 59 y ey) (kre_f_X12_need N u 59 z hz) b7
            have cry : CRB y.2 := crx.of j1 (by omega) (by omega)
            have y44 := b3.p44
            have y44' : (y.2.i 44).toInt = (z.2.i 11).toInt := by rw [y44.1]
            obtain ⟨d1, d2, ⟨d3, d3'⟩, d4, d5, d6⟩ := cd_add ew cry.1.1 (by have := cry.1.2; omega)
            have p20 := b3.p20
            obtain ⟨m1, -, m3e, m4e, -, -⟩ := cd_emit hy2 p20.1 (by omega)
            have sT : CD2 (q.2.i 20).toInt q.2 (TH q.2 t 7 16) := CD2.qe rfl
            have su : CD2 (q.2.i 20).toInt q.2 u := sT.tr f3
            have uz : CD2 (u.i 20).toInt u (RS.setA y2.2 65 t 2) := ((j3 _).tr (m1.wk (by rw [j6]; exact Int.le_refl _))).tr (CD2.qe rfl)
            have cxw : CD1 0 (-1) x.2 w.2 := (j1.tr d1).wk (by omega) (by omega)
            have txw : ∀ a b : Int, CT7 a b x.2 w.2 := fun a b => (j2 a b).tr (CT7.eq d4)
            obtain ⟨Ψ1, sat1, f4⟩ := f4
            refine ⟨(f1.tr cxw).wk (by omega) (by omega), f2.tr (txw _ _), su.tr (uz.wk su.1.1), Ψ1, sat1.wd (MNO.of (CD1.rf a.2) sT) (MNO.of cxw uz), ?_⟩
            intro FC SF nm X c h w0 W we g0 ps fc fr ng hc hh ty hW hE ex _
            obtain ⟨pe', qe', ex1, ex2, ex3, -⟩ := ex
            have pai : ((pcC a.2 : Nat) : Int) = (a.2.i 20).toInt := Int.toNat_of_nonneg cra.1.1
            have pxi : ((pcC x.2 : Nat) : Int) = (x.2.i 20).toInt := Int.toNat_of_nonneg crx.1.1
            have pyi : pcC y.2 = pcC x.2 := by unfold pcC; rw [j4]
            have p20u := w1.p20
            have pui : ((pcR u : Nat) : Int) = (u.i 20).toInt := Int.toNat_of_nonneg p20u.1
            have pzi : pcR z.2 = pcR u := by unfold pcR; rw [j6]
            have lax := f1.1.1
            have pw : pcC w.2 = pcC x.2 + 1 := by
              rw [← pyi]
              unfold pcC
              rw [d2]
              have := cry.1.1
              omega
            have f15 := fc.2.1 (pcC x.2) (by omega) (by rw [d2, j4]; omega)
            rw [pyi] at d3 d3'
            rw [pzi] at m4e
            have lsu := su.1.1
            have u21 := fr.2.1 (pcR u) (by omega) (by show _ < (y2.2.i 20).toInt; rw [m3e, j6]; omega)
            have fr1 : (y2.2.i 20).toInt ≤ (U.i 20).toInt := fr.1.2.1
            rw [m3e, j6] at fr1
            have plt : pcC x.2 < 1200 := by
              have x44 : (x.2.i 44).toInt = (u.i 11).toInt := by rw [w1.p44.1]
              have := crx.1.2
              have := w1.p44
              omega
            have pq9 : PQX SF U (pcC x.2) (pcR u) := ⟨plt, by omega, fr.1.2.2⟩
            have z0 := gs_are (g := 0) (w := w0 + 1) (a := (5, h, q0, 0, 0, 0, 0)) pq9 (hc.arm.up (by omega)) (by rw [f15.1]; exact d3) (by rw [u21.1]; exact m4e) rfl (by rw [f15.2, d3']; exact ex1) ex2 (by omega) ex3
            have z1 := f4 FC SF nm X ((5, h, q0, 0, 0, 0, 0) :: c) h (w0 + 1) W g0 ps (fc.sub (CD1.rf a.2) cxw (txw _ _)) (fr.sub sT uz (uz.c3 (Int.le_refl _))) (ng.mv oa.2.1.1 (CD1.rf a.2) sT rfl (fun _ _ => rfl) (Int.le_refl _)) hc.arm (show ((2 * h + 0 + msr ((5, h, q0, 0, 0, 0, 0) :: c) : Nat) : Int) ≤ (q.2.i 11).toInt by rw [msr_arm]; omega) ty.arm (by omega) True.intro z0
            rw [pw, show w0 + (pcC x.2 + 1 - pcC a.2) = w0 + 1 + (pcC x.2 - pcC a.2) by omega]
            exact z1
