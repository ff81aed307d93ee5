/-! both readers: && and ||, whole -/
theorem sx_both {N : Nat} (hN : 1000 ≤ N) {K K2 c sg op o : Int32} {F : Nat} {E : CS → Option (Int32 × CS)} {L : Nat → CS → Int32 → Int32 → Option (Int32 × CS)} (hE : SXN N K2 E) (ko : KOP o op F) (hL : LPB N c o E L) (h0 : ¬ c = 0) (hc : tyR c) (hsg : tm c = sg)
    (hK : ∀ (n : Nat) (s U : RS) (t : Nat), f_X12_parse_10 N n s = some U → tpI s = t → s.i 15 = 0 → s.a 64 t = K → ∃ (m : Nat) (V : RS), f_X12_both N s (s.i 63) K2 sg op = some V ∧ f_X12_parse_10 N m V = some U) : SXN N K (fun S => (E S).bind fun p1 => (f_X1_found N p1.2 c).bind fun p5 => (if p5.1 = 0 then if p1.1 = 0 ∨ p1.1 = 1 then some (p1.1, p5.2) else none else (f_X0_newTarget N p5.2).bind fun p10 => L N p10.2 p10.1 0)) := by
  intro d S s U n t R hv ht hk hs h3 e g
  obtain ⟨p, e1, e2⟩ := hf_bind e
  have h15 := hv.1.2.1
  have en := tp_nat ht
  obtain ⟨m, V, hV, g2⟩ := hK n s U t g ht h15 hk
  have hV' : V = TH s t 1 K2 ∧ t + 1 < 1000 := by
    unfold f_X12_both at hV
    obtain ⟨-, hV⟩ := hf_ite hV
    rw [en, if_pos hs, ob_id] at hV
    exact r_then ht hV
  obtain ⟨hV', t9⟩ := hV'
  rw [hV'] at g2
  have r0 := hv.2.2.2.2.2.2.2.1
  -- a fault stays
  have per : ¬ p.2.i 32 = 0 → ¬ R.2.i 32 = 0 := fun q => by
    by_cases k : p.2.i 43 = c
    · rw [e_fnd1 k, ob_some, if_neg n10] at e2
      obtain ⟨w, ew, e2⟩ := hf_bind e2
      refine hL.2.2 N w.2 w.1 0 R e2 ?_
      rw [(nt_i ew).1]
      exact q
    · rw [e_fnd0 k, ob_some, if_pos rfl] at e2
      obtain ⟨-, e2⟩ := hf_ite e2
      cases e2
      exact q
  rcases hE d S (TH s t 1 K2) U m (t + 1) p hv.th (TH.tp ht (by omega)) TH.fk TH.fs (show 3 ≤ phI s from h3) e1 g2 with ⟨x1, x2⟩ | ⟨m2, u, g3, xo, nb, nv, xc⟩
  · exact Or.inl ⟨per x1, x2⟩
  · obtain ⟨o1, o2, o3, o4, o5, o6, o7, o8, o9⟩ := xo
    have u64 : u.a 64 t = K := by
      rw [(o3 t (by omega)).1, TH.fk0 (Nat.le_refl t)]
      exact hk
    have u65 : u.a 65 t = 1 := by
      rw [(o3 t (by omega)).2.1]
      exact TH.st
    have tu : tpI u = t := by
      rw [o2]
      omega
    have o6' : (s.i 11).toInt + 1 ≤ (u.i 11).toInt := o6
    have o7' : phI s + 1 ≤ phI u := o7
    have o8' : (s.i 17).toInt + 1 ≤ (u.i 17).toInt := o8
    have o9' : u.i 19 = s.i 19 := o9
    have nv' : p.1 = 1 ↔ (s.i 10 = 432 ∧ (u.i 17).toInt = (s.i 17).toInt + 1) := nv
    have hi := i11_hi hv
    by_cases k : p.2.i 43 = c
    · rw [e_fnd1 k, ob_some, if_neg n10] at e2
      obtain ⟨w, ew, e2⟩ := hf_bind e2
      have ew' : f_X0_newTarget N p.2 = some w := ew
      obtain ⟨-, e43, e44, -, -, e21⟩ := nt_i ew'
      have hr := hv.t21
      have r9 := o5.r21
      have k11 := hv.1.2.2.2.1.1
      have q11 := o1.1.2.2.2.1.1
      rw [k11, q11] at r9
      obtain ⟨vw, -, w21⟩ := o1.nt (by omega) ew'
      have h20 : (s.i 20).toInt ≤ (u.i 20).toInt := o4.2.1
      rcases sx_bloop hN hE ko hL h0 hc hsg hK N m2 t d w.1 0 w.2 u U R (phI s + 1) (s.i 20).toInt vw tu u64 (Or.inl u65) o7' (by omega) hv.2.2.2.2.2.2.1 h20 (by decide) (by rw [z_t0]; omega) e2 g3 with z | ⟨m3, u3, y1, y2, y3, y4, y5, y6, y7, y8, y9, y10, y12, y13, y14, y15⟩
      · exact Or.inl z
      · have y13' := y13 (by rw [e43]; exact k)
        have r8 := y13'.2
        rw [w21, e44] at r8
        refine Or.inr ⟨m3, u3, y1, ⟨y2, y3, (TH.frb.tr (o3.mo (by omega))).tr y4, ⟨(TH.tbk.1.tr o4.1).tr y5, (TH.tbk.2.tr o4.2).tr y6⟩, o5.tr (CKX.nt ew' y7 (by omega)), by omega, y9, by omega, y14.trans o9'⟩, Or.inl y12, ?_, ⟨fun cr => ?_, fun z => absurd (y12.symm.trans z) (by decide)⟩⟩
        · rw [y12]
          refine ⟨fun q => absurd q (by decide), fun q => ?_⟩
          have := q.2
          omega
        obtain ⟨b1, b2, b3, b4⟩ := xc.1 cr
        have crp : CRB p.2 := cr.of b1 (by omega) (by omega)
        have q44' : (p.2.i 44).toInt = (u.i 11).toInt := by rw [o1.p44.1]
        have q44 := o1.p44
        obtain ⟨n1, n2, n3, n4, n5, n6, n7, n8⟩ := cd_nt ew' crp.2.1 (by have := crp.2.2; omega)
        have crw : CRB w.2 := cr.of (b1.tr n1) (by omega) (by omega)
        obtain ⟨⟨r1', r1⟩, r2, r3, r4, r5, r6, r7⟩ := y15 crw (by rw [n2]; exact crp.2.1) (by rw [n2]; omega) (fun z => by rw [u65] at z; exact absurd z (by decide))
        have r1 := r1 (by rw [e43]; exact k)
        have su : CD2 (s.i 20).toInt s u := (CD2.qe rfl).tr b3
        have c5 : CD2 (u.i 20).toInt u u3 := ⟨r4.1, fun j hj => ⟨(r5 j hj).1, (r5 j hj).2.2 (fun z => by rw [u65] at z; exact absurd z.1 (by decide)), (r5 j hj).2.1⟩, r4.2.2⟩
        have kT : TBZ s u := TH.tbk.1.tr o4.1
        have cSw : CD1 0 0 S w.2 := (b1.tr n1).wk (by omega) (by omega)
        have tp : CT7 0 (p.2.i 21).toInt p.2 R.2 := fun k k1 k2 => by
          rw [r2 k (by omega) (by rw [n2]; omega)]
          exact n4 0 k k1 k2
        have pS : ((pcC S : Nat) : Int) = (S.i 20).toInt := Int.toNat_of_nonneg cr.1.1
        have pp : ((pcC p.2 : Nat) : Int) = (p.2.i 20).toInt := Int.toNat_of_nonneg crp.1.1
        have pw : pcC w.2 = pcC p.2 := by unfold pcC; rw [n7]
        have l1 := b1.1.1
        have l2 := r1.1.1
        rw [n7] at l2
        have pR : ((pcC R.2 : Nat) : Int) = (R.2.i 20).toInt := Int.toNat_of_nonneg (by have := crp.1.1; omega)
        refine ⟨((b1.tr n1).tr r1).wk (by omega) (by omega), b2.tr (tp.wk (Int.le_refl _) b1.2.2.1), su.tr (c5.wk su.1.1), ?_⟩
        obtain ⟨Ψ1, sat1, b4⟩ := b4
        obtain ⟨Ψ2, sat2, r7⟩ := r7
        refine ⟨_, (sat1.wd (MNO.of (CD1.rf S) (CD2.qe rfl : CD2 0 s (TH s t 1 K2))) (MNO.of n1 (CD2.rf 0 u))).an sat2 (MNO.of cSw su) (MNO.of r1 r4), ?_⟩
        intro FC SF nm X c' h w1 W g0 ps fc fr ng hc hh ty hW hg z
        have wy : (S.i 21).toInt ≤ (p.2.i 21).toInt := b1.2.2.1
        have lR := r1.2.2.1
        have ck := clampI (show 0 ≤ w.1.toInt by rw [n2]; exact crp.2.1)
        have w1i : w.1.toInt = (p.2.i 21).toInt := by rw [n2]
        have fy : cTg SF w.1 = cTg R.2 w.1 := by
          unfold cTg gAt
          have r3' := r3
          unfold cTg gAt at r3'
          have r30 : 0 ≤ (R.2.i 20).toInt := by have := crp.1.1; omega
          have i9 : ib w.1 1024 := ⟨by rw [n2]; exact crp.2.1, by have := crp.2.2; omega⟩
          rw [if_pos i9] at r3'
          rw [fc.2.2 w.1.toNatClampNeg (by omega) (by omega) (Or.inl (by rw [r3']; exact r30))]
        have z1 := (r7 FC SF nm X c' h w1 W ps.2 (fc.sub cSw (CD1.rf R.2) (CT7.rf _ _ R.2)) fy (fr.sub su (CD2.rf 0 u3) (fun _ _ _ => ⟨rfl, rfl, rfl⟩)) (ng.mv hv.2.1.1 cSw su kT.1.2.2.2.1 (fun j hj => (kT.2.1 j hj).2.1) (by rw [o9']; exact Int.le_refl _)) hc (by omega) ty hW z).1
        rw [pw] at z1
        have z2 := b4 FC SF nm X c' h (w1 + (pcC R.2 - pcC p.2)) W g0 ps.1 (fc.sub (CD1.rf S) (n1.tr r1) (tp.wk cr.2.1 (Int.le_refl _))) (fr.sub (CD2.qe rfl : CD2 0 s (TH s t 1 K2)) c5 (c5.c3 (Int.le_refl _))) (ng.mv hv.2.1.1 (CD1.rf S) (CD2.qe rfl : CD2 0 s (TH s t 1 K2)) rfl (fun _ _ => rfl) (Int.le_refl _)) hc hh ty (by omega) hg z1
        rw [show w1 + (pcC R.2 - pcC S) = w1 + (pcC R.2 - pcC p.2) + (pcC p.2 - pcC S) by omega]
        exact z2
    · rw [e_fnd0 k, ob_some, if_pos rfl] at e2
      obtain ⟨-, e2⟩ := hf_ite e2
      cases e2
      obtain ⟨m3, V3, hV3, g4⟩ := hK m2 u U t g3 tu o1.1.2.1 u64
      have is := o1.1.2.2.2.1.is hc hsg
      unfold f_X12_both f_X12_both_41 at hV3
      obtain ⟨-, hV3⟩ := hf_ite hV3
      rw [tp_nat tu, if_neg (by rw [u65]; decide), if_neg (by rw [u65]; decide), if_neg (fun z => k (is.mpr z))] at hV3
      cases hV3
      have kk : ∀ gg : Nat, CDE gg U S (TH s t 1 K2) p.2 u → CDE gg U S s p.2 (RS.setI u 63 ((u.i 63) - 1)) := fun gg xg cr => by
        obtain ⟨b1, b2, b3, b4⟩ := xg cr
        obtain ⟨Ψ1, sat1, b4⟩ := b4
        exact ⟨b1, b2, ((CD2.qe rfl).tr b3).tr (CD2.qe rfl), Ψ1, sat1.wd (MNO.of (CD1.rf S) (CD2.qe rfl : CD2 0 s (TH s t 1 K2))) (MNO.of (CD1.rf p.2) (CD2.qe rfl : CD2 0 u _)), fun FC SF nm X c' h w1 W g0 ps fc fr ng hc hh ty hW hg z => b4 FC SF nm X c' h w1 W g0 ps fc fr ng hc hh ty hW hg z⟩
      exact Or.inr ⟨m3, _, g4, ⟨pop_env o1, tp_sub tu (by omega), (TH.frb.tr (o3.mo (by omega))).tr pop_frb, (TH.tbk.tr o4).tr pop_tbk, o5, o6', o7', o8', o9'⟩, nb, nv', ⟨kk 2 xc.1, fun z => kk 4 (xc.2 z)⟩⟩
theorem e_skip0 {N : Nat} {S : CS} {c : Int32} (h : ¬ S.i 43 = c) : f_X1_skip N S c = some (0, S) := by
  unfold f_X1_skip f_X1_skip_17
  rw [e_fnd0 h, ob_some]
  exact (if_pos rfl).trans (if_pos (Or.inl rfl))
theorem e_skip1 {N : Nat} {S : CS} {c : Int32} {V : Int32 × CS} (h : S.i 43 = c) (e : f_X1_skip N S c = some V) : ∃ p : Unit × CS, f_X9_advance N S = some p ∧ V = (1, p.2) := by
  unfold f_X1_skip f_X1_skip_17 at e
  rw [e_fnd1 h, ob_some, if_neg n10] at e
  obtain ⟨p, e1, e⟩ := hf_bind e
  rw [if_pos (Or.inr rfl)] at e
  cases e
  exact ⟨p, e1, rfl⟩
theorem lpb_conj {N : Nat} {E1 : CS → Option (Unit × CS)} {E2 : CS → Option (Int32 × CS)} (hm1 : ∀ σ, Kf (CS.i σ 32) (E1 σ)) (hm2 : ∀ σ, Kf (CS.i σ 32) (E2 σ)) : LPB N 132 32 E2 (f_X1_conjunction_27 N E1 E2) := by
  refine ⟨fun _ _ _ => rfl, fun n S y x R e => ?_, fun n S y x R e h => by rw [kF_X1_conjunction_27 N E1 E2 hm1 hm2 n S y x R e h]; exact h⟩
  have e' : b_X1_conjunction_27 N E1 E2 (f_X1_conjunction_27 N E1 E2 n) S y x = some R := e
  unfold b_X1_conjunction_27 f_X1_conjunction_65 at e'
  by_cases c9 : (900 : Int32) ≤ x
  · rw [if_pos c9] at e'
    obtain ⟨w, ew, e'⟩ := hf_bind e'
    cases e'
    exact Or.inl ⟨Or.inl c9, w, ew, rfl⟩
  · rw [if_neg c9] at e'
    by_cases c : S.i 43 = 132
    · obtain ⟨v, ev, e'⟩ := hf_bind e'
      obtain ⟨p, ep, hv⟩ := e_skip1 c ev
      rw [hv, if_neg n10] at e'
      obtain ⟨w, ew, e'⟩ := hf_bind e'
      obtain ⟨q, eq, e'⟩ := hf_bind e'
      exact Or.inr ⟨c9, c, p, w, q, ep, ew, eq, e'⟩
    · rw [e_skip0 c, ob_some, if_pos rfl] at e'
      obtain ⟨w, ew, e'⟩ := hf_bind e'
      cases e'
      exact Or.inl ⟨Or.inr c, w, ew, rfl⟩
theorem lpb_cond {N : Nat} {E1 : CS → Option (Unit × CS)} {E2 : CS → Option (Int32 × CS)} (hm1 : ∀ σ, Kf (CS.i σ 32) (E1 σ)) (hm2 : ∀ σ, Kf (CS.i σ 32) (E2 σ)) : LPB N 133 33 (f_X1_conjunction N E1 E2) (f_X1_condition_27 N E1 E2) := by
  refine ⟨fun _ _ _ => rfl, fun n S y x R e => ?_, fun n S y x R e h => by rw [kF_X1_condition_27 N E1 E2 hm1 hm2 n S y x R e h]; exact h⟩
  have e' : b_X1_condition_27 N E1 E2 (f_X1_condition_27 N E1 E2 n) S y x = some R := e
  unfold b_X1_condition_27 f_X1_condition_65 at e'
  by_cases c9 : (900 : Int32) ≤ x
  · rw [if_pos c9] at e'
    obtain ⟨w, ew, e'⟩ := hf_bind e'
    cases e'
    exact Or.inl ⟨Or.inl c9, w, ew, rfl⟩
  · rw [if_neg c9] at e'
    by_cases c : S.i 43 = 133
    · obtain ⟨v, ev, e'⟩ := hf_bind e'
      obtain ⟨p, ep, hv⟩ := e_skip1 c ev
      rw [hv, if_neg n10] at e'
      obtain ⟨w, ew, e'⟩ := hf_bind e'
      obtain ⟨q, eq, e'⟩ := hf_bind e'
      exact Or.inr ⟨c9, c, p, w, q, ep, ew, eq, e'⟩
    · rw [e_skip0 c, ob_some, if_pos rfl] at e'
      obtain ⟨w, ew, e'⟩ := hf_bind e'
      cases e'
      exact Or.inl ⟨Or.inr c, w, ew, rfl⟩
theorem sx_conjunction {N : Nat} (hN : 1000 ≤ N) {E1 : CS → Option (Unit × CS)} {E2 : CS → Option (Int32 × CS)} (hm1 : ∀ σ, Kf (CS.i σ 32) (E1 σ)) (hm2 : ∀ σ, Kf (CS.i σ 32) (E2 σ)) (hE : SXN N 22 E2) : SXN N 21 (f_X1_conjunction N E1 E2) := sx_both hN (sg := 304) (op := 12) hE (Or.inl ⟨rfl, rfl, rfl⟩) (lpb_conj hm1 hm2) (by decide) (Or.inl ⟨by decide, by decide⟩) (by decide) (fun n s U t g ht h15 hk => rl_21 g ht h15 hk)
theorem sx_condition {N : Nat} (hN : 1000 ≤ N) {E1 : CS → Option (Unit × CS)} {E2 : CS → Option (Int32 × CS)} (hm1 : ∀ σ, Kf (CS.i σ 32) (E1 σ)) (hm2 : ∀ σ, Kf (CS.i σ 32) (E2 σ)) (hE : SXN N 22 E2) : SXN N 20 (f_X1_condition N E1 E2) := sx_both hN (sg := 305) (op := 11) (sx_conjunction hN hm1 hm2 hE) (Or.inr ⟨rfl, rfl, rfl⟩) (lpb_cond hm1 hm2) (by decide) (Or.inl ⟨by decide, by decide⟩) (by decide) (fun n s U t g ht h15 hk => rl_20 g ht h15 hk)
