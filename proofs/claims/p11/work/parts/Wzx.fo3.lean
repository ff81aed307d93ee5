/-! both readers: for, from its first ; -/
def JTT : JKT := fun _ _ _ _ _ _ _ => True
set_option maxHeartbeats 4000000 in
theorem fo_three {N : Nat} (hN : 1000 ≤ N) {E1 : CS → Option (Unit × CS)} {E2 : CS → Option (Int32 × CS)} (hm1 : ∀ σ, Kf (CS.i σ 32) (E1 σ)) (hm2 : ∀ σ, Kf (CS.i σ 32) (E2 σ)) (hE : SXR N 18 E1) (hE2 : SXN N 22 E2) {d : Int32} {B : CS} {b : RS} {t0 T n : Nat} {L : List CEL} {x : Int} {S P : CS} {s q U : RS} {c : CEL} {W : Option Nat × CS} {R : Unit × CS} {A : JBA} (hC : COR d B b t0 (c :: L) x S s) (q1 : TOP S s c) (q2 : LOW S s c) (q3 : T = ceT c + wid (S.o c.2.1 0)) (hT : t0 ≤ T) (hm : NMC c S) (hx : S.o c.2.1 0 = 303 → x = -3) (hB : BOT b S (c :: L)) (w : WAZ d T 2 5 1 (-4) 2 S s P q) (k64 : q.a 64 T = 12) (k65 : q.a 65 T = 3) (k71 : q.a 71 T = S.i 50) (jg : KU3 U s → JRW A U B b (vws S s (c :: L)) S s → JRG A U B b (vws S s (c :: L)) s [] (JQA U 1264 0 (pcC P) (pcR q) JQZ) (-2) (-2) P q) (e : f_X7_forHead N E1 E2 P = some W) (e2 : f_X7_beginFor_85 N E1 E2 W.2 (S.i 50) W.1 = some R) (g : f_X12_parse_10 N n q = some U) : (¬ R.2.i 32 = 0 ∧ ¬ U.i 15 = 0) ∨ DMD d B R.2 U ∨ ∃ (m : Nat) (u : RS), f_X12_parse_10 N m u = some U ∧ NEW d B b t0 c L R.2 u (JTR A U B b (c :: L) S s) := by
  have hv := hC.1
  have t21 := hC.2.2.2.2.2.2.2.2.1.1
  have fW : ¬ W.2.i 32 = 0 → ¬ R.2.i 32 = 0 := fun z => by
    rw [kF_X7_beginFor_85 N E1 E2 hm1 hm2 W.2 (S.i 50) W.1 R e2 z]
    exact z
  -- the class, taken apart
  unfold f_X7_forHead at e
  obtain ⟨y1, ey1, e⟩ := hf_bind e
  obtain ⟨y5, ey5, e⟩ := hf_bind e
  obtain ⟨y9, ey9, e⟩ := hf_bind e
  obtain ⟨y13, ey13, e⟩ := hf_bind e
  obtain ⟨y17, ey17, e⟩ := hf_bind e
  obtain ⟨y21, ey21, e⟩ := hf_bind e
  have f76 : ∀ (Y : CS) (v : Int32), f_X7_forHead_76 N E1 E2 Y y1.1 y5.1 y9.1 y13.1 v = some W → ¬ Y.i 32 = 0 → ¬ R.2.i 32 = 0 := fun Y v h z => fW (by rw [kF_X7_forHead_76 N E1 E2 hm1 hm2 Y y1.1 y5.1 y9.1 y13.1 v W h z]; exact z)
  have cls : (¬ y21.2.i 43 = 59 ∧ ∃ (p75 : Int32 × CS) (p79 : Unit × CS), f_X1_condition N E1 E2 y21.2 = some p75 ∧ f_X0_add N p75.2 31 y13.1 = some p79 ∧ f_X7_forHead_76 N E1 E2 p79.2 y1.1 y5.1 y9.1 y13.1 p75.1 = some W) ∨ (y21.2.i 43 = 59 ∧ f_X7_forHead_76 N E1 E2 y21.2 y1.1 y5.1 y9.1 y13.1 1 = some W) := by
    obtain ⟨p25, e25, e⟩ := hf_bind e
    by_cases c2 : y21.2.i 43 = 59
    · rw [e_fnd1 c2] at e25
      cases e25
      rw [if_neg n10] at e
      exact Or.inr ⟨c2, e⟩
    · rw [e_fnd0 c2] at e25
      cases e25
      rw [if_pos rfl] at e
      obtain ⟨p75, e75, e⟩ := hf_bind e
      obtain ⟨p79, e79, e⟩ := hf_bind e
      exact Or.inl ⟨c2, p75, p79, e75, e79, e⟩
  have f21 : ¬ y21.2.i 32 = 0 → ¬ R.2.i 32 = 0 := fun z => by
    rcases cls with ⟨-, p75, p79, h1, h2, h3⟩ | ⟨-, h⟩
    · refine f76 _ _ h3 ?_
      have z1 : ¬ p75.2.i 32 = 0 := by rw [kF_X1_condition N E1 E2 hm1 hm2 y21.2 p75 h1 z]; exact z
      rw [fst_add h2]
      exact z1
    · exact f76 _ _ h z
  -- the reference
  obtain ⟨m2, V, hV, g2⟩ := rl_12 g w.2.1 w.1.1.2.1 k64
  unfold f_X12_fors at hV
  obtain ⟨-, hV⟩ := hf_ite hV
  rw [tp_nat w.2.1, if_neg (show ¬ q.a 65 T = 0 by rw [k65]; decide), if_neg (show ¬ q.a 65 T = 1 by rw [k65]; decide), if_neg (show ¬ q.a 65 T = 2 by rw [k65]; decide), if_pos k65] at hV
  obtain ⟨nd, hnd, hV⟩ := hf_bind hV
  have lo := w.lo
  have ph0 := hv.2.2.2.2.2.2.2.1
  have w1 := w.nt (by omega) ey1
  have lo1 := w1.lo
  have w2 := w1.nt (by omega) ey5
  have lo2 := w2.lo
  have w3 := w2.nt (by omega) ey9
  have lo3 := w3.lo
  have w4 := w3.nt (by omega) ey13
  have hx3 : ∃ v69 : Int32, ((nd.2.i 10 = 432 ∧ v69 = nd.2.i 17) ∨ (¬ nd.2.i 10 = 432 ∧ v69 = 0)) ∧ f_X12_fors_175 N (RS.setA (RS.setA nd.2 66 T (nd.2.i 20)) 69 T v69) (q.i 63) = some V := by
    by_cases c4 : nd.2.i 10 = 432
    · rw [if_pos c4] at hV
      exact ⟨_, Or.inl ⟨c4, rfl⟩, hV⟩
    · rw [if_neg c4] at hV
      exact ⟨_, Or.inr ⟨c4, rfl⟩, hV⟩
  obtain ⟨v69, h69, hV⟩ := hx3
  unfold f_X12_fors_175 f_X12_fors_195 at hV
  rcases w4.nd hN (c := 59) (e := 59) (Or.inl ⟨by decide, by decide⟩) (by decide) (by decide) (by decide) ey17 hnd with ⟨o1, o2, o3⟩ | ⟨o1, w5, f5⟩
  · refine Or.inl ⟨f21 (by rw [kF_X0_aim N y17.2 y1.1 y21 ey21 o2]; exact o2), u_flt g2 ?_⟩
    have o3' : ∀ v : Int32, ¬ (RS.setA (RS.setA (RS.setA nd.2 66 T (nd.2.i 20)) 69 T v69) 72 T v).i 15 = 0 := fun _ => o3
    rw [tp_nat w.2.1] at hV
    by_cases c9 : (RS.setA (RS.setA nd.2 66 T (nd.2.i 20)) 69 T v69).i 10 = 59
    · rw [if_pos c9] at hV
      obtain ⟨-, hV⟩ := hf_ite hV
      rw [if_pos (show (RS.setA (RS.setA (RS.setA nd.2 66 T (nd.2.i 20)) 69 T v69) 72 T 1).i 10 = 59 from c9)] at hV
      obtain ⟨em, hem, hV⟩ := hf_bind hV
      obtain ⟨-, hV⟩ := hf_ite hV
      cases hV
      show ¬ em.2.i 15 = 0
      exact krf_f_X12_emit N _ 2 1 em hem (o3' 1)
    · rw [if_neg c9] at hV
      obtain ⟨-, hV⟩ := hf_ite hV
      rw [if_neg (show ¬ (RS.setA (RS.setA (RS.setA nd.2 66 T (nd.2.i 20)) 69 T v69) 72 T 0).i 10 = 59 from c9), ob_id] at hV
      exact krf_f_X12_then N _ 4 20 V hV (o3' 0)
  obtain ⟨ft5, -⟩ := FRB.ft (T := T) f5
  have w6 := (((w5.ai ey21).sa (j := 66) (v := nd.2.i 20) ⟨by omega, by omega⟩).sa (j := 69) (v := v69) ⟨by omega, by omega⟩)
  obtain ⟨Y, hY⟩ : ∃ Y, Y = RS.setA (RS.setA nd.2 66 T (nd.2.i 20)) 69 T v69 := ⟨_, rfl⟩
  have y64 : Y.a 64 T = 12 := by rw [hY]; exact ft5.1.trans k64
  have y69 : Y.a 69 T = v69 := by rw [hY]; exact setA_at
  have y71 : Y.a 71 T = S.i 50 := by rw [hY]; exact ft5.2.2.2.2.2.2.1.trans k71
  have yi : Y.i = nd.2.i := by rw [hY]; rfl
  have y66 : Y.a 66 T = nd.2.i 20 := by
    rw [hY]
    show (RS.setA nd.2 66 T (nd.2.i 20)).a 66 T = nd.2.i 20
    exact setA_at
  have qY : qe Y = qe nd.2 := by rw [hY]; rfl
  have nY : NMV nd.2 Y := by rw [hY]; exact ⟨rfl, fun _ _ => rfl⟩
  have nd20 := w5.1.p20
  have y660 : 0 ≤ (Y.a 66 T).toInt := by rw [y66]; exact nd20.1
  have jY : KU3 U s → JRW A U B b (vws S s (c :: L)) S s → JRG A U B b (vws S s (c :: L)) s [tv y13.1, tv y9.1, tv y5.1] (JQA U 1264 0 (pcC y21.2) (pcR Y) (fun FC SF nm X ω j Z => Z ∧ TG1 FC SF U nm X y1.1 (Y.a 66 T).toNatClampNeg ω j)) (-3) 1 y21.2 Y := fun ku jw => by
    have h1 : (P.i 44).toInt = (q.i 11).toInt := by rw [w.1.p44.1]
    have h2 : (y1.2.i 44).toInt = (q.i 11).toInt := by rw [w1.1.p44.1]
    have h3 : (y5.2.i 44).toInt = (q.i 11).toInt := by rw [w2.1.p44.1]
    have h4 : (y9.2.i 44).toInt = (q.i 11).toInt := by rw [w3.1.p44.1]
    have h5 : (y17.2.i 44).toInt = (nd.2.i 11).toInt := by rw [w5.1.p44.1]
    have g6 := (i11_hi w.1).2
    have g6' := (i11_hi w5.1).2
    have j1 := ((((jg ku jw).nt ey1 (by omega) (by omega)).nt ey5 (by omega) (by omega)).nt ey9 (by omega) (by omega)).nt ey13 (by omega) (by omega)
    have j2 := j1.ned hN w4.1 (c := 59) (c' := 59) (Or.inl ⟨by decide, by decide⟩) (by decide) (by decide) (by decide) ey17 hnd o1
    have j3 := JRG.aim (W1 := [tv y13.1, tv y9.1, tv y5.1]) (W2 := []) (K' := fun FC SF nm X ω j Z => (cTg SF y1.1).toInt = ((pcC y17.2 : Nat) : Int) ∧ JQA U 1264 0 (pcC P) (pcR q) JQZ FC SF nm X ω j Z) j2 ey21 (by omega) (by omega) (fun FC SF nm X ω j Z h k => ⟨h, k⟩)
    have j4 := j3.se qY nY
    have n1 : y1.2.i 20 = P.i 20 := by
      unfold f_X0_newTarget at ey1
      cases ey1
      rfl
    have n2 : y5.2.i 20 = y1.2.i 20 := by
      unfold f_X0_newTarget at ey5
      cases ey5
      rfl
    have n3 : y9.2.i 20 = y5.2.i 20 := by
      unfold f_X0_newTarget at ey9
      cases ey9
      rfl
    have n4 : y13.2.i 20 = y9.2.i 20 := by
      unfold f_X0_newTarget at ey13
      cases ey13
      rfl
    have n5 : y21.2.i 20 = y17.2.i 20 := by
      unfold f_X0_aim at ey21
      cases ey21
      rfl
    have pc1 : pcC y17.2 = pcC P := (pcC.pe (ke_X1_expect N y13.2 59 y17 ey17)).trans (by unfold pcC; rw [n4, n3, n2, n1])
    have pc2 : pcC y21.2 = pcC y17.2 := by unfold pcC; rw [n5]
    have prY : pcR Y = pcR nd.2 := pcR.qe qY
    have prn : pcR nd.2 = pcR q := pcR.qe (kre_f_X12_need N q 59 nd hnd)
    have e66 : (Y.a 66 T).toNatClampNeg = pcR Y := by rw [y66, prY]; rfl
    refine j4.imp (by omega) (by omega) (fun FC SF nm X ω j Z hc hh tyc tl hω r12 k gu => ⟨k.2 (fun g => ?_), pcC y21.2, by rw [pc2]; exact k.1, by unfold pcC; omega, fun g => by rw [e66]; exact gu g⟩)
    have z := gu g
    rw [pc2, pc1, prY, prn] at z
    exact z
  rw [← hY] at hV w6
  clear hY
  rw [← yi] at h69
  have i59 := tk_is w6.1 (a := 59) (b := 59) (Or.inl ⟨by decide, by decide⟩) (by decide)
  have lo6 := w6.lo
  rw [tp_nat w.2.1] at hV
  by_cases c9 : Y.i 10 = 59
  · -- no condition
    rw [if_pos c9] at hV
    obtain ⟨-, hV⟩ := hf_ite hV
    rw [if_pos (show (RS.setA Y 72 T 1).i 10 = 59 from c9)] at hV
    obtain ⟨em, hem, hV⟩ := hf_bind hV
    obtain ⟨-, hV⟩ := hf_ite hV
    cases hV
    have w7 := w6.sa (j := 72) (v := 1) ⟨by omega, by omega⟩
    have lo7 := w7.lo
    obtain ⟨w8, f8, -, -, -⟩ := w7.em (by omega) hem
    obtain ⟨ft8, -⟩ := FRB.ft (T := T) f8
    rcases cls with ⟨n2, -⟩ | ⟨-, h⟩
    · exact absurd (i59.mpr c9) n2
    · exact fo_five hN hm1 hm2 hE hC q1 q2 q3 hT hm hx hB ((w8.sa (j := 65) (v := 5) ⟨by omega, by omega⟩).nu (by omega) (by omega) (by omega) (by omega) (by omega)) (ft8.1.trans y64) setA_at (ft8.2.2.2.2.2.2.1.trans y71) (ft8.2.2.2.2.2.2.2.1.trans setA_at) ⟨nt5 w1.1 ey5, nt5 w3.1 ey13⟩ (by show 0 ≤ (em.2.a 66 T).toInt; rw [ft8.2.1]; exact y660) (fun ku jw => by
      have Y20 : (Y.i 20).toInt = (nd.2.i 20).toInt := by rw [yi]
      have j6 := ((jY ku jw).se (u := RS.setA Y 72 T 1) rfl ⟨rfl, fun _ _ => rfl⟩).emt hem ⟨by show 0 ≤ (Y.i 20).toInt; omega, by show (Y.i 20).toInt < 3000; omega⟩
      have e66 : em.2.a 66 T = Y.a 66 T := ft8.2.1
      have z := (j6.imp (a1 := -2) (e1 := 2) (K' := KF5 U 1 y1.1 y9.1 y13.1 (Y.a 66 T).toNatClampNeg (pcC y21.2) (pcR em.2)) (by omega) (by omega) (fun FC SF nm X ω j Z hc hh tyc tl hω r12 k => by
        intro s1 s2 s3 u1 u2 u3 hc' hω' r4 r3
        obtain ⟨⟨v1, v2, v3, v4, v5⟩, kk⟩ := k
        have v5' : pcR em.2 = pcR Y + 1 := v5
        have v4' : ((pcR Y : Nat) : Int) < (U.i 20).toInt ∧ (U.i 20).toInt ≤ 3000 := v4
        have v1' : U.a 21 (pcR Y) = 2 := v1
        have v2' : U.a 22 (pcR Y) = 1 := v2
        rw [v5'] at u1 u2 u3 r3
        obtain ⟨pp, qq, lt, w1', w2', w3'⟩ := r3
        have pq : PQX SF U (pcC y21.2) (pcR Y) := ⟨s3, v4'⟩
        refine kk (fun g => gi_UFor (pq.hc hc) pq.2.1 ⟨s1, ⟨v1', v2', u1, u2, u3.1⟩, pp, qq, _, ⟨by rw [s2]; exact w1', w2'⟩, ?_, w3'⟩)
        have e9 : (j.up 1264).l = j.l + 1264 := rfl
        rw [e9]
        have := s3
        omega)).se (u := RS.setA em.2 65 T 5) rfl ⟨rfl, fun _ _ => rfl⟩
      show JRG A U B b (vws S s (c :: L)) s [tv y13.1, tv y9.1, tv y5.1] (KF5 U 1 y1.1 y9.1 y13.1 (em.2.a 66 T).toNatClampNeg (pcC y21.2) (pcR (RS.setA em.2 65 T 5))) (-2) 2 y21.2 (RS.setA em.2 65 T 5)
      rw [e66]
      exact z) h e2 g2
  · rw [if_neg c9] at hV
    obtain ⟨-, hV⟩ := hf_ite hV
    rw [if_neg (show ¬ (RS.setA Y 72 T 0).i 10 = 59 from c9), ob_id] at hV
    rcases cls with ⟨-, p75, p79, h1, h2, h3⟩ | ⟨n2, -⟩
    · have w7 := w6.sa (j := 72) (v := 0) ⟨by omega, by omega⟩
      have lo7 := w7.lo
      rcases y_cond hN hm1 hm2 hE2 w7.1 w7.2.1 (by omega) h1 hV g2 with ⟨z1, z2⟩ | ⟨m3, u, g3, xo, hn01, hn1, xc⟩
      · exact Or.inl ⟨f76 _ _ h3 (by rw [fst_add h2]; exact z1), z2⟩
      obtain ⟨gf, xg, hg⟩ : ∃ gf : Nat, CDE gf U y21.2 (RS.setA Y 72 T 0) p75.2 u ∧ ((gf = 2 ∧ ¬ p75.1 = 1) ∨ (gf = 4 ∧ p75.1 = 1)) := by
        rcases hn01 with z | z
        · exact ⟨2, xc.1, Or.inl ⟨rfl, by rw [z]; decide⟩⟩
        · exact ⟨4, xc.2 z, Or.inr ⟨rfl, z⟩⟩
      have w8 := w7.exo xo
      obtain ⟨ft8, u65⟩ := xo.ft
      have u69 : u.a 69 T = v69 := ft8.2.2.2.2.1.trans y69
      obtain ⟨m4, V4, hV4, g4⟩ := rl_12 g3 w8.2.1 w8.1.1.2.1 (ft8.1.trans y64)
      unfold f_X12_fors f_X12_fors_255 at hV4
      obtain ⟨-, hV4⟩ := hf_ite hV4
      rw [tp_nat w8.2.1, if_neg (show ¬ u.a 65 T = 0 by rw [u65]; decide), if_neg (show ¬ u.a 65 T = 1 by rw [u65]; decide), if_neg (show ¬ u.a 65 T = 2 by rw [u65]; decide), if_neg (show ¬ u.a 65 T = 3 by rw [u65]; decide), if_pos u65, u69] at hV4
      obtain ⟨jt, hjt, hV4⟩ := hf_bind hV4
      have r17 : 0 < (Y.i 17).toInt ∧ (Y.i 17).toInt < 2000 := by
        have z1 : 3 ≤ phI Y := by omega
        have z2 := w6.1.2.2.2.2.2.2.1
        have z3 := w6.1.2.2.2.2.2.2.2.2.1
        have z4 := i11_hi w6.1
        unfold phI at z1
        omega
      have ejt := jt_eq hjt h69 r17 hn01 hn1
      rw [ejt] at hV4
      have hV5 : V4 = RS.setA (RS.setA u 72 T p75.1) 65 T 5 := by
        rcases hn01 with h | h
        · rw [if_pos h] at hV4
          obtain ⟨-, hV4⟩ := hf_ite hV4
          cases hV4
          rw [h]
        · rw [if_neg (show ¬ (p75.1, u).1 = 0 by show ¬ p75.1 = 0; rw [h]; decide)] at hV4
          obtain ⟨-, hV4⟩ := hf_ite hV4
          cases hV4
          rw [h]
      rw [hV5] at g4
      have w9 := (((w8.ad h2).sa (j := 72) (v := p75.1) ⟨by omega, by omega⟩).sa (j := 65) (v := 5) ⟨by omega, by omega⟩)
      exact fo_five hN hm1 hm2 hE hC q1 q2 q3 hT hm hx hB (w9.nu (by omega) (by omega) (by omega) (by omega) (by omega)) (ft8.1.trans y64) setA_at (ft8.2.2.2.2.2.2.1.trans y71) (show (RS.setA u 72 T p75.1).a 72 T = p75.1 from setA_at) ⟨nt5 w1.1 ey5, nt5 w3.1 ey13⟩ (by show 0 ≤ (u.a 66 T).toInt; rw [ft8.2.1]; exact y660) (fun ku jw => by
        have j5 := ((jY ku jw).se (u := RS.setA Y 72 T 0) rfl ⟨rfl, fun _ _ => rfl⟩).imp (a1 := -3) (e1 := 1) (K' := JAN JTT (JQA U 1264 0 (pcC y21.2) (pcR (RS.setA Y 72 T 0)) (fun FC SF nm X ω j Z => Z ∧ TG1 FC SF U nm X y1.1 (Y.a 66 T).toNatClampNeg ω j))) (by omega) (by omega) (fun _ _ _ _ _ _ _ _ _ _ _ _ _ k => ⟨True.intro, k⟩)
        have j6 := j5.frm w7.1 xo xg (by omega) (by omega) (by omega) (by have := w7.lo; omega) (by have := w7.2.2.2.2.2.2.1.2.2.2; omega)
        have g44 : (p75.2.i 44).toInt = (u.i 11).toInt := by rw [w8.1.p44.1]
        have g6 := (i11_hi w8.1).2
        have j7 := j6.add h2 (by omega) (by omega)
        have e66 : u.a 66 T = Y.a 66 T := ft8.2.1
        have z := (j7.imp (a1 := -2) (e1 := 2) (K' := KF5 U p75.1 y1.1 y9.1 y13.1 (Y.a 66 T).toNatClampNeg (pcC p79.2) (pcR u)) (by omega) (by omega) (fun FC SF nm X ω j Z hc hh tyc tl hω r12 k => by
          intro s1 s2 s3 u1 u2 u3 hc' hω' r4 r3
          obtain ⟨⟨v1, v2, v3, v4⟩, -, kk⟩ := k
          rw [v4] at s1 s2 s3 r3
          obtain ⟨pp, qq, lt, w1', w2', w3'⟩ := r3
          have pq0 : PQX SF U (pcC p75.2) (pcR u) := ⟨v3, by have := u3.1; omega, u3.2⟩
          have pq1 : PQX SF U (pcC p75.2 + 1) (pcR u + 1) := ⟨s3, u3⟩
          have e9 : (j.up 1264).l = j.l + 1264 := rfl
          rw [e9] at w3'
          have z1 : GU FC SF U nm X (pcC p75.2 + 1) (pcR u + 1) j.h (ω + j.l + 1264 - (pcC p75.2 + 1)) 0 j.c := gi_UJmp (pq1.hc hc) pq1.2.1 ⟨s1, u2, pp, qq, _, ⟨by rw [s2]; exact w1', w2'⟩, by omega, w3'⟩
          exact kk (gi_UJz (pq0.hc (hc.up (Nat.le_add_right _ _))) pq0.2.1 ⟨v1, u1, _, rfl, (by
            rcases hg with ⟨-, z⟩ | ⟨z, -⟩
            · obtain ⟨p4, q4, x1', x2', x3'⟩ := r4 z
              exact Or.inr ⟨p4, q4, _, ⟨by rw [v2]; exact x1', x2'⟩, by omega, x3'⟩
            · exact Or.inl z), ⟨_, by omega, z1⟩⟩))).se (u := RS.setA (RS.setA u 72 T p75.1) 65 T 5) rfl ⟨rfl, fun _ _ => rfl⟩
        show JRG A U B b (vws S s (c :: L)) s [tv y13.1, tv y9.1, tv y5.1] (KF5 U p75.1 y1.1 y9.1 y13.1 (u.a 66 T).toNatClampNeg (pcC p79.2) (pcR (RS.setA (RS.setA u 72 T p75.1) 65 T 5))) (-2) 2 p79.2 (RS.setA (RS.setA u 72 T p75.1) 65 T 5)
        rw [e66]
        exact z) h3 e2 g4
    · exact absurd (i59.mp n2) c9
