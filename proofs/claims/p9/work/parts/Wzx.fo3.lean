/-! both readers: for, from its first ; -/
set_option maxHeartbeats 4000000 in
theorem fo_three {N : Nat} (hN : 1000 ≤ N) {E1 : CS → Option (Unit × CS)} {E2 : CS → Option (Int32 × CS)} (hm1 : ∀ σ, Kf (CS.i σ 32) (E1 σ)) (hm2 : ∀ σ, Kf (CS.i σ 32) (E2 σ)) (hE : SXR N 18 E1) (hE2 : SXN N 22 E2) {d : Int32} {B : CS} {b : RS} {t0 T n : Nat} {L : List CEL} {x : Int} {S P : CS} {s q U : RS} {c : CEL} {W : Option Nat × CS} {R : Unit × CS} (hC : COR d B b t0 (c :: L) x S s) (q1 : TOP S s c) (q2 : LOW S s c) (q3 : T = ceT c + wid (S.o c.2.1 0)) (hT : t0 ≤ T) (hm : NMC c S) (hx : S.o c.2.1 0 = 303 → x = -3) (hB : BOT b S (c :: L)) (w : WAZ d T 2 5 1 (-4) 2 S s P q) (k64 : q.a 64 T = 12) (k65 : q.a 65 T = 3) (k71 : q.a 71 T = S.i 50) (e : f_X7_forHead N E1 E2 P = some W) (e2 : f_X7_beginFor_85 N E1 E2 W.2 (S.i 50) W.1 = some R) (g : f_X12_parse_10 N n q = some U) : (¬ R.2.i 32 = 0 ∧ ¬ U.i 15 = 0) ∨ DMD d B R.2 U ∨ ∃ (m : Nat) (u : RS), f_X12_parse_10 N m u = some U ∧ NEW d B b t0 c L R.2 u := by
  have hv := hC.1
  have t21 := hC.2.2.2.2.2.2.2.2.1.1
  have fW : ¬ W.2.i 32 = 0 → ¬ R.2.i 32 = 0 := fun z => by
    rw [kF_X7_beginFor_85 N E1 E2 hm1 hm2 W.2 (S.i 50) W.1 R e2 z]
    exact z
  -- the class, taken apart
  unfold f_X7_forHead at e
  obtain ⟨y1, ey1, e⟩ := hf_bind e
  obtain ⟨y5, ey5, e⟩ := hf_bind e
  obtain ⟨y9, ey9, e⟩ := hf_bind e
  obtain ⟨y13, ey13, e⟩ := hf_bind e
  obtain ⟨y17, ey17, e⟩ := hf_bind e
  obtain ⟨y21, ey21, e⟩ := hf_bind e
  have f76 : ∀ (Y : CS) (v : Int32), f_X7_forHead_76 N E1 E2 Y y1.1 y5.1 y9.1 y13.1 v = some W → ¬ Y.i 32 = 0 → ¬ R.2.i 32 = 0 := fun Y v h z => fW (by rw [kF_X7_forHead_76 N E1 E2 hm1 hm2 Y y1.1 y5.1 y9.1 y13.1 v W h z]; exact z)
  have cls : (¬ y21.2.i 43 = 59 ∧ ∃ (p75 : Int32 × CS) (p79 : Unit × CS), f_X1_condition N E1 E2 y21.2 = some p75 ∧ f_X0_add N p75.2 31 y13.1 = some p79 ∧ f_X7_forHead_76 N E1 E2 p79.2 y1.1 y5.1 y9.1 y13.1 p75.1 = some W) ∨ (y21.2.i 43 = 59 ∧ f_X7_forHead_76 N E1 E2 y21.2 y1.1 y5.1 y9.1 y13.1 1 = some W) := by
    obtain ⟨p25, e25, e⟩ := hf_bind e
    by_cases c2 : y21.2.i 43 = 59
    · rw [e_fnd1 c2] at e25
      cases e25
      rw [if_neg n10] at e
      exact Or.inr ⟨c2, e⟩
    · rw [e_fnd0 c2] at e25
      cases e25
      rw [if_pos rfl] at e
      obtain ⟨p75, e75, e⟩ := hf_bind e
      obtain ⟨p79, e79, e⟩ := hf_bind e
      exact Or.inl ⟨c2, p75, p79, e75, e79, e⟩
  have f21 : ¬ y21.2.i 32 = 0 → ¬ R.2.i 32 = 0 := fun z => by
    rcases cls with ⟨-, p75, p79, h1, h2, h3⟩ | ⟨-, h⟩
    · refine f76 _ _ h3 ?_
      have z1 : ¬ p75.2.i 32 = 0 := by rw [kF_X1_condition N E1 E2 hm1 hm2 y21.2 p75 h1 z]; exact z
      rw [fst_add h2]
      exact z1
    · exact f76 _ _ h z
  -- the reference
  obtain ⟨m2, V, hV, g2⟩ := rl_12 g w.2.1 w.1.1.2.1 k64
  unfold f_X12_fors at hV
  obtain ⟨-, hV⟩ := hf_ite hV
  rw [tp_nat w.2.1, if_neg (show ¬ q.a 65 T = 0 by rw [k65]; decide), if_neg (show ¬ q.a 65 T = 1 by rw [k65]; decide), if_neg (show ¬ q.a 65 T = 2 by rw [k65]; decide), if_pos k65] at hV
  obtain ⟨nd, hnd, hV⟩ := hf_bind hV
  have lo := w.lo
  have ph0 := hv.2.2.2.2.2.2.2.1
  have w1 := w.nt (by omega) ey1
  have lo1 := w1.lo
  have w2 := w1.nt (by omega) ey5
  have lo2 := w2.lo
  have w3 := w2.nt (by omega) ey9
  have lo3 := w3.lo
  have w4 := w3.nt (by omega) ey13
  have hx3 : ∃ v69 : Int32, ((nd.2.i 10 = 432 ∧ v69 = nd.2.i 17) ∨ (¬ nd.2.i 10 = 432 ∧ v69 = 0)) ∧ f_X12_fors_175 N (RS.setA (RS.setA nd.2 66 T (nd.2.i 20)) 69 T v69) (q.i 63) = some V := by
    by_cases c4 : nd.2.i 10 = 432
    · rw [if_pos c4] at hV
      exact ⟨_, Or.inl ⟨c4, rfl⟩, hV⟩
    · rw [if_neg c4] at hV
      exact ⟨_, Or.inr ⟨c4, rfl⟩, hV⟩
  obtain ⟨v69, h69, hV⟩ := hx3
  unfold f_X12_fors_175 f_X12_fors_195 at hV
  rcases w4.nd hN (c := 59) (e := 59) (Or.inl ⟨by decide, by decide⟩) (by decide) (by decide) (by decide) ey17 hnd with ⟨o1, o2, o3⟩ | ⟨o1, w5, f5⟩
  · refine Or.inl ⟨f21 (by rw [kF_X0_aim N y17.2 y1.1 y21 ey21 o2]; exact o2), u_flt g2 ?_⟩
    have o3' : ∀ v : Int32, ¬ (RS.setA (RS.setA (RS.setA nd.2 66 T (nd.2.i 20)) 69 T v69) 72 T v).i 15 = 0 := fun _ => o3
    rw [tp_nat w.2.1] at hV
    by_cases c9 : (RS.setA (RS.setA nd.2 66 T (nd.2.i 20)) 69 T v69).i 10 = 59
    · rw [if_pos c9] at hV
      obtain ⟨-, hV⟩ := hf_ite hV
      rw [if_pos (show (RS.setA (RS.setA (RS.setA nd.2 66 T (nd.2.i 20)) 69 T v69) 72 T 1).i 10 = 59 from c9)] at hV
      obtain ⟨em, hem, hV⟩ := hf_bind hV
      obtain ⟨-, hV⟩ := hf_ite hV
      cases hV
      show ¬ em.2.i 15 = 0
      exact krf_f_X12_emit N _ 2 1 em hem (o3' 1)
    · rw [if_neg c9] at hV
      obtain ⟨-, hV⟩ := hf_ite hV
      rw [if_neg (show ¬ (RS.setA (RS.setA (RS.setA nd.2 66 T (nd.2.i 20)) 69 T v69) 72 T 0).i 10 = 59 from c9), ob_id] at hV
      exact krf_f_X12_then N _ 4 20 V hV (o3' 0)
  obtain ⟨ft5, -⟩ := FRB.ft (T := T) f5
  have w6 := (((w5.ai ey21).sa (j := 66) (v := nd.2.i 20) ⟨by omega, by omega⟩).sa (j := 69) (v := v69) ⟨by omega, by omega⟩)
  obtain ⟨Y, hY⟩ : ∃ Y, Y = RS.setA (RS.setA nd.2 66 T (nd.2.i 20)) 69 T v69 := ⟨_, rfl⟩
  have y64 : Y.a 64 T = 12 := by rw [hY]; exact ft5.1.trans k64
  have y69 : Y.a 69 T = v69 := by rw [hY]; exact setA_at
  have y71 : Y.a 71 T = S.i 50 := by rw [hY]; exact ft5.2.2.2.2.2.2.1.trans k71
  have yi : Y.i = nd.2.i := by rw [hY]; rfl
  rw [← hY] at hV w6
  clear hY
  rw [← yi] at h69
  have i59 := tk_is w6.1 (a := 59) (b := 59) (Or.inl ⟨by decide, by decide⟩) (by decide)
  have lo6 := w6.lo
  rw [tp_nat w.2.1] at hV
  by_cases c9 : Y.i 10 = 59
  · -- no condition
    rw [if_pos c9] at hV
    obtain ⟨-, hV⟩ := hf_ite hV
    rw [if_pos (show (RS.setA Y 72 T 1).i 10 = 59 from c9)] at hV
    obtain ⟨em, hem, hV⟩ := hf_bind hV
    obtain ⟨-, hV⟩ := hf_ite hV
    cases hV
    have w7 := w6.sa (j := 72) (v := 1) ⟨by omega, by omega⟩
    have lo7 := w7.lo
    obtain ⟨w8, f8, -, -, -⟩ := w7.em (by omega) hem
    obtain ⟨ft8, -⟩ := FRB.ft (T := T) f8
    rcases cls with ⟨n2, -⟩ | ⟨-, h⟩
    · exact absurd (i59.mpr c9) n2
    · exact fo_five hN hm1 hm2 hE hC q1 q2 q3 hT hm hx hB ((w8.sa (j := 65) (v := 5) ⟨by omega, by omega⟩).nu (by omega) (by omega) (by omega) (by omega) (by omega)) (ft8.1.trans y64) setA_at (ft8.2.2.2.2.2.2.1.trans y71) (ft8.2.2.2.2.2.2.2.1.trans setA_at) h e2 g2
  · rw [if_neg c9] at hV
    obtain ⟨-, hV⟩ := hf_ite hV
    rw [if_neg (show ¬ (RS.setA Y 72 T 0).i 10 = 59 from c9), ob_id] at hV
    rcases cls with ⟨-, p75, p79, h1, h2, h3⟩ | ⟨n2, -⟩
    · have w7 := w6.sa (j := 72) (v := 0) ⟨by omega, by omega⟩
      have lo7 := w7.lo
      rcases y_cond hN hm1 hm2 hE2 w7.1 w7.2.1 (by omega) h1 hV g2 with ⟨z1, z2⟩ | ⟨m3, u, g3, xo, hn01, hn1⟩
      · exact Or.inl ⟨f76 _ _ h3 (by rw [fst_add h2]; exact z1), z2⟩
      have w8 := w7.exo xo
      obtain ⟨ft8, u65⟩ := xo.ft
      have u69 : u.a 69 T = v69 := ft8.2.2.2.2.1.trans y69
      obtain ⟨m4, V4, hV4, g4⟩ := rl_12 g3 w8.2.1 w8.1.1.2.1 (ft8.1.trans y64)
      unfold f_X12_fors f_X12_fors_255 at hV4
      obtain ⟨-, hV4⟩ := hf_ite hV4
      rw [tp_nat w8.2.1, if_neg (show ¬ u.a 65 T = 0 by rw [u65]; decide), if_neg (show ¬ u.a 65 T = 1 by rw [u65]; decide), if_neg (show ¬ u.a 65 T = 2 by rw [u65]; decide), if_neg (show ¬ u.a 65 T = 3 by rw [u65]; decide), if_pos u65, u69] at hV4
      obtain ⟨jt, hjt, hV4⟩ := hf_bind hV4
      have r17 : 0 < (Y.i 17).toInt ∧ (Y.i 17).toInt < 2000 := by
        have z1 : 3 ≤ phI Y := by omega
        have z2 := w6.1.2.2.2.2.2.2.1
        have z3 := w6.1.2.2.2.2.2.2.2.2.1
        have z4 := i11_hi w6.1
        unfold phI at z1
        omega
      have ejt := jt_eq hjt h69 r17 hn01 hn1
      rw [ejt] at hV4
      have hV5 : V4 = RS.setA (RS.setA u 72 T p75.1) 65 T 5 := by
        rcases hn01 with h | h
        · rw [if_pos h] at hV4
          obtain ⟨-, hV4⟩ := hf_ite hV4
          cases hV4
          rw [h]
        · rw [if_neg (show ¬ (p75.1, u).1 = 0 by show ¬ p75.1 = 0; rw [h]; decide)] at hV4
          obtain ⟨-, hV4⟩ := hf_ite hV4
          cases hV4
          rw [h]
      rw [hV5] at g4
      have w9 := (((w8.ad h2).sa (j := 72) (v := p75.1) ⟨by omega, by omega⟩).sa (j := 65) (v := 5) ⟨by omega, by omega⟩)
      exact fo_five hN hm1 hm2 hE hC q1 q2 q3 hT hm hx hB (w9.nu (by omega) (by omega) (by omega) (by omega) (by omega)) (ft8.1.trans y64) setA_at (ft8.2.2.2.2.2.2.1.trans y71) (show (RS.setA u 72 T p75.1).a 72 T = p75.1 from setA_at) h3 e2 g4
    · exact absurd (i59.mp n2) c9
