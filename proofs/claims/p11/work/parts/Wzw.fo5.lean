/-! both readers: for, from behind its condition -/
/-- at the test's end: the class has its GOTO to lay, the reference JZ and JMP -/
def KF5 (U : RS) (x5 x1 x3 x4 : Int32) (qt p q : Nat) : JKT := fun FC SF nm X ω j Z => SF.a 15 p = 30 → SF.a 16 p = x3 → p < 1200 → U.a 21 q = 13 → U.a 21 (q + 1) = 15 → (((q + 1 : Nat) : Int) < (U.i 20).toInt ∧ (U.i 20).toInt ≤ 3000) → HC0 nm j.h j.c → 1300 ≤ ω → (¬ x5 = 1 → PRN FC SF U nm X x4 q ω j) → PRF FC SF U nm X p x3 (q + 1) ω (j.up 1264) → Z ∧ TG1 FC SF U nm X x1 qt ω j
theorem nm_fr {d d' : Int32} {S R : CS} {s u : RS} {k : Nat} (h : ENV d S s) (g : ENV d' R u) (tb : TBK s u) (hk : (k : Int) < (s.i 38).toInt) (h49 : (S.a 49 k).toInt < 0) : (R.a 49 k).toInt < 0 := by
  have z1 := (h.2.1.2.2.1 k hk).2
  have z2 := (g.2.1.2.2.1 k (by rw [tb.1.1.2.2.2.1]; exact hk)).2
  rw [(tb.1.2.1 k hk).2.2] at z2
  by_cases q : 0 ≤ (R.a 49 k).toInt
  · have := z1.mpr (z2.mp q)
    omega
  · omega
set_option maxHeartbeats 4000000 in
theorem fo_five {N : Nat} (hN : 1000 ≤ N) {E1 : CS → Option (Unit × CS)} {E2 : CS → Option (Int32 × CS)} (hm1 : ∀ σ, Kf (CS.i σ 32) (E1 σ)) (hm2 : ∀ σ, Kf (CS.i σ 32) (E2 σ)) (hE : SXR N 18 E1) {d : Int32} {B : CS} {b : RS} {t0 T n : Nat} {L : List CEL} {x : Int} {S P : CS} {s q U : RS} {c : CEL} {W : Option Nat × CS} {R : Unit × CS} {x1 x2 x3 x4 x5 : Int32} {A : JBA} (hC : COR d B b t0 (c :: L) x S s) (q1 : TOP S s c) (q2 : LOW S s c) (q3 : T = ceT c + wid (S.o c.2.1 0)) (hT : t0 ≤ T) (hm : NMC c S) (hx : S.o c.2.1 0 = 303 → x = -3) (hB : BOT b S (c :: L)) (w : WAZ d T 3 7 1 (-2) 3 S s P q) (k64 : q.a 64 T = 12) (k65 : q.a 65 T = 5) (k71 : q.a 71 T = S.i 50) (k72 : q.a 72 T = x5) (n5 : NT5 x2 ∧ NT5 x4) (k66 : 0 ≤ (q.a 66 T).toInt) (jg : KU3 U s → JRW A U B b (vws S s (c :: L)) S s → JRG A U B b (vws S s (c :: L)) s [tv x4, tv x3, tv x2] (KF5 U x5 x1 x3 x4 (q.a 66 T).toNatClampNeg (pcC P) (pcR q)) (-2) 2 P q) (e : f_X7_forHead_76 N E1 E2 P x1 x2 x3 x4 x5 = some W) (e2 : f_X7_beginFor_85 N E1 E2 W.2 (S.i 50) W.1 = some R) (g : f_X12_parse_10 N n q = some U) : (¬ R.2.i 32 = 0 ∧ ¬ U.i 15 = 0) ∨ DMD d B R.2 U ∨ ∃ (m : Nat) (u : RS), f_X12_parse_10 N m u = some U ∧ NEW d B b t0 c L R.2 u (JTR A U B b (c :: L) S s) := by
  have hvS := hC.1
  have fW : ¬ W.2.i 32 = 0 → ¬ R.2.i 32 = 0 := fun z => by
    rw [kF_X7_beginFor_85 N E1 E2 hm1 hm2 W.2 (S.i 50) W.1 R e2 z]
    exact z
  -- the class, taken apart
  unfold f_X7_forHead_76 at e
  obtain ⟨p30, e30, e⟩ := hf_bind e
  obtain ⟨p34, e34, e⟩ := hf_bind e
  obtain ⟨p38, e38, e⟩ := hf_bind e
  obtain ⟨p42, e42, e⟩ := hf_bind e
  have f113 : ∀ Y : CS, f_X7_forHead_113 N E1 E2 Y x1 x2 x3 x4 x5 = some W → ¬ Y.i 32 = 0 → ¬ R.2.i 32 = 0 := fun Y h z => fW (by rw [kF_X7_forHead_113 N E1 E2 hm1 hm2 Y x1 x2 x3 x4 x5 W h z]; exact z)
  have cls : (¬ p38.2.i 43 = 2 ∧ f_X7_forHead_113 N E1 E2 p38.2 x1 x2 x3 x4 x5 = some W) ∨ (p38.2.i 43 = 2 ∧ ∃ p71 : Unit × CS, f_X7_changeHere N E1 E2 p38.2 1 = some p71 ∧ f_X7_forHead_113 N E1 E2 p71.2 x1 x2 x3 x4 x5 = some W) := by
    by_cases c2 : p38.2.i 43 = 2
    · rw [e_fnd1 c2] at e42
      cases e42
      rw [if_neg n10] at e
      obtain ⟨p71, e71, e⟩ := hf_bind e
      exact Or.inr ⟨c2, p71, e71, e⟩
    · rw [e_fnd0 c2] at e42
      cases e42
      rw [if_pos rfl] at e
      exact Or.inl ⟨c2, e⟩
  have f38 : ¬ p38.2.i 32 = 0 → ¬ R.2.i 32 = 0 := fun z => by
    rcases cls with ⟨-, h⟩ | ⟨-, p71, h1, h2⟩
    · exact f113 _ h z
    · refine f113 _ h2 ?_
      rw [kF_X7_changeHere N E1 E2 hm1 hm2 p38.2 1 p71 h1 z]
      exact z
  -- the reference
  obtain ⟨m2, V, hV, g2⟩ := rl_12 g w.2.1 w.1.1.2.1 k64
  unfold f_X12_fors at hV
  obtain ⟨-, hV⟩ := hf_ite hV
  rw [tp_nat w.2.1, if_neg (show ¬ q.a 65 T = 0 by rw [k65]; decide), if_neg (show ¬ q.a 65 T = 1 by rw [k65]; decide), if_neg (show ¬ q.a 65 T = 2 by rw [k65]; decide), if_neg (show ¬ q.a 65 T = 3 by rw [k65]; decide), if_neg (show ¬ q.a 65 T = 4 by rw [k65]; decide), if_pos k65, ob_id] at hV
  unfold f_X12_forBehind f_X12_forBehind_59 at hV
  obtain ⟨nd, hnd, hV⟩ := hf_bind hV
  obtain ⟨em, hem, hV⟩ := hf_bind hV
  obtain ⟨hib, hV⟩ := hf_ite hV
  rw [tp_nat w.2.1] at hV
  obtain ⟨em2, hem2, hV⟩ := hf_bind hV
  have lo := w.lo
  have ph0 := hvS.2.2.2.2.2.2.2.1
  rcases (w.ad e30).nd hN (c := 59) (e := 59) (Or.inl ⟨by decide, by decide⟩) (by decide) (by decide) (by decide) e34 hnd with ⟨o1, o2, o3⟩ | ⟨o1, w2, f2⟩
  · have z3 : ¬ em.2.i 15 = 0 := krf_f_X12_emit N nd.2 13 0 em hem o3
    have z6 : ¬ em2.2.i 15 = 0 := krf_f_X12_emit N _ 15 0 em2 hem2 z3
    rw [if_neg z6] at hV
    obtain ⟨-, hV⟩ := hf_ite hV
    cases hV
    exact Or.inl ⟨f38 (by rw [kF_X0_aim N p34.2 x2 p38 e38 o2]; exact o2), u_flt g2 z6⟩
  have lo2 := w2.lo
  obtain ⟨w3, f3, e20, n20, -⟩ := w2.em (by omega) hem
  have w3' := w3.sa (j := 67) (v := em.1) ⟨by omega, by omega⟩
  have lo3 := w3'.lo
  obtain ⟨w4, f4, e20', n20', -⟩ := w3'.em (by omega) hem2
  have w5 : WAZ d T 4 8 1 (-4) 4 S s p38.2 (RS.setA (RS.setA em2.2 68 T em2.1) 70 T (em2.2.i 20)) := (((w4.sa (j := 68) (v := em2.1) ⟨by omega, by omega⟩).sa (j := 70) (v := em2.2.i 20) ⟨by omega, by omega⟩).ai e38).nu (by omega) (by omega) (by omega) (by omega) (by omega)
  obtain ⟨ft2, -⟩ := FRB.ft (T := T) f2
  obtain ⟨ft3, -⟩ := FRB.ft (T := T) f3
  obtain ⟨ft4, -⟩ := FRB.ft (T := T) f4
  have ft23 := ft2.tr ft3
  have v64 : em2.2.a 64 T = 12 := by
    rw [ft4.1]
    show em.2.a 64 T = 12
    rw [ft23.1]
    exact k64
  have v67 : em2.2.a 67 T = em.1 := by
    rw [ft4.2.2.1]
    exact setA_at
  have v71 : em2.2.a 71 T = S.i 50 := by
    rw [ft4.2.2.2.2.2.2.1]
    show em.2.a 71 T = S.i 50
    rw [ft23.2.2.2.2.2.2.1]
    exact k71
  have v72 : em2.2.a 72 T = x5 := by
    rw [ft4.2.2.2.2.2.2.2.1]
    show em.2.a 72 T = x5
    rw [ft23.2.2.2.2.2.2.2.1]
    exact k72
  have n20'' : (em2.2.i 20).toInt = (nd.2.i 20).toInt + 2 := by
    rw [n20']
    show (em.2.i 20).toInt + 1 = _
    omega
  have e20'' : em2.1.toInt = (nd.2.i 20).toInt + 1 := by
    rw [e20']
    show (em.2.i 20).toInt = _
    exact n20
  obtain ⟨Y, hY⟩ : ∃ Y, Y = RS.setA (RS.setA em2.2 68 T em2.1) 70 T (em2.2.i 20) := ⟨_, rfl⟩
  have y64 : Y.a 64 T = 12 := by rw [hY]; exact v64
  have y67 : Y.a 67 T = em.1 := by rw [hY]; exact v67
  have y68 : Y.a 68 T = em2.1 := by
    rw [hY]
    show (RS.setA em2.2 68 T em2.1).a 68 T = em2.1
    exact setA_at
  have y71 : Y.a 71 T = S.i 50 := by rw [hY]; exact v71
  have y72 : Y.a 72 T = x5 := by rw [hY]; exact v72
  have yi : Y.i = em2.2.i := by rw [hY]; rfl
  have y66 : Y.a 66 T = q.a 66 T := by
    rw [hY]
    show em2.2.a 66 T = q.a 66 T
    rw [ft4.2.1]
    show em.2.a 66 T = q.a 66 T
    exact ft23.2.1
  have y70 : Y.a 70 T = em2.2.i 20 := by rw [hY]; exact setA_at
  have qY : qe Y = qe em2.2 := by rw [hY]; rfl
  have nY : NMV em2.2 Y := by rw [hY]; exact ⟨rfl, fun _ _ => rfl⟩
  have h20 := w.1.p20
  have jY : KU3 U s → JRW A U B b (vws S s (c :: L)) S s → JRG A U B b (vws S s (c :: L)) s [hv x2, sv em2.1, sv em.1, tv x4, tv x3] (JAN (JAN (KF6 U x5 x1 x3 x4 (pcC P) em2.1.toNatClampNeg em.1.toNatClampNeg (q.a 66 T).toNatClampNeg) (JLT (pcC P) (pcC p38.2))) (KF7 U x2 (em2.2.i 20) (pcC p38.2) (pcR Y))) (-2) 1 p38.2 Y := fun ku jw => by
    have g44 : (P.i 44).toInt = (q.i 11).toInt := by rw [w.1.p44.1]
    have g6 := (i11_hi w.1).2
    have g44' : (p34.2.i 44).toInt = (nd.2.i 11).toInt := by rw [w2.1.p44.1]
    have g6' := (i11_hi w2.1).2
    have nd20 := w2.1.p20
    have em20 := w3'.1.p20
    have em20' : ((RS.setA em.2 67 T em.1).i 20).toInt = (em.2.i 20).toInt := rfl
    have j1 := (jg ku jw).add e30 (by omega) (by omega)
    have j2 := j1.ned hN (w.ad e30).1 (c := 59) (c' := 59) (Or.inl ⟨by decide, by decide⟩) (by decide) (by decide) (by decide) e34 hnd o1
    have j3 := j2.ems hem ⟨nd20.1, by omega⟩
    have j4 := j3.se (u := RS.setA em.2 67 T em.1) rfl ⟨rfl, fun _ _ => rfl⟩
    have j5 := j4.ems hem2 ⟨em20.1, by omega⟩
    have j6 := JRG.aih (W1 := [sv em2.1, sv em.1, tv x4, tv x3]) (W2 := []) (K' := fun FC SF nm X ω j Z => (cTg SF x2).toInt = ((pcC p34.2 : Nat) : Int) ∧ (U.a 21 (pcR (RS.setA em.2 67 T em.1)) = 15 ∧ em2.1.toNatClampNeg = pcR (RS.setA em.2 67 T em.1) ∧ U.a 23 (pcR (RS.setA em.2 67 T em.1)) = 0 ∧ (((pcR (RS.setA em.2 67 T em.1) : Nat) : Int) < (U.i 20).toInt ∧ (U.i 20).toInt ≤ 3000) ∧ pcR em2.2 = pcR (RS.setA em.2 67 T em.1) + 1) ∧ (U.a 21 (pcR nd.2) = 13 ∧ em.1.toNatClampNeg = pcR nd.2 ∧ U.a 23 (pcR nd.2) = 0 ∧ (((pcR nd.2 : Nat) : Int) < (U.i 20).toInt ∧ (U.i 20).toInt ≤ 3000) ∧ pcR em.2 = pcR nd.2 + 1) ∧ (SF.a 15 (pcC P) = 30 ∧ SF.a 16 (pcC P) = x3 ∧ pcC P < 1200 ∧ pcC p30.2 = pcC P + 1) ∧ KF5 U x5 x1 x3 x4 (q.a 66 T).toNatClampNeg (pcC P) (pcR q) FC SF nm X ω j Z) j5 e38 (by omega) (by omega) (fun FC SF nm X ω j Z h k => ⟨h, k⟩)
    have j7 := j6.se qY nY
    have pn : pcR nd.2 = pcR q := pcR.qe (kre_f_X12_need N q 59 nd hnd)
    have i38 : p38.2.i 20 = p34.2.i 20 := by
      unfold f_X0_aim at e38
      cases e38
      rfl
    have pc38 : pcC p38.2 = pcC p34.2 := by unfold pcC; rw [i38]
    have prY : pcR Y = pcR em2.2 := pcR.qe qY
    have em2n := w5.1.p20
    rw [← hY, yi] at em2n
    refine j7.imp (by omega) (by omega) (fun FC SF nm X ω j Z hc hh tyc tl hω r12 k => ?_)
    obtain ⟨ct, ⟨u1, u2, u3, u4, u5⟩, ⟨v1, v2, v3, v4, v5⟩, ⟨s1, s2, s3, s4⟩, k5⟩ := k
    have pe1 : pcR (RS.setA em.2 67 T em.1) = pcR q + 1 := by
      show pcR em.2 = pcR q + 1
      rw [v5, pn]
    rw [pe1] at u1 u2 u4
    rw [pn] at v1 v2
    have pe30 : pcC p34.2 = pcC p30.2 := pcC.pe (ke_X1_expect N p30.2 59 p34 e34)
    refine ⟨⟨fun r4 r3 => ?_, (by show pcC P < pcC p38.2; omega)⟩, fun gu => ⟨pcC p38.2, pcR Y, by rw [pc38]; exact ct, by rw [prY]; exact (Int.toNat_of_nonneg em2n.1).symm, by unfold pcC; omega, ?_⟩⟩
    · rw [v2] at r4
      rw [u2] at r3
      exact k5 s1 s2 s3 v1 u1 u4 hc hω r4 r3
    · have z := gu 5
      have e9 : ω + (j.up 1264).l + 1264 - pcC p38.2 = ω + j.l + 2528 - pcC p38.2 := by
        show ω + (j.l + 1264) + 1264 - pcC p38.2 = _
        omega
      rw [e9]
      exact z
  rw [← hY] at hV w5
  clear hY
  rw [← yi] at hV
  have i41 := tk_is w5.1 (a := 41) (b := 41) (Or.inl ⟨by decide, by decide⟩) (by decide)
  have i2 := tk_is w5.1 (a := 2) (b := 2) (Or.inl ⟨by decide, by decide⟩) (by decide)
  have Y20 : (Y.i 20).toInt = (nd.2.i 20).toInt + 2 := by rw [yi]; exact n20''
  rw [if_pos w5.1.1.2.1] at hV
  by_cases c41 : Y.i 10 = 41
  · -- no update
    rw [if_pos c41] at hV
    obtain ⟨-, hV⟩ := hf_ite hV
    cases hV
    have k41 := i41.mpr c41
    rcases cls with ⟨-, h⟩ | ⟨c2, -⟩
    · exact fo_seven hN hC q1 q2 q3 hT hm hx hB (w5.sa (j := 65) (v := 7) ⟨by omega, by omega⟩) y64 setA_at y71 y72 ⟨by show (s.i 20).toInt ≤ (Y.a 67 T).toInt; rw [y67, e20]; omega, by show (Y.a 67 T).toInt < (Y.i 20).toInt; rw [y67, e20]; omega⟩ (by show (s.i 20).toInt ≤ (Y.a 68 T).toInt; rw [y68]; omega) n5 (by show 0 ≤ (Y.a 70 T).toInt; rw [y70]; have z := w5.1.p20.1; rw [yi] at z; exact z) ⟨by show 0 ≤ (Y.a 66 T).toInt; rw [y66]; exact k66, by show (Y.a 67 T).toInt < (Y.a 68 T).toInt; rw [y67, y68, e20]; omega⟩ (fun ku jw => by
      have z := (jY ku jw).se (u := RS.setA Y 65 T 7) rfl ⟨rfl, fun _ _ => rfl⟩
      show JRG A U B b (vws S s (c :: L)) s [hv x2, sv (Y.a 68 T), sv (Y.a 67 T), tv x4, tv x3] (JAN (JAN (KF6 U x5 x1 x3 x4 (pcC P) (Y.a 68 T).toNatClampNeg (Y.a 67 T).toNatClampNeg (Y.a 66 T).toNatClampNeg) (JLT (pcC P) (pcC p38.2))) (KF7 U x2 (Y.a 70 T) (pcC p38.2) (pcR (RS.setA Y 65 T 7)))) (-2) 1 p38.2 (RS.setA Y 65 T 7)
      rw [y68, y67, y66, y70]
      exact z) h e2 g2
    · rw [k41] at c2
      exact absurd c2 (by decide)
  rw [if_neg c41] at hV
  by_cases c2 : Y.i 10 = 2
  · rw [if_pos c2, y_can1 w5.1.1.2.1 (by rw [c2]; decide), ob_some, if_neg n10] at hV
    rcases cls with ⟨n2, -⟩ | ⟨-, p71, h1, h2⟩
    · exact absurd (i2.mpr c2) n2
    have k2 := i2.mpr c2
    have lq : p38.2.l = Y.l := w5.1.1.2.2.2.1.2.2.2.2.1 k2
    unfold f_X7_changeHere at h1
    obtain ⟨av, eav, h1⟩ := hf_bind h1
    obtain ⟨ch, ech, h1⟩ := hf_bind h1
    cases h1
    have h2' : f_X7_forHead_113 N E1 E2 ch.2 x1 x2 x3 x4 x5 = some W := h2
    have hV' : f_X12_forBehind_89 N Y (q.i 63) = some V := hV
    unfold f_X12_forBehind_89 at hV'
    obtain ⟨Q, hQ, hV'⟩ := hf_bind hV'
    obtain ⟨-, hV'⟩ := hf_ite hV'
    rw [tp_nat w.2.1] at hV'
    obtain ⟨nx, hnx, hV'⟩ := hf_bind hV'
    have ech0 := ech
    unfold f_X7_change at ech0
    obtain ⟨F, eF, -⟩ := hf_bind ech0
    have eF' : f_X4_find N av.2 Y.l = some F := by rw [← lq]; exact eF
    obtain ⟨F2, zz⟩ := y_got2 w5.1 (kc_X9_advance N p38.2 av eav) eF' hQ
    have cc := ch_cls eF F2 ech
    -- the reference's fault at the name
    have bad : ¬ Q.2.i 15 = 0 → ¬ U.i 15 = 0 := fun z => by
      have z1 : ¬ nx.i 15 = 0 := krf_f_X12_next N _ nx hnx (show ¬ (RS.setA Q.2 73 T Q.1).i 15 = 0 from z)
      refine u_flt g2 ?_
      by_cases d1 : nx.i 10 = 61
      · rw [if_pos d1, can_f z1, ob_some, if_pos rfl] at hV'
        cases hV'
        exact z1
      · rw [if_neg d1] at hV'
        by_cases d2 : nx.i 10 = 307
        · rw [if_pos d2, can_f z1, ob_some, if_pos rfl] at hV'
          cases hV'
          exact z1
        · rw [if_neg d2, can_f z1, ob_some, if_pos rfl] at hV'
          cases hV'
          exact z1
    rcases zz with ⟨y1, y2⟩ | ⟨y1, C, y2, y3, y4⟩
    · rcases cc with ⟨r1, -⟩ | ⟨r1, -⟩
      · exact Or.inl ⟨f113 _ h2' r1, bad y2⟩
      · exact absurd y1 r1
    rcases y4 with ⟨C0, Q2, kx, kx1, kx2, kx3, kx4⟩ | ⟨C1, Q15⟩
    · rw [Q2] at hnx
      have w6 := w5.sa (j := 73) (v := Q.1) ⟨by omega, by omega⟩
      obtain ⟨w7, f7⟩ := w6.nx hN (by rw [k2]; decide) eav hnx
      obtain ⟨ft7, -⟩ := FRB.ft (T := T) f7
      have i61 := tk_is w7.1 (a := 61) (b := 61) (Or.inl ⟨by decide, by decide⟩) (by decide)
      have i307 := tk_is w7.1 (a := 135) (b := 307) (Or.inl ⟨by decide, by decide⟩) (by decide)
      have nx64 : nx.a 64 T = 12 := ft7.1.trans y64
      have nx67 : nx.a 67 T = em.1 := ft7.2.2.1.trans y67
      have nx68 : nx.a 68 T = em2.1 := ft7.2.2.2.1.trans y68
      have nx71 : nx.a 71 T = S.i 50 := ft7.2.2.2.2.2.2.1.trans y71
      have nx72 : nx.a 72 T = x5 := ft7.2.2.2.2.2.2.2.1.trans y72
      have nx66 : nx.a 66 T = q.a 66 T := ft7.2.1.trans y66
      have nx70 : nx.a 70 T = em2.2.i 20 := ft7.2.2.2.2.2.1.trans y70
      have nx73 : nx.a 73 T = Q.1 := ft7.2.2.2.2.2.2.2.2.trans setA_at
      have tb7 : TBK (RS.setA Y 73 T Q.1) nx := (y_nx hN w6.1 w6.2.1 (by rw [k2]; decide) eav hnx).2.2.2.1
      have n49 : (av.2.a 49 kx).toInt < 0 := nm_fr w6.1 w7.1 tb7 kx2 kx3
      have n40 : nx.a 40 kx = Q.1 := ((tb7.1.2.1 kx kx2).2.1).trans kx4.symm
      have n38 : nx.i 38 = Y.i 38 := tb7.1.1.2.2.2.1
      have jN : KU3 U s → JRW A U B b (vws S s (c :: L)) S s → JRG A U B b (vws S s (c :: L)) s [hv x2, sv em2.1, sv em.1, tv x4, tv x3] (JAN (JAN (KF6 U x5 x1 x3 x4 (pcC P) em2.1.toNatClampNeg em.1.toNatClampNeg (q.a 66 T).toNatClampNeg) (JLT (pcC P) (pcC p38.2))) (KF7 U x2 (em2.2.i 20) (pcC p38.2) (pcR Y))) (-3) 0 av.2 nx := fun ku jw => ((jY ku jw).se (u := RS.setA Y 73 T Q.1) rfl ⟨rfl, fun _ _ => rfl⟩).adv hN w6.1 (by rw [k2]; decide) eav hnx
      have pcN : pcC av.2 = pcC p38.2 := pcC.pe (ke_X9_advance N p38.2 av eav)
      have prN : pcR nx = pcR (RS.setA Y 73 T Q.1) := pcR.qe (kre_f_X12_next N (RS.setA Y 73 T Q.1) nx hnx)
      have hk8 := (nms_hi w5.1).2
      have lo7 := w7.lo
      rcases cc with ⟨r1, r2⟩ | ⟨-, -, r3⟩
      · have ng : ¬ (av.2.i 43 = 61 ∨ (¬ (1 : Int32) = 0 ∧ av.2.i 43 = 135)) := by
          rcases r2 with r | r | r
          · exact absurd r y1
          · exact absurd C0 (r C y2)
          · exact r
        have d1 : ¬ nx.i 10 = 61 := fun z => ng (Or.inl (i61.mpr z))
        have d2 : ¬ nx.i 10 = 307 := fun z => ng (Or.inr ⟨n10, i307.mpr z⟩)
        rw [if_neg d1, if_neg d2] at hV'
        obtain ⟨f, hf, hV'⟩ := hf_bind hV'
        obtain ⟨fa, fb⟩ := y_can0 hf
        rw [if_pos fa] at hV'
        cases hV'
        exact Or.inl ⟨f113 _ h2' r1, u_flt g2 fb⟩
      · have go : f_X12_forBehind_143 N nx (q.i 63) = some V := by
          rcases r3 with ⟨r3, -⟩ | ⟨-, r3, -⟩
          · have k := i61.mp r3
            rw [if_pos k, y_can1 w7.1.1.2.1 (by rw [k]; decide), ob_some, if_neg n10] at hV'
            exact hV'
          · have k := i307.mp r3
            rw [if_neg (show ¬ nx.i 10 = 61 by rw [k]; decide), if_pos k, y_can1 w7.1.1.2.1 (by rw [k]; decide), ob_some, if_neg n10] at hV'
            exact hV'
        unfold f_X12_forBehind_143 f_X12_forBehind_159 at go
        rcases r3 with ⟨r3, v, xx, aa, ev, ex, eaa, hW⟩ | ⟨-, r3, v, aa, ev, eaa, hW⟩
        · -- NAME = EXPR
          have k := i61.mp r3
          rw [if_neg (show ¬ nx.i 10 = 307 by rw [k]; decide)] at go
          obtain ⟨n2, hn2, go⟩ := hf_bind go
          rw [if_pos rfl, ob_id] at go
          obtain ⟨w8, f8⟩ := w7.nx hN (by rw [r3]; decide) ev hn2
          have lo8 := w8.lo
          rcases y_expr hN hm1 hm2 hE w8.1 w8.2.1 (by omega) ex go g2 with ⟨z1, z2⟩ | ⟨m3, u, g3, xo, xc⟩
          · refine Or.inl ⟨f113 _ h2' ?_, z2⟩
            rw [hW, fst_add eaa]
            exact z1
          have w9 := w8.exo xo
          obtain ⟨ft8, -⟩ := FRB.ft (T := T) f8
          obtain ⟨ft9, u65⟩ := xo.ft
          have ft89 := ft8.tr ft9
          have lo9 := w9.lo
          obtain ⟨m4, V4, hV4, g4⟩ := rl_12 g3 w9.2.1 w9.1.1.2.1 (ft89.1.trans nx64)
          unfold f_X12_fors at hV4
          obtain ⟨-, hV4⟩ := hf_ite hV4
          rw [tp_nat w9.2.1, if_neg (show ¬ u.a 65 T = 0 by rw [u65]; decide), if_neg (show ¬ u.a 65 T = 1 by rw [u65]; decide), if_neg (show ¬ u.a 65 T = 2 by rw [u65]; decide), if_neg (show ¬ u.a 65 T = 3 by rw [u65]; decide), if_neg (show ¬ u.a 65 T = 4 by rw [u65]; decide), if_neg (show ¬ u.a 65 T = 5 by rw [u65]; decide), if_pos u65] at hV4
          obtain ⟨em3, hem3, hV4⟩ := hf_bind hV4
          cases hV4
          obtain ⟨w10, f10, -, n10', -⟩ := w9.em (by omega) hem3
          obtain ⟨ft10, -⟩ := FRB.ft (T := T) f10
          have ft := ft89.tr ft10
          have l20 : (Y.i 20).toInt ≤ (em3.2.i 20).toInt := by
            have z1 := w8.2.2.2.1.2.1.1
            have z2 : (n2.i 20).toInt ≤ (u.i 20).toInt := xo.2.2.2.2.1.2.1
            have z3 : (nx.i 20).toInt ≤ (n2.i 20).toInt := (y_nx hN w7.1 w7.2.1 (by rw [r3]; decide) ev hn2).2.2.2.1.2.1
            have z4 : (Y.i 20).toInt ≤ (nx.i 20).toInt := (y_nx hN w6.1 w6.2.1 (by rw [k2]; decide) eav hnx).2.2.2.1.2.1
            omega
          have w11 : WAZ d T 4 8 1 (-4) 4 S s aa.2 em3.2 := (w10.ad eaa).nu (by omega) (by omega) (by omega) (by omega) (by omega)
          rw [← hW] at w11
          exact fo_seven hN hC q1 q2 q3 hT hm hx hB (w11.sa (j := 65) (v := 7) ⟨by omega, by omega⟩) (ft.1.trans nx64) setA_at (ft.2.2.2.2.2.2.1.trans nx71) (ft.2.2.2.2.2.2.2.1.trans nx72) ⟨by show (s.i 20).toInt ≤ (em3.2.a 67 T).toInt; rw [ft.2.2.1, nx67, e20]; omega, by show (em3.2.a 67 T).toInt < (em3.2.i 20).toInt; rw [ft.2.2.1, nx67, e20]; omega⟩ (by show (s.i 20).toInt ≤ (em3.2.a 68 T).toInt; rw [ft.2.2.2.1, nx68]; omega) n5 (by show 0 ≤ (em3.2.a 70 T).toInt; rw [ft.2.2.2.2.2.1, nx70]; have z := w5.1.p20.1; rw [yi] at z; exact z) ⟨by show 0 ≤ (em3.2.a 66 T).toInt; rw [ft.2.1, nx66]; exact k66, by show (em3.2.a 67 T).toInt < (em3.2.a 68 T).toInt; rw [ft.2.2.1, nx67, ft.2.2.2.1, nx68, e20]; omega⟩ (fun ku jw => by
            have pcv : pcC v.2 = pcC p38.2 := (pcC.pe (ke_X9_advance N av.2 v ev)).trans pcN
            have prv : pcR n2 = pcR Y := (pcR.qe (kre_f_X12_next N nx n2 hn2)).trans prN
            have j1 := (jN ku jw).adv hN w7.1 (by rw [r3]; decide) ev hn2
            unfold KF7 at j1
            rw [← pcv, ← prv] at j1
            have j2 := j1.frl w8.1 xo xc (by omega) (by omega) (by omega) (by have := w8.lo; omega) (by have := w8.2.2.2.2.2.2.1.2.2.2; omega)
            have tb8 : TBK nx n2 := (y_nx hN w7.1 w7.2.1 (by rw [r3]; decide) ev hn2).2.2.2.1
            have tb9 : TBK nx u := tb8.tr xo.2.2.2.2.1
            have kn : (kx : Int) < (nx.i 38).toInt := by rw [n38]; exact kx2
            have u73 : u.a 73 T = Q.1 := ft89.2.2.2.2.2.2.2.2.trans nx73
            have g44 : (xx.2.i 44).toInt = (u.i 11).toInt := by rw [w9.1.p44.1]
            have g6 := (i11_hi w9.1).2
            have u20 := w9.1.p20
            have j3 := j2.sto (k := kx) eaa (by omega) (by omega) hem3 ⟨u20.1, by omega⟩ (by rw [tb9.1.1.2.2.2.1]; exact kn) (nm_fr w7.1 w9.1 tb9 kn n49) (gat_k kx1 (by omega)) (by rw [u73, (tb9.1.2.1 kx kn).2.1]; exact n40.symm)
            rw [← hW] at j3
            have z := (j3.imp (a1 := -2) (e1 := 1) (K' := JAN (JAN (KF6 U x5 x1 x3 x4 (pcC P) em2.1.toNatClampNeg em.1.toNatClampNeg (q.a 66 T).toNatClampNeg) (JLT (pcC P) (pcC ch.2))) (KF7 U x2 (em2.2.i 20) (pcC ch.2) (pcR em3.2))) (by omega) (by omega) (fun _ _ _ _ _ _ _ _ _ _ _ _ _ k => ⟨⟨k.1.1.1.1, (by
              have z1 : pcC P < pcC v.2 := k.1.1.1.2
              have z2 : pcC v.2 < pcC xx.2 + 1 := k.1.1.2
              have z3 : pcC xx.2 < pcC ch.2 := k.1.2
              show pcC P < pcC ch.2
              omega)⟩, k.2⟩)).se (u := RS.setA em3.2 65 T 7) rfl ⟨rfl, fun _ _ => rfl⟩
            show JRG A U B b (vws S s (c :: L)) s [hv x2, sv (em3.2.a 68 T), sv (em3.2.a 67 T), tv x4, tv x3] (JAN (JAN (KF6 U x5 x1 x3 x4 (pcC P) (em3.2.a 68 T).toNatClampNeg (em3.2.a 67 T).toNatClampNeg (em3.2.a 66 T).toNatClampNeg) (JLT (pcC P) (pcC ch.2))) (KF7 U x2 (em3.2.a 70 T) (pcC ch.2) (pcR (RS.setA em3.2 65 T 7)))) (-2) 1 ch.2 (RS.setA em3.2 65 T 7)
            rw [ft.2.2.2.1.trans nx68, ft.2.2.1.trans nx67, ft.2.1.trans nx66, ft.2.2.2.2.2.1.trans nx70]
            exact z) h2' e2 g4
        · -- NAME ++
          have k := i307.mp r3
          rw [if_pos k] at go
          obtain ⟨n2, hn2, go⟩ := hf_bind go
          rw [if_neg n10] at go
          obtain ⟨-, go⟩ := hf_ite go
          rw [tp_nat w.2.1] at go
          obtain ⟨em3, hem3, go⟩ := hf_bind go
          cases go
          obtain ⟨w8, f8⟩ := w7.nx hN (by rw [r3]; decide) ev hn2
          have lo8 := w8.lo
          obtain ⟨w10, f10, -, n10', -⟩ := w8.em (by omega) hem3
          obtain ⟨ft8, -⟩ := FRB.ft (T := T) f8
          obtain ⟨ft10, -⟩ := FRB.ft (T := T) f10
          have ft := ft8.tr ft10
          have l20 : (Y.i 20).toInt ≤ (em3.2.i 20).toInt := by
            have z3 : (nx.i 20).toInt ≤ (n2.i 20).toInt := (y_nx hN w7.1 w7.2.1 (by rw [r3]; decide) ev hn2).2.2.2.1.2.1
            have z4 : (Y.i 20).toInt ≤ (nx.i 20).toInt := (y_nx hN w6.1 w6.2.1 (by rw [k2]; decide) eav hnx).2.2.2.1.2.1
            omega
          have w11 : WAZ d T 4 8 1 (-4) 4 S s aa.2 em3.2 := (w10.ad eaa).nu (by omega) (by omega) (by omega) (by omega) (by omega)
          rw [← hW] at w11
          exact fo_seven hN hC q1 q2 q3 hT hm hx hB (w11.sa (j := 65) (v := 7) ⟨by omega, by omega⟩) (ft.1.trans nx64) setA_at (ft.2.2.2.2.2.2.1.trans nx71) (ft.2.2.2.2.2.2.2.1.trans nx72) ⟨by show (s.i 20).toInt ≤ (em3.2.a 67 T).toInt; rw [ft.2.2.1, nx67, e20]; omega, by show (em3.2.a 67 T).toInt < (em3.2.i 20).toInt; rw [ft.2.2.1, nx67, e20]; omega⟩ (by show (s.i 20).toInt ≤ (em3.2.a 68 T).toInt; rw [ft.2.2.2.1, nx68]; omega) n5 (by show 0 ≤ (em3.2.a 70 T).toInt; rw [ft.2.2.2.2.2.1, nx70]; have z := w5.1.p20.1; rw [yi] at z; exact z) ⟨by show 0 ≤ (em3.2.a 66 T).toInt; rw [ft.2.1, nx66]; exact k66, by show (em3.2.a 67 T).toInt < (em3.2.a 68 T).toInt; rw [ft.2.2.1, nx67, ft.2.2.2.1, nx68, e20]; omega⟩ (fun ku jw => by
            have pcv : pcC v.2 = pcC p38.2 := (pcC.pe (ke_X9_advance N av.2 v ev)).trans pcN
            have prv : pcR n2 = pcR Y := (pcR.qe (kre_f_X12_next N nx n2 hn2)).trans prN
            have j1 := (jN ku jw).adv hN w7.1 (by rw [r3]; decide) ev hn2
            unfold KF7 at j1
            rw [← pcv, ← prv] at j1
            have tb8 : TBK nx n2 := (y_nx hN w7.1 w7.2.1 (by rw [r3]; decide) ev hn2).2.2.2.1
            have kn : (kx : Int) < (nx.i 38).toInt := by rw [n38]; exact kx2
            have u73 : n2.a 73 T = Q.1 := ft8.2.2.2.2.2.2.2.2.trans nx73
            have g44 : (v.2.i 44).toInt = (n2.i 11).toInt := by rw [w8.1.p44.1]
            have g6 := (i11_hi w8.1).2
            have u20 := w8.1.p20
            have j3 := j1.inc (k := kx) eaa (by omega) (by omega) hem3 ⟨u20.1, by omega⟩ (by rw [tb8.1.1.2.2.2.1]; exact kn) (nm_fr w7.1 w8.1 tb8 kn n49) (gat_k kx1 (by omega)) (by rw [u73, (tb8.1.2.1 kx kn).2.1]; exact n40.symm)
            rw [← hW] at j3
            have z := (j3.imp (a1 := -2) (e1 := 1) (K' := JAN (JAN (KF6 U x5 x1 x3 x4 (pcC P) em2.1.toNatClampNeg em.1.toNatClampNeg (q.a 66 T).toNatClampNeg) (JLT (pcC P) (pcC ch.2))) (KF7 U x2 (em2.2.i 20) (pcC ch.2) (pcR em3.2))) (by omega) (by omega) (fun _ _ _ _ _ _ _ _ _ _ _ _ _ k => ⟨⟨k.1.1.1, (by
              have z1 : pcC P < pcC v.2 := k.1.1.2
              have z3 : pcC v.2 < pcC ch.2 := k.1.2
              show pcC P < pcC ch.2
              omega)⟩, k.2⟩)).se (u := RS.setA em3.2 65 T 7) rfl ⟨rfl, fun _ _ => rfl⟩
            show JRG A U B b (vws S s (c :: L)) s [hv x2, sv (em3.2.a 68 T), sv (em3.2.a 67 T), tv x4, tv x3] (JAN (JAN (KF6 U x5 x1 x3 x4 (pcC P) (em3.2.a 68 T).toNatClampNeg (em3.2.a 67 T).toNatClampNeg (em3.2.a 66 T).toNatClampNeg) (JLT (pcC P) (pcC ch.2))) (KF7 U x2 (em3.2.a 70 T) (pcC ch.2) (pcR (RS.setA em3.2 65 T 7)))) (-2) 1 ch.2 (RS.setA em3.2 65 T 7)
            rw [ft.2.2.2.1.trans nx68, ft.2.2.1.trans nx67, ft.2.1.trans nx66, ft.2.2.2.2.2.1.trans nx70]
            exact z) h2' e2 g2
    · rcases cc with ⟨r1, -⟩ | ⟨-, r2, -⟩
      · exact Or.inl ⟨f113 _ h2' r1, bad Q15⟩
      · exact absurd (r2 C y2) C1
  · -- neither
    rw [if_neg c2] at hV
    obtain ⟨f, hf, hV⟩ := hf_bind hV
    obtain ⟨fa, fb⟩ := y_can0 hf
    rw [if_pos fa] at hV
    cases hV
    rcases cls with ⟨n2, h⟩ | ⟨k2, -⟩
    · have h' := h
      unfold f_X7_forHead_113 at h'
      obtain ⟨p47, e47, h'⟩ := hf_bind h'
      have z := y_cl0 (fun z => c41 (i41.mp z)) e47
      refine Or.inl ⟨fW ?_, u_flt g2 fb⟩
      obtain ⟨p51, e51, h'⟩ := hf_bind h'
      obtain ⟨p55, e55, h'⟩ := hf_bind h'
      obtain ⟨p59, e59, h'⟩ := hf_bind h'
      obtain ⟨p63, e63, h'⟩ := hf_bind h'
      have z1 : ¬ p51.2.i 32 = 0 := by rw [fst_add e51]; exact z
      have z2 : ¬ p55.2.i 32 = 0 := by rw [kF_X0_aim N p51.2 x3 p55 e55 z1]; exact z1
      have z3 : ¬ p59.2.i 32 = 0 := by rw [fst_add e59]; exact z2
      have z4 : ¬ p63.2.i 32 = 0 := by rw [kF_X7_pushLoop N p59.2 207 x2 x4 p63 e63 z3]; exact z3
      rcases hf_oc h' with ⟨-, y⟩ | ⟨a, -, y⟩
      · cases y
      · obtain ⟨-, y⟩ := hf_ite y
        obtain ⟨-, y⟩ := hf_ite y
        cases y
        exact z4
    · exact absurd (i2.mp k2) c2
