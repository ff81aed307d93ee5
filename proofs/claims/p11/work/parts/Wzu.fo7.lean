/-! both readers: for, from its head's end -/
/-- the test is good -/
def TG1 (FC : Nat → Prop) (SF : CS) (U : RS) (nm : Nat → Nat → Prop) (X : Als) (x : Int32) (qt ω : Nat) (j : JCT) : Prop := ∃ p : Nat, (cTg SF x).toInt = (p : Int) ∧ p ≤ 1200 ∧ ∀ g : Nat, GU FC SF U nm X p qt j.h (ω + j.l + 1264 - p) g j.c
/-- as PRN, behind p0 -/
def PRF (FC : Nat → Prop) (SF : CS) (U : RS) (nm : Nat → Nat → Prop) (X : Als) (p0 : Nat) (x : Int32) (i : Nat) (ω : Nat) (j : JCT) : Prop := ∃ p q : Nat, p0 < p ∧ (cTg SF x).toInt = (p : Int) ∧ (U.a 22 i).toInt = (q : Int) ∧ GU FC SF U nm X p q j.h (ω + j.l - p) 0 j.c
/-- behind the test: where its two jumps lead to good places, all before is good -/
def KF6 (U : RS) (x5 x1 x3 x4 : Int32) (p0 f3 f4 qt : Nat) : JKT := fun FC SF nm X ω j Z => (¬ x5 = 1 → PRN FC SF U nm X x4 f4 ω j) → PRF FC SF U nm X p0 x3 f3 ω (j.up 1264) → Z ∧ TG1 FC SF U nm X x1 qt ω j
/-- the update: where this place is good, the head is -/
def KF7 (U : RS) (x2 : Int32) (qn : Int32) (p q : Nat) : JKT := JQA U 2528 0 p q (fun FC SF nm X ω j _ => HE5 FC SF U nm X x2 qn ω (j.up 1264))
set_option maxHeartbeats 4000000 in
theorem fo_seven {N : Nat} (hN : 1000 ≤ N) {E1 : CS → Option (Unit × CS)} {E2 : CS → Option (Int32 × CS)} {d : Int32} {B : CS} {b : RS} {t0 T n : Nat} {L : List CEL} {x : Int} {S P : CS} {s q U : RS} {c : CEL} {W : Option Nat × CS} {R : Unit × CS} {x1 x2 x3 x4 x5 : Int32} {p0 : Nat} {A : JBA} (hC : COR d B b t0 (c :: L) x S s) (q1 : TOP S s c) (q2 : LOW S s c) (q3 : T = ceT c + wid (S.o c.2.1 0)) (hT : t0 ≤ T) (hm : NMC c S) (hx : S.o c.2.1 0 = 303 → x = -3) (hB : BOT b S (c :: L)) (w : WAZ d T 4 8 1 (-4) 4 S s P q) (k64 : q.a 64 T = 12) (k65 : q.a 65 T = 7) (k71 : q.a 71 T = S.i 50) (k72 : q.a 72 T = x5) (k67 : (s.i 20).toInt ≤ (q.a 67 T).toInt ∧ (q.a 67 T).toInt < (q.i 20).toInt) (k68 : (s.i 20).toInt ≤ (q.a 68 T).toInt) (n5 : NT5 x2 ∧ NT5 x4) (k70 : 0 ≤ (q.a 70 T).toInt) (k66 : 0 ≤ (q.a 66 T).toInt ∧ (q.a 67 T).toInt < (q.a 68 T).toInt) (jg : KU3 U s → JRW A U B b (vws S s (c :: L)) S s → JRG A U B b (vws S s (c :: L)) s [hv x2, sv (q.a 68 T), sv (q.a 67 T), tv x4, tv x3] (JAN (JAN (KF6 U x5 x1 x3 x4 p0 (q.a 68 T).toNatClampNeg (q.a 67 T).toNatClampNeg (q.a 66 T).toNatClampNeg) (JLT p0 (pcC P))) (KF7 U x2 (q.a 70 T) (pcC P) (pcR q))) (-2) 1 P q) (e : f_X7_forHead_113 N E1 E2 P x1 x2 x3 x4 x5 = some W) (e2 : f_X7_beginFor_85 N E1 E2 W.2 (S.i 50) W.1 = some R) (g : f_X12_parse_10 N n q = some U) : (¬ R.2.i 32 = 0 ∧ ¬ U.i 15 = 0) ∨ DMD d B R.2 U ∨ ∃ (m : Nat) (u : RS), f_X12_parse_10 N m u = some U ∧ NEW d B b t0 c L R.2 u (JTR A U B b (c :: L) S s) := by
  have hvS := hC.1
  -- the class, taken apart
  unfold f_X7_forHead_113 at e
  obtain ⟨p47, e47, e⟩ := hf_bind e
  obtain ⟨p51, e51, e⟩ := hf_bind e
  obtain ⟨p55, e55, e⟩ := hf_bind e
  obtain ⟨p59, e59, e⟩ := hf_bind e
  obtain ⟨p63, e63, e⟩ := hf_bind e
  obtain ⟨pp, a, epp, ra, hp63⟩ := pl_in e63
  rw [hp63] at e
  have e' : (if x5 = 0 ∨ x5 = 1 then if oK (CS.setO (CS.setO pp.2 a 10 x2) a 9 x4) a 0 then some ((some a), CS.setO (CS.setO (CS.setO pp.2 a 10 x2) a 9 x4) a 7 x5) else none else none) = some W := e
  obtain ⟨b01, e'⟩ := hf_ite e'
  obtain ⟨-, e'⟩ := hf_ite e'
  cases e'
  have e2' : (if oK (CS.setO (CS.setO (CS.setO pp.2 a 10 x2) a 9 x4) a 7 x5) a 0 then some ((), CS.setO (CS.setO (CS.setO (CS.setO pp.2 a 10 x2) a 9 x4) a 7 x5) a 3 (S.i 50)) else none) = some R := e2
  obtain ⟨-, e2'⟩ := hf_ite e2'
  cases e2'
  have f47 : ¬ p47.2.i 32 = 0 → ¬ pp.2.i 32 = 0 := fun z => by
    have z1 : ¬ p51.2.i 32 = 0 := by rw [fst_add e51]; exact z
    have z2 : ¬ p55.2.i 32 = 0 := by rw [kF_X0_aim N p51.2 x3 p55 e55 z1]; exact z1
    have z3 : ¬ p59.2.i 32 = 0 := by rw [fst_add e59]; exact z2
    rw [kF_X6_push N p59.2 207 _ _ pp epp z3]
    exact z3
  show (¬ pp.2.i 32 = 0 ∧ ¬ U.i 15 = 0) ∨ DMD d B (CS.setO (CS.setO (CS.setO (CS.setO pp.2 a 10 x2) a 9 x4) a 7 x5) a 3 (S.i 50)) U ∨ ∃ (m : Nat) (u : RS), f_X12_parse_10 N m u = some U ∧ NEW d B b t0 c L (CS.setO (CS.setO (CS.setO (CS.setO pp.2 a 10 x2) a 9 x4) a 7 x5) a 3 (S.i 50)) u (JTR A U B b (c :: L) S s)
  -- the reference
  obtain ⟨m2, V, hV, g2⟩ := rl_12 g w.2.1 w.1.1.2.1 k64
  unfold f_X12_fors at hV
  obtain ⟨-, hV⟩ := hf_ite hV
  rw [tp_nat w.2.1, if_neg (show ¬ q.a 65 T = 0 by rw [k65]; decide), if_neg (show ¬ q.a 65 T = 1 by rw [k65]; decide), if_neg (show ¬ q.a 65 T = 2 by rw [k65]; decide), if_neg (show ¬ q.a 65 T = 3 by rw [k65]; decide), if_neg (show ¬ q.a 65 T = 4 by rw [k65]; decide), if_neg (show ¬ q.a 65 T = 5 by rw [k65]; decide), if_neg (show ¬ q.a 65 T = 6 by rw [k65]; decide), if_pos k65] at hV
  obtain ⟨em, hem, hV⟩ := hf_bind hV
  obtain ⟨sh, hsh, hV⟩ := hf_bind hV
  obtain ⟨hib, hV⟩ := hf_ite hV
  obtain ⟨em2, hem2, hV⟩ := hf_bind hV
  obtain ⟨G, hG, hV⟩ := hf_bind hV
  rw [ob_id] at hV
  have lo := w.lo
  have ph0 := hvS.2.2.2.2.2.2.2.1
  obtain ⟨w1, f1, e20, n20, -⟩ := w.em (by omega) hem
  rcases w1.cl hN hvS (by omega) (c := 41) (e := 41) (Or.inl ⟨by decide, by decide⟩) (by decide) (by decide) (by decide) e47 hsh with ⟨o1, o2, o3⟩ | ⟨o1, w2, f2, sh20⟩
  · refine Or.inl ⟨f47 o2, u_flt g2 (krf_f_X12_body N _ 8 V hV ?_)⟩
    show ¬ G.2.i 15 = 0
    exact krf_f_X12_loopGoal N em2.2 G hG (krf_f_X12_emit N _ 1 0 em2 hem2 o3)
  obtain ⟨ft1, -⟩ := FRB.ft (T := T) f1
  obtain ⟨ft2, -⟩ := FRB.ft (T := T) f2
  have ft12 := ft1.tr ft2
  have c68 := clampI hib.1
  rw [ft12.2.2.2.1] at c68 hib hem2
  have w3 := w2.s22 (j := (q.a 68 T).toNatClampNeg) (v := sh.2.i 20) (by omega)
  have lo3 := w3.lo
  obtain ⟨w4, f4, e20', n20', -⟩ := w3.em (by omega) hem2
  obtain ⟨ft4, -⟩ := FRB.ft (T := T) f4
  have fq : FT T q em2.2 := ft12.tr ((show FT T sh.2 (RS.setA sh.2 22 (q.a 68 T).toNatClampNeg (sh.2.i 20)) from ⟨rfl, rfl, rfl, rfl, rfl, rfl, rfl, rfl, rfl⟩).tr ft4)
  have w5 : WAZ d T 5 9 0 (-6) 5 S s p59.2 em2.2 := (((w4.ad e51).ai e55).ad e59).nu (by omega) (by omega) (by omega) (by omega) (by omega)
  have s20 : (q.i 20).toInt ≤ (em2.2.i 20).toInt := by
    have z1 : (em.2.i 20).toInt ≤ (sh.2.i 20).toInt := by
      rw [sh20]
      exact Int.le_refl _
    have z2 : ((RS.setA sh.2 22 (q.a 68 T).toNatClampNeg (sh.2.i 20)).i 20) = sh.2.i 20 := rfl
    rw [z2] at n20'
    omega
  -- the class's row
  have lo5 := w5.lo
  have q54 := hC.2.2.2.2.2.2.2.2.1.2.2
  have t21 := hC.2.2.2.2.2.2.2.2.1.1
  have sgP := w5.sg hvS
  obtain ⟨a', m, ra', psr, evR, sq⟩ := w5.1.row (v := 207) ⟨by decide, by decide, by decide, by decide⟩ (w5.pay hvS (by omega)) (by rw [if_neg (by decide), if_neg (by decide)]; exact sgP) (by omega) epp
  have ea : a' = a := by
    rw [ra] at ra'
    cases ra'
    rfl
  rw [ea] at psr sq
  have f0x := psr.2.2.2.2.2.2.2.2.2.1
  have sqX := (((sq.so (k := 10) (w := x2) ⟨by decide, by decide, by decide, by decide⟩).so (k := 9) (w := x4) ⟨by decide, by decide, by decide, by decide⟩).so (k := 7) (w := x5) ⟨by decide, by decide, by decide, by decide⟩).so3 (w := S.i 50)
  have evX : ENV d (CS.setO (CS.setO (CS.setO (CS.setO pp.2 a 10 x2) a 9 x4) a 7 x5) a 3 (S.i 50)) em2.2 := (((evR.so (by decide)).so (by decide)).so (by decide)).so (by decide)
  have o5X : (CS.setO (CS.setO (CS.setO (CS.setO pp.2 a 10 x2) a 9 x4) a 7 x5) a 3 (S.i 50)).o a 5 = 0 := ((so_nk (by decide)).trans ((so_nk (by decide)).trans ((so_nk (by decide)).trans (so_nk (by decide))))).trans f0x.1
  have o7X : (CS.setO (CS.setO (CS.setO (CS.setO pp.2 a 10 x2) a 9 x4) a 7 x5) a 3 (S.i 50)).o a 7 = x5 := (so_nk (by decide)).trans so_at
  have x38 : (CS.setO (CS.setO (CS.setO (CS.setO pp.2 a 10 x2) a 9 x4) a 7 x5) a 3 (S.i 50)).i 38 = p59.2.i 38 := psr.2.1 38 (by decide) (by decide)
  have x21' : (CS.setO (CS.setO (CS.setO (CS.setO pp.2 a 10 x2) a 9 x4) a 7 x5) a 3 (S.i 50)).i 21 = p59.2.i 21 := psr.2.1 21 (by decide) (by decide)
  obtain ⟨X, hX⟩ : ∃ X, X = CS.setO (CS.setO (CS.setO (CS.setO pp.2 a 10 x2) a 9 x4) a 7 x5) a 3 (S.i 50) := ⟨_, rfl⟩
  have peX : pe X = pe pp.2 := by rw [hX]; rfl
  have aX : X.a = pp.2.a := by rw [hX]; rfl
  have iX : X.i = pp.2.i := by rw [hX]; rfl
  have oX10 : X.o a 10 = x2 := by rw [hX]; exact (so_nk (by decide)).trans ((so_nk (by decide)).trans ((so_nk (by decide)).trans so_at))
  have oX9 : X.o a 9 = x4 := by rw [hX]; exact (so_nk (by decide)).trans ((so_nk (by decide)).trans so_at)
  have oX2 : X.o a 2 = X.i 38 := by rw [iX, psr.2.1 38 (by decide) (by decide), ← psh_o2 epp ra, hX]; exact (so_nk (by decide)).trans ((so_nk (by decide)).trans ((so_nk (by decide)).trans (so_nk (by decide))))
  rw [← hX] at evX sqX o5X o7X x38 x21' ⊢
  clear hX
  obtain ⟨zX, ⟨r53, r54, -, -⟩, ⟨r50, -, -⟩, -, ⟨g0, -, g3', -⟩, -⟩ := id sqX
  refine Or.inr (lp_tail hC q1 q2 q3 hT hm hx hB w5 (by omega) (Or.inr (Or.inr (Or.inl rfl))) sqX g3' x38 o5X (fun z => by rcases z with z | z <;> exact absurd z (by decide)) (FRB.rf T _) (TBK.rf _).t9 w5.2.1 evX hG (Or.inr rfl) hV g2 ⟨Int.le_refl _, ?_, Int.le_refl _, by have := w5.2.2.2.2.2.2.1.2.2.2; omega⟩ (by rw [x21']; omega) (by rw [r54]; omega) ⟨rfl, rfl, rfl, rfl⟩ (fun u g w hu h1 h2 h3 => ?_) (fun u c1 k h1 h2 hu h3 => ?_) (fun u' c1 v2 v3 qu un uj uf R36 lpf pls ku jw => ?_))
  · show phI s + 1 ≤ phI em2.2
    omega
  · exact RFR.m207 g0 ⟨(hu 64 (by decide) (by decide) (by decide) (by decide)).trans (fq.1.trans k64), h1, h2, (hu 71 (by decide) (by decide) (by decide) (by decide)).trans (fq.2.2.2.2.2.2.1.trans (k71.trans g3'.symm)), (hu 72 (by decide) (by decide) (by decide) (by decide)).trans (fq.2.2.2.2.2.2.2.1.trans (k72.trans o7X.symm)), h3⟩
  · have hk : k = (q.a 67 T).toInt := by
      unfold PLF at h3
      rw [h1, g0, h2] at h3
      rcases h3 with ⟨z | z, -⟩ | ⟨z, -⟩ | ⟨-, z⟩
      · exact absurd z (by decide)
      · exact absurd z (by decide)
      · exact absurd z (by decide)
      · rw [z, hu 67 (by decide) (by decide) (by decide) (by decide), fq.2.2.1]
    omega
  · have hin := hC.inl q1 q3
    have ckall : CKZ S X := w5.2.2.2.2.1.tr w5.2.2.2.2.2.1.2.1 zX
    have veq : vws X u' (c :: L) = vws S s (c :: L) := vws.eqf (T := T) (uf.2) (c :: L) hC.o3 (fun y hy => (hin.o ckall y hy).1) (fun k t h1 h2 h3 => (uf.1 k t h1 h2 h3).trans (w5.2.2.1.fld k t h1 h2 h3)) (fun y hy => by
      have z1 := wid1 (S.o y.2.1 0)
      have z2 := (hin y hy).2.2.1
      omega)
    show JRW A U B b (vw X u' c1 :: vws X u' (c :: L)) X u'
    rw [veq] at pls ⊢
    have pa1 := psr.1.1
    have h20 := w.1.p20
    have hb := hC.2.2.2.2.2.1.2.2.1.1
    have j0 := jg ku jw
    have j1 := j0.emt hem ⟨h20.1, by omega⟩
    have j2 := j1.cls hN w1.1 (by have := w1.sg hvS; omega) (c := 41) (c' := 41) (Or.inl ⟨by decide, by decide⟩) (by decide) (by decide) (by decide) e47 hsh o1
    have g44 : (p47.2.i 44).toInt = (sh.2.i 11).toInt := by rw [w2.1.p44.1]
    have g6 := (i11_hi w2.1).2
    have j3 := j2.add e51 (by omega) (by omega)
    have pc47 : pcC p47.2 = pcC P := pcC.pe (ke_X1_close N P 41 p47 e47)
    have c66 := clampI k66.1
    have j4 := j3.imp (a1 := -2) (e1 := 0) (K' := fun FC SF nm X ω j Z => p0 < pcC p51.2 ∧ ((¬ x5 = 1 → PRN FC SF U nm X x4 (q.a 67 T).toNatClampNeg ω j) → PRF FC SF U nm X p0 x3 (q.a 68 T).toNatClampNeg ω (j.up 1264) → Z ∧ HE5 FC SF U nm X x2 (q.a 70 T) ω (j.up 1264))) (by omega) (by omega) (fun FC SF nm X ω j Z hc hh tyc tl hω r12 k => by
      obtain ⟨⟨s1, s2, s3, s4⟩, ⟨u1, u2, u3, u4, u5⟩, ⟨k1, k0⟩, k2⟩ := k
      have k0' : p0 < pcC P := k0
      refine ⟨by omega, fun r4 r3 => ?_⟩
      obtain ⟨z1, pt, z2, z3, z4⟩ := k1 r4 r3
      rw [pc47] at s1 s2 s3
      have pq : PQX SF U (pcC P) (pcR q) := ⟨s3, u4⟩
      refine ⟨z1, k2 (fun g => gi_UJmp (pq.hc hc) pq.2.1 ⟨s1, u1, pt, (q.a 66 T).toNatClampNeg, _, ⟨by rw [s2]; exact z2, by rw [u2]; exact c66.symm⟩, ?_, z4 0⟩)⟩
      omega)
    have i51 : p51.2.i 44 = p47.2.i 44 := by
      unfold f_X0_add at e51
      cases e51
      rfl
    have j5 := JRG.aim (W1 := [hv x2, sv (q.a 68 T), sv (q.a 67 T), tv x4]) (W2 := []) (K' := fun FC SF nm X ω j Z => (cTg SF x3).toInt = ((pcC p51.2 : Nat) : Int) ∧ p0 < pcC p51.2 ∧ ((¬ x5 = 1 → PRN FC SF U nm X x4 (q.a 67 T).toNatClampNeg ω j) → PRF FC SF U nm X p0 x3 (q.a 68 T).toNatClampNeg ω (j.up 1264) → Z ∧ HE5 FC SF U nm X x2 (q.a 70 T) ω (j.up 1264))) j4 e55 (by rw [i51]; omega) (by omega) (fun FC SF nm X ω j Z h k => ⟨h, k⟩)
    have j6 := JRG.pat (W1 := [hv x2]) (W2 := [sv (q.a 67 T), tv x4]) (v := sh.2.i 20) (n := (q.a 68 T).toNatClampNeg) (K' := fun FC SF nm X ω j Z => U.a 22 (q.a 68 T).toNatClampNeg = sh.2.i 20 ∧ (cTg SF x3).toInt = ((pcC p51.2 : Nat) : Int) ∧ p0 < pcC p51.2 ∧ ((¬ x5 = 1 → PRN FC SF U nm X x4 (q.a 67 T).toNatClampNeg ω j) → PRF FC SF U nm X p0 x3 (q.a 68 T).toNatClampNeg ω (j.up 1264) → Z ∧ HE5 FC SF U nm X x2 (q.a 70 T) ω (j.up 1264))) j5 (by omega) (by omega) rfl (Or.inl k68) (fun y hy z => by
      rcases List.mem_cons.mp hy with e9 | hy
      · rw [e9] at z
        exact hv.site z
      rcases List.mem_cons.mp hy with e9 | hy
      · rw [e9] at z
        have := sv.site.mp z
        omega
      · rw [List.mem_singleton.mp hy] at z
        exact tv.site z) (fun FC SF nm X ω j Z h k => ⟨h, k⟩)
    have i55 : p55.2.i 20 = p51.2.i 20 ∧ p55.2.i 44 = p51.2.i 44 := by
      unfold f_X0_aim at e55
      cases e55
      exact ⟨rfl, rfl⟩
    have pc55 : pcC p55.2 = pcC p51.2 := by unfold pcC; rw [i55.1]
    have sh20' := w2.1.p20
    have pr0 : pcR (RS.setA sh.2 22 (q.a 68 T).toNatClampNeg (sh.2.i 20)) = pcR sh.2 := rfl
    have j7 := j6.imp (a1 := -2) (e1 := 0) (K' := JQA U 1264 0 (pcC p55.2) (pcR (RS.setA sh.2 22 (q.a 68 T).toNatClampNeg (sh.2.i 20))) (fun FC SF nm X ω j Z => (¬ x5 = 1 → PRN FC SF U nm X x4 (q.a 67 T).toNatClampNeg ω j) → Z ∧ HE5 FC SF U nm X x2 (q.a 70 T) ω (j.up 1264))) (by omega) (by omega) (fun FC SF nm X ω j Z _ _ _ _ _ _ k gu r4 => by
      refine k.2.2.2 r4 ⟨pcC p51.2, pcR sh.2, k.2.2.1, k.2.1, by rw [k.1]; exact (Int.toNat_of_nonneg sh20'.1).symm, ?_⟩
      have z := gu 0
      rw [pc55, pr0] at z
      have e9 : ω + (j.up 1264).l - pcC p51.2 = ω + j.l + 1264 - pcC p51.2 := by
        show ω + (j.l + 1264) - pcC p51.2 = _
        omega
      rw [e9]
      exact z)
    have j8 := j7.stp (δ' := 3792) e59 (by rw [i55.2, i51]; omega) (by omega) hem2 ⟨sh20'.1, by show (sh.2.i 20).toInt < 3000; omega⟩ (by omega)
    have kp := ke_X6_push N p59.2 207 _ _ pp epp
    have j9 := j8.ce (peX.trans kp) x21' (by rw [aX, pa1]) (by rw [aX, pa1]) (by rw [iX]; exact psr.2.1 50 (by decide) (by decide)) (by rw [iX]; exact psr.2.1 44 (by decide) (by decide))
    have j10 := j9.se qu ⟨un.1, fun j _ => by rw [un.2.1]⟩
    have pc5 : pcC X = pcC p59.2 := pcC.pe (peX.trans kp)
    have pr5 : pcR u' = pcR em2.2 := pcR.qe qu
    have hr : (vw X u' c1).v = 207 := show X.o c1.2.1 0 = 207 by rw [v2]; exact g0
    have r67 : (vw X u' c1).2.1 67 = q.a 67 T := show (vw X u' c1).2.1 67 = _ by rw [vw_at (k := 67) ⟨by decide, by decide⟩, v3, uj 67 (by decide) (by decide) (by decide) (by decide)]; exact fq.2.2.1
    have r70 : (vw X u' c1).2.1 70 = q.a 70 T := show (vw X u' c1).2.1 70 = _ by rw [vw_at (k := 70) ⟨by decide, by decide⟩, v3, uj 70 (by decide) (by decide) (by decide) (by decide)]; exact fq.2.2.2.2.2.1
    have r9 : (vw X u' c1).1 9 = x4 := show X.o c1.2.1 9 = x4 by rw [v2]; exact oX9
    have r10 : (vw X u' c1).1 10 = x2 := show X.o c1.2.1 10 = x2 by rw [v2]; exact oX10
    have jl : jlv (vw X u' c1).v = 3792 := by rw [hr]; rfl
    refine j10.ps0 (r := vw X u' c1) ⟨by omega, fun _ => ⟨by omega, by rw [r10]; exact List.mem_cons_self⟩, fun y => absurd (hr.symm.trans y) (by decide), by rw [hr]; decide⟩ (Or.inl (by omega)) lpf.1 (by rw [un.2.2.1]; omega) (by rw [un.2.2.2]; have := w5.2.2.2.2.2.2.1.2.2.2; omega) pls (fun z => ?_) (by rw [hr]; decide) (by rw [hr]; decide) (by rw [hr]; decide) (by rw [hr]; decide) (fun k z => ?_) ?_ (fun _ => lpf.gl (show X.o c1.2.1 2 = X.i 38 by rw [v2]; exact oX2) (show NT5 (X.o c1.2.1 9) ∧ NT5 (X.o c1.2.1 10) by rw [v2, oX9, oX10]; exact ⟨n5.2, n5.1⟩) ⟨fun y => by rcases y with y | y | y <;> exact absurd (hr.symm.trans y) (by decide), fun _ => by rw [r70]; exact k70⟩ (by rw [hr]; decide)) R36 (fun FC SF nm X' G' col YJ ω j Z hω r12 hc hh k jr cur => ?_)
    · rcases z with z | z | z | z <;> rw [hr] at z <;> exact absurd z (by decide)
    · unfold rsite at z
      rw [hr] at z
      rcases z with ⟨z, -⟩ | ⟨z, -⟩ | ⟨-, z⟩ | ⟨z, -⟩
      · rcases z with z | z | z <;> exact absurd z (by decide)
      · exact absurd z (by decide)
      · rw [r67] at z
        exact ⟨_, List.mem_cons_of_mem _ List.mem_cons_self, sv.site.mpr z⟩
      · exact absurd z (by decide)
    · have e1 : rtgs (vw X u' c1) = [x4] := by
        unfold rtgs
        rw [hr, if_neg (by decide), if_pos (by decide), r9]
      have e2 : ptl [hv x2, sv (q.a 67 T), tv x4] = [x4] := by
        show rtgs (hv x2) ++ (rtgs (sv (q.a 67 T)) ++ (rtgs (tv x4) ++ [])) = _
        rw [hv.tgs, sv.tgs, tv.tgs]
        rfl
      rw [e1]
      exact List.Perm.of_eq e2.symm
    · rw [jl, pc5, pr5] at cur
      have prt := (jr.2.2.2.2.1 hr).1
      rw [r9, r67, show (vw X u' c1).1 7 = x5 from (show X.o c1.2.1 7 = x5 by rw [v2]; exact o7X)] at prt
      have e9 : ω + (j.l + 3792) - pcC p59.2 = ω + j.l + 3792 - pcC p59.2 := by omega
      have c2 := cur.2
      rw [e9] at c2
      have z := k c2 (fun y => prt (b01.resolve_right y))
      refine ⟨z.1, fun y => absurd (hr.symm.trans y) (by decide), fun y => absurd (hr.symm.trans y) (by decide), fun _ => ?_, fun y => absurd (hr.symm.trans y) (by decide), fun y => absurd (hr.symm.trans y) (by decide)⟩
      rw [r10, r70]
      exact z.2
