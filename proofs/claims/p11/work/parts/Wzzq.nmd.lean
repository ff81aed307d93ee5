/-! both readers: a statement that begins with a name, whole -/
/-- what comes of a statement -/
def OUTS (N : Nat) (d : Int32) (B : CS) (b : RS) (t0 T : Nat) (c : CEL) (L : List CEL) (x : Int) (R : CS) (U : RS) (J : List RVW → CS → RS → Prop) : Prop := (¬ R.i 32 = 0 ∧ ¬ U.i 15 = 0) ∨ DMD d B R U ∨ (∃ (m : Nat) (u : RS), f_X12_parse_10 N m u = some U ∧ NEW d B b t0 c L R u J) ∨ ∃ (m : Nat) (u : RS), f_X12_parse_10 N m u = some U ∧ (DN d B b t0 T c L x R u ∧ NMC c R) ∧ J (vws R u (c :: L)) R u
theorem NMC.dn {d d0 : Int32} {c : CEL} {S R : CS} {s u : RS} (hm : NMC c S) (es : ENV d0 S s) (eu : ENV d R u) (e38 : u.i 38 = s.i 38) (eo : R.o c.2.1 = S.o c.2.1) : NMC c R := by
  have z1 := es.2.1.1
  have z2 := eu.2.1.1
  unfold NMC at *
  rw [eo, z2, e38, ← z1]
  exact hm
theorem DON.dm {d : Int32} {B : CS} {b : RS} {t0 T : Nat} {L : List CEL} {x p f k y z : Int} {S S1 R : CS} {s s1 u : RS} {c : CEL} (hC : COR d B b t0 (c :: L) x S s) (hS : STO c T S s) (hT : t0 ≤ T) (hm : NMC c S) (w : WAY d T p f k y z S s S1 s1) (n : 0 ≤ p ∧ -1 ≤ f ∧ k = 0 ∧ y ≤ 0 ∧ 0 ≤ z) (h : DON d T S1 s1 R u) (e38 : u.i 38 = s1.i 38) : DN d B b t0 T c L x R u ∧ NMC c R := by
  have eo := ((hC.inl hS.1 hS.2.2.1).o (w.2.2.2.2.1.tr w.2.2.2.2.2.1.2.2.1 h.2.2.2.2.2.2.1) c List.mem_cons_self).1
  exact ⟨DON.dn hC hS hT w n h, hm.dn hC.1 h.1 (e38.trans w.2.2.2.1.1.1.2.2.2.1) eo⟩
theorem WAY.bse {d : Int32} {T : Nat} {p f k y z : Int} {S P : CS} {s q : RS} {c : CEL} {L : List CEL} (w : WAY d T p f k y z S s P q) (h : BSE S (c :: L)) : BSE P (c :: L) := by
  refine BSE.mv (c :: L) h w.2.2.2.2.2.1.2.2.2.1 w.2.2.2.2.2.1.2.2.1 (fun y hy => ?_)
  have z1 := BSE.at L c h y hy
  exact ⟨w.2.2.2.2.1.2.1 y.1 z1.2.2, (w.2.2.2.2.1.2.2.1 y.1 y.2.1 z1.2.2 z1.1).1⟩
theorem m1_int {S : CS} {c : Nat} (h : (S.i 53).toInt = (c : Int) + 1) : (S.i 53 - 1).toInt = (c : Int) := by
  have e1 : (1 : Int32).toInt = 1 := by decide
  have hi := Int32.toInt_lt (S.i 53)
  rw [toInt_sub] <;> rw [e1] <;> omega
theorem g1_int {s : RS} {c : Int} (h : (s.i 43).toInt = c) (h0 : 0 ≤ c) : (s.i 43 - 1).toInt + 1 = c := by
  have e1 : (1 : Int32).toInt = 1 := by decide
  have hi := Int32.toInt_lt (s.i 43)
  rw [toInt_sub] <;> rw [e1] <;> omega
set_option maxHeartbeats 4000000 in
theorem st_named {N : Nat} (hN : 1000 ≤ N) {E1 : CS → Option (Unit × CS)} {E2 : CS → Option (Int32 × CS)} (hm1 : ∀ σ, Kf (CS.i σ 32) (E1 σ)) (hm2 : ∀ σ, Kf (CS.i σ 32) (E2 σ)) (hE : SXR N 18 E1) {d : Int32} {B : CS} {b : RS} {t0 T n : Nat} {L : List CEL} {x : Int} {S : CS} {s U : RS} {c : CEL} {R : Unit × CS} {Aj : JBA} (hC : COR d B b t0 (c :: L) x S s) (hS : STO c T S s) (hT : t0 ≤ T) (hm : NMC c S) (hx : S.o c.2.1 0 = 303 → x = -2) (hB : BOT b S (c :: L)) (hBS : BSE S (c :: L)) (h43 : S.i 43 = 2) (e : f_X7_named N E1 E2 (CS.setI (CS.setI S 36 1) 24 ((S.i 24) + 1)) = some R) (g : f_X12_parse_10 N n s = some U) : OUTS N d B b t0 T c L x R.2 U (JTR Aj U B b (c :: L) S s) := by
  obtain ⟨q1, q2, q3, q4, q5, q6⟩ := id hS
  have hv := hC.1
  have k10 := (tk_is hv (a := 2) (b := 2) (Or.inl ⟨by decide, by decide⟩) (by decide)).mp h43
  obtain ⟨m1, s1, g1, w0, a64, a65, i10, ph3, i11, l1, qs1, nv1⟩ := st_nm hC hS k10 g
  have lq : S.l = s1.l := (hv.1.2.2.2.1.2.2.2.2.1 h43).trans l1.symm
  have S43 : (CS.setI (CS.setI S 36 1) 24 ((S.i 24) + 1)).i 43 = 2 := by
    rw [ci_ne _ _ _ (by decide), ci_ne _ _ _ (by decide)]
    exact h43
  have Sl : (CS.setI (CS.setI S 36 1) 24 ((S.i 24) + 1)).l = S.l := rfl
  have Spl : plI (CS.setI (CS.setI S 36 1) 24 ((S.i 24) + 1)) = plI S := by
    unfold plI
    rw [ci_ne _ _ _ (by decide), ci_ne _ _ _ (by decide)]
  unfold f_X7_named at e
  rw [Sl] at e
  obtain ⟨S1, hS1⟩ : ∃ y, y = CS.setI (CS.setI S 36 1) 24 ((S.i 24) + 1) := ⟨_, rfl⟩
  have eS1 : pe S1 = pe S ∧ S1.a = S.a ∧ S1.i 21 = S.i 21 ∧ S1.i 50 = S.i 50 ∧ S1.i 44 = S.i 44 := by
    rw [hS1]
    exact ⟨rfl, rfl, rfl, rfl, rfl⟩
  rw [← hS1] at e w0 S43 Sl Spl
  clear hS1
  obtain ⟨eS1, eSa, eS21, eS50, eS44⟩ := eS1
  obtain ⟨x1, ex1, e⟩ := hf_bind e
  obtain ⟨x5, ex5, e⟩ := hf_bind e
  -- the reference
  obtain ⟨m2, V, hV, g2⟩ := rl_5 g1 w0.2.1 w0.1.1.2.1 a64
  unfold f_X12_named at hV
  obtain ⟨hib, hV⟩ := hf_ite hV
  have t9 : T < 1000 := by
    have h2 : (s1.i 63).toInt = (T : Int) := w0.2.1
    have := hib.2
    omega
  rw [tp_nat w0.2.1, if_neg (show ¬ s1.a 65 T = 1 by rw [a65]; decide), if_neg (show ¬ s1.a 65 T = 2 by rw [a65]; decide)] at hV
  obtain ⟨q, hq, hV⟩ := hf_bind hV
  obtain ⟨w1, f1⟩ := w0.nx hN (by rw [S43]; decide) ex1 hq
  obtain ⟨-, adv, -, -⟩ := y_adv hN w0.1.1 ex1 hq
  obtain ⟨ft1, f65⟩ := FRB.ft (T := T) f1
  have i58 := tk_is w1.1 (a := 58) (b := 58) (Or.inl ⟨by decide, by decide⟩) (by decide)
  have e63 : q.i 63 = s1.i 63 := Int32.toInt_inj.mp (by
    have y1 : (q.i 63).toInt = (T : Int) := w1.2.1
    have y2 : (s1.i 63).toInt = (T : Int) := w0.2.1
    omega)
  rw [← e63, ← lq] at hV
  have jg : KU3 U s → JRW Aj U B b (vws S s (c :: L)) S s → JRG Aj U B b (vws S s (c :: L)) s [] (JQ2 U (pcC x1.2) (pcR q)) (-1) 0 x1.2 q := fun _ jw => by
    have z1 := (((jw.go (e := 1) (Or.inl rfl)).ce (R := S1) eS1 eS21 (by rw [eSa]) (by rw [eSa]) eS50 eS44).se (u := s1) qs1 nv1).adv hN w0.1 (by rw [S43]; decide) ex1 hq
    have pc1 : pcC x1.2 = pcC S := (pcC.pe (ke_X9_advance N S1 x1 ex1)).trans (pcC.pe eS1)
    have pr1 : pcR q = pcR s := (pcR.qe (kre_f_X12_next N s1 q hq)).trans (pcR.qe qs1)
    exact z1.imp (by omega) (by omega) (fun _ _ _ _ _ _ _ _ _ _ _ _ _ k gu => k (by rw [← pc1, ← pr1]; exact gu))
  by_cases c58 : x1.2.i 43 = 58
  · -- a label
    rw [e_fnd1 c58] at ex5
    cases ex5
    rw [if_neg n10] at e
    obtain ⟨x10, ex10, e⟩ := hf_bind e
    rw [if_pos (i58.mp c58), ob_id] at hV
    obtain ⟨cP, tP, lP, oP⟩ := hC.way q1 q2 q3 hT w1 ⟨by omega, by omega, by omega, by omega, by omega⟩
    have hin := hC.inl q1 q3
    have eoP : ∀ y ∈ c :: L, x1.2.o y.2.1 = S.o y.2.1 := fun y hy => (hin.o w1.2.2.2.2.1 y hy).1
    have bP := w1.bse hBS
    have ex10' : f_X6_labelled_7 N N x1.2 S.l (x1.2.i 53 - 1) = some x10 := ex10
    obtain ⟨z1, z2⟩ := y_labC N L c (x1.2.i 53 - 1) x10 bP (m1_int tP.1) ex10'
    have hV' : f_X12_label_8 N N q (q.i 63) S.l (s1.i 11) (q.i 43 - 1) = some V := hV
    have hr := lb_ref (b := b) w1.1.1.2.1 L c _ _ _ N (q.i 43 - 1) cP.2.1 (BOT.mv (c :: L) hB eoP) cP.2.2.2.2.2.1.2.1 (g1_int tP.2.1 (by omega)) hV'
    have gn := (ADV.gain w0.1.1.2.2.2.2.2.2.1 adv).2.2.2.1 S43
    rw [Sl, Spl] at gn
    rw [z1] at e
    rcases z2 with ⟨y1, y2⟩ | ⟨y, hy, y1, y2, -⟩
    · rcases hr with ⟨⟨y, hy, y3⟩, -⟩ | ⟨-, hV2⟩
      · exact absurd y3 (y2 y hy)
      · rw [if_pos (show x10.1 < 0 by rw [y1]; decide)] at e
        have e' : f_X7_named_73 N E1 E2 x1.2 S.l = some R := e
        have pay : plI S + (if 97 ≤ S.l.toInt ∧ S.l.toInt ≤ 122 then 2 else 3) ≤ eI x1.2 := by
          by_cases sh : 97 ≤ S.l.toInt ∧ S.l.toInt ≤ 122
          · rw [if_pos sh]
            exact gn.1
          · rw [if_neg sh]
            exact gn.2 sh
        rcases lb_new hN hC q1 q2 q3 hT hm hx hB hBS (w1.nu (by omega) (by omega) (by omega) (by omega) (by omega)) c58 (ft1.1.trans a64) (f65.trans a65) (Or.inl (by rw [h43]; decide)) pay y2 e' hV2 g2 jg with z | z
        · exact Or.inr (Or.inl z)
        · exact Or.inr (Or.inr (Or.inl z))
    · rcases hr with ⟨-, v15⟩ | ⟨y3, -⟩
      · rw [if_neg (show ¬ x10.1 < 0 by rw [Int32.lt_iff_toInt_lt, z_t0, y2]; omega)] at e
        obtain ⟨fl, efl, e⟩ := hf_bind e
        have z3 := y_fail (by decide) efl
        refine Or.inl ⟨?_, u_flt g2 v15⟩
        rw [kF_X7_named_73 N E1 E2 hm1 hm2 fl.2 S.l R e z3]
        exact z3
      · exact absurd y1 (y3 y hy)
  · -- a value
    rw [e_fnd0 c58] at ex5
    cases ex5
    rw [if_pos rfl] at e
    obtain ⟨x35, ex35, e⟩ := hf_bind e
    rw [if_neg (fun z => c58 (i58.mpr z))] at hV
    have w2 := w1.ad ex35
    have np := w2.2.2.2.2.2.2.1.2.1
    rcases y_assign hN hm1 hm2 hE w2.1 w2.2.1 t9 (ft1.1.trans a64) (by omega) e hV g2 with z | ⟨m3, u, g3, xo, u75, y, hy, xc⟩
    · exact Or.inl z
    · have r36 : R.2.i 36 = 1 := xo.2.2.2.2.1.1.2.1.trans w2.2.2.2.2.2.1.2.2.2.2
      have dm := DON.dm hC hS hT hm w2 ⟨by omega, by omega, by omega, by omega, by omega⟩ (xo.don2 ⟨u75.trans r36.symm, Or.inr r36⟩) xo.2.2.2.1.1.1.2.2.2.1
      refine Or.inr (Or.inr (Or.inr ⟨m3, u, g3, dm, fun ku jw => ?_⟩))
      have hin := hC.inl q1 q3
      have ckall : CKZ S R.2 := w2.2.2.2.2.1.tr w2.2.2.2.2.2.1.2.2.1 (xo.don2 ⟨u75.trans r36.symm, Or.inr r36⟩).2.2.2.2.2.2.1
      have veq : vws R.2 u (c :: L) = vws S s (c :: L) := vws.eqf (T := T) ((NMV.tr (NMV.tbk w2.2.2.2.1) (NMV.tbk xo.2.2.2.1)).2) (c :: L) hC.o3 (fun y hy => (hin.o ckall y hy).1) (fun k t h1 h2 h3 => (w2.2.2.1.tr xo.2.2.1).fld k t h1 h2 h3) (fun y hy => by
        have z1 := wid1 (S.o y.2.1 0)
        have z2 := (hin y hy).2.2.1
        omega)
      show JRW Aj U B b (vws R.2 u (c :: L)) R.2 u
      rw [veq]
      have ye := y_emit w1.1 w1.2.1 (by omega) hy
      have p20 := w1.1.p20
      have g44 : (x1.2.i 44).toInt = (q.i 11).toInt := by rw [w1.1.p44.1]
      have g6 := (i11_hi w1.1).2
      have y38 : y.2.i 38 = q.i 38 := ye.2.2.2.1.1.1.2.2.2.1
      have y40 : ∀ j : Nat, (j : Int) < (q.i 38).toInt → y.2.a 40 j = q.a 40 j := fun j hj => (ye.2.2.2.1.1.2.1 j hj).2.1
      have y11 : y.2.i 11 = q.i 11 := ye.2.2.2.2.2.2.2.1
      have y19 : y.2.i 19 = q.i 19 := ye.2.2.2.2.2.2.2.2.2.1
      have u38 : u.i 38 = q.i 38 := xo.2.2.2.1.1.1.2.2.2.1
      have u40 : ∀ j : Nat, (j : Int) < (q.i 38).toInt → u.a 40 j = q.a 40 j := fun j hj => (xo.2.2.2.1.1.2.1 j hj).2.1
      have xoo := (xo.don2 ⟨u75.trans r36.symm, Or.inr r36⟩).2.2.2.2.2.2.2.2.2.1
      have n50 : x35.2.i 50 = y.2.i 38 := w2.1.2.1.1.trans y38.symm
      have cw := xc.t n50 (u38.trans y38.symm) (fun j hj => by rw [y38] at hj; rw [u40 j hj, y40 j hj]) (by rw [xoo.2.2.2, y19]; exact Int.le_refl _)
      have l11 := w1.l11
      have l19 := w1.l19
      have j1 : JRG Aj U B b (vws S s (c :: L)) s [] (JQA U 0 0 (pcC x1.2) (pcR q) JQZ) (-1) 0 x1.2 q := (jg ku jw).imp (by omega) (by omega) (fun _ _ _ _ _ _ _ _ _ _ _ _ _ k gu => k ⟨gu 0, gu 1⟩)
      have j2 := j1.stp (δ' := 1264) ex35 (by omega) (by omega) hy ⟨p20.1, by omega⟩ (by omega)
      have j3 : JRG Aj U B b (vws S s (c :: L)) s [] (JQG U 1264 0 1 (pcC x35.2) (pcR y.2) JQZ) 1 1 x35.2 y.2 := j2.imp (by omega) (by omega) (fun _ _ _ _ _ _ _ _ _ _ _ _ _ k => k)
      have j4 := j3.codT (fun _ => by rw [y38, w1.2.2.2.1.1.1.2.2.2.1]; exact hC.2.2.2.2.2.1.2.1.1) (jsp_cdw cw n50 (by omega) (by rw [y11]; omega) (by rw [y19]; omega))
      exact j4.fin (by omega) (Or.inl (by omega)) ((GKP.tbr w2.2.2.2.1.1.2 (by rw [w2.2.2.2.1.1.1.2.2.2.2.1]; exact Int.le_refl _)).tr (GKP.tbr xo.2.2.2.1.1.2 (by rw [xo.2.2.2.1.1.1.2.2.2.2.1]; exact Int.le_refl _))) (by omega) (by rw [xoo.2.2.2]; omega) (fun FC SF nm X G h0 c0 ω Z hω r12 hA ng hc k cur => k.2 ⟨_, by omega, cur r36⟩)
