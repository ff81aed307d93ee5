/-! both readers: for, whole -/
/-- int NAME in a head -/
theorem y_intN {N : Nat} (hN : 1000 ≤ N) {d : Int32} {T : Nat} {p f k y z : Int} {S P : CS} {s q nx : RS} {av : Unit × CS} {nn : Int64 × CS} {Q : Int32 × RS} (w : WAY d T p f k y z S s P q) (c : P.i 43 = 200) (e1 : f_X9_advance N P = some av) (e2 : f_X7_newName N av.2 = some nn) (g1 : f_X12_next N q = some nx) (g2 : f_X12_telling N nx (q.i 63) = some Q) : (Q.1 = 0 ∧ ¬ nn.2.i 32 = 0 ∧ ¬ Q.2.i 15 = 0) ∨ (Q.1 = 1 ∧ nn.1 = nx.l ∧ Q.2.b 74 T = nx.l ∧ (∀ k : Nat, (k : Int) < (Q.2.i 38).toInt → ¬ Q.2.b 39 k = nx.l) ∧ WAY (d + 1) T (p + 5) (f + 6) k y z S s nn.2 Q.2 ∧ (∀ j : Nat, 64 ≤ j → j ≤ 73 → Q.2.a j T = q.a j T) ∧ (∀ (A : JBA) (U : RS) (B : CS) (b : RS) (V0 : List RVW) (s0 : RS) (W : List RVW) (K : JKT) (a e : Int), JRG A U B b V0 s0 W K a e P q → JRG A U B b V0 s0 W K (a - 4 - 1) (e - 4 - 1) nn.2 Q.2) ∧ pcC nn.2 = pcC P ∧ pcR Q.2 = pcR q) := by
  obtain ⟨a1, tq, fq, kq, cq, l11, pq, q17, q19⟩ := y_nx hN w.1 w.2.1 (by rw [c]; decide) e1 g1
  obtain ⟨-, adv, -, b9⟩ := y_adv hN w.1.1 e1 g1
  have e63 : nx.i 63 = q.i 63 := Int32.toInt_inj.mp (by
    have x : (nx.i 63).toInt = (T : Int) := tq
    have y : (q.i 63).toInt = (T : Int) := w.2.1
    omega)
  rw [← e63] at g2
  rcases y_newName hN a1 tq e2 g2 with o | ⟨o1, c2, l1, b74, fresh, v1, v2, v3, v4, v5, v6, v7, v8, v9, v10⟩
  · exact Or.inl o
  have p4 : (q.i 11).toInt + 4 ≤ (nx.i 11).toInt := by
    have l3 := w.1.lb.1.2.1 (Or.inl c)
    have al : ALW (P.i 43) := Or.inr (by rw [c]; decide)
    have an : ALN (av.2.i 43) := Or.inl (by rw [c2]; decide)
    have gp := adv.2.2.2.1 al an
    rw [w.1.1.2.2.2.1.1, w.1.1.2.2.2.1.2.1] at l3
    rw [w.1.1.2.2.2.1.2.1, a1.1.2.2.2.1.1] at gp
    omega
  have w1 := w.cx2 (p1 := 5) (f1 := 6) (k1 := 0) v1 v2 ((fq T).tr v3) (kq.tr v5) (cq.tr v6) ⟨by omega, by omega, by omega, by rw [v10, q19]; omega⟩
  have n38 : Q.2.i 38 = nx.i 38 := v5.1.1.2.2.2.1
  refine Or.inr ⟨o1, l1, b74, fun k hk => ?_, w1.nu (by omega) (by omega) (by omega) (by omega) (by omega), fun j h1 h2 => ?_, fun A U B b V0 s0 W K a e h => ?_, ?_, ?_⟩
  · rw [n38] at hk
    rw [(v5.1.2.1 k hk).1]
    exact fresh k hk
  · rw [v4 j h1 h2]
    obtain ⟨f0, f1, f2, f3, f4, f5, f6, f7, f8, f9, -⟩ := fq (T + 1) T (by omega)
    have : j = 64 ∨ j = 65 ∨ j = 66 ∨ j = 67 ∨ j = 68 ∨ j = 69 ∨ j = 70 ∨ j = 71 ∨ j = 72 ∨ j = 73 := by omega
    rcases this with h | h | h | h | h | h | h | h | h | h <;> rw [h]
    · exact f0
    · exact f1
    · exact f2
    · exact f3
    · exact f4
    · exact f5
    · exact f6
    · exact f7
    · exact f8
    · exact f9
  · have j1 := h.tk 4 w.1.2.1.1 (kc_X9_advance N P av e1) (ke_X9_advance N P av e1) (NMV.tbk kq) (kre_f_X12_next N q nx g1) (by rw [w.1.p44.1, a1.p44.1]; exact p4)
    exact j1.tk 1 a1.2.1.1 (nn_pj e2 c2 v1.1.1) (ke_X7_newName N av.2 nn e2) (NMV.tbk v5) (kre_f_X12_telling N nx _ Q g2) (by rw [a1.p44.1, v1.p44.1]; exact v7)
  · exact (pcC.pe (ke_X7_newName N av.2 nn e2)).trans (pcC.pe (ke_X9_advance N P av e1))
  · exact (pcR.qe (kre_f_X12_telling N nx _ Q g2)).trans (pcR.qe (kre_f_X12_next N q nx g1))
set_option maxHeartbeats 4000000 in
theorem st_for {N : Nat} (hN : 1000 ≤ N) {E1 : CS → Option (Unit × CS)} {E2 : CS → Option (Int32 × CS)} (hm1 : ∀ σ, Kf (CS.i σ 32) (E1 σ)) (hm2 : ∀ σ, Kf (CS.i σ 32) (E2 σ)) (hE : SXR N 18 E1) (hE2 : SXN N 22 E2) {d : Int32} {B : CS} {b : RS} {t0 T n : Nat} {L : List CEL} {x : Int} {S : CS} {s U : RS} {c : CEL} {p R : Unit × CS} {A : JBA} (hC : COR d B b t0 (c :: L) x S s) (hS : STO c T S s) (hT : t0 ≤ T) (hm : NMC c S) (hx : S.o c.2.1 0 = 303 → x = -3) (hB : BOT b S (c :: L)) (h43 : S.i 43 = 207) (e1 : f_X0_add N (CS.setI (CS.setI S 36 1) 24 ((S.i 24) + 1)) 51 0 = some p) (e : f_X7_beginFor N E1 E2 p.2 = some R) (g : f_X12_parse_10 N n s = some U) : (¬ R.2.i 32 = 0 ∧ ¬ U.i 15 = 0) ∨ DMD d B R.2 U ∨ ∃ (m : Nat) (u : RS), f_X12_parse_10 N m u = some U ∧ NEW d B b t0 c L R.2 u (JTR A U B b (c :: L) S s) := by
  obtain ⟨q1, q2, q3, q4, q5, q6⟩ := id hS
  have hv := hC.1
  have ph0 := hv.2.2.2.2.2.2.2.1
  have k10 := (tk_is hv (a := 207) (b := 417) (Or.inr ⟨by decide, by decide⟩) (by decide)).mp h43
  obtain ⟨m1, s1, g1, w0, a64, a65, i43, i10, ph3, i21, i11, jst⟩ := st_gj hC hS k10 (Or.inr (Or.inr (Or.inr (Or.inl ⟨rfl, rfl⟩)))) (by decide) e1 g
  have p50 : p.2.i 50 = S.i 50 := w0.2.2.2.2.2.1.2.1
  -- the class, taken apart
  unfold f_X7_beginFor at e
  obtain ⟨x1, ex1, e⟩ := hf_bind e
  obtain ⟨x5, ex5, e⟩ := hf_bind e
  rw [p50] at e
  -- the reference
  obtain ⟨m2, V, hV, g2⟩ := rl_12 g1 w0.2.1 w0.1.1.2.1 a64
  unfold f_X12_fors at hV
  obtain ⟨hib, hV⟩ := hf_ite hV
  rw [tp_nat w0.2.1, if_pos a65] at hV
  obtain ⟨q, hq, hV⟩ := hf_bind hV
  obtain ⟨r, hr, hV⟩ := hf_bind hV
  rw [ob_id] at hV
  have w1 := w0.sa (j := 71) (v := s1.i 38) ⟨by omega, by omega⟩
  have nz : ¬ p.2.i 43 = 0 := by rw [i43, h43]; decide
  obtain ⟨w2, f2⟩ := w1.nx hN nz ex1 hq
  have f5 : ¬ x5.2.i 32 = 0 → ¬ R.2.i 32 = 0 := fun z => by
    obtain ⟨x9, ex9, e⟩ := hf_bind e
    have z9 : ¬ x9.2.i 32 = 0 := by rw [kF_X1_skip N x5.2 200 x9 ex9 z]; exact z
    by_cases c9 : x9.1 = 0
    · rw [if_pos c9] at e
      obtain ⟨x14, ex14, e⟩ := hf_bind e
      have z14 : ¬ x14.2.i 32 = 0 := by rw [kF_X1_found N x9.2 2 x14 ex14 z9]; exact z9
      by_cases c14 : x14.1 = 0
      · rw [if_pos c14] at e
        rw [kF_X7_beginFor_80 N E1 E2 hm1 hm2 x14.2 (S.i 50) R e z14]
        exact z14
      · rw [if_neg c14] at e
        obtain ⟨x28, ex28, e⟩ := hf_bind e
        have z28 : ¬ x28.2.i 32 = 0 := by rw [kF_X7_changeHere N E1 E2 hm1 hm2 x14.2 0 x28 ex28 z14]; exact z14
        rw [kF_X7_beginFor_80 N E1 E2 hm1 hm2 x28.2 (S.i 50) R e z28]
        exact z28
    · rw [if_neg c9] at e
      obtain ⟨x32, ex32, e⟩ := hf_bind e
      have z32 : ¬ x32.2.i 32 = 0 := by rw [kF_X7_newName N x9.2 x32 ex32 z9]; exact z9
      obtain ⟨x36, ex36, e⟩ := hf_bind e
      have z36 : ¬ x36.2.i 32 = 0 := by rw [kF_X1_found N x32.2 58 x36 ex36 z32]; exact z32
      by_cases c36 : x36.1 = 0
      · rw [if_pos c36] at e
        obtain ⟨x41, ex41, e⟩ := hf_bind e
        have z41 : ¬ x41.2.i 32 = 0 := by rw [kF_X7_define N E1 E2 hm1 hm2 x36.2 x32.1 x41 ex41 z36]; exact z36
        obtain ⟨x45, ex45, e⟩ := hf_bind e
        have z45 : ¬ x45.2.i 32 = 0 := by rw [kF_X7_forHead N E1 E2 hm1 hm2 x41.2 x45 ex45 z41]; exact z41
        rcases hf_oc e with ⟨-, h2⟩ | ⟨a, -, h2⟩
        · rw [kF_X7_beginFor_64 N E1 E2 hm1 hm2 x45.2 (S.i 50) none R h2 z45]
          exact z45
        · rw [kF_X7_beginFor_64 N E1 E2 hm1 hm2 x45.2 (S.i 50) (some a) R h2 z45]
          exact z45
      · rw [if_neg c36] at e
        obtain ⟨x51, ex51, e⟩ := hf_bind e
        have z51 : ¬ x51.2.i 32 = 0 := by rw [kF_X7_rowHead N E1 E2 hm1 hm2 x36.2 x32.1 x51 ex51 z36]; exact z36
        rcases hf_oc e with ⟨-, h2⟩ | ⟨a, -, h2⟩
        · rw [kF_X7_beginFor_64 N E1 E2 hm1 hm2 x51.2 (S.i 50) none R h2 z51]
          exact z51
        · rw [kF_X7_beginFor_64 N E1 E2 hm1 hm2 x51.2 (S.i 50) (some a) R h2 z51]
          exact z51
  rcases w2.op hN (c := 40) (e := 40) (Or.inl ⟨by decide, by decide⟩) (by decide) (by decide) (by decide) ex5 hr with ⟨o1, o2, o3⟩ | ⟨o1, w3, f3⟩
  · refine Or.inl ⟨f5 o2, u_flt g2 ?_⟩
    unfold f_X12_forHead at hV
    rw [if_neg o3] at hV
    cases hV
    exact o3
  obtain ⟨ft2, -⟩ := FRB.ft (T := T) f2
  obtain ⟨ft3, -⟩ := FRB.ft (T := T) f3
  have ft := ft2.tr ft3
  have s138 : s1.i 38 = S.i 50 := by
    have z1 := w0.2.2.2.1.1.1.2.2.2.1
    have z2 := hv.2.1.1
    rw [z1, z2]
  have r64 : r.2.a 64 T = 12 := ft.1.trans a64
  have r71 : r.2.a 71 T = S.i 50 := ft.2.2.2.2.2.2.1.trans ((show (RS.setA s1 71 T (s1.i 38)).a 71 T = s1.i 38 from setA_at).trans s138)
  have w4 : WAY d T 2 5 1 (-4) 2 S s x5.2 r.2 := w3.nu (by omega) (by omega) (by omega) (by omega) (by omega)
  have j4 : KU3 U s → JRW A U B b (vws S s (c :: L)) S s → JRG A U B b (vws S s (c :: L)) s [] (JQA U 1264 0 (pcC x5.2) (pcR r.2) JQZ) (-2) (-3) x5.2 r.2 := fun ku jw => by
    have z1 := (jst.go jw (e := 0) (Or.inr ⟨rfl, Or.inr (by rw [h43]; decide)⟩) hv.2.1.1).se (u := RS.setA s1 71 T (s1.i 38)) rfl ⟨rfl, fun _ _ => rfl⟩
    have z2 := (z1.adw hN w1.1 (by rw [i43, h43]; decide) ex1 hq).opn hN w2.1 (c := 40) (c' := 40) (Or.inl ⟨by decide, by decide⟩) (by decide) (by decide) (by decide) ex5 hr o1
    have pc1 : pcC x5.2 = pcC p.2 := (pcC.pe (ke_X1_open N x1.2 40 x5 ex5)).trans (pcC.pe (ke_X9_advance N p.2 x1 ex1))
    have pr1 : pcR r.2 = pcR s1 := (pcR.qe (kre_f_X12_open N q 40 r hr)).trans (pcR.qe (kre_f_X12_next N (RS.setA s1 71 T (s1.i 38)) q hq))
    exact z2.imp (by omega) (by omega) (fun _ _ _ _ _ _ _ _ _ _ _ _ _ k y => k (by rw [← pc1, ← pr1]; exact y 1))
  have i410 := tk_is w4.1 (a := 200) (b := 410) (Or.inr ⟨by decide, by decide⟩) (by decide)
  have i2 := tk_is w4.1 (a := 2) (b := 2) (Or.inl ⟨by decide, by decide⟩) (by decide)
  have i59 := tk_is w4.1 (a := 59) (b := 59) (Or.inl ⟨by decide, by decide⟩) (by decide)
  have tr : (r.2.i 63).toInt = (T : Int) := w4.2.1
  have e63 : r.2.i 63 = s1.i 63 := Int32.toInt_inj.mp (by
    have y : (s1.i 63).toInt = (T : Int) := w0.2.1
    omega)
  rw [← e63] at hV
  unfold f_X12_forHead at hV
  rw [if_pos w4.1.1.2.1] at hV
  by_cases c200 : x5.2.i 43 = 200
  · -- int
    rw [if_pos (i410.mp c200)] at hV
    obtain ⟨nx, hnx, hV⟩ := hf_bind hV
    obtain ⟨Q, hQ, hV⟩ := hf_bind hV
    obtain ⟨x9, ex9, e⟩ := hf_bind e
    obtain ⟨av, eav, hx9⟩ := e_skip1 c200 ex9
    rw [hx9, if_neg n10] at e
    obtain ⟨x32, ex32, e⟩ := hf_bind e
    obtain ⟨x36, ex36, e⟩ := hf_bind e
    have f32 : ¬ x32.2.i 32 = 0 → ¬ R.2.i 32 = 0 := fun z32 => by
      have z36 : ¬ x36.2.i 32 = 0 := by rw [kF_X1_found N x32.2 58 x36 ex36 z32]; exact z32
      by_cases c36 : x36.1 = 0
      · rw [if_pos c36] at e
        obtain ⟨x41, ex41, e⟩ := hf_bind e
        have z41 : ¬ x41.2.i 32 = 0 := by rw [kF_X7_define N E1 E2 hm1 hm2 x36.2 x32.1 x41 ex41 z36]; exact z36
        obtain ⟨x45, ex45, e⟩ := hf_bind e
        have z45 : ¬ x45.2.i 32 = 0 := by rw [kF_X7_forHead N E1 E2 hm1 hm2 x41.2 x45 ex45 z41]; exact z41
        rcases hf_oc e with ⟨-, h2⟩ | ⟨a, -, h2⟩
        · rw [kF_X7_beginFor_64 N E1 E2 hm1 hm2 x45.2 (S.i 50) none R h2 z45]
          exact z45
        · rw [kF_X7_beginFor_64 N E1 E2 hm1 hm2 x45.2 (S.i 50) (some a) R h2 z45]
          exact z45
      · rw [if_neg c36] at e
        obtain ⟨x51, ex51, e⟩ := hf_bind e
        have z51 : ¬ x51.2.i 32 = 0 := by rw [kF_X7_rowHead N E1 E2 hm1 hm2 x36.2 x32.1 x51 ex51 z36]; exact z36
        rcases hf_oc e with ⟨-, h2⟩ | ⟨a, -, h2⟩
        · rw [kF_X7_beginFor_64 N E1 E2 hm1 hm2 x51.2 (S.i 50) none R h2 z51]
          exact z51
        · rw [kF_X7_beginFor_64 N E1 E2 hm1 hm2 x51.2 (S.i 50) (some a) R h2 z51]
          exact z51
    rcases y_intN hN w4 c200 eav ex32 hnx hQ with ⟨o1', o2, o3⟩ | ⟨o1', l1, b74, fresh, w5, fa, jt5, pc5, pr5⟩
    · rw [if_pos o1'] at hV
      cases hV
      exact Or.inl ⟨f32 o2, u_flt g2 o3⟩
    rw [if_neg (show ¬ Q.1 = 0 by rw [o1']; decide)] at hV
    have j61 := tk_is w5.1 (a := 61) (b := 61) (Or.inl ⟨by decide, by decide⟩) (by decide)
    have j58 := tk_is w5.1 (a := 58) (b := 58) (Or.inl ⟨by decide, by decide⟩) (by decide)
    have w6 : WAY (d + 1) T 7 11 1 (-4) 2 S s x32.2 Q.2 := w5.nu (by omega) (by omega) (by omega) (by omega) (by omega)
    have Q63 : Q.2.i 63 = r.2.i 63 := Int32.toInt_inj.mp (by
      have y : (Q.2.i 63).toInt = (T : Int) := w6.2.1
      omega)
    by_cases c58 : x32.2.i 43 = 58
    · -- a row
      have k58 := j58.mp c58
      rw [if_neg (show ¬ Q.2.i 10 = 61 by rw [k58]; decide), if_pos k58, y_can1 w6.1.1.2.1 (by rw [k58]; decide), ob_some, if_neg n10] at hV
      have hV' : f_X12_forHead_61 N Q.2 (r.2.i 63) = some V := hV
      unfold f_X12_forHead_61 at hV'
      rw [if_pos k58, ← Q63] at hV'
      rw [e_fnd1 c58] at ex36
      cases ex36
      rw [if_neg n10] at e
      obtain ⟨x51, ex51, e⟩ := hf_bind e
      rw [l1] at ex51
      have e85 : f_X7_beginFor_85 N E1 E2 x51.2 (S.i 50) x51.1 = some R := by
        rcases hf_oc e with ⟨h1, h2⟩ | ⟨a, h1, h2⟩
        · rw [h1]
          exact h2
        · rw [h1]
          exact h2
      exact ro_head hN hm1 hm2 hE hC q1 q2 q3 hT hm hx hB w6 (fun ku jw => (jt5 _ _ _ _ _ _ _ _ _ _ (j4 ku jw)).imp (by omega) (by omega) (fun _ _ _ _ _ _ _ _ _ _ _ _ _ k => by rw [pc5, pr5]; exact k)) k58 ((fa 64 (by decide) (by decide)).trans r64) ((fa 71 (by decide) (by decide)).trans r71) b74 fresh ex51 e85 hV' g2
    · rw [e_fnd0 c58] at ex36
      cases ex36
      rw [if_pos rfl] at e
      obtain ⟨x41, ex41, e⟩ := hf_bind e
      obtain ⟨x45, ex45, e⟩ := hf_bind e
      have e85 : f_X7_beginFor_85 N E1 E2 x45.2 (S.i 50) x45.1 = some R := by
        rcases hf_oc e with ⟨h1, h2⟩ | ⟨a, h1, h2⟩
        · rw [h1]
          exact h2
        · rw [h1]
          exact h2
      have k58 : ¬ Q.2.i 10 = 58 := fun z => c58 (j58.mpr z)
      by_cases c61 : x32.2.i 43 = 61
      · have k61 := j61.mp c61
        rw [if_pos k61, y_can1 w6.1.1.2.1 (by rw [k61]; decide), ob_some, if_neg n10] at hV
        have hV' : f_X12_forHead_61 N Q.2 (r.2.i 63) = some V := hV
        unfold f_X12_forHead_61 at hV'
        rw [if_neg k58, ← Q63] at hV'
        rw [l1] at ex41
        exact fo_def hN hm1 hm2 hE hE2 hC q1 q2 q3 hT hm hx hB w6 (fun ku jw => (jt5 _ _ _ _ _ _ _ _ _ _ (j4 ku jw)).imp (by omega) (by omega) (fun _ _ _ _ _ _ _ _ _ _ _ _ _ k => by rw [pc5, pr5]; exact k)) k61 ((fa 64 (by decide) (by decide)).trans r64) ((fa 71 (by decide) (by decide)).trans r71) b74 fresh ex41 ex45 e85 hV' g2
      · have k61 : ¬ Q.2.i 10 = 61 := fun z => c61 (j61.mpr z)
        rw [if_neg k61, if_neg k58] at hV
        obtain ⟨ff, hf, hV⟩ := hf_bind hV
        obtain ⟨fa', fb⟩ := y_can0 hf
        rw [if_pos fa'] at hV
        cases hV
        refine Or.inl ⟨?_, u_flt g2 fb⟩
        unfold f_X7_define at ex41
        obtain ⟨t1, et1, ex41⟩ := hf_bind ex41
        obtain ⟨t5, et5, ex41⟩ := hf_bind ex41
        obtain ⟨t9, et9, ex41⟩ := hf_bind ex41
        obtain ⟨t13, et13, ex41⟩ := hf_bind ex41
        cases ex41
        have z1 := y_ex0 c61 et1
        have z5 : ¬ t5.2.i 32 = 0 := by rw [kF_X1_expression N E1 E2 hm1 hm2 t1.2 t5 et5 z1]; exact z1
        have z9 : ¬ t9.2.i 32 = 0 := by rw [kF_X7_tell N t5.2 x32.1 t9 et9 z5]; exact z5
        have z13 : ¬ t13.2.i 32 = 0 := by rw [fst_add et13]; exact z9
        have z45 : ¬ x45.2.i 32 = 0 := by rw [kF_X7_forHead N E1 E2 hm1 hm2 t13.2 x45 ex45 z13]; exact z13
        rw [kF_X7_beginFor_85 N E1 E2 hm1 hm2 x45.2 (S.i 50) x45.1 R e85 z45]
        exact z45
  · have k410 : ¬ r.2.i 10 = 410 := fun z => c200 (i410.mpr z)
    rw [if_neg k410] at hV
    rw [e_skip0 c200, ob_some] at e
    have e' : ((f_X1_found N x5.2 2).bind fun p14 => (if p14.1 = 0 then f_X7_beginFor_80 N E1 E2 p14.2 (S.i 50) else (f_X7_changeHere N E1 E2 p14.2 0).bind fun p28 => f_X7_beginFor_80 N E1 E2 p28.2 (S.i 50))) = some R := (if_pos rfl).symm.trans e
    by_cases c2 : x5.2.i 43 = 2
    · -- a name gets a value
      rw [if_pos (i2.mp c2)] at hV
      rw [e_fnd1 c2, ob_some, if_neg n10] at e'
      obtain ⟨x28, ex28, e'⟩ := hf_bind e'
      obtain ⟨W, eW, e85⟩ := b80_in e'
      have f28 : ¬ x28.2.i 32 = 0 → ¬ R.2.i 32 = 0 := fun z => by
        have z1 : ¬ W.2.i 32 = 0 := by rw [kF_X7_forHead N E1 E2 hm1 hm2 x28.2 W eW z]; exact z
        rw [kF_X7_beginFor_85 N E1 E2 hm1 hm2 W.2 (S.i 50) W.1 R e85 z1]
        exact z1
      unfold f_X7_changeHere at ex28
      obtain ⟨av, eav, ex28⟩ := hf_bind ex28
      obtain ⟨ch, ech, ex28⟩ := hf_bind ex28
      cases ex28
      obtain ⟨Q, hQ, hV⟩ := hf_bind hV
      obtain ⟨-, hV⟩ := hf_ite hV
      rw [tp_nat w4.2.1] at hV
      obtain ⟨nx, hnx, hV⟩ := hf_bind hV
      have lq : x5.2.l = r.2.l := w4.1.1.2.2.2.1.2.2.2.2.1 c2
      have ech0 := ech
      unfold f_X7_change at ech0
      obtain ⟨F, eF, -⟩ := hf_bind ech0
      have eF' : f_X4_find N av.2 r.2.l = some F := by rw [← lq]; exact eF
      obtain ⟨F2, zz⟩ := y_got2 w4.1 (kc_X9_advance N x5.2 av eav) eF' hQ
      have cc := ch_cls eF F2 ech
      have bad : ¬ Q.2.i 15 = 0 → ¬ U.i 15 = 0 := fun z => by
        have z1 : ¬ nx.i 15 = 0 := krf_f_X12_next N _ nx hnx (show ¬ (RS.setA Q.2 66 T Q.1).i 15 = 0 from z)
        refine u_flt g2 ?_
        by_cases d1 : nx.i 10 = 61
        · rw [if_pos d1, can_f z1, ob_some, if_pos rfl] at hV
          cases hV
          exact z1
        · rw [if_neg d1, can_f z1, ob_some, if_pos rfl] at hV
          cases hV
          exact z1
      rcases zz with ⟨y1, y2⟩ | ⟨y1, C, y2, y3, y4⟩
      · rcases cc with ⟨r1, -⟩ | ⟨r1, -⟩
        · exact Or.inl ⟨f28 r1, bad y2⟩
        · exact absurd y1 r1
      rcases y4 with ⟨C0, Q2, kx, kx1, kx2, kx3, kx4⟩ | ⟨C1, Q15⟩
      · rw [Q2] at hnx
        obtain ⟨w7, f7⟩ := (w4.sa (j := 66) (v := Q.1) ⟨by omega, by omega⟩).nx hN (by rw [c2]; decide) eav hnx
        obtain ⟨ft7, -⟩ := FRB.ft (T := T) f7
        have i61 := tk_is w7.1 (a := 61) (b := 61) (Or.inl ⟨by decide, by decide⟩) (by decide)
        rcases cc with ⟨r1, r2⟩ | ⟨-, -, r3⟩
        · have ng : ¬ (av.2.i 43 = 61 ∨ (¬ (0 : Int32) = 0 ∧ av.2.i 43 = 135)) := by
            rcases r2 with r | r | r
            · exact absurd r y1
            · exact absurd C0 (r C y2)
            · exact r
          have d1 : ¬ nx.i 10 = 61 := fun z => ng (Or.inl (i61.mpr z))
          rw [if_neg d1] at hV
          obtain ⟨ff, hf, hV⟩ := hf_bind hV
          obtain ⟨fa, fb⟩ := y_can0 hf
          rw [if_pos fa] at hV
          cases hV
          exact Or.inl ⟨f28 r1, u_flt g2 fb⟩
        · rcases r3 with ⟨r3, v, xx, aa, ev, ex, eaa, hW⟩ | ⟨r3, -⟩
          · have k := i61.mp r3
            rw [if_pos k, y_can1 w7.1.1.2.1 (by rw [k]; decide), ob_some, if_neg n10] at hV
            have hV' : f_X12_forHead_196 N nx = some V := hV
            unfold f_X12_forHead_196 at hV'
            obtain ⟨n2, hn2, hV'⟩ := hf_bind hV'
            rw [ob_id] at hV'
            obtain ⟨w8, f8⟩ := w7.nx hN (by rw [r3]; decide) ev hn2
            have np8 := w8.2.2.2.2.2.2.1.2.1
            rcases y_expr hN hm1 hm2 hE w8.1 w8.2.1 (by omega) ex hV' g2 with ⟨z1, z2⟩ | ⟨m3, u, g3, xo, xc⟩
            · refine Or.inl ⟨f28 ?_, z2⟩
              show ¬ ch.2.i 32 = 0
              rw [hW, fst_add eaa]
              exact z1
            have w9 := w8.exo xo
            obtain ⟨ft8, -⟩ := FRB.ft (T := T) f8
            obtain ⟨ft9, u65⟩ := xo.ft
            have ft79 := ft7.tr (ft8.tr ft9)
            have np9 := w9.2.2.2.2.2.2.1.2.1
            obtain ⟨m4, V4, hV4, g4⟩ := rl_12 g3 w9.2.1 w9.1.1.2.1 (ft79.1.trans r64)
            unfold f_X12_fors at hV4
            obtain ⟨-, hV4⟩ := hf_ite hV4
            rw [tp_nat w9.2.1, if_neg (show ¬ u.a 65 T = 0 by rw [u65]; decide), if_neg (show ¬ u.a 65 T = 1 by rw [u65]; decide), if_pos u65] at hV4
            obtain ⟨em, hem, hV4⟩ := hf_bind hV4
            cases hV4
            obtain ⟨w10, f10, -, -, -⟩ := w9.em (by omega) hem
            obtain ⟨ft10, -⟩ := FRB.ft (T := T) f10
            have ftt := ft79.tr ft10
            have w11 : WAY d T 2 5 1 (-4) 2 S s aa.2 (RS.setA em.2 65 T 3) := ((w10.ad eaa).sa (j := 65) (v := 3) ⟨by omega, by omega⟩).nu (by omega) (by omega) (by omega) (by omega) (by omega)
            rw [← hW] at w11
            exact fo_three hN hm1 hm2 hE hE2 hC q1 q2 q3 hT hm hx hB (w11.z (by omega)) (ftt.1.trans r64) setA_at (ftt.2.2.2.2.2.2.1.trans r71) (fun ku jw => by
              have w46 := w4.sa (j := 66) (v := Q.1) ⟨by omega, by omega⟩
              have z1 := ((j4 ku jw).se (u := RS.setA r.2 66 T Q.1) rfl ⟨rfl, fun _ _ => rfl⟩).adv hN w46.1 (by rw [c2]; decide) eav hnx
              have z2 := z1.adv hN w7.1 (by rw [r3]; decide) ev hn2
              have pcv : pcC v.2 = pcC x5.2 := (pcC.pe (ke_X9_advance N av.2 v ev)).trans (pcC.pe (ke_X9_advance N x5.2 av eav))
              have prv : pcR n2 = pcR r.2 := (pcR.qe (kre_f_X12_next N nx n2 hn2)).trans (pcR.qe (kre_f_X12_next N (RS.setA r.2 66 T Q.1) nx hnx))
              have z3 := z2.imp (a1 := -4) (e1 := -5) (K' := JAN JTT (JQA U 1264 0 (pcC v.2) (pcR n2) JQZ)) (by omega) (by omega) (fun _ _ _ _ _ _ _ _ _ _ _ _ _ k => ⟨True.intro, by rw [pcv, prv]; exact k⟩)
              have l11 := w8.l11
              have l19 := w8.l19
              have z4 := z3.frm w8.1 xo xc (by omega) (by omega) (by omega) (by omega) (by omega)
              have tb7 : TBK (RS.setA r.2 66 T Q.1) nx := (y_nx hN w46.1 w46.2.1 (by rw [c2]; decide) eav hnx).2.2.2.1
              have tb8 : TBK nx n2 := (y_nx hN w7.1 w7.2.1 (by rw [r3]; decide) ev hn2).2.2.2.1
              have tb9 : TBK nx u := tb8.tr xo.2.2.2.2.1
              have n38 : nx.i 38 = r.2.i 38 := tb7.1.1.2.2.2.1
              have kn : (kx : Int) < (nx.i 38).toInt := by rw [n38]; exact kx2
              have n49 : (av.2.a 49 kx).toInt < 0 := nm_fr w46.1 w7.1 tb7 kx2 kx3
              have n40 : nx.a 40 kx = Q.1 := ((tb7.1.2.1 kx kx2).2.1).trans kx4.symm
              have u66 : u.a 66 T = Q.1 := ft79.2.1.trans setA_at
              have hk8 := (nms_hi w4.1).2
              have g44 : (xx.2.i 44).toInt = (u.i 11).toInt := by rw [w9.1.p44.1]
              have g6 := (i11_hi w9.1).2
              have u20 := w9.1.p20
              have z5 := z4.sto (k := kx) eaa (by omega) (by omega) hem ⟨u20.1, by omega⟩ (by rw [tb9.1.1.2.2.2.1]; exact kn) (nm_fr w7.1 w9.1 tb9 kn n49) (gat_k kx1 (by omega)) (by rw [u66, (tb9.1.2.1 kx kn).2.1]; exact n40.symm)
              rw [← hW] at z5
              exact (z5.imp (a1 := -2) (e1 := -2) (K' := JQA U 1264 0 (pcC ch.2) (pcR em.2) JQZ) (by omega) (by omega) (fun _ _ _ _ _ _ _ _ _ _ _ _ _ k => k.2)).se (u := RS.setA em.2 65 T 3) rfl ⟨rfl, fun _ _ => rfl⟩) eW e85 g4
          · exact absurd rfl r3
      · rcases cc with ⟨r1, -⟩ | ⟨-, r2, -⟩
        · exact Or.inl ⟨f28 r1, bad Q15⟩
        · exact absurd (r2 C y2) C1
    · -- nothing
      have k2 : ¬ r.2.i 10 = 2 := fun z => c2 (i2.mpr z)
      rw [if_neg k2] at hV
      rw [e_fnd0 c2, ob_some, if_pos rfl] at e'
      obtain ⟨W, eW, e85⟩ := b80_in e'
      by_cases c59 : x5.2.i 43 = 59
      · have k59 := i59.mp c59
        rw [if_pos k59, y_can1 w4.1.1.2.1 (by rw [k59]; decide), ob_some, if_neg n10] at hV
        have hV' : f_X12_forHead_231 N r.2 (r.2.i 63) = some V := hV
        unfold f_X12_forHead_231 at hV'
        obtain ⟨-, hV'⟩ := hf_ite hV'
        rw [tp_nat w4.2.1] at hV'
        cases hV'
        exact fo_three hN hm1 hm2 hE hE2 hC q1 q2 q3 hT hm hx hB ((w4.sa (j := 65) (v := 3) ⟨by omega, by omega⟩).z (by omega)) r64 setA_at r71 (fun ku jw => ((j4 ku jw).imp (a1 := -2) (e1 := -2) (K' := JQA U 1264 0 (pcC x5.2) (pcR r.2) JQZ) (by omega) (by omega) (fun _ _ _ _ _ _ _ _ _ _ _ _ _ k => k)).se (u := RS.setA r.2 65 T 3) rfl ⟨rfl, fun _ _ => rfl⟩) eW e85 g2
      · have k59 : ¬ r.2.i 10 = 59 := fun z => c59 (i59.mpr z)
        rw [if_neg k59] at hV
        obtain ⟨ff, hf, hV⟩ := hf_bind hV
        obtain ⟨fa, fb⟩ := y_can0 hf
        rw [if_pos fa] at hV
        cases hV
        refine Or.inl ⟨?_, u_flt g2 fb⟩
        have z1 := fh_bad hm1 hm2 c59 eW
        rw [kF_X7_beginFor_85 N E1 E2 hm1 hm2 W.2 (S.i 50) W.1 R e85 z1]
        exact z1
