/-! both readers: statements that end in their turn, in a row -/
def DN (d : Int32) (B : CS) (b : RS) (t0 T : Nat) (c : CEL) (L : List CEL) (x : Int) (R : CS) (u : RS) : Prop := COR d B b t0 (c :: L) x R u ∧ TOP R u c ∧ LOW R u c ∧ tpI u = (T : Int) - 1 ∧ (u.i 75 = R.i 36 ∧ (R.i 36 = 0 ∨ R.i 36 = 1)) ∧ T = ceT c + wid (R.o c.2.1 0)
theorem CKZ.tr {S P R : CS} (h : CKZ S P) (e53 : P.i 53 = S.i 53) (g : CKZ P R) : CKZ S R := by
  obtain ⟨c1, c2, c3, c4, c5, c6, c7, c8⟩ := h
  obtain ⟨d1, d2, d3, d4, d5, d6, d7, d8⟩ := g
  refine ⟨d1.trans c1, fun k hk => (d2 k (by rw [e53]; exact hk)).trans (c2 k hk), fun k a hk ha => ?_, fun k hk => (d4 k (by rw [c1]; exact hk)).trans (c4 k hk), by omega, by omega, fun k hk => (d7 k (by omega)).trans (c7 k hk), fun k k1 k2 => ?_⟩
  · have e := c3 k a hk ha
    have g := d3 k a (by rw [e53]; exact hk) ((c2 k hk).trans ha)
    exact ⟨g.1.trans e.1, g.2.trans e.2⟩
  · by_cases z : (k : Int) < (P.i 55).toInt
    · rw [d7 k z]
      rcases c8 k k1 z with y | y
      · exact Or.inl y
      · exact Or.inr ⟨y.1, by omega⟩
    · rcases d8 k (by omega) k2 with y | y
      · exact Or.inl y
      · exact Or.inr ⟨by omega, y.2⟩
/-- the class's step, the reference's sort and its step -/
theorem st_k {N : Nat} {d : Int32} {B : CS} {b : RS} {t0 T n : Nat} {L : List CEL} {x : Int} {S : CS} {s U : RS} {c : CEL} {K : Int32} {P : CS → RS → Prop} {Q : RS → CS → RS → CS → RS → Prop} {A : JBA} {F : CS → Option (Unit × CS)} {p R : Unit × CS} (hF : SXD N K P Q F) (k2 : ¬ K = 2) (k5 : ¬ K = 5) (hC : COR d B b t0 (c :: L) x S s) (hS : STO c T S s) (hT : t0 ≤ T) (hP : ∀ (S2 : CS) (s2 : RS), S2.i 43 = S.i 43 → s2.i 38 = s.i 38 → S2.i 21 = S.i 21 → S2.i 56 = S.i 56 → S2.i 53 = S.i 53 → S2.r = S.r → s2.i 11 = s.i 11 → s2.i 43 = s.i 43 → s2.a 44 = s.a 44 → P S2 s2) (hst : ∀ V : RS, f_X12_stat N s (s.i 63) = some V → f_X12_stat_240 N (RS.setA (RS.setI s 53 ((s.i 53) + 1)) 64 T K) (s.i 63) = some V) (e1 : f_X0_add N (CS.setI (CS.setI S 36 1) 24 ((S.i 24) + 1)) 51 0 = some p) (e2 : F p.2 = some R) (hQ : ∀ (P : CS) (y : RS) (u : RS), ENV d P y → DON d T P y R.2 u → KU3 U y → Q U P y R.2 u → (P.i 56 = S.i 56 ∧ P.r = S.r ∧ P.o = S.o) → (y.i 43 = s.i 43 ∧ y.a 44 = s.a 44 ∧ y.a 47 = s.a 47) → JOK A (vws S s (c :: L)) U P y R.2 u) (g : f_X12_parse_10 N n s = some U) : (¬ R.2.i 32 = 0 ∧ ¬ U.i 15 = 0) ∨ ∃ (m : Nat) (u : RS), f_X12_parse_10 N m u = some U ∧ DN d B b t0 T c L x R.2 u ∧ (∃ (P : CS) (y : RS), y.i 38 = s.i 38 ∧ Q U P y R.2 u) ∧ R.2.o c.2.1 = S.o c.2.1 ∧ (KU3 U s → JRW A U B b (vws S s (c :: L)) S s → JRW A U B b (vws R.2 u (c :: L)) R.2 u) := by
  obtain ⟨q1, q2, q3, q4, q5, q6⟩ := id hS
  have hv := hC.1
  obtain ⟨m1, V1, hV1, g1⟩ := rl_2 g q4 hv.1.2.1 q5
  have hV2 := hst V1 hV1
  have ph3 : 3 ≤ phI s := by
    have a := hC.2.2.2.2.2.2.1.2.1
    have b := (PDM.ge S (c :: L)).1
    have e := hC.2.2.2.2.2.2.2.2.2.2.2.1
    omega
  have ev1 := hv.stm (t := T) (K := K)
  obtain ⟨fz, kz⟩ := stm_r (s := s) (t := T) (v := s.i 53 + 1) (K := K)
  obtain ⟨zS, rS⟩ := stm_z S (S.i 24 + 1)
  obtain ⟨s1, hs1⟩ : ∃ y, y = RS.setA (RS.setI s 53 ((s.i 53) + 1)) 64 T K := ⟨_, rfl⟩
  obtain ⟨S1, hS1⟩ : ∃ y, y = CS.setI (CS.setI S 36 1) 24 ((S.i 24) + 1) := ⟨_, rfl⟩
  have i1 : ∀ k : Nat, k ≠ 53 → s1.i k = s.i k := by
    rw [hs1]
    exact fun k h => if_neg h
  have a64 : s1.a 64 T = K := by
    rw [hs1]
    exact setA_at
  have aq : ∀ k : Nat, k ≠ 64 → s1.a k = s.a k := by
    rw [hs1]
    exact fun k h => setA_nk h
  have iS : ∀ k : Nat, k ≠ 36 → k ≠ 24 → S1.i k = S.i k := by
    rw [hS1]
    exact fun k h1 h2 => (ci_ne _ _ _ h2).trans (ci_ne _ _ _ h1)
  have iS36 : S1.i 36 = 1 := by
    rw [hS1, ci_ne _ _ _ (by decide), ci_at]
  have rS1 : S1.r = S.r := by rw [hS1]; rfl
  have oS1 : S1.o = S.o := by rw [hS1]; rfl
  have peS : pe S1 = pe S := by rw [hS1]; rfl
  have aS : S1.a = S.a := by rw [hS1]; rfl
  have qs : qe s1 = qe s := by rw [hs1]; rfl
  rw [← hs1] at hV2 ev1 fz kz
  rw [← hS1] at e1 ev1 zS rS
  clear hs1 hS1
  have t1 : tpI s1 = (T : Int) := by
    show (s1.i 63).toInt = (T : Int)
    rw [i1 63 (by decide)]
    exact q4
  have p1 : phI s1 = phI s := by
    unfold phI
    rw [i1 17 (by decide), i1 20 (by decide)]
  unfold f_X12_stat_240 at hV2
  obtain ⟨-, hV2⟩ := hf_ite hV2
  rw [tp_nat q4, a64, if_neg k2, if_neg k5] at hV2
  obtain ⟨y, hy, hV2⟩ := hf_bind hV2
  cases hV2
  obtain ⟨n1, n2, n3, n4, n5, n6, n7, n8, n9, n10', n11⟩ := y_emit ev1 t1 (by omega) hy
  obtain ⟨a1, ck1, i43, i21⟩ := y_add n1 e1
  have y64 : y.2.a 64 T = K := (n3 (T + 1) T (by omega)).1.trans a64
  have y65 : y.2.a 65 T = 0 := (n3 (T + 1) T (by omega)).2.1.trans (by rw [aq 65 (by decide)]; exact q6)
  have kp := pj2_eq (kd_X0_add N S1 51 0 p e1)
  have qz9 := (qj2_eq (em_env ev1 (by omega) hy).2.2.1).1
  have y47 : y.2.a 47 = s1.a 47 := by
    obtain ⟨-, -, -, -, -, -, -, -, -, -, -, -, -, -, -, -, -, -, -, -, -, -, -, -, -, -, -, -, -, -, -, a47, -⟩ := qj_eq qz9
    exact a47
  have pe := pj_eq kp.1
  have pr : P p.2 y.2 := hP p.2 y.2 (i43.trans (iS 43 (by decide) (by decide))) (n4.1.1.2.2.2.1.trans (i1 38 (by decide))) (i21.trans (iS 21 (by decide) (by decide))) (ck1.1.2.2.2.2.2.trans (iS 56 (by decide) (by decide))) (ck1.1.2.2.2.2.1.trans (iS 53 (by decide) (by decide))) (pe.2.2.2.2.2.2.2.2.2.2.2.2.2.2.2.2.2.2.2.2.2.2.2.1.trans rS1) (n8.trans (i1 11 (by decide))) (n4.1.1.2.2.2.2.1.trans (i1 43 (by decide))) (by
    have z := (qj2_eq (em_env ev1 (by omega) hy).2.2.1).1
    rw [qj_44 z, aq 44 (by decide)])
  rcases hF d p.2 y.2 U m1 T R a1 pr (ck1.1.2.1.trans iS36) n2 y64 y65 (by omega) e2 g1 with z | ⟨m2, u, g2, dn, x38⟩
  · exact Or.inl z
  · have e54 : p.2.i 38 = S.i 38 ∧ p.2.i 53 = S.i 53 ∧ p.2.i 56 = S.i 56 := ⟨ck1.1.2.2.1.trans (iS 38 (by decide) (by decide)), ck1.1.2.2.2.2.1.trans (iS 53 (by decide) (by decide)), ck1.1.2.2.2.2.2.trans (iS 56 (by decide) (by decide))⟩
    have z2 : CKZ S p.2 ∧ RTE S p.2 := by
      obtain ⟨c1, c2, c3, c4, c5, c6, c7, c8⟩ := zS
      obtain ⟨d1, d2, d3, d4, d5, d6, d7, d8⟩ := ck1.z
      have e53 : S1.i 53 = S.i 53 := iS 53 (by decide) (by decide)
      have j22 : S1.i 22 = S.i 22 := iS 22 (by decide) (by decide)
      have j55 : S1.i 55 = S.i 55 := iS 55 (by decide) (by decide)
      have j54 : S1.i 54 = S.i 54 := iS 54 (by decide) (by decide)
      refine ⟨⟨d1.trans c1, fun k hk => (d2 k (by rw [e53]; exact hk)).trans (c2 k hk), fun k a hk ha => ?_, fun k hk => (d4 k (by rw [j22]; exact hk)).trans (c4 k hk), by omega, by omega, fun k hk => (d7 k (by rw [j55]; exact hk)).trans (c7 k hk), fun k k1 k2 => by rw [← j54]; exact d8 k (by rw [j55]; exact k1) k2⟩, ?_⟩
      · have e := c3 k a hk ha
        have g := d3 k a (by rw [e53]; exact hk) ((c2 k hk).trans ha)
        exact ⟨g.1.trans e.1, g.2.trans e.2⟩
      · have r2 : RTE S1 p.2 := ck1.2.2.2.2.2.2.2.2
        unfold RTE at *
        omega
    have dd := st_done hC hS hT (fz.tr (n3 T)) (kz.tr n4) z2.1 e54 z2.2 ⟨by rw [n8, i1 11 (by decide)]; exact Int.le_refl _, by rw [n9, i1 17 (by decide)]; exact Int.le_refl _, by rw [n10', i1 19 (by decide)], by omega⟩ dn
    have eo := ((hC.inl q1 q3).o (z2.1.tr e54.2.1 dn.2.2.2.2.2.2.1) c List.mem_cons_self).1
    refine Or.inr ⟨m2, u, g2, dd, ⟨p.2, y.2, by rw [n4.1.1.2.2.2.1, i1 38 (by decide)], x38⟩, eo, fun ku jw => ?_⟩
    have hin := hC.inl q1 q3
    have veq : vws R.2 u (c :: L) = vws S s (c :: L) := vws.eq (T := T) (fun j hj => ((dn.2.2.2.1.1 j (by rw [(NMV.tbk n4).1, i1 38 (by decide)]; exact hj)).2.1).trans ((NMV.tr (s := s) ⟨i1 38 (by decide), fun j _ => by rw [aq 40 (by decide)]⟩ (NMV.tbk n4)).2 j hj)) (c :: L) hC.o3 (fun r hr => (hin.o (z2.1.tr e54.2.1 dn.2.2.2.2.2.2.1) r hr).1) ((fz.tr (n3 T)).tr dn.2.2.1) (fun r hr => by
      have z1 := (hin r hr).2.2.1
      have z3 := wid1 (S.o r.2.1 0)
      omega)
    rw [veq]
    have cS : CD1 0 0 S S1 := (CD1.pe (b := 0) peS (iS 21 (by decide) (by decide)) (iS 50 (by decide) (by decide)) (by rw [aS]) (by rw [aS]) (by rw [iS 44 (by decide) (by decide)]; omega)).wk (by omega) (by omega)
    have y3 : y.2.i 3 = s.i 3 := n4.1.1.2.1.trans (i1 3 (by decide))
    have ok := hQ p.2 y.2 u a1 dn ⟨ku.1.trans y3.symm, ku.2⟩ x38 ⟨e54.2.2, pe.2.2.2.2.2.2.2.2.2.2.2.2.2.2.2.2.2.2.2.2.2.2.2.1.trans rS1, pe.2.2.2.2.2.2.2.2.2.2.2.2.2.2.2.2.2.2.2.2.2.2.2.2.1.trans oS1⟩ ⟨n4.1.1.2.2.2.2.1.trans (i1 43 (by decide)), by rw [qj_44 qz9, aq 44 (by decide)], by rw [y47, aq 47 (by decide)]⟩
    have l11 := dn.2.2.2.2.2.2.2.2.2.1.1
    have l19 := dn.2.2.2.2.2.2.2.2.2.1.2.2.2
    exact jw.sim ev1 (by omega) cS (fun _ _ => CT7.eq (by rw [aS])) (fun _ => CD2.qe qs) (iS 20 (by decide) (by decide)) (i1 20 (by decide)) hv.2.1.1 hC.2.2.2.2.2.1.2.1.1 ⟨i1 38 (by decide), fun j _ => by rw [aq 40 (by decide)]⟩ e1 hy ⟨by rw [n10', i1 19 (by decide)]; exact Int.le_refl _, by rw [l19, n10', i1 19 (by decide)]; exact Int.le_refl _⟩ ok ⟨by rw [n8, i1 11 (by decide)]; exact Int.le_refl _, by rw [n8, i1 11 (by decide)] at l11; omega⟩ ((GKP.tbk (kz.tr n4)).tr (GKP.tbr dn.2.2.2.1 (by rw [dn.2.2.2.2.2.1.2.2.2.1]; exact Int.le_refl _)))
