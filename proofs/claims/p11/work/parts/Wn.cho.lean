/-! both readers: a choice -/
theorem rsIa2 {r : RS} {k : Nat} {w : Int32} : (RS.setI r k w).a = r.a := rfl
theorem gl_47 {N : Nat} {s : RS} {x : Int32} {l : Int64} {z : Int32 × RS} (g : f_X12_goal N s x l = some z) : z.2.a 47 (s.i 43).toNatClampNeg = s.i 52 ∧ z.2.i 52 = s.i 52 := by
  unfold f_X12_goal at g
  obtain ⟨-, g⟩ := hf_ite g
  cases g
  refine ⟨?_, rfl⟩
  rw [rsIa2, setA_nk (by decide), setA_nk (by decide), setA_nk (by decide), setA_nk (by decide), setA_at]
/-- CKX without the targets -/
def CKY (S R : CS) : Prop := (R.i 22 = S.i 22 ∧ R.i 36 = S.i 36 ∧ R.i 38 = S.i 38 ∧ R.i 50 = S.i 50 ∧ R.i 53 = S.i 53 ∧ R.i 56 = S.i 56) ∧ (∀ k : Nat, (k : Int) < (S.i 53).toInt → R.r 51 k = S.r 51 k) ∧ (∀ k a : Nat, (k : Int) < (S.i 53).toInt → S.r 51 k = some a → R.o a = S.o a ∧ R.ol a = S.ol a) ∧ (∀ k : Nat, (k : Int) < (S.i 22).toInt → R.a 18 k = S.a 18 k) ∧ (S.i 54).toInt ≤ (R.i 54).toInt ∧ (S.i 55).toInt ≤ (R.i 55).toInt ∧ (∀ k : Nat, (k : Int) < (S.i 55).toInt → R.a 52 k = S.a 52 k) ∧ (∀ k : Nat, (S.i 55).toInt ≤ (k : Int) → (k : Int) < (R.i 55).toInt → R.a 52 k = 0 ∨ (2 * (S.i 54).toInt + 1 < (R.a 52 k).toInt ∧ (R.a 52 k).toInt ≤ 2 * (R.i 54).toInt + 1)) ∧ (R.i 54).toInt + (S.i 44).toInt ≤ (S.i 54).toInt + (R.i 44).toInt ∧ 6 * (R.i 55).toInt + (S.i 44).toInt ≤ 6 * (S.i 55).toInt + (R.i 44).toInt
theorem CKX.y {S R : CS} (h : CKX S R) : CKY S R := ⟨h.1, h.2.1, h.2.2.1, h.2.2.2.1, h.2.2.2.2.1, h.2.2.2.2.2.1, h.2.2.2.2.2.2.1, h.2.2.2.2.2.2.2.1, h.2.2.2.2.2.2.2.2.2⟩
theorem CKY.nt {N : Nat} {S R : CS} {w : Int32 × CS} (e : f_X0_newTarget N S = some w) (g : CKY w.2 R) : CKY S R := by
  unfold f_X0_newTarget at e
  cases e
  exact g
theorem CKX.trx {S R T : CS} (h : CKX S R) (g : CKY R T) (hr : (T.i 21).toInt + 2 * (S.i 44).toInt ≤ (S.i 21).toInt + 2 * (T.i 44).toInt) : CKX S T := by
  obtain ⟨⟨a1, a2, a3, a4, a5, a6⟩, b1, b2, b3, b4, b5, b6, b7, b8, b9, b10⟩ := h
  obtain ⟨⟨c1, c2, c3, c4, c5, c6⟩, d1, d2, d3, d4, d5, d6, d7, d9, d10⟩ := g
  refine ⟨⟨c1.trans a1, c2.trans a2, c3.trans a3, c4.trans a4, c5.trans a5, c6.trans a6⟩, fun k hk => (d1 k (by rw [a5]; exact hk)).trans (b1 k hk), fun k a hk ha => ?_, fun k hk => (d3 k (by rw [a1]; exact hk)).trans (b3 k hk), Int.le_trans b4 d4, Int.le_trans b5 d5, fun k hk => (d6 k (by omega)).trans (b6 k hk), fun k h1 h2 => ?_, hr, by omega, by omega⟩
  · have e := b2 k a hk ha
    have f := d2 k a (by rw [a5]; exact hk) ((b1 k hk).trans ha)
    exact ⟨f.1.trans e.1, f.2.trans e.2⟩
  · by_cases c : (k : Int) < (R.i 55).toInt
    · rw [d6 k c]
      rcases b7 k h1 c with z | z
      · exact Or.inl z
      · exact Or.inr ⟨z.1, by omega⟩
    · rcases d7 k (by omega) h2 with z | z
      · exact Or.inl z
      · exact Or.inr ⟨by omega, z.2⟩
theorem ENV.chb {d : Int32} {t : Nat} {v : Int32} {S : CS} {s x : RS} (h : ENV d S s) (g : CHB t v s x) : ENV d S x ∧ phI x = phI s := by
  obtain ⟨a1, a2, a3, a4, a5, a6, -, a8, ⟨b1, b2, b3, -⟩⟩ := g
  have px : phI x = phI s := by
    unfold phI
    rw [a1 17 (by decide) (by decide), a1 20 (by decide) (by decide)]
  exact ⟨h.kq (a1 38 (by decide) (by decide)) (a1 2 (by decide) (by decide)) (a1 3 (by decide) (by decide)) (a1 18 (by decide) (by decide)) (a1 53 (by decide) (by decide)) (a1 54 (by decide) (by decide)) (a1 55 (by decide) (by decide)) (a2 1 (by omega)) (a2 4 (by omega)) (a2 41 (by omega)) (a4 9 (by decide)) (a4 39 (by decide)) (a1 10 (by decide) (by decide)) (a1 11 (by decide) (by decide)) (a1 12 (by decide) (by decide)) (a1 14 (by decide) (by decide)) (a1 15 (by decide) (by decide)) (a1 17 (by decide) (by decide)) (a1 19 (by decide) (by decide)) a6 ⟨by rw [a1 20 (by decide) (by decide)]; exact h.2.2.2.2.2.2.1, by rw [px]; exact h.2.2.2.2.2.2.2.1⟩ (h.wp.of (by rw [b3, ad1 b1 (by omega)]; omega) (a1 56 (by decide) (by decide)) (a1 59 (by decide) (by decide)) (a1 29 (by decide) (by decide)) (a2 58 (by omega)) (a2 62 (by omega))), px⟩
theorem FRB.chb {t : Nat} {v : Int32} {s x : RS} (g : CHB t v s x) : FRB t s x := by
  obtain ⟨-, a2, a3, a4, a5, a6, -, a8, -⟩ := g
  exact fun j hj => ⟨a8 64 j (by decide) (by omega), a8 65 j (by decide) (by omega), a8 66 j (by decide) (by omega), a8 67 j (by decide) (by omega), a8 68 j (by decide) (by omega), a8 69 j (by decide) (by omega), a8 70 j (by decide) (by omega), a8 71 j (by decide) (by omega), a8 72 j (by decide) (by omega), a8 73 j (by decide) (by omega), by rw [a4 74 (by decide)]⟩
/-- all but the depth -/
theorem CD2.to {c : Int} {s u : RS} (h : CD2 c s u) : CD2 c s (RS.setI u 52 (s.i 52)) := ⟨⟨h.1.1, h.1.2.1, h.1.2.2.1, h.1.2.2.2.1, h.1.2.2.2.2.1, rfl⟩, h.2⟩
theorem CD2.nn {c : Int} {s p u : RS} (h : CD2 c s (RS.setI p 52 (s.i 52))) (g : CD2 c p (RS.setI u 52 (p.i 52))) : CD2 c s (RS.setI u 52 (s.i 52)) := by
  have g' : CD2 c (RS.setI p 52 (s.i 52)) (RS.setI u 52 (s.i 52)) := ⟨⟨g.1.1, g.1.2.1, g.1.2.2.1, g.1.2.2.2.1, g.1.2.2.2.2.1, rfl⟩, g.2⟩
  exact h.tr g'
theorem CD2.n0 {c : Int} {s u : RS} (h : CD2 c s (RS.setI u 52 (s.i 52))) (e : u.i 52 = s.i 52) : CD2 c s u := ⟨⟨h.1.1, h.1.2.1, h.1.2.2.1, h.1.2.2.2.1, h.1.2.2.2.2.1, e⟩, h.2⟩
theorem CHB.cd {t : Nat} {v : Int32} {s x : RS} (h : CHB t v s x) (c : Int) : CD2 c s (RS.setI x 52 (s.i 52)) := by
  obtain ⟨a1, a2, -⟩ := h
  refine ⟨⟨?_, ?_, ?_, ?_, ?_, rfl⟩, fun j _ => ?_, fun j _ => ?_, fun j _ => ?_, fun j _ => ?_⟩
  · show (s.i 20).toInt ≤ (x.i 20).toInt
    rw [a1 20 (by decide) (by decide)]
    exact Int.le_refl _
  · show (s.i 24).toInt ≤ (x.i 24).toInt
    rw [a1 24 (by decide) (by decide)]
    exact Int.le_refl _
  · show (s.i 29).toInt ≤ (x.i 29).toInt
    rw [a1 29 (by decide) (by decide)]
    exact Int.le_refl _
  · show (s.i 33).toInt ≤ (x.i 33).toInt
    rw [a1 33 (by decide) (by decide)]
    exact Int.le_refl _
  · exact (show SLC s x from SLC.eq (a1 42 (by decide) (by decide)) (by rw [a1 20 (by decide) (by decide)]; exact Int.le_refl _))
  · show x.a 21 j = s.a 21 j ∧ x.a 22 j = s.a 22 j ∧ x.a 23 j = s.a 23 j
    rw [a2 21 (by omega), a2 22 (by omega), a2 23 (by omega)]
    exact ⟨rfl, rfl, rfl⟩
  · show x.a 25 j = s.a 25 j ∧ x.a 26 j = s.a 26 j ∧ x.a 27 j = s.a 27 j ∧ x.a 28 j = s.a 28 j
    rw [a2 25 (by omega), a2 26 (by omega), a2 27 (by omega), a2 28 (by omega)]
    exact ⟨rfl, rfl, rfl, rfl⟩
  · show x.a 30 j = s.a 30 j ∧ x.a 31 j = s.a 31 j ∧ x.a 32 j = s.a 32 j
    rw [a2 30 (by omega), a2 31 (by omega), a2 32 (by omega)]
    exact ⟨rfl, rfl, rfl⟩
  · show x.a 34 j = s.a 34 j ∧ x.a 35 j = s.a 35 j ∧ x.a 36 j = s.a 36 j ∧ x.a 37 j = s.a 37 j
    rw [a2 34 (by omega), a2 35 (by omega), a2 36 (by omega), a2 37 (by omega)]
    exact ⟨rfl, rfl, rfl, rfl⟩
set_option maxHeartbeats 16000000 in
theorem sx_choice {N : Nat} (hN : 1000 ≤ N) {E1 : CS → Option (Unit × CS)} {E2 : CS → Option (Int32 × CS)} (hm1 : ∀ σ, Kf (CS.i σ 32) (E1 σ)) (hm2 : ∀ σ, Kf (CS.i σ 32) (E2 σ)) (hE : SXR N 18 E1) (hB : ABK N (f_X7_armBlock N E1 E2)) : SXC N (f_X1_choice N E1 E2) := by
  intro d S s U n t R hv ht hk hs h3 csw e g
  obtain ⟨m, V, hV, g2⟩ := rl_19 g ht hv.1.2.1 hk
  unfold f_X12_arms at hV
  obtain ⟨hib, hV⟩ := hf_ite hV
  rw [tp_nat ht, if_pos hs] at hV
  unfold f_X1_choice at e
  obtain ⟨p1, e1, e⟩ := hf_bind e
  obtain ⟨p5, e5, e⟩ := hf_bind e
  obtain ⟨p9, e9, e⟩ := hf_bind e
  obtain ⟨p13, e13, e⟩ := hf_bind e
  obtain ⟨p17, e17, e⟩ := hf_bind e
  obtain ⟨p21, e21, e⟩ := hf_bind e
  obtain ⟨p25, e25, e⟩ := hf_bind e
  obtain ⟨p29, e29, e⟩ := hf_bind e
  obtain ⟨q3, hq3, hV⟩ := hf_bind hV
  obtain ⟨q5, hq5, hV⟩ := hf_bind hV
  rw [ob_id] at hV
  have f17 : ¬ p17.2.i 32 = 0 → ¬ R.2.i 32 = 0 := fun z => by
    have z1 : ¬ p21.2.i 32 = 0 := by rw [(nt_i e21).1]; exact z
    have z2 : ¬ p25.2.i 32 = 0 := by rw [(nt_i e25).1]; exact z1
    have z3 : ¬ p29.2.i 32 = 0 := by rw [fst_add e29]; exact z2
    rw [kF_X1_choice_69 N E1 E2 hm1 hm2 N p29.2 p21.1 p25.1 (p25.2.i 22) (-1) 0 R e z3]
    exact z3
  have f13 : ¬ p13.2.i 32 = 0 → ¬ R.2.i 32 = 0 := fun z => f17 (by rw [kF_X1_open N p13.2 123 p17 e17 z]; exact z)
  have f9 : ¬ p9.2.i 32 = 0 → ¬ R.2.i 32 = 0 := fun z => f13 (by rw [kF_X1_close N p9.2 41 p13 e13 z]; exact z)
  have f5 : ¬ p5.2.i 32 = 0 → ¬ R.2.i 32 = 0 := fun z => f9 (by rw [kF_X1_expression N E1 E2 hm1 hm2 p5.2 p9 e9 z]; exact z)
  obtain ⟨a1, a2, a3, a4, a5, a6, a7, a8, a9, a10⟩ := hv.adv hN (by rw [csw]; decide) e1 hq3
  obtain ⟨-, -, tu, b9⟩ := y_adv hN hv.1 e1 hq3
  have l4 : (s.i 11).toInt + 4 ≤ (q3.i 11).toInt := by
    have l2 := hv.1.2.2.2.2.2.2.1.2.2.2.2.2.2.1 (Or.inl csw)
    rw [hv.1.2.2.2.1.1, hv.1.2.2.2.1.2.1] at l2
    omega
  have t3 := qj_63 a2 ht
  have s17 : (q3.i 17).toInt = (s.i 17).toInt + 1 := by rw [a4]; exact t17_up (N := N) hv
  have pq3 : phI q3 = phI s + 3 := by
    unfold phI
    rw [a6, s17]
    omega
  rcases y_open hN a1 (c := 40) (d := 40) (Or.inl ⟨by decide, by decide⟩) (by decide) (by decide) (by decide) e5 hq5 with ⟨o1, o2, o3⟩ | ⟨o1, o2, o3, o4, o5, o6, o7, o8, o9, o10, o11, o12⟩
  · exact Or.inl ⟨f5 o2, u_flt g2 (krf_f_X12_then N q5.2 1 16 V hV o3)⟩
  have t5 := qj_63 o4 t3
  have q17 : (q5.2.i 17).toInt = (s.i 17).toInt + 2 := by rw [o6, t17_up (N := N) a1, s17]; omega
  have pq5 : phI q5.2 = phI s + 6 := by
    unfold phI at pq3 ⊢
    rw [o8, q17]
    rw [s17] at pq3
    omega
  obtain ⟨hV', t99⟩ := r_then t5 hV
  rw [hV'] at g2
  rcases sx_expression hN hm1 hm2 hE d p5.2 (TH q5.2 t 1 16) U m (t + 1) p9 o3.th (TH.tp t5 (by omega)) TH.fk TH.fs (show 3 ≤ phI q5.2 by omega) e9 g2 with ⟨x1, x2⟩ | ⟨m2, u, g3, xo, xc⟩
  · exact Or.inl ⟨f9 x1, x2⟩
  obtain ⟨w1, w2, w3, w4, w5, w6, w7, w8, w9⟩ := xo
  have fut := w3 t (by omega)
  have fq5 : FRB (t + 1) q3 q5.2 := FRB.of o4
  have fq3 : FRB (t + 1) s q3 := FRB.of a2
  have u64 : u.a 64 t = 19 := by
    rw [fut.1, TH.fk0 (Nat.le_refl t), (fq5 t (by omega)).1, (fq3 t (by omega)).1]
    exact hk
  have u65 : u.a 65 t = 1 := by
    rw [fut.2.1]
    exact TH.st
  have tu' : tpI u = t := by
    rw [w2]
    omega
  have w6' : (q5.2.i 11).toInt + 1 ≤ (u.i 11).toInt := w6
  have w7' : phI q5.2 + 1 ≤ phI u := w7
  have w8' : (q5.2.i 17).toInt + 1 ≤ (u.i 17).toInt := w8
  have w9' : u.i 19 = q5.2.i 19 := w9
  have s19 := hv.2.2.1.2.1
  have u19 : (u.i 19).toInt = (s.i 19).toInt + 1 := by rw [w9', o12, a10]
  obtain ⟨m3, V3, hV3, g4⟩ := rl_19 g3 tu' w1.1.2.1 u64
  unfold f_X12_arms at hV3
  obtain ⟨-, hV3⟩ := hf_ite hV3
  rw [tp_nat tu', if_neg (show ¬ u.a 65 t = 0 by rw [u65]; decide), if_pos u65] at hV3
  obtain ⟨q10, h10, hV3⟩ := hf_bind hV3
  obtain ⟨q12, h12, hV3⟩ := hf_bind hV3
  obtain ⟨q14, h14, hV3⟩ := hf_bind hV3
  obtain ⟨q16, h16, hV3⟩ := hf_bind hV3
  cases hV3
  have hcb := y_chb h14
  have c15 : q14.2.i 15 = q12.2.i 15 := hcb.1 15 (by decide) (by decide)
  rcases y_close hN w1 (sg_room hv w1 (((CKX.of a3 a8 a9).tr (CKX.of o5 o10 o11)).tr w5) (by omega)) (c := 41) (d := 41) (Or.inl ⟨by decide, by decide⟩) (by decide) (by decide) (by decide) e13 h10 with ⟨b1, b2, b3⟩ | ⟨b1, b2, b3, b4, b5, b6, b7, b8, b9', b10, b11, b12⟩
  · refine Or.inl ⟨f13 b2, u_flt g4 ?_⟩
    have z1 : ¬ q12.2.i 15 = 0 := krf_f_X12_emit N q10.2 29 (-1) q12 h12 b3
    have z2 : ¬ q14.2.i 15 = 0 := by rw [c15]; exact z1
    exact (show ¬ q16.2.i 15 = 0 from krf_f_X12_open N q14.2 123 q16 h16 z2)
  have z17 : (q10.2.i 17).toInt = (u.i 17).toInt + 1 := by rw [b6]; exact t17_up (N := N) w1
  have p10 : phI q10.2 = phI u + 3 := by
    unfold phI
    rw [b8, z17]
    omega
  obtain ⟨n1, n2, n3, n4, n5, n6⟩ := em_env b3 (by omega) h12
  have n22 := em_at h12 (i20_hi b3 (by omega))
  have nq := qj2_eq n3
  obtain ⟨c1, c2⟩ := n1.chb hcb
  rcases y_open hN c1 (c := 123) (d := 123) (Or.inl ⟨by decide, by decide⟩) (by decide) (by decide) (by decide) e17 h16 with ⟨d1, d2, d3⟩ | ⟨d1, d2, d3, d4, d5, d6, d7, d8, d9, d10, d11, d12⟩
  · exact Or.inl ⟨f17 d2, u_flt g4 (show ¬ q16.2.i 15 = 0 from d3)⟩
  -- the tables from s to q12
  have tb1 : TBK s q12.2 := ((((TBK.of a2 (by rw [a6]; exact Int.le_refl _) (fun j _ => by rw [a7])).tr (TBK.of o4 (by rw [o8]; exact Int.le_refl _) (fun j _ => by rw [o9]))).tr TH.tbk).tr w4).tr ((TBK.of b4 (by rw [b8]; exact Int.le_refl _) (fun j _ => by rw [b9'])).tr n2)
  have fr1 : FRB t s q12.2 := (((((FRB.of a2).tr (FRB.of o4)).tr TH.frb).tr (w3.mo (by omega))).tr (FRB.of b4)).tr (FRB.of nq.1)
  have ck1 : CKX S p17.2 := ((((CKX.of a3 a8 a9).tr (CKX.of o5 o10 o11)).tr w5).tr (CKX.of b5 b10 b11)).tr (CKX.of d5 d10 d11)
  have t10 : tpI q10.2 = t := qj_63 b4 tu'
  have t12 : tpI q12.2 = t := qj_63 nq.1 t10
  have t14 : tpI q14.2 = t := by
    show (q14.2.i 63).toInt = (t : Int)
    rw [hcb.1 63 (by decide) (by decide)]
    exact t12
  have t16 : tpI q16.2 = t := qj_63 d4 t14
  have x11 : (q14.2.i 11).toInt = (q10.2.i 11).toInt := by rw [hcb.1 11 (by decide) (by decide), nq.2.2.1]
  have x17 : (q14.2.i 17).toInt = (q10.2.i 17).toInt := by rw [hcb.1 17 (by decide) (by decide), nq.2.2.2.2.2.2.2.1]
  have x19 : (q14.2.i 19).toInt = (q10.2.i 19).toInt := by rw [hcb.1 19 (by decide) (by decide), nq.2.2.2.2.2.2.2.2.1]
  have x20 : (q14.2.i 20).toInt = (q10.2.i 20).toInt + 1 := by rw [hcb.1 20 (by decide) (by decide), n6]
  have y17 : (q16.2.i 17).toInt = (q14.2.i 17).toInt + 1 := by rw [d6]; exact t17_up (N := N) c1
  have py : phI q16.2 = phI u + 5 := by
    unfold phI at p10 ⊢
    rw [d8, y17, x17, x20]
    omega
  have s20 : (s.i 20).toInt ≤ (u.i 20).toInt := by
    have q := w4.2.1
    have q' : (q5.2.i 20).toInt ≤ (u.i 20).toInt := q
    rw [o8, a6] at q'
    exact q'
  -- the class: two targets more
  have k11 := hv.1.2.2.2.1.1
  have k17 := d3.1.2.2.2.1.1
  have r9 : (p17.2.i 21).toInt + 2 * (q5.2.i 11).toInt ≤ (S.i 21).toInt + 2 * (u.i 11).toInt := by
    have q := w5.r21
    rw [o3.1.2.2.2.1.1, w1.1.2.2.2.1.1] at q
    rw [pj_21 d5, pj_21 b5, ← pj_21 a3, ← pj_21 o5]
    exact q
  have r7 := hv.t21.2
  obtain ⟨v1, -, v3⟩ := d3.nt (by omega) e21
  obtain ⟨v4, -, v6⟩ := v1.nt (by omega) e25
  have k29 := kd_X0_add N p25.2 30 p21.1 p29 e29
  have q29 := pj2_eq k29
  have v7 := v4.kd k29
  have n54a : p21.2.i 54 = p17.2.i 54 := by
    have z := e21
    unfold f_X0_newTarget at z
    cases z
    rfl
  have n54b : p25.2.i 54 = p21.2.i 54 := by
    have z := e25
    unfold f_X0_newTarget at z
    cases z
    rfl
  obtain ⟨-, -, i44a, i22a, i18a, -⟩ := nt_i e21
  obtain ⟨-, -, i44b, i22b, i18b, -⟩ := nt_i e25
  have e2922 : p29.2.i 22 = p25.2.i 22 := q29.2.2.2.2.1
  have e1722 : p25.2.i 22 = S.i 22 := by rw [i22b, i22a]; exact ck1.1.1
  have r5 := hv.2.2.2.2.2.2.2.2.2.2.1
  have r4 := hv.2.2.2.2.2.2.2.2.2.1
  obtain ⟨s0, hs0⟩ : ∃ z, z = RS.setA q16.2 65 t 2 := ⟨_, rfl⟩
  rw [← hs0] at g4
  have zi : s0.i = q16.2.i := by rw [hs0]; rfl
  have za : ∀ k : Nat, k ≠ 65 → s0.a k = q16.2.a k := by
    rw [hs0]
    exact fun k h => setA_nk h
  have zb : s0.b = q16.2.b := by rw [hs0]; rfl
  have z65 : s0.a 65 t = 2 := by
    rw [hs0]
    exact setA_at
  have zj : ∀ j : Nat, ¬ j = t → s0.a 65 j = q16.2.a 65 j := by
    rw [hs0]
    exact fun j h => setA_ne h
  have tb0 : TBZ q16.2 s0 := by
    rw [hs0]
    exact setA_tb0 (Or.inr (by omega))
  have qe0 : qe s0 = qe q16.2 := by
    rw [hs0]
    rfl
  have venv : ENV d p29.2 s0 := by
    rw [hs0]
    exact setA_env (Or.inr (by omega)) v7
  clear hs0
  have fd : FRB (t + 1) q14.2 q16.2 := FRB.of d4
  have fdt := fd t (by omega)
  have g66 : s0.a 66 t = q12.1 := by rw [za 66 (by decide), fdt.2.2.1]; exact hcb.2.2.2.2.2.2.1.1
  have g67 : s0.a 67 t = -1 := by rw [za 67 (by decide), fdt.2.2.2.1]; exact hcb.2.2.2.2.2.2.1.2.1
  have g68 : s0.a 68 t = 0 := by rw [za 68 (by decide), fdt.2.2.2.2.1]; exact hcb.2.2.2.2.2.2.1.2.2
  have g64 : s0.a 64 t = 19 := by
    rw [za 64 (by decide), fdt.1, hcb.2.1 64 (by omega), ((FRB.of nq.1 : FRB (t + 1) q10.2 q12.2) t (by omega)).1, ((FRB.of b4 : FRB (t + 1) u q10.2) t (by omega)).1]
    exact u64
  have g22 : (s0.a 22 (s0.a 66 t).toNatClampNeg).toInt < 0 := by
    rw [g66, n5, za 22 (by decide), d9, hcb.2.1 22 (by omega), n22]
    decide
  have z20 : (s0.i 20).toInt = (q10.2.i 20).toInt + 1 := by rw [zi, d8, x20]
  have z11 : (s0.i 11).toInt = (q16.2.i 11).toInt := by rw [zi]
  have pz : phI s0 = phI u + 5 := by
    have : phI s0 = phI q16.2 := by
      unfold phI
      rw [zi]
    rw [this, py]
  have em : (-1 : Int32).toInt = -1 := by decide
  have i10 : (q10.2.i 20).toInt = (u.i 20).toInt := by rw [b8]
  have g66' : (s0.a 66 t).toInt = (u.i 20).toInt := by rw [g66, n5, i10]
  have z19 : (s0.i 19).toInt = (s.i 19).toInt + 1 := by
    rw [zi, d12, x19, b12, u19]
    omega
  have i29 : (p29.2.i 21).toInt = (p17.2.i 21).toInt + 2 := by
    rw [pj_21 q29.1, v6, v3]
    omega
  have ck29 : CKX S p29.2 := by
    refine ck1.trx (CKY.nt e21 (CKY.nt e25 (CKX.of q29.1 e2922 q29.2.2.2.2.2.2.2.2.2.2.2).y)) ?_
    rw [venv.1.2.2.2.1.1, k11]
    omega
  have tbx : TBZ q14.2 s0 := (TBZ.of d4).tr tb0
  have e43 : s0.i 43 = q14.2.i 43 := tbx.1.2.2.2.2.1
  have e52 : s0.i 2 = q14.2.i 2 := tbx.1.2.2.2.2.2.1
  have hG : GA0 p29.2 s0 := by
    obtain ⟨⟨x1, x2, x3, -⟩, -⟩ := n1.wp
    obtain ⟨f1, f2, f3, f4, f5⟩ := hcb.2.2.2.2.2.2.2.2
    have g43 : (s0.i 43).toInt = (q12.2.i 43).toInt + 1 := by rw [e43, f3]; exact ad1 f1 (by omega)
    have cl := clampI f1
    have sm := ck29.sum hv.ri
    have z56 : s0.i 56 = q12.2.i 56 := by rw [tbx.1.2.2.2.2.2.2.1]; exact hcb.1 56 (by decide) (by decide)
    refine ⟨venv.ri, ?_, ?_, ⟨by omega, ?_⟩, fun y => ?_, by omega, ?_⟩
    · rw [sm.1, z19]
      have := hv.ri.2.2.2.2.2.2
      unfold sgI at this
      rw [hv.2.2.1.1] at this
      omega
    · rw [sm.2]
      have a := hv.ri.2.2.2.2.2.1
      have b := (eI.ge S).2
      unfold plI at b
      rw [k11] at b
      omega
    · have ei : ((s0.i 43).toInt - 1).toNat = (q12.2.i 43).toNatClampNeg := by omega
      have xi : ((q12.2.i 43).toNatClampNeg : Int) < (q14.2.i 43).toInt := by rw [← e43]; omega
      rw [ei, (tbx.2.2.1 _ xi).1]
      exact f5
    · rw [z56] at y ⊢
      have i56 : ((((q12.2.i 56).toInt - 1).toNat : Nat) : Int) < (q14.2.i 56).toInt := by rw [hcb.1 56 (by decide) (by decide)]; omega
      rw [(tbx.2.2.2.1 _ i56).2, hcb.2.1 58 (by omega)]
      have := x3 y
      omega
    · have ei : ((s0.i 43).toInt - 1).toNat = (q12.2.i 43).toNatClampNeg := by omega
      have xi : ((q12.2.i 43).toNatClampNeg : Int) < (q14.2.i 43).toInt := by rw [← e43]; omega
      obtain ⟨w1, w2⟩ := gl_47 h14
      have w1' : q14.2.a 47 (q12.2.i 43).toNatClampNeg = q12.2.i 52 + 1 := w1
      have w2' : q14.2.i 52 = q12.2.i 52 + 1 := w2
      have w3 : s0.i 52 = q14.2.i 52 := (qe_eq (qe0.trans (kre_f_X12_open N q14.2 123 q16 h16))).1.2.2.2.2.2
      rw [ei, (tbx.2.2.1 _ xi).2.2.2.1, w3, w1', w2']
  have hA : AMI d t (p25.2.i 22) (-1) (s.i 20).toInt [] p29.2 s0 p29.2 s0 := by
    refine ⟨venv, ?_, g64, CKN.rf _, ⟨TBZ.rf _, Int.le_refl _, fun _ _ => rfl⟩, FRB.rf _ _, ⟨⟨?_, ?_, fun v => ⟨?_, ?_⟩⟩, g22, ⟨fun _ => ?_, fun L0 j q => ?_⟩, fun j hj => absurd hj List.not_mem_nil⟩, ⟨hv.2.2.2.2.2.2.1, ?_, ?_, ?_⟩, ⟨Or.inl g68, ?_⟩, e2922.symm, rfl, Int.le_refl _, Int.le_refl _, Int.le_refl _, ?_, ?_⟩
    · show (s0.i 63).toInt = (t : Int)
      rw [zi]
      exact t16
    · rw [e1722]
      exact r4
    · rw [e2922]
      exact Int.le_refl _
    · intro ⟨i, i1, i2, _⟩
      rw [e2922] at i2
      omega
    · intro ⟨j, hj, _⟩
      exact absurd hj List.not_mem_nil
    · rw [g67, em]
      omega
    · exact absurd q.symm (by simp)
    · omega
    · omega
    · omega
    · rw [g68, em]
      exact ⟨fun z => absurd z (by decide), fun z => absurd z (by omega)⟩
    · omega
    · have r54 := w5.2.2.2.2.2.2.2.2.2.1
      rw [o3.1.2.2.2.1.1, w1.1.2.2.2.1.1] at r54
      have s54 := hv.sj.2.1
      rw [pj_54 q29.1, n54b, n54a, pj_54 d5, pj_54 b5]
      rw [pj_54 o5, pj_54 a3] at r54
      omega
  have k8 : KD8 (p25.2.i 22) p29.2 s0 := by
    have kl := KD.le p29.2 (p25.2.i 22).toInt (p29.2.i 22).toInt
    have e9 : (p29.2.i 22).toInt = (S.i 22).toInt := by rw [e2922, e1722]
    unfold KD8
    omega
  have hi := i11_hi venv
  have hq0 : (s0.a 66 t).toInt = ((pcR u : Nat) : Int) := by
    rw [g66']
    exact (Int.toNat_of_nonneg w1.p20.1).symm
  have hW0 : AMW 0 (fun _ _ => False) p25.1 (pcR u) t U p29.2 s0 (p25.2.i 22) (-1) [] p29.2 s0 := by
    refine ⟨⟨hq0, ?_⟩, ⟨Int.le_refl _, by rw [e2922]; exact Int.le_refl _⟩, fun _ k hk => absurd hk List.not_mem_nil, fun cr => ⟨(CD1.rf p29.2).wk (by rw [e2922]; omega) (Int.le_refl _), CT7.rf _ _ _, CD2.rf _ _, GPS.tt, SAT.tt _ _ _ _ (SLC.eq rfl (Int.le_refl _)), ?_⟩⟩
    · rw [← hq0, g66', z20, i10]
      omega
    · intro FC SF nm X c h w W we _ _ _ _ _ _ _ _ _ _
      exact ⟨fun k hk => absurd hk List.not_mem_nil, fun k hk => absurd hk List.not_mem_nil⟩
  rcases y_cloop hN hm1 hm2 hE hB hG N m3 [] p29.2 s0 (-1) 0 R hA hW0 k8 z65 (by decide) (by rw [z_t0]; exact hi.1) e g4 with z | ⟨m4, y, g5, ⟨h1, h2, h3', ⟨h41, h42⟩, h5, h6, h7, h8, h9, h10'⟩, chc⟩
  · exact Or.inl z
  refine Or.inr ⟨m4, y, g5, ⟨h1, h2, ?_, ?_, ?_, by omega, by omega, ?_, ?_⟩, fun cr => ?_⟩
  · have f0 : FRB t q16.2 s0 := fun j hj => ⟨by rw [za 64 (by decide)], zj j (by omega), by rw [za 66 (by decide)], by rw [za 67 (by decide)], by rw [za 68 (by decide)], by rw [za 69 (by decide)], by rw [za 70 (by decide)], by rw [za 71 (by decide)], by rw [za 72 (by decide)], by rw [za 73 (by decide)], by rw [zb]⟩
    exact (((fr1.tr (FRB.chb hcb)).tr (fd.mo (by omega))).tr f0).tr h3'
  · have hx := tbx.tr h5.1
    rw [e43] at hx
    have hx : TBZ q14.2 (RS.setI (RS.setI y 43 (q14.2.i 43)) 52 (q14.2.i 52)) := hx
    rw [e43] at h41
    rw [e52] at h42
    have cd : CDK (s.i 20).toInt q12.2 s0 := ⟨by rw [zi, d8, hcb.1 20 (by decide) (by decide)]; exact Int.le_refl _, fun j _ => by rw [za 22 (by decide), d9, hcb.2.1 22 (by omega)]⟩
    exact ⟨tb1.1.tr (TBZ.chb hcb h41 h42 hx), (tb1.2.tr cd).tr (show CDK (s.i 20).toInt s0 y from h5.2)⟩
  · exact ck29.tr h6
  · have : (q16.2.i 17).toInt = (s0.i 17).toInt := by rw [zi]
    omega
  · exact o19 (by rw [h10', z19]; omega)
  · obtain ⟨k1, k2, k3, k4, k5, k6, k7⟩ := adv_cd hN hv (by rw [csw]; decide) e1 hq3
    have crp1 : CRB p1.2 := cr.of k1 (by omega) (by omega)
    obtain ⟨l1, l2, l3, l4', l5, l6⟩ := tok_cd a1 o3 o5 (ke_X1_open N p1.2 40 p5 e5) (kre_f_X12_open N q3 40 q5 hq5) o7
    have crp5 : CRB p5.2 := crp1.of l1 (by omega) (by omega)
    obtain ⟨f1, f2, f3, Ψ1, sat1, f4⟩ := xc crp5
    have crp9 : CRB p9.2 := crp5.of f1 (by omega) (by omega)
    obtain ⟨i1, i2, i3, i4, i5, i6⟩ := tok_cd w1 b3 b5 (ke_X1_close N p9.2 41 p13 e13) (kre_f_X12_shut N u 41 q10 h10) b7
    obtain ⟨j1, j2, j3, j4, j5, j6⟩ := tok_cd c1 d3 d5 (ke_X1_open N p13.2 123 p17 e17) (kre_f_X12_open N q14.2 123 q16 h16) d7
    have c9 : CD1 (-2) (-3) S p9.2 := ((k1.tr l1).tr f1).wk (by omega) (by omega)
    have c917 : CD1 (-2) (-2) p9.2 p17.2 := (i1.tr j1).wk (by omega) (by omega)
    have c17 : CD1 (-4) (-5) S p17.2 := (c9.tr c917).wk (by omega) (by omega)
    have cr17 : CRB p17.2 := cr.of c17 (by omega) (by omega)
    have q44 := d3.p44
    have q44' : (p17.2.i 44).toInt = (q16.2.i 11).toInt := by rw [q44.1]
    have S44 := hv.p44
    have S44' : (S.i 44).toInt = (s.i 11).toInt := by rw [S44.1]
    have c171 := c17.1
    obtain ⟨m1, m2, m3', m4', m5, m6, m7, m8⟩ := cd_nt e21 cr17.2.1 (by have := cr17.2.2; omega)
    obtain ⟨r1, r2, r3, r4', r5, r6, r7, r8⟩ := cd_nt e25 (by have := cr17.2.1; omega) (by have := cr17.2.2; omega)
    obtain ⟨t1, t2, ⟨t3, t3'⟩, t4, t5, t6⟩ := cd_add e29 (by rw [r7, m7]; exact cr17.1.1) (by rw [r7, m7]; have := cr17.1.2; omega)
    have c1729 : CD1 1 2 p17.2 p29.2 := ((m1.tr r1).tr t1).wk (by omega) (by omega)
    have c29 : CD1 (-3) (-3) S p29.2 := (c17.tr c1729).wk (by omega) (by omega)
    have cr29 : CRB p29.2 := cr.of c29 (by omega) (by omega)
    have x1e : p21.1.toInt = (p17.2.i 21).toInt := by rw [m2]
    have x2e : p25.1.toInt = (p17.2.i 21).toInt + 1 := by rw [r2, m3']
    have i2921 : (p29.2.i 21).toInt = (p17.2.i 21).toInt + 2 := by rw [t5, r3, m3']; omega
    have z17 := cr17.2.1
    obtain ⟨y1, y2, ⟨y3, y4⟩, y5, ⟨y6, y7⟩, Ψ2, sat2, y8⟩ := chc cr29 ⟨by omega, by omega⟩ ⟨by omega, by omega⟩ (by omega)
    -- the reference
    have p20 := b3.p20
    obtain ⟨v1', v2', v3', v4', v5', v6'⟩ := cd_emit h12 p20.1 (by omega)
    have sT : CD2 (s.i 20).toInt s (TH q5.2 t 1 16) := ((k3 _).tr (l3 _)).tr (CD2.qe rfl)
    have su : CD2 (s.i 20).toInt s u := sT.tr (f3.wk (by show _ ≤ (q5.2.i 20).toInt; rw [l6, k6]; exact Int.le_refl _))
    have su20 := su.1.1
    have u12 : CD2 (u.i 20).toInt u q12.2 := (i3 _).tr (v1'.wk (by rw [i6]; exact Int.le_refl _))
    have s12 : CD2 (s.i 20).toInt s q12.2 := su.tr (u12.wk su20)
    have n0 : ∀ c : Int, CD2 c q12.2 (RS.setI s0 52 (q12.2.i 52)) := fun c => ((hcb.cd c).nn (j3 c).to).nn (CD2.qe qe0 : CD2 c q16.2 s0).to
    have u0 : ∀ c : Int, c ≤ (u.i 20).toInt → CD2 c u (RS.setI s0 52 (u.i 52)) := fun c hc => (u12.wk hc).to.nn (n0 c)
    have s0n : CD2 (s.i 20).toInt s (RS.setI s0 52 (s.i 52)) := s12.to.nn (n0 _)
    have i52 : s0.i 52 = s.i 52 + 1 := by
      rw [(qe_eq qe0).1.2.2.2.2.2, (j3 0).1.2.2.2.2.2, hcb.2.2.2.2.2.2.2.2.2.2.2.1, s12.1.2.2.2.2.2]
    have y52 : y.i 52 = s.i 52 := by rw [y7, i52, Int32.add_sub_cancel]
    have pu : ((pcR u : Nat) : Int) = (u.i 20).toInt := Int.toNat_of_nonneg w1.p20.1
    have uyn : CD2 (s.i 20).toInt u (RS.setI y 52 (u.i 52)) := (u0 _ su20).nn (y5.wk (by omega))
    have syn : CD2 (s.i 20).toInt s (RS.setI y 52 (s.i 52)) := su.to.nn uyn
    have e029 : CD1 1 0 p29.2 R.2 := y1
    have c9R : CD1 0 0 p9.2 R.2 := ((c917.tr c1729).tr y1).wk (by omega) (by omega)
    have tSp : CT7 0 (S.i 21).toInt S p5.2 := (k2 _ _).tr (l2 _ _)
    have t9R : CT7 0 (p9.2.i 21).toInt p9.2 R.2 := fun k kk1 kk2 => by
      have q1 : (k : Int) < (p17.2.i 21).toInt := by rw [j5, i5]; exact kk2
      rw [y2 k (by omega) (by omega) (by omega), t4, r4' 0 k kk1 (by omega), m4' 0 k kk1 q1, (j2 0 (p17.2.i 21).toInt k kk1 q1 : p17.2.a 17 k = p13.2.a 17 k), (i2 0 (p17.2.i 21).toInt k kk1 q1 : p13.2.a 17 k = p9.2.a 17 k)]
    have tS : CT7 0 (S.i 21).toInt S R.2 := (tSp.tr (f2.wk (Int.le_refl _) (by rw [l5, k5]; exact Int.le_refl _))).tr (t9R.wk (Int.le_refl _) c9.2.2.1)
    have kT : TBK s (TH q5.2 t 1 16) := ((TBK.of a2 (by rw [a6]; exact Int.le_refl _) (fun j _ => by rw [a7])).tr (TBK.of o4 (by rw [o8]; exact Int.le_refl _) (fun j _ => by rw [o9]))).tr TH.tbk
    have lR : CD1 0 (-1) S R.2 := (c29.tr y1).wk (by omega) (by omega)
    refine ⟨lR, tS, syn.n0 y52, _, (sat1.wd (MNO.of (k1.tr l1) sT) (⟨(c917.tr c1729).2.2.2.2.2.1.1, (u0 0 w1.p20.1).1.2.2.2.2.1, (u0 0 w1.p20.1).1.2.2.1⟩ : MNO p9.2 u p29.2 s0)).an sat2 (⟨c29.2.2.2.2.2.1.1, s0n.1.2.2.2.2.1, s0n.1.2.2.1⟩ : MNO S s p29.2 s0) (⟨y1.2.2.2.2.2.1.1, y5.1.2.2.2.2.1, y5.1.2.2.1⟩ : MNO p29.2 s0 R.2 y), ?_⟩
    intro FC SF nm X c h w0 W g0 ps fc fr ng hc hh ty hW hg zz
    have pS : ((pcC S : Nat) : Int) = (S.i 20).toInt := Int.toNat_of_nonneg cr.1.1
    have p9i : ((pcC p9.2 : Nat) : Int) = (p9.2.i 20).toInt := Int.toNat_of_nonneg crp9.1.1
    have p5i : pcC p5.2 = pcC S := by unfold pcC; rw [l4', k4]
    have p17i : pcC p25.2 = pcC p9.2 := by unfold pcC; rw [r7, m7, j4, i4]
    have p29i : pcC p29.2 = pcC p9.2 + 1 := by
      rw [← p17i]
      unfold pcC
      rw [t2, r7, m7]
      have := cr17.1.1
      omega
    have lR20 := y1.1.1
    have p29' : ((pcC p29.2 : Nat) : Int) = (p29.2.i 20).toInt := Int.toNat_of_nonneg cr29.1.1
    have pRi : ((pcC R.2 : Nat) : Int) = (R.2.i 20).toInt := Int.toNat_of_nonneg (by have := cr29.1.1; omega)
    have l9 := c9.1.1
    have f15 := fc.2.1 (pcC p9.2) (by omega) (by omega)
    have g15 := y1.2.1 (pcC p9.2) (by omega)
    rw [p17i] at t3 t3'
    have fx : ∀ x : Int32, (p17.2.i 21).toInt ≤ x.toInt → x.toInt < (p29.2.i 21).toInt → 0 ≤ (cTg R.2 x).toInt → cTg SF x = cTg R.2 x := fun x x0 x1 x2 => by
      have h4 : (p29.2.i 44).toInt = (s0.i 11).toInt := by rw [venv.p44.1]
      have h4' := venv.p44
      have h4'' := cr29.2.2
      have i9 : ib x 1024 := ⟨by omega, by omega⟩
      have ck := clampI (k := x) (by omega)
      unfold cTg gAt at x2 ⊢
      rw [if_pos i9] at x2
      have := c17.2.2.1
      rw [fc.2.2 x.toNatClampNeg (by omega) (by have := y1.2.2.1; omega) (Or.inl x2)]
    have frU := fr.1
    have op : U.a 21 (pcR u) = 29 := by
      have z0 : (s0.i 20).toInt = (u.i 20).toInt + 1 := by rw [z20, i6]
      have kk := krc_f_X12_parse_10 N m3 s0 U g4 (by have := w1.p20.1; omega) (by have := w1.p20; omega)
      rw [kk.2 (pcR u) (by have := w1.p20; omega) (by omega)]
      have e1' := (n0 (q12.2.i 20).toInt).2.1 (pcR u) (by rw [v3', i6]; omega)
      have e2' : s0.a 21 (pcR u) = q12.2.a 21 (pcR u) := e1'.1
      rw [e2']
      have pq10 : pcR q10.2 = pcR u := by unfold pcR; rw [i6]
      rw [← pq10]
      exact v4'
    have zz1 : (s0.i 20).toInt ≤ (y.i 20).toInt := y5.1.1
    have zz0 : (s0.i 20).toInt = (u.i 20).toInt + 1 := by rw [z20, i6]
    have qy := fr.2.1 (pcR u) (by omega) (by omega)
    have n50 := hv.2.1.1
    have i38 : s0.i 38 = s.i 38 := by
      have z1 : q14.2.i 38 = q12.2.i 38 := hcb.1 38 (by decide) (by decide)
      have z2 : s0.i 38 = q14.2.i 38 := tbx.1.2.2.2.1
      rw [z2, z1]
      exact tb1.1.1.2.2.2.1
    have ng0 : NMG nm ((5, h, pcR u, 0, 0, 0, 0) :: c) p29.2 s0 := by
      refine ⟨fun k hk => ?_, ?_, ?_, ?_, ?_⟩
      · rw [i38] at hk
        obtain ⟨e48, e49⟩ := c29.2.2.2.2.1 k (by rw [n50]; exact hk)
        have e40 : s0.a 40 k = s.a 40 k := by
          have z1 : q14.2.a 40 = q12.2.a 40 := hcb.2.1 40 (by omega)
          rw [(tbx.2.1 k (by rw [hcb.1 38 (by decide) (by decide), tb1.1.1.2.2.2.1]; exact hk)).2.1, z1, (tb1.1.2.1 k hk).2.1]
        rw [e48, e49, e40]
        obtain ⟨n1', n2'⟩ := ng.1 k hk
        exact ⟨n1', fun z => by
          obtain ⟨l1, e, l0, he, z⟩ := n2' z
          exact ⟨_ :: l1, e, l0, by rw [he]; rfl, z⟩⟩
      · show ((frs c + 0 : Nat) : Int) = (p29.2.i 38).toInt
        rw [c29.2.2.2.2.2.2.1]
        exact ng.2.1
      · have z9 := ng.2.2.1
        show ((c.length + 1 : Nat) : Int) = (s0.i 52).toInt
        have z8 := msr_len c
        rw [i52, ad1 (by omega) (by omega)]
        omega
      · have z9 := ng.2.2.2.1
        show ((frs c + 0 : Nat) : Int) ≤ (s0.i 19).toInt
        rw [z19]
        omega
      · have z9 : NCB c p29.2 s0 := ng.2.2.2.2.mv c29.2.2.2.2.2.1.1 s0n.1.2.2.2.2.1
        refine ⟨z9.1, fun e he => ?_⟩
        rcases List.mem_cons.mp he with rfl | he
        · exact ⟨fun k y => by rcases y with ⟨y, -⟩ | ⟨y, -⟩ <;> exact absurd (show (5 : Nat) = _ from y) (by decide), fun l y => absurd (show (5 : Nat) = 2 from y.1) (by decide)⟩
        · exact z9.2 e he
    have z1 := y8 FC SF nm X c h w0 W 0 (pcC p9.2) ps.2 (fc.sub c29 (CD1.rf R.2) (CT7.rf _ _ R.2)) (fx p21.1 (by omega) (by omega) y3) (fx p25.1 (by omega) (by omega) (by rw [y4]; have := cr29.1.1; omega)) (show FGR s0 y U from (show FGR (RS.setI s0 52 (s.i 52)) y U from fr.sub s0n (CD2.rf 0 y) (fun _ _ _ => ⟨rfl, rfl, rfl⟩))) ⟨op, qy.2⟩ ng0 hc (by omega) ty hW p29i (by rw [f15.1, g15.1]; exact t3) (by rw [f15.2, g15.2]; exact t3') zz
    have z2 := f4 FC SF nm X c h (w0 + (pcC R.2 - pcC p9.2)) W g0 ps.1 (fc.sub (k1.tr l1) c9R (t9R.wk (by rw [l5, k5]; exact cr.2.1) (Int.le_refl _))) (fr.sub sT (uyn.n0 (y52.trans su.1.2.2.2.2.2.symm)) (fun j jj1 jj2 => ((u0 _ (Int.le_refl _)).nn (y5.wk (by omega))).2.1 j jj2)) (ng.mv n50 (k1.tr l1) sT kT.1.1.2.2.2.1 (fun j hj => (kT.1.2.1 j hj).2.1) (show (s.i 19).toInt ≤ (q5.2.i 19).toInt by rw [o12, a10]; omega)) hc (show ((2 * h + 0 + msr c : Nat) : Int) ≤ (q5.2.i 11).toInt by omega) ty (by omega) True.intro z1
    rw [p5i, show pcR (TH q5.2 t 1 16) = pcR s by unfold pcR; rw [show (TH q5.2 t 1 16).i 20 = q5.2.i 20 from rfl, l6, k6]] at z2
    rw [show w0 + (pcC R.2 - pcC S) = w0 + (pcC R.2 - pcC p9.2) + (pcC p9.2 - pcC S) by omega]
    exact z2
