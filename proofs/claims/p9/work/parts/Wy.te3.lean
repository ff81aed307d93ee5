/-! both readers: int NAME = EXPR; whole -/
/-- the class's name and what is told with it -/
theorem y_tell {N : Nat} {d : Int32} {S : CS} {s : RS} {l : Int64} {w : Int32 × CS} {v : Int32 × RS} (h : ENV (d + 1) S s) (hb : 8 * ((s.i 38).toInt - 1) ≤ (s.i 11).toInt + 1) (hn : ∀ k : Nat, (k : Int) < (s.i 38).toInt → ¬ s.b 39 k = l) (e : f_X7_tell N S l = some w) (g : f_X12_see N s l 0 = some v) : ENV d w.2 v.2 ∧ CKX S (CS.setI w.2 50 (S.i 50)) ∧ w.2.i 50 = S.i 50 + 1 ∧ w.2.i 43 = S.i 43 ∧ w.2.i 21 = S.i 21 ∧ w.2.i 36 = S.i 36 := by
  unfold f_X7_tell at e
  obtain ⟨a, ea, e⟩ := hf_bind e
  obtain ⟨b, eb, e⟩ := hf_bind e
  cases e
  have ka := kd_X0_newCells N S 1 a ea
  have kp := pj2_eq ka
  have va := h.kd ka
  have em : ¬ (0 ≤ (-1 : Int32).toInt) := by decide
  have bz : vp_nar .boolean (0 : Int32) = 0 := by decide
  have nm := ENV.nm va hb hn ⟨fun q => absurd q em, fun q => absurd bz q⟩ eb g
  have hh := nms_hi va
  have n1 := va.2.1.1
  unfold f_X4_add at eb
  have e128 : (128 : Int32).toInt = 128 := by decide
  rw [if_neg (show ¬ 128 ≤ a.2.i 50 from fun q => by have := le_int q; rw [n1] at this; omega)] at eb
  obtain ⟨i2, eb⟩ := hf_ite eb
  cases eb
  have i50 : a.2.i 50 = S.i 50 := (pj_eq kp.1).2.2.2.2.2.2.2.2.2.2.2.2.2.1
  have ck : CKX S a.2 := CKX.of kp.1 kp.2.2.2.2.1 kp.2.2.2.2.2.2.2.2.2.2.2
  refine ⟨nm.told, ?_, ?_, (show a.2.i 43 = S.i 43 from kp.2.2.2.2.2.2.2.1), (show a.2.i 21 = S.i 21 from pj_21 kp.1), (show a.2.i 36 = S.i 36 from ck.1.2.1)⟩
  · obtain ⟨⟨a1, a2, a3, a4, a5, a6⟩, b1, b2, b3, b4, b5, b6, b7, b8⟩ := ck
    exact ⟨⟨a1, a2, a3, ci_at _ _ _, a5, a6⟩, b1, b2, b3, b4, b5, b6, b7, b8⟩
  · show a.2.i 50 + 1 = S.i 50 + 1
    rw [i50]
def SXD (N : Nat) (K : Int32) (P : CS → RS → Prop) (Q : RS → RS → Prop) (F : CS → Option (Unit × CS)) : Prop := ∀ (d : Int32) (S : CS) (s U : RS) (n t : Nat) (R : Unit × CS), ENV d S s → P S s → S.i 36 = 1 → tpI s = t → s.a 64 t = K → s.a 65 t = 0 → 2 ≤ phI s → F S = some R → f_X12_parse_10 N n s = some U → (¬ R.2.i 32 = 0 ∧ ¬ U.i 15 = 0) ∨ ∃ (m : Nat) (u : RS), f_X12_parse_10 N m u = some U ∧ DON d t S s R.2 u ∧ Q s u
theorem SXK.d {N : Nat} {K tok : Int32} {P : CS → RS → Prop} {F : CS → Option (Unit × CS)} (h : SXK N K tok P F) : SXD N K (fun S s => P S s ∧ S.i 43 = tok) (fun s u => u.i 38 = s.i 38) F := by
  intro d S s U n t R hv hP h36 ht hk hs h2 e g
  rcases h d S s U n t R hv hP.1 h36 ht hk hs h2 hP.2 e g with z | ⟨m, u, g2, xo, x75⟩
  · exact Or.inl z
  · obtain ⟨dn, u38⟩ := xo.don x75
    exact Or.inr ⟨m, u, g2, dn, u38⟩
set_option maxHeartbeats 4000000 in
theorem sx_tell {N : Nat} (hN : 1000 ≤ N) {E1 : CS → Option (Unit × CS)} {E2 : CS → Option (Int32 × CS)} (hm1 : ∀ σ, Kf (CS.i σ 32) (E1 σ)) (hm2 : ∀ σ, Kf (CS.i σ 32) (E2 σ)) (hE : SXR N 18 E1) : SXD N 4 (fun S s => (S.i 43 = 200 ∨ S.i 43 = 201) ∧ 8 * ((s.i 38).toInt - 2) ≤ (s.i 11).toInt) (fun _ _ => True) (fun S => (f_X9_advance N S).bind fun p7 => (f_X7_newName N p7.2).bind fun p11 => (f_X7_define N E1 E2 p11.2 p11.1).bind fun p15 => (f_X1_expect N p15.2 59).bind fun p19 => some ((), p19.2)) := by
  intro d S s U n t R hv hP h36 ht hk hs h2 e g
  obtain ⟨h43, h8⟩ := hP
  obtain ⟨m, V, hV, g2⟩ := rl_4 g ht hv.1.2.1 hk
  unfold f_X12_tell at hV
  obtain ⟨hib, hV⟩ := hf_ite hV
  have t9 : t < 1000 := by
    have h2 : (s.i 63).toInt = (t : Int) := ht
    have := hib.2
    omega
  rw [tp_nat ht, if_pos hs] at hV
  obtain ⟨q, hq, hV⟩ := hf_bind hV
  obtain ⟨p7, e7, e⟩ := hf_bind e
  obtain ⟨p11, e11, e⟩ := hf_bind e
  obtain ⟨p15, e15, e⟩ := hf_bind e
  obtain ⟨p19, e19, e⟩ := hf_bind e
  cases e
  have nz : ¬ S.i 43 = 0 := fun z => by
    rcases h43 with y | y <;> rw [y] at z <;> exact absurd z (by decide)
  obtain ⟨a1, tq, fq, kq, cq, l11, pq, q17, q19⟩ := y_nx hN hv ht nz e7 hq
  obtain ⟨-, adv, -, b9⟩ := y_adv hN hv.1 e7 hq
  rw [if_pos a1.1.2.1] at hV
  obtain ⟨Q, hQ, hV⟩ := hf_bind hV
  have e63 : q.i 63 = s.i 63 := Int32.toInt_inj.mp (by
    have x : (q.i 63).toInt = (t : Int) := tq
    have y : (s.i 63).toInt = (t : Int) := ht
    omega)
  rw [← e63] at hQ
  unfold f_X7_define at e15
  obtain ⟨x1, ex1, e15⟩ := hf_bind e15
  obtain ⟨x5, ex5, e15⟩ := hf_bind e15
  obtain ⟨x9, ex9, e15⟩ := hf_bind e15
  obtain ⟨x13, ex13, e15⟩ := hf_bind e15
  cases e15
  have f5 : ¬ x5.2.i 32 = 0 → ¬ p19.2.i 32 = 0 := fun z => by
    have z1 : ¬ x9.2.i 32 = 0 := by rw [kF_X7_tell N x5.2 p11.1 x9 ex9 z]; exact z
    have z2 : ¬ x13.2.i 32 = 0 := by rw [fst_add ex13]; exact z1
    rw [kF_X1_expect N x13.2 59 p19 e19 z2]
    exact z2
  have f1 : ¬ x1.2.i 32 = 0 → ¬ p19.2.i 32 = 0 := fun z => f5 (by rw [kF_X1_expression N E1 E2 hm1 hm2 x1.2 x5 ex5 z]; exact z)
  rcases y_newName hN a1 tq e11 hQ with ⟨o1, o2, o3⟩ | ⟨o1, c2, l1, b74, fresh, v1, v2, v3, v4, v5, v6, v7, v8, v9, v10⟩
  · rw [if_pos o1] at hV
    cases hV
    refine Or.inl ⟨f1 ?_, u_flt g2 o3⟩
    rw [kF_X1_expect N p11.2 61 x1 ex1 o2]
    exact o2
  rw [if_neg (show ¬ Q.1 = 0 by rw [o1]; decide)] at hV
  obtain ⟨b, hb, hV⟩ := hf_bind hV
  rw [ob_id] at hV
  rcases y_need hN v1 (c := 61) (d := 61) (Or.inl ⟨by decide, by decide⟩) (by decide) (by decide) (by decide) ex1 hb with ⟨o1', o2, o3⟩ | ⟨o1', o2, o3, o4, o5, o6, o7, o8, o9, o10, o11, o12⟩
  · exact Or.inl ⟨f1 o2, u_flt g2 (krf_f_X12_then N b.2 1 16 V hV o3)⟩
  have tb := qj_63 o4 v2
  have b17 : (b.2.i 17).toInt = (Q.2.i 17).toInt + 1 := by rw [o6]; exact t17_up (N := N) v1
  have pb : phI b.2 = phI Q.2 + 3 := by
    unfold phI
    rw [o8, b17]
    omega
  have fb : FRB (t + 1) Q.2 b.2 := FRB.of o4
  have kb : TBK Q.2 b.2 := TBK.of o4 (by rw [o8]; exact Int.le_refl _) (fun j _ => by rw [o9])
  have b64 : b.2.a 64 t = 4 := by
    rw [(fb t (by omega)).1, v4 64 (by decide) (by decide), (fq (t + 1) t (by omega)).1]
    exact hk
  have bb74 : b.2.b 74 t = q.l := ((fb t (by omega)).2.2.2.2.2.2.2.2.2.2).trans b74
  rcases y_expr hN hm1 hm2 hE o3 tb (by omega) ex5 hV g2 with ⟨x1', x2'⟩ | ⟨m2, u, g3, ⟨w1, w2, ⟨r0, r1, -, -, -, -, -, -, -, -, r10⟩, w4, w5, w6, w7, w8, w9, w10⟩⟩
  · exact Or.inl ⟨f5 x1', x2'⟩
  obtain ⟨m3, V3, hV3, g4⟩ := rl_4 g3 w2 w1.1.2.1 (r0.trans b64)
  unfold f_X12_tell at hV3
  obtain ⟨-, hV3⟩ := hf_ite hV3
  rw [tp_nat w2, if_neg (show ¬ u.a 65 t = 0 by rw [r1]; decide), r10.trans bb74] at hV3
  obtain ⟨z, hz, hV3⟩ := hf_bind hV3
  obtain ⟨y, hy, hV3⟩ := hf_bind hV3
  obtain ⟨c, hc, hV3⟩ := hf_bind hV3
  rw [ob_id] at hV3
  -- places
  have tbu : TBK q u := (v5.tr kb).tr w5
  have u38 : u.i 38 = s.i 38 := tbu.1.1.2.2.2.1.trans kq.1.1.2.2.2.1
  have q38 : q.i 38 = s.i 38 := kq.1.1.2.2.2.1
  have p4 : (s.i 11).toInt + 4 ≤ (q.i 11).toInt := by
    have l3 := hv.lb.1.2.1 h43
    have al : ALW (S.i 43) := Or.inr (by rcases h43 with y | y <;> rw [y] <;> decide)
    have an : ALN (p7.2.i 43) := Or.inl (by rw [c2]; decide)
    have gp := adv.2.2.2.1 al an
    rw [hv.1.2.2.2.1.1, hv.1.2.2.2.1.2.1] at l3
    rw [hv.1.2.2.2.1.2.1, a1.1.2.2.2.1.1] at gp
    omega
  have u11 : (s.i 11).toInt + 7 ≤ (u.i 11).toInt := by omega
  have fr : ∀ k : Nat, (k : Int) < (u.i 38).toInt → ¬ u.b 39 k = q.l := fun k hk z => by
    rw [u38, ← q38] at hk
    rw [(tbu.1.2.1 k hk).1] at z
    exact fresh k hk z
  rw [l1] at ex9
  obtain ⟨t1, t2, t3, t4, t5, t6⟩ := y_tell w1 (by rw [u38]; omega) fr ex9 hz
  obtain ⟨s1, s2, s3, s4, s5, s6⟩ := see_tbr hz
  have tz : tpI z.2 = t := by
    show (z.2.i 63).toInt = (t : Int)
    rw [(y_see hz).2.2.1 63 (by decide) (by decide)]
    exact w2
  rcases y_tail hN t1 tz t9 (by omega) ex13 e19 hy hc hV3 with ⟨j1, j2⟩ | ⟨j1, j2, j3, j4, j5, j6, j7, j8, j9, j10⟩
  · exact Or.inl ⟨j1, u_flt g4 j2⟩
  have zi := (y_see hz).2.2.1
  have z11 : z.2.i 11 = u.i 11 := zi 11 (by decide) (by decide)
  have z17 : z.2.i 17 = u.i 17 := zi 17 (by decide) (by decide)
  have z19 : z.2.i 19 = u.i 19 := zi 19 (by decide) (by decide)
  have z20 : z.2.i 20 = u.i 20 := zi 20 (by decide) (by decide)
  -- the class, all of it
  have ck1 : CKX S x5.2 := (((cq.tr v6).tr (CKX.of o5 o10 o11)).tr w6)
  have ck2 : CKX S (CS.setI x9.2 50 (x5.2.i 50)) := ck1.tr t2
  have V38 : V3.i 38 = z.2.i 38 := j4.1.1.2.2.2.1
  have tbs : TBK s u := kq.tr tbu
  have tr1 : TBR s V3 := (tbs.1.r.tr s1 (by rw [u38]; exact Int.le_refl _) (by rw [tbs.1.1.2.2.2.2.1]; exact Int.le_refl _) (by rw [tbs.1.1.2.2.2.2.2.2.1]; exact Int.le_refl _)).tr j4.1.r (by rw [s6, u38]; omega) (by rw [s3.2.2.2.1, tbs.1.1.2.2.2.2.1]; exact Int.le_refl _) (by rw [s3.2.2.2.2.2.1, tbs.1.1.2.2.2.2.2.2.1]; exact Int.le_refl _)
  have l20 : (s.i 20).toInt ≤ (u.i 20).toInt := tbs.2.1
  obtain ⟨⟨a1', a2', a3', -, a5', a6'⟩, b1', b2', b3', b4', b5', b6', b7', b8'⟩ := ck2
  obtain ⟨⟨c1', c2', c3', c4', c5', c6'⟩, d1', d2', d3', d4', d5', d6', d7', d8'⟩ := j5
  have A1 : x9.2.i 22 = S.i 22 := a1'
  have A2 : x9.2.i 36 = S.i 36 := a2'
  have A3 : x9.2.i 38 = S.i 38 := a3'
  have A5 : x9.2.i 53 = S.i 53 := a5'
  have A6 : x9.2.i 56 = S.i 56 := a6'
  have B1 : ∀ k : Nat, (k : Int) < (S.i 53).toInt → x9.2.r 51 k = S.r 51 k := b1'
  have B2 : ∀ k a : Nat, (k : Int) < (S.i 53).toInt → S.r 51 k = some a → x9.2.o a = S.o a ∧ x9.2.ol a = S.ol a := b2'
  have B3 : ∀ k : Nat, (k : Int) < (S.i 22).toInt → x9.2.a 18 k = S.a 18 k := b3'
  have B4 : (S.i 54).toInt ≤ (x9.2.i 54).toInt := b4'
  have B5 : (S.i 55).toInt ≤ (x9.2.i 55).toInt := b5'
  have B6 : ∀ k : Nat, (k : Int) < (S.i 55).toInt → x9.2.a 52 k = S.a 52 k := b6'
  have B7 : ∀ k : Nat, (S.i 55).toInt ≤ (k : Int) → (k : Int) < (x9.2.i 55).toInt → x9.2.a 52 k = 0 ∨ (2 * (S.i 54).toInt + 1 < (x9.2.a 52 k).toInt ∧ (x9.2.a 52 k).toInt ≤ 2 * (x9.2.i 54).toInt + 1) := b7'
  have B8 : RTE S x9.2 := b8'
  have B9 : RTE x9.2 p19.2 := d8'
  have ckz : CKZ S p19.2 := by
    refine ⟨c1'.trans A1, fun k hk => (d1' k (by rw [A5]; exact hk)).trans (B1 k hk), fun k a hk ha => ?_, fun k hk => (d3' k (by rw [A1]; exact hk)).trans (B3 k hk), Int.le_trans B4 d4', Int.le_trans B5 d5', fun k hk => (d6' k (by omega)).trans (B6 k hk), fun k h1 h2 => ?_⟩
    · have e := B2 k a hk ha
      have f := d2' k a (by rw [A5]; exact hk) ((B1 k hk).trans ha)
      exact ⟨f.1.trans e.1, f.2.trans e.2⟩
    · by_cases cc : (k : Int) < (x9.2.i 55).toInt
      · rw [d6' k cc]
        rcases B7 k h1 cc with z | z
        · exact Or.inl z
        · exact Or.inr ⟨z.1, by omega⟩
      · rcases d7' k (by omega) h2 with z | z
        · exact Or.inl z
        · exact Or.inr ⟨by omega, z.2⟩
  have rte : RTE S p19.2 := by
    unfold RTE at *
    omega
  obtain ⟨t21, t22, t23, t24, t25, t26, t27, t28, t29, t210⟩ := tbs.1.1
  obtain ⟨n21, n22, n23, n24, n25, n26, n27, n28, n29⟩ := s3
  obtain ⟨k21, k22, k23, -, k25, k26, k27, k28, k29, k210⟩ := j4.1.1
  have j7' : (u.i 11).toInt + 1 ≤ (V3.i 11).toInt := by rw [← z11]; exact j7
  have j9' : (u.i 17).toInt + 1 ≤ (V3.i 17).toInt := by rw [← z17]; exact j9
  refine Or.inr ⟨m3, V3, g4, ⟨j1, j2, (((fq t).tr (v3.tr (FRB.of o4))).tr w4).tr ((s4 t).tr (j3 t)), tr1, (tbs.2.tr (s2.wk l20)).tr (j4.2.wk (by rw [z20]; exact l20)), ⟨k21.trans (n21.trans t21), k22.trans (n22.trans t22), k23.trans (n23.trans t23), k25.trans (n24.trans t25), k26.trans (n25.trans t26), k27.trans (n26.trans t27), k28.trans (n27.trans t28), k29.trans (n28.trans t29), k210.trans (n29.trans t210)⟩, ckz, ⟨c3'.trans A3, c5'.trans A5, c6'.trans A6⟩, rte, ⟨by omega, by omega, by omega, by rw [j10, z19, w10, o12, v10, q19]⟩, ?_, fun _ => ?_, ?_⟩, trivial⟩
  · rw [j6]
    exact ⟨(c2'.trans (A2.trans h36)).symm, Or.inr (c2'.trans (A2.trans h36))⟩
  · rw [V38, s6, u38]
    rw [z11] at j7
    omega
  · rw [V38, s6, u38]
    omega
