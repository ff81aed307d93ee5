/-! both readers: throw -/
/-- what a statement's last steps leave, all frames of u kept -/
def TLO (d : Int32) (t : Nat) (v : Int32) (S : CS) (u : RS) (R : CS) (V : RS) : Prop := ENV d R V ∧ tpI V = (t : Int) - 1 ∧ (∀ r : Nat, FRB r u V) ∧ TBK u V ∧ CKX S R ∧ V.i 75 = v ∧ (u.i 11).toInt + 1 ≤ (V.i 11).toInt ∧ phI u + 2 ≤ phI V ∧ (u.i 17).toInt + 1 ≤ (V.i 17).toInt ∧ V.i 19 = u.i 19
/-- an instruction, a sign, over -/
theorem y_tail {N : Nat} (hN : 1000 ≤ N) {d : Int32} {S : CS} {u V : RS} {t : Nat} {o x o' x' v : Int32} {y b : Int32 × RS} {w r : Unit × CS} (hv : ENV d S u) (ht : tpI u = t) (t9 : t < 1000) (h1 : 1 ≤ phI u) (e2 : f_X0_add N S o' x' = some w) (e3 : f_X1_expect N w.2 59 = some r) (hy : f_X12_emit N u o x = some y) (hb : f_X12_need N y.2 59 = some b) (ho : f_X12_over N b.2 v = some V) : (¬ r.2.i 32 = 0 ∧ ¬ V.i 15 = 0) ∨ TLO d t v S u r.2 V := by
  obtain ⟨n1, n2, n3, n4, n5, n6⟩ := em_env hv h1 hy
  obtain ⟨nq, -, y11, -, -, -, -, y17, y19, -⟩ := qj2_eq n3
  have kw := kd_X0_add N S o' x' w e2
  have ev := n1.kd kw
  have kp := pj2_eq kw
  have ty := qj_63 nq ht
  rcases y_need hN ev (c := 59) (d := 59) (Or.inl ⟨by decide, by decide⟩) (by decide) (by decide) (by decide) e3 hb with ⟨o1, o2, o3⟩ | ⟨o1, o2, o3, o4, o5, o6, o7, o8, o9, o10, o11, o12⟩
  · exact Or.inl ⟨o2, krf_f_X12_over N b.2 v V ho o3⟩
  · obtain ⟨v1, v2, v3, v4, v5, v6, v7, v8, v9, v10⟩ := y_over o3 (qj_63 o4 ty) t9 ho
    have t17 : (b.2.i 17).toInt = (u.i 17).toInt + 1 := by rw [o6, t17_up (N := N) ev, y17]
    have pb : phI b.2 = phI y.2 + 3 := by
      unfold phI
      rw [o8, o6, t17_up (N := N) ev]
      omega
    rw [y11] at o7
    exact Or.inr ⟨v1, v2, fun r => ((FRB.of nq).tr (FRB.of o4)).tr (v3 r), (n2.tr (TBK.of o4 (by rw [o8]; exact Int.le_refl _) (fun j _ => by rw [o9]))).tr v4, (CKX.of kp.1 kp.2.2.2.2.1 kp.2.2.2.2.2.2.2.2.2.2.2).tr (CKX.of o5 o10 o11), v5, by rw [v8]; exact o7, by omega, by rw [v9]; omega, by rw [v10, o12, y19]⟩
theorem EXO.tl {d : Int32} {t : Nat} {st v : Int32} {S P R : CS} {q u V : RS} (x : EXO d t st S q P u) (h : TLO d t v P u R V) : XO d t S q R V ∧ V.i 75 = v := by
  obtain ⟨w1, w2, w3, w4, w5, w6, w7, w8, w9, w10⟩ := x
  obtain ⟨h1, h2, h3, h4, h5, h6, h7, h8, h9, h10⟩ := h
  exact ⟨⟨h1, h2, w4.tr (h3 t), w5.tr h4, w6.tr h5, by omega, by omega, by omega, h10.trans w10⟩, h6⟩
/-- one token on, seen from s -/
theorem y_nx {N : Nat} (hN : 1000 ≤ N) {d : Int32} {S : CS} {s q : RS} {t : Nat} {p : Unit × CS} (hv : ENV d S s) (ht : tpI s = t) (h43 : ¬ S.i 43 = 0) (e : f_X9_advance N S = some p) (hq : f_X12_next N s = some q) : ENV d p.2 q ∧ tpI q = t ∧ (∀ r : Nat, FRB r s q) ∧ TBK s q ∧ CKX S p.2 ∧ (s.i 11).toInt + 1 ≤ (q.i 11).toInt ∧ phI q = phI s + 3 ∧ (q.i 17).toInt = (s.i 17).toInt + 1 ∧ q.i 19 = s.i 19 := by
  obtain ⟨a1, a2, a3, a4, a5, a6, a7, a8, a9, a10⟩ := hv.adv hN h43 e hq
  have q17 : (q.i 17).toInt = (s.i 17).toInt + 1 := by rw [a4]; exact t17_up (N := N) hv
  have pq : phI q = phI s + 3 := by
    unfold phI
    rw [a6, q17]
    omega
  exact ⟨a1, qj_63 a2 ht, fun r => FRB.of a2, TBK.of a2 (by rw [a6]; exact Int.le_refl _) (fun j _ => by rw [a7]), CKX.of a3 a8 a9, a5, pq, q17, a10⟩
set_option maxHeartbeats 4000000 in
theorem sx_throw {N : Nat} (hN : 1000 ≤ N) {E1 : CS → Option (Unit × CS)} {E2 : CS → Option (Int32 × CS)} (hm1 : ∀ σ, Kf (CS.i σ 32) (E1 σ)) (hm2 : ∀ σ, Kf (CS.i σ 32) (E2 σ)) (hE : SXR N 18 E1) : SXK N 7 211 (fun _ _ => True) (f_X7_throwOne N E1 E2) := by
  intro d S s U n t R hv _ h36 ht hk hs h2 h43 e g
  obtain ⟨m, V, hV, g2⟩ := rl_7 g ht hv.1.2.1 hk
  unfold f_X12_throwing at hV
  obtain ⟨hib, hV⟩ := hf_ite hV
  have t9 : t < 1000 := by
    have h2 : (s.i 63).toInt = (t : Int) := ht
    have := hib.2
    omega
  rw [tp_nat ht, if_neg (show ¬ s.a 65 t = 1 by rw [hs]; decide)] at hV
  obtain ⟨q, hq, hV⟩ := hf_bind hV
  unfold f_X7_throwOne at e
  obtain ⟨p1, e1, e⟩ := hf_bind e
  obtain ⟨a1, tq, fq, kq, cq, l11, pq, q17, q19⟩ := y_nx hN hv ht (by rw [h43]; decide) e1 hq
  have i5 := tk_is a1 (a := 5) (b := 5) (Or.inl ⟨by decide, by decide⟩) (by decide)
  have i2 := tk_is a1 (a := 2) (b := 2) (Or.inl ⟨by decide, by decide⟩) (by decide)
  have q15 := a1.1.2.1
  have q64 : q.a 64 t = 7 := (fq (t + 1) t (by omega)).1.trans hk
  have flt : ∀ {X : CS}, ¬ X.i 32 = 0 → f_X7_throwOne_152 N E1 E2 X = some R → ¬ R.2.i 32 = 0 := fun z e => by rw [kF_X7_throwOne_152 N E1 E2 hm1 hm2 _ R e z]; exact z
  by_cases c5 : p1.2.i 43 = 5
  · have k5 := i5.mp c5
    rw [e_fnd1 c5, ob_some, if_neg n10] at e
    rw [if_pos k5, y_can1 q15 (by rw [k5]; decide), ob_some, if_neg n10] at hV
    unfold f_X12_throwing_69 at hV
    rw [if_pos k5] at hV
    obtain ⟨k, ek, e⟩ := hf_bind e
    have v45 : p1.2.i 45 = q.i 14 := a1.1.2.2.2.1.2.2.2.2.2 (Or.inr (Or.inr (Or.inr c5)))
    have b45 := a1.lb.1.2.2 c5
    have k13 : p1.2.i 13 = q.i 3 := a1.2.2.2.2.2.1.1
    have hkk : k.2 = p1.2 ∧ (k.1 = 0 ↔ ¬ q.i 14 < q.i 3) := by
      have ek' : f_X10_isKind N p1.2 (p1.2.i 45) = some k := ek
      unfold f_X10_isKind f_X10_isKind_16 at ek'
      rw [if_neg (fun z => by have := lt_int z; rw [z_t0] at this; omega)] at ek'
      by_cases c : p1.2.i 13 ≤ p1.2.i 45
      · rw [if_pos c] at ek'
        cases ek'
        refine ⟨rfl, fun _ z => ?_, fun _ => rfl⟩
        have z1 := lt_int z
        have z2 := le_int c
        rw [k13, v45] at z2
        omega
      · rw [if_neg c] at ek'
        cases ek'
        refine ⟨rfl, fun z => absurd (show (1 : Int32) = 0 from z) (by decide), fun z => ?_⟩
        exfalso
        refine z ?_
        rw [Int32.lt_iff_toInt_lt]
        have z2 := lt_int (Int32.not_le.mp c)
        rw [k13, v45] at z2
        exact z2
    by_cases c0 : k.1 = 0
    · rw [if_pos c0] at e
      rw [if_neg (hkk.2.mp c0), e_fail, ob_some, if_pos q15] at hV
      cases hV
      obtain ⟨f, ef, e⟩ := hf_bind e
      have ff := y_fail (by decide) ef
      refine Or.inl ⟨by rw [kF_X7_throwOne_46 N E1 E2 hm1 hm2 f.2 _ R e ff]; exact ff, u_flt g2 ?_⟩
      show ¬ (3 : Int32) = 0
      decide
    · rw [if_neg c0, hkk.1] at e
      have lt : q.i 14 < q.i 3 := by
        by_cases z : q.i 14 < q.i 3
        · exact z
        · exact absurd (hkk.2.mpr z) c0
      rw [if_pos lt] at hV
      obtain ⟨-, hV⟩ := hf_ite hV
      rw [tp_nat ht] at hV
      obtain ⟨q2, hq2, hV⟩ := hf_bind hV
      rw [ob_id] at hV
      unfold f_X7_throwOne_46 f_X7_throwOne_152 at e
      obtain ⟨p2, e2, e⟩ := hf_bind e
      obtain ⟨p3, e3, e⟩ := hf_bind e
      obtain ⟨p4, e4, e⟩ := hf_bind e
      obtain ⟨p5, e5, e⟩ := hf_bind e
      cases e
      have ev1 : ENV d p1.2 (RS.setA q 66 t (q.i 14)) := setA_env (Or.inr (by omega)) a1
      obtain ⟨b1, tb, fb, kb, cb, m11, pb, b17, b19⟩ := y_nx (s := RS.setA q 66 t (q.i 14)) hN ev1 tq (by rw [c5]; decide) e2 hq2
      have m11' : (q.i 11).toInt + 1 ≤ (q2.i 11).toInt := m11
      have pb' : phI q2 = phI q + 3 := pb
      have b17' : (q2.i 17).toInt = (q.i 17).toInt + 1 := b17
      have b19' : q2.i 19 = q.i 19 := b19
      have c64 : q2.a 64 t = 7 := (fb (t + 1) t (by omega)).1.trans q64
      rcases y_expr hN hm1 hm2 hE b1 tb (by omega) e3 hV g2 with ⟨x1, x2⟩ | ⟨m2, u, g3, xo⟩
      · refine Or.inl ⟨?_, x2⟩
        have z : ¬ p4.2.i 32 = 0 := by rw [fst_add e4]; exact x1
        show ¬ (CS.setI p5.2 36 0).i 32 = 0
        rw [ci_ne _ _ _ (by decide), kF_X1_expect N p4.2 59 p5 e5 z]
        exact z
      · obtain ⟨w1, w2, ⟨f0, f1, f2, -⟩, w4, w5, w6, w7, w8, w9, w10⟩ := id xo
        obtain ⟨m3, V3, hV3, g4⟩ := rl_7 g3 w2 w1.1.2.1 (f0.trans c64)
        unfold f_X12_throwing at hV3
        obtain ⟨-, hV3⟩ := hf_ite hV3
        rw [tp_nat w2, if_pos f1] at hV3
        obtain ⟨y, hy, hV3⟩ := hf_bind hV3
        obtain ⟨b, hb, hV3⟩ := hf_bind hV3
        rw [ob_id] at hV3
        rcases y_tail hN w1 w2 t9 (by omega) e4 e5 hy hb hV3 with ⟨z1, z2⟩ | tl
        · refine Or.inl ⟨?_, u_flt g4 z2⟩
          show ¬ (CS.setI p5.2 36 0).i 32 = 0
          rw [ci_ne _ _ _ (by decide)]
          exact z1
        · obtain ⟨x3, x4⟩ := xo.tl tl
          have pre1 : FRB t s (RS.setA q 66 t (q.i 14)) := (fq t).tr (setA_frb (Or.inr ⟨by omega, by omega, Nat.le_refl _⟩))
          have pre2 : TBK s (RS.setA q 66 t (q.i 14)) := kq.tr ⟨setA_tb0 (Or.inr (by omega)), Int.le_refl _, fun _ _ => rfl⟩
          have x5 : XO d t S s p5.2 V3 := XO.pre (pre1.tr (fb t)) (pre2.tr kb) (cq.tr cb) (by omega) (by omega) (by omega) (b19'.trans q19) x3
          refine Or.inr ⟨m3, V3, g4, x5.s36b h36, ?_⟩
          rw [x4]
          exact ⟨(ci_at _ _ _).symm, Or.inl (ci_at _ _ _)⟩
  · rw [e_fnd0 c5, ob_some, if_pos rfl] at e
    have k5 : ¬ q.i 10 = 5 := fun z => c5 (i5.mpr z)
    rw [if_neg k5] at hV
    by_cases c2 : p1.2.i 43 = 2
    · have k2 := i2.mp c2
      rw [e_fnd1 c2, ob_some, if_neg n10] at e
      rw [if_pos k2, y_can1 q15 (by rw [k2]; decide), ob_some, if_neg n10] at hV
      unfold f_X12_throwing_69 at hV
      rw [if_neg k5] at hV
      obtain ⟨F, eF, e⟩ := hf_bind e
      obtain ⟨Q, hQ, hV⟩ := hf_bind hV
      have ll : p1.2.l = q.l := a1.1.2.2.2.1.2.2.2.2.1 c2
      have eF' : f_X4_find N p1.2 q.l = some F := by rw [← ll]; exact eF
      obtain ⟨z1, z2, z3, z4, z5⟩ := y_find a1 eF' hQ
      have f108 : ∀ X : CS, f_X7_throwOne_108 N E1 E2 X = some R → ¬ R.2.i 32 = 0 := fun X e => by
        unfold f_X7_throwOne_108 at e
        obtain ⟨f, ef, e⟩ := hf_bind e
        cases e
        exact y_fail (by decide) ef
      have r142 : f_X12_throwing_142 N q = some V → ¬ U.i 15 = 0 := fun h => by
        unfold f_X12_throwing_142 at h
        rw [e_fail, ob_some, if_pos q15] at h
        cases h
        refine u_flt g2 ?_
        show ¬ (3 : Int32) = 0
        decide
      by_cases cF : F.1 < 0
      · rw [if_pos cF] at e
        rw [if_pos (show Q.1 < 0 by rw [← z3]; exact cF), z2] at hV
        exact Or.inl ⟨f108 _ e, r142 hV⟩
      · rw [if_neg cF, z1] at e
        rw [if_neg (show ¬ Q.1 < 0 by rw [← z3]; exact cF), z2] at hV
        obtain ⟨hib2, hV⟩ := hf_ite hV
        obtain ⟨C, eC, e⟩ := hf_bind e
        have em : (-1 : Int32).toInt = -1 := by decide
        obtain ⟨k, k1, k3, -, -⟩ := z4.resolve_left (fun z => by
          refine cF ?_
          rw [z, Int32.lt_iff_toInt_lt, z_t0, em]
          omega)
        have hk := nms_hi a1
        have Qk : Q.1.toNatClampNeg = k := by
          show Q.1.toInt.toNat = k
          rw [← z3, k1]
          exact Int.toNat_natCast _
        have cau := (a1.2.1.2.2.1 k k3).2
        have gat : gAt (p1.2.a 49) 128 F.1 = p1.2.a 49 k := by
          unfold gAt
          rw [if_pos (show ib F.1 128 from ⟨by omega, by omega⟩)]
          show p1.2.a 49 F.1.toInt.toNat = p1.2.a 49 k
          rw [k1, Int.toNat_natCast]
        unfold f_X4_isCaught at eC
        rw [gat] at eC
        rw [Qk] at hV
        by_cases cc : q.a 41 k = 0
        · rw [if_pos cc] at hV
          have lt : p1.2.a 49 k < 0 := by
            rw [Int32.lt_iff_toInt_lt, z_t0]
            by_cases z : 0 ≤ (p1.2.a 49 k).toInt
            · exact absurd cc (cau.mp z)
            · omega
          rw [if_pos lt] at eC
          cases eC
          have e' : f_X7_throwOne_108 N E1 E2 p1.2 = some R := e
          exact Or.inl ⟨f108 _ e', r142 hV⟩
        · rw [if_neg cc] at hV
          have nlt : ¬ p1.2.a 49 k < 0 := fun z => by
            have z' := lt_int z
            rw [z_t0] at z'
            have := cau.mpr cc
            omega
          rw [if_neg nlt] at eC
          cases eC
          have e' : ((f_X4_frameOf N p1.2 F.1).bind fun p37 => (f_X0_add N p37.2 64 p37.1).bind fun p41 => (f_X9_advance N p41.2).bind fun p45 => f_X7_throwOne_152 N E1 E2 p45.2) = some R := e
          unfold f_X4_frameOf at e'
          rw [ob_some] at e'
          obtain ⟨w, ew, e'⟩ := hf_bind e'
          obtain ⟨p2, e2, e'⟩ := hf_bind e'
          unfold f_X7_throwOne_152 at e'
          obtain ⟨r, er, e'⟩ := hf_bind e'
          cases e'
          obtain ⟨y, hy, hV⟩ := hf_bind hV
          obtain ⟨q2, hq2, hV⟩ := hf_bind hV
          obtain ⟨b, hb, hV⟩ := hf_bind hV
          rw [ob_id] at hV
          obtain ⟨n1, n2, n3, n4, n5, n6⟩ := em_env a1 (by omega) hy
          obtain ⟨nq, -, y11, -, -, -, -, y17, y19, -⟩ := qj2_eq n3
          have kw := kd_X0_add N p1.2 64 _ w ew
          have kp := pj2_eq kw
          obtain ⟨b1, tb, fb, kb, cb, m11, pb, b17, b19⟩ := y_nx hN (n1.kd kw) (qj_63 nq tq) (by rw [kp.2.2.2.2.2.2.2.1, c2]; decide) e2 hq2
          rcases y_need hN b1 (c := 59) (d := 59) (Or.inl ⟨by decide, by decide⟩) (by decide) (by decide) (by decide) er hb with ⟨o1, o2, o3⟩ | ⟨o1, o2, o3, o4, o5, o6, o7, o8, o9, o10, o11, o12⟩
          · refine Or.inl ⟨?_, u_flt g2 (krf_f_X12_over N b.2 0 V hV o3)⟩
            show ¬ (CS.setI r.2 36 0).i 32 = 0
            rw [ci_ne _ _ _ (by decide)]
            exact o2
          · obtain ⟨v1, v2, v3, v4, v5, v6, v7, v8, v9, v10⟩ := y_over o3 (qj_63 o4 tb) t9 hV
            have t17 : (b.2.i 17).toInt = (q2.i 17).toInt + 1 := by rw [o6]; exact t17_up (N := N) b1
            have pbb : phI b.2 = phI q2 + 3 := by
              unfold phI
              rw [o8, t17]
              omega
            rw [y11] at m11
            have x5 : XO d t S s r.2 V := ⟨v1, v2, ((((fq t).tr (FRB.of nq)).tr (fb t)).tr (FRB.of o4)).tr (v3 t), (((kq.tr n2).tr kb).tr (TBK.of o4 (by rw [o8]; exact Int.le_refl _) (fun j _ => by rw [o9]))).tr v4, ((cq.tr (CKX.of kp.1 kp.2.2.2.2.1 kp.2.2.2.2.2.2.2.2.2.2.2)).tr cb).tr (CKX.of o5 o10 o11), by rw [v8]; omega, by omega, by rw [v9]; rw [y17] at b17; omega, by rw [v10, o12, b19, y19, q19]⟩
            refine Or.inr ⟨m, V, g2, x5.s36b h36, ?_⟩
            rw [v5]
            exact ⟨(ci_at _ _ _).symm, Or.inl (ci_at _ _ _)⟩
    · rw [e_fnd0 c2, ob_some, if_pos rfl] at e
      have k2 : ¬ q.i 10 = 2 := fun z => c2 (i2.mpr z)
      rw [if_neg k2] at hV
      obtain ⟨f, ef, e⟩ := hf_bind e
      obtain ⟨c, hc, hV⟩ := hf_bind hV
      obtain ⟨c1, c3⟩ := y_can0 hc
      rw [if_pos c1] at hV
      cases hV
      exact Or.inl ⟨flt (y_misp ef) e, u_flt g2 c3⟩
