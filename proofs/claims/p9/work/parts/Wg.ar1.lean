/-! both readers: one arm, behind its numbers -/
theorem y_need {N : Nat} (hN : 1000 ≤ N) {dl : Int32} {S : CS} {s : RS} {R : Unit × CS} {V : Int32 × RS} {c d : Int32} (h : ENV dl S s) (hc : tyR c) (hd : tm c = d) (h6 : ¬ d = 6) (h0 : ¬ c = 0) (e : f_X1_expect N S c = some R) (g : f_X12_need N s d = some V) : (V.1 = 0 ∧ ¬ R.2.i 32 = 0 ∧ ¬ V.2.i 15 = 0) ∨ (V.1 = 1 ∧ S.i 43 = c ∧ ENV dl R.2 V.2 ∧ qj V.2 = qj s ∧ pj R.2 = pj S ∧ V.2.i 17 = s.i 17 + 1 ∧ (s.i 11).toInt + 1 ≤ (V.2.i 11).toInt ∧ V.2.i 20 = s.i 20 ∧ V.2.a 22 = s.a 22 ∧ R.2.i 22 = S.i 22 ∧ A18 S R.2 ∧ V.2.i 19 = s.i 19) := by
  have is := h.1.2.2.2.1.is hc hd
  have h15 := h.1.2.1
  unfold f_X1_expect at e
  unfold f_X12_need f_X12_need_27 f_X12_need_31 at g
  rw [if_pos h15] at g
  by_cases k : S.i 43 = c
  · have k' := is.mp k
    rw [e_fnd1 k, ob_some, if_neg n10] at e
    rw [if_pos k', y_can1 h15 (by rw [k']; exact h6), ob_some, if_neg n10] at g
    obtain ⟨p, ep, e⟩ := hf_bind e
    obtain ⟨q, gq, g⟩ := hf_bind g
    have nx := h.adv hN (fun z => h0 (k.symm.trans z)) ep gq
    rw [if_pos nx.1.1.2.1] at g
    cases e
    cases g
    exact Or.inr ⟨rfl, k, nx⟩
  · have k' : ¬ s.i 10 = d := fun q => k (is.mpr q)
    rw [e_fnd0 k, ob_some, if_pos rfl] at e
    rw [if_neg k'] at g
    obtain ⟨p, ep, e⟩ := hf_bind e
    obtain ⟨q, gq, g⟩ := hf_bind g
    obtain ⟨q1, q2⟩ := y_can0 gq
    rw [if_pos q1, if_neg q2] at g
    cases e
    cases g
    exact Or.inl ⟨rfl, y_misp ep, q2⟩
/-- an arm is done in both -/
def AXO (d : Int32) (t : Nat) (S : CS) (s : RS) (R : CS) (u : RS) : Prop := ENV d R u ∧ tpI u = (t : Int) ∧ (u.a 64 t = 19 ∧ u.a 65 t = 2 ∧ u.a 66 t = s.a 66 t ∧ u.a 67 t = s.a 67 t ∧ u.a 68 t = s.a 68 t) ∧ FRB t s u ∧ TBK s u ∧ CKX S R ∧ (s.i 11).toInt + 1 ≤ (u.i 11).toInt ∧ phI s + 1 ≤ phI u ∧ (s.i 17).toInt + 1 ≤ (u.i 17).toInt ∧ u.i 19 = s.i 19
/-- an arm's row can be paid, its goal stands on top -/
def GAR (S : CS) (s : RS) : Prop := SGS S (cnI S).toNat + 1 ≤ sgI S ∧ WCS S (cnI S).toNat + 9 ≤ (s.i 11).toInt ∧ 0 < (s.i 43).toInt ∧ s.a 44 ((s.i 43).toInt - 1).toNat = 3 ∧ (S.i 21).toInt ≤ 3 * (s.i 11).toInt ∧ (S.i 54).toInt ≤ (s.i 11).toInt
theorem GAR.mv {S R : CS} {s u : RS} (h : GAR S s) (w : RWI S) (ck : CKX S R) (e34 : R.i 34 = S.i 34) (tb : TBZ s u) (h11 : (s.i 11).toInt ≤ (u.i 11).toInt) (e21 : R.i 21 = S.i 21) (e54 : R.i 54 = S.i 54) : GAR R u := by
  obtain ⟨h1, h2, h3, h4, h5⟩ := h
  obtain ⟨q1, q2⟩ := ck.sum w
  have e43 : u.i 43 = s.i 43 := tb.1.2.2.2.2.1
  refine ⟨by rw [q1]; unfold sgI at *; rw [e34]; exact h1, by rw [q2]; omega, by rw [e43]; exact h3, ?_, by rw [e21]; omega, by rw [e54]; omega⟩
  rw [e43, (tb.2.2.1 _ (by omega)).1]
  exact h4
/-- what the block of an arm must do -/
def ABK (N : Nat) (A : CS → Int32 → Option (Unit × CS)) : Prop := ∀ (d x : Int32) (S : CS) (s V U : RS) (n t : Nat) (R : Unit × CS), ENV d S s → GAR S s → tpI s = t → s.a 64 t = 19 → S.i 43 = 123 → 3 ≤ phI s → A S x = some R → ((f_X12_open N s 123).bind fun p65 => (f_X12_then N (RS.setA p65.2 71 t (p65.2.i 38)) 6 1).bind fun p67 => some p67) = some V → f_X12_parse_10 N n V = some U → (¬ R.2.i 32 = 0 ∧ ¬ U.i 15 = 0) ∨ ∃ (m : Nat) (u : RS), f_X12_parse_10 N m u = some U ∧ AXO d t S s R.2 u
theorem qj_63 {s u : RS} {t : Nat} (h : qj u = qj s) (ht : tpI s = t) : tpI u = t := by
  have r1 : u.i 63 = s.i 63 := congrArg (fun v : QJT => v.1.2.2.2.2.2.2.2.2.2.2.2.2.2.2.2.2.1) h
  show (u.i 63).toInt = (t : Int)
  rw [r1]
  exact ht
theorem y_arm100 {N : Nat} (hN : 1000 ≤ N) {E1 : CS → Option (Unit × CS)} {E2 : CS → Option (Int32 × CS)} (hm1 : ∀ σ, Kf (CS.i σ 32) (E1 σ)) (hm2 : ∀ σ, Kf (CS.i σ 32) (E2 σ)) (hE : SXR N 18 E1) (hB : ABK N (f_X7_armBlock N E1 E2)) {d : Int32} {S : CS} {s U : RS} {n t : Nat} {R : Int32 × CS} {x3 x4 x5 : Int32} (hv : ENV d S s) (hG : GAR S s) (ht : tpI s = t) (hk : s.a 64 t = 19) (hs : s.a 65 t = 5) (e : f_X1_arm_100 N E1 E2 S x3 x4 x5 = some R) (g : f_X12_parse_10 N n s = some U) : (¬ R.2.i 32 = 0 ∧ ¬ U.i 15 = 0) ∨ ∃ (m : Nat) (u : RS), f_X12_parse_10 N m u = some U ∧ AXO d t S s R.2 u ∧ R.1 = x5 := by
  obtain ⟨m, V, hV, g2⟩ := rl_19 g ht hv.1.2.1 hk
  have ph0 := hv.2.2.2.2.2.2.2.1
  unfold f_X12_arms at hV
  obtain ⟨hib, hV⟩ := hf_ite hV
  rw [tp_nat ht, if_neg (show ¬ s.a 65 t = 0 by rw [hs]; decide), if_neg (show ¬ s.a 65 t = 1 by rw [hs]; decide), if_neg (show ¬ s.a 65 t = 2 by rw [hs]; decide), if_neg (show ¬ s.a 65 t = 3 by rw [hs]; decide), if_neg (show ¬ s.a 65 t = 4 by rw [hs]; decide), if_pos hs] at hV
  unfold f_X1_arm_100 f_X1_arm_153 at e
  obtain ⟨p, e1, e⟩ := hf_bind e
  obtain ⟨a, e2, e⟩ := hf_bind e
  obtain ⟨q, hq, hV⟩ := hf_bind hV
  have ka := kd_X0_aim N p.2 x4 a e2
  have kp := pj2_eq ka
  have per : ¬ a.2.i 32 = 0 → ¬ R.2.i 32 = 0 := fun z => by
    by_cases c : a.2.i 43 = 123
    · rw [e_fnd1 c, ob_some, if_neg n10] at e
      obtain ⟨b, eb, e⟩ := hf_bind e
      cases e
      show ¬ b.2.i 32 = 0
      rw [kF_X7_armBlock N E1 E2 hm1 hm2 a.2 x3 b eb z]
      exact z
    · rw [e_fnd0 c, ob_some, if_pos rfl] at e
      obtain ⟨x, ex, e⟩ := hf_bind e
      obtain ⟨y, ey, e⟩ := hf_bind e
      obtain ⟨w, ew, e⟩ := hf_bind e
      cases e
      have z1 : ¬ x.2.i 32 = 0 := by rw [kF_X1_expression N E1 E2 hm1 hm2 a.2 x ex z]; exact z
      have z2 : ¬ y.2.i 32 = 0 := by rw [kF_X1_expect N x.2 59 y ey z1]; exact z1
      show ¬ w.2.i 32 = 0
      rw [fst_add ew]
      exact z2
  rcases y_need hN hv (c := 134) (d := 306) (Or.inl ⟨by decide, by decide⟩) (by decide) (by decide) (by decide) e1 hq with ⟨o1, o2, o3⟩ | ⟨o1, o2, o3, o4, o5, o6, o7, o8, o9, o10, o11, o12⟩
  · rw [if_neg o3] at hV
    unfold f_X12_arms_400 at hV
    rw [ob_id] at hV
    exact Or.inl ⟨per (by rw [kp.2.1]; exact o2), u_flt g2 (krf_f_X12_then N q.2 7 16 V hV o3)⟩
  · rw [if_pos o3.1.2.1] at hV
    have oa := o3.kd ka
    have tq := qj_63 o4 ht
    have fq : FRB (t + 1) s q.2 := FRB.of o4
    have fqt := fq t (by omega)
    have q64 : q.2.a 64 t = 19 := fqt.1.trans hk
    have i123 := tk_is oa (a := 123) (b := 123) (Or.inl ⟨by decide, by decide⟩) (by decide)
    have t17 : (q.2.i 17).toInt = (s.i 17).toInt + 1 := by rw [o6]; exact t17_up (N := N) hv
    have pq : phI q.2 = phI s + 3 := by
      unfold phI
      rw [o8, t17]
      omega
    have cka : CKX S a.2 := (CKX.of o5 o10 o11).tr (CKX.of kp.1 kp.2.2.2.2.1 kp.2.2.2.2.2.2.2.2.2.2.2)
    have tbq : TBK s q.2 := TBK.of o4 (by rw [o8]; exact Int.le_refl _) (fun j _ => by rw [o9])
    by_cases c : a.2.i 43 = 123
    · rw [if_pos (i123.mp c)] at hV
      rw [e_fnd1 c, ob_some, if_neg n10] at e
      obtain ⟨b, eb, e⟩ := hf_bind e
      cases e
      rcases hB d x3 a.2 q.2 V U m t b oa (hG.mv hv.ri cka (by rw [oa.2.2.1.1, o12, hv.2.2.1.1]) tbq.1 (by omega) ((pj_21 kp.1).trans (pj_21 o5)) ((pj_54 kp.1).trans (pj_54 o5))) tq q64 c (by omega) eb hV g2 with z | ⟨m2, u, g3, w1, w2, ⟨w31, w32, w33, w34, w35⟩, w4, w5, w6, w7, w8, w9, w10⟩
      · exact Or.inl z
      · exact Or.inr ⟨m2, u, g3, ⟨w1, w2, ⟨w31, w32, w33.trans fqt.2.2.1, w34.trans fqt.2.2.2.1, w35.trans fqt.2.2.2.2.1⟩, (FRB.of o4).tr w4, tbq.tr w5, cka.tr w6, by omega, by omega, by omega, w10.trans o12⟩, rfl⟩
    · rw [if_neg (fun z => c (i123.mpr z))] at hV
      unfold f_X12_arms_400 at hV
      rw [ob_id] at hV
      rw [e_fnd0 c, ob_some, if_pos rfl] at e
      obtain ⟨x, ex, e⟩ := hf_bind e
      obtain ⟨y, ey, e⟩ := hf_bind e
      obtain ⟨w, ew, e⟩ := hf_bind e
      cases e
      obtain ⟨hV', t99⟩ := r_then tq hV
      rw [hV'] at g2
      rcases sx_expression hN hm1 hm2 hE d a.2 (TH q.2 t 7 16) U m (t + 1) x oa.th (TH.tp tq (by omega)) TH.fk TH.fs (show 3 ≤ phI q.2 by omega) ex g2 with ⟨x1, x2⟩ | ⟨m2, u, g3, xo⟩
      · refine Or.inl ⟨?_, x2⟩
        show ¬ w.2.i 32 = 0
        rw [fst_add ew, kF_X1_expect N x.2 59 y ey x1]
        exact x1
      · obtain ⟨w1, w2, w3, w4, w5, w6, w7, w8, w9⟩ := xo
        have fut := w3 t (by omega)
        have u64 : u.a 64 t = 19 := by
          rw [fut.1, TH.fk0 (Nat.le_refl t)]
          exact q64
        have u65 : u.a 65 t = 7 := by
          rw [fut.2.1]
          exact TH.st
        have tu : tpI u = t := by
          rw [w2]
          omega
        have w6' : (q.2.i 11).toInt + 1 ≤ (u.i 11).toInt := w6
        have w7' : phI q.2 + 1 ≤ phI u := w7
        have w8' : (q.2.i 17).toInt + 1 ≤ (u.i 17).toInt := w8
        have w9' : u.i 19 = q.2.i 19 := w9
        obtain ⟨m3, V3, hV3, g4⟩ := rl_19 g3 tu w1.1.2.1 u64
        unfold f_X12_arms at hV3
        obtain ⟨-, hV3⟩ := hf_ite hV3
        rw [tp_nat tu, if_neg (show ¬ u.a 65 t = 0 by rw [u65]; decide), if_neg (show ¬ u.a 65 t = 1 by rw [u65]; decide), if_neg (show ¬ u.a 65 t = 2 by rw [u65]; decide), if_neg (show ¬ u.a 65 t = 3 by rw [u65]; decide), if_neg (show ¬ u.a 65 t = 4 by rw [u65]; decide), if_neg (show ¬ u.a 65 t = 5 by rw [u65]; decide), if_neg (show ¬ u.a 65 t = 6 by rw [u65]; decide)] at hV3
        obtain ⟨z, hz, hV3⟩ := hf_bind hV3
        obtain ⟨y2, hy2, hV3⟩ := hf_bind hV3
        cases hV3
        rcases y_need hN w1 (c := 59) (d := 59) (Or.inl ⟨by decide, by decide⟩) (by decide) (by decide) (by decide) ey hz with ⟨b1, b2, b3⟩ | ⟨b1, b2, b3, b4, b5, b6, b7, b8, b9, b10, b11, b12⟩
        · refine Or.inl ⟨?_, u_flt g4 (show ¬ y2.2.i 15 = 0 from krf_f_X12_emit N z.2 30 0 y2 hy2 b3)⟩
          show ¬ w.2.i 32 = 0
          rw [fst_add ew]
          exact b2
        · have z17 : (z.2.i 17).toInt = (u.i 17).toInt + 1 := by rw [b6]; exact t17_up (N := N) w1
          have pz : phI z.2 = phI u + 3 := by
            unfold phI
            rw [b8, z17]
            omega
          obtain ⟨n1, n2, n3, n4, n5, n6⟩ := em_env b3 (by omega) hy2
          have kw := kd_X0_add N y.2 30 x3 w ew
          have kwp := pj2_eq kw
          have nq := qj2_eq n3
          have ty : tpI y2.2 = t := qj_63 nq.1 (qj_63 b4 tu)
          have fz : FRB (t + 1) u z.2 := FRB.of b4
          have fy : FRB (t + 1) z.2 y2.2 := FRB.of nq.1
          have fzt := fz t (by omega)
          have fyt := fy t (by omega)
          have fin : ∀ k : Nat, ¬ k = 65 → (RS.setA y2.2 65 t 2).a k t = y2.2.a k t := fun k hk => by
            show (if k = 65 then upd (y2.2.a 65) t 2 else y2.2.a k) t = y2.2.a k t
            rw [if_neg hk]
          have e65 : (RS.setA y2.2 65 t 2).a 65 t = 2 := by
            show upd (y2.2.a 65) t 2 t = 2
            exact if_pos rfl
          have tb : TBK y2.2 (RS.setA y2.2 65 t 2) := ⟨setA_tb0 (Or.inr (by omega)), Int.le_refl _, fun _ _ => rfl⟩
          refine Or.inr ⟨m3, _, g4, ⟨setA_env (Or.inr (by omega)) (n1.kd kw), ty, ⟨?_, e65, ?_, ?_, ?_⟩, ?_, (((tbq.tr TH.tbk).tr w4).tr (TBK.of b4 (by rw [b8]; exact Int.le_refl _) (fun j _ => by rw [b9]))).tr (n2.tr tb), ((cka.tr w5).tr (CKX.of b5 b10 b11)).tr (CKX.of kwp.1 kwp.2.2.2.2.1 kwp.2.2.2.2.2.2.2.2.2.2.2), ?_, ?_, ?_, ?_⟩, rfl⟩
          · rw [fin 64 (by decide), fyt.1, fzt.1]
            exact u64
          · rw [fin 66 (by decide), fyt.2.2.1, fzt.2.2.1, fut.2.2.1]
            exact fqt.2.2.1
          · rw [fin 67 (by decide), fyt.2.2.2.1, fzt.2.2.2.1, fut.2.2.2.1]
            exact fqt.2.2.2.1
          · rw [fin 68 (by decide), fyt.2.2.2.2.1, fzt.2.2.2.2.1, fut.2.2.2.2.1]
            exact fqt.2.2.2.2.1
          · exact (((((FRB.of o4).tr TH.frb).tr (w3.mo (by omega))).tr (FRB.of b4)).tr (FRB.of nq.1)).tr (setA_frb (Or.inr ⟨by omega, by omega, Nat.le_refl _⟩))
          · show (s.i 11).toInt + 1 ≤ (y2.2.i 11).toInt
            rw [nq.2.2.1]
            omega
          · show phI s + 1 ≤ phI y2.2
            omega
          · show (s.i 17).toInt + 1 ≤ (y2.2.i 17).toInt
            rw [nq.2.2.2.2.2.2.2.1]
            omega
          · show y2.2.i 19 = s.i 19
            rw [nq.2.2.2.2.2.2.2.2.1, b12, w9', o12]
