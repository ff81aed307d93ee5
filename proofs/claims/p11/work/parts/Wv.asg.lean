/-! both readers: a name gets a value -/
theorem gat_k {A : Nat → Int32} {x : Int32} {k : Nat} (h : x.toInt = (k : Int)) (l : (k : Int) < 128) : gAt A 128 x = A k := by
  unfold gAt
  rw [if_pos (show ib x 128 from ⟨by omega, by omega⟩)]
  show A x.toInt.toNat = A k
  rw [h, Int.toNat_natCast]
/-- found, and not one of a catch -/
theorem y_got {N : Nat} {d : Int32} {S : CS} {s : RS} {l : Int64} {w : Int32} {P : Int32 × CS} {Q : Int32 × RS} (h : ENV d S s) (e : f_X4_find N S l = some P) (g : f_X12_got N s l w = some Q) : P.2 = S ∧ ((P.1 < 0 ∧ ¬ Q.2.i 15 = 0) ∨ (¬ P.1 < 0 ∧ ∃ C : Int32 × CS, f_X4_isCaught N S P.1 = some C ∧ C.2 = S ∧ ((C.1 = 0 ∧ Q.2 = s ∧ ∃ k : Nat, P.1.toInt = (k : Int) ∧ (k : Int) < (s.i 38).toInt ∧ (S.a 49 k).toInt < 0 ∧ Q.1 = s.a 40 k) ∨ (¬ C.1 = 0 ∧ ¬ Q.2.i 15 = 0)))) := by
  have h15 := h.1.2.1
  unfold f_X12_got at g
  obtain ⟨q, gq, g⟩ := hf_bind g
  obtain ⟨z1, z2, z3, z4, z5⟩ := y_find h e gq
  have r22 : f_X12_got_22 N s w = some Q → ¬ Q.2.i 15 = 0 := fun g => by
    unfold f_X12_got_22 at g
    rw [e_fail, ob_some, if_pos h15] at g
    cases g
    show ¬ (3 : Int32) = 0
    decide
  refine ⟨z1, ?_⟩
  by_cases c : P.1 < 0
  · rw [if_pos (show q.1 < 0 by rw [← z3]; exact c), z2] at g
    exact Or.inl ⟨c, r22 g⟩
  · rw [if_neg (show ¬ q.1 < 0 by rw [← z3]; exact c), z2] at g
    obtain ⟨hib2, g⟩ := hf_ite g
    have em : (-1 : Int32).toInt = -1 := by decide
    obtain ⟨k, k1, k3, -, -⟩ := z4.resolve_left (fun z => by
      refine c ?_
      rw [z, Int32.lt_iff_toInt_lt, z_t0, em]
      omega)
    have hk := nms_hi h
    have Qk : q.1.toNatClampNeg = k := by
      show q.1.toInt.toNat = k
      rw [← z3, k1]
      exact Int.toNat_natCast _
    have cau := (h.2.1.2.2.1 k k3).2
    have gat : gAt (S.a 49) 128 P.1 = S.a 49 k := by
      unfold gAt
      rw [if_pos (show ib P.1 128 from ⟨by omega, by omega⟩)]
      show S.a 49 P.1.toInt.toNat = S.a 49 k
      rw [k1, Int.toNat_natCast]
    rw [Qk] at g
    refine Or.inr ⟨c, ?_⟩
    unfold f_X4_isCaught
    rw [gat]
    by_cases cc : s.a 41 k = 0
    · rw [if_pos cc] at g
      have lt : S.a 49 k < 0 := by
        rw [Int32.lt_iff_toInt_lt, z_t0]
        by_cases z : 0 ≤ (S.a 49 k).toInt
        · exact absurd cc (cau.mp z)
        · omega
      cases g
      exact ⟨(0, S), if_pos lt, rfl, Or.inl ⟨rfl, rfl, k, k1, k3, by have z := lt_int lt; rw [z_t0] at z; exact z, rfl⟩⟩
    · rw [if_neg cc] at g
      have nlt : ¬ S.a 49 k < 0 := fun z => by
        have z' := lt_int z
        rw [z_t0] at z'
        have := cau.mpr cc
        omega
      exact ⟨(1, S), if_neg nlt, rfl, Or.inr ⟨n10, r22 g⟩⟩
/-- NAME = EXPR; or NAME ++; -/
theorem y_assign {N : Nat} (hN : 1000 ≤ N) {E1 : CS → Option (Unit × CS)} {E2 : CS → Option (Int32 × CS)} (hm1 : ∀ σ, Kf (CS.i σ 32) (E1 σ)) (hm2 : ∀ σ, Kf (CS.i σ 32) (E2 σ)) (hE : SXR N 18 E1) {d : Int32} {X : CS} {q V U : RS} {n t : Nat} {l : Int64} {w pl : Int32} {R : Unit × CS} (hv : ENV d X q) (tq : tpI q = t) (t9 : t < 1000) (hk : q.a 64 t = 5) (h3 : 2 ≤ phI q) (e : ((f_X7_change N E1 E2 X l pl 1).bind fun p39 => (f_X1_expect N p39.2 59).bind fun p43 => some ((), p43.2)) = some R) (hV : ((f_X12_got N q l w).bind fun p7 => (if (p7.2.i 15) = 0 then (if (p7.2.i 10) = 61 then (f_X12_can N p7.2 1).bind fun p11 => (if p11.1 = 0 then some p11.2 else f_X12_named_183 N p11.2 (q.i 63) p7.1) else (if (p7.2.i 10) = 307 then (f_X12_can N p7.2 1).bind fun p33 => (if p33.1 = 0 then some p33.2 else f_X12_named_183 N p33.2 (q.i 63) p7.1) else (f_X12_can N p7.2 0).bind fun p30 => (if p30.1 = 0 then some p30.2 else f_X12_named_183 N p30.2 (q.i 63) p7.1))) else some p7.2)) = some V) (g : f_X12_parse_10 N n V = some U) : (¬ R.2.i 32 = 0 ∧ ¬ U.i 15 = 0) ∨ ∃ (m : Nat) (u : RS), f_X12_parse_10 N m u = some U ∧ XO d t X q R.2 u ∧ u.i 75 = 1 ∧ ∃ y : Int32 × RS, f_X12_emit N q 1 0 = some y ∧ CDG (-1) (JGO U R.2 u) U X y.2 R.2 u := by
  have q15 := hv.1.2.1
  obtain ⟨p39, e39, e⟩ := hf_bind e
  obtain ⟨p43, e43, e⟩ := hf_bind e
  cases e
  have flt : ¬ p39.2.i 32 = 0 → ¬ p43.2.i 32 = 0 := fun z => by rw [kF_X1_expect N p39.2 59 p43 e43 z]; exact z
  obtain ⟨Q, hQ, hV⟩ := hf_bind hV
  unfold f_X7_change at e39
  obtain ⟨P, eP, e39⟩ := hf_bind e39
  obtain ⟨z1, z2⟩ := y_got hv eP hQ
  rw [z1] at e39
  have i61 := tk_is hv (a := 61) (b := 61) (Or.inl ⟨by decide, by decide⟩) (by decide)
  have i307 := tk_is hv (a := 135) (b := 307) (Or.inl ⟨by decide, by decide⟩) (by decide)
  -- what the class does, by what stands there
  have cls : (f_X7_change_41 N E1 E2 X pl P.1 1 = some p39 ∧ (X.i 43 = 61 ∨ X.i 43 = 135)) ∨ (f_X7_change_41 N E1 E2 X pl P.1 0 = some p39 ∧ ¬ X.i 43 = 61 ∧ ¬ X.i 43 = 135) := by
    by_cases c1 : X.i 43 = 61
    · rw [e_fnd1 c1, ob_some, if_neg n10] at e39
      exact Or.inl ⟨e39, Or.inl c1⟩
    · rw [e_fnd0 c1, ob_some, if_pos rfl, if_neg n10] at e39
      by_cases c2 : X.i 43 = 135
      · rw [e_fnd1 c2, ob_some, if_neg n10] at e39
        exact Or.inl ⟨e39, Or.inr c2⟩
      · rw [e_fnd0 c2, ob_some, if_pos rfl] at e39
        exact Or.inr ⟨e39, c1, c2⟩
  have f63 : ∀ Y : CS, f_X7_change_63 N E1 E2 Y pl = some p39 → ¬ p39.2.i 32 = 0 := fun Y h => by
    unfold f_X7_change_63 at h
    obtain ⟨f, ef, h⟩ := hf_bind h
    cases h
    exact y_fail (by decide) ef
  rcases z2 with ⟨y1, y2⟩ | ⟨y1, C, y2, y3, y4⟩
  · rw [if_neg y2] at hV
    cases hV
    refine Or.inl ⟨flt ?_, u_flt g y2⟩
    rcases cls with ⟨c, -⟩ | ⟨c, -, -⟩
    · unfold f_X7_change_41 at c
      rw [if_pos y1] at c
      exact f63 _ c
    · unfold f_X7_change_41 at c
      rw [if_pos y1] at c
      exact f63 _ c
  · rcases y4 with ⟨C0, Q2, kx, kx1, kx2, kx3, kx4⟩ | ⟨C1, Q15⟩
    · rw [Q2, if_pos q15] at hV
      rcases cls with ⟨c, ct⟩ | ⟨c, ct1, ct2⟩
      · unfold f_X7_change_41 at c
        rw [if_neg y1, if_neg n10, y2, ob_some, if_pos C0, y3] at c
        unfold f_X7_change_72 at c
        rw [if_neg n10] at c
        have go : f_X12_named_183 N q (q.i 63) Q.1 = some V := by
          rcases ct with ct | ct
          · have k := i61.mp ct
            rw [if_pos k, y_can1 q15 (by rw [k]; decide), ob_some, if_neg n10] at hV
            exact hV
          · have k := i307.mp ct
            rw [if_neg (show ¬ q.i 10 = 61 by rw [k]; decide), if_pos k, y_can1 q15 (by rw [k]; decide), ob_some, if_neg n10] at hV
            exact hV
        unfold f_X12_named_183 at go
        obtain ⟨y, hy, go⟩ := hf_bind go
        obtain ⟨n1, n2, n3, n4, n5, n6, n7, n8, n9, n10', n11⟩ := y_emit hv tq (by omega) hy
        by_cases c135 : X.i 43 = 135
        · have k := i307.mp c135
          rw [if_pos (show y.2.i 10 = 307 by rw [n11]; exact k)] at go
          unfold f_X12_named_207 at go
          obtain ⟨q2, hq2, go⟩ := hf_bind go
          rw [if_neg n10] at go
          obtain ⟨j, hj, go⟩ := hf_bind go
          obtain ⟨b, hb, go⟩ := hf_bind go
          rw [ob_id] at go
          obtain ⟨r, er, c⟩ := hf_bind c
          obtain ⟨v, ev, hr⟩ := e_skip1 c135 er
          rw [hr, if_neg n10] at c
          unfold f_X4_cellOf at c
          rw [ob_some] at c
          obtain ⟨x, ex, c⟩ := hf_bind c
          cases c
          obtain ⟨d1, d2, d3, d4, d5, d6, d7, d8, d9⟩ := y_nx hN n1 n2 (by rw [c135]; decide) ev hq2
          rcases y_tail hN d1 d2 t9 (by omega) ex e43 hj hb go with ⟨w1, w2⟩ | ⟨⟨w1, w2, w3, w4, w5, w6, w7, w8, w9, w10⟩, -, -, one⟩
          · exact Or.inl ⟨w1, u_flt g w2⟩
          · have l19 : (y.2.i 19).toInt ≤ (q2.i 19).toInt := by rw [d9]; exact Int.le_refl _
            have l11 : (y.2.i 11).toInt ≤ (q2.i 11).toInt := by omega
            rw [n8] at d6
            have hk8 := (nms_hi hv).2
            have n50 := hv.2.1.1
            obtain ⟨k1, k2, k3, k4, -, k6, -⟩ := adv_cd hN n1 (by rw [c135]; decide) ev hq2
            have y38 : y.2.i 38 = q.i 38 := n4.1.1.2.2.2.1
            have q38 : q2.i 38 = y.2.i 38 := d4.1.1.2.2.2.1
            have y40 : q2.a 40 kx = q.a 40 kx := ((d4.1.2.1 kx (by rw [y38]; exact kx2)).2.1).trans (n4.1.2.1 kx kx2).2.1
            have v48 := k1.2.2.2.2.1 kx (by rw [n50]; exact kx2)
            have cd := CDO.g <| one U (JGO U p43.2 V) (fun FC SF nm Xa c h w2 W g0 pq hc h6 ng ty hW x1 x2 x3 x4 x5 x6 tt => by
              obtain ⟨w, hw, hg⟩ := tt
              obtain ⟨a, b, y1, y2, y3⟩ := (ng.1 kx (by rw [q38, y38]; exact kx2)).1 (by rw [v48.2]; exact kx3)
              refine gi_UStor (pq.hc hc) pq.2.1 ⟨⟨a, b, ?_, ?_, y3⟩, Or.inr ⟨x1, x3, w, by omega, by rw [← x5, ← x6]; exact hg.1⟩⟩
              · rw [x2, gat_k kx1 (by omega)]
                exact y1
              · rw [x4, kx4, ← y40]
                exact y2)
            refine Or.inr ⟨n, V, g, ⟨w1, w2, ((n3 t).tr (d3 t)).tr (w3 t), (n4.tr d4).tr w4, d5.tr w5, by omega, by omega, ?_, by rw [w10, d9, n10']⟩, w6, y, hy, cd.pre k1 (by omega) (by omega) (by omega) (k2 _ _) k3 k4 k6 n1.2.1.1 q38 (fun j hj => (d4.1.2.1 j hj).2.1) l11 l19⟩
            rw [n9] at d8
            omega
        · have c61 := ct.resolve_right c135
          have k := i61.mp c61
          rw [if_neg (show ¬ y.2.i 10 = 307 by rw [n11, k]; decide)] at go
          unfold f_X12_named_207 at go
          obtain ⟨q2, hq2, go⟩ := hf_bind go
          rw [if_pos rfl] at go
          obtain ⟨-, go⟩ := hf_ite go
          rw [ob_id, tp_nat tq] at go
          rw [e_skip0 c135, ob_some] at c
          have c' : ((f_X9_advance N X).bind fun p22 => (f_X1_expression N E1 E2 p22.2).bind fun p26 => (f_X4_cellOf N p26.2 P.1).bind fun p30 => (f_X0_add N p30.2 2 p30.1).bind fun p34 => some ((), p34.2)) = some p39 := (if_pos rfl).symm.trans c
          obtain ⟨v, ev, c'⟩ := hf_bind c'
          obtain ⟨x, ex, c'⟩ := hf_bind c'
          unfold f_X4_cellOf at c'
          rw [ob_some] at c'
          obtain ⟨a, ea, c'⟩ := hf_bind c'
          cases c'
          obtain ⟨d1, d2, d3, d4, d5, d6, d7, d8, d9⟩ := y_nx hN n1 n2 (by rw [c61]; decide) ev hq2
          have s1 : ENV d v.2 (RS.setA q2 66 t Q.1) := setA_env (Or.inr (by omega)) d1
          have s2 : FRB t q2 (RS.setA q2 66 t Q.1) := setA_frb (Or.inr ⟨by omega, by omega, Nat.le_refl _⟩)
          have s3 : TBK q2 (RS.setA q2 66 t Q.1) := setA_tbk (by omega)
          have s64 : (RS.setA q2 66 t Q.1).a 64 t = 5 := (d3 (t + 1) t (by omega)).1.trans ((n3 (t + 1) t (by omega)).1.trans hk)
          rcases y_expr (q := RS.setA q2 66 t Q.1) hN hm1 hm2 hE s1 d2 (show 3 ≤ phI q2 by omega) ex go g with ⟨x1, x2⟩ | ⟨m2, u, g3, xo, xc⟩
          · refine Or.inl ⟨flt ?_, x2⟩
            show ¬ a.2.i 32 = 0
            rw [fst_add ea]
            exact x1
          · obtain ⟨w1, w2, ⟨f0, f1, f2, -⟩, w4, w5, w6, w7, w8, w9, w10⟩ := id xo
            obtain ⟨m3, V3, hV3, g4⟩ := rl_5 g3 w2 w1.1.2.1 (f0.trans s64)
            unfold f_X12_named at hV3
            obtain ⟨-, hV3⟩ := hf_ite hV3
            rw [tp_nat w2, if_neg (show ¬ u.a 65 t = 1 by rw [f1]; decide), if_pos f1] at hV3
            obtain ⟨j, hj, hV3⟩ := hf_bind hV3
            obtain ⟨b, hb, hV3⟩ := hf_bind hV3
            rw [ob_id] at hV3
            have w8' : phI q2 + 1 ≤ phI u := w8
            have w7' : (q2.i 11).toInt + 1 ≤ (u.i 11).toInt := w7
            rcases y_tail hN w1 w2 t9 (by omega) ea e43 hj hb hV3 with ⟨w1', w2'⟩ | ⟨tl, eun, -, -⟩
            · exact Or.inl ⟨w1', u_flt g4 w2'⟩
            · obtain ⟨x3, x4⟩ := xo.tl tl
              have l19 : (y.2.i 19).toInt ≤ (q2.i 19).toInt := by rw [d9]; exact Int.le_refl _
              have l11 : (y.2.i 11).toInt ≤ (q2.i 11).toInt := by omega
              have hk8 := (nms_hi hv).2
              have n50 := hv.2.1.1
              obtain ⟨k1, k2, k3, k4, -, k6, -⟩ := adv_cd hN n1 (by rw [c61]; decide) ev hq2
              have y38 : y.2.i 38 = q.i 38 := n4.1.1.2.2.2.1
              have q38 : q2.i 38 = y.2.i 38 := d4.1.1.2.2.2.1
              have y40 : q2.a 40 kx = q.a 40 kx := ((d4.1.2.1 kx (by rw [y38]; exact kx2)).2.1).trans (n4.1.2.1 kx kx2).2.1
              have v48 := k1.2.2.2.2.1 kx (by rw [n50]; exact kx2)
              have f66 : u.a 66 t = Q.1 := f2.trans setA_at
              have cdg : CDG (-1) (JGO U p43.2 V3) U X y.2 p43.2 V3 := by
                intro cr
                have z48 := (xc (cr.of k1 (by omega) (by omega))).1.2.2.2.2.1 kx (by rw [d1.2.1.1, q38, y38]; exact kx2)
                have eu := eun U v.2 (RS.setA q2 66 t Q.1) s1 xc w5 w10
                have cd : CDG 0 (JGO U p43.2 V3) U v.2 (RS.setA q2 66 t Q.1) p43.2 V3 := eu.cdg rfl rfl rfl rfl rfl rfl (fun FC SF nm Xa c h w2 W p q' hc h6 ty hW tt ng pq x1 x2 x3 x4 x5 x6 x7 => by
                  obtain ⟨w, hw, hg⟩ := tt
                  obtain ⟨a, b, y1, y2, y3⟩ := (ng.1 kx (show (kx : Int) < (q2.i 38).toInt by rw [q38, y38]; exact kx2)).1 (by rw [v48.2]; exact kx3)
                  have y2' : (q2.a 40 kx).toInt = (b : Int) := y2
                  refine gi_UStor (pq.hc (hc.up (Nat.le_succ _))) pq.2.1 ⟨⟨a, b, ?_, ?_, y3⟩, Or.inl ⟨x1, x3, h, rfl, w, by omega, by rw [x6, x7]; exact hg.1⟩⟩
                  · rw [x2, gat_k kx1 (by omega), z48.1]
                    exact y1
                  · rw [x4, f66, kx4, ← y40]
                    exact y2') (show (q2.i 11).toInt ≤ 900 from (i11_hi d1).2)
                exact (cd.pre (k' := -1) k1 (by omega) (by omega) (by omega) (k2 _ _) (fun c => (k3 c).tr (CD2.qe rfl)) k4 k6 n1.2.1.1 q38 (fun j hj => (d4.1.2.1 j hj).2.1) l11 l19) cr
              rw [n8] at d6
              rw [n9] at d8
              exact Or.inr ⟨m3, V3, g4, XO.pre (((n3 t).tr (d3 t)).tr s2) ((n4.tr d4).tr s3) d5 (show (q.i 11).toInt ≤ (q2.i 11).toInt by omega) (show phI q ≤ phI q2 by omega) (show (q.i 17).toInt ≤ (q2.i 17).toInt by omega) (show q2.i 19 = q.i 19 by rw [d9, n10']) x3, x4, y, hy, cdg⟩
      · have k1 : ¬ q.i 10 = 61 := fun z => ct1 (i61.mpr z)
        have k2 : ¬ q.i 10 = 307 := fun z => ct2 (i307.mpr z)
        rw [if_neg k1, if_neg k2] at hV
        obtain ⟨f, hf, hV⟩ := hf_bind hV
        obtain ⟨f1, f2⟩ := y_can0 hf
        rw [if_pos f1] at hV
        cases hV
        refine Or.inl ⟨flt ?_, u_flt g f2⟩
        unfold f_X7_change_41 at c
        rw [if_neg y1, if_pos rfl] at c
        unfold f_X7_change_72 at c
        rw [if_pos rfl] at c
        obtain ⟨x, ex, c⟩ := hf_bind c
        cases c
        exact y_misp ex
    · rw [if_neg Q15] at hV
      cases hV
      refine Or.inl ⟨flt ?_, u_flt g Q15⟩
      rcases cls with ⟨c, -⟩ | ⟨c, -, -⟩
      · unfold f_X7_change_41 at c
        rw [if_neg y1, if_neg n10, y2, ob_some, if_neg C1] at c
        exact f63 _ c
      · unfold f_X7_change_41 at c
        rw [if_neg y1, if_pos rfl] at c
        unfold f_X7_change_72 at c
        rw [if_pos rfl] at c
        obtain ⟨x, ex, c⟩ := hf_bind c
        cases c
        exact y_misp ex
