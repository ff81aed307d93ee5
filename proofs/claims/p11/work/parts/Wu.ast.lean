/-! both readers: assert -/
theorem y_ntx {N : Nat} (hN : 1000 ≤ N) {d : Int32} {S : CS} {s q : RS} {t : Nat} {w : Int32 × CS} {p : Unit × CS} (hv : ENV d S s) (ht : tpI s = t) (h21 : (S.i 21).toInt + 1 ≤ 3 * (s.i 11).toInt + 8) (h43 : ¬ S.i 43 = 0) (e0 : f_X0_newTarget N S = some w) (e : f_X9_advance N w.2 = some p) (hq : f_X12_next N s = some q) : ENV d p.2 q ∧ tpI q = t ∧ (∀ r : Nat, FRB r s q) ∧ TBK s q ∧ CKX S p.2 ∧ (s.i 11).toInt + 1 ≤ (q.i 11).toInt ∧ phI q = phI s + 3 ∧ (q.i 17).toInt = (s.i 17).toInt + 1 ∧ q.i 19 = s.i 19 := by
  obtain ⟨-, n43, n44, n22, n18, -⟩ := nt_i e0
  obtain ⟨vw, -, w21⟩ := hv.nt h21 e0
  obtain ⟨a1, a2, a3, a4, a5, a6, a7, a8, a9⟩ := y_nx hN vw ht (by rw [n43]; exact h43) e hq
  refine ⟨a1, a2, a3, a4, ?_, a6, a7, a8, a9⟩
  obtain ⟨-, -, b3, -, -, -, -, -, -, -⟩ := vw.adv hN (by rw [n43]; exact h43) e hq
  have p21 : (p.2.i 21).toInt = (S.i 21).toInt + 1 := by rw [pj_21 b3]; exact w21
  have p44 : (S.i 44).toInt + 1 ≤ (p.2.i 44).toInt := by rw [hv.1.2.2.2.1.1, a1.1.2.2.2.1.1]; exact a6
  exact CKX.nt e0 a5 (by omega)
theorem y_add {N : Nat} {d : Int32} {S : CS} {s : RS} {o x : Int32} {w : Unit × CS} (hv : ENV d S s) (e : f_X0_add N S o x = some w) : ENV d w.2 s ∧ CKX S w.2 ∧ w.2.i 43 = S.i 43 ∧ w.2.i 21 = S.i 21 := by
  have kw := kd_X0_add N S o x w e
  have kp := pj2_eq kw
  exact ⟨hv.kd kw, CKX.of kp.1 kp.2.2.2.2.1 kp.2.2.2.2.2.2.2.2.2.2.2, kp.2.2.2.2.2.2.2.1, pj_21 kp.1⟩
theorem y_aim {N : Nat} {d : Int32} {S : CS} {s : RS} {x : Int32} {w : Unit × CS} (hv : ENV d S s) (e : f_X0_aim N S x = some w) : ENV d w.2 s ∧ CKX S w.2 ∧ w.2.i 43 = S.i 43 ∧ w.2.i 21 = S.i 21 := by
  have kw := kd_X0_aim N S x w e
  have kp := pj2_eq kw
  exact ⟨hv.kd kw, CKX.of kp.1 kp.2.2.2.2.1 kp.2.2.2.2.2.2.2.2.2.2.2, kp.2.2.2.2.2.2.2.1, pj_21 kp.1⟩
/-- an instruction of the reference, seen from s -/
theorem y_emit {N : Nat} {d : Int32} {S : CS} {s : RS} {t : Nat} {o x : Int32} {y : Int32 × RS} (hv : ENV d S s) (ht : tpI s = t) (h1 : 1 ≤ phI s) (e : f_X12_emit N s o x = some y) : ENV d S y.2 ∧ tpI y.2 = t ∧ (∀ r : Nat, FRB r s y.2) ∧ TBK s y.2 ∧ phI y.2 = phI s - 1 ∧ y.1 = s.i 20 ∧ (y.2.i 20).toInt = (s.i 20).toInt + 1 ∧ y.2.i 11 = s.i 11 ∧ y.2.i 17 = s.i 17 ∧ y.2.i 19 = s.i 19 ∧ y.2.i 10 = s.i 10 := by
  obtain ⟨n1, n2, n3, n4, n5, n6⟩ := em_env hv h1 e
  obtain ⟨nq, y10, y11, -, -, -, -, y17, y19, -⟩ := qj2_eq n3
  exact ⟨n1, qj_63 nq ht, fun r => FRB.of nq, n2, n4, n5, n6, y11, y17, y19, y10⟩
theorem setA_tbk {s : RS} {k j : Nat} {v : Int32} (hk : 64 ≤ k ∧ k ≤ 73) : TBK s (RS.setA s k j v) := ⟨setA_tb0 (Or.inr hk), Int.le_refl _, fun m _ => congrFun (setA_nk (by omega)) m⟩
/-- a long word, and on -/
theorem adv5_cd {N : Nat} (hN : 1000 ≤ N) {d : Int32} {S : CS} {s : RS} {R : Unit × CS} {u : RS} (h : ENV d S s) (hz : ¬ S.i 43 = 0) (h5 : (S.i 43 = 208 ∨ S.i 43 = 209) ∨ S.i 43 = 217) (e : f_X9_advance N S = some R) (g : f_X12_next N s = some u) : CD1 (-5) (-5) S R.2 ∧ (∀ a b : Int, CT7 a b S R.2) ∧ (∀ c : Int, CD2 c s u) ∧ R.2.i 20 = S.i 20 ∧ R.2.i 21 = S.i 21 ∧ u.i 20 = s.i 20 := by
  obtain ⟨v, -, kp, -, q11, q20, -, -, -, -⟩ := h.adv hN hz e g
  have ke := ke_X9_advance N S R e
  have qe' := kre_f_X12_next N s u g
  obtain ⟨-, -, -, -, -, -, -, -, -, -, -, -, -, i50, -, -, -, -, -, -, a48, a49, -, -, -, -, -, i21, -⟩ := pj_eq kp
  have e1 := h.p44.1
  have e2 := v.p44.1
  have l5 := h.lb.1.1 h5
  obtain ⟨-, -, -, l12⟩ := y_adv hN h.1 e g
  have l : (S.i 44).toInt + 5 ≤ (R.2.i 44).toInt := by
    rw [h.1.2.2.2.1.2.1] at l5
    rw [e2]
    omega
  exact ⟨CD1.pe (b := 5) ke i21 i50 a48 a49 l, fun a b => CT7.eq (pe_eq ke).2.2.2.1, fun c => CD2.qe qe', (pe_eq ke).1, i21, q20⟩
/-- a value more, one instruction not paid -/
def CDM (U : RS) (S : CS) (s : RS) (R : CS) (u : RS) : Prop := CRB S → CD1 1 0 S R ∧ CT7 0 (S.i 21).toInt S R ∧ CD2 (s.i 20).toInt s u ∧ RNY 0 1 (fun _ => True) 0 U S s R u
theorem cdm_pre {U : RS} {S P R : CS} {s q u : RS} {a b : Int} (h : CDE 0 U P q R u) (a1 : CD1 a b S P) (ha : a ≤ 0) (hb : b ≤ 0) (t : CT7 0 (S.i 21).toInt S P) (y : ∀ c : Int, CD2 c s q) (pC : P.i 20 = S.i 20) (pR : q.i 20 = s.i 20) (n50 : S.i 50 = s.i 38) (e38 : q.i 38 = s.i 38) (a40 : ∀ j : Nat, (j : Int) < (s.i 38).toInt → q.a 40 j = s.a 40 j) (l11 : (s.i 11).toInt ≤ (q.i 11).toInt) (l19 : (s.i 19).toInt ≤ (q.i 19).toInt) : CDM U S s R u := by
  intro cr
  obtain ⟨b1, b2, b3, Ψ, sat, h⟩ := h (cr.of a1 ha hb)
  have pC' : pcC P = pcC S := by unfold pcC; rw [pC]
  have pR' : pcR q = pcR s := by unfold pcR; rw [pR]
  refine ⟨(a1.tr b1).wk (by omega) (by omega), t.tr (b2.wk (Int.le_refl _) a1.2.2.1), (y _).tr (b3.wk (by rw [pR]; exact Int.le_refl _)), Ψ, sat.wd (MNO.of a1 (y 0)) (MNO.of (CD1.rf R) (CD2.rf 0 u)), fun FC SF nm X c h' w W g0 ps fc fr ng hc hh ty hW hg last => ?_⟩
  have z := h FC SF nm X c h' w W g0 ps (fc.sub a1 (CD1.rf R) (CT7.rf _ _ R)) (fr.sub (y 0) (CD2.rf 0 u) (fun _ _ _ => ⟨rfl, rfl, rfl⟩)) (ng.mv n50 a1 (y 0) e38 a40 l19) hc (by omega) ty hW hg last
  rw [pC', pR'] at z
  exact z
theorem cdm_psh {N : Nat} {d : Int32} {S : CS} {s U v : RS} {r : Unit × CS} {w : Int32 × RS} (hv : ENV d S s) (h1 : 1 ≤ phI s) (ha : f_X0_add N S 0 0 = some r) (hw : f_X12_emit N s 2 0 = some w) (qv : qe v = qe w.2) : CDM U S s r.2 v := by
  intro cr
  have q44 := hv.p44
  have q44' : (S.i 44).toInt = (s.i 11).toInt := by rw [q44.1]
  have p20 := hv.p20
  have h6 := (i11_hi hv).2
  obtain ⟨d1, d2, ⟨d3, d3'⟩, d4, d5, d6⟩ := cd_add ha cr.1.1 (by have := cr.1.2; omega)
  obtain ⟨m1, m2, m3, m4, m5, m6⟩ := cd_emit hw p20.1 (by omega)
  have pS : ((pcC S : Nat) : Int) = (S.i 20).toInt := Int.toNat_of_nonneg cr.1.1
  have ps : ((pcR s : Nat) : Int) = (s.i 20).toInt := Int.toNat_of_nonneg p20.1
  have v20 : (v.i 20).toInt = (s.i 20).toInt + 1 := by rw [(qe_eq qv).1.1, m3]
  have pR : pcC r.2 = pcC S + 1 := by
    unfold pcC
    rw [d2]
    have := cr.1.1
    omega
  have pu : pcR v = pcR s + 1 := by
    unfold pcR
    rw [v20]
    have := p20.1
    omega
  obtain ⟨-, v21, v22, -⟩ := qe_eq qv
  refine ⟨d1, CT7.eq d4, m1.tr (CD2.qe qv), GPS.tt, SAT.tt _ _ _ _ (m1.tr (CD2.qe qv)).1.2.2.2.2.1, fun FC SF nm X c h w2 W g0 _ fc fr ng hc hh ty hW hg z => ?_⟩
  have f15 := fc.2.1 (pcC S) (by omega) (by omega)
  have u21 := fr.2.1 (pcR s) (by omega) (by omega)
  have fr1 : (v.i 20).toInt ≤ (U.i 20).toInt := fr.1.2.1
  rw [pR, pu] at z
  rw [pR, show w2 + (pcC S + 1 - pcC S) = w2 + 1 by omega]
  exact gs_push (g' := 0) ⟨by have := cr.1.2; omega, by omega, fr.1.2.2⟩ hc (by rw [f15.1]; exact d3) (by rw [u21.1, v21]; exact m4) (by rw [f15.2, u21.2.1, v22, d3']; exact m5.symm) (by omega) (Or.inl rfl) z
/-- the end of an assert: RAISE, and both jumps land behind it -/
def AST (x1 : Int32) (j6 j7 : Nat) (S : CS) (u : RS) (R : CS) (V : RS) : Prop := (CRB S → 0 ≤ x1.toInt → x1.toInt < 1024 → CD1 0 (-1) S R ∧ (∀ k : Nat, ¬ (k : Int) = x1.toInt → R.a 17 k = S.a 17 k) ∧ (cTg R x1).toInt = (S.i 20).toInt + 1 ∧ (R.i 20).toInt = (S.i 20).toInt + 1 ∧ (R.a 15 (pcC S) = 63 ∧ R.a 16 (pcC S) = 3) ∧ R.i 21 = S.i 21) ∧ ((j6 : Int) < (u.i 20).toInt → (j7 : Int) < (u.i 20).toInt → (∀ c : Int, c ≤ (j6 : Int) → c ≤ (j7 : Int) → c ≤ (u.i 20).toInt → CD2 c u V) ∧ (V.i 20).toInt = (u.i 20).toInt + 1 ∧ (V.a 21 (pcR u) = 19 ∧ V.a 22 (pcR u) = 3) ∧ (∀ j : Nat, (j : Int) < (u.i 20).toInt → V.a 21 j = u.a 21 j ∧ V.a 23 j = u.a 23 j ∧ (¬ j = j6 → ¬ j = j7 → V.a 22 j = u.a 22 j)) ∧ V.a 22 j6 = V.i 20 ∧ V.a 22 j7 = V.i 20)
/-- behind the condition of an assert: the last steps -/
theorem y_ast2 {N : Nat} (hN : 1000 ≤ N) {E1 : CS → Option (Unit × CS)} {E2 : CS → Option (Int32 × CS)} {d : Int32} {S : CS} {u V : RS} {t : Nat} {x1 : Int32} {c0 : Int} {R : Unit × CS} (hv : ENV d S u) (ht : tpI u = t) (t9 : t < 1000) (h1 : 1 ≤ phI u) (h65 : u.a 65 t = 2) (h66 : 0 ≤ c0 ∧ c0 ≤ (u.a 66 t).toInt ∧ c0 ≤ (u.a 67 t).toInt) (h20 : c0 ≤ (u.i 20).toInt) (e : f_X7_claim_74 N E1 E2 S x1 = some R) (hV : f_X12_asserted N u (u.i 63) = some V) : (¬ R.2.i 32 = 0 ∧ ¬ V.i 15 = 0) ∨ (ENV d R.2 V ∧ tpI V = (t : Int) - 1 ∧ FRB t u V ∧ TBZ u V ∧ CDK c0 u V ∧ CKX S R.2 ∧ V.i 75 = 1 ∧ (u.i 11).toInt + 1 ≤ (V.i 11).toInt ∧ phI u + 2 ≤ phI V ∧ (u.i 17).toInt + 1 ≤ (V.i 17).toInt ∧ V.i 19 = u.i 19 ∧ R.2.i 36 = S.i 36 ∧ AST x1 (u.a 66 t).toNatClampNeg (u.a 67 t).toNatClampNeg S u R.2 V) := by
  unfold f_X7_claim_74 at e
  obtain ⟨p1, e1, e⟩ := hf_bind e
  obtain ⟨p2, e2, e⟩ := hf_bind e
  obtain ⟨p3, e3, e⟩ := hf_bind e
  cases e
  unfold f_X12_asserted at hV
  obtain ⟨-, hV⟩ := hf_ite hV
  rw [tp_nat ht, if_neg (show ¬ u.a 65 t = 0 by rw [h65]; decide), if_neg (show ¬ u.a 65 t = 1 by rw [h65]; decide)] at hV
  obtain ⟨y, hy, hV⟩ := hf_bind hV
  obtain ⟨i1, hV⟩ := hf_ite hV
  obtain ⟨i2, hV⟩ := hf_ite hV
  obtain ⟨b, hb, hV⟩ := hf_bind hV
  rw [ob_id] at hV
  obtain ⟨n1, n2, n3, n4, n5, n6, n7, n8, n9, n10', -⟩ := y_emit hv ht h1 hy
  obtain ⟨a1, c1, -, -⟩ := y_add n1 e1
  obtain ⟨a2, c2, -, -⟩ := y_aim a1 e2
  have f66 := (n3 (t + 1) t (by omega)).2.2.1
  have f67 := (n3 (t + 1) t (by omega)).2.2.2.1
  have k66 := clampI i1.1
  have k67 := clampI i2.1
  rw [f66] at k66
  rw [f67] at k67
  obtain ⟨z, hz⟩ : ∃ z, z = RS.setA (RS.setA y.2 22 (((y.2.a 66 t) : Int32).toNatClampNeg) (y.2.i 20)) 22 (((y.2.a 67 t) : Int32).toNatClampNeg) (y.2.i 20) := ⟨_, rfl⟩
  rw [← hz] at hb
  have ez : ENV d p2.2 z := by rw [hz]; exact setA_env (Or.inl rfl) (setA_env (Or.inl rfl) a2)
  have fz : ∀ r : Nat, FRB r y.2 z := fun r => by rw [hz]; exact (setA_frb (Or.inl rfl)).tr (setA_frb (Or.inl rfl))
  have kz : TBZ y.2 z := by rw [hz]; exact (setA_tb0 (Or.inl rfl)).tr (setA_tb0 (Or.inl rfl))
  have iz : z.i = y.2.i := by rw [hz]; rfl
  have cz : CDK c0 y.2 z := by
    refine ⟨by rw [iz]; exact Int.le_refl _, fun j hj => ?_⟩
    rw [hz]
    rw [f66, f67]
    exact (setA_ne (by omega)).trans (setA_ne (by omega))
  have za0 : ∀ k : Nat, ¬ k = 22 → z.a k = y.2.a k := fun k hk => by
    rw [hz]
    exact (setA_nk hk).trans (setA_nk hk)
  have z220 : ∀ j : Nat, ¬ j = (u.a 66 t).toNatClampNeg → ¬ j = (u.a 67 t).toNatClampNeg → z.a 22 j = y.2.a 22 j := fun j h6 h7 => by
    rw [hz, f66, f67]
    exact (setA_ne h7).trans (setA_ne h6)
  have z227 : z.a 22 (u.a 67 t).toNatClampNeg = y.2.i 20 := by
    rw [hz, f66, f67]
    exact setA_at
  have z226 : z.a 22 (u.a 66 t).toNatClampNeg = y.2.i 20 := by
    rw [hz, f66, f67]
    by_cases c : (u.a 66 t).toNatClampNeg = (u.a 67 t).toNatClampNeg
    · rw [c]
      exact setA_at
    · exact (setA_ne c).trans setA_at
  clear hz
  have tz : tpI z = t := by
    show (z.i 63).toInt = (t : Int)
    rw [iz]
    exact n2
  rcases y_need hN ez (c := 59) (d := 59) (Or.inl ⟨by decide, by decide⟩) (by decide) (by decide) (by decide) e3 hb with ⟨o1, o2, o3⟩ | ⟨o1, o2, o3, o4, o5, o6, o7, o8, o9, o10, o11, o12⟩
  · exact Or.inl ⟨o2, krf_f_X12_over N b.2 1 V hV o3⟩
  · obtain ⟨v1, v2, v3, v4, v5, v6, v7, v8, v9, v10⟩ := y_over o3 (qj_63 o4 tz) t9 hV
    have t17 : (b.2.i 17).toInt = (u.i 17).toInt + 1 := by rw [o6, t17_up (N := N) ez, iz, n9]
    have pz : phI z = phI y.2 := by unfold phI; rw [iz]
    have pb : phI b.2 = phI z + 3 := by
      unfold phI
      rw [o8, o6, t17_up (N := N) ez]
      omega
    have ast : AST x1 (u.a 66 t).toNatClampNeg (u.a 67 t).toNatClampNeg S u p3.2 V := by
      obtain ⟨j1, j2, j3, j4, j5, j6⟩ := tok_cd ez o3 o5 (ke_X1_expect N p2.2 59 p3 e3) (kre_f_X12_need N z 59 b hb) o7
      have ke := pe_eq (ke_X1_expect N p2.2 59 p3 e3)
      have p20 := hv.p20
      have h6 := (i11_hi hv).2
      have q44 := hv.p44
      have q44' : (S.i 44).toInt = (u.i 11).toInt := by rw [q44.1]
      refine ⟨fun cr x0 x9 => ?_, fun l6 l7 => ?_⟩
      · obtain ⟨d1, d2, ⟨d3, d3'⟩, d4, d5, d6⟩ := cd_add e1 cr.1.1 (by have := cr.1.2; omega)
        obtain ⟨g1, g2, g3, g4, g5, g6, g7, g8⟩ := cd_aim e2 x0 x9
        refine ⟨((d1.tr g1).tr j1).wk (by omega) (by omega), fun k hk => ?_, ?_, ?_, ⟨?_, ?_⟩, ?_⟩
        · rw [ke.2.2.2.1, g2 k hk, d4]
        · unfold cTg
          rw [ke.2.2.2.1]
          have z : (gAt (p2.2.a 17) 1024 x1) = p1.2.i 20 := g3
          rw [z, d2]
        · rw [j4, g6, d2]
        · rw [ke.2.1, g4]
          exact d3
        · rw [ke.2.2.1, g5]
          exact d3'
        · rw [j5, g7, d5]
      · obtain ⟨m1, m2, m3, m4, m5, m6⟩ := cd_emit hy p20.1 (by omega)
        have qV := kre_f_X12_over N b.2 1 V hV
        have qb := kre_f_X12_need N z 59 b hb
        obtain ⟨-, v21, v22, v23, -⟩ := qe_eq qV
        obtain ⟨-, b21, b22, b23, -⟩ := qe_eq qb
        have pu : ((pcR u : Nat) : Int) = (u.i 20).toInt := Int.toNat_of_nonneg p20.1
        have V20 : V.i 20 = y.2.i 20 := by rw [(qe_eq qV).1.1, j6, iz]
        have za : ∀ k : Nat, ¬ k = 22 → z.a k = y.2.a k := za0
        have z22 : ∀ j : Nat, ¬ j = (u.a 66 t).toNatClampNeg → ¬ j = (u.a 67 t).toNatClampNeg → z.a 22 j = y.2.a 22 j := z220
        refine ⟨fun c c6 c7 cu => ((m1.wk cu).tr ⟨⟨by rw [iz]; exact Int.le_refl _, by rw [iz]; exact Int.le_refl _, by rw [iz]; exact Int.le_refl _, by rw [iz]; exact Int.le_refl _, SLC.eq (by rw [iz]) (by rw [iz]; exact Int.le_refl _), by rw [iz]⟩, fun j hj => ⟨by rw [za 21 (by decide)], z22 j (by omega) (by omega), by rw [za 23 (by decide)]⟩, fun j _ => ⟨by rw [za 25 (by decide)], by rw [za 26 (by decide)], by rw [za 27 (by decide)], by rw [za 28 (by decide)]⟩, fun j _ => ⟨by rw [za 30 (by decide)], by rw [za 31 (by decide)], by rw [za 32 (by decide)]⟩, fun j _ => ⟨by rw [za 34 (by decide)], by rw [za 35 (by decide)], by rw [za 36 (by decide)], by rw [za 37 (by decide)]⟩⟩).tr ((j3 c).tr (CD2.qe qV)), by rw [V20, m3], ⟨?_, ?_⟩, fun j hj => ⟨?_, ?_, fun n6 n7 => ?_⟩, ?_, ?_⟩
        · rw [v21, b21, za 21 (by decide)]
          exact m4
        · rw [v22, b22, z22 _ (by omega) (by omega)]
          exact m5
        · rw [v21, b21, za 21 (by decide)]
          exact (m1.2.1 j hj).1
        · rw [v23, b23, za 23 (by decide)]
          exact (m1.2.1 j hj).2.2
        · rw [v22, b22, z22 j n6 n7]
          exact (m1.2.1 j hj).2.1
        · rw [v22, b22, V20]
          exact z226
        · rw [v22, b22, V20]
          exact z227
    rw [iz, n8] at o7
    have ck : CKX S p3.2 := (c1.tr c2).tr (CKX.of o5 o10 o11)
    have b20 : (b.2.i 20).toInt = (u.i 20).toInt + 1 := by rw [o8, iz, n7]
    exact Or.inr ⟨v1, v2, (((n3 t).tr (fz t)).tr (FRB.of o4)).tr (v3 t), ((n4.1.tr kz).tr (TBZ.of o4)).tr v4.1, (((n4.2.wk h20).tr cz).tr ⟨by rw [o8]; exact Int.le_refl _, fun j _ => by rw [o9]⟩).tr (v4.2.wk (by omega)), ck, v5, by rw [v8]; exact o7, by omega, by rw [v9]; omega, by rw [v10, o12, iz, n10'], ck.1.2.1, ast⟩
/-- all of an assert -/
theorem cdg_ast {N : Nat} (hN : 1000 ≤ N) {d : Int32} {S : CS} {s q z u k v V U : RS} {w0 : Int32 × CS} {p5 p9 p17 p21 : Unit × CS} {P X R : CS} {y j : Int32 × RS} (hv : ENV d S s) (h43 : S.i 43 = 217) (e0 : f_X0_newTarget N S = some w0) (vw : ENV d w0.2 s) (w43 : w0.2.i 43 = S.i 43) (e5 : f_X9_advance N w0.2 = some p5) (hq : f_X12_next N s = some q) (a1 : ENV d p5.2 q) (pq1 : 1 ≤ phI q) (e9 : f_X0_add N p5.2 35 w0.1 = some p9) (hy : f_X12_emit N q 22 0 = some y) (qz : qe z = qe y.2) (xc : CDE 2 U p9.2 z P u) (eu : ENV d P u) (u1 : 1 ≤ phI u) (e17 : f_X0_add N P 5 0 = some p17) (e21 : f_X0_add N p17.2 31 w0.1 = some p21) (hj : f_X12_emit N u 14 0 = some j) (qk : qe k = qe j.2) (ek : ENV d p21.2 k) (mid : CDM U p21.2 k X v) (evX : ENV d X v) (ast : AST w0.1 y.1.toNatClampNeg j.1.toNatClampNeg X v R V) (tz : TBK s z) (tk : TBK s k) (z11 : (s.i 11).toInt ≤ (z.i 11).toInt) (k11 : (s.i 11).toInt ≤ (k.i 11).toInt) (z19 : z.i 19 = s.i 19) (k19 : k.i 19 = s.i 19) : CDG (-1) (fun FC SF nm X c h w2 => JGO U R V FC SF nm X c h w2 ∧ JK3 U s FC SF nm X c h w2) U S s R V := by
  intro cr
  have hi := (i11_hi hv).2
  have q44 := hv.p44
  have q44' : (S.i 44).toInt = (s.i 11).toInt := by rw [q44.1]
  have hi5 := (i11_hi a1).2
  have c44 : (p5.2.i 44).toInt = (q.i 11).toInt := by rw [a1.p44.1]
  have hiu := (i11_hi eu).2
  have u44 : (P.i 44).toInt = (u.i 11).toInt := by rw [eu.p44.1]
  -- the class
  obtain ⟨n1, n2, n3, n4, n5, n6, n7, n8⟩ := cd_nt e0 cr.2.1 (by have := cr.2.2; omega)
  obtain ⟨b1, b2, b3, b4, b5, b6⟩ := adv5_cd hN vw (by rw [w43, h43]; decide) (Or.inr (w43.trans h43)) e5 hq
  have cS5 : CD1 (-5) (-4) S p5.2 := (n1.tr b1).wk (by omega) (by omega)
  have cr5 : CRB p5.2 := cr.of cS5 (by omega) (by omega)
  obtain ⟨d1, d2, ⟨d3, d3'⟩, d4, d5, d6⟩ := cd_add e9 cr5.1.1 (by have := cr5.1.2; omega)
  have cS9 : CD1 (-4) (-4) S p9.2 := (cS5.tr d1).wk (by omega) (by omega)
  have cr9 : CRB p9.2 := cr.of cS9 (by omega) (by omega)
  obtain ⟨f1, f2, f3, Ψ1, sat1, r1⟩ := xc cr9
  have cSP : CD1 (-4) (-5) S P := (cS9.tr f1).wk (by omega) (by omega)
  have crP : CRB P := cr.of cSP (by omega) (by omega)
  obtain ⟨g1, g2, ⟨g3, g3'⟩, g4, g5, g6⟩ := cd_add e17 crP.1.1 (by have := crP.1.2; omega)
  obtain ⟨i1, i2, ⟨i3, i3'⟩, i4, i5, i6⟩ := cd_add e21 (by rw [g2]; have := crP.1.1; omega) (by rw [g2]; have := crP.1.2; omega)
  have cP21 : CD1 2 0 P p21.2 := (g1.tr i1).wk (by omega) (by omega)
  have cS21 : CD1 (-2) (-5) S p21.2 := (cSP.tr cP21).wk (by omega) (by omega)
  have cr21 : CRB p21.2 := cr.of cS21 (by omega) (by omega)
  obtain ⟨m1, m2, m3, Ψ2, sat2, r2⟩ := mid cr21
  have cSX : CD1 (-1) (-5) S X := (cS21.tr m1).wk (by omega) (by omega)
  have crX : CRB X := cr.of cSX (by omega) (by omega)
  have x0 : w0.1.toInt = (S.i 21).toInt := by rw [n2]
  obtain ⟨⟨k1, k2, k3, k4, ⟨k5, k5'⟩, k6⟩, k7⟩ := (⟨ast.1 crX (by have := cr.2.1; omega) (by have := cr.2.2; omega), ast.2⟩ : _ ∧ _)
  have l21 : (w0.2.i 21).toInt = (p5.2.i 21).toInt := by rw [b5]
  have l59 : (p9.2.i 21).toInt = (p5.2.i 21).toInt := by rw [d5]
  have l9P := f1.2.2.1
  have lP21 : (p21.2.i 21).toInt = (P.i 21).toInt := by rw [i5, g5]
  have l21X := m1.2.2.1
  -- the reference
  have q20 := a1.p20
  have pj := eu.p20
  obtain ⟨s1, s2, s3, s4, s5, s6⟩ := cd_emit hy q20.1 (by omega)
  obtain ⟨t1, t2, t3, t4, t5, t6⟩ := cd_emit hj pj.1 (by omega)
  have z20 : (z.i 20).toInt = (s.i 20).toInt + 1 := by rw [(qe_eq qz).1.1, s3, b6]
  have k20 : (k.i 20).toInt = (u.i 20).toInt + 1 := by rw [(qe_eq qk).1.1, t3]
  have y1 : y.1.toNatClampNeg = pcR s := by rw [s2, b6]; rfl
  have j1 : j.1.toNatClampNeg = pcR u := by rw [t2]; rfl
  have s20 := hv.p20
  have ps : ((pcR s : Nat) : Int) = (s.i 20).toInt := Int.toNat_of_nonneg s20.1
  have pu : ((pcR u : Nat) : Int) = (u.i 20).toInt := Int.toNat_of_nonneg pj.1
  have lzu := f3.1.1
  have lkv := m3.1.1
  rw [y1, j1] at k7
  obtain ⟨v1, v2, ⟨v3, v3'⟩, v4, v5, v6⟩ := k7 (by omega) (by omega)
  have csz : CD2 (s.i 20).toInt s z := ((b3 _).tr (s1.wk (by rw [b6]; exact Int.le_refl _))).tr (CD2.qe qz)
  have cuk : CD2 (u.i 20).toInt u k := t1.tr (CD2.qe qk)
  have csu : CD2 (s.i 20).toInt s u := csz.tr (f3.wk (by omega))
  have csk : CD2 (s.i 20).toInt s k := csu.tr (cuk.wk (by omega))
  have csv : CD2 (s.i 20).toInt s v := csk.tr (m3.wk (by omega))
  have cvV : CD2 (s.i 20).toInt v V := v1 _ (by omega) (by omega) (by omega)
  have ckV : CD2 0 k V := (m3.wk (by omega)).tr (cvV.wk (by omega))
  have cuV : CD2 0 u V := (cuk.wk (by omega)).tr ckV
  have ct : ∀ a b : Int, (S.i 21).toInt < a → CT7 a b X R := fun a b ha kk h1 h2 => k2 kk (by omega)
  refine ⟨(cSX.tr k1).wk (by omega) (by omega), ?_, csv.tr cvV, GPS.an Ψ1 Ψ2, ?_, ?_⟩
  · have c1 : CT7 0 (S.i 21).toInt S p9.2 := ((n4 0).tr (b2 _ _)).tr (CT7.eq d4)
    have c2 : CT7 0 (S.i 21).toInt p9.2 P := f2.wk (Int.le_refl _) (by omega)
    have c3 : CT7 0 (S.i 21).toInt P p21.2 := (CT7.eq g4).tr (CT7.eq i4)
    have c4 : CT7 0 (S.i 21).toInt p21.2 X := m2.wk (Int.le_refl _) (by omega)
    exact (((c1.tr c2).tr c3).tr c4).tr (fun kk _ h2 => k2 kk (by omega))
  · have cuv0 : CD2 0 u v := (cuk.wk (by omega)).tr (m3.wk (by omega))
    exact (SAT.an sat1 (sat2.wd (MNO.of cP21 cuk) (MNO.of (CD1.rf X) (CD2.rf 0 v))) (MNO.of f1 f3) (MNO.of (cP21.tr m1) cuv0)).wd (MNO.of cS9 csz) (MNO.of k1 cvV)
  intro FC SF nm X' c h w2 W g0 ps' fc fr ng hc hh ty hW tt
  obtain ⟨⟨w, hw, hg⟩, tk3, tk4⟩ := tt
  have pcS : ((pcC S : Nat) : Int) = (S.i 20).toInt := Int.toNat_of_nonneg cr.1.1
  have pcP : ((pcC P : Nat) : Int) = (P.i 20).toInt := Int.toNat_of_nonneg crP.1.1
  have pcX : ((pcC X : Nat) : Int) = (X.i 20).toInt := Int.toNat_of_nonneg crX.1.1
  have p9C : pcC p9.2 = pcC S + 1 := by
    unfold pcC
    rw [d2, b4, n7]
    have := cr.1.1
    omega
  have p21C : pcC p21.2 = pcC P + 2 := by
    unfold pcC
    rw [i2, g2]
    have := crP.1.1
    omega
  have RC : pcC R = pcC X + 1 := by
    unfold pcC
    rw [k4]
    have := crX.1.1
    omega
  have zC : pcR z = pcR s + 1 := by
    unfold pcR
    rw [z20]
    have := s20.1
    omega
  have kC : pcR k = pcR u + 1 := by
    unfold pcR
    rw [k20]
    have := pj.1
    omega
  have VC : pcR V = pcR v + 1 := by
    unfold pcR
    rw [v2]
    have := evX.p20.1
    omega
  have pv : ((pcR v : Nat) : Int) = (v.i 20).toInt := Int.toNat_of_nonneg evX.p20.1
  have lSP := f1.1.1
  have l2X := m1.1.1
  have l9 : (p9.2.i 20).toInt = (S.i 20).toInt + 1 := by rw [d2, b4, n7]
  have l21' : (p21.2.i 20).toInt = (P.i 20).toInt + 2 := by rw [i2, g2]; omega
  -- the code at the end
  have aS := fc.2.1 (pcC S) (by omega) (by rw [k4]; omega)
  have aP := fc.2.1 (pcC P) (by omega) (by rw [k4]; omega)
  have aP1 := fc.2.1 (pcC P + 1) (by omega) (by rw [k4]; omega)
  have aX := fc.2.1 (pcC X) (by omega) (by rw [k4]; omega)
  have cPR : CD1 3 (-1) P R := ((cP21.tr m1).tr k1).wk (by omega) (by omega)
  have ib0 : ib w0.1 1024 := ⟨by have := cr.2.1; omega, by have := cr.2.2; omega⟩
  have gA : ∀ A : Nat → Int32, gAt A 1024 w0.1 = A w0.1.toNatClampNeg := fun A => by
    unfold gAt
    rw [if_pos ib0]
  have ck := clampI ib0.1
  have kR : (R.a 17 w0.1.toNatClampNeg).toInt = (X.i 20).toInt + 1 := by
    have z := k3
    unfold cTg at z
    rw [gA] at z
    exact z
  have tg : (cTg SF w0.1).toInt = ((pcC R : Nat) : Int) := by
    unfold cTg
    rw [gA, fc.2.2 _ (by omega) (by rw [k6]; omega) (Or.inl (by rw [kR]; omega)), kR]
    omega
  have p5C : pcC p5.2 = pcC S := by
    unfold pcC
    rw [b4, n7]
  have p17C : pcC p17.2 = pcC P + 1 := by
    unfold pcC
    rw [g2]
    have := crP.1.1
    omega
  have qC : pcR q = pcR s := by
    unfold pcR
    rw [b6]
  rw [p5C] at d3 d3'
  rw [p17C] at i3 i3'
  rw [qC] at s4 s5
  have x9 := ((f1.tr cPR).2.1 (pcC S) (by omega))
  have x17 := (((i1.tr m1).tr k1).2.1 (pcC P) (by rw [g2]; omega))
  have x21 := ((m1.tr k1).2.1 (pcC P + 1) (by omega))
  have fr1 : (V.i 20).toInt ≤ (U.i 20).toInt := fr.1.2.1
  have cuv : CD2 (u.i 20).toInt u v := cuk.tr (m3.wk (by omega))
  have czv : CD2 (z.i 20).toInt z v := f3.tr (cuv.wk (by omega))
  have uS := fr.2.1 (pcR s) (by omega) (by omega)
  have uP := fr.2.1 (pcR u) (by omega) (by omega)
  have uX := fr.2.1 (pcR v) (by omega) (by omega)
  have VI : (V.i 20).toInt = ((pcR V : Nat) : Int) := by omega
  have o1 : U.a 21 (pcR s) = 22 := by rw [uS.1, (v4 _ (by omega)).1, (czv.2.1 (pcR s) (by omega)).1, (qe_eq qz).2.1]; exact s4
  have o2 : U.a 21 (pcR u) = 14 := by rw [uP.1, (v4 _ (by omega)).1, (m3.2.1 (pcR u) (by omega)).1, (qe_eq qk).2.1]; exact t4
  have fcP : FGC p9.2 P SF := fc.sub cS9 cPR (fun kk h1 h2 => by
    rw [k2 kk (by omega), m2 kk (by omega) (by omega), i4, g4])
  have fcX : FGC p21.2 X SF := fc.sub cS21 k1 (fun kk h1 h2 => k2 kk (by omega))
  have frz : FGR z u U := fr.sub csz cuV (fun jj h1 h2 => by
    have a := v4 jj (by omega)
    have b := cuv.2.1 jj h2
    exact ⟨a.1.trans b.1, (a.2.2 (by omega) (by omega)).trans b.2.1, a.2.1.trans b.2.2⟩)
  have frk : FGR k v U := fr.sub csk cvV (fun jj h1 h2 => by
    have a := v4 jj h2
    exact ⟨a.1, a.2.2 (by omega) (by omega), a.2.1⟩)
  have n50 := hv.2.1.1
  have ngz : NMG nm c p9.2 z := ng.mv n50 cS9 csz tz.1.1.2.2.2.1 (fun jj hjj => (tz.1.2.1 jj hjj).2.1) (by rw [z19]; exact Int.le_refl _)
  have ngk : NMG nm c p21.2 k := ng.mv n50 cS21 csk tk.1.1.2.2.2.1 (fun jj hjj => (tk.1.2.1 jj hjj).2.1) (by rw [k19]; exact Int.le_refl _)
  have bX : (X.i 20).toInt < 1200 := by
    have := fc.1.2
    rw [k4] at this
    omega
  have zX : GU FC SF U nm X' (pcC X) (pcR v) (h + 1) (w2 + 1) 0 c := by
    have pq : PQX SF U (pcC X) (pcR v) := ⟨by omega, by omega, fr.1.2.2⟩
    have e3 : (3 : Int32).toInt = 3 := by decide
    refine gi_URai (pq.hc (hc.up (Nat.le_succ _))) pq.2.1 ⟨h, w2 - 1, rfl, by omega, hc.2.2.2, ty.up (by omega), ?_, ?_, ?_, ?_, ?_⟩
    · rw [aX.1]
      exact k5
    · rw [uX.1]
      exact v3
    · rw [aX.2, uX.2.1, k5', v3']
    · rw [aX.2, k5', e3]
      omega
    · rw [aX.2, k5', e3]
      omega
  have z21 := r2 FC SF nm X' c h (w2 + 1) W 0 ps'.2 fcX frk ngk hc (by omega) ty (by omega) True.intro zX
  rw [p21C, kC] at z21
  have zP : GU FC SF U nm X' (pcC P) (pcR u) (h + 1) (w2 + 1 + (pcC X - (pcC P + 2)) + 2) 2 c := by
    have pq : PQX SF U (pcC P) (pcR u) := ⟨by omega, by omega, fr.1.2.2⟩
    refine gi_UJnf (pq.hc (hc.up (Nat.le_succ _))) pq.2.1 ⟨⟨?_, ?_, o2, by omega⟩, rfl, h, rfl, ⟨pcC R, pcR V, w, ⟨?_, ?_⟩, by omega, hg.1⟩, ⟨_, Nat.le_refl _, z21⟩⟩
    · rw [aP.1, x17.1]
      exact g3
    · rw [aP1.1, x21.1]
      exact i3
    · rw [aP1.2, x21.2, i3']
      exact tg
    · rw [uP.2.1, v6]
      exact VI
  have z9 := r1 FC SF nm X' c h (w2 + 1 + (pcC X - (pcC P + 2)) + 2) W 0 ps'.1 fcP frz ngz hc (by omega) ty (by omega) True.intro zP
  rw [p9C, zC] at z9
  have pq : PQX SF U (pcC S) (pcR s) := ⟨by omega, by omega, fr.1.2.2⟩
  rw [RC, show w2 + (pcC X + 1 - pcC S) = w2 + 1 + (pcC X - (pcC P + 2)) + 2 + (pcC P - (pcC S + 1)) + 1 by omega]
  refine gi_UAsr (pq.hc hc) pq.2.1 ⟨?_, o1, ⟨pcC R, pcR V, w, ⟨?_, ?_⟩, by omega, hg.1⟩, ⟨_, Nat.le_refl _, z9⟩⟩
  · rw [aS.1, x9.1]
    exact d3
  · rw [aS.2, x9.2, d3']
    exact tg
  · rw [uS.2.1, v5]
    exact VI
set_option maxHeartbeats 4000000 in
theorem sx_assert {N : Nat} (hN : 1000 ≤ N) {E1 : CS → Option (Unit × CS)} {E2 : CS → Option (Int32 × CS)} (hm1 : ∀ σ, Kf (CS.i σ 32) (E1 σ)) (hm2 : ∀ σ, Kf (CS.i σ 32) (E2 σ)) (hE : SXR N 18 E1) (hE2 : SXN N 22 E2) : SXK N 8 217 (fun S s => (S.i 21).toInt ≤ 3 * (s.i 11).toInt) (f_X7_claim N E1 E2) (fun U S s R u => R.i 36 = 1 ∧ CDG (-1) (fun FC SF nm X c h w2 => JGO U R u FC SF nm X c h w2 ∧ JK3 U s FC SF nm X c h w2) U S s R u) := by
  intro d S s U n t R hv h21 h36 ht hk hs h2 h43 e g
  obtain ⟨m, V, hV, g2⟩ := rl_8 g ht hv.1.2.1 hk
  unfold f_X12_asserted at hV
  obtain ⟨hib, hV⟩ := hf_ite hV
  have t9 : t < 1000 := by
    have h2 : (s.i 63).toInt = (t : Int) := ht
    have := hib.2
    omega
  rw [tp_nat ht, if_pos hs] at hV
  obtain ⟨q, hq, hV⟩ := hf_bind hV
  obtain ⟨y, hy, hV⟩ := hf_bind hV
  rw [ob_id] at hV
  unfold f_X7_claim at e
  obtain ⟨w0, e0, e⟩ := hf_bind e
  obtain ⟨p5, e5, e⟩ := hf_bind e
  obtain ⟨p9, e9, e⟩ := hf_bind e
  obtain ⟨p13, e13, e⟩ := hf_bind e
  obtain ⟨p17, e17, e⟩ := hf_bind e
  obtain ⟨p21, e21, e⟩ := hf_bind e
  obtain ⟨p25, e25, e⟩ := hf_bind e
  obtain ⟨a1, tq, fq, kq, cq, l11, pq, q17, q19⟩ := y_ntx hN hv ht (by omega) (by rw [h43]; decide) e0 e5 hq
  obtain ⟨b1, c1, -, -⟩ := y_add a1 e9
  obtain ⟨n1, n2, n3, n4, n5, n6, n7, n8, n9, n10', -⟩ := y_emit b1 tq (by omega) hy
  have s20 := hv.2.2.2.2.2.2.1
  have q20 : (s.i 20).toInt ≤ (q.i 20).toInt := kq.2.1
  have y66 : (RS.setA y.2 66 t y.1).a 66 t = y.1 := setA_at
  have ey : ENV d p9.2 (RS.setA y.2 66 t y.1) := setA_env (Or.inr (by omega)) n1
  have fy : FRB t y.2 (RS.setA y.2 66 t y.1) := setA_frb (Or.inr ⟨by omega, by omega, Nat.le_refl _⟩)
  have ky : TBK y.2 (RS.setA y.2 66 t y.1) := setA_tbk (by omega)
  have y64 : (RS.setA y.2 66 t y.1).a 64 t = 8 := (n3 (t + 1) t (by omega)).1.trans ((fq (t + 1) t (by omega)).1.trans hk)
  obtain ⟨z, hz⟩ : ∃ z, z = RS.setA y.2 66 t y.1 := ⟨_, rfl⟩
  have iz : z.i = y.2.i := by rw [hz]; rfl
  have qz : qe z = qe y.2 := by rw [hz]; rfl
  rw [← hz] at hV y66 ey fy ky y64
  clear hz
  have tz : tpI z = t := by
    show (z.i 63).toInt = (t : Int)
    rw [iz]
    exact n2
  have pz : phI z = phI s + 2 := by
    have : phI z = phI y.2 := by unfold phI; rw [iz]
    omega
  have fin74 : ∀ {X : CS}, ¬ X.i 32 = 0 → f_X7_claim_74 N E1 E2 X w0.1 = some R → ¬ R.2.i 32 = 0 := fun z e => by rw [kF_X7_claim_74 N E1 E2 hm1 hm2 _ w0.1 R e z]; exact z
  have f25 : ¬ p25.2.i 32 = 0 → ¬ R.2.i 32 = 0 := fun z => by
    by_cases c : p25.1 = 0
    · rw [if_pos c] at e
      obtain ⟨w, ew, e⟩ := hf_bind e
      exact fin74 (by rw [fst_add ew]; exact z) e
    · rw [if_neg c] at e
      obtain ⟨w, ew, e⟩ := hf_bind e
      exact fin74 (by rw [kF_X1_expression N E1 E2 hm1 hm2 p25.2 w ew z]; exact z) e
  have f13 : ¬ p13.2.i 32 = 0 → ¬ R.2.i 32 = 0 := fun z => by
    have z1 : ¬ p17.2.i 32 = 0 := by rw [fst_add e17]; exact z
    have z2 : ¬ p21.2.i 32 = 0 := by rw [fst_add e21]; exact z1
    exact f25 (by rw [kF_X1_skip N p21.2 58 p25 e25 z2]; exact z2)
  rcases y_cond hN hm1 hm2 hE2 ey tz (by omega) e13 hV g2 with ⟨x1, x2⟩ | ⟨m2, u, g3, ⟨w1, w2, ⟨f0, f1, f2, -⟩, w4, w5, w6, w7, w8, w9, w10⟩, -, -, xc⟩
  · exact Or.inl ⟨f13 x1, x2⟩
  obtain ⟨m3, V3, hV3, g4⟩ := rl_8 g3 w2 w1.1.2.1 (f0.trans y64)
  unfold f_X12_asserted at hV3
  obtain ⟨-, hV3⟩ := hf_ite hV3
  rw [tp_nat w2, if_neg (show ¬ u.a 65 t = 0 by rw [f1]; decide), if_pos f1] at hV3
  obtain ⟨j, hj, hV3⟩ := hf_bind hV3
  obtain ⟨j1, j2, j3, j4, j5, j6, j7, j8, j9, j10, j11⟩ := y_emit w1 w2 (by omega) hj
  obtain ⟨a17, c17, i17, -⟩ := y_add j1 e17
  obtain ⟨a21, c21, i21, -⟩ := y_add a17 e21
  -- behind the condition: the frame's second mark
  obtain ⟨k, hk2⟩ : ∃ k, k = RS.setA j.2 67 t j.1 := ⟨_, rfl⟩
  have ek : ENV d p21.2 k := by rw [hk2]; exact setA_env (Or.inr (by omega)) a21
  have fk : FRB t j.2 k := by rw [hk2]; exact setA_frb (Or.inr ⟨by omega, by omega, Nat.le_refl _⟩)
  have kk : TBK j.2 k := by rw [hk2]; exact setA_tbk (by omega)
  have ik : k.i = j.2.i := by rw [hk2]; rfl
  have qk : qe k = qe j.2 := by rw [hk2]; rfl
  have k67 : k.a 67 t = j.1 := by rw [hk2]; exact setA_at
  have k66 : k.a 66 t = y.1 := by
    rw [hk2]
    show j.2.a 66 t = y.1
    rw [(j3 (t + 1) t (by omega)).2.2.1, f2]
    exact y66
  have k64 : k.a 64 t = 8 := by
    rw [hk2]
    show j.2.a 64 t = 8
    rw [(j3 (t + 1) t (by omega)).1, f0]
    exact y64
  rw [← hk2] at hV3
  clear hk2
  have tk : tpI k = t := by
    show (k.i 63).toInt = (t : Int)
    rw [ik]
    exact j2
  have pk : phI k = phI u - 1 := by
    have : phI k = phI j.2 := by unfold phI; rw [ik]
    omega
  have u20 : (y.2.i 20).toInt ≤ (u.i 20).toInt := by
    have := w5.2.1
    rw [iz] at this
    exact this
  have k20 : (k.i 20).toInt = (u.i 20).toInt + 1 := by rw [ik]; exact j7
  have y1i : y.1.toInt = (q.i 20).toInt := by rw [n6]
  have j1i : j.1.toInt = (u.i 20).toInt := by rw [j6]
  have tbk : TBK s k := ((((kq.tr n4).tr ky).tr w5).tr j4).tr kk
  have frk : FRB t s k := (((((fq t).tr (n3 t)).tr fy).tr w4).tr (j3 t)).tr fk
  have ckk : CKX S p21.2 := (((cq.tr c1).tr w6).tr c17).tr c21
  have k11 : (s.i 11).toInt + 1 ≤ (k.i 11).toInt := by
    rw [ik, j8]
    rw [iz, n8] at w7
    omega
  have k17 : (s.i 17).toInt + 1 ≤ (k.i 17).toInt := by
    rw [ik, j9]
    rw [iz, n9] at w9
    omega
  have k19 : k.i 19 = s.i 19 := by rw [ik, j10, w10, iz, n10', q19]
  have w8' : phI s + 3 ≤ phI u := by omega
  -- the last steps
  have last : ∀ (X : CS) (v V4 : RS) (m4 : Nat), ENV d X v → tpI v = t → v.a 64 t = 8 → v.a 65 t = 2 → v.a 66 t = y.1 → v.a 67 t = j.1 → FRB t k v → TBK k v → CKX p21.2 X → CDM U p21.2 k X v → (k.i 11).toInt ≤ (v.i 11).toInt → 1 ≤ phI v → phI s - 1 ≤ phI v → (k.i 17).toInt ≤ (v.i 17).toInt → v.i 19 = k.i 19 → f_X7_claim_74 N E1 E2 X w0.1 = some R → f_X12_parse_10 N m4 v = some U → (¬ R.2.i 32 = 0 ∧ ¬ U.i 15 = 0) ∨ ∃ (m : Nat) (u : RS), f_X12_parse_10 N m u = some U ∧ XO d t S s (CS.setI R.2 36 1) u ∧ (u.i 75 = R.2.i 36 ∧ (R.2.i 36 = 0 ∨ R.2.i 36 = 1)) ∧ R.2.i 36 = 1 ∧ CDG (-1) (fun FC SF nm X c h w2 => JGO U R.2 u FC SF nm X c h w2 ∧ JK3 U s FC SF nm X c h w2) U S s R.2 u := fun X v V4 m4 h1 h2 h3 h4 h5 h6 h7 h8 h9 hm h10 h11 h12 h13 h14 eX gX => by
    obtain ⟨m5, V5, hV5, g6⟩ := rl_8 gX h2 h1.1.2.1 h3
    have v20 := h8.2.1
    rcases y_ast2 (c0 := (s.i 20).toInt) hN h1 h2 t9 h11 h4 ⟨by omega, by rw [h5]; omega, by rw [h6]; omega⟩ (by omega) eX hV5 with ⟨z1, z2⟩ | ⟨o1, o2, o3, o4, o5, o6, o7, o8, o9, o10, o11, o12, ast⟩
    · exact Or.inl ⟨z1, u_flt g6 z2⟩
    · have ck : CKX S R.2 := (ckk.tr h9).tr o6
      refine Or.inr ⟨m5, V5, g6, ⟨o1.s36, o2, (frk.tr h7).tr o3, ⟨(tbk.1.tr h8.1).tr o4, (tbk.2.tr (h8.2.wk (by omega))).tr o5⟩, ck.s36 h36, by omega, by omega, by omega, by rw [o11, h14, k19]⟩, ?_, by rw [ck.1.2.1]; exact h36, ?_⟩
      rotate_left
      · rw [h5, h6] at ast
        have z19 : z.i 19 = s.i 19 := by rw [iz, n10', q19]
        exact cdg_ast hN hv h43 e0 (hv.nt (by omega) e0).1 (nt_i e0).2.1 e5 hq a1 (by omega) e9 hy qz xc.1 w1 (by omega) e17 e21 hj qk ek hm h1 ast ((kq.tr n4).tr ky) tbk (by rw [iz, n8]; omega) (by omega) z19 k19
      rw [o7, ck.1.2.1]
      exact ⟨h36.symm, Or.inr h36⟩
  have i58 := tk_is ek (a := 58) (b := 58) (Or.inl ⟨by decide, by decide⟩) (by decide)
  by_cases c58 : p21.2.i 43 = 58
  · have t58 := i58.mp c58
    rw [if_pos (show j.2.i 10 = 58 by rw [← ik]; exact t58)] at hV3
    obtain ⟨b, eb, hb⟩ := e_skip1 c58 e25
    rw [hb, if_neg n10] at e
    obtain ⟨r, er, e⟩ := hf_bind e
    obtain ⟨q2, hq2, hV3⟩ := hf_bind hV3
    rw [ob_id] at hV3
    obtain ⟨d1, d2, d3, d4, d5, d6, d7, d8, d9⟩ := y_nx hN ek tk (by rw [c58]; decide) eb hq2
    rcases y_expr hN hm1 hm2 hE d1 d2 (by omega) er hV3 g4 with ⟨x1, x2⟩ | ⟨m4, v, g5, ⟨y1, y2, ⟨r0, r1, r2, r3, -⟩, y4, y5, y6, y7, y8, y9, y10⟩, xe⟩
    · exact Or.inl ⟨fin74 x1 e, x2⟩
    · obtain ⟨l1, l2, l3, l4, -, l6, -⟩ := adv_cd hN ek (by rw [c58]; decide) eb hq2
      have cm : CDM U p21.2 k r.2 v := cdm_pre xe l1 (by omega) (by omega) (l2 _ _) l3 l4 l6 ek.2.1.1 d4.1.1.2.2.2.1 (fun jj hjj => (d4.1.2.1 jj hjj).2.1) (by omega) (by rw [d9]; exact Int.le_refl _)
      exact last r.2 v V3 m4 y1 y2 (r0.trans ((d3 (t + 1) t (by omega)).1.trans k64)) r1 (r2.trans ((d3 (t + 1) t (by omega)).2.2.1.trans k66)) (r3.trans ((d3 (t + 1) t (by omega)).2.2.2.1.trans k67)) ((d3 t).tr y4) (d4.tr y5) (d5.tr y6) cm (by omega) (by omega) (by omega) (by omega) (y10.trans d9) e g5
  · have t58 : ¬ k.i 10 = 58 := fun z => c58 (i58.mpr z)
    rw [if_neg (show ¬ j.2.i 10 = 58 by rw [← ik]; exact t58)] at hV3
    rw [e_skip0 c58] at e25
    cases e25
    have e' : ((f_X0_add N p21.2 0 0).bind fun p30 => f_X7_claim_74 N E1 E2 p30.2 w0.1) = some R := (if_pos rfl).symm.trans e
    obtain ⟨r, er, e'⟩ := hf_bind e'
    obtain ⟨x, hx, hV3⟩ := hf_bind hV3
    cases hV3
    obtain ⟨b1', b2', b3', b4', b5', b6', b7', b8', b9', b10', -⟩ := y_emit ek tk (by omega) hx
    obtain ⟨ar, cr, -, -⟩ := y_add b1' er
    obtain ⟨v, hv2⟩ : ∃ v, v = RS.setA x.2 65 t 2 := ⟨_, rfl⟩
    have ev : ENV d r.2 v := by rw [hv2]; exact setA_env (Or.inr (by omega)) ar
    have fv : FRB t x.2 v := by rw [hv2]; exact setA_frb (Or.inr ⟨by omega, by omega, Nat.le_refl _⟩)
    have kv : TBK x.2 v := by rw [hv2]; exact setA_tbk (by omega)
    have iv : v.i = x.2.i := by rw [hv2]; rfl
    have qv : qe v = qe x.2 := by rw [hv2]; rfl
    have v65 : v.a 65 t = 2 := by rw [hv2]; exact setA_at
    have v6x : ∀ k : Nat, ¬ k = 65 → v.a k t = x.2.a k t := fun k h => by rw [hv2]; exact congrFun (setA_nk h) t
    rw [← hv2] at g4
    clear hv2
    have pv : phI v = phI k - 1 := by
      have : phI v = phI x.2 := by unfold phI; rw [iv]
      omega
    refine last r.2 v V m3 ev ?_ ?_ v65 ?_ ?_ ((b3' t).tr fv) (b4'.tr kv) cr (cdm_psh ek (by omega) er hx qv) (by rw [iv, b8']; exact Int.le_refl _) (by omega) (by omega) (by rw [iv, b9']; exact Int.le_refl _) (by rw [iv, b10']) e' g4
    · show (v.i 63).toInt = (t : Int)
      rw [iv]
      exact b2'
    · rw [v6x 64 (by decide), (b3' (t + 1) t (by omega)).1]
      exact k64
    · rw [v6x 66 (by decide), (b3' (t + 1) t (by omega)).2.2.1]
      exact k66
    · rw [v6x 67 (by decide), (b3' (t + 1) t (by omega)).2.2.2.1]
      exact k67
