/-! both readers: an if's end, no else -/
set_option maxHeartbeats 1000000 in
theorem en_if0 {N : Nat} {E1 : CS → Option (Unit × CS)} {E2 : CS → Option (Int32 × CS)} {d : Int32} {B : CS} {b : RS} {t0 n : Nat} {L : List CEL} {x : Int} {S : CS} {s U : RS} {c1 c : CEL} {R : Unit × CS} {Aj : JBA} (mA : JBM U Aj) (hC : COR d B b t0 (c1 :: c :: L) x S s) (tp : TOP S s c1) (hM : MEN c1 S s) (h203 : S.o c1.2.1 0 = 203) (n204 : ¬ S.i 43 = 204) (bz : BAZ B b (c1 :: c :: L)) (hT : t0 ≤ ceT c1) (e : f_X7_endBody N E1 E2 S c1.2.1 = some R) (g : f_X12_parse_10 N n s = some U) : ∃ (m : Nat) (u : RS), f_X12_parse_10 N m u = some U ∧ POPD d B b t0 c L R.2 u ∧ JTR Aj U B b (c1 :: c :: L) S s (vws R.2 u (c :: L)) R.2 u := by
  obtain ⟨one, o5, ts, h75, hm⟩ := hM
  obtain ⟨m1, e1, k1, m2, e2, k2, cst⟩ := STK.mem _ _ _ _ hC.2.1 c1 List.mem_cons_self
  obtain ⟨f1, f2⟩ := cst.2.2.1.2.2.2.2.1 h203
  have hv := hC.1
  have ngo : ¬ isGo (S.o c1.2.1 0) := by
    rw [h203]
    unfold isGo
    decide
  have k204 := tk_is hv (a := 204) (b := 414) (Or.inr ⟨by decide, by decide⟩) (by decide)
  obtain ⟨m2, V, hV, g2⟩ := rl_9 g ts hv.1.2.1 f1
  unfold f_X12_branch at hV
  obtain ⟨hib, hV⟩ := hf_ite hV
  have t9 : ceT c1 < 1000 := by
    have h2 : (s.i 63).toInt = (ceT c1 : Int) := ts
    have := hib.2
    omega
  rw [tp_nat ts, f2, if_neg (by decide), if_neg (by decide), if_pos rfl, if_neg (fun z => n204 (k204.mpr z))] at hV
  obtain ⟨-, hV⟩ := hf_ite hV
  rw [ob_id] at hV
  obtain ⟨hD, inj, ord, lk, lw⟩ := hC.drop (by rw [h203]; unfold isTy; decide) (by rw [h203]; decide) (by rw [h203]; rfl) (by rw [h203]; rfl)
  obtain ⟨-, -, b0, col, hc⟩ := id hC.2.2.2.2.2.2.2.2.2.2
  have fr : FRE S s (c :: L) (cdr (ceG c1) col) (b.i 20).toInt (s.a 66 (ceT c1)).toNatClampNeg := (hc.fre b0).2 _ (Or.inl ⟨Or.inl h203, rfl⟩)
  have e22 := E22.set (s := s) (v := s.i 20) fr
  obtain ⟨hE, -⟩ := hD.e22 (hc.drop inj) e22
  obtain ⟨q, hq⟩ : ∃ q, q = RS.setA s 22 (s.a 66 (ceT c1)).toNatClampNeg (s.i 20) := ⟨_, rfl⟩
  rw [← hq] at hV e22 hE
  have x8 : ∀ j : Nat, ¬ j = (s.a 66 (ceT c1)).toNatClampNeg → q.a 22 j = s.a 22 j := by rw [hq]; exact fun j hj => setA_ne hj
  have x7 : q.a 22 (s.a 66 (ceT c1)).toNatClampNeg = s.i 20 := by rw [hq]; exact setA_at
  clear hq
  -- the class
  unfold f_X7_endBody at e
  obtain ⟨-, e⟩ := hf_ite e
  rw [if_pos h203] at e
  have e3 := ob_un e
  unfold f_X7_endIf at e3
  obtain ⟨p1, ep1, e3⟩ := hf_bind e3
  unfold f_X1_skip at ep1
  obtain ⟨fd, efd, ep1⟩ := hf_bind ep1
  rw [e_fnd0 n204] at efd
  rw [← Option.some.inj efd, if_pos rfl] at ep1
  unfold f_X1_skip_17 at ep1
  obtain ⟨-, ep1⟩ := hf_ite ep1
  rw [← Option.some.inj ep1, if_pos rfl] at e3
  obtain ⟨-, e3⟩ := hf_ite e3
  obtain ⟨p, ep, e3⟩ := hf_bind e3
  have e4 := ob_un e3
  obtain ⟨a1, a2, -, -⟩ := y_aim hv ep
  have hin := hC.inl tp (T := ceT c1 + wid (S.o c1.2.1 0)) rfl
  have eo : ∀ z ∈ c1 :: c :: L, p.2.o z.2.1 = S.o z.2.1 := fun z hz => (hin.o a2.z z hz).1
  have eo1 := eo c1 List.mem_cons_self
  have eoc := eo c (List.mem_cons_of_mem _ List.mem_cons_self)
  have i53 : (CS.setI p.2 36 1).i 53 = S.i 53 := by
    rw [ci_ne _ _ _ (by decide)]
    exact a2.1.2.2.2.2.1
  obtain ⟨p1', p2'⟩ := e_pop (n := c.1) (by rw [i53]; have := tp.1; have := lk.1; omega) e4
  have i50 : p.2.i 50 = S.i 50 := a2.1.2.2.2.1
  have c50 : S.i 50 = S.o c1.2.1 3 := hm one (by rw [h203]; decide) (by rw [h203]; decide)
  have X1 : ∀ k : Nat, k ≠ 36 → k ≠ 50 → k ≠ 53 → R.2.i k = p.2.i k := fun k h1 _ h3 => by
    rw [p1', ci_ne _ _ _ h3, ci_ne _ _ _ h1]
  have X2 : R.2.i 50 = p.2.o c1.2.1 3 := by
    rw [p1', ci_ne _ _ _ (by decide), ci_ne _ _ _ (by decide), i50, eo1]
    exact c50
  have X3 : (R.2.i 53).toInt = (c.1 : Int) + 1 := by
    rw [p1', ci_at]
    exact p2'
  have X4 : R.2.i 36 = 1 := by
    rw [p1', ci_ne _ _ _ (by decide), ci_at]
  have X5 : R.2.r = p.2.r ∧ R.2.o = p.2.o ∧ R.2.ol = p.2.ol ∧ R.2.a = p.2.a ∧ R.2.b = p.2.b ∧ R.2.l = p.2.l ∧ (R.2.hs = p.2.hs ∧ R.2.L = p.2.L ∧ R.2.k = p.2.k) := by
    rw [p1']
    exact ⟨rfl, rfl, rfl, rfl, rfl, rfl, rfl, rfl, rfl⟩
  have tpq := tp.e22 e22
  have hinq : INL S q (ceT c1) (c :: L) := by
    have z := STK.inl L c _ _ _ hE.2.1 (by have := tp.1; have := lk.1; omega) (by have := tpq.2.1; have := lk.2.2.1; omega) (by have := tpq.2.2; have := lk.2.2.2.1; omega)
    rw [← lk.2.1] at z
    exact z
  have hEp := hE.cx hinq hT (a1.e22 e22) a2
  have tpp : TOP p.2 q c1 := ⟨by rw [a2.1.2.2.2.2.1]; exact tp.1, by rw [eo1]; exact tpq.2.1, by rw [eo1]; exact tpq.2.2⟩
  have lkp : LNK p.2 c1 c := by
    unfold LNK at *
    rw [eo1, eoc]
    exact lk
  have lwp : LOW p.2 q c := by
    have w := lw.e22 e22
    unfold LOW at *
    rw [eoc]
    exact w
  have ob := hC.2.2.2.2.2.2.2.1.2
  have s50 := hv.2.1.1
  refine ⟨m2, V, g2, (pop_core hEp tpp lkp lwp bz hT t9 (by show (q.i 63).toInt = _; rw [e22.1]; exact ts) (by rw [eo1, h203]; rfl) (fun z => by rw [eo1] at z; exact absurd z ngo) (Or.inr rfl) hV ⟨fun _ _ _ _ => rfl, rfl, rfl, rfl⟩ (by rw [eo1, e22.1, ← s50]; exact c50) (by rw [eo1, nGo.eq ngo]; omega) (by rw [eo1, i50]; exact ob.1 c1 List.mem_cons_self) (fun z hz => by rw [eo1, eo z (List.mem_cons_of_mem _ hz)]; exact ob.2.1 z (List.mem_cons_of_mem _ hz) c1 List.mem_cons_self (ord z hz)) X1 X2 X3 X4 X5).1, fun _ jw => ?_⟩
  -- the code
  have hr0 : (vw S s c1).v = 203 := h203
  have ngV : ¬ isGo (vw S s c1).v := ngo
  have nlo : ¬ isLo (vw S s c1).v := fun z => ngV (Or.inr (Or.inr z))
  have nty : ¬ isTy (vw S s c1).v := fun z => by
    rw [hr0] at z
    rcases z with z | z | z | z <;> exact absurd z (by decide)
  have r66 : (vw S s c1).2.1 66 = s.a 66 (ceT c1) := (vw_at (k := 66) ⟨by decide, by decide⟩)
  have si : ∀ k : Nat, rsite (vw S s c1) k ↔ (k : Int) = (s.a 66 (ceT c1)).toInt := fun k => by
    unfold rsite
    rw [hr0, r66]
    refine ⟨fun z => ?_, fun z => Or.inl ⟨Or.inl rfl, z⟩⟩
    rcases z with ⟨-, z⟩ | ⟨z, -⟩ | ⟨z, -⟩ | ⟨z, -⟩
    · exact z
    · exact absurd z (by decide)
    · exact absurd z (by decide)
    · exact absurd z (by decide)
  have pl6 := hc.2.2.2.2.2.2 c1 List.mem_cons_self (s.a 66 (ceT c1)).toInt (Or.inl ⟨Or.inl h203, rfl⟩)
  have c6 := clampI (show 0 ≤ (s.a 66 (ceT c1)).toInt by have := pl6.1; omega)
  have gis := hC.gis
  have h44 : (S.i 44).toInt ≤ 900 := by
    rw [hv.p44.1]
    exact (i11_hi hv).2
  obtain ⟨ee, he1, he2⟩ := clo_e (S.i 43)
  have rt : rtgs (vw S s c1) = [S.o c1.2.1 10] := by
    unfold rtgs
    rw [hr0, if_pos (by decide)]
    rfl
  have x3 := e22.1
  have x6 := e22.2.2.2.1
  have j0 := JRW.clo (V := vws S s (c :: L)) (r := vw S s c1) (u := q) (u' := q) (S' := S) (l1 := []) (l2 := []) (vb := 0) (vc := 0) (vs := s.i 20) (e := ee) (dr := 0) jw (fun z => z.c0 (by rw [hr0]; decide) (NK.eq rfl rfl (by rw [x3]) (by rw [x3]))) h44 mA (vws.pl hC) (fun z => absurd z ngV) nty (by rw [hr0]; decide) (fun z => absurd z ngV) ⟨x3, x6⟩ (fun z => absurd z ngV) (fun z => absurd z nlo) (fun j z => by
    have z1 := (si j).mp z
    have z2 : j = (s.a 66 (ceT c1)).toNatClampNeg := by omega
    exact ⟨by rw [z2]; exact x7, by have := pl6.1; omega⟩) (fun j _ _ z => x8 j (fun z2 => z ((si j).mpr (by rw [z2]; exact c6)))) (D38.rf _) (D52.rf _) ⟨Or.inl rfl, rfl, rfl, rfl⟩ (fun _ _ _ => rfl) (clo_nm (by rw [hr0]; decide) nty (by rw [hr0]; decide) x3 (x6 40 (by decide))) (fun _ => dbr.ge _ _) he1
  rw [rt] at j0
  have j1 := JRG.aim (W1 := []) (W2 := []) (K' := fun FC SF nm X ω j Z => (cTg SF (S.o c1.2.1 10)).toInt = ((pcC S : Nat) : Int) ∧ KCL U (vw S s c1) S s 0 0 (s.i 20) FC SF nm X ω j Z) j0 ep h44 (by rcases he1 with z | ⟨z, -⟩ <;> omega) (fun FC SF nm X ω j Z h k => ⟨h, k⟩)
  have pcp : pcC p.2 = pcC S := by unfold pcC f_X0_aim at *; cases ep; rfl
  have prp : pcR q = pcR s := by
    unfold pcR
    rw [x3]
  have p43 : p.2.i 43 = S.i 43 := by unfold f_X0_aim at ep; cases ep; rfl
  have t43 := tp.2.1
  obtain ⟨jr, oR, aV⟩ := j1.popx (R := R.2) (q' := q) (by omega) (by rw [p43]; exact he2) X1 X4 X5.2.1 X5.2.2.2.1 ⟨fun k _ _ => rfl, rfl⟩ (Int.le_refl _) hV (fun y hy gy => by
    have := gis y hy gy
    rw [x3]
    omega) (fun _ _ _ => rfl) rfl (Int.le_refl _) (Int.le_refl _) (fun FC SF nm X ω j Z hω r12 hcc k cur => by
    obtain ⟨ct, ⟨st, -, -⟩, G', -, -, hX⟩ := k
    have p20 := hv.p20
    have pS : (s.i 20).toInt = ((pcR s : Nat) : Int) := (Int.toNat_of_nonneg p20.1).symm
    have en : ∀ (h l : Nat), jen G' ω (vw S s c1) h l = [] := fun h l => jen.no (by rw [hr0]; decide) nty (by rw [hr0]; decide)
    rw [pcp, prp] at cur
    refine hX ⟨fun _ => ?_, fun z => absurd (hr0.symm.trans z) (by decide), fun z => absurd (hr0.symm.trans z) (by decide), fun z => absurd (hr0.symm.trans z) (by decide), fun z => absurd (hr0.symm.trans z) (by decide), fun z => absurd (hr0.symm.trans z) (by decide), fun z => absurd (hr0.symm.trans z) (by decide), fun z => absurd z nty, fun _ => noc.gl⟩ (fun z => absurd z ngV) (fun h1 => ?_)
    · have e9 := st (s.a 66 (ceT c1)).toNatClampNeg ((si _).mpr c6)
      refine ⟨_, _, ct, ?_, (cur rfl).1⟩
      rw [r66, e9]
      exact pS
    · have jl : jlv (vw S s c1).v = 0 := by rw [hr0]; rfl
      rw [en, jl]
      exact cur rfl)
  rw [clo_veq hD tp lk (fun j _ => by rw [aV, x6 40 (by omega)]) (fun y hy => by rw [oR]; exact (hin.o a2.z y (List.mem_cons_of_mem _ hy)).1) (fun k t h1 h2 _ => by rw [aV, x6 k (by omega)])]
  exact jr
