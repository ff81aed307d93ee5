/-! both readers: an else's end -/
set_option maxHeartbeats 1000000 in
theorem en_else {N : Nat} {E1 : CS → Option (Unit × CS)} {E2 : CS → Option (Int32 × CS)} {d : Int32} {B : CS} {b : RS} {t0 n : Nat} {L : List CEL} {x : Int} {S : CS} {s U : RS} {c1 c : CEL} {R : Unit × CS} {Aj : JBA} (mA : JBM U Aj) (hC : COR d B b t0 (c1 :: c :: L) x S s) (tp : TOP S s c1) (hM : MEN c1 S s) (h36 : S.i 36 = 0 ∨ S.i 36 = 1) (h204 : S.o c1.2.1 0 = 204) (bz : BAZ B b (c1 :: c :: L)) (hT : t0 ≤ ceT c1) (e : f_X7_endBody N E1 E2 S c1.2.1 = some R) (g : f_X12_parse_10 N n s = some U) : ∃ (m : Nat) (u : RS), f_X12_parse_10 N m u = some U ∧ POPD d B b t0 c L R.2 u ∧ JTR Aj U B b (c1 :: c :: L) S s (vws R.2 u (c :: L)) R.2 u := by
  obtain ⟨one, o5, ts, h75, hm⟩ := hM
  obtain ⟨m1, e1, k1, m2, e2, k2, cst⟩ := STK.mem _ _ _ _ hC.2.1 c1 List.mem_cons_self
  obtain ⟨f1, f2, f3, f4⟩ := cst.2.2.1.2.2.2.2.2.1 h204
  have hv := hC.1
  have ngo : ¬ isGo (S.o c1.2.1 0) := by
    rw [h204]
    unfold isGo
    decide
  obtain ⟨m2, V, hV, g2⟩ := rl_9 g ts hv.1.2.1 f1
  unfold f_X12_branch at hV
  obtain ⟨hib, hV⟩ := hf_ite hV
  have t9 : ceT c1 < 1000 := by
    have h2 : (s.i 63).toInt = (ceT c1 : Int) := ts
    have := hib.2
    omega
  rw [tp_nat ts, f2, if_neg (by decide), if_neg (by decide), if_neg (by decide)] at hV
  obtain ⟨-, hV⟩ := hf_ite hV
  obtain ⟨hD, inj, ord, lk, lw⟩ := hC.drop (by rw [h204]; unfold isTy; decide) (by rw [h204]; decide) (by rw [h204]; rfl) (by rw [h204]; rfl)
  obtain ⟨-, -, b0, col, hc⟩ := id hC.2.2.2.2.2.2.2.2.2.2
  have fr : FRE S s (c :: L) (cdr (ceG c1) col) (b.i 20).toInt (s.a 68 (ceT c1)).toNatClampNeg := (hc.fre b0).2 _ (Or.inr (Or.inl ⟨h204, rfl⟩))
  have e22 := E22.set (s := s) (v := s.i 20) fr
  obtain ⟨hE, -⟩ := hD.e22 (hc.drop inj) e22
  unfold f_X7_endBody at e
  obtain ⟨-, e⟩ := hf_ite e
  rw [if_neg (by rw [h204]; decide), if_pos h204] at e
  obtain ⟨p, ep, e⟩ := hf_bind e
  obtain ⟨a1, a2, -, -⟩ := y_aim hv ep
  have hin := hC.inl tp (T := ceT c1 + wid (S.o c1.2.1 0)) rfl
  have eo1 := (hin.o a2.z c1 List.mem_cons_self).1
  have p36 : p.2.i 36 = S.i 36 := a2.1.2.1
  obtain ⟨q, hq⟩ : ∃ q, q = RS.setA s 22 (s.a 68 (ceT c1)).toNatClampNeg (s.i 20) := ⟨_, rfl⟩
  rw [← hq] at hV e22 hE
  have x8 : ∀ j : Nat, ¬ j = (s.a 68 (ceT c1)).toNatClampNeg → q.a 22 j = s.a 22 j := by rw [hq]; exact fun j hj => setA_ne hj
  have x7 : q.a 22 (s.a 68 (ceT c1)).toNatClampNeg = s.i 20 := by rw [hq]; exact setA_at
  clear hq
  have fin : ∃ v : Int32, (v = 0 ∨ v = 1) ∧ (S.i 36 = 1 → v = 1) ∧ (S.o c1.2.1 6 = 1 → v = 1) ∧ f_X12_over N q v = some V ∧ f_X7_endBody_193 N E1 E2 (CS.setI p.2 36 v) c1.2.1 = some R := by
    rw [h75, f3] at hV
    rw [p36] at e
    by_cases z : S.i 36 = 0
    · rw [if_pos z] at hV e
      obtain ⟨-, e⟩ := hf_ite e
      rw [eo1] at e
      rcases f4 with k | k
      · rw [if_pos k] at e
        rw [if_neg (by rw [k]; decide), ob_id] at hV
        exact ⟨0, Or.inl rfl, fun y => by rw [z] at y; exact absurd y (by decide), fun y => by rw [k] at y; exact absurd y (by decide), hV, e⟩
      · rw [if_neg (by rw [k]; decide)] at e
        rw [if_pos k, ob_id] at hV
        exact ⟨1, Or.inr rfl, fun _ => rfl, fun _ => rfl, hV, e⟩
    · rw [if_neg z] at hV e
      rw [ob_id] at hV
      exact ⟨1, Or.inr rfl, fun _ => rfl, fun _ => rfl, hV, e⟩
  obtain ⟨v, hv1, va, vf, ho, e193⟩ := fin
  refine ⟨m2, V, g2, en_pop hE eo1 (tp.e22 e22) (by show (q.i 63).toInt = _; rw [e22.1]; exact ts) hm one (by rw [h204]; decide) (by rw [h204]; decide) (fun z => absurd z ngo) bz hT t9 lk (lw.e22 e22) (a1.e22 e22) a2 hv1 ho ⟨fun _ _ => rfl, rfl, rfl, rfl⟩ (by rw [nGo.eq ngo]; omega) e193, fun _ jw => ?_⟩
  -- the code
  have hr0 : (vw S s c1).v = 204 := h204
  have ngV : ¬ isGo (vw S s c1).v := ngo
  have nlo : ¬ isLo (vw S s c1).v := fun z => ngV (Or.inr (Or.inr z))
  have nty : ¬ isTy (vw S s c1).v := fun z => by
    rw [hr0] at z
    rcases z with z | z | z | z <;> exact absurd z (by decide)
  have r68 : (vw S s c1).2.1 68 = s.a 68 (ceT c1) := (vw_at (k := 68) ⟨by decide, by decide⟩)
  have si : ∀ k : Nat, rsite (vw S s c1) k → (k : Int) = (s.a 68 (ceT c1)).toInt := fun k z => by
    unfold rsite at z
    rw [hr0] at z
    rcases z with ⟨z, -⟩ | ⟨-, z⟩ | ⟨z, -⟩ | ⟨z, -⟩
    · rcases z with z | z | z <;> exact absurd z (by decide)
    · rw [r68] at z
      exact z
    · rcases z with z | z <;> exact absurd z (by decide)
    · rcases z with z | z <;> exact absurd z (by decide)
  have pl8 := hc.2.2.2.2.2.2 c1 List.mem_cons_self (s.a 68 (ceT c1)).toInt (Or.inr (Or.inl ⟨h204, rfl⟩))
  have c8 := clampI (show 0 ≤ (s.a 68 (ceT c1)).toInt by have := pl8.1; omega)
  have gis := hC.gis
  have h44 : (S.i 44).toInt ≤ 900 := by
    rw [hv.p44.1]
    exact (i11_hi hv).2
  obtain ⟨ee, he1, he2⟩ := clo_e (S.i 43)
  have rt : rtgs (vw S s c1) = [S.o c1.2.1 9] := by
    unfold rtgs
    rw [hr0, if_neg (by decide), if_pos (by decide)]
    rfl
  have x3 := e22.1
  have x6 := e22.2.2.2.1
  have j0 := JRW.clo (V := vws S s (c :: L)) (r := vw S s c1) (u := q) (u' := q) (S' := S) (l1 := []) (l2 := []) (vb := 0) (vc := 0) (vs := s.i 20) (e := ee) (dr := 0) jw (fun z => z.c0 (by rw [hr0]; decide) (NK.eq rfl rfl (by rw [x3]) (by rw [x3]))) h44 mA (vws.pl hC) (fun z => absurd z ngV) nty (by rw [hr0]; decide) (fun z => absurd z ngV) ⟨x3, x6⟩ (fun z => absurd z ngV) (fun z => absurd z nlo) (fun j z => by
    have z1 := si j z
    have z2 : j = (s.a 68 (ceT c1)).toNatClampNeg := by omega
    exact ⟨by rw [z2]; exact x7, by have := pl8.1; omega⟩) (fun j _ _ z => x8 j (fun z2 => z (by
    unfold rsite
    refine Or.inr (Or.inl ⟨hr0, ?_⟩)
    rw [r68, z2]
    exact c8))) (D38.rf _) (D52.rf _) ⟨Or.inl rfl, rfl, rfl, rfl⟩ (fun _ _ _ => rfl) (clo_nm (by rw [hr0]; decide) nty (by rw [hr0]; decide) x3 (x6 40 (by decide))) (fun _ => dbr.ge _ _) he1
  rw [rt] at j0
  have j1 := JRG.aim (W1 := []) (W2 := []) (K' := fun FC SF nm X ω j Z => (cTg SF (S.o c1.2.1 9)).toInt = ((pcC S : Nat) : Int) ∧ KCL U (vw S s c1) S s 0 0 (s.i 20) FC SF nm X ω j Z) j0 ep h44 (by rcases he1 with z | ⟨z, -⟩ <;> omega) (fun FC SF nm X ω j Z h k => ⟨h, k⟩)
  have pcp : pcC p.2 = pcC S := by unfold pcC f_X0_aim at *; cases ep; rfl
  have prp : pcR q = pcR s := by
    unfold pcR
    rw [x3]
  have p43 : p.2.i 43 = S.i 43 := by unfold f_X0_aim at ep; cases ep; rfl
  have t43 := tp.2.1
  obtain ⟨jr, oR, aV⟩ := j1.pop1 (n := c.1) (q' := q) (by omega) (by rw [p43]; exact he2) (by rw [a2.1.2.2.2.2.1]; have := tp.1; have := lk.1; omega) e193 ⟨fun k _ _ => rfl, rfl⟩ (Int.le_refl _) ho (fun y hy gy => by
    have := gis y hy gy
    rw [x3]
    omega) (fun _ _ _ => rfl) rfl (Int.le_refl _) (Int.le_refl _) (fun FC SF nm X ω j Z hω r12 hcc k cur => by
    obtain ⟨ct, ⟨st, hd, -⟩, G', -, -, hX⟩ := k
    obtain ⟨p1, h1', -, h2'⟩ := hd (S.o c1.2.1 10) (Or.inl ⟨Or.inr (Or.inr (Or.inr hr0)), rfl⟩)
    have p20 := hv.p20
    have pS : (s.i 20).toInt = ((pcR s : Nat) : Int) := (Int.toNat_of_nonneg p20.1).symm
    have en : ∀ (h l : Nat), jen G' ω (vw S s c1) h l = [] := fun h l => jen.no (by rw [hr0]; decide) nty (by rw [hr0]; decide)
    rw [pcp, prp] at cur
    refine hX ⟨fun z => absurd (hr0.symm.trans z) (by decide), fun _ z6 => ?_, fun z => absurd (hr0.symm.trans z) (by decide), fun z => absurd (hr0.symm.trans z) (by decide), fun z => absurd (hr0.symm.trans z) (by decide), fun z => absurd (hr0.symm.trans z) (by decide), fun z => absurd (hr0.symm.trans z) (by decide), fun z => absurd z nty, fun _ => noc.gl⟩ (fun z => absurd z ngV) (fun h1 => ?_)
    · have e9 := st (s.a 68 (ceT c1)).toNatClampNeg (by
        unfold rsite
        refine Or.inr (Or.inl ⟨hr0, ?_⟩)
        rw [r68]
        exact c8)
      refine ⟨_, _, p1, ct, ?_, h1', h2', (cur (vf z6)).1⟩
      rw [r68, e9]
      exact pS
    · have jl : jlv (vw S s c1).v = 0 := by rw [hr0]; rfl
      rw [en, jl]
      exact cur (va h1))
  rw [clo_veq hD tp lk (fun j _ => by rw [aV, x6 40 (by omega)]) (fun y hy => by rw [oR]; exact (hin.o a2.z y (List.mem_cons_of_mem _ hy)).1) (fun k t h1 h2 _ => by rw [aV, x6 k (by omega)])]
  exact jr
