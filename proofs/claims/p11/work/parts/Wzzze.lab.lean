/-! both readers: a label's end -/
/-- the last step of a body's end -/
theorem en_pop {N : Nat} {E1 : CS → Option (Unit × CS)} {E2 : CS → Option (Int32 × CS)} {d : Int32} {B : CS} {b : RS} {t0 : Nat} {L : List CEL} {S P : CS} {q q' V : RS} {c1 c : CEL} {v : Int32} {R : Unit × CS} (hE : COR d B b t0 (c :: L) (-9) S q) (eo1 : P.o c1.2.1 = S.o c1.2.1) (tp : TOP S q c1) (ts : tpI q = (ceT c1 : Int)) (hm : NMC c1 S) (one : isOne (S.o c1.2.1 0)) (n7 : ¬ S.o c1.2.1 0 = 207) (n4 : ¬ S.o c1.2.1 0 = 304) (na : isGo (S.o c1.2.1 0) → ¬ q.a 44 (ceG c1) = 3) (bz : BAZ B b (c1 :: c :: L)) (hT : t0 ≤ ceT c1) (t9 : ceT c1 < 1000) (lk : LNK S c1 c) (lw : LOW S q c) (a1 : ENV d P q) (a2 : CKX S P) (hv1 : v = 0 ∨ v = 1) (ho : f_X12_over N q' v = some V) (hq : (∀ k : Nat, k ≠ 43 → q'.i k = q.i k) ∧ q'.l = q.l ∧ q'.a = q.a ∧ q'.b = q.b) (q43 : (q'.i 43).toInt = (q.i 43).toInt - (nGo (S.o c1.2.1 0) : Int)) (e193 : f_X7_endBody_193 N E1 E2 (CS.setI P 36 v) c1.2.1 = some R) : POPD d B b t0 c L R.2 V := by
  have hinq : INL S q (ceT c1) (c :: L) := by
    have z := STK.inl L c _ _ _ hE.2.1 (by have := tp.1; have := lk.1; omega) (by have := tp.2.1; have := lk.2.2.1; omega) (by have := tp.2.2; have := lk.2.2.2.1; omega)
    rw [← lk.2.1] at z
    exact z
  have eoc := (hinq.o a2.z c List.mem_cons_self).1
  have hEp := hE.cx hinq hT a1 a2
  have tpq : TOP P q c1 := ⟨by rw [a2.1.2.2.2.2.1]; exact tp.1, by rw [eo1]; exact tp.2.1, by rw [eo1]; exact tp.2.2⟩
  have lkp : LNK P c1 c := by
    unfold LNK at *
    rw [eo1, eoc]
    exact lk
  have lwp : LOW P q c := by
    unfold LOW at *
    rw [eoc]
    exact lw
  exact (pop_one hEp tpq lkp lwp bz hT t9 ts (by
    unfold NMC at *
    rw [eo1, a2.1.2.2.2.1]
    exact hm) (by rw [eo1]; exact one) (by rw [eo1]; exact n7) (by rw [eo1]; exact n4) (fun z => by rw [eo1] at z; exact na z) hv1 ho hq (by rw [eo1]; exact q43) e193).1
theorem TOP.e22 {F : Nat → Prop} {S : CS} {s q : RS} {c : CEL} (h : TOP S s c) (e : E22 F s q) : TOP S q c := by
  unfold TOP at *
  rw [e.1]
  exact h
set_option maxHeartbeats 1000000 in
theorem en_lab {N : Nat} {E1 : CS → Option (Unit × CS)} {E2 : CS → Option (Int32 × CS)} {d : Int32} {B : CS} {b : RS} {t0 n : Nat} {L : List CEL} {x : Int} {S : CS} {s U : RS} {c1 c : CEL} {R : Unit × CS} {Aj : JBA} (mA : JBM U Aj) (hC : COR d B b t0 (c1 :: c :: L) x S s) (tp : TOP S s c1) (hM : MEN c1 S s) (h36 : S.i 36 = 0 ∨ S.i 36 = 1) (h303 : S.o c1.2.1 0 = 303) (bz : BAZ B b (c1 :: c :: L)) (hT : t0 ≤ ceT c1) (e : f_X7_endBody N E1 E2 S c1.2.1 = some R) (g : f_X12_parse_10 N n s = some U) : ∃ (m : Nat) (u : RS), f_X12_parse_10 N m u = some U ∧ POPD d B b t0 c L R.2 u ∧ JTR Aj U B b (c1 :: c :: L) S s (vws R.2 u (c :: L)) R.2 u := by
  obtain ⟨one, o5, ts, h75, hm⟩ := hM
  obtain ⟨m1, e1, k1, m2, e2, k2, cst⟩ := STK.mem _ _ _ _ hC.2.1 c1 List.mem_cons_self
  obtain ⟨f1, f2, f3, f4, f5⟩ := cst.2.2.1.2.2.2.1 h303
  have hv := hC.1
  have go : isGo (S.o c1.2.1 0) := Or.inl h303
  -- the reference
  obtain ⟨m2, V, hV, g2⟩ := rl_5 g ts hv.1.2.1 f1
  unfold f_X12_named at hV
  obtain ⟨hib, hV⟩ := hf_ite hV
  have t9 : ceT c1 < 1000 := by
    have h2 : (s.i 63).toInt = (ceT c1 : Int) := ts
    have := hib.2
    omega
  have g66 : (s.a 66 (ceT c1)).toNatClampNeg = ceG c1 := by
    show (s.a 66 (ceT c1)).toInt.toNat = ceG c1
    omega
  rw [tp_nat ts, if_pos f2, g66] at hV
  obtain ⟨-, hV⟩ := hf_ite hV
  obtain ⟨q, hq, hV⟩ := hf_bind hV
  -- the chain
  obtain ⟨hD, inj, ord, lk, lw⟩ := hC.drop (by rw [h303]; unfold isTy; decide) (by rw [h303]; decide) (by rw [h303]; rfl) (by rw [h303]; rfl)
  obtain ⟨-, -, b0, col, hc⟩ := id hC.2.2.2.2.2.2.2.2.2.2
  have hx := (hc.2.2.1 c1 List.mem_cons_self go).1
  have e22 := pt_in (F := FRE S s (c :: L) (cdr (ceG c1) col) (b.i 20).toInt) (κ := (ceG c1, true)) hc (fun k hk => (hc.fre b0).1 k true hk) hx hq
  obtain ⟨hE, -⟩ := hD.e22 (hc.drop inj) e22
  obtain ⟨l1, x1, x2, ⟨x3, x4, x5, x6⟩, x7, x8⟩ := pt_ex hc hx hq
  have q75 : q.i 75 = S.i 36 := by rw [e22.1]; exact h75
  have q50 : q.a 50 = s.a 50 := e22.2.2.2.1 50 (by decide)
  -- the class
  unfold f_X7_endBody at e
  obtain ⟨-, e⟩ := hf_ite e
  rw [if_neg (by rw [h303]; decide), if_neg (by rw [h303]; decide), if_neg (by rw [h303]; decide), if_pos h303] at e
  obtain ⟨p, ep, e⟩ := hf_bind e
  obtain ⟨a1, a2, -, -⟩ := y_aim hv ep
  have hin := hC.inl tp (T := ceT c1 + wid (S.o c1.2.1 0)) rfl
  have hCp := hC.cx hin (by omega) a1 a2
  have eo : ∀ y ∈ c1 :: c :: L, p.2.o y.2.1 = S.o y.2.1 := fun y hy => (hin.o a2.z y hy).1
  have p36 : p.2.i 36 = S.i 36 := a2.1.2.1
  have eo1 := eo c1 List.mem_cons_self
  -- flags
  have fin : ∃ v : Int32, (v = 0 ∨ v = 1) ∧ (S.i 36 = 1 → v = 1) ∧ (s.a 50 (ceG c1) = 1 → v = 1) ∧ f_X12_over N (RS.setI q 43 (q.i 43 - 1)) v = some V ∧ f_X7_endBody_193 N E1 E2 (CS.setI p.2 36 v) c1.2.1 = some R := by
    rw [q75, q50] at hV
    rw [p36] at e
    by_cases z : S.i 36 = 0
    · rw [if_pos z] at hV e
      obtain ⟨p31, e31, e⟩ := hf_bind e
      obtain ⟨y1, y2⟩ := y_gone hCp (by rw [eo1]; exact go) (Or.inl ⟨rfl, rfl⟩) e31
      have y3 : p31.1 = s.a 50 (ceG c1) := y2.trans (if_pos rfl)
      rw [y1, y3] at e
      by_cases k : s.a 50 (ceG c1) = 0
      · rw [if_pos k] at hV e
        rw [ob_id] at hV
        exact ⟨0, Or.inl rfl, fun y => by rw [z] at y; exact absurd y (by decide), fun y => by rw [k] at y; exact absurd y (by decide), hV, e⟩
      · rw [if_neg k] at hV e
        rw [ob_id] at hV
        exact ⟨1, Or.inr rfl, fun _ => rfl, fun _ => rfl, hV, e⟩
    · rw [if_neg z] at hV e
      rw [ob_id] at hV
      exact ⟨1, Or.inr rfl, fun _ => rfl, fun _ => rfl, hV, e⟩
  obtain ⟨v, hv1, va, vf, ho, e193⟩ := fin
  -- the row goes
  have ng : nGo (S.o c1.2.1 0) = 1 := nGo1 go
  have q43 : q.i 43 = s.i 43 := by rw [e22.1]
  have g43 : (q.i 43 - 1).toInt = (q.i 43).toInt - 1 := by
    have e1 : (1 : Int32).toInt = 1 := by decide
    have hi := Int32.toInt_lt (q.i 43)
    have := tp.2.1
    rw [← q43] at this
    rw [toInt_sub] <;> rw [e1] <;> omega
  refine ⟨m2, V, g2, en_pop hE eo1 (tp.e22 e22) (by show (q.i 63).toInt = _; rw [e22.1]; exact ts) hm one (by rw [h303]; decide) (by rw [h303]; decide) (fun _ => by rw [e22.2.2.2.1 44 (by decide), f4]; decide) bz hT t9 lk (lw.e22 e22) (a1.e22 e22) a2 hv1 ho ⟨fun k hk => if_neg hk, rfl, rfl, rfl⟩ (by rw [ng]; exact g43) e193, fun _ jw => ?_⟩
  -- the code
  have hr0 : (vw S s c1).v = 303 := h303
  have goV : isGo (vw S s c1).v := go
  have nlo : ¬ isLo (vw S s c1).v := fun z => by
    rw [hr0] at z
    rcases z with z | z | z | z <;> exact absurd z (by decide)
  have nty : ¬ isTy (vw S s c1).v := fun z => by
    rw [hr0] at z
    rcases z with z | z | z | z <;> exact absurd z (by decide)
  have nsi : ∀ k : Nat, ¬ rsite (vw S s c1) k := fun k z => by
    unfold rsite at z
    rw [hr0] at z
    rcases z with ⟨z, -⟩ | ⟨z, -⟩ | ⟨z, -⟩ | ⟨z, -⟩
    · rcases z with z | z | z <;> exact absurd z (by decide)
    · exact absurd z (by decide)
    · rcases z with z | z <;> exact absurd z (by decide)
    · rcases z with z | z <;> exact absurd z (by decide)
  have gis := hC.gis
  have h44 : (S.i 44).toInt ≤ 900 := by
    rw [hv.p44.1]
    exact (i11_hi hv).2
  obtain ⟨ee, he1, he2⟩ : ∃ ee : Int, (ee = 1 ∨ (ee = 0 ∧ ALN (S.i 43))) ∧ (ee ≤ 0 ∨ (ee ≤ 1 ∧ ¬ ALN (S.i 43))) := by
    by_cases z : ALN (S.i 43)
    · exact ⟨0, Or.inr ⟨rfl, z⟩, Or.inl (Int.le_refl _)⟩
    · exact ⟨1, Or.inl rfl, Or.inr ⟨Int.le_refl _, z⟩⟩
  have rt : rtgs (vw S s c1) = [S.o c1.2.1 9] := by
    unfold rtgs
    rw [hr0, if_neg (by decide), if_pos (by decide)]
    rfl
  have j0 := JRW.clo (V := vws S s (c :: L)) (r := vw S s c1) (u := q) (u' := q) (S' := S) (l1 := l1) (l2 := []) (vb := s.i 20) (vc := 0) (vs := 0) (e := ee) (dr := 0) jw (fun z => z.c0 (by rw [hr0]; decide) (NK.eq rfl rfl (by rw [x3]) (by rw [x3]))) h44 mA (vws.pl hC) (fun _ y hy gy e => by have := gis y hy gy; have e' : y.2.2.2 = ceG c1 := e; omega) nty (by rw [hr0]; decide) (fun _ => ⟨x1, fun z => absurd z nlo⟩) ⟨x3, x6⟩ (fun _ j hj => x7 j hj) (fun z => absurd z nlo) (fun j z => absurd z (nsi j)) (fun j z _ _ => x8 j (z goV)) (D38.rf _) (D52.rf _) ⟨Or.inl rfl, rfl, rfl, rfl⟩ (fun _ _ _ => rfl) (clo_nm (by rw [hr0]; decide) nty (by rw [hr0]; decide) x3 (x6 40 (by decide))) (fun _ => dbr.ge _ _) he1
  rw [rt] at j0
  have j1 := JRG.aim (W1 := []) (W2 := []) (K' := fun FC SF nm X ω j Z => (cTg SF (S.o c1.2.1 9)).toInt = ((pcC S : Nat) : Int) ∧ KCL U (vw S s c1) S s (s.i 20) 0 0 FC SF nm X ω j Z) j0 ep h44 (by rcases he1 with z | ⟨z, -⟩ <;> omega) (fun FC SF nm X ω j Z h k => ⟨h, k⟩)
  have pcp : pcC p.2 = pcC S := by unfold pcC f_X0_aim at *; cases ep; rfl
  have prp : pcR q = pcR s := by
    unfold pcR
    rw [x3]
  have p43 : p.2.i 43 = S.i 43 := by unfold f_X0_aim at ep; cases ep; rfl
  have t43 := tp.2.1
  obtain ⟨jr, oR, aV⟩ := j1.pop1 (n := c.1) (q' := RS.setI q 43 (q.i 43 - 1)) (by omega) (by rw [p43]; exact he2) (by rw [a2.1.2.2.2.2.1]; have := tp.1; have := lk.1; omega) e193 ⟨fun k _ hk => if_neg hk, rfl⟩ (Int.le_refl _) ho (fun y hy gy => by
    have := gis y hy gy
    show ((y.2.2.2 : Nat) : Int) < (q.i 43 - 1).toInt
    rw [g43, q43]
    omega) (fun _ _ _ => rfl) rfl (Int.le_refl _) (Int.le_refl _) (fun FC SF nm X ω j Z hω r12 hcc k cur => by
    obtain ⟨ct, ⟨-, -, -⟩, G', -, -, hX⟩ := k
    have p20 := hv.p20
    have pS : (s.i 20).toInt = ((pcR s : Nat) : Int) := (Int.toNat_of_nonneg p20.1).symm
    have en : ∀ (h l : Nat), jen G' ω (vw S s c1) h l = [] := fun h l => jen.no (by rw [hr0]; decide) nty (by rw [hr0]; decide)
    have bk : jbk G' ω (vw S s c1) j = j := if_neg (by rw [hr0]; decide)
    rw [pcp, prp] at cur
    refine hX ⟨fun z => absurd (hr0.symm.trans z) (by decide), fun z => absurd (hr0.symm.trans z) (by decide), fun z => absurd (hr0.symm.trans z) (by decide), fun z => absurd (hr0.symm.trans z) (by decide), fun z => absurd (hr0.symm.trans z) (by decide), fun z => absurd (hr0.symm.trans z) (by decide), fun z => absurd (hr0.symm.trans z) (by decide), fun z => absurd z nty, fun _ => noc.gl⟩ (fun _ => ⟨fun fl => ?_, fun z => absurd z nlo⟩) (fun h1 => ?_)
    · have f1 : s.a 50 (ceG c1) = 1 := fl
      rw [bk]
      exact ⟨_, _, ct, pS, (cur (vf f1)).1⟩
    · have jl : jlv (vw S s c1).v = 0 := by rw [hr0]; rfl
      rw [en, jl]
      exact cur (va h1))
  have veq : vws R.2 V (c :: L) = vws S s (c :: L) := vws.eqf (T := ceT c1) (fun j _ => by rw [aV, x6 40 (by omega)]) (c :: L) hD.o3 (fun y hy => by rw [oR]; exact eo y (List.mem_cons_of_mem _ hy)) (fun k t h1 h2 _ => by rw [aV, x6 k (by omega)]) (fun y hy => by
    have z := STK.inl L c _ _ _ hD.2.1 (by have := tp.1; have := lk.1; omega) (by have := tp.2.1; have := lk.2.2.1; omega) (by have := tp.2.2; have := lk.2.2.2.1; omega)
    rw [← lk.2.1] at z
    have z1 := (z y hy).2.2.1
    have z2 := wid1 (S.o y.2.1 0)
    omega)
  rw [veq]
  exact jr
