section
/-! both readers: setters in another order -/
theorem cm_add {N k : Nat} {S : CS} {v o x : Int32} {R : Unit × CS} (hk : k ≠ 20) (e : f_X0_add N (CS.setI S k v) o x = some R) : ∃ R' : Unit × CS, f_X0_add N S o x = some R' ∧ R.2 = CS.setI R'.2 k v := by
  have e20 : (CS.setI S k v).i 20 = S.i 20 := ci_ne _ _ _ (fun z => hk z.symm)
  unfold f_X0_add at e
  rw [e20] at e
  refine ⟨_, rfl, ?_⟩
  rw [← Option.some.inj e]
  exact csI_comm (s := CS.putA (CS.putA S 15 (gPut (S.a 15) 1200 (S.i 20) o)) 16 (gPut (CS.a (CS.putA S 15 (gPut (S.a 15) 1200 (S.i 20) o)) 16) 1200 (S.i 20) x)) (v := v) (w := S.i 20 + 1) hk
theorem cm_aim {N k : Nat} {S : CS} {v x : Int32} {R : Unit × CS} (hk : k ≠ 20) (e : f_X0_aim N (CS.setI S k v) x = some R) : ∃ R' : Unit × CS, f_X0_aim N S x = some R' ∧ R.2 = CS.setI R'.2 k v := by
  have e20 : (CS.setI S k v).i 20 = S.i 20 := ci_ne _ _ _ (fun z => hk z.symm)
  unfold f_X0_aim at e
  rw [e20] at e
  refine ⟨_, rfl, ?_⟩
  rw [← Option.some.inj e]
  rfl
theorem cm_leave {N k : Nat} {S : CS} {v x y : Int32} {R : Unit × CS} (hk : k ≠ 20) (hk2 : k ≠ 38) (e : f_X7_leave N (CS.setI S k v) x y = some R) : ∃ R' : Unit × CS, f_X7_leave N S x y = some R' ∧ R.2 = CS.setI R'.2 k v := by
  have e38 : (CS.setI S k v).i 38 = S.i 38 := ci_ne _ _ _ (fun z => hk2 z.symm)
  unfold f_X7_leave at e ⊢
  rw [e38] at e
  by_cases c : y = S.i 38
  · rw [if_pos c] at e ⊢
    obtain ⟨R', h1, h2⟩ := cm_add hk (ob_un e)
    exact ⟨R', by rw [h1]; rfl, h2⟩
  · rw [if_neg c] at e ⊢
    obtain ⟨R', h1, h2⟩ := cm_add hk (ob_un e)
    exact ⟨R', by rw [h1]; rfl, h2⟩
theorem kd_leave {N : Nat} {S : CS} {x y : Int32} {R : Unit × CS} (e : f_X7_leave N S x y = some R) : pj2 R.2 = pj2 S := by
  unfold f_X7_leave at e
  by_cases c : y = S.i 38
  · rw [if_pos c] at e
    exact kd_X0_add N S _ _ R (ob_un e)
  · rw [if_neg c] at e
    exact kd_X0_add N S _ _ R (ob_un e)
theorem cm_emit {N k : Nat} {s : RS} {v o x : Int32} {R : Int32 × RS} (hk : k ≠ 20) (e : f_X12_emit N (RS.setI s k v) o x = some R) : ∃ R' : Int32 × RS, f_X12_emit N s o x = some R' ∧ R.1 = R'.1 ∧ R.2 = RS.setI R'.2 k v := by
  have e20 : (RS.setI s k v).i 20 = s.i 20 := if_neg (fun z => hk z.symm)
  have key : ∀ y : Int32, f_X12_emit_21 N (RS.setI s k v) o x y = some R → ∃ R' : Int32 × RS, f_X12_emit_21 N s o x y = some R' ∧ R.1 = R'.1 ∧ R.2 = RS.setI R'.2 k v := fun y h => by
    unfold f_X12_emit_21 at h ⊢
    obtain ⟨hi, h⟩ := hf_ite h
    rw [if_pos hi]
    refine ⟨_, rfl, ?_, ?_⟩
    · rw [← Option.some.inj h]
    · rw [← Option.some.inj h]
      exact rsI_comm (r := RS.setA (RS.setA (RS.setA s 21 (y : Int32).toNatClampNeg o) 22 (y : Int32).toNatClampNeg x) 23 (y : Int32).toNatClampNeg 0) hk
  unfold f_X12_emit at e ⊢
  rw [e20] at e
  by_cases c : 3000 ≤ s.i 20
  · rw [if_pos c] at e ⊢
    exact key _ e
  · rw [if_neg c] at e ⊢
    exact key _ e
theorem ENV.s63 {d : Int32} {S : CS} {s : RS} {v : Int32} (h : ENV d S s) : ENV d S (RS.setI s 63 v) := h.kq rfl rfl rfl rfl rfl rfl rfl rfl rfl rfl rfl rfl rfl rfl rfl rfl rfl rfl rfl rfl ⟨h.2.2.2.2.2.2.1, h.2.2.2.2.2.2.2.1⟩ (h.wp.of (Int.le_refl _) rfl rfl rfl rfl rfl)
theorem COR.s63 {d : Int32} {B : CS} {b : RS} {t0 T : Nat} {L : List CEL} {x : Int} {S : CS} {s : RS} {v : Int32} (h : COR d B b t0 L x S s) (hin : INL S s T L) (hT : t0 ≤ T) : COR d B b t0 L x S (RS.setI s 63 v) := h.mv hin hT h.1.s63 (fun _ _ => ⟨rfl, rfl, rfl, rfl, rfl, rfl, rfl, rfl, rfl, rfl, rfl⟩) (TBK.rf s).1.r (TBK.rf s).2 ⟨rfl, rfl, rfl, rfl, rfl, rfl, rfl, rfl, rfl⟩ (CKZ.rf S) ⟨rfl, rfl, rfl⟩ ⟨Int.le_refl _, Int.le_refl _, Int.le_refl _⟩ ⟨Int.le_refl _, Int.le_refl _, Int.le_refl _, rfl⟩ h.2.2.2.2.2.2.2.2.1.2.1 (Int.le_refl _)
/-- less deep -/
theorem ENV.dps {d : Int32} {S : CS} {s : RS} {v : Int32} (h : ENV d S s) (h0 : 0 ≤ v.toInt) (h1 : v.toInt ≤ (S.i 38).toInt) : ENV d (CS.setI S 38 v) s := by
  refine h.gx (fun j _ _ q _ _ _ _ => ci_ne _ _ _ q) ⟨rfl, rfl, rfl⟩ rfl rfl (h.ri.mv rfl rfl rfl rfl ⟨rfl, rfl, rfl⟩ h.ri.2.2.2.2.2.2 (Int.le_refl _)) ?_ h.t21
  have z := h.sj
  have i54 : (CS.setI S 38 v).i 54 = S.i 54 ∧ (CS.setI S 38 v).i 55 = S.i 55 ∧ (CS.setI S 38 v).i 38 = v := ⟨rfl, rfl, rfl⟩
  unfold SJB at *
  rw [i54.1, i54.2.1, i54.2.2]
  omega
/-- a row goes that is deeper -/
theorem COR.dropD {d : Int32} {B : CS} {b : RS} {t0 : Nat} {L : List CEL} {x : Int} {S : CS} {s : RS} {c1 c : CEL} {v : Int32} (h : COR d B b t0 (c1 :: c :: L) x S s) (nt : ¬ isTy (S.o c1.2.1 0)) (ns : ¬ S.o c1.2.1 0 = 218) (hv : v.toInt = (S.i 38).toInt - (nDp (S.o c1.2.1 0) : Int)) (hB : 0 ≤ (B.i 38).toInt) {w : Int32} (hw : w.toInt = (b.i 19).toInt + (nSg (S.o c1.2.1 0) : Int)) : COR d B (RS.setI b 19 w) t0 (c :: L) (-9) (CS.setI S 38 v) s ∧ (∀ y ∈ c :: L, isGo (S.o y.2.1 0) → ¬ ceG y = ceG c1) ∧ (∀ y ∈ c :: L, y.1 < c1.1) ∧ LNK S c1 c ∧ LOW S s c := by
  obtain ⟨h1, h2, h3, h4, h5, h6, ⟨h10, h11, h12, hsg⟩, h13, h14, h17, ⟨h18, h19, h20, col, h21⟩⟩ := h
  have ord := STK.ord (c :: L) c1 _ _ _ h2
  obtain ⟨inj1, inj2⟩ := STK.inj (c1 :: c :: L) _ _ _ h2
  have inj : ∀ y ∈ c :: L, isGo (S.o y.2.1 0) → ¬ ceG y = ceG c1 := fun y hy g z => by
    have := (inj2 y (List.mem_cons_of_mem _ hy) c1 List.mem_cons_self (ord y hy)).2.1
    have := nGo1 g
    omega
  have st := STK.drop h2
  rw [if_neg ns] at st
  have d0 : 0 ≤ dbt (S.o c1.2.1 0) := by
    unfold dbt
    by_cases c1' : S.o c1.2.1 0 = 205 ∨ S.o c1.2.1 0 = 207
    · rw [if_pos c1']; omega
    · rw [if_neg c1']
      by_cases c2 : S.o c1.2.1 0 = 304
      · rw [if_pos c2]; omega
      · rw [if_neg c2]; omega
  have e1 : PDM S (c1 :: c :: L) = dbt (S.o c1.2.1 0) + PDM S (c :: L) := rfl
  have e2 : DSM S (c1 :: c :: L) = (nDp (S.o c1.2.1 0) : Int) + DSM S (c :: L) := rfl
  rw [e1] at h11
  rw [e2] at h13
  obtain ⟨h13, h13b⟩ := h13
  have cf : cfl S (c :: L) (S.i 22).toInt = (B.i 22).toInt := by
    have z := h13b.2.2.1
    have e3 : cfl S (c1 :: c :: L) (S.i 22).toInt = cfl S (c :: L) (if S.o c1.2.1 0 = 218 then (S.o c1.2.1 13).toInt else (S.i 22).toInt) := rfl
    rw [e3, if_neg ns] at z
    exact z
  obtain ⟨m', e', k', g1, g2, g3⟩ := h2
  obtain ⟨l1, l2⟩ := g2 c rfl
  have ds := (PDM.ge S (c :: L)).2
  have dn : 0 ≤ v.toInt := by omega
  have eo : ∀ y ∈ c :: L, (CS.setI S 38 v).o y.2.1 = S.o y.2.1 := fun _ _ => rfl
  obtain ⟨ed, ep⟩ := DSM.eq (c :: L) eo
  have jq : JMQ (CS.setI S 38 v) s (c :: L) (b.i 59).toInt (b.i 29).toInt := h3.drop nt ord
  have lb : LBC (CS.setI S 38 v) s (c :: L) (-9) := LBC.mv (c :: L) (-9) h4.drop eo (fun _ _ _ => rfl)
  have cl : COL (CS.setI S 38 v) s (c :: L) (cdr (ceG c1) col) (b.i 20).toInt := h21.drop inj
  have stv : STK (CS.setI S 38 v) s (c :: L) (S.i 22).toInt (s.i 24).toInt (s.i 33).toInt := STK.eo (S := S) (R := CS.setI S 38 v) rfl rfl (c :: L) _ _ _ (fun _ _ => ⟨rfl, rfl⟩) st
  have cfv : cfl (CS.setI S 38 v) (c :: L) (S.i 22).toInt = (B.i 22).toInt := (cfl.eq (c :: L) _ eo).trans cf
  have e5 : SSM S (c1 :: c :: L) = (nSg (S.o c1.2.1 0) : Int) + SSM S (c :: L) := rfl
  rw [e5] at hsg
  have hsw : (s.i 19).toInt = w.toInt + SSM (CS.setI S 38 v) (c :: L) := by rw [SSM.eo (c :: L) eo]; omega
  have hph : phI b + PDM (CS.setI S 38 v) (c :: L) ≤ phI s := by
    rw [ep]
    omega
  have hds : v.toInt = (B.i 38).toInt + DSM (CS.setI S 38 v) (c :: L) := by
    rw [ed]
    omega
  exact ⟨⟨h1.dps dn (by omega), stv, jq, lb, h5, h6, ⟨h10, hph, h12, hsw⟩, ⟨hds, fun y hy => h13b.1 y (List.mem_cons_of_mem _ hy), fun y hy z hz => h13b.2.1 y (List.mem_cons_of_mem _ hy) z (List.mem_cons_of_mem _ hz), cfv, fun y hy => h13b.2.2.2 y (List.mem_cons_of_mem _ hy)⟩, h14, h17, ⟨h18, h19, h20, _, cl⟩⟩, inj, ord, l1, l2⟩
end
section
/-! both readers: a lock's end -/
/-- one sign less behind a row that had one -/
theorem pop_sg {d : Int32} {A X : CS} {q V : RS} {n : Nat} (evA : ENV d A q) (er : X.r = A.r) (eo : X.o = A.o) (eol : X.ol = A.ol) (cnA : (A.i 53).toInt = (n : Int) + 1) (cnX : (X.i 53).toInt = (n : Int)) (sg1 : 1 ≤ sgn A (rowA A n)) (evX : ENV d X V) (e19 : V.i 19 = q.i 19) : ENV d (CS.setI X 34 (A.i 34 - 1)) (RS.setI V 19 (q.i 19 - 1)) := by
  have rw8 := evA.ri.2.2.2.2.2.2
  have nrA := evA.ri.2.2.2.1.2
  have tn : (cnI A).toNat = n + 1 := by
    have : cnI A = (A.i 53).toInt := rfl
    omega
  rw [tn] at rw8 nrA
  have e2' : SGS A (n + 1) = SGS A n + sgn A (rowA A n) := rfl
  have sg0 := (BAS (s := A) n).2.2.2.1
  have o34 := evA.2.2.1
  have s34 : sgI A = (q.i 19).toInt := by
    unfold sgI
    rw [o34.1]
  have s19 : (q.i 19 - 1).toInt = (q.i 19).toInt - 1 := by
    have e1 : (1 : Int32).toInt = 1 := by decide
    rw [toInt_sub] <;> rw [e1] <;> omega
  have xs : SGS X n = SGS A n := by
    have rs : RSQ A X n := fun i _ => ⟨by rw [er], fun a _ => ⟨by rw [eo], by rw [eol]⟩⟩
    exact (rs.sums (fun i hi => nrA i (by omega))).2.1
  refine evX.sg (v := A.i 34 - 1) (w := q.i 19 - 1) (by rw [o34.1]) (by omega) (by have := o34.2.2; omega) ?_
  have cx : (cnI X).toNat = n := by
    have : cnI X = (X.i 53).toInt := rfl
    omega
  rw [cx, xs, o34.1, s19]
  omega
/-- aimed also where the depth is another -/
theorem aim_sh {N : Nat} {S : CS} {x D : Int32} {p : Unit × CS} (e : f_X0_aim N S x = some p) : f_X0_aim N (CS.setI S 38 D) x = some ((), CS.setI p.2 38 D) := by
  unfold f_X0_aim at e ⊢
  cases e
  rfl
/-- what a leave lays -/
theorem lv_add {N : Nat} {S : CS} {x y : Int32} {R : Unit × CS} (e : f_X7_leave N S x y = some R) : ∃ (o w : Int32) (p : Unit × CS), f_X0_add N S o w = some p ∧ p.2 = R.2 ∧ ((o = 60 ∧ w = x * 32 + y) ∨ (o = 30 ∧ y = S.i 38)) := by
  unfold f_X7_leave at e
  by_cases c : y = S.i 38
  · rw [if_pos c] at e
    exact ⟨_, _, _, ob_un e, rfl, Or.inr ⟨rfl, c⟩⟩
  · rw [if_neg c] at e
    exact ⟨_, _, _, ob_un e, rfl, Or.inl ⟨rfl, rfl⟩⟩
set_option maxHeartbeats 4000000 in
theorem en_lock {N : Nat} (hN : 1000 ≤ N) {d : Int32} {B : CS} {b : RS} {t0 n : Nat} {L : List CEL} {x : Int} {S : CS} {s U : RS} {c1 c : CEL} {R : Unit × CS} {Aj : JBA} (mA : JBM U Aj) (hC : COR d B b t0 (c1 :: c :: L) x S s) (tp : TOP S s c1) (hM : MLI c1 S s) (h36 : S.i 36 = 0 ∨ S.i 36 = 1) (h212 : S.o c1.2.1 0 = 212) (k125 : S.i 43 = 125) (bz : BAZ B b (c1 :: c :: L)) (hB : 0 ≤ (B.i 38).toInt) (hT : t0 ≤ ceT c1) (e : f_X7_endList N S c1.2.1 = some R) (g : f_X12_parse_10 N n s = some U) : ∃ (m : Nat) (u : RS), f_X12_parse_10 N m u = some U ∧ POPD d B b t0 c L R.2 u ∧ JTR Aj U B b (c1 :: c :: L) S s (vws R.2 u (c :: L)) R.2 u := by
  obtain ⟨no1, n305, ts, h64, hmode, -⟩ := hM
  have wd : wid (S.o c1.2.1 0) = 3 := by rw [h212]; rfl
  have ix : ceT c1 + wid (S.o c1.2.1 0) - 1 = ceT c1 + 2 := by omega
  rw [ix] at h64 hmode
  have ts' : tpI s = ((ceT c1 + 2 : Nat) : Int) := by rw [ts, wd]; omega
  have hv := hC.1
  have k10 := (tk_is hv (a := 125) (b := 125) (Or.inl ⟨by decide, by decide⟩) (by decide)).mp k125
  obtain ⟨m1, e1, k1, m2, e2, k2, cst⟩ := STK.mem _ _ _ _ hC.2.1 c1 List.mem_cons_self
  obtain ⟨f1, f2, ⟨f3, f4, f5⟩, f6⟩ := cst.2.2.1.2.2.2.2.2.2.2.2.2.2.1 h212
  obtain ⟨m0, V0, g0, n1, n2, n3, n4, n5, n6, n7, n8, n9, n10'⟩ := y_lend hv ts' h64 hmode h36 (Or.inl k10) g
  have fT := n3 (ceT c1 + 1) (by omega)
  have fT0 := n3 (ceT c1) (by omega)
  have tV : tpI V0 = ((ceT c1 + 1 : Nat) : Int) := by rw [n2]; omega
  -- the row goes
  have ngo : ¬ isGo (S.o c1.2.1 0) := by rw [h212]; unfold isGo; decide
  have dp1 : nDp (S.o c1.2.1 0) = 1 := by rw [h212]; rfl
  have s38 : (S.i 38).toInt = (B.i 38).toInt + DSM S (c1 :: c :: L) := hC.2.2.2.2.2.2.2.1.1
  have ed : DSM S (c1 :: c :: L) = (nDp (S.o c1.2.1 0) : Int) + DSM S (c :: L) := rfl
  have ds := (PDM.ge S (c :: L)).2
  have v38 : (S.i 38 - 1).toInt = (S.i 38).toInt - 1 := by
    have e1 : (1 : Int32).toInt = 1 := by decide
    have hi := Int32.toInt_lt (S.i 38)
    rw [toInt_sub] <;> rw [e1] <;> omega
  obtain ⟨v, hvv⟩ : ∃ v : Int32, v = S.i 38 - 1 := ⟨_, rfl⟩
  rw [← hvv] at v38
  obtain ⟨w0, hw0⟩ := b19_up hC
  obtain ⟨hD, inj, ord, lk, lw⟩ := hC.dropD (v := v) (by rw [h212]; unfold isTy; decide) (by rw [h212]; decide) (by rw [dp1]; exact v38) hB (w := w0) (by rw [h212]; show _ = _ + ((1 : Nat) : Int); omega)
  have hinD : INL S s (ceT c1) (c :: L) := hC.inlB tp
  have fr0 : FRB (ceT c1) s V0 := n3.mo (by omega)
  have hD0 := hD.mv3 hinD hT (n1.dps (v := v) (by omega) (by omega)) fr0 n4 ⟨by rw [n8]; exact Int.le_refl _, by rw [n6]; exact hD.2.2.2.2.2.2.1.2.1, by rw [n9]; exact Int.le_refl _, by rw [n10'.1]⟩
  obtain ⟨t1, t2, t3, t4, t5, t6, t7, t8, t9, t10⟩ := n4.1.1
  have hin0 : INL S V0 (ceT c1) (c :: L) := hinD.mv (CKZ.rf S) rfl t5 t7
  -- the reference's block
  obtain ⟨m2, V, hV, g2⟩ := rl_3 g0 tV n1.1.2.1 (fT.1.trans f3)
  unfold f_X12_block at hV
  obtain ⟨hib, hV⟩ := hf_ite hV
  have tt : ceT c1 + 1 < 1000 := by
    have h2 : (V0.i 63).toInt = ((ceT c1 + 1 : Nat) : Int) := tV
    have := hib.2
    omega
  rw [tp_nat tV, if_neg (show ¬ V0.a 65 (ceT c1 + 1) = 0 by rw [fT.2.1, f4]; decide)] at hV
  obtain ⟨p3, hsh, hV⟩ := hf_bind hV
  -- the class
  unfold f_X7_endList at e
  obtain ⟨-, e⟩ := hf_ite e
  rw [if_neg (by rw [h212]; decide), if_neg (by rw [h212]; decide)] at e
  unfold f_X7_endList_72 at e
  obtain ⟨p4, e4, e⟩ := hf_bind e
  obtain ⟨A, q, eA, hq, evA, R4, V4, -⟩ := y_clsA hN n1 (c := 125) (d := 125) (Or.inl ⟨by decide, by decide⟩) (by decide) (by decide) (by decide) k125 e4 hsh
  obtain ⟨-, a2, a3, a4, a5, a6, a7, a8, a9, a10⟩ := n1.adv hN (by rw [k125]; decide) eA hq
  have ck := CKX.of a3 a8 a9
  have tk := TBK.of a2 (by rw [a6]; exact Int.le_refl _) (fun j _ => by rw [a7])
  have q17 : (q.i 17).toInt = (V0.i 17).toInt + 1 := by rw [a4, t17_up (N := N) n1]
  have phq : phI q = phI V0 + 3 := by
    unfold phI
    rw [a6, q17]
    omega
  obtain ⟨u1, u2, u3, u4, u5, u6, u7, u8, u9, u10⟩ := tk.1.1
  have nn8 := hD0.2.2.2.2.2.2.2.2.1.2.1
  have A38 : A.2.i 38 = S.i 38 := ck.1.2.2.1
  have hD1 := hD0.mv hin0 hT (evA.dps (v := v) (by omega) (by rw [A38]; omega)) (FRB.of a2) tk.1.r tk.2 ⟨u1, u2, u3, u5, u6, u7, u8, u9, u10⟩ ck.z ⟨rfl, ck.1.2.2.2.2.1, ck.1.2.2.2.2.2⟩ ck.2.2.2.2.2.2.2.2 ⟨by omega, by omega, by omega, by rw [a10]⟩ (by rw [u4]; omega) (by rw [u4]; exact Int.le_refl _)
  have hin1 : INL A.2 q (ceT c1) (c :: L) := hin0.mv ck.z ck.1.2.2.2.2.1 u5 u7
  have hinC := hC.inl tp (T := ceT c1 + wid (S.o c1.2.1 0)) rfl
  have eo : ∀ z ∈ c1 :: c :: L, A.2.o z.2.1 = S.o z.2.1 := fun z hz => (hinC.o ck.z z hz).1
  have eo1 := eo c1 List.mem_cons_self
  have eoc := eo c (List.mem_cons_of_mem _ List.mem_cons_self)
  obtain ⟨-, e⟩ := hf_ite e
  have o4 : ∀ w : Int32, (CS.setI p4.2 50 w).o c1.2.1 0 = 212 := fun w => by
    show p4.2.o c1.2.1 0 = 212
    rw [R4]
    show A.2.o c1.2.1 0 = 212
    rw [eo1]
    exact h212
  rw [if_pos (o4 _)] at e
  have ep := ob_un e
  unfold f_X7_endLock at ep
  obtain ⟨-, ep⟩ := hf_ite ep
  obtain ⟨q2, eq2, ep⟩ := hf_bind ep
  obtain ⟨-, ep⟩ := hf_ite ep
  obtain ⟨q7, eq7, ep⟩ := hf_bind ep
  have epp := ob_un ep
  have o3 : p4.2.o c1.2.1 3 = A.2.o c1.2.1 3 := by rw [R4]; rfl
  rw [o3, R4] at eq2
  obtain ⟨l1, el1, hl1⟩ := cm_leave (by decide) (by decide) eq2
  obtain ⟨l2, el2, hl2⟩ := cm_leave (by decide) (by decide) el1
  rw [hl1, hl2] at eq7
  obtain ⟨r1, er1, hr1⟩ := cm_aim (by decide) eq7
  obtain ⟨r2, er2, hr2⟩ := cm_aim (by decide) er1
  have kdD : pj2 r2.2 = pj2 A.2 := (kd_X0_aim N _ _ r2 er2).trans (kd_leave el2)
  obtain ⟨D, hDD⟩ : ∃ D, D = r2.2 := ⟨_, rfl⟩
  have q7e : q7.2 = CS.setI (CS.setI D 34 (A.2.i 34 - 1)) 50 (A.2.o c1.2.1 3) := by rw [hr1, hr2, hDD]
  rw [← hDD] at kdD
  have el2' : f_X7_leave N A.2 (A.2.o c1.2.1 9) (A.2.o c1.2.1 2) = some l2 := el2
  have er2' : f_X0_aim N l2.2 (l2.2.o c1.2.1 9) = some r2 := er2
  have hDr := hDD
  clear hDD hr1 hr2 er1 er2 hl1 hl2 el1 el2 eq7 eq2 ep e
  obtain ⟨⟨z1, z2, z3, z4⟩, ⟨z5, z6⟩, ⟨z7, z8, z9, z10, z11⟩, ⟨z12, z13, z14, z15, z16, z17, z18⟩⟩ := kd_all kdD
  have pjD := pj2_eq kdD
  have ckD : CKX A.2 D := CKX.of pjD.1 z8 pjD.2.2.2.2.2.2.2.2.2.2.2
  have evD : ENV d D q := evA.kd kdD
  have D38 : D.i 38 = S.i 38 := z11.trans A38
  have hD2 := hD1.mv hin1 hT (evD.dps (v := v) (by omega) (by rw [D38]; omega)) (FRB.rf _ _) (TBK.rf q).1.r (TBK.rf q).2 ⟨rfl, rfl, rfl, rfl, rfl, rfl, rfl, rfl, rfl⟩ ckD.z ⟨rfl, ckD.1.2.2.2.2.1, ckD.1.2.2.2.2.2⟩ ckD.2.2.2.2.2.2.2.2 ⟨Int.le_refl _, Int.le_refl _, Int.le_refl _, rfl⟩ (by rw [u4]; omega) (Int.le_refl _)
  have hin2 : INL D q (ceT c1) (c :: L) := hin1.mv ckD.z ckD.1.2.2.2.2.1 rfl rfl
  have A53 : A.2.i 53 = S.i 53 := ck.1.2.2.2.2.1
  have i53 : (CS.setI q7.2 38 (q7.2.i 38 - 1)).i 53 = D.i 53 := by
    rw [ci_ne _ _ _ (by decide), q7e, ci_ne _ _ _ (by decide), ci_ne _ _ _ (by decide)]
  have D53 : D.i 53 = S.i 53 := z15.trans A53
  obtain ⟨p1', p2'⟩ := e_pop (n := c.1) (by rw [i53, D53]; have := tp.1; have := lk.1; omega) epp
  rw [i53] at p1' p2'
  have q738 : q7.2.i 38 - 1 = v := by
    rw [q7e, ci_ne _ _ _ (by decide), ci_ne _ _ _ (by decide), D38]
    exact hvv.symm
  rw [q738, q7e, csI_comm (s := D) (j := 34) (k := 50) (by decide), csI_comm (j := 34) (k := 38) (by decide), csI_comm (j := 34) (k := 53) (by decide), csI_comm (s := D) (j := 50) (k := 38) (by decide)] at p1'
  -- the reference's lock
  have q66 : q.a 66 (ceT c1 + 1) = A.2.o c1.2.1 3 := by
    rw [((FRB.of a2 : FRB (ceT c1 + 2) V0 q) (ceT c1 + 1) (by omega)).2.2.1, fT.2.2.1, f6, eo1]
  have hVe : V = RS.setI (RS.setI (RS.setI q 19 (q.i 19 - 1)) 38 (A.2.o c1.2.1 3)) 63 (q.i 63 - 1) := by
    rw [V4] at hV
    have z := Option.some.inj hV
    rw [← z, ← q66]
    rfl
  have tq : tpI q = ((ceT c1 + 1 : Nat) : Int) := qj_63 a2 tV
  have t63 : (q.i 63 - 1).toInt = (ceT c1 : Int) := by
    have z := tp_sub tq tt
    omega
  have qT := (FRB.of a2 : FRB (ceT c1 + 1) V0 q) (ceT c1) (by omega)
  have tVV : tpI V = (ceT c1 : Int) := by
    rw [hVe]
    exact t63
  obtain ⟨m3, V2, hV2, g3⟩ := rl_13 g2 tVV (by rw [hVe]; exact evA.1.2.1) (by rw [hVe]; exact qT.1.trans (fT0.1.trans f1))
  unfold f_X12_lock at hV2
  obtain ⟨-, hV2⟩ := hf_ite hV2
  rw [tp_nat tVV, if_neg (show ¬ V.a 65 (ceT c1) = 0 by rw [hVe]; show ¬ q.a 65 (ceT c1) = 0; rw [qT.2.1, fT0.2.1, f2]; decide)] at hV2
  obtain ⟨p5, hp5, hV2⟩ := hf_bind hV2
  rw [hVe] at hp5
  obtain ⟨y1, hy1, -, w1⟩ := cm_emit (by decide) hp5
  obtain ⟨y2, hy2, -, w2⟩ := cm_emit (by decide) hy1
  obtain ⟨em, hem, -, w3⟩ := cm_emit (by decide) hy2
  have p5e : p5.2 = RS.setI (RS.setI (RS.setI em.2 19 (q.i 19 - 1)) 38 (A.2.o c1.2.1 3)) 63 (q.i 63 - 1) := by rw [w1, w2, w3]
  have ph1 : 1 ≤ phI q := by
    have := n1.2.2.2.2.2.2.2.1
    omega
  obtain ⟨x1, x2, x3, x4, x5, x6, x7, x8, x9, x10, x11⟩ := y_emit (evD.dps (v := v) (by omega) (by rw [D38]; omega)) tq ph1 hem
  have qjm := (qj2_eq (em_env evD ph1 hem).2.2.1).1
  have hD3 := hD2.mv3 hin2 hT x1 (x3 _) x4 ⟨by rw [x8]; exact Int.le_refl _, by
    have z := hD0.2.2.2.2.2.2.1.2.1
    obtain ⟨ee1, ee2⟩ := DSM.eq (S := CS.setI S 38 v) (R := CS.setI D 38 v) (c :: L) (fun y hy => by
      show D.o y.2.1 = S.o y.2.1
      rw [z2]
      exact eo y (List.mem_cons_of_mem _ hy))
    rw [ee2]
    omega, by rw [x9]; exact Int.le_refl _, by rw [x10]⟩
  obtain ⟨y1', y2', y3', y4', y5', y6', y7', y8', y9', y10'⟩ := x4.1.1
  have hin3 : INL (CS.setI D 38 v) em.2 (ceT c1) (c :: L) := hin2.mv (CKZ.rf D) rfl y5' y7'
  have hD4 := hD3.s63 (v := q.i 63 - 1) hin3 hT
  have V2e : V2 = RS.setI (RS.setI (RS.setI (RS.setI (RS.setI em.2 63 (q.i 63 - 1)) 38 (A.2.o c1.2.1 3)) 52 (em.2.i 52 - 1)) 63 (q.i 63 - 1 - 1)) 19 (q.i 19 - 1) := by
    have z : V2 = RS.setI (RS.setI p5.2 52 (p5.2.i 52 - 1)) 63 (p5.2.i 63 - 1) := (Option.some.inj hV2).symm
    have z2 : p5.2.i 52 = em.2.i 52 ∧ p5.2.i 63 = q.i 63 - 1 := by
      rw [p5e]
      exact ⟨rfl, rfl⟩
    rw [z, z2.1, z2.2, p5e, rsI_comm (r := em.2) (j := 19) (k := 38) (by decide), rsI_comm (r := RS.setI em.2 38 (A.2.o c1.2.1 3)) (j := 19) (k := 63) (by decide), rsI_comm (r := em.2) (j := 38) (k := 63) (by decide), rsI_comm (j := 19) (k := 52) (by decide), rsI_comm (j := 19) (k := 63) (by decide)]
  obtain ⟨qq, hqq⟩ : ∃ qq, qq = RS.setI (RS.setI (RS.setI em.2 63 (q.i 63 - 1)) 38 (A.2.o c1.2.1 3)) 52 (em.2.i 52 - 1) := ⟨_, rfl⟩
  have qqi : ∀ k : Nat, k ≠ 38 → k ≠ 43 → k ≠ 52 → qq.i k = (RS.setI em.2 63 (q.i 63 - 1)).i k := fun k h1 _ h3 => by
    rw [hqq]
    exact (if_neg h3).trans (if_neg h1)
  have qq43 : qq.i 43 = em.2.i 43 := by rw [hqq]; rfl
  have qq38 : qq.i 38 = A.2.o c1.2.1 3 := by rw [hqq]; rfl
  have qqr : qq.l = em.2.l ∧ qq.a = em.2.a ∧ qq.b = em.2.b := by rw [hqq]; exact ⟨rfl, rfl, rfl⟩
  have qq63 : qq.i 63 = q.i 63 - 1 := by rw [hqq]; rfl
  rw [← hqq] at V2e
  have em75 : em.2.i 75 = S.i 36 := by
    rw [(qj_eq qjm).2.2.2.2.2.2.2.2.2.2.2.2.2.2.2.2.2.1, (qj_eq a2).2.2.2.2.2.2.2.2.2.2.2.2.2.2.2.2.2.1]
    exact n5
  have qq75 : qq.i 75 = S.i 36 := by rw [hqq]; exact em75
  have ho : f_X12_over N qq (S.i 36) = some (RS.setI qq 63 (q.i 63 - 1 - 1)) := by
    unfold f_X12_over
    rw [if_pos h36, rsI_id qq75, qq63]
  have qq52 : qq.i 52 = em.2.i 52 - 1 := by rw [hqq]; rfl
  clear hqq
  have e43 : em.2.i 43 = s.i 43 := by rw [y5', u5, t5]
  have e56 : em.2.i 56 = s.i 56 := by rw [y7', u7, t7]
  have oD : ∀ z ∈ c1 :: c :: L, D.o z.2.1 = S.o z.2.1 := fun z hz => by rw [z2]; exact eo z hz
  have oD1 := oD c1 List.mem_cons_self
  have oDc := oD c (List.mem_cons_of_mem _ List.mem_cons_self)
  have tpD : TOP (CS.setI D 38 v) (RS.setI em.2 63 (q.i 63 - 1)) c1 := ⟨by show (D.i 53).toInt = _; rw [D53]; exact tp.1, by show (em.2.i 43).toInt = (ceG c1 : Int) + (nGo (D.o c1.2.1 0) : Int); rw [e43, oD1]; exact tp.2.1, by show (em.2.i 56).toInt = (ceW c1 : Int) + (nWl (D.o c1.2.1 0) : Int); rw [e56, oD1]; exact tp.2.2⟩
  have lkD : LNK (CS.setI D 38 v) c1 c := by
    have z : LNK D c1 c := by
      unfold LNK at *
      rw [oD1, oDc]
      exact lk
    exact z
  have lwD : LOW (CS.setI D 38 v) (RS.setI em.2 63 (q.i 63 - 1)) c := by
    have w := ((lw.mv (rfl : S.o c.2.1 = S.o c.2.1) fr0 (by rw [lk.2.1]; exact Nat.le_refl _)).mv (rfl : S.o c.2.1 = S.o c.2.1) (FRB.of a2 : FRB (ceT c1) V0 q) (by rw [lk.2.1]; exact Nat.le_refl _)).mv (rfl : S.o c.2.1 = S.o c.2.1) (x3 (ceT c1)) (by rw [lk.2.1]; exact Nat.le_refl _)
    have z : LOW D em.2 c := by
      unfold LOW at *
      rw [oDc]
      exact w
    exact z
  have ob := hC.2.2.2.2.2.2.2.1.2
  have i50 : D.i 50 = S.i 50 := z14.trans ck.1.2.2.2.1
  have D36 : D.i 36 = S.i 36 := z10.trans ck.1.2.1
  have A3 : A.2.o c1.2.1 3 = D.o c1.2.1 3 := by rw [z2]
  have pc := (pop_core (X := CS.setI (CS.setI (CS.setI D 38 v) 50 (A.2.o c1.2.1 3)) 53 (D.i 53 - 1)) hD4 tpD lkD lwD (BAZ.b19 _ bz) hT (by omega) t63 (by show nWl (D.o c1.2.1 0) = 0; rw [oD1, h212]; rfl) (fun z => by
    have z' : isGo (D.o c1.2.1 0) := z
    rw [oD1] at z'
    exact absurd z' ngo) h36 ho ⟨qqi, qqr.1, qqr.2.1, qqr.2.2⟩ (by rw [qq38, A3]; rfl) (by
    rw [qq43]
    show (em.2.i 43).toInt = (em.2.i 43).toInt - (nGo (D.o c1.2.1 0) : Int)
    rw [oD1, nGo.eq ngo]
    omega) (by
    show (b.i 38).toInt ≤ (D.o c1.2.1 3).toInt ∧ (D.o c1.2.1 3).toInt ≤ (D.i 50).toInt
    rw [oD1, i50]
    exact ob.1 c1 List.mem_cons_self) (fun z hz => by
    show (D.o z.2.1 3).toInt ≤ (D.o c1.2.1 3).toInt
    rw [oD1, oD z (List.mem_cons_of_mem _ hz)]
    exact ob.2.1 z (List.mem_cons_of_mem _ hz) c1 List.mem_cons_self (ord z hz)) (fun k _ h2 h3 => by rw [ci_ne _ _ _ h3, ci_ne _ _ _ h2]) (by rw [ci_ne _ _ _ (by decide), ci_at, A3]; rfl) (by rw [ci_at]; exact p2') (by
    rw [ci_ne _ _ _ (by decide), ci_ne _ _ _ (by decide), ci_ne _ _ _ (by decide)]
    exact D36) ⟨rfl, rfl, rfl, rfl, rfl, rfl, rfl, rfl, rfl⟩).1
  -- one sign less
  have sg1 : sgn D (rowA D c1.1) = 1 := by
    have ra : rowA D c1.1 = c1.2.1 := by
      unfold rowA
      rw [z1, ck.z.2.1 c1.1 (by have := tp.1; omega), cst.1]
      rfl
    rw [ra]
    unfold sgn
    rw [oD1, h212, if_neg (by decide), if_pos (Or.inr (Or.inl rfl))]
  have ev := pop_sg (n := c1.1) evD (X := CS.setI (CS.setI (CS.setI D 38 v) 50 (A.2.o c1.2.1 3)) 53 (D.i 53 - 1)) rfl rfl rfl (by rw [D53]; exact tp.1) (by
    show (D.i 53 - 1).toInt = _
    rw [p2']
    have := lk.1
    omega) (by rw [sg1]; exact Int.le_refl _) pc.1.1 (by
    show qq.i 19 = q.i 19
    rw [qqi 19 (by decide) (by decide) (by decide)]
    exact x10)
  refine ⟨m3, V2, g3, ?_, fun _ jw => ?_⟩
  · rw [V2e, p1']
    rw [z9] at ev
    exact pc.sg (by show t0 ≤ ceT c + wid (D.o c.2.1 0); rw [oDc, ← lk.2.1]; exact hT) ev (by show _ = (qq.i 19).toInt - 1; rw [qqi 19 (by decide) (by decide) (by decide)]; show _ = (em.2.i 19).toInt - 1; rw [x10]; exact sub19 evD) hw0
  -- the code
  have hr0 : (vw S s c1).v = 212 := h212
  have ngV : ¬ isGo (vw S s c1).v := ngo
  have nlo : ¬ isLo (vw S s c1).v := fun z => ngV (Or.inr (Or.inr z))
  have nty : ¬ isTy (vw S s c1).v := fun z => by
    rw [hr0] at z
    rcases z with z | z | z | z <;> exact absurd z (by decide)
  have nsi : ∀ k : Nat, ¬ rsite (vw S s c1) k := fun k z => by
    unfold rsite at z
    rw [hr0] at z
    rcases z with ⟨z, -⟩ | ⟨z, -⟩ | ⟨z, -⟩ | ⟨z, -⟩ <;> exact absurd z (by decide)
  have gis := hC.gis
  have h44 : (S.i 44).toInt ≤ 900 := by
    rw [hv.p44.1]
    exact (i11_hi hv).2
  have h44A : (A.2.i 44).toInt ≤ 900 := by
    rw [evA.p44.1]
    exact (i11_hi evA).2
  obtain ⟨ee, he1, he2⟩ := clo_e (S.i 43)
  have ee1 : ee ≤ 1 := by rcases he1 with z | ⟨z, -⟩ <;> omega
  have rt : tvs (rtgs (vw S s c1)) = [tv (S.o c1.2.1 9)] := by
    unfold rtgs
    rw [hr0, if_neg (by decide), if_pos (by decide)]
    rfl
  have en : ∀ (G : GHT) (ω h l : Nat), jen G ω (vw S s c1) h l = [enL h] := fun G ω h l => by
    unfold jen
    rw [hr0, if_pos rfl]
    rfl
  obtain ⟨w, hw⟩ : ∃ w, w = q.i 19 - 1 := ⟨_, rfl⟩
  have q19 : q.i 19 = s.i 19 := a10.trans n10'.1
  have s19 := sub19 evA
  have w19 : (b.i 19).toInt + (sfr (vws S s (c :: L)) : Int) ≤ w.toInt := by
    have z1 := hC.2.2.2.2.2.2.1.2.2.2
    have z2 : SSM S (c1 :: c :: L) = (nSg (S.o c1.2.1 0) : Int) + SSM S (c :: L) := rfl
    have z3 : nSg (S.o c1.2.1 0) = 1 := by rw [h212]; rfl
    have z4 := sfr_ss (S := S) (s := s) (c :: L)
    rw [hw, s19, q19]
    omega
  obtain ⟨E, hE⟩ : ∃ E, E = s.i 52 - 1 := ⟨_, rfl⟩
  have j0 := JRW.clo (V := vws S s (c :: L)) (r := vw S s c1) (u := s) (u' := RS.setI (RS.setI s 52 E) 19 w) (S' := CS.setI S 38 v) (l1 := []) (l2 := []) (vb := 0) (vc := 0) (vs := 0) (e := ee) (dr := 0) jw (fun z => z.cl rfl rfl (show E = s.i 52 - d32 (vw S s c1).v by rw [d32.yes (Or.inl hr0), hE]) (Int.le_refl _)) h44 mA (vws.pl hC) (fun z => absurd z ngV) nty (by rw [hr0]; decide) (fun z => absurd z ngV) ⟨rfl, fun _ _ => rfl⟩ (fun z => absurd z ngV) (fun z => absurd z nlo) (fun j z => absurd z (nsi j)) (fun _ _ _ _ => rfl) ⟨⟨rfl, rfl, rfl, rfl, rfl⟩, rfl, rfl, rfl, rfl⟩ ⟨⟨rfl, rfl, rfl, rfl, rfl⟩, rfl, rfl, rfl, rfl, rfl, rfl, rfl, rfl, rfl, rfl, rfl, rfl, rfl, rfl⟩ ⟨Or.inr w19, rfl, rfl, rfl⟩ (fun _ _ _ => rfl) (fun nm G ω j ng hcx => by
    rw [en] at ng hcx
    refine ⟨NMH.pop ng (show ¬ (0 : Nat) = 2 by decide) rfl rfl rfl rfl ?_ ?_ rfl rfl rfl, hcx.tl⟩
    · show (S.i 38).toInt = v.toInt + (if (0 : Nat) ≤ 3 then 1 else 0)
      rw [if_pos (by decide)]
      omega
    · show (s.i 52).toInt = E.toInt + 1
      have n3 : (((j.c.length + 1 : Nat)) : Int) = (s.i 52).toInt := ng.2.2.1
      have e1 : (1 : Int32).toInt = 1 := by decide
      have hi := Int32.toInt_lt (s.i 52)
      rw [hE]
      have z : (s.i 52 - 1).toInt = (s.i 52).toInt - 1 := by
        rw [toInt_sub] <;> rw [e1] <;> omega
      omega) (fun _ => dbr.ge _ _) he1
  rw [rt] at j0
  -- the token
  obtain ⟨-, -, -, -, -, -, -, -, -, -, -, -, -, oi50, -, -, -, -, -, -, oa48, oa49, -, -, -, -, -, oi21, -⟩ := pj_eq a3
  have l44 : (S.i 44).toInt + 1 ≤ (A.2.i 44).toInt := by
    rw [hv.p44.1, evA.p44.1]
    rw [n8] at a5
    omega
  have vi := n10'.2.2.1
  have vaa := n10'.2.2.2.1
  have qV0 : qe V0 = qe s := by
    unfold qe
    rw [vi 20 (by decide) (by decide), vi 24 (by decide) (by decide), vi 29 (by decide) (by decide), vi 33 (by decide) (by decide), vi 42 (by decide) (by decide), vi 52 (by decide) (by decide), vaa 21 (by decide), vaa 22 (by decide), vaa 23 (by decide), vaa 25 (by decide), vaa 26 (by decide), vaa 27 (by decide), vaa 28 (by decide), vaa 30 (by decide), vaa 31 (by decide), vaa 32 (by decide), vaa 34 (by decide), vaa 35 (by decide), vaa 36 (by decide), vaa 37 (by decide)]
  have qqe := kre_f_X12_next N V0 q hq
  have nvs : NMV s q := NMV.tr ⟨vi 38 (by decide) (by decide), fun j _ => by rw [vaa 40 (by decide)]⟩ (NMV.tbk tk)
  have j1 := j0.cek (R := CS.setI A.2 38 v) 1 (pe.s38 (ke_X9_advance N S A eA)) oi21 oa48 oa49 oi50 l44
  have hqs : qe (RS.setI q 52 E) = qe (RS.setI s 52 E) := qe.s52 (v := E) (qqe.trans qV0)
  have j2 := j1.se (u := RS.setI q 52 E) hqs nvs
  have prq : pcR q = pcR s := (pcR.qe qqe).trans (pcR.qe qV0)
  have pcA : pcC A.2 = pcC S := pcC.pe (ke_X9_advance N S A eA)
  -- the instruction
  obtain ⟨o, xa, pa, hadd, hpa, how⟩ := lv_add el2'
  have p20q := evA.p20
  obtain ⟨-, -, -, -, -, zk, zA⟩ := em_52 (v := 0) hem
  have A9 : A.2.o c1.2.1 9 = S.o c1.2.1 9 := by rw [eo1]
  have A2 : A.2.o c1.2.1 2 = S.o c1.2.1 2 := by rw [eo1]
  have j3 := j2.one (K' := fun FC SF nm X ω j Z => ((PQX SF U (pcC S) (pcR s) ∧ (SF.a 15 (pcC S) = o ∧ SF.a 16 (pcC S) = xa) ∧ U.a 21 (pcR s) = 27 ∧ (frs j.c : Int) = v.toInt) ∧ pcC (CS.setI pa.2 38 v) = pcC S + 1 ∧ pcR (RS.setI em.2 52 E) = pcR s + 1) ∧ KCL U (vw S s c1) S s 0 0 0 FC SF nm X ω j Z) (add_sh (D := v) hadd) h44A (by omega) (em_sh (E := E) hem) ⟨p20q.1, by show (q.i 20).toInt < 3000; omega⟩ (fun FC SF nm X ω j Z pq a1 a2 b1 b2 b3 v1 v2 nmh hc hh tyc tl hω k => by
    have e1 : pcC (CS.setI A.2 38 v) = pcC S := pcA
    have e2 : pcR (RS.setI q 52 E) = pcR s := prq
    rw [e1, e2] at pq
    rw [e1] at a1 a2 v1
    rw [e2] at b1 v2
    exact ⟨⟨⟨pq, ⟨a1, a2⟩, b1, nmh.1.2.1⟩, v1, v2⟩, k⟩)
  have lo : l2.2.o = A.2.o := by
    rw [← hpa]
    unfold f_X0_add at hadd
    cases hadd
    rfl
  have l944 : (CS.setI pa.2 38 v).i 44 = A.2.i 44 := by
    unfold f_X0_add at hadd
    cases hadd
    rfl
  rw [lo, A9, ← hpa] at er2'
  have j4 := JRG.aim (W1 := []) (W2 := []) (K' := fun FC SF nm X ω j Z => (cTg SF (S.o c1.2.1 9)).toInt = ((pcC (CS.setI pa.2 38 v) : Nat) : Int) ∧ ((PQX SF U (pcC S) (pcR s) ∧ (SF.a 15 (pcC S) = o ∧ SF.a 16 (pcC S) = xa) ∧ U.a 21 (pcR s) = 27 ∧ (frs j.c : Int) = v.toInt) ∧ pcC (CS.setI pa.2 38 v) = pcC S + 1 ∧ pcR (RS.setI em.2 52 E) = pcR s + 1) ∧ KCL U (vw S s c1) S s 0 0 0 FC SF nm X ω j Z) j3 (aim_sh (D := v) er2') (by rw [l944]; exact h44A) (by omega) (fun FC SF nm X ω j Z h k => ⟨h, k⟩)
  have V2i : ∀ k : Nat, k ≠ 19 → k ≠ 63 → V2.i k = qq.i k := fun k h1 h2 => by
    rw [V2e]
    exact (if_neg h1).trans (if_neg h2)
  have V2a : V2.a = em.2.a := by
    rw [V2e]
    exact qqr.2.1
  have emi : ∀ k : Nat, k ≠ 38 → k ≠ 43 → k ≠ 52 → k ≠ 19 → k ≠ 63 → V2.i k = em.2.i k := fun k h1 h2 h3 h4 h5 => by
    rw [V2i k h4 h5, qqi k h1 h2 h3]
    exact if_neg h5
  have V52 : V2.i 52 = E := by
    rw [V2i 52 (by decide) (by decide), qq52, zk 52 (by decide), hE, (qe_eq (qqe.trans qV0)).1.2.2.2.2.2]
  have qV : qe V2 = qe (RS.setI em.2 52 E) := by
    unfold qe
    rw [V2a, emi 20 (by decide) (by decide) (by decide) (by decide) (by decide), emi 24 (by decide) (by decide) (by decide) (by decide) (by decide), emi 29 (by decide) (by decide) (by decide) (by decide) (by decide), emi 33 (by decide) (by decide) (by decide) (by decide) (by decide), emi 42 (by decide) (by decide) (by decide) (by decide) (by decide), V52]
    rfl
  obtain ⟨-, -, -, -, -, -, -, y38, -, y43, -, -, -, -, -, y59, -, -, -, -, -, -, -, -, -, -, -, -, -, -, -, z47, z48, z49, z50, z51, -, -, z60, z61, z62, -⟩ := qj_eq a2
  have em38 : em.2.i 38 = s.i 38 := by rw [zk 38 (by decide)]; exact nvs.1
  have V38 : V2.i 38 = S.o c1.2.1 3 := by
    rw [V2i 38 (by decide) (by decide), qq38, eo1]
  have V43 : V2.i 43 = s.i 43 := by
    rw [V2i 43 (by decide) (by decide), qq43, e43]
  have V19 : V2.i 19 = w := by rw [V2e, hw]; rfl
  have jr := j4.popv (R := R.2) (V := V2) (v := S.i 36) (by omega) (Or.inl (by omega)) (by rw [p1', hDr]; rfl) (by rw [p1', hDr]; rfl) (by rw [p1', hDr]; rfl) (by rw [p1']; exact D36) (by rw [p1', hDr]; rfl) (by rw [p1', hDr]; rfl) qV (by
    rw [V38]
    show (S.o c1.2.1 3).toInt ≤ (em.2.i 38).toInt
    rw [em38, ← hv.2.1.1]
    exact (ob.1 c1 List.mem_cons_self).2) (by rw [V2a]; rfl) (fun y hy gy => by
    have := gis y hy gy
    have := tp.2.1
    rw [V43]
    omega) (by
    rw [V2a, zA 47 (by omega), zA 48 (by omega), zA 49 (by omega), zA 50 (by omega), zA 51 (by omega), zA 60 (by omega), zA 61 (by omega), zA 62 (by omega)]
    exact ⟨z47.trans (vaa 47 (by decide)), z48.trans (vaa 48 (by decide)), z49.trans (vaa 49 (by decide)), z50.trans (vaa 50 (by decide)), z51.trans (vaa 51 (by decide)), z60.trans (vaa 60 (by decide)), z61.trans (vaa 61 (by decide)), z62.trans (vaa 62 (by decide))⟩) (by
    rw [emi 59 (by decide) (by decide) (by decide) (by decide) (by decide), zk 59 (by decide), y59]
    exact vi 59 (by decide) (by decide)) (by
    rw [emi 11 (by decide) (by decide) (by decide) (by decide) (by decide), zk 11 (by decide)]
    show (s.i 11).toInt ≤ (q.i 11).toInt
    rw [n8] at a5
    omega) (by rw [V19]; exact Int.le_refl _) (fun FC SF nm X ω j Z hω r12 hcc k cur => by
    obtain ⟨ct, ⟨⟨pq, ⟨s1', s2'⟩, u1', fv⟩, pe1, pe2⟩, ⟨-, -, -, dd⟩, G', hci, -, hX⟩ := k
    obtain ⟨d2, d9⟩ := dd (by rw [hr0]; rfl)
    have d2' : (S.o c1.2.1 2).toInt = (frs j.c : Int) := d2
    have d9' : NT5 (S.o c1.2.1 9) := d9
    have e3 : pcC (CS.setI r2.2 38 v) = pcC S + 1 := by
      rw [← pe1]
      unfold f_X0_aim at er2'
      cases er2'
      rfl
    rw [e3, pe2] at cur
    refine hX ⟨fun z => absurd (hr0.symm.trans z) (by decide), fun z => absurd (hr0.symm.trans z) (by decide), fun z => absurd (hr0.symm.trans z) (by decide), fun z => absurd (hr0.symm.trans z) (by decide), fun z => absurd (hr0.symm.trans z) (by decide), fun z => absurd (hr0.symm.trans z) (by decide), fun z => absurd (hr0.symm.trans z) (by decide), fun z => absurd z nty, fun z => absurd z ngV⟩ (fun z => absurd z ngV) (fun h1 => ?_)
    have jl : jlv (vw S s c1).v = 1264 := by rw [hr0]; rfl
    rw [en] at hci
    rw [en, jl]
    have p12 := pq.1
    have fr22 := hcc.2.2.1
    rcases how with ⟨ho, hx⟩ | ⟨ho, hx⟩
    · rw [ho] at s1'
      rw [A9, A2] at hx
      obtain ⟨l5, l6⟩ := lv5 d9' (g := S.o c1.2.1 2) ⟨by omega, by omega⟩
      have zz : ∀ g : Nat, GU FC SF U nm X (pcC S) (pcR s) j.h (ω + (j.l + 1264) - pcC S) g ([enL j.h] ++ j.c) := fun g => gi_URel (pq.hc hci) pq.2.1 ⟨s1', u1', enL j.h, j.c, pcC S + 1, _, rfl, rfl, by rw [s2', hx, l6]; exact d2', by rw [s2', hx, l5, ← pe1]; exact ct, (cur h1).1, by omega⟩
      exact ⟨zz 0, zz 1⟩
    · exfalso
      rw [A2, A38] at hx
      rw [hx] at d2'
      omega)
  rw [clo_veq hD tp lk (fun j hj => by
    rw [V2a, zA 40 (by omega)]
    exact nvs.2 j hj) (fun y hy => by
    rw [p1']
    show D.o y.2.1 = S.o y.2.1
    exact oD y (List.mem_cons_of_mem _ hy)) (fun k t h1 h2 h3 => by
    rw [V2a, zA k (by omega), (FRB.of a2 : FRB (ceT c1) V0 q).fld k t h1 h2 h3]
    exact fr0.fld k t h1 h2 h3)]
  exact jr
end
section
/-! both readers: what is told of the class, setter by setter -/
def st36 (f : Int32) (v : PJT2) : PJT2 := (((v.1.1.1, v.1.1.2.1, v.1.1.2.2.1, v.1.1.2.2.2.1, v.1.1.2.2.2.2.1, v.1.1.2.2.2.2.2.1, v.1.1.2.2.2.2.2.2.1, v.1.1.2.2.2.2.2.2.2.1, v.1.1.2.2.2.2.2.2.2.2.1, v.1.1.2.2.2.2.2.2.2.2.2.1, f, v.1.1.2.2.2.2.2.2.2.2.2.2.2.1, v.1.1.2.2.2.2.2.2.2.2.2.2.2.2.1, v.1.1.2.2.2.2.2.2.2.2.2.2.2.2.2.1, v.1.1.2.2.2.2.2.2.2.2.2.2.2.2.2.2.1, v.1.1.2.2.2.2.2.2.2.2.2.2.2.2.2.2.2.1, v.1.1.2.2.2.2.2.2.2.2.2.2.2.2.2.2.2.2.1, v.1.1.2.2.2.2.2.2.2.2.2.2.2.2.2.2.2.2.2), v.1.2), v.2)
theorem pj2_36 (S : CS) (f : Int32) : pj2 (CS.setI S 36 f) = st36 f (pj2 S) := rfl
def st38 (f : Int32) (v : PJT2) : PJT2 := (((v.1.1.1, v.1.1.2.1, v.1.1.2.2.1, v.1.1.2.2.2.1, v.1.1.2.2.2.2.1, v.1.1.2.2.2.2.2.1, v.1.1.2.2.2.2.2.2.1, v.1.1.2.2.2.2.2.2.2.1, v.1.1.2.2.2.2.2.2.2.2.1, v.1.1.2.2.2.2.2.2.2.2.2.1, v.1.1.2.2.2.2.2.2.2.2.2.2.1, v.1.1.2.2.2.2.2.2.2.2.2.2.2.1, f, v.1.1.2.2.2.2.2.2.2.2.2.2.2.2.2.1, v.1.1.2.2.2.2.2.2.2.2.2.2.2.2.2.2.1, v.1.1.2.2.2.2.2.2.2.2.2.2.2.2.2.2.2.1, v.1.1.2.2.2.2.2.2.2.2.2.2.2.2.2.2.2.2.1, v.1.1.2.2.2.2.2.2.2.2.2.2.2.2.2.2.2.2.2), v.1.2), v.2)
theorem pj2_38 (S : CS) (f : Int32) : pj2 (CS.setI S 38 f) = st38 f (pj2 S) := rfl
def st50 (f : Int32) (v : PJT2) : PJT2 := (((v.1.1.1, v.1.1.2.1, v.1.1.2.2.1, v.1.1.2.2.2.1, v.1.1.2.2.2.2.1, v.1.1.2.2.2.2.2.1, v.1.1.2.2.2.2.2.2.1, v.1.1.2.2.2.2.2.2.2.1, v.1.1.2.2.2.2.2.2.2.2.1, v.1.1.2.2.2.2.2.2.2.2.2.1, v.1.1.2.2.2.2.2.2.2.2.2.2.1, v.1.1.2.2.2.2.2.2.2.2.2.2.2.1, v.1.1.2.2.2.2.2.2.2.2.2.2.2.2.1, f, v.1.1.2.2.2.2.2.2.2.2.2.2.2.2.2.2.1, v.1.1.2.2.2.2.2.2.2.2.2.2.2.2.2.2.2.1, v.1.1.2.2.2.2.2.2.2.2.2.2.2.2.2.2.2.2.1, v.1.1.2.2.2.2.2.2.2.2.2.2.2.2.2.2.2.2.2), v.1.2), v.2)
theorem pj2_50 (S : CS) (f : Int32) : pj2 (CS.setI S 50 f) = st50 f (pj2 S) := rfl
def st53 (f : Int32) (v : PJT2) : PJT2 := (((v.1.1.1, v.1.1.2.1, v.1.1.2.2.1, v.1.1.2.2.2.1, v.1.1.2.2.2.2.1, v.1.1.2.2.2.2.2.1, v.1.1.2.2.2.2.2.2.1, v.1.1.2.2.2.2.2.2.2.1, v.1.1.2.2.2.2.2.2.2.2.1, v.1.1.2.2.2.2.2.2.2.2.2.1, v.1.1.2.2.2.2.2.2.2.2.2.2.1, v.1.1.2.2.2.2.2.2.2.2.2.2.2.1, v.1.1.2.2.2.2.2.2.2.2.2.2.2.2.1, v.1.1.2.2.2.2.2.2.2.2.2.2.2.2.2.1, f, v.1.1.2.2.2.2.2.2.2.2.2.2.2.2.2.2.2.1, v.1.1.2.2.2.2.2.2.2.2.2.2.2.2.2.2.2.2.1, v.1.1.2.2.2.2.2.2.2.2.2.2.2.2.2.2.2.2.2), v.1.2), v.2)
theorem pj2_53 (S : CS) (f : Int32) : pj2 (CS.setI S 53 f) = st53 f (pj2 S) := rfl
def st34 (f : Int32) (v : PJT2) : PJT2 := (v.1, (v.2.1.1, v.2.1.2.1, f, v.2.1.2.2.2), v.2.2)
theorem pj2_34 (S : CS) (f : Int32) : pj2 (CS.setI S 34 f) = st34 f (pj2 S) := rfl
/-- the same but for what is not told -/
theorem POPD.kd {d : Int32} {B : CS} {b : RS} {t0 : Nat} {c : CEL} {L : List CEL} {X R : CS} {u : RS} (h : POPD d B b t0 c L X u) (e : pj2 R = pj2 X) (hT : t0 ≤ ceT c + wid (X.o c.2.1 0)) : POPD d B b t0 c L R u := by
  have pe := pj2_eq e
  obtain ⟨⟨z1, z2, z3, z4⟩, ⟨z5, z6⟩, ⟨z7, z8, z9, z10, z11⟩, ⟨z12, z13, z14, z15, z16, z17, z18⟩⟩ := kd_all e
  obtain ⟨h1, h2, h3⟩ := h
  refine ⟨h1.cx (h1.inl h2 rfl) hT (h1.1.kd e) (CKX.of pe.1 z8 pe.2.2.2.2.2.2.2.2.2.2.2), ⟨by rw [z15]; exact h2.1, by rw [z2]; exact h2.2.1, by rw [z2]; exact h2.2.2⟩, ?_⟩
  unfold MOR MLI MEN NMC at *
  rw [z2, z10, z14]
  exact h3
/-- whether the row on top is gone to, where records and row are the same -/
theorem y_goneX {N : Nat} {d : Int32} {B : CS} {b : RS} {t0 : Nat} {L : List CEL} {x bb : Int} {S X : CS} {s : RS} {c1 : CEL} {xc : Int32} {P : Int32 × CS} (hC : COR d B b t0 (c1 :: L) x S s) (gw : isGo (S.o c1.2.1 0)) (hb : (xc = 0 ∧ bb = 0) ∨ (xc = 1 ∧ bb = 1)) (e1 : X.o c1.2.1 1 = S.o c1.2.1 1) (e14 : X.o c1.2.1 14 = S.o c1.2.1 14) (l55 : (S.i 55).toInt ≤ (X.i 55).toInt) (h160 : (X.i 55).toInt < 160) (o52 : ∀ k : Nat, (k : Int) < (S.i 55).toInt → X.a 52 k = S.a 52 k) (n52 : ∀ k : Nat, (S.i 55).toInt ≤ (k : Int) → (k : Int) < (X.i 55).toInt → X.a 52 k = 0 ∨ 2 * (S.i 54).toInt + 1 < (X.a 52 k).toInt) (e : f_X6_isGoneTo N X c1.2.1 xc = some P) : P.2 = X ∧ P.1 = flg s (ceG c1) bb := by
  have hv := hC.1
  obtain ⟨sj1, sj2, sj3, sj4, sj5, sj6⟩ := id hv.sj
  have hi := i11_hi hv
  obtain ⟨h1, h2, -, -, -, -, h7, h8⟩ := id hC.2.2.1
  obtain ⟨k1, k2, k3, k4, -⟩ := h7 c1 List.mem_cons_self
  have ord := STK.ord L c1 _ _ _ hC.2.1
  unfold f_X6_isGoneTo at e
  obtain ⟨-, e⟩ := hf_ite e
  obtain ⟨r1, r2⟩ := y_gone5 hb (by rw [e1]; exact ⟨by omega, by omega⟩) h160 N _ P (by rw [e14]; exact k3) e
  refine ⟨r1, ?_⟩
  have hb' : bb = 0 ∨ bb = 1 := by
    rcases hb with ⟨-, z⟩ | ⟨-, z⟩
    · exact Or.inl z
    · exact Or.inr z
  rcases r2 with ⟨r2, i, i1, i2, i3⟩ | ⟨r2, r3⟩
  · rw [r2]
    rw [e1] at i3
    have i4 : (i : Int) < (S.i 55).toInt := by
      by_cases z : (i : Int) < (S.i 55).toInt
      · exact z
      · exfalso
        rcases n52 i (by omega) i2 with y | y
        · rw [y, z_t0] at i3
          omega
        · omega
    rw [o52 i i4] at i3
    rcases h1 c1 List.mem_cons_self gw bb hb' i ⟨i4, i3, by rw [← e14]; exact i1⟩ with z | ⟨k, q, hq, -, l, -⟩
    · exact z.symm
    · exfalso
      rcases List.mem_cons.mp hq with e0 | hq
      · rw [e0] at l
        omega
      · have := ord q hq
        omega
  · rw [r2]
    rcases h8.2 c1 List.mem_cons_self gw bb with z | z
    · exact z.symm
    · obtain ⟨i, ⟨i1, i2, -⟩, i3, -⟩ := h2 c1 List.mem_cons_self gw bb hb' z
      exact absurd (by rw [o52 i i1, e1]; exact i2) (r3 i (by rw [e14]; exact i3) (by omega))
theorem FRE.mv2 {S R : CS} {s u : RS} {L : List CEL} {col : Nat → Option (Nat × Bool)} {b20 : Int} {k : Nat} (h : FRE S s L col b20 k) (eo : ∀ q ∈ L, R.o q.2.1 = S.o q.2.1) (e : ∀ q ∈ L, u.a 66 (ceT q) = s.a 66 (ceT q)) : FRE R u L col b20 k := ⟨h.1, h.2.1, fun q hq t => by
  rw [e q hq]
  exact h.2.2 q hq (by rw [← eo q hq]; exact t)⟩
theorem cfl.le {S : CS} {s : RS} : ∀ (L : List CEL) (m e k : Int), STK S s L m e k → cfl S L m ≤ m
  | [], _, _, _, _ => Int.le_refl _
  | c :: L, m, e, k, h => by
    obtain ⟨m', e', k', ⟨-, -, -, q4, q5, -, -⟩, -, h3⟩ := h
    have z := cfl.le L _ _ _ h3
    have e1 : cfl S (c :: L) m = cfl S L (if S.o c.2.1 0 = 218 then (S.o c.2.1 13).toInt else m) := rfl
    rw [e1]
    by_cases w : S.o c.2.1 0 = 218
    · obtain ⟨x1, -, -, Lx, x4, -⟩ := q5 w
      rw [if_pos w, ← x1]
      have := x4.2.1
      omega
    · rw [if_neg w, ← (q4 w).1]
      exact z
theorem rsI_bk {r : RS} {k : Nat} {v w : Int32} (h : r.i k = v) : RS.setI (RS.setI r k w) k v = r := by
  have e : va_up (va_up r.i k w) k v = r.i := by
    funext j
    show (if j = k then v else if j = k then w else r.i j) = r.i j
    by_cases z : j = k
    · rw [if_pos z, z, h]
    · rw [if_neg z, if_neg z]
  show ((va_up (va_up r.i k w) k v, r.l, r.a, r.b) : RS) = r
  rw [e]
  rfl
/-- a switch goes -/
theorem COR.dropS {d : Int32} {B : CS} {b : RS} {t0 : Nat} {L : List CEL} {x : Int} {S : CS} {s : RS} {c1 c : CEL} (h : COR d B b t0 (c1 :: c :: L) x S s) (h218 : S.o c1.2.1 0 = 218) {w : Int32} (hw : w.toInt = (b.i 19).toInt + 1) : COR d B (RS.setI b 19 w) t0 (c :: L) (-9) (CS.setI S 22 (S.o c1.2.1 13)) s ∧ (∀ y ∈ c :: L, isGo (S.o y.2.1 0) → ¬ ceG y = ceG c1) ∧ (∀ y ∈ c :: L, y.1 < c1.1) ∧ LNK S c1 c ∧ LOW S s c ∧ (0 ≤ (S.o c1.2.1 13).toInt ∧ (S.o c1.2.1 13).toInt ≤ (S.i 22).toInt) := by
  obtain ⟨h1, h2, h3, h4, h5, h6, ⟨h10, h11, h12, hsg⟩, h13, h14, h17, ⟨h18, h19, h20, col, h21⟩⟩ := h
  have ord := STK.ord (c :: L) c1 _ _ _ h2
  obtain ⟨inj1, inj2⟩ := STK.inj (c1 :: c :: L) _ _ _ h2
  have nt : ¬ isTy (S.o c1.2.1 0) := by
    rw [h218]
    unfold isTy
    decide
  have inj : ∀ y ∈ c :: L, isGo (S.o y.2.1 0) → ¬ ceG y = ceG c1 := fun y hy g z => by
    have := (inj2 y (List.mem_cons_of_mem _ hy) c1 List.mem_cons_self (ord y hy)).2.1
    have := nGo1 g
    omega
  have st := STK.drop h2
  rw [if_pos h218] at st
  have e1 : PDM S (c1 :: c :: L) = dbt (S.o c1.2.1 0) + PDM S (c :: L) := rfl
  have e2 : DSM S (c1 :: c :: L) = (nDp (S.o c1.2.1 0) : Int) + DSM S (c :: L) := rfl
  have e4 : dbt (S.o c1.2.1 0) = 0 ∧ nDp (S.o c1.2.1 0) = 0 := by
    rw [h218]
    exact ⟨rfl, rfl⟩
  rw [e1, e4.1] at h11
  rw [e2, e4.2] at h13
  obtain ⟨h13, h13b⟩ := h13
  have cf : cfl S (c :: L) (S.o c1.2.1 13).toInt = (B.i 22).toInt := by
    have z := h13b.2.2.1
    have e3 : cfl S (c1 :: c :: L) (S.i 22).toInt = cfl S (c :: L) (if S.o c1.2.1 0 = 218 then (S.o c1.2.1 13).toInt else (S.i 22).toInt) := rfl
    rw [e3, if_pos h218] at z
    exact z
  have cle := cfl.le (c :: L) _ _ _ st
  obtain ⟨m', e', k', g1, g2, g3⟩ := h2
  obtain ⟨l1, l2⟩ := g2 c rfl
  have o13 : 0 ≤ (S.o c1.2.1 13).toInt ∧ (S.o c1.2.1 13).toInt ≤ (S.i 22).toInt := by
    obtain ⟨x1, -, -, Lx, x4, -⟩ := g1.2.2.2.2.1 h218
    have := x4.1
    have := x4.2.1
    omega
  obtain ⟨f, hf⟩ : ∃ f : Int32, f = S.o c1.2.1 13 := ⟨_, rfl⟩
  rw [← hf] at cf cle o13 st ⊢
  have eo : ∀ y ∈ c :: L, (CS.setI S 22 f).o y.2.1 = S.o y.2.1 := fun _ _ => rfl
  obtain ⟨ed, ep⟩ := DSM.eq (c :: L) eo
  have jq : JMQ (CS.setI S 22 f) s (c :: L) (b.i 59).toInt (b.i 29).toInt := h3.drop nt ord
  have lb : LBC (CS.setI S 22 f) s (c :: L) (-9) := LBC.mv (c :: L) (-9) h4.drop eo (fun _ _ _ => rfl)
  have cl : COL (CS.setI S 22 f) s (c :: L) (cdr (ceG c1) col) (b.i 20).toInt := h21.drop inj
  have stv : STK (CS.setI S 22 f) s (c :: L) f.toInt (s.i 24).toInt (s.i 33).toInt := STK.eo (S := S) (R := CS.setI S 22 f) rfl rfl (c :: L) _ _ _ (fun _ _ => ⟨rfl, rfl⟩) st
  have cfv : cfl (CS.setI S 22 f) (c :: L) f.toInt = (B.i 22).toInt := (cfl.eq (c :: L) _ eo).trans cf
  have cb : CBB B (CS.setI S 22 f) := by
    obtain ⟨a1, a2, a3, a4, a5, a6⟩ := h5
    exact ⟨a1, a2, a3, by show (B.i 22).toInt ≤ f.toInt; omega, a5, a6⟩
  have e5 : SSM S (c1 :: c :: L) = (nSg (S.o c1.2.1 0) : Int) + SSM S (c :: L) := rfl
  have e6 : nSg (S.o c1.2.1 0) = 1 := by rw [h218]; rfl
  rw [e5, e6] at hsg
  have hsw : (s.i 19).toInt = w.toInt + SSM (CS.setI S 22 f) (c :: L) := by rw [SSM.eo (c :: L) eo]; omega
  have hph : phI b + PDM (CS.setI S 22 f) (c :: L) ≤ phI s := by
    rw [ep]
    omega
  have hds : (S.i 38).toInt = (B.i 38).toInt + DSM (CS.setI S 22 f) (c :: L) := by
    rw [ed]
    omega
  exact ⟨⟨h1.s22 o13.1 o13.2, stv, jq, lb, cb, h6, ⟨h10, hph, h12, hsw⟩, ⟨hds, fun y hy => h13b.1 y (List.mem_cons_of_mem _ hy), fun y hy z hz => h13b.2.1 y (List.mem_cons_of_mem _ hy) z (List.mem_cons_of_mem _ hz), cfv, fun y hy => h13b.2.2.2 y (List.mem_cons_of_mem _ hy)⟩, h14, h17, ⟨h18, h19, h20, _, cl⟩⟩, inj, ord, l1, l2, o13⟩
end
section
/-! both readers: a switch, its groups' step -/
/-- the reference stands at the switch's own frame, between two groups -/
def SWV (d : Int32) (T : Nat) (S : CS) (s V : RS) : Prop := ENV d S V ∧ tpI V = (T : Int) ∧ FRB T s V ∧ TBK s V ∧ (V.a 64 T = 14 ∧ V.a 65 T = 2 ∧ V.a 66 T = s.a 66 T ∧ V.a 67 T = s.a 67 T ∧ V.a 68 T = s.a 68 T ∧ V.a 70 T = S.i 36 ∧ V.a 71 T = s.a 71 T ∧ V.a 72 T = s.a 72 T) ∧ (phI V = phI s ∧ V.i 10 = s.i 10 ∧ V.i 11 = s.i 11 ∧ V.i 17 = s.i 17 ∧ V.i 19 = s.i 19 ∧ (∀ k : Nat, k ≠ 63 → k ≠ 75 → V.i k = s.i k) ∧ (∀ k : Nat, ¬ (64 ≤ k ∧ k ≤ 73) → V.a k = s.a k) ∧ V.b = s.b)
theorem sw_1 {N : Nat} {d : Int32} {B : CS} {b : RS} {t0 n : Nat} {L : List CEL} {x : Int} {S : CS} {s U : RS} {c1 : CEL} (hC : COR d B b t0 (c1 :: L) x S s) (hM : MLI c1 S s ∨ MSW c1 S s) (h36 : S.i 36 = 0 ∨ S.i 36 = 1) (h218 : S.o c1.2.1 0 = 218) (h10 : s.i 10 = 125 ∨ s.i 10 = 429 ∨ s.i 10 = 430 ∨ s.i 10 = 0) (g : f_X12_parse_10 N n s = some U) : ∃ (m : Nat) (V : RS), f_X12_parse_10 N m V = some U ∧ SWV d (ceT c1) S s V := by
  have hv := hC.1
  obtain ⟨m1, e1, k1, m2, e2, k2, cst⟩ := STK.mem _ _ _ _ hC.2.1 c1 List.mem_cons_self
  obtain ⟨f1, f2, f3, f4, f5, f6⟩ := cst.2.2.1.2.2.2.2.2.2.2.2.2.2.2.1 h218
  rcases hM with hM | hM
  · obtain ⟨no1, n305, ts, h64, hmode, h65⟩ := hM
    have wd : wid (S.o c1.2.1 0) = 2 := by rw [h218]; rfl
    have ix : ceT c1 + wid (S.o c1.2.1 0) - 1 = ceT c1 + 1 := by omega
    rw [ix] at h64 hmode
    have ts' : tpI s = ((ceT c1 + 1 : Nat) : Int) := by rw [ts, wd]; omega
    obtain ⟨m0, V0, g0, n1, n2, n3, n4, n5, n6, n7, n8, n9, n10'⟩ := y_lend hv ts' h64 hmode h36 h10 g
    have fT := fun k h1 h2 => n3.all k h1 h2
    have tV : tpI V0 = (ceT c1 : Int) := by rw [n2]; omega
    obtain ⟨m2, V, hV, g2⟩ := rl_14 g0 tV n1.1.2.1 ((fT 64 (by decide) (by decide)).trans f1)
    unfold f_X12_groups at hV
    obtain ⟨hib, hV⟩ := hf_ite hV
    have z65 : V0.a 65 (ceT c1) = 3 := (fT 65 (by decide) (by decide)).trans (h65 h218).1
    rw [tp_nat tV, z65, if_neg (by decide), if_neg (by decide), if_neg (by decide)] at hV
    have key : ∀ w : Int32, w = S.i 36 → f_X12_groups_356 N (RS.setA V0 70 (ceT c1) w) (V0.i 63) = some V → SWV d (ceT c1) S s V := fun w hw h => by
      unfold f_X12_groups_356 at h
      obtain ⟨-, h⟩ := hf_ite h
      rw [tp_nat tV] at h
      have e := (Option.some.inj h).symm
      have V70 : ∀ k : Nat, 64 ≤ k → k ≤ 73 → k ≠ 65 → k ≠ 70 → V.a k (ceT c1) = s.a k (ceT c1) := fun k h1 h2 h3 h4 => by
        rw [e, setA_nk h3, setA_nk h4]
        exact fT k h1 h2
      refine ⟨by rw [e]; exact setA_env (Or.inr ⟨by decide, by decide⟩) (setA_env (Or.inr ⟨by decide, by decide⟩) n1), by rw [e]; exact tV, by rw [e]; exact ((n3.mo (by omega)).tr (setA_frb (Or.inr ⟨by decide, by decide, Nat.le_refl _⟩))).tr (setA_frb (Or.inr ⟨by decide, by decide, Nat.le_refl _⟩)), by rw [e]; exact (n4.tr (setA_tbk ⟨by decide, by decide⟩)).tr (setA_tbk ⟨by decide, by decide⟩), ⟨(V70 64 (by decide) (by decide) (by decide) (by decide)).trans f1, by rw [e]; exact setA_at, V70 66 (by decide) (by decide) (by decide) (by decide), V70 67 (by decide) (by decide) (by decide) (by decide), V70 68 (by decide) (by decide) (by decide) (by decide), ?_, V70 71 (by decide) (by decide) (by decide) (by decide), V70 72 (by decide) (by decide) (by decide) (by decide)⟩, by rw [← n6, e]; rfl, by rw [e]; exact n7, by rw [e]; exact n8, by rw [e]; exact n9, by rw [e]; exact n10'.1, fun k h1 h2 => by rw [e]; exact n10'.2.2.1 k h1 h2, fun k hk => by rw [e, setA_nk (by omega), setA_nk (by omega)]; exact n10'.2.2.2.1 k (by omega), by rw [e]; exact n10'.2.2.2.2⟩
      rw [e, setA_nk (by decide), setA_at]
      exact hw
    refine ⟨m2, V, g2, ?_⟩
    rcases h36 with z | z
    · rw [if_pos (n5.trans z)] at hV
      exact key 0 z.symm hV
    · rw [if_neg (by rw [n5, z]; decide)] at hV
      exact key 1 z.symm hV
  · obtain ⟨-, h65, ts, h70, -⟩ := hM
    exact ⟨n, s, g, hv, ts, FRB.rf _ _, TBK.rf _, ⟨f1, h65, rfl, rfl, rfl, h70, rfl, rfl⟩, rfl, rfl, rfl, rfl, rfl, fun _ _ _ => rfl, fun _ _ => rfl, rfl⟩
/-- the text ends inside a switch -/
theorem en_swF {N : Nat} {d : Int32} {B : CS} {b : RS} {t0 n : Nat} {L : List CEL} {x : Int} {S : CS} {s U : RS} {c1 : CEL} {R : Unit × CS} (hC : COR d B b t0 (c1 :: L) x S s) (hM : MLI c1 S s ∨ MSW c1 S s) (h36 : S.i 36 = 0 ∨ S.i 36 = 1) (h218 : S.o c1.2.1 0 = 218) (k0 : S.i 43 = 0) (e : f_X7_endList N S c1.2.1 = some R) (g : f_X12_parse_10 N n s = some U) : ¬ R.2.i 32 = 0 ∧ ¬ U.i 15 = 0 := by
  have hv := hC.1
  have k10 := (tk_is hv (a := 0) (b := 0) (Or.inl ⟨by decide, by decide⟩) (by decide)).mp k0
  have n125 : ¬ S.i 43 = 125 := by rw [k0]; decide
  refine ⟨?_, ?_⟩
  · unfold f_X7_endList at e
    obtain ⟨-, e⟩ := hf_ite e
    rw [if_neg (by rw [h218]; decide), if_neg (by rw [h218]; decide)] at e
    exact e72_flt n125 e
  · obtain ⟨m, V, g0, ev, tV, fr, tk, ⟨v64, v65, -⟩, -, v10, -⟩ := sw_1 hC hM h36 h218 (Or.inr (Or.inr (Or.inr k10))) g
    have h15 := ev.1.2.1
    obtain ⟨m2, V2, hV, g2⟩ := rl_14 g0 tV h15 v64
    unfold f_X12_groups at hV
    obtain ⟨-, hV⟩ := hf_ite hV
    rw [tp_nat tV, v65, if_neg (by decide), if_neg (by decide), if_pos rfl, if_neg (by rw [v10, k10]; decide), if_neg (by rw [v10, k10]; decide)] at hV
    obtain ⟨p3, hsh, hV⟩ := hf_bind hV
    have z3 : ¬ p3.2.i 15 = 0 := by
      unfold f_X12_shut f_X12_shut_18 f_X12_need f_X12_need_27 f_X12_need_31 at hsh
      rw [if_pos h15, if_neg (by rw [v10, k10]; decide)] at hsh
      obtain ⟨w, gw, hsh⟩ := hf_bind hsh
      obtain ⟨q, gq, gw⟩ := hf_bind gw
      obtain ⟨q1, q2⟩ := y_can0 gq
      rw [if_pos q1, if_neg q2] at gw
      cases gw
      have g2 : (if q.2.i 15 = 0 then some ((1 : Int32), q.2) else some (0, q.2)) = some p3 := (if_pos rfl).symm.trans hsh
      rw [if_neg q2] at g2
      rw [← Option.some.inj g2]
      exact q2
    refine u_flt g2 ?_
    obtain ⟨-, hV⟩ := hf_ite hV
    obtain ⟨-, hV⟩ := hf_ite hV
    obtain ⟨p25, hp, hV⟩ := hf_bind hV
    have z25 : ¬ p25.i 15 = 0 := krf_f_X12_patch N _ _ _ p25 hp z3
    have ov : ∀ (y W : RS) (w : Int32), ¬ y.i 15 = 0 → ((f_X12_over N y w).bind fun p => f_X12_groups_335 N p) = some W → ¬ W.i 15 = 0 := fun y W w hy h => by
      obtain ⟨p, hp, h⟩ := hf_bind h
      have h' : some p = some W := h
      rw [← Option.some.inj h']
      exact krf_f_X12_over N y w p hp hy
    by_cases c1' : p25.a 70 (ceT c1) = 1
    · rw [if_pos c1'] at hV
      exact ov _ _ _ (show ¬ (RS.setI (RS.setI p25 43 (p25.i 43 - 1)) 38 (p25.a 71 (ceT c1))).i 15 = 0 from z25) hV
    · rw [if_neg c1'] at hV
      by_cases c2 : p25.a 68 (ceT c1) = 0
      · rw [if_pos c2] at hV
        exact ov _ _ _ (show ¬ (RS.setI (RS.setI p25 43 (p25.i 43 - 1)) 38 (p25.a 71 (ceT c1))).i 15 = 0 from z25) hV
      · rw [if_neg c2] at hV
        split at hV
        · exact ov _ _ _ (show ¬ (RS.setI (RS.setI p25 43 (p25.i 43 - 1)) 38 (p25.a 71 (ceT c1))).i 15 = 0 from z25) hV
        · exact ov _ _ _ (show ¬ (RS.setI (RS.setI p25 43 (p25.i 43 - 1)) 38 (p25.a 71 (ceT c1))).i 15 = 0 from z25) hV
/-- the text ends inside a lock, a try, a catch or a finally -/
theorem en_bkF {N : Nat} {d : Int32} {B : CS} {b : RS} {t0 n : Nat} {L : List CEL} {x : Int} {S : CS} {s U : RS} {c1 : CEL} {R : Unit × CS} (hC : COR d B b t0 (c1 :: L) x S s) (hM : MLI c1 S s) (h36 : S.i 36 = 0 ∨ S.i 36 = 1) (hs : S.o c1.2.1 0 = 212 ∨ S.o c1.2.1 0 = 213 ∨ S.o c1.2.1 0 = 215 ∨ S.o c1.2.1 0 = 216) (k0 : S.i 43 = 0) (e : f_X7_endList N S c1.2.1 = some R) (g : f_X12_parse_10 N n s = some U) : ¬ R.2.i 32 = 0 ∧ ¬ U.i 15 = 0 := by
  obtain ⟨no1, n305, ts, h64, hmode, -⟩ := hM
  have wd : wid (S.o c1.2.1 0) = 3 := by
    rcases hs with z | z | z | z <;> rw [z] <;> rfl
  have ix : ceT c1 + wid (S.o c1.2.1 0) - 1 = ceT c1 + 2 := by omega
  rw [ix] at h64 hmode
  have ts' : tpI s = ((ceT c1 + 2 : Nat) : Int) := by rw [ts, wd]; omega
  have hv := hC.1
  have k10 := (tk_is hv (a := 0) (b := 0) (Or.inl ⟨by decide, by decide⟩) (by decide)).mp k0
  obtain ⟨m1, e1, k1, m2, e2, k2, cst⟩ := STK.mem _ _ _ _ hC.2.1 c1 List.mem_cons_self
  have fb : s.a 64 (ceT c1 + 1) = 3 ∧ s.a 65 (ceT c1 + 1) = 1 := by
    have r := cst.2.2.1
    rcases hs with z | z | z | z
    · have y := (r.2.2.2.2.2.2.2.2.2.2.1 z).2.2.1
      exact ⟨y.1, y.2.1⟩
    · have y := ((r.2.2.2.2.2.2.2.2.2.2.2.2 (Or.inl z)).2.1 z).2.1.1
      exact ⟨y.1, y.2.1⟩
    · have y := ((r.2.2.2.2.2.2.2.2.2.2.2.2 (Or.inr (Or.inl z))).2.2.1 z).2.1
      exact ⟨y.1, y.2.1⟩
    · have y := ((r.2.2.2.2.2.2.2.2.2.2.2.2 (Or.inr (Or.inr (Or.inr z)))).2.2.2.2.1 z).2.1.1
      exact ⟨y.1, y.2.1⟩
  have n125 : ¬ S.i 43 = 125 := by rw [k0]; decide
  obtain ⟨m0, V0, g0, n1, n2, n3, -⟩ := y_lend hv ts' h64 hmode h36 (Or.inr (Or.inr (Or.inr k10))) g
  have fT := n3 (ceT c1 + 1) (by omega)
  refine ⟨?_, bl_flt n1 (t := ceT c1 + 1) (by rw [n2]; omega) (fT.1.trans fb.1) (fT.2.1.trans fb.2) n125 g0⟩
  unfold f_X7_endList at e
  obtain ⟨-, e⟩ := hf_ite e
  rw [if_neg (by rcases hs with z | z | z | z <;> rw [z] <;> decide), if_neg (by rcases hs with z | z | z | z <;> rw [z] <;> decide)] at e
  exact e72_flt n125 e
end
section
/-! both readers: what a switch lays at its end -/
theorem SWG.lo {β : Int} {G : GHT} {S R : CS} {s : RS} {r : RVW} (h : SWG β G S s r) (hl : ∀ M : List Nat, chn s (s.a 22 (r.2.1 66).toNatClampNeg) M → (r.1 13).toInt + (nd (s.a 28) M : Int) ≤ (R.i 22).toInt) (a19 : R.a 19 = S.a 19) : SWG β G R s r := by
  obtain ⟨L, h1, ⟨h2, h3, h4, h6⟩, h5⟩ := h
  refine ⟨L, h1, ⟨h2, hl L h1, h4, h6⟩, fun j hj => ?_⟩
  rw [a19]
  exact h5 j hj
section
variable {A : JBA} {U : RS} {B : CS} {b : RS} {V0 : List RVW} {s0 : RS} {W : List RVW} {K : JKT} {a e : Int} {S : CS} {s : RS}
/-- the numbers of a switch, as they are laid -/
def ADK (S : CS) (f : Int32) (n : Nat) (x2 : Int32) (SF : CS) (p : Nat) : Prop := (∀ i : Nat, i < n → (SF.a 15 (p + 2 * i) = 0 ∧ SF.a 16 (p + 2 * i) = S.a 18 (f.toInt + i).toNat) ∧ SF.a 15 (p + 2 * i + 1) = 34 ∧ SF.a 16 (p + 2 * i + 1) = S.a 19 (f.toInt + i).toNat) ∧ SF.a 15 (p + 2 * n) = 6 ∧ SF.a 15 (p + 2 * n + 1) = 30 ∧ SF.a 16 (p + 2 * n + 1) = x2
/-- a switch's numbers are laid -/
theorem JRG.adc {N m n : Nat} {f x2 : Int32} {R : Unit × CS} (h : JRG A U B b V0 s0 W K a e S s) (e1 : f_X0_addCases_2 N m S f x2 f = some R) (h44 : (S.i 44).toInt ≤ 900) (h22 : 0 ≤ f.toInt ∧ f.toInt ≤ (S.i 22).toInt ∧ (S.i 22).toInt ≤ 320) (hn : (n : Int) = (S.i 22).toInt - f.toInt) (ha : a + 2 * (n : Int) + 2 ≤ 200) (hB : (B.i 22).toInt ≤ f.toInt) (hV : ∀ r ∈ V0, r.v = 218 → ∀ M : List Nat, chn s (s.a 22 (r.2.1 66).toNatClampNeg) M → (r.1 13).toInt + (nd (s.a 28) M : Int) ≤ f.toInt) : JRG A U B b V0 s0 W (fun FC SF nm X ω j Z => (ADK S f n x2 SF (pcC S) ∧ pcC S + 2 * n + 2 ≤ 1200 ∧ pcC R.2 = pcC S + 2 * n + 2) ∧ K FC SF nm X ω j Z) (a + (2 * (n : Int) + 2)) e R.2 s := by
  intro crB
  obtain ⟨b1, ⟨b2, n8⟩, b3, b4, Ψ, G, col, YJ, sax, ⟨pin, pin0⟩, tgi, jsi, main⟩ := h crB
  obtain ⟨⟨r1, r1'⟩, r2, r3, r4, r5⟩ := crB.rms b1
  obtain ⟨d1, d2, d3, d4, di, da, d22⟩ := adc_cd m S f R e1 h22.1 h22.2.1 h22.2.2 r1 (by omega)
  have en : ((S.i 22).toInt - f.toInt).toNat = n := by omega
  rw [en] at d1 d3 d4
  have i21 : R.2.i 21 = S.i 21 := di 21 (by decide) (by decide)
  have i23 : R.2.i 23 = S.i 23 := di 23 (by decide) (by decide)
  have i44 : R.2.i 44 = S.i 44 := di 44 (by decide) (by decide)
  have i38 : R.2.i 38 = S.i 38 := di 38 (by decide) (by decide)
  have a17 : R.2.a 17 = S.a 17 := da 17 (by decide) (by decide)
  have a19 : R.2.a 19 = S.a 19 := da 19 (by decide) (by decide)
  have kd : ∀ {x y : Int}, KD1 x y B S → KD1 (x + (2 * (n : Int) + 2)) y B R.2 := fun {x y} k => by
    obtain ⟨⟨k1, k2, k3⟩, k4, k5, ⟨k6, k7⟩, k8, k9⟩ := k
    refine ⟨⟨by omega, by rw [i44]; omega, by rw [i21, i44]; exact k3⟩, fun j hj => ?_, by rw [i21]; exact k5, ⟨by rw [i23]; exact k6, by rw [i23, i44]; exact k7⟩, by rw [d22]; exact hB, fun j hj => by rw [a19]; exact k9 j hj⟩
    rw [(d2 j (by omega)).1, (d2 j (by omega)).2]
    exact k4 j hj
  have l20 : (S.i 20).toInt ≤ (R.2.i 20).toInt := by omega
  refine ⟨kd b1, ⟨b2.tr (CT7.eq a17), n8.nk (NK.eq (da 48 (by decide) (by decide)) (da 49 (by decide) (by decide)) rfl rfl)⟩, b3, b4, Ψ, G, col, YJ, ?_, ⟨pin, pin0⟩, ?_, ⟨jsi.1, (kd jsi.2.1).wk (by omega) (Int.le_refl _), jsi.2.2.1.mv crB.1.1.2.1 (by rw [i21]; exact Int.le_refl _) l20 (CT7.eq a17) (fun r hr _ _ => hr), fun r hr => ?_, jsi.2.2.2.2⟩, ?_⟩
  · unfold SAX GHM at sax ⊢
    rw [i23]
    exact sax
  · unfold TGI at tgi ⊢
    rw [i21, a17]
    exact tgi
  · have z := jsi.2.2.2.1 r hr
    exact ⟨fun w => (z.1 w).lo (fun M hM => by rw [d22]; exact hV r hr w M hM) a19, z.2.1, fun w y hy => Int.le_trans (z.2.2.1 w y hy) l20, fun w => Int.le_trans (z.2.2.2.1 w) l20, z.2.2.2.2⟩
  intro FC SF nm X h0 ω c0 psi ng0 hc0 hh0 hω
  obtain ⟨⟨ng, hc, hh, wn⟩, mn⟩ := main FC SF nm X h0 ω c0 psi ng0 hc0 hh0 hω
  have pS : ((pcC S : Nat) : Int) = (S.i 20).toInt := Int.toNat_of_nonneg r1
  refine ⟨⟨⟨⟨fun k hk => by rw [da 48 (by decide) (by decide), da 49 (by decide) (by decide)]; exact ng.1.1 k hk, by rw [i38]; exact ng.1.2.1, ng.1.2.2.1, ng.1.2.2.2.mv (by rw [i23]; exact Int.le_refl _) (SLC.eq rfl (Int.le_refl _))⟩, ng.2⟩, hc, hh, wn.mv (by rw [i23]; exact Int.le_refl _) (fun _ hr _ => hr)⟩, fun fc fg hA tyc jr => ⟨⟨⟨fun i hi => ?_, ?_⟩, ?_, ?_⟩, mn ⟨⟨fc.1.1, by have := fc.1.2; omega⟩, fun j j1 j2 => ?_, fun k k1 k2 k3 => ?_⟩ fg hA tyc jr⟩⟩
  · have y := d3 i hi (pcC S + 2 * i) (by omega)
    have f1 := fc.2.1 (pcC S + 2 * i) (by have := b1.1.1; omega) (by omega)
    have f2 := fc.2.1 (pcC S + 2 * i + 1) (by have := b1.1.1; omega) (by omega)
    rw [f1.1, f1.2, f2.1, f2.2]
    exact ⟨⟨y.1, y.2.1⟩, y.2.2⟩
  · have y := d4 (pcC S + 2 * n) (by omega)
    have f1 := fc.2.1 (pcC S + 2 * n) (by have := b1.1.1; omega) (by omega)
    have f2 := fc.2.1 (pcC S + 2 * n + 1) (by have := b1.1.1; omega) (by omega)
    rw [f1.1, f2.1, f2.2]
    exact y
  · have := fc.1.2
    omega
  · unfold pcC
    unfold pcC at pS
    omega
  · have f1 := fc.2.1 j j1 (by omega)
    rw [(d2 j j2).1, (d2 j j2).2] at f1
    exact f1
  · have z := fc.2.2 k k1 (by rw [i21]; exact k2) (by rw [i21, a17]; exact k3)
    rw [a17] at z
    exact z
end
theorem adc_44 {N : Nat} {f x2 : Int32} : ∀ (n : Nat) (S : CS) (x3 : Int32) (R : Unit × CS), f_X0_addCases_2 N n S f x2 x3 = some R → R.2.i 44 = S.i 44
  | 0, _, _, _, e => by cases e
  | n + 1, S, x3, R, e => by
    have e' : b_X0_addCases_2 N (f_X0_addCases_2 N n) S f x2 x3 = some R := e
    unfold b_X0_addCases_2 at e'
    by_cases c : S.i 22 ≤ x3
    · rw [if_pos c] at e'
      obtain ⟨p, ep, e'⟩ := hf_bind e'
      obtain ⟨q, eq, e'⟩ := hf_bind e'
      cases e'
      show q.2.i 44 = S.i 44
      rw [(add_eq eq).1 44 (by decide), (add_eq ep).1 44 (by decide)]
      rfl
    · rw [if_neg c] at e'
      obtain ⟨p, ep, e'⟩ := hf_bind e'
      obtain ⟨q, eq, e'⟩ := hf_bind e'
      rw [adc_44 n q.2 (x3 + 1) R e', (add_eq eq).1 44 (by decide), (add_eq ep).1 44 (by decide)]
/-- a switch's head: where its numbers lead -/
theorem gs_swi {FC : Nat → Prop} {s0 : CS} {r0 : RS} {nm : Nat → Nat → Prop} {X : Als} {p q h w g d n : Nat} {L : List Nat} {c : List Ent} (pq : HC1 nm p q (h + 1) c) (hq : (q : Int) < (r0.i 20).toInt) (e1 : s0.a 15 p = 30) (hd : (cTg s0 (s0.a 16 p)).toInt = (d : Int)) (dsp : DSP s0 d n) (hh : h + 2 ≤ 600) (ch : CHL r0 L (r0.a 22 q)) (hw : 2 * n + 3 ≤ w) (e2 : r0.a 21 q = 28) (cho : CHO s0 r0 (GU FC s0 r0 nm X) q h w d n L c) (dft : (∀ k ∈ L, r0.a 28 k = 0) → JX s0 (GU FC s0 r0 nm X) (s0.a 16 (d + 2 * n + 1)) (r0.a 23 q) h w (2 * n + 3) 0 c) : GU FC s0 r0 nm X p q (h + 1) w g c := gi_UCho pq hq ⟨e1, d, n, h, L, hd, dsp, ⟨rfl, hh⟩, ch, hw, Or.inl ⟨e2, cho, dft⟩⟩
theorem lst_nd {α : Type} : ∀ L : List α, L = [] ∨ ∃ (L0 : List α) (l : α), L = L0 ++ [l]
  | [] => Or.inl rfl
  | a :: L => by
    rcases lst_nd L with h | ⟨L0, l, h⟩
    · exact Or.inr ⟨[], a, by rw [h]; rfl⟩
    · exact Or.inr ⟨a :: L0, l, by rw [h]; rfl⟩
/-- the numbers of the switches below -/
theorem STK.nd8 {S : CS} {s : RS} : ∀ (L : List CEL) (m e k : Int), STK S s L m e k → ∀ y ∈ L, S.o y.2.1 0 = 218 → ∀ M : List Nat, chn s (s.a 22 (s.a 66 (ceT y)).toNatClampNeg) M → (S.o y.2.1 13).toInt + (nd (s.a 28) M : Int) ≤ m ∧ (∀ j ∈ M, (j : Int) < e) ∧ ((s.a 67 (ceT y)).toInt < e ∨ (s.a 67 (ceT y)).toInt < 0)
  | [], _, _, _, _, y, hy, _, _, _ => absurd hy List.not_mem_nil
  | c :: L, m, e, k, h, y, hy, h8, M, hM => by
    obtain ⟨m', e', k', h1, h2, h3⟩ := h
    rcases List.mem_cons.mp hy with z | z
    · rw [z] at h8 hM ⊢
      obtain ⟨q1, q2, q3, M0, l1, l2, l3, l4⟩ := h1.2.2.2.2.1 h8
      rw [chn.uq _ _ _ hM l2]
      have l5 := l1.2.1.2.1
      refine ⟨by omega, fun j hj => (l4 j hj).2, ?_⟩
      rcases lst_nd M0 with w | ⟨L0, l, w⟩
      · exact Or.inr (l3.1 w)
      · have z1 := l3.2 L0 l w
        have z2 := (l4 l (by rw [w]; exact List.mem_append_right _ List.mem_cons_self)).2
        exact Or.inl (by omega)
    · have ih := STK.nd8 L m' e' k' h3 y z h8 M hM
      have lm : m' ≤ m ∧ e' ≤ e := by
        by_cases c8 : S.o c.2.1 0 = 218
        · obtain ⟨q1, q2, q3, M0, l1, -⟩ := h1.2.2.2.2.1 c8
          have := l1.2.1.1
          exact ⟨by omega, q2⟩
        · obtain ⟨q1, q2⟩ := h1.2.2.2.1 c8
          omega
      exact ⟨by omega, fun j hj => by have := ih.2.1 j hj; omega, ih.2.2.elim (fun w => Or.inl (by omega)) Or.inr⟩
end
