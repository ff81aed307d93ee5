/-! both readers: setters in another order -/
theorem cm_add {N k : Nat} {S : CS} {v o x : Int32} {R : Unit × CS} (hk : k ≠ 20) (e : f_X0_add N (CS.setI S k v) o x = some R) : ∃ R' : Unit × CS, f_X0_add N S o x = some R' ∧ R.2 = CS.setI R'.2 k v := by
  have e20 : (CS.setI S k v).i 20 = S.i 20 := ci_ne _ _ _ (fun z => hk z.symm)
  unfold f_X0_add at e
  rw [e20] at e
  refine ⟨_, rfl, ?_⟩
  rw [← Option.some.inj e]
  exact csI_comm (s := CS.putA (CS.putA S 15 (gPut (S.a 15) 1200 (S.i 20) o)) 16 (gPut (CS.a (CS.putA S 15 (gPut (S.a 15) 1200 (S.i 20) o)) 16) 1200 (S.i 20) x)) (v := v) (w := S.i 20 + 1) hk
theorem cm_aim {N k : Nat} {S : CS} {v x : Int32} {R : Unit × CS} (hk : k ≠ 20) (e : f_X0_aim N (CS.setI S k v) x = some R) : ∃ R' : Unit × CS, f_X0_aim N S x = some R' ∧ R.2 = CS.setI R'.2 k v := by
  have e20 : (CS.setI S k v).i 20 = S.i 20 := ci_ne _ _ _ (fun z => hk z.symm)
  unfold f_X0_aim at e
  rw [e20] at e
  refine ⟨_, rfl, ?_⟩
  rw [← Option.some.inj e]
  rfl
theorem cm_leave {N k : Nat} {S : CS} {v x y : Int32} {R : Unit × CS} (hk : k ≠ 20) (hk2 : k ≠ 38) (e : f_X7_leave N (CS.setI S k v) x y = some R) : ∃ R' : Unit × CS, f_X7_leave N S x y = some R' ∧ R.2 = CS.setI R'.2 k v := by
  have e38 : (CS.setI S k v).i 38 = S.i 38 := ci_ne _ _ _ (fun z => hk2 z.symm)
  unfold f_X7_leave at e ⊢
  rw [e38] at e
  by_cases c : y = S.i 38
  · rw [if_pos c] at e ⊢
    obtain ⟨R', h1, h2⟩ := cm_add hk (ob_un e)
    exact ⟨R', by rw [h1]; rfl, h2⟩
  · rw [if_neg c] at e ⊢
    obtain ⟨R', h1, h2⟩ := cm_add hk (ob_un e)
    exact ⟨R', by rw [h1]; rfl, h2⟩
theorem kd_leave {N : Nat} {S : CS} {x y : Int32} {R : Unit × CS} (e : f_X7_leave N S x y = some R) : pj2 R.2 = pj2 S := by
  unfold f_X7_leave at e
  by_cases c : y = S.i 38
  · rw [if_pos c] at e
    exact kd_X0_add N S _ _ R (ob_un e)
  · rw [if_neg c] at e
    exact kd_X0_add N S _ _ R (ob_un e)
theorem cm_emit {N k : Nat} {s : RS} {v o x : Int32} {R : Int32 × RS} (hk : k ≠ 20) (e : f_X12_emit N (RS.setI s k v) o x = some R) : ∃ R' : Int32 × RS, f_X12_emit N s o x = some R' ∧ R.1 = R'.1 ∧ R.2 = RS.setI R'.2 k v := by
  have e20 : (RS.setI s k v).i 20 = s.i 20 := if_neg (fun z => hk z.symm)
  have key : ∀ y : Int32, f_X12_emit_21 N (RS.setI s k v) o x y = some R → ∃ R' : Int32 × RS, f_X12_emit_21 N s o x y = some R' ∧ R.1 = R'.1 ∧ R.2 = RS.setI R'.2 k v := fun y h => by
    unfold f_X12_emit_21 at h ⊢
    obtain ⟨hi, h⟩ := hf_ite h
    rw [if_pos hi]
    refine ⟨_, rfl, ?_, ?_⟩
    · rw [← Option.some.inj h]
    · rw [← Option.some.inj h]
      exact rsI_comm (r := RS.setA (RS.setA (RS.setA s 21 (y : Int32).toNatClampNeg o) 22 (y : Int32).toNatClampNeg x) 23 (y : Int32).toNatClampNeg 0) hk
  unfold f_X12_emit at e ⊢
  rw [e20] at e
  by_cases c : 3000 ≤ s.i 20
  · rw [if_pos c] at e ⊢
    exact key _ e
  · rw [if_neg c] at e ⊢
    exact key _ e
theorem ENV.s63 {d : Int32} {S : CS} {s : RS} {v : Int32} (h : ENV d S s) : ENV d S (RS.setI s 63 v) := h.kq rfl rfl rfl rfl rfl rfl rfl rfl rfl rfl rfl rfl rfl rfl rfl rfl rfl rfl rfl rfl ⟨h.2.2.2.2.2.2.1, h.2.2.2.2.2.2.2.1⟩ (h.wp.of (Int.le_refl _) rfl rfl rfl rfl rfl)
theorem COR.s63 {d : Int32} {B : CS} {b : RS} {t0 T : Nat} {L : List CEL} {x : Int} {S : CS} {s : RS} {v : Int32} (h : COR d B b t0 L x S s) (hin : INL S s T L) (hT : t0 ≤ T) : COR d B b t0 L x S (RS.setI s 63 v) := h.mv hin hT h.1.s63 (fun _ _ => ⟨rfl, rfl, rfl, rfl, rfl, rfl, rfl, rfl, rfl, rfl, rfl⟩) (TBK.rf s).1.r (TBK.rf s).2 ⟨rfl, rfl, rfl, rfl, rfl, rfl, rfl, rfl, rfl⟩ (CKZ.rf S) ⟨rfl, rfl, rfl⟩ ⟨Int.le_refl _, Int.le_refl _, Int.le_refl _⟩ ⟨Int.le_refl _, Int.le_refl _, Int.le_refl _, rfl⟩ h.2.2.2.2.2.2.2.2.1.2.1 (Int.le_refl _)
/-- less deep -/
theorem ENV.dps {d : Int32} {S : CS} {s : RS} {v : Int32} (h : ENV d S s) (h0 : 0 ≤ v.toInt) (h1 : v.toInt ≤ (S.i 38).toInt) : ENV d (CS.setI S 38 v) s := by
  refine h.gx (fun j _ _ q _ _ _ _ => ci_ne _ _ _ q) ⟨rfl, rfl, rfl⟩ rfl rfl (h.ri.mv rfl rfl rfl rfl ⟨rfl, rfl, rfl⟩ h.ri.2.2.2.2.2.2 (Int.le_refl _)) ?_ h.t21
  have z := h.sj
  have i54 : (CS.setI S 38 v).i 54 = S.i 54 ∧ (CS.setI S 38 v).i 55 = S.i 55 ∧ (CS.setI S 38 v).i 38 = v := ⟨rfl, rfl, rfl⟩
  unfold SJB at *
  rw [i54.1, i54.2.1, i54.2.2]
  omega
/-- a row goes that is deeper -/
theorem COR.dropD {d : Int32} {B : CS} {b : RS} {t0 : Nat} {L : List CEL} {x : Int} {S : CS} {s : RS} {c1 c : CEL} {v : Int32} (h : COR d B b t0 (c1 :: c :: L) x S s) (nt : ¬ isTy (S.o c1.2.1 0)) (ns : ¬ S.o c1.2.1 0 = 218) (hv : v.toInt = (S.i 38).toInt - (nDp (S.o c1.2.1 0) : Int)) (hB : 0 ≤ (B.i 38).toInt) {w : Int32} (hw : w.toInt = (b.i 19).toInt + (nSg (S.o c1.2.1 0) : Int)) : COR d B (RS.setI b 19 w) t0 (c :: L) (-9) (CS.setI S 38 v) s ∧ (∀ y ∈ c :: L, isGo (S.o y.2.1 0) → ¬ ceG y = ceG c1) ∧ (∀ y ∈ c :: L, y.1 < c1.1) ∧ LNK S c1 c ∧ LOW S s c := by
  obtain ⟨h1, h2, h3, h4, h5, h6, ⟨h10, h11, h12, hsg⟩, h13, h14, h17, ⟨h18, h19, h20, col, h21⟩⟩ := h
  have ord := STK.ord (c :: L) c1 _ _ _ h2
  obtain ⟨inj1, inj2⟩ := STK.inj (c1 :: c :: L) _ _ _ h2
  have inj : ∀ y ∈ c :: L, isGo (S.o y.2.1 0) → ¬ ceG y = ceG c1 := fun y hy g z => by
    have := (inj2 y (List.mem_cons_of_mem _ hy) c1 List.mem_cons_self (ord y hy)).2.1
    have := nGo1 g
    omega
  have st := STK.drop h2
  rw [if_neg ns] at st
  have d0 : 0 ≤ dbt (S.o c1.2.1 0) := by
    unfold dbt
    by_cases c1' : S.o c1.2.1 0 = 205 ∨ S.o c1.2.1 0 = 207
    · rw [if_pos c1']; omega
    · rw [if_neg c1']
      by_cases c2 : S.o c1.2.1 0 = 304
      · rw [if_pos c2]; omega
      · rw [if_neg c2]; omega
  have e1 : PDM S (c1 :: c :: L) = dbt (S.o c1.2.1 0) + PDM S (c :: L) := rfl
  have e2 : DSM S (c1 :: c :: L) = (nDp (S.o c1.2.1 0) : Int) + DSM S (c :: L) := rfl
  rw [e1] at h11
  rw [e2] at h13
  obtain ⟨h13, h13b⟩ := h13
  have cf : cfl S (c :: L) (S.i 22).toInt = (B.i 22).toInt := by
    have z := h13b.2.2.1
    have e3 : cfl S (c1 :: c :: L) (S.i 22).toInt = cfl S (c :: L) (if S.o c1.2.1 0 = 218 then (S.o c1.2.1 13).toInt else (S.i 22).toInt) := rfl
    rw [e3, if_neg ns] at z
    exact z
  obtain ⟨m', e', k', g1, g2, g3⟩ := h2
  obtain ⟨l1, l2⟩ := g2 c rfl
  have ds := (PDM.ge S (c :: L)).2
  have dn : 0 ≤ v.toInt := by omega
  have eo : ∀ y ∈ c :: L, (CS.setI S 38 v).o y.2.1 = S.o y.2.1 := fun _ _ => rfl
  obtain ⟨ed, ep⟩ := DSM.eq (c :: L) eo
  have jq : JMQ (CS.setI S 38 v) s (c :: L) (b.i 59).toInt (b.i 29).toInt := h3.drop nt ord
  have lb : LBC (CS.setI S 38 v) s (c :: L) (-9) := LBC.mv (c :: L) (-9) h4.drop eo (fun _ _ _ => rfl)
  have cl : COL (CS.setI S 38 v) s (c :: L) (cdr (ceG c1) col) (b.i 20).toInt := h21.drop inj
  have stv : STK (CS.setI S 38 v) s (c :: L) (S.i 22).toInt (s.i 24).toInt (s.i 33).toInt := STK.eo (S := S) (R := CS.setI S 38 v) rfl rfl (c :: L) _ _ _ (fun _ _ => ⟨rfl, rfl⟩) st
  have cfv : cfl (CS.setI S 38 v) (c :: L) (S.i 22).toInt = (B.i 22).toInt := (cfl.eq (c :: L) _ eo).trans cf
  have e5 : SSM S (c1 :: c :: L) = (nSg (S.o c1.2.1 0) : Int) + SSM S (c :: L) := rfl
  rw [e5] at hsg
  have hsw : (s.i 19).toInt = w.toInt + SSM (CS.setI S 38 v) (c :: L) := by rw [SSM.eo (c :: L) eo]; omega
  have hph : phI b + PDM (CS.setI S 38 v) (c :: L) ≤ phI s := by
    rw [ep]
    omega
  have hds : v.toInt = (B.i 38).toInt + DSM (CS.setI S 38 v) (c :: L) := by
    rw [ed]
    omega
  exact ⟨⟨h1.dps dn (by omega), stv, jq, lb, h5, h6, ⟨h10, hph, h12, hsw⟩, ⟨hds, fun y hy => h13b.1 y (List.mem_cons_of_mem _ hy), fun y hy z hz => h13b.2.1 y (List.mem_cons_of_mem _ hy) z (List.mem_cons_of_mem _ hz), cfv, fun y hy => h13b.2.2.2 y (List.mem_cons_of_mem _ hy)⟩, h14, h17, ⟨h18, h19, h20, _, cl⟩⟩, inj, ord, l1, l2⟩
