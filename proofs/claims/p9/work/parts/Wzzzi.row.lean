/-! both readers: the end of a for over a row -/
set_option maxHeartbeats 2000000 in
theorem en_row {N : Nat} {E1 : CS → Option (Unit × CS)} {E2 : CS → Option (Int32 × CS)} {d : Int32} {B : CS} {b : RS} {t0 n : Nat} {L : List CEL} {x : Int} {S : CS} {s U : RS} {c1 c : CEL} {R : Unit × CS} (hC : COR d B b t0 (c1 :: c :: L) x S s) (tp : TOP S s c1) (hM : MEN c1 S s) (h304 : S.o c1.2.1 0 = 304) (bz : BAZ B b (c1 :: c :: L)) (hT : t0 ≤ ceT c1) (e : f_X7_endBody N E1 E2 S c1.2.1 = some R) (g : f_X12_parse_10 N n s = some U) : ∃ (m : Nat) (u : RS), f_X12_parse_10 N m u = some U ∧ POPD d B b t0 c L R.2 u := by
  obtain ⟨one, o5, ts, h75, hm⟩ := hM
  obtain ⟨m1, e1, k1, m2, e2, k2, cst⟩ := STK.mem _ _ _ _ hC.2.1 c1 List.mem_cons_self
  obtain ⟨⟨f1, f2, f3, f4, f5⟩, o7⟩ := cst.2.2.1.2.2.2.2.2.2.2.2.2.1 h304
  have hv := hC.1
  have go : isGo (S.o c1.2.1 0) := Or.inr (Or.inr (Or.inr (Or.inr (Or.inr h304))))
  obtain ⟨m2, V, hV, g2⟩ := rl_12 g ts hv.1.2.1 f1
  unfold f_X12_fors at hV
  obtain ⟨hib, hV⟩ := hf_ite hV
  have t9 : ceT c1 < 1000 := by
    have h2 : (s.i 63).toInt = (ceT c1 : Int) := ts
    have := hib.2
    omega
  have g73 : (s.a 73 (ceT c1)).toNatClampNeg = ceG c1 := by
    show (s.a 73 (ceT c1)).toInt.toNat = ceG c1
    omega
  rw [tp_nat ts, f2, if_neg (by decide), if_neg (by decide), if_neg (by decide), if_neg (by decide), if_neg (by decide), if_neg (by decide), if_neg (by decide), if_neg (by decide), if_neg (by decide), ob_id] at hV
  unfold f_X12_rows at hV
  obtain ⟨-, hV⟩ := hf_ite hV
  rw [tp_nat ts, f2, if_neg (by decide), if_neg (by decide), g73] at hV
  obtain ⟨-, hV⟩ := hf_ite hV
  obtain ⟨s1, hp1, hV⟩ := hf_bind hV
  obtain ⟨y, hy, hV⟩ := hf_bind hV
  obtain ⟨-, hV⟩ := hf_ite hV
  obtain ⟨q0, hp2, hV⟩ := hf_bind hV
  obtain ⟨z, hz, hV⟩ := hf_bind hV
  rw [ob_id] at hV
  have d2 : dbt (S.o c1.2.1 0) = 2 := by
    rw [h304]
    rfl
  obtain ⟨hE0, ⟨lk, lw0, tp0, tq0⟩, frm, ⟨q50, q44⟩, ⟨q43, q38⟩, ph0⟩ := lp_pt (pf := 66) hC tp ts hT go (by rw [h304]; unfold isTy; decide) (by rw [h304]; decide) (by rw [h304]; rfl) (by rw [h304]; rfl) (by rw [d2]; decide) (Or.inl rfl) (Or.inl ⟨Or.inr h304, rfl⟩) hp1 hy hp2
  rw [d2] at ph0
  have pd0 := (PDM.ge S (c :: L)).1
  have b30 := hC.2.2.2.2.2.2.2.2.2.2.2.1
  -- the last instruction
  obtain ⟨n1, n2, n3, n4, n5, n6, n7, n8, n9, n19, -⟩ := y_emit hE0.1 tq0 (by omega) hz
  have hinq : INL S q0 (ceT c1) (c :: L) := by
    have z := STK.inl L c _ _ _ hE0.2.1 (by have := tp.1; have := lk.1; omega) (by have := tp0.2.1; have := lk.2.2.1; omega) (by have := tp0.2.2; have := lk.2.2.2.1; omega)
    rw [← lk.2.1] at z
    exact z
  have hE := hE0.mv3 hinq hT n1 (n3 _) n4 ⟨by rw [n8]; exact Int.le_refl _, by omega, by rw [n9]; exact Int.le_refl _, by rw [n19]⟩
  have zt := n4.1.1
  have z43 : z.2.i 43 = q0.i 43 := zt.2.2.2.2.1
  have z56 : z.2.i 56 = q0.i 56 := zt.2.2.2.2.2.2.1
  have z71 : z.2.a 71 (ceT c1) = S.o c1.2.1 3 := by
    rw [(n3 (ceT c1 + 1)).all 71 (by decide) (by decide), frm 71 (by decide) (by decide)]
    exact f4
  have gi : (ceG c1 : Int) < (q0.i 43).toInt := by
    have := tp0.2.1
    have := nGo1 go
    omega
  have z44 : z.2.a 44 (ceG c1) = 0 := by
    rw [(n4.1.r.2.1 (ceG c1) gi).1, q44]
    exact f5
  -- the class
  unfold f_X7_endBody at e
  obtain ⟨-, e⟩ := hf_ite e
  rw [if_neg (by rw [h304]; decide), if_neg (by rw [h304]; decide), if_neg (by rw [h304]; decide), if_neg (by rw [h304]; decide)] at e
  obtain ⟨p36, e36, e⟩ := hf_bind e
  obtain ⟨-, e⟩ := hf_ite e
  obtain ⟨p41, e41, e⟩ := hf_bind e
  obtain ⟨-, e⟩ := hf_ite e
  obtain ⟨a1, a2, -, -⟩ := y_add hv e36
  obtain ⟨b1, b2, -, -⟩ := y_aim a1 e41
  obtain ⟨a1q, -, -, -⟩ := y_add hE.1 e36
  obtain ⟨b1q, -, -, -⟩ := y_aim a1q e41
  have ck := a2.tr b2
  have hin0 := hC.inl tp (T := ceT c1 + wid (S.o c1.2.1 0)) rfl
  have eo : ∀ z ∈ c1 :: c :: L, p41.2.o z.2.1 = S.o z.2.1 := fun z hz => (hin0.o ck.z z hz).1
  have eo1 := eo c1 List.mem_cons_self
  have eoc := eo c (List.mem_cons_of_mem _ List.mem_cons_self)
  rw [eo1, if_pos o7] at e
  have hinz : INL S z.2 (ceT c1) (c :: L) := hinq.mv (CKZ.rf S) rfl z43 z56
  have hEp := hE.cx hinz hT b1q ck
  have g43 : (z.2.i 43 - 1).toInt = (z.2.i 43).toInt - 1 := by
    have e1 : (1 : Int32).toInt = 1 := by decide
    have hi := Int32.toInt_lt (z.2.i 43)
    rw [← z43] at gi
    rw [toInt_sub] <;> rw [e1] <;> omega
  have tpp : TOP p41.2 z.2 c1 := ⟨by rw [ck.1.2.2.2.2.1]; exact tp.1, by rw [eo1, z43]; exact tp0.2.1, by rw [eo1, z56]; exact tp0.2.2⟩
  have lkp : LNK p41.2 c1 c := by
    unfold LNK at *
    rw [eo1, eoc]
    exact lk
  have lwp : LOW p41.2 z.2 c := by
    have w := lw0.mv (rfl : S.o c.2.1 = S.o c.2.1) (n3 (ceT c1)) (by rw [lk.2.1]; exact Nat.le_refl _)
    unfold LOW at *
    rw [eoc]
    exact w
  obtain ⟨X1, X2, X3, X4, X5⟩ := e_193 (n := c.1) (by rw [ck.1.2.2.2.2.1]; have := tp.1; have := lk.1; omega) e
  have ob := hC.2.2.2.2.2.2.2.1.2
  have ord := STK.ord (c :: L) c1 _ _ _ hC.2.1
  have i50 : p41.2.i 50 = S.i 50 := ck.1.2.2.2.1
  exact ⟨m2, V, g2, (pop_core hEp tpp lkp lwp bz hT t9 n2 (by rw [eo1, h304]; rfl) (fun _ => by rw [z44]; decide) (Or.inr rfl) hV ⟨fun k h1 h2 h3 => ((if_neg h1).trans (if_neg h2)).trans (if_neg h3), rfl, rfl, rfl⟩ (by rw [eo1]; exact z71) (by rw [eo1, nGo1 go]; exact g43) (by rw [eo1, i50]; exact ob.1 c1 List.mem_cons_self) (fun w hw => by rw [eo1, eo w (List.mem_cons_of_mem _ hw)]; exact ob.2.1 w (List.mem_cons_of_mem _ hw) c1 List.mem_cons_self (ord w hw)) X1 X2 X3 X4 X5).1⟩
