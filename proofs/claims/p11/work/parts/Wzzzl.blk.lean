/-! both readers: a block's end -/
theorem vaI_comm {f : Nat → Int32} {j k : Nat} {v w : Int32} (h : j ≠ k) : va_up (va_up f j v) k w = va_up (va_up f k w) j v := by
  funext i
  show (if i = k then w else if i = j then v else f i) = (if i = j then v else if i = k then w else f i)
  by_cases a : i = k
  · rw [if_pos a, if_neg (fun b => h (b.symm.trans a)), if_pos a]
  · rw [if_neg a, if_neg a]
theorem rsI_comm {r : RS} {j k : Nat} {v w : Int32} (h : j ≠ k) : RS.setI (RS.setI r j v) k w = RS.setI (RS.setI r k w) j v := congrArg (fun f => ((f, r.l, r.a, r.b) : RS)) (vaI_comm (f := r.i) h)
theorem csI_comm {s : CS} {j k : Nat} {v w : Int32} (h : j ≠ k) : CS.setI (CS.setI s j v) k w = CS.setI (CS.setI s k w) j v := congrArg (fun f => (some (s.hs, f, s.l, s.a, s.b, s.r, s.w, s.L, s.k, s.o, s.ol, s.ot, s.oa) : CS)) (vaI_comm (f := s.i) h)
theorem sub19 {d : Int32} {S : CS} {s : RS} (h : ENV d S s) : (s.i 19 - 1).toInt = (s.i 19).toInt - 1 := by
  have e1 : (1 : Int32).toInt = 1 := by decide
  have z := h.2.2.1.2.1
  have hi := Int32.toInt_lt (s.i 19)
  rw [toInt_sub] <;> rw [e1] <;> omega
/-- one sign less, in both -/
theorem COR.s19 {d : Int32} {B : CS} {b : RS} {t0 T : Nat} {L : List CEL} {x : Int} {X : CS} {V : RS} {v w w0 w1 : Int32} (h : COR d B (RS.setI b 19 w0) t0 L x X V) (hin : INL X V T L) (hT : t0 ≤ T) (ev : ENV d (CS.setI X 34 v) (RS.setI V 19 w)) (hw : w.toInt = (V.i 19).toInt - 1) (hb : w0.toInt = w1.toInt + 1) : COR d B (RS.setI b 19 w1) t0 L x (CS.setI X 34 v) (RS.setI V 19 w) := by
  obtain ⟨h1, h2, h3, h4, h5, ⟨h6, h7, h8, h9⟩, ⟨h10, h11, h12, hsg⟩, h13, ⟨h14, h15, h16⟩, h17, ⟨h18, h19, h20, col, h21⟩⟩ := h
  have hsg' : (V.i 19).toInt = w0.toInt + SSM X L := hsg
  have ck : CKZ X (CS.setI X 34 v) := CKZ.rf X
  have f : FRB T V (RS.setI V 19 w) := FRB.rf T V
  have tb : TBR V (RS.setI V 19 w) := (TBK.rf V).1.r
  have cd : CDK (V.i 20).toInt V (RS.setI V 19 w) := (TBK.rf V).2
  have sj := h1.sj
  have eo : ∀ c ∈ L, (CS.setI X 34 v).o c.2.1 = X.o c.2.1 := fun _ _ => rfl
  obtain ⟨d1, d2⟩ := DSM.eq L eo
  have st : STK (CS.setI X 34 v) (RS.setI V 19 w) L (X.i 22).toInt (V.i 24).toInt (V.i 33).toInt := STK.mv ck f tb cd L _ _ _ h2 hin (Int.le_refl _) (Int.le_refl _) (Int.le_refl _)
  have jq := h3.mv h18 sj.1 hin ck f tb
  have lb : LBC (CS.setI X 34 v) (RS.setI V 19 w) L x := LBC.mv L x h4 eo (fun _ _ _ => rfl)
  have cb : CBB B (CS.setI X 34 v) := h5
  have ph : phI b + PDM (CS.setI X 34 v) L ≤ phI V := by rw [d2]; exact h11
  have ds : (X.i 38).toInt = (B.i 38).toInt + DSM (CS.setI X 34 v) L := by rw [d1]; exact h13.1
  have sg : w.toInt = w1.toInt + SSM (CS.setI X 34 v) L := by rw [SSM.eo L eo]; omega
  have ob := h13.2.mv (R := CS.setI X 34 v) (u := RS.setI V 19 w) eo rfl (Int.le_refl _) (fun _ _ => ⟨rfl, rfl⟩)
  have cl := h21.mv h20 hin ck f tb cd
  exact ⟨ev, st, jq, lb, cb, ⟨h6, h7, h8, h9⟩, ⟨h10, ph, h12, sg⟩, ⟨ds, ob⟩, ⟨h14, h15, h16⟩, h17, ⟨h18, h19, h20, col, cl⟩⟩
theorem rsI_2 {r : RS} {k : Nat} {v w : Int32} : RS.setI (RS.setI r k v) k w = RS.setI r k w := by
  have e : va_up (va_up r.i k v) k w = va_up r.i k w := by
    funext j
    show (if j = k then w else if j = k then v else r.i j) = (if j = k then w else r.i j)
    by_cases z : j = k
    · rw [if_pos z, if_pos z]
    · rw [if_neg z, if_neg z, if_neg z]
  show ((va_up (va_up r.i k v) k w, r.l, r.a, r.b) : RS) = (va_up r.i k w, r.l, r.a, r.b)
  rw [e]
theorem POPD.sg {d : Int32} {B : CS} {b : RS} {t0 : Nat} {c : CEL} {L : List CEL} {X : CS} {V : RS} {v w w0 : Int32} (h : POPD d B (RS.setI b 19 w0) t0 c L X V) (hT : t0 ≤ ceT c + wid (X.o c.2.1 0)) (ev : ENV d (CS.setI X 34 v) (RS.setI V 19 w)) (hw : w.toInt = (V.i 19).toInt - 1) (hb : w0.toInt = (b.i 19).toInt + 1) : POPD d B b t0 c L (CS.setI X 34 v) (RS.setI V 19 w) := by
  have z := h.1.s19 (w1 := b.i 19) (h.1.inl h.2.1 rfl) hT ev hw hb
  rw [rsI_id rfl] at z
  exact ⟨z, h.2.1, h.2.2⟩
/-- the base's signs and one more -/
theorem b19_up {d : Int32} {B : CS} {b : RS} {t0 : Nat} {L : List CEL} {x : Int} {S : CS} {s : RS} (h : COR d B b t0 L x S s) : ∃ w : Int32, w.toInt = (b.i 19).toInt + 1 := by
  have z1 := h.2.2.2.2.2.2.1.2.2.2
  have z2 := h.1.2.2.1.2.2
  have z3 := (SSM.ge S L)
  have e1 : (1 : Int32).toInt = 1 := by decide
  have lo := Int32.le_toInt (b.i 19)
  refine ⟨b.i 19 + 1, ?_⟩
  rw [toInt_add] <;> rw [e1] <;> omega
set_option maxHeartbeats 2000000 in
theorem en_block {N : Nat} (hN : 1000 ≤ N) {d : Int32} {B : CS} {b : RS} {t0 n : Nat} {L : List CEL} {x : Int} {S : CS} {s U : RS} {c1 c : CEL} {R : Unit × CS} {Aj : JBA} (mA : JBM U Aj) (hC : COR d B b t0 (c1 :: c :: L) x S s) (tp : TOP S s c1) (hM : MLI c1 S s) (h36 : S.i 36 = 0 ∨ S.i 36 = 1) (h301 : S.o c1.2.1 0 = 301) (k125 : S.i 43 = 125) (bz : BAZ B b (c1 :: c :: L)) (hT : t0 ≤ ceT c1) (e : f_X7_endList N S c1.2.1 = some R) (g : f_X12_parse_10 N n s = some U) : ∃ (m : Nat) (u : RS), f_X12_parse_10 N m u = some U ∧ POPD d B b t0 c L R.2 u ∧ JTR Aj U B b (c1 :: c :: L) S s (vws R.2 u (c :: L)) R.2 u := by
  obtain ⟨no1, n305, ts, h64, hmode, -⟩ := hM
  have wd : wid (S.o c1.2.1 0) = 2 := by rw [h301]; rfl
  have ix : ceT c1 + wid (S.o c1.2.1 0) - 1 = ceT c1 + 1 := by omega
  rw [ix] at h64 hmode
  have ts' : tpI s = ((ceT c1 + 1 : Nat) : Int) := by rw [ts, wd]; omega
  have hv := hC.1
  have k10 := (tk_is hv (a := 125) (b := 125) (Or.inl ⟨by decide, by decide⟩) (by decide)).mp k125
  obtain ⟨m1, e1, k1, m2, e2, k2, cst⟩ := STK.mem _ _ _ _ hC.2.1 c1 List.mem_cons_self
  obtain ⟨⟨f1, f2, f3⟩, f4⟩ := cst.2.2.1.2.1 h301
  obtain ⟨m0, V0, g0, n1, n2, n3, n4, n5, n6, n7, n8, n9, n10'⟩ := y_lend hv ts' h64 hmode h36 (Or.inl k10) g
  have fT := n3 (ceT c1) (by omega)
  have tV : tpI V0 = (ceT c1 : Int) := by rw [n2]; omega
  -- the row goes
  have ngo : ¬ isGo (S.o c1.2.1 0) := by rw [h301]; unfold isGo; decide
  obtain ⟨w0, hw0⟩ := b19_up hC
  obtain ⟨hD, inj, ord, lk, lw⟩ := hC.dropW (by rw [h301]; unfold isTy; decide) (by rw [h301]; decide) (by rw [h301]; rfl) (w := w0) (by rw [h301]; show _ = _ + ((1 : Nat) : Int); omega)
  have hinD : INL S s (ceT c1) (c :: L) := by
    have z := STK.inl L c _ _ _ hD.2.1 (by have := tp.1; have := lk.1; omega) (by have := tp.2.1; have := lk.2.2.1; omega) (by have := tp.2.2; have := lk.2.2.2.1; omega)
    rw [← lk.2.1] at z
    exact z
  have fr0 : FRB (ceT c1) s V0 := n3.mo (by omega)
  have hD0 := hD.mv3 hinD hT n1 fr0 n4 ⟨by rw [n8]; exact Int.le_refl _, by rw [n6]; exact hD.2.2.2.2.2.2.1.2.1, by rw [n9]; exact Int.le_refl _, by rw [n10'.1]⟩
  obtain ⟨t1, t2, t3, t4, t5, t6, t7, t8, t9, t10⟩ := n4.1.1
  have hin0 : INL S V0 (ceT c1) (c :: L) := hinD.mv (CKZ.rf S) rfl t5 t7
  -- the reference
  obtain ⟨m2, V, hV, g2⟩ := rl_3 g0 tV n1.1.2.1 (fT.1.trans f1)
  unfold f_X12_block at hV
  obtain ⟨hib, hV⟩ := hf_ite hV
  have tt : ceT c1 < 1000 := by
    have h2 : (V0.i 63).toInt = (ceT c1 : Int) := tV
    have := hib.2
    omega
  rw [tp_nat tV, if_neg (show ¬ V0.a 65 (ceT c1) = 0 by rw [fT.2.1, f2]; decide)] at hV
  obtain ⟨p3, hsh, hV⟩ := hf_bind hV
  -- the class
  unfold f_X7_endList at e
  obtain ⟨-, e⟩ := hf_ite e
  rw [if_neg (by rw [h301]; decide), if_neg (by rw [h301]; decide)] at e
  unfold f_X7_endList_72 at e
  obtain ⟨p4, e4, e⟩ := hf_bind e
  obtain ⟨A, q, eA, hq, evA, R4, V4, -⟩ := y_clsA hN n1 (c := 125) (d := 125) (Or.inl ⟨by decide, by decide⟩) (by decide) (by decide) (by decide) k125 e4 hsh
  obtain ⟨-, a2, a3, a4, a5, a6, a7, a8, a9, a10⟩ := n1.adv hN (by rw [k125]; decide) eA hq
  have ck := CKX.of a3 a8 a9
  have tk := TBK.of a2 (by rw [a6]; exact Int.le_refl _) (fun j _ => by rw [a7])
  have q17 : (q.i 17).toInt = (V0.i 17).toInt + 1 := by rw [a4, t17_up (N := N) n1]
  obtain ⟨u1, u2, u3, u4, u5, u6, u7, u8, u9, u10⟩ := tk.1.1
  have nn8 := hD0.2.2.2.2.2.2.2.2.1.2.1
  have hD1 := hD0.mv hin0 hT evA (FRB.of a2) tk.1.r tk.2 ⟨u1, u2, u3, u5, u6, u7, u8, u9, u10⟩ ck.z ⟨ck.1.2.2.1, ck.1.2.2.2.2.1, ck.1.2.2.2.2.2⟩ ck.2.2.2.2.2.2.2.2 ⟨by omega, by unfold phI; rw [a6, q17]; omega, by omega, by rw [a10]⟩ (by rw [u4]; omega) (by rw [u4]; exact Int.le_refl _)
  have hinC := hC.inl tp (T := ceT c1 + wid (S.o c1.2.1 0)) rfl
  have eo : ∀ z ∈ c1 :: c :: L, A.2.o z.2.1 = S.o z.2.1 := fun z hz => (hinC.o ck.z z hz).1
  have eo1 := eo c1 List.mem_cons_self
  have eoc := eo c (List.mem_cons_of_mem _ List.mem_cons_self)
  obtain ⟨-, e⟩ := hf_ite e
  have o4 : ∀ w : Int32, (CS.setI p4.2 50 w).o c1.2.1 0 = 301 := fun w => by
    show p4.2.o c1.2.1 0 = 301
    rw [R4]
    show A.2.o c1.2.1 0 = 301
    rw [eo1]
    exact h301
  rw [if_neg (by rw [o4]; decide), if_neg (by rw [o4]; decide), if_neg (by rw [o4]; decide), if_neg (by rw [o4]; decide), if_neg (by rw [o4]; decide), if_neg (by rw [o4]; decide), if_neg (by rw [o4]; decide)] at e
  have ep := ob_un e
  have o3 : p4.2.o c1.2.1 3 = A.2.o c1.2.1 3 := by rw [R4]; rfl
  have i53 : (CS.setI p4.2 50 (p4.2.o c1.2.1 3)).i 53 = A.2.i 53 := by
    rw [ci_ne _ _ _ (by decide), R4, ci_ne _ _ _ (by decide)]
  have A53 : A.2.i 53 = S.i 53 := ck.1.2.2.2.2.1
  obtain ⟨p1', p2'⟩ := e_pop (n := c.1) (by rw [i53, A53]; have := tp.1; have := lk.1; omega) ep
  rw [i53] at p1' p2'
  rw [o3, R4, csI_comm (s := A.2) (j := 34) (k := 50) (by decide), csI_comm (j := 34) (k := 53) (by decide)] at p1'
  -- the reference's last state
  have hVe : V = RS.setI (RS.setI (RS.setI q 38 (q.a 66 (ceT c1))) 63 (q.i 63 - 1)) 19 (q.i 19 - 1) := by
    rw [V4] at hV
    have z := Option.some.inj hV
    rw [← z, rsI_comm (r := RS.setI q 38 (q.a 66 (ceT c1))) (by decide), rsI_comm (r := q) (j := 38) (by decide)]
    rfl
  have q66 : q.a 66 (ceT c1) = A.2.o c1.2.1 3 := by
    rw [((FRB.of a2 : FRB (ceT c1 + 1) V0 q) (ceT c1) (by omega)).2.2.1, fT.2.2.1, f4, eo1]
  have q75 : q.i 75 = S.i 36 := by
    rw [(qj_eq a2).2.2.2.2.2.2.2.2.2.2.2.2.2.2.2.2.2.1]
    exact n5
  have ho : f_X12_over N (RS.setI q 38 (q.a 66 (ceT c1))) (S.i 36) = some (RS.setI (RS.setI q 38 (q.a 66 (ceT c1))) 63 (q.i 63 - 1)) := by
    unfold f_X12_over
    rw [if_pos h36, rsI_id (show (RS.setI q 38 (q.a 66 (ceT c1))).i 75 = S.i 36 from q75)]
    rfl
  have tpA : TOP A.2 q c1 := ⟨by rw [A53]; exact tp.1, by rw [u5, t5, eo1]; exact tp.2.1, by rw [u7, t7, eo1]; exact tp.2.2⟩
  have lkA : LNK A.2 c1 c := by
    unfold LNK at *
    rw [eo1, eoc]
    exact lk
  have lwA : LOW A.2 q c := by
    have w := (lw.mv (rfl : S.o c.2.1 = S.o c.2.1) fr0 (by rw [lk.2.1]; exact Nat.le_refl _)).mv (rfl : S.o c.2.1 = S.o c.2.1) (FRB.of a2 : FRB (ceT c1) V0 q) (by rw [lk.2.1]; exact Nat.le_refl _)
    unfold LOW at *
    rw [eoc]
    exact w
  have ob := hC.2.2.2.2.2.2.2.1.2
  have i50 : A.2.i 50 = S.i 50 := ck.1.2.2.2.1
  have A36 : A.2.i 36 = S.i 36 := ck.1.2.1
  have pc := (pop_core (X := CS.setI (CS.setI A.2 50 (A.2.o c1.2.1 3)) 53 (A.2.i 53 - 1)) hD1 tpA lkA lwA (BAZ.b19 _ bz) hT tt (qj_63 a2 tV) (by rw [eo1, h301]; rfl) (fun z => by rw [eo1] at z; exact absurd z ngo) h36 ho ⟨fun k h1 _ _ => if_neg h1, rfl, rfl, rfl⟩ q66 (by rw [eo1, nGo.eq ngo]; show (q.i 43).toInt = _; omega) (by rw [eo1, i50]; exact ob.1 c1 List.mem_cons_self) (fun z hz => by rw [eo1, eo z (List.mem_cons_of_mem _ hz)]; exact ob.2.1 z (List.mem_cons_of_mem _ hz) c1 List.mem_cons_self (ord z hz)) (fun k _ h2 h3 => by rw [ci_ne _ _ _ h3, ci_ne _ _ _ h2]) (by rw [ci_ne _ _ _ (by decide), ci_at]) (by rw [ci_at]; exact p2') (by rw [ci_ne _ _ _ (by decide), ci_ne _ _ _ (by decide)]; exact A36) ⟨rfl, rfl, rfl, rfl, rfl, rfl, rfl, rfl, rfl⟩).1
  -- one sign less
  have rw8 := evA.ri.2.2.2.2.2.2
  have nrA := evA.ri.2.2.2.1.2
  have cn : cnI A.2 = (c1.1 : Int) + 1 := by
    show (A.2.i 53).toInt = _
    rw [A53]
    exact tp.1
  have tn : (cnI A.2).toNat = c1.1 + 1 := by omega
  rw [tn] at rw8 nrA
  have sg1 : sgn A.2 (rowA A.2 c1.1) = 1 := by
    have ra : rowA A.2 c1.1 = c1.2.1 := by
      unfold rowA
      rw [ck.z.2.1 c1.1 (by have := tp.1; omega), cst.1]
      rfl
    rw [ra]
    unfold sgn
    rw [eo1, h301, if_neg (by decide), if_pos (Or.inl rfl)]
  have e2' : SGS A.2 (c1.1 + 1) = SGS A.2 c1.1 + sgn A.2 (rowA A.2 c1.1) := rfl
  have sg0 := (BAS (s := A.2) c1.1).2.2.2.1
  have o34 := evA.2.2.1
  have s34 : sgI A.2 = (q.i 19).toInt := by
    unfold sgI
    rw [o34.1]
  have s19 : (q.i 19 - 1).toInt = (q.i 19).toInt - 1 := by
    have e1 : (1 : Int32).toInt = 1 := by decide
    rw [toInt_sub] <;> rw [e1] <;> omega
  have xs : SGS (CS.setI (CS.setI A.2 50 (A.2.o c1.2.1 3)) 53 (A.2.i 53 - 1)) c1.1 = SGS A.2 c1.1 := by
    have rs : RSQ A.2 (CS.setI (CS.setI A.2 50 (A.2.o c1.2.1 3)) 53 (A.2.i 53 - 1)) c1.1 := fun i _ => ⟨rfl, fun a _ => ⟨rfl, rfl⟩⟩
    exact (rs.sums (fun i hi => nrA i (by omega))).2.1
  have ev := pc.1.1.sg (v := A.2.i 34 - 1) (w := q.i 19 - 1) (by rw [o34.1]) (by omega) (by have := o34.2.2; omega) (by
    have cx : (cnI (CS.setI (CS.setI A.2 50 (A.2.o c1.2.1 3)) 53 (A.2.i 53 - 1))).toNat = c1.1 := by
      have z : cnI (CS.setI (CS.setI A.2 50 (A.2.o c1.2.1 3)) 53 (A.2.i 53 - 1)) = (A.2.i 53 - 1).toInt := rfl
      rw [z, p2']
      have := lk.1
      omega
    rw [cx, xs, o34.1, s19]
    omega)
  refine ⟨m2, V, g2, ?_, fun _ jw => ?_⟩
  · rw [hVe, p1']
    exact pc.sg (by show t0 ≤ ceT c + wid (A.2.o c.2.1 0); rw [eoc, ← lk.2.1]; exact hT) ev s19 hw0
  -- the code
  have hr0 : (vw S s c1).v = 301 := h301
  have ngV : ¬ isGo (vw S s c1).v := ngo
  have nlo : ¬ isLo (vw S s c1).v := fun z => ngV (Or.inr (Or.inr z))
  have nty : ¬ isTy (vw S s c1).v := fun z => by
    rw [hr0] at z
    rcases z with z | z | z | z <;> exact absurd z (by decide)
  have nsi : ∀ k : Nat, ¬ rsite (vw S s c1) k := fun k z => by
    unfold rsite at z
    rw [hr0] at z
    rcases z with ⟨z, -⟩ | ⟨z, -⟩ | ⟨z, -⟩ | ⟨z, -⟩ <;> exact absurd z (by decide)
  have gis := hC.gis
  have h44 : (S.i 44).toInt ≤ 900 := by
    rw [hv.p44.1]
    exact (i11_hi hv).2
  obtain ⟨ee, he1, he2⟩ := clo_e (S.i 43)
  have rt : tvs (rtgs (vw S s c1)) = [] := by
    unfold rtgs
    rw [hr0, if_neg (by decide), if_neg (by decide), if_neg (by decide), if_neg (by decide), if_neg (by decide)]
    rfl
  obtain ⟨w, hw⟩ : ∃ w, w = q.i 19 - 1 := ⟨_, rfl⟩
  have q19 : q.i 19 = s.i 19 := a10.trans n10'.1
  have w19 : (b.i 19).toInt + (sfr (vws S s (c :: L)) : Int) ≤ w.toInt := by
    have z1 := hC.2.2.2.2.2.2.1.2.2.2
    have z2 : SSM S (c1 :: c :: L) = (nSg (S.o c1.2.1 0) : Int) + SSM S (c :: L) := rfl
    have z3 : nSg (S.o c1.2.1 0) = 1 := by rw [h301]; rfl
    have z4 := sfr_ss (S := S) (s := s) (c :: L)
    rw [hw, s19, q19]
    omega
  have j0 := JRW.clo (V := vws S s (c :: L)) (r := vw S s c1) (u := s) (u' := RS.setI s 19 w) (S' := S) (l1 := []) (l2 := []) (vb := 0) (vc := 0) (vs := 0) (e := ee) (dr := 0) jw (fun z => z.c0 (by rw [hr0]; decide) (NK.eq rfl rfl rfl rfl)) h44 mA (vws.pl hC) (fun z => absurd z ngV) nty (by rw [hr0]; decide) (fun z => absurd z ngV) ⟨rfl, fun _ _ => rfl⟩ (fun z => absurd z ngV) (fun z => absurd z nlo) (fun j z => absurd z (nsi j)) (fun _ _ _ _ => rfl) (D38.rf _) ⟨⟨rfl, rfl, rfl, rfl, rfl⟩, rfl, rfl, rfl, rfl, rfl, rfl, rfl, rfl, rfl, rfl, rfl, rfl, rfl, rfl⟩ ⟨Or.inr w19, rfl, rfl, rfl⟩ (fun _ _ _ => rfl) (fun nm G ω j ng hcx => by
    rw [jen.no (by rw [hr0]; decide) nty (by rw [hr0]; decide)] at ng hcx
    exact ⟨ng.h, hcx⟩) (fun _ => dbr.ge _ _) he1
  rw [rt] at j0
  have vi := n10'.2.2.1
  have vaa := n10'.2.2.2.1
  have qV0 : qe V0 = qe (RS.setI s 19 w) := by
    unfold qe
    rw [vi 20 (by decide) (by decide), vi 24 (by decide) (by decide), vi 29 (by decide) (by decide), vi 33 (by decide) (by decide), vi 42 (by decide) (by decide), vi 52 (by decide) (by decide), vaa 21 (by decide), vaa 22 (by decide), vaa 23 (by decide), vaa 25 (by decide), vaa 26 (by decide), vaa 27 (by decide), vaa 28 (by decide), vaa 30 (by decide), vaa 31 (by decide), vaa 32 (by decide), vaa 34 (by decide), vaa 35 (by decide), vaa 36 (by decide), vaa 37 (by decide)]
    rfl
  have j1 := j0.se (u := V0) qV0 ⟨vi 38 (by decide) (by decide), fun j _ => by rw [vaa 40 (by decide)]; rfl⟩
  have j2 := j1.adv hN n1 (by rw [k125]; decide) eA hq
  have qq := kre_f_X12_next N V0 q hq
  have prq : pcR q = pcR s := (pcR.qe qq).trans (pcR.qe qV0)
  have pcA : pcC A.2 = pcC S := pcC.pe (ke_X9_advance N S A eA)
  obtain ⟨-, -, -, -, -, -, -, y38, -, y43, -, -, -, -, -, y59, -, -, -, -, -, -, -, -, -, -, -, -, -, -, -, z47, z48, z49, z50, z51, -, -, z60, z61, z62, -⟩ := qj_eq a2
  have q0i : q.i 59 = s.i 59 ∧ q.i 43 = s.i 43 ∧ q.i 38 = s.i 38 := ⟨y59.trans (vi 59 (by decide) (by decide)), y43.trans (vi 43 (by decide) (by decide)), y38.trans (vi 38 (by decide) (by decide))⟩
  have jr := j2.popv (R := R.2) (V := V) (v := S.i 36) (by omega) (Or.inl (by rcases he1 with z | ⟨z, -⟩ <;> omega)) (by rw [p1']; rfl) (by rw [p1']; rfl) (by rw [p1']; rfl) (by rw [p1']; exact A36) (by rw [p1']; rfl) (by rw [p1']; rfl) (by rw [hVe]; rfl) (by
    rw [hVe]
    show (q.a 66 (ceT c1)).toInt ≤ (q.i 38).toInt
    rw [q66, eo1, q0i.2.2, ← hv.2.1.1]
    exact (ob.1 c1 List.mem_cons_self).2) (by rw [hVe]; rfl) (fun y hy gy => by
    have := gis y hy gy
    have := tp.2.1
    rw [hVe]
    show ((y.2.2.2 : Nat) : Int) < (q.i 43).toInt
    rw [q0i.2.1]
    omega) (by
    rw [hVe]
    exact ⟨z47.trans (vaa 47 (by decide)), z48.trans (vaa 48 (by decide)), z49.trans (vaa 49 (by decide)), z50.trans (vaa 50 (by decide)), z51.trans (vaa 51 (by decide)), z60.trans (vaa 60 (by decide)), z61.trans (vaa 61 (by decide)), z62.trans (vaa 62 (by decide))⟩) (by rw [hVe]; exact q0i.1) (by rw [hVe]; show (s.i 11).toInt ≤ (q.i 11).toInt; rw [n8] at a5; omega) (by rw [hVe, hw]; exact Int.le_refl _) (fun FC SF nm X ω j Z hω r12 hcc k cur => by
    obtain ⟨-, G', -, -, hX⟩ := k
    have en : ∀ (h l : Nat), jen G' ω (vw S s c1) h l = [] := fun h l => jen.no (by rw [hr0]; decide) nty (by rw [hr0]; decide)
    rw [pcA, prq] at cur
    refine hX ⟨fun z => absurd (hr0.symm.trans z) (by decide), fun z => absurd (hr0.symm.trans z) (by decide), fun z => absurd (hr0.symm.trans z) (by decide), fun z => absurd (hr0.symm.trans z) (by decide), fun z => absurd (hr0.symm.trans z) (by decide), fun z => absurd (hr0.symm.trans z) (by decide), fun z => absurd (hr0.symm.trans z) (by decide), fun z => absurd z nty, fun z => absurd z ngV⟩ (fun z => absurd z ngV) (fun h1 => ?_)
    have jl : jlv (vw S s c1).v = 0 := by rw [hr0]; rfl
    rw [en, jl]
    exact cur h1)
  rw [clo_veq hD tp lk (fun j hj => by
    rw [hVe]
    exact (NMV.tr (s := s) ⟨vi 38 (by decide) (by decide), fun j _ => by rw [vaa 40 (by decide)]⟩ (NMV.tbk tk)).2 j hj) (fun y hy => by rw [p1']; exact eo y (List.mem_cons_of_mem _ hy)) (fun k t h1 h2 h3 => by
    rw [hVe]
    show q.a k t = s.a k t
    rw [(FRB.of a2 : FRB (ceT c1) V0 q).fld k t h1 h2 h3]
    exact fr0.fld k t h1 h2 h3)]
  exact jr
