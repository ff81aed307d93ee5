/-! both readers: break and continue, whole -/
theorem WAY.pb {d : Int32} {T : Nat} {p p' f k y z : Int} {S P : CS} {s q : RS} (h : WAY d T p f k y z S s P q) (hp : (s.i 11).toInt + p' ≤ (q.i 11).toInt) : WAY d T p' f k y z S s P q := by
  obtain ⟨h1, h2, h3, h4, h5, i, ⟨h6, h7, h8, h9⟩, h10⟩ := h
  exact ⟨h1, h2, h3, h4, h5, i, ⟨hp, h7, h8, h9⟩, h10⟩
set_option maxHeartbeats 4000000 in
theorem st_jump {N : Nat} (hN : 1000 ≤ N) {d : Int32} {B : CS} {b : RS} {t0 T n : Nat} {L : List CEL} {x : Int} {S : CS} {s U : RS} {c : CEL} {p R : Unit × CS} {Aj : JBA} (hC : COR d B b t0 (c :: L) x S s) (hS : STO c T S s) (hT : t0 ≤ T) (hm : NMC c S) (hx : S.o c.2.1 0 = 303 → x = -1) (hB : BOT b S (c :: L)) (hBS : BSE S (c :: L)) (hB2 : BO2 B b S (c :: L)) (h43 : S.i 43 = 208 ∨ S.i 43 = 209) (e1 : f_X0_add N (CS.setI (CS.setI S 36 1) 24 ((S.i 24) + 1)) 51 0 = some p) (e : f_X7_jump N p.2 = some R) (g : f_X12_parse_10 N n s = some U) : OUTS N d B b t0 T c L x R.2 U (JTR Aj U B b (c :: L) S s) := by
  obtain ⟨q1, q2, q3, q4, q5, q6⟩ := id hS
  have hv := hC.1
  have ph3 : 3 ≤ phI s := by
    have a := hC.2.2.2.2.2.2.1.2.1
    have b := (PDM.ge S (c :: L)).1
    have e := hC.2.2.2.2.2.2.2.2.2.2.2.1
    omega
  have tk8 := tk_is hv (a := 208) (b := 418) (Or.inr ⟨by decide, by decide⟩) (by decide)
  have tk9 := tk_is hv (a := 209) (b := 419) (Or.inr ⟨by decide, by decide⟩) (by decide)
  obtain ⟨m1, V1, hV1, g1⟩ := rl_2 g q4 hv.1.2.1 q5
  have h10 : s.i 10 = 418 ∨ s.i 10 = 419 := by
    rcases h43 with z | z
    · exact Or.inl (tk8.mp z)
    · exact Or.inr (tk9.mp z)
  obtain ⟨t9, hV2⟩ := r_jst q4 hv.1.2.1 rfl h10 hV1
  have w0 := WAY.stm (K := 2) hv q4
  have qs0 : qe (RS.setA (RS.setI s 53 ((s.i 53) + 1)) 64 T 2) = qe s := rfl
  have ns0 : NMV s (RS.setA (RS.setI s 53 ((s.i 53) + 1)) 64 T 2) := ⟨rfl, fun _ _ => rfl⟩
  have kS0 : pe (CS.setI (CS.setI S 36 1) 24 ((S.i 24) + 1)) = pe S ∧ (CS.setI (CS.setI S 36 1) 24 ((S.i 24) + 1)).a = S.a := ⟨rfl, rfl⟩
  obtain ⟨s1, hs1⟩ : ∃ y, y = RS.setA (RS.setI s 53 ((s.i 53) + 1)) 64 T 2 := ⟨_, rfl⟩
  obtain ⟨S1, hS1⟩ : ∃ y, y = CS.setI (CS.setI S 36 1) 24 ((S.i 24) + 1) := ⟨_, rfl⟩
  have i1 : ∀ k : Nat, k ≠ 53 → s1.i k = s.i k := by
    rw [hs1]
    exact fun k h => if_neg h
  have iS : ∀ k : Nat, k ≠ 36 → k ≠ 24 → S1.i k = S.i k := by
    rw [hS1]
    exact fun k h1 h2 => (ci_ne _ _ _ h2).trans (ci_ne _ _ _ h1)
  rw [← hs1] at hV2 w0 qs0 ns0
  rw [← hS1] at e1 w0 kS0
  clear hs1 hS1
  have p1 : phI s1 = phI s := by
    unfold phI
    rw [i1 17 (by decide), i1 20 (by decide)]
  unfold f_X12_stat_309 at hV2
  obtain ⟨y, hy, hV2⟩ := hf_bind hV2
  obtain ⟨w1, -, -, -, y10⟩ := w0.em (by omega) hy
  have z11 := (y_emit w0.1 w0.2.1 (by omega) hy).2.2.2.2.2.2.2.1
  have w2 := w1.ad e1
  obtain ⟨-, -, j43, -⟩ := y_add w1.1 e1
  have kp := pj2_eq (kd_X0_add N S1 51 0 p e1)
  have j55 : p.2.i 55 = S.i 55 := (pj_55 kp.1).trans (iS 55 (by decide) (by decide))
  have p43 : p.2.i 43 = S.i 43 := j43.trans (iS 43 (by decide) (by decide))
  have y10' : y.2.i 10 = s.i 10 := y10.trans (i1 10 (by decide))
  rw [if_neg (show ¬ y.2.i 10 = 59 by rw [y10']; rcases h10 with z | z <;> rw [z] <;> decide)] at hV2
  obtain ⟨J1, hJ1, hV3⟩ := hf_bind hV2
  have ho : f_X12_over N J1 0 = some V1 := by
    obtain ⟨o, h1, h2⟩ := hf_bind hV3
    rw [h1, Option.some.inj h2]
  -- which of the two
  have both : ∃ (xr xc : Int32) (bb : Int), ((xr = 1 ∧ xc = 0 ∧ bb = 0) ∨ (xr = 0 ∧ xc = 1 ∧ bb = 1)) ∧ f_X12_jump_16 N y.2 xr = some J1 ∧ ((f_X9_advance N (CS.setI p.2 26 ((p.2.i 26) + 1))).bind fun p5 => (f_X1_found N p5.2 2).bind fun p9 => (if p9.1 = 0 then (f_X6_nearest N p9.2 xc).bind fun p14 => (if 0 ≤ p14.1 then f_X7_jump_72 N p14.2 xc p14.1 else (f_X1_fail N p14.2 5 (p.2.i 44)).bind fun p44 => f_X7_jump_72 N p44.2 xc p14.1) else (f_X7_labelTarget N p9.2 xc).bind fun p48 => f_X7_jump_72 N p48.2 xc p48.1)) = some R := by
    unfold f_X12_jump at hJ1
    unfold f_X7_jump at e
    obtain ⟨p1, ep1, e⟩ := hf_bind e
    rcases h43 with z | z
    · rw [e_fnd0 (show ¬ p.2.i 43 = 209 by rw [p43, z]; decide)] at ep1
      rw [← Option.some.inj ep1] at e
      rw [if_pos (y10'.trans (tk8.mp z))] at hJ1
      exact ⟨1, 0, 0, Or.inl ⟨rfl, rfl, rfl⟩, hJ1, e⟩
    · rw [e_fnd1 (show p.2.i 43 = 209 by rw [p43, z])] at ep1
      rw [← Option.some.inj ep1] at e
      rw [if_neg (show ¬ y.2.i 10 = 418 by rw [y10', tk9.mp z]; decide)] at hJ1
      exact ⟨0, 1, 1, Or.inr ⟨rfl, rfl, rfl⟩, hJ1, e⟩
  obtain ⟨xr, xc, bb, hbx, hJ2, e2⟩ := both
  clear e hJ1
  obtain ⟨p5, e5, e2⟩ := hf_bind e2
  obtain ⟨p9, e9, e2⟩ := hf_bind e2
  unfold f_X12_jump_16 at hJ2
  obtain ⟨q5', hq5, hJ2⟩ := hf_bind hJ2
  have w3 := w2.cj
  have P43 : (CS.setI p.2 26 (p.2.i 26 + 1)).i 43 = S.i 43 := by
    rw [ci_ne _ _ _ (by decide)]
    exact p43
  have nz3 : ¬ (CS.setI p.2 26 (p.2.i 26 + 1)).i 43 = 0 := by
    rw [P43]
    rcases h43 with z | z <;> rw [z] <;> decide
  obtain ⟨w4, -⟩ := w3.nx hN nz3 e5 hq5
  obtain ⟨-, -, -, b9⟩ := y_adv hN w3.1.1 e5 hq5
  obtain ⟨a1, a2, a3, -⟩ := w3.1.adv hN nz3 e5 hq5
  have lb5 : LB5 (CS.setI p.2 26 (p.2.i 26 + 1)) := w3.1.2.2.2.2.2.2.2.2.2.2.2.2.2.2.2.2.1
  have l5 := lb5.1 (Or.inl (by rw [P43]; exact h43))
  have k44 := w3.1.1.2.2.2.1.1
  have k42 := w3.1.1.2.2.2.1.2.1
  have z11' : (RS.setI y.2 55 (y.2.i 55 + 1)).i 11 = s.i 11 := by
    show y.2.i 11 = s.i 11
    exact z11.trans (i1 11 (by decide))
  rw [k44, k42, z11'] at l5
  have wq := (w4.pb (p' := 5) (by omega)).nu (p' := 5) (f' := 1) (k' := 0) (y' := 0) (z' := 0) (by omega) (by omega) (by omega) (by omega) (by omega)
  have x55 : p5.2.i 55 = S.i 55 := by
    rw [pj_55 a3, ci_ne _ _ _ (by decide)]
    exact j55
  have jg : KU3 U s → JRW Aj U B b (vws S s (c :: L)) S s → JRG Aj U B b (vws S s (c :: L)) s [] (JQG U 1264 0 1 (pcC p5.2) (pcR q5') JQZ) (-1) (-1) p5.2 q5' := fun _ jw => by
    have k44 : (S1.i 44).toInt = (s1.i 11).toInt := by rw [w0.1.p44.1]
    have k6 := (i11_hi w0.1).2
    have k20 := w0.1.p20
    have z1 : JRG Aj U B b (vws S s (c :: L)) s [] (JQA U 0 0 (pcC S1) (pcR s1) JQZ) 0 1 S1 s1 := ((((jw.go (e := 1) (Or.inl rfl)).ce (R := S1) kS0.1 (iS 21 (by decide) (by decide)) (by rw [kS0.2]) (by rw [kS0.2]) (iS 50 (by decide) (by decide)) (iS 44 (by decide) (by decide))).se (u := s1) qs0 ns0)).imp (by omega) (by omega) (fun _ _ _ _ _ _ _ _ _ _ _ _ _ k gu => k (by rw [← pcC.pe kS0.1, ← pcR.qe qs0]; exact ⟨gu 0, gu 1⟩))
    have z2 := z1.stp (δ' := 1264) e1 (by omega) (by omega) hy ⟨k20.1, by omega⟩ (by omega)
    have z3 := (z2.ce (R := CS.setI p.2 26 ((p.2.i 26) + 1)) rfl rfl rfl rfl rfl rfl).se (u := RS.setI y.2 55 (y.2.i 55 + 1)) rfl ⟨rfl, fun _ _ => rfl⟩
    have z4 := z3.adw hN w3.1 (by rw [P43]; rcases h43 with z | z <;> rw [z] <;> decide) e5 hq5
    have pc : pcC p5.2 = pcC p.2 := (pcC.pe (ke_X9_advance N (CS.setI p.2 26 ((p.2.i 26) + 1)) p5 e5)).trans (pcC.pe rfl)
    have pr : pcR q5' = pcR y.2 := (pcR.qe (kre_f_X12_next N (RS.setI y.2 55 (y.2.i 55 + 1)) q5' hq5)).trans (pcR.qe rfl)
    rw [← pc, ← pr] at z2
    exact z4.imp (by omega) (by omega) (fun _ _ _ _ _ _ _ _ _ _ _ _ _ k => by rw [pc, pr]; exact k)
  clear w1 w2 w3 w4
  obtain ⟨cP, tP, lP, oP⟩ := hC.way q1 q2 q3 hT wq ⟨by omega, by omega, by omega, by omega, by omega⟩
  have hin := hC.inl q1 q3
  have eoP : ∀ y ∈ c :: L, p5.2.o y.2.1 = S.o y.2.1 := fun y hy => (hin.o wq.2.2.2.2.1 y hy).1
  have bP := wq.bse hBS
  have st := cP.2.1
  obtain ⟨inj, -⟩ := STK.inj (c :: L) _ _ _ st
  have ref : ∀ x3 x2 : Int32, f_X12_jump_49 N q5' xr x2 x3 = some J1 → ∃ x4 : Int32, f_X12_jump_171 N q5' xr x2 x3 x4 = some J1 ∧ FNG (PJ p5.2 q5' xr x3) (c :: L) x4 := fun x3 x2 h => by
    unfold f_X12_jump_49 at h
    exact jp_ref (b := b) L c _ _ _ N (q5'.i 43 - 1) st (BOT.mv (c :: L) hB eoP) cP.2.2.2.2.2.1.2.1 (g1_int tP.2.1 (by omega)) h
  have flt : ¬ J1.i 15 = 0 → ¬ U.i 15 = 0 := fun z => u_flt g1 (krf_f_X12_over N J1 0 V1 ho z)
  have kf : ∀ (X : CS) (xw : Int32), ¬ X.i 32 = 0 → f_X7_jump_72 N X xc xw = some R → ¬ R.2.i 32 = 0 := fun X xw z h => by
    rw [kF_X7_jump_72 N X xc xw R h z]
    exact z
  have tkn := tk_is wq.1 (a := 2) (b := 2) (Or.inl ⟨by decide, by decide⟩) (by decide)
  have m1i := m1_int tP.1
  have nm1 : ¬ (0 : Int32) ≤ -1 := by decide
  have ge0 : ∀ (v : Int32) (k : Nat), v.toInt = (k : Int) → 0 ≤ v := fun v k h => by
    rw [Int32.le_iff_toInt_le, z_t0]
    omega
  by_cases c2 : p5.2.i 43 = 2
  · -- with a name
    rw [e_fnd1 c2] at e9
    rw [← Option.some.inj e9] at e2
    rw [if_neg n10] at e2
    rw [if_pos (tkn.mp c2)] at hJ2
    have lq : p5.2.l = q5'.l := wq.1.1.2.2.2.1.2.2.2.2.1 c2
    have nz5 : ¬ p5.2.i 43 = 0 := by rw [c2]; decide
    obtain ⟨x4, r1, r2⟩ := ref 1 _ hJ2
    obtain ⟨p48, e48, e2⟩ := hf_bind e2
    unfold f_X7_labelTarget at e48
    obtain ⟨lb, elb, e48⟩ := hf_bind e48
    have elb' : f_X6_labelled_7 N N p5.2 p5.2.l (p5.2.i 53 - 1) = some lb := elb
    obtain ⟨lb2, lbF⟩ := y_labC N L c (p5.2.i 53 - 1) lb bP m1i elb'
    rw [lb2] at e48
    have f63 : ∀ (X : CS) (v : Int32), ¬ X.i 32 = 0 → f_X7_labelTarget_63 N X v = some p48 → ¬ p48.2.i 32 = 0 := fun X v z h => by
      rw [kF_X7_labelTarget_63 N X v p48 h z]
      exact z
    have a63 : ∀ v : Int32, f_X7_labelTarget_63 N p5.2 v = some p48 → p48.1 = v ∧ ∃ a : Unit × CS, f_X9_advance N p5.2 = some a ∧ p48.2 = a.2 := fun v h => by
      unfold f_X7_labelTarget_63 at h
      obtain ⟨a, ea, h⟩ := hf_bind h
      rw [← Option.some.inj h]
      exact ⟨rfl, a, ea, rfl⟩
    unfold f_X12_jump_171 at r1
    rcases fn_same inj (p' := PJ p5.2 q5' xr 1) (fun y hy => by
      refine ⟨fun z => Or.inr ⟨by decide, z.1, z.2.trans lq⟩, fun z => ?_⟩
      rcases z with ⟨z, -⟩ | ⟨-, z1, z2⟩
      · exact absurd z (by decide)
      · exact ⟨z1, z2.trans lq.symm⟩) lbF r2 with ⟨z1, z2⟩ | ⟨w, hw, z1, z2, z3⟩
    · -- no such label
      rw [z1, if_neg nm1] at e48
      obtain ⟨fl, efl, e48⟩ := hf_bind e48
      rw [z2, if_neg nm1, if_neg (by decide)] at r1
      obtain ⟨rf, erf, r1⟩ := hf_bind r1
      refine Or.inl ⟨kf p48.2 p48.1 (f63 fl.2 _ (y_fail (by decide) efl) e48) e2, flt ?_⟩
      rw [← Option.some.inj r1]
      exact rf_fail (by decide) erf
    · have ge := ge0 _ _ z2
      have ge' := ge0 _ _ z3
      rw [if_pos ge] at e48
      rw [if_pos ge', if_neg (by decide)] at r1
      have xn : x4.toNatClampNeg = ceG w := by
        show x4.toInt.toNat = ceG w
        omega
      rcases hbx with ⟨y1, y2, y3⟩ | ⟨y1, y2, y3⟩
      · -- break
        rw [if_pos y2] at e48
        rw [if_neg (show ¬ xr = 0 by rw [y1]; decide)] at r1
        obtain ⟨v1, a, ea, v2⟩ := a63 _ e48
        exact jp_fin hN (w := w) hC hS hT hm t9 hB hBS hB2 wq x55 hw (Or.inl z1.1) (fun z => by omega) jg (v1 ▸ z2) z3 (Or.inl ⟨y1, y2, y3⟩) (Or.inr ⟨rfl, nz5, a, ea, v2⟩) e2 r1 ho g1
      · -- continue
        rw [if_neg (show ¬ xc = 0 by rw [y2]; decide)] at e48
        rw [if_pos y1, xn] at r1
        obtain ⟨-, r1⟩ := hf_ite r1
        obtain ⟨lp, elp, e48⟩ := hf_bind e48
        have lbc : LBC p5.2 q5' (c :: L) (-1) := by
          have z := cP.2.2.2.1
          by_cases cc : p5.2.o c.2.1 0 = 303
          · rw [hx (by rw [← oP]; exact cc)] at z
            exact z
          · exact z.no cc
        obtain ⟨lp2, hl⟩ := y_lpC st lbc bP tP.1 hw z1.1 z2 elp
        rw [lp2] at e48
        rcases hl with ⟨l1, l2⟩ | ⟨w', hw', l1, l2, l3⟩
        · rw [l1, if_neg nm1] at e48
          obtain ⟨fl, efl, e48⟩ := hf_bind e48
          rw [if_neg (show ¬ 0 ≤ q5'.a 46 (ceG w) from fun q => by
            have := le_int q
            rw [z_t0] at this
            omega)] at r1
          obtain ⟨rf, erf, r1⟩ := hf_bind r1
          refine Or.inl ⟨kf p48.2 p48.1 (f63 fl.2 _ (y_fail (by decide) efl) e48) e2, flt ?_⟩
          rw [← Option.some.inj r1]
          exact rf_fail (by decide) erf
        · rw [if_pos (ge0 _ _ l2)] at e48
          rw [if_pos (ge0 _ _ l3)] at r1
          obtain ⟨v1, a, ea, v2⟩ := a63 _ e48
          exact jp_fin hN (w := w') hC hS hT hm t9 hB hBS hB2 wq x55 hw' (Or.inr (Or.inr l1)) (fun _ => l1) jg (v1 ▸ l2) l3 (Or.inr ⟨y1, y2, y3⟩) (Or.inr ⟨rfl, nz5, a, ea, v2⟩) e2 r1 ho g1
  · -- without
    rw [e_fnd0 c2] at e9
    rw [← Option.some.inj e9] at e2
    have e3 : ((f_X6_nearest N p5.2 xc).bind fun p14 => (if 0 ≤ p14.1 then f_X7_jump_72 N p14.2 xc p14.1 else (f_X1_fail N p14.2 5 (p.2.i 44)).bind fun p44 => f_X7_jump_72 N p44.2 xc p14.1)) = some R := e2
    rw [if_neg (fun z => c2 (tkn.mpr z))] at hJ2
    obtain ⟨x4, r1, r2⟩ := ref 0 _ hJ2
    obtain ⟨p14, e14, e3⟩ := hf_bind e3
    have e14' : f_X6_nearest_7 N N p5.2 xc (p5.2.i 53 - 1) = some p14 := e14
    obtain ⟨nr2, nrF⟩ := y_nearC N L c (p5.2.i 53 - 1) p14 bP m1i e14'
    rw [nr2] at e3
    unfold f_X12_jump_171 at r1
    have hxx : xc = 0 ↔ ¬ xr = 0 := by
      rcases hbx with ⟨y1, y2, -⟩ | ⟨y1, y2, -⟩
      · rw [y1, y2]
        exact ⟨fun _ => n10, fun _ => rfl⟩
      · rw [y1, y2]
        exact ⟨fun z => absurd z n10, fun z => absurd rfl z⟩
    rcases fn_same inj (p' := PJ p5.2 q5' xr 0) (fun y hy => by
      refine ⟨fun z => Or.inl ⟨rfl, ?_⟩, fun z => ?_⟩
      · rcases z with z | ⟨z1, z2⟩
        · exact Or.inl z
        · exact Or.inr ⟨hxx.mp z1, z2⟩
      · rcases z with ⟨-, z | ⟨z1, z2⟩⟩ | ⟨z, -⟩
        · exact Or.inl z
        · exact Or.inr ⟨hxx.mpr z1, z2⟩
        · exact absurd rfl z) nrF r2 with ⟨z1, z2⟩ | ⟨w, hw, z1, z2, z3⟩
    · rw [z1, if_neg nm1] at e3
      obtain ⟨fl, efl, e3⟩ := hf_bind e3
      rw [z2, if_neg nm1, if_pos rfl] at r1
      obtain ⟨rf, erf, r1⟩ := hf_bind r1
      refine Or.inl ⟨kf fl.2 _ (y_fail (by decide) efl) e3, flt ?_⟩
      rw [← Option.some.inj r1]
      exact rf_fail (by decide) erf
    · rw [if_pos (ge0 _ _ z2)] at e3
      rw [if_pos (ge0 _ _ z3), if_pos rfl] at r1
      have gw : isGo (p5.2.o w.2.1 0) := by
        rcases z1 with z | ⟨-, z⟩
        · exact Or.inr (Or.inr z)
        · exact Or.inr (Or.inl z)
      have glo : bb = 1 → isLo (p5.2.o w.2.1 0) := fun zb => by
        rcases z1 with z | ⟨z, -⟩
        · exact z
        · rcases hbx with ⟨-, -, y3⟩ | ⟨-, y2, -⟩
          · omega
          · rw [y2] at z
            exact absurd z n10
      exact jp_fin hN (w := w) hC hS hT hm t9 hB hBS hB2 wq x55 hw gw glo jg z2 z3 hbx (Or.inl ⟨rfl, rfl⟩) e3 r1 ho g1
