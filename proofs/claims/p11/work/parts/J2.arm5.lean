/-! reading: arms: one arm -/
theorem PRL.arm {u : RS} {γ0 : Nat} (hg : goI u = (γ0 : Int) + 1) (h : u.a 44 γ0 = 3) : PRL u := by
  refine ⟨fun γ a1 a2 a3 => ?_, fun γ a1 => ?_⟩
  · by_cases q : γ = γ0
    · subst q; exact absurd h a1.2.1
    · exact absurd h (a1.2.2 γ0 (by have := a1.1; omega) (by omega))
  · have := (a1.2 γ0 (by have := a1.1; omega) (by omega)).1
    rw [h] at this
    exact absurd this (by decide)
theorem PCE.tblb {c0 : Nat} {V u B w : RS} (h : PCE c0 V B w) (tb : TBL u B) : PCE c0 V u w := by
  intro f C hA hC h' o v rs hx
  have e1 := tb.cd
  have e2 := tb.en
  have e3 := tb.tt
  have e4 := tb.ca
  have e5 := tb.sl
  unfold AG0 at hA
  unfold AGC at hC
  rw [← e1, ← e2, ← e3, ← e4] at hA
  rw [← e5, ← e4] at hC
  obtain ⟨S, hS⟩ := h f C hA hC h' o v rs hx
  exact ⟨S, fun g a b c => by rw [← e1]; exact hS g a b c⟩
theorem G68.kp {t : Nat} {L : List Nat} {B w : RS} (h : G68 t L B) (k : KP t B w) (hL : ∀ j ∈ L, (j : Int) < enI B) (l : w.a 68 t = B.a 68 t) : G68 t L w := by
  rcases h with h | ⟨j, j1, j2⟩
  · left; rw [l]; exact h
  · right; exact ⟨j, j1, by rw [k.2.2.1.2.2.2.2 j (hL j j1)]; exact j2⟩
theorem AR5 {N b : Nat} (hN : 1000 ≤ N) (hx : 1 ≤ b → RUNE N 16 4 11 24 (b - 1)) (hl : 1 ≤ b → RUNL N (b - 1)) {m : Nat} {s V w : RS} {t γ0 : Nat} {L0 L : List Nat} {P : RS → Prop} (hI : INV s) (hb : 2 * (t : Int) ≤ fr s + 12 * op s + 12) (h9 : t < 995) (hc : 900 - fr s ≤ b) (hF : ∀ u, FS' s u → P u) (kV : KP t s V) (i1 : INV V) (d1 : V.i 52 = s.i 52) (fV : fr s + 3 ≤ fr V) (V38 : V.i 38 = s.i 38) (g0 : (γ0 : Int) = goI s) (hg : AI t s V γ0 L0 L w) (h68 : G68 t L w) (w65 : w.a 65 t = 5) (hn : 36000 + 40 ≤ (m : Int) + 40 * fr w) (hK : ∀ (m' : Nat) (w' : RS), AI t s V γ0 L L w' → G68 t L w' → w'.a 65 t = 2 → fr w + 1 ≤ fr w' → 2 * (enI w' - enI w) ≤ fr w' - fr w → (m : Int) + 40 * fr w + 20 ≤ m' + 40 * fr w' → ok (f_X12_parse_10 N (m' + 1) w') P) : ok (f_X12_parse_10 N (m + 1) w) P := by
  obtain ⟨⟨a1, a2, a3⟩, ⟨b1, b2, b3, b4, b5⟩, ⟨c2, c4, c5⟩, ⟨d1', d2, d3⟩, ⟨e1, e2, e3, e4⟩, ⟨f1, f2, f3⟩, g1, g2, g3⟩ := id hg
  have fw := a1.1.f0
  have ksw : KP t s w := kV.tr a3 (Nat.le_refl _)
  have ibx : ib (w.i 63) 1000 := tp_ib a2 (by omega)
  have nx : (w.i 63).toNatClampNeg = t := tp_nat a2
  have ows : op w = op s + 1 := by
    have o1 := a1.op
    have o2 := hI.op
    have e1 : (1 : Int32).toInt = 1 := by decide
    have a : op w = (w.i 19).toInt := rfl
    have b : op s = (s.i 19).toInt := rfl
    rw [a, b1, toInt_add] <;> rw [e1] <;> omega
  refine lp_19 a2 (by omega) a1.2.2.1 d1' ?_
  unfold f_X12_arms
  rw [if_pos ibx, nx, if_neg (by rw [w65]; decide), if_neg (by rw [w65]; decide), if_neg (by rw [w65]; decide), if_neg (by rw [w65]; decide), if_neg (by rw [w65]; decide), if_pos w65]
  obtain ⟨q, eq, z1, z2⟩ := NDO hN a1 306 (by decide)
  rw [eq]
  clear eq
  show ok ((if (q.2.i 15) = 0 then (if (q.2.i 10) = 123 then (f_X12_open N q.2 123).bind fun p65 => (f_X12_then N (RS.setA p65.2 71 t (p65.2.i 38)) 6 1).bind fun p67 => some p67 else f_X12_arms_400 N q.2) else f_X12_arms_400 N q.2 : Option RS).bind fun p => f_X12_parse_10 N m p) P
  rcases z2 with z2 | ⟨z2, z3, z4, z5, z6, z7⟩
  · rw [if_neg z2]
    unfold f_X12_arms_400
    rw [p_th 7 16 (z1.tp.trans a2) (by omega)]
    exact lp_f (u := TH q.2 t 7 16) z2 (hF _ (FS'.th (FS'.of ksw.1.1 z1 z2 a1.r))) (by omega)
  obtain ⟨B, hB⟩ : ∃ B, B = q.2 := ⟨_, rfl⟩
  rw [← hB] at z1 z2 z4 z5 z6 z7 ⊢
  clear hB
  rw [if_pos z2]
  have hgB : AI t s V γ0 L0 L B := hg.lx z4 z1 z5 (by omega) (by omega) (by omega)
  have h68B : G68 t L B := by unfold G68 at h68 ⊢; rw [z1.1]; exact h68
  have enB : enI B = enI w := z1.tbl.en
  have oB : op B = op w := by unfold op; rw [z5]
  have fBf := z4.1.f0
  have tB : tpI B = t := hgB.1.2.1
  have kVB := hgB.1.2.2
  have ksB : KP t s B := kV.tr kVB (Nat.le_refl _)
  have gB : goI B = (γ0 : Int) + 1 := by rw [hgB.2.1.2.1]; omega
  have B44 : B.a 44 γ0 = 3 := hgB.2.2.2.2.2.1.1
  have e52 : B.i 52 = s.i 52 + 1 := hgB.2.1.2.2.1
  have dBs : deI B = deI s + 1 := by
    have e1 : (1 : Int32).toInt = 1 := by decide
    have ds := hI.2.2.2.2.2.2.2.2.2.2.2.2.1
    have ds0 : 0 ≤ (s.i 52).toInt := ds.1
    have hop := hI.op
    have hff := hI.1.f0
    have ds1 : 4 * (s.i 52).toInt ≤ fr s + 2 * op s + 2 := ds.2
    unfold deI
    rw [e52, toInt_add] <;> rw [e1] <;> omega
  have dV : deI V = deI s := by unfold deI; rw [d1]
  have dB9 : deI B ≤ 250 := by
    have nn := z4.2.2.2.2.2.2.2.2.2.2.2.2.1
    have hop := z4.op
    omega
  have B38 : B.i 38 = V.i 38 := hgB.2.1.2.2.2.2.trans V38.symm
  have hLB : ∀ j ∈ L, (j : Int) < enI B := fun j hj => (hgB.2.2.2.2.1.2.2.2 j hj).2.1
  have cBc := z4.cd
  by_cases c123 : B.i 10 = 123
  case neg =>
    rw [if_neg c123]
    unfold f_X12_arms_400
    rw [p_th 7 16 tB (by omega)]
    show ok (f_X12_parse_10 N m (TH B t 7 16)) P
    refine CALL (hx (by omega)) z4 tB (by omega) (by omega) (by omega) (by omega) (fun u hu => hF u (FS'.kp ksB hu)) (fun m2 v hv hm2 => ?_)
    obtain ⟨v1, v2, v3, v4, v5, v6, v7, v8, v9, v10, v11, v12⟩ := hv
    have fv := v1.1.f0
    have cv := v1.cd
    obtain ⟨m3, rfl⟩ : ∃ m3, m2 = m3 + 1 := ⟨m2 - 1, by omega⟩
    have push2 : ((m3 + 1 : Nat) : Int) = (m3 : Int) + 1 := by omega
    rw [push2] at hm2
    refine lp_19 v2 (by omega) v1.2.2.1 ((v12 64 (by omega) (by omega) (by omega)).trans hgB.2.2.2.1.1) ?_
    unfold f_X12_arms
    rw [if_pos (tp_ib v2 (by omega)), tp_nat v2, if_neg (by rw [v11]; decide), if_neg (by rw [v11]; decide), if_neg (by rw [v11]; decide), if_neg (by rw [v11]; decide), if_neg (by rw [v11]; decide), if_neg (by rw [v11]; decide), if_neg (by rw [v11]; decide)]
    obtain ⟨r, er, y1, y2⟩ := NDO hN v1 59 (by decide)
    rw [er]
    clear er
    have ecr : cdI r.2 = cdI v := y1.tbl.cd
    show ok (((f_X12_emit N r.2 30 0).bind fun p79 => some (RS.setA p79.2 65 t 2)).bind fun p => f_X12_parse_10 N m3 p) P
    rw [p_em 30 0 (by omega) (by omega)]
    show ok (f_X12_parse_10 N m3 ((EM r.2 30 0).setA 65 t 2)) P
    have ksv : KP t s v := ksB.tr v3 (Nat.le_refl _)
    rcases y2 with y2 | ⟨y2, y3, y4, y5, y6, y7⟩
    · exact lp_f (u := (EM r.2 30 0).setA 65 t 2) y2 (hF _ (FS'.loc (FS'.em (FS'.of ksv.1.1 y1 y2 v1.r) 30 0) t 2 (by omega) (by omega))) (by omega)
    obtain ⟨w', hw'⟩ : ∃ w', w' = (EM r.2 30 0).setA 65 t 2 := ⟨_, rfl⟩
    have fr' := y4.1.f0
    have kvw : KP t v w' := by rw [hw']; exact (((KP.rf t v).lx y1).em cv.1 (by omega)).loc t _ (by omega) (by omega) (Nat.le_refl _)
    have iiw : INV w' := by
      rw [hw']
      refine (y4.em ?_).loc t _ (by omega) (by omega)
      have := v1.2.2.2.2.2.1; omega
    have cw' : cdI w' = cdI v + 1 := by rw [hw']; exact (EM.cd (u := r.2) (o := 30) (x := 0) (by omega) (by omega)).trans (by rw [ecr])
    have wi : ∀ j : Nat, j ≠ 20 → w'.i j = r.2.i j := fun j hj => by rw [hw']; exact EM.i hj
    have w21 : w'.a 21 (cdI v).toNat = 30 := by rw [hw', setA_nk (by decide), EM.a21, if_pos (by rw [ecr])]
    have wa : ∀ k : Nat, k ≠ 21 → k ≠ 22 → k ≠ 23 → k ≠ 65 → w'.a k = v.a k := fun k h1 h2 h3 h4 => by rw [hw', setA_nk h4, EM.a h1 h2 h3, y1.1]
    have w65' : w'.a 65 t = 2 := by rw [hw']; exact setA_at
    have raw : RATE B w' := by
      rw [hw']
      exact RATE.em (o := 30) (x := 0) (v6.tr (y1.tbl.rate (by omega) (by omega))) (by omega) (by omega) (by unfold RATE at v6; omega)
    rw [← hw']
    clear hw'
    have fw' : fr w' = fr r.2 := by unfold fr; rw [wi 11 (by decide)]
    have tw' : tkI w' = tkI r.2 := by unfold tkI; rw [wi 17 (by decide)]
    have kBw : KP t B w' := v3.tr kvw (Nat.le_refl _)
    have rx : ∀ j : Nat, 18 ≤ j → j ≠ 19 → j ≠ 20 → w'.i j = v.i j := fun j h1 h2 h3 => (wi j h3).trans (y1.2.2.1 j (by omega) h2)
    have nai : AI t s V γ0 L L w' := hgB.add i1 iiw (by unfold tpI; rw [rx 63 (by omega) (by omega) (by omega)]; exact v2) kBw ((wi 19 (by decide)).trans (y5.trans v4.1)) ((rx 43 (by omega) (by omega) (by omega)).trans v4.2.1) ((rx 52 (by omega) (by omega) (by omega)).trans v4.2.2.1) ((rx 56 (by omega) (by omega) (by omega)).trans v4.2.2.2) ((rx 38 (by omega) (by omega) (by omega)).trans v5) raw (by omega) (by omega) (fun j hj => by rw [wa 46 (by decide) (by decide) (by decide) (by decide)]; exact v10.1 j (by omega)) g0 (fun k h1 h2 h3 => by rw [wa k (by omega) (by omega) (by omega) h3]; exact v12 k h1 (by omega) h3) (fun z => PCE.expr (v9 (fun q => z (kvw.1.2 q))) kVB v3 v1 kvw (by unfold goI; rw [rx 43 (by omega) (by omega) (by omega)]; exact Int.le_refl _) cw' w21 B38 (by omega) v4.2.2.1 (by omega) v7 dB9)
    obtain ⟨m4, rfl⟩ : ∃ m4, m3 = m4 + 1 := ⟨m3 - 1, by omega⟩
    have push4 : ((m4 + 1 : Nat) : Int) = (m4 : Int) + 1 := by omega
    rw [push4] at hm2
    refine hK m4 w' nai (h68B.kp kBw hLB (by rw [wa 68 (by decide) (by decide) (by decide) (by decide)]; exact v12 68 (by omega) (by omega) (by omega))) w65' (by omega) ?_ (by omega)
    unfold RATE at raw
    omega
  rw [if_pos c123]
  obtain ⟨p, ep, hpp⟩ := OPO (t := t) hN z4 123 (by decide)
  rw [ep]
  clear ep
  show ok (((f_X12_then N (RS.setA p.2 71 t (p.2.i 38)) 6 1).bind fun p67 => some p67).bind fun p => f_X12_parse_10 N m p) P
  rcases hpp with ⟨p1, p2, p3⟩ | ⟨p1, p2, p3, q1, q2, q3, q4, q5, q6, q7, q8, q9, q10, q11⟩
  · rw [p_th 6 1 (u := RS.setA p.2 71 t (p.2.i 38)) (p2.tp.trans tB) (by omega)]
    exact lp_f (u := TH (RS.setA p.2 71 t (p.2.i 38)) t 6 1) p1 (hF _ (FS'.th (FS'.loc (FS'.of ksB.1.1 p2 p1 z4.r) t _ (by omega) (by omega)))) (by omega)
  obtain ⟨O, hO⟩ : ∃ O, O = p.2.setA 71 t (p.2.i 38) := ⟨_, rfl⟩
  have iO : O.i = p.2.i := by rw [hO]; rfl
  have aO : ∀ k : Nat, k ≠ 71 → O.a k = B.a k := fun k hk => by rw [hO, setA_nk hk, q10]
  have O71 : O.a 71 t = B.i 38 := by rw [hO, setA_at]; exact q11.i38
  have tbO : TBL B O := by rw [hO]; exact q4.tr (TBL.loc _ t _ (by omega) (by omega))
  have kO : KP t B O := by rw [hO]; exact q3.loc t _ (by omega) (by omega) (Nat.le_refl _)
  have iiO : INV O := by rw [hO]; exact q1.loc t _ (by omega) (by omega)
  have tO : tpI O = t := by rw [hO]; exact q2.trans tB
  rw [← hO, p_th 6 1 tO (by omega)]
  clear hO
  show ok (f_X12_parse_10 N m (TH O t 6 1)) P
  have fO : fr O = fr p.2 := by unfold fr; rw [iO]
  have tkO : tkI O = tkI p.2 := by unfold tkI; rw [iO]
  have oO : op O = op p.2 := by unfold op; rw [iO]
  have fOf := iiO.1.f0
  have gO : goI O = (γ0 : Int) + 1 := tbO.go.trans gB
  have O44 : O.a 44 γ0 = 3 := by rw [aO 44 (by decide)]; exact B44
  have ksO : KP t s O := ksB.tr kO (Nat.le_refl _)
  refine CALLL (hl (by omega)) iiO (PRL.arm gO O44) tO (by omega) (by omega) (by omega) (by omega) (fun u hu => hF u (FS'.kp ksO hu)) (fun m2 v hv _ hm2 => ?_)
  obtain ⟨v1, v2, v3, v4, v5, v6, v7, v8, v9, v10, v11⟩ := hv
  have fv := v1.1.f0
  have cv := v1.cd
  obtain ⟨m3, rfl⟩ : ∃ m3, m2 = m3 + 1 := ⟨m2 - 1, by omega⟩
  have push2 : ((m3 + 1 : Nat) : Int) = (m3 : Int) + 1 := by omega
  rw [push2] at hm2
  refine lp_19 v2 (by omega) v1.2.2.1 ((v11 64 (by omega) (by omega) (by omega)).trans (by rw [aO 64 (by decide)]; exact hgB.2.2.2.1.1)) ?_
  unfold f_X12_arms
  rw [if_pos (tp_ib v2 (by omega)), tp_nat v2, if_neg (by rw [v10]; decide), if_neg (by rw [v10]; decide), if_neg (by rw [v10]; decide), if_neg (by rw [v10]; decide), if_neg (by rw [v10]; decide), if_neg (by rw [v10]; decide), if_pos v10]
  have nt : ∃ u : RS, (if (v.i 75) = 0 then f_X12_arms_435 N v (v.i 63) else (if (v.i 10) = 125 then (f_X12_note N v (v.i 11)).bind fun p75 => f_X12_arms_435 N p75 (v.i 63) else f_X12_arms_435 N v (v.i 63)) : Option RS) = f_X12_arms_435 N u (v.i 63) ∧ INV u ∧ KP t v u ∧ TBL v u ∧ (∀ j : Nat, j ≠ 18 → u.i j = v.i j) ∧ u.a = v.a ∧ (v.i 75 = 1 → v.i 10 = 125 → 0 ≤ u.i 18) := by
    have st : INV v ∧ KP t v v ∧ TBL v v ∧ (∀ j : Nat, j ≠ 18 → v.i j = v.i j) ∧ v.a = v.a := ⟨v1, KP.rf t v, TBL.rf v, fun _ _ => rfl, rfl⟩
    by_cases c1 : v.i 75 = 0
    · rw [if_pos c1]
      exact ⟨v, rfl, v1, KP.rf t v, TBL.rf v, fun _ _ => rfl, rfl, fun q => by rw [c1] at q; exact absurd q (by decide)⟩
    rw [if_neg c1]
    by_cases c2 : v.i 10 = 125
    · rw [if_pos c2, e_note]
      by_cases cl : v.i 15 = 0 ∧ ¬ 0 ≤ v.i 18
      · rw [if_pos cl]
        exact ⟨v.setI 18 (v.i 11), rfl, v1.i18 _, (KP.rf t v).i18 _ v1.1.1, TBL.i18 v _, fun j hj => if_neg hj, rfl, fun _ _ => v1.1.1⟩
      · rw [if_neg cl]
        refine ⟨v, rfl, v1, KP.rf t v, TBL.rf v, fun _ _ => rfl, rfl, fun _ _ => ?_⟩
        by_cases q : 0 ≤ v.i 18
        · exact q
        · exact absurd ⟨v1.2.2.1, q⟩ cl
    · rw [if_neg c2]
      exact ⟨v, rfl, v1, KP.rf t v, TBL.rf v, fun _ _ => rfl, rfl, fun _ q => absurd q c2⟩
  obtain ⟨u, eu, u1, u2, u3, u4, u5, u6⟩ := nt
  rw [eu]
  clear eu
  unfold f_X12_arms_435
  obtain ⟨r, er, y1, y2⟩ := SHO hN u1 125 (by decide)
  rw [er]
  clear er
  show ok ((if ib (v.i 63) 1000 then some (RS.setA (RS.setI r.2 38 (r.2.a 71 ((v.i 63).toNatClampNeg))) 65 ((v.i 63).toNatClampNeg) 2) else none : Option RS).bind fun p => f_X12_parse_10 N m3 p) P
  rw [if_pos (tp_ib v2 (by omega)), tp_nat v2]
  show ok (f_X12_parse_10 N m3 ((r.2.setI 38 (r.2.a 71 t)).setA 65 t 2)) P
  have kOu : KP t O u := v3.tr u2 (Nat.le_refl _)
  have ksu : KP t s u := ksO.tr kOu (Nat.le_refl _)
  rcases y2 with y2 | ⟨y2, y3, y4, y5, y6⟩
  · exact lp_f (u := (r.2.setI 38 (r.2.a 71 t)).setA 65 t 2) y2 (hF _ (FS'.loc (FS'.i38 (FS'.of ksu.1.1 y1 y2 u1.r) _) t 2 (by omega) (by omega))) (by omega)
  have r71 : r.2.a 71 t = B.i 38 := by rw [y1.1, u5, v11 71 (by omega) (by omega) (by omega)]; exact O71
  rw [r71]
  obtain ⟨X, hX⟩ : ∃ X, X = r.2.setI 38 (B.i 38) := ⟨_, rfl⟩
  have X38 : X.i 38 = B.i 38 := by rw [hX]; rfl
  have iX : ∀ j : Nat, j ≠ 38 → X.i j = r.2.i j := fun j hj => by rw [hX]; exact if_neg hj
  have aX : X.a = r.2.a := by rw [hX]; rfl
  have bX : X.b = r.2.b := by rw [hX]; rfl
  have tX : TBS r.2 X := by rw [hX]; exact TBS.i38 _ _
  rw [← hX]
  clear hX
  have rv : ∀ j : Nat, 20 ≤ j → r.2.i j = v.i j := fun j h1 => (y1.2.2.1 j (by omega) (by omega)).trans (u4 j (by omega))
  have kBu : KP t B u := kO.tr kOu (Nat.le_refl _)
  have kBr : KP t B r.2 := kBu.lx y1
  have seX : seI X = seI B := by unfold seI; rw [X38]
  have kBX : KP t B X := kBr.tbs tX (by omega) (fun z => by rw [iX 18 (by decide)]; exact z) (fun k _ _ j _ => by rw [aX])
  have tabu : TAB r.2 := u1.2.2.2.1.lx y1
  have ser : seI B ≤ seI r.2 := kBr.2.2.2.2.2.1.1
  have r75 : r.2.i 75 = 0 ∨ r.2.i 75 = 1 := by rw [rv 75 (by omega)]; exact v1.r
  have tabX : TAB X := tabu.tbs tX (by omega) (iX 52 (by decide)) (by rw [iX 75 (by decide)]; exact r75)
  have e19 : X.i 19 = B.i 19 := by
    rw [iX 19 (by decide), y4, u4 19 (by decide), v4.1, iO, q5, Int32.add_sub_cancel]
  have sm : SAME B X := ⟨e19, by rw [iX 43 (by decide), rv 43 (by omega), v4.2.1, iO]; exact q11.2.2.1 43 (by omega) (by omega), by rw [iX 52 (by decide), rv 52 (by omega), v4.2.2.1, iO]; exact q7, by rw [iX 56 (by decide), rv 56 (by omega), v4.2.2.2, iO]; exact q11.2.2.1 56 (by omega) (by omega)⟩
  have fu : fr u = fr v := by unfold fr; rw [u4 11 (by decide)]
  have tku : tkI u = tkI v := by unfold tkI; rw [u4 17 (by decide)]
  have fX : fr X = fr r.2 := by unfold fr; rw [iX 11 (by decide)]
  have tkX : tkI X = tkI r.2 := by unfold tkI; rw [iX 17 (by decide)]
  have rt0 : RATE B r.2 := (((tbO.rate (by omega) (by omega)).tr v5).tr (u3.rate (by omega) (by omega))).tr (y1.tbl.rate (by omega) (by omega))
  have rt : RATE B X := by
    have h1 : cdI X = cdI r.2 := tX.cd
    have h2 := tX.1.en
    have h3 := tX.1.tt
    have h4 := tX.1.ca
    have h5 := tX.1.sl
    have h6 := tX.1.pe
    unfold RATE at rt0 ⊢
    rw [h1, h2, h3, h4, h5, h6, fX, tkX]
    exact rt0
  have sn : SNW B X := SNW.eq X38 kBX.2.2.2.2.2.1.2.1
  have lX : LXI X := y1.2.2.2.1.of (iX 2 (by decide)) (iX 10 (by decide)) (iX 11 (by decide)) (iX 12 (by decide)) (iX 14 (by decide)) (by rw [bX])
  have iiX : INV X := z4.mkS kBX lX ((iX 15 (by decide)).trans y2) tabX sm sn rt (by omega) (by omega)
  have g46 : bel 46 (goI s) B X := fun j hj => by
    rw [aX, y1.1, u5]
    have kg := v3.2.2.2.2.2.2.1
    rcases kg.2.2.2.2.2 j (by omega) with q | q
    · rw [q, aO 46 (by decide)]
    · exact absurd q ((PRL.arm gO O44).2 j)
  have nai : AI t s V γ0 L L X := hgB.add i1 iiX (by unfold tpI; rw [iX 63 (by decide)]; exact y1.tp.trans ((congrArg Int32.toInt (u4 63 (by decide))).trans v2)) kBX e19 sm.2.1 sm.2.2.1 sm.2.2.2 X38 rt (by omega) (by omega) g46 g0 (fun k h1 h2 h3 => by rw [aX, y1.1, u5, v11 k h1 (by omega) h3, aO k (by omega)]) (fun z => by
    have z1 : ¬ 0 ≤ u.i 18 := fun q => z (by rw [iX 18 (by decide), y1.2.2.1 18 (by omega) (by omega)]; exact q)
    have z2 : ¬ 0 ≤ v.i 18 := fun q => z1 (u2.1.2 q)
    have nr : ¬ v.i 75 = 1 := fun q => z1 (u6 q (by rw [← u4 10 (by decide)]; exact y3))
    have kvX : KP t v (X.setI 38 (v.i 38)) := by
      have kvr : KP t v r.2 := u2.lx y1
      refine kvr.tbs (W := X.setI 38 (v.i 38)) (tX.tr (TBS.i38 _ _)) (Int.le_refl _) (fun z => ?_) (fun k _ _ j _ => by show X.a k j = _; rw [aX])
      show 0 ≤ X.i 18
      rw [iX 18 (by decide)]; exact z
    exact (PCE.blk (γ0 := γ0) (w := X) (v9 z2) (kVB.tr kO (Nat.le_refl _)) v3 v4 v1 kvX (by rw [tX.go]; unfold goI; rw [rv 43 (by omega)]; exact Int.le_refl _) (by rw [tX.cd]; unfold cdI; rw [rv 20 (by omega)]) (by rw [iO, q11.i38]; exact B38) (by have : deI O = deI B := by { unfold deI; rw [iO]; rw [q7] }; omega) (by omega) fOf.2 (by have : deI O = deI B := by { unfold deI; rw [iO]; rw [q7] }; omega) nr gO O44 (by
      have h1 : gv O 47 γ0 = gv B 47 γ0 := by unfold gv; rw [aO 47 (by decide)]
      have h2 : deI O = deI B := by unfold deI; rw [iO]; rw [q7]
      have h3 := hgB.2.2.2.2.2.1.2.1
      omega)).tblb tbO)
  have naw : AI t s V γ0 L L (X.setA 65 t 2) := nai.loc 2 (Or.inl rfl) (by omega)
  obtain ⟨m4, rfl⟩ : ∃ m4, m3 = m4 + 1 := ⟨m3 - 1, by omega⟩
  have push4 : ((m4 + 1 : Nat) : Int) = (m4 : Int) + 1 := by omega
  rw [push4] at hm2
  have fin : fr (X.setA 65 t 2) = fr X := rfl
  have ein : enI (X.setA 65 t 2) = enI X := rfl
  refine hK m4 (X.setA 65 t 2) naw ((h68B.kp kBX hLB (by rw [aX, y1.1, u5, v11 68 (by omega) (by omega) (by omega), aO 68 (by decide)])).kp ((KP.rf t X).loc t 2 (by omega) (by omega) (Nat.le_refl _)) (fun j hj => (nai.2.2.2.2.1.2.2.2 j hj).2.1) (congrFun (setA_nk (by decide)) t)) setA_at (by omega) ?_ (by omega)
  unfold RATE at rt
  omega
