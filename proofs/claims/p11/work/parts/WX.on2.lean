/-! both readers: one condition, whole -/
/-- what opens says of its answer -/
theorem opens_0 {N : Nat} {s : RS} {q : Int32 × RS} (h15 : s.i 15 = 0) (h : f_X12_opens N s = some q) : (q.1 = 0 ∧ ¬ q.2.i 15 = 0) ∨ (q.1 = 1 ∧ q.2.i 15 = 0) := by
  unfold f_X12_opens f_X12_opens_29 at h
  by_cases cx : s.i 19 + 1 ≤ 20
  · rw [if_pos cx, if_pos (show (RS.setI s 19 (s.i 19 + 1)).i 15 = 0 from h15)] at h
    cases h
    exact Or.inr ⟨rfl, h15⟩
  · have n6 : ¬ (((RS.setI s 19 (s.i 19 + 1)).setI 15 6).setI 16 (s.i 11)).i 15 = 0 := by
      show ¬ (6 : Int32) = 0
      decide
    rw [if_neg cx, e_fail, ob_some, if_pos (show (RS.setI s 19 (s.i 19 + 1)).i 15 = 0 from h15), if_neg n6] at h
    cases h
    exact Or.inl ⟨rfl, n6⟩
/-- a sign that opens one more, without a sign that closes -/
theorem y_opens {N : Nat} (hN : 1000 ≤ N) {dl : Int32} {S : CS} {s : RS} {p : Unit × CS} {V : RS} {c d st K : Int32} (h : ENV dl S s) (hc : tyR c) (hd : tm c = d) (h6 : ¬ d = 6) (h0 : ¬ c = 0) (h10 : s.i 10 = d) (ep : f_X1_open N S c = some p) (hV : ((f_X12_opens N s).bind fun p17 => (if p17.1 = 0 then some p17.2 else (f_X12_next N p17.2).bind fun p20 => (f_X12_then N p20 st K).bind fun p22 => some p22)) = some V) : (¬ p.2.i 32 = 0 ∧ ¬ V.i 15 = 0) ∨ ∃ v : RS, f_X12_then N v st K = some V ∧ ENV dl p.2 v ∧ qj v = qj s ∧ pj p.2 = pj S ∧ v.i 17 = s.i 17 + 1 ∧ (s.i 11).toInt + 1 ≤ (v.i 11).toInt ∧ v.i 20 = s.i 20 ∧ v.a 22 = s.a 22 ∧ p.2.i 22 = S.i 22 ∧ A18 S p.2 ∧ (v.i 19).toInt = (s.i 19).toInt + 1 ∧ qe v = qe s := by
  have h15 := h.1.2.1
  have eo := e_open (N := N) h15 h10 h6
  obtain ⟨q7, hq7, hV⟩ := hf_bind hV
  rw [hq7, ob_some] at eo
  unfold f_X12_open_38 at eo
  rcases opens_0 h15 hq7 with ⟨c0, f7⟩ | ⟨c0, f7⟩
  · rw [if_pos c0, if_neg f7] at eo
    rw [if_pos c0] at hV
    cases hV
    rcases y_open hN h hc hd h6 h0 ep eo with ⟨-, o2, o3⟩ | ⟨o1, -⟩
    · exact Or.inl ⟨o2, o3⟩
    · exact absurd (show (0 : Int32) = 1 from o1) (by decide)
  · rw [if_neg (by rw [c0]; decide)] at hV eo
    obtain ⟨v, hv2, hV⟩ := hf_bind hV
    rw [ob_id] at hV
    rw [hv2, ob_some] at eo
    by_cases cv : v.i 15 = 0
    · rw [if_pos cv] at eo
      rcases y_open hN h hc hd h6 h0 ep eo with ⟨o1, -, -⟩ | ⟨-, o2, o3, o4, o5, o6, o7, o8, o9, o10, o11, o12⟩
      · exact (n10 o1).elim
      · exact Or.inr ⟨v, hV, o3, o4, o5, o6, o7, o8, o9, o10, o11, o12, (kre_f_X12_next N q7.2 v hv2).trans (kre_f_X12_opens N s q7 hq7)⟩
    · rw [if_neg cv] at eo
      rcases y_open hN h hc hd h6 h0 ep eo with ⟨-, o2, o3⟩ | ⟨o1, -⟩
      · exact Or.inl ⟨o2, krf_f_X12_then N v st K V hV o3⟩
      · exact absurd (show (0 : Int32) = 1 from o1) (by decide)
set_option maxHeartbeats 4000000 in
theorem sx_one {N : Nat} (hN : 1000 ≤ N) {E1 : CS → Option (Unit × CS)} {E2 : CS → Option (Int32 × CS)} (hm1 : ∀ σ, Kf (CS.i σ 32) (E1 σ)) (hm2 : ∀ σ, Kf (CS.i σ 32) (E2 σ)) (hE : SXR N 18 E1) (hE2 : SXN N 22 E2) : SXN N 22 (f_X1_one N E1 E2) := by
  intro d S s U n t R hv ht hk hs h3 e g
  have h15 := hv.1.2.1
  have en := tp_nat ht
  obtain ⟨m, V, hV, g2⟩ := rl_22 g ht h15 hk
  have t9 : t < 1000 := by
    have := (rl_0 g ht h15).2.1.2
    have h2 : (s.i 63).toInt = (t : Int) := ht
    omega
  have i33 := tk_is hv (a := 33) (b := 33) (Or.inl ⟨by decide, by decide⟩) (by decide)
  have i91 := tk_is hv (a := 91) (b := 91) (Or.inl ⟨by decide, by decide⟩) (by decide)
  have itr := tk_is hv (a := 222) (b := 432) (Or.inr ⟨by decide, by decide⟩) (by decide)
  have ifa := tk_is hv (a := 223) (b := 433) (Or.inr ⟨by decide, by decide⟩) (by decide)
  unfold f_X12_one f_X12_one_112 f_X12_one_133 at hV
  obtain ⟨hib, hV⟩ := hf_ite hV
  rw [en, if_pos hs] at hV
  unfold f_X1_one at e
  by_cases c33 : S.i 43 = 33
  · have k33 := i33.mp c33
    have no : ¬ s.i 10 = 432 := by rw [k33]; decide
    rw [if_pos c33] at e
    rw [if_pos k33] at hV
    obtain ⟨p, ep, e⟩ := hf_bind e
    unfold f_X1_one_66 at e
    have neg : ∀ (T : CS) (W : Int32 × CS), ((f_X0_add N (CS.setI T 34 (T.i 34 - 1)) 5 0).bind fun p7 => some ((0 : Int32), p7.2)) = some W → W.2.i 32 = T.i 32 := fun T W hW => by
      obtain ⟨x, ex, hW⟩ := hf_bind hW
      cases hW
      exact (show x.2.i 32 = (CS.setI T 34 (T.i 34 - 1)).i 32 from fst_add ex)
    rcases y_opens hN hv (c := 33) (d := 33) (Or.inl ⟨by decide, by decide⟩) (by decide) (by decide) (by decide) k33 ep hV with ⟨o2, o3⟩ | ⟨v, hV, o3, o4, o5, o6, o7, o8, o9, o10, o11, o12, o13⟩
    · refine Or.inl ⟨?_, u_flt g2 o3⟩
      rw [if_neg o2] at e
      rw [neg p.2 R e]
      exact o2
    · rw [if_pos o3.1.1] at e
      obtain ⟨x, ex, e⟩ := hf_bind e
      obtain ⟨y, ey, e⟩ := hf_bind e
      cases e
      have tq := tq_of o4 ht
      obtain ⟨hV', t99⟩ := r_then tq hV
      rw [hV'] at g2
      have t17 : (v.i 17).toInt = (s.i 17).toInt + 1 := by
        rw [o6]
        exact t17_up (N := N) hv
      have pq : phI v = phI s + 3 := by
        unfold phI
        rw [o8, t17]
        omega
      rcases hE2 d p.2 (TH v t 1 22) U m (t + 1) x o3.th (TH.tp tq (by omega)) TH.fk TH.fs (show 3 ≤ phI v by omega) ex g2 with ⟨x1, x2⟩ | ⟨m2, u, g3, xo, -, -, xc⟩
      · refine Or.inl ⟨?_, x2⟩
        rw [fst_add ey]
        exact x1
      · obtain ⟨w1, w2, w3, w4, w5, w6, w7, w8, w9⟩ := xo
        have u64 : u.a 64 t = 22 := by
          rw [(w3 t (by omega)).1, TH.fk0 (Nat.le_refl t), ((FRB.of (t := t + 1) o4) t (by omega)).1]
          exact hk
        have u65 : u.a 65 t = 1 := by
          rw [(w3 t (by omega)).2.1]
          exact TH.st
        have tu : tpI u = t := by
          rw [w2]
          omega
        have w6' : (v.i 11).toInt + 1 ≤ (u.i 11).toInt := w6
        have w7' : phI v + 1 ≤ phI u := w7
        have w8' : (v.i 17).toInt + 1 ≤ (u.i 17).toInt := w8
        have w9' : u.i 19 = v.i 19 := w9
        obtain ⟨m3, V3, hV3, g4⟩ := rl_22 g3 tu w1.1.2.1 u64
        unfold f_X12_one at hV3
        obtain ⟨-, hV3⟩ := hf_ite hV3
        rw [tp_nat tu, if_neg (by rw [u65]; decide), if_pos u65] at hV3
        obtain ⟨z, hz, hV3⟩ := hf_bind hV3
        cases hV3
        have e1' : (1 : Int32).toInt = 1 := by decide
        have ho := hv.2.2.1
        have ho2 := w1.2.2.1
        have u19 : (u.i 19).toInt = (s.i 19).toInt + 1 := by rw [w9', o12]
        have u191 : (u.i 19 - 1).toInt = (s.i 19).toInt := by rw [toInt_sub] <;> rw [e1'] <;> omega
        have ws : ENV d (CS.setI x.2 34 (x.2.i 34 - 1)) (RS.setI u 19 (u.i 19 - 1)) := w1.sg (by rw [ho2.1]) (by omega) (by omega) (by
          have := sg_room hv w1 ((CKX.of o5 o10 o11).tr w5) (by omega)
          unfold sgI at this
          rw [ho2.1] at this ⊢
          omega)
        obtain ⟨b1, b2, b3, b4, -, -⟩ := em_env ws (show 1 ≤ phI u by omega) hz
        obtain ⟨kq, y10, y11, -, -, -, -, y17, y19, -⟩ := qj2_eq b3
        have kd := kd_X0_add N _ 5 0 y ey
        obtain ⟨kp, -, -, -, e22, -, -, e43, -, -, -, e18⟩ := pj2_eq kd
        have b4' : phI z.2 = phI u - 1 := b4
        have kqu : qj z.2 = qj u := kq
        have tbz : TBK u z.2 := b2
        have kpx : pj y.2 = pj x.2 := kp
        refine Or.inr ⟨m3, _, g4, ⟨pop_env (b1.kd kd), tp_sub (tq_of kqu tu) t9, ((((FRB.of o4).tr TH.frb).tr (w3.mo (by omega))).tr (FRB.of kqu)).tr pop_frb, ((((TBK.of o4 (by rw [o8]; exact Int.le_refl _) (fun j _ => by rw [o9])).tr TH.tbk).tr w4).tr tbz).tr pop_tbk, ((CKX.of o5 o10 o11).tr w5).tr (CKX.of kpx e22 e18), ?_, ?_, ?_, ?_⟩, Or.inl rfl, ⟨fun q => absurd (show (0 : Int32) = 1 from q) (by decide), fun q => absurd q.1 no⟩, fun cr => ?_, fun z => absurd (show (0 : Int32) = 1 from z) (by decide)⟩
        · show (s.i 11).toInt + 1 ≤ (z.2.i 11).toInt
          have : z.2.i 11 = u.i 11 := y11
          rw [this]
          omega
        · show phI s + 1 ≤ phI z.2
          omega
        · show (s.i 17).toInt + 1 ≤ (z.2.i 17).toInt
          have : z.2.i 17 = u.i 17 := y17
          rw [this]
          omega
        · refine o19 ?_
          have : z.2.i 19 = u.i 19 - 1 := y19
          show (z.2.i 19).toInt = (s.i 19).toInt
          rw [this, u191]
        · obtain ⟨a1, a2, a3, a4, a5, a6⟩ := tok_cd hv o3 o5 (ke_X1_open N S 33 p ep) o13 o7
          have crp : CRB p.2 := cr.of a1 (by omega) (by omega)
          obtain ⟨f1, f2, f3, f4⟩ := xc.1 crp
          have crx : CRB x.2 := crp.of f1 (by omega) (by omega)
          have x44 := w1.p44
          have x44' : (x.2.i 44).toInt = (u.i 11).toInt := by rw [x44.1]
          obtain ⟨d1', d2', ⟨d3', d3''⟩, d4', d5', d6'⟩ := cd_add ey (show 0 ≤ (x.2.i 20).toInt from crx.1.1) (show (x.2.i 20).toInt < 1200 by have := crx.1.2; omega)
          have d1 : CD1 1 0 x.2 y.2 := d1'
          have d2 : (y.2.i 20).toInt = (x.2.i 20).toInt + 1 := d2'
          have d3 : y.2.a 15 (pcC x.2) = 5 := d3'
          have d4 : y.2.a 17 = x.2.a 17 := d4'
          have p20 := w1.p20
          obtain ⟨m1', -, m3', m4', -, -⟩ := cd_emit hz (show 0 ≤ (u.i 20).toInt from p20.1) (show (u.i 20).toInt < 3000 by omega)
          have m1 : CD2 (u.i 20).toInt u z.2 := m1'
          have m3e : (z.2.i 20).toInt = (u.i 20).toInt + 1 := m3'
          have m4 : z.2.a 21 (pcR u) = 10 := m4'
          have sT : CD2 (s.i 20).toInt s (TH v t 1 22) := (a3 _).tr (CD2.qe rfl)
          have su : CD2 (s.i 20).toInt s u := sT.tr (f3.wk (by show _ ≤ (v.i 20).toInt; rw [a6]; exact Int.le_refl _))
          have kT : TBK s (TH v t 1 22) := (TBK.of o4 (by rw [o8]; exact Int.le_refl _) (fun j _ => by rw [o9])).tr TH.tbk
          have mz : CD2 (u.i 20).toInt u (RS.setI z.2 63 (z.2.i 63 - 1)) := m1.tr (CD2.qe rfl)
          refine ⟨((a1.tr f1).tr d1).wk (by omega) (by omega), ((a2 _ _).tr (f2.wk (Int.le_refl _) (by rw [a5]; exact Int.le_refl _))).tr (CT7.eq d4), su.tr (mz.wk su.1.1), ?_⟩
          obtain ⟨Ψ1, sat1, f4⟩ := f4
          refine ⟨Ψ1, sat1.wd (MNO.of a1 sT) (MNO.of d1 mz), ?_⟩
          intro FC SF nm X c h w0 W g0 ps fc fr ng hc hh ty hW hg zz
          have pS : pcC p.2 = pcC S := by unfold pcC; rw [a4]
          have pSi : ((pcC S : Nat) : Int) = (S.i 20).toInt := Int.toNat_of_nonneg cr.1.1
          have pxi : ((pcC x.2 : Nat) : Int) = (x.2.i 20).toInt := Int.toNat_of_nonneg crx.1.1
          have pui : ((pcR u : Nat) : Int) = (u.i 20).toInt := Int.toNat_of_nonneg p20.1
          have lpx := f1.1.1
          rw [a4] at lpx
          have py : pcC y.2 = pcC x.2 + 1 := by
            unfold pcC
            rw [d2]
            have := crx.1.1
            omega
          have pz : ∀ k : Int32, pcR (RS.setI z.2 63 k) = pcR u + 1 := fun k => by
            unfold pcR
            rw [show (RS.setI z.2 63 k).i 20 = z.2.i 20 from rfl, m3e]
            have := p20.1
            omega
          rw [py, pz] at zz
          have f15 := fc.2.1 (pcC x.2) (by omega) (by show _ < (y.2.i 20).toInt; omega)
          have lsu := su.1.1
          have u21 := fr.2.1 (pcR u) (by omega) (by show _ < (z.2.i 20).toInt; omega)
          have fr1 : (z.2.i 20).toInt ≤ (U.i 20).toInt := fr.1.2.1
          have z0 := gs_not ⟨by have := crx.1.2; omega, by omega, fr.1.2.2⟩ hc (by rw [f15.1]; exact d3) (by rw [u21.1]; exact m4) zz
          have z1 := f4 FC SF nm X c h (w0 + 1) W g0 ps (fc.sub a1 d1 (CT7.eq d4)) (fr.sub sT mz (mz.c3 (Int.le_refl _))) (ng.mv hv.2.1.1 a1 sT kT.1.1.2.2.2.1 (fun j hj => (kT.1.2.1 j hj).2.1) (show (s.i 19).toInt ≤ (v.i 19).toInt by rw [o12]; omega)) hc (show ((2 * h + 0 + msr c : Nat) : Int) ≤ (v.i 11).toInt by omega) ty (by omega) hg z0
          rw [pS, show pcR (TH v t 1 22) = pcR s by unfold pcR; rw [show (TH v t 1 22).i 20 = v.i 20 from rfl, a6]] at z1
          rw [py, show w0 + (pcC x.2 + 1 - pcC S) = w0 + 1 + (pcC x.2 - pcC S) by omega]
          exact z1
  rw [if_neg c33] at e
  rw [if_neg (fun q => c33 (i33.mpr q))] at hV
  by_cases c91 : S.i 43 = 91
  · have k91 := i91.mp c91
    have no : ¬ s.i 10 = 432 := by rw [k91]; decide
    rw [if_pos c91] at e
    rw [if_pos k91] at hV
    obtain ⟨q, hq, hV⟩ := hf_bind hV
    rw [ob_id] at hV
    obtain ⟨p, e1, e⟩ := hf_bind e
    obtain ⟨x, e2, e⟩ := hf_bind e
    obtain ⟨y, e3, e⟩ := hf_bind e
    cases e
    have per : ¬ x.2.i 32 = 0 → ¬ y.2.i 32 = 0 := fun z => by rw [kF_X1_close N x.2 93 y e3 z]; exact z
    have per0 : ¬ p.2.i 32 = 0 → ¬ x.2.i 32 = 0 := fun z => by rw [kF_X1_condition N E1 E2 hm1 hm2 p.2 x e2 z]; exact z
    rcases y_open hN hv (c := 91) (d := 91) (Or.inl ⟨by decide, by decide⟩) (by decide) (by decide) (by decide) e1 hq with ⟨o1, o2, o3⟩ | ⟨o1, o2, o3, o4, o5, o6, o7, o8, o9, o10, o11, o12⟩
    · exact Or.inl ⟨per (per0 o2), u_flt g2 (krf_f_X12_then N q.2 2 20 V hV o3)⟩
    · have tq := tq_of o4 ht
      obtain ⟨hV', t99⟩ := r_then tq hV
      rw [hV'] at g2
      have t17 : (q.2.i 17).toInt = (s.i 17).toInt + 1 := by rw [o6]; exact t17_up (N := N) hv
      have pq : phI q.2 = phI s + 3 := by
        unfold phI
        rw [o8, t17]
        omega
      rcases sx_condition hN hm1 hm2 hE2 d p.2 (TH q.2 t 2 20) U m (t + 1) x o3.th (TH.tp tq (by omega)) TH.fk TH.fs (show 3 ≤ phI q.2 by omega) e2 g2 with ⟨x1, x2⟩ | ⟨m2, u, g3, xo, -, -, xc⟩
      · exact Or.inl ⟨per x1, x2⟩
      · obtain ⟨w1, w2, w3, w4, w5, w6, w7, w8, w9⟩ := xo
        have u64 : u.a 64 t = 22 := by
          rw [(w3 t (by omega)).1, TH.fk0 (Nat.le_refl t), ((FRB.of (t := t + 1) o4) t (by omega)).1]
          exact hk
        have u65 : u.a 65 t = 2 := by
          rw [(w3 t (by omega)).2.1]
          exact TH.st
        have tu : tpI u = t := by
          rw [w2]
          omega
        have w6' : (q.2.i 11).toInt + 1 ≤ (u.i 11).toInt := w6
        have w7' : phI q.2 + 1 ≤ phI u := w7
        have w8' : (q.2.i 17).toInt + 1 ≤ (u.i 17).toInt := w8
        have w9' : u.i 19 = q.2.i 19 := w9
        obtain ⟨m3, V3, hV3, g4⟩ := rl_22 g3 tu w1.1.2.1 u64
        unfold f_X12_one at hV3
        obtain ⟨-, hV3⟩ := hf_ite hV3
        rw [tp_nat tu, if_neg (by rw [u65]; decide), if_neg (by rw [u65]; decide), if_pos u65] at hV3
        obtain ⟨z, hz, hV3⟩ := hf_bind hV3
        cases hV3
        have ho := hv.2.2.1
        have u19 : (u.i 19).toInt = (s.i 19).toInt + 1 := by rw [w9', o12]
        rcases y_close hN w1 (sg_room hv w1 ((CKX.of o5 o10 o11).tr w5) (by omega)) (c := 93) (d := 93) (Or.inl ⟨by decide, by decide⟩) (by decide) (by decide) (by decide) e3 hz with ⟨b1, b2, b3⟩ | ⟨b1, b2, b3, b4, b5, b6, b7, b8, b9, b10, b11, b12⟩
        · exact Or.inl ⟨b2, u_flt g4 b3⟩
        · have z17 : (z.2.i 17).toInt = (u.i 17).toInt + 1 := by rw [b6]; exact t17_up (N := N) w1
          have pz : phI z.2 = phI u + 3 := by
            unfold phI
            rw [b8, z17]
            omega
          refine Or.inr ⟨m3, _, g4, ⟨pop_env b3, tp_sub (tq_of b4 tu) t9, ((((FRB.of o4).tr TH.frb).tr (w3.mo (by omega))).tr (FRB.of b4)).tr pop_frb, ((((TBK.of o4 (by rw [o8]; exact Int.le_refl _) (fun j _ => by rw [o9])).tr TH.tbk).tr w4).tr (TBK.of b4 (by rw [b8]; exact Int.le_refl _) (fun j _ => by rw [b9]))).tr pop_tbk, ((CKX.of o5 o10 o11).tr w5).tr (CKX.of b5 b10 b11), ?_, ?_, ?_, ?_⟩, Or.inl rfl, ⟨fun q => absurd (show (0 : Int32) = 1 from q) (by decide), fun q => absurd q.1 no⟩, fun cr => ?_, fun z => absurd (show (0 : Int32) = 1 from z) (by decide)⟩
          · show (s.i 11).toInt + 1 ≤ (z.2.i 11).toInt
            omega
          · show phI s + 1 ≤ phI z.2
            omega
          · show (s.i 17).toInt + 1 ≤ (z.2.i 17).toInt
            omega
          · exact o19 (by show (z.2.i 19).toInt = _; rw [b12]; omega)
          · obtain ⟨a1, a2, a3, a4, a5, a6⟩ := tok_cd hv o3 o5 (ke_X1_open N S 91 p e1) (kre_f_X12_open N s 91 q hq) o7
            have crp : CRB p.2 := cr.of a1 (by omega) (by omega)
            obtain ⟨f1, f2, f3, f4⟩ := xc.1 crp
            have crx : CRB x.2 := crp.of f1 (by omega) (by omega)
            obtain ⟨j1, j2, j3, j4, j5, j6⟩ := tok_cd w1 b3 b5 (ke_X1_close N x.2 93 y e3) (kre_f_X12_shut N u 93 z hz) b7
            have sT : CD2 (s.i 20).toInt s (TH q.2 t 2 20) := (a3 _).tr (CD2.qe rfl)
            have su : CD2 (s.i 20).toInt s u := sT.tr (f3.wk (by show _ ≤ (q.2.i 20).toInt; rw [a6]; exact Int.le_refl _))
            have kT : TBK s (TH q.2 t 2 20) := (TBK.of o4 (by rw [o8]; exact Int.le_refl _) (fun j _ => by rw [o9])).tr TH.tbk
            refine ⟨((a1.tr f1).tr j1).wk (by omega) (by omega), ((a2 _ _).tr (f2.wk (Int.le_refl _) (by rw [a5]; exact Int.le_refl _))).tr (j2 _ _), (su.tr (j3 _)).tr (CD2.qe rfl), ?_⟩
            obtain ⟨Ψ1, sat1, f4⟩ := f4
            refine ⟨Ψ1, sat1.wd (MNO.of a1 sT) (MNO.of j1 ((j3 0).tr (CD2.qe rfl))), ?_⟩
            intro FC SF nm X c h w0 W g0 ps fc fr ng hc hh ty hW hg zz
            have pS : pcC p.2 = pcC S := by unfold pcC; rw [a4]
            have px : pcC y.2 = pcC x.2 := by unfold pcC; rw [j4]
            have pu : ∀ v : Int32, pcR (RS.setI z.2 63 v) = pcR u := fun v => by
              unfold pcR
              rw [show (RS.setI z.2 63 v).i 20 = z.2.i 20 from rfl, j6]
            rw [px, pu] at zz
            have z1 := f4 FC SF nm X c h w0 W g0 ps (fc.sub a1 j1 (j2 _ _)) (fr.sub sT ((j3 0).tr (CD2.qe rfl)) (((j3 (u.i 20).toInt).tr (CD2.qe rfl)).c3 (Int.le_refl _))) (ng.mv hv.2.1.1 a1 sT kT.1.1.2.2.2.1 (fun j hj => (kT.1.2.1 j hj).2.1) (show (s.i 19).toInt ≤ (q.2.i 19).toInt by rw [o12]; omega)) hc (show ((2 * h + 0 + msr c : Nat) : Int) ≤ (q.2.i 11).toInt by omega) ty hW hg zz
            rw [pS, show pcR (TH q.2 t 2 20) = pcR s by unfold pcR; rw [show (TH q.2 t 2 20).i 20 = q.2.i 20 from rfl, a6]] at z1
            rw [px]
            exact z1
  rw [if_neg c91] at e
  rw [if_neg (fun q => c91 (i91.mpr q))] at hV
  -- true, false
  have word : ∀ (vl b : Int32) (p33 : Unit × CS) (p29 : Unit × CS), ¬ S.i 43 = 0 → (vl = 0 ∨ vl = 1) → f_X0_add N S 0 vl = some p29 → f_X9_advance N p29.2 = some p33 → ((f_X12_emit N s 2 vl).bind fun p11 => (f_X12_next N p11.2).bind fun p9 => some (RS.setI p9 63 ((p9.i 63) - 1))) = some V → ∃ (m : Nat) (u : RS), f_X12_parse_10 N m u = some U ∧ XO d t S s p33.2 u ∧ (u.i 17).toInt = (s.i 17).toInt + 1 ∧ CDE 2 U S s p33.2 u ∧ (vl = 1 → CDE 4 U S s p33.2 u) := fun vl b p33 p29 nz hb e1 e2 hV => by
    obtain ⟨w, hw, hV⟩ := hf_bind hV
    obtain ⟨v, hw2, hV⟩ := hf_bind hV
    cases hV
    obtain ⟨w1, w2, w3, w4, -, -⟩ := em_env hv (by omega) hw
    obtain ⟨kq, y10, y11, -, -, -, -, y17, y19, -⟩ := qj2_eq w3
    have kd := kd_X0_add N S 0 vl p29 e1
    obtain ⟨kp, -, -, -, e22, -, -, e43, -, -, -, e18⟩ := pj2_eq kd
    obtain ⟨a1, a2, a3, a4, a5, a6, a7, a8, a9, a10⟩ := (w1.kd kd).adv hN (by rw [e43]; exact nz) e2 hw2
    have tv := tq_of a2 (tq_of kq ht)
    have t17 : (v.i 17).toInt = (s.i 17).toInt + 1 := by rw [a4, y17]; exact t17_up (N := N) hv
    refine ⟨m, _, g2, ⟨pop_env a1, tp_sub tv t9, ((FRB.of kq).tr (FRB.of a2)).tr pop_frb, (w2.tr (TBK.of a2 (by rw [a6]; exact Int.le_refl _) (fun j _ => by rw [a7]))).tr pop_tbk, (CKX.of kp e22 e18).tr (CKX.of a3 a8 a9), ?_, ?_, ?_, ?_⟩, t17, cde_one hN hv (by omega) e1 hw (w1.kd kd) (by rw [e43]; exact nz) e2 hw2 (fun FC SF nm X c h w1' g0 pq hc hh ng x1 x2 x3 x4 z => gs_push pq hc x1 x3 (by rw [x2, x4]) hh (Or.inr (Or.inl ⟨rfl, by rw [x2]; exact hb⟩)) z), fun v1 => cde_one hN hv (by omega) e1 hw (w1.kd kd) (by rw [e43]; exact nz) e2 hw2 (fun FC SF nm X c h w1' g0 pq hc hh ng x1 x2 x3 x4 z => gs_push pq hc x1 x3 (by rw [x2, x4]) hh (Or.inr (Or.inr ⟨rfl, by rw [x2]; exact v1⟩)) z)⟩
    · show (s.i 11).toInt + 1 ≤ (v.i 11).toInt
      rw [y11] at a5
      exact a5
    · show phI s + 1 ≤ phI v
      have : phI v = phI w.2 + 3 := by
        unfold phI
        rw [a6, t17, y17]
        omega
      omega
    · show (s.i 17).toInt + 1 ≤ (v.i 17).toInt
      omega
    · exact a10.trans y19
  by_cases ctr : S.i 43 = 222
  · have ktr := itr.mp ctr
    rw [if_pos ctr] at e
    rw [if_pos ktr, if_pos ktr] at hV
    obtain ⟨p29, e1, e⟩ := hf_bind e
    obtain ⟨p33, e2, e⟩ := hf_bind e
    cases e
    obtain ⟨m2, u, y1, y2, y3, y4⟩ := word 1 0 p33 p29 (by rw [ctr]; decide) (Or.inr rfl) e1 e2 hV
    exact Or.inr ⟨m2, u, y1, y2, Or.inr rfl, ⟨fun _ => ⟨ktr, y3⟩, fun _ => rfl⟩, y4.1, fun _ => y4.2 rfl⟩
  rw [if_neg ctr] at e
  have ktr : ¬ s.i 10 = 432 := fun q => ctr (itr.mpr q)
  rw [if_neg ktr] at hV
  by_cases cfa : S.i 43 = 223
  · have kfa := ifa.mp cfa
    rw [if_pos cfa] at e
    rw [if_pos kfa, if_neg ktr] at hV
    obtain ⟨p29, e1, e⟩ := hf_bind e
    obtain ⟨p33, e2, e⟩ := hf_bind e
    cases e
    obtain ⟨m2, u, y1, y2, y3, y4⟩ := word 0 0 p33 p29 (by rw [cfa]; decide) (Or.inl rfl) e1 e2 hV
    exact Or.inr ⟨m2, u, y1, y2, Or.inl rfl, ⟨fun q => absurd (show (0 : Int32) = 1 from q) (by decide), fun q => absurd q.1 ktr⟩, y4.1, fun z => absurd (show (0 : Int32) = 1 from z) (by decide)⟩
  rw [if_neg cfa] at e
  rw [if_neg (fun q => cfa (ifa.mpr q)), ob_id] at hV
  obtain ⟨p, e1, e⟩ := hf_bind e
  cases e
  obtain ⟨hV', t99⟩ := r_then ht hV
  rw [hV'] at g2
  rcases sx_comparison hN hm1 hm2 hE hv ht hk h3 t99 e1 g2 with z | ⟨m2, u, y1, y2, y4⟩
  · exact Or.inl z
  · exact Or.inr ⟨m2, u, y1, y2, Or.inl rfl, ⟨fun q => absurd (show (0 : Int32) = 1 from q) (by decide), fun q => absurd q.1 ktr⟩, y4, fun z => absurd (show (0 : Int32) = 1 from z) (by decide)⟩
