/-! reading: arms: their end, their head -/
theorem AR9 {N : Nat} (hN : 1000 ≤ N) {m : Nat} {s A V w : RS} {t γ0 : Nat} {L : List Nat} {P : RS → Prop} (hI : INV s) (h9 : t < 995) (hF : ∀ u, FS' s u → P u) (s10 : s.i 10 = 428) (kA : KP t s A) (cA : cdI A = cdI s) (A38 : A.i 38 = s.i 38) (A52 : A.i 52 = s.i 52) (fA : fr s + 1 ≤ fr A) (te : ¬ 0 ≤ V.i 18 → TE A V) (k1 : KP t A V) (i1 : INV V) (d1 : V.i 52 = s.i 52) (f1 : fr A + 1 ≤ fr V) (gV : goI V = goI s) (V38 : V.i 38 = s.i 38) (g0 : (γ0 : Int) = goI s) (hg : AI t s V γ0 L L w) (h68 : G68 t L w) (w68 : w.a 68 t = 1) (m1 : 1 ≤ m) {x1 : Int32} (ibx : ib x1 1000) (nx : x1.toNatClampNeg = t) (hC : ∀ (u : RS), PE t s u → fr w + 1 ≤ fr u → ok (f_X12_parse_10 N m u) P) : ok ((f_X12_arms_250 N w x1).bind fun p => f_X12_parse_10 N m p) P := by
  obtain ⟨⟨a1, a2, a3⟩, ⟨b1, b2, b3, b4, b5⟩, ⟨c2, c4, c5⟩, ⟨d1', d2, d3⟩, ⟨e1, e2, e3, e4⟩, ⟨f1', f2, f3⟩, g1, g2, g3⟩ := id hg
  have cs := hI.cd
  have cV := i1.cd
  have cw := a1.cd
  have fw := a1.1.f0
  have ek : ((cdI V).toNat : Int) = cdI V := Int.toNat_of_nonneg cV.1
  obtain ⟨p, ep, x1', x2⟩ := SHO hN a1 125 (by decide)
  unfold f_X12_arms_250
  rw [ep]
  clear ep
  obtain ⟨w2, hw2⟩ : ∃ w2, w2 = p.2 := ⟨_, rfl⟩
  show ok ((if ib x1 1000 then if ib (p.2.a 66 (x1.toNatClampNeg)) 3000 then some (RS.setI (RS.setA (RS.setI (RS.setI p.2 43 ((p.2.i 43) - 1)) 52 ((p.2.i 52) - 1)) 23 ((p.2.a 66 (x1.toNatClampNeg)).toNatClampNeg) (p.2.i 20)) 63 ((p.2.i 63) - 1)) else none else none : Option RS).bind fun p => f_X12_parse_10 N m p) P
  rw [← hw2] at x1' x2 ⊢
  clear hw2
  have ua := x1'.1
  have k66 : (w2.a 66 t).toInt = ((cdI V).toNat : Int) := by rw [ua, d2, ek]
  rw [if_pos ibx, nx, if_pos (show ib (w2.a 66 t) 3000 from ⟨by omega, by omega⟩), k_nat k66]
  show ok (f_X12_parse_10 N m (RS.setI (RS.setA (RS.setI (RS.setI w2 43 ((w2.i 43) - 1)) 52 ((w2.i 52) - 1)) 23 (cdI V).toNat (w2.i 20)) 63 ((w2.i 63) - 1))) P
  obtain ⟨W, hW⟩ : ∃ W, W = RS.setI (RS.setA (RS.setI (RS.setI w2 43 ((w2.i 43) - 1)) 52 ((w2.i 52) - 1)) 23 (cdI V).toNat (w2.i 20)) 63 ((w2.i 63) - 1) := ⟨_, rfl⟩
  have wi : ∀ j : Nat, j ≠ 43 → j ≠ 52 → j ≠ 63 → W.i j = w2.i j := fun j h1 h2 h3 => by rw [hW]; exact (if_neg h3).trans ((if_neg h2).trans (if_neg h1))
  have wa : ∀ k : Nat, k ≠ 23 → W.a k = w2.a k := fun k hk => by rw [hW, setI_a, setA_nk hk]; rfl
  have W23n : ∀ j : Nat, j ≠ (cdI V).toNat → W.a 23 j = w2.a 23 j := fun j hj => by rw [hW, setI_a, setA_ne hj]; rfl
  have W23c : W.a 23 (cdI V).toNat = w2.i 20 := by rw [hW, setI_a]; exact setA_at
  have wb : W.b = w2.b := by rw [hW]; rfl
  have w43 : W.i 43 = w2.i 43 - 1 := by rw [hW]; rfl
  have w52 : W.i 52 = w2.i 52 - 1 := by rw [hW]; rfl
  have w63 : W.i 63 = w2.i 63 - 1 := by rw [hW]; rfl
  rw [← hW]
  clear hW
  have ksV : KP t s V := kA.tr k1 (Nat.le_refl _)
  have ksw : KP t s w := ksV.tr a3 (Nat.le_refl _)
  rcases x2 with x2 | ⟨x2, x3, x4, x5, x6⟩
  · refine lp_f (u := W) (by rw [wi 15 (by decide) (by decide) (by decide)]; exact x2) (hF _ ⟨by rw [wi 15 (by decide) (by decide) (by decide)]; exact x2, ⟨fun j hj => ?_, fun k hk => ?_, ?_⟩, ?_⟩) m1
    · exact (wi j (by omega) (by omega) (by omega)).trans ((x1'.2.2.1 j (by omega) (by omega)).trans (ksw.1.1.1 j hj))
    · rw [wa k (by omega), ua]; exact ksw.1.1.2.1 k hk
    · rw [wb, x1'.2.1]; exact ksw.1.1.2.2
    · rw [wi 75 (by decide) (by decide) (by decide), x1'.2.2.1 75 (by omega) (by omega)]; exact a1.r
  have e1' : (1 : Int32).toInt = 1 := by decide
  have gw2 : goI w2 = goI s + 1 := x1'.tbl.go.trans b2
  have gos := hI.2.2.2.2.2.2.2.2.2.2.2.1
  have gW : goI W = goI s := by
    have g2' : (w2.i 43).toInt = goI s + 1 := gw2
    have hff := hI.1.f0
    unfold goI at *
    rw [w43, toInt_sub] <;> rw [e1'] <;> omega
  have W43 : W.i 43 = s.i 43 := Int32.toInt_inj.mp gW
  have W52 : W.i 52 = s.i 52 := by rw [w52, x1'.2.2.1 52 (by omega) (by omega), b3, Int32.add_sub_cancel]
  have W19 : W.i 19 = s.i 19 := by rw [wi 19 (by decide) (by decide) (by decide), x4, b1, Int32.add_sub_cancel]
  have wl : ∀ j : Nat, 18 ≤ j → j ≠ 19 → j ≠ 43 → j ≠ 52 → j ≠ 63 → W.i j = w.i j := fun j h0 h1 h2 h3 h4 => (wi j h2 h3 h4).trans (x1'.2.2.1 j (by omega) h1)
  have he : EQT w W := ⟨fun k p q => by rw [wa k (by omega), ua], by rw [wb, x1'.2.1], fun j p q r r2 r3 r4 => (wi j r (by omega) r3).trans (x1'.2.2.1 j (by omega) (by omega))⟩
  have hchn : CHN w W := fun γ b M x _ _ _ => ⟨by rw [wa 21 (by decide), ua], by rw [wa 22 (by decide), ua]⟩
  have cW : cdI W = cdI w := by unfold cdI; rw [wl 20 (by omega) (by omega) (by omega) (by omega) (by omega)]
  have W2 : ∀ k : Nat, W.a 21 k = w.a 21 k ∧ W.a 22 k = w.a 22 k ∧ (k ≠ (cdI V).toNat → W.a 23 k = w.a 23 k) := fun k => ⟨by rw [wa 21 (by decide), ua], by rw [wa 22 (by decide), ua], fun hk => by rw [W23n k hk, ua]⟩
  have W38 : W.i 38 = s.i 38 := (wl 38 (by omega) (by omega) (by omega) (by omega) (by omega)).trans b5
  have seW : seI W = seI s := by unfold seI; rw [W38]
  have seV : seI V = seI s := by unfold seI; rw [V38]
  have w18 : W.i 18 = w.i 18 := wl 18 (by omega) (by omega) (by omega) (by omega) (by omega)
  have wf : ∀ k : Nat, 64 ≤ k → k ≤ 73 → bel k t w W := fun k p q j _ => by rw [wa k (by omega), ua]
  have kVs := ksV.2.1.1
  have kW : KP t s W := ksw.fin he hchn (by omega) (by omega) (by omega) (fun z => by rw [w18]; exact z) (fun k hk => ⟨(W2 k).1, (W2 k).2.1, (W2 k).2.2 (by omega)⟩) wf
  have ra2 : RATE s w2 := c2.tr (x1'.tbl.rate (by omega) (by omega))
  have fW : fr W = fr w2 := by unfold fr; rw [wi 11 (by decide) (by decide) (by decide)]
  have tkW : tkI W = tkI w2 := by unfold tkI; rw [wi 17 (by decide) (by decide) (by decide)]
  have rt : RATE s W := by
    have h1 : cdI W = cdI w2 := by unfold cdI; rw [wi 20 (by decide) (by decide) (by decide)]
    have h2 : enI W = enI w2 := by unfold enI; rw [wi 24 (by decide) (by decide) (by decide)]
    have h3 : trI W = trI w2 := by unfold trI; rw [wi 29 (by decide) (by decide) (by decide)]
    have h4 : caI W = caI w2 := by unfold caI; rw [wi 33 (by decide) (by decide) (by decide)]
    have h5 : slI W = slI w2 := by unfold slI; rw [wi 42 (by decide) (by decide) (by decide)]
    have h6 : peI W = peI w2 := by unfold peI; rw [wi 59 (by decide) (by decide) (by decide)]
    unfold RATE at ra2 ⊢
    rw [h1, h2, h3, h4, h5, h6, fW, tkW]
    exact ra2
  have tw := a1.2.2.2.1
  have kg := ksw.2.2.2.2.2.2.1
  have kw := ksw.2.2.2.2.2.2.2.2.1
  have waE : waI w = waI s := by unfold waI; rw [b4]
  have deE : deI W = deI s := by unfold deI; rw [W52]
  have tsb := hI.2.2.2.1
  have kse := ksw.2.2.2.2.2.1.1
  have tW : TAB W := tw.fin he hchn (by omega) (by omega) (by omega) (fun γ hγ => by
    have := (tsb.2.2.2.2.2.2.1 γ (by omega)).2
    have e : gv w 47 γ = gv s 47 γ := by unfold gv; rw [kg.2.2.1 γ (by omega)]
    omega) (fun j hj => by
    have := (tsb.2.2.2.2.2.2.2.2.1 j (by omega)).2.2.2
    have e : gv w 58 j = gv s 58 j := by unfold gv; rw [kw.2.2 j (by omega)]
    omega) (by rw [wl 75 (by omega) (by omega) (by omega) (by omega) (by omega)]; exact a1.r)
  have sm : SAME s W := ⟨W19, W43, W52, (wl 56 (by omega) (by omega) (by omega) (by omega) (by omega)).trans b4⟩
  have lW : LXI W := x1'.2.2.2.1.of (wi 2 (by decide) (by decide) (by decide)) (wi 10 (by decide) (by decide) (by decide)) (wi 11 (by decide) (by decide) (by decide)) (wi 12 (by decide) (by decide) (by decide)) (wi 14 (by decide) (by decide) (by decide)) (by rw [wb])
  have sn : SNW s W := SNW.eq W38 kW.2.2.2.2.2.1.2.1
  have iW : INV W := hI.mkS kW lW ((wi 15 (by decide) (by decide) (by decide)).trans x2) tW sm sn rt (by omega) (by omega)
  have tpw2 : (w2.i 63).toInt = t := x1'.tp.trans a2
  refine hC W ⟨iW, ?_, kW, sm, W38, rt, by omega, by omega, fun z => ?_, ?_, fun q => ?_⟩ (by omega)
  · unfold tpI
    rw [w63, toInt_sub] <;> rw [e1'] <;> omega
  · have zw : ¬ 0 ≤ w.i 18 := fun q => z (by rw [w18]; exact q)
    have zV : ¬ 0 ≤ V.i 18 := fun q => zw (a3.1.2 q)
    refine TE.arms hI kA cA A38 A52 fA (te zV) k1 i1 d1 f1 gV V38 a3 (g1 zw) e2 e1 a1 e3 e4 ?_ he hchn gW (by omega) cW W2 (by rw [W23c]; show cdI w2 = _; have := x1'.tbl.cd; omega) (by omega) w18 wf
    rcases h68 with h | h
    · rw [w68] at h; exact absurd h (by decide)
    · exact h
  · intro j hj
    rw [wa 46 (by decide), ua]
    exact f3 j hj
  · rw [s10] at q
    exact absurd q (by decide)
theorem ARS {N b : Nat} (hN : 1000 ≤ N) (hx : 1 ≤ b → RUNE N 16 4 11 24 (b - 1)) (hl : 1 ≤ b → RUNL N (b - 1)) {s A V : RS} {t γ0 : Nat} {P : RS → Prop} {B0 : Int} (hI : INV s) (hb : 2 * (t : Int) ≤ fr s + 12 * op s + 12) (h9 : t < 995) (hc : 900 - fr s ≤ b) (hF : ∀ u, FS' s u → P u) (s10 : s.i 10 = 428) (kA : KP t s A) (cA : cdI A = cdI s) (A38 : A.i 38 = s.i 38) (A52 : A.i 52 = s.i 52) (fA : fr s + 2 ≤ fr A) (te : ¬ 0 ≤ V.i 18 → TE A V) (k1 : KP t A V) (i1 : INV V) (d1 : V.i 52 = s.i 52) (f1 : fr A + 1 ≤ fr V) (gV : goI V = goI s) (V38 : V.i 38 = s.i 38) (g0 : (γ0 : Int) = goI s) (hC : ∀ (m : Nat) (u : RS), PE t s u → B0 ≤ m + 40 * fr u → ok (f_X12_parse_10 N m u) P) : ∀ (d m : Nat) (st : Int32) (L0 L : List Nat) (w : RS), AI t s V γ0 L0 L w → G68 t L w → w.a 65 t = st → (st = 2 ∧ L0 = L ∨ st = 3 ∧ 2 * (enI w - enI s) + 4 ≤ fr w - fr s ∨ st = 5) → 2 * (enI w - enI s) + 2 ≤ fr w - fr s → 900 - fr w < d → 36000 + 60 ≤ (m : Int) + 40 * fr w → B0 ≤ (m : Int) + 40 * fr w → ok (f_X12_parse_10 N (m + 1) w) P
  | 0, m, st, L0, L, w, hg, h68, w65, hst, hsl, hd, hm, hB => by
    have := hg.1.1.1.f0
    omega
  | d + 1, m, st, L0, L, w, hg, h68, w65, hst, hsl, hd, hm, hB => by
    have ih := ARS hN hx hl hI hb h9 hc hF s10 kA cA A38 A52 fA te k1 i1 d1 f1 gV V38 g0 hC d
    obtain ⟨⟨a1, a2, a3⟩, ⟨b1, b2, b3, b4, b5⟩, ⟨c2, c4, c5⟩, ⟨d1', d2, d3⟩, ⟨e1, e2, e3, e4⟩, ⟨f1', f2, f3⟩, g1, g2, g3⟩ := id hg
    have fw := a1.1.f0
    have cV := i1.cd
    have cw := a1.cd
    have ek : ((cdI V).toNat : Int) = cdI V := Int.toNat_of_nonneg cV.1
    have ksV : KP t s V := kA.tr k1 (Nat.le_refl _)
    have ksw : KP t s w := ksV.tr a3 (Nat.le_refl _)
    have ibx : ib (w.i 63) 1000 := tp_ib a2 (by omega)
    have nx : (w.i 63).toNatClampNeg = t := tp_nat a2
    have hns := hI.2.2.2.2.2.2.1
    have hnw := a1.2.2.2.2.2.2.1
    obtain ⟨m', rfl⟩ : ∃ m', m = m' + 1 := ⟨m - 1, by omega⟩
    have push' : ((m' + 1 : Nat) : Int) = (m' : Int) + 1 := by omega
    rw [push'] at hm hB
    rcases hst with ⟨rfl, rfl⟩ | ⟨rfl, hsl4⟩ | rfl
    · refine lp_19 a2 (by omega) a1.2.2.1 d1' ?_
      unfold f_X12_arms
      rw [if_pos ibx, nx, if_neg (by rw [w65]; decide), if_neg (by rw [w65]; decide), if_pos w65]
      by_cases t1 : w.i 10 = 429
      · rw [if_pos t1]
        obtain ⟨w1, ew, y1, y2, y3, y4, y5, y6, y7⟩ := NX hN a1 (by rw [t1]; decide)
        have y7 := y7 (Or.inl (by rw [t1]; decide))
        rw [ew]
        show ok (f_X12_parse_10 N (m' + 1) (w1.setA 65 t 3)) P
        have gw1 : AI t s V γ0 L0 L0 w1 := hg.lx y4 y1 y3 (by omega) (by omega) (by omega)
        have e1n : enI w1 = enI w := y1.tbl.en
        have fin : fr (w1.setA 65 t 3) = fr w1 := rfl
        have ein : enI (w1.setA 65 t 3) = enI w1 := rfl
        exact ih m' 3 L0 L0 (w1.setA 65 t 3) (gw1.loc 3 (Or.inl rfl) (by omega)) (by
          unfold G68 at h68 ⊢
          rw [setA_nk (by decide), setA_nk (by decide), y1.1]; exact h68) setA_at (Or.inr (Or.inl ⟨rfl, by omega⟩)) (by omega) (by omega) (by omega) (by omega)
      rw [if_neg t1]
      by_cases t2 : w.i 10 = 430
      · rw [if_pos t2]
        by_cases c68 : w.a 68 t = 1
        · rw [if_pos c68]
          obtain ⟨S, eS, r1, r2, r3⟩ := p_fl (N := N) a1.1 4 (w.i 11) (by decide)
          rw [eS]
          exact lp_f (u := S) r2 (hF _ (FS'.of ksw.1.1 r1 r2 a1.r)) (by omega)
        rw [if_neg c68]
        have hgu : AI t s V γ0 L0 L0 (w.setA 68 t 1) := hg.loc 1 (Or.inr (by omega)) (by omega)
        obtain ⟨u, hu⟩ : ∃ u, u = w.setA 68 t 1 := ⟨_, rfl⟩
        have iiu : u.i = w.i := by rw [hu]; rfl
        have u68 : u.a 68 t = 1 := by rw [hu]; exact setA_at
        rw [← hu] at hgu ⊢
        clear hu
        have iu := hgu.1.1
        have fu : fr u = fr w := by unfold fr; rw [iiu]
        have tu : tkI u = tkI w := by unfold tkI; rw [iiu]
        have eun : enI u = enI w := by unfold enI; rw [iiu]
        obtain ⟨U, eU, en⟩ := p_en (N := N) (u := u) (L := L0) (c0 := (cdI V).toNat) 0 1 ibx nx (by omega) (by omega) (by rw [hgu.2.2.2.1.2.1, ek]) (by omega) hgu.2.2.2.1.2.2 hgu.2.2.2.2.1.2.2.1 (fun j hj => (hgu.2.2.2.2.1.2.2.2 j hj).2.1)
        rw [eU]
        clear eU
        have iU : INV U := iu.ent en (by rw [hgu.2.2.2.2.1.2.1]; decide) (fun j hj => (hgu.2.2.2.2.1.2.2.2 j hj).2.1) (by omega)
        have gU : AI t s V γ0 L0 (L0 ++ [(enI u).toNat]) U := hgu.ent i1 iU en (by omega)
        obtain ⟨p, ep, y1, y2, y3, y4, y5, y6, y7⟩ := NX hN iU (by rw [en.1 10 (by decide), iiu, t2]; decide)
        have y7 := y7 (Or.inl (by rw [en.1 10 (by decide), iiu, t2]; decide))
        have fU : fr U = fr u := by unfold fr; rw [en.1 11 (by decide)]
        have tU : tkI U = tkI u := by unfold tkI; rw [en.1 17 (by decide)]
        show ok (((f_X12_next N U).bind fun p39 => some (RS.setA p39 65 t 5)).bind fun p => f_X12_parse_10 N (m' + 1) p) P
        rw [ep]
        show ok (f_X12_parse_10 N (m' + 1) (p.setA 65 t 5)) P
        have gp : AI t s V γ0 L0 (L0 ++ [(enI u).toNat]) p := gU.lx y4 y1 y3 (by omega) (by omega) (by omega)
        have epn : enI p = enI U := y1.tbl.en
        have eUn := en.2.1
        have fin : fr (p.setA 65 t 5) = fr p := rfl
        have ein : enI (p.setA 65 t 5) = enI p := rfl
        refine ih m' 5 L0 (L0 ++ [(enI u).toNat]) (p.setA 65 t 5) (gp.loc 5 (Or.inl rfl) (by omega)) (Or.inr ⟨_, List.mem_append_right _ (List.mem_cons_self ..), ?_⟩) setA_at (Or.inr (Or.inr rfl)) (by omega) (by omega) (by omega) (by omega)
        rw [setA_nk (by decide), y1.1, en.2.2.2.2.2.2.2.2.2.2.1]
        decide
      rw [if_neg t2]
      have flt0 : ∀ y : Int32, y = 0 → ok (((f_X12_can N w y).bind fun p30 => (if p30.1 = 0 then some p30.2 else f_X12_arms_250 N p30.2 (w.i 63))).bind fun p => f_X12_parse_10 N (m' + 1) p) P := fun y hy => by
        obtain ⟨G, eG, q1, q2, hG⟩ := p_cn (N := N) a1.1 y
        rw [eG]
        show ok ((if G.1 = 0 then some G.2 else f_X12_arms_250 N G.2 (w.i 63) : Option RS).bind fun p => f_X12_parse_10 N (m' + 1) p) P
        rcases hG with ⟨q3, q4⟩ | ⟨q3, q4, q5, q6⟩
        · rw [if_pos q3]
          exact lp_f (u := G.2) q4 (hF _ (FS'.of ksw.1.1 q1 q4 a1.r)) (by omega)
        · exact absurd hy q6
      by_cases t3 : w.i 10 = 125
      · rw [if_pos t3]
        by_cases c68 : w.a 68 t = 1
        · rw [if_pos c68]
          obtain ⟨G, eG, q1, q2, hG⟩ := p_cn (N := N) a1.1 1
          rw [eG]
          show ok ((if G.1 = 0 then some G.2 else f_X12_arms_250 N G.2 (w.i 63) : Option RS).bind fun p => f_X12_parse_10 N (m' + 1) p) P
          rcases hG with ⟨q3, q4⟩ | ⟨q3, q4, q5, q6⟩
          · rw [if_pos q3]
            exact lp_f (u := G.2) q4 (hF _ (FS'.of ksw.1.1 q1 q4 a1.r)) (by omega)
          rw [if_neg (by rw [q3]; decide), q4]
          exact AR9 hN hI h9 hF s10 kA cA A38 A52 (by omega) te k1 i1 d1 f1 gV V38 g0 hg h68 c68 (by omega) ibx nx (fun u hu hf => hC (m' + 1) u hu (by omega))
        · rw [if_neg c68]
          exact flt0 0 rfl
      · rw [if_neg t3]
        exact flt0 0 rfl
    · refine lp_19 a2 (by omega) a1.2.2.1 d1' ?_
      unfold f_X12_arms
      rw [if_pos ibx, nx, if_neg (by rw [w65]; decide), if_neg (by rw [w65]; decide), if_neg (by rw [w65]; decide), if_pos w65]
      obtain ⟨p, ep, hp⟩ := CASEN (L := L) (c0 := (cdI V).toNat) hN a1 ibx nx (by rw [d2, ek]) (by omega) d3 e3 (fun j hj => (e4 j hj).2.1) (by rw [e2]; decide) (by omega)
      rw [ep]
      clear ep
      show ok ((if p.1 = 0 then some p.2 else (if (p.2.i 10) = 44 then f_X12_arms_333 N (RS.setA p.2 65 t 3) else f_X12_arms_333 N (RS.setA p.2 65 t 5)) : Option RS).bind fun p => f_X12_parse_10 N (m' + 1) p) P
      rcases hp with ⟨p1, p2, p3⟩ | ⟨p1, u, U, u1, u2, u3, u4, u5, u6, u7, u8, u9, u10, u11, u12, u13⟩
      · rw [if_pos p1]
        exact lp_f (u := p.2) p2 (hF _ (FS'.of ksw.1.1 p3 p2 a1.r)) (by omega)
      rw [if_neg (by rw [p1]; decide)]
      have fU : fr U = fr u := by unfold fr; rw [u7.1 11 (by decide)]
      have tU : tkI U = tkI u := by unfold tkI; rw [u7.1 17 (by decide)]
      have eun : enI u = enI w := u1.tbl.en
      have eUn := u7.2.1
      have epn : enI p.2 = enI U := u8.tbl.en
      have gp : AI t s V γ0 L0 (L ++ [(enI u).toNat]) p.2 := ((hg.lx u2 u1 u3 u4 u5 u6).ent i1 u9 u7 (by omega)).lx u10 u8 u11 (by omega) (by omega) (by omega)
      obtain ⟨R, hR⟩ : ∃ R, R = p.2 := ⟨_, rfl⟩
      have R28 : ∀ j ∈ L, R.a 28 j = w.a 28 j := fun j hj => by
        have := (e4 j hj).2.1
        rw [hR, u8.1, u7.2.2.2.2.2.2.2.1 28 j (by omega) (by omega) (by omega) (Or.inl (by decide)), u1.1]
      have R68 : R.a 68 t = w.a 68 t := by rw [hR, u8.1, u7.2.2.2.1 68 (by decide) (by omega) (by decide), u1.1]
      rw [← hR] at gp u10 u11 u12 u13 epn ⊢
      clear hR u8
      have h68R : G68 t (L ++ [(enI u).toNat]) R := by
        rcases h68 with h | ⟨j, j1, j2⟩
        · left; rw [R68]; exact h
        · right; exact ⟨j, List.mem_append_left _ j1, by rw [R28 j j1]; exact j2⟩
      by_cases c44 : R.i 10 = 44
      · rw [if_pos c44]
        have gq : AI t s V γ0 L0 (L ++ [(enI u).toNat]) (R.setA 65 t 3) := gp.loc 3 (Or.inl rfl) (by omega)
        unfold f_X12_arms_333
        rw [if_pos (show (R.setA 65 t 3).i 10 = 44 from c44)]
        obtain ⟨w1, ew, y1, y2, y3, y4, y5, y6, y7⟩ := NX hN gq.1.1 (by show ¬ R.i 10 = 0; rw [c44]; decide)
        rw [ew]
        show ok (f_X12_parse_10 N (m' + 1) w1) P
        have f3' : fr (R.setA 65 t 3) = fr R := rfl
        have e3' : enI (R.setA 65 t 3) = enI R := rfl
        have t3' : tkI (R.setA 65 t 3) = tkI R := rfl
        have e1n : enI w1 = enI R := y1.tbl.en.trans e3'
        refine ih m' 3 L0 (L ++ [(enI u).toNat]) w1 (gq.lx y4 y1 y3 (by omega) (by omega) (by omega)) ?_ (by rw [y1.1]; exact setA_at) (Or.inr (Or.inl ⟨rfl, by omega⟩)) (by omega) (by omega) (by omega) (by omega)
        unfold G68 at h68R ⊢
        rw [y1.1, setA_nk (by decide), setA_nk (by decide)]
        exact h68R
      · rw [if_neg c44]
        have gq : AI t s V γ0 L0 (L ++ [(enI u).toNat]) (R.setA 65 t 5) := gp.loc 5 (Or.inl rfl) (by omega)
        unfold f_X12_arms_333
        rw [if_neg (show ¬ (R.setA 65 t 5).i 10 = 44 from c44)]
        show ok (f_X12_parse_10 N (m' + 1) (R.setA 65 t 5)) P
        have f3' : fr (R.setA 65 t 5) = fr R := rfl
        have e3' : enI (R.setA 65 t 5) = enI R := rfl
        refine ih m' 5 L0 (L ++ [(enI u).toNat]) (R.setA 65 t 5) gq ?_ setA_at (Or.inr (Or.inr rfl)) (by omega) (by omega) (by omega) (by omega)
        unfold G68 at h68R ⊢
        rw [setA_nk (by decide), setA_nk (by decide)]
        exact h68R
    · refine AR5 hN hx hl hI hb h9 hc hF ksV i1 d1 (by omega) V38 g0 hg h68 w65 (by omega) (fun m2 w' q1 q2 q3 q4 q5 q6 => ih m2 2 L L w' q1 q2 q3 (Or.inl ⟨rfl, rfl⟩) (by omega) (by omega) (by omega) (by omega))
