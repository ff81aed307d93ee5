/-! reading: while: its frame -/
theorem MM.clo2 {t : Nat} {s R A v B : RS} (hI : INV s) (mR : MM t s R) (kA : KP t R A) (tA : TBL R A) (oA : A.i 19 = R.i 19 + 1) (dA : A.i 52 = R.i 52) (fA : fr R + 1 ≤ fr A) (tkA : tkI A = tkI R + 1) (v1 : INV v) (v2 : tpI v = t) (v3 : KP t A v) (v4 : SAME A v) (v5 : v.i 38 = A.i 38) (v6 : RATE A v) (v7 : fr A ≤ fr v) (v8 : tkI A ≤ tkI v) (x1 : LX v B) (x2 : B.i 15 = 0) (x4 : B.i 19 = v.i 19 - 1) (x5 : fr v + 1 ≤ fr B) (x6 : tkI B = tkI v + 1) : MM t s B := by
  obtain ⟨a1, a2, a3, a4, a5, a6, a7, a8⟩ := mR
  have kB : KP t s B := (((a3.tr kA (Nat.le_refl _)).tr v3 (Nat.le_refl _))).lx x1
  have A43 : A.i 43 = R.i 43 := tA.2.2 43 (by omega) (by omega) (by omega) (by omega)
  have A56 : A.i 56 = R.i 56 := tA.2.2 56 (by omega) (by omega) (by omega) (by omega)
  have A38 : A.i 38 = R.i 38 := tA.2.2 38 (by omega) (by omega) (by omega) (by omega)
  have e19 : B.i 19 = R.i 19 := by rw [x4, v4.1, oA, Int32.add_sub_cancel]
  have sm : SAME s B := a4.tr ⟨e19, (x1.2.2.1 43 (by omega) (by omega)).trans (v4.2.1.trans A43), (x1.2.2.1 52 (by omega) (by omega)).trans (v4.2.2.1.trans dA), (x1.2.2.1 56 (by omega) (by omega)).trans (v4.2.2.2.trans A56)⟩
  have e38 : B.i 38 = s.i 38 := x1.i38.trans (v5.trans (A38.trans a5))
  have rt : RATE s B := ((a6.tr (tA.rate (by omega) (by omega))).tr v6).tr (x1.tbl.rate (by omega) (by omega))
  exact ⟨hI.mkS kB x1.2.2.2.1 x2 (v1.2.2.2.1.lx x1) sm (SNW.eq e38 kB.2.2.2.2.2.1.2.1) rt (by omega) (by omega), x1.tp.trans v2, kB, sm, e38, rt, by omega, by omega⟩
theorem RATE.cg {s U B : RS} (h : RATE s U) (hi : ∀ j : Nat, j ≠ 43 → B.i j = U.i j) : RATE s B := by
  have e1 : cdI B = cdI U := by unfold cdI; rw [hi 20 (by decide)]
  have e2 : enI B = enI U := by unfold enI; rw [hi 24 (by decide)]
  have e3 : trI B = trI U := by unfold trI; rw [hi 29 (by decide)]
  have e4 : caI B = caI U := by unfold caI; rw [hi 33 (by decide)]
  have e5 : slI B = slI U := by unfold slI; rw [hi 42 (by decide)]
  have e6 : peI B = peI U := by unfold peI; rw [hi 59 (by decide)]
  have e7 : fr B = fr U := by unfold fr; rw [hi 11 (by decide)]
  have e8 : tkI B = tkI U := by unfold tkI; rw [hi 17 (by decide)]
  unfold RATE at *
  rw [e1, e2, e3, e4, e5, e6, e7, e8]
  exact h
/-- the loop's last step -/
theorem WH3 {N : Nat} (hN : 4000 ≤ N) {m : Nat} {s A v B2 v2 : RS} {t γ0 : Nat} {P : RS → Prop} {z : Int32} (hI : INV s) (h9 : t < 998) (kA : KP t s A) (cA : cdI A = cdI s + 1) (A21 : A.a 21 (cdI s).toNat = 1) (A38 : A.i 38 = s.i 38) (A52 : A.i 52 = s.i 52) (fA : fr s + 3 ≤ fr A) (te : ¬ 0 ≤ v.i 18 → TE A v) (hz : z = 0 ∨ z = 1 ∧ cdI v = cdI A + 1 ∧ v.a 21 (cdI A).toNat = 2 ∧ v.a 22 (cdI A).toNat = 1) (k1 : KP t A v) (i1 : INV v) (d1 : v.i 52 = s.i 52) (f1 : fr A + 1 ≤ fr v) (rAv : RATE A v) (gv1 : goI v = goI s) (kB : KP t v B2) (cB : cdI B2 = cdI v + 2) (B21 : B2.a 21 (cdI v).toNat = 13) (B21' : B2.a 21 (cdI v + 1).toNat = 1) (B38 : B2.i 38 = s.i 38) (B19 : B2.i 19 = s.i 19) (B52 : B2.i 52 = s.i 52) (B56 : B2.i 56 = s.i 56) (fB : fr v + 1 ≤ fr B2) (tkB : tkI s ≤ tkI B2) (g0 : (γ0 : Int) = goI s) (gB : goI B2 = goI s + 1) (B44 : B2.a 44 γ0 = 0) (B47 : gv B2 47 γ0 = deI s) (bB : ∀ b : Bool, hd B2 b γ0 = -1) (raB : RATE s B2) (B64 : B2.a 64 t = 10) (B66 : (B2.a 66 t).toInt = cdI A) (B67 : (B2.a 67 t).toInt = cdI v) (B68 : (B2.a 68 t).toInt = γ0) (B71 : B2.a 71 t = z) (hv : PCS t 2 B2 v2) (hn : 1 ≤ (m : Int)) (hC : ∀ (m' : Nat) (u : RS), PS t s u → fr v2 ≤ fr u → (m : Int) + 40 * fr v2 ≤ m' + 40 * fr u → ok (f_X12_parse_10 N m' u) P) : ok (f_X12_parse_10 N (m + 1) v2) P := by
  have hv' := hv
  obtain ⟨w1, w2, w3, w4, w5, w6, w7, w8, w9, w10, w11⟩ := hv'
  have fv := w1.1.f0
  have cv := i1.cd
  have cw := w1.cd
  have cs := hI.cd
  have le2 := w3.2.1.1
  have gos := hI.2.2.2.2.2.2.2.2.2.2.2.1
  have hf := hI.1.f0
  have ek : ((cdI v).toNat : Int) = cdI v := Int.toNat_of_nonneg cv.1
  have g2 : goI v2 = (γ0 : Int) + 1 := by have := w4.go; omega
  have n68 := k_nat (show (v2.a 68 t).toInt = γ0 by rw [w11 68 (by omega) (by omega) (by omega)]; exact B68)
  have ib68 : ib (v2.a 68 t) 460 := by
    have e : (v2.a 68 t).toInt = γ0 := by rw [w11 68 (by omega) (by omega) (by omega)]; exact B68
    exact ⟨by omega, by omega⟩
  have k67 : (v2.a 67 t).toInt = (cdI v).toNat := by rw [w11 67 (by omega) (by omega) (by omega), B67, ek]
  have n67 := k_nat k67
  have e66 : v2.a 66 t = B2.a 66 t := w11 66 (by omega) (by omega) (by omega)
  have e21 : v2.a 21 (cdI v).toNat = 13 := by rw [w3.2.1.2.1 _ (by omega)]; exact B21
  refine lp_10 w2 (by omega) w1.2.2.1 ((w11 64 (by omega) (by omega) (by omega)).trans B64) ?_
  unfold f_X12_whiles
  rw [if_pos (tp_ib w2 (by omega)), tp_nat w2, if_neg (by rw [w10]; decide), if_neg (by rw [w10]; decide), if_pos ib68, n68]
  obtain ⟨Lc, Lb, Q1, Q2, Q, x, c1, b1, c2, b2, e1, a1, e2, e20, a2, e3, qi, qb, qc, xc, qa, q21, q15, qfp, q22, qLc, qLb, qk1⟩ := PATCHES (fp := v2.a 66 t) hN w1 (γ0 := γ0) (k1 := (cdI v).toNat) (by omega) (by omega) (by rw [e21]; decide)
  rw [e1]
  show ok (((f_X12_emit N Q1 15 (Q1.a 66 t)).bind fun p28 => if ib (p28.2.a 67 t) 3000 then (f_X12_patch N (RS.setA p28.2 22 (((p28.2.a 67 t) : Int32).toNatClampNeg) (p28.2.i 20)) (p28.2.a 48 γ0) (p28.2.i 20)).bind fun p31 => (if (p31.a 71 t) = 0 then (f_X12_over N (RS.setI p31 43 ((p31.i 43) - 1)) 1).bind fun p34 => some p34 else (if (p31.a 50 γ0) = 0 then (f_X12_over N (RS.setI p31 43 ((p31.i 43) - 1)) 0).bind fun p37 => some p37 else (f_X12_over N (RS.setI p31 43 ((p31.i 43) - 1)) 1).bind fun p39 => some p39)) else none).bind fun p => f_X12_parse_10 N m p) P
  rw [a1 66 (by decide), e2]
  show ok ((if ib (Q2.a 67 t) 3000 then (f_X12_patch N (RS.setA Q2 22 (((Q2.a 67 t) : Int32).toNatClampNeg) (Q2.i 20)) (Q2.a 48 γ0) (Q2.i 20)).bind fun p31 => (if (p31.a 71 t) = 0 then (f_X12_over N (RS.setI p31 43 ((p31.i 43) - 1)) 1).bind fun p34 => some p34 else (if (p31.a 50 γ0) = 0 then (f_X12_over N (RS.setI p31 43 ((p31.i 43) - 1)) 0).bind fun p37 => some p37 else (f_X12_over N (RS.setI p31 43 ((p31.i 43) - 1)) 1).bind fun p39 => some p39)) else none : Option RS).bind fun p => f_X12_parse_10 N m p) P
  rw [a2 67 (by decide) (by decide) (by decide), a2 48 (by decide) (by decide) (by decide), if_pos (show ib (v2.a 67 t) 3000 from ⟨by omega, by omega⟩), n67, e20, e3]
  show ok ((if (Q.a 71 t) = 0 then (f_X12_over N (RS.setI Q 43 ((Q.i 43) - 1)) 1).bind fun p34 => some p34 else (if (Q.a 50 γ0) = 0 then (f_X12_over N (RS.setI Q 43 ((Q.i 43) - 1)) 0).bind fun p37 => some p37 else (f_X12_over N (RS.setI Q 43 ((Q.i 43) - 1)) 1).bind fun p39 => some p39) : Option RS).bind fun p => f_X12_parse_10 N m p) P
  have q71 : Q.a 71 t = z := by rw [qa 71 (by decide) (by decide) (by decide), w11 71 (by omega) (by omega) (by omega)]; exact B71
  have q50 : Q.a 50 = v2.a 50 := qa 50 (by decide) (by decide) (by decide)
  rw [q71, q50]
  obtain ⟨W, hW⟩ : ∃ W, W = RS.setI Q 43 ((Q.i 43) - 1) := ⟨_, rfl⟩
  have wa : W.a = Q.a := by rw [hW]; rfl
  have wi : ∀ j : Nat, j ≠ 20 → j ≠ 43 → W.i j = v2.i j := fun j h1 h2 => by rw [hW]; exact (if_neg h2).trans (qi j h1)
  have w20 : W.i 20 = Q.i 20 := by rw [hW]; rfl
  have w43 : goI W = γ0 := by
    have e : W.i 43 = v2.i 43 - 1 := by rw [hW]; show Q.i 43 - 1 = _; rw [qi 43 (by decide)]
    have e1' : (1 : Int32).toInt = 1 := by decide
    have g2' : (v2.i 43).toInt = (γ0 : Int) + 1 := g2
    unfold goI
    rw [e, toInt_sub] <;> rw [e1'] <;> omega
  have wb : W.b = Q.b := by rw [hW]; rfl
  rw [← hW]
  clear hW
  have cW : cdI W = cdI v2 + 1 := by have : cdI W = cdI Q := by { unfold cdI; rw [w20] }; omega
  have hpp : PPR γ0 Lc Lb (v2.a 66 t) x (fun k => k = (cdI v).toNat) v2 W := by
    refine ⟨⟨fun k h1 h2 => by rw [wa]; exact qa k (by omega) (by omega) (by omega), by rw [wb, qb], fun j h1 h2 h3 h4 h5 h6 => wi j (by omega) h3⟩, by omega, w43, g2, c1, b1, fun k hk => by rw [wa]; exact q21 k hk, fun k hk h1 h2 h3 => by rw [wa]; exact q22 k hk h1 h2 h3, fun k hk => by rw [wa]; exact qLc k hk, fun k hk => by rw [wa]; exact qLb k hk, fun k hk => ?_⟩
    have hk : k = (cdI v).toNat := hk
    rw [hk, e21]; decide
  have ksB : KP t s B2 := (kA.tr k1 (Nat.le_refl _)).tr kB (Nat.le_refl _)
  have ksv2 : KP t s v2 := ksB.tr w3 (Nat.le_refl _)
  have snB : SNW s B2 := SNW.eq B38 ksB.2.2.2.2.2.1.2.1
  have sn2 : SNW s v2 := snB.tr w6 ksB w3
  have ra2 : RATE s v2 := raB.tr w5
  have lek := k1.2.1.1
  have seW : seI W = seI v2 := by unfold seI; rw [wi 38 (by decide) (by decide)]
  have slW : slI W = slI v2 := hpp.1.sl
  have snW : SNW s W := by
    refine ⟨by have := sn2.1; omega, fun y y1 y2 => ?_⟩
    have e : gv W 40 y = gv v2 40 y := by unfold gv; rw [wa, qa 40 (by decide) (by decide) (by decide)]
    rw [e]
    exact sn2.2 y y1 (by omega)
  have ns : ∀ k : Nat, k ∈ Lc ∨ k ∈ Lb → cdI B2 ≤ (k : Int) := fun k hk => by
    rcases hk with hk | hk
    · exact (new_sites w3 bB (by omega) c1 k hk).1
    · exact (new_sites w3 bB (by omega) b1 k hk).1
  have kw := ksv2.2.2.2.2.2.2.2.2.1
  have hww : ∀ w : Nat, (w : Int) < waI v2 → gv v2 58 w ≤ γ0 := fun w hw => by
    have e1 : waI v2 = waI s := by have : waI v2 = waI B2 := w4.wa; have : waI B2 = waI s := by { unfold waI; rw [B56] }; omega
    have := (hI.2.2.2.1.2.2.2.2.2.2.2.2.1 w (by omega)).2.2.2
    have e : gv v2 58 w = gv s 58 w := by unfold gv; rw [kw.2.2 w (by omega)]
    omega
  have se1 : seI s ≤ seI v2 := ksv2.2.2.2.2.2.1.1
  have sev : seI v ≤ seI v2 := (kB.tr w3 (Nat.le_refl _)).2.2.2.2.2.1.1
  have z2 : ¬ 0 ≤ v2.i 18 → ¬ 0 ≤ v.i 18 := fun q r => q (w3.1.2 (kB.1.2 r))
  have fin : ∀ y : Int32, (y = 0 ∨ y = 1) → (z = 0 → y = 1) → (v2.a 50 γ0 = 1 → y = 1) → ok (((f_X12_over N W y).bind fun p => some p).bind fun p => f_X12_parse_10 N m p) P := by
    intro y hy h1 h2
    refine LEND (x := y) h9 hy (fun u hu hf' => hC m u hu hf' (by omega)) hI hpp w1 (fun j j1 j2 j3 _ => wi j j1 j3) (fun k k1' k2' => by rw [wa]; exact qa k (by omega) (by omega) (by omega)) w2 ksv2 g0 (w4.1.trans B19) ((wi 52 (by decide) (by decide)).trans (w4.2.2.1.trans B52)) (w4.2.2.2.trans B56) (by omega) (by omega) snW ra2 ?_ (by omega) (by omega) (fun k hk => ?_) (fun q => ?_)
    · unfold RATE at w5 rAv
      omega
    · rcases hk with q | q | q
      · have := ns k (Or.inl q); omega
      · have := ns k (Or.inr q); omega
      · have q : k = (cdI v).toNat := q
        omega
    · have hpp' : PPR γ0 Lc Lb (v2.a 66 t) x (fun k => k = (cdI v).toNat) v2 (W.setI 75 y) := hpp.i (TBL.i75 W y).tbs
      refine TS.while (jt := z = 1) (xc' := v2.a 66 t) hI kA cA A21 A38 A52 (by omega) (fun _ => te (z2 q)) (fun hj => ?_) k1 i1 d1 f1 gv1 kB cB B21 B21' B38 B52 (by omega) g0 gB B44 B47 bB (w9 q) w3 w1 w4 w7 hpp' cW (by rw [e66]; exact B66) ?_ ?_ ?_ ?_ (by rw [e66]; exact B66) hww (fun hj => ?_) (fun hq => h2 hq) ?_ (wi 18 (by decide) (by decide)) (fun k k1' k2' j _ => ?_)
      · rcases hz with r | r
        · rw [r] at hj; exact absurd hj (by decide)
        · exact r.2
      · show x.toInt = cdI W; omega
      · show W.a 22 (cdI v).toNat = x; rw [wa]; exact qk1
      · show W.a 21 (cdI v2).toNat = 15; rw [wa]; exact q15
      · show W.a 22 (cdI v2).toNat = v2.a 66 t; rw [wa]; exact qfp
      · show y = 1
        rcases hz with r | r
        · exact h1 r
        · exact absurd r.1 hj
      · show seI v ≤ seI W; omega
      · show W.a k j = v2.a k j
        rw [wa, qa k (by omega) (by omega) (by omega)]
  by_cases cz : z = 0
  · rw [if_pos cz]
    exact fin 1 (Or.inr rfl) (fun _ => rfl) (fun _ => rfl)
  · rw [if_neg cz]
    by_cases c50 : v2.a 50 γ0 = 0
    · rw [if_pos c50]
      exact fin 0 (Or.inl rfl) (fun q => absurd q cz) (fun q => by rw [c50] at q; exact absurd q (by decide))
    · rw [if_neg c50]
      exact fin 1 (Or.inr rfl) (fun _ => rfl) (fun _ => rfl)
