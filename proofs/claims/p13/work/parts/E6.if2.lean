section
/-! reading: if: its frame -/
theorem LXI.sA {u : RS} (h : LXI u) (k t : Nat) (v : Int32) : LXI (u.setA k t v) := h
theorem tp_sA {u : RS} (k t : Nat) (v : Int32) : tpI (u.setA k t v) = tpI u := rfl
theorem tp_em {u : RS} (o x : Int32) : tpI (EM u o x) = tpI u := rfl
theorem INV.hole {u : RS} {k : Nat} {x : Int32} (h : INV u) (ho : ¬ u.a 21 k = 36) : INV (u.setA 22 k x) := ⟨h.1, RB.of rfl rfl rfl rfl rfl h.2.1, h.2.2.1, h.2.2.2.1.hole ho, h.2.2.2.2⟩
theorem INV.em {u : RS} {o x : Int32} (h : INV u) (hc : cdI u + 1 ≤ 3 * fr u) : INV (EM u o x) := by
  have c := h.cd
  have e := EM.cd (o := o) (x := x) c.1 c.2.2
  obtain ⟨b1, b2, b3, b4, b5, b6, b7, b8, b9, b10, b11, b12⟩ := h.2.2.2.2
  exact ⟨LXI.em h.1, RB.of rfl rfl rfl rfl rfl h.2.1, h.2.2.1, h.2.2.2.1.em c.1 c.2.2, b1, ⟨by omega, by rw [e]; exact hc⟩, b3, b4, b5, b6, b7, b8, b9, b10, b11, b12⟩
theorem PRS.prl {s : RS} (h : PRS s) (hT : ¬ (s.i 10 = 2 ∨ s.i 10 = 415 ∨ s.i 10 = 416 ∨ s.i 10 = 417)) : PRL s := ⟨h.1, fun γ a1 => hT (h.2 γ a1)⟩
theorem PRL.prs {s : RS} (h : PRL s) : PRS s := ⟨h.1, h.2.p3⟩
theorem OPC {N b n : Nat} {K st : Int32} {r q e : Int} (hN : 1000 ≤ N) (hr : 1 ≤ b → RUNE N K r q e (b - 1)) {s R : RS} {t : Nat} {P : RS → Prop} (h9 : t < 998) (hR : MM t s R) (hb : 2 * ((t : Int) + 1) ≤ fr R + 1 + 12 * (op R + 1) + 2 * r) (hc : 900 - fr s ≤ b) (hn : 36000 + q ≤ (n : Int) + 40 * (fr R + 1)) (n1 : 1 ≤ n) (hF : ∀ u, FS' s u → P u) (hC : ∀ (m : Nat) (A v : RS), INV A → tpI A = t → KP t R A → TBL R A → A.i 19 = R.i 19 + 1 → op A = op R + 1 → A.i 52 = R.i 52 → fr R + 1 ≤ fr A → tkI A = tkI R + 1 → A.a = R.a → A.i 10 = A.i 10 → PC t st A v → (n : Int) + 40 * fr A + e ≤ m + 40 * fr v → ok (f_X12_parse_10 N m v) P) : ok (((f_X12_open N R 40).bind fun p5 => (f_X12_then N p5.2 st K).bind fun p7 => some p7).bind fun p => f_X12_parse_10 N n p) P := by
  obtain ⟨a1, a2, a3, a4, a5, a6, a7, a8⟩ := hR
  have hf := a1.1.f0
  obtain ⟨p, ep, hp⟩ := OPO (t := t) hN a1 40 (by decide)
  rw [ep]
  show ok (((f_X12_then N p.2 st K).bind fun p => some p).bind fun p => f_X12_parse_10 N n p) P
  rcases hp with ⟨p1, p2, p3⟩ | ⟨p1, p2, p3, r1, r2, r3, r4, r5, r6, r7, r8, r9, r10, r11⟩
  · rw [p_th st K (p2.tp.trans a2) (by omega)]
    exact lp_f (u := TH p.2 t st K) p1 (hF _ (FS'.th (FS'.of a3.1.1 p2 p1 a1.r))) n1
  · rw [p_th st K (r2.trans a2) (by omega)]
    show ok (f_X12_parse_10 N n (TH p.2 t st K)) P
    have rf := r1.1.f0
    exact CALL (hr (by omega)) r1 (r2.trans a2) (by omega) (by omega) (by omega) (by omega) (fun u hu => hF u (FS'.kp (a3.tr r3 (Nat.le_refl _)) hu)) (fun m v hv hm => hC m p.2 v r1 (r2.trans a2) r3 r4 r5 r6 r7 r8 r9 r10 rfl hv hm)
theorem IF3 {N : Nat} {n : Nat} {s q : RS} {t : Nat} {P : RS → Prop} {x : Int32} (h9 : t < 998) (hx : x = 0 ∨ x = 1) (hC : ∀ (u : RS), PS t s u → fr q ≤ fr u → ok (f_X12_parse_10 N n u) P) (a1 : INV q) (a2 : tpI q = t) (a3 : KP t s q) (a4 : SAME s q) (a5 : SNW s q) (a6 : RATE s q) (a7 : fr s ≤ fr q) (a8 : tkI s ≤ tkI q) (a9 : ¬ 0 ≤ q.i 18 → TS s (q.setI 75 x)) : ok (((f_X12_over N q x).bind fun p => some p).bind fun p => f_X12_parse_10 N n p) P := by
  rw [e_over hx]
  exact hC _ (PSM (by omega) hx a1 a2 a3 a4 a5 a6 a7 a8 a9) (Int.le_refl _)
theorem k_nat {x : Int32} {k : Nat} (h : x.toInt = k) : x.toNatClampNeg = k := by
  show x.toInt.toNat = k
  rw [h]; exact Int.toNat_natCast _
/-- the else part, and the end -/
theorem IF2 {N b : Nat} (hN : 1000 ≤ N) (hs : 1 ≤ b → RUNS N (b - 1)) {m : Nat} {s A v1 B2 v2 : RS} {t : Nat} {P : RS → Prop} (hI : INV s) (h9 : t < 998) (hb : 2 * (t : Int) ≤ fr s + 12 * op s + 2) (hc : 900 - fr s ≤ b) (hF : ∀ u, FS' s u → P u) (hp : PRL s) (kA : KP t s A) (cA : cdI A = cdI s + 1) (A21 : A.a 21 (cdI s).toNat = 1) (A38 : A.i 38 = s.i 38) (A52 : A.i 52 = s.i 52) (fA : fr s + 1 ≤ fr A) (te : ¬ 0 ≤ v1.i 18 → TE A v1) (k1 : KP t A v1) (i1 : INV v1) (d1 : v1.i 52 = s.i 52) (f1 : fr A + 1 ≤ fr v1) (kB : KP t v1 B2) (cB : cdI B2 = cdI v1 + 1) (B21 : B2.a 21 (cdI v1).toNat = 13) (B38 : B2.i 38 = s.i 38) (sB : SAME s B2) (fB : fr v1 + 1 ≤ fr B2) (gB : goI v1 = goI s) (B64 : B2.a 64 t = 9) (B66 : (B2.a 66 t).toInt = cdI v1) (rB : RATE s B2) (nB : SNW s B2) (hv : PCS t 2 B2 v2) (tkB : tkI s ≤ tkI B2) (hn : 36000 + 31 ≤ (m : Int) + 1 + 40 * fr v2) (hC : ∀ (m' : Nat) (u : RS), PS t s u → fr v2 ≤ fr u → (m : Int) + 40 * fr v2 ≤ m' + 40 * fr u → ok (f_X12_parse_10 N m' u) P) : ok (f_X12_parse_10 N (m + 1) v2) P := by
  have hv' := hv
  obtain ⟨v1', v2', v3', v4', v5', v6', v7', v8', v9', v10', v11'⟩ := hv'
  have fv := v1'.1.f0
  have cv1 := i1.cd
  have cv2 := v1'.cd
  have cs := hI.cd
  have le1 := k1.2.1.1
  have le2 := v3'.2.1.1
  have ek1 : ((cdI v1).toNat : Int) = cdI v1 := Int.toNat_of_nonneg cv1.1
  have ek2 : ((cdI v2).toNat : Int) = cdI v2 := Int.toNat_of_nonneg cv2.1
  obtain ⟨ksB, ssB, snB, raB⟩ := MM.pcs hv ((kA.tr k1 (Nat.le_refl _)).tr kB (Nat.le_refl _)) sB nB rB
  have e66 : v2.a 66 t = B2.a 66 t := v11' 66 (by omega) (by omega) (by omega)
  have k66 : (v2.a 66 t).toInt = (cdI v1).toNat := by rw [e66, B66, ek1]
  have n66 := k_nat k66
  have ib66 : ib (v2.a 66 t) 3000 := ⟨by omega, by omega⟩
  have e21 : v2.a 21 (cdI v1).toNat = 13 := by rw [v3'.2.1.2.1 _ (by omega)]; exact B21
  have no : ¬ v2.a 21 (cdI v1).toNat = 36 := by rw [e21]; decide
  have z21 : ¬ 0 ≤ v2.i 18 → ¬ 0 ≤ v1.i 18 := fun z q => z (v3'.1.2 (kB.1.2 q))
  have kVB : KP t s B2 := (kA.tr k1 (Nat.le_refl _)).tr kB (Nat.le_refl _)
  have sV := v6'
  refine lp_9 v2' (by omega) v1'.2.2.1 ((v11' 64 (by omega) (by omega) (by omega)).trans B64) ?_
  unfold f_X12_branch
  rw [if_pos (tp_ib v2' (by omega)), tp_nat v2', if_neg (by rw [v10']; decide), if_neg (by rw [v10']; decide), if_pos v10']
  by_cases c : v2.i 10 = 414
  case neg =>
    rw [if_neg c, if_pos ib66, n66]
    refine IF3 (q := v2.setA 22 (cdI v1).toNat (v2.i 20)) h9 (Or.inr rfl) (fun u hu hfu => hC m u hu hfu (by have hfu : fr v2 ≤ fr u := hfu; omega)) (v1'.hole no) v2' (ksB.hole (by omega) no) ssB snB raB (by show fr s ≤ fr v2; omega) (by show tkI s ≤ tkI v2; omega) (fun z => ?_)
    have z1 : ¬ 0 ≤ v2.i 18 := z
    exact TS.if1 hI kA cA A21 A38 A52 (by omega) (te (z21 z1)) k1 i1 d1 f1 kB cB B21 B38 sB (by omega) gB (v9' z1) v3' v1' v4' v7' rfl (TBL.i75 _ 1).tbs rfl
  rw [if_pos c]
  obtain ⟨D, eD, x1, x2, x3, x4, x5, x6, x7⟩ := NX hN v1' (by rw [c]; decide)
  have x7 := x7 (Or.inl (by rw [c]; decide))
  rw [eD]
  have d75 : D.i 75 = v2.i 75 := x1.2.2.1 75 (by omega) (by omega)
  have r01 := v1'.r
  have e67 : ((if (D.i 75) = 0 then f_X12_branch_113 N (RS.setA D 67 t 0) (v2.i 63) else f_X12_branch_113 N (RS.setA D 67 t 1) (v2.i 63)) : Option RS) = f_X12_branch_113 N (RS.setA D 67 t (v2.i 75)) (v2.i 63) := by
    rcases r01 with r | r
    · rw [if_pos (d75.trans r), r]
    · rw [if_neg (by rw [d75, r]; decide), r]
  show ok (((if (D.i 75) = 0 then f_X12_branch_113 N (RS.setA D 67 t 0) (v2.i 63) else f_X12_branch_113 N (RS.setA D 67 t 1) (v2.i 63)) : Option RS).bind fun p => f_X12_parse_10 N m p) P
  rw [e67]
  have ei : v2.i 63 = D.i 63 := x1.i63.symm
  have tD : tpI D = t := x1.tp.trans v2'
  have cDv : cdI D = cdI v2 := x1.tbl.cd
  have aD : D.a = v2.a := x1.1
  obtain ⟨D1, hD1⟩ : ∃ D1, D1 = D.setA 67 t (v2.i 75) := ⟨_, rfl⟩
  have iD1 : INV D1 := by rw [hD1]; exact x4.loc t _ (by omega) (by omega)
  have kD1 : KP t v2 D1 := by rw [hD1]; exact ((KP.rf t v2).lx x1).loc t _ (by omega) (by omega) (Nat.le_refl _)
  have tD1 : TBL v2 D1 := by rw [hD1]; exact x1.tbl.tr (TBL.loc _ t _ (by omega) (by omega))
  have a67 : D1.a 67 t = v2.i 75 := by rw [hD1]; exact setA_at
  have an67 : ∀ k : Nat, k ≠ 67 → D1.a k = v2.a k := fun k hk => by rw [hD1, setA_nk hk, aD]
  have i63 : D1.i 63 = v2.i 63 := by rw [hD1]; exact x1.i63
  have sD1 : SAME v2 D1 := by rw [hD1]; exact x1.same x3
  have fD1 : fr D1 = fr D := by rw [hD1]; rfl
  have tkD1 : tkI D1 = tkI D := by rw [hD1]; rfl
  have d18 : D1.i 18 = v2.i 18 := by rw [hD1]; exact x1.2.2.1 18 (by omega) (by omega)
  have d381 : D1.i 38 = v2.i 38 := by rw [hD1]; exact x1.i38
  rw [← hD1]
  clear hD1
  unfold f_X12_branch_113
  have cD1 := iD1.cd
  have ecd1 : cdI D1 = cdI v2 := tD1.cd
  rw [p_em 15 0 cD1.1 cD1.2.2, tp_nat v2']
  show ok ((if ib (v2.i 63) 1000 then (if ib ((EM D1 15 0).a 66 t) 3000 then (f_X12_body N (RS.setA (RS.setA (EM D1 15 0) 68 t (D1.i 20)) 22 ((((EM D1 15 0).a 66 t) : Int32).toNatClampNeg) ((EM D1 15 0).i 20)) 3).bind fun p28 => some p28 else none) else none : Option RS).bind fun p => f_X12_parse_10 N m p) P
  have em66 : (EM D1 15 0).a 66 t = v2.a 66 t := by rw [EM.a (by decide) (by decide) (by decide), an67 66 (by decide)]
  rw [em66, if_pos (tp_ib v2' (by omega)), if_pos ib66, n66]
  have raD1 : RATE s D1 := raB.tr (tD1.rate (by omega) (by omega))
  obtain ⟨D2, hD2⟩ : ∃ D2, D2 = (EM D1 15 0).setA 68 t (D1.i 20) := ⟨_, rfl⟩
  have iE : INV (EM D1 15 0) := iD1.em (by have := hI.2.2.2.2.2.1; unfold RATE at raB; omega)
  have iD2 : INV D2 := by rw [hD2]; exact iE.loc t _ (by omega) (by omega)
  have kD2 : KP t D1 D2 := by rw [hD2]; exact ((KP.rf t D1).em cD1.1 cD1.2.2).loc t _ (by omega) (by omega) (Nat.le_refl _)
  have cD2 : cdI D2 = cdI v2 + 1 := by rw [hD2]; exact (EM.cd (u := D1) (o := 15) (x := 0) cD1.1 cD1.2.2).trans (by rw [ecd1])
  have D2a : ∀ k : Nat, k ≠ 21 → k ≠ 22 → k ≠ 23 → k ≠ 68 → D2.a k = D1.a k := fun k h1 h2 h3 h4 => by rw [hD2, setA_nk h4, EM.a h1 h2 h3]
  have D2i : ∀ j : Nat, j ≠ 20 → D2.i j = D1.i j := fun j hj => by rw [hD2]; exact EM.i hj
  have D221 : D2.a 21 (cdI v2).toNat = 15 := by rw [hD2, setA_nk (by decide), EM.a21, if_pos (by rw [ecd1])]
  have D268 : (D2.a 68 t).toInt = cdI v2 := by rw [hD2, setA_at]; exact ecd1
  have e20 : (EM D1 15 0).i 20 = D2.i 20 := by rw [hD2]; rfl
  rw [← hD2, e20]
  clear hD2
  have raD2 : RATE s D2 := by
    have e2 : enI D2 = enI D1 := by unfold enI; rw [D2i 24 (by decide)]
    have e3 : trI D2 = trI D1 := by unfold trI; rw [D2i 29 (by decide)]
    have e4 : caI D2 = caI D1 := by unfold caI; rw [D2i 33 (by decide)]
    have e5 : slI D2 = slI D1 := by unfold slI; rw [D2i 42 (by decide)]
    have e6 : peI D2 = peI D1 := by unfold peI; rw [D2i 59 (by decide)]
    have e7 : fr D2 = fr D1 := by unfold fr; rw [D2i 11 (by decide)]
    have e8 : tkI D2 = tkI D1 := by unfold tkI; rw [D2i 17 (by decide)]
    unfold RATE at raD1 raB ⊢
    rw [cD2, e2, e3, e4, e5, e6, e7, e8]
    omega
  have fD2 : fr D2 = fr D := by have : fr D2 = fr D1 := by { unfold fr; rw [D2i 11 (by decide)] }; omega
  have tkD2 : tkI D2 = tkI D := by have : tkI D2 = tkI D1 := by { unfold tkI; rw [D2i 17 (by decide)] }; omega
  have sD2 : SAME v2 D2 := sD1.tr ⟨D2i 19 (by decide), D2i 43 (by decide), D2i 52 (by decide), D2i 56 (by decide)⟩
  have kvD2 : KP t v2 D2 := kD1.tr kD2 (Nat.le_refl _)
  have eD21 : D2.a 21 (cdI v1).toNat = 13 := by rw [kvD2.2.1.2.1 _ (by omega)]; exact e21
  have no1 : ¬ D2.a 21 (cdI v1).toNat = 36 := by rw [eD21]; decide
  obtain ⟨D3, hD3⟩ : ∃ D3, D3 = D2.setA 22 (cdI v1).toNat (D2.i 20) := ⟨_, rfl⟩
  have iD3 : INV D3 := by rw [hD3]; exact iD2.hole no1
  have kD3 : KP t s D3 := by rw [hD3]; exact (ksB.tr kvD2 (Nat.le_refl _)).hole (by omega) no1
  have i3 : D3.i = D2.i := by rw [hD3]; rfl
  have a3 : ∀ k : Nat, k ≠ 22 → D3.a k = D2.a k := fun k hk => by rw [hD3]; exact setA_nk hk
  have tb3 : TBS (D2.setA 22 (cdI v1).toNat (D2.i 20)) D3 := by rw [hD3]; exact (TBL.rf _).tbs
  have ra3 : RATE s D3 := by rw [hD3]; exact raD2
  rw [← hD3]
  clear hD3
  have t3 : tpI D3 = t := by unfold tpI; rw [i3, D2i 63 (by decide), i63]; exact v2'
  have s23 : SAME D2 D3 := ⟨by rw [i3], by rw [i3], by rw [i3], by rw [i3]⟩
  have s3 : SAME s D3 := (ssB.tr sD2).tr s23
  have f3 : fr D3 = fr D := by have : fr D3 = fr D2 := by { unfold fr; rw [i3] }; omega
  have tk3 : tkI D3 = tkI D := by have : tkI D3 = tkI D2 := by { unfold tkI; rw [i3] }; omega
  have ed40 : bel 40 (seI v2) v2 D3 ∧ bel 41 (seI v2) v2 D3 := ⟨fun j _ => by rw [a3 40 (by decide), D2a 40 (by decide) (by decide) (by decide) (by decide), an67 40 (by decide)], fun j _ => by rw [a3 41 (by decide), D2a 41 (by decide) (by decide) (by decide) (by decide), an67 41 (by decide)]⟩
  have e38D : D3.i 38 = v2.i 38 := by rw [i3, D2i 38 (by decide), d381]
  have sn3 : SNW s D3 := by
    have e1 : seI D3 = seI v2 := by unfold seI; rw [e38D]
    have e2 : slI D3 = slI v2 := by
      have : slI D3 = slI D1 := by unfold slI; rw [i3, D2i 42 (by decide)]
      rw [this]; exact tD1.sl
    refine ⟨by have := snB.1; omega, fun y y1 y2 => ?_⟩
    have := snB.2 y y1 (by omega)
    unfold gv at this ⊢
    rw [ed40.1 y (by omega)]
    exact this
  rcases BODY (N := N) (u := D3) 3 iD3.1 t3 h9 with ⟨S, eS, y1, y2⟩ | ⟨eS, y1⟩
  · rw [eS]
    exact lp_f y2 (hF S (FS'.of kD3.1.1 y1 y2 iD3.r)) (by omega)
  rw [eS]
  show ok (f_X12_parse_10 N m (TH D3 t 3 2)) P
  have o3 : op D3 = op s := s3.eOp
  have fD := x4.1.f0
  refine CALLS (hs (by omega)) iD3 (hp.kp kD3 s3.go).prs t3 (by omega) (by omega) (by omega) (by omega) (fun u hu => hF u (FS'.kp kD3 hu)) (fun m2 v3 hv3 hf3 hm2 => ?_)
  have hv3' := hv3
  obtain ⟨w1, w2, w3, w4, w5, w6, w7, w8, w9, w10, w11⟩ := hv3'
  obtain ⟨ks3, ss3, sns3, ras3⟩ := MM.pcs hv3 kD3 s3 sn3 ra3
  have fw := w1.1.f0
  obtain ⟨m3, rfl⟩ : ∃ m3, m2 = m3 + 1 := ⟨m2 - 1, by omega⟩
  have push3 : ((m3 + 1 : Nat) : Int) = (m3 : Int) + 1 := by omega
  rw [push3] at hm2
  have D64 : D3.a 64 t = 9 := by rw [a3 64 (by decide), D2a 64 (by decide) (by decide) (by decide) (by decide), an67 64 (by decide), v11' 64 (by omega) (by omega) (by omega)]; exact B64
  refine lp_9 w2 (by omega) w1.2.2.1 ((w11 64 (by omega) (by omega) (by omega)).trans D64) ?_
  unfold f_X12_branch
  have e68 : v3.a 68 t = D2.a 68 t := by rw [w11 68 (by omega) (by omega) (by omega), a3 68 (by decide)]
  have k68 : (v3.a 68 t).toInt = (cdI v2).toNat := by rw [e68, D268, ek2]
  have n68 := k_nat k68
  have ib68 : ib (v3.a 68 t) 3000 := ⟨by omega, by omega⟩
  have e67v : v3.a 67 t = v2.i 75 := by rw [w11 67 (by omega) (by omega) (by omega), a3 67 (by decide), D2a 67 (by decide) (by decide) (by decide) (by decide)]; exact a67
  rw [if_pos (tp_ib w2 (by omega)), tp_nat w2, if_neg (by rw [w10]; decide), if_neg (by rw [w10]; decide), if_neg (by rw [w10]; decide), if_pos ib68, n68, e67v]
  have cD3 : cdI D3 = cdI v2 + 1 := by have : cdI D3 = cdI D2 := by { unfold cdI; rw [i3] }; omega
  have lev3 := w3.2.1.1
  have e3b : v3.a 21 (cdI v2).toNat = 15 := by
    rw [w3.2.1.2.1 _ (by omega), a3 21 (by decide)]; exact D221
  have no2 : ¬ v3.a 21 (cdI v2).toNat = 36 := by rw [e3b]; decide
  have z32 : ¬ 0 ≤ v3.i 18 → ¬ 0 ≤ v2.i 18 := fun z q => z (w3.1.2 (by rw [i3, D2i 18 (by decide), d18]; exact q))
  have fin : ∀ x : Int32, (x = 0 ∨ x = 1) → (v2.i 75 = 1 → x = 1) → (v3.i 75 = 1 → x = 1) → ok (((f_X12_over N (v3.setA 22 (cdI v2).toNat (v3.i 20)) x).bind fun p => some p).bind fun p => f_X12_parse_10 N m3 p) P := by
    intro x hx h1 h2
    refine IF3 (q := v3.setA 22 (cdI v2).toNat (v3.i 20)) h9 hx (fun u hu hfu => hC m3 u hu (by have hfu : fr v3 ≤ fr u := hfu; omega) (by have hfu : fr v3 ≤ fr u := hfu; omega)) (w1.hole no2) w2 (ks3.hole (by omega) no2) ss3 sns3 ras3 (by show fr s ≤ fr v3; omega) (by show tkI s ≤ tkI v3; omega) (fun z => ?_)
    have z1 : ¬ 0 ≤ v3.i 18 := z
    exact TS.if2 hI kA cA A21 A38 A52 (by omega) (te (z21 (z32 z1))) k1 i1 d1 f1 kB cB B21 B38 sB (by omega) gB (v9' (z32 z1)) v3' v1' v4' snB v7' kvD2 cD2 D221 sD2 iD2.tn (by omega) (by rw [D2i 38 (by decide), d381]) (by rw [D2a 40 (by decide) (by decide) (by decide) (by decide), an67 40 (by decide)]) (by rw [D2a 41 (by decide) (by decide) (by decide) (by decide), an67 41 (by decide)]) rfl tb3 (by rw [i3]) (by omega) s23 (w9 z1) w3 w1 w4 w7 rfl (TBL.i75 _ x).tbs h1 h2 kD3 ed40
  rcases w1.r with r | r
  · rw [if_pos r]
    by_cases c1 : v2.i 75 = 1
    · rw [if_pos c1]
      exact fin 1 (Or.inr rfl) (fun _ => rfl) (fun _ => rfl)
    · rw [if_neg c1]
      exact fin 0 (Or.inl rfl) (fun q => absurd q c1) (fun q => by rw [r] at q; exact absurd q (by decide))
  · rw [if_neg (by rw [r]; decide)]
    exact fin 1 (Or.inr rfl) (fun _ => rfl) (fun _ => rfl)
theorem run_if {N b : Nat} (hN : 1000 ≤ N) (hc' : 1 ≤ b → RUNE N 20 1 20 15 (b - 1)) (hs : 1 ≤ b → RUNS N (b - 1)) : RUNU N b 9 (fun x => x = 413) := by
  intro n s u t P hI hp ht hu tu u15 hT hz h9 hb hc hn n1 hF hC
  have hf := hI.1.f0
  have cs := hI.cd
  have hpl : PRL s := hp.prl (by rw [hT]; decide)
  refine lp_9 tu (by omega) u15 hu.2.2.2.2.2.2.1 ?_
  unfold f_X12_branch
  rw [if_pos (tp_ib tu (by omega)), tp_nat tu, if_pos hu.2.2.2.2.2.2.2.1]
  obtain ⟨R, eR, hR, xR⟩ := STA hN hI ht hz hu
  have mR := hR.mm
  obtain ⟨r1, r2, r3, r4, r5, r6, r7, r8, r9, r10, r11, r12, r13, r14⟩ := hR
  have r13 := r13 (by rw [hT]; decide)
  rw [eR]
  have oR : op R = op s := r4.eOp
  refine OPC hN hc' h9 mR (by omega) hc (by omega) n1 hF (fun m A v a1 a2 a3 a4 a5 a6 a7 a8 a9 a10 _ hv hm => ?_)
  have hv' := hv
  obtain ⟨v1, v2, v3, v4, v5, v6, v7, v8, v9, v10, v11, v12⟩ := hv'
  have fv := v1.1.f0
  have cv := v1.cd
  obtain ⟨m3, rfl⟩ : ∃ m3, m = m3 + 1 := ⟨m - 1, by omega⟩
  have push3 : ((m3 + 1 : Nat) : Int) = (m3 : Int) + 1 := by omega
  rw [push3] at hm
  refine lp_9 v2 (by omega) v1.2.2.1 (by rw [v12 64 (by omega) (by omega) (by omega), a10]; exact r11) ?_
  unfold f_X12_branch
  rw [if_pos (tp_ib v2 (by omega)), tp_nat v2, if_neg (by rw [v11]; decide), if_pos v11]
  obtain ⟨w, ew, x1, x2⟩ := SHO hN v1 41 (by decide)
  rw [ew]
  have ksA : KP t s A := r3.tr a3 (Nat.le_refl _)
  have ksv : KP t s v := ksA.tr v3 (Nat.le_refl _)
  have ecw : cdI w.2 = cdI v := x1.tbl.cd
  show ok (((f_X12_emit N w.2 13 0).bind fun p12 => (f_X12_body N (RS.setA p12.2 66 t p12.1) 2).bind fun p14 => some p14).bind fun p => f_X12_parse_10 N m3 p) P
  rw [p_em 13 0 (by omega) (by omega)]
  show ok (((f_X12_body N ((EM w.2 13 0).setA 66 t (w.2.i 20)) 2).bind fun p14 => some p14).bind fun p => f_X12_parse_10 N m3 p) P
  have tw : tpI w.2 = t := x1.tp.trans v2
  obtain ⟨B2, hB2⟩ : ∃ B2, B2 = (EM w.2 13 0).setA 66 t (w.2.i 20) := ⟨_, rfl⟩
  have lB : LXI B2 := by rw [hB2]; exact LXI.sA (LXI.em (o := 13) (x := 0) x1.2.2.2.1) 66 t (w.2.i 20)
  have tB : tpI B2 = t := by rw [hB2, tp_sA, tp_em]; exact tw
  have kvB : KP t v B2 := by rw [hB2]; exact (((KP.rf t v).lx x1).em cv.1 (by omega)).loc t _ (by omega) (by omega) (Nat.le_refl _)
  have r75 : B2.i 75 = v.i 75 := by rw [hB2]; exact x1.2.2.1 75 (by omega) (by omega)
  have i15 : B2.i 15 = w.2.i 15 := by rw [hB2]; rfl
  have cB : cdI B2 = cdI v + 1 := by rw [hB2]; exact (EM.cd (u := w.2) (o := 13) (x := 0) (by omega) (by omega)).trans (by rw [ecw])
  have B21 : B2.a 21 (cdI v).toNat = 13 := by rw [hB2, setA_nk (by decide), EM.a21, if_pos (by rw [ecw])]
  have B66 : (B2.a 66 t).toInt = cdI v := by rw [hB2, setA_at]; exact ecw
  have B64 : B2.a 64 t = 9 := by rw [hB2, setA_nk (by decide), EM.a (by decide) (by decide) (by decide), x1.1, v12 64 (by omega) (by omega) (by omega), a10]; exact r11
  rw [← hB2]
  rcases BODY (N := N) (u := B2) 2 lB tB h9 with ⟨S, eS, y1, y2⟩ | ⟨eS, y1⟩
  · rw [eS]
    exact lp_f y2 (hF S (FS'.of (ksv.tr kvB (Nat.le_refl _)).1.1 y1 y2 (by rw [r75]; exact v1.r))) (by omega)
  rw [eS]
  rcases x2 with x2 | ⟨x2, x3, x4, x5, x6⟩
  · exact absurd (i15.symm.trans y1) x2
  show ok (f_X12_parse_10 N m3 (TH B2 t 2 2)) P
  have mB : MM t s w.2 := MM.clo hI mR a3 a4 a5 a7 a8 a9 hv x1 x2 x4 x5 x6
  have mB2 : MM t s B2 := by
    rw [hB2]
    have raw := mB.2.2.2.2.2.1
    exact (mB.em hI (by unfold RATE at v6 r6; have := a4.cd; omega)).loc _ (by omega) (by omega)
  have fB : fr B2 = fr w.2 := by rw [hB2]; rfl
  clear hB2
  have fB9 := mB2.1.1.f0
  have oB : op B2 = op s := mB2.2.2.2.1.eOp
  refine CALLS (hs (by omega)) mB2.1 (hpl.kp mB2.2.2.1 mB2.2.2.2.1.go).prs tB (by omega) (by omega) (by omega) (by omega) (fun u hu => hF u (FS'.kp mB2.2.2.1 hu)) (fun m4 v' hv2 hf2 hm4 => ?_)
  have fv' := hv2.1.1.f0
  obtain ⟨m5, rfl⟩ : ∃ m5, m4 = m5 + 1 := ⟨m4 - 1, by omega⟩
  have push5 : ((m5 + 1 : Nat) : Int) = (m5 : Int) + 1 := by omega
  rw [push5] at hm4
  have A21 : A.a 21 (cdI s).toNat = 1 := by rw [a10]; exact r10
  have A38 : A.i 38 = s.i 38 := (a4.2.2 38 (by omega) (by omega) (by omega) (by omega)).trans r5
  have cA : cdI A = cdI s + 1 := a4.cd.trans r9
  have vgo : goI v = goI s := by
    have e1 : goI v = goI A := v4.go
    have e2 := a4.go
    have e3 := r4.go
    omega
  exact IF2 hN hs hI h9 hb hc hF hpl ksA cA A21 A38 (a7.trans r4.2.2.1) (by omega) v9 v3 v1 (v4.2.2.1.trans (a7.trans r4.2.2.1)) v7 kvB cB B21 mB2.2.2.2.2.1 mB2.2.2.2.1 (by omega) vgo B64 B66 mB2.2.2.2.2.2.1 mB2.snw hv2 (by have := mB2.2.2.2.2.2.2.2; omega) (by omega) (fun m' u' hu' hf' hm' => hC m' u' hu' (by omega) (by omega))
end
section
/-! reading: loops: tools -/
theorem TAB.cg {X V : RS} (h : TAB X) (hi : V.i = X.i) (ha : ∀ k : Nat, k ≠ 46 → V.a k = X.a k) : TAB V := by
  obtain ⟨⟨a0, b1, b2, b3, b4⟩, a1, a2, a3, a4, a5, a6, a7, a8, a9⟩ := h
  have eg : ∀ (k i : Nat), k ≠ 46 → gv V k i = gv X k i := fun k i e => by unfold gv; rw [ha k e]
  have e1 : cdI V = cdI X := by unfold cdI; rw [hi]
  have e2 : enI V = enI X := by unfold enI; rw [hi]
  have e3 : trI V = trI X := by unfold trI; rw [hi]
  have e4 : caI V = caI X := by unfold caI; rw [hi]
  have e5 : seI V = seI X := by unfold seI; rw [hi]
  have e6 : slI V = slI X := by unfold slI; rw [hi]
  have e7 : goI V = goI X := by unfold goI; rw [hi]
  have e8 : deI V = deI X := by unfold deI; rw [hi]
  have e9 : waI V = waI X := by unfold waI; rw [hi]
  have e10 : peI V = peI X := by unfold peI; rw [hi]
  have eh : ∀ (b : Bool) (γ : Nat), hd V b γ = hd X b γ := fun b γ => eg _ _ (by rcases bk_cases b with e | e <;> rw [e] <;> decide)
  have is : ∀ (y : Int) (L : List Nat), ISCH X y L → ISCH V y L := fun y L hI => hI.of (fun x _ => ⟨by rw [ha 21 (by decide)], by rw [ha 22 (by decide)]⟩)
  refine ⟨⟨fun γ b hγ => ?_, DJ.of a0 b1 (by omega) (fun γ b L _ h1 _ => by rw [eh]; exact is _ _ h1), fun p hp => ?_, fun w w' q1 q2 => ?_, fun p w q1 q2 q3 => ?_⟩, fun j hj => ?_, fun j hj => ?_, fun j hj => ?_, fun x hx => ?_, fun j hj => ?_, fun g hg => ?_, fun k hk => ?_, fun k hk => ?_, ?_⟩
  · obtain ⟨L, l1, l2⟩ := a0 γ b (by omega)
    exact ⟨L, by rw [eh]; exact is _ _ l1, fun x hx => by have := l2 x hx; omega⟩
  · rw [e10] at hp; rw [e3, eg 62 p (by decide)]; exact b2 p hp
  · rw [e9] at q2; rw [eg 57 _ (by decide), eg 57 _ (by decide)]; exact b3 w w' q1 q2
  · rw [e10] at q1; rw [e9] at q2; rw [eg 62 _ (by decide), eg 57 _ (by decide)] at q3; rw [eg 60 _ (by decide), eg 58 _ (by decide)]; exact b4 p w q1 q2 q3
  · rw [e2] at hj ⊢; rw [eg 27 _ (by decide)]; exact a1 j hj
  · rw [e4] at hj ⊢; rw [eg 37 _ (by decide)]; exact a2 j hj
  · rw [e3] at hj; rw [e4, eg 30 _ (by decide)]; exact a3 j hj
  · rw [e5] at hx
    rw [e6, e4, eg 40 _ (by decide), ha 41 (by decide)]
    have := a4 x hx
    refine ⟨this.1, this.2.1, ?_⟩
    rw [← this.2.2]
    constructor
    · rintro ⟨j, j1, j2⟩; exact ⟨j, j1, by rw [← j2, eg 36 _ (by decide)]⟩
    · rintro ⟨j, j1, j2⟩; exact ⟨j, j1, by rw [← j2, eg 36 _ (by decide)]⟩
  · rw [e4] at hj; rw [e6, eg 36 _ (by decide)]; exact a5 j hj
  · rw [e7] at hg; rw [e8, eg 47 _ (by decide)]; exact a6 g hg
  · rw [e10] at hk; rw [eg 60 _ (by decide), ha 61 (by decide)]; exact a7 k hk
  · rw [e9] at hk; rw [e3, e7, eg 57 _ (by decide), eg 58 _ (by decide)]; exact a8 k hk
  · rw [hi]; exact a9
theorem KP.cg {t : Nat} {s X V : RS} (h : KP t s X) (hi : V.i = X.i) (hb : V.b = X.b) (ha : ∀ k : Nat, k ≠ 46 → V.a k = X.a k) (h46 : ∀ γ : Nat, (γ : Int) < goI s → V.a 46 γ = s.a 46 γ ∨ TOPR s γ) : KP t s V := by
  obtain ⟨⟨a1, a1'⟩, a2, a3, a4, a5, a6, a7, a8, a9, a10, a11⟩ := h
  have eb : ∀ (k : Nat) (m : Int), k ≠ 46 → bel k m s V = bel k m s X := fun k m e => by unfold bel; rw [ha k e]
  have e1 : cdI V = cdI X := by unfold cdI; rw [hi]
  have e2 : enI V = enI X := by unfold enI; rw [hi]
  have e3 : trI V = trI X := by unfold trI; rw [hi]
  have e4 : caI V = caI X := by unfold caI; rw [hi]
  have e5 : seI V = seI X := by unfold seI; rw [hi]
  have e6 : slI V = slI X := by unfold slI; rw [hi]
  have e7 : goI V = goI X := by unfold goI; rw [hi]
  have e9 : waI V = waI X := by unfold waI; rw [hi]
  have e10 : peI V = peI X := by unfold peI; rw [hi]
  have eh : ∀ (b : Bool) (γ : Nat), hd V b γ = hd X b γ := fun b γ => by
    unfold hd gv
    rw [ha _ (by rcases bk_cases b with e | e <;> rw [e] <;> decide)]
  refine ⟨⟨⟨fun j hj => by rw [hi]; exact a1.1 j hj, fun k hk => (ha k (by omega)).trans (a1.2.1 k hk), by rw [hb]; exact a1.2.2⟩, fun z => by rw [hi]; exact a1' z⟩, ?_, ?_, ?_, ?_, ?_, ?_, fun γ b L hγ hI hL => ?_, ?_, ?_, fun k k1 k2 => ?_⟩
  · unfold KC; rw [e1, eb _ _ (by decide), eb _ _ (by decide), eb _ _ (by decide)]; exact a2
  · unfold KE; rw [e2, eb _ _ (by decide), eb _ _ (by decide), eb _ _ (by decide), eb _ _ (by decide)]; exact a3
  · unfold KT; rw [e3, eb _ _ (by decide), eb _ _ (by decide), eb _ _ (by decide)]; exact a4
  · unfold KH; unfold gv; rw [e4, eb _ _ (by decide), eb _ _ (by decide), eb _ _ (by decide), eb _ _ (by decide), e6, ha 36 (by decide)]; exact a5
  · unfold KS; rw [e5, e6, eb _ _ (by decide), eb _ _ (by decide)]; exact a6
  · unfold KG; rw [e7, eb _ _ (by decide), eb _ _ (by decide), ha 50 (by decide), ha 51 (by decide)]
    exact ⟨a7.1, a7.2.1, a7.2.2.1, a7.2.2.2.1, a7.2.2.2.2.1, h46⟩
  · obtain ⟨L1, c1, c2⟩ := a8 γ b L hγ hI hL
    refine ⟨L1, ?_, by rw [e1]; exact c2⟩
    rw [eh]
    exact c1.of (fun x _ => ⟨by rw [ha 21 (by decide)], by rw [ha 22 (by decide)]⟩)
  · unfold KW; rw [e9, eb _ _ (by decide), eb _ _ (by decide)]; exact a9
  · unfold KQ; rw [e10, eb _ _ (by decide), eb _ _ (by decide), eb _ _ (by decide)]; exact a10
  · rw [eb k _ (by omega)]; exact a11 k k1 k2
/-- behind a loop's goal -/
def LGF (s U V : RS) (t γ : Nat) : Prop := (γ : Int) = goI U ∧ goI V = goI U + 1 ∧ (∀ j : Nat, j ≠ 43 → V.i j = U.i j) ∧ V.b 9 = U.b 9 ∧ (∀ k : Nat, k < 44 ∨ 51 < k → V.a k = U.a k) ∧ (∀ (k δ : Nat), k ≠ 46 → δ ≠ γ → V.a k δ = U.a k δ) ∧ V.a 44 γ = 0 ∧ V.a 47 γ = U.i 52 ∧ (∀ b : Bool, hd V b γ = -1) ∧ V.a 50 γ = 0 ∧ V.a 51 γ = 0 ∧ KP t s V ∧ TAB V
theorem LGR.f {t : Nat} {s U V : RS} (h : LGR U V) (hk : KP t s U) (ht : TAB U) (h0 : 0 ≤ goI s) (h4 : goI U < 460) (hd0 : 0 ≤ deI U) : LGF s U V t (U.i 43).toNatClampNeg := by
  obtain ⟨h1, h2, h3, h5, h6⟩ := h
  have kg := hk.2.2.2.2.2.2.1
  have u0 : 0 ≤ goI U := by have := kg.1; omega
  have gn := gN u0
  have kX := hk.go (w := 0) (n := 0) h0 h4
  have tX := ht.go (w := 0) (n := 0) u0 h4 hd0
  have eX := GO.eGO (u := U) (w := 0) (n := 0) u0 h4
  have iX : ∀ j : Nat, j ≠ 43 → (GO U 0 0).i j = U.i j := fun j hj => GO.eI hj
  have aX : ∀ k : Nat, (k < 44 ∨ k = 45 ∨ 51 < k) → (GO U 0 0).a k = U.a k := fun k hk' => GO.eA hk'
  have loX : ∀ (k j : Nat), j ≠ (U.i 43).toNatClampNeg → (GO U 0 0).a k j = U.a k j := fun k j hj => GO.lo hj
  have x44 : (GO U 0 0).a 44 (U.i 43).toNatClampNeg = 0 := GO.a44
  have x47 : (GO U 0 0).a 47 (U.i 43).toNatClampNeg = U.i 52 := GO.a47
  have xh : ∀ b : Bool, hd (GO U 0 0) b (U.i 43).toNatClampNeg = -1 := fun b => GO.eHD0
  have x50 : (GO U 0 0).a 50 (U.i 43).toNatClampNeg = 0 := GO.a50
  have x51 : (GO U 0 0).a 51 (U.i 43).toNatClampNeg = 0 := GO.a51
  have bX : (GO U 0 0).b 9 = U.b 9 := rfl
  generalize GO U 0 0 = X at *
  refine ⟨gn, by unfold goI at *; rw [h1]; exact eX, fun j hj => by rw [h1]; exact iX j hj, by rw [h2]; exact bX, fun k hk' => (h3 k (by omega)).trans (aX k (by omega)), fun k δ e1 e2 => by rw [h3 k e1]; exact loX k δ e2, by rw [h3 44 (by decide)]; exact x44, by rw [h3 47 (by decide)]; exact x47, fun b => ?_, by rw [h3 50 (by decide)]; exact x50, by rw [h3 51 (by decide)]; exact x51, kX.cg h1 h2 h3 (fun γ hγ => ?_), tX.cg h1 h3⟩
  · have : hd V b (U.i 43).toNatClampNeg = hd X b (U.i 43).toNatClampNeg := by
      unfold hd gv
      rw [h3 _ (by rcases bk_cases b with e | e <;> rw [e] <;> decide)]
    rw [this]; exact xh b
  · have hγU : (γ : Int) < goI U := by have := kg.1; omega
    rcases h5 γ with q | ⟨q1, q2, q3⟩
    · rw [q, loX 46 γ (by omega)]
      exact kg.2.2.2.2.2 γ hγ
    · refine Or.inr ⟨hγ, fun δ d1 d2 => ?_⟩
      obtain ⟨r1, r2⟩ := q3 δ d1 (by have := kg.1; omega)
      rw [kg.2.1 δ d2] at r1
      refine ⟨r1, ?_⟩
      rcases kg.2.2.2.2.2 δ d2 with r | r
      · rw [r] at r2; exact Or.inr r2
      · exact (r.2 δ (Nat.le_refl _) d2).2
theorem PRS.lgr {s U V : RS} (hp : PRS s) (h : LGR U V) (hg : goI U = goI s) (h44 : bel 44 (goI s) s U) (h46 : bel 46 (goI s) s U) (h0 : 0 ≤ goI U) (h4 : goI U < 460) : PRL V := by
  obtain ⟨h1, h2, h3, h5, h6⟩ := h
  have gn := gN h0
  have gV : goI V = goI U + 1 := by unfold goI; rw [h1]; exact GO.eGO (u := U) (w := 0) (n := 0) h0 h4
  have lo : ∀ (k j : Nat), k ≠ 46 → j ≠ (U.i 43).toNatClampNeg → V.a k j = U.a k j := fun k j e1 e2 => by rw [h3 k e1]; exact GO.lo e2
  have v44 : V.a 44 (U.i 43).toNatClampNeg = 0 := by rw [h3 44 (by decide)]; exact GO.a44
  have accU : ∀ γ : Nat, γ ≠ (U.i 43).toNatClampNeg → ACC V γ → ACC s γ := fun γ e a => by
    have e1 := a.1
    have e44 : V.a 44 γ = s.a 44 γ := by rw [lo 44 γ (by decide) e, h44 γ (by omega)]
    refine ⟨by omega, by rw [← e44]; exact a.2.1, fun δ d1 d2 => ?_⟩
    have := a.2.2 δ d1 (by omega)
    rw [lo 44 δ (by decide) (by omega), h44 δ d2] at this
    exact this
  refine ⟨fun γ a1 a2 a3 => ?_, fun γ a1 => ?_⟩
  · by_cases e : γ = (U.i 43).toNatClampNeg
    · subst e
      rw [v44] at a2
      exact absurd a2 (by decide)
    · have as := accU γ e a1
      have e44 : V.a 44 γ = s.a 44 γ := by rw [lo 44 γ (by decide) e, h44 γ as.1]
      rcases h5 γ with q | ⟨q1, q2, q3⟩
      · have e46 : gv V 46 γ = gv s 46 γ := by unfold gv; rw [q, GO.lo e, h46 γ as.1]
        rw [e46] at a3 ⊢
        obtain ⟨l1, l2, l3⟩ := hp.1 γ as (by rw [← e44]; exact a2) a3
        refine ⟨l1, by omega, ?_⟩
        rw [lo 44 _ (by decide) (by omega), h44 _ (by omega)]
        exact l3
      · have e46 : gv V 46 γ = goI U := by unfold gv; rw [q2]; rfl
        rw [e46]
        refine ⟨by omega, by omega, ?_⟩
        have : (goI U).toNat = (U.i 43).toNatClampNeg := rfl
        rw [this]; exact v44
  · have := (a1.2 (U.i 43).toNatClampNeg (by have := a1.1; omega) (by omega)).1
    rw [v44] at this
    exact absurd this (by decide)
theorem YE.push {s V : RS} {rs : List Rec} {γ0 : Nat} (h : YE s rs) (hg : goI V = goI s + 1) (h0 : (γ0 : Int) = goI s) (h44 : bel 44 (goI s) s V) (h47 : bel 47 (goI s) s V) (hn : ¬ V.a 44 γ0 = 3) : YE V rs := by
  intro γ g1 g2 g3
  by_cases e : γ = γ0
  · subst e; exact absurd g2 hn
  · have gs : (γ : Int) < goI s := by omega
    have := h γ gs (by rw [← h44 γ gs]; exact g2) (fun δ d1 d2 => by
      have := g3 δ d1 (by omega)
      rw [h44 δ d2] at this
      exact this)
    unfold gv at this ⊢
    rw [h47 γ gs]
    exact this
theorem CX.upv {s s1 : RS} {h o v : Nat} {rs : List Rec} (hc : CX s h o v rs) (h' v' : Nat) (hd : s1.i 52 = s.i 52) (hf : fr s ≤ fr s1) (h9 : fr s1 ≤ 900) (hh : (h' : Int) ≤ fr s1) (hv : (v' : Int) ≤ fr s1) : CX s1 h' o v' rs := by
  obtain ⟨c1, c2, c3, c4, c5, c6, c7, c8⟩ := hc
  have hde : deI s1 = deI s := by unfold deI; rw [hd]
  exact ⟨by omega, hh, by omega, hv, by omega, c6, h9, by omega⟩
/-- a step anywhere -/
theorem COD.stp {s f : RS} {C : Nat → Bool} {k h o v v' : Nat} {rs : List Rec} {E : Gh → Prop} (hc : CX s h o v rs) (hk : (k : Int) < cdI f) (h21 : gv f 21 k = 1) (hr : ∀ g : Gh, g.isC = C → E g → recsOK f g k v rs) (rest : COD f C ((k : Int) + 1) h o v' rs E) : COD f C k h o v rs E := by
  have c := COD.ins (E := fun g => E g ∧ FL f g v' ((k : Int) + 1) ((k : Int) + 1) h o rs) (C := C) hc hk (fun g hg hE => ⟨okJ_1 (c := (h, o, v, false, rs)) h21 hE.2.fs, hr g hg hE.1⟩)
  exact COD.seq c rest (fun g _ hE => hE) (fun g _ hE hF => ⟨hE, hF⟩)
/-- a push of 1 and a jump where it is 0 -/
theorem CODS.pj {s f : RS} {C : Nat → Bool} {k h o v : Nat} {rs : List Rec} {E : Gh → Prop} (hc : CX s h o v rs) (hc2 : CX s (h + 1) o v rs) (hk : (k : Int) + 1 < cdI f) (h21 : gv f 21 k = 2) (h22 : gv f 22 k = 1) (j21 : gv f 21 (k + 1) = 13) (hE : ∀ g : Gh, g.isC = C → E g → recsOK f g k v rs ∧ recsOK f g (k + 1) v rs ∧ FL f g v ((k : Int) + 2) ((k : Int) + 2) h o rs) : CODS f C k h o v rs E := by
  refine ⟨fun k' c => (k' = k ∧ c = (h, o, v, false, rs)) ∨ (k' = k + 1 ∧ c = (h + 1, o, v, true, rs)), ⟨by omega, by omega, (h, o, v, false, rs), Or.inl ⟨Int.toNat_natCast k, rfl⟩, rfl, Nat.le_refl _, rfl, rfl, Nat.le_refl _⟩, fun g h1 h2 h3 k' c q => ?_⟩
  obtain ⟨p1, p2, p3⟩ := hE g h1 h3
  rcases q with ⟨rfl, rfl⟩ | ⟨rfl, rfl⟩
  · refine hc.good (fun q => by cases q) (okJ_2 (c := (h, o, v, false, rs)) h21 ?_) p1
    exact ⟨by omega, fun _ => ⟨(h + 1, o, v, true, rs), h2 _ _ (Or.inr ⟨rfl, rfl⟩), rfl, Nat.le_refl _, fun _ => h22, rfl, Nat.le_refl _⟩⟩
  · refine hc2.good (fun _ => by omega) (okJ_13 (c := (h + 1, o, v, true, rs)) j21 ⟨by show 1 ≤ h + 1; omega, (fun q => (by cases q)), ?_⟩) p2
    have e : (((k + 1 : Nat) : Int) + 1) = (k : Int) + 2 := by omega
    show FL f g v (((k + 1 : Nat) : Int) + 1) (((k + 1 : Nat) : Int) + 1) h o rs
    rw [e]
    exact p3
theorem lvA_full {f : RS} {d h vt : Nat} {x : Int} : ∀ {rs : List Rec}, rs.length ≤ d → lvA f d h vt x rs
  | [], _ => True.intro
  | _ :: _, h => Or.inl h
theorem dA_full {d : Nat} : ∀ {rs : List Rec}, rs.length ≤ d → dA d rs = rs
  | [], _ => rfl
  | _ :: _, h => if_pos h
theorem oA_full {d o : Nat} : ∀ {rs : List Rec}, rs.length ≤ d → oA d o rs = o
  | [], _ => rfl
  | _ :: _, h => if_pos h
theorem JE.mk {v f : RS} {g : Gh} {γ : Nat} {b : Bool} {k h o lv lv' : Nat} {rs : List Rec} {x : Int} (hl : lv < lv') (hx : gv f 22 k = x) (hd : (gv v 47 γ).toNat = rs.length) (hF : ARV v γ b → FL f g lv x x h o rs) : JE v f g γ b k h o lv' rs := by
  have full : rs.length ≤ (gv v 47 γ).toNat := by omega
  by_cases ca : ARV v γ b
  · obtain ⟨f1, f2, f3⟩ := hF ca
    by_cases cx : x < cdI f
    · obtain ⟨c, d1, d2, d3, d4, d5, d6⟩ := f3 cx
      refine ⟨c.v, Or.inl (by omega), lvA_full full, fun _ _ => ⟨by rw [hx]; exact f1, by rw [hx]; exact f2, fun _ => ⟨c, by rw [hx]; exact d1, d2, ?_, d4, ?_, rfl⟩⟩⟩
      · rw [oA_full full]; exact d3
      · rw [dA_full full]; exact d5
    · exact ⟨lv, Or.inl hl, lvA_full full, fun _ _ => ⟨by rw [hx]; exact f1, by rw [hx]; exact f2, fun q => by rw [hx] at q; exact absurd q cx⟩⟩
  · exact ⟨lv, Or.inl hl, lvA_full full, fun q => absurd q ca⟩
theorem ARV.top {v : RS} {γ : Nat} {b : Bool} (ht : TAB v) (hw : ∀ w : Nat, (w : Int) < waI v → gv v 58 w ≤ γ) (h : ARV v γ b) : v.a (fgB b) γ = 1 := by
  rcases h with h | ⟨p, p1, p2, p3, p4, p5⟩
  · exact h
  · have e : ((waI v - 1).toNat : Int) = waI v - 1 := Int.toNat_of_nonneg (by omega)
    have a := ht.1.2.2.2.2 p (waI v - 1).toNat p1 (by omega) p5
    have b := hw (waI v - 1).toNat (by omega)
    omega
/-- the chains of the last goal are filled, the goal is gone -/
def PPR (γ0 : Nat) (Lc Lb : List Nat) (xc xb : Int32) (Z : Nat → Prop) (v W : RS) : Prop := EQT v W ∧ cdI v ≤ cdI W ∧ goI W = γ0 ∧ goI v = (γ0 : Int) + 1 ∧ ISCH v (hd v false γ0) Lc ∧ ISCH v (hd v true γ0) Lb ∧ (∀ k : Nat, (k : Int) < cdI v → W.a 21 k = v.a 21 k ∧ W.a 23 k = v.a 23 k) ∧ (∀ k : Nat, (k : Int) < cdI v → k ∉ Lc → k ∉ Lb → ¬ Z k → W.a 22 k = v.a 22 k) ∧ (∀ k ∈ Lc, W.a 22 k = xc) ∧ (∀ k ∈ Lb, W.a 22 k = xb) ∧ (∀ k : Nat, Z k → ¬ v.a 21 k = 36)
theorem PPR.chn {γ0 : Nat} {Lc Lb : List Nat} {xc xb : Int32} {Z : Nat → Prop} {v W : RS} (h : PPR γ0 Lc Lb xc xb Z v W) (ht : TAB v) : CHN v W := by
  obtain ⟨h1, h2, h3, h4, h5, h6, h7, h8, h9, h10, h11⟩ := h
  intro γ b L x hγ hI hx
  obtain ⟨M, m1, m2⟩ := ht.1.1 γ b (by omega)
  have e := ISCH.uniq hI m1
  subst e
  have hlt := m2 x hx
  refine ⟨(h7 x hlt).1, h8 x hlt (fun q => ?_) (fun q => ?_) (fun q => h11 x q (hI.op x hx))⟩
  · have := (ht.1.2.1 γ γ0 b false _ Lc x (by omega) (by omega) hI h5 hx q).1; omega
  · have := (ht.1.2.1 γ γ0 b true _ Lb x (by omega) (by omega) hI h6 hx q).1; omega
theorem PPR.nop {γ0 : Nat} {Lc Lb : List Nat} {xc xb : Int32} {Z : Nat → Prop} {v W : RS} (h : PPR γ0 Lc Lb xc xb Z v W) (ht : TAB v) {k : Nat} (hk : k ∈ Lc ∨ k ∈ Lb) : ¬ OPN W k := by
  have hc := h.chn ht
  obtain ⟨h1, h2, h3, h4, h5, h6, h7, h8, h9, h10, h11⟩ := h
  rintro ⟨γ, b, L, x1, x2, x3⟩
  obtain ⟨M, m1, m2⟩ := ht.1.1 γ b (by omega)
  have e := ISCH.uniq x2 (hc.eIS h1 x1 m1)
  subst e
  rcases hk with hk | hk
  · have := (ht.1.2.1 γ γ0 b false _ Lc k (by omega) (by omega) m1 h5 x3 hk).1; omega
  · have := (ht.1.2.1 γ γ0 b true _ Lb k (by omega) (by omega) m1 h6 x3 hk).1; omega
theorem PPR.opn {γ0 : Nat} {Lc Lb : List Nat} {xc xb : Int32} {Z : Nat → Prop} {v W : RS} (h : PPR γ0 Lc Lb xc xb Z v W) {k : Nat} (hk : k ∈ Lc ∨ k ∈ Lb) : OPN v k := by
  obtain ⟨h1, h2, h3, h4, h5, h6, h7, h8, h9, h10, h11⟩ := h
  rcases hk with hk | hk
  · exact ⟨γ0, false, Lc, by omega, h5, hk⟩
  · exact ⟨γ0, true, Lb, by omega, h6, hk⟩
theorem PPR.lat {γ0 : Nat} {Lc Lb : List Nat} {xc xb : Int32} {Z : Nat → Prop} {v W s1 u1 : RS} (h : PPR γ0 Lc Lb xc xb Z v W) (ht : TAB v) (hl : LAT noZ s1 u1 v) (hz : ∀ k : Nat, cdI s1 ≤ k → (k : Int) < cdI u1 → ¬ Z k) : LAT noZ s1 u1 W := by
  have hc := h.chn ht
  have hop : ∀ k : Nat, k ∈ Lc ∨ k ∈ Lb → OPN v k := fun k hk => h.opn hk
  obtain ⟨h1, h2, h3, h4, h5, h6, h7, h8, h9, h10, h11⟩ := h
  refine hl.fin h1 hc ht.1.1 h2 (by omega) (fun k k1 k2 => ?_)
  have hlt : (k : Int) < cdI v := by have := hl.1.1; omega
  exact ⟨(h7 k hlt).1, (h7 k hlt).2, fun q => h8 k hlt (fun z => q (hop k (Or.inl z))) (fun z => q (hop k (Or.inr z))) (hz k k1 k2)⟩
theorem PPR.f {γ0 : Nat} {Lc Lb : List Nat} {xc xb : Int32} {Z : Nat → Prop} {s v W f : RS} (h : PPR γ0 Lc Lb xc xb Z v W) (ht : TAB v) (hA : AG0 s W f) {b : Bool} {k : Nat} (hs : SITE s v γ0 b k) : gv f 22 k = (if b = true then xb else xc).toInt := by
  obtain ⟨a1, L, a2, a3⟩ := hs
  have hk : k ∈ Lc ∨ k ∈ Lb := by
    cases b
    · left; rw [← ISCH.uniq a2 h.2.2.2.2.1]; exact a3
    · right; rw [← ISCH.uniq a2 h.2.2.2.2.2.1]; exact a3
  have hn := h.nop ht hk
  have hlt : (k : Int) < cdI v := by
    obtain ⟨M, m1, m2⟩ := ht.1.1 γ0 b (by have := h.2.2.2.1; omega)
    exact m2 k (by rw [← ISCH.uniq a2 m1]; exact a3)
  have e := (hA.2.2.2.2.1 k a1 (by have := h.2.1; omega)).2.2 hn
  unfold gv
  rw [e]
  cases b
  · have : k ∈ Lc := by rw [← ISCH.uniq a2 h.2.2.2.2.1]; exact a3
    rw [if_neg (by decide), h.2.2.2.2.2.2.2.2.1 k this]
  · have : k ∈ Lb := by rw [← ISCH.uniq a2 h.2.2.2.2.2.1]; exact a3
    rw [if_pos rfl, h.2.2.2.2.2.2.2.2.2.1 k this]
end
section
/-! reading: while: typing -/
theorem EJ.loop {s B2 v2 W f : RS} {g : Gh} {h o lv lv' lc : Nat} {rs : List Rec} {γ0 : Nat} {Lc Lb : List Nat} {xc xb : Int32} {Z : Nat → Prop} (hE : EJ s W f g h o lv rs) (hpp : PPR γ0 Lc Lb xc xb Z v2 W) (ht : TAB v2) (hA : AG0 s W f) (hs : cdI s ≤ cdI B2) (hl : lv < lv') (hlc : lc < lv') (hd : (gv v2 47 γ0).toNat = rs.length) (hw : ∀ w : Nat, (w : Int) < waI v2 → gv v2 58 w ≤ γ0) (hc : v2.a 51 γ0 = 1 → FL f g lc xc.toInt xc.toInt h o rs) (hb : v2.a 50 γ0 = 1 → FL f g lv xb.toInt xb.toInt h o rs) : EJ B2 v2 f g h o lv' rs := by
  have hchn := hpp.chn ht
  have stg : STG v2 W := STG.fin hpp.1 hchn hpp.2.1 (by have := hpp.2.2.1; have := hpp.2.2.2.1; omega)
  intro γ b k a1 a2 a3
  by_cases e : γ = γ0
  · subst e
    have hs' : SITE s v2 γ b k := ⟨by have := a3.1; omega, a3.2⟩
    have ef := hpp.f ht hA hs'
    cases b
    · rw [if_neg (by decide)] at ef
      exact JE.mk hlc ef hd (fun q => hc (q.top ht hw))
    · rw [if_pos rfl] at ef
      exact JE.mk hl ef hd (fun q => hb (q.top ht hw))
  · exact JE.stg hE stg ht.1.1 hs (by omega) (by have := a1.1; have := hpp.2.2.1; have := hpp.2.2.2.1; omega) a1 a2 a3
/-- the jumps to a goal that is new at B lie behind B -/
theorem new_sites {t : Nat} {B v : RS} {γ0 : Nat} (hk : KP t B v) (hB : ∀ b : Bool, hd B b γ0 = -1) (hg : (γ0 : Int) < goI B) {b : Bool} {L : List Nat} (hI : ISCH v (hd v b γ0) L) : ∀ x ∈ L, cdI B ≤ (x : Int) ∧ (x : Int) < cdI v := by
  obtain ⟨L1, c1, c2⟩ := hk.2.2.2.2.2.2.2.1 γ0 b [] hg (by rw [hB b]; show (-1 : Int) < 0; omega) (fun x hx => absurd hx List.not_mem_nil)
  rw [List.append_nil] at c1
  have e := ISCH.uniq hI c1
  subst e
  exact c2
theorem KP.ppr {t : Nat} {s v W : RS} {γ0 : Nat} {Lc Lb : List Nat} {xc xb : Int32} {Z : Nat → Prop} (h : KP t s v) (hpp : PPR γ0 Lc Lb xc xb Z v W) (ht : TAB v) (hg : goI s ≤ γ0) (hse : seI s ≤ seI W) (h18 : W.i 18 = v.i 18) (hs : ∀ k : Nat, k ∈ Lc ∨ k ∈ Lb ∨ Z k → cdI s ≤ (k : Int)) (hf : ∀ k : Nat, 64 ≤ k → k ≤ 73 → bel k t v W) : KP t s W := by
  refine h.fin hpp.1 (hpp.chn ht) hpp.2.1 (by have := hpp.2.2.1; omega) hse (fun z => by rw [h18]; exact z) (fun k hk => ?_) hf
  have hlt : (k : Int) < cdI v := by have := h.2.1.1; omega
  obtain ⟨h1, h2, h3, h4, h5, h6, h7, h8, h9, h10, h11⟩ := hpp
  refine ⟨(h7 k hlt).1, h8 k hlt (fun q => ?_) (fun q => ?_) (fun q => ?_), (h7 k hlt).2⟩
  · have := hs k (Or.inl q); omega
  · have := hs k (Or.inr (Or.inl q)); omega
  · have := hs k (Or.inr (Or.inr q)); omega
theorem TS.while {t : Nat} {s A v1 B2 v2 W : RS} {xc xc' xb : Int32} {γ0 : Nat} {Lc Lb : List Nat} {jt : Prop} (hI : INV s) (kA : KP t s A) (cA : cdI A = cdI s + 1) (A21 : A.a 21 (cdI s).toNat = 1) (A38 : A.i 38 = s.i 38) (A52 : A.i 52 = s.i 52) (fA : fr s + 1 ≤ fr A) (te : ¬ jt → TE A v1) (hjt : jt → cdI v1 = cdI A + 1 ∧ v1.a 21 (cdI A).toNat = 2 ∧ v1.a 22 (cdI A).toNat = 1) (k1 : KP t A v1) (i1 : INV v1) (d1 : v1.i 52 = s.i 52) (f1 : fr A + 1 ≤ fr v1) (gv1 : goI v1 = goI s)
  (kB : KP t v1 B2) (cB : cdI B2 = cdI v1 + 2) (B21 : B2.a 21 (cdI v1).toNat = 13) (B21' : B2.a 21 (cdI v1 + 1).toNat = 1) (B38 : B2.i 38 = s.i 38) (B52 : B2.i 52 = s.i 52) (fB : fr v1 ≤ fr B2) (g0 : (γ0 : Int) = goI s) (gB : goI B2 = goI s + 1) (B44 : B2.a 44 γ0 = 0) (B47 : gv B2 47 γ0 = deI s) (bB : ∀ b : Bool, hd B2 b γ0 = -1)
  (ts : TS B2 v2) (k2 : KP t B2 v2) (i2 : INV v2) (s2 : SAME B2 v2) (f2 : fr B2 ≤ fr v2) (hpp : PPR γ0 Lc Lb xc xb (fun k => k = (cdI v1).toNat) v2 W) (cW : cdI W = cdI v2 + 1) (hxc : xc.toInt = cdI A) (hxb : xb.toInt = cdI W) (W1 : W.a 22 (cdI v1).toNat = xb) (W2 : W.a 21 (cdI v2).toNat = 15) (W3 : W.a 22 (cdI v2).toNat = xc') (hxc' : xc'.toInt = cdI A) (hw : ∀ w : Nat, (w : Int) < waI v2 → gv v2 58 w ≤ γ0) (hr0 : ¬ jt → W.i 75 = 1) (hrb : v2.a 50 γ0 = 1 → W.i 75 = 1) (hse : seI v1 ≤ seI W) (w18 : W.i 18 = v2.i 18) (wf : ∀ k : Nat, 64 ≤ k → k ≤ 73 → bel k t v2 W) : TS s W := by
  intro f C hA hC h o lv rs hx hy
  have cs := hI.cd
  have c1' := i1.cd
  have c2' := i2.cd
  have fv1 := i1.1.f0
  have fv2 := i2.1.f0
  have le1 := k1.2.1.1
  have le2 := k2.2.1.1
  have ek : ((cdI v1).toNat : Int) = cdI v1 := Int.toNat_of_nonneg c1'.1
  have ek' : ((cdI v1 + 1).toNat : Int) = cdI v1 + 1 := Int.toNat_of_nonneg (by omega)
  have ek2 : ((cdI v2).toNat : Int) = cdI v2 := Int.toNat_of_nonneg c2'.1
  have ekA : ((cdI A).toNat : Int) = cdI A := Int.toNat_of_nonneg (by omega)
  have t2 := i2.2.2.2.1
  have ns : ∀ k : Nat, k ∈ Lc ∨ k ∈ Lb → cdI B2 ≤ (k : Int) := fun k hk => by
    rcases hk with hk | hk
    · exact (new_sites k2 bB (by omega) hpp.2.2.2.2.1 k hk).1
    · exact (new_sites k2 bB (by omega) hpp.2.2.2.2.2.1 k hk).1
  have kv1W : KP t v1 W := (kB.tr k2 (Nat.le_refl _)).ppr hpp t2 (by omega) hse w18 (fun k hk => by
    rcases hk with q | q | q
    · have := ns k (Or.inl q); omega
    · have := ns k (Or.inr q); omega
    · omega) wf
  have gW : goI W = goI v1 := by have := hpp.2.2.1; omega
  have L1 : LAT noZ A v1 W := (LAT.rf noZ A v1).kp kv1W i1.tn (by omega)
  have L2 : LAT noZ B2 v2 W := hpp.lat t2 (LAT.rf noZ B2 v2) (fun k h1 h2 e => by
    have e : k = (cdI v1).toNat := e
    omega)
  have ksB : KP t s B2 := (kA.tr k1 (Nat.le_refl _)).tr kB (Nat.le_refl _)
  obtain ⟨A1, C1⟩ := L1.use hA hC kA k1
  obtain ⟨A2, C2⟩ := L2.use hA hC ksB k2
  have hx2 := hx.2.1
  have hx4 := hx.2.2.2.1
  have kg := ksB.2.2.2.2.2.2.1
  have y2 : YE B2 rs := hy.push gB g0 kg.2.1 kg.2.2.1 (by rw [B44]; decide)
  have c2 := ts f C A2 C2 h o (lv + 1) rs (hx.upv h (lv + 1) B52 (by omega) (by omega) (by omega) (by omega)) y2
  have e21a : W.a 21 (cdI v1).toNat = 13 := by rw [(hpp.2.2.2.2.2.2.1 _ (by omega)).1, k2.2.1.2.1 _ (by omega)]; exact B21
  have e21b : W.a 21 (cdI v1 + 1).toNat = 1 := by rw [(hpp.2.2.2.2.2.2.1 _ (by omega)).1, k2.2.1.2.1 _ (by omega)]; exact B21'
  obtain ⟨p1, p2, p3, p4⟩ := hA.cell (k := (cdI v1).toNat) (o := 13) (x := xb) (by omega) (by omega) e21a W1 (by decide)
  obtain ⟨q1, q2, q3, q4⟩ := hA.cell (k := (cdI v1 + 1).toNat) (o := 1) (by omega) (by omega) e21b rfl (by decide)
  obtain ⟨r1, r2, r3, r4⟩ := hA.cell (k := (cdI v2).toNat) (o := 15) (x := xc') (by omega) (by omega) W2 W3 (by decide)
  have d47 : (gv v2 47 γ0).toNat = rs.length := by
    have e : gv v2 47 γ0 = gv B2 47 γ0 := by
      have kg2 := k2.2.2.2.2.2.2.1
      unfold gv; rw [kg2.2.2.1 γ0 (by omega)]
    have := hx.1
    omega
  have v2d : v2.i 52 = s.i 52 := s2.2.2.1.trans B52
  have body : COD f C ((cdI v1 + 1).toNat) h o lv rs (fun g => ENS s W f h o lv rs g ∧ FL f g lv (cdI A) (cdI A) h o rs) := by
    have env : ∀ g : Gh, ENS s W f h o lv rs g → FL f g lv (cdI A) (cdI A) h o rs → (v2.i 75 = 1 → FL f g (lv + 1) (cdI v2) (cdI v2) h o rs) → ENS B2 v2 f h o (lv + 1) rs g := fun g hE hFA hx' => by
      refine ⟨⟨fun k hk => (hE.1.1 k (by omega)).mono (Nat.le_refl _) (by omega), (hE.1.mid ksB B38 (by omega) : ENB B2 v2 f g lv rs).2⟩, hx', ?_⟩
      exact EJ.loop (lc := lv) hE.2.2 hpp t2 hA (by omega) (by omega) (by omega) d47 hw (fun _ => by rw [hxc]; exact hFA) (fun q => by rw [hxb]; exact hE.2.1 (hrb q))
    have rest2 : COD f C (((cdI v1 + 1).toNat : Int) + 1) h o (lv + 1) rs (fun g => ENS s W f h o lv rs g ∧ FL f g lv (cdI A) (cdI A) h o rs) := by
      have e : (((cdI v1 + 1).toNat : Int) + 1) = cdI B2 := by omega
      rw [e]
      by_cases cr : v2.i 75 = 1
      · have cJ : COD f C (cdI v2).toNat h o (lv + 1) rs (fun g => ENS s W f h o lv rs g ∧ FL f g lv (cdI A) (cdI A) h o rs) := by
          refine COD.ins (hx.upv h (lv + 1) v2d (by omega) (by omega) (by omega) (by omega)) r4 (fun g _ hE => ⟨?_, (hE.1.1.1 _ (by omega)).mono (Nat.le_refl _) (by omega)⟩)
          have hF2 : FL f g (lv + 1) (((cdI v2).toNat : Int) + 1) (gv f 22 (cdI v2).toNat) h o rs := by
            rw [r2, hxc']
            exact hE.2.to (Or.inl (by omega))
          exact okJ_15 (c := (h, o, lv + 1, false, rs)) r1 hF2
        exact COD.seq c2 cJ (fun g _ hE => hE) (fun g _ hE hF => env g hE.1 hE.2 (fun _ => by rw [ek2] at hF; exact hF))
      · exact c2.imp (fun g _ hE => env g hE.1 hE.2 (fun q => absurd q cr))
    exact COD.stp (s := B2) (hx.upv h lv B52 (by omega) (by omega) (by omega) (by omega)) q4 q1 (fun g _ hE => hE.1.1.1 _ (by omega)) rest2
  have hst : W.a 21 (cdI s).toNat = 1 := by
    rw [(hpp.2.2.2.2.2.2.1 _ (by omega)).1, k2.2.1.2.1 _ (by omega), kB.2.1.2.1 _ (by omega), k1.2.1.2.1 _ (by omega)]
    exact A21
  have rest : COD f C (cdI s + 1) h o lv rs (ENS s W f h o lv rs) := by
    rw [← cA]
    by_cases hj : jt
    · obtain ⟨j1, j2, j3⟩ := hjt hj
      have wA1 : W.a 21 (cdI A).toNat = 2 := by
        rw [(hpp.2.2.2.2.2.2.1 _ (by omega)).1, k2.2.1.2.1 _ (by omega), kB.2.1.2.1 _ (by omega)]; exact j2
      have wA2 : W.a 22 (cdI A).toNat = 1 := by
        rw [kv1W.2.1.2.2.1 _ (by omega)]; exact j3
      obtain ⟨m1, m2, m3, m4⟩ := hA.cell (k := (cdI A).toNat) (o := 2) (x := 1) (by omega) (by omega) wA1 wA2 (by decide)
      have eA1 : (cdI A).toNat + 1 = (cdI v1).toNat := by omega
      have head := CODS.pj (s := v1) (f := f) (C := C) (k := (cdI A).toNat) (h := h) (o := o) (v := lv) (rs := rs) (E := fun g => ENS s W f h o lv rs g ∧ FL f g lv (cdI v1 + 1) (cdI v1 + 1) h o rs) (hx.upv h lv d1 (by omega) (by omega) (by omega) (by omega)) (hx.upv (h + 1) lv d1 (by omega) (by omega) (by omega) (by omega)) (by omega) m1 m2 (by rw [eA1]; exact p1) (fun g _ hE => ⟨hE.1.1.1 _ (by omega), hE.1.1.1 _ (by omega), by
        have e : ((cdI A).toNat : Int) + 2 = cdI v1 + 1 := by omega
        rw [e]; exact hE.2⟩)
      rw [ekA] at head
      exact (head.loop body (fun g _ hE hF => ⟨hE, hF⟩) (fun g _ hE _ hF => ⟨hE, by rw [ek'] at hF; exact hF⟩)).cod
    · have c1 := te hj f C A1 C1 h o lv rs (hx.up h A52 (by omega) (by omega) (by omega))
      have cz : COD f C (cdI v1).toNat (h + 1) o lv rs (fun g => ENS s W f h o lv rs g ∧ FL f g lv (cdI A) (cdI A) h o rs) := by
        have c13 : COD f C (cdI v1).toNat (h + 1) o lv rs (fun g => (ENS s W f h o lv rs g ∧ FL f g lv (cdI A) (cdI A) h o rs) ∧ FL f g lv (cdI v1 + 1) (cdI v1 + 1) h o rs) := by
          refine COD.ins (hx.upv (h + 1) lv d1 (by omega) (by omega) (by omega) (by omega)) p4 (fun g _ hE => ⟨?_, hE.1.1.1.1 _ (by omega)⟩)
          have hF1 : FL f g lv (((cdI v1).toNat : Int) + 1) (((cdI v1).toNat : Int) + 1) h o rs := by rw [ek]; exact hE.2
          have hF2 : FL f g lv (((cdI v1).toNat : Int) + 1) (gv f 22 (cdI v1).toNat) h o rs := by
            rw [p2, hxb]
            exact (hE.1.1.2.1 (hr0 hj)).mono (Nat.le_refl _) (by omega)
          exact okJ_13 (c := (h + 1, o, lv, false, rs)) p1 ⟨by show 1 ≤ h + 1; omega, fun _ => hF2, hF1⟩
        exact COD.seq c13 body (fun g _ hE => hE) (fun g _ hE hF => ⟨hE, by rw [ek'] at hF; exact hF⟩)
      exact (c1.loop cz (fun g _ hE hF => ⟨hE, hF⟩) (fun g _ hE _ hF => ⟨hE.1.mid kA A38 (by omega), by rw [ek] at hF; exact hF⟩)).cod
  exact COD.step hA hx cs.1 (by omega) hst (fun g _ hE => hE.1.1) rest
end
section
/-! reading: the end of a loop -/
theorem PATCHES {N : Nat} (hN : 4000 ≤ N) {v : RS} {γ0 k1 : Nat} {fp : Int32} (hI : INV v) (hγ : (γ0 : Int) < goI v) (hk1 : (k1 : Int) < cdI v) (hop : ¬ v.a 21 k1 = 36) : ∃ (Lc Lb : List Nat) (Q1 Q2 Q : RS) (x : Int32), ISCH v (hd v false γ0) Lc ∧ ISCH v (hd v true γ0) Lb ∧ (∀ k ∈ Lc, (k : Int) < cdI v) ∧ (∀ k ∈ Lb, (k : Int) < cdI v) ∧ f_X12_patch N v (v.a 49 γ0) fp = some Q1 ∧ (∀ k : Nat, k ≠ 22 → Q1.a k = v.a k) ∧ f_X12_emit N Q1 15 fp = some (v.i 20, Q2) ∧ Q2.i 20 = x ∧ (∀ k : Nat, k ≠ 21 → k ≠ 22 → k ≠ 23 → Q2.a k = v.a k) ∧ f_X12_patch N (Q2.setA 22 k1 x) (v.a 48 γ0) x = some Q ∧ (∀ j : Nat, j ≠ 20 → Q.i j = v.i j) ∧ Q.b = v.b ∧ cdI Q = cdI v + 1 ∧ x.toInt = cdI v + 1 ∧ (∀ k : Nat, k ≠ 21 → k ≠ 22 → k ≠ 23 → Q.a k = v.a k) ∧ (∀ k : Nat, (k : Int) < cdI v → Q.a 21 k = v.a 21 k ∧ Q.a 23 k = v.a 23 k) ∧ Q.a 21 (cdI v).toNat = 15 ∧ Q.a 22 (cdI v).toNat = fp ∧ (∀ k : Nat, (k : Int) < cdI v → k ∉ Lc → k ∉ Lb → ¬ k = k1 → Q.a 22 k = v.a 22 k) ∧ (∀ k ∈ Lc, Q.a 22 k = fp) ∧ (∀ k ∈ Lb, Q.a 22 k = x) ∧ Q.a 22 k1 = x := by
  have cv := hI.cd
  obtain ⟨Lc, c1, c2⟩ := hI.tn γ0 false hγ
  obtain ⟨Lb, b1, b2⟩ := hI.tn γ0 true hγ
  have dj := hI.2.2.2.1.1.2.1
  have dis : ∀ k : Nat, k ∈ Lc → k ∈ Lb → False := fun k h1 h2 => by
    have := (dj γ0 γ0 false true Lc Lb k hγ hγ c1 b1 h1 h2).2
    exact absurd this (by decide)
  have nc : k1 ∉ Lc := fun h => hop (c1.op k1 h)
  have nb : k1 ∉ Lb := fun h => hop (b1.op k1 h)
  have e1 := p_pt (N := N) hN (σ := v) (site := v.a 49 γ0) (w := fp) c1 (fun x hx => by have := c2 x hx; omega)
  obtain ⟨Q1, hQ1⟩ : ∃ Q1, Q1 = PT fp Lc v := ⟨_, rfl⟩
  have i1 : Q1.i = v.i := by rw [hQ1]; exact PT.eI
  have a1 : ∀ k : Nat, k ≠ 22 → Q1.a k = v.a k := fun k hk => by rw [hQ1]; exact PT.eA hk
  have a22 : ∀ j : Nat, Q1.a 22 j = if j ∈ Lc then fp else v.a 22 j := fun j => by rw [hQ1]; exact PT.e22 j
  have bb1 : Q1.b = v.b := by rw [hQ1]; exact PT.eB
  rw [← hQ1] at e1
  clear hQ1
  have cd1 : cdI Q1 = cdI v := by unfold cdI; rw [i1]
  have e2 := p_em (N := N) (u := Q1) 15 fp (by omega) (by omega)
  obtain ⟨Q2, hQ2⟩ : ∃ Q2, Q2 = EM Q1 15 fp := ⟨_, rfl⟩
  have i2 : ∀ j : Nat, j ≠ 20 → Q2.i j = v.i j := fun j hj => by rw [hQ2, EM.i hj, i1]
  have cd2 : cdI Q2 = cdI v + 1 := by rw [hQ2, EM.cd (by omega) (by omega), cd1]
  have q21 : ∀ j : Nat, Q2.a 21 j = if j = (cdI v).toNat then 15 else v.a 21 j := fun j => by rw [hQ2, EM.a21, cd1, a1 21 (by decide)]
  have q22 : ∀ j : Nat, Q2.a 22 j = if j = (cdI v).toNat then fp else if j ∈ Lc then fp else v.a 22 j := fun j => by rw [hQ2, EM.a22, cd1, a22]
  have q23 : ∀ j : Nat, Q2.a 23 j = if j = (cdI v).toNat then 0 else v.a 23 j := fun j => by rw [hQ2, EM.a23, cd1, a1 23 (by decide)]
  have qa : ∀ k : Nat, k ≠ 21 → k ≠ 22 → k ≠ 23 → Q2.a k = v.a k := fun k h1 h2 h3 => by rw [hQ2, EM.a h1 h2 h3, a1 k h2]
  have bb2 : Q2.b = v.b := by rw [hQ2]; exact bb1
  rw [← hQ2] at e2
  have e20 : Q1.i 20 = v.i 20 := by rw [i1]
  rw [e20] at e2
  clear hQ2
  obtain ⟨Q3, hQ3⟩ : ∃ Q3, Q3 = Q2.setA 22 k1 (Q2.i 20) := ⟨_, rfl⟩
  have i3 : Q3.i = Q2.i := by rw [hQ3]; rfl
  have qa3 : ∀ k : Nat, k ≠ 22 → Q3.a k = Q2.a k := fun k hk => by rw [hQ3]; exact setA_nk hk
  have q322 : ∀ j : Nat, j ≠ k1 → Q3.a 22 j = Q2.a 22 j := fun j hj => by rw [hQ3]; exact setA_ne hj
  have q3k : Q3.a 22 k1 = Q2.i 20 := by rw [hQ3]; exact setA_at
  have bb3 : Q3.b = v.b := by rw [hQ3]; exact bb2
  have isb : ISCH Q3 (v.a 48 γ0).toInt Lb := ISCH.of (show ISCH v (v.a 48 γ0).toInt Lb from b1) (fun y hy => by
    have hl := b2 y hy
    refine ⟨by rw [qa3 21 (by decide), q21, if_neg (by omega)], ?_⟩
    rw [q322 y (fun e => nb (by rw [← e]; exact hy)), q22, if_neg (by omega), if_neg (fun q => dis y q hy)])
  have e3 := p_pt (N := N) hN (σ := Q3) (site := v.a 48 γ0) (w := Q2.i 20) isb (fun x hx => by have := b2 x hx; omega)
  obtain ⟨Q, hQ⟩ : ∃ Q, Q = PT (Q2.i 20) Lb Q3 := ⟨_, rfl⟩
  have iQ : Q.i = Q2.i := by rw [hQ, PT.eI, i3]
  have aQ : ∀ k : Nat, k ≠ 22 → Q.a k = Q2.a k := fun k hk => by rw [hQ, PT.eA hk, qa3 k hk]
  have aQ22 : ∀ j : Nat, Q.a 22 j = if j ∈ Lb then Q2.i 20 else Q3.a 22 j := fun j => by rw [hQ]; exact PT.e22 j
  have bQ : Q.b = v.b := by rw [hQ, PT.eB]; exact bb3
  rw [← hQ] at e3
  clear hQ
  rw [hQ3] at e3
  have cQ : cdI Q = cdI v + 1 := by
    have : cdI Q = cdI Q2 := by unfold cdI; rw [iQ]
    omega
  refine ⟨Lc, Lb, Q1, Q2, Q, Q2.i 20, c1, b1, c2, b2, e1, a1, e2, rfl, qa, e3, fun j hj => by rw [iQ]; exact i2 j hj, bQ, cQ, cd2, fun k h1 h2 h3 => (aQ k h2).trans (qa k h1 h2 h3), fun k hk => ⟨by rw [aQ 21 (by decide), q21, if_neg (by omega)], by rw [aQ 23 (by decide), q23, if_neg (by omega)]⟩, by rw [aQ 21 (by decide), q21, if_pos rfl], ?_, fun k hk h1 h2 h3 => ?_, fun k hk => ?_, fun k hk => ?_, ?_⟩
  · rw [aQ22, if_neg (fun q => by have := b2 _ q; omega), q322 _ (by omega), q22, if_pos rfl]
  · rw [aQ22, if_neg h2, q322 k h3, q22, if_neg (by omega), if_neg h1]
  · have := c2 k hk
    rw [aQ22, if_neg (fun q => dis k hk q), q322 k (fun e => nc (by rw [← e]; exact hk)), q22, if_neg (by omega), if_pos hk]
  · rw [aQ22, if_pos hk]
  · rw [aQ22, if_neg nb]; exact q3k
/-- the frame of a statement that had a goal is done -/
theorem LEND {N n : Nat} {s v W : RS} {t : Nat} {P : RS → Prop} {x xc xb : Int32} {γ0 : Nat} {Lc Lb : List Nat} {Z : Nat → Prop} (h9 : t < 998) (hx : x = 0 ∨ x = 1) (hC : ∀ (u : RS), PS t s u → fr v ≤ fr u → ok (f_X12_parse_10 N n u) P) (hI : INV s) (hpp : PPR γ0 Lc Lb xc xb Z v W) (i2 : INV v) (wi : ∀ j : Nat, j ≠ 20 → j ≠ 38 → j ≠ 43 → j ≠ 52 → W.i j = v.i j) (wf : ∀ k : Nat, 64 ≤ k → k ≤ 73 → W.a k = v.a k) (tp : tpI v = t) (kv : KP t s v) (g0 : (γ0 : Int) = goI s) (e19 : v.i 19 = s.i 19) (e52 : W.i 52 = s.i 52) (e56 : v.i 56 = s.i 56) (hse1 : seI s ≤ seI W) (hse2 : seI W ≤ seI v) (snW : SNW s W) (ra : RATE s v) (hcd : cdI W - cdI s ≤ 3 * (fr v - fr s)) (f1 : fr s ≤ fr v) (tk1 : tkI s ≤ tkI v) (hs : ∀ k : Nat, k ∈ Lc ∨ k ∈ Lb ∨ Z k → cdI s ≤ (k : Int)) (hT : ¬ 0 ≤ v.i 18 → TS s (W.setI 75 x)) : ok (((f_X12_over N W x).bind fun p => some p).bind fun p => f_X12_parse_10 N n p) P := by
  have t2 := i2.2.2.2.1
  have hc := hpp.chn t2
  have gW := hpp.2.2.1
  have gV := hpp.2.2.2.1
  have he := hpp.1
  have e43 : W.i 43 = s.i 43 := Int32.toInt_inj.mp (show goI W = goI s by omega)
  have fW : fr W = fr v := by unfold fr; rw [wi 11 (by decide) (by decide) (by decide) (by decide)]
  have tkW : tkI W = tkI v := by unfold tkI; rw [wi 17 (by decide) (by decide) (by decide) (by decide)]
  have kW : KP t s W := kv.ppr hpp t2 (by omega) hse1 (wi 18 (by decide) (by decide) (by decide) (by decide)) hs (fun k k1 k2 j _ => by rw [wf k k1 k2])
  have lW : LXI W := i2.1.of (wi 2 (by decide) (by decide) (by decide) (by decide)) (wi 10 (by decide) (by decide) (by decide) (by decide)) (wi 11 (by decide) (by decide) (by decide) (by decide)) (wi 12 (by decide) (by decide) (by decide) (by decide)) (wi 14 (by decide) (by decide) (by decide) (by decide)) he.2.1
  have kg := kv.2.2.2.2.2.2.1
  have kw := kv.2.2.2.2.2.2.2.2.1
  have waE : waI v = waI s := by unfold waI; rw [e56]
  have deE : deI W = deI s := by unfold deI; rw [e52]
  have ts := hI.2.2.2.1
  have tW : TAB W := t2.fin he hc hpp.2.1 (by omega) hse2 (fun γ hγ => by
    have := (ts.2.2.2.2.2.2.1 γ (by omega)).2
    have e : gv v 47 γ = gv s 47 γ := by unfold gv; rw [kg.2.2.1 γ (by omega)]
    omega) (fun w hw => by
    have := (ts.2.2.2.2.2.2.2.2.1 w (by omega)).2.2.2
    have e : gv v 58 w = gv s 58 w := by unfold gv; rw [kw.2.2 w (by omega)]
    omega) (by rw [wi 75 (by decide) (by decide) (by decide) (by decide)]; exact i2.r)
  have sm : SAME s W := ⟨(wi 19 (by decide) (by decide) (by decide) (by decide)).trans e19, e43, e52, (wi 56 (by decide) (by decide) (by decide) (by decide)).trans e56⟩
  have rt : RATE s W := by
    have q2 := he.en
    have q3 := he.tt
    have q4 := he.ca
    have q5 := he.sl
    have q6 := he.pe
    unfold RATE at *
    rw [q2, q3, q4, q5, q6, fW, tkW]
    omega
  have iW : INV W := hI.mkS kW lW ((wi 15 (by decide) (by decide) (by decide) (by decide)).trans i2.2.2.1) tW sm snW rt (by omega) (by omega)
  exact IF3 (q := W) h9 hx (fun u hu hf => hC u hu (by omega)) iW (by unfold tpI at *; rw [wi 63 (by decide) (by decide) (by decide) (by decide)]; exact tp) kW sm snW rt (by omega) (by omega) (fun z => hT (fun q => z (by rw [wi 18 (by decide) (by decide) (by decide) (by decide)]; exact q)))
theorem PPR.i {γ0 : Nat} {Lc Lb : List Nat} {xc xb : Int32} {Z : Nat → Prop} {v W W' : RS} (h : PPR γ0 Lc Lb xc xb Z v W) (hw : TBS W W') : PPR γ0 Lc Lb xc xb Z v W' := by
  obtain ⟨h1, h2, h3, h4, h5, h6, h7, h8, h9, h10, h11⟩ := h
  have e := hw.1
  refine ⟨⟨fun k a b => (e.1 k a b).trans (h1.1 k a b), e.2.1.trans h1.2.1, fun j a b c d g i => (e.2.2 j a b c d g i).trans (h1.2.2 j a b c d g i)⟩, by rw [hw.cd]; exact h2, by rw [hw.go]; exact h3, h4, h5, h6, fun k hk => ⟨by rw [hw.2.1 21 (by decide) (by decide)]; exact (h7 k hk).1, by rw [hw.2.1 23 (by decide) (by decide)]; exact (h7 k hk).2⟩, fun k a b c d => by rw [hw.2.1 22 (by decide) (by decide)]; exact h8 k a b c d, fun k hk => by rw [hw.2.1 22 (by decide) (by decide)]; exact h9 k hk, fun k hk => by rw [hw.2.1 22 (by decide) (by decide)]; exact h10 k hk, h11⟩
theorem p_jt {N : Nat} {v : RS} (x : Int32) : ∃ z, f_X12_isJustTrue N v x = some (z, v) ∧ (z = 0 ∨ z = 1 ∧ ¬ x ≤ 0 ∧ v.i 17 = x + 1) := by
  unfold f_X12_isJustTrue f_X12_isJustTrue_18
  by_cases c : x ≤ 0
  · rw [if_pos c]; exact ⟨0, rfl, Or.inl rfl⟩
  · rw [if_neg c]
    by_cases d : v.i 17 = x + 1
    · rw [if_pos d]; exact ⟨1, rfl, Or.inr ⟨rfl, c, d⟩⟩
    · rw [if_neg d]; exact ⟨0, rfl, Or.inl rfl⟩
theorem inv_lgr {s U V : RS} {t γ : Nat} (h : INV U) (hv : LGF s U V t γ) (h2 : 2 * (goI U + 1) ≤ fr U) : INV V := by
  obtain ⟨g0, g1, g2, g3, g4, g5, g6, g7, g8, g9, g10, g11, g12⟩ := hv
  have gi : ∀ j : Nat, j ≠ 43 → V.i j = U.i j := g2
  obtain ⟨b1, b2, b3, b4, b5, b6, b7, b8, b9, b10, b11, b12⟩ := h.2.2.2.2
  have e1 : cdI V = cdI U := by unfold cdI; rw [gi 20 (by decide)]
  have e2 : enI V = enI U := by unfold enI; rw [gi 24 (by decide)]
  have e3 : trI V = trI U := by unfold trI; rw [gi 29 (by decide)]
  have e4 : caI V = caI U := by unfold caI; rw [gi 33 (by decide)]
  have e5 : seI V = seI U := by unfold seI; rw [gi 38 (by decide)]
  have e6 : slI V = slI U := by unfold slI; rw [gi 42 (by decide)]
  have e8 : deI V = deI U := by unfold deI; rw [gi 52 (by decide)]
  have e9 : waI V = waI U := by unfold waI; rw [gi 56 (by decide)]
  have e10 : peI V = peI U := by unfold peI; rw [gi 59 (by decide)]
  have e11 : fr V = fr U := by unfold fr; rw [gi 11 (by decide)]
  have e12 : op V = op U := by unfold op; rw [gi 19 (by decide)]
  have e13 : tkI V = tkI U := by unfold tkI; rw [gi 17 (by decide)]
  refine ⟨h.1.of (gi 2 (by decide)) (gi 10 (by decide)) (gi 11 (by decide)) (gi 12 (by decide)) (gi 14 (by decide)) g3, RB.of (gi 2 (by decide)) (gi 3 (by decide)) (g4 4 (by omega)) (g4 6 (by omega)) (g4 7 (by omega)) h.2.1, (gi 15 (by decide)).trans h.2.2.1, g12, ?_⟩
  unfold NUM
  rw [e1, e2, e3, e4, e5, e6, e8, e9, e10, e11, e12, e13, g1]
  exact ⟨b1, b2, b3, b4, b5, b6, b7, ⟨by omega, by omega⟩, b9, b10, b11, b12⟩
end
section
/-! reading: while: its frame -/
theorem MM.clo2 {t : Nat} {s R A v B : RS} (hI : INV s) (mR : MM t s R) (kA : KP t R A) (tA : TBL R A) (oA : A.i 19 = R.i 19 + 1) (dA : A.i 52 = R.i 52) (fA : fr R + 1 ≤ fr A) (tkA : tkI A = tkI R + 1) (v1 : INV v) (v2 : tpI v = t) (v3 : KP t A v) (v4 : SAME A v) (v5 : v.i 38 = A.i 38) (v6 : RATE A v) (v7 : fr A ≤ fr v) (v8 : tkI A ≤ tkI v) (x1 : LX v B) (x2 : B.i 15 = 0) (x4 : B.i 19 = v.i 19 - 1) (x5 : fr v + 1 ≤ fr B) (x6 : tkI B = tkI v + 1) : MM t s B := by
  obtain ⟨a1, a2, a3, a4, a5, a6, a7, a8⟩ := mR
  have kB : KP t s B := (((a3.tr kA (Nat.le_refl _)).tr v3 (Nat.le_refl _))).lx x1
  have A43 : A.i 43 = R.i 43 := tA.2.2 43 (by omega) (by omega) (by omega) (by omega)
  have A56 : A.i 56 = R.i 56 := tA.2.2 56 (by omega) (by omega) (by omega) (by omega)
  have A38 : A.i 38 = R.i 38 := tA.2.2 38 (by omega) (by omega) (by omega) (by omega)
  have e19 : B.i 19 = R.i 19 := by rw [x4, v4.1, oA, Int32.add_sub_cancel]
  have sm : SAME s B := a4.tr ⟨e19, (x1.2.2.1 43 (by omega) (by omega)).trans (v4.2.1.trans A43), (x1.2.2.1 52 (by omega) (by omega)).trans (v4.2.2.1.trans dA), (x1.2.2.1 56 (by omega) (by omega)).trans (v4.2.2.2.trans A56)⟩
  have e38 : B.i 38 = s.i 38 := x1.i38.trans (v5.trans (A38.trans a5))
  have rt : RATE s B := ((a6.tr (tA.rate (by omega) (by omega))).tr v6).tr (x1.tbl.rate (by omega) (by omega))
  exact ⟨hI.mkS kB x1.2.2.2.1 x2 (v1.2.2.2.1.lx x1) sm (SNW.eq e38 kB.2.2.2.2.2.1.2.1) rt (by omega) (by omega), x1.tp.trans v2, kB, sm, e38, rt, by omega, by omega⟩
theorem RATE.cg {s U B : RS} (h : RATE s U) (hi : ∀ j : Nat, j ≠ 43 → B.i j = U.i j) : RATE s B := by
  have e1 : cdI B = cdI U := by unfold cdI; rw [hi 20 (by decide)]
  have e2 : enI B = enI U := by unfold enI; rw [hi 24 (by decide)]
  have e3 : trI B = trI U := by unfold trI; rw [hi 29 (by decide)]
  have e4 : caI B = caI U := by unfold caI; rw [hi 33 (by decide)]
  have e5 : slI B = slI U := by unfold slI; rw [hi 42 (by decide)]
  have e6 : peI B = peI U := by unfold peI; rw [hi 59 (by decide)]
  have e7 : fr B = fr U := by unfold fr; rw [hi 11 (by decide)]
  have e8 : tkI B = tkI U := by unfold tkI; rw [hi 17 (by decide)]
  unfold RATE at *
  rw [e1, e2, e3, e4, e5, e6, e7, e8]
  exact h
/-- the loop's last step -/
theorem WH3 {N : Nat} (hN : 4000 ≤ N) {m : Nat} {s A v B2 v2 : RS} {t γ0 : Nat} {P : RS → Prop} {z : Int32} (hI : INV s) (h9 : t < 998) (kA : KP t s A) (cA : cdI A = cdI s + 1) (A21 : A.a 21 (cdI s).toNat = 1) (A38 : A.i 38 = s.i 38) (A52 : A.i 52 = s.i 52) (fA : fr s + 3 ≤ fr A) (te : ¬ 0 ≤ v.i 18 → TE A v) (hz : z = 0 ∨ z = 1 ∧ cdI v = cdI A + 1 ∧ v.a 21 (cdI A).toNat = 2 ∧ v.a 22 (cdI A).toNat = 1) (k1 : KP t A v) (i1 : INV v) (d1 : v.i 52 = s.i 52) (f1 : fr A + 1 ≤ fr v) (rAv : RATE A v) (gv1 : goI v = goI s) (kB : KP t v B2) (cB : cdI B2 = cdI v + 2) (B21 : B2.a 21 (cdI v).toNat = 13) (B21' : B2.a 21 (cdI v + 1).toNat = 1) (B38 : B2.i 38 = s.i 38) (B19 : B2.i 19 = s.i 19) (B52 : B2.i 52 = s.i 52) (B56 : B2.i 56 = s.i 56) (fB : fr v + 1 ≤ fr B2) (tkB : tkI s ≤ tkI B2) (g0 : (γ0 : Int) = goI s) (gB : goI B2 = goI s + 1) (B44 : B2.a 44 γ0 = 0) (B47 : gv B2 47 γ0 = deI s) (bB : ∀ b : Bool, hd B2 b γ0 = -1) (raB : RATE s B2) (B64 : B2.a 64 t = 10) (B66 : (B2.a 66 t).toInt = cdI A) (B67 : (B2.a 67 t).toInt = cdI v) (B68 : (B2.a 68 t).toInt = γ0) (B71 : B2.a 71 t = z) (hv : PCS t 2 B2 v2) (hn : 1 ≤ (m : Int)) (hC : ∀ (m' : Nat) (u : RS), PS t s u → fr v2 ≤ fr u → (m : Int) + 40 * fr v2 ≤ m' + 40 * fr u → ok (f_X12_parse_10 N m' u) P) : ok (f_X12_parse_10 N (m + 1) v2) P := by
  have hv' := hv
  obtain ⟨w1, w2, w3, w4, w5, w6, w7, w8, w9, w10, w11⟩ := hv'
  have fv := w1.1.f0
  have cv := i1.cd
  have cw := w1.cd
  have cs := hI.cd
  have le2 := w3.2.1.1
  have gos := hI.2.2.2.2.2.2.2.2.2.2.2.1
  have hf := hI.1.f0
  have ek : ((cdI v).toNat : Int) = cdI v := Int.toNat_of_nonneg cv.1
  have g2 : goI v2 = (γ0 : Int) + 1 := by have := w4.go; omega
  have n68 := k_nat (show (v2.a 68 t).toInt = γ0 by rw [w11 68 (by omega) (by omega) (by omega)]; exact B68)
  have ib68 : ib (v2.a 68 t) 460 := by
    have e : (v2.a 68 t).toInt = γ0 := by rw [w11 68 (by omega) (by omega) (by omega)]; exact B68
    exact ⟨by omega, by omega⟩
  have k67 : (v2.a 67 t).toInt = (cdI v).toNat := by rw [w11 67 (by omega) (by omega) (by omega), B67, ek]
  have n67 := k_nat k67
  have e66 : v2.a 66 t = B2.a 66 t := w11 66 (by omega) (by omega) (by omega)
  have e21 : v2.a 21 (cdI v).toNat = 13 := by rw [w3.2.1.2.1 _ (by omega)]; exact B21
  refine lp_10 w2 (by omega) w1.2.2.1 ((w11 64 (by omega) (by omega) (by omega)).trans B64) ?_
  unfold f_X12_whiles
  rw [if_pos (tp_ib w2 (by omega)), tp_nat w2, if_neg (by rw [w10]; decide), if_neg (by rw [w10]; decide), if_pos ib68, n68]
  obtain ⟨Lc, Lb, Q1, Q2, Q, x, c1, b1, c2, b2, e1, a1, e2, e20, a2, e3, qi, qb, qc, xc, qa, q21, q15, qfp, q22, qLc, qLb, qk1⟩ := PATCHES (fp := v2.a 66 t) hN w1 (γ0 := γ0) (k1 := (cdI v).toNat) (by omega) (by omega) (by rw [e21]; decide)
  rw [e1]
  show ok (((f_X12_emit N Q1 15 (Q1.a 66 t)).bind fun p28 => if ib (p28.2.a 67 t) 3000 then (f_X12_patch N (RS.setA p28.2 22 (((p28.2.a 67 t) : Int32).toNatClampNeg) (p28.2.i 20)) (p28.2.a 48 γ0) (p28.2.i 20)).bind fun p31 => (if (p31.a 71 t) = 0 then (f_X12_over N (RS.setI p31 43 ((p31.i 43) - 1)) 1).bind fun p34 => some p34 else (if (p31.a 50 γ0) = 0 then (f_X12_over N (RS.setI p31 43 ((p31.i 43) - 1)) 0).bind fun p37 => some p37 else (f_X12_over N (RS.setI p31 43 ((p31.i 43) - 1)) 1).bind fun p39 => some p39)) else none).bind fun p => f_X12_parse_10 N m p) P
  rw [a1 66 (by decide), e2]
  show ok ((if ib (Q2.a 67 t) 3000 then (f_X12_patch N (RS.setA Q2 22 (((Q2.a 67 t) : Int32).toNatClampNeg) (Q2.i 20)) (Q2.a 48 γ0) (Q2.i 20)).bind fun p31 => (if (p31.a 71 t) = 0 then (f_X12_over N (RS.setI p31 43 ((p31.i 43) - 1)) 1).bind fun p34 => some p34 else (if (p31.a 50 γ0) = 0 then (f_X12_over N (RS.setI p31 43 ((p31.i 43) - 1)) 0).bind fun p37 => some p37 else (f_X12_over N (RS.setI p31 43 ((p31.i 43) - 1)) 1).bind fun p39 => some p39)) else none : Option RS).bind fun p => f_X12_parse_10 N m p) P
  rw [a2 67 (by decide) (by decide) (by decide), a2 48 (by decide) (by decide) (by decide), if_pos (show ib (v2.a 67 t) 3000 from ⟨by omega, by omega⟩), n67, e20, e3]
  show ok ((if (Q.a 71 t) = 0 then (f_X12_over N (RS.setI Q 43 ((Q.i 43) - 1)) 1).bind fun p34 => some p34 else (if (Q.a 50 γ0) = 0 then (f_X12_over N (RS.setI Q 43 ((Q.i 43) - 1)) 0).bind fun p37 => some p37 else (f_X12_over N (RS.setI Q 43 ((Q.i 43) - 1)) 1).bind fun p39 => some p39) : Option RS).bind fun p => f_X12_parse_10 N m p) P
  have q71 : Q.a 71 t = z := by rw [qa 71 (by decide) (by decide) (by decide), w11 71 (by omega) (by omega) (by omega)]; exact B71
  have q50 : Q.a 50 = v2.a 50 := qa 50 (by decide) (by decide) (by decide)
  rw [q71, q50]
  obtain ⟨W, hW⟩ : ∃ W, W = RS.setI Q 43 ((Q.i 43) - 1) := ⟨_, rfl⟩
  have wa : W.a = Q.a := by rw [hW]; rfl
  have wi : ∀ j : Nat, j ≠ 20 → j ≠ 43 → W.i j = v2.i j := fun j h1 h2 => by rw [hW]; exact (if_neg h2).trans (qi j h1)
  have w20 : W.i 20 = Q.i 20 := by rw [hW]; rfl
  have w43 : goI W = γ0 := by
    have e : W.i 43 = v2.i 43 - 1 := by rw [hW]; show Q.i 43 - 1 = _; rw [qi 43 (by decide)]
    have e1' : (1 : Int32).toInt = 1 := by decide
    have g2' : (v2.i 43).toInt = (γ0 : Int) + 1 := g2
    unfold goI
    rw [e, toInt_sub] <;> rw [e1'] <;> omega
  have wb : W.b = Q.b := by rw [hW]; rfl
  rw [← hW]
  clear hW
  have cW : cdI W = cdI v2 + 1 := by have : cdI W = cdI Q := by { unfold cdI; rw [w20] }; omega
  have hpp : PPR γ0 Lc Lb (v2.a 66 t) x (fun k => k = (cdI v).toNat) v2 W := by
    refine ⟨⟨fun k h1 h2 => by rw [wa]; exact qa k (by omega) (by omega) (by omega), by rw [wb, qb], fun j h1 h2 h3 h4 h5 h6 => wi j (by omega) h3⟩, by omega, w43, g2, c1, b1, fun k hk => by rw [wa]; exact q21 k hk, fun k hk h1 h2 h3 => by rw [wa]; exact q22 k hk h1 h2 h3, fun k hk => by rw [wa]; exact qLc k hk, fun k hk => by rw [wa]; exact qLb k hk, fun k hk => ?_⟩
    have hk : k = (cdI v).toNat := hk
    rw [hk, e21]; decide
  have ksB : KP t s B2 := (kA.tr k1 (Nat.le_refl _)).tr kB (Nat.le_refl _)
  have ksv2 : KP t s v2 := ksB.tr w3 (Nat.le_refl _)
  have snB : SNW s B2 := SNW.eq B38 ksB.2.2.2.2.2.1.2.1
  have sn2 : SNW s v2 := snB.tr w6 ksB w3
  have ra2 : RATE s v2 := raB.tr w5
  have lek := k1.2.1.1
  have seW : seI W = seI v2 := by unfold seI; rw [wi 38 (by decide) (by decide)]
  have slW : slI W = slI v2 := hpp.1.sl
  have snW : SNW s W := by
    refine ⟨by have := sn2.1; omega, fun y y1 y2 => ?_⟩
    have e : gv W 40 y = gv v2 40 y := by unfold gv; rw [wa, qa 40 (by decide) (by decide) (by decide)]
    rw [e]
    exact sn2.2 y y1 (by omega)
  have ns : ∀ k : Nat, k ∈ Lc ∨ k ∈ Lb → cdI B2 ≤ (k : Int) := fun k hk => by
    rcases hk with hk | hk
    · exact (new_sites w3 bB (by omega) c1 k hk).1
    · exact (new_sites w3 bB (by omega) b1 k hk).1
  have kw := ksv2.2.2.2.2.2.2.2.2.1
  have hww : ∀ w : Nat, (w : Int) < waI v2 → gv v2 58 w ≤ γ0 := fun w hw => by
    have e1 : waI v2 = waI s := by have : waI v2 = waI B2 := w4.wa; have : waI B2 = waI s := by { unfold waI; rw [B56] }; omega
    have := (hI.2.2.2.1.2.2.2.2.2.2.2.2.1 w (by omega)).2.2.2
    have e : gv v2 58 w = gv s 58 w := by unfold gv; rw [kw.2.2 w (by omega)]
    omega
  have se1 : seI s ≤ seI v2 := ksv2.2.2.2.2.2.1.1
  have sev : seI v ≤ seI v2 := (kB.tr w3 (Nat.le_refl _)).2.2.2.2.2.1.1
  have z2 : ¬ 0 ≤ v2.i 18 → ¬ 0 ≤ v.i 18 := fun q r => q (w3.1.2 (kB.1.2 r))
  have fin : ∀ y : Int32, (y = 0 ∨ y = 1) → (z = 0 → y = 1) → (v2.a 50 γ0 = 1 → y = 1) → ok (((f_X12_over N W y).bind fun p => some p).bind fun p => f_X12_parse_10 N m p) P := by
    intro y hy h1 h2
    refine LEND (x := y) h9 hy (fun u hu hf' => hC m u hu hf' (by omega)) hI hpp w1 (fun j j1 j2 j3 _ => wi j j1 j3) (fun k k1' k2' => by rw [wa]; exact qa k (by omega) (by omega) (by omega)) w2 ksv2 g0 (w4.1.trans B19) ((wi 52 (by decide) (by decide)).trans (w4.2.2.1.trans B52)) (w4.2.2.2.trans B56) (by omega) (by omega) snW ra2 ?_ (by omega) (by omega) (fun k hk => ?_) (fun q => ?_)
    · unfold RATE at w5 rAv
      omega
    · rcases hk with q | q | q
      · have := ns k (Or.inl q); omega
      · have := ns k (Or.inr q); omega
      · have q : k = (cdI v).toNat := q
        omega
    · have hpp' : PPR γ0 Lc Lb (v2.a 66 t) x (fun k => k = (cdI v).toNat) v2 (W.setI 75 y) := hpp.i (TBL.i75 W y).tbs
      refine TS.while (jt := z = 1) (xc' := v2.a 66 t) hI kA cA A21 A38 A52 (by omega) (fun _ => te (z2 q)) (fun hj => ?_) k1 i1 d1 f1 gv1 kB cB B21 B21' B38 B52 (by omega) g0 gB B44 B47 bB (w9 q) w3 w1 w4 w7 hpp' cW (by rw [e66]; exact B66) ?_ ?_ ?_ ?_ (by rw [e66]; exact B66) hww (fun hj => ?_) (fun hq => h2 hq) ?_ (wi 18 (by decide) (by decide)) (fun k k1' k2' j _ => ?_)
      · rcases hz with r | r
        · rw [r] at hj; exact absurd hj (by decide)
        · exact r.2
      · show x.toInt = cdI W; omega
      · show W.a 22 (cdI v).toNat = x; rw [wa]; exact qk1
      · show W.a 21 (cdI v2).toNat = 15; rw [wa]; exact q15
      · show W.a 22 (cdI v2).toNat = v2.a 66 t; rw [wa]; exact qfp
      · show y = 1
        rcases hz with r | r
        · exact h1 r
        · exact absurd r.1 hj
      · show seI v ≤ seI W; omega
      · show W.a k j = v2.a k j
        rw [wa, qa k (by omega) (by omega) (by omega)]
  by_cases cz : z = 0
  · rw [if_pos cz]
    exact fin 1 (Or.inr rfl) (fun _ => rfl) (fun _ => rfl)
  · rw [if_neg cz]
    by_cases c50 : v2.a 50 γ0 = 0
    · rw [if_pos c50]
      exact fin 0 (Or.inl rfl) (fun q => absurd q cz) (fun q => by rw [c50] at q; exact absurd q (by decide))
    · rw [if_neg c50]
      exact fin 1 (Or.inr rfl) (fun _ => rfl) (fun _ => rfl)
end
section
/-! reading: while: from its word to its body -/
theorem WH2 {N b : Nat} (hN : 4000 ≤ N) (hs : 1 ≤ b → RUNS N (b - 1)) {m : Nat} {s R A v v' : RS} {t : Nat} {P : RS → Prop} {z : Int32} (hI : INV s) (hp : PRS s) (h9 : t < 998) (hb : 2 * (t : Int) ≤ fr s + 12 * op s + 2) (hc : 900 - fr s ≤ b) (hF : ∀ u, FS' s u → P u) (mR : MM t s R) (kA : KP t R A) (tA : TBL R A) (oA' : A.i 19 = R.i 19 + 1) (dA' : A.i 52 = R.i 52) (fA : fr R + 1 ≤ fr A) (tkA : tkI A = tkI R + 1) (hv : PC t 1 A v) (cA : cdI A = cdI s + 1) (A21 : A.a 21 (cdI s).toNat = 1) (A66 : (A.a 66 t).toInt = cdI A) (A64 : A.a 64 t = 10) (b46 : bel 46 (goI s) s A) (hz : z = 0 ∨ z = 1 ∧ cdI v = cdI A + 1 ∧ v.a 21 (cdI A).toNat = 2 ∧ v.a 22 (cdI A).toNat = 1) (fR : fr s + 2 ≤ fr R) (hn : 36000 + 20 ≤ (m : Int) + 40 * fr v) (iv' : INV v') (kv' : KP t v v') (tb' : TBL v v') (a71 : v'.a 71 t = z) (an : ∀ k : Nat, k ≠ 71 → v'.a k = v.a k) (ii : v'.i = v.i) (hC : ∀ (m' : Nat) (u : RS), PS t s u → fr v ≤ fr u → (m : Int) + 40 * fr v ≤ m' + 40 * fr u → ok (f_X12_parse_10 N m' u) P) : ok ((f_X12_whiles_111 N v' (v'.i 63)).bind fun p => f_X12_parse_10 N m p) P := by
  have hv' := hv
  obtain ⟨v1, v2, v3, v4, v5, v6, v7, v8, v9, v10, v11, v12⟩ := hv'
  have fv := v1.1.f0
  have cv := v1.cd
  have cs := hI.cd
  have hf := hI.1.f0
  have gos := hI.2.2.2.2.2.2.2.2.2.2.2.1
  have des := hI.2.2.2.2.2.2.2.2.2.2.2.2.1
  have ksA : KP t s A := mR.2.2.1.tr kA (Nat.le_refl _)
  have ksv : KP t s v := ksA.tr v3 (Nat.le_refl _)
  have fv' : fr v' = fr v := by unfold fr; rw [ii]
  have tv' : tpI v' = t := by unfold tpI at *; rw [ii]; exact v2
  unfold f_X12_whiles_111
  rw [tp_nat tv']
  have hN1 : 1000 ≤ N := by omega
  obtain ⟨w, ew, x1, x2⟩ := SHO hN1 iv' 41 (by decide)
  rw [ew]
  obtain ⟨B, hB⟩ : ∃ B, B = w.2 := ⟨_, rfl⟩
  rw [← hB] at x1 x2
  show ok (((f_X12_emit N w.2 13 0).bind fun p16 => if ib (v'.i 63) 1000 then (f_X12_emit N (RS.setA p16.2 67 t p16.1) 1 0).bind fun p19 => (f_X12_loopGoal N p19.2).bind fun p21 => (f_X12_body N (RS.setA p21.2 68 t p21.1) 2).bind fun p23 => some p23 else none).bind fun p => f_X12_parse_10 N m p) P
  rw [← hB]
  clear hB ew
  have cB : cdI B = cdI v := x1.tbl.cd.trans tb'.cd
  rw [p_em 13 0 (by omega) (by omega)]
  obtain ⟨E2, hE2⟩ : ∃ E2, E2 = (EM B 13 0).setA 67 t (B.i 20) := ⟨_, rfl⟩
  have lE : LXI E2 := by rw [hE2]; exact LXI.sA (LXI.em (o := 13) (x := 0) x1.2.2.2.1) 67 t (B.i 20)
  have iE : ∀ j : Nat, j ≠ 20 → E2.i j = B.i j := fun j hj => by rw [hE2]; exact EM.i hj
  have cE : cdI E2 = cdI v + 1 := by rw [hE2]; exact (EM.cd (u := B) (o := 13) (x := 0) (by omega) (by omega)).trans (by rw [cB])
  have kE : KP t v E2 := by rw [hE2]; exact (((kv'.lx x1)).em cv.1 (by omega)).loc t _ (by omega) (by omega) (Nat.le_refl _)
  have tE : TAB E2 := by
    rw [hE2]
    have tB := iv'.2.2.2.1.lx x1
    have t1 := tB.em (o := 13) (x := 0) (by omega) (by omega)
    exact t1.tbl (TBL.loc _ t _ (by omega) (by omega)) (fun γ hγ => (t1.2.2.2.2.2.2.1 γ hγ).2) t1.2.2.2.2.2.2.2.2.2
  have E21 : E2.a 21 (cdI v).toNat = 13 := by rw [hE2, setA_nk (by decide), EM.a21, if_pos (by rw [cB])]
  have E67 : (E2.a 67 t).toInt = cdI v := by rw [hE2, setA_at]; exact cB
  have aE : ∀ k : Nat, k ≠ 21 → k ≠ 22 → k ≠ 23 → k ≠ 67 → E2.a k = B.a k := fun k h1 h2 h3 h4 => by rw [hE2, setA_nk h4, EM.a h1 h2 h3]
  have bE : E2.b 9 = B.b 9 := by rw [hE2]; rfl
  have mE : MM t s B → MM t s E2 := fun mB => by
    rw [hE2]
    have raw := mB.2.2.2.2.2.1
    refine (mB.em hI ?_).loc _ (by omega) (by omega)
    unfold RATE at v6
    have := mB.2.2.2.2.2.2.1
    have : fr v + 1 ≤ fr B ∨ ¬ B.i 15 = 0 := by
      rcases x2 with q | q
      · exact Or.inr q
      · exact Or.inl (by have := q.2.2.2.1; omega)
    rcases this with q | q
    · omega
    · exact absurd mB.1.2.2.1 q
  show ok ((if ib (v'.i 63) 1000 then (f_X12_emit N ((EM B 13 0).setA 67 t (B.i 20)) 1 0).bind fun p19 => (f_X12_loopGoal N p19.2).bind fun p21 => (f_X12_body N (RS.setA p21.2 68 t p21.1) 2).bind fun p23 => some p23 else none : Option RS).bind fun p => f_X12_parse_10 N m p) P
  rw [if_pos (tp_ib tv' (by omega)), ← hE2]
  clear hE2
  rw [p_em 1 0 (by omega) (by omega)]
  obtain ⟨U, hU⟩ : ∃ U, U = EM E2 1 0 := ⟨_, rfl⟩
  have lU : LXI U := by rw [hU]; exact LXI.em lE
  have iU : ∀ j : Nat, j ≠ 20 → U.i j = B.i j := fun j hj => by rw [hU, EM.i hj]; exact iE j hj
  have cU : cdI U = cdI v + 2 := by rw [hU, EM.cd (by omega) (by omega)]; omega
  have kU : KP t v U := by rw [hU]; exact kE.em cv.1 (by omega)
  have tU : TAB U := by rw [hU]; exact tE.em (by omega) (by omega)
  have U21 : U.a 21 (cdI v).toNat = 13 := by rw [hU, EM.a21, if_neg (by omega)]; exact E21
  have U21' : U.a 21 (cdI v + 1).toNat = 1 := by rw [hU, EM.a21, if_pos (by rw [cE])]
  have aU : ∀ k : Nat, k ≠ 21 → k ≠ 22 → k ≠ 23 → U.a k = E2.a k := fun k h1 h2 h3 => by rw [hU, EM.a h1 h2 h3]
  have mU : MM t s B → MM t s U := fun mB => by
    have mE2 := mE mB
    rw [hU]
    refine mE2.em hI ?_
    have fE : fr E2 = fr B := by unfold fr; rw [iE 11 (by decide)]
    unfold RATE at v6
    rcases x2 with q | q
    · exact absurd mB.1.2.2.1 q
    · have := q.2.2.2.1; omega
  show ok (((f_X12_loopGoal N (EM E2 1 0)).bind fun p21 => (f_X12_body N (RS.setA p21.2 68 t p21.1) 2).bind fun p23 => some p23).bind fun p => f_X12_parse_10 N m p) P
  rw [← hU]
  clear hU
  have iUv : ∀ j : Nat, j < 10 ∨ 18 ≤ j → j ≠ 19 → j ≠ 20 → U.i j = v.i j := fun j h1 h2 h3 => by rw [iU j h3, x1.2.2.1 j h1 h2, ii]
  have eA43 : A.i 43 = s.i 43 := (tA.2.2 43 (by omega) (by omega) (by omega) (by omega)).trans mR.2.2.2.1.2.1
  have eA52 : A.i 52 = s.i 52 := dA'.trans mR.2.2.2.1.2.2.1
  have gvs : goI v = goI s := by unfold goI; rw [v4.2.1, eA43]
  have gU : goI U = goI s := by
    have : goI U = goI v := by unfold goI; rw [iUv 43 (by omega) (by decide) (by decide)]
    omega
  have dU : deI U = deI s := by unfold deI; rw [iUv 52 (by omega) (by decide) (by decide), v4.2.2.1, eA52]
  have gos4 : goI U < 460 := by omega
  obtain ⟨V, eV, hV⟩ := p_lg (N := N) hN1 (u := U) (by omega) gos4
  rw [eV]
  show ok (((f_X12_body N (RS.setA V 68 t (U.i 43)) 2).bind fun p23 => some p23).bind fun p => f_X12_parse_10 N m p) P
  have F1 := hV.f (t := t) (s := s) (ksv.tr kU (Nat.le_refl _)) tU gos.1 gos4 (by omega)
  have F2 := hV.f (t := t) (s := v) kU tU (by omega) gos4 (by omega)
  obtain ⟨γ0, hγ0⟩ : ∃ γ0, γ0 = (U.i 43).toNatClampNeg := ⟨_, rfl⟩
  rw [← hγ0] at F1 F2
  obtain ⟨p1, p2, p3, p4, p5, p6, p7, p8, p9, p10, p11, p12, p13⟩ := id F1
  have kvV := F2.2.2.2.2.2.2.2.2.2.2.2.1
  obtain ⟨B2, hB2⟩ : ∃ B2, B2 = V.setA 68 t (U.i 43) := ⟨_, rfl⟩
  have i2 : B2.i = V.i := by rw [hB2]; rfl
  have a2 : ∀ k : Nat, k ≠ 68 → B2.a k = V.a k := fun k hk => by rw [hB2]; exact setA_nk hk
  have a68 : B2.a 68 t = U.i 43 := by rw [hB2]; exact setA_at
  have k2 : KP t s B2 := by rw [hB2]; exact p12.loc t _ (by omega) (by omega) (Nat.le_refl _)
  have kv2 : KP t v B2 := by rw [hB2]; exact kvV.loc t _ (by omega) (by omega) (Nat.le_refl _)
  have tb2 : TBL V B2 := by rw [hB2]; exact TBL.loc V t _ (by omega) (by omega)
  have b2 : B2.b = V.b := by rw [hB2]; rfl
  rw [← hB2]
  clear hB2
  have ib2 : ∀ j : Nat, j ≠ 43 → B2.i j = U.i j := fun j hj => by rw [i2]; exact p3 j hj
  have l2 : LXI B2 := lU.of (ib2 2 (by decide)) (ib2 10 (by decide)) (ib2 11 (by decide)) (ib2 12 (by decide)) (ib2 14 (by decide)) (by rw [b2]; exact p4)
  have t2 : tpI B2 = t := by
    unfold tpI
    rw [ib2 63 (by decide), iUv 63 (by omega) (by decide) (by decide)]
    exact v2
  have r75 : B2.i 75 = 0 ∨ B2.i 75 = 1 := by rw [ib2 75 (by decide), iUv 75 (by omega) (by decide) (by decide)]; exact v1.r
  rcases BODY (N := N) (u := B2) 2 l2 t2 h9 with ⟨S, eS, y1, y2⟩ | ⟨eS, y1⟩
  · rw [eS]
    exact lp_f y2 (hF S (FS'.of k2.1.1 y1 y2 r75)) (by omega)
  rw [eS]
  show ok (f_X12_parse_10 N m (TH B2 t 2 2)) P
  have b15 : B.i 15 = 0 := by rw [← iU 15 (by decide), ← ib2 15 (by decide)]; exact y1
  rcases x2 with q | ⟨-, y3, y4, y5, y6⟩
  · exact absurd b15 q
  have mB : MM t s B := MM.clo2 hI mR kA tA oA' dA' fA tkA iv' tv' (v3.tr kv' (Nat.le_refl _)) ⟨by rw [ii]; exact v4.1, by rw [ii]; exact v4.2.1, by rw [ii]; exact v4.2.2.1, by rw [ii]; exact v4.2.2.2⟩ (by rw [ii]; exact v5) (v6.tr (tb'.rate (by omega) (by unfold tkI fr; rw [ii]; omega))) (by omega) (by unfold tkI at *; rw [ii]; omega) x1 b15 y4 y5 y6
  have mU' := mU mB
  have fU : fr U = fr B := by unfold fr; rw [iU 11 (by decide)]
  have iV : INV V := inv_lgr mU'.1 F1 (by omega)
  have iB2 : INV B2 := iV.tbl tb2 l2 y1 (by rw [i2]) (by rw [i2]) r75 (by unfold fr; rw [i2]; exact Int.le_refl _) (by have := iV.tk; unfold tkI fr at *; rw [i2]; exact this)
  have f2 : fr B2 = fr B := by unfold fr; rw [ib2 11 (by decide), iU 11 (by decide)]
  have kg := (ksv.tr kU (Nat.le_refl _)).2.2.2.2.2.2.1
  have b46U : bel 46 (goI s) s U := fun j hj => by
    rw [aU 46 (by decide) (by decide) (by decide), aE 46 (by decide) (by decide) (by decide) (by decide), x1.1, an 46 (by decide), v10.1 j (by have : goI A = goI s := by { unfold goI; rw [eA43] }; omega)]
    exact b46 j hj
  have prl : PRL B2 := (PRS.lgr hp hV gU kg.2.1 b46U (by omega) gos4).tbl tb2
  have o2 : op B2 = op s := by
    have : op B2 = op U := by unfold op; rw [ib2 19 (by decide)]
    have := mU'.2.2.2.1.eOp
    omega
  have f2f := iB2.1.f0
  refine CALLS (hs (by omega)) iB2 prl.prs t2 (by omega) (by omega) (by omega) (by omega) (fun u hu => hF u (FS'.kp k2 hu)) (fun m4 v2' hv2 hf2 hm4 => ?_)
  have fv2 := hv2.1.1.f0
  obtain ⟨m5, rfl⟩ : ∃ m5, m4 = m5 + 1 := ⟨m4 - 1, by omega⟩
  have push5 : ((m5 + 1 : Nat) : Int) = (m5 : Int) + 1 := by omega
  rw [push5] at hm4
  have aB : ∀ k : Nat, 64 ≤ k → k ≤ 73 → k ≠ 68 → k ≠ 67 → k ≠ 71 → k ≠ 65 → B2.a k t = A.a k t := fun k h1 h2 h3 h4 h5 h6 => by
    rw [a2 k h3, p5 k (by omega), aU k (by omega) (by omega) (by omega), aE k (by omega) (by omega) (by omega) h4, x1.1, an k h5, v12 k h1 h2 h6]
  have cA' : cdI B2 = cdI v + 2 := by
    have : cdI B2 = cdI U := by unfold cdI; rw [ib2 20 (by decide)]
    omega
  have a21 : ∀ j : Nat, B2.a 21 j = U.a 21 j := fun j => by rw [a2 21 (by decide), p5 21 (by omega)]
  have hdB : ∀ b : Bool, hd B2 b γ0 = -1 := fun b => by
    have : hd B2 b γ0 = hd V b γ0 := by
      unfold hd gv
      rw [a2 _ (by rcases bk_cases b with e | e <;> rw [e] <;> decide)]
    rw [this]; exact p9 b
  refine WH3 (m := m5) (s := s) (A := A) (v := v) (B2 := B2) (v2 := v2') (t := t) (γ0 := γ0) (z := z) hN hI h9 ksA cA A21 ((tA.2.2 38 (by omega) (by omega) (by omega) (by omega)).trans mR.2.2.2.2.1) eA52 (by omega) v9 hz v3 v1 (v4.2.2.1.trans eA52) v7 v6 gvs kv2 cA' (by rw [a21]; exact U21) (by rw [a21]; exact U21') ?_ ?_ ?_ ?_ (by omega) ?_ (by omega) ?_ ?_ ?_ hdB ?_ ?_ ?_ ?_ ?_ ?_ hv2 (by omega) (fun m' u' hu' hf' hm' => hC m' u' hu' (by omega) (by omega))
  · exact (ib2 38 (by decide)).trans mU'.2.2.2.2.1
  · exact (ib2 19 (by decide)).trans mU'.2.2.2.1.1
  · exact (ib2 52 (by decide)).trans mU'.2.2.2.1.2.2.1
  · exact (ib2 56 (by decide)).trans mU'.2.2.2.1.2.2.2
  · have := mU'.2.2.2.2.2.2.2
    have e : tkI B2 = tkI U := by unfold tkI; rw [ib2 17 (by decide)]
    omega
  · have : goI B2 = goI V := by unfold goI; rw [i2]
    omega
  · rw [a2 44 (by decide)]; exact p7
  · unfold gv
    rw [a2 47 (by decide), p8]
    exact dU
  · exact mU'.2.2.2.2.2.1.cg ib2
  · rw [aB 64 (by omega) (by omega) (by decide) (by decide) (by decide) (by decide)]; exact A64
  · rw [aB 66 (by omega) (by omega) (by decide) (by decide) (by decide) (by decide)]; exact A66
  · rw [a2 67 (by decide), p5 67 (by omega), aU 67 (by decide) (by decide) (by decide)]; exact E67
  · rw [a68]
    show goI U = γ0
    omega
  · rw [a2 71 (by decide), p5 71 (by omega), aU 71 (by decide) (by decide) (by decide), aE 71 (by decide) (by decide) (by decide) (by decide), x1.1]; exact a71
theorem run_while {N b : Nat} (hN : 4000 ≤ N) (hc' : 1 ≤ b → RUNE N 20 1 20 15 (b - 1)) (hs : 1 ≤ b → RUNS N (b - 1)) : RUNU N b 10 (fun x => x = 415) := by
  intro n s u t P hI hp ht hu tu u15 hT hz h9 hb hc hn n1 hF hC
  have hf := hI.1.f0
  have cs := hI.cd
  refine lp_10 tu (by omega) u15 hu.2.2.2.2.2.2.1 ?_
  unfold f_X12_whiles
  rw [if_pos (tp_ib tu (by omega)), tp_nat tu, if_pos hu.2.2.2.2.2.2.2.1]
  have hN1 : 1000 ≤ N := by omega
  obtain ⟨R0, eR, hR, xR⟩ := STA hN1 hI ht hz hu
  have mR0 := hR.mm
  obtain ⟨r1, r2, r3, r4, r5, r6, r7, r8, r9, r10, r11, r12, r13, r14⟩ := hR
  have r13 := r13 (by rw [hT]; decide)
  rw [eR]
  show ok (((f_X12_open N (RS.setA R0 66 t (R0.i 20)) 40).bind fun p5 => (if (p5.2.i 10) = 432 then f_X12_whiles_77 N (RS.setA p5.2 69 t (p5.2.i 17)) else f_X12_whiles_77 N (RS.setA p5.2 69 t 0))).bind fun p => f_X12_parse_10 N n p) P
  obtain ⟨R, hRR⟩ : ∃ R, R = R0.setA 66 t (R0.i 20) := ⟨_, rfl⟩
  have mR : MM t s R := by rw [hRR]; exact mR0.loc _ (by omega) (by omega)
  have aR : ∀ k : Nat, k ≠ 66 → R.a k = R0.a k := fun k hk => by rw [hRR]; exact setA_nk hk
  have a66 : R.a 66 t = R0.i 20 := by rw [hRR]; exact setA_at
  have iR : R.i = R0.i := by rw [hRR]; rfl
  rw [← hRR]
  clear hRR
  have fR : fr R = fr R0 := by unfold fr; rw [iR]
  have oR : op R = op s := mR.2.2.2.1.eOp
  obtain ⟨p, ep, hpp⟩ := OPO (t := t) hN1 mR.1 40 (by decide)
  rw [ep]
  have e69 : ∃ y : Int32, ((if (p.2.i 10) = 432 then f_X12_whiles_77 N (RS.setA p.2 69 t (p.2.i 17)) else f_X12_whiles_77 N (RS.setA p.2 69 t 0)) : Option RS) = f_X12_whiles_77 N (RS.setA p.2 69 t y) ∧ (y = 0 ∨ p.2.i 10 = 432 ∧ y = p.2.i 17) := by
    by_cases c : p.2.i 10 = 432
    · rw [if_pos c]; exact ⟨_, rfl, Or.inr ⟨c, rfl⟩⟩
    · rw [if_neg c]; exact ⟨_, rfl, Or.inl rfl⟩
  obtain ⟨y, ey, hy⟩ := e69
  show ok (((if (p.2.i 10) = 432 then f_X12_whiles_77 N (RS.setA p.2 69 t (p.2.i 17)) else f_X12_whiles_77 N (RS.setA p.2 69 t 0)) : Option RS).bind fun p => f_X12_parse_10 N n p) P
  rw [ey]
  unfold f_X12_whiles_77
  rcases hpp with ⟨p1, p2, p3⟩ | ⟨p1, p2, p3, q1, q2, q3, q4, q5, q6, q7, q8, q9, q10, q11⟩
  · rw [p_th 1 20 (u := p.2.setA 69 t y) (p2.tp.trans mR.2.1) (by omega)]
    exact lp_f (u := TH (p.2.setA 69 t y) t 1 20) p1 (hF _ (FS'.th ((FS'.of mR.2.2.1.1.1 p2 p1 mR.1.r).loc t y (by omega) (by omega)))) n1
  obtain ⟨A, hA⟩ : ∃ A, A = p.2.setA 69 t y := ⟨_, rfl⟩
  have iA : INV A := by rw [hA]; exact q1.loc t y (by omega) (by omega)
  have kA : KP t R A := by rw [hA]; exact q3.loc t y (by omega) (by omega) (Nat.le_refl _)
  have tA : TBL R A := by rw [hA]; exact q4.tr (TBL.loc _ t y (by omega) (by omega))
  have iiA : A.i = p.2.i := by rw [hA]; rfl
  have aA : ∀ k : Nat, k ≠ 69 → A.a k = R.a k := fun k hk => by rw [hA, setA_nk hk, q10]
  have a69 : A.a 69 t = y := by rw [hA]; exact setA_at
  have tpA : tpI A = t := by unfold tpI; rw [iiA]; exact q2.trans mR.2.1
  rw [← hA]
  clear hA
  have fA : fr A = fr p.2 := by unfold fr; rw [iiA]
  have tkA : tkI A = tkI R + 1 := by have : tkI A = tkI p.2 := by { unfold tkI; rw [iiA] }; omega
  have oA : op A = op s + 1 := by have : op A = op p.2 := by { unfold op; rw [iiA] }; omega
  have fAf := iA.1.f0
  rw [p_th 1 20 tpA (by omega)]
  show ok (f_X12_parse_10 N n (TH A t 1 20)) P
  have ksA : KP t s A := mR.2.2.1.tr kA (Nat.le_refl _)
  refine CALL (hc' (by omega)) iA tpA (by omega) (by omega) (by omega) (by omega) (fun u hu => hF u (FS'.kp ksA hu)) (fun m v hv hm => ?_)
  have hv' := hv
  obtain ⟨v1, v2, v3, v4, v5, v6, v7, v8, v9, v10, v11, v12⟩ := hv'
  have fv := v1.1.f0
  obtain ⟨m3, rfl⟩ : ∃ m3, m = m3 + 1 := ⟨m - 1, by omega⟩
  have push3 : ((m3 + 1 : Nat) : Int) = (m3 : Int) + 1 := by omega
  rw [push3] at hm
  have A64 : A.a 64 t = 10 := by rw [aA 64 (by decide), aR 64 (by decide)]; exact r11
  refine lp_10 v2 (by omega) v1.2.2.1 ((v12 64 (by omega) (by omega) (by omega)).trans A64) ?_
  unfold f_X12_whiles
  rw [if_pos (tp_ib v2 (by omega)), tp_nat v2, if_neg (by rw [v11]; decide), if_pos v11]
  have v69 : v.a 69 t = y := (v12 69 (by omega) (by omega) (by omega)).trans a69
  obtain ⟨z, ez, hz'⟩ := p_jt (N := N) (v := v) (v.a 69 t)
  rw [ez]
  have e71 : ((if z = 0 then f_X12_whiles_111 N (RS.setA v 71 t 0) (v.i 63) else f_X12_whiles_111 N (RS.setA v 71 t 1) (v.i 63)) : Option RS) = f_X12_whiles_111 N (RS.setA v 71 t z) (v.i 63) := by
    rcases hz' with c | c
    · rw [if_pos c, c]
    · rw [if_neg (by rw [c.1]; decide), c.1]
  show ok (((if z = 0 then f_X12_whiles_111 N (RS.setA v 71 t 0) (v.i 63) else f_X12_whiles_111 N (RS.setA v 71 t 1) (v.i 63)) : Option RS).bind fun p => f_X12_parse_10 N m3 p) P
  rw [e71]
  have cA : cdI A = cdI s + 1 := by
    have : cdI A = cdI R := tA.cd
    have : cdI R = cdI R0 := by unfold cdI; rw [iR]
    omega
  have hzz : z = 0 ∨ z = 1 ∧ cdI v = cdI A + 1 ∧ v.a 21 (cdI A).toNat = 2 ∧ v.a 22 (cdI A).toNat = 1 := by
    rcases hz' with c | ⟨c1, c2, c3⟩
    · exact Or.inl c
    · right
      rw [v69] at c2 c3
      rcases hy with h | ⟨h1, h2⟩
      · rw [h] at c2; exact absurd (by decide) c2
      · have e10 : A.i 10 = 432 := by rw [iiA]; exact h1
        have e17 : v.i 17 = A.i 17 + 1 := by rw [c3, h2, iiA]
        have tk : tkI v = tkI A + 1 := tk_add e17 ⟨iA.tk.1, by have := iA.tk; omega⟩
        exact ⟨c1, v10.2 e10 tk⟩
  obtain ⟨v', hv71⟩ : ∃ v', v' = v.setA 71 t z := ⟨_, rfl⟩
  have iv' : INV v' := by rw [hv71]; exact v1.loc t z (by omega) (by omega)
  have kv' : KP t v v' := by rw [hv71]; exact (KP.rf t v).loc t z (by omega) (by omega) (Nat.le_refl _)
  have tb' : TBL v v' := by rw [hv71]; exact TBL.loc v t z (by omega) (by omega)
  have a71 : v'.a 71 t = z := by rw [hv71]; exact setA_at
  have an : ∀ k : Nat, k ≠ 71 → v'.a k = v.a k := fun k hk => by rw [hv71]; exact setA_nk hk
  have ii : v'.i = v.i := by rw [hv71]; rfl
  rw [← hv71]
  have e63 : v.i 63 = v'.i 63 := by rw [ii]
  rw [e63]
  clear hv71
  have b46 : bel 46 (goI s) s A := fun j _ => by rw [aA 46 (by decide), aR 46 (by decide), r14 46 (by decide) (by decide) (by decide) (by decide)]
  have A66 : (A.a 66 t).toInt = cdI A := by
    rw [aA 66 (by decide), a66]
    show cdI R0 = cdI A
    omega
  have A21 : A.a 21 (cdI s).toNat = 1 := by rw [aA 21 (by decide), aR 21 (by decide)]; exact r10
  exact WH2 hN hs hI hp h9 hb hc hF mR kA tA (by rw [iiA]; exact q5) (by rw [iiA]; exact q7) (by omega) tkA hv cA A21 A66 A64 b46 hzz (by omega) (by omega) iv' kv' tb' a71 an ii (fun m' u' hu' hf' hm' => hC m' u' hu' (by omega) (by omega))
end
section
/-! reading: labels -/
theorem LEND0 {N n : Nat} {s v W : RS} {t : Nat} {P : RS → Prop} {x : Int32} (h9 : t < 998) (hx : x = 0 ∨ x = 1) (hC : ∀ (u : RS), PS t s u → fr v ≤ fr u → ok (f_X12_parse_10 N n u) P) (hI : INV s) (he : EQT v W) (hc : CHN v W) (hcv : cdI v ≤ cdI W) (gW : goI W = goI s) (gV : goI s ≤ goI v) (kW : KP t s W) (i2 : INV v) (wi : ∀ j : Nat, j ≠ 20 → j ≠ 38 → j ≠ 43 → j ≠ 52 → W.i j = v.i j) (tp : tpI v = t) (kv : KP t s v) (e19 : v.i 19 = s.i 19) (e52 : W.i 52 = s.i 52) (e56 : v.i 56 = s.i 56) (hse2 : seI W ≤ seI v) (snW : SNW s W) (ra : RATE s v) (hcd : cdI W - cdI s ≤ 3 * (fr v - fr s)) (f1 : fr s ≤ fr v) (tk1 : tkI s ≤ tkI v) (hT : ¬ 0 ≤ v.i 18 → TS s (W.setI 75 x)) : ok (((f_X12_over N W x).bind fun p => some p).bind fun p => f_X12_parse_10 N n p) P := by
  have t2 := i2.2.2.2.1
  have e43 : W.i 43 = s.i 43 := Int32.toInt_inj.mp gW
  have fW : fr W = fr v := by unfold fr; rw [wi 11 (by decide) (by decide) (by decide) (by decide)]
  have tkW : tkI W = tkI v := by unfold tkI; rw [wi 17 (by decide) (by decide) (by decide) (by decide)]
  have lW : LXI W := i2.1.of (wi 2 (by decide) (by decide) (by decide) (by decide)) (wi 10 (by decide) (by decide) (by decide) (by decide)) (wi 11 (by decide) (by decide) (by decide) (by decide)) (wi 12 (by decide) (by decide) (by decide) (by decide)) (wi 14 (by decide) (by decide) (by decide) (by decide)) he.2.1
  have kg := kv.2.2.2.2.2.2.1
  have kw := kv.2.2.2.2.2.2.2.2.1
  have waE : waI v = waI s := by unfold waI; rw [e56]
  have deE : deI W = deI s := by unfold deI; rw [e52]
  have ts := hI.2.2.2.1
  have tW : TAB W := t2.fin he hc hcv (by omega) hse2 (fun γ hγ => by
    have := (ts.2.2.2.2.2.2.1 γ (by omega)).2
    have e : gv v 47 γ = gv s 47 γ := by unfold gv; rw [kg.2.2.1 γ (by omega)]
    omega) (fun w hw => by
    have := (ts.2.2.2.2.2.2.2.2.1 w (by omega)).2.2.2
    have e : gv v 58 w = gv s 58 w := by unfold gv; rw [kw.2.2 w (by omega)]
    omega) (by rw [wi 75 (by decide) (by decide) (by decide) (by decide)]; exact i2.r)
  have sm : SAME s W := ⟨(wi 19 (by decide) (by decide) (by decide) (by decide)).trans e19, e43, e52, (wi 56 (by decide) (by decide) (by decide) (by decide)).trans e56⟩
  have rt : RATE s W := by
    have q2 := he.en
    have q3 := he.tt
    have q4 := he.ca
    have q5 := he.sl
    have q6 := he.pe
    unfold RATE at *
    rw [q2, q3, q4, q5, q6, fW, tkW]
    omega
  have iW : INV W := hI.mkS kW lW ((wi 15 (by decide) (by decide) (by decide) (by decide)).trans i2.2.2.1) tW sm snW rt (by omega) (by omega)
  exact IF3 (q := W) h9 hx (fun u hu hf => hC u hu (by omega)) iW (by unfold tpI at *; rw [wi 63 (by decide) (by decide) (by decide) (by decide)]; exact tp) kW sm snW rt (by omega) (by omega) (fun z => hT (fun q => z (by rw [wi 18 (by decide) (by decide) (by decide) (by decide)]; exact q)))
/-- the breaks of the last goal are filled, the goal is gone -/
def PPL (γ0 : Nat) (Lb : List Nat) (xb : Int32) (Y : Nat → Prop) (v W : RS) : Prop := EQT v W ∧ cdI v ≤ cdI W ∧ goI W = γ0 ∧ goI v = (γ0 : Int) + 1 ∧ ISCH v (hd v true γ0) Lb ∧ (∀ k : Nat, (k : Int) < cdI v → W.a 21 k = v.a 21 k ∧ (¬ Y k → W.a 23 k = v.a 23 k)) ∧ (∀ k : Nat, (k : Int) < cdI v → k ∉ Lb → W.a 22 k = v.a 22 k) ∧ (∀ k ∈ Lb, W.a 22 k = xb)
theorem PPL.chn {γ0 : Nat} {Lb : List Nat} {xb : Int32} {Y : Nat → Prop} {v W : RS} (h : PPL γ0 Lb xb Y v W) (ht : TAB v) : CHN v W := by
  obtain ⟨h1, h2, h3, h4, h6, h7, h8, h10⟩ := h
  intro γ b L x hγ hI hx
  obtain ⟨M, m1, m2⟩ := ht.1.1 γ b (by omega)
  have e := ISCH.uniq hI m1
  subst e
  have hlt := m2 x hx
  refine ⟨(h7 x hlt).1, h8 x hlt (fun q => ?_)⟩
  have := (ht.1.2.1 γ γ0 b true _ Lb x (by omega) (by omega) hI h6 hx q).1; omega
theorem PPL.nop {γ0 : Nat} {Lb : List Nat} {xb : Int32} {Y : Nat → Prop} {v W : RS} (h : PPL γ0 Lb xb Y v W) (ht : TAB v) {k : Nat} (hk : k ∈ Lb) : ¬ OPN W k := by
  have hc := h.chn ht
  obtain ⟨h1, h2, h3, h4, h6, h7, h8, h10⟩ := h
  rintro ⟨γ, b, L, x1, x2, x3⟩
  obtain ⟨M, m1, m2⟩ := ht.1.1 γ b (by omega)
  have e := ISCH.uniq x2 (hc.eIS h1 x1 m1)
  subst e
  have := (ht.1.2.1 γ γ0 b true _ Lb k (by omega) (by omega) m1 h6 x3 hk).1; omega
theorem PPL.lat {γ0 : Nat} {Lb : List Nat} {xb : Int32} {Y : Nat → Prop} {v W s1 u1 : RS} {Z : Nat → Nat → Prop} (h : PPL γ0 Lb xb Y v W) (ht : TAB v) (hl : LAT Z s1 u1 v) (hz : ∀ k : Nat, cdI s1 ≤ k → (k : Int) < cdI u1 → ¬ Y k) : LAT Z s1 u1 W := by
  have hc := h.chn ht
  obtain ⟨h1, h2, h3, h4, h6, h7, h8, h10⟩ := h
  refine hl.fin h1 hc ht.1.1 h2 (by omega) (fun k k1 k2 => ?_)
  have hlt : (k : Int) < cdI v := by have := hl.1.1; omega
  exact ⟨(h7 k hlt).1, (h7 k hlt).2 (hz k k1 k2), fun q => h8 k hlt (fun z => q ⟨γ0, true, Lb, by omega, h6, z⟩)⟩
theorem PPL.f {γ0 : Nat} {Lb : List Nat} {xb : Int32} {Y : Nat → Prop} {s v W f : RS} (h : PPL γ0 Lb xb Y v W) (ht : TAB v) (hA : AG0 s W f) {k : Nat} (hs : SITE s v γ0 true k) : gv f 22 k = xb.toInt := by
  obtain ⟨a1, L, a2, a3⟩ := hs
  have hk : k ∈ Lb := by rw [← ISCH.uniq a2 h.2.2.2.2.1]; exact a3
  have hn := h.nop ht hk
  have hlt : (k : Int) < cdI v := by
    obtain ⟨M, m1, m2⟩ := ht.1.1 γ0 true (by have := h.2.2.2.1; omega)
    exact m2 k (by rw [← ISCH.uniq a2 m1]; exact a3)
  have e := (hA.2.2.2.2.1 k a1 (by have := h.2.1; omega)).2.2 hn
  unfold gv
  rw [e, h.2.2.2.2.2.2.2 k hk]
theorem JE.mk2 {v f : RS} {g : Gh} {γ : Nat} {b : Bool} {k h o lv : Nat} {rs : List Rec} {x : Int} (hl : cdI v ≤ x) (hx : gv f 22 k = x) (hd : (gv v 47 γ).toNat = rs.length) (hF : ARV v γ b → FL f g lv x x h o rs) : JE v f g γ b k h o lv rs := by
  have full : rs.length ≤ (gv v 47 γ).toNat := by omega
  have ord : ∀ c : Nat, c ≤ lv → c < lv ∨ c ≤ lv ∧ cdI v ≤ gv f 22 k := fun c hc => Or.inr ⟨hc, by omega⟩
  by_cases ca : ARV v γ b
  · obtain ⟨f1, f2, f3⟩ := hF ca
    by_cases cx : x < cdI f
    · obtain ⟨c, d1, d2, d3, d4, d5, d6⟩ := f3 cx
      refine ⟨c.v, ord _ (by omega), lvA_full full, fun _ _ => ⟨by rw [hx]; exact f1, by rw [hx]; exact f2, fun _ => ⟨c, by rw [hx]; exact d1, d2, ?_, d4, ?_, rfl⟩⟩⟩
      · rw [oA_full full]; exact d3
      · rw [dA_full full]; exact d5
    · exact ⟨lv, ord _ (Nat.le_refl _), lvA_full full, fun _ _ => ⟨by rw [hx]; exact f1, by rw [hx]; exact f2, fun q => by rw [hx] at q; exact absurd q cx⟩⟩
  · exact ⟨lv, ord _ (Nat.le_refl _), lvA_full full, fun q => absurd q ca⟩
theorem EJ.lab {s B2 v2 W f : RS} {g : Gh} {h o lv : Nat} {rs : List Rec} {γ0 : Nat} {Lb : List Nat} {xb : Int32} {Y : Nat → Prop} (hE : EJ s W f g h o lv rs) (hpp : PPL γ0 Lb xb Y v2 W) (ht : TAB v2) (hA : AG0 s W f) (hs : cdI s ≤ cdI B2) (hd : (gv v2 47 γ0).toNat = rs.length) (hw : ∀ w : Nat, (w : Int) < waI v2 → gv v2 58 w ≤ γ0) (hn : ¬ v2.a 44 γ0 = 0) (hcx : cdI v2 ≤ xb.toInt) (hb : v2.a 50 γ0 = 1 → FL f g lv xb.toInt xb.toInt h o rs) : EJ B2 v2 f g h o lv rs := by
  have hchn := hpp.chn ht
  have stg : STG v2 W := STG.fin hpp.1 hchn hpp.2.1 (by have := hpp.2.2.1; have := hpp.2.2.2.1; omega)
  intro γ b k a1 a2 a3
  by_cases e : γ = γ0
  · subst e
    cases b
    · rcases a2 with a2 | a2
      · exact absurd a2 (by decide)
      · exact absurd a2 hn
    · have hs' : SITE s v2 γ true k := ⟨by have := a3.1; omega, a3.2⟩
      exact JE.mk2 hcx (hpp.f ht hA hs') hd (fun q => hb (q.top ht hw))
  · exact JE.stg hE stg ht.1.1 hs (Nat.le_refl _) (by have := a1.1; have := hpp.2.2.1; have := hpp.2.2.2.1; omega) a1 a2 a3
theorem TS.label {t : Nat} {s B2 v2 W : RS} {xb : Int32} {γ0 : Nat} {Lb : List Nat} (hI : INV s) (kB : KP t s B2) (cB : cdI B2 = cdI s) (B38 : B2.i 38 = s.i 38) (B52 : B2.i 52 = s.i 52) (fB : fr s ≤ fr B2) (g0 : (γ0 : Int) = goI s) (gB : goI B2 = goI s + 1) (B44 : B2.a 44 γ0 = 2) (B47 : gv B2 47 γ0 = deI s) (ts : TS B2 v2) (k2 : KP t B2 v2) (i2 : INV v2) (s2 : SAME B2 v2) (f2 : fr B2 ≤ fr v2) (hpp : PPL γ0 Lb xb (fun _ => False) v2 W) (cW : cdI W = cdI v2) (hxb : xb.toInt = cdI W) (hw : ∀ w : Nat, (w : Int) < waI v2 → gv v2 58 w ≤ γ0) (hr0 : v2.i 75 = 1 → W.i 75 = 1) (hrb : v2.a 50 γ0 = 1 → W.i 75 = 1) : TS s W := by
  intro f C hA hC h o lv rs hx hy
  have fv2 := i2.1.f0
  have t2 := i2.2.2.2.1
  have L2 : LAT noZ B2 v2 W := hpp.lat t2 (LAT.rf noZ B2 v2) (fun _ _ _ q => q)
  obtain ⟨A2, C2⟩ := L2.use hA hC kB k2
  have hx2 := hx.2.1
  have kg := kB.2.2.2.2.2.2.1
  have kg2 := k2.2.2.2.2.2.2.1
  have y2 : YE B2 rs := hy.push gB g0 kg.2.1 kg.2.2.1 (by rw [B44]; decide)
  have c2 := ts f C A2 C2 h o lv rs (hx.up h B52 fB (by omega) (by omega)) y2
  rw [cB] at c2
  have d47 : (gv v2 47 γ0).toNat = rs.length := by
    have e : gv v2 47 γ0 = gv B2 47 γ0 := by unfold gv; rw [kg2.2.2.1 γ0 (by omega)]
    have := hx.1
    omega
  refine c2.imp (fun g _ hE => ⟨hE.1.mid kB B38 (by omega), fun q => by rw [← cW]; exact hE.2.1 (hr0 q), ?_⟩)
  exact hE.2.2.lab hpp t2 hA (by omega) d47 hw (by rw [kg2.2.1 γ0 (by omega), B44]; decide) (by omega) (fun q => by rw [hxb]; exact hE.2.1 (hrb q))
theorem p_l8 {N : Nat} {R : RS} (x1 : Int32) (n : Int64) (x4 : Int32) (h4 : goI R ≤ 460) : ∀ (m : Nat) (σ : RS) (g : Int32), LX R σ → σ.i 19 = R.i 19 → (σ = R ∨ ¬ σ.i 15 = 0) → -1 ≤ g.toInt → g.toInt < goI R → g.toInt + 2 ≤ m → ∃ σ', f_X12_label_8 N m σ x1 n x4 g = f_X12_label_60 N σ' x1 n ∧ LX R σ' ∧ σ'.i 19 = R.i 19 ∧ (σ' = R ∨ ¬ σ'.i 15 = 0)
  | 0, σ, g, _, _, _, h1, _, h3 => by omega
  | m + 1, σ, g, hl, h19, hs, h1, h2, h3 => by
    show ∃ σ', b_X12_label_8 N (f_X12_label_8 N m) σ x1 n x4 g = _ ∧ _
    unfold b_X12_label_8
    by_cases c : g < 0
    · rw [if_pos c]; exact ⟨σ, rfl, hl, h19, hs⟩
    rw [if_neg c]
    have h0 : 0 ≤ g.toInt := by
      have : ¬ g.toInt < (0 : Int32).toInt := fun z => c (Int32.lt_iff_toInt_lt.mpr z)
      rw [z_t0] at this
      omega
    rw [if_pos (show ib g 460 from ⟨h0, by omega⟩)]
    have e1 : (-1 : Int32).toInt = -1 := by decide
    have ek : (g + -1).toInt = g.toInt - 1 := by rw [toInt_add] <;> rw [e1] <;> omega
    have go : ∀ τ : RS, LX R τ → τ.i 19 = R.i 19 → (τ = R ∨ ¬ τ.i 15 = 0) → ∃ σ', f_X12_label_8 N m τ x1 n x4 (g + -1) = f_X12_label_60 N σ' x1 n ∧ LX R σ' ∧ σ'.i 19 = R.i 19 ∧ (σ' = R ∨ ¬ σ'.i 15 = 0) := fun τ a b c => p_l8 x1 n x4 h4 m τ (g + -1) a b c (by omega) (by omega) (by omega)
    by_cases c3 : σ.a 44 g.toNatClampNeg = 3
    · rw [if_pos c3]; exact ⟨σ, rfl, hl, h19, hs⟩
    rw [if_neg c3]
    by_cases c2 : σ.a 44 g.toNatClampNeg = 2
    · rw [if_pos c2]
      by_cases cl : lg_cmp (σ.b 45 g.toNatClampNeg) n = 0
      · rw [if_pos cl]
        obtain ⟨S, eS, r1, r2, r3⟩ := p_fl (N := N) hl.2.2.2.1 4 x4 (by decide)
        rw [eS]
        exact go S (hl.tr r1) (r3.trans h19) (Or.inr r2)
      · rw [if_neg cl]; exact go σ hl h19 hs
    · rw [if_neg c2]; exact go σ hl h19 hs
theorem p_l125 {N : Nat} : ∀ (m : Nat) (σ : RS) (h : Int32), -1 ≤ h.toInt → h.toInt < 460 → h.toInt + 2 ≤ m → ∃ Z, f_X12_label_125 N m σ h = f_X12_label_188 N Z ∧ Z.i = σ.i ∧ Z.b = σ.b ∧ (∀ k : Nat, k ≠ 46 → Z.a k = σ.a k) ∧ (∀ δ : Nat, Z.a 46 δ = σ.a 46 δ ∨ (δ : Int) ≤ h.toInt ∧ Z.a 46 δ = -3 ∧ ∀ ε : Nat, δ ≤ ε → (ε : Int) ≤ h.toInt → σ.a 44 ε = 2 ∧ σ.a 46 ε = -2)
  | 0, σ, h, h1, _, h3 => by omega
  | m + 1, σ, h, h1, h2, h3 => by
    show ∃ Z, b_X12_label_125 N (f_X12_label_125 N m) σ h = _ ∧ _
    unfold b_X12_label_125 f_X12_label_168
    have stop : ∃ Z, f_X12_label_188 N σ = f_X12_label_188 N Z ∧ Z.i = σ.i ∧ Z.b = σ.b ∧ (∀ k : Nat, k ≠ 46 → Z.a k = σ.a k) ∧ (∀ δ : Nat, Z.a 46 δ = σ.a 46 δ ∨ (δ : Int) ≤ h.toInt ∧ Z.a 46 δ = -3 ∧ ∀ ε : Nat, δ ≤ ε → (ε : Int) ≤ h.toInt → σ.a 44 ε = 2 ∧ σ.a 46 ε = -2) := ⟨σ, rfl, rfl, rfl, fun _ _ => rfl, fun _ => Or.inl rfl⟩
    by_cases c : h < 0
    · rw [if_pos c]; exact stop
    rw [if_neg c]
    have h0 : 0 ≤ h.toInt := by
      have : ¬ h.toInt < (0 : Int32).toInt := fun z => c (Int32.lt_iff_toInt_lt.mpr z)
      rw [z_t0] at this
      omega
    have ci := clampI h0
    rw [if_pos (show ib h 460 from ⟨h0, by omega⟩)]
    by_cases c2 : σ.a 44 h.toNatClampNeg = 2
    · rw [if_pos c2]
      by_cases c3 : σ.a 46 h.toNatClampNeg = -2
      · rw [if_pos c3]
        have e1 : (-1 : Int32).toInt = -1 := by decide
        have ek : (h + -1).toInt = h.toInt - 1 := by rw [toInt_add] <;> rw [e1] <;> omega
        obtain ⟨Z, z1, z2, z3, z4, z5⟩ := p_l125 m (σ.setA 46 h.toNatClampNeg (-3)) (h + -1) (by omega) (by omega) (by omega)
        refine ⟨Z, z1, z2, z3, fun k hk => (z4 k hk).trans (setA_nk hk), fun δ => ?_⟩
        by_cases cd : δ = h.toNatClampNeg
        · right
          subst cd
          refine ⟨by omega, ?_, fun ε d1 d2 => ?_⟩
          · rcases z5 h.toNatClampNeg with q | q
            · rw [q]; exact setA_at
            · have := q.1; omega
          · have : ε = h.toNatClampNeg := by omega
            subst this
            exact ⟨c2, c3⟩
        · rcases z5 δ with q | ⟨q1, q2, q3⟩
          · left; rw [q]; exact setA_ne cd
          · right
            refine ⟨by omega, q2, fun ε d1 d2 => ?_⟩
            by_cases ce : ε = h.toNatClampNeg
            · subst ce; exact ⟨c2, c3⟩
            · have := q3 ε d1 (by omega)
              exact ⟨this.1, (setA_ne ce).symm.trans this.2⟩
      · rw [if_neg c3]; exact stop
    · rw [if_neg c2]; exact stop
end
section
/-! reading: labels and names: their frames -/
theorem NAM3 {N : Nat} (hN : 4000 ≤ N) {m : Nat} {s Z v : RS} {t γ0 : Nat} {P : RS → Prop} (hI : INV s) (h9 : t < 998) (kZ : KP t s Z) (cZ : cdI Z = cdI s) (Z38 : Z.i 38 = s.i 38) (Z19 : Z.i 19 = s.i 19) (Z52 : Z.i 52 = s.i 52) (Z56 : Z.i 56 = s.i 56) (fZ : fr s + 1 ≤ fr Z) (tkZ : tkI s ≤ tkI Z) (g0 : (γ0 : Int) = goI s) (gZ : goI Z = goI s + 1) (Z44 : Z.a 44 γ0 = 2) (Z47 : gv Z 47 γ0 = deI s) (hdZ : ∀ b : Bool, hd Z b γ0 = -1) (raZ : RATE s Z) (Z64 : Z.a 64 t = 5) (Z66 : (Z.a 66 t).toInt = γ0) (hv : PCS t 1 Z v) (hC : ∀ (u : RS), PS t s u → fr v ≤ fr u → ok (f_X12_parse_10 N m u) P) : ok (f_X12_parse_10 N (m + 1) v) P := by
  have hv' := hv
  obtain ⟨w1, w2, w3, w4, w5, w6, w7, w8, w9, w10, w11⟩ := hv'
  have fv := w1.1.f0
  have cw := w1.cd
  have cs := hI.cd
  have le2 := w3.2.1.1
  have hf := hI.1.f0
  have gos := hI.2.2.2.2.2.2.2.2.2.2.2.1
  have g2 : goI v = (γ0 : Int) + 1 := by have := w4.go; omega
  have e66 : (v.a 66 t).toInt = γ0 := by rw [w11 66 (by omega) (by omega) (by omega)]; exact Z66
  have n66 := k_nat e66
  refine lp_5 w2 (by omega) w1.2.2.1 ((w11 64 (by omega) (by omega) (by omega)).trans Z64) ?_
  unfold f_X12_named
  rw [if_pos (tp_ib w2 (by omega)), tp_nat w2, if_pos w10, if_pos (show ib (v.a 66 t) 460 from ⟨by omega, by omega⟩), n66]
  obtain ⟨Lb, b1, b2⟩ := w1.tn γ0 true (by omega)
  have e1 := p_pt (N := N) hN (σ := v) (site := v.a 48 γ0) (w := v.i 20) b1 (fun x hx => by have := b2 x hx; omega)
  obtain ⟨Q, hQ⟩ : ∃ Q, Q = PT (v.i 20) Lb v := ⟨_, rfl⟩
  have i1 : Q.i = v.i := by rw [hQ]; exact PT.eI
  have a1 : ∀ k : Nat, k ≠ 22 → Q.a k = v.a k := fun k hk => by rw [hQ]; exact PT.eA hk
  have a22 : ∀ j : Nat, Q.a 22 j = if j ∈ Lb then v.i 20 else v.a 22 j := fun j => by rw [hQ]; exact PT.e22 j
  have bb1 : Q.b = v.b := by rw [hQ]; exact PT.eB
  rw [← hQ] at e1
  clear hQ
  rw [e1]
  show ok ((if (Q.i 75) = 0 then (if (Q.a 50 γ0) = 0 then (f_X12_over N (RS.setI Q 43 ((Q.i 43) - 1)) 0).bind fun p51 => some p51 else (f_X12_over N (RS.setI Q 43 ((Q.i 43) - 1)) 1).bind fun p53 => some p53) else (f_X12_over N (RS.setI Q 43 ((Q.i 43) - 1)) 1).bind fun p48 => some p48 : Option RS).bind fun p => f_X12_parse_10 N m p) P
  rw [i1, a1 50 (by decide)]
  obtain ⟨W, hW⟩ : ∃ W, W = RS.setI Q 43 ((v.i 43) - 1) := ⟨_, rfl⟩
  have wa : W.a = Q.a := by rw [hW]; rfl
  have wi : ∀ j : Nat, j ≠ 43 → W.i j = v.i j := fun j h2 => by rw [hW]; exact (if_neg h2).trans (by rw [i1])
  have w43 : goI W = γ0 := by
    have e : W.i 43 = v.i 43 - 1 := by rw [hW]; rfl
    have e1' : (1 : Int32).toInt = 1 := by decide
    have g2' : (v.i 43).toInt = (γ0 : Int) + 1 := g2
    unfold goI
    rw [e, toInt_sub] <;> rw [e1'] <;> omega
  have wb : W.b = v.b := by rw [hW]; exact bb1
  rw [← hW]
  clear hW
  have cW : cdI W = cdI v := by unfold cdI; rw [wi 20 (by decide)]
  have hpp : PPL γ0 Lb (v.i 20) (fun _ => False) v W := by
    refine ⟨⟨fun k h1 h2 => by rw [wa]; exact a1 k (by omega), by rw [wb], fun j h1 h2 h3 h4 h5 h6 => wi j h3⟩, by omega, w43, g2, b1, fun k hk => ⟨by rw [wa, a1 21 (by decide)], fun _ => by rw [wa, a1 23 (by decide)]⟩, fun k hk h1 => by rw [wa, a22, if_neg h1], fun k hk => by rw [wa, a22, if_pos hk]⟩
  have ksv : KP t s v := kZ.tr w3 (Nat.le_refl _)
  have snZ : SNW s Z := SNW.eq Z38 kZ.2.2.2.2.2.1.2.1
  have sn2 : SNW s v := snZ.tr w6 kZ w3
  have ra2 : RATE s v := raZ.tr w5
  have seW : seI W = seI v := by unfold seI; rw [wi 38 (by decide)]
  have slW : slI W = slI v := hpp.1.sl
  have snW : SNW s W := by
    refine ⟨by have := sn2.1; omega, fun y y1 y2 => ?_⟩
    have e : gv W 40 y = gv v 40 y := by unfold gv; rw [wa, a1 40 (by decide)]
    rw [e]
    exact sn2.2 y y1 (by omega)
  have t2 := w1.2.2.2.1
  have se1 : seI s ≤ seI v := ksv.2.2.2.2.2.1.1
  have kW : KP t s W := by
    refine ksv.fin hpp.1 (hpp.chn t2) hpp.2.1 (by omega) (by omega) (fun z => by rw [wi 18 (by decide)]; exact z) (fun k hk => ?_) (fun k k1 k2 j _ => by rw [wa, a1 k (by omega)])
    have hlt : (k : Int) < cdI v := by have := ksv.2.1.1; omega
    refine ⟨(hpp.2.2.2.2.2.1 k hlt).1, hpp.2.2.2.2.2.2.1 k hlt (fun q => ?_), (hpp.2.2.2.2.2.1 k hlt).2 id⟩
    have := (new_sites w3 hdZ (by omega) b1 k q).1
    omega
  have kw := ksv.2.2.2.2.2.2.2.2.1
  have hww : ∀ w : Nat, (w : Int) < waI v → gv v 58 w ≤ γ0 := fun w hw => by
    have e1 : waI v = waI s := by have : waI v = waI Z := w4.wa; have : waI Z = waI s := by { unfold waI; rw [Z56] }; omega
    have := (hI.2.2.2.1.2.2.2.2.2.2.2.2.1 w (by omega)).2.2.2
    have e : gv v 58 w = gv s 58 w := by unfold gv; rw [kw.2.2 w (by omega)]
    omega
  have fin : ∀ y : Int32, (y = 0 ∨ y = 1) → (v.i 75 = 1 → y = 1) → (v.a 50 γ0 = 1 → y = 1) → ok (((f_X12_over N W y).bind fun p => some p).bind fun p => f_X12_parse_10 N m p) P := by
    intro y hy h1 h2
    refine LEND0 (x := y) h9 hy hC hI hpp.1 (hpp.chn t2) hpp.2.1 (by omega) (by omega) kW w1 (fun j _ _ j3 _ => wi j j3) w2 ksv (w4.1.trans Z19) ((wi 52 (by decide)).trans (w4.2.2.1.trans Z52)) (w4.2.2.2.trans Z56) (by omega) snW ra2 ?_ (by omega) (by omega) (fun q => ?_)
    · unfold RATE at ra2; omega
    · have hpp' : PPL γ0 Lb (v.i 20) (fun _ => False) v (W.setI 75 y) := by
        obtain ⟨h1', h2', h3', h4', h6', h7', h8', h10'⟩ := hpp
        exact ⟨⟨h1'.1, h1'.2.1, fun j a b c d e f => (if_neg f).trans (h1'.2.2 j a b c d e f)⟩, h2', h3', h4', h6', h7', h8', h10'⟩
      exact TS.label hI kZ cZ Z38 Z52 (by omega) g0 gZ Z44 Z47 (w9 q) w3 w1 w4 w7 hpp' cW (by show cdI v = cdI W; omega) hww h1 h2
  rcases w1.r with r | r
  · rw [if_pos r]
    by_cases c50 : v.a 50 γ0 = 0
    · rw [if_pos c50]
      exact fin 0 (Or.inl rfl) (fun q => by rw [r] at q; exact absurd q (by decide)) (fun q => by rw [c50] at q; exact absurd q (by decide))
    · rw [if_neg c50]
      exact fin 1 (Or.inr rfl) (fun _ => rfl) (fun _ => rfl)
  · rw [if_neg (by rw [r]; decide)]
    exact fin 1 (Or.inr rfl) (fun _ => rfl) (fun _ => rfl)
/-- behind the label's sign -/
theorem NAM2 {N b : Nat} (hN : 4000 ≤ N) (hs : 1 ≤ b → RUNS N (b - 1)) {m : Nat} {s R : RS} {t : Nat} {P : RS → Prop} (n : Int64) (wh : Int32) (hI : INV s) (hp : PRS s) (h9 : t < 998) (hb : 2 * (t : Int) ≤ fr s + 12 * op s + 2) (hc : 900 - fr s ≤ b) (hn : 36000 + 20 ≤ (m : Int) + 40 * fr R) (hF : ∀ u, FS' s u → P u) (mR : MM t s R) (cR : cdI R = cdI s) (aR : ∀ k : Nat, k ≠ 64 → R.a k = s.a k) (R64 : R.a 64 t = 5) (hT : R.i 10 = 58) (hC : ∀ (m' : Nat) (u : RS), PS t s u → fr R ≤ fr u → (m : Int) + 40 * fr R ≤ m' + 40 * fr u → ok (f_X12_parse_10 N m' u) P) : ok ((f_X12_label N R (R.i 63) n wh).bind fun p => f_X12_parse_10 N m p) P := by
  obtain ⟨a1, a2, a3, a4, a5, a6, a7, a8⟩ := id mR
  have hN1 : 1000 ≤ N := by omega
  have rf := a1.1.f0
  have goR := a1.2.2.2.2.2.2.2.2.2.2.2.1
  have deR := a1.2.2.2.2.2.2.2.2.2.2.2.2.1
  have gRs : goI R = goI s := a4.go
  have dRs : deI R = deI s := a4.de
  unfold f_X12_label
  have e1 : (1 : Int32).toInt = 1 := by decide
  have g0' : 0 ≤ (R.i 43).toInt := goR.1
  have g4' : (R.i 43).toInt ≤ 450 := by have : goI R ≤ 450 := by omega
                                        exact this
  have ek : (R.i 43 - 1).toInt = goI R - 1 := by
    show _ = (R.i 43).toInt - 1
    rw [toInt_sub] <;> rw [e1] <;> omega
  obtain ⟨σ, eσ, l1, l19, lc⟩ := p_l8 (N := N) (R := R) (R.i 63) n wh (by omega) N R (R.i 43 - 1) (LX.rf a1.1) rfl (Or.inl rfl) (by omega) (by omega) (by omega)
  rw [eσ]
  unfold f_X12_label_60
  have kσ : KP t s σ := a3.lx l1
  have tσ : TAB σ := a1.2.2.2.1.lx l1
  have gσ : goI σ = goI s := by have : goI σ = goI R := by { unfold goI; rw [l1.2.2.1 43 (by omega) (by omega)] }; omega
  have dσ : deI σ = deI s := by have : deI σ = deI R := l1.de; have := a4.de; omega
  rw [p_go 2 n (by omega) (by omega)]
  obtain ⟨G, hG⟩ : ∃ G, G = GO σ 2 n := ⟨_, rfl⟩
  have iG : ∀ j : Nat, j ≠ 43 → G.i j = σ.i j := fun j hj => by rw [hG]; exact GO.eI hj
  have gG : goI G = goI s + 1 := by rw [hG, GO.eGO (by omega) (by omega)]; omega
  have aG : ∀ k : Nat, (k < 44 ∨ k = 45 ∨ 51 < k) → G.a k = σ.a k := fun k hk => by rw [hG]; exact GO.eA hk
  obtain ⟨γ0, hγ0⟩ : ∃ γ0, γ0 = (σ.i 43).toNatClampNeg := ⟨_, rfl⟩
  have gγ : (γ0 : Int) = goI s := by rw [hγ0, gN (by omega)]; exact gσ
  have loG : ∀ (k j : Nat), j ≠ γ0 → G.a k j = σ.a k j := fun k j hj => by rw [hG]; exact GO.lo (by rw [← hγ0]; exact hj)
  have G44 : G.a 44 γ0 = 2 := by rw [hG, hγ0]; exact GO.a44
  have G46 : G.a 46 γ0 = -1 := by rw [hG, hγ0]; exact GO.a46
  have G47 : G.a 47 γ0 = σ.i 52 := by rw [hG, hγ0]; exact GO.a47
  have hdG : ∀ b : Bool, hd G b γ0 = -1 := fun b => by rw [hG, hγ0]; exact GO.eHD0
  have kG : KP t s G := by rw [hG]; exact kσ.go (by omega) (by omega)
  have tG : TAB G := by rw [hG]; exact tσ.go (by omega) (by omega) (by omega)
  have bG : G.b 9 = σ.b 9 := by rw [hG]; rfl
  have lG : LXI G := l1.2.2.2.1.of (iG 2 (by decide)) (iG 10 (by decide)) (iG 11 (by decide)) (iG 12 (by decide)) (iG 14 (by decide)) bG
  have tR' : tpI R = t := a2
  rw [tp_nat tR']
  show ok ((if ib (R.i 63) 1000 then (f_X12_next N (RS.setA (GO σ 2 n) 66 t (σ.i 43))).bind fun p5 => (if (p5.i 10) = 415 then f_X12_label_110 N p5 (σ.i 43) else (if (p5.i 10) = 416 then f_X12_label_110 N p5 (σ.i 43) else (if (p5.i 10) = 417 then f_X12_label_110 N p5 (σ.i 43) else (if (p5.i 10) = 2 then (if ib (σ.i 43) 460 then f_X12_label_188 N (RS.setA p5 46 ((σ.i 43 : Int32).toNatClampNeg) (-2)) else none) else f_X12_label_188 N p5)))) else none : Option RS).bind fun p => f_X12_parse_10 N m p) P
  rw [if_pos (tp_ib tR' (by omega)), ← hG, ← hγ0]
  clear hG
  obtain ⟨X, hX⟩ : ∃ X, X = G.setA 66 t (σ.i 43) := ⟨_, rfl⟩
  have lX : LXI X := by rw [hX]; exact lG.sA 66 t _
  have iX : X.i = G.i := by rw [hX]; rfl
  have aX : ∀ k : Nat, k ≠ 66 → X.a k = G.a k := fun k hk => by rw [hX]; exact setA_nk hk
  have X66 : X.a 66 t = σ.i 43 := by rw [hX]; exact setA_at
  have kX : KP t s X := by rw [hX]; exact kG.loc t _ (by omega) (by omega) (Nat.le_refl _)
  have tX : TAB X := by rw [hX]; exact tG.tbl (TBL.loc G t _ (by omega) (by omega)) (fun γ hγ => (tG.2.2.2.2.2.2.1 γ hγ).2) tG.2.2.2.2.2.2.2.2.2
  rw [← hX]
  clear hX
  obtain ⟨Y, eY, y1, y2, y3, y4⟩ := p_nx hN1 lX
  rw [eY]
  have kY : KP t s Y := kX.lx y1
  have tY : TAB Y := tX.lx y1
  have iXs : ∀ j : Nat, j ≠ 43 → X.i j = σ.i j := fun j hj => by rw [iX]; exact iG j hj
  have gY : goI Y = goI s + 1 := by
    have : goI Y = goI X := by unfold goI; rw [y1.2.2.1 43 (by omega) (by omega)]
    have : goI X = goI G := by unfold goI; rw [iX]
    omega
  have ibg : ib (σ.i 43) 460 := by
    have e : (σ.i 43).toInt = goI s := gσ
    exact ⟨by omega, by omega⟩
  have loY : ∀ (k j : Nat), k ≠ 66 → j ≠ γ0 → Y.a k j = R.a k j := fun k j hk hj => by rw [y1.1, aX k hk, loG k j hj, l1.1]
  have aY : ∀ k : Nat, (k < 44 ∨ k = 45 ∨ 51 < k) → k ≠ 66 → Y.a k = R.a k := fun k hk h6 => by rw [y1.1, aX k h6, aG k hk, l1.1]
  have Y44 : Y.a 44 γ0 = 2 := by rw [y1.1, aX 44 (by decide)]; exact G44
  have Y46 : Y.a 46 γ0 = -1 := by rw [y1.1, aX 46 (by decide)]; exact G46
  have kg := a3.2.2.2.2.2.2.1
  have main : ∀ Z : RS, Z.i = Y.i → Z.b = Y.b → (∀ k : Nat, k ≠ 46 → Z.a k = Y.a k) → (∀ δ : Nat, δ ≠ γ0 → Z.a 46 δ = Y.a 46 δ ∨ (δ : Int) < goI s ∧ Z.a 46 δ = -3 ∧ ∀ ε : Nat, δ ≤ ε → (ε : Int) < goI s → Y.a 44 ε = 2 ∧ Y.a 46 ε = -2) → (Z.a 46 γ0 = -1 ∨ (Z.a 46 γ0 = -2 ∨ Z.a 46 γ0 = -3) ∧ (Y.i 10 = 2 ∨ Y.i 10 = 415 ∨ Y.i 10 = 416 ∨ Y.i 10 = 417)) → ok ((f_X12_label_188 N Z).bind fun p => f_X12_parse_10 N m p) P := by
    intro Z zi zb za z46 zg
    unfold f_X12_label_188
    have y46 : ∀ δ : Nat, (δ : Int) < goI s → Y.a 46 δ = s.a 46 δ := fun δ hδ => by rw [loY 46 δ (by decide) (by omega), aR 46 (by decide)]
    have y44 : ∀ δ : Nat, (δ : Int) < goI s → Y.a 44 δ = s.a 44 δ := fun δ hδ => by rw [loY 44 δ (by decide) (by omega), aR 44 (by decide)]
    have kZ : KP t s Z := kY.cg zi zb za (fun δ hδ => by
      rcases z46 δ (by omega) with q | ⟨q1, q2, q3⟩
      · left; rw [q]; exact y46 δ hδ
      · refine Or.inr ⟨hδ, fun ε d1 d2 => ?_⟩
        have := q3 ε d1 d2
        rw [y44 ε d2, y46 ε d2] at this
        exact ⟨this.1, Or.inl this.2⟩)
    have tZ : TAB Z := tY.cg zi za
    have lZ : LXI Z := y1.2.2.2.1.of (by rw [zi]) (by rw [zi]) (by rw [zi]) (by rw [zi]) (by rw [zi]) (by rw [zb])
    have tpZ : tpI Z = t := by
      unfold tpI
      rw [zi, y1.i63, iXs 63 (by decide), l1.i63]
      exact a2
    have r75 : Z.i 75 = 0 ∨ Z.i 75 = 1 := tZ.2.2.2.2.2.2.2.2.2
    rcases BODY (N := N) (u := Z) 1 lZ tpZ h9 with ⟨S, eS, q1, q2⟩ | ⟨eS, q1⟩
    · rw [eS]
      exact lp_f q2 (hF S (FS'.of kZ.1.1 q1 q2 r75)) (by omega)
    rw [eS]
    show ok (f_X12_parse_10 N m (TH Z t 1 2)) P
    have y15 : Y.i 15 = 0 := by rw [← zi]; exact q1
    have x15 : X.i 15 = 0 := y1.2.2.2.2.1 y15
    have s15 : σ.i 15 = 0 := by rw [← iXs 15 (by decide)]; exact x15
    have eσR : σ = R := by
      rcases lc with q | q
      · exact q
      · exact absurd s15 q
    subst eσR
    obtain ⟨r15, rc⟩ := y4 x15
    have x10 : X.i 10 = 58 := by rw [iXs 10 (by decide)]; exact hT
    obtain ⟨c1, c2, c3⟩ := rc (by rw [x10]; decide)
    have fX : fr X = fr σ := by unfold fr; rw [iXs 11 (by decide)]
    have tkX : tkI X = tkI σ := by unfold tkI; rw [iXs 17 (by decide)]
    have tkR := a1.tk
    have tk := tk_add c1 ⟨by omega, by omega⟩
    have fZ : fr Z = fr Y := by unfold fr; rw [zi]
    have tkZ : tkI Z = tkI Y := by unfold tkI; rw [zi]
    have iZs : ∀ j : Nat, (j < 10 ∨ 18 ≤ j) → j ≠ 19 → j ≠ 43 → Z.i j = σ.i j := fun j h1 h2 h3 => by rw [zi, y1.2.2.1 j h1 h2, iXs j h3]
    have Z19 : Z.i 19 = s.i 19 := by rw [zi, y2, iXs 19 (by decide)]; exact a4.1
    have Z38 : Z.i 38 = s.i 38 := (iZs 38 (by omega) (by decide) (by decide)).trans a5
    have Z52 : Z.i 52 = s.i 52 := (iZs 52 (by omega) (by decide) (by decide)).trans a4.2.2.1
    have Z56 : Z.i 56 = s.i 56 := (iZs 56 (by omega) (by decide) (by decide)).trans a4.2.2.2
    have e1 : cdI Z = cdI σ := by unfold cdI; rw [iZs 20 (by omega) (by decide) (by decide)]
    have e2 : enI Z = enI σ := by unfold enI; rw [iZs 24 (by omega) (by decide) (by decide)]
    have e3 : trI Z = trI σ := by unfold trI; rw [iZs 29 (by omega) (by decide) (by decide)]
    have e4 : caI Z = caI σ := by unfold caI; rw [iZs 33 (by omega) (by decide) (by decide)]
    have e5 : seI Z = seI σ := by unfold seI; rw [iZs 38 (by omega) (by decide) (by decide)]
    have e6 : slI Z = slI σ := by unfold slI; rw [iZs 42 (by omega) (by decide) (by decide)]
    have e8 : deI Z = deI σ := by unfold deI; rw [iZs 52 (by omega) (by decide) (by decide)]
    have e9 : waI Z = waI σ := by unfold waI; rw [iZs 56 (by omega) (by decide) (by decide)]
    have e10 : peI Z = peI σ := by unfold peI; rw [iZs 59 (by omega) (by decide) (by decide)]
    have e12 : op Z = op σ := by
      have h1 : op Z = op s := by unfold op; rw [Z19]
      have := a4.eOp
      omega
    have gZ : goI Z = goI s + 1 := by have : goI Z = goI Y := by { unfold goI; rw [zi] }; omega
    have raZ : RATE s Z := by
      unfold RATE at *
      rw [e1, e2, e3, e4, e6, e10, fZ, tkZ]
      omega
    have iZ : INV Z := by
      refine ⟨lZ, hI.2.1.kp kZ, q1, tZ, ?_⟩
      have nn := a1.2.2.2.2
      have gos := hI.2.2.2.2.2.2.2.2.2.2.2.1
      unfold NUM at nn ⊢
      rw [e1, e2, e3, e4, e5, e6, e8, e9, e10, e12, fZ, tkZ, gZ]
      omega
    have prs : PRS Z := by
      refine ⟨fun γ b1 b2 b3 => ?_, fun γ b1 => ?_⟩
      · have ne : γ ≠ γ0 := fun e => by
          subst e
          unfold gv at b3
          rcases zg with q | ⟨q | q, -⟩ <;> (rw [q] at b3; exact absurd b3 (by decide))
        have hγ : (γ : Int) < goI s := by have := b1.1; omega
        have z44 : ∀ δ : Nat, (δ : Int) < goI s → Z.a 44 δ = s.a 44 δ := fun δ hδ => by rw [za 44 (by decide)]; exact y44 δ hδ
        have acc : ACC s γ := ⟨hγ, by rw [← z44 γ hγ]; exact b1.2.1, fun δ d1 d2 => by rw [← z44 δ d2]; exact b1.2.2 δ d1 (by omega)⟩
        rcases z46 γ ne with q | ⟨-, q, -⟩
        · have e46 : gv Z 46 γ = gv s 46 γ := by unfold gv; rw [q, y46 γ hγ]
          rw [e46] at b3 ⊢
          obtain ⟨l1', l2', l3'⟩ := hp.1 γ acc (by rw [← z44 γ hγ]; exact b2) b3
          exact ⟨l1', by omega, by rw [z44 _ (by omega)]; exact l3'⟩
        · unfold gv at b3
          rw [q] at b3
          exact absurd b3 (by decide)
      · have := (b1.2 γ0 (by have := b1.1; omega) (by omega)).2
        rcases zg with q | ⟨-, q⟩
        · rcases this with r | r <;> (rw [q] at r; exact absurd r (by decide))
        · rw [zi]; exact q
    have oZ : op Z = op s := by unfold op; rw [Z19]
    have fZf := iZ.1.f0
    refine CALLS (hs (by omega)) iZ prs tpZ (by omega) (by omega) (by omega) (by omega) (fun u hu => hF u (FS'.kp kZ hu)) (fun m4 v hv hf2 hm4 => ?_)
    have fv2 := hv.1.1.f0
    obtain ⟨m5, rfl⟩ : ∃ m5, m4 = m5 + 1 := ⟨m4 - 1, by omega⟩
    have push5 : ((m5 + 1 : Nat) : Int) = (m5 : Int) + 1 := by omega
    rw [push5] at hm4
    have zh : ∀ b : Bool, hd Z b γ0 = -1 := fun b => by
      have : hd Z b γ0 = hd G b γ0 := by
        unfold hd gv
        rw [za _ (by rcases bk_cases b with e | e <;> rw [e] <;> decide), y1.1, aX _ (by rcases bk_cases b with e | e <;> rw [e] <;> decide)]
      rw [this]; exact hdG b
    refine NAM3 hN hI h9 kZ (by omega) Z38 Z19 Z52 Z56 (by omega) (by omega) gγ gZ (by rw [za 44 (by decide)]; exact Y44) ?_ zh raZ ?_ ?_ hv (fun u hu hf' => hC m5 u hu (by omega) (by omega))
    · unfold gv
      rw [za 47 (by decide), y1.1, aX 47 (by decide), G47]
      exact dσ
    · rw [za 64 (by decide), aY 64 (by omega) (by decide)]; exact R64
    · rw [za 66 (by decide), y1.1, X66]
      show goI σ = γ0
      omega
  have l110 : (Y.i 10 = 415 ∨ Y.i 10 = 416 ∨ Y.i 10 = 417) → ok ((f_X12_label_110 N Y (σ.i 43)).bind fun p => f_X12_parse_10 N m p) P := fun hq => by
    unfold f_X12_label_110
    rw [if_pos ibg, ← hγ0]
    have ek2 : (σ.i 43 - 1).toInt = goI s - 1 := by
      have e : (σ.i 43).toInt = goI s := gσ
      rw [toInt_sub] <;> rw [e1] <;> omega
    obtain ⟨Z, z1, z2, z3, z4, z5⟩ := p_l125 (N := N) N (Y.setA 46 γ0 (-3)) (σ.i 43 - 1) (by omega) (by omega) (by omega)
    rw [z1]
    refine main Z z2 z3 (fun k hk => (z4 k hk).trans (setA_nk hk)) (fun δ hδ => ?_) ?_
    · rcases z5 δ with q | ⟨q1, q2, q3⟩
      · left; rw [q]; exact setA_ne hδ
      · refine Or.inr ⟨by omega, q2, fun ε d1 d2 => ?_⟩
        have := q3 ε d1 (by omega)
        exact ⟨this.1, (setA_ne (by omega)).symm.trans this.2⟩
    · refine Or.inr ⟨Or.inr ?_, Or.inr hq⟩
      rcases z5 γ0 with q | ⟨q1, q2, q3⟩
      · rw [q]; exact setA_at
      · exact q2
  show ok ((if (Y.i 10) = 415 then f_X12_label_110 N Y (σ.i 43) else (if (Y.i 10) = 416 then f_X12_label_110 N Y (σ.i 43) else (if (Y.i 10) = 417 then f_X12_label_110 N Y (σ.i 43) else (if (Y.i 10) = 2 then (if ib (σ.i 43) 460 then f_X12_label_188 N (RS.setA Y 46 γ0 (-2)) else none) else f_X12_label_188 N Y))) : Option RS).bind fun p => f_X12_parse_10 N m p) P
  by_cases c1 : Y.i 10 = 415
  · rw [if_pos c1]; exact l110 (Or.inl c1)
  rw [if_neg c1]
  by_cases c2 : Y.i 10 = 416
  · rw [if_pos c2]; exact l110 (Or.inr (Or.inl c2))
  rw [if_neg c2]
  by_cases c3 : Y.i 10 = 417
  · rw [if_pos c3]; exact l110 (Or.inr (Or.inr c3))
  rw [if_neg c3]
  by_cases c4 : Y.i 10 = 2
  · rw [if_pos c4, if_pos ibg]
    exact main (Y.setA 46 γ0 (-2)) rfl rfl (fun k hk => setA_nk hk) (fun δ hδ => Or.inl (setA_ne hδ)) (Or.inr ⟨Or.inl setA_at, Or.inl c4⟩)
  · rw [if_neg c4]
    exact main Y rfl rfl (fun _ _ => rfl) (fun _ _ => Or.inl rfl) (Or.inl Y46)
end
section
/-! reading: what begins with a name: the frame; assert -/
def RUNN (N b : Nat) : Prop := ∀ (n : Nat) (s u : RS) (t : Nat) (P : RS → Prop), INV s → PRS s → tpI s = t → INV u → KP t s u → TBL s u → u.i 19 = s.i 19 → u.i 52 = s.i 52 → fr u = fr s → tkI u = tkI s → (∀ k : Nat, k ≠ 64 → u.a k = s.a k) → u.a 64 t = 5 → u.a 65 t = 0 → u.i 10 = 2 → tpI u = t → t < 998 → 2 * (t : Int) ≤ fr s + 12 * op s + 2 → 900 - fr s ≤ b → 36000 + 29 ≤ (n : Int) + 1 + 40 * fr s → 1 ≤ n → (∀ u, FS' s u → P u) → (∀ (m : Nat) (u : RS), PS t s u → fr s + 1 ≤ fr u → (n : Int) + 1 + 40 * fr s + 11 ≤ m + 40 * fr u → ok (f_X12_parse_10 N m u) P) → ok (f_X12_parse_10 N (n + 1) u) P
theorem run_named {N b : Nat} (hN : 4000 ≤ N) (hx : 1 ≤ b → RUNE N 16 4 11 24 (b - 1)) (hs : 1 ≤ b → RUNS N (b - 1)) : RUNN N b := by
  intro n s u t P hI hp ht iu ku tu e19 e52 fu tku au u64 u65 u10 tpu h9 hb hc hn n1 hF hC
  have hN1 : 1000 ≤ N := by omega
  have hf := hI.1.f0
  refine lp_5 tpu (by omega) iu.2.2.1 u64 ?_
  unfold f_X12_named
  rw [if_pos (tp_ib tpu (by omega)), tp_nat tpu, if_neg (by rw [u65]; decide), if_neg (by rw [u65]; decide)]
  obtain ⟨R, eR, x1, x2, x3, x4, x5, x6, x7⟩ := NX hN1 iu (by rw [u10]; decide)
  rw [eR]
  have kR : KP t s R := ku.lx x1
  have tb : TBL s R := tu.tr x1.tbl
  have mR : MM t s R := by
    refine ⟨x4, x1.tp.trans tpu, kR, ⟨x3.trans e19, tb.2.2 43 (by omega) (by omega) (by omega) (by omega), (x1.2.2.1 52 (by omega) (by omega)).trans e52, tb.2.2 56 (by omega) (by omega) (by omega) (by omega)⟩, tb.2.2 38 (by omega) (by omega) (by omega) (by omega), tb.rate (by omega) (by omega), by omega, by omega⟩
  have cR : cdI R = cdI s := tb.cd
  have aR : ∀ k : Nat, k ≠ 64 → R.a k = s.a k := fun k hk => by rw [x1.1]; exact au k hk
  have R64 : R.a 64 t = 5 := by rw [x1.1]; exact u64
  have ei : u.i 63 = R.i 63 := x1.i63.symm
  rw [ei]
  show ok ((if (R.i 10) = 58 then (f_X12_label N R (R.i 63) u.l (u.i 11)).bind fun p36 => some p36 else (f_X12_got N R u.l (u.i 11)).bind fun p7 => (if (p7.2.i 15) = 0 then (if (p7.2.i 10) = 61 then (f_X12_can N p7.2 1).bind fun p11 => (if p11.1 = 0 then some p11.2 else f_X12_named_183 N p11.2 (R.i 63) p7.1) else (if (p7.2.i 10) = 307 then (f_X12_can N p7.2 1).bind fun p33 => (if p33.1 = 0 then some p33.2 else f_X12_named_183 N p33.2 (R.i 63) p7.1) else (f_X12_can N p7.2 0).bind fun p30 => (if p30.1 = 0 then some p30.2 else f_X12_named_183 N p30.2 (R.i 63) p7.1))) else some p7.2) : Option RS).bind fun p => f_X12_parse_10 N n p) P
  have flt : ∀ S, LX R S → ¬ S.i 15 = 0 → FS' s S := fun S h1 h2 => FS'.of kR.1.1 h1 h2 x4.r
  by_cases c58 : R.i 10 = 58
  · rw [if_pos c58, bind_some]
    exact NAM2 hN hs u.l (u.i 11) hI hp h9 hb hc (by omega) hF mR cR aR R64 c58 (fun m' w hw hfw hm => hC m' w hw (by omega) (by omega))
  rw [if_neg c58]
  obtain ⟨p, ep, hp2⟩ := GOT hN1 x4 u.l (u.i 11)
  rw [ep]
  show ok ((if (p.2.i 15) = 0 then (if (p.2.i 10) = 61 then (f_X12_can N p.2 1).bind fun p11 => (if p11.1 = 0 then some p11.2 else f_X12_named_183 N p11.2 (R.i 63) p.1) else (if (p.2.i 10) = 307 then (f_X12_can N p.2 1).bind fun p33 => (if p33.1 = 0 then some p33.2 else f_X12_named_183 N p33.2 (R.i 63) p.1) else (f_X12_can N p.2 0).bind fun p30 => (if p30.1 = 0 then some p30.2 else f_X12_named_183 N p30.2 (R.i 63) p.1))) else some p.2 : Option RS).bind fun p => f_X12_parse_10 N n p) P
  rcases hp2 with ⟨q1, q2⟩ | ⟨q1, q2⟩
  · rw [if_neg q1]
    exact lp_f q1 (hF _ (flt _ q2 q1)) n1
  · rw [q1, if_pos x4.2.2.1]
    have sl : SLT s p.1 := q2.eq mR.2.2.2.2.1 (aR 40 (by decide)) (aR 41 (by decide))
    have go : (R.i 10 = 61 ∨ R.i 10 = 307) → ok (((f_X12_can N R 1).bind fun p11 => (if p11.1 = 0 then some p11.2 else f_X12_named_183 N p11.2 (R.i 63) p.1) : Option RS).bind fun p => f_X12_parse_10 N n p) P := fun hq => by
      rw [can1 x4.2.2.1 (by rcases hq with h | h <;> (rw [h]; decide))]
      show ok ((if (1 : Int32) = 0 then some R else f_X12_named_183 N R (R.i 63) p.1 : Option RS).bind fun p => f_X12_parse_10 N n p) P
      rw [if_neg (by decide)]
      exact NAM1 hN1 hx hI h9 hb hc hn hF hC mR cR R64 sl hq
    by_cases c61 : R.i 10 = 61
    · rw [if_pos c61]; exact go (Or.inl c61)
    rw [if_neg c61]
    by_cases c307 : R.i 10 = 307
    · rw [if_pos c307]; exact go (Or.inr c307)
    rw [if_neg c307]
    obtain ⟨S, eS, h1, h2⟩ := can0 (N := N) x4.1 x4.2.2.1
    rw [eS]
    exact lp_f h2 (hF S (flt S h1 h2)) n1
theorem TS.assert {t : Nat} {s A v1 M v2 W : RS} {x9 : Int32} (hI : INV s) (kA : KP t s A) (cA : cdI A = cdI s + 2) (A21 : A.a 21 (cdI s).toNat = 1) (A21' : A.a 21 (cdI s + 1).toNat = 22) (A38 : A.i 38 = s.i 38) (A52 : A.i 52 = s.i 52) (fA : fr s ≤ fr A) (te : TE A v1) (k1 : KP t A v1) (i1 : INV v1) (d1 : v1.i 52 = s.i 52) (f1 : fr A + 1 ≤ fr v1) (gv1 : goI v1 = goI s) (kM : KP t v1 M) (cM : cdI M = cdI v1 + 1) (M21 : M.a 21 (cdI v1).toNat = 14) (M38 : M.i 38 = s.i 38) (M52 : M.i 52 = s.i 52) (fM : fr v1 ≤ fr M) (te2 : TE M v2) (k2 : KP t M v2) (tn2 : TN v2) (gM : goI v2 = goI s) (d2 : v2.i 52 = s.i 52) (f2 : fr M ≤ fr v2) (f9 : fr v2 ≤ 900) (cv2 : cdI v2 < 3000) (lt2 : cdI M ≤ cdI v2) (hx9 : x9.toInt = cdI v2 + 1)
  (we : EQT v2 W) (wc : cdI W = cdI v2 + 1) (wg : goI W = goI v2) (w21 : ∀ k : Nat, (k : Int) < cdI v2 → W.a 21 k = v2.a 21 k ∧ W.a 23 k = v2.a 23 k) (w22 : ∀ k : Nat, (k : Int) < cdI v2 → k ≠ (cdI s + 1).toNat → k ≠ (cdI v1).toNat → W.a 22 k = v2.a 22 k) (wk1 : W.a 22 (cdI s + 1).toNat = x9) (wk2 : W.a 22 (cdI v1).toNat = x9) (w19 : W.a 21 (cdI v2).toNat = 19) (wx : W.a 22 (cdI v2).toNat = 3) (i3 : 4 ≤ (W.i 3).toInt) (hr : W.i 75 = 1) : TS s W := by
  intro f C hA hC h o lv rs hx hy
  have cs := hI.cd
  have c1' := i1.cd
  have fv1 := i1.1.f0
  have le1 := k1.2.1.1
  have ek1 : ((cdI s + 1).toNat : Int) = cdI s + 1 := Int.toNat_of_nonneg (by omega)
  have ekv : ((cdI v1).toNat : Int) = cdI v1 := Int.toNat_of_nonneg c1'.1
  have ek2 : ((cdI v2).toNat : Int) = cdI v2 := Int.toNat_of_nonneg (by omega)
  have kv12 : KP t v1 v2 := kM.tr k2 (Nat.le_refl _)
  have e21a : v2.a 21 (cdI s + 1).toNat = 22 := by rw [kv12.2.1.2.1 _ (by omega), k1.2.1.2.1 _ (by omega)]; exact A21'
  have e21b : v2.a 21 (cdI v1).toNat = 14 := by rw [k2.2.1.2.1 _ (by omega)]; exact M21
  have hc : CHN v2 W := fun γ b L x hγ hI' hx' => by
    obtain ⟨Mm, m1, m2⟩ := tn2 γ b (by omega)
    have e := ISCH.uniq hI' m1
    subst e
    have hlt := m2 x hx'
    have h36 := hI'.op x hx'
    refine ⟨(w21 x hlt).1, w22 x hlt (fun e => ?_) (fun e => ?_)⟩
    · rw [e, e21a] at h36; exact absurd h36 (by decide)
    · rw [e, e21b] at h36; exact absurd h36 (by decide)
  have L1 : LAT noZ A v1 W := (((LAT.rf noZ A v1).kp kv12 i1.tn (by omega))).fin we hc tn2 (by omega) (by omega) (fun k k1' k2' => ⟨(w21 k (by omega)).1, (w21 k (by omega)).2, fun _ => w22 k (by omega) (by omega) (by omega)⟩)
  have L2 : LAT noZ M v2 W := (LAT.rf noZ M v2).fin we hc tn2 (by omega) (by omega) (fun k k1' k2' => ⟨(w21 k (by omega)).1, (w21 k (by omega)).2, fun _ => w22 k (by omega) (by omega) (by omega)⟩)
  have ksM : KP t s M := (kA.tr k1 (Nat.le_refl _)).tr kM (Nat.le_refl _)
  obtain ⟨A1, C1⟩ := L1.use hA hC kA k1
  obtain ⟨A2, C2⟩ := L2.use hA hC ksM k2
  have hx2 := hx.2.1
  have c1 := te f C A1 C1 h o lv rs (hx.up h A52 fA (by omega) (by omega))
  have c2 := te2 f C A2 C2 h o lv rs (hx.up h M52 (by omega) (by omega) (by omega))
  obtain ⟨p1, p2, p3, p4⟩ := hA.cell (k := (cdI s + 1).toNat) (o := 22) (x := x9) (by omega) (by omega) (by rw [(w21 _ (by omega)).1]; exact e21a) wk1 (by decide)
  obtain ⟨q1, q2, q3, q4⟩ := hA.cell (k := (cdI v1).toNat) (o := 14) (x := x9) (by omega) (by omega) (by rw [(w21 _ (by omega)).1]; exact e21b) wk2 (by decide)
  obtain ⟨r1, r2, r3, r4⟩ := hA.cell (k := (cdI v2).toNat) (o := 19) (x := 3) (by omega) (by omega) w19 wx (by decide)
  have e3 : (3 : Int32).toInt = 3 := by decide
  have hi3 := hA.2.2.2.1
  have cR : COD f C (cdI v2).toNat (h + 1) o lv rs (ENS s W f h o lv rs) := COD.ins (hx.up (h + 1) d2 (by omega) f9 (by omega)) r4 (fun g _ hE => ⟨okJ_19 (c := (h + 1, o, lv, false, rs)) r1 ⟨by show 1 ≤ h + 1; omega, by rw [r2, e3]; omega⟩, hE.1.1 _ (by omega)⟩)
  have cm : COD f C (cdI M) h o lv rs (ENS s W f h o lv rs) := COD.seq c2.cod cR (fun g _ hE => hE) (fun g _ hE hF => ⟨hE.1.mid ksM M38 (by omega), by rw [ek2] at hF; exact hF⟩)
  have exit : ∀ g : Gh, ENS s W f h o lv rs g → ∀ kk : Int, kk ≤ cdI W → FL f g lv kk x9.toInt h o rs := fun g hE kk hk => by
    rw [hx9, ← wc]
    exact (hE.2.1 hr).mono (Nat.le_refl _) hk
  have cj : COD f C (cdI v1).toNat (h + 1) o lv rs (ENS s W f h o lv rs) := by
    have c14 : COD f C (cdI v1).toNat (h + 1) o lv rs (fun g => ENS s W f h o lv rs g ∧ FL f g lv (cdI M) (cdI M) h o rs) := by
      refine COD.ins (hx.up (h + 1) d1 (by omega) (by omega) (by omega)) q4 (fun g _ hE => ⟨?_, hE.1.1.1 _ (by omega)⟩)
      have hF1 : FL f g lv (((cdI v1).toNat : Int) + 1) (((cdI v1).toNat : Int) + 1) h o rs := by
        have := hE.2
        rw [cM] at this
        rw [ekv]; exact this
      exact okJ_14 (c := (h + 1, o, lv, false, rs)) q1 ⟨by show 1 ≤ h + 1; omega, by rw [q2]; exact exit g hE.1 _ (by omega), fun _ => hF1⟩
    exact COD.seq c14 cm (fun g _ hE => hE) (fun g _ hE hF => ⟨hE, hF⟩)
  have cc : COD f C (cdI A) h o lv rs (ENS s W f h o lv rs) := COD.seq c1.cod cj (fun g _ hE => hE) (fun g _ hE hF => ⟨hE.1.mid kA A38 (by omega), by rw [ekv] at hF; exact hF⟩)
  have ca : COD f C (cdI s + 1).toNat h o lv rs (ENS s W f h o lv rs) := by
    have c22 : COD f C (cdI s + 1).toNat h o lv rs (fun g => ENS s W f h o lv rs g ∧ FL f g lv (cdI A) (cdI A) h o rs) := by
      refine COD.ins hx p4 (fun g _ hE => ⟨?_, hE.1.1.1 _ (by omega)⟩)
      have hF1 : FL f g lv (((cdI s + 1).toNat : Int) + 1) (((cdI s + 1).toNat : Int) + 1) h o rs := by
        have := hE.2
        rw [cA] at this
        have e : (((cdI s + 1).toNat : Int) + 1) = cdI s + 2 := by omega
        rw [e]; exact this
      exact okJ_22 (c := (h, o, lv, false, rs)) p1 ⟨by rw [p2]; exact exit g hE.1 _ (by omega), hF1⟩
    exact COD.seq c22 cc (fun g _ hE => hE) (fun g _ hE hF => ⟨hE, hF⟩)
  rw [ek1] at ca
  refine COD.step hA hx cs.1 (by omega) ?_ (fun g _ hE => hE.1.1) ca
  rw [(w21 _ (by omega)).1, kv12.2.1.2.1 _ (by omega), k1.2.1.2.1 _ (by omega)]
  exact A21
end
section
/-! reading: assert: its frame -/
theorem ASR3 {N : Nat} (hN : 1000 ≤ N) {m : Nat} {s A v1 M v2 : RS} {t : Nat} {P : RS → Prop} (hI : INV s) (h9 : t < 998) (hm : 1 ≤ m) (hF : ∀ u, FS' s u → P u) (kA : KP t s A) (cA : cdI A = cdI s + 2) (A21 : A.a 21 (cdI s).toNat = 1) (A21' : A.a 21 (cdI s + 1).toNat = 22) (A38 : A.i 38 = s.i 38) (A52 : A.i 52 = s.i 52) (fA : fr s + 2 ≤ fr A) (te : ¬ 0 ≤ v1.i 18 → TE A v1) (k1 : KP t A v1) (i1 : INV v1) (d1 : v1.i 52 = s.i 52) (f1 : fr A + 1 ≤ fr v1) (gv1 : goI v1 = goI s) (r1 : RATE A v1) (kM : KP t v1 M) (cM : cdI M = cdI v1 + 1) (M21 : M.a 21 (cdI v1).toNat = 14) (M38 : M.i 38 = s.i 38) (M52 : M.i 52 = s.i 52) (fM : fr v1 ≤ fr M) (te2 : ¬ 0 ≤ v2.i 18 → TE M v2) (k2 : KP t M v2) (mV : MM t s v2) (f2 : fr M ≤ fr v2) (cv : cdI v2 - cdI M ≤ 3 * (fr v2 - fr M) + 1) (v64 : v2.a 64 t = 8) (v65 : v2.a 65 t = 2) (v66 : (v2.a 66 t).toInt = cdI s + 1) (v67 : (v2.a 67 t).toInt = cdI v1) (hC : ∀ W, PS t s W → fr v2 + 1 ≤ fr W → ok (f_X12_parse_10 N m W) P) : ok (f_X12_parse_10 N (m + 1) v2) P := by
  obtain ⟨a1, a2, a3, a4, a5, a6, a7, a8⟩ := id mV
  have cs := hI.cd
  have c1' := i1.cd
  have c2' := a1.cd
  have fv := a1.1.f0
  have le1 := k1.2.1.1
  have le2 := k2.2.1.1
  have ek1 : ((cdI s + 1).toNat : Int) = cdI s + 1 := Int.toNat_of_nonneg (by omega)
  have ekv : ((cdI v1).toNat : Int) = cdI v1 := Int.toNat_of_nonneg c1'.1
  have ek2 : ((cdI v2).toNat : Int) = cdI v2 := Int.toNat_of_nonneg c2'.1
  refine lp_8 a2 (by omega) a1.2.2.1 v64 ?_
  unfold f_X12_asserted
  rw [if_pos (tp_ib a2 (by omega)), tp_nat a2, if_neg (by rw [v65]; decide), if_neg (by rw [v65]; decide), p_em 19 3 c2'.1 c2'.2.2]
  obtain ⟨E, hE⟩ : ∃ E, E = EM v2 19 3 := ⟨_, rfl⟩
  have mE : MI0 t s E := by rw [hE]; exact MI0.em mV hI (by unfold RATE at r1; omega)
  have aE : ∀ k : Nat, k ≠ 21 → k ≠ 22 → k ≠ 23 → E.a k = v2.a k := fun k h1 h2 h3 => by rw [hE]; exact EM.a h1 h2 h3
  have iE : ∀ j : Nat, j ≠ 20 → E.i j = v2.i j := fun j hj => by rw [hE]; exact EM.i hj
  have cE : cdI E = cdI v2 + 1 := by rw [hE]; exact EM.cd c2'.1 c2'.2.2
  have E21 : ∀ j : Nat, E.a 21 j = if j = (cdI v2).toNat then 19 else v2.a 21 j := fun j => by rw [hE]; exact EM.a21 j
  have E22 : ∀ j : Nat, E.a 22 j = if j = (cdI v2).toNat then 3 else v2.a 22 j := fun j => by rw [hE]; exact EM.a22 j
  have E23 : ∀ j : Nat, E.a 23 j = if j = (cdI v2).toNat then 0 else v2.a 23 j := fun j => by rw [hE]; exact EM.a23 j
  have bE : E.b 9 = v2.b 9 := by rw [hE]; rfl
  show ok ((if ib ((EM v2 19 3).a 66 t) 3000 then (if ib ((EM v2 19 3).a 67 t) 3000 then (f_X12_need N (RS.setA (RS.setA (EM v2 19 3) 22 ((((EM v2 19 3).a 66 t) : Int32).toNatClampNeg) ((EM v2 19 3).i 20)) 22 ((((EM v2 19 3).a 67 t) : Int32).toNatClampNeg) ((EM v2 19 3).i 20)) 59).bind fun p23 => (f_X12_over N p23.2 1).bind fun p25 => some p25 else none) else none : Option RS).bind fun p => f_X12_parse_10 N m p) P
  rw [← hE]
  clear hE
  have n66 := k_nat (show (v2.a 66 t).toInt = ((cdI s + 1).toNat : Int) by rw [v66, ek1])
  have n67 := k_nat (show (v2.a 67 t).toInt = ((cdI v1).toNat : Int) by rw [v67, ekv])
  rw [aE 66 (by decide) (by decide) (by decide), aE 67 (by decide) (by decide) (by decide), if_pos (show ib (v2.a 66 t) 3000 from ⟨by omega, by omega⟩), if_pos (show ib (v2.a 67 t) 3000 from ⟨by omega, by omega⟩), n66, n67]
  have v21a : v2.a 21 (cdI s + 1).toNat = 22 := by rw [k2.2.1.2.1 _ (by omega), kM.2.1.2.1 _ (by omega), k1.2.1.2.1 _ (by omega)]; exact A21'
  have v21b : v2.a 21 (cdI v1).toNat = 14 := by rw [k2.2.1.2.1 _ (by omega)]; exact M21
  have no1 : ¬ E.a 21 (cdI s + 1).toNat = 36 := by rw [E21, if_neg (by omega), v21a]; decide
  have no2 : ¬ E.a 21 (cdI v1).toNat = 36 := by rw [E21, if_neg (by omega), v21b]; decide
  obtain ⟨b1, b2, b3, b4, b5, b6, b7, b8, b9, b10⟩ := mE
  obtain ⟨H, hH⟩ : ∃ H, H = (E.setA 22 (cdI s + 1).toNat (E.i 20)).setA 22 (cdI v1).toNat (E.i 20) := ⟨_, rfl⟩
  have mH : MI0 t s H := by
    rw [hH]
    refine ⟨b1, b2, (b3.hole no1).hole (show ¬ (E.setA 22 (cdI s + 1).toNat (E.i 20)).a 21 (cdI v1).toNat = 36 from no2), b4, (b5.hole (by omega) no1).hole (by omega) (show ¬ (E.setA 22 (cdI s + 1).toNat (E.i 20)).a 21 (cdI v1).toNat = 36 from no2), b6, b7, b8, b9, b10⟩
  have iH : H.i = E.i := by rw [hH]; rfl
  have aH : ∀ k : Nat, k ≠ 22 → H.a k = E.a k := fun k hk => by rw [hH, setA_nk hk, setA_nk hk]
  have H22 : ∀ j : Nat, j ≠ (cdI s + 1).toNat → j ≠ (cdI v1).toNat → H.a 22 j = E.a 22 j := fun j h1 h2 => by rw [hH, setA_ne h2, setA_ne h1]
  have Hk1 : H.a 22 (cdI s + 1).toNat = E.i 20 := by rw [hH, setA_ne (by omega), setA_at]
  have Hk2 : H.a 22 (cdI v1).toNat = E.i 20 := by rw [hH, setA_at]
  have bH : H.b 9 = v2.b 9 := by rw [hH]; exact bE
  rw [← hH]
  clear hH
  have fH : fr H = fr v2 := by unfold fr; rw [iH, iE 11 (by decide)]
  refine END (x := 1) hN (by omega) hI (Or.inr rfl) hm (mH.mid (fun z => ?_)) hF (fun W hW hfW => hC W hW (by omega))
  have z1 : ¬ 0 ≤ v2.i 18 := fun q => z (by rw [iH, iE 18 (by decide)]; exact q)
  have z2 : ¬ 0 ≤ v1.i 18 := fun q => z1 (k2.1.2 (kM.1.2 q))
  have gH : goI (H.setI 75 1) = goI v2 := by show goI H = _; unfold goI; rw [iH, iE 43 (by decide)]
  have g2 : goI v2 = goI s := a4.go
  have i3 : 4 ≤ (H.i 3).toInt := by
    have : H.i 3 = s.i 3 := by rw [iH, iE 3 (by decide)]; exact a3.1.1.1 3 (by omega)
    rw [this]
    have := le_int hI.2.1.2.1.1
    have e4 : (4 : Int32).toInt = 4 := by decide
    omega
  refine TS.assert (W := H.setI 75 1) (x9 := E.i 20) hI kA cA A21 A21' A38 A52 (by omega) (te z2) k1 i1 d1 f1 gv1 kM cM M21 M38 M52 fM (te2 z1) k2 a1.tn g2 a4.2.2.1 f2 fv.2 c2'.2.2 le2 cE ⟨fun k h1 h2 => ?_, bH, fun j h1 h2 h3 h4 h5 h6 => (if_neg h6).trans (by rw [iH]; exact iE j (by omega))⟩ ?_ gH (fun k hk => ⟨?_, ?_⟩) (fun k hk h1 h2 => ?_) ?_ ?_ ?_ ?_ i3 rfl
  · show H.a k = v2.a k
    rw [aH k (by omega), aE k (by omega) (by omega) (by omega)]
  · show cdI H = _
    have : cdI H = cdI E := by unfold cdI; rw [iH]
    omega
  · show H.a 21 k = _
    rw [aH 21 (by decide), E21, if_neg (by omega)]
  · show H.a 23 k = _
    rw [aH 23 (by decide), E23, if_neg (by omega)]
  · show H.a 22 k = _
    rw [H22 k h1 h2, E22, if_neg (by omega)]
  · exact Hk1
  · exact Hk2
  · show H.a 21 (cdI v2).toNat = 19
    rw [aH 21 (by decide), E21, if_pos rfl]
  · show H.a 22 (cdI v2).toNat = 3
    rw [H22 _ (by omega) (by omega), E22, if_pos rfl]
theorem run_assert {N b : Nat} (hN : 1000 ≤ N) (hc' : 1 ≤ b → RUNE N 20 1 20 15 (b - 1)) (hx : 1 ≤ b → RUNE N 16 4 11 24 (b - 1)) : RUNU N b 8 (fun x => x = 427) := by
  intro n s u t P hI hp ht hu tu u15 hT hz h9 hb hc hn n1 hF hC
  have hf := hI.1.f0
  have cs := hI.cd
  refine lp_8 tu (by omega) u15 hu.2.2.2.2.2.2.1 ?_
  unfold f_X12_asserted
  rw [if_pos (tp_ib tu (by omega)), tp_nat tu, if_pos hu.2.2.2.2.2.2.2.1]
  obtain ⟨R, eR, hR, xR⟩ := STA hN hI ht hz hu
  have mR := hR.mm
  obtain ⟨r1, r2, r3, r4, r5, r6, r7, r8, r9, r10, r11, r12, r13, r14⟩ := hR
  have r13 := r13 (by rw [hT]; decide)
  rw [eR]
  have cR := r1.cd
  show ok (((f_X12_emit N R 22 0).bind fun p5 => (f_X12_then N (RS.setA p5.2 66 t p5.1) 1 20).bind fun p7 => some p7).bind fun p => f_X12_parse_10 N n p) P
  rw [p_em 22 0 cR.1 cR.2.2]
  show ok (((f_X12_then N ((EM R 22 0).setA 66 t (R.i 20)) 1 20).bind fun p7 => some p7).bind fun p => f_X12_parse_10 N n p) P
  obtain ⟨A, hA⟩ : ∃ A, A = (EM R 22 0).setA 66 t (R.i 20) := ⟨_, rfl⟩
  have mA : MM t s A := by rw [hA]; exact (mR.em hI (by omega)).loc _ (by omega) (by omega)
  have A21 : ∀ j : Nat, A.a 21 j = if j = (cdI R).toNat then 22 else R.a 21 j := fun j => by rw [hA, setA_nk (by decide), EM.a21]
  have A66 : (A.a 66 t).toInt = cdI R := by rw [hA, setA_at]; rfl
  have A64 : A.a 64 t = 8 := by rw [hA, setA_nk (by decide), EM.a (by decide) (by decide) (by decide)]; exact r11
  have cA : cdI A = cdI s + 2 := by rw [hA]; exact (EM.cd (u := R) (o := 22) (x := 0) cR.1 cR.2.2).trans (by omega)
  have fA : fr A = fr R := by rw [hA]; rfl
  rw [← hA]
  clear hA
  have fAf := mA.1.1.f0
  have oA : op A = op s := mA.2.2.2.1.eOp
  rw [p_th 1 20 mA.2.1 (by omega)]
  show ok (f_X12_parse_10 N n (TH A t 1 20)) P
  refine CALL (hc' (by omega)) mA.1 mA.2.1 (by omega) (by omega) (by omega) (by omega) (fun u hu => hF u (FS'.kp mA.2.2.1 hu)) (fun m v hv hm => ?_)
  have mV := mA.pc hv
  obtain ⟨v1, v2, v3, v4, v5, v6, v7, v8, v9, v10, v11, v12⟩ := hv
  have fv := v1.1.f0
  have cv := v1.cd
  obtain ⟨m3, rfl⟩ : ∃ m3, m = m3 + 1 := ⟨m - 1, by omega⟩
  have push3 : ((m3 + 1 : Nat) : Int) = (m3 : Int) + 1 := by omega
  rw [push3] at hm
  refine lp_8 v2 (by omega) v1.2.2.1 ((v12 64 (by omega) (by omega) (by omega)).trans A64) ?_
  unfold f_X12_asserted
  rw [if_pos (tp_ib v2 (by omega)), tp_nat v2, if_neg (by rw [v11]; decide), if_pos v11, p_em 14 0 cv.1 cv.2.2]
  show ok ((if ((EM v 14 0).i 10) = 58 then (f_X12_next N (RS.setA (EM v 14 0) 67 t (v.i 20))).bind fun p15 => (f_X12_then N p15 2 16).bind fun p17 => some p17 else (f_X12_emit N (RS.setA (EM v 14 0) 67 t (v.i 20)) 2 0).bind fun p13 => some (RS.setA p13.2 65 t 2) : Option RS).bind fun p => f_X12_parse_10 N m3 p) P
  obtain ⟨M0, hM0⟩ : ∃ M0, M0 = (EM v 14 0).setA 67 t (v.i 20) := ⟨_, rfl⟩
  have rv := mV.2.2.2.2.2.1
  have mM0 : MM t s M0 := by rw [hM0]; exact (mV.em hI (by unfold RATE at v6; omega)).loc _ (by omega) (by omega)
  have kM0 : KP t v M0 := by rw [hM0]; exact ((KP.rf t v).em cv.1 cv.2.2).loc t _ (by omega) (by omega) (Nat.le_refl _)
  have cM0 : cdI M0 = cdI v + 1 := by rw [hM0]; exact EM.cd (u := v) (o := 14) (x := 0) cv.1 cv.2.2
  have M21 : M0.a 21 (cdI v).toNat = 14 := by rw [hM0, setA_nk (by decide), EM.a21, if_pos rfl]
  have M67 : (M0.a 67 t).toInt = cdI v := by rw [hM0, setA_at]; rfl
  have aM : ∀ k : Nat, k ≠ 21 → k ≠ 22 → k ≠ 23 → k ≠ 67 → M0.a k = v.a k := fun k h1 h2 h3 h4 => by rw [hM0, setA_nk h4, EM.a h1 h2 h3]
  have fM0 : fr M0 = fr v := by rw [hM0]; rfl
  have M10 : (EM v 14 0).i 10 = M0.i 10 := by rw [hM0]; rfl
  rw [M10, ← hM0]
  clear hM0
  have vgo : goI v = goI s := mV.2.2.2.1.go
  have ek : (cdI s + 1).toNat = (cdI R).toNat := by rw [r9]
  have As1 : A.a 21 (cdI s).toNat = 1 := by rw [A21, if_neg (by omega)]; exact r10
  have As2 : A.a 21 (cdI s + 1).toNat = 22 := by rw [A21, if_pos ek]
  by_cases c58 : M0.i 10 = 58
  · rw [if_pos c58]
    obtain ⟨M, eM, x1, x2, x3, x4, x5, x6, x7⟩ := NX hN mM0.1 (by rw [c58]; decide)
    rw [eM]
    show ok (((f_X12_then N M 2 16).bind fun p17 => some p17).bind fun p => f_X12_parse_10 N m3 p) P
    have mM : MM t s M := mM0.lx x4 x1 x3 x5 x6
    rw [p_th 2 16 mM.2.1 (by omega)]
    show ok (f_X12_parse_10 N m3 (TH M t 2 16)) P
    have oM : op M = op s := mM.2.2.2.1.eOp
    have fMf := x4.1.f0
    refine CALL (hx (by omega)) x4 mM.2.1 (by omega) (by omega) (by omega) (by omega) (fun u hu => hF u (FS'.kp mM.2.2.1 hu)) (fun m4 w hw hm4 => ?_)
    have mW := mM.pc hw
    obtain ⟨w1, w2, w3, w4, w5, w6, w7, w8, w9, w10, w11, w12⟩ := hw
    have fw := w1.1.f0
    obtain ⟨m5, rfl⟩ : ∃ m5, m4 = m5 + 1 := ⟨m4 - 1, by omega⟩
    have push5 : ((m5 + 1 : Nat) : Int) = (m5 : Int) + 1 := by omega
    rw [push5] at hm4
    have cM : cdI M = cdI v + 1 := x1.tbl.cd.trans cM0
    refine ASR3 (M := M) (v2 := w) hN hI h9 (by omega) hF mA.2.2.1 cA As1 As2 mA.2.2.2.2.1 mA.2.2.2.1.2.2.1 (by omega) v9 v3 v1 mV.2.2.2.1.2.2.1 v7 vgo v6 ((KP.rf t v).tr (kM0.lx x1) (Nat.le_refl _)) cM (by rw [x1.1]; exact M21) mM.2.2.2.2.1 mM.2.2.2.1.2.2.1 (by omega) w9 w3 mW (by omega) (by unfold RATE at w6; omega) ?_ w11 ?_ ?_ (fun W hW hfW => hC m5 W hW (by omega) (by omega))
    · rw [w12 64 (by omega) (by omega) (by omega), x1.1, aM 64 (by decide) (by decide) (by decide) (by decide), v12 64 (by omega) (by omega) (by omega)]; exact A64
    · rw [w12 66 (by omega) (by omega) (by omega), x1.1, aM 66 (by decide) (by decide) (by decide) (by decide), v12 66 (by omega) (by omega) (by omega), A66]; exact r9
    · rw [w12 67 (by omega) (by omega) (by omega), x1.1]; exact M67
  · rw [if_neg c58]
    have cM0' := mM0.1.cd
    rw [p_em 2 0 cM0'.1 cM0'.2.2]
    show ok (f_X12_parse_10 N m3 ((EM M0 2 0).setA 65 t 2)) P
    obtain ⟨w, hw⟩ : ∃ w, w = (EM M0 2 0).setA 65 t 2 := ⟨_, rfl⟩
    have mW : MM t s w := by rw [hw]; exact (mM0.em hI (by unfold RATE at v6; omega)).loc _ (by omega) (by omega)
    have kW : KP t M0 w := by rw [hw]; exact ((KP.rf t M0).em cM0'.1 cM0'.2.2).loc t _ (by omega) (by omega) (Nat.le_refl _)
    have cw : cdI w = cdI M0 + 1 := by rw [hw]; exact EM.cd (u := M0) (o := 2) (x := 0) cM0'.1 cM0'.2.2
    have w21 : w.a 21 (cdI M0).toNat = 2 := by rw [hw, setA_nk (by decide), EM.a21, if_pos rfl]
    have w22 : w.a 22 (cdI M0).toNat = 0 := by rw [hw, setA_nk (by decide), EM.a22, if_pos rfl]
    have w65 : w.a 65 t = 2 := by rw [hw]; exact setA_at
    have aw : ∀ k : Nat, k ≠ 21 → k ≠ 22 → k ≠ 23 → k ≠ 65 → w.a k = M0.a k := fun k h1 h2 h3 h4 => by rw [hw, setA_nk h4, EM.a h1 h2 h3]
    have fw : fr w = fr M0 := by rw [hw]; rfl
    rw [← hw]
    clear hw
    obtain ⟨m5, rfl⟩ : ∃ m5, m3 = m5 + 1 := ⟨m3 - 1, by omega⟩
    have push5 : ((m5 + 1 : Nat) : Int) = (m5 : Int) + 1 := by omega
    rw [push5] at hm
    refine ASR3 (M := M0) (v2 := w) hN hI h9 (by omega) hF mA.2.2.1 cA As1 As2 mA.2.2.2.2.1 mA.2.2.2.1.2.2.1 (by omega) v9 v3 v1 mV.2.2.2.1.2.2.1 v7 vgo v6 kM0 cM0 M21 mM0.2.2.2.2.1 mM0.2.2.2.1.2.2.1 (by omega) (fun _ => TE.i1 (t := t) cM0'.1 cw w21 w22 (by decide) (fun f g h o lv rs g1 g2 g3 g4 => okJ_2 (c := (h, o, lv, false, rs)) g1 g4.fp)) kW mW (by omega) (by omega) ?_ w65 ?_ ?_ (fun W hW hfW => hC m5 W hW (by omega) (by omega))
    · rw [aw 64 (by decide) (by decide) (by decide) (by decide), aM 64 (by decide) (by decide) (by decide) (by decide), v12 64 (by omega) (by omega) (by omega)]; exact A64
    · rw [aw 66 (by decide) (by decide) (by decide) (by decide), aM 66 (by decide) (by decide) (by decide) (by decide), v12 66 (by omega) (by omega) (by omega), A66]; exact r9
    · rw [aw 67 (by decide) (by decide) (by decide) (by decide)]; exact M67
end
