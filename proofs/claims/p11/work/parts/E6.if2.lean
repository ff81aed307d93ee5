/-! reading: if: its frame -/
theorem LXI.sA {u : RS} (h : LXI u) (k t : Nat) (v : Int32) : LXI (u.setA k t v) := h
theorem tp_sA {u : RS} (k t : Nat) (v : Int32) : tpI (u.setA k t v) = tpI u := rfl
theorem tp_em {u : RS} (o x : Int32) : tpI (EM u o x) = tpI u := rfl
theorem INV.hole {u : RS} {k : Nat} {x : Int32} (h : INV u) (ho : ¬ u.a 21 k = 36) : INV (u.setA 22 k x) := ⟨h.1, RB.of rfl rfl rfl rfl rfl h.2.1, h.2.2.1, h.2.2.2.1.hole ho, h.2.2.2.2⟩
theorem INV.em {u : RS} {o x : Int32} (h : INV u) (hc : cdI u + 1 ≤ 3 * fr u) : INV (EM u o x) := by
  have c := h.cd
  have e := EM.cd (o := o) (x := x) c.1 c.2.2
  obtain ⟨b1, b2, b3, b4, b5, b6, b7, b8, b9, b10, b11, b12⟩ := h.2.2.2.2
  exact ⟨LXI.em h.1, RB.of rfl rfl rfl rfl rfl h.2.1, h.2.2.1, h.2.2.2.1.em c.1 c.2.2, b1, ⟨by omega, by rw [e]; exact hc⟩, b3, b4, b5, b6, b7, b8, b9, b10, b11, b12⟩
theorem PRS.prl {s : RS} (h : PRS s) (hT : ¬ (s.i 10 = 2 ∨ s.i 10 = 415 ∨ s.i 10 = 416 ∨ s.i 10 = 417)) : PRL s := ⟨h.1, fun γ a1 => hT (h.2 γ a1)⟩
theorem PRL.prs {s : RS} (h : PRL s) : PRS s := ⟨h.1, h.2.p3⟩
theorem OPC {N b n : Nat} {K st : Int32} {r q e : Int} (hN : 1000 ≤ N) (hr : 1 ≤ b → RUNE N K r q e (b - 1)) {s R : RS} {t : Nat} {P : RS → Prop} (h9 : t < 998) (hR : MM t s R) (hb : 2 * ((t : Int) + 1) ≤ fr R + 1 + 12 * (op R + 1) + 2 * r) (hc : 900 - fr s ≤ b) (hn : 36000 + q ≤ (n : Int) + 40 * (fr R + 1)) (n1 : 1 ≤ n) (hF : ∀ u, FS' s u → P u) (hC : ∀ (m : Nat) (A v : RS), INV A → tpI A = t → KP t R A → TBL R A → A.i 19 = R.i 19 + 1 → op A = op R + 1 → A.i 52 = R.i 52 → fr R + 1 ≤ fr A → tkI A = tkI R + 1 → A.a = R.a → A.i 10 = A.i 10 → PC t st A v → (n : Int) + 40 * fr A + e ≤ m + 40 * fr v → ok (f_X12_parse_10 N m v) P) : ok (((f_X12_open N R 40).bind fun p5 => (f_X12_then N p5.2 st K).bind fun p7 => some p7).bind fun p => f_X12_parse_10 N n p) P := by
  obtain ⟨a1, a2, a3, a4, a5, a6, a7, a8⟩ := hR
  have hf := a1.1.f0
  obtain ⟨p, ep, hp⟩ := OPO (t := t) hN a1 40 (by decide)
  rw [ep]
  show ok (((f_X12_then N p.2 st K).bind fun p => some p).bind fun p => f_X12_parse_10 N n p) P
  rcases hp with ⟨p1, p2, p3⟩ | ⟨p1, p2, p3, r1, r2, r3, r4, r5, r6, r7, r8, r9, r10, r11⟩
  · rw [p_th st K (p2.tp.trans a2) (by omega)]
    exact lp_f (u := TH p.2 t st K) p1 (hF _ (FS'.th (FS'.of a3.1.1 p2 p1 a1.r))) n1
  · rw [p_th st K (r2.trans a2) (by omega)]
    show ok (f_X12_parse_10 N n (TH p.2 t st K)) P
    have rf := r1.1.f0
    exact CALL (hr (by omega)) r1 (r2.trans a2) (by omega) (by omega) (by omega) (by omega) (fun u hu => hF u (FS'.kp (a3.tr r3 (Nat.le_refl _)) hu)) (fun m v hv hm => hC m p.2 v r1 (r2.trans a2) r3 r4 r5 r6 r7 r8 r9 r10 rfl hv hm)
theorem IF3 {N : Nat} {n : Nat} {s q : RS} {t : Nat} {P : RS → Prop} {x : Int32} (h9 : t < 998) (hx : x = 0 ∨ x = 1) (hC : ∀ (u : RS), PS t s u → fr q ≤ fr u → ok (f_X12_parse_10 N n u) P) (a1 : INV q) (a2 : tpI q = t) (a3 : KP t s q) (a4 : SAME s q) (a5 : SNW s q) (a6 : RATE s q) (a7 : fr s ≤ fr q) (a8 : tkI s ≤ tkI q) (a9 : ¬ 0 ≤ q.i 18 → TS s (q.setI 75 x)) : ok (((f_X12_over N q x).bind fun p => some p).bind fun p => f_X12_parse_10 N n p) P := by
  rw [e_over hx]
  exact hC _ (PSM (by omega) hx a1 a2 a3 a4 a5 a6 a7 a8 a9) (Int.le_refl _)
theorem k_nat {x : Int32} {k : Nat} (h : x.toInt = k) : x.toNatClampNeg = k := by
  show x.toInt.toNat = k
  rw [h]; exact Int.toNat_natCast _
/-- the else part, and the end -/
theorem IF2 {N b : Nat} (hN : 1000 ≤ N) (hs : 1 ≤ b → RUNS N (b - 1)) {m : Nat} {s A v1 B2 v2 : RS} {t : Nat} {P : RS → Prop} (hI : INV s) (h9 : t < 998) (hb : 2 * (t : Int) ≤ fr s + 12 * op s + 2) (hc : 900 - fr s ≤ b) (hF : ∀ u, FS' s u → P u) (hp : PRL s) (kA : KP t s A) (cA : cdI A = cdI s + 1) (A21 : A.a 21 (cdI s).toNat = 1) (A38 : A.i 38 = s.i 38) (A52 : A.i 52 = s.i 52) (fA : fr s + 1 ≤ fr A) (te : ¬ 0 ≤ v1.i 18 → TE A v1) (k1 : KP t A v1) (i1 : INV v1) (d1 : v1.i 52 = s.i 52) (f1 : fr A + 1 ≤ fr v1) (kB : KP t v1 B2) (cB : cdI B2 = cdI v1 + 1) (B21 : B2.a 21 (cdI v1).toNat = 13) (B38 : B2.i 38 = s.i 38) (sB : SAME s B2) (fB : fr v1 + 1 ≤ fr B2) (gB : goI v1 = goI s) (B64 : B2.a 64 t = 9) (B66 : (B2.a 66 t).toInt = cdI v1) (rB : RATE s B2) (nB : SNW s B2) (hv : PCS t 2 B2 v2) (tkB : tkI s ≤ tkI B2) (hn : 36000 + 31 ≤ (m : Int) + 1 + 40 * fr v2) (hC : ∀ (m' : Nat) (u : RS), PS t s u → fr v2 ≤ fr u → (m : Int) + 40 * fr v2 ≤ m' + 40 * fr u → ok (f_X12_parse_10 N m' u) P) : ok (f_X12_parse_10 N (m + 1) v2) P := by
  have hv' := hv
  obtain ⟨v1', v2', v3', v4', v5', v6', v7', v8', v9', v10', v11'⟩ := hv'
  have fv := v1'.1.f0
  have cv1 := i1.cd
  have cv2 := v1'.cd
  have cs := hI.cd
  have le1 := k1.2.1.1
  have le2 := v3'.2.1.1
  have ek1 : ((cdI v1).toNat : Int) = cdI v1 := Int.toNat_of_nonneg cv1.1
  have ek2 : ((cdI v2).toNat : Int) = cdI v2 := Int.toNat_of_nonneg cv2.1
  obtain ⟨ksB, ssB, snB, raB⟩ := MM.pcs hv ((kA.tr k1 (Nat.le_refl _)).tr kB (Nat.le_refl _)) sB nB rB
  have e66 : v2.a 66 t = B2.a 66 t := v11' 66 (by omega) (by omega) (by omega)
  have k66 : (v2.a 66 t).toInt = (cdI v1).toNat := by rw [e66, B66, ek1]
  have n66 := k_nat k66
  have ib66 : ib (v2.a 66 t) 3000 := ⟨by omega, by omega⟩
  have e21 : v2.a 21 (cdI v1).toNat = 13 := by rw [v3'.2.1.2.1 _ (by omega)]; exact B21
  have no : ¬ v2.a 21 (cdI v1).toNat = 36 := by rw [e21]; decide
  have z21 : ¬ 0 ≤ v2.i 18 → ¬ 0 ≤ v1.i 18 := fun z q => z (v3'.1.2 (kB.1.2 q))
  have kVB : KP t s B2 := (kA.tr k1 (Nat.le_refl _)).tr kB (Nat.le_refl _)
  have sV := v6'
  refine lp_9 v2' (by omega) v1'.2.2.1 ((v11' 64 (by omega) (by omega) (by omega)).trans B64) ?_
  unfold f_X12_branch
  rw [if_pos (tp_ib v2' (by omega)), tp_nat v2', if_neg (by rw [v10']; decide), if_neg (by rw [v10']; decide), if_pos v10']
  by_cases c : v2.i 10 = 414
  case neg =>
    rw [if_neg c, if_pos ib66, n66]
    refine IF3 (q := v2.setA 22 (cdI v1).toNat (v2.i 20)) h9 (Or.inr rfl) (fun u hu hfu => hC m u hu hfu (by have hfu : fr v2 ≤ fr u := hfu; omega)) (v1'.hole no) v2' (ksB.hole (by omega) no) ssB snB raB (by show fr s ≤ fr v2; omega) (by show tkI s ≤ tkI v2; omega) (fun z => ?_)
    have z1 : ¬ 0 ≤ v2.i 18 := z
    exact TS.if1 hI kA cA A21 A38 A52 (by omega) (te (z21 z1)) k1 i1 d1 f1 kB cB B21 B38 sB (by omega) gB (v9' z1) v3' v1' v4' v7' rfl (TBL.i75 _ 1).tbs rfl
  rw [if_pos c]
  obtain ⟨D, eD, x1, x2, x3, x4, x5, x6, x7⟩ := NX hN v1' (by rw [c]; decide)
  have x7 := x7 (Or.inl (by rw [c]; decide))
  rw [eD]
  have d75 : D.i 75 = v2.i 75 := x1.2.2.1 75 (by omega) (by omega)
  have r01 := v1'.r
  have e67 : ((if (D.i 75) = 0 then f_X12_branch_113 N (RS.setA D 67 t 0) (v2.i 63) else f_X12_branch_113 N (RS.setA D 67 t 1) (v2.i 63)) : Option RS) = f_X12_branch_113 N (RS.setA D 67 t (v2.i 75)) (v2.i 63) := by
    rcases r01 with r | r
    · rw [if_pos (d75.trans r), r]
    · rw [if_neg (by rw [d75, r]; decide), r]
  show ok (((if (D.i 75) = 0 then f_X12_branch_113 N (RS.setA D 67 t 0) (v2.i 63) else f_X12_branch_113 N (RS.setA D 67 t 1) (v2.i 63)) : Option RS).bind fun p => f_X12_parse_10 N m p) P
  rw [e67]
  have ei : v2.i 63 = D.i 63 := x1.i63.symm
  have tD : tpI D = t := x1.tp.trans v2'
  have cDv : cdI D = cdI v2 := x1.tbl.cd
  have aD : D.a = v2.a := x1.1
  obtain ⟨D1, hD1⟩ : ∃ D1, D1 = D.setA 67 t (v2.i 75) := ⟨_, rfl⟩
  have iD1 : INV D1 := by rw [hD1]; exact x4.loc t _ (by omega) (by omega)
  have kD1 : KP t v2 D1 := by rw [hD1]; exact ((KP.rf t v2).lx x1).loc t _ (by omega) (by omega) (Nat.le_refl _)
  have tD1 : TBL v2 D1 := by rw [hD1]; exact x1.tbl.tr (TBL.loc _ t _ (by omega) (by omega))
  have a67 : D1.a 67 t = v2.i 75 := by rw [hD1]; exact setA_at
  have an67 : ∀ k : Nat, k ≠ 67 → D1.a k = v2.a k := fun k hk => by rw [hD1, setA_nk hk, aD]
  have i63 : D1.i 63 = v2.i 63 := by rw [hD1]; exact x1.i63
  have sD1 : SAME v2 D1 := by rw [hD1]; exact x1.same x3
  have fD1 : fr D1 = fr D := by rw [hD1]; rfl
  have tkD1 : tkI D1 = tkI D := by rw [hD1]; rfl
  have d18 : D1.i 18 = v2.i 18 := by rw [hD1]; exact x1.2.2.1 18 (by omega) (by omega)
  have d381 : D1.i 38 = v2.i 38 := by rw [hD1]; exact x1.i38
  rw [← hD1]
  clear hD1
  unfold f_X12_branch_113
  have cD1 := iD1.cd
  have ecd1 : cdI D1 = cdI v2 := tD1.cd
  rw [p_em 15 0 cD1.1 cD1.2.2, tp_nat v2']
  show ok ((if ib (v2.i 63) 1000 then (if ib ((EM D1 15 0).a 66 t) 3000 then (f_X12_body N (RS.setA (RS.setA (EM D1 15 0) 68 t (D1.i 20)) 22 ((((EM D1 15 0).a 66 t) : Int32).toNatClampNeg) ((EM D1 15 0).i 20)) 3).bind fun p28 => some p28 else none) else none : Option RS).bind fun p => f_X12_parse_10 N m p) P
  have em66 : (EM D1 15 0).a 66 t = v2.a 66 t := by rw [EM.a (by decide) (by decide) (by decide), an67 66 (by decide)]
  rw [em66, if_pos (tp_ib v2' (by omega)), if_pos ib66, n66]
  have raD1 : RATE s D1 := raB.tr (tD1.rate (by omega) (by omega))
  obtain ⟨D2, hD2⟩ : ∃ D2, D2 = (EM D1 15 0).setA 68 t (D1.i 20) := ⟨_, rfl⟩
  have iE : INV (EM D1 15 0) := iD1.em (by have := hI.2.2.2.2.2.1; unfold RATE at raB; omega)
  have iD2 : INV D2 := by rw [hD2]; exact iE.loc t _ (by omega) (by omega)
  have kD2 : KP t D1 D2 := by rw [hD2]; exact ((KP.rf t D1).em cD1.1 cD1.2.2).loc t _ (by omega) (by omega) (Nat.le_refl _)
  have cD2 : cdI D2 = cdI v2 + 1 := by rw [hD2]; exact (EM.cd (u := D1) (o := 15) (x := 0) cD1.1 cD1.2.2).trans (by rw [ecd1])
  have D2a : ∀ k : Nat, k ≠ 21 → k ≠ 22 → k ≠ 23 → k ≠ 68 → D2.a k = D1.a k := fun k h1 h2 h3 h4 => by rw [hD2, setA_nk h4, EM.a h1 h2 h3]
  have D2i : ∀ j : Nat, j ≠ 20 → D2.i j = D1.i j := fun j hj => by rw [hD2]; exact EM.i hj
  have D221 : D2.a 21 (cdI v2).toNat = 15 := by rw [hD2, setA_nk (by decide), EM.a21, if_pos (by rw [ecd1])]
  have D268 : (D2.a 68 t).toInt = cdI v2 := by rw [hD2, setA_at]; exact ecd1
  have e20 : (EM D1 15 0).i 20 = D2.i 20 := by rw [hD2]; rfl
  rw [← hD2, e20]
  clear hD2
  have raD2 : RATE s D2 := by
    have e2 : enI D2 = enI D1 := by unfold enI; rw [D2i 24 (by decide)]
    have e3 : trI D2 = trI D1 := by unfold trI; rw [D2i 29 (by decide)]
    have e4 : caI D2 = caI D1 := by unfold caI; rw [D2i 33 (by decide)]
    have e5 : slI D2 = slI D1 := by unfold slI; rw [D2i 42 (by decide)]
    have e6 : peI D2 = peI D1 := by unfold peI; rw [D2i 59 (by decide)]
    have e7 : fr D2 = fr D1 := by unfold fr; rw [D2i 11 (by decide)]
    have e8 : tkI D2 = tkI D1 := by unfold tkI; rw [D2i 17 (by decide)]
    unfold RATE at raD1 raB ⊢
    rw [cD2, e2, e3, e4, e5, e6, e7, e8]
    omega
  have fD2 : fr D2 = fr D := by have : fr D2 = fr D1 := by { unfold fr; rw [D2i 11 (by decide)] }; omega
  have tkD2 : tkI D2 = tkI D := by have : tkI D2 = tkI D1 := by { unfold tkI; rw [D2i 17 (by decide)] }; omega
  have sD2 : SAME v2 D2 := sD1.tr ⟨D2i 19 (by decide), D2i 43 (by decide), D2i 52 (by decide), D2i 56 (by decide)⟩
  have kvD2 : KP t v2 D2 := kD1.tr kD2 (Nat.le_refl _)
  have eD21 : D2.a 21 (cdI v1).toNat = 13 := by rw [kvD2.2.1.2.1 _ (by omega)]; exact e21
  have no1 : ¬ D2.a 21 (cdI v1).toNat = 36 := by rw [eD21]; decide
  obtain ⟨D3, hD3⟩ : ∃ D3, D3 = D2.setA 22 (cdI v1).toNat (D2.i 20) := ⟨_, rfl⟩
  have iD3 : INV D3 := by rw [hD3]; exact iD2.hole no1
  have kD3 : KP t s D3 := by rw [hD3]; exact (ksB.tr kvD2 (Nat.le_refl _)).hole (by omega) no1
  have i3 : D3.i = D2.i := by rw [hD3]; rfl
  have a3 : ∀ k : Nat, k ≠ 22 → D3.a k = D2.a k := fun k hk => by rw [hD3]; exact setA_nk hk
  have tb3 : TBS (D2.setA 22 (cdI v1).toNat (D2.i 20)) D3 := by rw [hD3]; exact (TBL.rf _).tbs
  have ra3 : RATE s D3 := by rw [hD3]; exact raD2
  rw [← hD3]
  clear hD3
  have t3 : tpI D3 = t := by unfold tpI; rw [i3, D2i 63 (by decide), i63]; exact v2'
  have s23 : SAME D2 D3 := ⟨by rw [i3], by rw [i3], by rw [i3], by rw [i3]⟩
  have s3 : SAME s D3 := (ssB.tr sD2).tr s23
  have f3 : fr D3 = fr D := by have : fr D3 = fr D2 := by { unfold fr; rw [i3] }; omega
  have tk3 : tkI D3 = tkI D := by have : tkI D3 = tkI D2 := by { unfold tkI; rw [i3] }; omega
  have ed40 : bel 40 (seI v2) v2 D3 ∧ bel 41 (seI v2) v2 D3 := ⟨fun j _ => by rw [a3 40 (by decide), D2a 40 (by decide) (by decide) (by decide) (by decide), an67 40 (by decide)], fun j _ => by rw [a3 41 (by decide), D2a 41 (by decide) (by decide) (by decide) (by decide), an67 41 (by decide)]⟩
  have e38D : D3.i 38 = v2.i 38 := by rw [i3, D2i 38 (by decide), d381]
  have sn3 : SNW s D3 := by
    have e1 : seI D3 = seI v2 := by unfold seI; rw [e38D]
    have e2 : slI D3 = slI v2 := by
      have : slI D3 = slI D1 := by unfold slI; rw [i3, D2i 42 (by decide)]
      rw [this]; exact tD1.sl
    refine ⟨by have := snB.1; omega, fun y y1 y2 => ?_⟩
    have := snB.2 y y1 (by omega)
    unfold gv at this ⊢
    rw [ed40.1 y (by omega)]
    exact this
  rcases BODY (N := N) (u := D3) 3 iD3.1 t3 h9 with ⟨S, eS, y1, y2⟩ | ⟨eS, y1⟩
  · rw [eS]
    exact lp_f y2 (hF S (FS'.of kD3.1.1 y1 y2 iD3.r)) (by omega)
  rw [eS]
  show ok (f_X12_parse_10 N m (TH D3 t 3 2)) P
  have o3 : op D3 = op s := s3.eOp
  have fD := x4.1.f0
  refine CALLS (hs (by omega)) iD3 (hp.kp kD3 s3.go).prs t3 (by omega) (by omega) (by omega) (by omega) (fun u hu => hF u (FS'.kp kD3 hu)) (fun m2 v3 hv3 hf3 hm2 => ?_)
  have hv3' := hv3
  obtain ⟨w1, w2, w3, w4, w5, w6, w7, w8, w9, w10, w11⟩ := hv3'
  obtain ⟨ks3, ss3, sns3, ras3⟩ := MM.pcs hv3 kD3 s3 sn3 ra3
  have fw := w1.1.f0
  obtain ⟨m3, rfl⟩ : ∃ m3, m2 = m3 + 1 := ⟨m2 - 1, by omega⟩
  have push3 : ((m3 + 1 : Nat) : Int) = (m3 : Int) + 1 := by omega
  rw [push3] at hm2
  have D64 : D3.a 64 t = 9 := by rw [a3 64 (by decide), D2a 64 (by decide) (by decide) (by decide) (by decide), an67 64 (by decide), v11' 64 (by omega) (by omega) (by omega)]; exact B64
  refine lp_9 w2 (by omega) w1.2.2.1 ((w11 64 (by omega) (by omega) (by omega)).trans D64) ?_
  unfold f_X12_branch
  have e68 : v3.a 68 t = D2.a 68 t := by rw [w11 68 (by omega) (by omega) (by omega), a3 68 (by decide)]
  have k68 : (v3.a 68 t).toInt = (cdI v2).toNat := by rw [e68, D268, ek2]
  have n68 := k_nat k68
  have ib68 : ib (v3.a 68 t) 3000 := ⟨by omega, by omega⟩
  have e67v : v3.a 67 t = v2.i 75 := by rw [w11 67 (by omega) (by omega) (by omega), a3 67 (by decide), D2a 67 (by decide) (by decide) (by decide) (by decide)]; exact a67
  rw [if_pos (tp_ib w2 (by omega)), tp_nat w2, if_neg (by rw [w10]; decide), if_neg (by rw [w10]; decide), if_neg (by rw [w10]; decide), if_pos ib68, n68, e67v]
  have cD3 : cdI D3 = cdI v2 + 1 := by have : cdI D3 = cdI D2 := by { unfold cdI; rw [i3] }; omega
  have lev3 := w3.2.1.1
  have e3b : v3.a 21 (cdI v2).toNat = 15 := by
    rw [w3.2.1.2.1 _ (by omega), a3 21 (by decide)]; exact D221
  have no2 : ¬ v3.a 21 (cdI v2).toNat = 36 := by rw [e3b]; decide
  have z32 : ¬ 0 ≤ v3.i 18 → ¬ 0 ≤ v2.i 18 := fun z q => z (w3.1.2 (by rw [i3, D2i 18 (by decide), d18]; exact q))
  have fin : ∀ x : Int32, (x = 0 ∨ x = 1) → (v2.i 75 = 1 → x = 1) → (v3.i 75 = 1 → x = 1) → ok (((f_X12_over N (v3.setA 22 (cdI v2).toNat (v3.i 20)) x).bind fun p => some p).bind fun p => f_X12_parse_10 N m3 p) P := by
    intro x hx h1 h2
    refine IF3 (q := v3.setA 22 (cdI v2).toNat (v3.i 20)) h9 hx (fun u hu hfu => hC m3 u hu (by have hfu : fr v3 ≤ fr u := hfu; omega) (by have hfu : fr v3 ≤ fr u := hfu; omega)) (w1.hole no2) w2 (ks3.hole (by omega) no2) ss3 sns3 ras3 (by show fr s ≤ fr v3; omega) (by show tkI s ≤ tkI v3; omega) (fun z => ?_)
    have z1 : ¬ 0 ≤ v3.i 18 := z
    exact TS.if2 hI kA cA A21 A38 A52 (by omega) (te (z21 (z32 z1))) k1 i1 d1 f1 kB cB B21 B38 sB (by omega) gB (v9' (z32 z1)) v3' v1' v4' snB v7' kvD2 cD2 D221 sD2 iD2.tn (by omega) (by rw [D2i 38 (by decide), d381]) (by rw [D2a 40 (by decide) (by decide) (by decide) (by decide), an67 40 (by decide)]) (by rw [D2a 41 (by decide) (by decide) (by decide) (by decide), an67 41 (by decide)]) rfl tb3 (by rw [i3]) (by omega) s23 (w9 z1) w3 w1 w4 w7 rfl (TBL.i75 _ x).tbs h1 h2 kD3 ed40
  rcases w1.r with r | r
  · rw [if_pos r]
    by_cases c1 : v2.i 75 = 1
    · rw [if_pos c1]
      exact fin 1 (Or.inr rfl) (fun _ => rfl) (fun _ => rfl)
    · rw [if_neg c1]
      exact fin 0 (Or.inl rfl) (fun q => absurd q c1) (fun q => by rw [r] at q; exact absurd q (by decide))
  · rw [if_neg (by rw [r]; decide)]
    exact fin 1 (Or.inr rfl) (fun _ => rfl) (fun _ => rfl)
theorem run_if {N b : Nat} (hN : 1000 ≤ N) (hc' : 1 ≤ b → RUNE N 20 1 20 15 (b - 1)) (hs : 1 ≤ b → RUNS N (b - 1)) : RUNU N b 9 (fun x => x = 413) := by
  intro n s u t P hI hp ht hu tu u15 hT hz h9 hb hc hn n1 hF hC
  have hf := hI.1.f0
  have cs := hI.cd
  have hpl : PRL s := hp.prl (by rw [hT]; decide)
  refine lp_9 tu (by omega) u15 hu.2.2.2.2.2.2.1 ?_
  unfold f_X12_branch
  rw [if_pos (tp_ib tu (by omega)), tp_nat tu, if_pos hu.2.2.2.2.2.2.2.1]
  obtain ⟨R, eR, hR, xR⟩ := STA hN hI ht hz hu
  have mR := hR.mm
  obtain ⟨r1, r2, r3, r4, r5, r6, r7, r8, r9, r10, r11, r12, r13, r14⟩ := hR
  have r13 := r13 (by rw [hT]; decide)
  rw [eR]
  have oR : op R = op s := r4.eOp
  refine OPC hN hc' h9 mR (by omega) hc (by omega) n1 hF (fun m A v a1 a2 a3 a4 a5 a6 a7 a8 a9 a10 _ hv hm => ?_)
  have hv' := hv
  obtain ⟨v1, v2, v3, v4, v5, v6, v7, v8, v9, v10, v11, v12⟩ := hv'
  have fv := v1.1.f0
  have cv := v1.cd
  obtain ⟨m3, rfl⟩ : ∃ m3, m = m3 + 1 := ⟨m - 1, by omega⟩
  have push3 : ((m3 + 1 : Nat) : Int) = (m3 : Int) + 1 := by omega
  rw [push3] at hm
  refine lp_9 v2 (by omega) v1.2.2.1 (by rw [v12 64 (by omega) (by omega) (by omega), a10]; exact r11) ?_
  unfold f_X12_branch
  rw [if_pos (tp_ib v2 (by omega)), tp_nat v2, if_neg (by rw [v11]; decide), if_pos v11]
  obtain ⟨w, ew, x1, x2⟩ := SHO hN v1 41 (by decide)
  rw [ew]
  have ksA : KP t s A := r3.tr a3 (Nat.le_refl _)
  have ksv : KP t s v := ksA.tr v3 (Nat.le_refl _)
  have ecw : cdI w.2 = cdI v := x1.tbl.cd
  show ok (((f_X12_emit N w.2 13 0).bind fun p12 => (f_X12_body N (RS.setA p12.2 66 t p12.1) 2).bind fun p14 => some p14).bind fun p => f_X12_parse_10 N m3 p) P
  rw [p_em 13 0 (by omega) (by omega)]
  show ok (((f_X12_body N ((EM w.2 13 0).setA 66 t (w.2.i 20)) 2).bind fun p14 => some p14).bind fun p => f_X12_parse_10 N m3 p) P
  have tw : tpI w.2 = t := x1.tp.trans v2
  obtain ⟨B2, hB2⟩ : ∃ B2, B2 = (EM w.2 13 0).setA 66 t (w.2.i 20) := ⟨_, rfl⟩
  have lB : LXI B2 := by rw [hB2]; exact LXI.sA (LXI.em (o := 13) (x := 0) x1.2.2.2.1) 66 t (w.2.i 20)
  have tB : tpI B2 = t := by rw [hB2, tp_sA, tp_em]; exact tw
  have kvB : KP t v B2 := by rw [hB2]; exact (((KP.rf t v).lx x1).em cv.1 (by omega)).loc t _ (by omega) (by omega) (Nat.le_refl _)
  have r75 : B2.i 75 = v.i 75 := by rw [hB2]; exact x1.2.2.1 75 (by omega) (by omega)
  have i15 : B2.i 15 = w.2.i 15 := by rw [hB2]; rfl
  have cB : cdI B2 = cdI v + 1 := by rw [hB2]; exact (EM.cd (u := w.2) (o := 13) (x := 0) (by omega) (by omega)).trans (by rw [ecw])
  have B21 : B2.a 21 (cdI v).toNat = 13 := by rw [hB2, setA_nk (by decide), EM.a21, if_pos (by rw [ecw])]
  have B66 : (B2.a 66 t).toInt = cdI v := by rw [hB2, setA_at]; exact ecw
  have B64 : B2.a 64 t = 9 := by rw [hB2, setA_nk (by decide), EM.a (by decide) (by decide) (by decide), x1.1, v12 64 (by omega) (by omega) (by omega), a10]; exact r11
  rw [← hB2]
  rcases BODY (N := N) (u := B2) 2 lB tB h9 with ⟨S, eS, y1, y2⟩ | ⟨eS, y1⟩
  · rw [eS]
    exact lp_f y2 (hF S (FS'.of (ksv.tr kvB (Nat.le_refl _)).1.1 y1 y2 (by rw [r75]; exact v1.r))) (by omega)
  rw [eS]
  rcases x2 with x2 | ⟨x2, x3, x4, x5, x6⟩
  · exact absurd (i15.symm.trans y1) x2
  show ok (f_X12_parse_10 N m3 (TH B2 t 2 2)) P
  have mB : MM t s w.2 := MM.clo hI mR a3 a4 a5 a7 a8 a9 hv x1 x2 x4 x5 x6
  have mB2 : MM t s B2 := by
    rw [hB2]
    have raw := mB.2.2.2.2.2.1
    exact (mB.em hI (by unfold RATE at v6 r6; have := a4.cd; omega)).loc _ (by omega) (by omega)
  have fB : fr B2 = fr w.2 := by rw [hB2]; rfl
  clear hB2
  have fB9 := mB2.1.1.f0
  have oB : op B2 = op s := mB2.2.2.2.1.eOp
  refine CALLS (hs (by omega)) mB2.1 (hpl.kp mB2.2.2.1 mB2.2.2.2.1.go).prs tB (by omega) (by omega) (by omega) (by omega) (fun u hu => hF u (FS'.kp mB2.2.2.1 hu)) (fun m4 v' hv2 hf2 hm4 => ?_)
  have fv' := hv2.1.1.f0
  obtain ⟨m5, rfl⟩ : ∃ m5, m4 = m5 + 1 := ⟨m4 - 1, by omega⟩
  have push5 : ((m5 + 1 : Nat) : Int) = (m5 : Int) + 1 := by omega
  rw [push5] at hm4
  have A21 : A.a 21 (cdI s).toNat = 1 := by rw [a10]; exact r10
  have A38 : A.i 38 = s.i 38 := (a4.2.2 38 (by omega) (by omega) (by omega) (by omega)).trans r5
  have cA : cdI A = cdI s + 1 := a4.cd.trans r9
  have vgo : goI v = goI s := by
    have e1 : goI v = goI A := v4.go
    have e2 := a4.go
    have e3 := r4.go
    omega
  exact IF2 hN hs hI h9 hb hc hF hpl ksA cA A21 A38 (a7.trans r4.2.2.1) (by omega) v9 v3 v1 (v4.2.2.1.trans (a7.trans r4.2.2.1)) v7 kvB cB B21 mB2.2.2.2.2.1 mB2.2.2.2.1 (by omega) vgo B64 B66 mB2.2.2.2.2.2.1 mB2.snw hv2 (by have := mB2.2.2.2.2.2.2.2; omega) (by omega) (fun m' u' hu' hf' hm' => hC m' u' hu' (by omega) (by omega))
