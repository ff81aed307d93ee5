/-! reading: assert: its frame -/
theorem ASR3 {N : Nat} (hN : 1000 ≤ N) {m : Nat} {s A v1 M v2 : RS} {t : Nat} {P : RS → Prop} (hI : INV s) (h9 : t < 998) (hm : 1 ≤ m) (hF : ∀ u, FS' s u → P u) (kA : KP t s A) (cA : cdI A = cdI s + 2) (A21 : A.a 21 (cdI s).toNat = 1) (A21' : A.a 21 (cdI s + 1).toNat = 22) (A38 : A.i 38 = s.i 38) (A52 : A.i 52 = s.i 52) (fA : fr s + 2 ≤ fr A) (te : ¬ 0 ≤ v1.i 18 → TE A v1) (k1 : KP t A v1) (i1 : INV v1) (d1 : v1.i 52 = s.i 52) (f1 : fr A + 1 ≤ fr v1) (gv1 : goI v1 = goI s) (r1 : RATE A v1) (kM : KP t v1 M) (cM : cdI M = cdI v1 + 1) (M21 : M.a 21 (cdI v1).toNat = 14) (M38 : M.i 38 = s.i 38) (M52 : M.i 52 = s.i 52) (fM : fr v1 ≤ fr M) (te2 : ¬ 0 ≤ v2.i 18 → TE M v2) (k2 : KP t M v2) (mV : MM t s v2) (f2 : fr M ≤ fr v2) (cv : cdI v2 - cdI M ≤ 3 * (fr v2 - fr M) + 1) (v64 : v2.a 64 t = 8) (v65 : v2.a 65 t = 2) (v66 : (v2.a 66 t).toInt = cdI s + 1) (v67 : (v2.a 67 t).toInt = cdI v1) (hC : ∀ W, PS t s W → fr v2 + 1 ≤ fr W → ok (f_X12_parse_10 N m W) P) : ok (f_X12_parse_10 N (m + 1) v2) P := by
  obtain ⟨a1, a2, a3, a4, a5, a6, a7, a8⟩ := id mV
  have cs := hI.cd
  have c1' := i1.cd
  have c2' := a1.cd
  have fv := a1.1.f0
  have le1 := k1.2.1.1
  have le2 := k2.2.1.1
  have ek1 : ((cdI s + 1).toNat : Int) = cdI s + 1 := Int.toNat_of_nonneg (by omega)
  have ekv : ((cdI v1).toNat : Int) = cdI v1 := Int.toNat_of_nonneg c1'.1
  have ek2 : ((cdI v2).toNat : Int) = cdI v2 := Int.toNat_of_nonneg c2'.1
  refine lp_8 a2 (by omega) a1.2.2.1 v64 ?_
  unfold f_X12_asserted
  rw [if_pos (tp_ib a2 (by omega)), tp_nat a2, if_neg (by rw [v65]; decide), if_neg (by rw [v65]; decide), p_em 19 3 c2'.1 c2'.2.2]
  obtain ⟨E, hE⟩ : ∃ E, E = EM v2 19 3 := ⟨_, rfl⟩
  have mE : MI0 t s E := by rw [hE]; exact MI0.em mV hI (by unfold RATE at r1; omega)
  have aE : ∀ k : Nat, k ≠ 21 → k ≠ 22 → k ≠ 23 → E.a k = v2.a k := fun k h1 h2 h3 => by rw [hE]; exact EM.a h1 h2 h3
  have iE : ∀ j : Nat, j ≠ 20 → E.i j = v2.i j := fun j hj => by rw [hE]; exact EM.i hj
  have cE : cdI E = cdI v2 + 1 := by rw [hE]; exact EM.cd c2'.1 c2'.2.2
  have E21 : ∀ j : Nat, E.a 21 j = if j = (cdI v2).toNat then 19 else v2.a 21 j := fun j => by rw [hE]; exact EM.a21 j
  have E22 : ∀ j : Nat, E.a 22 j = if j = (cdI v2).toNat then 3 else v2.a 22 j := fun j => by rw [hE]; exact EM.a22 j
  have E23 : ∀ j : Nat, E.a 23 j = if j = (cdI v2).toNat then 0 else v2.a 23 j := fun j => by rw [hE]; exact EM.a23 j
  have bE : E.b 9 = v2.b 9 := by rw [hE]; rfl
  show ok ((if ib ((EM v2 19 3).a 66 t) 3000 then (if ib ((EM v2 19 3).a 67 t) 3000 then (f_X12_need N (RS.setA (RS.setA (EM v2 19 3) 22 ((((EM v2 19 3).a 66 t) : Int32).toNatClampNeg) ((EM v2 19 3).i 20)) 22 ((((EM v2 19 3).a 67 t) : Int32).toNatClampNeg) ((EM v2 19 3).i 20)) 59).bind fun p23 => (f_X12_over N p23.2 1).bind fun p25 => some p25 else none) else none : Option RS).bind fun p => f_X12_parse_10 N m p) P
  rw [← hE]
  clear hE
  have n66 := k_nat (show (v2.a 66 t).toInt = ((cdI s + 1).toNat : Int) by rw [v66, ek1])
  have n67 := k_nat (show (v2.a 67 t).toInt = ((cdI v1).toNat : Int) by rw [v67, ekv])
  rw [aE 66 (by decide) (by decide) (by decide), aE 67 (by decide) (by decide) (by decide), if_pos (show ib (v2.a 66 t) 3000 from ⟨by omega, by omega⟩), if_pos (show ib (v2.a 67 t) 3000 from ⟨by omega, by omega⟩), n66, n67]
  have v21a : v2.a 21 (cdI s + 1).toNat = 22 := by rw [k2.2.1.2.1 _ (by omega), kM.2.1.2.1 _ (by omega), k1.2.1.2.1 _ (by omega)]; exact A21'
  have v21b : v2.a 21 (cdI v1).toNat = 14 := by rw [k2.2.1.2.1 _ (by omega)]; exact M21
  have no1 : ¬ E.a 21 (cdI s + 1).toNat = 36 := by rw [E21, if_neg (by omega), v21a]; decide
  have no2 : ¬ E.a 21 (cdI v1).toNat = 36 := by rw [E21, if_neg (by omega), v21b]; decide
  obtain ⟨b1, b2, b3, b4, b5, b6, b7, b8, b9, b10⟩ := mE
  obtain ⟨H, hH⟩ : ∃ H, H = (E.setA 22 (cdI s + 1).toNat (E.i 20)).setA 22 (cdI v1).toNat (E.i 20) := ⟨_, rfl⟩
  have mH : MI0 t s H := by
    rw [hH]
    refine ⟨b1, b2, (b3.hole no1).hole (show ¬ (E.setA 22 (cdI s + 1).toNat (E.i 20)).a 21 (cdI v1).toNat = 36 from no2), b4, (b5.hole (by omega) no1).hole (by omega) (show ¬ (E.setA 22 (cdI s + 1).toNat (E.i 20)).a 21 (cdI v1).toNat = 36 from no2), b6, b7, b8, b9, b10⟩
  have iH : H.i = E.i := by rw [hH]; rfl
  have aH : ∀ k : Nat, k ≠ 22 → H.a k = E.a k := fun k hk => by rw [hH, setA_nk hk, setA_nk hk]
  have H22 : ∀ j : Nat, j ≠ (cdI s + 1).toNat → j ≠ (cdI v1).toNat → H.a 22 j = E.a 22 j := fun j h1 h2 => by rw [hH, setA_ne h2, setA_ne h1]
  have Hk1 : H.a 22 (cdI s + 1).toNat = E.i 20 := by rw [hH, setA_ne (by omega), setA_at]
  have Hk2 : H.a 22 (cdI v1).toNat = E.i 20 := by rw [hH, setA_at]
  have bH : H.b 9 = v2.b 9 := by rw [hH]; exact bE
  rw [← hH]
  clear hH
  have fH : fr H = fr v2 := by unfold fr; rw [iH, iE 11 (by decide)]
  refine END (x := 1) hN (by omega) hI (Or.inr rfl) hm (mH.mid (fun z => ?_)) hF (fun W hW hfW => hC W hW (by omega))
  have z1 : ¬ 0 ≤ v2.i 18 := fun q => z (by rw [iH, iE 18 (by decide)]; exact q)
  have z2 : ¬ 0 ≤ v1.i 18 := fun q => z1 (k2.1.2 (kM.1.2 q))
  have gH : goI (H.setI 75 1) = goI v2 := by show goI H = _; unfold goI; rw [iH, iE 43 (by decide)]
  have g2 : goI v2 = goI s := a4.go
  have i3 : 4 ≤ (H.i 3).toInt := by
    have : H.i 3 = s.i 3 := by rw [iH, iE 3 (by decide)]; exact a3.1.1.1 3 (by omega)
    rw [this]
    have := le_int hI.2.1.2.1.1
    have e4 : (4 : Int32).toInt = 4 := by decide
    omega
  refine TS.assert (W := H.setI 75 1) (x9 := E.i 20) hI kA cA A21 A21' A38 A52 (by omega) (te z2) k1 i1 d1 f1 gv1 kM cM M21 M38 M52 fM (te2 z1) k2 a1.tn g2 a4.2.2.1 f2 fv.2 c2'.2.2 le2 cE ⟨fun k h1 h2 => ?_, bH, fun j h1 h2 h3 h4 h5 h6 => (if_neg h6).trans (by rw [iH]; exact iE j (by omega))⟩ ?_ gH (fun k hk => ⟨?_, ?_⟩) (fun k hk h1 h2 => ?_) ?_ ?_ ?_ ?_ i3 rfl
  · show H.a k = v2.a k
    rw [aH k (by omega), aE k (by omega) (by omega) (by omega)]
  · show cdI H = _
    have : cdI H = cdI E := by unfold cdI; rw [iH]
    omega
  · show H.a 21 k = _
    rw [aH 21 (by decide), E21, if_neg (by omega)]
  · show H.a 23 k = _
    rw [aH 23 (by decide), E23, if_neg (by omega)]
  · show H.a 22 k = _
    rw [H22 k h1 h2, E22, if_neg (by omega)]
  · exact Hk1
  · exact Hk2
  · show H.a 21 (cdI v2).toNat = 19
    rw [aH 21 (by decide), E21, if_pos rfl]
  · show H.a 22 (cdI v2).toNat = 3
    rw [H22 _ (by omega) (by omega), E22, if_pos rfl]
theorem run_assert {N b : Nat} (hN : 1000 ≤ N) (hc' : 1 ≤ b → RUNE N 20 1 20 15 (b - 1)) (hx : 1 ≤ b → RUNE N 16 4 11 24 (b - 1)) : RUNU N b 8 (fun x => x = 427) := by
  intro n s u t P hI hp ht hu tu u15 hT hz h9 hb hc hn n1 hF hC
  have hf := hI.1.f0
  have cs := hI.cd
  refine lp_8 tu (by omega) u15 hu.2.2.2.2.2.2.1 ?_
  unfold f_X12_asserted
  rw [if_pos (tp_ib tu (by omega)), tp_nat tu, if_pos hu.2.2.2.2.2.2.2.1]
  obtain ⟨R, eR, hR, xR⟩ := STA hN hI ht hz hu
  have mR := hR.mm
  obtain ⟨r1, r2, r3, r4, r5, r6, r7, r8, r9, r10, r11, r12, r13, r14⟩ := hR
  have r13 := r13 (by rw [hT]; decide)
  rw [eR]
  have cR := r1.cd
  show ok (((f_X12_emit N R 22 0).bind fun p5 => (f_X12_then N (RS.setA p5.2 66 t p5.1) 1 20).bind fun p7 => some p7).bind fun p => f_X12_parse_10 N n p) P
  rw [p_em 22 0 cR.1 cR.2.2]
  show ok (((f_X12_then N ((EM R 22 0).setA 66 t (R.i 20)) 1 20).bind fun p7 => some p7).bind fun p => f_X12_parse_10 N n p) P
  obtain ⟨A, hA⟩ : ∃ A, A = (EM R 22 0).setA 66 t (R.i 20) := ⟨_, rfl⟩
  have mA : MM t s A := by rw [hA]; exact (mR.em hI (by omega)).loc _ (by omega) (by omega)
  have A21 : ∀ j : Nat, A.a 21 j = if j = (cdI R).toNat then 22 else R.a 21 j := fun j => by rw [hA, setA_nk (by decide), EM.a21]
  have A66 : (A.a 66 t).toInt = cdI R := by rw [hA, setA_at]; rfl
  have A64 : A.a 64 t = 8 := by rw [hA, setA_nk (by decide), EM.a (by decide) (by decide) (by decide)]; exact r11
  have cA : cdI A = cdI s + 2 := by rw [hA]; exact (EM.cd (u := R) (o := 22) (x := 0) cR.1 cR.2.2).trans (by omega)
  have fA : fr A = fr R := by rw [hA]; rfl
  rw [← hA]
  clear hA
  have fAf := mA.1.1.f0
  have oA : op A = op s := mA.2.2.2.1.eOp
  rw [p_th 1 20 mA.2.1 (by omega)]
  show ok (f_X12_parse_10 N n (TH A t 1 20)) P
  refine CALL (hc' (by omega)) mA.1 mA.2.1 (by omega) (by omega) (by omega) (by omega) (fun u hu => hF u (FS'.kp mA.2.2.1 hu)) (fun m v hv hm => ?_)
  have mV := mA.pc hv
  obtain ⟨v1, v2, v3, v4, v5, v6, v7, v8, v9, v10, v11, v12⟩ := hv
  have fv := v1.1.f0
  have cv := v1.cd
  obtain ⟨m3, rfl⟩ : ∃ m3, m = m3 + 1 := ⟨m - 1, by omega⟩
  have push3 : ((m3 + 1 : Nat) : Int) = (m3 : Int) + 1 := by omega
  rw [push3] at hm
  refine lp_8 v2 (by omega) v1.2.2.1 ((v12 64 (by omega) (by omega) (by omega)).trans A64) ?_
  unfold f_X12_asserted
  rw [if_pos (tp_ib v2 (by omega)), tp_nat v2, if_neg (by rw [v11]; decide), if_pos v11, p_em 14 0 cv.1 cv.2.2]
  show ok ((if ((EM v 14 0).i 10) = 58 then (f_X12_next N (RS.setA (EM v 14 0) 67 t (v.i 20))).bind fun p15 => (f_X12_then N p15 2 16).bind fun p17 => some p17 else (f_X12_emit N (RS.setA (EM v 14 0) 67 t (v.i 20)) 2 0).bind fun p13 => some (RS.setA p13.2 65 t 2) : Option RS).bind fun p => f_X12_parse_10 N m3 p) P
  obtain ⟨M0, hM0⟩ : ∃ M0, M0 = (EM v 14 0).setA 67 t (v.i 20) := ⟨_, rfl⟩
  have rv := mV.2.2.2.2.2.1
  have mM0 : MM t s M0 := by rw [hM0]; exact (mV.em hI (by unfold RATE at v6; omega)).loc _ (by omega) (by omega)
  have kM0 : KP t v M0 := by rw [hM0]; exact ((KP.rf t v).em cv.1 cv.2.2).loc t _ (by omega) (by omega) (Nat.le_refl _)
  have cM0 : cdI M0 = cdI v + 1 := by rw [hM0]; exact EM.cd (u := v) (o := 14) (x := 0) cv.1 cv.2.2
  have M21 : M0.a 21 (cdI v).toNat = 14 := by rw [hM0, setA_nk (by decide), EM.a21, if_pos rfl]
  have M67 : (M0.a 67 t).toInt = cdI v := by rw [hM0, setA_at]; rfl
  have aM : ∀ k : Nat, k ≠ 21 → k ≠ 22 → k ≠ 23 → k ≠ 67 → M0.a k = v.a k := fun k h1 h2 h3 h4 => by rw [hM0, setA_nk h4, EM.a h1 h2 h3]
  have fM0 : fr M0 = fr v := by rw [hM0]; rfl
  have M10 : (EM v 14 0).i 10 = M0.i 10 := by rw [hM0]; rfl
  rw [M10, ← hM0]
  clear hM0
  have vgo : goI v = goI s := mV.2.2.2.1.go
  have ek : (cdI s + 1).toNat = (cdI R).toNat := by rw [r9]
  have As1 : A.a 21 (cdI s).toNat = 1 := by rw [A21, if_neg (by omega)]; exact r10
  have As2 : A.a 21 (cdI s + 1).toNat = 22 := by rw [A21, if_pos ek]
  by_cases c58 : M0.i 10 = 58
  · rw [if_pos c58]
    obtain ⟨M, eM, x1, x2, x3, x4, x5, x6, x7⟩ := NX hN mM0.1 (by rw [c58]; decide)
    rw [eM]
    show ok (((f_X12_then N M 2 16).bind fun p17 => some p17).bind fun p => f_X12_parse_10 N m3 p) P
    have mM : MM t s M := mM0.lx x4 x1 x3 x5 x6
    rw [p_th 2 16 mM.2.1 (by omega)]
    show ok (f_X12_parse_10 N m3 (TH M t 2 16)) P
    have oM : op M = op s := mM.2.2.2.1.eOp
    have fMf := x4.1.f0
    refine CALL (hx (by omega)) x4 mM.2.1 (by omega) (by omega) (by omega) (by omega) (fun u hu => hF u (FS'.kp mM.2.2.1 hu)) (fun m4 w hw hm4 => ?_)
    have mW := mM.pc hw
    obtain ⟨w1, w2, w3, w4, w5, w6, w7, w8, w9, w10, w11, w12⟩ := hw
    have fw := w1.1.f0
    obtain ⟨m5, rfl⟩ : ∃ m5, m4 = m5 + 1 := ⟨m4 - 1, by omega⟩
    have push5 : ((m5 + 1 : Nat) : Int) = (m5 : Int) + 1 := by omega
    rw [push5] at hm4
    have cM : cdI M = cdI v + 1 := x1.tbl.cd.trans cM0
    refine ASR3 (M := M) (v2 := w) hN hI h9 (by omega) hF mA.2.2.1 cA As1 As2 mA.2.2.2.2.1 mA.2.2.2.1.2.2.1 (by omega) v9 v3 v1 mV.2.2.2.1.2.2.1 v7 vgo v6 ((KP.rf t v).tr (kM0.lx x1) (Nat.le_refl _)) cM (by rw [x1.1]; exact M21) mM.2.2.2.2.1 mM.2.2.2.1.2.2.1 (by omega) w9 w3 mW (by omega) (by unfold RATE at w6; omega) ?_ w11 ?_ ?_ (fun W hW hfW => hC m5 W hW (by omega) (by omega))
    · rw [w12 64 (by omega) (by omega) (by omega), x1.1, aM 64 (by decide) (by decide) (by decide) (by decide), v12 64 (by omega) (by omega) (by omega)]; exact A64
    · rw [w12 66 (by omega) (by omega) (by omega), x1.1, aM 66 (by decide) (by decide) (by decide) (by decide), v12 66 (by omega) (by omega) (by omega), A66]; exact r9
    · rw [w12 67 (by omega) (by omega) (by omega), x1.1]; exact M67
  · rw [if_neg c58]
    have cM0' := mM0.1.cd
    rw [p_em 2 0 cM0'.1 cM0'.2.2]
    show ok (f_X12_parse_10 N m3 ((EM M0 2 0).setA 65 t 2)) P
    obtain ⟨w, hw⟩ : ∃ w, w = (EM M0 2 0).setA 65 t 2 := ⟨_, rfl⟩
    have mW : MM t s w := by rw [hw]; exact (mM0.em hI (by unfold RATE at v6; omega)).loc _ (by omega) (by omega)
    have kW : KP t M0 w := by rw [hw]; exact ((KP.rf t M0).em cM0'.1 cM0'.2.2).loc t _ (by omega) (by omega) (Nat.le_refl _)
    have cw : cdI w = cdI M0 + 1 := by rw [hw]; exact EM.cd (u := M0) (o := 2) (x := 0) cM0'.1 cM0'.2.2
    have w21 : w.a 21 (cdI M0).toNat = 2 := by rw [hw, setA_nk (by decide), EM.a21, if_pos rfl]
    have w22 : w.a 22 (cdI M0).toNat = 0 := by rw [hw, setA_nk (by decide), EM.a22, if_pos rfl]
    have w65 : w.a 65 t = 2 := by rw [hw]; exact setA_at
    have aw : ∀ k : Nat, k ≠ 21 → k ≠ 22 → k ≠ 23 → k ≠ 65 → w.a k = M0.a k := fun k h1 h2 h3 h4 => by rw [hw, setA_nk h4, EM.a h1 h2 h3]
    have fw : fr w = fr M0 := by rw [hw]; rfl
    rw [← hw]
    clear hw
    obtain ⟨m5, rfl⟩ : ∃ m5, m3 = m5 + 1 := ⟨m3 - 1, by omega⟩
    have push5 : ((m5 + 1 : Nat) : Int) = (m5 : Int) + 1 := by omega
    rw [push5] at hm
    refine ASR3 (M := M0) (v2 := w) hN hI h9 (by omega) hF mA.2.2.1 cA As1 As2 mA.2.2.2.2.1 mA.2.2.2.1.2.2.1 (by omega) v9 v3 v1 mV.2.2.2.1.2.2.1 v7 vgo v6 kM0 cM0 M21 mM0.2.2.2.2.1 mM0.2.2.2.1.2.2.1 (by omega) (fun _ => TE.i1 (t := t) cM0'.1 cw w21 w22 (by decide) (fun f g h o lv rs g1 g2 g3 g4 => okJ_2 (c := (h, o, lv, false, rs)) g1 g4.fp)) kW mW (by omega) (by omega) ?_ w65 ?_ ?_ (fun W hW hfW => hC m5 W hW (by omega) (by omega))
    · rw [aw 64 (by decide) (by decide) (by decide) (by decide), aM 64 (by decide) (by decide) (by decide) (by decide), v12 64 (by omega) (by omega) (by omega)]; exact A64
    · rw [aw 66 (by decide) (by decide) (by decide) (by decide), aM 66 (by decide) (by decide) (by decide) (by decide), v12 66 (by omega) (by omega) (by omega), A66]; exact r9
    · rw [aw 67 (by decide) (by decide) (by decide) (by decide)]; exact M67
