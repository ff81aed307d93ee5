/-! reading: log, return, yield, throw: their frames -/
theorem arm_last {s : RS} : ∀ (n γ : Nat), (γ : Int) < goI s → s.a 44 γ = 3 → goI s - γ ≤ n → ∃ δ : Nat, (δ : Int) < goI s ∧ s.a 44 δ = 3 ∧ NOARM s δ
  | 0, γ, h1, _, h3 => by omega
  | n + 1, γ, h1, h2, h3 => by
    by_cases c : ∃ δ : Nat, γ < δ ∧ (δ : Int) < goI s ∧ s.a 44 δ = 3
    · obtain ⟨δ, d1, d2, d3⟩ := c
      exact arm_last n δ d2 d3 (by omega)
    · exact ⟨γ, h1, h2, fun δ d1 d2 d3 => c ⟨δ, d1, d2, d3⟩⟩
theorem eRest_eq {N : Nat} (hN : 1000 ≤ N) {u : RS} {t : Nat} {x1 y : Int32} (hl : LXI u) (hx : ib x1 1000) (ht : x1.toNatClampNeg = t) (hy : u.a 66 t = y) : eRest N x1 u = (f_X12_need N u 59).bind fun p => (f_X12_over N p.2 (if y = 412 then 1 else 0)).bind fun p => some p := by
  obtain ⟨p, ep, h1, -⟩ := p_nd hN hl 59 (by decide)
  unfold eRest
  rw [ep, ht]
  show (if ib x1 1000 then (if p.2.a 66 t = 412 then (f_X12_over N p.2 1).bind fun p14 => some p14 else (f_X12_over N p.2 0).bind fun p12 => some p12) else none) = (f_X12_over N p.2 (if y = 412 then 1 else 0)).bind fun p => some p
  rw [if_pos hx, h1.1, hy]
  by_cases c : y = 412
  · rw [if_pos c, if_pos c]
  · rw [if_neg c, if_neg c]
/-- all of MID but what is typed -/
def MI0 (t : Nat) (s u : RS) : Prop := LXI u ∧ u.i 15 = 0 ∧ TAB u ∧ tpI u = t ∧ KP t s u ∧ SAME s u ∧ SNW s u ∧ RAT1 s u ∧ fr s ≤ fr u ∧ tkI s ≤ tkI u
theorem MI0.mid {t : Nat} {s u : RS} {x : Int32} (h : MI0 t s u) (hT : ¬ 0 ≤ u.i 18 → TS s (u.setI 75 x)) : MID t s u x := by
  obtain ⟨a1, a2, a3, a4, a5, a6, a7, a8, a9, a10⟩ := h
  exact ⟨a1, a2, a3, a4, a5, a6, a7, a8, a9, a10, hT⟩
theorem MI0.em {t : Nat} {s u : RS} {o x : Int32} (h : MM t s u) (hI : INV s) (hc : cdI u + 1 - cdI s ≤ 3 * (fr u + 1 - fr s)) : MI0 t s (EM u o x) := by
  have sn := h.snw
  obtain ⟨a1, a2, a3, a4, a5, a6, a7, a8⟩ := h
  have cu := a1.cd
  have cs := hI.cd
  refine ⟨LXI.em a1.1, a1.2.2.1, a1.2.2.2.1.em cu.1 cu.2.2, a2, a3.em cs.1 cu.2.2, a4, sn, ?_, by show fr s ≤ fr u; omega, by show tkI s ≤ tkI u; omega⟩
  have e := EM.cd (o := o) (x := x) cu.1 cu.2.2
  have e2 : enI (EM u o x) = enI u := rfl
  have e3 : trI (EM u o x) = trI u := rfl
  have e4 : caI (EM u o x) = caI u := rfl
  have e5 : slI (EM u o x) = slI u := rfl
  have e6 : peI (EM u o x) = peI u := rfl
  have e7 : fr (EM u o x) = fr u := rfl
  have e8 : tkI (EM u o x) = tkI u := rfl
  unfold RAT1
  unfold RATE at a6
  rw [e, e2, e3, e4, e5, e6, e7, e8]
  omega
theorem MI0.iy {t : Nat} {s u : RS} {y : Int32} {k : Nat} (h : MI0 t s u) (hk : cdI s ≤ k) : MI0 t s (u.setA 23 k y) := by
  obtain ⟨a1, a2, a3, a4, a5, a6, a7, a8, a9, a10⟩ := h
  exact ⟨a1, a2, a3.iy, a4, a5.iy hk, a6, a7, a8, a9, a10⟩
/-- a step, a value, an instruction with a second number -/
theorem TS.e1y {t : Nat} {s R v q : RS} {o9 x y z : Int32} (k1 : KP t s R) (te : TE R v) (k2 : KP t R v) (tn : TN v) (hv : INV v) (hq : q = EM v o9 x) (hs : INV s) (cR : cdI R = cdI s + 1) (R21 : R.a 21 (cdI s).toNat = 1) (ho : ¬ o9 = 36) (e38 : R.i 38 = s.i 38) (d1 : R.i 52 = s.i 52) (d2 : v.i 52 = s.i 52) (f1 : fr s ≤ fr R) (f2 : fr R + 1 ≤ fr v) (hJ : ∀ (f : RS) (g : Gh) (h o lv : Nat) (rs : List Rec), YE s rs → ((z = 1) → FL f g lv (cdI v + 1) (cdI v + 1) h o rs) → gv f 21 (cdI v).toNat = o9.toInt → gv f 23 (cdI v).toNat = y.toInt → OKI f g (cdI v).toNat (h + 1, o, lv, false, rs)) : TS s ((q.setA 23 (cdI v).toNat y).setI 75 z) := by
  have cv := hv.cd
  have cs := hs.cd
  have lt := k2.2.1.1
  have fv := hv.1.f0
  have kq : KP t v q := by rw [hq]; exact (KP.rf t v).em cv.1 cv.2.2
  have cq : cdI q = cdI v + 1 := by rw [hq]; exact EM.cd cv.1 cv.2.2
  have gq : goI q = goI v := by rw [hq]; rfl
  have q21 : ∀ j : Nat, q.a 21 j = if j = (cdI v).toNat then o9 else v.a 21 j := fun j => by rw [hq]; exact EM.a21 j
  have q22 : q.a 22 (cdI v).toNat = x := by rw [hq, EM.a22, if_pos rfl]
  have ekv : ((cdI v).toNat : Int) = cdI v := Int.toNat_of_nonneg cv.1
  clear hq
  have kW : KP t v ((q.setA 23 (cdI v).toNat y).setI 75 z) := (kq.iy (by omega)).i75 z
  refine TS.e1 (o9 := o9) (x := x) (W := (q.setA 23 (cdI v).toNat y).setI 75 z) k1 te k2 tn kW (by show goI q ≤ goI v; omega) cs.1 cR cq ?_ ?_ ?_ ho e38 d1 d2 f1 f2 fv.2 (fun f C g h o lv rs hC' hg hye _ hE g1 g2 g3 ek2 => ?_)
  · show q.a 21 (cdI s).toNat = 1
    rw [q21, if_neg (by omega), k2.2.1.2.1 (cdI s).toNat (by omega)]
    exact R21
  · show q.a 21 (cdI v).toNat = o9
    rw [q21, if_pos rfl]
  · exact q22
  · refine hJ f g h o lv rs hye (fun c => ?_) g1 ?_
    · have := hE.2.1 c
      rw [← ek2, ekv] at this
      exact this
    · rw [g3]
      show ((q.setA 23 (cdI v).toNat y).a 23 (cdI v).toNat).toInt = y.toInt
      rw [setA_at]
theorem END1 {N b : Nat} (hN : 1000 ≤ N) (hx : 1 ≤ b → RUNE N 16 4 11 24 (b - 1)) {n : Nat} {s u : RS} {t : Nat} {P : RS → Prop} {y : Int32} (hI : INV s) (ht : tpI s = t) (h9 : t < 998) (hb : 2 * (t : Int) ≤ fr s + 12 * op s + 2) (hc : 900 - fr s ≤ b) (hn : 36000 + 29 ≤ (n : Int) + 1 + 40 * fr s) (hF : ∀ u, FS' s u → P u) (hC : ∀ (m : Nat) (u : RS), PS t s u → fr s + 1 ≤ fr u → (n : Int) + 1 + 40 * fr s + 11 ≤ m + 40 * fr u → ok (f_X12_parse_10 N m u) P) (hz : ¬ s.i 10 = 0) (ul : LXI u) (ui : ∀ j : Nat, j ≠ 20 → j ≠ 53 → u.i j = s.i j) (ut : TAB u) (uk : KP t s u) (uc : cdI u = cdI s + 1) (u21 : u.a 21 (cdI s).toNat = 1) (u64 : u.a 64 t = 6) (hy : y = 412 ∨ y = 420 ∨ y = 431) (hya : y = 431 → ∃ γ : Nat, (γ : Int) < goI s ∧ s.a 44 γ = 3) : ok ((f_X12_ending_63 N (u.setA 66 t y)).bind fun p => f_X12_parse_10 N n p) P := by
  have hf := hI.1.f0
  have cs := hI.cd
  unfold f_X12_ending_63
  obtain ⟨R, eR, mR, cR, aR, f2, f1⟩ := STARTu hN y hI ht hz ul ui ut uk uc
  rw [eR]
  show ok (((f_X12_then N R 1 16).bind fun p28 => some p28).bind fun p => f_X12_parse_10 N n p) P
  rw [p_th 1 16 mR.2.1 (by omega)]
  show ok (f_X12_parse_10 N n (TH R t 1 16)) P
  have fR := mR.1.1.f0
  have oR : op R = op s := mR.2.2.2.1.eOp
  refine CALL (hx (by omega)) mR.1 mR.2.1 (by omega) (by omega) (by omega) (by omega) (fun u hu => hF u (FS'.kp mR.2.2.1 hu)) (fun m2 v hv hm2 => ?_)
  have mV := mR.pc hv
  obtain ⟨v1, v2, v3, v4, v5, v6, v7, v8, v9, v10, v11, v12⟩ := hv
  have fv := v1.1.f0
  have cv := v1.cd
  obtain ⟨m3, rfl⟩ : ∃ m3, m2 = m3 + 1 := ⟨m2 - 1, by omega⟩
  have push2 : ((m3 + 1 : Nat) : Int) = (m3 : Int) + 1 := by omega
  rw [push2] at hm2
  have e66 : v.a 66 t = y := by rw [v12 66 (by omega) (by omega) (by omega), aR]; exact setA_at
  have R21 : R.a 21 (cdI s).toNat = 1 := by rw [aR, setA_nk (by decide)]; exact u21
  refine lp_6 v2 (by omega) v1.2.2.1 (by rw [v12 64 (by omega) (by omega) (by omega), aR, setA_nk (by decide)]; exact u64) ?_
  have go1 : ∀ o9 : Int32, (o9 = 16 ∧ y = 412 ∨ o9 = 17 ∨ o9 = 18 ∧ y = 431) → ¬ o9 = 36 → (o9 = 17 → ¬ y = 412) → (o9 = 18 → ¬ y = 412) → ok (((f_X12_emit N v o9 0).bind fun p22 => f_X12_ending_117 N p22.2 (v.i 63) p22.1).bind fun p => f_X12_parse_10 N m3 p) P := by
    intro o9 ho ho36 h17 h18
    rw [p_em o9 0 cv.1 cv.2.2]
    show ok ((f_X12_ending_119 N N (EM v o9 0) (v.i 63) (v.i 20) 0).bind fun p => f_X12_parse_10 N m3 p) P
    have goV := v1.2.2.2.2.2.2.2.2.2.2.2.1
    have i20 : ib (v.i 20) 3000 := ⟨cv.1, cv.2.2⟩
    obtain ⟨yy, ey, hyy⟩ := p_e119 (N := N) (v.i 63) (v.i 20) i20 N (EM v o9 0) 0 (by show goI v ≤ 460; omega) (by decide) (by decide) (by rw [z_t0]; omega) (fun γ g1 => by rw [z_t0] at g1; omega) (by rw [z_t0]; exact goV.1)
    rw [ey]
    have ekk : (v.i 20).toNatClampNeg = (cdI v).toNat := rfl
    rw [ekk]
    have hx01 : (if y = 412 then (1 : Int32) else 0) = 0 ∨ (if y = 412 then (1 : Int32) else 0) = 1 := by
      by_cases c : y = 412
      · rw [if_pos c]; exact Or.inr rfl
      · rw [if_neg c]; exact Or.inl rfl
    have eE := EM.cd (u := v) (o := o9) (x := 0) cv.1 cv.2.2
    have ra := mV.2.2.2.2.2.1
    have lt := v3.2.1.1
    have ekv : ((cdI v).toNat : Int) = cdI v := Int.toNat_of_nonneg cv.1
    obtain ⟨q, hq⟩ : ∃ q, q = EM v o9 0 := ⟨_, rfl⟩
    have lq : MI0 t s q := by rw [hq]; exact MI0.em mV hI (by unfold RATE at ra v6; omega)
    have i18 : q.i 18 = v.i 18 := by rw [hq]; exact EM.i (by decide)
    have fq : fr q = fr v := by rw [hq]; rfl
    have hts : ¬ 0 ≤ v.i 18 → TS s ((q.setA 23 (cdI v).toNat yy).setI 75 (if y = 412 then (1 : Int32) else 0)) := fun z => by
      refine TS.e1y mR.2.2.1 (v9 z) v3 v1.tn v1 hq hI cR R21 ho36 mR.2.2.2.2.1 mR.2.2.2.1.2.2.1 mV.2.2.2.1.2.2.1 (by omega) v7 (fun f g h o lv rs hye hE g1 g3 => ?_)
      have h1 : 1 ≤ Ctx.h (h + 1, o, lv, false, rs) := by show 1 ≤ h + 1; omega
      rcases ho with ⟨rfl, c⟩ | rfl | ⟨rfl, c⟩
      · have hF' : FL f g lv (((cdI v).toNat : Int) + 1) (((cdI v).toNat : Int) + 1) h o rs := by
          rw [ekv]; exact hE (by rw [if_pos c])
        exact okJ_16 (c := (h + 1, o, lv, false, rs)) g1 ⟨h1, hF'⟩
      · exact okJ_17 (c := (h + 1, o, lv, false, rs)) g1 h1
      · refine okJ_18 (c := (h + 1, o, lv, false, rs)) g1 ⟨h1, ?_⟩
        obtain ⟨γ0, g5, g6⟩ := hya c
        obtain ⟨γ, d1, d2, d3⟩ := arm_last _ γ0 g5 g6 (Int.self_le_toNat _)
        have kg := mV.2.2.1.2.2.2.2.2.2.1
        have gV : goI v = goI s := mV.2.2.2.1.go
        have e := hyy γ (by show (γ : Int) < goI v; omega) (by show v.a 44 γ = 3; rw [kg.2.1 γ d1]; exact d2) ((NOARM.of gV kg.2.1 γ).mpr d3)
        have e47 : (EM v 18 0).a 47 γ = s.a 47 γ := kg.2.2.1 γ d1
        have : gv f 23 (cdI v).toNat = gv s 47 γ := by
          rw [g3, e, e47]
          rfl
        rw [this]
        exact hye γ d1 d2 d3
    rw [← hq]
    have e66q : (q.setA 23 (cdI v).toNat yy).a 66 t = y := by rw [setA_nk (by decide), hq, EM.a (by decide) (by decide) (by decide)]; exact e66
    rw [eRest_eq (t := t) (y := y) hN (lq.iy (y := yy) (k := (cdI v).toNat) (by omega)).1 (tp_ib v2 (by omega)) (tp_nat v2) e66q]
    have hmid : MID t s (q.setA 23 (cdI v).toNat yy) (if y = 412 then (1 : Int32) else 0) := (lq.iy (by omega)).mid (fun z => hts (fun q' => z (by show 0 ≤ q.i 18; rw [i18]; exact q')))
    exact END hN (by omega) hI hx01 (by omega) hmid hF (fun W hW hfW => hC m3 W hW (by have hfW : fr q + 1 ≤ fr W := hfW; omega) (by have hfW : fr q + 1 ≤ fr W := hfW; omega))
  unfold f_X12_ending
  rw [if_pos (tp_ib v2 (by omega)), tp_nat v2, if_neg (by rw [v11]; decide), e66]
  rcases hy with c | c | c
  · rw [if_pos c]
    exact go1 16 (Or.inl ⟨rfl, c⟩) (by decide) (fun q => absurd q (by decide)) (fun q => absurd q (by decide))
  · rw [if_neg (by rw [c]; decide), if_pos c]
    exact go1 17 (Or.inr (Or.inl rfl)) (by decide) (fun _ => by rw [c]; decide) (fun q => absurd q (by decide))
  · rw [if_neg (by rw [c]; decide), if_neg (by rw [c]; decide)]
    exact go1 18 (Or.inr (Or.inr ⟨rfl, c⟩)) (by decide) (fun q => absurd q (by decide)) (fun _ => by rw [c]; decide)
theorem END2 {N b : Nat} (hN : 1000 ≤ N) (hx : 1 ≤ b → RUNE N 16 4 11 24 (b - 1)) {n' : Nat} {s u : RS} {t : Nat} {P : RS → Prop} (hI : INV s) (ht : tpI s = t) (h9 : t < 998) (hb : 2 * (t : Int) ≤ fr s + 12 * op s + 2) (hc : 900 - fr s ≤ b) (hn : 36000 + 29 ≤ (n' : Int) + 1 + 40 * fr s) (hF : ∀ u, FS' s u → P u) (hC : ∀ (m : Nat) (u : RS), PS t s u → fr s + 1 ≤ fr u → (n' : Int) + 1 + 40 * fr s + 11 ≤ m + 40 * fr u → ok (f_X12_parse_10 N m u) P) (hz : ¬ s.i 10 = 0) (ul : LXI u) (ui : ∀ j : Nat, j ≠ 20 → j ≠ 53 → u.i j = s.i j) (ut : TAB u) (uk : KP t s u) (uc : cdI u = cdI s + 1) (u21 : u.a 21 (cdI s).toNat = 1) (u64 : u.a 64 t = 6) (u65 : u.a 65 t = 0) (u44 : u.a 44 = s.a 44) (n1 : 1 ≤ n') (hT : s.i 10 = 412 ∨ s.i 10 = 420 ∨ s.i 10 = 431) : ok (f_X12_parse_10 N (n' + 1) u) P := by
  have hf := hI.1.f0
  have tu : tpI u = t := by unfold tpI; rw [ui 63 (by decide) (by decide)]; exact ht
  have u15 : u.i 15 = 0 := (ui 15 (by decide) (by decide)).trans hI.2.2.1
  have u10 : u.i 10 = s.i 10 := ui 10 (by decide) (by decide)
  have gu : goI u = goI s := by unfold goI; rw [ui 43 (by decide) (by decide)]
  have goS := hI.2.2.2.2.2.2.2.2.2.2.2.1
  refine lp_6 tu (by omega) u15 u64 ?_
  unfold f_X12_ending
  rw [if_pos (tp_ib tu (by omega)), tp_nat tu, if_pos u65, u10]
  have bad : ok ((f_X12_ending_53 N (u.setA 66 t (s.i 10))).bind fun p => f_X12_parse_10 N n' p) P := by
    unfold f_X12_ending_53
    obtain ⟨R, eR, r1, r2, r3⟩ := p_fl (N := N) (σ := u.setA 66 t (s.i 10)) ul 5 ((u.setA 66 t (s.i 10)).i 11) (by decide)
    rw [eR]
    exact lp_f r2 (hF R (FS'.of (u := u.setA 66 t (s.i 10)) (uk.loc t _ (by omega) (by omega) (Nat.le_refl _)).1.1 r1 r2 ut.2.2.2.2.2.2.2.2.2)) n1
  obtain ⟨⟨p1, p2⟩, ep, q1, q2⟩ := p_ia (N := N) (σ := u.setA 66 t (s.i 10)) hN (by show goI u ≤ 460; omega)
  have good : (s.i 10 = 431 → ∃ γ : Nat, (γ : Int) < goI s ∧ s.a 44 γ = 3) → ok ((f_X12_ending_63 N (u.setA 66 t (s.i 10))).bind fun p => f_X12_parse_10 N n' p) P := fun hya => END1 hN hx hI ht h9 hb hc hn hF hC hz ul ui ut uk uc u21 u64 hT hya
  have q1 : p2 = u.setA 66 t (s.i 10) := q1
  subst q1
  by_cases c420 : s.i 10 = 420
  · rw [if_pos c420, ep]
    show ok ((if p1 = 0 then f_X12_ending_36 N (u.setA 66 t (s.i 10)) else f_X12_ending_53 N (u.setA 66 t (s.i 10)) : Option RS).bind fun p => f_X12_parse_10 N n' p) P
    by_cases c : p1 = 0
    · rw [if_pos c]
      unfold f_X12_ending_36
      rw [if_neg (show ¬ (u.setA 66 t (s.i 10)).i 10 = 431 from fun z => by have z : u.i 10 = 431 := z; rw [u10, c420] at z; exact absurd z (by decide))]
      exact good (fun z => by rw [c420] at z; exact absurd z (by decide))
    · rw [if_neg c]
      exact bad
  · rw [if_neg c420]
    unfold f_X12_ending_36
    by_cases c431 : s.i 10 = 431
    · rw [if_pos (show (u.setA 66 t (s.i 10)).i 10 = 431 from u10.trans c431), ep]
      show ok ((if p1 = 0 then f_X12_ending_53 N (u.setA 66 t (s.i 10)) else f_X12_ending_63 N (u.setA 66 t (s.i 10)) : Option RS).bind fun p => f_X12_parse_10 N n' p) P
      by_cases c : p1 = 0
      · rw [if_pos c]
        exact bad
      · rw [if_neg c]
        refine good (fun _ => ?_)
        rcases q2 with ⟨q2, -⟩ | ⟨-, γ, g1, g2⟩
        · exact absurd q2 c
        · refine ⟨γ, ?_, ?_⟩
          · rw [← gu]; exact g1
          · rw [← u44]; exact g2
    · rw [if_neg (show ¬ (u.setA 66 t (s.i 10)).i 10 = 431 from fun z => c431 (u10.symm.trans z))]
      exact good (fun z => absurd z c431)
theorem run_ending {N b : Nat} (hN : 1000 ≤ N) (hx : 1 ≤ b → RUNE N 16 4 11 24 (b - 1)) : RUNK N b 6 (fun x => x = 412 ∨ x = 420 ∨ x = 431) := by
  intro n s t P hI hp ht hS hT hb hc hn hF hC
  have hf := hI.1.f0
  have hop := hI.op
  have h9 : t < 998 := by omega
  obtain ⟨n', rfl⟩ : ∃ n', n = n' + 1 := ⟨n - 1, by omega⟩
  have push : ((n' + 1 : Nat) : Int) = (n' : Int) + 1 := by omega
  rw [push] at hn hC
  have n1 : 1 ≤ n' := by omega
  have hz : ¬ s.i 10 = 0 := by rcases hT with h | h | h <;> (rw [h]; decide)
  exact END2 hN hx hI ht h9 hb hc hn hF hC hz (SK.lxi hI) (fun j h1 h2 => SK.eI h1 h2) (SK.tab hI) (SK.kp hI) (SK.cd hI) SK.a21 SK.a64 (by rw [SK.a (by decide) (by decide) (by decide) (by decide)]; exact hS) (SK.a (by decide) (by decide) (by decide) (by decide)) n1 hT
