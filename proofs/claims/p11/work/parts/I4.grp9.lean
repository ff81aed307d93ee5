/-! reading: switch: its end -/
theorem PPL.lxb {γ0 : Nat} {Lb : List Nat} {xb : Int32} {Y : Nat → Prop} {u v W : RS} (h : PPL γ0 Lb xb Y v W) (x : LX u v) : PPL γ0 Lb xb Y u W := by
  obtain ⟨h1, h2, h3, h4, h6, h7, h8, h10⟩ := h
  have ec := x.tbl.cd
  have eg := x.tbl.go
  refine ⟨⟨fun k a b => (h1.1 k a b).trans (by rw [x.1]), h1.2.1.trans (by rw [x.2.1]), fun j a b c d e f => (h1.2.2 j a b c d e f).trans (x.2.2.1 j (by omega) (by omega))⟩, by omega, h3, by omega, ?_, fun k hk => ?_, fun k hk q => ?_, h10⟩
  · rw [x.tbl.hd] at h6
    exact h6.of (fun y _ => ⟨by rw [x.1], by rw [x.1]⟩)
  · have := h7 k (by omega)
    rw [x.1] at this
    exact this
  · have := h8 k (by omega) q
    rw [x.1] at this
    exact this
theorem GR9 {N : Nat} (hN : 4000 ≤ N) {m : Nat} {s A V w : RS} {t γ0 : Nat} {L : List Nat} {P : RS → Prop} (hI : INV s) (h9 : t < 998) (hF : ∀ u, FS' s u → P u) (kA : KP t s A) (cA : cdI A = cdI s + 1) (A21 : A.a 21 (cdI s).toNat = 1) (A38 : A.i 38 = s.i 38) (A52 : A.i 52 = s.i 52) (fA : fr s ≤ fr A) (te : ¬ 0 ≤ V.i 18 → TE A V) (k1 : KP t A V) (i1 : INV V) (d1 : V.i 52 = s.i 52) (f1 : fr A + 1 ≤ fr V) (gV : goI V = goI s) (V38 : V.i 38 = s.i 38) (g0 : (γ0 : Int) = goI s) (hg : GI t s V γ0 L w) (h68 : G68 t L w) (m1 : 1 ≤ m) (hC : ∀ (u : RS), PS t s u → fr w + 1 ≤ fr u → ok (f_X12_parse_10 N m u) P) : ok (((f_X12_shut N w 125).bind fun p21 => if ib (p21.2.a 66 t) 3000 then if ib (p21.2.a 72 t) 460 then (f_X12_patch N (RS.setA p21.2 23 ((p21.2.a 66 t).toNatClampNeg) (p21.2.i 20)) (p21.2.a 48 ((p21.2.a 72 t).toNatClampNeg)) (p21.2.i 20)).bind fun p25 => (if (p25.a 70 t) = 1 then (f_X12_over N (RS.setI (RS.setI p25 43 ((p25.i 43) - 1)) 38 (p25.a 71 t)) 1).bind fun p28 => f_X12_groups_335 N p28 else (if (p25.a 68 t) = 0 then (f_X12_over N (RS.setI (RS.setI p25 43 ((p25.i 43) - 1)) 38 (p25.a 71 t)) 1).bind fun p31 => f_X12_groups_335 N p31 else (if (p25.a 50 ((p21.2.a 72 t).toNatClampNeg)) = 0 then (f_X12_over N (RS.setI (RS.setI p25 43 ((p25.i 43) - 1)) 38 (p25.a 71 t)) 0).bind fun p34 => f_X12_groups_335 N p34 else (f_X12_over N (RS.setI (RS.setI p25 43 ((p25.i 43) - 1)) 38 (p25.a 71 t)) 1).bind fun p36 => f_X12_groups_335 N p36))) else none else none : Option RS).bind fun p => f_X12_parse_10 N m p) P := by
  have hN1 : 1000 ≤ N := by omega
  obtain ⟨⟨a1, a2, a3, a4⟩, ⟨b1, b2, b3, b4⟩, ⟨c1, c2, c3, c4, c5⟩, ⟨d1', d2, d3, d4, d5, d6⟩, ⟨e1, e2, e3, e4⟩, ⟨f1', f2, M, f3, f4⟩, g1⟩ := id hg
  obtain ⟨p, ep, x1, x2⟩ := SHO hN1 a1 125 (by decide)
  rw [ep]
  clear ep
  obtain ⟨w2, hw2⟩ : ∃ w2, w2 = p.2 := ⟨_, rfl⟩
  have cs := hI.cd
  have cV := i1.cd
  have cw := a1.cd
  have fw := a1.1.f0
  have gos := hI.2.2.2.2.2.2.2.2.2.2.2.1
  have ek : ((cdI V).toNat : Int) = cdI V := Int.toNat_of_nonneg cV.1
  show ok ((if ib (p.2.a 66 t) 3000 then if ib (p.2.a 72 t) 460 then (f_X12_patch N (RS.setA p.2 23 ((p.2.a 66 t).toNatClampNeg) (p.2.i 20)) (p.2.a 48 ((p.2.a 72 t).toNatClampNeg)) (p.2.i 20)).bind fun p25 => (if (p25.a 70 t) = 1 then (f_X12_over N (RS.setI (RS.setI p25 43 ((p25.i 43) - 1)) 38 (p25.a 71 t)) 1).bind fun p28 => f_X12_groups_335 N p28 else (if (p25.a 68 t) = 0 then (f_X12_over N (RS.setI (RS.setI p25 43 ((p25.i 43) - 1)) 38 (p25.a 71 t)) 1).bind fun p31 => f_X12_groups_335 N p31 else (if (p25.a 50 ((p.2.a 72 t).toNatClampNeg)) = 0 then (f_X12_over N (RS.setI (RS.setI p25 43 ((p25.i 43) - 1)) 38 (p25.a 71 t)) 0).bind fun p34 => f_X12_groups_335 N p34 else (f_X12_over N (RS.setI (RS.setI p25 43 ((p25.i 43) - 1)) 38 (p25.a 71 t)) 1).bind fun p36 => f_X12_groups_335 N p36))) else none else none : Option RS).bind fun p => f_X12_parse_10 N m p) P
  rw [← hw2] at x1 x2 ⊢
  clear hw2
  have ua := x1.1
  have k66 : (w2.a 66 t).toInt = ((cdI V).toNat : Int) := by rw [ua, d2, ek]
  have k72 : (w2.a 72 t).toInt = (γ0 : Int) := by rw [ua]; exact d6
  rw [if_pos (show ib (w2.a 66 t) 3000 from ⟨by omega, by omega⟩), if_pos (show ib (w2.a 72 t) 460 from ⟨by omega, by omega⟩), k_nat k66, k_nat k72]
  have h6w2 : ISCH w2 (hd w2 true γ0) M := by rw [x1.tbl.hd]; exact x1.tbl.isch f3
  obtain ⟨X, hX⟩ : ∃ X, X = w2.setA 23 (cdI V).toNat (w2.i 20) := ⟨_, rfl⟩
  have iX : X.i = w2.i := by rw [hX]; rfl
  have bX : X.b = w2.b := by rw [hX]; rfl
  have aX : ∀ k : Nat, k ≠ 23 → X.a k = w2.a k := fun k hk => by rw [hX]; exact setA_nk hk
  have X23 : ∀ j : Nat, j ≠ (cdI V).toNat → X.a 23 j = w2.a 23 j := fun j hj => by rw [hX]; exact setA_ne hj
  have X23c : X.a 23 (cdI V).toNat = w2.i 20 := by rw [hX]; exact setA_at
  have isX : ISCH X (w2.a 48 γ0).toInt M := h6w2.of (fun y _ => ⟨by rw [aX 21 (by decide)], by rw [aX 22 (by decide)]⟩)
  have ePT := p_pt (N := N) hN (σ := X) (site := w2.a 48 γ0) (w := w2.i 20) isX (fun x hx => by have := f4 x hx; omega)
  rw [← hX, ePT]
  clear hX
  obtain ⟨Q, hQ⟩ : ∃ Q, Q = PT (w2.i 20) M X := ⟨_, rfl⟩
  have iQ : Q.i = w2.i := by rw [hQ, PT.eI]; exact iX
  have bQ : Q.b = w2.b := by rw [hQ, PT.eB]; exact bX
  have aQ : ∀ k : Nat, k ≠ 22 → Q.a k = X.a k := fun k hk => by rw [hQ]; exact PT.eA hk
  have Q22 : ∀ j : Nat, Q.a 22 j = if j ∈ M then w2.i 20 else w2.a 22 j := fun j => by rw [hQ, PT.e22, aX 22 (by decide)]
  show ok ((if ((PT (w2.i 20) M X).a 70 t) = 1 then (f_X12_over N (RS.setI (RS.setI (PT (w2.i 20) M X) 43 (((PT (w2.i 20) M X).i 43) - 1)) 38 ((PT (w2.i 20) M X).a 71 t)) 1).bind fun p28 => some p28 else (if ((PT (w2.i 20) M X).a 68 t) = 0 then (f_X12_over N (RS.setI (RS.setI (PT (w2.i 20) M X) 43 (((PT (w2.i 20) M X).i 43) - 1)) 38 ((PT (w2.i 20) M X).a 71 t)) 1).bind fun p31 => some p31 else (if ((PT (w2.i 20) M X).a 50 γ0) = 0 then (f_X12_over N (RS.setI (RS.setI (PT (w2.i 20) M X) 43 (((PT (w2.i 20) M X).i 43) - 1)) 38 ((PT (w2.i 20) M X).a 71 t)) 0).bind fun p34 => some p34 else (f_X12_over N (RS.setI (RS.setI (PT (w2.i 20) M X) 43 (((PT (w2.i 20) M X).i 43) - 1)) 38 ((PT (w2.i 20) M X).a 71 t)) 1).bind fun p36 => some p36)) : Option RS).bind fun p => f_X12_parse_10 N m p) P
  rw [← hQ]
  clear hQ ePT
  have aQ' : ∀ k : Nat, k ≠ 22 → k ≠ 23 → Q.a k = w.a k := fun k p q => (aQ k p).trans ((aX k q).trans (by rw [ua]))
  have q71 : Q.a 71 t = s.i 38 := by rw [aQ' 71 (by decide) (by decide)]; exact d5
  obtain ⟨W, hW⟩ : ∃ W, W = RS.setI (RS.setI Q 43 ((Q.i 43) - 1)) 38 (Q.a 71 t) := ⟨_, rfl⟩
  have wa : W.a = Q.a := by rw [hW]; rfl
  have wb : W.b = w2.b := by rw [hW]; exact bQ
  have wi : ∀ j : Nat, j ≠ 38 → j ≠ 43 → W.i j = w2.i j := fun j h1 h2 => by rw [hW]; exact (if_neg h1).trans ((if_neg h2).trans (by rw [iQ]))
  have w38 : W.i 38 = s.i 38 := by rw [hW, ← q71]; rfl
  have gw2 : goI w2 = (γ0 : Int) + 1 := by have := x1.tbl.go; omega
  have w43 : goI W = γ0 := by
    have e : W.i 43 = w2.i 43 - 1 := by rw [hW, ← iQ]; rfl
    have e1' : (1 : Int32).toInt = 1 := by decide
    have g2' : (w2.i 43).toInt = (γ0 : Int) + 1 := gw2
    unfold goI
    rw [e, toInt_sub] <;> rw [e1'] <;> omega
  rw [← hW, aQ' 70 (by decide) (by decide), aQ' 68 (by decide) (by decide), aQ' 50 (by decide) (by decide)]
  clear hW
  have ecw2 : cdI w2 = cdI w := x1.tbl.cd
  have cW : cdI W = cdI w2 := by unfold cdI; rw [wi 20 (by decide) (by decide)]
  have ksV : KP t s V := kA.tr k1 (Nat.le_refl _)
  have ksw : KP t s w := ksV.tr a3 (Nat.le_refl _)
  have fin : ∀ x : Int32, (x = 0 ∨ x = 1) → (w.a 70 t = 1 → x = 1) → (w.a 68 t = 0 → x = 1) → (w.a 50 γ0 = 1 → x = 1) → ok (((f_X12_over N W x).bind fun p => some p).bind fun p => f_X12_parse_10 N m p) P := by
    intro x hx h1 h2 h3
    have i15 : W.i 15 = w2.i 15 := wi 15 (by decide) (by decide)
    rcases x2 with x2 | ⟨x2, x3, x4, x5, x6⟩
    · rw [e_over hx]
      refine lp_f (u := (W.setI 75 x).setI 63 (W.i 63 - 1)) (by show ¬ W.i 15 = 0; rw [i15]; exact x2) (hF _ (FS'.i63 (FS'.i75 (show FS' s W from ⟨by rw [i15]; exact x2, ⟨fun j hj => ?_, fun k hk => ?_, ?_⟩, ?_⟩) x hx) _)) m1
      · exact (wi j (by omega) (by omega)).trans ((x1.2.2.1 j (by omega) (by omega)).trans (ksw.1.1.1 j hj))
      · rw [wa, aQ' k (by omega) (by omega)]; exact ksw.1.1.2.1 k hk
      · rw [wb, x1.2.1]; exact ksw.1.1.2.2
      · rw [wi 75 (by decide) (by decide), x1.2.2.1 75 (by omega) (by omega)]; exact a1.r
    have hpp2 : PPL γ0 M (w2.i 20) (fun k => k = (cdI V).toNat) w2 W := by
      refine ⟨⟨fun k p q => by rw [wa, aQ' k (by omega) (by omega), ua], by rw [wb], fun j p q r _ _ _ => wi j q r⟩, by omega, w43, gw2, h6w2, fun k hk => ⟨by rw [wa, aQ 21 (by decide), aX 21 (by decide)], fun z => by rw [wa, aQ 23 (by decide), X23 k z]⟩, fun k hk q => by rw [wa, Q22, if_neg q], fun k hk => by rw [wa, Q22, if_pos hk]⟩
    have hpp := hpp2.lxb x1
    have tw := a1.2.2.2.1
    have tw2 : TAB w2 := tw.lx x1
    have seW : seI W = seI s := by unfold seI; rw [w38]
    have seV : seI V = seI s := by unfold seI; rw [V38]
    have kw18 : W.i 18 = w.i 18 := (wi 18 (by decide) (by decide)).trans (x1.2.2.1 18 (by omega) (by omega))
    have wf : ∀ k : Nat, 64 ≤ k → k ≤ 73 → bel k t w W := fun k p q j _ => by rw [wa, aQ' k (by omega) (by omega)]
    have kW : KP t s W := ksw.ppl hpp tw (by omega) (by omega) kw18 (fun k hk => by
      have := ksV.2.1.1
      rcases hk with q | q
      · have := f4 k q; omega
      · have q : k = (cdI V).toNat := q
        omega) wf
    have e19 : w2.i 19 = s.i 19 := by rw [x4, b1, Int32.add_sub_cancel]
    have slW : slI W = slI w2 := hpp2.1.sl
    have slw2 : slI w2 = slI w := x1.tbl.sl
    have ksl := ksw.2.2.2.2.2.1.2.1
    have kse := ksw.2.2.2.2.2.1.1
    have sew2 : seI w2 = seI w := x1.tbl.se
    have ra2 : RATE s w2 := c2.tr (x1.tbl.rate (by omega) (by omega))
    have iw2 : INV w2 := by
      have kk := ksw.lx x1
      refine ⟨x1.2.2.2.1, hI.2.1.kp kk, x2, tw2, ?_⟩
      have g : goI w2 = goI s + 1 := by omega
      have d : deI w2 = deI s := by unfold deI; rw [x1.2.2.1 52 (by omega) (by omega), b3]
      have wq : waI w2 = waI s := by unfold waI; rw [x1.2.2.1 56 (by omega) (by omega), b4]
      have oq : op w2 = op s := by unfold op; rw [e19]
      have k2 := kk.2.1.1
      have k3 := kk.2.2.1.1
      have k4 := kk.2.2.2.1.1
      have k5 := kk.2.2.2.2.1.1
      have k6 := kk.2.2.2.2.2.1.2.1
      have k7 := kk.2.2.2.2.2.1.1
      have k10 := kk.2.2.2.2.2.2.2.2.2.1.1
      have n1 := c1.1
      have hs := hI.2.2.2.2
      have l1 : slI V - slI s = slI V - slI s := rfl
      have kV := ksV.2.2.2.2.2.1.2.1
      unfold RATE at ra2
      unfold NUM at hs ⊢
      rw [g, d, wq, oq]
      omega
    refine LEND0 (x := x) h9 hx (fun u hu hfu => hC u hu (by omega)) hI hpp2.1 (hpp2.chn tw2) hpp2.2.1 (by omega) (by omega) kW iw2 (fun j _ j2 j3 _ => wi j j2 j3) (x1.tp.trans a2) (ksw.lx x1) e19 ((wi 52 (by decide) (by decide)).trans ((x1.2.2.1 52 (by omega) (by omega)).trans b3)) ((x1.2.2.1 56 (by omega) (by omega)).trans b4) (by omega) (SNW.eq w38 (by omega)) ra2 (by unfold RATE at ra2; omega) (by omega) (by omega) (fun q => ?_)
    have zw : ¬ 0 ≤ w.i 18 := fun z => q (by rw [x1.2.2.1 18 (by omega) (by omega)]; exact z)
    have zV : ¬ 0 ≤ V.i 18 := fun z => zw (a3.1.2 z)
    have hpp' : PPL γ0 M (w2.i 20) (fun k => k = (cdI V).toNat) w (W.setI 75 x) := by
      obtain ⟨h1', h2', h3', h4', h6', h7', h8', h10'⟩ := hpp
      exact ⟨⟨h1'.1, h1'.2.1, fun j a b c d e f => (if_neg f).trans (h1'.2.2 j a b c d e f)⟩, h2', h3', h4', h6', h7', h8', h10'⟩
    have hww : ∀ j : Nat, (j : Int) < waI w → gv w 58 j ≤ γ0 := fun j hj => by
      have kw := ksw.2.2.2.2.2.2.2.2.1
      have e1 : waI w = waI s := by unfold waI; rw [b4]
      have := (hI.2.2.2.1.2.2.2.2.2.2.2.2.1 j (by omega)).2.2.2
      have e : gv w 58 j = gv s 58 j := by unfold gv; rw [kw.2.2 j (by omega)]
      omega
    refine TS.groups (W := W.setI 75 x) hI kA cA A21 A38 A52 fA (te zV) k1 i1 d1 f1 gV V38 a3 (g1 zw) e2 e1 a1 g0 f1' f2 e3 e4 hpp' (fun k hk => (f4 k hk).1) (by show cdI W = cdI w; omega) (by show cdI w2 = cdI W; omega) (by show W.a 23 _ = _; rw [wa, aQ 23 (by decide)]; exact X23c) hww (fun q => h1 (d4 q)) h3 (fun all => ?_) (by show seI V ≤ seI W; omega) kw18 wf
    rcases h68 with h | ⟨j, j1, j2⟩
    · exact h2 h
    · exact absurd (all j j1) j2
  by_cases c70 : w.a 70 t = 1
  · rw [if_pos c70]
    exact fin 1 (Or.inr rfl) (fun _ => rfl) (fun _ => rfl) (fun _ => rfl)
  rw [if_neg c70]
  by_cases c68 : w.a 68 t = 0
  · rw [if_pos c68]
    exact fin 1 (Or.inr rfl) (fun _ => rfl) (fun _ => rfl) (fun _ => rfl)
  rw [if_neg c68]
  by_cases c50 : w.a 50 γ0 = 0
  · rw [if_pos c50]
    exact fin 0 (Or.inl rfl) (fun q => absurd q c70) (fun q => absurd q c68) (fun q => by rw [c50] at q; exact absurd q (by decide))
  rw [if_neg c50]
  exact fin 1 (Or.inr rfl) (fun _ => rfl) (fun _ => rfl) (fun _ => rfl)
