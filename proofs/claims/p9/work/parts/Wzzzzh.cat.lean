/-! both readers: catch, the whole -/
set_option maxHeartbeats 4000000 in
theorem bg_catch {N : Nat} (hN : 1000 ≤ N) {d : Int32} {B : CS} {b : RS} {t0 n : Nat} {L : List CEL} {x : Int} {S : CS} {s U : RS} {c1 c : CEL} {R : Unit × CS} (hC : COR d B b t0 (c1 :: c :: L) x S s) (tp : TOP S s c1) (hM : MGU c1 S s) (k215 : S.i 43 = 215) (bz : BAZ B b (c1 :: c :: L)) (hT : t0 ≤ ceT c1) (e : f_X7_beginCatch N S c1.2.1 = some R) (g : f_X12_parse_10 N n s = some U) : (¬ R.2.i 32 = 0 ∧ ¬ U.i 15 = 0) ∨ ∃ (m : Nat) (u : RS), f_X12_parse_10 N m u = some U ∧ NEW d B b t0 c L R.2 u := by
  obtain ⟨h305, ts, c50, -, nb⟩ := hM
  have ty : isTy (S.o c1.2.1 0) := Or.inr (Or.inr (Or.inl h305))
  have hv := hC.1
  have k10 := (tk_is hv (a := 215) (b := 425) (Or.inr ⟨by decide, by decide⟩) (by decide)).mp k215
  obtain ⟨m1, e1, k1, m2, e2, k2, cst⟩ := STK.mem _ _ _ _ hC.2.1 c1 List.mem_cons_self
  obtain ⟨⟨z64, zid, zwh, zwl⟩, -, -, zs305, -, zb⟩ := cst.2.2.1.2.2.2.2.2.2.2.2.2.2.2.2 ty
  obtain ⟨z65, z68⟩ := zs305 h305
  obtain ⟨-, Lk, ch, km, l72, -⟩ := cst.2.2.2.2.2.2 ty
  have s50 := hv.2.1.1
  have wl : isWl (S.o c1.2.1 0) := Or.inr (Or.inr h305)
  -- the reference
  obtain ⟨m2, V, hV, g2⟩ := rl_15 g ts hv.1.2.1 z64
  unfold f_X12_trying at hV
  obtain ⟨hib, hV⟩ := hf_ite hV
  rw [tp_nat ts, z65, if_neg (by decide), if_neg (by decide), if_pos rfl, if_pos k10, ob_id] at hV
  have h14 := hC.2.2.2.2.2.2.2.2.1.1
  rcases ct_head hN hv h14 ts k215 (tp_nat ts) rfl ch l72 km e hV with ⟨f1, f2⟩ | ⟨P, q, Lc, xb, ew, ctc, ctr, kmq, n72, ⟨x11, xph, x17, x19⟩, e80, g256⟩
  · exact Or.inl ⟨f1, u_flt g2 f2⟩
  obtain ⟨⟨i22, i38, i50, i53, i54, i55, i56⟩, i21, ⟨er, eol, ehk⟩, ⟨ea18, ea52⟩, eo, eok, eo0, eo8⟩ := id ctc
  have k11 := hv.1.2.2.2.1.1
  have k11P := ew.1.2.2.2.1.1
  have cn : cnI S = (c1.1 : Int) + 1 := tp.1
  have sgS : sgI S = (s.i 19).toInt := by
    unfold sgI
    rw [hv.2.2.1.1]
  have rwP : RWI P := by
    refine hv.ri.cat cst.2.1 cn cst.1 h305 er eo eol i53 ehk eo0 ?_ ?_
    · have f2 : sgI P = (q.i 19).toInt := by
        unfold sgI
        rw [ew.2.2.1.1]
      omega
    · have a1 := (eI.ge S).2
      have a2 := (eI.ge P).1
      unfold plI at a1 a2
      rw [k11] at a1
      rw [k11P] at a2
      omega
  have dep : 1 ≤ (P.i 38).toInt := by
    have z1 := hC.2.2.2.2.2.2.2.1.1
    have z2 : DSM S (c1 :: c :: L) = (nDp (S.o c1.2.1 0) : Int) + DSM S (c :: L) := rfl
    have z3 := (PDM.ge S (c :: L)).2
    have z4 := (BAZ.b38 _ bz).1
    have z5 : nDp (S.o c1.2.1 0) = 1 := by rw [h305]; rfl
    rw [i38]
    rw [z5] at z2
    omega
  obtain ⟨⟨ct1, ct2⟩, ct3, ct4, ⟨⟨q2, q3, q8, q20, q24, q29, q38, q43, q56, q59⟩, ⟨qb9, qb39, qb45⟩, qa⟩, ct6, ct7, ct8, ct9, ct10, ct11, ct12⟩ := id ctr
  have q38' : (q.i 38).toInt = (s.i 38).toInt := by rw [q38]
  rcases ct_end hN ew rwP dep ct1 (by have := hv.2.2.1.2.1; omega) (by omega) e80 g256 g2 with f | ⟨m, u, gu, ewu, ⟨tu, frq, mfq, u65⟩, ⟨u641, u651, u642, u652⟩, ⟨u38, unm⟩, ui, ⟨ub9, ub45⟩, ua, ⟨r21, r22, r38, r53, r54, r55, r56⟩, r50, r36, ⟨rr, ro, rol, rhk⟩, ⟨ra18, ra52⟩, ⟨y11, yph, y17, y19⟩⟩
  · exact Or.inl f
  refine Or.inr ⟨m, u, gu, ?_⟩
  obtain ⟨X, hX⟩ : ∃ X, X = R.2 := ⟨_, rfl⟩
  rw [← hX] at ewu r21 r22 r38 r53 r54 r55 r56 r50 r36 rr ro rol rhk ra18 ra52 ⊢
  clear hX
  have k11X := ewu.1.2.2.2.1.1
  have X0 : X.o c1.2.1 0 = 215 := by rw [ro]; exact eo0
  have X8 : X.o c1.2.1 8 = 1 := by rw [ro]; exact eo8
  have Xk : ∀ k : Nat, k ≠ 0 → k ≠ 8 → k ≠ 10 → k ≠ 12 → X.o c1.2.1 k = S.o c1.2.1 k := fun k a1 a2 a3 a4 => by rw [ro]; exact eok k a1 a2 a3 a4
  have tyX : isTy (X.o c1.2.1 0) := Or.inr (Or.inl X0)
  have rwX : RWI X := by
    refine hv.ri.cat cst.2.1 cn cst.1 h305 (rr.trans er) (fun a ha => by rw [ro]; exact eo a ha) (rol.trans eol) (r53.trans i53) ⟨rhk.1.trans ehk.1, rhk.2.1.trans ehk.2.1, rhk.2.2.trans ehk.2.2⟩ X0 ?_ ?_
    · have f2 : sgI X = (u.i 19).toInt := by
        unfold sgI
        rw [ewu.2.2.1.1]
      omega
    · have a1 := (eI.ge S).2
      have a2 := (eI.ge X).1
      unfold plI at a1 a2
      rw [k11] at a1
      rw [k11X] at a2
      omega
  have evu : ENV d X u := ewu.v rwX
  -- the shadow: the row as it was, the kinds as they are
  obtain ⟨W, hW⟩ : ∃ W, W = CS.setO (CS.setO S c1.2.1 8 1) c1.2.1 12 (P.o c1.2.1 12) := ⟨_, rfl⟩
  have Wi : W.i = S.i := by rw [hW]; rfl
  have Wa : W.a = S.a := by rw [hW]; rfl
  have Wr : W.r = S.r ∧ W.ol = S.ol ∧ W.b = S.b ∧ W.l = S.l ∧ (W.hs = S.hs ∧ W.L = S.L ∧ W.k = S.k) := by
    rw [hW]
    exact ⟨rfl, rfl, rfl, rfl, rfl, rfl, rfl⟩
  have Wo : ∀ a : Nat, a ≠ c1.2.1 → W.o a = S.o a := fun a ha => by rw [hW, so_ne ha, so_ne ha]
  have Wk : ∀ k : Nat, k ≠ 8 → k ≠ 12 → W.o c1.2.1 k = S.o c1.2.1 k := fun k h0 h1 => by rw [hW, so_nk h1, so_nk h0]
  have W8 : W.o c1.2.1 8 = 1 := by rw [hW, so_nk (by decide), so_at]
  have W12 : W.o c1.2.1 12 = P.o c1.2.1 12 := by rw [hW, so_at]
  clear hW
  have W0 : W.o c1.2.1 0 = 305 := (Wk 0 (by decide) (by decide)).trans h305
  obtain ⟨hG, tpG⟩ := hC.kat tp bz hT h305 rfl ch ctr n72 (by rw [W12]; exact kmq) Wi Wa Wr Wo Wk W8
  obtain ⟨vi, v33, vl, vb⟩ := gKT.n (s := s) (q := q) (T := ceT c1)
  obtain ⟨va4, v30, v34, v37, v72, v72'⟩ := gKT.t (s := s) (q := q) (T := ceT c1)
  obtain ⟨v, hv'⟩ : ∃ v, v = gKT s q (ceT c1) := ⟨_, rfl⟩
  rw [← hv'] at vi v33 vl vb va4 v30 v34 v37 v72 v72' hG tpG
  clear hv'
  have va : ∀ k : Nat, (k ≠ 30 ∧ k ≠ 34 ∧ k ≠ 37 ∧ k ≠ 72) → v.a k = s.a k := fun k hk => va4 k hk.1 hk.2.1 hk.2.2.1 hk.2.2.2
  have uv : ∀ k : Nat, (k = 1 ∨ k = 4 ∨ k = 22 ∨ k = 25 ∨ k = 27 ∨ k = 28 ∨ k = 44 ∨ k = 46 ∨ k = 47 ∨ k = 48 ∨ k = 49 ∨ k = 50 ∨ k = 51 ∨ k = 57 ∨ k = 58 ∨ k = 60 ∨ k = 61 ∨ k = 62) → u.a k = v.a k := fun k hk => by
    rw [va k (by omega), ua k (by omega)]
    exact qa k (by omega)
  have u30 : u.a 30 = v.a 30 := by rw [v30]; exact ua 30 (by decide)
  have u34 : u.a 34 = v.a 34 := by rw [v34]; exact ua 34 (by decide)
  have u37 : u.a 37 = v.a 37 := by rw [v37]; exact ua 37 (by decide)
  have u33 : u.i 33 = v.i 33 := by rw [v33]; exact ui 33 (by decide)
  have uvi : ∀ k : Nat, (k = 2 ∨ k = 3 ∨ k = 8 ∨ k = 20 ∨ k = 24 ∨ k = 29 ∨ k = 43 ∨ k = 56 ∨ k = 59) → u.i k = v.i k := fun k hk => by
    rw [vi k (by omega), ui k (by omega)]
    rcases hk with z | z | z | z | z | z | z | z | z <;> rw [z]
    · exact q2
    · exact q3
    · exact q8
    · exact q20
    · exact q24
    · exact q29
    · exact q43
    · exact q56
    · exact q59
  have frs : FRB (ceT c1) v u := fun j hj => by
    obtain ⟨f0, f1, f2, f3, f4, f5, f6, f7, f8, f9, fb⟩ := (ct2.tr frq) j hj
    exact ⟨by rw [va 64 (by decide)]; exact f0, by rw [va 65 (by decide)]; exact f1, by rw [va 66 (by decide)]; exact f2, by rw [va 67 (by decide)]; exact f3, by rw [va 68 (by decide)]; exact f4, by rw [va 69 (by decide)]; exact f5, by rw [va 70 (by decide)]; exact f6, by rw [va 71 (by decide)]; exact f7, by rw [v72' j (by omega)]; exact f8, by rw [va 73 (by decide)]; exact f9, by rw [vb]; exact fb⟩
  have v38 : (v.i 38).toInt = (s.i 38).toInt := by rw [vi 38 (by decide)]
  have u59 := uvi 59 (by decide)
  have u29 := uvi 29 (by decide)
  have u24 := uvi 24 (by decide)
  have u43 := uvi 43 (by decide)
  have u56 := uvi 56 (by decide)
  have u20 := uvi 20 (by decide)
  have trs : TBR v u := by
    unfold TBR
    rw [u59, u29, u33, u24]
    refine ⟨fun j hj => ?_, fun j _ => ⟨by rw [uv 44 (by decide)], by rw [ub45, qb45, vb], by rw [uv 46 (by decide)], by rw [uv 47 (by decide)], by rw [uv 50 (by decide)], by rw [uv 51 (by decide)], by rw [uv 48 (by decide)], by rw [uv 49 (by decide)]⟩, fun j _ => ⟨by rw [uv 57 (by decide)], by rw [uv 58 (by decide)]⟩, ⟨Int.le_refl _, fun j k1 k2 => by omega⟩, fun j _ => ⟨by rw [uv 60 (by decide)], by rw [uv 61 (by decide)], by rw [uv 62 (by decide)]⟩, Int.le_refl _, fun j _ => by rw [u30], Int.le_refl _, fun j _ => ⟨by rw [u34], by rw [u37]⟩, Int.le_refl _, fun j _ => ⟨by rw [uv 25 (by decide)], by rw [uv 27 (by decide)], by rw [uv 28 (by decide)]⟩⟩
    obtain ⟨w1, w2, w3⟩ := unm j (by omega)
    rw [w1, w2, w3, qb39, qa 40 (by decide), qa 41 (by decide), vb, va 40 (by decide), va 41 (by decide)]
    exact ⟨rfl, rfl, rfl⟩
  have cds : CDK (v.i 20).toInt v u := ⟨by rw [u20]; exact Int.le_refl _, fun j _ => by rw [uv 22 (by decide)]⟩
  have mf : ∀ k : Nat, 64 ≤ k → k ≤ 73 → k ≠ 65 → k ≠ 71 → k ≠ 72 → u.a k (ceT c1) = s.a k (ceT c1) := fun k h1 h2 h3 h4 h5 => by
    rw [mfq k h1 h2 h3]
    exact ct3 k h1 h2 h4 h5
  have tbb := hC.2.2.2.2.2.1.2.1
  have gob := hG.2.2.2.2.2.2.2.1.2
  have grr := hG.2.2.2.2.2.2.1
  have adr := hC.adr
  have Xo1 : ∀ a : Nat, a ≠ c1.2.1 → X.o a = W.o a ∧ X.ol a = W.ol a := fun a ha => ⟨by rw [ro, eo a ha, Wo a ha], by rw [rol, eol, Wr.2.1]⟩
  have XW : ∀ k : Nat, k ≠ 0 → k ≠ 8 → k ≠ 10 → k ≠ 12 → X.o c1.2.1 k = W.o c1.2.1 k := fun k a1 a2 a3 a4 => (Xk k a1 a2 a3 a4).trans (Wk k a2 a4).symm
  have ngo : ¬ isGo (W.o c1.2.1 0) := by rw [W0]; exact ty_ngo (Or.inr (Or.inr (Or.inl rfl)))
  have ngX : ¬ isGo (X.o c1.2.1 0) := ty_ngo tyX
  have X53 : X.i 53 = W.i 53 := by rw [Wi]; exact r53.trans i53
  have Xr : X.r = W.r := by rw [Wr.1]; exact rr.trans er
  have hcol : ∃ col : Nat → Option (Nat × Bool), COL X u (c1 :: c :: L) col (b.i 20).toInt := by
    obtain ⟨-, -, b0, col, hc⟩ := id hG.2.2.2.2.2.2.2.2.2.2
    refine ⟨_, hc.chT b0 hG.injG (fun y hy => (Xo1 y.2.1 (adr y hy)).1) (fun y hy => ?_) frs trs cds tyX⟩
    obtain ⟨w1, w2, w3, w4, w5⟩ := hG.inlB tpG y hy
    rw [X53, Xr, (Xo1 y.2.1 (adr y hy)).1]
    exact ⟨w1, w2, w3, w4, w5⟩
  have wg := zwl wl
  have rfr : RFR X u c1.2.1 (ceT c1) (ceG c1) (ceW c1) := by
    refine RFR.mTy tyX ⟨⟨(mf 64 (by decide) (by decide) (by decide) (by decide) (by decide)).trans z64, ?_, ⟨?_, Or.inr X8⟩, fun _ => ?_⟩, ?_⟩
    · rw [mf 66 (by decide) (by decide) (by decide) (by decide) (by decide), u29, vi 29 (by decide)]
      exact zid
    · rw [mfq 72 (by decide) (by decide) (by decide)]
      exact ⟨fun _ => Or.inr n72, fun _ => X8⟩
    · rw [mf 66 (by decide) (by decide) (by decide) (by decide) (by decide), uv 57 (by decide), uv 58 (by decide), va 57 (by decide), va 58 (by decide)]
      exact wg
    · rw [X0]
      refine ⟨fun z => absurd z (by decide), fun _ => ⟨u65, ⟨u641, u651, u642⟩, ?_, ?_⟩, fun z => absurd z (by decide), fun z => absurd z (by decide), ?_⟩
      · rw [mfq 71 (by decide) (by decide) (by decide), ct4, Xk 3 (by decide) (by decide) (by decide) (by decide), ← c50, s50]
      · rw [mf 68 (by decide) (by decide) (by decide) (by decide) (by decide), Xk 6 (by decide) (by decide) (by decide) (by decide)]
        exact z68
      · rw [Xk 6 (by decide) (by decide) (by decide) (by decide)]
        exact zb
  have x50 : (X.i 50).toInt = (S.i 50).toInt + 1 := by
    have hh := nms_hi hv
    rw [r50, i50, s50, ad1 (by omega) (by omega)]
  have rt : RTE W X := by
    unfold RTE
    rw [r21, i21, r54, i54, r55, i55, Wi, k11, k11X]
    omega
  have pdm : PDM W (c1 :: c :: L) = dbt (W.o c1.2.1 0) + PDM W (c :: L) := rfl
  have d0 : dbt (W.o c1.2.1 0) = 0 := by rw [W0]; rfl
  have phv : phI v = phI s := by
    unfold phI
    rw [vi 17 (by decide), vi 20 (by decide)]
  have v11 : (v.i 11).toInt = (s.i 11).toInt := by rw [vi 11 (by decide)]
  have v17 : (v.i 17).toInt = (s.i 17).toInt := by rw [vi 17 (by decide)]
  have fin : COR d B b t0 (c1 :: c :: L) (cod c1 X u) X u := hG.chg tpG hT (hG.b53 tpG bz) evu frs trs cds ⟨uvi 2 (by decide), uvi 3 (by decide), uvi 8 (by decide), uv 1 (by decide), uv 4 (by decide), by rw [ub9, qb9, vb]⟩ (by have := tbb.1; omega) u43 (by rw [u56, vi 56 (by decide)]; exact tbb.2.2.1) (by omega)
    Xr Xo1 ⟨XW 1 (by decide) (by decide) (by decide) (by decide), XW 3 (by decide) (by decide) (by decide) (by decide), XW 14 (by decide) (by decide) (by decide) (by decide)⟩ ⟨by rw [Wi]; exact r22.trans i22, by rw [Wi]; exact r38.trans i38, X53, by rw [Wi]; exact r54.trans i54, by rw [Wi]; exact r55.trans i55, by rw [Wi]; exact r56.trans i56⟩ ⟨by rw [Wa]; exact ra18.trans ea18, by rw [Wa]; exact ra52.trans ea52⟩ (fun y hy => by
      have z := (gob.1 y hy).2
      rw [Wi] at z
      omega)
    ngo ngX ⟨fun _ => by rw [W0]; exact Or.inr (Or.inr (Or.inl rfl)), fun _ => tyX⟩ (by rw [X0, W0]; rfl) (by rw [X0]; rfl) (fun z => absurd z (by rw [W0]; decide)) (fun z => absurd z (by rw [X0]; decide)) (fun _ => ⟨by rw [ro, W12], by rw [mf 66 (by decide) (by decide) (by decide) (by decide) (by decide), va 66 (by decide)], by rw [mfq 72 (by decide) (by decide) (by decide), v72]⟩) rfr hcol rt ⟨by omega, by omega, by omega, by rw [W0, X0, vi 19 (by decide)]; show _ + ((0 : Nat) : Int) = _ + ((1 : Nat) : Int); omega⟩ (by rw [X0]; unfold isKS isOne isTy; decide)
  have wd : wid (X.o c1.2.1 0) = 3 := by rw [X0]; rfl
  have ix : ceT c1 + wid (X.o c1.2.1 0) - 1 = ceT c1 + 1 + 1 := by omega
  refine ⟨c1, fin, ⟨?_, ?_, ?_⟩, ⟨Or.inl ⟨?_, ?_, ?_, ?_, Or.inl ⟨?_, ?_⟩, fun z => ?_⟩, ?_⟩⟩
  · rw [X53]
    exact tpG.1
  · have z := tpG.2.1
    rw [W0] at z
    rw [u43, X0]
    exact z
  · have z := tpG.2.2
    rw [W0] at z
    rw [u56, X0]
    exact z
  · rw [X0]
    unfold isOne
    decide
  · rw [X0]
    decide
  · rw [wd, tu]
    omega
  · rw [ix]
    exact u642
  · rw [ix]
    exact u652
  · exact r36
  · rw [X0] at z
    exact absurd z (by decide)
  · exact Or.inr r36
