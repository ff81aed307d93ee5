/-! both readers: catch, the whole -/
set_option maxHeartbeats 4000000 in
theorem bg_catch {N : Nat} (hN : 1000 ≤ N) {d : Int32} {B : CS} {b : RS} {t0 n : Nat} {L : List CEL} {x : Int} {S : CS} {s U : RS} {c1 c : CEL} {R : Unit × CS} {Aj : JBA} (hC : COR d B b t0 (c1 :: c :: L) x S s) (tp : TOP S s c1) (hM : MGU c1 S s) (k215 : S.i 43 = 215) (bz : BAZ B b (c1 :: c :: L)) (hT : t0 ≤ ceT c1) (e : f_X7_beginCatch N S c1.2.1 = some R) (g : f_X12_parse_10 N n s = some U) : (¬ R.2.i 32 = 0 ∧ ¬ U.i 15 = 0) ∨ ∃ (m : Nat) (u : RS), f_X12_parse_10 N m u = some U ∧ NEW d B b t0 c L R.2 u (fun V R' u' => JRX Aj U B b (vws S s (c1 :: c :: L)) S s → JRW Aj U B b V R' u') := by
  obtain ⟨h305, ts, c50, -, nb⟩ := hM
  have ty : isTy (S.o c1.2.1 0) := Or.inr (Or.inr (Or.inl h305))
  have hv := hC.1
  have k10 := (tk_is hv (a := 215) (b := 425) (Or.inr ⟨by decide, by decide⟩) (by decide)).mp k215
  obtain ⟨m1, e1, k1, m2, e2, k2, cst⟩ := STK.mem _ _ _ _ hC.2.1 c1 List.mem_cons_self
  obtain ⟨⟨z64, zid, zwh, zwl⟩, -, -, zs305, -, zb⟩ := cst.2.2.1.2.2.2.2.2.2.2.2.2.2.2.2 ty
  obtain ⟨z65, z68⟩ := zs305 h305
  obtain ⟨-, Lk, ch, km, l72, -⟩ := cst.2.2.2.2.2.2 ty
  have s50 := hv.2.1.1
  have wl : isWl (S.o c1.2.1 0) := Or.inr (Or.inr h305)
  -- the reference
  obtain ⟨m2, V, hV, g2⟩ := rl_15 g ts hv.1.2.1 z64
  unfold f_X12_trying at hV
  obtain ⟨hib, hV⟩ := hf_ite hV
  rw [tp_nat ts, z65, if_neg (by decide), if_neg (by decide), if_pos rfl, if_pos k10, ob_id] at hV
  have h14 := hC.2.2.2.2.2.2.2.2.1.1
  have ck33 : 0 ≤ (s.i 33).toInt → (s.i 33).toInt = (((s.i 33).toNatClampNeg : Nat) : Int) := fun z => (clampI z).symm
  have h72 : (s.a 72 (ceT c1)).toInt < (((s.i 33).toNatClampNeg : Nat) : Int) := by
    rcases lst_cat Lk with w | ⟨L0, j, w⟩
    · have := l72.1 w
      omega
    · have z1 := l72.2 L0 j w
      have z2 := kch.lt Lk _ ch j (by rw [w]; exact List.mem_append_right _ List.mem_cons_self)
      have z3 := ck33 (by omega)
      omega
  rcases ct_head (J0 := fun xb x10 P q => CKJ Aj U B b (vws S s (c :: L)) (vw S s c1) (S.i 38 - 1) (s.i 52 - 1) S s c1.2.1 (ceT c1) (s.a 66 (ceT c1)).toNatClampNeg (s.i 33).toNatClampNeg (pcC S) (s.a 30 ((vw S s c1).2.1 66).toNatClampNeg) xb x10 3 P q) (J1 := fun xb x10 P q => CKJ Aj U B b (vws S s (c :: L)) (vw S s c1) (S.i 38 - 1) (s.i 52 - 1) S s c1.2.1 (ceT c1) (s.a 66 (ceT c1)).toNatClampNeg (s.i 33).toNatClampNeg (pcC S) (s.a 30 ((vw S s c1).2.1 66).toNatClampNeg) xb x10 2 P q) hN (fun xb x10 P q h => CKJ.hd h rfl) (fun xb x10 P R q w h g => h.kd g ck33 h72) (fun xb x10 P R q w h g => h.sg g) hv h14 ts k215 (tp_nat ts) rfl ch l72 km e hV with ⟨f1, f2⟩ | ⟨P, q, Lc, xb, x10, cj, ew, ctc, ctr, kmq, n72, ⟨x11, xph, x17, x19⟩, e80, g256⟩
  · exact Or.inl ⟨f1, u_flt g2 f2⟩
  obtain ⟨⟨i22, i38, i50, i53, i54, i55, i56⟩, i21, ⟨er, eol, ehk⟩, ⟨ea18, ea52⟩, eo, eok, eo0, eo8⟩ := id ctc
  have k11 := hv.1.2.2.2.1.1
  have k11P := ew.1.2.2.2.1.1
  have cn : cnI S = (c1.1 : Int) + 1 := tp.1
  have sgS : sgI S = (s.i 19).toInt := by
    unfold sgI
    rw [hv.2.2.1.1]
  have rwP : RWI P := by
    refine hv.ri.cat cst.2.1 cn cst.1 h305 er eo eol i53 ehk eo0 ?_ ?_
    · have f2 : sgI P = (q.i 19).toInt := by
        unfold sgI
        rw [ew.2.2.1.1]
      omega
    · have a1 := (eI.ge S).2
      have a2 := (eI.ge P).1
      unfold plI at a1 a2
      rw [k11] at a1
      rw [k11P] at a2
      omega
  have dep : 1 ≤ (P.i 38).toInt := by
    have z1 := hC.2.2.2.2.2.2.2.1.1
    have z2 : DSM S (c1 :: c :: L) = (nDp (S.o c1.2.1 0) : Int) + DSM S (c :: L) := rfl
    have z3 := (PDM.ge S (c :: L)).2
    have z4 := (BAZ.b38 _ bz).1
    have z5 : nDp (S.o c1.2.1 0) = 1 := by rw [h305]; rfl
    rw [i38]
    rw [z5] at z2
    omega
  obtain ⟨⟨ct1, ct2⟩, ct3, ct4, ⟨⟨q2, q3, q8, q20, q24, q29, q38, q43, q56, q59⟩, ⟨qb9, qb39, qb45⟩, qa⟩, ct6, ct7, ct8, ct9, ct10, ct11, ct12⟩ := id ctr
  have q38' : (q.i 38).toInt = (s.i 38).toInt := by rw [q38]
  rcases ct_end hN ew rwP dep ct1 (by have := hv.2.2.1.2.1; omega) (by omega) e80 g256 g2 with f | ⟨m, u, gu, ewu, ⟨⟨tu, frq, mfq, u65⟩, ⟨u641, u651, u642, u652⟩, ⟨u38, unm⟩, ui, ⟨ub9, ub45⟩, ua, ⟨r21, r22, r38, r53, r54, r55, r56⟩, r50, r36, ⟨rr, ro, rol, rhk⟩, ⟨ra18, ra52⟩, ⟨y11, yph, y17, y19⟩⟩, cty⟩
  · exact Or.inl f
  refine Or.inr ⟨m, u, gu, ?_⟩
  obtain ⟨X, hX⟩ : ∃ X, X = R.2 := ⟨_, rfl⟩
  rw [← hX] at ewu r21 r22 r38 r53 r54 r55 r56 r50 r36 rr ro rol rhk ra18 ra52 cty ⊢
  clear hX
  have k11X := ewu.1.2.2.2.1.1
  have X0 : X.o c1.2.1 0 = 215 := by rw [ro]; exact eo0
  have X8 : X.o c1.2.1 8 = 1 := by rw [ro]; exact eo8
  have Xk : ∀ k : Nat, k ≠ 0 → k ≠ 8 → k ≠ 10 → k ≠ 12 → X.o c1.2.1 k = S.o c1.2.1 k := fun k a1 a2 a3 a4 => by rw [ro]; exact eok k a1 a2 a3 a4
  have tyX : isTy (X.o c1.2.1 0) := Or.inr (Or.inl X0)
  have rwX : RWI X := by
    refine hv.ri.cat cst.2.1 cn cst.1 h305 (rr.trans er) (fun a ha => by rw [ro]; exact eo a ha) (rol.trans eol) (r53.trans i53) ⟨rhk.1.trans ehk.1, rhk.2.1.trans ehk.2.1, rhk.2.2.trans ehk.2.2⟩ X0 ?_ ?_
    · have f2 : sgI X = (u.i 19).toInt := by
        unfold sgI
        rw [ewu.2.2.1.1]
      omega
    · have a1 := (eI.ge S).2
      have a2 := (eI.ge X).1
      unfold plI at a1 a2
      rw [k11] at a1
      rw [k11X] at a2
      omega
  have evu : ENV d X u := ewu.v rwX
  -- the shadow: the row as it was, the kinds as they are
  obtain ⟨W, hW⟩ : ∃ W, W = CS.setO (CS.setO S c1.2.1 8 1) c1.2.1 12 (P.o c1.2.1 12) := ⟨_, rfl⟩
  have Wi : W.i = S.i := by rw [hW]; rfl
  have Wa : W.a = S.a := by rw [hW]; rfl
  have Wr : W.r = S.r ∧ W.ol = S.ol ∧ W.b = S.b ∧ W.l = S.l ∧ (W.hs = S.hs ∧ W.L = S.L ∧ W.k = S.k) := by
    rw [hW]
    exact ⟨rfl, rfl, rfl, rfl, rfl, rfl, rfl⟩
  have Wo : ∀ a : Nat, a ≠ c1.2.1 → W.o a = S.o a := fun a ha => by rw [hW, so_ne ha, so_ne ha]
  have Wk : ∀ k : Nat, k ≠ 8 → k ≠ 12 → W.o c1.2.1 k = S.o c1.2.1 k := fun k h0 h1 => by rw [hW, so_nk h1, so_nk h0]
  have W8 : W.o c1.2.1 8 = 1 := by rw [hW, so_nk (by decide), so_at]
  have W12 : W.o c1.2.1 12 = P.o c1.2.1 12 := by rw [hW, so_at]
  clear hW
  have W0 : W.o c1.2.1 0 = 305 := (Wk 0 (by decide) (by decide)).trans h305
  obtain ⟨hG, tpG⟩ := hC.kat tp bz hT h305 rfl ch ctr n72 (by rw [W12]; exact kmq) Wi Wa Wr Wo Wk W8
  obtain ⟨vi, v33, vl, vb⟩ := gKT.n (s := s) (q := q) (T := ceT c1)
  obtain ⟨va4, v30, v34, v37, v72, v72'⟩ := gKT.t (s := s) (q := q) (T := ceT c1)
  obtain ⟨v, hv'⟩ : ∃ v, v = gKT s q (ceT c1) := ⟨_, rfl⟩
  rw [← hv'] at vi v33 vl vb va4 v30 v34 v37 v72 v72' hG tpG
  clear hv'
  have va : ∀ k : Nat, (k ≠ 30 ∧ k ≠ 34 ∧ k ≠ 37 ∧ k ≠ 72) → v.a k = s.a k := fun k hk => va4 k hk.1 hk.2.1 hk.2.2.1 hk.2.2.2
  have uv : ∀ k : Nat, (k = 1 ∨ k = 4 ∨ k = 22 ∨ k = 25 ∨ k = 27 ∨ k = 28 ∨ k = 44 ∨ k = 46 ∨ k = 47 ∨ k = 48 ∨ k = 49 ∨ k = 50 ∨ k = 51 ∨ k = 57 ∨ k = 58 ∨ k = 60 ∨ k = 61 ∨ k = 62) → u.a k = v.a k := fun k hk => by
    rw [va k (by omega), ua k (by omega)]
    exact qa k (by omega)
  have u30 : u.a 30 = v.a 30 := by rw [v30]; exact ua 30 (by decide)
  have u34 : u.a 34 = v.a 34 := by rw [v34]; exact ua 34 (by decide)
  have u37 : u.a 37 = v.a 37 := by rw [v37]; exact ua 37 (by decide)
  have u33 : u.i 33 = v.i 33 := by rw [v33]; exact ui 33 (by decide)
  have uvi : ∀ k : Nat, (k = 2 ∨ k = 3 ∨ k = 8 ∨ k = 20 ∨ k = 24 ∨ k = 29 ∨ k = 43 ∨ k = 56 ∨ k = 59) → u.i k = v.i k := fun k hk => by
    rw [vi k (by omega), ui k (by omega)]
    rcases hk with z | z | z | z | z | z | z | z | z <;> rw [z]
    · exact q2
    · exact q3
    · exact q8
    · exact q20
    · exact q24
    · exact q29
    · exact q43
    · exact q56
    · exact q59
  have frS : FRB (ceT c1) v u := fun j hj => by
    obtain ⟨f0, f1, f2, f3, f4, f5, f6, f7, f8, f9, fb⟩ := (ct2.tr frq) j hj
    exact ⟨by rw [va 64 (by decide)]; exact f0, by rw [va 65 (by decide)]; exact f1, by rw [va 66 (by decide)]; exact f2, by rw [va 67 (by decide)]; exact f3, by rw [va 68 (by decide)]; exact f4, by rw [va 69 (by decide)]; exact f5, by rw [va 70 (by decide)]; exact f6, by rw [va 71 (by decide)]; exact f7, by rw [v72' j (by omega)]; exact f8, by rw [va 73 (by decide)]; exact f9, by rw [vb]; exact fb⟩
  have v38 : (v.i 38).toInt = (s.i 38).toInt := by rw [vi 38 (by decide)]
  have u59 := uvi 59 (by decide)
  have u29 := uvi 29 (by decide)
  have u24 := uvi 24 (by decide)
  have u43 := uvi 43 (by decide)
  have u56 := uvi 56 (by decide)
  have u20 := uvi 20 (by decide)
  have trs : TBR v u := by
    unfold TBR
    rw [u59, u29, u33, u24]
    refine ⟨fun j hj => ?_, fun j _ => ⟨by rw [uv 44 (by decide)], by rw [ub45, qb45, vb], by rw [uv 46 (by decide)], by rw [uv 47 (by decide)], by rw [uv 50 (by decide)], by rw [uv 51 (by decide)], by rw [uv 48 (by decide)], by rw [uv 49 (by decide)]⟩, fun j _ => ⟨by rw [uv 57 (by decide)], by rw [uv 58 (by decide)]⟩, ⟨Int.le_refl _, fun j k1 k2 => by omega⟩, fun j _ => ⟨by rw [uv 60 (by decide)], by rw [uv 61 (by decide)], by rw [uv 62 (by decide)]⟩, Int.le_refl _, fun j _ => by rw [u30], Int.le_refl _, fun j _ => ⟨by rw [u34], by rw [u37]⟩, Int.le_refl _, fun j _ => ⟨by rw [uv 25 (by decide)], by rw [uv 27 (by decide)], by rw [uv 28 (by decide)]⟩⟩
    obtain ⟨w1, w2, w3⟩ := unm j (by omega)
    rw [w1, w2, w3, qb39, qa 40 (by decide), qa 41 (by decide), vb, va 40 (by decide), va 41 (by decide)]
    exact ⟨rfl, rfl, rfl⟩
  have cds : CDK (v.i 20).toInt v u := ⟨by rw [u20]; exact Int.le_refl _, fun j _ => by rw [uv 22 (by decide)]⟩
  have mf : ∀ k : Nat, 64 ≤ k → k ≤ 73 → k ≠ 65 → k ≠ 71 → k ≠ 72 → u.a k (ceT c1) = s.a k (ceT c1) := fun k h1 h2 h3 h4 h5 => by
    rw [mfq k h1 h2 h3]
    exact ct3 k h1 h2 h4 h5
  have tbb := hC.2.2.2.2.2.1.2.1
  have gob := hG.2.2.2.2.2.2.2.1.2
  have grr := hG.2.2.2.2.2.2.1
  have adr := hC.adr
  have Xo1 : ∀ a : Nat, a ≠ c1.2.1 → X.o a = W.o a ∧ X.ol a = W.ol a := fun a ha => ⟨by rw [ro, eo a ha, Wo a ha], by rw [rol, eol, Wr.2.1]⟩
  have XW : ∀ k : Nat, k ≠ 0 → k ≠ 8 → k ≠ 10 → k ≠ 12 → X.o c1.2.1 k = W.o c1.2.1 k := fun k a1 a2 a3 a4 => (Xk k a1 a2 a3 a4).trans (Wk k a2 a4).symm
  have ngo : ¬ isGo (W.o c1.2.1 0) := by rw [W0]; exact ty_ngo (Or.inr (Or.inr (Or.inl rfl)))
  have ngX : ¬ isGo (X.o c1.2.1 0) := ty_ngo tyX
  have X53 : X.i 53 = W.i 53 := by rw [Wi]; exact r53.trans i53
  have Xr : X.r = W.r := by rw [Wr.1]; exact rr.trans er
  have hcol : ∃ col : Nat → Option (Nat × Bool), COL X u (c1 :: c :: L) col (b.i 20).toInt := by
    obtain ⟨-, -, b0, col, hc⟩ := id hG.2.2.2.2.2.2.2.2.2.2
    refine ⟨_, hc.chT b0 hG.injG (fun y hy => (Xo1 y.2.1 (adr y hy)).1) (fun y hy => ?_) frS trs cds tyX⟩
    obtain ⟨w1, w2, w3, w4, w5⟩ := hG.inlB tpG y hy
    rw [X53, Xr, (Xo1 y.2.1 (adr y hy)).1]
    exact ⟨w1, w2, w3, w4, w5⟩
  have wg := zwl wl
  have rfr : RFR X u c1.2.1 (ceT c1) (ceG c1) (ceW c1) := by
    refine RFR.mTy tyX ⟨⟨(mf 64 (by decide) (by decide) (by decide) (by decide) (by decide)).trans z64, ?_, ⟨?_, Or.inr X8⟩, fun _ => ?_⟩, ?_⟩
    · rw [mf 66 (by decide) (by decide) (by decide) (by decide) (by decide), u29, vi 29 (by decide)]
      exact zid
    · rw [mfq 72 (by decide) (by decide) (by decide)]
      exact ⟨fun _ => Or.inr n72, fun _ => X8⟩
    · rw [mf 66 (by decide) (by decide) (by decide) (by decide) (by decide), uv 57 (by decide), uv 58 (by decide), va 57 (by decide), va 58 (by decide)]
      exact wg
    · rw [X0]
      refine ⟨fun z => absurd z (by decide), fun _ => ⟨u65, ⟨u641, u651, u642⟩, ?_, ?_⟩, fun z => absurd z (by decide), fun z => absurd z (by decide), ?_⟩
      · rw [mfq 71 (by decide) (by decide) (by decide), ct4, Xk 3 (by decide) (by decide) (by decide) (by decide), ← c50, s50]
      · rw [mf 68 (by decide) (by decide) (by decide) (by decide) (by decide), Xk 6 (by decide) (by decide) (by decide) (by decide)]
        exact z68
      · rw [Xk 6 (by decide) (by decide) (by decide) (by decide)]
        exact zb
  have x50 : (X.i 50).toInt = (S.i 50).toInt + 1 := by
    have hh := nms_hi hv
    rw [r50, i50, s50, ad1 (by omega) (by omega)]
  have rt : RTE W X := by
    unfold RTE
    rw [r21, i21, r54, i54, r55, i55, Wi, k11, k11X]
    omega
  have pdm : PDM W (c1 :: c :: L) = dbt (W.o c1.2.1 0) + PDM W (c :: L) := rfl
  have d0 : dbt (W.o c1.2.1 0) = 0 := by rw [W0]; rfl
  have phv : phI v = phI s := by
    unfold phI
    rw [vi 17 (by decide), vi 20 (by decide)]
  have v11 : (v.i 11).toInt = (s.i 11).toInt := by rw [vi 11 (by decide)]
  have v17 : (v.i 17).toInt = (s.i 17).toInt := by rw [vi 17 (by decide)]
  have fin : COR d B b t0 (c1 :: c :: L) (cod c1 X u) X u := hG.chg tpG hT (hG.b53 tpG bz) evu frS trs cds ⟨uvi 2 (by decide), uvi 3 (by decide), uvi 8 (by decide), uv 1 (by decide), uv 4 (by decide), by rw [ub9, qb9, vb]⟩ (by have := tbb.1; omega) u43 (by rw [u56, vi 56 (by decide)]; exact tbb.2.2.1) (by omega)
    Xr Xo1 ⟨XW 1 (by decide) (by decide) (by decide) (by decide), XW 3 (by decide) (by decide) (by decide) (by decide), XW 14 (by decide) (by decide) (by decide) (by decide)⟩ ⟨by rw [Wi]; exact r22.trans i22, by rw [Wi]; exact r38.trans i38, X53, by rw [Wi]; exact r54.trans i54, by rw [Wi]; exact r55.trans i55, by rw [Wi]; exact r56.trans i56⟩ ⟨by rw [Wa]; exact ra18.trans ea18, by rw [Wa]; exact ra52.trans ea52⟩ (fun y hy => by
      have z := (gob.1 y hy).2
      rw [Wi] at z
      omega)
    ngo ngX ⟨fun _ => by rw [W0]; exact Or.inr (Or.inr (Or.inl rfl)), fun _ => tyX⟩ (by rw [X0, W0]; rfl) (by rw [X0]; rfl) (fun z => absurd z (by rw [W0]; decide)) (fun z => absurd z (by rw [X0]; decide)) (fun _ => ⟨by rw [ro, W12], by rw [mf 66 (by decide) (by decide) (by decide) (by decide) (by decide), va 66 (by decide)], by rw [mfq 72 (by decide) (by decide) (by decide), v72]⟩) rfr hcol rt ⟨by omega, by omega, by omega, by rw [W0, X0, vi 19 (by decide)]; show _ + ((0 : Nat) : Int) = _ + ((1 : Nat) : Int); omega⟩ (by rw [X0]; unfold isKS isOne isTy; decide)
  have wd : wid (X.o c1.2.1 0) = 3 := by rw [X0]; rfl
  have ix : ceT c1 + wid (X.o c1.2.1 0) - 1 = ceT c1 + 1 + 1 := by omega
  refine ⟨c1, fin, ⟨?_, ?_, ?_⟩, ⟨Or.inl ⟨?_, ?_, ?_, ?_, Or.inl ⟨?_, ?_⟩, fun z => ?_⟩, ?_⟩, fun jx => ?_⟩
  · rw [X53]
    exact tpG.1
  · have z := tpG.2.1
    rw [W0] at z
    rw [u43, X0]
    exact z
  · have z := tpG.2.2
    rw [W0] at z
    rw [u56, X0]
    exact z
  · rw [X0]
    unfold isOne
    decide
  · rw [X0]
    decide
  · rw [wd, tu]
    omega
  · rw [ix]
    exact u642
  · rw [ix]
    exact u652
  · exact r36
  · rw [X0] at z
    exact absurd z (by decide)
  · exact Or.inr r36
  · intro crB
    have f66 : (vw S s c1).2.1 66 = s.a 66 (ceT c1) := vw_at (k := 66) ⟨by decide, by decide⟩
    have f72 : (vw S s c1).2.1 72 = s.a 72 (ceT c1) := vw_at (k := 72) ⟨by decide, by decide⟩
    obtain ⟨m5, s0, ⟨a31, sl42⟩, m5b, ⟨⟨e43, e59, eK⟩, l19, l11⟩, j0⟩ := jx.1 (vw S s c1) (vws S s (c :: L)) rfl h305 crB
    obtain ⟨Lx, ctq, n12, by11, lne, po10, jrg⟩ := cj
    obtain ⟨j1, pcP⟩ := jrg s0 m5 j0
    replace pcP := pcP crB
    clear jrg j0
    rw [f66] at a31 j1
    obtain ⟨y, hy⟩ : ∃ y, y = (s.a 66 (ceT c1)).toNatClampNeg := ⟨_, rfl⟩
    obtain ⟨E, hE⟩ : ∃ E, E = s.i 52 - 1 := ⟨_, rfl⟩
    obtain ⟨vD, hvD⟩ : ∃ vD, vD = S.i 38 - 1 := ⟨_, rfl⟩
    obtain ⟨n0, hn0⟩ : ∃ n0, n0 = (s.i 33).toNatClampNeg := ⟨_, rfl⟩
    rw [← hE, ← hvD, ← hy] at j1
    rw [← hy, ← hn0] at ctq
    rw [← hy] at a31
    rw [← hn0] at h72
    have Lne : ¬ Lx = [] := lne rfl
    have Ll : 0 < Lx.length := Nat.pos_of_ne_zero (fun z => Lne (List.eq_nil_of_length_eq_zero z))
    obtain ⟨⟨-, cq33⟩, ⟨⟨cq20, cq24, cq29, cq42, cq52, cq38, cq40⟩, cqk⟩, cq30, cqo, cqL, -, cqn⟩ := ctq
    obtain ⟨s33, q33⟩ := cq33 Lne
    obtain ⟨qn1, qn2, qn3, qn4⟩ := cqn Lne
    have n33 : (s.i 33).toInt = (n0 : Int) := by rw [hn0]; exact ck33 s33
    obtain ⟨⟨p40, p45, p49, p53, ⟨c20, c21, c22, c23, c38, c44⟩, ⟨c15, c16, c17, c19⟩, ⟨nmo, nm48, nm49⟩, e45, e49, e53, hXR⟩, ⟨y52, y42, y40⟩, yk, y35, y35'⟩ := cty
    rw [po10] at e45
    obtain ⟨nd, nd2, ⟨yb, b0⟩, -, -, -⟩ := hC.tys (σ0 := RS.setI s 56 (s.i 56 - 1)) tp bz ty (by
      have tw := tp.2.2
      have nw1 : nWl (S.o c1.2.1 0) = 1 := by rw [h305]; rfl
      have e1 : (1 : Int32).toInt = 1 := by decide
      have hi := Int32.toInt_lt (s.i 56)
      show (s.i 56 - 1).toInt = _
      rw [toInt_sub] <;> rw [e1] <;> omega) (fun _ _ => rfl)
    have cky := clampI (show 0 ≤ (s.a 66 (ceT c1)).toInt by omega)
    rw [← hy] at cky
    obtain ⟨lk, lw⟩ : LNK S c1 c ∧ LOW S s c := by
      obtain ⟨m', e', k', -, lkl, -⟩ := hC.2.1
      exact lkl c rfl
    have h900 : (u.i 11).toInt ≤ 900 := (i11_hi evu).2
    -- the class's code on a pseudo state
    have j2 := j1.cek (R := CS.setI (CS.setI P 38 vD) 44 (p40.2.i 44)) 3 rfl rfl rfl rfl rfl (by
      show (P.i 44).toInt + 3 ≤ (p40.2.i 44).toInt
      exact c44)
    have X44 : X.i 44 = p40.2.i 44 := by
      rw [hXR]
      show p53.2.i 44 = _
      rw [(ad_eq e53).2.1 44 (by decide), (ai_eq e49).1, (ad_eq e45).2.1 44 (by decide)]
    have l44 : (p40.2.i 44).toInt ≤ 900 := by
      rw [← X44, k11X]
      exact h900
    obtain ⟨P1, hP1⟩ : ∃ P1, P1 = CS.setI (CS.setI P 38 vD) 44 (p40.2.i 44) := ⟨_, rfl⟩
    have P1i : ∀ k : Nat, k ≠ 38 → k ≠ 44 → P1.i k = P.i k := fun k h1 h2 => by rw [hP1, ci_ne _ _ _ h2, ci_ne _ _ _ h1]
    have P138 : P1.i 38 = vD := by rw [hP1, ci_ne _ _ _ (by decide), ci_at]
    have P144 : P1.i 44 = p40.2.i 44 := by rw [hP1, ci_at]
    have P1a : P1.a = P.a := by rw [hP1]; rfl
    rw [← hP1] at j2
    clear hP1
    have ag0 : AGCC p40.2 P1 := ⟨⟨by rw [c20, P1i 20 (by decide) (by decide)], by rw [c21, P1i 21 (by decide) (by decide)], by rw [c22, P1i 22 (by decide) (by decide)], P144⟩, by rw [c15, P1a], by rw [c16, P1a], by rw [c17, P1a], by rw [c19, P1a]⟩
    obtain ⟨t1, et1⟩ : ∃ t1, f_X0_add N P1 30 x10 = some t1 := ⟨_, rfl⟩
    obtain ⟨t2, et2⟩ : ∃ t2, f_X0_aim N t1.2 xb = some t2 := ⟨_, rfl⟩
    obtain ⟨t3, et3⟩ : ∃ t3, f_X0_add N t2.2 57 (P.i 23) = some t3 := ⟨_, rfl⟩
    have ag3 := ((ag0.add e45 et1).aim e49 et2).add e53 et3
    obtain ⟨g1, g2, -, -, g5, -⟩ := ad_eq et1
    obtain ⟨h1, -, h3, -⟩ := ai_eq et2
    obtain ⟨i1, i2, -, -, i5, -⟩ := ad_eq et3
    have ti : ∀ k : Nat, k ≠ 20 → t3.2.i k = P1.i k := fun k hk => by rw [i2 k hk, h1, g2 k hk]
    have ta : ∀ k : Nat, k ≠ 15 → k ≠ 16 → k ≠ 17 → t3.2.a k = P.a k := fun k k1 k2 k3 => by rw [i5 k k1 k2, h3 k k3, g5 k k1 k2, P1a]
    have j3 := j2.add et1 (by rw [P144]; exact l44) (by omega)
    have j4 := JRG.aim (W1 := [tv x10]) (W2 := [vw S s c1]) (K' := fun FC SF nm X0 ω j Z => (cTg SF xb).toInt = ((pcC t1.2 : Nat) : Int) ∧ (SF.a 15 (pcC P1) = 30 ∧ SF.a 16 (pcC P1) = x10 ∧ pcC P1 < 1200 ∧ pcC t1.2 = pcC P1 + 1) ∧ KM xb (pcC S) Lx P (K5 U (vw S s c1) (s.a 30 y) (pcC S) m5) FC SF nm X0 ω j Z) j3 et2 (by rw [g2 44 (by decide), P144]; exact l44) (by omega) (fun FC SF nm X0 ω j Z h k => ⟨h, k⟩)
    have j5 := j4.add et3 (by rw [h1, g2 44 (by decide), P144]; exact l44) (by omega)
    obtain ⟨bP, -, -, -, _, _, _, _, -, -, tgP, -⟩ := j1 crB
    obtain ⟨b5, -⟩ := j5 crB
    obtain ⟨⟨rP0, rP1⟩, rP2, rP3, rP4, rP5⟩ := crB.rms bP
    obtain ⟨⟨r50, r51⟩, -⟩ := crB.rms b5
    have rP0' : 0 ≤ (P.i 20).toInt := rP0
    have rP1' : (P.i 20).toInt ≤ (P.i 44).toInt + 7 + -4 := rP1
    have rP3' : (P.i 21).toInt ≤ (P.i 44).toInt + 7 + -1 := rP3
    have rP4' : 0 ≤ (P.i 23).toInt := rP4
    have rP5' : 2 * (P.i 23).toInt ≤ (P.i 44).toInt + 7 + -1 := rP5
    have P44 : (P.i 44).toInt ≤ 900 := by omega
    have tgx : (B.i 21).toInt ≤ xb.toInt ∧ xb.toInt < (P.i 21).toInt := by
      have z := tgP.2 xb (by
        show xb ∈ rtgs (tv x10) ++ (rtgs (tv xb) ++ ptl ([vw S s c1] ++ vws S s (c :: L)))
        rw [tv.tgs, tv.tgs]
        exact List.mem_cons_of_mem _ List.mem_cons_self)
      exact ⟨z.1, z.2.1⟩
    have B21 := crB.1.1.2.1
    have nx5 : NT5 xb := ⟨by omega, by omega⟩
    have pc1 : pcC P1 = pcC P := by
      unfold pcC
      rw [P1i 20 (by decide) (by decide)]
    have t444 : (t3.2.i 44).toInt ≤ 900 := by rw [ti 44 (by decide), P144]; exact l44
    have w20 : (t3.2.i 20).toInt = (P.i 20).toInt + 2 := by
      have z1 := ad1 rP0' (by omega)
      rw [i1, h1, g1, P1i 20 (by decide) (by decide), ad1 (by omega) (by omega), z1]
      omega
    have c23i : (P.i 23 + 1).toInt = (P.i 23).toInt + 1 := ad1 rP4' (by omega)
    have X23 : X.i 23 = P.i 23 + 1 := by
      rw [hXR]
      show p53.2.i 23 = _
      rw [(ad_eq e53).2.1 23 (by decide), (ai_eq e49).1, (ad_eq e45).2.1 23 (by decide), c23]
    have t323 : t3.2.i 23 = P.i 23 := by rw [ti 23 (by decide), P1i 23 (by decide) (by decide)]
    have X20 : X.i 20 = t3.2.i 20 := by
      rw [ag3.1.1, hXR]
      rfl
    have Xa : ∀ k : Nat, X.a k = p53.2.a k := fun k => by rw [hXR]; rfl
    have dX : D38 (CS.setI t3.2 23 (X.i 23)) X := by
      refine ⟨⟨X20, ?_, ?_, (ci_at _ _ _).symm, ?_⟩, ?_, ?_, ?_, ?_⟩
      · show X.i 21 = t3.2.i 21
        rw [ag3.1.2.1, hXR]
        rfl
      · show X.i 22 = t3.2.i 22
        rw [ag3.1.2.2.1, hXR]
        rfl
      · show X.i 44 = t3.2.i 44
        rw [ag3.1.2.2.2, hXR]
        rfl
      · show X.a 15 = t3.2.a 15
        rw [Xa, ag3.2.1]
      · show X.a 16 = t3.2.a 16
        rw [Xa, ag3.2.2.1]
      · show X.a 17 = t3.2.a 17
        rw [Xa, ag3.2.2.2.1]
      · show X.a 19 = t3.2.a 19
        rw [Xa, ag3.2.2.2.2]
    have nmX : ∀ k : Nat, k = 48 ∨ k = 49 → X.a k = p40.2.a k := fun k hk => by
      rw [Xa, (ad_eq e53).2.2.2.2.1 k (by omega) (by omega), (ai_eq e49).2.2.1 k (by omega), (ad_eq e45).2.2.2.2.1 k (by omega) (by omega)]
    have g66 : (vw X u c1).2.1 66 = s.a 66 (ceT c1) := (vw_at (k := 66) ⟨by decide, by decide⟩).trans (mf 66 (by decide) (by decide) (by decide) (by decide) (by decide))
    have g72 : (vw X u c1).2.1 72 = q.a 72 (ceT c1) := (vw_at (k := 72) ⟨by decide, by decide⟩).trans (mfq 72 (by decide) (by decide) (by decide))
    have gvv : (vw X u c1).v = 215 := X0
    have s38h := nms_hi hv
    have P50 : P.i 50 = s.i 38 := i50.trans s50
    have u20s : u.i 20 = s.i 20 := u20.trans (vi 20 (by decide))
    have u33q : u.i 33 = q.i 33 := ui 33 (by decide)
    have u42q : u.i 42 = s.i 42 + 1 := by rw [y42, cq42]
    have uas : ∀ k : Nat, (k = 22 ∨ k = 25 ∨ k = 27 ∨ k = 28) → u.a k = s.a k := fun k hk => by
      rw [uv k (by omega), va k (by omega)]
    have uys : ∀ k : Nat, (k = 21 ∨ k = 23 ∨ k = 26 ∨ k = 31 ∨ k = 32) → u.a k = s.a k := fun k hk => by
      rw [yk k hk, cqk k (by omega)]
    have dct : DCT y (s.a 72 (ceT c1)).toInt (RS.setI s 52 E) u := by
      refine ⟨⟨u20s, u24.trans (vi 24 (by decide)), u29.trans (vi 29 (by decide)), ?_⟩, ⟨uys 21 (by decide), uas 22 (by decide), uys 23 (by decide)⟩, ⟨uas 25 (by decide), uys 26 (by decide), uas 27 (by decide), uas 28 (by decide)⟩, ⟨uys 31 (by decide), uys 32 (by decide), fun j hj => ?_⟩, fun j hj => ?_⟩
      · show (s.i 33).toInt ≤ (u.i 33).toInt
        rw [u33q, q33, n33]
        omega
      · rw [ua 30 (by decide)]
        exact cq30 j hj
      · have hj' : (j : Int) < (s.i 33).toInt := hj
        obtain ⟨z1, z2⟩ := cqo j (by omega)
        obtain ⟨z3, z4⟩ := y35 j hj'
        refine ⟨by rw [ua 34 (by decide)]; exact z1, by rw [z3, cqk 35 (by decide)]; rfl, by rw [z4, cqk 36 (by decide)]; rfl, fun w => ?_⟩
        rw [ua 37 (by decide)]
        exact z2 w
    have r3t : rtgs (vw X u c1) = [x10, S.o c1.2.1 11, S.o c1.2.1 9] := by
      unfold rtgs
      rw [gvv, if_neg (by decide), if_neg (by decide), if_neg (by decide), if_pos (by decide)]
      show [X.o c1.2.1 10, X.o c1.2.1 11, X.o c1.2.1 9] = _
      rw [ro, po10, ← ro, Xk 11 (by decide) (by decide) (by decide) (by decide), Xk 9 (by decide) (by decide) (by decide) (by decide)]
    have r5t : rtgs (vw S s c1) = [S.o c1.2.1 11, S.o c1.2.1 9] := by
      unfold rtgs
      rw [show (vw S s c1).v = 305 from h305, if_neg (by decide), if_neg (by decide), if_neg (by decide), if_neg (by decide), if_pos rfl]
      rfl
    have veq : vws X u (c :: L) = vws S s (c :: L) := vws.eq (T := ceT c1) (fun j hj => by rw [(unm j (by rw [q38]; exact hj)).2.1, qa 40 (by decide)]) (c :: L) (fun y hy => hC.o3 y (List.mem_cons_of_mem _ hy)) (fun y hy => by rw [(Xo1 y.2.1 (adr y hy)).1, Wo y.2.1 (adr y hy)]) (ct2.tr frq) (fun y hy => by
      have z1 := (hC.inlB tp y hy).2.2.1
      have z2 := wid1 (S.o y.2.1 0)
      omega)
    have t5 : isTyv (vw S s c1) := ty
    have p5n : ¬ (vw S s c1).2.2.1 = 0 := by
      show ¬ c1.1 = 0
      have := lk.1
      omega
    have tbv : TBB b v := hG.2.2.2.2.2.1.2.1
    obtain ⟨mm, hmm⟩ : ∃ mm, mm = m5 + Lx.length + 1 := ⟨_, rfl⟩
    have pcS20 : ((pcC S : Nat) : Int) ≤ (X.i 20).toInt := by
      rw [X20, w20]
      have := clampI rP0'
      unfold pcC at pcP ⊢
      omega
    have pcX : pcC X = pcC S + Lx.length + 2 := by
      have z := clampI rP0'
      have z2 := clampI (show 0 ≤ (X.i 20).toInt by rw [X20, w20]; omega)
      rw [X20, w20] at z2
      unfold pcC at pcP ⊢
      rw [X20]
      omega
    have cell := clampI rP4'
    have pcb : pcC S + Lx.length ≤ 903 := by
      have z := clampI rP0'
      rw [← pcP]
      unfold pcC
      omega
    have u19e : (u.i 19).toInt = (s.i 19).toInt + 1 := by omega
    have h20 : (u.i 19).toInt ≤ 20 := evu.2.2.1.2.2
    have vD38 : S.i 38 = vD + 1 := by rw [hvD]; exact (Int32.sub_add_cancel _ _).symm
    have E52 : s.i 52 = E + 1 := by rw [hE]; exact (Int32.sub_add_cancel _ _).symm
    have u52s : u.i 52 = s.i 52 := by rw [y52, cq52]
    have X38 : X.i 38 = S.i 38 := r38.trans i38
    have u30y : U.a 30 = U.a 30 := rfl
    have eng : ∀ (G : GHT) (ω h l : Nat), G c1.1 = ((P.i 23).toNatClampNeg, (s.i 42).toNatClampNeg, List.replicate mm (u.a 30 y, pcC S)) → jen G ω (vw X u c1) h l = [(2, h, (S.o c1.2.1 9).toNatClampNeg - 2, y, (P.i 23).toNatClampNeg, (s.i 42).toNatClampNeg, ω + l)] := fun G ω h l gq => by
      unfold jen
      rw [gvv, if_neg (by decide), if_neg (by decide), if_pos rfl, g66, ← hy, show (vw X u c1).1 9 = S.o c1.2.1 9 from Xk 9 (by decide) (by decide) (by decide) (by decide), show (vw X u c1).2.2.1 = c1.1 from rfl, gq]
      rfl
    refine (show JRW Aj U B b (vw X u c1 :: vws X u (c :: L)) X u from ?_) crB
    rw [veq]
    have n8' : N8 B b (vws S s (c :: L)) t3.2 (RS.setI s 52 E) → N8 B b (vw X u c1 :: vws S s (c :: L)) X u := fun z => ⟨fun k k1 _ => by
      have kc : (k : Int) < (s.i 38).toInt := Int.lt_of_lt_of_le k1 hC.2.2.2.2.2.1.2.1.1
      rw [nmX 48 (Or.inl rfl), (nmo k (by rw [P50]; exact kc)).1, ← ta 48 (by decide) (by decide) (by decide), nmX 49 (Or.inr rfl), (nmo k (by rw [P50]; exact kc)).2, ← ta 49 (by decide) (by decide) (by decide)]
      exact z.1 k k1 kc, by
      have z2 : E = b.i 52 + sl32 (vws S s (c :: L)) := z.2
      have e : sl32 (vw X u c1 :: vws S s (c :: L)) = sl32 (vws S s (c :: L)) + d32 (vw X u c1).v := rfl
      rw [u52s, E52, e, d32.yes (Or.inr (Or.inr (Or.inl gvv))), z2, Int32.add_assoc]⟩
    refine JRG.pct (r6 := vw S s c1) (tl := [x10]) (y := y) ((P.i 23).toNatClampNeg, (s.i 42).toNatClampNeg, List.replicate mm (u.a 30 y, pcC S)) n8' dX (by rw [X23, t323, c23i]) (by rw [f72]; exact dct) j5 gvv t5 p5n (fun _ => wl) ⟨rfl, by rw [g66, f66], Xk 2 (by decide) (by decide) (by decide) (by decide), Xk 9 (by decide) (by decide) (by decide) (by decide), Xk 11 (by decide) (by decide) (by decide) (by decide)⟩ s33 ⟨by rw [g72]; show (s.i 33).toInt ≤ _; omega, by rw [g72, u33q]; omega⟩ t444 (by omega) (by omega) ⟨by rw [u43, vi 43 (by decide)]; exact e43, by rw [u59, vi 59 (by decide)]; exact e59, fun k hk => ?_⟩ (by omega) (by omega) (fun q' hq' => vws.pl hC q' hq') ?_ (by rw [g66, cky]) (by rw [cky]; exact yb) (fun j hj => ?_) (fun q' hq' tq' z => (nd q' hq' tq').1 (by
      have z1 := clampI (nd q' hq' tq').2
      exact Int32.toInt_inj.mp (by omega))) (fun q' hq' tq' => by rw [f72]; exact nd2 q' hq' tq') (fun slb sl0 => ?_) ⟨by rw [uys 31 (by decide)]; exact a31, ?_, fun z hz => by rw [List.eq_of_mem_replicate hz]; exact pcS20⟩ (fun z hz => by rw [List.eq_of_mem_replicate hz]) (fun nm G ω j gq ng fr hc' hh d2 c720 gns slu => ?_) (fun FC SF nm X' G ω j Z gq hω r12 hc' tyc tl tcc sl0 k jr' cur => ?_)
    · rw [uv k (by omega), va k (by omega)]
      exact eK k hk
    · rw [r3t, r5t]
      exact List.Perm.refl _
    · show u.a 37 j = s.a 37 j
      have z1 := (tbv.2.2.2.2.2.2.2.2.2.2.2.1 j hj).2
      have z2 := (tbb.2.2.2.2.2.2.2.2.2.2.2.1 j hj).2
      rw [u37, z1, z2]
    · have z0 : 0 ≤ (s.i 42).toInt := sl0.1
      have z1 := sl42 slb
      have z2 := hv.p20
      have z3 : (s.i 42 + 1).toInt = (s.i 42).toInt + 1 := ad1 z0 (by omega)
      refine ⟨?_, ?_, ?_⟩
      · show (s.i 42).toInt ≤ (u.i 42).toInt
        rw [u42q]
        omega
      · rw [u42q]
        omega
      · rw [u42q, u20s]
        omega
    · show 3 * ((List.replicate mm (u.a 30 y, pcC S)).length : Int) + 3 ≤ (u.i 11).toInt
      rw [List.length_replicate, hmm]
      have := s38h.1
      rcases m5b with z | z <;> omega
    · rw [eng G ω j.h j.l gq]
      have slu0 : 0 ≤ (s.i 42).toInt := ng.2.2.2.1.1
      have slu1 : (s.i 42).toInt ≤ (s.i 20).toInt + 8 := ng.2.2.2.1.2
      have ck42 := clampI slu0
      have s20 := hv.p20
      have u42i : (u.i 42).toInt = (s.i 42).toInt + 1 := by
        rw [u42q]
        exact ad1 slu0 (by omega)
      have n38 : (frs j.c : Int) = vD.toInt := by
        have z := ng.2.1
        rw [ti 38 (by decide), P138] at z
        exact z
      have n52 : (j.c.length : Int) = E.toInt := ng.2.2.1
      have hh' : ((2 * j.h + (j.c.length + 3 * ops j.c) : Nat) : Int) ≤ (s0.i 11).toInt := hh
      have X38v : (X.i 38).toInt = vD.toInt + 1 := by
        rw [X38, vD38]
        exact ad1 (by omega) (by omega)
      have ncc : ∀ e' ∈ j.c, ∀ k : Nat, cel e' k → (k : Int) < (P.i 23).toInt := fun e' he k hk => by
        have z := (ng.2.2.2.2 e' he).1 k hk
        rw [t323] at z
        exact z
      have ncs : ∀ e' ∈ j.c, ∀ l : Nat, slo e' l → (l : Int) < (s.i 42).toInt := fun e' he l hl => (ng.2.2.2.2 e' he).2 l hl
      have ck38 := clampI (show 0 ≤ (s.i 38).toInt by have := s38h.1; omega)
      have o40 : ∀ k : Nat, (k : Int) < (s.i 38).toInt → u.a 40 k = s.a 40 k := fun k kc => by rw [(unm k (by rw [q38]; exact kc)).2.1, qa 40 (by decide)]
      rw [t323] at c720
      have gn : ∀ k l : Nat, (k = (P.i 23).toNatClampNeg ∨ l = (s.i 42).toNatClampNeg) → ¬ nm k l := fun k l hkl => gns k l (by
        rw [t323, X23, c23i]
        rcases hkl with z | z
        · exact Or.inl ⟨by omega, by omega⟩
        · refine Or.inr ⟨?_, by omega⟩
          show (s.i 42).toInt ≤ _
          omega)
      have ck2 : ∀ (k a3 a4 a5 a6 a7 a8 : Nat), cel (2, a3, a4, a5, a6, a7, a8) k → k = a6 := fun k a3 a4 a5 a6 a7 a8 h => by
        rcases h with ⟨-, z⟩ | ⟨z, -⟩
        · exact z
        · exact absurd (show (2 : Nat) = 4 from z) (by decide)
      have cs2 : ∀ (l a3 a4 a5 a6 a7 a8 : Nat), slo (2, a3, a4, a5, a6, a7, a8) l → l = a7 := fun l a3 a4 a5 a6 a7 a8 h => h.2
      refine ⟨⟨fun k hk => ?_, ?_, ?_, ?_, slu.2, fun e' he => ?_⟩, ⟨⟨fun k hk => ?_, fun l hl => ?_, hc'.1⟩, ?_, ?_, fun e' he => ?_⟩, ?_, fun k hk => ?_⟩
      · by_cases kc : (k : Int) < (s.i 38).toInt
        · obtain ⟨z1, z2⟩ := ng.1 k kc
          have a48 : X.a 48 k = t3.2.a 48 k := by rw [nmX 48 (Or.inl rfl), (nmo k (by rw [P50]; exact kc)).1, ta 48 (by decide) (by decide) (by decide)]
          have a49 : X.a 49 k = t3.2.a 49 k := by rw [nmX 49 (Or.inr rfl), (nmo k (by rw [P50]; exact kc)).2, ta 49 (by decide) (by decide) (by decide)]
          rw [a48, a49, o40 k kc]
          refine ⟨z1, fun w => ?_⟩
          obtain ⟨d1, e', d0, w1, w2⟩ := z2 w
          exact ⟨_ :: d1, e', d0, by rw [w1]; rfl, w2⟩
        · have ek : k = (s.i 38).toNatClampNeg := by omega
          have a48 : X.a 48 k = P.i 23 := by rw [nmX 48 (Or.inl rfl), ek, ← P50]; exact nm48
          have a49 : X.a 49 k = vD := by rw [nmX 49 (Or.inr rfl), ek, ← P50, nm49, i38, hvD]
          have a40 : u.a 40 k = s.i 42 := by rw [ek, ← q38, y40, cq42]
          rw [a48, a49, a40]
          exact ⟨fun w => absurd w (by omega), fun _ => ⟨[], _, j.c, rfl, rfl, cell.symm, ck42.symm, n38.symm⟩⟩
      · show ((frs j.c + (if (2 : Nat) ≤ 3 then 1 else 0) : Nat) : Int) = (X.i 38).toInt
        rw [if_pos (by decide), X38v]
        omega
      · show ((j.c.length + 1 : Nat) : Int) = (u.i 52).toInt
        rw [u52s, E52, ad1 (by omega) (by omega)]
        omega
      · show ((frs j.c + (if (2 : Nat) ≤ 3 then 1 else 0) : Nat) : Int) ≤ _
        rw [if_pos (by decide)]
        omega
      · rcases List.mem_cons.mp he with z | z
        · rw [z]
          refine ⟨fun k hk => ?_, fun l hl => ?_⟩
          · rw [ck2 _ _ _ _ _ _ _ hk, X23, c23i]
            omega
          · rw [cs2 _ _ _ _ _ _ _ hl]
            omega
        · refine ⟨fun k hk => ?_, fun l hl => ?_⟩
          · have := ncc e' z k hk
            rw [X23, c23i]
            omega
          · have := ncs e' z l hl
            omega
      · have ek := ck2 _ _ _ _ _ _ _ hk
        refine ⟨by omega, fun l => gn k l (Or.inl ek), fun e' he w => ?_⟩
        have := ncc e' he k w
        omega
      · have el := cs2 _ _ _ _ _ _ _ hl
        refine ⟨fun k => gn k l (Or.inr el), fun e' he w => ?_⟩
        have := ncs e' he l w
        omega
      · show ops j.c + (if (2 : Nat) = 1 then _ else 0) ≤ 320
        rw [if_neg (by decide)]
        exact hc'.2.1
      · show frs j.c + (if (2 : Nat) ≤ 3 then 1 else 0) ≤ 22
        rw [if_pos (by decide)]
        omega
      · rcases List.mem_cons.mp he with z | z
        · rw [z]
          exact Nat.le_refl _
        · exact hc'.2.2.2 e' z
      · show ((2 * j.h + ((j.c.length + 1) + 3 * (ops j.c + (if (2 : Nat) = 1 then _ else 0))) : Nat) : Int) ≤ _
        rw [if_neg (by decide)]
        omega
      · have hk' : (k : Int) < (X.o c1.2.1 3).toInt := hk
        rw [vw_s hk']
        have kc : (k : Int) < (s.i 38).toInt := by
          rw [Xk 3 (by decide) (by decide) (by decide) (by decide), ← c50, s50] at hk'
          exact hk'
        rw [o40 k kc]
        intro w
        have w' : (s.a 40 k).toInt = (((s.i 42).toNatClampNeg : Nat) : Int) := w
        obtain ⟨z1, z2⟩ := ng.1 k kc
        by_cases z : (t3.2.a 49 k).toInt < 0
        · obtain ⟨a, b', -, w2, w3⟩ := z1 z
          have w2' : (s.a 40 k).toInt = (b' : Int) := w2
          exact gn a b' (Or.inr (by omega)) w3
        · obtain ⟨d1, e', d0, w1, w2, -, w4, -⟩ := z2 (by omega)
          have w4' : (s.a 40 k).toInt = (e'.w : Int) := w4
          have := ncs e' (by rw [w1]; exact List.mem_append_right _ List.mem_cons_self) e'.w ⟨w2, rfl⟩
          omega
    · obtain ⟨⟨s57, z57, -, -⟩, ct, ⟨s30', x30, p30, p30'⟩, ⟨mts, -⟩, k5⟩ := k
      have pc2 : pcC t2.2 = pcC t1.2 := by
        unfold pcC
        rw [h1]
      rw [pc2] at s57 z57
      have pcm : pcC P1 = pcC S + Lx.length := pc1.trans pcP
      rw [pcm] at s30' x30 p30 p30'
      have sl00 : 0 ≤ (s.i 42).toInt := sl0.1
      have ck42 := clampI sl00
      obtain ⟨-, tex, t15, -, t30⟩ := jr'
      have hrb := t15 gvv
      unfold HRB at hrb
      rw [eng G ω j.h j.l gq] at hrb
      obtain ⟨n', p', ⟨hn', hp'⟩, ct10, hrw', hfn'⟩ := hrb _ List.mem_cons_self
      rw [gq] at hn' hp'
      have hn2 : n' + mm ≤ 300 := by
        have z : n' + (List.replicate mm (u.a 30 y, pcC S)).length ≤ 300 := hn'
        rw [List.length_replicate] at z
        exact z
      have hp2 : pcC S ≤ p' := hp' (u.a 30 y, pcC S) (List.mem_replicate.mpr ⟨by omega, rfl⟩)
      have t30' := t30 (Or.inl gvv)
      rw [gq, g66, ← hy] at t30'
      have U30 : U.a 30 y = q.a 30 y := by
        rw [t30' (u.a 30 y, pcC S) (List.mem_replicate.mpr ⟨by omega, rfl⟩)]
        show u.a 30 y = q.a 30 y
        rw [ua 30 (by decide)]
      have cu := cur r36
      have jl : jlv 215 = 1265 := rfl
      rw [eng G ω j.h j.l gq, gvv, jl] at cu
      have ety : ty5 (vw S s c1) ω j = (1, j.h, (S.o c1.2.1 9).toNatClampNeg - 2, y, 0, 0, ω + j.l) := by
        unfold ty5
        rw [f66, ← hy]
        rfl
      unfold K5 at k5
      rw [ety] at k5
      obtain ⟨W5, hW5⟩ : ∃ W5 : Nat, W5 = ω + (j.l + 1265) - (pcC S + 2) := ⟨_, rfl⟩
      rw [← hW5] at k5
      have x10e : (vw X u c1).1 10 = x10 := by
        show X.o c1.2.1 10 = x10
        rw [ro]
        exact po10
      rw [x10e] at ct10
      have hrT : HRW SF U (GU FC SF U nm X') (1, j.h, (S.o c1.2.1 9).toNatClampNeg - 2, y, 0, 0, ω + j.l) j.c W5 n' p' (U.a 37 ((vw X u c1).2.1 72).toNatClampNeg) := HRW.zz (e := (2, j.h, (S.o c1.2.1 9).toNatClampNeg - 2, y, (P.i 23).toNatClampNeg, (s.i 42).toNatClampNeg, ω + j.l)) (e' := (1, j.h, (S.o c1.2.1 9).toNatClampNeg - 2, y, 0, 0, ω + j.l)) rfl rfl rfl rfl n' p' _ (HRW.up (W := ω + (j.l + 1265) - (p' + 2)) (W' := W5) (by rw [hW5]; omega) n' p' _ hrw')
      have hr1 : HRW SF U (GU FC SF U nm X') (1, j.h, (S.o c1.2.1 9).toNatClampNeg - 2, y, 0, 0, ω + j.l) j.c W5 (n' + 1) (pcC S + Lx.length) (U.a 37 ((vw X u c1).2.1 72).toNatClampNeg) := ⟨p30, Or.inr (Or.inr ⟨s30', p', by rw [x30]; exact ct10, hrT⟩)⟩
      have r72 : ((vw X u c1).2.1 72).toNatClampNeg = n0 + Lx.length - 1 := by
        rw [g72]
        have := clampI n72
        omega
      have tc : ∀ i : Nat, i < Lx.length → U.a 34 (n0 + i) = q.a 34 (n0 + i) ∧ U.a 35 (n0 + i) = q.i 20 ∧ U.a 36 (n0 + i) = q.i 42 ∧ (i + 1 < Lx.length → U.a 37 (n0 + i) = q.a 37 (n0 + i)) := fun i hi => by
        have l1 : (s.i 33).toInt ≤ ((n0 + i : Nat) : Int) := by omega
        have l2 : ((n0 + i : Nat) : Int) < (u.i 33).toInt := by
          rw [u33q, q33]
          omega
        obtain ⟨z1, z2, z3, z4⟩ := tcc.1 (n0 + i) l1 l2
        obtain ⟨w1, w2⟩ := y35' (n0 + i) l1 (by rw [← u33q]; exact l2)
        refine ⟨by rw [z1, ua 34 (by decide)], by rw [z2, w1], by rw [z3, w2], fun hi2 => ?_⟩
        rw [z4 (by rw [g72]; omega), ua 37 (by decide)]
      have pb1 : pcC t1.2 = pcC S + Lx.length + 1 := p30'
      have al : GU FC SF U nm X' (pcC t1.2 + 1) (pcR u) j.h (ω + (j.l + 1265) - pcC X) 0 ((2, j.h, (S.o c1.2.1 9).toNatClampNeg - 2, y, (P.i 23).toNatClampNeg, (s.i 42).toNatClampNeg, ω + j.l) :: j.c) := by
        have z := cu.1
        rw [show pcC t1.2 + 1 = pcC X by rw [pb1, pcX]]
        exact z
      have pru : (((pcR u : Nat)) : Int) = (u.i 20).toInt := by
        have z1 := evu.p20.1
        unfold pcR
        omega
      have pX12 : pcC X ≤ 1200 := r12
      have chain := hrw_cat (SF := SF) (U := U) (AL := GU FC SF U nm X') (e := (1, j.h, (S.o c1.2.1 9).toNatClampNeg - 2, y, 0, 0, ω + j.l)) (c := j.c) (W := W5) (n0 := n0) (n' := n' + 1) (pb := pcC t1.2) (qb := pcR u) (z := (P.i 23).toNatClampNeg) (l := (s.i 42).toNatClampNeg) (w := ω + (j.l + 1265) - pcC X) mts n12 nx5 (fun i x hx => by
        obtain ⟨li, -⟩ := List.getElem?_eq_some_iff.mp hx
        rw [(tc i li).1]
        exact cqL i x hx) (fun i hi => ⟨by rw [(tc i hi).2.1, q20, ← u20s]; exact pru.symm, by rw [(tc i hi).2.2.1, cq42]; exact ck42.symm⟩) (fun i hi => by
        rw [(tc i (by omega)).2.2.2 hi]
        exact qn4 i hi) ct (by rw [pb1]; omega) ⟨s57, by rw [z57]; exact cell.symm, by omega⟩ al (by rw [pcX, hW5]; omega) (fun i hi => by
        rw [show n0 + i = ((vw X u c1).2.1 72).toNatClampNeg by rw [r72]; omega]
        exact hr1)
      refine k5 ⟨(Lx.length - 1) + 1 + (n' + 1), by omega, chain (Lx.length - 1) 0 _ (by omega) ?_⟩ ?_ (fun h6 z => ?_) (fun z => ?_)
      · unfold khd
        rw [f66, f72]
        by_cases z : (s.a 72 (ceT c1)).toInt < 0
        · rw [if_pos z, ← hy, U30]
          exact qn2 z
        · rw [if_neg z]
          have z' : 0 ≤ (s.a 72 (ceT c1)).toInt := by omega
          have w := tcc.2 (by rw [f72]; exact z')
          rw [f72] at w
          rw [w, ua 37 (by decide)]
          exact (qn3 z').2
      · exact HFN.up (W := ω + (j.l + 1265) - (p' + 2)) (by omega) hfn'
      · rw [g66, show (vw X u c1).1 9 = S.o c1.2.1 9 from Xk 9 (by decide) (by decide) (by decide) (by decide), show (vw X u c1).1 6 = S.o c1.2.1 6 from Xk 6 (by decide) (by decide) (by decide) (by decide)] at tex
        rw [f66] at z ⊢
        exact tex h6 z
      · rw [f72] at z
        rw [f66, ← hy, U30]
        exact (qn3 z).1
