/-! both readers: a group more of the switch on top -/
theorem chn.lo {s : RS} {w : Int32} : ∀ (L : List Nat) (k : Int32), chn s k L → (∀ j ∈ L, (j : Int) < w.toInt) → chn (RS.setI s 24 w) k L
  | [], _, g, _ => g
  | j :: L, _, g, b => ⟨g.1, (show (j : Int) < w.toInt from b j List.mem_cons_self), g.2.2.1, chn.lo L _ g.2.2.2 (fun i hi => b i (List.mem_cons_of_mem _ hi))⟩
theorem STK.lo24 {S : CS} {s : RS} {w : Int32} : ∀ (L : List CEL) (m e k : Int), STK S s L m e k → e ≤ w.toInt → STK S (RS.setI s 24 w) L m e k
  | [], _, _, _, _, _ => trivial
  | c :: L, m, e, k, g, he => by
    obtain ⟨m', e', k', g1, g2, g3⟩ := g
    obtain ⟨a1, a2, a3, a4, a5, a6, a7⟩ := g1
    have le : e' ≤ e := by
      by_cases z : S.o c.2.1 0 = 218
      · exact (a5 z).2.1
      · rw [(a4 z).2]
        exact Int.le_refl _
    refine ⟨m', e', k', ⟨a1, a2, a3, a4, fun z => ?_, a6, fun z => ?_⟩, g2, STK.lo24 L m' e' k' g3 (by omega)⟩
    · obtain ⟨x1, x2, x3, M, y1, y2, y3, y4⟩ := a5 z
      exact ⟨x1, x2, x3, M, y1, chn.lo M _ y2 (fun j hj => by have := (y4 j hj).2; omega), y3, y4⟩
    · obtain ⟨x1, M, y1, y2, y3, y4⟩ := a7 z
      exact ⟨x1, M, kch.eq (s := s) (u := RS.setI s 24 w) rfl rfl y1, y2, y3, y4⟩
theorem JMQ.eqv {S R : CS} {s u : RS} {L : List CEL} {B59 B29 : Int} (h : JMQ S s L B59 B29) (e0 : ∀ a : Nat, R.o a 0 = S.o a 0) (e1 : ∀ a : Nat, R.o a 1 = S.o a 1) (e14 : ∀ a : Nat, R.o a 14 = S.o a 14) (e15 : ∀ a : Nat, R.o a 15 = S.o a 15) (i54 : R.i 54 = S.i 54) (i55 : R.i 55 = S.i 55) (e52 : R.a 52 = S.a 52) (f50 : u.a 50 = s.a 50) (f51 : u.a 51 = s.a 51) (f60 : u.a 60 = s.a 60) (f61 : u.a 61 = s.a 61) (f62 : u.a 62 = s.a 62) (i59 : u.i 59 = s.i 59) (f66 : ∀ y ∈ L, u.a 66 (ceT y) = s.a 66 (ceT y)) : JMQ R u L B59 B29 := by
  unfold JMQ RCD PND SAF INR flg at *
  simp only [e0, e1, e14, e15]
  rw [i54, i55, e52, f50, f51, f60, f61, f62, i59]
  obtain ⟨h1, h2, h3, h4, h5, h6, h7, h8⟩ := h
  refine ⟨fun c hc g b hb i r => ?_, h2, fun k hk q hq t z => ?_, fun k k1 k2 => ?_, fun q hq t => ?_, fun q hq p hp t1 t2 l => ?_, h7, h8⟩
  · rcases h1 c hc g b hb i r with z | ⟨k, q, hq, t, l, ⟨p1, p2, p3, p4⟩, w⟩
    · exact Or.inl z
    · exact Or.inr ⟨k, q, hq, t, l, ⟨p1, p2, p3, by rw [f66 q hq]; exact p4⟩, w⟩
  · rw [f66 q hq] at z
    obtain ⟨c, hc, g, l, b, hb, ⟨p1, p2, p3, p4⟩, w⟩ := h3 k hk q hq t z
    exact ⟨c, hc, g, l, b, hb, ⟨p1, p2, p3, by rw [f66 q hq]; exact p4⟩, w⟩
  · rcases h4 k k1 k2 with z | ⟨q, hq, t, z⟩
    · exact Or.inl z
    · exact Or.inr ⟨q, hq, t, by rw [f66 q hq]; exact z⟩
  · rw [f66 q hq]
    exact h5 q hq t
  · rw [f66 q hq, f66 p hp]
    exact h6 q hq p hp t1 t2 l
set_option maxHeartbeats 4000000 in
theorem COR.grp {d : Int32} {B : CS} {b : RS} {t0 : Nat} {L : List CEL} {x x' : Int} {S R : CS} {s u : RS} {c1 c : CEL} {w0 : Int32} (h : COR d B b t0 (c1 :: c :: L) x S s) (tp : TOP S s c1) (bz : BAZ B b (c1 :: c :: L)) (hT : t0 ≤ ceT c1) (h218 : S.o c1.2.1 0 = 218) (ev : ENV d R u) (f : FRB (ceT c1) s u) (a66 : u.a 66 (ceT c1) = s.a 66 (ceT c1))
    (ui : ∀ k : Nat, (k = 2 ∨ k = 3 ∨ k = 8 ∨ k = 20 ∨ k = 29 ∨ k = 33 ∨ k = 38 ∨ k = 43 ∨ k = 56 ∨ k = 59) → u.i k = s.i k) (u24 : (s.i 24).toInt ≤ (u.i 24).toInt) (ub : u.b 9 = s.b 9 ∧ u.b 39 = s.b 39 ∧ u.b 45 = s.b 45) (ua : ∀ k : Nat, (k = 1 ∨ k = 4 ∨ k = 30 ∨ k = 34 ∨ k = 37 ∨ k = 40 ∨ k = 41 ∨ k = 44 ∨ k = 46 ∨ k = 47 ∨ k = 48 ∨ k = 49 ∨ k = 50 ∨ k = 51 ∨ k = 57 ∨ k = 58 ∨ k = 60 ∨ k = 61 ∨ k = 62) → u.a k = s.a k) (u22 : ∀ j : Nat, j ≠ (s.a 66 (ceT c1)).toNatClampNeg → u.a 22 j = s.a 22 j)
    (hw0 : ((s.a 67 (ceT c1)).toInt < 0 ∧ w0 = s.i 24) ∨ (0 ≤ (s.a 67 (ceT c1)).toInt ∧ w0 = s.a 67 (ceT c1))) (ue : ∀ j : Nat, (j : Int) < w0.toInt → u.a 25 j = s.a 25 j ∧ u.a 27 j = s.a 27 j ∧ u.a 28 j = s.a 28 j) (u67 : 0 ≤ (u.a 67 (ceT c1)).toInt → (s.i 24).toInt ≤ (u.a 67 (ceT c1)).toInt)
    (er : R.r = S.r) (eol : R.ol = S.ol) (eo : ∀ a : Nat, a ≠ c1.2.1 → R.o a = S.o a) (ek : ∀ k : Nat, k ≠ 5 → k ≠ 11 → R.o c1.2.1 k = S.o c1.2.1 k) (ei : R.i 38 = S.i 38 ∧ R.i 50 = S.i 50 ∧ R.i 53 = S.i 53 ∧ R.i 54 = S.i 54 ∧ R.i 55 = S.i 55 ∧ R.i 56 = S.i 56) (l22 : (S.i 22).toInt ≤ (R.i 22).toInt) (e18 : ∀ i : Nat, (i : Int) < (S.i 22).toInt → R.a 18 i = S.a 18 i) (e52 : R.a 52 = S.a 52)
    (cs : ∀ M : List Nat, CSM S s (S.o c1.2.1 13).toInt (S.i 22).toInt M → chn s (s.a 22 (s.a 66 (ceT c1)).toNatClampNeg) M → FQL s (ceT c1) M → ∃ M' : List Nat, CSM R u (S.o c1.2.1 13).toInt (R.i 22).toInt M' ∧ chn u (u.a 22 (s.a 66 (ceT c1)).toNatClampNeg) M' ∧ FQL u (ceT c1) M' ∧ ∀ j ∈ M', j ∈ M ∨ (s.i 24).toInt ≤ (j : Int)) (rfr : RFR R u c1.2.1 (ceT c1) (ceG c1) (ceW c1)) (rt : RTE S R) (q : (s.i 11).toInt ≤ (u.i 11).toInt ∧ phI s ≤ phI u ∧ (s.i 17).toInt ≤ (u.i 17).toInt ∧ u.i 19 = s.i 19) : COR d B b t0 (c1 :: c :: L) x' R u ∧ TOP R u c1 := by
  have adr := h.adr
  have hinL := h.inlB tp
  have hb := h.b53 tp bz
  obtain ⟨h1, h2, h3, h4, h5, ⟨h6, h7, h8, h9⟩, ⟨h10, h11, h12, hsg⟩, h13, ⟨h14, h15, h16⟩, h17, ⟨h18, h19, h20, col, h21⟩⟩ := h
  obtain ⟨i38, i50, i53, i54, i55, i56⟩ := ei
  have eko : ∀ k : Nat, k ≠ 5 → k ≠ 11 → ∀ a : Nat, R.o a k = S.o a k := fun k k1 k2 a => by
    by_cases z : a = c1.2.1
    · rw [z]
      exact ek k k1 k2
    · rw [eo a z]
  have e0 := eko 0 (by decide) (by decide)
  have e1 := eko 1 (by decide) (by decide)
  have e3 := eko 3 (by decide) (by decide)
  have e13 := eko 13 (by decide) (by decide)
  have e14 := eko 14 (by decide) (by decide)
  have e15 := eko 15 (by decide) (by decide)
  have eoL : ∀ y ∈ c :: L, R.o y.2.1 = S.o y.2.1 := fun y hy => eo y.2.1 (adr y hy)
  obtain ⟨d1, d2⟩ := DSM.eq (c :: L) eoL
  have ord := STK.ord (c :: L) c1 _ _ _ h2
  have h218R : R.o c1.2.1 0 = 218 := (e0 _).trans h218
  have nty : ¬ isTy (S.o c1.2.1 0) := by
    rw [h218]
    unfold isTy
    decide
  have ntyR : ¬ isTy (R.o c1.2.1 0) := by rw [e0]; exact nty
  have h2' := h2
  obtain ⟨m', e', k', c1s, lkl, stl⟩ := h2'
  obtain ⟨lk, lw⟩ := lkl c rfl
  obtain ⟨s1, s2', s3, s4, s5, s6, s7⟩ := c1s
  obtain ⟨em, ee, a66b, M, y1, y2, y3, y4⟩ := s5 h218
  have ekk := s6 nty
  rw [em] at y1
  obtain ⟨c51, c52, c53⟩ := h21.2.2.2.2.1 c1 List.mem_cons_self h218
  have cp0 := clampI a66b.1
  obtain ⟨p0, hp0⟩ : ∃ p, p = (s.a 66 (ceT c1)).toNatClampNeg := ⟨_, rfl⟩
  rw [← hp0] at cp0 u22 y2
  have f66 : ∀ y ∈ c1 :: c :: L, u.a 66 (ceT y) = s.a 66 (ceT y) := fun y hy => by
    rcases List.mem_cons.mp hy with z | hy2
    · rw [z]
      exact a66
    · have a := (hinL y hy2).2.2.1
      have w := wid1 (S.o y.2.1 0)
      exact (f (ceT y) (by omega)).2.2.1
  have nf : ∀ y ∈ c :: L, S.o y.2.1 0 = 218 → ¬ (s.a 66 (ceT y)).toNatClampNeg = p0 := fun y hy t z => by
    have l := h21.2.2.2.2.2.1 y (List.mem_cons_of_mem _ hy) c1 List.mem_cons_self t h218 (ord y hy)
    have g := (h21.2.2.2.2.1 y (List.mem_cons_of_mem _ hy) t).1
    have cy := clampI (k := s.a 66 (ceT y)) (by omega)
    rw [z] at cy
    omega
  obtain ⟨ta1, ta2, ta3, p0', p1', p2', p3', p4', p5', p6', p7', p8', p9', p10'⟩ := id h7
  have ew : e' ≤ w0.toInt ∧ w0.toInt ≤ (s.i 24).toInt ∧ (b.i 24).toInt ≤ w0.toInt := by
    rcases hw0 with ⟨z1, z2⟩ | ⟨z1, z2⟩
    · rw [z2]
      exact ⟨ee, Int.le_refl _, p9'⟩
    · rw [z2]
      rcases lst_end M with w | ⟨L0, l, w⟩
      · have := y3.1 w
        omega
      · have a := y3.2 L0 l w
        have bb := y4 l (by rw [w]; exact List.mem_append_right _ List.mem_cons_self)
        have cc := (h13.2.2.2.2 c1 List.mem_cons_self).2 h218 z1
        omega
  -- s, but what its own entries change
  obtain ⟨s2, hs2⟩ : ∃ y, y = RS.setI (RS.setA s 22 p0 (u.a 22 p0)) 24 w0 := ⟨_, rfl⟩
  have st2 : STK S s2 (c :: L) m' e' k' := by
    rw [hs2]
    exact STK.lo24 (c :: L) _ _ _ (STK.e22 (E22.set (F := fun k => k = p0) (s := s) (v := u.a 22 p0) rfl) (c :: L) _ _ _ nf stl) ew.1
  have s2i : ∀ k : Nat, k ≠ 24 → s2.i k = s.i k := fun k hk => by
    rw [hs2]
    exact if_neg hk
  have s224 : s2.i 24 = w0 := by rw [hs2]; rfl
  have s2a : ∀ k : Nat, k ≠ 22 → s2.a k = s.a k := fun k hk => by
    rw [hs2, rsI_a]
    exact setA_nk hk
  have s222 : ∀ j : Nat, u.a 22 j = s2.a 22 j := fun j => by
    rw [hs2, rsI_a]
    by_cases z : j = p0
    · rw [z]
      exact setA_at.symm
    · rw [setA_ne z]
      exact u22 j z
  have s2b : s2.b = s.b := by rw [hs2]; rfl
  clear hs2
  have f2 : FRB (ceT c1) s2 u := fun j hj => by
    obtain ⟨g0, g1, g2, g3, g4, g5, g6, g7, g8, g9, gb⟩ := f j hj
    exact ⟨by rw [s2a 64 (by decide)]; exact g0, by rw [s2a 65 (by decide)]; exact g1, by rw [s2a 66 (by decide)]; exact g2, by rw [s2a 67 (by decide)]; exact g3, by rw [s2a 68 (by decide)]; exact g4, by rw [s2a 69 (by decide)]; exact g5, by rw [s2a 70 (by decide)]; exact g6, by rw [s2a 71 (by decide)]; exact g7, by rw [s2a 72 (by decide)]; exact g8, by rw [s2a 73 (by decide)]; exact g9, by rw [s2b]; exact gb⟩
  have tb2 : TBR s2 u := by
    unfold TBR
    rw [s224, s2b, s2i 38 (by decide), s2i 43 (by decide), s2i 56 (by decide), s2i 59 (by decide), s2i 29 (by decide), s2i 33 (by decide), ui 59 (by decide), ui 29 (by decide), ui 33 (by decide), ub.2.1, ub.2.2, ua 40 (by decide), ua 41 (by decide), ua 44 (by decide), ua 46 (by decide), ua 47 (by decide), ua 50 (by decide), ua 51 (by decide), ua 48 (by decide), ua 49 (by decide), ua 57 (by decide), ua 58 (by decide), ua 60 (by decide), ua 61 (by decide), ua 62 (by decide), ua 30 (by decide), ua 34 (by decide), ua 37 (by decide), s2a 40 (by decide), s2a 41 (by decide), s2a 44 (by decide), s2a 46 (by decide), s2a 47 (by decide), s2a 50 (by decide), s2a 51 (by decide), s2a 48 (by decide), s2a 49 (by decide), s2a 57 (by decide), s2a 58 (by decide), s2a 60 (by decide), s2a 61 (by decide), s2a 62 (by decide), s2a 30 (by decide), s2a 34 (by decide), s2a 37 (by decide), s2a 25 (by decide), s2a 27 (by decide), s2a 28 (by decide)]
    exact ⟨fun _ _ => ⟨rfl, rfl, rfl⟩, fun _ _ => ⟨rfl, rfl, rfl, rfl, rfl, rfl, rfl, rfl⟩, fun _ _ => ⟨rfl, rfl⟩, ⟨Int.le_refl _, fun j k1 k2 => by omega⟩, fun _ _ => ⟨rfl, rfl, rfl⟩, Int.le_refl _, fun _ _ => rfl, Int.le_refl _, fun _ _ => ⟨rfl, rfl⟩, by omega, ue⟩
  have cd2 : CDK (s2.i 20).toInt s2 u := ⟨by rw [s2i 20 (by decide), ui 20 (by decide)]; exact Int.le_refl _, fun j _ => s222 j⟩
  -- the rows below
  obtain ⟨W, hW⟩ : ∃ W, W = CS.setO (CS.setO S c1.2.1 5 (R.o c1.2.1 5)) c1.2.1 11 (R.o c1.2.1 11) := ⟨_, rfl⟩
  have Wi : W.i = S.i := by rw [hW]; rfl
  have Wa : W.a = S.a := by rw [hW]; rfl
  have Wr : W.r = S.r ∧ W.ol = S.ol := by rw [hW]; exact ⟨rfl, rfl⟩
  have Wo : ∀ a : Nat, W.o a = R.o a := fun a => by
    by_cases z : a = c1.2.1
    · rw [z]
      funext k
      by_cases z1 : k = 11
      · rw [z1, hW, so_at]
      · by_cases z2 : k = 5
        · rw [z2, hW, so_nk (by decide), so_at]
        · rw [hW, so_nk z1, so_nk z2]
          exact (ek k z2 z1).symm
    · rw [hW, so_ne z, so_ne z]
      exact (eo a z).symm
  clear hW
  have st3 : STK W s2 (c :: L) m' e' k' := STK.eo (S := S) (R := W) Wr.1 (by rw [Wa]) (c :: L) _ _ _ (fun y hy => ⟨by rw [Wo, eoL y hy], by rw [Wr.2]⟩) st2
  have hin3 : INL W s2 (ceT c1) (c :: L) := fun y hy => by
    obtain ⟨z1, z2, z3, z4, z5⟩ := hinL y hy
    rw [Wi, Wr.1, Wo, eoL y hy, s2i 43 (by decide), s2i 56 (by decide)]
    exact ⟨z1, z2, z3, z4, z5⟩
  have ckz : CKZ W (CS.setI R 22 (S.i 22)) := by
    refine ⟨by rw [ci_at, Wi], fun k _ => by show R.r 51 k = _; rw [er, Wr.1], fun k a _ _ => ⟨(Wo a).symm, by show R.ol a = _; rw [eol, Wr.2]⟩, fun k hk => by rw [Wi] at hk; rw [Wa]; exact e18 k hk, by rw [ci_ne _ _ _ (by decide), i54, Wi]; exact Int.le_refl _, by rw [ci_ne _ _ _ (by decide), i55, Wi]; exact Int.le_refl _, fun k _ => by show R.a 52 k = _; rw [e52, Wa], fun k k1 k2 => ?_⟩
    rw [ci_ne _ _ _ (by decide), i55] at k2
    rw [Wi] at k1
    omega
  have m22 : m' ≤ (W.i 22).toInt := by
    rw [em, Wi]
    exact y1.2.1.1
  have st4 := STK.mv ckz f2 tb2 cd2 (c :: L) _ _ _ st3 hin3 m22 (by rw [s224]; exact ew.1) (by rw [s2i 33 (by decide), ekk]; exact Int.le_refl _)
  have st5 : STK R u (c :: L) m' e' k' := STK.eo (S := CS.setI R 22 (S.i 22)) (R := R) rfl rfl (c :: L) _ _ _ (fun _ _ => ⟨rfl, rfl⟩) st4
  have cst : CST R u c1 (R.i 22).toInt (u.i 24).toInt (u.i 33).toInt m' e' k' := by
    obtain ⟨M', v1, v2, v3, v4⟩ := cs M y1 (by rw [← hp0]; exact y2) y3
    have l' := chn.lt M' _ v2
    refine ⟨by rw [er]; exact s1, s2', rfr, fun z => absurd h218R z, fun _ => ⟨by rw [e13]; exact em, by omega, by rw [a66, ui 20 (by decide)]; exact a66b, M', by rw [em]; exact v1, by rw [a66]; exact v2, v3, fun j hj => ?_⟩, fun _ => by rw [ui 33 (by decide)]; exact ekk, fun z => absurd z ntyR⟩
    have lj := l' j hj
    rcases v4 j hj with z | z
    · exact ⟨(y4 j z).1, lj⟩
    · exact ⟨by omega, lj⟩
  have lkR : LNK R c1 c := by
    unfold LNK at *
    rw [ek 0 (by decide) (by decide), ek 1 (by decide) (by decide), ek 3 (by decide) (by decide), ek 14 (by decide) (by decide), eoL c List.mem_cons_self]
    exact lk
  have lwR : LOW R u c := lw.mv (eoL c List.mem_cons_self) f (by rw [lk.2.1]; exact Nat.le_refl _)
  have jq : JMQ R u (c1 :: c :: L) (b.i 59).toInt (b.i 29).toInt := h3.eqv e0 e1 e14 e15 i54 i55 e52 (ua 50 (by decide)) (ua 51 (by decide)) (ua 60 (by decide)) (ua 61 (by decide)) (ua 62 (by decide)) (ui 59 (by decide)) f66
  have pd : PDM R (c1 :: c :: L) = PDM S (c1 :: c :: L) := by
    have z1 : PDM R (c1 :: c :: L) = dbt (R.o c1.2.1 0) + PDM R (c :: L) := rfl
    have z2 : PDM S (c1 :: c :: L) = dbt (S.o c1.2.1 0) + PDM S (c :: L) := rfl
    rw [z1, z2, e0, d2]
  have ds : DSM R (c1 :: c :: L) = DSM S (c1 :: c :: L) := by
    have z1 : DSM R (c1 :: c :: L) = (nDp (R.o c1.2.1 0) : Int) + DSM R (c :: L) := rfl
    have z2 : DSM S (c1 :: c :: L) = (nDp (S.o c1.2.1 0) : Int) + DSM S (c :: L) := rfl
    rw [z1, z2, e0, d1]
  have k11 := h1.1.2.2.2.1.1
  have k11' := ev.1.2.2.2.1.1
  have rt' := rt
  unfold RTE at rt'
  rw [k11, k11'] at rt'
  have tbbU : TBB b u := by
    have z : TBB b s2 := ⟨by rw [s2i 38 (by decide)]; exact ta1, by rw [s2i 43 (by decide)]; exact ta2, by rw [s2i 56 (by decide)]; exact ta3, fun j hj => by rw [s2b, s2a 40 (by decide), s2a 41 (by decide)]; exact p0' j hj, fun j hj => by rw [s2b, s2a 44 (by decide), s2a 46 (by decide), s2a 47 (by decide), s2a 50 (by decide), s2a 51 (by decide), s2a 48 (by decide), s2a 49 (by decide)]; exact p1' j hj, fun j hj => by rw [s2a 57 (by decide), s2a 58 (by decide)]; exact p2' j hj, by rw [s2i 59 (by decide)]; exact p3', fun j hj => by rw [s2a 60 (by decide), s2a 61 (by decide), s2a 62 (by decide)]; exact p4' j hj, by rw [s2i 29 (by decide)]; exact p5', fun j hj => by rw [s2a 30 (by decide)]; exact p6' j hj, by rw [s2i 33 (by decide)]; exact p7', fun j hj => by rw [s2a 34 (by decide), s2a 37 (by decide)]; exact p8' j hj, by rw [s224]; exact ew.2.2, fun j hj => by rw [s2a 25 (by decide), s2a 27 (by decide), s2a 28 (by decide)]; exact p10' j hj⟩
    exact z.mv tb2 (by rw [ui 38 (by decide)]; exact ta1) (by rw [ui 43 (by decide)]; exact ta2) (by rw [ui 56 (by decide)]; exact ta3)
  have b22 : (B.i 22).toInt ≤ (S.i 22).toInt := h5.2.2.2.1
  refine ⟨⟨ev, st5.push cst lkR lwR, jq, ?_, ?_, ⟨h6.tr (f.mo hT), tbbU, ⟨by rw [ui 20 (by decide)]; exact h8.1, fun j hj => ?_⟩, ⟨(ui 2 (by decide)).trans h9.1, (ui 3 (by decide)).trans h9.2.1, (ui 8 (by decide)).trans h9.2.2.1, (ua 1 (by decide)).trans h9.2.2.2.1, (ua 4 (by decide)).trans h9.2.2.2.2.1, ub.1.trans h9.2.2.2.2.2⟩⟩, ⟨by omega, by rw [pd]; omega, by omega, by rw [q.2.2.2, SSM.eq (c1 :: c :: L) (fun y _ => e0 y.2.1)]; exact hsg⟩, ⟨by rw [i38, ds]; exact h13.1, fun y hy => by rw [e3, i50]; exact h13.2.1 y hy, fun y hy z hz l => by rw [e3, e3]; exact h13.2.2.1 y hy z hz l, ?_, fun y hy => ⟨fun t z => ?_, fun t z => ?_⟩⟩, ⟨by omega, by rw [ui 38 (by decide)]; omega, by omega⟩, ?_, h18, h19, h20, col, ?_⟩, by rw [i53]; exact tp.1, by rw [ui 43 (by decide), e0]; exact tp.2.1, by rw [ui 56 (by decide), e0]; exact tp.2.2⟩
  · have n303 : ¬ S.o c1.2.1 0 = 303 := by
      rw [h218]
      decide
    have nl : ¬ (S.o c1.2.1 0 = 205 ∨ S.o c1.2.1 0 = 206 ∨ S.o c1.2.1 0 = 207 ∨ S.o c1.2.1 0 = 304) := by
      rw [h218]
      decide
    unfold LBC at h4 ⊢
    rw [if_neg n303, if_neg nl] at h4
    rw [e0, if_neg n303, if_neg nl]
    exact LBC.mv (c :: L) _ h4 eoL (fun y hy w => by rw [ua 46 (by decide)])
  · obtain ⟨b1, b2, b3, b4, b5, b6, b7, b8, b9, b10, b11⟩ := h5
    refine ⟨fun k hk => by rw [er]; exact b1 k hk, fun k a hk ha => ?_, by rw [i53]; exact b3, by omega, fun k hk => (e18 k (by omega)).trans (b5 k hk), by rw [i54]; exact b6, by rw [i55]; exact b7, fun k hk => by rw [e52]; exact b8 k hk, fun k q1 q2 => by rw [e52]; rw [i55] at q2; exact b9 k q1 q2, ?_, i56.trans b11⟩
    · have z := b2 k a hk ha
      have e := eo a (fun w => by
        rw [w] at ha
        have := h1.ri.2.1 k c1.1 c1.2.1 (by have := s2'; omega) s2' ((b1 k hk).trans ha) s1
        omega)
      exact ⟨e.trans z.1, by rw [eol]; exact z.2⟩
    · unfold RTE at *
      omega
  · rw [u22 j (by omega)]
    exact h8.2 j hj
  · have z := h13.2.2.2.1
    have w1 : cfl S (c1 :: c :: L) (S.i 22).toInt = cfl S (c :: L) (if S.o c1.2.1 0 = 218 then (S.o c1.2.1 13).toInt else (S.i 22).toInt) := rfl
    have w2 : cfl R (c1 :: c :: L) (R.i 22).toInt = cfl R (c :: L) (if R.o c1.2.1 0 = 218 then (R.o c1.2.1 13).toInt else (R.i 22).toInt) := rfl
    rw [w1, if_pos h218] at z
    rw [w2, if_pos h218R, cfl.eq (c :: L) _ eoL, e13]
    exact z
  · rw [e0] at t
    rcases List.mem_cons.mp hy with w | hy2
    · rw [w] at t
      exact absurd t nty
    · rw [(FRB72 hinL f y hy2).1] at z ⊢
      exact (h13.2.2.2.2 y hy).1 t z
  · rw [e0] at t
    rcases List.mem_cons.mp hy with w | hy2
    · rw [w] at z ⊢
      have := u67 z
      omega
    · rw [(FRB72 hinL f y hy2).2] at z ⊢
      exact (h13.2.2.2.2 y hy).2 t z
  · unfold IAR at *
    rw [i56, i53, er, ui 43 (by decide), ua 44 (by decide)]
    exact h17
  · obtain ⟨g1, g2, g3, g4, g5, g6, g7⟩ := h21
    refine ⟨fun k x e => by rw [ui 20 (by decide)]; exact g1 k x e, fun k x e => ?_, fun y hy t => ?_, fun k g e w => ?_, fun y hy t => ?_, fun y hy z hz t1 t2 l => ?_, fun y hy k p => ?_⟩
    · have ne : k ≠ p0 := fun z => by
        have e3 : (s.a 66 (ceT c1)).toInt.toNat = k := by omega
        rw [e3] at c53
        rw [c53] at e
        cases e
      rw [u22 k ne]
      exact g2 k x e
    · rw [e0] at t
      rw [ua 48 (by decide), ua 49 (by decide)]
      exact g3 y hy t
    · obtain ⟨y, hy, w1, w2⟩ := g4 k g e w
      exact ⟨y, hy, by rw [e0]; exact w1, w2⟩
    · rw [e0] at t
      rw [f66 y hy, ui 20 (by decide)]
      exact g5 y hy t
    · rw [e0] at t1 t2
      rw [f66 y hy, f66 z hz]
      exact g6 y hy z hz t1 t2 l
    · have p' : PLF S s y k := by
        rcases List.mem_cons.mp hy with w | hy2
        · exfalso
          rw [w] at p
          unfold PLF at p
          rw [h218R] at p
          rcases p with ⟨z | z, -⟩ | ⟨z, -⟩ | ⟨z | z, -⟩ <;> exact absurd z (by decide)
        · have a := (hinL y hy2).2.2.1
          have w := wid1 (S.o y.2.1 0)
          have fy := f (ceT y) (by omega)
          unfold PLF at *
          rw [e0, fy.2.2.1, fy.2.2.2.1, fy.2.2.2.2.1] at p
          exact p
      obtain ⟨z1, z2, z3, z4⟩ := g7 y hy k p'
      exact ⟨z1, by rw [ui 20 (by decide)]; exact z2, z3, fun w hw t => by rw [e0] at t; rw [f66 w hw]; exact z4 w hw t⟩
