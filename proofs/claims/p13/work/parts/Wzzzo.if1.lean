/-! both readers: an if's end, with else -/
theorem kd_all {S R : CS} (h : pj2 R = pj2 S) : (R.r = S.r ∧ R.o = S.o ∧ R.ol = S.ol ∧ (R.hs = S.hs ∧ R.L = S.L ∧ R.k = S.k)) ∧ (R.a 18 = S.a 18 ∧ R.a 52 = S.a 52) ∧ (R.i 21 = S.i 21 ∧ R.i 22 = S.i 22 ∧ R.i 34 = S.i 34 ∧ R.i 36 = S.i 36 ∧ R.i 38 = S.i 38) ∧ (R.i 43 = S.i 43 ∧ R.i 44 = S.i 44 ∧ R.i 50 = S.i 50 ∧ R.i 53 = S.i 53 ∧ R.i 54 = S.i 54 ∧ R.i 55 = S.i 55 ∧ R.i 56 = S.i 56) := by
  obtain ⟨ep, e32, e33, e34, e22, e41, e42, e43, e44, e45, el, e18⟩ := pj2_eq h
  obtain ⟨-, -, -, -, -, -, -, -, -, -, i36, -, i38, i50, i53, i54, i55, i56, -, -, -, -, a52, er, eo, eol, -, i21, ehk⟩ := pj_eq ep
  exact ⟨⟨er, eo, eol, ehk⟩, ⟨e18.1, a52⟩, ⟨i21, e22, e34, i36, i38⟩, ⟨e43, e44, i50, i53, i54, i55, i56⟩⟩
theorem COL.eo {S R : CS} {s : RS} {L : List CEL} {col : Nat → Option (Nat × Bool)} {b20 : Int} (h : COL S s L col b20) (eo : ∀ y ∈ L, R.o y.2.1 = S.o y.2.1) : COL R s L col b20 := by
  obtain ⟨h1, h2, h3, h4, h5, h6, h7⟩ := h
  refine ⟨h1, h2, fun c hc q => h3 c hc (by rw [← eo c hc]; exact q), fun k g e q => ?_, fun c hc q => h5 c hc (by rw [← eo c hc]; exact q), fun c hc q hq t1 t2 => h6 c hc q hq (by rw [← eo c hc]; exact t1) (by rw [← eo q hq]; exact t2), fun c hc k p => ?_⟩
  · obtain ⟨c, hc, g1, g2⟩ := h4 k g e q
    exact ⟨c, hc, by rw [eo c hc]; exact g1, g2⟩
  · have p' : PLF S s c k := by
      unfold PLF at *
      rw [eo c hc] at p
      exact p
    obtain ⟨z1, z2, z3, z4⟩ := h7 c hc k p'
    exact ⟨z1, z2, z3, fun q hq t => z4 q hq (by rw [← eo q hq]; exact t)⟩
/-- rows below have cells of their own -/
theorem COR.adr {d : Int32} {B : CS} {b : RS} {t0 : Nat} {L : List CEL} {x : Int} {S : CS} {s : RS} {c1 : CEL} (h : COR d B b t0 (c1 :: L) x S s) : ∀ y ∈ L, y.2.1 ≠ c1.2.1 := fun y hy z => by
  have ord := STK.ord L c1 _ _ _ h.2.1
  obtain ⟨m1, e1', k1, m2, e2, k2, cy⟩ := STK.mem _ _ _ _ h.2.1 y (List.mem_cons_of_mem _ hy)
  obtain ⟨m3, e3, k3, m4, e4, k4, cz⟩ := STK.mem _ _ _ _ h.2.1 c1 List.mem_cons_self
  have := h.1.ri.2.1 y.1 c1.1 c1.2.1 cy.2.1 cz.2.1 (by rw [← z]; exact cy.1) cz.1
  have := ord y hy
  omega
theorem COR.inlB {d : Int32} {B : CS} {b : RS} {t0 : Nat} {L : List CEL} {x : Int} {S : CS} {s : RS} {c1 c : CEL} (h : COR d B b t0 (c1 :: c :: L) x S s) (tp : TOP S s c1) : INL S s (ceT c1) (c :: L) := by
  obtain ⟨m', e', k', -, h2, h3⟩ := h.2.1
  obtain ⟨lk, -⟩ := h2 c rfl
  have z := STK.inl L c _ _ _ h3 (by have := tp.1; have := lk.1; omega) (by have := tp.2.1; have := lk.2.2.1; omega) (by have := tp.2.2; have := lk.2.2.2.1; omega)
  rw [← lk.2.1] at z
  exact z
theorem COR.b53 {d : Int32} {B : CS} {b : RS} {t0 : Nat} {L : List CEL} {x : Int} {S : CS} {s : RS} {c1 c : CEL} (h : COR d B b t0 (c1 :: c :: L) x S s) (tp : TOP S s c1) (bz : BAZ B b (c1 :: c :: L)) : (B.i 53).toInt ≤ (c1.1 : Int) := by
  obtain ⟨m', e', k', -, h2, h3⟩ := h.2.1
  obtain ⟨lk, -⟩ := h2 c rfl
  have n1 := lk.1
  have t1 := tp.1
  obtain ⟨-, -, -, r4, -⟩ := BAZ.all h.2.2.2.2.1 L c _ _ _ bz h3 (by omega)
  omega
/-- an instruction is laid also where a second word before it is other -/
theorem em_sit {N : Nat} {σ : RS} {o x v : Int32} {st : Nat} {em : Int32 × RS} (h : f_X12_emit N σ o x = some em) (h20 : 0 ≤ (σ.i 20).toInt ∧ (σ.i 20).toInt < 3000) (hst : (st : Int) < (σ.i 20).toInt) : ∃ z : Int32 × RS, f_X12_emit N (RS.setA σ 22 st v) o x = some z ∧ z.1 = em.1 ∧ z.2.i = em.2.i ∧ z.2.a = (RS.setA em.2 22 st v).a := by
  have e3 : (3000 : Int32).toInt = 3000 := by decide
  have nle : ¬ (3000 : Int32) ≤ σ.i 20 := fun z => by
    have := le_int z
    omega
  have e20 : (RS.setA σ 22 st v).i 20 = σ.i 20 := rfl
  obtain ⟨p, hp⟩ : ∃ p : Nat, p = (σ.i 20).toNatClampNeg := ⟨_, rfl⟩
  have pI : (p : Int) = (σ.i 20).toInt := by rw [hp]; exact Int.toNat_of_nonneg h20.1
  unfold f_X12_emit f_X12_emit_21 at h ⊢
  rw [if_neg nle] at h
  rw [e20, if_neg nle]
  obtain ⟨hi, h⟩ := hf_ite h
  rw [if_pos hi]
  rw [← hp] at h ⊢
  refine ⟨_, rfl, ?_⟩
  rw [← Option.some.inj h]
  refine ⟨rfl, rfl, ?_⟩
  funext k
  funext j
  show (RS.setA (RS.setA (RS.setA (RS.setA σ 22 st v) 21 p o) 22 p x) 23 p 0).a k j = (RS.setA (RS.setI (RS.setA (RS.setA (RS.setA σ 21 p o) 22 p x) 23 p 0) 20 (σ.i 20 + 1)) 22 st v).a k j
  by_cases k2 : k = 22
  · subst k2
    have l1 : (RS.setA (RS.setA (RS.setA (RS.setA σ 22 st v) 21 p o) 22 p x) 23 p 0).a 22 j = (RS.setA (RS.setA (RS.setA σ 22 st v) 21 p o) 22 p x).a 22 j := by rw [setA_nk (show (22 : Nat) ≠ 23 by decide)]
    rw [l1]
    by_cases hj : j = st
    · rw [hj]
      refine Eq.trans ?_ setA_at.symm
      refine (setA_ne (by omega)).trans ?_
      rw [setA_nk (show (22 : Nat) ≠ 21 by decide)]
      exact setA_at
    · refine Eq.trans ?_ (setA_ne hj).symm
      show _ = (RS.setA (RS.setA (RS.setA σ 21 p o) 22 p x) 23 p 0).a 22 j
      rw [setA_nk (show (22 : Nat) ≠ 23 by decide)]
      by_cases hp' : j = p
      · rw [hp']
        exact setA_at.trans setA_at.symm
      · refine (setA_ne hp').trans ((?_ : _ = σ.a 22 j).trans (Eq.symm ((setA_ne hp').trans ?_)))
        · rw [setA_nk (show (22 : Nat) ≠ 21 by decide)]
          exact setA_ne hj
        · rw [setA_nk (show (22 : Nat) ≠ 21 by decide)]
  · have r1 : (RS.setA (RS.setI (RS.setA (RS.setA (RS.setA σ 21 p o) 22 p x) 23 p 0) 20 (σ.i 20 + 1)) 22 st v).a k = (RS.setA (RS.setA (RS.setA σ 21 p o) 22 p x) 23 p 0).a k := setA_nk k2
    rw [r1]
    by_cases k3 : k = 23
    · subst k3
      by_cases hj : j = p
      · rw [hj]
        exact setA_at.trans setA_at.symm
      · refine (setA_ne hj).trans (Eq.symm ((setA_ne hj).trans ?_))
        rw [setA_nk (show (23 : Nat) ≠ 22 by decide), setA_nk (show (23 : Nat) ≠ 21 by decide), setA_nk (show (23 : Nat) ≠ 22 by decide), setA_nk (show (23 : Nat) ≠ 21 by decide), setA_nk (show (23 : Nat) ≠ 22 by decide)]
    · rw [setA_nk k3, setA_nk k3, setA_nk k2, setA_nk k2]
      by_cases k1 : k = 21
      · subst k1
        by_cases hj : j = p
        · rw [hj]
          exact setA_at.trans setA_at.symm
        · refine (setA_ne hj).trans (Eq.symm ((setA_ne hj).trans ?_))
          rw [setA_nk (show (21 : Nat) ≠ 22 by decide)]
      · rw [setA_nk k1, setA_nk k1, setA_nk k2]
set_option maxHeartbeats 4000000 in
theorem en_if1 {N : Nat} (hN : 1000 ≤ N) {E1 : CS → Option (Unit × CS)} {E2 : CS → Option (Int32 × CS)} {d : Int32} {B : CS} {b : RS} {t0 n : Nat} {L : List CEL} {x : Int} {S : CS} {s U : RS} {c1 c : CEL} {R : Unit × CS} {Aj : JBA} (mA : JBM U Aj) (hC : COR d B b t0 (c1 :: c :: L) x S s) (tp : TOP S s c1) (hM : MEN c1 S s) (h36 : S.i 36 = 0 ∨ S.i 36 = 1) (h203 : S.o c1.2.1 0 = 203) (k204 : S.i 43 = 204) (bz : BAZ B b (c1 :: c :: L)) (hT : t0 ≤ ceT c1) (e : f_X7_endBody N E1 E2 S c1.2.1 = some R) (g : f_X12_parse_10 N n s = some U) : DMD d B R.2 U ∨ ∃ (m : Nat) (u : RS), f_X12_parse_10 N m u = some U ∧ NEW d B b t0 c L R.2 u (JTR Aj U B b (c1 :: c :: L) S s) := by
  obtain ⟨one, o5, ts, h75, hm⟩ := hM
  obtain ⟨m1, e1, k1, m2, e2, k2, cst⟩ := STK.mem _ _ _ _ hC.2.1 c1 List.mem_cons_self
  obtain ⟨f1, f2⟩ := cst.2.2.1.2.2.2.2.1 h203
  have hvS := hC.1
  have ngo : ¬ isGo (S.o c1.2.1 0) := by
    rw [h203]
    unfold isGo
    decide
  have k10 := (tk_is hvS (a := 204) (b := 414) (Or.inr ⟨by decide, by decide⟩) (by decide)).mp k204
  obtain ⟨T, hTc⟩ : ∃ T : Nat, T = ceT c1 := ⟨_, rfl⟩
  rw [← hTc] at ts f1 f2 hT
  -- the reference
  obtain ⟨m2, V, hV, g2⟩ := rl_9 g ts hvS.1.2.1 f1
  unfold f_X12_branch at hV
  obtain ⟨hib, hV⟩ := hf_ite hV
  rw [tp_nat ts, f2, if_neg (by decide), if_neg (by decide), if_pos rfl, if_pos k10] at hV
  obtain ⟨q, hq, hV⟩ := hf_bind hV
  -- the class
  unfold f_X7_endBody at e
  obtain ⟨-, e⟩ := hf_ite e
  rw [if_pos h203] at e
  have e3 := ob_un e
  unfold f_X7_endIf at e3
  obtain ⟨p1, ep1, e3⟩ := hf_bind e3
  unfold f_X1_skip at ep1
  obtain ⟨fd, efd, ep1⟩ := hf_bind ep1
  rw [e_fnd1 k204] at efd
  rw [← Option.some.inj efd, if_neg n10] at ep1
  obtain ⟨A, eA, ep1⟩ := hf_bind ep1
  unfold f_X1_skip_17 at ep1
  obtain ⟨-, ep1⟩ := hf_ite ep1
  rw [← Option.some.inj ep1, if_neg n10] at e3
  obtain ⟨-, e3⟩ := hf_ite e3
  obtain ⟨-, e3⟩ := hf_ite e3
  obtain ⟨p8, e8, e3⟩ := hf_bind e3
  obtain ⟨-, e3⟩ := hf_ite e3
  obtain ⟨p13, e13, e3⟩ := hf_bind e3
  obtain ⟨-, e3⟩ := hf_ite e3
  obtain ⟨p18, e18, e3⟩ := hf_bind e3
  rw [← Option.some.inj e3]
  clear e3 e ep1 efd
  -- one token on
  obtain ⟨evA, a2, a3, a4, a5, a6, a7, a8, a9, a10⟩ := hvS.adv hN (by rw [k204]; decide) eA hq
  have ck := CKX.of a3 a8 a9
  have tk := TBK.of a2 (by rw [a6]; exact Int.le_refl _) (fun j _ => by rw [a7])
  have q17 : (q.i 17).toInt = (s.i 17).toInt + 1 := by rw [a4, t17_up (N := N) hvS]
  have phq : phI q = phI s + 3 := by
    unfold phI
    rw [a6, q17]
    omega
  obtain ⟨-, -, -, -, -, -, -, -, -, -, -, -, j38, j50, j53, j54, j55, j56, -, -, -, -, a52, erA, eoA, eolA, -, -, -⟩ := pj_eq a3
  have eo1 : A.2.o c1.2.1 = S.o c1.2.1 := by rw [eoA]
  obtain ⟨t1, t2, t3, t4, t5, t6, t7, t8, t9, t10⟩ := tk.1.1
  have nn := hC.2.2.2.2.2.2.2.2.1
  have tpA : TOP A.2 q c1 := tp.mv eo1 ck.1.2.2.2.2.1 t5 t7
  have tq : tpI q = (T : Int) := qj_63 a2 ts
  have frq : FRB (T + 1) s q := FRB.of a2
  have q64 : q.a 64 T = 9 := (frq.all 64 (by decide) (by decide)).trans f1
  have q66 : q.a 66 T = s.a 66 T := frq.all 66 (by decide) (by decide)
  have q75 : q.i 75 = S.i 36 := by
    rw [(qj_eq a2).2.2.2.2.2.2.2.2.2.2.2.2.2.2.2.2.2.1]
    exact h75
  have A36 : A.2.i 36 = S.i 36 := ck.1.2.1
  have h203A : A.2.o c1.2.1 0 = 203 := by rw [eo1]; exact h203
  have cstA : A.2.r 51 c1.1 = some c1.2.1 := by
    rw [ck.2.1 c1.1 (by have := tp.1; omega)]
    exact cst.1
  -- the row's sort
  have cn : cnI A.2 = (c1.1 : Int) + 1 := tpA.1
  obtain ⟨mm, hmm, m380⟩ := RWI.few evA
  obtain ⟨W, hW⟩ : ∃ W, W = CS.setO (CS.setO (CS.setO A.2 c1.2.1 0 204) c1.2.1 5 0) c1.2.1 6 (A.2.i 36) := ⟨_, rfl⟩
  have Wi : W.i = A.2.i := by rw [hW]; rfl
  have Wa : W.a = A.2.a := by rw [hW]; rfl
  have Wr : W.r = A.2.r ∧ W.ol = A.2.ol ∧ W.b = A.2.b ∧ W.l = A.2.l ∧ (W.hs = A.2.hs ∧ W.L = A.2.L ∧ W.k = A.2.k) := by
    rw [hW]
    exact ⟨rfl, rfl, rfl, rfl, rfl, rfl, rfl⟩
  have Wo : ∀ a : Nat, a ≠ c1.2.1 → W.o a = A.2.o a := fun a ha => by
    rw [hW, so_ne ha, so_ne ha, so_ne ha]
  have Wk : ∀ k : Nat, k ≠ 0 → k ≠ 5 → k ≠ 6 → W.o c1.2.1 k = A.2.o c1.2.1 k := fun k h0 h1 h2 => by
    rw [hW, so_nk h2, so_nk h1, so_nk h0]
  have W0 : W.o c1.2.1 0 = 204 := by rw [hW, so_nk (by decide), so_nk (by decide), so_at]
  have W5 : W.o c1.2.1 5 = 0 := by rw [hW, so_nk (by decide), so_at]
  have W6 : W.o c1.2.1 6 = S.i 36 := by rw [hW, so_at, A36]
  have e8' : f_X0_newTarget N W = some p8 := by rw [hW]; exact e8
  clear hW e8
  have rwW : RWI W := by
    refine evA.ri.srt (n := c1.1) (a := c1.2.1) (by omega) cn cstA Wr.1 Wo Wr.2.1 (by rw [Wi]) Wr.2.2.2.2 ⟨by rw [h203A]; decide, by rw [h203A]; decide, by rw [h203A]; decide, by rw [h203A]; decide⟩ ⟨by rw [W0]; decide, by rw [W0]; decide, by rw [W0]; decide, by rw [W0]; decide⟩ ?_ ?_
    · have z := evA.ri.2.2.2.2.2.2
      have tn : (cnI A.2).toNat = c1.1 + 1 := by omega
      rw [tn] at z
      have e2 : SGS A.2 (c1.1 + 1) = SGS A.2 c1.1 + sgn A.2 (rowA A.2 c1.1) := rfl
      have ra : rowA A.2 c1.1 = c1.2.1 := by
        unfold rowA
        rw [cstA]
        rfl
      have s0 : sgn A.2 c1.2.1 = 0 := by
        unfold sgn
        rw [h203A]
        rfl
      have s1 : sgn W c1.2.1 = 0 := by
        unfold sgn
        rw [W0]
        rfl
      have s2 : sgI W = sgI A.2 := by
        unfold sgI
        rw [Wi]
      rw [ra, s0] at e2
      omega
    · unfold eI plI
      rw [Wi]
      exact Int.le_refl _
  have evW : ENV d W q := evA.gx (fun _ _ _ _ _ _ _ _ => by rw [Wi]) ⟨by rw [Wa], by rw [Wa], by rw [Wa]⟩ Wr.2.2.1 Wr.2.2.2.1 rwW (by
    have z := evA.sj
    unfold SJB at *
    rw [Wi]
    exact z) (by rw [Wi]; exact evA.t21)
  have A21 : A.2.i 21 = S.i 21 := pj_21 a3
  obtain ⟨ev8, -, n21⟩ := evW.nt (by rw [Wi, A21]; omega) e8'
  obtain ⟨Y, hY⟩ : ∃ Y, Y = CS.setO p8.2 c1.2.1 9 p8.1 := ⟨_, rfl⟩
  have evY : ENV d Y q := by rw [hY]; exact ev8.so (by decide)
  have e13' : f_X0_add N Y 30 (CS.o Y c1.2.1 9) = some p13 := by rw [hY]; exact e13
  have p8i : ∀ k : Nat, k ≠ 21 → Y.i k = A.2.i k := fun k hk => by
    rw [hY]
    show p8.2.i k = _
    unfold f_X0_newTarget at e8'
    rw [← Option.some.inj e8', ← Wi]
    exact ci_ne _ _ _ hk
  have p8o : (∀ a : Nat, a ≠ c1.2.1 → Y.o a = A.2.o a) ∧ (∀ k : Nat, k ≠ 0 → k ≠ 5 → k ≠ 6 → k ≠ 9 → Y.o c1.2.1 k = A.2.o c1.2.1 k) ∧ Y.o c1.2.1 0 = 204 ∧ Y.o c1.2.1 5 = 0 ∧ Y.o c1.2.1 6 = S.i 36 := by
    have z : p8.2.o = W.o := by
      unfold f_X0_newTarget at e8'
      rw [← Option.some.inj e8']
      rfl
    rw [hY]
    refine ⟨fun a ha => by rw [so_ne ha, z, Wo a ha], fun k h0 h5 h6 h9 => by rw [so_nk h9, z, Wk k h0 h5 h6], by rw [so_nk (by decide), z, W0], by rw [so_nk (by decide), z, W5], by rw [so_nk (by decide), z, W6]⟩
  have p8r : Y.r = A.2.r ∧ Y.ol = A.2.ol ∧ Y.a 18 = A.2.a 18 ∧ Y.a 52 = A.2.a 52 := by
    have z : p8.2.r = W.r ∧ p8.2.ol = W.ol ∧ p8.2.a 18 = W.a 18 ∧ p8.2.a 52 = W.a 52 := by
      unfold f_X0_newTarget at e8'
      rw [← Option.some.inj e8']
      exact ⟨rfl, rfl, rfl, rfl⟩
    rw [hY]
    exact ⟨z.1.trans Wr.1, z.2.1.trans Wr.2.1, z.2.2.1.trans (by rw [Wa]), z.2.2.2.trans (by rw [Wa])⟩
  have Y21 : (Y.i 21).toInt = (S.i 21).toInt + 1 := by
    rw [hY]
    show (p8.2.i 21).toInt = _
    rw [n21, Wi, A21]
  have Yx : Y.i = p8.2.i ∧ Y.a = p8.2.a ∧ Y.o c1.2.1 9 = p8.1 := by
    rw [hY]
    exact ⟨rfl, rfl, so_at⟩
  clear hY e13
  obtain ⟨ev13, -, -, -⟩ := y_add evY e13'
  obtain ⟨ev18, -, -, -⟩ := y_aim ev13 e18
  obtain ⟨⟨r1, r2, r3, -⟩, ⟨r5, r6⟩, ⟨r7, r8, r9, r10, r11⟩, ⟨r12, r13, r14, r15, r16, r17, r18⟩⟩ := kd_all (kd_X0_add N Y 30 _ p13 e13')
  obtain ⟨⟨w1, w2, w3, -⟩, ⟨w5, w6⟩, ⟨w7, w8, w9, w10, w11⟩, ⟨w12, w13, w14, w15, w16, w17, w18⟩⟩ := kd_all (kd_X0_aim N p13.2 _ p18 e18)
  have evX : ENV d (CS.setI p18.2 36 1) q := ev18.s36
  obtain ⟨X, hX⟩ : ∃ X, X = CS.setI p18.2 36 1 := ⟨_, rfl⟩
  have Xi : ∀ k : Nat, k ≠ 36 → X.i k = p18.2.i k := fun k hk => by
    rw [hX]
    exact ci_ne _ _ _ hk
  have X36 : X.i 36 = 1 := by rw [hX, ci_at]
  have Xo : X.o = Y.o ∧ X.r = A.2.r ∧ X.ol = A.2.ol ∧ X.a 18 = A.2.a 18 ∧ X.a 52 = A.2.a 52 := by
    rw [hX]
    exact ⟨w2.trans r2, (w1.trans r1).trans p8r.1, (w3.trans r3).trans p8r.2.1, (w5.trans r5).trans p8r.2.2.1, (w6.trans r6).trans p8r.2.2.2⟩
  rw [← hX] at evX
  show DMD d B (CS.setI p18.2 36 1) U ∨ ∃ (m : Nat) (u : RS), f_X12_parse_10 N m u = some U ∧ NEW d B b t0 c L (CS.setI p18.2 36 1) u (JTR Aj U B b (c1 :: c :: L) S s)
  have Xa : X.a = p18.2.a := by rw [hX]; rfl
  rw [← hX]
  clear hX
  have X22 : X.i 22 = A.2.i 22 := by rw [Xi 22 (by decide), w8, r8, p8i 22 (by decide)]
  have X38 : X.i 38 = A.2.i 38 := by rw [Xi 38 (by decide), w11, r11, p8i 38 (by decide)]
  have X50 : X.i 50 = A.2.i 50 := by rw [Xi 50 (by decide), w14, r14, p8i 50 (by decide)]
  have X53 : X.i 53 = A.2.i 53 := by rw [Xi 53 (by decide), w15, r15, p8i 53 (by decide)]
  have X54 : X.i 54 = A.2.i 54 := by rw [Xi 54 (by decide), w16, r16, p8i 54 (by decide)]
  have X55 : X.i 55 = A.2.i 55 := by rw [Xi 55 (by decide), w17, r17, p8i 55 (by decide)]
  have X56 : X.i 56 = A.2.i 56 := by rw [Xi 56 (by decide), w18, r18, p8i 56 (by decide)]
  have X21 : (X.i 21).toInt = (S.i 21).toInt + 1 := by rw [Xi 21 (by decide), w7, r7, Y21]
  have X44 : X.i 44 = A.2.i 44 := by rw [Xi 44 (by decide), w13, r13, p8i 44 (by decide)]
  -- the reference goes on
  have key : ∀ z : Int32, z = S.i 36 → f_X12_branch_113 N (RS.setA q 67 T z) (s.i 63) = some V → DMD d B X U ∨ ∃ (m : Nat) (u : RS), f_X12_parse_10 N m u = some U ∧ NEW d B b t0 c L X u (JTR Aj U B b (c1 :: c :: L) S s) := fun z hz h => by
    unfold f_X12_branch_113 at h
    obtain ⟨em, hem, h⟩ := hf_bind h
    obtain ⟨-, h⟩ := hf_ite h
    rw [tp_nat ts] at h
    obtain ⟨-, h⟩ := hf_ite h
    obtain ⟨VV, hb, h⟩ := hf_bind h
    rw [Option.some.inj h] at hb
    have ev1 : ENV d X (RS.setA q 67 T z) := setA_env (Or.inr ⟨by decide, by decide⟩) evX
    obtain ⟨n1, n2, n3, n4, n5, n6, n7, n8, n9, n10', n11⟩ := y_emit ev1 (t := T) tq (by show 1 ≤ phI q; have := hC.1.2.2.2.2.2.2.2.1; omega) hem
    have n5' : phI em.2 = phI q - 1 := n5
    have m66 : em.2.a 66 T = s.a 66 T := by
      rw [(n3 (T + 1)).all 66 (by decide) (by decide)]
      exact q66
    rw [m66] at hb
    obtain ⟨v, hvv⟩ : ∃ v, v = RS.setA (RS.setA em.2 68 T em.1) 22 (s.a 66 T).toNatClampNeg (em.2.i 20) := ⟨_, rfl⟩
    have evv : ENV d X v := by rw [hvv]; exact setA_env (Or.inl rfl) (setA_env (Or.inr ⟨by decide, by decide⟩) n1)
    have vi : v.i = em.2.i := by rw [hvv]; rfl
    have v22 : ∀ j : Nat, v.a 22 j = if j = (s.a 66 T).toNatClampNeg then em.2.i 20 else em.2.a 22 j := fun j => by
      rw [hvv]
      by_cases w : j = (s.a 66 T).toNatClampNeg
      · rw [if_pos w, w]
        exact setA_at
      · rw [if_neg w, setA_ne w, setA_nk (by decide)]
    have va : ∀ k j : Nat, 64 ≤ k → k ≤ 73 → ¬ (k = 68 ∧ j = T) → v.a k j = em.2.a k j := fun k j h1 h2 h3 => by
      rw [hvv, setA_nk (by omega)]
      exact setA_lo (by omega)
    have v68 : v.a 68 T = em.1 := by
      rw [hvv, setA_nk (by decide)]
      exact setA_at
    have vt : TBZ q v := by
      rw [hvv]
      exact (((setA_tb0 (k := 67) (j := T) (v := z) (Or.inr ⟨by decide, by decide⟩)).tr n4.1).tr (setA_tb0 (Or.inr ⟨by decide, by decide⟩))).tr (setA_tb0 (Or.inl rfl))
    have vf : FRB T q v := by
      rw [hvv]
      exact (((setA_frb (k := 67) (v := z) (Or.inr ⟨by decide, by decide, Nat.le_refl _⟩)).tr (n3 T)).tr (setA_frb (Or.inr ⟨by decide, by decide, Nat.le_refl _⟩))).tr (setA_frb (Or.inl rfl))
    have tvS : tpI v = (T : Int) := by
      show (v.i 63).toInt = _
      rw [vi]
      exact n2
    have m64 : em.2.a 64 T = 9 := by
      rw [(n3 (T + 1)).all 64 (by decide) (by decide), setA_nk (by decide)]
      exact q64
    have m67 : em.2.a 67 T = z := by
      rw [(n3 (T + 1)).all 67 (by decide) (by decide)]
      exact setA_at
    have v64 : v.a 64 T = 9 := (va 64 T (by omega) (by omega) (by omega)).trans m64
    have v67 : v.a 67 T = z := (va 67 T (by omega) (by omega) (by omega)).trans m67
    have vq : qe v = qe (RS.setA em.2 22 (s.a 66 T).toNatClampNeg (em.2.i 20)) ∧ v.a 40 = em.2.a 40 := by rw [hvv]; exact ⟨rfl, rfl⟩
    rw [← hvv] at hb
    clear hvv
    have h51 : X.o c1.2.1 5 = 0 ∧ isOne (X.o c1.2.1 0) := by
      rw [Xo.1, p8o.2.2.1]
      exact ⟨p8o.2.2.2.1, Or.inr (Or.inl rfl)⟩
    rcases r_body evv.1.2.1 hb g2 with ⟨z1, z2⟩ | ⟨hth, n410, n411, -⟩
    · refine Or.inl ⟨z1, ⟨v, evv, z2⟩, X36, c1.2.1, c1.1, by rw [X53]; exact tpA.1, ⟨by omega, hC.b53 tp bz⟩, by rw [Xo.2.1]; exact cstA, h51.2, h51.1⟩
    refine Or.inr ?_
    obtain ⟨hV', t99⟩ := r_then tvS hth
    rw [hV'] at g2
    obtain ⟨u, hu⟩ : ∃ y, y = TH v T 3 2 := ⟨_, rfl⟩
    have evu : ENV d X u := by rw [hu]; exact evv.th
    have fu : FRB T v u := by rw [hu]; exact TH.frb
    have ku : TBK v u := by rw [hu]; exact TH.tbk
    have iu : ∀ k : Nat, k ≠ 63 → u.i k = v.i k := by
      rw [hu]
      exact fun k h => if_neg h
    have u64 : u.a 64 T = 9 := by
      rw [hu, TH.fk0 (Nat.le_refl T)]
      exact v64
    have u65 : u.a 65 T = 3 := by rw [hu]; exact TH.st
    have u67 : u.a 67 T = z := by
      rw [hu]
      exact v67
    have u68 : u.a 68 T = em.1 := by
      rw [hu]
      exact v68
    have u22 : u.a 22 = v.a 22 := by
      rw [hu]
      rfl
    have u641 : u.a 64 (T + 1) = 2 := by rw [hu]; exact TH.fk
    have u651 : u.a 65 (T + 1) = 0 := by rw [hu]; exact TH.fs
    have tu : tpI u = ((T + 1 : Nat) : Int) := by rw [hu]; exact TH.tp tvS (by omega)
    have uq : qe u = qe v ∧ u.a 40 = v.a 40 := by rw [hu]; exact ⟨rfl, rfl⟩
    rw [← hu] at g2
    clear hu hV'
    -- the if's place is aimed
    obtain ⟨-, b30, b0, col, hc⟩ := id hC.2.2.2.2.2.2.2.2.2.2
    have pl : PLF S s c1 (s.a 66 (ceT c1)).toInt := Or.inl ⟨Or.inl h203, rfl⟩
    obtain ⟨y1, y2, y3, y4⟩ := hc.2.2.2.2.2.2 c1 List.mem_cons_self _ pl
    rw [← hTc] at y1 y2 y3 y4
    have fre : FRE S s (c1 :: c :: L) col (b.i 20).toInt (s.a 66 T).toNatClampNeg := ⟨by
      show _ ≤ (((s.a 66 T).toInt.toNat : Nat) : Int)
      omega, y3, fun y hy t w => y4 y hy t (by
      have w' : (((s.a 66 T).toInt.toNat : Nat) : Int) = _ := w
      omega)⟩
    obtain ⟨cB, hcB⟩ := hC.e22 hc (E22.set (v := em.2.i 20) fre)
    obtain ⟨q', hq'⟩ : ∃ q', q' = RS.setA s 22 (s.a 66 T).toNatClampNeg (em.2.i 20) := ⟨_, rfl⟩
    have q'i : q'.i = s.i := by rw [hq']; rfl
    have q'a : ∀ k : Nat, k ≠ 22 → q'.a k = s.a k := fun k hk => by
      rw [hq']
      exact setA_nk hk
    have q'22 : ∀ j : Nat, q'.a 22 j = if j = (s.a 66 T).toNatClampNeg then em.2.i 20 else s.a 22 j := fun j => by
      rw [hq']
      by_cases w : j = (s.a 66 T).toNatClampNeg
      · rw [if_pos w, w]
        exact setA_at
      · rw [if_neg w, setA_ne w]
    have q'b : q'.b = s.b := by rw [hq']; rfl
    rw [← hq'] at cB hcB
    clear hq'
    have uz : TBZ s u := tk.1.tr (vt.tr ku.1)
    have trq : TBR q' u := by
      have z2 := uz.r
      unfold TBR at *
      rw [q'i, q'b, q'a 40 (by decide), q'a 41 (by decide), q'a 44 (by decide), q'a 46 (by decide), q'a 47 (by decide), q'a 50 (by decide), q'a 51 (by decide), q'a 48 (by decide), q'a 49 (by decide), q'a 57 (by decide), q'a 58 (by decide), q'a 60 (by decide), q'a 61 (by decide), q'a 62 (by decide), q'a 30 (by decide), q'a 34 (by decide), q'a 37 (by decide), q'a 25 (by decide), q'a 27 (by decide), q'a 28 (by decide)]
      exact z2
    have frq' : FRB T q' u := fun j hj => by
      have z2 := ((FRB.of a2 : FRB T s q).tr (vf.tr fu)) j hj
      rw [q'a 64 (by decide), q'a 65 (by decide), q'a 66 (by decide), q'a 67 (by decide), q'a 68 (by decide), q'a 69 (by decide), q'a 70 (by decide), q'a 71 (by decide), q'a 72 (by decide), q'a 73 (by decide), q'b]
      exact z2
    have n7' : (em.2.i 20).toInt = (q.i 20).toInt + 1 := n7
    have cdq : CDK (q'.i 20).toInt q' u := ⟨by rw [q'i, iu 20 (by decide), vi, ← a6]; omega, fun j hj => by
      rw [q'i, ← a6] at hj
      rw [u22, v22 j, q'22 j]
      by_cases w : j = (s.a 66 T).toNatClampNeg
      · rw [if_pos w, if_pos w]
      · rw [if_neg w, if_neg w, ← a7]
        exact n4.2.2 j hj⟩
    obtain ⟨x1, x2, x3, x4, x5, x6, x7, x8, x9, x10⟩ := uz.1
    have u11 : u.i 11 = q.i 11 := by rw [iu 11 (by decide), vi]; exact n8
    have u17 : u.i 17 = q.i 17 := by rw [iu 17 (by decide), vi]; exact n9
    have phu : phI u = phI q - 1 := by
      rw [← n5']
      unfold phI
      rw [iu 17 (by decide), iu 20 (by decide), vi]
    obtain ⟨-, injB, ordB, -, -⟩ := cB.drop (by rw [h203]; unfold isTy; decide) (by rw [h203]; decide) (by rw [h203]; rfl) (by rw [h203]; rfl)
    have adr := hC.adr
    have eoX : ∀ y ∈ c :: L, X.o y.2.1 = S.o y.2.1 := fun y hy => by
      rw [Xo.1, ← eoA]
      exact p8o.1 y.2.1 (adr y hy)
    have X0 : X.o c1.2.1 0 = 204 := by rw [Xo.1]; exact p8o.2.2.1
    have ngX : ¬ isGo (X.o c1.2.1 0) := by
      rw [X0]
      unfold isGo
      decide
    have s20 : 0 ≤ (q'.i 20).toInt := by
      have := cB.2.2.2.2.2.1.2.2.1.1
      omega
    have hcol : ∃ col : Nat → Option (Nat × Bool), COL X u (c1 :: c :: L) col (b.i 20).toInt := by
      have hcD := hcB.drop injB
      have hinD : INL X q' (ceT c1) (c :: L) := fun y hy => by
        obtain ⟨z1, z2, z3, z4, z5⟩ := hC.inlB tp y hy
        rw [X53, j53, Xo.2.1, erA, eoX y hy, q'i]
        exact ⟨z1, z2, z3, z4, z5⟩
      refine ⟨_, ((hcD.eo eoX).mv b0 hinD (CKZ.rf X) (by rw [← hTc]; exact frq') trq cdq).addp ngX (by rw [X0]; decide) (fun k p => ?_)⟩
      have hk : k = (s.i 20).toInt := by
        unfold PLF at p
        rw [X0, ← hTc] at p
        rcases p with ⟨p | p, -⟩ | ⟨-, p⟩ | ⟨p | p, -⟩
        · exact absurd p (by decide)
        · exact absurd p (by decide)
        · rw [p, u68, n6, ← a6]
          rfl
        · exact absurd p (by decide)
        · exact absurd p (by decide)
      have fr := hcD.fresh s20 (k := k) (by rw [q'i]; omega)
      have bs := hC.2.2.2.2.2.1.2.2.1.1
      have a6' : (q.i 20).toInt = (s.i 20).toInt := by rw [a6]
      refine ⟨by omega, by rw [iu 20 (by decide), vi]; omega, fr.1, fun y hy t => ?_⟩
      rw [eoX y hy] at t
      have w1 := wid1 (X.o y.2.1 0)
      have w2 := (hinD y hy).2.2.1
      rw [(frq' (ceT y) (by rw [hTc]; omega)).2.2.1]
      exact fr.2 y hy t
    have k11 := hvS.1.2.2.2.1.1
    have k11' := evX.1.2.2.2.1.1
    have rt : RTE S X := by
      unfold RTE
      rw [k11, k11', X21, X54, j54, X55, j55]
      omega
    have pdm : PDM S (c1 :: c :: L) = dbt (S.o c1.2.1 0) + PDM S (c :: L) := rfl
    have d0 : dbt (S.o c1.2.1 0) = 0 := by
      rw [h203]
      rfl
    have tbb := hC.2.2.2.2.2.1.2.1
    have rr := hC.2.2.2.2.2.2.1
    have ob := hC.2.2.2.2.2.2.2.1.2
    have tpB : TOP S q' c1 := ⟨tp.1, by rw [q'i]; exact tp.2.1, by rw [q'i]; exact tp.2.2⟩
    have fin : COR d B b t0 (c1 :: c :: L) (cod c1 X u) X u := cB.chg tpB (by rw [← hTc]; exact hT) (hC.b53 tp bz) evu (by rw [← hTc]; exact frq') trq cdq ⟨by rw [q'i]; exact x1, by rw [q'i]; exact x2, by rw [q'i]; exact x3, by rw [q'a 1 (by decide)]; exact x8, by rw [q'a 4 (by decide)]; exact x9, by rw [q'b]; exact x10⟩ (by rw [x4]; exact tbb.1) (by rw [q'i]; exact x5) (by rw [x7]; exact tbb.2.2.1) (by rw [x4, u11]; omega)
      (Xo.2.1.trans erA) (fun a ha => ⟨by rw [Xo.1, ← eoA]; exact p8o.1 a ha, by rw [Xo.2.2.1, eolA]⟩) ⟨by rw [Xo.1, ← eoA]; exact p8o.2.1 1 (by decide) (by decide) (by decide) (by decide), by rw [Xo.1, ← eoA]; exact p8o.2.1 3 (by decide) (by decide) (by decide) (by decide), by rw [Xo.1, ← eoA]; exact p8o.2.1 14 (by decide) (by decide) (by decide) (by decide)⟩ ⟨X22.trans a8, X38.trans j38, X53.trans j53, X54.trans j54, X55.trans j55, X56.trans j56⟩ ⟨Xo.2.2.2.1.trans a9.1, Xo.2.2.2.2.trans a52⟩ (fun y hy => by rw [X50, j50]; exact (ob.1 y hy).2)
      ngo ngX ⟨fun z => absurd z (by rw [X0]; unfold isTy; decide), fun z => absurd z (by rw [h203]; unfold isTy; decide)⟩ (by rw [X0, h203]; rfl) (by rw [X0]; rfl) (fun z => absurd z (by rw [h203]; decide)) (fun z => absurd z (by rw [X0]; decide)) (fun z => absurd z (by rw [h203]; unfold isTy; decide)) (by
        rw [← hTc]
        refine RFR.m204 X0 ⟨u64, u65, ?_, ?_⟩
        · rw [u67, hz, Xo.1]
          exact p8o.2.2.2.2.symm
        · rw [Xo.1, p8o.2.2.2.2]
          exact h36) hcol (by
        have z : RTE S X := rt
        exact z) ⟨by rw [q'i, u11]; omega, by omega, by rw [q'i, u17]; omega, by rw [X0, h203, q'i, iu 19 (by decide), vi, n10']; show (q.i 19).toInt + ((0 : Nat) : Int) = (s.i 19).toInt + ((0 : Nat) : Int); rw [a10]⟩ (by rw [X0]; unfold isKS isOne isTy; decide)
    refine ⟨m2, u, g2, c1, fin, ⟨?_, ?_, ?_⟩, ⟨Or.inr (Or.inl ⟨h51.2, h51.1, by rw [← hTc]; exact tu, by rw [← hTc]; exact u641, by rw [← hTc]; exact u651, X36, (by rw [iu 10 (by decide)]; exact ⟨n410, n411⟩), fun _ _ _ => ?_⟩), Or.inr X36⟩, fun _ jw => ?_⟩
    · rw [X53, j53]
      exact tp.1
    · have n0 : nGo (X.o c1.2.1 0) = 0 := nGo.eq ngX
      have n1' : nGo (S.o c1.2.1 0) = 0 := nGo.eq ngo
      have z := tp.2.1
      rw [x5, n0]
      rw [n1'] at z
      exact z
    · have z := tp.2.2
      rw [h203] at z
      rw [x7, X0]
      exact z
    · rw [X50, j50, Xo.1, p8o.2.1 3 (by decide) (by decide) (by decide) (by decide), eoA]
      exact hm one (by rw [h203]; decide) (by rw [h203]; decide)
    · -- the code
      have hr0 : (vw S s c1).v = 203 := h203
      have ngV : ¬ isGo (vw S s c1).v := ngo
      have nlo : ¬ isLo (vw S s c1).v := fun z => ngV (Or.inr (Or.inr z))
      have nty : ¬ isTy (vw S s c1).v := fun z => by
        rw [hr0] at z
        rcases z with z | z | z | z <;> exact absurd z (by decide)
      have r66 : (vw S s c1).2.1 66 = s.a 66 T := by
        rw [hTc]
        exact (vw_at (k := 66) ⟨by decide, by decide⟩)
      have si : ∀ k : Nat, rsite (vw S s c1) k ↔ (k : Int) = (s.a 66 T).toInt := fun k => by
        unfold rsite
        rw [hr0, r66]
        refine ⟨fun z => ?_, fun z => Or.inl ⟨Or.inl rfl, z⟩⟩
        rcases z with ⟨-, z⟩ | ⟨z, -⟩ | ⟨z, -⟩ | ⟨z, -⟩
        · exact z
        · exact absurd z (by decide)
        · exact absurd z (by decide)
        · exact absurd z (by decide)
      have c6 := clampI (show 0 ≤ (s.a 66 T).toInt by omega)
      have gis := hC.gis
      have h44 : (S.i 44).toInt ≤ 900 := by
        rw [hvS.p44.1]
        exact (i11_hi hvS).2
      have h44A : (A.2.i 44).toInt ≤ 900 := by
        rw [evA.p44.1]
        exact (i11_hi evA).2
      obtain ⟨ee, he1, he2⟩ := clo_e (S.i 43)
      have ee1 : ee ≤ 1 := by rcases he1 with z | ⟨z, -⟩ <;> omega
      have rt : rtgs (vw S s c1) = [S.o c1.2.1 10] := by
        unfold rtgs
        rw [hr0, if_pos (by decide)]
        rfl
      have j0 := JRW.clo (V := vws S s (c :: L)) (r := vw S s c1) (u := q') (u' := q') (S' := S) (l1 := []) (l2 := []) (vb := 0) (vc := 0) (vs := em.2.i 20) (e := ee) (dr := 0) jw (fun z => z.c0 (by rw [hr0]; decide) (NK.eq rfl rfl (by rw [q'i]) (by rw [q'i]))) h44 mA (vws.pl hC) (fun z => absurd z ngV) nty (by rw [hr0]; decide) (fun z => absurd z ngV) ⟨q'i, q'a⟩ (fun z => absurd z ngV) (fun z => absurd z nlo) (fun j z => by
        have z1 := (si j).mp z
        have z2 : j = (s.a 66 T).toNatClampNeg := by omega
        exact ⟨by rw [q'22, if_pos z2], by omega⟩) (fun j _ _ z => by
        rw [q'22, if_neg (fun z2 => z ((si j).mpr (by rw [z2]; exact c6)))]) (D38.rf _) (D52.rf _) ⟨Or.inl rfl, rfl, rfl, rfl⟩ (fun _ _ _ => rfl) (clo_nm (by rw [hr0]; decide) nty (by rw [hr0]; decide) q'i (q'a 40 (by decide))) (fun _ => dbr.ge _ _) he1
      rw [rt] at j0
      -- the token
      obtain ⟨q2, hq2⟩ : ∃ q2, q2 = RS.setA (RS.setA q 67 T z) 22 (s.a 66 T).toNatClampNeg (em.2.i 20) := ⟨_, rfl⟩
      have q2i : q2.i = q.i := by rw [hq2]; rfl
      have q2a : ∀ k : Nat, k ≠ 22 → k ≠ 67 → q2.a k = q.a k := fun k h1 h2 => by rw [hq2, setA_nk h1, setA_nk h2]
      have q222 : ∀ j : Nat, q2.a 22 j = if j = (s.a 66 T).toNatClampNeg then em.2.i 20 else q.a 22 j := fun j => by
        rw [hq2]
        by_cases w : j = (s.a 66 T).toNatClampNeg
        · rw [if_pos w, w]
          exact setA_at
        · rw [if_neg w, setA_ne w, setA_nk (by decide)]
      obtain ⟨⟨o1, o2, o3, o4, o5', o6⟩, o7, o8, o9, o10, o11, o12, o13, o14, o15, o16, o17, o18, o19, o20⟩ := qe_eq (kre_f_X12_next N s q hq)
      have qq2 : qe q2 = qe q' := by
        have e22' : q2.a 22 = q'.a 22 := by
          funext j
          rw [q222, q'22, o8]
        unfold qe
        rw [e22', q2i, q'i, o1, o2, o3, o4, o5', o6, q2a 21 (by decide) (by decide), q2a 23 (by decide) (by decide), q2a 25 (by decide) (by decide), q2a 26 (by decide) (by decide), q2a 27 (by decide) (by decide), q2a 28 (by decide) (by decide), q2a 30 (by decide) (by decide), q2a 31 (by decide) (by decide), q2a 32 (by decide) (by decide), q2a 34 (by decide) (by decide), q2a 35 (by decide) (by decide), q2a 36 (by decide) (by decide), q2a 37 (by decide) (by decide), q'a 21 (by decide), q'a 23 (by decide), q'a 25 (by decide), q'a 26 (by decide), q'a 27 (by decide), q'a 28 (by decide), q'a 30 (by decide), q'a 31 (by decide), q'a 32 (by decide), q'a 34 (by decide), q'a 35 (by decide), q'a 36 (by decide), q'a 37 (by decide), o7, o9, o10, o11, o12, o13, o14, o15, o16, o17, o18, o19, o20]
      have nsq := NMV.tbk tk
      have gain := ((y_adv hN hvS.1 eA hq).2.1.gain hvS.1.2.2.2.2.2.2.1).2.2.2.2.1 (Or.inl (by rw [k204]; decide))
      have j1 := j0.tk (R := A.2) (u := q2) 2 (by rw [q'i]; exact hvS.2.1.1) a3 (ke_X9_advance N S A eA) ⟨by rw [q2i, q'i]; exact nsq.1, fun j hj => by rw [q2a 40 (by decide) (by decide), q'a 40 (by decide)]; rw [q'i] at hj; exact nsq.2 j hj⟩ qq2 gain.2.1
      have j2 := j1.drp (R := W) (u := q2) (by unfold pe; rw [Wi, Wa]) (by rw [Wi]) (by rw [Wi]) (by rw [Wa]) (by rw [Wa]) rfl (Int.le_refl _) rfl
      have j3 := j2.nt e8' (by rw [Wi]; exact h44A) (by omega)
      have j4 := j3.drp (R := Y) (u := q2) (by unfold pe; rw [Yx.1, Yx.2.1]) (by rw [Yx.1]) (by rw [Yx.1]) (by rw [Yx.2.1]) (by rw [Yx.2.1]) rfl (Int.le_refl _) rfl
      have p20q := ev1.p20
      have p20q' : (RS.setA q 67 T z).i 20 = q.i 20 := rfl
      have hq20 : 0 ≤ (q.i 20).toInt ∧ (q.i 20).toInt < 3000 := by
        rw [p20q'] at p20q
        have z1 : phI (RS.setA q 67 T z) = phI q := rfl
        have := hC.1.2.2.2.2.2.2.2.1
        exact ⟨p20q.1, by omega⟩
      obtain ⟨em', hem', e1', ei', ea'⟩ := em_sit (v := em.2.i 20) (st := (s.a 66 T).toNatClampNeg) hem hq20 (by show _ < (q.i 20).toInt; rw [a6]; omega)
      rw [← hq2] at hem'
      have i20 : ((q2.i 20).toInt = (q.i 20).toInt) := by rw [q2i]
      have pcY : pcC Y = pcC S := by
        unfold pcC
        rw [p8i 20 (by decide), (pe_eq (ke_X9_advance N S A eA)).1]
      have prq : pcR q2 = pcR s := by
        unfold pcR
        rw [q2i, a6]
      have j5 := j4.ons (K' := fun FC SF nm X ω j Z => (PQX SF U (pcC S) (pcR s) ∧ (SF.a 15 (pcC S) = 30 ∧ SF.a 16 (pcC S) = p8.1) ∧ U.a 21 (pcR s) = 15 ∧ em.1.toNatClampNeg = pcR s ∧ pcC p13.2 = pcC S + 1 ∧ pcR em'.2 = pcR s + 1) ∧ KCL U (vw S s c1) S s 0 0 (em.2.i 20) FC SF nm X ω j Z) e13' (by rw [p8i 44 (by decide)]; exact h44A) (by omega) hem' ⟨by omega, by omega⟩ (fun FC SF nm X ω j Z pq a1 a2 b1 b2 b3 v1 v2 _ hc hh tyc tl hω k => by
        rw [pcY, prq] at pq
        rw [pcY] at a1 a2 v1
        rw [prq] at b1 b2 v2
        rw [Yx.2.2] at a2
        rw [e1'] at b2
        exact ⟨⟨pq, ⟨a1, a2⟩, b1, b2, v1, v2⟩, k⟩)
      have e10 : p13.2.o c1.2.1 10 = S.o c1.2.1 10 := by rw [r2, p8o.2.1 10 (by decide) (by decide) (by decide) (by decide), eoA]
      rw [e10] at e18
      have j6 := JRG.aih (W1 := [sv em'.1, tv p8.1]) (W2 := []) (K' := fun FC SF nm X ω j Z => (cTg SF (S.o c1.2.1 10)).toInt = ((pcC p13.2 : Nat) : Int) ∧ (PQX SF U (pcC S) (pcR s) ∧ (SF.a 15 (pcC S) = 30 ∧ SF.a 16 (pcC S) = p8.1) ∧ U.a 21 (pcR s) = 15 ∧ em.1.toNatClampNeg = pcR s ∧ pcC p13.2 = pcC S + 1 ∧ pcR em'.2 = pcR s + 1) ∧ KCL U (vw S s c1) S s 0 0 (em.2.i 20) FC SF nm X ω j Z) j5 e18 (by rw [r13, p8i 44 (by decide)]; exact h44A) (by omega) (fun FC SF nm X ω j Z h k => ⟨h, k⟩)
      have qu : qe u = qe em'.2 := by
        rw [uq.1, vq.1]
        unfold qe
        rw [ei', ea']
        rfl
      have u40 : u.a 40 = em'.2.a 40 := by rw [uq.2, vq.2, ea', setA_nk (show (40 : Nat) ≠ 22 by decide)]
      have i38 : u.i 38 = em'.2.i 38 := by rw [iu 38 (by decide), vi, ei']
      have j7 := j6.drp (R := X) (u := u) (by unfold pe; rw [Xi 20 (by decide), Xi 23 (by decide), Xi 38 (by decide), Xi 22 (by decide), Xa]) (Xi 21 (by decide)) (Xi 44 (by decide)) (by rw [Xa]) (by rw [Xa]) qu (by rw [i38]; exact Int.le_refl _) u40
      have lk := (hC.drop (by rw [h203]; unfold isTy; decide) (by rw [h203]; decide) (by rw [h203]; rfl) (by rw [h203]; rfl))
      show JRW Aj U B b (vw X u c1 :: vws X u (c :: L)) X u
      rw [clo_veq lk.1 tp lk.2.2.2.1 (fun j hj => by rw [(trq.1 j (by rw [q'i]; exact hj)).2.1, q'a 40 (by omega)]) eoX (fun k t h1 h2 h3 => by rw [frq'.fld k t h1 h2 (by rw [hTc]; exact h3), q'a k (by omega)])]
      have hrX : (vw X u c1).v = 204 := X0
      have ntX : ¬ isTy (vw X u c1).v := fun z => by
        rw [hrX] at z
        rcases z with z | z | z | z <;> exact absurd z (by decide)
      have ngX' : ¬ isGo (vw X u c1).v := ngX
      have r68 : (vw X u c1).2.1 68 = em'.1 := by
        have z1 : (vw X u c1).2.1 68 = u.a 68 (ceT c1) := (vw_at (k := 68) ⟨by decide, by decide⟩)
        rw [z1, ← hTc, u68, e1']
      have r9x : (vw X u c1).1 9 = p8.1 := show X.o c1.2.1 9 = p8.1 by rw [Xo.1]; exact Yx.2.2
      have r10x : (vw X u c1).1 10 = S.o c1.2.1 10 := show X.o c1.2.1 10 = S.o c1.2.1 10 by rw [Xo.1, p8o.2.1 10 (by decide) (by decide) (by decide) (by decide), eoA]
      have r6x : (vw X u c1).1 6 = S.i 36 := show X.o c1.2.1 6 = S.i 36 by rw [Xo.1]; exact p8o.2.2.2.2
      have l19 : (q'.i 19).toInt ≤ (u.i 19).toInt := by
        rw [q'i, iu 19 (by decide), vi, n10']
        show (s.i 19).toInt ≤ (q.i 19).toInt
        rw [a10]
        exact Int.le_refl _
      have enX : ∀ (G : GHT) (ω h l : Nat), jen G ω (vw X u c1) h l = [] := fun _ _ _ _ => jen.no (by rw [hrX]; decide) ntX (by rw [hrX]; decide)
      refine j7.psd (r := vw X u c1) (R0 := X) (u0 := u) (0, 0, []) (fun z => z.p0 (by rw [hrX]; decide) (NK.eq rfl rfl rfl rfl)) (D38.rf _) (D52.rf _) ⟨by omega, fun y => by rcases y with y | y | y | y | y <;> rw [hrX] at y <;> exact absurd y (by decide), ⟨fun _ => by rw [r10x]; exact List.mem_cons_self, fun y => absurd (hrX.symm.trans y) (by decide), by rw [hrX]; decide⟩, fun y => absurd (hrX.symm.trans y) (by decide), by rw [hrX]; decide, by rw [hrX]; decide⟩ (Or.inl (by omega)) (GKP.tbr trq (by rw [q'i, x5]; exact Int.le_refl _)) l19 (vws.pl hC) (fun y => absurd y ntX) (fun y => absurd (hrX.symm.trans y) (by decide)) (by rw [hrX]; decide) (fun k y => ?_) ?_ (fun y => absurd y ngX') ⟨fun z => absurd (show dfr (vw X u c1).v = 1 from z) (by rw [hrX]; decide), fun y => absurd y ntX, by rw [q'i, u11]; omega, fun y => absurd (hrX.symm.trans y) (by decide), by rw [hrX]; decide⟩ (fun nm G ω j _ ng fr wn hcc hh => ?_) (fun FC SF nm X' G col YJ ω j Z _ hω r12 hcc hh k jr cur => ?_)
      · unfold rsite at y
        rw [hrX, r68] at y
        rcases y with ⟨y, -⟩ | ⟨-, y⟩ | ⟨y, -⟩ | ⟨y, -⟩
        · exact absurd y (by decide)
        · exact ⟨_, List.mem_cons_of_mem _ List.mem_cons_self, sv.site.mpr y⟩
        · exact absurd y (by decide)
        · exact absurd y (by decide)
      · have z1 : rtgs (vw X u c1) = [p8.1] := by
          unfold rtgs
          rw [hrX, if_neg (by decide), if_pos (by decide), r9x]
        have z2 : ptl [hv (S.o c1.2.1 10), sv em'.1, tv p8.1] = [p8.1] := by
          show rtgs (hv (S.o c1.2.1 10)) ++ (rtgs (sv em'.1) ++ (rtgs (tv p8.1) ++ [])) = _
          rw [hv.tgs, sv.tgs, tv.tgs]
          rfl
        rw [z1]
        exact List.Perm.of_eq z2.symm
      · rw [enX]
        exact ⟨ng.g (Int.le_trans fr l19), hcc, Int.le_trans hh (by rw [q'i, u11]; omega)⟩
      · obtain ⟨ct, ⟨pq, ⟨s1', s2'⟩, u1', n1', pe1, pe2⟩, ⟨st, -, -⟩, G', -, -, hX⟩ := k
        have jlX : jlv (vw X u c1).v = 0 := by rw [hrX]; rfl
        have pcX : pcC X = pcC S + 1 := by
          have z1 : pcC X = pcC p13.2 := by
            unfold pcC
            rw [Xi 20 (by decide)]
            unfold f_X0_aim at e18
            cases e18
            rfl
          rw [z1, pe1]
        have prU : pcR u = pcR s + 1 := (pcR.qe qu).trans pe2
        have c2 := cur X36
        rw [enX, jlX, pcX, prU] at c2
        have e20v : (em.2.i 20).toInt = ((pcR s + 1 : Nat) : Int) := by
          have z1 : (s.i 20).toInt = ((pcR s : Nat) : Int) := (Int.toNat_of_nonneg hvS.p20.1).symm
          rw [n7', a6, z1]
          omega
        have en : ∀ (h l : Nat), jen G' ω (vw S s c1) h l = [] := fun h l => jen.no (by rw [hr0]; decide) nty (by rw [hr0]; decide)
        refine ⟨hX ⟨fun _ => ?_, fun z => absurd (hr0.symm.trans z) (by decide), fun z => absurd (hr0.symm.trans z) (by decide), fun z => absurd (hr0.symm.trans z) (by decide), fun z => absurd (hr0.symm.trans z) (by decide), fun z => absurd (hr0.symm.trans z) (by decide), fun z => absurd (hr0.symm.trans z) (by decide), fun z => absurd z nty, fun _ => noc.gl⟩ (fun z => absurd z ngV) (fun h1 => ?_), JHH.no (by rw [hrX]; decide)⟩
        · have e9 := st (s.a 66 T).toNatClampNeg ((si _).mpr c6)
          refine ⟨_, _, ?_, ?_, c2.1⟩
          · rw [← pe1]
            exact ct
          · rw [r66, e9]
            exact e20v
        · have jl : jlv (vw S s c1).v = 0 := by rw [hr0]; rfl
          rw [en, jl]
          obtain ⟨pp, qq, p1, g1, g2', g3, g4, g5⟩ := jr.2.1 hrX (r6x.trans h1)
          rw [r9x] at g1
          rw [r68, e1', n1'] at g2'
          rw [r10x, ct] at g3
          have p12 := pq.1
          have zz : ∀ g : Nat, GU FC SF U nm X' (pcC S) (pcR s) j.h (ω + (j.l + 0) - pcC S) g j.c := fun g => gi_UJmp (pq.hc hcc) pq.2.1 ⟨s1', u1', pp, qq, _, ⟨by rw [s2']; exact g1, g2'⟩, by omega, g5⟩
          exact ⟨zz 0, zz 1⟩
  rw [q75] at hV
  rcases h36 with z | z
  · rw [if_pos z] at hV
    exact key 0 z.symm hV
  · rw [if_neg (by rw [z]; decide)] at hV
    exact key 1 z.symm hV
