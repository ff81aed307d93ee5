/-! both readers: an arm's block begins -/
/-- what an arm's base asks for: behind the arms all is good -/
def ARB (U : RS) (B : CS) (b : RS) (a gA : Nat) : JBA := fun FC SF nm X h0 ω c0 => NT5 (B.o a 9) ∧ ∃ (q0 we : Nat) (c' : List Ent), c0 = (5, h0, q0, 0, 0, 0, 0) :: c' ∧ h0 < 600 ∧ we ≤ ω ∧ EXG FC SF U nm X (B.o a 9) q0 h0 we c' ∧ (B.o a 2).toInt = (frs c' : Int) ∧ (b.a 47 gA).toInt = (c'.length : Int) + 1
theorem ARB.mA {U : RS} {B : CS} {b : RS} {a gA : Nat} : JBM U (ARB U B b a gA) := fun FC SF nm X Y h0 ω c0 s ⟨n5, q0, we, c', h1, h2, h3, ⟨pe', qe', e1, e2, e3, e4⟩, h5, h6⟩ => ⟨n5, q0, we, c', h1, h2, h3, ⟨pe', qe', e1, e2, s _ _ _ _ _ _ (Nat.zero_le _) e3, e4⟩, h5, h6⟩
/-- the class and the reference where an arm's row is the base, against the place before its sign -/
def ABR (x : Int32) (t a m : Nat) (S0 : CS) (s0 : RS) (W : CS) (b : RS) : Prop :=
  (((S0.i 53).toInt = (m : Int) ∧ m ≤ 380) ∧ (W.i 53).toInt = (m : Int) + 1 ∧ (W.i 54).toInt = (S0.i 54).toInt + 1 ∧ W.i 55 = S0.i 55 ∧ W.i 22 = S0.i 22 ∧ W.i 38 = S0.i 38 ∧ W.i 21 = S0.i 21 ∧ (S0.i 44).toInt + 1 ≤ (W.i 44).toInt ∧ W.i 56 = S0.i 53) ∧
  (W.a 18 = S0.a 18 ∧ W.a 52 = S0.a 52 ∧ (∀ k : Nat, k < m → W.r 51 k = S0.r 51 k) ∧ (∀ k y : Nat, k < m → S0.r 51 k = some y → W.o y = S0.o y ∧ W.ol y = S0.ol y)) ∧
  (W.r 51 m = some a ∧ W.o a 0 = 302 ∧ W.o a 3 = S0.i 50 ∧ W.o a 16 = S0.i 56 ∧ W.o a 14 = S0.i 55) ∧
  (b.i = s0.i ∧ b.b = s0.b ∧ (∀ k : Nat, k ≠ 65 → k ≠ 71 → b.a k = s0.a k) ∧ (∀ k j : Nat, j ≠ t → b.a k j = s0.a k j)) ∧
  (W.o a 9 = x ∧ W.o a 2 = S0.i 38 ∧ (W.i 20 = S0.i 20 ∧ W.i 21 = S0.i 21 ∧ W.i 22 = S0.i 22 ∧ W.i 23 = S0.i 23 ∧ W.i 50 = S0.i 50) ∧ (W.a 15 = S0.a 15 ∧ W.a 16 = S0.a 16 ∧ W.a 17 = S0.a 17 ∧ W.a 19 = S0.a 19 ∧ W.a 48 = S0.a 48 ∧ W.a 49 = S0.a 49))
set_option maxHeartbeats 4000000 in
theorem ab_start {N : Nat} (hN : 1000 ≤ N) {d x : Int32} {S0 : CS} {s0 V U : RS} {n t : Nat} {p1 : Unit × CS} {p5 : Option Nat × CS} (hv : ENV d S0 s0) (hG : GAR S0 s0) (ts : tpI s0 = (t : Int)) (h64 : s0.a 64 t = 19) (ph3 : 3 ≤ phI s0) (e1 : f_X1_open N S0 123 = some p1) (e5 : f_X6_push N p1.2 302 (p1.2.i 38) (p1.2.i 50) = some p5) (hV : ((f_X12_open N s0 123).bind fun p65 => (f_X12_then N (RS.setA p65.2 71 t (p65.2.i 38)) 6 1).bind fun p67 => some p67) = some V) (g : f_X12_parse_10 N n V = some U) : (¬ p1.2.i 32 = 0 ∧ ¬ U.i 15 = 0) ∨ ∃ (a m : Nat) (b : RS) (c : CEL), p5.1 = some a ∧ ABR x t a m S0 s0 (CS.setI (CS.setI (CS.setO (CS.setO p5.2 a 9 x) a 16 (p5.2.i 56)) 56 (S0.i 53)) 36 1) b ∧ YBA (ARB U (CS.setI (CS.setI (CS.setO (CS.setO p5.2 a 9 x) a 16 (p5.2.i 56)) 56 (S0.i 53)) 36 1) b a ((s0.i 43).toInt - 1).toNat) U (CS.setI (CS.setI (CS.setO (CS.setO p5.2 a 9 x) a 16 (p5.2.i 56)) 56 (S0.i 53)) 36 1) b ∧ STI (ARB U (CS.setI (CS.setI (CS.setO (CS.setO p5.2 a 9 x) a 16 (p5.2.i 56)) 56 (S0.i 53)) 36 1) b a ((s0.i 43).toInt - 1).toNat) U d (CS.setI (CS.setI (CS.setO (CS.setO p5.2 a 9 x) a 16 (p5.2.i 56)) 56 (S0.i 53)) 36 1) b (t + 1) (CS.setI (CS.setI (CS.setO (CS.setO p5.2 a 9 x) a 16 (p5.2.i 56)) 56 (S0.i 53)) 36 1) V c [] := by
  obtain ⟨q, hq, hV⟩ := hf_bind hV
  rw [ob_id] at hV
  rcases y_open hN hv (c := 123) (d := 123) (Or.inl ⟨by decide, by decide⟩) (by decide) (by decide) (by decide) e1 hq with ⟨o1, o2, o3⟩ | ⟨o1, o2, o3, o4, o5, o6, o7, o8, o9, o10, o11, o12⟩
  · exact Or.inl ⟨o2, u_flt g (krf_f_X12_then N _ 6 1 V hV (show ¬ (RS.setA q.2 71 t (q.2.i 38)).i 15 = 0 from o3))⟩
  right
  obtain ⟨G1, G2, G3, G4, G5, G6⟩ := hG
  have tq : tpI q.2 = (t : Int) := qj_63 o4 ts
  obtain ⟨hVe, t99⟩ := r_then (s := RS.setA q.2 71 t (q.2.i 38)) tq hV
  -- the class's row
  obtain ⟨-, -, -, -, -, -, j24, -, -, -, j36, -, j38, j50, j53, j54, j55, j56, -, -, -, -, j52, jr, jo, jol, -, j21, jhk⟩ := pj_eq o5
  have ckp : CKX S0 p1.2 := CKX.of o5 o10 o11
  obtain ⟨m, hmm, m38⟩ := RWI.few o3
  have hm' : (p1.2.i 53).toInt = (m : Int) := hmm
  obtain ⟨a, ra, psr⟩ := y_push o3.ri.s hmm (by omega) e5
  have w35 := o3.ri
  obtain ⟨sj1, sj2, sj3, sj4, sj5, sj6⟩ := id o3.sj
  have hi := i11_hi o3
  obtain ⟨zR, r53, r54, r55, r52, r21, r44⟩ := psr.z hm' (by omega) ⟨sj1, by omega⟩
  obtain ⟨⟨b1, b2, b3⟩, i1, ⟨-, -⟩, rr1, rr2, rw3, nb, ob1, ⟨f0, f1, f3, fl⟩, ⟨f5, f6, f7, f8⟩, ⟨f9, f10, f11, f12, f14⟩⟩ := id psr
  have es : (cnI p1.2).toNat = m := by
    show (p1.2.i 53).toInt.toNat = m
    rw [hm']
    exact Int.toNat_natCast _
  have nr := w35.2.2.2.1.2
  have iq := w35.2.2.2.2.1
  rw [es] at nr iq
  have rsq := psr.rsq (by omega)
  obtain ⟨u1, u2, u3, u4, u5⟩ := rsq.put nr rr1
  obtain ⟨iq2, wc2⟩ := iq.arm rsq nr rr1 f0
  have sums := ckp.sum hv.ri
  have k11 := o3.1.2.2.2.1.1
  have x1' := hv.2.2.1.1
  have x2' := o3.2.2.1.1
  have sgp : sgI p1.2 = (q.2.i 19).toInt := by
    unfold sgI
    rw [x2']
  have sg0 : sgI S0 = (s0.i 19).toInt := by
    unfold sgI
    rw [x1']
  have s1 := sums.1
  have s2 := sums.2
  rw [es] at s1 s2
  have sgn2 : sgn p5.2 a = 2 := by
    unfold sgn
    rw [if_pos f0]
  have e44 : eI p5.2 = eI p1.2 := by
    unfold eI plI
    rw [i1 44 (by decide) (by decide), i1 43 (by decide) (by decide)]
  have e34 : sgI p5.2 = sgI p1.2 := by
    unfold sgI
    rw [i1 34 (by decide) (by decide)]
  have ege := (eI.ge p1.2).1
  unfold plI at ege
  rw [k11] at ege
  have wR : RWI p5.2 := psr.ri w35 hm' (by omega) iq2 (by rw [wc2, e44, s2]; omega) (by rw [u2, sgn2, e34, sgp, s1]; omega)
  have p54 : p1.2.i 54 = S0.i 54 := j54
  have evR : ENV d p5.2 q.2 := o3.psh psr wR (by rw [p54]; omega)
  have evX : ENV d (CS.setO (CS.setO p5.2 a 9 x) a 16 (p5.2.i 56)) q.2 := (evR.so (by decide)).so (by decide)
  obtain ⟨X, hX⟩ : ∃ X, X = CS.setO (CS.setO p5.2 a 9 x) a 16 (p5.2.i 56) := ⟨_, rfl⟩
  have Xi : X.i = p5.2.i := by rw [hX]; rfl
  have Xr : X.r = p5.2.r ∧ X.ol = p5.2.ol ∧ X.a = p5.2.a := by rw [hX]; exact ⟨rfl, rfl, rfl⟩
  have Xo : ∀ y : Nat, y ≠ a → X.o y = p5.2.o y := fun y hy => by rw [hX, so_ne hy, so_ne hy]
  have Xk : ∀ k : Nat, k ≠ 9 → k ≠ 16 → X.o a k = p5.2.o a k := fun k h1 h2 => by rw [hX, so_nk h2, so_nk h1]
  have X16 : X.o a 16 = p5.2.i 56 := by rw [hX, so_at]
  have X9 : X.o a 9 = x := by rw [hX, so_nk (by decide), so_at]
  rw [← hX] at evX
  have evW : ENV d (CS.setI (CS.setI X 56 (S0.i 53)) 36 1) q.2 := evX.gx (fun j _ h36 _ _ _ _ h56 => by rw [ci_ne _ _ _ h36, ci_ne _ _ _ h56]) ⟨rfl, rfl, rfl⟩ rfl rfl (evX.ri.mv rfl rfl rfl rfl ⟨rfl, rfl, rfl⟩ evX.ri.2.2.2.2.2.2 (Int.le_refl _)) evX.sj evX.t21
  obtain ⟨W, hW⟩ : ∃ W, W = CS.setI (CS.setI X 56 (S0.i 53)) 36 1 := ⟨_, rfl⟩
  have Wi : ∀ k : Nat, k ≠ 36 → k ≠ 56 → W.i k = p5.2.i k := fun k h1 h2 => by rw [hW, ci_ne _ _ _ h1, ci_ne _ _ _ h2, Xi]
  have W36 : W.i 36 = 1 := by rw [hW, ci_at]
  have W56 : W.i 56 = S0.i 53 := by rw [hW, ci_ne _ _ _ (by decide), ci_at]
  have Wr : W.r = p5.2.r ∧ W.ol = p5.2.ol ∧ W.a = p5.2.a := by rw [hW]; exact Xr
  have Wo : W.o = X.o := by rw [hW]; rfl
  rw [← hW] at evW
  -- the reference
  obtain ⟨u, hu⟩ : ∃ y, y = TH (RS.setA q.2 71 t (q.2.i 38)) t 6 1 := ⟨_, rfl⟩
  have evu : ENV d W u := by rw [hu]; exact (setA_env (Or.inr ⟨by decide, by decide⟩) evW).th
  have ui : ∀ k : Nat, k ≠ 63 → u.i k = q.2.i k := by
    rw [hu]
    exact fun k h => if_neg h
  have ub : u.b = q.2.b := by rw [hu]; rfl
  have ua : ∀ k : Nat, k ≠ 64 → k ≠ 65 → k ≠ 71 → u.a k = q.2.a k := fun k h1 h2 h3 => by rw [hu, TH.loc h1 h2, setA_nk h3]
  have u71 : u.a 71 t = q.2.i 38 := by
    rw [hu, TH.loc (by decide) (by decide)]
    exact setA_at
  have u71j : ∀ j : Nat, j ≠ t → u.a 71 j = q.2.a 71 j := fun j hj => by
    rw [hu, TH.loc (by decide) (by decide)]
    exact setA_ne hj
  have u64j : ∀ j : Nat, j ≤ t → u.a 64 j = q.2.a 64 j := fun j hj => by
    rw [hu, TH.fk0 hj]
    rfl
  have u65 : u.a 65 t = 6 := by rw [hu]; exact TH.st
  have u65j : ∀ j : Nat, j < t → u.a 65 j = q.2.a 65 j := fun j hj => by
    rw [hu]
    exact ((TH.frb (s := RS.setA q.2 71 t (q.2.i 38)) (t := t) (a := 6) (b := 1)) j hj).2.1
  have u641 : u.a 64 (t + 1) = 1 := by rw [hu]; exact TH.fk
  have u651 : u.a 65 (t + 1) = 0 := by rw [hu]; exact TH.fs
  have tu : tpI u = ((t + 1 : Nat) : Int) := by rw [hu]; exact TH.tp (u := RS.setA q.2 71 t (q.2.i 38)) tq (by omega)
  rw [← hu] at hVe
  clear hu
  have qi := qj_eq o4
  obtain ⟨c2, c3, c8, -, c24, c29, c33, c38, -, c43, -, -, -, -, c56, c59, -⟩ := id qi
  have qa := fun k hk => qj_a o4 k hk
  have qb := qj_b o4
  have qf := (FRB.of o4 : FRB (t + 1) s0 q.2)
  -- the base
  obtain ⟨b, hb⟩ : ∃ b, b = RS.setA (RS.setA s0 71 t (s0.i 38)) 65 t 6 := ⟨_, rfl⟩
  have bi : b.i = s0.i := by rw [hb]; rfl
  have bb : b.b = s0.b := by rw [hb]; rfl
  have ba : ∀ k : Nat, k ≠ 65 → k ≠ 71 → b.a k = s0.a k := fun k h1 h2 => by rw [hb, setA_nk h1, setA_nk h2]
  have baj : ∀ k j : Nat, j ≠ t → b.a k j = s0.a k j := fun k j hj => by rw [hb, setA_lo (Or.inr hj), setA_lo (Or.inr hj)]
  have b65 : b.a 65 t = 6 := by rw [hb]; exact setA_at
  have b71 : b.a 71 t = s0.i 38 := by
    rw [hb, setA_nk (by decide)]
    exact setA_at
  clear hb
  obtain ⟨gg, hgg⟩ : ∃ gg : Nat, (s0.i 43).toInt = (gg : Int) := ⟨(s0.i 43).toInt.toNat, by omega⟩
  have hwp := hv.wp
  obtain ⟨ww, hww⟩ : ∃ ww : Nat, (s0.i 56).toInt = (ww : Int) := ⟨(s0.i 56).toInt.toNat, by have := hwp.1.2.1; omega⟩
  have c43' : (u.i 43).toInt = (s0.i 43).toInt := by rw [ui 43 (by decide), c43]
  have c56' : (u.i 56).toInt = (s0.i 56).toInt := by rw [ui 56 (by decide), c56]
  have W0 : W.o a 0 = 302 := by rw [Wo, Xk 0 (by decide) (by decide)]; exact f0
  have W1 : W.o a 1 = p1.2.i 54 + 1 := by rw [Wo, Xk 1 (by decide) (by decide)]; exact f1
  have W3 : W.o a 3 = S0.i 50 := by rw [Wo, Xk 3 (by decide) (by decide), f3]; exact j50
  have W14 : W.o a 14 = S0.i 55 := by rw [Wo, Xk 14 (by decide) (by decide), f14]; exact j55
  have W16 : W.o a 16 = S0.i 56 := by rw [Wo, X16, i1 56 (by decide) (by decide)]; exact j56
  have Wrm : W.r 51 m = some a := by rw [Wr.1]; exact rr1
  have W53 : (W.i 53).toInt = (m : Int) + 1 := by rw [Wi 53 (by decide) (by decide), r53, hm']
  have W54 : (W.i 54).toInt = (S0.i 54).toInt + 1 := by rw [Wi 54 (by decide) (by decide), r54, p54]
  have W55 : W.i 55 = S0.i 55 := by rw [Wi 55 (by decide) (by decide), r55]; exact j55
  have W22 : W.i 22 = S0.i 22 := by rw [Wi 22 (by decide) (by decide), i1 22 (by decide) (by decide)]; exact o10
  have W38 : W.i 38 = S0.i 38 := by rw [Wi 38 (by decide) (by decide), i1 38 (by decide) (by decide)]; exact j38
  have W21 : W.i 21 = S0.i 21 := by rw [Wi 21 (by decide) (by decide), r21]; exact j21
  have W50 : W.i 50 = S0.i 50 := by rw [Wi 50 (by decide) (by decide), i1 50 (by decide) (by decide)]; exact j50
  have W44 : W.i 44 = q.2.i 11 := by rw [Wi 44 (by decide) (by decide), r44]; exact k11
  have k110 := hv.1.2.2.2.1.1
  have s50 := hv.2.1.1
  have nms := hv.2.1.2.1
  have u11 : (u.i 11).toInt = (q.2.i 11).toInt := by rw [ui 11 (by decide)]
  have W1i : (W.o a 1).toInt = (W.i 54).toInt := by
    rw [W1, W54]
    have z := ad1 (x := p1.2.i 54) sj1 (by omega)
    rw [z, p54]
  have q17 : (q.2.i 17).toInt = (s0.i 17).toInt + 1 := by rw [o6, t17_up (N := N) hv]
  have u17 : (u.i 17).toInt = (s0.i 17).toInt + 1 := by rw [ui 17 (by decide), q17]
  have phu : phI u = phI s0 + 3 := by
    unfold phI
    rw [ui 17 (by decide), ui 20 (by decide), o8, q17]
    omega
  have u38 : u.i 38 = s0.i 38 := by rw [ui 38 (by decide), c38]
  have i43 : u.i 43 = s0.i 43 := by rw [ui 43 (by decide), c43]
  have i56 : u.i 56 = s0.i 56 := by rw [ui 56 (by decide), c56]
  have i59 : u.i 59 = s0.i 59 := by rw [ui 59 (by decide), c59]
  have i29 : u.i 29 = s0.i 29 := by rw [ui 29 (by decide), c29]
  have i33 : u.i 33 = s0.i 33 := by rw [ui 33 (by decide), c33]
  have i24 : u.i 24 = s0.i 24 := by rw [ui 24 (by decide), c24]
  have i20 : u.i 20 = s0.i 20 := by rw [ui 20 (by decide), o8]
  have uk : ∀ k : Nat, (k = 1 ∨ k = 4 ∨ k = 25 ∨ k = 27 ∨ k = 28 ∨ k = 30 ∨ k = 34 ∨ k = 37 ∨ k = 40 ∨ k = 41 ∨ k = 44 ∨ k = 46 ∨ k = 47 ∨ k = 48 ∨ k = 49 ∨ k = 50 ∨ k = 51 ∨ k = 57 ∨ k = 58 ∨ k = 60 ∨ k = 61 ∨ k = 62) → u.a k = b.a k := fun k hk => by
    rw [ua k (by omega) (by omega) (by omega), qa k hk, ba k (by omega) (by omega)]
  have u22 : u.a 22 = b.a 22 := by rw [ua 22 (by decide) (by decide) (by decide), o9, ba 22 (by decide) (by decide)]
  have ubb : u.b 9 = b.b 9 ∧ u.b 39 = b.b 39 ∧ u.b 45 = b.b 45 := by
    rw [ub, bb]
    exact qb
  have frS : FRB (t + 1) b u := fun j hj => by
    obtain ⟨z0, z1, z2, z3, z4, z5, z6, z7, z8, z9, zb⟩ := qf j hj
    by_cases ej : j = t
    · rw [ej] at z0 z2 z3 z4 z5 z6 z8 z9 zb ⊢
      refine ⟨?_, by rw [u65, b65], ?_, ?_, ?_, ?_, ?_, by rw [u71, b71, c38], ?_, ?_, ?_⟩
      · rw [u64j t (Nat.le_refl t), z0, ba 64 (by decide) (by decide)]
      · rw [ua 66 (by decide) (by decide) (by decide), z2, ba 66 (by decide) (by decide)]
      · rw [ua 67 (by decide) (by decide) (by decide), z3, ba 67 (by decide) (by decide)]
      · rw [ua 68 (by decide) (by decide) (by decide), z4, ba 68 (by decide) (by decide)]
      · rw [ua 69 (by decide) (by decide) (by decide), z5, ba 69 (by decide) (by decide)]
      · rw [ua 70 (by decide) (by decide) (by decide), z6, ba 70 (by decide) (by decide)]
      · rw [ua 72 (by decide) (by decide) (by decide), z8, ba 72 (by decide) (by decide)]
      · rw [ua 73 (by decide) (by decide) (by decide), z9, ba 73 (by decide) (by decide)]
      · rw [ub, zb, bb]
    · refine ⟨?_, ?_, ?_, ?_, ?_, ?_, ?_, ?_, ?_, ?_, ?_⟩
      · rw [u64j j (by omega), z0, baj 64 j ej]
      · rw [u65j j (by omega), z1, baj 65 j ej]
      · rw [ua 66 (by decide) (by decide) (by decide), z2, baj 66 j ej]
      · rw [ua 67 (by decide) (by decide) (by decide), z3, baj 67 j ej]
      · rw [ua 68 (by decide) (by decide) (by decide), z4, baj 68 j ej]
      · rw [ua 69 (by decide) (by decide) (by decide), z5, baj 69 j ej]
      · rw [ua 70 (by decide) (by decide) (by decide), z6, baj 70 j ej]
      · rw [u71j j ej, z7, baj 71 j ej]
      · rw [ua 72 (by decide) (by decide) (by decide), z8, baj 72 j ej]
      · rw [ua 73 (by decide) (by decide) (by decide), z9, baj 73 j ej]
      · rw [ub, zb, bb]
  have tbb : TBB b u := by
    unfold TBB
    rw [bi, u38, i43, i56, i59, i29, i33, i24]
    refine ⟨Int.le_refl _, Int.le_refl _, Int.le_refl _, fun j _ => ⟨by rw [ubb.2.1], by rw [uk 40 (by decide)], by rw [uk 41 (by decide)]⟩, fun j _ => ⟨by rw [uk 44 (by decide)], by rw [ubb.2.2], by rw [uk 46 (by decide)], by rw [uk 47 (by decide)], by rw [uk 50 (by decide)], by rw [uk 51 (by decide)], by rw [uk 48 (by decide)], by rw [uk 49 (by decide)]⟩, fun j _ => ⟨by rw [uk 57 (by decide)], by rw [uk 58 (by decide)]⟩, Int.le_refl _, fun j _ => ⟨by rw [uk 60 (by decide)], by rw [uk 61 (by decide)], by rw [uk 62 (by decide)]⟩, Int.le_refl _, fun j _ => by rw [uk 30 (by decide)], Int.le_refl _, fun j _ => ⟨by rw [uk 34 (by decide)], by rw [uk 37 (by decide)]⟩, Int.le_refl _, fun j _ => ⟨by rw [uk 25 (by decide)], by rw [uk 27 (by decide)], by rw [uk 28 (by decide)]⟩⟩
  have no : ∀ v : Int32, v = 302 → ¬ isOne v ∧ ¬ isTy v ∧ ¬ isGo v ∧ ¬ isWl v ∧ ¬ v = 218 ∧ ¬ v = 303 ∧ ¬ v = 305 ∧ ¬ v = 216 := fun v hv => by
    rw [hv]
    unfold isOne isTy isGo isWl
    decide
  obtain ⟨no1, noT, noG, noW, n218, n303, n305, n216⟩ := no _ W0
  have wd : wid (W.o a 0) = 2 := by rw [W0]; rfl
  have rfr : RFR W u a t gg ww := RFR.m302 W0 ⟨by rw [u64j t (Nat.le_refl t), (qf t (by omega)).1]; exact h64, u65, by rw [u71, c38, W3]; exact s50.symm, u641⟩
  have s29 := hwp.1.2.2.2
  have cor : COR d W b (t + 1) [((m, a, t, gg, ww) : CEL)] 0 W u := by
    refine ⟨evu, ?_, ?_, ?_, ?_, ⟨frS, tbb, ⟨by rw [bi, i20]; exact Int.le_refl _, fun j _ => by rw [u22]⟩, ⟨by rw [bi, ui 2 (by decide), c2], by rw [bi, ui 3 (by decide), c3], by rw [bi, ui 8 (by decide), c8], uk 1 (by decide), uk 4 (by decide), ubb.1⟩⟩, ⟨?_, ?_, ?_, ?_⟩, ⟨?_, ?_, ?_, ?_, ?_⟩, ⟨?_, ?_, ?_⟩, ?_, ?_, ?_, ?_, fun _ => none, ?_⟩
    · exact ⟨_, _, _, CST.pl Wrm (by omega) rfr n218 noT, fun c0 hc => (by cases hc), trivial⟩
    · have one : ∀ y ∈ [((m, a, t, gg, ww) : CEL)], y = ((m, a, t, gg, ww) : CEL) := fun y hy => List.mem_singleton.mp hy
      have oy : ∀ y ∈ [((m, a, t, gg, ww) : CEL)], W.o y.2.1 = W.o a := fun y hy => by rw [one y hy]
      refine ⟨fun y hy z => ?_, fun y hy z => ?_, fun k hk y hy z => ?_, fun k h1 h2 => ?_, fun y hy z => ?_, fun y hy z _ h1 => ?_, fun y hy => ?_, ⟨fun i hi hg => ?_, fun y hy z => ?_⟩⟩
      · rw [oy y hy] at z
        exact absurd z noG
      · rw [oy y hy] at z
        exact absurd z noG
      · rw [oy y hy] at z
        exact absurd z noT
      · rw [bi] at h1
        rw [i59] at h2
        omega
      · rw [oy y hy] at z
        exact absurd z noT
      · rw [oy y hy] at h1
        exact absurd h1 noT
      · rw [oy y hy, W14, W55]
        refine ⟨by rw [W1i, W54, ← p54]; omega, by rw [W1i]; exact Int.le_refl _, by rw [← j55]; exact sj3, Int.le_refl _, fun z => absurd z n216⟩
      · obtain ⟨y, hy, hl⟩ := hg
        rw [oy y hy, W14] at hl
        rw [W55] at hi
        omega
      · rw [oy y hy] at z
        exact absurd z noG
    · unfold LBC
      rw [if_neg n303, if_neg (fun z => noG (by
        rcases z with z | z | z | z
        · exact Or.inr (Or.inr (Or.inl z))
        · exact Or.inr (Or.inr (Or.inr (Or.inl z)))
        · exact Or.inr (Or.inr (Or.inr (Or.inr (Or.inl z))))
        · exact Or.inr (Or.inr (Or.inr (Or.inr (Or.inr z))))))]
      trivial
    · exact ⟨fun _ _ => rfl, fun _ _ _ _ => ⟨rfl, rfl⟩, Int.le_refl _, Int.le_refl _, fun _ _ => rfl, Int.le_refl _, Int.le_refl _, fun _ _ => rfl, fun k h1 h2 => by omega, ⟨Int.le_refl _, Int.le_refl _, Int.le_refl _⟩, rfl⟩
    · rw [bi, u11]
      exact o7
    · have z : phI b = phI s0 := by
        unfold phI
        rw [bi]
      have y : PDM W [((m, a, t, gg, ww) : CEL)] = dbt (W.o a 0) + 0 := rfl
      have w : dbt (W.o a 0) = 0 := by rw [W0]; rfl
      rw [z, y, w, phu]
      omega
    · rw [bi, u17]
      omega
    · have y : SSM W [((m, a, t, gg, ww) : CEL)] = (nSg (W.o a 0) : Int) + 0 := rfl
      have w : nSg (W.o a 0) = 1 := by rw [W0]; rfl
      rw [y, w, bi, ui 19 (by decide), o12]
      rfl
    · have y : DSM W [((m, a, t, gg, ww) : CEL)] = (nDp (W.o a 0) : Int) + 0 := rfl
      have w : nDp (W.o a 0) = 0 := by rw [W0]; rfl
      rw [y, w]
      show _ = _ + ((0 : Int) + 0)
      omega
    · intro y hy
      rw [List.mem_singleton.mp hy]
      show (b.i 38).toInt ≤ (W.o a 3).toInt ∧ (W.o a 3).toInt ≤ (W.i 50).toInt
      rw [W3, W50, bi, s50]
      exact ⟨Int.le_refl _, Int.le_refl _⟩
    · intro y hy z hz l
      rw [List.mem_singleton.mp hy, List.mem_singleton.mp hz]
      exact Int.le_refl _
    · show cfl W [] (if W.o a 0 = 218 then (W.o a 13).toInt else (W.i 22).toInt) = (W.i 22).toInt
      rw [if_neg n218]
      rfl
    · intro y hy
      rw [List.mem_singleton.mp hy]
      exact ⟨fun z => absurd z noT, fun z => absurd z n218⟩
    · rw [W21, u11]
      omega
    · rw [u38, u11]
      omega
    · rw [W54, u11]
      omega
    · unfold IAR
      rw [W56, i43, uk 44 (by decide), ba 44 (by decide) (by decide)]
      have m53 : (S0.i 53).toInt = (m : Int) := by rw [← j53]; exact hm'
      refine ⟨⟨fun _ => ⟨((s0.i 43).toInt - 1).toNat, by omega, G4⟩, fun _ => by omega⟩, fun _ => ⟨by omega, by omega, a, ?_⟩⟩
      have en : (S0.i 53).toInt.toNat = m := by omega
      rw [en]
      exact Wrm
    · rw [bi]
      exact s29
    · have z : phI b = phI s0 := by
        unfold phI
        rw [bi]
      rw [z]
      exact ph3
    · rw [bi]
      exact hv.2.2.2.2.2.2.1
    · refine ⟨fun k x e => (by cases e), fun k x e => (by cases e), fun y hy z => ?_, fun k g e h => (by cases h), fun y hy z => ?_, fun y hy z _ h1 => ?_, fun y hy k p => ?_⟩
      · rw [List.mem_singleton.mp hy] at z
        exact absurd z noG
      · rw [List.mem_singleton.mp hy] at z
        exact absurd z n218
      · rw [List.mem_singleton.mp hy] at h1
        exact absurd h1 n218
      · exfalso
        rw [List.mem_singleton.mp hy] at p
        have p' : ((W.o a 0 = 203 ∨ W.o a 0 = 304) ∧ k = (u.a 66 t).toInt) ∨ (W.o a 0 = 204 ∧ k = (u.a 68 t).toInt) ∨ ((W.o a 0 = 205 ∨ W.o a 0 = 207) ∧ k = (u.a 67 t).toInt) := p
        rw [W0] at p'
        rcases p' with ⟨z | z, -⟩ | ⟨z, -⟩ | ⟨z | z, -⟩ <;> exact absurd z (by decide)
  have m53 : (S0.i 53).toInt = (m : Int) := by rw [← j53]; exact hm'
  have W9 : W.o a 9 = x := by rw [Wo]; exact X9
  have W2 : W.o a 2 = S0.i 38 := by rw [Wo, Xk 2 (by decide) (by decide), psh_o2 e5 ra]; exact j38
  obtain ⟨A20, A15, A16, A17, A23, A38, A22, A19⟩ := pe_eq (ke_X1_open N S0 123 p1 e1)
  have Wa : W.a = p1.2.a := by rw [Wr.2.2, b1]
  obtain ⟨-, -, -, -, -, -, -, -, -, -, -, -, -, -, -, -, -, -, -, -, Pa48, Pa49, -, -, -, -, -, -, -⟩ := pj_eq o5
  refine ⟨a, m, b, (m, a, t, gg, ww), ra, ?_, ?_, ?_⟩
  · rw [← hX, ← hW]
    refine ⟨⟨⟨m53, m38⟩, W53, W54, W55, W22, W38, W21, by rw [W44, k110]; exact o7, W56⟩, ⟨by rw [Wr.2.2, b1]; exact o11.1, by rw [Wr.2.2, r52]; exact j52, fun k hk => ?_, fun k y hk hy => ?_⟩, ⟨Wrm, W0, W3, W16, W14⟩, ⟨bi, bb, ba, baj⟩, ⟨W9, W2, ⟨by rw [Wi 20 (by decide) (by decide), i1 20 (by decide) (by decide), A20], W21, W22, by rw [Wi 23 (by decide) (by decide), i1 23 (by decide) (by decide), A23], W50⟩, ⟨by rw [Wa, A15], by rw [Wa, A16], by rw [Wa, A17], by rw [Wa, A19], by rw [Wa, Pa48], by rw [Wa, Pa49]⟩⟩⟩
    · rw [Wr.1, rr2 51 k (fun z => by omega), jr]
    · have ny : y ≠ a := nb k y (by omega) (by omega) (by rw [jr]; exact hy)
      rw [Wo, Xo y ny, Wr.2.1, (ob1 y ny).1, (ob1 y ny).2, jo, jol]
      exact ⟨rfl, rfl⟩
  · rw [← hX, ← hW]
    intro _
    refine ⟨a, ((s0.i 43).toInt - 1).toNat, by rw [W56]; omega, ?_, by rw [bi]; omega, by rw [ba 44 (by decide) (by decide)]; exact G4, fun FC SF nm X' h0 ω c0 h => h⟩
    have en : (W.i 56).toInt.toNat = m := by rw [W56]; omega
    rw [en]
    exact Wrm
  · rw [← hX, ← hW, hVe]
    refine ⟨0, cor, ⟨?_, ?_, ?_⟩, ⟨Or.inl ⟨no1, n305, ?_, ?_, Or.inl ⟨?_, W36⟩, fun z => absurd z n218⟩, Or.inr W36⟩, ?_, ?_, fun z => absurd z.1 no1, ?_⟩
    · exact W53
    · show (u.i 43).toInt = (gg : Int) + (nGo (W.o a 0) : Int)
      rw [nGo.eq noG]
      omega
    · show (u.i 56).toInt = (ww : Int) + (nWl (W.o a 0) : Int)
      rw [nWl.eq noW]
      omega
    · show tpI u = (t : Int) + (wid (W.o a 0) : Int) - 1
      rw [wd, tu]
      omega
    · show u.a 64 (t + wid (W.o a 0) - 1) = 1
      rw [wd]
      exact u641
    · show u.a 65 (t + wid (W.o a 0) - 1) = 0
      rw [wd]
      exact u651
    · refine ⟨⟨noG, noT⟩, ⟨by rw [bi]; exact hgg, Or.inr ?_⟩, by rw [bi]; exact hww, by show (W.i 54).toInt ≤ (W.o a 1).toInt; rw [W1i]; exact Int.le_refl _, fun z => ?_, ⟨W53, Wrm, by rw [bi]; exact nms.1, by show (W.i 55).toInt ≤ (W.o a 14).toInt; rw [W14, W55]; exact Int.le_refl _, by rw [W38, ← j38]; exact sj5, ?_⟩, Or.inl ⟨by show (m : Int) = (W.i 56).toInt; rw [W56, m53], W0⟩⟩
      · show b.a 44 (gg - 1) = 3
        have en : ((s0.i 43).toInt - 1).toNat = gg - 1 := by omega
        rw [ba 44 (by decide) (by decide), ← en]
        exact G4
      · rw [bi] at z ⊢
        rw [ba 58 (by decide) (by decide)]
        exact hwp.1.2.2.1 z
      · unfold WPI at *
        rw [bi, ba 58 (by decide) (by decide), ba 62 (by decide) (by decide)]
        exact hwp
    · show t + 1 + 1 = t + wid (W.o a 0)
      rw [wd]
    · have qeu : qe u = qe s0 := by
        have z := kre_f_X12_open N s0 123 q hq
        obtain ⟨⟨h1, h2, h3, h4, h5, h6⟩, h21, h22, h23, h25, h26, h27, h28, h30, h31, h32, h34, h35, h36, h37⟩ := qe_eq z
        unfold qe
        rw [ui 20 (by decide), ui 24 (by decide), ui 29 (by decide), ui 33 (by decide), ui 42 (by decide), ui 52 (by decide), ua 21 (by decide) (by decide) (by decide), ua 22 (by decide) (by decide) (by decide), ua 23 (by decide) (by decide) (by decide), ua 25 (by decide) (by decide) (by decide), ua 26 (by decide) (by decide) (by decide), ua 27 (by decide) (by decide) (by decide), ua 28 (by decide) (by decide) (by decide), ua 30 (by decide) (by decide) (by decide), ua 31 (by decide) (by decide) (by decide), ua 32 (by decide) (by decide) (by decide), ua 34 (by decide) (by decide) (by decide), ua 35 (by decide) (by decide) (by decide), ua 36 (by decide) (by decide) (by decide), ua 37 (by decide) (by decide) (by decide), h1, h2, h3, h4, h5, h6, h21, h22, h23, h25, h26, h27, h28, h30, h31, h32, h34, h35, h36, h37]
      obtain ⟨⟨h1, h2, h3, h4, h5, h6⟩, h21, h22, h23, h25, h26, h27, h28, h30, h31, h32, h34, h35, h36, h37⟩ := qe_eq qeu
      have bk : ∀ k : Nat, k ≠ 65 → k ≠ 71 → u.a k = s0.a k → u.a k = b.a k := fun k k1 k2 z => by rw [ba k k1 k2]; exact z
      refine (JRW.ini (r := vw W u (m, a, t, gg, ww)) (Or.inr ?_) W36 ⟨⟨by rw [bi]; exact h1, by rw [bi]; exact h2, by rw [bi]; exact h3, by rw [bi]; exact h4, by rw [bi]; exact h5⟩, bk 21 (by decide) (by decide) h21, bk 22 (by decide) (by decide) h22, bk 23 (by decide) (by decide) h23, bk 25 (by decide) (by decide) h25, bk 26 (by decide) (by decide) h26, bk 27 (by decide) (by decide) h27, bk 28 (by decide) (by decide) h28, bk 30 (by decide) (by decide) h30, bk 31 (by decide) (by decide) h31, bk 32 (by decide) (by decide) h32, bk 34 (by decide) (by decide) h34, bk 35 (by decide) (by decide) h35, bk 36 (by decide) (by decide) h36, bk 37 (by decide) (by decide) h37⟩ (by rw [bi]; exact h6) ⟨by rw [bi]; exact u38, fun j _ => by rw [uk 40 (by decide)]⟩ (by rw [bi, u11]; omega) (by rw [bi, ui 19 (by decide), o12]; omega)).x
      exact vw_v.trans W0
