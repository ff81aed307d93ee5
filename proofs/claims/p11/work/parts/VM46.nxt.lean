/-! both machines: the next value of a row -/
theorem xi_37 {N : Nat} {s : CS} {R : Unit × CS} (h : cOp s = 37) (e : f_X3_instruction N s = some R) : R.2 = cPu (cNx s) (if gAt (s.a 59) 720 (cAr s + 1) ≤ gAt (s.a 59) 720 (cAr s) then 0 else 1) := by
  have z := xi_ste (by rw [h]; decide) (by rw [h]; decide) (by rw [h]; decide) e
  rw [h] at z
  unfold f_X3_steer f_X3_steer_174 at z
  rw [if_neg (by decide), if_neg (by decide), if_neg (by decide), if_neg (by decide), if_neg (by decide), if_neg (by decide), if_neg (by decide), if_pos rfl] at z
  by_cases c : gAt (s.a 59) 720 (cAr s + 1) ≤ gAt (s.a 59) 720 (cAr s)
  · rw [if_pos c]
    have z2 := (if_pos (show gAt ((cNx s).a 59) 720 (cAr s + 1) ≤ gAt ((cNx s).a 59) 720 (cAr s) from c)).symm.trans z
    rw [e_cPu, ob_some] at z2
    rw [← Option.some.inj z2]
  · rw [if_neg c]
    have z2 := (if_neg (show ¬ gAt ((cNx s).a 59) 720 (cAr s + 1) ≤ gAt ((cNx s).a 59) 720 (cAr s) from c)).symm.trans z
    rw [e_cPu, ob_some] at z2
    rw [← Option.some.inj z2]
theorem xi_38 {N : Nat} {s : CS} {R : Unit × CS} (h : cOp s = 38) (e : f_X3_instruction N s = some R) : R.2 = CS.putA (cPu (cNx s) (gAt (s.a 59) 720 (cAr s + 2 + gAt (s.a 59) 720 (cAr s)))) 59 (gPut (s.a 59) 720 (cAr s) (gAt (s.a 59) 720 (cAr s) + 1)) := by
  have z := xi_ste (by rw [h]; decide) (by rw [h]; decide) (by rw [h]; decide) e
  rw [h] at z
  unfold f_X3_steer at z
  rw [if_neg (by decide), if_neg (by decide), if_neg (by decide), if_neg (by decide), if_neg (by decide), if_neg (by decide), if_neg (by decide), if_neg (by decide), e_cPu, ob_some] at z
  obtain ⟨Y, hY⟩ : ∃ Y, Y = cPu (cNx s) (gAt ((cNx s).a 59) 720 (cAr s + 2 + gAt ((cNx s).a 59) 720 (cAr s))) := ⟨_, rfl⟩
  have y59 : Y.a 59 = s.a 59 := by
    rw [hY, cPu_a (by decide)]
    rfl
  have z2 : some ((), CS.putA Y 59 (gPut (Y.a 59) 720 (cAr s) (gAt (Y.a 59) 720 (cAr s) + 1))) = some R := by
    rw [hY]
    exact z
  rw [← Option.some.inj z2, y59, hY]
  rfl
def URwn (s0 : CS) (r0 : RS) (nm : Nat → Nat → Prop) (AL : Als) (p q h w : Nat) (c : List Ent) : Prop := (s0.a 15 p = 37 ∧ s0.a 15 (p + 1) = 31 ∧ s0.a 15 (p + 2) = 51 ∧ s0.a 15 (p + 3) = 38 ∧ s0.a 15 (p + 4) = 2 ∧ p + 4 < 1200 ∧ r0.a 21 q = 24) ∧ (5 ≤ w ∧ h < 600) ∧ ∃ (a : Ent) (c0 : List Ent) (k0 l0 w' : Nat), c = a :: c0 ∧ a.k = 4 ∧ ((s0.a 16 p).toInt = (a.x : Int) ∧ (s0.a 16 (p + 3)).toInt = (a.x : Int) ∧ (s0.a 16 (p + 4)).toInt = (k0 : Int) ∧ (r0.a 23 q).toInt = (l0 : Int) ∧ nm k0 l0) ∧ JX s0 AL (s0.a 16 (p + 1)) (r0.a 22 q) h w 2 0 c ∧ w' ≤ w + 2528 ∧ AL (p + 5) (q + 1) h w' 0 c
theorem u_rwn {N H n : Nat} (hN : 10000000000 ≤ N) {D : Nat → List Nat} {T : Int32 × CS} {s0 : CS} {r0 : RS} {nm : Nat → Nat → Prop} {AL : Als} {s : CS} {r : RS} {mu : Nat → Nat} {h p q w g : Nat} {c : List Ent} {x : Int32} {U : Int32 × RS} (hct : HCT nm AL) (nn : NMP nm) (pt : PTX N H D T s0 r0 nm AL s r mu h p q w g c x) (hq : (q : Int) < (r0.i 20).toInt) (u : URwn s0 r0 nm AL p q h w c) (e : f_X12_run_122 N n r = some U) : NXTW N H D T s0 r0 nm AL n U := by
  obtain ⟨⟨y1, y2, y3, y4, y5, y6, y7⟩, ⟨y8, y9⟩, a, c0, k0, l0, w', ec, ak, ⟨z1, z2, z3, z4, z5⟩, ⟨p', q', we, ⟨j1, j2⟩, j3, j4⟩, w1, w2⟩ := u
  obtain ⟨m, SA, V, hn, ⟨e1, e2, e3, e4⟩, ⟨v1, v2, v3⟩, ⟨o1, o2⟩, oc, ⟨hp, hq3⟩, x1⟩ := pt_tick hN hct pt hq (by omega) e
  obtain ⟨bx, x0⟩ := bud_x pt
  have rf := pt.2.1
  have h21 : r.a 21 q = r0.a 21 q := by rw [rf.2 21 (by decide)]
  have h22 : r.a 22 q = r0.a 22 q := by rw [rf.2 22 (by decide)]
  have h23 : r.a 23 q = r0.a 23 q := by rw [rf.2 23 (by decide)]
  have mc := pt.2.2.1.1
  obtain ⟨-, ck, -⟩ := hct _ _ _ _ _ _ pt.2.2.2.2.1
  have gn := gcr_nn (g := g)
  have gn' := gpo_nn (g := g)
  have b6 := pt.2.2.2.2.2
  have dyn := pt.2.2.1.2.1
  have tlr := pt.2.2.1.2.2
  have hv := mc.2.1
  -- the row
  have fr := dyn.1.1
  rw [ec] at fr ck
  obtain ⟨d0, d1⟩ := fr
  have d99 := dyn.1.2.1.2
  rw [ec] at d99
  obtain ⟨i1, i2⟩ := idx1 (r := r) (k := c0.length) d99
  have rw4 : r.a 100 c0.length = 2 ∧ ∃ m0 : Int, RWV s r a c0.length m0 (r.i 97).toInt ∧ FRS s r mu AL c0 m0 := by
    rcases d1 with ⟨k0, -⟩ | ⟨k0, -⟩ | ⟨k0, -⟩ | ⟨k0, -⟩ | ⟨k4, a1, m0, a2, a3⟩ | ⟨k0, -⟩
    · omega
    · omega
    · omega
    · omega
    · exact ⟨a1, m0, a2, a3⟩
    · omega
  obtain ⟨a1, m0, ⟨i, b1, b2, b3, b4, b5, b6', b7, b8, b9⟩, fr0⟩ := rw4
  obtain ⟨ck1, ck2, ck3⟩ := ck
  have cx : a.x < 720 := (ck1 a.x (Or.inr ⟨ak, by omega, by omega⟩)).1
  have cx1 : a.x + 1 < 720 := (ck1 (a.x + 1) (Or.inr ⟨ak, by omega, by omega⟩)).1
  have ar : (cAr s).toInt = (a.x : Int) := by
    rw [o2]
    exact z1
  have ar1 : (cAr s + 1).toInt = ((a.x + 1 : Nat) : Int) := by
    rw [ad1 (by omega) (by omega), ar]
    rfl
  have ga0 : gAt (s.a 59) 720 (cAr s) = s.a 59 a.x := by
    unfold gAt
    rw [if_pos ⟨by omega, by omega⟩, cl_nat ar]
  have ga1 : gAt (s.a 59) 720 (cAr s + 1) = s.a 59 (a.x + 1) := by
    unfold gAt
    rw [if_pos ⟨by omega, by omega⟩, cl_nat ar1]
  have eA : SA = cPu (cNx s) (if s.a 59 (a.x + 1) ≤ s.a 59 a.x then 0 else 1) := by
    have := xi_37 (o1.trans y1) e1
    rw [ga0, ga1] at this
    exact this
  -- behind HAS
  have q65 : ((cNx s).i 65).toInt = (h : Int) := by
    rw [cNx_i (by decide)]
    exact hv.1.1
  have A65 : (SA.i 65).toInt = (h : Int) + 1 := by
    rw [eA]
    show ((CS.setI (CS.putA (cNx s) 60 (gPut ((cNx s).a 60) 600 ((cNx s).i 65) _)) 65 ((cNx s).i 65 + 1)).i 65).toInt = _
    rw [ci_at, ad1 (by omega) (by omega), q65]
  have A66 : (SA.i 66).toInt = ((p + 1 : Nat) : Int) := by
    rw [eA, cPu_i (by decide)]
    exact cNx_66 mc.1.2.1 (by omega)
  have Ai : ∀ j : Nat, j ≠ 65 → j ≠ 66 → SA.i j = s.i j := fun j a b => by rw [eA, cPu_i a, cNx_i b]
  have Aa : ∀ j : Nat, j ≠ 60 → SA.a j = s.a j := fun j a => by
    rw [eA, cPu_a a]
    rfl
  have A60 : ∀ j : Nat, j < h → SA.a 60 j = s.a 60 j := fun j hj => by
    rw [eA]
    show gPut ((cNx s).a 60) 600 ((cNx s).i 65) _ j = s.a 60 j
    unfold gPut
    rw [if_pos ⟨by omega, by omega⟩, cl_nat q65]
    exact if_neg (by omega)
  have Ar : SA.r = s.r ∧ SA.w = s.w ∧ SA.o = s.o ∧ SA.ot = s.ot ∧ SA.oa = s.oa := by
    rw [eA]
    exact ⟨rfl, rfl, rfl, rfl, rfl⟩
  have ctA : cTp SA = if s.a 59 (a.x + 1) ≤ s.a 59 a.x then 0 else 1 := by
    rw [cTp_at A65 y9, eA]
    exact cPu_top q65 y9
  have A72 : SA.i 72 = -1 := (Ai 72 (by decide) (by decide)).trans mc.1.1.1
  have A73 : SA.i 73 = 0 := (Ai 73 (by decide) (by decide)).trans mc.1.1.2
  obtain ⟨SB, f1, f2, -, ⟨f4, f5⟩, f6, x2⟩ := tick2 hN (e3 A72) A72 A73 A66 (by omega) (by omega)
  have f7 : SB = if cTp SA = 0 then CS.setI (cPo (cNx SA)) 66 (cTg SA (cAr SA)) else cPo (cNx SA) := xi_31 (f4.trans y2) f1
  have P65 : ((cPo (cNx SA)).i 65) = s.i 65 := Int32.toInt_inj.mp (by
    rw [hv.1.1]
    show ((CS.setI (cNx SA) 65 ((cNx SA).i 65 - 1)).i 65).toInt = _
    rw [ci_at]
    exact sub_n1 (by rw [cNx_i (by decide)]; exact A65))
  have Pi : ∀ j : Nat, j ≠ 66 → (cPo (cNx SA)).i j = s.i j := fun j b => by
    by_cases z : j = 65
    · rw [z]
      exact P65
    · rw [cPo_i z, cNx_i b, Ai j z b]
  have P66 : ((cPo (cNx SA)).i 66).toInt = ((p + 2 : Nat) : Int) := by
    rw [cPo_i (by decide)]
    exact cNx_66 A66 (by omega)
  have e0 : (0 : Int32).toInt = 0 := by decide
  have g1 := xp_24 (r := rNx r) (by rw [mc.clq]; exact h21.trans y7) v1
  have r99 : (rNx r).i 99 = r.i 99 := rNx_i (by decide)
  rw [r99, i2, mc.clq] at g1
  obtain ⟨tnx, -⟩ := un_toR (y := r.i 92 + 1) (q' := q + 1) mc (by rw [ad1 (by have := mc.1.2.2; omega) (by have := mc.1.2.2; omega), mc.1.2.2]; rfl)
  by_cases full : i = a.y
  · -- the row is at its end
    have le : s.a 59 (a.x + 1) ≤ s.a 59 a.x := by
      rw [Int32.le_iff_toInt_le]
      omega
    rw [ctA, if_pos le, if_pos rfl] at f7
    rcases g1 with ⟨-, g1⟩ | ⟨g1, -⟩
    · obtain ⟨m1, m2⟩ := un_pc (S := SB) (p' := p') mc (fun j b => by rw [f7, ci_ne _ _ _ b]; exact Pi j b) (fun k b => by rw [f7]; exact Aa k b) (fun k b => by rw [f7]; exact A60 k b) (by rw [f7]; exact Ar) (by rw [f7, ci_at, f6, f5]; exact j1)
      obtain ⟨n1, n2⟩ := un_toR (y := (rNx r).a 22 q) (q' := q') m1 (by show (r.a 22 q).toInt = _; rw [h22]; exact j2)
      have eV : V = RS.setI r 92 ((rNx r).a 22 q) ∨ True := Or.inr True.intro
      have Vi : ∀ j : Nat, j ≠ 92 → V.i j = r.i j := fun j b => by rw [g1, ri_ne b, rNx_i b]
      have Va : V.a = r.a := by
        rw [g1]
        rfl
      have ev : EXV nm r V := ⟨fun j _ _ b _ => Vi j b, fun k _ _ _ _ => by rw [Va], fun l _ => by rw [Va], le_80 (Vi 80 (by decide))⟩
      have m3 : MCO nm SB V h p' q' := by
        obtain ⟨⟨k1, k2, -⟩, k4, k5, k6⟩ := m1
        exact ⟨⟨k1, k2, by rw [g1, ri_at]; show (r.a 22 q).toInt = _; rw [h22]; exact j2⟩, k4.of rfl rfl (Vi 93 (by decide)) (by rw [Va]), k5.of rfl rfl rfl (Vi 80 (by decide)) (Vi 81 (by decide)) (by rw [Va]) (by rw [Va]), by rw [Va]; exact k6⟩
      exact pl_fink (k := 2) hct pt (by omega) (by omega) (f2 m3.1.1.1) v3 v2 m3 m2 ev j4 j3 (by decide) (BTP.no (by decide))
    · have q1 : (rNx r).a 102 c0.length = (rNx r).a 103 c0.length := Int32.toInt_inj.mp (by
        show (r.a 102 c0.length).toInt = (r.a 103 c0.length).toInt
        omega)
      exact absurd q1 g1
  · -- one more
    have nle : ¬ s.a 59 (a.x + 1) ≤ s.a 59 a.x := fun z => by
      have := le_int z
      omega
    rw [ctA, if_neg nle, if_neg n10] at f7
    rcases g1 with ⟨g1, -⟩ | ⟨-, P, g1, g2⟩
    · have q1 : (r.a 102 c0.length).toInt = (r.a 103 c0.length).toInt := congrArg Int32.toInt g1
      omega
    · have B72 : SB.i 72 = -1 := by rw [f7, Pi 72 (by decide)]; exact mc.1.1.1
      have B73 : SB.i 73 = 0 := by rw [f7, Pi 73 (by decide)]; exact mc.1.1.2
      have B66 : (SB.i 66).toInt = ((p + 2 : Nat) : Int) := by rw [f7]; exact P66
      obtain ⟨SC, c1, c2, c3, ⟨c4, c5⟩, c6, x3⟩ := tick2 hN (f2 B72) B72 B73 B66 (by omega) (by omega)
      have cs : f_X3_step N (cNx SB) = some ((), SC) := xi_51 (c4.trans y3) c1
      have Bi : ∀ j : Nat, j ≠ 66 → SB.i j = s.i j := fun j b => by rw [f7]; exact Pi j b
      have Ba : ∀ j : Nat, j ≠ 60 → SB.a j = s.a j := fun j b => by rw [f7]; exact Aa j b
      have B60 : ∀ j : Nat, j < h → SB.a 60 j = s.a 60 j := fun j b => by rw [f7]; exact A60 j b
      have Br : SB.r = s.r ∧ SB.w = s.w ∧ SB.o = s.o ∧ SB.ot = s.ot ∧ SB.oa = s.oa := by rw [f7]; exact Ar
      have mB : MTR (cNx SB) (rNx r) := mc.2.2.1.of (by rw [cNx_i (by decide), Bi 69 (by decide)]) (by rw [cNx_i (by decide), Bi 70 (by decide)]) (Ba 64 (by decide)) (rNx_i (by decide)) (rNx_i (by decide)) rfl rfl
      rcases mB.step cs g1 with ⟨s1, s2⟩ | ⟨⟨s1, s2⟩, s3, s4⟩
      · -- no step is left
        right
        have s1' : SC = CS.setI (cNx SB) 72 3 := s1
        have s72 : SC.i 72 = 3 := by rw [s1', ci_at]
        have Vp : ∀ j : Nat, V.i j = P.i j := fun j => by
          rw [g2]
          rfl
        have v115 : V.i 115 = 5 := by rw [Vp, s2, ri_ne (by decide), ri_at]
        have eT := c3 (by rw [s72]; decide)
        have ru := rn_end (Or.inl (by rw [Vp, s2, ri_at]; decide)) v2
        unfold f_X12_run_163 at ru
        rw [if_neg (by rw [v115]; decide), if_neg (by rw [v115]; decide), if_pos v115] at ru
        rw [eT, ← Option.some.inj ru]
        have Va : ∀ k : Nat, k ≠ 84 → k ≠ 102 → V.a k = r.a k := fun k b d => by
          rw [g2, setA_nk d, setA_nk b, s2]
          rfl
        have Vi : ∀ j : Nat, j ≠ 92 → j ≠ 115 → V.i j = r.i j := fun j b d => by rw [Vp, s2, ri_ne b, ri_ne d, rNx_i b]
        have Ci : ∀ j : Nat, j ≠ 66 → j ≠ 72 → SC.i j = s.i j := fun j b d => by rw [s1', ci_ne _ _ _ d, cNx_i b, Bi j b]
        have Ca : SC.a 64 = s.a 64 := by
          rw [s1']
          exact Ba 64 (by decide)
        obtain ⟨⟨m1, -, -⟩, ⟨m2, m3⟩, m4⟩ := mc.2.2.1
        refine ⟨⟨⟨?_, ?_, ?_⟩, ⟨⟨fun z => ?_, fun z => ?_⟩, fun z => ?_, fun z => ?_⟩, fun z => ?_, fun k hk => ?_, ?_, fun z => ?_⟩, s72⟩
        · show SC.i 70 = V.i 80
          rw [Ci 70 (by decide) (by decide), Vi 80 (by decide) (by decide)]
          exact m1
        · show SC.i 69 = V.i 81
          rw [Ci 69 (by decide) (by decide), Vi 81 (by decide) (by decide)]
          exact m2
        · show 0 ≤ (V.i 81).toInt ∧ (V.i 81).toInt ≤ 200
          rw [Vi 81 (by decide) (by decide)]
          exact m3
        · have z' : SC.i 72 = 1 := z
          rw [s72] at z'
          exact absurd z' (by decide)
        · have z' : V.i 115 = 2 := z
          rw [v115] at z'
          exact absurd z' (by decide)
        · have z' : SC.i 72 = 2 := z
          rw [s72] at z'
          exact absurd z' (by decide)
        · have z' : V.i 115 = 3 := z
          rw [v115] at z'
          exact absurd z' (by decide)
        · have z' : V.i 115 = 2 := z
          rw [v115] at z'
          exact absurd z' (by decide)
        · have hk' : (k : Int) < (V.i 81).toInt := hk
          rw [Vi 81 (by decide) (by decide)] at hk'
          show SC.a 64 (2 * k) = V.a 82 k ∧ SC.a 64 (2 * k + 1) = V.a 83 k
          rw [Ca, Va 82 (by decide) (by decide), Va 83 (by decide) (by decide)]
          exact m4 k hk'
        · show SC.i 71 = hS V 8
          rw [Ci 71 (by decide) (by decide), hS_of (r := r) (R := V) (Va 91 (by decide) (by decide)) 8]
          exact dyn.1.2.2.1
        · have z' : V.i 115 = 3 := z
          rw [v115] at z'
          exact absurd z' (by decide)
      · -- a value is taken
        have s1' : SC = CS.setI (cNx SB) 70 ((cNx SB).i 70 + 1) := s1
        have Ci : ∀ j : Nat, j ≠ 66 → j ≠ 70 → SC.i j = s.i j := fun j b d => by rw [s1', ci_ne _ _ _ d, cNx_i b, Bi j b]
        have Ca : ∀ j : Nat, j ≠ 60 → SC.a j = s.a j := fun j b => by
          rw [s1']
          exact Ba j b
        have C60 : ∀ j : Nat, j < h → SC.a 60 j = s.a 60 j := fun j b => by
          rw [s1']
          exact B60 j b
        have Cr : SC.r = s.r ∧ SC.w = s.w ∧ SC.o = s.o ∧ SC.ot = s.ot ∧ SC.oa = s.oa := by
          rw [s1']
          exact Br
        have C66 : (SC.i 66).toInt = ((p + 3 : Nat) : Int) := by
          rw [s1', ci_ne _ _ _ (by decide)]
          exact cNx_66 B66 (by omega)
        have C72 : SC.i 72 = -1 := (Ci 72 (by decide) (by decide)).trans mc.1.1.1
        have C73 : SC.i 73 = 0 := (Ci 73 (by decide) (by decide)).trans mc.1.1.2
        obtain ⟨SD, k1, k2, -, ⟨k4, k5⟩, k6, x4⟩ := tick2 hN (c2 C72) C72 C73 C66 (by omega) (by omega)
        have arC : (cAr SC).toInt = (a.x : Int) := by
          rw [k5]
          exact z2
        have gc0 : gAt (SC.a 59) 720 (cAr SC) = s.a 59 a.x := by
          unfold gAt
          rw [if_pos ⟨by omega, by omega⟩, cl_nat arC, Ca 59 (by decide)]
        have e2' : (2 : Int32).toInt = 2 := by decide
        have r2 : (cAr SC + 2).toInt = (a.x : Int) + 2 := by rw [toInt_add] <;> rw [e2'] <;> omega
        have cxi : a.x + 2 + i < 720 := (ck1 (a.x + 2 + i) (Or.inr ⟨ak, by omega, by omega⟩)).1
        have r3 : (cAr SC + 2 + s.a 59 a.x).toInt = ((a.x + 2 + i : Nat) : Int) := by rw [toInt_add] <;> rw [r2, b7] <;> omega
        have gci : gAt (SC.a 59) 720 (cAr SC + 2 + s.a 59 a.x) = s.a 59 (a.x + 2 + i) := by
          unfold gAt
          rw [if_pos ⟨by omega, by omega⟩, cl_nat r3, Ca 59 (by decide)]
        have gpc : gPut (SC.a 59) 720 (cAr SC) (s.a 59 a.x + 1) = upd (s.a 59) a.x (s.a 59 a.x + 1) := by
          unfold gPut
          rw [if_pos ⟨by omega, by omega⟩, cl_nat arC, Ca 59 (by decide)]
        have eD : SD = CS.putA (cPu (cNx SC) (s.a 59 (a.x + 2 + i))) 59 (upd (s.a 59) a.x (s.a 59 a.x + 1)) := by
          have := xi_38 (k4.trans y4) k1
          rw [gc0, gci, gpc] at this
          exact this
        have qc65 : ((cNx SC).i 65).toInt = (h : Int) := by
          rw [cNx_i (by decide), Ci 65 (by decide) (by decide)]
          exact hv.1.1
        have D65 : (SD.i 65).toInt = (h : Int) + 1 := by
          rw [eD]
          show ((cPu (cNx SC) (s.a 59 (a.x + 2 + i))).i 65).toInt = _
          unfold cPu
          rw [ci_at, ad1 (by omega) (by omega), qc65]
        have Di : ∀ j : Nat, j ≠ 65 → j ≠ 66 → SD.i j = SC.i j := fun j b d => by
          rw [eD]
          show (cPu (cNx SC) (s.a 59 (a.x + 2 + i))).i j = _
          rw [cPu_i b, cNx_i d]
        have D66 : (SD.i 66).toInt = ((p + 4 : Nat) : Int) := by
          rw [eD]
          show ((cPu (cNx SC) (s.a 59 (a.x + 2 + i))).i 66).toInt = _
          rw [cPu_i (by decide)]
          exact cNx_66 C66 (by omega)
        have Da : ∀ j : Nat, j ≠ 59 → j ≠ 60 → SD.a j = SC.a j := fun j b d => by
          rw [eD, cpA_ne b, cPu_a d]
          rfl
        have D59 : SD.a 59 = upd (s.a 59) a.x (s.a 59 a.x + 1) := by
          rw [eD]
          rfl
        have D60e : SD.a 60 = (cPu (cNx SC) (s.a 59 (a.x + 2 + i))).a 60 := by rw [eD, cpA_ne (by decide)]
        have D60 : ∀ j : Nat, j < h → SD.a 60 j = SC.a 60 j := fun j b => by
          rw [D60e]
          show gPut ((cNx SC).a 60) 600 ((cNx SC).i 65) _ j = SC.a 60 j
          unfold gPut
          rw [if_pos ⟨by omega, by omega⟩, cl_nat qc65]
          exact if_neg (by omega)
        have Dr : SD.r = SC.r ∧ SD.w = SC.w ∧ SD.o = SC.o ∧ SD.ot = SC.ot ∧ SD.oa = SC.oa := by
          rw [eD]
          exact ⟨rfl, rfl, rfl, rfl, rfl⟩
        have ctD : cTp SD = s.a 59 (a.x + 2 + i) := by
          rw [cTp_at D65 y9, D60e]
          exact cPu_top qc65 y9
        have D72 : SD.i 72 = -1 := (Di 72 (by decide) (by decide)).trans C72
        have D73 : SD.i 73 = 0 := (Di 73 (by decide) (by decide)).trans C73
        obtain ⟨SE, l1, l2, -, ⟨l4, l5⟩, l6, x5⟩ := tick2 hN (k2 D72) D72 D73 D66 (by omega) (by omega)
        obtain ⟨kk7, ll4⟩ := nn.1 k0 l0 z5
        have arD : (cAr SD).toInt = (k0 : Int) := by
          rw [l5]
          exact z3
        have eE : SE = CS.putA (cPo (cNx SD)) 59 (upd (SD.a 59) k0 (s.a 59 (a.x + 2 + i))) := by
          have := xi_2 (l4.trans y5) l1
          have gq : gPut (SD.a 59) 720 (cAr SD) (cTp SD) = upd (SD.a 59) k0 (s.a 59 (a.x + 2 + i)) := by
            unfold gPut
            rw [if_pos ⟨by omega, by omega⟩, cl_nat arD, ctD]
          rw [gq] at this
          exact this
        have Ei : ∀ j : Nat, j ≠ 66 → j ≠ 70 → SE.i j = s.i j := fun j b d => by
          rw [eE]
          show (cPo (cNx SD)).i j = s.i j
          by_cases z : j = 65
          · rw [z]
            exact Int32.toInt_inj.mp (by
              rw [hv.1.1]
              show ((CS.setI (cNx SD) 65 ((cNx SD).i 65 - 1)).i 65).toInt = _
              rw [ci_at]
              exact sub_n1 (by rw [cNx_i (by decide)]; exact D65))
          · rw [cPo_i z, cNx_i b, Di j z b, Ci j b d]
        have E70 : SE.i 70 = SC.i 70 := by
          rw [eE]
          show (cPo (cNx SD)).i 70 = _
          rw [cPo_i (by decide), cNx_i (by decide), Di 70 (by decide) (by decide)]
        have E66 : (SE.i 66).toInt = ((p + 5 : Nat) : Int) := by
          rw [eE]
          show ((cPo (cNx SD)).i 66).toInt = _
          rw [cPo_i (by decide)]
          exact cNx_66 D66 (by omega)
        have Ea : ∀ j : Nat, j ≠ 59 → j ≠ 60 → SE.a j = s.a j := fun j b d => by
          rw [eE, cpA_ne b]
          show SD.a j = s.a j
          rw [Da j b d, Ca j d]
        have E59 : ∀ j : Nat, SE.a 59 j = if j = k0 then s.a 59 (a.x + 2 + i) else if j = a.x then s.a 59 a.x + 1 else s.a 59 j := fun j => by
          rw [eE, D59]
          rfl
        have E60 : ∀ j : Nat, j < h → SE.a 60 j = s.a 60 j := fun j b => by
          rw [eE, cpA_ne (by decide)]
          show SD.a 60 j = s.a 60 j
          rw [D60 j b, C60 j b]
        have Er : SE.r = s.r ∧ SE.o = s.o ∧ SE.ot = s.ot ∧ SE.oa = s.oa := by
          obtain ⟨r1, r2, r3, r4, r5⟩ := Dr
          obtain ⟨t1, t2, t3, t4, t5⟩ := Cr
          rw [eE]
          exact ⟨r1.trans t1, r3.trans t3, r4.trans t4, r5.trans t5⟩
        obtain ⟨er1, er2, er3, er4⟩ := Er
        -- the reference
        have nk : ∀ k : Nat, cel a k → k ≠ k0 := fun k hk z => (ck1 k hk).2.1 l0 (by rw [z]; exact z5)
        have Pa : P.a = r.a := by
          rw [s2]
          rfl
        have Pi' : ∀ j : Nat, j ≠ 80 → P.i j = (rNx r).i j := fun j b => by rw [s2, ri_ne b]
        have p23 : (P.a 23 q).toNatClampNeg = l0 := by
          rw [Pa, h23]
          exact cl_nat z4
        obtain ⟨mm, hmm⟩ : ∃ mm : Nat, m0 = (mm : Int) := ⟨m0.toNat, by omega⟩
        have p102 : (P.a 102 c0.length).toInt = ((mm + i : Nat) : Int) := by
          rw [Pa, b5, hmm]
          omega
        rw [p23, cl_nat p102] at g2
        have V84 : ∀ l : Nat, V.a 84 l = if l = l0 then r.a 98 (mm + i) else r.a 84 l := fun l => by
          rw [g2, setA_nk (by decide)]
          by_cases z : l = l0
          · rw [z, setA_at, if_pos rfl, Pa]
          · rw [setA_ne z, if_neg z, Pa]
        have V102 : V.a 102 c0.length = r.a 102 c0.length + 1 := by rw [g2, setA_at, Pa]
        have V102' : ∀ k : Nat, k ≠ c0.length → V.a 102 k = r.a 102 k := fun k b => by rw [g2, setA_ne b, setA_nk (by decide), Pa]
        have Va : ∀ k : Nat, k ≠ 84 → k ≠ 102 → V.a k = r.a k := fun k b d => by rw [g2, setA_nk d, setA_nk b, Pa]
        have Vi : ∀ j : Nat, j ≠ 80 → j ≠ 92 → V.i j = r.i j := fun j b d => by
          rw [g2]
          show P.i j = r.i j
          rw [Pi' j b, rNx_i d]
        have V80 : V.i 80 = P.i 80 := by
          rw [g2]
          rfl
        have V80t : (V.i 80).toInt = (r.i 80).toInt + 1 := by
          rw [V80, s4, rNx_i (by decide)]
        have V92 : (V.i 92).toInt = ((q + 1 : Nat) : Int) := by
          rw [g2]
          show (P.i 92).toInt = _
          rw [Pi' 92 (by decide)]
          exact tnx.1.2.2
        have bval : s.a 59 (a.x + 2 + i) = r.a 98 (mm + i) := by
          rw [b9 i (by omega), hmm]
          rfl
        have tlv : ∀ b' : Nat, TLV s r mu b' → TLV SE V mu b' := fun b' t => by
          unfold TLV THG inP at *
          rw [er1, er2, er4, Vi 85 (by decide) (by decide), Vi 3 (by decide) (by decide), Va 86 (by decide) (by decide), Va 87 (by decide) (by decide), Va 88 (by decide) (by decide), Va 89 (by decide) (by decide), Va 90 (by decide) (by decide)]
          exact t
        have feq : FEQ s SE r V mu mu c0 m0 := by
          refine ⟨fun i' f _ hf => ⟨by rw [er1]; exact hf, by rw [er2], by rw [er3]⟩, fun b' _ t => ⟨tlv b' t, rfl, by rw [Va 87 (by decide) (by decide)]⟩, ⟨Ea 17 (by decide) (by decide), Va 21 (by decide) (by decide), Va 23 (by decide) (by decide), Va 31 (by decide) (by decide), Va 32 (by decide) (by decide)⟩, fun j k t1 t2 t3 => ?_, fun a' ha => ⟨fun k hk => ?_, fun l hl => ?_⟩, fun j _ => by rw [Va 98 (by decide) (by decide)]⟩
          · by_cases z : j = 102
            · rw [z]
              exact V102' k (by omega)
            · rw [Va j (by omega) z]
          · have n1 : k ≠ a.x := fun z => (ck1 a.x (Or.inr ⟨ak, by omega, by omega⟩)).2.2 a' ha (by rw [← z]; exact hk)
            have n2 : k ≠ k0 := fun z => ((ck3.in a' ha).1 k hk).2 l0 (by rw [z]; exact z5)
            rw [E59, if_neg n2, if_neg n1]
          · have n2 : l ≠ l0 := fun z => (ck3.in a' ha).2 l hl k0 (by rw [z]; exact z5)
            rw [V84, if_neg n2]
        have nx0 : k0 ≠ a.x := fun z => nk a.x (Or.inr ⟨ak, by omega, by omega⟩) z.symm
        have ey : (s.a 59 a.x + 1).toInt = (i : Int) + 1 := by rw [ad1 (by omega) (by omega), b7]
        have E72 : SE.i 72 = -1 := (Ei 72 (by decide) (by decide)).trans mc.1.1.1
        rw [ec] at w2 dyn
        obtain ⟨⟨-, ⟨g1a, g1b⟩, g3, ⟨g4, g5⟩, g6, g7⟩, ⟨u1, u2, u3, u4, u5, u6⟩⟩ := dyn
        refine Or.inl ⟨m, SE, V, mu, h, p + 5, q + 1, w', 0, _, x + 1 + 1 + 1 + 1 + 1, by omega, ⟨l2 E72, v3, ⟨⟨⟨⟨E72, (Ei 73 (by decide) (by decide)).trans mc.1.1.2⟩, E66, V92⟩, ⟨⟨by rw [Ei 65 (by decide) (by decide)]; exact hv.1.1, by rw [Vi 93 (by decide) (by decide)]; exact hv.1.2.1, hv.1.2.2⟩, fun k hk => ?_⟩, ?_, fun k l hk => ?_⟩, ⟨⟨?_, ⟨?_, ?_⟩, ?_, ⟨?_, ?_⟩, ?_, ?_⟩, ?_⟩, ?_⟩, BTP.no (by decide), w2, ?_⟩, v2⟩
        · rw [E60 k hk, Va 94 (by decide) (by decide)]
          exact hv.2 k hk
        · refine s3.of ((Ei 69 (by decide) (by decide)).trans ?_) E70 (by rw [Ea 64 (by decide) (by decide), Ca 64 (by decide)]) V80 (by rw [g2]; rfl) (by rw [Va 82 (by decide) (by decide), Pa]) (by rw [Va 83 (by decide) (by decide), Pa])
          exact (Ci 69 (by decide) (by decide)).symm
        · have n1 : k ≠ a.x := fun z => (ck1 a.x (Or.inr ⟨ak, by omega, by omega⟩)).2.1 l (by rw [← z]; exact hk)
          have iff := nn.2 k l k0 l0 hk z5
          rw [E59, V84]
          by_cases z : k = k0
          · rw [if_pos z, if_pos (iff.mp z)]
            exact bval
          · rw [if_neg z, if_neg n1, if_neg (fun z' => z (iff.mpr z'))]
            exact mc.2.2.2 k l hk
        · refine ⟨?_, Or.inr (Or.inr (Or.inr (Or.inr (Or.inl ⟨ak, ?_, m0, ⟨i + 1, by omega, ?_, b3, ?_, ?_, ?_, ?_, ?_, fun j hj => ?_⟩, fr0.of feq⟩))))⟩
          · rw [Va 104 (by decide) (by decide)]
            exact d0
          · rw [Va 100 (by decide) (by decide)]
            exact a1
          · rw [Vi 97 (by decide) (by decide)]
            exact b2
          · rw [Va 101 (by decide) (by decide)]
            exact b4
          · have lim := Int32.toInt_lt (r.a 103 c0.length)
            rw [V102, ad1 (by omega) (by omega), b5]
            omega
          · rw [Va 103 (by decide) (by decide), Vi 97 (by decide) (by decide)]
            exact b6'
          · rw [E59, if_neg (fun z => nx0 z.symm), if_pos rfl, ey]
            omega
          · rw [E59, if_neg (nk (a.x + 1) (Or.inr ⟨ak, by omega, by omega⟩)), if_neg (by omega)]
            exact b8
          · rw [E59, if_neg (nk (a.x + 2 + j) (Or.inr ⟨ak, by omega, by omega⟩)), if_neg (by omega), Va 98 (by decide) (by decide)]
            exact b9 j hj
        · rw [Ei 67 (by decide) (by decide)]
          exact g1a
        · rw [Vi 99 (by decide) (by decide)]
          exact g1b
        · rw [Ei 71 (by decide) (by decide), hS_of (r := r) (R := V) (Va 91 (by decide) (by decide)) 8]
          exact g3
        · rw [Vi 85 (by decide) (by decide)]
          exact g4
        · rw [Vi 85 (by decide) (by decide), V80t]
          have : -(gcr 0) = 0 := rfl
          rw [this]
          omega
        · unfold MUI at *
          rw [Vi 85 (by decide) (by decide)]
          exact g6
        · exact (Vi 115 (by decide) (by decide)).trans g7
        · refine ⟨by rw [Ei 68 (by decide) (by decide), Vi 95 (by decide) (by decide)]; exact u1, by rw [Vi 95 (by decide) (by decide)]; exact u2, by rw [Vi 95 (by decide) (by decide)]; exact u3, u4, fun k hk => ?_, by rw [Vi 95 (by decide) (by decide)]; exact u6.of (fun k _ => by rw [Va 103 (by decide) (by decide)])⟩
          rw [Vi 95 (by decide) (by decide)] at hk
          rw [Ea 63 (by decide) (by decide), Va 96 (by decide) (by decide)]
          exact u5 k hk
        · exact tlr.of (fun j hj => Ei j (by omega) (by omega)) (fun k hk => Ea k (by omega) (by omega)) ⟨fun j hj => Vi j (by omega) (by omega), fun k hk => Va k (by omega) (by omega)⟩
        · rw [V80t, x5, x4, x3, x2, x1, ← ec]
          show x.toInt + 1 + 1 + 1 + 1 + 1 + (fps c : Int) + w' + 0 ≤ _
          omega
