/-! both machines: a row begins -/
theorem FRS.m0 {s : CS} {r : RS} {mu : Nat → Nat} {AL : Als} : ∀ {c : List Ent} {m : Int}, FRS s r mu AL c m → 0 ≤ m
  | [], m, h => by
    have : m = 0 := h
    omega
  | a :: c, m, ⟨_, h⟩ => by
    rcases h with ⟨-, -, -, h⟩ | ⟨-, -, -, -, h⟩ | ⟨-, -, -, -, h⟩ | ⟨-, -, -, -, h⟩ | ⟨-, -, m0, ⟨i, b1, b2, b3, -⟩, h⟩ | ⟨-, -, -, h⟩
    · exact FRS.m0 h
    · exact FRS.m0 h
    · exact FRS.m0 h
    · exact FRS.m0 h
    · omega
    · exact FRS.m0 h
def URow (s0 : CS) (r0 : RS) (AL : Als) (p q h w : Nat) (c : List Ent) : Prop := (s0.a 15 p = 0 ∧ s0.a 15 (p + 1) = 36 ∧ p + 1 < 1200 ∧ r0.a 21 q = 23) ∧ ∃ cnt b h' : Nat, ((s0.a 16 p).toInt = (cnt : Int) ∧ (r0.a 22 q).toInt = (cnt : Int) ∧ (s0.a 16 (p + 1)).toInt = (b : Int)) ∧ (h = h' + cnt ∧ h < 600 ∧ b + 2 + cnt ≤ 720) ∧ NXW AL (p + 2) (q + 1) h' w 2 0 ((4, h', b, cnt, 0, 0, 0) :: c)
theorem u_row {N H n : Nat} (hN : 10000000000 ≤ N) {D : Nat → List Nat} {T : Int32 × CS} {s0 : CS} {r0 : RS} {nm : Nat → Nat → Prop} {AL : Als} {s : CS} {r : RS} {mu : Nat → Nat} {h p q w g : Nat} {c : List Ent} {x : Int32} {U : Int32 × RS} (hct : HCT nm AL) (pt : PTX N H D T s0 r0 nm AL s r mu h p q w g c x) (hq : (q : Int) < (r0.i 20).toInt) (u : URow s0 r0 AL p q h w c) (e : f_X12_run_122 N n r = some U) : NXTW N H D T s0 r0 nm AL n U := by
  obtain ⟨⟨y1, y2, y3, y4⟩, cnt, b, h', ⟨y5, y6, y7⟩, ⟨y8, y9, y10⟩, w', y11, y12⟩ := u
  obtain ⟨m, S, V, hn, ⟨e1, e2, e3, e4⟩, ⟨v1, v2, v3⟩, ⟨o1, o2⟩, oc, ⟨hp, hq3⟩, x1⟩ := pt_tick hN hct pt hq (by omega) e
  obtain ⟨bx, x0⟩ := bud_x pt
  have rf := pt.2.1
  have h21 : r.a 21 q = r0.a 21 q := by rw [rf.2 21 (by decide)]
  have h22 : r.a 22 q = r0.a 22 q := by rw [rf.2 22 (by decide)]
  have mc := pt.2.2.1.1
  obtain ⟨-, ck, -⟩ := hct _ _ _ _ _ _ pt.2.2.2.2.1
  obtain ⟨-, ⟨ck1, ck2, ck3⟩, -⟩ := hct _ _ _ _ _ _ y12
  obtain ⟨t1, t2, t3⟩ := un_nx mc (by omega) (by omega)
  have dy := pt.2.2.1.2.1.ex ck t2 t3
  have tr := pt.2.2.1.2.2.ex t2 t3
  have gn := gcr_nn (g := g)
  have gn' := gpo_nn (g := g)
  have b6 := pt.2.2.2.2.2
  -- PUSH
  have eS : S = cPu (cNx s) (cAr s) := xi_0 (o1.trans y1) e1
  have q65 : ((cNx s).i 65).toInt = (h : Int) := by
    rw [cNx_i (by decide)]
    exact mc.2.1.1.1
  have S65 : (S.i 65).toInt = (h : Int) + 1 := by
    rw [eS]
    show ((CS.setI (CS.putA (cNx s) 60 (gPut ((cNx s).a 60) 600 ((cNx s).i 65) (cAr s))) 65 ((cNx s).i 65 + 1)).i 65).toInt = _
    rw [ci_at, ad1 (by omega) (by omega), q65]
  have S66 : (S.i 66).toInt = ((p + 1 : Nat) : Int) := by
    rw [eS, cPu_i (by decide)]
    exact cNx_66 mc.1.2.1 (by omega)
  have Si : ∀ j : Nat, j ≠ 65 → S.i j = (cNx s).i j := fun j a => by rw [eS, cPu_i a]
  have Sa : ∀ j : Nat, j ≠ 60 → S.a j = (cNx s).a j := fun j a => by rw [eS, cPu_a a]
  have S60 : ∀ j : Nat, j < h → S.a 60 j = s.a 60 j := fun j hj => by
    rw [eS]
    show gPut ((cNx s).a 60) 600 ((cNx s).i 65) (cAr s) j = s.a 60 j
    unfold gPut
    rw [if_pos ⟨by omega, by omega⟩, cl_nat q65]
    exact if_neg (by omega)
  have Sr : S.r = (cNx s).r ∧ S.w = (cNx s).w ∧ S.o = (cNx s).o ∧ S.ot = (cNx s).ot ∧ S.oa = (cNx s).oa := by
    rw [eS]
    exact ⟨rfl, rfl, rfl, rfl, rfl⟩
  have S72 : S.i 72 = -1 := (Si 72 (by decide)).trans t1.1.1.1
  have S73 : S.i 73 = 0 := (Si 73 (by decide)).trans t1.1.1.2
  have ct : cTp S = cAr s := by
    rw [cTp_at S65 (by omega), eS]
    exact cPu_top q65 (by omega)
  obtain ⟨S2, f1, f2, -, ⟨f4, f5⟩, f6, x2⟩ := tick2 hN (e3 S72) S72 S73 S66 y3 (by omega)
  -- ROW
  have g1 : f_X3_fillRow N (cNx S) (cAr S) = some ((), S2) := xi_36 (f4.trans y2) f1
  unfold f_X3_fillRow at g1
  rw [e_cPo, ob_some] at g1
  have hb : (cAr S).toInt = (b : Int) := by
    rw [f5]
    exact y7
  have e1' : (1 : Int32).toInt = 1 := by decide
  have hb1 : (cAr S + 1).toInt = ((b + 1 : Nat) : Int) := by
    rw [ad1 (by omega) (by omega), hb]
    rfl
  have ct' : cTp (cNx S) = cAr s := ct
  rw [ct'] at g1
  have hcn : (cAr s).toInt = (cnt : Int) := by
    rw [o2]
    exact y5
  obtain ⟨Y, hY⟩ : ∃ Y, Y = CS.putA (CS.putA (cPo (cNx S)) 59 (gPut ((cPo (cNx S)).a 59) 720 (cAr S) 0)) 59 (gPut (CS.a (CS.putA (cPo (cNx S)) 59 (gPut ((cPo (cNx S)).a 59) 720 (cAr S) 0)) 59) 720 (cAr S + 1) (cAr s)) := ⟨_, rfl⟩
  have g2 : f_X3_fillRow_29 N N Y (cAr S) (cAr s - 1) = some ((), S2) := by
    rw [hY]
    exact g1
  have Yi : Y.i = (cPo (cNx S)).i := by
    rw [hY]
    rfl
  have Ya : ∀ j : Nat, j ≠ 59 → Y.a j = S.a j := fun j a => by
    rw [hY, cpA_ne a, cpA_ne a]
    rfl
  have Y59 : ∀ j : Nat, Y.a 59 j = if j = b + 1 then cAr s else if j = b then 0 else S.a 59 j := fun j => by
    rw [hY]
    show gPut (gPut (S.a 59) 720 (cAr S) 0) 720 (cAr S + 1) (cAr s) j = _
    unfold gPut
    rw [if_pos ⟨by omega, by omega⟩, if_pos ⟨by omega, by omega⟩, cl_nat hb, cl_nat hb1]
    rfl
  have Yr : Y.r = S.r ∧ Y.w = S.w ∧ Y.o = S.o ∧ Y.ot = S.ot ∧ Y.oa = S.oa := by
    rw [hY]
    exact ⟨rfl, rfl, rfl, rfl, rfl⟩
  clear hY
  have Y65 : (Y.i 65).toInt = (h' : Int) + cnt := by
    rw [Yi]
    show ((CS.setI (cNx S) 65 ((cNx S).i 65 - 1)).i 65).toInt = _
    rw [ci_at]
    exact sub_n1 (c := h' + cnt) (by rw [cNx_i (by decide), S65]; omega)
  obtain ⟨i1, i2, i3, ⟨i4, i5, i6, i7, i8⟩, i9, i10⟩ := fill_c hb cnt N Y (cAr s - 1) h' ((), S2) (by rw [toInt_sub] <;> rw [e1'] <;> omega) Y65 (by omega) (by omega) g2
  have i1' : ∀ j : Nat, j ≠ 65 → j ≠ 66 → S2.i j = (cNx s).i j := fun j a d => by
    have q := i1 j a
    rw [Yi, cPo_i a, cNx_i d, Si j a] at q
    exact q
  have i3' : ∀ j : Nat, j ≠ 59 → j ≠ 60 → S2.a j = (cNx s).a j := fun j a d => (i3 j a).trans ((Ya j a).trans (Sa j d))
  have i60 : ∀ j : Nat, j < h → S2.a 60 j = s.a 60 j := fun j hj => by
    have q : S2.a 60 = Y.a 60 := i3 60 (by decide)
    rw [q, Ya 60 (by decide), S60 j hj]
  obtain ⟨yr1, yr2, yr3, yr4, yr5⟩ := Yr
  obtain ⟨sr1, sr2, sr3, sr4, sr5⟩ := Sr
  have j4 : S2.r = (cNx s).r := i4.trans (yr1.trans sr1)
  have j6 : S2.o = (cNx s).o := i6.trans (yr3.trans sr3)
  have j7 : S2.ot = (cNx s).ot := i7.trans (yr4.trans sr4)
  have j8 : S2.oa = (cNx s).oa := i8.trans (yr5.trans sr5)
  have T66 : (S2.i 66).toInt = ((p + 2 : Nat) : Int) := by
    have q := i1 66 (by decide)
    have q' : S2.i 66 = (cNx S).i 66 := by
      rw [Yi, cPo_i (by decide)] at q
      exact q
    rw [q']
    exact cNx_66 S66 (by omega)
  have T59 : ∀ j : Nat, j < b ∨ b + 2 + cnt ≤ j → S2.a 59 j = (cNx s).a 59 j := fun j hj => by
    have q : S2.a 59 j = Y.a 59 j := i10 j (by omega)
    rw [q, Y59, if_neg (by omega), if_neg (by omega), Sa 59 (by decide)]
  have Tb : S2.a 59 b = 0 := by
    have q : S2.a 59 b = Y.a 59 b := i10 b (by omega)
    rw [q, Y59, if_neg (by omega), if_pos rfl]
  have Tb1 : S2.a 59 (b + 1) = cAr s := by
    have q : S2.a 59 (b + 1) = Y.a 59 (b + 1) := i10 (b + 1) (by omega)
    rw [q, Y59, if_pos rfl]
  have Tj : ∀ j : Nat, j < cnt → S2.a 59 (b + 2 + j) = s.a 60 (h' + j) := fun j hj => by
    have q : S2.a 59 (b + 2 + j) = Y.a 60 (h' + j) := i9 j hj
    rw [q, Ya 60 (by decide), S60 _ (by omega)]
  -- the reference
  have ga := xp_23 (r := rNx r) (by rw [mc.clq]; exact h21.trans y4) v1
  rw [mc.clq] at ga
  obtain ⟨⟨d1, ⟨d2, d2'⟩, d3, ⟨d4, d5⟩, d6, d7⟩, ⟨q1, q2, q3, q4, q5, q6⟩⟩ := dy
  have mm := d1.m0
  obtain ⟨m0, hm0⟩ : ∃ m0 : Nat, ((rNx r).i 97).toInt = (m0 : Int) := ⟨((rNx r).i 97).toInt.toNat, by omega⟩
  have x22 : ((rNx r).a 22 q).toInt = (cnt : Int) := by
    show (r.a 22 q).toInt = _
    rw [h22]
    exact y6
  have r93 : ((rNx r).i 93).toInt = (h' : Int) + cnt := by
    rw [t1.2.1.1.2.1]
    omega
  obtain ⟨R, P, p1, p2, p3, p4, p5, p6, p7⟩ := wait_r (h := h') (m0 := m0) x22 (by omega) cnt N (rNx r) V 0 0 (by omega) z_t0 r93 (by omega) ga
  have R93 : (R.i 93 - (rNx r).a 22 q).toInt = (h' : Int) := by
    rw [p3 93 (by decide), toInt_sub] <;> rw [x22] <;> omega
  have R99 : ((RS.setI R 93 (R.i 93 - (rNx r).a 22 q)).i 99).toInt = (c.length : Int) := by
    rw [ri_ne (by decide), p3 99 (by decide)]
    exact d2'
  obtain ⟨c1, c2, c3, c4, c5, c6, c7, c8, c9, c10⟩ := rc_r R99 p1
  rw [← p2] at c2 c3 c4 c5 c6 c7 c8 c9 c10
  have Vi : ∀ j : Nat, j ≠ 93 → j ≠ 97 → j ≠ 99 → V.i j = (rNx r).i j := fun j z1 z2 z3 => by rw [c2 j z3, ri_ne z1, p3 j z2]
  have V93 : (V.i 93).toInt = (h' : Int) := by
    rw [c2 93 (by decide), ri_at]
    exact R93
  have V97 : (V.i 97).toInt = (m0 : Int) + cnt := by
    rw [c2 97 (by decide), ri_ne (by decide)]
    exact p4
  have Va : ∀ j : Nat, j < 98 ∨ j = 105 ∨ j = 106 ∨ j = 107 ∨ j = 108 ∨ j = 109 → V.a j = (rNx r).a j := fun j hj => by
    rw [c4 j (by omega) (by omega) (by omega) (by omega) (by omega)]
    exact p5 j (by omega)
  have V98 : ∀ i : Nat, V.a 98 i = R.a 98 i := fun i => by rw [c4 98 (by decide) (by decide) (by decide) (by decide) (by decide)]; rfl
  have Vr : ∀ j i : Nat, 100 ≤ j → i < c.length → V.a j i = (rNx r).a j i := fun j i z1 z2 => by
    rw [c5 j i (by omega)]
    show R.a j i = _
    rw [p5 j (by omega)]
  have tlv : ∀ b' : Nat, TLV (cNx s) (rNx r) mu b' → TLV S2 V mu b' := fun b' t => by
    unfold TLV THG inP at *
    rw [j4, j6, j8, Vi 85 (by decide) (by decide) (by decide), Vi 3 (by decide) (by decide) (by decide), Va 86 (by omega), Va 87 (by omega), Va 88 (by omega), Va 89 (by omega), Va 90 (by omega)]
    exact t
  have feq : FEQ (cNx s) S2 (rNx r) V mu mu c ((rNx r).i 97).toInt := by
    refine ⟨fun i f _ hf => ⟨by rw [j4]; exact hf, by rw [j6], by rw [j7]⟩, fun b' _ t => ⟨tlv b' t, rfl, by rw [Va 87 (by omega)]⟩, ⟨i3' 17 (by decide) (by decide), Va 21 (by omega), Va 23 (by omega), Va 31 (by omega), Va 32 (by omega)⟩, fun j k z1 z2 z3 => Vr j k z1 z3, fun a ha => ⟨fun k hk => ?_, fun l _ => by rw [Va 84 (by omega)]⟩, fun j hj => ?_⟩
    · refine T59 k ?_
      by_cases z : b ≤ k ∧ k < b + 2 + cnt
      · exact absurd hk ((ck1 k (Or.inr ⟨rfl, z.1, z.2⟩)).2.2 a ha)
      · omega
    · rw [V98, p6 j (by omega)]
  have T72 : S2.i 72 = -1 := (i1' 72 (by decide) (by decide)).trans t1.1.1.1
  have v80 : V.i 80 = r.i 80 := (Vi 80 (by decide) (by decide) (by decide)).trans (rNx_i (by decide))
  have hv := t1.2.1
  refine Or.inl ⟨m, S2, V, mu, h', p + 2, q + 1, w', 0, _, x + 1 + 1, by omega, ⟨f2 T72, v3, ⟨⟨⟨⟨T72, (i1' 73 (by decide) (by decide)).trans t1.1.1.2⟩, T66, by rw [Vi 92 (by decide) (by decide) (by decide)]; exact t1.1.2.2⟩, ⟨⟨i2, V93, by omega⟩, fun k hk => ?_⟩, t1.2.2.1.of (i1' 69 (by decide) (by decide)) (i1' 70 (by decide) (by decide)) (i3' 64 (by decide) (by decide)) (Vi 80 (by decide) (by decide) (by decide)) (Vi 81 (by decide) (by decide) (by decide)) (Va 82 (by omega)) (Va 83 (by omega)), fun k l hk => ?_⟩, ⟨⟨?_, ⟨?_, ?_⟩, ?_, ⟨?_, ?_⟩, ?_, ?_⟩, ?_⟩, ?_⟩, BTP.no (by decide), y12, ?_⟩, v2⟩
  · rw [i60 k (by omega), Va 94 (by omega)]
    exact hv.2 k (by omega)
  · have nz : k < b ∨ b + 2 + cnt ≤ k := by
      by_cases z : b ≤ k ∧ k < b + 2 + cnt
      · exact absurd hk ((ck1 k (Or.inr ⟨rfl, z.1, z.2⟩)).2.1 l)
      · omega
    rw [T59 k nz, Va 84 (by omega)]
    exact t1.2.2.2 k l hk
  · refine ⟨?_, Or.inr (Or.inr (Or.inr (Or.inr (Or.inl ⟨rfl, c6, (m0 : Int), ⟨0, Nat.zero_le _, ?_, by omega, ?_, ?_, ?_, ?_, ?_, fun j hj => ?_⟩, ?_⟩))))⟩
    · rw [c10, ri_at]
      exact R93
    · exact V97
    · rw [c7]
      exact hm0
    · rw [c8]
      show ((rNx r).i 97).toInt = (m0 : Int) + ((0 : Nat) : Int)
      omega
    · rw [c9, p4, V97]
    · show (S2.a 59 b).toInt = ((0 : Nat) : Int)
      rw [Tb]
      rfl
    · show (S2.a 59 (b + 1)).toInt = (cnt : Int)
      rw [Tb1]
      exact hcn
    · show S2.a 59 (b + 2 + j) = V.a 98 ((m0 : Int).toNat + j)
      have hj' : j < cnt := hj
      rw [Tj j hj', V98, show (m0 : Int).toNat = m0 from Int.toNat_natCast m0, p7 j (Nat.zero_le _) hj']
      exact hv.2 (h' + j) (by omega)
    · rw [← hm0]
      exact d1.of feq
  · rw [i1' 67 (by decide) (by decide), d2]
    exact congrArg Nat.cast (frs_eq (e := ((4, h', b, cnt, 0, 0, 0) : Ent)) (c := c) (show 3 < 4 by decide)).symm
  · show (V.i 99).toInt = ((c.length + 1 : Nat) : Int)
    rw [c3]
    omega
  · rw [i1' 71 (by decide) (by decide), hS_of (r := rNx r) (R := V) (Va 91 (by omega)) 8]
    exact d3
  · rw [Vi 85 (by decide) (by decide) (by decide)]
    exact d4
  · rw [Vi 85 (by decide) (by decide) (by decide), Vi 80 (by decide) (by decide) (by decide)]
    show ((rNx r).i 85).toInt + (tps c : Int) ≤ 2 * ((rNx r).i 80).toInt + 0
    omega
  · unfold MUI at *
    rw [Vi 85 (by decide) (by decide) (by decide)]
    exact d6
  · exact (Vi 115 (by decide) (by decide) (by decide)).trans d7
  · refine ⟨by rw [i1' 68 (by decide) (by decide), Vi 95 (by decide) (by decide) (by decide)]; exact q1, by rw [Vi 95 (by decide) (by decide) (by decide)]; exact q2, by rw [Vi 95 (by decide) (by decide) (by decide)]; exact q3, q4, fun k hk => ?_, by rw [Vi 95 (by decide) (by decide) (by decide)]; exact ⟨fun z => absurd (show (4 : Nat) = 1 from z) (by decide), fun _ => q6.of (fun k hk => Vr 103 k (by decide) hk)⟩⟩
    rw [Vi 95 (by decide) (by decide) (by decide)] at hk
    rw [i3' 63 (by decide) (by decide), Va 96 (by omega)]
    exact q5 k hk
  · exact tr.of (fun j hj => i1' j (by omega) (by omega)) (fun k hk => i3' k (by omega) (by omega)) ⟨fun j hj => Vi j (by omega) (by omega) (by omega), fun k hk => Va k (by omega)⟩
  · rw [v80, x2, x1]
    show x.toInt + 1 + 1 + (fps c : Int) + w' + 0 ≤ _
    omega
