section
/-! both machines: a row begins -/
theorem FRS.m0 {s : CS} {r : RS} {mu : Nat → Nat} {AL : Als} : ∀ {c : List Ent} {m : Int}, FRS s r mu AL c m → 0 ≤ m
  | [], m, h => by
    have : m = 0 := h
    omega
  | a :: c, m, ⟨_, h⟩ => by
    rcases h with ⟨-, -, -, h⟩ | ⟨-, -, -, -, h⟩ | ⟨-, -, -, -, h⟩ | ⟨-, -, -, -, h⟩ | ⟨-, -, m0, ⟨i, b1, b2, b3, -⟩, h⟩ | ⟨-, -, -, h⟩
    · exact FRS.m0 h
    · exact FRS.m0 h
    · exact FRS.m0 h
    · exact FRS.m0 h
    · omega
    · exact FRS.m0 h
def URow (s0 : CS) (r0 : RS) (AL : Als) (p q h w : Nat) (c : List Ent) : Prop := (s0.a 15 p = 0 ∧ s0.a 15 (p + 1) = 36 ∧ p + 1 < 1200 ∧ r0.a 21 q = 23) ∧ ∃ cnt b h' : Nat, ((s0.a 16 p).toInt = (cnt : Int) ∧ (r0.a 22 q).toInt = (cnt : Int) ∧ (s0.a 16 (p + 1)).toInt = (b : Int)) ∧ (h = h' + cnt ∧ h < 600 ∧ b + 2 + cnt ≤ 720) ∧ NXW AL (p + 2) (q + 1) h' w 2 0 ((4, h', b, cnt, 0, 0, 0) :: c)
theorem u_row {N H n : Nat} (hN : 10000000000 ≤ N) {D : Nat → List Nat} {T : Int32 × CS} {s0 : CS} {r0 : RS} {nm : Nat → Nat → Prop} {AL : Als} {s : CS} {r : RS} {mu : Nat → Nat} {h p q w g : Nat} {c : List Ent} {x : Int32} {U : Int32 × RS} (hct : HCT nm AL) (pt : PTX N H D T s0 r0 nm AL s r mu h p q w g c x) (hq : (q : Int) < (r0.i 20).toInt) (u : URow s0 r0 AL p q h w c) (e : f_X12_run_122 N n r = some U) : NXTW N H D T s0 r0 nm AL n U := by
  obtain ⟨⟨y1, y2, y3, y4⟩, cnt, b, h', ⟨y5, y6, y7⟩, ⟨y8, y9, y10⟩, w', y11, y12⟩ := u
  obtain ⟨m, S, V, hn, ⟨e1, e2, e3, e4⟩, ⟨v1, v2, v3⟩, ⟨o1, o2⟩, oc, ⟨hp, hq3⟩, x1⟩ := pt_tick hN hct pt hq (by omega) e
  obtain ⟨bx, x0⟩ := bud_x pt
  have rf := pt.2.1
  have h21 : r.a 21 q = r0.a 21 q := by rw [rf.2 21 (by decide)]
  have h22 : r.a 22 q = r0.a 22 q := by rw [rf.2 22 (by decide)]
  have mc := pt.2.2.1.1
  obtain ⟨-, ck, -⟩ := hct _ _ _ _ _ _ pt.2.2.2.2.1
  obtain ⟨-, ⟨ck1, ck2, ck3⟩, -⟩ := hct _ _ _ _ _ _ y12
  obtain ⟨t1, t2, t3⟩ := un_nx mc (by omega) (by omega)
  have dy := pt.2.2.1.2.1.ex ck t2 t3
  have tr := pt.2.2.1.2.2.ex t2 t3
  have gn := gcr_nn (g := g)
  have gn' := gpo_nn (g := g)
  have b6 := pt.2.2.2.2.2
  -- PUSH
  have eS : S = cPu (cNx s) (cAr s) := xi_0 (o1.trans y1) e1
  have q65 : ((cNx s).i 65).toInt = (h : Int) := by
    rw [cNx_i (by decide)]
    exact mc.2.1.1.1
  have S65 : (S.i 65).toInt = (h : Int) + 1 := by
    rw [eS]
    show ((CS.setI (CS.putA (cNx s) 60 (gPut ((cNx s).a 60) 600 ((cNx s).i 65) (cAr s))) 65 ((cNx s).i 65 + 1)).i 65).toInt = _
    rw [ci_at, ad1 (by omega) (by omega), q65]
  have S66 : (S.i 66).toInt = ((p + 1 : Nat) : Int) := by
    rw [eS, cPu_i (by decide)]
    exact cNx_66 mc.1.2.1 (by omega)
  have Si : ∀ j : Nat, j ≠ 65 → S.i j = (cNx s).i j := fun j a => by rw [eS, cPu_i a]
  have Sa : ∀ j : Nat, j ≠ 60 → S.a j = (cNx s).a j := fun j a => by rw [eS, cPu_a a]
  have S60 : ∀ j : Nat, j < h → S.a 60 j = s.a 60 j := fun j hj => by
    rw [eS]
    show gPut ((cNx s).a 60) 600 ((cNx s).i 65) (cAr s) j = s.a 60 j
    unfold gPut
    rw [if_pos ⟨by omega, by omega⟩, cl_nat q65]
    exact if_neg (by omega)
  have Sr : S.r = (cNx s).r ∧ S.w = (cNx s).w ∧ S.o = (cNx s).o ∧ S.ot = (cNx s).ot ∧ S.oa = (cNx s).oa := by
    rw [eS]
    exact ⟨rfl, rfl, rfl, rfl, rfl⟩
  have S72 : S.i 72 = -1 := (Si 72 (by decide)).trans t1.1.1.1
  have S73 : S.i 73 = 0 := (Si 73 (by decide)).trans t1.1.1.2
  have ct : cTp S = cAr s := by
    rw [cTp_at S65 (by omega), eS]
    exact cPu_top q65 (by omega)
  obtain ⟨S2, f1, f2, -, ⟨f4, f5⟩, f6, x2⟩ := tick2 hN (e3 S72) S72 S73 S66 y3 (by omega)
  -- ROW
  have g1 : f_X3_fillRow N (cNx S) (cAr S) = some ((), S2) := xi_36 (f4.trans y2) f1
  unfold f_X3_fillRow at g1
  rw [e_cPo, ob_some] at g1
  have hb : (cAr S).toInt = (b : Int) := by
    rw [f5]
    exact y7
  have e1' : (1 : Int32).toInt = 1 := by decide
  have hb1 : (cAr S + 1).toInt = ((b + 1 : Nat) : Int) := by
    rw [ad1 (by omega) (by omega), hb]
    rfl
  have ct' : cTp (cNx S) = cAr s := ct
  rw [ct'] at g1
  have hcn : (cAr s).toInt = (cnt : Int) := by
    rw [o2]
    exact y5
  obtain ⟨Y, hY⟩ : ∃ Y, Y = CS.putA (CS.putA (cPo (cNx S)) 59 (gPut ((cPo (cNx S)).a 59) 720 (cAr S) 0)) 59 (gPut (CS.a (CS.putA (cPo (cNx S)) 59 (gPut ((cPo (cNx S)).a 59) 720 (cAr S) 0)) 59) 720 (cAr S + 1) (cAr s)) := ⟨_, rfl⟩
  have g2 : f_X3_fillRow_29 N N Y (cAr S) (cAr s - 1) = some ((), S2) := by
    rw [hY]
    exact g1
  have Yi : Y.i = (cPo (cNx S)).i := by
    rw [hY]
    rfl
  have Ya : ∀ j : Nat, j ≠ 59 → Y.a j = S.a j := fun j a => by
    rw [hY, cpA_ne a, cpA_ne a]
    rfl
  have Y59 : ∀ j : Nat, Y.a 59 j = if j = b + 1 then cAr s else if j = b then 0 else S.a 59 j := fun j => by
    rw [hY]
    show gPut (gPut (S.a 59) 720 (cAr S) 0) 720 (cAr S + 1) (cAr s) j = _
    unfold gPut
    rw [if_pos ⟨by omega, by omega⟩, if_pos ⟨by omega, by omega⟩, cl_nat hb, cl_nat hb1]
    rfl
  have Yr : Y.r = S.r ∧ Y.w = S.w ∧ Y.o = S.o ∧ Y.ot = S.ot ∧ Y.oa = S.oa := by
    rw [hY]
    exact ⟨rfl, rfl, rfl, rfl, rfl⟩
  clear hY
  have Y65 : (Y.i 65).toInt = (h' : Int) + cnt := by
    rw [Yi]
    show ((CS.setI (cNx S) 65 ((cNx S).i 65 - 1)).i 65).toInt = _
    rw [ci_at]
    exact sub_n1 (c := h' + cnt) (by rw [cNx_i (by decide), S65]; omega)
  obtain ⟨i1, i2, i3, ⟨i4, i5, i6, i7, i8⟩, i9, i10⟩ := fill_c hb cnt N Y (cAr s - 1) h' ((), S2) (by rw [toInt_sub] <;> rw [e1'] <;> omega) Y65 (by omega) (by omega) g2
  have i1' : ∀ j : Nat, j ≠ 65 → j ≠ 66 → S2.i j = (cNx s).i j := fun j a d => by
    have q := i1 j a
    rw [Yi, cPo_i a, cNx_i d, Si j a] at q
    exact q
  have i3' : ∀ j : Nat, j ≠ 59 → j ≠ 60 → S2.a j = (cNx s).a j := fun j a d => (i3 j a).trans ((Ya j a).trans (Sa j d))
  have i60 : ∀ j : Nat, j < h → S2.a 60 j = s.a 60 j := fun j hj => by
    have q : S2.a 60 = Y.a 60 := i3 60 (by decide)
    rw [q, Ya 60 (by decide), S60 j hj]
  obtain ⟨yr1, yr2, yr3, yr4, yr5⟩ := Yr
  obtain ⟨sr1, sr2, sr3, sr4, sr5⟩ := Sr
  have j4 : S2.r = (cNx s).r := i4.trans (yr1.trans sr1)
  have j6 : S2.o = (cNx s).o := i6.trans (yr3.trans sr3)
  have j7 : S2.ot = (cNx s).ot := i7.trans (yr4.trans sr4)
  have j8 : S2.oa = (cNx s).oa := i8.trans (yr5.trans sr5)
  have T66 : (S2.i 66).toInt = ((p + 2 : Nat) : Int) := by
    have q := i1 66 (by decide)
    have q' : S2.i 66 = (cNx S).i 66 := by
      rw [Yi, cPo_i (by decide)] at q
      exact q
    rw [q']
    exact cNx_66 S66 (by omega)
  have T59 : ∀ j : Nat, j < b ∨ b + 2 + cnt ≤ j → S2.a 59 j = (cNx s).a 59 j := fun j hj => by
    have q : S2.a 59 j = Y.a 59 j := i10 j (by omega)
    rw [q, Y59, if_neg (by omega), if_neg (by omega), Sa 59 (by decide)]
  have Tb : S2.a 59 b = 0 := by
    have q : S2.a 59 b = Y.a 59 b := i10 b (by omega)
    rw [q, Y59, if_neg (by omega), if_pos rfl]
  have Tb1 : S2.a 59 (b + 1) = cAr s := by
    have q : S2.a 59 (b + 1) = Y.a 59 (b + 1) := i10 (b + 1) (by omega)
    rw [q, Y59, if_pos rfl]
  have Tj : ∀ j : Nat, j < cnt → S2.a 59 (b + 2 + j) = s.a 60 (h' + j) := fun j hj => by
    have q : S2.a 59 (b + 2 + j) = Y.a 60 (h' + j) := i9 j hj
    rw [q, Ya 60 (by decide), S60 _ (by omega)]
  -- the reference
  have ga := xp_23 (r := rNx r) (by rw [mc.clq]; exact h21.trans y4) v1
  rw [mc.clq] at ga
  obtain ⟨⟨d1, ⟨d2, d2'⟩, d3, ⟨d4, d5⟩, d6, d7⟩, ⟨q1, q2, q3, q4, q5, q6⟩⟩ := dy
  have mm := d1.m0
  obtain ⟨m0, hm0⟩ : ∃ m0 : Nat, ((rNx r).i 97).toInt = (m0 : Int) := ⟨((rNx r).i 97).toInt.toNat, by omega⟩
  have x22 : ((rNx r).a 22 q).toInt = (cnt : Int) := by
    show (r.a 22 q).toInt = _
    rw [h22]
    exact y6
  have r93 : ((rNx r).i 93).toInt = (h' : Int) + cnt := by
    rw [t1.2.1.1.2.1]
    omega
  obtain ⟨R, P, p1, p2, p3, p4, p5, p6, p7⟩ := wait_r (h := h') (m0 := m0) x22 (by omega) cnt N (rNx r) V 0 0 (by omega) z_t0 r93 (by omega) ga
  have R93 : (R.i 93 - (rNx r).a 22 q).toInt = (h' : Int) := by
    rw [p3 93 (by decide), toInt_sub] <;> rw [x22] <;> omega
  have R99 : ((RS.setI R 93 (R.i 93 - (rNx r).a 22 q)).i 99).toInt = (c.length : Int) := by
    rw [ri_ne (by decide), p3 99 (by decide)]
    exact d2'
  obtain ⟨c1, c2, c3, c4, c5, c6, c7, c8, c9, c10⟩ := rc_r R99 p1
  rw [← p2] at c2 c3 c4 c5 c6 c7 c8 c9 c10
  have Vi : ∀ j : Nat, j ≠ 93 → j ≠ 97 → j ≠ 99 → V.i j = (rNx r).i j := fun j z1 z2 z3 => by rw [c2 j z3, ri_ne z1, p3 j z2]
  have V93 : (V.i 93).toInt = (h' : Int) := by
    rw [c2 93 (by decide), ri_at]
    exact R93
  have V97 : (V.i 97).toInt = (m0 : Int) + cnt := by
    rw [c2 97 (by decide), ri_ne (by decide)]
    exact p4
  have Va : ∀ j : Nat, j < 98 ∨ j = 105 ∨ j = 106 ∨ j = 107 ∨ j = 108 ∨ j = 109 → V.a j = (rNx r).a j := fun j hj => by
    rw [c4 j (by omega) (by omega) (by omega) (by omega) (by omega)]
    exact p5 j (by omega)
  have V98 : ∀ i : Nat, V.a 98 i = R.a 98 i := fun i => by rw [c4 98 (by decide) (by decide) (by decide) (by decide) (by decide)]; rfl
  have Vr : ∀ j i : Nat, 100 ≤ j → i < c.length → V.a j i = (rNx r).a j i := fun j i z1 z2 => by
    rw [c5 j i (by omega)]
    show R.a j i = _
    rw [p5 j (by omega)]
  have tlv : ∀ b' : Nat, TLV (cNx s) (rNx r) mu b' → TLV S2 V mu b' := fun b' t => by
    unfold TLV THG inP at *
    rw [j4, j6, j8, Vi 85 (by decide) (by decide) (by decide), Vi 3 (by decide) (by decide) (by decide), Va 86 (by omega), Va 87 (by omega), Va 88 (by omega), Va 89 (by omega), Va 90 (by omega)]
    exact t
  have feq : FEQ (cNx s) S2 (rNx r) V mu mu c ((rNx r).i 97).toInt := by
    refine ⟨fun i f _ hf => ⟨by rw [j4]; exact hf, by rw [j6], by rw [j7]⟩, fun b' _ t => ⟨tlv b' t, rfl, by rw [Va 87 (by omega)]⟩, ⟨i3' 17 (by decide) (by decide), Va 21 (by omega), Va 23 (by omega), Va 31 (by omega), Va 32 (by omega)⟩, fun j k z1 z2 z3 => Vr j k z1 z3, fun a ha => ⟨fun k hk => ?_, fun l _ => by rw [Va 84 (by omega)]⟩, fun j hj => ?_⟩
    · refine T59 k ?_
      by_cases z : b ≤ k ∧ k < b + 2 + cnt
      · exact absurd hk ((ck1 k (Or.inr ⟨rfl, z.1, z.2⟩)).2.2 a ha)
      · omega
    · rw [V98, p6 j (by omega)]
  have T72 : S2.i 72 = -1 := (i1' 72 (by decide) (by decide)).trans t1.1.1.1
  have v80 : V.i 80 = r.i 80 := (Vi 80 (by decide) (by decide) (by decide)).trans (rNx_i (by decide))
  have hv := t1.2.1
  refine Or.inl ⟨m, S2, V, mu, h', p + 2, q + 1, w', 0, _, x + 1 + 1, by omega, ⟨f2 T72, v3, ⟨⟨⟨⟨T72, (i1' 73 (by decide) (by decide)).trans t1.1.1.2⟩, T66, by rw [Vi 92 (by decide) (by decide) (by decide)]; exact t1.1.2.2⟩, ⟨⟨i2, V93, by omega⟩, fun k hk => ?_⟩, t1.2.2.1.of (i1' 69 (by decide) (by decide)) (i1' 70 (by decide) (by decide)) (i3' 64 (by decide) (by decide)) (Vi 80 (by decide) (by decide) (by decide)) (Vi 81 (by decide) (by decide) (by decide)) (Va 82 (by omega)) (Va 83 (by omega)), fun k l hk => ?_⟩, ⟨⟨?_, ⟨?_, ?_⟩, ?_, ⟨?_, ?_⟩, ?_, ?_⟩, ?_⟩, ?_⟩, BTP.no (by decide), y12, ?_⟩, v2⟩
  · rw [i60 k (by omega), Va 94 (by omega)]
    exact hv.2 k (by omega)
  · have nz : k < b ∨ b + 2 + cnt ≤ k := by
      by_cases z : b ≤ k ∧ k < b + 2 + cnt
      · exact absurd hk ((ck1 k (Or.inr ⟨rfl, z.1, z.2⟩)).2.1 l)
      · omega
    rw [T59 k nz, Va 84 (by omega)]
    exact t1.2.2.2 k l hk
  · refine ⟨?_, Or.inr (Or.inr (Or.inr (Or.inr (Or.inl ⟨rfl, c6, (m0 : Int), ⟨0, Nat.zero_le _, ?_, by omega, ?_, ?_, ?_, ?_, ?_, fun j hj => ?_⟩, ?_⟩))))⟩
    · rw [c10, ri_at]
      exact R93
    · exact V97
    · rw [c7]
      exact hm0
    · rw [c8]
      show ((rNx r).i 97).toInt = (m0 : Int) + ((0 : Nat) : Int)
      omega
    · rw [c9, p4, V97]
    · show (S2.a 59 b).toInt = ((0 : Nat) : Int)
      rw [Tb]
      rfl
    · show (S2.a 59 (b + 1)).toInt = (cnt : Int)
      rw [Tb1]
      exact hcn
    · show S2.a 59 (b + 2 + j) = V.a 98 ((m0 : Int).toNat + j)
      have hj' : j < cnt := hj
      rw [Tj j hj', V98, show (m0 : Int).toNat = m0 from Int.toNat_natCast m0, p7 j (Nat.zero_le _) hj']
      exact hv.2 (h' + j) (by omega)
    · rw [← hm0]
      exact d1.of feq
  · rw [i1' 67 (by decide) (by decide), d2]
    exact congrArg Nat.cast (frs_eq (e := ((4, h', b, cnt, 0, 0, 0) : Ent)) (c := c) (show 3 < 4 by decide)).symm
  · show (V.i 99).toInt = ((c.length + 1 : Nat) : Int)
    rw [c3]
    omega
  · rw [i1' 71 (by decide) (by decide), hS_of (r := rNx r) (R := V) (Va 91 (by omega)) 8]
    exact d3
  · rw [Vi 85 (by decide) (by decide) (by decide)]
    exact d4
  · rw [Vi 85 (by decide) (by decide) (by decide), Vi 80 (by decide) (by decide) (by decide)]
    show ((rNx r).i 85).toInt + (tps c : Int) ≤ 2 * ((rNx r).i 80).toInt + 0
    omega
  · unfold MUI at *
    rw [Vi 85 (by decide) (by decide) (by decide)]
    exact d6
  · exact (Vi 115 (by decide) (by decide) (by decide)).trans d7
  · refine ⟨by rw [i1' 68 (by decide) (by decide), Vi 95 (by decide) (by decide) (by decide)]; exact q1, by rw [Vi 95 (by decide) (by decide) (by decide)]; exact q2, by rw [Vi 95 (by decide) (by decide) (by decide)]; exact q3, q4, fun k hk => ?_, by rw [Vi 95 (by decide) (by decide) (by decide)]; exact ⟨fun z => absurd (show (4 : Nat) = 1 from z) (by decide), fun _ => q6.of (fun k hk => Vr 103 k (by decide) hk)⟩⟩
    rw [Vi 95 (by decide) (by decide) (by decide)] at hk
    rw [i3' 63 (by decide) (by decide), Va 96 (by omega)]
    exact q5 k hk
  · exact tr.of (fun j hj => i1' j (by omega) (by omega)) (fun k hk => i3' k (by omega) (by omega)) ⟨fun j hj => Vi j (by omega) (by omega) (by omega), fun k hk => Va k (by omega)⟩
  · rw [v80, x2, x1]
    show x.toInt + 1 + 1 + (fps c : Int) + w' + 0 ≤ _
    omega
end
section
/-! both machines: the next value of a row -/
theorem xi_37 {N : Nat} {s : CS} {R : Unit × CS} (h : cOp s = 37) (e : f_X3_instruction N s = some R) : R.2 = cPu (cNx s) (if gAt (s.a 59) 720 (cAr s + 1) ≤ gAt (s.a 59) 720 (cAr s) then 0 else 1) := by
  have z := xi_ste (by rw [h]; decide) (by rw [h]; decide) (by rw [h]; decide) e
  rw [h] at z
  unfold f_X3_steer f_X3_steer_174 at z
  rw [if_neg (by decide), if_neg (by decide), if_neg (by decide), if_neg (by decide), if_neg (by decide), if_neg (by decide), if_neg (by decide), if_pos rfl] at z
  by_cases c : gAt (s.a 59) 720 (cAr s + 1) ≤ gAt (s.a 59) 720 (cAr s)
  · rw [if_pos c]
    have z2 := (if_pos (show gAt ((cNx s).a 59) 720 (cAr s + 1) ≤ gAt ((cNx s).a 59) 720 (cAr s) from c)).symm.trans z
    rw [e_cPu, ob_some] at z2
    rw [← Option.some.inj z2]
  · rw [if_neg c]
    have z2 := (if_neg (show ¬ gAt ((cNx s).a 59) 720 (cAr s + 1) ≤ gAt ((cNx s).a 59) 720 (cAr s) from c)).symm.trans z
    rw [e_cPu, ob_some] at z2
    rw [← Option.some.inj z2]
theorem xi_38 {N : Nat} {s : CS} {R : Unit × CS} (h : cOp s = 38) (e : f_X3_instruction N s = some R) : R.2 = CS.putA (cPu (cNx s) (gAt (s.a 59) 720 (cAr s + 2 + gAt (s.a 59) 720 (cAr s)))) 59 (gPut (s.a 59) 720 (cAr s) (gAt (s.a 59) 720 (cAr s) + 1)) := by
  have z := xi_ste (by rw [h]; decide) (by rw [h]; decide) (by rw [h]; decide) e
  rw [h] at z
  unfold f_X3_steer at z
  rw [if_neg (by decide), if_neg (by decide), if_neg (by decide), if_neg (by decide), if_neg (by decide), if_neg (by decide), if_neg (by decide), if_neg (by decide), e_cPu, ob_some] at z
  obtain ⟨Y, hY⟩ : ∃ Y, Y = cPu (cNx s) (gAt ((cNx s).a 59) 720 (cAr s + 2 + gAt ((cNx s).a 59) 720 (cAr s))) := ⟨_, rfl⟩
  have y59 : Y.a 59 = s.a 59 := by
    rw [hY, cPu_a (by decide)]
    rfl
  have z2 : some ((), CS.putA Y 59 (gPut (Y.a 59) 720 (cAr s) (gAt (Y.a 59) 720 (cAr s) + 1))) = some R := by
    rw [hY]
    exact z
  rw [← Option.some.inj z2, y59, hY]
  rfl
def URwn (s0 : CS) (r0 : RS) (nm : Nat → Nat → Prop) (AL : Als) (p q h w : Nat) (c : List Ent) : Prop := (s0.a 15 p = 37 ∧ s0.a 15 (p + 1) = 31 ∧ s0.a 15 (p + 2) = 51 ∧ s0.a 15 (p + 3) = 38 ∧ s0.a 15 (p + 4) = 2 ∧ p + 4 < 1200 ∧ r0.a 21 q = 24) ∧ (5 ≤ w ∧ h < 600) ∧ ∃ (a : Ent) (c0 : List Ent) (k0 l0 w' : Nat), c = a :: c0 ∧ a.k = 4 ∧ ((s0.a 16 p).toInt = (a.x : Int) ∧ (s0.a 16 (p + 3)).toInt = (a.x : Int) ∧ (s0.a 16 (p + 4)).toInt = (k0 : Int) ∧ (r0.a 23 q).toInt = (l0 : Int) ∧ nm k0 l0) ∧ JX s0 AL (s0.a 16 (p + 1)) (r0.a 22 q) h w 2 0 c ∧ w' ≤ w + 2528 ∧ AL (p + 5) (q + 1) h w' 0 c
theorem u_rwn {N H n : Nat} (hN : 10000000000 ≤ N) {D : Nat → List Nat} {T : Int32 × CS} {s0 : CS} {r0 : RS} {nm : Nat → Nat → Prop} {AL : Als} {s : CS} {r : RS} {mu : Nat → Nat} {h p q w g : Nat} {c : List Ent} {x : Int32} {U : Int32 × RS} (hct : HCT nm AL) (nn : NMP nm) (pt : PTX N H D T s0 r0 nm AL s r mu h p q w g c x) (hq : (q : Int) < (r0.i 20).toInt) (u : URwn s0 r0 nm AL p q h w c) (e : f_X12_run_122 N n r = some U) : NXTW N H D T s0 r0 nm AL n U := by
  obtain ⟨⟨y1, y2, y3, y4, y5, y6, y7⟩, ⟨y8, y9⟩, a, c0, k0, l0, w', ec, ak, ⟨z1, z2, z3, z4, z5⟩, ⟨p', q', we, ⟨j1, j2⟩, j3, j4⟩, w1, w2⟩ := u
  obtain ⟨m, SA, V, hn, ⟨e1, e2, e3, e4⟩, ⟨v1, v2, v3⟩, ⟨o1, o2⟩, oc, ⟨hp, hq3⟩, x1⟩ := pt_tick hN hct pt hq (by omega) e
  obtain ⟨bx, x0⟩ := bud_x pt
  have rf := pt.2.1
  have h21 : r.a 21 q = r0.a 21 q := by rw [rf.2 21 (by decide)]
  have h22 : r.a 22 q = r0.a 22 q := by rw [rf.2 22 (by decide)]
  have h23 : r.a 23 q = r0.a 23 q := by rw [rf.2 23 (by decide)]
  have mc := pt.2.2.1.1
  obtain ⟨-, ck, -⟩ := hct _ _ _ _ _ _ pt.2.2.2.2.1
  have gn := gcr_nn (g := g)
  have gn' := gpo_nn (g := g)
  have b6 := pt.2.2.2.2.2
  have dyn := pt.2.2.1.2.1
  have tlr := pt.2.2.1.2.2
  have hv := mc.2.1
  -- the row
  have fr := dyn.1.1
  rw [ec] at fr ck
  obtain ⟨d0, d1⟩ := fr
  have d99 := dyn.1.2.1.2
  rw [ec] at d99
  obtain ⟨i1, i2⟩ := idx1 (r := r) (k := c0.length) d99
  have rw4 : r.a 100 c0.length = 2 ∧ ∃ m0 : Int, RWV s r a c0.length m0 (r.i 97).toInt ∧ FRS s r mu AL c0 m0 := by
    rcases d1 with ⟨k0, -⟩ | ⟨k0, -⟩ | ⟨k0, -⟩ | ⟨k0, -⟩ | ⟨k4, a1, m0, a2, a3⟩ | ⟨k0, -⟩
    · omega
    · omega
    · omega
    · omega
    · exact ⟨a1, m0, a2, a3⟩
    · omega
  obtain ⟨a1, m0, ⟨i, b1, b2, b3, b4, b5, b6', b7, b8, b9⟩, fr0⟩ := rw4
  obtain ⟨ck1, ck2, ck3⟩ := ck
  have cx : a.x < 720 := (ck1 a.x (Or.inr ⟨ak, by omega, by omega⟩)).1
  have cx1 : a.x + 1 < 720 := (ck1 (a.x + 1) (Or.inr ⟨ak, by omega, by omega⟩)).1
  have ar : (cAr s).toInt = (a.x : Int) := by
    rw [o2]
    exact z1
  have ar1 : (cAr s + 1).toInt = ((a.x + 1 : Nat) : Int) := by
    rw [ad1 (by omega) (by omega), ar]
    rfl
  have ga0 : gAt (s.a 59) 720 (cAr s) = s.a 59 a.x := by
    unfold gAt
    rw [if_pos ⟨by omega, by omega⟩, cl_nat ar]
  have ga1 : gAt (s.a 59) 720 (cAr s + 1) = s.a 59 (a.x + 1) := by
    unfold gAt
    rw [if_pos ⟨by omega, by omega⟩, cl_nat ar1]
  have eA : SA = cPu (cNx s) (if s.a 59 (a.x + 1) ≤ s.a 59 a.x then 0 else 1) := by
    have := xi_37 (o1.trans y1) e1
    rw [ga0, ga1] at this
    exact this
  -- behind HAS
  have q65 : ((cNx s).i 65).toInt = (h : Int) := by
    rw [cNx_i (by decide)]
    exact hv.1.1
  have A65 : (SA.i 65).toInt = (h : Int) + 1 := by
    rw [eA]
    show ((CS.setI (CS.putA (cNx s) 60 (gPut ((cNx s).a 60) 600 ((cNx s).i 65) _)) 65 ((cNx s).i 65 + 1)).i 65).toInt = _
    rw [ci_at, ad1 (by omega) (by omega), q65]
  have A66 : (SA.i 66).toInt = ((p + 1 : Nat) : Int) := by
    rw [eA, cPu_i (by decide)]
    exact cNx_66 mc.1.2.1 (by omega)
  have Ai : ∀ j : Nat, j ≠ 65 → j ≠ 66 → SA.i j = s.i j := fun j a b => by rw [eA, cPu_i a, cNx_i b]
  have Aa : ∀ j : Nat, j ≠ 60 → SA.a j = s.a j := fun j a => by
    rw [eA, cPu_a a]
    rfl
  have A60 : ∀ j : Nat, j < h → SA.a 60 j = s.a 60 j := fun j hj => by
    rw [eA]
    show gPut ((cNx s).a 60) 600 ((cNx s).i 65) _ j = s.a 60 j
    unfold gPut
    rw [if_pos ⟨by omega, by omega⟩, cl_nat q65]
    exact if_neg (by omega)
  have Ar : SA.r = s.r ∧ SA.w = s.w ∧ SA.o = s.o ∧ SA.ot = s.ot ∧ SA.oa = s.oa := by
    rw [eA]
    exact ⟨rfl, rfl, rfl, rfl, rfl⟩
  have ctA : cTp SA = if s.a 59 (a.x + 1) ≤ s.a 59 a.x then 0 else 1 := by
    rw [cTp_at A65 y9, eA]
    exact cPu_top q65 y9
  have A72 : SA.i 72 = -1 := (Ai 72 (by decide) (by decide)).trans mc.1.1.1
  have A73 : SA.i 73 = 0 := (Ai 73 (by decide) (by decide)).trans mc.1.1.2
  obtain ⟨SB, f1, f2, -, ⟨f4, f5⟩, f6, x2⟩ := tick2 hN (e3 A72) A72 A73 A66 (by omega) (by omega)
  have f7 : SB = if cTp SA = 0 then CS.setI (cPo (cNx SA)) 66 (cTg SA (cAr SA)) else cPo (cNx SA) := xi_31 (f4.trans y2) f1
  have P65 : ((cPo (cNx SA)).i 65) = s.i 65 := Int32.toInt_inj.mp (by
    rw [hv.1.1]
    show ((CS.setI (cNx SA) 65 ((cNx SA).i 65 - 1)).i 65).toInt = _
    rw [ci_at]
    exact sub_n1 (by rw [cNx_i (by decide)]; exact A65))
  have Pi : ∀ j : Nat, j ≠ 66 → (cPo (cNx SA)).i j = s.i j := fun j b => by
    by_cases z : j = 65
    · rw [z]
      exact P65
    · rw [cPo_i z, cNx_i b, Ai j z b]
  have P66 : ((cPo (cNx SA)).i 66).toInt = ((p + 2 : Nat) : Int) := by
    rw [cPo_i (by decide)]
    exact cNx_66 A66 (by omega)
  have e0 : (0 : Int32).toInt = 0 := by decide
  have g1 := xp_24 (r := rNx r) (by rw [mc.clq]; exact h21.trans y7) v1
  have r99 : (rNx r).i 99 = r.i 99 := rNx_i (by decide)
  rw [r99, i2, mc.clq] at g1
  obtain ⟨tnx, -⟩ := un_toR (y := r.i 92 + 1) (q' := q + 1) mc (by rw [ad1 (by have := mc.1.2.2; omega) (by have := mc.1.2.2; omega), mc.1.2.2]; rfl)
  by_cases full : i = a.y
  · -- the row is at its end
    have le : s.a 59 (a.x + 1) ≤ s.a 59 a.x := by
      rw [Int32.le_iff_toInt_le]
      omega
    rw [ctA, if_pos le, if_pos rfl] at f7
    rcases g1 with ⟨-, g1⟩ | ⟨g1, -⟩
    · obtain ⟨m1, m2⟩ := un_pc (S := SB) (p' := p') mc (fun j b => by rw [f7, ci_ne _ _ _ b]; exact Pi j b) (fun k b => by rw [f7]; exact Aa k b) (fun k b => by rw [f7]; exact A60 k b) (by rw [f7]; exact Ar) (by rw [f7, ci_at, f6, f5]; exact j1)
      obtain ⟨n1, n2⟩ := un_toR (y := (rNx r).a 22 q) (q' := q') m1 (by show (r.a 22 q).toInt = _; rw [h22]; exact j2)
      have eV : V = RS.setI r 92 ((rNx r).a 22 q) ∨ True := Or.inr True.intro
      have Vi : ∀ j : Nat, j ≠ 92 → V.i j = r.i j := fun j b => by rw [g1, ri_ne b, rNx_i b]
      have Va : V.a = r.a := by
        rw [g1]
        rfl
      have ev : EXV nm r V := ⟨fun j _ _ b _ => Vi j b, fun k _ _ _ _ => by rw [Va], fun l _ => by rw [Va], le_80 (Vi 80 (by decide))⟩
      have m3 : MCO nm SB V h p' q' := by
        obtain ⟨⟨k1, k2, -⟩, k4, k5, k6⟩ := m1
        exact ⟨⟨k1, k2, by rw [g1, ri_at]; show (r.a 22 q).toInt = _; rw [h22]; exact j2⟩, k4.of rfl rfl (Vi 93 (by decide)) (by rw [Va]), k5.of rfl rfl rfl (Vi 80 (by decide)) (Vi 81 (by decide)) (by rw [Va]) (by rw [Va]), by rw [Va]; exact k6⟩
      exact pl_fink (k := 2) hct pt (by omega) (by omega) (f2 m3.1.1.1) v3 v2 m3 m2 ev j4 j3 (by decide) (BTP.no (by decide))
    · have q1 : (rNx r).a 102 c0.length = (rNx r).a 103 c0.length := Int32.toInt_inj.mp (by
        show (r.a 102 c0.length).toInt = (r.a 103 c0.length).toInt
        omega)
      exact absurd q1 g1
  · -- one more
    have nle : ¬ s.a 59 (a.x + 1) ≤ s.a 59 a.x := fun z => by
      have := le_int z
      omega
    rw [ctA, if_neg nle, if_neg n10] at f7
    rcases g1 with ⟨g1, -⟩ | ⟨-, P, g1, g2⟩
    · have q1 : (r.a 102 c0.length).toInt = (r.a 103 c0.length).toInt := congrArg Int32.toInt g1
      omega
    · have B72 : SB.i 72 = -1 := by rw [f7, Pi 72 (by decide)]; exact mc.1.1.1
      have B73 : SB.i 73 = 0 := by rw [f7, Pi 73 (by decide)]; exact mc.1.1.2
      have B66 : (SB.i 66).toInt = ((p + 2 : Nat) : Int) := by rw [f7]; exact P66
      obtain ⟨SC, c1, c2, c3, ⟨c4, c5⟩, c6, x3⟩ := tick2 hN (f2 B72) B72 B73 B66 (by omega) (by omega)
      have cs : f_X3_step N (cNx SB) = some ((), SC) := xi_51 (c4.trans y3) c1
      have Bi : ∀ j : Nat, j ≠ 66 → SB.i j = s.i j := fun j b => by rw [f7]; exact Pi j b
      have Ba : ∀ j : Nat, j ≠ 60 → SB.a j = s.a j := fun j b => by rw [f7]; exact Aa j b
      have B60 : ∀ j : Nat, j < h → SB.a 60 j = s.a 60 j := fun j b => by rw [f7]; exact A60 j b
      have Br : SB.r = s.r ∧ SB.w = s.w ∧ SB.o = s.o ∧ SB.ot = s.ot ∧ SB.oa = s.oa := by rw [f7]; exact Ar
      have mB : MTR (cNx SB) (rNx r) := mc.2.2.1.of (by rw [cNx_i (by decide), Bi 69 (by decide)]) (by rw [cNx_i (by decide), Bi 70 (by decide)]) (Ba 64 (by decide)) (rNx_i (by decide)) (rNx_i (by decide)) rfl rfl
      rcases mB.step cs g1 with ⟨s1, s2⟩ | ⟨⟨s1, s2⟩, s3, s4⟩
      · -- no step is left
        right
        have s1' : SC = CS.setI (cNx SB) 72 3 := s1
        have s72 : SC.i 72 = 3 := by rw [s1', ci_at]
        have Vp : ∀ j : Nat, V.i j = P.i j := fun j => by
          rw [g2]
          rfl
        have v115 : V.i 115 = 5 := by rw [Vp, s2, ri_ne (by decide), ri_at]
        have eT := c3 (by rw [s72]; decide)
        have ru := rn_end (Or.inl (by rw [Vp, s2, ri_at]; decide)) v2
        unfold f_X12_run_163 at ru
        rw [if_neg (by rw [v115]; decide), if_neg (by rw [v115]; decide), if_pos v115] at ru
        rw [eT, ← Option.some.inj ru]
        have Va : ∀ k : Nat, k ≠ 84 → k ≠ 102 → V.a k = r.a k := fun k b d => by
          rw [g2, setA_nk d, setA_nk b, s2]
          rfl
        have Vi : ∀ j : Nat, j ≠ 92 → j ≠ 115 → V.i j = r.i j := fun j b d => by rw [Vp, s2, ri_ne b, ri_ne d, rNx_i b]
        have Ci : ∀ j : Nat, j ≠ 66 → j ≠ 72 → SC.i j = s.i j := fun j b d => by rw [s1', ci_ne _ _ _ d, cNx_i b, Bi j b]
        have Ca : SC.a 64 = s.a 64 := by
          rw [s1']
          exact Ba 64 (by decide)
        obtain ⟨⟨m1, -, -⟩, ⟨m2, m3⟩, m4⟩ := mc.2.2.1
        refine ⟨⟨⟨?_, ?_, ?_⟩, ⟨⟨fun z => ?_, fun z => ?_⟩, fun z => ?_, fun z => ?_⟩, fun z => ?_, fun k hk => ?_, ?_, fun z => ?_⟩, s72⟩
        · show SC.i 70 = V.i 80
          rw [Ci 70 (by decide) (by decide), Vi 80 (by decide) (by decide)]
          exact m1
        · show SC.i 69 = V.i 81
          rw [Ci 69 (by decide) (by decide), Vi 81 (by decide) (by decide)]
          exact m2
        · show 0 ≤ (V.i 81).toInt ∧ (V.i 81).toInt ≤ 200
          rw [Vi 81 (by decide) (by decide)]
          exact m3
        · have z' : SC.i 72 = 1 := z
          rw [s72] at z'
          exact absurd z' (by decide)
        · have z' : V.i 115 = 2 := z
          rw [v115] at z'
          exact absurd z' (by decide)
        · have z' : SC.i 72 = 2 := z
          rw [s72] at z'
          exact absurd z' (by decide)
        · have z' : V.i 115 = 3 := z
          rw [v115] at z'
          exact absurd z' (by decide)
        · have z' : V.i 115 = 2 := z
          rw [v115] at z'
          exact absurd z' (by decide)
        · have hk' : (k : Int) < (V.i 81).toInt := hk
          rw [Vi 81 (by decide) (by decide)] at hk'
          show SC.a 64 (2 * k) = V.a 82 k ∧ SC.a 64 (2 * k + 1) = V.a 83 k
          rw [Ca, Va 82 (by decide) (by decide), Va 83 (by decide) (by decide)]
          exact m4 k hk'
        · show SC.i 71 = hS V 8
          rw [Ci 71 (by decide) (by decide), hS_of (r := r) (R := V) (Va 91 (by decide) (by decide)) 8]
          exact dyn.1.2.2.1
        · have z' : V.i 115 = 3 := z
          rw [v115] at z'
          exact absurd z' (by decide)
      · -- a value is taken
        have s1' : SC = CS.setI (cNx SB) 70 ((cNx SB).i 70 + 1) := s1
        have Ci : ∀ j : Nat, j ≠ 66 → j ≠ 70 → SC.i j = s.i j := fun j b d => by rw [s1', ci_ne _ _ _ d, cNx_i b, Bi j b]
        have Ca : ∀ j : Nat, j ≠ 60 → SC.a j = s.a j := fun j b => by
          rw [s1']
          exact Ba j b
        have C60 : ∀ j : Nat, j < h → SC.a 60 j = s.a 60 j := fun j b => by
          rw [s1']
          exact B60 j b
        have Cr : SC.r = s.r ∧ SC.w = s.w ∧ SC.o = s.o ∧ SC.ot = s.ot ∧ SC.oa = s.oa := by
          rw [s1']
          exact Br
        have C66 : (SC.i 66).toInt = ((p + 3 : Nat) : Int) := by
          rw [s1', ci_ne _ _ _ (by decide)]
          exact cNx_66 B66 (by omega)
        have C72 : SC.i 72 = -1 := (Ci 72 (by decide) (by decide)).trans mc.1.1.1
        have C73 : SC.i 73 = 0 := (Ci 73 (by decide) (by decide)).trans mc.1.1.2
        obtain ⟨SD, k1, k2, -, ⟨k4, k5⟩, k6, x4⟩ := tick2 hN (c2 C72) C72 C73 C66 (by omega) (by omega)
        have arC : (cAr SC).toInt = (a.x : Int) := by
          rw [k5]
          exact z2
        have gc0 : gAt (SC.a 59) 720 (cAr SC) = s.a 59 a.x := by
          unfold gAt
          rw [if_pos ⟨by omega, by omega⟩, cl_nat arC, Ca 59 (by decide)]
        have e2' : (2 : Int32).toInt = 2 := by decide
        have r2 : (cAr SC + 2).toInt = (a.x : Int) + 2 := by rw [toInt_add] <;> rw [e2'] <;> omega
        have cxi : a.x + 2 + i < 720 := (ck1 (a.x + 2 + i) (Or.inr ⟨ak, by omega, by omega⟩)).1
        have r3 : (cAr SC + 2 + s.a 59 a.x).toInt = ((a.x + 2 + i : Nat) : Int) := by rw [toInt_add] <;> rw [r2, b7] <;> omega
        have gci : gAt (SC.a 59) 720 (cAr SC + 2 + s.a 59 a.x) = s.a 59 (a.x + 2 + i) := by
          unfold gAt
          rw [if_pos ⟨by omega, by omega⟩, cl_nat r3, Ca 59 (by decide)]
        have gpc : gPut (SC.a 59) 720 (cAr SC) (s.a 59 a.x + 1) = upd (s.a 59) a.x (s.a 59 a.x + 1) := by
          unfold gPut
          rw [if_pos ⟨by omega, by omega⟩, cl_nat arC, Ca 59 (by decide)]
        have eD : SD = CS.putA (cPu (cNx SC) (s.a 59 (a.x + 2 + i))) 59 (upd (s.a 59) a.x (s.a 59 a.x + 1)) := by
          have := xi_38 (k4.trans y4) k1
          rw [gc0, gci, gpc] at this
          exact this
        have qc65 : ((cNx SC).i 65).toInt = (h : Int) := by
          rw [cNx_i (by decide), Ci 65 (by decide) (by decide)]
          exact hv.1.1
        have D65 : (SD.i 65).toInt = (h : Int) + 1 := by
          rw [eD]
          show ((cPu (cNx SC) (s.a 59 (a.x + 2 + i))).i 65).toInt = _
          unfold cPu
          rw [ci_at, ad1 (by omega) (by omega), qc65]
        have Di : ∀ j : Nat, j ≠ 65 → j ≠ 66 → SD.i j = SC.i j := fun j b d => by
          rw [eD]
          show (cPu (cNx SC) (s.a 59 (a.x + 2 + i))).i j = _
          rw [cPu_i b, cNx_i d]
        have D66 : (SD.i 66).toInt = ((p + 4 : Nat) : Int) := by
          rw [eD]
          show ((cPu (cNx SC) (s.a 59 (a.x + 2 + i))).i 66).toInt = _
          rw [cPu_i (by decide)]
          exact cNx_66 C66 (by omega)
        have Da : ∀ j : Nat, j ≠ 59 → j ≠ 60 → SD.a j = SC.a j := fun j b d => by
          rw [eD, cpA_ne b, cPu_a d]
          rfl
        have D59 : SD.a 59 = upd (s.a 59) a.x (s.a 59 a.x + 1) := by
          rw [eD]
          rfl
        have D60e : SD.a 60 = (cPu (cNx SC) (s.a 59 (a.x + 2 + i))).a 60 := by rw [eD, cpA_ne (by decide)]
        have D60 : ∀ j : Nat, j < h → SD.a 60 j = SC.a 60 j := fun j b => by
          rw [D60e]
          show gPut ((cNx SC).a 60) 600 ((cNx SC).i 65) _ j = SC.a 60 j
          unfold gPut
          rw [if_pos ⟨by omega, by omega⟩, cl_nat qc65]
          exact if_neg (by omega)
        have Dr : SD.r = SC.r ∧ SD.w = SC.w ∧ SD.o = SC.o ∧ SD.ot = SC.ot ∧ SD.oa = SC.oa := by
          rw [eD]
          exact ⟨rfl, rfl, rfl, rfl, rfl⟩
        have ctD : cTp SD = s.a 59 (a.x + 2 + i) := by
          rw [cTp_at D65 y9, D60e]
          exact cPu_top qc65 y9
        have D72 : SD.i 72 = -1 := (Di 72 (by decide) (by decide)).trans C72
        have D73 : SD.i 73 = 0 := (Di 73 (by decide) (by decide)).trans C73
        obtain ⟨SE, l1, l2, -, ⟨l4, l5⟩, l6, x5⟩ := tick2 hN (k2 D72) D72 D73 D66 (by omega) (by omega)
        obtain ⟨kk7, ll4⟩ := nn.1 k0 l0 z5
        have arD : (cAr SD).toInt = (k0 : Int) := by
          rw [l5]
          exact z3
        have eE : SE = CS.putA (cPo (cNx SD)) 59 (upd (SD.a 59) k0 (s.a 59 (a.x + 2 + i))) := by
          have := xi_2 (l4.trans y5) l1
          have gq : gPut (SD.a 59) 720 (cAr SD) (cTp SD) = upd (SD.a 59) k0 (s.a 59 (a.x + 2 + i)) := by
            unfold gPut
            rw [if_pos ⟨by omega, by omega⟩, cl_nat arD, ctD]
          rw [gq] at this
          exact this
        have Ei : ∀ j : Nat, j ≠ 66 → j ≠ 70 → SE.i j = s.i j := fun j b d => by
          rw [eE]
          show (cPo (cNx SD)).i j = s.i j
          by_cases z : j = 65
          · rw [z]
            exact Int32.toInt_inj.mp (by
              rw [hv.1.1]
              show ((CS.setI (cNx SD) 65 ((cNx SD).i 65 - 1)).i 65).toInt = _
              rw [ci_at]
              exact sub_n1 (by rw [cNx_i (by decide)]; exact D65))
          · rw [cPo_i z, cNx_i b, Di j z b, Ci j b d]
        have E70 : SE.i 70 = SC.i 70 := by
          rw [eE]
          show (cPo (cNx SD)).i 70 = _
          rw [cPo_i (by decide), cNx_i (by decide), Di 70 (by decide) (by decide)]
        have E66 : (SE.i 66).toInt = ((p + 5 : Nat) : Int) := by
          rw [eE]
          show ((cPo (cNx SD)).i 66).toInt = _
          rw [cPo_i (by decide)]
          exact cNx_66 D66 (by omega)
        have Ea : ∀ j : Nat, j ≠ 59 → j ≠ 60 → SE.a j = s.a j := fun j b d => by
          rw [eE, cpA_ne b]
          show SD.a j = s.a j
          rw [Da j b d, Ca j d]
        have E59 : ∀ j : Nat, SE.a 59 j = if j = k0 then s.a 59 (a.x + 2 + i) else if j = a.x then s.a 59 a.x + 1 else s.a 59 j := fun j => by
          rw [eE, D59]
          rfl
        have E60 : ∀ j : Nat, j < h → SE.a 60 j = s.a 60 j := fun j b => by
          rw [eE, cpA_ne (by decide)]
          show SD.a 60 j = s.a 60 j
          rw [D60 j b, C60 j b]
        have Er : SE.r = s.r ∧ SE.o = s.o ∧ SE.ot = s.ot ∧ SE.oa = s.oa := by
          obtain ⟨r1, r2, r3, r4, r5⟩ := Dr
          obtain ⟨t1, t2, t3, t4, t5⟩ := Cr
          rw [eE]
          exact ⟨r1.trans t1, r3.trans t3, r4.trans t4, r5.trans t5⟩
        obtain ⟨er1, er2, er3, er4⟩ := Er
        -- the reference
        have nk : ∀ k : Nat, cel a k → k ≠ k0 := fun k hk z => (ck1 k hk).2.1 l0 (by rw [z]; exact z5)
        have Pa : P.a = r.a := by
          rw [s2]
          rfl
        have Pi' : ∀ j : Nat, j ≠ 80 → P.i j = (rNx r).i j := fun j b => by rw [s2, ri_ne b]
        have p23 : (P.a 23 q).toNatClampNeg = l0 := by
          rw [Pa, h23]
          exact cl_nat z4
        obtain ⟨mm, hmm⟩ : ∃ mm : Nat, m0 = (mm : Int) := ⟨m0.toNat, by omega⟩
        have p102 : (P.a 102 c0.length).toInt = ((mm + i : Nat) : Int) := by
          rw [Pa, b5, hmm]
          omega
        rw [p23, cl_nat p102] at g2
        have V84 : ∀ l : Nat, V.a 84 l = if l = l0 then r.a 98 (mm + i) else r.a 84 l := fun l => by
          rw [g2, setA_nk (by decide)]
          by_cases z : l = l0
          · rw [z, setA_at, if_pos rfl, Pa]
          · rw [setA_ne z, if_neg z, Pa]
        have V102 : V.a 102 c0.length = r.a 102 c0.length + 1 := by rw [g2, setA_at, Pa]
        have V102' : ∀ k : Nat, k ≠ c0.length → V.a 102 k = r.a 102 k := fun k b => by rw [g2, setA_ne b, setA_nk (by decide), Pa]
        have Va : ∀ k : Nat, k ≠ 84 → k ≠ 102 → V.a k = r.a k := fun k b d => by rw [g2, setA_nk d, setA_nk b, Pa]
        have Vi : ∀ j : Nat, j ≠ 80 → j ≠ 92 → V.i j = r.i j := fun j b d => by
          rw [g2]
          show P.i j = r.i j
          rw [Pi' j b, rNx_i d]
        have V80 : V.i 80 = P.i 80 := by
          rw [g2]
          rfl
        have V80t : (V.i 80).toInt = (r.i 80).toInt + 1 := by
          rw [V80, s4, rNx_i (by decide)]
        have V92 : (V.i 92).toInt = ((q + 1 : Nat) : Int) := by
          rw [g2]
          show (P.i 92).toInt = _
          rw [Pi' 92 (by decide)]
          exact tnx.1.2.2
        have bval : s.a 59 (a.x + 2 + i) = r.a 98 (mm + i) := by
          rw [b9 i (by omega), hmm]
          rfl
        have tlv : ∀ b' : Nat, TLV s r mu b' → TLV SE V mu b' := fun b' t => by
          unfold TLV THG inP at *
          rw [er1, er2, er4, Vi 85 (by decide) (by decide), Vi 3 (by decide) (by decide), Va 86 (by decide) (by decide), Va 87 (by decide) (by decide), Va 88 (by decide) (by decide), Va 89 (by decide) (by decide), Va 90 (by decide) (by decide)]
          exact t
        have feq : FEQ s SE r V mu mu c0 m0 := by
          refine ⟨fun i' f _ hf => ⟨by rw [er1]; exact hf, by rw [er2], by rw [er3]⟩, fun b' _ t => ⟨tlv b' t, rfl, by rw [Va 87 (by decide) (by decide)]⟩, ⟨Ea 17 (by decide) (by decide), Va 21 (by decide) (by decide), Va 23 (by decide) (by decide), Va 31 (by decide) (by decide), Va 32 (by decide) (by decide)⟩, fun j k t1 t2 t3 => ?_, fun a' ha => ⟨fun k hk => ?_, fun l hl => ?_⟩, fun j _ => by rw [Va 98 (by decide) (by decide)]⟩
          · by_cases z : j = 102
            · rw [z]
              exact V102' k (by omega)
            · rw [Va j (by omega) z]
          · have n1 : k ≠ a.x := fun z => (ck1 a.x (Or.inr ⟨ak, by omega, by omega⟩)).2.2 a' ha (by rw [← z]; exact hk)
            have n2 : k ≠ k0 := fun z => ((ck3.in a' ha).1 k hk).2 l0 (by rw [z]; exact z5)
            rw [E59, if_neg n2, if_neg n1]
          · have n2 : l ≠ l0 := fun z => (ck3.in a' ha).2 l hl k0 (by rw [z]; exact z5)
            rw [V84, if_neg n2]
        have nx0 : k0 ≠ a.x := fun z => nk a.x (Or.inr ⟨ak, by omega, by omega⟩) z.symm
        have ey : (s.a 59 a.x + 1).toInt = (i : Int) + 1 := by rw [ad1 (by omega) (by omega), b7]
        have E72 : SE.i 72 = -1 := (Ei 72 (by decide) (by decide)).trans mc.1.1.1
        rw [ec] at w2 dyn
        obtain ⟨⟨-, ⟨g1a, g1b⟩, g3, ⟨g4, g5⟩, g6, g7⟩, ⟨u1, u2, u3, u4, u5, u6⟩⟩ := dyn
        refine Or.inl ⟨m, SE, V, mu, h, p + 5, q + 1, w', 0, _, x + 1 + 1 + 1 + 1 + 1, by omega, ⟨l2 E72, v3, ⟨⟨⟨⟨E72, (Ei 73 (by decide) (by decide)).trans mc.1.1.2⟩, E66, V92⟩, ⟨⟨by rw [Ei 65 (by decide) (by decide)]; exact hv.1.1, by rw [Vi 93 (by decide) (by decide)]; exact hv.1.2.1, hv.1.2.2⟩, fun k hk => ?_⟩, ?_, fun k l hk => ?_⟩, ⟨⟨?_, ⟨?_, ?_⟩, ?_, ⟨?_, ?_⟩, ?_, ?_⟩, ?_⟩, ?_⟩, BTP.no (by decide), w2, ?_⟩, v2⟩
        · rw [E60 k hk, Va 94 (by decide) (by decide)]
          exact hv.2 k hk
        · refine s3.of ((Ei 69 (by decide) (by decide)).trans ?_) E70 (by rw [Ea 64 (by decide) (by decide), Ca 64 (by decide)]) V80 (by rw [g2]; rfl) (by rw [Va 82 (by decide) (by decide), Pa]) (by rw [Va 83 (by decide) (by decide), Pa])
          exact (Ci 69 (by decide) (by decide)).symm
        · have n1 : k ≠ a.x := fun z => (ck1 a.x (Or.inr ⟨ak, by omega, by omega⟩)).2.1 l (by rw [← z]; exact hk)
          have iff := nn.2 k l k0 l0 hk z5
          rw [E59, V84]
          by_cases z : k = k0
          · rw [if_pos z, if_pos (iff.mp z)]
            exact bval
          · rw [if_neg z, if_neg n1, if_neg (fun z' => z (iff.mpr z'))]
            exact mc.2.2.2 k l hk
        · refine ⟨?_, Or.inr (Or.inr (Or.inr (Or.inr (Or.inl ⟨ak, ?_, m0, ⟨i + 1, by omega, ?_, b3, ?_, ?_, ?_, ?_, ?_, fun j hj => ?_⟩, fr0.of feq⟩))))⟩
          · rw [Va 104 (by decide) (by decide)]
            exact d0
          · rw [Va 100 (by decide) (by decide)]
            exact a1
          · rw [Vi 97 (by decide) (by decide)]
            exact b2
          · rw [Va 101 (by decide) (by decide)]
            exact b4
          · have lim := Int32.toInt_lt (r.a 103 c0.length)
            rw [V102, ad1 (by omega) (by omega), b5]
            omega
          · rw [Va 103 (by decide) (by decide), Vi 97 (by decide) (by decide)]
            exact b6'
          · rw [E59, if_neg (fun z => nx0 z.symm), if_pos rfl, ey]
            omega
          · rw [E59, if_neg (nk (a.x + 1) (Or.inr ⟨ak, by omega, by omega⟩)), if_neg (by omega)]
            exact b8
          · rw [E59, if_neg (nk (a.x + 2 + j) (Or.inr ⟨ak, by omega, by omega⟩)), if_neg (by omega), Va 98 (by decide) (by decide)]
            exact b9 j hj
        · rw [Ei 67 (by decide) (by decide)]
          exact g1a
        · rw [Vi 99 (by decide) (by decide)]
          exact g1b
        · rw [Ei 71 (by decide) (by decide), hS_of (r := r) (R := V) (Va 91 (by decide) (by decide)) 8]
          exact g3
        · rw [Vi 85 (by decide) (by decide)]
          exact g4
        · rw [Vi 85 (by decide) (by decide), V80t]
          have : -(gcr 0) = 0 := rfl
          rw [this]
          omega
        · unfold MUI at *
          rw [Vi 85 (by decide) (by decide)]
          exact g6
        · exact (Vi 115 (by decide) (by decide)).trans g7
        · refine ⟨by rw [Ei 68 (by decide) (by decide), Vi 95 (by decide) (by decide)]; exact u1, by rw [Vi 95 (by decide) (by decide)]; exact u2, by rw [Vi 95 (by decide) (by decide)]; exact u3, u4, fun k hk => ?_, by rw [Vi 95 (by decide) (by decide)]; exact u6.of (fun k _ => by rw [Va 103 (by decide) (by decide)])⟩
          rw [Vi 95 (by decide) (by decide)] at hk
          rw [Ea 63 (by decide) (by decide), Va 96 (by decide) (by decide)]
          exact u5 k hk
        · exact tlr.of (fun j hj => Ei j (by omega) (by omega)) (fun k hk => Ea k (by omega) (by omega)) ⟨fun j hj => Vi j (by omega) (by omega), fun k hk => Va k (by omega) (by omega)⟩
        · rw [V80t, x5, x4, x3, x2, x1, ← ec]
          show x.toInt + 1 + 1 + 1 + 1 + 1 + (fps c : Int) + w' + 0 ≤ _
          omega
end
section
/-! both machines: what a switch chooses -/
theorem xi_34 {N : Nat} {s : CS} {R : Unit × CS} (h : cOp s = 34) (e : f_X3_instruction N s = some R) : R.2 = if cTp (cPo s) = cTp s then CS.setI (cPo (cPo (cNx s))) 66 (cTg s (cAr s)) else cPo (cNx s) := by
  have z := xi_ste (by rw [h]; decide) (by rw [h]; decide) (by rw [h]; decide) e
  rw [h] at z
  unfold f_X3_steer at z
  rw [if_neg (by decide), if_neg (by decide), if_neg (by decide), if_neg (by decide), if_pos rfl] at z
  have z1 := ob_un z
  unfold f_X3_compareCase at z1
  rw [e_cPo, ob_some] at z1
  by_cases c : cTp (cPo s) = cTp s
  · rw [if_pos c]
    have z2 := (if_pos (show gAt ((cPo (cNx s)).a 60) 600 ((cPo (cNx s)).i 65 - 1) = cTp (cNx s) from c)).symm.trans z1
    rw [e_cPo, ob_some] at z2
    rw [← Option.some.inj z2]
    rfl
  · rw [if_neg c]
    have z2 := (if_neg (show ¬ gAt ((cPo (cNx s)).a 60) 600 ((cPo (cNx s)).i 65 - 1) = cTp (cNx s) from c)).symm.trans z1
    rw [← Option.some.inj z2]
/-- the class's rows of a switch -/
def DSP (s0 : CS) (d n : Nat) : Prop := d + 2 * n + 1 < 1200 ∧ (∀ i : Nat, i < n → s0.a 15 (d + 2 * i) = 0 ∧ s0.a 15 (d + 2 * i + 1) = 34) ∧ s0.a 15 (d + 2 * n) = 6 ∧ s0.a 15 (d + 2 * n + 1) = 30
/-- values above the height, place and height alone change -/
def E65 (s S : CS) (h : Nat) : Prop := (∀ j : Nat, j ≠ 65 → j ≠ 66 → S.i j = s.i j) ∧ (∀ k : Nat, k ≠ 60 → S.a k = s.a k) ∧ (∀ k : Nat, k < h → S.a 60 k = s.a 60 k) ∧ (S.r = s.r ∧ S.w = s.w ∧ S.o = s.o ∧ S.ot = s.ot ∧ S.oa = s.oa)
theorem E65.tr {s S T : CS} {h : Nat} (a : E65 s S h) (b : E65 S T h) : E65 s T h := by
  obtain ⟨a1, a2, a3, a4, a5, a6, a7, a8⟩ := a
  obtain ⟨b1, b2, b3, b4, b5, b6, b7, b8⟩ := b
  exact ⟨fun j p q => (b1 j p q).trans (a1 j p q), fun k p => (b2 k p).trans (a2 k p), fun k p => (b3 k p).trans (a3 k p), b4.trans a4, b5.trans a5, b6.trans a6, b7.trans a7, b8.trans a8⟩
theorem E65.dn {s S : CS} {h h' : Nat} (a : E65 s S h) (l : h' ≤ h) : E65 s S h' := ⟨a.1, a.2.1, fun k p => a.2.2.1 k (by omega), a.2.2.2⟩
theorem e65_66 {s : CS} {h : Nat} {v : Int32} : E65 s (CS.setI s 66 v) h := ⟨fun j _ b => ci_ne _ _ _ b, fun _ _ => rfl, fun _ _ => rfl, rfl, rfl, rfl, rfl, rfl⟩
theorem e65_nx {s : CS} {h : Nat} : E65 s (cNx s) h := e65_66
theorem e65_po {s : CS} {h : Nat} : E65 s (cPo s) h := ⟨fun j a _ => cPo_i a, fun _ _ => rfl, fun _ _ => rfl, rfl, rfl, rfl, rfl, rfl⟩
theorem e65_pu {s : CS} {h : Nat} {v : Int32} (e : (s.i 65).toInt = (h : Int)) (h6 : h < 600) : E65 s (cPu s v) h := by
  refine ⟨fun j a _ => cPu_i a, fun k a => cPu_a a, fun k hk => ?_, rfl, rfl, rfl, rfl, rfl⟩
  show gPut (s.a 60) 600 (s.i 65) v k = s.a 60 k
  unfold gPut
  rw [if_pos ⟨by omega, by omega⟩, cl_nat e]
  exact if_neg (by omega)
theorem cPu_65 {s : CS} {h : Nat} {v : Int32} (e : (s.i 65).toInt = (h : Int)) (h6 : h < 600) : ((cPu s v).i 65).toInt = ((h + 1 : Nat) : Int) := by
  unfold cPu
  rw [ci_at, ad1 (by omega) (by omega), e]
  rfl
theorem cPo_65 {s : CS} {h : Nat} (e : (s.i 65).toInt = ((h + 1 : Nat) : Int)) : ((cPo s).i 65).toInt = (h : Int) := by
  unfold cPo
  rw [ci_at]
  exact sub_n1 (by omega)
theorem dsp_c {N H : Nat} (hN : 10000000000 ≤ N) {D : Nat → List Nat} {T : Int32 × CS} {s0 : CS} {d n h : Nat} {v : Int32} (dp : DSP s0 d n) (h6 : h + 2 ≤ 600) : ∀ (k i : Nat) (S : CS) (x : Int32), i + k = n → CRN N H D T s0 S x → S.i 72 = -1 → S.i 73 = 0 → (S.i 66).toInt = ((d + 2 * i : Nat) : Int) → (S.i 65).toInt = ((h + 1 : Nat) : Int) → S.a 60 h = v → x.toInt + 2 * k + 2 ≤ 4000000 → ∃ (S2 : CS) (x' : Int32), CRN N H D T s0 S2 x' ∧ x'.toInt ≤ x.toInt + 2 * k + 2 ∧ E65 S S2 h ∧ (S2.i 65).toInt = (h : Int) ∧ ((∃ j : Nat, j < n ∧ s0.a 16 (d + 2 * j) = v ∧ S2.i 66 = cTg s0 (s0.a 16 (d + 2 * j + 1))) ∨ ((∀ j : Nat, i ≤ j → j < n → ¬ s0.a 16 (d + 2 * j) = v) ∧ S2.i 66 = cTg s0 (s0.a 16 (d + 2 * n + 1)))) := by
  obtain ⟨dp1, dp2, dp3, dp4⟩ := dp
  intro k
  induction k with
  | zero =>
    intro i S x hi cr h72 h73 h66 h65 hv hx
    have x0 := cr.2.2.1.1
    have ein : i = n := by omega
    rw [ein] at h66
    obtain ⟨A, a1, a2, -, ⟨a4, a5⟩, -, xa⟩ := tick2 hN cr h72 h73 h66 (by omega) (by omega)
    have eA : A = cPo (cNx S) := xi_6 (a4.trans dp3) a1
    have A72 : A.i 72 = -1 := by rw [eA, cPo_i (by decide), cNx_i (by decide)]; exact h72
    have A73 : A.i 73 = 0 := by rw [eA, cPo_i (by decide), cNx_i (by decide)]; exact h73
    have A66 : (A.i 66).toInt = ((d + 2 * n + 1 : Nat) : Int) := by
      rw [eA, cPo_i (by decide)]
      exact cNx_66 h66 (by omega)
    obtain ⟨B, b1, b2, -, ⟨b4, b5⟩, b6, xb⟩ := tick2 hN (a2 A72) A72 A73 A66 (by omega) (by omega)
    have eB : B = CS.setI (cNx A) 66 (cTg A (cAr A)) := xi_30 (b4.trans dp4) b1
    have EB : E65 S B h := by
      rw [eB, eA]
      exact ((e65_nx.tr e65_po).tr e65_nx).tr e65_66
    have B72 : B.i 72 = -1 := (EB.1 72 (by decide) (by decide)).trans h72
    refine ⟨B, x + 1 + 1, b2 B72, by rw [xb, xa]; omega, EB, ?_, Or.inr ⟨fun j z1 z2 => by omega, ?_⟩⟩
    · rw [eB, ci_ne _ _ _ (by decide), cNx_i (by decide), eA]
      exact cPo_65 (by rw [cNx_i (by decide)]; exact h65)
    · rw [eB, ci_at, b6, b5]
  | succ k ih =>
    intro i S x hi cr h72 h73 h66 h65 hv hx
    have x0 := cr.2.2.1.1
    obtain ⟨r1, r2⟩ := dp2 i (by omega)
    obtain ⟨A, a1, a2, -, ⟨a4, a5⟩, -, xa⟩ := tick2 hN cr h72 h73 h66 (by omega) (by omega)
    have eA : A = cPu (cNx S) (cAr S) := xi_0 (a4.trans r1) a1
    have n65 : ((cNx S).i 65).toInt = ((h + 1 : Nat) : Int) := by rw [cNx_i (by decide)]; exact h65
    have A72 : A.i 72 = -1 := by rw [eA, cPu_i (by decide), cNx_i (by decide)]; exact h72
    have A73 : A.i 73 = 0 := by rw [eA, cPu_i (by decide), cNx_i (by decide)]; exact h73
    have A66 : (A.i 66).toInt = ((d + 2 * i + 1 : Nat) : Int) := by
      rw [eA, cPu_i (by decide)]
      exact cNx_66 h66 (by omega)
    have A65 : (A.i 65).toInt = ((h + 1 + 1 : Nat) : Int) := by
      rw [eA]
      exact cPu_65 n65 (by omega)
    have EA : E65 S A (h + 1) := by
      rw [eA]
      exact e65_nx.tr (e65_pu n65 (by omega))
    have tA : cTp A = s0.a 16 (d + 2 * i) := by
      rw [cTp_at (h := h + 1) (by rw [A65]; omega) (by omega), eA, cPu_top n65 (by omega), a5]
    have tA2 : cTp (cPo A) = v := by
      have p65 := cPo_65 (h := h + 1) A65
      rw [cTp_at (h := h) (by rw [p65]; omega) (by omega)]
      show A.a 60 h = v
      rw [EA.2.2.1 h (by omega)]
      exact hv
    obtain ⟨B, b1, b2, -, ⟨b4, b5⟩, b6, xb⟩ := tick2 hN (a2 A72) A72 A73 A66 (by omega) (by omega)
    have eB : B = if cTp (cPo A) = cTp A then CS.setI (cPo (cPo (cNx A))) 66 (cTg A (cAr A)) else cPo (cNx A) := xi_34 (b4.trans r2) b1
    rw [tA, tA2] at eB
    have na65 : ((cNx A).i 65).toInt = ((h + 1 + 1 : Nat) : Int) := by rw [cNx_i (by decide)]; exact A65
    by_cases c : v = s0.a 16 (d + 2 * i)
    · rw [if_pos c] at eB
      have EB : E65 S B h := by
        rw [eB]
        exact (EA.dn (by omega)).tr (((e65_nx.tr e65_po).tr e65_po).tr e65_66)
      have B72 : B.i 72 = -1 := (EB.1 72 (by decide) (by decide)).trans h72
      refine ⟨B, x + 1 + 1, b2 B72, by rw [xb, xa]; omega, EB, ?_, Or.inl ⟨i, by omega, c.symm, ?_⟩⟩
      · rw [eB, ci_ne _ _ _ (by decide)]
        exact cPo_65 (cPo_65 na65)
      · rw [eB, ci_at, b6, b5]
    · rw [if_neg c] at eB
      have EB : E65 S B (h + 1) := by
        rw [eB]
        exact EA.tr (e65_nx.tr e65_po)
      have B72 : B.i 72 = -1 := (EB.1 72 (by decide) (by decide)).trans h72
      have B73 : B.i 73 = 0 := (EB.1 73 (by decide) (by decide)).trans h73
      have B66 : (B.i 66).toInt = ((d + 2 * (i + 1) : Nat) : Int) := by
        rw [eB, cPo_i (by decide), cNx_66 A66 (by omega)]
        omega
      have B65 : (B.i 65).toInt = ((h + 1 : Nat) : Int) := by
        rw [eB]
        exact cPo_65 na65
      obtain ⟨S2, x', q1, q2, q3, q4, q5⟩ := ih (i + 1) B (x + 1 + 1) (by omega) (b2 B72) B72 B73 B66 B65 (by rw [EB.2.2.1 h (by omega)]; exact hv) (by rw [xb, xa]; omega)
      refine ⟨S2, x', q1, by rw [xb, xa] at q2; omega, (EB.dn (by omega)).tr q3, q4, ?_⟩
      rcases q5 with q5 | ⟨q5, q6⟩
      · exact Or.inl q5
      · refine Or.inr ⟨fun j z1 z2 => ?_, q6⟩
        by_cases z : j = i
        · rw [z]
          exact fun y => c y.symm
        · exact q5 j (by omega) z2
/-- the reference's chain of entries -/
def CHL (r : RS) : List Nat → Int32 → Prop
  | [], k => k.toInt < 0
  | j :: L, k => k.toInt = (j : Int) ∧ CHL r L (r.a 27 j)
theorem CHL.of {r R : RS} (e : R.a 27 = r.a 27) : ∀ {L : List Nat} {k : Int32}, CHL r L k → CHL R L k
  | [], _, h => h
  | j :: L, k, ⟨h1, h2⟩ => ⟨h1, by rw [e]; exact CHL.of e h2⟩
theorem cas_r {N : Nat} {r : RS} {v : Int32} : ∀ (L : List Nat) (n : Nat) (o k : Int32) (Q : Int32 × RS), CHL r L k → f_X12_caseOf_5 N n r v o k = some Q → Q.2 = r ∧ ((∃ j ∈ L, r.a 28 j = 0 ∧ r.a 25 j = v ∧ Q.1.toInt = (j : Int)) ∨ ((∀ j ∈ L, r.a 28 j = 0 → ¬ r.a 25 j = v) ∧ ((∃ j ∈ L, ¬ r.a 28 j = 0 ∧ Q.1.toInt = (j : Int)) ∨ ((∀ j ∈ L, r.a 28 j = 0) ∧ Q.1 = o)))) := by
  intro L
  induction L with
  | nil =>
    intro n o k Q h g
    cases n with
    | zero => cases g
    | succ n =>
      have g' : b_X12_caseOf_5 N (f_X12_caseOf_5 N n) r v o k = some Q := g
      unfold b_X12_caseOf_5 at g'
      have hk : k.toInt < 0 := h
      rw [if_pos (by rw [Int32.lt_iff_toInt_lt, z_t0]; exact hk)] at g'
      rw [← Option.some.inj g']
      refine ⟨rfl, Or.inr ⟨fun j hj => ?_, Or.inr ⟨fun j hj => ?_, rfl⟩⟩⟩
      · cases hj
      · cases hj
  | cons a L ih =>
    intro n o k Q h g
    obtain ⟨h1, h2⟩ := h
    cases n with
    | zero => cases g
    | succ n =>
      have g' : b_X12_caseOf_5 N (f_X12_caseOf_5 N n) r v o k = some Q := g
      unfold b_X12_caseOf_5 at g'
      rw [if_neg (by rw [Int32.lt_iff_toInt_lt, z_t0]; omega), cl_nat h1] at g'
      obtain ⟨-, g1⟩ := hf_ite g'
      by_cases c : r.a 28 a = 0
      · rw [if_pos c] at g1
        by_cases d : r.a 25 a = v
        · rw [if_pos d] at g1
          rw [← Option.some.inj g1]
          exact ⟨rfl, Or.inl ⟨a, List.mem_cons_self, c, d, h1⟩⟩
        · rw [if_neg d] at g1
          obtain ⟨i1, i2⟩ := ih n o (r.a 27 a) Q h2 g1
          refine ⟨i1, ?_⟩
          rcases i2 with ⟨j, j1, j2⟩ | ⟨i3, i4⟩
          · exact Or.inl ⟨j, List.mem_cons_of_mem _ j1, j2⟩
          · refine Or.inr ⟨fun j hj => ?_, ?_⟩
            · rcases List.mem_cons.mp hj with z | z
              · rw [z]
                exact fun _ => d
              · exact i3 j z
            · rcases i4 with ⟨j, j1, j2⟩ | ⟨i5, i6⟩
              · exact Or.inl ⟨j, List.mem_cons_of_mem _ j1, j2⟩
              · refine Or.inr ⟨fun j hj => ?_, i6⟩
                rcases List.mem_cons.mp hj with z | z
                · rw [z]
                  exact c
                · exact i5 j z
      · rw [if_neg c] at g1
        obtain ⟨i1, i2⟩ := ih n k (r.a 27 a) Q h2 g1
        refine ⟨i1, ?_⟩
        rcases i2 with ⟨j, j1, j2⟩ | ⟨i3, i4⟩
        · exact Or.inl ⟨j, List.mem_cons_of_mem _ j1, j2⟩
        · refine Or.inr ⟨fun j hj => ?_, ?_⟩
          · rcases List.mem_cons.mp hj with z | z
            · rw [z]
              exact fun y => absurd y c
            · exact i3 j z
          · rcases i4 with ⟨j, j1, j2⟩ | ⟨i5, i6⟩
            · exact Or.inl ⟨j, List.mem_cons_of_mem _ j1, j2⟩
            · exact Or.inl ⟨a, List.mem_cons_self, c, by rw [i6]; exact h1⟩
end
section
/-! both machines: a switch of either sort -/
/-- the rows of the class, the chain of the reference: the same choice -/
def CHO (s0 : CS) (r0 : RS) (AL : Als) (q h w d n : Nat) (L : List Nat) (c : List Ent) : Prop := (∀ i : Nat, i < n → ∃ k ∈ L, r0.a 28 k = 0 ∧ r0.a 25 k = s0.a 16 (d + 2 * i)) ∧ (∀ k ∈ L, r0.a 28 k = 0 → ∃ i : Nat, i < n ∧ s0.a 16 (d + 2 * i) = r0.a 25 k) ∧ (∀ k ∈ L, r0.a 28 k = 0 → ∀ i : Nat, i < n → s0.a 16 (d + 2 * i) = r0.a 25 k → JX s0 AL (s0.a 16 (d + 2 * i + 1)) (r0.a 26 k) h w (2 * n + 3) 0 c) ∧ (∀ k ∈ L, ¬ r0.a 28 k = 0 → JX s0 AL (s0.a 16 (d + 2 * n + 1)) (r0.a 26 k) h w (2 * n + 3) 0 c)
def UCho (s0 : CS) (r0 : RS) (AL : Als) (p q h w : Nat) (c : List Ent) : Prop := s0.a 15 p = 30 ∧ ∃ (d n h' : Nat) (L : List Nat), (cTg s0 (s0.a 16 p)).toInt = (d : Int) ∧ DSP s0 d n ∧ (h = h' + 1 ∧ h' + 2 ≤ 600) ∧ CHL r0 L (r0.a 22 q) ∧ 2 * n + 3 ≤ w ∧ ((r0.a 21 q = 28 ∧ CHO s0 r0 AL q h' w d n L c ∧ ((∀ k ∈ L, r0.a 28 k = 0) → JX s0 AL (s0.a 16 (d + 2 * n + 1)) (r0.a 23 q) h' w (2 * n + 3) 0 c)) ∨ (r0.a 21 q = 29 ∧ CHO s0 r0 AL q h' w d n L ((5, h', q, 0, 0, 0, 0) :: c)))
theorem u_cho {N H n : Nat} (hN : 10000000000 ≤ N) {D : Nat → List Nat} {T : Int32 × CS} {s0 : CS} {r0 : RS} {nm : Nat → Nat → Prop} {AL : Als} {s : CS} {r : RS} {mu : Nat → Nat} {h p q w g : Nat} {c : List Ent} {x : Int32} {U : Int32 × RS} (hct : HCT nm AL) (pt : PTX N H D T s0 r0 nm AL s r mu h p q w g c x) (hq : (q : Int) < (r0.i 20).toInt) (u : UCho s0 r0 AL p q h w c) (e : f_X12_run_122 N n r = some U) : NXTW N H D T s0 r0 nm AL n U := by
  obtain ⟨y1, d, nn, h', L, y2, y3, ⟨y4, y5⟩, y6, y7, y8⟩ := u
  obtain ⟨m, S, V, hn, ⟨e1, e2, e3, e4⟩, ⟨v1, v2, v3⟩, ⟨o1, o2⟩, oc, ⟨hp, hq3⟩, x1⟩ := pt_tick hN hct pt hq (by omega) e
  obtain ⟨bx, x0⟩ := bud_x pt
  have rf := pt.2.1
  have h21 : r.a 21 q = r0.a 21 q := by rw [rf.2 21 (by decide)]
  have h22 : r.a 22 q = r0.a 22 q := by rw [rf.2 22 (by decide)]
  have mc := pt.2.2.1.1
  rw [y4] at mc
  obtain ⟨-, ck, -⟩ := hct _ _ _ _ _ _ pt.2.2.2.2.1
  have gn := gcr_nn (g := g)
  have gn' := gpo_nn (g := g)
  have b6 := pt.2.2.2.2.2
  have hv := mc.2.1
  have eS : S = CS.setI (cNx s) 66 (cTg s (cAr s)) := xi_30 (o1.trans y1) e1
  have ES : E65 s S (h' + 1) := by
    rw [eS]
    exact e65_nx.tr e65_66
  have S72 : S.i 72 = -1 := (ES.1 72 (by decide) (by decide)).trans mc.1.1.1
  have S73 : S.i 73 = 0 := (ES.1 73 (by decide) (by decide)).trans mc.1.1.2
  have S66 : (S.i 66).toInt = ((d + 2 * 0 : Nat) : Int) := by
    rw [eS, ci_at, oc, o2, y2]
    omega
  have S65 : (S.i 65).toInt = ((h' + 1 : Nat) : Int) := by
    rw [eS, ci_ne _ _ _ (by decide), cNx_i (by decide)]
    exact hv.1.1
  obtain ⟨S2, x', q1, q2, q3, q4, q5⟩ := dsp_c hN (v := S.a 60 h') y3 y5 nn 0 S (x + 1) (by omega) (e3 S72) S72 S73 S66 S65 rfl (by omega)
  have E2 : E65 s S2 h' := (ES.dn (by omega)).tr q3
  obtain ⟨t1, t2, t3, t4⟩ := un_tak mc (by omega) (by omega)
  have tp : rTp (rNx r) = cTp s := t4.symm
  have ct : cTp s = S.a 60 h' := by
    rw [cTp_at (h := h') (by rw [hv.1.1]; omega) (by omega), ES.2.2.1 h' (by omega)]
  rw [ct] at tp
  have c65 : S2.i 65 = (cPo (cNx s)).i 65 := Int32.toInt_inj.mp (by rw [q4, t1.2.1.1.1])
  have Ai : ∀ j : Nat, j ≠ 66 → S2.i j = (cPo (cNx s)).i j := fun j b => by
    by_cases z : j = 65
    · rw [z]
      exact c65
    · rw [E2.1 j z b, cPo_i z, cNx_i b]
  have T72 : S2.i 72 = -1 := (E2.1 72 (by decide) (by decide)).trans mc.1.1.1
  -- the reference's entries
  have rr : ∀ (Q : Int32 × RS), f_X12_caseOf N (rPo (rNx r)) (r0.a 22 q) (S.a 60 h') = some Q → Q.2 = rPo (rNx r) ∧ ((∃ j ∈ L, r0.a 28 j = 0 ∧ r0.a 25 j = S.a 60 h' ∧ Q.1.toInt = (j : Int)) ∨ ((∀ j ∈ L, r0.a 28 j = 0 → ¬ r0.a 25 j = S.a 60 h') ∧ ((∃ j ∈ L, ¬ r0.a 28 j = 0 ∧ Q.1.toInt = (j : Int)) ∨ ((∀ j ∈ L, r0.a 28 j = 0) ∧ Q.1 = -1)))) := fun Q gQ => by
    have e25 : (rPo (rNx r)).a 25 = r0.a 25 := rf.2 25 (by decide)
    have e27 : (rPo (rNx r)).a 27 = r0.a 27 := rf.2 27 (by decide)
    have e28 : (rPo (rNx r)).a 28 = r0.a 28 := rf.2 28 (by decide)
    have z := cas_r (N := N) (r := rPo (rNx r)) (v := S.a 60 h') L N (-1) (r0.a 22 q) Q (y6.of e27) gQ
    rw [e25, e28] at z
    exact z
  have e26 : (rPo (rNx r)).a 26 = r0.a 26 := rf.2 26 (by decide)
  have e23 : (rPo (rNx r)).a 23 = r0.a 23 := rf.2 23 (by decide)
  -- both come to the same place
  have both : ∀ (c' : List Ent) (Q : Int32 × RS), CHO s0 r0 AL q h' w d nn L c' → f_X12_caseOf N (rPo (rNx r)) (r0.a 22 q) (S.a 60 h') = some Q → Q.2 = rPo (rNx r) ∧ ((∃ (k p' q' w' : Nat), Q.1.toInt = (k : Int) ∧ (r0.a 26 k).toInt = (q' : Int) ∧ (S2.i 66).toInt = (p' : Int) ∧ w' + (2 * nn + 3) ≤ w ∧ AL p' q' h' w' 0 c') ∨ ((∀ j ∈ L, r0.a 28 j = 0) ∧ Q.1 = -1 ∧ S2.i 66 = cTg s0 (s0.a 16 (d + 2 * nn + 1)))) := fun c' Q ⟨k1, k2, k3, k4⟩ gQ => by
    obtain ⟨z1, z2⟩ := rr Q gQ
    refine ⟨z1, ?_⟩
    rcases z2 with ⟨j, j1, j2, j3, j4⟩ | ⟨z2, z3⟩
    · left
      rcases q5 with ⟨i, i1, i2, i3⟩ | ⟨i1, -⟩
      · obtain ⟨p', q', w', ⟨a1, a2⟩, a3, a4⟩ := k3 j j1 j2 i i1 (by rw [i2, j3])
        exact ⟨j, p', q', w', j4, a2, by rw [i3]; exact a1, a3, a4⟩
      · obtain ⟨i, i2, i3⟩ := k2 j j1 j2
        exact absurd (i3.trans j3) (i1 i (Nat.zero_le _) i2)
    · rcases q5 with ⟨i, i1, i2, i3⟩ | ⟨i1, i2⟩
      · obtain ⟨k, k5, k6, k7⟩ := k1 i i1
        exact absurd (k7.trans i2) (z2 k k5 k6)
      · rcases z3 with ⟨j, j1, j2, j3⟩ | ⟨z4, z5⟩
        · obtain ⟨p', q', w', ⟨a1, a2⟩, a3, a4⟩ := k4 j j1 j2
          exact Or.inl ⟨j, p', q', w', j3, a2, by rw [i2]; exact a1, a3, a4⟩
        · exact Or.inr ⟨z4, z5, i2⟩
  have mcS : ∀ pp : Nat, (S2.i 66).toInt = (pp : Int) → MCO nm S2 (rPo (rNx r)) h' pp (q + 1) ∧ EXC nm (cPo (cNx s)) S2 := fun pp h66 => un_pc t1 Ai (fun k b => E2.2.1 k b) (fun k b => E2.2.2.1 k b) E2.2.2.2 h66
  rcases y8 with ⟨g0, ch, ch0⟩ | ⟨g0, ch⟩
  · obtain ⟨Q, a1, a2⟩ := xp_28 (r := rNx r) (by rw [mc.clq]; exact h21.trans g0) v1
    rw [mc.clq, tp] at a1
    rw [mc.clq] at a2
    have a1' : f_X12_caseOf N (rPo (rNx r)) (r0.a 22 q) (S.a 60 h') = some Q := by
      rw [← h22]
      exact a1
    obtain ⟨z1, z2⟩ := both c Q ch a1'
    rcases z2 with ⟨k, p', q', w', k1, k2, k3, k4, k5⟩ | ⟨z2, z3, z4⟩
    · rcases a2 with ⟨-, a2⟩ | ⟨a2, -⟩
      · rw [z1, cl_nat k1, e26] at a2
        obtain ⟨m1, m2⟩ := mcS p' k3
        obtain ⟨n1, n2⟩ := un_toR (y := r0.a 26 k) (q' := q') m1 k2
        rw [← a2] at n1 n2
        exact pl_fink (k := 2 * nn + 3) hct pt (by omega) (by omega) q1 v3 v2 n1 (t2.tr m2) (t3.tr n2) k5 (by omega) (by decide) (BTP.no (by decide))
      · exact absurd (by rw [Int32.le_iff_toInt_le, z_t0]; omega) a2
    · obtain ⟨p', q', w', ⟨k1, k2⟩, k3, k4⟩ := ch0 z2
      rcases a2 with ⟨a2, -⟩ | ⟨-, a2⟩
      · rw [z3] at a2
        exact absurd a2 (by decide)
      · rw [z1, e23] at a2
        obtain ⟨m1, m2⟩ := mcS p' (by rw [z4]; exact k1)
        obtain ⟨n1, n2⟩ := un_toR (y := r0.a 23 q) (q' := q') m1 k2
        rw [← a2] at n1 n2
        exact pl_fink (k := 2 * nn + 3) hct pt (by omega) (by omega) q1 v3 v2 n1 (t2.tr m2) (t3.tr n2) k4 (by omega) (by decide) (BTP.no (by decide))
  · obtain ⟨Q, P, a1, a2, a3, a4⟩ := xp_29 (r := rNx r) (by rw [mc.clq]; exact h21.trans g0) v1
    rw [mc.clq, tp] at a1
    have a1' : f_X12_caseOf N (rPo (rNx r)) (r0.a 22 q) (S.a 60 h') = some Q := by
      rw [← h22]
      exact a1
    obtain ⟨z1, z2⟩ := both ((5, h', q, 0, 0, 0, 0) :: c) Q ch a1'
    rcases z2 with ⟨k, p', q', w', k1, k2, k3, k4, k5⟩ | ⟨z2, z3, z4⟩
    · rw [z1] at a2
      rw [cl_nat k1] at a4
      obtain ⟨m1, m2⟩ := mcS p' k3
      have ec := t2.tr m2
      have dy := pt.2.2.1.2.1.ex ck ec t3
      have tr := pt.2.2.1.2.2.ex ec t3
      obtain ⟨⟨d1, ⟨d2, d2'⟩, d3, ⟨d4, d5⟩, d6, d7⟩, ⟨u1, u2, u3, u4, u5, u6⟩⟩ := dy
      obtain ⟨c1, c2, c3, c4, c5, c6, c7, c8, c9, c10⟩ := rc_r d2' a2
      have Vi : ∀ j : Nat, j ≠ 92 → j ≠ 99 → V.i j = (rPo (rNx r)).i j := fun j b f => by rw [a4, ri_ne b, c2 j f]
      have Va : ∀ j : Nat, V.a j = P.2.a j := fun j => by
        rw [a4]
        rfl
      have Vl : ∀ j : Nat, j < 100 → V.a j = (rPo (rNx r)).a j := fun j hj => by rw [Va, c4 j (by omega) (by omega) (by omega) (by omega) (by omega)]
      have V92 : (V.i 92).toInt = (q' : Int) := by
        rw [a4, ri_at, c4 26 (by decide) (by decide) (by decide) (by decide) (by decide), e26]
        exact k2
      have V99 : (V.i 99).toInt = (c.length : Int) + 1 := by
        rw [a4, ri_ne (by decide)]
        exact c3
      have v80 : V.i 80 = r.i 80 := by rw [Vi 80 (by decide) (by decide), rPo_i (by decide), rNx_i (by decide)]
      have tlv : ∀ b' : Nat, TLV S2 (rPo (rNx r)) mu b' → TLV S2 V mu b' := fun b' t => by
        unfold TLV THG at *
        rw [Vi 85 (by decide) (by decide), Vi 3 (by decide) (by decide), Vl 86 (by decide), Vl 87 (by decide), Vl 88 (by decide), Vl 89 (by decide), Vl 90 (by decide)]
        exact t
      have feq : FEQ S2 S2 (rPo (rNx r)) V mu mu c ((rPo (rNx r)).i 97).toInt := ⟨fun i f _ hf => ⟨hf, rfl, rfl⟩, fun b' _ t => ⟨tlv b' t, rfl, by rw [Vl 87 (by decide)]⟩, ⟨rfl, Vl 21 (by decide), Vl 23 (by decide), Vl 31 (by decide), Vl 32 (by decide)⟩, fun j i _ _ z => by rw [Va, c5 j i (by omega)], fun a _ => ⟨fun _ _ => rfl, fun l _ => by rw [Vl 84 (by decide)]⟩, fun j _ => by rw [Vl 98 (by decide)]⟩
      refine Or.inl ⟨m, S2, V, mu, h', p', q', w', 0, _, x', by omega, ⟨q1, v3, ⟨⟨⟨m1.1.1, m1.1.2.1, V92⟩, m1.2.1.of rfl rfl (Vi 93 (by decide) (by decide)) (Vl 94 (by decide)), m1.2.2.1.of rfl rfl rfl (Vi 80 (by decide) (by decide)) (Vi 81 (by decide) (by decide)) (Vl 82 (by decide)) (Vl 83 (by decide)), fun k l hk => by rw [Vl 84 (by decide)]; exact m1.2.2.2 k l hk⟩, ⟨⟨?_, ⟨?_, ?_⟩, ?_, ⟨?_, ?_⟩, ?_, ?_⟩, ?_⟩, ?_⟩, BTP.no (by decide), k5, ?_⟩, v2⟩
      · refine ⟨?_, Or.inr (Or.inr (Or.inr (Or.inr (Or.inr ⟨rfl, by rw [Va]; exact c6, ?_, ?_⟩))))⟩
        · rw [Va, c10]
          exact m1.2.1.1.2.1
        · rw [Va, c7]
          exact mc.1.2.2
        · rw [Vi 97 (by decide) (by decide)]
          exact d1.of feq
      · rw [d2]
        exact congrArg Nat.cast (frs_eq (e := ((5, h', q, 0, 0, 0, 0) : Ent)) (c := c) (show 3 < 5 by decide)).symm
      · show (V.i 99).toInt = ((c.length + 1 : Nat) : Int)
        rw [V99]
        omega
      · exact d3.trans (hS_of (r := rPo (rNx r)) (R := V) (Vl 91 (by decide)) 8).symm
      · rw [Vi 85 (by decide) (by decide)]
        exact d4
      · rw [Vi 85 (by decide) (by decide), Vi 80 (by decide) (by decide)]
        show ((rPo (rNx r)).i 85).toInt + (tps c : Int) ≤ 2 * ((rPo (rNx r)).i 80).toInt + 0
        omega
      · unfold MUI at *
        rw [Vi 85 (by decide) (by decide)]
        exact d6
      · exact (Vi 115 (by decide) (by decide)).trans d7
      · refine ⟨by rw [Vi 95 (by decide) (by decide)]; exact u1, by rw [Vi 95 (by decide) (by decide)]; exact u2, by rw [Vi 95 (by decide) (by decide)]; exact u3, u4, fun k hk => ?_, by rw [Vi 95 (by decide) (by decide)]; exact ⟨fun z => absurd (show (5 : Nat) = 1 from z) (by decide), fun _ => u6.of (fun k hk => by rw [Va, c5 103 k (by omega)])⟩⟩
        rw [Vi 95 (by decide) (by decide)] at hk
        rw [Vl 96 (by decide)]
        exact u5 k hk
      · exact tr.of (fun _ _ => rfl) (fun _ _ => rfl) ⟨fun j hj => Vi j (by omega) (by omega), fun k hk => Vl k (by omega)⟩
      · rw [v80]
        show x'.toInt + (fps c : Int) + w' + 0 ≤ _
        omega
    · rw [z3] at a3
      exact absurd a3 (by decide)
end
section
/-! both machines: a whole run -/
def UNI (s0 : CS) (r0 : RS) (nm : Nat → Nat → Prop) (AL : Als) (p q h w g : Nat) (c : List Ent) : Prop := (UEnd s0 p q w r0 ∨ UCgo s0 AL p q h w c) ∨ ((q : Int) < (r0.i 20).toInt ∧ (UPush s0 r0 AL p q h w c ∨ ULoad s0 r0 nm AL p q h w c ∨ UStor s0 r0 nm AL p q h w c ∨ UNeg s0 r0 AL p q h w g c ∨ UAri s0 r0 AL p q h w c ∨ UCau s0 r0 AL p q h w c ∨ UKep s0 r0 AL p q h w g c ∨ UJmp s0 r0 AL p q h w c ∨ UJz s0 r0 AL p q h w g c ∨ UOut s0 r0 AL p q h w c ∨ UJnf s0 r0 AL p q h w g c ∨ UJnb s0 r0 AL p q h w g c ∨ UAsr s0 r0 AL p q h w c ∨ URet s0 r0 AL p q h w c ∨ UGo s0 r0 AL p q h w c ∨ URai s0 r0 AL p q h w c ∨ URa0 s0 r0 AL p q h w c ∨ UDiv s0 r0 AL p q h w c ∨ UStp s0 r0 AL p q h w c ∨ UFor s0 r0 AL p q h w c ∨ UAga s0 r0 AL p q h w c ∨ UTak s0 r0 AL p q h w g c ∨ UTry s0 r0 AL p q h w g c ∨ UOpe s0 r0 AL p q h w c ∨ UEnc s0 r0 AL p q h w c ∨ UEnb s0 r0 AL p q h w c ∨ UEnf s0 r0 AL p q h w c ∨ URel s0 r0 AL p q w h c ∨ UAre s0 r0 AL p q h w c ∨ URwp r0 AL p q h w c ∨ UGo3 s0 r0 AL p q h w c ∨ URow s0 r0 AL p q h w c ∨ URwn s0 r0 nm AL p q h w c ∨ UCho s0 r0 AL p q h w c ∨ URkp r0 AL p q h w g c))
/-- both codes belong together -/
def CODW (s0 : CS) (r0 : RS) (nm : Nat → Nat → Prop) (AL : Als) : Prop := HCT nm AL ∧ NMP nm ∧ (∀ (p q h w g : Nat) (c : List Ent), AL p q h w g c → UNI s0 r0 nm AL p q h w g c) ∧ ∃ w : Nat, w ≤ 10000 ∧ AL 0 0 0 w 0 []
theorem u_any {N H n : Nat} (hN : 10000000000 ≤ N) {D : Nat → List Nat} {T : Int32 × CS} {s0 : CS} {r0 : RS} {nm : Nat → Nat → Prop} {AL : Als} {s : CS} {r : RS} {mu : Nat → Nat} {h p q w g : Nat} {c : List Ent} {x : Int32} {U : Int32 × RS} (cod : CODW s0 r0 nm AL) (pt : PTX N H D T s0 r0 nm AL s r mu h p q w g c x) (e : f_X12_run_122 N n r = some U) : NXTW N H D T s0 r0 nm AL n U ∨ ∃ (S : CS) (p' w' : Nat) (x' : Int32), w' < w ∧ PTX N H D T s0 r0 nm AL S r mu h p' q w' 0 c x' := by
  obtain ⟨hct, nn, un, -⟩ := cod
  rcases un _ _ _ _ _ _ pt.2.2.2.2.1 with (u | u) | ⟨hq, u⟩
  · exact Or.inl (u_end hN hct pt u e)
  · exact Or.inr (u_cgo hN hct pt u)
  refine Or.inl ?_
  rcases u with u | u | u | u | u | u | u | u | u | u | u | u | u | u | u | u | u | u | u | u | u | u | u | u | u | u | u | u | u | u | u | u | u | u | u
  · exact u_push hN hct pt hq u e
  · exact u_load hN hct nn pt hq u e
  · exact u_stor hN hct nn pt hq u e
  · exact u_neg hN hct pt hq u e
  · exact u_ari hN hct pt hq u e
  · exact u_cau hN hct pt hq u e
  · exact u_kep hN hct pt hq u e
  · exact u_jmp hN hct pt hq u e
  · exact u_jz hN hct pt hq u e
  · exact u_out hN hct pt hq u e
  · exact u_jnf hN hct pt hq u e
  · exact u_jnb hN hct pt hq u e
  · exact u_asr hN hct pt hq u e
  · exact u_ret hN hct pt hq u e
  · exact u_go hN hct pt hq u e
  · exact u_rai hN hct pt hq u e
  · exact u_ra0 hN hct pt hq u e
  · exact u_div hN hct pt hq u e
  · exact u_stp hN hct pt hq u e
  · exact u_for hN hct pt hq u e
  · exact u_aga hN hct pt hq u e
  · exact u_tak hN hct pt hq u e
  · exact u_try hN hct pt hq u e
  · exact u_ope hN hct pt hq u e
  · exact u_enc hN hct pt hq u e
  · exact u_enb hN hct pt hq u e
  · exact u_enf hN hct pt hq u e
  · exact u_rel hN hct pt hq u e
  · exact u_are hN hct pt hq u e
  · exact u_rwp hct pt hq u e
  · exact u_go3 hN hct pt hq u e
  · exact u_row hN hct pt hq u e
  · exact u_rwn hN hct nn pt hq u e
  · exact u_cho hN hct pt hq u e
  · exact u_rkp hct pt hq u e
theorem sim {N H : Nat} (hN : 10000000000 ≤ N) {D : Nat → List Nat} {T : Int32 × CS} {s0 : CS} {r0 : RS} {nm : Nat → Nat → Prop} {AL : Als} {U : Int32 × RS} (cod : CODW s0 r0 nm AL) : ∀ (b n : Nat), n < b → ∀ (s : CS) (r : RS) (mu : Nat → Nat) (h p q w g : Nat) (c : List Ent) (x : Int32), PTX N H D T s0 r0 nm AL s r mu h p q w g c x → f_X12_run_122 N n r = some U → FIE T U := by
  intro b
  induction b with
  | zero =>
    intro n hn
    omega
  | succ b ih =>
    intro n hn
    have one : ∀ (k : Nat) (s : CS) (r : RS) (mu : Nat → Nat) (h p q w g : Nat) (c : List Ent) (x : Int32), w ≤ k → PTX N H D T s0 r0 nm AL s r mu h p q w g c x → f_X12_run_122 N n r = some U → FIE T U := by
      intro k
      induction k with
      | zero =>
        intro s r mu h p q w g c x hk pt e
        rcases u_any hN cod pt e with (⟨m, s', r', mu', h', p', q', w', g', c', x', hm, pt', e'⟩ | z) | ⟨S, p', w', x', l, -⟩
        · exact ih m (by omega) s' r' mu' h' p' q' w' g' c' x' pt' e'
        · exact z
        · omega
      | succ k ik =>
        intro s r mu h p q w g c x hk pt e
        rcases u_any hN cod pt e with (⟨m, s', r', mu', h', p', q', w', g', c', x', hm, pt', e'⟩ | z) | ⟨S, p', w', x', l, pt'⟩
        · exact ih m (by omega) s' r' mu' h' p' q' w' g' c' x' pt' e'
        · exact z
        · exact ik S r mu h p' q w' 0 c x' (by omega) pt' e
    intro s r mu h p q w g c x pt e
    exact one w s r mu h p q w g c x (Nat.le_refl _) pt e
/-- the class begins: cells are 0 -/
theorem pf_zero {N : Nat} {s : CS} {x1 x2 : Int32} {T : Int32 × CS} : ∀ (n : Nat) (X : CS) (x3 : Int32), 0 ≤ x3.toInt → PV s X → (∀ k : Nat, (k : Int) < x3.toInt → X.a 59 k = 0) → (∀ j : Nat, j ≠ 59 → X.a j = s.a j) → X.i = s.i → f_X3_perform_2 N n X x1 x2 x3 = some T → ∃ Y : CS, f_X3_perform_35 N Y x1 x2 = some T ∧ PV s Y ∧ (∀ k : Nat, k < 720 → (k : Int) < (s.i 23).toInt → Y.a 59 k = 0) ∧ (∀ j : Nat, j ≠ 59 → Y.a j = s.a j) ∧ Y.i = s.i := by
  intro n
  induction n with
  | zero =>
    intro X x3 _ _ _ _ _ e
    cases e
  | succ n ih =>
    intro X x3 h0 pv hz ha hi e
    have e' : b_X3_perform_2 N (f_X3_perform_2 N n) X x1 x2 x3 = some T := e
    unfold b_X3_perform_2 at e'
    have e7 : (720 : Int32).toInt = 720 := by decide
    by_cases c1 : X.i 23 ≤ x3
    · rw [if_pos c1] at e'
      have l := le_int c1
      rw [hi] at l
      exact ⟨X, e', pv, fun k _ hk => hz k (by omega), ha, hi⟩
    · rw [if_neg c1] at e'
      by_cases c2 : (720 : Int32) ≤ x3
      · rw [if_pos c2] at e'
        have l := le_int c2
        exact ⟨X, e', pv, fun k hk _ => hz k (by omega), ha, hi⟩
      · rw [if_neg c2] at e'
        have l := lt_int (Int32.not_le.mp c2)
        obtain ⟨-, e2⟩ := hf_ite e'
        obtain ⟨k3, hk3⟩ : ∃ k3 : Nat, x3.toInt = (k3 : Int) := ⟨x3.toInt.toNat, by omega⟩
        rw [cl_nat hk3] at e2
        have a59 : ∀ k : Nat, (CS.setA X 59 k3 0).a 59 k = if k = k3 then 0 else X.a 59 k := fun k => rfl
        refine ih (CS.setA X 59 k3 0) (x3 + 1) (by rw [ad1 h0 (by omega)]; omega) (pv.A 59 _ _ (by decide)) (fun k hk => ?_) (fun j hj => ?_) hi e2
        · rw [ad1 h0 (by omega)] at hk
          rw [a59]
          by_cases z : k = k3
          · rw [if_pos z]
          · rw [if_neg z]
            exact hz k (by omega)
        · exact (if_neg hj : (CS.setA X 59 k3 0).a j = X.a j).trans (ha j hj)
theorem pf_start {N H : Nat} {D : Nat → List Nat} {s Y : CS} {x1 x2 : Int32} {T : Int32 × CS} (hr : REFS s) (hm : ROOM H s) (hw : WTC s D) (pv : PV s Y) (ha : ∀ j : Nat, j ≠ 59 → Y.a j = s.a j) (hi : Y.i = s.i) (e : f_X3_perform_35 N Y x1 x2 = some T) : ∃ S : CS, CRN N H D T s S 0 ∧ ((S.i 65 = 0 ∧ S.i 66 = 0 ∧ S.i 67 = 0 ∧ S.i 68 = 0 ∧ S.i 69 = 0 ∧ S.i 70 = 0 ∧ S.i 71 = 0) ∧ S.i 72 = -1 ∧ S.i 73 = 0) ∧ (∀ j : Nat, j < 59 → S.i j = s.i j) ∧ (∀ j : Nat, j ≠ 59 → S.a j = s.a j) ∧ (S.a 59 0 = x1 ∧ S.a 59 1 = x2 ∧ ∀ k : Nat, 2 ≤ k → S.a 59 k = Y.a 59 k) := by
  unfold f_X3_perform_35 at e
  obtain ⟨A, hA⟩ : ∃ A, A = CS.putA (CS.putA Y 59 (gPut (Y.a 59) 720 0 x1)) 59 (gPut (CS.a (CS.putA Y 59 (gPut (Y.a 59) 720 0 x1)) 59) 720 1 x2) := ⟨_, rfl⟩
  have pA : PV s A := by rw [hA]; exact pv.tr (((PV.rf Y).a 59 _ (by decide)).a 59 _ (by decide))
  have Ai : A.i = s.i := by
    rw [hA]
    exact hi
  have Aa : ∀ j : Nat, j ≠ 59 → A.a j = s.a j := fun j hj => by
    rw [hA, cpA_ne hj, cpA_ne hj]
    exact ha j hj
  have e1 : (1 : Int32).toInt = ((1 : Nat) : Int) := by decide
  have e0 : (0 : Int32).toInt = ((0 : Nat) : Int) := by decide
  have A59 : ∀ k : Nat, A.a 59 k = if k = 1 then x2 else if k = 0 then x1 else Y.a 59 k := fun k => by
    rw [hA]
    show gPut (gPut (Y.a 59) 720 0 x1) 720 1 x2 k = _
    unfold gPut
    rw [if_pos ⟨by decide, by decide⟩, if_pos ⟨by decide, by decide⟩, cl_nat e1, cl_nat e0]
    rfl
  rw [← hA] at e
  clear hA
  obtain ⟨B, hB⟩ : ∃ B, B = CS.setI (CS.setW (CS.setI (CS.setI (CS.setI (CS.setI (CS.setI (CS.setI (CS.setI (CS.setI (CS.setI A 65 0) 66 0) 67 0) 68 0) 69 0) 70 0) 71 0) 73 0) 74 0) none) 72 (-1) := ⟨_, rfl⟩
  rw [← hB] at e
  have ti : ∀ j : Nat, j < 65 ∨ j = 75 → B.i j = A.i j := fun j q => by rw [hB, ci_ne _ _ _ (by omega), ci_setW, ci_ne _ _ _ (by omega), ci_ne _ _ _ (by omega), ci_ne _ _ _ (by omega), ci_ne _ _ _ (by omega), ci_ne _ _ _ (by omega), ci_ne _ _ _ (by omega), ci_ne _ _ _ (by omega), ci_ne _ _ _ (by omega), ci_ne _ _ _ (by omega)]
  have t65 : B.i 65 = 0 := by rw [hB, ci_ne _ _ _ (by decide), ci_setW, ci_ne _ _ _ (by decide), ci_ne _ _ _ (by decide), ci_ne _ _ _ (by decide), ci_ne _ _ _ (by decide), ci_ne _ _ _ (by decide), ci_ne _ _ _ (by decide), ci_ne _ _ _ (by decide), ci_ne _ _ _ (by decide), ci_at]
  have t66 : B.i 66 = 0 := by rw [hB, ci_ne _ _ _ (by decide), ci_setW, ci_ne _ _ _ (by decide), ci_ne _ _ _ (by decide), ci_ne _ _ _ (by decide), ci_ne _ _ _ (by decide), ci_ne _ _ _ (by decide), ci_ne _ _ _ (by decide), ci_ne _ _ _ (by decide), ci_at]
  have t67 : B.i 67 = 0 := by rw [hB, ci_ne _ _ _ (by decide), ci_setW, ci_ne _ _ _ (by decide), ci_ne _ _ _ (by decide), ci_ne _ _ _ (by decide), ci_ne _ _ _ (by decide), ci_ne _ _ _ (by decide), ci_ne _ _ _ (by decide), ci_at]
  have t68 : B.i 68 = 0 := by rw [hB, ci_ne _ _ _ (by decide), ci_setW, ci_ne _ _ _ (by decide), ci_ne _ _ _ (by decide), ci_ne _ _ _ (by decide), ci_ne _ _ _ (by decide), ci_ne _ _ _ (by decide), ci_at]
  have t69 : B.i 69 = 0 := by rw [hB, ci_ne _ _ _ (by decide), ci_setW, ci_ne _ _ _ (by decide), ci_ne _ _ _ (by decide), ci_ne _ _ _ (by decide), ci_ne _ _ _ (by decide), ci_at]
  have t70 : B.i 70 = 0 := by rw [hB, ci_ne _ _ _ (by decide), ci_setW, ci_ne _ _ _ (by decide), ci_ne _ _ _ (by decide), ci_ne _ _ _ (by decide), ci_at]
  have t71 : B.i 71 = 0 := by rw [hB, ci_ne _ _ _ (by decide), ci_setW, ci_ne _ _ _ (by decide), ci_ne _ _ _ (by decide), ci_at]
  have t73 : B.i 73 = 0 := by rw [hB, ci_ne _ _ _ (by decide), ci_setW, ci_ne _ _ _ (by decide), ci_at]
  have t72 : B.i 72 = -1 := by rw [hB, ci_at]
  have tw : B.w = none := by rw [hB, cw_setI, cw_at]
  have base : B.hs = A.hs ∧ B.L = A.L ∧ B.k = A.k ∧ B.o = A.o ∧ B.ol = A.ol ∧ B.ot = A.ot ∧ B.r = A.r ∧ B.b = A.b ∧ B.l = A.l ∧ B.a = A.a := by
    rw [hB]
    refine ⟨?_, ?_, ?_, ?_, ?_, ?_, ?_, ?_, ?_, ?_⟩
    · rw [chs_setI, chs_setW, chs_setI, chs_setI, chs_setI, chs_setI, chs_setI, chs_setI, chs_setI, chs_setI, chs_setI]
    · rw [cL_setI, cL_setW, cL_setI, cL_setI, cL_setI, cL_setI, cL_setI, cL_setI, cL_setI, cL_setI, cL_setI]
    · rw [ck_setI, ck_setW, ck_setI, ck_setI, ck_setI, ck_setI, ck_setI, ck_setI, ck_setI, ck_setI, ck_setI]
    · rw [co_setI, co_setW, co_setI, co_setI, co_setI, co_setI, co_setI, co_setI, co_setI, co_setI, co_setI]
    · rw [col_setI, col_setW, col_setI, col_setI, col_setI, col_setI, col_setI, col_setI, col_setI, col_setI, col_setI]
    · rw [cot_setI, cot_setW, cot_setI, cot_setI, cot_setI, cot_setI, cot_setI, cot_setI, cot_setI, cot_setI, cot_setI]
    · rw [cr_setI, cr_setW, cr_setI, cr_setI, cr_setI, cr_setI, cr_setI, cr_setI, cr_setI, cr_setI, cr_setI]
    · rw [cb_setI, cb_setW, cb_setI, cb_setI, cb_setI, cb_setI, cb_setI, cb_setI, cb_setI, cb_setI, cb_setI]
    · rw [cl_setI, cl_setW, cl_setI, cl_setI, cl_setI, cl_setI, cl_setI, cl_setI, cl_setI, cl_setI, cl_setI]
    · rw [ca_setI, ca_setW, ca_setI, ca_setI, ca_setI, ca_setI, ca_setI, ca_setI, ca_setI, ca_setI, ca_setI]
  clear hB
  obtain ⟨b1, b2, b3, b4, b5, b6, b7, b9, b10, b11⟩ := base
  have ok' : ∀ {x t : Nat}, oK B x t = oK A x t := fun {x t} => by unfold oK; rw [b2, b3]
  have mr : MR A B := ⟨fun j hj => ti j (by omega), fun _ _ => by rw [b11], b9, b10, by rw [b7], fun x hx => ⟨by rw [ok']; exact hx, by rw [b4], by rw [b5]⟩⟩
  have rA := pA.refs hr
  have rT : REFS B := ⟨by rw [b1, b2]; exact rA.1, fun i x hi e => by rw [ok']; exact rA.2.1 i x hi (by rw [← b7]; exact e), by rw [b7]; exact rA.2.2.1, fun i x hi e => by rw [ok']; exact rA.2.2.2.1 i x hi (by rw [← b7]; exact e), by rw [b7]; exact rA.2.2.2.2.1, fun i x hi e => by rw [ok', ok', ok']; exact rA.2.2.2.2.2.1 i x hi (by rw [← b7]; exact e), by rw [b7]; exact rA.2.2.2.2.2.2.1, by unfold inP; rw [b6, b7]; exact rA.2.2.2.2.2.2.2.1, fun b q => by rw [tw] at q; cases q⟩
  have mT : ROOM H B := by
    have := pA.room hm
    unfold ROOM at *; rw [b1, b7]; exact this
  have ceq := pA.ceq.tr mr.ceq
  have wT := ceq.wt hw
  have mi : MI H B D (0 : Int32).toInt := by
    refine ⟨rT, mT, wT, by rw [t68]; decide, [], ?_, by show (0 : Nat) ≤ 22; omega, True.intro, Or.inl ⟨t73, True.intro, ?_⟩⟩
    · unfold dpI; rw [t67]; decide
    · unfold ONP
      rw [t66, z_t0]
      exact ⟨by omega, by omega, Or.inr ⟨wT.1, wT.2.1⟩⟩
  refine ⟨B, ⟨mi, pA.mr.tr mr, ⟨by decide, by decide⟩, N, e⟩, ⟨⟨t65, t66, t67, t68, t69, t70, t71⟩, t72, t73⟩, fun j hj => by rw [ti j (by omega), Ai], fun j hj => by rw [b11]; exact Aa j hj, ?_, ?_, fun k hk => ?_⟩
  · rw [b11, A59, if_neg (by decide), if_pos rfl]
  · rw [b11, A59, if_pos rfl]
  · rw [b11, A59, if_neg (by omega), if_neg (by omega)]
end
section
/-! both machines: a whole run from its beginning -/
theorem rz_17 {N : Nat} {x1 x2 : Int32} {U : Int32 × RS} : ∀ (n : Nat) (X : RS) (x3 : Int32), 0 ≤ x3.toInt → (∀ k : Nat, (k : Int) < x3.toInt → X.a 84 k = 0) → f_X12_run_17 N n X x1 x2 x3 = some U → ∃ Y : RS, f_X12_run_39 N N Y x1 x2 0 = some U ∧ Y.i = X.i ∧ (∀ j : Nat, j ≠ 84 → Y.a j = X.a j) ∧ ∀ k : Nat, k < 460 → Y.a 84 k = 0 := by
  intro n
  induction n with
  | zero =>
    intro X x3 _ _ g
    cases g
  | succ n ih =>
    intro X x3 h0 hz g
    have g' : b_X12_run_17 N (f_X12_run_17 N n) X x1 x2 x3 = some U := g
    unfold b_X12_run_17 at g'
    have e4 : (460 : Int32).toInt = 460 := by decide
    by_cases c : (460 : Int32) ≤ x3
    · rw [if_pos c] at g'
      have l := le_int c
      exact ⟨X, g', rfl, fun _ _ => rfl, fun k hk => hz k (by omega)⟩
    · rw [if_neg c] at g'
      have l := lt_int (Int32.not_le.mp c)
      obtain ⟨-, g1⟩ := hf_ite g'
      obtain ⟨k3, hk3⟩ : ∃ k3 : Nat, x3.toInt = (k3 : Int) := ⟨x3.toInt.toNat, by omega⟩
      rw [cl_nat hk3] at g1
      obtain ⟨Y, y1, y2, y3, y4⟩ := ih (RS.setA X 84 k3 0) (x3 + 1) (by rw [ad1 h0 (by omega)]; omega) (fun k hk => by
        rw [ad1 h0 (by omega)] at hk
        by_cases z : k = k3
        · rw [z, setA_at]
        · rw [setA_ne z]
          exact hz k (by omega)) g1
      exact ⟨Y, y1, y2, fun j hj => (y3 j hj).trans (setA_nk hj), y4⟩
theorem rz_39 {N : Nat} {x1 x2 : Int32} {U : Int32 × RS} : ∀ (n : Nat) (X : RS) (x3 : Int32), 0 ≤ x3.toInt → (∀ k : Nat, (k : Int) < x3.toInt → X.a 91 k = 0) → f_X12_run_39 N n X x1 x2 x3 = some U → ∃ Y : RS, f_X12_run_122 N N (RS.setI (RS.setI (RS.setI (RS.setI (RS.setI (RS.setI (RS.setI (RS.setI (RS.setI (RS.setI (RS.setA (RS.setA Y 84 0 x1) 84 1 x2) 80 0) 81 0) 85 0) 95 0) 97 0) 99 0) 93 0) 79 1) 115 0) 92 0) = some U ∧ Y.i = X.i ∧ (∀ j : Nat, j ≠ 91 → Y.a j = X.a j) ∧ ∀ k : Nat, k < 8 → Y.a 91 k = 0 := by
  intro n
  induction n with
  | zero =>
    intro X x3 _ _ g
    cases g
  | succ n ih =>
    intro X x3 h0 hz g
    have g' : b_X12_run_39 N (f_X12_run_39 N n) X x1 x2 x3 = some U := g
    unfold b_X12_run_39 at g'
    have e8 : (8 : Int32).toInt = 8 := by decide
    have z0 : (0 : Int32).toNatClampNeg = 0 := by decide
    have z1 : (1 : Int32).toNatClampNeg = 1 := by decide
    by_cases c : (8 : Int32) ≤ x3
    · rw [if_pos c, z0, z1] at g'
      have l := le_int c
      exact ⟨X, g', rfl, fun _ _ => rfl, fun k hk => hz k (by omega)⟩
    · rw [if_neg c] at g'
      have l := lt_int (Int32.not_le.mp c)
      obtain ⟨-, g1⟩ := hf_ite g'
      obtain ⟨k3, hk3⟩ : ∃ k3 : Nat, x3.toInt = (k3 : Int) := ⟨x3.toInt.toNat, by omega⟩
      rw [cl_nat hk3] at g1
      obtain ⟨Y, y1, y2, y3, y4⟩ := ih (RS.setA X 91 k3 0) (x3 + 1) (by rw [ad1 h0 (by omega)]; omega) (fun k hk => by
        rw [ad1 h0 (by omega)] at hk
        by_cases z : k = k3
        · rw [z, setA_at]
        · rw [setA_ne z]
          exact hz k (by omega)) g1
      exact ⟨Y, y1, y2, fun j hj => (y3 j hj).trans (setA_nk hj), y4⟩
theorem hS_0 {r : RS} (h : ∀ k : Nat, k < 8 → r.a 91 k = 0) : ∀ n : Nat, n ≤ 8 → hS r n = 0
  | 0, _ => rfl
  | n + 1, hn => by
    show hS r n + r.a 91 n = 0
    rw [hS_0 h n (by omega), h n (by omega)]
    decide
theorem rn_both {N H : Nat} (hN : 10000000000 ≤ N) {D : Nat → List Nat} {s : CS} {r : RS} {nm : Nat → Nat → Prop} {AL : Als} {x1 x2 : Int32} {T : Int32 × CS} {U : Int32 × RS} (hr : REFS s) (hm : ROOM H s) (hw : WTC s D) (cod : CODW s (RS.setI r 0 0) nm AL) (tl : TLR s (RS.setI r 0 0)) (n0 : nm 0 0) (n1 : nm 1 1) (nc : ∀ k l : Nat, nm k l → (k : Int) < (s.i 23).toInt) (h77 : ¬ r.i 77 = 0) (e : f_X3_perform N s x1 x2 = some T) (g : f_X12_run N r x1 x2 = some U) : RNZ T.2 U.2 ∧ T.1 = U.1 := by
  obtain ⟨Y, y1, y2, y3, y4, y5⟩ := pf_zero N s 0 (by decide) (PV.rf s) (fun k hk => by rw [z_t0] at hk; omega) (fun _ _ => rfl) rfl e
  obtain ⟨S, c1, ⟨⟨i65, i66, i67, i68, i69, i70, i71⟩, i72, i73⟩, c3, c4, ⟨c5, c6, c7⟩⟩ := pf_start hr hm hw y2 y4 y5 y1
  unfold f_X12_run at g
  rw [if_neg h77] at g
  obtain ⟨X, g1, g2, g3, g4⟩ := rz_17 N (RS.setI r 0 0) 0 (by decide) (fun k hk => by rw [z_t0] at hk; omega) g
  obtain ⟨Z, z1, z2, z3, z4⟩ := rz_39 N X 0 (by decide) (fun k hk => by rw [z_t0] at hk; omega) g1
  obtain ⟨A, hA⟩ : ∃ A, A = RS.setA (RS.setA Z 84 0 x1) 84 1 x2 := ⟨_, rfl⟩
  have Ai : A.i = (RS.setI r 0 0).i := by
    rw [hA]
    show Z.i = _
    rw [z2, g2]
  have Aa : ∀ j : Nat, j ≠ 84 → j ≠ 91 → A.a j = (RS.setI r 0 0).a j := fun j a b => by
    rw [hA, setA_nk a, setA_nk a, z3 j b, g3 j a]
  have A91 : ∀ k : Nat, k < 8 → A.a 91 k = 0 := fun k hk => by
    rw [hA, setA_nk (by decide), setA_nk (by decide)]
    exact z4 k hk
  have A840 : A.a 84 0 = x1 := by rw [hA, setA_ne (by decide), setA_at]
  have A841 : A.a 84 1 = x2 := by rw [hA, setA_at]
  have A84 : ∀ k : Nat, 2 ≤ k → k < 460 → A.a 84 k = 0 := fun k h1 h2 => by
    rw [hA, setA_ne (by omega), setA_ne (by omega), z3 84 (by decide)]
    exact g4 k h2
  rw [← hA] at z1
  clear hA
  obtain ⟨R, hR⟩ : ∃ R, R = RS.setI (RS.setI (RS.setI (RS.setI (RS.setI (RS.setI (RS.setI (RS.setI (RS.setI (RS.setI A 80 0) 81 0) 85 0) 95 0) 97 0) 99 0) 93 0) 79 1) 115 0) 92 0 := ⟨_, rfl⟩
  rw [← hR] at z1
  have Ra : R.a = A.a := by
    rw [hR]
    rfl
  have Ri : ∀ j : Nat, j < 79 → R.i j = A.i j := fun j hj => by rw [hR, ri_ne (by omega), ri_ne (by omega), ri_ne (by omega), ri_ne (by omega), ri_ne (by omega), ri_ne (by omega), ri_ne (by omega), ri_ne (by omega), ri_ne (by omega), ri_ne (by omega)]
  have r92 : R.i 92 = 0 := by rw [hR, ri_at]
  have r115 : R.i 115 = 0 := by rw [hR, ri_ne (by decide), ri_at]
  have r93 : R.i 93 = 0 := by rw [hR, ri_ne (by decide), ri_ne (by decide), ri_ne (by decide), ri_at]
  have r99 : R.i 99 = 0 := by rw [hR, ri_ne (by decide), ri_ne (by decide), ri_ne (by decide), ri_ne (by decide), ri_at]
  have r97 : R.i 97 = 0 := by rw [hR, ri_ne (by decide), ri_ne (by decide), ri_ne (by decide), ri_ne (by decide), ri_ne (by decide), ri_at]
  have r95 : R.i 95 = 0 := by rw [hR, ri_ne (by decide), ri_ne (by decide), ri_ne (by decide), ri_ne (by decide), ri_ne (by decide), ri_ne (by decide), ri_at]
  have r85 : R.i 85 = 0 := by rw [hR, ri_ne (by decide), ri_ne (by decide), ri_ne (by decide), ri_ne (by decide), ri_ne (by decide), ri_ne (by decide), ri_ne (by decide), ri_at]
  have r81 : R.i 81 = 0 := by rw [hR, ri_ne (by decide), ri_ne (by decide), ri_ne (by decide), ri_ne (by decide), ri_ne (by decide), ri_ne (by decide), ri_ne (by decide), ri_ne (by decide), ri_at]
  have r80 : R.i 80 = 0 := by rw [hR, ri_ne (by decide), ri_ne (by decide), ri_ne (by decide), ri_ne (by decide), ri_ne (by decide), ri_ne (by decide), ri_ne (by decide), ri_ne (by decide), ri_ne (by decide), ri_at]
  clear hR
  have rfx : RFX (RS.setI r 0 0) R := ⟨fun j hj => by rw [Ri j hj, Ai], fun k hk => by rw [Ra, Aa k (by omega) (by omega)]⟩
  have zz : (0 : Int32).toInt = ((0 : Nat) : Int) := by decide
  obtain ⟨w, w1, w2⟩ := cod.2.2.2
  have nn := cod.2.1
  have pt : PTX N H D T s (RS.setI r 0 0) nm AL S R (fun b => 3200 + b) 0 0 0 w 0 [] 0 := by
    refine ⟨c1, rfx, ⟨⟨⟨⟨i72, i73⟩, by rw [i66]; exact zz, by rw [r92]; exact zz⟩, ⟨⟨by rw [i65]; exact zz, by rw [r93]; exact zz, by decide⟩, fun k hk => absurd hk (Nat.not_lt_zero k)⟩, ⟨⟨by rw [i70, r80], by rw [r80]; decide, by rw [r80]; decide⟩, ⟨by rw [i69, r81], by rw [r81]; decide⟩, fun k hk => by rw [r81, z_t0] at hk; omega⟩, fun k l hk => ?_⟩, ⟨⟨?_, ⟨?_, ?_⟩, ?_, ⟨?_, ?_⟩, ⟨fun b => Or.inr (Nat.le_add_right _ _), fun b b' h1 => ?_⟩, r115⟩, ⟨by rw [i68, r95], by rw [r95]; decide, by rw [r95]; decide, Nat.zero_le _, fun k hk => by rw [r95, z_t0] at hk; omega, True.intro⟩⟩, ?_⟩, BTP.no (by decide), w2, ?_⟩
    · have q0 := nn.2 k l 0 0 hk n0
      have q1 := nn.2 k l 1 1 hk n1
      obtain ⟨k7, l4⟩ := nn.1 k l hk
      rw [Ra]
      by_cases a : k = 0
      · rw [a, q0.mp a, c5, A840]
      · by_cases b : k = 1
        · rw [b, q1.mp b, c6, A841]
        · have la : l ≠ 0 := fun z => a (q0.mpr z)
          have lb : l ≠ 1 := fun z => b (q1.mpr z)
          rw [c7 k (by omega), y3 k k7 (nc k l hk), A84 l (by omega) l4]
    · show (R.i 97).toInt = 0
      rw [r97]
      exact z_t0
    · rw [i67]
      exact zz
    · rw [r99]
      exact zz
    · rw [i71]
      exact (hS_0 (fun k hk => by rw [Ra]; exact A91 k hk) 8 (Nat.le_refl 8)).symm
    · rw [r85]
      decide
    · rw [r85, r80]
      decide
    · have : ((3200 + b : Nat) : Int) < (R.i 85).toInt := h1
      rw [r85, z_t0] at this
      omega
    · exact tl.of c3 (fun k hk => c4 k (by omega)) rfx
    · rw [r80, z_t0]
      show (0 : Int) + 0 + (w : Int) + 0 ≤ 3990 * 0 + 10000
      omega
  exact sim hN cod (N + 1) N (Nat.lt_succ_self N) S R _ 0 0 0 w 0 [] 0 pt z1
end
section
/-! places that belong together, as the greatest set of them -/
def SUB (A B : Als) : Prop := ∀ (p q h w g : Nat) (c : List Ent), A p q h w g c → B p q h w g c
def UN2 (A B : Als) : Als := fun p q h w g c => A p q h w g c ∨ B p q h w g c
theorem NXW.mn {A B : Als} {p q h w w2 n g : Nat} {c : List Ent} (s : SUB A B) (l : w ≤ w2) : NXW A p q h w n g c → NXW B p q h w2 n g c := fun ⟨w', a, b⟩ => ⟨w', by omega, s _ _ _ _ _ _ b⟩
theorem JX.mn {s0 : CS} {A B : Als} {t x : Int32} {h w w2 n g : Nat} {c : List Ent} (s : SUB A B) (l : w ≤ w2) : JX s0 A t x h w n g c → JX s0 B t x h w2 n g c := fun ⟨p, q, w', a, b, d⟩ => ⟨p, q, w', a, by omega, s _ _ _ _ _ _ d⟩
theorem HRW.mn {s0 : CS} {r0 : RS} {A B : Als} {e : Ent} {c : List Ent} {W : Nat} (s : SUB A B) : ∀ (n p : Nat) (k : Int32), HRW s0 r0 A e c W n p k → HRW s0 r0 B e c W n p k := by
  intro n
  induction n with
  | zero => intro _ _ h; exact h
  | succ n ih =>
    intro p k h
    obtain ⟨h0, h⟩ := h
    refine ⟨h0, ?_⟩
    rcases h with h | ⟨h1, j, pb, qb, z, l, w, a2, a3, a4, a5, a6, ⟨a7, a8⟩, a9⟩ | ⟨h1, p', h2, h3⟩
    · exact Or.inl h
    · exact Or.inr (Or.inl ⟨h1, j, pb, qb, z, l, w, a2, a3, a4, a5, a6, ⟨s _ _ _ _ _ _ a7, a8⟩, ih _ _ a9⟩)
    · exact Or.inr (Or.inr ⟨h1, p', h2, ih _ _ h3⟩)
theorem HBD.mn {s0 : CS} {r0 : RS} {A B : Als} {e : Ent} {c : List Ent} {W : Nat} (s : SUB A B) : HBD s0 r0 A e c W → HBD s0 r0 B e c W := fun ⟨n, p, a, b, d⟩ => ⟨n, p, a, b, HRW.mn s n p _ d⟩
theorem HFN.mn {s0 : CS} {r0 : RS} {A B : Als} {e : Ent} {c : List Ent} {W : Nat} (s : SUB A B) : HFN s0 r0 A e c W → HFN s0 r0 B e c W := by
  rintro (h | ⟨p, q, w, a, b, d, f, g⟩)
  · exact Or.inl h
  · exact Or.inr ⟨p, q, w, a, b, d, s _ _ _ _ _ _ f, g⟩
theorem TYC.mn {s0 : CS} {r0 : RS} {A B : Als} {W : Nat} (s : SUB A B) : ∀ {c : List Ent}, TYC s0 r0 A W c → TYC s0 r0 B W c
  | [], h => ⟨fun z p q h' w g c hg => s _ _ _ _ _ _ (h.1 z p q h' w g c hg), h.2⟩
  | _ :: _, ⟨h1, h2, h3⟩ => ⟨fun z => (h1 z).mn s, fun z => (h2 z).mn s, TYC.mn s h3⟩
/-! jumps, said of tries whose finally can end -/
def FCB (FC : Nat → Prop) (r : RS) (c : List Ent) : Prop := ∀ e ∈ c, e.k = 1 ∨ e.k = 2 → 0 ≤ (r.a 31 e.y).toInt → FC e.y
def GF1 (FC : Nat → Prop) (s : CS) (r : RS) (AL : Als) (c : List Ent) (h : Nat) (T x d : Int32) (u : Nat) : Prop := ∃ (c1 c0 : List Ent), c = c1 ++ c0 ∧ ((T - T / 32 * 32).toInt = (frs c0 : Int) ∧ d.toInt = (c0.length : Int)) ∧ HTS c1 h ∧ (FCB FC r c1 → ∃ p q w : Nat, ((cTg s (T / 32)).toInt = (p : Int) ∧ x.toInt = (q : Int)) ∧ AL p q h w 0 c0 ∧ w ≤ u ∧ UTS c1 w)
def GF2 (FC : Nat → Prop) (s : CS) (r : RS) (AL : Als) (c : List Ent) (h : Nat) (T d : Int32) (u : Nat) : Prop := ∃ (c1 : List Ent) (a : Ent) (c0 : List Ent), c = c1 ++ a :: c0 ∧ (a.k = 5 ∧ a.h = h ∧ h < 600) ∧ ((T - T / 32 * 32).toInt = (frs c0 : Int) ∧ d.toInt = (c0.length : Int) + 1) ∧ HTS c1 h ∧ (FCB FC r c1 → ∃ p q w : Nat, ((cTg s (T / 32)).toInt = (p : Int) ∧ (r.a 23 a.x).toInt = (q : Int)) ∧ AL p q (h + 1) w 0 c0 ∧ w ≤ u ∧ UTS c1 w)
theorem GF1.mn {FC : Nat → Prop} {s0 : CS} {r0 : RS} {A B : Als} {c : List Ent} {h u : Nat} {T x d : Int32} (s : SUB A B) : GF1 FC s0 r0 A c h T x d u → GF1 FC s0 r0 B c h T x d u := fun ⟨c1, c0, a, b, e, f⟩ => ⟨c1, c0, a, b, e, fun z => by
  obtain ⟨p, q, w, g1, g2, g3⟩ := f z
  exact ⟨p, q, w, g1, s _ _ _ _ _ _ g2, g3⟩⟩
theorem GF2.mn {FC : Nat → Prop} {s0 : CS} {r0 : RS} {A B : Als} {c : List Ent} {h u : Nat} {T d : Int32} (s : SUB A B) : GF2 FC s0 r0 A c h T d u → GF2 FC s0 r0 B c h T d u := fun ⟨c1, a', c0, a, a2, b, e, f⟩ => ⟨c1, a', c0, a, a2, b, e, fun z => by
  obtain ⟨p, q, w, g1, g2, g3⟩ := f z
  exact ⟨p, q, w, g1, s _ _ _ _ _ _ g2, g3⟩⟩
theorem GF1.to {FC : Nat → Prop} {s0 : CS} {r0 : RS} {A : Als} {c : List Ent} {h u : Nat} {T x d : Int32} (fc : ∀ y : Nat, FCP r0 A y → FC y) : GF1 FC s0 r0 A c h T x d u → GL1 s0 r0 A c h T x d u := fun ⟨c1, c0, a, b, e, f⟩ => ⟨c1, c0, a, b, e, fun z => f (fun e' he hk h0 => fc _ (z e' he hk h0))⟩
theorem GF2.to {FC : Nat → Prop} {s0 : CS} {r0 : RS} {A : Als} {c : List Ent} {h u : Nat} {T d : Int32} (fc : ∀ y : Nat, FCP r0 A y → FC y) : GF2 FC s0 r0 A c h T d u → GL2 s0 r0 A c h T d u := fun ⟨c1, a', c0, a, a2, b, e, f⟩ => ⟨c1, a', c0, a, a2, b, e, fun z => f (fun e' he hk h0 => fc _ (z e' he hk h0))⟩
def XIF (FC : Nat → Prop) (s0 : CS) (r0 : RS) (AL : Als) (T : Int32) (h w : Nat) (e : Ent) (c : List Ent) : Prop := ((T - T / 32 * 32).toInt = (frs c : Int) ∧ (T / 32).toInt = (e.x : Int) + 2) ∧ ((r0.a 31 e.y).toInt < 0 → ∃ p q w' : Nat, (cTg s0 (T / 32)).toInt = (p : Int) ∧ (r0.a 32 e.y).toInt = (q : Int) ∧ AL p q h w' 0 c ∧ w' ≤ w) ∧ (FC e.y → ∃ p q w' : Nat, (cTg s0 (T / 32)).toInt = (p : Int) ∧ (r0.a 32 e.y).toInt = (q : Int) ∧ AL p q e.h w' 0 c ∧ w' ≤ e.u)
theorem XIF.mn {FC : Nat → Prop} {s0 : CS} {r0 : RS} {A B : Als} {T : Int32} {h w : Nat} {e : Ent} {c : List Ent} (s : SUB A B) : XIF FC s0 r0 A T h w e c → XIF FC s0 r0 B T h w e c := fun ⟨a, b, d⟩ => ⟨a, fun z => by
  obtain ⟨p, q, w', g1, g2, g3, g4⟩ := b z
  exact ⟨p, q, w', g1, g2, s _ _ _ _ _ _ g3, g4⟩, fun z => by
  obtain ⟨p, q, w', g1, g2, g3, g4⟩ := d z
  exact ⟨p, q, w', g1, g2, s _ _ _ _ _ _ g3, g4⟩⟩
theorem XIF.to {FC : Nat → Prop} {s0 : CS} {r0 : RS} {A : Als} {T : Int32} {h w : Nat} {e : Ent} {c : List Ent} (fc : ∀ y : Nat, FCP r0 A y → FC y) : XIF FC s0 r0 A T h w e c → XIT s0 r0 A T h w e c := fun ⟨a, b, d⟩ => ⟨a, b, fun z => d (fc _ z)⟩
def VRet (FC : Nat → Prop) (s0 : CS) (r0 : RS) (AL : Als) (p q h w : Nat) (c : List Ent) : Prop := ∃ h' u : Nat, h = h' + 1 ∧ u + 2 ≤ w ∧ (∀ e ∈ c, e.h ≤ h') ∧ TYC s0 r0 AL u c ∧ ((s0.a 15 p = 62 ∧ r0.a 21 q = 17) ∨ (s0.a 15 p = 61 ∧ r0.a 21 q = 18 ∧ GF2 FC s0 r0 AL c h' (s0.a 16 p) (r0.a 23 q) u))
def VGo (FC : Nat → Prop) (s0 : CS) (r0 : RS) (AL : Als) (p q h w : Nat) (c : List Ent) : Prop := s0.a 15 p = 60 ∧ r0.a 21 q = 36 ∧ ∃ u : Nat, u + 2 ≤ w ∧ TYC s0 r0 AL u c ∧ GF1 FC s0 r0 AL c h (s0.a 16 p) (r0.a 22 q) (r0.a 23 q) u
def VEnc (FC : Nat → Prop) (s0 : CS) (r0 : RS) (AL : Als) (p q h w : Nat) (c : List Ent) : Prop := s0.a 15 p = 60 ∧ r0.a 21 q = 34 ∧ ∃ (a : Ent) (c0 : List Ent) (u wg : Nat), c = a :: c0 ∧ a.k = 2 ∧ HFN s0 r0 AL a c0 u ∧ u ≤ wg ∧ wg + 3 ≤ w ∧ XIF FC s0 r0 AL (s0.a 16 p) h wg a c0
def VEnb (FC : Nat → Prop) (s0 : CS) (r0 : RS) (AL : Als) (p q h w : Nat) (c : List Ent) : Prop := s0.a 15 p = 60 ∧ r0.a 21 q = 33 ∧ ∃ (a : Ent) (c0 : List Ent) (u wg : Nat), c = a :: c0 ∧ a.k = 1 ∧ TYC s0 r0 AL u c ∧ u ≤ wg ∧ wg + 3 ≤ w ∧ XIF FC s0 r0 AL (s0.a 16 p) h wg a c0
def VEnf (FC : Nat → Prop) (s0 : CS) (r0 : RS) (AL : Als) (p q h w : Nat) (c : List Ent) : Prop := s0.a 15 p = 59 ∧ r0.a 21 q = 35 ∧ 1 ≤ w ∧ ∃ (a : Ent) (c0 : List Ent), c = a :: c0 ∧ a.k = 3 ∧ a.h = h ∧ a.u ≤ w + 1150 ∧ (r0.a 32 a.y).toInt = ((q + 1 : Nat) : Int) ∧ TYC s0 r0 AL a.u c0 ∧ FC a.y
/-! more places, more to spend: the units stay -/
section
variable {FC : Nat → Prop} {s0 : CS} {r0 : RS} {nm : Nat → Nat → Prop} {A B : Als} {p q h w w2 g : Nat} {c : List Ent}
theorem UEnd.mn (l : w ≤ w2) : UEnd s0 p q w r0 → UEnd s0 p q w2 r0 := fun ⟨a, b, d⟩ => ⟨a, b, by omega⟩
theorem UPush.mn (s : SUB A B) (l : w ≤ w2) : UPush s0 r0 A p q h w c → UPush s0 r0 B p q h w2 c := fun ⟨a, b, d, e, g', f, i⟩ => ⟨a, b, d, e, g', f.mn s l, i⟩
theorem ULoad.mn (s : SUB A B) (l : w ≤ w2) : ULoad s0 r0 nm A p q h w c → ULoad s0 r0 nm B p q h w2 c := fun ⟨a, b, d, e, f⟩ => ⟨a, b, d, e, f.mn s l⟩
theorem UStor.mn (s : SUB A B) (l : w ≤ w2) : UStor s0 r0 nm A p q h w c → UStor s0 r0 nm B p q h w2 c := by
  rintro ⟨a, ⟨b, d, h', e, f⟩ | ⟨b, d, f⟩⟩
  · exact ⟨a, Or.inl ⟨b, d, h', e, f.mn s l⟩⟩
  · exact ⟨a, Or.inr ⟨b, d, f.mn s l⟩⟩
theorem UNeg.mn (s : SUB A B) (l : w ≤ w2) : UNeg s0 r0 A p q h w g c → UNeg s0 r0 B p q h w2 g c := fun ⟨a, b, g', f, i⟩ => ⟨a, b, g', f.mn s l, i⟩
theorem UAri.mn (s : SUB A B) (l : w ≤ w2) : UAri s0 r0 A p q h w c → UAri s0 r0 B p q h w2 c := fun ⟨a, h', g', b, f, i⟩ => ⟨a, h', g', b, f.mn s l, i⟩
theorem UCau.mn (s : SUB A B) (l : w ≤ w2) : UCau s0 r0 A p q h w c → UCau s0 r0 B p q h w2 c := fun ⟨a, b, d, e, f⟩ => ⟨a, b, d, e, f.mn s l⟩
theorem UKep.mn (s : SUB A B) (l : w ≤ w2) : UKep s0 r0 A p q h w g c → UKep s0 r0 B p q h w2 g c := fun ⟨a, h', g', b, d, e, f⟩ => ⟨a, h', g', b, d.mn s l, e.mn s l, f⟩
theorem URkp.mn (s : SUB A B) (l : w ≤ w2) : URkp r0 A p q h w g c → URkp r0 B p q h w2 g c := fun ⟨a, h', q', w', g', b, d, e, f, i⟩ => ⟨a, h', q', w', g', b, d, s _ _ _ _ _ _ e, by omega, i⟩
theorem UCgo.mn (s : SUB A B) (l : w ≤ w2) : UCgo s0 A p q h w c → UCgo s0 B p q h w2 c := fun ⟨a, p', w', b, d, e⟩ => ⟨a, p', w', b, by omega, s _ _ _ _ _ _ e⟩
theorem UJmp.mn (s : SUB A B) (l : w ≤ w2) : UJmp s0 r0 A p q h w c → UJmp s0 r0 B p q h w2 c := fun ⟨a, b, d⟩ => ⟨a, b, d.mn s l⟩
theorem UJz.mn (s : SUB A B) (l : w ≤ w2) : UJz s0 r0 A p q h w g c → UJz s0 r0 B p q h w2 g c := fun ⟨a, b, h', d, e, f⟩ => ⟨a, b, h', d, e.elim Or.inl (fun e => Or.inr (e.mn s l)), f.mn s l⟩
theorem UOut.mn (s : SUB A B) (l : w ≤ w2) : UOut s0 r0 A p q h w c → UOut s0 r0 B p q h w2 c := fun ⟨a, b, h', d, e⟩ => ⟨a, b, h', d, e.mn s l⟩
theorem UJnf.mn (s : SUB A B) (l : w ≤ w2) : UJnf s0 r0 A p q h w g c → UJnf s0 r0 B p q h w2 g c := fun ⟨a, b, h', d, e, f⟩ => ⟨a, b, h', d, e.mn s l, f.mn s l⟩
theorem UJnb.mn (s : SUB A B) (l : w ≤ w2) : UJnb s0 r0 A p q h w g c → UJnb s0 r0 B p q h w2 g c := fun ⟨a, h', d, e, f⟩ => ⟨a, h', d, e.mn s l, f.elim Or.inl (fun ⟨p', w', f, i, j⟩ => Or.inr ⟨p', w', f, by omega, s _ _ _ _ _ _ j⟩)⟩
theorem UAsr.mn (s : SUB A B) (l : w ≤ w2) : UAsr s0 r0 A p q h w c → UAsr s0 r0 B p q h w2 c := fun ⟨a, b, d, e⟩ => ⟨a, b, d.mn s l, e.mn s l⟩
theorem VRet.mn (s : SUB A B) (l : w ≤ w2) : VRet FC s0 r0 A p q h w c → VRet FC s0 r0 B p q h w2 c := by
  rintro ⟨h', u, a, b, d, e, f | ⟨f1, f2, f3⟩⟩
  · exact ⟨h', u, a, by omega, d, e.mn s, Or.inl f⟩
  · exact ⟨h', u, a, by omega, d, e.mn s, Or.inr ⟨f1, f2, f3.mn s⟩⟩
theorem VGo.mn (s : SUB A B) (l : w ≤ w2) : VGo FC s0 r0 A p q h w c → VGo FC s0 r0 B p q h w2 c := fun ⟨a, b, u, d, e, f⟩ => ⟨a, b, u, by omega, e.mn s, f.mn s⟩
theorem URai.mn (s : SUB A B) (l : w ≤ w2) : URai s0 r0 A p q h w c → URai s0 r0 B p q h w2 c := fun ⟨h', u, a, b, d, e, f⟩ => ⟨h', u, a, by omega, d, e.mn s, f⟩
theorem URa0.mn (s : SUB A B) (l : w ≤ w2) : URa0 s0 r0 A p q h w c → URa0 s0 r0 B p q h w2 c := fun ⟨u, b, d, e, f⟩ => ⟨u, by omega, d, e.mn s, f⟩
theorem UDiv.mn (s : SUB A B) (l : w ≤ w2) : UDiv s0 r0 A p q h w c → UDiv s0 r0 B p q h w2 c := fun ⟨h', u, a, b, d, e, f, i⟩ => ⟨h', u, a, by omega, d, e.mn s, f, i.mn s l⟩
theorem UStp.mn (s : SUB A B) (l : w ≤ w2) : UStp s0 r0 A p q h w c → UStp s0 r0 B p q h w2 c := fun ⟨a, b, d, w', e, f⟩ => ⟨a, b, by omega, w', by omega, s _ _ _ _ _ _ f⟩
theorem UFor.mn (s : SUB A B) (l : w ≤ w2) : UFor s0 r0 A p q h w c → UFor s0 r0 B p q h w2 c := fun ⟨a, b, d⟩ => ⟨a, b, d.mn s l⟩
theorem UAga.mn (s : SUB A B) (l : w ≤ w2) : UAga s0 r0 A p q h w c → UAga s0 r0 B p q h w2 c := fun ⟨a, b, u, d, e, f⟩ => ⟨a, b, u, by omega, e.mn s, f⟩
theorem UTak.mn (s : SUB A B) (l : w ≤ w2) : UTak s0 r0 A p q h w g c → UTak s0 r0 B p q h w2 g c := fun ⟨a, b, d, e, f, i⟩ => ⟨a, b, d, e, f, i.mn s l⟩
theorem UTry.mn (s : SUB A B) (l : w ≤ w2) : UTry s0 r0 A p q h w g c → UTry s0 r0 B p q h w2 g c := fun ⟨a, b, d, e, ex, ey, u, f, i, j⟩ => ⟨a, b, d, e, ex, ey, u, f, i, j.mn s l⟩
theorem UOpe.mn (s : SUB A B) (l : w ≤ w2) : UOpe s0 r0 A p q h w c → UOpe s0 r0 B p q h w2 c := fun ⟨a, b, d, u, e, c0, f, i, j, k, m⟩ => ⟨a, b, d, u, e, c0, by omega, i.mn s, j, k, m.mn s l⟩
theorem VEnc.mn (s : SUB A B) (l : w ≤ w2) : VEnc FC s0 r0 A p q h w c → VEnc FC s0 r0 B p q h w2 c := fun ⟨a, b, e, c0, u, wg, f, i, j, k, m, n⟩ => ⟨a, b, e, c0, u, wg, f, i, j.mn s, k, by omega, n.mn s⟩
theorem VEnb.mn (s : SUB A B) (l : w ≤ w2) : VEnb FC s0 r0 A p q h w c → VEnb FC s0 r0 B p q h w2 c := fun ⟨a, b, e, c0, u, wg, f, i, j, k, m, n⟩ => ⟨a, b, e, c0, u, wg, f, i, j.mn s, k, by omega, n.mn s⟩
theorem VEnf.mn (s : SUB A B) (l : w ≤ w2) : VEnf FC s0 r0 A p q h w c → VEnf FC s0 r0 B p q h w2 c := fun ⟨a, b, d, e, c0, f, i, j, k, m, n, o⟩ => ⟨a, b, by omega, e, c0, f, i, j, by omega, m, n.mn s, o⟩
theorem URel.mn (s : SUB A B) (l : w ≤ w2) : URel s0 r0 A p q w h c → URel s0 r0 B p q w2 h c := fun ⟨a, b, e, c0, p', w', f, i, j, k, m, n⟩ => ⟨a, b, e, c0, p', w', f, i, j, k, s _ _ _ _ _ _ m, by omega⟩
theorem UAre.mn (s : SUB A B) (l : w ≤ w2) : UAre s0 r0 A p q h w c → UAre s0 r0 B p q h w2 c := fun ⟨a, b, e, c0, f, i, j⟩ => ⟨a, b, e, c0, f, i, j.mn s l⟩
theorem URwp.mn (s : SUB A B) (l : w ≤ w2) : URwp r0 A p q h w c → URwp r0 B p q h w2 c := fun ⟨a, e, c0, w', f, i, j, k⟩ => ⟨a, e, c0, w', f, i, s _ _ _ _ _ _ j, by omega⟩
theorem UGo3.mn (s : SUB A B) (l : w ≤ w2) : UGo3 s0 r0 A p q h w c → UGo3 s0 r0 B p q h w2 c := fun ⟨a, b, c1, c0, f, i, j, k⟩ => ⟨a, b, c1, c0, f, i, j, k.mn s l⟩
theorem URow.mn (s : SUB A B) (l : w ≤ w2) : URow s0 r0 A p q h w c → URow s0 r0 B p q h w2 c := fun ⟨a, cnt, b, h', d, e, f⟩ => ⟨a, cnt, b, h', d, e, f.mn s l⟩
theorem URwn.mn (s : SUB A B) (l : w ≤ w2) : URwn s0 r0 nm A p q h w c → URwn s0 r0 nm B p q h w2 c := fun ⟨a, b, e, c0, k0, l0, w', f, i, j, k, m, n⟩ => ⟨a, ⟨by omega, b.2⟩, e, c0, k0, l0, w', f, i, j, k.mn s l, by omega, s _ _ _ _ _ _ n⟩
theorem CHO.mn {d n : Nat} {L : List Nat} (s : SUB A B) (l : w ≤ w2) : CHO s0 r0 A q h w d n L c → CHO s0 r0 B q h w2 d n L c := fun ⟨a, b, e, f⟩ => ⟨a, b, fun k hk z i hi y => (e k hk z i hi y).mn s l, fun k hk z => (f k hk z).mn s l⟩
theorem UCho.mn (s : SUB A B) (l : w ≤ w2) : UCho s0 r0 A p q h w c → UCho s0 r0 B p q h w2 c := by
  rintro ⟨a, d, n, h', L, b, e, f, i, j, ⟨k1, k2, k3⟩ | ⟨k1, k2⟩⟩
  · exact ⟨a, d, n, h', L, b, e, f, i, by omega, Or.inl ⟨k1, k2.mn s l, fun z => (k3 z).mn s l⟩⟩
  · exact ⟨a, d, n, h', L, b, e, f, i, by omega, Or.inr ⟨k1, k2.mn s l⟩⟩
end
end
section
/-! the greatest set of places that belong together -/
def UNJ (FC : Nat → Prop) (s0 : CS) (r0 : RS) (nm : Nat → Nat → Prop) (AL : Als) (p q h w g : Nat) (c : List Ent) : Prop := ((UEnd s0 p q w r0 ∧ c = []) ∨ UCgo s0 AL p q h w c) ∨ ((q : Int) < (r0.i 20).toInt ∧ (UPush s0 r0 AL p q h w c ∨ ULoad s0 r0 nm AL p q h w c ∨ UStor s0 r0 nm AL p q h w c ∨ UNeg s0 r0 AL p q h w g c ∨ UAri s0 r0 AL p q h w c ∨ UCau s0 r0 AL p q h w c ∨ UKep s0 r0 AL p q h w g c ∨ UJmp s0 r0 AL p q h w c ∨ UJz s0 r0 AL p q h w g c ∨ UOut s0 r0 AL p q h w c ∨ UJnf s0 r0 AL p q h w g c ∨ UJnb s0 r0 AL p q h w g c ∨ UAsr s0 r0 AL p q h w c ∨ VRet FC s0 r0 AL p q h w c ∨ VGo FC s0 r0 AL p q h w c ∨ URai s0 r0 AL p q h w c ∨ URa0 s0 r0 AL p q h w c ∨ UDiv s0 r0 AL p q h w c ∨ UStp s0 r0 AL p q h w c ∨ UFor s0 r0 AL p q h w c ∨ UAga s0 r0 AL p q h w c ∨ UTak s0 r0 AL p q h w g c ∨ UTry s0 r0 AL p q h w g c ∨ UOpe s0 r0 AL p q h w c ∨ VEnc FC s0 r0 AL p q h w c ∨ VEnb FC s0 r0 AL p q h w c ∨ VEnf FC s0 r0 AL p q h w c ∨ URel s0 r0 AL p q w h c ∨ UAre s0 r0 AL p q h w c ∨ URwp r0 AL p q h w c ∨ UGo3 s0 r0 AL p q h w c ∨ URow s0 r0 AL p q h w c ∨ URwn s0 r0 nm AL p q h w c ∨ UCho s0 r0 AL p q h w c ∨ URkp r0 AL p q h w g c))
theorem UNJ.mn {FC : Nat → Prop} {s0 : CS} {r0 : RS} {nm : Nat → Nat → Prop} {A B : Als} {p q h w w2 g : Nat} {c : List Ent} (s : SUB A B) (l : w ≤ w2) : UNJ FC s0 r0 nm A p q h w g c → UNJ FC s0 r0 nm B p q h w2 g c := by
  rintro ((⟨u, v⟩ | u) | ⟨hq, u⟩)
  · exact Or.inl (Or.inl ⟨u.mn l, v⟩)
  · exact Or.inl (Or.inr (u.mn s l))
  refine Or.inr ⟨hq, ?_⟩
  rcases u with u | u | u | u | u | u | u | u | u | u | u | u | u | u | u | u | u | u | u | u | u | u | u | u | u | u | u | u | u | u | u | u | u | u | u
  · exact (Or.inl (u.mn s l))
  · exact (Or.inr (Or.inl (u.mn s l)))
  · exact (Or.inr (Or.inr (Or.inl (u.mn s l))))
  · exact (Or.inr (Or.inr (Or.inr (Or.inl (u.mn s l)))))
  · exact (Or.inr (Or.inr (Or.inr (Or.inr (Or.inl (u.mn s l))))))
  · exact (Or.inr (Or.inr (Or.inr (Or.inr (Or.inr (Or.inl (u.mn s l)))))))
  · exact (Or.inr (Or.inr (Or.inr (Or.inr (Or.inr (Or.inr (Or.inl (u.mn s l))))))))
  · exact (Or.inr (Or.inr (Or.inr (Or.inr (Or.inr (Or.inr (Or.inr (Or.inl (u.mn s l)))))))))
  · exact (Or.inr (Or.inr (Or.inr (Or.inr (Or.inr (Or.inr (Or.inr (Or.inr (Or.inl (u.mn s l))))))))))
  · exact (Or.inr (Or.inr (Or.inr (Or.inr (Or.inr (Or.inr (Or.inr (Or.inr (Or.inr (Or.inl (u.mn s l)))))))))))
  · exact (Or.inr (Or.inr (Or.inr (Or.inr (Or.inr (Or.inr (Or.inr (Or.inr (Or.inr (Or.inr (Or.inl (u.mn s l))))))))))))
  · exact (Or.inr (Or.inr (Or.inr (Or.inr (Or.inr (Or.inr (Or.inr (Or.inr (Or.inr (Or.inr (Or.inr (Or.inl (u.mn s l)))))))))))))
  · exact (Or.inr (Or.inr (Or.inr (Or.inr (Or.inr (Or.inr (Or.inr (Or.inr (Or.inr (Or.inr (Or.inr (Or.inr (Or.inl (u.mn s l))))))))))))))
  · exact (Or.inr (Or.inr (Or.inr (Or.inr (Or.inr (Or.inr (Or.inr (Or.inr (Or.inr (Or.inr (Or.inr (Or.inr (Or.inr (Or.inl (u.mn s l)))))))))))))))
  · exact (Or.inr (Or.inr (Or.inr (Or.inr (Or.inr (Or.inr (Or.inr (Or.inr (Or.inr (Or.inr (Or.inr (Or.inr (Or.inr (Or.inr (Or.inl (u.mn s l))))))))))))))))
  · exact (Or.inr (Or.inr (Or.inr (Or.inr (Or.inr (Or.inr (Or.inr (Or.inr (Or.inr (Or.inr (Or.inr (Or.inr (Or.inr (Or.inr (Or.inr (Or.inl (u.mn s l)))))))))))))))))
  · exact (Or.inr (Or.inr (Or.inr (Or.inr (Or.inr (Or.inr (Or.inr (Or.inr (Or.inr (Or.inr (Or.inr (Or.inr (Or.inr (Or.inr (Or.inr (Or.inr (Or.inl (u.mn s l))))))))))))))))))
  · exact (Or.inr (Or.inr (Or.inr (Or.inr (Or.inr (Or.inr (Or.inr (Or.inr (Or.inr (Or.inr (Or.inr (Or.inr (Or.inr (Or.inr (Or.inr (Or.inr (Or.inr (Or.inl (u.mn s l)))))))))))))))))))
  · exact (Or.inr (Or.inr (Or.inr (Or.inr (Or.inr (Or.inr (Or.inr (Or.inr (Or.inr (Or.inr (Or.inr (Or.inr (Or.inr (Or.inr (Or.inr (Or.inr (Or.inr (Or.inr (Or.inl (u.mn s l))))))))))))))))))))
  · exact (Or.inr (Or.inr (Or.inr (Or.inr (Or.inr (Or.inr (Or.inr (Or.inr (Or.inr (Or.inr (Or.inr (Or.inr (Or.inr (Or.inr (Or.inr (Or.inr (Or.inr (Or.inr (Or.inr (Or.inl (u.mn s l)))))))))))))))))))))
  · exact (Or.inr (Or.inr (Or.inr (Or.inr (Or.inr (Or.inr (Or.inr (Or.inr (Or.inr (Or.inr (Or.inr (Or.inr (Or.inr (Or.inr (Or.inr (Or.inr (Or.inr (Or.inr (Or.inr (Or.inr (Or.inl (u.mn s l))))))))))))))))))))))
  · exact (Or.inr (Or.inr (Or.inr (Or.inr (Or.inr (Or.inr (Or.inr (Or.inr (Or.inr (Or.inr (Or.inr (Or.inr (Or.inr (Or.inr (Or.inr (Or.inr (Or.inr (Or.inr (Or.inr (Or.inr (Or.inr (Or.inl (u.mn s l)))))))))))))))))))))))
  · exact (Or.inr (Or.inr (Or.inr (Or.inr (Or.inr (Or.inr (Or.inr (Or.inr (Or.inr (Or.inr (Or.inr (Or.inr (Or.inr (Or.inr (Or.inr (Or.inr (Or.inr (Or.inr (Or.inr (Or.inr (Or.inr (Or.inr (Or.inl (u.mn s l))))))))))))))))))))))))
  · exact (Or.inr (Or.inr (Or.inr (Or.inr (Or.inr (Or.inr (Or.inr (Or.inr (Or.inr (Or.inr (Or.inr (Or.inr (Or.inr (Or.inr (Or.inr (Or.inr (Or.inr (Or.inr (Or.inr (Or.inr (Or.inr (Or.inr (Or.inr (Or.inl (u.mn s l)))))))))))))))))))))))))
  · exact (Or.inr (Or.inr (Or.inr (Or.inr (Or.inr (Or.inr (Or.inr (Or.inr (Or.inr (Or.inr (Or.inr (Or.inr (Or.inr (Or.inr (Or.inr (Or.inr (Or.inr (Or.inr (Or.inr (Or.inr (Or.inr (Or.inr (Or.inr (Or.inr (Or.inl (u.mn s l))))))))))))))))))))))))))
  · exact (Or.inr (Or.inr (Or.inr (Or.inr (Or.inr (Or.inr (Or.inr (Or.inr (Or.inr (Or.inr (Or.inr (Or.inr (Or.inr (Or.inr (Or.inr (Or.inr (Or.inr (Or.inr (Or.inr (Or.inr (Or.inr (Or.inr (Or.inr (Or.inr (Or.inr (Or.inl (u.mn s l)))))))))))))))))))))))))))
  · exact (Or.inr (Or.inr (Or.inr (Or.inr (Or.inr (Or.inr (Or.inr (Or.inr (Or.inr (Or.inr (Or.inr (Or.inr (Or.inr (Or.inr (Or.inr (Or.inr (Or.inr (Or.inr (Or.inr (Or.inr (Or.inr (Or.inr (Or.inr (Or.inr (Or.inr (Or.inr (Or.inl (u.mn s l))))))))))))))))))))))))))))
  · exact (Or.inr (Or.inr (Or.inr (Or.inr (Or.inr (Or.inr (Or.inr (Or.inr (Or.inr (Or.inr (Or.inr (Or.inr (Or.inr (Or.inr (Or.inr (Or.inr (Or.inr (Or.inr (Or.inr (Or.inr (Or.inr (Or.inr (Or.inr (Or.inr (Or.inr (Or.inr (Or.inr (Or.inl (u.mn s l)))))))))))))))))))))))))))))
  · exact (Or.inr (Or.inr (Or.inr (Or.inr (Or.inr (Or.inr (Or.inr (Or.inr (Or.inr (Or.inr (Or.inr (Or.inr (Or.inr (Or.inr (Or.inr (Or.inr (Or.inr (Or.inr (Or.inr (Or.inr (Or.inr (Or.inr (Or.inr (Or.inr (Or.inr (Or.inr (Or.inr (Or.inr (Or.inl (u.mn s l))))))))))))))))))))))))))))))
  · exact (Or.inr (Or.inr (Or.inr (Or.inr (Or.inr (Or.inr (Or.inr (Or.inr (Or.inr (Or.inr (Or.inr (Or.inr (Or.inr (Or.inr (Or.inr (Or.inr (Or.inr (Or.inr (Or.inr (Or.inr (Or.inr (Or.inr (Or.inr (Or.inr (Or.inr (Or.inr (Or.inr (Or.inr (Or.inr (Or.inl (u.mn s l)))))))))))))))))))))))))))))))
  · exact (Or.inr (Or.inr (Or.inr (Or.inr (Or.inr (Or.inr (Or.inr (Or.inr (Or.inr (Or.inr (Or.inr (Or.inr (Or.inr (Or.inr (Or.inr (Or.inr (Or.inr (Or.inr (Or.inr (Or.inr (Or.inr (Or.inr (Or.inr (Or.inr (Or.inr (Or.inr (Or.inr (Or.inr (Or.inr (Or.inr (Or.inl (u.mn s l))))))))))))))))))))))))))))))))
  · exact (Or.inr (Or.inr (Or.inr (Or.inr (Or.inr (Or.inr (Or.inr (Or.inr (Or.inr (Or.inr (Or.inr (Or.inr (Or.inr (Or.inr (Or.inr (Or.inr (Or.inr (Or.inr (Or.inr (Or.inr (Or.inr (Or.inr (Or.inr (Or.inr (Or.inr (Or.inr (Or.inr (Or.inr (Or.inr (Or.inr (Or.inr (Or.inl (u.mn s l)))))))))))))))))))))))))))))))))
  · exact (Or.inr (Or.inr (Or.inr (Or.inr (Or.inr (Or.inr (Or.inr (Or.inr (Or.inr (Or.inr (Or.inr (Or.inr (Or.inr (Or.inr (Or.inr (Or.inr (Or.inr (Or.inr (Or.inr (Or.inr (Or.inr (Or.inr (Or.inr (Or.inr (Or.inr (Or.inr (Or.inr (Or.inr (Or.inr (Or.inr (Or.inr (Or.inr (Or.inl (u.mn s l))))))))))))))))))))))))))))))))))
  · exact (Or.inr (Or.inr (Or.inr (Or.inr (Or.inr (Or.inr (Or.inr (Or.inr (Or.inr (Or.inr (Or.inr (Or.inr (Or.inr (Or.inr (Or.inr (Or.inr (Or.inr (Or.inr (Or.inr (Or.inr (Or.inr (Or.inr (Or.inr (Or.inr (Or.inr (Or.inr (Or.inr (Or.inr (Or.inr (Or.inr (Or.inr (Or.inr (Or.inr (Or.inl (u.mn s l)))))))))))))))))))))))))))))))))))
  · exact (Or.inr (Or.inr (Or.inr (Or.inr (Or.inr (Or.inr (Or.inr (Or.inr (Or.inr (Or.inr (Or.inr (Or.inr (Or.inr (Or.inr (Or.inr (Or.inr (Or.inr (Or.inr (Or.inr (Or.inr (Or.inr (Or.inr (Or.inr (Or.inr (Or.inr (Or.inr (Or.inr (Or.inr (Or.inr (Or.inr (Or.inr (Or.inr (Or.inr (Or.inr (u.mn s l)))))))))))))))))))))))))))))))))))
theorem VRet.to {FC : Nat → Prop} {s0 : CS} {r0 : RS} {A : Als} {p q h w : Nat} {c : List Ent} (fc : ∀ y : Nat, FCP r0 A y → FC y) : VRet FC s0 r0 A p q h w c → URet s0 r0 A p q h w c := by
  rintro ⟨h', u, a, b, d, e, f | ⟨f1, f2, f3⟩⟩
  · exact ⟨h', u, a, b, d, e, Or.inl f⟩
  · exact ⟨h', u, a, b, d, e, Or.inr ⟨f1, f2, f3.to fc⟩⟩
theorem VGo.to {FC : Nat → Prop} {s0 : CS} {r0 : RS} {A : Als} {p q h w : Nat} {c : List Ent} (fc : ∀ y : Nat, FCP r0 A y → FC y) : VGo FC s0 r0 A p q h w c → UGo s0 r0 A p q h w c := fun ⟨a, b, u, d, e, f⟩ => ⟨a, b, u, d, e, f.to fc⟩
theorem VEnc.to {FC : Nat → Prop} {s0 : CS} {r0 : RS} {A : Als} {p q h w : Nat} {c : List Ent} (fc : ∀ y : Nat, FCP r0 A y → FC y) : VEnc FC s0 r0 A p q h w c → UEnc s0 r0 A p q h w c := fun ⟨a, b, e, c0, u, wg, f, i, j, k, m, n⟩ => ⟨a, b, e, c0, u, wg, f, i, j, k, m, n.to fc⟩
theorem VEnb.to {FC : Nat → Prop} {s0 : CS} {r0 : RS} {A : Als} {p q h w : Nat} {c : List Ent} (fc : ∀ y : Nat, FCP r0 A y → FC y) : VEnb FC s0 r0 A p q h w c → UEnb s0 r0 A p q h w c := fun ⟨a, b, e, c0, u, wg, f, i, j, k, m, n⟩ => ⟨a, b, e, c0, u, wg, f, i, j, k, m, n.to fc⟩
theorem VEnf.to {FC : Nat → Prop} {s0 : CS} {r0 : RS} {A : Als} {p q h w : Nat} {c : List Ent} : VEnf FC s0 r0 A p q h w c → UEnf s0 r0 A p q h w c := fun ⟨a, b, d, e, c0, f, i, j, k, m, n, _⟩ => ⟨a, b, d, e, c0, f, i, j, k, m, n⟩
theorem UNJ.to {FC : Nat → Prop} {s0 : CS} {r0 : RS} {nm : Nat → Nat → Prop} {A : Als} {p q h w g : Nat} {c : List Ent} (fc : ∀ y : Nat, FCP r0 A y → FC y) : UNJ FC s0 r0 nm A p q h w g c → UNI s0 r0 nm A p q h w g c := by
  rintro ((⟨u, v⟩ | u) | ⟨hq, u⟩)
  · exact Or.inl (Or.inl u)
  · exact Or.inl (Or.inr u)
  refine Or.inr ⟨hq, ?_⟩
  rcases u with u | u | u | u | u | u | u | u | u | u | u | u | u | u | u | u | u | u | u | u | u | u | u | u | u | u | u | u | u | u | u | u | u | u | u
  · exact (Or.inl u)
  · exact (Or.inr (Or.inl u))
  · exact (Or.inr (Or.inr (Or.inl u)))
  · exact (Or.inr (Or.inr (Or.inr (Or.inl u))))
  · exact (Or.inr (Or.inr (Or.inr (Or.inr (Or.inl u)))))
  · exact (Or.inr (Or.inr (Or.inr (Or.inr (Or.inr (Or.inl u))))))
  · exact (Or.inr (Or.inr (Or.inr (Or.inr (Or.inr (Or.inr (Or.inl u)))))))
  · exact (Or.inr (Or.inr (Or.inr (Or.inr (Or.inr (Or.inr (Or.inr (Or.inl u))))))))
  · exact (Or.inr (Or.inr (Or.inr (Or.inr (Or.inr (Or.inr (Or.inr (Or.inr (Or.inl u)))))))))
  · exact (Or.inr (Or.inr (Or.inr (Or.inr (Or.inr (Or.inr (Or.inr (Or.inr (Or.inr (Or.inl u))))))))))
  · exact (Or.inr (Or.inr (Or.inr (Or.inr (Or.inr (Or.inr (Or.inr (Or.inr (Or.inr (Or.inr (Or.inl u)))))))))))
  · exact (Or.inr (Or.inr (Or.inr (Or.inr (Or.inr (Or.inr (Or.inr (Or.inr (Or.inr (Or.inr (Or.inr (Or.inl u))))))))))))
  · exact (Or.inr (Or.inr (Or.inr (Or.inr (Or.inr (Or.inr (Or.inr (Or.inr (Or.inr (Or.inr (Or.inr (Or.inr (Or.inl u)))))))))))))
  · exact (Or.inr (Or.inr (Or.inr (Or.inr (Or.inr (Or.inr (Or.inr (Or.inr (Or.inr (Or.inr (Or.inr (Or.inr (Or.inr (Or.inl (VRet.to fc u)))))))))))))))
  · exact (Or.inr (Or.inr (Or.inr (Or.inr (Or.inr (Or.inr (Or.inr (Or.inr (Or.inr (Or.inr (Or.inr (Or.inr (Or.inr (Or.inr (Or.inl (VGo.to fc u))))))))))))))))
  · exact (Or.inr (Or.inr (Or.inr (Or.inr (Or.inr (Or.inr (Or.inr (Or.inr (Or.inr (Or.inr (Or.inr (Or.inr (Or.inr (Or.inr (Or.inr (Or.inl u))))))))))))))))
  · exact (Or.inr (Or.inr (Or.inr (Or.inr (Or.inr (Or.inr (Or.inr (Or.inr (Or.inr (Or.inr (Or.inr (Or.inr (Or.inr (Or.inr (Or.inr (Or.inr (Or.inl u)))))))))))))))))
  · exact (Or.inr (Or.inr (Or.inr (Or.inr (Or.inr (Or.inr (Or.inr (Or.inr (Or.inr (Or.inr (Or.inr (Or.inr (Or.inr (Or.inr (Or.inr (Or.inr (Or.inr (Or.inl u))))))))))))))))))
  · exact (Or.inr (Or.inr (Or.inr (Or.inr (Or.inr (Or.inr (Or.inr (Or.inr (Or.inr (Or.inr (Or.inr (Or.inr (Or.inr (Or.inr (Or.inr (Or.inr (Or.inr (Or.inr (Or.inl u)))))))))))))))))))
  · exact (Or.inr (Or.inr (Or.inr (Or.inr (Or.inr (Or.inr (Or.inr (Or.inr (Or.inr (Or.inr (Or.inr (Or.inr (Or.inr (Or.inr (Or.inr (Or.inr (Or.inr (Or.inr (Or.inr (Or.inl u))))))))))))))))))))
  · exact (Or.inr (Or.inr (Or.inr (Or.inr (Or.inr (Or.inr (Or.inr (Or.inr (Or.inr (Or.inr (Or.inr (Or.inr (Or.inr (Or.inr (Or.inr (Or.inr (Or.inr (Or.inr (Or.inr (Or.inr (Or.inl u)))))))))))))))))))))
  · exact (Or.inr (Or.inr (Or.inr (Or.inr (Or.inr (Or.inr (Or.inr (Or.inr (Or.inr (Or.inr (Or.inr (Or.inr (Or.inr (Or.inr (Or.inr (Or.inr (Or.inr (Or.inr (Or.inr (Or.inr (Or.inr (Or.inl u))))))))))))))))))))))
  · exact (Or.inr (Or.inr (Or.inr (Or.inr (Or.inr (Or.inr (Or.inr (Or.inr (Or.inr (Or.inr (Or.inr (Or.inr (Or.inr (Or.inr (Or.inr (Or.inr (Or.inr (Or.inr (Or.inr (Or.inr (Or.inr (Or.inr (Or.inl u)))))))))))))))))))))))
  · exact (Or.inr (Or.inr (Or.inr (Or.inr (Or.inr (Or.inr (Or.inr (Or.inr (Or.inr (Or.inr (Or.inr (Or.inr (Or.inr (Or.inr (Or.inr (Or.inr (Or.inr (Or.inr (Or.inr (Or.inr (Or.inr (Or.inr (Or.inr (Or.inl u))))))))))))))))))))))))
  · exact (Or.inr (Or.inr (Or.inr (Or.inr (Or.inr (Or.inr (Or.inr (Or.inr (Or.inr (Or.inr (Or.inr (Or.inr (Or.inr (Or.inr (Or.inr (Or.inr (Or.inr (Or.inr (Or.inr (Or.inr (Or.inr (Or.inr (Or.inr (Or.inr (Or.inl (VEnc.to fc u))))))))))))))))))))))))))
  · exact (Or.inr (Or.inr (Or.inr (Or.inr (Or.inr (Or.inr (Or.inr (Or.inr (Or.inr (Or.inr (Or.inr (Or.inr (Or.inr (Or.inr (Or.inr (Or.inr (Or.inr (Or.inr (Or.inr (Or.inr (Or.inr (Or.inr (Or.inr (Or.inr (Or.inr (Or.inl (VEnb.to fc u)))))))))))))))))))))))))))
  · exact (Or.inr (Or.inr (Or.inr (Or.inr (Or.inr (Or.inr (Or.inr (Or.inr (Or.inr (Or.inr (Or.inr (Or.inr (Or.inr (Or.inr (Or.inr (Or.inr (Or.inr (Or.inr (Or.inr (Or.inr (Or.inr (Or.inr (Or.inr (Or.inr (Or.inr (Or.inr (Or.inl (VEnf.to u))))))))))))))))))))))))))))
  · exact (Or.inr (Or.inr (Or.inr (Or.inr (Or.inr (Or.inr (Or.inr (Or.inr (Or.inr (Or.inr (Or.inr (Or.inr (Or.inr (Or.inr (Or.inr (Or.inr (Or.inr (Or.inr (Or.inr (Or.inr (Or.inr (Or.inr (Or.inr (Or.inr (Or.inr (Or.inr (Or.inr (Or.inl u))))))))))))))))))))))))))))
  · exact (Or.inr (Or.inr (Or.inr (Or.inr (Or.inr (Or.inr (Or.inr (Or.inr (Or.inr (Or.inr (Or.inr (Or.inr (Or.inr (Or.inr (Or.inr (Or.inr (Or.inr (Or.inr (Or.inr (Or.inr (Or.inr (Or.inr (Or.inr (Or.inr (Or.inr (Or.inr (Or.inr (Or.inr (Or.inl u)))))))))))))))))))))))))))))
  · exact (Or.inr (Or.inr (Or.inr (Or.inr (Or.inr (Or.inr (Or.inr (Or.inr (Or.inr (Or.inr (Or.inr (Or.inr (Or.inr (Or.inr (Or.inr (Or.inr (Or.inr (Or.inr (Or.inr (Or.inr (Or.inr (Or.inr (Or.inr (Or.inr (Or.inr (Or.inr (Or.inr (Or.inr (Or.inr (Or.inl u))))))))))))))))))))))))))))))
  · exact (Or.inr (Or.inr (Or.inr (Or.inr (Or.inr (Or.inr (Or.inr (Or.inr (Or.inr (Or.inr (Or.inr (Or.inr (Or.inr (Or.inr (Or.inr (Or.inr (Or.inr (Or.inr (Or.inr (Or.inr (Or.inr (Or.inr (Or.inr (Or.inr (Or.inr (Or.inr (Or.inr (Or.inr (Or.inr (Or.inr (Or.inl u)))))))))))))))))))))))))))))))
  · exact (Or.inr (Or.inr (Or.inr (Or.inr (Or.inr (Or.inr (Or.inr (Or.inr (Or.inr (Or.inr (Or.inr (Or.inr (Or.inr (Or.inr (Or.inr (Or.inr (Or.inr (Or.inr (Or.inr (Or.inr (Or.inr (Or.inr (Or.inr (Or.inr (Or.inr (Or.inr (Or.inr (Or.inr (Or.inr (Or.inr (Or.inr (Or.inl u))))))))))))))))))))))))))))))))
  · exact (Or.inr (Or.inr (Or.inr (Or.inr (Or.inr (Or.inr (Or.inr (Or.inr (Or.inr (Or.inr (Or.inr (Or.inr (Or.inr (Or.inr (Or.inr (Or.inr (Or.inr (Or.inr (Or.inr (Or.inr (Or.inr (Or.inr (Or.inr (Or.inr (Or.inr (Or.inr (Or.inr (Or.inr (Or.inr (Or.inr (Or.inr (Or.inr (Or.inl u)))))))))))))))))))))))))))))))))
  · exact (Or.inr (Or.inr (Or.inr (Or.inr (Or.inr (Or.inr (Or.inr (Or.inr (Or.inr (Or.inr (Or.inr (Or.inr (Or.inr (Or.inr (Or.inr (Or.inr (Or.inr (Or.inr (Or.inr (Or.inr (Or.inr (Or.inr (Or.inr (Or.inr (Or.inr (Or.inr (Or.inr (Or.inr (Or.inr (Or.inr (Or.inr (Or.inr (Or.inr (Or.inl u))))))))))))))))))))))))))))))))))
  · exact (Or.inr (Or.inr (Or.inr (Or.inr (Or.inr (Or.inr (Or.inr (Or.inr (Or.inr (Or.inr (Or.inr (Or.inr (Or.inr (Or.inr (Or.inr (Or.inr (Or.inr (Or.inr (Or.inr (Or.inr (Or.inr (Or.inr (Or.inr (Or.inr (Or.inr (Or.inr (Or.inr (Or.inr (Or.inr (Or.inr (Or.inr (Or.inr (Or.inr (Or.inr u))))))))))))))))))))))))))))))))))
theorem UNJ.fin {FC : Nat → Prop} {s0 : CS} {r0 : RS} {nm : Nat → Nat → Prop} {A : Als} {p q h w g : Nat} {c : List Ent} (z5 : r0.a 21 q = 35) {a : Ent} {c0 : List Ent} (hc : c = a :: c0) : UNJ FC s0 r0 nm A p q h w g c → FC a.y ∨ UCgo s0 A p q h w c := by
  rintro ((⟨u, v⟩ | u) | ⟨hq, u⟩)
  · rw [hc] at v; cases v
  · exact Or.inr u
  refine Or.inl ?_
  rcases u with u | u | u | u | u | u | u | u | u | u | u | u | u | u | u | u | u | u | u | u | u | u | u | u | u | u | u | u | u | u | u | u | u | u | u
  · rcases u with ⟨-, z, -⟩ <;> exact absurd (z5.symm.trans z) (by decide)
  · rcases u with ⟨-, z, -⟩ <;> exact absurd (z5.symm.trans z) (by decide)
  · rcases u with ⟨-, ⟨-, z, -⟩ | ⟨-, z, -⟩⟩ <;> exact absurd (z5.symm.trans z) (by decide)
  · rcases u with ⟨⟨-, z⟩ | ⟨-, z⟩, -⟩ <;> exact absurd (z5.symm.trans z) (by decide)
  · rcases u with ⟨⟨-, z, -⟩ | ⟨-, z, -⟩ | ⟨-, z, -⟩ | ⟨-, z, -⟩ | ⟨-, z, -⟩ | ⟨-, z, -⟩ | ⟨-, z, -⟩ | ⟨-, z, -⟩ | ⟨-, z, -⟩, -⟩ <;> exact absurd (z5.symm.trans z) (by decide)
  · rcases u with ⟨-, z, -⟩ <;> exact absurd (z5.symm.trans z) (by decide)
  · rcases u with ⟨⟨-, z⟩ | ⟨-, z⟩, -⟩ <;> exact absurd (z5.symm.trans z) (by decide)
  · rcases u with ⟨-, z, -⟩ <;> exact absurd (z5.symm.trans z) (by decide)
  · rcases u with ⟨-, z, -⟩ <;> exact absurd (z5.symm.trans z) (by decide)
  · rcases u with ⟨-, z, -⟩ <;> exact absurd (z5.symm.trans z) (by decide)
  · rcases u with ⟨⟨-, -, z, -⟩, -⟩ <;> exact absurd (z5.symm.trans z) (by decide)
  · rcases u with ⟨⟨-, -, z, -⟩, -⟩ <;> exact absurd (z5.symm.trans z) (by decide)
  · rcases u with ⟨-, z, -⟩ <;> exact absurd (z5.symm.trans z) (by decide)
  · rcases u with ⟨_, _, -, -, -, -, ⟨-, z⟩ | ⟨-, z, -⟩⟩ <;> exact absurd (z5.symm.trans z) (by decide)
  · rcases u with ⟨-, z, -⟩ <;> exact absurd (z5.symm.trans z) (by decide)
  · rcases u with ⟨_, _, -, -, -, -, -, z, -⟩ <;> exact absurd (z5.symm.trans z) (by decide)
  · rcases u with ⟨_, -, -, -, -, -, -, -, z, -⟩ <;> exact absurd (z5.symm.trans z) (by decide)
  · rcases u with ⟨_, _, -, -, -, -, ⟨z, -⟩, -⟩ <;> exact absurd (z5.symm.trans z) (by decide)
  · rcases u with ⟨-, z, -⟩ <;> exact absurd (z5.symm.trans z) (by decide)
  · rcases u with ⟨-, ⟨z, -⟩, -⟩ <;> exact absurd (z5.symm.trans z) (by decide)
  · rcases u with ⟨-, z, -⟩ <;> exact absurd (z5.symm.trans z) (by decide)
  · rcases u with ⟨-, z, -⟩ <;> exact absurd (z5.symm.trans z) (by decide)
  · rcases u with ⟨-, z, -⟩ <;> exact absurd (z5.symm.trans z) (by decide)
  · rcases u with ⟨-, z, -⟩ <;> exact absurd (z5.symm.trans z) (by decide)
  · rcases u with ⟨-, z, -⟩ <;> exact absurd (z5.symm.trans z) (by decide)
  · rcases u with ⟨-, z, -⟩ <;> exact absurd (z5.symm.trans z) (by decide)
  · obtain ⟨-, -, -, a', c', e, -, -, -, -, -, f⟩ := u
    rw [hc] at e
    injection e with e1 e2
    rw [e1]
    exact f
  · rcases u with ⟨-, z, -⟩ <;> exact absurd (z5.symm.trans z) (by decide)
  · rcases u with ⟨-, z, -⟩ <;> exact absurd (z5.symm.trans z) (by decide)
  · rcases u with ⟨z, -⟩ <;> exact absurd (z5.symm.trans z) (by decide)
  · rcases u with ⟨-, z, -⟩ <;> exact absurd (z5.symm.trans z) (by decide)
  · rcases u with ⟨⟨-, -, -, z⟩, -⟩ <;> exact absurd (z5.symm.trans z) (by decide)
  · rcases u with ⟨⟨-, -, -, -, -, -, z⟩, -⟩ <;> exact absurd (z5.symm.trans z) (by decide)
  · rcases u with ⟨-, _, _, _, _, -, -, -, -, -, ⟨z, -⟩ | ⟨z, -⟩⟩ <;> exact absurd (z5.symm.trans z) (by decide)
  · rcases u with ⟨⟨z, -⟩ | ⟨z, -⟩, -⟩ <;> exact absurd (z5.symm.trans z) (by decide)
/-- a place of a code, its unit and its bounds -/
def HC1 (nm : Nat → Nat → Prop) (p q h : Nat) (c : List Ent) : Prop := (p < 1200 ∧ q ≤ 3000) ∧ CTK nm c ∧ ops c ≤ 320 ∧ frs c ≤ 22 ∧ ∀ e ∈ c, e.h ≤ h
def UNH (FC : Nat → Prop) (s0 : CS) (r0 : RS) (nm : Nat → Nat → Prop) (AL : Als) (p q h w g : Nat) (c : List Ent) : Prop := HC1 nm p q h c ∧ UNJ FC s0 r0 nm AL p q h w g c
theorem UNH.mn {FC : Nat → Prop} {s0 : CS} {r0 : RS} {nm : Nat → Nat → Prop} {A B : Als} {p q h w w2 g : Nat} {c : List Ent} (s : SUB A B) (l : w ≤ w2) : UNH FC s0 r0 nm A p q h w g c → UNH FC s0 r0 nm B p q h w2 g c := fun ⟨a, b⟩ => ⟨a, b.mn s l⟩
def GGX (FC : Nat → Prop) (s0 : CS) (r0 : RS) (nm : Nat → Nat → Prop) (X : Als) : Als := fun p q h w g c => ∃ AL : Als, (∀ (p q h w g : Nat) (c : List Ent), AL p q h w g c → UNH FC s0 r0 nm (UN2 AL X) p q h w g c) ∧ AL p q h w g c
/-- the places that are good, and those that are taken for good -/
def GU (FC : Nat → Prop) (s0 : CS) (r0 : RS) (nm : Nat → Nat → Prop) (X : Als) : Als := UN2 (GGX FC s0 r0 nm X) X
theorem SUB.rf (A : Als) : SUB A A := fun _ _ _ _ _ _ a => a
theorem SUB.l (A B : Als) : SUB A (UN2 A B) := fun _ _ _ _ _ _ a => Or.inl a
theorem SUB.r (A B : Als) : SUB B (UN2 A B) := fun _ _ _ _ _ _ a => Or.inr a
theorem SUB.or {A B C : Als} (a : SUB A C) (b : SUB B C) : SUB (UN2 A B) C := fun _ _ _ _ _ _ z => z.elim (fun x => a _ _ _ _ _ _ x) (fun x => b _ _ _ _ _ _ x)
theorem SUB.un {A B C D : Als} (a : SUB A C) (b : SUB B D) : SUB (UN2 A B) (UN2 C D) := fun _ _ _ _ _ _ z => z.elim (fun x => Or.inl (a _ _ _ _ _ _ x)) (fun x => Or.inr (b _ _ _ _ _ _ x))
section
variable {FC : Nat → Prop} {s0 : CS} {r0 : RS} {nm : Nat → Nat → Prop} {X Y P : Als} {p q h w w2 g : Nat} {c : List Ent}
theorem GGX.out : GGX FC s0 r0 nm X p q h w g c → UNH FC s0 r0 nm (GU FC s0 r0 nm X) p q h w g c := fun ⟨AL, a, b⟩ => (a _ _ _ _ _ _ b).mn (SUB.un (fun _ _ _ _ _ _ z => ⟨AL, a, z⟩) (SUB.rf X)) (Nat.le_refl _)
theorem GGX.inn (u : UNH FC s0 r0 nm (GU FC s0 r0 nm X) p q h w g c) : GGX FC s0 r0 nm X p q h w g c := by
  refine ⟨fun p' q' h' w' g' c' => GGX FC s0 r0 nm X p' q' h' w' g' c' ∨ (p' = p ∧ q' = q ∧ h' = h ∧ w' = w ∧ g' = g ∧ c' = c), fun p' q' h' w' g' c' z => ?_, Or.inr ⟨rfl, rfl, rfl, rfl, rfl, rfl⟩⟩
  have k : SUB (GU FC s0 r0 nm X) (UN2 (fun p' q' h' w' g' c' => GGX FC s0 r0 nm X p' q' h' w' g' c' ∨ (p' = p ∧ q' = q ∧ h' = h ∧ w' = w ∧ g' = g ∧ c' = c)) X) := SUB.un (fun _ _ _ _ _ _ z => Or.inl z) (SUB.rf X)
  rcases z with z | ⟨rfl, rfl, rfl, rfl, rfl, rfl⟩
  · exact z.out.mn k (Nat.le_refl _)
  · exact u.mn k (Nat.le_refl _)
theorem GGX.mono (s : SUB X (GU FC s0 r0 nm Y)) : SUB (GGX FC s0 r0 nm X) (GGX FC s0 r0 nm Y) := by
  intro p q h w g c z
  refine ⟨UN2 (GGX FC s0 r0 nm X) (GGX FC s0 r0 nm Y), fun p' q' h' w' g' c' z => ?_, Or.inl z⟩
  rcases z with z | z
  · refine z.out.mn (fun _ _ _ _ _ _ z => ?_) (Nat.le_refl _)
    rcases z with z | z
    · exact Or.inl (Or.inl z)
    · rcases s _ _ _ _ _ _ z with z | z
      · exact Or.inl (Or.inr z)
      · exact Or.inr z
  · refine z.out.mn (fun _ _ _ _ _ _ z => ?_) (Nat.le_refl _)
    rcases z with z | z
    · exact Or.inl (Or.inr z)
    · exact Or.inr z
theorem GU.mono (s : SUB X (GU FC s0 r0 nm Y)) : SUB (GU FC s0 r0 nm X) (GU FC s0 r0 nm Y) := SUB.or (fun _ _ _ _ _ _ z => Or.inl (GGX.mono s _ _ _ _ _ _ z)) s
theorem GGX.wm (l : w ≤ w2) (z : GGX FC s0 r0 nm X p q h w g c) : GGX FC s0 r0 nm X p q h w2 g c := GGX.inn (z.out.mn (SUB.rf _) l)
/-- what is to be shown may be taken for good behind its first unit -/
theorem GGX.acc (z : SUB P (GGX FC s0 r0 nm (UN2 X P))) : SUB P (GGX FC s0 r0 nm X) := by
  intro p q h w g c a
  refine ⟨GGX FC s0 r0 nm (UN2 X P), fun p' q' h' w' g' c' b => ?_, z _ _ _ _ _ _ a⟩
  refine b.out.mn (SUB.or (SUB.l _ _) (SUB.or (SUB.r _ _) fun _ _ _ _ _ _ k => Or.inl (z _ _ _ _ _ _ k))) (Nat.le_refl _)
/-- no place is taken for good: both codes belong together -/
theorem cod_of (nn : NMP nm) (hw : w ≤ 10000) (z : GGX FC s0 r0 nm (fun _ _ _ _ _ _ => False) 0 0 0 w 0 []) : ∃ AL : Als, CODW s0 r0 nm AL := by
  have un : ∀ (p q h w g : Nat) (c : List Ent), GGX FC s0 r0 nm (fun _ _ _ _ _ _ => False) p q h w g c → UNH FC s0 r0 nm (GGX FC s0 r0 nm (fun _ _ _ _ _ _ => False)) p q h w g c := fun p q h w g c z => z.out.mn (SUB.or (SUB.rf _) fun _ _ _ _ _ _ k => k.elim) (Nat.le_refl _)
  refine ⟨GGX FC s0 r0 nm (fun _ _ _ _ _ _ => False), fun p q h w g c z => (un _ _ _ _ _ _ z).1, nn, fun p q h w g c z => (un _ _ _ _ _ _ z).2.to ?_, w, hw, z⟩
  rintro y ⟨p, q, h, w, g, e, c, a, -, k, z5⟩
  rw [← k]
  have fin : ∀ (n p w g : Nat), w ≤ n → GGX FC s0 r0 nm (fun _ _ _ _ _ _ => False) p q h w g (e :: c) → FC e.y := by
    intro n
    induction n with
    | zero =>
      intro p w g l a
      rcases (un _ _ _ _ _ _ a).2.fin z5 rfl with z | ⟨-, p', w', -, l', -⟩
      · exact z
      · omega
    | succ n ih =>
      intro p w g l a
      rcases (un _ _ _ _ _ _ a).2.fin z5 rfl with z | ⟨-, p', w', -, l', a'⟩
      · exact z
      · exact ih p' w' 0 (by omega) a'
  exact fin w p w g (Nat.le_refl _) a
end
end
section
/-! a unit more before places that are good -/
theorem gi_UPush {FC : Nat → Prop} {s0 : CS} {r0 : RS} {nm : Nat → Nat → Prop} {X : Als} {p q h w g : Nat} {c : List Ent} (hc : HC1 nm p q h c) (hq : (q : Int) < (r0.i 20).toInt) (u : UPush s0 r0 (GU FC s0 r0 nm X) p q h w c) : GU FC s0 r0 nm X p q h w g c := Or.inl (GGX.inn ⟨hc, Or.inr ⟨hq, (Or.inl u)⟩⟩)
theorem gi_ULoad {FC : Nat → Prop} {s0 : CS} {r0 : RS} {nm : Nat → Nat → Prop} {X : Als} {p q h w g : Nat} {c : List Ent} (hc : HC1 nm p q h c) (hq : (q : Int) < (r0.i 20).toInt) (u : ULoad s0 r0 nm (GU FC s0 r0 nm X) p q h w c) : GU FC s0 r0 nm X p q h w g c := Or.inl (GGX.inn ⟨hc, Or.inr ⟨hq, (Or.inr (Or.inl u))⟩⟩)
theorem gi_UStor {FC : Nat → Prop} {s0 : CS} {r0 : RS} {nm : Nat → Nat → Prop} {X : Als} {p q h w g : Nat} {c : List Ent} (hc : HC1 nm p q h c) (hq : (q : Int) < (r0.i 20).toInt) (u : UStor s0 r0 nm (GU FC s0 r0 nm X) p q h w c) : GU FC s0 r0 nm X p q h w g c := Or.inl (GGX.inn ⟨hc, Or.inr ⟨hq, (Or.inr (Or.inr (Or.inl u)))⟩⟩)
theorem gi_UNeg {FC : Nat → Prop} {s0 : CS} {r0 : RS} {nm : Nat → Nat → Prop} {X : Als} {p q h w g : Nat} {c : List Ent} (hc : HC1 nm p q h c) (hq : (q : Int) < (r0.i 20).toInt) (u : UNeg s0 r0 (GU FC s0 r0 nm X) p q h w g c) : GU FC s0 r0 nm X p q h w g c := Or.inl (GGX.inn ⟨hc, Or.inr ⟨hq, (Or.inr (Or.inr (Or.inr (Or.inl u))))⟩⟩)
theorem gi_UAri {FC : Nat → Prop} {s0 : CS} {r0 : RS} {nm : Nat → Nat → Prop} {X : Als} {p q h w g : Nat} {c : List Ent} (hc : HC1 nm p q h c) (hq : (q : Int) < (r0.i 20).toInt) (u : UAri s0 r0 (GU FC s0 r0 nm X) p q h w c) : GU FC s0 r0 nm X p q h w g c := Or.inl (GGX.inn ⟨hc, Or.inr ⟨hq, (Or.inr (Or.inr (Or.inr (Or.inr (Or.inl u)))))⟩⟩)
theorem gi_UCau {FC : Nat → Prop} {s0 : CS} {r0 : RS} {nm : Nat → Nat → Prop} {X : Als} {p q h w g : Nat} {c : List Ent} (hc : HC1 nm p q h c) (hq : (q : Int) < (r0.i 20).toInt) (u : UCau s0 r0 (GU FC s0 r0 nm X) p q h w c) : GU FC s0 r0 nm X p q h w g c := Or.inl (GGX.inn ⟨hc, Or.inr ⟨hq, (Or.inr (Or.inr (Or.inr (Or.inr (Or.inr (Or.inl u))))))⟩⟩)
theorem gi_UKep {FC : Nat → Prop} {s0 : CS} {r0 : RS} {nm : Nat → Nat → Prop} {X : Als} {p q h w g : Nat} {c : List Ent} (hc : HC1 nm p q h c) (hq : (q : Int) < (r0.i 20).toInt) (u : UKep s0 r0 (GU FC s0 r0 nm X) p q h w g c) : GU FC s0 r0 nm X p q h w g c := Or.inl (GGX.inn ⟨hc, Or.inr ⟨hq, (Or.inr (Or.inr (Or.inr (Or.inr (Or.inr (Or.inr (Or.inl u)))))))⟩⟩)
theorem gi_UJmp {FC : Nat → Prop} {s0 : CS} {r0 : RS} {nm : Nat → Nat → Prop} {X : Als} {p q h w g : Nat} {c : List Ent} (hc : HC1 nm p q h c) (hq : (q : Int) < (r0.i 20).toInt) (u : UJmp s0 r0 (GU FC s0 r0 nm X) p q h w c) : GU FC s0 r0 nm X p q h w g c := Or.inl (GGX.inn ⟨hc, Or.inr ⟨hq, (Or.inr (Or.inr (Or.inr (Or.inr (Or.inr (Or.inr (Or.inr (Or.inl u))))))))⟩⟩)
theorem gi_UJz {FC : Nat → Prop} {s0 : CS} {r0 : RS} {nm : Nat → Nat → Prop} {X : Als} {p q h w g : Nat} {c : List Ent} (hc : HC1 nm p q h c) (hq : (q : Int) < (r0.i 20).toInt) (u : UJz s0 r0 (GU FC s0 r0 nm X) p q h w g c) : GU FC s0 r0 nm X p q h w g c := Or.inl (GGX.inn ⟨hc, Or.inr ⟨hq, (Or.inr (Or.inr (Or.inr (Or.inr (Or.inr (Or.inr (Or.inr (Or.inr (Or.inl u)))))))))⟩⟩)
theorem gi_UOut {FC : Nat → Prop} {s0 : CS} {r0 : RS} {nm : Nat → Nat → Prop} {X : Als} {p q h w g : Nat} {c : List Ent} (hc : HC1 nm p q h c) (hq : (q : Int) < (r0.i 20).toInt) (u : UOut s0 r0 (GU FC s0 r0 nm X) p q h w c) : GU FC s0 r0 nm X p q h w g c := Or.inl (GGX.inn ⟨hc, Or.inr ⟨hq, (Or.inr (Or.inr (Or.inr (Or.inr (Or.inr (Or.inr (Or.inr (Or.inr (Or.inr (Or.inl u))))))))))⟩⟩)
theorem gi_UJnf {FC : Nat → Prop} {s0 : CS} {r0 : RS} {nm : Nat → Nat → Prop} {X : Als} {p q h w g : Nat} {c : List Ent} (hc : HC1 nm p q h c) (hq : (q : Int) < (r0.i 20).toInt) (u : UJnf s0 r0 (GU FC s0 r0 nm X) p q h w g c) : GU FC s0 r0 nm X p q h w g c := Or.inl (GGX.inn ⟨hc, Or.inr ⟨hq, (Or.inr (Or.inr (Or.inr (Or.inr (Or.inr (Or.inr (Or.inr (Or.inr (Or.inr (Or.inr (Or.inl u)))))))))))⟩⟩)
theorem gi_UJnb {FC : Nat → Prop} {s0 : CS} {r0 : RS} {nm : Nat → Nat → Prop} {X : Als} {p q h w g : Nat} {c : List Ent} (hc : HC1 nm p q h c) (hq : (q : Int) < (r0.i 20).toInt) (u : UJnb s0 r0 (GU FC s0 r0 nm X) p q h w g c) : GU FC s0 r0 nm X p q h w g c := Or.inl (GGX.inn ⟨hc, Or.inr ⟨hq, (Or.inr (Or.inr (Or.inr (Or.inr (Or.inr (Or.inr (Or.inr (Or.inr (Or.inr (Or.inr (Or.inr (Or.inl u))))))))))))⟩⟩)
theorem gi_UAsr {FC : Nat → Prop} {s0 : CS} {r0 : RS} {nm : Nat → Nat → Prop} {X : Als} {p q h w g : Nat} {c : List Ent} (hc : HC1 nm p q h c) (hq : (q : Int) < (r0.i 20).toInt) (u : UAsr s0 r0 (GU FC s0 r0 nm X) p q h w c) : GU FC s0 r0 nm X p q h w g c := Or.inl (GGX.inn ⟨hc, Or.inr ⟨hq, (Or.inr (Or.inr (Or.inr (Or.inr (Or.inr (Or.inr (Or.inr (Or.inr (Or.inr (Or.inr (Or.inr (Or.inr (Or.inl u)))))))))))))⟩⟩)
theorem gi_VRet {FC : Nat → Prop} {s0 : CS} {r0 : RS} {nm : Nat → Nat → Prop} {X : Als} {p q h w g : Nat} {c : List Ent} (hc : HC1 nm p q h c) (hq : (q : Int) < (r0.i 20).toInt) (u : VRet FC s0 r0 (GU FC s0 r0 nm X) p q h w c) : GU FC s0 r0 nm X p q h w g c := Or.inl (GGX.inn ⟨hc, Or.inr ⟨hq, (Or.inr (Or.inr (Or.inr (Or.inr (Or.inr (Or.inr (Or.inr (Or.inr (Or.inr (Or.inr (Or.inr (Or.inr (Or.inr (Or.inl u))))))))))))))⟩⟩)
theorem gi_VGo {FC : Nat → Prop} {s0 : CS} {r0 : RS} {nm : Nat → Nat → Prop} {X : Als} {p q h w g : Nat} {c : List Ent} (hc : HC1 nm p q h c) (hq : (q : Int) < (r0.i 20).toInt) (u : VGo FC s0 r0 (GU FC s0 r0 nm X) p q h w c) : GU FC s0 r0 nm X p q h w g c := Or.inl (GGX.inn ⟨hc, Or.inr ⟨hq, (Or.inr (Or.inr (Or.inr (Or.inr (Or.inr (Or.inr (Or.inr (Or.inr (Or.inr (Or.inr (Or.inr (Or.inr (Or.inr (Or.inr (Or.inl u)))))))))))))))⟩⟩)
theorem gi_URai {FC : Nat → Prop} {s0 : CS} {r0 : RS} {nm : Nat → Nat → Prop} {X : Als} {p q h w g : Nat} {c : List Ent} (hc : HC1 nm p q h c) (hq : (q : Int) < (r0.i 20).toInt) (u : URai s0 r0 (GU FC s0 r0 nm X) p q h w c) : GU FC s0 r0 nm X p q h w g c := Or.inl (GGX.inn ⟨hc, Or.inr ⟨hq, (Or.inr (Or.inr (Or.inr (Or.inr (Or.inr (Or.inr (Or.inr (Or.inr (Or.inr (Or.inr (Or.inr (Or.inr (Or.inr (Or.inr (Or.inr (Or.inl u))))))))))))))))⟩⟩)
theorem gi_URa0 {FC : Nat → Prop} {s0 : CS} {r0 : RS} {nm : Nat → Nat → Prop} {X : Als} {p q h w g : Nat} {c : List Ent} (hc : HC1 nm p q h c) (hq : (q : Int) < (r0.i 20).toInt) (u : URa0 s0 r0 (GU FC s0 r0 nm X) p q h w c) : GU FC s0 r0 nm X p q h w g c := Or.inl (GGX.inn ⟨hc, Or.inr ⟨hq, (Or.inr (Or.inr (Or.inr (Or.inr (Or.inr (Or.inr (Or.inr (Or.inr (Or.inr (Or.inr (Or.inr (Or.inr (Or.inr (Or.inr (Or.inr (Or.inr (Or.inl u)))))))))))))))))⟩⟩)
theorem gi_UDiv {FC : Nat → Prop} {s0 : CS} {r0 : RS} {nm : Nat → Nat → Prop} {X : Als} {p q h w g : Nat} {c : List Ent} (hc : HC1 nm p q h c) (hq : (q : Int) < (r0.i 20).toInt) (u : UDiv s0 r0 (GU FC s0 r0 nm X) p q h w c) : GU FC s0 r0 nm X p q h w g c := Or.inl (GGX.inn ⟨hc, Or.inr ⟨hq, (Or.inr (Or.inr (Or.inr (Or.inr (Or.inr (Or.inr (Or.inr (Or.inr (Or.inr (Or.inr (Or.inr (Or.inr (Or.inr (Or.inr (Or.inr (Or.inr (Or.inr (Or.inl u))))))))))))))))))⟩⟩)
theorem gi_UStp {FC : Nat → Prop} {s0 : CS} {r0 : RS} {nm : Nat → Nat → Prop} {X : Als} {p q h w g : Nat} {c : List Ent} (hc : HC1 nm p q h c) (hq : (q : Int) < (r0.i 20).toInt) (u : UStp s0 r0 (GU FC s0 r0 nm X) p q h w c) : GU FC s0 r0 nm X p q h w g c := Or.inl (GGX.inn ⟨hc, Or.inr ⟨hq, (Or.inr (Or.inr (Or.inr (Or.inr (Or.inr (Or.inr (Or.inr (Or.inr (Or.inr (Or.inr (Or.inr (Or.inr (Or.inr (Or.inr (Or.inr (Or.inr (Or.inr (Or.inr (Or.inl u)))))))))))))))))))⟩⟩)
theorem gi_UFor {FC : Nat → Prop} {s0 : CS} {r0 : RS} {nm : Nat → Nat → Prop} {X : Als} {p q h w g : Nat} {c : List Ent} (hc : HC1 nm p q h c) (hq : (q : Int) < (r0.i 20).toInt) (u : UFor s0 r0 (GU FC s0 r0 nm X) p q h w c) : GU FC s0 r0 nm X p q h w g c := Or.inl (GGX.inn ⟨hc, Or.inr ⟨hq, (Or.inr (Or.inr (Or.inr (Or.inr (Or.inr (Or.inr (Or.inr (Or.inr (Or.inr (Or.inr (Or.inr (Or.inr (Or.inr (Or.inr (Or.inr (Or.inr (Or.inr (Or.inr (Or.inr (Or.inl u))))))))))))))))))))⟩⟩)
theorem gi_UAga {FC : Nat → Prop} {s0 : CS} {r0 : RS} {nm : Nat → Nat → Prop} {X : Als} {p q h w g : Nat} {c : List Ent} (hc : HC1 nm p q h c) (hq : (q : Int) < (r0.i 20).toInt) (u : UAga s0 r0 (GU FC s0 r0 nm X) p q h w c) : GU FC s0 r0 nm X p q h w g c := Or.inl (GGX.inn ⟨hc, Or.inr ⟨hq, (Or.inr (Or.inr (Or.inr (Or.inr (Or.inr (Or.inr (Or.inr (Or.inr (Or.inr (Or.inr (Or.inr (Or.inr (Or.inr (Or.inr (Or.inr (Or.inr (Or.inr (Or.inr (Or.inr (Or.inr (Or.inl u)))))))))))))))))))))⟩⟩)
theorem gi_UTak {FC : Nat → Prop} {s0 : CS} {r0 : RS} {nm : Nat → Nat → Prop} {X : Als} {p q h w g : Nat} {c : List Ent} (hc : HC1 nm p q h c) (hq : (q : Int) < (r0.i 20).toInt) (u : UTak s0 r0 (GU FC s0 r0 nm X) p q h w g c) : GU FC s0 r0 nm X p q h w g c := Or.inl (GGX.inn ⟨hc, Or.inr ⟨hq, (Or.inr (Or.inr (Or.inr (Or.inr (Or.inr (Or.inr (Or.inr (Or.inr (Or.inr (Or.inr (Or.inr (Or.inr (Or.inr (Or.inr (Or.inr (Or.inr (Or.inr (Or.inr (Or.inr (Or.inr (Or.inr (Or.inl u))))))))))))))))))))))⟩⟩)
theorem gi_UTry {FC : Nat → Prop} {s0 : CS} {r0 : RS} {nm : Nat → Nat → Prop} {X : Als} {p q h w g : Nat} {c : List Ent} (hc : HC1 nm p q h c) (hq : (q : Int) < (r0.i 20).toInt) (u : UTry s0 r0 (GU FC s0 r0 nm X) p q h w g c) : GU FC s0 r0 nm X p q h w g c := Or.inl (GGX.inn ⟨hc, Or.inr ⟨hq, (Or.inr (Or.inr (Or.inr (Or.inr (Or.inr (Or.inr (Or.inr (Or.inr (Or.inr (Or.inr (Or.inr (Or.inr (Or.inr (Or.inr (Or.inr (Or.inr (Or.inr (Or.inr (Or.inr (Or.inr (Or.inr (Or.inr (Or.inl u)))))))))))))))))))))))⟩⟩)
theorem gi_UOpe {FC : Nat → Prop} {s0 : CS} {r0 : RS} {nm : Nat → Nat → Prop} {X : Als} {p q h w g : Nat} {c : List Ent} (hc : HC1 nm p q h c) (hq : (q : Int) < (r0.i 20).toInt) (u : UOpe s0 r0 (GU FC s0 r0 nm X) p q h w c) : GU FC s0 r0 nm X p q h w g c := Or.inl (GGX.inn ⟨hc, Or.inr ⟨hq, (Or.inr (Or.inr (Or.inr (Or.inr (Or.inr (Or.inr (Or.inr (Or.inr (Or.inr (Or.inr (Or.inr (Or.inr (Or.inr (Or.inr (Or.inr (Or.inr (Or.inr (Or.inr (Or.inr (Or.inr (Or.inr (Or.inr (Or.inr (Or.inl u))))))))))))))))))))))))⟩⟩)
theorem gi_VEnc {FC : Nat → Prop} {s0 : CS} {r0 : RS} {nm : Nat → Nat → Prop} {X : Als} {p q h w g : Nat} {c : List Ent} (hc : HC1 nm p q h c) (hq : (q : Int) < (r0.i 20).toInt) (u : VEnc FC s0 r0 (GU FC s0 r0 nm X) p q h w c) : GU FC s0 r0 nm X p q h w g c := Or.inl (GGX.inn ⟨hc, Or.inr ⟨hq, (Or.inr (Or.inr (Or.inr (Or.inr (Or.inr (Or.inr (Or.inr (Or.inr (Or.inr (Or.inr (Or.inr (Or.inr (Or.inr (Or.inr (Or.inr (Or.inr (Or.inr (Or.inr (Or.inr (Or.inr (Or.inr (Or.inr (Or.inr (Or.inr (Or.inl u)))))))))))))))))))))))))⟩⟩)
theorem gi_VEnb {FC : Nat → Prop} {s0 : CS} {r0 : RS} {nm : Nat → Nat → Prop} {X : Als} {p q h w g : Nat} {c : List Ent} (hc : HC1 nm p q h c) (hq : (q : Int) < (r0.i 20).toInt) (u : VEnb FC s0 r0 (GU FC s0 r0 nm X) p q h w c) : GU FC s0 r0 nm X p q h w g c := Or.inl (GGX.inn ⟨hc, Or.inr ⟨hq, (Or.inr (Or.inr (Or.inr (Or.inr (Or.inr (Or.inr (Or.inr (Or.inr (Or.inr (Or.inr (Or.inr (Or.inr (Or.inr (Or.inr (Or.inr (Or.inr (Or.inr (Or.inr (Or.inr (Or.inr (Or.inr (Or.inr (Or.inr (Or.inr (Or.inr (Or.inl u))))))))))))))))))))))))))⟩⟩)
theorem gi_VEnf {FC : Nat → Prop} {s0 : CS} {r0 : RS} {nm : Nat → Nat → Prop} {X : Als} {p q h w g : Nat} {c : List Ent} (hc : HC1 nm p q h c) (hq : (q : Int) < (r0.i 20).toInt) (u : VEnf FC s0 r0 (GU FC s0 r0 nm X) p q h w c) : GU FC s0 r0 nm X p q h w g c := Or.inl (GGX.inn ⟨hc, Or.inr ⟨hq, (Or.inr (Or.inr (Or.inr (Or.inr (Or.inr (Or.inr (Or.inr (Or.inr (Or.inr (Or.inr (Or.inr (Or.inr (Or.inr (Or.inr (Or.inr (Or.inr (Or.inr (Or.inr (Or.inr (Or.inr (Or.inr (Or.inr (Or.inr (Or.inr (Or.inr (Or.inr (Or.inl u)))))))))))))))))))))))))))⟩⟩)
theorem gi_URel {FC : Nat → Prop} {s0 : CS} {r0 : RS} {nm : Nat → Nat → Prop} {X : Als} {p q h w g : Nat} {c : List Ent} (hc : HC1 nm p q h c) (hq : (q : Int) < (r0.i 20).toInt) (u : URel s0 r0 (GU FC s0 r0 nm X) p q w h c) : GU FC s0 r0 nm X p q h w g c := Or.inl (GGX.inn ⟨hc, Or.inr ⟨hq, (Or.inr (Or.inr (Or.inr (Or.inr (Or.inr (Or.inr (Or.inr (Or.inr (Or.inr (Or.inr (Or.inr (Or.inr (Or.inr (Or.inr (Or.inr (Or.inr (Or.inr (Or.inr (Or.inr (Or.inr (Or.inr (Or.inr (Or.inr (Or.inr (Or.inr (Or.inr (Or.inr (Or.inl u))))))))))))))))))))))))))))⟩⟩)
theorem gi_UAre {FC : Nat → Prop} {s0 : CS} {r0 : RS} {nm : Nat → Nat → Prop} {X : Als} {p q h w g : Nat} {c : List Ent} (hc : HC1 nm p q h c) (hq : (q : Int) < (r0.i 20).toInt) (u : UAre s0 r0 (GU FC s0 r0 nm X) p q h w c) : GU FC s0 r0 nm X p q h w g c := Or.inl (GGX.inn ⟨hc, Or.inr ⟨hq, (Or.inr (Or.inr (Or.inr (Or.inr (Or.inr (Or.inr (Or.inr (Or.inr (Or.inr (Or.inr (Or.inr (Or.inr (Or.inr (Or.inr (Or.inr (Or.inr (Or.inr (Or.inr (Or.inr (Or.inr (Or.inr (Or.inr (Or.inr (Or.inr (Or.inr (Or.inr (Or.inr (Or.inr (Or.inl u)))))))))))))))))))))))))))))⟩⟩)
theorem gi_URwp {FC : Nat → Prop} {s0 : CS} {r0 : RS} {nm : Nat → Nat → Prop} {X : Als} {p q h w g : Nat} {c : List Ent} (hc : HC1 nm p q h c) (hq : (q : Int) < (r0.i 20).toInt) (u : URwp r0 (GU FC s0 r0 nm X) p q h w c) : GU FC s0 r0 nm X p q h w g c := Or.inl (GGX.inn ⟨hc, Or.inr ⟨hq, (Or.inr (Or.inr (Or.inr (Or.inr (Or.inr (Or.inr (Or.inr (Or.inr (Or.inr (Or.inr (Or.inr (Or.inr (Or.inr (Or.inr (Or.inr (Or.inr (Or.inr (Or.inr (Or.inr (Or.inr (Or.inr (Or.inr (Or.inr (Or.inr (Or.inr (Or.inr (Or.inr (Or.inr (Or.inr (Or.inl u))))))))))))))))))))))))))))))⟩⟩)
theorem gi_UGo3 {FC : Nat → Prop} {s0 : CS} {r0 : RS} {nm : Nat → Nat → Prop} {X : Als} {p q h w g : Nat} {c : List Ent} (hc : HC1 nm p q h c) (hq : (q : Int) < (r0.i 20).toInt) (u : UGo3 s0 r0 (GU FC s0 r0 nm X) p q h w c) : GU FC s0 r0 nm X p q h w g c := Or.inl (GGX.inn ⟨hc, Or.inr ⟨hq, (Or.inr (Or.inr (Or.inr (Or.inr (Or.inr (Or.inr (Or.inr (Or.inr (Or.inr (Or.inr (Or.inr (Or.inr (Or.inr (Or.inr (Or.inr (Or.inr (Or.inr (Or.inr (Or.inr (Or.inr (Or.inr (Or.inr (Or.inr (Or.inr (Or.inr (Or.inr (Or.inr (Or.inr (Or.inr (Or.inr (Or.inl u)))))))))))))))))))))))))))))))⟩⟩)
theorem gi_URow {FC : Nat → Prop} {s0 : CS} {r0 : RS} {nm : Nat → Nat → Prop} {X : Als} {p q h w g : Nat} {c : List Ent} (hc : HC1 nm p q h c) (hq : (q : Int) < (r0.i 20).toInt) (u : URow s0 r0 (GU FC s0 r0 nm X) p q h w c) : GU FC s0 r0 nm X p q h w g c := Or.inl (GGX.inn ⟨hc, Or.inr ⟨hq, (Or.inr (Or.inr (Or.inr (Or.inr (Or.inr (Or.inr (Or.inr (Or.inr (Or.inr (Or.inr (Or.inr (Or.inr (Or.inr (Or.inr (Or.inr (Or.inr (Or.inr (Or.inr (Or.inr (Or.inr (Or.inr (Or.inr (Or.inr (Or.inr (Or.inr (Or.inr (Or.inr (Or.inr (Or.inr (Or.inr (Or.inr (Or.inl u))))))))))))))))))))))))))))))))⟩⟩)
theorem gi_URwn {FC : Nat → Prop} {s0 : CS} {r0 : RS} {nm : Nat → Nat → Prop} {X : Als} {p q h w g : Nat} {c : List Ent} (hc : HC1 nm p q h c) (hq : (q : Int) < (r0.i 20).toInt) (u : URwn s0 r0 nm (GU FC s0 r0 nm X) p q h w c) : GU FC s0 r0 nm X p q h w g c := Or.inl (GGX.inn ⟨hc, Or.inr ⟨hq, (Or.inr (Or.inr (Or.inr (Or.inr (Or.inr (Or.inr (Or.inr (Or.inr (Or.inr (Or.inr (Or.inr (Or.inr (Or.inr (Or.inr (Or.inr (Or.inr (Or.inr (Or.inr (Or.inr (Or.inr (Or.inr (Or.inr (Or.inr (Or.inr (Or.inr (Or.inr (Or.inr (Or.inr (Or.inr (Or.inr (Or.inr (Or.inr (Or.inl u)))))))))))))))))))))))))))))))))⟩⟩)
theorem gi_UCho {FC : Nat → Prop} {s0 : CS} {r0 : RS} {nm : Nat → Nat → Prop} {X : Als} {p q h w g : Nat} {c : List Ent} (hc : HC1 nm p q h c) (hq : (q : Int) < (r0.i 20).toInt) (u : UCho s0 r0 (GU FC s0 r0 nm X) p q h w c) : GU FC s0 r0 nm X p q h w g c := Or.inl (GGX.inn ⟨hc, Or.inr ⟨hq, (Or.inr (Or.inr (Or.inr (Or.inr (Or.inr (Or.inr (Or.inr (Or.inr (Or.inr (Or.inr (Or.inr (Or.inr (Or.inr (Or.inr (Or.inr (Or.inr (Or.inr (Or.inr (Or.inr (Or.inr (Or.inr (Or.inr (Or.inr (Or.inr (Or.inr (Or.inr (Or.inr (Or.inr (Or.inr (Or.inr (Or.inr (Or.inr (Or.inr (Or.inl u))))))))))))))))))))))))))))))))))⟩⟩)
theorem gi_URkp {FC : Nat → Prop} {s0 : CS} {r0 : RS} {nm : Nat → Nat → Prop} {X : Als} {p q h w g : Nat} {c : List Ent} (hc : HC1 nm p q h c) (hq : (q : Int) < (r0.i 20).toInt) (u : URkp r0 (GU FC s0 r0 nm X) p q h w g c) : GU FC s0 r0 nm X p q h w g c := Or.inl (GGX.inn ⟨hc, Or.inr ⟨hq, (Or.inr (Or.inr (Or.inr (Or.inr (Or.inr (Or.inr (Or.inr (Or.inr (Or.inr (Or.inr (Or.inr (Or.inr (Or.inr (Or.inr (Or.inr (Or.inr (Or.inr (Or.inr (Or.inr (Or.inr (Or.inr (Or.inr (Or.inr (Or.inr (Or.inr (Or.inr (Or.inr (Or.inr (Or.inr (Or.inr (Or.inr (Or.inr (Or.inr (Or.inr u))))))))))))))))))))))))))))))))))⟩⟩)
theorem gi_UEnd {FC : Nat → Prop} {s0 : CS} {r0 : RS} {nm : Nat → Nat → Prop} {X : Als} {p q h w g : Nat} {c : List Ent} (hc : HC1 nm p q h []) (u : UEnd s0 p q w r0) : GU FC s0 r0 nm X p q h w g [] := Or.inl (GGX.inn ⟨hc, Or.inl (Or.inl ⟨u, rfl⟩)⟩)
theorem gi_UCgo {FC : Nat → Prop} {s0 : CS} {r0 : RS} {nm : Nat → Nat → Prop} {X : Als} {p q h w g : Nat} {c : List Ent} (hc : HC1 nm p q h c) (u : UCgo s0 (GU FC s0 r0 nm X) p q h w c) : GU FC s0 r0 nm X p q h w g c := Or.inl (GGX.inn ⟨hc, Or.inl (Or.inr u)⟩)
end
section
/-! a formula's units, one by one -/
section
variable {FC : Nat → Prop} {s0 : CS} {r0 : RS} {nm : Nat → Nat → Prop} {X : Als} {p q h w g : Nat} {c : List Ent}
theorem NXW.of {A : Als} {g' : Nat} (z : A p q h w g' c) (n : Nat) : NXW A p q h (w + n) n g' c := ⟨w, Nat.le_refl _, z⟩
theorem JX.of {A : Als} {t x : Int32} {g' v : Nat} (ht : (cTg s0 t).toInt = (p : Int)) (hx : x.toInt = (q : Int)) (z : A p q h w g' c) (n : Nat) (l : w + n ≤ v) : JX s0 A t x h v n g' c := ⟨p, q, w, ⟨ht, hx⟩, l, z⟩
/-- what every place asks -/
def HC0 (nm : Nat → Nat → Prop) (h : Nat) (c : List Ent) : Prop := CTK nm c ∧ ops c ≤ 320 ∧ frs c ≤ 22 ∧ ∀ e ∈ c, e.h ≤ h
theorem HC0.up {h2 : Nat} (z : HC0 nm h c) (l : h ≤ h2) : HC0 nm h2 c := ⟨z.1, z.2.1, z.2.2.1, fun e he => Nat.le_trans (z.2.2.2 e he) l⟩
/-- p and q are places of both codes -/
def PQX (s0 : CS) (r0 : RS) (p q : Nat) : Prop := p < 1200 ∧ (q : Int) < (r0.i 20).toInt ∧ (r0.i 20).toInt ≤ 3000
theorem PQX.hc (z : PQX s0 r0 p q) (k : HC0 nm h c) : HC1 nm p q h c := ⟨⟨z.1, by have := z.2; omega⟩, k⟩
theorem gs_push {g' : Nat} (pq : PQX s0 r0 p q) (k : HC0 nm h c) (e1 : s0.a 15 p = 0) (e2 : r0.a 21 q = 2) (e3 : s0.a 16 p = r0.a 22 q) (hh : h < 600) (hg : g' = 0 ∨ (g' = 2 ∧ (s0.a 16 p = 0 ∨ s0.a 16 p = 1)) ∨ (g' = 4 ∧ s0.a 16 p = 1)) (z : GU FC s0 r0 nm X (p + 1) (q + 1) (h + 1) w g' c) : GU FC s0 r0 nm X p q h (w + 1) g c := gi_UPush (pq.hc k) pq.2.1 ⟨e1, e2, e3, hh, g', NXW.of z 1, hg⟩
theorem gs_load {k0 l0 : Nat} (pq : PQX s0 r0 p q) (k : HC0 nm h c) (e1 : s0.a 15 p = 1) (e2 : r0.a 21 q = 3) (e3 : (s0.a 16 p).toInt = (k0 : Int)) (e4 : (r0.a 22 q).toInt = (l0 : Int)) (hn : nm k0 l0) (hh : h < 600) (z : GU FC s0 r0 nm X (p + 1) (q + 1) (h + 1) w 0 c) : GU FC s0 r0 nm X p q h (w + 1) g c := gi_ULoad (pq.hc k) pq.2.1 ⟨e1, e2, ⟨k0, l0, e3, e4, hn⟩, hh, NXW.of z 1⟩
theorem gs_cau {e : Ent} (pq : PQX s0 r0 p q) (k : HC0 nm h c) (e1 : s0.a 15 p = 1) (e2 : r0.a 21 q = 4) (he : e ∈ c) (hk : e.k = 2) (e3 : (s0.a 16 p).toInt = (e.z : Int)) (e4 : (r0.a 22 q).toInt = (e.w : Int)) (hh : h < 600) (z : GU FC s0 r0 nm X (p + 1) (q + 1) (h + 1) w 0 c) : GU FC s0 r0 nm X p q h (w + 1) g c := gi_UCau (pq.hc k) pq.2.1 ⟨e1, e2, ⟨e, he, hk, e3, e4⟩, hh, NXW.of z 1⟩
theorem gs_neg (pq : PQX s0 r0 p q) (k : HC0 nm h c) (e1 : s0.a 15 p = 4) (e2 : r0.a 21 q = 7) (z : GU FC s0 r0 nm X (p + 1) (q + 1) (h + 1) w 0 c) : GU FC s0 r0 nm X p q (h + 1) (w + 1) g c := gi_UNeg (pq.hc (k.up (Nat.le_succ _))) pq.2.1 ⟨Or.inl ⟨e1, e2⟩, ⟨h, rfl⟩, 0, NXW.of z 1, Or.inl rfl⟩
theorem gs_not (pq : PQX s0 r0 p q) (k : HC0 nm h c) (e1 : s0.a 15 p = 5) (e2 : r0.a 21 q = 10) (z : GU FC s0 r0 nm X (p + 1) (q + 1) (h + 1) w 2 c) : GU FC s0 r0 nm X p q (h + 1) (w + 1) 2 c := gi_UNeg (pq.hc (k.up (Nat.le_succ _))) pq.2.1 ⟨Or.inr ⟨e1, e2⟩, ⟨h, rfl⟩, 2, NXW.of z 1, Or.inr ⟨rfl, rfl, e1⟩⟩
/-- an instruction of the class and the reference's for the same sign -/
def AOP (a o : Int32) : Prop := (a = 7 ∧ o = 43) ∨ (a = 8 ∧ o = 45) ∨ (a = 9 ∧ o = 42)
def COP (a o : Int32) : Prop := (a = 12 ∧ o = 60) ∨ (a = 13 ∧ o = 300) ∨ (a = 14 ∧ o = 62) ∨ (a = 15 ∧ o = 301) ∨ (a = 16 ∧ o = 302) ∨ (a = 17 ∧ o = 303)
def DOP (a o : Int32) : Prop := (a = 10 ∧ o = 47) ∨ (a = 11 ∧ o = 37)
theorem gs_ari (pq : PQX s0 r0 p q) (k : HC0 nm h c) (e1 : AOP (s0.a 15 p) (r0.a 22 q)) (e2 : r0.a 21 q = 8) (z : GU FC s0 r0 nm X (p + 1) (q + 1) (h + 1) w 0 c) : GU FC s0 r0 nm X p q (h + 1 + 1) (w + 1) g c := by
  refine gi_UAri (pq.hc (k.up (by omega))) pq.2.1 ⟨?_, h, 0, rfl, NXW.of z 1, Or.inl rfl⟩
  rcases e1 with ⟨a, b⟩ | ⟨a, b⟩ | ⟨a, b⟩
  · exact Or.inl ⟨a, e2, b⟩
  · exact Or.inr (Or.inl ⟨a, e2, b⟩)
  · exact Or.inr (Or.inr (Or.inl ⟨a, e2, b⟩))
theorem gs_rel (pq : PQX s0 r0 p q) (k : HC0 nm h c) (e1 : COP (s0.a 15 p) (r0.a 22 q)) (e2 : r0.a 21 q = 9) (z : GU FC s0 r0 nm X (p + 1) (q + 1) (h + 1) w 2 c) : GU FC s0 r0 nm X p q (h + 1 + 1) (w + 1) g c := by
  refine gi_UAri (pq.hc (k.up (by omega))) pq.2.1 ⟨?_, h, 2, rfl, NXW.of z 1, Or.inr ⟨rfl, ?_⟩⟩
  · rcases e1 with ⟨a, b⟩ | ⟨a, b⟩ | ⟨a, b⟩ | ⟨a, b⟩ | ⟨a, b⟩ | ⟨a, b⟩
    · exact Or.inr (Or.inr (Or.inr (Or.inl ⟨a, e2, b⟩)))
    · exact Or.inr (Or.inr (Or.inr (Or.inr (Or.inl ⟨a, e2, b⟩))))
    · exact Or.inr (Or.inr (Or.inr (Or.inr (Or.inr (Or.inl ⟨a, e2, b⟩)))))
    · exact Or.inr (Or.inr (Or.inr (Or.inr (Or.inr (Or.inr (Or.inl ⟨a, e2, b⟩))))))
    · exact Or.inr (Or.inr (Or.inr (Or.inr (Or.inr (Or.inr (Or.inr (Or.inl ⟨a, e2, b⟩)))))))
    · exact Or.inr (Or.inr (Or.inr (Or.inr (Or.inr (Or.inr (Or.inr (Or.inr ⟨a, e2, b⟩)))))))
  · rcases e1 with ⟨a, -⟩ | ⟨a, -⟩ | ⟨a, -⟩ | ⟨a, -⟩ | ⟨a, -⟩ | ⟨a, -⟩ <;> rw [a] <;> decide
theorem gs_div {W : Nat} (pq : PQX s0 r0 p q) (k : HC0 nm h c) (e1 : DOP (s0.a 15 p) (r0.a 22 q)) (e2 : r0.a 21 q = 8) (ty : TYC s0 r0 (GU FC s0 r0 nm X) W c) (hW : W + 1 ≤ w) (z : GU FC s0 r0 nm X (p + 1) (q + 1) (h + 1) w 0 c) : GU FC s0 r0 nm X p q (h + 1 + 1) (w + 1) g c := gi_UDiv (pq.hc (k.up (by omega))) pq.2.1 ⟨h, W, rfl, by omega, k.2.2.2, ty, ⟨e2, e1⟩, NXW.of z 1⟩
/-- && and ||: what is known already jumps over the rest -/
theorem gs_kep {p' q' g' w' : Nat} (pq : PQX s0 r0 p q) (k : HC0 nm h c) (e1 : (s0.a 15 p = 32 ∧ r0.a 21 q = 12) ∨ (s0.a 15 p = 33 ∧ r0.a 21 q = 11)) (ht : (cTg s0 (s0.a 16 p)).toInt = (p' : Int)) (hx : (r0.a 22 q).toInt = (q' : Int)) (l : w' ≤ w) (zj : GU FC s0 r0 nm X p' q' (h + 1) w' 2 c) (z : GU FC s0 r0 nm X (p + 1) (q + 1) h w 0 c) : GU FC s0 r0 nm X p q (h + 1) (w + 1) 2 c := gi_UKep (pq.hc (k.up (Nat.le_succ _))) pq.2.1 ⟨e1, h, 2, rfl, JX.of ht hx zj 1 (by omega), NXW.of z 1, Or.inr (Or.inl ⟨rfl, rfl⟩)⟩
end
end
section
/-! the class: what lays nothing leaves the code alone -/
def PET : Type := Int32 × (Nat → Int32) × (Nat → Int32) × (Nat → Int32) × Int32 × Int32 × Int32 × (Nat → Int32)
def pe (s : CS) : PET := (CS.i s 20, CS.a s 15, CS.a s 16, CS.a s 17, CS.i s 23, CS.i s 38, CS.i s 22, CS.a s 19)
def Ke {α : Type} (v : PET) (t : Option (α × CS)) : Prop := ∀ R, t = some R → pe R.2 = v
theorem ke_some {α : Type} {v : PET} {r : α × CS} (h : pe r.2 = v) : Ke v (some r) := fun R q => by
  cases q
  exact h
theorem ke_none {α : Type} {v : PET} : Ke v (none : Option (α × CS)) := fun R q => by cases q
theorem ke_ite {α : Type} {v : PET} {c : Prop} [Decidable c] {x y : Option (α × CS)} (hx : Ke v x) (hy : Ke v y) : Ke v (if c then x else y) := by
  by_cases h : c
  · rw [if_pos h]; exact hx
  · rw [if_neg h]; exact hy
theorem ke_bind {α β : Type} {v : PET} {x : Option (α × CS)} {g : α × CS → Option (β × CS)} (hx : Ke v x) (hk : ∀ p : α × CS, Ke (pe p.2) (g p)) : Ke v (x.bind g) := by
  intro R h
  cases hx' : x with
  | none => rw [hx'] at h; cases h
  | some p =>
    rw [hx'] at h
    exact (hk p R h).trans (hx p hx')
theorem ke_oc {α β : Type} {v : PET} {r : Option α} {x : Option (β × CS)} {g : α → Option (β × CS)} (hx : Ke v x) (hf : ∀ a, Ke v (g a)) : Ke v (oCase r x g) := by
  cases r with
  | none => exact hx
  | some a => exact hf a
theorem ke_le {α : Type} {v w : PET} {t : Option (α × CS)} (h : v = w) (ht : Ke v t) : Ke w t := by rw [← h]; exact ht
theorem pe_eq {s r : CS} (h : pe r = pe s) : r.i 20 = s.i 20 ∧ r.a 15 = s.a 15 ∧ r.a 16 = s.a 16 ∧ r.a 17 = s.a 17 ∧ r.i 23 = s.i 23 ∧ r.i 38 = s.i 38 ∧ r.i 22 = s.i 22 ∧ r.a 19 = s.a 19 := by
  have h1 := congrArg (fun v : PET => v.1) h
  have h2 := congrArg (fun v : PET => v.2.1) h
  have h3 := congrArg (fun v : PET => v.2.2.1) h
  have h4 := congrArg (fun v : PET => v.2.2.2.1) h
  have h5 := congrArg (fun v : PET => v.2.2.2.2.1) h
  have h6 := congrArg (fun v : PET => v.2.2.2.2.2.1) h
  have h7 := congrArg (fun v : PET => v.2.2.2.2.2.2.1) h
  have h8 := congrArg (fun v : PET => v.2.2.2.2.2.2.2) h
  exact ⟨h1, h2, h3, h4, h5, h6, h7, h8⟩
theorem keb_X0_hasCase_2 (N : Nat) (K : CS → Int32 → Int32 → Option (Int32 × CS)) (hMK : ∀ (σ : CS) (x2 : Int32) (x3 : Int32), Ke (pe σ) (K σ x2 x3)) (σ : CS) (x2 : Int32) (x3 : Int32) : Ke (pe σ) (b_X0_hasCase_2 N K σ x2 x3) := by
  unfold b_X0_hasCase_2
  exact (ke_ite (ke_some (rfl)) (ke_ite (ke_some (rfl)) (hMK σ x2 (x3 + 1))))
theorem ke_X0_hasCase_2 (N : Nat) : ∀ (n : Nat) (σ : CS) (x2 : Int32) (x3 : Int32), Ke (pe σ) (f_X0_hasCase_2 N n σ x2 x3)
  | 0, _, _, _ => ke_none
  | n+1, σ, x2, x3 => keb_X0_hasCase_2 N (f_X0_hasCase_2 N n) (fun σ x2 x3 => ke_X0_hasCase_2 N n σ x2 x3) σ x2 x3
theorem ke_X0_hasCase (N : Nat) (σ : CS) (x1 : Int32) (x2 : Int32) : Ke (pe σ) (f_X0_hasCase N σ x1 x2) := by
  unfold f_X0_hasCase
  exact (ke_X0_hasCase_2 N N σ x2 x1)
theorem ke_X9_stop (N : Nat) (σ : CS) : Ke (pe σ) (f_X9_stop N σ) := by
  unfold f_X9_stop
  exact (ke_some (rfl))
theorem ke_X1_fail (N : Nat) (σ : CS) (x1 : Int32) (x2 : Int32) : Ke (pe σ) (f_X1_fail N σ x1 x2) := by
  unfold f_X1_fail
  exact (ke_ite (ke_bind (ke_X9_stop N (CS.setI (CS.setI σ 32 x1) 33 x2)) (fun p2 => (ke_some (rfl)))) (ke_some (rfl)))
theorem ke_X1_found (N : Nat) (σ : CS) (x1 : Int32) : Ke (pe σ) (f_X1_found N σ x1) := by
  unfold f_X1_found
  exact (ke_ite (ke_some (rfl)) (ke_some (rfl)))
theorem ke_X1_misplaced (N : Nat) (σ : CS) : Ke (pe σ) (f_X1_misplaced N σ) := by
  unfold f_X1_misplaced
  exact (ke_bind (ke_X1_found N σ 6) (fun p1 => (ke_ite (ke_bind (ke_X1_fail N p1.2 2 (p1.2.i 44)) (fun p6 => (ke_some (rfl)))) (ke_bind (ke_X1_fail N p1.2 1 (p1.2.i 44)) (fun p10 => (ke_some (rfl)))))))
theorem ke_X9_byteAt_30 (N : Nat) (σ : CS) : Ke (pe σ) (f_X9_byteAt_30 N σ ) := by
  unfold f_X9_byteAt_30
  exact (ke_some (rfl))
theorem ke_X9_byteAt (N : Nat) (σ : CS) (x1 : Int32) : Ke (pe σ) (f_X9_byteAt N σ x1) := by
  unfold f_X9_byteAt
  exact (ke_ite (ke_X9_byteAt_30 N σ) (ke_ite (ke_X9_byteAt_30 N σ) (ke_ite (ke_X9_byteAt_30 N σ) (ke_ite (ke_some (rfl)) ke_none))))
theorem ke_X9_isDigit_16 (N : Nat) (σ : CS) : Ke (pe σ) (f_X9_isDigit_16 N σ ) := by
  unfold f_X9_isDigit_16
  exact (ke_some (rfl))
theorem ke_X9_isDigit (N : Nat) (σ : CS) (x0 : Int32) : Ke (pe σ) (f_X9_isDigit N σ x0) := by
  unfold f_X9_isDigit
  exact (ke_ite (ke_X9_isDigit_16 N σ) (ke_ite (ke_X9_isDigit_16 N σ) (ke_some (rfl))))
theorem ke_X9_takeNumber_67 (N : Nat) (σ : CS) : Ke (pe σ) (f_X9_takeNumber_67 N σ ) := by
  unfold f_X9_takeNumber_67
  exact (ke_ite (ke_some (rfl)) (ke_some (rfl)))
theorem keb_X9_takeNumber_7 (N : Nat) (K : CS → Int32 → Option (Unit × CS)) (hMK : ∀ (σ : CS) (x1 : Int32), Ke (pe σ) (K σ x1)) (σ : CS) (x1 : Int32) : Ke (pe σ) (b_X9_takeNumber_7 N K σ x1) := by
  unfold b_X9_takeNumber_7
  exact (ke_ite (ke_X9_takeNumber_67 N σ) (ke_bind (ke_X9_byteAt N σ (σ.i 42)) (fun p3 => (ke_bind (ke_X9_isDigit N p3.2 p3.1) (fun p7 => (ke_ite (ke_X9_takeNumber_67 N p7.2) (ke_bind (ke_X9_byteAt N p7.2 (p7.2.i 42)) (fun p12 => (hMK (CS.setI (CS.setI p12.2 45 ((((p7.2.i 45) * 10) + p12.1) - 48)) 42 ((p12.2.i 42) + 1)) (x1 + 1))))))))))
theorem ke_X9_takeNumber_7 (N : Nat) : ∀ (n : Nat) (σ : CS) (x1 : Int32), Ke (pe σ) (f_X9_takeNumber_7 N n σ x1)
  | 0, _, _ => ke_none
  | n+1, σ, x1 => keb_X9_takeNumber_7 N (f_X9_takeNumber_7 N n) (fun σ x1 => ke_X9_takeNumber_7 N n σ x1) σ x1
theorem ke_X9_takeNumber (N : Nat) (σ : CS) : Ke (pe σ) (f_X9_takeNumber N σ) := by
  unfold f_X9_takeNumber
  exact (ke_X9_takeNumber_7 N N (CS.setI σ 45 0) 0)
theorem ke_X9_isLetter_16 (N : Nat) (σ : CS) : Ke (pe σ) (f_X9_isLetter_16 N σ ) := by
  unfold f_X9_isLetter_16
  exact (ke_some (rfl))
theorem ke_X9_isLetter (N : Nat) (σ : CS) (x0 : Int32) : Ke (pe σ) (f_X9_isLetter N σ x0) := by
  unfold f_X9_isLetter
  exact (ke_ite (ke_X9_isLetter_16 N σ) (ke_ite (ke_X9_isLetter_16 N σ) (ke_some (rfl))))
theorem ke_X9_rowType_171 (N : Nat) (σ : CS) (x6 : Int64) : Ke (pe σ) (f_X9_rowType_171 N σ x6) := by
  unfold f_X9_rowType_171
  exact (ke_ite (ke_ite (ke_some (rfl)) (ke_some (rfl))) (ke_ite (ke_ite (ke_some (rfl)) (ke_ite (ke_some (rfl)) (ke_some (rfl)))) (ke_some (rfl))))
theorem ke_X9_rowType_153 (N : Nat) (σ : CS) (x2 : Int64) (x4 : Int32) (x6 : Int64) : Ke (pe σ) (f_X9_rowType_153 N σ x2 x4 x6) := by
  unfold f_X9_rowType_153
  exact (ke_ite (ke_X9_rowType_171 N (CS.setI σ 45 (((x2 : Int64).toInt32) + 10)) x6) (ke_X9_rowType_171 N (CS.setI σ 45 (((x2 : Int64).toInt32) + 0)) x6))
theorem ke_X9_rowType_129 (N : Nat) (σ : CS) (x2 : Int64) (x4 : Int32) : Ke (pe σ) (f_X9_rowType_129 N σ x2 x4) := by
  unfold f_X9_rowType_129
  exact (ke_ite (ke_X9_rowType_153 N σ x2 x4 (σ.l >>> ((16 : Int32).toInt64 &&& 63))) (ke_X9_rowType_153 N σ x2 x4 (σ.l >>> ((8 : Int32).toInt64 &&& 63))))
theorem ke_X9_rowType_117 (N : Nat) (σ : CS) (x2 : Int64) (x4 : Int32) (x5 : Int32) : Ke (pe σ) (f_X9_rowType_117 N σ x2 x4 x5) := by
  unfold f_X9_rowType_117
  exact (ke_ite (ke_ite (ke_some (rfl)) (ke_X9_rowType_129 N σ x2 x4)) (ke_X9_rowType_129 N σ x2 x4))
theorem ke_X9_rowType_114 (N : Nat) (σ : CS) (x2 : Int64) (x4 : Int32) : Ke (pe σ) (f_X9_rowType_114 N σ x2 x4) := by
  unfold f_X9_rowType_114
  exact (ke_X9_rowType_117 N σ x2 x4 0)
theorem ke_X9_rowType_73 (N : Nat) (σ : CS) (x1 : Int32) (x2 : Int64) (x4 : Int32) : Ke (pe σ) (f_X9_rowType_73 N σ x1 x2 x4) := by
  unfold f_X9_rowType_73
  exact (ke_ite (ke_ite (ke_X9_rowType_114 N σ x2 x4) (ke_ite (ke_X9_rowType_114 N σ x2 x4) (ke_ite (ke_X9_rowType_117 N σ x2 x4 1) (ke_X9_rowType_114 N σ x2 x4)))) (ke_X9_rowType_114 N σ x2 x4))
theorem ke_X9_rowType_70 (N : Nat) (σ : CS) (x1 : Int32) (x2 : Int64) : Ke (pe σ) (f_X9_rowType_70 N σ x1 x2) := by
  unfold f_X9_rowType_70
  exact (ke_X9_rowType_73 N σ x1 x2 0)
theorem keb_X9_rowType_2 (N : Nat) (K : CS → Int32 → Int32 → Option (Int32 × CS)) (hMK : ∀ (σ : CS) (x1 : Int32) (x2 : Int32), Ke (pe σ) (K σ x1 x2)) (σ : CS) (x1 : Int32) (x2 : Int32) : Ke (pe σ) (b_X9_rowType_2 N K σ x1 x2) := by
  unfold b_X9_rowType_2
  exact (ke_ite (ke_ite (ke_ite (ke_X9_rowType_70 N σ x1 ((σ.l &&& 255) - 48)) (ke_ite (ke_X9_rowType_70 N σ x1 ((σ.l &&& 255) - 48)) (ke_X9_rowType_73 N σ x1 ((σ.l &&& 255) - 48) 1))) (ke_X9_rowType_70 N σ x1 ((σ.l &&& 255) - 48))) (ke_ite (ke_ite (ke_some (rfl)) (hMK σ x1 (x2 + 1))) ke_none))
theorem ke_X9_rowType_2 (N : Nat) : ∀ (n : Nat) (σ : CS) (x1 : Int32) (x2 : Int32), Ke (pe σ) (f_X9_rowType_2 N n σ x1 x2)
  | 0, _, _, _ => ke_none
  | n+1, σ, x1, x2 => keb_X9_rowType_2 N (f_X9_rowType_2 N n) (fun σ x1 x2 => ke_X9_rowType_2 N n σ x1 x2) σ x1 x2
theorem ke_X9_rowType (N : Nat) (σ : CS) (x1 : Int32) : Ke (pe σ) (f_X9_rowType N σ x1) := by
  unfold f_X9_rowType
  exact (ke_X9_rowType_2 N N σ x1 0)
theorem ke_X9_takeRow_79 (N : Nat) (σ : CS) : Ke (pe σ) (f_X9_takeRow_79 N σ ) := by
  unfold f_X9_takeRow_79
  exact (ke_ite (ke_bind (ke_X9_rowType N σ ((σ.i 42) - (σ.i 44))) (fun p3 => (ke_some (rfl)))) (ke_some (rfl)))
theorem keb_X9_takeRow_7 (N : Nat) (K : CS → Int32 → Option (Unit × CS)) (hMK : ∀ (σ : CS) (x1 : Int32), Ke (pe σ) (K σ x1)) (σ : CS) (x1 : Int32) : Ke (pe σ) (b_X9_takeRow_7 N K σ x1) := by
  unfold b_X9_takeRow_7
  exact (ke_ite (ke_X9_takeRow_79 N σ) (ke_bind (ke_X9_byteAt N σ (σ.i 42)) (fun p7 => (ke_bind (ke_X9_isDigit N p7.2 p7.1) (fun p11 => (ke_ite (ke_bind (ke_X9_byteAt N p11.2 (p11.2.i 42)) (fun p20 => (ke_bind (ke_X9_isLetter N p20.2 p20.1) (fun p24 => (ke_ite (ke_X9_takeRow_79 N p24.2) (ke_bind (ke_X9_byteAt N p24.2 (p24.2.i 42)) (fun p29 => (hMK (CS.setI (CS.setL p29.2 ((p24.2.l <<< ((8 : Int32).toInt64 &&& 63)) ||| (p29.1 : Int32).toInt64)) 42 ((p29.2.i 42) + 1)) (x1 + 1))))))))) (ke_bind (ke_X9_byteAt N p11.2 (p11.2.i 42)) (fun p16 => (hMK (CS.setI (CS.setL p16.2 ((p11.2.l <<< ((8 : Int32).toInt64 &&& 63)) ||| (p16.1 : Int32).toInt64)) 42 ((p16.2.i 42) + 1)) (x1 + 1))))))))))
theorem ke_X9_takeRow_7 (N : Nat) : ∀ (n : Nat) (σ : CS) (x1 : Int32), Ke (pe σ) (f_X9_takeRow_7 N n σ x1)
  | 0, _, _ => ke_none
  | n+1, σ, x1 => keb_X9_takeRow_7 N (f_X9_takeRow_7 N n) (fun σ x1 => ke_X9_takeRow_7 N n σ x1) σ x1
theorem ke_X9_takeRow (N : Nat) (σ : CS) : Ke (pe σ) (f_X9_takeRow N σ) := by
  unfold f_X9_takeRow
  exact (ke_X9_takeRow_7 N N (CS.setL σ 0) 0)
theorem ke_X9_longSign_73 (N : Nat) (σ : CS) (x0 : Int32) (x1 : Int32) : Ke (pe σ) (f_X9_longSign_73 N σ x0 x1) := by
  unfold f_X9_longSign_73
  exact (ke_ite (ke_ite (ke_some (rfl)) (ke_ite (ke_some (rfl)) (ke_ite (ke_some (rfl)) (ke_some (rfl))))) (ke_some (rfl)))
theorem ke_X9_longSign (N : Nat) (σ : CS) (x0 : Int32) (x1 : Int32) : Ke (pe σ) (f_X9_longSign N σ x0 x1) := by
  unfold f_X9_longSign
  exact (ke_ite (ke_ite (ke_some (rfl)) (ke_ite (ke_some (rfl)) (ke_ite (ke_some (rfl)) (ke_ite (ke_some (rfl)) (ke_some (rfl)))))) (ke_ite (ke_ite (ke_some (rfl)) (ke_X9_longSign_73 N σ x0 x1)) (ke_X9_longSign_73 N σ x0 x1)))
theorem ke_X9_isSign (N : Nat) (σ : CS) (x0 : Int32) : Ke (pe σ) (f_X9_isSign N σ x0) := by
  unfold f_X9_isSign
  exact (ke_ite (ke_some (rfl)) (ke_ite (ke_some (rfl)) (ke_ite (ke_some (rfl)) (ke_ite (ke_some (rfl)) (ke_ite (ke_some (rfl)) (ke_ite (ke_some (rfl)) (ke_ite (ke_some (rfl)) (ke_ite (ke_some (rfl)) (ke_ite (ke_some (rfl)) (ke_ite (ke_some (rfl)) (ke_ite (ke_some (rfl)) (ke_ite (ke_some (rfl)) (ke_ite (ke_some (rfl)) (ke_ite (ke_some (rfl)) (ke_ite (ke_some (rfl)) (ke_ite (ke_some (rfl)) (ke_ite (ke_some (rfl)) (ke_ite (ke_some (rfl)) (ke_ite (ke_some (rfl)) (ke_some (rfl)))))))))))))))))))))
theorem ke_X9_takeSign (N : Nat) (σ : CS) : Ke (pe σ) (f_X9_takeSign N σ) := by
  unfold f_X9_takeSign
  exact (ke_bind (ke_X9_byteAt N σ (σ.i 42)) (fun p1 => (ke_bind (ke_X9_byteAt N p1.2 ((p1.2.i 42) + 1)) (fun p5 => (ke_bind (ke_X9_longSign N p5.2 p1.1 p5.1) (fun p9 => (ke_ite (ke_bind (ke_X9_isSign N (CS.setI (CS.setI p9.2 43 p9.1) 42 ((p9.2.i 42) + 1)) p1.1) (fun p14 => (ke_ite (ke_some (rfl)) (ke_some (rfl))))) (ke_some (rfl)))))))))
theorem ke_X9_advance_51 (N : Nat) (σ : CS) : Ke (pe σ) (f_X9_advance_51 N σ ) := by
  unfold f_X9_advance_51
  exact (ke_ite (ke_bind (ke_X9_byteAt N (CS.setI σ 44 (σ.i 42)) (σ.i 42)) (fun p3 => (ke_bind (ke_X9_isDigit N p3.2 p3.1) (fun p7 => (ke_ite (ke_bind (ke_X9_byteAt N p7.2 (p7.2.i 42)) (fun p12 => (ke_bind (ke_X9_isLetter N p12.2 p12.1) (fun p16 => (ke_ite (ke_bind (ke_X9_takeSign N p16.2) (fun p21 => (ke_some (rfl)))) (ke_bind (ke_X9_takeRow N p16.2) (fun p25 => (ke_some (rfl))))))))) (ke_bind (ke_X9_takeNumber N p7.2) (fun p29 => (ke_some (rfl))))))))) (ke_some (rfl)))
theorem keb_X9_advance_2 (N : Nat) (K : CS → Int32 → Option (Unit × CS)) (hMK : ∀ (σ : CS) (x1 : Int32), Ke (pe σ) (K σ x1)) (σ : CS) (x1 : Int32) : Ke (pe σ) (b_X9_advance_2 N K σ x1) := by
  unfold b_X9_advance_2
  exact (ke_ite (ke_X9_advance_51 N σ) (ke_bind (ke_X9_byteAt N σ (σ.i 42)) (fun p33 => (ke_ite (hMK (CS.setI p33.2 42 ((p33.2.i 42) + 1)) (x1 + 1)) (ke_bind (ke_X9_byteAt N p33.2 (p33.2.i 42)) (fun p38 => (ke_ite (hMK (CS.setI p38.2 42 ((p38.2.i 42) + 1)) (x1 + 1)) (ke_X9_advance_51 N p38.2))))))))
theorem ke_X9_advance_2 (N : Nat) : ∀ (n : Nat) (σ : CS) (x1 : Int32), Ke (pe σ) (f_X9_advance_2 N n σ x1)
  | 0, _, _ => ke_none
  | n+1, σ, x1 => keb_X9_advance_2 N (f_X9_advance_2 N n) (fun σ x1 => ke_X9_advance_2 N n σ x1) σ x1
theorem ke_X9_advance (N : Nat) (σ : CS) : Ke (pe σ) (f_X9_advance N σ) := by
  unfold f_X9_advance
  exact (ke_X9_advance_2 N N σ 0)
theorem ke_X1_skip_17 (N : Nat) (σ : CS) (x2 : Int32) : Ke (pe σ) (f_X1_skip_17 N σ x2) := by
  unfold f_X1_skip_17
  exact (ke_ite (ke_some (rfl)) ke_none)
theorem ke_X1_skip (N : Nat) (σ : CS) (x1 : Int32) : Ke (pe σ) (f_X1_skip N σ x1) := by
  unfold f_X1_skip
  exact (ke_bind (ke_X1_found N σ x1) (fun p1 => (ke_ite (ke_X1_skip_17 N p1.2 p1.1) (ke_bind (ke_X9_advance N p1.2) (fun p7 => (ke_X1_skip_17 N p7.2 p1.1))))))
theorem ke_X1_expect (N : Nat) (σ : CS) (x1 : Int32) : Ke (pe σ) (f_X1_expect N σ x1) := by
  unfold f_X1_expect
  exact (ke_bind (ke_X1_found N σ x1) (fun p1 => (ke_ite (ke_bind (ke_X1_misplaced N p1.2) (fun p6 => (ke_some (rfl)))) (ke_bind (ke_X9_advance N p1.2) (fun p10 => (ke_some (rfl)))))))
theorem ke_X1_open (N : Nat) (σ : CS) (x1 : Int32) : Ke (pe σ) (f_X1_open N σ x1) := by
  unfold f_X1_open
  exact (ke_bind (ke_X1_found N σ x1) (fun p1 => (ke_ite (ke_bind (ke_X1_misplaced N p1.2) (fun p15 => (ke_some (rfl)))) (ke_ite (ke_bind (ke_X9_advance N (CS.setI p1.2 34 ((p1.2.i 34) + 1))) (fun p7 => (ke_some (rfl)))) (ke_bind (ke_X1_fail N p1.2 6 (p1.2.i 44)) (fun p11 => (ke_some (rfl))))))))
theorem ke_X1_close_22 (N : Nat) (σ : CS) : Ke (pe σ) (f_X1_close_22 N σ ) := by
  unfold f_X1_close_22
  exact (ke_some (rfl))
theorem ke_X1_close (N : Nat) (σ : CS) (x1 : Int32) : Ke (pe σ) (f_X1_close N σ x1) := by
  unfold f_X1_close
  exact (ke_bind (ke_X1_found N σ x1) (fun p1 => (ke_ite (ke_bind (ke_X1_misplaced N p1.2) (fun p6 => (ke_X1_close_22 N p6.2))) (ke_bind (ke_X9_advance N p1.2) (fun p10 => (ke_X1_close_22 N p10.2))))))
theorem ke_X4_find_38 (N : Nat) (σ : CS) : Ke (pe σ) (f_X4_find_38 N σ ) := by
  unfold f_X4_find_38
  exact (ke_some (rfl))
theorem keb_X4_find_2 (N : Nat) (K : CS → Int64 → Int32 → Option (Int32 × CS)) (hMK : ∀ (σ : CS) (x1 : Int64) (x3 : Int32), Ke (pe σ) (K σ x1 x3)) (σ : CS) (x1 : Int64) (x3 : Int32) : Ke (pe σ) (b_X4_find_2 N K σ x1 x3) := by
  unfold b_X4_find_2
  exact (ke_ite (ke_X4_find_38 N σ) (ke_ite (ke_X4_find_38 N σ) (ke_ite (ke_ite (ke_some (rfl)) (hMK σ x1 (x3 + 1))) ke_none)))
theorem ke_X4_find_2 (N : Nat) : ∀ (n : Nat) (σ : CS) (x1 : Int64) (x3 : Int32), Ke (pe σ) (f_X4_find_2 N n σ x1 x3)
  | 0, _, _, _ => ke_none
  | n+1, σ, x1, x3 => keb_X4_find_2 N (f_X4_find_2 N n) (fun σ x1 x3 => ke_X4_find_2 N n σ x1 x3) σ x1 x3
theorem ke_X4_find (N : Nat) (σ : CS) (x1 : Int64) : Ke (pe σ) (f_X4_find N σ x1) := by
  unfold f_X4_find
  exact (ke_X4_find_2 N N σ x1 0)
theorem ke_X4_cellOf (N : Nat) (σ : CS) (x1 : Int32) : Ke (pe σ) (f_X4_cellOf N σ x1) := by
  unfold f_X4_cellOf
  exact (ke_some (rfl))
theorem ke_X5_init (N : Nat) (σ : CS) (x0 : Nat) : Ke (pe σ) (f_X5_init N σ x0) := by
  unfold f_X5_init
  exact (ke_some (rfl))
theorem ke_X6_push_48 (N : Nat) (σ : CS) (x1 : Int32) (x2 : Int32) (x3 : Int32) (x4 : Int32) (x5 : Nat) : Ke (pe σ) (f_X6_push_48 N σ x1 x2 x3 x4 x5) := by
  unfold f_X6_push_48
  exact (ke_ite (ke_some (rfl)) ke_none)
theorem ke_X6_push (N : Nat) (σ : CS) (x1 : Int32) (x2 : Int32) (x3 : Int32) : Ke (pe σ) (f_X6_push N σ x1 x2 x3) := by
  unfold f_X6_push
  exact (ke_ite (ke_oc (ke_le (rfl) (ke_bind (ke_X5_init N (CS.new σ 0) (CS.hs σ)) (fun p5 => (ke_ite (ke_ite (ke_X6_push_48 N (CS.setR p5.2 51 (((if (399 : Int32) < (σ.i 53) then (399 : Int32) else (σ.i 53)) : Int32).toNatClampNeg) (some (CS.hs σ))) x1 x2 x3 (if (399 : Int32) < (σ.i 53) then (399 : Int32) else (σ.i 53)) (CS.hs σ)) ke_none) ke_none)))) (fun a3 => (ke_X6_push_48 N σ x1 x2 x3 (if (399 : Int32) < (σ.i 53) then (399 : Int32) else (σ.i 53)) a3))) ke_none)
theorem ke_X6_row_30 (N : Nat) (σ : CS) : Ke (pe σ) (f_X6_row_30 N σ ) := by
  unfold f_X6_row_30
  exact (ke_some (rfl))
theorem ke_X6_row (N : Nat) (σ : CS) (x1 : Int32) : Ke (pe σ) (f_X6_row N σ x1) := by
  unfold f_X6_row
  exact (ke_ite (ke_X6_row_30 N σ) (ke_ite (ke_X6_row_30 N σ) (ke_ite (ke_X6_row_30 N σ) (ke_ite (ke_oc (ke_some (rfl)) (fun a6 => (ke_some (rfl)))) ke_none))))
theorem ke_X5_isLoop_40 (N : Nat) (σ : CS) : Ke (pe σ) (f_X5_isLoop_40 N σ ) := by
  unfold f_X5_isLoop_40
  exact (ke_some (rfl))
theorem ke_X5_isLoop (N : Nat) (σ : CS) (x0 : Nat) : Ke (pe σ) (f_X5_isLoop N σ x0) := by
  unfold f_X5_isLoop
  exact (ke_ite (ke_ite (ke_X5_isLoop_40 N σ) (ke_ite (ke_X5_isLoop_40 N σ) (ke_ite (ke_X5_isLoop_40 N σ) (ke_ite (ke_X5_isLoop_40 N σ) (ke_some (rfl)))))) ke_none)
theorem ke_X5_hasOneBody_37 (N : Nat) (σ : CS) : Ke (pe σ) (f_X5_hasOneBody_37 N σ ) := by
  unfold f_X5_hasOneBody_37
  exact (ke_some (rfl))
theorem ke_X5_hasOneBody (N : Nat) (σ : CS) (x0 : Nat) : Ke (pe σ) (f_X5_hasOneBody N σ x0) := by
  unfold f_X5_hasOneBody
  exact (ke_ite (ke_bind (ke_X5_isLoop N σ x0) (fun p3 => (ke_ite (ke_ite (ke_ite (ke_X5_hasOneBody_37 N p3.2) (ke_ite (ke_X5_hasOneBody_37 N p3.2) (ke_ite (ke_X5_hasOneBody_37 N p3.2) (ke_some (rfl))))) ke_none) (ke_X5_hasOneBody_37 N p3.2)))) ke_none)
theorem ke_X6_pop (N : Nat) (σ : CS) : Ke (pe σ) (f_X6_pop N σ) := by
  unfold f_X6_pop
  exact (ke_some (rfl))
theorem ke_X6_jumpTo (N : Nat) (σ : CS) (x0 : Nat) (x1 : Int32) : Ke (pe σ) (f_X6_jumpTo N σ x0 x1) := by
  unfold f_X6_jumpTo
  exact (ke_ite (ke_ite (ke_some (rfl)) (ke_some (rfl))) ke_none)
theorem keb_X6_isGoneTo_5 (N : Nat) (K : CS → Nat → Int32 → Int32 → Option (Int32 × CS)) (hMK : ∀ (σ : CS) (x1 : Nat) (x2 : Int32) (x3 : Int32), Ke (pe σ) (K σ x1 x2 x3)) (σ : CS) (x1 : Nat) (x2 : Int32) (x3 : Int32) : Ke (pe σ) (b_X6_isGoneTo_5 N K σ x1 x2 x3) := by
  unfold b_X6_isGoneTo_5
  exact (ke_ite (ke_some (rfl)) (ke_bind (ke_X6_jumpTo N σ x1 x2) (fun p4 => (ke_ite (ke_some (rfl)) (hMK p4.2 x1 x2 (x3 + 1))))))
theorem ke_X6_isGoneTo_5 (N : Nat) : ∀ (n : Nat) (σ : CS) (x1 : Nat) (x2 : Int32) (x3 : Int32), Ke (pe σ) (f_X6_isGoneTo_5 N n σ x1 x2 x3)
  | 0, _, _, _, _ => ke_none
  | n+1, σ, x1, x2, x3 => keb_X6_isGoneTo_5 N (f_X6_isGoneTo_5 N n) (fun σ x1 x2 x3 => ke_X6_isGoneTo_5 N n σ x1 x2 x3) σ x1 x2 x3
theorem ke_X6_isGoneTo (N : Nat) (σ : CS) (x1 : Nat) (x2 : Int32) : Ke (pe σ) (f_X6_isGoneTo N σ x1 x2) := by
  unfold f_X6_isGoneTo
  exact (ke_ite (ke_X6_isGoneTo_5 N N σ x1 x2 (CS.o σ x1 14)) ke_none)
theorem ke_X7_notReached (N : Nat) (σ : CS) (x1 : Int32) : Ke (pe σ) (f_X7_notReached N σ x1) := by
  unfold f_X7_notReached
  exact (ke_ite (ke_some (rfl)) (ke_some (rfl)))
theorem ke_X4_isCaught (N : Nat) (σ : CS) (x1 : Int32) : Ke (pe σ) (f_X4_isCaught N σ x1) := by
  unfold f_X4_isCaught
  exact (ke_ite (ke_some (rfl)) (ke_some (rfl)))
theorem keb_X6_labelled_7 (N : Nat) (K : CS → Int64 → Int32 → Option (Int32 × CS)) (hMK : ∀ (σ : CS) (x1 : Int64) (x3 : Int32), Ke (pe σ) (K σ x1 x3)) (σ : CS) (x1 : Int64) (x3 : Int32) : Ke (pe σ) (b_X6_labelled_7 N K σ x1 x3) := by
  unfold b_X6_labelled_7
  exact (ke_ite (ke_some (rfl)) (ke_bind (ke_X6_row N σ x3) (fun p2 => (ke_oc (hMK p2.2 x1 (x3 + (-1))) (fun a7 => (ke_ite (ke_ite (ke_ite (ke_some (rfl)) (hMK p2.2 x1 (x3 + (-1)))) (hMK p2.2 x1 (x3 + (-1)))) ke_none))))))
theorem ke_X6_labelled_7 (N : Nat) : ∀ (n : Nat) (σ : CS) (x1 : Int64) (x3 : Int32), Ke (pe σ) (f_X6_labelled_7 N n σ x1 x3)
  | 0, _, _, _ => ke_none
  | n+1, σ, x1, x3 => keb_X6_labelled_7 N (f_X6_labelled_7 N n) (fun σ x1 x3 => ke_X6_labelled_7 N n σ x1 x3) σ x1 x3
theorem ke_X6_labelled (N : Nat) (σ : CS) (x1 : Int64) : Ke (pe σ) (f_X6_labelled N σ x1) := by
  unfold f_X6_labelled
  exact (ke_X6_labelled_7 N N σ x1 ((σ.i 53) - 1))
theorem ke_X7_newName_56 (N : Nat) (σ : CS) (x1 : Int64) : Ke (pe σ) (f_X7_newName_56 N σ x1) := by
  unfold f_X7_newName_56
  exact (ke_some (rfl))
theorem ke_X7_newName (N : Nat) (σ : CS) : Ke (pe σ) (f_X7_newName N σ) := by
  unfold f_X7_newName
  exact (ke_bind (ke_X1_found N σ 2) (fun p1 => (ke_ite (ke_bind (ke_X1_misplaced N p1.2) (fun p19 => (ke_X7_newName_56 N p19.2 σ.l))) (ke_bind (ke_X4_find N p1.2 σ.l) (fun p6 => (ke_ite (ke_bind (ke_X9_advance N p6.2) (fun p11 => (ke_X7_newName_56 N p11.2 σ.l))) (ke_bind (ke_X1_fail N p6.2 4 (p6.2.i 44)) (fun p15 => (ke_X7_newName_56 N p15.2 σ.l)))))))))
theorem ke_X4_add (N : Nat) (σ : CS) (x1 : Int64) (x3 : Int32) (x4 : Int32) : Ke (pe σ) (f_X4_add N σ x1 x3 x4) := by
  unfold f_X4_add
  exact (ke_ite (ke_some (rfl)) (ke_ite (ke_some (rfl)) ke_none))
theorem ke_X6_loopBehind_47 (N : Nat) (σ : CS) : Ke (pe σ) (f_X6_loopBehind_47 N σ ) := by
  unfold f_X6_loopBehind_47
  exact (ke_some (rfl))
theorem ke_X6_loopBehind_32 (N : Nat) (σ : CS) (x2 : Int32) (x3 : Option Nat) : Ke (pe σ) (f_X6_loopBehind_32 N σ x2 x3) := by
  unfold f_X6_loopBehind_32
  exact (ke_oc (ke_X6_loopBehind_47 N σ) (fun a9 => (ke_ite (ke_bind (ke_X5_isLoop N σ a9) (fun p12 => (ke_ite (ke_X6_loopBehind_47 N p12.2) (ke_some (rfl))))) ke_none)))
theorem keb_X6_loopBehind_4 (N : Nat) (K : CS → Int32 → Option (Int32 × CS)) (hMK : ∀ (σ : CS) (x2 : Int32), Ke (pe σ) (K σ x2)) (σ : CS) (x2 : Int32) : Ke (pe σ) (b_X6_loopBehind_4 N K σ x2) := by
  unfold b_X6_loopBehind_4
  exact (ke_ite (ke_some (rfl)) (ke_bind (ke_X6_row N σ x2) (fun p2 => (ke_oc (ke_X6_loopBehind_32 N p2.2 x2 none) (fun a7 => (ke_ite (ke_ite (hMK p2.2 (x2 + 1)) (ke_X6_loopBehind_32 N p2.2 x2 (some a7))) ke_none))))))
theorem ke_X6_loopBehind_4 (N : Nat) : ∀ (n : Nat) (σ : CS) (x2 : Int32), Ke (pe σ) (f_X6_loopBehind_4 N n σ x2)
  | 0, _, _ => ke_none
  | n+1, σ, x2 => keb_X6_loopBehind_4 N (f_X6_loopBehind_4 N n) (fun σ x2 => ke_X6_loopBehind_4 N n σ x2) σ x2
theorem ke_X6_loopBehind (N : Nat) (σ : CS) (x1 : Int32) : Ke (pe σ) (f_X6_loopBehind N σ x1) := by
  unfold f_X6_loopBehind
  exact (ke_X6_loopBehind_4 N N σ (x1 + 1))
theorem ke_X7_labelTarget_63 (N : Nat) (σ : CS) (x2 : Int32) : Ke (pe σ) (f_X7_labelTarget_63 N σ x2) := by
  unfold f_X7_labelTarget_63
  exact (ke_bind (ke_X9_advance N σ) (fun p7 => (ke_some (rfl))))
theorem ke_X7_labelTarget (N : Nat) (σ : CS) (x1 : Int32) : Ke (pe σ) (f_X7_labelTarget N σ x1) := by
  unfold f_X7_labelTarget
  exact (ke_bind (ke_X6_labelled N σ σ.l) (fun p1 => (ke_ite (ke_ite (ke_X7_labelTarget_63 N p1.2 p1.1) (ke_bind (ke_X6_loopBehind N p1.2 p1.1) (fun p11 => (ke_ite (ke_X7_labelTarget_63 N p11.2 p11.1) (ke_bind (ke_X1_fail N p11.2 5 (p11.2.i 44)) (fun p16 => (ke_X7_labelTarget_63 N p16.2 p11.1))))))) (ke_bind (ke_X1_fail N p1.2 3 (p1.2.i 44)) (fun p20 => (ke_X7_labelTarget_63 N p20.2 p1.1))))))
theorem ke_X6_nearest_46 (N : Nat) (σ : CS) (x2 : Int32) : Ke (pe σ) (f_X6_nearest_46 N σ x2) := by
  unfold f_X6_nearest_46
  exact (ke_some (rfl))
theorem keb_X6_nearest_7 (N : Nat) (K : CS → Int32 → Int32 → Option (Int32 × CS)) (hMK : ∀ (σ : CS) (x1 : Int32) (x2 : Int32), Ke (pe σ) (K σ x1 x2)) (σ : CS) (x1 : Int32) (x2 : Int32) : Ke (pe σ) (b_X6_nearest_7 N K σ x1 x2) := by
  unfold b_X6_nearest_7
  exact (ke_ite (ke_some (rfl)) (ke_bind (ke_X6_row N σ x2) (fun p2 => (ke_oc (hMK p2.2 x1 (x2 + (-1))) (fun a7 => (ke_ite (ke_bind (ke_X5_isLoop N p2.2 a7) (fun p10 => (ke_ite (ke_ite (ke_ite (ke_ite (ke_X6_nearest_46 N p10.2 x2) (hMK p10.2 x1 (x2 + (-1)))) ke_none) (hMK p10.2 x1 (x2 + (-1)))) (ke_X6_nearest_46 N p10.2 x2)))) ke_none))))))
theorem ke_X6_nearest_7 (N : Nat) : ∀ (n : Nat) (σ : CS) (x1 : Int32) (x2 : Int32), Ke (pe σ) (f_X6_nearest_7 N n σ x1 x2)
  | 0, _, _, _ => ke_none
  | n+1, σ, x1, x2 => keb_X6_nearest_7 N (f_X6_nearest_7 N n) (fun σ x1 x2 => ke_X6_nearest_7 N n σ x1 x2) σ x1 x2
theorem ke_X6_nearest (N : Nat) (σ : CS) (x1 : Int32) : Ke (pe σ) (f_X6_nearest N σ x1) := by
  unfold f_X6_nearest
  exact (ke_X6_nearest_7 N N σ x1 ((σ.i 53) - 1))
theorem ke_X6_addJump (N : Nat) (σ : CS) (x1 : Nat) (x2 : Int32) : Ke (pe σ) (f_X6_addJump N σ x1 x2) := by
  unfold f_X6_addJump
  exact (ke_bind (ke_X6_jumpTo N σ x1 x2) (fun p1 => (ke_some (rfl))))
theorem ke_X7_jump_129 (N : Nat) (σ : CS) : Ke (pe σ) (f_X7_jump_129 N σ ) := by
  unfold f_X7_jump_129
  exact (ke_some (rfl))
theorem ke_X10_isKind_16 (N : Nat) (σ : CS) : Ke (pe σ) (f_X10_isKind_16 N σ ) := by
  unfold f_X10_isKind_16
  exact (ke_some (rfl))
theorem ke_X10_isKind (N : Nat) (σ : CS) (x1 : Int32) : Ke (pe σ) (f_X10_isKind N σ x1) := by
  unfold f_X10_isKind
  exact (ke_ite (ke_X10_isKind_16 N σ) (ke_ite (ke_X10_isKind_16 N σ) (ke_some (rfl))))
theorem ke_X4_frameOf (N : Nat) (σ : CS) (x1 : Int32) : Ke (pe σ) (f_X4_frameOf N σ x1) := by
  unfold f_X4_frameOf
  exact (ke_some (rfl))
theorem ke_X7_pushLoop (N : Nat) (σ : CS) (x1 : Int32) (x2 : Int32) (x3 : Int32) : Ke (pe σ) (f_X7_pushLoop N σ x1 x2 x3) := by
  unfold f_X7_pushLoop
  exact (ke_bind (ke_X6_push N σ x1 (σ.i 38) (σ.i 50)) (fun p1 => (ke_oc ke_none (fun a6 => (ke_ite (ke_some (rfl)) ke_none)))))
theorem ke_X7_beginTry_132 (N : Nat) (σ : CS) : Ke (pe σ) (f_X7_beginTry_132 N σ ) := by
  unfold f_X7_beginTry_132
  exact (ke_bind (ke_X1_open N σ 123) (fun p40 => (ke_some (rfl))))
theorem ke_X10_isUnder_38 (N : Nat) (σ : CS) : Ke (pe σ) (f_X10_isUnder_38 N σ ) := by
  unfold f_X10_isUnder_38
  exact (ke_some (rfl))
theorem keb_X10_isUnder_5 (N : Nat) (K : CS → Int32 → Int32 → Int32 → Option (Int32 × CS)) (hMK : ∀ (σ : CS) (x2 : Int32) (x3 : Int32) (x4 : Int32), Ke (pe σ) (K σ x2 x3 x4)) (σ : CS) (x2 : Int32) (x3 : Int32) (x4 : Int32) : Ke (pe σ) (b_X10_isUnder_5 N K σ x2 x3 x4) := by
  unfold b_X10_isUnder_5
  exact (ke_ite (ke_X10_isUnder_38 N σ) (ke_ite (ke_X10_isUnder_38 N σ) (ke_ite (ke_some (rfl)) (hMK σ x2 (gAt (σ.a 9) 12 x3) (x4 + 1)))))
theorem ke_X10_isUnder_5 (N : Nat) : ∀ (n : Nat) (σ : CS) (x2 : Int32) (x3 : Int32) (x4 : Int32), Ke (pe σ) (f_X10_isUnder_5 N n σ x2 x3 x4)
  | 0, _, _, _, _ => ke_none
  | n+1, σ, x2, x3, x4 => keb_X10_isUnder_5 N (f_X10_isUnder_5 N n) (fun σ x2 x3 x4 => ke_X10_isUnder_5 N n σ x2 x3 x4) σ x2 x3 x4
theorem ke_X10_isUnder (N : Nat) (σ : CS) (x1 : Int32) (x2 : Int32) : Ke (pe σ) (f_X10_isUnder N σ x1 x2) := by
  unfold f_X10_isUnder
  exact (ke_X10_isUnder_5 N N σ x2 x1 0)
theorem ke_X7_endSwitch_99 (N : Nat) (σ : CS) : Ke (pe σ) (f_X7_endSwitch_99 N σ ) := by
  unfold f_X7_endSwitch_99
  exact (ke_bind (ke_X6_pop N σ) (fun p23 => (ke_some (rfl))))
theorem ke_X7_endGuarded_66 (N : Nat) (σ : CS) (x1 : Nat) : Ke (pe σ) (f_X7_endGuarded_66 N σ x1) := by
  unfold f_X7_endGuarded_66
  exact (ke_ite (ke_some (rfl)) ke_none)
theorem keb_X6_loseJumps_2 (N : Nat) (K : CS → Int32 → Int32 → Option (Unit × CS)) (hMK : ∀ (σ : CS) (x2 : Int32) (x3 : Int32), Ke (pe σ) (K σ x2 x3)) (σ : CS) (x2 : Int32) (x3 : Int32) : Ke (pe σ) (b_X6_loseJumps_2 N K σ x2 x3) := by
  unfold b_X6_loseJumps_2
  exact (ke_ite (ke_some (rfl)) (hMK (CS.putA σ 52 (gPut (σ.a 52) 160 x3 0)) x2 (x3 + 1)))
theorem ke_X6_loseJumps_2 (N : Nat) : ∀ (n : Nat) (σ : CS) (x2 : Int32) (x3 : Int32), Ke (pe σ) (f_X6_loseJumps_2 N n σ x2 x3)
  | 0, _, _, _ => ke_none
  | n+1, σ, x2, x3 => keb_X6_loseJumps_2 N (f_X6_loseJumps_2 N n) (fun σ x2 x3 => ke_X6_loseJumps_2 N n σ x2 x3) σ x2 x3
theorem ke_X6_loseJumps (N : Nat) (σ : CS) (x1 : Int32) (x2 : Int32) : Ke (pe σ) (f_X6_loseJumps N σ x1 x2) := by
  unfold f_X6_loseJumps
  exact (ke_X6_loseJumps_2 N N σ x2 x1)
theorem ke_X1_comparing (N : Nat) (σ : CS) (x0 : Int32) : Ke (pe σ) (f_X1_comparing N σ x0) := by
  unfold f_X1_comparing
  exact (ke_ite (ke_some (rfl)) (ke_ite (ke_some (rfl)) (ke_ite (ke_some (rfl)) (ke_ite (ke_some (rfl)) (ke_ite (ke_some (rfl)) (ke_ite (ke_some (rfl)) (ke_some (rfl))))))))
theorem ke_X2_init (N : Nat) (σ : CS) (x0 : Nat) : Ke (pe σ) (f_X2_init N σ x0) := by
  unfold f_X2_init
  exact (ke_some (rfl))
theorem ke_X6_clear (N : Nat) (σ : CS) : Ke (pe σ) (f_X6_clear N σ) := by
  unfold f_X6_clear
  exact (ke_some (rfl))
theorem ke_X9_start (N : Nat) (σ : CS) (x1 : Int32) : Ke (pe σ) (f_X9_start N σ x1) := by
  unfold f_X9_start
  exact (ke_bind (ke_X9_advance N (CS.setI (CS.setI σ 41 x1) 42 0)) (fun p1 => (ke_some (rfl))))
theorem ke_X10_isFull (N : Nat) (σ : CS) : Ke (pe σ) (f_X10_isFull N σ) := by
  unfold f_X10_isFull
  exact (ke_ite (ke_some (rfl)) (ke_some (rfl)))
theorem ke_X10_addKind (N : Nat) (σ : CS) (x1 : Int32) : Ke (pe σ) (f_X10_addKind N σ x1) := by
  unfold f_X10_addKind
  exact (ke_some (rfl))
theorem ke_X10_tellResource (N : Nat) (σ : CS) (x1 : Int32) (x2 : Int32) (x3 : Int32) (x4 : Int32) : Ke (pe σ) (f_X10_tellResource N σ x1 x2 x3 x4) := by
  unfold f_X10_tellResource
  exact (ke_some (rfl))
end
