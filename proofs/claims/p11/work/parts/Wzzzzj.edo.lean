/-! both readers: a do's end -/
theorem fl_do {N : Nat} {a : Nat} {P : CS} {x2 y : Int32} {R : Unit × CS} (eD : (if x2 = 0 then (f_X6_isGoneTo N P a 0).bind fun p35 => (if p35.1 = 0 then some ((), CS.setI p35.2 36 0) else some ((), CS.setI p35.2 36 1)) else (if y = 0 then some ((), CS.setI P 36 1) else (f_X6_isGoneTo N P a 0).bind fun p41 => (if p41.1 = 0 then some ((), CS.setI p41.2 36 0) else some ((), CS.setI p41.2 36 1)))) = some R) (z : ¬ P.i 32 = 0) : ¬ R.2.i 32 = 0 := by
  have gn : ∀ R' : Unit × CS, ((f_X6_isGoneTo N P a 0).bind fun p35 => (if p35.1 = 0 then some ((), CS.setI p35.2 36 0) else some ((), CS.setI p35.2 36 1))) = some R' → ¬ R'.2.i 32 = 0 := fun R' h => by
    obtain ⟨p35, e35, h⟩ := hf_bind h
    have z5 : ¬ p35.2.i 32 = 0 := by rw [kF_X6_isGoneTo N P a 0 p35 e35 z]; exact z
    by_cases c : p35.1 = 0
    · rw [if_pos c] at h
      rw [← Option.some.inj h]
      exact z5
    · rw [if_neg c] at h
      rw [← Option.some.inj h]
      exact z5
  by_cases c : x2 = 0
  · rw [if_pos c] at eD
    exact gn R eD
  · rw [if_neg c] at eD
    by_cases k : y = 0
    · rw [if_pos k] at eD
      rw [← Option.some.inj eD]
      exact z
    · rw [if_neg k] at eD
      exact gn R eD
set_option maxHeartbeats 8000000 in
theorem en_do {N : Nat} (hN : 1000 ≤ N) {E1 : CS → Option (Unit × CS)} {E2 : CS → Option (Int32 × CS)} (hm1 : ∀ σ, Kf (CS.i σ 32) (E1 σ)) (hm2 : ∀ σ, Kf (CS.i σ 32) (E2 σ)) (hE2 : SXN N 22 E2) {d : Int32} {B : CS} {b : RS} {t0 n : Nat} {L : List CEL} {x : Int} {S : CS} {s U : RS} {c1 c : CEL} {R : Unit × CS} {Aj : JBA} (mA : JBM U Aj) (hC : COR d B b t0 (c1 :: c :: L) x S s) (tp : TOP S s c1) (hM : MEN c1 S s) (h206 : S.o c1.2.1 0 = 206) (bz : BAZ B b (c1 :: c :: L)) (hT : t0 ≤ ceT c1) (e : f_X7_endBody N E1 E2 S c1.2.1 = some R) (g : f_X12_parse_10 N n s = some U) : (¬ R.2.i 32 = 0 ∧ ¬ U.i 15 = 0) ∨ ∃ (m : Nat) (u : RS), f_X12_parse_10 N m u = some U ∧ POPD d B b t0 c L R.2 u ∧ JTR Aj U B b (c1 :: c :: L) S s (vws R.2 u (c :: L)) R.2 u := by
  obtain ⟨one, o5, ts, h75, hm⟩ := hM
  obtain ⟨m1, e1, k1, m2, e2, k2, cst⟩ := STK.mem _ _ _ _ hC.2.1 c1 List.mem_cons_self
  obtain ⟨f1, f2, f3, f4⟩ := cst.2.2.1.2.2.2.2.2.2.2.1 h206
  have hv := hC.1
  have go : isGo (S.o c1.2.1 0) := Or.inr (Or.inr (Or.inr (Or.inl h206)))
  obtain ⟨T, hTc⟩ : ∃ T : Nat, T = ceT c1 := ⟨_, rfl⟩
  obtain ⟨G, hGc⟩ : ∃ G : Nat, G = ceG c1 := ⟨_, rfl⟩
  rw [← hTc] at ts f1 f2 f3
  rw [← hGc] at f3 f4
  -- the reference, to its condition
  obtain ⟨m2, V, hV, g2⟩ := rl_11 g ts hv.1.2.1 f1
  unfold f_X12_repeats at hV
  obtain ⟨hib, hV⟩ := hf_ite hV
  have t9 : T < 1000 := by
    have h2 : (s.i 63).toInt = (T : Int) := ts
    have := hib.2
    omega
  have g68 : (s.a 68 T).toNatClampNeg = G := by
    show (s.a 68 T).toInt.toNat = G
    omega
  rw [tp_nat ts, f2, if_neg (by decide), if_pos rfl, g68] at hV
  obtain ⟨-, hV⟩ := hf_ite hV
  obtain ⟨s1, hp1, hV⟩ := hf_bind hV
  obtain ⟨hD, inj, ord, lk, lw⟩ := hC.drop (by rw [h206]; unfold isTy; decide) (by rw [h206]; decide) (by rw [h206]; rfl) (by rw [h206]; rfl)
  obtain ⟨-, b30, b0, col, hc⟩ := id hC.2.2.2.2.2.2.2.2.2.2
  obtain ⟨hx48, hx49⟩ := hc.2.2.1 c1 List.mem_cons_self go
  rw [← hGc] at hx48 hx49 inj
  have e22a := pt_in (F := fun k => col k = some (G, false)) (κ := (G, false)) hc (fun k hk => hk) hx49 hp1
  have fre1 := (hc.fre b0).1
  have hcd := hc.drop (by rw [← hGc]; exact inj)
  rw [← hGc] at fre1 hcd
  obtain ⟨hE1, hc1⟩ := hD.e22 hcd (e22a.mono (fun k hk => fre1 k false hk))
  have s175 : s1.i 75 = S.i 36 := by rw [e22a.1]; exact h75
  have s1a : ∀ k : Nat, k ≠ 22 → s1.a k = s.a k := e22a.2.2.2.1
  have hrv : ∃ rv : Int32, (rv = 0 ∨ rv = 1) ∧ (rv = 0 ↔ (S.i 36 = 0 ∧ s.a 51 G = 0)) ∧ f_X12_repeats_114 N (RS.setA s1 67 T rv) (s.i 63) (s.a 68 T) = some V := by
    rw [s175, s1a 51 (by decide)] at hV
    by_cases z : S.i 36 = 0
    · rw [if_pos z] at hV
      by_cases k : s.a 51 G = 0
      · rw [if_pos k] at hV
        exact ⟨0, Or.inl rfl, ⟨fun _ => ⟨z, k⟩, fun _ => rfl⟩, hV⟩
      · rw [if_neg k] at hV
        exact ⟨1, Or.inr rfl, ⟨fun y => absurd y (by decide), fun y => absurd y.2 k⟩, hV⟩
    · rw [if_neg z] at hV
      exact ⟨1, Or.inr rfl, ⟨fun y => absurd y (by decide), fun y => absurd y.1 z⟩, hV⟩
  obtain ⟨rv, hr01, hrv, hV⟩ := hrv
  unfold f_X12_repeats_114 at hV
  rw [g68, tp_nat ts] at hV
  obtain ⟨-, hV⟩ := hf_ite hV
  have hbv : ∃ bv : Int32, (bv = 1 ↔ ¬ s.a 50 G = 0) ∧ f_X12_repeats_134 N (RS.setA (RS.setA s1 67 T rv) 72 T bv) (s.i 63) (s.a 68 T) = some V := by
    have z50 : (RS.setA s1 67 T rv).a 50 G = s.a 50 G := by rw [setA_nk (by decide), s1a 50 (by decide)]
    rw [z50] at hV
    by_cases z : s.a 50 G = 0
    · rw [if_pos z] at hV
      obtain ⟨-, hV⟩ := hf_ite hV
      exact ⟨0, ⟨fun y => absurd y (by decide), fun y => absurd z y⟩, hV⟩
    · rw [if_neg z] at hV
      obtain ⟨-, hV⟩ := hf_ite hV
      exact ⟨1, ⟨fun _ => z, fun _ => rfl⟩, hV⟩
  obtain ⟨bv, hbv, hV⟩ := hbv
  unfold f_X12_repeats_134 f_X12_repeats_195 at hV
  rw [g68, tp_nat ts] at hV
  obtain ⟨-, hV⟩ := hf_ite hV
  obtain ⟨-, hV⟩ := hf_ite hV
  obtain ⟨p21, h21, hV⟩ := hf_bind hV
  obtain ⟨p23, h23, hV⟩ := hf_bind hV
  have hth : ∃ v69 : Int32, ((p23.2.i 10 = 432 ∧ v69 = p23.2.i 17) ∨ (¬ p23.2.i 10 = 432 ∧ v69 = 0)) ∧ f_X12_then N (RS.setA p23.2 69 T v69) 2 20 = some V := by
    by_cases c4 : p23.2.i 10 = 432
    · rw [if_pos c4, ob_id] at hV
      exact ⟨_, Or.inl ⟨c4, rfl⟩, hV⟩
    · rw [if_neg c4, ob_id] at hV
      exact ⟨_, Or.inr ⟨c4, rfl⟩, hV⟩
  obtain ⟨v69, h69, hth⟩ := hth
  clear hV
  -- the goal goes
  obtain ⟨r1, hr1⟩ : ∃ y, y = RS.setA (RS.setA s1 67 T rv) 72 T bv := ⟨_, rfl⟩
  rw [← hr1] at h21
  have r1i : r1.i = s1.i ∧ r1.l = s1.l ∧ r1.b = s1.b := by rw [hr1]; exact ⟨rfl, rfl, rfl⟩
  have r1a : ∀ k : Nat, k ≠ 67 → k ≠ 72 → r1.a k = s1.a k := fun k h1 h2 => by rw [hr1, setA_nk h2, setA_nk h1]
  have r1f : ∀ k j : Nat, j ≠ T → r1.a k j = s1.a k j := fun k j hj => by
    rw [hr1]
    by_cases z : k = 72
    · rw [z, setA_ne hj, setA_nk (by decide)]
    · rw [setA_nk z]
      by_cases y : k = 67
      · rw [y, setA_ne hj]
      · rw [setA_nk y]
  have r167 : r1.a 67 T = rv := by rw [hr1, setA_nk (by decide)]; exact setA_at
  have r172 : r1.a 72 T = bv := by rw [hr1]; exact setA_at
  clear hr1
  obtain ⟨w, hw⟩ : ∃ y, y = RS.setI (RS.setA r1 70 T (r1.a 48 G)) 43 (r1.i 43 - 1) := ⟨_, rfl⟩
  have h21' : f_X12_need N w 415 = some p21 := by rw [hw]; exact h21
  have wi : ∀ k : Nat, k ≠ 43 → w.i k = s1.i k := fun k hk => by
    rw [hw, ← r1i.1]
    exact if_neg hk
  have w43' : w.i 43 = s1.i 43 - 1 := by
    rw [hw, ← r1i.1]
    rfl
  have wl : w.l = s1.l := by rw [hw]; exact r1i.2.1
  have wb : w.b = s1.b := by rw [hw]; exact r1i.2.2
  have wk : ∀ k : Nat, k ≠ 70 → w.a k = r1.a k := fun k hk => by
    rw [hw, rsI_a, setA_nk hk]
  have wfj : ∀ k j : Nat, j ≠ T → w.a k j = s1.a k j := fun k j hj => by
    by_cases z : k = 70
    · rw [hw, rsI_a, z, setA_ne hj]
      exact r1f 70 j hj
    · rw [wk k z]
      exact r1f k j hj
  have w70 : w.a 70 T = s.a 48 G := by
    rw [hw, rsI_a, setA_at, r1a 48 (by decide) (by decide), s1a 48 (by decide)]
  clear hw h21
  have wa : ∀ k : Nat, ¬ (64 ≤ k ∧ k ≤ 73) → w.a k = s1.a k := fun k hk => by rw [wk k (by omega), r1a k (by omega) (by omega)]
  have w67 : w.a 67 T = rv := by rw [wk 67 (by decide)]; exact r167
  have w72 : w.a 72 T = bv := by rw [wk 72 (by decide)]; exact r172
  have w64 : w.a 64 T = 11 := by rw [wk 64 (by decide), r1a 64 (by decide) (by decide), s1a 64 (by decide)]; exact f1
  have tpE : TOP S s1 c1 := tp.e22 e22a
  have w43 : (w.i 43).toInt = (G : Int) := by
    have e1 : (1 : Int32).toInt = 1 := by decide
    have hi := Int32.toInt_lt (s1.i 43)
    have := tpE.2.1
    have := nGo1 go
    rw [w43', toInt_sub] <;> rw [e1] <;> omega
  have nw0 : nWl (S.o c1.2.1 0) = 0 := by rw [h206]; rfl
  obtain ⟨hW, lwW, hinW, hin1, frW, tbW, cdW⟩ := hE1.go1 tpE lk (lw.e22 e22a) bz hT go nw0 (by rw [s1a 44 (by decide), ← hGc, f4]; decide) wi (by rw [← hGc]; exact w43) wl wb wa (by rw [← hTc]; exact wfj)
  rw [← hTc] at hinW hin1 frW
  have hcW := hc1.mv b0 hin1 (CKZ.rf S) frW tbW cdW
  have evW := hW.1
  have tw : tpI w = (T : Int) := by
    show (w.i 63).toInt = _
    rw [wi 63 (by decide), e22a.1]
    exact ts
  -- the class
  unfold f_X7_endBody at e
  obtain ⟨-, e⟩ := hf_ite e
  rw [if_neg (by rw [h206]; decide), if_neg (by rw [h206]; decide), if_pos h206] at e
  obtain ⟨P9, eD, e⟩ := hf_bind e
  have hx2 : ∃ x2 : Int32, (x2 = 0 ↔ (S.i 36 = 0 ∧ s.a 51 G = 0)) ∧ f_X7_endDo_25 N E1 E2 S c1.2.1 x2 = some P9 := by
    unfold f_X7_endDo f_X7_endDo_19 at eD
    by_cases z : S.i 36 = 0
    · rw [if_pos z] at eD
      obtain ⟨p46, e46, eD⟩ := hf_bind eD
      obtain ⟨y1, y2⟩ := y_gone hC go (Or.inr ⟨rfl, rfl⟩) e46
      have y3 : p46.1 = s.a 51 G := by
        rw [hGc]
        exact y2.trans (if_neg (by decide))
      rw [y1, y3] at eD
      by_cases k : s.a 51 G = 0
      · rw [if_pos k] at eD
        exact ⟨0, ⟨fun _ => ⟨z, k⟩, fun _ => rfl⟩, eD⟩
      · rw [if_neg k] at eD
        exact ⟨1, ⟨fun y => absurd y (by decide), fun y => absurd y.2 k⟩, eD⟩
    · rw [if_neg z] at eD
      exact ⟨1, ⟨fun y => absurd y (by decide), fun y => absurd y.1 z⟩, eD⟩
  clear eD
  obtain ⟨x2, hx2, eD⟩ := hx2
  unfold f_X7_endDo_25 f_X7_conditionInside at eD
  obtain ⟨p2, e2', eD⟩ := hf_bind eD
  obtain ⟨-, eD⟩ := hf_ite eD
  obtain ⟨p7, e7, eD⟩ := hf_bind eD
  obtain ⟨p11, e11, eD⟩ := hf_bind eD
  obtain ⟨y1, ey1, e11⟩ := hf_bind e11
  obtain ⟨y5, ey5, e11⟩ := hf_bind e11
  obtain ⟨y9, ey9, e11⟩ := hf_bind e11
  obtain ⟨hb01, e11⟩ := hf_ite e11
  cases e11
  obtain ⟨p15, e15, eD⟩ := hf_bind eD
  obtain ⟨-, eD⟩ := hf_ite eD
  obtain ⟨p20, e20, eD⟩ := hf_bind eD
  obtain ⟨-, eD⟩ := hf_ite eD
  obtain ⟨p25, e25, eD⟩ := hf_bind eD
  obtain ⟨-, eD⟩ := hf_ite eD
  obtain ⟨p30, e30, eD⟩ := hf_bind eD
  have f30 : ¬ p30.2.i 32 = 0 → ¬ R.2.i 32 = 0 := fun z => by
    have z1 : ¬ P9.2.i 32 = 0 := fl_do eD z
    rw [kF_X7_endBody_193 N E1 E2 hm1 hm2 P9.2 _ R e z1]
    exact z1
  have f15 : ¬ p15.2.i 32 = 0 → ¬ R.2.i 32 = 0 := fun z => by
    have z1 : ¬ p20.2.i 32 = 0 := by rw [fst_add e20]; exact z
    have z2 : ¬ p25.2.i 32 = 0 := by rw [fst_add e25]; exact z1
    exact f30 (by rw [kF_X0_aim N p25.2 _ p30 e30 z2]; exact z2)
  have f9 : ¬ y9.2.i 32 = 0 → ¬ R.2.i 32 = 0 := fun z => f15 (by rw [kF_X1_expect N y9.2 59 p15 e15 z]; exact z)
  have f5 : ¬ y5.2.i 32 = 0 → ¬ R.2.i 32 = 0 := fun z => f9 (by rw [kF_X1_close N y5.2 41 y9 ey9 z]; exact z)
  have f1' : ¬ y1.2.i 32 = 0 → ¬ R.2.i 32 = 0 := fun z => f5 (by rw [kF_X1_condition N E1 E2 hm1 hm2 y1.2 y5 ey5 z]; exact z)
  have f2' : ¬ p2.2.i 32 = 0 → ¬ R.2.i 32 = 0 := fun z => by
    have z1 : ¬ p7.2.i 32 = 0 := by rw [kF_X0_aim N p2.2 _ p7 e7 z]; exact z
    exact f1' (by rw [kF_X1_open N p7.2 40 y1 ey1 z1]; exact z1)
  -- while (
  have W0 := WYX.rf evW tw
  rcases W0.nd hN (c := 205) (e := 415) (Or.inr ⟨by decide, by decide⟩) (by decide) (by decide) (by decide) e2' h21' with ⟨o1, o2, o3⟩ | ⟨o1, W1, fr1⟩
  · refine Or.inl ⟨f2' o2, u_flt g2 (krf_f_X12_then N _ 2 20 V hth ?_)⟩
    show ¬ p23.2.i 15 = 0
    exact krf_f_X12_open N p21.2 40 p23 h23 o3
  have W2 := W1.ai e7
  rcases W2.op hN (c := 40) (e := 40) (Or.inl ⟨by decide, by decide⟩) (by decide) (by decide) (by decide) ey1 h23 with ⟨o1', o2, o3⟩ | ⟨o1o, W3, fr3⟩
  · exact Or.inl ⟨f1' o2, u_flt g2 (krf_f_X12_then N _ 2 20 V hth (show ¬ p23.2.i 15 = 0 from o3))⟩
  have W3' := W3.sa (j := 69) (v := v69) ⟨by omega, by omega⟩
  have ph0 : 0 ≤ phI w := evW.2.2.2.2.2.2.2.1
  have p3 : 3 ≤ phI (RS.setA p23.2 69 T v69) := by
    have := W3'.2.2.2.2.2.2.1
    omega
  rcases y_cond hN hm1 hm2 hE2 W3'.1 W3'.2.1 p3 ey5 hth g2 with ⟨z1, z2⟩ | ⟨m3, u, g3, xo, hn01, hn1, xc⟩
  · exact Or.inl ⟨f5 z1, z2⟩
  have W4 := W3'.exo xo
  obtain ⟨x64, x65, x66, x67, x68, x69, x70, x71, x72, x73, -⟩ := xo.2.2.1
  have q3 : ∀ k : Nat, 64 ≤ k → k ≤ 73 → k ≠ 69 → (RS.setA p23.2 69 T v69).a k T = w.a k T := fun k h1 h2 h3 => by
    rw [setA_nk h3, (fr3 (T + 1)).all k h1 h2, (fr1 (T + 1)).all k h1 h2]
  have u64 : u.a 64 T = 11 := by
    rw [x64, q3 64 (by decide) (by decide) (by decide)]
    exact w64
  have u69 : u.a 69 T = v69 := by
    rw [x69]
    exact setA_at
  have r17 : 0 < (p23.2.i 17).toInt ∧ (p23.2.i 17).toInt < 2000 := by
    have y1 : 3 ≤ phI p23.2 := p3
    have y2 := W3.1.2.2.2.2.2.2.1
    have y3 := W3.1.2.2.2.2.2.2.2.2.1
    have y4 := i11_hi W3.1
    unfold phI at y1
    omega
  -- behind the condition
  obtain ⟨m4, V4, hV4, g4⟩ := rl_11 g3 W4.2.1 W4.1.1.2.1 u64
  unfold f_X12_repeats at hV4
  obtain ⟨-, hV4⟩ := hf_ite hV4
  rw [tp_nat W4.2.1, if_neg (show ¬ u.a 65 T = 0 by rw [x65]; decide), if_neg (show ¬ u.a 65 T = 1 by rw [x65]; decide), u69] at hV4
  obtain ⟨jt, hjt, hV4⟩ := hf_bind hV4
  have ejt := jt_eq hjt h69 r17 hn01 hn1
  rw [ejt] at hV4
  obtain ⟨sh, hsh, hV4⟩ := hf_bind hV4
  obtain ⟨ne, hne, hV4⟩ := hf_bind hV4
  obtain ⟨em, hem, hV4⟩ := hf_bind hV4
  obtain ⟨pt, hpt, hV4⟩ := hf_bind hV4
  have fV : ¬ pt.i 15 = 0 → ¬ V4.i 15 = 0 := fun z => by
    have ov : ∀ (v : Int32) (K : Option RS), K = ((f_X12_over N pt v).bind fun p => some p) → K = some V4 → ¬ V4.i 15 = 0 := fun v K h1 h2 => by
      rw [h1, ob_id] at h2
      exact krf_f_X12_over N pt v V4 h2 z
    by_cases k1 : pt.a 67 T = 1
    · rw [if_pos k1] at hV4
      by_cases k2 : y5.1 = 0
      · rw [if_pos k2] at hV4
        exact ov 1 _ rfl hV4
      · rw [if_neg k2] at hV4
        by_cases k3 : pt.a 72 T = 1
        · rw [if_pos k3] at hV4
          exact ov 1 _ rfl hV4
        · rw [if_neg k3] at hV4
          exact ov 0 _ rfl hV4
    · rw [if_neg k1] at hV4
      by_cases k3 : pt.a 72 T = 1
      · rw [if_pos k3] at hV4
        exact ov 1 _ rfl hV4
      · rw [if_neg k3] at hV4
        exact ov 0 _ rfl hV4
  have fN : ¬ ne.2.i 15 = 0 → ¬ V4.i 15 = 0 := fun z => fV (krf_f_X12_patch N em.2 _ _ pt hpt (krf_f_X12_emit N ne.2 _ _ em hem z))
  rcases W4.cl hN evW (by omega) (c := 41) (e := 41) (Or.inl ⟨by decide, by decide⟩) (by decide) (by decide) (by decide) ey9 hsh with ⟨o1'', o2, o3⟩ | ⟨o1'', W5, fr5⟩
  · exact Or.inl ⟨f9 o2, u_flt g4 (fN (krf_f_X12_need N sh.2 59 ne hne o3))⟩
  rcases W5.nd hN (c := 59) (e := 59) (Or.inl ⟨by decide, by decide⟩) (by decide) (by decide) (by decide) e15 hne with ⟨o1', o2, o3⟩ | ⟨o1', W6, fr6⟩
  · exact Or.inl ⟨f15 o2, u_flt g4 (fN o3)⟩
  have p6 : 1 ≤ phI ne.2 := by
    have := W6.2.2.2.2.2.2.1
    omega
  obtain ⟨W7, fr7, -, -, -⟩ := W6.em p6 hem
  have W8 := ((W7.ad e20).ad e25).ai e30
  have hX := hW.wyx hinW (by omega) W8 ⟨by omega, by omega, by omega⟩
  obtain ⟨-, tE, frE, tbE, ckE, -⟩ := id W8
  have hcX := hcW.mv b0 hinW ckE.z frE tbE.1.r tbE.2
  have emF : ∀ k : Nat, 64 ≤ k → k ≤ 73 → em.2.a k T = u.a k T := fun k h1 h2 => by
    rw [(fr7 (T + 1)).all k h1 h2, (fr6 (T + 1)).all k h1 h2, (fr5 (T + 1)).all k h1 h2]
  have em70 : em.2.a 70 T = s.a 48 G := by
    rw [emF 70 (by decide) (by decide), x70, q3 70 (by decide) (by decide) (by decide)]
    exact w70
  have em67 : em.2.a 67 T = rv := by
    rw [emF 67 (by decide) (by decide), x67, q3 67 (by decide) (by decide) (by decide)]
    exact w67
  have em72 : em.2.a 72 T = bv := by
    rw [emF 72 (by decide) (by decide), x72, q3 72 (by decide) (by decide) (by decide)]
    exact w72
  have hin0 := hC.inl tp (T := ceT c1 + wid (S.o c1.2.1 0)) rfl
  have eo1 : p30.2.o c1.2.1 = S.o c1.2.1 := (hin0.o ckE.z c1 List.mem_cons_self).1
  have eoL : ∀ y ∈ c :: L, p30.2.o y.2.1 = S.o y.2.1 := fun y hy => (hinW.o ckE.z y hy).1
  have e66 : ∀ z ∈ c :: L, em.2.a 66 (ceT z) = s.a 66 (ceT z) := fun z hz => by
    have a := (hinW z hz).2.2.1
    have b := wid1 (S.o z.2.1 0)
    rw [(frE (ceT z) (by omega)).2.2.1, wfj 66 (ceT z) (by omega), s1a 66 (by decide)]
  rw [em70] at hpt
  have e22c : E22 (FRE p30.2 em.2 (c :: L) (cdr G col) (b.i 20).toInt) em.2 pt := by
    unfold f_X12_patch at hpt
    refine pt_e22 (κ := (G, true)) (col := col) (fun k hk => (fre1 k true hk).mv2 eoL e66) N (s.i 20).toInt.toNat em.2 pt (em.2.i 20) (s.a 48 G) (fun k hk _ => ?_) ?_ hpt
    · have k20 := (hc.1 k _ hk).2
      rw [tbE.2.2 k (by rw [wi 20 (by decide), e22a.1]; exact k20), wa 22 (by decide), e22a.2.2.2.2 k (fun z => by
        have z' : col k = some (G, false) := z
        rw [hk] at z'
        have z2 : true = false := congrArg Prod.snd (Option.some.inj z')
        exact absurd z2 (by decide))]
      exact hc.2.1 k _ hk
    · rcases hx48 with z | ⟨j, j1, j2⟩
      · exact Or.inl z
      · have := (hc.1 j _ j2).2
        exact Or.inr ⟨j, j1, by omega, j2⟩
  obtain ⟨hY, -⟩ := hX.e22 hcX e22c
  have pi : pt.i = em.2.i := e22c.1
  have pa : ∀ k : Nat, k ≠ 22 → pt.a k = em.2.a k := e22c.2.2.2.1
  -- whether its end is reached
  have h160 : (p30.2.i 55).toInt < 160 := by
    have z := W8.1.sj
    have y := i11_hi W8.1
    unfold SJB at z
    omega
  have gon : ∀ p : Int32 × CS, f_X6_isGoneTo N p30.2 c1.2.1 0 = some p → p.2 = p30.2 ∧ p.1 = s.a 50 G := fun p hp => by
    obtain ⟨y1, y2⟩ := y_goneX hC go (Or.inl ⟨rfl, rfl⟩) (by rw [eo1]) (by rw [eo1]) ckE.2.2.2.2.2.1 h160 ckE.2.2.2.2.2.2.1 (fun k k1 k2 => by
      rcases ckE.2.2.2.2.2.2.2.1 k k1 k2 with z | z
      · exact Or.inl z
      · exact Or.inr z.1) hp
    refine ⟨y1, ?_⟩
    rw [hGc]
    exact y2.trans (if_pos rfl)
  have gone : ∀ K : Option (Unit × CS), K = ((f_X6_isGoneTo N p30.2 c1.2.1 0).bind fun p35 => (if p35.1 = 0 then some ((), CS.setI p35.2 36 0) else some ((), CS.setI p35.2 36 1))) → K = some P9 → (s.a 50 G = 0 ∧ P9.2 = CS.setI p30.2 36 0) ∨ (¬ s.a 50 G = 0 ∧ P9.2 = CS.setI p30.2 36 1) := fun K h1 h2 => by
    rw [h1] at h2
    obtain ⟨p, hp, h2⟩ := hf_bind h2
    obtain ⟨y1, y2⟩ := gon p hp
    rw [y1, y2] at h2
    by_cases z : s.a 50 G = 0
    · rw [if_pos z] at h2
      exact Or.inl ⟨z, by rw [← Option.some.inj h2]⟩
    · rw [if_neg z] at h2
      exact Or.inr ⟨z, by rw [← Option.some.inj h2]⟩
  have fin : ∃ v : Int32, (v = 0 ∨ v = 1) ∧ f_X12_over N pt v = some V4 ∧ P9.2 = CS.setI p30.2 36 v ∧ (¬ s.a 50 G = 0 → v = 1) ∧ (¬ (S.i 36 = 0 ∧ s.a 51 G = 0) → y5.1 = 0 → v = 1) := by
    rw [pa 67 (by decide), pa 72 (by decide), em67, em72] at hV4
    have br : ∀ K : Option RS, K = (if bv = 1 then (f_X12_over N pt 1).bind fun p52 => some p52 else (f_X12_over N pt 0).bind fun p50 => some p50) → K = some V4 → ((s.a 50 G = 0 ∧ P9.2 = CS.setI p30.2 36 0) ∨ (¬ s.a 50 G = 0 ∧ P9.2 = CS.setI p30.2 36 1)) → ((S.i 36 = 0 ∧ s.a 51 G = 0) ∨ ¬ y5.1 = 0) → ∃ v : Int32, (v = 0 ∨ v = 1) ∧ f_X12_over N pt v = some V4 ∧ P9.2 = CS.setI p30.2 36 v ∧ (¬ s.a 50 G = 0 → v = 1) ∧ (¬ (S.i 36 = 0 ∧ s.a 51 G = 0) → y5.1 = 0 → v = 1) := fun K h1 h2 h3 h9 => by
      rw [h1] at h2
      rcases h3 with ⟨z, hz⟩ | ⟨z, hz⟩
      · rw [if_neg (fun y => hbv.mp y z), ob_id] at h2
        exact ⟨0, Or.inl rfl, h2, hz, fun w => absurd z w, fun w1 w2 => (h9.elim (fun q => absurd q w1) (fun q => absurd w2 q))⟩
      · rw [if_pos (hbv.mpr z), ob_id] at h2
        exact ⟨1, Or.inr rfl, h2, hz, fun _ => rfl, fun _ _ => rfl⟩
    by_cases z : S.i 36 = 0 ∧ s.a 51 G = 0
    · have z1 := hrv.mpr z
      have z2 := hx2.mpr z
      rw [if_neg (show ¬ rv = 1 by rw [z1]; decide)] at hV4
      rw [if_pos z2] at eD
      exact br _ rfl hV4 (gone _ rfl eD) (Or.inl z)
    · have z1 : rv = 1 := hr01.resolve_left (fun y => z (hrv.mp y))
      have z2 : ¬ x2 = 0 := fun y => z (hx2.mp y)
      rw [if_pos z1] at hV4
      rw [if_neg z2] at eD
      by_cases k : y5.1 = 0
      · have hV5 := (if_pos k).symm.trans hV4
        have eD5 := (if_pos k).symm.trans eD
        rw [ob_id] at hV5
        exact ⟨1, Or.inr rfl, hV5, by rw [← Option.some.inj eD5], fun _ => rfl, fun _ _ => rfl⟩
      · have hV5 := (if_neg k).symm.trans hV4
        have eD5 := (if_neg k).symm.trans eD
        exact br _ rfl hV5 (gone _ rfl eD5) (Or.inr k)
  obtain ⟨v, hv1, ho, hP9, vb1, vb2⟩ := fin
  rw [hP9] at e
  obtain ⟨i22, i36, i38, i50, i53, i56⟩ := ckE.1
  have n1 := lk.1
  have t1 := tp.1
  obtain ⟨e1', e50, e53, e36, er⟩ := e_193 (n := c.1) (by rw [i53]; omega) e
  have c50 : S.i 50 = S.o c1.2.1 3 := hm one (by rw [h206]; decide) (by rw [h206]; decide)
  have s50 := hv.2.1.1
  obtain ⟨tb1, tb2, tb3, tb4, tb5, tb6, tb7, tb8, tb9, tb10⟩ := tbE.1.1
  have lkP : LNK p30.2 c1 c := by
    unfold LNK at *
    rw [eo1, eoL c List.mem_cons_self]
    exact lk
  have lwP : LOW p30.2 pt c := (lwW.mv (eoL c List.mem_cons_self) frE (by rw [hTc, lk.2.1]; exact Nat.le_refl _)).e22 e22c
  have p43 : (pt.i 43).toInt = (ceG c1 : Int) := by rw [pi, tb5, ← hGc]; exact w43
  have p56 : (pt.i 56).toInt = (ceW c1 : Int) := by
    have z := tpE.2.2
    rw [nw0] at z
    rw [pi, tb7, wi 56 (by decide)]
    omega
  have p38 : pt.i 38 = S.o c1.2.1 3 := by rw [pi, tb4, wi 38 (by decide), e22a.1, ← c50, s50]
  have tbb := hC.2.2.2.2.2.1.2.1
  have ob := hC.2.2.2.2.2.2.2.1.2
  refine Or.inr ⟨m4, V4, g4, (pop_coreG (ng := 0) (c1 := c1) hY ⟨by rw [i53]; exact t1, by omega, by rw [eo1, nw0]; omega⟩ lkP lwP bz hT (by omega) ?_ (by rw [eo1]; exact nw0) (Or.inl rfl) hv1 ho ⟨fun _ _ _ _ => rfl, rfl, rfl, rfl⟩ (by rw [eo1]; exact p38) (by omega) ⟨?_, ?_⟩ (fun y hy => ?_) e1' e50 e53 e36 er).1, fun _ jw => ?_⟩
  · rw [← hTc]
    show (pt.i 63).toInt = _
    rw [pi]
    exact tE
  · rw [eo1, ← c50, s50]
    exact tbb.1
  · rw [eo1, i50, c50]
    exact Int.le_refl _
  · rw [eoL y hy, eo1, ← c50]
    exact (ob.1 y (List.mem_cons_of_mem _ hy)).2
  -- the code
  have hr0 : (vw S s c1).v = 206 := h206
  have lo : isLo (vw S s c1).v := Or.inr (Or.inl hr0)
  have goV : isGo (vw S s c1).v := go
  have nty : ¬ isTy (vw S s c1).v := fun z => by
    rw [hr0] at z
    rcases z with z | z | z | z <;> exact absurd z (by decide)
  have nsi : ∀ k : Nat, ¬ rsite (vw S s c1) k := fun k z => by
    unfold rsite at z
    rw [hr0] at z
    rcases z with ⟨z, -⟩ | ⟨z, -⟩ | ⟨z, -⟩ | ⟨z, -⟩ <;> exact absurd z (by decide)
  have r66 : (vw S s c1).2.1 66 = s.a 66 T := by
    rw [hTc]
    exact (vw_at (k := 66) ⟨by decide, by decide⟩)
  have gis := hC.gis
  have h44 : (S.i 44).toInt ≤ 900 := by
    rw [hv.p44.1]
    exact (i11_hi hv).2
  obtain ⟨ee, he1, he2⟩ := clo_e (S.i 43)
  have ee1 : ee ≤ 1 := by rcases he1 with z | ⟨z, -⟩ <;> omega
  have rt : tvs (rtgs (vw S s c1)) = [tv (S.o c1.2.1 10), tv (S.o c1.2.1 9)] := by
    unfold rtgs
    rw [hr0, if_neg (by decide), if_neg (by decide), if_pos (by decide)]
    rfl
  have wq : qe w = qe s1 := by
    unfold qe
    rw [wi 20 (by decide), wi 24 (by decide), wi 29 (by decide), wi 33 (by decide), wi 42 (by decide), wi 52 (by decide), wa 21 (by decide), wa 22 (by decide), wa 23 (by decide), wa 25 (by decide), wa 26 (by decide), wa 27 (by decide), wa 28 (by decide), wa 30 (by decide), wa 31 (by decide), wa 32 (by decide), wa 34 (by decide), wa 35 (by decide), wa 36 (by decide), wa 37 (by decide)]
  have s1i : s1.i = s.i := e22a.1
  -- the chains
  obtain ⟨l2, k2l, k2c, -, x2l, x4l⟩ := pt_l (P := fun k => col k = some (G, false)) (s := s) (fun k hk => hc.2.1 k _ hk) N s s1 _ (s.a 49 G) (fun _ _ _ => rfl) hx49 hp1
  have qz1 : qe (RS.setA p23.2 69 T v69) = qe s1 := (show qe (RS.setA p23.2 69 T v69) = qe p23.2 from rfl).trans ((kre_f_X12_open N p21.2 40 p23 h23).trans ((kre_f_X12_need N w 415 p21 h21').trans wq))
  obtain ⟨l1, k1l, k1c, -, x1l, x3l⟩ := pt_l (P := fun k => col k = some (G, true)) (s := s) (fun k hk => hc.2.1 k _ hk) N em.2 pt _ (s.a 48 G) (fun k hk _ => by
      have k20 := (hc.1 k _ hk).2
      rw [tbE.2.2 k (by rw [wi 20 (by decide), e22a.1]; exact k20), wa 22 (by decide), e22a.2.2.2.2 k (fun z => by
        have z' : col k = some (G, false) := z
        rw [hk] at z'
        have z2 : true = false := congrArg Prod.snd (Option.some.inj z')
        exact absurd z2 (by decide))]) hx48 hpt
  have l20 : ∀ j ∈ l1, (j : Int) < (s.i 20).toInt := fun j hj => (hc.1 j _ (k1c j hj).1).2
  have l12 : ∀ j ∈ l2, ¬ j ∈ l1 := fun j hj hj' => by
    have z1 := (k2c j hj).1
    rw [(k1c j hj').1] at z1
    have z2 : true = false := congrArg Prod.snd (Option.some.inj z1)
    exact absurd z2 (by decide)
  obtain ⟨vb, hvb⟩ : ∃ vb, vb = em.2.i 20 := ⟨_, rfl⟩
  rw [← hvb] at x1l
  have j0 := JRW.clo (V := vws S s (c :: L)) (r := vw S s c1) (u := pz l1 vb s1) (u' := pz l1 vb s1) (S' := S) (l1 := l1) (l2 := l2) (vb := vb) (vc := s.i 20) (vs := 0) (e := ee) (dr := 0) jw (fun z => z.c0 (by rw [hr0]; decide) (NK.eq rfl rfl (by rw [pz.i, s1i]) (by rw [pz.i, s1i]))) h44 mA (vws.pl hC) (fun _ y hy gy e => by have := gis y hy gy; have e' : y.2.2.2 = ceG c1 := e; omega) nty (by rw [hr0]; decide) (fun _ => ⟨by rw [show (vw S s c1).2.2.2 = G from hGc.symm]; exact k1l, fun _ => by rw [show (vw S s c1).2.2.2 = G from hGc.symm]; exact k2l⟩) ⟨by rw [pz.i]; exact s1i, fun k hk => by rw [pz.a hk]; exact s1a k hk⟩ (fun _ j hj => pz.in hj) (fun _ j hj => by rw [pz.ni (l12 j hj)]; exact x2l j hj) (fun j z => absurd z (nsi j)) (fun j n1 n2 _ => by rw [pz.ni (n1 goV)]; exact x4l j (n2 lo)) (D38.rf _) (D52.rf _) ⟨Or.inl rfl, rfl, rfl, rfl⟩ (fun _ _ _ => rfl) (clo_nm (by rw [hr0]; decide) nty (by rw [hr0]; decide) (by rw [pz.i]; exact s1i) (by rw [pz.a (by decide)]; exact s1a 40 (by decide))) (fun _ => dbr.ge _ _) he1
  rw [rt] at j0
  obtain ⟨z1, hz1⟩ : ∃ z1, z1 = RS.setA p23.2 69 T v69 := ⟨_, rfl⟩
  rw [← hz1] at xo xc qz1 W3'
  have z1i : z1.i = p23.2.i := by rw [hz1]; rfl
  have z1a : ∀ k : Nat, k ≠ 69 → z1.a k = p23.2.a k := fun k hk => by rw [hz1, setA_nk hk]
  clear hz1
  have j1 := j0.imp (K' := JAN (KCL U (vw S s c1) S s vb (s.i 20) 0) (JAL U (JQA U 2528 0 (pcC y1.2) (pcR z1) (fun FC SF nm X ω j _ => ∀ g : Nat, GU FC SF U nm X (pcC y1.2) (pcR z1) (j.h + 0) (ω + j.l + 2528 - pcC y1.2) g j.c)))) (Int.le_refl _) (Int.le_refl _) (fun FC SF nm X ω j Z _ _ _ _ _ _ k => ⟨k, fun _ _ q => q⟩)
  -- while
  have nw : NMV s1 w := ⟨wi 38 (by decide), fun j _ => by rw [wa 40 (by decide)]⟩
  have n21 : NMV w p21.2 := NMV.tbk W1.2.2.2.1
  have v44 : ∀ {P : CS} {q : RS} {d' : Int32}, ENV d' P q → (P.i 44).toInt = (q.i 11).toInt := fun h => by rw [h.p44.1]
  have p44S := v44 hv
  have p44w : (s1.i 11).toInt = (w.i 11).toInt := by rw [wi 11 (by decide)]
  have p11s : (s1.i 11).toInt = (s.i 11).toInt := by rw [s1i]
  have w1l := W1.2.2.2.2.2.1
  have w3l := W3.2.2.2.2.2.1
  have w5l := W5.2.2.2.2.2.1
  have w6l := W6.2.2.2.2.2.1
  have j2 := j1.tk (R := p2.2) (u := pz l1 vb p21.2) 1 (by rw [pz.i, s1i]; exact hv.2.1.1) (kc_X1_expect N S 205 p2 e2') (ke_X1_expect N S 205 p2 e2') (pz.nmv (nw.tr n21)) (pz.qe ((kre_f_X12_need N w 415 p21 h21').trans wq)) (by
    rw [p44S, v44 W1.1]
    omega)
  -- the continues
  have h442 : (p2.2.i 44).toInt ≤ 900 := by rw [v44 W1.1]; exact (i11_hi W1.1).2
  have o2S : p2.2.o = S.o := kc_o (kc_X1_expect N S 205 p2 e2')
  rw [o2S] at e7
  have j3 := JRG.aim (W1 := []) (W2 := [tv (S.o c1.2.1 9)]) (K' := fun FC SF nm X ω j Z => (cTg SF (S.o c1.2.1 10)).toInt = ((pcC p2.2 : Nat) : Int) ∧ JAN (KCL U (vw S s c1) S s vb (s.i 20) 0) (JAL U (JQA U 2528 0 (pcC y1.2) (pcR z1) (fun FC SF nm X ω j _ => ∀ g : Nat, GU FC SF U nm X (pcC y1.2) (pcR z1) (j.h + 0) (ω + j.l + 2528 - pcC y1.2) g j.c))) FC SF nm X ω j Z) j2 e7 h442 (by omega) (fun FC SF nm X ω j Z h k => ⟨h, k⟩)
  have n23 : NMV p21.2 z1 := NMV.dif (NMV.tbk W1.2.2.2.1) (NMV.tr (NMV.tbk W3.2.2.2.1) ⟨by rw [z1i], fun j _ => by rw [z1a 40 (by decide)]⟩)
  have j4 := j3.tk (R := y1.2) (u := pz l1 vb z1) 1 (by rw [pz.i]; exact W2.1.2.1.1) (kc_X1_open N p7.2 40 y1 ey1) (ke_X1_open N p7.2 40 y1 ey1) (pz.nmv n23) (pz.qe (qz1.trans ((kre_f_X12_need N w 415 p21 h21').trans wq).symm)) (by
    have z9 : p7.2.i 44 = p2.2.i 44 := (aim_eq e7).1 44
    have co := op_cd hN W2.1 (c := 40) (d := 40) (Or.inl ⟨by decide, by decide⟩) (by decide) (by decide) (by decide) ey1 h23 o1o
    exact co.1.by1 co.2.2.2.1)
  -- the condition
  have z120 : z1.i 20 = s.i 20 := by rw [(qe_eq qz1).1.1, s1i]
  have nvx : NMV z1 u := NMV.tbk xo.2.2.2.2.1
  have xcg : ∃ gf : Nat, CDE gf U y1.2 z1 y5.2 u ∧ ((gf = 2 ∧ y5.1 = 0) ∨ (gf = 4 ∧ ¬ y5.1 = 0)) := by
    rcases hn01 with z | z
    · exact ⟨2, xc.1, Or.inl ⟨rfl, z⟩⟩
    · exact ⟨4, xc.2 z, Or.inr ⟨rfl, by rw [z]; decide⟩⟩
  obtain ⟨gf, xg, hgf⟩ := xcg
  have s19z : (s1.i 19).toInt ≤ (z1.i 19).toInt := by
    have z1' : (w.i 19).toInt = (s1.i 19).toInt := by rw [wi 19 (by decide)]
    have z2' := W3.2.2.2.2.2.2.2.2
    rw [z1i]
    omega
  have fj := jsp_pz (l := l1) (v := vb) ((jsp_al (jsp_frm (a := -0 - 1 - 1) (e := ee - 1 - 1) (g := gf) (δ := 2528) (k := 0) (U := U) (s0 := pz l1 vb s1) (Z := fun FC SF nm X ω j _ => ∀ g : Nat, GU FC SF U nm X (pcC y1.2) (pcR z1) (j.h + 0) (ω + j.l + 2528 - pcC y1.2) g j.c) xg W3'.1.2.1.1 nvx (by omega) (by omega) (by omega) (by rw [pz.i, z1i]; have z9 : (((0 : Nat)) : Int) = 0 := rfl; omega) (by rw [pz.i]; exact s19z))).fr (K0 := fun FC SF nm X ω j Z => (cTg SF (S.o c1.2.1 10)).toInt = ((pcC p2.2 : Nat) : Int) ∧ KCL U (vw S s c1) S s vb (s.i 20) 0 FC SF nm X ω j Z)) (fun j hj => by rw [z120]; exact l20 j hj)
  have j4' := j4.imp (K' := JAN (fun FC SF nm X ω j Z => (cTg SF (S.o c1.2.1 10)).toInt = ((pcC p2.2 : Nat) : Int) ∧ KCL U (vw S s c1) S s vb (s.i 20) 0 FC SF nm X ω j Z) (JAL U (JQA U 2528 0 (pcC y1.2) (pcR z1) (fun FC SF nm X ω j _ => ∀ g : Nat, GU FC SF U nm X (pcC y1.2) (pcR z1) (j.h + 0) (ω + j.l + 2528 - pcC y1.2) g j.c)))) (Int.le_refl _) (Int.le_refl _) (fun FC SF nm X ω j Z _ _ _ _ _ _ k => ⟨⟨k.1, k.2.1⟩, k.2.2⟩)
  have j5 := j4'.cod fj
  -- behind it
  have n5 : NMV u sh.2 := NMV.dif (NMV.tbk W4.2.2.2.1) (NMV.tbk W5.2.2.2.1)
  have n6 : NMV sh.2 ne.2 := NMV.dif (NMV.tbk W5.2.2.2.1) (NMV.tbk W6.2.2.2.1)
  have j6 := j5.tk (R := y9.2) (u := pz l1 vb sh.2) 1 (by rw [pz.i]; exact W4.1.2.1.1) (kc_X1_close N y5.2 41 y9 ey9) (ke_X1_close N y5.2 41 y9 ey9) (pz.nmv n5) (pz.qe (kre_f_X12_shut N u 41 sh hsh)) (by
    have co := cl_cd hN W4.1 (by have := W4.sg evW; omega) (c := 41) (d := 41) (Or.inl ⟨by decide, by decide⟩) (by decide) (by decide) (by decide) ey9 hsh o1''
    exact co.1.by1 co.2.2.2.1)
  have j7 := j6.tk (R := p15.2) (u := pz l1 vb ne.2) 1 (by rw [pz.i]; exact W5.1.2.1.1) (kc_X1_expect N y9.2 59 p15 e15) (ke_X1_expect N y9.2 59 p15 e15) (pz.nmv n6) (pz.qe (kre_f_X12_need N sh.2 59 ne hne)) (by
    rw [v44 W5.1, v44 W6.1]
    exact nd_gain hN W5.1 (c := 59) (c' := 59) (Or.inl ⟨by decide, by decide⟩) (by decide) (by decide) (by decide) e15 hne o1')
  have h4415 : (p15.2.i 44).toInt ≤ 900 := by rw [v44 W6.1]; exact (i11_hi W6.1).2
  have o15 : p15.2.o c1.2.1 = S.o c1.2.1 := (hin0.o W6.2.2.2.2.1.z c1 List.mem_cons_self).1
  have ad20 := add_eq e20
  have ad25 := add_eq e25
  have o20 : p20.2.o = p15.2.o := by
    unfold f_X0_add at e20
    cases e20
    rfl
  have o25 : p25.2.o = p20.2.o := by
    unfold f_X0_add at e25
    cases e25
    rfl
  rw [o15] at e20
  rw [o20, o15] at e25
  rw [o25, o20, o15] at e30
  have j8 := j7.add e20 h4415 (by omega)
  have p20n := W6.1.p20
  have lne : ∀ j ∈ l1, (j : Int) < (ne.2.i 20).toInt := fun j hj => by
    have z1' := l20 j hj
    have z2' := W6.2.2.2.1.2.1
    rw [wi 20 (by decide), s1i] at z2'
    omega
  have u66 : u.a 66 T = s.a 66 T := by
    rw [x66, setA_nk (show (66 : Nat) ≠ 69 by decide), (fr3 (T + 1)).all 66 (by decide) (by decide), (fr1 (T + 1)).all 66 (by decide) (by decide), wk 66 (by decide), r1a 66 (by decide) (by decide), s1a 66 (by decide)]
  have en66 : ne.2.a 66 T = s.a 66 T := by
    rw [(fr6 (T + 1)).all 66 (by decide) (by decide), (fr5 (T + 1)).all 66 (by decide) (by decide)]
    exact u66
  rw [en66] at hem
  obtain ⟨V', hem', e1v, eiv, eav⟩ := em_pz (l := l1) (v := vb) hem ⟨p20n.1, by omega⟩ lne
  have h4420 : (p20.2.i 44).toInt ≤ 900 := by rw [ad20.1 44 (by decide)]; exact h4415
  have j9 := j8.one (K' := fun FC SF nm X ω j Z => (PQX SF U (pcC p20.2) (pcR ne.2) ∧ (SF.a 15 (pcC p20.2) = 30 ∧ SF.a 16 (pcC p20.2) = S.o c1.2.1 11) ∧ (U.a 21 (pcR ne.2) = 14 ∧ U.a 22 (pcR ne.2) = s.a 66 T) ∧ pcC p25.2 = pcC p20.2 + 1 ∧ pcR V'.2 = pcR ne.2 + 1) ∧ (SF.a 15 (pcC p15.2) = 31 ∧ SF.a 16 (pcC p15.2) = S.o c1.2.1 9 ∧ pcC p15.2 < 1200 ∧ pcC p20.2 = pcC p15.2 + 1) ∧ JAN (fun FC SF nm X ω j Z => (cTg SF (S.o c1.2.1 10)).toInt = ((pcC p2.2 : Nat) : Int) ∧ KCL U (vw S s c1) S s vb (s.i 20) 0 FC SF nm X ω j Z) (JAL U (JQG U 2528 (0 + 1) gf (pcC y5.2) (pcR u) (fun FC SF nm X ω j _ => ∀ g : Nat, GU FC SF U nm X (pcC y1.2) (pcR z1) (j.h + 0) (ω + j.l + 2528 - pcC y1.2) g j.c))) FC SF nm X ω j Z) e25 h4420 (by omega) hem' ⟨p20n.1, by show (ne.2.i 20).toInt < 3000; omega⟩ (fun FC SF nm X ω j Z pq a1 a2 b1 b2 b3 v1 v2 nmh hc hh tyc tl hω k => ⟨⟨pq, ⟨a1, a2⟩, ⟨b1, b2⟩, v1, v2⟩, k⟩)
  have j10 := JRG.aim (W1 := []) (W2 := []) (K' := fun FC SF nm X ω j Z => (cTg SF (S.o c1.2.1 9)).toInt = ((pcC p25.2 : Nat) : Int) ∧ (PQX SF U (pcC p20.2) (pcR ne.2) ∧ (SF.a 15 (pcC p20.2) = 30 ∧ SF.a 16 (pcC p20.2) = S.o c1.2.1 11) ∧ (U.a 21 (pcR ne.2) = 14 ∧ U.a 22 (pcR ne.2) = s.a 66 T) ∧ pcC p25.2 = pcC p20.2 + 1 ∧ pcR V'.2 = pcR ne.2 + 1) ∧ (SF.a 15 (pcC p15.2) = 31 ∧ SF.a 16 (pcC p15.2) = S.o c1.2.1 9 ∧ pcC p15.2 < 1200 ∧ pcC p20.2 = pcC p15.2 + 1) ∧ JAN (fun FC SF nm X ω j Z => (cTg SF (S.o c1.2.1 10)).toInt = ((pcC p2.2 : Nat) : Int) ∧ KCL U (vw S s c1) S s vb (s.i 20) 0 FC SF nm X ω j Z) (JAL U (JQG U 2528 (0 + 1) gf (pcC y5.2) (pcR u) (fun FC SF nm X ω j _ => ∀ g : Nat, GU FC SF U nm X (pcC y1.2) (pcR z1) (j.h + 0) (ω + j.l + 2528 - pcC y1.2) g j.c))) FC SF nm X ω j Z) j9 e30 (by rw [ad25.1 44 (by decide)]; exact h4420) (by omega) (fun FC SF nm X ω j Z h k => ⟨h, k⟩)
  -- the row goes
  obtain ⟨R1, R50, R53, R36, Rr, Ro, -, Ra, -⟩ := e193x (n := c.1) (by rw [i53]; omega) e
  have pta : pt.a = V'.2.a := by
    rw [eav]
    funext k
    by_cases z : k = 22
    · rw [z, pz.t]
      funext j
      by_cases y : j ∈ l1
      · rw [x1l j y, if_pos y]
      · rw [x3l j y, if_neg y]
    · rw [pz.a z, pa k z]
  have V4e : V4 = RS.setI (RS.setI pt 75 v) 63 (pt.i 63 - 1) := by
    unfold f_X12_over at ho
    rw [if_pos hv1] at ho
    exact (Option.some.inj ho).symm
  have V4i : ∀ k : Nat, k ≠ 63 → k ≠ 75 → V4.i k = V'.2.i k := fun k h1 h2 => by
    rw [V4e, eiv, ← pi]
    exact (if_neg h1).trans (if_neg h2)
  have V4a : V4.a = V'.2.a := by
    rw [← pta, V4e]
    rfl
  have qV : qe V4 = qe V'.2 := by
    unfold qe
    rw [V4a, V4i 20 (by decide) (by decide), V4i 24 (by decide) (by decide), V4i 29 (by decide) (by decide), V4i 33 (by decide) (by decide), V4i 42 (by decide) (by decide), V4i 52 (by decide) (by decide)]
  have j11 := j10.drp (R := R.2) (u := V4) (by
    unfold pe
    rw [Ra, R1 20 (by decide) (by decide) (by decide), R1 23 (by decide) (by decide) (by decide), R1 38 (by decide) (by decide) (by decide), R1 22 (by decide) (by decide) (by decide)]) (R1 21 (by decide) (by decide) (by decide)) (R1 44 (by decide) (by decide) (by decide)) (by rw [Ra]) (by rw [Ra]) qV (by rw [V4i 38 (by decide) (by decide)]; exact Int.le_refl _) (by rw [V4a])
  have gkE := GKP.tbk tbE
  have w59 : w.i 59 = s.i 59 := by rw [wi 59 (by decide), s1i]
  have V4k : ∀ k : Nat, k ≠ 22 → V4.a k = em.2.a k := fun k hk => by rw [V4a, eav, pz.a hk]
  have em11 : em.2.i 11 = ne.2.i 11 ∧ em.2.i 19 = ne.2.i 19 := by
    obtain ⟨-, -, -, -, -, zk, -⟩ := em_52 (v := 0) hem
    exact ⟨zk 11 (by decide), zk 19 (by decide)⟩
  rw [clo_veq hD tp lk (fun j hj => by
    rw [V4k 40 (by omega)]
    rw [(tbE.1.r.1 j (by rw [wi 38 (by decide), s1i]; exact hj)).2.1, wa 40 (by decide), s1a 40 (by decide)]) (fun y hy => by rw [Ro]; exact eoL y hy) (fun k t h1 h2 h3 => by
    rw [V4k k (by omega), frE.fld k t h1 h2 (by rw [hTc]; exact h3), wfj k t (by omega), s1a k (by omega)])]
  refine j11.fiw (by omega) (Or.inl (by omega)) (fun _ => ⟨fun y hy gy => ?_, ?_, fun i hi => ?_⟩) ?_ ?_ (fun FC SF nm X G' h0 c0 ω Z hω r12 hA ng hcc k cur => ?_)
  · have g1 := gis y hy gy
    have g2' : ((y.2.2.2 : Nat) : Int) < (w.i 43).toInt := by omega
    have z := gkE.2.1 _ g2'
    rw [V4k 50 (by decide), V4k 51 (by decide), V4k 48 (by decide), V4k 49 (by decide), V4k 47 (by decide), z.1, z.2.1, z.2.2.1, z.2.2.2.1, z.2.2.2.2, wa 50 (by decide), wa 51 (by decide), wa 48 (by decide), wa 49 (by decide), wa 47 (by decide), pz.a (by decide), pz.a (by decide), pz.a (by decide), pz.a (by decide), pz.a (by decide)]
    refine ⟨?_, rfl, rfl, rfl, rfl, rfl⟩
    rw [V4i 43 (by decide) (by decide), eiv, ← pi]
    omega
  · rw [V4i 59 (by decide) (by decide), eiv, pz.i, s1i, ← w59]
    exact gkE.2.2.1
  · rw [pz.i, s1i, ← w59] at hi
    have z := gkE.2.2.2 i hi
    rw [V4k 60 (by decide), V4k 61 (by decide), V4k 62 (by decide), z.1, z.2.1, z.2.2, wa 60 (by decide), wa 61 (by decide), wa 62 (by decide), pz.a (by decide), pz.a (by decide), pz.a (by decide)]
    exact ⟨rfl, rfl, rfl⟩
  · rw [V4i 11 (by decide) (by decide), eiv, pz.i, em11.1]
    omega
  · rw [V4i 19 (by decide) (by decide), eiv, pz.i, em11.2]
    have z2' := W6.2.2.2.2.2.2.2.2
    have z1' : (w.i 19).toInt = (s1.i 19).toInt := by rw [wi 19 (by decide)]
    omega
  obtain ⟨jj, hjj⟩ : ∃ jj, jj = JCX G' ω h0 c0 (vws S s (c :: L)) := ⟨_, rfl⟩
  rw [← hjj] at hcc k cur
  clear hjj ng
  obtain ⟨ct9, ⟨pq, ⟨s30, s11⟩, ⟨u14, u22⟩, pe25, pem⟩, ⟨s31, s9, s12, pe20⟩, ⟨ct10, ⟨-, hd, rp, -⟩, Gx, -, hY, hX⟩, kal⟩ := k
  have pcy1 : pcC y1.2 = pcC S := by
    rw [pcC.pe (ke_X1_open N p7.2 40 y1 ey1), show pcC p7.2 = pcC p2.2 by unfold pcC; rw [(aim_eq e7).1], pcC.pe (ke_X1_expect N S 205 p2 e2')]
  have pcp2 : pcC p2.2 = pcC S := pcC.pe (ke_X1_expect N S 205 p2 e2')
  have prz1 : pcR z1 = pcR s := by
    unfold pcR
    rw [z120]
  have pc15 : pcC p15.2 = pcC y5.2 := (pcC.pe (ke_X1_expect N y9.2 59 p15 e15)).trans (pcC.pe (ke_X1_close N y5.2 41 y9 ey9))
  have prn : pcR ne.2 = pcR u := (pcR.qe (kre_f_X12_need N sh.2 59 ne hne)).trans (pcR.qe (kre_f_X12_shut N u 41 sh hsh))
  have pcR2 : pcC R.2 = pcC p15.2 + 2 := by
    have z1' : pcC R.2 = pcC p30.2 := by unfold pcC; rw [R1 20 (by decide) (by decide) (by decide)]
    have z2' : pcC p30.2 = pcC p25.2 := by unfold pcC; rw [(aim_eq e30).1]
    rw [z1', z2', pe25, pe20]
  have prV : pcR V4 = pcR ne.2 + 1 := (pcR.qe qV).trans pem
  rw [pcR2, prV] at cur
  rw [R36] at cur
  rw [pe25, pe20] at ct9
  rw [pe20] at s30 s11 pq
  rw [pcp2] at ct10
  obtain ⟨p0, cp0, lp0, lps⟩ := hd (S.o c1.2.1 11) (Or.inr (Or.inl ⟨hr0, rfl⟩))
  have q66 := (rp go).1 (Or.inr (Or.inl hr0))
  rw [r66] at q66
  have cq : (s.a 66 T).toInt = (((s.a 66 T).toInt.toNat : Nat) : Int) := (Int.toNat_of_nonneg q66).symm
  have p12 := pq.1
  have bkj : jbk Gx ω (vw S s c1) jj = jj := if_neg (by rw [hr0]; decide)
  have cnj : jcn Gx ω (vw S s c1) jj = jj.up 2528 := by
    unfold jcn
    rw [if_pos (Or.inl hr0)]
  have jl : jlv (vw S s c1).v = 2528 := by rw [hr0]; rfl
  have en : ∀ (h l : Nat), jen Gx ω (vw S s c1) h l = [] := fun h l => jen.no (by rw [hr0]; decide) nty (by rw [hr0]; decide)
  have ps : (s.i 20).toInt = ((pcR s : Nat) : Int) := (Int.toNat_of_nonneg hv.p20.1).symm
  have vbq : vb.toInt = ((pcR ne.2 + 1 : Nat) : Int) := by
    rw [← pem, hvb, ← eiv]
    unfold pcR
    have z := p20n.1
    have z2' := W7.1.p20.1
    rw [eiv]
    exact (Int.toNat_of_nonneg z2').symm
  have ex : ∀ Y : Als, S01 (GU FC SF U nm X) (GU FC SF U nm Y) → v = 1 → GU FC SF U nm Y (pcC p15.2 + 2) (pcR ne.2 + 1) jj.h (ω + jj.l - (pcC p15.2 + 2)) 0 jj.c := fun Y sy h1 => sy _ _ _ _ _ _ (Nat.zero_le _) (cur h1).1
  have cond : ∀ Y : Als, S01 (GU FC SF U nm X) (GU FC SF U nm Y) → GU2 FC SF U nm Y p0 (s.a 66 T).toInt.toNat jj.h (ω + jj.l + 1264 - p0) jj.c → ¬ (S.i 36 = 0 ∧ s.a 51 G = 0) → ∀ g : Nat, GU FC SF U nm Y (pcC S) (pcR s) jj.h (ω + jj.l + 2528 - pcC S) g jj.c := fun Y sy hed ne0 => by
    have gv : gf = 4 ∨ v = 1 := by
      rcases hgf with ⟨z, z'⟩ | ⟨z, -⟩
      · exact Or.inr (vb2 ne0 z')
      · exact Or.inl z
    have z := kal Y sy (by
      rw [← pc15, ← prn]
      refine gi_UJnb ⟨⟨s12, by have := pq.2; omega⟩, hcc.up (Nat.le_add_right _ _)⟩ pq.2.1 ⟨⟨s31, s30, u14, p12⟩, jj.h, rfl, ⟨p0, _, ω + jj.l + 1264 - p0, ⟨by rw [s11]; exact cp0, by rw [u22]; exact cq⟩, by omega, hed.1⟩, ?_⟩
      rcases gv with w | w
      · exact Or.inl w
      · exact Or.inr ⟨pcC p15.2 + 2, ω + jj.l - (pcC p15.2 + 2), by rw [s9]; exact ct9, by omega, ex Y sy w⟩)
    rw [pcy1, prz1] at z
    exact z
  refine lop_fin (jh := jj) cp0 lp0 cq hY hX (fun Y h => by rw [← r66]; exact h.2.1 hr0) (fun Y sy hed => ⟨⟨fun z => absurd (hr0.symm.trans z) (by decide), fun z => absurd (hr0.symm.trans z) (by decide), fun z => absurd (hr0.symm.trans z) (by decide), fun _ => ⟨_, _, cp0, by rw [r66]; exact cq, lp0, hed⟩, fun z => absurd (hr0.symm.trans z) (by decide), fun z => absurd (hr0.symm.trans z) (by decide), fun z => absurd (hr0.symm.trans z) (by decide), fun z => absurd z nty, fun _ => noc.gl⟩, fun _ => ⟨fun fl => ?_, fun _ fl => ?_⟩, fun h1 => ?_⟩)
  · rw [bkj]
    have fl' : s.a 50 G = 1 := by rw [hGc]; exact fl
    exact ⟨_, _, ct9, vbq, ex Y sy (vb1 (by rw [fl']; decide))⟩
  · rw [cnj]
    have fl' : s.a 51 G = 1 := by rw [hGc]; exact fl
    refine ⟨_, _, ct10, ps, ?_⟩
    have z := cond Y sy hed (fun w => by rw [fl'] at w; exact absurd w.2 (by decide)) 0
    rw [show ω + (jj.up 2528).l - pcC S = ω + jj.l + 2528 - pcC S by (show ω + (jj.l + 2528) - pcC S = ω + jj.l + 2528 - pcC S; omega)]
    exact z
  · rw [en, jl]
    have z := cond Y sy hed (fun w => by rw [h1] at w; exact absurd w.1 (by decide))
    rw [show ω + (jj.l + 2528) - pcC S = ω + jj.l + 2528 - pcC S by omega]
    exact ⟨z 0, z 1⟩
