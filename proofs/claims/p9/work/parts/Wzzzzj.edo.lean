/-! both readers: a do's end -/
theorem fl_do {N : Nat} {a : Nat} {P : CS} {x2 y : Int32} {R : Unit × CS} (eD : (if x2 = 0 then (f_X6_isGoneTo N P a 0).bind fun p35 => (if p35.1 = 0 then some ((), CS.setI p35.2 36 0) else some ((), CS.setI p35.2 36 1)) else (if y = 0 then some ((), CS.setI P 36 1) else (f_X6_isGoneTo N P a 0).bind fun p41 => (if p41.1 = 0 then some ((), CS.setI p41.2 36 0) else some ((), CS.setI p41.2 36 1)))) = some R) (z : ¬ P.i 32 = 0) : ¬ R.2.i 32 = 0 := by
  have gn : ∀ R' : Unit × CS, ((f_X6_isGoneTo N P a 0).bind fun p35 => (if p35.1 = 0 then some ((), CS.setI p35.2 36 0) else some ((), CS.setI p35.2 36 1))) = some R' → ¬ R'.2.i 32 = 0 := fun R' h => by
    obtain ⟨p35, e35, h⟩ := hf_bind h
    have z5 : ¬ p35.2.i 32 = 0 := by rw [kF_X6_isGoneTo N P a 0 p35 e35 z]; exact z
    by_cases c : p35.1 = 0
    · rw [if_pos c] at h
      rw [← Option.some.inj h]
      exact z5
    · rw [if_neg c] at h
      rw [← Option.some.inj h]
      exact z5
  by_cases c : x2 = 0
  · rw [if_pos c] at eD
    exact gn R eD
  · rw [if_neg c] at eD
    by_cases k : y = 0
    · rw [if_pos k] at eD
      rw [← Option.some.inj eD]
      exact z
    · rw [if_neg k] at eD
      exact gn R eD
set_option maxHeartbeats 4000000 in
theorem en_do {N : Nat} (hN : 1000 ≤ N) {E1 : CS → Option (Unit × CS)} {E2 : CS → Option (Int32 × CS)} (hm1 : ∀ σ, Kf (CS.i σ 32) (E1 σ)) (hm2 : ∀ σ, Kf (CS.i σ 32) (E2 σ)) (hE2 : SXN N 22 E2) {d : Int32} {B : CS} {b : RS} {t0 n : Nat} {L : List CEL} {x : Int} {S : CS} {s U : RS} {c1 c : CEL} {R : Unit × CS} (hC : COR d B b t0 (c1 :: c :: L) x S s) (tp : TOP S s c1) (hM : MEN c1 S s) (h206 : S.o c1.2.1 0 = 206) (bz : BAZ B b (c1 :: c :: L)) (hT : t0 ≤ ceT c1) (e : f_X7_endBody N E1 E2 S c1.2.1 = some R) (g : f_X12_parse_10 N n s = some U) : (¬ R.2.i 32 = 0 ∧ ¬ U.i 15 = 0) ∨ ∃ (m : Nat) (u : RS), f_X12_parse_10 N m u = some U ∧ POPD d B b t0 c L R.2 u := by
  obtain ⟨one, o5, ts, h75, hm⟩ := hM
  obtain ⟨m1, e1, k1, m2, e2, k2, cst⟩ := STK.mem _ _ _ _ hC.2.1 c1 List.mem_cons_self
  obtain ⟨f1, f2, f3, f4⟩ := cst.2.2.1.2.2.2.2.2.2.2.1 h206
  have hv := hC.1
  have go : isGo (S.o c1.2.1 0) := Or.inr (Or.inr (Or.inr (Or.inl h206)))
  obtain ⟨T, hTc⟩ : ∃ T : Nat, T = ceT c1 := ⟨_, rfl⟩
  obtain ⟨G, hGc⟩ : ∃ G : Nat, G = ceG c1 := ⟨_, rfl⟩
  rw [← hTc] at ts f1 f2 f3
  rw [← hGc] at f3 f4
  -- the reference, to its condition
  obtain ⟨m2, V, hV, g2⟩ := rl_11 g ts hv.1.2.1 f1
  unfold f_X12_repeats at hV
  obtain ⟨hib, hV⟩ := hf_ite hV
  have t9 : T < 1000 := by
    have h2 : (s.i 63).toInt = (T : Int) := ts
    have := hib.2
    omega
  have g68 : (s.a 68 T).toNatClampNeg = G := by
    show (s.a 68 T).toInt.toNat = G
    omega
  rw [tp_nat ts, f2, if_neg (by decide), if_pos rfl, g68] at hV
  obtain ⟨-, hV⟩ := hf_ite hV
  obtain ⟨s1, hp1, hV⟩ := hf_bind hV
  obtain ⟨hD, inj, ord, lk, lw⟩ := hC.drop (by rw [h206]; unfold isTy; decide) (by rw [h206]; decide) (by rw [h206]; rfl) (by rw [h206]; rfl)
  obtain ⟨-, b30, b0, col, hc⟩ := id hC.2.2.2.2.2.2.2.2.2.2
  obtain ⟨hx48, hx49⟩ := hc.2.2.1 c1 List.mem_cons_self go
  rw [← hGc] at hx48 hx49 inj
  have e22a := pt_in (F := fun k => col k = some (G, false)) (κ := (G, false)) hc (fun k hk => hk) hx49 hp1
  have fre1 := (hc.fre b0).1
  have hcd := hc.drop (by rw [← hGc]; exact inj)
  rw [← hGc] at fre1 hcd
  obtain ⟨hE1, hc1⟩ := hD.e22 hcd (e22a.mono (fun k hk => fre1 k false hk))
  have s175 : s1.i 75 = S.i 36 := by rw [e22a.1]; exact h75
  have s1a : ∀ k : Nat, k ≠ 22 → s1.a k = s.a k := e22a.2.2.2.1
  have hrv : ∃ rv : Int32, (rv = 0 ∨ rv = 1) ∧ (rv = 0 ↔ (S.i 36 = 0 ∧ s.a 51 G = 0)) ∧ f_X12_repeats_114 N (RS.setA s1 67 T rv) (s.i 63) (s.a 68 T) = some V := by
    rw [s175, s1a 51 (by decide)] at hV
    by_cases z : S.i 36 = 0
    · rw [if_pos z] at hV
      by_cases k : s.a 51 G = 0
      · rw [if_pos k] at hV
        exact ⟨0, Or.inl rfl, ⟨fun _ => ⟨z, k⟩, fun _ => rfl⟩, hV⟩
      · rw [if_neg k] at hV
        exact ⟨1, Or.inr rfl, ⟨fun y => absurd y (by decide), fun y => absurd y.2 k⟩, hV⟩
    · rw [if_neg z] at hV
      exact ⟨1, Or.inr rfl, ⟨fun y => absurd y (by decide), fun y => absurd y.1 z⟩, hV⟩
  obtain ⟨rv, hr01, hrv, hV⟩ := hrv
  unfold f_X12_repeats_114 at hV
  rw [g68, tp_nat ts] at hV
  obtain ⟨-, hV⟩ := hf_ite hV
  have hbv : ∃ bv : Int32, (bv = 1 ↔ ¬ s.a 50 G = 0) ∧ f_X12_repeats_134 N (RS.setA (RS.setA s1 67 T rv) 72 T bv) (s.i 63) (s.a 68 T) = some V := by
    have z50 : (RS.setA s1 67 T rv).a 50 G = s.a 50 G := by rw [setA_nk (by decide), s1a 50 (by decide)]
    rw [z50] at hV
    by_cases z : s.a 50 G = 0
    · rw [if_pos z] at hV
      obtain ⟨-, hV⟩ := hf_ite hV
      exact ⟨0, ⟨fun y => absurd y (by decide), fun y => absurd z y⟩, hV⟩
    · rw [if_neg z] at hV
      obtain ⟨-, hV⟩ := hf_ite hV
      exact ⟨1, ⟨fun _ => z, fun _ => rfl⟩, hV⟩
  obtain ⟨bv, hbv, hV⟩ := hbv
  unfold f_X12_repeats_134 f_X12_repeats_195 at hV
  rw [g68, tp_nat ts] at hV
  obtain ⟨-, hV⟩ := hf_ite hV
  obtain ⟨-, hV⟩ := hf_ite hV
  obtain ⟨p21, h21, hV⟩ := hf_bind hV
  obtain ⟨p23, h23, hV⟩ := hf_bind hV
  have hth : ∃ v69 : Int32, ((p23.2.i 10 = 432 ∧ v69 = p23.2.i 17) ∨ (¬ p23.2.i 10 = 432 ∧ v69 = 0)) ∧ f_X12_then N (RS.setA p23.2 69 T v69) 2 20 = some V := by
    by_cases c4 : p23.2.i 10 = 432
    · rw [if_pos c4, ob_id] at hV
      exact ⟨_, Or.inl ⟨c4, rfl⟩, hV⟩
    · rw [if_neg c4, ob_id] at hV
      exact ⟨_, Or.inr ⟨c4, rfl⟩, hV⟩
  obtain ⟨v69, h69, hth⟩ := hth
  clear hV
  -- the goal goes
  obtain ⟨r1, hr1⟩ : ∃ y, y = RS.setA (RS.setA s1 67 T rv) 72 T bv := ⟨_, rfl⟩
  rw [← hr1] at h21
  have r1i : r1.i = s1.i ∧ r1.l = s1.l ∧ r1.b = s1.b := by rw [hr1]; exact ⟨rfl, rfl, rfl⟩
  have r1a : ∀ k : Nat, k ≠ 67 → k ≠ 72 → r1.a k = s1.a k := fun k h1 h2 => by rw [hr1, setA_nk h2, setA_nk h1]
  have r1f : ∀ k j : Nat, j ≠ T → r1.a k j = s1.a k j := fun k j hj => by
    rw [hr1]
    by_cases z : k = 72
    · rw [z, setA_ne hj, setA_nk (by decide)]
    · rw [setA_nk z]
      by_cases y : k = 67
      · rw [y, setA_ne hj]
      · rw [setA_nk y]
  have r167 : r1.a 67 T = rv := by rw [hr1, setA_nk (by decide)]; exact setA_at
  have r172 : r1.a 72 T = bv := by rw [hr1]; exact setA_at
  clear hr1
  obtain ⟨w, hw⟩ : ∃ y, y = RS.setI (RS.setA r1 70 T (r1.a 48 G)) 43 (r1.i 43 - 1) := ⟨_, rfl⟩
  have h21' : f_X12_need N w 415 = some p21 := by rw [hw]; exact h21
  have wi : ∀ k : Nat, k ≠ 43 → w.i k = s1.i k := fun k hk => by
    rw [hw, ← r1i.1]
    exact if_neg hk
  have w43' : w.i 43 = s1.i 43 - 1 := by
    rw [hw, ← r1i.1]
    rfl
  have wl : w.l = s1.l := by rw [hw]; exact r1i.2.1
  have wb : w.b = s1.b := by rw [hw]; exact r1i.2.2
  have wk : ∀ k : Nat, k ≠ 70 → w.a k = r1.a k := fun k hk => by
    rw [hw, rsI_a, setA_nk hk]
  have wfj : ∀ k j : Nat, j ≠ T → w.a k j = s1.a k j := fun k j hj => by
    by_cases z : k = 70
    · rw [hw, rsI_a, z, setA_ne hj]
      exact r1f 70 j hj
    · rw [wk k z]
      exact r1f k j hj
  have w70 : w.a 70 T = s.a 48 G := by
    rw [hw, rsI_a, setA_at, r1a 48 (by decide) (by decide), s1a 48 (by decide)]
  clear hw h21
  have wa : ∀ k : Nat, ¬ (64 ≤ k ∧ k ≤ 73) → w.a k = s1.a k := fun k hk => by rw [wk k (by omega), r1a k (by omega) (by omega)]
  have w67 : w.a 67 T = rv := by rw [wk 67 (by decide)]; exact r167
  have w72 : w.a 72 T = bv := by rw [wk 72 (by decide)]; exact r172
  have w64 : w.a 64 T = 11 := by rw [wk 64 (by decide), r1a 64 (by decide) (by decide), s1a 64 (by decide)]; exact f1
  have tpE : TOP S s1 c1 := tp.e22 e22a
  have w43 : (w.i 43).toInt = (G : Int) := by
    have e1 : (1 : Int32).toInt = 1 := by decide
    have hi := Int32.toInt_lt (s1.i 43)
    have := tpE.2.1
    have := nGo1 go
    rw [w43', toInt_sub] <;> rw [e1] <;> omega
  have nw0 : nWl (S.o c1.2.1 0) = 0 := by rw [h206]; rfl
  obtain ⟨hW, lwW, hinW, hin1, frW, tbW, cdW⟩ := hE1.go1 tpE lk (lw.e22 e22a) bz hT go nw0 (by rw [s1a 44 (by decide), ← hGc, f4]; decide) wi (by rw [← hGc]; exact w43) wl wb wa (by rw [← hTc]; exact wfj)
  rw [← hTc] at hinW hin1 frW
  have hcW := hc1.mv b0 hin1 (CKZ.rf S) frW tbW cdW
  have evW := hW.1
  have tw : tpI w = (T : Int) := by
    show (w.i 63).toInt = _
    rw [wi 63 (by decide), e22a.1]
    exact ts
  -- the class
  unfold f_X7_endBody at e
  obtain ⟨-, e⟩ := hf_ite e
  rw [if_neg (by rw [h206]; decide), if_neg (by rw [h206]; decide), if_pos h206] at e
  obtain ⟨P9, eD, e⟩ := hf_bind e
  have hx2 : ∃ x2 : Int32, (x2 = 0 ↔ (S.i 36 = 0 ∧ s.a 51 G = 0)) ∧ f_X7_endDo_25 N E1 E2 S c1.2.1 x2 = some P9 := by
    unfold f_X7_endDo f_X7_endDo_19 at eD
    by_cases z : S.i 36 = 0
    · rw [if_pos z] at eD
      obtain ⟨p46, e46, eD⟩ := hf_bind eD
      obtain ⟨y1, y2⟩ := y_gone hC go (Or.inr ⟨rfl, rfl⟩) e46
      have y3 : p46.1 = s.a 51 G := by
        rw [hGc]
        exact y2.trans (if_neg (by decide))
      rw [y1, y3] at eD
      by_cases k : s.a 51 G = 0
      · rw [if_pos k] at eD
        exact ⟨0, ⟨fun _ => ⟨z, k⟩, fun _ => rfl⟩, eD⟩
      · rw [if_neg k] at eD
        exact ⟨1, ⟨fun y => absurd y (by decide), fun y => absurd y.2 k⟩, eD⟩
    · rw [if_neg z] at eD
      exact ⟨1, ⟨fun y => absurd y (by decide), fun y => absurd y.1 z⟩, eD⟩
  clear eD
  obtain ⟨x2, hx2, eD⟩ := hx2
  unfold f_X7_endDo_25 f_X7_conditionInside at eD
  obtain ⟨p2, e2', eD⟩ := hf_bind eD
  obtain ⟨-, eD⟩ := hf_ite eD
  obtain ⟨p7, e7, eD⟩ := hf_bind eD
  obtain ⟨p11, e11, eD⟩ := hf_bind eD
  obtain ⟨y1, ey1, e11⟩ := hf_bind e11
  obtain ⟨y5, ey5, e11⟩ := hf_bind e11
  obtain ⟨y9, ey9, e11⟩ := hf_bind e11
  obtain ⟨hb01, e11⟩ := hf_ite e11
  cases e11
  obtain ⟨p15, e15, eD⟩ := hf_bind eD
  obtain ⟨-, eD⟩ := hf_ite eD
  obtain ⟨p20, e20, eD⟩ := hf_bind eD
  obtain ⟨-, eD⟩ := hf_ite eD
  obtain ⟨p25, e25, eD⟩ := hf_bind eD
  obtain ⟨-, eD⟩ := hf_ite eD
  obtain ⟨p30, e30, eD⟩ := hf_bind eD
  have f30 : ¬ p30.2.i 32 = 0 → ¬ R.2.i 32 = 0 := fun z => by
    have z1 : ¬ P9.2.i 32 = 0 := fl_do eD z
    rw [kF_X7_endBody_193 N E1 E2 hm1 hm2 P9.2 _ R e z1]
    exact z1
  have f15 : ¬ p15.2.i 32 = 0 → ¬ R.2.i 32 = 0 := fun z => by
    have z1 : ¬ p20.2.i 32 = 0 := by rw [fst_add e20]; exact z
    have z2 : ¬ p25.2.i 32 = 0 := by rw [fst_add e25]; exact z1
    exact f30 (by rw [kF_X0_aim N p25.2 _ p30 e30 z2]; exact z2)
  have f9 : ¬ y9.2.i 32 = 0 → ¬ R.2.i 32 = 0 := fun z => f15 (by rw [kF_X1_expect N y9.2 59 p15 e15 z]; exact z)
  have f5 : ¬ y5.2.i 32 = 0 → ¬ R.2.i 32 = 0 := fun z => f9 (by rw [kF_X1_close N y5.2 41 y9 ey9 z]; exact z)
  have f1' : ¬ y1.2.i 32 = 0 → ¬ R.2.i 32 = 0 := fun z => f5 (by rw [kF_X1_condition N E1 E2 hm1 hm2 y1.2 y5 ey5 z]; exact z)
  have f2' : ¬ p2.2.i 32 = 0 → ¬ R.2.i 32 = 0 := fun z => by
    have z1 : ¬ p7.2.i 32 = 0 := by rw [kF_X0_aim N p2.2 _ p7 e7 z]; exact z
    exact f1' (by rw [kF_X1_open N p7.2 40 y1 ey1 z1]; exact z1)
  -- while (
  have W0 := WYX.rf evW tw
  rcases W0.nd hN (c := 205) (e := 415) (Or.inr ⟨by decide, by decide⟩) (by decide) (by decide) (by decide) e2' h21' with ⟨o1, o2, o3⟩ | ⟨o1, W1, fr1⟩
  · refine Or.inl ⟨f2' o2, u_flt g2 (krf_f_X12_then N _ 2 20 V hth ?_)⟩
    show ¬ p23.2.i 15 = 0
    exact krf_f_X12_open N p21.2 40 p23 h23 o3
  have W2 := W1.ai e7
  rcases W2.op hN (c := 40) (e := 40) (Or.inl ⟨by decide, by decide⟩) (by decide) (by decide) (by decide) ey1 h23 with ⟨o1', o2, o3⟩ | ⟨o1', W3, fr3⟩
  · exact Or.inl ⟨f1' o2, u_flt g2 (krf_f_X12_then N _ 2 20 V hth (show ¬ p23.2.i 15 = 0 from o3))⟩
  have W3' := W3.sa (j := 69) (v := v69) ⟨by omega, by omega⟩
  have ph0 : 0 ≤ phI w := evW.2.2.2.2.2.2.2.1
  have p3 : 3 ≤ phI (RS.setA p23.2 69 T v69) := by
    have := W3'.2.2.2.2.2.2.1
    omega
  rcases y_cond hN hm1 hm2 hE2 W3'.1 W3'.2.1 p3 ey5 hth g2 with ⟨z1, z2⟩ | ⟨m3, u, g3, xo, hn01, hn1⟩
  · exact Or.inl ⟨f5 z1, z2⟩
  have W4 := W3'.exo xo
  obtain ⟨x64, x65, x66, x67, x68, x69, x70, x71, x72, x73, -⟩ := xo.2.2.1
  have q3 : ∀ k : Nat, 64 ≤ k → k ≤ 73 → k ≠ 69 → (RS.setA p23.2 69 T v69).a k T = w.a k T := fun k h1 h2 h3 => by
    rw [setA_nk h3, (fr3 (T + 1)).all k h1 h2, (fr1 (T + 1)).all k h1 h2]
  have u64 : u.a 64 T = 11 := by
    rw [x64, q3 64 (by decide) (by decide) (by decide)]
    exact w64
  have u69 : u.a 69 T = v69 := by
    rw [x69]
    exact setA_at
  have r17 : 0 < (p23.2.i 17).toInt ∧ (p23.2.i 17).toInt < 2000 := by
    have y1 : 3 ≤ phI p23.2 := p3
    have y2 := W3.1.2.2.2.2.2.2.1
    have y3 := W3.1.2.2.2.2.2.2.2.2.1
    have y4 := i11_hi W3.1
    unfold phI at y1
    omega
  -- behind the condition
  obtain ⟨m4, V4, hV4, g4⟩ := rl_11 g3 W4.2.1 W4.1.1.2.1 u64
  unfold f_X12_repeats at hV4
  obtain ⟨-, hV4⟩ := hf_ite hV4
  rw [tp_nat W4.2.1, if_neg (show ¬ u.a 65 T = 0 by rw [x65]; decide), if_neg (show ¬ u.a 65 T = 1 by rw [x65]; decide), u69] at hV4
  obtain ⟨jt, hjt, hV4⟩ := hf_bind hV4
  have ejt := jt_eq hjt h69 r17 hn01 hn1
  rw [ejt] at hV4
  obtain ⟨sh, hsh, hV4⟩ := hf_bind hV4
  obtain ⟨ne, hne, hV4⟩ := hf_bind hV4
  obtain ⟨em, hem, hV4⟩ := hf_bind hV4
  obtain ⟨pt, hpt, hV4⟩ := hf_bind hV4
  have fV : ¬ pt.i 15 = 0 → ¬ V4.i 15 = 0 := fun z => by
    have ov : ∀ (v : Int32) (K : Option RS), K = ((f_X12_over N pt v).bind fun p => some p) → K = some V4 → ¬ V4.i 15 = 0 := fun v K h1 h2 => by
      rw [h1, ob_id] at h2
      exact krf_f_X12_over N pt v V4 h2 z
    by_cases k1 : pt.a 67 T = 1
    · rw [if_pos k1] at hV4
      by_cases k2 : y5.1 = 0
      · rw [if_pos k2] at hV4
        exact ov 1 _ rfl hV4
      · rw [if_neg k2] at hV4
        by_cases k3 : pt.a 72 T = 1
        · rw [if_pos k3] at hV4
          exact ov 1 _ rfl hV4
        · rw [if_neg k3] at hV4
          exact ov 0 _ rfl hV4
    · rw [if_neg k1] at hV4
      by_cases k3 : pt.a 72 T = 1
      · rw [if_pos k3] at hV4
        exact ov 1 _ rfl hV4
      · rw [if_neg k3] at hV4
        exact ov 0 _ rfl hV4
  have fN : ¬ ne.2.i 15 = 0 → ¬ V4.i 15 = 0 := fun z => fV (krf_f_X12_patch N em.2 _ _ pt hpt (krf_f_X12_emit N ne.2 _ _ em hem z))
  rcases W4.cl hN evW (by omega) (c := 41) (e := 41) (Or.inl ⟨by decide, by decide⟩) (by decide) (by decide) (by decide) ey9 hsh with ⟨o1'', o2, o3⟩ | ⟨o1'', W5, fr5⟩
  · exact Or.inl ⟨f9 o2, u_flt g4 (fN (krf_f_X12_need N sh.2 59 ne hne o3))⟩
  rcases W5.nd hN (c := 59) (e := 59) (Or.inl ⟨by decide, by decide⟩) (by decide) (by decide) (by decide) e15 hne with ⟨o1', o2, o3⟩ | ⟨o1', W6, fr6⟩
  · exact Or.inl ⟨f15 o2, u_flt g4 (fN o3)⟩
  have p6 : 1 ≤ phI ne.2 := by
    have := W6.2.2.2.2.2.2.1
    omega
  obtain ⟨W7, fr7, -, -, -⟩ := W6.em p6 hem
  have W8 := ((W7.ad e20).ad e25).ai e30
  have hX := hW.wyx hinW (by omega) W8 ⟨by omega, by omega, by omega⟩
  obtain ⟨-, tE, frE, tbE, ckE, -⟩ := id W8
  have hcX := hcW.mv b0 hinW ckE.z frE tbE.1.r tbE.2
  have emF : ∀ k : Nat, 64 ≤ k → k ≤ 73 → em.2.a k T = u.a k T := fun k h1 h2 => by
    rw [(fr7 (T + 1)).all k h1 h2, (fr6 (T + 1)).all k h1 h2, (fr5 (T + 1)).all k h1 h2]
  have em70 : em.2.a 70 T = s.a 48 G := by
    rw [emF 70 (by decide) (by decide), x70, q3 70 (by decide) (by decide) (by decide)]
    exact w70
  have em67 : em.2.a 67 T = rv := by
    rw [emF 67 (by decide) (by decide), x67, q3 67 (by decide) (by decide) (by decide)]
    exact w67
  have em72 : em.2.a 72 T = bv := by
    rw [emF 72 (by decide) (by decide), x72, q3 72 (by decide) (by decide) (by decide)]
    exact w72
  have hin0 := hC.inl tp (T := ceT c1 + wid (S.o c1.2.1 0)) rfl
  have eo1 : p30.2.o c1.2.1 = S.o c1.2.1 := (hin0.o ckE.z c1 List.mem_cons_self).1
  have eoL : ∀ y ∈ c :: L, p30.2.o y.2.1 = S.o y.2.1 := fun y hy => (hinW.o ckE.z y hy).1
  have e66 : ∀ z ∈ c :: L, em.2.a 66 (ceT z) = s.a 66 (ceT z) := fun z hz => by
    have a := (hinW z hz).2.2.1
    have b := wid1 (S.o z.2.1 0)
    rw [(frE (ceT z) (by omega)).2.2.1, wfj 66 (ceT z) (by omega), s1a 66 (by decide)]
  rw [em70] at hpt
  have e22c : E22 (FRE p30.2 em.2 (c :: L) (cdr G col) (b.i 20).toInt) em.2 pt := by
    unfold f_X12_patch at hpt
    refine pt_e22 (κ := (G, true)) (col := col) (fun k hk => (fre1 k true hk).mv2 eoL e66) N (s.i 20).toInt.toNat em.2 pt (em.2.i 20) (s.a 48 G) (fun k hk _ => ?_) ?_ hpt
    · have k20 := (hc.1 k _ hk).2
      rw [tbE.2.2 k (by rw [wi 20 (by decide), e22a.1]; exact k20), wa 22 (by decide), e22a.2.2.2.2 k (fun z => by
        have z' : col k = some (G, false) := z
        rw [hk] at z'
        have z2 : true = false := congrArg Prod.snd (Option.some.inj z')
        exact absurd z2 (by decide))]
      exact hc.2.1 k _ hk
    · rcases hx48 with z | ⟨j, j1, j2⟩
      · exact Or.inl z
      · have := (hc.1 j _ j2).2
        exact Or.inr ⟨j, j1, by omega, j2⟩
  obtain ⟨hY, -⟩ := hX.e22 hcX e22c
  have pi : pt.i = em.2.i := e22c.1
  have pa : ∀ k : Nat, k ≠ 22 → pt.a k = em.2.a k := e22c.2.2.2.1
  -- whether its end is reached
  have h160 : (p30.2.i 55).toInt < 160 := by
    have z := W8.1.sj
    have y := i11_hi W8.1
    unfold SJB at z
    omega
  have gon : ∀ p : Int32 × CS, f_X6_isGoneTo N p30.2 c1.2.1 0 = some p → p.2 = p30.2 ∧ p.1 = s.a 50 G := fun p hp => by
    obtain ⟨y1, y2⟩ := y_goneX hC go (Or.inl ⟨rfl, rfl⟩) (by rw [eo1]) (by rw [eo1]) ckE.2.2.2.2.2.1 h160 ckE.2.2.2.2.2.2.1 (fun k k1 k2 => by
      rcases ckE.2.2.2.2.2.2.2.1 k k1 k2 with z | z
      · exact Or.inl z
      · exact Or.inr z.1) hp
    refine ⟨y1, ?_⟩
    rw [hGc]
    exact y2.trans (if_pos rfl)
  have gone : ∀ K : Option (Unit × CS), K = ((f_X6_isGoneTo N p30.2 c1.2.1 0).bind fun p35 => (if p35.1 = 0 then some ((), CS.setI p35.2 36 0) else some ((), CS.setI p35.2 36 1))) → K = some P9 → (s.a 50 G = 0 ∧ P9.2 = CS.setI p30.2 36 0) ∨ (¬ s.a 50 G = 0 ∧ P9.2 = CS.setI p30.2 36 1) := fun K h1 h2 => by
    rw [h1] at h2
    obtain ⟨p, hp, h2⟩ := hf_bind h2
    obtain ⟨y1, y2⟩ := gon p hp
    rw [y1, y2] at h2
    by_cases z : s.a 50 G = 0
    · rw [if_pos z] at h2
      exact Or.inl ⟨z, by rw [← Option.some.inj h2]⟩
    · rw [if_neg z] at h2
      exact Or.inr ⟨z, by rw [← Option.some.inj h2]⟩
  have fin : ∃ v : Int32, (v = 0 ∨ v = 1) ∧ f_X12_over N pt v = some V4 ∧ P9.2 = CS.setI p30.2 36 v := by
    rw [pa 67 (by decide), pa 72 (by decide), em67, em72] at hV4
    have br : ∀ K : Option RS, K = (if bv = 1 then (f_X12_over N pt 1).bind fun p52 => some p52 else (f_X12_over N pt 0).bind fun p50 => some p50) → K = some V4 → ((s.a 50 G = 0 ∧ P9.2 = CS.setI p30.2 36 0) ∨ (¬ s.a 50 G = 0 ∧ P9.2 = CS.setI p30.2 36 1)) → ∃ v : Int32, (v = 0 ∨ v = 1) ∧ f_X12_over N pt v = some V4 ∧ P9.2 = CS.setI p30.2 36 v := fun K h1 h2 h3 => by
      rw [h1] at h2
      rcases h3 with ⟨z, hz⟩ | ⟨z, hz⟩
      · rw [if_neg (fun y => hbv.mp y z), ob_id] at h2
        exact ⟨0, Or.inl rfl, h2, hz⟩
      · rw [if_pos (hbv.mpr z), ob_id] at h2
        exact ⟨1, Or.inr rfl, h2, hz⟩
    by_cases z : S.i 36 = 0 ∧ s.a 51 G = 0
    · have z1 := hrv.mpr z
      have z2 := hx2.mpr z
      rw [if_neg (show ¬ rv = 1 by rw [z1]; decide)] at hV4
      rw [if_pos z2] at eD
      exact br _ rfl hV4 (gone _ rfl eD)
    · have z1 : rv = 1 := hr01.resolve_left (fun y => z (hrv.mp y))
      have z2 : ¬ x2 = 0 := fun y => z (hx2.mp y)
      rw [if_pos z1] at hV4
      rw [if_neg z2] at eD
      by_cases k : y5.1 = 0
      · have hV5 := (if_pos k).symm.trans hV4
        have eD5 := (if_pos k).symm.trans eD
        rw [ob_id] at hV5
        exact ⟨1, Or.inr rfl, hV5, by rw [← Option.some.inj eD5]⟩
      · have hV5 := (if_neg k).symm.trans hV4
        have eD5 := (if_neg k).symm.trans eD
        exact br _ rfl hV5 (gone _ rfl eD5)
  obtain ⟨v, hv1, ho, hP9⟩ := fin
  rw [hP9] at e
  obtain ⟨i22, i36, i38, i50, i53, i56⟩ := ckE.1
  have n1 := lk.1
  have t1 := tp.1
  obtain ⟨e1', e50, e53, e36, er⟩ := e_193 (n := c.1) (by rw [i53]; omega) e
  have c50 : S.i 50 = S.o c1.2.1 3 := hm one (by rw [h206]; decide) (by rw [h206]; decide)
  have s50 := hv.2.1.1
  obtain ⟨tb1, tb2, tb3, tb4, tb5, tb6, tb7, tb8, tb9, tb10⟩ := tbE.1.1
  have lkP : LNK p30.2 c1 c := by
    unfold LNK at *
    rw [eo1, eoL c List.mem_cons_self]
    exact lk
  have lwP : LOW p30.2 pt c := (lwW.mv (eoL c List.mem_cons_self) frE (by rw [hTc, lk.2.1]; exact Nat.le_refl _)).e22 e22c
  have p43 : (pt.i 43).toInt = (ceG c1 : Int) := by rw [pi, tb5, ← hGc]; exact w43
  have p56 : (pt.i 56).toInt = (ceW c1 : Int) := by
    have z := tpE.2.2
    rw [nw0] at z
    rw [pi, tb7, wi 56 (by decide)]
    omega
  have p38 : pt.i 38 = S.o c1.2.1 3 := by rw [pi, tb4, wi 38 (by decide), e22a.1, ← c50, s50]
  have tbb := hC.2.2.2.2.2.1.2.1
  have ob := hC.2.2.2.2.2.2.2.1.2
  refine Or.inr ⟨m4, V4, g4, (pop_coreG (ng := 0) (c1 := c1) hY ⟨by rw [i53]; exact t1, by omega, by rw [eo1, nw0]; omega⟩ lkP lwP bz hT (by omega) ?_ (by rw [eo1]; exact nw0) (Or.inl rfl) hv1 ho ⟨fun _ _ _ _ => rfl, rfl, rfl, rfl⟩ (by rw [eo1]; exact p38) (by omega) ⟨?_, ?_⟩ (fun y hy => ?_) e1' e50 e53 e36 er).1⟩
  · rw [← hTc]
    show (pt.i 63).toInt = _
    rw [pi]
    exact tE
  · rw [eo1, ← c50, s50]
    exact tbb.1
  · rw [eo1, i50, c50]
    exact Int.le_refl _
  · rw [eoL y hy, eo1, ← c50]
    exact (ob.1 y (List.mem_cons_of_mem _ hy)).2
