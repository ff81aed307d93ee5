section
/-! both readers: a do's end -/
theorem fl_do {N : Nat} {a : Nat} {P : CS} {x2 y : Int32} {R : Unit × CS} (eD : (if x2 = 0 then (f_X6_isGoneTo N P a 0).bind fun p35 => (if p35.1 = 0 then some ((), CS.setI p35.2 36 0) else some ((), CS.setI p35.2 36 1)) else (if y = 0 then some ((), CS.setI P 36 1) else (f_X6_isGoneTo N P a 0).bind fun p41 => (if p41.1 = 0 then some ((), CS.setI p41.2 36 0) else some ((), CS.setI p41.2 36 1)))) = some R) (z : ¬ P.i 32 = 0) : ¬ R.2.i 32 = 0 := by
  have gn : ∀ R' : Unit × CS, ((f_X6_isGoneTo N P a 0).bind fun p35 => (if p35.1 = 0 then some ((), CS.setI p35.2 36 0) else some ((), CS.setI p35.2 36 1))) = some R' → ¬ R'.2.i 32 = 0 := fun R' h => by
    obtain ⟨p35, e35, h⟩ := hf_bind h
    have z5 : ¬ p35.2.i 32 = 0 := by rw [kF_X6_isGoneTo N P a 0 p35 e35 z]; exact z
    by_cases c : p35.1 = 0
    · rw [if_pos c] at h
      rw [← Option.some.inj h]
      exact z5
    · rw [if_neg c] at h
      rw [← Option.some.inj h]
      exact z5
  by_cases c : x2 = 0
  · rw [if_pos c] at eD
    exact gn R eD
  · rw [if_neg c] at eD
    by_cases k : y = 0
    · rw [if_pos k] at eD
      rw [← Option.some.inj eD]
      exact z
    · rw [if_neg k] at eD
      exact gn R eD
set_option maxHeartbeats 8000000 in
theorem en_do {N : Nat} (hN : 1000 ≤ N) {E1 : CS → Option (Unit × CS)} {E2 : CS → Option (Int32 × CS)} (hm1 : ∀ σ, Kf (CS.i σ 32) (E1 σ)) (hm2 : ∀ σ, Kf (CS.i σ 32) (E2 σ)) (hE2 : SXN N 22 E2) {d : Int32} {B : CS} {b : RS} {t0 n : Nat} {L : List CEL} {x : Int} {S : CS} {s U : RS} {c1 c : CEL} {R : Unit × CS} {Aj : JBA} (mA : JBM U Aj) (hC : COR d B b t0 (c1 :: c :: L) x S s) (tp : TOP S s c1) (hM : MEN c1 S s) (h206 : S.o c1.2.1 0 = 206) (bz : BAZ B b (c1 :: c :: L)) (hT : t0 ≤ ceT c1) (e : f_X7_endBody N E1 E2 S c1.2.1 = some R) (g : f_X12_parse_10 N n s = some U) : (¬ R.2.i 32 = 0 ∧ ¬ U.i 15 = 0) ∨ ∃ (m : Nat) (u : RS), f_X12_parse_10 N m u = some U ∧ POPD d B b t0 c L R.2 u ∧ JTR Aj U B b (c1 :: c :: L) S s (vws R.2 u (c :: L)) R.2 u := by
  obtain ⟨one, o5, ts, h75, hm⟩ := hM
  obtain ⟨m1, e1, k1, m2, e2, k2, cst⟩ := STK.mem _ _ _ _ hC.2.1 c1 List.mem_cons_self
  obtain ⟨f1, f2, f3, f4⟩ := cst.2.2.1.2.2.2.2.2.2.2.1 h206
  have hv := hC.1
  have go : isGo (S.o c1.2.1 0) := Or.inr (Or.inr (Or.inr (Or.inl h206)))
  obtain ⟨T, hTc⟩ : ∃ T : Nat, T = ceT c1 := ⟨_, rfl⟩
  obtain ⟨G, hGc⟩ : ∃ G : Nat, G = ceG c1 := ⟨_, rfl⟩
  rw [← hTc] at ts f1 f2 f3
  rw [← hGc] at f3 f4
  -- the reference, to its condition
  obtain ⟨m2, V, hV, g2⟩ := rl_11 g ts hv.1.2.1 f1
  unfold f_X12_repeats at hV
  obtain ⟨hib, hV⟩ := hf_ite hV
  have t9 : T < 1000 := by
    have h2 : (s.i 63).toInt = (T : Int) := ts
    have := hib.2
    omega
  have g68 : (s.a 68 T).toNatClampNeg = G := by
    show (s.a 68 T).toInt.toNat = G
    omega
  rw [tp_nat ts, f2, if_neg (by decide), if_pos rfl, g68] at hV
  obtain ⟨-, hV⟩ := hf_ite hV
  obtain ⟨s1, hp1, hV⟩ := hf_bind hV
  obtain ⟨hD, inj, ord, lk, lw⟩ := hC.drop (by rw [h206]; unfold isTy; decide) (by rw [h206]; decide) (by rw [h206]; rfl) (by rw [h206]; rfl)
  obtain ⟨-, b30, b0, col, hc⟩ := id hC.2.2.2.2.2.2.2.2.2.2
  obtain ⟨hx48, hx49⟩ := hc.2.2.1 c1 List.mem_cons_self go
  rw [← hGc] at hx48 hx49 inj
  have e22a := pt_in (F := fun k => col k = some (G, false)) (κ := (G, false)) hc (fun k hk => hk) hx49 hp1
  have fre1 := (hc.fre b0).1
  have hcd := hc.drop (by rw [← hGc]; exact inj)
  rw [← hGc] at fre1 hcd
  obtain ⟨hE1, hc1⟩ := hD.e22 hcd (e22a.mono (fun k hk => fre1 k false hk))
  have s175 : s1.i 75 = S.i 36 := by rw [e22a.1]; exact h75
  have s1a : ∀ k : Nat, k ≠ 22 → s1.a k = s.a k := e22a.2.2.2.1
  have hrv : ∃ rv : Int32, (rv = 0 ∨ rv = 1) ∧ (rv = 0 ↔ (S.i 36 = 0 ∧ s.a 51 G = 0)) ∧ f_X12_repeats_114 N (RS.setA s1 67 T rv) (s.i 63) (s.a 68 T) = some V := by
    rw [s175, s1a 51 (by decide)] at hV
    by_cases z : S.i 36 = 0
    · rw [if_pos z] at hV
      by_cases k : s.a 51 G = 0
      · rw [if_pos k] at hV
        exact ⟨0, Or.inl rfl, ⟨fun _ => ⟨z, k⟩, fun _ => rfl⟩, hV⟩
      · rw [if_neg k] at hV
        exact ⟨1, Or.inr rfl, ⟨fun y => absurd y (by decide), fun y => absurd y.2 k⟩, hV⟩
    · rw [if_neg z] at hV
      exact ⟨1, Or.inr rfl, ⟨fun y => absurd y (by decide), fun y => absurd y.1 z⟩, hV⟩
  obtain ⟨rv, hr01, hrv, hV⟩ := hrv
  unfold f_X12_repeats_114 at hV
  rw [g68, tp_nat ts] at hV
  obtain ⟨-, hV⟩ := hf_ite hV
  have hbv : ∃ bv : Int32, (bv = 1 ↔ ¬ s.a 50 G = 0) ∧ f_X12_repeats_134 N (RS.setA (RS.setA s1 67 T rv) 72 T bv) (s.i 63) (s.a 68 T) = some V := by
    have z50 : (RS.setA s1 67 T rv).a 50 G = s.a 50 G := by rw [setA_nk (by decide), s1a 50 (by decide)]
    rw [z50] at hV
    by_cases z : s.a 50 G = 0
    · rw [if_pos z] at hV
      obtain ⟨-, hV⟩ := hf_ite hV
      exact ⟨0, ⟨fun y => absurd y (by decide), fun y => absurd z y⟩, hV⟩
    · rw [if_neg z] at hV
      obtain ⟨-, hV⟩ := hf_ite hV
      exact ⟨1, ⟨fun _ => z, fun _ => rfl⟩, hV⟩
  obtain ⟨bv, hbv, hV⟩ := hbv
  unfold f_X12_repeats_134 f_X12_repeats_195 at hV
  rw [g68, tp_nat ts] at hV
  obtain ⟨-, hV⟩ := hf_ite hV
  obtain ⟨-, hV⟩ := hf_ite hV
  obtain ⟨p21, h21, hV⟩ := hf_bind hV
  obtain ⟨p23, h23, hV⟩ := hf_bind hV
  have hth : ∃ v69 : Int32, ((p23.2.i 10 = 432 ∧ v69 = p23.2.i 17) ∨ (¬ p23.2.i 10 = 432 ∧ v69 = 0)) ∧ f_X12_then N (RS.setA p23.2 69 T v69) 2 20 = some V := by
    by_cases c4 : p23.2.i 10 = 432
    · rw [if_pos c4, ob_id] at hV
      exact ⟨_, Or.inl ⟨c4, rfl⟩, hV⟩
    · rw [if_neg c4, ob_id] at hV
      exact ⟨_, Or.inr ⟨c4, rfl⟩, hV⟩
  obtain ⟨v69, h69, hth⟩ := hth
  clear hV
  -- the goal goes
  obtain ⟨r1, hr1⟩ : ∃ y, y = RS.setA (RS.setA s1 67 T rv) 72 T bv := ⟨_, rfl⟩
  rw [← hr1] at h21
  have r1i : r1.i = s1.i ∧ r1.l = s1.l ∧ r1.b = s1.b := by rw [hr1]; exact ⟨rfl, rfl, rfl⟩
  have r1a : ∀ k : Nat, k ≠ 67 → k ≠ 72 → r1.a k = s1.a k := fun k h1 h2 => by rw [hr1, setA_nk h2, setA_nk h1]
  have r1f : ∀ k j : Nat, j ≠ T → r1.a k j = s1.a k j := fun k j hj => by
    rw [hr1]
    by_cases z : k = 72
    · rw [z, setA_ne hj, setA_nk (by decide)]
    · rw [setA_nk z]
      by_cases y : k = 67
      · rw [y, setA_ne hj]
      · rw [setA_nk y]
  have r167 : r1.a 67 T = rv := by rw [hr1, setA_nk (by decide)]; exact setA_at
  have r172 : r1.a 72 T = bv := by rw [hr1]; exact setA_at
  clear hr1
  obtain ⟨w, hw⟩ : ∃ y, y = RS.setI (RS.setA r1 70 T (r1.a 48 G)) 43 (r1.i 43 - 1) := ⟨_, rfl⟩
  have h21' : f_X12_need N w 415 = some p21 := by rw [hw]; exact h21
  have wi : ∀ k : Nat, k ≠ 43 → w.i k = s1.i k := fun k hk => by
    rw [hw, ← r1i.1]
    exact if_neg hk
  have w43' : w.i 43 = s1.i 43 - 1 := by
    rw [hw, ← r1i.1]
    rfl
  have wl : w.l = s1.l := by rw [hw]; exact r1i.2.1
  have wb : w.b = s1.b := by rw [hw]; exact r1i.2.2
  have wk : ∀ k : Nat, k ≠ 70 → w.a k = r1.a k := fun k hk => by
    rw [hw, rsI_a, setA_nk hk]
  have wfj : ∀ k j : Nat, j ≠ T → w.a k j = s1.a k j := fun k j hj => by
    by_cases z : k = 70
    · rw [hw, rsI_a, z, setA_ne hj]
      exact r1f 70 j hj
    · rw [wk k z]
      exact r1f k j hj
  have w70 : w.a 70 T = s.a 48 G := by
    rw [hw, rsI_a, setA_at, r1a 48 (by decide) (by decide), s1a 48 (by decide)]
  clear hw h21
  have wa : ∀ k : Nat, ¬ (64 ≤ k ∧ k ≤ 73) → w.a k = s1.a k := fun k hk => by rw [wk k (by omega), r1a k (by omega) (by omega)]
  have w67 : w.a 67 T = rv := by rw [wk 67 (by decide)]; exact r167
  have w72 : w.a 72 T = bv := by rw [wk 72 (by decide)]; exact r172
  have w64 : w.a 64 T = 11 := by rw [wk 64 (by decide), r1a 64 (by decide) (by decide), s1a 64 (by decide)]; exact f1
  have tpE : TOP S s1 c1 := tp.e22 e22a
  have w43 : (w.i 43).toInt = (G : Int) := by
    have e1 : (1 : Int32).toInt = 1 := by decide
    have hi := Int32.toInt_lt (s1.i 43)
    have := tpE.2.1
    have := nGo1 go
    rw [w43', toInt_sub] <;> rw [e1] <;> omega
  have nw0 : nWl (S.o c1.2.1 0) = 0 := by rw [h206]; rfl
  obtain ⟨hW, lwW, hinW, hin1, frW, tbW, cdW⟩ := hE1.go1 tpE lk (lw.e22 e22a) bz hT go nw0 (by rw [s1a 44 (by decide), ← hGc, f4]; decide) wi (by rw [← hGc]; exact w43) wl wb wa (by rw [← hTc]; exact wfj)
  rw [← hTc] at hinW hin1 frW
  have hcW := hc1.mv b0 hin1 (CKZ.rf S) frW tbW cdW
  have evW := hW.1
  have tw : tpI w = (T : Int) := by
    show (w.i 63).toInt = _
    rw [wi 63 (by decide), e22a.1]
    exact ts
  -- the class
  unfold f_X7_endBody at e
  obtain ⟨-, e⟩ := hf_ite e
  rw [if_neg (by rw [h206]; decide), if_neg (by rw [h206]; decide), if_pos h206] at e
  obtain ⟨P9, eD, e⟩ := hf_bind e
  have hx2 : ∃ x2 : Int32, (x2 = 0 ↔ (S.i 36 = 0 ∧ s.a 51 G = 0)) ∧ f_X7_endDo_25 N E1 E2 S c1.2.1 x2 = some P9 := by
    unfold f_X7_endDo f_X7_endDo_19 at eD
    by_cases z : S.i 36 = 0
    · rw [if_pos z] at eD
      obtain ⟨p46, e46, eD⟩ := hf_bind eD
      obtain ⟨y1, y2⟩ := y_gone hC go (Or.inr ⟨rfl, rfl⟩) e46
      have y3 : p46.1 = s.a 51 G := by
        rw [hGc]
        exact y2.trans (if_neg (by decide))
      rw [y1, y3] at eD
      by_cases k : s.a 51 G = 0
      · rw [if_pos k] at eD
        exact ⟨0, ⟨fun _ => ⟨z, k⟩, fun _ => rfl⟩, eD⟩
      · rw [if_neg k] at eD
        exact ⟨1, ⟨fun y => absurd y (by decide), fun y => absurd y.2 k⟩, eD⟩
    · rw [if_neg z] at eD
      exact ⟨1, ⟨fun y => absurd y (by decide), fun y => absurd y.1 z⟩, eD⟩
  clear eD
  obtain ⟨x2, hx2, eD⟩ := hx2
  unfold f_X7_endDo_25 f_X7_conditionInside at eD
  obtain ⟨p2, e2', eD⟩ := hf_bind eD
  obtain ⟨-, eD⟩ := hf_ite eD
  obtain ⟨p7, e7, eD⟩ := hf_bind eD
  obtain ⟨p11, e11, eD⟩ := hf_bind eD
  obtain ⟨y1, ey1, e11⟩ := hf_bind e11
  obtain ⟨y5, ey5, e11⟩ := hf_bind e11
  obtain ⟨y9, ey9, e11⟩ := hf_bind e11
  obtain ⟨hb01, e11⟩ := hf_ite e11
  cases e11
  obtain ⟨p15, e15, eD⟩ := hf_bind eD
  obtain ⟨-, eD⟩ := hf_ite eD
  obtain ⟨p20, e20, eD⟩ := hf_bind eD
  obtain ⟨-, eD⟩ := hf_ite eD
  obtain ⟨p25, e25, eD⟩ := hf_bind eD
  obtain ⟨-, eD⟩ := hf_ite eD
  obtain ⟨p30, e30, eD⟩ := hf_bind eD
  have f30 : ¬ p30.2.i 32 = 0 → ¬ R.2.i 32 = 0 := fun z => by
    have z1 : ¬ P9.2.i 32 = 0 := fl_do eD z
    rw [kF_X7_endBody_193 N E1 E2 hm1 hm2 P9.2 _ R e z1]
    exact z1
  have f15 : ¬ p15.2.i 32 = 0 → ¬ R.2.i 32 = 0 := fun z => by
    have z1 : ¬ p20.2.i 32 = 0 := by rw [fst_add e20]; exact z
    have z2 : ¬ p25.2.i 32 = 0 := by rw [fst_add e25]; exact z1
    exact f30 (by rw [kF_X0_aim N p25.2 _ p30 e30 z2]; exact z2)
  have f9 : ¬ y9.2.i 32 = 0 → ¬ R.2.i 32 = 0 := fun z => f15 (by rw [kF_X1_expect N y9.2 59 p15 e15 z]; exact z)
  have f5 : ¬ y5.2.i 32 = 0 → ¬ R.2.i 32 = 0 := fun z => f9 (by rw [kF_X1_close N y5.2 41 y9 ey9 z]; exact z)
  have f1' : ¬ y1.2.i 32 = 0 → ¬ R.2.i 32 = 0 := fun z => f5 (by rw [kF_X1_condition N E1 E2 hm1 hm2 y1.2 y5 ey5 z]; exact z)
  have f2' : ¬ p2.2.i 32 = 0 → ¬ R.2.i 32 = 0 := fun z => by
    have z1 : ¬ p7.2.i 32 = 0 := by rw [kF_X0_aim N p2.2 _ p7 e7 z]; exact z
    exact f1' (by rw [kF_X1_open N p7.2 40 y1 ey1 z1]; exact z1)
  -- while (
  have W0 := WYX.rf evW tw
  rcases W0.nd hN (c := 205) (e := 415) (Or.inr ⟨by decide, by decide⟩) (by decide) (by decide) (by decide) e2' h21' with ⟨o1, o2, o3⟩ | ⟨o1, W1, fr1⟩
  · refine Or.inl ⟨f2' o2, u_flt g2 (krf_f_X12_then N _ 2 20 V hth ?_)⟩
    show ¬ p23.2.i 15 = 0
    exact krf_f_X12_open N p21.2 40 p23 h23 o3
  have W2 := W1.ai e7
  rcases W2.op hN (c := 40) (e := 40) (Or.inl ⟨by decide, by decide⟩) (by decide) (by decide) (by decide) ey1 h23 with ⟨o1', o2, o3⟩ | ⟨o1o, W3, fr3⟩
  · exact Or.inl ⟨f1' o2, u_flt g2 (krf_f_X12_then N _ 2 20 V hth (show ¬ p23.2.i 15 = 0 from o3))⟩
  have W3' := W3.sa (j := 69) (v := v69) ⟨by omega, by omega⟩
  have ph0 : 0 ≤ phI w := evW.2.2.2.2.2.2.2.1
  have p3 : 3 ≤ phI (RS.setA p23.2 69 T v69) := by
    have := W3'.2.2.2.2.2.2.1
    omega
  rcases y_cond hN hm1 hm2 hE2 W3'.1 W3'.2.1 p3 ey5 hth g2 with ⟨z1, z2⟩ | ⟨m3, u, g3, xo, hn01, hn1, xc⟩
  · exact Or.inl ⟨f5 z1, z2⟩
  have W4 := W3'.exo xo
  obtain ⟨x64, x65, x66, x67, x68, x69, x70, x71, x72, x73, -⟩ := xo.2.2.1
  have q3 : ∀ k : Nat, 64 ≤ k → k ≤ 73 → k ≠ 69 → (RS.setA p23.2 69 T v69).a k T = w.a k T := fun k h1 h2 h3 => by
    rw [setA_nk h3, (fr3 (T + 1)).all k h1 h2, (fr1 (T + 1)).all k h1 h2]
  have u64 : u.a 64 T = 11 := by
    rw [x64, q3 64 (by decide) (by decide) (by decide)]
    exact w64
  have u69 : u.a 69 T = v69 := by
    rw [x69]
    exact setA_at
  have r17 : 0 < (p23.2.i 17).toInt ∧ (p23.2.i 17).toInt < 2000 := by
    have y1 : 3 ≤ phI p23.2 := p3
    have y2 := W3.1.2.2.2.2.2.2.1
    have y3 := W3.1.2.2.2.2.2.2.2.2.1
    have y4 := i11_hi W3.1
    unfold phI at y1
    omega
  -- behind the condition
  obtain ⟨m4, V4, hV4, g4⟩ := rl_11 g3 W4.2.1 W4.1.1.2.1 u64
  unfold f_X12_repeats at hV4
  obtain ⟨-, hV4⟩ := hf_ite hV4
  rw [tp_nat W4.2.1, if_neg (show ¬ u.a 65 T = 0 by rw [x65]; decide), if_neg (show ¬ u.a 65 T = 1 by rw [x65]; decide), u69] at hV4
  obtain ⟨jt, hjt, hV4⟩ := hf_bind hV4
  have ejt := jt_eq hjt h69 r17 hn01 hn1
  rw [ejt] at hV4
  obtain ⟨sh, hsh, hV4⟩ := hf_bind hV4
  obtain ⟨ne, hne, hV4⟩ := hf_bind hV4
  obtain ⟨em, hem, hV4⟩ := hf_bind hV4
  obtain ⟨pt, hpt, hV4⟩ := hf_bind hV4
  have fV : ¬ pt.i 15 = 0 → ¬ V4.i 15 = 0 := fun z => by
    have ov : ∀ (v : Int32) (K : Option RS), K = ((f_X12_over N pt v).bind fun p => some p) → K = some V4 → ¬ V4.i 15 = 0 := fun v K h1 h2 => by
      rw [h1, ob_id] at h2
      exact krf_f_X12_over N pt v V4 h2 z
    by_cases k1 : pt.a 67 T = 1
    · rw [if_pos k1] at hV4
      by_cases k2 : y5.1 = 0
      · rw [if_pos k2] at hV4
        exact ov 1 _ rfl hV4
      · rw [if_neg k2] at hV4
        by_cases k3 : pt.a 72 T = 1
        · rw [if_pos k3] at hV4
          exact ov 1 _ rfl hV4
        · rw [if_neg k3] at hV4
          exact ov 0 _ rfl hV4
    · rw [if_neg k1] at hV4
      by_cases k3 : pt.a 72 T = 1
      · rw [if_pos k3] at hV4
        exact ov 1 _ rfl hV4
      · rw [if_neg k3] at hV4
        exact ov 0 _ rfl hV4
  have fN : ¬ ne.2.i 15 = 0 → ¬ V4.i 15 = 0 := fun z => fV (krf_f_X12_patch N em.2 _ _ pt hpt (krf_f_X12_emit N ne.2 _ _ em hem z))
  rcases W4.cl hN evW (by omega) (c := 41) (e := 41) (Or.inl ⟨by decide, by decide⟩) (by decide) (by decide) (by decide) ey9 hsh with ⟨o1'', o2, o3⟩ | ⟨o1'', W5, fr5⟩
  · exact Or.inl ⟨f9 o2, u_flt g4 (fN (krf_f_X12_need N sh.2 59 ne hne o3))⟩
  rcases W5.nd hN (c := 59) (e := 59) (Or.inl ⟨by decide, by decide⟩) (by decide) (by decide) (by decide) e15 hne with ⟨o1', o2, o3⟩ | ⟨o1', W6, fr6⟩
  · exact Or.inl ⟨f15 o2, u_flt g4 (fN o3)⟩
  have p6 : 1 ≤ phI ne.2 := by
    have := W6.2.2.2.2.2.2.1
    omega
  obtain ⟨W7, fr7, -, -, -⟩ := W6.em p6 hem
  have W8 := ((W7.ad e20).ad e25).ai e30
  have hX := hW.wyx hinW (by omega) W8 ⟨by omega, by omega, by omega⟩
  obtain ⟨-, tE, frE, tbE, ckE, -⟩ := id W8
  have hcX := hcW.mv b0 hinW ckE.z frE tbE.1.r tbE.2
  have emF : ∀ k : Nat, 64 ≤ k → k ≤ 73 → em.2.a k T = u.a k T := fun k h1 h2 => by
    rw [(fr7 (T + 1)).all k h1 h2, (fr6 (T + 1)).all k h1 h2, (fr5 (T + 1)).all k h1 h2]
  have em70 : em.2.a 70 T = s.a 48 G := by
    rw [emF 70 (by decide) (by decide), x70, q3 70 (by decide) (by decide) (by decide)]
    exact w70
  have em67 : em.2.a 67 T = rv := by
    rw [emF 67 (by decide) (by decide), x67, q3 67 (by decide) (by decide) (by decide)]
    exact w67
  have em72 : em.2.a 72 T = bv := by
    rw [emF 72 (by decide) (by decide), x72, q3 72 (by decide) (by decide) (by decide)]
    exact w72
  have hin0 := hC.inl tp (T := ceT c1 + wid (S.o c1.2.1 0)) rfl
  have eo1 : p30.2.o c1.2.1 = S.o c1.2.1 := (hin0.o ckE.z c1 List.mem_cons_self).1
  have eoL : ∀ y ∈ c :: L, p30.2.o y.2.1 = S.o y.2.1 := fun y hy => (hinW.o ckE.z y hy).1
  have e66 : ∀ z ∈ c :: L, em.2.a 66 (ceT z) = s.a 66 (ceT z) := fun z hz => by
    have a := (hinW z hz).2.2.1
    have b := wid1 (S.o z.2.1 0)
    rw [(frE (ceT z) (by omega)).2.2.1, wfj 66 (ceT z) (by omega), s1a 66 (by decide)]
  rw [em70] at hpt
  have e22c : E22 (FRE p30.2 em.2 (c :: L) (cdr G col) (b.i 20).toInt) em.2 pt := by
    unfold f_X12_patch at hpt
    refine pt_e22 (κ := (G, true)) (col := col) (fun k hk => (fre1 k true hk).mv2 eoL e66) N (s.i 20).toInt.toNat em.2 pt (em.2.i 20) (s.a 48 G) (fun k hk _ => ?_) ?_ hpt
    · have k20 := (hc.1 k _ hk).2
      rw [tbE.2.2 k (by rw [wi 20 (by decide), e22a.1]; exact k20), wa 22 (by decide), e22a.2.2.2.2 k (fun z => by
        have z' : col k = some (G, false) := z
        rw [hk] at z'
        have z2 : true = false := congrArg Prod.snd (Option.some.inj z')
        exact absurd z2 (by decide))]
      exact hc.2.1 k _ hk
    · rcases hx48 with z | ⟨j, j1, j2⟩
      · exact Or.inl z
      · have := (hc.1 j _ j2).2
        exact Or.inr ⟨j, j1, by omega, j2⟩
  obtain ⟨hY, -⟩ := hX.e22 hcX e22c
  have pi : pt.i = em.2.i := e22c.1
  have pa : ∀ k : Nat, k ≠ 22 → pt.a k = em.2.a k := e22c.2.2.2.1
  -- whether its end is reached
  have h160 : (p30.2.i 55).toInt < 160 := by
    have z := W8.1.sj
    have y := i11_hi W8.1
    unfold SJB at z
    omega
  have gon : ∀ p : Int32 × CS, f_X6_isGoneTo N p30.2 c1.2.1 0 = some p → p.2 = p30.2 ∧ p.1 = s.a 50 G := fun p hp => by
    obtain ⟨y1, y2⟩ := y_goneX hC go (Or.inl ⟨rfl, rfl⟩) (by rw [eo1]) (by rw [eo1]) ckE.2.2.2.2.2.1 h160 ckE.2.2.2.2.2.2.1 (fun k k1 k2 => by
      rcases ckE.2.2.2.2.2.2.2.1 k k1 k2 with z | z
      · exact Or.inl z
      · exact Or.inr z.1) hp
    refine ⟨y1, ?_⟩
    rw [hGc]
    exact y2.trans (if_pos rfl)
  have gone : ∀ K : Option (Unit × CS), K = ((f_X6_isGoneTo N p30.2 c1.2.1 0).bind fun p35 => (if p35.1 = 0 then some ((), CS.setI p35.2 36 0) else some ((), CS.setI p35.2 36 1))) → K = some P9 → (s.a 50 G = 0 ∧ P9.2 = CS.setI p30.2 36 0) ∨ (¬ s.a 50 G = 0 ∧ P9.2 = CS.setI p30.2 36 1) := fun K h1 h2 => by
    rw [h1] at h2
    obtain ⟨p, hp, h2⟩ := hf_bind h2
    obtain ⟨y1, y2⟩ := gon p hp
    rw [y1, y2] at h2
    by_cases z : s.a 50 G = 0
    · rw [if_pos z] at h2
      exact Or.inl ⟨z, by rw [← Option.some.inj h2]⟩
    · rw [if_neg z] at h2
      exact Or.inr ⟨z, by rw [← Option.some.inj h2]⟩
  have fin : ∃ v : Int32, (v = 0 ∨ v = 1) ∧ f_X12_over N pt v = some V4 ∧ P9.2 = CS.setI p30.2 36 v ∧ (¬ s.a 50 G = 0 → v = 1) ∧ (¬ (S.i 36 = 0 ∧ s.a 51 G = 0) → y5.1 = 0 → v = 1) := by
    rw [pa 67 (by decide), pa 72 (by decide), em67, em72] at hV4
    have br : ∀ K : Option RS, K = (if bv = 1 then (f_X12_over N pt 1).bind fun p52 => some p52 else (f_X12_over N pt 0).bind fun p50 => some p50) → K = some V4 → ((s.a 50 G = 0 ∧ P9.2 = CS.setI p30.2 36 0) ∨ (¬ s.a 50 G = 0 ∧ P9.2 = CS.setI p30.2 36 1)) → ((S.i 36 = 0 ∧ s.a 51 G = 0) ∨ ¬ y5.1 = 0) → ∃ v : Int32, (v = 0 ∨ v = 1) ∧ f_X12_over N pt v = some V4 ∧ P9.2 = CS.setI p30.2 36 v ∧ (¬ s.a 50 G = 0 → v = 1) ∧ (¬ (S.i 36 = 0 ∧ s.a 51 G = 0) → y5.1 = 0 → v = 1) := fun K h1 h2 h3 h9 => by
      rw [h1] at h2
      rcases h3 with ⟨z, hz⟩ | ⟨z, hz⟩
      · rw [if_neg (fun y => hbv.mp y z), ob_id] at h2
        exact ⟨0, Or.inl rfl, h2, hz, fun w => absurd z w, fun w1 w2 => (h9.elim (fun q => absurd q w1) (fun q => absurd w2 q))⟩
      · rw [if_pos (hbv.mpr z), ob_id] at h2
        exact ⟨1, Or.inr rfl, h2, hz, fun _ => rfl, fun _ _ => rfl⟩
    by_cases z : S.i 36 = 0 ∧ s.a 51 G = 0
    · have z1 := hrv.mpr z
      have z2 := hx2.mpr z
      rw [if_neg (show ¬ rv = 1 by rw [z1]; decide)] at hV4
      rw [if_pos z2] at eD
      exact br _ rfl hV4 (gone _ rfl eD) (Or.inl z)
    · have z1 : rv = 1 := hr01.resolve_left (fun y => z (hrv.mp y))
      have z2 : ¬ x2 = 0 := fun y => z (hx2.mp y)
      rw [if_pos z1] at hV4
      rw [if_neg z2] at eD
      by_cases k : y5.1 = 0
      · have hV5 := (if_pos k).symm.trans hV4
        have eD5 := (if_pos k).symm.trans eD
        rw [ob_id] at hV5
        exact ⟨1, Or.inr rfl, hV5, by rw [← Option.some.inj eD5], fun _ => rfl, fun _ _ => rfl⟩
      · have hV5 := (if_neg k).symm.trans hV4
        have eD5 := (if_neg k).symm.trans eD
        exact br _ rfl hV5 (gone _ rfl eD5) (Or.inr k)
  obtain ⟨v, hv1, ho, hP9, vb1, vb2⟩ := fin
  rw [hP9] at e
  obtain ⟨i22, i36, i38, i50, i53, i56⟩ := ckE.1
  have n1 := lk.1
  have t1 := tp.1
  obtain ⟨e1', e50, e53, e36, er⟩ := e_193 (n := c.1) (by rw [i53]; omega) e
  have c50 : S.i 50 = S.o c1.2.1 3 := hm one (by rw [h206]; decide) (by rw [h206]; decide)
  have s50 := hv.2.1.1
  obtain ⟨tb1, tb2, tb3, tb4, tb5, tb6, tb7, tb8, tb9, tb10⟩ := tbE.1.1
  have lkP : LNK p30.2 c1 c := by
    unfold LNK at *
    rw [eo1, eoL c List.mem_cons_self]
    exact lk
  have lwP : LOW p30.2 pt c := (lwW.mv (eoL c List.mem_cons_self) frE (by rw [hTc, lk.2.1]; exact Nat.le_refl _)).e22 e22c
  have p43 : (pt.i 43).toInt = (ceG c1 : Int) := by rw [pi, tb5, ← hGc]; exact w43
  have p56 : (pt.i 56).toInt = (ceW c1 : Int) := by
    have z := tpE.2.2
    rw [nw0] at z
    rw [pi, tb7, wi 56 (by decide)]
    omega
  have p38 : pt.i 38 = S.o c1.2.1 3 := by rw [pi, tb4, wi 38 (by decide), e22a.1, ← c50, s50]
  have tbb := hC.2.2.2.2.2.1.2.1
  have ob := hC.2.2.2.2.2.2.2.1.2
  refine Or.inr ⟨m4, V4, g4, (pop_coreG (ng := 0) (c1 := c1) hY ⟨by rw [i53]; exact t1, by omega, by rw [eo1, nw0]; omega⟩ lkP lwP bz hT (by omega) ?_ (by rw [eo1]; exact nw0) (Or.inl rfl) hv1 ho ⟨fun _ _ _ _ => rfl, rfl, rfl, rfl⟩ (by rw [eo1]; exact p38) (by omega) ⟨?_, ?_⟩ (fun y hy => ?_) e1' e50 e53 e36 er).1, fun _ jw => ?_⟩
  · rw [← hTc]
    show (pt.i 63).toInt = _
    rw [pi]
    exact tE
  · rw [eo1, ← c50, s50]
    exact tbb.1
  · rw [eo1, i50, c50]
    exact Int.le_refl _
  · rw [eoL y hy, eo1, ← c50]
    exact (ob.1 y (List.mem_cons_of_mem _ hy)).2
  -- the code
  have hr0 : (vw S s c1).v = 206 := h206
  have lo : isLo (vw S s c1).v := Or.inr (Or.inl hr0)
  have goV : isGo (vw S s c1).v := go
  have nty : ¬ isTy (vw S s c1).v := fun z => by
    rw [hr0] at z
    rcases z with z | z | z | z <;> exact absurd z (by decide)
  have nsi : ∀ k : Nat, ¬ rsite (vw S s c1) k := fun k z => by
    unfold rsite at z
    rw [hr0] at z
    rcases z with ⟨z, -⟩ | ⟨z, -⟩ | ⟨z, -⟩ | ⟨z, -⟩ <;> exact absurd z (by decide)
  have r66 : (vw S s c1).2.1 66 = s.a 66 T := by
    rw [hTc]
    exact (vw_at (k := 66) ⟨by decide, by decide⟩)
  have gis := hC.gis
  have h44 : (S.i 44).toInt ≤ 900 := by
    rw [hv.p44.1]
    exact (i11_hi hv).2
  obtain ⟨ee, he1, he2⟩ := clo_e (S.i 43)
  have ee1 : ee ≤ 1 := by rcases he1 with z | ⟨z, -⟩ <;> omega
  have rt : tvs (rtgs (vw S s c1)) = [tv (S.o c1.2.1 10), tv (S.o c1.2.1 9)] := by
    unfold rtgs
    rw [hr0, if_neg (by decide), if_neg (by decide), if_pos (by decide)]
    rfl
  have wq : qe w = qe s1 := by
    unfold qe
    rw [wi 20 (by decide), wi 24 (by decide), wi 29 (by decide), wi 33 (by decide), wi 42 (by decide), wi 52 (by decide), wa 21 (by decide), wa 22 (by decide), wa 23 (by decide), wa 25 (by decide), wa 26 (by decide), wa 27 (by decide), wa 28 (by decide), wa 30 (by decide), wa 31 (by decide), wa 32 (by decide), wa 34 (by decide), wa 35 (by decide), wa 36 (by decide), wa 37 (by decide)]
  have s1i : s1.i = s.i := e22a.1
  -- the chains
  obtain ⟨l2, k2l, k2c, -, x2l, x4l⟩ := pt_l (P := fun k => col k = some (G, false)) (s := s) (fun k hk => hc.2.1 k _ hk) N s s1 _ (s.a 49 G) (fun _ _ _ => rfl) hx49 hp1
  have qz1 : qe (RS.setA p23.2 69 T v69) = qe s1 := (show qe (RS.setA p23.2 69 T v69) = qe p23.2 from rfl).trans ((kre_f_X12_open N p21.2 40 p23 h23).trans ((kre_f_X12_need N w 415 p21 h21').trans wq))
  obtain ⟨l1, k1l, k1c, -, x1l, x3l⟩ := pt_l (P := fun k => col k = some (G, true)) (s := s) (fun k hk => hc.2.1 k _ hk) N em.2 pt _ (s.a 48 G) (fun k hk _ => by
      have k20 := (hc.1 k _ hk).2
      rw [tbE.2.2 k (by rw [wi 20 (by decide), e22a.1]; exact k20), wa 22 (by decide), e22a.2.2.2.2 k (fun z => by
        have z' : col k = some (G, false) := z
        rw [hk] at z'
        have z2 : true = false := congrArg Prod.snd (Option.some.inj z')
        exact absurd z2 (by decide))]) hx48 hpt
  have l20 : ∀ j ∈ l1, (j : Int) < (s.i 20).toInt := fun j hj => (hc.1 j _ (k1c j hj).1).2
  have l12 : ∀ j ∈ l2, ¬ j ∈ l1 := fun j hj hj' => by
    have z1 := (k2c j hj).1
    rw [(k1c j hj').1] at z1
    have z2 : true = false := congrArg Prod.snd (Option.some.inj z1)
    exact absurd z2 (by decide)
  obtain ⟨vb, hvb⟩ : ∃ vb, vb = em.2.i 20 := ⟨_, rfl⟩
  rw [← hvb] at x1l
  have j0 := JRW.clo (V := vws S s (c :: L)) (r := vw S s c1) (u := pz l1 vb s1) (u' := pz l1 vb s1) (S' := S) (l1 := l1) (l2 := l2) (vb := vb) (vc := s.i 20) (vs := 0) (e := ee) (dr := 0) jw (fun z => z.c0 (by rw [hr0]; decide) (NK.eq rfl rfl (by rw [pz.i, s1i]) (by rw [pz.i, s1i]))) h44 mA (vws.pl hC) (fun _ y hy gy e => by have := gis y hy gy; have e' : y.2.2.2 = ceG c1 := e; omega) nty (by rw [hr0]; decide) (fun _ => ⟨by rw [show (vw S s c1).2.2.2 = G from hGc.symm]; exact k1l, fun _ => by rw [show (vw S s c1).2.2.2 = G from hGc.symm]; exact k2l⟩) ⟨by rw [pz.i]; exact s1i, fun k hk => by rw [pz.a hk]; exact s1a k hk⟩ (fun _ j hj => pz.in hj) (fun _ j hj => by rw [pz.ni (l12 j hj)]; exact x2l j hj) (fun j z => absurd z (nsi j)) (fun j n1 n2 _ => by rw [pz.ni (n1 goV)]; exact x4l j (n2 lo)) (D38.rf _) (D52.rf _) ⟨Or.inl rfl, rfl, rfl, rfl⟩ (fun _ _ _ => rfl) (clo_nm (by rw [hr0]; decide) nty (by rw [hr0]; decide) (by rw [pz.i]; exact s1i) (by rw [pz.a (by decide)]; exact s1a 40 (by decide))) (fun _ => dbr.ge _ _) he1
  rw [rt] at j0
  obtain ⟨z1, hz1⟩ : ∃ z1, z1 = RS.setA p23.2 69 T v69 := ⟨_, rfl⟩
  rw [← hz1] at xo xc qz1 W3'
  have z1i : z1.i = p23.2.i := by rw [hz1]; rfl
  have z1a : ∀ k : Nat, k ≠ 69 → z1.a k = p23.2.a k := fun k hk => by rw [hz1, setA_nk hk]
  clear hz1
  have j1 := j0.imp (K' := JAN (KCL U (vw S s c1) S s vb (s.i 20) 0) (JAL U (JQA U 2528 0 (pcC y1.2) (pcR z1) (fun FC SF nm X ω j _ => ∀ g : Nat, GU FC SF U nm X (pcC y1.2) (pcR z1) (j.h + 0) (ω + j.l + 2528 - pcC y1.2) g j.c)))) (Int.le_refl _) (Int.le_refl _) (fun FC SF nm X ω j Z _ _ _ _ _ _ k => ⟨k, fun _ _ q => q⟩)
  -- while
  have nw : NMV s1 w := ⟨wi 38 (by decide), fun j _ => by rw [wa 40 (by decide)]⟩
  have n21 : NMV w p21.2 := NMV.tbk W1.2.2.2.1
  have v44 : ∀ {P : CS} {q : RS} {d' : Int32}, ENV d' P q → (P.i 44).toInt = (q.i 11).toInt := fun h => by rw [h.p44.1]
  have p44S := v44 hv
  have p44w : (s1.i 11).toInt = (w.i 11).toInt := by rw [wi 11 (by decide)]
  have p11s : (s1.i 11).toInt = (s.i 11).toInt := by rw [s1i]
  have w1l := W1.2.2.2.2.2.1
  have w3l := W3.2.2.2.2.2.1
  have w5l := W5.2.2.2.2.2.1
  have w6l := W6.2.2.2.2.2.1
  have j2 := j1.tk (R := p2.2) (u := pz l1 vb p21.2) 1 (by rw [pz.i, s1i]; exact hv.2.1.1) (kc_X1_expect N S 205 p2 e2') (ke_X1_expect N S 205 p2 e2') (pz.nmv (nw.tr n21)) (pz.qe ((kre_f_X12_need N w 415 p21 h21').trans wq)) (by
    rw [p44S, v44 W1.1]
    omega)
  -- the continues
  have h442 : (p2.2.i 44).toInt ≤ 900 := by rw [v44 W1.1]; exact (i11_hi W1.1).2
  have o2S : p2.2.o = S.o := kc_o (kc_X1_expect N S 205 p2 e2')
  rw [o2S] at e7
  have j3 := JRG.aim (W1 := []) (W2 := [tv (S.o c1.2.1 9)]) (K' := fun FC SF nm X ω j Z => (cTg SF (S.o c1.2.1 10)).toInt = ((pcC p2.2 : Nat) : Int) ∧ JAN (KCL U (vw S s c1) S s vb (s.i 20) 0) (JAL U (JQA U 2528 0 (pcC y1.2) (pcR z1) (fun FC SF nm X ω j _ => ∀ g : Nat, GU FC SF U nm X (pcC y1.2) (pcR z1) (j.h + 0) (ω + j.l + 2528 - pcC y1.2) g j.c))) FC SF nm X ω j Z) j2 e7 h442 (by omega) (fun FC SF nm X ω j Z h k => ⟨h, k⟩)
  have n23 : NMV p21.2 z1 := NMV.dif (NMV.tbk W1.2.2.2.1) (NMV.tr (NMV.tbk W3.2.2.2.1) ⟨by rw [z1i], fun j _ => by rw [z1a 40 (by decide)]⟩)
  have j4 := j3.tk (R := y1.2) (u := pz l1 vb z1) 1 (by rw [pz.i]; exact W2.1.2.1.1) (kc_X1_open N p7.2 40 y1 ey1) (ke_X1_open N p7.2 40 y1 ey1) (pz.nmv n23) (pz.qe (qz1.trans ((kre_f_X12_need N w 415 p21 h21').trans wq).symm)) (by
    have z9 : p7.2.i 44 = p2.2.i 44 := (aim_eq e7).1 44
    have co := op_cd hN W2.1 (c := 40) (d := 40) (Or.inl ⟨by decide, by decide⟩) (by decide) (by decide) (by decide) ey1 h23 o1o
    exact co.1.by1 co.2.2.2.1)
  -- the condition
  have z120 : z1.i 20 = s.i 20 := by rw [(qe_eq qz1).1.1, s1i]
  have nvx : NMV z1 u := NMV.tbk xo.2.2.2.2.1
  have xcg : ∃ gf : Nat, CDE gf U y1.2 z1 y5.2 u ∧ ((gf = 2 ∧ y5.1 = 0) ∨ (gf = 4 ∧ ¬ y5.1 = 0)) := by
    rcases hn01 with z | z
    · exact ⟨2, xc.1, Or.inl ⟨rfl, z⟩⟩
    · exact ⟨4, xc.2 z, Or.inr ⟨rfl, by rw [z]; decide⟩⟩
  obtain ⟨gf, xg, hgf⟩ := xcg
  have s19z : (s1.i 19).toInt ≤ (z1.i 19).toInt := by
    have z1' : (w.i 19).toInt = (s1.i 19).toInt := by rw [wi 19 (by decide)]
    have z2' := W3.2.2.2.2.2.2.2.2
    rw [z1i]
    omega
  have fj := jsp_pz (l := l1) (v := vb) ((jsp_al (jsp_frm (a := -0 - 1 - 1) (e := ee - 1 - 1) (g := gf) (δ := 2528) (k := 0) (U := U) (s0 := pz l1 vb s1) (Z := fun FC SF nm X ω j _ => ∀ g : Nat, GU FC SF U nm X (pcC y1.2) (pcR z1) (j.h + 0) (ω + j.l + 2528 - pcC y1.2) g j.c) xg W3'.1.2.1.1 nvx (by omega) (by omega) (by omega) (by rw [pz.i, z1i]; have z9 : (((0 : Nat)) : Int) = 0 := rfl; omega) (by rw [pz.i]; exact s19z))).fr (K0 := fun FC SF nm X ω j Z => (cTg SF (S.o c1.2.1 10)).toInt = ((pcC p2.2 : Nat) : Int) ∧ KCL U (vw S s c1) S s vb (s.i 20) 0 FC SF nm X ω j Z)) (fun j hj => by rw [z120]; exact l20 j hj)
  have j4' := j4.imp (K' := JAN (fun FC SF nm X ω j Z => (cTg SF (S.o c1.2.1 10)).toInt = ((pcC p2.2 : Nat) : Int) ∧ KCL U (vw S s c1) S s vb (s.i 20) 0 FC SF nm X ω j Z) (JAL U (JQA U 2528 0 (pcC y1.2) (pcR z1) (fun FC SF nm X ω j _ => ∀ g : Nat, GU FC SF U nm X (pcC y1.2) (pcR z1) (j.h + 0) (ω + j.l + 2528 - pcC y1.2) g j.c)))) (Int.le_refl _) (Int.le_refl _) (fun FC SF nm X ω j Z _ _ _ _ _ _ k => ⟨⟨k.1, k.2.1⟩, k.2.2⟩)
  have j5 := j4'.cod fj
  -- behind it
  have n5 : NMV u sh.2 := NMV.dif (NMV.tbk W4.2.2.2.1) (NMV.tbk W5.2.2.2.1)
  have n6 : NMV sh.2 ne.2 := NMV.dif (NMV.tbk W5.2.2.2.1) (NMV.tbk W6.2.2.2.1)
  have j6 := j5.tk (R := y9.2) (u := pz l1 vb sh.2) 1 (by rw [pz.i]; exact W4.1.2.1.1) (kc_X1_close N y5.2 41 y9 ey9) (ke_X1_close N y5.2 41 y9 ey9) (pz.nmv n5) (pz.qe (kre_f_X12_shut N u 41 sh hsh)) (by
    have co := cl_cd hN W4.1 (by have := W4.sg evW; omega) (c := 41) (d := 41) (Or.inl ⟨by decide, by decide⟩) (by decide) (by decide) (by decide) ey9 hsh o1''
    exact co.1.by1 co.2.2.2.1)
  have j7 := j6.tk (R := p15.2) (u := pz l1 vb ne.2) 1 (by rw [pz.i]; exact W5.1.2.1.1) (kc_X1_expect N y9.2 59 p15 e15) (ke_X1_expect N y9.2 59 p15 e15) (pz.nmv n6) (pz.qe (kre_f_X12_need N sh.2 59 ne hne)) (by
    rw [v44 W5.1, v44 W6.1]
    exact nd_gain hN W5.1 (c := 59) (c' := 59) (Or.inl ⟨by decide, by decide⟩) (by decide) (by decide) (by decide) e15 hne o1')
  have h4415 : (p15.2.i 44).toInt ≤ 900 := by rw [v44 W6.1]; exact (i11_hi W6.1).2
  have o15 : p15.2.o c1.2.1 = S.o c1.2.1 := (hin0.o W6.2.2.2.2.1.z c1 List.mem_cons_self).1
  have ad20 := add_eq e20
  have ad25 := add_eq e25
  have o20 : p20.2.o = p15.2.o := by
    unfold f_X0_add at e20
    cases e20
    rfl
  have o25 : p25.2.o = p20.2.o := by
    unfold f_X0_add at e25
    cases e25
    rfl
  rw [o15] at e20
  rw [o20, o15] at e25
  rw [o25, o20, o15] at e30
  have j8 := j7.add e20 h4415 (by omega)
  have p20n := W6.1.p20
  have lne : ∀ j ∈ l1, (j : Int) < (ne.2.i 20).toInt := fun j hj => by
    have z1' := l20 j hj
    have z2' := W6.2.2.2.1.2.1
    rw [wi 20 (by decide), s1i] at z2'
    omega
  have u66 : u.a 66 T = s.a 66 T := by
    rw [x66, setA_nk (show (66 : Nat) ≠ 69 by decide), (fr3 (T + 1)).all 66 (by decide) (by decide), (fr1 (T + 1)).all 66 (by decide) (by decide), wk 66 (by decide), r1a 66 (by decide) (by decide), s1a 66 (by decide)]
  have en66 : ne.2.a 66 T = s.a 66 T := by
    rw [(fr6 (T + 1)).all 66 (by decide) (by decide), (fr5 (T + 1)).all 66 (by decide) (by decide)]
    exact u66
  rw [en66] at hem
  obtain ⟨V', hem', e1v, eiv, eav⟩ := em_pz (l := l1) (v := vb) hem ⟨p20n.1, by omega⟩ lne
  have h4420 : (p20.2.i 44).toInt ≤ 900 := by rw [ad20.1 44 (by decide)]; exact h4415
  have j9 := j8.one (K' := fun FC SF nm X ω j Z => (PQX SF U (pcC p20.2) (pcR ne.2) ∧ (SF.a 15 (pcC p20.2) = 30 ∧ SF.a 16 (pcC p20.2) = S.o c1.2.1 11) ∧ (U.a 21 (pcR ne.2) = 14 ∧ U.a 22 (pcR ne.2) = s.a 66 T) ∧ pcC p25.2 = pcC p20.2 + 1 ∧ pcR V'.2 = pcR ne.2 + 1) ∧ (SF.a 15 (pcC p15.2) = 31 ∧ SF.a 16 (pcC p15.2) = S.o c1.2.1 9 ∧ pcC p15.2 < 1200 ∧ pcC p20.2 = pcC p15.2 + 1) ∧ JAN (fun FC SF nm X ω j Z => (cTg SF (S.o c1.2.1 10)).toInt = ((pcC p2.2 : Nat) : Int) ∧ KCL U (vw S s c1) S s vb (s.i 20) 0 FC SF nm X ω j Z) (JAL U (JQG U 2528 (0 + 1) gf (pcC y5.2) (pcR u) (fun FC SF nm X ω j _ => ∀ g : Nat, GU FC SF U nm X (pcC y1.2) (pcR z1) (j.h + 0) (ω + j.l + 2528 - pcC y1.2) g j.c))) FC SF nm X ω j Z) e25 h4420 (by omega) hem' ⟨p20n.1, by show (ne.2.i 20).toInt < 3000; omega⟩ (fun FC SF nm X ω j Z pq a1 a2 b1 b2 b3 v1 v2 nmh hc hh tyc tl hω k => ⟨⟨pq, ⟨a1, a2⟩, ⟨b1, b2⟩, v1, v2⟩, k⟩)
  have j10 := JRG.aim (W1 := []) (W2 := []) (K' := fun FC SF nm X ω j Z => (cTg SF (S.o c1.2.1 9)).toInt = ((pcC p25.2 : Nat) : Int) ∧ (PQX SF U (pcC p20.2) (pcR ne.2) ∧ (SF.a 15 (pcC p20.2) = 30 ∧ SF.a 16 (pcC p20.2) = S.o c1.2.1 11) ∧ (U.a 21 (pcR ne.2) = 14 ∧ U.a 22 (pcR ne.2) = s.a 66 T) ∧ pcC p25.2 = pcC p20.2 + 1 ∧ pcR V'.2 = pcR ne.2 + 1) ∧ (SF.a 15 (pcC p15.2) = 31 ∧ SF.a 16 (pcC p15.2) = S.o c1.2.1 9 ∧ pcC p15.2 < 1200 ∧ pcC p20.2 = pcC p15.2 + 1) ∧ JAN (fun FC SF nm X ω j Z => (cTg SF (S.o c1.2.1 10)).toInt = ((pcC p2.2 : Nat) : Int) ∧ KCL U (vw S s c1) S s vb (s.i 20) 0 FC SF nm X ω j Z) (JAL U (JQG U 2528 (0 + 1) gf (pcC y5.2) (pcR u) (fun FC SF nm X ω j _ => ∀ g : Nat, GU FC SF U nm X (pcC y1.2) (pcR z1) (j.h + 0) (ω + j.l + 2528 - pcC y1.2) g j.c))) FC SF nm X ω j Z) j9 e30 (by rw [ad25.1 44 (by decide)]; exact h4420) (by omega) (fun FC SF nm X ω j Z h k => ⟨h, k⟩)
  -- the row goes
  obtain ⟨R1, R50, R53, R36, Rr, Ro, -, Ra, -⟩ := e193x (n := c.1) (by rw [i53]; omega) e
  have pta : pt.a = V'.2.a := by
    rw [eav]
    funext k
    by_cases z : k = 22
    · rw [z, pz.t]
      funext j
      by_cases y : j ∈ l1
      · rw [x1l j y, if_pos y]
      · rw [x3l j y, if_neg y]
    · rw [pz.a z, pa k z]
  have V4e : V4 = RS.setI (RS.setI pt 75 v) 63 (pt.i 63 - 1) := by
    unfold f_X12_over at ho
    rw [if_pos hv1] at ho
    exact (Option.some.inj ho).symm
  have V4i : ∀ k : Nat, k ≠ 63 → k ≠ 75 → V4.i k = V'.2.i k := fun k h1 h2 => by
    rw [V4e, eiv, ← pi]
    exact (if_neg h1).trans (if_neg h2)
  have V4a : V4.a = V'.2.a := by
    rw [← pta, V4e]
    rfl
  have qV : qe V4 = qe V'.2 := by
    unfold qe
    rw [V4a, V4i 20 (by decide) (by decide), V4i 24 (by decide) (by decide), V4i 29 (by decide) (by decide), V4i 33 (by decide) (by decide), V4i 42 (by decide) (by decide), V4i 52 (by decide) (by decide)]
  have j11 := j10.drp (R := R.2) (u := V4) (by
    unfold pe
    rw [Ra, R1 20 (by decide) (by decide) (by decide), R1 23 (by decide) (by decide) (by decide), R1 38 (by decide) (by decide) (by decide), R1 22 (by decide) (by decide) (by decide)]) (R1 21 (by decide) (by decide) (by decide)) (R1 44 (by decide) (by decide) (by decide)) (by rw [Ra]) (by rw [Ra]) qV (by rw [V4i 38 (by decide) (by decide)]; exact Int.le_refl _) (by rw [V4a])
  have gkE := GKP.tbk tbE
  have w59 : w.i 59 = s.i 59 := by rw [wi 59 (by decide), s1i]
  have V4k : ∀ k : Nat, k ≠ 22 → V4.a k = em.2.a k := fun k hk => by rw [V4a, eav, pz.a hk]
  have em11 : em.2.i 11 = ne.2.i 11 ∧ em.2.i 19 = ne.2.i 19 := by
    obtain ⟨-, -, -, -, -, zk, -⟩ := em_52 (v := 0) hem
    exact ⟨zk 11 (by decide), zk 19 (by decide)⟩
  rw [clo_veq hD tp lk (fun j hj => by
    rw [V4k 40 (by omega)]
    rw [(tbE.1.r.1 j (by rw [wi 38 (by decide), s1i]; exact hj)).2.1, wa 40 (by decide), s1a 40 (by decide)]) (fun y hy => by rw [Ro]; exact eoL y hy) (fun k t h1 h2 h3 => by
    rw [V4k k (by omega), frE.fld k t h1 h2 (by rw [hTc]; exact h3), wfj k t (by omega), s1a k (by omega)])]
  refine j11.fiw (by omega) (Or.inl (by omega)) (fun _ => ⟨fun y hy gy => ?_, ?_, fun i hi => ?_⟩) ?_ ?_ (fun FC SF nm X G' h0 c0 ω Z hω r12 hA ng hcc k cur => ?_)
  · have g1 := gis y hy gy
    have g2' : ((y.2.2.2 : Nat) : Int) < (w.i 43).toInt := by omega
    have z := gkE.2.1 _ g2'
    rw [V4k 50 (by decide), V4k 51 (by decide), V4k 48 (by decide), V4k 49 (by decide), V4k 47 (by decide), z.1, z.2.1, z.2.2.1, z.2.2.2.1, z.2.2.2.2, wa 50 (by decide), wa 51 (by decide), wa 48 (by decide), wa 49 (by decide), wa 47 (by decide), pz.a (by decide), pz.a (by decide), pz.a (by decide), pz.a (by decide), pz.a (by decide)]
    refine ⟨?_, rfl, rfl, rfl, rfl, rfl⟩
    rw [V4i 43 (by decide) (by decide), eiv, ← pi]
    omega
  · rw [V4i 59 (by decide) (by decide), eiv, pz.i, s1i, ← w59]
    exact gkE.2.2.1
  · rw [pz.i, s1i, ← w59] at hi
    have z := gkE.2.2.2 i hi
    rw [V4k 60 (by decide), V4k 61 (by decide), V4k 62 (by decide), z.1, z.2.1, z.2.2, wa 60 (by decide), wa 61 (by decide), wa 62 (by decide), pz.a (by decide), pz.a (by decide), pz.a (by decide)]
    exact ⟨rfl, rfl, rfl⟩
  · rw [V4i 11 (by decide) (by decide), eiv, pz.i, em11.1]
    omega
  · rw [V4i 19 (by decide) (by decide), eiv, pz.i, em11.2]
    have z2' := W6.2.2.2.2.2.2.2.2
    have z1' : (w.i 19).toInt = (s1.i 19).toInt := by rw [wi 19 (by decide)]
    omega
  obtain ⟨jj, hjj⟩ : ∃ jj, jj = JCX G' ω h0 c0 (vws S s (c :: L)) := ⟨_, rfl⟩
  rw [← hjj] at hcc k cur
  clear hjj ng
  obtain ⟨ct9, ⟨pq, ⟨s30, s11⟩, ⟨u14, u22⟩, pe25, pem⟩, ⟨s31, s9, s12, pe20⟩, ⟨ct10, ⟨-, hd, rp, -⟩, Gx, -, hY, hX⟩, kal⟩ := k
  have pcy1 : pcC y1.2 = pcC S := by
    rw [pcC.pe (ke_X1_open N p7.2 40 y1 ey1), show pcC p7.2 = pcC p2.2 by unfold pcC; rw [(aim_eq e7).1], pcC.pe (ke_X1_expect N S 205 p2 e2')]
  have pcp2 : pcC p2.2 = pcC S := pcC.pe (ke_X1_expect N S 205 p2 e2')
  have prz1 : pcR z1 = pcR s := by
    unfold pcR
    rw [z120]
  have pc15 : pcC p15.2 = pcC y5.2 := (pcC.pe (ke_X1_expect N y9.2 59 p15 e15)).trans (pcC.pe (ke_X1_close N y5.2 41 y9 ey9))
  have prn : pcR ne.2 = pcR u := (pcR.qe (kre_f_X12_need N sh.2 59 ne hne)).trans (pcR.qe (kre_f_X12_shut N u 41 sh hsh))
  have pcR2 : pcC R.2 = pcC p15.2 + 2 := by
    have z1' : pcC R.2 = pcC p30.2 := by unfold pcC; rw [R1 20 (by decide) (by decide) (by decide)]
    have z2' : pcC p30.2 = pcC p25.2 := by unfold pcC; rw [(aim_eq e30).1]
    rw [z1', z2', pe25, pe20]
  have prV : pcR V4 = pcR ne.2 + 1 := (pcR.qe qV).trans pem
  rw [pcR2, prV] at cur
  rw [R36] at cur
  rw [pe25, pe20] at ct9
  rw [pe20] at s30 s11 pq
  rw [pcp2] at ct10
  obtain ⟨p0, cp0, lp0, lps⟩ := hd (S.o c1.2.1 11) (Or.inr (Or.inl ⟨hr0, rfl⟩))
  have q66 := (rp go).1 (Or.inr (Or.inl hr0))
  rw [r66] at q66
  have cq : (s.a 66 T).toInt = (((s.a 66 T).toInt.toNat : Nat) : Int) := (Int.toNat_of_nonneg q66).symm
  have p12 := pq.1
  have bkj : jbk Gx ω (vw S s c1) jj = jj := if_neg (by rw [hr0]; decide)
  have cnj : jcn Gx ω (vw S s c1) jj = jj.up 2528 := by
    unfold jcn
    rw [if_pos (Or.inl hr0)]
  have jl : jlv (vw S s c1).v = 2528 := by rw [hr0]; rfl
  have en : ∀ (h l : Nat), jen Gx ω (vw S s c1) h l = [] := fun h l => jen.no (by rw [hr0]; decide) nty (by rw [hr0]; decide)
  have ps : (s.i 20).toInt = ((pcR s : Nat) : Int) := (Int.toNat_of_nonneg hv.p20.1).symm
  have vbq : vb.toInt = ((pcR ne.2 + 1 : Nat) : Int) := by
    rw [← pem, hvb, ← eiv]
    unfold pcR
    have z := p20n.1
    have z2' := W7.1.p20.1
    rw [eiv]
    exact (Int.toNat_of_nonneg z2').symm
  have ex : ∀ Y : Als, S01 (GU FC SF U nm X) (GU FC SF U nm Y) → v = 1 → GU FC SF U nm Y (pcC p15.2 + 2) (pcR ne.2 + 1) jj.h (ω + jj.l - (pcC p15.2 + 2)) 0 jj.c := fun Y sy h1 => sy _ _ _ _ _ _ (Nat.zero_le _) (cur h1).1
  have cond : ∀ Y : Als, S01 (GU FC SF U nm X) (GU FC SF U nm Y) → GU2 FC SF U nm Y p0 (s.a 66 T).toInt.toNat jj.h (ω + jj.l + 1264 - p0) jj.c → ¬ (S.i 36 = 0 ∧ s.a 51 G = 0) → ∀ g : Nat, GU FC SF U nm Y (pcC S) (pcR s) jj.h (ω + jj.l + 2528 - pcC S) g jj.c := fun Y sy hed ne0 => by
    have gv : gf = 4 ∨ v = 1 := by
      rcases hgf with ⟨z, z'⟩ | ⟨z, -⟩
      · exact Or.inr (vb2 ne0 z')
      · exact Or.inl z
    have z := kal Y sy (by
      rw [← pc15, ← prn]
      refine gi_UJnb ⟨⟨s12, by have := pq.2; omega⟩, hcc.up (Nat.le_add_right _ _)⟩ pq.2.1 ⟨⟨s31, s30, u14, p12⟩, jj.h, rfl, ⟨p0, _, ω + jj.l + 1264 - p0, ⟨by rw [s11]; exact cp0, by rw [u22]; exact cq⟩, by omega, hed.1⟩, ?_⟩
      rcases gv with w | w
      · exact Or.inl w
      · exact Or.inr ⟨pcC p15.2 + 2, ω + jj.l - (pcC p15.2 + 2), by rw [s9]; exact ct9, by omega, ex Y sy w⟩)
    rw [pcy1, prz1] at z
    exact z
  refine lop_fin (jh := jj) cp0 lp0 cq hY hX (fun Y h => by rw [← r66]; exact h.2.1 hr0) (fun Y sy hed => ⟨⟨fun z => absurd (hr0.symm.trans z) (by decide), fun z => absurd (hr0.symm.trans z) (by decide), fun z => absurd (hr0.symm.trans z) (by decide), fun _ => ⟨_, _, cp0, by rw [r66]; exact cq, lp0, hed⟩, fun z => absurd (hr0.symm.trans z) (by decide), fun z => absurd (hr0.symm.trans z) (by decide), fun z => absurd (hr0.symm.trans z) (by decide), fun z => absurd z nty, fun _ => noc.gl⟩, fun _ => ⟨fun fl => ?_, fun _ fl => ?_⟩, fun h1 => ?_⟩)
  · rw [bkj]
    have fl' : s.a 50 G = 1 := by rw [hGc]; exact fl
    exact ⟨_, _, ct9, vbq, ex Y sy (vb1 (by rw [fl']; decide))⟩
  · rw [cnj]
    have fl' : s.a 51 G = 1 := by rw [hGc]; exact fl
    refine ⟨_, _, ct10, ps, ?_⟩
    have z := cond Y sy hed (fun w => by rw [fl'] at w; exact absurd w.2 (by decide)) 0
    rw [show ω + (jj.up 2528).l - pcC S = ω + jj.l + 2528 - pcC S by (show ω + (jj.l + 2528) - pcC S = ω + jj.l + 2528 - pcC S; omega)]
    exact z
  · rw [en, jl]
    have z := cond Y sy hed (fun w => by rw [h1] at w; exact absurd w.1 (by decide))
    rw [show ω + (jj.l + 2528) - pcC S = ω + jj.l + 2528 - pcC S by omega]
    exact ⟨z 0, z 1⟩
end
section
/-! both readers: a group more of the switch on top -/
theorem chn.lo {s : RS} {w : Int32} : ∀ (L : List Nat) (k : Int32), chn s k L → (∀ j ∈ L, (j : Int) < w.toInt) → chn (RS.setI s 24 w) k L
  | [], _, g, _ => g
  | j :: L, _, g, b => ⟨g.1, (show (j : Int) < w.toInt from b j List.mem_cons_self), g.2.2.1, chn.lo L _ g.2.2.2 (fun i hi => b i (List.mem_cons_of_mem _ hi))⟩
theorem STK.lo24 {S : CS} {s : RS} {w : Int32} : ∀ (L : List CEL) (m e k : Int), STK S s L m e k → e ≤ w.toInt → STK S (RS.setI s 24 w) L m e k
  | [], _, _, _, _, _ => trivial
  | c :: L, m, e, k, g, he => by
    obtain ⟨m', e', k', g1, g2, g3⟩ := g
    obtain ⟨a1, a2, a3, a4, a5, a6, a7⟩ := g1
    have le : e' ≤ e := by
      by_cases z : S.o c.2.1 0 = 218
      · exact (a5 z).2.1
      · rw [(a4 z).2]
        exact Int.le_refl _
    refine ⟨m', e', k', ⟨a1, a2, a3, a4, fun z => ?_, a6, fun z => ?_⟩, g2, STK.lo24 L m' e' k' g3 (by omega)⟩
    · obtain ⟨x1, x2, x3, M, y1, y2, y3, y4⟩ := a5 z
      exact ⟨x1, x2, x3, M, y1, chn.lo M _ y2 (fun j hj => by have := (y4 j hj).2; omega), y3, y4⟩
    · obtain ⟨x1, M, y1, y2, y3, y4⟩ := a7 z
      exact ⟨x1, M, kch.eq (s := s) (u := RS.setI s 24 w) rfl rfl y1, y2, y3, y4⟩
theorem JMQ.eqv {S R : CS} {s u : RS} {L : List CEL} {B59 B29 : Int} (h : JMQ S s L B59 B29) (e0 : ∀ a : Nat, R.o a 0 = S.o a 0) (e1 : ∀ a : Nat, R.o a 1 = S.o a 1) (e14 : ∀ a : Nat, R.o a 14 = S.o a 14) (e15 : ∀ a : Nat, R.o a 15 = S.o a 15) (i54 : R.i 54 = S.i 54) (i55 : R.i 55 = S.i 55) (e52 : R.a 52 = S.a 52) (f50 : u.a 50 = s.a 50) (f51 : u.a 51 = s.a 51) (f60 : u.a 60 = s.a 60) (f61 : u.a 61 = s.a 61) (f62 : u.a 62 = s.a 62) (i59 : u.i 59 = s.i 59) (f66 : ∀ y ∈ L, u.a 66 (ceT y) = s.a 66 (ceT y)) : JMQ R u L B59 B29 := by
  unfold JMQ RCD PND SAF INR flg at *
  simp only [e0, e1, e14, e15]
  rw [i54, i55, e52, f50, f51, f60, f61, f62, i59]
  obtain ⟨h1, h2, h3, h4, h5, h6, h7, h8⟩ := h
  refine ⟨fun c hc g b hb i r => ?_, h2, fun k hk q hq t z => ?_, fun k k1 k2 => ?_, fun q hq t => ?_, fun q hq p hp t1 t2 l => ?_, h7, h8⟩
  · rcases h1 c hc g b hb i r with z | ⟨k, q, hq, t, l, ⟨p1, p2, p3, p4⟩, w⟩
    · exact Or.inl z
    · exact Or.inr ⟨k, q, hq, t, l, ⟨p1, p2, p3, by rw [f66 q hq]; exact p4⟩, w⟩
  · rw [f66 q hq] at z
    obtain ⟨c, hc, g, l, b, hb, ⟨p1, p2, p3, p4⟩, w⟩ := h3 k hk q hq t z
    exact ⟨c, hc, g, l, b, hb, ⟨p1, p2, p3, by rw [f66 q hq]; exact p4⟩, w⟩
  · rcases h4 k k1 k2 with z | ⟨q, hq, t, z⟩
    · exact Or.inl z
    · exact Or.inr ⟨q, hq, t, by rw [f66 q hq]; exact z⟩
  · rw [f66 q hq]
    exact h5 q hq t
  · rw [f66 q hq, f66 p hp]
    exact h6 q hq p hp t1 t2 l
set_option maxHeartbeats 4000000 in
theorem COR.grp {d : Int32} {B : CS} {b : RS} {t0 : Nat} {L : List CEL} {x x' : Int} {S R : CS} {s u : RS} {c1 c : CEL} {w0 : Int32} (h : COR d B b t0 (c1 :: c :: L) x S s) (tp : TOP S s c1) (bz : BAZ B b (c1 :: c :: L)) (hT : t0 ≤ ceT c1) (h218 : S.o c1.2.1 0 = 218) (ev : ENV d R u) (f : FRB (ceT c1) s u) (a66 : u.a 66 (ceT c1) = s.a 66 (ceT c1))
    (ui : ∀ k : Nat, (k = 2 ∨ k = 3 ∨ k = 8 ∨ k = 20 ∨ k = 29 ∨ k = 33 ∨ k = 38 ∨ k = 43 ∨ k = 56 ∨ k = 59) → u.i k = s.i k) (u24 : (s.i 24).toInt ≤ (u.i 24).toInt) (ub : u.b 9 = s.b 9 ∧ u.b 39 = s.b 39 ∧ u.b 45 = s.b 45) (ua : ∀ k : Nat, (k = 1 ∨ k = 4 ∨ k = 30 ∨ k = 34 ∨ k = 37 ∨ k = 40 ∨ k = 41 ∨ k = 44 ∨ k = 46 ∨ k = 47 ∨ k = 48 ∨ k = 49 ∨ k = 50 ∨ k = 51 ∨ k = 57 ∨ k = 58 ∨ k = 60 ∨ k = 61 ∨ k = 62) → u.a k = s.a k) (u22 : ∀ j : Nat, j ≠ (s.a 66 (ceT c1)).toNatClampNeg → u.a 22 j = s.a 22 j)
    (hw0 : ((s.a 67 (ceT c1)).toInt < 0 ∧ w0 = s.i 24) ∨ (0 ≤ (s.a 67 (ceT c1)).toInt ∧ w0 = s.a 67 (ceT c1))) (ue : ∀ j : Nat, (j : Int) < w0.toInt → u.a 25 j = s.a 25 j ∧ u.a 27 j = s.a 27 j ∧ u.a 28 j = s.a 28 j) (u67 : 0 ≤ (u.a 67 (ceT c1)).toInt → (s.i 24).toInt ≤ (u.a 67 (ceT c1)).toInt)
    (er : R.r = S.r) (eol : R.ol = S.ol) (eo : ∀ a : Nat, a ≠ c1.2.1 → R.o a = S.o a) (ek : ∀ k : Nat, k ≠ 5 → k ≠ 11 → R.o c1.2.1 k = S.o c1.2.1 k) (ei : R.i 38 = S.i 38 ∧ R.i 50 = S.i 50 ∧ R.i 53 = S.i 53 ∧ R.i 54 = S.i 54 ∧ R.i 55 = S.i 55 ∧ R.i 56 = S.i 56) (l22 : (S.i 22).toInt ≤ (R.i 22).toInt) (e18 : ∀ i : Nat, (i : Int) < (S.i 22).toInt → R.a 18 i = S.a 18 i) (e52 : R.a 52 = S.a 52)
    (cs : ∀ M : List Nat, CSM S s (S.o c1.2.1 13).toInt (S.i 22).toInt M → chn s (s.a 22 (s.a 66 (ceT c1)).toNatClampNeg) M → FQL s (ceT c1) M → ∃ M' : List Nat, CSM R u (S.o c1.2.1 13).toInt (R.i 22).toInt M' ∧ chn u (u.a 22 (s.a 66 (ceT c1)).toNatClampNeg) M' ∧ FQL u (ceT c1) M' ∧ ∀ j ∈ M', j ∈ M ∨ (s.i 24).toInt ≤ (j : Int)) (rfr : RFR R u c1.2.1 (ceT c1) (ceG c1) (ceW c1)) (rt : RTE S R) (q : (s.i 11).toInt ≤ (u.i 11).toInt ∧ phI s ≤ phI u ∧ (s.i 17).toInt ≤ (u.i 17).toInt ∧ u.i 19 = s.i 19) : COR d B b t0 (c1 :: c :: L) x' R u ∧ TOP R u c1 := by
  have adr := h.adr
  have hinL := h.inlB tp
  have hb := h.b53 tp bz
  obtain ⟨h1, h2, h3, h4, h5, ⟨h6, h7, h8, h9⟩, ⟨h10, h11, h12, hsg⟩, h13, ⟨h14, h15, h16⟩, h17, ⟨h18, h19, h20, col, h21⟩⟩ := h
  obtain ⟨i38, i50, i53, i54, i55, i56⟩ := ei
  have eko : ∀ k : Nat, k ≠ 5 → k ≠ 11 → ∀ a : Nat, R.o a k = S.o a k := fun k k1 k2 a => by
    by_cases z : a = c1.2.1
    · rw [z]
      exact ek k k1 k2
    · rw [eo a z]
  have e0 := eko 0 (by decide) (by decide)
  have e1 := eko 1 (by decide) (by decide)
  have e3 := eko 3 (by decide) (by decide)
  have e13 := eko 13 (by decide) (by decide)
  have e14 := eko 14 (by decide) (by decide)
  have e15 := eko 15 (by decide) (by decide)
  have eoL : ∀ y ∈ c :: L, R.o y.2.1 = S.o y.2.1 := fun y hy => eo y.2.1 (adr y hy)
  obtain ⟨d1, d2⟩ := DSM.eq (c :: L) eoL
  have ord := STK.ord (c :: L) c1 _ _ _ h2
  have h218R : R.o c1.2.1 0 = 218 := (e0 _).trans h218
  have nty : ¬ isTy (S.o c1.2.1 0) := by
    rw [h218]
    unfold isTy
    decide
  have ntyR : ¬ isTy (R.o c1.2.1 0) := by rw [e0]; exact nty
  have h2' := h2
  obtain ⟨m', e', k', c1s, lkl, stl⟩ := h2'
  obtain ⟨lk, lw⟩ := lkl c rfl
  obtain ⟨s1, s2', s3, s4, s5, s6, s7⟩ := c1s
  obtain ⟨em, ee, a66b, M, y1, y2, y3, y4⟩ := s5 h218
  have ekk := s6 nty
  rw [em] at y1
  obtain ⟨c51, c52, c53⟩ := h21.2.2.2.2.1 c1 List.mem_cons_self h218
  have cp0 := clampI a66b.1
  obtain ⟨p0, hp0⟩ : ∃ p, p = (s.a 66 (ceT c1)).toNatClampNeg := ⟨_, rfl⟩
  rw [← hp0] at cp0 u22 y2
  have f66 : ∀ y ∈ c1 :: c :: L, u.a 66 (ceT y) = s.a 66 (ceT y) := fun y hy => by
    rcases List.mem_cons.mp hy with z | hy2
    · rw [z]
      exact a66
    · have a := (hinL y hy2).2.2.1
      have w := wid1 (S.o y.2.1 0)
      exact (f (ceT y) (by omega)).2.2.1
  have nf : ∀ y ∈ c :: L, S.o y.2.1 0 = 218 → ¬ (s.a 66 (ceT y)).toNatClampNeg = p0 := fun y hy t z => by
    have l := h21.2.2.2.2.2.1 y (List.mem_cons_of_mem _ hy) c1 List.mem_cons_self t h218 (ord y hy)
    have g := (h21.2.2.2.2.1 y (List.mem_cons_of_mem _ hy) t).1
    have cy := clampI (k := s.a 66 (ceT y)) (by omega)
    rw [z] at cy
    omega
  obtain ⟨ta1, ta2, ta3, p0', p1', p2', p3', p4', p5', p6', p7', p8', p9', p10'⟩ := id h7
  have ew : e' ≤ w0.toInt ∧ w0.toInt ≤ (s.i 24).toInt ∧ (b.i 24).toInt ≤ w0.toInt := by
    rcases hw0 with ⟨z1, z2⟩ | ⟨z1, z2⟩
    · rw [z2]
      exact ⟨ee, Int.le_refl _, p9'⟩
    · rw [z2]
      rcases lst_end M with w | ⟨L0, l, w⟩
      · have := y3.1 w
        omega
      · have a := y3.2 L0 l w
        have bb := y4 l (by rw [w]; exact List.mem_append_right _ List.mem_cons_self)
        have cc := (h13.2.2.2.2 c1 List.mem_cons_self).2 h218 z1
        omega
  -- s, but what its own entries change
  obtain ⟨s2, hs2⟩ : ∃ y, y = RS.setI (RS.setA s 22 p0 (u.a 22 p0)) 24 w0 := ⟨_, rfl⟩
  have st2 : STK S s2 (c :: L) m' e' k' := by
    rw [hs2]
    exact STK.lo24 (c :: L) _ _ _ (STK.e22 (E22.set (F := fun k => k = p0) (s := s) (v := u.a 22 p0) rfl) (c :: L) _ _ _ nf stl) ew.1
  have s2i : ∀ k : Nat, k ≠ 24 → s2.i k = s.i k := fun k hk => by
    rw [hs2]
    exact if_neg hk
  have s224 : s2.i 24 = w0 := by rw [hs2]; rfl
  have s2a : ∀ k : Nat, k ≠ 22 → s2.a k = s.a k := fun k hk => by
    rw [hs2, rsI_a]
    exact setA_nk hk
  have s222 : ∀ j : Nat, u.a 22 j = s2.a 22 j := fun j => by
    rw [hs2, rsI_a]
    by_cases z : j = p0
    · rw [z]
      exact setA_at.symm
    · rw [setA_ne z]
      exact u22 j z
  have s2b : s2.b = s.b := by rw [hs2]; rfl
  clear hs2
  have f2 : FRB (ceT c1) s2 u := fun j hj => by
    obtain ⟨g0, g1, g2, g3, g4, g5, g6, g7, g8, g9, gb⟩ := f j hj
    exact ⟨by rw [s2a 64 (by decide)]; exact g0, by rw [s2a 65 (by decide)]; exact g1, by rw [s2a 66 (by decide)]; exact g2, by rw [s2a 67 (by decide)]; exact g3, by rw [s2a 68 (by decide)]; exact g4, by rw [s2a 69 (by decide)]; exact g5, by rw [s2a 70 (by decide)]; exact g6, by rw [s2a 71 (by decide)]; exact g7, by rw [s2a 72 (by decide)]; exact g8, by rw [s2a 73 (by decide)]; exact g9, by rw [s2b]; exact gb⟩
  have tb2 : TBR s2 u := by
    unfold TBR
    rw [s224, s2b, s2i 38 (by decide), s2i 43 (by decide), s2i 56 (by decide), s2i 59 (by decide), s2i 29 (by decide), s2i 33 (by decide), ui 59 (by decide), ui 29 (by decide), ui 33 (by decide), ub.2.1, ub.2.2, ua 40 (by decide), ua 41 (by decide), ua 44 (by decide), ua 46 (by decide), ua 47 (by decide), ua 50 (by decide), ua 51 (by decide), ua 48 (by decide), ua 49 (by decide), ua 57 (by decide), ua 58 (by decide), ua 60 (by decide), ua 61 (by decide), ua 62 (by decide), ua 30 (by decide), ua 34 (by decide), ua 37 (by decide), s2a 40 (by decide), s2a 41 (by decide), s2a 44 (by decide), s2a 46 (by decide), s2a 47 (by decide), s2a 50 (by decide), s2a 51 (by decide), s2a 48 (by decide), s2a 49 (by decide), s2a 57 (by decide), s2a 58 (by decide), s2a 60 (by decide), s2a 61 (by decide), s2a 62 (by decide), s2a 30 (by decide), s2a 34 (by decide), s2a 37 (by decide), s2a 25 (by decide), s2a 27 (by decide), s2a 28 (by decide)]
    exact ⟨fun _ _ => ⟨rfl, rfl, rfl⟩, fun _ _ => ⟨rfl, rfl, rfl, rfl, rfl, rfl, rfl, rfl⟩, fun _ _ => ⟨rfl, rfl⟩, ⟨Int.le_refl _, fun j k1 k2 => by omega⟩, fun _ _ => ⟨rfl, rfl, rfl⟩, Int.le_refl _, fun _ _ => rfl, Int.le_refl _, fun _ _ => ⟨rfl, rfl⟩, by omega, ue⟩
  have cd2 : CDK (s2.i 20).toInt s2 u := ⟨by rw [s2i 20 (by decide), ui 20 (by decide)]; exact Int.le_refl _, fun j _ => s222 j⟩
  -- the rows below
  obtain ⟨W, hW⟩ : ∃ W, W = CS.setO (CS.setO S c1.2.1 5 (R.o c1.2.1 5)) c1.2.1 11 (R.o c1.2.1 11) := ⟨_, rfl⟩
  have Wi : W.i = S.i := by rw [hW]; rfl
  have Wa : W.a = S.a := by rw [hW]; rfl
  have Wr : W.r = S.r ∧ W.ol = S.ol := by rw [hW]; exact ⟨rfl, rfl⟩
  have Wo : ∀ a : Nat, W.o a = R.o a := fun a => by
    by_cases z : a = c1.2.1
    · rw [z]
      funext k
      by_cases z1 : k = 11
      · rw [z1, hW, so_at]
      · by_cases z2 : k = 5
        · rw [z2, hW, so_nk (by decide), so_at]
        · rw [hW, so_nk z1, so_nk z2]
          exact (ek k z2 z1).symm
    · rw [hW, so_ne z, so_ne z]
      exact (eo a z).symm
  clear hW
  have st3 : STK W s2 (c :: L) m' e' k' := STK.eo (S := S) (R := W) Wr.1 (by rw [Wa]) (c :: L) _ _ _ (fun y hy => ⟨by rw [Wo, eoL y hy], by rw [Wr.2]⟩) st2
  have hin3 : INL W s2 (ceT c1) (c :: L) := fun y hy => by
    obtain ⟨z1, z2, z3, z4, z5⟩ := hinL y hy
    rw [Wi, Wr.1, Wo, eoL y hy, s2i 43 (by decide), s2i 56 (by decide)]
    exact ⟨z1, z2, z3, z4, z5⟩
  have ckz : CKZ W (CS.setI R 22 (S.i 22)) := by
    refine ⟨by rw [ci_at, Wi], fun k _ => by show R.r 51 k = _; rw [er, Wr.1], fun k a _ _ => ⟨(Wo a).symm, by show R.ol a = _; rw [eol, Wr.2]⟩, fun k hk => by rw [Wi] at hk; rw [Wa]; exact e18 k hk, by rw [ci_ne _ _ _ (by decide), i54, Wi]; exact Int.le_refl _, by rw [ci_ne _ _ _ (by decide), i55, Wi]; exact Int.le_refl _, fun k _ => by show R.a 52 k = _; rw [e52, Wa], fun k k1 k2 => ?_⟩
    rw [ci_ne _ _ _ (by decide), i55] at k2
    rw [Wi] at k1
    omega
  have m22 : m' ≤ (W.i 22).toInt := by
    rw [em, Wi]
    exact y1.2.1.1
  have st4 := STK.mv ckz f2 tb2 cd2 (c :: L) _ _ _ st3 hin3 m22 (by rw [s224]; exact ew.1) (by rw [s2i 33 (by decide), ekk]; exact Int.le_refl _)
  have st5 : STK R u (c :: L) m' e' k' := STK.eo (S := CS.setI R 22 (S.i 22)) (R := R) rfl rfl (c :: L) _ _ _ (fun _ _ => ⟨rfl, rfl⟩) st4
  have cst : CST R u c1 (R.i 22).toInt (u.i 24).toInt (u.i 33).toInt m' e' k' := by
    obtain ⟨M', v1, v2, v3, v4⟩ := cs M y1 (by rw [← hp0]; exact y2) y3
    have l' := chn.lt M' _ v2
    refine ⟨by rw [er]; exact s1, s2', rfr, fun z => absurd h218R z, fun _ => ⟨by rw [e13]; exact em, by omega, by rw [a66, ui 20 (by decide)]; exact a66b, M', by rw [em]; exact v1, by rw [a66]; exact v2, v3, fun j hj => ?_⟩, fun _ => by rw [ui 33 (by decide)]; exact ekk, fun z => absurd z ntyR⟩
    have lj := l' j hj
    rcases v4 j hj with z | z
    · exact ⟨(y4 j z).1, lj⟩
    · exact ⟨by omega, lj⟩
  have lkR : LNK R c1 c := by
    unfold LNK at *
    rw [ek 0 (by decide) (by decide), ek 1 (by decide) (by decide), ek 3 (by decide) (by decide), ek 14 (by decide) (by decide), eoL c List.mem_cons_self]
    exact lk
  have lwR : LOW R u c := lw.mv (eoL c List.mem_cons_self) f (by rw [lk.2.1]; exact Nat.le_refl _)
  have jq : JMQ R u (c1 :: c :: L) (b.i 59).toInt (b.i 29).toInt := h3.eqv e0 e1 e14 e15 i54 i55 e52 (ua 50 (by decide)) (ua 51 (by decide)) (ua 60 (by decide)) (ua 61 (by decide)) (ua 62 (by decide)) (ui 59 (by decide)) f66
  have pd : PDM R (c1 :: c :: L) = PDM S (c1 :: c :: L) := by
    have z1 : PDM R (c1 :: c :: L) = dbt (R.o c1.2.1 0) + PDM R (c :: L) := rfl
    have z2 : PDM S (c1 :: c :: L) = dbt (S.o c1.2.1 0) + PDM S (c :: L) := rfl
    rw [z1, z2, e0, d2]
  have ds : DSM R (c1 :: c :: L) = DSM S (c1 :: c :: L) := by
    have z1 : DSM R (c1 :: c :: L) = (nDp (R.o c1.2.1 0) : Int) + DSM R (c :: L) := rfl
    have z2 : DSM S (c1 :: c :: L) = (nDp (S.o c1.2.1 0) : Int) + DSM S (c :: L) := rfl
    rw [z1, z2, e0, d1]
  have k11 := h1.1.2.2.2.1.1
  have k11' := ev.1.2.2.2.1.1
  have rt' := rt
  unfold RTE at rt'
  rw [k11, k11'] at rt'
  have tbbU : TBB b u := by
    have z : TBB b s2 := ⟨by rw [s2i 38 (by decide)]; exact ta1, by rw [s2i 43 (by decide)]; exact ta2, by rw [s2i 56 (by decide)]; exact ta3, fun j hj => by rw [s2b, s2a 40 (by decide), s2a 41 (by decide)]; exact p0' j hj, fun j hj => by rw [s2b, s2a 44 (by decide), s2a 46 (by decide), s2a 47 (by decide), s2a 50 (by decide), s2a 51 (by decide), s2a 48 (by decide), s2a 49 (by decide)]; exact p1' j hj, fun j hj => by rw [s2a 57 (by decide), s2a 58 (by decide)]; exact p2' j hj, by rw [s2i 59 (by decide)]; exact p3', fun j hj => by rw [s2a 60 (by decide), s2a 61 (by decide), s2a 62 (by decide)]; exact p4' j hj, by rw [s2i 29 (by decide)]; exact p5', fun j hj => by rw [s2a 30 (by decide)]; exact p6' j hj, by rw [s2i 33 (by decide)]; exact p7', fun j hj => by rw [s2a 34 (by decide), s2a 37 (by decide)]; exact p8' j hj, by rw [s224]; exact ew.2.2, fun j hj => by rw [s2a 25 (by decide), s2a 27 (by decide), s2a 28 (by decide)]; exact p10' j hj⟩
    exact z.mv tb2 (by rw [ui 38 (by decide)]; exact ta1) (by rw [ui 43 (by decide)]; exact ta2) (by rw [ui 56 (by decide)]; exact ta3)
  have b22 : (B.i 22).toInt ≤ (S.i 22).toInt := h5.2.2.2.1
  refine ⟨⟨ev, st5.push cst lkR lwR, jq, ?_, ?_, ⟨h6.tr (f.mo hT), tbbU, ⟨by rw [ui 20 (by decide)]; exact h8.1, fun j hj => ?_⟩, ⟨(ui 2 (by decide)).trans h9.1, (ui 3 (by decide)).trans h9.2.1, (ui 8 (by decide)).trans h9.2.2.1, (ua 1 (by decide)).trans h9.2.2.2.1, (ua 4 (by decide)).trans h9.2.2.2.2.1, ub.1.trans h9.2.2.2.2.2⟩⟩, ⟨by omega, by rw [pd]; omega, by omega, by rw [q.2.2.2, SSM.eq (c1 :: c :: L) (fun y _ => e0 y.2.1)]; exact hsg⟩, ⟨by rw [i38, ds]; exact h13.1, fun y hy => by rw [e3, i50]; exact h13.2.1 y hy, fun y hy z hz l => by rw [e3, e3]; exact h13.2.2.1 y hy z hz l, ?_, fun y hy => ⟨fun t z => ?_, fun t z => ?_⟩⟩, ⟨by omega, by rw [ui 38 (by decide)]; omega, by omega⟩, ?_, h18, h19, h20, col, ?_⟩, by rw [i53]; exact tp.1, by rw [ui 43 (by decide), e0]; exact tp.2.1, by rw [ui 56 (by decide), e0]; exact tp.2.2⟩
  · have n303 : ¬ S.o c1.2.1 0 = 303 := by
      rw [h218]
      decide
    have nl : ¬ (S.o c1.2.1 0 = 205 ∨ S.o c1.2.1 0 = 206 ∨ S.o c1.2.1 0 = 207 ∨ S.o c1.2.1 0 = 304) := by
      rw [h218]
      decide
    unfold LBC at h4 ⊢
    rw [if_neg n303, if_neg nl] at h4
    rw [e0, if_neg n303, if_neg nl]
    exact LBC.mv (c :: L) _ h4 eoL (fun y hy w => by rw [ua 46 (by decide)])
  · obtain ⟨b1, b2, b3, b4, b5, b6, b7, b8, b9, b10, b11⟩ := h5
    refine ⟨fun k hk => by rw [er]; exact b1 k hk, fun k a hk ha => ?_, by rw [i53]; exact b3, by omega, fun k hk => (e18 k (by omega)).trans (b5 k hk), by rw [i54]; exact b6, by rw [i55]; exact b7, fun k hk => by rw [e52]; exact b8 k hk, fun k q1 q2 => by rw [e52]; rw [i55] at q2; exact b9 k q1 q2, ?_, i56.trans b11⟩
    · have z := b2 k a hk ha
      have e := eo a (fun w => by
        rw [w] at ha
        have := h1.ri.2.1 k c1.1 c1.2.1 (by have := s2'; omega) s2' ((b1 k hk).trans ha) s1
        omega)
      exact ⟨e.trans z.1, by rw [eol]; exact z.2⟩
    · unfold RTE at *
      omega
  · rw [u22 j (by omega)]
    exact h8.2 j hj
  · have z := h13.2.2.2.1
    have w1 : cfl S (c1 :: c :: L) (S.i 22).toInt = cfl S (c :: L) (if S.o c1.2.1 0 = 218 then (S.o c1.2.1 13).toInt else (S.i 22).toInt) := rfl
    have w2 : cfl R (c1 :: c :: L) (R.i 22).toInt = cfl R (c :: L) (if R.o c1.2.1 0 = 218 then (R.o c1.2.1 13).toInt else (R.i 22).toInt) := rfl
    rw [w1, if_pos h218] at z
    rw [w2, if_pos h218R, cfl.eq (c :: L) _ eoL, e13]
    exact z
  · rw [e0] at t
    rcases List.mem_cons.mp hy with w | hy2
    · rw [w] at t
      exact absurd t nty
    · rw [(FRB72 hinL f y hy2).1] at z ⊢
      exact (h13.2.2.2.2 y hy).1 t z
  · rw [e0] at t
    rcases List.mem_cons.mp hy with w | hy2
    · rw [w] at z ⊢
      have := u67 z
      omega
    · rw [(FRB72 hinL f y hy2).2] at z ⊢
      exact (h13.2.2.2.2 y hy).2 t z
  · unfold IAR at *
    rw [i56, i53, er, ui 43 (by decide), ua 44 (by decide)]
    exact h17
  · obtain ⟨g1, g2, g3, g4, g5, g6, g7⟩ := h21
    refine ⟨fun k x e => by rw [ui 20 (by decide)]; exact g1 k x e, fun k x e => ?_, fun y hy t => ?_, fun k g e w => ?_, fun y hy t => ?_, fun y hy z hz t1 t2 l => ?_, fun y hy k p => ?_⟩
    · have ne : k ≠ p0 := fun z => by
        have e3 : (s.a 66 (ceT c1)).toInt.toNat = k := by omega
        rw [e3] at c53
        rw [c53] at e
        cases e
      rw [u22 k ne]
      exact g2 k x e
    · rw [e0] at t
      rw [ua 48 (by decide), ua 49 (by decide)]
      exact g3 y hy t
    · obtain ⟨y, hy, w1, w2⟩ := g4 k g e w
      exact ⟨y, hy, by rw [e0]; exact w1, w2⟩
    · rw [e0] at t
      rw [f66 y hy, ui 20 (by decide)]
      exact g5 y hy t
    · rw [e0] at t1 t2
      rw [f66 y hy, f66 z hz]
      exact g6 y hy z hz t1 t2 l
    · have p' : PLF S s y k := by
        rcases List.mem_cons.mp hy with w | hy2
        · exfalso
          rw [w] at p
          unfold PLF at p
          rw [h218R] at p
          rcases p with ⟨z | z, -⟩ | ⟨z, -⟩ | ⟨z | z, -⟩ <;> exact absurd z (by decide)
        · have a := (hinL y hy2).2.2.1
          have w := wid1 (S.o y.2.1 0)
          have fy := f (ceT y) (by omega)
          unfold PLF at *
          rw [e0, fy.2.2.1, fy.2.2.2.1, fy.2.2.2.2.1] at p
          exact p
      obtain ⟨z1, z2, z3, z4⟩ := g7 y hy k p'
      exact ⟨z1, by rw [ui 20 (by decide)]; exact z2, z3, fun w hw t => by rw [e0] at t; rw [f66 w hw]; exact z4 w hw t⟩
end
section
/-! both readers: the code of a group's head -/
/-- what a group's head leaves of the code -/
def GRZ (f17 : Nat → Int32) (T : Int32) (a t : Nat) (S : CS) (s : RS) (R : CS) (u : RS) : Prop := (R.i 20 = S.i 20 ∧ R.a 15 = S.a 15 ∧ R.a 16 = S.a 16 ∧ R.i 23 = S.i 23 ∧ R.i 38 = S.i 38 ∧ R.a 48 = S.a 48 ∧ R.a 49 = S.a 49) ∧ (T = S.i 21 ∧ R.i 21 = S.i 21 + 1 ∧ R.a 17 = f17) ∧ (∀ k : Nat, (k : Int) < (S.i 22).toInt → R.a 19 k = S.a 19 k) ∧ (0 ≤ (s.i 24).toInt ∧ u.i 20 = s.i 20 ∧ (u.i 24).toInt = (s.i 24).toInt + 1 ∧ u.i 29 = s.i 29 ∧ u.i 33 = s.i 33 ∧ u.i 42 = s.i 42 ∧ u.i 52 = s.i 52 ∧ u.i 38 = s.i 38 ∧ u.i 43 = s.i 43 ∧ u.i 59 = s.i 59) ∧ (∀ k : Nat, (k = 21 ∨ k = 23 ∨ k = 30 ∨ k = 31 ∨ k = 32 ∨ k = 34 ∨ k = 35 ∨ k = 36 ∨ k = 37 ∨ k = 40 ∨ k = 47 ∨ k = 48 ∨ k = 49 ∨ k = 50 ∨ k = 51 ∨ k = 60 ∨ k = 61 ∨ k = 62) → u.a k = s.a k) ∧ (∀ j : Nat, j ≠ (s.a 66 t).toNatClampNeg → u.a 22 j = s.a 22 j) ∧ (∀ j : Nat, (j : Int) < (s.i 24).toInt → u.a 25 j = s.a 25 j ∧ u.a 26 j = s.a 26 j ∧ (¬ (j : Int) = (s.a 67 t).toInt → u.a 27 j = s.a 27 j) ∧ u.a 28 j = s.a 28 j) ∧ u.a 26 (s.i 24).toNatClampNeg = s.i 20 ∧ (∀ M : List Nat, chn s (s.a 22 (s.a 66 t).toNatClampNeg) M → chn u (u.a 22 (s.a 66 t).toNatClampNeg) (M ++ [(s.i 24).toNatClampNeg])) ∧ (u.a 67 t).toInt = (s.i 24).toInt ∧ (((R.i 22).toInt = (S.i 22).toInt + 1 ∧ R.a 19 (S.i 22).toInt.toNat = T ∧ u.a 28 (s.i 24).toNatClampNeg = 0 ∧ R.o a 11 = S.o a 11) ∨ (R.i 22 = S.i 22 ∧ ¬ u.a 28 (s.i 24).toNatClampNeg = 0 ∧ R.o a 11 = T ∧ (S.o a 11).toInt < 0))
theorem chn.upl {s u : RS} (h24 : (s.i 24).toInt ≤ (u.i 24).toInt) : ∀ (L : List Nat) (k : Int32), (∀ j ∈ L, u.a 27 j = s.a 27 j) → chn s k L → chn u k L
  | [], _, _, h => h
  | j :: L, k, e, h => ⟨h.1, by have := h.2.1; omega, h.2.2.1, by rw [e j List.mem_cons_self]; exact chn.upl h24 L _ (fun i hi => e i (List.mem_cons_of_mem _ hi)) h.2.2.2⟩
theorem SWG.mvl {β : Int} {G : GHT} {S R : CS} {s u : RS} {r : RVW} (h : SWG β G S s r) (i22 : (S.i 22).toInt ≤ (R.i 22).toInt) (a19 : ∀ k : Nat, (k : Int) < (S.i 22).toInt → R.a 19 k = S.a 19 k) (i24 : (s.i 24).toInt ≤ (u.i 24).toInt) (e : ∀ M : List Nat, chn s (s.a 22 (r.2.1 66).toNatClampNeg) M → ∀ j ∈ M, u.a 26 j = s.a 26 j ∧ u.a 27 j = s.a 27 j ∧ u.a 28 j = s.a 28 j) (a22 : u.a 22 (r.2.1 66).toNatClampNeg = s.a 22 (r.2.1 66).toNatClampNeg) : SWG β G R u r := by
  obtain ⟨L, h1, ⟨h2, h3, h4, h6⟩, h5⟩ := h
  have e' := e L h1
  have e28 : ∀ j ∈ L, u.a 28 j = s.a 28 j := fun j hj => (e' j hj).2.2
  have en : nd (u.a 28) L = nd (s.a 28) L := nd.eq L e28
  have ck := clampI h2
  refine ⟨L, by rw [a22]; exact chn.upl i24 L _ (fun j hj => (e' j hj).2.1) h1, ⟨h2, by rw [en]; omega, by rw [en]; exact h4, h6.trans ⟨fun ⟨j, hj, z⟩ => ⟨j, hj, by rw [e28 j hj]; exact z⟩, fun ⟨j, hj, z⟩ => ⟨j, hj, by rw [← e28 j hj]; exact z⟩⟩⟩, fun j hj => ⟨(h5 j hj).1, fun z => ?_, fun z => ?_⟩⟩
  · rw [e28 j hj] at z
    obtain ⟨w, w1, w2, w3⟩ := (h5 j hj).2.1 z
    have li := ndx.lt L hj z
    refine ⟨w, w1, ?_, by rw [(e' j hj).1]; exact w3⟩
    rw [ndx.eq L e28, a19 _ (by omega)]
    exact w2
  · rw [e28 j hj] at z
    obtain ⟨w, w1, w2, w3⟩ := (h5 j hj).2.2 z
    exact ⟨w, w1, w2, by rw [(e' j hj).1]; exact w3⟩
/-- the row on top is another, of the same goal -/
theorem JSI.rp {Ψ : GPS} {r r' : RVW} {V : List RVW} {col : Nat → Option (Nat × Bool)} {YJ : Nat → List Nat} {b s : RS} (h : JSI Ψ (r :: V) col YJ b s) (hv : r'.v = r.v) (h2 : r'.2.2 = r.2.2) (nt : ¬ isTyv r) (nw : ¬ isWl r.v) (si : ∀ k : Nat, rsite r' k ↔ rsite r k) : JSI Ψ (r' :: V) col YJ b s := by
  obtain ⟨h1, h3, h4, h5⟩ := h
  have nt' : ¬ isTyv r' := fun z => nt (by unfold isTyv at *; rw [hv] at z; exact z)
  have pty : ∀ k : Nat, PTY (r' :: V) k → PTY (r :: V) k := fun k p => by
    obtain ⟨q, hq, p1, p2⟩ := p
    rcases List.mem_cons.mp hq with z | z
    · rw [z] at p1
      exact absurd p1 nt'
    · exact ⟨q, List.mem_cons_of_mem _ z, p1, p2⟩
  refine ⟨fun q hq go => ?_, fun j g k hc => ?_, fun q hq k p => ?_, fun k p => ?_, h5.2⟩
  · rcases List.mem_cons.mp hq with z | z
    · rw [z] at go ⊢
      rw [h2]
      exact h1 r List.mem_cons_self (by rw [← hv]; exact go)
    · exact h1 q (List.mem_cons_of_mem _ z) go
  · obtain ⟨z0, q, hq, go, e, w⟩ := h3 j g k hc
    have key : ∃ q' ∈ r' :: V, (isGo q'.v ∧ (k = false → isLo q'.v)) ∧ q'.2.2 = q.2.2 := by
      rcases List.mem_cons.mp hq with z | z
      · rw [z] at go ⊢
        exact ⟨r', List.mem_cons_self, by rw [hv]; exact go, h2⟩
      · exact ⟨q, List.mem_cons_of_mem _ z, go, rfl⟩
    obtain ⟨q', hq', go', e2⟩ := key
    refine ⟨z0, q', hq', go', by rw [e2]; exact e, ?_⟩
    rcases w with w | ⟨i, i1, i2, i3, r3, hr3, i4, i5, i6, i7, i8⟩ | ⟨y, hy, w1, w2, w3, w4⟩
    · exact Or.inl w
    · have hr3' : r3 ∈ V := (List.mem_cons.mp hr3).resolve_left (fun z => nt (by rw [← z]; exact i4))
      refine Or.inr (Or.inl ⟨i, i1, i2, i3, r3, List.mem_cons_of_mem _ hr3', i4, by rw [e2]; exact i5, i6, i7, fun r2 hr2 w2 => ?_⟩)
      rcases List.mem_cons.mp hr2 with z | z
      · rw [z, hv] at w2
        exact absurd w2 nw
      · rw [e2]
        exact i8 r2 (List.mem_cons_of_mem _ z) w2
    · exact Or.inr (Or.inr ⟨y, hy, w1, fun p => w2 (pty y p), w3, w4⟩)
  · rcases List.mem_cons.mp hq with z | z
    · rw [z] at p
      exact h4 r List.mem_cons_self k ((si k).mp p)
    · exact h4 q (List.mem_cons_of_mem _ z) k p
  · exact h5.1 k ((si k).mp p)
section
variable {A : JBA} {U : RS} {B : CS} {b : RS} {V : List RVW} {S R : CS} {s u : RS} {c1 : CEL} {T : Int32}
set_option maxHeartbeats 4000000 in
/-- a group more -/
theorem JRW.grp (h : JRW A U B b (vw S s c1 :: V) S s) (h218 : S.o c1.2.1 0 = 218) (ho : ∀ k : Nat, k ≠ 5 → k ≠ 11 → R.o c1.2.1 k = S.o c1.2.1 k) (e66 : u.a 66 (ceT c1) = s.a 66 (ceT c1)) (z : GRZ (gPut (gPut (S.a 17) 1024 T (-1)) 1024 T (S.i 20)) T c1.2.1 (ceT c1) S s R u) (h44 : (S.i 44).toInt ≤ 900) (i44 : (S.i 44).toInt + 2 ≤ (R.i 44).toInt) (pl : ∀ q ∈ V, q.2.2.1 < c1.1) (hb : (b.i 20).toInt ≤ (s.a 66 (ceT c1)).toInt ∧ 0 ≤ (s.a 66 (ceT c1)).toInt ∧ (0 ≤ (s.a 67 (ceT c1)).toInt → (b.i 24).toInt ≤ (s.a 67 (ceT c1)).toInt)) (hM : ∃ M : List Nat, chn s (s.a 22 (s.a 66 (ceT c1)).toNatClampNeg) M ∧ (S.i 22).toInt = (S.o c1.2.1 13).toInt + (nd (s.a 28) M : Int)) (hlow : ∀ q ∈ V, q.v = 218 → ∀ M : List Nat, chn s (s.a 22 (q.2.1 66).toNatClampNeg) M → ∀ j ∈ M, ¬ (j : Int) = (s.a 67 (ceT c1)).toInt) (h20 : 0 ≤ (s.i 20).toInt) (r36 : R.i 36 = 1) (l11 : (s.i 11).toInt ≤ (u.i 11).toInt) (l19 : (s.i 19).toInt ≤ (u.i 19).toInt) : JRW A U B b (vw R u c1 :: V) R u := by
  intro crB
  obtain ⟨⟨eB, hB1, b1⟩, b2, b3, Ψ, G, col, YJ, sax, pin, tgi, ⟨jsi, ⟨eD, hD1, bD⟩, hds, sws, swp⟩, main⟩ := h crB
  obtain ⟨⟨i20, a15, a16, i23, i38, a48, a49⟩, ⟨eT, i21, e17⟩, a19, ⟨h24, u20, u24, u29, u33, u42, u52, u38, u43, u59⟩, ua, u22, ue, un26, uch, u67, cs⟩ := z
  obtain ⟨⟨r1, r1'⟩, r2, r3, r4, r5⟩ := crB.rms b1
  have le1 : eB ≤ 1 := by rcases hB1 with z | ⟨z, -⟩ <;> omega
  have leD : eD ≤ 1 := by rcases hD1 with z | ⟨z, -⟩ <;> omega
  have bn := crB.1.1.2.1
  have eTi : T.toInt = (S.i 21).toInt := by rw [eT]
  have ckT := clampI (show 0 ≤ T.toInt by omega)
  have ibT : ib T 1024 := ⟨by omega, by omega⟩
  have aT : R.a 17 T.toNatClampNeg = S.i 20 := by
    rw [e17]
    unfold gPut
    rw [if_pos ibT]
    exact if_pos rfl
  have a17 : ∀ k : Nat, ¬ (k : Int) = T.toInt → R.a 17 k = S.a 17 k := fun k hk => by
    rw [e17]
    unfold gPut
    rw [if_pos ibT, if_pos ibT]
    have nk : ¬ k = T.toNatClampNeg := fun e => hk (by omega)
    exact (if_neg nk).trans (if_neg nk)
  have i21' : (R.i 21).toInt = (S.i 21).toInt + 1 := by rw [i21]; exact ad1 r2 (by omega)
  obtain ⟨en, hen⟩ : ∃ en : Nat, en = (s.i 24).toNatClampNeg := ⟨_, rfl⟩
  have cken : (s.i 24).toInt = (en : Int) := by rw [hen]; exact (clampI h24).symm
  rw [← hen] at un26 uch cs
  have g0 : R.o c1.2.1 0 = 218 := by rw [ho 0 (by decide) (by decide)]; exact h218
  obtain ⟨r, hrd⟩ : ∃ r, r = vw S s c1 := ⟨_, rfl⟩
  obtain ⟨r', hrd'⟩ : ∃ r', r' = vw R u c1 := ⟨_, rfl⟩
  have rv : r.v = 218 := by rw [hrd]; exact h218
  have rv' : r'.v = 218 := by rw [hrd']; exact g0
  have f66 : r.2.1 66 = s.a 66 (ceT c1) := by rw [hrd]; exact (vw_at (k := 66) ⟨by decide, by decide⟩)
  have f66' : r'.2.1 66 = s.a 66 (ceT c1) := by rw [hrd', ← e66]; exact (vw_at (k := 66) ⟨by decide, by decide⟩)
  have f67 : r.2.1 67 = s.a 67 (ceT c1) := by rw [hrd]; exact (vw_at (k := 67) ⟨by decide, by decide⟩)
  have f67' : r'.2.1 67 = u.a 67 (ceT c1) := by rw [hrd']; exact (vw_at (k := 67) ⟨by decide, by decide⟩)
  have rp : r.2.2 = (c1.1, ceG c1) := by rw [hrd]; rfl
  have rp' : r'.2.2 = r.2.2 := by rw [rp, hrd']; rfl
  have ro : ∀ k : Nat, k ≠ 5 → k ≠ 11 → r'.1 k = r.1 k := fun k h1 h2 => by
    rw [hrd, hrd']
    show (if k = 5 then 0 else R.o c1.2.1 k) = (if k = 5 then 0 else S.o c1.2.1 k)
    rw [if_neg h1, if_neg h1]
    exact ho k h1 h2
  have ro11 : r.1 11 = S.o c1.2.1 11 ∧ r'.1 11 = R.o c1.2.1 11 ∧ r.1 13 = S.o c1.2.1 13 := by rw [hrd, hrd']; exact ⟨rfl, rfl, rfl⟩
  rw [← hrd] at sax pin tgi jsi bD hds sws swp main
  rw [← hrd']
  clear hrd hrd'
  have nty : ¬ isTyv r := fun z => by
    unfold isTyv at z
    rw [rv] at z
    rcases z with z | z | z | z <;> exact absurd z (by decide)
  have nty' : ¬ isTyv r' := fun z => by
    unfold isTyv at z
    rw [rv'] at z
    rcases z with z | z | z | z <;> exact absurd z (by decide)
  have nwl : ¬ isWl r.v := fun z => by
    rw [rv] at z
    rcases z with z | z | z <;> exact absurd z (by decide)
  have si : ∀ k : Nat, rsite r' k ↔ rsite r k := fun k => by
    unfold rsite
    rw [rv, rv', f66, f66']
    simp only [show ¬ (218 : Int32) = 204 by decide, show ¬ ((218 : Int32) = 205 ∨ (218 : Int32) = 207) by decide, false_and, false_or]
  have pen : ∀ k : Nat, PEN (r' :: V) col k ↔ PEN (r :: V) col k := fun k => by
    constructor
    · rintro (p | ⟨q, hq, p⟩)
      · exact Or.inl p
      · rcases List.mem_cons.mp hq with z | z
        · rw [z] at p
          exact Or.inr ⟨r, List.mem_cons_self, (si k).mp p⟩
        · exact Or.inr ⟨q, List.mem_cons_of_mem _ z, p⟩
    · rintro (p | ⟨q, hq, p⟩)
      · exact Or.inl p
      · rcases List.mem_cons.mp hq with z | z
        · rw [z] at p
          exact Or.inr ⟨r', List.mem_cons_self, (si k).mpr p⟩
        · exact Or.inr ⟨q, List.mem_cons_of_mem _ z, p⟩
  have pch : ∀ k : Nat, PCH (r' :: V) k → PCH (r :: V) k := fun k ⟨q, hq, p1, p2⟩ => by
    rcases List.mem_cons.mp hq with z | z
    · rw [z, f66'] at p2
      exact ⟨r, List.mem_cons_self, Or.inl rv, by rw [f66]; exact p2⟩
    · exact ⟨q, List.mem_cons_of_mem _ z, p1, p2⟩
  have pty : ∀ k : Nat, PTY (r' :: V) k ↔ PTY (r :: V) k := fun k => by
    constructor
    · exact fun p => (p.nt nty').elim (fun q hq => ⟨q, List.mem_cons_of_mem _ hq.1, hq.2⟩)
    · exact fun p => (p.nt nty).elim (fun q hq => ⟨q, List.mem_cons_of_mem _ hq.1, hq.2⟩)
  have pca : ∀ k : Nat, PCA (r' :: V) k ↔ PCA (r :: V) k := fun k => by
    constructor
    · exact fun p => (p.nt nty').elim (fun q hq => ⟨q, List.mem_cons_of_mem _ hq.1, hq.2⟩)
    · exact fun p => (p.nt nty).elim (fun q hq => ⟨q, List.mem_cons_of_mem _ hq.1, hq.2⟩)
  have tgs : rtgs r' = rtgs r := by
    unfold rtgs
    rw [rv, rv', ro 9 (by decide) (by decide), ro 10 (by decide) (by decide)]
    simp only [show ¬ (218 : Int32) = 203 by decide, show ¬ ((218 : Int32) = 213 ∨ (218 : Int32) = 215) by decide]
    rfl
  have ptle : ptl (r' :: V) = ptl (r :: V) := by
    show rtgs r' ++ ptl V = rtgs r ++ ptl V
    rw [tgs]
  obtain ⟨gv, hgv⟩ : ∃ gv : Nat × Nat × List (Int32 × Nat), gv = ((G r.2.2.1).1, (G r.2.2.1).2.1, (G r.2.2.1).2.2 ++ [(T, pcR s)]) := ⟨_, rfl⟩
  have pn : ∀ q ∈ V, ¬ q.2.2.1 = c1.1 := fun q hq z => by
    have := pl q hq
    omega
  have rpl : r.2.2.1 = c1.1 := by rw [rp]
  have rpl' : r'.2.2.1 = c1.1 := by rw [rp', rp]
  rw [rpl] at hgv
  have kdx : ∀ {x y : Int}, y ≤ 1 → KD1 x y B S → KD1 (x - 2) 0 B R := fun {x y} hy k => by
    obtain ⟨⟨k1, k2, k3⟩, k4, k5, ⟨k6, k7⟩, k8, k9⟩ := k
    refine ⟨⟨by rw [i20]; exact k1, by rw [i20]; omega, by omega⟩, fun j hj => by rw [a15, a16]; exact k4 j hj, by omega, ⟨by rw [i23]; exact k6, by rw [i23]; omega⟩, ?_, fun j hj => by rw [a19 j (by omega)]; exact k9 j hj⟩
    rcases cs with c | c
    · have := c.1
      omega
    · rw [c.1]
      exact k8
  have kd2 : ∀ {x : Int}, x ≤ (b.i 20).toInt → KD2 x b s → KD2 x b u := fun {x} hx k => by
    obtain ⟨⟨k1, k2, k3, k4, k5⟩, m1, m2, m3, m4⟩ := k
    refine ⟨⟨by rw [u20]; exact k1, by omega, by rw [u29]; exact k3, by rw [u33]; exact k4, SLC.tr k5 (SLC.eq u42 (by rw [u20]; exact Int.le_refl _))⟩, fun j hj => ?_, fun j hj => ?_, fun j hj => by rw [ua 30 (by decide), ua 31 (by decide), ua 32 (by decide)]; exact m3 j hj, fun j hj => by rw [ua 34 (by decide), ua 35 (by decide), ua 36 (by decide), ua 37 (by decide)]; exact m4 j hj⟩
    · have ck := clampI hb.2.1
      rw [ua 21 (by decide), ua 23 (by decide), u22 j (fun e => by omega)]
      exact m1 j hj
    · have y := ue j (by omega)
      rw [y.1, y.2.1, y.2.2.1 (fun e => by have := hb.2.2 (by omega); omega), y.2.2.2]
      exact m2 j hj
  have dbs : DB (G.set c1.1 gv) (r' :: V) = DB G (r :: V) + 2 := by
    show DB (G.set c1.1 gv) V + dbr (G.set c1.1 gv r'.2.2.1) r'.v = DB G V + dbr (G r.2.2.1) r.v + 2
    rw [DB.gs V pn, rpl', rpl, GHT.at, rv, rv', hgv]
    show DB G V + (2 + 2 * (((G c1.1).2.2 ++ [(T, pcR s)]).length : Int)) = DB G V + (2 + 2 * ((G c1.1).2.2.length : Int)) + 2
    rw [List.length_append]
    show DB G V + (2 + 2 * (((G c1.1).2.2.length + 1 : Nat) : Int)) = _
    omega
  have gk : GKV (r' :: V) s u := ⟨fun q hq go => by
    have lt : ((q.2.2.2 : Nat) : Int) < (s.i 43).toInt := by
      rcases List.mem_cons.mp hq with z | z
      · rw [z, rp']
        exact (jsi.1 r List.mem_cons_self (by rw [rv]; exact Or.inr (Or.inl rfl))).1
      · exact (jsi.1 q (List.mem_cons_of_mem _ z) go).1
    rw [ua 50 (by decide), ua 51 (by decide), ua 48 (by decide), ua 49 (by decide), ua 47 (by decide), u43]
    exact ⟨lt, rfl, rfl, rfl, rfl, rfl⟩, by rw [u59]; exact Int.le_refl _, fun j _ => by
    rw [ua 60 (by decide), ua 61 (by decide), ua 62 (by decide)]
    exact ⟨rfl, rfl, rfl⟩⟩
  have nh : ∀ j : Nat, ¬ col j = none → u.a 22 j = s.a 22 j := fun j hj => u22 j (fun e => hj (by
    rw [e]
    exact jsi.2.2.1 r List.mem_cons_self _ (by
      have := rsite.h8 rv (by rw [f66]; exact hb.2.1)
      rw [f66] at this
      exact this)))
  have js : JSI Ψ (r' :: V) col YJ b u := (jsi.rp (by rw [rv, rv']) rp' nty nwl si).mw gk (by rw [u20]; exact Int.le_refl _) (by rw [u29]; exact Int.le_refl _) nh (fun y _ _ => by rw [ua 31 (by decide)]) (fun _ _ q => q)
  -- the entries
  obtain ⟨M, hM1, hM2⟩ := hM
  have chM := uch M hM1
  have ltM := chn.lt M _ hM1
  have e28 : ∀ j ∈ M, u.a 28 j = s.a 28 j := fun j hj => (ue j (ltM j hj)).2.2.2
  have nM : ¬ en ∈ M := fun z => by
    have := ltM en z
    omega
  have f0 := (sws r List.mem_cons_self).1 rv
  obtain ⟨M0, m1, ⟨m2, m3, m4, m6⟩, m5⟩ := f0
  rw [f66] at m1
  rw [chn.uq _ _ _ m1 hM1] at m3 m4 m5 m6
  rw [ro11.2.2] at m2 m3 m5
  rw [ro11.1] at m5 m6
  rw [rpl] at m4 m5
  have sg : SWG (b.i 24).toInt (G.set c1.1 gv) R u r' := by
    unfold SWG
    rw [rpl', GHT.at, ro11.2.1, ro 13 (by decide) (by decide), ro11.2.2, f66', hgv]
    have mem : ∀ w : Int32 × Nat, w ∈ (G c1.1).2.2 → w ∈ (G c1.1).2.2 ++ [(T, pcR s)] := fun w hw => List.mem_append_left _ hw
    have last : (T, pcR s) ∈ (G c1.1).2.2 ++ [(T, pcR s)] := List.mem_append_right _ List.mem_cons_self
    have p26 : (u.a 26 en).toInt = ((pcR s : Nat) : Int) := by
      rw [un26]
      exact (Int.toNat_of_nonneg h20).symm
    have nda : nd (u.a 28) (M ++ [en]) = nd (s.a 28) M + (if u.a 28 en = 0 then 1 else 0) := by
      rw [nd.app, nd.eq M e28]
      show nd (s.a 28) M + (0 + (if u.a 28 en = 0 then 1 else 0)) = _
      omega
    have ckf := clampI m2
    refine ⟨M ++ [en], chM, ⟨m2, ?_, ?_, ?_⟩, fun j hj => ?_⟩
    · rw [nda]
      rcases cs with ⟨c1', c2', c3', c4'⟩ | ⟨c1', c2', c3', c4'⟩
      · rw [if_pos c3', c1']
        omega
      · rw [if_neg c2', c1']
        omega
    · rw [nda]
      show _ ≤ ((G c1.1).2.2 ++ [(T, pcR s)]).length
      rw [List.length_append]
      show _ ≤ (G c1.1).2.2.length + 1
      split <;> omega
    · rcases cs with ⟨c1', c2', c3', c4'⟩ | ⟨c1', c2', c3', c4'⟩
      · rw [c4', m6]
        constructor
        · rintro ⟨j, hj, w⟩
          exact ⟨j, List.mem_append_left _ hj, by rw [e28 j hj]; exact w⟩
        · rintro ⟨j, hj, w⟩
          rcases List.mem_append.mp hj with z | z
          · exact ⟨j, z, by rw [← e28 j z]; exact w⟩
          · rw [List.mem_singleton.mp z] at w
            exact absurd c3' w
      · rw [c3']
        exact ⟨fun _ => ⟨en, List.mem_append_right _ List.mem_cons_self, c2'⟩, fun _ => by omega⟩
    · rcases List.mem_append.mp hj with z | z
      · obtain ⟨x1, x2, x3⟩ := m5 j z
        refine ⟨x1, fun w => ?_, fun w => ?_⟩
        · rw [e28 j z] at w
          obtain ⟨y, y1, y2, y3⟩ := x2 w
          have li := ndx.lt M z w
          refine ⟨y, mem y y1, ?_, by rw [(ue j (ltM j z)).2.1]; exact y3⟩
          rw [ndx.app M _ z, ndx.eq M e28, a19 _ (by omega)]
          exact y2
        · rw [e28 j z] at w
          obtain ⟨y, y1, y2, y3⟩ := x3 w
          refine ⟨y, mem y y1, ?_, by rw [(ue j (ltM j z)).2.1]; exact y3⟩
          rcases cs with ⟨c1', c2', c3', c4'⟩ | ⟨c1', c2', c3', c4'⟩
          · rw [c4']
            exact y2
          · exfalso
            have := m6.mpr ⟨j, z, w⟩
            omega
      · rw [List.mem_singleton.mp z]
        refine ⟨by have := b3.1.2.1; omega, fun w => ⟨_, last, ?_, p26⟩, fun w => ⟨_, last, ?_, p26⟩⟩
        · rcases cs with ⟨c1', c2', c3', c4'⟩ | ⟨c1', c2', c3', c4'⟩
          · show T = _
            rw [ndx.new M nM, nd.eq M e28, ← c2']
            congr 1
            omega
          · exact absurd w c2'
        · rcases cs with ⟨c1', c2', c3', c4'⟩ | ⟨c1', c2', c3', c4'⟩
          · exact absurd c3' w
          · exact c3'.symm
  have a22V : ∀ q ∈ V, q.v = 218 → u.a 22 (q.2.1 66).toNatClampNeg = s.a 22 (q.2.1 66).toNatClampNeg := fun q hq q8 => u22 _ (fun e => by
    have z1 := rsite.h8 q8 ((swp q (List.mem_cons_of_mem _ hq)).1 q8).1
    rw [e] at z1
    have z2 := rsite.h8 rv (by rw [f66]; exact hb.2.1)
    rw [f66] at z2
    exact jsi.2.2.2.1 _ z2 q hq z1)
  have swt : SWT (b.i 24).toInt (G.set c1.1 gv) (r' :: V) R u := by
    refine ⟨fun q hq => ?_, fun q hq => ?_⟩
    · rcases List.mem_cons.mp hq with z | z
      · rw [z]
        refine ⟨fun _ => sg, fun w => absurd (rv'.symm.trans w) (by decide), fun w => absurd (rv'.symm.trans w) (by decide), fun _ => ?_, fun t => absurd (show isTy r'.v from t) (by rw [rv']; unfold isTy; decide), fun w => absurd w (by rw [rv']; decide)⟩
        rw [rpl', GHT.at, hgv, i20]
        have := (sws r List.mem_cons_self).2.2.2.1 rv
        rw [rpl] at this
        exact this
      · have y := sws q (List.mem_cons_of_mem _ z)
        have gq : G.set c1.1 gv q.2.2.1 = G q.2.2.1 := GHT.ne (pn q z)
        refine ⟨fun w => ?_, fun w => by rw [gq, ua 31 (by decide)]; exact y.2.1 w, fun w => by rw [gq, i20]; exact y.2.2.1 w, fun w => by rw [gq, i20]; exact y.2.2.2.1 w, fun t n => by rw [ua 31 (by decide)]; exact y.2.2.2.2.1 t n, fun w => by rw [gq, ua 30 (by decide)]; exact y.2.2.2.2.2 w⟩
        have y1 := (y.1 w).mvl (R := R) (u := u) (by
          rcases cs with c | c
          · omega
          · rw [c.1]
            exact Int.le_refl _) a19 (by omega) (fun M1 n1 j hj => by
          have l1 := chn.lt M1 _ n1 j hj
          have y2 := ue j l1
          exact ⟨y2.2.1, y2.2.2.1 (hlow q z w M1 n1 j hj), y2.2.2.2⟩) (a22V q z w)
        unfold SWG at y1 ⊢
        rw [gq]
        exact y1
    · rcases List.mem_cons.mp hq with z | z
      · rw [z]
        refine ⟨fun _ => ?_, fun t => absurd (show isTy r'.v from t) (by rw [rv']; unfold isTy; decide), by rw [rv']; decide⟩
        have := (swp r List.mem_cons_self).1 rv
        rw [f66', u20]
        rw [f66] at this
        exact this
      · have y := swp q (List.mem_cons_of_mem _ z)
        rw [u20, u29]
        exact y
  refine ⟨⟨0, Or.inl rfl, (kdx le1 b1).wk (by omega) (Int.le_refl _)⟩, ⟨fun k k1 k2 => ?_, (b2.2.c0 (by rw [show (vw S s c1).v = 218 from h218]; decide) (NK.eq a48 a49 u52 u38)).p0 (by rw [rv']; decide) (NK.eq rfl rfl rfl rfl)⟩, kd2 (Int.le_refl _) b3, Ψ, G.set c1.1 gv, col, YJ, ?_, ⟨fun k q => by rw [u20]; exact pin.1 k ((pen k).mp q), fun k q => ?_, fun k q => by rw [u29]; exact pin.2.2.1 k ((pty k).mp q), fun k q => by rw [u33]; exact pin.2.2.2 k ((pca k).mp q)⟩, ?_, ⟨js, ⟨0, Or.inl rfl, by rw [dbs]; exact (kdx leD bD).wk (by omega) (Int.le_refl _)⟩, fun q hq y hy => ?_, swt⟩, ?_⟩
  · rw [a17 k (by have := b1.2.2.1; omega)]
    exact b2.1 k k1 k2
  · have y := SAX.mo (fun k p => (pty k).mp p) (fun k p => (pca k).mp p) sax
    unfold SAX GHM SLO at y ⊢
    rw [i23, u42, u20, u29]
    exact y
  · obtain ⟨q', hq', p1, p2⟩ := q
    rcases List.mem_cons.mp hq' with z | z
    · rw [z, f67'] at p2
      omega
    · have := pin.2.1 k ⟨q', List.mem_cons_of_mem _ z, p1, p2⟩
      omega
  · obtain ⟨t1, t2⟩ := tgi
    unfold TGI
    rw [ptle]
    refine ⟨t1, fun y hy => ?_⟩
    obtain ⟨y1, y2, y3⟩ := t2 y hy
    have cky := clampI (show 0 ≤ y.toInt by omega)
    exact ⟨y1, by omega, by rw [a17 _ (by omega)]; exact y3⟩
  · have hm : q ∈ V := (List.mem_cons.mp hq).resolve_left (fun w => by
      rw [w] at hy
      exact rhd.no (by rw [rv']; decide) y hy)
    obtain ⟨y1, y2, y3, y4⟩ := hds q (List.mem_cons_of_mem _ hm) y hy
    have cky := clampI (show 0 ≤ y.toInt by omega)
    rw [a17 _ (by omega), i20]
    exact ⟨y1, by omega, y3, y4⟩
  intro FC SF nm X h0 ω c0 psi ng0 hc0 hh0 hω
  obtain ⟨⟨ng, hc, hh, dp⟩, mn⟩ := main FC SF nm X h0 ω c0 psi ng0 hc0 hh0 hω
  have en0 : ∀ (Gx : GHT) (h l : Nat), jen Gx ω r' h l = [] := fun Gx h l => jen.no (by rw [rv']; decide) nty' (by rw [rv']; decide)
  have en1 : ∀ (Gx : GHT) (h l : Nat), jen Gx ω r h l = [] := fun Gx h l => jen.no (by rw [rv]; decide) nty (by rw [rv]; decide)
  have jcv : JCX (G.set c1.1 gv) ω h0 c0 V = JCX G ω h0 c0 V := JCX.gs V pn
  have jcx : JCX (G.set c1.1 gv) ω h0 c0 (r' :: V) = JCX G ω h0 c0 (r :: V) := by
    show ((JCX (G.set c1.1 gv) ω h0 c0 V).h, (JCX (G.set c1.1 gv) ω h0 c0 V).l + jlv r'.v, jty r'.v ((JCX (G.set c1.1 gv) ω h0 c0 V).l + jlv r'.v) (JCX (G.set c1.1 gv) ω h0 c0 V).t, jen (G.set c1.1 gv) ω r' (JCX (G.set c1.1 gv) ω h0 c0 V).h (JCX (G.set c1.1 gv) ω h0 c0 V).l ++ (JCX (G.set c1.1 gv) ω h0 c0 V).c) = ((JCX G ω h0 c0 V).h, (JCX G ω h0 c0 V).l + jlv r.v, jty r.v ((JCX G ω h0 c0 V).l + jlv r.v) (JCX G ω h0 c0 V).t, jen G ω r (JCX G ω h0 c0 V).h (JCX G ω h0 c0 V).l ++ (JCX G ω h0 c0 V).c)
    rw [jcv, en0, en1, rv, rv']
  rw [jcx]
  have go : isGo r.v := by rw [rv]; exact Or.inr (Or.inl rfl)
  have go' : isGo r'.v := by rw [rv']; exact Or.inr (Or.inl rfl)
  have d0 : dfr (218 : Int32) = 0 := by decide
  refine ⟨⟨?_, hc, Int.le_trans hh l11, ⟨⟨fun _ => ?_, fun w => ?_, fun w => absurd w nty', fun w => absurd (rv'.symm.trans w) (by decide)⟩, (DPM.gs V pn).mpr (dp.2.mv V (fun q hq gq => by rw [ua 47 (by decide)]) l11)⟩⟩, fun fc fg hA tyc jr cur => ?_⟩
  · obtain ⟨n1, n2, n3, n4, n5⟩ := ng
    refine ⟨fun k hk => ?_, by rw [i38]; exact n2, by rw [u52]; exact n3, Int.le_trans n4 l19, ?_⟩
    · rw [a48, a49, ua 40 (by decide)]
      rw [u38] at hk
      exact n1 k hk
    · unfold NCB SLO at n5 ⊢
      rw [i23, u42, u20]
      exact n5
  · have y := dp.1.1 go
    rw [ro 2 (by decide) (by decide), ro 9 (by decide) (by decide), ro 10 (by decide) (by decide), rp', ua 47 (by decide)]
    refine ⟨⟨y.1.1, ?_⟩, y.2.1, fun w => absurd (show isLo r'.v from w) (fun z => by rw [rv'] at z; rcases z with z | z | z | z <;> exact absurd z (by decide)), RHP.no (by rw [rv']; decide)⟩
    have e1 : sln (r' :: V) = sln (r :: V) := by
      show sln V + dln r'.v = sln V + dln r.v
      rw [rv, rv']
    rw [e1]
    exact y.1.2
  · rw [rv', d0] at w
    exact absurd w (by decide)
  have pcx : pcC R = pcC S := by unfold pcC; rw [i20]
  have prx : pcR u = pcR s := by unfold pcR; rw [u20]
  have cur1 := cur r36
  rw [pcx, prx] at cur1
  have fcS : FGD (r :: V) B S SF := by
    obtain ⟨⟨g1, g2⟩, g3, g4⟩ := fc
    rw [ptle] at g4
    refine ⟨⟨g1, by rw [i20] at g2; exact g2⟩, fun j j1 j2 => ?_, fun k k1 k2 k3 => ?_⟩
    · have y := g3 j j1 (by rw [i20]; exact j2)
      rw [a15, a16] at y
      exact y
    · have nk := a17 k (by omega)
      have y := g4 k k1 (by omega) (k3.elim (fun w => Or.inl (by rw [nk]; exact w)) (fun w => Or.inr ⟨by omega, w.2⟩))
      rw [nk] at y
      exact y
  have fgS : FGP (r :: V) col b s U := by
    obtain ⟨g1, g4, g5, g6, g7⟩ := fg
    rw [u20] at g1 g4
    rw [u29] at g6
    rw [u33] at g7
    refine ⟨g1, fun j j1 j2 => ⟨by rw [(g4 j j1 j2).1, ua 21 (by decide)], fun q => ?_, fun q => by rw [(g4 j j1 j2).2.2 (fun p => q (pch j p)), ua 23 (by decide)]⟩, fun j j1 j2 => ?_, fun j j1 j2 q => ?_, fun j j1 j2 => ?_⟩
    · rw [(g4 j j1 j2).2.1 (fun p => q ((pen j).mp p)), u22 j (fun e => q (Or.inr ⟨r, List.mem_cons_self, ?_⟩))]
      have := rsite.h8 rv (by rw [f66]; exact hb.2.1)
      rw [f66, ← e] at this
      exact this
    · have y := g5 j j1 (by omega)
      have y2 := ue j j2
      refine ⟨y.1.trans y2.1, y.2.1.trans y2.2.1, fun q => ?_, y.2.2.2.trans y2.2.2.2⟩
      have n67 : ¬ (j : Int) = (s.a 67 (ceT c1)).toInt := fun e => q ⟨r, List.mem_cons_self, rv, by rw [f67]; exact e⟩
      refine (y.2.2.1 (fun ⟨q', hq', p1, p2⟩ => ?_)).trans (y2.2.2.1 n67)
      rcases List.mem_cons.mp hq' with z | z
      · rw [z, f67'] at p2
        omega
      · exact q ⟨q', List.mem_cons_of_mem _ z, p1, p2⟩
    · have y := g6 j j1 j2 (fun p => q ((pty j).mp p))
      rw [ua 30 (by decide), ua 31 (by decide), ua 32 (by decide)] at y
      exact y
    · have y := g7 j j1 j2
      rw [ua 34 (by decide), ua 35 (by decide), ua 36 (by decide), ua 37 (by decide)] at y
      exact ⟨y.1, y.2.1, y.2.2.1, fun q => y.2.2.2 (fun p => q ((pca j).mp p))⟩
  obtain ⟨jr1, jr2⟩ := jr
  rw [jcv] at jr1
  rw [JRS.gs V pn] at jr2
  have g1e : (G.set c1.1 gv r'.2.2.1).1 = (G r.2.2.1).1 := by rw [rpl', GHT.at, hgv, rpl]
  have jrs : JRS FC SF U nm X G col YJ ω h0 c0 (r :: V) := by
    refine ⟨⟨fun w => absurd (rv.symm.trans w) (by decide), fun w => absurd (rv.symm.trans w) (by decide), fun w => absurd (rv.symm.trans w) (by decide), fun w => absurd (rv.symm.trans w) (by decide), fun w => absurd (rv.symm.trans w) (by decide), fun w => absurd (rv.symm.trans w) (by decide), fun _ => ?_, fun w => absurd w nty, fun _ i fy => ?_⟩, jr2⟩
    · have y := jr1.2.2.2.2.2.2.1 rv'
      unfold SWH at y ⊢
      rw [g1e, f66', ← f66] at y
      exact y
    · have y := jr1.2.2.2.2.2.2.2.2 go' i fy
      unfold jcn jbk at y ⊢
      rw [rv', ro 9 (by decide) (by decide), ro 10 (by decide) (by decide), rp', if_neg (by decide), if_neg (by decide)] at y
      rw [rv, if_neg (by decide), if_neg (by decide)]
      exact y
  have res := mn fcS fgS hA tyc jrs (fun _ => cur1)
  refine ⟨res.1, ?_⟩
  show JHH FC SF U nm X (G.set c1.1 gv) ω r' (JCX (G.set c1.1 gv) ω h0 c0 V) ∧ JHS FC SF U nm X (G.set c1.1 gv) ω h0 c0 V
  rw [jcv, JHS.gs V pn]
  refine ⟨⟨fun w => absurd (rv'.symm.trans w) (by decide), fun w => absurd (rv'.symm.trans w) (by decide), fun w => absurd (rv'.symm.trans w) (by decide), fun w => absurd (rv'.symm.trans w) (by decide), fun _ => ?_⟩, res.2.2⟩
  obtain ⟨swe, swf⟩ := res.2.1.2.2.2.2 rv
  refine ⟨fun w hw => ?_, ?_⟩
  · rw [g1e]
    rw [rpl', GHT.at, hgv] at hw
    rcases List.mem_append.mp hw with z | z
    · exact swe w (by rw [rpl]; exact z)
    · rw [List.mem_singleton.mp z]
      have y := fc.2.2 T.toNatClampNeg (by have := b1.2.2.1; omega) (by omega) (Or.inl (by rw [aT]; exact r1))
      refine ⟨pcC S, ?_, ⟨by have := fc.1.2; unfold pcC; rw [i20] at this; omega, ?_⟩, ?_⟩
      · unfold cTg gAt
        rw [if_pos ibT]
        show (SF.a 17 T.toNatClampNeg).toInt = _
        rw [y, aT]
        exact (Int.toNat_of_nonneg r1).symm
      · have := (sws r List.mem_cons_self).2.2.2.1 rv
        unfold pcC
        omega
      · have y2 := cur1.1
        have e1 : (JCX G ω h0 c0 (r :: V)).l = (JCX G ω h0 c0 V).l + 1264 := by
          show (JCX G ω h0 c0 V).l + jlv r.v = _
          rw [rv]
          rfl
        have e2 : (JCX G ω h0 c0 (r :: V)).c = (JCX G ω h0 c0 V).c := by
          show jen G ω r (JCX G ω h0 c0 V).h (JCX G ω h0 c0 V).l ++ (JCX G ω h0 c0 V).c = _
          rw [en1]
          rfl
        rw [e1, e2, ← Nat.add_assoc] at y2
        exact y2
  · unfold SWF at swf ⊢
    rw [g1e, f66', ro 10 (by decide) (by decide)]
    rw [f66] at swf
    exact swf
end
end
section
/-! both readers: a group's head ends -/
def GRM (d : Int32) (c1 : CEL) (S : CS) (s : RS) (P : CS) (q : RS) : Prop := (ENV d P q ∧ tpI q = (ceT c1 : Int) ∧ FRB (ceT c1) s q) ∧ (q.a 64 (ceT c1) = 14 ∧ q.a 66 (ceT c1) = s.a 66 (ceT c1) ∧ q.a 71 (ceT c1) = s.a 71 (ceT c1) ∧ q.a 72 (ceT c1) = s.a 72 (ceT c1) ∧ (q.a 68 (ceT c1) = 0 ∨ q.a 68 (ceT c1) = 1) ∧ (q.a 68 (ceT c1) = 1 ↔ 0 ≤ (P.o c1.2.1 11).toInt) ∧ (s.i 24).toInt ≤ (q.a 67 (ceT c1)).toInt) ∧ (∀ k : Nat, (k = 2 ∨ k = 3 ∨ k = 8 ∨ k = 20 ∨ k = 29 ∨ k = 33 ∨ k = 38 ∨ k = 43 ∨ k = 56 ∨ k = 59) → q.i k = s.i k) ∧ (s.i 24).toInt ≤ (q.i 24).toInt ∧ (q.b 9 = s.b 9 ∧ q.b 39 = s.b 39 ∧ q.b 45 = s.b 45) ∧ (∀ k : Nat, (k = 1 ∨ k = 4 ∨ k = 30 ∨ k = 34 ∨ k = 37 ∨ k = 40 ∨ k = 41 ∨ k = 44 ∨ k = 46 ∨ k = 47 ∨ k = 48 ∨ k = 49 ∨ k = 50 ∨ k = 51 ∨ k = 57 ∨ k = 58 ∨ k = 60 ∨ k = 61 ∨ k = 62) → q.a k = s.a k) ∧ (∀ j : Nat, j ≠ (s.a 66 (ceT c1)).toNatClampNeg → q.a 22 j = s.a 22 j) ∧ (∃ w0 : Int32, (((s.a 67 (ceT c1)).toInt < 0 ∧ w0 = s.i 24) ∨ (0 ≤ (s.a 67 (ceT c1)).toInt ∧ w0 = s.a 67 (ceT c1))) ∧ ∀ j : Nat, (j : Int) < w0.toInt → q.a 25 j = s.a 25 j ∧ q.a 27 j = s.a 27 j ∧ q.a 28 j = s.a 28 j) ∧ (∀ M : List Nat, CSM S s (S.o c1.2.1 13).toInt (S.i 22).toInt M → chn s (s.a 22 (s.a 66 (ceT c1)).toNatClampNeg) M → FQL s (ceT c1) M → ∃ M' : List Nat, CSM P q (S.o c1.2.1 13).toInt (P.i 22).toInt M' ∧ chn q (q.a 22 (s.a 66 (ceT c1)).toNatClampNeg) M' ∧ FQL q (ceT c1) M' ∧ ∀ j ∈ M', j ∈ M ∨ (s.i 24).toInt ≤ (j : Int)) ∧ ((P.r = S.r ∧ P.ol = S.ol) ∧ (∀ a : Nat, a ≠ c1.2.1 → P.o a = S.o a) ∧ (∀ k : Nat, k ≠ 11 → P.o c1.2.1 k = S.o c1.2.1 k)) ∧ (P.i 38 = S.i 38 ∧ P.i 50 = S.i 50 ∧ P.i 53 = S.i 53 ∧ P.i 54 = S.i 54 ∧ P.i 55 = S.i 55 ∧ P.i 56 = S.i 56) ∧ ((P.i 21).toInt = (S.i 21).toInt + 1 ∧ (S.i 22).toInt ≤ (P.i 22).toInt ∧ (∀ i : Nat, (i : Int) < (S.i 22).toInt → P.a 18 i = S.a 18 i) ∧ P.a 52 = S.a 52) ∧ ((s.i 11).toInt + 2 ≤ (q.i 11).toInt ∧ phI s ≤ phI q ∧ (s.i 17).toInt ≤ (q.i 17).toInt ∧ q.i 19 = s.i 19)
set_option maxHeartbeats 4000000 in
theorem gr_tail {N : Nat} (hN : 1000 ≤ N) {E1 : CS → Option (Unit × CS)} {E2 : CS → Option (Int32 × CS)} {d : Int32} {B : CS} {b : RS} {t0 n : Nat} {L : List CEL} {x : Int} {S P : CS} {s q V U : RS} {c1 c : CEL} {x2 : Int32} {R : Unit × CS} {Aj : JBA} (hC : COR d B b t0 (c1 :: c :: L) x S s) (tp : TOP S s c1) (h218 : S.o c1.2.1 0 = 218) (bz : BAZ B b (c1 :: c :: L)) (hT : t0 ≤ ceT c1) (hG : GRM d c1 S s P q) (hz : GRZ (gPut (S.a 17) 1024 x2 (-1)) x2 c1.2.1 (ceT c1) S s P q) (e : f_X7_groupTurn_87 N E1 E2 P c1.2.1 x2 = some R) (hV : ((f_X12_need N q 58).bind fun p54 => (f_X12_then N p54.2 3 1).bind fun p56 => some p56) = some V) (g : f_X12_parse_10 N n V = some U) : (¬ R.2.i 32 = 0 ∧ ¬ U.i 15 = 0) ∨ ∃ (m : Nat) (u : RS), f_X12_parse_10 N m u = some U ∧ POPD d B b t0 c1 (c :: L) R.2 u ∧ JTR Aj U B b (c1 :: c :: L) S s (vws R.2 u (c1 :: c :: L)) R.2 u := by
  obtain ⟨⟨ev, tq, frq⟩, ⟨q64, q66, q71, q72, q68, q68i, q67⟩, qi, q24, qb, qa, q22, ⟨w0, hw0, ue⟩, cs, ⟨⟨er, eol⟩, eo, ek⟩, ⟨i38, i50, i53, i54, i55, i56⟩, ⟨i21, l22, e18, e52⟩, ⟨n11, nph, n17, n19⟩⟩ := hG
  have hv := hC.1
  obtain ⟨m1, e1, k1, m2, e2, k2, cst⟩ := STK.mem _ _ _ _ hC.2.1 c1 List.mem_cons_self
  obtain ⟨f1, f2, f3, f4, f5, f6⟩ := cst.2.2.1.2.2.2.2.2.2.2.2.2.2.2.1 h218
  obtain ⟨p54, h54, hV⟩ := hf_bind hV
  rw [ob_id] at hV
  unfold f_X7_groupTurn_87 at e
  obtain ⟨p21, e21, e⟩ := hf_bind e
  obtain ⟨p25, e25, e⟩ := hf_bind e
  obtain ⟨-, e⟩ := hf_ite e
  have hR : R.2 = CS.setI (CS.setO p25.2 c1.2.1 5 1) 36 1 := by rw [← Option.some.inj e]
  clear e
  rcases y_need hN ev (c := 58) (d := 58) (Or.inl ⟨by decide, by decide⟩) (by decide) (by decide) (by decide) e21 h54 with ⟨o1, o2, o3⟩ | ⟨o1, o2, o3, o4, o5, o6, o7, o8, o9, o10, o11, o12⟩
  · have z1 : ¬ p25.2.i 32 = 0 := by rw [kF_X0_aim N p21.2 _ p25 e25 o2]; exact o2
    refine Or.inl ⟨?_, u_flt g (krf_f_X12_then N _ 3 1 V hV o3)⟩
    rw [hR]
    exact z1
  refine Or.inr ?_
  have t54 : tpI p54.2 = (ceT c1 : Int) := qj_63 o4 tq
  obtain ⟨hVe, t99⟩ := r_then t54 hV
  have p17 : (p54.2.i 17).toInt = (q.i 17).toInt + 1 := by rw [o6, t17_up (N := N) ev]
  obtain ⟨ev25, ck25, -, -⟩ := y_aim o3 e25
  obtain ⟨⟨z1, z2, z3, z4⟩, ⟨z5, z6⟩, ⟨z7, z8, z9, z10, z11⟩, ⟨z12, z13, z14, z15, z16, z17, z18⟩⟩ := kd_all (kd_X0_aim N _ _ p25 e25)
  obtain ⟨-, -, -, -, -, -, -, -, -, -, j36, -, j38, j50, j53, j54, j55, j56, -, -, -, -, j52, jr, jo, jol, -, j21, jhk⟩ := pj_eq o5
  obtain ⟨X, hX⟩ : ∃ X, X = CS.setI (CS.setO p25.2 c1.2.1 5 1) 36 1 := ⟨_, rfl⟩
  have evS : ENV d (CS.setO p25.2 c1.2.1 5 1) p54.2 := ev25.so (by decide)
  have evX : ENV d X p54.2 := by
    rw [hX]
    refine evS.gx (fun j _ h36 _ _ _ _ _ => ci_ne _ _ _ h36) ⟨rfl, rfl, rfl⟩ rfl rfl (evS.ri.mv rfl rfl rfl rfl ⟨rfl, rfl, rfl⟩ evS.ri.2.2.2.2.2.2 (Int.le_refl _)) evS.sj evS.t21
  have Xi : ∀ k : Nat, k ≠ 36 → X.i k = p25.2.i k := fun k hk => by
    rw [hX]
    exact ci_ne _ _ _ hk
  have X36 : X.i 36 = 1 := by rw [hX, ci_at]
  have Xa : X.a = p25.2.a := by rw [hX]; rfl
  have Xr : X.r = S.r := by
    rw [hX]
    show p25.2.r = _
    rw [z1, jr, er]
  have Xol : X.ol = S.ol := by
    rw [hX]
    show p25.2.ol = _
    rw [z3, jol, eol]
  have po : p25.2.o = P.o := by rw [z2, jo]
  have Xo : ∀ a : Nat, a ≠ c1.2.1 → X.o a = S.o a := fun a ha => by
    rw [hX]
    show (CS.setO p25.2 c1.2.1 5 1).o a = _
    rw [so_ne ha, po, eo a ha]
  have X5 : X.o c1.2.1 5 = 1 := by
    rw [hX]
    show (CS.setO p25.2 c1.2.1 5 1).o c1.2.1 5 = _
    exact so_at
  have Xk : ∀ k : Nat, k ≠ 5 → X.o c1.2.1 k = P.o c1.2.1 k := fun k hk => by
    rw [hX]
    show (CS.setO p25.2 c1.2.1 5 1).o c1.2.1 k = _
    rw [so_nk hk, po]
  rw [← hX] at hR
  clear hX evS
  have X22 : X.i 22 = P.i 22 := by rw [Xi 22 (by decide), z8, o10]
  have X18 : X.a 18 = P.a 18 := by rw [Xa, z5, o11.1]
  obtain ⟨u, hu⟩ : ∃ y, y = TH p54.2 (ceT c1) 3 1 := ⟨_, rfl⟩
  have evu : ENV d X u := by rw [hu]; exact evX.th
  have tu : tpI u = ((ceT c1 + 1 : Nat) : Int) := by rw [hu]; exact TH.tp t54 (by omega)
  have fu : FRB (ceT c1) p54.2 u := by rw [hu]; exact TH.frb
  have u65 : u.a 65 (ceT c1) = 3 := by rw [hu]; exact TH.st
  have u64 : u.a 64 (ceT c1) = 14 := by
    rw [hu, TH.fk0 (Nat.le_refl _), (FRB.of o4 : FRB (ceT c1 + 1) q p54.2).all 64 (by decide) (by decide)]
    exact q64
  have u641 : u.a 64 (ceT c1 + 1) = 1 := by rw [hu]; exact TH.fk
  have u651 : u.a 65 (ceT c1 + 1) = 0 := by rw [hu]; exact TH.fs
  have uk : ∀ k : Nat, k ≠ 64 → k ≠ 65 → u.a k = p54.2.a k := fun k h1 h2 => by rw [hu, TH.loc h1 h2]
  have ui : ∀ k : Nat, k ≠ 63 → u.i k = p54.2.i k := fun k hk => by
    rw [hu]
    exact if_neg hk
  have ubx : u.b = p54.2.b := by rw [hu]; rfl
  rw [hVe, ← hu] at g
  clear hu hVe hV
  have uT : ∀ k : Nat, 64 ≤ k → k ≤ 73 → k ≠ 64 → k ≠ 65 → u.a k (ceT c1) = q.a k (ceT c1) := fun k h1 h2 h3 h4 => by
    rw [uk k h3 h4, (FRB.of o4 : FRB (ceT c1 + 1) q p54.2).all k h1 h2]
  have uq : ∀ k : Nat, (k = 1 ∨ k = 4 ∨ k = 25 ∨ k = 27 ∨ k = 28 ∨ k = 30 ∨ k = 34 ∨ k = 37 ∨ k = 40 ∨ k = 41 ∨ k = 44 ∨ k = 46 ∨ k = 47 ∨ k = 48 ∨ k = 49 ∨ k = 50 ∨ k = 51 ∨ k = 57 ∨ k = 58 ∨ k = 60 ∨ k = 61 ∨ k = 62) → u.a k = q.a k := fun k hk => by
    rw [uk k (by omega) (by omega), qj_a o4 k hk]
  have u22 : u.a 22 = q.a 22 := by rw [uk 22 (by decide) (by decide), o9]
  have w24 : u.i 24 = q.i 24 := by rw [ui 24 (by decide), (qj_eq o4).2.2.2.2.1]
  have uis : ∀ k : Nat, (k = 2 ∨ k = 3 ∨ k = 8 ∨ k = 20 ∨ k = 29 ∨ k = 33 ∨ k = 38 ∨ k = 43 ∨ k = 56 ∨ k = 59) → u.i k = s.i k := fun k hk => by
    rw [ui k (by omega), ← qi k hk]
    obtain ⟨A2, A3, A8, -, A24, A29, A33, A38, -, A43, -, -, -, -, A56, A59, -⟩ := qj_eq o4
    rcases hk with z | z | z | z | z | z | z | z | z | z <;> rw [z]
    · exact A2
    · exact A3
    · exact A8
    · exact o8
    · exact A29
    · exact A33
    · exact A38
    · exact A43
    · exact A56
    · exact A59
  have X0 : X.o c1.2.1 0 = 218 := by rw [Xk 0 (by decide), ek 0 (by decide)]; exact h218
  have X3 : X.o c1.2.1 3 = S.o c1.2.1 3 := by rw [Xk 3 (by decide), ek 3 (by decide)]
  have gi : (ceG c1 : Int) < (s.i 43).toInt := by
    have := tp.2.1
    have := nGo1 (show isGo (S.o c1.2.1 0) from Or.inr (Or.inl h218))
    omega
  have rfr : RFR X u c1.2.1 (ceT c1) (ceG c1) (ceW c1) := by
    refine RFR.m218 X0 ⟨u64, ?_, ?_, ?_, ?_, ?_⟩
    · rw [uT 72 (by decide) (by decide) (by decide) (by decide), q72]
      exact f2
    · rw [uT 71 (by decide) (by decide) (by decide) (by decide), q71, X3]
      exact f3
    · rw [uq 44 (by decide), qa 44 (by decide)]
      exact f4
    · rw [uT 68 (by decide) (by decide) (by decide) (by decide)]
      exact q68
    · rw [uT 68 (by decide) (by decide) (by decide) (by decide), Xk 11 (by decide)]
      exact q68i
  have k11 := hv.1.2.2.2.1.1
  have k11X := evu.1.2.2.2.1.1
  have u11 : (u.i 11).toInt = (p54.2.i 11).toInt := by rw [ui 11 (by decide)]
  have u17 : (u.i 17).toInt = (p54.2.i 17).toInt := by rw [ui 17 (by decide)]
  have phu : phI q ≤ phI u := by
    unfold phI
    rw [ui 20 (by decide), o8]
    omega
  have rt : RTE S X := by
    unfold RTE
    rw [Xi 21 (by decide), z7, j21, i21, Xi 54 (by decide), z16, j54, i54, Xi 55 (by decide), z17, j55, i55, k11, k11X]
    omega
  obtain ⟨fin, tpf⟩ := hC.grp (x' := -9) (w0 := w0) tp bz hT h218 evu ((frq.tr (FRB.of o4)).tr fu) (by rw [uT 66 (by decide) (by decide) (by decide) (by decide)]; exact q66) uis (by rw [w24]; exact q24) ⟨by rw [ubx, (qj_b o4).1]; exact qb.1, by rw [ubx, (qj_b o4).2.1]; exact qb.2.1, by rw [ubx, (qj_b o4).2.2]; exact qb.2.2⟩ (fun k hk => by rw [uq k (by omega)]; exact qa k hk) (fun j hj => by rw [u22]; exact q22 j hj) hw0 (fun j hj => by rw [uq 25 (by decide), uq 27 (by decide), uq 28 (by decide)]; exact ue j hj) (fun _ => by rw [uT 67 (by decide) (by decide) (by decide) (by decide)]; exact q67)
    Xr Xol Xo (fun k h5 h11 => by rw [Xk k h5]; exact ek k h11) ⟨by rw [Xi 38 (by decide), z11, j38, i38], by rw [Xi 50 (by decide), z14, j50, i50], by rw [Xi 53 (by decide), z15, j53, i53], by rw [Xi 54 (by decide), z16, j54, i54], by rw [Xi 55 (by decide), z17, j55, i55], by rw [Xi 56 (by decide), z18, j56, i56]⟩ (by rw [X22]; exact l22) (fun i hi => by rw [X18]; exact e18 i hi) (by rw [Xa, z6, j52, e52]) (fun M y1 y2 y3 => by
      obtain ⟨M', v1, v2, v3, v4⟩ := cs M y1 y2 y3
      refine ⟨M', ?_, ?_, ?_, v4⟩
      · unfold CSM at *
        rw [X22, X18, uq 28 (by decide), uq 25 (by decide)]
        exact v1
      · rw [u22]
        exact chn.up (by rw [w24]; exact Int.le_refl _) (fun j _ => by rw [uq 27 (by decide)]) M' _ v2
      · unfold FQL at *
        rw [uT 67 (by decide) (by decide) (by decide) (by decide)]
        exact v3) rfr rt ⟨by omega, by omega, by omega, by rw [ui 19 (by decide), o12, n19]⟩
  have wd : wid (X.o c1.2.1 0) = 2 := by rw [X0]; rfl
  have ix : ceT c1 + wid (X.o c1.2.1 0) - 1 = ceT c1 + 1 := by omega
  rw [hR]
  refine ⟨n, u, g, ⟨fin, tpf, Or.inl ⟨?_, ?_, ?_, ?_, Or.inl ⟨?_, X36⟩, fun _ => ⟨u65, X5⟩⟩, Or.inr X36⟩, fun _ jw => ?_⟩
  · rw [X0]
    unfold isOne
    decide
  · rw [X0]
    decide
  · rw [wd, tu]
    omega
  · rw [ix]
    exact u641
  · rw [ix]
    exact u651
  · -- the code
    obtain ⟨⟨g20, g15, g16, g23, g38, g48, g49⟩, ⟨gT, g21, g17⟩, g19, ⟨h240, h20, h24, h29, h33, h42, h52, h38, h43, h59⟩, ha, h22, he, h26, hch, h67, hcs⟩ := hz
    obtain ⟨p20, p15, p16, p17', p23, p38, p22, p19⟩ := pe_eq (ke_X1_expect N P 58 p21 e21)
    obtain ⟨⟨r20, r24, r29, r33, r42, r52⟩, r21, r22, r23, r25, r26, r27, r28, r30, r31, r32, r34, r35, r36, r37⟩ := qe_eq (kre_f_X12_need N q 58 p54 h54)
    obtain ⟨am1, am2⟩ := aim_eq e25
    have a25 : p25.2.a 17 = gPut (p21.2.a 17) 1024 x2 (p21.2.i 20) := by
      unfold f_X0_aim at e25
      cases e25
      rfl
    have xi : ∀ k : Nat, k ≠ 36 → X.i k = p21.2.i k := fun k hk => (Xi k hk).trans (am1 k)
    have xa : ∀ k : Nat, k ≠ 17 → X.a k = p21.2.a k := fun k hk => by rw [Xa]; exact am2 k hk
    obtain ⟨-, -, -, -, -, -, -, -, -, -, -, -, -, -, -, -, -, -, -, -, ja48, ja49, -, -, -, -, -, ji21, -⟩ := pj_eq o5
    have uak : ∀ k : Nat, k ≠ 64 → k ≠ 65 → p54.2.a k = q.a k → u.a k = q.a k := fun k h1 h2 h3 => (uk k h1 h2).trans h3
    have uik : ∀ k : Nat, k ≠ 63 → p54.2.i k = q.i k → u.i k = q.i k := fun k h1 h2 => (ui k h1).trans h2
    have u26 : u.a 26 = q.a 26 := uak 26 (by decide) (by decide) r26
    have u67' : u.a 67 (ceT c1) = q.a 67 (ceT c1) := uT 67 (by decide) (by decide) (by decide) (by decide)
    have zz : GRZ (gPut (gPut (S.a 17) 1024 x2 (-1)) 1024 x2 (S.i 20)) x2 c1.2.1 (ceT c1) S s X u := by
      refine ⟨⟨by rw [xi 20 (by decide), p20, g20], by rw [xa 15 (by decide), p15, g15], by rw [xa 16 (by decide), p16, g16], by rw [xi 23 (by decide), p23, g23], by rw [xi 38 (by decide), p38, g38], by rw [xa 48 (by decide), ja48, g48], by rw [xa 49 (by decide), ja49, g49]⟩, ⟨gT, by rw [xi 21 (by decide), ji21, g21], by rw [Xa, a25, p17', p20, g17, g20]⟩, fun k hk => by rw [xa 19 (by decide), p19]; exact g19 k hk, ⟨h240, by rw [uik 20 (by decide) r20, h20], by rw [w24]; exact h24, by rw [uik 29 (by decide) r29, h29], by rw [uik 33 (by decide) r33, h33], by rw [uik 42 (by decide) r42, h42], by rw [uik 52 (by decide) r52, h52], uis 38 (by decide), uis 43 (by decide), uis 59 (by decide)⟩, fun k hk => ?_, fun j hj => by rw [u22]; exact h22 j hj, fun j hj => by rw [uq 25 (by decide), u26, uq 27 (by decide), uq 28 (by decide)]; exact he j hj, by rw [u26]; exact h26, fun M hM => by
        rw [u22]
        exact chn.up (by rw [w24]; exact Int.le_refl _) (fun j _ => by rw [uq 27 (by decide)]) _ _ (hch M hM), by rw [u67']; exact h67, ?_⟩
      · rw [← ha k hk]
        rcases hk with z | z | z | z | z | z | z | z | z | z | z | z | z | z | z | z | z | z <;> rw [z]
        · exact uak 21 (by decide) (by decide) r21
        · exact uak 23 (by decide) (by decide) r23
        · exact uak 30 (by decide) (by decide) r30
        · exact uak 31 (by decide) (by decide) r31
        · exact uak 32 (by decide) (by decide) r32
        · exact uak 34 (by decide) (by decide) r34
        · exact uak 35 (by decide) (by decide) r35
        · exact uak 36 (by decide) (by decide) r36
        · exact uak 37 (by decide) (by decide) r37
        · exact uq 40 (by decide)
        · exact uq 47 (by decide)
        · exact uq 48 (by decide)
        · exact uq 49 (by decide)
        · exact uq 50 (by decide)
        · exact uq 51 (by decide)
        · exact uq 60 (by decide)
        · exact uq 61 (by decide)
        · exact uq 62 (by decide)
      · rw [X22, xa 19 (by decide), p19, uq 28 (by decide), Xk 11 (by decide)]
        exact hcs
    obtain ⟨m', e', k', c1s, -, stl⟩ := id hC.2.1
    obtain ⟨em', -, a66b, M, y1, y2, y3, y4⟩ := c1s.2.2.2.2.1 h218
    obtain ⟨-, b30, b0, col, hc⟩ := id hC.2.2.2.2.2.2.2.2.2.2
    have h5 := hc.2.2.2.2.1 c1 List.mem_cons_self h218
    have obx := (hC.2.2.2.2.2.2.2.1.2.2.2.2 c1 List.mem_cons_self).2 h218
    obtain ⟨wz, hwz⟩ := b19_up hC
    have hDs := hC.dropS h218 hwz
    have fsu : FRB (ceT c1) s u := (frq.tr (FRB.of o4)).tr fu
    have j := JRW.grp jw h218 (fun k h5 h11 => by rw [Xk k h5]; exact ek k h11) (by rw [uT 66 (by decide) (by decide) (by decide) (by decide)]; exact q66) zz (by
      rw [hv.p44.1]
      exact (i11_hi hv).2) (by
      rw [hv.p44.1, evu.p44.1]
      omega) (vws.pl hC) ⟨h5.1, by omega, obx⟩ ⟨M, y2, by rw [← em']; exact y1.2.1.2.1⟩ (fun y hy y8 M' hM' i hi => by
      obtain ⟨z, hz, e9⟩ := List.mem_map.mp hy
      rw [← e9] at y8 hM'
      have e66' : (vw S s z).2.1 66 = s.a 66 (ceT z) := (vw_at (k := 66) ⟨by decide, by decide⟩)
      rw [e66'] at hM'
      have z1 := (STK.nd8 (c :: L) _ _ _ stl z hz y8 M' hM').2.1 i hi
      rcases lst_end M with w | ⟨L0, l, w⟩
      · have := y3.1 w
        omega
      · have z2 := y3.2 L0 l w
        have z3 := (y4 l (by rw [w]; exact List.mem_append_right _ List.mem_cons_self)).1
        omega) (hv.p20.1) X36 (by omega) (by rw [ui 19 (by decide), o12, n19]; exact Int.le_refl _)
    show JRW Aj U B b (vw X u c1 :: vws X u (c :: L)) X u
    rw [clo_veq hDs.1 tp hDs.2.2.2.1 (fun j _ => by rw [uq 40 (by decide), qa 40 (by decide)]) (fun y hy => by
      show X.o y.2.1 = S.o y.2.1
      exact Xo _ (hC.adr y hy)) (fun k t h1 h2 h3 => fsu.fld k t h1 h2 h3)]
    exact j
end
