/-! both readers: a switch's end -/
set_option maxHeartbeats 2000000 in
theorem en_sw {N : Nat} (hN : 1000 ≤ N) {d : Int32} {B : CS} {b : RS} {t0 n : Nat} {L : List CEL} {x : Int} {S : CS} {s U : RS} {c1 c : CEL} {R : Unit × CS} (hC : COR d B b t0 (c1 :: c :: L) x S s) (tp : TOP S s c1) (hM : MLI c1 S s ∨ MSW c1 S s) (h36 : S.i 36 = 0 ∨ S.i 36 = 1) (h218 : S.o c1.2.1 0 = 218) (k125 : S.i 43 = 125) (bz : BAZ B b (c1 :: c :: L)) (hT : t0 ≤ ceT c1) (e : f_X7_endList N S c1.2.1 = some R) (g : f_X12_parse_10 N n s = some U) : ∃ (m : Nat) (u : RS), f_X12_parse_10 N m u = some U ∧ POPD d B b t0 c L R.2 u := by
  have hv := hC.1
  have k10 := (tk_is hv (a := 125) (b := 125) (Or.inl ⟨by decide, by decide⟩) (by decide)).mp k125
  obtain ⟨m1, e1, k1, m2, e2, k2, cst⟩ := STK.mem _ _ _ _ hC.2.1 c1 List.mem_cons_self
  obtain ⟨f1, f2, f3, f4, f5, f6⟩ := cst.2.2.1.2.2.2.2.2.2.2.2.2.2.2.1 h218
  obtain ⟨m0, V0, g0, n1, tV, fr0, n4, ⟨v64, v65, v66, v67, v68, v70, v71, v72⟩, n6, n7, n8, n9, n10'⟩ := sw_1 hC hM h36 h218 (Or.inl k10) g
  have go : isGo (S.o c1.2.1 0) := Or.inr (Or.inl h218)
  -- the row goes
  obtain ⟨w0, hw0⟩ := b19_up hC
  obtain ⟨hD, inj, ord, lk, lw, o13⟩ := hC.dropS h218 hw0
  obtain ⟨f, hf⟩ : ∃ f : Int32, f = S.o c1.2.1 13 := ⟨_, rfl⟩
  rw [← hf] at hD o13
  have hinD : INL S s (ceT c1) (c :: L) := hC.inlB tp
  have hD0 := hD.mv3 hinD hT (n1.s22 (f := f) o13.1 o13.2) fr0 n4 ⟨by rw [n8]; exact Int.le_refl _, by rw [n6]; exact hD.2.2.2.2.2.2.1.2.1, by rw [n9]; exact Int.le_refl _, by rw [n10'.1]⟩
  obtain ⟨t1, t2, t3, t4, t5, t6, t7, t8, t9, t10⟩ := n4.1.1
  have hin0 : INL S V0 (ceT c1) (c :: L) := hinD.mv (CKZ.rf S) rfl t5 t7
  -- the reference
  obtain ⟨m2, V, hV, g2⟩ := rl_14 g0 tV n1.1.2.1 v64
  unfold f_X12_groups at hV
  obtain ⟨hib, hV⟩ := hf_ite hV
  have tt : ceT c1 < 1000 := by
    have h2 : (V0.i 63).toInt = (ceT c1 : Int) := tV
    have := hib.2
    omega
  rw [tp_nat tV, v65, if_neg (by decide), if_neg (by decide), if_pos rfl, if_neg (by rw [n7, k10]; decide), if_neg (by rw [n7, k10]; decide)] at hV
  obtain ⟨p3, hsh, hV⟩ := hf_bind hV
  -- the class
  unfold f_X7_endList at e
  obtain ⟨-, e⟩ := hf_ite e
  rw [if_neg (by rw [h218]; decide), if_neg (by rw [h218]; decide)] at e
  unfold f_X7_endList_72 at e
  obtain ⟨p4, e4, e⟩ := hf_bind e
  obtain ⟨A, q, eA, hq, evA, R4, V4, -⟩ := y_clsA hN n1 (c := 125) (d := 125) (Or.inl ⟨by decide, by decide⟩) (by decide) (by decide) (by decide) k125 e4 hsh
  obtain ⟨-, a2, a3, a4, a5, a6, a7, a8, a9, a10⟩ := n1.adv hN (by rw [k125]; decide) eA hq
  have ck := CKX.of a3 a8 a9
  have tk := TBK.of a2 (by rw [a6]; exact Int.le_refl _) (fun j _ => by rw [a7])
  have q17 : (q.i 17).toInt = (V0.i 17).toInt + 1 := by rw [a4, t17_up (N := N) n1]
  have phq : phI q = phI V0 + 3 := by
    unfold phI
    rw [a6, q17]
    omega
  obtain ⟨u1, u2, u3, u4, u5, u6, u7, u8, u9, u10⟩ := tk.1.1
  have nn8 := hD0.2.2.2.2.2.2.2.2.1.2.1
  obtain ⟨-, -, -, -, -, -, -, -, -, -, j36, -, j38, j50, j53, j54, j55, j56, -, -, -, -, a52, erA, eoA, eolA, -, -, -⟩ := pj_eq a3
  have ckS : CKZ (CS.setI S 22 f) (CS.setI A.2 22 f) := ⟨rfl, ck.2.1, ck.2.2.1, fun k hk => by
    show A.2.a 18 k = S.a 18 k
    rw [a9.1], ck.z.2.2.2.2⟩
  have hD1 := hD0.mv hin0 hT (evA.s22 (f := f) o13.1 (by rw [a8]; exact o13.2)) (FRB.of a2) tk.1.r tk.2 ⟨u1, u2, u3, u5, u6, u7, u8, u9, u10⟩ ckS ⟨ck.1.2.2.1, ck.1.2.2.2.2.1, ck.1.2.2.2.2.2⟩ ck.2.2.2.2.2.2.2.2 ⟨by omega, by omega, by omega, by rw [a10]⟩ (by rw [u4]; omega) (by rw [u4]; exact Int.le_refl _)
  have hin1 : INL A.2 q (ceT c1) (c :: L) := hin0.mv ck.z ck.1.2.2.2.2.1 u5 u7
  have eo1 : A.2.o c1.2.1 = S.o c1.2.1 := by rw [eoA]
  obtain ⟨-, e⟩ := hf_ite e
  have o4 : ∀ w : Int32, (CS.setI p4.2 50 w).o c1.2.1 0 = 218 := fun w => by
    show p4.2.o c1.2.1 0 = 218
    rw [R4]
    show A.2.o c1.2.1 0 = 218
    rw [eo1]
    exact h218
  rw [if_neg (by rw [o4]; decide), if_neg (by rw [o4]; decide), if_neg (by rw [o4]; decide), if_neg (by rw [o4]; decide), if_neg (by rw [o4]; decide), if_neg (by rw [o4]; decide), if_pos (o4 _)] at e
  have ep := ob_un e
  have o3 : p4.2.o c1.2.1 3 = A.2.o c1.2.1 3 := by rw [R4]; rfl
  rw [o3, R4] at ep
  -- the class's last state, up to what is not told
  have fin0 : ∃ (P : CS) (vv : Int32) (r : Unit × CS), pj2 P = pj2 (CS.setI (CS.setI (CS.setI A.2 34 (A.2.i 34 - 1)) 50 (A.2.o c1.2.1 3)) 22 f) ∧ (vv = 0 ∨ vv = 1) ∧ f_X6_pop N (CS.setI P 36 vv) = some r ∧ R.2 = r.2 ∧ ((S.i 36 = 1 ∧ vv = 1) ∨ (S.i 36 = 0 ∧ (S.o c1.2.1 11).toInt < 0 ∧ vv = 1) ∨ (S.i 36 = 0 ∧ 0 ≤ (S.o c1.2.1 11).toInt ∧ vv = s.a 50 (ceG c1))) := by
    obtain ⟨X1, hX1⟩ : ∃ X1, X1 = CS.setI (CS.setI A.2 34 (A.2.i 34 - 1)) 50 (A.2.o c1.2.1 3) := ⟨_, rfl⟩
    have X1o : X1.o = S.o := by rw [hX1, ← eoA]; rfl
    have X136 : X1.i 36 = S.i 36 := by rw [hX1, ← j36]; rfl
    have X155 : X1.i 55 = S.i 55 := by rw [hX1, ← j55]; rfl
    have X152 : X1.a 52 = S.a 52 := by rw [hX1, ← a52]; rfl
    rw [← hX1] at ep ⊢
    clear hX1
    unfold f_X7_endSwitch at ep
    obtain ⟨-, ep⟩ := hf_ite ep
    obtain ⟨w2, ew2, ep⟩ := hf_bind ep
    obtain ⟨-, ep⟩ := hf_ite ep
    obtain ⟨w7, ew7, ep⟩ := hf_bind ep
    obtain ⟨-, ep⟩ := hf_ite ep
    have kd7 : pj2 w7.2 = pj2 X1 := (kd_X0_aim N _ _ w7 ew7).trans (kd_X0_add N _ _ _ w2 ew2)
    obtain ⟨⟨-, z2, -, -⟩, -, -, -⟩ := kd_all kd7
    have o7 : w7.2.o = S.o := z2.trans X1o
    have common : ∀ (tg : Int32) (w13 : Unit × CS), f_X0_addCases N w7.2 (CS.o w7.2 c1.2.1 13) tg = some w13 → f_X7_endSwitch_53 N w13.2 c1.2.1 = some R → ∃ (P : CS) (vv : Int32) (r : Unit × CS), pj2 P = pj2 (CS.setI X1 22 f) ∧ (vv = 0 ∨ vv = 1) ∧ f_X6_pop N (CS.setI P 36 vv) = some r ∧ R.2 = r.2 ∧ ((S.i 36 = 1 ∧ vv = 1) ∨ (S.i 36 = 0 ∧ (S.o c1.2.1 11).toInt < 0 ∧ vv = 1) ∨ (S.i 36 = 0 ∧ 0 ≤ (S.o c1.2.1 11).toInt ∧ vv = s.a 50 (ceG c1))) := fun tg w13 ew13 e53 => by
      unfold f_X0_addCases at ew13
      have kd13 := y_adc N w7.2 _ w13 ew13
      rw [show CS.o w7.2 c1.2.1 13 = f by rw [o7, hf]] at kd13
      unfold f_X7_endSwitch_53 at e53
      obtain ⟨-, e53⟩ := hf_ite e53
      obtain ⟨w18, ew18, e53⟩ := hf_bind e53
      have kd18 : pj2 w18.2 = pj2 (CS.setI X1 22 f) := by
        rw [kd_X0_aim N _ _ w18 ew18, kd13, pj2_22, pj2_22, kd7]
      obtain ⟨⟨-, y2, -, -⟩, ⟨-, y6⟩, ⟨-, -, -, y10, -⟩, ⟨-, -, -, -, y16, y17, -⟩⟩ := kd_all kd18
      have o18 : w18.2.o = S.o := y2.trans X1o
      have i36 : w18.2.i 36 = S.i 36 := y10.trans X136
      have pp : ∀ (Q : CS) (vv : Int32), f_X7_endSwitch_99 N (CS.setI Q 36 vv) = some R → ∃ r : Unit × CS, f_X6_pop N (CS.setI Q 36 vv) = some r ∧ R.2 = r.2 := fun Q vv h => by
        unfold f_X7_endSwitch_99 at h
        obtain ⟨r, hr, h⟩ := hf_bind h
        exact ⟨r, hr, by rw [← Option.some.inj h]⟩
      rw [i36] at e53
      rcases h36 with z | z
      · rw [if_pos z, o18] at e53
        obtain ⟨-, e53⟩ := hf_ite e53
        by_cases k : S.o c1.2.1 11 < 0
        · rw [if_pos k] at e53
          obtain ⟨r, hr, hR⟩ := pp _ _ e53
          exact ⟨w18.2, 1, r, kd18, Or.inr rfl, hr, hR, Or.inr (Or.inl ⟨z, by have := lt_int k; rw [z_t0] at this; exact this, rfl⟩)⟩
        · rw [if_neg k] at e53
          have k0 : 0 ≤ (S.o c1.2.1 11).toInt := by
            by_cases y : 0 ≤ (S.o c1.2.1 11).toInt
            · exact y
            · exact absurd (Int32.lt_iff_toInt_lt.mpr (by rw [z_t0]; omega)) k
          obtain ⟨w29, ew29, e53⟩ := hf_bind e53
          have e52 : w18.2.a 52 = S.a 52 := y6.trans X152
          have e55 : w18.2.i 55 = S.i 55 := y17.trans X155
          obtain ⟨sj1, sj2, sj3, sj4, sj5, sj6⟩ := id hv.sj
          have hi := i11_hi hv
          obtain ⟨y1', y2'⟩ := y_goneX hC go (Or.inl ⟨rfl, rfl⟩) (by rw [o18]) (by rw [o18]) (by rw [e55]; exact Int.le_refl _) (by rw [e55]; omega) (fun k _ => by rw [e52]) (fun k q1 q2 => by rw [e55] at q2; omega) ew29
          have y3 : w29.1 = s.a 50 (ceG c1) := y2'.trans (if_pos rfl)
          rw [y1', y3] at e53
          by_cases j : s.a 50 (ceG c1) = 0
          · rw [if_pos j] at e53
            obtain ⟨r, hr, hR⟩ := pp _ _ e53
            exact ⟨w18.2, 0, r, kd18, Or.inl rfl, hr, hR, Or.inr (Or.inr ⟨z, k0, j.symm⟩)⟩
          · rw [if_neg j] at e53
            obtain ⟨r, hr, hR⟩ := pp _ _ e53
            have j1 : s.a 50 (ceG c1) = 1 := by
              have fl := hC.2.2.1.2.2.2.2.2.2.2.2 c1 List.mem_cons_self go 0
              unfold flg at fl
              rw [if_pos rfl] at fl
              exact fl.resolve_left j
            exact ⟨w18.2, 1, r, kd18, Or.inr rfl, hr, hR, Or.inr (Or.inr ⟨z, k0, j1.symm⟩)⟩
      · rw [if_neg (by rw [z]; decide)] at e53
        obtain ⟨r, hr, hR⟩ := pp _ _ e53
        exact ⟨w18.2, 1, r, kd18, Or.inr rfl, hr, hR, Or.inl ⟨z, rfl⟩⟩
    rw [o7] at ep
    by_cases k : S.o c1.2.1 11 < 0
    · rw [if_pos k] at ep
      obtain ⟨w13, ew13, ep⟩ := hf_bind ep
      rw [← o7] at ew13
      exact common _ w13 ew13 ep
    · rw [if_neg k] at ep
      obtain ⟨w13, ew13, ep⟩ := hf_bind ep
      rw [← o7] at ew13
      exact common _ w13 ew13 ep
  obtain ⟨P, vv, r, kdP, hvv, hpop, hRr, hcase⟩ := fin0
  clear e ep
  -- the reference, behind the sign
  have q66 : q.a 66 (ceT c1) = s.a 66 (ceT c1) ∧ q.a 72 (ceT c1) = s.a 72 (ceT c1) ∧ q.a 70 (ceT c1) = S.i 36 ∧ q.a 68 (ceT c1) = s.a 68 (ceT c1) ∧ q.a 71 (ceT c1) = s.a 71 (ceT c1) := by
    have z := fun k h1 h2 => (FRB.of a2 : FRB (ceT c1 + 1) V0 q).all k h1 h2
    exact ⟨(z 66 (by decide) (by decide)).trans v66, (z 72 (by decide) (by decide)).trans v72, (z 70 (by decide) (by decide)).trans v70, (z 68 (by decide) (by decide)).trans v68, (z 71 (by decide) (by decide)).trans v71⟩
  rw [V4] at hV
  obtain ⟨y0, hy0⟩ : ∃ y0, y0 = RS.setI q 19 (q.i 19 - 1) := ⟨_, rfl⟩
  have y0i : ∀ k : Nat, k ≠ 19 → y0.i k = q.i k := fun k hk => by
    rw [hy0]
    exact if_neg hk
  have y019 : y0.i 19 = q.i 19 - 1 := by rw [hy0]; rfl
  have y0a : y0.a = q.a ∧ y0.b = q.b ∧ y0.l = q.l := by rw [hy0]; exact ⟨rfl, rfl, rfl⟩
  rw [← hy0] at hV
  clear hy0
  have g72 : (s.a 72 (ceT c1)).toNatClampNeg = ceG c1 := by
    show (s.a 72 (ceT c1)).toInt.toNat = ceG c1
    omega
  rw [y0a.1, q66.1, q66.2.1, g72] at hV
  obtain ⟨-, hV⟩ := hf_ite hV
  obtain ⟨-, hV⟩ := hf_ite hV
  obtain ⟨p25, hp25, hV⟩ := hf_bind hV
  -- the chain of its breaks
  have gi : (ceG c1 : Int) < (V0.i 43).toInt := by
    rw [t5]
    have := tp.2.1
    have := nGo1 go
    omega
  have gi0 : (ceG c1 : Int) < (s.i 43).toInt := by rw [← t5]; exact gi
  have q48 : q.a 48 (ceG c1) = s.a 48 (ceG c1) ∧ q.a 50 (ceG c1) = s.a 50 (ceG c1) ∧ q.a 44 (ceG c1) = s.a 44 (ceG c1) := by
    have z := tk.1.r.2.1 (ceG c1) gi
    have z0 := n4.1.r.2.1 (ceG c1) gi0
    exact ⟨z.2.2.2.2.2.2.1.trans z0.2.2.2.2.2.2.1, z.2.2.2.2.1.trans z0.2.2.2.2.1, z.1.trans z0.1⟩
  rw [q48.1] at hp25
  obtain ⟨-, b30, b0, col, hc⟩ := id hC.2.2.2.2.2.2.2.2.2.2
  obtain ⟨hx48, -⟩ := hc.2.2.1 c1 List.mem_cons_self go
  obtain ⟨q23, hq23⟩ : ∃ y, y = RS.setA q 23 (s.a 66 (ceT c1)).toNatClampNeg (y0.i 20) := ⟨_, rfl⟩
  have q23i : q23.i = q.i ∧ q23.l = q.l ∧ q23.b = q.b := by rw [hq23]; exact ⟨rfl, rfl, rfl⟩
  have q23a : ∀ k : Nat, k ≠ 23 → q23.a k = q.a k := fun k hk => by
    rw [hq23]
    exact setA_nk hk
  have y23a : ∀ k : Nat, (RS.setA y0 23 (s.a 66 (ceT c1)).toNatClampNeg (y0.i 20)).a k = q23.a k := fun k => by
    rw [hq23]
    show va_up y0.a 23 (upd (y0.a 23) _ _) k = va_up q.a 23 (upd (q.a 23) _ _) k
    rw [y0a.1]
  clear hq23
  have e66 : ∀ z ∈ c :: L, q.a 66 (ceT z) = s.a 66 (ceT z) := fun z hz => by
    have a := (hinD z hz).2.2.1
    have b := wid1 (S.o z.2.1 0)
    rw [((FRB.of a2 : FRB (ceT c1) V0 q) (ceT z) (by omega)).2.2.1, (fr0 (ceT z) (by omega)).2.2.1]
  have cdA : ∀ j : Nat, (j : Int) < (s.i 20).toInt → q.a 22 j = s.a 22 j := fun j hj => by
    rw [a7]
    exact n4.2.2 j hj
  have eP := pt_e22 (N := N) (κ := (ceG c1, true)) (col := col) (F := FRE S s (c :: L) (cdr (ceG c1) col) (b.i 20).toInt) (fun k hk => (hc.fre b0).1 k true hk) N (s.i 20).toInt.toNat _ p25 (y0.i 20) (s.a 48 (ceG c1)) (fun k hk _ => by
    have k20 := (hc.1 k _ hk).2
    rw [y23a 22, q23a 22 (by decide), cdA k k20]
    exact hc.2.1 k _ hk) (by
    rcases hx48 with z | ⟨j, j1, j2⟩
    · exact Or.inl z
    · have := (hc.1 j _ j2).2
      exact Or.inr ⟨j, j1, by omega, j2⟩) hp25
  obtain ⟨eP1, eP2, eP3, eP4, eP5⟩ := eP
  have p25i : p25.i = y0.i := eP1
  have p25a : ∀ k : Nat, k ≠ 22 → p25.a k = q23.a k := fun k hk => (eP4 k hk).trans (y23a k)
  have p25b : p25.b = q.b ∧ p25.l = q.l := ⟨eP3.trans y0a.2.1, eP2.trans y0a.2.2⟩
  have p2522 : ∀ j : Nat, ¬ FRE S s (c :: L) (cdr (ceG c1) col) (b.i 20).toInt j → p25.a 22 j = q23.a 22 j := fun j hj => (eP5 j hj).trans (by rw [y23a 22])
  clear eP1 eP2 eP3 eP4 eP5
  obtain ⟨s9, hs9⟩ : ∃ y, y = RS.setI p25 19 (q.i 19) := ⟨_, rfl⟩
  have s9i : s9.i = q.i := by
    rw [hs9]
    funext j
    show (if j = 19 then q.i 19 else p25.i j) = q.i j
    by_cases z : j = 19
    · rw [if_pos z, z]
    · rw [if_neg z, p25i, y0i j z]
  have s9a : s9.a = p25.a ∧ s9.b = q.b ∧ s9.l = q.l := by
    rw [hs9]
    exact ⟨rfl, p25b.1, p25b.2⟩
  have p25e : p25 = RS.setI s9 19 (q.i 19 - 1) := by
    rw [hs9]
    exact (rsI_bk (by rw [p25i]; exact y019)).symm
  clear hs9
  -- all that stands, at q23 and at s9
  obtain ⟨⟨zp1, zp2, zp3, zp4⟩, ⟨zp5, zp6⟩, ⟨zp7, zp8, zp9, zp10, zp11⟩, ⟨zp12, zp13, zp14, zp15, zp16, zp17, zp18⟩⟩ := kd_all kdP
  have env23 : ∀ {Q : CS}, ENV d Q q → ENV d Q q23 := fun {Q} h => by
    refine h.kq (by rw [q23i.1]) (by rw [q23i.1]) (by rw [q23i.1]) (by rw [q23i.1]) (by rw [q23i.1]) (by rw [q23i.1]) (by rw [q23i.1]) (q23a 1 (by decide)) (q23a 4 (by decide)) (q23a 41 (by decide)) (by rw [q23i.2.2]) (by rw [q23i.2.2]) (by rw [q23i.1]) (by rw [q23i.1]) (by rw [q23i.1]) (by rw [q23i.1]) (by rw [q23i.1]) (by rw [q23i.1]) (by rw [q23i.1]) q23i.2.1 ?_ ?_
    · unfold phI
      rw [q23i.1]
      exact ⟨h.2.2.2.2.2.2.1, h.2.2.2.2.2.2.2.1⟩
    · exact h.wp.of (by rw [q23i.1]; exact Int.le_refl _) (by rw [q23i.1]) (by rw [q23i.1]) (by rw [q23i.1]) (q23a 58 (by decide)) (q23a 62 (by decide))
  have tk23 : TBK q q23 := ⟨⟨⟨by rw [q23i.1], by rw [q23i.1], by rw [q23i.1], by rw [q23i.1], by rw [q23i.1], by rw [q23i.1], by rw [q23i.1], q23a 1 (by decide), q23a 4 (by decide), by rw [q23i.2.2]⟩, fun j _ => ⟨by rw [q23i.2.2], by rw [q23a 40 (by decide)], by rw [q23a 41 (by decide)]⟩, fun j _ => ⟨by rw [q23a 44 (by decide)], by rw [q23i.2.2], by rw [q23a 46 (by decide)], by rw [q23a 47 (by decide)], by rw [q23a 50 (by decide)], by rw [q23a 51 (by decide)], by rw [q23a 48 (by decide)], by rw [q23a 49 (by decide)]⟩, fun j _ => ⟨by rw [q23a 57 (by decide)], by rw [q23a 58 (by decide)]⟩, ⟨by rw [q23i.1]; exact Int.le_refl _, fun j k1 k2 => by rw [q23i.1] at k2; omega⟩, fun j _ => ⟨by rw [q23a 60 (by decide)], by rw [q23a 61 (by decide)], by rw [q23a 62 (by decide)]⟩, by rw [q23i.1]; exact Int.le_refl _, fun j _ => by rw [q23a 30 (by decide)], by rw [q23i.1]; exact Int.le_refl _, fun j _ => ⟨by rw [q23a 34 (by decide)], by rw [q23a 37 (by decide)]⟩, by rw [q23i.1]; exact Int.le_refl _, fun j _ => ⟨by rw [q23a 25 (by decide)], by rw [q23a 27 (by decide)], by rw [q23a 28 (by decide)]⟩⟩, by rw [q23i.1]; exact Int.le_refl _, fun j _ => by rw [q23a 22 (by decide)]⟩
  have fr23 : ∀ r : Nat, FRB r q q23 := fun r j _ => ⟨by rw [q23a 64 (by decide)], by rw [q23a 65 (by decide)], by rw [q23a 66 (by decide)], by rw [q23a 67 (by decide)], by rw [q23a 68 (by decide)], by rw [q23a 69 (by decide)], by rw [q23a 70 (by decide)], by rw [q23a 71 (by decide)], by rw [q23a 72 (by decide)], by rw [q23a 73 (by decide)], by rw [q23i.2.2]⟩
  have ph23 : phI q23 = phI q := by
    unfold phI
    rw [q23i.1]
  have hD2 := hD1.mv3 hin1 hT (env23 hD1.1) (fr23 _) tk23 ⟨by rw [q23i.1]; exact Int.le_refl _, by rw [ph23]; exact hD1.2.2.2.2.2.2.1.2.1, by rw [q23i.1]; exact Int.le_refl _, by rw [q23i.1]⟩
  have hin2 : INL A.2 q23 (ceT c1) (c :: L) := hin1.mv (CKZ.rf A.2) rfl (by rw [q23i.1]) (by rw [q23i.1])
  have hc2 : COL (CS.setI A.2 22 f) q23 (c :: L) (cdr (ceG c1) col) (b.i 20).toInt := by
    have z1 := (hc.drop inj).mv b0 hinD (CKZ.rf S) fr0 n4.1.r n4.2
    have z2 := z1.mv b0 hin0 (CKZ.rf S) (FRB.of a2) tk.1.r tk.2
    have z3 := z2.mv b0 (hin0.mv (CKZ.rf S) rfl u5 u7) (CKZ.rf S) (fr23 _) tk23.1.r tk23.2
    exact z3.eo (fun y _ => by
      show A.2.o y.2.1 = S.o y.2.1
      rw [eoA])
  have e22 : E22 (FRE (CS.setI A.2 22 f) q23 (c :: L) (cdr (ceG c1) col) (b.i 20).toInt) q23 s9 := by
    refine ⟨s9i.trans q23i.1.symm, s9a.2.2.trans q23i.2.1.symm, s9a.2.1.trans q23i.2.2.symm, fun k hk => by rw [s9a.1]; exact p25a k hk, fun j hj => ?_⟩
    rw [s9a.1]
    refine p2522 j (fun z => hj (z.mv2 (fun y _ => by show A.2.o y.2.1 = S.o y.2.1; rw [eoA]) (fun y hy => by rw [q23a 66 (by decide)]; exact e66 y hy)))
  obtain ⟨hD3, -⟩ := hD2.e22 hc2 e22
  have hin3 : INL A.2 s9 (ceT c1) (c :: L) := hin2.mv (CKZ.rf A.2) rfl (by rw [s9i, q23i.1]) (by rw [s9i, q23i.1])
  have s9k : ∀ k : Nat, k ≠ 22 → s9.a k = q23.a k := fun k hk => by rw [s9a.1]; exact p25a k hk
  -- what comes of it
  have t63 : tpI s9 = (ceT c1 : Int) := by
    show (s9.i 63).toInt = _
    rw [s9i]
    exact qj_63 a2 tV
  have hov : ∃ W : RS, f_X12_over N (RS.setI (RS.setI p25 43 (p25.i 43 - 1)) 38 (p25.a 71 (ceT c1))) vv = some W ∧ V = W := by
    have p70 : p25.a 70 (ceT c1) = S.i 36 := by rw [p25a 70 (by decide), q23a 70 (by decide)]; exact q66.2.2.1
    have p68 : p25.a 68 (ceT c1) = s.a 68 (ceT c1) := by rw [p25a 68 (by decide), q23a 68 (by decide)]; exact q66.2.2.2.1
    have p50 : p25.a 50 (ceG c1) = s.a 50 (ceG c1) := by rw [p25a 50 (by decide), q23a 50 (by decide)]; exact q48.2.1
    have un : ∀ w : Int32, ((f_X12_over N (RS.setI (RS.setI p25 43 (p25.i 43 - 1)) 38 (p25.a 71 (ceT c1))) w).bind fun p => f_X12_groups_335 N p) = some V → ∃ W : RS, f_X12_over N (RS.setI (RS.setI p25 43 (p25.i 43 - 1)) 38 (p25.a 71 (ceT c1))) w = some W ∧ V = W := fun w h => by
      obtain ⟨p, hp, h⟩ := hf_bind h
      have h' : some p = some V := h
      exact ⟨p, hp, (Option.some.inj h').symm⟩
    rw [p70, p68, p50] at hV
    rcases hcase with ⟨z1, z2⟩ | ⟨z1, z2, z3⟩ | ⟨z1, z2, z3⟩
    · rw [if_pos z1] at hV
      rw [z2]
      exact un 1 hV
    · have k68 : s.a 68 (ceT c1) = 0 := f5.resolve_right (fun w => by have := f6.mp w; omega)
      rw [if_neg (by rw [z1]; decide), if_pos k68] at hV
      rw [z3]
      exact un 1 hV
    · have k68 : s.a 68 (ceT c1) = 1 := f6.mpr z2
      rw [if_neg (by rw [z1]; decide), if_neg (by rw [k68]; decide)] at hV
      rcases hvv with w | w
      · rw [if_pos (z3.symm.trans w)] at hV
        rw [w]
        exact un 0 hV
      · rw [if_neg (by rw [← z3, w]; decide)] at hV
        rw [w]
        exact un 1 hV
  obtain ⟨W, hoW, hVW⟩ := hov
  have w71 : p25.a 71 (ceT c1) = A.2.o c1.2.1 3 := by
    rw [p25a 71 (by decide), q23a 71 (by decide), q66.2.2.2.2, f3, eo1]
  have p43 : p25.i 43 = s9.i 43 := by rw [p25i, y0i 43 (by decide), s9i]
  rw [w71, p43] at hoW
  obtain ⟨qq, hqq⟩ : ∃ y, y = RS.setI (RS.setI s9 43 (s9.i 43 - 1)) 38 (A.2.o c1.2.1 3) := ⟨_, rfl⟩
  have qqi : ∀ k : Nat, k ≠ 38 → k ≠ 43 → k ≠ 52 → qq.i k = s9.i k := fun k h1 h2 _ => by
    rw [hqq]
    exact (if_neg h1).trans (if_neg h2)
  have qqr : qq.l = s9.l ∧ qq.a = s9.a ∧ qq.b = s9.b := by rw [hqq]; exact ⟨rfl, rfl, rfl⟩
  have qq38 : qq.i 38 = A.2.o c1.2.1 3 := by rw [hqq]; rfl
  have qq43 : qq.i 43 = s9.i 43 - 1 := by rw [hqq]; rfl
  have We : W = RS.setI (RS.setI (RS.setI qq 75 vv) 63 (qq.i 63 - 1)) 19 (q.i 19 - 1) := by
    unfold f_X12_over at hoW
    rw [if_pos hvv] at hoW
    have z := (Option.some.inj hoW).symm
    have z63 : (RS.setI (RS.setI p25 43 (s9.i 43 - 1)) 38 (A.2.o c1.2.1 3)).i 63 = qq.i 63 := by
      rw [hqq]
      show p25.i 63 = s9.i 63
      rw [p25i, y0i 63 (by decide), s9i]
    rw [z63] at z
    rw [z, p25e, rsI_comm (r := s9) (j := 19) (k := 43) (by decide), rsI_comm (j := 19) (k := 38) (by decide), rsI_comm (j := 19) (k := 75) (by decide), rsI_comm (j := 19) (k := 63) (by decide), hqq]
  have ho : f_X12_over N qq vv = some (RS.setI (RS.setI qq 75 vv) 63 (qq.i 63 - 1)) := by
    unfold f_X12_over
    rw [if_pos hvv]
  clear hqq
  have ng : nGo (S.o c1.2.1 0) = 1 := nGo1 go
  have s43 : (s9.i 43).toInt = (s.i 43).toInt := by rw [s9i, u5, t5]
  have g43 : (s9.i 43 - 1).toInt = (s9.i 43).toInt - 1 := by
    have e1 : (1 : Int32).toInt = 1 := by decide
    have hi := Int32.toInt_lt (s9.i 43)
    have := tp.2.1
    rw [toInt_sub] <;> rw [e1] <;> omega
  have eoc : A.2.o c.2.1 = S.o c.2.1 := by rw [eoA]
  have A53 : A.2.i 53 = S.i 53 := j53
  have tpD : TOP (CS.setI A.2 22 f) s9 c1 := ⟨by show (A.2.i 53).toInt = _; rw [A53]; exact tp.1, by show (s9.i 43).toInt = (ceG c1 : Int) + (nGo (A.2.o c1.2.1 0) : Int); rw [eo1, s43]; exact tp.2.1, by show (s9.i 56).toInt = (ceW c1 : Int) + (nWl (A.2.o c1.2.1 0) : Int); rw [s9i, u7, t7, eo1]; exact tp.2.2⟩
  have lkD : LNK (CS.setI A.2 22 f) c1 c := by
    have z : LNK A.2 c1 c := by
      unfold LNK at *
      rw [eoA]
      exact lk
    exact z
  have lwD : LOW (CS.setI A.2 22 f) s9 c := by
    have w := (((lw.mv (rfl : S.o c.2.1 = S.o c.2.1) fr0 (by rw [lk.2.1]; exact Nat.le_refl _)).mv (rfl : S.o c.2.1 = S.o c.2.1) (FRB.of a2 : FRB (ceT c1) V0 q) (by rw [lk.2.1]; exact Nat.le_refl _)).mv (rfl : S.o c.2.1 = S.o c.2.1) (fr23 (ceT c1)) (by rw [lk.2.1]; exact Nat.le_refl _)).e22 e22
    have z : LOW A.2 s9 c := by
      unfold LOW at *
      rw [eoA]
      exact w
    exact z
  have ob := hC.2.2.2.2.2.2.2.1.2
  have P53 : P.i 53 = S.i 53 := by
    rw [zp15]
    exact j53
  obtain ⟨p1', p2'⟩ := e_pop (n := c.1) (by rw [ci_ne _ _ _ (by decide), P53]; have := tp.1; have := lk.1; omega) hpop
  rw [ci_ne _ _ _ (by decide), P53] at p2'
  have pc := (pop_core (X := CS.setI (CS.setI (CS.setI (CS.setI A.2 22 f) 50 (A.2.o c1.2.1 3)) 36 vv) 53 (S.i 53 - 1)) hD3 tpD lkD lwD (BAZ.b19 _ bz) hT tt t63 (by show nWl (A.2.o c1.2.1 0) = 0; rw [eo1, h218]; rfl) (fun _ => by
    rw [s9k 44 (by decide), q23a 44 (by decide), q48.2.2, f4]
    decide) hvv ho ⟨qqi, qqr.1, qqr.2.1, qqr.2.2⟩ qq38 (by
    rw [qq43, g43]
    show _ = (s9.i 43).toInt - (nGo (A.2.o c1.2.1 0) : Int)
    rw [eo1, ng]
    rfl) (by
    show (b.i 38).toInt ≤ (A.2.o c1.2.1 3).toInt ∧ (A.2.o c1.2.1 3).toInt ≤ (A.2.i 50).toInt
    rw [eo1, j50]
    exact ob.1 c1 List.mem_cons_self) (fun z hz => by
    show (A.2.o z.2.1 3).toInt ≤ (A.2.o c1.2.1 3).toInt
    rw [eoA]
    exact ob.2.1 z (List.mem_cons_of_mem _ hz) c1 List.mem_cons_self (ord z hz)) (fun k h1 h2 h3 => by rw [ci_ne _ _ _ h3, ci_ne _ _ _ h1, ci_ne _ _ _ h2]) (by rw [ci_ne _ _ _ (by decide), ci_ne _ _ _ (by decide), ci_at]; rfl) (by rw [ci_at]; exact p2') (by rw [ci_ne _ _ _ (by decide), ci_at]) ⟨rfl, rfl, rfl, rfl, rfl, rfl, rfl, rfl, rfl⟩).1
  -- one sign less
  have sg1 : sgn A.2 (rowA A.2 c1.1) = 1 := by
    have ra : rowA A.2 c1.1 = c1.2.1 := by
      unfold rowA
      rw [erA, cst.1]
      rfl
    rw [ra]
    unfold sgn
    rw [eo1, h218, if_neg (by decide), if_pos (Or.inr (Or.inr (Or.inl rfl)))]
  have ev := pop_sg (n := c1.1) evA (X := CS.setI (CS.setI (CS.setI (CS.setI A.2 22 f) 50 (A.2.o c1.2.1 3)) 36 vv) 53 (S.i 53 - 1)) rfl rfl rfl (by rw [A53]; exact tp.1) (by
    show (S.i 53 - 1).toInt = _
    rw [p2']
    have := lk.1
    omega) (by rw [sg1]; exact Int.le_refl _) pc.1.1 (by
    show qq.i 19 = q.i 19
    rw [qqi 19 (by decide) (by decide) (by decide), s9i])
  refine ⟨m2, V, g2, ?_⟩
  rw [hVW, We]
  have hT' : t0 ≤ ceT c + wid (A.2.o c.2.1 0) := by rw [eoc, ← lk.2.1]; exact hT
  refine (pc.sg hT' ev (by show _ = (qq.i 19).toInt - 1; rw [qqi 19 (by decide) (by decide) (by decide), s9i]; exact sub19 evA) hw0).kd ?_ hT'
  rw [hRr, p1', ci_ne _ _ _ (by decide), P53, pj2_53, pj2_36, kdP, pj2_22, pj2_50, pj2_34, pj2_34, pj2_53, pj2_36, pj2_50, pj2_22]
  rfl
