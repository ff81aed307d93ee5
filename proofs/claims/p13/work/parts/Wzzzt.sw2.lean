/-! both readers: a switch's end -/
/-- the code of a switch's end -/
def SWCD (N : Nat) (X1 S : CS) (a : Nat) (f : Int32) (P : CS) : Prop := ∃ (tg : Int32) (w2 w7 w13 w18 : Unit × CS), f_X0_add N X1 30 (S.o a 9) = some w2 ∧ f_X0_aim N w2.2 (S.o a 10) = some w7 ∧ f_X0_addCases_2 N N w7.2 f tg f = some w13 ∧ f_X0_aim N w13.2 (S.o a 9) = some w18 ∧ w18.2 = P ∧ (((S.o a 11).toInt < 0 ∧ tg = S.o a 9) ∨ (0 ≤ (S.o a 11).toInt ∧ tg = S.o a 11))
set_option maxHeartbeats 8000000 in
theorem en_sw {N : Nat} (hN : 1000 ≤ N) {d : Int32} {B : CS} {b : RS} {t0 n : Nat} {L : List CEL} {x : Int} {S : CS} {s U : RS} {c1 c : CEL} {R : Unit × CS} {Aj : JBA} (mA : JBM U Aj) (hC : COR d B b t0 (c1 :: c :: L) x S s) (tp : TOP S s c1) (hM : MLI c1 S s ∨ MSW c1 S s) (h36 : S.i 36 = 0 ∨ S.i 36 = 1) (h218 : S.o c1.2.1 0 = 218) (k125 : S.i 43 = 125) (bz : BAZ B b (c1 :: c :: L)) (hT : t0 ≤ ceT c1) (e : f_X7_endList N S c1.2.1 = some R) (g : f_X12_parse_10 N n s = some U) : ∃ (m : Nat) (u : RS), f_X12_parse_10 N m u = some U ∧ POPD d B b t0 c L R.2 u ∧ JTR Aj U B b (c1 :: c :: L) S s (vws R.2 u (c :: L)) R.2 u := by
  have hv := hC.1
  have k10 := (tk_is hv (a := 125) (b := 125) (Or.inl ⟨by decide, by decide⟩) (by decide)).mp k125
  obtain ⟨m1, e1, k1, m2, e2, k2, cst⟩ := STK.mem _ _ _ _ hC.2.1 c1 List.mem_cons_self
  obtain ⟨f1, f2, f3, f4, f5, f6⟩ := cst.2.2.1.2.2.2.2.2.2.2.2.2.2.2.1 h218
  obtain ⟨m0, V0, g0, n1, tV, fr0, n4, ⟨v64, v65, v66, v67, v68, v70, v71, v72⟩, n6, n7, n8, n9, n10'⟩ := sw_1 hC hM h36 h218 (Or.inl k10) g
  have go : isGo (S.o c1.2.1 0) := Or.inr (Or.inl h218)
  -- the row goes
  obtain ⟨w0, hw0⟩ := b19_up hC
  obtain ⟨hD, inj, ord, lk, lw, o13⟩ := hC.dropS h218 hw0
  obtain ⟨f, hf⟩ : ∃ f : Int32, f = S.o c1.2.1 13 := ⟨_, rfl⟩
  rw [← hf] at hD o13
  have hinD : INL S s (ceT c1) (c :: L) := hC.inlB tp
  have hD0 := hD.mv3 hinD hT (n1.s22 (f := f) o13.1 o13.2) fr0 n4 ⟨by rw [n8]; exact Int.le_refl _, by rw [n6]; exact hD.2.2.2.2.2.2.1.2.1, by rw [n9]; exact Int.le_refl _, by rw [n10'.1]⟩
  obtain ⟨t1, t2, t3, t4, t5, t6, t7, t8, t9, t10⟩ := n4.1.1
  have hin0 : INL S V0 (ceT c1) (c :: L) := hinD.mv (CKZ.rf S) rfl t5 t7
  -- the reference
  obtain ⟨m2, V, hV, g2⟩ := rl_14 g0 tV n1.1.2.1 v64
  unfold f_X12_groups at hV
  obtain ⟨hib, hV⟩ := hf_ite hV
  have tt : ceT c1 < 1000 := by
    have h2 : (V0.i 63).toInt = (ceT c1 : Int) := tV
    have := hib.2
    omega
  rw [tp_nat tV, v65, if_neg (by decide), if_neg (by decide), if_pos rfl, if_neg (by rw [n7, k10]; decide), if_neg (by rw [n7, k10]; decide)] at hV
  obtain ⟨p3, hsh, hV⟩ := hf_bind hV
  -- the class
  unfold f_X7_endList at e
  obtain ⟨-, e⟩ := hf_ite e
  rw [if_neg (by rw [h218]; decide), if_neg (by rw [h218]; decide)] at e
  unfold f_X7_endList_72 at e
  obtain ⟨p4, e4, e⟩ := hf_bind e
  obtain ⟨A, q, eA, hq, evA, R4, V4, -⟩ := y_clsA hN n1 (c := 125) (d := 125) (Or.inl ⟨by decide, by decide⟩) (by decide) (by decide) (by decide) k125 e4 hsh
  obtain ⟨-, a2, a3, a4, a5, a6, a7, a8, a9, a10⟩ := n1.adv hN (by rw [k125]; decide) eA hq
  have ck := CKX.of a3 a8 a9
  have tk := TBK.of a2 (by rw [a6]; exact Int.le_refl _) (fun j _ => by rw [a7])
  have q17 : (q.i 17).toInt = (V0.i 17).toInt + 1 := by rw [a4, t17_up (N := N) n1]
  have phq : phI q = phI V0 + 3 := by
    unfold phI
    rw [a6, q17]
    omega
  obtain ⟨u1, u2, u3, u4, u5, u6, u7, u8, u9, u10⟩ := tk.1.1
  have nn8 := hD0.2.2.2.2.2.2.2.2.1.2.1
  obtain ⟨-, -, -, -, -, -, -, -, -, -, j36, -, j38, j50, j53, j54, j55, j56, -, -, -, -, a52, erA, eoA, eolA, -, -, -⟩ := pj_eq a3
  have ckS : CKZ (CS.setI S 22 f) (CS.setI A.2 22 f) := ⟨rfl, ck.2.1, ck.2.2.1, fun k hk => by
    show A.2.a 18 k = S.a 18 k
    rw [a9.1], ck.z.2.2.2.2⟩
  have hD1 := hD0.mv hin0 hT (evA.s22 (f := f) o13.1 (by rw [a8]; exact o13.2)) (FRB.of a2) tk.1.r tk.2 ⟨u1, u2, u3, u5, u6, u7, u8, u9, u10⟩ ckS ⟨ck.1.2.2.1, ck.1.2.2.2.2.1, ck.1.2.2.2.2.2⟩ ck.2.2.2.2.2.2.2.2 ⟨by omega, by omega, by omega, by rw [a10]⟩ (by rw [u4]; omega) (by rw [u4]; exact Int.le_refl _)
  have hin1 : INL A.2 q (ceT c1) (c :: L) := hin0.mv ck.z ck.1.2.2.2.2.1 u5 u7
  have eo1 : A.2.o c1.2.1 = S.o c1.2.1 := by rw [eoA]
  obtain ⟨-, e⟩ := hf_ite e
  have o4 : ∀ w : Int32, (CS.setI p4.2 50 w).o c1.2.1 0 = 218 := fun w => by
    show p4.2.o c1.2.1 0 = 218
    rw [R4]
    show A.2.o c1.2.1 0 = 218
    rw [eo1]
    exact h218
  rw [if_neg (by rw [o4]; decide), if_neg (by rw [o4]; decide), if_neg (by rw [o4]; decide), if_neg (by rw [o4]; decide), if_neg (by rw [o4]; decide), if_neg (by rw [o4]; decide), if_pos (o4 _)] at e
  have ep := ob_un e
  have o3 : p4.2.o c1.2.1 3 = A.2.o c1.2.1 3 := by rw [R4]; rfl
  rw [o3, R4] at ep
  -- the class's last state, up to what is not told
  have fin0 : ∃ (P : CS) (vv : Int32) (r : Unit × CS), pj2 P = pj2 (CS.setI (CS.setI (CS.setI A.2 34 (A.2.i 34 - 1)) 50 (A.2.o c1.2.1 3)) 22 f) ∧ (vv = 0 ∨ vv = 1) ∧ f_X6_pop N (CS.setI P 36 vv) = some r ∧ R.2 = r.2 ∧ ((S.i 36 = 1 ∧ vv = 1) ∨ (S.i 36 = 0 ∧ (S.o c1.2.1 11).toInt < 0 ∧ vv = 1) ∨ (S.i 36 = 0 ∧ 0 ≤ (S.o c1.2.1 11).toInt ∧ vv = s.a 50 (ceG c1))) ∧ SWCD N (CS.setI (CS.setI A.2 34 (A.2.i 34 - 1)) 50 (A.2.o c1.2.1 3)) S c1.2.1 f P := by
    obtain ⟨X1, hX1⟩ : ∃ X1, X1 = CS.setI (CS.setI A.2 34 (A.2.i 34 - 1)) 50 (A.2.o c1.2.1 3) := ⟨_, rfl⟩
    have X1o : X1.o = S.o := by rw [hX1, ← eoA]; rfl
    have X136 : X1.i 36 = S.i 36 := by rw [hX1, ← j36]; rfl
    have X155 : X1.i 55 = S.i 55 := by rw [hX1, ← j55]; rfl
    have X152 : X1.a 52 = S.a 52 := by rw [hX1, ← a52]; rfl
    rw [← hX1] at ep ⊢
    clear hX1
    unfold f_X7_endSwitch at ep
    obtain ⟨-, ep⟩ := hf_ite ep
    obtain ⟨w2, ew2, ep⟩ := hf_bind ep
    obtain ⟨-, ep⟩ := hf_ite ep
    obtain ⟨w7, ew7, ep⟩ := hf_bind ep
    obtain ⟨-, ep⟩ := hf_ite ep
    have kd7 : pj2 w7.2 = pj2 X1 := (kd_X0_aim N _ _ w7 ew7).trans (kd_X0_add N _ _ _ w2 ew2)
    obtain ⟨⟨-, z2, -, -⟩, -, -, -⟩ := kd_all kd7
    have o7 : w7.2.o = S.o := z2.trans X1o
    have common : ∀ (tg : Int32) (w13 : Unit × CS), f_X0_addCases N w7.2 (CS.o w7.2 c1.2.1 13) tg = some w13 → f_X7_endSwitch_53 N w13.2 c1.2.1 = some R → (((S.o c1.2.1 11).toInt < 0 ∧ tg = S.o c1.2.1 9) ∨ (0 ≤ (S.o c1.2.1 11).toInt ∧ tg = S.o c1.2.1 11)) → ∃ (P : CS) (vv : Int32) (r : Unit × CS), pj2 P = pj2 (CS.setI X1 22 f) ∧ (vv = 0 ∨ vv = 1) ∧ f_X6_pop N (CS.setI P 36 vv) = some r ∧ R.2 = r.2 ∧ ((S.i 36 = 1 ∧ vv = 1) ∨ (S.i 36 = 0 ∧ (S.o c1.2.1 11).toInt < 0 ∧ vv = 1) ∨ (S.i 36 = 0 ∧ 0 ≤ (S.o c1.2.1 11).toInt ∧ vv = s.a 50 (ceG c1))) ∧ SWCD N X1 S c1.2.1 f P := fun tg w13 ew13 e53 htg => by
      unfold f_X0_addCases at ew13
      have kd13 := y_adc N w7.2 _ w13 ew13
      rw [show CS.o w7.2 c1.2.1 13 = f by rw [o7, hf]] at kd13
      unfold f_X7_endSwitch_53 at e53
      obtain ⟨-, e53⟩ := hf_ite e53
      obtain ⟨w18, ew18, e53⟩ := hf_bind e53
      have kd18 : pj2 w18.2 = pj2 (CS.setI X1 22 f) := by
        rw [kd_X0_aim N _ _ w18 ew18, kd13, pj2_22, pj2_22, kd7]
      obtain ⟨⟨-, y2, -, -⟩, ⟨-, y6⟩, ⟨-, -, -, y10, -⟩, ⟨-, -, -, -, y16, y17, -⟩⟩ := kd_all kd18
      have o18 : w18.2.o = S.o := y2.trans X1o
      have i36 : w18.2.i 36 = S.i 36 := y10.trans X136
      have o13' : w13.2.o = S.o := by
        have z := kd13
        rw [pj2_22, kd7, ← pj2_22] at z
        exact ((kd_all z).1.2.1).trans X1o
      have cd : SWCD N X1 S c1.2.1 f w18.2 := by
        have o2' : w2.2.o = S.o := ((kd_all (kd_X0_add N _ _ _ w2 ew2)).1.2.1).trans X1o
        have z2 := ew2
        rw [X1o] at z2
        have z7 := ew7
        rw [o2'] at z7
        have z13 := ew13
        rw [show CS.o w7.2 c1.2.1 13 = f by rw [o7, hf]] at z13
        have z18 := ew18
        rw [o13'] at z18
        exact ⟨tg, w2, w7, w13, w18, z2, z7, z13, z18, rfl, htg⟩
      have pp : ∀ (Q : CS) (vv : Int32), f_X7_endSwitch_99 N (CS.setI Q 36 vv) = some R → ∃ r : Unit × CS, f_X6_pop N (CS.setI Q 36 vv) = some r ∧ R.2 = r.2 := fun Q vv h => by
        unfold f_X7_endSwitch_99 at h
        obtain ⟨r, hr, h⟩ := hf_bind h
        exact ⟨r, hr, by rw [← Option.some.inj h]⟩
      rw [i36] at e53
      rcases h36 with z | z
      · rw [if_pos z, o18] at e53
        obtain ⟨-, e53⟩ := hf_ite e53
        by_cases k : S.o c1.2.1 11 < 0
        · rw [if_pos k] at e53
          obtain ⟨r, hr, hR⟩ := pp _ _ e53
          exact ⟨w18.2, 1, r, kd18, Or.inr rfl, hr, hR, Or.inr (Or.inl ⟨z, by have := lt_int k; rw [z_t0] at this; exact this, rfl⟩), cd⟩
        · rw [if_neg k] at e53
          have k0 : 0 ≤ (S.o c1.2.1 11).toInt := by
            by_cases y : 0 ≤ (S.o c1.2.1 11).toInt
            · exact y
            · exact absurd (Int32.lt_iff_toInt_lt.mpr (by rw [z_t0]; omega)) k
          obtain ⟨w29, ew29, e53⟩ := hf_bind e53
          have e52 : w18.2.a 52 = S.a 52 := y6.trans X152
          have e55 : w18.2.i 55 = S.i 55 := y17.trans X155
          obtain ⟨sj1, sj2, sj3, sj4, sj5, sj6⟩ := id hv.sj
          have hi := i11_hi hv
          obtain ⟨y1', y2'⟩ := y_goneX hC go (Or.inl ⟨rfl, rfl⟩) (by rw [o18]) (by rw [o18]) (by rw [e55]; exact Int.le_refl _) (by rw [e55]; omega) (fun k _ => by rw [e52]) (fun k q1 q2 => by rw [e55] at q2; omega) ew29
          have y3 : w29.1 = s.a 50 (ceG c1) := y2'.trans (if_pos rfl)
          rw [y1', y3] at e53
          by_cases j : s.a 50 (ceG c1) = 0
          · rw [if_pos j] at e53
            obtain ⟨r, hr, hR⟩ := pp _ _ e53
            exact ⟨w18.2, 0, r, kd18, Or.inl rfl, hr, hR, Or.inr (Or.inr ⟨z, k0, j.symm⟩), cd⟩
          · rw [if_neg j] at e53
            obtain ⟨r, hr, hR⟩ := pp _ _ e53
            have j1 : s.a 50 (ceG c1) = 1 := by
              have fl := hC.2.2.1.2.2.2.2.2.2.2.2 c1 List.mem_cons_self go 0
              unfold flg at fl
              rw [if_pos rfl] at fl
              exact fl.resolve_left j
            exact ⟨w18.2, 1, r, kd18, Or.inr rfl, hr, hR, Or.inr (Or.inr ⟨z, k0, j1.symm⟩), cd⟩
      · rw [if_neg (by rw [z]; decide)] at e53
        obtain ⟨r, hr, hR⟩ := pp _ _ e53
        exact ⟨w18.2, 1, r, kd18, Or.inr rfl, hr, hR, Or.inl ⟨z, rfl⟩, cd⟩
    rw [o7] at ep
    by_cases k : S.o c1.2.1 11 < 0
    · rw [if_pos k] at ep
      obtain ⟨w13, ew13, ep⟩ := hf_bind ep
      rw [← o7] at ew13
      exact common _ w13 ew13 ep (Or.inl ⟨by have := lt_int k; rw [z_t0] at this; exact this, by rw [o7]⟩)
    · rw [if_neg k] at ep
      obtain ⟨w13, ew13, ep⟩ := hf_bind ep
      rw [← o7] at ew13
      have k0 : 0 ≤ (S.o c1.2.1 11).toInt := by
        by_cases y : 0 ≤ (S.o c1.2.1 11).toInt
        · exact y
        · exact absurd (Int32.lt_iff_toInt_lt.mpr (by rw [z_t0]; omega)) k
      exact common _ w13 ew13 ep (Or.inr ⟨k0, by rw [o7]⟩)
  obtain ⟨P, vv, r, kdP, hvv, hpop, hRr, hcase, hcd⟩ := fin0
  clear e ep
  -- the reference, behind the sign
  have q66 : q.a 66 (ceT c1) = s.a 66 (ceT c1) ∧ q.a 72 (ceT c1) = s.a 72 (ceT c1) ∧ q.a 70 (ceT c1) = S.i 36 ∧ q.a 68 (ceT c1) = s.a 68 (ceT c1) ∧ q.a 71 (ceT c1) = s.a 71 (ceT c1) := by
    have z := fun k h1 h2 => (FRB.of a2 : FRB (ceT c1 + 1) V0 q).all k h1 h2
    exact ⟨(z 66 (by decide) (by decide)).trans v66, (z 72 (by decide) (by decide)).trans v72, (z 70 (by decide) (by decide)).trans v70, (z 68 (by decide) (by decide)).trans v68, (z 71 (by decide) (by decide)).trans v71⟩
  rw [V4] at hV
  obtain ⟨y0, hy0⟩ : ∃ y0, y0 = RS.setI q 19 (q.i 19 - 1) := ⟨_, rfl⟩
  have y0i : ∀ k : Nat, k ≠ 19 → y0.i k = q.i k := fun k hk => by
    rw [hy0]
    exact if_neg hk
  have y019 : y0.i 19 = q.i 19 - 1 := by rw [hy0]; rfl
  have y0a : y0.a = q.a ∧ y0.b = q.b ∧ y0.l = q.l := by rw [hy0]; exact ⟨rfl, rfl, rfl⟩
  rw [← hy0] at hV
  clear hy0
  have g72 : (s.a 72 (ceT c1)).toNatClampNeg = ceG c1 := by
    show (s.a 72 (ceT c1)).toInt.toNat = ceG c1
    omega
  rw [y0a.1, q66.1, q66.2.1, g72] at hV
  obtain ⟨-, hV⟩ := hf_ite hV
  obtain ⟨-, hV⟩ := hf_ite hV
  obtain ⟨p25, hp25, hV⟩ := hf_bind hV
  -- the chain of its breaks
  have gi : (ceG c1 : Int) < (V0.i 43).toInt := by
    rw [t5]
    have := tp.2.1
    have := nGo1 go
    omega
  have gi0 : (ceG c1 : Int) < (s.i 43).toInt := by rw [← t5]; exact gi
  have q48 : q.a 48 (ceG c1) = s.a 48 (ceG c1) ∧ q.a 50 (ceG c1) = s.a 50 (ceG c1) ∧ q.a 44 (ceG c1) = s.a 44 (ceG c1) := by
    have z := tk.1.r.2.1 (ceG c1) gi
    have z0 := n4.1.r.2.1 (ceG c1) gi0
    exact ⟨z.2.2.2.2.2.2.1.trans z0.2.2.2.2.2.2.1, z.2.2.2.2.1.trans z0.2.2.2.2.1, z.1.trans z0.1⟩
  rw [q48.1] at hp25
  obtain ⟨-, b30, b0, col, hc⟩ := id hC.2.2.2.2.2.2.2.2.2.2
  obtain ⟨hx48, -⟩ := hc.2.2.1 c1 List.mem_cons_self go
  obtain ⟨q23, hq23⟩ : ∃ y, y = RS.setA q 23 (s.a 66 (ceT c1)).toNatClampNeg (y0.i 20) := ⟨_, rfl⟩
  have q23i : q23.i = q.i ∧ q23.l = q.l ∧ q23.b = q.b := by rw [hq23]; exact ⟨rfl, rfl, rfl⟩
  have q23a : ∀ k : Nat, k ≠ 23 → q23.a k = q.a k := fun k hk => by
    rw [hq23]
    exact setA_nk hk
  have y23a : ∀ k : Nat, (RS.setA y0 23 (s.a 66 (ceT c1)).toNatClampNeg (y0.i 20)).a k = q23.a k := fun k => by
    rw [hq23]
    show va_up y0.a 23 (upd (y0.a 23) _ _) k = va_up q.a 23 (upd (q.a 23) _ _) k
    rw [y0a.1]
  have q2323 : ∀ j : Nat, q23.a 23 j = if j = (s.a 66 (ceT c1)).toNatClampNeg then y0.i 20 else q.a 23 j := fun j => by
    rw [hq23]
    by_cases w : j = (s.a 66 (ceT c1)).toNatClampNeg
    · rw [if_pos w, w]
      exact setA_at
    · rw [if_neg w]
      exact setA_ne w
  clear hq23
  have e66 : ∀ z ∈ c :: L, q.a 66 (ceT z) = s.a 66 (ceT z) := fun z hz => by
    have a := (hinD z hz).2.2.1
    have b := wid1 (S.o z.2.1 0)
    rw [((FRB.of a2 : FRB (ceT c1) V0 q) (ceT z) (by omega)).2.2.1, (fr0 (ceT z) (by omega)).2.2.1]
  have cdA : ∀ j : Nat, (j : Int) < (s.i 20).toInt → q.a 22 j = s.a 22 j := fun j hj => by
    rw [a7]
    exact n4.2.2 j hj
  have eP := pt_e22 (N := N) (κ := (ceG c1, true)) (col := col) (F := FRE S s (c :: L) (cdr (ceG c1) col) (b.i 20).toInt) (fun k hk => (hc.fre b0).1 k true hk) N (s.i 20).toInt.toNat _ p25 (y0.i 20) (s.a 48 (ceG c1)) (fun k hk _ => by
    have k20 := (hc.1 k _ hk).2
    rw [y23a 22, q23a 22 (by decide), cdA k k20]
    exact hc.2.1 k _ hk) (by
    rcases hx48 with z | ⟨j, j1, j2⟩
    · exact Or.inl z
    · have := (hc.1 j _ j2).2
      exact Or.inr ⟨j, j1, by omega, j2⟩) hp25
  obtain ⟨eP1, eP2, eP3, eP4, eP5⟩ := eP
  have p25i : p25.i = y0.i := eP1
  have p25a : ∀ k : Nat, k ≠ 22 → p25.a k = q23.a k := fun k hk => (eP4 k hk).trans (y23a k)
  have p25b : p25.b = q.b ∧ p25.l = q.l := ⟨eP3.trans y0a.2.1, eP2.trans y0a.2.2⟩
  have p2522 : ∀ j : Nat, ¬ FRE S s (c :: L) (cdr (ceG c1) col) (b.i 20).toInt j → p25.a 22 j = q23.a 22 j := fun j hj => (eP5 j hj).trans (by rw [y23a 22])
  clear eP1 eP2 eP3 eP4 eP5
  obtain ⟨s9, hs9⟩ : ∃ y, y = RS.setI p25 19 (q.i 19) := ⟨_, rfl⟩
  have s9i : s9.i = q.i := by
    rw [hs9]
    funext j
    show (if j = 19 then q.i 19 else p25.i j) = q.i j
    by_cases z : j = 19
    · rw [if_pos z, z]
    · rw [if_neg z, p25i, y0i j z]
  have s9a : s9.a = p25.a ∧ s9.b = q.b ∧ s9.l = q.l := by
    rw [hs9]
    exact ⟨rfl, p25b.1, p25b.2⟩
  have p25e : p25 = RS.setI s9 19 (q.i 19 - 1) := by
    rw [hs9]
    exact (rsI_bk (by rw [p25i]; exact y019)).symm
  clear hs9
  -- all that stands, at q23 and at s9
  obtain ⟨⟨zp1, zp2, zp3, zp4⟩, ⟨zp5, zp6⟩, ⟨zp7, zp8, zp9, zp10, zp11⟩, ⟨zp12, zp13, zp14, zp15, zp16, zp17, zp18⟩⟩ := kd_all kdP
  have env23 : ∀ {Q : CS}, ENV d Q q → ENV d Q q23 := fun {Q} h => by
    refine h.kq (by rw [q23i.1]) (by rw [q23i.1]) (by rw [q23i.1]) (by rw [q23i.1]) (by rw [q23i.1]) (by rw [q23i.1]) (by rw [q23i.1]) (q23a 1 (by decide)) (q23a 4 (by decide)) (q23a 41 (by decide)) (by rw [q23i.2.2]) (by rw [q23i.2.2]) (by rw [q23i.1]) (by rw [q23i.1]) (by rw [q23i.1]) (by rw [q23i.1]) (by rw [q23i.1]) (by rw [q23i.1]) (by rw [q23i.1]) q23i.2.1 ?_ ?_
    · unfold phI
      rw [q23i.1]
      exact ⟨h.2.2.2.2.2.2.1, h.2.2.2.2.2.2.2.1⟩
    · exact h.wp.of (by rw [q23i.1]; exact Int.le_refl _) (by rw [q23i.1]) (by rw [q23i.1]) (by rw [q23i.1]) (q23a 58 (by decide)) (q23a 62 (by decide))
  have tk23 : TBK q q23 := ⟨⟨⟨by rw [q23i.1], by rw [q23i.1], by rw [q23i.1], by rw [q23i.1], by rw [q23i.1], by rw [q23i.1], by rw [q23i.1], q23a 1 (by decide), q23a 4 (by decide), by rw [q23i.2.2]⟩, fun j _ => ⟨by rw [q23i.2.2], by rw [q23a 40 (by decide)], by rw [q23a 41 (by decide)]⟩, fun j _ => ⟨by rw [q23a 44 (by decide)], by rw [q23i.2.2], by rw [q23a 46 (by decide)], by rw [q23a 47 (by decide)], by rw [q23a 50 (by decide)], by rw [q23a 51 (by decide)], by rw [q23a 48 (by decide)], by rw [q23a 49 (by decide)]⟩, fun j _ => ⟨by rw [q23a 57 (by decide)], by rw [q23a 58 (by decide)]⟩, ⟨by rw [q23i.1]; exact Int.le_refl _, fun j k1 k2 => by rw [q23i.1] at k2; omega⟩, fun j _ => ⟨by rw [q23a 60 (by decide)], by rw [q23a 61 (by decide)], by rw [q23a 62 (by decide)]⟩, by rw [q23i.1]; exact Int.le_refl _, fun j _ => by rw [q23a 30 (by decide)], by rw [q23i.1]; exact Int.le_refl _, fun j _ => ⟨by rw [q23a 34 (by decide)], by rw [q23a 37 (by decide)]⟩, by rw [q23i.1]; exact Int.le_refl _, fun j _ => ⟨by rw [q23a 25 (by decide)], by rw [q23a 27 (by decide)], by rw [q23a 28 (by decide)]⟩⟩, by rw [q23i.1]; exact Int.le_refl _, fun j _ => by rw [q23a 22 (by decide)]⟩
  have fr23 : ∀ r : Nat, FRB r q q23 := fun r j _ => ⟨by rw [q23a 64 (by decide)], by rw [q23a 65 (by decide)], by rw [q23a 66 (by decide)], by rw [q23a 67 (by decide)], by rw [q23a 68 (by decide)], by rw [q23a 69 (by decide)], by rw [q23a 70 (by decide)], by rw [q23a 71 (by decide)], by rw [q23a 72 (by decide)], by rw [q23a 73 (by decide)], by rw [q23i.2.2]⟩
  have ph23 : phI q23 = phI q := by
    unfold phI
    rw [q23i.1]
  have hD2 := hD1.mv3 hin1 hT (env23 hD1.1) (fr23 _) tk23 ⟨by rw [q23i.1]; exact Int.le_refl _, by rw [ph23]; exact hD1.2.2.2.2.2.2.1.2.1, by rw [q23i.1]; exact Int.le_refl _, by rw [q23i.1]⟩
  have hin2 : INL A.2 q23 (ceT c1) (c :: L) := hin1.mv (CKZ.rf A.2) rfl (by rw [q23i.1]) (by rw [q23i.1])
  have hc2 : COL (CS.setI A.2 22 f) q23 (c :: L) (cdr (ceG c1) col) (b.i 20).toInt := by
    have z1 := (hc.drop inj).mv b0 hinD (CKZ.rf S) fr0 n4.1.r n4.2
    have z2 := z1.mv b0 hin0 (CKZ.rf S) (FRB.of a2) tk.1.r tk.2
    have z3 := z2.mv b0 (hin0.mv (CKZ.rf S) rfl u5 u7) (CKZ.rf S) (fr23 _) tk23.1.r tk23.2
    exact z3.eo (fun y _ => by
      show A.2.o y.2.1 = S.o y.2.1
      rw [eoA])
  have e22 : E22 (FRE (CS.setI A.2 22 f) q23 (c :: L) (cdr (ceG c1) col) (b.i 20).toInt) q23 s9 := by
    refine ⟨s9i.trans q23i.1.symm, s9a.2.2.trans q23i.2.1.symm, s9a.2.1.trans q23i.2.2.symm, fun k hk => by rw [s9a.1]; exact p25a k hk, fun j hj => ?_⟩
    rw [s9a.1]
    refine p2522 j (fun z => hj (z.mv2 (fun y _ => by show A.2.o y.2.1 = S.o y.2.1; rw [eoA]) (fun y hy => by rw [q23a 66 (by decide)]; exact e66 y hy)))
  obtain ⟨hD3, -⟩ := hD2.e22 hc2 e22
  have hin3 : INL A.2 s9 (ceT c1) (c :: L) := hin2.mv (CKZ.rf A.2) rfl (by rw [s9i, q23i.1]) (by rw [s9i, q23i.1])
  have s9k : ∀ k : Nat, k ≠ 22 → s9.a k = q23.a k := fun k hk => by rw [s9a.1]; exact p25a k hk
  -- what comes of it
  have t63 : tpI s9 = (ceT c1 : Int) := by
    show (s9.i 63).toInt = _
    rw [s9i]
    exact qj_63 a2 tV
  have hov : ∃ W : RS, f_X12_over N (RS.setI (RS.setI p25 43 (p25.i 43 - 1)) 38 (p25.a 71 (ceT c1))) vv = some W ∧ V = W := by
    have p70 : p25.a 70 (ceT c1) = S.i 36 := by rw [p25a 70 (by decide), q23a 70 (by decide)]; exact q66.2.2.1
    have p68 : p25.a 68 (ceT c1) = s.a 68 (ceT c1) := by rw [p25a 68 (by decide), q23a 68 (by decide)]; exact q66.2.2.2.1
    have p50 : p25.a 50 (ceG c1) = s.a 50 (ceG c1) := by rw [p25a 50 (by decide), q23a 50 (by decide)]; exact q48.2.1
    have un : ∀ w : Int32, ((f_X12_over N (RS.setI (RS.setI p25 43 (p25.i 43 - 1)) 38 (p25.a 71 (ceT c1))) w).bind fun p => f_X12_groups_335 N p) = some V → ∃ W : RS, f_X12_over N (RS.setI (RS.setI p25 43 (p25.i 43 - 1)) 38 (p25.a 71 (ceT c1))) w = some W ∧ V = W := fun w h => by
      obtain ⟨p, hp, h⟩ := hf_bind h
      have h' : some p = some V := h
      exact ⟨p, hp, (Option.some.inj h').symm⟩
    rw [p70, p68, p50] at hV
    rcases hcase with ⟨z1, z2⟩ | ⟨z1, z2, z3⟩ | ⟨z1, z2, z3⟩
    · rw [if_pos z1] at hV
      rw [z2]
      exact un 1 hV
    · have k68 : s.a 68 (ceT c1) = 0 := f5.resolve_right (fun w => by have := f6.mp w; omega)
      rw [if_neg (by rw [z1]; decide), if_pos k68] at hV
      rw [z3]
      exact un 1 hV
    · have k68 : s.a 68 (ceT c1) = 1 := f6.mpr z2
      rw [if_neg (by rw [z1]; decide), if_neg (by rw [k68]; decide)] at hV
      rcases hvv with w | w
      · rw [if_pos (z3.symm.trans w)] at hV
        rw [w]
        exact un 0 hV
      · rw [if_neg (by rw [← z3, w]; decide)] at hV
        rw [w]
        exact un 1 hV
  obtain ⟨W, hoW, hVW⟩ := hov
  have w71 : p25.a 71 (ceT c1) = A.2.o c1.2.1 3 := by
    rw [p25a 71 (by decide), q23a 71 (by decide), q66.2.2.2.2, f3, eo1]
  have p43 : p25.i 43 = s9.i 43 := by rw [p25i, y0i 43 (by decide), s9i]
  rw [w71, p43] at hoW
  obtain ⟨qq, hqq⟩ : ∃ y, y = RS.setI (RS.setI s9 43 (s9.i 43 - 1)) 38 (A.2.o c1.2.1 3) := ⟨_, rfl⟩
  have qqi : ∀ k : Nat, k ≠ 38 → k ≠ 43 → k ≠ 52 → qq.i k = s9.i k := fun k h1 h2 _ => by
    rw [hqq]
    exact (if_neg h1).trans (if_neg h2)
  have qqr : qq.l = s9.l ∧ qq.a = s9.a ∧ qq.b = s9.b := by rw [hqq]; exact ⟨rfl, rfl, rfl⟩
  have qq38 : qq.i 38 = A.2.o c1.2.1 3 := by rw [hqq]; rfl
  have qq43 : qq.i 43 = s9.i 43 - 1 := by rw [hqq]; rfl
  have We : W = RS.setI (RS.setI (RS.setI qq 75 vv) 63 (qq.i 63 - 1)) 19 (q.i 19 - 1) := by
    unfold f_X12_over at hoW
    rw [if_pos hvv] at hoW
    have z := (Option.some.inj hoW).symm
    have z63 : (RS.setI (RS.setI p25 43 (s9.i 43 - 1)) 38 (A.2.o c1.2.1 3)).i 63 = qq.i 63 := by
      rw [hqq]
      show p25.i 63 = s9.i 63
      rw [p25i, y0i 63 (by decide), s9i]
    rw [z63] at z
    rw [z, p25e, rsI_comm (r := s9) (j := 19) (k := 43) (by decide), rsI_comm (j := 19) (k := 38) (by decide), rsI_comm (j := 19) (k := 75) (by decide), rsI_comm (j := 19) (k := 63) (by decide), hqq]
  have ho : f_X12_over N qq vv = some (RS.setI (RS.setI qq 75 vv) 63 (qq.i 63 - 1)) := by
    unfold f_X12_over
    rw [if_pos hvv]
  have qq52 : qq.i 52 = s9.i 52 := by rw [hqq]; rfl
  clear hqq
  have ng : nGo (S.o c1.2.1 0) = 1 := nGo1 go
  have s43 : (s9.i 43).toInt = (s.i 43).toInt := by rw [s9i, u5, t5]
  have g43 : (s9.i 43 - 1).toInt = (s9.i 43).toInt - 1 := by
    have e1 : (1 : Int32).toInt = 1 := by decide
    have hi := Int32.toInt_lt (s9.i 43)
    have := tp.2.1
    rw [toInt_sub] <;> rw [e1] <;> omega
  have eoc : A.2.o c.2.1 = S.o c.2.1 := by rw [eoA]
  have A53 : A.2.i 53 = S.i 53 := j53
  have tpD : TOP (CS.setI A.2 22 f) s9 c1 := ⟨by show (A.2.i 53).toInt = _; rw [A53]; exact tp.1, by show (s9.i 43).toInt = (ceG c1 : Int) + (nGo (A.2.o c1.2.1 0) : Int); rw [eo1, s43]; exact tp.2.1, by show (s9.i 56).toInt = (ceW c1 : Int) + (nWl (A.2.o c1.2.1 0) : Int); rw [s9i, u7, t7, eo1]; exact tp.2.2⟩
  have lkD : LNK (CS.setI A.2 22 f) c1 c := by
    have z : LNK A.2 c1 c := by
      unfold LNK at *
      rw [eoA]
      exact lk
    exact z
  have lwD : LOW (CS.setI A.2 22 f) s9 c := by
    have w := (((lw.mv (rfl : S.o c.2.1 = S.o c.2.1) fr0 (by rw [lk.2.1]; exact Nat.le_refl _)).mv (rfl : S.o c.2.1 = S.o c.2.1) (FRB.of a2 : FRB (ceT c1) V0 q) (by rw [lk.2.1]; exact Nat.le_refl _)).mv (rfl : S.o c.2.1 = S.o c.2.1) (fr23 (ceT c1)) (by rw [lk.2.1]; exact Nat.le_refl _)).e22 e22
    have z : LOW A.2 s9 c := by
      unfold LOW at *
      rw [eoA]
      exact w
    exact z
  have ob := hC.2.2.2.2.2.2.2.1.2
  have P53 : P.i 53 = S.i 53 := by
    rw [zp15]
    exact j53
  obtain ⟨p1', p2'⟩ := e_pop (n := c.1) (by rw [ci_ne _ _ _ (by decide), P53]; have := tp.1; have := lk.1; omega) hpop
  rw [ci_ne _ _ _ (by decide), P53] at p2'
  have pc := (pop_core (X := CS.setI (CS.setI (CS.setI (CS.setI A.2 22 f) 50 (A.2.o c1.2.1 3)) 36 vv) 53 (S.i 53 - 1)) hD3 tpD lkD lwD (BAZ.b19 _ bz) hT tt t63 (by show nWl (A.2.o c1.2.1 0) = 0; rw [eo1, h218]; rfl) (fun _ => by
    rw [s9k 44 (by decide), q23a 44 (by decide), q48.2.2, f4]
    decide) hvv ho ⟨qqi, qqr.1, qqr.2.1, qqr.2.2⟩ qq38 (by
    rw [qq43, g43]
    show _ = (s9.i 43).toInt - (nGo (A.2.o c1.2.1 0) : Int)
    rw [eo1, ng]
    rfl) (by
    show (b.i 38).toInt ≤ (A.2.o c1.2.1 3).toInt ∧ (A.2.o c1.2.1 3).toInt ≤ (A.2.i 50).toInt
    rw [eo1, j50]
    exact ob.1 c1 List.mem_cons_self) (fun z hz => by
    show (A.2.o z.2.1 3).toInt ≤ (A.2.o c1.2.1 3).toInt
    rw [eoA]
    exact ob.2.1 z (List.mem_cons_of_mem _ hz) c1 List.mem_cons_self (ord z hz)) (fun k h1 h2 h3 => by rw [ci_ne _ _ _ h3, ci_ne _ _ _ h1, ci_ne _ _ _ h2]) (by rw [ci_ne _ _ _ (by decide), ci_ne _ _ _ (by decide), ci_at]; rfl) (by rw [ci_at]; exact p2') (by rw [ci_ne _ _ _ (by decide), ci_at]) ⟨rfl, rfl, rfl, rfl, rfl, rfl, rfl, rfl, rfl⟩).1
  -- one sign less
  have sg1 : sgn A.2 (rowA A.2 c1.1) = 1 := by
    have ra : rowA A.2 c1.1 = c1.2.1 := by
      unfold rowA
      rw [erA, cst.1]
      rfl
    rw [ra]
    unfold sgn
    rw [eo1, h218, if_neg (by decide), if_pos (Or.inr (Or.inr (Or.inl rfl)))]
  have ev := pop_sg (n := c1.1) evA (X := CS.setI (CS.setI (CS.setI (CS.setI A.2 22 f) 50 (A.2.o c1.2.1 3)) 36 vv) 53 (S.i 53 - 1)) rfl rfl rfl (by rw [A53]; exact tp.1) (by
    show (S.i 53 - 1).toInt = _
    rw [p2']
    have := lk.1
    omega) (by rw [sg1]; exact Int.le_refl _) pc.1.1 (by
    show qq.i 19 = q.i 19
    rw [qqi 19 (by decide) (by decide) (by decide), s9i])
  have hT' : t0 ≤ ceT c + wid (A.2.o c.2.1 0) := by rw [eoc, ← lk.2.1]; exact hT
  refine ⟨m2, V, g2, ?_, fun _ jw => ?_⟩
  · rw [hVW, We]
    refine (pc.sg hT' ev (by show _ = (qq.i 19).toInt - 1; rw [qqi 19 (by decide) (by decide) (by decide), s9i]; exact sub19 evA) hw0).kd ?_ hT'
    rw [hRr, p1', ci_ne _ _ _ (by decide), P53, pj2_53, pj2_36, kdP, pj2_22, pj2_50, pj2_34, pj2_34, pj2_53, pj2_36, pj2_50, pj2_22]
    rfl
  -- the code
  obtain ⟨tg, w2, w7, w13, w18, ew2, ew7, ew13, ew18, hP, htg⟩ := hcd
  obtain ⟨m', e', k', c1s, lkl, stl⟩ := id hC.2.1
  obtain ⟨em', -, a66b, M, y1, y2, y3, y4⟩ := c1s.2.2.2.2.1 h218
  rw [em', ← hf] at y1
  rw [em', ← hf] at stl
  have vi := n10'.2.1
  have vaa := n10'.2.2.1
  have hr0 : (vw S s c1).v = 218 := h218
  have goV : isGo (vw S s c1).v := go
  have nlo : ¬ isLo (vw S s c1).v := fun z => by
    rw [hr0] at z
    rcases z with z | z | z | z <;> exact absurd z (by decide)
  have nty : ¬ isTy (vw S s c1).v := fun z => by
    rw [hr0] at z
    rcases z with z | z | z | z <;> exact absurd z (by decide)
  have r66 : (vw S s c1).2.1 66 = s.a 66 (ceT c1) := (vw_at (k := 66) ⟨by decide, by decide⟩)
  have r13 : (vw S s c1).1 13 = f := hf.symm
  have h5 := hc.2.2.2.2.1 c1 List.mem_cons_self h218
  have c6 := clampI (show 0 ≤ (s.a 66 (ceT c1)).toInt by omega)
  have si : ∀ k : Nat, rsite (vw S s c1) k ↔ (k : Int) = (s.a 66 (ceT c1)).toInt := fun k => by
    unfold rsite
    rw [hr0, r66]
    refine ⟨fun z => ?_, fun z => Or.inl ⟨Or.inr (Or.inr rfl), z⟩⟩
    rcases z with ⟨-, z⟩ | ⟨z, -⟩ | ⟨z, -⟩ | ⟨z, -⟩
    · exact z
    · exact absurd z (by decide)
    · exact absurd z (by decide)
    · exact absurd z (by decide)
  have gis := hC.gis
  have h44 : (S.i 44).toInt ≤ 900 := by
    rw [hv.p44.1]
    exact (i11_hi hv).2
  have h44A : (A.2.i 44).toInt ≤ 900 := by
    rw [evA.p44.1]
    exact (i11_hi evA).2
  obtain ⟨ee, he1, he2⟩ := clo_e (S.i 43)
  have ee1 : ee ≤ 1 := by rcases he1 with z | ⟨z, -⟩ <;> omega
  have rt : tvs (rtgs (vw S s c1)) = [tv (S.o c1.2.1 10), tv (S.o c1.2.1 9)] := by
    unfold rtgs
    rw [hr0, if_neg (by decide), if_neg (by decide), if_pos (by decide)]
    rfl
  have en : ∀ (G : GHT) (ω h l : Nat), jen G ω (vw S s c1) h l = [] := fun _ _ _ _ => jen.no (by rw [hr0]; decide) nty (by rw [hr0]; decide)
  -- breaks and head
  have qV0 : qe V0 = qe s := by
    unfold qe
    rw [vi 20 (by decide) (by decide), vi 24 (by decide) (by decide), vi 29 (by decide) (by decide), vi 33 (by decide) (by decide), vi 42 (by decide) (by decide), vi 52 (by decide) (by decide), vaa 21 (by decide), vaa 22 (by decide), vaa 23 (by decide), vaa 25 (by decide), vaa 26 (by decide), vaa 27 (by decide), vaa 28 (by decide), vaa 30 (by decide), vaa 31 (by decide), vaa 32 (by decide), vaa 34 (by decide), vaa 35 (by decide), vaa 36 (by decide), vaa 37 (by decide)]
  have qqe := (kre_f_X12_next N V0 q hq).trans qV0
  obtain ⟨⟨o1, o2, o3', o4', o5', o6⟩, o7, o8, o9, o10, o11, o12, o13', o14, o15, o16, o17, o18, o19, o20⟩ := qe_eq qqe
  have y020 : y0.i 20 = s.i 20 := (y0i 20 (by decide)).trans o1
  obtain ⟨l1, k1l, k2l, -, x1, x4⟩ := pt_l (P := fun k => col k = some (ceG c1, true)) (s := s) (fun k hk => hc.2.1 k _ hk) N _ p25 (y0.i 20) (s.a 48 (ceG c1)) (fun j hj _ => by rw [y23a 22, q23a 22 (by decide), o8]) (by
    rcases hx48 with z | ⟨j, j1, j2⟩
    · exact Or.inl z
    · exact Or.inr ⟨j, j1, j2⟩) hp25
  have x4' : ∀ j : Nat, ¬ j ∈ l1 → p25.a 22 j = s.a 22 j := fun j hj => by
    rw [x4 j hj, y23a 22, q23a 22 (by decide), o8]
  have p23 : ∀ j : Nat, p25.a 23 j = if j = (s.a 66 (ceT c1)).toNatClampNeg then s.i 20 else s.a 23 j := fun j => by
    rw [p25a 23 (by decide), q2323, y020, o9]
  have hl1 : ¬ (s.a 66 (ceT c1)).toNatClampNeg ∈ l1 := fun z => by
    have z1 := (k2l _ z).1
    have z2 : (s.a 66 (ceT c1)).toInt.toNat = (s.a 66 (ceT c1)).toNatClampNeg := rfl
    rw [← z2, h5.2.2] at z1
    cases z1
  obtain ⟨us, hus⟩ : ∃ us : RS, us = (s.i, s.l, (fun k => if k = 22 then p25.a 22 else if k = 23 then p25.a 23 else s.a k), s.b) := ⟨_, rfl⟩
  have usi : us.i = s.i := by rw [hus]; rfl
  have usa : ∀ k : Nat, k ≠ 22 → k ≠ 23 → us.a k = s.a k := fun k h1 h2 => by
    rw [hus]
    exact (if_neg h1).trans (if_neg h2)
  have us22 : us.a 22 = p25.a 22 := by rw [hus]; rfl
  have us23 : us.a 23 = p25.a 23 := by rw [hus]; rfl
  clear hus
  obtain ⟨w, hw⟩ : ∃ w, w = q.i 19 - 1 := ⟨_, rfl⟩
  have q19 : q.i 19 = s.i 19 := a10.trans n10'.1
  have s19 := sub19 evA
  have w19 : (b.i 19).toInt + (sfr (vws S s (c :: L)) : Int) ≤ w.toInt := by
    have z1 := hC.2.2.2.2.2.2.1.2.2.2
    have z2 : SSM S (c1 :: c :: L) = (nSg (S.o c1.2.1 0) : Int) + SSM S (c :: L) := rfl
    have z3 : nSg (S.o c1.2.1 0) = 1 := by rw [h218]; rfl
    have z4 := sfr_ss (S := S) (s := s) (c :: L)
    rw [hw, s19, q19]
    omega
  obtain ⟨n, hn⟩ : ∃ n : Nat, n = nd (s.a 28) M := ⟨_, rfl⟩
  have yn : (S.i 22).toInt = f.toInt + (n : Int) := by rw [hn]; exact y1.2.1.2.1
  obtain ⟨us', hus'⟩ : ∃ us' : RS, us' = RS.setI us 19 w := ⟨_, rfl⟩
  have usi' : ∀ k : Nat, k ≠ 19 → us'.i k = s.i k := fun k hk => by
    rw [hus', ← usi]
    exact if_neg hk
  have usw : us'.i 19 = w := by rw [hus']; rfl
  have usa' : us'.a = us.a := by rw [hus']; rfl
  clear hus'
  have d52 : D52 us us' := by
    rw [D52, usa', usi]
    exact ⟨⟨usi' 20 (by decide), usi' 24 (by decide), usi' 29 (by decide), usi' 33 (by decide), usi' 42 (by decide)⟩, rfl, rfl, rfl, rfl, rfl, rfl, rfl, rfl, rfl, rfl, rfl, rfl, rfl, rfl⟩
  have hm8 : ∀ y ∈ vws S s (c :: L), y.v = 218 → ∃ z ∈ c :: L, y = vw S s z ∧ S.o z.2.1 0 = 218 := fun y hy h8 => by
    obtain ⟨z, hz, e9⟩ := List.mem_map.mp hy
    rw [← e9] at h8
    exact ⟨z, hz, e9.symm, h8⟩
  have j0 := JRW.clo8 (V := vws S s (c :: L)) (r := vw S s c1) (u := us) (u' := us') (S' := S) (l1 := l1) (l2 := []) (vb := s.i 20) (vc := 0) (vs := s.a 22 (s.a 66 (ceT c1)).toNatClampNeg) (e := ee) (dr := 2 + 2 * (n : Int)) jw (fun z => z.c0 (by rw [hr0]; decide) (NK.eq rfl rfl (usi' 52 (by decide)) (usi' 38 (by decide)))) h44 mA (vws.pl hC) (fun _ y hy gy e => by have := gis y hy gy; have e' : y.2.2.2 = ceG c1 := e; omega) nty (fun _ => ⟨k1l, fun lo => absurd lo nlo⟩) ⟨usi, usa, fun j hj => by
      rw [us23, p23, if_neg (fun e9 => hj ⟨hr0, by rw [e9, r66]; exact c6⟩)]⟩ (fun _ j hj => by rw [us22, x1 j hj, y020]) (fun lo => absurd lo nlo) (fun j z => by
      have z1 := (si j).mp z
      have z2 : j = (s.a 66 (ceT c1)).toNatClampNeg := by omega
      exact ⟨by rw [us22, z2, x4' _ hl1], by omega⟩) (fun j n1 _ _ => by rw [us22, x4' j (n1 goV)]) (D38.rf _) d52 ⟨Or.inr (by rw [usw]; exact w19), by rw [usi' 11 (by decide), usi], by rw [usi' 43 (by decide), usi], by rw [usi' 59 (by decide), usi]⟩ (fun k _ _ => by rw [usa']) (fun nm G ω j ng hcx => by
      rw [en] at ng hcx
      have z := ng.h
      refine ⟨⟨fun k hk => ?_, z.2.1, ?_, ?_⟩, hcx⟩
      · rw [usa', usa 40 (by decide) (by decide)]
        rw [usi' 38 (by decide)] at hk
        exact z.1 k hk
      · rw [usi' 52 (by decide)]
        exact z.2.2.1
      · have z9 := z.2.2.2
        unfold NCB SLO at z9 ⊢
        rw [usi' 42 (by decide), usi' 20 (by decide)]
        exact z9) (fun G sg => by
      obtain ⟨M0, g1, ⟨g2', g3, g4, -⟩, -⟩ := sg hr0
      rw [r66] at g1
      rw [chn.uq _ _ _ g1 y2, ← hn] at g4
      show 2 + 2 * (n : Int) ≤ dbr (G (vw S s c1).2.2.1) (S.o c1.2.1 0)
      rw [h218]
      show 2 + 2 * (n : Int) ≤ 2 + 2 * ((G (vw S s c1).2.2.1).2.2.length : Int)
      omega) he1 (fun _ M' hM' j hj pz => by
      rw [r66] at hM'
      rw [chn.uq _ _ _ hM' y2] at hj
      obtain ⟨y, hy, y8, ye⟩ := pz
      obtain ⟨z, hz, e9, z8⟩ := hm8 y hy y8
      obtain ⟨mz1, ez1, kz1, mz2, ez2, kz2, cz⟩ := STK.mem _ _ _ _ stl z hz
      obtain ⟨q1', q2', q3', M2, l1', l2', l3', l4'⟩ := cz.2.2.2.2.1 z8
      have nd := STK.nd8 (c :: L) _ _ _ stl z hz z8 M2 l2'
      have e67 : (vw S s z).2.1 67 = s.a 67 (ceT z) := (vw_at (k := 67) ⟨by decide, by decide⟩)
      rw [e9, e67] at ye
      have := (y4 j hj).1
      rcases nd.2.2 with z0 | z0 <;> omega)
  rw [rt] at j0
  have j1 := j0.imp (K' := fun FC SF nm X ω j Z => j.h ≤ 450 ∧ KCL8 (b.i 24).toInt U (vw S s c1) S s us (s.i 20) 0 (s.a 22 (s.a 66 (ceT c1)).toNatClampNeg) FC SF nm X ω j Z) (Int.le_refl _) (Int.le_refl _) (fun FC SF nm X ω j Z hc0 hh _ _ _ _ k => ⟨by
    rw [usi' 11 (by decide)] at hh
    have := (i11_hi hv).2
    have : ((2 * j.h + msr j.c : Nat) : Int) = 2 * (j.h : Int) + (msr j.c : Int) := by push_cast; rfl
    omega, k⟩)
  obtain ⟨-, -, -, -, -, -, -, -, -, -, -, -, -, oi50, -, -, -, -, -, -, oa48, oa49, -, -, -, -, -, oi21, -⟩ := pj_eq a3
  have l44 : (S.i 44).toInt + 1 ≤ (A.2.i 44).toInt := by
    rw [hv.p44.1, evA.p44.1]
    rw [n8] at a5
    omega
  have j2 := j1.cek (R := A.2) 1 (ke_X9_advance N S A eA) oi21 oa48 oa49 oi50 l44
  obtain ⟨X1, hX1⟩ : ∃ X1, X1 = CS.setI (CS.setI A.2 34 (A.2.i 34 - 1)) 50 (A.2.o c1.2.1 3) := ⟨_, rfl⟩
  have X1i : ∀ k : Nat, k ≠ 34 → k ≠ 50 → X1.i k = A.2.i k := fun k h1 h2 => by rw [hX1, ci_ne _ _ _ h2, ci_ne _ _ _ h1]
  have X1a : X1.a = A.2.a := by rw [hX1]; rfl
  rw [← hX1] at ew2
  have j3 := j2.drp (R := X1) (u := us') (by rw [hX1]; rfl) (X1i 21 (by decide) (by decide)) (X1i 44 (by decide) (by decide)) (by rw [X1a]) (by rw [X1a]) rfl (Int.le_refl _) rfl
  clear hX1
  have pcX : pcC X1 = pcC S := by
    unfold pcC
    rw [X1i 20 (by decide) (by decide), (pe_eq (ke_X9_advance N S A eA)).1]
  have h44X : (X1.i 44).toInt ≤ 900 := by rw [X1i 44 (by decide) (by decide)]; exact h44A
  have j4 := j3.add ew2 h44X (by omega)
  have ad2 := add_eq ew2
  have j5 := JRG.aim (W1 := []) (W2 := [tv (S.o c1.2.1 9)]) (K' := fun FC SF nm X ω j Z => (cTg SF (S.o c1.2.1 10)).toInt = ((pcC w2.2 : Nat) : Int) ∧ (SF.a 15 (pcC X1) = 30 ∧ SF.a 16 (pcC X1) = S.o c1.2.1 9 ∧ pcC X1 < 1200 ∧ pcC w2.2 = pcC X1 + 1) ∧ j.h ≤ 450 ∧ KCL8 (b.i 24).toInt U (vw S s c1) S s us (s.i 20) 0 (s.a 22 (s.a 66 (ceT c1)).toNatClampNeg) FC SF nm X ω j Z) j4 ew7 (by rw [ad2.1 44 (by decide)]; exact h44X) (by omega) (fun FC SF nm X ω j Z h k => ⟨h, k⟩)
  have am7 := aim_eq ew7
  have i7 : ∀ k : Nat, k ≠ 20 → k ≠ 34 → k ≠ 50 → w7.2.i k = A.2.i k := fun k h1 h2 h3 => (am7.1 k).trans ((ad2.1 k h1).trans (X1i k h2 h3))
  have a7' : ∀ k : Nat, k ≠ 15 → k ≠ 16 → k ≠ 17 → w7.2.a k = A.2.a k := fun k h1 h2 h3 => by rw [am7.2 k h3, ad2.2 k h1 h2, X1a]
  have i722 : w7.2.i 22 = S.i 22 := (i7 22 (by decide) (by decide) (by decide)).trans a8
  have c320 := hv.2.2.2.2.2.2.2.2.2.1
  have c321 := hv.2.2.2.2.2.2.2.2.2.2.1
  have i11' := (i11_hi hv).2
  have bf : (B.i 22).toInt ≤ f.toInt := hD.2.2.2.2.1.2.2.2.1
  have j6 := j5.adc (n := n) ew13 (by rw [i7 44 (by decide) (by decide) (by decide)]; exact h44A) ⟨o13.1, by rw [i722]; exact o13.2, by rw [i722]; omega⟩ (by rw [i722]; omega) (by omega) bf (fun y hy y8 M' hM' => by
    obtain ⟨z, hz, e9, z8⟩ := hm8 y hy y8
    have h5z := hc.2.2.2.2.1 z (List.mem_cons_of_mem _ hz) z8
    have e66' : (vw S s z).2.1 66 = s.a 66 (ceT z) := (vw_at (k := 66) ⟨by decide, by decide⟩)
    rw [e9, e66'] at hM'
    rw [e9, usa', usa 28 (by decide) (by decide)]
    have nl : ¬ (s.a 66 (ceT z)).toNatClampNeg ∈ l1 := fun w => by
      have z1 := (k2l _ w).1
      have z2 : (s.a 66 (ceT z)).toInt.toNat = (s.a 66 (ceT z)).toNatClampNeg := rfl
      rw [← z2, h5z.2.2] at z1
      cases z1
    rw [usa', us22, x4' _ nl] at hM'
    have hM2 : chn s (s.a 22 (s.a 66 (ceT z)).toNatClampNeg) M' := chn.up (s := us') (u := s) (by rw [usi' 24 (by decide)]; exact Int.le_refl _) (fun j _ => by rw [usa', usa 27 (by decide) (by decide)]) M' _ hM'
    exact (STK.nd8 (c :: L) _ _ _ stl z hz z8 M' hM2).1)
  have j7 := JRG.aim (W1 := []) (W2 := []) (K' := fun FC SF nm X ω j Z => (cTg SF (S.o c1.2.1 9)).toInt = ((pcC w13.2 : Nat) : Int) ∧ (ADK w7.2 f n tg SF (pcC w7.2) ∧ pcC w7.2 + 2 * n + 2 ≤ 1200 ∧ pcC w13.2 = pcC w7.2 + 2 * n + 2) ∧ (cTg SF (S.o c1.2.1 10)).toInt = ((pcC w2.2 : Nat) : Int) ∧ (SF.a 15 (pcC X1) = 30 ∧ SF.a 16 (pcC X1) = S.o c1.2.1 9 ∧ pcC X1 < 1200 ∧ pcC w2.2 = pcC X1 + 1) ∧ j.h ≤ 450 ∧ KCL8 (b.i 24).toInt U (vw S s c1) S s us (s.i 20) 0 (s.a 22 (s.a 66 (ceT c1)).toNatClampNeg) FC SF nm X ω j Z) j6 ew18 (by rw [adc_44 N w7.2 f w13 ew13, i7 44 (by decide) (by decide) (by decide)]; exact h44A) (by omega) (fun FC SF nm X ω j Z h k => ⟨h, k⟩)
  rw [hP] at j7
  have Vi : ∀ k : Nat, k ≠ 19 → k ≠ 63 → k ≠ 75 → V.i k = qq.i k := fun k h1 h2 h3 => by
    rw [hVW, We]
    exact ((if_neg h1).trans (if_neg h2)).trans (if_neg h3)
  have Va : V.a = p25.a := by
    rw [hVW, We]
    exact qqr.2.1.trans s9a.1
  have V19 : V.i 19 = w := by rw [hVW, We, hw]; rfl
  have Vs : ∀ k : Nat, k ≠ 19 → k ≠ 63 → k ≠ 75 → k ≠ 38 → k ≠ 43 → V.i k = q.i k := fun k h1 h2 h3 h4 h5 => by
    rw [Vi k h1 h2 h3]
    by_cases z : k = 52
    · rw [z, qq52, s9i]
    · rw [qqi k h4 h5 z, s9i]
  have pq : ∀ k : Nat, k ≠ 22 → k ≠ 23 → p25.a k = q.a k := fun k h1 h2 => (p25a k h1).trans (q23a k h2)
  have qV : qe V = qe us' := by
    unfold qe
    rw [Va, usa', us22, us23, Vs 20 (by decide) (by decide) (by decide) (by decide) (by decide), Vs 24 (by decide) (by decide) (by decide) (by decide) (by decide), Vs 29 (by decide) (by decide) (by decide) (by decide) (by decide), Vs 33 (by decide) (by decide) (by decide) (by decide) (by decide), Vs 42 (by decide) (by decide) (by decide) (by decide) (by decide), Vs 52 (by decide) (by decide) (by decide) (by decide) (by decide), pq 21 (by decide) (by decide), pq 25 (by decide) (by decide), pq 26 (by decide) (by decide), pq 27 (by decide) (by decide), pq 28 (by decide) (by decide), pq 30 (by decide) (by decide), pq 31 (by decide) (by decide), pq 32 (by decide) (by decide), pq 34 (by decide) (by decide), pq 35 (by decide) (by decide), pq 36 (by decide) (by decide), pq 37 (by decide) (by decide), usa 21 (by decide) (by decide), usa 25 (by decide) (by decide), usa 26 (by decide) (by decide), usa 27 (by decide) (by decide), usa 28 (by decide) (by decide), usa 30 (by decide) (by decide), usa 31 (by decide) (by decide), usa 32 (by decide) (by decide), usa 34 (by decide) (by decide), usa 35 (by decide) (by decide), usa 36 (by decide) (by decide), usa 37 (by decide) (by decide), usi' 20 (by decide), usi' 24 (by decide), usi' 29 (by decide), usi' 33 (by decide), usi' 42 (by decide), usi' 52 (by decide), o1, o2, o3', o4', o5', o6, o7, o10, o11, o12, o13', o14, o15, o16, o17, o18, o19, o20]
  obtain ⟨-, -, -, -, -, -, -, y38, -, y43, -, -, -, -, -, y59, -, -, -, -, -, -, -, -, -, -, -, ya40, -, -, -, z47, z48, z49, z50, z51, -, -, z60, z61, z62, -⟩ := qj_eq a2
  have nvs : NMV s q := NMV.tr ⟨vi 38 (by decide) (by decide), fun j _ => by rw [vaa 40 (by decide)]⟩ (NMV.tbk tk)
  have fin36 : (s.a 50 (ceG c1) = 1 → vv = 1) ∧ (S.i 36 = 1 → vv = 1) ∧ ((S.o c1.2.1 11).toInt < 0 → vv = 1) := by
    rcases hcase with ⟨z1, z2⟩ | ⟨z1, z2, z3⟩ | ⟨z1, z2, z3⟩
    · exact ⟨fun _ => z2, fun _ => z2, fun _ => z2⟩
    · exact ⟨fun _ => z3, fun _ => z3, fun _ => z3⟩
    · exact ⟨fun w => z3.trans w, fun w => by rw [z1] at w; exact absurd w (by decide), fun w => by omega⟩
  have jr := j7.popv (R := R.2) (V := V) (v := vv) (by omega) (Or.inl (by omega)) (by rw [hRr, p1']; rfl) (by rw [hRr, p1']; rfl) (by rw [hRr, p1']; rfl) (by rw [hRr, p1']; rfl) (by rw [hRr, p1']; rfl) (by rw [hRr, p1']; rfl) qV (by
    rw [Vi 38 (by decide) (by decide) (by decide), qq38, eo1, usi' 38 (by decide), ← hv.2.1.1]
    exact (ob.1 c1 List.mem_cons_self).2) (by rw [Va, usa', usa 40 (by decide) (by decide), pq 40 (by decide) (by decide), ya40, vaa 40 (by decide)]) (fun y hy gy => by
    have := gis y hy gy
    have := tp.2.1
    rw [Vi 43 (by decide) (by decide) (by decide), qq43, g43, s43]
    omega) (by
    rw [Va, usa', usa 47 (by decide) (by decide), usa 48 (by decide) (by decide), usa 49 (by decide) (by decide), usa 50 (by decide) (by decide), usa 51 (by decide) (by decide), usa 60 (by decide) (by decide), usa 61 (by decide) (by decide), usa 62 (by decide) (by decide), pq 47 (by decide) (by decide), pq 48 (by decide) (by decide), pq 49 (by decide) (by decide), pq 50 (by decide) (by decide), pq 51 (by decide) (by decide), pq 60 (by decide) (by decide), pq 61 (by decide) (by decide), pq 62 (by decide) (by decide)]
    exact ⟨z47.trans (vaa 47 (by decide)), z48.trans (vaa 48 (by decide)), z49.trans (vaa 49 (by decide)), z50.trans (vaa 50 (by decide)), z51.trans (vaa 51 (by decide)), z60.trans (vaa 60 (by decide)), z61.trans (vaa 61 (by decide)), z62.trans (vaa 62 (by decide))⟩) (by
    rw [Vs 59 (by decide) (by decide) (by decide) (by decide) (by decide), usi' 59 (by decide), y59]
    exact vi 59 (by decide) (by decide)) (by
    rw [Vs 11 (by decide) (by decide) (by decide) (by decide) (by decide), usi' 11 (by decide)]
    rw [n8] at a5
    omega) (by rw [V19, usw]; exact Int.le_refl _) (fun FC SF nm X ω j Z hω r12 hcc k cur => by
    obtain ⟨ct9, ⟨⟨ad1', ad2', ad3', ad4'⟩, p12, pe13⟩, ct10, ⟨s1', s2', s3', pe2⟩, h450, ⟨st, -, -, -⟩, G', -, hY, hX, h8'⟩ := k
    obtain ⟨t23, -, tM⟩ := h8' hr0
    obtain ⟨M0, g1, ⟨g2', g3, g4, g6⟩, g5⟩ := (h8' hr0).2.1
    rw [r66] at g1 t23 tM
    have eM0 := chn.uq _ _ _ g1 y2
    rw [eM0] at g5 g6
    have g6' : 0 ≤ (S.o c1.2.1 11).toInt ↔ ∃ j ∈ M, ¬ s.a 28 j = 0 := g6
    have tM := tM M y2
    rw [r13] at g5
    have pc7 : pcC w7.2 = pcC S + 1 := by
      rw [show pcC w7.2 = pcC w2.2 by unfold pcC; rw [am7.1], pe2, pcX]
    have pcP : pcC P = pcC S + 1 + 2 * n + 2 := by
      rw [← hP, show pcC w18.2 = pcC w13.2 by unfold pcC; rw [(aim_eq ew18).1], pe13, pc7]
    have ct9' : (cTg SF (S.o c1.2.1 9)).toInt = ((pcC S + 1 + 2 * n + 2 : Nat) : Int) := by rw [ct9, pe13, pc7]
    have ct10' : (cTg SF (S.o c1.2.1 10)).toInt = ((pcC S + 1 : Nat) : Int) := by rw [ct10, pe2, pcX]
    have prU : pcR us' = pcR s := by
      unfold pcR
      rw [usi' 20 (by decide)]
    rw [pcP, prU] at cur
    rw [pcX] at s1' s2' s3'
    rw [pc7] at ad1' ad2' ad3' ad4' p12
    have p20 := hv.p20
    have ps : (s.i 20).toInt = ((pcR s : Nat) : Int) := (Int.toNat_of_nonneg p20.1).symm
    have bkj : jbk G' ω (vw S s c1) j = j := if_neg (by rw [hr0]; decide)
    have jl : jlv (vw S s c1).v = 1264 := by rw [hr0]; rfl
    have hc1 : ∀ (p : Nat) (h : Nat), p < 1200 → j.h ≤ h → HC1 nm p (pcR s) h j.c := fun p h hp hh => ⟨⟨hp, by omega⟩, hcc.up hh⟩
    -- what holds for every Y
    have ex : ∀ Y : Als, S01 (GU FC SF U nm X) (GU FC SF U nm Y) → vv = 1 → GU FC SF U nm Y (pcC S + 1 + 2 * n + 2) (pcR s) j.h (ω + j.l - (pcC S + 1 + 2 * n + 2)) 0 j.c := fun Y sy hv1 => sy _ _ _ _ _ _ (Nat.zero_le _) (cur hv1).1
    have jcu : ∀ Y : Als, S01 (GU FC SF U nm X) (GU FC SF U nm Y) → JCU FC SF U nm Y G' ω (vw S s c1) j S s := fun Y sy h1 => by
      rw [en, jl]
      have z : ∀ g : Nat, GU FC SF U nm Y (pcC S) (pcR s) j.h (ω + (j.l + 1264) - pcC S) g ([] ++ j.c) := fun g => gi_UCgo (hc1 _ _ s3' (Nat.le_refl _)) ⟨s1', pcC S + 1 + 2 * n + 2, ω + j.l - (pcC S + 1 + 2 * n + 2), by rw [s2']; exact ct9', by omega, ex Y sy (fin36.2.1 h1)⟩
      exact ⟨z 0, z 1⟩
    have jgv : ∀ Y : Als, S01 (GU FC SF U nm X) (GU FC SF U nm Y) → JGV FC SF U nm Y G' ω (vw S s c1) j s (s.i 20) 0 := fun Y sy => ⟨fun fl => by
      rw [bkj]
      have fl' : s.a 50 (ceG c1) = 1 := fl
      exact ⟨_, _, ct9', ps, ex Y sy (fin36.1 fl')⟩, fun lo => absurd lo nlo⟩
    have jrh : ∀ Y : Als, SWH FC SF U nm Y G' ω (vw S s c1) j → JRH FC SF U nm Y G' noc noy ω (vw S s c1) j := fun Y z => ⟨fun z => absurd (hr0.symm.trans z) (by decide), fun z => absurd (hr0.symm.trans z) (by decide), fun z => absurd (hr0.symm.trans z) (by decide), fun z => absurd (hr0.symm.trans z) (by decide), fun z => absurd (hr0.symm.trans z) (by decide), fun z => absurd (hr0.symm.trans z) (by decide), fun _ => z, fun z => absurd z nty, fun _ => noc.gl⟩
    have sx : S01 (GU FC SF U nm X) (GU FC SF U nm X) := fun _ _ _ _ _ _ _ z => z
    have swh : SWH FC SF U nm X G' ω (vw S s c1) j := by
      unfold SWH
      rw [r66]
      refine gu_acc2 (P := fun p q h w g c => p = (G' (vw S s c1).2.2.1).1 ∧ q = (s.a 66 (ceT c1)).toNatClampNeg ∧ h = j.h + 1 ∧ w = ω + j.l + 2528 - (G' (vw S s c1).2.2.1).1 ∧ g = 0 ∧ c = j.c) (fun p q h w g c z => by rw [z.2.2.2.2.1]; exact Nat.zero_le _) (fun p q h w g c z => ?_) _ _ _ _ _ _ ⟨rfl, rfl, rfl, rfl, rfl, rfl⟩
      obtain ⟨rfl, rfl, rfl, rfl, rfl, rfl⟩ := z
      obtain ⟨Y, hYe⟩ : ∃ Y, Y = UN2 (G01 FC SF U nm X) (fun p q h w g c => p = (G' (vw S s c1).2.2.1).1 ∧ q = (s.a 66 (ceT c1)).toNatClampNeg ∧ h = j.h + 1 ∧ w = ω + j.l + 2528 - (G' (vw S s c1).2.2.1).1 ∧ g = 0 ∧ c = j.c) := ⟨_, rfl⟩
      have sy : S01 (GU FC SF U nm X) (GU FC SF U nm Y) := fun _ _ _ _ _ _ l z => by
        rw [hYe]
        exact G01.up z l
      have sw' : SWH FC SF U nm Y G' ω (vw S s c1) j := by
        unfold SWH
        rw [hYe, r66]
        exact G01.new ⟨rfl, rfl, rfl, rfl, rfl, rfl⟩
      obtain ⟨swe, f15, f16, f12, f21, f20, f30⟩ := (hY Y sy (jrh Y sw') (fun _ => jgv Y sy) (jcu Y sy)).2.2.2.2 hr0
      rw [r66] at f21 f20
      rw [← hYe]
      have pair : ∀ (T : Int32) (v : Int32) (z : Int32 × Nat), z ∈ (G' (vw S s c1).2.2.1).2.2 → z.1 = T → v.toInt = (z.2 : Int) → JX SF (GU FC SF U nm Y) T v j.h (ω + j.l + 2528 - (G' (vw S s c1).2.2.1).1) (2 * n + 3) 0 j.c := fun T v z hz h1 h2 => by
        obtain ⟨p, z1, z2, z3⟩ := swe z hz
        rw [h1] at z1
        exact ⟨p, z.2, _, ⟨z1, h2⟩, by omega, z3⟩
      refine gs_swi (n := n) (L := M) (d := pcC S + 1) ⟨⟨f12, by omega⟩, hcc.up (Nat.le_succ _)⟩ f20 f15 (by rw [f16]; exact ct10') ⟨by omega, fun i hi => ⟨(ad1' i hi).1.1, (ad1' i hi).2.1⟩, ad2', ad3'⟩ (by omega) (by
        have e9 := st (s.a 66 (ceT c1)).toNatClampNeg ((si _).mpr c6)
        rw [e9]
        exact chn.chl M _ y2 (fun j hj => (tM j hj).2.2.1)) (by omega) f21 ⟨fun i hi => ?_, fun k hk h28 => ?_, fun k hk h28 i hi hv9 => ?_, fun k hk h28 => ?_⟩ (fun hall => ?_)
      · obtain ⟨k, k1, k2, k3⟩ := (y1.2.2 (S.a 18 (f.toInt + i).toNat)).mp ⟨(f.toInt + i).toNat, by have := y1.1; omega, by have := y1.1; omega, rfl⟩
        exact ⟨k, k1, by rw [(tM k k1).2.2.2]; exact k2, by rw [(tM k k1).1, k3, (ad1' i hi).1.2, a7' 18 (by decide) (by decide) (by decide), a9.1]⟩
      · rw [(tM k hk).2.2.2] at h28
        obtain ⟨i, i1, i2, i3⟩ := (y1.2.2 (s.a 25 k)).mpr ⟨k, hk, h28, rfl⟩
        have f0 := y1.1
        refine ⟨i - f.toInt.toNat, by omega, ?_⟩
        have hi : i - f.toInt.toNat < n := by omega
        rw [(ad1' _ hi).1.2, a7' 18 (by decide) (by decide) (by decide), a9.1, (tM k hk).1, show (f.toInt + ((i - f.toInt.toNat : Nat) : Int)).toNat = i by omega]
        exact i3
      · rw [(tM k hk).2.2.2] at h28
        rw [(ad1' i hi).1.2, a7' 18 (by decide) (by decide) (by decide), a9.1, (tM k hk).1] at hv9
        have f0 := y1.1
        have ix := y1.2.1.2.2 (f.toInt + i).toNat k (by omega) (by omega) hk h28 hv9
        obtain ⟨z, z1, z2, z3⟩ := (g5 k hk).2.1 h28
        refine pair _ _ z z1 ?_ (by rw [(tM k hk).2.1]; exact z3)
        rw [z2, (ad1' i hi).2.2, a7' 19 (by decide) (by decide) (by decide), (pe_eq (ke_X9_advance N S A eA)).2.2.2.2.2.2.2]
        congr 1
        have ck := clampI f0
        omega
      · rw [(tM k hk).2.2.2] at h28
        obtain ⟨z, z1, z2, z3⟩ := (g5 k hk).2.2 h28
        refine pair _ _ z z1 ?_ (by rw [(tM k hk).2.1]; exact z3)
        have z2' : z.1 = S.o c1.2.1 11 := z2
        rw [ad4', z2']
        rcases htg with ⟨t1', -⟩ | ⟨-, t2'⟩
        · exfalso
          have := g6'.mpr ⟨k, hk, h28⟩
          omega
        · exact t2'.symm
      · rw [ad4']
        rcases htg with ⟨t1', t2'⟩ | ⟨t1', -⟩
        · refine ⟨pcC S + 1 + 2 * n + 2, pcR s, ω + j.l - (pcC S + 1 + 2 * n + 2), ⟨by rw [t2']; exact ct9', ?_⟩, by omega, ex Y sy (fin36.2.2 t1')⟩
          rw [t23, us23, p23, if_pos rfl]
          exact ps
        · exfalso
          obtain ⟨k, hk, h28⟩ := g6'.mp t1'
          exact h28 (by rw [← (tM k hk).2.2.2]; exact hall k hk)
    exact hX (jrh X swh) (fun _ => jgv X sx) (jcu X sx))
  rw [clo_veq hD tp lk (fun j hj => by
    rw [Va, pq 40 (by omega) (by omega)]
    exact nvs.2 j hj) (fun y hy => by
    rw [hRr, p1']
    show P.o y.2.1 = S.o y.2.1
    rw [zp2]
    show A.2.o y.2.1 = S.o y.2.1
    rw [eoA]) (fun k t h1 h2 h3 => by
    rw [Va, pq k (by omega) (by omega), (FRB.of a2 : FRB (ceT c1) V0 q).fld k t h1 h2 h3]
    exact fr0.fld k t h1 h2 h3)]
  exact jr
