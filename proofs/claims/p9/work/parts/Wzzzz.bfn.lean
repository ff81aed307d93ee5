/-! both readers: finally -/
theorem wp_less {d : Int32} {B : CS} {b : RS} {t0 : Nat} {L : List CEL} {x : Int} {S : CS} {s u : RS} {c1 c : CEL} (hC : COR d B b t0 (c1 :: c :: L) x S s) (tp : TOP S s c1) (bz : BAZ B b (c1 :: c :: L)) (h56 : (u.i 56).toInt = (ceW c1 : Int)) (h43 : u.i 43 = s.i 43) (h59 : u.i 59 = s.i 59) (h29 : u.i 29 = s.i 29) (a58 : u.a 58 = s.a 58) (a62 : u.a 62 = s.a 62) : WPI u ∧ (b.i 56).toInt ≤ (ceW c1 : Int) := by
  obtain ⟨m', e', k', -, lkl, stl⟩ := id hC.2.1
  obtain ⟨lk, lw⟩ := lkl c rfl
  have t1 := tp.1
  have n1 := lk.1
  have h5 := hC.2.2.2.2.1
  have h7 := hC.2.2.2.2.2.1.2.1
  obtain ⟨r1, r2, r3, r4, r5⟩ := BAZ.all h5 L c _ _ _ bz stl (by omega)
  have wl := WLT L c _ _ _ stl r3
  have l5 := lk.2.2.2.1
  have hwp := hC.1.wp
  have tbw := h7.2.2.2.2.2.1
  have gl := STK.gl L c _ _ _ stl r1
  have wb := BO2.wl L c _ _ _ stl r3
  refine ⟨⟨⟨by rw [h43]; exact hwp.1.1, by omega, fun z => ?_, by rw [h29]; exact hwp.1.2.2.2⟩, fun j hj => ?_⟩, by omega⟩
  · rw [a58, h43]
    rcases wl with ⟨w, hw, w1, w2, -⟩ | ⟨-, w2, w3⟩
    · obtain ⟨⟨-, z2⟩, -⟩ := stl.ty w hw w1
      have g3 := gl.2 w hw
      have tg := tp.2.1
      have en : ((u.i 56).toInt - 1).toNat = ceW w := by omega
      have l3 := lk.2.2.1
      rw [en, z2]
      omega
    · have en : ((u.i 56).toInt - 1).toNat = ((b.i 56).toInt - 1).toNat := by omega
      have y := (tbw ((b.i 56).toInt - 1).toNat (by omega)).2
      have z3 := w3 (by omega)
      have := h7.2.1
      rw [en, y]
      omega
  · rw [h59] at hj
    rw [a62, h29]
    exact hwp.2 j hj
/-- the tables are the same -/
theorem qj_a {s u : RS} (h : qj u = qj s) (k : Nat) (hk : k = 1 ∨ k = 4 ∨ k = 25 ∨ k = 27 ∨ k = 28 ∨ k = 30 ∨ k = 34 ∨ k = 37 ∨ k = 40 ∨ k = 41 ∨ k = 44 ∨ k = 46 ∨ k = 47 ∨ k = 48 ∨ k = 49 ∨ k = 50 ∨ k = 51 ∨ k = 57 ∨ k = 58 ∨ k = 60 ∨ k = 61 ∨ k = 62) : u.a k = s.a k := by
  obtain ⟨-, -, -, -, -, -, -, -, -, -, -, -, -, -, -, -, -, -, a1, a4, a25, -, a27, a28, a30, a34, a37, a40, a41, a44, a46, a47, a48, a49, a50, a51, a57, a58, a60, a61, a62, -, -, -, -, -, -, -, -, -, -, b9, b39, b45, b74⟩ := qj_eq h
  rcases hk with z | z | z | z | z | z | z | z | z | z | z | z | z | z | z | z | z | z | z | z | z | z
  · rw [z]; exact a1
  · rw [z]; exact a4
  · rw [z]; exact a25
  · rw [z]; exact a27
  · rw [z]; exact a28
  · rw [z]; exact a30
  · rw [z]; exact a34
  · rw [z]; exact a37
  · rw [z]; exact a40
  · rw [z]; exact a41
  · rw [z]; exact a44
  · rw [z]; exact a46
  · rw [z]; exact a47
  · rw [z]; exact a48
  · rw [z]; exact a49
  · rw [z]; exact a50
  · rw [z]; exact a51
  · rw [z]; exact a57
  · rw [z]; exact a58
  · rw [z]; exact a60
  · rw [z]; exact a61
  · rw [z]; exact a62
theorem qj_b {s u : RS} (h : qj u = qj s) : u.b 9 = s.b 9 ∧ u.b 39 = s.b 39 ∧ u.b 45 = s.b 45 := by
  obtain ⟨-, -, -, -, -, -, -, -, -, -, -, -, -, -, -, -, -, -, a1, a4, a25, -, a27, a28, a30, a34, a37, a40, a41, a44, a46, a47, a48, a49, a50, a51, a57, a58, a60, a61, a62, -, -, -, -, -, -, -, -, -, -, b9, b39, b45, b74⟩ := qj_eq h
  exact ⟨b9, b39, b45⟩
theorem ENW.th {d : Int32} {S : CS} {s : RS} {t : Nat} {a b : Int32} (h : ENW d S s) : ENW d S (TH s t a b) := h.kq rfl rfl rfl rfl rfl rfl rfl rfl rfl rfl rfl rfl rfl rfl rfl rfl rfl rfl rfl rfl ⟨h.2.2.2.2.2.2.1, h.2.2.2.2.2.2.2.1⟩ (h.wp.of (Int.le_refl _) rfl rfl rfl rfl rfl)
theorem ENW.sa {d : Int32} {S : CS} {s : RS} {k j : Nat} {v : Int32} (h : ENW d S s) (hk : k = 22 ∨ k = 31 ∨ (64 ≤ k ∧ k ≤ 73)) : ENW d S (RS.setA s k j v) := by
  have e : ∀ m : Nat, m ≠ k → (RS.setA s k j v).a m = s.a m := fun m hm => setA_nk hm
  exact h.kq rfl rfl rfl rfl rfl rfl rfl (e 1 (by omega)) (e 4 (by omega)) (e 41 (by omega)) rfl rfl rfl rfl rfl rfl rfl rfl rfl rfl ⟨h.2.2.2.2.2.2.1, h.2.2.2.2.2.2.2.1⟩ (h.wp.of (Int.le_refl _) rfl rfl rfl (e 58 (by omega)) (e 62 (by omega)))
set_option maxHeartbeats 4000000 in
theorem bg_fin {N : Nat} (hN : 1000 ≤ N) {d : Int32} {B : CS} {b : RS} {t0 n : Nat} {L : List CEL} {x : Int} {S : CS} {s U : RS} {c1 c : CEL} {R : Unit × CS} (hC : COR d B b t0 (c1 :: c :: L) x S s) (tp : TOP S s c1) (hM : MGU c1 S s) (n215 : ¬ S.i 43 = 215) (bz : BAZ B b (c1 :: c :: L)) (hT : t0 ≤ ceT c1) (e : f_X7_beginFinally N S c1.2.1 = some R) (g : f_X12_parse_10 N n s = some U) : (¬ R.2.i 32 = 0 ∧ ¬ U.i 15 = 0) ∨ ∃ (m : Nat) (u : RS), f_X12_parse_10 N m u = some U ∧ NEW d B b t0 c L R.2 u := by
  obtain ⟨h305, ts, c50, hk, -⟩ := hM
  have k216 : S.i 43 = 216 := hk.resolve_left n215
  have ty : isTy (S.o c1.2.1 0) := Or.inr (Or.inr (Or.inl h305))
  have ngo := ty_ngo ty
  have hv := hC.1
  have k10 := (tk_is hv (a := 216) (b := 426) (Or.inr ⟨by decide, by decide⟩) (by decide)).mp k216
  obtain ⟨T, hTc⟩ : ∃ T : Nat, T = ceT c1 := ⟨_, rfl⟩
  obtain ⟨m1, e1, k1, m2, e2, k2, cst⟩ := STK.mem _ _ _ _ hC.2.1 c1 List.mem_cons_self
  obtain ⟨⟨z64, zid, zwh, -⟩, -, -, zs305, -, zb⟩ := cst.2.2.1.2.2.2.2.2.2.2.2.2.2.2.2 ty
  rw [← hTc] at z64 zid zwh zs305 ts
  obtain ⟨z65, z68⟩ := zs305 h305
  have s50 := hv.2.1.1
  -- the reference
  obtain ⟨m2, V, hV, g2⟩ := rl_15 g ts hv.1.2.1 z64
  unfold f_X12_trying at hV
  obtain ⟨hib, hV⟩ := hf_ite hV
  rw [tp_nat ts, z65, if_neg (by decide), if_neg (by decide), if_pos rfl, if_neg (by rw [k10]; decide), if_pos k10] at hV
  obtain ⟨q, hq, hV⟩ := hf_bind hV
  obtain ⟨-, hV⟩ := hf_ite hV
  rw [ob_id] at hV
  -- the class
  unfold f_X7_beginFinally at e
  obtain ⟨-, e⟩ := hf_ite e
  obtain ⟨p2, e2', e⟩ := hf_bind e
  obtain ⟨p6, e6, e⟩ := hf_bind e
  obtain ⟨p10, e10, e⟩ := hf_bind e
  obtain ⟨-, e⟩ := hf_ite e
  obtain ⟨p15, e15, e⟩ := hf_bind e
  have hR : R.2 = CS.setI p15.2 36 1 := by rw [← Option.some.inj e]
  clear e
  obtain ⟨W, hW⟩ : ∃ W, W = CS.setO (CS.setO S c1.2.1 0 216) c1.2.1 15 (S.i 55) := ⟨_, rfl⟩
  have Wi : W.i = S.i := by rw [hW]; rfl
  have Wa : W.a = S.a := by rw [hW]; rfl
  have Wr : W.r = S.r ∧ W.ol = S.ol ∧ W.b = S.b ∧ W.l = S.l ∧ (W.hs = S.hs ∧ W.L = S.L ∧ W.k = S.k) := by
    rw [hW]
    exact ⟨rfl, rfl, rfl, rfl, rfl, rfl, rfl⟩
  have Wo : ∀ a : Nat, a ≠ c1.2.1 → W.o a = S.o a := fun a ha => by rw [hW, so_ne ha, so_ne ha]
  have Wk : ∀ k : Nat, k ≠ 0 → k ≠ 15 → W.o c1.2.1 k = S.o c1.2.1 k := fun k h0 h1 => by rw [hW, so_nk h1, so_nk h0]
  have W0 : W.o c1.2.1 0 = 216 := by rw [hW, so_nk (by decide), so_at]
  have W15 : W.o c1.2.1 15 = S.i 55 := by rw [hW, so_at]
  rw [← hW] at e2'
  clear hW
  -- the wall goes
  have nw1 : nWl (S.o c1.2.1 0) = 1 := by rw [h305]; rfl
  have tw := tp.2.2
  have w56 : (s.i 56 - 1).toInt = (ceW c1 : Int) := by
    have e1 : (1 : Int32).toInt = 1 := by decide
    have hi := Int32.toInt_lt (s.i 56)
    rw [toInt_sub] <;> rw [e1] <;> omega
  obtain ⟨wps, wb⟩ := wp_less hC tp bz (u := RS.setI s 56 (s.i 56 - 1)) w56 rfl rfl rfl rfl rfl
  have ew0 : ENW d S (RS.setI s 56 (s.i 56 - 1)) := hv.w.kq rfl rfl rfl rfl rfl rfl rfl rfl rfl rfl rfl rfl rfl rfl rfl rfl rfl rfl rfl rfl ⟨hv.2.2.2.2.2.2.1, hv.2.2.2.2.2.2.2.1⟩ wps
  have ew1 : ENW d W (RS.setI s 56 (s.i 56 - 1)) := ew0.gx (fun _ _ _ _ _ _ _ _ => by rw [Wi]) ⟨by rw [Wa], by rw [Wa], by rw [Wa]⟩ Wr.2.2.1 Wr.2.2.2.1 (by
    have z := ew0.sj
    unfold SJB at *
    rw [Wi]
    exact z) (by rw [Wi]; exact ew0.t21)
  obtain ⟨b1, b2, b3, b4, b5, b6, b7, b8, b9, b10, -, b12⟩ := ew1.adv hN (by rw [Wi, k216]; decide) e2' hq
  have b12' : (q.i 17).toInt = (s.i 17).toInt + 1 := b12
  have b5' : (s.i 11).toInt + 1 ≤ (q.i 11).toInt := b5
  have b6' : q.i 20 = s.i 20 := b6
  have b7' : q.a 22 = s.a 22 := b7
  have b10' : q.i 19 = s.i 19 := b10
  have tq : tpI q = (T : Int) := qj_63 b2 ts
  -- the block's frame
  obtain ⟨hVe, t99⟩ := r_then (s := RS.setA q 31 (q.a 66 T).toNatClampNeg (q.i 20)) tq hV
  have ewV : ENW d p2.2 V := by rw [hVe]; exact (b1.sa (Or.inr (Or.inl rfl))).th
  have tV : tpI V = ((T + 1 : Nat) : Int) := by rw [hVe]; exact TH.tp (u := RS.setA q 31 (q.a 66 T).toNatClampNeg (q.i 20)) tq (by omega)
  have V64 : V.a 64 (T + 1) = 3 := by rw [hVe]; exact TH.fk
  have V65 : V.a 65 (T + 1) = 0 := by rw [hVe]; exact TH.fs
  have V65' : V.a 65 T = 4 := by rw [hVe]; exact TH.st
  have V64' : V.a 64 T = q.a 64 T := by
    rw [hVe, TH.fk0 (Nat.le_refl T), setA_nk (by decide)]
  have Vk : ∀ k : Nat, k ≠ 31 → k ≠ 64 → k ≠ 65 → V.a k = q.a k := fun k h1 h2 h3 => by
    rw [hVe, TH.loc h2 h3, setA_nk h1]
  have Vi : ∀ k : Nat, k ≠ 63 → V.i k = q.i k := fun k h => by
    rw [hVe]
    exact if_neg h
  have Vb : V.b = q.b := by rw [hVe]; rfl
  have frV : FRB T q V := by
    rw [hVe]
    exact (show FRB T q (RS.setA q 31 (q.a 66 T).toNatClampNeg (q.i 20)) from fun j _ => ⟨by rw [setA_nk (by decide)], by rw [setA_nk (by decide)], by rw [setA_nk (by decide)], by rw [setA_nk (by decide)], by rw [setA_nk (by decide)], by rw [setA_nk (by decide)], by rw [setA_nk (by decide)], by rw [setA_nk (by decide)], by rw [setA_nk (by decide)], by rw [setA_nk (by decide)], rfl⟩).tr TH.frb
  clear hVe hV
  obtain ⟨m3, V2, hV2, g3⟩ := rl_3 g2 tV ewV.1.2.1 V64
  unfold f_X12_block at hV2
  obtain ⟨-, hV2⟩ := hf_ite hV2
  rw [tp_nat tV, if_pos V65] at hV2
  obtain ⟨p5, hp5, hV2⟩ := hf_bind hV2
  rw [ob_id] at hV2
  rcases w_open hN ewV (c := 123) (d := 123) (Or.inl ⟨by decide, by decide⟩) (by decide) (by decide) (by decide) e6 hp5 with ⟨o1, o2, o3⟩ | ⟨o1, o2, o3, o4, o5, o6, o7, o8, o9, o10, o11, o12, o13, o14⟩
  · refine Or.inl ⟨?_, u_flt g3 (krf_f_X12_then N _ 1 1 V2 hV2 (show ¬ (RS.setA p5.2 66 (T + 1) (p5.2.i 38)).i 15 = 0 from o3))⟩
    have z1 : ¬ p10.2.i 32 = 0 := by rw [kF_X0_add N p6.2 _ _ p10 e10 o2]; exact o2
    have z2 : ¬ p15.2.i 32 = 0 := by rw [kF_X0_aim N p10.2 _ p15 e15 z1]; exact z1
    rw [hR]
    exact z2
  refine Or.inr ?_
  have tp5 : tpI p5.2 = ((T + 1 : Nat) : Int) := qj_63 o4 tV
  obtain ⟨hue, t98⟩ := r_then (s := RS.setA p5.2 66 (T + 1) (p5.2.i 38)) tp5 hV2
  -- the class's last state
  have kd15 : pj2 p15.2 = pj2 p6.2 := (kd_X0_aim N _ _ p15 e15).trans (kd_X0_add N _ _ _ p10 e10)
  obtain ⟨⟨z1, z2, z3, z4⟩, ⟨z5, z6⟩, ⟨z7, z8, z9, z10, z11⟩, ⟨z12, z13, z14, z15, z16, z17, z18⟩⟩ := kd_all kd15
  obtain ⟨-, -, -, -, -, -, -, -, -, -, q36, -, q38, q50, q53, q54, q55, q56, -, -, -, -, q52, qr, qo, qol, -, q21, qhk⟩ := pj_eq o5
  obtain ⟨-, -, -, -, -, -, -, -, -, -, r36, -, r38, r50, r53, r54, r55, r56, -, -, -, -, r52, rr', ro, rol, -, r21, rhk⟩ := pj_eq b3
  obtain ⟨X, hX⟩ : ∃ X, X = CS.setI p15.2 36 1 := ⟨_, rfl⟩
  rw [← hX] at hR
  have Xi : ∀ k : Nat, k ≠ 36 → X.i k = p15.2.i k := fun k hk => by
    rw [hX]
    exact ci_ne _ _ _ hk
  have X36 : X.i 36 = 1 := by rw [hX, ci_at]
  have Xo : X.o = W.o := by
    rw [hX]
    show p15.2.o = _
    rw [z2, qo, ro]
  have Xr : X.r = S.r := by
    rw [hX]
    show p15.2.r = _
    rw [z1, qr, rr', Wr.1]
  have Xol : X.ol = S.ol := by
    rw [hX]
    show p15.2.ol = _
    rw [z3, qol, rol, Wr.2.1]
  have Xhk : X.hs = S.hs ∧ X.L = S.L ∧ X.k = S.k := by
    rw [hX]
    show p15.2.hs = _ ∧ p15.2.L = _ ∧ p15.2.k = _
    rw [z4.1, z4.2.1, z4.2.2, qhk.1, qhk.2.1, qhk.2.2, rhk.1, rhk.2.1, rhk.2.2]
    exact Wr.2.2.2.2
  have X18 : X.a 18 = S.a 18 := by
    rw [hX]
    show p15.2.a 18 = _
    rw [z5, o11.1, b9.1, Wa]
  have X52 : X.a 52 = S.a 52 := by
    rw [hX]
    show p15.2.a 52 = _
    rw [z6, q52, r52, Wa]
  have X22 : X.i 22 = S.i 22 := by rw [Xi 22 (by decide), z8, o10, b8, Wi]
  have X21 : X.i 21 = S.i 21 := by rw [Xi 21 (by decide), z7, q21, r21, Wi]
  have X38 : X.i 38 = S.i 38 := by rw [Xi 38 (by decide), z11, q38, r38, Wi]
  have X50 : X.i 50 = S.i 50 := by rw [Xi 50 (by decide), z14, q50, r50, Wi]
  have X53 : X.i 53 = S.i 53 := by rw [Xi 53 (by decide), z15, q53, r53, Wi]
  have X54 : X.i 54 = S.i 54 := by rw [Xi 54 (by decide), z16, q54, r54, Wi]
  have X55 : X.i 55 = S.i 55 := by rw [Xi 55 (by decide), z17, q55, r55, Wi]
  have X56 : X.i 56 = S.i 56 := by rw [Xi 56 (by decide), z18, q56, r56, Wi]
  have ewX : ENW d X p5.2 := by
    rw [hX]
    refine (o3.kd kd15).gx (fun j _ q2 _ _ _ _ _ => ci_ne _ _ _ q2) ⟨rfl, rfl, rfl⟩ rfl rfl ?_ (o3.kd kd15).t21
    exact (o3.kd kd15).sj
  clear hX
  have V11 : V.i 11 = q.i 11 := Vi 11 (by decide)
  have V17 : V.i 17 = q.i 17 := Vi 17 (by decide)
  have k11 := hv.1.2.2.2.1.1
  have k11X := ewX.1.2.2.2.1.1
  rw [V11] at o7
  rw [V17] at o13
  have Xo1 : ∀ a : Nat, a ≠ c1.2.1 → X.o a = S.o a ∧ X.ol a = S.ol a := fun a ha => ⟨by rw [Xo, Wo a ha], by rw [Xol]⟩
  have Xk : ∀ k : Nat, k ≠ 0 → k ≠ 15 → X.o c1.2.1 k = S.o c1.2.1 k := fun k h0 h1 => by rw [Xo, Wk k h0 h1]
  have X0 : X.o c1.2.1 0 = 216 := by rw [Xo]; exact W0
  have tyX : isTy (X.o c1.2.1 0) := Or.inr (Or.inr (Or.inr X0))
  -- the rows are paid
  have cn : cnI S = (c1.1 : Int) + 1 := tp.1
  have rwX : RWI X := by
    refine hv.ri.srt (n := c1.1) (a := c1.2.1) cst.2.1 cn cst.1 Xr (fun a ha => (Xo1 a ha).1) Xol X53 Xhk ⟨by rw [h305]; decide, by rw [h305]; decide, by rw [h305]; decide, by rw [h305]; decide⟩ ⟨by rw [X0]; decide, by rw [X0]; decide, by rw [X0]; decide, by rw [X0]; decide⟩ ?_ ?_
    · have tn : (cnI S).toNat = c1.1 + 1 := by omega
      have z := hv.ri.2.2.2.2.2.2
      rw [tn] at z
      have e2 : SGS S (c1.1 + 1) = SGS S c1.1 + sgn S (rowA S c1.1) := rfl
      have ra : rowA S c1.1 = c1.2.1 := by
        unfold rowA
        rw [cst.1]
        rfl
      have s0 : sgn S c1.2.1 = 0 := by
        unfold sgn
        rw [h305]
        rfl
      have s1 : sgn X c1.2.1 = 1 := by
        unfold sgn
        rw [X0]
        rfl
      rw [ra, s0] at e2
      have f1 : sgI S = (s.i 19).toInt := by
        unfold sgI
        rw [hv.2.2.1.1]
      have f2 : sgI X = (p5.2.i 19).toInt := by
        unfold sgI
        rw [ewX.2.2.1.1]
      have f3 : (V.i 19).toInt = (s.i 19).toInt := by rw [Vi 19 (by decide), b10']
      rw [s1, f2]
      omega
    · have a1 := (eI.ge S).2
      have a2 := (eI.ge X).1
      unfold plI at a1 a2
      rw [k11] at a1
      rw [k11X] at a2
      omega
  have evX : ENV d X p5.2 := ewX.v rwX
  -- the last state of the reference
  obtain ⟨u, hu⟩ : ∃ y, y = TH (RS.setA p5.2 66 (T + 1) (p5.2.i 38)) (T + 1) 1 1 := ⟨_, rfl⟩
  have evu : ENV d X u := by rw [hu]; exact (setA_env (Or.inr ⟨by decide, by decide⟩) evX).th
  have ku : TBK p5.2 u := by rw [hu]; exact (setA_tbk ⟨by decide, by decide⟩).tr TH.tbk
  have fu : FRB (T + 1) p5.2 u := by rw [hu]; exact (setA_frb (Or.inr ⟨by decide, by decide, Nat.le_refl _⟩)).tr TH.frb
  have iu : ∀ k : Nat, k ≠ 63 → u.i k = p5.2.i k := by
    rw [hu]
    exact fun k h => if_neg h
  have u641 : u.a 64 (T + 1) = 3 := by
    rw [hu, TH.fk0 (Nat.le_refl _), setA_nk (by decide), (FRB.of o4 : FRB (T + 1 + 1) V p5.2).all 64 (by decide) (by decide)]
    exact V64
  have u651 : u.a 65 (T + 1) = 1 := by rw [hu]; exact TH.st
  have u661 : u.a 66 (T + 1) = p5.2.i 38 := by
    rw [hu, TH.loc (by decide) (by decide)]
    exact setA_at
  have u642 : u.a 64 (T + 1 + 1) = 1 := by rw [hu]; exact TH.fk
  have u652 : u.a 65 (T + 1 + 1) = 0 := by rw [hu]; exact TH.fs
  have tu : tpI u = ((T + 1 + 1 : Nat) : Int) := by rw [hu]; exact TH.tp (u := RS.setA p5.2 66 (T + 1) (p5.2.i 38)) tp5 (by omega)
  have ub : ∀ k : Nat, k ≠ 64 → k ≠ 65 → k ≠ 66 → u.a k = p5.2.a k := fun k h1 h2 h3 => by
    rw [hu, TH.loc h1 h2, setA_nk h3]
  have ubx : u.b = p5.2.b := by rw [hu]; rfl
  rw [hue, ← hu] at g3
  clear hu hue hV2
  have p5i := qj_eq o4
  have i29 : u.i 29 = s.i 29 := by rw [iu 29 (by decide), p5i.2.2.2.2.2.1, Vi 29 (by decide), (qj_eq b2).2.2.2.2.2.1]; rfl
  -- from s to u
  have fs : FRB (T + 1) V u := (FRB.of o4 : FRB (T + 1) V p5.2).tr fu
  have frs : FRB T s u := by
    have z1 : FRB T s q := by
      have z : FRB T (RS.setI s 56 (s.i 56 - 1)) q := FRB.of b2
      exact z
    exact (z1.tr frV).tr (fs.mo (by omega))
  have mf : ∀ k : Nat, 64 ≤ k → k ≤ 73 → k ≠ 65 → u.a k T = s.a k T := fun k h1 h2 h3 => by
    have z : q.a k T = s.a k T := (FRB.of b2 : FRB (T + 1) (RS.setI s 56 (s.i 56 - 1)) q).all k h1 h2
    rw [fs.all k h1 h2]
    by_cases y : k = 64
    · rw [y] at z ⊢
      rw [V64']
      exact z
    · rw [Vk k (by omega) y h3]
      exact z
  have u65 : u.a 65 T = 4 := by rw [fs.all 65 (by decide) (by decide)]; exact V65'
  have tsq : TBZ (RS.setI s 56 (s.i 56 - 1)) q := TBZ.of b2
  have tVq : TBR q V := by
    unfold TBR
    rw [Vi 59 (by decide), Vi 29 (by decide), Vi 33 (by decide), Vi 24 (by decide), Vb]
    exact ⟨fun j _ => ⟨rfl, by rw [Vk 40 (by decide) (by decide) (by decide)], by rw [Vk 41 (by decide) (by decide) (by decide)]⟩, fun j _ => ⟨by rw [Vk 44 (by decide) (by decide) (by decide)], rfl, by rw [Vk 46 (by decide) (by decide) (by decide)], by rw [Vk 47 (by decide) (by decide) (by decide)], by rw [Vk 50 (by decide) (by decide) (by decide)], by rw [Vk 51 (by decide) (by decide) (by decide)], by rw [Vk 48 (by decide) (by decide) (by decide)], by rw [Vk 49 (by decide) (by decide) (by decide)]⟩, fun j _ => ⟨by rw [Vk 57 (by decide) (by decide) (by decide)], by rw [Vk 58 (by decide) (by decide) (by decide)]⟩, ⟨Int.le_refl _, fun j k1 k2 => by omega⟩, fun j _ => ⟨by rw [Vk 60 (by decide) (by decide) (by decide)], by rw [Vk 61 (by decide) (by decide) (by decide)], by rw [Vk 62 (by decide) (by decide) (by decide)]⟩, Int.le_refl _, fun j _ => by rw [Vk 30 (by decide) (by decide) (by decide)], Int.le_refl _, fun j _ => ⟨by rw [Vk 34 (by decide) (by decide) (by decide)], by rw [Vk 37 (by decide) (by decide) (by decide)]⟩, Int.le_refl _, fun j _ => ⟨by rw [Vk 25 (by decide) (by decide) (by decide)], by rw [Vk 27 (by decide) (by decide) (by decide)], by rw [Vk 28 (by decide) (by decide) (by decide)]⟩⟩
  have tVu : TBZ V u := (TBZ.of o4).tr ku.1
  obtain ⟨c1', c2', c3', c4', c5', c6', c7', c8', c9', c10'⟩ := tsq.1
  obtain ⟨d1, d2, d3, d4, d5, d6, d7, d8, d9, d10⟩ := tVu.1
  have c4'' : q.i 38 = s.i 38 := c4'
  have c5'' : q.i 43 = s.i 43 := c5'
  have c7'' : q.i 56 = s.i 56 - 1 := c7'
  have V38 : V.i 38 = s.i 38 := by rw [Vi 38 (by decide)]; exact c4''
  have V43 : V.i 43 = s.i 43 := by rw [Vi 43 (by decide)]; exact c5''
  have V56 : V.i 56 = s.i 56 - 1 := by rw [Vi 56 (by decide)]; exact c7''
  -- the tables
  have ua : ∀ k : Nat, (k = 1 ∨ k = 4 ∨ k = 25 ∨ k = 27 ∨ k = 28 ∨ k = 30 ∨ k = 34 ∨ k = 37 ∨ k = 40 ∨ k = 41 ∨ k = 44 ∨ k = 46 ∨ k = 47 ∨ k = 48 ∨ k = 49 ∨ k = 50 ∨ k = 51 ∨ k = 57 ∨ k = 58 ∨ k = 60 ∨ k = 61 ∨ k = 62) → u.a k = s.a k := fun k hk => by
    rw [ub k (by omega) (by omega) (by omega), qj_a o4 k hk, Vk k (by omega) (by omega) (by omega)]
    exact qj_a b2 k hk
  have ubb : u.b 9 = s.b 9 ∧ u.b 39 = s.b 39 ∧ u.b 45 = s.b 45 := by
    obtain ⟨x1, x2, x3⟩ := qj_b o4
    obtain ⟨y1, y2, y3⟩ := qj_b b2
    rw [ubx, x1, x2, x3, Vb]
    exact ⟨y1, y2, y3⟩
  have i59 : u.i 59 = s.i 59 := by rw [iu 59 (by decide), p5i.2.2.2.2.2.2.2.2.2.2.2.2.2.2.2.1, Vi 59 (by decide), (qj_eq b2).2.2.2.2.2.2.2.2.2.2.2.2.2.2.2.1]; rfl
  have i33 : u.i 33 = s.i 33 := by rw [iu 33 (by decide), p5i.2.2.2.2.2.2.1, Vi 33 (by decide), (qj_eq b2).2.2.2.2.2.2.1]; rfl
  have i24 : u.i 24 = s.i 24 := by rw [iu 24 (by decide), p5i.2.2.2.2.1, Vi 24 (by decide), (qj_eq b2).2.2.2.2.1]; rfl
  have trs : TBR s u := by
    unfold TBR
    rw [i59, i29, i33, i24]
    exact ⟨fun j _ => ⟨by rw [ubb.2.1], by rw [ua 40 (by decide)], by rw [ua 41 (by decide)]⟩, fun j _ => ⟨by rw [ua 44 (by decide)], by rw [ubb.2.2], by rw [ua 46 (by decide)], by rw [ua 47 (by decide)], by rw [ua 50 (by decide)], by rw [ua 51 (by decide)], by rw [ua 48 (by decide)], by rw [ua 49 (by decide)]⟩, fun j _ => ⟨by rw [ua 57 (by decide)], by rw [ua 58 (by decide)]⟩, ⟨Int.le_refl _, fun j k1 k2 => by omega⟩, fun j _ => ⟨by rw [ua 60 (by decide)], by rw [ua 61 (by decide)], by rw [ua 62 (by decide)]⟩, Int.le_refl _, fun j _ => by rw [ua 30 (by decide)], Int.le_refl _, fun j _ => ⟨by rw [ua 34 (by decide)], by rw [ua 37 (by decide)]⟩, Int.le_refl _, fun j _ => ⟨by rw [ua 25 (by decide)], by rw [ua 27 (by decide)], by rw [ua 28 (by decide)]⟩⟩
  have u20 : u.i 20 = s.i 20 := by rw [iu 20 (by decide), o8, Vi 20 (by decide)]; exact b6'
  have cds : CDK (s.i 20).toInt s u := ⟨by rw [u20]; exact Int.le_refl _, fun j _ => by rw [ub 22 (by decide) (by decide) (by decide), o9, Vk 22 (by decide) (by decide) (by decide), b7']⟩
  have u11 : u.i 11 = p5.2.i 11 := iu 11 (by decide)
  have u17 : u.i 17 = p5.2.i 17 := iu 17 (by decide)
  have phu : phI s + 3 ≤ phI u := by
    unfold phI
    rw [u20, u17]
    omega
  have u38 : u.i 38 = s.i 38 := by rw [d4]; exact V38
  have u43 : u.i 43 = s.i 43 := by rw [d5]; exact V43
  have u56 : u.i 56 = s.i 56 - 1 := by rw [d7]; exact V56
  have p38 : p5.2.i 38 = s.i 38 := by rw [← iu 38 (by decide)]; exact u38
  have tbb := hC.2.2.2.2.2.1.2.1
  have nn := hC.2.2.2.2.2.2.2.2.1
  have rr := hC.2.2.2.2.2.2.1
  have ob := hC.2.2.2.2.2.2.2.1.2
  have pdm : PDM S (c1 :: c :: L) = dbt (S.o c1.2.1 0) + PDM S (c :: L) := rfl
  have d0 : dbt (S.o c1.2.1 0) = 0 := by rw [h305]; rfl
  have rt : RTE S X := by
    unfold RTE
    rw [X21, X54, X55, k11, k11X]
    omega
  have adr := hC.adr
  have hcol : ∃ col : Nat → Option (Nat × Bool), COL X u (c1 :: c :: L) col (b.i 20).toInt := by
    obtain ⟨-, -, b0, col, hc⟩ := id hC.2.2.2.2.2.2.2.2.2.2
    refine ⟨_, hc.chT b0 hC.injG (fun y hy => (Xo1 y.2.1 (adr y hy)).1) (fun y hy => ?_) (by rw [← hTc]; exact frs) trs cds tyX⟩
    obtain ⟨w1, w2, w3, w4, w5⟩ := hC.inlB tp y hy
    rw [X53, Xr, (Xo1 y.2.1 (adr y hy)).1]
    exact ⟨w1, w2, w3, w4, w5⟩
  have rfr : RFR X u c1.2.1 (ceT c1) (ceG c1) (ceW c1) := by
    rw [← hTc]
    refine RFR.mTy tyX ⟨⟨(mf 64 (by decide) (by decide) (by decide)).trans z64, ?_, ?_, fun z => ?_⟩, ?_⟩
    · rw [mf 66 (by decide) (by decide) (by decide), i29]
      exact zid
    · rw [mf 67 (by decide) (by decide) (by decide), mf 72 (by decide) (by decide) (by decide), Xk 8 (by decide) (by decide)]
      exact zwh
    · rw [X0] at z
      unfold isWl at z
      exact absurd z (by decide)
    · rw [X0]
      refine ⟨fun z => absurd z (by decide), fun z => absurd z (by decide), fun z => absurd z (by decide), fun _ => ⟨u65, ⟨⟨u641, u651, u642⟩, ?_⟩, ?_⟩, ?_⟩
      · rw [u661, p38, Xk 3 (by decide) (by decide), ← c50, s50]
      · rw [mf 68 (by decide) (by decide) (by decide), Xk 6 (by decide) (by decide)]
        exact z68
      · rw [Xk 6 (by decide) (by decide)]
        exact zb
  have fin : COR d B b t0 (c1 :: c :: L) (-9) X u := hC.chg tp hT (hC.b53 tp bz) evu (by rw [← hTc]; exact frs) trs cds ⟨by rw [d1, Vi 2 (by decide)]; exact c1', by rw [d2, Vi 3 (by decide)]; exact c2', by rw [d3, Vi 8 (by decide)]; exact c3', ua 1 (by decide), ua 4 (by decide), ubb.1⟩ (by rw [u38]; exact tbb.1) u43 (by rw [u56, w56]; exact wb) (by rw [u38, u11]; omega)
    Xr Xo1 ⟨Xk 1 (by decide) (by decide), Xk 3 (by decide) (by decide), Xk 14 (by decide) (by decide)⟩ ⟨X22, X38, X53, X54, X55, X56⟩ ⟨X18, X52⟩ (fun y hy => by rw [X50]; exact (ob.1 y hy).2)
    ngo (by rw [X0]; unfold isGo; decide) ⟨fun _ => ty, fun _ => tyX⟩ (by rw [X0, h305]; rfl) (by rw [X0]; rfl) (fun z => absurd z (by rw [h305]; decide)) (fun _ => Or.inl ⟨by rw [h305]; decide, by rw [Xo]; exact W15⟩) (fun _ => ⟨Xk 12 (by decide) (by decide), by rw [← hTc]; exact mf 66 (by decide) (by decide) (by decide), by rw [← hTc]; exact mf 72 (by decide) (by decide) (by decide)⟩) rfr hcol rt ⟨by rw [u11]; omega, by omega, by rw [u17]; omega, by rw [X0, h305, iu 19 (by decide), o12, Vi 19 (by decide), b10']; show _ + ((0 : Nat) : Int) = _ + ((1 : Nat) : Int); omega⟩ (by rw [X0]; unfold isKS isOne isTy; decide)
  have hcod : cod c1 X u = -9 := by
    unfold cod
    exact if_neg (fun z => by rw [X0] at z; exact absurd z.1 (by decide))
  have wd : wid (X.o c1.2.1 0) = 3 := by rw [X0]; rfl
  have ix : ceT c1 + wid (X.o c1.2.1 0) - 1 = T + 1 + 1 := by omega
  refine ⟨m3, u, g3, c1, ?_, ⟨?_, ?_, ?_⟩, ⟨Or.inl ⟨?_, ?_, ?_, ?_, Or.inl ⟨?_, ?_⟩, fun z => ?_⟩, ?_⟩⟩
  · rw [hR, hcod]
    exact fin
  · rw [hR, X53]
    exact tp.1
  · have z := tp.2.1
    rw [h305] at z
    rw [hR, u43, X0]
    exact z
  · rw [hR, u56, X0]
    exact w56
  · rw [hR, X0]
    unfold isOne
    decide
  · rw [hR, X0]
    decide
  · rw [hR, wd, tu]
    omega
  · rw [hR, ix]
    exact u642
  · rw [hR, ix]
    exact u652
  · rw [hR]
    exact X36
  · rw [hR, X0] at z
    exact absurd z (by decide)
  · rw [hR]
    exact Or.inr X36
