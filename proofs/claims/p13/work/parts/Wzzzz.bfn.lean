/-! both readers: finally -/
theorem wp_less {d : Int32} {B : CS} {b : RS} {t0 : Nat} {L : List CEL} {x : Int} {S : CS} {s u : RS} {c1 c : CEL} (hC : COR d B b t0 (c1 :: c :: L) x S s) (tp : TOP S s c1) (bz : BAZ B b (c1 :: c :: L)) (h56 : (u.i 56).toInt = (ceW c1 : Int)) (h43 : u.i 43 = s.i 43) (h59 : u.i 59 = s.i 59) (h29 : u.i 29 = s.i 29) (a58 : u.a 58 = s.a 58) (a62 : u.a 62 = s.a 62) : WPI u ∧ (b.i 56).toInt ≤ (ceW c1 : Int) := by
  obtain ⟨m', e', k', -, lkl, stl⟩ := id hC.2.1
  obtain ⟨lk, lw⟩ := lkl c rfl
  have t1 := tp.1
  have n1 := lk.1
  have h5 := hC.2.2.2.2.1
  have h7 := hC.2.2.2.2.2.1.2.1
  obtain ⟨r1, r2, r3, r4, r5⟩ := BAZ.all h5 L c _ _ _ bz stl (by omega)
  have wl := WLT L c _ _ _ stl r3
  have l5 := lk.2.2.2.1
  have hwp := hC.1.wp
  have tbw := h7.2.2.2.2.2.1
  have gl := STK.gl L c _ _ _ stl r1
  have wb := BO2.wl L c _ _ _ stl r3
  refine ⟨⟨⟨by rw [h43]; exact hwp.1.1, by omega, fun z => ?_, by rw [h29]; exact hwp.1.2.2.2⟩, fun j hj => ?_⟩, by omega⟩
  · rw [a58, h43]
    rcases wl with ⟨w, hw, w1, w2, -⟩ | ⟨-, w2, w3⟩
    · obtain ⟨⟨-, z2⟩, -⟩ := stl.ty w hw w1
      have g3 := gl.2 w hw
      have tg := tp.2.1
      have en : ((u.i 56).toInt - 1).toNat = ceW w := by omega
      have l3 := lk.2.2.1
      rw [en, z2]
      omega
    · have en : ((u.i 56).toInt - 1).toNat = ((b.i 56).toInt - 1).toNat := by omega
      have y := (tbw ((b.i 56).toInt - 1).toNat (by omega)).2
      have z3 := w3 (by omega)
      have := h7.2.1
      rw [en, y]
      omega
  · rw [h59] at hj
    rw [a62, h29]
    exact hwp.2 j hj
/-- the tables are the same -/
theorem qj_a {s u : RS} (h : qj u = qj s) (k : Nat) (hk : k = 1 ∨ k = 4 ∨ k = 25 ∨ k = 27 ∨ k = 28 ∨ k = 30 ∨ k = 34 ∨ k = 37 ∨ k = 40 ∨ k = 41 ∨ k = 44 ∨ k = 46 ∨ k = 47 ∨ k = 48 ∨ k = 49 ∨ k = 50 ∨ k = 51 ∨ k = 57 ∨ k = 58 ∨ k = 60 ∨ k = 61 ∨ k = 62) : u.a k = s.a k := by
  obtain ⟨-, -, -, -, -, -, -, -, -, -, -, -, -, -, -, -, -, -, a1, a4, a25, -, a27, a28, a30, a34, a37, a40, a41, a44, a46, a47, a48, a49, a50, a51, a57, a58, a60, a61, a62, -, -, -, -, -, -, -, -, -, -, b9, b39, b45, b74⟩ := qj_eq h
  rcases hk with z | z | z | z | z | z | z | z | z | z | z | z | z | z | z | z | z | z | z | z | z | z
  · rw [z]; exact a1
  · rw [z]; exact a4
  · rw [z]; exact a25
  · rw [z]; exact a27
  · rw [z]; exact a28
  · rw [z]; exact a30
  · rw [z]; exact a34
  · rw [z]; exact a37
  · rw [z]; exact a40
  · rw [z]; exact a41
  · rw [z]; exact a44
  · rw [z]; exact a46
  · rw [z]; exact a47
  · rw [z]; exact a48
  · rw [z]; exact a49
  · rw [z]; exact a50
  · rw [z]; exact a51
  · rw [z]; exact a57
  · rw [z]; exact a58
  · rw [z]; exact a60
  · rw [z]; exact a61
  · rw [z]; exact a62
theorem qj_b {s u : RS} (h : qj u = qj s) : u.b 9 = s.b 9 ∧ u.b 39 = s.b 39 ∧ u.b 45 = s.b 45 := by
  obtain ⟨-, -, -, -, -, -, -, -, -, -, -, -, -, -, -, -, -, -, a1, a4, a25, -, a27, a28, a30, a34, a37, a40, a41, a44, a46, a47, a48, a49, a50, a51, a57, a58, a60, a61, a62, -, -, -, -, -, -, -, -, -, -, b9, b39, b45, b74⟩ := qj_eq h
  exact ⟨b9, b39, b45⟩
theorem ENW.th {d : Int32} {S : CS} {s : RS} {t : Nat} {a b : Int32} (h : ENW d S s) : ENW d S (TH s t a b) := h.kq rfl rfl rfl rfl rfl rfl rfl rfl rfl rfl rfl rfl rfl rfl rfl rfl rfl rfl rfl rfl ⟨h.2.2.2.2.2.2.1, h.2.2.2.2.2.2.2.1⟩ (h.wp.of (Int.le_refl _) rfl rfl rfl rfl rfl)
theorem ENW.sa {d : Int32} {S : CS} {s : RS} {k j : Nat} {v : Int32} (h : ENW d S s) (hk : k = 22 ∨ k = 31 ∨ (64 ≤ k ∧ k ≤ 73)) : ENW d S (RS.setA s k j v) := by
  have e : ∀ m : Nat, m ≠ k → (RS.setA s k j v).a m = s.a m := fun m hm => setA_nk hm
  exact h.kq rfl rfl rfl rfl rfl rfl rfl (e 1 (by omega)) (e 4 (by omega)) (e 41 (by omega)) rfl rfl rfl rfl rfl rfl rfl rfl rfl rfl ⟨h.2.2.2.2.2.2.1, h.2.2.2.2.2.2.2.1⟩ (h.wp.of (Int.le_refl _) rfl rfl rfl (e 58 (by omega)) (e 62 (by omega)))
theorem HC0.fin {nm : Nat → Nat → Prop} {x y h u : Nat} {c : List Ent} (z : HC0 nm h c) (l : frs c ≤ 21) : HC0 nm h ((3, h, x, y, 0, 0, u) :: c) := by
  obtain ⟨z1, z2, z3, z4⟩ := z
  refine ⟨⟨fun k q => ?_, fun l q => ?_, z1⟩, ?_, ?_, fun e he => ?_⟩
  · rcases q with ⟨q, -⟩ | ⟨q, -⟩ <;> exact absurd (show (3 : Nat) = _ from q) (by decide)
  · exact absurd (show (3 : Nat) = 2 from q.1) (by decide)
  · show ops c + (if (3 : Nat) = 1 then 0 else 0) ≤ 320
    rw [if_neg (by decide)]
    exact z2
  · show frs c + (if (3 : Nat) ≤ 3 then 1 else 0) ≤ 22
    rw [if_pos (by decide)]
    omega
  · rcases List.mem_cons.mp he with q | q
    · rw [q]
      exact Nat.le_refl _
    · exact z4 e q
theorem JRG.t3 {A : JBA} {U : RS} {B : CS} {b : RS} {V0 W : List RVW} {s0 : RS} {K : JKT} {a e : Int} {S : CS} {s : RS} {r6 : RVW} (h : JRG A U B b V0 s0 W K a e S s) (h6 : r6 ∈ W) (t6 : isTyv r6) (p6 : ¬ r6.2.2.1 = 0) : JRG A U B b V0 s0 W (fun FC SF nm X ω j Z => TGT3 r6 ∧ K FC SF nm X ω j Z) a e S s := by
  intro crB
  obtain ⟨b1, b2, b3, b4, Ψ, G, col, YJ, sax, pin, tgi, jsi, main⟩ := h crB
  refine ⟨b1, b2, b3, b4, Ψ, G, col, YJ, sax, pin, tgi, jsi, ?_⟩
  intro FC SF nm X h0 ω c0 psi ng0 hc0 hh0 hω
  obtain ⟨⟨ng, hc, hh, wn⟩, mn⟩ := main FC SF nm X h0 ω c0 psi ng0 hc0 hh0 hω
  exact ⟨⟨ng, hc, hh, wn⟩, fun fc fg hA tyc jr => ⟨((wn.1 r6 h6 (Or.inr ⟨t6, p6⟩)).2 t6).2.2, mn fc fg hA tyc jr⟩⟩
set_option maxHeartbeats 4000000 in
theorem bg_fin {N : Nat} (hN : 1000 ≤ N) {d : Int32} {B : CS} {b : RS} {t0 n : Nat} {L : List CEL} {x : Int} {S : CS} {s U : RS} {c1 c : CEL} {R : Unit × CS} {Aj : JBA} (hC : COR d B b t0 (c1 :: c :: L) x S s) (tp : TOP S s c1) (hM : MGU c1 S s) (n215 : ¬ S.i 43 = 215) (bz : BAZ B b (c1 :: c :: L)) (hT : t0 ≤ ceT c1) (e : f_X7_beginFinally N S c1.2.1 = some R) (g : f_X12_parse_10 N n s = some U) : (¬ R.2.i 32 = 0 ∧ ¬ U.i 15 = 0) ∨ ∃ (m : Nat) (u : RS), f_X12_parse_10 N m u = some U ∧ NEW d B b t0 c L R.2 u (fun V R' u' => JRX Aj U B b (vws S s (c1 :: c :: L)) S s → JRW Aj U B b V R' u') := by
  obtain ⟨h305, ts, c50, hk, -⟩ := hM
  have k216 : S.i 43 = 216 := hk.resolve_left n215
  have ty : isTy (S.o c1.2.1 0) := Or.inr (Or.inr (Or.inl h305))
  have ngo := ty_ngo ty
  have hv := hC.1
  have k10 := (tk_is hv (a := 216) (b := 426) (Or.inr ⟨by decide, by decide⟩) (by decide)).mp k216
  obtain ⟨T, hTc⟩ : ∃ T : Nat, T = ceT c1 := ⟨_, rfl⟩
  obtain ⟨m1, e1, k1, m2, e2, k2, cst⟩ := STK.mem _ _ _ _ hC.2.1 c1 List.mem_cons_self
  obtain ⟨⟨z64, zid, zwh, -⟩, -, -, zs305, -, zb⟩ := cst.2.2.1.2.2.2.2.2.2.2.2.2.2.2.2 ty
  rw [← hTc] at z64 zid zwh zs305 ts
  obtain ⟨z65, z68⟩ := zs305 h305
  have s50 := hv.2.1.1
  -- the reference
  obtain ⟨m2, V, hV, g2⟩ := rl_15 g ts hv.1.2.1 z64
  unfold f_X12_trying at hV
  obtain ⟨hib, hV⟩ := hf_ite hV
  rw [tp_nat ts, z65, if_neg (by decide), if_neg (by decide), if_pos rfl, if_neg (by rw [k10]; decide), if_pos k10] at hV
  obtain ⟨q, hq, hV⟩ := hf_bind hV
  obtain ⟨-, hV⟩ := hf_ite hV
  rw [ob_id] at hV
  -- the class
  unfold f_X7_beginFinally at e
  obtain ⟨-, e⟩ := hf_ite e
  obtain ⟨p2, e2', e⟩ := hf_bind e
  obtain ⟨p6, e6, e⟩ := hf_bind e
  obtain ⟨p10, e10, e⟩ := hf_bind e
  obtain ⟨-, e⟩ := hf_ite e
  obtain ⟨p15, e15, e⟩ := hf_bind e
  have hR : R.2 = CS.setI p15.2 36 1 := by rw [← Option.some.inj e]
  clear e
  obtain ⟨W, hW⟩ : ∃ W, W = CS.setO (CS.setO S c1.2.1 0 216) c1.2.1 15 (S.i 55) := ⟨_, rfl⟩
  have Wi : W.i = S.i := by rw [hW]; rfl
  have Wa : W.a = S.a := by rw [hW]; rfl
  have Wr : W.r = S.r ∧ W.ol = S.ol ∧ W.b = S.b ∧ W.l = S.l ∧ (W.hs = S.hs ∧ W.L = S.L ∧ W.k = S.k) := by
    rw [hW]
    exact ⟨rfl, rfl, rfl, rfl, rfl, rfl, rfl⟩
  have Wo : ∀ a : Nat, a ≠ c1.2.1 → W.o a = S.o a := fun a ha => by rw [hW, so_ne ha, so_ne ha]
  have Wk : ∀ k : Nat, k ≠ 0 → k ≠ 15 → W.o c1.2.1 k = S.o c1.2.1 k := fun k h0 h1 => by rw [hW, so_nk h1, so_nk h0]
  have W0 : W.o c1.2.1 0 = 216 := by rw [hW, so_nk (by decide), so_at]
  have W15 : W.o c1.2.1 15 = S.i 55 := by rw [hW, so_at]
  rw [← hW] at e2'
  clear hW
  -- the wall goes
  have nw1 : nWl (S.o c1.2.1 0) = 1 := by rw [h305]; rfl
  have tw := tp.2.2
  have w56 : (s.i 56 - 1).toInt = (ceW c1 : Int) := by
    have e1 : (1 : Int32).toInt = 1 := by decide
    have hi := Int32.toInt_lt (s.i 56)
    rw [toInt_sub] <;> rw [e1] <;> omega
  obtain ⟨wps, wb⟩ := wp_less hC tp bz (u := RS.setI s 56 (s.i 56 - 1)) w56 rfl rfl rfl rfl rfl
  have ew0 : ENW d S (RS.setI s 56 (s.i 56 - 1)) := hv.w.kq rfl rfl rfl rfl rfl rfl rfl rfl rfl rfl rfl rfl rfl rfl rfl rfl rfl rfl rfl rfl ⟨hv.2.2.2.2.2.2.1, hv.2.2.2.2.2.2.2.1⟩ wps
  have ew1 : ENW d W (RS.setI s 56 (s.i 56 - 1)) := ew0.gx (fun _ _ _ _ _ _ _ _ => by rw [Wi]) ⟨by rw [Wa], by rw [Wa], by rw [Wa]⟩ Wr.2.2.1 Wr.2.2.2.1 (by
    have z := ew0.sj
    unfold SJB at *
    rw [Wi]
    exact z) (by rw [Wi]; exact ew0.t21)
  obtain ⟨b1, b2, b3, b4, b5, b6, b7, b8, b9, b10, -, b12⟩ := ew1.adv hN (by rw [Wi, k216]; decide) e2' hq
  have b12' : (q.i 17).toInt = (s.i 17).toInt + 1 := b12
  have b5' : (s.i 11).toInt + 1 ≤ (q.i 11).toInt := b5
  have b6' : q.i 20 = s.i 20 := b6
  have b7' : q.a 22 = s.a 22 := b7
  have b10' : q.i 19 = s.i 19 := b10
  have tq : tpI q = (T : Int) := qj_63 b2 ts
  -- the block's frame
  obtain ⟨hVe, t99⟩ := r_then (s := RS.setA q 31 (q.a 66 T).toNatClampNeg (q.i 20)) tq hV
  have ewV : ENW d p2.2 V := by rw [hVe]; exact (b1.sa (Or.inr (Or.inl rfl))).th
  have tV : tpI V = ((T + 1 : Nat) : Int) := by rw [hVe]; exact TH.tp (u := RS.setA q 31 (q.a 66 T).toNatClampNeg (q.i 20)) tq (by omega)
  have V64 : V.a 64 (T + 1) = 3 := by rw [hVe]; exact TH.fk
  have V65 : V.a 65 (T + 1) = 0 := by rw [hVe]; exact TH.fs
  have V65' : V.a 65 T = 4 := by rw [hVe]; exact TH.st
  have V64' : V.a 64 T = q.a 64 T := by
    rw [hVe, TH.fk0 (Nat.le_refl T), setA_nk (by decide)]
  have Vk : ∀ k : Nat, k ≠ 31 → k ≠ 64 → k ≠ 65 → V.a k = q.a k := fun k h1 h2 h3 => by
    rw [hVe, TH.loc h2 h3, setA_nk h1]
  have Vi : ∀ k : Nat, k ≠ 63 → V.i k = q.i k := fun k h => by
    rw [hVe]
    exact if_neg h
  have Vb : V.b = q.b := by rw [hVe]; rfl
  have frV : FRB T q V := by
    rw [hVe]
    exact (show FRB T q (RS.setA q 31 (q.a 66 T).toNatClampNeg (q.i 20)) from fun j _ => ⟨by rw [setA_nk (by decide)], by rw [setA_nk (by decide)], by rw [setA_nk (by decide)], by rw [setA_nk (by decide)], by rw [setA_nk (by decide)], by rw [setA_nk (by decide)], by rw [setA_nk (by decide)], by rw [setA_nk (by decide)], by rw [setA_nk (by decide)], by rw [setA_nk (by decide)], rfl⟩).tr TH.frb
  have V31 : V.a 31 = (RS.setA q 31 (q.a 66 T).toNatClampNeg (q.i 20)).a 31 := by
    rw [hVe]
    exact TH.loc (by decide) (by decide)
  clear hVe hV
  obtain ⟨m3, V2, hV2, g3⟩ := rl_3 g2 tV ewV.1.2.1 V64
  unfold f_X12_block at hV2
  obtain ⟨-, hV2⟩ := hf_ite hV2
  rw [tp_nat tV, if_pos V65] at hV2
  obtain ⟨p5, hp5, hV2⟩ := hf_bind hV2
  rw [ob_id] at hV2
  rcases w_open hN ewV (c := 123) (d := 123) (Or.inl ⟨by decide, by decide⟩) (by decide) (by decide) (by decide) e6 hp5 with ⟨o1, o2, o3⟩ | ⟨o1, o2, o3, o4, o5, o6, o7, o8, o9, o10, o11, o12, o13, o14⟩
  · refine Or.inl ⟨?_, u_flt g3 (krf_f_X12_then N _ 1 1 V2 hV2 (show ¬ (RS.setA p5.2 66 (T + 1) (p5.2.i 38)).i 15 = 0 from o3))⟩
    have z1 : ¬ p10.2.i 32 = 0 := by rw [kF_X0_add N p6.2 _ _ p10 e10 o2]; exact o2
    have z2 : ¬ p15.2.i 32 = 0 := by rw [kF_X0_aim N p10.2 _ p15 e15 z1]; exact z1
    rw [hR]
    exact z2
  refine Or.inr ?_
  have tp5 : tpI p5.2 = ((T + 1 : Nat) : Int) := qj_63 o4 tV
  obtain ⟨hue, t98⟩ := r_then (s := RS.setA p5.2 66 (T + 1) (p5.2.i 38)) tp5 hV2
  -- the class's last state
  have kd15 : pj2 p15.2 = pj2 p6.2 := (kd_X0_aim N _ _ p15 e15).trans (kd_X0_add N _ _ _ p10 e10)
  obtain ⟨⟨z1, z2, z3, z4⟩, ⟨z5, z6⟩, ⟨z7, z8, z9, z10, z11⟩, ⟨z12, z13, z14, z15, z16, z17, z18⟩⟩ := kd_all kd15
  obtain ⟨-, -, -, -, -, -, -, -, -, -, q36, -, q38, q50, q53, q54, q55, q56, -, -, -, -, q52, qr, qo, qol, -, q21, qhk⟩ := pj_eq o5
  obtain ⟨-, -, -, -, -, -, -, -, -, -, r36, -, r38, r50, r53, r54, r55, r56, -, -, -, -, r52, rr', ro, rol, -, r21, rhk⟩ := pj_eq b3
  obtain ⟨X, hX⟩ : ∃ X, X = CS.setI p15.2 36 1 := ⟨_, rfl⟩
  rw [← hX] at hR
  have Xi : ∀ k : Nat, k ≠ 36 → X.i k = p15.2.i k := fun k hk => by
    rw [hX]
    exact ci_ne _ _ _ hk
  have X36 : X.i 36 = 1 := by rw [hX, ci_at]
  have Xa : X.a = p15.2.a := by rw [hX]; rfl
  have Xo : X.o = W.o := by
    rw [hX]
    show p15.2.o = _
    rw [z2, qo, ro]
  have Xr : X.r = S.r := by
    rw [hX]
    show p15.2.r = _
    rw [z1, qr, rr', Wr.1]
  have Xol : X.ol = S.ol := by
    rw [hX]
    show p15.2.ol = _
    rw [z3, qol, rol, Wr.2.1]
  have Xhk : X.hs = S.hs ∧ X.L = S.L ∧ X.k = S.k := by
    rw [hX]
    show p15.2.hs = _ ∧ p15.2.L = _ ∧ p15.2.k = _
    rw [z4.1, z4.2.1, z4.2.2, qhk.1, qhk.2.1, qhk.2.2, rhk.1, rhk.2.1, rhk.2.2]
    exact Wr.2.2.2.2
  have X18 : X.a 18 = S.a 18 := by
    rw [hX]
    show p15.2.a 18 = _
    rw [z5, o11.1, b9.1, Wa]
  have X52 : X.a 52 = S.a 52 := by
    rw [hX]
    show p15.2.a 52 = _
    rw [z6, q52, r52, Wa]
  have X22 : X.i 22 = S.i 22 := by rw [Xi 22 (by decide), z8, o10, b8, Wi]
  have X21 : X.i 21 = S.i 21 := by rw [Xi 21 (by decide), z7, q21, r21, Wi]
  have X38 : X.i 38 = S.i 38 := by rw [Xi 38 (by decide), z11, q38, r38, Wi]
  have X50 : X.i 50 = S.i 50 := by rw [Xi 50 (by decide), z14, q50, r50, Wi]
  have X53 : X.i 53 = S.i 53 := by rw [Xi 53 (by decide), z15, q53, r53, Wi]
  have X54 : X.i 54 = S.i 54 := by rw [Xi 54 (by decide), z16, q54, r54, Wi]
  have X55 : X.i 55 = S.i 55 := by rw [Xi 55 (by decide), z17, q55, r55, Wi]
  have X56 : X.i 56 = S.i 56 := by rw [Xi 56 (by decide), z18, q56, r56, Wi]
  have ewX : ENW d X p5.2 := by
    rw [hX]
    refine (o3.kd kd15).gx (fun j _ q2 _ _ _ _ _ => ci_ne _ _ _ q2) ⟨rfl, rfl, rfl⟩ rfl rfl ?_ (o3.kd kd15).t21
    exact (o3.kd kd15).sj
  clear hX
  have V11 : V.i 11 = q.i 11 := Vi 11 (by decide)
  have V17 : V.i 17 = q.i 17 := Vi 17 (by decide)
  have k11 := hv.1.2.2.2.1.1
  have k11X := ewX.1.2.2.2.1.1
  rw [V11] at o7
  rw [V17] at o13
  have Xo1 : ∀ a : Nat, a ≠ c1.2.1 → X.o a = S.o a ∧ X.ol a = S.ol a := fun a ha => ⟨by rw [Xo, Wo a ha], by rw [Xol]⟩
  have Xk : ∀ k : Nat, k ≠ 0 → k ≠ 15 → X.o c1.2.1 k = S.o c1.2.1 k := fun k h0 h1 => by rw [Xo, Wk k h0 h1]
  have X0 : X.o c1.2.1 0 = 216 := by rw [Xo]; exact W0
  have tyX : isTy (X.o c1.2.1 0) := Or.inr (Or.inr (Or.inr X0))
  -- the rows are paid
  have cn : cnI S = (c1.1 : Int) + 1 := tp.1
  have rwX : RWI X := by
    refine hv.ri.srt (n := c1.1) (a := c1.2.1) cst.2.1 cn cst.1 Xr (fun a ha => (Xo1 a ha).1) Xol X53 Xhk ⟨by rw [h305]; decide, by rw [h305]; decide, by rw [h305]; decide, by rw [h305]; decide⟩ ⟨by rw [X0]; decide, by rw [X0]; decide, by rw [X0]; decide, by rw [X0]; decide⟩ ?_ ?_
    · have tn : (cnI S).toNat = c1.1 + 1 := by omega
      have z := hv.ri.2.2.2.2.2.2
      rw [tn] at z
      have e2 : SGS S (c1.1 + 1) = SGS S c1.1 + sgn S (rowA S c1.1) := rfl
      have ra : rowA S c1.1 = c1.2.1 := by
        unfold rowA
        rw [cst.1]
        rfl
      have s0 : sgn S c1.2.1 = 0 := by
        unfold sgn
        rw [h305]
        rfl
      have s1 : sgn X c1.2.1 = 1 := by
        unfold sgn
        rw [X0]
        rfl
      rw [ra, s0] at e2
      have f1 : sgI S = (s.i 19).toInt := by
        unfold sgI
        rw [hv.2.2.1.1]
      have f2 : sgI X = (p5.2.i 19).toInt := by
        unfold sgI
        rw [ewX.2.2.1.1]
      have f3 : (V.i 19).toInt = (s.i 19).toInt := by rw [Vi 19 (by decide), b10']
      rw [s1, f2]
      omega
    · have a1 := (eI.ge S).2
      have a2 := (eI.ge X).1
      unfold plI at a1 a2
      rw [k11] at a1
      rw [k11X] at a2
      omega
  have evX : ENV d X p5.2 := ewX.v rwX
  -- the last state of the reference
  obtain ⟨u, hu⟩ : ∃ y, y = TH (RS.setA p5.2 66 (T + 1) (p5.2.i 38)) (T + 1) 1 1 := ⟨_, rfl⟩
  have evu : ENV d X u := by rw [hu]; exact (setA_env (Or.inr ⟨by decide, by decide⟩) evX).th
  have ku : TBK p5.2 u := by rw [hu]; exact (setA_tbk ⟨by decide, by decide⟩).tr TH.tbk
  have fu : FRB (T + 1) p5.2 u := by rw [hu]; exact (setA_frb (Or.inr ⟨by decide, by decide, Nat.le_refl _⟩)).tr TH.frb
  have iu : ∀ k : Nat, k ≠ 63 → u.i k = p5.2.i k := by
    rw [hu]
    exact fun k h => if_neg h
  have u641 : u.a 64 (T + 1) = 3 := by
    rw [hu, TH.fk0 (Nat.le_refl _), setA_nk (by decide), (FRB.of o4 : FRB (T + 1 + 1) V p5.2).all 64 (by decide) (by decide)]
    exact V64
  have u651 : u.a 65 (T + 1) = 1 := by rw [hu]; exact TH.st
  have u661 : u.a 66 (T + 1) = p5.2.i 38 := by
    rw [hu, TH.loc (by decide) (by decide)]
    exact setA_at
  have u642 : u.a 64 (T + 1 + 1) = 1 := by rw [hu]; exact TH.fk
  have u652 : u.a 65 (T + 1 + 1) = 0 := by rw [hu]; exact TH.fs
  have tu : tpI u = ((T + 1 + 1 : Nat) : Int) := by rw [hu]; exact TH.tp (u := RS.setA p5.2 66 (T + 1) (p5.2.i 38)) tp5 (by omega)
  have ub : ∀ k : Nat, k ≠ 64 → k ≠ 65 → k ≠ 66 → u.a k = p5.2.a k := fun k h1 h2 h3 => by
    rw [hu, TH.loc h1 h2, setA_nk h3]
  have ubx : u.b = p5.2.b := by rw [hu]; rfl
  rw [hue, ← hu] at g3
  clear hu hue hV2
  have p5i := qj_eq o4
  have i29 : u.i 29 = s.i 29 := by rw [iu 29 (by decide), p5i.2.2.2.2.2.1, Vi 29 (by decide), (qj_eq b2).2.2.2.2.2.1]; rfl
  -- from s to u
  have fs : FRB (T + 1) V u := (FRB.of o4 : FRB (T + 1) V p5.2).tr fu
  have frS : FRB T s u := by
    have z1 : FRB T s q := by
      have z : FRB T (RS.setI s 56 (s.i 56 - 1)) q := FRB.of b2
      exact z
    exact (z1.tr frV).tr (fs.mo (by omega))
  have mf : ∀ k : Nat, 64 ≤ k → k ≤ 73 → k ≠ 65 → u.a k T = s.a k T := fun k h1 h2 h3 => by
    have z : q.a k T = s.a k T := (FRB.of b2 : FRB (T + 1) (RS.setI s 56 (s.i 56 - 1)) q).all k h1 h2
    rw [fs.all k h1 h2]
    by_cases y : k = 64
    · rw [y] at z ⊢
      rw [V64']
      exact z
    · rw [Vk k (by omega) y h3]
      exact z
  have u65 : u.a 65 T = 4 := by rw [fs.all 65 (by decide) (by decide)]; exact V65'
  have tsq : TBZ (RS.setI s 56 (s.i 56 - 1)) q := TBZ.of b2
  have tVq : TBR q V := by
    unfold TBR
    rw [Vi 59 (by decide), Vi 29 (by decide), Vi 33 (by decide), Vi 24 (by decide), Vb]
    exact ⟨fun j _ => ⟨rfl, by rw [Vk 40 (by decide) (by decide) (by decide)], by rw [Vk 41 (by decide) (by decide) (by decide)]⟩, fun j _ => ⟨by rw [Vk 44 (by decide) (by decide) (by decide)], rfl, by rw [Vk 46 (by decide) (by decide) (by decide)], by rw [Vk 47 (by decide) (by decide) (by decide)], by rw [Vk 50 (by decide) (by decide) (by decide)], by rw [Vk 51 (by decide) (by decide) (by decide)], by rw [Vk 48 (by decide) (by decide) (by decide)], by rw [Vk 49 (by decide) (by decide) (by decide)]⟩, fun j _ => ⟨by rw [Vk 57 (by decide) (by decide) (by decide)], by rw [Vk 58 (by decide) (by decide) (by decide)]⟩, ⟨Int.le_refl _, fun j k1 k2 => by omega⟩, fun j _ => ⟨by rw [Vk 60 (by decide) (by decide) (by decide)], by rw [Vk 61 (by decide) (by decide) (by decide)], by rw [Vk 62 (by decide) (by decide) (by decide)]⟩, Int.le_refl _, fun j _ => by rw [Vk 30 (by decide) (by decide) (by decide)], Int.le_refl _, fun j _ => ⟨by rw [Vk 34 (by decide) (by decide) (by decide)], by rw [Vk 37 (by decide) (by decide) (by decide)]⟩, Int.le_refl _, fun j _ => ⟨by rw [Vk 25 (by decide) (by decide) (by decide)], by rw [Vk 27 (by decide) (by decide) (by decide)], by rw [Vk 28 (by decide) (by decide) (by decide)]⟩⟩
  have tVu : TBZ V u := (TBZ.of o4).tr ku.1
  obtain ⟨c1', c2', c3', c4', c5', c6', c7', c8', c9', c10'⟩ := tsq.1
  obtain ⟨d1, d2, d3, d4, d5, d6, d7, d8, d9, d10⟩ := tVu.1
  have c4'' : q.i 38 = s.i 38 := c4'
  have c5'' : q.i 43 = s.i 43 := c5'
  have c7'' : q.i 56 = s.i 56 - 1 := c7'
  have V38 : V.i 38 = s.i 38 := by rw [Vi 38 (by decide)]; exact c4''
  have V43 : V.i 43 = s.i 43 := by rw [Vi 43 (by decide)]; exact c5''
  have V56 : V.i 56 = s.i 56 - 1 := by rw [Vi 56 (by decide)]; exact c7''
  -- the tables
  have ua : ∀ k : Nat, (k = 1 ∨ k = 4 ∨ k = 25 ∨ k = 27 ∨ k = 28 ∨ k = 30 ∨ k = 34 ∨ k = 37 ∨ k = 40 ∨ k = 41 ∨ k = 44 ∨ k = 46 ∨ k = 47 ∨ k = 48 ∨ k = 49 ∨ k = 50 ∨ k = 51 ∨ k = 57 ∨ k = 58 ∨ k = 60 ∨ k = 61 ∨ k = 62) → u.a k = s.a k := fun k hk => by
    rw [ub k (by omega) (by omega) (by omega), qj_a o4 k hk, Vk k (by omega) (by omega) (by omega)]
    exact qj_a b2 k hk
  have ubb : u.b 9 = s.b 9 ∧ u.b 39 = s.b 39 ∧ u.b 45 = s.b 45 := by
    obtain ⟨x1, x2, x3⟩ := qj_b o4
    obtain ⟨y1, y2, y3⟩ := qj_b b2
    rw [ubx, x1, x2, x3, Vb]
    exact ⟨y1, y2, y3⟩
  have i59 : u.i 59 = s.i 59 := by rw [iu 59 (by decide), p5i.2.2.2.2.2.2.2.2.2.2.2.2.2.2.2.1, Vi 59 (by decide), (qj_eq b2).2.2.2.2.2.2.2.2.2.2.2.2.2.2.2.1]; rfl
  have i33 : u.i 33 = s.i 33 := by rw [iu 33 (by decide), p5i.2.2.2.2.2.2.1, Vi 33 (by decide), (qj_eq b2).2.2.2.2.2.2.1]; rfl
  have i24 : u.i 24 = s.i 24 := by rw [iu 24 (by decide), p5i.2.2.2.2.1, Vi 24 (by decide), (qj_eq b2).2.2.2.2.1]; rfl
  have trs : TBR s u := by
    unfold TBR
    rw [i59, i29, i33, i24]
    exact ⟨fun j _ => ⟨by rw [ubb.2.1], by rw [ua 40 (by decide)], by rw [ua 41 (by decide)]⟩, fun j _ => ⟨by rw [ua 44 (by decide)], by rw [ubb.2.2], by rw [ua 46 (by decide)], by rw [ua 47 (by decide)], by rw [ua 50 (by decide)], by rw [ua 51 (by decide)], by rw [ua 48 (by decide)], by rw [ua 49 (by decide)]⟩, fun j _ => ⟨by rw [ua 57 (by decide)], by rw [ua 58 (by decide)]⟩, ⟨Int.le_refl _, fun j k1 k2 => by omega⟩, fun j _ => ⟨by rw [ua 60 (by decide)], by rw [ua 61 (by decide)], by rw [ua 62 (by decide)]⟩, Int.le_refl _, fun j _ => by rw [ua 30 (by decide)], Int.le_refl _, fun j _ => ⟨by rw [ua 34 (by decide)], by rw [ua 37 (by decide)]⟩, Int.le_refl _, fun j _ => ⟨by rw [ua 25 (by decide)], by rw [ua 27 (by decide)], by rw [ua 28 (by decide)]⟩⟩
  have u20 : u.i 20 = s.i 20 := by rw [iu 20 (by decide), o8, Vi 20 (by decide)]; exact b6'
  have cds : CDK (s.i 20).toInt s u := ⟨by rw [u20]; exact Int.le_refl _, fun j _ => by rw [ub 22 (by decide) (by decide) (by decide), o9, Vk 22 (by decide) (by decide) (by decide), b7']⟩
  have u11 : u.i 11 = p5.2.i 11 := iu 11 (by decide)
  have u17 : u.i 17 = p5.2.i 17 := iu 17 (by decide)
  have phu : phI s + 3 ≤ phI u := by
    unfold phI
    rw [u20, u17]
    omega
  have u38 : u.i 38 = s.i 38 := by rw [d4]; exact V38
  have u43 : u.i 43 = s.i 43 := by rw [d5]; exact V43
  have u56 : u.i 56 = s.i 56 - 1 := by rw [d7]; exact V56
  have p38 : p5.2.i 38 = s.i 38 := by rw [← iu 38 (by decide)]; exact u38
  have tbb := hC.2.2.2.2.2.1.2.1
  have nn := hC.2.2.2.2.2.2.2.2.1
  have rr := hC.2.2.2.2.2.2.1
  have ob := hC.2.2.2.2.2.2.2.1.2
  have pdm : PDM S (c1 :: c :: L) = dbt (S.o c1.2.1 0) + PDM S (c :: L) := rfl
  have d0 : dbt (S.o c1.2.1 0) = 0 := by rw [h305]; rfl
  have rt : RTE S X := by
    unfold RTE
    rw [X21, X54, X55, k11, k11X]
    omega
  have adr := hC.adr
  have hcol : ∃ col : Nat → Option (Nat × Bool), COL X u (c1 :: c :: L) col (b.i 20).toInt := by
    obtain ⟨-, -, b0, col, hc⟩ := id hC.2.2.2.2.2.2.2.2.2.2
    refine ⟨_, hc.chT b0 hC.injG (fun y hy => (Xo1 y.2.1 (adr y hy)).1) (fun y hy => ?_) (by rw [← hTc]; exact frS) trs cds tyX⟩
    obtain ⟨w1, w2, w3, w4, w5⟩ := hC.inlB tp y hy
    rw [X53, Xr, (Xo1 y.2.1 (adr y hy)).1]
    exact ⟨w1, w2, w3, w4, w5⟩
  have rfr : RFR X u c1.2.1 (ceT c1) (ceG c1) (ceW c1) := by
    rw [← hTc]
    refine RFR.mTy tyX ⟨⟨(mf 64 (by decide) (by decide) (by decide)).trans z64, ?_, ?_, fun z => ?_⟩, ?_⟩
    · rw [mf 66 (by decide) (by decide) (by decide), i29]
      exact zid
    · rw [mf 67 (by decide) (by decide) (by decide), mf 72 (by decide) (by decide) (by decide), Xk 8 (by decide) (by decide)]
      exact zwh
    · rw [X0] at z
      unfold isWl at z
      exact absurd z (by decide)
    · rw [X0]
      refine ⟨fun z => absurd z (by decide), fun z => absurd z (by decide), fun z => absurd z (by decide), fun _ => ⟨u65, ⟨⟨u641, u651, u642⟩, ?_⟩, ?_⟩, ?_⟩
      · rw [u661, p38, Xk 3 (by decide) (by decide), ← c50, s50]
      · rw [mf 68 (by decide) (by decide) (by decide), Xk 6 (by decide) (by decide)]
        exact z68
      · rw [Xk 6 (by decide) (by decide)]
        exact zb
  have fin : COR d B b t0 (c1 :: c :: L) (-9) X u := hC.chg tp hT (hC.b53 tp bz) evu (by rw [← hTc]; exact frS) trs cds ⟨by rw [d1, Vi 2 (by decide)]; exact c1', by rw [d2, Vi 3 (by decide)]; exact c2', by rw [d3, Vi 8 (by decide)]; exact c3', ua 1 (by decide), ua 4 (by decide), ubb.1⟩ (by rw [u38]; exact tbb.1) u43 (by rw [u56, w56]; exact wb) (by rw [u38, u11]; omega)
    Xr Xo1 ⟨Xk 1 (by decide) (by decide), Xk 3 (by decide) (by decide), Xk 14 (by decide) (by decide)⟩ ⟨X22, X38, X53, X54, X55, X56⟩ ⟨X18, X52⟩ (fun y hy => by rw [X50]; exact (ob.1 y hy).2)
    ngo (by rw [X0]; unfold isGo; decide) ⟨fun _ => ty, fun _ => tyX⟩ (by rw [X0, h305]; rfl) (by rw [X0]; rfl) (fun z => absurd z (by rw [h305]; decide)) (fun _ => Or.inl ⟨by rw [h305]; decide, by rw [Xo]; exact W15⟩) (fun _ => ⟨Xk 12 (by decide) (by decide), by rw [← hTc]; exact mf 66 (by decide) (by decide) (by decide), by rw [← hTc]; exact mf 72 (by decide) (by decide) (by decide)⟩) rfr hcol rt ⟨by rw [u11]; omega, by omega, by rw [u17]; omega, by rw [X0, h305, iu 19 (by decide), o12, Vi 19 (by decide), b10']; show _ + ((0 : Nat) : Int) = _ + ((1 : Nat) : Int); omega⟩ (by rw [X0]; unfold isKS isOne isTy; decide)
  have hcod : cod c1 X u = -9 := by
    unfold cod
    exact if_neg (fun z => by rw [X0] at z; exact absurd z.1 (by decide))
  have wd : wid (X.o c1.2.1 0) = 3 := by rw [X0]; rfl
  have ix : ceT c1 + wid (X.o c1.2.1 0) - 1 = T + 1 + 1 := by omega
  refine ⟨m3, u, g3, c1, ?_, ⟨?_, ?_, ?_⟩, ⟨Or.inl ⟨?_, ?_, ?_, ?_, Or.inl ⟨?_, ?_⟩, fun z => ?_⟩, ?_⟩, fun jx => ?_⟩
  · rw [hR, hcod]
    exact fin
  · rw [hR, X53]
    exact tp.1
  · have z := tp.2.1
    rw [h305] at z
    rw [hR, u43, X0]
    exact z
  · rw [hR, u56, X0]
    exact w56
  · rw [hR, X0]
    unfold isOne
    decide
  · rw [hR, X0]
    decide
  · rw [hR, wd, tu]
    omega
  · rw [hR, ix]
    exact u642
  · rw [hR, ix]
    exact u652
  · rw [hR]
    exact X36
  · rw [hR, X0] at z
    exact absurd z (by decide)
  · rw [hR]
    exact Or.inr X36
  · rw [hR]
    intro crB
    obtain ⟨m5, s0, ⟨a31, -⟩, m5b, ⟨⟨e43, e59, eK⟩, l19, l11⟩, j0⟩ := jx.1 (vw S s c1) (vws S s (c :: L)) rfl h305 crB
    obtain ⟨lk, lw⟩ : LNK S c1 c ∧ LOW S s c := by
      obtain ⟨m', e', k', -, lkl, -⟩ := hC.2.1
      exact lkl c rfl
    obtain ⟨nd, nd2, ⟨yb, b0⟩, -, -, -⟩ := hC.tys (σ0 := RS.setI s 56 (s.i 56 - 1)) tp bz ty w56 (fun _ _ => rfl)
    have f66 : (vw S s c1).2.1 66 = s.a 66 (ceT c1) := vw_at (k := 66) ⟨by decide, by decide⟩
    have f72 : (vw S s c1).2.1 72 = s.a 72 (ceT c1) := vw_at (k := 72) ⟨by decide, by decide⟩
    rw [f66] at a31
    have cky := clampI (show 0 ≤ (s.a 66 (ceT c1)).toInt by omega)
    obtain ⟨E, hE⟩ : ∃ E, E = s.i 52 - 1 := ⟨_, rfl⟩
    obtain ⟨v, hvd⟩ : ∃ v, v = S.i 38 - 1 := ⟨_, rfl⟩
    rw [← hE, ← hvd] at j0
    have k11q := b1.1.2.2.2.1.1
    have k11p := o3.1.2.2.2.1.1
    have h900 := (i11_hi hv).2
    have h900u : (p5.2.i 11).toInt ≤ 900 := (i11_hi evX).2
    have veq : vws X u (c :: L) = vws S s (c :: L) := vws.eq (T := T) (fun j _ => by rw [ua 40 (by decide)]) (c :: L) (fun y hy => hC.o3 y (List.mem_cons_of_mem _ hy)) (fun y hy => (Xo1 y.2.1 (adr y hy)).1) frS (fun y hy => by
      have z1 := (hC.inlB tp y hy).2.2.1
      have z2 := wid1 (S.o y.2.1 0)
      omega)
    have j1 := j0.drp (R := CS.setI W 38 v) (u := RS.setI s 52 E) (pe.s38 (by unfold pe; rw [Wi, Wa])) (by show W.i 21 = S.i 21; rw [Wi]) (by show W.i 44 = S.i 44; rw [Wi]) (by show W.a 48 = S.a 48; rw [Wa]) (by show W.a 49 = S.a 49; rw [Wa]) rfl (Int.le_refl _) rfl
    obtain ⟨-, -, -, -, -, -, -, -, -, -, -, -, -, bi50, -, -, -, -, -, -, ba48, ba49, -, -, -, -, -, bi21, -⟩ := pj_eq b3
    obtain ⟨-, -, -, -, -, -, -, -, -, -, -, -, -, oi50, -, -, -, -, -, -, oa48, oa49, -, -, -, -, -, oi21, -⟩ := pj_eq o5
    have j2 := j1.cek (R := CS.setI p2.2 38 v) 1 (pe.s38 (ke_X9_advance N W p2 e2')) bi21 ba48 ba49 bi50 (by
      show (W.i 44).toInt + 1 ≤ (p2.2.i 44).toInt
      rw [Wi, k11, k11q]
      exact b5')
    have qq : qe q = qe s := (kre_f_X12_next N (RS.setI s 56 (s.i 56 - 1)) q hq).trans rfl
    have q40 : q.a 40 = s.a 40 := qj_a b2 40 (by decide)
    have j3 := j2.se (u := RS.setI q 52 E) (qe.s52 qq) ⟨c4'', fun j _ => by show q.a 40 j = s.a 40 j; rw [q40]⟩
    obtain ⟨r6, hr6⟩ : ∃ r6 : RVW, r6 = (fun k => if k = 0 then 216 else S.o c1.2.1 k, (vw S s c1).2) := ⟨_, rfl⟩
    have r6v : r6.v = 216 := by rw [hr6]; rfl
    have r6k : ∀ k : Nat, k ≠ 0 → r6.1 k = S.o c1.2.1 k := fun k hk => by rw [hr6]; exact if_neg hk
    have r62 : r6.2 = (vw S s c1).2 := by rw [hr6]
    clear hr6
    have t5 : isTyv (vw S s c1) := ty
    have t6 : isTyv r6 := Or.inr (Or.inr (Or.inr r6v))
    have p5n : ¬ (vw S s c1).2.2.1 = 0 := by
      show ¬ c1.1 = 0
      have := lk.1
      omega
    have p6n : ¬ r6.2.2.1 = 0 := by rw [r62]; exact p5n
    have r66 : r6.2.1 66 = s.a 66 (ceT c1) := by rw [r62]; exact f66
    have r672 : r6.2.1 72 = s.a 72 (ceT c1) := by rw [r62]; exact f72
    have e6r : rtgs r6 = [r6.1 9] := by
      unfold rtgs
      rw [r6v, if_neg (by decide), if_pos (by decide)]
    have etl : rtgs (vw S s c1) = [S.o c1.2.1 11] ++ rtgs r6 := by
      rw [e6r, r6k 9 (by decide)]
      unfold rtgs
      rw [show (vw S s c1).v = 305 from h305, if_neg (by decide), if_neg (by decide), if_neg (by decide), if_neg (by decide), if_pos rfl]
      rfl
    have j4 := j3.rl5 (r6 := r6) (tl := [S.o c1.2.1 11]) t5 t6 p5n (fun z => by
      rw [r6v] at z
      unfold isWl at z
      exact absurd z (by decide)) ⟨by rw [r6v]; decide, by rw [r6v]; decide⟩ ⟨by rw [r62], by rw [r62], by rw [r62], r6k 2 (by decide), r6k 9 (by decide), r6k 11 (by decide)⟩ etl
    have erj : rjw (tvs [S.o c1.2.1 11] ++ [r6]) = [r6] := (tvs.rjw _ _).trans (rjw.y ⟨show isTy r6.v from t6, p6n⟩)
    have j5 := j4.s30 (k := 31) (y := (s.a 66 (ceT c1)).toNatClampNeg) (v := q.i 20) (Or.inr (Or.inl rfl)) (by omega) (by
      rw [erj]
      exact ⟨r6, List.mem_cons_self, t6, by rw [r66]; exact cky⟩) (fun q' hq' tq' z => (nd q' hq' tq').1 (by
      have z1 := clampI (nd q' hq' tq').2
      exact Int32.toInt_inj.mp (by omega)))
    have j6 := j5.cek (R := CS.setI p6.2 38 v) 1 (pe.s38 (ke_X1_open N p2.2 123 p6 e6)) oi21 oa48 oa49 oi50 (by
      show (p2.2.i 44).toInt + 1 ≤ (p6.2.i 44).toInt
      rw [k11q, k11p]
      omega)
    have q66 : q.a 66 T = s.a 66 (ceT c1) := by
      rw [← hTc]
      exact (FRB.of b2 : FRB (T + 1) (RS.setI s 56 (s.i 56 - 1)) q).all 66 (by decide) (by decide)
    rw [q66] at V31
    obtain ⟨⟨h1, h2, h3, h4, h5, h6⟩, h21, h22, h23, h25, h26, h27, h28, h30, h31, h32, h34, h35, h36, h37⟩ := qe_eq (kre_f_X12_open N V 123 p5 hp5)
    have uk : ∀ k : Nat, k ≠ 31 → k ≠ 64 → k ≠ 65 → k ≠ 66 → p5.2.a k = V.a k → u.a k = q.a k := fun k k1 k2 k3 k4 e9 => by rw [ub k k2 k3 k4, e9, Vk k k1 k2 k3]
    have u52 : u.i 52 = s.i 52 := by rw [iu 52 (by decide), h6, Vi 52 (by decide), (qe_eq qq).1.2.2.2.2.2]
    have hqu : qe (RS.setI u 52 E) = qe (RS.setA (RS.setI q 52 E) 31 (s.a 66 (ceT c1)).toNatClampNeg (q.i 20)) := by
      have g : ∀ k : Nat, k ≠ 31 → u.a k = q.a k → (RS.setI u 52 E).a k = (RS.setA (RS.setI q 52 E) 31 (s.a 66 (ceT c1)).toNatClampNeg (q.i 20)).a k := fun k hk z => by
        rw [setA_nk hk]
        exact z
      have gi : ∀ k : Nat, k ≠ 63 → k ≠ 52 → p5.2.i k = V.i k → (RS.setI u 52 E).i k = (RS.setA (RS.setI q 52 E) 31 (s.a 66 (ceT c1)).toNatClampNeg (q.i 20)).i k := fun k k1 k2 z => by
        have w1 : (RS.setI u 52 E).i k = u.i k := if_neg k2
        have w2 : (RS.setA (RS.setI q 52 E) 31 (s.a 66 (ceT c1)).toNatClampNeg (q.i 20)).i k = q.i k := if_neg k2
        rw [w1, w2, iu k k1, z, Vi k k1]
      have g31 : (RS.setI u 52 E).a 31 = (RS.setA (RS.setI q 52 E) 31 (s.a 66 (ceT c1)).toNatClampNeg (q.i 20)).a 31 := by
        show u.a 31 = _
        rw [ub 31 (by decide) (by decide) (by decide), h31, V31]
        rfl
      unfold qe
      rw [gi 20 (by decide) (by decide) h1, gi 24 (by decide) (by decide) h2, gi 29 (by decide) (by decide) h3, gi 33 (by decide) (by decide) h4, gi 42 (by decide) (by decide) h5, g 21 (by decide) (uk 21 (by decide) (by decide) (by decide) (by decide) h21), g 22 (by decide) (uk 22 (by decide) (by decide) (by decide) (by decide) h22), g 23 (by decide) (uk 23 (by decide) (by decide) (by decide) (by decide) h23), g 25 (by decide) (uk 25 (by decide) (by decide) (by decide) (by decide) h25), g 26 (by decide) (uk 26 (by decide) (by decide) (by decide) (by decide) h26), g 27 (by decide) (uk 27 (by decide) (by decide) (by decide) (by decide) h27), g 28 (by decide) (uk 28 (by decide) (by decide) (by decide) (by decide) h28), g 30 (by decide) (uk 30 (by decide) (by decide) (by decide) (by decide) h30), g31, g 32 (by decide) (uk 32 (by decide) (by decide) (by decide) (by decide) h32), g 34 (by decide) (uk 34 (by decide) (by decide) (by decide) (by decide) h34), g 35 (by decide) (uk 35 (by decide) (by decide) (by decide) (by decide) h35), g 36 (by decide) (uk 36 (by decide) (by decide) (by decide) (by decide) h36), g 37 (by decide) (uk 37 (by decide) (by decide) (by decide) (by decide) h37)]
      rfl
    have j7 := j6.se (u := RS.setI u 52 E) hqu ⟨by show u.i 38 = q.i 38; rw [u38, c4''], fun j _ => by
      rw [setA_nk (by decide)]
      show u.a 40 j = q.a 40 j
      rw [ua 40 (by decide), q40]⟩
    have h44p : ∀ w : Int32, ((CS.setI p6.2 38 w).i 44).toInt ≤ 900 := fun w => by
      show (p6.2.i 44).toInt ≤ 900
      rw [k11p]
      exact h900u
    have j8 := j7.add (add_sh (D := v) e10) (h44p v) (by omega)
    have po : p10.2.o c1.2.1 11 = S.o c1.2.1 11 := by
      have z : p10.2.o = p6.2.o := by
        unfold f_X0_add at e10
        cases e10
        rfl
      rw [z, qo, ro, Wk 11 (by decide) (by decide)]
    have p44 : (CS.setI p10.2 38 v).i 44 = (CS.setI p6.2 38 v).i 44 := by
      unfold f_X0_add at e10
      cases e10
      rfl
    rw [po] at e15
    have j9 := JRG.aim (W1 := []) (W2 := [r6]) (K' := fun FC SF nm X0 ω j Z => (cTg SF (S.o c1.2.1 11)).toInt = ((pcC (CS.setI p10.2 38 v) : Nat) : Int) ∧ (SF.a 15 (pcC (CS.setI p6.2 38 v)) = 58 ∧ SF.a 16 (pcC (CS.setI p6.2 38 v)) = 0 ∧ pcC (CS.setI p6.2 38 v) < 1200 ∧ pcC (CS.setI p10.2 38 v) = pcC (CS.setI p6.2 38 v) + 1) ∧ K5 U (vw S s c1) (s.a 30 (s.a 66 (ceT c1)).toNatClampNeg) (pcC S) m5 FC SF nm X0 ω j Z) j8 (aim_sh (D := v) e15) (by rw [p44]; exact h44p v) (by omega) (fun FC SF nm X0 ω j Z h k => ⟨h, k⟩)
    have j10 := (JRG.t3 j9 (r6 := r6) List.mem_cons_self t6 p6n).p12 (by
      show (p15.2.i 44).toInt ≤ 900
      rw [← Xi 44 (by decide), k11X]
      exact h900u) (by omega)
    have pX6 : pcC (CS.setI p6.2 38 v) = pcC S := by
      show pcC p6.2 = pcC S
      rw [pcC.pe (ke_X1_open N p2.2 123 p6 e6), pcC.pe (ke_X9_advance N W p2 e2')]
      unfold pcC
      rw [Wi]
    have pX15 : pcC (CS.setI p15.2 38 v) = pcC (CS.setI p10.2 38 v) := by
      unfold f_X0_aim at e15
      cases e15
      rfl
    have pXX : pcC X = pcC (CS.setI p15.2 38 v) := by
      unfold pcC
      rw [Xi 20 (by decide)]
      rfl
    have dX : D38 (CS.setI p15.2 38 v) X := ⟨⟨Xi 20 (by decide), Xi 21 (by decide), Xi 22 (by decide), Xi 23 (by decide), Xi 44 (by decide)⟩, by rw [Xa]; rfl, by rw [Xa]; rfl, by rw [Xa]; rfl, by rw [Xa]; rfl⟩
    have g66 : (vw X u c1).2.1 66 = s.a 66 (ceT c1) := (vw_at (k := 66) ⟨by decide, by decide⟩).trans (by rw [← hTc]; exact mf 66 (by decide) (by decide) (by decide))
    have g72 : (vw X u c1).2.1 72 = s.a 72 (ceT c1) := (vw_at (k := 72) ⟨by decide, by decide⟩).trans (by rw [← hTc]; exact mf 72 (by decide) (by decide) (by decide))
    have gv : (vw X u c1).v = 216 := X0
    have pru : ((pcR u : Nat) : Int) = (u.i 20).toInt := by
      have z1 := evu.p20.1
      unfold pcR
      omega
    have eng : ∀ (G : GHT) (ω h l : Nat), jen G ω (vw X u c1) h l = [(3, h, (S.o c1.2.1 9).toNatClampNeg - 2, (s.a 66 (ceT c1)).toNatClampNeg, 0, 0, ω + l)] := fun G ω h l => by
      unfold jen
      rw [gv, if_neg (by decide), if_neg (by decide), if_neg (by decide), if_pos rfl, g66, show (vw X u c1).1 9 = S.o c1.2.1 9 from Xk 9 (by decide) (by decide)]
      rfl
    have u31 : u.a 31 (s.a 66 (ceT c1)).toNatClampNeg = q.i 20 := by
      rw [ub 31 (by decide) (by decide) (by decide), h31, V31, setA_at]
    have q20u : q.i 20 = u.i 20 := by rw [b6', u20]
    refine (show JRW Aj U B b (vw X u c1 :: vws X u (c :: L)) X u from ?_) crB
    rw [veq]
    refine JRG.pty (r6 := r6) (R0 := CS.setI p15.2 38 v) (u0 := RS.setI u 52 E) (tl := []) (pcR u, 0, [(s.a 30 (s.a 66 (ceT c1)).toNatClampNeg, 0)]) (fun z => z.ps (by rw [Xa]; rfl) (by rw [Xa]; rfl) (show u.i 52 = E + d32 (vw X u c1).v by rw [d32.yes (Or.inr (Or.inr (Or.inr (Or.inl gv))))]; rw [u52, hE]; exact (Int32.sub_add_cancel _ _).symm) (Int.le_refl _)) dX D52.s52 j10 (Or.inr gv) t6 p6n (fun z => ?_) ⟨by rw [r62]; rfl, by rw [g66, r66], by rw [g72, r672], by rw [r6k 2 (by decide)]; exact Xk 2 (by decide) (by decide), by rw [r6k 9 (by decide)]; exact Xk 9 (by decide) (by decide), by rw [r6k 11 (by decide)]; exact Xk 11 (by decide) (by decide)⟩ ⟨by omega, fun z => absurd (gv.symm.trans z) (by decide)⟩ (Or.inl (by omega)) ⟨by rw [u43]; exact e43, by rw [i59]; exact e59, fun k hk => ?_⟩ ?_ ?_ (fun q' hq' => vws.pl hC q' hq') ?_ (by rw [g66]; omega) (fun _ => by rw [g66, u31, q20u]; exact pru.symm) (fun z => absurd (gv.symm.trans z) (by decide)) (fun z hz => by rw [List.mem_singleton.mp hz, g66, ua 30 (by decide)]) (fun nm G ω j gq ng fr hc' hh d2 => ?_) (fun FC SF nm X' G ω j Z gq hω r12 hc' tyc tl k jr' cur => ?_)
    · rw [gv] at z
      unfold isWl at z
      exact absurd z (by decide)
    · rw [ua k (by omega)]
      exact eK k hk
    · rw [iu 19 (by decide), o12, Vi 19 (by decide), b10']
      omega
    · rw [u11]
      omega
    · show (rtgs (vw X u c1)).Perm ([] ++ rtgs r6)
      rw [e6r, r6k 9 (by decide)]
      unfold rtgs
      rw [gv, if_neg (by decide), if_pos (by decide), show (vw X u c1).1 9 = S.o c1.2.1 9 from Xk 9 (by decide) (by decide)]
      exact List.Perm.refl _
    · rw [eng]
      have n38 : (frs j.c : Int) = v.toInt := ng.2.1
      have n52 : (j.c.length : Int) = E.toInt := ng.2.2.1
      have hh' : ((2 * j.h + (j.c.length + 3 * ops j.c) : Nat) : Int) ≤ (s0.i 11).toInt := hh
      have f22 := hc'.2.2.1
      have u19 : (u.i 19).toInt = (s.i 19).toInt + 1 := by
        rw [iu 19 (by decide), o12, Vi 19 (by decide), b10']
      have h20 : (u.i 19).toInt ≤ 20 := evu.2.2.1.2.2
      refine ⟨ng.push (e := (3, j.h, (S.o c1.2.1 9).toNatClampNeg - 2, (s.a 66 (ceT c1)).toNatClampNeg, 0, 0, ω + j.l)) (by rw [Xa]; rfl) (by rw [Xa]; rfl) rfl rfl ?_ ?_ ?_ ?_, hc'.fin (by omega), ?_, fun z => absurd (gv.symm.trans z) (by decide)⟩
      · show (X.i 38).toInt = v.toInt + (if (3 : Nat) ≤ 3 then 1 else 0)
        rw [if_pos (by decide), X38, show S.i 38 = v + 1 by rw [hvd]; exact (Int32.sub_add_cancel _ _).symm, ad1 (by omega) (by omega)]
      · show (u.i 52).toInt = E.toInt + 1
        rw [u52, show s.i 52 = E + 1 by rw [hE]; exact (Int32.sub_add_cancel _ _).symm, ad1 (by omega) (by omega)]
      · show ((frs j.c + (if (3 : Nat) ≤ 3 then 1 else 0) : Nat) : Int) ≤ _
        rw [if_pos (by decide)]
        omega
      · exact (ng.2.2.2.d dX D52.s52).cons (show ¬ (3 : Nat) = 2 by decide) (show ¬ (3 : Nat) = 4 by decide)
      · show ((2 * j.h + ((j.c.length + 1) + 3 * (ops j.c + (if (3 : Nat) = 1 then 0 else 0))) : Nat) : Int) ≤ _
        rw [if_neg (by decide), u11]
        omega
    · obtain ⟨pl2, t3d, ct, ⟨s15, -, sp, pe1⟩, k5⟩ := k
      rw [pX6] at s15 sp pe1
      rw [← pXX] at pl2
      rw [← pX15, ← pXX] at pe1 ct
      obtain ⟨-, tex, -, t16, t30⟩ := jr'
      obtain ⟨q31, kh⟩ := t16 gv
      rw [gq] at q31
      rw [g66] at q31 tex
      rw [show (vw X u c1).1 9 = S.o c1.2.1 9 from Xk 9 (by decide) (by decide), show (vw X u c1).1 6 = S.o c1.2.1 6 from Xk 6 (by decide) (by decide)] at tex
      have khe : khd U (vw X u c1) = khd U (vw S s c1) := by
        unfold khd
        rw [g66, g72, f66, f72]
      rw [khe] at kh
      have cu := cur X36
      rw [eng, gv] at cu
      have jl : jlv 216 = 1264 := rfl
      rw [jl] at cu
      refine k5 ⟨1, by omega, sp, Or.inl ⟨s15, kh⟩⟩ (Or.inr ⟨pcC X, pcR u, _, ?_, fun a ha => ?_, pl2, cu.1, ?_⟩) (fun h6' z => ?_) (fun _ => ?_)
      · show (U.a 31 ((vw S s c1).2.1 66).toNatClampNeg).toInt = _
        rw [f66]
        exact q31
      · have ha' : a.toInt = (((S.o c1.2.1 9).toNatClampNeg - 2 : Nat) : Int) := ha
        have t9 := t3d.1
        have t11 := t3d.2.1
        rw [r6k 9 (by decide), r6k 11 (by decide)] at t9
        rw [r6k 11 (by decide)] at t11
        have ck9 := clampI (show 0 ≤ (S.o c1.2.1 9).toInt by omega)
        have lt9 := Int32.toInt_lt (S.o c1.2.1 9)
        have ea : a + 1 = S.o c1.2.1 11 := Int32.toInt_inj.mp (by
          rw [ad1 (by omega) (by omega)]
          omega)
        rw [ea]
        exact ct
      · omega
      · rw [f66] at z ⊢
        exact tex h6' z
      · have z := t30 (Or.inr gv)
        rw [gq, g66] at z
        rw [f66]
        exact z _ List.mem_cons_self
