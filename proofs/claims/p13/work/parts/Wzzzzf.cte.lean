/-! both readers: a catch's head ends, its block begins -/
theorem x4_fr {N : Nat} {S : CS} {l : Int64} {c v : Int32} {w : Unit × CS} (h : (S.i 50).toInt < 128) (e : f_X4_add N S l c v = some w) : (∀ k : Nat, k ≠ 50 → w.2.i k = S.i k) ∧ w.2.i 50 = S.i 50 + 1 ∧ (w.2.r = S.r ∧ w.2.o = S.o ∧ w.2.ol = S.ol ∧ (w.2.hs = S.hs ∧ w.2.L = S.L ∧ w.2.k = S.k)) ∧ (w.2.a 18 = S.a 18 ∧ w.2.a 52 = S.a 52) := by
  unfold f_X4_add at e
  have e128 : (128 : Int32).toInt = 128 := by decide
  rw [if_neg (show ¬ 128 ≤ S.i 50 from fun q => by have := le_int q; omega)] at e
  obtain ⟨-, e⟩ := hf_ite e
  cases e
  exact ⟨fun k hk => ci_ne _ _ _ hk, ci_at _ _ _, ⟨rfl, rfl, rfl, rfl, rfl, rfl⟩, ⟨rfl, rfl⟩⟩
/-- from behind the kinds to the block -/
def CTE (T : Nat) (P R : CS) (q u : RS) : Prop := (tpI u = ((T + 1 + 1 : Nat) : Int) ∧ FRB T q u ∧ (∀ k : Nat, 64 ≤ k → k ≤ 73 → k ≠ 65 → u.a k T = q.a k T) ∧ u.a 65 T = 3) ∧ (u.a 64 (T + 1) = 3 ∧ u.a 65 (T + 1) = 1 ∧ u.a 64 (T + 1 + 1) = 1 ∧ u.a 65 (T + 1 + 1) = 0) ∧ ((u.i 38).toInt = (q.i 38).toInt + 1 ∧ ∀ j : Nat, (j : Int) < (q.i 38).toInt → u.b 39 j = q.b 39 j ∧ u.a 40 j = q.a 40 j ∧ u.a 41 j = q.a 41 j) ∧ (∀ k : Nat, (k = 2 ∨ k = 3 ∨ k = 8 ∨ k = 20 ∨ k = 24 ∨ k = 29 ∨ k = 33 ∨ k = 43 ∨ k = 56 ∨ k = 59) → u.i k = q.i k) ∧ (u.b 9 = q.b 9 ∧ u.b 45 = q.b 45) ∧ (∀ k : Nat, (k = 1 ∨ k = 4 ∨ k = 22 ∨ k = 25 ∨ k = 27 ∨ k = 28 ∨ k = 30 ∨ k = 34 ∨ k = 37 ∨ k = 44 ∨ k = 46 ∨ k = 47 ∨ k = 48 ∨ k = 49 ∨ k = 50 ∨ k = 51 ∨ k = 57 ∨ k = 58 ∨ k = 60 ∨ k = 61 ∨ k = 62) → u.a k = q.a k) ∧ (R.i 21 = P.i 21 ∧ R.i 22 = P.i 22 ∧ R.i 38 = P.i 38 ∧ R.i 53 = P.i 53 ∧ R.i 54 = P.i 54 ∧ R.i 55 = P.i 55 ∧ R.i 56 = P.i 56) ∧ R.i 50 = P.i 50 + 1 ∧ R.i 36 = 1 ∧ (R.r = P.r ∧ R.o = P.o ∧ R.ol = P.ol ∧ (R.hs = P.hs ∧ R.L = P.L ∧ R.k = P.k)) ∧ (R.a 18 = P.a 18 ∧ R.a 52 = P.a 52) ∧ ((q.i 11).toInt + 3 ≤ (u.i 11).toInt ∧ phI q + 9 ≤ phI u ∧ (q.i 17).toInt + 3 ≤ (u.i 17).toInt ∧ (u.i 19).toInt = (q.i 19).toInt)
/-- the code of a catch's end, and its tables -/
def CTY (N a : Nat) (xb x2 : Int32) (P R : CS) (q u : RS) : Prop := (∃ p40 p45 p49 p53 : Unit × CS, (p40.2.i 20 = P.i 20 ∧ p40.2.i 21 = P.i 21 ∧ p40.2.i 22 = P.i 22 ∧ p40.2.i 23 = P.i 23 + 1 ∧ p40.2.i 38 = P.i 38 ∧ (P.i 44).toInt + 3 ≤ (p40.2.i 44).toInt) ∧ (p40.2.a 15 = P.a 15 ∧ p40.2.a 16 = P.a 16 ∧ p40.2.a 17 = P.a 17 ∧ p40.2.a 19 = P.a 19) ∧ ((∀ k : Nat, (k : Int) < (P.i 50).toInt → p40.2.a 48 k = P.a 48 k ∧ p40.2.a 49 k = P.a 49 k) ∧ p40.2.a 48 (P.i 50).toNatClampNeg = P.i 23 ∧ p40.2.a 49 (P.i 50).toNatClampNeg = P.i 38 - 1) ∧ f_X0_add N p40.2 30 (P.o a 10) = some p45 ∧ f_X0_aim N p45.2 xb = some p49 ∧ f_X0_add N p49.2 57 (P.i 23) = some p53 ∧ R = CS.setI p53.2 36 1) ∧ (u.i 52 = q.i 52 ∧ u.i 42 = q.i 42 + 1 ∧ u.a 40 (q.i 38).toNatClampNeg = q.i 42) ∧ (∀ k : Nat, (k = 21 ∨ k = 23 ∨ k = 26 ∨ k = 31 ∨ k = 32) → u.a k = q.a k) ∧ (∀ j : Nat, (j : Int) < x2.toInt → u.a 35 j = q.a 35 j ∧ u.a 36 j = q.a 36 j) ∧ ∀ j : Nat, x2.toInt ≤ (j : Int) → (j : Int) < (q.i 33).toInt → u.a 35 j = q.i 20 ∧ u.a 36 j = q.i 42
theorem x4_at {N : Nat} {S : CS} {l : Int64} {c v : Int32} {w : Unit × CS} (h0 : 0 ≤ (S.i 50).toInt) (h : (S.i 50).toInt < 128) (e : f_X4_add N S l c v = some w) : (∀ k : Nat, k ≠ 48 → k ≠ 49 → w.2.a k = S.a k) ∧ (∀ k : Nat, (k : Int) < (S.i 50).toInt → w.2.a 48 k = S.a 48 k ∧ w.2.a 49 k = S.a 49 k) ∧ w.2.a 48 (S.i 50).toNatClampNeg = c ∧ w.2.a 49 (S.i 50).toNatClampNeg = v := by
  unfold f_X4_add at e
  have e128 : (128 : Int32).toInt = 128 := by decide
  rw [if_neg (show ¬ 128 ≤ S.i 50 from fun q => by have := le_int q; omega)] at e
  obtain ⟨-, e⟩ := hf_ite e
  cases e
  have ck := clampI h0
  refine ⟨fun k h1 h2 => (if_neg h2).trans (if_neg h1), fun k hk => ⟨?_, ?_⟩, ?_, ?_⟩
  · show upd (S.a 48) (S.i 50).toNatClampNeg c k = _
    exact if_neg (by omega)
  · show upd (S.a 49) (S.i 50).toNatClampNeg v k = _
    exact if_neg (by omega)
  · show upd (S.a 48) (S.i 50).toNatClampNeg c (S.i 50).toNatClampNeg = _
    exact if_pos rfl
  · show upd (S.a 49) (S.i 50).toNatClampNeg v (S.i 50).toNatClampNeg = _
    exact if_pos rfl
theorem y_see2 {N : Nat} {s : RS} {l : Int64} {y : Int32} {z : Int32 × RS} (g : f_X12_see N s l y = some z) : z.2.i 42 = s.i 42 + 1 ∧ z.2.a 40 (s.i 38).toNatClampNeg = s.i 42 ∧ z.1 = s.i 42 := by
  unfold f_X12_see at g
  obtain ⟨-, g⟩ := hf_ite g
  cases g
  refine ⟨rfl, ?_, Int32.add_sub_cancel _ _⟩
  rw [rsI_a, rsI_a, setA_nk (by decide), setA_at]
set_option maxHeartbeats 4000000 in
theorem ct_end {N : Nat} (hN : 1000 ≤ N) {d : Int32} {P : CS} {q U V : RS} {a T n : Nat} {xb x2 : Int32} {R : Unit × CS} (ew : ENW d P q) (rw0 : RWI P) (h38 : 1 ≤ (P.i 38).toInt) (tq : tpI q = (T : Int)) (h19 : 1 ≤ (q.i 19).toInt) (hb : 8 * ((q.i 38).toInt - 1) ≤ (q.i 11).toInt + 2) (e : f_X7_beginCatch_80 N P a xb = some R) (g : f_X12_catching_256 N q x2 = some V) (gp : f_X12_parse_10 N n V = some U) : (¬ R.2.i 32 = 0 ∧ ¬ U.i 15 = 0) ∨ ∃ (m : Nat) (u : RS), f_X12_parse_10 N m u = some U ∧ ENW d R.2 u ∧ CTE T P R.2 q u ∧ CTY N a xb x2 P R.2 q u := by
  have h15 := ew.1.2.1
  have i2 := ew.1.2.2.2.1.is (c := 2) (d := 2) (Or.inl ⟨by decide, by decide⟩) (by decide)
  unfold f_X7_beginCatch_80 at e
  obtain ⟨p24, e24, e⟩ := hf_bind e
  obtain ⟨p28, e28, e⟩ := hf_bind e
  obtain ⟨p32, e32, e⟩ := hf_bind e
  obtain ⟨p36, e36, e⟩ := hf_bind e
  obtain ⟨p40, e40, e⟩ := hf_bind e
  obtain ⟨-, e⟩ := hf_ite e
  obtain ⟨p45, e45, e⟩ := hf_bind e
  obtain ⟨p49, e49, e⟩ := hf_bind e
  obtain ⟨p53, e53, e⟩ := hf_bind e
  have hR : R.2 = CS.setI p53.2 36 1 := by rw [← Option.some.inj e]
  clear e
  have f40 : ¬ p40.2.i 32 = 0 → ¬ R.2.i 32 = 0 := fun z => by
    have z1 : ¬ p45.2.i 32 = 0 := by rw [kF_X0_add N p40.2 _ _ p45 e45 z]; exact z
    have z2 : ¬ p49.2.i 32 = 0 := by rw [kF_X0_aim N p45.2 _ p49 e49 z1]; exact z1
    have z3 : ¬ p53.2.i 32 = 0 := by rw [kF_X0_add N p49.2 _ _ p53 e53 z2]; exact z2
    rw [hR]
    exact z3
  have f36 : ¬ p36.2.i 32 = 0 → ¬ R.2.i 32 = 0 := fun z => f40 (by rw [kF_X1_open N p36.2 _ p40 e40 z]; exact z)
  have f28 : ¬ p28.2.i 32 = 0 → ¬ R.2.i 32 = 0 := fun z => by
    have z1 : ¬ p32.2.i 32 = 0 := by rw [kF_X4_add N p28.2 _ _ _ p32 e32 z]; exact z
    exact f36 (by rw [kF_X1_close N p32.2 _ p36 e36 z1]; exact z1)
  have kd24 : pj2 p24.2 = pj2 P := nc_kd e24
  have ev : ENV d p24.2 q := (ew.v rw0).kd kd24
  obtain ⟨⟨y1, y2, y3, y4⟩, ⟨y5, y6⟩, ⟨y7, y8, y9, y10, y11⟩, ⟨y12, y13, y14, y15, y16, y17, y18⟩⟩ := kd_all kd24
  unfold f_X7_newName f_X7_newName_56 at e28
  unfold f_X12_catching_256 f_X12_catching_277 at g
  by_cases c : p24.2.i 43 = 2
  rotate_left
  · rw [e_fnd0 c, ob_some, if_pos rfl] at e28
    obtain ⟨p19, e19, e28⟩ := hf_bind e28
    cases e28
    rw [if_neg (fun z => c (y12.trans (i2.mpr z)))] at g
    obtain ⟨w, hw, g⟩ := hf_bind g
    obtain ⟨w1, w2⟩ := y_can0 hw
    rw [if_pos w1] at g
    cases g
    exact Or.inl ⟨f28 (y_misp e19), u_flt gp w2⟩
  rw [e_fnd1 c, ob_some, if_neg n10] at e28
  have k10 := i2.mp (y12.symm.trans c)
  rw [if_pos k10, y_can1 h15 (by rw [k10]; decide), ob_some, if_neg n10] at g
  obtain ⟨F, eF, e28⟩ := hf_bind e28
  obtain ⟨G, gG, g⟩ := hf_bind g
  have ll : p24.2.l = q.l := ev.1.2.2.2.1.2.2.2.2.1 c
  have eF' : f_X4_find N p24.2 q.l = some F := by rw [← ll]; exact eF
  obtain ⟨z1, z2, z3, z4, z5⟩ := y_find ev eF' gG
  by_cases cF : F.1 < 0
  rotate_left
  · rw [if_neg cF] at e28
    rw [if_neg (show ¬ G.1 < 0 by rw [← z3]; exact cF), z2] at g
    obtain ⟨p23, h23, g⟩ := hf_bind g
    have f4 : ¬ p23.i 15 = 0 := by
      unfold f_X12_fail at h23
      rw [if_pos h15] at h23
      rw [← Option.some.inj h23]
      show ¬ (4 : Int32) = 0
      decide
    cases g
    obtain ⟨p15, e15, e28⟩ := hf_bind e28
    cases e28
    exact Or.inl ⟨f28 (y_fail (by decide) e15), u_flt gp f4⟩
  rw [if_pos cF, z1] at e28
  rw [if_pos (show G.1 < 0 by rw [← z3]; exact cF), z2] at g
  obtain ⟨A, eA, e28⟩ := hf_bind e28
  have h28 : p28 = (p24.2.l, A.2) := (Option.some.inj e28).symm
  obtain ⟨p13, h13, g⟩ := hf_bind g
  obtain ⟨p15, h15', g⟩ := hf_bind g
  obtain ⟨p17, h17, g⟩ := hf_bind g
  have e32' : f_X4_add N A.2 q.l p24.1 (A.2.i 38 - 1) = some p32 := by
    rw [h28] at e32
    rw [← ll]
    exact e32
  have F1 : F.1 = -1 := by
    rcases z4 with w | ⟨k, k1, -⟩
    · exact w
    · exfalso
      have := lt_int cF
      rw [z_t0] at this
      omega
  have pjA := kc_X9_advance N p24.2 A eA
  obtain ⟨-, -, -, -, -, -, -, -, -, -, x36, -, x38, x50, x53, x54, x55, x56, -, -, -, -, x52, xr, xo, xol, -, x21, xhk⟩ := pj_eq pjA
  have hvv : 0 ≤ (A.2.i 38 - 1).toInt := by
    have e1 : (1 : Int32).toInt = 1 := by decide
    have hi := Int32.toInt_lt (P.i 38)
    rw [x38, y11, toInt_sub] <;> rw [e1] <;> omega
  have bt : vp_nar .boolean (1 : Int32) = 1 := by decide
  obtain ⟨b1, b2, b3, b4, b5, b6, b7, b8, b9, b10⟩ := nm_adv hN ev (by rw [c]; decide) hb (z5 F1) ⟨fun _ => by rw [bt]; decide, fun _ => hvv⟩ eA e32' h13 h15'
  have t17 : (p15.i 17).toInt = (q.i 17).toInt + 1 := by rw [b4, t17_up (N := N) ev]
  have hh := nms_hi ev
  have n1 := ev.2.1.1
  obtain ⟨v1, v2, ⟨v3, v4, v5, v6⟩, v7, v8⟩ := x4_fr (by rw [x50, n1]; exact hh.2) e32'
  -- the sign closes
  rcases w_close hN b1.w (by rw [b10]; exact h19) e36 h17 with ⟨o1, o2, o3⟩ | ⟨o1, o2, o3, o4, o5, o6, o7, o8, o9, o10, o11⟩
  · exact Or.inl ⟨f36 o2, u_flt gp (krf_f_X12_catching_323 N N p17.2 _ _ V g o3)⟩
  obtain ⟨u2, t2, ui, ua, ub, ul, u35, u35'⟩ := ct_323 N p17.2 _ g
  have ew2 : ENW d p36.2 u2 := by
    have ai : ∀ k : Nat, u2.i k = p17.2.i k := fun k => by rw [ui]
    refine o2.kq (ai 38) (ai 2) (ai 3) (ai 18) (ai 53) (ai 54) (ai 55) (ua 1 (by decide) (by decide)) (ua 4 (by decide) (by decide)) (ua 41 (by decide) (by decide)) (by rw [ub]) (by rw [ub]) (ai 10) (ai 11) (ai 12) (ai 14) (ai 15) (ai 17) (ai 19) ul ?_ (o2.wp.of (by rw [ai 43]; exact Int.le_refl _) (ai 56) (ai 59) (ai 29) (ua 58 (by decide) (by decide)) (ua 62 (by decide) (by decide)))
    unfold phI
    rw [ai 20, ai 17]
    exact ⟨o2.2.2.2.2.2.2.1, o2.2.2.2.2.2.2.2.1⟩
  obtain ⟨gz, gs1, gsi, gsa, gsb, gsl, gsr⟩ := y_see h13
  have t13 : tpI p13.2 = (T : Int) := by
    show (p13.2.i 63).toInt = _
    rw [gsi 63 (by decide) (by decide)]
    exact tq
  have t17' : tpI p17.2 = (T : Int) := qj_63 o3 (qj_63 b2 t13)
  have tu2 : tpI u2 = (T : Int) := by
    show (u2.i 63).toInt = _
    rw [ui]
    exact t17'
  -- the block's frame
  obtain ⟨hVe, t99⟩ := r_then tu2 t2
  have ewV : ENW d p36.2 V := by rw [hVe]; exact ew2.th
  have tV : tpI V = ((T + 1 : Nat) : Int) := by rw [hVe]; exact TH.tp tu2 (by omega)
  have V64 : V.a 64 (T + 1) = 3 := by rw [hVe]; exact TH.fk
  have V65 : V.a 65 (T + 1) = 0 := by rw [hVe]; exact TH.fs
  have V65' : V.a 65 T = 3 := by rw [hVe]; exact TH.st
  have V64' : V.a 64 T = u2.a 64 T := by
    rw [hVe, TH.fk0 (Nat.le_refl T)]
  have Vk : ∀ k : Nat, k ≠ 64 → k ≠ 65 → V.a k = u2.a k := fun k h2 h3 => by
    rw [hVe, TH.loc h2 h3]
  have Vi : ∀ k : Nat, k ≠ 63 → V.i k = u2.i k := fun k h => by
    rw [hVe]
    exact if_neg h
  have Vb : V.b = u2.b := by rw [hVe]; rfl
  have frV : FRB T u2 V := by
    rw [hVe]
    exact TH.frb
  clear hVe
  obtain ⟨m3, V2, hV2, g3⟩ := rl_3 gp tV ewV.1.2.1 V64
  unfold f_X12_block at hV2
  obtain ⟨-, hV2⟩ := hf_ite hV2
  rw [tp_nat tV, if_pos V65] at hV2
  obtain ⟨p5, hp5, hV2⟩ := hf_bind hV2
  rw [ob_id] at hV2
  rcases w_open hN ewV (c := 123) (d := 123) (Or.inl ⟨by decide, by decide⟩) (by decide) (by decide) (by decide) e40 hp5 with ⟨w1, w2, w3⟩ | ⟨w1, w2, w3, w4, w5, w6, w7, w8, w9, w10, w11, w12, w13, w14⟩
  · exact Or.inl ⟨f40 w2, u_flt g3 (krf_f_X12_then N _ 1 1 V2 hV2 (show ¬ (RS.setA p5.2 66 (T + 1) (p5.2.i 38)).i 15 = 0 from w3))⟩
  refine Or.inr ?_
  have tp5 : tpI p5.2 = ((T + 1 : Nat) : Int) := qj_63 w4 tV
  obtain ⟨hue, t98⟩ := r_then (s := RS.setA p5.2 66 (T + 1) (p5.2.i 38)) tp5 hV2
  -- the class's last state
  have kd53 : pj2 p53.2 = pj2 p40.2 := (kd_X0_add N _ _ _ p53 e53).trans ((kd_X0_aim N _ _ p49 e49).trans (kd_X0_add N _ _ _ p45 e45))
  obtain ⟨⟨q1, q2, q3, q4⟩, ⟨q5, q6⟩, ⟨q7, q8, q9, q10, q11⟩, ⟨q12, q13, q14, q15, q16, q17, q18⟩⟩ := kd_all kd53
  obtain ⟨-, -, -, -, -, -, -, -, -, -, j36, -, j38, j50, j53, j54, j55, j56, -, -, -, -, j52, jr, jo, jol, -, j21, jhk⟩ := pj_eq w5
  obtain ⟨-, -, -, -, -, -, -, -, -, -, k36, -, k38, k50, k53, k54, k55, k56, -, -, -, -, k52, kr, ko, kol, -, k21, khk⟩ := pj_eq o4
  obtain ⟨X, hX⟩ : ∃ X, X = CS.setI p53.2 36 1 := ⟨_, rfl⟩
  rw [← hX] at hR
  have Xi : ∀ k : Nat, k ≠ 36 → X.i k = p53.2.i k := fun k hk => by
    rw [hX]
    exact ci_ne _ _ _ hk
  have X36 : X.i 36 = 1 := by rw [hX, ci_at]
  have Xo : X.o = p53.2.o := by rw [hX]; rfl
  have Xr : X.r = p53.2.r := by rw [hX]; rfl
  have Xol : X.ol = p53.2.ol := by rw [hX]; rfl
  have Xhk : X.hs = p53.2.hs ∧ X.L = p53.2.L ∧ X.k = p53.2.k := by
    rw [hX]
    exact ⟨rfl, rfl, rfl⟩
  have Xa : X.a = p53.2.a := by rw [hX]; rfl
  have hXe := hX
  have ewX : ENW d X p5.2 := by
    rw [hX]
    exact (w3.kd kd53).gx (fun j _ q2 _ _ _ _ _ => ci_ne _ _ _ q2) ⟨rfl, rfl, rfl⟩ rfl rfl (w3.kd kd53).sj (w3.kd kd53).t21
  clear hX
  rw [hR]
  obtain ⟨u, hu⟩ : ∃ y, y = TH (RS.setA p5.2 66 (T + 1) (p5.2.i 38)) (T + 1) 1 1 := ⟨_, rfl⟩
  have ewu : ENW d X u := by rw [hu]; exact (ewX.sa (Or.inr (Or.inr ⟨by decide, by decide⟩))).th
  have fu : FRB (T + 1) p5.2 u := by rw [hu]; exact (setA_frb (Or.inr ⟨by decide, by decide, Nat.le_refl _⟩)).tr TH.frb
  have iu : ∀ k : Nat, k ≠ 63 → u.i k = p5.2.i k := by
    rw [hu]
    exact fun k h => if_neg h
  have u641 : u.a 64 (T + 1) = 3 := by
    rw [hu, TH.fk0 (Nat.le_refl _), setA_nk (by decide), (FRB.of w4 : FRB (T + 1 + 1) V p5.2).all 64 (by decide) (by decide)]
    exact V64
  have u651 : u.a 65 (T + 1) = 1 := by rw [hu]; exact TH.st
  have u642 : u.a 64 (T + 1 + 1) = 1 := by rw [hu]; exact TH.fk
  have u652 : u.a 65 (T + 1 + 1) = 0 := by rw [hu]; exact TH.fs
  have tu : tpI u = ((T + 1 + 1 : Nat) : Int) := by rw [hu]; exact TH.tp (u := RS.setA p5.2 66 (T + 1) (p5.2.i 38)) tp5 (by omega)
  have uk : ∀ k : Nat, k ≠ 64 → k ≠ 65 → k ≠ 66 → u.a k = p5.2.a k := fun k h1 h2 h3 => by
    rw [hu, TH.loc h1 h2, setA_nk h3]
  have ubx : u.b = p5.2.b := by rw [hu]; rfl
  rw [hue, ← hu] at g3
  clear hu hue hV2
  -- from q to u
  have fs : FRB (T + 1) V u := (FRB.of w4 : FRB (T + 1) V p5.2).tr fu
  have f2u : ∀ k : Nat, 64 ≤ k → k ≤ 73 → ∀ j : Nat, u2.a k j = q.a k j := fun k h1 h2 j => by
    rw [ua k (by omega) (by omega), (FRB.of o3 : FRB (j + 1) p15 p17.2).all k h1 h2, (FRB.of b2 : FRB (j + 1) p13.2 p15).all k h1 h2, gsa k (by omega) (by omega)]
  have b74 : u2.b 74 = q.b 74 := by
    rw [ub]
    funext j
    rw [((FRB.of o3 : FRB (j + 1) p15 p17.2) j (by omega)).2.2.2.2.2.2.2.2.2.2, ((FRB.of b2 : FRB (j + 1) p13.2 p15) j (by omega)).2.2.2.2.2.2.2.2.2.2, gsb 74 (by decide)]
  have fr2 : FRB T q u2 := fun j _ => ⟨f2u 64 (by decide) (by decide) j, f2u 65 (by decide) (by decide) j, f2u 66 (by decide) (by decide) j, f2u 67 (by decide) (by decide) j, f2u 68 (by decide) (by decide) j, f2u 69 (by decide) (by decide) j, f2u 70 (by decide) (by decide) j, f2u 71 (by decide) (by decide) j, f2u 72 (by decide) (by decide) j, f2u 73 (by decide) (by decide) j, by rw [b74]⟩
  have mf : ∀ k : Nat, 64 ≤ k → k ≤ 73 → k ≠ 65 → u.a k T = q.a k T := fun k h1 h2 h3 => by
    rw [fs.all k h1 h2, ← f2u k h1 h2 T]
    by_cases y : k = 64
    · rw [y, V64']
    · rw [Vk k y h3]
  have u65 : u.a 65 T = 3 := by
    rw [fs.all 65 (by decide) (by decide)]
    exact V65'
  have i5 := qj_eq w4
  have i7 := qj_eq o3
  have i3 := qj_eq b2
  have sc : ∀ k : Nat, (k = 2 ∨ k = 3 ∨ k = 8 ∨ k = 24 ∨ k = 29 ∨ k = 33 ∨ k = 43 ∨ k = 56 ∨ k = 59) → u.i k = q.i k := fun k hk => by
    have l1 : u.i k = p5.2.i k := iu k (by omega)
    have l3 : V.i k = u2.i k := Vi k (by omega)
    have l4 : u2.i k = p17.2.i k := by rw [ui]
    have l7 : p13.2.i k = q.i k := gsi k (by omega) (by omega)
    obtain ⟨A2, A3, A8, -, A24, A29, A33, -, -, A43, -, -, -, -, A56, A59, -⟩ := i5
    obtain ⟨B2, B3, B8, -, B24, B29, B33, -, -, B43, -, -, -, -, B56, B59, -⟩ := i7
    obtain ⟨C2, C3, C8, -, C24, C29, C33, -, -, C43, -, -, -, -, C56, C59, -⟩ := i3
    rw [l1]
    rcases hk with z | z | z | z | z | z | z | z | z <;> rw [z] at l3 l4 l7 ⊢
    · rw [A2, l3, l4, B2, C2, l7]
    · rw [A3, l3, l4, B3, C3, l7]
    · rw [A8, l3, l4, B8, C8, l7]
    · rw [A24, l3, l4, B24, C24, l7]
    · rw [A29, l3, l4, B29, C29, l7]
    · rw [A33, l3, l4, B33, C33, l7]
    · rw [A43, l3, l4, B43, C43, l7]
    · rw [A56, l3, l4, B56, C56, l7]
    · rw [A59, l3, l4, B59, C59, l7]
  have u20 : u.i 20 = q.i 20 := by rw [iu 20 (by decide), w8, Vi 20 (by decide), ui, o6, b6]
  have u22 : u.a 22 = q.a 22 := by rw [uk 22 (by decide) (by decide) (by decide), w9, Vk 22 (by decide) (by decide), ua 22 (by decide) (by decide), o7, b7]
  have tb : ∀ k : Nat, (k = 1 ∨ k = 4 ∨ k = 25 ∨ k = 27 ∨ k = 28 ∨ k = 30 ∨ k = 34 ∨ k = 37 ∨ k = 40 ∨ k = 41 ∨ k = 44 ∨ k = 46 ∨ k = 47 ∨ k = 48 ∨ k = 49 ∨ k = 50 ∨ k = 51 ∨ k = 57 ∨ k = 58 ∨ k = 60 ∨ k = 61 ∨ k = 62) → u.a k = p13.2.a k := fun k hk => by
    rw [uk k (by omega) (by omega) (by omega), qj_a w4 k hk, Vk k (by omega) (by omega), ua k (by omega) (by omega), qj_a o3 k hk, qj_a b2 k hk]
  have u38 : (u.i 38).toInt = (q.i 38).toInt + 1 := by
    have z : u.i 38 = p13.2.i 38 := by
      rw [iu 38 (by decide), i5.2.2.2.2.2.2.2.1, Vi 38 (by decide), ui, i7.2.2.2.2.2.2.2.1, i3.2.2.2.2.2.2.2.1]
    rw [z, gs1]
    exact ad1 (by omega) (by omega)
  have bb : u.b 9 = p13.2.b 9 ∧ u.b 39 = p13.2.b 39 ∧ u.b 45 = p13.2.b 45 := by
    rw [ubx, (qj_b w4).1, (qj_b w4).2.1, (qj_b w4).2.2, Vb, ub, (qj_b o3).1, (qj_b o3).2.1, (qj_b o3).2.2]
    exact qj_b b2
  have w19 : (u.i 19).toInt = (q.i 19).toInt := by
    rw [iu 19 (by decide), w12, Vi 19 (by decide), ui, o10, b10]
    omega
  have V11 : (V.i 11).toInt = (p17.2.i 11).toInt := by rw [Vi 11 (by decide), ui]
  have V17 : (V.i 17).toInt = (p17.2.i 17).toInt := by rw [Vi 17 (by decide), ui]
  have u11 : (u.i 11).toInt = (p5.2.i 11).toInt := by rw [iu 11 (by decide)]
  have u17 : (u.i 17).toInt = (p5.2.i 17).toInt := by rw [iu 17 (by decide)]
  refine ⟨m3, u, g3, ewu, ⟨⟨tu, (fr2.tr frV).tr (fs.mo (by omega)), mf, u65⟩, ⟨u641, u651, u642, u652⟩, ⟨u38, fun j hj => ?_⟩, fun k hk => ?_, ⟨bb.1.trans (gsb 9 (by decide)), bb.2.2.trans (gsb 45 (by decide))⟩, fun k hk => ?_, ⟨?_, ?_, ?_, ?_, ?_, ?_, ?_⟩, ?_, X36, ⟨?_, ?_, ?_, ?_⟩, ⟨?_, ?_⟩, ⟨by omega, ?_, by omega, w19⟩⟩, ?_⟩
  · rw [bb.2.1, tb 40 (by decide), tb 41 (by decide)]
    exact gsr j hj
  · by_cases z : k = 20
    · rw [z]
      exact u20
    · exact sc k (by omega)
  · by_cases z : k = 22
    · rw [z]
      exact u22
    · rw [tb k (by omega), gsa k (by omega) (by omega)]
  · rw [Xi 21 (by decide), q7, j21, k21, v1 21 (by decide), x21, y7]
  · rw [Xi 22 (by decide), q8, w10, o8, v1 22 (by decide), b8, y8]
  · rw [Xi 38 (by decide), q11, j38, k38, v1 38 (by decide), x38, y11]
  · rw [Xi 53 (by decide), q15, j53, k53, v1 53 (by decide), x53, y15]
  · rw [Xi 54 (by decide), q16, j54, k54, v1 54 (by decide), x54, y16]
  · rw [Xi 55 (by decide), q17, j55, k55, v1 55 (by decide), x55, y17]
  · rw [Xi 56 (by decide), q18, j56, k56, v1 56 (by decide), x56, y18]
  · rw [Xi 50 (by decide), q14, j50, k50, v2, x50, y14]
  · rw [Xr, q1, jr, kr, v3, xr, y1]
  · rw [Xo, q2, jo, ko, v4, xo, y2]
  · rw [Xol, q3, jol, kol, v5, xol, y3]
  · rw [Xhk.1, Xhk.2.1, Xhk.2.2, q4.1, q4.2.1, q4.2.2, jhk.1, jhk.2.1, jhk.2.2, khk.1, khk.2.1, khk.2.2, v6.1, v6.2.1, v6.2.2, xhk.1, xhk.2.1, xhk.2.2]
    exact y4
  · rw [Xa, q5, w11.1, o9.1, v7, b9.1, y5]
  · rw [Xa, q6, j52, k52, v8, x52, y6]
  · unfold phI
    rw [u20]
    omega
  · obtain ⟨s42, s40, sz⟩ := y_see2 h13
    obtain ⟨x1, x2', x3, x4⟩ := x4_at (by rw [x50, n1]; have := hh.1; omega) (by rw [x50, n1]; exact hh.2) e32'
    have p24e : p24.1 = P.i 23 ∧ p24.2 = CS.setI P 23 (P.i 23 + 1) := by
      unfold f_X0_newCells at e24
      cases e24
      exact ⟨Int32.add_sub_cancel _ _, rfl⟩
    have d4i : ∀ k : Nat, k ≠ 23 → p24.2.i k = P.i k := fun k hk => by rw [p24e.2]; exact ci_ne _ _ _ hk
    have d423 : p24.2.i 23 = P.i 23 + 1 := by rw [p24e.2]; exact ci_at _ _ _
    have d4a : p24.2.a = P.a := by rw [p24e.2]; rfl
    obtain ⟨A20, A15, A16, A17, A23, A38, A22, A19⟩ := pe_eq (ke_X9_advance N p24.2 A eA)
    obtain ⟨C20, C15, C16, C17, C23, C38, C22, C19⟩ := pe_eq (ke_X1_close N p32.2 41 p36 e36)
    obtain ⟨D20, D15, D16, D17, D23, D38', D22, D19⟩ := pe_eq (ke_X1_open N p36.2 123 p40 e40)
    have c44 := w3.1.2.2.2.1.1
    have c44P := ew.1.2.2.2.1.1
    obtain ⟨-, -, -, -, -, -, -, -, -, -, -, -, -, -, -, -, -, -, -, -, Pa48, Pa49, -, -, -, -, -, -, -⟩ := pj_eq pjA
    obtain ⟨-, -, -, -, -, -, -, -, -, -, -, -, -, -, -, -, -, -, -, -, Ca48, Ca49, -, -, -, -, -, -, -⟩ := pj_eq o4
    obtain ⟨-, -, -, -, -, -, -, -, -, -, -, -, -, -, -, -, -, -, -, -, Da48, Da49, -, -, -, -, -, -, -⟩ := pj_eq w5
    have k50 : A.2.i 50 = P.i 50 := by rw [x50, y14]
    obtain ⟨⟨q0, q1', q2', q3', q4', q5'⟩, E21, E22, E23, E25, E26, E27, E28, E30, E31, E32, E34, E35, E36, E37⟩ := qe_eq (kre_f_X12_open N V 123 p5 hp5)
    obtain ⟨⟨t0, t1, t2', t3, t4, t5⟩, F21, F22, F23, F25, F26, F27, F28, F30, F31, F32, F34, F35, F36, F37⟩ := qe_eq ((kre_f_X12_shut N p15 41 p17 h17).trans (kre_f_X12_next N p13.2 p15 h15'))
    have ch : ∀ k : Nat, k ≠ 35 → k ≠ 36 → k ≠ 40 → k ≠ 41 → k < 64 → p5.2.a k = V.a k → p17.2.a k = p13.2.a k → u.a k = q.a k := fun k k1 k2 k3 k4 k5 z1 z2 => by
      rw [uk k (by omega) (by omega) (by omega), z1, Vk k (by omega) (by omega), ua k k1 k2, z2, gsa k k3 k4]
    have v35 : u.a 35 = u2.a 35 ∧ u.a 36 = u2.a 36 := ⟨by rw [uk 35 (by decide) (by decide) (by decide), E35, Vk 35 (by decide) (by decide)], by rw [uk 36 (by decide) (by decide) (by decide), E36, Vk 36 (by decide) (by decide)]⟩
    have m35 : p17.2.a 35 = q.a 35 ∧ p17.2.a 36 = q.a 36 := ⟨by rw [F35, gsa 35 (by decide) (by decide)], by rw [F36, gsa 36 (by decide) (by decide)]⟩
    refine ⟨⟨p40, p45, p49, p53, ⟨?_, ?_, ?_, ?_, ?_, ?_⟩, ⟨?_, ?_, ?_, ?_⟩, ⟨fun k hk => ?_, ?_, ?_⟩, ?_, e49, ?_, hXe⟩, ⟨?_, ?_, ?_⟩, fun k hk => ?_, fun j hj => ?_, fun j j1 j2 => ?_⟩
    · rw [D20, C20, v1 20 (by decide), A20, d4i 20 (by decide)]
    · rw [j21, k21, v1 21 (by decide), x21, y7]
    · rw [D22, C22, v1 22 (by decide), A22, d4i 22 (by decide)]
    · rw [D23, C23, v1 23 (by decide), A23, d423]
    · rw [D38', C38, v1 38 (by decide), A38, d4i 38 (by decide)]
    · rw [c44, c44P]
      omega
    · rw [D15, C15, x1 15 (by decide) (by decide), A15, d4a]
    · rw [D16, C16, x1 16 (by decide) (by decide), A16, d4a]
    · rw [D17, C17, x1 17 (by decide) (by decide), A17, d4a]
    · rw [D19, C19, x1 19 (by decide) (by decide), A19, d4a]
    · rw [Da48, Da49, Ca48, Ca49]
      rw [← k50] at hk
      obtain ⟨z1, z2⟩ := x2' k hk
      rw [z1, z2, Pa48, Pa49, d4a]
      exact ⟨rfl, rfl⟩
    · rw [Da48, Ca48, ← k50, x3, p24e.1]
    · rw [Da49, Ca49, ← k50, x4, A38, d4i 38 (by decide)]
    · have z : p40.2.o = P.o := by rw [jo, ko, v4, xo, y2]
      rw [← z]
      exact e45
    · rw [← p24e.1]
      exact e53
    · rw [iu 52 (by decide), q5', Vi 52 (by decide), ui, t5, gsi 52 (by decide) (by decide)]
    · rw [iu 42 (by decide), q4', Vi 42 (by decide), ui, t4, s42]
    · rw [tb 40 (by decide), s40]
    · rcases hk with z | z | z | z | z <;> rw [z]
      · exact ch 21 (by decide) (by decide) (by decide) (by decide) (by decide) E21 F21
      · exact ch 23 (by decide) (by decide) (by decide) (by decide) (by decide) E23 F23
      · exact ch 26 (by decide) (by decide) (by decide) (by decide) (by decide) E26 F26
      · exact ch 31 (by decide) (by decide) (by decide) (by decide) (by decide) E31 F31
      · exact ch 32 (by decide) (by decide) (by decide) (by decide) (by decide) E32 F32
    · obtain ⟨z1, z2⟩ := u35 j hj
      rw [v35.1, v35.2, z1, z2, m35.1, m35.2]
      exact ⟨rfl, rfl⟩
    · have e33 : p17.2.i 33 = q.i 33 := by rw [t3, gsi 33 (by decide) (by decide)]
      have e20 : p17.2.i 20 = q.i 20 := by rw [t0, gsi 20 (by decide) (by decide)]
      obtain ⟨z1, z2⟩ := u35' j j1 (by rw [e33]; exact j2)
      rw [v35.1, v35.2, z1, z2, e20, sz]
      exact ⟨rfl, rfl⟩
