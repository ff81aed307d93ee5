/-! both readers: try, whole -/
def NTW (S R : CS) : Prop := (∀ k : Nat, k ≠ 21 → R.i k = S.i k) ∧ (∀ k : Nat, k ≠ 17 → R.a k = S.a k) ∧ (R.r = S.r ∧ R.b = S.b ∧ R.l = S.l ∧ R.L = S.L ∧ R.k = S.k ∧ R.hs = S.hs ∧ R.ol = S.ol) ∧ (∀ b k : Nat, k ≠ 9 → k ≠ 10 → k ≠ 11 → R.o b k = S.o b k)
theorem NTW.rf (S : CS) : NTW S S := ⟨fun _ _ => rfl, fun _ _ => rfl, ⟨rfl, rfl, rfl, rfl, rfl, rfl, rfl⟩, fun _ _ _ _ _ => rfl⟩
theorem NTW.nt {N : Nat} {S R : CS} {w : Int32 × CS} (h : NTW S R) (e : f_X0_newTarget N R = some w) : NTW S w.2 ∧ w.2.i 21 = R.i 21 + 1 := by
  unfold f_X0_newTarget at e
  cases e
  obtain ⟨h1, h2, ⟨r1, r2, r3, r4, r5, r6, r7⟩, h4⟩ := h
  exact ⟨⟨fun k hk => (show (CS.setI (CS.putA R 17 (gPut (R.a 17) 1024 (R.i 21) (-1))) 21 (R.i 21 + 1)).i k = R.i k from if_neg hk).trans (h1 k hk), fun k hk => (show (CS.setI (CS.putA R 17 (gPut (R.a 17) 1024 (R.i 21) (-1))) 21 (R.i 21 + 1)).a k = R.a k from if_neg hk).trans (h2 k hk), ⟨r1, r2, r3, r4, r5, r6, r7⟩, h4⟩, rfl⟩
theorem NTW.so {S R : CS} {a k : Nat} {v : Int32} (h : NTW S R) (hk : k = 9 ∨ k = 10 ∨ k = 11) : NTW S (CS.setO R a k v) := by
  obtain ⟨h1, h2, ⟨r1, r2, r3, r4, r5, r6, r7⟩, h4⟩ := h
  exact ⟨h1, h2, ⟨r1, r2, r3, r4, r5, r6, r7⟩, fun b j j1 j2 j3 => (so_nk (by omega)).trans (h4 b j j1 j2 j3)⟩
/-- frames of a row that is a try's -/
theorem RFR.m213 {S : CS} {s : RS} {a t g w : Nat} (e : S.o a 0 = 213) (h : FTR s t g w 213 (S.o a 8)) (h2 : s.a 65 t = 1 ∧ F301 s (t + 1) (S.o a 3) ∧ S.o a 6 = 0) : RFR S s a t g w := by
  have n : ∀ v : Int32, ¬ v = 213 → ¬ S.o a 0 = v := fun v hv q => hv (q.symm.trans e)
  refine ⟨fun q => absurd q (n 300 (by decide)), fun q => absurd q (n 301 (by decide)), fun q => absurd q (n 302 (by decide)), fun q => absurd q (n 303 (by decide)), fun q => absurd q (n 203 (by decide)), fun q => absurd q (n 204 (by decide)), fun q => absurd q (n 205 (by decide)), fun q => absurd q (n 206 (by decide)), fun q => absurd q (n 207 (by decide)), fun q => absurd q (n 304 (by decide)), fun q => absurd q (n 212 (by decide)), fun q => absurd q (n 218 (by decide)), fun _ => ⟨by rw [e]; exact h, ?_⟩⟩
  rw [e]
  exact ⟨fun _ => h2, fun q => absurd q (by decide), fun q => absurd q (by decide), fun q => absurd q (by decide), Or.inl h2.2.2⟩
theorem kmk0 {s : RS} : KMK s 0 [] := ⟨fun k hk => by
  have hk' : k = 0 ∨ k = 1 ∨ k = 2 ∨ k = 3 ∨ k = 4 ∨ k = 5 ∨ k = 6 ∨ k = 7 ∨ k = 8 ∨ k = 9 ∨ k = 10 ∨ k = 11 := by omega
  refine ⟨fun z => ?_, fun ⟨j, hj, _⟩ => absurd hj List.not_mem_nil⟩
  exfalso
  rcases hk' with h | h | h | h | h | h | h | h | h | h | h | h <;> rw [h] at z <;> exact absurd z (by decide), fun j hj => absurd hj List.not_mem_nil⟩
theorem D38.s38 {R : CS} {v : Int32} : D38 (CS.setI R 38 v) R := ⟨⟨rfl, rfl, rfl, rfl, rfl⟩, rfl, rfl, rfl, rfl⟩
set_option maxHeartbeats 4000000 in
theorem tr_end {N : Nat} (hN : 1000 ≤ N) {d : Int32} {B : CS} {b : RS} {t0 T n : Nat} {L : List CEL} {x : Int} {S P pp R : CS} {s s1 q V U : RS} {c : CEL} {a m : Nat} {wh : Int32} {W : Unit × CS} {Aj : JBA} {xn yn : Nat} {E x9 x10 x11 : Int32} (hxn : xn = x9.toNatClampNeg - 2) (hyn : yn = (s1.i 29).toNatClampNeg) (hx3 : x9.toInt = x11.toInt + 1 ∧ 1 ≤ x11.toInt ∧ x9.toInt = x10.toInt + 2 ∧ x9.toInt ≤ 5000) (hJ : (KU3 U s ∧ JRW Aj U B b (vws S s (c :: L)) S s) → ∃ z : Nat, TRJ Aj U B b (vws S s (c :: L)) s [yv (s1.i 29) x9, tv x11, tv x10] a xn yn z 0 (P.i 38) E x9 x10 x11 R q) (hC : COR d B b t0 (c :: L) x S s) (q1 : TOP S s c) (q2 : LOW S s c) (q3 : T = ceT c + wid (S.o c.2.1 0)) (hT : t0 ≤ T) (hm : NMC c S) (hx : S.o c.2.1 0 = 303 → x = -1) (w0 : WAY d T 0 (-1) 0 0 0 S s P s1) (i11 : s1.i 11 = s.i 11) (tw : ALN (P.i 43)) (psr : PSR P pp a m 213 (P.i 50)) (hm' : (P.i 53).toInt = (m : Int)) (m38 : m ≤ 380) (hwh : wh = 0 ∨ wh = 1) (h : TRW d T a m P pp s1 2 2 wh wh R q) (e : f_X7_beginTry_132 N R = some W) (hV : f_X12_trying_215 N q (s1.i 63) = some V) (g : f_X12_parse_10 N n V = some U) : (¬ W.2.i 32 = 0 ∧ ¬ U.i 15 = 0) ∨ ∃ (m : Nat) (u : RS), f_X12_parse_10 N m u = some U ∧ NEW d B b t0 c L W.2 u (JTR Aj U B b (c :: L) S s) := by
  have hv := hC.1
  have t21 := hC.2.2.2.2.2.2.2.2.1.1
  have q54 := hC.2.2.2.2.2.2.2.2.1.2.2
  obtain ⟨h1, h2, h3, ⟨r1, r2, r3, r4, r5, r6, r7⟩, ⟨o6, o8, o12, i38, i21, i34⟩, ⟨f1, f2, f3⟩, ⟨c1, c2, c3, c4, c5, c6, c7, c8, c9⟩, ⟨n1, n2, n3, n4⟩, ⟨p1, p2, p3, p4⟩, h10, ⟨k64, k66, k67⟩, ⟨t1, t2⟩⟩ := h
  unfold f_X7_beginTry_132 at e
  obtain ⟨op, eop, e⟩ := hf_bind e
  cases e
  show (¬ op.2.i 32 = 0 ∧ ¬ U.i 15 = 0) ∨ ∃ (m : Nat) (u : RS), f_X12_parse_10 N m u = some U ∧ NEW d B b t0 c L op.2 u (JTR Aj U B b (c :: L) S s)
  unfold f_X12_trying_215 at hV
  obtain ⟨-, hV⟩ := hf_ite hV
  obtain ⟨hib, hV⟩ := hf_ite hV
  rw [tp_nat w0.2.1, ob_id] at hV
  have ck56 := clampI hib.1
  obtain ⟨wn, hwn⟩ : ∃ wn : Nat, wn = (q.i 56).toNatClampNeg := ⟨_, rfl⟩
  rw [← hwn] at hV ck56
  clear hwn
  -- a wall more
  obtain ⟨Z, hZ⟩ : ∃ Z, Z = RS.setA (RS.setI (RS.setA (RS.setA q 57 wn (q.a 66 T)) 58 wn (q.i 43)) 56 (q.i 56 + 1)) 72 T (-1) := ⟨_, rfl⟩
  have Zi : ∀ k : Nat, k ≠ 56 → Z.i k = q.i k := by
    rw [hZ]
    exact fun k h => if_neg h
  have Z56 : Z.i 56 = q.i 56 + 1 := by
    rw [hZ]
    rfl
  have Za : ∀ k : Nat, k ≠ 57 → k ≠ 58 → k ≠ 72 → Z.a k = q.a k := by
    rw [hZ]
    exact fun k h1 h2 h3 => (setA_nk h3).trans ((show (RS.setI (RS.setA (RS.setA q 57 wn (q.a 66 T)) 58 wn (q.i 43)) 56 (q.i 56 + 1)).a k = (RS.setA (RS.setA q 57 wn (q.a 66 T)) 58 wn (q.i 43)).a k from rfl).trans ((setA_nk h2).trans (setA_nk h1)))
  have Z57 : Z.a 57 wn = q.a 66 T := by
    rw [hZ]
    show (RS.setA q 57 wn (q.a 66 T)).a 57 wn = q.a 66 T
    exact setA_at
  have Z58 : Z.a 58 wn = q.i 43 := by
    rw [hZ]
    show (RS.setA (RS.setA q 57 wn (q.a 66 T)) 58 wn (q.i 43)).a 58 wn = q.i 43
    exact setA_at
  have Z57j : ∀ j : Nat, j ≠ wn → Z.a 57 j = q.a 57 j ∧ Z.a 58 j = q.a 58 j := by
    rw [hZ]
    intro j hj
    refine ⟨?_, ?_⟩
    · show (RS.setA q 57 wn (q.a 66 T)).a 57 j = q.a 57 j
      exact setA_ne hj
    · show (RS.setA (RS.setA q 57 wn (q.a 66 T)) 58 wn (q.i 43)).a 58 j = q.a 58 j
      exact setA_ne hj
  have Z72 : Z.a 72 T = -1 := by rw [hZ]; exact setA_at
  have Z72j : ∀ j : Nat, j ≠ T → Z.a 72 j = q.a 72 j := by
    rw [hZ]
    exact fun j h => setA_ne h
  have Zb : Z.b = q.b ∧ Z.l = q.l := by rw [hZ]; exact ⟨rfl, rfl⟩
  have qZ : qe Z = qe q := by rw [hZ]; rfl
  rw [← hZ] at hV
  clear hZ
  have z56 : (Z.i 56).toInt = (q.i 56).toInt + 1 := by rw [Z56]; exact ad1 hib.1 (by have := hib.2; omega)
  have phZ : phI Z = phI q := by
    unfold phI
    rw [Zi 17 (by decide), Zi 20 (by decide)]
  have wq := h1.wp
  have wpZ : WPI Z := by
    refine ⟨⟨by rw [Zi 43 (by decide)]; exact wq.1.1, by omega, fun _ => ?_, by rw [Zi 29 (by decide)]; exact wq.1.2.2.2⟩, fun j hj => ?_⟩
    · have ew : ((Z.i 56).toInt - 1).toNat = wn := by omega
      rw [ew, Z58, Zi 43 (by decide)]
      exact Int.le_refl _
    · rw [Zi 59 (by decide)] at hj
      rw [Za 62 (by decide) (by decide) (by decide), Zi 29 (by decide)]
      exact wq.2 j hj
  have ewZ : ENW d R Z := h1.kq (Zi 38 (by decide)) (Zi 2 (by decide)) (Zi 3 (by decide)) (Zi 18 (by decide)) (Zi 53 (by decide)) (Zi 54 (by decide)) (Zi 55 (by decide)) (Za 1 (by decide) (by decide) (by decide)) (Za 4 (by decide) (by decide) (by decide)) (Za 41 (by decide) (by decide) (by decide)) (by rw [Zb.1]) (by rw [Zb.1]) (Zi 10 (by decide)) (Zi 11 (by decide)) (Zi 12 (by decide)) (Zi 14 (by decide)) (Zi 15 (by decide)) (Zi 17 (by decide)) (Zi 19 (by decide)) Zb.2 ⟨by rw [Zi 20 (by decide)]; exact (i20_hw h1).1.1, by rw [phZ]; exact h1.2.2.2.2.2.2.2.1⟩ wpZ
  have tZ : tpI Z = (T : Int) := by
    show (Z.i 63).toInt = (T : Int)
    rw [Zi 63 (by decide)]
    exact h2
  obtain ⟨hV', t99⟩ := r_then tZ hV
  rw [hV'] at g
  -- the block's frame
  obtain ⟨Y, hY⟩ : ∃ Y, Y = TH Z T 1 3 := ⟨_, rfl⟩
  have Yi : ∀ k : Nat, k ≠ 63 → Y.i k = Z.i k := by
    rw [hY]
    exact fun k h => if_neg h
  have Ya : ∀ k : Nat, k ≠ 64 → k ≠ 65 → Y.a k = Z.a k := by
    rw [hY]
    exact fun k h1 h2 => TH.loc h1 h2
  have Yb : Y.b = Z.b ∧ Y.l = Z.l := by rw [hY]; exact ⟨rfl, rfl⟩
  have qY : qe Y = qe Z := by rw [hY]; rfl
  have Y64 : Y.a 64 T = 15 := by
    rw [hY, TH.fk0 (Nat.le_refl T), Za 64 (by decide) (by decide) (by decide)]
    exact k64
  have Y65 : Y.a 65 T = 1 := by rw [hY]; exact TH.st
  have Y641 : Y.a 64 (T + 1) = 3 := by rw [hY]; exact TH.fk
  have Y651 : Y.a 65 (T + 1) = 0 := by rw [hY]; exact TH.fs
  have Yf : FRB T Z Y := by rw [hY]; exact TH.frb
  have tY : tpI Y = ((T + 1 : Nat) : Int) := by rw [hY]; exact TH.tp tZ (by omega)
  rw [← hY] at g
  clear hY hV'
  have phY : phI Y = phI Z := by
    unfold phI
    rw [Yi 17 (by decide), Yi 20 (by decide)]
  have ewY : ENW d R Y := ewZ.kq (Yi 38 (by decide)) (Yi 2 (by decide)) (Yi 3 (by decide)) (Yi 18 (by decide)) (Yi 53 (by decide)) (Yi 54 (by decide)) (Yi 55 (by decide)) (Ya 1 (by decide) (by decide)) (Ya 4 (by decide) (by decide)) (Ya 41 (by decide) (by decide)) (by rw [Yb.1]) (by rw [Yb.1]) (Yi 10 (by decide)) (Yi 11 (by decide)) (Yi 12 (by decide)) (Yi 14 (by decide)) (Yi 15 (by decide)) (Yi 17 (by decide)) (Yi 19 (by decide)) Yb.2 ⟨by rw [Yi 20 (by decide)]; exact (i20_hw ewZ).1.1, by rw [phY]; exact ewZ.2.2.2.2.2.2.2.1⟩ (wpZ.of (by rw [Yi 43 (by decide)]; exact Int.le_refl _) (Yi 56 (by decide)) (Yi 59 (by decide)) (Yi 29 (by decide)) (Ya 58 (by decide) (by decide)) (Ya 62 (by decide) (by decide)))
  obtain ⟨m2, V2, hV2, g2⟩ := rl_3 g tY ewY.1.2.1 Y641
  unfold f_X12_block at hV2
  obtain ⟨-, hV2⟩ := hf_ite hV2
  rw [tp_nat tY, if_pos Y651] at hV2
  obtain ⟨ob, hob, hV2⟩ := hf_bind hV2
  rw [ob_id] at hV2
  rcases w_open hN ewY (c := 123) (d := 123) (Or.inl ⟨by decide, by decide⟩) (by decide) (by decide) (by decide) eop hob with ⟨-, o2, o3⟩ | ⟨-, -, v3, v4, v5, v6, v7, v8, v9, v10, v11, v12, v13, v14⟩
  · exact Or.inl ⟨o2, u_flt g2 (krf_f_X12_then N _ 1 1 V2 hV2 (show ¬ (RS.setA ob.2 66 (T + 1) (ob.2.i 38)).i 15 = 0 from o3))⟩
  have tob : tpI ob.2 = ((T + 1 : Nat) : Int) := qj_63 v4 tY
  obtain ⟨hV2', t98⟩ := r_then (s := RS.setA ob.2 66 (T + 1) (ob.2.i 38)) tob hV2
  rw [hV2'] at g2
  obtain ⟨u, hu⟩ : ∃ y, y = TH (RS.setA ob.2 66 (T + 1) (ob.2.i 38)) (T + 1) 1 1 := ⟨_, rfl⟩
  have ui : ∀ k : Nat, k ≠ 63 → u.i k = ob.2.i k := by
    rw [hu]
    exact fun k h => if_neg h
  have ua : ∀ k : Nat, k ≠ 64 → k ≠ 65 → k ≠ 66 → u.a k = ob.2.a k := by
    rw [hu]
    exact fun k h1 h2 h3 => (TH.loc h1 h2).trans (setA_nk h3)
  have ub : u.b = ob.2.b ∧ u.l = ob.2.l := by rw [hu]; exact ⟨rfl, rfl⟩
  have qu : qe u = qe ob.2 := by rw [hu]; rfl
  have fu : FRB (T + 1) ob.2 u := by rw [hu]; exact (setA_frb (Or.inr ⟨by omega, by omega, Nat.le_refl _⟩)).tr TH.frb
  have u64 : u.a 64 (T + 1) = 3 := by
    rw [hu, TH.fk0 (Nat.le_refl _)]
    show ob.2.a 64 (T + 1) = 3
    rw [((FRB.of v4 : FRB (T + 2) Y ob.2) (T + 1) (by omega)).1]
    exact Y641
  have u65 : u.a 65 (T + 1) = 1 := by rw [hu]; exact TH.st
  have u66 : u.a 66 (T + 1) = ob.2.i 38 := by
    rw [hu]
    show (RS.setA ob.2 66 (T + 1) (ob.2.i 38)).a 66 (T + 1) = ob.2.i 38
    exact setA_at
  have u641 : u.a 64 (T + 1 + 1) = 1 := by rw [hu]; exact TH.fk
  have u651 : u.a 65 (T + 1 + 1) = 0 := by rw [hu]; exact TH.fs
  have tu : tpI u = ((T + 1 + 1 : Nat) : Int) := by rw [hu]; exact TH.tp (u := RS.setA ob.2 66 (T + 1) (ob.2.i 38)) tob (by omega)
  rw [← hu] at g2
  clear hu hV2'
  refine Or.inr ⟨m2, u, g2, ?_⟩
  obtain ⟨x2, x3, x8, x18, x24, x29, x33, x38, x42, x43, x52, x53, x54, x55, x56, x59, x63, x75, xa1, xa4, xa25, xa26, xa27, xa28, xa30, xa34, xa37, xa40, xa41, xa44, xa46, xa47, xa48, xa49, xa50, xa51, xa57, xa58, xa60, xa61, xa62, xa64, xa65, xa66, xa67, xa68, xa69, xa70, xa71, xa72, xa73, xb9, xb39, xb45, xb74⟩ := qj_eq v4
  have phu : phI u = phI ob.2 := by
    unfold phI
    rw [ui 17 (by decide), ui 20 (by decide)]
  have pho : phI ob.2 = phI Y + 3 := by
    unfold phI
    rw [v8, v13]
    omega
  have evw : ENW d op.2 u := v3.kq (ui 38 (by decide)) (ui 2 (by decide)) (ui 3 (by decide)) (ui 18 (by decide)) (ui 53 (by decide)) (ui 54 (by decide)) (ui 55 (by decide)) (ua 1 (by decide) (by decide) (by decide)) (ua 4 (by decide) (by decide) (by decide)) (ua 41 (by decide) (by decide) (by decide)) (by rw [ub.1]) (by rw [ub.1]) (ui 10 (by decide)) (ui 11 (by decide)) (ui 12 (by decide)) (ui 14 (by decide)) (ui 15 (by decide)) (ui 17 (by decide)) (ui 19 (by decide)) ub.2 ⟨by rw [ui 20 (by decide)]; exact (i20_hw v3).1.1, by rw [phu]; exact v3.2.2.2.2.2.2.2.1⟩ (v3.wp.of (by rw [ui 43 (by decide)]; exact Int.le_refl _) (ui 56 (by decide)) (ui 59 (by decide)) (ui 29 (by decide)) (ua 58 (by decide) (by decide) (by decide)) (ua 62 (by decide) (by decide) (by decide)))
  -- the rows are paid now
  obtain ⟨-, -, -, -, -, -, -, -, -, -, -, -, y38, -, y53, y54, y55, -, -, -, -, -, y52, yr, yo, yol, -, y21, ⟨yh, yL, yk⟩⟩ := pj_eq v5
  have es : (cnI P).toNat = m := by
    show (P.i 53).toInt.toNat = m
    rw [hm']
    exact Int.toNat_natCast _
  have rwi : RWI op.2 := by
    refine psr.late w0.1.ri hm' (by omega) ⟨by decide, by decide, by decide, by decide⟩ (by rw [yr]; exact r1) (by rw [yL]; exact r2) (by rw [yk]; exact r3) (by rw [yh]; exact r4) (by rw [y53]; exact r5) (fun b => ⟨by rw [yo]; exact r6 b, by rw [yol, r7]⟩) ?_ ?_
    · have z1 := w0.1.ri.2.2.2.2.2.1
      rw [es, eI.al tw] at z1
      omega
    · have z1 := w0.1.ri.2.2.2.2.2.2
      rw [es] at z1
      rw [if_neg (by decide), if_pos (by decide)]
      have z2 : sgI op.2 = sgI P + 1 := by
        unfold sgI
        rw [v3.2.2.1.1, v12, ← ewY.2.2.1.1, i34]
      omega
  have evR : ENV d op.2 u := evw.v rwi
  have n0 : 0 ≤ (P.i 53).toInt := by omega
  have sqX : PSQ P op.2 a m 213 (P.i 50) := h3.cx n0 (CKX.of v5 v10 v11) y54 y55 y52
  obtain ⟨zX, ⟨R53, R54, -, -⟩, ⟨R50, R56, R36⟩, ⟨-, -, rr1⟩, ⟨g0, -, g3', -⟩, -⟩ := id sqX
  have P50 : P.i 50 = S.i 50 := w0.2.2.2.2.2.1.2.1
  have J : ∀ k : Nat, k ≠ 56 → k ≠ 63 → ob.2.i k = Y.i k → u.i k = q.i k := fun k h1 h2 e => (ui k h2).trans (e.trans ((Yi k h2).trans (Zi k h1)))
  have A : ∀ k : Nat, k ≠ 57 → k ≠ 58 → k ≠ 72 → k ≠ 64 → k ≠ 65 → k ≠ 66 → ob.2.a k = Y.a k → u.a k = q.a k := fun k h1 h2 h3 h4 h5 h6 e => (ua k h4 h5 h6).trans (e.trans ((Ya k h4 h5).trans (Za k h1 h2 h3)))
  have u56 : (u.i 56).toInt = (q.i 56).toInt + 1 := by rw [ui 56 (by decide), x56, Yi 56 (by decide)]; exact z56
  have u57 : u.a 57 = Z.a 57 ∧ u.a 58 = Z.a 58 := ⟨by rw [ua 57 (by decide) (by decide) (by decide), xa57, Ya 57 (by decide) (by decide)], by rw [ua 58 (by decide) (by decide) (by decide), xa58, Ya 58 (by decide) (by decide)]⟩
  have frq : FRB T q u := by
    have z1 : FRB T q Z := fun j hj => ⟨by rw [Za 64 (by decide) (by decide) (by decide)], by rw [Za 65 (by decide) (by decide) (by decide)], by rw [Za 66 (by decide) (by decide) (by decide)], by rw [Za 67 (by decide) (by decide) (by decide)], by rw [Za 68 (by decide) (by decide) (by decide)], by rw [Za 69 (by decide) (by decide) (by decide)], by rw [Za 70 (by decide) (by decide) (by decide)], by rw [Za 71 (by decide) (by decide) (by decide)], Z72j j (by omega), by rw [Za 73 (by decide) (by decide) (by decide)], by rw [Zb.1]⟩
    exact ((z1.tr Yf).tr (FRB.of v4)).tr (fu.mo (by omega))
  have tbq : TBR q u := ⟨fun j _ => ⟨by rw [ub.1, xb39, Yb.1, Zb.1], by rw [A 40 (by decide) (by decide) (by decide) (by decide) (by decide) (by decide) xa40], by rw [A 41 (by decide) (by decide) (by decide) (by decide) (by decide) (by decide) xa41]⟩, fun j _ => ⟨by rw [A 44 (by decide) (by decide) (by decide) (by decide) (by decide) (by decide) xa44], by rw [ub.1, xb45, Yb.1, Zb.1], by rw [A 46 (by decide) (by decide) (by decide) (by decide) (by decide) (by decide) xa46], by rw [A 47 (by decide) (by decide) (by decide) (by decide) (by decide) (by decide) xa47], by rw [A 50 (by decide) (by decide) (by decide) (by decide) (by decide) (by decide) xa50], by rw [A 51 (by decide) (by decide) (by decide) (by decide) (by decide) (by decide) xa51], by rw [A 48 (by decide) (by decide) (by decide) (by decide) (by decide) (by decide) xa48], by rw [A 49 (by decide) (by decide) (by decide) (by decide) (by decide) (by decide) xa49]⟩, fun j hj => by
      rw [u57.1, u57.2]
      exact Z57j j (by omega), ⟨by rw [J 59 (by decide) (by decide) x59]; exact Int.le_refl _, fun j k1 k2 => by rw [J 59 (by decide) (by decide) x59] at k2; omega⟩, fun j _ => ⟨by rw [A 60 (by decide) (by decide) (by decide) (by decide) (by decide) (by decide) xa60], by rw [A 61 (by decide) (by decide) (by decide) (by decide) (by decide) (by decide) xa61], by rw [A 62 (by decide) (by decide) (by decide) (by decide) (by decide) (by decide) xa62]⟩, by rw [J 29 (by decide) (by decide) x29]; exact Int.le_refl _, fun j _ => by rw [A 30 (by decide) (by decide) (by decide) (by decide) (by decide) (by decide) xa30], by rw [J 33 (by decide) (by decide) x33]; exact Int.le_refl _, fun j _ => ⟨by rw [A 34 (by decide) (by decide) (by decide) (by decide) (by decide) (by decide) xa34], by rw [A 37 (by decide) (by decide) (by decide) (by decide) (by decide) (by decide) xa37]⟩, by rw [J 24 (by decide) (by decide) x24]; exact Int.le_refl _, fun j _ => ⟨by rw [A 25 (by decide) (by decide) (by decide) (by decide) (by decide) (by decide) xa25], by rw [A 27 (by decide) (by decide) (by decide) (by decide) (by decide) (by decide) xa27], by rw [A 28 (by decide) (by decide) (by decide) (by decide) (by decide) (by decide) xa28]⟩⟩
  have u20 : u.i 20 = q.i 20 := J 20 (by decide) (by decide) v8
  have u22 : u.a 22 = q.a 22 := A 22 (by decide) (by decide) (by decide) (by decide) (by decide) (by decide) v9
  have u11 : (q.i 11).toInt + 1 ≤ (u.i 11).toInt := by
    rw [Yi 11 (by decide), Zi 11 (by decide)] at v7
    rw [ui 11 (by decide)]
    exact v7
  have u17 : (q.i 17).toInt ≤ (u.i 17).toInt := by
    rw [ui 17 (by decide), v13, Yi 17 (by decide), Zi 17 (by decide)]
    omega
  have frs1 : FRB T s1 u := f1.tr frq
  have tbs : TBR s1 u := f2.tr tbq (by rw [c4]; exact Int.le_refl _) (by rw [c5]; exact Int.le_refl _) (by rw [c6]; exact Int.le_refl _)
  have cds : CDK (s1.i 20).toInt s1 u := ⟨by rw [u20]; exact f3.1, fun j hj => by rw [u22]; exact f3.2 j hj⟩
  have eM : (-1 : Int32).toInt = -1 := by decide
  have T64 : u.a 64 T = 15 := by
    rw [(fu T (by omega)).1, ((FRB.of v4 : FRB (T + 1) Y ob.2) T (by omega)).1]
    exact Y64
  have T65 : u.a 65 T = 1 := by
    rw [(fu T (by omega)).2.1, ((FRB.of v4 : FRB (T + 1) Y ob.2) T (by omega)).2.1]
    exact Y65
  have T66 : u.a 66 T = s1.i 29 := by
    rw [(fu T (by omega)).2.2.1, ((FRB.of v4 : FRB (T + 1) Y ob.2) T (by omega)).2.2.1, Ya 66 (by decide) (by decide), Za 66 (by decide) (by decide) (by decide)]
    exact k66
  have T67 : u.a 67 T = wh := by
    rw [A 67 (by decide) (by decide) (by decide) (by decide) (by decide) (by decide) xa67]
    exact k67
  have T72 : u.a 72 T = -1 := by
    rw [ua 72 (by decide) (by decide) (by decide), xa72, Ya 72 (by decide) (by decide)]
    exact Z72
  have u29 : (u.i 29).toInt = (s1.i 29).toInt + 1 := by rw [J 29 (by decide) (by decide) x29]; exact t1
  have u30 : u.a 30 (s1.i 29).toNatClampNeg = -1 := by
    rw [A 30 (by decide) (by decide) (by decide) (by decide) (by decide) (by decide) xa30]
    exact t2
  have id0 : 0 ≤ (s1.i 29).toInt := by
    have z1 := hC.2.2.2.2.2.2.2.2.2.2.1
    have z2 := hC.jp.1.1
    have z3 := w0.2.2.2.1.1.r.2.2.2.2.2.1
    omega
  have n53 := sqX.2.2.2.1.2.1
  have i11' : (s1.i 11).toInt = (s.i 11).toInt := by rw [i11]
  have w21 := w0.2.2.2.2.2.2.2.1
  have w54 := w0.2.2.2.2.2.2.2.2.1
  obtain ⟨cc, hc, ht, v2, v3'⟩ := hC.gen (P := P) (q := s1) q1 q2 q3 hT hm hx (w0.z (by omega)).x (by omega) ⟨by decide, by decide, by decide, by decide, by decide, by decide, by unfold isKS isOne isTy; decide⟩ sqX (g3'.trans P50) (by rw [y38, i38]; rfl) frs1 tbs cds ⟨(J 2 (by decide) (by decide) x2).trans c1, (J 3 (by decide) (by decide) x3).trans c2, (J 8 (by decide) (by decide) x8).trans c3, (J 38 (by decide) (by decide) x38).trans c4, (A 1 (by decide) (by decide) (by decide) (by decide) (by decide) (by decide) xa1).trans c7, (A 4 (by decide) (by decide) (by decide) (by decide) (by decide) (by decide) xa4).trans c8, by rw [ub.1, xb9, Yb.1, Zb.1]; exact c9⟩ (by rw [J 43 (by decide) (by decide) x43, c5]; show _ = _ + ((0 : Nat) : Int); omega) (by rw [u56, c6]; rfl) evR ⟨by omega, by show phI s + 0 ≤ phI u; have := w0.2.2.2.2.2.2.1.2.1; omega, by omega, by rw [ui 19 (by decide), v12, Yi 19 (by decide), Zi 19 (by decide), n4]; have z9 := w0.2.2.2.2.2.2.1.2.2.2; show _ = _ + ((1 : Nat) : Int); omega⟩ (by rw [y21, i21]; omega) (by rw [R54]; omega) ⟨(J 59 (by decide) (by decide) x59).trans p1, (A 60 (by decide) (by decide) (by decide) (by decide) (by decide) (by decide) xa60).trans p2, (A 61 (by decide) (by decide) (by decide) (by decide) (by decide) (by decide) xa61).trans p3, (A 62 (by decide) (by decide) (by decide) (by decide) (by decide) (by decide) xa62).trans p4⟩ (fun cc h1 h2 h3 h4 h5 => by
      refine ⟨by rw [h1, h2]; exact rr1, by rw [h1]; omega, ?_, fun _ => ⟨rfl, rfl⟩, fun z => absurd z (by rw [h2, g0]; decide), fun z => absurd (by rw [h2, g0]; exact Or.inl rfl) z, fun _ => ⟨Int.le_refl _, [], ?_, ?_, ⟨fun _ => by rw [h3, T72, eM]; omega, fun L0 j hL => absurd hL.symm (by simp)⟩, fun j hj => absurd hj List.not_mem_nil⟩⟩
      · have hwn : ceW cc = wn := by
          rw [← c6] at h5
          omega
        rw [h2, h3]
        refine RFR.m213 g0 ⟨T64, ⟨by rw [T66]; exact id0, by rw [T66]; omega⟩, ?_, fun _ => ⟨by rw [hwn, u57.1, Z57, T66]; exact k66, ?_⟩⟩ ⟨T65, ⟨⟨u64, u65, u641⟩, ?_⟩, by rw [yo]; exact o6⟩
        · rw [yo, o8, T67, T72, eM]
          refine ⟨?_, hwh⟩
          constructor
          · exact fun z => Or.inl z
          · exact fun z => z.elim (fun y => y) (fun y => by omega)
        · rw [hwn, u57.2, Z58, c5]
          omega
        · rw [u66, x38, Yi 38 (by decide), Zi 38 (by decide), c4, g3']
          have z1 := w0.1.2.1.1
          exact z1.symm
      · rw [h3, T66, u30]
        show (-1 : Int32).toInt < 0
        rw [eM]
        omega
      · rw [h2, yo, o12]
        exact kmk0) (fun g _ z => absurd z (by unfold isGo; decide)) (fun _ => by rw [T66]) (fun cc col h1 _ _ _ hcl _ _ => RFR.nogo hcl (by rw [h1]; exact g0) (Or.inr rfl))
  have r36 : op.2.i 36 = 1 := R36.trans w0.2.2.2.2.2.1.2.2.2.2
  refine gen_list hc ht v2 v3' g0 ⟨by unfold isOne; decide, by decide, by decide, by decide⟩ (by rw [tu]; show _ = (T : Int) + ((3 : Nat) : Int) - 1; omega) u641 u651 r36 (fun ku0 jw => ?_)
  obtain ⟨z, j1, j2, j3, j4, j5, j6⟩ := hJ ⟨ku0, jw⟩
  have hin := hC.inl q1 q3
  have ckall : CKZ S op.2 := w0.2.2.2.2.1.tr w0.2.2.2.2.2.1.2.2.1 zX
  have fsu : FRB T s u := w0.2.2.1.tr frs1
  have veq : vws op.2 u (c :: L) = vws S s (c :: L) := vws.eqf (T := T) (fun j hj => ((tbs.1 j (by rw [w0.2.2.2.1.1.1.2.2.2.1]; exact hj)).2.1).trans (w0.2.2.2.1.1.2.1 j hj).2.1) (c :: L) hC.o3 (fun y hy => (hin.o ckall y hy).1) (fun k t h1 h2 h3 => fsu.fld k t h1 h2 h3) (fun y hy => by
    have z1 := wid1 (S.o y.2.1 0)
    have z2 := (hin y hy).2.2.1
    omega)
  show JRW Aj U B b (vw op.2 u cc :: vws op.2 u (c :: L)) op.2 u
  rw [veq]
  have pls : ∀ y ∈ vws S s (c :: L), y.2.2.1 < cc.1 := vws.pl hc
  have kO := ke_X1_open N R 123 op eop
  have quq : qe u = qe q := qu.trans ((kre_f_X12_open N Y 123 ob hob).trans (qY.trans qZ))
  obtain ⟨-, -, -, -, -, -, -, -, -, -, -, -, -, oi50, -, -, -, -, -, -, oa48, oa49, -, -, -, -, -, oi21, -⟩ := pj_eq v5
  have l44 : (R.i 44).toInt + 1 ≤ (op.2.i 44).toInt := by
    rw [h1.1.2.2.2.1.1, evw.1.2.2.2.1.1]
    exact u11
  have y1 := (j1.cek (R := CS.setI op.2 38 (P.i 38)) 1 (pe.s38 kO) oi21 oa48 oa49 oi50 l44).se (u := RS.setI u 52 E) (qe.s52 quq) ⟨J 38 (by decide) (by decide) x38, fun j _ => congrFun (A 40 (by decide) (by decide) (by decide) (by decide) (by decide) (by decide) xa40) j⟩
  have pcX : pcC op.2 = pcC R := pcC.pe kO
  have pru : pcR u = pcR q := pcR.qe quq
  have hr0 : (vw op.2 u cc).v = 213 := show op.2.o cc.2.1 0 = 213 by rw [v2]; exact g0
  have r9 : (vw op.2 u cc).1 9 = x9 := show op.2.o cc.2.1 9 = x9 by rw [v2, yo]; exact j4
  have r10 : (vw op.2 u cc).1 10 = x10 := show op.2.o cc.2.1 10 = x10 by rw [v2, yo]; exact j5
  have r11 : (vw op.2 u cc).1 11 = x11 := show op.2.o cc.2.1 11 = x11 by rw [v2, yo]; exact j6.1
  have r2 : (vw op.2 u cc).1 2 = P.i 38 := show op.2.o cc.2.1 2 = P.i 38 by rw [v2, yo]; exact j6.2.1
  have r66 : (vw op.2 u cc).2.1 66 = s1.i 29 := show (vw op.2 u cc).2.1 66 = s1.i 29 by rw [vw_at (k := 66) ⟨by decide, by decide⟩, v3']; exact T66
  have r72 : (vw op.2 u cc).2.1 72 = -1 := show (vw op.2 u cc).2.1 72 = -1 by rw [vw_at (k := 72) ⟨by decide, by decide⟩, v3']; exact T72
  have jl : jlv (vw op.2 u cc).v = 1265 := by rw [hr0]; rfl
  have en : ∀ (G : GHT) (ω h l : Nat), jen G ω (vw op.2 u cc) h l = [enT xn yn (G (vw op.2 u cc).2.2.1).1 h (ω + l)] := fun G ω h l => by
    unfold jen
    rw [hr0, if_neg (by decide), if_pos rfl, r9, r66, ← hxn, ← hyn]
    rfl
  have s43 : s1.i 43 = s.i 43 := w0.2.2.2.1.1.1.2.2.2.2.1
  have gkp : GKP s u := (GKP.tbr w0.2.2.2.1.1.2 (by rw [s43]; exact Int.le_refl _)).tr (GKP.tbr tbs (by rw [J 43 (by decide) (by decide) x43, c5]; exact Int.le_refl _))
  have s19 := hv.2.2.1.2.2
  have z19 := w0.2.2.2.2.2.2.1.2.2.2
  have u19 : (u.i 19).toInt = (s.i 19).toInt + 1 := by
    rw [ui 19 (by decide), v12, Yi 19 (by decide), Zi 19 (by decide), n4]
    omega
  have s29 : (s.i 29).toInt ≤ (s1.i 29).toInt := w0.2.2.2.1.1.r.2.2.2.2.2.1
  have s290 : 0 ≤ (s1.i 29).toInt := (w0.1.wp).1.2.2.2
  have u52 : u.i 52 = E + 1 := ((qe_eq quq).1.2.2.2.2.2).trans j3
  have P38 : (P.i 38).toInt = (P.i 38).toInt := rfl
  have h900 := (i11_hi hv).2
  have u900 := (i11_hi evR).2
  refine y1.psd (r := vw op.2 u cc) (R0 := CS.setI op.2 38 (P.i 38)) (u0 := RS.setI u 52 E) (z, 0, []) (fun w => w.ps rfl rfl (by rw [d32.yes (Or.inr (Or.inl hr0))]; exact u52) (Int.le_refl _)) D38.s38 D52.s52 ⟨by omega, fun _ => by omega, ⟨fun y => by rcases y with y | y | y <;> rw [hr0] at y <;> exact absurd y (by decide), fun y => absurd (hr0.symm.trans y) (by decide), by rw [hr0]; decide⟩, fun y => absurd (hr0.symm.trans y) (by decide), by rw [hr0]; decide, by rw [hr0]; decide⟩ (Or.inl (by omega)) gkp (by omega) pls (fun _ => ⟨by rw [r66]; exact s29, by rw [r72]; decide, yv (s1.i 29) x9, List.mem_cons_self, yv.ty, by rw [r66]; rfl⟩) (fun y => absurd (hr0.symm.trans y) (by decide)) (by rw [hr0]; decide) (fun k y => ?_) ?_ (fun y => ?_) ⟨fun _ => ⟨r2, by rw [r9]; exact ⟨by omega, hx3.2.2.2⟩⟩, fun _ => ⟨⟨by rw [r9, r11]; exact hx3.1, by rw [r11]; exact hx3.2.1, fun _ => by rw [r9, r10]; exact hx3.2.2.1, fun _ => by rw [r72]; decide, fun y => absurd (hr0.symm.trans y) (by decide)⟩, by rw [r66]; exact s290, by rw [r66, ← hyn, (qe_eq quq).2.2.2.2.2.2.2.2.2.1]; exact j6.2.2⟩, by rw [ui 11 (by decide)] at *; omega, fun y => absurd (hr0.symm.trans y) (by decide), by rw [hr0]; decide⟩ (fun nm G' ω j gq ng fr wn hc' hh => ?_) (fun FC SF nm X' G' col YJ ω j Z gq hω r12 hc' hh k jr' cur => ?_)
  · unfold rsite at y
    rw [hr0] at y
    rcases y with ⟨y, -⟩ | ⟨y, -⟩ | ⟨y, -⟩ | ⟨y, -⟩
    · rcases y with y | y | y <;> exact absurd y (by decide)
    · exact absurd y (by decide)
    · rcases y with y | y <;> exact absurd y (by decide)
    · rcases y with y | y <;> exact absurd y (by decide)
  · have e1 : rtgs (vw op.2 u cc) = [x10, x11, x9] := by
      unfold rtgs
      rw [hr0, if_neg (by decide), if_neg (by decide), if_neg (by decide), if_pos (by decide), r9, r10, r11]
    have e2 : ptl [yv (s1.i 29) x9, tv x11, tv x10] = [x9, x11, x10] := by
      show rtgs (yv (s1.i 29) x9) ++ (rtgs (tv x11) ++ (rtgs (tv x10) ++ [])) = _
      rw [yv.tgs, tv.tgs, tv.tgs]
      rfl
    rw [e1]
    exact (List.reverse_perm [x9, x11, x10]).trans (List.Perm.of_eq e2.symm)
  · rcases y with y | y | y | y | y | y <;> rw [hr0] at y <;> exact absurd y (by decide)
  · rw [en, gq]
    have n52 : (j.c.length : Int) = E.toInt := ng.2.2.1
    have ml := msr_len j.c
    have hh' : ((2 * j.h + (j.c.length + 3 * ops j.c) : Nat) : Int) ≤ (s.i 11).toInt := hh
    refine ⟨ng.push (e := enT xn yn z j.h (ω + j.l)) rfl rfl rfl rfl ?_ ?_ ?_ ?_, hc'.try (by omega) (by omega), ?_⟩
    · show (op.2.i 38).toInt = (P.i 38).toInt + (if (1 : Nat) ≤ 3 then 1 else 0)
      rw [if_pos (by decide), y38, i38]
    · show (u.i 52).toInt = E.toInt + 1
      rw [u52, ad1 (by omega) (by omega)]
    · show ((frs j.c + (if (1 : Nat) ≤ 3 then 1 else 0) : Nat) : Int) ≤ _
      rw [if_pos (by decide)]
      omega
    · exact (ng.2.2.2.d D38.s38 D52.s52).cons (show ¬ (1 : Nat) = 2 by decide) (show ¬ (1 : Nat) = 4 by decide)
    · show ((2 * j.h + ((j.c.length + 1) + 3 * (ops j.c + (if (1 : Nat) = 1 then z else 0))) : Nat) : Int) ≤ _
      rw [if_pos rfl]
      omega
  · rw [en, gq, jl, pcX, pru] at cur
    have tr := (jr'.2.2.2.2.2.2.2.1 (Or.inl hr0)).1 (enT xn yn z j.h (ω + j.l)) (by rw [en, gq]; exact List.mem_singleton.mpr rfl)
    rw [jl] at tr
    refine ⟨k (tr.1 rfl) (tr.2 (Or.inl rfl)) ⟨_, ?_, (cur r36).1⟩, JHH.no (by rw [hr0]; decide)⟩
    omega
theorem TRJ.s8 {A : JBA} {U : RS} {B : CS} {b : RS} {V0 : List RVW} {s0 : RS} {W : List RVW} {a x y z : Nat} {m m' : Int} {D E x9 x10 x11 v : Int32} {R : CS} {q : RS} (h : TRJ A U B b V0 s0 W a x y z m D E x9 x10 x11 R q) (l : m' ≤ m) : TRJ A U B b V0 s0 W a x y z m' D E x9 x10 x11 (CS.setO R a 8 v) q := by
  obtain ⟨h1, h2, h3, h4, h5, h6⟩ := h
  exact ⟨h1.ce (R := CS.setI (CS.setO R a 8 v) 38 D) rfl rfl rfl rfl rfl rfl, by omega, h3, (so_nk (by decide)).trans h4, (so_nk (by decide)).trans h5, (so_nk (by decide)).trans h6.1, (so_nk (by decide)).trans h6.2.1, h6.2.2⟩
set_option maxHeartbeats 4000000 in
theorem st_try {N : Nat} (hN : 1000 ≤ N) {d : Int32} {B : CS} {b : RS} {t0 T n : Nat} {L : List CEL} {x : Int} {S : CS} {s U : RS} {c : CEL} {p R : Unit × CS} {Aj : JBA} (hC : COR d B b t0 (c :: L) x S s) (hS : STO c T S s) (hT : t0 ≤ T) (hm : NMC c S) (hx : S.o c.2.1 0 = 303 → x = -1) (h43 : S.i 43 = 213) (e1 : f_X0_add N (CS.setI (CS.setI S 36 1) 24 ((S.i 24) + 1)) 51 0 = some p) (e : f_X7_beginTry N p.2 = some R) (g : f_X12_parse_10 N n s = some U) : (¬ R.2.i 32 = 0 ∧ ¬ U.i 15 = 0) ∨ ∃ (m : Nat) (u : RS), f_X12_parse_10 N m u = some U ∧ NEW d B b t0 c L R.2 u (JTR Aj U B b (c :: L) S s) := by
  obtain ⟨q1, q2, q3, q4, q5, q6⟩ := id hS
  have hv := hC.1
  have t21 := hC.2.2.2.2.2.2.2.2.1.1
  have q54 := hC.2.2.2.2.2.2.2.2.1.2.2
  have k10 := (tk_is hv (a := 213) (b := 423) (Or.inr ⟨by decide, by decide⟩) (by decide)).mp h43
  obtain ⟨m1, s1, g1, w0, a64, a65, i43, i10, ph3, i21, i11, jst⟩ := st_gj hC hS k10 (Or.inr (Or.inr (Or.inr (Or.inr (Or.inr (Or.inr (Or.inl ⟨rfl, rfl⟩))))))) (by decide) e1 g
  have n21 := w0.2.2.2.2.2.2.2.1
  have n54 := w0.2.2.2.2.2.2.2.2.1
  rw [i11] at n21 n54
  -- the class, taken apart
  unfold f_X7_beginTry at e
  obtain ⟨pp, epp, e⟩ := hf_bind e
  obtain ⟨m, hmm, m38⟩ := RWI.few w0.1
  have hm' : (p.2.i 53).toInt = (m : Int) := hmm
  obtain ⟨a, ra, psr⟩ := y_push w0.1.ri.s hmm (by omega) epp
  rw [ra] at e
  have e' : ((f_X0_newTarget N pp.2).bind fun p11 => if oK p11.2 a 0 then (f_X0_newTarget N (CS.setO p11.2 a 10 p11.1)).bind fun p16 => if oK p16.2 a 0 then (f_X0_newTarget N (CS.setO p16.2 a 11 p16.1)).bind fun p21 => if oK p21.2 a 0 then (f_X9_advance N (CS.setO p21.2 a 9 p21.1)).bind fun p26 => if oK p26.2 a 0 then (f_X0_add N p26.2 54 (CS.o p26.2 a 10)).bind fun p31 => (f_X1_skip N (CS.setI p31.2 38 ((p31.2.i 38) + 1)) 214).bind fun p35 => (if p35.1 = 0 then f_X7_beginTry_132 N p35.2 else if oK p35.2 a 0 then (f_X7_openResource N (CS.setO p35.2 a 8 1)).bind fun p45 => f_X7_beginTry_106 N N p45.2 0 else none) else none else none else none else none) = some R := e
  obtain ⟨x11, ex11, e'⟩ := hf_bind e'
  obtain ⟨-, e'⟩ := hf_ite e'
  obtain ⟨x16, ex16, e'⟩ := hf_bind e'
  obtain ⟨-, e'⟩ := hf_ite e'
  obtain ⟨x21, ex21, e'⟩ := hf_bind e'
  obtain ⟨-, e'⟩ := hf_ite e'
  obtain ⟨x26, ex26, e'⟩ := hf_bind e'
  obtain ⟨-, e'⟩ := hf_ite e'
  obtain ⟨x31, ex31, e'⟩ := hf_bind e'
  -- the row as it is pushed
  obtain ⟨u1, v1⟩ := (NTW.rf pp.2).nt ex11
  have u2 := u1.so (a := a) (k := 10) (v := x11.1) (Or.inr (Or.inl rfl))
  obtain ⟨u3, v3⟩ := u2.nt ex16
  have u4 := u3.so (a := a) (k := 11) (v := x16.1) (Or.inr (Or.inr rfl))
  obtain ⟨u5, v5⟩ := u4.nt ex21
  have u6 := u5.so (a := a) (k := 9) (v := x21.1) (Or.inl rfl)
  obtain ⟨sj1, sj2, sj3, sj4, sj5, sj6⟩ := id w0.1.sj
  have hi := i11_hi w0.1
  have sq0 := psr.sq hm' m38 ⟨sj1, by omega⟩
  have sq1 := (((((sq0.nt ex11).so (k := 10) (w := x11.1) ⟨by decide, by decide, by decide, by decide⟩).nt ex16).so (k := 11) (w := x16.1) ⟨by decide, by decide, by decide, by decide⟩).nt ex21).so (k := 9) (w := x21.1) ⟨by decide, by decide, by decide, by decide⟩
  have ji := psr.2.1
  have p0 := w0.1.t21
  have X21 : (x21.2.i 21).toInt = (p.2.i 21).toInt + 3 := by
    have z1 : pp.2.i 21 = p.2.i 21 := ji 21 (by decide) (by decide)
    have y1 : (x11.2.i 21).toInt = (p.2.i 21).toInt + 1 := by rw [v1, z1]; exact ad1 p0.1 (by omega)
    have y2 : (x16.2.i 21).toInt = (p.2.i 21).toInt + 2 := by
      rw [v3]
      show (x11.2.i 21 + 1).toInt = _
      rw [ad1 (by omega) (by omega), y1]
      omega
    rw [v5]
    show (x16.2.i 21 + 1).toInt = _
    rw [ad1 (by omega) (by omega), y2]
    omega
  have o21 : ∀ b : Nat, x21.2.o b = (CS.setO x16.2 a 11 x16.1).o b := fun b => by
    unfold f_X0_newTarget at ex21
    cases ex21
    rfl
  have o16 : ∀ b : Nat, x16.2.o b = (CS.setO x11.2 a 10 x11.1).o b := fun b => by
    unfold f_X0_newTarget at ex16
    cases ex16
    rfl
  have m11 : x11.1 = pp.2.i 21 ∧ x11.2.i 44 = pp.2.i 44 ∧ x11.2.i 20 = pp.2.i 20 := by
    unfold f_X0_newTarget at ex11
    cases ex11
    exact ⟨Int32.add_sub_cancel _ _, rfl, rfl⟩
  have m16 : x16.2.i 44 = x11.2.i 44 ∧ x16.2.i 20 = x11.2.i 20 := by
    unfold f_X0_newTarget at ex16
    cases ex16
    exact ⟨rfl, rfl⟩
  have m21 : x21.1 = x16.2.i 21 ∧ x21.2.i 20 = x16.2.i 20 := by
    unfold f_X0_newTarget at ex21
    cases ex21
    exact ⟨Int32.add_sub_cancel _ _, rfl⟩
  have z21 : pp.2.i 21 = p.2.i 21 := ji 21 (by decide) (by decide)
  have y16 : (x16.2.i 21).toInt = (p.2.i 21).toInt + 2 := by
    have y1 : (x11.2.i 21).toInt = (p.2.i 21).toInt + 1 := by rw [v1, z21]; exact ad1 p0.1 (by omega)
    rw [v3]
    show (x11.2.i 21 + 1).toInt = _
    rw [ad1 (by omega) (by omega), y1]
    omega
  obtain ⟨xn, hxn⟩ : ∃ n : Nat, n = x21.1.toNatClampNeg - 2 := ⟨_, rfl⟩
  have hx11 : x11.1.toInt = (xn : Int) := by
    have k1 : x21.1.toInt = (p.2.i 21).toInt + 2 := by rw [m21.1]; exact y16
    have k2 : x11.1.toInt = (p.2.i 21).toInt := by rw [m11.1, z21]
    have k3 := clampI (show 0 ≤ x21.1.toInt by omega)
    omega
  obtain ⟨X, hX⟩ : ∃ X, X = CS.setO x21.2 a 9 x21.1 := ⟨_, rfl⟩
  have eX : pe X = pe x21.2 ∧ X.i = x21.2.i ∧ X.a = x21.2.a ∧ X.o a 9 = x21.1 ∧ X.o a 10 = x11.1 ∧ X.o a 11 = x16.1 := by
    rw [hX]
    refine ⟨rfl, rfl, rfl, so_at, ?_, ?_⟩
    · rw [so_nk (by decide), o21 a, so_nk (by decide), o16 a]
      exact so_at
    · rw [so_nk (by decide), o21 a]
      exact so_at
  have X21' : (X.i 21).toInt = (p.2.i 21).toInt + 3 := by rw [hX]; exact X21
  have eXo2 : X.o a 2 = p.2.i 38 := by
    rw [hX, so_nk (by decide), o21 a, so_nk (by decide), o16 a, so_nk (by decide)]
    have z1 : x11.2.o a 2 = pp.2.o a 2 := by
      unfold f_X0_newTarget at ex11
      cases ex11
      rfl
    rw [z1]
    exact psh_o2 epp ra
  have x16t : x16.1.toInt = (p.2.i 21).toInt + 1 := by
    have y1 : (x11.2.i 21).toInt = (p.2.i 21).toInt + 1 := by rw [v1, z21]; exact ad1 p0.1 (by omega)
    have z1 : x16.1 = x11.2.i 21 := by
      unfold f_X0_newTarget at ex16
      cases ex16
      exact Int32.add_sub_cancel _ _
    rw [z1]
    exact y1
  have hx3 : x21.1.toInt = x16.1.toInt + 1 ∧ 1 ≤ x16.1.toInt ∧ x21.1.toInt = x11.1.toInt + 2 ∧ x21.1.toInt ≤ 5000 := by
    have k1 : x21.1.toInt = (p.2.i 21).toInt + 2 := by rw [m21.1]; exact y16
    have k2 : x11.1.toInt = (p.2.i 21).toInt := by rw [m11.1, z21]
    have k3 := p0
    exact ⟨by omega, by omega, by omega, by omega⟩
  rw [← hX] at ex26 sq1 u6
  clear hX u1 u2 u3 u4 u5
  obtain ⟨ui, ua, ⟨ur, ub, ul, uL, uk, uh, uol⟩, uo⟩ := u6
  obtain ⟨⟨pa, pb, pl⟩, -, ⟨p53, p54⟩, -, -, -, -, -, -, ⟨f5, f6, f7, f8⟩, ⟨f9, f10, f11, f12, f14⟩⟩ := id psr
  have X54 : (X.i 54).toInt = (p.2.i 54).toInt + 1 := by
    rw [ui 54 (by decide), p54]
    exact ad1 sj1 (by omega)
  have ew : ENW d X s1 := by
    refine w0.1.w.gx (fun j h1 _ _ h4 h5 _ _ => ?_) ⟨?_, ?_, ?_⟩ ?_ ?_ ?_ ?_
    · rw [ui j h1, ji j h4 h5]
    · rw [ua 0 (by decide), pa]
    · rw [ua 9 (by decide), pa]
    · rw [ua 49 (by decide), pa]
    · rw [ub, pb]
    · rw [ul, pl]
    · unfold SJB
      rw [X54, ui 55 (by decide), ji 55 (by decide) (by decide), ui 38 (by decide), ji 38 (by decide) (by decide)]
      rw [i11] at sj2 sj4 ⊢
      omega
    · rw [X21']
      rw [i11] at p0 ⊢
      omega
  have X43 : X.i 43 = 213 := by
    rw [ui 43 (by decide), ji 43 (by decide) (by decide), i43, h43]
  have tw : ALN (p.2.i 43) := Or.inr (by rw [i43, h43]; decide)
  -- the reference
  obtain ⟨m2, V, hV, g2⟩ := rl_15 g1 w0.2.1 w0.1.1.2.1 a64
  unfold f_X12_trying at hV
  obtain ⟨-, hV⟩ := hf_ite hV
  rw [tp_nat w0.2.1, if_pos a65] at hV
  obtain ⟨q, hq, hV⟩ := hf_bind hV
  obtain ⟨hib, hV⟩ := hf_ite hV
  obtain ⟨em, hem, hV⟩ := hf_bind hV
  obtain ⟨v1', v2', v3', v4', v5', v6', v7', v8', v9', v10', v11', v12'⟩ := ew.adv hN (by rw [X43]; decide) ex26 hq
  obtain ⟨-, -, -, -, -, -, -, -, -, -, -, -, y38, y50, y53, y54, y55, y56, -, -, -, -, y52, yr, yo, yol, -, y21, ⟨yh, yL, yk⟩⟩ := pj_eq v3'
  obtain ⟨x2, x3, x8, x18, x24, x29, x33, x38, x42, x43, x52, x53, x54, x55, x56, x59, x63, x75, xa1, xa4, xa25, xa26, xa27, xa28, xa30, xa34, xa37, xa40, xa41, xa44, xa46, xa47, xa48, xa49, xa50, xa51, xa57, xa58, xa60, xa61, xa62, xa64, xa65, xa66, xa67, xa68, xa69, xa70, xa71, xa72, xa73, xb9, xb39, xb45, xb74⟩ := qj_eq v2'
  have gain := ADV.gain ew.1.2.2.2.2.2.2.1 v11'
  have gw := gain.2.2.2.2.1 (Or.inl (by rw [X43]; decide))
  have plX : plI X = plI p.2 := by
    unfold plI
    rw [ui 44 (by decide), ji 44 (by decide) (by decide)]
  have plX' : plI X = (s1.i 11).toInt := by
    show (X.i 44).toInt = _
    rw [ew.1.2.2.2.1.1]
  have pl26 : plI x26.2 = (q.i 11).toInt := by
    show (x26.2.i 44).toInt = _
    rw [v1'.1.2.2.2.1.1]
  -- the record
  have ckI := clampI hib.1
  obtain ⟨id, hid⟩ : ∃ id : Nat, id = (q.i 29).toNatClampNeg := ⟨_, rfl⟩
  rw [← hid] at hem ckI
  have hid' : id = (s1.i 29).toNatClampNeg := by rw [hid, x29]
  clear hid
  obtain ⟨Z, hZ⟩ : ∃ Z, Z = RS.setI (RS.setA (RS.setA (RS.setA q 66 T (q.i 29)) 30 id (-1)) 31 id (-1)) 29 (q.i 29 + 1) := ⟨_, rfl⟩
  have Zi : ∀ k : Nat, k ≠ 29 → Z.i k = q.i k := by
    rw [hZ]
    exact fun k h => if_neg h
  have Z29 : Z.i 29 = q.i 29 + 1 := by
    rw [hZ]
    rfl
  have Za : ∀ k : Nat, k ≠ 66 → k ≠ 30 → k ≠ 31 → Z.a k = q.a k := by
    rw [hZ]
    exact fun k h1 h2 h3 => (show (RS.setI (RS.setA (RS.setA (RS.setA q 66 T (q.i 29)) 30 id (-1)) 31 id (-1)) 29 (q.i 29 + 1)).a k = (RS.setA (RS.setA (RS.setA q 66 T (q.i 29)) 30 id (-1)) 31 id (-1)).a k from rfl).trans ((setA_nk h3).trans ((setA_nk h2).trans (setA_nk h1)))
  have Z66 : Z.a 66 T = q.i 29 := by
    rw [hZ]
    show (RS.setA q 66 T (q.i 29)).a 66 T = q.i 29
    exact setA_at
  have Z66j : ∀ j : Nat, j ≠ T → Z.a 66 j = q.a 66 j := by
    rw [hZ]
    intro j hj
    show (RS.setA q 66 T (q.i 29)).a 66 j = q.a 66 j
    exact setA_ne hj
  have Z30 : Z.a 30 id = -1 := by
    rw [hZ]
    show (RS.setA (RS.setA q 66 T (q.i 29)) 30 id (-1)).a 30 id = -1
    exact setA_at
  have Z30j : ∀ j : Nat, j ≠ id → Z.a 30 j = q.a 30 j := by
    rw [hZ]
    intro j hj
    show (RS.setA (RS.setA q 66 T (q.i 29)) 30 id (-1)).a 30 j = q.a 30 j
    exact setA_ne hj
  have Z31 : Z.a 31 id = -1 := by
    rw [hZ]
    exact setA_at
  have Z31j : ∀ j : Nat, j ≠ id → Z.a 31 j = q.a 31 j := by
    rw [hZ]
    intro j hj
    show (RS.setA (RS.setA (RS.setA q 66 T (q.i 29)) 30 id (-1)) 31 id (-1)).a 31 j = q.a 31 j
    exact setA_ne hj
  have Zb : Z.b = q.b ∧ Z.l = q.l := by rw [hZ]; exact ⟨rfl, rfl⟩
  rw [← hZ] at hem
  clear hZ
  have z29 : (Z.i 29).toInt = (s1.i 29).toInt + 1 := by
    rw [Z29, ad1 hib.1 (by have := hib.2; omega), x29]
  have phZ : phI Z = phI q := by
    unfold phI
    rw [Zi 17 (by decide), Zi 20 (by decide)]
  have wq := v1'.wp
  have wpZ : WPI Z := by
    refine ⟨⟨by rw [Zi 43 (by decide)]; exact wq.1.1, by rw [Zi 56 (by decide)]; exact wq.1.2.1, fun z => ?_, by have := wq.1.2.2.2; rw [x29] at this; omega⟩, fun j hj => ?_⟩
    · rw [Zi 56 (by decide)] at z ⊢
      rw [Za 58 (by decide) (by decide) (by decide), Zi 43 (by decide)]
      exact wq.1.2.2.1 z
    · rw [Zi 59 (by decide)] at hj
      rw [Za 62 (by decide) (by decide) (by decide)]
      have := wq.2 j hj
      rw [x29] at this
      omega
  have kk31 := kd_X0_add N x26.2 54 _ x31 ex31
  have ew31 : ENW d x31.2 q := v1'.kd kk31
  have k31 := pj_eq (pj2_eq kk31).1
  have i3138 : x31.2.i 38 = p.2.i 38 := by
    rw [k31.2.2.2.2.2.2.2.2.2.2.2.2.1, y38, ui 38 (by decide), ji 38 (by decide) (by decide)]
  have i3154 : x31.2.i 54 = X.i 54 := by
    rw [k31.2.2.2.2.2.2.2.2.2.2.2.2.2.2.2.1, y54]
  have a38 : (x31.2.i 38 + 1).toInt = (p.2.i 38).toInt + 1 := by
    rw [i3138]
    exact ad1 sj5 (by omega)
  have ewD : ENW d (CS.setI x31.2 38 (x31.2.i 38 + 1)) q := by
    have sq := ew31.sj
    refine ew31.gx (fun j _ _ h3 _ _ _ _ => ci_ne _ _ _ h3) ⟨rfl, rfl, rfl⟩ rfl rfl ?_ ?_
    · obtain ⟨z1, z2, z3, z4, z5, z6⟩ := sq
      refine ⟨z1, z2, z3, z4, by show 0 ≤ (x31.2.i 38 + 1).toInt; omega, ?_⟩
      show (x31.2.i 38 + 1).toInt ≤ (x31.2.i 54).toInt
      rw [a38, i3154, X54]
      omega
    · have z1 := ew31.2.2.2.2.2.2.2.2.2.2.2.1
      have z2 := ew31.2.2.2.2.2.2.2.2.2.2.2.2.1
      exact ⟨z1, z2⟩
  obtain ⟨D, hD⟩ : ∃ D, D = CS.setI x31.2 38 (x31.2.i 38 + 1) := ⟨_, rfl⟩
  have Di : ∀ k : Nat, k ≠ 38 → D.i k = x31.2.i k := by
    rw [hD]
    exact fun k h => ci_ne _ _ _ h
  have D38 : (D.i 38).toInt = (p.2.i 38).toInt + 1 := by
    rw [hD, ci_at]
    exact a38
  have Dr : D.r = x31.2.r ∧ D.L = x31.2.L ∧ D.k = x31.2.k ∧ D.hs = x31.2.hs ∧ D.o = x31.2.o ∧ D.ol = x31.2.ol ∧ D.a = x31.2.a := by rw [hD]; exact ⟨rfl, rfl, rfl, rfl, rfl, rfl, rfl⟩
  have n0 : 0 ≤ (p.2.i 53).toInt := by omega
  have sqA : PSQ p.2 x26.2 a m 213 (p.2.i 50) := sq1.cx n0 (CKX.of v3' v8' v9') y54 y55 y52
  have sqB := sqA.kd n0 kk31
  have sqD : PSQ p.2 D a m 213 (p.2.i 50) := by
    rw [hD]
    obtain ⟨⟨c1, c2, c3, c4, c5, c6, c7, c8⟩, ⟨d1, d2, d3, d4⟩, ⟨e1, e2, e3⟩, h4, ⟨f0, f1, f3, f14⟩, h6⟩ := sqB
    exact ⟨⟨c1, c2, c3, c4, c5, c6, c7, c8⟩, ⟨d1, d2, d3, d4⟩, ⟨e1, e2, e3⟩, h4, ⟨f0, f1, f3, f14⟩, h6⟩
  have eD : pe (CS.setI D 38 (x31.2.i 38)) = pe x31.2 := by
    rw [hD]
    rfl
  rw [← hD] at e' ewD
  clear hD
  rw [i3138] at eD
  have ewZ : ENW d D Z := ewD.kq (Zi 38 (by decide)) (Zi 2 (by decide)) (Zi 3 (by decide)) (Zi 18 (by decide)) (Zi 53 (by decide)) (Zi 54 (by decide)) (Zi 55 (by decide)) (Za 1 (by decide) (by decide) (by decide)) (Za 4 (by decide) (by decide) (by decide)) (Za 41 (by decide) (by decide) (by decide)) (by rw [Zb.1]) (by rw [Zb.1]) (Zi 10 (by decide)) (Zi 11 (by decide)) (Zi 12 (by decide)) (Zi 14 (by decide)) (Zi 15 (by decide)) (Zi 17 (by decide)) (Zi 19 (by decide)) Zb.2 ⟨by rw [Zi 20 (by decide)]; exact (i20_hw ewD).1.1, by rw [phZ]; exact ewD.2.2.2.2.2.2.2.1⟩ wpZ
  have phq : phI q = phI s1 + 3 := by
    unfold phI
    rw [v6', v12']
    omega
  have ph1 := w0.2.2.2.2.2.2.1.2.1
  have e31 : (D.i 43 = 214 ∧ em.2.i 10 = 424) ∨ (¬ D.i 43 = 214 ∧ ¬ em.2.i 10 = 424) := by
    have i424 := ewZ.1.2.2.2.1.is (c := 214) (d := 424) (Or.inr ⟨by decide, by decide⟩) (by decide)
    have z1 : em.2.i 10 = Z.i 10 := (qj2_eq (ewZ.em (by omega) hem).2.2.1).2.1
    rw [z1]
    by_cases z : D.i 43 = 214
    · exact Or.inl ⟨z, i424.mp z⟩
    · exact Or.inr ⟨z, fun y => z (i424.mpr y)⟩
  obtain ⟨l1, l2, l3, l4, l5, l6⟩ := ewZ.em (by omega) hem
  obtain ⟨kq, b10, b11, b12, b14, b15, b16, b17, b19, bl⟩ := qj2_eq l3
  obtain ⟨w2, w3, w8, w18, w24, w29, w33, w38, w42, w43, w52, w53, w54, w55, w56, w59, w63, w75, wa1, wa4, wa25, wa26, wa27, wa28, wa30, wa34, wa37, wa40, wa41, wa44, wa46, wa47, wa48, wa49, wa50, wa51, wa57, wa58, wa60, wa61, wa62, wa64, wa65, wa66, wa67, wa68, wa69, wa70, wa71, wa72, wa73, wb9, wb39, wb45, wb74⟩ := qj_eq kq
  -- what stands before the resources
  have D8 : D.o a 8 = 0 := by
    rw [Dr.2.2.2.2.1, k31.2.2.2.2.2.2.2.2.2.2.2.2.2.2.2.2.2.2.2.2.2.2.2.2.1, yo, uo a 8 (by decide) (by decide) (by decide)]
    exact f8
  have base : ∀ (wr : Int32) (Y : RS), Y = RS.setA (RS.setI em.2 52 (em.2.i 52 + 1)) 67 T wr → TRW d T a m p.2 pp.2 s1 2 2 0 wr D Y := fun wh Y hY => by
    have Yi : ∀ k : Nat, k ≠ 52 → Y.i k = em.2.i k := by
      rw [hY]
      exact fun k h => if_neg h
    have Ya : ∀ k : Nat, k ≠ 67 → Y.a k = em.2.a k := by
      rw [hY]
      exact fun k h => setA_nk h
    have Y67 : Y.a 67 T = wh := by rw [hY]; exact setA_at
    have Y67j : ∀ j : Nat, j ≠ T → Y.a 67 j = em.2.a 67 j := by
      rw [hY]
      intro j hj
      exact setA_ne hj
    have Yb : Y.b = em.2.b ∧ Y.l = em.2.l := by rw [hY]; exact ⟨rfl, rfl⟩
    have phY : phI Y = phI em.2 := by
      unfold phI
      rw [Yi 17 (by decide), Yi 20 (by decide)]
    have ewY : ENW d D Y := l1.kq (Yi 38 (by decide)) (Yi 2 (by decide)) (Yi 3 (by decide)) (Yi 18 (by decide)) (Yi 53 (by decide)) (Yi 54 (by decide)) (Yi 55 (by decide)) (Ya 1 (by decide)) (Ya 4 (by decide)) (Ya 41 (by decide)) (by rw [Yb.1]) (by rw [Yb.1]) (Yi 10 (by decide)) (Yi 11 (by decide)) (Yi 12 (by decide)) (Yi 14 (by decide)) (Yi 15 (by decide)) (Yi 17 (by decide)) (Yi 19 (by decide)) Yb.2 ⟨by rw [Yi 20 (by decide)]; exact (i20_hw l1).1.1, by rw [phY]; exact l1.2.2.2.2.2.2.2.1⟩ (l1.wp.of (by rw [Yi 43 (by decide)]; exact Int.le_refl _) (Yi 56 (by decide)) (Yi 59 (by decide)) (Yi 29 (by decide)) (Ya 58 (by decide)) (Ya 62 (by decide)))
    have idI : (id : Int) = (s1.i 29).toInt := by
      rw [← x29]
      omega
    have tbZ : TBR s1 Z := by
      have z1 : TBR s1 q := (TBZ.of v2').r
      obtain ⟨c0, c1, c2, ⟨c3a, c3b⟩, c4, c5, c6, c7, c8, c9, c10⟩ := z1
      refine ⟨fun j hj => by rw [Zb.1, Za 40 (by decide) (by decide) (by decide), Za 41 (by decide) (by decide) (by decide)]; exact c0 j hj, fun j hj => by rw [Zb.1, Za 44 (by decide) (by decide) (by decide), Za 46 (by decide) (by decide) (by decide), Za 47 (by decide) (by decide) (by decide), Za 50 (by decide) (by decide) (by decide), Za 51 (by decide) (by decide) (by decide), Za 48 (by decide) (by decide) (by decide), Za 49 (by decide) (by decide) (by decide)]; exact c1 j hj, fun j hj => by rw [Za 57 (by decide) (by decide) (by decide), Za 58 (by decide) (by decide) (by decide)]; exact c2 j hj, ⟨by rw [Zi 59 (by decide)]; exact c3a, fun j k1 k2 => by rw [Za 62 (by decide) (by decide) (by decide)]; rw [Zi 59 (by decide)] at k2; exact c3b j k1 k2⟩, fun j hj => by rw [Za 60 (by decide) (by decide) (by decide), Za 61 (by decide) (by decide) (by decide), Za 62 (by decide) (by decide) (by decide)]; exact c4 j hj, by omega, fun j hj => by rw [Z30j j (by omega)]; exact c6 j hj, by rw [Zi 33 (by decide)]; exact c7, fun j hj => by rw [Za 34 (by decide) (by decide) (by decide), Za 37 (by decide) (by decide) (by decide)]; exact c8 j hj, by rw [Zi 24 (by decide)]; exact c9, fun j hj => by rw [Za 25 (by decide) (by decide) (by decide), Za 27 (by decide) (by decide) (by decide), Za 28 (by decide) (by decide) (by decide)]; exact c10 j hj⟩
    have tbY : TBR s1 Y := by
      have z1 : TBR s1 em.2 := tbZ.tr l2.1.r (by rw [Zi 38 (by decide), x38]; exact Int.le_refl _) (by rw [Zi 43 (by decide), x43]; exact Int.le_refl _) (by rw [Zi 56 (by decide), x56]; exact Int.le_refl _)
      unfold TBR at *
      rw [Yb.1, Ya 40 (by decide), Ya 41 (by decide), Ya 44 (by decide), Ya 46 (by decide), Ya 47 (by decide), Ya 50 (by decide), Ya 51 (by decide), Ya 48 (by decide), Ya 49 (by decide), Ya 57 (by decide), Ya 58 (by decide), Ya 60 (by decide), Ya 61 (by decide), Ya 62 (by decide), Ya 30 (by decide), Ya 34 (by decide), Ya 37 (by decide), Ya 25 (by decide), Ya 27 (by decide), Ya 28 (by decide), Yi 59 (by decide), Yi 29 (by decide), Yi 33 (by decide), Yi 24 (by decide)]
      exact z1
    have frY : FRB T s1 Y := by
      have z1 : FRB T q Z := fun j hj => ⟨by rw [Za 64 (by decide) (by decide) (by decide)], by rw [Za 65 (by decide) (by decide) (by decide)], Z66j j (by omega), by rw [Za 67 (by decide) (by decide) (by decide)], by rw [Za 68 (by decide) (by decide) (by decide)], by rw [Za 69 (by decide) (by decide) (by decide)], by rw [Za 70 (by decide) (by decide) (by decide)], by rw [Za 71 (by decide) (by decide) (by decide)], by rw [Za 72 (by decide) (by decide) (by decide)], by rw [Za 73 (by decide) (by decide) (by decide)], by rw [Zb.1]⟩
      have z2 : FRB T em.2 Y := fun j hj => ⟨by rw [Ya 64 (by decide)], by rw [Ya 65 (by decide)], by rw [Ya 66 (by decide)], Y67j j (by omega), by rw [Ya 68 (by decide)], by rw [Ya 69 (by decide)], by rw [Ya 70 (by decide)], by rw [Ya 71 (by decide)], by rw [Ya 72 (by decide)], by rw [Ya 73 (by decide)], by rw [Yb.1]⟩
      exact (((FRB.of v2').tr z1).tr (FRB.of kq)).tr z2
    have cdY : CDK (s1.i 20).toInt s1 Y := by
      have c0 : q.i 20 = s1.i 20 := v6'
      refine ⟨?_, fun j hj => ?_⟩
      · rw [Yi 20 (by decide), l6, Zi 20 (by decide), c0]
        omega
      · rw [Ya 22 (by decide), l2.2.2 j (by rw [Zi 20 (by decide), c0]; exact hj), Za 22 (by decide) (by decide) (by decide), v7']
    have eE : eI D = eI x26.2 := by
      have kp := pj2_eq kk31
      unfold eI plI
      rw [Di 44 (by decide), Di 43 (by decide), kp.2.2.2.2.2.2.2.1, kp.2.2.2.2.2.2.2.2.1]
    refine ⟨ewY, ?_, sqD, ⟨?_, ?_, ?_, ?_, ?_, fun b => ?_, ?_⟩, ⟨?_, D8, ?_, ?_, ?_, ?_⟩, ⟨frY, tbY, cdY⟩, ⟨?_, ?_, ?_, ?_, ?_, ?_, ?_, ?_, ?_⟩, ⟨?_, ?_, ?_, ?_⟩, ⟨?_, ?_, ?_, ?_⟩, by rw [eE, ← plX]; exact gw.1, ⟨?_, ?_, Y67⟩, ⟨?_, ?_⟩⟩
    · show (Y.i 63).toInt = (T : Int)
      rw [Yi 63 (by decide), w63, Zi 63 (by decide), x63]
      exact w0.2.1
    · rw [Dr.1, k31.2.2.2.2.2.2.2.2.2.2.2.2.2.2.2.2.2.2.2.2.2.2.2.1, yr, ur]
    · rw [Dr.2.1, k31.2.2.2.2.2.2.2.2.2.2.2.2.2.2.2.2.2.2.2.2.2.2.2.2.2.2.2.2.2.1, yL, uL]
    · rw [Dr.2.2.1, k31.2.2.2.2.2.2.2.2.2.2.2.2.2.2.2.2.2.2.2.2.2.2.2.2.2.2.2.2.2.2, yk, uk]
    · rw [Dr.2.2.2.1, k31.2.2.2.2.2.2.2.2.2.2.2.2.2.2.2.2.2.2.2.2.2.2.2.2.2.2.2.2.1, yh, uh]
    · rw [Di 53 (by decide), k31.2.2.2.2.2.2.2.2.2.2.2.2.2.2.1, y53, ui 53 (by decide)]
    · rw [Dr.2.2.2.2.1, k31.2.2.2.2.2.2.2.2.2.2.2.2.2.2.2.2.2.2.2.2.2.2.2.2.1, yo]
      exact uo b 0 (by decide) (by decide) (by decide)
    · rw [Dr.2.2.2.2.2.1, k31.2.2.2.2.2.2.2.2.2.2.2.2.2.2.2.2.2.2.2.2.2.2.2.2.2.1, yol, uol]
    · rw [Dr.2.2.2.2.1, k31.2.2.2.2.2.2.2.2.2.2.2.2.2.2.2.2.2.2.2.2.2.2.2.2.1, yo, uo a 6 (by decide) (by decide) (by decide)]
      exact f6
    · rw [Dr.2.2.2.2.1, k31.2.2.2.2.2.2.2.2.2.2.2.2.2.2.2.2.2.2.2.2.2.2.2.2.1, yo, uo a 12 (by decide) (by decide) (by decide)]
      exact f12
    · exact D38
    · rw [Di 21 (by decide), pj_21 (pj2_eq kk31).1, y21]
      exact X21'
    · rw [Di 34 (by decide), (pj2_eq kk31).2.2.2.1, v11'.1.2 34 (by decide) (by decide) (by decide) (by decide), ui 34 (by decide), ji 34 (by decide) (by decide)]
    · rw [Yi 2 (by decide), w2, Zi 2 (by decide), x2]
    · rw [Yi 3 (by decide), w3, Zi 3 (by decide), x3]
    · rw [Yi 8 (by decide), w8, Zi 8 (by decide), x8]
    · rw [Yi 38 (by decide), w38, Zi 38 (by decide), x38]
    · rw [Yi 43 (by decide), w43, Zi 43 (by decide), x43]
    · rw [Yi 56 (by decide), w56, Zi 56 (by decide), x56]
    · rw [Ya 1 (by decide), wa1, Za 1 (by decide) (by decide) (by decide), xa1]
    · rw [Ya 4 (by decide), wa4, Za 4 (by decide) (by decide) (by decide), xa4]
    · rw [Yb.1, wb9, Zb.1, xb9]
    · rw [Yi 11 (by decide), b11, Zi 11 (by decide)]
      have := gw.2.1
      omega
    · omega
    · rw [Yi 17 (by decide), b17, Zi 17 (by decide), v12']
      omega
    · rw [Yi 19 (by decide), b19, Zi 19 (by decide), v10']
    · rw [Yi 59 (by decide), w59, Zi 59 (by decide), x59]
    · rw [Ya 60 (by decide), wa60, Za 60 (by decide) (by decide) (by decide), xa60]
    · rw [Ya 61 (by decide), wa61, Za 61 (by decide) (by decide) (by decide), xa61]
    · rw [Ya 62 (by decide), wa62, Za 62 (by decide) (by decide) (by decide), xa62]
    · rw [Ya 64 (by decide), wa64, Za 64 (by decide) (by decide) (by decide), xa64]
      exact a64
    · rw [Ya 66 (by decide), wa66, Z66, x29]
    · rw [Yi 29 (by decide), w29]
      exact z29
    · rw [Ya 30 (by decide), wa30, ← hid']
      exact Z30
  -- its code
  obtain ⟨yn, hyn⟩ : ∃ n : Nat, n = (s1.i 29).toNatClampNeg := ⟨_, rfl⟩
  have s19 := hv.2.2.1.2.2
  have alc : ALC q Z := ⟨⟨Zi 20 (by decide), Zi 24 (by decide), by rw [z29, x29], Zi 33 (by decide), Zi 42 (by decide), Zi 52 (by decide)⟩, ⟨Za 21 (by decide) (by decide) (by decide), Za 22 (by decide) (by decide) (by decide), Za 23 (by decide) (by decide) (by decide)⟩, ⟨Za 25 (by decide) (by decide) (by decide), Za 26 (by decide) (by decide) (by decide), Za 27 (by decide) (by decide) (by decide), Za 28 (by decide) (by decide) (by decide)⟩, fun j hj => ⟨Z30j j (by omega), Z31j j (by omega), by rw [Za 32 (by decide) (by decide) (by decide)]⟩, ⟨Za 34 (by decide) (by decide) (by decide), Za 35 (by decide) (by decide) (by decide), Za 36 (by decide) (by decide) (by decide), Za 37 (by decide) (by decide) (by decide)⟩⟩
  obtain ⟨eX1, eX2, eX3, eX9, eX10, eX11⟩ := eX
  have jb : (KU3 U s ∧ JRW Aj U B b (vws S s (c :: L)) S s) → JRG Aj U B b (vws S s (c :: L)) s [yv (s1.i 29) x21.1, tv x16.1, tv x11.1] (TRK U xn yn 0 (pcC x31.2) (pcR em.2)) 0 1 x31.2 em.2 := fun kj => by
    have j1 := jst.go2 kj.2 (e := 0) (Or.inr ⟨rfl, Or.inr (by rw [h43]; decide)⟩) hv.2.1.1
    have j2 := j1.ce (R := pp.2) (ke_X6_push N p.2 213 _ _ pp epp) z21 (by rw [pa]) (by rw [pa]) (ji 50 (by decide) (by decide)) (ji 44 (by decide) (by decide))
    have h44 : (pp.2.i 44).toInt ≤ 900 := by rw [ji 44 (by decide) (by decide), w0.1.p44.1]; exact hi.2
    have j3 := (j2.nt ex11 h44 (by omega)).ce (R := CS.setO x11.2 a 10 x11.1) rfl rfl rfl rfl rfl rfl
    have j4 := (j3.nt ex16 (show (x11.2.i 44).toInt ≤ 900 by rw [m11.2.1]; exact h44) (by omega)).ce (R := CS.setO x16.2 a 11 x16.1) rfl rfl rfl rfl rfl rfl
    have j5 := (j4.nt ex21 (show (x16.2.i 44).toInt ≤ 900 by rw [m16.1, m11.2.1]; exact h44) (by omega)).ce (R := X) eX1 (by rw [eX2]) (by rw [eX3]) (by rw [eX3]) (by rw [eX2]) (by rw [eX2])
    obtain ⟨-, -, -, -, -, -, -, -, -, -, -, -, -, oi50, -, -, -, -, -, -, oa48, oa49, -, -, -, -, -, oi21, -⟩ := pj_eq v3'
    have j6 := (j5.cek (R := x26.2) 2 (ke_X9_advance N X x26 ex26) oi21 oa48 oa49 oi50 gw.2.1).se (u := q) (kre_f_X12_next N s1 q hq) ⟨x38, fun j _ => congrFun xa40 j⟩
    have j7 := j6.alc (y := s1.i 29) alc ⟨Zi 38 (by decide), fun j _ => congrFun (Za 40 (by decide) (by decide) (by decide)) j⟩ (by rw [x29])
    have pc : pcC x26.2 = pcC p.2 := by
      rw [pcC.pe (ke_X9_advance N X x26 ex26)]
      unfold pcC
      rw [eX2, m21.2, m16.2, m11.2.2, (pe_eq (ke_X6_push N p.2 213 _ _ pp epp)).1]
    have pr : pcR Z = pcR s1 := by
      rw [← pcR.qe (kre_f_X12_next N s1 q hq)]
      unfold pcR
      rw [Zi 20 (by decide)]
    have j8 : JRG Aj U B b (vws S s (c :: L)) s [yv (s1.i 29) x21.1, tv x16.1, tv x11.1] (JQG U 2528 0 1 (pcC x26.2) (pcR Z) JQZ) (-1) 1 x26.2 Z := j7.imp (by omega) (by omega) (fun _ _ _ _ _ _ _ _ _ _ _ _ _ k => by rw [pc, pr]; exact k)
    have h26 : (x26.2.i 44).toInt ≤ 900 := by
      have k1 : (x26.2.i 44).toInt = (q.i 11).toInt := pl26
      have k2 := (i20_hw v1').2.2
      omega
    have j9 := j8.ent (x := xn) (y := yn) ex31 h26 (by omega) hem (i20_hw ewZ).1 (by rw [yo, eX10]; exact hx11) (by
      show (if T = T then q.i 29 else _).toInt = _
      rw [if_pos rfl, x29, hyn]
      exact (clampI (by rw [← x29]; exact hib.1)).symm) s19
    exact j9.imp (by omega) (by omega) (fun _ _ _ _ _ _ _ _ _ _ _ _ _ k => k)
  have tj : ∀ (wr : Int32) (Y : RS), Y = RS.setA (RS.setI em.2 52 (em.2.i 52 + 1)) 67 T wr → (KU3 U s ∧ JRW Aj U B b (vws S s (c :: L)) S s) → TRJ Aj U B b (vws S s (c :: L)) s [yv (s1.i 29) x21.1, tv x16.1, tv x11.1] a xn yn 0 2 (p.2.i 38) (em.2.i 52) x21.1 x11.1 x16.1 D Y := fun wr Y hY kj => by
    have b1 := (base wr Y hY).2.2.2.2.2.2.2.1.1
    have Do : D.o = X.o := by rw [Dr.2.2.2.2.1, k31.2.2.2.2.2.2.2.2.2.2.2.2.2.2.2.2.2.2.2.2.2.2.2.2.1, yo]
    refine ⟨?_, by rw [i11] at b1; omega, by rw [hY]; rfl, by rw [Do]; exact eX9, by rw [Do]; exact eX10, by rw [Do]; exact ⟨eX11, eXo2, by
      rw [hY]
      show (em.2.a 31 yn).toInt < 0
      rw [em_31 hem, hyn, ← hid', Z31]
      decide⟩⟩
    have e1 : pcC D = pcC x31.2 := by unfold pcC; rw [Di 20 (by decide)]
    have e2 : pcR Y = pcR em.2 := by rw [hY]; rfl
    rw [e1, e2]
    have z1 := (jb kj).ce (R := CS.setI D 38 (p.2.i 38)) eD (Di 21 (by decide)) (congrFun Dr.2.2.2.2.2.2 48) (congrFun Dr.2.2.2.2.2.2 49) (Di 50 (by decide)) (Di 44 (by decide))
    exact z1.se (u := RS.setI Y 52 (em.2.i 52)) (by rw [hY]; rfl) ⟨by rw [hY]; rfl, fun j _ => by rw [hY]; rfl⟩
  have ph1' : 0 ≤ phI s1 + 1 := by
    have := hv.2.2.2.2.2.2.2.1
    omega
  rcases e31 with ⟨c1, c2⟩ | ⟨c1, c2⟩
  · -- with resources
    rw [if_pos c2] at hV
    have hV' : f_X12_trying_124 N (RS.setA (RS.setI em.2 52 (em.2.i 52 + 1)) 67 T 1) (s1.i 63) = some V := hV
    unfold f_X12_trying_124 at hV'
    rw [if_pos (show (RS.setA (RS.setI em.2 52 (em.2.i 52 + 1)) 67 T 1).i 10 = 424 from c2)] at hV'
    obtain ⟨x35, ex35, e'⟩ := hf_bind e'
    obtain ⟨av, eav, h35⟩ := e_skip1 c1 ex35
    rw [h35, if_neg n10] at e'
    obtain ⟨-, e'⟩ := hf_ite e'
    obtain ⟨x45, ex45, e'⟩ := hf_bind e'
    obtain ⟨Y, hY⟩ : ∃ Y, Y = RS.setA (RS.setI em.2 52 (em.2.i 52 + 1)) 67 T 1 := ⟨_, rfl⟩
    have dD := base 1 Y hY
    rw [← hY] at hV'
    cases N with
    | zero => omega
    | succ N' =>
      have hV2 : b_X12_trying_140 (N' + 1) (f_X12_trying_140 (N' + 1) N') Y (s1.i 63) 1 = some V := hV'
      unfold b_X12_trying_140 at hV2
      rw [if_neg n10, if_pos dD.1.1.2.1] at hV2
      obtain ⟨nx, hnx, hV2⟩ := hf_bind hV2
      have t1 := (dD.nx hN (by rw [c1]; decide) eav hnx).s8 (v := 1)
      have jn : (KU3 U s ∧ JRW Aj U B b (vws S s (c :: L)) S s) → ∃ z : Nat, TRJ Aj U B b (vws S s (c :: L)) s [yv (s1.i 29) x21.1, tv x16.1, tv x11.1] a xn yn z 1 (p.2.i 38) (em.2.i 52) x21.1 x11.1 x16.1 (CS.setO av.2 a 8 1) nx := fun kj => by
        have adv := (dD.1.adv hN (by rw [c1]; decide) eav hnx).2.2.2.2.2.2.2.2.2.2.1
        have gain := (ADV.gain dD.1.1.2.2.2.2.2.2.1 adv).2.2.2.2.1 (Or.inl (by rw [c1]; decide))
        exact ⟨0, ((tj 1 Y hY kj).nx hN dD.1 (by rw [c1]; decide) eav hnx (k := 2) (by omega) gain.2.1).s8 (by omega)⟩
      rcases tr_one hN (K := f_X12_trying_140 (N' + 1) N') s19 jn (fun y v z hz => krf_f_X12_trying_140 (N' + 1) N' y (s1.i 63) v V hz z) ph1' (t1.nu (by omega) (by omega)) ex45 hV2 with ⟨z1, z2⟩ | ⟨u, t2, -, tj2, t3⟩
      · refine Or.inl ⟨?_, u_flt g2 z2⟩
        rw [kF_X7_beginTry_106 (N' + 1) (N' + 1) x45.2 0 R e' z1]
        exact z1
      · rcases tr_loop hN s19 ph1' N' (N' + 1) x45.2 u 0 t2 tj2 (by decide) (by rw [z_t0]; exact (i20_hw t2.1).2.1) e' t3 with ⟨z1, z2⟩ | ⟨R', u', t4, tj4, e4, g4⟩
        · exact Or.inl ⟨z1, u_flt g2 z2⟩
        · exact tr_end hN hxn hyn hx3 tj4 hC q1 q2 q3 hT hm hx w0 i11 tw psr hm' m38 (Or.inr rfl) (t4.nu (by omega) (by omega)) e4 g4 g2
  · rw [if_neg c2] at hV
    have hV' : f_X12_trying_124 N (RS.setA (RS.setI em.2 52 (em.2.i 52 + 1)) 67 T 0) (s1.i 63) = some V := hV
    unfold f_X12_trying_124 at hV'
    rw [if_neg (show ¬ (RS.setA (RS.setI em.2 52 (em.2.i 52 + 1)) 67 T 0).i 10 = 424 from c2)] at hV'
    rw [e_skip0 c1, ob_some] at e'
    have e2 : f_X7_beginTry_132 N D = some R := (if_pos rfl).symm.trans e'
    have dE := base 0 _ rfl
    cases N with
    | zero => omega
    | succ N' =>
      have hV2 : b_X12_trying_140 (N' + 1) (f_X12_trying_140 (N' + 1) N') (RS.setA (RS.setI em.2 52 (em.2.i 52 + 1)) 67 T 0) (s1.i 63) 0 = some V := hV'
      unfold b_X12_trying_140 at hV2
      rw [if_pos rfl] at hV2
      exact tr_end hN hxn hyn hx3 (fun kj => ⟨0, (tj 0 _ rfl kj).1, by have := (tj 0 _ rfl kj).2.1; omega, (tj 0 _ rfl kj).2.2⟩) hC q1 q2 q3 hT hm hx w0 i11 tw psr hm' m38 (Or.inl rfl) dE e2 hV2 g2
