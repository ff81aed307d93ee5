section
/-! both readers: one kind of a catch -/
theorem ENW.tb {d : Int32} {P : CS} {q v : RS} (h : ENW d P q) (va : ∀ k : Nat, k ≠ 30 → k ≠ 34 → k ≠ 37 → k ≠ 72 → v.a k = q.a k) (vi : ∀ k : Nat, k ≠ 33 → v.i k = q.i k) (vl : v.l = q.l) (vb : v.b = q.b) : ENW d P v := by
  refine h.kq (vi 38 (by decide)) (vi 2 (by decide)) (vi 3 (by decide)) (vi 18 (by decide)) (vi 53 (by decide)) (vi 54 (by decide)) (vi 55 (by decide)) (va 1 (by decide) (by decide) (by decide) (by decide)) (va 4 (by decide) (by decide) (by decide) (by decide)) (va 41 (by decide) (by decide) (by decide) (by decide)) (by rw [vb]) (by rw [vb]) (vi 10 (by decide)) (vi 11 (by decide)) (vi 12 (by decide)) (vi 14 (by decide)) (vi 15 (by decide)) (vi 17 (by decide)) (vi 19 (by decide)) vl ?_ (h.wp.of (by rw [vi 43 (by decide)]; exact Int.le_refl _) (vi 56 (by decide)) (vi 59 (by decide)) (vi 29 (by decide)) (va 58 (by decide) (by decide) (by decide) (by decide)) (va 62 (by decide) (by decide) (by decide) (by decide)))
  unfold phI
  rw [vi 20 (by decide), vi 17 (by decide)]
  exact ⟨h.2.2.2.2.2.2.1, h.2.2.2.2.2.2.2.1⟩
theorem ENW.so {d : Int32} {S : CS} {s : RS} {a k : Nat} {v : Int32} (h : ENW d S s) : ENW d (CS.setO S a k v) s := h.gx (fun _ _ _ _ _ _ _ _ => rfl) ⟨rfl, rfl, rfl⟩ rfl rfl h.sj h.t21
set_option maxHeartbeats 2000000 in
theorem ct_kind {N : Nat} (hN : 1000 ≤ N) {d : Int32} {T a id m : Nat} {Lk Lc : List Nat} {S P : CS} {s q V : RS} {x1 x2 xb : Int32} {R : Unit × CS} (hc : CTC a S P) (hr : CTR T id s q Lk Lc) (ew : ENW d P q) (km : KMK q (P.o a 12) Lc) (hx1 : x1.toNatClampNeg = T) (hid : (s.a 66 T).toNatClampNeg = id) (e : f_X7_caughtKind N P a xb = some R) (g : f_X12_catching_18 N (m + 1) q x1 x2 1 = some V) : (¬ R.2.i 32 = 0 ∧ ¬ V.i 15 = 0) ∨ ∃ (v : RS) (n : Nat), ENW d R.2 v ∧ CTC a S R.2 ∧ CTR T id s v Lk (Lc ++ [n]) ∧ KMK v (R.2.o a 12) (Lc ++ [n]) ∧ ((q.i 11).toInt + 2 ≤ (v.i 11).toInt ∧ phI q + 3 ≤ phI v ∧ (v.i 17).toInt = (q.i 17).toInt + 1 ∧ v.i 19 = q.i 19 ∧ KSP N T id a xb P R.2 q v) ∧ ((v.i 10 = 124 ∧ ∃ w : RS, f_X12_next N v = some w ∧ f_X12_catching_18 N m w x1 x2 1 = some V) ∨ (¬ v.i 10 = 124 ∧ f_X12_catching_18 N m v x1 x2 0 = some V)) := by
  have h15 := ew.1.2.1
  have tkr := ew.1.2.2.2.1
  have is5 := tkr.is (c := 5) (d := 5) (Or.inl ⟨by decide, by decide⟩) (by decide)
  have kn : KND P q := ew.2.2.2.2.2.1
  have hK : ∀ (σ : RS) (w0 w1 w2 : Int32), KVf σ (f_X12_catching_18 N m σ w0 w1 w2) := fun σ w0 w1 w2 => krf_f_X12_catching_18 N m σ w0 w1 w2
  have g' : b_X12_catching_18 N (f_X12_catching_18 N m) q x1 x2 1 = some V := g
  unfold b_X12_catching_18 at g'
  rw [if_neg n10, if_pos h15] at g'
  unfold f_X7_caughtKind at e
  by_cases c5 : P.i 43 = 5
  rotate_left
  · rw [e_fnd0 c5, ob_some, if_pos rfl] at e
    rw [if_neg (fun z => c5 (is5.mpr z))] at g'
    obtain ⟨p, hp, g'⟩ := hf_bind g'
    obtain ⟨w1, w2⟩ := y_can0 hp
    rw [if_pos w1] at g'
    exact Or.inl ⟨y_misp (ob_un e), hK _ _ _ _ V g' w2⟩
  have q5 := is5.mp c5
  rw [e_fnd1 c5, ob_some, if_neg n10] at e
  rw [if_pos q5, y_can1 h15 (by rw [q5]; decide), ob_some, if_neg n10] at g'
  obtain ⟨k, ek, e⟩ := hf_bind e
  have e45 : P.i 45 = q.i 14 := tkr.2.2.2.2.2 (Or.inr (Or.inr (Or.inr c5)))
  have lbw : LBW P := ew.2.2.2.2.2.2.2.2.2.2.2.2.2.2.2
  have lb5 : LB5 P := lbw.1
  obtain ⟨v0, v12⟩ := lb5.2.2 c5
  have e13 : P.i 13 = q.i 3 := kn.1
  have hq66 : q.a 66 T = s.a 66 T := hr.2.1 66 (by decide) (by decide) (by decide) (by decide)
  unfold f_X10_isKind f_X10_isKind_16 at ek
  have nn : ¬ P.i 45 < 0 := fun z => by
    have := lt_int z
    rw [z_t0] at this
    omega
  rw [if_neg nn] at ek
  by_cases c3 : q.i 14 < q.i 3
  rotate_left
  · -- the kind is not told
    rw [if_neg c3] at g'
    obtain ⟨p, hp, g'⟩ := hf_bind g'
    have f3 : ¬ p.i 15 = 0 := by
      unfold f_X12_fail at hp
      rw [if_pos h15] at hp
      rw [← Option.some.inj hp]
      show ¬ (3 : Int32) = 0
      decide
    obtain ⟨-, g'⟩ := hf_ite g'
    obtain ⟨-, g'⟩ := hf_ite g'
    have lk : P.i 13 ≤ P.i 45 := by
      rw [e13, e45, Int32.le_iff_toInt_le]
      by_cases z : (q.i 3).toInt ≤ (q.i 14).toInt
      · exact z
      · exact absurd (Int32.lt_iff_toInt_lt.mpr (by omega)) c3
    rw [if_pos lk] at ek
    rw [← Option.some.inj ek, if_pos rfl] at e
    obtain ⟨p3, hp3, e⟩ := hf_bind e
    have z3 : ¬ p3.2.i 32 = 0 := y_fail (by decide) hp3
    refine Or.inl ⟨?_, krf_f_X12_catching_82 N _ hK N p x1 x2 _ V g' f3⟩
    rw [kF_X7_caughtKind_44 N p3.2 a xb _ R e z3]
    exact z3
  rw [if_pos c3] at g'
  obtain ⟨-, g'⟩ := hf_ite g'
  obtain ⟨-, g'⟩ := hf_ite g'
  rw [hx1, hq66, hid] at g'
  have l3 := lt_int c3
  have nk : ¬ P.i 13 ≤ P.i 45 := fun z => by
    have := le_int z
    rw [e13, e45] at this
    omega
  rw [if_neg nk] at ek
  rw [← Option.some.inj ek, if_neg n10] at e
  unfold f_X7_caughtKind_44 at e
  rw [e45] at e v0 v12
  have k3 : 0 ≤ (q.i 14).toInt ∧ (q.i 14).toInt < (q.i 3).toInt := ⟨v0, l3⟩
  have cl := ck_loop hN kn k3 N 0 R (by decide) e
  have rl := rk_loop hN kn h15 hK k3 N Lc _ hr.2.2.2.2.2.2.2.1 g'
  have ofn : ∀ (x : Int32) (j : Nat), j < 12 → x.toInt = (j : Int) → x = Int32.ofNat j := fun x j hj hx => Int32.toInt_inj.mp (by rw [hx, (sm31 j hj).2.2.1])
  have w1z : ∀ {x : RS}, (some ((1 : Int32), x) = some ((0 : Int32), x)) → False := fun z => by
    have := congrArg (fun o : Option (Int32 × RS) => o.map Prod.fst) z
    exact absurd (show (1 : Int32) = 0 from Option.some.inj this) (by decide)
  rcases cl with ⟨cf, j, -, j2, j3, j4⟩ | ⟨cb, pa, pb, hpa, hpb, hR⟩
  · rcases rl with ⟨rf, -⟩ | ⟨rb, -⟩
    · exact Or.inl ⟨cf, rf⟩
    · exfalso
      obtain ⟨i, i1, i2⟩ := (km.1 j j2).mp j3
      have z := rb i i1
      rw [ofn _ j j2 i2, j4] at z
      exact w1z z
  rcases rl with ⟨-, i, i1, i2⟩ | ⟨-, m', y, y0, gy⟩
  · exfalso
    obtain ⟨r0, r12⟩ := km.2 i i1
    obtain ⟨j, hj⟩ : ∃ j : Nat, (q.a 34 i).toInt = (j : Int) := ⟨(q.a 34 i).toInt.toNat, by omega⟩
    have z := cb j (Nat.zero_le _) (by omega) ((km.1 j (by omega)).mpr ⟨i, i1, hj⟩)
    rw [ofn _ j (by omega) hj, z] at i2
    exact w1z i2.symm
  -- the kind is laid
  have gy' : b_X12_catching_82 N (f_X12_catching_18 N m) (f_X12_catching_82 N (f_X12_catching_18 N m) m') q x1 x2 y = some V := gy
  unfold b_X12_catching_82 at gy'
  rw [if_pos (Int32.lt_iff_toInt_lt.mpr (by rw [z_t0]; exact y0))] at gy'
  obtain ⟨h400, gy'⟩ := hf_ite gy'
  obtain ⟨-, gy'⟩ := hf_ite gy'
  rw [hx1, hq66, hid] at gy'
  obtain ⟨n, hn⟩ : ∃ n : Nat, n = (q.i 33).toNatClampNeg := ⟨_, rfl⟩
  have en : (q.i 33).toInt = (n : Int) := by
    rw [hn]
    show _ = (((q.i 33).toInt.toNat : Nat) : Int)
    have := h400.1
    omega
  rw [← hn] at gy'
  have n4 : n < 400 := by
    have := h400.2
    omega
  -- what stands behind the tables' step
  have fin : ∀ v0 : RS, ((0 ≤ (q.a 72 T).toInt ∧ v0 = RS.setI (RS.setA (RS.setA (RS.setA (RS.setA q 34 n (q.i 14)) 37 n (-1)) 37 (q.a 72 T).toNatClampNeg (q.i 33)) 72 T (q.i 33)) 33 (q.i 33 + 1)) ∨ ((q.a 72 T).toInt < 0 ∧ v0 = RS.setI (RS.setA (RS.setA (RS.setA (RS.setA q 34 n (q.i 14)) 37 n (-1)) 30 id (q.i 33)) 72 T (q.i 33)) 33 (q.i 33 + 1))) → ((f_X12_next N v0).bind fun p => (if p.i 15 = 0 then (if p.i 10 = 124 then (f_X12_next N p).bind fun w => f_X12_catching_18 N m w x1 x2 1 else f_X12_catching_18 N m p x1 x2 0) else f_X12_catching_18 N m p x1 x2 0)) = some V → (¬ R.2.i 32 = 0 ∧ ¬ V.i 15 = 0) ∨ ∃ (v : RS) (n : Nat), ENW d R.2 v ∧ CTC a S R.2 ∧ CTR T id s v Lk (Lc ++ [n]) ∧ KMK v (R.2.o a 12) (Lc ++ [n]) ∧ ((q.i 11).toInt + 2 ≤ (v.i 11).toInt ∧ phI q + 3 ≤ phI v ∧ (v.i 17).toInt = (q.i 17).toInt + 1 ∧ v.i 19 = q.i 19 ∧ KSP N T id a xb P R.2 q v) ∧ ((v.i 10 = 124 ∧ ∃ w : RS, f_X12_next N v = some w ∧ f_X12_catching_18 N m w x1 x2 1 = some V) ∨ (¬ v.i 10 = 124 ∧ f_X12_catching_18 N m v x1 x2 0 = some V)) := fun v0 hv0 hg => by
    obtain ⟨r1, r2, r3, r4, r5, r6, r7⟩ := hr.add en n4 hv0
    obtain ⟨p, hp, hg⟩ := hf_bind hg
    have ewq : ENW d P v0 := ew.tb r4 r5 r6 r7
    have ewo : ENW d (CS.setO P a 12 (P.o a 12 ||| ((1 : Int32) <<< (q.i 14 &&& 31)))) v0 := ewq.so
    have kda := kd_X0_add N _ _ _ pa hpa
    have ewa : ENW d pa.2 v0 := ewo.kd kda
    obtain ⟨⟨z1, z2, z3, z4⟩, ⟨z5, z6⟩, ⟨z7, z8, z9, z10, z11⟩, ⟨z12, z13, z14, z15, z16, z17, z18⟩⟩ := kd_all kda
    have k43 : pa.2.i 43 = 5 := by
      rw [z12]
      exact c5
    obtain ⟨b1, b2, b3, b4, b5, b6, b7, b8, b9, b10, b11, b12⟩ := ewa.adv hN (by rw [k43]; decide) hpb hp
    have ctc : CTC a S pb.2 := (hc.m.pj (pj2_eq kda).1 z8 z5).pj b3 b8 b9.1
    have lc : LC P := ew.1.2.2.2.2.2.2.1
    have l2 := lc.2.2.2.2.2.1 (Or.inr (Or.inl (by rw [c5]; decide)))
    have p42 : pa.2.i 42 = P.i 42 := (pj2_eq kda).2.2.2.2.2.2.1
    have ad := b11.2.2.1
    rw [p42] at ad
    have k44 := tkr.1
    have k44' := b1.1.2.2.2.1.1
    rw [k44] at l2
    rw [k44'] at ad
    have v17 : (v0.i 17).toInt = (q.i 17).toInt := by rw [r5 17 (by decide)]
    have kmn : KMK p (pb.2.o a 12) (Lc ++ [n]) := by
      have eo : pb.2.o = pa.2.o := (pj_eq b3).2.2.2.2.2.2.2.2.2.2.2.2.2.2.2.2.2.2.2.2.2.2.2.2.1
      have om : pb.2.o a 12 = P.o a 12 ||| ((1 : Int32) <<< (q.i 14 &&& 31)) := by
        rw [eo, z2]
        exact so_at
      obtain ⟨x, hx⟩ : ∃ x : Nat, (q.i 14).toInt = (x : Int) := ⟨(q.i 14).toInt.toNat, by omega⟩
      have ex := ofn _ x (by omega) hx
      have a34 := qj_a b2 34 (by decide)
      rw [om, ex]
      refine km.add (by omega) (fun j hj => ?_) (by rw [a34, r3]; exact hx)
      rw [a34, r2 j (by have := kch.lt Lc _ hr.2.2.2.2.2.2.2.1 j hj; omega)]
    refine Or.inr ⟨p, n, by rw [hR]; exact b1, by rw [hR]; exact ctc, r1.qj b2 b6 b7, by rw [hR]; exact kmn, ⟨by omega, ?_, by omega, by rw [b10, r5 19 (by decide)], ?_⟩, ?_⟩
    · unfold phI
      rw [b6, r5 20 (by decide), b12]
      omega
    · have q9 := (i20_hw ew).2.2
      refine ⟨q.i 14, _, pa, pb, ⟨k3.1, v12⟩, hpa, hpb, hR, ⟨n, v0, en, n4, hv0, kre_f_X12_next N v0 p hp, (FRB.of b2 : FRB (T + 1) v0 p).all 72 (by decide) (by decide), ?_, ?_⟩, b3, ⟨by rw [k44]; omega, by rw [k44, hR, k44']; omega, by omega⟩⟩
      · rw [(qj_eq b2).2.2.2.2.2.2.2.1, r5 38 (by decide)]
      · rw [qj_a b2 40 (by decide), r4 40 (by decide) (by decide) (by decide) (by decide)]
    · rw [if_pos b1.1.2.1] at hg
      by_cases c : p.i 10 = 124
      · rw [if_pos c] at hg
        obtain ⟨w, hw, hg⟩ := hf_bind hg
        exact Or.inl ⟨c, w, hw, hg⟩
      · rw [if_neg c] at hg
        exact Or.inr ⟨c, hg⟩
  by_cases c72 : 0 ≤ q.a 72 T
  · rw [if_pos c72] at gy'
    obtain ⟨-, gy'⟩ := hf_ite gy'
    have := le_int c72
    rw [z_t0] at this
    exact fin _ (Or.inl ⟨this, rfl⟩) gy'
  · rw [if_neg c72] at gy'
    obtain ⟨-, gy'⟩ := hf_ite gy'
    have z : (q.a 72 T).toInt < 0 := by
      by_cases w : 0 ≤ (q.a 72 T).toInt
      · exact absurd (Int32.le_iff_toInt_le.mpr (by rw [z_t0]; exact w)) c72
      · omega
    exact fin _ (Or.inr ⟨z, rfl⟩) gy'
end
section
/-! both readers: the kinds of a catch; its name -/
theorem ct_loop {N : Nat} (hN : 1000 ≤ N) {d : Int32} {T a id : Nat} {Lk : List Nat} {S : CS} {s V : RS} {x1 x2 xb : Int32} {R : Unit × CS} {J0 J1 : CS → RS → Prop} (hk : ∀ (P R : CS) (q v : RS), J0 P q → KSP N T id a xb P R q v → J1 R v) (hs : ∀ (P R : CS) (q w : RS), J1 P q → SSP T P R q w → J0 R w) (hx1 : x1.toNatClampNeg = T) (hid : (s.a 66 T).toNatClampNeg = id) : ∀ (n m : Nat) (P : CS) (q : RS) (Lc : List Nat) (x3 : Int32), CTC a S P → CTR T id s q Lk Lc → ENW d P q → KMK q (P.o a 12) Lc → J1 P q → 0 ≤ x3.toInt → x3.toInt + 1 ≤ (q.i 11).toInt → f_X7_beginCatch_52 N n P a xb x3 = some R → ((q.i 10 = 124 ∧ ∃ w : RS, f_X12_next N q = some w ∧ f_X12_catching_18 N m w x1 x2 1 = some V) ∨ (¬ q.i 10 = 124 ∧ f_X12_catching_18 N m q x1 x2 0 = some V)) → (¬ R.2.i 32 = 0 ∧ ¬ V.i 15 = 0) ∨ ∃ (P' : CS) (q' : RS) (M : List Nat), ENW d P' q' ∧ CTC a S P' ∧ CTR T id s q' Lk (Lc ++ M) ∧ KMK q' (P'.o a 12) (Lc ++ M) ∧ ((q.i 11).toInt ≤ (q'.i 11).toInt ∧ phI q ≤ phI q' ∧ (q.i 17).toInt ≤ (q'.i 17).toInt ∧ q'.i 19 = q.i 19 ∧ J1 P' q') ∧ f_X7_beginCatch_80 N P' a xb = some R ∧ f_X12_catching_256 N q' x2 = some V
  | 0, _, _, _, _, _, _, _, _, _, _, _, _, e, _ => by cases e
  | n + 1, m, P, q, Lc, x3, hc, hr, ew, km, hj, h0, h1, e, g => by
    have e' : b_X7_beginCatch_52 N (f_X7_beginCatch_52 N n) P a xb x3 = some R := e
    unfold b_X7_beginCatch_52 at e'
    have q9 := (i20_hw ew).2.2
    have n9 : ¬ (900 : Int32) ≤ x3 := fun z => by
      have e9 : (900 : Int32).toInt = 900 := by decide
      have := le_int z
      omega
    rw [if_neg n9] at e'
    have is := ew.1.2.2.2.1.is (c := 124) (d := 124) (Or.inl ⟨by decide, by decide⟩) (by decide)
    unfold f_X1_skip f_X1_skip_17 at e'
    rcases g with ⟨k, w, hw, g⟩ | ⟨k, g⟩
    · have k' := is.mpr k
      rw [e_fnd1 k', ob_some, if_neg n10] at e'
      obtain ⟨p57, hp, e'⟩ := hf_bind e'
      obtain ⟨p7, h7, hp⟩ := hf_bind hp
      have hp' : some ((1 : Int32), p7.2) = some p57 := (if_pos (Or.inr rfl)).symm.trans hp
      cases hp'
      have e2 : ((f_X7_caughtKind N p7.2 a xb).bind fun p62 => f_X7_beginCatch_52 N n p62.2 a xb (x3 + 1)) = some R := (if_neg n10).symm.trans e'
      obtain ⟨p62, h62, e2⟩ := hf_bind e2
      obtain ⟨b1, b2, b3, b4, b5, b6, b7, b8, b9, b10, b11, b12⟩ := ew.adv hN (by rw [k']; decide) h7 hw
      have eo : p7.2.o = P.o := (pj_eq b3).2.2.2.2.2.2.2.2.2.2.2.2.2.2.2.2.2.2.2.2.2.2.2.2.1
      have kmw : KMK w (p7.2.o a 12) Lc := by
        unfold KMK at *
        rw [qj_a b2 34 (by decide), eo]
        exact km
      obtain ⟨m', rfl⟩ : ∃ m', m = m' + 1 := by
        cases m with
        | zero => cases g
        | succ m' => exact ⟨m', rfl⟩
      rcases ct_kind hN (hc.pj b3 b8 b9.1) (hr.qj b2 b6 b7) b1 kmw hx1 hid h62 g with ⟨f1, f2⟩ | ⟨v, j, c1, c2, c3, c4, ⟨c5, c6, c7, c8, ck⟩, c9⟩
      · exact Or.inl ⟨by rw [kF_X7_beginCatch_52 N n p62.2 a xb _ R e2 f1]; exact f1, f2⟩
      · have es : (x3 + 1).toInt = x3.toInt + 1 := ad1 h0 (by omega)
        have phw : phI q ≤ phI w := by
          unfold phI
          rw [b6, b12]
          omega
        have k44a := ew.1.2.2.2.1.1
        have k44b := b1.1.2.2.2.1.1
        have j0 : J0 p7.2 w := hs P p7.2 q w hj ⟨⟨ke_X9_advance N P p7 h7, b3⟩, ⟨kre_f_X12_next N q w hw, (FRB.of b2 : FRB (T + 1) q w).all 72 (by decide) (by decide), (qj_eq b2).2.2.2.2.2.2.2.1, qj_a b2 40 (by decide)⟩, by rw [k44a, k44b]; exact b5, b5⟩
        rcases ct_loop hN hk hs hx1 hid n m' p62.2 v (Lc ++ [j]) (x3 + 1) c2 c3 c1 c4 (hk p7.2 p62.2 w v j0 ck) (by omega) (by omega) e2 c9 with f | ⟨P', q', M, d1, d2, d3, d4, ⟨d5, d6, d7, d8, dj⟩, d9, d10⟩
        · exact Or.inl f
        · rw [List.append_assoc] at d3 d4
          exact Or.inr ⟨P', q', j :: M, d1, d2, d3, d4, ⟨by omega, by omega, by omega, d8.trans (c8.trans b10), dj⟩, d9, d10⟩
    · have k' : ¬ P.i 43 = 124 := fun z => k (is.mp z)
      rw [e_fnd0 k', ob_some, if_pos rfl] at e'
      obtain ⟨p57, hp, e'⟩ := hf_bind e'
      have hp' : some ((0 : Int32), P) = some p57 := (if_pos (Or.inl rfl)).symm.trans hp
      cases hp'
      have e2 : f_X7_beginCatch_80 N P a xb = some R := (if_pos rfl).symm.trans e'
      cases m with
      | zero => cases g
      | succ m' =>
        have g' : b_X12_catching_18 N (f_X12_catching_18 N m') q x1 x2 0 = some V := g
        unfold b_X12_catching_18 at g'
        rw [if_pos rfl] at g'
        exact Or.inr ⟨P, q, [], ew, hc, by rw [List.append_nil]; exact hr, by rw [List.append_nil]; exact km, ⟨Int.le_refl _, Int.le_refl _, Int.le_refl _, rfl, hj⟩, e2, g'⟩
/-- a sign that closes -/
theorem w_close {N : Nat} (hN : 1000 ≤ N) {dl : Int32} {S : CS} {s : RS} {R : Unit × CS} {V : Int32 × RS} (h : ENW dl S s) (hs : 1 ≤ (s.i 19).toInt) (e : f_X1_close N S 41 = some R) (g : f_X12_shut N s 41 = some V) : (V.1 = 0 ∧ ¬ R.2.i 32 = 0 ∧ ¬ V.2.i 15 = 0) ∨ (V.1 = 1 ∧ ENW dl R.2 V.2 ∧ qj V.2 = qj s ∧ pj R.2 = pj S ∧ (s.i 11).toInt + 1 ≤ (V.2.i 11).toInt ∧ V.2.i 20 = s.i 20 ∧ V.2.a 22 = s.a 22 ∧ R.2.i 22 = S.i 22 ∧ A18 S R.2 ∧ (V.2.i 19).toInt = (s.i 19).toInt - 1 ∧ (V.2.i 17).toInt = (s.i 17).toInt + 1) := by
  have is := h.1.2.2.2.1.is (c := 41) (d := 41) (Or.inl ⟨by decide, by decide⟩) (by decide)
  have h15 := h.1.2.1
  have ho := h.2.2.1
  have e1' : (1 : Int32).toInt = 1 := by decide
  unfold f_X12_shut f_X12_shut_18 f_X12_need f_X12_need_27 f_X12_need_31 at g
  rw [if_pos h15] at g
  by_cases kk : S.i 43 = 41
  · have k' := is.mp kk
    unfold f_X1_close f_X1_close_22 at e
    rw [e_fnd1 kk, ob_some, if_neg n10] at e
    rw [if_pos k', y_can1 h15 (by rw [k']; decide), ob_some, if_neg n10] at g
    obtain ⟨pp, ep, e⟩ := hf_bind e
    obtain ⟨w2, gw, g⟩ := hf_bind g
    obtain ⟨q, gq, gw⟩ := hf_bind gw
    obtain ⟨a1, a2, a3, a4, a5, a6, a7, a8, a9, a10, a11, a12⟩ := h.adv hN (by rw [kk]; decide) ep gq
    rw [if_pos a1.1.2.1] at gw
    cases gw
    have g3 : (if (RS.setI q 19 (q.i 19 - 1)).i 15 = 0 then some ((1 : Int32), RS.setI q 19 (q.i 19 - 1)) else some (0, RS.setI q 19 (q.i 19 - 1))) = some V := (if_neg n10).symm.trans g
    rw [if_pos (show (RS.setI q 19 (q.i 19 - 1)).i 15 = 0 from a1.1.2.1)] at g3
    cases e
    cases g3
    have s19 : (q.i 19 - 1).toInt = (s.i 19).toInt - 1 := by
      rw [a10, toInt_sub] <;> rw [e1'] <;> omega
    exact Or.inr ⟨rfl, a1.sg (by rw [a1.2.2.1.1]) (by omega) (by omega), a2, a3, a5, a6, a7, a8, a9, s19, a12⟩
  · have k' : ¬ s.i 10 = 41 := fun q => kk (is.mpr q)
    rw [if_neg k'] at g
    obtain ⟨w2, gw, g⟩ := hf_bind g
    obtain ⟨q, gq, gw⟩ := hf_bind gw
    obtain ⟨q1, q2⟩ := y_can0 gq
    rw [if_pos q1, if_neg q2] at gw
    cases gw
    have g3 : (if q.2.i 15 = 0 then some ((1 : Int32), q.2) else some (0, q.2)) = some V := (if_pos rfl).symm.trans g
    rw [if_neg q2] at g3
    cases g3
    exact Or.inl ⟨rfl, y_cl0 kk e, q2⟩
/-- the name is read and told: in the class in this order, in the reference in the other -/
theorem nm_adv {N : Nat} (hN : 1000 ≤ N) {d : Int32} {P : CS} {q u : RS} {l : Int64} {y c v : Int32} {A w : Unit × CS} {z : Int32 × RS} (h : ENV d P q) (hz : ¬ P.i 43 = 0) (hb : 8 * ((q.i 38).toInt - 1) ≤ (q.i 11).toInt + 2) (hn : ∀ k : Nat, (k : Int) < (q.i 38).toInt → ¬ q.b 39 k = l) (hv : 0 ≤ v.toInt ↔ ¬ vp_nar .boolean y = 0) (e : f_X9_advance N P = some A) (e2 : f_X4_add N A.2 l c v = some w) (g : f_X12_see N q l y = some z) (g2 : f_X12_next N z.2 = some u) : ENV d w.2 u ∧ qj u = qj z.2 ∧ pj A.2 = pj P ∧ u.i 17 = q.i 17 + 1 ∧ (q.i 11).toInt + 1 ≤ (u.i 11).toInt ∧ u.i 20 = q.i 20 ∧ u.a 22 = q.a 22 ∧ A.2.i 22 = P.i 22 ∧ A18 P A.2 ∧ u.i 19 = q.i 19 := by
  obtain ⟨gz, gs1, gsi, gsa, gsb, gsl, gsr⟩ := y_see g
  have sz : SEZ q z.2 := ⟨gsi, gsa, gsb, gsl⟩
  obtain ⟨a1, a2, a3, a4, a5, a6, a7, a8, a9, a10⟩ := h.adv2 hN sz hz e g2
  refine ⟨?_, a2, a3, a4, a5, a6, a7, a8, a9, a10⟩
  have uz := uns.z (u := u) (s := q)
  have un := uns.n (u := u) (s := q)
  obtain ⟨u2, hu2⟩ : ∃ y, y = uns u q := ⟨_, rfl⟩
  rw [← hu2] at uz un a1
  clear hu2
  obtain ⟨ui, ua, ub, ul⟩ := uz
  have hse : ∃ z2 : Int32 × RS, f_X12_see N u2 l y = some z2 ∧ z2.2.i 38 = q.i 38 + 1 ∧ z2.2.b 39 = vp_updL (q.b 39) (q.i 38).toNatClampNeg l ∧ z2.2.a 41 = upd (q.a 41) (q.i 38).toNatClampNeg (vp_nar .boolean y) ∧ (∀ k : Nat, k ≠ 38 → k ≠ 42 → z2.2.i k = u2.i k) ∧ (∀ k : Nat, k ≠ 40 → k ≠ 41 → z2.2.a k = u2.a k) ∧ (∀ k : Nat, k ≠ 39 → z2.2.b k = u2.b k) ∧ z2.2.l = u2.l := by
    have ib0 : ib (u2.i 38) 460 := by rw [un.1]; exact gz
    refine ⟨_, (show f_X12_see N u2 l y = some _ from if_pos ib0), ?_, ?_, ?_, fun k h1 h2 => (if_neg h2).trans (if_neg h1), fun k h1 h2 => (if_neg h2).trans (if_neg h1), fun k h => if_neg h, rfl⟩
    · show u2.i 38 + 1 = q.i 38 + 1
      rw [un.1]
    · show vp_updL (u2.b 39) (u2.i 38).toNatClampNeg l = _
      rw [un.1, un.2.2.1]
    · show upd (u2.a 41) (u2.i 38).toNatClampNeg (vp_nar .boolean y) = _
      rw [un.1, un.2.1]
  obtain ⟨z2, hz2, z38, zb39, za41, zi, za, zb, zl⟩ := hse
  have u11 : u2.i 11 = u.i 11 := ui 11 (by decide) (by decide)
  have y1 : ENV d w.2 z2.2 := a1.nm (by rw [un.1, u11]; omega) (fun k hk => by rw [un.1] at hk; rw [un.2.2.1]; exact hn k hk) hv e2 hz2
  have vse : z.2.b 39 = vp_updL (q.b 39) (q.i 38).toNatClampNeg l ∧ z.2.a 41 = upd (q.a 41) (q.i 38).toNatClampNeg (vp_nar .boolean y) := by
    unfold f_X12_see at g
    obtain ⟨-, g⟩ := hf_ite g
    cases g
    exact ⟨rfl, rfl⟩
  have zY : ∀ k : Nat, k ≠ 38 → k ≠ 42 → u.i k = z2.2.i k := fun k h1 h2 => (ui k h1 h2).symm.trans (zi k h1 h2).symm
  have aY : ∀ k : Nat, k ≠ 40 → k ≠ 41 → u.a k = z2.2.a k := fun k h1 h2 => (ua k h1 h2).symm.trans (za k h1 h2).symm
  have bY : ∀ k : Nat, k ≠ 39 → u.b k = z2.2.b k := fun k h1 => (ub k h1).symm.trans (zb k h1).symm
  have x38 : u.i 38 = z.2.i 38 := (qj_eq a2).2.2.2.2.2.2.2.1
  refine y1.kq ?_ (zY 2 (by decide) (by decide)) (zY 3 (by decide) (by decide)) (zY 18 (by decide) (by decide)) (zY 53 (by decide) (by decide)) (zY 54 (by decide) (by decide)) (zY 55 (by decide) (by decide)) (aY 1 (by decide) (by decide)) (aY 4 (by decide) (by decide)) ?_ (bY 9 (by decide)) ?_ (zY 10 (by decide) (by decide)) (zY 11 (by decide) (by decide)) (zY 12 (by decide) (by decide)) (zY 14 (by decide) (by decide)) (zY 15 (by decide) (by decide)) (zY 17 (by decide) (by decide)) (zY 19 (by decide) (by decide)) ?_ ?_ ?_
  · rw [x38, gs1, z38]
  · rw [qj_a a2 41 (by decide), vse.2, za41]
  · rw [(qj_b a2).2.1, vse.1, zb39]
  · rw [zl, ul]
  · have p1 : phI u = phI z2.2 := by
      unfold phI
      rw [zY 17 (by decide) (by decide), zY 20 (by decide) (by decide)]
    rw [zY 20 (by decide) (by decide), p1]
    exact ⟨y1.2.2.2.2.2.2.1, y1.2.2.2.2.2.2.2.1⟩
  · exact y1.wp.of (by rw [zY 43 (by decide) (by decide)]; exact Int.le_refl _) (zY 56 (by decide) (by decide)) (zY 59 (by decide) (by decide)) (zY 29 (by decide) (by decide)) (aY 58 (by decide) (by decide)) (aY 62 (by decide) (by decide))
/-- where the handlers of the catch lie -/
theorem ct_323 {N : Nat} {x4 : Int32} {V : RS} : ∀ (n : Nat) (σ : RS) (x5 : Int32), f_X12_catching_323 N n σ x4 x5 = some V → ∃ u : RS, f_X12_then N u 3 3 = some V ∧ u.i = σ.i ∧ (∀ k : Nat, k ≠ 35 → k ≠ 36 → u.a k = σ.a k) ∧ u.b = σ.b ∧ u.l = σ.l ∧ (∀ j : Nat, (j : Int) < x5.toInt → u.a 35 j = σ.a 35 j ∧ u.a 36 j = σ.a 36 j) ∧ ∀ j : Nat, x5.toInt ≤ (j : Int) → (j : Int) < (σ.i 33).toInt → u.a 35 j = σ.i 20 ∧ u.a 36 j = x4
  | 0, _, _, h => by cases h
  | n + 1, σ, x5, h => by
    have h' : b_X12_catching_323 N (f_X12_catching_323 N n) σ x4 x5 = some V := h
    unfold b_X12_catching_323 at h'
    by_cases c : σ.i 33 ≤ x5
    · rw [if_pos c, ob_id] at h'
      exact ⟨σ, h', rfl, fun _ _ _ => rfl, rfl, rfl, fun _ _ => ⟨rfl, rfl⟩, fun j j1 j2 => by have := le_int c; omega⟩
    · rw [if_neg c] at h'
      obtain ⟨hib, h'⟩ := hf_ite h'
      obtain ⟨u, u1, u2, u3, u4, u5, u6, u7⟩ := ct_323 n _ _ h'
      have ck := clampI hib.1
      have l4 := hib.2
      have es : (x5 + 1).toInt = x5.toInt + 1 := ad1 hib.1 (by omega)
      refine ⟨u, u1, u2, fun k h1 h2 => (u3 k h1 h2).trans ((setA_nk h2).trans (setA_nk h1)), u4, u5, fun j hj => ?_, fun j j1 j2 => ?_⟩
      · obtain ⟨y1, y2⟩ := u6 j (by omega)
        rw [y1, y2]
        exact ⟨by rw [setA_nk (by decide), setA_ne (by omega)], by rw [setA_ne (by omega), setA_nk (by decide)]⟩
      · by_cases z : (j : Int) = x5.toInt
        · obtain ⟨y1, y2⟩ := u6 j (by omega)
          have ej : j = x5.toNatClampNeg := by omega
          rw [y1, y2, ej]
          exact ⟨by rw [setA_nk (by decide), setA_at], by rw [setA_at]⟩
        · exact u7 j (by omega) j2
end
section
/-! both readers: a catch more at the row on top -/
/-- s, but the kinds that are caught are those of q -/
def gKT (s q : RS) (T : Nat) : RS := (va_up s.i 33 (q.i 33), s.l, va_up (va_up (va_up (va_up s.a 30 (q.a 30)) 34 (q.a 34)) 37 (q.a 37)) 72 (upd (s.a 72) T (q.a 72 T)), s.b)
theorem gKT.n {s q : RS} {T : Nat} : (∀ k : Nat, k ≠ 33 → (gKT s q T).i k = s.i k) ∧ (gKT s q T).i 33 = q.i 33 ∧ (gKT s q T).l = s.l ∧ (gKT s q T).b = s.b := ⟨fun _ h => if_neg h, rfl, rfl, rfl⟩
theorem gKT.t {s q : RS} {T : Nat} : (∀ k : Nat, k ≠ 30 → k ≠ 34 → k ≠ 37 → k ≠ 72 → (gKT s q T).a k = s.a k) ∧ (gKT s q T).a 30 = q.a 30 ∧ (gKT s q T).a 34 = q.a 34 ∧ (gKT s q T).a 37 = q.a 37 ∧ (gKT s q T).a 72 T = q.a 72 T ∧ ∀ j : Nat, j ≠ T → (gKT s q T).a 72 j = s.a 72 j := ⟨fun _ h1 h2 h3 h4 => (if_neg h4).trans ((if_neg h3).trans ((if_neg h2).trans (if_neg h1))), rfl, rfl, rfl, (show upd (s.a 72) T (q.a 72 T) T = q.a 72 T from if_pos rfl), fun j h => (show upd (s.a 72) T (q.a 72 T) j = s.a 72 j from if_neg h)⟩
def KTL (T id : Nat) (k0 : Int) (s v : RS) : Prop := (∀ k : Nat, k ≠ 33 → v.i k = s.i k) ∧ v.l = s.l ∧ v.b = s.b ∧ (∀ k : Nat, k ≠ 30 → k ≠ 34 → k ≠ 37 → k ≠ 72 → v.a k = s.a k) ∧ (s.i 33).toInt ≤ (v.i 33).toInt ∧ (∀ j : Nat, j ≠ id → v.a 30 j = s.a 30 j) ∧ (∀ j : Nat, (j : Int) < k0 → v.a 34 j = s.a 34 j ∧ v.a 37 j = s.a 37 j) ∧ (∀ j : Nat, j ≠ T → v.a 72 j = s.a 72 j)
theorem kch.kt {s v : RS} {k0 : Int} (h33 : (s.i 33).toInt ≤ (v.i 33).toInt) (h37 : ∀ j : Nat, (j : Int) < k0 → v.a 37 j = s.a 37 j) : ∀ (L : List Nat) (k : Int32), kch s k L → (∀ j ∈ L, (j : Int) < k0) → kch v k L
  | [], _, g, _ => g
  | j :: L, _, g, b => ⟨g.1, by have := g.2.1; omega, g.2.2.1, by rw [h37 j (b j List.mem_cons_self)]; exact kch.kt h33 h37 L _ g.2.2.2 (fun i hi => b i (List.mem_cons_of_mem _ hi))⟩
theorem kch.uq {s : RS} : ∀ (L M : List Nat) (k : Int32), kch s k L → kch s k M → L = M
  | [], [], _, _, _ => rfl
  | [], j :: M, k, g, h => by
    have h1 := h.1
    have g1 : k.toInt < 0 := g
    omega
  | j :: L, [], k, g, h => by
    have h1 := g.1
    have g1 : k.toInt < 0 := h
    omega
  | j :: L, i :: M, k, g, h => by
    have e : j = i := by
      have := g.1
      have := h.1
      omega
    have h4 := h.2.2.2
    rw [← e] at h4
    rw [kch.uq L M _ g.2.2.2 h4, e]
theorem RFR.kt {S : CS} {s v : RS} {a t g w T id : Nat} {k0 : Int} (h : KTL T id k0 s v) (ht : ¬ t = T) (r : RFR S s a t g w) : RFR S v a t g w := by
  have f := h.2.2.2.1
  have e72 := h.2.2.2.2.2.2.2 t ht
  have f64 := f 64 (by decide) (by decide) (by decide) (by decide)
  have f65 := f 65 (by decide) (by decide) (by decide) (by decide)
  have f66 := f 66 (by decide) (by decide) (by decide) (by decide)
  have f67 := f 67 (by decide) (by decide) (by decide) (by decide)
  have f68 := f 68 (by decide) (by decide) (by decide) (by decide)
  have f71 := f 71 (by decide) (by decide) (by decide) (by decide)
  have f73 := f 73 (by decide) (by decide) (by decide) (by decide)
  have f44 := f 44 (by decide) (by decide) (by decide) (by decide)
  have f57 := f 57 (by decide) (by decide) (by decide) (by decide)
  have f58 := f 58 (by decide) (by decide) (by decide) (by decide)
  have i29 := h.1 29 (by decide)
  have eb := h.2.2.1
  clear f h
  unfold RFR F301 F302 F303 F203 F204 F205 F206 F207 F304 F212 F301 F218 FTR FTS F301 FBL at *
  rw [f64, f65, f66, f67, f68, f71, e72, f73, f44, f57, f58, i29, eb]
  exact r
theorem CST.kt {S : CS} {s v : RS} {c : CEL} {m e k m' e' k' k0 : Int} {T id : Nat} (h : KTL T id k0 s v) (ht : ¬ ceT c = T) (hid : isTy (S.o c.2.1 0) → ¬ (s.a 66 (ceT c)).toNatClampNeg = id) (hk : k ≤ k0) (g : CST S s c m e k m' e' k') : CST S v c m e k m' e' k' := by
  obtain ⟨g1, g2, g3, g4, g5, g6, g7⟩ := g
  have f := h.2.2.2.1
  have f22 := f 22 (by decide) (by decide) (by decide) (by decide)
  have f25 := f 25 (by decide) (by decide) (by decide) (by decide)
  have f27 := f 27 (by decide) (by decide) (by decide) (by decide)
  have f28 := f 28 (by decide) (by decide) (by decide) (by decide)
  have f66 := f 66 (by decide) (by decide) (by decide) (by decide)
  have f67 := f 67 (by decide) (by decide) (by decide) (by decide)
  refine ⟨g1, g2, g3.kt h ht, g4, fun q => ?_, g6, fun q => ?_⟩
  · obtain ⟨x1, x2, x3, L, y1, y2, y3, y4⟩ := g5 q
    rw [f66, f22, h.1 20 (by decide)]
    refine ⟨x1, x2, x3, L, ?_, chn.up (by rw [h.1 24 (by decide)]; exact Int.le_refl _) (fun j _ => by rw [f27]) L _ y2, ?_, y4⟩
    · unfold CSM at *
      rw [f28, f25]
      exact y1
    · unfold FQL at *
      rw [f67]
      exact y3
  · obtain ⟨x1, L, y1, y2, y3, y4⟩ := g7 q
    have lo : ∀ j ∈ L, (j : Int) < k0 := fun j hj => by
      have := (y4 j hj).2
      omega
    rw [f66, h.2.2.2.2.2.1 _ (hid q), h.2.2.2.2.2.2.2 _ ht]
    refine ⟨x1, L, kch.kt h.2.2.2.2.1 (fun j hj => (h.2.2.2.2.2.2.1 j hj).2) L _ y1 lo, ⟨fun w hw => ?_, fun j hj => ?_⟩, y3, y4⟩
    · rw [y2.1 w hw]
      constructor
      · intro ⟨j, j1, j2⟩
        exact ⟨j, j1, by rw [(h.2.2.2.2.2.2.1 j (lo j j1)).1]; exact j2⟩
      · intro ⟨j, j1, j2⟩
        exact ⟨j, j1, by rw [(h.2.2.2.2.2.2.1 j (lo j j1)).1] at j2; exact j2⟩
    · rw [(h.2.2.2.2.2.2.1 j (lo j hj)).1]
      exact y2.2 j hj
theorem LOW.kt {S : CS} {s v : RS} {c : CEL} {T id : Nat} {k0 : Int} (h : KTL T id k0 s v) (g : LOW S s c) : LOW S v c := by
  have f := h.2.2.2.1
  have f64 := f 64 (by decide) (by decide) (by decide) (by decide)
  have f65 := f 65 (by decide) (by decide) (by decide) (by decide)
  unfold LOW at *
  rw [f64, f65]
  exact g
theorem STK.kt {S : CS} {s v : RS} {T id : Nat} {k0 : Int} (h : KTL T id k0 s v) : ∀ (L : List CEL) (m e k : Int), STK S s L m e k → k ≤ k0 → (∀ y ∈ L, ¬ ceT y = T ∧ (isTy (S.o y.2.1 0) → ¬ (s.a 66 (ceT y)).toNatClampNeg = id)) → STK S v L m e k
  | [], _, _, _, _, _, _ => trivial
  | c :: L, m, e, k, g, hk, hy => by
    obtain ⟨m', e', k', g1, g2, g3⟩ := g
    have kk : k' ≤ k := by
      by_cases z : isTy (S.o c.2.1 0)
      · exact (g1.2.2.2.2.2.2 z).1
      · rw [g1.2.2.2.2.2.1 z]
        exact Int.le_refl _
    exact ⟨m', e', k', g1.kt h (hy c List.mem_cons_self).1 (hy c List.mem_cons_self).2 hk, fun c0 hc => ⟨(g2 c0 hc).1, (g2 c0 hc).2.kt h⟩, STK.kt h L m' e' k' g3 (by omega) (fun y hy' => hy y (List.mem_cons_of_mem _ hy'))⟩
set_option maxHeartbeats 2000000 in
theorem COR.kat {d : Int32} {B : CS} {b : RS} {t0 : Nat} {L : List CEL} {x : Int} {S W : CS} {s q : RS} {c1 c : CEL} {id : Nat} {Lk Lc : List Nat} (h : COR d B b t0 (c1 :: c :: L) x S s) (tp : TOP S s c1) (bz : BAZ B b (c1 :: c :: L)) (hT : t0 ≤ ceT c1) (h305 : S.o c1.2.1 0 = 305) (hid : (s.a 66 (ceT c1)).toNatClampNeg = id) (hk : kch s (s.a 30 id) Lk) (hr : CTR (ceT c1) id s q Lk Lc) (n72 : 0 ≤ (q.a 72 (ceT c1)).toInt) (km : KMK q (W.o c1.2.1 12) Lc) (Wi : W.i = S.i) (Wa : W.a = S.a) (Wr : W.r = S.r ∧ W.ol = S.ol ∧ W.b = S.b ∧ W.l = S.l ∧ (W.hs = S.hs ∧ W.L = S.L ∧ W.k = S.k)) (Wo : ∀ a : Nat, a ≠ c1.2.1 → W.o a = S.o a) (Wk : ∀ k : Nat, k ≠ 8 → k ≠ 12 → W.o c1.2.1 k = S.o c1.2.1 k) (W8 : W.o c1.2.1 8 = 1) : COR d B b t0 (c1 :: c :: L) x W (gKT s q (ceT c1)) ∧ TOP W (gKT s q (ceT c1)) c1 := by
  have adr := h.adr
  have hinL := h.inlB tp
  have hb := h.b53 tp bz
  obtain ⟨h1, h2, h3, h4, h5, ⟨h6, h7, h8, h9⟩, ⟨h10, h11, h12, hsg⟩, h13, ⟨h14, h15, h16⟩, h17, ⟨h18, h19, h20, col, h21⟩⟩ := h
  have ty : isTy (S.o c1.2.1 0) := Or.inr (Or.inr (Or.inl h305))
  have ngo := ty_ngo ty
  have ek : ∀ k : Nat, k ≠ 8 → k ≠ 12 → ∀ a : Nat, W.o a k = S.o a k := fun k k1 k2 a => by
    by_cases z : a = c1.2.1
    · rw [z]
      exact Wk k k1 k2
    · rw [Wo a z]
  have e0 := ek 0 (by decide) (by decide)
  have e1 := ek 1 (by decide) (by decide)
  have e3 := ek 3 (by decide) (by decide)
  have e14 := ek 14 (by decide) (by decide)
  have e15 := ek 15 (by decide) (by decide)
  have eoL : ∀ y ∈ c :: L, W.o y.2.1 = S.o y.2.1 := fun y hy => Wo y.2.1 (adr y hy)
  obtain ⟨d1, d2⟩ := DSM.eq (c :: L) eoL
  have ord := STK.ord (c :: L) c1 _ _ _ h2
  have ids := h2.ids
  have n218 : ¬ S.o c1.2.1 0 = 218 := fun z => ngo (Or.inr (Or.inl z))
  have n218' : ¬ W.o c1.2.1 0 = 218 := fun z => n218 ((e0 _).symm.trans z)
  have tyW : isTy (W.o c1.2.1 0) := by rw [e0]; exact ty
  have h2' := h2
  obtain ⟨m', e', k', c1s, lkl, stl⟩ := h2'
  obtain ⟨lk, lw⟩ := lkl c rfl
  obtain ⟨s1, s2, s3, s4, s5, s6, s7⟩ := c1s
  obtain ⟨em, ee⟩ := s4 n218
  obtain ⟨x1, Lk', y1, y2, y3, y4⟩ := s7 ty
  rw [hid] at y1
  have eLk : Lk' = Lk := kch.uq _ _ _ y1 hk
  rw [eLk] at y1 y2 y3 y4
  obtain ⟨⟨r1, r2⟩, r3, r4, r5, r6, r7, r8, r9, ⟨r10, r10b⟩, r11, r12⟩ := hr
  have l72 : ∀ j : Nat, (j : Int) < k' → (j : Int) ≠ (s.a 72 (ceT c1)).toInt := fun j hj z => by
    rcases lst_end Lk with w0 | ⟨L0, l, w0⟩
    · have := y3.1 w0
      omega
    · have a := y3.2 L0 l w0
      have bb := (y4 l (by rw [w0]; exact List.mem_append_right _ List.mem_cons_self)).1
      omega
  obtain ⟨vi, v33, vl, vb⟩ := gKT.n (s := s) (q := q) (T := ceT c1)
  obtain ⟨va4, v30, v34, v37, v72, v72'⟩ := gKT.t (s := s) (q := q) (T := ceT c1)
  obtain ⟨v, hv⟩ : ∃ v, v = gKT s q (ceT c1) := ⟨_, rfl⟩
  rw [← hv] at vi v33 vl vb va4 v30 v34 v37 v72 v72' ⊢
  clear hv
  have va : ∀ k : Nat, (k ≠ 30 ∧ k ≠ 34 ∧ k ≠ 37 ∧ k ≠ 72) → v.a k = s.a k := fun k hk => va4 k hk.1 hk.2.1 hk.2.2.1 hk.2.2.2
  have i66 := ids c1 List.mem_cons_self ty
  have cid := clampI i66.1
  rw [hid] at cid
  have kt : KTL (ceT c1) id k' s v := ⟨vi, vl, vb, va4, by rw [v33]; exact r6, fun j hj => by rw [v30]; exact r7 j hj, fun j hj => by
    have z := r8 j (by omega)
    rw [v34, v37]
    exact ⟨z.1, z.2 (l72 j hj)⟩, v72'⟩
  have rwW : RWI W := by
    refine h1.ri.srt (n := c1.1) (a := c1.2.1) s2 tp.1 s1 Wr.1 Wo Wr.2.1 (by rw [Wi]) Wr.2.2.2.2 ⟨by rw [h305]; decide, by rw [h305]; decide, by rw [h305]; decide, by rw [h305]; decide⟩ ⟨by rw [e0, h305]; decide, by rw [e0, h305]; decide, by rw [e0, h305]; decide, by rw [e0, h305]; decide⟩ ?_ ?_
    · have cn : cnI S = (c1.1 : Int) + 1 := tp.1
      have tn : (cnI S).toNat = c1.1 + 1 := by omega
      have z := h1.ri.2.2.2.2.2.2
      rw [tn] at z
      have w2 : SGS S (c1.1 + 1) = SGS S c1.1 + sgn S (rowA S c1.1) := rfl
      have ra : rowA S c1.1 = c1.2.1 := by
        unfold rowA
        rw [s1]
        rfl
      have g0 : sgn S c1.2.1 = 0 := by
        unfold sgn
        rw [h305]
        rfl
      have g1 : sgn W c1.2.1 = 0 := by
        unfold sgn
        rw [e0, h305]
        rfl
      rw [ra, g0] at w2
      rw [g1]
      unfold sgI at *
      rw [Wi]
      omega
    · unfold eI plI
      rw [Wi]
      exact Int.le_refl _
  have phv : phI v = phI s := by
    unfold phI
    rw [vi 17 (by decide), vi 20 (by decide)]
  have evS : ENV d S v := h1.kq (vi 38 (by decide)) (vi 2 (by decide)) (vi 3 (by decide)) (vi 18 (by decide)) (vi 53 (by decide)) (vi 54 (by decide)) (vi 55 (by decide)) (va 1 (by decide)) (va 4 (by decide)) (va 41 (by decide)) (by rw [vb]) (by rw [vb]) (vi 10 (by decide)) (vi 11 (by decide)) (vi 12 (by decide)) (vi 14 (by decide)) (vi 15 (by decide)) (vi 17 (by decide)) (vi 19 (by decide)) vl ⟨by rw [vi 20 (by decide)]; exact h1.2.2.2.2.2.2.1, by rw [phv]; exact h1.2.2.2.2.2.2.2.1⟩ (h1.wp.of (by rw [vi 43 (by decide)]; exact Int.le_refl _) (vi 56 (by decide)) (vi 59 (by decide)) (vi 29 (by decide)) (va 58 (by decide)) (va 62 (by decide)))
  have evW : ENV d W v := evS.gx (fun _ _ _ _ _ _ _ _ => by rw [Wi]) ⟨by rw [Wa], by rw [Wa], by rw [Wa]⟩ Wr.2.2.1 Wr.2.2.2.1 rwW (by
    have z := evS.sj
    unfold SJB at *
    rw [Wi]
    exact z) (by rw [Wi]; exact evS.t21)
  have stW : STK W v (c :: L) m' e' k' := by
    refine STK.kt kt (c :: L) _ _ _ (STK.eo (S := S) (R := W) Wr.1 (by rw [Wa]) (c :: L) _ _ _ (fun y hy => ⟨eoL y hy, by rw [Wr.2.1]⟩) stl) (Int.le_refl _) (fun y hy => ⟨fun z => ?_, fun t z => ?_⟩)
    · have a := (hinL y hy).2.2.1
      have w := wid1 (S.o y.2.1 0)
      omega
    · rw [e0] at t
      have iy := ids y (List.mem_cons_of_mem _ hy) t
      have cy := clampI iy.1
      have lt := h3.2.2.2.2.2.1 y (List.mem_cons_of_mem _ hy) c1 List.mem_cons_self t ty (ord y hy)
      rw [z] at cy
      omega
  have f64 := va 64 (by decide)
  have f65 := va 65 (by decide)
  have f66 := va 66 (by decide)
  have f67 := va 67 (by decide)
  have f68 := va 68 (by decide)
  have f71 := va 71 (by decide)
  have cst : CST W v c1 (W.i 22).toInt (v.i 24).toInt (v.i 33).toInt m' e' k' := by
    have q3 := s3.2.2.2.2.2.2.2.2.2.2.2.2 ty
    refine ⟨by rw [Wr.1]; exact s1, s2, RFR.mTy tyW ⟨⟨by rw [f64]; exact q3.1.1, by rw [f66, vi 29 (by decide)]; exact q3.1.2.1, ⟨?_, Or.inr W8⟩, ?_⟩, ?_⟩, fun _ => ⟨by rw [Wi]; exact em, by rw [vi 24 (by decide)]; exact ee⟩, fun w => absurd w n218', fun w => absurd tyW w, fun _ => ⟨by rw [v33]; omega, Lc, ?_, ?_, ?_, fun j hj => ?_⟩⟩
    · rw [v72]
      exact ⟨fun _ => Or.inr n72, fun _ => W8⟩
    · rw [e0, va 57 (by decide), va 58 (by decide), f66]
      exact q3.1.2.2.2
    · have z := q3.2
      unfold FTS F301 FBL at *
      rw [f64, f65, f66, f68, f71, Wk 0 (by decide) (by decide), Wk 3 (by decide) (by decide), Wk 6 (by decide) (by decide)]
      exact z
    · rw [f66, hid, v30]
      exact r9.eq v33 v37
    · unfold KMK at *
      rw [v34]
      exact km
    · rw [v72]
      exact ⟨r10, r10b⟩
    · have l := kch.lt Lc _ r9 j hj
      rw [v33]
      rcases r11 j hj with z | z
      · exact ⟨(y4 j z).1, l⟩
      · exact ⟨by omega, l⟩
  have lkW : LNK W c1 c := by
    unfold LNK at *
    rw [Wk 0 (by decide) (by decide), Wk 1 (by decide) (by decide), Wk 3 (by decide) (by decide), Wk 14 (by decide) (by decide), eoL c List.mem_cons_self]
    exact lk
  have lwW : LOW W v c := by
    have z := lw.kt kt
    unfold LOW at *
    rw [eoL c List.mem_cons_self]
    exact z
  have jq : JMQ W v (c1 :: c :: L) (b.i 59).toInt (b.i 29).toInt := by
    have f50 := va 50 (by decide)
    have f51 := va 51 (by decide)
    have f60 := va 60 (by decide)
    have f61 := va 61 (by decide)
    have f62 := va 62 (by decide)
    have i59 := vi 59 (by decide)
    unfold JMQ RCD PND SAF INR flg at *
    simp only [e0, e1, e14, e15]
    rw [Wi, Wa, f50, f51, f60, f61, f62, f66, i59]
    exact h3
  have pd : PDM W (c1 :: c :: L) = PDM S (c1 :: c :: L) := by
    have z1 : PDM W (c1 :: c :: L) = dbt (W.o c1.2.1 0) + PDM W (c :: L) := rfl
    have z2 : PDM S (c1 :: c :: L) = dbt (S.o c1.2.1 0) + PDM S (c :: L) := rfl
    rw [z1, z2, e0, d2]
  have ds : DSM W (c1 :: c :: L) = DSM S (c1 :: c :: L) := by
    have z1 : DSM W (c1 :: c :: L) = (nDp (W.o c1.2.1 0) : Int) + DSM W (c :: L) := rfl
    have z2 : DSM S (c1 :: c :: L) = (nDp (S.o c1.2.1 0) : Int) + DSM S (c :: L) := rfl
    rw [z1, z2, e0, d1]
  obtain ⟨a1, a2, a3, p0, p1, p2, p3, p4, p5, p6, p7, p8, p9, p10⟩ := h7
  have b29 := h3.2.2.2.2.1 c1 List.mem_cons_self ty
  refine ⟨⟨evW, stW.push cst lkW lwW, jq, ?_, ?_, ⟨h6.tr (fun j hj => ⟨by rw [f64], by rw [f65], by rw [f66], by rw [f67], by rw [f68], by rw [va 69 (by decide)], by rw [va 70 (by decide)], by rw [f71], v72' j (by omega), by rw [va 73 (by decide)], by rw [vb]⟩), ⟨by rw [vi 38 (by decide)]; exact a1, by rw [vi 43 (by decide)]; exact a2, by rw [vi 56 (by decide)]; exact a3, fun j hj => by rw [vb, va 40 (by decide), va 41 (by decide)]; exact p0 j hj, fun j hj => by rw [vb, va 44 (by decide), va 46 (by decide), va 47 (by decide), va 50 (by decide), va 51 (by decide), va 48 (by decide), va 49 (by decide)]; exact p1 j hj, fun j hj => by rw [va 57 (by decide), va 58 (by decide)]; exact p2 j hj, by rw [vi 59 (by decide)]; exact p3, fun j hj => by rw [va 60 (by decide), va 61 (by decide), va 62 (by decide)]; exact p4 j hj, by rw [vi 29 (by decide)]; exact p5, fun j hj => ?_, by rw [v33]; omega, fun j hj => ?_, by rw [vi 24 (by decide)]; exact p9, fun j hj => by rw [va 25 (by decide), va 27 (by decide), va 28 (by decide)]; exact p10 j hj⟩, ⟨by rw [vi 20 (by decide)]; exact h8.1, fun j hj => by rw [va 22 (by decide)]; exact h8.2 j hj⟩, ⟨(vi 2 (by decide)).trans h9.1, (vi 3 (by decide)).trans h9.2.1, (vi 8 (by decide)).trans h9.2.2.1, (va 1 (by decide)).trans h9.2.2.2.1, (va 4 (by decide)).trans h9.2.2.2.2.1, by rw [vb]; exact h9.2.2.2.2.2⟩⟩, ⟨by rw [vi 11 (by decide)]; exact h10, by rw [pd, phv]; exact h11, by rw [vi 17 (by decide)]; exact h12, by rw [vi 19 (by decide), SSM.eq (c1 :: c :: L) (fun y _ => e0 y.2.1)]; exact hsg⟩, ⟨by rw [Wi, ds]; exact h13.1, fun y hy => by rw [e3, Wi]; exact h13.2.1 y hy, fun y hy z hz l => by rw [e3, e3]; exact h13.2.2.1 y hy z hz l, ?_, fun y hy => ⟨fun t z => ?_, fun t z => ?_⟩⟩, ⟨by rw [Wi, vi 11 (by decide)]; exact h14, by rw [vi 38 (by decide), vi 11 (by decide)]; exact h15, by rw [Wi, vi 11 (by decide)]; exact h16⟩, ?_, h18, h19, h20, col, ?_⟩, by rw [Wi]; exact tp.1, by rw [vi 43 (by decide), e0]; exact tp.2.1, by rw [vi 56 (by decide), e0]; exact tp.2.2⟩
  · have n303 : ¬ S.o c1.2.1 0 = 303 := fun z => ngo (Or.inl z)
    have nl : ¬ (S.o c1.2.1 0 = 205 ∨ S.o c1.2.1 0 = 206 ∨ S.o c1.2.1 0 = 207 ∨ S.o c1.2.1 0 = 304) := by
      rw [h305]
      decide
    unfold LBC at h4 ⊢
    rw [if_neg n303, if_neg nl] at h4
    rw [e0, if_neg n303, if_neg nl]
    exact LBC.mv (c :: L) _ h4 eoL (fun y hy w => by rw [va 46 (by decide)])
  · obtain ⟨b1, b2, b3, b4, b5, b6, b7, b8, b9, b10, b11⟩ := h5
    refine ⟨fun k hk => by rw [Wr.1]; exact b1 k hk, fun k a hk ha => ?_, by rw [Wi]; exact b3, by rw [Wi]; exact b4, fun k hk => by rw [Wa]; exact b5 k hk, by rw [Wi]; exact b6, by rw [Wi]; exact b7, fun k hk => by rw [Wa]; exact b8 k hk, fun k q1 q2 => by rw [Wa]; rw [Wi] at q2; exact b9 k q1 q2, ?_, by rw [Wi]; exact b11⟩
    · have z := b2 k a hk ha
      have e := Wo a (fun w => by
        rw [w] at ha
        have := h1.ri.2.1 k c1.1 c1.2.1 (by have := s2; omega) s2 ((b1 k hk).trans ha) s1
        omega)
      exact ⟨e.trans z.1, by rw [Wr.2.1]; exact z.2⟩
    · unfold RTE at *
      rw [Wi]
      exact b10
  · rw [v30, r7 j (by omega)]
    exact p6 j hj
  · have z := r8 j (by omega)
    rw [v34, v37]
    refine ⟨z.1.trans (p8 j hj).1, (z.2 (fun y => ?_)).trans (p8 j hj).2⟩
    have := (h13.2.2.2.2 c1 List.mem_cons_self).1 ty (by omega)
    omega
  · have z := h13.2.2.2.1
    have w1 : cfl S (c1 :: c :: L) (S.i 22).toInt = cfl S (c :: L) (if S.o c1.2.1 0 = 218 then (S.o c1.2.1 13).toInt else (S.i 22).toInt) := rfl
    have w2 : cfl W (c1 :: c :: L) (W.i 22).toInt = cfl W (c :: L) (if W.o c1.2.1 0 = 218 then (W.o c1.2.1 13).toInt else (W.i 22).toInt) := rfl
    rw [w1, if_neg n218] at z
    rw [w2, if_neg n218', cfl.eq (c :: L) _ eoL, Wi]
    exact z
  · rw [e0] at t
    rcases List.mem_cons.mp hy with w | hy2
    · rw [w] at z ⊢
      rw [v72] at z ⊢
      rcases r12 with r | r
      · rw [r] at z ⊢
        exact (h13.2.2.2.2 c1 List.mem_cons_self).1 ty z
      · omega
    · have ne : ¬ ceT y = ceT c1 := fun w => by
        have a := (hinL y hy2).2.2.1
        have w1 := wid1 (S.o y.2.1 0)
        omega
      rw [v72' _ ne] at z ⊢
      exact (h13.2.2.2.2 y hy).1 t z
  · rw [e0] at t
    rw [f67] at z ⊢
    exact (h13.2.2.2.2 y hy).2 t z
  · unfold IAR at *
    rw [Wi, Wr.1, vi 43 (by decide), va 44 (by decide)]
    exact h17
  · have f22 := va 22 (by decide)
    have f48 := va 48 (by decide)
    have f49 := va 49 (by decide)
    have i20 := vi 20 (by decide)
    unfold COL PLF at *
    simp only [e0]
    rw [f22, f48, f49, f66, f67, f68, i20]
    exact h21
end
