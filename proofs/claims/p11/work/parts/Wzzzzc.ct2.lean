/-! both readers: one kind of a catch -/
theorem ENW.tb {d : Int32} {P : CS} {q v : RS} (h : ENW d P q) (va : ∀ k : Nat, k ≠ 30 → k ≠ 34 → k ≠ 37 → k ≠ 72 → v.a k = q.a k) (vi : ∀ k : Nat, k ≠ 33 → v.i k = q.i k) (vl : v.l = q.l) (vb : v.b = q.b) : ENW d P v := by
  refine h.kq (vi 38 (by decide)) (vi 2 (by decide)) (vi 3 (by decide)) (vi 18 (by decide)) (vi 53 (by decide)) (vi 54 (by decide)) (vi 55 (by decide)) (va 1 (by decide) (by decide) (by decide) (by decide)) (va 4 (by decide) (by decide) (by decide) (by decide)) (va 41 (by decide) (by decide) (by decide) (by decide)) (by rw [vb]) (by rw [vb]) (vi 10 (by decide)) (vi 11 (by decide)) (vi 12 (by decide)) (vi 14 (by decide)) (vi 15 (by decide)) (vi 17 (by decide)) (vi 19 (by decide)) vl ?_ (h.wp.of (by rw [vi 43 (by decide)]; exact Int.le_refl _) (vi 56 (by decide)) (vi 59 (by decide)) (vi 29 (by decide)) (va 58 (by decide) (by decide) (by decide) (by decide)) (va 62 (by decide) (by decide) (by decide) (by decide)))
  unfold phI
  rw [vi 20 (by decide), vi 17 (by decide)]
  exact ⟨h.2.2.2.2.2.2.1, h.2.2.2.2.2.2.2.1⟩
theorem ENW.so {d : Int32} {S : CS} {s : RS} {a k : Nat} {v : Int32} (h : ENW d S s) : ENW d (CS.setO S a k v) s := h.gx (fun _ _ _ _ _ _ _ _ => rfl) ⟨rfl, rfl, rfl⟩ rfl rfl h.sj h.t21
set_option maxHeartbeats 2000000 in
theorem ct_kind {N : Nat} (hN : 1000 ≤ N) {d : Int32} {T a id m : Nat} {Lk Lc : List Nat} {S P : CS} {s q V : RS} {x1 x2 xb : Int32} {R : Unit × CS} (hc : CTC a S P) (hr : CTR T id s q Lk Lc) (ew : ENW d P q) (km : KMK q (P.o a 12) Lc) (hx1 : x1.toNatClampNeg = T) (hid : (s.a 66 T).toNatClampNeg = id) (e : f_X7_caughtKind N P a xb = some R) (g : f_X12_catching_18 N (m + 1) q x1 x2 1 = some V) : (¬ R.2.i 32 = 0 ∧ ¬ V.i 15 = 0) ∨ ∃ (v : RS) (n : Nat), ENW d R.2 v ∧ CTC a S R.2 ∧ CTR T id s v Lk (Lc ++ [n]) ∧ KMK v (R.2.o a 12) (Lc ++ [n]) ∧ ((q.i 11).toInt + 2 ≤ (v.i 11).toInt ∧ phI q + 3 ≤ phI v ∧ (v.i 17).toInt = (q.i 17).toInt + 1 ∧ v.i 19 = q.i 19 ∧ KSP N T id a xb P R.2 q v) ∧ ((v.i 10 = 124 ∧ ∃ w : RS, f_X12_next N v = some w ∧ f_X12_catching_18 N m w x1 x2 1 = some V) ∨ (¬ v.i 10 = 124 ∧ f_X12_catching_18 N m v x1 x2 0 = some V)) := by
  have h15 := ew.1.2.1
  have tkr := ew.1.2.2.2.1
  have is5 := tkr.is (c := 5) (d := 5) (Or.inl ⟨by decide, by decide⟩) (by decide)
  have kn : KND P q := ew.2.2.2.2.2.1
  have hK : ∀ (σ : RS) (w0 w1 w2 : Int32), KVf σ (f_X12_catching_18 N m σ w0 w1 w2) := fun σ w0 w1 w2 => krf_f_X12_catching_18 N m σ w0 w1 w2
  have g' : b_X12_catching_18 N (f_X12_catching_18 N m) q x1 x2 1 = some V := g
  unfold b_X12_catching_18 at g'
  rw [if_neg n10, if_pos h15] at g'
  unfold f_X7_caughtKind at e
  by_cases c5 : P.i 43 = 5
  rotate_left
  · rw [e_fnd0 c5, ob_some, if_pos rfl] at e
    rw [if_neg (fun z => c5 (is5.mpr z))] at g'
    obtain ⟨p, hp, g'⟩ := hf_bind g'
    obtain ⟨w1, w2⟩ := y_can0 hp
    rw [if_pos w1] at g'
    exact Or.inl ⟨y_misp (ob_un e), hK _ _ _ _ V g' w2⟩
  have q5 := is5.mp c5
  rw [e_fnd1 c5, ob_some, if_neg n10] at e
  rw [if_pos q5, y_can1 h15 (by rw [q5]; decide), ob_some, if_neg n10] at g'
  obtain ⟨k, ek, e⟩ := hf_bind e
  have e45 : P.i 45 = q.i 14 := tkr.2.2.2.2.2 (Or.inr (Or.inr (Or.inr c5)))
  have lbw : LBW P := ew.2.2.2.2.2.2.2.2.2.2.2.2.2.2.2
  have lb5 : LB5 P := lbw.1
  obtain ⟨v0, v12⟩ := lb5.2.2 c5
  have e13 : P.i 13 = q.i 3 := kn.1
  have hq66 : q.a 66 T = s.a 66 T := hr.2.1 66 (by decide) (by decide) (by decide) (by decide)
  unfold f_X10_isKind f_X10_isKind_16 at ek
  have nn : ¬ P.i 45 < 0 := fun z => by
    have := lt_int z
    rw [z_t0] at this
    omega
  rw [if_neg nn] at ek
  by_cases c3 : q.i 14 < q.i 3
  rotate_left
  · -- the kind is not told
    rw [if_neg c3] at g'
    obtain ⟨p, hp, g'⟩ := hf_bind g'
    have f3 : ¬ p.i 15 = 0 := by
      unfold f_X12_fail at hp
      rw [if_pos h15] at hp
      rw [← Option.some.inj hp]
      show ¬ (3 : Int32) = 0
      decide
    obtain ⟨-, g'⟩ := hf_ite g'
    obtain ⟨-, g'⟩ := hf_ite g'
    have lk : P.i 13 ≤ P.i 45 := by
      rw [e13, e45, Int32.le_iff_toInt_le]
      by_cases z : (q.i 3).toInt ≤ (q.i 14).toInt
      · exact z
      · exact absurd (Int32.lt_iff_toInt_lt.mpr (by omega)) c3
    rw [if_pos lk] at ek
    rw [← Option.some.inj ek, if_pos rfl] at e
    obtain ⟨p3, hp3, e⟩ := hf_bind e
    have z3 : ¬ p3.2.i 32 = 0 := y_fail (by decide) hp3
    refine Or.inl ⟨?_, krf_f_X12_catching_82 N _ hK N p x1 x2 _ V g' f3⟩
    rw [kF_X7_caughtKind_44 N p3.2 a xb _ R e z3]
    exact z3
  rw [if_pos c3] at g'
  obtain ⟨-, g'⟩ := hf_ite g'
  obtain ⟨-, g'⟩ := hf_ite g'
  rw [hx1, hq66, hid] at g'
  have l3 := lt_int c3
  have nk : ¬ P.i 13 ≤ P.i 45 := fun z => by
    have := le_int z
    rw [e13, e45] at this
    omega
  rw [if_neg nk] at ek
  rw [← Option.some.inj ek, if_neg n10] at e
  unfold f_X7_caughtKind_44 at e
  rw [e45] at e v0 v12
  have k3 : 0 ≤ (q.i 14).toInt ∧ (q.i 14).toInt < (q.i 3).toInt := ⟨v0, l3⟩
  have cl := ck_loop hN kn k3 N 0 R (by decide) e
  have rl := rk_loop hN kn h15 hK k3 N Lc _ hr.2.2.2.2.2.2.2.1 g'
  have ofn : ∀ (x : Int32) (j : Nat), j < 12 → x.toInt = (j : Int) → x = Int32.ofNat j := fun x j hj hx => Int32.toInt_inj.mp (by rw [hx, (sm31 j hj).2.2.1])
  have w1z : ∀ {x : RS}, (some ((1 : Int32), x) = some ((0 : Int32), x)) → False := fun z => by
    have := congrArg (fun o : Option (Int32 × RS) => o.map Prod.fst) z
    exact absurd (show (1 : Int32) = 0 from Option.some.inj this) (by decide)
  rcases cl with ⟨cf, j, -, j2, j3, j4⟩ | ⟨cb, pa, pb, hpa, hpb, hR⟩
  · rcases rl with ⟨rf, -⟩ | ⟨rb, -⟩
    · exact Or.inl ⟨cf, rf⟩
    · exfalso
      obtain ⟨i, i1, i2⟩ := (km.1 j j2).mp j3
      have z := rb i i1
      rw [ofn _ j j2 i2, j4] at z
      exact w1z z
  rcases rl with ⟨-, i, i1, i2⟩ | ⟨-, m', y, y0, gy⟩
  · exfalso
    obtain ⟨r0, r12⟩ := km.2 i i1
    obtain ⟨j, hj⟩ : ∃ j : Nat, (q.a 34 i).toInt = (j : Int) := ⟨(q.a 34 i).toInt.toNat, by omega⟩
    have z := cb j (Nat.zero_le _) (by omega) ((km.1 j (by omega)).mpr ⟨i, i1, hj⟩)
    rw [ofn _ j (by omega) hj, z] at i2
    exact w1z i2.symm
  -- the kind is laid
  have gy' : b_X12_catching_82 N (f_X12_catching_18 N m) (f_X12_catching_82 N (f_X12_catching_18 N m) m') q x1 x2 y = some V := gy
  unfold b_X12_catching_82 at gy'
  rw [if_pos (Int32.lt_iff_toInt_lt.mpr (by rw [z_t0]; exact y0))] at gy'
  obtain ⟨h400, gy'⟩ := hf_ite gy'
  obtain ⟨-, gy'⟩ := hf_ite gy'
  rw [hx1, hq66, hid] at gy'
  obtain ⟨n, hn⟩ : ∃ n : Nat, n = (q.i 33).toNatClampNeg := ⟨_, rfl⟩
  have en : (q.i 33).toInt = (n : Int) := by
    rw [hn]
    show _ = (((q.i 33).toInt.toNat : Nat) : Int)
    have := h400.1
    omega
  rw [← hn] at gy'
  have n4 : n < 400 := by
    have := h400.2
    omega
  -- what stands behind the tables' step
  have fin : ∀ v0 : RS, ((0 ≤ (q.a 72 T).toInt ∧ v0 = RS.setI (RS.setA (RS.setA (RS.setA (RS.setA q 34 n (q.i 14)) 37 n (-1)) 37 (q.a 72 T).toNatClampNeg (q.i 33)) 72 T (q.i 33)) 33 (q.i 33 + 1)) ∨ ((q.a 72 T).toInt < 0 ∧ v0 = RS.setI (RS.setA (RS.setA (RS.setA (RS.setA q 34 n (q.i 14)) 37 n (-1)) 30 id (q.i 33)) 72 T (q.i 33)) 33 (q.i 33 + 1))) → ((f_X12_next N v0).bind fun p => (if p.i 15 = 0 then (if p.i 10 = 124 then (f_X12_next N p).bind fun w => f_X12_catching_18 N m w x1 x2 1 else f_X12_catching_18 N m p x1 x2 0) else f_X12_catching_18 N m p x1 x2 0)) = some V → (¬ R.2.i 32 = 0 ∧ ¬ V.i 15 = 0) ∨ ∃ (v : RS) (n : Nat), ENW d R.2 v ∧ CTC a S R.2 ∧ CTR T id s v Lk (Lc ++ [n]) ∧ KMK v (R.2.o a 12) (Lc ++ [n]) ∧ ((q.i 11).toInt + 2 ≤ (v.i 11).toInt ∧ phI q + 3 ≤ phI v ∧ (v.i 17).toInt = (q.i 17).toInt + 1 ∧ v.i 19 = q.i 19 ∧ KSP N T id a xb P R.2 q v) ∧ ((v.i 10 = 124 ∧ ∃ w : RS, f_X12_next N v = some w ∧ f_X12_catching_18 N m w x1 x2 1 = some V) ∨ (¬ v.i 10 = 124 ∧ f_X12_catching_18 N m v x1 x2 0 = some V)) := fun v0 hv0 hg => by
    obtain ⟨r1, r2, r3, r4, r5, r6, r7⟩ := hr.add en n4 hv0
    obtain ⟨p, hp, hg⟩ := hf_bind hg
    have ewq : ENW d P v0 := ew.tb r4 r5 r6 r7
    have ewo : ENW d (CS.setO P a 12 (P.o a 12 ||| ((1 : Int32) <<< (q.i 14 &&& 31)))) v0 := ewq.so
    have kda := kd_X0_add N _ _ _ pa hpa
    have ewa : ENW d pa.2 v0 := ewo.kd kda
    obtain ⟨⟨z1, z2, z3, z4⟩, ⟨z5, z6⟩, ⟨z7, z8, z9, z10, z11⟩, ⟨z12, z13, z14, z15, z16, z17, z18⟩⟩ := kd_all kda
    have k43 : pa.2.i 43 = 5 := by
      rw [z12]
      exact c5
    obtain ⟨b1, b2, b3, b4, b5, b6, b7, b8, b9, b10, b11, b12⟩ := ewa.adv hN (by rw [k43]; decide) hpb hp
    have ctc : CTC a S pb.2 := (hc.m.pj (pj2_eq kda).1 z8 z5).pj b3 b8 b9.1
    have lc : LC P := ew.1.2.2.2.2.2.2.1
    have l2 := lc.2.2.2.2.2.1 (Or.inr (Or.inl (by rw [c5]; decide)))
    have p42 : pa.2.i 42 = P.i 42 := (pj2_eq kda).2.2.2.2.2.2.1
    have ad := b11.2.2.1
    rw [p42] at ad
    have k44 := tkr.1
    have k44' := b1.1.2.2.2.1.1
    rw [k44] at l2
    rw [k44'] at ad
    have v17 : (v0.i 17).toInt = (q.i 17).toInt := by rw [r5 17 (by decide)]
    have kmn : KMK p (pb.2.o a 12) (Lc ++ [n]) := by
      have eo : pb.2.o = pa.2.o := (pj_eq b3).2.2.2.2.2.2.2.2.2.2.2.2.2.2.2.2.2.2.2.2.2.2.2.2.1
      have om : pb.2.o a 12 = P.o a 12 ||| ((1 : Int32) <<< (q.i 14 &&& 31)) := by
        rw [eo, z2]
        exact so_at
      obtain ⟨x, hx⟩ : ∃ x : Nat, (q.i 14).toInt = (x : Int) := ⟨(q.i 14).toInt.toNat, by omega⟩
      have ex := ofn _ x (by omega) hx
      have a34 := qj_a b2 34 (by decide)
      rw [om, ex]
      refine km.add (by omega) (fun j hj => ?_) (by rw [a34, r3]; exact hx)
      rw [a34, r2 j (by have := kch.lt Lc _ hr.2.2.2.2.2.2.2.1 j hj; omega)]
    refine Or.inr ⟨p, n, by rw [hR]; exact b1, by rw [hR]; exact ctc, r1.qj b2 b6 b7, by rw [hR]; exact kmn, ⟨by omega, ?_, by omega, by rw [b10, r5 19 (by decide)], ?_⟩, ?_⟩
    · unfold phI
      rw [b6, r5 20 (by decide), b12]
      omega
    · have q9 := (i20_hw ew).2.2
      refine ⟨q.i 14, _, pa, pb, ⟨k3.1, v12⟩, hpa, hpb, hR, ⟨n, v0, en, n4, hv0, kre_f_X12_next N v0 p hp, (FRB.of b2 : FRB (T + 1) v0 p).all 72 (by decide) (by decide), ?_, ?_⟩, b3, ⟨by rw [k44]; omega, by rw [k44, hR, k44']; omega, by omega⟩⟩
      · rw [(qj_eq b2).2.2.2.2.2.2.2.1, r5 38 (by decide)]
      · rw [qj_a b2 40 (by decide), r4 40 (by decide) (by decide) (by decide) (by decide)]
    · rw [if_pos b1.1.2.1] at hg
      by_cases c : p.i 10 = 124
      · rw [if_pos c] at hg
        obtain ⟨w, hw, hg⟩ := hf_bind hg
        exact Or.inl ⟨c, w, hw, hg⟩
      · rw [if_neg c] at hg
        exact Or.inr ⟨c, hg⟩
  by_cases c72 : 0 ≤ q.a 72 T
  · rw [if_pos c72] at gy'
    obtain ⟨-, gy'⟩ := hf_ite gy'
    have := le_int c72
    rw [z_t0] at this
    exact fin _ (Or.inl ⟨this, rfl⟩) gy'
  · rw [if_neg c72] at gy'
    obtain ⟨-, gy'⟩ := hf_ite gy'
    have z : (q.a 72 T).toInt < 0 := by
      by_cases w : 0 ≤ (q.a 72 T).toInt
      · exact absurd (Int32.le_iff_toInt_le.mpr (by rw [z_t0]; exact w)) c72
      · omega
    exact fin _ (Or.inr ⟨z, rfl⟩) gy'
