theorem eqI {x m : Int32} {n : Int} (h : x.toInt = n) (hm : m.toInt = n) : x = m := Int32.toInt_inj.mp (h.trans hm.symm)
theorem neI {x m : Int32} {n c : Int} (h : x.toInt = n) (hm : m.toInt = c) (hne : n ≠ c) : ¬ x = m := fun q => hne (by rw [← h, ← hm, q])
theorem TR.pop {s σ τ : RS} {g : Gh} {k v h o : Nat} {r : Rec} {rs : List Rec} (ht : TR s σ g k v h o (r :: rs)) (hd : σ.i 110 = 1 ∨ σ.i 110 = 4 → ¬ (rs.length : Int) + 1 ≤ (σ.i 112).toInt) (hc : r.k = 4 → r.p < 2 → 0 ≤ gv s 31 r.a → r.ps = true) (e0 : τ.i 110 = σ.i 110) (e1 : τ.i 111 = σ.i 111) (e2 : τ.i 112 = σ.i 112) (e3 : τ.i 93 = σ.i 93) (e4 : τ.i 114 = σ.i 114) : TR s τ g k v h r.o rs := by
  unfold TR at *
  rw [e0, e1, e2, e3, e4]
  rcases ht with ⟨d3, d4, d5, d6⟩ | d3 | ⟨d3, d4⟩ | ⟨d3, d4⟩
  · have := hd (Or.inl d3)
    exact Or.inl ⟨d3, d4, d5, d6.pop (by omega) hc⟩
  · exact Or.inr (Or.inl d3)
  · exact Or.inr (Or.inr (Or.inl ⟨d3, d4⟩))
  · have := hd (Or.inr d3)
    exact Or.inr (Or.inr (Or.inr ⟨d3, d4.pop (by omega)⟩))
theorem sub1 {x : Int32} {n : Nat} (h : x.toInt = (n : Int) + 1) (hn : n ≤ 1000) : (x - 1).toInt = n := by
  have e1 : (1 : Int32).toInt = 1 := by decide
  rw [toInt_sub] <;> rw [e1] <;> omega
theorem recOK.four {s : RS} {g : Gh} {k v : Nat} {r : Rec} {rs : List Rec} (h : recOK s g k v r rs) (hk : r.k = 4) : (r.a : Int) < (s.i 29).toInt ∧ r.p ≤ 2 ∧ (r.p = 0 → ∀ j : Nat, catchIn s j 400 (gv s 30 r.a) → 0 ≤ gv s 36 j ∧ gv s 36 j < 460 ∧ g.isC (gv s 36 j).toNat = true ∧ FL s g v ((k : Int) + 1) (gv s 35 j) r.h r.o (r.ph 1 :: rs)) := by
  rcases h.2.2 with q | q | q | q
  · rw [hk] at q; exact absurd q.1 (by decide)
  · rw [hk] at q; exact absurd q (by decide)
  · rw [hk] at q; exact absurd q.1 (by decide)
  · exact ⟨q.2.1, q.2.2.1, q.2.2.2.2.2.1⟩
/-- behind what is closed and not caught: a finally, or the record goes -/
theorem p_tail {N : Nat} {s σ0 τ : RS} {g : Gh} {k v h o : Nat} {r : Rec} {rs : List Rec} {K : RS → Option RS} {x1 : Int32} (hW : WT s g) (hB : RB s) (hx : x1.toInt = rs.length) (hx1 : x1.toNatClampNeg = rs.length) (hX : RX s τ) (hD : RD τ g) (hR : (τ.i 99).toInt = rs.length + 1) (hl : rs.length + 1 ≤ 250) (hM : RM s τ g (r :: rs)) (hO : recOK s g k v r rs) (hOs : recsOK s g k v rs) (hw : (τ.i 97).toInt = wv (r :: rs)) (h95 : 0 ≤ (τ.i 95).toInt) (h95r : (τ.i 95).toInt ≤ r.o) (hoo : oOK r.o rs) (hk : r.k = 4) (ht : TR s τ g k v h o (r :: rs)) (hd : τ.i 110 = 1 ∨ τ.i 110 = 4 → ¬ (rs.length : Int) + 1 ≤ (τ.i 112).toInt) (h80 : τ.i 80 = σ0.i 80) (h115 : τ.i 115 = σ0.i 115)
    (hK : ∀ (q : RS), LV s q g k v h r.o rs → q.i 80 = σ0.i 80 → q.i 115 = σ0.i 115 → ok (K q) (fun R => LO s σ0 R g k v)) :
    ok (if 2 ≤ τ.a 102 x1.toNatClampNeg then K (τ.setI 99 (τ.i 99 - 1)) else (f_X12_finals N τ x1).bind fun p => (if p.1 = 0 then K (p.2.setI 99 (p.2.i 99 - 1)) else some p.2)) (fun R => LO s σ0 R g k v) := by
  have f4 := hO.four hk
  have hM1 := hM.1
  obtain ⟨n1, n2, -, -, -, n6⟩ := hM1
  obtain ⟨q1, q2, q3, q4, q5⟩ := n6 hk
  have w2 := hW.2.1
  have pop : (r.p < 2 → ¬ 0 ≤ gv s 31 r.a) → ok (K (τ.setI 99 (τ.i 99 - 1))) (fun R => LO s σ0 R g k v) := by
    intro hnf
    refine hK _ ⟨hX.tr (RX.i _ _ _ (by decide)), (hX.tr (RX.i _ _ _ (by decide))).B hB, RD.of hD rfl rfl rfl rfl rfl rfl rfl rfl rfl, sub1 hR (by omega), by omega, RM.of (σ := τ) (fun _ _ _ _ _ => rfl) hM.2, hOs, ?_, h95, h95r, hO.2.1, hoo, ht.pop hd (fun _ hp hf => absurd hf (hnf hp)) rfl rfl rfl rfl rfl⟩ h80 h115
    show (τ.i 97).toInt = _
    rw [hw]; unfold wv; rw [if_neg (by rw [hk]; decide), Nat.zero_add]
    cases rs <;> rfl
  have e102 : (τ.a 102 x1.toNatClampNeg).toInt = r.p := by rw [hx1]; exact q2
  have e2 : (2 : Int32).toInt = 2 := by decide
  refine ok_ite (fun c => pop (fun hp => ?_)) (fun c => ?_)
  · have := le_int c
    rw [e2, e102] at this
    omega
  · have hp2 : r.p < 2 := by
      have := lt_int (Int32.not_le.mp c)
      rw [e2, e102] at this
      omega
    rw [e_finals (a := r.a) (show ib x1 300 from ⟨by omega, by omega⟩) (by rw [hx1]; exact q1) (by omega)]
    have e31 : gv τ 31 r.a = gv s 31 r.a := gv_of (hX.2.2.2 31 (by decide)) _
    by_cases hf : 0 ≤ gv τ 31 r.a
    · rw [if_pos hf]
      show ok (if (1 : Int32) = 0 then K ((FIN τ x1.toNatClampNeg (τ.a 31 r.a)).setI 99 ((FIN τ x1.toNatClampNeg (τ.a 31 r.a)).i 99 - 1)) else some (FIN τ x1.toNatClampNeg (τ.a 31 r.a))) _
      refine ok_ite (fun q => absurd q (show ¬ (1 : Int32) = 0 by decide)) (fun _ => ok_some ?_)
      refine ⟨FIN_X hX, (FIN_X hX).B hB, RD.of hD rfl rfl rfl rfl rfl rfl rfl rfl rfl, h80, ?_, Or.inl h115⟩
      exact fin_out (h := h) (o := o) hx1 hB hX hD hR hM hO hw h95 h95r hk hp2 (by rw [← e31]; exact hf) (Or.inr ⟨ht, hd⟩)
    · rw [if_neg hf]
      show ok (if (0 : Int32) = 0 then K (τ.setI 99 (τ.i 99 - 1)) else some τ) _
      exact ok_ite (fun _ => pop (fun _ => by rw [← e31]; exact hf)) (fun q => absurd rfl q)
/-- a catch takes it -/
theorem catch_out {s τ : RS} {g : Gh} {k v : Nat} {r : Rec} {rs : List Rec} {x1 : Int32} (hx1 : x1.toNatClampNeg = rs.length) (hX : RX s τ) (hR : (τ.i 99).toInt = rs.length + 1) (hM : RM s τ g (r :: rs)) (hO : recOK s g k v r rs) (hw : (τ.i 97).toInt = wv (r :: rs)) (h95 : 0 ≤ (τ.i 95).toInt) (h95r : (τ.i 95).toInt ≤ r.o) (hk : r.k = 4) (hp : r.p = 0) {j : Nat} (hj : catchIn s j 400 (gv s 30 r.a)) : OUT s ((((τ.setA 84 (τ.a 36 j).toNatClampNeg (τ.i 114)).setA 102 x1.toNatClampNeg 1).setI 93 (τ.a 104 x1.toNatClampNeg)).setI 92 (τ.a 35 j)) g v ((k : Int) + 1) := by
  rw [hx1]
  obtain ⟨-, -, f1, f2, f3⟩ := (hO.four hk).2.2 hp j hj
  have e35 : (τ.a 35 j).toInt = gv s 35 j := gv_of (hX.2.2.2 35 (by decide)) _
  by_cases hc : gv s 35 j < cdI s
  · obtain ⟨c, c1, c2, c3, c4, c5, c6⟩ := f3.2 hc
    refine Or.inr (Or.inr ⟨c, ?_, ?_, ?_, ?_⟩)
    · show 0 ≤ (τ.a 35 j).toInt; rw [e35]; exact f2
    · show g.T (τ.a 35 j).toInt.toNat _; rw [e35]; exact c1
    · obtain ⟨m1, m2⟩ := hM
      obtain ⟨n1, n2, -, -, -, n6⟩ := m1
      obtain ⟨q1, q2, q3, q4, q5⟩ := n6 hk
      have other : ∀ (i : Nat), i < rs.length → ∀ k9 : Nat, 100 ≤ k9 → k9 ≤ 109 → gv ((((τ.setA 84 (τ.a 36 j).toNatClampNeg (τ.i 114)).setA 102 rs.length 1).setI 93 (τ.a 104 rs.length)).setI 92 (τ.a 35 j)) k9 i = gv τ k9 i := by
        intro i hi k9 h1 h2
        unfold gv
        simp only [ra_setI, ra_setA]
        by_cases h3 : k9 = 102
        · subst h3; simp [upd, Nat.ne_of_lt hi]
        · simp [h3, show ¬ k9 = 84 by omega]
      refine ⟨?_, ?_, h95, ?_, ?_, ?_, ?_⟩
      · rw [c2]; exact n2
      · rw [c5]
        show (τ.i 97).toInt = _
        rw [hw]
        unfold wv
        rw [if_neg (by rw [hk]; decide), if_neg (show ¬ (r.ph 1).k = 2 by show ¬ r.k = 2; rw [hk]; decide)]
      · show (τ.i 95).toInt ≤ _; omega
      · rw [c5]; show (τ.i 99).toInt = _; rw [hR]; rfl
      · rw [c5]
        refine ⟨⟨n1, n2, fun q => absurd q (by show ¬ r.k = 1; rw [hk]; decide), fun q => absurd q (by show ¬ r.k = 2; rw [hk]; decide), fun q => absurd q (by show ¬ r.k = 3; rw [hk]; decide), fun _ => ⟨q1, ?_, q3, q4, fun q => absurd q (by show ¬ (1 : Nat) = 2; decide)⟩⟩, RM.of other m2⟩
        unfold gv; simp only [ra_setI, ra_setA]; simp [upd]; rfl
      · intro q; rw [c4] at q; cases q
    · show c.v < v ∨ c.v ≤ v ∧ (k : Int) + 1 ≤ (τ.a 35 j).toInt; rw [e35]; exact c6
  · refine Or.inr (Or.inl ?_)
    show cdI s ≤ (τ.a 35 j).toInt
    rw [e35]; omega
theorem CA.of {σ R s : RS} {g : Gh} {i : Nat} (h : CA σ R g i) (hX : RX s σ) : RX s R := hX.tr h.1
/-- one record goes, or what leaves stops at it -/
theorem p_pop {N : Nat} (hN : 1000 ≤ N) {s σ : RS} {g : Gh} {k v h o : Nat} {r : Rec} {rs : List Rec} {K : RS → Option RS} (hW : WT s g) (hB : RB s) (hL : LV s σ g k v h o (r :: rs)) (hd : σ.i 110 = 1 ∨ σ.i 110 = 4 → ¬ (rs.length : Int) + 1 ≤ (σ.i 112).toInt)
    (hK : ∀ (q : RS), LV s q g k v h r.o rs → q.i 80 = σ.i 80 → q.i 115 = σ.i 115 → ok (K q) (fun R => LO s σ R g k v)) : ok (popB N K σ) (fun R => LO s σ R g k v) := by
  obtain ⟨hX, hBσ, hD, hR, hl, hM, hOs, hw, h95, h95o, ho, hoo, ht⟩ := hL
  have hR : (σ.i 99).toInt = (rs.length : Int) + 1 := hR
  have hl : rs.length + 1 ≤ 250 := hl
  have hx : (σ.i 99 - 1).toInt = rs.length := sub1 hR (by omega)
  have hx1 : (σ.i 99 - 1).toNatClampNeg = rs.length := by
    show (σ.i 99 - 1).toInt.toNat = rs.length
    rw [hx]; exact Int.toNat_natCast _
  have hib : ib (σ.i 99 - 1) 300 := ⟨by omega, by omega⟩
  have e1 : (1 : Int32).toInt = 1 := by decide
  have e2 : (2 : Int32).toInt = 2 := by decide
  have e4 : (4 : Int32).toInt = 4 := by decide
  obtain ⟨n1, n2, n3, n4, n5, n6⟩ := hM.1
  have hO := hOs.1
  have n1' : (σ.a 100 (σ.i 99 - 1).toNatClampNeg).toInt = r.k := by rw [hx1]; exact n1
  have opop : r.k ≠ 4 → (σ.i 95).toInt ≤ r.o := by
    intro hk
    rcases hoo.1 with q | q
    · exact absurd q.1 hk
    · omega
  have wpop : r.k ≠ 2 → (σ.i 97).toInt = wv rs := by
    intro hk
    rw [hw]; unfold wv; rw [if_neg hk, Nat.zero_add]
    cases rs <;> rfl
  unfold popB
  refine ok_ite (fun c => ?_) (fun c => ok_ite (fun c2 => ?_) (fun c2 => ok_ite (fun c3 => ?_) (fun c3 => ?_)))
  · have hk : r.k = 1 := by rw [c, e1] at n1'; omega
    refine ok_bind (p_row N σ 4 _ hD.2.2.1.1 hD.2.2.1.2) (fun p hp => ?_)
    obtain ⟨r1, r2, r3, r4, r5⟩ := hp
    have ha : (p.a 101 (σ.i 99 - 1).toNatClampNeg).toInt = r.a := by rw [r5 101 (by decide) (by decide), hx1]; exact n3 hk
    have h8 : r.a < 8 := by
      rcases hO.2.2 with q | q | q | q
      · exact q.2
      · rw [hk] at q; exact absurd q (by decide)
      · rw [hk] at q; exact absurd q.1 (by decide)
      · rw [hk] at q; exact absurd q.1 (by decide)
    refine ok_chk ⟨by rw [ha]; omega, by rw [ha]; omega⟩ ?_
    have hXp : RX s p := hX.tr r1
    have hXq := (hXp.tr (RX.a p 91 (p.a 101 (σ.i 99 - 1).toNatClampNeg).toNatClampNeg (p.a 91 (p.a 101 (σ.i 99 - 1).toNatClampNeg).toNatClampNeg - 1) (by decide))).tr (RX.i _ 99 (p.i 99 - 1) (by decide))
    have r99 : p.i 99 = σ.i 99 := r4 99 (by decide)
    refine hK _ ⟨hXq, hXq.B hB, ?_, ?_, by omega, ?_, hOs.2, ?_, ?_, ?_, hO.2.1, hoo.2, ht.pop hd (fun q => absurd q (by rw [hk]; decide)) (r4 110 (by decide)) (r4 111 (by decide)) (r4 112 (by decide)) (r4 93 (by decide)) (r4 114 (by decide))⟩ (r4 80 (by decide)) (r4 115 (by decide))
    · obtain ⟨E1, E2, E3, E4, E5, E6, E7⟩ := hD
      refine ⟨fun j h2 h3 => ?_, fun y h2 h3 => ?_, ⟨r2, r3⟩, ?_, ?_, fun t h2 => ?_, fun t h2 => ?_⟩
      · have h3 : (j : Int) < (p.i 95).toInt := h3
        rw [r4 95 (by decide)] at h3
        show 0 ≤ gv p 96 j ∧ gv p 96 j < 8
        rw [gv_of (r5 96 (by decide) (by decide))]; exact E1 j h2 h3
      · show 0 ≤ gv p 84 y ∧ gv p 84 y < 3200
        rw [gv_of (r5 84 (by decide) (by decide))]; exact E2 y h2 h3
      · show 0 ≤ p.i 85 ∧ p.i 85 ≤ 3200
        rw [r4 85 (by decide)]; exact E4
      · show 0 ≤ p.i 80 ∧ p.i 80 ≤ 1000
        rw [r4 80 (by decide)]; exact E5
      · show 0 ≤ gv p 88 t ∧ gv p 88 t ≤ 8
        rw [gv_of (r5 88 (by decide) (by decide))]; exact E6 t h2
      · show gv p 86 t < (p.i 3).toInt
        rw [gv_of (r5 86 (by decide) (by decide)), r4 3 (by decide)]; exact E7 t h2
    · show (p.i 99 - 1).toInt = _
      rw [r99]; exact hx
    · refine RM.of (σ := σ) (fun i hi k9 h1 h2 => ?_) hM.2
      have : gv ((p.setA 91 (p.a 101 (σ.i 99 - 1).toNatClampNeg).toNatClampNeg (p.a 91 (p.a 101 (σ.i 99 - 1).toNatClampNeg).toNatClampNeg - 1)).setI 99 (p.i 99 - 1)) k9 i = gv p k9 i := by
        unfold gv; simp only [ra_setI, ra_setA]; rw [if_neg (by omega)]
      rw [this]
      exact gv_of (r5 k9 (by omega) (by omega)) i
    · show (p.i 97).toInt = _
      rw [r4 97 (by decide)]; exact wpop (by rw [hk]; decide)
    · show 0 ≤ (p.i 95).toInt
      rw [r4 95 (by decide)]; exact h95
    · show (p.i 95).toInt ≤ _
      rw [r4 95 (by decide)]; exact opop (by rw [hk]; decide)
  · have hk : r.k = 2 := by rw [c2, e2] at n1'; omega
    have hXq := (hX.tr (RX.i σ 97 (σ.a 101 (σ.i 99 - 1).toNatClampNeg) (by decide))).tr (RX.i _ 99 (σ.i 99 - 1) (by decide))
    refine hK _ ⟨hXq, hXq.B hB, RD.of hD rfl rfl rfl rfl rfl rfl rfl rfl rfl, hx, by omega, RM.of (σ := σ) (fun _ _ _ _ _ => rfl) hM.2, hOs.2, ?_, h95, opop (by rw [hk]; decide), hO.2.1, hoo.2, ht.pop hd (fun q => absurd q (by rw [hk]; decide)) rfl rfl rfl rfl rfl⟩ rfl rfl
    show (σ.a 101 (σ.i 99 - 1).toNatClampNeg).toInt = _
    rw [hx1]; exact (n4 hk).1
  · have hk : r.k = 4 := by rw [c3, e4] at n1'; omega
    obtain ⟨q1, q2, q3, q4, q5⟩ := n6 hk
    have f4 := hO.four hk
    have e102 : (σ.a 102 (σ.i 99 - 1).toNatClampNeg).toInt = r.p := by rw [hx1]; exact q2
    refine ok_ite (fun c4 => ?_) (fun c4 => ?_)
    · have hp : r.p = 0 := by rw [c4, z_t0] at e102; omega
      have h103 : gv σ 103 (σ.i 99 - 1).toNatClampNeg = gv σ 103 rs.length := by rw [hx1]
      unfold f_X12_closeAll
      refine ok_bind (p_closeAll N g (σ.i 99 - 1) hib N σ hBσ hD (by rw [h103]; exact q3) h95 (by omega) ?_ (by omega)) (fun p hp9 => ?_)
      · intro q
        rcases ht with ⟨d3, -⟩ | d3 | ⟨d3, d4⟩ | ⟨d3, -⟩
        · rw [d3] at q; exact absurd q (by decide)
        · rw [d3] at q; exact absurd q (by decide)
        · exact d4
        · rw [d3] at q; exact absurd q (by decide)
      obtain ⟨b1, b2, b3, b4, b5, b6, b7, b8⟩ := hp9
      have hXp : RX s p := hX.tr b1
      have hMp : RM s p g (r :: rs) := RM.of (σ := σ) (fun i _ k9 h1 _ => gv_of (b4 k9 (by omega)) i) hM
      have h99 : p.i 99 = σ.i 99 := b3 99 (by decide) (by decide) (by decide) (by decide) (by decide)
      have hRp : (p.i 99).toInt = (rs.length : Int) + 1 := by rw [h99]; exact hR
      have h97 : p.i 97 = σ.i 97 := b3 97 (by decide) (by decide) (by decide) (by decide) (by decide)
      have hwp : (p.i 97).toInt = wv (r :: rs) := by rw [h97]; exact hw
      have h95p : (p.i 95).toInt ≤ r.o := by rw [h103] at b6; omega
      have h80 : p.i 80 = σ.i 80 := b3 80 (by decide) (by decide) (by decide) (by decide) (by decide)
      have h115 : p.i 115 = σ.i 115 := b3 115 (by decide) (by decide) (by decide) (by decide) (by decide)
      have h112 : p.i 112 = σ.i 112 := b3 112 (by decide) (by decide) (by decide) (by decide) (by decide)
      have htp : TR s p g k v h o (r :: rs) ∧ (p.i 110 = 1 ∨ p.i 110 = 4 → ¬ (rs.length : Int) + 1 ≤ (p.i 112).toInt) := by
        by_cases h3 : p.i 110 = 3
        · exact ⟨Or.inr (Or.inr (Or.inl ⟨h3, b8 h3⟩)), fun q => by rw [h3] at q; exact absurd q (by decide)⟩
        · have h110 : p.i 110 = σ.i 110 := by
            rcases b7 with b7 | b7
            · exact b7
            · exact absurd b7 h3
          refine ⟨?_, by rw [h110, h112]; exact hd⟩
          unfold TR at *
          rw [h110, h112, b3 111 (by decide) (by decide) (by decide) (by decide) (by decide), b3 93 (by decide) (by decide) (by decide) (by decide) (by decide)]
          rcases ht with d | d | ⟨d3, d4⟩ | d
          · exact Or.inl d
          · exact Or.inr (Or.inl d)
          · exact absurd (h110.trans d3) h3
          · exact Or.inr (Or.inr (Or.inr d))
      refine ok_ite (fun c5 => ?_) (fun c5 => ?_)
      · obtain ⟨t0, t1⟩ := b8 c5
        refine ok_bind (p_isCaught hN hXp hW (hXp.B hB) b2 hib t0 t1 (r := r) (by rw [hx1]; exact (hMp.1.2.2.2.2.2 hk).1) f4.1 (fun j hj => ⟨(f4.2.2 hp j hj).1, (f4.2.2 hp j hj).2.1⟩)) (fun z hz => ?_)
        rcases hz with ⟨z1, z2⟩ | ⟨z1, j, hj, z2⟩
        · obtain ⟨zz1, zz2⟩ := z
          simp only at z1 z2
          subst z2
          refine ok_ite (fun _ => ?_) (fun q => absurd z1 q)
          exact p_tail (N := N) (h := h) (o := o) hW hB hx hx1 hXp b2 hRp hl hMp hO hOs.2 hwp b5 h95p hoo.2 hk htp.1 htp.2 h80 h115 hK
        · refine ok_ite (fun q => absurd q z1) (fun _ => ok_some ?_)
          rw [z2]
          have hXq : RX s ((((p.setA 84 (p.a 36 j).toNatClampNeg (p.i 114)).setA 102 (σ.i 99 - 1).toNatClampNeg 1).setI 93 (p.a 104 (σ.i 99 - 1).toNatClampNeg)).setI 92 (p.a 35 j)) := hXp.tr ((((RX.a _ _ _ _ (by decide)).tr (RX.a _ _ _ _ (by decide))).tr (RX.i _ _ _ (by decide))).tr (RX.i _ _ _ (by decide)))
          refine ⟨hXq, hXq.B hB, ?_, h80, catch_out hx1 hXp hRp hMp hO hwp b5 h95p hk hp hj, Or.inl h115⟩
          obtain ⟨E1, E2, E3, E4, E5, E6, E7⟩ := b2
          refine ⟨E1, fun y h2 h3 => ?_, E3, E4, E5, E6, E7⟩
          have : gv ((((p.setA 84 (p.a 36 j).toNatClampNeg (p.i 114)).setA 102 (σ.i 99 - 1).toNatClampNeg 1).setI 93 (p.a 104 (σ.i 99 - 1).toNatClampNeg)).setI 92 (p.a 35 j)) 84 y = if y = (p.a 36 j).toNatClampNeg then (p.i 114).toInt else (p.a 84 y).toInt := gv_upd rfl
          rw [this]
          by_cases w : y = (p.a 36 j).toNatClampNeg
          · rw [if_pos w]; exact ⟨t0, t1⟩
          · rw [if_neg w]; exact E2 y h2 h3
      · exact p_tail (N := N) (h := h) (o := o) hW hB hx hx1 hXp b2 hRp hl hMp hO hOs.2 hwp b5 h95p hoo.2 hk htp.1 htp.2 h80 h115 hK
    · have hp : r.p ≠ 0 := by
        intro q
        exact c4 (eqI (by rw [e102, q]; rfl) z_t0)
      have h95r : (σ.i 95).toInt ≤ r.o := by
        rcases hoo.1 with q | q
        · exact absurd q.2 hp
        · omega
      exact p_tail (N := N) (h := h) (o := o) hW hB hx hx1 hX hD hR hl hM hO hOs.2 hw h95 h95r hoo.2 hk ht hd rfl rfl hK
  · have hk : r.k = 3 := by
      have k1 : r.k ≠ 1 := fun q => c (eqI (by rw [n1', q]; rfl) e1)
      have k2 : r.k ≠ 2 := fun q => c2 (eqI (by rw [n1', q]; rfl) e2)
      have k4 : r.k ≠ 4 := fun q => c3 (eqI (by rw [n1', q]; rfl) e4)
      rcases hO.2.2 with q | q | q | q
      · exact absurd q.1 k1
      · exact absurd q k2
      · exact q.1
      · exact absurd q.1 k4
    have hXq := hX.tr (RX.i σ 99 (σ.i 99 - 1) (by decide))
    exact hK _ ⟨hXq, hXq.B hB, RD.of hD rfl rfl rfl rfl rfl rfl rfl rfl rfl, hx, by omega, RM.of (σ := σ) (fun _ _ _ _ _ => rfl) hM.2, hOs.2, wpop (by rw [hk]; decide), h95, opop (by rw [hk]; decide), hO.2.1, hoo.2, ht.pop hd (fun q => absurd q (by rw [hk]; decide)) rfl rfl rfl rfl rfl⟩ rfl rfl
