theorem b_leave_eq (N : Nat) (K : RS → Option RS) (σ : RS) : b_X12_leave_0 N K σ = (if σ.i 110 = 1 then (if σ.i 99 ≤ σ.i 112 then some (σ.setI 92 (σ.i 111)) else if ib (σ.i 99 - 1) 300 then popB N K σ else none) else (if σ.i 110 = 4 then (if σ.i 99 ≤ σ.i 112 then (if ib (σ.i 99 - 1) 300 then (f_X12_put N ((σ.setI 99 (σ.i 99 - 1)).setI 93 (σ.a 104 (σ.i 99 - 1).toNatClampNeg)) (σ.i 113)).bind fun p => if ib (p.i 99) 300 then if ib (p.a 101 (p.i 99).toNatClampNeg) 3000 then some (p.setI 92 (p.a 23 (p.a 101 (p.i 99).toNatClampNeg).toNatClampNeg)) else none else none else none) else if ib (σ.i 99 - 1) 300 then popB N K σ else none) else (if σ.i 99 ≤ 0 then some ((σ.setI 115 (σ.i 110)).setI 92 (-1)) else if ib (σ.i 99 - 1) 300 then popB N K σ else none))) := rfl
theorem LO.of {s σ q R : RS} {g : Gh} {k v : Nat} (h : LO s q R g k v) (h80 : q.i 80 = σ.i 80) (h115 : q.i 115 = σ.i 115) : LO s σ R g k v := by
  obtain ⟨a1, a2, a3, a4, a5, a6⟩ := h
  exact ⟨a1, a2, a3, a4.trans h80, a5, by rw [← h115]; exact a6⟩
theorem p_leave {N : Nat} (hN : 1000 ≤ N) {s : RS} {g : Gh} {k v h : Nat} (hW : WT s g) (hB : RB s) : ∀ (n : Nat) (σ : RS) (o : Nat) (rs : List Rec), LV s σ g k v h o rs → rs.length < n → ok (f_X12_leave_0 N n σ) (fun R => LO s σ R g k v)
  | 0, _, _, _, _, hn => by omega
  | n+1, σ, o, rs, hL, hn => by
    show ok (b_X12_leave_0 N (f_X12_leave_0 N n) σ) _
    rw [b_leave_eq]
    have e1 : (1 : Int32).toInt = 1 := by decide
    -- the road on: one record less
    have more : (∀ (r : Rec) (q : List Rec), rs = r :: q → (σ.i 110 = 1 ∨ σ.i 110 = 4 → ¬ (q.length : Int) + 1 ≤ (σ.i 112).toInt) → ok (if ib (σ.i 99 - 1) 300 then popB N (f_X12_leave_0 N n) σ else none) (fun R => LO s σ R g k v)) := by
      intro r q hrs hd
      subst hrs
      have hR : (σ.i 99).toInt = (q.length : Int) + 1 := hL.2.2.2.1
      have hl : q.length + 1 ≤ 250 := hL.2.2.2.2.1
      have hx := sub1 hR (by omega)
      refine ok_chk ⟨by omega, by omega⟩ (p_pop hN hW hB hL hd (fun z hz h80 h115 => ?_))
      exact ok_imp (p_leave hN hW hB n z r.o q hz (by have : (r :: q).length < n + 1 := hn; simp only [List.length_cons] at this; omega)) (fun R hR => hR.of h80 h115)
    obtain ⟨hX, hBσ, hD, hR, hl, hM, hOs, hw, h95, h95o, ho, hoo, ht⟩ := hL
    refine ok_ite (fun c1 => ok_ite (fun c2 => ?_) (fun c2 => ?_)) (fun c1 => ok_ite (fun c4 => ok_ite (fun c2 => ?_) (fun c2 => ?_)) (fun c4 => ok_ite (fun c2 => ?_) (fun c2 => ?_)))
    · have c2 := le_int c2
      have tj : 0 ≤ (σ.i 112).toInt ∧ (σ.i 93).toInt = h ∧ JMP s g v ((k : Int) + 1) (σ.i 111).toInt (σ.i 112).toInt.toNat h o rs := by
        rcases ht with ⟨-, d⟩ | d | ⟨d, -⟩ | ⟨d, -⟩
        · exact d
        · rw [c1] at d; exact absurd d (by decide)
        · rw [c1] at d; exact absurd d (by decide)
        · rw [c1] at d; exact absurd d (by decide)
      obtain ⟨j0, j1, j2, v', j3, j4, j5⟩ := tj
      have hd : rs.length ≤ (σ.i 112).toInt.toNat := by omega
      have ha : arr s g (σ.i 112).toInt.toNat rs := by
        cases rs with
        | nil => trivial
        | cons r q => exact Or.inl hd
      have eo : oA (σ.i 112).toInt.toNat o rs = o := by
        cases rs with
        | nil => rfl
        | cons r q => exact if_pos hd
      have ed : dA (σ.i 112).toInt.toNat rs = rs := by
        cases rs with
        | nil => rfl
        | cons r q => exact if_pos hd
      obtain ⟨k0, k1, k2⟩ := j5 ha
      have hXq := hX.tr (RX.i σ 92 (σ.i 111) (by decide))
      refine ok_some ⟨hXq, hXq.B hB, RD.of hD rfl rfl rfl rfl rfl rfl rfl rfl rfl, rfl, ?_, Or.inl rfl⟩
      by_cases hc : (σ.i 111).toInt < cdI s
      · obtain ⟨c, d1, d2, d3, d4, d5, d6⟩ := k2 hc
        rw [eo] at d3
        rw [ed] at d5
        refine Or.inr (Or.inr ⟨c, k0, d1, ⟨?_, ?_, h95, ?_, ?_, ?_, ?_⟩, ?_⟩)
        · rw [d2]; exact j1
        · rw [d5]; exact hw
        · show (σ.i 95).toInt ≤ _; omega
        · rw [d5]; exact hR
        · rw [d5]; exact RM.of (σ := σ) (fun _ _ _ _ _ => rfl) hM
        · intro q; rw [d4] at q; cases q
        · rw [d6]; exact j3
      · refine Or.inr (Or.inl ?_)
        show cdI s ≤ (σ.i 111).toInt
        omega
    · have c2 := lt_int (Int32.not_le.mp c2)
      rw [hR] at c2
      cases rs with
      | nil =>
        rcases ht with ⟨-, d, -⟩ | d | ⟨d, -⟩ | ⟨d, -⟩
        · have : (σ.i 112).toInt < 0 := c2
          omega
        · rw [c1] at d; exact absurd d (by decide)
        · rw [c1] at d; exact absurd d (by decide)
        · rw [c1] at d; exact absurd d (by decide)
      | cons r q =>
        refine more r q rfl (fun _ => ?_)
        have : (σ.i 112).toInt < ((r :: q).length : Nat) := c2
        simp only [List.length_cons] at this
        omega
    · have c2 := le_int c2
      have ty : YOK (σ.i 112).toInt rs := by
        rcases ht with ⟨d, -⟩ | d | ⟨d, -⟩ | ⟨-, d⟩
        · rw [c4] at d; exact absurd d (by decide)
        · rw [c4] at d; exact absurd d (by decide)
        · rw [c4] at d; exact absurd d (by decide)
        · exact d
      obtain ⟨y1, r, q, y2, y3, y4⟩ := ty
      have hd : rs.length ≤ (σ.i 112).toInt.toNat := by omega
      have ed : dA (σ.i 112).toInt.toNat rs = rs := by
        cases rs with
        | nil => rfl
        | cons r q => exact if_pos hd
      rw [ed] at y2
      subst y2
      have hR : (σ.i 99).toInt = (q.length : Int) + 1 := hR
      have hl : q.length + 1 ≤ 250 := hl
      have hx := sub1 hR (by omega)
      have hx1 : (σ.i 99 - 1).toNatClampNeg = q.length := by
        show (σ.i 99 - 1).toInt.toNat = q.length
        rw [hx]; exact Int.toNat_natCast _
      obtain ⟨n1, n2, n3, n4, n5, n6⟩ := hM.1
      have hO := hOs.1
      have o3 : (r.a : Int) < cdI s ∧ FL s g v ((k : Int) + 1) (gv s 23 r.a) (r.h + 1) r.o q := by
        rcases hO.2.2 with z | z | z | z
        · rw [y3] at z; exact absurd z.1 (by decide)
        · rw [y3] at z; exact absurd z (by decide)
        · exact z.2
        · rw [y3] at z; exact absurd z.1 (by decide)
      have e104 : (σ.a 104 (σ.i 99 - 1).toNatClampNeg).toInt = r.h := by rw [hx1]; exact n2
      refine ok_chk ⟨by omega, by omega⟩ ?_
      refine ok_bind (p_put N ((σ.setI 99 (σ.i 99 - 1)).setI 93 (σ.a 104 (σ.i 99 - 1).toNatClampNeg)) (σ.i 113) (by show 0 ≤ (σ.a 104 (σ.i 99 - 1).toNatClampNeg).toInt; omega) (by show (σ.a 104 (σ.i 99 - 1).toNatClampNeg).toInt ≤ 1300; rw [e104]; have := hO.1; omega)) (fun p hp => ?_)
      obtain ⟨p1, p2, p3, p4, p5⟩ := hp
      have h99 : (p.i 99).toInt = q.length := by rw [p3 99 (by decide)]; exact hx
      have h99n : (p.i 99).toNatClampNeg = q.length := by
        show (p.i 99).toInt.toNat = q.length
        rw [h99]; exact Int.toNat_natCast _
      have ha : (p.a 101 (p.i 99).toNatClampNeg).toInt = r.a := by
        rw [h99n, p4 101 (by decide)]; exact n5 y3
      have han : (p.a 101 (p.i 99).toNatClampNeg).toNatClampNeg = r.a := by
        show (p.a 101 (p.i 99).toNatClampNeg).toInt.toNat = r.a
        rw [ha]; exact Int.toNat_natCast _
      have hcd := hW.1
      refine ok_chk ⟨by omega, by omega⟩ (ok_chk ⟨by rw [ha]; omega, by rw [ha]; omega⟩ (ok_some ?_))
      rw [han]
      have hXp : RX s p := hX.tr (((RX.i σ 99 _ (by decide)).tr (RX.i _ 93 _ (by decide))).tr p1)
      have hXq := hXp.tr (RX.i p 92 (p.a 23 r.a) (by decide))
      have e23 : (p.a 23 r.a).toInt = gv s 23 r.a := gv_of (hXp.2.2.2 23 (by decide)) _
      have i95 : p.i 95 = σ.i 95 := p3 95 (by decide)
      refine ⟨hXq, hXq.B hB, RD.of hD i95 (p4 96 (by decide)) (p4 84 (by decide)) (p3 81 (by decide)) (p3 85 (by decide)) (p3 80 (by decide)) (p4 88 (by decide)) (p4 86 (by decide)) (p3 3 (by decide)), p3 80 (by decide), ?_, Or.inl (p3 115 (by decide))⟩
      obtain ⟨f1, f2, f3⟩ := o3.2
      by_cases hc : gv s 23 r.a < cdI s
      · obtain ⟨c, d1, d2, d3, d4, d5, d6⟩ := f3 hc
        refine Or.inr (Or.inr ⟨c, ?_, ?_, ⟨?_, ?_, ?_, ?_, ?_, ?_, ?_⟩, ?_⟩)
        · show 0 ≤ (p.a 23 r.a).toInt; rw [e23]; exact f1
        · show g.T (p.a 23 r.a).toInt.toNat _; rw [e23]; exact d1
        · show (p.i 93).toInt = _
          have p2' : (p.i 93).toInt = (σ.a 104 (σ.i 99 - 1).toNatClampNeg).toInt + 1 := p2
          rw [p2', e104, d2]; rfl
        · show (p.i 97).toInt = _
          rw [p3 97 (by decide), d5]
          show (σ.i 97).toInt = _
          rw [hw]; unfold wv; rw [if_neg (by rw [y3]; decide), Nat.zero_add]
          cases q <;> rfl
        · show 0 ≤ (p.i 95).toInt; rw [i95]; exact h95
        · show (p.i 95).toInt ≤ _
          rw [i95]
          rcases hoo.1 with z | z
          · rw [y3] at z; exact absurd z.1 (by decide)
          · omega
        · rw [d5]; exact h99
        · rw [d5]; exact RM.of (σ := σ) (fun i _ k9 h1 _ => gv_of (p4 k9 (by omega)) i) hM.2
        · intro z; rw [d4] at z; cases z
        · show c.v < v ∨ c.v ≤ v ∧ (k : Int) + 1 ≤ (p.a 23 r.a).toInt; rw [e23]; exact d6
      · refine Or.inr (Or.inl ?_)
        show cdI s ≤ (p.a 23 r.a).toInt
        rw [e23]; omega
    · have c2 := lt_int (Int32.not_le.mp c2)
      rw [hR] at c2
      cases rs with
      | nil =>
        rcases ht with ⟨d, -⟩ | d | ⟨d, -⟩ | ⟨-, d⟩
        · rw [c4] at d; exact absurd d (by decide)
        · rw [c4] at d; exact absurd d (by decide)
        · rw [c4] at d; exact absurd d (by decide)
        · have := d.1
          have : (σ.i 112).toInt < 0 := c2
          omega
      | cons r q =>
        refine more r q rfl (fun _ => ?_)
        have : (σ.i 112).toInt < ((r :: q).length : Nat) := c2
        simp only [List.length_cons] at this
        omega
    · have hXq := (hX.tr (RX.i σ 115 (σ.i 110) (by decide))).tr (RX.i _ 92 (-1) (by decide))
      refine ok_some ⟨hXq, hXq.B hB, RD.of hD rfl rfl rfl rfl rfl rfl rfl rfl rfl, rfl, Or.inl ?_, Or.inr ⟨by show (-1 : Int32).toInt < 0; decide, ?_⟩⟩
      · show (-1 : Int32).toInt < 0; decide
      · intro z
        have z : σ.i 110 = 3 := z
        rcases ht with ⟨d, -⟩ | d | ⟨-, d⟩ | ⟨d, -⟩
        · rw [z] at d; exact absurd d (by decide)
        · rw [z] at d; exact absurd d (by decide)
        · exact d
        · rw [z] at d; exact absurd d (by decide)
    · have c2 := lt_int (Int32.not_le.mp c2)
      rw [hR, z_t0] at c2
      cases rs with
      | nil => exact absurd c2 (by decide)
      | cons r q =>
        refine more r q rfl (fun z => ?_)
        rcases z with z | z
        · exact absurd z c1
        · exact absurd z c4
