/-- what stands of the reference at every call: the tape's fill, the kinds -/
def RB (s : RS) : Prop := (0 ≤ s.i 2 ∧ s.i 2 ≤ 900) ∧ (4 ≤ s.i 3 ∧ s.i 3 ≤ 12) ∧ (∀ k : Nat, 0 < k → (k : Int) < (s.i 3).toInt → 0 ≤ (s.a 4 k).toInt ∧ (s.a 4 k).toInt < k) ∧ (∀ r : Nat, r < 8 → 0 ≤ s.a 6 r ∧ s.a 6 r ≤ s.i 3) ∧ (∀ r : Nat, r < 8 → 0 ≤ s.a 7 r ∧ s.a 7 r ≤ s.i 3)
theorem RB.of {s t : RS} (h2 : t.i 2 = s.i 2) (h3 : t.i 3 = s.i 3) (h4 : t.a 4 = s.a 4) (h6 : t.a 6 = s.a 6) (h7 : t.a 7 = s.a 7) (h : RB s) : RB t := by
  unfold RB at *
  rw [h2, h3, h4, h6, h7]
  exact h
/-- what the plain calls leave as it is -/
def RK (s t : RS) : Prop := (∀ j : Nat, j ≠ 0 → j ≠ 2 → j ≠ 3 → j ≠ 8 → t.i j = s.i j) ∧ (∀ k : Nat, k ≠ 1 → k ≠ 4 → k ≠ 5 → k ≠ 6 → k ≠ 7 → t.a k = s.a k) ∧ t.b = s.b ∧ t.l = s.l ∧ s.i 3 ≤ t.i 3
theorem RK.rf (s : RS) : RK s s := ⟨fun _ _ _ _ _ => rfl, fun _ _ _ _ _ _ => rfl, rfl, rfl, Int32.le_refl _⟩
theorem RK.tr {s t u : RS} (h1 : RK s t) (h2 : RK t u) : RK s u := ⟨fun j a b c d => (h2.1 j a b c d).trans (h1.1 j a b c d), fun k a b c d e => (h2.2.1 k a b c d e).trans (h1.2.1 k a b c d e), h2.2.2.1.trans h1.2.2.1, h2.2.2.2.1.trans h1.2.2.2.1, Int32.le_trans h1.2.2.2.2 h2.2.2.2.2⟩
theorem RK.i0 (s : RS) (v : Int32) : RK s (s.setI 0 v) := ⟨fun j a _ _ _ => if_neg a, fun _ _ _ _ _ _ => rfl, rfl, rfl, Int32.le_refl _⟩
theorem RK.i2 (s : RS) (v : Int32) : RK s (s.setI 2 v) := ⟨fun j _ a _ _ => if_neg a, fun _ _ _ _ _ _ => rfl, rfl, rfl, Int32.le_refl _⟩
theorem RK.i8 (s : RS) (v : Int32) : RK s (s.setI 8 v) := ⟨fun j _ _ _ a => if_neg a, fun _ _ _ _ _ _ => rfl, rfl, rfl, Int32.le_refl _⟩
theorem RK.i3 (s : RS) (v : Int32) (h : s.i 3 ≤ v) : RK s (s.setI 3 v) := ⟨fun j _ _ a _ => if_neg a, fun _ _ _ _ _ _ => rfl, rfl, rfl, h⟩
theorem RK.a1 (s : RS) (j : Nat) (v : Int32) : RK s (s.setA 1 j v) := ⟨fun _ _ _ _ _ => rfl, fun k a _ _ _ _ => if_neg a, rfl, rfl, Int32.le_refl _⟩
theorem RK.a4 (s : RS) (j : Nat) (v : Int32) : RK s (s.setA 4 j v) := ⟨fun _ _ _ _ _ => rfl, fun k _ a _ _ _ => if_neg a, rfl, rfl, Int32.le_refl _⟩
theorem RK.a5 (s : RS) (j : Nat) (v : Int32) : RK s (s.setA 5 j v) := ⟨fun _ _ _ _ _ => rfl, fun k _ _ a _ _ => if_neg a, rfl, rfl, Int32.le_refl _⟩
theorem RK.a6 (s : RS) (j : Nat) (v : Int32) : RK s (s.setA 6 j v) := ⟨fun _ _ _ _ _ => rfl, fun k _ _ _ a _ => if_neg a, rfl, rfl, Int32.le_refl _⟩
theorem RK.a7 (s : RS) (j : Nat) (v : Int32) : RK s (s.setA 7 j v) := ⟨fun _ _ _ _ _ => rfl, fun k _ _ _ _ a => if_neg a, rfl, rfl, Int32.le_refl _⟩
theorem RB.i0 {s : RS} (v : Int32) (h : RB s) : RB (s.setI 0 v) := RB.of rfl rfl rfl rfl rfl h
/-- nI-like: the place of a number that is not below 0 -/
theorem clampI {k : Int32} (h : 0 ≤ k.toInt) : ((k.toNatClampNeg : Nat) : Int) = k.toInt := by
  show ((k.toInt.toNat : Nat) : Int) = k.toInt
  exact Int.toNat_of_nonneg h
theorem le_int {x y : Int32} (h : x ≤ y) : x.toInt ≤ y.toInt := Int32.le_iff_toInt_le.mp h
theorem lt_int {x y : Int32} (h : x < y) : x.toInt < y.toInt := Int32.lt_iff_toInt_lt.mp h
theorem p_in (N : Nat) (σ : RS) (x0 x1 x2 : Int32) : ok (f_X12_in N σ x0 x1 x2) (fun R => R.2 = σ ∧ (R.1 = 0 ∨ (R.1 = 1 ∧ x1 ≤ x0 ∧ x0 ≤ x2))) := by
  unfold f_X12_in f_X12_in_14
  refine ok_ite (fun h => ok_some ⟨rfl, Or.inl rfl⟩) (fun h => ok_ite (fun h2 => ok_some ⟨rfl, Or.inl rfl⟩) (fun h2 => ok_some ⟨rfl, Or.inr ⟨rfl, Int32.not_lt.mp h, Int32.not_lt.mp h2⟩⟩))
theorem p_cut (N : Nat) (σ : RS) (x1 : Int32) (h : RB σ) : ok (f_X12_cut N σ x1) (fun R => RB R.2 ∧ RK σ R.2) := by
  unfold f_X12_cut
  refine ok_bind (p_in N _ _ _ _) (fun p hp => ?_)
  obtain ⟨p1, p2⟩ := p
  obtain ⟨h1, h2⟩ := hp
  simp only at h1 h2
  subst h1
  refine ok_ite (fun c => ok_some ⟨h.i0 _, RK.i0 _ _⟩) (fun c => ?_)
  rcases h2 with h2 | ⟨h2, h3, h4⟩
  · exact absurd h2 c
  · exact ok_some ⟨⟨⟨h3, Int32.le_trans h4 h.1.2⟩, h.2⟩, (RK.i0 _ _).tr (RK.i2 _ _)⟩
theorem p_isUnder_loop (N : Nat) : ∀ (n : Nat) (σ : RS) (b k : Int32), RB σ → k < σ.i 3 → k.toInt < n → ok (f_X12_isUnder_2 N (n + 1) σ b k) (fun R => R.2 = σ)
  | n, σ, b, k, h, hk, hn => by
    show ok (b_X12_isUnder_2 N (f_X12_isUnder_2 N n) σ b k) _
    unfold b_X12_isUnder_2 f_X12_isUnder_21
    refine ok_ite (fun c => ok_ite (fun _ => ok_some rfl) (fun _ => ok_some rfl)) (fun c => ok_ite (fun c2 => ok_ite (fun _ => ok_some rfl) (fun _ => ok_some rfl)) (fun c2 => ?_))
    have hp : 0 < k := by grind
    have h12 : k < 12 := by have := h.2.1.2; grind
    have hib : ib k 12 := ib_of (m := 12) (by decide) (by grind) h12
    refine ok_chk hib ?_
    have e := clampI hib.1
    have hk3 := lt_int hk
    have hpos := lt_int hp
    rw [z_t0] at hpos
    obtain ⟨h1, h2⟩ := h.2.2.1 k.toNatClampNeg (by omega) (by omega)
    cases n with
    | zero => omega
    | succ n =>
      refine p_isUnder_loop N n σ b _ h ?_ ?_
      · rw [Int32.lt_iff_toInt_lt]; omega
      · omega
theorem p_isUnder {N : Nat} (hN : 100 ≤ N) (σ : RS) (a b : Int32) (h : RB σ) (ha : a < σ.i 3) : ok (f_X12_isUnder N σ a b) (fun R => R.2 = σ) := by
  unfold f_X12_isUnder
  obtain ⟨m, rfl⟩ : ∃ m, N = m + 1 := ⟨N - 1, by omega⟩
  refine p_isUnder_loop _ m σ b a h ha ?_
  have h1 := lt_int ha
  have h2 := le_int h.2.1.2
  have e : (12 : Int32).toInt = 12 := by decide
  omega
theorem p_under {N : Nat} (hN : 100 ≤ N) (σ : RS) (x1 x2 : Int32) (h : RB σ) : ok (f_X12_under N σ x1 x2) (fun R => RB R.2 ∧ RK σ R.2) := by
  unfold f_X12_under f_X12_under_33
  refine ok_bind (p_in N _ _ _ _) (fun p hp => ?_)
  obtain ⟨p1, p2⟩ := p
  obtain ⟨h1, h2⟩ := hp
  simp only at h1 h2
  subst h1
  refine ok_ite (fun c => ok_some ⟨h.i0 _, RK.i0 _ _⟩) (fun c => ?_)
  refine ok_bind (p_in N _ _ _ _) (fun p hp => ?_)
  obtain ⟨q1, q2⟩ := p
  obtain ⟨h3, h4⟩ := hp
  simp only at h3 h4
  subst h3
  refine ok_ite (fun c => ok_some ⟨h.i0 _, RK.i0 _ _⟩) (fun c2 => ?_)
  have hx : x1 < (σ.setI 0 0).i 3 := by
    show x1 < σ.i 3
    rcases h2 with h2 | ⟨-, h5, h6⟩
    · exact absurd h2 c
    · have := h.2.1; grind
  refine ok_bind (p_isUnder hN _ _ _ (h.i0 _) hx) (fun p hp => ?_)
  obtain ⟨r1, r2⟩ := p
  simp only at hp
  subst hp
  exact ok_ite (fun _ => ok_some ⟨h.i0 _, RK.i0 _ _⟩) (fun _ => ok_some ⟨h.i0 _, RK.i0 _ _⟩)
theorem p_kind (N : Nat) (σ : RS) (x1 : Int32) (h : RB σ) : ok (f_X12_kind N σ x1) (fun R => RB R.2 ∧ RK σ R.2) := by
  unfold f_X12_kind
  refine ok_bind (p_in N _ _ _ _) (fun p hp => ?_)
  obtain ⟨p1, p2⟩ := p
  obtain ⟨h1, h2⟩ := hp
  simp only at h1 h2
  subst h1
  refine ok_ite (fun c => ok_some ⟨h.i0 _, RK.i0 _ _⟩) (fun c => ok_ite (fun c2 => ok_some ⟨h.i0 _, RK.i0 _ _⟩) (fun c2 => ?_))
  rcases h2 with h2 | ⟨-, h3, h4⟩
  · exact absurd h2 c
  · obtain ⟨hT, ⟨hk1, hk2⟩, hab, hop, hcl⟩ := h
    have c3 : ¬ σ.i 3 = 12 := c2
    have h5 : x1 ≤ σ.i 3 - 1 := h4
    have hk : σ.i 3 < 12 := by grind
    have hib : ib (σ.i 3) 12 := ib_of (m := 12) (by decide) (by grind) hk
    refine ok_chk hib (ok_some ⟨?_, ((RK.i0 _ _).tr (RK.a4 _ _ _)).tr (RK.i3 _ _ (by show σ.i 3 ≤ σ.i 3 + 1; grind))⟩)
    have e1 : (1 : Int32).toInt = 1 := by decide
    have e12 : (12 : Int32).toInt = 12 := by decide
    have hl := lt_int hk
    have ha : (σ.i 3 + 1).toInt = (σ.i 3).toInt + 1 := by rw [toInt_add] <;> rw [e1] <;> omega
    have ec := clampI hib.1
    refine ⟨hT, ⟨?_, ?_⟩, ?_, ?_, ?_⟩
    · show 4 ≤ σ.i 3 + 1; grind
    · show σ.i 3 + 1 ≤ 12; grind
    · intro k h0 hk9
      show 0 ≤ (upd (σ.a 4) (σ.i 3).toNatClampNeg x1 k).toInt ∧ (upd (σ.a 4) (σ.i 3).toNatClampNeg x1 k).toInt < k
      have hk9 : (k : Int) < (σ.i 3 + 1).toInt := hk9
      unfold upd
      by_cases hq : k = (σ.i 3).toNatClampNeg
      · rw [if_pos hq]
        have h6 := le_int h3
        rw [z_t0] at h6
        have h7 := le_int h5
        have es : (σ.i 3 - 1).toInt = (σ.i 3).toInt - 1 := by rw [toInt_sub] <;> rw [e1] <;> omega
        omega
      · rw [if_neg hq]
        exact hab k h0 (by omega)
    · intro r hr
      have := hop r hr
      show 0 ≤ σ.a 6 r ∧ σ.a 6 r ≤ σ.i 3 + 1
      grind
    · intro r hr
      have := hcl r hr
      show 0 ≤ σ.a 7 r ∧ σ.a 7 r ≤ σ.i 3 + 1
      grind
theorem p_resource_71 (N : Nat) (σ : RS) (x1 x3 x4 : Int32) (h : RB σ) (hx : ib x1 8) (h3 : -1 ≤ x3 ∧ x3 ≤ σ.i 3 - 1) (h4 : -1 ≤ x4 ∧ x4 ≤ σ.i 3 - 1) : ok (f_X12_resource_71 N σ x1 x3 x4) (fun R => RB R.2 ∧ RK σ R.2) := by
  unfold f_X12_resource_71
  obtain ⟨hT, ⟨hk1, hk2⟩, hab, hop, hcl⟩ := h
  refine ok_chk hx (ok_some ⟨⟨hT, ⟨hk1, hk2⟩, hab, ?_, ?_⟩, (RK.a6 _ _ _).tr (RK.a7 _ _ _)⟩)
  · intro r hr
    show 0 ≤ upd (σ.a 6) x1.toNatClampNeg (x3 + 1) r ∧ upd (σ.a 6) x1.toNatClampNeg (x3 + 1) r ≤ σ.i 3
    unfold upd
    by_cases hq : r = x1.toNatClampNeg
    · rw [if_pos hq]; grind
    · rw [if_neg hq]; exact hop r hr
  · intro r hr
    show 0 ≤ upd (σ.a 7) x1.toNatClampNeg (x4 + 1) r ∧ upd (σ.a 7) x1.toNatClampNeg (x4 + 1) r ≤ σ.i 3
    unfold upd
    by_cases hq : r = x1.toNatClampNeg
    · rw [if_pos hq]; grind
    · rw [if_neg hq]; exact hcl r hr
theorem p_resource (N : Nat) (σ : RS) (x1 x2 x3 x4 : Int32) (h : RB σ) : ok (f_X12_resource N σ x1 x2 x3 x4) (fun R => RB R.2 ∧ RK σ R.2) := by
  unfold f_X12_resource f_X12_resource_53
  have hz : RB (σ.setI 0 0) ∧ RK σ (σ.setI 0 0) := ⟨h.i0 _, RK.i0 _ _⟩
  refine ok_bind (p_in N _ _ _ _) (fun p hp => ?_)
  obtain ⟨p1, p2⟩ := p
  obtain ⟨h1, h2⟩ := hp
  simp only at h1 h2
  subst h1
  refine ok_ite (fun c => ok_some hz) (fun c1 => ?_)
  refine ok_bind (p_in N _ _ _ _) (fun p hp => ?_)
  obtain ⟨q1, q2⟩ := p
  obtain ⟨h3, h4⟩ := hp
  simp only at h3 h4
  subst h3
  refine ok_ite (fun c => ok_some hz) (fun c2 => ?_)
  refine ok_bind (p_in N _ _ _ _) (fun p hp => ?_)
  obtain ⟨r1, r2⟩ := p
  obtain ⟨h5, h6⟩ := hp
  simp only at h5 h6
  subst h5
  refine ok_ite (fun c => ok_some hz) (fun c3 => ?_)
  refine ok_bind (p_in N _ _ _ _) (fun p hp => ?_)
  obtain ⟨s1, s2⟩ := p
  obtain ⟨h7, h8⟩ := hp
  simp only at h7 h8
  subst h7
  refine ok_ite (fun c => ok_some hz) (fun c4 => ?_)
  rcases h2 with h2 | ⟨-, a1, a2⟩
  · exact absurd h2 c1
  rcases h6 with h6 | ⟨-, b1, b2⟩
  · exact absurd h6 c3
  rcases h8 with h8 | ⟨-, d1, d2⟩
  · exact absurd h8 c4
  have hx : ib x1 8 := ib_of (m := 8) (by decide) a1 (by grind)
  have fin : ∀ v : Int32, ok (f_X12_resource_71 N ((σ.setI 0 0).setA 5 x1.toNatClampNeg v) x1 x3 x4) (fun R => RB R.2 ∧ RK σ R.2) := fun v =>
    ok_imp (p_resource_71 N _ x1 x3 x4 (RB.of rfl rfl rfl rfl rfl h) hx ⟨b1, b2⟩ ⟨d1, d2⟩) (fun R hR => ⟨hR.1, ((RK.i0 _ _).tr (RK.a5 _ _ _)).tr hR.2⟩)
  exact ok_ite (fun _ => ok_chk hx (fin 1)) (fun _ => ok_chk hx (fin 0))
theorem p_asserts (N : Nat) (σ : RS) (x1 : Int32) (h : RB σ) (hx : x1 = 0 ∨ x1 = 1) : ok (f_X12_asserts N σ x1) (fun R => RB R.2 ∧ RK σ R.2) := by
  unfold f_X12_asserts f_X12_asserts_18
  exact ok_ite (fun _ => ok_chk hx (ok_some ⟨RB.of rfl rfl rfl rfl rfl h, (RK.i0 _ _).tr (RK.i8 _ _)⟩)) (fun _ => ok_chk hx (ok_some ⟨RB.of rfl rfl rfl rfl rfl h, (RK.i0 _ _).tr (RK.i8 _ _)⟩))
theorem p_fault (N : Nat) (σ : RS) (h : RB σ) : ok (f_X12_fault N σ) (fun R => RB R.2 ∧ RK σ R.2) := ok_some ⟨h.i0 _, RK.i0 _ _⟩
theorem p_program (N : Nat) (σ : RS) (x1 : Int32) (h : RB σ) : ok (f_X12_program N σ x1) (fun R => RB R.2 ∧ RK σ R.2) := by
  unfold f_X12_program
  have hz : RB (σ.setI 0 0) ∧ RK σ (σ.setI 0 0) := ⟨h.i0 _, RK.i0 _ _⟩
  refine ok_bind (p_in N _ _ _ _) (fun p hp => ?_)
  obtain ⟨p1, p2⟩ := p
  obtain ⟨h1, h2⟩ := hp
  simp only at h1 h2
  subst h1
  exact ok_ite (fun _ => ok_some hz) (fun _ => ok_ite (fun _ => ok_some hz) (fun _ => ok_ite (fun _ => ok_some hz) (fun _ => ok_ite (fun _ => ok_ite (fun _ => ok_some hz) (fun _ => ok_some hz)) (fun _ => ok_ite (fun _ => ok_some hz) (fun _ => ok_some hz)))))
theorem p_feed_loop (N : Nat) (x1 x2 x3 x4 x5 : Int32) : ∀ (n : Nat) (σ : RS) (k : Int32), RB σ → σ.i 2 + 20 ≤ 900 → 0 ≤ k → k ≤ 20 → 20 - k.toInt < n → ok (f_X12_feed_24 N n σ x1 x2 x3 x4 x5 k) (fun R => RB R.2 ∧ RK σ R.2)
  | 0, σ, k, h, ht, h0, h20, hn => by
    have := le_int h20
    have e : (20 : Int32).toInt = 20 := by decide
    omega
  | n+1, σ, k, h, ht, h0, h20, hn => by
    show ok (b_X12_feed_24 N (f_X12_feed_24 N n) σ x1 x2 x3 x4 x5 k) _
    unfold b_X12_feed_24
    have h2 := h.1
    refine ok_ite (fun c => ok_some ⟨?_, RK.i2 _ _⟩) (fun c => ?_)
    · refine ⟨⟨?_, ht⟩, h.2⟩
      show 0 ≤ σ.i 2 + 20
      grind
    · have hb : 0 ≤ σ.i 2 + k ∧ σ.i 2 + k < 900 := by grind
      have hib : ib (σ.i 2 + k) 900 := ib_of (m := 900) (by decide) hb.1 hb.2
      have hk : k < 20 := by grind
      have e1 : (1 : Int32).toInt = 1 := by decide
      have e20 : (20 : Int32).toInt = 20 := by decide
      have hl := lt_int hk
      have h0' := le_int h0
      rw [z_t0] at h0'
      have ha : (k + 1).toInt = k.toInt + 1 := by rw [toInt_add] <;> rw [e1] <;> omega
      have fin : ∀ v : Int32, ok (f_X12_feed_24 N n (σ.setA 1 (σ.i 2 + k).toNatClampNeg v) x1 x2 x3 x4 x5 (k + 1)) (fun R => RB R.2 ∧ RK σ R.2) := fun v =>
        ok_imp (p_feed_loop N x1 x2 x3 x4 x5 n _ (k + 1) (RB.of rfl rfl rfl rfl rfl h) ht (by grind) (by grind) (by omega)) (fun R hR => ⟨hR.1, (RK.a1 _ _ _).tr hR.2⟩)
      exact ok_ite (fun _ => ok_ite (fun _ => ok_ite (fun _ => ok_ite (fun _ => ok_chk hib (fin _)) (fun _ => ok_chk hib (fin _))) (fun _ => ok_chk hib (fin _))) (fun _ => ok_chk hib (fin _))) (fun _ => ok_chk hib (fin _))
theorem p_feed {N : Nat} (hN : 100 ≤ N) (σ : RS) (x1 x2 x3 x4 x5 : Int32) (h : RB σ) : ok (f_X12_feed N σ x1 x2 x3 x4 x5) (fun R => RB R.2 ∧ RK σ R.2) := by
  unfold f_X12_feed
  refine ok_ite (fun c => ?_) (fun c => ok_some ⟨h.i0 _, RK.i0 _ _⟩)
  refine ok_imp (p_feed_loop N x1 x2 x3 x4 x5 N _ 0 (h.i0 0) c (by decide) (by decide) ?_) (fun R hR => ⟨hR.1, (RK.i0 _ _).tr hR.2⟩)
  rw [z_t0]
  omega
