theorem p_caseOf {N : Nat} {s σ : RS} {g : Gh} (hX : RX s σ) (hW : WT s g) {v : Int32} {k0 : Int} {E : Prop} : ∀ (n m : Nat) (other k : Int32), k.toInt < (s.i 24).toInt → (∀ j : Nat, entryIn s j m k.toInt → entryIn s j 500 k0) → (0 ≤ k.toInt → 500 - k.toInt ≤ m) → (other.toInt < 0 ∨ ∃ j : Nat, other.toInt = j ∧ j < 500 ∧ entryIn s j 500 k0) → (E → 0 ≤ other.toInt ∨ ∃ j : Nat, entryIn s j m k.toInt ∧ ¬ gv s 28 j = 0) → 1 ≤ n → (0 ≤ k.toInt → (s.i 24).toInt - k.toInt < n) → ok (f_X12_caseOf_5 N n σ v other k) (fun R => R.2 = σ ∧ ((R.1.toInt < 0 ∧ ¬ E) ∨ ∃ j : Nat, R.1.toInt = j ∧ j < 500 ∧ entryIn s j 500 k0))
  | 0, _, _, _, _, _, _, _, _, h1, _ => by omega
  | n+1, m, other, k, hk, hm, hm5, ho, hE, hn1, hn => by
    show ok (b_X12_caseOf_5 N (f_X12_caseOf_5 N n) σ v other k) _
    unfold b_X12_caseOf_5
    obtain ⟨-, -, -, w4, -, -, w7, -, -, -, -⟩ := id hW
    refine ok_ite (fun c => ok_some ⟨rfl, ?_⟩) (fun c => ?_)
    · have hk0 : k.toInt < 0 := by have := lt_int c; rw [z_t0] at this; exact this
      rcases ho with ho | ho
      · refine Or.inl ⟨ho, fun e => ?_⟩
        rcases hE e with h | ⟨j, h, -⟩
        · have ho : other.toInt < 0 := ho
          omega
        · cases m with
          | zero => exact h
          | succ m => have := h.1; omega
      · exact Or.inr ho
    · have hk0 : 0 ≤ k.toInt := by have := le_int (Int32.not_lt.mp c); rw [z_t0] at this; exact this
      have hn := hn hk0
      have hm5 := hm5 hk0
      have ec := clampI hk0
      obtain ⟨m', rfl⟩ : ∃ m', m = m' + 1 := ⟨m - 1, by omega⟩
      have hself : entryIn s k.toNatClampNeg 500 k0 := hm _ ⟨hk0, Or.inl ec.symm⟩
      have e27 : (σ.a 27 k.toNatClampNeg).toInt = gv s 27 k.toNatClampNeg := gv_of (hX.2.2.2 27 (by decide)) _
      have e28 : (σ.a 28 k.toNatClampNeg).toInt = gv s 28 k.toNatClampNeg := gv_of (hX.2.2.2 28 (by decide)) _
      have hnx := w7 k.toNatClampNeg (by omega)
      have next : ∀ o2 : Int32, (o2.toInt < 0 ∨ ∃ j : Nat, o2.toInt = j ∧ j < 500 ∧ entryIn s j 500 k0) → (E → 0 ≤ o2.toInt ∨ ∃ j : Nat, entryIn s j m' (gv s 27 k.toNatClampNeg) ∧ ¬ gv s 28 j = 0) → ok (f_X12_caseOf_5 N n σ v o2 (σ.a 27 k.toNatClampNeg)) (fun R => R.2 = σ ∧ ((R.1.toInt < 0 ∧ ¬ E) ∨ ∃ j : Nat, R.1.toInt = j ∧ j < 500 ∧ entryIn s j 500 k0)) := by
        intro o2 h2 h3
        refine p_caseOf hX hW n m' o2 _ (by rw [e27]; omega) (fun j hj => hm j ⟨hk0, Or.inr (by rw [e27] at hj; rw [show k.toInt.toNat = k.toNatClampNeg from rfl]; exact hj)⟩) (fun h0 => by rw [e27] at h0 ⊢; omega) h2 (fun e => by rw [e27]; exact h3 e) (by omega) (fun h0 => by rw [e27] at h0 ⊢; omega)
      refine ok_chk ⟨hk0, by omega⟩ (ok_ite (fun c2 => ok_ite (fun c3 => ok_some ⟨rfl, Or.inr ⟨k.toNatClampNeg, ec.symm, by omega, hself⟩⟩) (fun c3 => next other ho (fun e => ?_))) (fun c2 => next k (Or.inr ⟨k.toNatClampNeg, ec.symm, by omega, hself⟩) (fun e => Or.inl hk0)))
      rcases hE e with h | ⟨j, ⟨-, h⟩, h9⟩
      · exact Or.inl h
      · rcases h with h | h
        · exfalso
          have : j = k.toNatClampNeg := by omega
          subst this
          exact h9 (by rw [← e28, c2]; exact z_t0)
        · exact Or.inr ⟨j, h, h9⟩
theorem p_e17 {N : Nat} (hN : 1000 ≤ N) {s σ τ : RS} {g : Gh} {k : Nat} {c : Ctx} {x1 x2 : Int32} (hp : PRE s σ τ g k c x1) (hx2 : x2.toInt = gv s 22 k) (hm : gv s 21 k = 17) : ok (f_X12_ends N τ x1 x2) (fun R => ACT s σ R g k c.v) := by
  obtain ⟨k1, k2, k3, k4, k5, k6, k7, k8, k9⟩ := hp.fact
  have hq := okI_17 k1 hm
  have hp0 := hp
  obtain ⟨hW, hB, hk, hT, hb, hs, hpc, hx1, hone⟩ := hp
  have hs0 := hs
  obtain ⟨s1, s2, s3, s4, s5, s6⟩ := hs
  unfold f_X12_ends
  refine ok_chk hp0.inb (ok_pos (hp0.eq hm (by decide)) ?_)
  have hh1 : 1 ≤ c.h := hq
  refine ok_bind (p_take N τ (by rw [s1]; omega) (by rw [s1]; omega)) (fun p hp9 => ?_)
  obtain ⟨r1, r2, r3, r4, r5⟩ := hp9
  have hop : p.2.a 21 x1.toNatClampNeg = 17 := by rw [r4]; exact hp0.eq hm (by decide)
  have hbp : BS s σ p.2 g := hb.put r1 r3 (fun k _ => by rw [r4])
  have hsp : ST s p.2 g (c.h - 1) c.o c.rs := hs0.put (by rw [r2, s1]; omega) r3 (fun k _ => by rw [r4])
  have e23 : (p.2.a 23 x1.toNatClampNeg).toInt = gv s 23 k := by rw [r4]; exact hp0.g 23 (by decide)
  have fin : ok (f_X12_ends_128 N (RS.setI (RS.setI p.2 113 p.1) 110 2) x1) (fun R => ACT s σ R g k c.v) := by
    unfold f_X12_ends_128
    refine ok_chk hp0.inb ?_
    refine hp0.leave hN (h := 0) (h' := c.h - 1) (hbp.of (((RX.i _ _ _ (by decide)).tr (RX.i _ _ _ (by decide))).tr (RX.i _ _ _ (by decide))) rfl rfl rfl rfl rfl rfl rfl rfl rfl) (hsp.of hsp.1 rfl rfl rfl (fun _ _ _ => rfl)) (Or.inr (Or.inl rfl))
  exact ok_pos hop fin
theorem p_e18 {N : Nat} (hN : 1000 ≤ N) {s σ τ : RS} {g : Gh} {k : Nat} {c : Ctx} {x1 x2 : Int32} (hp : PRE s σ τ g k c x1) (hx2 : x2.toInt = gv s 22 k) (hm : gv s 21 k = 18) : ok (f_X12_ends N τ x1 x2) (fun R => ACT s σ R g k c.v) := by
  obtain ⟨k1, k2, k3, k4, k5, k6, k7, k8, k9⟩ := hp.fact
  have hq := okI_18 k1 hm
  have hp0 := hp
  obtain ⟨hW, hB, hk, hT, hb, hs, hpc, hx1, hone⟩ := hp
  have hs0 := hs
  obtain ⟨s1, s2, s3, s4, s5, s6⟩ := hs
  unfold f_X12_ends
  refine ok_chk hp0.inb (ok_neg (hp0.ne hm (z := 17) (by decide) (by decide)) (ok_pos (hp0.eq hm (by decide)) ?_))
  have hh1 : 1 ≤ c.h := hq.1
  refine ok_bind (p_take N τ (by rw [s1]; omega) (by rw [s1]; omega)) (fun p hp9 => ?_)
  obtain ⟨r1, r2, r3, r4, r5⟩ := hp9
  have hop : p.2.a 21 x1.toNatClampNeg = 18 := by rw [r4]; exact hp0.eq hm (by decide)
  have hbp : BS s σ p.2 g := hb.put r1 r3 (fun k _ => by rw [r4])
  have hsp : ST s p.2 g (c.h - 1) c.o c.rs := hs0.put (by rw [r2, s1]; omega) r3 (fun k _ => by rw [r4])
  have e23 : (p.2.a 23 x1.toNatClampNeg).toInt = gv s 23 k := by rw [r4]; exact hp0.g 23 (by decide)
  have fin : ok (f_X12_ends_128 N (RS.setI (RS.setI p.2 113 p.1) 110 4) x1) (fun R => ACT s σ R g k c.v) := by
    unfold f_X12_ends_128
    refine ok_chk hp0.inb ?_
    refine hp0.leave hN (h := 0) (h' := c.h - 1) (hbp.of (((RX.i _ _ _ (by decide)).tr (RX.i _ _ _ (by decide))).tr (RX.i _ _ _ (by decide))) rfl rfl rfl rfl rfl rfl rfl rfl rfl) (hsp.of hsp.1 rfl rfl rfl (fun _ _ _ => rfl)) (Or.inr (Or.inr (Or.inr ⟨rfl, by show YOK (p.2.a 23 x1.toNatClampNeg).toInt c.rs; rw [e23]; exact hq.2⟩)))
  exact ok_neg (by rw [hop]; decide) fin
theorem p_e19 {N : Nat} (hN : 1000 ≤ N) {s σ τ : RS} {g : Gh} {k : Nat} {c : Ctx} {x1 x2 : Int32} (hp : PRE s σ τ g k c x1) (hx2 : x2.toInt = gv s 22 k) (hm : gv s 21 k = 19) : ok (f_X12_ends N τ x1 x2) (fun R => ACT s σ R g k c.v) := by
  obtain ⟨k1, k2, k3, k4, k5, k6, k7, k8, k9⟩ := hp.fact
  have hq := okI_19 k1 hm
  have hp0 := hp
  obtain ⟨hW, hB, hk, hT, hb, hs, hpc, hx1, hone⟩ := hp
  have hs0 := hs
  obtain ⟨s1, s2, s3, s4, s5, s6⟩ := hs
  unfold f_X12_ends
  refine ok_chk hp0.inb (ok_neg (hp0.ne hm (z := 17) (by decide) (by decide)) (ok_neg (hp0.ne hm (z := 18) (by decide) (by decide)) (ok_pos (hp0.eq hm (by decide)) ?_)))
  refine ok_bind (p_take N τ (by rw [s1]; have := hq.1; omega) (by rw [s1]; omega)) (fun p hp9 => ?_)
  obtain ⟨r1, r2, r3, r4, r5⟩ := hp9
  have hbp : BS s σ p.2 g := hb.put r1 r3 (fun k _ => by rw [r4])
  have hsp : ST s p.2 g (c.h - 1) c.o c.rs := hs0.put (by rw [r2, s1]; have := hq.1; omega) r3 (fun k _ => by rw [r4])
  exact hp0.raise hN hbp hsp (by rw [hx2]; exact hq.2)
theorem p_e20 {N : Nat} (hN : 1000 ≤ N) {s σ τ : RS} {g : Gh} {k : Nat} {c : Ctx} {x1 x2 : Int32} (hp : PRE s σ τ g k c x1) (hx2 : x2.toInt = gv s 22 k) (hm : gv s 21 k = 20) : ok (f_X12_ends N τ x1 x2) (fun R => ACT s σ R g k c.v) := by
  obtain ⟨k1, k2, k3, k4, k5, k6, k7, k8, k9⟩ := hp.fact
  have hq := okI_20 k1 hm
  have hp0 := hp
  obtain ⟨hW, hB, hk, hT, hb, hs, hpc, hx1, hone⟩ := hp
  have hs0 := hs
  obtain ⟨s1, s2, s3, s4, s5, s6⟩ := hs
  unfold f_X12_ends
  refine ok_chk hp0.inb (ok_neg (hp0.ne hm (z := 17) (by decide) (by decide)) (ok_neg (hp0.ne hm (z := 18) (by decide) (by decide)) (ok_neg (hp0.ne hm (z := 19) (by decide) (by decide)) (ok_pos (hp0.eq hm (by decide)) ?_))))
  exact hp0.raise hN hb hs0 (by rw [hx2]; exact hq)
theorem p_e21 {N : Nat} (hN : 1000 ≤ N) {s σ τ : RS} {g : Gh} {k : Nat} {c : Ctx} {x1 x2 : Int32} (hp : PRE s σ τ g k c x1) (hx2 : x2.toInt = gv s 22 k) (hm : gv s 21 k = 21) : ok (f_X12_ends N τ x1 x2) (fun R => ACT s σ R g k c.v) := by
  obtain ⟨k1, k2, k3, k4, k5, k6, k7, k8, k9⟩ := hp.fact
  have hq := okI_21 k1 hm
  have hp0 := hp
  obtain ⟨hW, hB, hk, hT, hb, hs, hpc, hx1, hone⟩ := hp
  have hs0 := hs
  obtain ⟨s1, s2, s3, s4, s5, s6⟩ := hs
  unfold f_X12_ends
  refine ok_chk hp0.inb (ok_neg (hp0.ne hm (z := 17) (by decide) (by decide)) (ok_neg (hp0.ne hm (z := 18) (by decide) (by decide)) (ok_neg (hp0.ne hm (z := 19) (by decide) (by decide)) (ok_neg (hp0.ne hm (z := 20) (by decide) (by decide)) (ok_pos (hp0.eq hm (by decide)) ?_)))))
  have hsl : 0 ≤ x2.toInt ∧ x2.toInt < 460 := by rw [hx2]; exact hq.1
  have ex := clampI hsl.1
  refine ok_chk hsl ?_
  have hv := hb.2.1.2.1 x2.toNatClampNeg (by omega) (by
    have : x2.toNatClampNeg = (gv s 22 k).toNat := by
      show x2.toInt.toNat = _
      rw [hx2]
    rw [this]; exact hq.2)
  refine hp0.leave hN (h := 0) (h' := c.h) (hb.of ((RX.i _ _ _ (by decide)).tr (RX.i _ _ _ (by decide))) rfl rfl rfl rfl rfl rfl rfl rfl rfl) (hs0.of hs0.1 rfl rfl rfl (fun _ _ _ => rfl)) (Or.inr (Or.inr (Or.inl ⟨rfl, hv⟩)))
theorem p_e22 {N : Nat} (hN : 1000 ≤ N) {s σ τ : RS} {g : Gh} {k : Nat} {c : Ctx} {x1 x2 : Int32} (hp : PRE s σ τ g k c x1) (hx2 : x2.toInt = gv s 22 k) (hm : gv s 21 k = 22) : ok (f_X12_ends N τ x1 x2) (fun R => ACT s σ R g k c.v) := by
  obtain ⟨k1, k2, k3, k4, k5, k6, k7, k8, k9⟩ := hp.fact
  have hq := okI_22 k1 hm
  have hp0 := hp
  obtain ⟨hW, hB, hk, hT, hb, hs, hpc, hx1, hone⟩ := hp
  have hs0 := hs
  obtain ⟨s1, s2, s3, s4, s5, s6⟩ := hs
  unfold f_X12_ends
  refine ok_chk hp0.inb (ok_neg (hp0.ne hm (z := 17) (by decide) (by decide)) (ok_neg (hp0.ne hm (z := 18) (by decide) (by decide)) (ok_neg (hp0.ne hm (z := 19) (by decide) (by decide)) (ok_neg (hp0.ne hm (z := 20) (by decide) (by decide)) (ok_neg (hp0.ne hm (z := 21) (by decide) (by decide)) (ok_pos (hp0.eq hm (by decide)) ?_))))))
  unfold f_X12_ends_242
  refine ok_ite (fun _ => ok_some ?_) (fun _ => ok_some ?_)
  · exact act_FL hB (hb.of (RX.i _ _ _ (by decide)) rfl rfl rfl rfl rfl rfl rfl rfl rfl) hq.1 (show x2.toInt = _ from hx2) (hs0.of hs0.1 rfl rfl rfl (fun _ _ _ => rfl))
  · exact act_FL hB (hb.of (RX.i _ _ _ (by decide)) rfl rfl rfl rfl rfl rfl rfl rfl rfl) hq.2 hpc (hs0.of hs0.1 rfl rfl rfl (fun _ _ _ => rfl))
theorem p_e26 {N : Nat} (hN : 1000 ≤ N) {s σ τ : RS} {g : Gh} {k : Nat} {c : Ctx} {x1 x2 : Int32} (hp : PRE s σ τ g k c x1) (hx2 : x2.toInt = gv s 22 k) (hm : gv s 21 k = 26) : ok (f_X12_ends N τ x1 x2) (fun R => ACT s σ R g k c.v) := by
  obtain ⟨k1, k2, k3, k4, k5, k6, k7, k8, k9⟩ := hp.fact
  have hq := okI_26 k1 hm
  have hp0 := hp
  obtain ⟨hW, hB, hk, hT, hb, hs, hpc, hx1, hone⟩ := hp
  have hs0 := hs
  obtain ⟨s1, s2, s3, s4, s5, s6⟩ := hs
  unfold f_X12_ends
  refine ok_chk hp0.inb (ok_neg (hp0.ne hm (z := 17) (by decide) (by decide)) (ok_neg (hp0.ne hm (z := 18) (by decide) (by decide)) (ok_neg (hp0.ne hm (z := 19) (by decide) (by decide)) (ok_neg (hp0.ne hm (z := 20) (by decide) (by decide)) (ok_neg (hp0.ne hm (z := 21) (by decide) (by decide)) (ok_neg (hp0.ne hm (z := 22) (by decide) (by decide)) (ok_neg (hp0.ne hm (z := 23) (by decide) (by decide)) (ok_neg (hp0.ne hm (z := 24) (by decide) (by decide)) (ok_neg (hp0.ne hm (z := 25) (by decide) (by decide)) (ok_pos (hp0.eq hm (by decide)) ?_))))))))))
  obtain ⟨q1, q2, q3⟩ := hq
  refine ok_bind (p_row N τ 3 x2 hb.2.1.2.2.1.1 hb.2.1.2.2.1.2) (fun p hp9 => ?_)
  obtain ⟨r1, r2, r3, r4, r5⟩ := hp9
  have hbp := hb.row r1 r2 r3 r4 r5
  have hsp := hs0.row r4 r5
  refine ok_chk ⟨by omega, by omega⟩ ?_
  generalize hR0 : RS.setA p 91 x2.toNatClampNeg (p.a 91 x2.toNatClampNeg + 1) = p'
  have hb' : BS s σ p' g := by rw [← hR0]; exact hbp.of (RX.a _ _ _ _ (by decide)) rfl rfl rfl rfl rfl rfl rfl rfl rfl
  have hs' : ST s p' g c.h c.o c.rs := by
    rw [← hR0]
    exact hsp.of hsp.1 rfl rfl rfl (fun k9 h1 _ => if_neg (by omega))
  have hpc' : (p'.i 92).toInt = (k : Int) + 1 := by rw [← hR0]; show (p.i 92).toInt = _; rw [r4 92 (by decide)]; exact hpc
  have s5' := hs'.2.2.2.2.1
  refine ok_bind (p_record N p' 1 x2 0 0 (by omega) (by omega)) (fun z hz => ok_some ?_)
  obtain ⟨t1, t2, t3, t4, a0, a1, a2, a3, a4⟩ := hz
  refine act_FL hB (hb'.rec t1 t3 t4) q3 (by rw [t3 92 (by decide)]; exact hpc') ?_
  refine hs'.rec (σ := σ) (r := (1, (gv s 22 k).toNat, 0, c.h, c.o, c.v, false, false)) ?_ (Or.inl rfl) rfl (x1 := 1) (x2 := x2) (x3 := 0) (x4 := 0) (show (1 : Int32).toInt = ((1 : Nat) : Int) by decide) ?_ (fun q => absurd q (show ¬ (1 : Nat) = 4 by decide)) (fun q => absurd q (show ¬ (1 : Nat) = 4 by decide)) t2 t3 t4 a0 a1 a2 a3 a4
  · unfold wv
    rw [if_neg (show ¬ Rec.k (1, (gv s 22 k).toNat, 0, c.h, c.o, c.v, false, false) = 2 by show ¬ (1 : Nat) = 2; decide), Nat.zero_add]
    cases c.rs <;> rfl
  · rw [hx2]
    show _ = (((gv s 22 k).toNat : Nat) : Int)
    omega
theorem p_e27 {N : Nat} (hN : 1000 ≤ N) {s σ τ : RS} {g : Gh} {k : Nat} {c : Ctx} {x1 x2 : Int32} (hp : PRE s σ τ g k c x1) (hx2 : x2.toInt = gv s 22 k) (hm : gv s 21 k = 27) : ok (f_X12_ends N τ x1 x2) (fun R => ACT s σ R g k c.v) := by
  obtain ⟨k1, k2, k3, k4, k5, k6, k7, k8, k9⟩ := hp.fact
  have hq := okI_27 k1 hm
  have hp0 := hp
  obtain ⟨hW, hB, hk, hT, hb, hs, hpc, hx1, hone⟩ := hp
  have hs0 := hs
  obtain ⟨s1, s2, s3, s4, s5, s6⟩ := hs
  unfold f_X12_ends
  refine ok_chk hp0.inb (ok_neg (hp0.ne hm (z := 17) (by decide) (by decide)) (ok_neg (hp0.ne hm (z := 18) (by decide) (by decide)) (ok_neg (hp0.ne hm (z := 19) (by decide) (by decide)) (ok_neg (hp0.ne hm (z := 20) (by decide) (by decide)) (ok_neg (hp0.ne hm (z := 21) (by decide) (by decide)) (ok_neg (hp0.ne hm (z := 22) (by decide) (by decide)) (ok_neg (hp0.ne hm (z := 23) (by decide) (by decide)) (ok_neg (hp0.ne hm (z := 24) (by decide) (by decide)) (ok_neg (hp0.ne hm (z := 25) (by decide) (by decide)) (ok_neg (hp0.ne hm (z := 26) (by decide) (by decide)) (ok_pos (hp0.eq hm (by decide)) ?_)))))))))))
  obtain ⟨r, rs, q5, q6, q7⟩ := hq
  rw [q5] at s5 s6 k7 s2 k2
  have s5 : (τ.i 99).toInt = (rs.length : Int) + 1 := s5
  have k7 : rs.length + 1 ≤ 250 := k7
  have hx := sub1 s5 (by omega)
  have h8 : r.a < 8 := by
    rcases k2.1.2.2 with q | q | q | q
    · exact q.2
    · rw [q6] at q; exact absurd q (by decide)
    · rw [q6] at q; exact absurd q.1 (by decide)
    · rw [q6] at q; exact absurd q.1 (by decide)
  have hwv : wv (r :: rs) = wv rs := by
    unfold wv; rw [if_neg (by rw [q6]; decide), Nat.zero_add]; cases rs <;> rfl
  refine ok_chk ⟨by omega, by omega⟩ ?_
  have hb1 : BS s σ (τ.setI 99 (τ.i 99 - 1)) g := hb.of (RX.i _ _ _ (by decide)) rfl rfl rfl rfl rfl rfl rfl rfl rfl
  refine ok_bind (p_row N (τ.setI 99 (τ.i 99 - 1)) 4 _ hb.2.1.2.2.1.1 hb.2.1.2.2.1.2) (fun p hp9 => ?_)
  obtain ⟨r1, r2, r3, r4, r5⟩ := hp9
  have hbp := hb1.row r1 r2 r3 r4 r5
  have h99 : (p.i 99).toInt = rs.length := by rw [r4 99 (by decide)]; exact hx
  have en : (p.i 99).toNatClampNeg = rs.length := by
    show (p.i 99).toInt.toNat = rs.length
    rw [h99]; exact Int.toNat_natCast _
  have ha : (p.a 101 (p.i 99).toNatClampNeg).toInt = r.a := by
    rw [en, r5 101 (by decide) (by decide)]; exact s6.1.2.2.1 q6
  refine ok_chk ⟨by omega, by omega⟩ (ok_chk ⟨by rw [ha]; omega, by rw [ha]; omega⟩ (ok_some ?_))
  refine act_FL hB (hbp.of (RX.a _ _ _ _ (by decide)) rfl rfl rfl rfl rfl rfl rfl rfl rfl) q7 (by show (p.i 92).toInt = _; rw [r4 92 (by decide)]; exact hpc) ⟨by show (p.i 93).toInt = _; rw [r4 93 (by decide)]; exact s1, by show (p.i 97).toInt = _; rw [r4 97 (by decide), ← hwv]; exact s2, by show 0 ≤ (p.i 95).toInt; rw [r4 95 (by decide)]; exact s3, by show (p.i 95).toInt ≤ _; rw [r4 95 (by decide)]; exact s4, h99, RM.of (σ := τ) (fun i _ k9 d1 d2 => ?_) s6.2⟩
  have : gv (p.setA 91 (p.a 101 (p.i 99).toNatClampNeg).toNatClampNeg (p.a 91 (p.a 101 (p.i 99).toNatClampNeg).toNatClampNeg - 1)) k9 i = gv p k9 i := by
    unfold gv; simp only [ra_setA]; rw [if_neg (by omega)]
  rw [this]; exact gv_of (r5 k9 (by omega) (by omega)) i
theorem p_e30 {N : Nat} (hN : 1000 ≤ N) {s σ τ : RS} {g : Gh} {k : Nat} {c : Ctx} {x1 x2 : Int32} (hp : PRE s σ τ g k c x1) (hx2 : x2.toInt = gv s 22 k) (hm : gv s 21 k = 30) : ok (f_X12_ends N τ x1 x2) (fun R => ACT s σ R g k c.v) := by
  obtain ⟨k1, k2, k3, k4, k5, k6, k7, k8, k9⟩ := hp.fact
  have hq := okI_30 k1 hm
  have hp0 := hp
  obtain ⟨hW, hB, hk, hT, hb, hs, hpc, hx1, hone⟩ := hp
  have hs0 := hs
  obtain ⟨s1, s2, s3, s4, s5, s6⟩ := hs
  unfold f_X12_ends
  refine ok_chk hp0.inb (ok_neg (hp0.ne hm (z := 17) (by decide) (by decide)) (ok_neg (hp0.ne hm (z := 18) (by decide) (by decide)) (ok_neg (hp0.ne hm (z := 19) (by decide) (by decide)) (ok_neg (hp0.ne hm (z := 20) (by decide) (by decide)) (ok_neg (hp0.ne hm (z := 21) (by decide) (by decide)) (ok_neg (hp0.ne hm (z := 22) (by decide) (by decide)) (ok_neg (hp0.ne hm (z := 23) (by decide) (by decide)) (ok_neg (hp0.ne hm (z := 24) (by decide) (by decide)) (ok_neg (hp0.ne hm (z := 25) (by decide) (by decide)) (ok_neg (hp0.ne hm (z := 26) (by decide) (by decide)) (ok_neg (hp0.ne hm (z := 27) (by decide) (by decide)) (ok_neg (hp0.ne hm (z := 28) (by decide) (by decide)) (ok_neg (hp0.ne hm (z := 29) (by decide) (by decide)) (ok_pos (hp0.eq hm (by decide)) ?_))))))))))))))
  obtain ⟨r, rs, q5, q6, q7⟩ := hq
  rw [q5] at s5 s6 k7 s2 k2 k5
  have s5 : (τ.i 99).toInt = (rs.length : Int) + 1 := s5
  have k7 : rs.length + 1 ≤ 250 := k7
  have hx := sub1 s5 (by omega)
  have en : (τ.i 99 - 1).toNatClampNeg = rs.length := by
    show (τ.i 99 - 1).toInt.toNat = rs.length
    rw [hx]; exact Int.toNat_natCast _
  have o3 : (r.a : Int) < cdI s ∧ FL s g c.v ((k : Int) + 1) (gv s 23 r.a) (r.h + 1) r.o rs := by
    rcases k2.1.2.2 with z | z | z | z
    · rw [q6] at z; exact absurd z.1 (by decide)
    · rw [q6] at z; exact absurd z (by decide)
    · exact z.2
    · rw [q6] at z; exact absurd z.1 (by decide)
  have hcd := hW.1
  have ha : (τ.a 101 (τ.i 99 - 1).toNatClampNeg).toInt = r.a := by rw [en]; exact s6.1.2.2.2.2.1 q6
  have han : (τ.a 101 (τ.i 99 - 1).toNatClampNeg).toNatClampNeg = r.a := by
    show (τ.a 101 (τ.i 99 - 1).toNatClampNeg).toInt.toNat = r.a
    rw [ha]; exact Int.toNat_natCast _
  have hwv : wv (r :: rs) = wv rs := by
    unfold wv; rw [if_neg (by rw [q6]; decide), Nat.zero_add]; cases rs <;> rfl
  refine ok_chk ⟨by omega, by omega⟩ (ok_chk ⟨by rw [ha]; omega, by rw [ha]; omega⟩ (ok_some ?_))
  rw [han]
  have e23 : (τ.a 23 r.a).toInt = gv s 23 r.a := gv_of (hb.1.2.2.2 23 (by decide)) _
  refine act_FL (o := r.o) hB (hb.of ((RX.i _ _ _ (by decide)).tr (RX.i _ _ _ (by decide))) rfl rfl rfl rfl rfl rfl rfl rfl rfl) o3.2 e23 ⟨by show (τ.i 93).toInt = _; rw [s1, q7], by show (τ.i 97).toInt = _; rw [← hwv]; exact s2, s3, ?_, hx, RM.of (σ := τ) (fun _ _ _ _ _ => rfl) s6.2⟩
  show (τ.i 95).toInt ≤ _
  rcases k5.1 with z | z
  · rw [q6] at z; exact absurd z.1 (by decide)
  · omega
theorem p_e36 {N : Nat} (hN : 1000 ≤ N) {s σ τ : RS} {g : Gh} {k : Nat} {c : Ctx} {x1 x2 : Int32} (hp : PRE s σ τ g k c x1) (hx2 : x2.toInt = gv s 22 k) (hm : gv s 21 k = 36) : ok (f_X12_ends N τ x1 x2) (fun R => ACT s σ R g k c.v) := by
  obtain ⟨k1, k2, k3, k4, k5, k6, k7, k8, k9⟩ := hp.fact
  have hq := okI_36 k1 hm
  have hp0 := hp
  obtain ⟨hW, hB, hk, hT, hb, hs, hpc, hx1, hone⟩ := hp
  have hs0 := hs
  obtain ⟨s1, s2, s3, s4, s5, s6⟩ := hs
  unfold f_X12_ends
  refine ok_chk hp0.inb (ok_neg (hp0.ne hm (z := 17) (by decide) (by decide)) (ok_neg (hp0.ne hm (z := 18) (by decide) (by decide)) (ok_neg (hp0.ne hm (z := 19) (by decide) (by decide)) (ok_neg (hp0.ne hm (z := 20) (by decide) (by decide)) (ok_neg (hp0.ne hm (z := 21) (by decide) (by decide)) (ok_neg (hp0.ne hm (z := 22) (by decide) (by decide)) (ok_neg (hp0.ne hm (z := 23) (by decide) (by decide)) (ok_neg (hp0.ne hm (z := 24) (by decide) (by decide)) (ok_neg (hp0.ne hm (z := 25) (by decide) (by decide)) (ok_neg (hp0.ne hm (z := 26) (by decide) (by decide)) (ok_neg (hp0.ne hm (z := 27) (by decide) (by decide)) (ok_neg (hp0.ne hm (z := 28) (by decide) (by decide)) (ok_neg (hp0.ne hm (z := 29) (by decide) (by decide)) (ok_neg (hp0.ne hm (z := 30) (by decide) (by decide)) (ok_neg (hp0.ne hm (z := 31) (by decide) (by decide)) (ok_neg (hp0.ne hm (z := 32) (by decide) (by decide)) (ok_neg (hp0.ne hm (z := 33) (by decide) (by decide)) (ok_neg (hp0.ne hm (z := 34) (by decide) (by decide)) (ok_neg (hp0.ne hm (z := 35) (by decide) (by decide)) (ok_pos (hp0.eq hm (by decide)) ?_))))))))))))))))))))
  obtain ⟨q1, q2⟩ := hq
  have e23 : (τ.a 23 x1.toNatClampNeg).toInt = gv s 23 k := hp0.g 23 (by decide)
  refine hp0.leave hN (h := c.h) (h' := c.h) (hb.of (((RX.i _ _ _ (by decide)).tr (RX.i _ _ _ (by decide))).tr (RX.i _ _ _ (by decide))) rfl rfl rfl rfl rfl rfl rfl rfl rfl) (hs0.of hs0.1 rfl rfl rfl (fun _ _ _ => rfl)) (Or.inl ⟨rfl, by show 0 ≤ (τ.a 23 x1.toNatClampNeg).toInt; rw [e23]; exact q1, s1, ?_⟩)
  show JMP s g c.v ((k : Int) + 1) x2.toInt (τ.a 23 x1.toNatClampNeg).toInt.toNat c.h c.o c.rs
  rw [hx2, e23]
  exact q2
theorem p_e28 {N : Nat} (hN : 1000 ≤ N) {s σ τ : RS} {g : Gh} {k : Nat} {c : Ctx} {x1 x2 : Int32} (hp : PRE s σ τ g k c x1) (hx2 : x2.toInt = gv s 22 k) (hm : gv s 21 k = 28) : ok (f_X12_ends N τ x1 x2) (fun R => ACT s σ R g k c.v) := by
  obtain ⟨k1, k2, k3, k4, k5, k6, k7, k8, k9⟩ := hp.fact
  have hq := okI_28 k1 hm
  have hp0 := hp
  obtain ⟨hW, hB, hk, hT, hb, hs, hpc, hx1, hone⟩ := hp
  have hs0 := hs
  obtain ⟨s1, s2, s3, s4, s5, s6⟩ := hs
  unfold f_X12_ends
  refine ok_chk hp0.inb (ok_neg (hp0.ne hm (z := 17) (by decide) (by decide)) (ok_neg (hp0.ne hm (z := 18) (by decide) (by decide)) (ok_neg (hp0.ne hm (z := 19) (by decide) (by decide)) (ok_neg (hp0.ne hm (z := 20) (by decide) (by decide)) (ok_neg (hp0.ne hm (z := 21) (by decide) (by decide)) (ok_neg (hp0.ne hm (z := 22) (by decide) (by decide)) (ok_neg (hp0.ne hm (z := 23) (by decide) (by decide)) (ok_neg (hp0.ne hm (z := 24) (by decide) (by decide)) (ok_neg (hp0.ne hm (z := 25) (by decide) (by decide)) (ok_neg (hp0.ne hm (z := 26) (by decide) (by decide)) (ok_neg (hp0.ne hm (z := 27) (by decide) (by decide)) (ok_pos (hp0.eq hm (by decide)) ?_))))))))))))
  obtain ⟨q1, q2, q3, q4⟩ := hq
  refine ok_bind (p_take N τ (by rw [s1]; omega) (by rw [s1]; omega)) (fun p hp9 => ?_)
  obtain ⟨r1, r2, r3, r4, r5⟩ := hp9
  have hbp : BS s σ p.2 g := hb.put r1 r3 (fun k _ => by rw [r4])
  have hsp : ST s p.2 g (c.h - 1) c.o c.rs := hs0.put (by rw [r2, s1]; omega) r3 (fun k _ => by rw [r4])
  have w4 := hW.2.2.2.1
  unfold f_X12_caseOf
  refine ok_bind (p_caseOf (E := ∃ j : Nat, entryIn s j 500 (gv s 22 k) ∧ ¬ gv s 28 j = 0) (k0 := gv s 22 k) hbp.1 hW N 500 (-1) x2 (by rw [hx2]; exact q2) (fun j hj => by rw [hx2] at hj; exact hj) (fun h0 => by omega) (Or.inl (by decide)) (fun e => Or.inr (by rw [hx2]; exact e)) (by omega) (fun h0 => by rw [hx2] at h0 ⊢; omega)) (fun z hz => ?_)
  obtain ⟨z1, z2⟩ := z
  obtain ⟨hz1, hz2⟩ := hz
  simp only at hz1
  subst hz1
  unfold f_X12_ends_351
  have e92 : (p.2.i 92).toInt = (k : Int) + 1 := by rw [r3 92 (by decide)]; exact hpc
  refine ok_ite (fun c1 => ?_) (fun c1 => ok_some ?_)
  · have c1 := le_int c1
    rw [z_t0] at c1
    rcases hz2 with ⟨h, -⟩ | ⟨j, h1, h2, h3⟩
    · have h : z1.toInt < 0 := h
      have c1 : 0 ≤ z1.toInt := c1
      omega
    · have h1 : z1.toInt = j := h1
      have en : z1.toNatClampNeg = j := by
        show z1.toInt.toNat = j
        rw [h1]; exact Int.toNat_natCast _
      refine ok_chk ⟨by omega, by omega⟩ (ok_some ?_)
      have e26 : (p.2.a 26 z1.toNatClampNeg).toInt = gv s 26 j := by rw [en]; exact gv_of (hbp.1.2.2.2 26 (by decide)) _
      exact act_FL hB (hbp.of (RX.i _ _ _ (by decide)) rfl rfl rfl rfl rfl rfl rfl rfl rfl) (q3 j h3) e26 (hsp.of hsp.1 rfl rfl rfl (fun _ _ _ => rfl))
  · have e23 : (p.2.a 23 x1.toNatClampNeg).toInt = gv s 23 k := by rw [r4]; exact hp0.g 23 (by decide)
    have nE : ¬ (∃ j : Nat, entryIn s j 500 (gv s 22 k) ∧ ¬ gv s 28 j = 0) := by
      rcases hz2 with ⟨-, h⟩ | ⟨j, h1, h2, h3⟩
      · exact h
      · have h1 : z1.toInt = j := h1
        exact absurd (Int32.le_iff_toInt_le.mpr (by rw [z_t0]; show (0 : Int) ≤ z1.toInt; omega)) c1
    exact act_FL hB (hbp.of (RX.i _ _ _ (by decide)) rfl rfl rfl rfl rfl rfl rfl rfl rfl) (q4 nE) e23 (hsp.of hsp.1 rfl rfl rfl (fun _ _ _ => rfl))
theorem p_e29 {N : Nat} (hN : 1000 ≤ N) {s σ τ : RS} {g : Gh} {k : Nat} {c : Ctx} {x1 x2 : Int32} (hp : PRE s σ τ g k c x1) (hx2 : x2.toInt = gv s 22 k) (hm : gv s 21 k = 29) : ok (f_X12_ends N τ x1 x2) (fun R => ACT s σ R g k c.v) := by
  obtain ⟨k1, k2, k3, k4, k5, k6, k7, k8, k9⟩ := hp.fact
  have hq := okI_29 k1 hm
  have hp0 := hp
  obtain ⟨hW, hB, hk, hT, hb, hs, hpc, hx1, hone⟩ := hp
  have hs0 := hs
  obtain ⟨s1, s2, s3, s4, s5, s6⟩ := hs
  unfold f_X12_ends
  refine ok_chk hp0.inb (ok_neg (hp0.ne hm (z := 17) (by decide) (by decide)) (ok_neg (hp0.ne hm (z := 18) (by decide) (by decide)) (ok_neg (hp0.ne hm (z := 19) (by decide) (by decide)) (ok_neg (hp0.ne hm (z := 20) (by decide) (by decide)) (ok_neg (hp0.ne hm (z := 21) (by decide) (by decide)) (ok_neg (hp0.ne hm (z := 22) (by decide) (by decide)) (ok_neg (hp0.ne hm (z := 23) (by decide) (by decide)) (ok_neg (hp0.ne hm (z := 24) (by decide) (by decide)) (ok_neg (hp0.ne hm (z := 25) (by decide) (by decide)) (ok_neg (hp0.ne hm (z := 26) (by decide) (by decide)) (ok_neg (hp0.ne hm (z := 27) (by decide) (by decide)) (ok_neg (hp0.ne hm (z := 28) (by decide) (by decide)) (ok_pos (hp0.eq hm (by decide)) ?_)))))))))))))
  obtain ⟨q1, q2, q3, q4⟩ := hq
  refine ok_bind (p_take N τ (by rw [s1]; omega) (by rw [s1]; omega)) (fun p hp9 => ?_)
  obtain ⟨r1, r2, r3, r4, r5⟩ := hp9
  have hbp : BS s σ p.2 g := hb.put r1 r3 (fun k _ => by rw [r4])
  have hsp : ST s p.2 g (c.h - 1) c.o c.rs := hs0.put (by rw [r2, s1]; omega) r3 (fun k _ => by rw [r4])
  have w4 := hW.2.2.2.1
  unfold f_X12_caseOf
  refine ok_bind (p_caseOf (E := True) (k0 := gv s 22 k) hbp.1 hW N 500 (-1) x2 (by rw [hx2]; exact q2) (fun j hj => by rw [hx2] at hj; exact hj) (fun h0 => by omega) (Or.inl (by decide)) (fun _ => Or.inr (by rw [hx2]; exact q4)) (by omega) (fun h0 => by rw [hx2] at h0 ⊢; omega)) (fun z hz => ?_)
  obtain ⟨z1, z2⟩ := z
  obtain ⟨hz1, hz2⟩ := hz
  simp only at hz1
  subst hz1
  rcases hz2 with ⟨-, h⟩ | ⟨j, h1, h2, h3⟩
  · exact absurd trivial h
  · have h1 : z1.toInt = j := h1
    have en : z1.toNatClampNeg = j := by
      show z1.toInt.toNat = j
      rw [h1]; exact Int.toNat_natCast _
    have s5' := hsp.2.2.2.2.1
    refine ok_bind (p_record N p.2 3 x1 0 0 (by omega) (by omega)) (fun y hy => ?_)
    obtain ⟨t1, t2, t3, t4, a0, a1, a2, a3, a4⟩ := hy
    refine ok_chk ⟨by omega, by omega⟩ (ok_some ?_)
    have hby := hbp.rec t1 t3 t4
    have e26 : (y.2.a 26 z1.toNatClampNeg).toInt = gv s 26 j := by rw [en]; exact gv_of (hby.1.2.2.2 26 (by decide)) _
    have hsy : ST s y.2 g (c.h - 1) c.o ((3, k, 0, c.h - 1, c.o, c.v, false, false) :: c.rs) := by
      refine hsp.rec (σ := σ) (r := (3, k, 0, c.h - 1, c.o, c.v, false, false)) ?_ (Or.inr (Or.inl rfl)) rfl (x1 := 3) (x2 := x1) (x3 := 0) (x4 := 0) (show (3 : Int32).toInt = ((3 : Nat) : Int) by decide) hx1 (fun q => absurd q (show ¬ (3 : Nat) = 4 by decide)) (fun q => absurd q (show ¬ (3 : Nat) = 4 by decide)) t2 t3 t4 a0 a1 a2 a3 a4
      unfold wv
      rw [if_neg (show ¬ Rec.k (3, k, 0, c.h - 1, c.o, c.v, false, false) = 2 by show ¬ (3 : Nat) = 2; decide), Nat.zero_add]
      cases c.rs <;> rfl
    exact act_FL hB (hby.of (RX.i _ _ _ (by decide)) rfl rfl rfl rfl rfl rfl rfl rfl rfl) (q3 j h3) e26 (hsy.of hsy.1 rfl rfl rfl (fun _ _ _ => rfl))
