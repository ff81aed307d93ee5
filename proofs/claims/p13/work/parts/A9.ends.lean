section
theorem p_caseOf {N : Nat} {s σ : RS} {g : Gh} (hX : RX s σ) (hW : WT s g) {v : Int32} {k0 : Int} {E : Prop} : ∀ (n m : Nat) (other k : Int32), k.toInt < (s.i 24).toInt → (∀ j : Nat, entryIn s j m k.toInt → entryIn s j 500 k0) → (0 ≤ k.toInt → 500 - k.toInt ≤ m) → (other.toInt < 0 ∨ ∃ j : Nat, other.toInt = j ∧ j < 500 ∧ entryIn s j 500 k0) → (E → 0 ≤ other.toInt ∨ ∃ j : Nat, entryIn s j m k.toInt ∧ ¬ gv s 28 j = 0) → 1 ≤ n → (0 ≤ k.toInt → (s.i 24).toInt - k.toInt < n) → ok (f_X12_caseOf_5 N n σ v other k) (fun R => R.2 = σ ∧ ((R.1.toInt < 0 ∧ ¬ E) ∨ ∃ j : Nat, R.1.toInt = j ∧ j < 500 ∧ entryIn s j 500 k0))
  | 0, _, _, _, _, _, _, _, _, h1, _ => by omega
  | n+1, m, other, k, hk, hm, hm5, ho, hE, hn1, hn => by
    show ok (b_X12_caseOf_5 N (f_X12_caseOf_5 N n) σ v other k) _
    unfold b_X12_caseOf_5
    obtain ⟨-, -, -, w4, -, -, w7, -, -, -, -⟩ := id hW
    refine ok_ite (fun c => ok_some ⟨rfl, ?_⟩) (fun c => ?_)
    · have hk0 : k.toInt < 0 := by have := lt_int c; rw [z_t0] at this; exact this
      rcases ho with ho | ho
      · refine Or.inl ⟨ho, fun e => ?_⟩
        rcases hE e with h | ⟨j, h, -⟩
        · have ho : other.toInt < 0 := ho
          omega
        · cases m with
          | zero => exact h
          | succ m => have := h.1; omega
      · exact Or.inr ho
    · have hk0 : 0 ≤ k.toInt := by have := le_int (Int32.not_lt.mp c); rw [z_t0] at this; exact this
      have hn := hn hk0
      have hm5 := hm5 hk0
      have ec := clampI hk0
      obtain ⟨m', rfl⟩ : ∃ m', m = m' + 1 := ⟨m - 1, by omega⟩
      have hself : entryIn s k.toNatClampNeg 500 k0 := hm _ ⟨hk0, Or.inl ec.symm⟩
      have e27 : (σ.a 27 k.toNatClampNeg).toInt = gv s 27 k.toNatClampNeg := gv_of (hX.2.2.2 27 (by decide)) _
      have e28 : (σ.a 28 k.toNatClampNeg).toInt = gv s 28 k.toNatClampNeg := gv_of (hX.2.2.2 28 (by decide)) _
      have hnx := w7 k.toNatClampNeg (by omega)
      have next : ∀ o2 : Int32, (o2.toInt < 0 ∨ ∃ j : Nat, o2.toInt = j ∧ j < 500 ∧ entryIn s j 500 k0) → (E → 0 ≤ o2.toInt ∨ ∃ j : Nat, entryIn s j m' (gv s 27 k.toNatClampNeg) ∧ ¬ gv s 28 j = 0) → ok (f_X12_caseOf_5 N n σ v o2 (σ.a 27 k.toNatClampNeg)) (fun R => R.2 = σ ∧ ((R.1.toInt < 0 ∧ ¬ E) ∨ ∃ j : Nat, R.1.toInt = j ∧ j < 500 ∧ entryIn s j 500 k0)) := by
        intro o2 h2 h3
        refine p_caseOf hX hW n m' o2 _ (by rw [e27]; omega) (fun j hj => hm j ⟨hk0, Or.inr (by rw [e27] at hj; rw [show k.toInt.toNat = k.toNatClampNeg from rfl]; exact hj)⟩) (fun h0 => by rw [e27] at h0 ⊢; omega) h2 (fun e => by rw [e27]; exact h3 e) (by omega) (fun h0 => by rw [e27] at h0 ⊢; omega)
      refine ok_chk ⟨hk0, by omega⟩ (ok_ite (fun c2 => ok_ite (fun c3 => ok_some ⟨rfl, Or.inr ⟨k.toNatClampNeg, ec.symm, by omega, hself⟩⟩) (fun c3 => next other ho (fun e => ?_))) (fun c2 => next k (Or.inr ⟨k.toNatClampNeg, ec.symm, by omega, hself⟩) (fun e => Or.inl hk0)))
      rcases hE e with h | ⟨j, ⟨-, h⟩, h9⟩
      · exact Or.inl h
      · rcases h with h | h
        · exfalso
          have : j = k.toNatClampNeg := by omega
          subst this
          exact h9 (by rw [← e28, c2]; exact z_t0)
        · exact Or.inr ⟨j, h, h9⟩
theorem p_e17 {N : Nat} (hN : 1000 ≤ N) {s σ τ : RS} {g : Gh} {k : Nat} {c : Ctx} {x1 x2 : Int32} (hp : PRE s σ τ g k c x1) (hx2 : x2.toInt = gv s 22 k) (hm : gv s 21 k = 17) : ok (f_X12_ends N τ x1 x2) (fun R => ACT s σ R g k c.v) := by
  obtain ⟨k1, k2, k3, k4, k5, k6, k7, k8, k9⟩ := hp.fact
  have hq := okI_17 k1 hm
  have hp0 := hp
  obtain ⟨hW, hB, hk, hT, hb, hs, hpc, hx1, hone⟩ := hp
  have hs0 := hs
  obtain ⟨s1, s2, s3, s4, s5, s6⟩ := hs
  unfold f_X12_ends
  refine ok_chk hp0.inb (ok_pos (hp0.eq hm (by decide)) ?_)
  have hh1 : 1 ≤ c.h := hq
  refine ok_bind (p_take N τ (by rw [s1]; omega) (by rw [s1]; omega)) (fun p hp9 => ?_)
  obtain ⟨r1, r2, r3, r4, r5⟩ := hp9
  have hop : p.2.a 21 x1.toNatClampNeg = 17 := by rw [r4]; exact hp0.eq hm (by decide)
  have hbp : BS s σ p.2 g := hb.put r1 r3 (fun k _ => by rw [r4])
  have hsp : ST s p.2 g (c.h - 1) c.o c.rs := hs0.put (by rw [r2, s1]; omega) r3 (fun k _ => by rw [r4])
  have e23 : (p.2.a 23 x1.toNatClampNeg).toInt = gv s 23 k := by rw [r4]; exact hp0.g 23 (by decide)
  have fin : ok (f_X12_ends_128 N (RS.setI (RS.setI p.2 113 p.1) 110 2) x1) (fun R => ACT s σ R g k c.v) := by
    unfold f_X12_ends_128
    refine ok_chk hp0.inb ?_
    refine hp0.leave hN (h := 0) (h' := c.h - 1) (hbp.of (((RX.i _ _ _ (by decide)).tr (RX.i _ _ _ (by decide))).tr (RX.i _ _ _ (by decide))) rfl rfl rfl rfl rfl rfl rfl rfl rfl) (hsp.of hsp.1 rfl rfl rfl (fun _ _ _ => rfl)) (Or.inr (Or.inl rfl))
  exact ok_pos hop fin
theorem p_e18 {N : Nat} (hN : 1000 ≤ N) {s σ τ : RS} {g : Gh} {k : Nat} {c : Ctx} {x1 x2 : Int32} (hp : PRE s σ τ g k c x1) (hx2 : x2.toInt = gv s 22 k) (hm : gv s 21 k = 18) : ok (f_X12_ends N τ x1 x2) (fun R => ACT s σ R g k c.v) := by
  obtain ⟨k1, k2, k3, k4, k5, k6, k7, k8, k9⟩ := hp.fact
  have hq := okI_18 k1 hm
  have hp0 := hp
  obtain ⟨hW, hB, hk, hT, hb, hs, hpc, hx1, hone⟩ := hp
  have hs0 := hs
  obtain ⟨s1, s2, s3, s4, s5, s6⟩ := hs
  unfold f_X12_ends
  refine ok_chk hp0.inb (ok_neg (hp0.ne hm (z := 17) (by decide) (by decide)) (ok_pos (hp0.eq hm (by decide)) ?_))
  have hh1 : 1 ≤ c.h := hq.1
  refine ok_bind (p_take N τ (by rw [s1]; omega) (by rw [s1]; omega)) (fun p hp9 => ?_)
  obtain ⟨r1, r2, r3, r4, r5⟩ := hp9
  have hop : p.2.a 21 x1.toNatClampNeg = 18 := by rw [r4]; exact hp0.eq hm (by decide)
  have hbp : BS s σ p.2 g := hb.put r1 r3 (fun k _ => by rw [r4])
  have hsp : ST s p.2 g (c.h - 1) c.o c.rs := hs0.put (by rw [r2, s1]; omega) r3 (fun k _ => by rw [r4])
  have e23 : (p.2.a 23 x1.toNatClampNeg).toInt = gv s 23 k := by rw [r4]; exact hp0.g 23 (by decide)
  have fin : ok (f_X12_ends_128 N (RS.setI (RS.setI p.2 113 p.1) 110 4) x1) (fun R => ACT s σ R g k c.v) := by
    unfold f_X12_ends_128
    refine ok_chk hp0.inb ?_
    refine hp0.leave hN (h := 0) (h' := c.h - 1) (hbp.of (((RX.i _ _ _ (by decide)).tr (RX.i _ _ _ (by decide))).tr (RX.i _ _ _ (by decide))) rfl rfl rfl rfl rfl rfl rfl rfl rfl) (hsp.of hsp.1 rfl rfl rfl (fun _ _ _ => rfl)) (Or.inr (Or.inr (Or.inr ⟨rfl, by show YOK (p.2.a 23 x1.toNatClampNeg).toInt c.rs; rw [e23]; exact hq.2⟩)))
  exact ok_neg (by rw [hop]; decide) fin
theorem p_e19 {N : Nat} (hN : 1000 ≤ N) {s σ τ : RS} {g : Gh} {k : Nat} {c : Ctx} {x1 x2 : Int32} (hp : PRE s σ τ g k c x1) (hx2 : x2.toInt = gv s 22 k) (hm : gv s 21 k = 19) : ok (f_X12_ends N τ x1 x2) (fun R => ACT s σ R g k c.v) := by
  obtain ⟨k1, k2, k3, k4, k5, k6, k7, k8, k9⟩ := hp.fact
  have hq := okI_19 k1 hm
  have hp0 := hp
  obtain ⟨hW, hB, hk, hT, hb, hs, hpc, hx1, hone⟩ := hp
  have hs0 := hs
  obtain ⟨s1, s2, s3, s4, s5, s6⟩ := hs
  unfold f_X12_ends
  refine ok_chk hp0.inb (ok_neg (hp0.ne hm (z := 17) (by decide) (by decide)) (ok_neg (hp0.ne hm (z := 18) (by decide) (by decide)) (ok_pos (hp0.eq hm (by decide)) ?_)))
  refine ok_bind (p_take N τ (by rw [s1]; have := hq.1; omega) (by rw [s1]; omega)) (fun p hp9 => ?_)
  obtain ⟨r1, r2, r3, r4, r5⟩ := hp9
  have hbp : BS s σ p.2 g := hb.put r1 r3 (fun k _ => by rw [r4])
  have hsp : ST s p.2 g (c.h - 1) c.o c.rs := hs0.put (by rw [r2, s1]; have := hq.1; omega) r3 (fun k _ => by rw [r4])
  exact hp0.raise hN hbp hsp (by rw [hx2]; exact hq.2)
theorem p_e20 {N : Nat} (hN : 1000 ≤ N) {s σ τ : RS} {g : Gh} {k : Nat} {c : Ctx} {x1 x2 : Int32} (hp : PRE s σ τ g k c x1) (hx2 : x2.toInt = gv s 22 k) (hm : gv s 21 k = 20) : ok (f_X12_ends N τ x1 x2) (fun R => ACT s σ R g k c.v) := by
  obtain ⟨k1, k2, k3, k4, k5, k6, k7, k8, k9⟩ := hp.fact
  have hq := okI_20 k1 hm
  have hp0 := hp
  obtain ⟨hW, hB, hk, hT, hb, hs, hpc, hx1, hone⟩ := hp
  have hs0 := hs
  obtain ⟨s1, s2, s3, s4, s5, s6⟩ := hs
  unfold f_X12_ends
  refine ok_chk hp0.inb (ok_neg (hp0.ne hm (z := 17) (by decide) (by decide)) (ok_neg (hp0.ne hm (z := 18) (by decide) (by decide)) (ok_neg (hp0.ne hm (z := 19) (by decide) (by decide)) (ok_pos (hp0.eq hm (by decide)) ?_))))
  exact hp0.raise hN hb hs0 (by rw [hx2]; exact hq)
theorem p_e21 {N : Nat} (hN : 1000 ≤ N) {s σ τ : RS} {g : Gh} {k : Nat} {c : Ctx} {x1 x2 : Int32} (hp : PRE s σ τ g k c x1) (hx2 : x2.toInt = gv s 22 k) (hm : gv s 21 k = 21) : ok (f_X12_ends N τ x1 x2) (fun R => ACT s σ R g k c.v) := by
  obtain ⟨k1, k2, k3, k4, k5, k6, k7, k8, k9⟩ := hp.fact
  have hq := okI_21 k1 hm
  have hp0 := hp
  obtain ⟨hW, hB, hk, hT, hb, hs, hpc, hx1, hone⟩ := hp
  have hs0 := hs
  obtain ⟨s1, s2, s3, s4, s5, s6⟩ := hs
  unfold f_X12_ends
  refine ok_chk hp0.inb (ok_neg (hp0.ne hm (z := 17) (by decide) (by decide)) (ok_neg (hp0.ne hm (z := 18) (by decide) (by decide)) (ok_neg (hp0.ne hm (z := 19) (by decide) (by decide)) (ok_neg (hp0.ne hm (z := 20) (by decide) (by decide)) (ok_pos (hp0.eq hm (by decide)) ?_)))))
  have hsl : 0 ≤ x2.toInt ∧ x2.toInt < 460 := by rw [hx2]; exact hq.1
  have ex := clampI hsl.1
  refine ok_chk hsl ?_
  have hv := hb.2.1.2.1 x2.toNatClampNeg (by omega) (by
    have : x2.toNatClampNeg = (gv s 22 k).toNat := by
      show x2.toInt.toNat = _
      rw [hx2]
    rw [this]; exact hq.2)
  refine hp0.leave hN (h := 0) (h' := c.h) (hb.of ((RX.i _ _ _ (by decide)).tr (RX.i _ _ _ (by decide))) rfl rfl rfl rfl rfl rfl rfl rfl rfl) (hs0.of hs0.1 rfl rfl rfl (fun _ _ _ => rfl)) (Or.inr (Or.inr (Or.inl ⟨rfl, hv⟩)))
theorem p_e22 {N : Nat} (hN : 1000 ≤ N) {s σ τ : RS} {g : Gh} {k : Nat} {c : Ctx} {x1 x2 : Int32} (hp : PRE s σ τ g k c x1) (hx2 : x2.toInt = gv s 22 k) (hm : gv s 21 k = 22) : ok (f_X12_ends N τ x1 x2) (fun R => ACT s σ R g k c.v) := by
  obtain ⟨k1, k2, k3, k4, k5, k6, k7, k8, k9⟩ := hp.fact
  have hq := okI_22 k1 hm
  have hp0 := hp
  obtain ⟨hW, hB, hk, hT, hb, hs, hpc, hx1, hone⟩ := hp
  have hs0 := hs
  obtain ⟨s1, s2, s3, s4, s5, s6⟩ := hs
  unfold f_X12_ends
  refine ok_chk hp0.inb (ok_neg (hp0.ne hm (z := 17) (by decide) (by decide)) (ok_neg (hp0.ne hm (z := 18) (by decide) (by decide)) (ok_neg (hp0.ne hm (z := 19) (by decide) (by decide)) (ok_neg (hp0.ne hm (z := 20) (by decide) (by decide)) (ok_neg (hp0.ne hm (z := 21) (by decide) (by decide)) (ok_pos (hp0.eq hm (by decide)) ?_))))))
  unfold f_X12_ends_242
  refine ok_ite (fun _ => ok_some ?_) (fun _ => ok_some ?_)
  · exact act_FL hB (hb.of (RX.i _ _ _ (by decide)) rfl rfl rfl rfl rfl rfl rfl rfl rfl) hq.1 (show x2.toInt = _ from hx2) (hs0.of hs0.1 rfl rfl rfl (fun _ _ _ => rfl))
  · exact act_FL hB (hb.of (RX.i _ _ _ (by decide)) rfl rfl rfl rfl rfl rfl rfl rfl rfl) hq.2 hpc (hs0.of hs0.1 rfl rfl rfl (fun _ _ _ => rfl))
theorem p_e26 {N : Nat} (hN : 1000 ≤ N) {s σ τ : RS} {g : Gh} {k : Nat} {c : Ctx} {x1 x2 : Int32} (hp : PRE s σ τ g k c x1) (hx2 : x2.toInt = gv s 22 k) (hm : gv s 21 k = 26) : ok (f_X12_ends N τ x1 x2) (fun R => ACT s σ R g k c.v) := by
  obtain ⟨k1, k2, k3, k4, k5, k6, k7, k8, k9⟩ := hp.fact
  have hq := okI_26 k1 hm
  have hp0 := hp
  obtain ⟨hW, hB, hk, hT, hb, hs, hpc, hx1, hone⟩ := hp
  have hs0 := hs
  obtain ⟨s1, s2, s3, s4, s5, s6⟩ := hs
  unfold f_X12_ends
  refine ok_chk hp0.inb (ok_neg (hp0.ne hm (z := 17) (by decide) (by decide)) (ok_neg (hp0.ne hm (z := 18) (by decide) (by decide)) (ok_neg (hp0.ne hm (z := 19) (by decide) (by decide)) (ok_neg (hp0.ne hm (z := 20) (by decide) (by decide)) (ok_neg (hp0.ne hm (z := 21) (by decide) (by decide)) (ok_neg (hp0.ne hm (z := 22) (by decide) (by decide)) (ok_neg (hp0.ne hm (z := 23) (by decide) (by decide)) (ok_neg (hp0.ne hm (z := 24) (by decide) (by decide)) (ok_neg (hp0.ne hm (z := 25) (by decide) (by decide)) (ok_pos (hp0.eq hm (by decide)) ?_))))))))))
  obtain ⟨q1, q2, q3⟩ := hq
  refine ok_bind (p_row N τ 3 x2 hb.2.1.2.2.1.1 hb.2.1.2.2.1.2) (fun p hp9 => ?_)
  obtain ⟨r1, r2, r3, r4, r5⟩ := hp9
  have hbp := hb.row r1 r2 r3 r4 r5
  have hsp := hs0.row r4 r5
  refine ok_chk ⟨by omega, by omega⟩ ?_
  generalize hR0 : RS.setA p 91 x2.toNatClampNeg (p.a 91 x2.toNatClampNeg + 1) = p'
  have hb' : BS s σ p' g := by rw [← hR0]; exact hbp.of (RX.a _ _ _ _ (by decide)) rfl rfl rfl rfl rfl rfl rfl rfl rfl
  have hs' : ST s p' g c.h c.o c.rs := by
    rw [← hR0]
    exact hsp.of hsp.1 rfl rfl rfl (fun k9 h1 _ => if_neg (by omega))
  have hpc' : (p'.i 92).toInt = (k : Int) + 1 := by rw [← hR0]; show (p.i 92).toInt = _; rw [r4 92 (by decide)]; exact hpc
  have s5' := hs'.2.2.2.2.1
  refine ok_bind (p_record N p' 1 x2 0 0 (by omega) (by omega)) (fun z hz => ok_some ?_)
  obtain ⟨t1, t2, t3, t4, a0, a1, a2, a3, a4⟩ := hz
  refine act_FL hB (hb'.rec t1 t3 t4) q3 (by rw [t3 92 (by decide)]; exact hpc') ?_
  refine hs'.rec (σ := σ) (r := (1, (gv s 22 k).toNat, 0, c.h, c.o, c.v, false, false)) ?_ (Or.inl rfl) rfl (x1 := 1) (x2 := x2) (x3 := 0) (x4 := 0) (show (1 : Int32).toInt = ((1 : Nat) : Int) by decide) ?_ (fun q => absurd q (show ¬ (1 : Nat) = 4 by decide)) (fun q => absurd q (show ¬ (1 : Nat) = 4 by decide)) t2 t3 t4 a0 a1 a2 a3 a4
  · unfold wv
    rw [if_neg (show ¬ Rec.k (1, (gv s 22 k).toNat, 0, c.h, c.o, c.v, false, false) = 2 by show ¬ (1 : Nat) = 2; decide), Nat.zero_add]
    cases c.rs <;> rfl
  · rw [hx2]
    show _ = (((gv s 22 k).toNat : Nat) : Int)
    omega
theorem p_e27 {N : Nat} (hN : 1000 ≤ N) {s σ τ : RS} {g : Gh} {k : Nat} {c : Ctx} {x1 x2 : Int32} (hp : PRE s σ τ g k c x1) (hx2 : x2.toInt = gv s 22 k) (hm : gv s 21 k = 27) : ok (f_X12_ends N τ x1 x2) (fun R => ACT s σ R g k c.v) := by
  obtain ⟨k1, k2, k3, k4, k5, k6, k7, k8, k9⟩ := hp.fact
  have hq := okI_27 k1 hm
  have hp0 := hp
  obtain ⟨hW, hB, hk, hT, hb, hs, hpc, hx1, hone⟩ := hp
  have hs0 := hs
  obtain ⟨s1, s2, s3, s4, s5, s6⟩ := hs
  unfold f_X12_ends
  refine ok_chk hp0.inb (ok_neg (hp0.ne hm (z := 17) (by decide) (by decide)) (ok_neg (hp0.ne hm (z := 18) (by decide) (by decide)) (ok_neg (hp0.ne hm (z := 19) (by decide) (by decide)) (ok_neg (hp0.ne hm (z := 20) (by decide) (by decide)) (ok_neg (hp0.ne hm (z := 21) (by decide) (by decide)) (ok_neg (hp0.ne hm (z := 22) (by decide) (by decide)) (ok_neg (hp0.ne hm (z := 23) (by decide) (by decide)) (ok_neg (hp0.ne hm (z := 24) (by decide) (by decide)) (ok_neg (hp0.ne hm (z := 25) (by decide) (by decide)) (ok_neg (hp0.ne hm (z := 26) (by decide) (by decide)) (ok_pos (hp0.eq hm (by decide)) ?_)))))))))))
  obtain ⟨r, rs, q5, q6, q7⟩ := hq
  rw [q5] at s5 s6 k7 s2 k2
  have s5 : (τ.i 99).toInt = (rs.length : Int) + 1 := s5
  have k7 : rs.length + 1 ≤ 250 := k7
  have hx := sub1 s5 (by omega)
  have h8 : r.a < 8 := by
    rcases k2.1.2.2 with q | q | q | q
    · exact q.2
    · rw [q6] at q; exact absurd q (by decide)
    · rw [q6] at q; exact absurd q.1 (by decide)
    · rw [q6] at q; exact absurd q.1 (by decide)
  have hwv : wv (r :: rs) = wv rs := by
    unfold wv; rw [if_neg (by rw [q6]; decide), Nat.zero_add]; cases rs <;> rfl
  refine ok_chk ⟨by omega, by omega⟩ ?_
  have hb1 : BS s σ (τ.setI 99 (τ.i 99 - 1)) g := hb.of (RX.i _ _ _ (by decide)) rfl rfl rfl rfl rfl rfl rfl rfl rfl
  refine ok_bind (p_row N (τ.setI 99 (τ.i 99 - 1)) 4 _ hb.2.1.2.2.1.1 hb.2.1.2.2.1.2) (fun p hp9 => ?_)
  obtain ⟨r1, r2, r3, r4, r5⟩ := hp9
  have hbp := hb1.row r1 r2 r3 r4 r5
  have h99 : (p.i 99).toInt = rs.length := by rw [r4 99 (by decide)]; exact hx
  have en : (p.i 99).toNatClampNeg = rs.length := by
    show (p.i 99).toInt.toNat = rs.length
    rw [h99]; exact Int.toNat_natCast _
  have ha : (p.a 101 (p.i 99).toNatClampNeg).toInt = r.a := by
    rw [en, r5 101 (by decide) (by decide)]; exact s6.1.2.2.1 q6
  refine ok_chk ⟨by omega, by omega⟩ (ok_chk ⟨by rw [ha]; omega, by rw [ha]; omega⟩ (ok_some ?_))
  refine act_FL hB (hbp.of (RX.a _ _ _ _ (by decide)) rfl rfl rfl rfl rfl rfl rfl rfl rfl) q7 (by show (p.i 92).toInt = _; rw [r4 92 (by decide)]; exact hpc) ⟨by show (p.i 93).toInt = _; rw [r4 93 (by decide)]; exact s1, by show (p.i 97).toInt = _; rw [r4 97 (by decide), ← hwv]; exact s2, by show 0 ≤ (p.i 95).toInt; rw [r4 95 (by decide)]; exact s3, by show (p.i 95).toInt ≤ _; rw [r4 95 (by decide)]; exact s4, h99, RM.of (σ := τ) (fun i _ k9 d1 d2 => ?_) s6.2⟩
  have : gv (p.setA 91 (p.a 101 (p.i 99).toNatClampNeg).toNatClampNeg (p.a 91 (p.a 101 (p.i 99).toNatClampNeg).toNatClampNeg - 1)) k9 i = gv p k9 i := by
    unfold gv; simp only [ra_setA]; rw [if_neg (by omega)]
  rw [this]; exact gv_of (r5 k9 (by omega) (by omega)) i
theorem p_e30 {N : Nat} (hN : 1000 ≤ N) {s σ τ : RS} {g : Gh} {k : Nat} {c : Ctx} {x1 x2 : Int32} (hp : PRE s σ τ g k c x1) (hx2 : x2.toInt = gv s 22 k) (hm : gv s 21 k = 30) : ok (f_X12_ends N τ x1 x2) (fun R => ACT s σ R g k c.v) := by
  obtain ⟨k1, k2, k3, k4, k5, k6, k7, k8, k9⟩ := hp.fact
  have hq := okI_30 k1 hm
  have hp0 := hp
  obtain ⟨hW, hB, hk, hT, hb, hs, hpc, hx1, hone⟩ := hp
  have hs0 := hs
  obtain ⟨s1, s2, s3, s4, s5, s6⟩ := hs
  unfold f_X12_ends
  refine ok_chk hp0.inb (ok_neg (hp0.ne hm (z := 17) (by decide) (by decide)) (ok_neg (hp0.ne hm (z := 18) (by decide) (by decide)) (ok_neg (hp0.ne hm (z := 19) (by decide) (by decide)) (ok_neg (hp0.ne hm (z := 20) (by decide) (by decide)) (ok_neg (hp0.ne hm (z := 21) (by decide) (by decide)) (ok_neg (hp0.ne hm (z := 22) (by decide) (by decide)) (ok_neg (hp0.ne hm (z := 23) (by decide) (by decide)) (ok_neg (hp0.ne hm (z := 24) (by decide) (by decide)) (ok_neg (hp0.ne hm (z := 25) (by decide) (by decide)) (ok_neg (hp0.ne hm (z := 26) (by decide) (by decide)) (ok_neg (hp0.ne hm (z := 27) (by decide) (by decide)) (ok_neg (hp0.ne hm (z := 28) (by decide) (by decide)) (ok_neg (hp0.ne hm (z := 29) (by decide) (by decide)) (ok_pos (hp0.eq hm (by decide)) ?_))))))))))))))
  obtain ⟨r, rs, q5, q6, q7⟩ := hq
  rw [q5] at s5 s6 k7 s2 k2 k5
  have s5 : (τ.i 99).toInt = (rs.length : Int) + 1 := s5
  have k7 : rs.length + 1 ≤ 250 := k7
  have hx := sub1 s5 (by omega)
  have en : (τ.i 99 - 1).toNatClampNeg = rs.length := by
    show (τ.i 99 - 1).toInt.toNat = rs.length
    rw [hx]; exact Int.toNat_natCast _
  have o3 : (r.a : Int) < cdI s ∧ FL s g c.v ((k : Int) + 1) (gv s 23 r.a) (r.h + 1) r.o rs := by
    rcases k2.1.2.2 with z | z | z | z
    · rw [q6] at z; exact absurd z.1 (by decide)
    · rw [q6] at z; exact absurd z (by decide)
    · exact z.2
    · rw [q6] at z; exact absurd z.1 (by decide)
  have hcd := hW.1
  have ha : (τ.a 101 (τ.i 99 - 1).toNatClampNeg).toInt = r.a := by rw [en]; exact s6.1.2.2.2.2.1 q6
  have han : (τ.a 101 (τ.i 99 - 1).toNatClampNeg).toNatClampNeg = r.a := by
    show (τ.a 101 (τ.i 99 - 1).toNatClampNeg).toInt.toNat = r.a
    rw [ha]; exact Int.toNat_natCast _
  have hwv : wv (r :: rs) = wv rs := by
    unfold wv; rw [if_neg (by rw [q6]; decide), Nat.zero_add]; cases rs <;> rfl
  refine ok_chk ⟨by omega, by omega⟩ (ok_chk ⟨by rw [ha]; omega, by rw [ha]; omega⟩ (ok_some ?_))
  rw [han]
  have e23 : (τ.a 23 r.a).toInt = gv s 23 r.a := gv_of (hb.1.2.2.2 23 (by decide)) _
  refine act_FL (o := r.o) hB (hb.of ((RX.i _ _ _ (by decide)).tr (RX.i _ _ _ (by decide))) rfl rfl rfl rfl rfl rfl rfl rfl rfl) o3.2 e23 ⟨by show (τ.i 93).toInt = _; rw [s1, q7], by show (τ.i 97).toInt = _; rw [← hwv]; exact s2, s3, ?_, hx, RM.of (σ := τ) (fun _ _ _ _ _ => rfl) s6.2⟩
  show (τ.i 95).toInt ≤ _
  rcases k5.1 with z | z
  · rw [q6] at z; exact absurd z.1 (by decide)
  · omega
theorem p_e36 {N : Nat} (hN : 1000 ≤ N) {s σ τ : RS} {g : Gh} {k : Nat} {c : Ctx} {x1 x2 : Int32} (hp : PRE s σ τ g k c x1) (hx2 : x2.toInt = gv s 22 k) (hm : gv s 21 k = 36) : ok (f_X12_ends N τ x1 x2) (fun R => ACT s σ R g k c.v) := by
  obtain ⟨k1, k2, k3, k4, k5, k6, k7, k8, k9⟩ := hp.fact
  have hq := okI_36 k1 hm
  have hp0 := hp
  obtain ⟨hW, hB, hk, hT, hb, hs, hpc, hx1, hone⟩ := hp
  have hs0 := hs
  obtain ⟨s1, s2, s3, s4, s5, s6⟩ := hs
  unfold f_X12_ends
  refine ok_chk hp0.inb (ok_neg (hp0.ne hm (z := 17) (by decide) (by decide)) (ok_neg (hp0.ne hm (z := 18) (by decide) (by decide)) (ok_neg (hp0.ne hm (z := 19) (by decide) (by decide)) (ok_neg (hp0.ne hm (z := 20) (by decide) (by decide)) (ok_neg (hp0.ne hm (z := 21) (by decide) (by decide)) (ok_neg (hp0.ne hm (z := 22) (by decide) (by decide)) (ok_neg (hp0.ne hm (z := 23) (by decide) (by decide)) (ok_neg (hp0.ne hm (z := 24) (by decide) (by decide)) (ok_neg (hp0.ne hm (z := 25) (by decide) (by decide)) (ok_neg (hp0.ne hm (z := 26) (by decide) (by decide)) (ok_neg (hp0.ne hm (z := 27) (by decide) (by decide)) (ok_neg (hp0.ne hm (z := 28) (by decide) (by decide)) (ok_neg (hp0.ne hm (z := 29) (by decide) (by decide)) (ok_neg (hp0.ne hm (z := 30) (by decide) (by decide)) (ok_neg (hp0.ne hm (z := 31) (by decide) (by decide)) (ok_neg (hp0.ne hm (z := 32) (by decide) (by decide)) (ok_neg (hp0.ne hm (z := 33) (by decide) (by decide)) (ok_neg (hp0.ne hm (z := 34) (by decide) (by decide)) (ok_neg (hp0.ne hm (z := 35) (by decide) (by decide)) (ok_pos (hp0.eq hm (by decide)) ?_))))))))))))))))))))
  obtain ⟨q1, q2⟩ := hq
  have e23 : (τ.a 23 x1.toNatClampNeg).toInt = gv s 23 k := hp0.g 23 (by decide)
  refine hp0.leave hN (h := c.h) (h' := c.h) (hb.of (((RX.i _ _ _ (by decide)).tr (RX.i _ _ _ (by decide))).tr (RX.i _ _ _ (by decide))) rfl rfl rfl rfl rfl rfl rfl rfl rfl) (hs0.of hs0.1 rfl rfl rfl (fun _ _ _ => rfl)) (Or.inl ⟨rfl, by show 0 ≤ (τ.a 23 x1.toNatClampNeg).toInt; rw [e23]; exact q1, s1, ?_⟩)
  show JMP s g c.v ((k : Int) + 1) x2.toInt (τ.a 23 x1.toNatClampNeg).toInt.toNat c.h c.o c.rs
  rw [hx2, e23]
  exact q2
theorem p_e28 {N : Nat} (hN : 1000 ≤ N) {s σ τ : RS} {g : Gh} {k : Nat} {c : Ctx} {x1 x2 : Int32} (hp : PRE s σ τ g k c x1) (hx2 : x2.toInt = gv s 22 k) (hm : gv s 21 k = 28) : ok (f_X12_ends N τ x1 x2) (fun R => ACT s σ R g k c.v) := by
  obtain ⟨k1, k2, k3, k4, k5, k6, k7, k8, k9⟩ := hp.fact
  have hq := okI_28 k1 hm
  have hp0 := hp
  obtain ⟨hW, hB, hk, hT, hb, hs, hpc, hx1, hone⟩ := hp
  have hs0 := hs
  obtain ⟨s1, s2, s3, s4, s5, s6⟩ := hs
  unfold f_X12_ends
  refine ok_chk hp0.inb (ok_neg (hp0.ne hm (z := 17) (by decide) (by decide)) (ok_neg (hp0.ne hm (z := 18) (by decide) (by decide)) (ok_neg (hp0.ne hm (z := 19) (by decide) (by decide)) (ok_neg (hp0.ne hm (z := 20) (by decide) (by decide)) (ok_neg (hp0.ne hm (z := 21) (by decide) (by decide)) (ok_neg (hp0.ne hm (z := 22) (by decide) (by decide)) (ok_neg (hp0.ne hm (z := 23) (by decide) (by decide)) (ok_neg (hp0.ne hm (z := 24) (by decide) (by decide)) (ok_neg (hp0.ne hm (z := 25) (by decide) (by decide)) (ok_neg (hp0.ne hm (z := 26) (by decide) (by decide)) (ok_neg (hp0.ne hm (z := 27) (by decide) (by decide)) (ok_pos (hp0.eq hm (by decide)) ?_))))))))))))
  obtain ⟨q1, q2, q3, q4⟩ := hq
  refine ok_bind (p_take N τ (by rw [s1]; omega) (by rw [s1]; omega)) (fun p hp9 => ?_)
  obtain ⟨r1, r2, r3, r4, r5⟩ := hp9
  have hbp : BS s σ p.2 g := hb.put r1 r3 (fun k _ => by rw [r4])
  have hsp : ST s p.2 g (c.h - 1) c.o c.rs := hs0.put (by rw [r2, s1]; omega) r3 (fun k _ => by rw [r4])
  have w4 := hW.2.2.2.1
  unfold f_X12_caseOf
  refine ok_bind (p_caseOf (E := ∃ j : Nat, entryIn s j 500 (gv s 22 k) ∧ ¬ gv s 28 j = 0) (k0 := gv s 22 k) hbp.1 hW N 500 (-1) x2 (by rw [hx2]; exact q2) (fun j hj => by rw [hx2] at hj; exact hj) (fun h0 => by omega) (Or.inl (by decide)) (fun e => Or.inr (by rw [hx2]; exact e)) (by omega) (fun h0 => by rw [hx2] at h0 ⊢; omega)) (fun z hz => ?_)
  obtain ⟨z1, z2⟩ := z
  obtain ⟨hz1, hz2⟩ := hz
  simp only at hz1
  subst hz1
  unfold f_X12_ends_351
  have e92 : (p.2.i 92).toInt = (k : Int) + 1 := by rw [r3 92 (by decide)]; exact hpc
  refine ok_ite (fun c1 => ?_) (fun c1 => ok_some ?_)
  · have c1 := le_int c1
    rw [z_t0] at c1
    rcases hz2 with ⟨h, -⟩ | ⟨j, h1, h2, h3⟩
    · have h : z1.toInt < 0 := h
      have c1 : 0 ≤ z1.toInt := c1
      omega
    · have h1 : z1.toInt = j := h1
      have en : z1.toNatClampNeg = j := by
        show z1.toInt.toNat = j
        rw [h1]; exact Int.toNat_natCast _
      refine ok_chk ⟨by omega, by omega⟩ (ok_some ?_)
      have e26 : (p.2.a 26 z1.toNatClampNeg).toInt = gv s 26 j := by rw [en]; exact gv_of (hbp.1.2.2.2 26 (by decide)) _
      exact act_FL hB (hbp.of (RX.i _ _ _ (by decide)) rfl rfl rfl rfl rfl rfl rfl rfl rfl) (q3 j h3) e26 (hsp.of hsp.1 rfl rfl rfl (fun _ _ _ => rfl))
  · have e23 : (p.2.a 23 x1.toNatClampNeg).toInt = gv s 23 k := by rw [r4]; exact hp0.g 23 (by decide)
    have nE : ¬ (∃ j : Nat, entryIn s j 500 (gv s 22 k) ∧ ¬ gv s 28 j = 0) := by
      rcases hz2 with ⟨-, h⟩ | ⟨j, h1, h2, h3⟩
      · exact h
      · have h1 : z1.toInt = j := h1
        exact absurd (Int32.le_iff_toInt_le.mpr (by rw [z_t0]; show (0 : Int) ≤ z1.toInt; omega)) c1
    exact act_FL hB (hbp.of (RX.i _ _ _ (by decide)) rfl rfl rfl rfl rfl rfl rfl rfl rfl) (q4 nE) e23 (hsp.of hsp.1 rfl rfl rfl (fun _ _ _ => rfl))
theorem p_e29 {N : Nat} (hN : 1000 ≤ N) {s σ τ : RS} {g : Gh} {k : Nat} {c : Ctx} {x1 x2 : Int32} (hp : PRE s σ τ g k c x1) (hx2 : x2.toInt = gv s 22 k) (hm : gv s 21 k = 29) : ok (f_X12_ends N τ x1 x2) (fun R => ACT s σ R g k c.v) := by
  obtain ⟨k1, k2, k3, k4, k5, k6, k7, k8, k9⟩ := hp.fact
  have hq := okI_29 k1 hm
  have hp0 := hp
  obtain ⟨hW, hB, hk, hT, hb, hs, hpc, hx1, hone⟩ := hp
  have hs0 := hs
  obtain ⟨s1, s2, s3, s4, s5, s6⟩ := hs
  unfold f_X12_ends
  refine ok_chk hp0.inb (ok_neg (hp0.ne hm (z := 17) (by decide) (by decide)) (ok_neg (hp0.ne hm (z := 18) (by decide) (by decide)) (ok_neg (hp0.ne hm (z := 19) (by decide) (by decide)) (ok_neg (hp0.ne hm (z := 20) (by decide) (by decide)) (ok_neg (hp0.ne hm (z := 21) (by decide) (by decide)) (ok_neg (hp0.ne hm (z := 22) (by decide) (by decide)) (ok_neg (hp0.ne hm (z := 23) (by decide) (by decide)) (ok_neg (hp0.ne hm (z := 24) (by decide) (by decide)) (ok_neg (hp0.ne hm (z := 25) (by decide) (by decide)) (ok_neg (hp0.ne hm (z := 26) (by decide) (by decide)) (ok_neg (hp0.ne hm (z := 27) (by decide) (by decide)) (ok_neg (hp0.ne hm (z := 28) (by decide) (by decide)) (ok_pos (hp0.eq hm (by decide)) ?_)))))))))))))
  obtain ⟨q1, q2, q3, q4⟩ := hq
  refine ok_bind (p_take N τ (by rw [s1]; omega) (by rw [s1]; omega)) (fun p hp9 => ?_)
  obtain ⟨r1, r2, r3, r4, r5⟩ := hp9
  have hbp : BS s σ p.2 g := hb.put r1 r3 (fun k _ => by rw [r4])
  have hsp : ST s p.2 g (c.h - 1) c.o c.rs := hs0.put (by rw [r2, s1]; omega) r3 (fun k _ => by rw [r4])
  have w4 := hW.2.2.2.1
  unfold f_X12_caseOf
  refine ok_bind (p_caseOf (E := True) (k0 := gv s 22 k) hbp.1 hW N 500 (-1) x2 (by rw [hx2]; exact q2) (fun j hj => by rw [hx2] at hj; exact hj) (fun h0 => by omega) (Or.inl (by decide)) (fun _ => Or.inr (by rw [hx2]; exact q4)) (by omega) (fun h0 => by rw [hx2] at h0 ⊢; omega)) (fun z hz => ?_)
  obtain ⟨z1, z2⟩ := z
  obtain ⟨hz1, hz2⟩ := hz
  simp only at hz1
  subst hz1
  rcases hz2 with ⟨-, h⟩ | ⟨j, h1, h2, h3⟩
  · exact absurd trivial h
  · have h1 : z1.toInt = j := h1
    have en : z1.toNatClampNeg = j := by
      show z1.toInt.toNat = j
      rw [h1]; exact Int.toNat_natCast _
    have s5' := hsp.2.2.2.2.1
    refine ok_bind (p_record N p.2 3 x1 0 0 (by omega) (by omega)) (fun y hy => ?_)
    obtain ⟨t1, t2, t3, t4, a0, a1, a2, a3, a4⟩ := hy
    refine ok_chk ⟨by omega, by omega⟩ (ok_some ?_)
    have hby := hbp.rec t1 t3 t4
    have e26 : (y.2.a 26 z1.toNatClampNeg).toInt = gv s 26 j := by rw [en]; exact gv_of (hby.1.2.2.2 26 (by decide)) _
    have hsy : ST s y.2 g (c.h - 1) c.o ((3, k, 0, c.h - 1, c.o, c.v, false, false) :: c.rs) := by
      refine hsp.rec (σ := σ) (r := (3, k, 0, c.h - 1, c.o, c.v, false, false)) ?_ (Or.inr (Or.inl rfl)) rfl (x1 := 3) (x2 := x1) (x3 := 0) (x4 := 0) (show (3 : Int32).toInt = ((3 : Nat) : Int) by decide) hx1 (fun q => absurd q (show ¬ (3 : Nat) = 4 by decide)) (fun q => absurd q (show ¬ (3 : Nat) = 4 by decide)) t2 t3 t4 a0 a1 a2 a3 a4
      unfold wv
      rw [if_neg (show ¬ Rec.k (3, k, 0, c.h - 1, c.o, c.v, false, false) = 2 by show ¬ (3 : Nat) = 2; decide), Nat.zero_add]
      cases c.rs <;> rfl
    exact act_FL hB (hby.of (RX.i _ _ _ (by decide)) rfl rfl rfl rfl rfl rfl rfl rfl rfl) (q3 j h3) e26 (hsy.of hsy.1 rfl rfl rfl (fun _ _ _ => rfl))
end
section
theorem act_put {N : Nat} {s σ τ : RS} {g : Gh} {k v h o : Nat} {rs : List Rec} {x : Int32} (hB : RB s) (hb : BS s σ τ g) (hs : ST s τ g h o rs) (hh : h ≤ 1300) (hpc : (τ.i 92).toInt = (k : Int) + 1) (hf : FL s g v ((k : Int) + 1) ((k : Int) + 1) (h + 1) o rs) : ok ((f_X12_put N τ x).bind fun p => some p) (fun R => ACT s σ R g k v) := by
  have s1 := hs.1
  refine ok_bind (p_put N τ x (by rw [s1]; omega) (by rw [s1]; omega)) (fun p hp => ok_some ?_)
  obtain ⟨r1, r2, r3, r4, r5⟩ := hp
  exact act_FL hB (hb.put r1 r3 r4) hf (by rw [r3 92 (by decide)]; exact hpc) (hs.put (by rw [r2, s1]; rfl) r3 r4)
theorem act_take {N : Nat} {s σ τ : RS} {g : Gh} {h o : Nat} {rs : List Rec} (hb : BS s σ τ g) (hs : ST s τ g h o rs) (h1 : 1 ≤ h) (hh : h ≤ 1301) : ok (f_X12_take N τ) (fun p => BS s σ p.2 g ∧ ST s p.2 g (h - 1) o rs ∧ (∀ j : Nat, j ≠ 93 → p.2.i j = τ.i j) ∧ p.2.a = τ.a ∧ p.1 = τ.a 94 (h - 1)) := by
  have s1 := hs.1
  refine ok_imp (p_take N τ (by rw [s1]; omega) (by rw [s1]; omega)) (fun p hp => ?_)
  obtain ⟨r1, r2, r3, r4, r5⟩ := hp
  refine ⟨hb.put r1 r3 (fun k _ => by rw [r4]), hs.put (by rw [r2, s1]; omega) r3 (fun k _ => by rw [r4]), r3, r4, ?_⟩
  rw [r5, s1]
  congr 1
  omega
theorem BS.store {s σ τ : RS} {g : Gh} {x : Nat} {v : Int32} (hb : BS s σ τ g) (hx : g.isC x = false) : BS s σ (τ.setA 84 x v) g := by
  obtain ⟨b1, b2, b3, b4⟩ := hb
  obtain ⟨E1, E2, E3, E4, E5, E6, E7⟩ := b2
  refine ⟨b1.tr (RX.a _ _ _ _ (by decide)), ⟨E1, fun y h2 h3 => ?_, E3, E4, E5, E6, E7⟩, b3, b4⟩
  have e : (τ.setA 84 x v).a 84 = upd (τ.a 84) x v := rfl
  rw [gv_upd e]
  by_cases w : y = x
  · rw [w, hx] at h3; cases h3
  · rw [if_neg w]; exact E2 y h2 h3
theorem p_compute {N : Nat} {σ : RS} {x y z : Int32} (h : x = 37 ∨ x = 47 → ¬ z = 0) : ok (f_X12_compute N σ x y z) (fun R => R.2 = σ) := by
  unfold f_X12_compute
  refine ok_ite (fun c => ok_chn (h (Or.inl c)) (ok_some rfl)) (fun _ => ok_ite (fun _ => ok_some rfl) (fun _ => ok_ite (fun _ => ok_some rfl) (fun _ => ok_ite (fun _ => ok_some rfl) (fun _ => ok_ite (fun c => ok_chn (h (Or.inr c)) (ok_some rfl)) (fun _ => ?_)))))
  repeat' (first | exact ok_some rfl | refine ok_ite (fun _ => ?_) (fun _ => ?_))
theorem act_229 {N : Nat} {s σ τ : RS} {g : Gh} {k v h o : Nat} {rs : List Rec} {x y z : Int32} (hB : RB s) (hb : BS s σ τ g) (hs : ST s τ g h o rs) (hh : h ≤ 1300) (hpc : (τ.i 92).toInt = (k : Int) + 1) (hf : FL s g v ((k : Int) + 1) ((k : Int) + 1) (h + 1) o rs) (hz : x = 37 ∨ x = 47 → ¬ y = 0) : ok (f_X12_act_229 N τ x y z) (fun R => ACT s σ R g k v) := by
  unfold f_X12_act_229
  refine ok_bind (p_compute hz) (fun p hp => ?_)
  rw [hp]
  exact act_put hB hb hs hh hpc hf
theorem act_212 {N : Nat} (hN : 1000 ≤ N) {s σ τ τ' : RS} {g : Gh} {k h : Nat} {c : Ctx} {x1 x y z : Int32} (hp : PRE s σ τ' g k c x1) (hb : BS s σ τ g) (hs : ST s τ g h c.o c.rs) (hh : h ≤ 1300) (hpc : (τ.i 92).toInt = (k : Int) + 1) (hf : FL s g c.v ((k : Int) + 1) ((k : Int) + 1) (h + 1) c.o c.rs) : ok (f_X12_act_212 N τ x y z) (fun R => ACT s σ R g k c.v) := by
  unfold f_X12_act_212
  have hB : RB s := hp.2.1
  refine ok_ite (fun e => hp.raise hN hb hs ?_) (fun e => act_229 hB hb hs hh hpc hf (fun _ => e))
  have h3 := le_int hB.2.1.1
  have e2 : (2 : Int32).toInt = 2 := by decide
  have e4 : (4 : Int32).toInt = 4 := by decide
  omega
theorem p_a1 {N : Nat} (hN : 1000 ≤ N) {s σ τ : RS} {g : Gh} {k : Nat} {c : Ctx} {x1 : Int32} (hp : PRE s σ τ g k c x1) (hm : gv s 21 k = 1) : ok (f_X12_act N τ x1) (fun R => ACT s σ R g k c.v) := by
  obtain ⟨k1, k2, k3, k4, k5, k6, k7, k8, k9⟩ := hp.fact
  have hq := okI_1 k1 hm
  have hp0 := hp
  obtain ⟨hW, hB, hk, hT, hb, hs, hpc, hx1, hone⟩ := hp
  have hs0 := hs
  obtain ⟨s1, s2, s3, s4, s5, s6⟩ := hs
  have hx2 : (τ.a 22 x1.toNatClampNeg).toInt = gv s 22 k := hp0.g 22 (by decide)
  unfold f_X12_act
  refine ok_chk hp0.inb (ok_pos (hp0.eq hm (by decide)) ?_)
  have hD := hb.2.1
  refine ok_bind (p_step N τ hD.2.2.2.2.1.1 hD.2.2.2.2.1.2) (fun p hp9 => ok_some ?_)
  obtain ⟨a1, a2, a3⟩ := hp9
  have hXR : RX s p := hb.1.tr a1
  have hRD : 0 ≤ p.i 80 ∧ p.i 80 ≤ 1000 → (∀ j : Nat, j ≠ 80 → j ≠ 92 → j ≠ 115 → p.i j = τ.i j) → RD p g := by
    intro g80 gi
    obtain ⟨E1, E2, E3, E4, E5, E6, E7⟩ := hD
    refine ⟨fun j h2 h3 => ?_, fun y h2 h3 => ?_, ?_, ?_, g80, fun t h2 => ?_, fun t h2 => ?_⟩
    · rw [gv_of (congrFun a2 96)]; rw [gi 95 (by decide) (by decide) (by decide)] at h3; exact E1 j h2 h3
    · rw [gv_of (congrFun a2 84)]; exact E2 y h2 h3
    · rw [gi 81 (by decide) (by decide) (by decide)]; exact E3
    · rw [gi 85 (by decide) (by decide) (by decide)]; exact E4
    · rw [gv_of (congrFun a2 88)]; exact E6 t h2
    · rw [gv_of (congrFun a2 86), gi 3 (by decide) (by decide) (by decide)]; exact E7 t h2
  rcases a3 with ⟨b1, b2, b3, b4⟩ | ⟨b1, b2, b3, b4⟩
  · refine ⟨hXR, hXR.B hB, hRD (by rw [b2]; exact hD.2.2.2.2.1) (fun j _ d2 d3 => b4 j d2 d3), Or.inl ⟨b2.trans hb.2.2.1, Or.inl ?_⟩, Or.inr ⟨by rw [b1]; decide, fun z => ?_⟩⟩
    · rw [b1]; decide
    · rw [b3] at z; exact absurd z (by decide)
  · refine ⟨hXR, hXR.B hB, hRD ⟨b2, b3⟩ (fun j d1 _ _ => b4 j d1), Or.inr ⟨?_, ?_⟩, Or.inl ?_⟩
    · rw [b1, hb.2.2.1]
    · exact out_FS hq (by rw [b4 92 (by decide)]; exact hpc) (hs0.of (by rw [b4 93 (by decide)]; exact s1) (b4 97 (by decide)) (b4 95 (by decide)) (b4 99 (by decide)) (fun k9 _ _ => congrFun a2 k9))
    · rw [b4 115 (by decide)]; exact hb.2.2.2
theorem p_a2 {N : Nat} (hN : 1000 ≤ N) {s σ τ : RS} {g : Gh} {k : Nat} {c : Ctx} {x1 : Int32} (hp : PRE s σ τ g k c x1) (hm : gv s 21 k = 2) : ok (f_X12_act N τ x1) (fun R => ACT s σ R g k c.v) := by
  obtain ⟨k1, k2, k3, k4, k5, k6, k7, k8, k9⟩ := hp.fact
  have hq := okI_2 k1 hm
  have hp0 := hp
  obtain ⟨hW, hB, hk, hT, hb, hs, hpc, hx1, hone⟩ := hp
  have hs0 := hs
  obtain ⟨s1, s2, s3, s4, s5, s6⟩ := hs
  have hx2 : (τ.a 22 x1.toNatClampNeg).toInt = gv s 22 k := hp0.g 22 (by decide)
  unfold f_X12_act
  refine ok_chk hp0.inb (ok_neg (hp0.ne hm (z := 1) (by decide) (by decide)) (ok_pos (hp0.eq hm (by decide)) ?_))
  refine ok_bind (p_put N τ _ (by rw [s1]; omega) (by rw [s1]; omega)) (fun p hp => ok_some ?_)
  obtain ⟨r1, r2, r3, r4, r5⟩ := hp
  have hbp := hb.put r1 r3 r4
  have hsp : ST s p g (c.h + 1) c.o c.rs := hs0.put (by rw [r2, s1]; rfl) r3 r4
  obtain ⟨f1, f2⟩ := hq
  have h92 : (p.i 92).toInt = (k : Int) + 1 := by rw [r3 92 (by decide)]; exact hpc
  refine ⟨hbp.1, hbp.1.B hB, hbp.2.1, Or.inl ⟨hbp.2.2.1, ?_⟩, Or.inl hbp.2.2.2⟩
  by_cases hc : (k : Int) + 1 < cdI s
  · obtain ⟨c', d1, d2, d3, d4, d5, d6⟩ := f2 hc
    obtain ⟨a1, a2, a3, a4, a5, a6⟩ := hsp
    refine Or.inr (Or.inr ⟨c', by omega, by rw [h92]; exact d1, ⟨by rw [d2]; exact a1, by rw [d5]; exact a2, a3, by omega, by rw [d5]; exact a5, by rw [d5]; exact a6, fun q => ?_⟩, Or.inr ⟨d6, by omega⟩⟩)
    have en : (τ.i 93).toNatClampNeg = c.h := by
      show (τ.i 93).toInt.toNat = c.h
      rw [s1]; exact Int.toNat_natCast _
    rw [en] at r5
    rw [d2, gv_upd r5, if_pos (by omega), hx2]
    exact d4 q
  · exact Or.inr (Or.inl (by rw [h92]; omega))
theorem p_a3 {N : Nat} (hN : 1000 ≤ N) {s σ τ : RS} {g : Gh} {k : Nat} {c : Ctx} {x1 : Int32} (hp : PRE s σ τ g k c x1) (hm : gv s 21 k = 3) : ok (f_X12_act N τ x1) (fun R => ACT s σ R g k c.v) := by
  obtain ⟨k1, k2, k3, k4, k5, k6, k7, k8, k9⟩ := hp.fact
  have hq := okI_3 k1 hm
  have hp0 := hp
  obtain ⟨hW, hB, hk, hT, hb, hs, hpc, hx1, hone⟩ := hp
  have hs0 := hs
  obtain ⟨s1, s2, s3, s4, s5, s6⟩ := hs
  have hx2 : (τ.a 22 x1.toNatClampNeg).toInt = gv s 22 k := hp0.g 22 (by decide)
  unfold f_X12_act
  refine ok_chk hp0.inb (ok_neg (hp0.ne hm (z := 1) (by decide) (by decide)) (ok_neg (hp0.ne hm (z := 2) (by decide) (by decide)) (ok_pos (hp0.eq hm (by decide)) ?_)))
  refine ok_chk ⟨by rw [hx2]; exact hq.1.1, by rw [hx2]; exact hq.1.2⟩ ?_
  exact act_put hB hb hs0 k3 hpc hq.2
theorem p_a4 {N : Nat} (hN : 1000 ≤ N) {s σ τ : RS} {g : Gh} {k : Nat} {c : Ctx} {x1 : Int32} (hp : PRE s σ τ g k c x1) (hm : gv s 21 k = 4) : ok (f_X12_act N τ x1) (fun R => ACT s σ R g k c.v) := by
  obtain ⟨k1, k2, k3, k4, k5, k6, k7, k8, k9⟩ := hp.fact
  have hq := okI_4 k1 hm
  have hp0 := hp
  obtain ⟨hW, hB, hk, hT, hb, hs, hpc, hx1, hone⟩ := hp
  have hs0 := hs
  obtain ⟨s1, s2, s3, s4, s5, s6⟩ := hs
  have hx2 : (τ.a 22 x1.toNatClampNeg).toInt = gv s 22 k := hp0.g 22 (by decide)
  unfold f_X12_act
  refine ok_chk hp0.inb (ok_neg (hp0.ne hm (z := 1) (by decide) (by decide)) (ok_neg (hp0.ne hm (z := 2) (by decide) (by decide)) (ok_neg (hp0.ne hm (z := 3) (by decide) (by decide)) (ok_pos (hp0.eq hm (by decide)) ?_))))
  refine ok_chk ⟨by rw [hx2]; exact hq.1.1, by rw [hx2]; exact hq.1.2⟩ ?_
  have e22 : (τ.a 22 x1.toNatClampNeg).toNatClampNeg = (gv s 22 k).toNat := by
    show (τ.a 22 x1.toNatClampNeg).toInt.toNat = _
    rw [hx2]
  have hr := hb.2.1.2.1 (gv s 22 k).toNat (by have h1 := hq.1.1; have h2 := hq.1.2; change 0 ≤ gv s 22 k at h1; change gv s 22 k < 460 at h2; omega) hq.2.1
  rw [e22]
  refine ok_chk ⟨hr.1, hr.2⟩ ?_
  exact act_put hB hb hs0 k3 hpc hq.2.2
theorem p_a5 {N : Nat} (hN : 1000 ≤ N) {s σ τ : RS} {g : Gh} {k : Nat} {c : Ctx} {x1 : Int32} (hp : PRE s σ τ g k c x1) (hm : gv s 21 k = 5) : ok (f_X12_act N τ x1) (fun R => ACT s σ R g k c.v) := by
  obtain ⟨k1, k2, k3, k4, k5, k6, k7, k8, k9⟩ := hp.fact
  have hq := okI_5 k1 hm
  have hp0 := hp
  obtain ⟨hW, hB, hk, hT, hb, hs, hpc, hx1, hone⟩ := hp
  have hs0 := hs
  obtain ⟨s1, s2, s3, s4, s5, s6⟩ := hs
  have hx2 : (τ.a 22 x1.toNatClampNeg).toInt = gv s 22 k := hp0.g 22 (by decide)
  unfold f_X12_act
  refine ok_chk hp0.inb (ok_neg (hp0.ne hm (z := 1) (by decide) (by decide)) (ok_neg (hp0.ne hm (z := 2) (by decide) (by decide)) (ok_neg (hp0.ne hm (z := 3) (by decide) (by decide)) (ok_neg (hp0.ne hm (z := 4) (by decide) (by decide)) (ok_pos (hp0.eq hm (by decide)) ?_)))))
  have e22 : (τ.a 22 x1.toNatClampNeg).toNatClampNeg = (gv s 22 k).toNat := by
    show (τ.a 22 x1.toNatClampNeg).toInt.toNat = _
    rw [hx2]
  refine ok_bind (act_take hb hs0 hq.2.2.1 (by omega)) (fun p hp => ?_)
  obtain ⟨r1, r2, r3, r4, r5⟩ := hp
  refine ok_chk ⟨by rw [hx2]; exact hq.1.1, by rw [hx2]; exact hq.1.2⟩ (ok_some ?_)
  rw [e22]
  exact act_FL hB (r1.store hq.2.1) hq.2.2.2 (show (p.2.i 92).toInt = _ by rw [r3 92 (by decide)]; exact hpc) (r2.of r2.1 rfl rfl rfl (fun k9 h1 _ => if_neg (by omega)))
theorem p_a6 {N : Nat} (hN : 1000 ≤ N) {s σ τ : RS} {g : Gh} {k : Nat} {c : Ctx} {x1 : Int32} (hp : PRE s σ τ g k c x1) (hm : gv s 21 k = 6) : ok (f_X12_act N τ x1) (fun R => ACT s σ R g k c.v) := by
  obtain ⟨k1, k2, k3, k4, k5, k6, k7, k8, k9⟩ := hp.fact
  have hq := okI_6 k1 hm
  have hp0 := hp
  obtain ⟨hW, hB, hk, hT, hb, hs, hpc, hx1, hone⟩ := hp
  have hs0 := hs
  obtain ⟨s1, s2, s3, s4, s5, s6⟩ := hs
  have hx2 : (τ.a 22 x1.toNatClampNeg).toInt = gv s 22 k := hp0.g 22 (by decide)
  unfold f_X12_act
  refine ok_chk hp0.inb (ok_neg (hp0.ne hm (z := 1) (by decide) (by decide)) (ok_neg (hp0.ne hm (z := 2) (by decide) (by decide)) (ok_neg (hp0.ne hm (z := 3) (by decide) (by decide)) (ok_neg (hp0.ne hm (z := 4) (by decide) (by decide)) (ok_neg (hp0.ne hm (z := 5) (by decide) (by decide)) (ok_pos (hp0.eq hm (by decide)) ?_))))))
  have e22 : (τ.a 22 x1.toNatClampNeg).toNatClampNeg = (gv s 22 k).toNat := by
    show (τ.a 22 x1.toNatClampNeg).toInt.toNat = _
    rw [hx2]
  refine ok_chk ⟨by rw [hx2]; exact hq.1.1, by rw [hx2]; exact hq.1.2⟩ (ok_some ?_)
  rw [e22]
  exact act_FL hB (hb.store hq.2.1) hq.2.2 (show (τ.i 92).toInt = _ from hpc) (hs0.of s1 rfl rfl rfl (fun k9 h1 _ => if_neg (by omega)))
theorem p_a7 {N : Nat} (hN : 1000 ≤ N) {s σ τ : RS} {g : Gh} {k : Nat} {c : Ctx} {x1 : Int32} (hp : PRE s σ τ g k c x1) (hm : gv s 21 k = 7) : ok (f_X12_act N τ x1) (fun R => ACT s σ R g k c.v) := by
  obtain ⟨k1, k2, k3, k4, k5, k6, k7, k8, k9⟩ := hp.fact
  have hq := okI_7 k1 hm
  have hp0 := hp
  obtain ⟨hW, hB, hk, hT, hb, hs, hpc, hx1, hone⟩ := hp
  have hs0 := hs
  obtain ⟨s1, s2, s3, s4, s5, s6⟩ := hs
  have hx2 : (τ.a 22 x1.toNatClampNeg).toInt = gv s 22 k := hp0.g 22 (by decide)
  unfold f_X12_act
  refine ok_chk hp0.inb (ok_neg (hp0.ne hm (z := 1) (by decide) (by decide)) (ok_neg (hp0.ne hm (z := 2) (by decide) (by decide)) (ok_neg (hp0.ne hm (z := 3) (by decide) (by decide)) (ok_neg (hp0.ne hm (z := 4) (by decide) (by decide)) (ok_neg (hp0.ne hm (z := 5) (by decide) (by decide)) (ok_neg (hp0.ne hm (z := 6) (by decide) (by decide)) (ok_pos (hp0.eq hm (by decide)) ?_)))))))
  refine ok_bind (act_take hb hs0 hq.1 (by omega)) (fun p hp => ?_)
  obtain ⟨r1, r2, r3, r4, r5⟩ := hp
  have hh : 1 ≤ c.h := hq.1
  exact act_put hB r1 r2 (by omega) (by rw [r3 92 (by decide)]; exact hpc) (by rw [Nat.sub_add_cancel hh]; exact hq.2)
theorem p_a10 {N : Nat} (hN : 1000 ≤ N) {s σ τ : RS} {g : Gh} {k : Nat} {c : Ctx} {x1 : Int32} (hp : PRE s σ τ g k c x1) (hm : gv s 21 k = 10) : ok (f_X12_act N τ x1) (fun R => ACT s σ R g k c.v) := by
  obtain ⟨k1, k2, k3, k4, k5, k6, k7, k8, k9⟩ := hp.fact
  have hq := okI_10 k1 hm
  have hp0 := hp
  obtain ⟨hW, hB, hk, hT, hb, hs, hpc, hx1, hone⟩ := hp
  have hs0 := hs
  obtain ⟨s1, s2, s3, s4, s5, s6⟩ := hs
  have hx2 : (τ.a 22 x1.toNatClampNeg).toInt = gv s 22 k := hp0.g 22 (by decide)
  unfold f_X12_act
  refine ok_chk hp0.inb (ok_neg (hp0.ne hm (z := 1) (by decide) (by decide)) (ok_neg (hp0.ne hm (z := 2) (by decide) (by decide)) (ok_neg (hp0.ne hm (z := 3) (by decide) (by decide)) (ok_neg (hp0.ne hm (z := 4) (by decide) (by decide)) (ok_neg (hp0.ne hm (z := 5) (by decide) (by decide)) (ok_neg (hp0.ne hm (z := 6) (by decide) (by decide)) (ok_neg (hp0.ne hm (z := 7) (by decide) (by decide)) (ok_neg (hp0.ne hm (z := 8) (by decide) (by decide)) (ok_neg (hp0.ne hm (z := 9) (by decide) (by decide)) (ok_pos (hp0.eq hm (by decide)) ?_))))))))))
  refine ok_bind (act_take hb hs0 hq.1 (by omega)) (fun p hp => ?_)
  obtain ⟨r1, r2, r3, r4, r5⟩ := hp
  have hh : 1 ≤ c.h := hq.1
  exact act_put hB r1 r2 (by omega) (by rw [r3 92 (by decide)]; exact hpc) (by rw [Nat.sub_add_cancel hh]; exact hq.2)
theorem p_a8 {N : Nat} (hN : 1000 ≤ N) {s σ τ : RS} {g : Gh} {k : Nat} {c : Ctx} {x1 : Int32} (hp : PRE s σ τ g k c x1) (hm : gv s 21 k = 8) : ok (f_X12_act N τ x1) (fun R => ACT s σ R g k c.v) := by
  obtain ⟨k1, k2, k3, k4, k5, k6, k7, k8, k9⟩ := hp.fact
  have hq := okI_8 k1 hm
  have hp0 := hp
  obtain ⟨hW, hB, hk, hT, hb, hs, hpc, hx1, hone⟩ := hp
  have hs0 := hs
  obtain ⟨s1, s2, s3, s4, s5, s6⟩ := hs
  have hx2 : (τ.a 22 x1.toNatClampNeg).toInt = gv s 22 k := hp0.g 22 (by decide)
  unfold f_X12_act
  refine ok_chk hp0.inb (ok_neg (hp0.ne hm (z := 1) (by decide) (by decide)) (ok_neg (hp0.ne hm (z := 2) (by decide) (by decide)) (ok_neg (hp0.ne hm (z := 3) (by decide) (by decide)) (ok_neg (hp0.ne hm (z := 4) (by decide) (by decide)) (ok_neg (hp0.ne hm (z := 5) (by decide) (by decide)) (ok_neg (hp0.ne hm (z := 6) (by decide) (by decide)) (ok_neg (hp0.ne hm (z := 7) (by decide) (by decide)) (ok_pos (hp0.eq hm (by decide)) ?_))))))))
  have hh : 2 ≤ c.h := hq.1
  refine ok_bind (act_take hb hs0 (by omega) (by omega)) (fun p hp => ?_)
  obtain ⟨r1, r2, r3, r4, r5⟩ := hp
  refine ok_bind (act_take r1 r2 (by omega) (by omega)) (fun q hq9 => ?_)
  obtain ⟨u1, u2, u3, u4, u5⟩ := hq9
  have h92 : (q.2.i 92).toInt = (k : Int) + 1 := by rw [u3 92 (by decide), r3 92 (by decide)]; exact hpc
  have hf : FL s g c.v ((k : Int) + 1) ((k : Int) + 1) (c.h - 1 - 1 + 1) c.o c.rs := by rw [show c.h - 1 - 1 + 1 = c.h - 1 by omega]; exact hq.2
  refine ok_ite (fun _ => act_212 hN hp0 u1 u2 (by omega) h92 hf) (fun e1 => ok_ite (fun _ => act_212 hN hp0 u1 u2 (by omega) h92 hf) (fun e2 => act_229 hB u1 u2 (by omega) h92 hf (fun e => ?_)))
  rcases e with e | e
  · exact absurd e e2
  · exact absurd e e1
theorem p_a9 {N : Nat} (hN : 1000 ≤ N) {s σ τ : RS} {g : Gh} {k : Nat} {c : Ctx} {x1 : Int32} (hp : PRE s σ τ g k c x1) (hm : gv s 21 k = 9) : ok (f_X12_act N τ x1) (fun R => ACT s σ R g k c.v) := by
  obtain ⟨k1, k2, k3, k4, k5, k6, k7, k8, k9⟩ := hp.fact
  have hq := okI_9 k1 hm
  have hp0 := hp
  obtain ⟨hW, hB, hk, hT, hb, hs, hpc, hx1, hone⟩ := hp
  have hs0 := hs
  obtain ⟨s1, s2, s3, s4, s5, s6⟩ := hs
  have hx2 : (τ.a 22 x1.toNatClampNeg).toInt = gv s 22 k := hp0.g 22 (by decide)
  unfold f_X12_act
  refine ok_chk hp0.inb (ok_neg (hp0.ne hm (z := 1) (by decide) (by decide)) (ok_neg (hp0.ne hm (z := 2) (by decide) (by decide)) (ok_neg (hp0.ne hm (z := 3) (by decide) (by decide)) (ok_neg (hp0.ne hm (z := 4) (by decide) (by decide)) (ok_neg (hp0.ne hm (z := 5) (by decide) (by decide)) (ok_neg (hp0.ne hm (z := 6) (by decide) (by decide)) (ok_neg (hp0.ne hm (z := 7) (by decide) (by decide)) (ok_neg (hp0.ne hm (z := 8) (by decide) (by decide)) (ok_pos (hp0.eq hm (by decide)) ?_)))))))))
  have hh : 2 ≤ c.h := hq.1
  refine ok_bind (act_take hb hs0 (by omega) (by omega)) (fun p hp => ?_)
  obtain ⟨r1, r2, r3, r4, r5⟩ := hp
  refine ok_bind (act_take r1 r2 (by omega) (by omega)) (fun q hq9 => ?_)
  obtain ⟨u1, u2, u3, u4, u5⟩ := hq9
  have h92 : (q.2.i 92).toInt = (k : Int) + 1 := by rw [u3 92 (by decide), r3 92 (by decide)]; exact hpc
  have hf : FL s g c.v ((k : Int) + 1) ((k : Int) + 1) (c.h - 1 - 1 + 1) c.o c.rs := by rw [show c.h - 1 - 1 + 1 = c.h - 1 by omega]; exact hq.2
  refine ok_ite (fun _ => act_212 hN hp0 u1 u2 (by omega) h92 hf) (fun e1 => ok_ite (fun _ => act_212 hN hp0 u1 u2 (by omega) h92 hf) (fun e2 => act_229 hB u1 u2 (by omega) h92 hf (fun e => ?_)))
  rcases e with e | e
  · exact absurd e e2
  · exact absurd e e1
theorem p_a11 {N : Nat} (hN : 1000 ≤ N) {s σ τ : RS} {g : Gh} {k : Nat} {c : Ctx} {x1 : Int32} (hp : PRE s σ τ g k c x1) (hm : gv s 21 k = 11) : ok (f_X12_act N τ x1) (fun R => ACT s σ R g k c.v) := by
  obtain ⟨k1, k2, k3, k4, k5, k6, k7, k8, k9⟩ := hp.fact
  have hq := okI_11 k1 hm
  have hp0 := hp
  obtain ⟨hW, hB, hk, hT, hb, hs, hpc, hx1, hone⟩ := hp
  have hs0 := hs
  obtain ⟨s1, s2, s3, s4, s5, s6⟩ := hs
  have hx2 : (τ.a 22 x1.toNatClampNeg).toInt = gv s 22 k := hp0.g 22 (by decide)
  unfold f_X12_act
  refine ok_chk hp0.inb (ok_neg (hp0.ne hm (z := 1) (by decide) (by decide)) (ok_neg (hp0.ne hm (z := 2) (by decide) (by decide)) (ok_neg (hp0.ne hm (z := 3) (by decide) (by decide)) (ok_neg (hp0.ne hm (z := 4) (by decide) (by decide)) (ok_neg (hp0.ne hm (z := 5) (by decide) (by decide)) (ok_neg (hp0.ne hm (z := 6) (by decide) (by decide)) (ok_neg (hp0.ne hm (z := 7) (by decide) (by decide)) (ok_neg (hp0.ne hm (z := 8) (by decide) (by decide)) (ok_neg (hp0.ne hm (z := 9) (by decide) (by decide)) (ok_neg (hp0.ne hm (z := 10) (by decide) (by decide)) (ok_pos (hp0.eq hm (by decide)) ?_)))))))))))
  have hh : 1 ≤ c.h := hq.1
  have e1 : (1 : Int32).toInt = 1 := by decide
  have hsub : (τ.i 93 - 1).toInt = ((c.h - 1 : Nat) : Int) := by rw [toInt_sub] <;> rw [e1, s1] <;> omega
  have drop : ok (f_X12_act_290 N τ) (fun R => ACT s σ R g k c.v) := by
    unfold f_X12_act_290
    exact ok_some (act_FL hB (hb.of (RX.i _ _ _ (by decide)) rfl rfl rfl rfl rfl rfl rfl rfl rfl) hq.2.2 (show (τ.i 92).toInt = _ from hpc) (hs0.of (show (τ.i 93 - 1).toInt = _ from hsub) rfl rfl rfl (fun _ _ _ => rfl)))
  have jump : ok (f_X12_act_282 N τ (τ.a 22 x1.toNatClampNeg)) (fun R => ACT s σ R g k c.v) := by
    unfold f_X12_act_282
    exact ok_some (act_FL hB (hb.of (RX.i _ _ _ (by decide)) rfl rfl rfl rfl rfl rfl rfl rfl rfl) hq.2.1 (show (τ.a 22 x1.toNatClampNeg).toInt = _ from hx2) (hs0.of s1 rfl rfl rfl (fun _ _ _ => rfl)))
  exact ok_chk ⟨by rw [hsub]; omega, by rw [hsub]; omega⟩ (ok_ite (fun _ => drop) (fun _ => jump))
theorem p_a12 {N : Nat} (hN : 1000 ≤ N) {s σ τ : RS} {g : Gh} {k : Nat} {c : Ctx} {x1 : Int32} (hp : PRE s σ τ g k c x1) (hm : gv s 21 k = 12) : ok (f_X12_act N τ x1) (fun R => ACT s σ R g k c.v) := by
  obtain ⟨k1, k2, k3, k4, k5, k6, k7, k8, k9⟩ := hp.fact
  have hq := okI_12 k1 hm
  have hp0 := hp
  obtain ⟨hW, hB, hk, hT, hb, hs, hpc, hx1, hone⟩ := hp
  have hs0 := hs
  obtain ⟨s1, s2, s3, s4, s5, s6⟩ := hs
  have hx2 : (τ.a 22 x1.toNatClampNeg).toInt = gv s 22 k := hp0.g 22 (by decide)
  unfold f_X12_act
  refine ok_chk hp0.inb (ok_neg (hp0.ne hm (z := 1) (by decide) (by decide)) (ok_neg (hp0.ne hm (z := 2) (by decide) (by decide)) (ok_neg (hp0.ne hm (z := 3) (by decide) (by decide)) (ok_neg (hp0.ne hm (z := 4) (by decide) (by decide)) (ok_neg (hp0.ne hm (z := 5) (by decide) (by decide)) (ok_neg (hp0.ne hm (z := 6) (by decide) (by decide)) (ok_neg (hp0.ne hm (z := 7) (by decide) (by decide)) (ok_neg (hp0.ne hm (z := 8) (by decide) (by decide)) (ok_neg (hp0.ne hm (z := 9) (by decide) (by decide)) (ok_neg (hp0.ne hm (z := 10) (by decide) (by decide)) (ok_neg (hp0.ne hm (z := 11) (by decide) (by decide)) (ok_pos (hp0.eq hm (by decide)) ?_))))))))))))
  have hh : 1 ≤ c.h := hq.1
  have e1 : (1 : Int32).toInt = 1 := by decide
  have hsub : (τ.i 93 - 1).toInt = ((c.h - 1 : Nat) : Int) := by rw [toInt_sub] <;> rw [e1, s1] <;> omega
  have drop : ok (f_X12_act_290 N τ) (fun R => ACT s σ R g k c.v) := by
    unfold f_X12_act_290
    exact ok_some (act_FL hB (hb.of (RX.i _ _ _ (by decide)) rfl rfl rfl rfl rfl rfl rfl rfl rfl) hq.2.2 (show (τ.i 92).toInt = _ from hpc) (hs0.of (show (τ.i 93 - 1).toInt = _ from hsub) rfl rfl rfl (fun _ _ _ => rfl)))
  have jump : ok (f_X12_act_282 N τ (τ.a 22 x1.toNatClampNeg)) (fun R => ACT s σ R g k c.v) := by
    unfold f_X12_act_282
    exact ok_some (act_FL hB (hb.of (RX.i _ _ _ (by decide)) rfl rfl rfl rfl rfl rfl rfl rfl rfl) hq.2.1 (show (τ.a 22 x1.toNatClampNeg).toInt = _ from hx2) (hs0.of s1 rfl rfl rfl (fun _ _ _ => rfl)))
  exact ok_chk ⟨by rw [hsub]; omega, by rw [hsub]; omega⟩ (ok_ite (fun _ => jump) (fun _ => drop))
theorem p_a13 {N : Nat} (hN : 1000 ≤ N) {s σ τ : RS} {g : Gh} {k : Nat} {c : Ctx} {x1 : Int32} (hp : PRE s σ τ g k c x1) (hm : gv s 21 k = 13) : ok (f_X12_act N τ x1) (fun R => ACT s σ R g k c.v) := by
  obtain ⟨k1, k2, k3, k4, k5, k6, k7, k8, k9⟩ := hp.fact
  have hq := okI_13 k1 hm
  have hp0 := hp
  obtain ⟨hW, hB, hk, hT, hb, hs, hpc, hx1, hone⟩ := hp
  have hs0 := hs
  obtain ⟨s1, s2, s3, s4, s5, s6⟩ := hs
  have hx2 : (τ.a 22 x1.toNatClampNeg).toInt = gv s 22 k := hp0.g 22 (by decide)
  unfold f_X12_act
  refine ok_chk hp0.inb (ok_neg (hp0.ne hm (z := 1) (by decide) (by decide)) (ok_neg (hp0.ne hm (z := 2) (by decide) (by decide)) (ok_neg (hp0.ne hm (z := 3) (by decide) (by decide)) (ok_neg (hp0.ne hm (z := 4) (by decide) (by decide)) (ok_neg (hp0.ne hm (z := 5) (by decide) (by decide)) (ok_neg (hp0.ne hm (z := 6) (by decide) (by decide)) (ok_neg (hp0.ne hm (z := 7) (by decide) (by decide)) (ok_neg (hp0.ne hm (z := 8) (by decide) (by decide)) (ok_neg (hp0.ne hm (z := 9) (by decide) (by decide)) (ok_neg (hp0.ne hm (z := 10) (by decide) (by decide)) (ok_neg (hp0.ne hm (z := 11) (by decide) (by decide)) (ok_neg (hp0.ne hm (z := 12) (by decide) (by decide)) (ok_pos (hp0.eq hm (by decide)) ?_)))))))))))))
  have hh : 1 ≤ c.h := hq.1
  refine ok_bind (act_take hb hs0 hh (by omega)) (fun p hp => ?_)
  obtain ⟨r1, r2, r3, r4, r5⟩ := hp
  have h1 : p.1 = 0 → c.one = false := by
    intro e
    cases ho : c.one with
    | false => rfl
    | true =>
      have h9 := hone ho
      have : gv τ 94 (c.h - 1) = 0 := by unfold gv; rw [← r5, e]; exact z_t0
      omega
  unfold f_X12_act_322
  exact ok_ite (fun e => ok_some (act_FL hB (r1.of (RX.i _ _ _ (by decide)) rfl rfl rfl rfl rfl rfl rfl rfl rfl) (hq.2.1 (h1 e)) (show (τ.a 22 x1.toNatClampNeg).toInt = _ from hx2) (r2.of r2.1 rfl rfl rfl (fun _ _ _ => rfl)))) (fun e => ok_some (act_FL hB (r1.of (RX.i _ _ _ (by decide)) rfl rfl rfl rfl rfl rfl rfl rfl rfl) hq.2.2 (show (p.2.i 92).toInt = _ by rw [r3 92 (by decide)]; exact hpc) (r2.of r2.1 rfl rfl rfl (fun _ _ _ => rfl))))
theorem p_a14 {N : Nat} (hN : 1000 ≤ N) {s σ τ : RS} {g : Gh} {k : Nat} {c : Ctx} {x1 : Int32} (hp : PRE s σ τ g k c x1) (hm : gv s 21 k = 14) : ok (f_X12_act N τ x1) (fun R => ACT s σ R g k c.v) := by
  obtain ⟨k1, k2, k3, k4, k5, k6, k7, k8, k9⟩ := hp.fact
  have hq := okI_14 k1 hm
  have hp0 := hp
  obtain ⟨hW, hB, hk, hT, hb, hs, hpc, hx1, hone⟩ := hp
  have hs0 := hs
  obtain ⟨s1, s2, s3, s4, s5, s6⟩ := hs
  have hx2 : (τ.a 22 x1.toNatClampNeg).toInt = gv s 22 k := hp0.g 22 (by decide)
  unfold f_X12_act
  refine ok_chk hp0.inb (ok_neg (hp0.ne hm (z := 1) (by decide) (by decide)) (ok_neg (hp0.ne hm (z := 2) (by decide) (by decide)) (ok_neg (hp0.ne hm (z := 3) (by decide) (by decide)) (ok_neg (hp0.ne hm (z := 4) (by decide) (by decide)) (ok_neg (hp0.ne hm (z := 5) (by decide) (by decide)) (ok_neg (hp0.ne hm (z := 6) (by decide) (by decide)) (ok_neg (hp0.ne hm (z := 7) (by decide) (by decide)) (ok_neg (hp0.ne hm (z := 8) (by decide) (by decide)) (ok_neg (hp0.ne hm (z := 9) (by decide) (by decide)) (ok_neg (hp0.ne hm (z := 10) (by decide) (by decide)) (ok_neg (hp0.ne hm (z := 11) (by decide) (by decide)) (ok_neg (hp0.ne hm (z := 12) (by decide) (by decide)) (ok_neg (hp0.ne hm (z := 13) (by decide) (by decide)) (ok_pos (hp0.eq hm (by decide)) ?_))))))))))))))
  have hh : 1 ≤ c.h := hq.1
  refine ok_bind (act_take hb hs0 hh (by omega)) (fun p hp => ?_)
  obtain ⟨r1, r2, r3, r4, r5⟩ := hp
  have h1 : p.1 = 0 → c.one = false := by
    intro e
    cases ho : c.one with
    | false => rfl
    | true =>
      have h9 := hone ho
      have : gv τ 94 (c.h - 1) = 0 := by unfold gv; rw [← r5, e]; exact z_t0
      omega
  unfold f_X12_act_344
  exact ok_ite (fun e => ok_some (act_FL hB (r1.of (RX.i _ _ _ (by decide)) rfl rfl rfl rfl rfl rfl rfl rfl rfl) (hq.2.2 (h1 e)) (show (p.2.i 92).toInt = _ by rw [r3 92 (by decide)]; exact hpc) (r2.of r2.1 rfl rfl rfl (fun _ _ _ => rfl)))) (fun e => ok_some (act_FL hB (r1.of (RX.i _ _ _ (by decide)) rfl rfl rfl rfl rfl rfl rfl rfl rfl) hq.2.1 (show (τ.a 22 x1.toNatClampNeg).toInt = _ from hx2) (r2.of r2.1 rfl rfl rfl (fun _ _ _ => rfl))))
theorem p_a15 {N : Nat} (hN : 1000 ≤ N) {s σ τ : RS} {g : Gh} {k : Nat} {c : Ctx} {x1 : Int32} (hp : PRE s σ τ g k c x1) (hm : gv s 21 k = 15) : ok (f_X12_act N τ x1) (fun R => ACT s σ R g k c.v) := by
  obtain ⟨k1, k2, k3, k4, k5, k6, k7, k8, k9⟩ := hp.fact
  have hq := okI_15 k1 hm
  have hp0 := hp
  obtain ⟨hW, hB, hk, hT, hb, hs, hpc, hx1, hone⟩ := hp
  have hs0 := hs
  obtain ⟨s1, s2, s3, s4, s5, s6⟩ := hs
  have hx2 : (τ.a 22 x1.toNatClampNeg).toInt = gv s 22 k := hp0.g 22 (by decide)
  unfold f_X12_act
  refine ok_chk hp0.inb (ok_neg (hp0.ne hm (z := 1) (by decide) (by decide)) (ok_neg (hp0.ne hm (z := 2) (by decide) (by decide)) (ok_neg (hp0.ne hm (z := 3) (by decide) (by decide)) (ok_neg (hp0.ne hm (z := 4) (by decide) (by decide)) (ok_neg (hp0.ne hm (z := 5) (by decide) (by decide)) (ok_neg (hp0.ne hm (z := 6) (by decide) (by decide)) (ok_neg (hp0.ne hm (z := 7) (by decide) (by decide)) (ok_neg (hp0.ne hm (z := 8) (by decide) (by decide)) (ok_neg (hp0.ne hm (z := 9) (by decide) (by decide)) (ok_neg (hp0.ne hm (z := 10) (by decide) (by decide)) (ok_neg (hp0.ne hm (z := 11) (by decide) (by decide)) (ok_neg (hp0.ne hm (z := 12) (by decide) (by decide)) (ok_neg (hp0.ne hm (z := 13) (by decide) (by decide)) (ok_neg (hp0.ne hm (z := 14) (by decide) (by decide)) (ok_pos (hp0.eq hm (by decide)) ?_)))))))))))))))
  exact ok_some (act_FL hB (hb.of (RX.i _ _ _ (by decide)) rfl rfl rfl rfl rfl rfl rfl rfl rfl) hq (show (τ.a 22 x1.toNatClampNeg).toInt = _ from hx2) (hs0.of s1 rfl rfl rfl (fun _ _ _ => rfl)))
theorem p_a16 {N : Nat} (hN : 1000 ≤ N) {s σ τ : RS} {g : Gh} {k : Nat} {c : Ctx} {x1 : Int32} (hp : PRE s σ τ g k c x1) (hm : gv s 21 k = 16) : ok (f_X12_act N τ x1) (fun R => ACT s σ R g k c.v) := by
  obtain ⟨k1, k2, k3, k4, k5, k6, k7, k8, k9⟩ := hp.fact
  have hq := okI_16 k1 hm
  have hp0 := hp
  obtain ⟨hW, hB, hk, hT, hb, hs, hpc, hx1, hone⟩ := hp
  have hs0 := hs
  obtain ⟨s1, s2, s3, s4, s5, s6⟩ := hs
  have hx2 : (τ.a 22 x1.toNatClampNeg).toInt = gv s 22 k := hp0.g 22 (by decide)
  unfold f_X12_act
  refine ok_chk hp0.inb (ok_neg (hp0.ne hm (z := 1) (by decide) (by decide)) (ok_neg (hp0.ne hm (z := 2) (by decide) (by decide)) (ok_neg (hp0.ne hm (z := 3) (by decide) (by decide)) (ok_neg (hp0.ne hm (z := 4) (by decide) (by decide)) (ok_neg (hp0.ne hm (z := 5) (by decide) (by decide)) (ok_neg (hp0.ne hm (z := 6) (by decide) (by decide)) (ok_neg (hp0.ne hm (z := 7) (by decide) (by decide)) (ok_neg (hp0.ne hm (z := 8) (by decide) (by decide)) (ok_neg (hp0.ne hm (z := 9) (by decide) (by decide)) (ok_neg (hp0.ne hm (z := 10) (by decide) (by decide)) (ok_neg (hp0.ne hm (z := 11) (by decide) (by decide)) (ok_neg (hp0.ne hm (z := 12) (by decide) (by decide)) (ok_neg (hp0.ne hm (z := 13) (by decide) (by decide)) (ok_neg (hp0.ne hm (z := 14) (by decide) (by decide)) (ok_neg (hp0.ne hm (z := 15) (by decide) (by decide)) (ok_pos (hp0.eq hm (by decide)) ?_))))))))))))))))
  have hh : 1 ≤ c.h := hq.1
  refine ok_bind (act_take hb hs0 hh (by omega)) (fun p hp => ?_)
  obtain ⟨r1, r2, r3, r4, r5⟩ := hp
  have hD := r1.2.1
  refine ok_bind (p_row N p.2 0 p.1 hD.2.2.1.1 hD.2.2.1.2) (fun q hq9 => ok_some ?_)
  obtain ⟨a1, a2, a3, a4, a5⟩ := hq9
  exact act_FL hB (r1.row a1 a2 a3 a4 a5) hq.2 (by rw [a4 92 (by decide), r3 92 (by decide)]; exact hpc) (r2.row a4 a5)
theorem p_e23 {N : Nat} (hN : 1000 ≤ N) {s σ τ : RS} {g : Gh} {k : Nat} {c : Ctx} {x1 x2 : Int32} (hp0 : PRE s σ τ g k c x1) (hx2 : x2.toInt = gv s 22 k) (hm : gv s 21 k = 23) : ok (f_X12_ends N τ x1 x2) (fun R => ACT s σ R g k c.v) := by
  unfold f_X12_ends
  refine ok_chk hp0.inb (ok_neg (hp0.ne hm (z := 17) (by decide) (by decide)) (ok_neg (hp0.ne hm (z := 18) (by decide) (by decide)) (ok_neg (hp0.ne hm (z := 19) (by decide) (by decide)) (ok_neg (hp0.ne hm (z := 20) (by decide) (by decide)) (ok_neg (hp0.ne hm (z := 21) (by decide) (by decide)) (ok_neg (hp0.ne hm (z := 22) (by decide) (by decide)) (ok_pos (hp0.eq hm (by decide)) (ok_bind (p_o23 hN hp0 hx2 hm) (fun R hR => ok_some hR)))))))))
theorem p_e24 {N : Nat} (hN : 1000 ≤ N) {s σ τ : RS} {g : Gh} {k : Nat} {c : Ctx} {x1 x2 : Int32} (hp0 : PRE s σ τ g k c x1) (hx2 : x2.toInt = gv s 22 k) (hm : gv s 21 k = 24) : ok (f_X12_ends N τ x1 x2) (fun R => ACT s σ R g k c.v) := by
  unfold f_X12_ends
  refine ok_chk hp0.inb (ok_neg (hp0.ne hm (z := 17) (by decide) (by decide)) (ok_neg (hp0.ne hm (z := 18) (by decide) (by decide)) (ok_neg (hp0.ne hm (z := 19) (by decide) (by decide)) (ok_neg (hp0.ne hm (z := 20) (by decide) (by decide)) (ok_neg (hp0.ne hm (z := 21) (by decide) (by decide)) (ok_neg (hp0.ne hm (z := 22) (by decide) (by decide)) (ok_neg (hp0.ne hm (z := 23) (by decide) (by decide)) (ok_pos (hp0.eq hm (by decide)) (ok_bind (p_o24 hp0 hx2 hm) (fun R hR => ok_some hR))))))))))
theorem p_e25 {N : Nat} (hN : 1000 ≤ N) {s σ τ : RS} {g : Gh} {k : Nat} {c : Ctx} {x1 x2 : Int32} (hp0 : PRE s σ τ g k c x1) (hx2 : x2.toInt = gv s 22 k) (hm : gv s 21 k = 25) : ok (f_X12_ends N τ x1 x2) (fun R => ACT s σ R g k c.v) := by
  unfold f_X12_ends
  refine ok_chk hp0.inb (ok_neg (hp0.ne hm (z := 17) (by decide) (by decide)) (ok_neg (hp0.ne hm (z := 18) (by decide) (by decide)) (ok_neg (hp0.ne hm (z := 19) (by decide) (by decide)) (ok_neg (hp0.ne hm (z := 20) (by decide) (by decide)) (ok_neg (hp0.ne hm (z := 21) (by decide) (by decide)) (ok_neg (hp0.ne hm (z := 22) (by decide) (by decide)) (ok_neg (hp0.ne hm (z := 23) (by decide) (by decide)) (ok_neg (hp0.ne hm (z := 24) (by decide) (by decide)) (ok_pos (hp0.eq hm (by decide)) (ok_bind (p_o25 hp0 hm) (fun R hR => ok_some hR)))))))))))
theorem p_e31 {N : Nat} (hN : 1000 ≤ N) {s σ τ : RS} {g : Gh} {k : Nat} {c : Ctx} {x1 x2 : Int32} (hp0 : PRE s σ τ g k c x1) (hx2 : x2.toInt = gv s 22 k) (hm : gv s 21 k = 31) : ok (f_X12_ends N τ x1 x2) (fun R => ACT s σ R g k c.v) := by
  unfold f_X12_ends
  refine ok_chk hp0.inb (ok_neg (hp0.ne hm (z := 17) (by decide) (by decide)) (ok_neg (hp0.ne hm (z := 18) (by decide) (by decide)) (ok_neg (hp0.ne hm (z := 19) (by decide) (by decide)) (ok_neg (hp0.ne hm (z := 20) (by decide) (by decide)) (ok_neg (hp0.ne hm (z := 21) (by decide) (by decide)) (ok_neg (hp0.ne hm (z := 22) (by decide) (by decide)) (ok_neg (hp0.ne hm (z := 23) (by decide) (by decide)) (ok_neg (hp0.ne hm (z := 24) (by decide) (by decide)) (ok_neg (hp0.ne hm (z := 25) (by decide) (by decide)) (ok_neg (hp0.ne hm (z := 26) (by decide) (by decide)) (ok_neg (hp0.ne hm (z := 27) (by decide) (by decide)) (ok_neg (hp0.ne hm (z := 28) (by decide) (by decide)) (ok_neg (hp0.ne hm (z := 29) (by decide) (by decide)) (ok_neg (hp0.ne hm (z := 30) (by decide) (by decide)) (ok_pos (hp0.eq hm (by decide)) (ok_bind (p_o31 hp0 hx2 hm) (fun R hR => ok_some hR)))))))))))))))))
theorem p_e32 {N : Nat} (hN : 1000 ≤ N) {s σ τ : RS} {g : Gh} {k : Nat} {c : Ctx} {x1 x2 : Int32} (hp0 : PRE s σ τ g k c x1) (hx2 : x2.toInt = gv s 22 k) (hm : gv s 21 k = 32) : ok (f_X12_ends N τ x1 x2) (fun R => ACT s σ R g k c.v) := by
  unfold f_X12_ends
  refine ok_chk hp0.inb (ok_neg (hp0.ne hm (z := 17) (by decide) (by decide)) (ok_neg (hp0.ne hm (z := 18) (by decide) (by decide)) (ok_neg (hp0.ne hm (z := 19) (by decide) (by decide)) (ok_neg (hp0.ne hm (z := 20) (by decide) (by decide)) (ok_neg (hp0.ne hm (z := 21) (by decide) (by decide)) (ok_neg (hp0.ne hm (z := 22) (by decide) (by decide)) (ok_neg (hp0.ne hm (z := 23) (by decide) (by decide)) (ok_neg (hp0.ne hm (z := 24) (by decide) (by decide)) (ok_neg (hp0.ne hm (z := 25) (by decide) (by decide)) (ok_neg (hp0.ne hm (z := 26) (by decide) (by decide)) (ok_neg (hp0.ne hm (z := 27) (by decide) (by decide)) (ok_neg (hp0.ne hm (z := 28) (by decide) (by decide)) (ok_neg (hp0.ne hm (z := 29) (by decide) (by decide)) (ok_neg (hp0.ne hm (z := 30) (by decide) (by decide)) (ok_neg (hp0.ne hm (z := 31) (by decide) (by decide)) (ok_pos (hp0.eq hm (by decide)) (ok_bind (p_o32 hN hp0 hx2 hm) (fun R hR => ok_some hR))))))))))))))))))
theorem p_e33 {N : Nat} (hN : 1000 ≤ N) {s σ τ : RS} {g : Gh} {k : Nat} {c : Ctx} {x1 x2 : Int32} (hp0 : PRE s σ τ g k c x1) (hx2 : x2.toInt = gv s 22 k) (hm : gv s 21 k = 33) : ok (f_X12_ends N τ x1 x2) (fun R => ACT s σ R g k c.v) := by
  unfold f_X12_ends
  refine ok_chk hp0.inb (ok_neg (hp0.ne hm (z := 17) (by decide) (by decide)) (ok_neg (hp0.ne hm (z := 18) (by decide) (by decide)) (ok_neg (hp0.ne hm (z := 19) (by decide) (by decide)) (ok_neg (hp0.ne hm (z := 20) (by decide) (by decide)) (ok_neg (hp0.ne hm (z := 21) (by decide) (by decide)) (ok_neg (hp0.ne hm (z := 22) (by decide) (by decide)) (ok_neg (hp0.ne hm (z := 23) (by decide) (by decide)) (ok_neg (hp0.ne hm (z := 24) (by decide) (by decide)) (ok_neg (hp0.ne hm (z := 25) (by decide) (by decide)) (ok_neg (hp0.ne hm (z := 26) (by decide) (by decide)) (ok_neg (hp0.ne hm (z := 27) (by decide) (by decide)) (ok_neg (hp0.ne hm (z := 28) (by decide) (by decide)) (ok_neg (hp0.ne hm (z := 29) (by decide) (by decide)) (ok_neg (hp0.ne hm (z := 30) (by decide) (by decide)) (ok_neg (hp0.ne hm (z := 31) (by decide) (by decide)) (ok_neg (hp0.ne hm (z := 32) (by decide) (by decide)) (ok_pos (hp0.eq hm (by decide)) (ok_bind (p_o33 hN hp0 hm) (fun R hR => ok_some hR)))))))))))))))))))
theorem p_e34 {N : Nat} (hN : 1000 ≤ N) {s σ τ : RS} {g : Gh} {k : Nat} {c : Ctx} {x1 x2 : Int32} (hp0 : PRE s σ τ g k c x1) (hx2 : x2.toInt = gv s 22 k) (hm : gv s 21 k = 34) : ok (f_X12_ends N τ x1 x2) (fun R => ACT s σ R g k c.v) := by
  unfold f_X12_ends
  refine ok_chk hp0.inb (ok_neg (hp0.ne hm (z := 17) (by decide) (by decide)) (ok_neg (hp0.ne hm (z := 18) (by decide) (by decide)) (ok_neg (hp0.ne hm (z := 19) (by decide) (by decide)) (ok_neg (hp0.ne hm (z := 20) (by decide) (by decide)) (ok_neg (hp0.ne hm (z := 21) (by decide) (by decide)) (ok_neg (hp0.ne hm (z := 22) (by decide) (by decide)) (ok_neg (hp0.ne hm (z := 23) (by decide) (by decide)) (ok_neg (hp0.ne hm (z := 24) (by decide) (by decide)) (ok_neg (hp0.ne hm (z := 25) (by decide) (by decide)) (ok_neg (hp0.ne hm (z := 26) (by decide) (by decide)) (ok_neg (hp0.ne hm (z := 27) (by decide) (by decide)) (ok_neg (hp0.ne hm (z := 28) (by decide) (by decide)) (ok_neg (hp0.ne hm (z := 29) (by decide) (by decide)) (ok_neg (hp0.ne hm (z := 30) (by decide) (by decide)) (ok_neg (hp0.ne hm (z := 31) (by decide) (by decide)) (ok_neg (hp0.ne hm (z := 32) (by decide) (by decide)) (ok_neg (hp0.ne hm (z := 33) (by decide) (by decide)) (ok_pos (hp0.eq hm (by decide)) (ok_bind (p_o34 hp0 hm) (fun R hR => ok_some hR))))))))))))))))))))
theorem p_e35 {N : Nat} (hN : 1000 ≤ N) {s σ τ : RS} {g : Gh} {k : Nat} {c : Ctx} {x1 x2 : Int32} (hp0 : PRE s σ τ g k c x1) (hx2 : x2.toInt = gv s 22 k) (hm : gv s 21 k = 35) : ok (f_X12_ends N τ x1 x2) (fun R => ACT s σ R g k c.v) := by
  unfold f_X12_ends
  refine ok_chk hp0.inb (ok_neg (hp0.ne hm (z := 17) (by decide) (by decide)) (ok_neg (hp0.ne hm (z := 18) (by decide) (by decide)) (ok_neg (hp0.ne hm (z := 19) (by decide) (by decide)) (ok_neg (hp0.ne hm (z := 20) (by decide) (by decide)) (ok_neg (hp0.ne hm (z := 21) (by decide) (by decide)) (ok_neg (hp0.ne hm (z := 22) (by decide) (by decide)) (ok_neg (hp0.ne hm (z := 23) (by decide) (by decide)) (ok_neg (hp0.ne hm (z := 24) (by decide) (by decide)) (ok_neg (hp0.ne hm (z := 25) (by decide) (by decide)) (ok_neg (hp0.ne hm (z := 26) (by decide) (by decide)) (ok_neg (hp0.ne hm (z := 27) (by decide) (by decide)) (ok_neg (hp0.ne hm (z := 28) (by decide) (by decide)) (ok_neg (hp0.ne hm (z := 29) (by decide) (by decide)) (ok_neg (hp0.ne hm (z := 30) (by decide) (by decide)) (ok_neg (hp0.ne hm (z := 31) (by decide) (by decide)) (ok_neg (hp0.ne hm (z := 32) (by decide) (by decide)) (ok_neg (hp0.ne hm (z := 33) (by decide) (by decide)) (ok_neg (hp0.ne hm (z := 34) (by decide) (by decide)) (ok_pos (hp0.eq hm (by decide)) (ok_bind (p_o35 hN hp0 hm) (fun R hR => ok_some hR)))))))))))))))))))))
theorem p_ends {N : Nat} (hN : 1000 ≤ N) {s σ τ : RS} {g : Gh} {k : Nat} {c : Ctx} {x1 x2 : Int32} (hp0 : PRE s σ τ g k c x1) (hx2 : x2.toInt = gv s 22 k) {m : Nat} (h1 : 17 ≤ m) (h2 : m ≤ 36) (hm : gv s 21 k = (m : Int)) : ok (f_X12_ends N τ x1 x2) (fun R => ACT s σ R g k c.v) := by
  rcases (show m = 17 ∨ m = 18 ∨ m = 19 ∨ m = 20 ∨ m = 21 ∨ m = 22 ∨ m = 23 ∨ m = 24 ∨ m = 25 ∨ m = 26 ∨ m = 27 ∨ m = 28 ∨ m = 29 ∨ m = 30 ∨ m = 31 ∨ m = 32 ∨ m = 33 ∨ m = 34 ∨ m = 35 ∨ m = 36 by omega) with rfl | rfl | rfl | rfl | rfl | rfl | rfl | rfl | rfl | rfl | rfl | rfl | rfl | rfl | rfl | rfl | rfl | rfl | rfl | rfl
  · exact p_e17 hN hp0 hx2 hm
  · exact p_e18 hN hp0 hx2 hm
  · exact p_e19 hN hp0 hx2 hm
  · exact p_e20 hN hp0 hx2 hm
  · exact p_e21 hN hp0 hx2 hm
  · exact p_e22 hN hp0 hx2 hm
  · exact p_e23 hN hp0 hx2 hm
  · exact p_e24 hN hp0 hx2 hm
  · exact p_e25 hN hp0 hx2 hm
  · exact p_e26 hN hp0 hx2 hm
  · exact p_e27 hN hp0 hx2 hm
  · exact p_e28 hN hp0 hx2 hm
  · exact p_e29 hN hp0 hx2 hm
  · exact p_e30 hN hp0 hx2 hm
  · exact p_e31 hN hp0 hx2 hm
  · exact p_e32 hN hp0 hx2 hm
  · exact p_e33 hN hp0 hx2 hm
  · exact p_e34 hN hp0 hx2 hm
  · exact p_e35 hN hp0 hx2 hm
  · exact p_e36 hN hp0 hx2 hm
theorem p_act {N : Nat} (hN : 1000 ≤ N) {s σ τ : RS} {g : Gh} {k : Nat} {c : Ctx} {x1 : Int32} (hp0 : PRE s σ τ g k c x1) : ok (f_X12_act N τ x1) (fun R => ACT s σ R g k c.v) := by
  obtain ⟨m, h1, h2, hm⟩ := okI_range hp0.fact.1
  by_cases h : 17 ≤ m
  · have ne : ∀ {n : Int32} {z : Int}, n.toInt = z → z < 17 → ¬ τ.a 21 x1.toNatClampNeg = n := fun hn hz => hp0.ne hm hn (by omega)
    unfold f_X12_act
    refine ok_chk hp0.inb (ok_neg (ne (z := 1) (by decide) (by decide)) (ok_neg (ne (z := 2) (by decide) (by decide)) (ok_neg (ne (z := 3) (by decide) (by decide)) (ok_neg (ne (z := 4) (by decide) (by decide)) (ok_neg (ne (z := 5) (by decide) (by decide)) (ok_neg (ne (z := 6) (by decide) (by decide)) (ok_neg (ne (z := 7) (by decide) (by decide)) (ok_neg (ne (z := 8) (by decide) (by decide)) (ok_neg (ne (z := 9) (by decide) (by decide)) (ok_neg (ne (z := 10) (by decide) (by decide)) (ok_neg (ne (z := 11) (by decide) (by decide)) (ok_neg (ne (z := 12) (by decide) (by decide)) (ok_neg (ne (z := 13) (by decide) (by decide)) (ok_neg (ne (z := 14) (by decide) (by decide)) (ok_neg (ne (z := 15) (by decide) (by decide)) (ok_neg (ne (z := 16) (by decide) (by decide)) (ok_bind (p_ends hN hp0 (hp0.g 22 (by decide)) h h2 hm) (fun R hR => ok_some hR))))))))))))))))))
  · rcases (show m = 1 ∨ m = 2 ∨ m = 3 ∨ m = 4 ∨ m = 5 ∨ m = 6 ∨ m = 7 ∨ m = 8 ∨ m = 9 ∨ m = 10 ∨ m = 11 ∨ m = 12 ∨ m = 13 ∨ m = 14 ∨ m = 15 ∨ m = 16 by omega) with rfl | rfl | rfl | rfl | rfl | rfl | rfl | rfl | rfl | rfl | rfl | rfl | rfl | rfl | rfl | rfl
    · exact p_a1 hN hp0 hm
    · exact p_a2 hN hp0 hm
    · exact p_a3 hN hp0 hm
    · exact p_a4 hN hp0 hm
    · exact p_a5 hN hp0 hm
    · exact p_a6 hN hp0 hm
    · exact p_a7 hN hp0 hm
    · exact p_a8 hN hp0 hm
    · exact p_a9 hN hp0 hm
    · exact p_a10 hN hp0 hm
    · exact p_a11 hN hp0 hm
    · exact p_a12 hN hp0 hm
    · exact p_a13 hN hp0 hm
    · exact p_a14 hN hp0 hm
    · exact p_a15 hN hp0 hm
    · exact p_a16 hN hp0 hm
end
section
/-- the code stands, kinds grow at most -/
def CE (s t : RS) : Prop := (∀ k : Nat, 21 ≤ k → k ≤ 37 → t.a k = s.a k) ∧ t.i 20 = s.i 20 ∧ t.i 24 = s.i 24 ∧ t.i 29 = s.i 29 ∧ t.i 33 = s.i 33 ∧ (s.i 3).toInt ≤ (t.i 3).toInt
theorem CE.egv {s t : RS} (h : CE s t) {k : Nat} (h1 : 21 ≤ k) (h2 : k ≤ 37) (i : Nat) : gv t k i = gv s k i := gv_of (h.1 k h1 h2) i
theorem CE.ecd {s t : RS} (h : CE s t) : cdI t = cdI s := by unfold cdI; rw [h.2.1]
theorem CE.eFL {s t : RS} (h : CE s t) (g : Gh) (v : Nat) (kk x : Int) (a o : Nat) (rs : List Rec) : FL t g v kk x a o rs = FL s g v kk x a o rs := by unfold FL; rw [h.ecd]
theorem CE.eFS {s t : RS} (h : CE s t) (g : Gh) (x : Int) (a o : Nat) (rs : List Rec) : FS t g x a o rs = FS s g x a o rs := by unfold FS; rw [h.ecd]
theorem CE.eFP {s t : RS} (h : CE s t) (g : Gh) (k v : Nat) (y : Int) (a o : Nat) (rs : List Rec) : FP t g k v y a o rs = FP s g k v y a o rs := by unfold FP; rw [h.ecd]
theorem CE.earr {s t : RS} (h : CE s t) (g : Gh) (d : Nat) : ∀ rs : List Rec, arr t g d rs = arr s g d rs
  | [] => rfl
  | r :: rs => by unfold arr; rw [h.egv (by decide) (by decide), h.earr g d rs]
theorem CE.elvA {s t : RS} (h : CE s t) (d a v : Nat) (x : Int) : ∀ rs : List Rec, lvA t d a v x rs = lvA s d a v x rs
  | [] => rfl
  | r :: rs => by unfold lvA; rw [h.egv (by decide) (by decide), h.elvA d a v x rs]
theorem CE.eJMP {s t : RS} (h : CE s t) (g : Gh) (v : Nat) (kk x : Int) (d a o : Nat) (rs : List Rec) : JMP t g v kk x d a o rs = JMP s g v kk x d a o rs := by
  unfold JMP; simp only [h.ecd, h.earr, h.elvA]
theorem CE.ecatchIn {s t : RS} (h : CE s t) (j : Nat) : ∀ (n : Nat) (k : Int), catchIn t j n k = catchIn s j n k
  | 0, _ => rfl
  | n+1, k => by unfold catchIn; rw [h.egv (by decide) (by decide), h.ecatchIn j n]
theorem CE.eentryIn {s t : RS} (h : CE s t) (j : Nat) : ∀ (n : Nat) (k : Int), entryIn t j n k = entryIn s j n k
  | 0, _ => rfl
  | n+1, k => by unfold entryIn; rw [h.egv (by decide) (by decide), h.eentryIn j n]
theorem CE.erecOK {s t : RS} (h : CE s t) (g : Gh) (k v : Nat) (r : Rec) (rs : List Rec) : recOK t g k v r rs = recOK s g k v r rs := by
  unfold recOK
  simp only [h.ecd, h.eFL, h.ecatchIn, h.egv (k := 23) (by decide) (by decide), h.egv (k := 30) (by decide) (by decide), h.egv (k := 31) (by decide) (by decide), h.egv (k := 32) (by decide) (by decide), h.egv (k := 35) (by decide) (by decide), h.egv (k := 36) (by decide) (by decide), h.2.2.2.1]
theorem CE.erecsOK {s t : RS} (h : CE s t) (g : Gh) (k v : Nat) : ∀ rs : List Rec, recsOK t g k v rs = recsOK s g k v rs
  | [] => rfl
  | r :: rs => by unfold recsOK; rw [h.erecOK, h.erecsOK g k v rs]
theorem CE.eendT {s t : RS} (h : CE s t) (g : Gh) (k v : Nat) (r : Rec) (rs : List Rec) : endT t g k v r rs = endT s g k v r rs := by
  unfold endT
  simp only [h.eFL, h.egv (k := 31) (by decide) (by decide), h.egv (k := 32) (by decide) (by decide)]
theorem CE.eO1 {s t : RS} (h : CE s t) {g : Gh} {k : Nat} {c : Ctx} (ho : OKI s g k c) (hop : gv s 21 k = 1) : OKI t g k c := by
  have q := okI_1 ho hop
  have hop' : gv t 21 k = 1 := (h.egv (by decide) (by decide) k).trans hop
  have h3 := h.2.2.2.2.2
  have hw : (let x := gv t 22 k; let y := gv t 23 k; let F := fun (z : Int) (h : Nat) => FL t g c.v ((k : Int) + 1) z h c.o c.rs; let n := fun (h : Nat) => FL t g c.v ((k : Int) + 1) ((k : Int) + 1) h c.o c.rs; let N := fun (h o : Nat) (rs : List Rec) => FL t g c.v ((k : Int) + 1) ((k : Int) + 1) h o rs; FS t g ((k : Int) + 1) c.h c.o c.rs) := by
    simp only [h.eFL, h.eFS, h.eFP, h.eJMP, h.eentryIn, h.eendT, h.egv (k := 22) (by decide) (by decide), h.egv (k := 23) (by decide) (by decide), h.egv (k := 26) (by decide) (by decide), h.egv (k := 28) (by decide) (by decide), h.2.2.2.1, h.2.2.1]
    exact q
  unfold OKI
  rw [hop']
  exact hw
theorem CE.eO2 {s t : RS} (h : CE s t) {g : Gh} {k : Nat} {c : Ctx} (ho : OKI s g k c) (hop : gv s 21 k = 2) : OKI t g k c := by
  have q := okI_2 ho hop
  have hop' : gv t 21 k = 2 := (h.egv (by decide) (by decide) k).trans hop
  have h3 := h.2.2.2.2.2
  have hw : (let x := gv t 22 k; let y := gv t 23 k; let F := fun (z : Int) (h : Nat) => FL t g c.v ((k : Int) + 1) z h c.o c.rs; let n := fun (h : Nat) => FL t g c.v ((k : Int) + 1) ((k : Int) + 1) h c.o c.rs; let N := fun (h o : Nat) (rs : List Rec) => FL t g c.v ((k : Int) + 1) ((k : Int) + 1) h o rs; FP t g k c.v x (c.h + 1) c.o c.rs) := by
    simp only [h.eFL, h.eFS, h.eFP, h.eJMP, h.eentryIn, h.eendT, h.egv (k := 22) (by decide) (by decide), h.egv (k := 23) (by decide) (by decide), h.egv (k := 26) (by decide) (by decide), h.egv (k := 28) (by decide) (by decide), h.2.2.2.1, h.2.2.1]
    exact q
  unfold OKI
  rw [hop']
  exact hw
theorem CE.eO3 {s t : RS} (h : CE s t) {g : Gh} {k : Nat} {c : Ctx} (ho : OKI s g k c) (hop : gv s 21 k = 3) : OKI t g k c := by
  have q := okI_3 ho hop
  have hop' : gv t 21 k = 3 := (h.egv (by decide) (by decide) k).trans hop
  have h3 := h.2.2.2.2.2
  have hw : (let x := gv t 22 k; let y := gv t 23 k; let F := fun (z : Int) (h : Nat) => FL t g c.v ((k : Int) + 1) z h c.o c.rs; let n := fun (h : Nat) => FL t g c.v ((k : Int) + 1) ((k : Int) + 1) h c.o c.rs; let N := fun (h o : Nat) (rs : List Rec) => FL t g c.v ((k : Int) + 1) ((k : Int) + 1) h o rs; slotOK x ∧ n (c.h + 1)) := by
    simp only [h.eFL, h.eFS, h.eFP, h.eJMP, h.eentryIn, h.eendT, h.egv (k := 22) (by decide) (by decide), h.egv (k := 23) (by decide) (by decide), h.egv (k := 26) (by decide) (by decide), h.egv (k := 28) (by decide) (by decide), h.2.2.2.1, h.2.2.1]
    exact q
  unfold OKI
  rw [hop']
  exact hw
theorem CE.eO4 {s t : RS} (h : CE s t) {g : Gh} {k : Nat} {c : Ctx} (ho : OKI s g k c) (hop : gv s 21 k = 4) : OKI t g k c := by
  have q := okI_4 ho hop
  have hop' : gv t 21 k = 4 := (h.egv (by decide) (by decide) k).trans hop
  have h3 := h.2.2.2.2.2
  have hw : (let x := gv t 22 k; let y := gv t 23 k; let F := fun (z : Int) (h : Nat) => FL t g c.v ((k : Int) + 1) z h c.o c.rs; let n := fun (h : Nat) => FL t g c.v ((k : Int) + 1) ((k : Int) + 1) h c.o c.rs; let N := fun (h o : Nat) (rs : List Rec) => FL t g c.v ((k : Int) + 1) ((k : Int) + 1) h o rs; slotOK x ∧ g.isC x.toNat = true ∧ n (c.h + 1)) := by
    simp only [h.eFL, h.eFS, h.eFP, h.eJMP, h.eentryIn, h.eendT, h.egv (k := 22) (by decide) (by decide), h.egv (k := 23) (by decide) (by decide), h.egv (k := 26) (by decide) (by decide), h.egv (k := 28) (by decide) (by decide), h.2.2.2.1, h.2.2.1]
    exact q
  unfold OKI
  rw [hop']
  exact hw
theorem CE.eO5 {s t : RS} (h : CE s t) {g : Gh} {k : Nat} {c : Ctx} (ho : OKI s g k c) (hop : gv s 21 k = 5) : OKI t g k c := by
  have q := okI_5 ho hop
  have hop' : gv t 21 k = 5 := (h.egv (by decide) (by decide) k).trans hop
  have h3 := h.2.2.2.2.2
  have hw : (let x := gv t 22 k; let y := gv t 23 k; let F := fun (z : Int) (h : Nat) => FL t g c.v ((k : Int) + 1) z h c.o c.rs; let n := fun (h : Nat) => FL t g c.v ((k : Int) + 1) ((k : Int) + 1) h c.o c.rs; let N := fun (h o : Nat) (rs : List Rec) => FL t g c.v ((k : Int) + 1) ((k : Int) + 1) h o rs; slotOK x ∧ g.isC x.toNat = false ∧ 1 ≤ c.h ∧ n (c.h - 1)) := by
    simp only [h.eFL, h.eFS, h.eFP, h.eJMP, h.eentryIn, h.eendT, h.egv (k := 22) (by decide) (by decide), h.egv (k := 23) (by decide) (by decide), h.egv (k := 26) (by decide) (by decide), h.egv (k := 28) (by decide) (by decide), h.2.2.2.1, h.2.2.1]
    exact q
  unfold OKI
  rw [hop']
  exact hw
theorem CE.eO6 {s t : RS} (h : CE s t) {g : Gh} {k : Nat} {c : Ctx} (ho : OKI s g k c) (hop : gv s 21 k = 6) : OKI t g k c := by
  have q := okI_6 ho hop
  have hop' : gv t 21 k = 6 := (h.egv (by decide) (by decide) k).trans hop
  have h3 := h.2.2.2.2.2
  have hw : (let x := gv t 22 k; let y := gv t 23 k; let F := fun (z : Int) (h : Nat) => FL t g c.v ((k : Int) + 1) z h c.o c.rs; let n := fun (h : Nat) => FL t g c.v ((k : Int) + 1) ((k : Int) + 1) h c.o c.rs; let N := fun (h o : Nat) (rs : List Rec) => FL t g c.v ((k : Int) + 1) ((k : Int) + 1) h o rs; slotOK x ∧ g.isC x.toNat = false ∧ n c.h) := by
    simp only [h.eFL, h.eFS, h.eFP, h.eJMP, h.eentryIn, h.eendT, h.egv (k := 22) (by decide) (by decide), h.egv (k := 23) (by decide) (by decide), h.egv (k := 26) (by decide) (by decide), h.egv (k := 28) (by decide) (by decide), h.2.2.2.1, h.2.2.1]
    exact q
  unfold OKI
  rw [hop']
  exact hw
theorem CE.eO7 {s t : RS} (h : CE s t) {g : Gh} {k : Nat} {c : Ctx} (ho : OKI s g k c) (hop : gv s 21 k = 7) : OKI t g k c := by
  have q := okI_7 ho hop
  have hop' : gv t 21 k = 7 := (h.egv (by decide) (by decide) k).trans hop
  have h3 := h.2.2.2.2.2
  have hw : (let x := gv t 22 k; let y := gv t 23 k; let F := fun (z : Int) (h : Nat) => FL t g c.v ((k : Int) + 1) z h c.o c.rs; let n := fun (h : Nat) => FL t g c.v ((k : Int) + 1) ((k : Int) + 1) h c.o c.rs; let N := fun (h o : Nat) (rs : List Rec) => FL t g c.v ((k : Int) + 1) ((k : Int) + 1) h o rs; 1 ≤ c.h ∧ n c.h) := by
    simp only [h.eFL, h.eFS, h.eFP, h.eJMP, h.eentryIn, h.eendT, h.egv (k := 22) (by decide) (by decide), h.egv (k := 23) (by decide) (by decide), h.egv (k := 26) (by decide) (by decide), h.egv (k := 28) (by decide) (by decide), h.2.2.2.1, h.2.2.1]
    exact q
  unfold OKI
  rw [hop']
  exact hw
theorem CE.eO8 {s t : RS} (h : CE s t) {g : Gh} {k : Nat} {c : Ctx} (ho : OKI s g k c) (hop : gv s 21 k = 8) : OKI t g k c := by
  have q := okI_8 ho hop
  have hop' : gv t 21 k = 8 := (h.egv (by decide) (by decide) k).trans hop
  have h3 := h.2.2.2.2.2
  have hw : (let x := gv t 22 k; let y := gv t 23 k; let F := fun (z : Int) (h : Nat) => FL t g c.v ((k : Int) + 1) z h c.o c.rs; let n := fun (h : Nat) => FL t g c.v ((k : Int) + 1) ((k : Int) + 1) h c.o c.rs; let N := fun (h o : Nat) (rs : List Rec) => FL t g c.v ((k : Int) + 1) ((k : Int) + 1) h o rs; 2 ≤ c.h ∧ n (c.h - 1)) := by
    simp only [h.eFL, h.eFS, h.eFP, h.eJMP, h.eentryIn, h.eendT, h.egv (k := 22) (by decide) (by decide), h.egv (k := 23) (by decide) (by decide), h.egv (k := 26) (by decide) (by decide), h.egv (k := 28) (by decide) (by decide), h.2.2.2.1, h.2.2.1]
    exact q
  unfold OKI
  rw [hop']
  exact hw
theorem CE.eO9 {s t : RS} (h : CE s t) {g : Gh} {k : Nat} {c : Ctx} (ho : OKI s g k c) (hop : gv s 21 k = 9) : OKI t g k c := by
  have q := okI_9 ho hop
  have hop' : gv t 21 k = 9 := (h.egv (by decide) (by decide) k).trans hop
  have h3 := h.2.2.2.2.2
  have hw : (let x := gv t 22 k; let y := gv t 23 k; let F := fun (z : Int) (h : Nat) => FL t g c.v ((k : Int) + 1) z h c.o c.rs; let n := fun (h : Nat) => FL t g c.v ((k : Int) + 1) ((k : Int) + 1) h c.o c.rs; let N := fun (h o : Nat) (rs : List Rec) => FL t g c.v ((k : Int) + 1) ((k : Int) + 1) h o rs; 2 ≤ c.h ∧ n (c.h - 1)) := by
    simp only [h.eFL, h.eFS, h.eFP, h.eJMP, h.eentryIn, h.eendT, h.egv (k := 22) (by decide) (by decide), h.egv (k := 23) (by decide) (by decide), h.egv (k := 26) (by decide) (by decide), h.egv (k := 28) (by decide) (by decide), h.2.2.2.1, h.2.2.1]
    exact q
  unfold OKI
  rw [hop']
  exact hw
theorem CE.eO10 {s t : RS} (h : CE s t) {g : Gh} {k : Nat} {c : Ctx} (ho : OKI s g k c) (hop : gv s 21 k = 10) : OKI t g k c := by
  have q := okI_10 ho hop
  have hop' : gv t 21 k = 10 := (h.egv (by decide) (by decide) k).trans hop
  have h3 := h.2.2.2.2.2
  have hw : (let x := gv t 22 k; let y := gv t 23 k; let F := fun (z : Int) (h : Nat) => FL t g c.v ((k : Int) + 1) z h c.o c.rs; let n := fun (h : Nat) => FL t g c.v ((k : Int) + 1) ((k : Int) + 1) h c.o c.rs; let N := fun (h o : Nat) (rs : List Rec) => FL t g c.v ((k : Int) + 1) ((k : Int) + 1) h o rs; 1 ≤ c.h ∧ n c.h) := by
    simp only [h.eFL, h.eFS, h.eFP, h.eJMP, h.eentryIn, h.eendT, h.egv (k := 22) (by decide) (by decide), h.egv (k := 23) (by decide) (by decide), h.egv (k := 26) (by decide) (by decide), h.egv (k := 28) (by decide) (by decide), h.2.2.2.1, h.2.2.1]
    exact q
  unfold OKI
  rw [hop']
  exact hw
theorem CE.eO11 {s t : RS} (h : CE s t) {g : Gh} {k : Nat} {c : Ctx} (ho : OKI s g k c) (hop : gv s 21 k = 11) : OKI t g k c := by
  have q := okI_11 ho hop
  have hop' : gv t 21 k = 11 := (h.egv (by decide) (by decide) k).trans hop
  have h3 := h.2.2.2.2.2
  have hw : (let x := gv t 22 k; let y := gv t 23 k; let F := fun (z : Int) (h : Nat) => FL t g c.v ((k : Int) + 1) z h c.o c.rs; let n := fun (h : Nat) => FL t g c.v ((k : Int) + 1) ((k : Int) + 1) h c.o c.rs; let N := fun (h o : Nat) (rs : List Rec) => FL t g c.v ((k : Int) + 1) ((k : Int) + 1) h o rs; 1 ≤ c.h ∧ F x c.h ∧ n (c.h - 1)) := by
    simp only [h.eFL, h.eFS, h.eFP, h.eJMP, h.eentryIn, h.eendT, h.egv (k := 22) (by decide) (by decide), h.egv (k := 23) (by decide) (by decide), h.egv (k := 26) (by decide) (by decide), h.egv (k := 28) (by decide) (by decide), h.2.2.2.1, h.2.2.1]
    exact q
  unfold OKI
  rw [hop']
  exact hw
theorem CE.eO12 {s t : RS} (h : CE s t) {g : Gh} {k : Nat} {c : Ctx} (ho : OKI s g k c) (hop : gv s 21 k = 12) : OKI t g k c := by
  have q := okI_12 ho hop
  have hop' : gv t 21 k = 12 := (h.egv (by decide) (by decide) k).trans hop
  have h3 := h.2.2.2.2.2
  have hw : (let x := gv t 22 k; let y := gv t 23 k; let F := fun (z : Int) (h : Nat) => FL t g c.v ((k : Int) + 1) z h c.o c.rs; let n := fun (h : Nat) => FL t g c.v ((k : Int) + 1) ((k : Int) + 1) h c.o c.rs; let N := fun (h o : Nat) (rs : List Rec) => FL t g c.v ((k : Int) + 1) ((k : Int) + 1) h o rs; 1 ≤ c.h ∧ F x c.h ∧ n (c.h - 1)) := by
    simp only [h.eFL, h.eFS, h.eFP, h.eJMP, h.eentryIn, h.eendT, h.egv (k := 22) (by decide) (by decide), h.egv (k := 23) (by decide) (by decide), h.egv (k := 26) (by decide) (by decide), h.egv (k := 28) (by decide) (by decide), h.2.2.2.1, h.2.2.1]
    exact q
  unfold OKI
  rw [hop']
  exact hw
theorem CE.eO13 {s t : RS} (h : CE s t) {g : Gh} {k : Nat} {c : Ctx} (ho : OKI s g k c) (hop : gv s 21 k = 13) : OKI t g k c := by
  have q := okI_13 ho hop
  have hop' : gv t 21 k = 13 := (h.egv (by decide) (by decide) k).trans hop
  have h3 := h.2.2.2.2.2
  have hw : (let x := gv t 22 k; let y := gv t 23 k; let F := fun (z : Int) (h : Nat) => FL t g c.v ((k : Int) + 1) z h c.o c.rs; let n := fun (h : Nat) => FL t g c.v ((k : Int) + 1) ((k : Int) + 1) h c.o c.rs; let N := fun (h o : Nat) (rs : List Rec) => FL t g c.v ((k : Int) + 1) ((k : Int) + 1) h o rs; 1 ≤ c.h ∧ (c.one = false → F x (c.h - 1)) ∧ n (c.h - 1)) := by
    simp only [h.eFL, h.eFS, h.eFP, h.eJMP, h.eentryIn, h.eendT, h.egv (k := 22) (by decide) (by decide), h.egv (k := 23) (by decide) (by decide), h.egv (k := 26) (by decide) (by decide), h.egv (k := 28) (by decide) (by decide), h.2.2.2.1, h.2.2.1]
    exact q
  unfold OKI
  rw [hop']
  exact hw
theorem CE.eO14 {s t : RS} (h : CE s t) {g : Gh} {k : Nat} {c : Ctx} (ho : OKI s g k c) (hop : gv s 21 k = 14) : OKI t g k c := by
  have q := okI_14 ho hop
  have hop' : gv t 21 k = 14 := (h.egv (by decide) (by decide) k).trans hop
  have h3 := h.2.2.2.2.2
  have hw : (let x := gv t 22 k; let y := gv t 23 k; let F := fun (z : Int) (h : Nat) => FL t g c.v ((k : Int) + 1) z h c.o c.rs; let n := fun (h : Nat) => FL t g c.v ((k : Int) + 1) ((k : Int) + 1) h c.o c.rs; let N := fun (h o : Nat) (rs : List Rec) => FL t g c.v ((k : Int) + 1) ((k : Int) + 1) h o rs; 1 ≤ c.h ∧ F x (c.h - 1) ∧ (c.one = false → n (c.h - 1))) := by
    simp only [h.eFL, h.eFS, h.eFP, h.eJMP, h.eentryIn, h.eendT, h.egv (k := 22) (by decide) (by decide), h.egv (k := 23) (by decide) (by decide), h.egv (k := 26) (by decide) (by decide), h.egv (k := 28) (by decide) (by decide), h.2.2.2.1, h.2.2.1]
    exact q
  unfold OKI
  rw [hop']
  exact hw
theorem CE.eO15 {s t : RS} (h : CE s t) {g : Gh} {k : Nat} {c : Ctx} (ho : OKI s g k c) (hop : gv s 21 k = 15) : OKI t g k c := by
  have q := okI_15 ho hop
  have hop' : gv t 21 k = 15 := (h.egv (by decide) (by decide) k).trans hop
  have h3 := h.2.2.2.2.2
  have hw : (let x := gv t 22 k; let y := gv t 23 k; let F := fun (z : Int) (h : Nat) => FL t g c.v ((k : Int) + 1) z h c.o c.rs; let n := fun (h : Nat) => FL t g c.v ((k : Int) + 1) ((k : Int) + 1) h c.o c.rs; let N := fun (h o : Nat) (rs : List Rec) => FL t g c.v ((k : Int) + 1) ((k : Int) + 1) h o rs; F x c.h) := by
    simp only [h.eFL, h.eFS, h.eFP, h.eJMP, h.eentryIn, h.eendT, h.egv (k := 22) (by decide) (by decide), h.egv (k := 23) (by decide) (by decide), h.egv (k := 26) (by decide) (by decide), h.egv (k := 28) (by decide) (by decide), h.2.2.2.1, h.2.2.1]
    exact q
  unfold OKI
  rw [hop']
  exact hw
theorem CE.eO16 {s t : RS} (h : CE s t) {g : Gh} {k : Nat} {c : Ctx} (ho : OKI s g k c) (hop : gv s 21 k = 16) : OKI t g k c := by
  have q := okI_16 ho hop
  have hop' : gv t 21 k = 16 := (h.egv (by decide) (by decide) k).trans hop
  have h3 := h.2.2.2.2.2
  have hw : (let x := gv t 22 k; let y := gv t 23 k; let F := fun (z : Int) (h : Nat) => FL t g c.v ((k : Int) + 1) z h c.o c.rs; let n := fun (h : Nat) => FL t g c.v ((k : Int) + 1) ((k : Int) + 1) h c.o c.rs; let N := fun (h o : Nat) (rs : List Rec) => FL t g c.v ((k : Int) + 1) ((k : Int) + 1) h o rs; 1 ≤ c.h ∧ n (c.h - 1)) := by
    simp only [h.eFL, h.eFS, h.eFP, h.eJMP, h.eentryIn, h.eendT, h.egv (k := 22) (by decide) (by decide), h.egv (k := 23) (by decide) (by decide), h.egv (k := 26) (by decide) (by decide), h.egv (k := 28) (by decide) (by decide), h.2.2.2.1, h.2.2.1]
    exact q
  unfold OKI
  rw [hop']
  exact hw
theorem CE.eO17 {s t : RS} (h : CE s t) {g : Gh} {k : Nat} {c : Ctx} (ho : OKI s g k c) (hop : gv s 21 k = 17) : OKI t g k c := by
  have q := okI_17 ho hop
  have hop' : gv t 21 k = 17 := (h.egv (by decide) (by decide) k).trans hop
  have h3 := h.2.2.2.2.2
  have hw : (let x := gv t 22 k; let y := gv t 23 k; let F := fun (z : Int) (h : Nat) => FL t g c.v ((k : Int) + 1) z h c.o c.rs; let n := fun (h : Nat) => FL t g c.v ((k : Int) + 1) ((k : Int) + 1) h c.o c.rs; let N := fun (h o : Nat) (rs : List Rec) => FL t g c.v ((k : Int) + 1) ((k : Int) + 1) h o rs; 1 ≤ c.h) := by
    simp only [h.eFL, h.eFS, h.eFP, h.eJMP, h.eentryIn, h.eendT, h.egv (k := 22) (by decide) (by decide), h.egv (k := 23) (by decide) (by decide), h.egv (k := 26) (by decide) (by decide), h.egv (k := 28) (by decide) (by decide), h.2.2.2.1, h.2.2.1]
    exact q
  unfold OKI
  rw [hop']
  exact hw
theorem CE.eO18 {s t : RS} (h : CE s t) {g : Gh} {k : Nat} {c : Ctx} (ho : OKI s g k c) (hop : gv s 21 k = 18) : OKI t g k c := by
  have q := okI_18 ho hop
  have hop' : gv t 21 k = 18 := (h.egv (by decide) (by decide) k).trans hop
  have h3 := h.2.2.2.2.2
  have hw : (let x := gv t 22 k; let y := gv t 23 k; let F := fun (z : Int) (h : Nat) => FL t g c.v ((k : Int) + 1) z h c.o c.rs; let n := fun (h : Nat) => FL t g c.v ((k : Int) + 1) ((k : Int) + 1) h c.o c.rs; let N := fun (h o : Nat) (rs : List Rec) => FL t g c.v ((k : Int) + 1) ((k : Int) + 1) h o rs; 1 ≤ c.h ∧ YOK y c.rs) := by
    simp only [h.eFL, h.eFS, h.eFP, h.eJMP, h.eentryIn, h.eendT, h.egv (k := 22) (by decide) (by decide), h.egv (k := 23) (by decide) (by decide), h.egv (k := 26) (by decide) (by decide), h.egv (k := 28) (by decide) (by decide), h.2.2.2.1, h.2.2.1]
    exact q
  unfold OKI
  rw [hop']
  exact hw
theorem CE.eO19 {s t : RS} (h : CE s t) {g : Gh} {k : Nat} {c : Ctx} (ho : OKI s g k c) (hop : gv s 21 k = 19) : OKI t g k c := by
  have q := okI_19 ho hop
  have hop' : gv t 21 k = 19 := (h.egv (by decide) (by decide) k).trans hop
  have h3 := h.2.2.2.2.2
  have hw : (let x := gv t 22 k; let y := gv t 23 k; let F := fun (z : Int) (h : Nat) => FL t g c.v ((k : Int) + 1) z h c.o c.rs; let n := fun (h : Nat) => FL t g c.v ((k : Int) + 1) ((k : Int) + 1) h c.o c.rs; let N := fun (h o : Nat) (rs : List Rec) => FL t g c.v ((k : Int) + 1) ((k : Int) + 1) h o rs; 1 ≤ c.h ∧ x < (t.i 3).toInt) := by
    simp only [h.eFL, h.eFS, h.eFP, h.eJMP, h.eentryIn, h.eendT, h.egv (k := 22) (by decide) (by decide), h.egv (k := 23) (by decide) (by decide), h.egv (k := 26) (by decide) (by decide), h.egv (k := 28) (by decide) (by decide), h.2.2.2.1, h.2.2.1]
    exact ⟨q.1, by have := q.2; omega⟩
  unfold OKI
  rw [hop']
  exact hw
theorem CE.eO20 {s t : RS} (h : CE s t) {g : Gh} {k : Nat} {c : Ctx} (ho : OKI s g k c) (hop : gv s 21 k = 20) : OKI t g k c := by
  have q := okI_20 ho hop
  have hop' : gv t 21 k = 20 := (h.egv (by decide) (by decide) k).trans hop
  have h3 := h.2.2.2.2.2
  have hw : (let x := gv t 22 k; let y := gv t 23 k; let F := fun (z : Int) (h : Nat) => FL t g c.v ((k : Int) + 1) z h c.o c.rs; let n := fun (h : Nat) => FL t g c.v ((k : Int) + 1) ((k : Int) + 1) h c.o c.rs; let N := fun (h o : Nat) (rs : List Rec) => FL t g c.v ((k : Int) + 1) ((k : Int) + 1) h o rs; x < (t.i 3).toInt) := by
    simp only [h.eFL, h.eFS, h.eFP, h.eJMP, h.eentryIn, h.eendT, h.egv (k := 22) (by decide) (by decide), h.egv (k := 23) (by decide) (by decide), h.egv (k := 26) (by decide) (by decide), h.egv (k := 28) (by decide) (by decide), h.2.2.2.1, h.2.2.1]
    have q : gv s 22 k < (s.i 3).toInt := q
    omega
  unfold OKI
  rw [hop']
  exact hw
theorem CE.eO21 {s t : RS} (h : CE s t) {g : Gh} {k : Nat} {c : Ctx} (ho : OKI s g k c) (hop : gv s 21 k = 21) : OKI t g k c := by
  have q := okI_21 ho hop
  have hop' : gv t 21 k = 21 := (h.egv (by decide) (by decide) k).trans hop
  have h3 := h.2.2.2.2.2
  have hw : (let x := gv t 22 k; let y := gv t 23 k; let F := fun (z : Int) (h : Nat) => FL t g c.v ((k : Int) + 1) z h c.o c.rs; let n := fun (h : Nat) => FL t g c.v ((k : Int) + 1) ((k : Int) + 1) h c.o c.rs; let N := fun (h o : Nat) (rs : List Rec) => FL t g c.v ((k : Int) + 1) ((k : Int) + 1) h o rs; slotOK x ∧ g.isC x.toNat = true) := by
    simp only [h.eFL, h.eFS, h.eFP, h.eJMP, h.eentryIn, h.eendT, h.egv (k := 22) (by decide) (by decide), h.egv (k := 23) (by decide) (by decide), h.egv (k := 26) (by decide) (by decide), h.egv (k := 28) (by decide) (by decide), h.2.2.2.1, h.2.2.1]
    exact q
  unfold OKI
  rw [hop']
  exact hw
theorem CE.eO22 {s t : RS} (h : CE s t) {g : Gh} {k : Nat} {c : Ctx} (ho : OKI s g k c) (hop : gv s 21 k = 22) : OKI t g k c := by
  have q := okI_22 ho hop
  have hop' : gv t 21 k = 22 := (h.egv (by decide) (by decide) k).trans hop
  have h3 := h.2.2.2.2.2
  have hw : (let x := gv t 22 k; let y := gv t 23 k; let F := fun (z : Int) (h : Nat) => FL t g c.v ((k : Int) + 1) z h c.o c.rs; let n := fun (h : Nat) => FL t g c.v ((k : Int) + 1) ((k : Int) + 1) h c.o c.rs; let N := fun (h o : Nat) (rs : List Rec) => FL t g c.v ((k : Int) + 1) ((k : Int) + 1) h o rs; F x c.h ∧ n c.h) := by
    simp only [h.eFL, h.eFS, h.eFP, h.eJMP, h.eentryIn, h.eendT, h.egv (k := 22) (by decide) (by decide), h.egv (k := 23) (by decide) (by decide), h.egv (k := 26) (by decide) (by decide), h.egv (k := 28) (by decide) (by decide), h.2.2.2.1, h.2.2.1]
    exact q
  unfold OKI
  rw [hop']
  exact hw
theorem CE.eO23 {s t : RS} (h : CE s t) {g : Gh} {k : Nat} {c : Ctx} (ho : OKI s g k c) (hop : gv s 21 k = 23) : OKI t g k c := by
  have q := okI_23 ho hop
  have hop' : gv t 21 k = 23 := (h.egv (by decide) (by decide) k).trans hop
  have h3 := h.2.2.2.2.2
  have hw : (let x := gv t 22 k; let y := gv t 23 k; let F := fun (z : Int) (h : Nat) => FL t g c.v ((k : Int) + 1) z h c.o c.rs; let n := fun (h : Nat) => FL t g c.v ((k : Int) + 1) ((k : Int) + 1) h c.o c.rs; let N := fun (h o : Nat) (rs : List Rec) => FL t g c.v ((k : Int) + 1) ((k : Int) + 1) h o rs; 1 ≤ x ∧ x ≤ c.h ∧ (wv c.rs : Int) + x ≤ 450 ∧ N (c.h - x.toNat) c.o ((2, 0, x.toNat, c.h - x.toNat, c.o, c.v, false, false) :: c.rs)) := by
    simp only [h.eFL, h.eFS, h.eFP, h.eJMP, h.eentryIn, h.eendT, h.egv (k := 22) (by decide) (by decide), h.egv (k := 23) (by decide) (by decide), h.egv (k := 26) (by decide) (by decide), h.egv (k := 28) (by decide) (by decide), h.2.2.2.1, h.2.2.1]
    exact q
  unfold OKI
  rw [hop']
  exact hw
theorem CE.eO24 {s t : RS} (h : CE s t) {g : Gh} {k : Nat} {c : Ctx} (ho : OKI s g k c) (hop : gv s 21 k = 24) : OKI t g k c := by
  have q := okI_24 ho hop
  have hop' : gv t 21 k = 24 := (h.egv (by decide) (by decide) k).trans hop
  have h3 := h.2.2.2.2.2
  have hw : (let x := gv t 22 k; let y := gv t 23 k; let F := fun (z : Int) (h : Nat) => FL t g c.v ((k : Int) + 1) z h c.o c.rs; let n := fun (h : Nat) => FL t g c.v ((k : Int) + 1) ((k : Int) + 1) h c.o c.rs; let N := fun (h o : Nat) (rs : List Rec) => FL t g c.v ((k : Int) + 1) ((k : Int) + 1) h o rs; slotOK y ∧ g.isC y.toNat = false ∧ F x c.h ∧ FS t g ((k : Int) + 1) c.h c.o c.rs ∧ ∃ (r : Rec) (rs : List Rec), c.rs = r :: rs ∧ r.k = 2) := by
    simp only [h.eFL, h.eFS, h.eFP, h.eJMP, h.eentryIn, h.eendT, h.egv (k := 22) (by decide) (by decide), h.egv (k := 23) (by decide) (by decide), h.egv (k := 26) (by decide) (by decide), h.egv (k := 28) (by decide) (by decide), h.2.2.2.1, h.2.2.1]
    exact q
  unfold OKI
  rw [hop']
  exact hw
theorem CE.eO25 {s t : RS} (h : CE s t) {g : Gh} {k : Nat} {c : Ctx} (ho : OKI s g k c) (hop : gv s 21 k = 25) : OKI t g k c := by
  have q := okI_25 ho hop
  have hop' : gv t 21 k = 25 := (h.egv (by decide) (by decide) k).trans hop
  have h3 := h.2.2.2.2.2
  have hw : (let x := gv t 22 k; let y := gv t 23 k; let F := fun (z : Int) (h : Nat) => FL t g c.v ((k : Int) + 1) z h c.o c.rs; let n := fun (h : Nat) => FL t g c.v ((k : Int) + 1) ((k : Int) + 1) h c.o c.rs; let N := fun (h o : Nat) (rs : List Rec) => FL t g c.v ((k : Int) + 1) ((k : Int) + 1) h o rs; ∃ (r : Rec) (rs : List Rec), c.rs = r :: rs ∧ r.k = 2 ∧ N c.h c.o rs) := by
    simp only [h.eFL, h.eFS, h.eFP, h.eJMP, h.eentryIn, h.eendT, h.egv (k := 22) (by decide) (by decide), h.egv (k := 23) (by decide) (by decide), h.egv (k := 26) (by decide) (by decide), h.egv (k := 28) (by decide) (by decide), h.2.2.2.1, h.2.2.1]
    exact q
  unfold OKI
  rw [hop']
  exact hw
theorem CE.eO26 {s t : RS} (h : CE s t) {g : Gh} {k : Nat} {c : Ctx} (ho : OKI s g k c) (hop : gv s 21 k = 26) : OKI t g k c := by
  have q := okI_26 ho hop
  have hop' : gv t 21 k = 26 := (h.egv (by decide) (by decide) k).trans hop
  have h3 := h.2.2.2.2.2
  have hw : (let x := gv t 22 k; let y := gv t 23 k; let F := fun (z : Int) (h : Nat) => FL t g c.v ((k : Int) + 1) z h c.o c.rs; let n := fun (h : Nat) => FL t g c.v ((k : Int) + 1) ((k : Int) + 1) h c.o c.rs; let N := fun (h o : Nat) (rs : List Rec) => FL t g c.v ((k : Int) + 1) ((k : Int) + 1) h o rs; 0 ≤ x ∧ x < 8 ∧ N c.h c.o ((1, x.toNat, 0, c.h, c.o, c.v, false, false) :: c.rs)) := by
    simp only [h.eFL, h.eFS, h.eFP, h.eJMP, h.eentryIn, h.eendT, h.egv (k := 22) (by decide) (by decide), h.egv (k := 23) (by decide) (by decide), h.egv (k := 26) (by decide) (by decide), h.egv (k := 28) (by decide) (by decide), h.2.2.2.1, h.2.2.1]
    exact q
  unfold OKI
  rw [hop']
  exact hw
theorem CE.eO27 {s t : RS} (h : CE s t) {g : Gh} {k : Nat} {c : Ctx} (ho : OKI s g k c) (hop : gv s 21 k = 27) : OKI t g k c := by
  have q := okI_27 ho hop
  have hop' : gv t 21 k = 27 := (h.egv (by decide) (by decide) k).trans hop
  have h3 := h.2.2.2.2.2
  have hw : (let x := gv t 22 k; let y := gv t 23 k; let F := fun (z : Int) (h : Nat) => FL t g c.v ((k : Int) + 1) z h c.o c.rs; let n := fun (h : Nat) => FL t g c.v ((k : Int) + 1) ((k : Int) + 1) h c.o c.rs; let N := fun (h o : Nat) (rs : List Rec) => FL t g c.v ((k : Int) + 1) ((k : Int) + 1) h o rs; ∃ (r : Rec) (rs : List Rec), c.rs = r :: rs ∧ r.k = 1 ∧ N c.h c.o rs) := by
    simp only [h.eFL, h.eFS, h.eFP, h.eJMP, h.eentryIn, h.eendT, h.egv (k := 22) (by decide) (by decide), h.egv (k := 23) (by decide) (by decide), h.egv (k := 26) (by decide) (by decide), h.egv (k := 28) (by decide) (by decide), h.2.2.2.1, h.2.2.1]
    exact q
  unfold OKI
  rw [hop']
  exact hw
theorem CE.eO28 {s t : RS} (h : CE s t) {g : Gh} {k : Nat} {c : Ctx} (ho : OKI s g k c) (hop : gv s 21 k = 28) : OKI t g k c := by
  have q := okI_28 ho hop
  have hop' : gv t 21 k = 28 := (h.egv (by decide) (by decide) k).trans hop
  have h3 := h.2.2.2.2.2
  have hw : (let x := gv t 22 k; let y := gv t 23 k; let F := fun (z : Int) (h : Nat) => FL t g c.v ((k : Int) + 1) z h c.o c.rs; let n := fun (h : Nat) => FL t g c.v ((k : Int) + 1) ((k : Int) + 1) h c.o c.rs; let N := fun (h o : Nat) (rs : List Rec) => FL t g c.v ((k : Int) + 1) ((k : Int) + 1) h o rs; 1 ≤ c.h ∧ x < (t.i 24).toInt ∧ (∀ j : Nat, entryIn t j 500 x → F (gv t 26 j) (c.h - 1)) ∧ (¬ (∃ j : Nat, entryIn t j 500 x ∧ ¬ gv t 28 j = 0) → F y (c.h - 1))) := by
    simp only [h.eFL, h.eFS, h.eFP, h.eJMP, h.eentryIn, h.eendT, h.egv (k := 22) (by decide) (by decide), h.egv (k := 23) (by decide) (by decide), h.egv (k := 26) (by decide) (by decide), h.egv (k := 28) (by decide) (by decide), h.2.2.2.1, h.2.2.1]
    exact q
  unfold OKI
  rw [hop']
  exact hw
theorem CE.eO29 {s t : RS} (h : CE s t) {g : Gh} {k : Nat} {c : Ctx} (ho : OKI s g k c) (hop : gv s 21 k = 29) : OKI t g k c := by
  have q := okI_29 ho hop
  have hop' : gv t 21 k = 29 := (h.egv (by decide) (by decide) k).trans hop
  have h3 := h.2.2.2.2.2
  have hw : (let x := gv t 22 k; let y := gv t 23 k; let F := fun (z : Int) (h : Nat) => FL t g c.v ((k : Int) + 1) z h c.o c.rs; let n := fun (h : Nat) => FL t g c.v ((k : Int) + 1) ((k : Int) + 1) h c.o c.rs; let N := fun (h o : Nat) (rs : List Rec) => FL t g c.v ((k : Int) + 1) ((k : Int) + 1) h o rs; 1 ≤ c.h ∧ x < (t.i 24).toInt ∧ (∀ j : Nat, entryIn t j 500 x → FL t g c.v ((k : Int) + 1) (gv t 26 j) (c.h - 1) c.o ((3, k, 0, c.h - 1, c.o, c.v, false, false) :: c.rs)) ∧ ∃ j : Nat, entryIn t j 500 x ∧ ¬ gv t 28 j = 0) := by
    simp only [h.eFL, h.eFS, h.eFP, h.eJMP, h.eentryIn, h.eendT, h.egv (k := 22) (by decide) (by decide), h.egv (k := 23) (by decide) (by decide), h.egv (k := 26) (by decide) (by decide), h.egv (k := 28) (by decide) (by decide), h.2.2.2.1, h.2.2.1]
    exact q
  unfold OKI
  rw [hop']
  exact hw
theorem CE.eO30 {s t : RS} (h : CE s t) {g : Gh} {k : Nat} {c : Ctx} (ho : OKI s g k c) (hop : gv s 21 k = 30) : OKI t g k c := by
  have q := okI_30 ho hop
  have hop' : gv t 21 k = 30 := (h.egv (by decide) (by decide) k).trans hop
  have h3 := h.2.2.2.2.2
  have hw : (let x := gv t 22 k; let y := gv t 23 k; let F := fun (z : Int) (h : Nat) => FL t g c.v ((k : Int) + 1) z h c.o c.rs; let n := fun (h : Nat) => FL t g c.v ((k : Int) + 1) ((k : Int) + 1) h c.o c.rs; let N := fun (h o : Nat) (rs : List Rec) => FL t g c.v ((k : Int) + 1) ((k : Int) + 1) h o rs; ∃ (r : Rec) (rs : List Rec), c.rs = r :: rs ∧ r.k = 3 ∧ c.h = r.h + 1) := by
    simp only [h.eFL, h.eFS, h.eFP, h.eJMP, h.eentryIn, h.eendT, h.egv (k := 22) (by decide) (by decide), h.egv (k := 23) (by decide) (by decide), h.egv (k := 26) (by decide) (by decide), h.egv (k := 28) (by decide) (by decide), h.2.2.2.1, h.2.2.1]
    exact q
  unfold OKI
  rw [hop']
  exact hw
theorem CE.eO31 {s t : RS} (h : CE s t) {g : Gh} {k : Nat} {c : Ctx} (ho : OKI s g k c) (hop : gv s 21 k = 31) : OKI t g k c := by
  have q := okI_31 ho hop
  have hop' : gv t 21 k = 31 := (h.egv (by decide) (by decide) k).trans hop
  have h3 := h.2.2.2.2.2
  have hw : (let x := gv t 22 k; let y := gv t 23 k; let F := fun (z : Int) (h : Nat) => FL t g c.v ((k : Int) + 1) z h c.o c.rs; let n := fun (h : Nat) => FL t g c.v ((k : Int) + 1) ((k : Int) + 1) h c.o c.rs; let N := fun (h o : Nat) (rs : List Rec) => FL t g c.v ((k : Int) + 1) ((k : Int) + 1) h o rs; 0 ≤ x ∧ x < (t.i 29).toInt ∧ ∃ ps ek : Bool, N c.h c.o ((4, x.toNat, 0, c.h, c.o, c.v, ps, ek) :: c.rs)) := by
    simp only [h.eFL, h.eFS, h.eFP, h.eJMP, h.eentryIn, h.eendT, h.egv (k := 22) (by decide) (by decide), h.egv (k := 23) (by decide) (by decide), h.egv (k := 26) (by decide) (by decide), h.egv (k := 28) (by decide) (by decide), h.2.2.2.1, h.2.2.1]
    exact q
  unfold OKI
  rw [hop']
  exact hw
theorem CE.eO32 {s t : RS} (h : CE s t) {g : Gh} {k : Nat} {c : Ctx} (ho : OKI s g k c) (hop : gv s 21 k = 32) : OKI t g k c := by
  have q := okI_32 ho hop
  have hop' : gv t 21 k = 32 := (h.egv (by decide) (by decide) k).trans hop
  have h3 := h.2.2.2.2.2
  have hw : (let x := gv t 22 k; let y := gv t 23 k; let F := fun (z : Int) (h : Nat) => FL t g c.v ((k : Int) + 1) z h c.o c.rs; let n := fun (h : Nat) => FL t g c.v ((k : Int) + 1) ((k : Int) + 1) h c.o c.rs; let N := fun (h o : Nat) (rs : List Rec) => FL t g c.v ((k : Int) + 1) ((k : Int) + 1) h o rs; 0 ≤ x ∧ x < 8 ∧ N c.h (c.o + 1) c.rs) := by
    simp only [h.eFL, h.eFS, h.eFP, h.eJMP, h.eentryIn, h.eendT, h.egv (k := 22) (by decide) (by decide), h.egv (k := 23) (by decide) (by decide), h.egv (k := 26) (by decide) (by decide), h.egv (k := 28) (by decide) (by decide), h.2.2.2.1, h.2.2.1]
    exact q
  unfold OKI
  rw [hop']
  exact hw
theorem CE.eO33 {s t : RS} (h : CE s t) {g : Gh} {k : Nat} {c : Ctx} (ho : OKI s g k c) (hop : gv s 21 k = 33) : OKI t g k c := by
  have q := okI_33 ho hop
  have hop' : gv t 21 k = 33 := (h.egv (by decide) (by decide) k).trans hop
  have h3 := h.2.2.2.2.2
  have hw : (let x := gv t 22 k; let y := gv t 23 k; let F := fun (z : Int) (h : Nat) => FL t g c.v ((k : Int) + 1) z h c.o c.rs; let n := fun (h : Nat) => FL t g c.v ((k : Int) + 1) ((k : Int) + 1) h c.o c.rs; let N := fun (h o : Nat) (rs : List Rec) => FL t g c.v ((k : Int) + 1) ((k : Int) + 1) h o rs; ∃ (r : Rec) (rs : List Rec), c.rs = r :: rs ∧ r.k = 4 ∧ r.p = 0 ∧ c.h = r.h ∧ endT t g k c.v r rs) := by
    simp only [h.eFL, h.eFS, h.eFP, h.eJMP, h.eentryIn, h.eendT, h.egv (k := 22) (by decide) (by decide), h.egv (k := 23) (by decide) (by decide), h.egv (k := 26) (by decide) (by decide), h.egv (k := 28) (by decide) (by decide), h.2.2.2.1, h.2.2.1]
    exact q
  unfold OKI
  rw [hop']
  exact hw
theorem CE.eO34 {s t : RS} (h : CE s t) {g : Gh} {k : Nat} {c : Ctx} (ho : OKI s g k c) (hop : gv s 21 k = 34) : OKI t g k c := by
  have q := okI_34 ho hop
  have hop' : gv t 21 k = 34 := (h.egv (by decide) (by decide) k).trans hop
  have h3 := h.2.2.2.2.2
  have hw : (let x := gv t 22 k; let y := gv t 23 k; let F := fun (z : Int) (h : Nat) => FL t g c.v ((k : Int) + 1) z h c.o c.rs; let n := fun (h : Nat) => FL t g c.v ((k : Int) + 1) ((k : Int) + 1) h c.o c.rs; let N := fun (h o : Nat) (rs : List Rec) => FL t g c.v ((k : Int) + 1) ((k : Int) + 1) h o rs; ∃ (r : Rec) (rs : List Rec), c.rs = r :: rs ∧ r.k = 4 ∧ r.p = 1 ∧ c.h = r.h ∧ endT t g k c.v r rs) := by
    simp only [h.eFL, h.eFS, h.eFP, h.eJMP, h.eentryIn, h.eendT, h.egv (k := 22) (by decide) (by decide), h.egv (k := 23) (by decide) (by decide), h.egv (k := 26) (by decide) (by decide), h.egv (k := 28) (by decide) (by decide), h.2.2.2.1, h.2.2.1]
    exact q
  unfold OKI
  rw [hop']
  exact hw
theorem CE.eO35 {s t : RS} (h : CE s t) {g : Gh} {k : Nat} {c : Ctx} (ho : OKI s g k c) (hop : gv s 21 k = 35) : OKI t g k c := by
  have q := okI_35 ho hop
  have hop' : gv t 21 k = 35 := (h.egv (by decide) (by decide) k).trans hop
  have h3 := h.2.2.2.2.2
  have hw : (let x := gv t 22 k; let y := gv t 23 k; let F := fun (z : Int) (h : Nat) => FL t g c.v ((k : Int) + 1) z h c.o c.rs; let n := fun (h : Nat) => FL t g c.v ((k : Int) + 1) ((k : Int) + 1) h c.o c.rs; let N := fun (h o : Nat) (rs : List Rec) => FL t g c.v ((k : Int) + 1) ((k : Int) + 1) h o rs; ∃ (r : Rec) (rs : List Rec), c.rs = r :: rs ∧ r.k = 4 ∧ r.p = 2 ∧ c.h = r.h ∧ c.v = r.v ∧ r.ps = true ∧ (r.ek = true → N r.h r.o rs)) := by
    simp only [h.eFL, h.eFS, h.eFP, h.eJMP, h.eentryIn, h.eendT, h.egv (k := 22) (by decide) (by decide), h.egv (k := 23) (by decide) (by decide), h.egv (k := 26) (by decide) (by decide), h.egv (k := 28) (by decide) (by decide), h.2.2.2.1, h.2.2.1]
    exact q
  unfold OKI
  rw [hop']
  exact hw
theorem CE.eO36 {s t : RS} (h : CE s t) {g : Gh} {k : Nat} {c : Ctx} (ho : OKI s g k c) (hop : gv s 21 k = 36) : OKI t g k c := by
  have q := okI_36 ho hop
  have hop' : gv t 21 k = 36 := (h.egv (by decide) (by decide) k).trans hop
  have h3 := h.2.2.2.2.2
  have hw : (let x := gv t 22 k; let y := gv t 23 k; let F := fun (z : Int) (h : Nat) => FL t g c.v ((k : Int) + 1) z h c.o c.rs; let n := fun (h : Nat) => FL t g c.v ((k : Int) + 1) ((k : Int) + 1) h c.o c.rs; let N := fun (h o : Nat) (rs : List Rec) => FL t g c.v ((k : Int) + 1) ((k : Int) + 1) h o rs; 0 ≤ y ∧ JMP t g c.v ((k : Int) + 1) x y.toNat c.h c.o c.rs) := by
    simp only [h.eFL, h.eFS, h.eFP, h.eJMP, h.eentryIn, h.eendT, h.egv (k := 22) (by decide) (by decide), h.egv (k := 23) (by decide) (by decide), h.egv (k := 26) (by decide) (by decide), h.egv (k := 28) (by decide) (by decide), h.2.2.2.1, h.2.2.1]
    exact q
  unfold OKI
  rw [hop']
  exact hw
theorem CE.eOKI {s t : RS} (h : CE s t) {g : Gh} {k : Nat} {c : Ctx} (ho : OKI s g k c) : OKI t g k c := by
  obtain ⟨m, h1, h2, hm⟩ := okI_range ho
  rcases (show m = 1 ∨ m = 2 ∨ m = 3 ∨ m = 4 ∨ m = 5 ∨ m = 6 ∨ m = 7 ∨ m = 8 ∨ m = 9 ∨ m = 10 ∨ m = 11 ∨ m = 12 ∨ m = 13 ∨ m = 14 ∨ m = 15 ∨ m = 16 ∨ m = 17 ∨ m = 18 ∨ m = 19 ∨ m = 20 ∨ m = 21 ∨ m = 22 ∨ m = 23 ∨ m = 24 ∨ m = 25 ∨ m = 26 ∨ m = 27 ∨ m = 28 ∨ m = 29 ∨ m = 30 ∨ m = 31 ∨ m = 32 ∨ m = 33 ∨ m = 34 ∨ m = 35 ∨ m = 36 by omega) with rfl | rfl | rfl | rfl | rfl | rfl | rfl | rfl | rfl | rfl | rfl | rfl | rfl | rfl | rfl | rfl | rfl | rfl | rfl | rfl | rfl | rfl | rfl | rfl | rfl | rfl | rfl | rfl | rfl | rfl | rfl | rfl | rfl | rfl | rfl | rfl
  · exact h.eO1 ho hm
  · exact h.eO2 ho hm
  · exact h.eO3 ho hm
  · exact h.eO4 ho hm
  · exact h.eO5 ho hm
  · exact h.eO6 ho hm
  · exact h.eO7 ho hm
  · exact h.eO8 ho hm
  · exact h.eO9 ho hm
  · exact h.eO10 ho hm
  · exact h.eO11 ho hm
  · exact h.eO12 ho hm
  · exact h.eO13 ho hm
  · exact h.eO14 ho hm
  · exact h.eO15 ho hm
  · exact h.eO16 ho hm
  · exact h.eO17 ho hm
  · exact h.eO18 ho hm
  · exact h.eO19 ho hm
  · exact h.eO20 ho hm
  · exact h.eO21 ho hm
  · exact h.eO22 ho hm
  · exact h.eO23 ho hm
  · exact h.eO24 ho hm
  · exact h.eO25 ho hm
  · exact h.eO26 ho hm
  · exact h.eO27 ho hm
  · exact h.eO28 ho hm
  · exact h.eO29 ho hm
  · exact h.eO30 ho hm
  · exact h.eO31 ho hm
  · exact h.eO32 ho hm
  · exact h.eO33 ho hm
  · exact h.eO34 ho hm
  · exact h.eO35 ho hm
  · exact h.eO36 ho hm
theorem WT.of {s t : RS} {g : Gh} (hW : WT s g) (h : CE s t) : WT t g := by
  obtain ⟨w1, w2, w3, w4, w5, w6, w7, w8, w9, w10, w11⟩ := hW
  refine ⟨by rw [h.ecd]; exact w1, by rw [h.2.2.2.1]; exact w2, by rw [h.2.2.2.2.1]; exact w3, by rw [h.2.2.1]; exact w4, ?_, ?_, ?_, by rw [h.ecd]; exact w8, ?_, w10, w11⟩
  · intro k hk
    rw [h.2.2.2.2.1] at hk ⊢
    rw [h.egv (by decide) (by decide)]
    exact w5 k hk
  · intro k hk
    rw [h.2.2.2.1] at hk
    rw [h.2.2.2.2.1, h.egv (by decide) (by decide)]
    exact w6 k hk
  · intro k hk
    rw [h.2.2.1] at hk ⊢
    rw [h.egv (by decide) (by decide)]
    exact w7 k hk
  · intro k c hk hT
    rw [h.ecd] at hk
    obtain ⟨a1, a2, a3⟩ := w9 k c hk hT
    exact ⟨h.eOKI a1, by rw [h.erecsOK]; exact a2, a3⟩
/-- between two instructions -/
def LI (s σ : RS) (g : Gh) : Prop := RX s σ ∧ RB σ ∧ RD σ g ∧ (σ.i 115 = 3 → 0 ≤ (σ.i 114).toInt ∧ (σ.i 114).toInt < 3200) ∧ (0 ≤ (σ.i 92).toInt → σ.i 115 = 0)
/-- what a run leaves -/
def RR (σ : RS) : Prop := (0 ≤ σ.i 81 ∧ σ.i 81 ≤ 200) ∧ (σ.i 115 = 3 → 0 ≤ (σ.i 114).toInt ∧ (σ.i 114).toInt < 3200) ∧ (∀ t : Nat, t < 3200 → 0 ≤ gv σ 88 t ∧ gv σ 88 t ≤ 8) ∧ (∀ t : Nat, t < 3200 → gv σ 86 t < (σ.i 3).toInt)
theorem LI.rr {s σ : RS} {g : Gh} (h : LI s σ g) : RR σ := ⟨h.2.2.1.2.2.1, h.2.2.2.1, h.2.2.1.2.2.2.2.2.1, h.2.2.1.2.2.2.2.2.2⟩
theorem p_run163 {N : Nat} {s σ : RS} {g : Gh} (h : LI s σ g) : ok (f_X12_run_163 N σ) (fun R => RX s R.2 ∧ RB R.2 ∧ RR R.2) := by
  unfold f_X12_run_163
  repeat' (first | exact ok_some ⟨h.1, h.2.1, h.rr⟩ | refine ok_ite (fun _ => ?_) (fun _ => ?_))
theorem p_run122 {N : Nat} (hN : 1000 ≤ N) {s : RS} {g : Gh} (hW : WT s g) (hB : RB s) : ∀ (n : Nat) (σ : RS), LI s σ g → ((σ.i 92).toInt < 0 ∨ cdI s ≤ (σ.i 92).toInt ∨ ∃ c, 0 ≤ (σ.i 92).toInt ∧ g.T (σ.i 92).toInt.toNat c ∧ DY s σ g c ∧ (1000 - (σ.i 80).toInt) * 9006001 + (c.v : Int) * 3000 + (cdI s - (σ.i 92).toInt) < n) → 1 ≤ n → ok (f_X12_run_122 N n σ) (fun R => RX s R.2 ∧ RB R.2 ∧ RR R.2)
  | 0, _, _, _, h => by omega
  | n+1, σ, hL, ho, _ => by
    show ok (b_X12_run_122 N (f_X12_run_122 N n) σ) _
    unfold b_X12_run_122
    refine ok_ite (fun _ => p_run163 hL) (fun c1 => ok_ite (fun _ => p_run163 hL) (fun c2 => ?_))
    have h0 : 0 ≤ (σ.i 92).toInt := by have := le_int (Int32.not_lt.mp c1); rw [z_t0] at this; exact this
    have e20 : σ.i 20 = s.i 20 := hL.1.2.2.1 20 (by decide)
    have h1 : (σ.i 92).toInt < cdI s := by have := lt_int (Int32.not_le.mp c2); rw [e20] at this; exact this
    rcases ho with ho | ho | ⟨c, o1, o2, o3, o4⟩
    · omega
    · omega
    · obtain ⟨d1, d2, d3, d4, d5, d6, d7⟩ := o3
      have hcd := hW.1
      have e1 : (1 : Int32).toInt = 1 := by decide
      have es : (σ.i 92 + 1).toInt = (σ.i 92).toInt + 1 := by rw [toInt_add] <;> rw [e1] <;> omega
      have ek : ((σ.i 92).toInt.toNat : Int) = (σ.i 92).toInt := Int.toNat_of_nonneg h0
      have hb : BS s σ (σ.setI 92 (σ.i 92 + 1)) g := ⟨hL.1.tr (RX.i _ _ _ (by decide)), RD.of hL.2.2.1 rfl rfl rfl rfl rfl rfl rfl rfl rfl, rfl, rfl⟩
      have hs : ST s (σ.setI 92 (σ.i 92 + 1)) g c.h c.o c.rs := ⟨d1, d2, d3, d4, d5, RM.of (σ := σ) (fun _ _ _ _ _ => rfl) d6⟩
      have hp : PRE s σ (σ.setI 92 (σ.i 92 + 1)) g (σ.i 92).toInt.toNat c (σ.i 92) := ⟨hW, hB, by omega, o2, hb, hs, by rw [ek]; exact es, ek.symm, d7⟩
      refine ok_bind (p_act hN hp) (fun R hR => ?_)
      obtain ⟨a1, a2, a3, a4, a5⟩ := hR
      have h80 : 0 ≤ (σ.i 80).toInt ∧ (σ.i 80).toInt ≤ 1000 := by
        have := hL.2.2.1.2.2.2.2.1
        have x := le_int this.1
        have y := le_int this.2
        rw [z_t0] at x
        rw [show (1000 : Int32).toInt = 1000 by decide] at y
        exact ⟨x, y⟩
      have hcv : c.v ≤ 3000 := hp.fact.2.2.2.2.2.2.2.1
      have h115 : σ.i 115 = 0 := hL.2.2.2.2 h0
      have hLR : LI s R g := by
        refine ⟨a1, a2, a3, ?_, ?_⟩
        · rcases a5 with a5 | a5
          · intro z
            rw [a5, h115] at z
            exact absurd z (by decide)
          · exact a5.2
        · rcases a5 with a5 | a5
          · intro _; rw [a5, h115]
          · intro z; have := a5.1; omega
      refine p_run122 hN hW hB n R hLR ?_ (by omega)
      rcases a4 with ⟨a4, a6⟩ | ⟨a4, a6⟩
      · rcases a6 with a6 | a6 | ⟨c', b1, b2, b3, b4⟩
        · exact Or.inl a6
        · exact Or.inr (Or.inl a6)
        · by_cases hlt : (R.i 92).toInt < cdI s
          · refine Or.inr (Or.inr ⟨c', b1, b2, b3, ?_⟩)
            rw [a4]
            rcases b4 with b4 | ⟨b4, b5⟩
            · omega
            · omega
          · exact Or.inr (Or.inl (by omega))
      · rcases a6 with a6 | a6 | ⟨c', b1, b2, b3⟩
        · exact Or.inl a6
        · exact Or.inr (Or.inl a6)
        · by_cases hlt : (R.i 92).toInt < cdI s
          · refine Or.inr (Or.inr ⟨c', b1, b2, b3, ?_⟩)
            have hv' : c'.v ≤ 3000 := (hW.2.2.2.2.2.2.2.2.1 _ c' (by omega) b2).2.2.2.2.2.2.2.1
            rw [a4]
            omega
          · exact Or.inr (Or.inl (by omega))
/-- what a run, with its clearing, leaves as it is -/
def RZ (s t : RS) : Prop := t.i = s.i ∧ t.l = s.l ∧ t.b = s.b ∧ ∀ k : Nat, k ≠ 84 → k ≠ 91 → t.a k = s.a k
theorem RZ.a84 {s t : RS} (h : RZ s t) (j : Nat) (v : Int32) : RZ s (t.setA 84 j v) := ⟨h.1, h.2.1, h.2.2.1, fun k a b => (if_neg a).trans (h.2.2.2 k a b)⟩
theorem RZ.a91 {s t : RS} (h : RZ s t) (j : Nat) (v : Int32) : RZ s (t.setA 91 j v) := ⟨h.1, h.2.1, h.2.2.1, fun k a b => (if_neg b).trans (h.2.2.2 k a b)⟩
def RUNP (s t : RS) : Prop := (∀ j : Nat, j < 79 → t.i j = s.i j) ∧ t.l = s.l ∧ t.b = s.b ∧ (∀ k : Nat, k < 82 → t.a k = s.a k) ∧ t.i 79 = 1 ∧ RB t ∧ RR t
theorem p_run39 {N : Nat} (hN : 10000000000 ≤ N) {s : RS} {g : Gh} (hW : WT s g) (hB : RB s) (hR : RR s) (x1 x2 : Int32) : ∀ (n : Nat) (σ : RS) (x3 : Int32), RZ s σ → (∀ j : Nat, j < 460 → σ.a 84 j = 0) → 0 ≤ x3.toInt → x3.toInt ≤ 8 → 8 - x3.toInt < n → ok (f_X12_run_39 N n σ x1 x2 x3) (fun R => RUNP s R.2)
  | 0, _, _, _, _, _, _, h => by omega
  | n+1, σ, x3, hZ, hv, h0, h8, hn => by
    show ok (b_X12_run_39 N (f_X12_run_39 N n) σ x1 x2 x3) _
    unfold b_X12_run_39
    have e8 : (8 : Int32).toInt = 8 := by decide
    have e1 : (1 : Int32).toInt = 1 := by decide
    refine ok_ite (fun c => ?_) (fun c => ?_)
    · generalize hτ : (RS.setI (RS.setI (RS.setI (RS.setI (RS.setI (RS.setI (RS.setI (RS.setI (RS.setI (RS.setI (RS.setA (RS.setA σ 84 ((0 : Int32).toNatClampNeg) x1) 84 ((1 : Int32).toNatClampNeg) x2) 80 0) 81 0) 85 0) 95 0) 97 0) 99 0) 93 0) 79 1) 115 0) 92 0) = τ
      have ti : ∀ j : Nat, τ.i j = if j = 92 then 0 else if j = 115 then 0 else if j = 79 then 1 else if j = 93 then 0 else if j = 99 then 0 else if j = 97 then 0 else if j = 95 then 0 else if j = 85 then 0 else if j = 81 then 0 else if j = 80 then 0 else σ.i j := fun j => by rw [← hτ]; rfl
      have ta : ∀ k : Nat, k ≠ 84 → τ.a k = σ.a k := fun k hk => by rw [← hτ]; exact (if_neg hk).trans (if_neg hk)
      have t84 : ∀ j : Nat, 2 ≤ j → τ.a 84 j = σ.a 84 j := fun j hj => by
        rw [← hτ]
        show (if j = (1 : Int32).toNatClampNeg then x2 else if j = (0 : Int32).toNatClampNeg then x1 else σ.a 84 j) = σ.a 84 j
        rw [if_neg (by rw [show (1 : Int32).toNatClampNeg = 1 by decide]; omega), if_neg (by rw [show (0 : Int32).toNatClampNeg = 0 by decide]; omega)]
      have tl : τ.l = s.l := by rw [← hτ]; exact hZ.2.1
      have tb : τ.b = s.b := by rw [← hτ]; exact hZ.2.2.1
      have tj : ∀ j : Nat, j < 79 → τ.i j = s.i j := fun j hj => by
        rw [ti, if_neg (by omega), if_neg (by omega), if_neg (by omega), if_neg (by omega), if_neg (by omega), if_neg (by omega), if_neg (by omega), if_neg (by omega), if_neg (by omega), if_neg (by omega), hZ.1]
      have tk : ∀ k : Nat, k ≠ 84 → k ≠ 91 → τ.a k = s.a k := fun k h1 h2 => (ta k h1).trans (hZ.2.2.2 k h1 h2)
      have hWτ : WT τ g := hW.of ⟨fun k h1 h2 => tk k (by omega) (by omega), tj 20 (by decide), tj 24 (by decide), tj 29 (by decide), tj 33 (by decide), by rw [tj 3 (by decide)]; exact Int.le_refl _⟩
      have hBτ : RB τ := RB.of (tj 2 (by decide)) (tj 3 (by decide)) (tk 4 (by decide) (by decide)) (tk 6 (by decide) (by decide)) (tk 7 (by decide) (by decide)) hB
      have i92 : τ.i 92 = 0 := ti 92
      have i115 : τ.i 115 = 0 := ti 115
      have i79 : τ.i 79 = 1 := ti 79
      have i93 : τ.i 93 = 0 := ti 93
      have i99 : τ.i 99 = 0 := ti 99
      have i97 : τ.i 97 = 0 := ti 97
      have i95 : τ.i 95 = 0 := ti 95
      have i85 : τ.i 85 = 0 := ti 85
      have i81 : τ.i 81 = 0 := ti 81
      have i80 : τ.i 80 = 0 := ti 80
      have hD : RD τ g := by
        refine ⟨fun j _ h2 => ?_, fun x hx hc => ?_, ?_, ?_, ?_, fun t ht => ?_, fun t ht => ?_⟩
        · rw [i95, z_t0] at h2; omega
        · have hx2 : 2 ≤ x := by
            rcases (show x = 0 ∨ x = 1 ∨ 2 ≤ x by omega) with rfl | rfl | h
            · rw [hW.2.2.2.2.2.2.2.2.2.1] at hc; cases hc
            · rw [hW.2.2.2.2.2.2.2.2.2.2] at hc; cases hc
            · exact h
          have : gv τ 84 x = 0 := by unfold gv; rw [t84 x hx2, hv x hx]; exact z_t0
          rw [this]; decide
        · rw [i81]; decide
        · rw [i85]; decide
        · rw [i80]; decide
        · rw [gv_of (tk 88 (by decide) (by decide))]; exact hR.2.2.1 t ht
        · rw [gv_of (tk 86 (by decide) (by decide)), tj 3 (by decide)]; exact hR.2.2.2 t ht
      have hL : LI τ τ g := ⟨RX.rf _, hBτ, hD, fun z => by rw [i115] at z; exact absurd z (by decide), fun _ => i115⟩
      refine ok_imp (p_run122 (by omega) hWτ hBτ N τ hL ?_ (by omega)) (fun R hRR => ⟨fun j hj => (hRR.1.2.2.1 j (by omega)).trans (tj j hj), hRR.1.1.trans tl, hRR.1.2.1.trans tb, fun k hk => (hRR.1.2.2.2 k hk).trans (tk k (by omega) (by omega)), (hRR.1.2.2.1 79 (by decide)).trans i79, hRR.2.1, hRR.2.2⟩)
      rw [i92, z_t0]
      have hcd := hWτ.1
      by_cases hc0 : 0 < cdI τ
      · obtain ⟨c, d1, d2, d3, d4⟩ := hWτ.2.2.2.2.2.2.2.1 hc0
        have hv' : c.v ≤ 3000 := (hWτ.2.2.2.2.2.2.2.2.1 0 c (by omega) d1).2.2.2.2.2.2.2.1
        refine Or.inr (Or.inr ⟨c, by omega, d1, ⟨?_, ?_, ?_, ?_, ?_, ?_, ?_⟩, ?_⟩)
        · rw [i93, d2]; decide
        · rw [i97, d4]; decide
        · rw [i95]; decide
        · rw [i95, z_t0]; omega
        · rw [i99, d4]; decide
        · rw [d4]; exact True.intro
        · intro q; rw [d3] at q; cases q
        · rw [i80, z_t0]; omega
      · exact Or.inr (Or.inl (by omega))
    · have hlt : x3.toInt < 8 := by have := lt_int (Int32.not_le.mp c); rw [e8] at this; exact this
      have es : (x3 + 1).toInt = x3.toInt + 1 := by rw [toInt_add] <;> rw [e1] <;> omega
      exact ok_chk ⟨h0, by omega⟩ (p_run39 hN hW hB hR x1 x2 n _ (x3 + 1) (hZ.a91 _ _) hv (by omega) (by omega) (by omega))
theorem p_run17 {N : Nat} (hN : 10000000000 ≤ N) {s : RS} {g : Gh} (hW : WT s g) (hB : RB s) (hR : RR s) (x1 x2 : Int32) : ∀ (n : Nat) (σ : RS) (x3 : Int32), RZ s σ → (∀ j : Nat, (j : Int) < x3.toInt → σ.a 84 j = 0) → 0 ≤ x3.toInt → x3.toInt ≤ 460 → 460 - x3.toInt < n → ok (f_X12_run_17 N n σ x1 x2 x3) (fun R => RUNP s R.2)
  | 0, _, _, _, _, _, _, h => by omega
  | n+1, σ, x3, hZ, hv, h0, h8, hn => by
    show ok (b_X12_run_17 N (f_X12_run_17 N n) σ x1 x2 x3) _
    unfold b_X12_run_17
    have e8 : (460 : Int32).toInt = 460 := by decide
    have e1 : (1 : Int32).toInt = 1 := by decide
    refine ok_ite (fun c => ?_) (fun c => ?_)
    · have hc := le_int c
      rw [e8] at hc
      exact p_run39 hN hW hB hR x1 x2 N σ 0 hZ (fun j hj => hv j (by omega)) (by decide) (by decide) (by rw [z_t0]; omega)
    · have hlt : x3.toInt < 460 := by have := lt_int (Int32.not_le.mp c); rw [e8] at this; exact this
      have es : (x3 + 1).toInt = x3.toInt + 1 := by rw [toInt_add] <;> rw [e1] <;> omega
      refine ok_chk ⟨h0, by omega⟩ (p_run17 hN hW hB hR x1 x2 n _ (x3 + 1) (hZ.a84 _ _) (fun j hj => ?_) (by omega) (by omega) (by omega))
      show (if j = x3.toNatClampNeg then (0 : Int32) else σ.a 84 j) = 0
      by_cases w : j = x3.toNatClampNeg
      · exact if_pos w
      · rw [if_neg w]
        have := clampI h0
        exact hv j (by omega)
/-- run: where there is a program, it is as expected -/
theorem p_run {N : Nat} (hN : 10000000000 ≤ N) (σ : RS) (x1 x2 : Int32) (hB : RB σ) (hR : RR σ) (hW : ¬ σ.i 77 = 0 → ∃ g, WT σ g) : ok (f_X12_run N σ x1 x2) (fun R => (σ.i 77 = 0 ∧ R.2 = σ.setI 0 0) ∨ (¬ σ.i 77 = 0 ∧ RUNP (σ.setI 0 0) R.2)) := by
  unfold f_X12_run
  refine ok_ite (fun c => ok_some (Or.inl ⟨c, rfl⟩)) (fun c => ?_)
  obtain ⟨g, hW⟩ := hW c
  have hW0 : WT (σ.setI 0 0) g := hW.of ⟨fun _ _ _ => rfl, rfl, rfl, rfl, rfl, Int.le_refl _⟩
  exact ok_imp (p_run17 hN hW0 (hB.i0 0) ⟨hR.1, hR.2.1, hR.2.2.1, hR.2.2.2⟩ x1 x2 N _ 0 ⟨rfl, rfl, rfl, fun _ _ _ => rfl⟩ (fun j hj => by rw [z_t0] at hj; omega) (by decide) (by decide) (by rw [z_t0]; omega)) (fun R h => Or.inr ⟨c, h⟩)
end
section
theorem p_ran168 (N : Nat) : ∀ (n : Nat) (σ : RS) (x3 x4 : Int32), 0 ≤ x4.toInt → x4.toInt ≤ 8 → 8 - x4.toInt < n → ok (f_X12_ran_168 N n σ x3 x4) (fun R => R.2 = σ)
  | 0, _, _, _, _, _, h => by omega
  | n+1, σ, x3, x4, h0, h8, hn => by
    show ok (b_X12_ran_168 N (f_X12_ran_168 N n) σ x3 x4) _
    unfold b_X12_ran_168
    have e8 : (8 : Int32).toInt = 8 := by decide
    have e1 : (1 : Int32).toInt = 1 := by decide
    refine ok_ite (fun c => ok_some rfl) (fun c => ?_)
    have hlt : x4.toInt < 8 := by have := lt_int (Int32.not_le.mp c); rw [e8] at this; exact this
    have es : (x4 + 1).toInt = x4.toInt + 1 := by rw [toInt_add] <;> rw [e1] <;> omega
    exact ok_chk ⟨h0, by omega⟩ (p_ran168 N n σ _ (x4 + 1) (by omega) (by omega) (by omega))
theorem p_ran41 {N : Nat} (hN : 1000 ≤ N) (σ : RS) (x1 x2 : Int32) (h : x2 = 0 ∨ 0 ≤ (σ.i 114).toInt ∧ (σ.i 114).toInt < 3200) : ok (f_X12_ran_41 N σ x1 x2) (fun R => R.2 = σ) := by
  unfold f_X12_ran_41
  have ib' : ¬ x2 = 0 → ib (σ.i 114) 3200 := fun c => by
    rcases h with h | h
    · exact absurd h c
    · exact ⟨h.1, h.2⟩
  refine ok_ite (fun _ => ok_some rfl) (fun _ => ok_ite (fun _ => ok_some rfl) (fun _ => ok_ite (fun _ => ok_ite (fun _ => ok_some rfl) (fun _ => ok_some rfl)) (fun _ => ?_)))
  refine ok_ite (fun _ => ok_ite (fun _ => ok_some rfl) (fun c => ok_chk (ib' c) (ok_some rfl))) (fun _ => ok_ite (fun _ => ok_ite (fun _ => ok_some rfl) (fun c => ok_chk (ib' c) (ok_some rfl))) (fun _ => ok_ite (fun _ => ok_ite (fun _ => ok_some rfl) (fun c => ok_chk (ib' c) (ok_some rfl))) (fun _ => ?_)))
  exact p_ran168 N N σ 0 0 (by decide) (by decide) (by rw [z_t0]; omega)
theorem p_ran {N : Nat} (hN : 1000 ≤ N) (σ : RS) (x1 : Int32) (hR : RR σ) : ok (f_X12_ran N σ x1) (fun R => R.2 = σ.setI 0 0) := by
  unfold f_X12_ran
  refine ok_bind (p_in N (σ.setI 0 0) x1 0 6) (fun p hp => ?_)
  obtain ⟨e, -⟩ := hp
  rw [e]
  refine ok_ite (fun _ => ok_some rfl) (fun _ => ok_ite (fun _ => ok_some rfl) (fun _ => ok_ite (fun c => ?_) (fun c => ?_)))
  · exact p_ran41 hN _ _ _ (Or.inr (hR.2.1 c))
  · exact p_ran41 hN _ _ _ (Or.inl rfl)
theorem p_trace (N : Nat) (σ : RS) (x1 x2 : Int32) (hR : RR σ) : ok (f_X12_trace N σ x1 x2) (fun R => R.2 = σ.setI 0 0) := by
  unfold f_X12_trace f_X12_trace_35
  refine ok_ite (fun _ => ok_some rfl) (fun _ => ok_bind (p_in N (σ.setI 0 0) x1 0 _) (fun p hp => ?_))
  obtain ⟨e, hp⟩ := hp
  rw [e]
  refine ok_ite (fun _ => ok_some rfl) (fun c => ok_bind (p_in N (σ.setI 0 0) x2 0 1) (fun q hq => ?_))
  obtain ⟨e2, -⟩ := hq
  rw [e2]
  have hib : ib x1 200 := by
    rcases hp with hp | ⟨-, h1, h2⟩
    · exact absurd hp c
    · have h9 : σ.i 81 ≤ 200 := hR.1.2
      have h0 : 0 ≤ σ.i 81 := hR.1.1
      have h2 : x1 ≤ σ.i 81 - 1 := h2
      refine ib_of (m := 200) (by decide) h1 ?_
      grind
  exact ok_ite (fun _ => ok_some rfl) (fun _ => ok_ite (fun _ => ok_chk hib (ok_some rfl)) (fun _ => ok_chk hib (ok_some rfl)))
theorem p_suppressed (N : Nat) (σ : RS) (x1 x2 : Int32) (hR : RR σ) : ok (f_X12_suppressed N σ x1 x2) (fun R => R.2 = σ.setI 0 0) := by
  unfold f_X12_suppressed f_X12_suppressed_48
  refine ok_ite (fun _ => ok_some rfl) (fun _ => ok_ite (fun c => ?_) (fun _ => ok_some rfl))
  have ht := hR.2.1 c
  refine ok_chk ⟨ht.1, ht.2⟩ (ok_bind (p_in N (σ.setI 0 0) x1 0 _) (fun p hp => ?_))
  obtain ⟨e, hp⟩ := hp
  rw [e]
  refine ok_ite (fun _ => ok_some rfl) (fun c => ok_bind (p_in N (σ.setI 0 0) x2 0 1) (fun q hq => ?_))
  obtain ⟨e2, -⟩ := hq
  rw [e2]
  have hib : ib ((8 * ((σ.setI 0 0).i 114)) + x1) 25600 := by
    rcases hp with hp | ⟨-, h1, h2⟩
    · exact absurd hp c
    · have hc := clampI ht.1
      have h9 := hR.2.2.1 (σ.i 114).toNatClampNeg (by omega)
      have h2 : x1 ≤ σ.a 88 (σ.i 114).toNatClampNeg - 1 := h2
      have h3 := le_int h2
      have h1 := le_int h1
      rw [z_t0] at h1
      have e1 : (1 : Int32).toInt = 1 := by decide
      have e8 : (8 : Int32).toInt = 8 := by decide
      have h9a : 0 ≤ (σ.a 88 (σ.i 114).toNatClampNeg).toInt := h9.1
      have h9b : (σ.a 88 (σ.i 114).toNatClampNeg).toInt ≤ 8 := h9.2
      have hs : (σ.a 88 (σ.i 114).toNatClampNeg - 1).toInt = (σ.a 88 (σ.i 114).toNatClampNeg).toInt - 1 := by rw [toInt_sub] <;> rw [e1] <;> omega
      have hm : (8 * σ.i 114).toInt = 8 * (σ.i 114).toInt := by
        rw [Int32.toInt_mul, e8, Int.bmod_eq_of_le (by omega) (by omega)]
      show ib (8 * σ.i 114 + x1) 25600
      have ha : (8 * σ.i 114 + x1).toInt = 8 * (σ.i 114).toInt + x1.toInt := by rw [toInt_add] <;> rw [hm] <;> omega
      exact ⟨by omega, by omega⟩
  exact ok_ite (fun _ => ok_some rfl) (fun _ => ok_ite (fun _ => ok_chk hib (ok_some rfl)) (fun _ => ok_chk hib (ok_some rfl)))
end
section
/-! reading: the lexer's part of the state -/
def fr (s : RS) : Int := (s.i 11).toInt
def op (s : RS) : Int := (s.i 19).toInt
/-- the lexer stands well -/
def LXI (s : RS) : Prop := 0 ≤ s.i 11 ∧ s.i 11 ≤ s.i 12 ∧ s.i 12 ≤ s.i 2 ∧ s.i 2 ≤ 900 ∧ (s.i 10 = 0 ∧ s.i 11 = s.i 2 ∨ s.i 10 ≠ 0 ∧ s.i 11 < s.i 12) ∧ (s.i 10 = 3 ∨ s.i 10 = 4 → 0 ≤ s.i 14 ∧ s.i 14 ≤ 7) ∧ (s.i 10 = 5 → 0 ≤ s.i 14 ∧ s.i 14 ≤ 11) ∧ (410 ≤ s.i 10 → s.i 11 + 2 ≤ s.i 12) ∧ s.i 10 ≤ 434 ∧ WD s ∧ (s.i 10 = 5 → s.i 11 + 2 ≤ s.i 12)
/-- only the lexer's numbers change; opened stands for itself -/
def LX (s t : RS) : Prop := t.a = s.a ∧ t.b = s.b ∧ (∀ j : Nat, j < 10 ∨ 18 ≤ j → j ≠ 19 → t.i j = s.i j) ∧ LXI t ∧ (t.i 15 = 0 → s.i 15 = 0) ∧ fr s ≤ fr t
theorem LX.rf {s : RS} (h : LXI s) : LX s s := ⟨rfl, rfl, fun _ _ _ => rfl, h, id, Int.le_refl _⟩
theorem LX.tr {s t u : RS} (h1 : LX s t) (h2 : LX t u) : LX s u := ⟨h2.1.trans h1.1, h2.2.1.trans h1.2.1, fun j a b => (h2.2.2.1 j a b).trans (h1.2.2.1 j a b), h2.2.2.2.1, fun z => h1.2.2.2.2.1 (h2.2.2.2.2.1 z), Int.le_trans h1.2.2.2.2.2 h2.2.2.2.2.2⟩
theorem LXI.f0 {s : RS} (h : LXI s) : 0 ≤ fr s ∧ fr s ≤ 900 := by
  have h1 := le_int h.1
  rw [z_t0] at h1
  have h2 := le_int h.2.1
  have h3 := le_int h.2.2.1
  have h4 := le_int h.2.2.2.1
  have e9 : (900 : Int32).toInt = 900 := by decide
  unfold fr
  omega
/-- at least d bytes went -/
def CN (s t : RS) : Prop := t.i 17 = s.i 17 + 1 ∧ fr s + 1 ≤ fr t ∧ (410 ≤ s.i 10 ∨ s.i 10 = 5 → fr s + 2 ≤ fr t)
theorem p_nx {N : Nat} (hN : 1000 ≤ N) {σ : RS} (h : LXI σ) : ok (f_X12_next N σ) (fun R => LX σ R ∧ R.i 19 = σ.i 19 ∧ (¬ σ.i 15 = 0 → R = σ) ∧ (σ.i 15 = 0 → R.i 15 = 0 ∧ (¬ σ.i 10 = 0 → CN σ R))) := by
  obtain ⟨a1, a2, a3, a4, a5, a6, a7, a8, a9, a10, a11⟩ := id h
  have h12 : 0 ≤ σ.i 12 := by grind
  refine ok_imp (p_next hN σ h12 a3 a4 a10) (fun R hR => ?_)
  rcases hR with ⟨c, rfl⟩ | ⟨c, hT, hf⟩
  · exact ⟨LX.rf h, rfl, fun _ => rfl, fun z => absurd z c⟩
  · obtain ⟨⟨u1, u2, u3⟩, t1, t2, t3, t4, t5, t6, t7, t8, t9⟩ := hT
    have e2 : R.i 2 = σ.i 2 := u1 2 (by decide) (by decide) (by decide) (by decide)
    have hf' := le_int hf
    have a2' := le_int a2
    have i15 : R.i 15 = 0 := (u1 15 (by decide) (by decide) (by decide) (by decide)).trans c
    have hW : WD R := fun k hk => by have := a10 k hk; rw [show R.b = σ.b from u3]; exact this
    refine ⟨⟨u2, u3, fun j hj h19 => (u1 j (by omega) (by omega) (by omega) (by omega)).trans (if_neg (by omega)), ⟨t1, t2, t3, by rw [e2]; exact a4, t4, t5, t6, t7, t8, hW, t9⟩, fun _ => c, ?_⟩, (u1 19 (by decide) (by decide) (by decide) (by decide)), fun z => absurd c z, fun _ => ⟨i15, fun hz => ⟨u1 17 (by decide) (by decide) (by decide) (by decide), ?_, fun hk => ?_⟩⟩⟩
    · unfold fr; omega
    · unfold fr
      rcases a5 with a5 | a5
      · exact absurd a5.1 hz
      · have := lt_int a5.2; omega
    · unfold fr
      have h9 : σ.i 11 + 2 ≤ σ.i 12 := by
        rcases hk with hk | hk
        · exact a8 hk
        · exact a11 hk
      have h1 := le_int a1
      have h3 := le_int a3
      have h4 := le_int a4
      rw [z_t0] at h1
      have e9 : (900 : Int32).toInt = 900 := by decide
      have e2' : (2 : Int32).toInt = 2 := by decide
      have es : (σ.i 11 + 2).toInt = (σ.i 11).toInt + 2 := by rw [toInt_add] <;> rw [e2'] <;> omega
      have := le_int h9
      omega
theorem LX.flt {σ : RS} (h : LXI σ) (x y : Int32) (hx : ¬ x = 0) : LX σ ((σ.setI 15 x).setI 16 y) := ⟨rfl, rfl, fun j hj _ => (if_neg (by omega)).trans (if_neg (by omega)), h, fun z => absurd z hx, Int.le_refl _⟩
theorem p_fl {N : Nat} {σ : RS} (h : LXI σ) (x y : Int32) (hx : ¬ x = 0) : ok (f_X12_fail N σ x y) (fun R => LX σ R ∧ ¬ R.i 15 = 0 ∧ R.i 19 = σ.i 19) := by
  rw [e_fail]
  refine ok_some ?_
  by_cases c : σ.i 15 = 0
  · rw [if_pos c]; exact ⟨LX.flt h x y hx, hx, rfl⟩
  · rw [if_neg c]; exact ⟨LX.rf h, c, rfl⟩
/-- can: either a fault, or nothing -/
theorem p_cn {N : Nat} {σ : RS} (h : LXI σ) (x : Int32) : ok (f_X12_can N σ x) (fun R => LX σ R.2 ∧ R.2.i 19 = σ.i 19 ∧ ((R.1 = 0 ∧ ¬ R.2.i 15 = 0) ∨ (R.1 = 1 ∧ R.2 = σ ∧ σ.i 15 = 0 ∧ ¬ x = 0))) := by
  rw [e_can]
  refine ok_some ?_
  by_cases c : σ.i 15 = 0
  · rw [if_neg (fun z => z c)]
    by_cases d : x = 0 ∨ σ.i 10 = 6
    · rw [if_pos d]
      have hx : ¬ (if σ.i 10 = 6 then (1 : Int32) else 2) = 0 := by
        by_cases e : σ.i 10 = 6
        · rw [if_pos e]; decide
        · rw [if_neg e]; decide
      exact ⟨LX.flt h _ _ hx, rfl, Or.inl ⟨rfl, hx⟩⟩
    · rw [if_neg d]
      exact ⟨LX.rf h, rfl, Or.inr ⟨rfl, rfl, c, fun z => d (Or.inl z)⟩⟩
  · rw [if_pos c]
    exact ⟨LX.rf h, rfl, Or.inl ⟨rfl, c⟩⟩
theorem p_nd {N : Nat} (hN : 1000 ≤ N) {σ : RS} (h : LXI σ) (x : Int32) (hx : ¬ x = 0) : ok (f_X12_need N σ x) (fun R => LX σ R.2 ∧ R.2.i 19 = σ.i 19 ∧ (R.1 = 0 ∧ ¬ R.2.i 15 = 0 ∨ R.1 = 1 ∧ R.2.i 15 = 0) ∧ (R.2.i 15 = 0 → σ.i 10 = x ∧ CN σ R.2)) := by
  unfold f_X12_need f_X12_need_27 f_X12_need_31
  have z31 : ∀ R : RS, LX σ R → R.i 19 = σ.i 19 → (R.i 15 = 0 → σ.i 10 = x ∧ CN σ R) → ok (if R.i 15 = 0 then some ((1 : Int32), R) else some (0, R)) (fun R => LX σ R.2 ∧ R.2.i 19 = σ.i 19 ∧ (R.1 = 0 ∧ ¬ R.2.i 15 = 0 ∨ R.1 = 1 ∧ R.2.i 15 = 0) ∧ (R.2.i 15 = 0 → σ.i 10 = x ∧ CN σ R.2)) := fun R h1 h2 h3 => ok_ite (fun c => ok_some ⟨h1, h2, Or.inr ⟨rfl, c⟩, h3⟩) (fun c => ok_some ⟨h1, h2, Or.inl ⟨rfl, c⟩, h3⟩)
  refine ok_ite (fun c => ok_ite (fun c2 => ?_) (fun c2 => ?_)) (fun c => z31 σ (LX.rf h) rfl (fun z => absurd z c))
  · refine ok_bind (p_cn h 1) (fun p hp => ?_)
    obtain ⟨p1, p2, p3⟩ := hp
    rcases p3 with ⟨p3, p4⟩ | ⟨p3, p4, p5, p6⟩
    · rw [if_pos p3]; exact z31 _ p1 p2 (fun z => absurd z p4)
    · rw [if_neg (by rw [p3]; decide), p4]
      refine ok_bind (p_nx hN h) (fun q hq => ?_)
      obtain ⟨q1, q2, q3, q4⟩ := hq
      exact z31 _ q1 q2 (fun _ => ⟨c2, (q4 c).2 (by rw [c2]; exact hx)⟩)
  · refine ok_bind (p_cn h 0) (fun p hp => ?_)
    obtain ⟨p1, p2, p3⟩ := hp
    rcases p3 with ⟨p3, p4⟩ | ⟨p3, p4, p5, p6⟩
    · rw [if_pos p3]; exact z31 _ p1 p2 (fun z => absurd z p4)
    · exact absurd rfl p6
theorem LX.i19 {s t : RS} (h : LX s t) (v : Int32) : LX s (t.setI 19 v) := ⟨h.1, h.2.1, fun j a b => (if_neg b).trans (h.2.2.1 j a b), h.2.2.2.1, h.2.2.2.2.1, h.2.2.2.2.2⟩
theorem p_os {N : Nat} {σ : RS} (h : LXI σ) : ok (f_X12_opens N σ) (fun R => LX σ R.2 ∧ (R.1 = 0 ∧ ¬ R.2.i 15 = 0 ∨ R.1 = 1 ∧ R.2.i 15 = 0) ∧ (R.2.i 15 = 0 → R.2.i 19 = σ.i 19 + 1 ∧ σ.i 19 + 1 ≤ 20 ∧ R.2 = σ.setI 19 (σ.i 19 + 1))) := by
  unfold f_X12_opens f_X12_opens_29
  refine ok_ite (fun c => ?_) (fun c => ?_)
  · exact ok_ite (fun c2 => ok_some ⟨(LX.rf h).i19 _, Or.inr ⟨rfl, c2⟩, fun _ => ⟨rfl, c, rfl⟩⟩) (fun c2 => ok_some ⟨(LX.rf h).i19 _, Or.inl ⟨rfl, c2⟩, fun z => absurd z c2⟩)
  · refine ok_bind (p_fl (σ := σ.setI 19 (σ.i 19 + 1)) ((LX.rf h).i19 _).2.2.2.1 6 (σ.i 11) (by decide)) (fun p hp => ?_)
    obtain ⟨p1, p2, p3⟩ := hp
    have hX : LX σ p := ((LX.rf h).i19 _).tr p1
    exact ok_ite (fun c2 => absurd c2 p2) (fun c2 => ok_some ⟨hX, Or.inl ⟨rfl, c2⟩, fun z => absurd z p2⟩)
theorem p_op {N : Nat} (hN : 1000 ≤ N) {σ : RS} (h : LXI σ) (x : Int32) (hx : ¬ x = 0) : ok (f_X12_open N σ x) (fun R => LX σ R.2 ∧ (R.1 = 0 ∧ ¬ R.2.i 15 = 0 ∨ R.1 = 1 ∧ R.2.i 15 = 0) ∧ (R.2.i 15 = 0 → σ.i 10 = x ∧ CN σ R.2 ∧ R.2.i 19 = σ.i 19 + 1 ∧ σ.i 19 + 1 ≤ 20)) := by
  unfold f_X12_open f_X12_open_27 f_X12_open_38
  have z31 : ∀ R : RS, LX σ R → (R.i 15 = 0 → σ.i 10 = x ∧ CN σ R ∧ R.i 19 = σ.i 19 + 1 ∧ σ.i 19 + 1 ≤ 20) → ok (if R.i 15 = 0 then some ((1 : Int32), R) else some (0, R)) (fun R => LX σ R.2 ∧ (R.1 = 0 ∧ ¬ R.2.i 15 = 0 ∨ R.1 = 1 ∧ R.2.i 15 = 0) ∧ (R.2.i 15 = 0 → σ.i 10 = x ∧ CN σ R.2 ∧ R.2.i 19 = σ.i 19 + 1 ∧ σ.i 19 + 1 ≤ 20)) := fun R h1 h3 => ok_ite (fun c => ok_some ⟨h1, Or.inr ⟨rfl, c⟩, h3⟩) (fun c => ok_some ⟨h1, Or.inl ⟨rfl, c⟩, h3⟩)
  refine ok_ite (fun c => ok_ite (fun c2 => ?_) (fun c2 => ?_)) (fun c => z31 σ (LX.rf h) (fun z => absurd z c))
  · refine ok_bind (p_cn h 1) (fun p hp => ?_)
    obtain ⟨p1, p2, p3⟩ := hp
    rcases p3 with ⟨p3, p4⟩ | ⟨p3, p4, p5, p6⟩
    · rw [if_pos p3]; exact z31 _ p1 (fun z => absurd z p4)
    · rw [if_neg (by rw [p3]; decide), p4]
      refine ok_bind (p_os h) (fun q hq => ?_)
      obtain ⟨q1, q2, q3⟩ := hq
      rcases q2 with ⟨q2, q4⟩ | ⟨q2, q4⟩
      · rw [if_pos q2]; exact z31 _ q1 (fun z => absurd z q4)
      · rw [if_neg (by rw [q2]; decide)]
        obtain ⟨q5, q6, q7⟩ := q3 q4
        refine ok_bind (p_nx hN q1.2.2.2.1) (fun r hr => ?_)
        obtain ⟨r1, r2, r3, r4⟩ := hr
        refine z31 _ (q1.tr r1) (fun _ => ⟨c2, ?_, r2.trans q5, q6⟩)
        have ht : q.2.i 10 = σ.i 10 := by rw [q7]; rfl
        have hc := (r4 q4).2 (by rw [ht, c2]; exact hx)
        obtain ⟨d1, d2, d3⟩ := hc
        have e17 : q.2.i 17 = σ.i 17 := by rw [q7]; rfl
        have e11 : fr q.2 = fr σ := by rw [q7]; rfl
        rw [e17] at d1
        rw [e11] at d2 d3
        rw [ht] at d3
        exact ⟨d1, d2, d3⟩
  · refine ok_bind (p_cn h 0) (fun p hp => ?_)
    obtain ⟨p1, p2, p3⟩ := hp
    rcases p3 with ⟨p3, p4⟩ | ⟨p3, p4, p5, p6⟩
    · rw [if_pos p3]; exact z31 _ p1 (fun z => absurd z p4)
    · exact absurd rfl p6
theorem p_sh {N : Nat} (hN : 1000 ≤ N) {σ : RS} (h : LXI σ) (x : Int32) (hx : ¬ x = 0) : ok (f_X12_shut N σ x) (fun R => LX σ R.2 ∧ (R.1 = 0 ∧ ¬ R.2.i 15 = 0 ∨ R.1 = 1 ∧ R.2.i 15 = 0) ∧ (R.2.i 15 = 0 → σ.i 10 = x ∧ CN σ R.2 ∧ R.2.i 19 = σ.i 19 - 1)) := by
  unfold f_X12_shut f_X12_shut_18
  refine ok_bind (p_nd hN h x hx) (fun p hp => ?_)
  obtain ⟨p1, p2, p3, p4⟩ := hp
  refine ok_ite (fun c => ?_) (fun c => ?_)
  · rcases p3 with ⟨-, p3⟩ | ⟨p5, p3⟩
    · rw [if_neg p3]; exact ok_some ⟨p1, Or.inl ⟨rfl, p3⟩, fun z => absurd z p3⟩
    · rw [p5] at c; exact absurd c (by decide)
  · rcases p3 with ⟨p5, p3⟩ | ⟨p5, p3⟩
    · exact absurd p5 c
    · have h15 : (p.2.setI 19 (p.2.i 19 - 1)).i 15 = 0 := p3
      rw [if_pos h15]
      obtain ⟨q1, q2⟩ := p4 p3
      exact ok_some ⟨p1.i19 _, Or.inr ⟨rfl, p3⟩, fun _ => ⟨q1, q2, by show p.2.i 19 - 1 = _; rw [p2]⟩⟩
end
section
/-! reading: what stays, what stands -/
def enI (s : RS) : Int := (s.i 24).toInt
def trI (s : RS) : Int := (s.i 29).toInt
def caI (s : RS) : Int := (s.i 33).toInt
def seI (s : RS) : Int := (s.i 38).toInt
def slI (s : RS) : Int := (s.i 42).toInt
def goI (s : RS) : Int := (s.i 43).toInt
def deI (s : RS) : Int := (s.i 52).toInt
def waI (s : RS) : Int := (s.i 56).toInt
def peI (s : RS) : Int := (s.i 59).toInt
def tpI (s : RS) : Int := (s.i 63).toInt
def bel (k : Nat) (n : Int) (s u : RS) : Prop := ∀ j : Nat, (j : Int) < n → u.a k j = s.a k j
theorem bel.tr {k : Nat} {n m : Int} {s u w : RS} (h1 : bel k n s u) (h2 : bel k m u w) (h : n ≤ m) : bel k n s w := fun j hj => (h2 j (by omega)).trans (h1 j hj)
theorem bel.rf (k : Nat) (n : Int) (s : RS) : bel k n s s := fun _ _ => rfl
/-- the sites of a chain, newest first -/
def ISCH (s : RS) : Int → List Nat → Prop
  | h, [] => h < 0
  | h, x :: L => h = (x : Int) ∧ s.a 21 x = 36 ∧ ISCH s (gv s 22 x) L
def bk : Bool → Nat
  | true => 48
  | false => 49
def hd (s : RS) (b : Bool) (γ : Nat) : Int := gv s (bk b) γ
theorem ISCH.of {s u : RS} : ∀ {L : List Nat} {h : Int}, ISCH s h L → (∀ x ∈ L, u.a 21 x = s.a 21 x ∧ u.a 22 x = s.a 22 x) → ISCH u h L
  | [], _, h, _ => h
  | x :: L, _, ⟨h1, h2, h3⟩, hu => by
    have e := hu x (List.mem_cons_self ..)
    refine ⟨h1, e.1.trans h2, ?_⟩
    unfold gv
    rw [e.2]
    exact ISCH.of h3 (fun y hy => hu y (List.mem_cons_of_mem _ hy))
theorem ISCH.uniq {s : RS} : ∀ {L M : List Nat} {h : Int}, ISCH s h L → ISCH s h M → L = M
  | [], [], _, _, _ => rfl
  | [], y :: M, _, h1, h2 => by have h1 : _ < (0 : Int) := h1; have := h2.1; omega
  | x :: L, [], _, h1, h2 => by have h2 : _ < (0 : Int) := h2; have := h1.1; omega
  | x :: L, y :: M, _, h1, h2 => by
    have e : x = y := by have := h1.1; have := h2.1; omega
    subst e
    rw [ISCH.uniq h1.2.2 h2.2.2]
theorem ISCH.op {s : RS} : ∀ {L : List Nat} {h : Int}, ISCH s h L → ∀ x ∈ L, s.a 21 x = 36
  | [], _, _, x, hx => absurd hx (List.not_mem_nil)
  | y :: L, _, h, x, hx => by
    rcases List.mem_cons.mp hx with rfl | hx
    · exact h.2.1
    · exact ISCH.op h.2.2 x hx
def NOARM (s : RS) (γ : Nat) : Prop := ∀ δ : Nat, γ < δ → (δ : Int) < goI s → ¬ s.a 44 δ = 3
/-- a label on top, one of a row that waits for its loop -/
def TOPR (s : RS) (γ : Nat) : Prop := (γ : Int) < goI s ∧ ∀ δ : Nat, γ ≤ δ → (δ : Int) < goI s → s.a 44 δ = 2 ∧ (s.a 46 δ = -2 ∨ s.a 46 δ = -3)
def K1 (s u : RS) : Prop := (∀ j : Nat, j < 10 ∨ 76 ≤ j → u.i j = s.i j) ∧ (∀ k : Nat, k < 10 ∨ 76 ≤ k → u.a k = s.a k) ∧ u.b 9 = s.b 9
def K1' (s u : RS) : Prop := K1 s u ∧ (0 ≤ s.i 18 → 0 ≤ u.i 18)
def KC (s u : RS) : Prop := cdI s ≤ cdI u ∧ bel 21 (cdI s) s u ∧ bel 22 (cdI s) s u ∧ bel 23 (cdI s) s u
def KE (s u : RS) : Prop := enI s ≤ enI u ∧ bel 25 (enI s) s u ∧ bel 26 (enI s) s u ∧ bel 27 (enI s) s u ∧ bel 28 (enI s) s u
def KT (s u : RS) : Prop := trI s ≤ trI u ∧ bel 30 (trI s) s u ∧ bel 31 (trI s) s u ∧ bel 32 (trI s) s u
def KH (s u : RS) : Prop := caI s ≤ caI u ∧ bel 34 (caI s) s u ∧ bel 35 (caI s) s u ∧ bel 36 (caI s) s u ∧ bel 37 (caI s) s u ∧ (∀ j : Nat, caI s ≤ j → (j : Int) < caI u → slI s ≤ gv u 36 j ∧ gv u 36 j < slI u)
def KS (s u : RS) : Prop := seI s ≤ seI u ∧ slI s ≤ slI u ∧ bel 40 (seI s) s u ∧ bel 41 (seI s) s u
def KG (s u : RS) : Prop := goI s ≤ goI u ∧ bel 44 (goI s) s u ∧ bel 47 (goI s) s u ∧ (∀ γ : Nat, (γ : Int) < goI s → s.a 50 γ = 1 → u.a 50 γ = 1) ∧ (∀ γ : Nat, (γ : Int) < goI s → s.a 51 γ = 1 → u.a 51 γ = 1) ∧ (∀ γ : Nat, (γ : Int) < goI s → u.a 46 γ = s.a 46 γ ∨ TOPR s γ)
def KN (s u : RS) : Prop := ∀ (γ : Nat) (b : Bool) (L : List Nat), (γ : Int) < goI s → ISCH s (hd s b γ) L → (∀ x ∈ L, (x : Int) < cdI s) → ∃ L1, ISCH u (hd u b γ) (L1 ++ L) ∧ ∀ x ∈ L1, cdI s ≤ (x : Int) ∧ (x : Int) < cdI u
def KW (s u : RS) : Prop := waI s ≤ waI u ∧ bel 57 (waI s) s u ∧ bel 58 (waI s) s u
def KQ (s u : RS) : Prop := peI s ≤ peI u ∧ bel 60 (peI s) s u ∧ bel 61 (peI s) s u ∧ bel 62 (peI s) s u
def KF (t : Nat) (s u : RS) : Prop := ∀ k : Nat, 64 ≤ k → k ≤ 73 → bel k t s u
/-- what a part of the reading leaves as it is: the frames below t, all that lies below the counters -/
def KP (t : Nat) (s u : RS) : Prop := K1' s u ∧ KC s u ∧ KE s u ∧ KT s u ∧ KH s u ∧ KS s u ∧ KG s u ∧ KN s u ∧ KW s u ∧ KQ s u ∧ KF t s u
theorem K1.rf (s : RS) : K1 s s := ⟨fun _ _ => rfl, fun _ _ => rfl, rfl⟩
theorem K1.tr {s u w : RS} (h1 : K1 s u) (h2 : K1 u w) : K1 s w := ⟨fun j hj => (h2.1 j hj).trans (h1.1 j hj), fun k hk => (h2.2.1 k hk).trans (h1.2.1 k hk), h2.2.2.trans h1.2.2⟩
theorem KP.rf (t : Nat) (s : RS) : KP t s s := by
  refine ⟨⟨K1.rf s, id⟩, ⟨Int.le_refl _, bel.rf _ _ _, bel.rf _ _ _, bel.rf _ _ _⟩, ⟨Int.le_refl _, bel.rf _ _ _, bel.rf _ _ _, bel.rf _ _ _, bel.rf _ _ _⟩, ⟨Int.le_refl _, bel.rf _ _ _, bel.rf _ _ _, bel.rf _ _ _⟩, ⟨Int.le_refl _, bel.rf _ _ _, bel.rf _ _ _, bel.rf _ _ _, bel.rf _ _ _, fun j h1 h2 => by omega⟩, ⟨Int.le_refl _, Int.le_refl _, bel.rf _ _ _, bel.rf _ _ _⟩, ⟨Int.le_refl _, bel.rf _ _ _, bel.rf _ _ _, fun _ _ h => h, fun _ _ h => h, fun _ _ => Or.inl rfl⟩, fun γ b L _ h hL => ⟨[], h, fun x hx => absurd hx List.not_mem_nil⟩, ⟨Int.le_refl _, bel.rf _ _ _, bel.rf _ _ _⟩, ⟨Int.le_refl _, bel.rf _ _ _, bel.rf _ _ _, bel.rf _ _ _⟩, fun k _ _ => bel.rf _ _ _⟩
theorem KP.tr {t t' : Nat} {s u w : RS} (h1 : KP t s u) (h2 : KP t' u w) (ht : t ≤ t') : KP t s w := by
  obtain ⟨⟨a1, a1'⟩, a2, a3, a4, a5, a6, a7, a8, a9, a10, a11⟩ := h1
  obtain ⟨⟨b1, b1'⟩, b2, b3, b4, b5, b6, b7, b8, b9, b10, b11⟩ := h2
  refine ⟨⟨a1.tr b1, fun h => b1' (a1' h)⟩, ⟨Int.le_trans a2.1 b2.1, a2.2.1.tr b2.2.1 a2.1, a2.2.2.1.tr b2.2.2.1 a2.1, a2.2.2.2.tr b2.2.2.2 a2.1⟩, ⟨Int.le_trans a3.1 b3.1, a3.2.1.tr b3.2.1 a3.1, a3.2.2.1.tr b3.2.2.1 a3.1, a3.2.2.2.1.tr b3.2.2.2.1 a3.1, a3.2.2.2.2.tr b3.2.2.2.2 a3.1⟩, ⟨Int.le_trans a4.1 b4.1, a4.2.1.tr b4.2.1 a4.1, a4.2.2.1.tr b4.2.2.1 a4.1, a4.2.2.2.tr b4.2.2.2 a4.1⟩, ⟨Int.le_trans a5.1 b5.1, a5.2.1.tr b5.2.1 a5.1, a5.2.2.1.tr b5.2.2.1 a5.1, a5.2.2.2.1.tr b5.2.2.2.1 a5.1, a5.2.2.2.2.1.tr b5.2.2.2.2.1 a5.1, ?_⟩, ⟨Int.le_trans a6.1 b6.1, Int.le_trans a6.2.1 b6.2.1, a6.2.2.1.tr b6.2.2.1 a6.1, a6.2.2.2.tr b6.2.2.2 a6.1⟩, ⟨Int.le_trans a7.1 b7.1, a7.2.1.tr b7.2.1 a7.1, a7.2.2.1.tr b7.2.2.1 a7.1, fun γ hγ h => b7.2.2.2.1 γ (by have := a7.1; omega) (a7.2.2.2.1 γ hγ h), fun γ hγ h => b7.2.2.2.2.1 γ (by have := a7.1; omega) (a7.2.2.2.2.1 γ hγ h), ?_⟩, ?_, ⟨Int.le_trans a9.1 b9.1, a9.2.1.tr b9.2.1 a9.1, a9.2.2.tr b9.2.2 a9.1⟩, ⟨Int.le_trans a10.1 b10.1, a10.2.1.tr b10.2.1 a10.1, a10.2.2.1.tr b10.2.2.1 a10.1, a10.2.2.2.tr b10.2.2.2 a10.1⟩, fun k k1 k2 => (a11 k k1 k2).tr (b11 k k1 k2) (by omega)⟩
  · intro j h1 h2
    have sl1 := a6.2.1
    have sl2 := b6.2.1
    by_cases hj : (j : Int) < caI u
    · have := a5.2.2.2.2.2 j h1 hj
      have e : gv w 36 j = gv u 36 j := by unfold gv; rw [b5.2.2.2.1 j hj]
      rw [e]; omega
    · have := b5.2.2.2.2.2 j (by omega) h2
      omega
  · intro γ hγ
    have hγ' : (γ : Int) < goI u := by have := a7.1; omega
    rcases a7.2.2.2.2.2 γ hγ with h | h
    · rcases b7.2.2.2.2.2 γ hγ' with h' | h'
      · exact Or.inl (h'.trans h)
      · refine Or.inr ⟨hγ, fun δ d1 d2 => ?_⟩
        obtain ⟨e1, e2⟩ := h'.2 δ d1 (by have := a7.1; omega)
        rw [a7.2.1 δ d2] at e1
        refine ⟨e1, ?_⟩
        rcases a7.2.2.2.2.2 δ d2 with q | q
        · rw [q] at e2; exact e2
        · exact (q.2 δ (Nat.le_refl _) d2).2
    · exact Or.inr h
  · intro γ b L hγ h hL
    obtain ⟨L1, c1, c2⟩ := a8 γ b L hγ h hL
    have hcd := a2.1
    have hcd' := b2.1
    obtain ⟨L2, d1, d2⟩ := b8 γ b (L1 ++ L) (by have := a7.1; omega) c1 (fun x hx => by
      rcases List.mem_append.mp hx with hx | hx
      · exact (c2 x hx).2
      · have := hL x hx; omega)
    refine ⟨L2 ++ L1, by rw [List.append_assoc]; exact d1, fun x hx => ?_⟩
    rcases List.mem_append.mp hx with hx | hx
    · have := d2 x hx; omega
    · have := c2 x hx; omega
/-- only scalars that nothing here speaks of change -/
theorem KP.ext {t : Nat} {s u w : RS} (h : KP t s u) (ha : w.a = u.a) (hb : w.b 9 = u.b 9) (h18 : 0 ≤ u.i 18 → 0 ≤ w.i 18) (hi : ∀ j : Nat, j < 10 ∨ 20 ≤ j → ¬ (52 ≤ j ∧ j ≤ 55) → j ≠ 63 → j ≠ 75 → w.i j = u.i j) : KP t s w := by
  obtain ⟨⟨a1, a1'⟩, a2, a3, a4, a5, a6, a7, a8, a9, a10, a11⟩ := h
  have cd : cdI w = cdI u := by unfold cdI; rw [hi 20 (by omega) (by omega) (by omega) (by omega)]
  have ee : enI w = enI u := by unfold enI; rw [hi 24 (by omega) (by omega) (by omega) (by omega)]
  have et : trI w = trI u := by unfold trI; rw [hi 29 (by omega) (by omega) (by omega) (by omega)]
  have ec : caI w = caI u := by unfold caI; rw [hi 33 (by omega) (by omega) (by omega) (by omega)]
  have es : seI w = seI u := by unfold seI; rw [hi 38 (by omega) (by omega) (by omega) (by omega)]
  have el : slI w = slI u := by unfold slI; rw [hi 42 (by omega) (by omega) (by omega) (by omega)]
  have eg : goI w = goI u := by unfold goI; rw [hi 43 (by omega) (by omega) (by omega) (by omega)]
  have ew : waI w = waI u := by unfold waI; rw [hi 56 (by omega) (by omega) (by omega) (by omega)]
  have ep : peI w = peI u := by unfold peI; rw [hi 59 (by omega) (by omega) (by omega) (by omega)]
  have eb : ∀ (k : Nat) (n : Int), bel k n s w = bel k n s u := fun k n => by unfold bel; rw [ha]
  have eI : ∀ (L : List Nat) (x : Int), ISCH u x L → ISCH w x L := fun L x hx => hx.of (fun y _ => by rw [ha]; exact ⟨rfl, rfl⟩)
  refine ⟨⟨⟨fun j hj => (hi j (by omega) (by omega) (by omega) (by omega)).trans (a1.1 j hj), fun k hk => by rw [ha]; exact a1.2.1 k hk, by rw [hb]; exact a1.2.2⟩, fun z => h18 (a1' z)⟩, ?_, ?_, ?_, ?_, ?_, ?_, ?_, ?_, ?_, ?_⟩
  · unfold KC; rw [cd, eb, eb, eb]; exact a2
  · unfold KE; rw [ee, eb, eb, eb, eb]; exact a3
  · unfold KT; rw [et, eb, eb, eb]; exact a4
  · unfold KH; unfold gv; rw [ec, eb, eb, eb, eb, el, ha]; exact a5
  · unfold KS; rw [es, el, eb, eb]; exact a6
  · unfold KG; rw [eg, eb, eb, ha]; exact a7
  · intro γ b L hγ hI hL
    obtain ⟨L1, c1, c2⟩ := a8 γ b L hγ hI hL
    refine ⟨L1, ?_, by rw [cd]; exact c2⟩
    unfold hd gv; rw [ha]; exact eI _ _ c1
  · unfold KW; rw [ew, eb, eb]; exact a9
  · unfold KQ; rw [ep, eb, eb, eb]; exact a10
  · intro k k1 k2; rw [eb]; exact a11 k k1 k2
theorem KP.lx {t : Nat} {s u w : RS} (h : KP t s u) (hx : LX u w) : KP t s w := h.ext hx.1 (by rw [hx.2.1]) (fun z => by rw [hx.2.2.1 18 (by omega) (by omega)]; exact z) (fun j h1 _ _ _ => hx.2.2.1 j (by omega) (by omega))
theorem KP.i10 {t : Nat} {s u : RS} (h : KP t s u) (v : Int32) : KP t s (u.setI 10 v) := h.ext rfl rfl id (fun j _ _ _ _ => if_neg (by omega))
theorem KP.i11 {t : Nat} {s u : RS} (h : KP t s u) (v : Int32) : KP t s (u.setI 11 v) := h.ext rfl rfl id (fun j _ _ _ _ => if_neg (by omega))
theorem KP.i12 {t : Nat} {s u : RS} (h : KP t s u) (v : Int32) : KP t s (u.setI 12 v) := h.ext rfl rfl id (fun j _ _ _ _ => if_neg (by omega))
theorem KP.i14 {t : Nat} {s u : RS} (h : KP t s u) (v : Int32) : KP t s (u.setI 14 v) := h.ext rfl rfl id (fun j _ _ _ _ => if_neg (by omega))
theorem KP.i15 {t : Nat} {s u : RS} (h : KP t s u) (v : Int32) : KP t s (u.setI 15 v) := h.ext rfl rfl id (fun j _ _ _ _ => if_neg (by omega))
theorem KP.i16 {t : Nat} {s u : RS} (h : KP t s u) (v : Int32) : KP t s (u.setI 16 v) := h.ext rfl rfl id (fun j _ _ _ _ => if_neg (by omega))
theorem KP.i17 {t : Nat} {s u : RS} (h : KP t s u) (v : Int32) : KP t s (u.setI 17 v) := h.ext rfl rfl id (fun j _ _ _ _ => if_neg (by omega))
theorem KP.i19 {t : Nat} {s u : RS} (h : KP t s u) (v : Int32) : KP t s (u.setI 19 v) := h.ext rfl rfl id (fun j _ _ _ _ => if_neg (by omega))
theorem KP.i52 {t : Nat} {s u : RS} (h : KP t s u) (v : Int32) : KP t s (u.setI 52 v) := h.ext rfl rfl id (fun j _ _ _ _ => if_neg (by omega))
theorem KP.i53 {t : Nat} {s u : RS} (h : KP t s u) (v : Int32) : KP t s (u.setI 53 v) := h.ext rfl rfl id (fun j _ _ _ _ => if_neg (by omega))
theorem KP.i54 {t : Nat} {s u : RS} (h : KP t s u) (v : Int32) : KP t s (u.setI 54 v) := h.ext rfl rfl id (fun j _ _ _ _ => if_neg (by omega))
theorem KP.i55 {t : Nat} {s u : RS} (h : KP t s u) (v : Int32) : KP t s (u.setI 55 v) := h.ext rfl rfl id (fun j _ _ _ _ => if_neg (by omega))
theorem KP.i63 {t : Nat} {s u : RS} (h : KP t s u) (v : Int32) : KP t s (u.setI 63 v) := h.ext rfl rfl id (fun j _ _ _ _ => if_neg (by omega))
theorem KP.i75 {t : Nat} {s u : RS} (h : KP t s u) (v : Int32) : KP t s (u.setI 75 v) := h.ext rfl rfl id (fun j _ _ _ _ => if_neg (by omega))
theorem KP.i18 {t : Nat} {s u : RS} (h : KP t s u) (v : Int32) (hv : 0 ≤ v) : KP t s (u.setI 18 v) := h.ext rfl rfl (fun _ => hv) (fun j _ _ _ _ => if_neg (by omega))
theorem KP.a64 {t : Nat} {s u : RS} (h : KP t s u) (j : Nat) (v : Int32) (hj : t ≤ j) : KP t s (u.setA 64 j v) := ⟨⟨⟨h.1.1.1, fun k hk => (if_neg (by omega)).trans (h.1.1.2.1 k hk), h.1.1.2.2⟩, h.1.2⟩, h.2.1, h.2.2.1, h.2.2.2.1, h.2.2.2.2.1, h.2.2.2.2.2.1, h.2.2.2.2.2.2.1, fun γ b L x1 x2 x3 => by
    obtain ⟨L1, c1, c2⟩ := h.2.2.2.2.2.2.2.1 γ b L x1 x2 x3
    refine ⟨L1, ?_, c2⟩
    cases b
    · exact c1.of (fun y _ => ⟨rfl, rfl⟩)
    · exact c1.of (fun y _ => ⟨rfl, rfl⟩), h.2.2.2.2.2.2.2.2.1, h.2.2.2.2.2.2.2.2.2.1, fun k k1 k2 i hi => by
    have e := h.2.2.2.2.2.2.2.2.2.2 k k1 k2 i hi
    show (if k = 64 then upd (u.a 64) j v else u.a k) i = s.a k i
    by_cases c : k = 64
    · subst c
      rw [if_pos rfl]
      show (if i = j then v else u.a 64 i) = _
      rw [if_neg (by omega)]; exact e
    · rw [if_neg c]; exact e⟩
theorem KP.a65 {t : Nat} {s u : RS} (h : KP t s u) (j : Nat) (v : Int32) (hj : t ≤ j) : KP t s (u.setA 65 j v) := ⟨⟨⟨h.1.1.1, fun k hk => (if_neg (by omega)).trans (h.1.1.2.1 k hk), h.1.1.2.2⟩, h.1.2⟩, h.2.1, h.2.2.1, h.2.2.2.1, h.2.2.2.2.1, h.2.2.2.2.2.1, h.2.2.2.2.2.2.1, fun γ b L x1 x2 x3 => by
    obtain ⟨L1, c1, c2⟩ := h.2.2.2.2.2.2.2.1 γ b L x1 x2 x3
    refine ⟨L1, ?_, c2⟩
    cases b
    · exact c1.of (fun y _ => ⟨rfl, rfl⟩)
    · exact c1.of (fun y _ => ⟨rfl, rfl⟩), h.2.2.2.2.2.2.2.2.1, h.2.2.2.2.2.2.2.2.2.1, fun k k1 k2 i hi => by
    have e := h.2.2.2.2.2.2.2.2.2.2 k k1 k2 i hi
    show (if k = 65 then upd (u.a 65) j v else u.a k) i = s.a k i
    by_cases c : k = 65
    · subst c
      rw [if_pos rfl]
      show (if i = j then v else u.a 65 i) = _
      rw [if_neg (by omega)]; exact e
    · rw [if_neg c]; exact e⟩
theorem KP.a66 {t : Nat} {s u : RS} (h : KP t s u) (j : Nat) (v : Int32) (hj : t ≤ j) : KP t s (u.setA 66 j v) := ⟨⟨⟨h.1.1.1, fun k hk => (if_neg (by omega)).trans (h.1.1.2.1 k hk), h.1.1.2.2⟩, h.1.2⟩, h.2.1, h.2.2.1, h.2.2.2.1, h.2.2.2.2.1, h.2.2.2.2.2.1, h.2.2.2.2.2.2.1, fun γ b L x1 x2 x3 => by
    obtain ⟨L1, c1, c2⟩ := h.2.2.2.2.2.2.2.1 γ b L x1 x2 x3
    refine ⟨L1, ?_, c2⟩
    cases b
    · exact c1.of (fun y _ => ⟨rfl, rfl⟩)
    · exact c1.of (fun y _ => ⟨rfl, rfl⟩), h.2.2.2.2.2.2.2.2.1, h.2.2.2.2.2.2.2.2.2.1, fun k k1 k2 i hi => by
    have e := h.2.2.2.2.2.2.2.2.2.2 k k1 k2 i hi
    show (if k = 66 then upd (u.a 66) j v else u.a k) i = s.a k i
    by_cases c : k = 66
    · subst c
      rw [if_pos rfl]
      show (if i = j then v else u.a 66 i) = _
      rw [if_neg (by omega)]; exact e
    · rw [if_neg c]; exact e⟩
theorem KP.a67 {t : Nat} {s u : RS} (h : KP t s u) (j : Nat) (v : Int32) (hj : t ≤ j) : KP t s (u.setA 67 j v) := ⟨⟨⟨h.1.1.1, fun k hk => (if_neg (by omega)).trans (h.1.1.2.1 k hk), h.1.1.2.2⟩, h.1.2⟩, h.2.1, h.2.2.1, h.2.2.2.1, h.2.2.2.2.1, h.2.2.2.2.2.1, h.2.2.2.2.2.2.1, fun γ b L x1 x2 x3 => by
    obtain ⟨L1, c1, c2⟩ := h.2.2.2.2.2.2.2.1 γ b L x1 x2 x3
    refine ⟨L1, ?_, c2⟩
    cases b
    · exact c1.of (fun y _ => ⟨rfl, rfl⟩)
    · exact c1.of (fun y _ => ⟨rfl, rfl⟩), h.2.2.2.2.2.2.2.2.1, h.2.2.2.2.2.2.2.2.2.1, fun k k1 k2 i hi => by
    have e := h.2.2.2.2.2.2.2.2.2.2 k k1 k2 i hi
    show (if k = 67 then upd (u.a 67) j v else u.a k) i = s.a k i
    by_cases c : k = 67
    · subst c
      rw [if_pos rfl]
      show (if i = j then v else u.a 67 i) = _
      rw [if_neg (by omega)]; exact e
    · rw [if_neg c]; exact e⟩
theorem KP.a68 {t : Nat} {s u : RS} (h : KP t s u) (j : Nat) (v : Int32) (hj : t ≤ j) : KP t s (u.setA 68 j v) := ⟨⟨⟨h.1.1.1, fun k hk => (if_neg (by omega)).trans (h.1.1.2.1 k hk), h.1.1.2.2⟩, h.1.2⟩, h.2.1, h.2.2.1, h.2.2.2.1, h.2.2.2.2.1, h.2.2.2.2.2.1, h.2.2.2.2.2.2.1, fun γ b L x1 x2 x3 => by
    obtain ⟨L1, c1, c2⟩ := h.2.2.2.2.2.2.2.1 γ b L x1 x2 x3
    refine ⟨L1, ?_, c2⟩
    cases b
    · exact c1.of (fun y _ => ⟨rfl, rfl⟩)
    · exact c1.of (fun y _ => ⟨rfl, rfl⟩), h.2.2.2.2.2.2.2.2.1, h.2.2.2.2.2.2.2.2.2.1, fun k k1 k2 i hi => by
    have e := h.2.2.2.2.2.2.2.2.2.2 k k1 k2 i hi
    show (if k = 68 then upd (u.a 68) j v else u.a k) i = s.a k i
    by_cases c : k = 68
    · subst c
      rw [if_pos rfl]
      show (if i = j then v else u.a 68 i) = _
      rw [if_neg (by omega)]; exact e
    · rw [if_neg c]; exact e⟩
theorem KP.a69 {t : Nat} {s u : RS} (h : KP t s u) (j : Nat) (v : Int32) (hj : t ≤ j) : KP t s (u.setA 69 j v) := ⟨⟨⟨h.1.1.1, fun k hk => (if_neg (by omega)).trans (h.1.1.2.1 k hk), h.1.1.2.2⟩, h.1.2⟩, h.2.1, h.2.2.1, h.2.2.2.1, h.2.2.2.2.1, h.2.2.2.2.2.1, h.2.2.2.2.2.2.1, fun γ b L x1 x2 x3 => by
    obtain ⟨L1, c1, c2⟩ := h.2.2.2.2.2.2.2.1 γ b L x1 x2 x3
    refine ⟨L1, ?_, c2⟩
    cases b
    · exact c1.of (fun y _ => ⟨rfl, rfl⟩)
    · exact c1.of (fun y _ => ⟨rfl, rfl⟩), h.2.2.2.2.2.2.2.2.1, h.2.2.2.2.2.2.2.2.2.1, fun k k1 k2 i hi => by
    have e := h.2.2.2.2.2.2.2.2.2.2 k k1 k2 i hi
    show (if k = 69 then upd (u.a 69) j v else u.a k) i = s.a k i
    by_cases c : k = 69
    · subst c
      rw [if_pos rfl]
      show (if i = j then v else u.a 69 i) = _
      rw [if_neg (by omega)]; exact e
    · rw [if_neg c]; exact e⟩
theorem KP.a70 {t : Nat} {s u : RS} (h : KP t s u) (j : Nat) (v : Int32) (hj : t ≤ j) : KP t s (u.setA 70 j v) := ⟨⟨⟨h.1.1.1, fun k hk => (if_neg (by omega)).trans (h.1.1.2.1 k hk), h.1.1.2.2⟩, h.1.2⟩, h.2.1, h.2.2.1, h.2.2.2.1, h.2.2.2.2.1, h.2.2.2.2.2.1, h.2.2.2.2.2.2.1, fun γ b L x1 x2 x3 => by
    obtain ⟨L1, c1, c2⟩ := h.2.2.2.2.2.2.2.1 γ b L x1 x2 x3
    refine ⟨L1, ?_, c2⟩
    cases b
    · exact c1.of (fun y _ => ⟨rfl, rfl⟩)
    · exact c1.of (fun y _ => ⟨rfl, rfl⟩), h.2.2.2.2.2.2.2.2.1, h.2.2.2.2.2.2.2.2.2.1, fun k k1 k2 i hi => by
    have e := h.2.2.2.2.2.2.2.2.2.2 k k1 k2 i hi
    show (if k = 70 then upd (u.a 70) j v else u.a k) i = s.a k i
    by_cases c : k = 70
    · subst c
      rw [if_pos rfl]
      show (if i = j then v else u.a 70 i) = _
      rw [if_neg (by omega)]; exact e
    · rw [if_neg c]; exact e⟩
theorem KP.a71 {t : Nat} {s u : RS} (h : KP t s u) (j : Nat) (v : Int32) (hj : t ≤ j) : KP t s (u.setA 71 j v) := ⟨⟨⟨h.1.1.1, fun k hk => (if_neg (by omega)).trans (h.1.1.2.1 k hk), h.1.1.2.2⟩, h.1.2⟩, h.2.1, h.2.2.1, h.2.2.2.1, h.2.2.2.2.1, h.2.2.2.2.2.1, h.2.2.2.2.2.2.1, fun γ b L x1 x2 x3 => by
    obtain ⟨L1, c1, c2⟩ := h.2.2.2.2.2.2.2.1 γ b L x1 x2 x3
    refine ⟨L1, ?_, c2⟩
    cases b
    · exact c1.of (fun y _ => ⟨rfl, rfl⟩)
    · exact c1.of (fun y _ => ⟨rfl, rfl⟩), h.2.2.2.2.2.2.2.2.1, h.2.2.2.2.2.2.2.2.2.1, fun k k1 k2 i hi => by
    have e := h.2.2.2.2.2.2.2.2.2.2 k k1 k2 i hi
    show (if k = 71 then upd (u.a 71) j v else u.a k) i = s.a k i
    by_cases c : k = 71
    · subst c
      rw [if_pos rfl]
      show (if i = j then v else u.a 71 i) = _
      rw [if_neg (by omega)]; exact e
    · rw [if_neg c]; exact e⟩
theorem KP.a72 {t : Nat} {s u : RS} (h : KP t s u) (j : Nat) (v : Int32) (hj : t ≤ j) : KP t s (u.setA 72 j v) := ⟨⟨⟨h.1.1.1, fun k hk => (if_neg (by omega)).trans (h.1.1.2.1 k hk), h.1.1.2.2⟩, h.1.2⟩, h.2.1, h.2.2.1, h.2.2.2.1, h.2.2.2.2.1, h.2.2.2.2.2.1, h.2.2.2.2.2.2.1, fun γ b L x1 x2 x3 => by
    obtain ⟨L1, c1, c2⟩ := h.2.2.2.2.2.2.2.1 γ b L x1 x2 x3
    refine ⟨L1, ?_, c2⟩
    cases b
    · exact c1.of (fun y _ => ⟨rfl, rfl⟩)
    · exact c1.of (fun y _ => ⟨rfl, rfl⟩), h.2.2.2.2.2.2.2.2.1, h.2.2.2.2.2.2.2.2.2.1, fun k k1 k2 i hi => by
    have e := h.2.2.2.2.2.2.2.2.2.2 k k1 k2 i hi
    show (if k = 72 then upd (u.a 72) j v else u.a k) i = s.a k i
    by_cases c : k = 72
    · subst c
      rw [if_pos rfl]
      show (if i = j then v else u.a 72 i) = _
      rw [if_neg (by omega)]; exact e
    · rw [if_neg c]; exact e⟩
theorem KP.a73 {t : Nat} {s u : RS} (h : KP t s u) (j : Nat) (v : Int32) (hj : t ≤ j) : KP t s (u.setA 73 j v) := ⟨⟨⟨h.1.1.1, fun k hk => (if_neg (by omega)).trans (h.1.1.2.1 k hk), h.1.1.2.2⟩, h.1.2⟩, h.2.1, h.2.2.1, h.2.2.2.1, h.2.2.2.2.1, h.2.2.2.2.2.1, h.2.2.2.2.2.2.1, fun γ b L x1 x2 x3 => by
    obtain ⟨L1, c1, c2⟩ := h.2.2.2.2.2.2.2.1 γ b L x1 x2 x3
    refine ⟨L1, ?_, c2⟩
    cases b
    · exact c1.of (fun y _ => ⟨rfl, rfl⟩)
    · exact c1.of (fun y _ => ⟨rfl, rfl⟩), h.2.2.2.2.2.2.2.2.1, h.2.2.2.2.2.2.2.2.2.1, fun k k1 k2 i hi => by
    have e := h.2.2.2.2.2.2.2.2.2.2 k k1 k2 i hi
    show (if k = 73 then upd (u.a 73) j v else u.a k) i = s.a k i
    by_cases c : k = 73
    · subst c
      rw [if_pos rfl]
      show (if i = j then v else u.a 73 i) = _
      rw [if_neg (by omega)]; exact e
    · rw [if_neg c]; exact e⟩
end
section
/-! reading: what is typed of a piece of code -/
theorem okJ_1 {s : RS} {g : Gh} {k : Nat} {c : Ctx} (hop : gv s 21 k = 1) (h : (let x := gv s 22 k; let y := gv s 23 k; let F := fun (z : Int) (h : Nat) => FL s g c.v ((k : Int) + 1) z h c.o c.rs; let n := fun (h : Nat) => FL s g c.v ((k : Int) + 1) ((k : Int) + 1) h c.o c.rs; let N := fun (h o : Nat) (rs : List Rec) => FL s g c.v ((k : Int) + 1) ((k : Int) + 1) h o rs; FS s g ((k : Int) + 1) c.h c.o c.rs)) : OKI s g k c := by
  unfold OKI
  rw [hop]
  exact h
theorem okJ_2 {s : RS} {g : Gh} {k : Nat} {c : Ctx} (hop : gv s 21 k = 2) (h : (let x := gv s 22 k; let y := gv s 23 k; let F := fun (z : Int) (h : Nat) => FL s g c.v ((k : Int) + 1) z h c.o c.rs; let n := fun (h : Nat) => FL s g c.v ((k : Int) + 1) ((k : Int) + 1) h c.o c.rs; let N := fun (h o : Nat) (rs : List Rec) => FL s g c.v ((k : Int) + 1) ((k : Int) + 1) h o rs; FP s g k c.v x (c.h + 1) c.o c.rs)) : OKI s g k c := by
  unfold OKI
  rw [hop]
  exact h
theorem okJ_3 {s : RS} {g : Gh} {k : Nat} {c : Ctx} (hop : gv s 21 k = 3) (h : (let x := gv s 22 k; let y := gv s 23 k; let F := fun (z : Int) (h : Nat) => FL s g c.v ((k : Int) + 1) z h c.o c.rs; let n := fun (h : Nat) => FL s g c.v ((k : Int) + 1) ((k : Int) + 1) h c.o c.rs; let N := fun (h o : Nat) (rs : List Rec) => FL s g c.v ((k : Int) + 1) ((k : Int) + 1) h o rs; slotOK x ∧ n (c.h + 1))) : OKI s g k c := by
  unfold OKI
  rw [hop]
  exact h
theorem okJ_4 {s : RS} {g : Gh} {k : Nat} {c : Ctx} (hop : gv s 21 k = 4) (h : (let x := gv s 22 k; let y := gv s 23 k; let F := fun (z : Int) (h : Nat) => FL s g c.v ((k : Int) + 1) z h c.o c.rs; let n := fun (h : Nat) => FL s g c.v ((k : Int) + 1) ((k : Int) + 1) h c.o c.rs; let N := fun (h o : Nat) (rs : List Rec) => FL s g c.v ((k : Int) + 1) ((k : Int) + 1) h o rs; slotOK x ∧ g.isC x.toNat = true ∧ n (c.h + 1))) : OKI s g k c := by
  unfold OKI
  rw [hop]
  exact h
theorem okJ_5 {s : RS} {g : Gh} {k : Nat} {c : Ctx} (hop : gv s 21 k = 5) (h : (let x := gv s 22 k; let y := gv s 23 k; let F := fun (z : Int) (h : Nat) => FL s g c.v ((k : Int) + 1) z h c.o c.rs; let n := fun (h : Nat) => FL s g c.v ((k : Int) + 1) ((k : Int) + 1) h c.o c.rs; let N := fun (h o : Nat) (rs : List Rec) => FL s g c.v ((k : Int) + 1) ((k : Int) + 1) h o rs; slotOK x ∧ g.isC x.toNat = false ∧ 1 ≤ c.h ∧ n (c.h - 1))) : OKI s g k c := by
  unfold OKI
  rw [hop]
  exact h
theorem okJ_6 {s : RS} {g : Gh} {k : Nat} {c : Ctx} (hop : gv s 21 k = 6) (h : (let x := gv s 22 k; let y := gv s 23 k; let F := fun (z : Int) (h : Nat) => FL s g c.v ((k : Int) + 1) z h c.o c.rs; let n := fun (h : Nat) => FL s g c.v ((k : Int) + 1) ((k : Int) + 1) h c.o c.rs; let N := fun (h o : Nat) (rs : List Rec) => FL s g c.v ((k : Int) + 1) ((k : Int) + 1) h o rs; slotOK x ∧ g.isC x.toNat = false ∧ n c.h)) : OKI s g k c := by
  unfold OKI
  rw [hop]
  exact h
theorem okJ_7 {s : RS} {g : Gh} {k : Nat} {c : Ctx} (hop : gv s 21 k = 7) (h : (let x := gv s 22 k; let y := gv s 23 k; let F := fun (z : Int) (h : Nat) => FL s g c.v ((k : Int) + 1) z h c.o c.rs; let n := fun (h : Nat) => FL s g c.v ((k : Int) + 1) ((k : Int) + 1) h c.o c.rs; let N := fun (h o : Nat) (rs : List Rec) => FL s g c.v ((k : Int) + 1) ((k : Int) + 1) h o rs; 1 ≤ c.h ∧ n c.h)) : OKI s g k c := by
  unfold OKI
  rw [hop]
  exact h
theorem okJ_8 {s : RS} {g : Gh} {k : Nat} {c : Ctx} (hop : gv s 21 k = 8) (h : (let x := gv s 22 k; let y := gv s 23 k; let F := fun (z : Int) (h : Nat) => FL s g c.v ((k : Int) + 1) z h c.o c.rs; let n := fun (h : Nat) => FL s g c.v ((k : Int) + 1) ((k : Int) + 1) h c.o c.rs; let N := fun (h o : Nat) (rs : List Rec) => FL s g c.v ((k : Int) + 1) ((k : Int) + 1) h o rs; 2 ≤ c.h ∧ n (c.h - 1))) : OKI s g k c := by
  unfold OKI
  rw [hop]
  exact h
theorem okJ_9 {s : RS} {g : Gh} {k : Nat} {c : Ctx} (hop : gv s 21 k = 9) (h : (let x := gv s 22 k; let y := gv s 23 k; let F := fun (z : Int) (h : Nat) => FL s g c.v ((k : Int) + 1) z h c.o c.rs; let n := fun (h : Nat) => FL s g c.v ((k : Int) + 1) ((k : Int) + 1) h c.o c.rs; let N := fun (h o : Nat) (rs : List Rec) => FL s g c.v ((k : Int) + 1) ((k : Int) + 1) h o rs; 2 ≤ c.h ∧ n (c.h - 1))) : OKI s g k c := by
  unfold OKI
  rw [hop]
  exact h
theorem okJ_10 {s : RS} {g : Gh} {k : Nat} {c : Ctx} (hop : gv s 21 k = 10) (h : (let x := gv s 22 k; let y := gv s 23 k; let F := fun (z : Int) (h : Nat) => FL s g c.v ((k : Int) + 1) z h c.o c.rs; let n := fun (h : Nat) => FL s g c.v ((k : Int) + 1) ((k : Int) + 1) h c.o c.rs; let N := fun (h o : Nat) (rs : List Rec) => FL s g c.v ((k : Int) + 1) ((k : Int) + 1) h o rs; 1 ≤ c.h ∧ n c.h)) : OKI s g k c := by
  unfold OKI
  rw [hop]
  exact h
theorem okJ_11 {s : RS} {g : Gh} {k : Nat} {c : Ctx} (hop : gv s 21 k = 11) (h : (let x := gv s 22 k; let y := gv s 23 k; let F := fun (z : Int) (h : Nat) => FL s g c.v ((k : Int) + 1) z h c.o c.rs; let n := fun (h : Nat) => FL s g c.v ((k : Int) + 1) ((k : Int) + 1) h c.o c.rs; let N := fun (h o : Nat) (rs : List Rec) => FL s g c.v ((k : Int) + 1) ((k : Int) + 1) h o rs; 1 ≤ c.h ∧ F x c.h ∧ n (c.h - 1))) : OKI s g k c := by
  unfold OKI
  rw [hop]
  exact h
theorem okJ_12 {s : RS} {g : Gh} {k : Nat} {c : Ctx} (hop : gv s 21 k = 12) (h : (let x := gv s 22 k; let y := gv s 23 k; let F := fun (z : Int) (h : Nat) => FL s g c.v ((k : Int) + 1) z h c.o c.rs; let n := fun (h : Nat) => FL s g c.v ((k : Int) + 1) ((k : Int) + 1) h c.o c.rs; let N := fun (h o : Nat) (rs : List Rec) => FL s g c.v ((k : Int) + 1) ((k : Int) + 1) h o rs; 1 ≤ c.h ∧ F x c.h ∧ n (c.h - 1))) : OKI s g k c := by
  unfold OKI
  rw [hop]
  exact h
theorem okJ_13 {s : RS} {g : Gh} {k : Nat} {c : Ctx} (hop : gv s 21 k = 13) (h : (let x := gv s 22 k; let y := gv s 23 k; let F := fun (z : Int) (h : Nat) => FL s g c.v ((k : Int) + 1) z h c.o c.rs; let n := fun (h : Nat) => FL s g c.v ((k : Int) + 1) ((k : Int) + 1) h c.o c.rs; let N := fun (h o : Nat) (rs : List Rec) => FL s g c.v ((k : Int) + 1) ((k : Int) + 1) h o rs; 1 ≤ c.h ∧ (c.one = false → F x (c.h - 1)) ∧ n (c.h - 1))) : OKI s g k c := by
  unfold OKI
  rw [hop]
  exact h
theorem okJ_14 {s : RS} {g : Gh} {k : Nat} {c : Ctx} (hop : gv s 21 k = 14) (h : (let x := gv s 22 k; let y := gv s 23 k; let F := fun (z : Int) (h : Nat) => FL s g c.v ((k : Int) + 1) z h c.o c.rs; let n := fun (h : Nat) => FL s g c.v ((k : Int) + 1) ((k : Int) + 1) h c.o c.rs; let N := fun (h o : Nat) (rs : List Rec) => FL s g c.v ((k : Int) + 1) ((k : Int) + 1) h o rs; 1 ≤ c.h ∧ F x (c.h - 1) ∧ (c.one = false → n (c.h - 1)))) : OKI s g k c := by
  unfold OKI
  rw [hop]
  exact h
theorem okJ_15 {s : RS} {g : Gh} {k : Nat} {c : Ctx} (hop : gv s 21 k = 15) (h : (let x := gv s 22 k; let y := gv s 23 k; let F := fun (z : Int) (h : Nat) => FL s g c.v ((k : Int) + 1) z h c.o c.rs; let n := fun (h : Nat) => FL s g c.v ((k : Int) + 1) ((k : Int) + 1) h c.o c.rs; let N := fun (h o : Nat) (rs : List Rec) => FL s g c.v ((k : Int) + 1) ((k : Int) + 1) h o rs; F x c.h)) : OKI s g k c := by
  unfold OKI
  rw [hop]
  exact h
theorem okJ_16 {s : RS} {g : Gh} {k : Nat} {c : Ctx} (hop : gv s 21 k = 16) (h : (let x := gv s 22 k; let y := gv s 23 k; let F := fun (z : Int) (h : Nat) => FL s g c.v ((k : Int) + 1) z h c.o c.rs; let n := fun (h : Nat) => FL s g c.v ((k : Int) + 1) ((k : Int) + 1) h c.o c.rs; let N := fun (h o : Nat) (rs : List Rec) => FL s g c.v ((k : Int) + 1) ((k : Int) + 1) h o rs; 1 ≤ c.h ∧ n (c.h - 1))) : OKI s g k c := by
  unfold OKI
  rw [hop]
  exact h
theorem okJ_17 {s : RS} {g : Gh} {k : Nat} {c : Ctx} (hop : gv s 21 k = 17) (h : (let x := gv s 22 k; let y := gv s 23 k; let F := fun (z : Int) (h : Nat) => FL s g c.v ((k : Int) + 1) z h c.o c.rs; let n := fun (h : Nat) => FL s g c.v ((k : Int) + 1) ((k : Int) + 1) h c.o c.rs; let N := fun (h o : Nat) (rs : List Rec) => FL s g c.v ((k : Int) + 1) ((k : Int) + 1) h o rs; 1 ≤ c.h)) : OKI s g k c := by
  unfold OKI
  rw [hop]
  exact h
theorem okJ_18 {s : RS} {g : Gh} {k : Nat} {c : Ctx} (hop : gv s 21 k = 18) (h : (let x := gv s 22 k; let y := gv s 23 k; let F := fun (z : Int) (h : Nat) => FL s g c.v ((k : Int) + 1) z h c.o c.rs; let n := fun (h : Nat) => FL s g c.v ((k : Int) + 1) ((k : Int) + 1) h c.o c.rs; let N := fun (h o : Nat) (rs : List Rec) => FL s g c.v ((k : Int) + 1) ((k : Int) + 1) h o rs; 1 ≤ c.h ∧ YOK y c.rs)) : OKI s g k c := by
  unfold OKI
  rw [hop]
  exact h
theorem okJ_19 {s : RS} {g : Gh} {k : Nat} {c : Ctx} (hop : gv s 21 k = 19) (h : (let x := gv s 22 k; let y := gv s 23 k; let F := fun (z : Int) (h : Nat) => FL s g c.v ((k : Int) + 1) z h c.o c.rs; let n := fun (h : Nat) => FL s g c.v ((k : Int) + 1) ((k : Int) + 1) h c.o c.rs; let N := fun (h o : Nat) (rs : List Rec) => FL s g c.v ((k : Int) + 1) ((k : Int) + 1) h o rs; 1 ≤ c.h ∧ x < (s.i 3).toInt)) : OKI s g k c := by
  unfold OKI
  rw [hop]
  exact h
theorem okJ_20 {s : RS} {g : Gh} {k : Nat} {c : Ctx} (hop : gv s 21 k = 20) (h : (let x := gv s 22 k; let y := gv s 23 k; let F := fun (z : Int) (h : Nat) => FL s g c.v ((k : Int) + 1) z h c.o c.rs; let n := fun (h : Nat) => FL s g c.v ((k : Int) + 1) ((k : Int) + 1) h c.o c.rs; let N := fun (h o : Nat) (rs : List Rec) => FL s g c.v ((k : Int) + 1) ((k : Int) + 1) h o rs; x < (s.i 3).toInt)) : OKI s g k c := by
  unfold OKI
  rw [hop]
  exact h
theorem okJ_21 {s : RS} {g : Gh} {k : Nat} {c : Ctx} (hop : gv s 21 k = 21) (h : (let x := gv s 22 k; let y := gv s 23 k; let F := fun (z : Int) (h : Nat) => FL s g c.v ((k : Int) + 1) z h c.o c.rs; let n := fun (h : Nat) => FL s g c.v ((k : Int) + 1) ((k : Int) + 1) h c.o c.rs; let N := fun (h o : Nat) (rs : List Rec) => FL s g c.v ((k : Int) + 1) ((k : Int) + 1) h o rs; slotOK x ∧ g.isC x.toNat = true)) : OKI s g k c := by
  unfold OKI
  rw [hop]
  exact h
theorem okJ_22 {s : RS} {g : Gh} {k : Nat} {c : Ctx} (hop : gv s 21 k = 22) (h : (let x := gv s 22 k; let y := gv s 23 k; let F := fun (z : Int) (h : Nat) => FL s g c.v ((k : Int) + 1) z h c.o c.rs; let n := fun (h : Nat) => FL s g c.v ((k : Int) + 1) ((k : Int) + 1) h c.o c.rs; let N := fun (h o : Nat) (rs : List Rec) => FL s g c.v ((k : Int) + 1) ((k : Int) + 1) h o rs; F x c.h ∧ n c.h)) : OKI s g k c := by
  unfold OKI
  rw [hop]
  exact h
theorem okJ_23 {s : RS} {g : Gh} {k : Nat} {c : Ctx} (hop : gv s 21 k = 23) (h : (let x := gv s 22 k; let y := gv s 23 k; let F := fun (z : Int) (h : Nat) => FL s g c.v ((k : Int) + 1) z h c.o c.rs; let n := fun (h : Nat) => FL s g c.v ((k : Int) + 1) ((k : Int) + 1) h c.o c.rs; let N := fun (h o : Nat) (rs : List Rec) => FL s g c.v ((k : Int) + 1) ((k : Int) + 1) h o rs; 1 ≤ x ∧ x ≤ c.h ∧ (wv c.rs : Int) + x ≤ 450 ∧ N (c.h - x.toNat) c.o ((2, 0, x.toNat, c.h - x.toNat, c.o, c.v, false, false) :: c.rs))) : OKI s g k c := by
  unfold OKI
  rw [hop]
  exact h
theorem okJ_24 {s : RS} {g : Gh} {k : Nat} {c : Ctx} (hop : gv s 21 k = 24) (h : (let x := gv s 22 k; let y := gv s 23 k; let F := fun (z : Int) (h : Nat) => FL s g c.v ((k : Int) + 1) z h c.o c.rs; let n := fun (h : Nat) => FL s g c.v ((k : Int) + 1) ((k : Int) + 1) h c.o c.rs; let N := fun (h o : Nat) (rs : List Rec) => FL s g c.v ((k : Int) + 1) ((k : Int) + 1) h o rs; slotOK y ∧ g.isC y.toNat = false ∧ F x c.h ∧ FS s g ((k : Int) + 1) c.h c.o c.rs ∧ ∃ (r : Rec) (rs : List Rec), c.rs = r :: rs ∧ r.k = 2)) : OKI s g k c := by
  unfold OKI
  rw [hop]
  exact h
theorem okJ_25 {s : RS} {g : Gh} {k : Nat} {c : Ctx} (hop : gv s 21 k = 25) (h : (let x := gv s 22 k; let y := gv s 23 k; let F := fun (z : Int) (h : Nat) => FL s g c.v ((k : Int) + 1) z h c.o c.rs; let n := fun (h : Nat) => FL s g c.v ((k : Int) + 1) ((k : Int) + 1) h c.o c.rs; let N := fun (h o : Nat) (rs : List Rec) => FL s g c.v ((k : Int) + 1) ((k : Int) + 1) h o rs; ∃ (r : Rec) (rs : List Rec), c.rs = r :: rs ∧ r.k = 2 ∧ N c.h c.o rs)) : OKI s g k c := by
  unfold OKI
  rw [hop]
  exact h
theorem okJ_26 {s : RS} {g : Gh} {k : Nat} {c : Ctx} (hop : gv s 21 k = 26) (h : (let x := gv s 22 k; let y := gv s 23 k; let F := fun (z : Int) (h : Nat) => FL s g c.v ((k : Int) + 1) z h c.o c.rs; let n := fun (h : Nat) => FL s g c.v ((k : Int) + 1) ((k : Int) + 1) h c.o c.rs; let N := fun (h o : Nat) (rs : List Rec) => FL s g c.v ((k : Int) + 1) ((k : Int) + 1) h o rs; 0 ≤ x ∧ x < 8 ∧ N c.h c.o ((1, x.toNat, 0, c.h, c.o, c.v, false, false) :: c.rs))) : OKI s g k c := by
  unfold OKI
  rw [hop]
  exact h
theorem okJ_27 {s : RS} {g : Gh} {k : Nat} {c : Ctx} (hop : gv s 21 k = 27) (h : (let x := gv s 22 k; let y := gv s 23 k; let F := fun (z : Int) (h : Nat) => FL s g c.v ((k : Int) + 1) z h c.o c.rs; let n := fun (h : Nat) => FL s g c.v ((k : Int) + 1) ((k : Int) + 1) h c.o c.rs; let N := fun (h o : Nat) (rs : List Rec) => FL s g c.v ((k : Int) + 1) ((k : Int) + 1) h o rs; ∃ (r : Rec) (rs : List Rec), c.rs = r :: rs ∧ r.k = 1 ∧ N c.h c.o rs)) : OKI s g k c := by
  unfold OKI
  rw [hop]
  exact h
theorem okJ_28 {s : RS} {g : Gh} {k : Nat} {c : Ctx} (hop : gv s 21 k = 28) (h : (let x := gv s 22 k; let y := gv s 23 k; let F := fun (z : Int) (h : Nat) => FL s g c.v ((k : Int) + 1) z h c.o c.rs; let n := fun (h : Nat) => FL s g c.v ((k : Int) + 1) ((k : Int) + 1) h c.o c.rs; let N := fun (h o : Nat) (rs : List Rec) => FL s g c.v ((k : Int) + 1) ((k : Int) + 1) h o rs; 1 ≤ c.h ∧ x < (s.i 24).toInt ∧ (∀ j : Nat, entryIn s j 500 x → F (gv s 26 j) (c.h - 1)) ∧ (¬ (∃ j : Nat, entryIn s j 500 x ∧ ¬ gv s 28 j = 0) → F y (c.h - 1)))) : OKI s g k c := by
  unfold OKI
  rw [hop]
  exact h
theorem okJ_29 {s : RS} {g : Gh} {k : Nat} {c : Ctx} (hop : gv s 21 k = 29) (h : (let x := gv s 22 k; let y := gv s 23 k; let F := fun (z : Int) (h : Nat) => FL s g c.v ((k : Int) + 1) z h c.o c.rs; let n := fun (h : Nat) => FL s g c.v ((k : Int) + 1) ((k : Int) + 1) h c.o c.rs; let N := fun (h o : Nat) (rs : List Rec) => FL s g c.v ((k : Int) + 1) ((k : Int) + 1) h o rs; 1 ≤ c.h ∧ x < (s.i 24).toInt ∧ (∀ j : Nat, entryIn s j 500 x → FL s g c.v ((k : Int) + 1) (gv s 26 j) (c.h - 1) c.o ((3, k, 0, c.h - 1, c.o, c.v, false, false) :: c.rs)) ∧ ∃ j : Nat, entryIn s j 500 x ∧ ¬ gv s 28 j = 0)) : OKI s g k c := by
  unfold OKI
  rw [hop]
  exact h
theorem okJ_30 {s : RS} {g : Gh} {k : Nat} {c : Ctx} (hop : gv s 21 k = 30) (h : (let x := gv s 22 k; let y := gv s 23 k; let F := fun (z : Int) (h : Nat) => FL s g c.v ((k : Int) + 1) z h c.o c.rs; let n := fun (h : Nat) => FL s g c.v ((k : Int) + 1) ((k : Int) + 1) h c.o c.rs; let N := fun (h o : Nat) (rs : List Rec) => FL s g c.v ((k : Int) + 1) ((k : Int) + 1) h o rs; ∃ (r : Rec) (rs : List Rec), c.rs = r :: rs ∧ r.k = 3 ∧ c.h = r.h + 1)) : OKI s g k c := by
  unfold OKI
  rw [hop]
  exact h
theorem okJ_31 {s : RS} {g : Gh} {k : Nat} {c : Ctx} (hop : gv s 21 k = 31) (h : (let x := gv s 22 k; let y := gv s 23 k; let F := fun (z : Int) (h : Nat) => FL s g c.v ((k : Int) + 1) z h c.o c.rs; let n := fun (h : Nat) => FL s g c.v ((k : Int) + 1) ((k : Int) + 1) h c.o c.rs; let N := fun (h o : Nat) (rs : List Rec) => FL s g c.v ((k : Int) + 1) ((k : Int) + 1) h o rs; 0 ≤ x ∧ x < (s.i 29).toInt ∧ ∃ ps ek : Bool, N c.h c.o ((4, x.toNat, 0, c.h, c.o, c.v, ps, ek) :: c.rs))) : OKI s g k c := by
  unfold OKI
  rw [hop]
  exact h
theorem okJ_32 {s : RS} {g : Gh} {k : Nat} {c : Ctx} (hop : gv s 21 k = 32) (h : (let x := gv s 22 k; let y := gv s 23 k; let F := fun (z : Int) (h : Nat) => FL s g c.v ((k : Int) + 1) z h c.o c.rs; let n := fun (h : Nat) => FL s g c.v ((k : Int) + 1) ((k : Int) + 1) h c.o c.rs; let N := fun (h o : Nat) (rs : List Rec) => FL s g c.v ((k : Int) + 1) ((k : Int) + 1) h o rs; 0 ≤ x ∧ x < 8 ∧ N c.h (c.o + 1) c.rs)) : OKI s g k c := by
  unfold OKI
  rw [hop]
  exact h
theorem okJ_33 {s : RS} {g : Gh} {k : Nat} {c : Ctx} (hop : gv s 21 k = 33) (h : (let x := gv s 22 k; let y := gv s 23 k; let F := fun (z : Int) (h : Nat) => FL s g c.v ((k : Int) + 1) z h c.o c.rs; let n := fun (h : Nat) => FL s g c.v ((k : Int) + 1) ((k : Int) + 1) h c.o c.rs; let N := fun (h o : Nat) (rs : List Rec) => FL s g c.v ((k : Int) + 1) ((k : Int) + 1) h o rs; ∃ (r : Rec) (rs : List Rec), c.rs = r :: rs ∧ r.k = 4 ∧ r.p = 0 ∧ c.h = r.h ∧ endT s g k c.v r rs)) : OKI s g k c := by
  unfold OKI
  rw [hop]
  exact h
theorem okJ_34 {s : RS} {g : Gh} {k : Nat} {c : Ctx} (hop : gv s 21 k = 34) (h : (let x := gv s 22 k; let y := gv s 23 k; let F := fun (z : Int) (h : Nat) => FL s g c.v ((k : Int) + 1) z h c.o c.rs; let n := fun (h : Nat) => FL s g c.v ((k : Int) + 1) ((k : Int) + 1) h c.o c.rs; let N := fun (h o : Nat) (rs : List Rec) => FL s g c.v ((k : Int) + 1) ((k : Int) + 1) h o rs; ∃ (r : Rec) (rs : List Rec), c.rs = r :: rs ∧ r.k = 4 ∧ r.p = 1 ∧ c.h = r.h ∧ endT s g k c.v r rs)) : OKI s g k c := by
  unfold OKI
  rw [hop]
  exact h
theorem okJ_35 {s : RS} {g : Gh} {k : Nat} {c : Ctx} (hop : gv s 21 k = 35) (h : (let x := gv s 22 k; let y := gv s 23 k; let F := fun (z : Int) (h : Nat) => FL s g c.v ((k : Int) + 1) z h c.o c.rs; let n := fun (h : Nat) => FL s g c.v ((k : Int) + 1) ((k : Int) + 1) h c.o c.rs; let N := fun (h o : Nat) (rs : List Rec) => FL s g c.v ((k : Int) + 1) ((k : Int) + 1) h o rs; ∃ (r : Rec) (rs : List Rec), c.rs = r :: rs ∧ r.k = 4 ∧ r.p = 2 ∧ c.h = r.h ∧ c.v = r.v ∧ r.ps = true ∧ (r.ek = true → N r.h r.o rs))) : OKI s g k c := by
  unfold OKI
  rw [hop]
  exact h
theorem okJ_36 {s : RS} {g : Gh} {k : Nat} {c : Ctx} (hop : gv s 21 k = 36) (h : (let x := gv s 22 k; let y := gv s 23 k; let F := fun (z : Int) (h : Nat) => FL s g c.v ((k : Int) + 1) z h c.o c.rs; let n := fun (h : Nat) => FL s g c.v ((k : Int) + 1) ((k : Int) + 1) h c.o c.rs; let N := fun (h o : Nat) (rs : List Rec) => FL s g c.v ((k : Int) + 1) ((k : Int) + 1) h o rs; 0 ≤ y ∧ JMP s g c.v ((k : Int) + 1) x y.toNat c.h c.o c.rs)) : OKI s g k c := by
  unfold OKI
  rw [hop]
  exact h
theorem FL.mono {f : RS} {g : Gh} {v v' : Nat} {kk kk' x : Int} {h o : Nat} {rs : List Rec} (hf : FL f g v kk x h o rs) (hv : v ≤ v') (hk : kk' ≤ kk) : FL f g v' kk' x h o rs := by
  obtain ⟨a1, a2, a3⟩ := hf
  refine ⟨a1, a2, fun hx => ?_⟩
  obtain ⟨c, d1, d2, d3, d4, d5, d6⟩ := a3 hx
  exact ⟨c, d1, d2, d3, d4, d5, by rcases d6 with d6 | d6; exact Or.inl (by omega); exact (by by_cases q : c.v < v'; exact Or.inl q; exact Or.inr ⟨by omega, by omega⟩)⟩
/-- fewer may be begun -/
theorem FL.mo {f : RS} {g : Gh} {v : Nat} {kk x : Int} {h o o' : Nat} {rs : List Rec} (hf : FL f g v kk x h o rs) (ho : o' ≤ o) : FL f g v kk x h o' rs := by
  obtain ⟨a1, a2, a3⟩ := hf
  refine ⟨a1, a2, fun hx => ?_⟩
  obtain ⟨c, d1, d2, d3, d4⟩ := a3 hx
  exact ⟨c, d1, d2, by omega, d4⟩
/-- forward, or to a lower level -/
theorem FL.to {f : RS} {g : Gh} {v v' : Nat} {kk x : Int} {h o : Nat} {rs : List Rec} (hf : FL f g v x x h o rs) (hv : v < v' ∨ v ≤ v' ∧ kk ≤ x) : FL f g v' kk x h o rs := by
  obtain ⟨a1, a2, a3⟩ := hf
  refine ⟨a1, a2, fun hx => ?_⟩
  obtain ⟨c, d1, d2, d3, d4, d5, d6⟩ := a3 hx
  exact ⟨c, d1, d2, d3, d4, d5, by rcases d6 with d6 | d6 <;> rcases hv with hv | hv <;> first | exact Or.inl (by omega) | exact Or.inr ⟨by omega, by omega⟩⟩
theorem FL.fs {f : RS} {g : Gh} {v : Nat} {kk x : Int} {h o : Nat} {rs : List Rec} (hf : FL f g v kk x h o rs) : FS f g x h o rs := by
  obtain ⟨a1, a2, a3⟩ := hf
  refine ⟨a1, a2, fun hx => ?_⟩
  obtain ⟨c, d1, d2, d3, d4, d5, d6⟩ := a3 hx
  exact ⟨c, d1, d2, d3, d4, d5⟩
theorem FL.fp {f : RS} {g : Gh} {k v : Nat} {y : Int} {h o : Nat} {rs : List Rec} (hf : FL f g v ((k : Int) + 1) ((k : Int) + 1) h o rs) : FP f g k v y h o rs := by
  obtain ⟨a1, a2, a3⟩ := hf
  refine ⟨a2, fun hx => ?_⟩
  obtain ⟨c, d1, d2, d3, d4, d5, d6⟩ := a3 hx
  exact ⟨c, d1, d2, d3, fun q => (by rw [d4] at q; cases q), d5, by omega⟩
theorem recOK.mono {f : RS} {g : Gh} {k k' v v' : Nat} {r : Rec} {rs : List Rec} (h : recOK f g k v r rs) (hk : k' ≤ k) (hv : v ≤ v') : recOK f g k' v' r rs := by
  obtain ⟨h1, h2, h3⟩ := h
  refine ⟨h1, h2, ?_⟩
  rcases h3 with h3 | h3 | ⟨a, b, c⟩ | ⟨a, b, c, d, e, p, q⟩
  · exact Or.inl h3
  · exact Or.inr (Or.inl h3)
  · exact Or.inr (Or.inr (Or.inl ⟨a, b, c.mono hv (by omega)⟩))
  · refine Or.inr (Or.inr (Or.inr ⟨a, b, c, by omega, by omega, fun hp j hj => ?_, fun hp hq => (q hp hq).mono hv (by omega)⟩))
    obtain ⟨w1, w2, w3, w4⟩ := p hp j hj
    exact ⟨w1, w2, w3, w4.mono hv (by omega)⟩
theorem recsOK.mono {f : RS} {g : Gh} {k k' v v' : Nat} (hk : k' ≤ k) (hv : v ≤ v') : ∀ {rs : List Rec}, recsOK f g k v rs → recsOK f g k' v' rs
  | [], _ => True.intro
  | _ :: _, h => ⟨h.1.mono hk hv, recsOK.mono hk hv h.2⟩
def GOOD (f : RS) (g : Gh) (k : Nat) (c : Ctx) : Prop := OKI f g k c ∧ recsOK f g k c.v c.rs ∧ c.h ≤ 1300 ∧ wv c.rs ≤ 450 ∧ oOK c.o c.rs ∧ c.o ≤ 450 ∧ c.rs.length ≤ 250 ∧ c.v ≤ 3000 ∧ (c.one = true → 1 ≤ c.h)
/-- from x on the code is as it should be, where E holds of what lies around -/
def COD (f : RS) (C : Nat → Bool) (x : Int) (h o v : Nat) (rs : List Rec) (E : Gh → Prop) : Prop := ∃ S : Nat → Ctx → Prop, ∀ g : Gh, g.isC = C → (∀ k c, S k c → g.T k c) → E g → FL f g v x x h o rs ∧ ∀ k c, S k c → GOOD f g k c
theorem COD.imp {f : RS} {C : Nat → Bool} {x : Int} {h o v : Nat} {rs : List Rec} {E E' : Gh → Prop} (hc : COD f C x h o v rs E) (hE : ∀ g : Gh, g.isC = C → E' g → E g) : COD f C x h o v rs E' := by
  obtain ⟨S, hS⟩ := hc
  exact ⟨S, fun g h1 h2 h3 => hS g h1 h2 (hE g h1 h3)⟩
theorem COD.seq {f : RS} {C : Nat → Bool} {x y : Int} {h o v h2 o2 v2 : Nat} {rs rs2 : List Rec} {E E1 E2 : Gh → Prop} (c1 : COD f C x h o v rs E1) (c2 : COD f C y h2 o2 v2 rs2 E2) (e2 : ∀ g : Gh, g.isC = C → E g → E2 g) (e1 : ∀ g : Gh, g.isC = C → E g → FL f g v2 y y h2 o2 rs2 → E1 g) : COD f C x h o v rs E := by
  obtain ⟨S1, a1⟩ := c1
  obtain ⟨S2, a2⟩ := c2
  refine ⟨fun k c => S1 k c ∨ S2 k c, fun g h1 h2 h3 => ?_⟩
  obtain ⟨b1, b2⟩ := a2 g h1 (fun k c q => h2 k c (Or.inr q)) (e2 g h1 h3)
  obtain ⟨d1, d2⟩ := a1 g h1 (fun k c q => h2 k c (Or.inl q)) (e1 g h1 h3 b1)
  exact ⟨d1, fun k c q => by rcases q with q | q; exact d2 k c q; exact b2 k c q⟩
/-- numbers of a context, by the bytes read -/
def CX (s : RS) (h o v : Nat) (rs : List Rec) : Prop := (rs.length : Int) = deI s ∧ (h : Int) ≤ fr s ∧ 2 * (o : Int) ≤ fr s ∧ (v : Int) ≤ fr s ∧ 2 * (wv rs : Int) ≤ fr s ∧ oOK o rs ∧ fr s ≤ 900 ∧ deI s ≤ 250
theorem CX.good {s f : RS} {g : Gh} {k h o v : Nat} {rs : List Rec} (hc : CX s h o v rs) {b : Bool} (hb : b = true → 1 ≤ h) (h1 : OKI f g k (h, o, v, b, rs)) (h2 : recsOK f g k v rs) : GOOD f g k (h, o, v, b, rs) := by
  obtain ⟨a1, a2, a3, a4, a5, a6, a7, a8⟩ := hc
  exact ⟨h1, h2, show h ≤ 1300 by omega, show wv rs ≤ 450 by omega, a6, show o ≤ 450 by omega, show rs.length ≤ 250 by omega, show v ≤ 3000 by omega, hb⟩
/-- one instruction -/
theorem COD.ins {s f : RS} {C : Nat → Bool} {k h o v : Nat} {rs : List Rec} {E : Gh → Prop} (hc : CX s h o v rs) (hk : (k : Int) < cdI f) (hE : ∀ g : Gh, g.isC = C → E g → OKI f g k (h, o, v, false, rs) ∧ recsOK f g k v rs) : COD f C k h o v rs E := by
  refine ⟨fun k' c => k' = k ∧ c = (h, o, v, false, rs), fun g h1 h2 h3 => ⟨⟨by omega, by omega, fun _ => ⟨(h, o, v, false, rs), h2 _ _ ⟨Int.toNat_natCast k, rfl⟩, rfl, Nat.le_refl _, rfl, rfl, Or.inr ⟨Nat.le_refl _, Int.le_refl _⟩⟩⟩, fun k' c q => ?_⟩⟩
  obtain ⟨rfl, rfl⟩ := q
  obtain ⟨p1, p2⟩ := hE g h1 h3
  exact hc.good (fun q => by cases q) p1 p2
/-- the same, and the first place is among them whatever lies around -/
def CODS (f : RS) (C : Nat → Bool) (x : Int) (h o v : Nat) (rs : List Rec) (E : Gh → Prop) : Prop := ∃ S : Nat → Ctx → Prop, (0 ≤ x ∧ x < cdI f ∧ ∃ c, S x.toNat c ∧ c.h = h ∧ o ≤ c.o ∧ c.one = false ∧ c.rs = rs ∧ c.v ≤ v) ∧ ∀ g : Gh, g.isC = C → (∀ k c, S k c → g.T k c) → E g → ∀ k c, S k c → GOOD f g k c
theorem CODS.cod {f : RS} {C : Nat → Bool} {x : Int} {h o v : Nat} {rs : List Rec} {E : Gh → Prop} (hc : CODS f C x h o v rs E) : COD f C x h o v rs E := by
  obtain ⟨S, ⟨h1, h2, c, c1, c2, c3, c4, c5, c6⟩, h4⟩ := hc
  exact ⟨S, fun g g1 g2 g3 => ⟨⟨h1, by omega, fun _ => ⟨c, g2 _ _ c1, c2, c3, c4, c5, Or.inr ⟨c6, Int.le_refl _⟩⟩⟩, h4 g g1 g2 g3⟩⟩
theorem CODS.imp {f : RS} {C : Nat → Bool} {x : Int} {h o v : Nat} {rs : List Rec} {E E' : Gh → Prop} (hc : CODS f C x h o v rs E) (hE : ∀ g : Gh, g.isC = C → E' g → E g) : CODS f C x h o v rs E' := by
  obtain ⟨S, h0, hS⟩ := hc
  exact ⟨S, h0, fun g h1 h2 h3 => hS g h1 h2 (hE g h1 h3)⟩
/-- a piece and another; the other may come back to the first place -/
theorem CODS.loop {f : RS} {C : Nat → Bool} {x y : Int} {h o v h2 o2 v2 : Nat} {rs rs2 : List Rec} {E E1 E2 : Gh → Prop} (c1 : CODS f C x h o v rs E1) (c2 : COD f C y h2 o2 v2 rs2 E2) (e2 : ∀ g : Gh, g.isC = C → E g → FL f g v x x h o rs → E2 g) (e1 : ∀ g : Gh, g.isC = C → E g → FL f g v x x h o rs → FL f g v2 y y h2 o2 rs2 → E1 g) : CODS f C x h o v rs E := by
  obtain ⟨S1, ⟨p1, p2, c, q1, q2, q3, q4, q5, q6⟩, a1⟩ := c1
  obtain ⟨S2, a2⟩ := c2
  refine ⟨fun k c => S1 k c ∨ S2 k c, ⟨p1, p2, c, Or.inl q1, q2, q3, q4, q5, q6⟩, fun g h1 h2 h3 => ?_⟩
  have hF : FL f g v x x h o rs := ⟨p1, by omega, fun _ => ⟨c, h2 _ _ (Or.inl q1), q2, q3, q4, q5, Or.inr ⟨q6, Int.le_refl _⟩⟩⟩
  obtain ⟨b1, b2⟩ := a2 g h1 (fun k c q => h2 k c (Or.inr q)) (e2 g h1 h3 hF)
  have d2 := a1 g h1 (fun k c q => h2 k c (Or.inl q)) (e1 g h1 h3 hF b1)
  exact fun k c q => by rcases q with q | q; exact d2 k c q; exact b2 k c q
theorem CODS.seq {f : RS} {C : Nat → Bool} {x y : Int} {h o v h2 o2 v2 : Nat} {rs rs2 : List Rec} {E E1 E2 : Gh → Prop} (c1 : CODS f C x h o v rs E1) (c2 : COD f C y h2 o2 v2 rs2 E2) (e2 : ∀ g : Gh, g.isC = C → E g → E2 g) (e1 : ∀ g : Gh, g.isC = C → E g → FL f g v2 y y h2 o2 rs2 → E1 g) : CODS f C x h o v rs E := c1.loop c2 (fun g h1 h2 _ => e2 g h1 h2) (fun g h1 h2 _ h3 => e1 g h1 h2 h3)
/-- nothing -/
theorem COD.nil {f : RS} {C : Nat → Bool} {x : Int} {h o v : Nat} {rs : List Rec} {E : Gh → Prop} (hE : ∀ g : Gh, g.isC = C → E g → FL f g v x x h o rs) : COD f C x h o v rs E := ⟨fun _ _ => False, fun g h1 _ h3 => ⟨hE g h1 h3, fun _ _ q => q.elim⟩⟩
theorem CODS.ins {s f : RS} {C : Nat → Bool} {k h o v : Nat} {rs : List Rec} {E : Gh → Prop} (hc : CX s h o v rs) (hk : (k : Int) < cdI f) (hE : ∀ g : Gh, g.isC = C → E g → OKI f g k (h, o, v, false, rs) ∧ recsOK f g k v rs) : CODS f C k h o v rs E := by
  refine ⟨fun k' c => k' = k ∧ c = (h, o, v, false, rs), ⟨by omega, hk, (h, o, v, false, rs), ⟨Int.toNat_natCast k, rfl⟩, rfl, Nat.le_refl _, rfl, rfl, Nat.le_refl _⟩, fun g h1 h2 h3 k' c q => ?_⟩
  obtain ⟨rfl, rfl⟩ := q
  obtain ⟨p1, p2⟩ := hE g h1 h3
  exact hc.good (fun q => by cases q) p1 p2
def OPN (s : RS) (k : Nat) : Prop := ∃ (γ : Nat) (b : Bool) (L : List Nat), (γ : Int) < goI s ∧ ISCH s (hd s b γ) L ∧ k ∈ L
/-- f is later than u: what lies between s and u stands there as in u, but for jumps that are still begun -/
def AG0 (s u f : RS) : Prop := cdI u ≤ cdI f ∧ enI u ≤ enI f ∧ trI u ≤ trI f ∧ (u.i 3).toInt ≤ (f.i 3).toInt ∧
  (∀ k : Nat, cdI s ≤ k → (k : Int) < cdI u → f.a 21 k = u.a 21 k ∧ f.a 23 k = u.a 23 k ∧ (¬ OPN u k → f.a 22 k = u.a 22 k)) ∧
  (∀ k : Nat, enI s ≤ k → (k : Int) < enI u → f.a 26 k = u.a 26 k ∧ f.a 27 k = u.a 27 k ∧ f.a 28 k = u.a 28 k) ∧
  (∀ k : Nat, trI s ≤ k → (k : Int) < trI u → f.a 30 k = u.a 30 k ∧ f.a 31 k = u.a 31 k ∧ f.a 32 k = u.a 32 k) ∧
  (∀ k : Nat, caI s ≤ k → (k : Int) < caI u → f.a 35 k = u.a 35 k ∧ f.a 36 k = u.a 36 k ∧ f.a 37 k = u.a 37 k)
def AGC (s u : RS) (C : Nat → Bool) : Prop := ∀ x : Nat, slI s ≤ x → (x : Int) < slI u → (C x = true ↔ ∃ j : Nat, caI s ≤ j ∧ (j : Int) < caI u ∧ gv u 36 j = x)
theorem AG0.comp {s s1 u1 u f : RS} (h1 : AG0 s1 u1 u) (h2 : AG0 s u f) (hc : cdI s ≤ cdI s1) (he : enI s ≤ enI s1) (ht : trI s ≤ trI s1) (hh : caI s ≤ caI s1) (hu : caI u1 ≤ caI u) (ho : ∀ k : Nat, cdI s1 ≤ k → (k : Int) < cdI u1 → OPN u k → OPN u1 k) : AG0 s1 u1 f := by
  obtain ⟨a1, a2, a3, a4, a5, a6, a7, a8⟩ := h1
  obtain ⟨b1, b2, b3, b4, b5, b6, b7, b8⟩ := h2
  refine ⟨by omega, by omega, by omega, by omega, fun k k1 k2 => ?_, fun k k1 k2 => ?_, fun k k1 k2 => ?_, fun k k1 k2 => ?_⟩
  · obtain ⟨c1, c2, c3⟩ := a5 k k1 k2
    obtain ⟨d1, d2, d3⟩ := b5 k (by omega) (by omega)
    exact ⟨d1.trans c1, d2.trans c2, fun q => (d3 (fun z => q (ho k k1 k2 z))).trans (c3 q)⟩
  · obtain ⟨c1, c2, c3⟩ := a6 k k1 k2
    obtain ⟨d1, d2, d3⟩ := b6 k (by omega) (by omega)
    exact ⟨d1.trans c1, d2.trans c2, d3.trans c3⟩
  · obtain ⟨c1, c2, c3⟩ := a7 k k1 k2
    obtain ⟨d1, d2, d3⟩ := b7 k (by omega) (by omega)
    exact ⟨d1.trans c1, d2.trans c2, d3.trans c3⟩
  · obtain ⟨c1, c2, c3⟩ := a8 k k1 k2
    obtain ⟨d1, d2, d3⟩ := b8 k (by omega) (by omega)
    exact ⟨d1.trans c1, d2.trans c2, d3.trans c3⟩
theorem AG0.kp {t : Nat} {s u1 u : RS} (h : KP t u1 u) : AG0 s u1 u := by
  obtain ⟨⟨a1, a1'⟩, a2, a3, a4, a5, a6, a7, a8, a9, a10, a11⟩ := h
  refine ⟨a2.1, a3.1, a4.1, by rw [a1.1 3 (by omega)]; exact Int.le_refl _, fun k _ k2 => ⟨a2.2.1 k k2, a2.2.2.2 k k2, fun _ => a2.2.2.1 k k2⟩, fun k _ k2 => ⟨a3.2.2.1 k k2, a3.2.2.2.1 k k2, a3.2.2.2.2 k k2⟩, fun k _ k2 => ⟨a4.2.1 k k2, a4.2.2.1 k k2, a4.2.2.2 k k2⟩, fun k _ k2 => ⟨a5.2.2.1 k k2, a5.2.2.2.1 k k2, a5.2.2.2.2.1 k k2⟩⟩
/-- chains are there, and lie in the code -/
def TN (s : RS) : Prop := ∀ (γ : Nat) (b : Bool), (γ : Int) < goI s → ∃ L, ISCH s (hd s b γ) L ∧ ∀ x ∈ L, (x : Int) < cdI s
theorem OPN.back {t : Nat} {u1 u : RS} (h : KP t u1 u) (hn : TN u1) (hg : goI u ≤ goI u1) {k : Nat} (hk : (k : Int) < cdI u1) (ho : OPN u k) : OPN u1 k := by
  obtain ⟨γ, b, L, h1, h2, h3⟩ := ho
  obtain ⟨M, m1, m2⟩ := hn γ b (by omega)
  obtain ⟨L1, c1, c2⟩ := h.2.2.2.2.2.2.2.1 γ b M (by omega) m1 m2
  have e := ISCH.uniq h2 c1
  rw [e] at h3
  rcases List.mem_append.mp h3 with h3 | h3
  · have := c2 k h3; omega
  · exact ⟨γ, b, M, by omega, m1, h3⟩
theorem AGC.mid {t : Nat} {s s1 u1 u : RS} {C : Nat → Bool} (h : AGC s u C) (k1 : KP t s s1) (k2 : KP t s1 u1) (hs : slI u1 ≤ slI u) (hc : caI u1 ≤ caI u) (h36 : ∀ j : Nat, (j : Int) < caI u1 → gv u 36 j = gv u1 36 j) (hl : ∀ j : Nat, caI u1 ≤ j → (j : Int) < caI u → slI u1 ≤ gv u 36 j) : AGC s1 u1 C := by
  have q1 := k1.2.2.2.2.1
  have q2 := k2.2.2.2.2.1
  have p1 := k1.2.2.2.2.2.1
  have p2 := k2.2.2.2.2.2.1
  intro x x1 x2
  have hx := h x (by have := p1.2.1; omega) (by omega)
  rw [hx]
  constructor
  · rintro ⟨j, j1, j2, j3⟩
    have hj2 : (j : Int) < caI u1 := by
      by_cases z : (j : Int) < caI u1
      · exact z
      · have := hl j (by omega) j2; omega
    have e := h36 j hj2
    have hj1 : caI s1 ≤ j := by
      by_cases z : (j : Int) < caI s1
      · have h9 := (q1.2.2.2.2.2 j j1 z).2
        have : gv u1 36 j = gv s1 36 j := by unfold gv; rw [q2.2.2.2.1 j z]
        omega
      · omega
    exact ⟨j, hj1, hj2, by omega⟩
  · rintro ⟨j, j1, j2, j3⟩
    exact ⟨j, by have := q1.1; omega, by omega, by rw [h36 j j2]; exact j3⟩
/-- what an expression or a statement finds around it -/
def ENB (s u f : RS) (g : Gh) (v : Nat) (rs : List Rec) : Prop := (∀ k : Nat, (k : Int) < cdI u → recsOK f g k v rs) ∧ (∀ x : Nat, (x : Int) < seI s → (g.isC (gv s 40 x).toNat = true ↔ ¬ s.a 41 x = 0))
/-- an expression's code: one value more -/
def TE (s u : RS) : Prop := ∀ (f : RS) (C : Nat → Bool), AG0 s u f → AGC s u C → ∀ (h o v : Nat) (rs : List Rec), CX s h o v rs → CODS f C (cdI s) h o v rs (fun g => ENB s u f g v rs ∧ FL f g v (cdI u) (cdI u) (h + 1) o rs)
end
section
/-! reading: what stands of the tables, the numbers -/
def tkI (s : RS) : Int := (s.i 17).toInt
def TB1 (s : RS) : Prop := ∀ j : Nat, (j : Int) < enI s → gv s 27 j < 0 ∨ (j : Int) < gv s 27 j ∧ gv s 27 j < enI s
def TB2 (s : RS) : Prop := ∀ j : Nat, (j : Int) < caI s → gv s 37 j < 0 ∨ (j : Int) < gv s 37 j ∧ gv s 37 j < caI s
def TB3 (s : RS) : Prop := ∀ j : Nat, (j : Int) < trI s → gv s 30 j < caI s
def TB4 (s : RS) : Prop := ∀ x : Nat, (x : Int) < seI s → 0 ≤ gv s 40 x ∧ gv s 40 x < slI s ∧ ((∃ j : Nat, (j : Int) < caI s ∧ gv s 36 j = gv s 40 x) ↔ ¬ s.a 41 x = 0)
def TB5 (s : RS) : Prop := ∀ j : Nat, (j : Int) < caI s → 0 ≤ gv s 36 j ∧ gv s 36 j < slI s
def TB6 (s : RS) : Prop := ∀ γ : Nat, (γ : Int) < goI s → 0 ≤ gv s 47 γ ∧ gv s 47 γ ≤ deI s
def TB7 (s : RS) : Prop := ∀ k : Nat, (k : Int) < peI s → 0 ≤ gv s 60 k ∧ gv s 60 k < 460 ∧ (s.a 61 k = 0 ∨ s.a 61 k = 1)
def TB8 (s : RS) : Prop := ∀ w : Nat, (w : Int) < waI s → 0 ≤ gv s 57 w ∧ gv s 57 w < trI s ∧ 0 ≤ gv s 58 w ∧ gv s 58 w ≤ goI s
/-- no place lies in two chains -/
def DJ (s : RS) : Prop := ∀ (γ γ' : Nat) (b b' : Bool) (L L' : List Nat) (x : Nat), (γ : Int) < goI s → (γ' : Int) < goI s → ISCH s (hd s b γ) L → ISCH s (hd s b' γ') L' → x ∈ L → x ∈ L' → γ = γ' ∧ b = b'
def TB9 (s : RS) : Prop := ∀ p : Nat, (p : Int) < peI s → gv s 62 p < trI s
def TBW (s : RS) : Prop := ∀ w w' : Nat, w < w' → (w' : Int) < waI s → gv s 57 w < gv s 57 w'
def PW (s : RS) : Prop := ∀ p w : Nat, (p : Int) < peI s → (w : Int) < waI s → gv s 62 p = gv s 57 w → gv s 60 p < gv s 58 w
def TB0 (s : RS) : Prop := TN s ∧ DJ s ∧ TB9 s ∧ TBW s ∧ PW s
theorem DJ.of {u w : RS} (hn : TN u) (hj : DJ u) (hg : goI w ≤ goI u) (hc : ∀ (γ : Nat) (b : Bool) (L : List Nat), (γ : Int) < goI w → ISCH u (hd u b γ) L → (∀ x ∈ L, (x : Int) < cdI u) → ISCH w (hd w b γ) L) : DJ w := by
  intro γ γ' b b' L L' x h1 h2 h3 h4 h5 h6
  obtain ⟨M, m1, m2⟩ := hn γ b (by omega)
  obtain ⟨M', m1', m2'⟩ := hn γ' b' (by omega)
  have e := ISCH.uniq h3 (hc γ b M h1 m1 m2)
  have e' := ISCH.uniq h4 (hc γ' b' M' h2 m1' m2')
  subst e
  subst e'
  exact hj γ γ' b b' _ _ x (by omega) (by omega) m1 m1' h5 h6
def TAB (s : RS) : Prop := TB0 s ∧ TB1 s ∧ TB2 s ∧ TB3 s ∧ TB4 s ∧ TB5 s ∧ TB6 s ∧ TB7 s ∧ TB8 s ∧ (s.i 75 = 0 ∨ s.i 75 = 1)
/-- the tables and their counters are the same -/
def TBL (u w : RS) : Prop := (∀ k : Nat, k < 64 ∨ 74 ≤ k → w.a k = u.a k) ∧ w.b 9 = u.b 9 ∧ (∀ j : Nat, j < 10 ∨ 20 ≤ j → ¬ (52 ≤ j ∧ j ≤ 55) → j ≠ 63 → j ≠ 75 → w.i j = u.i j)
theorem TBL.rf (s : RS) : TBL s s := ⟨fun _ _ => rfl, rfl, fun _ _ _ _ _ => rfl⟩
theorem TBL.tr {s u w : RS} (h1 : TBL s u) (h2 : TBL u w) : TBL s w := ⟨fun k hk => (h2.1 k hk).trans (h1.1 k hk), h2.2.1.trans h1.2.1, fun j a b c d => (h2.2.2 j a b c d).trans (h1.2.2 j a b c d)⟩
theorem LX.tbl {u w : RS} (h : LX u w) : TBL u w := ⟨fun k _ => by rw [h.1], by rw [h.2.1], fun j a _ _ _ => h.2.2.1 j (by omega) (by omega)⟩
theorem TBL.cd {u w : RS} (h : TBL u w) : cdI w = cdI u := by unfold cdI; rw [h.2.2 20 (by omega) (by omega) (by omega) (by omega)]
theorem TBL.en {u w : RS} (h : TBL u w) : enI w = enI u := by unfold enI; rw [h.2.2 24 (by omega) (by omega) (by omega) (by omega)]
theorem TBL.tt {u w : RS} (h : TBL u w) : trI w = trI u := by unfold trI; rw [h.2.2 29 (by omega) (by omega) (by omega) (by omega)]
theorem TBL.ca {u w : RS} (h : TBL u w) : caI w = caI u := by unfold caI; rw [h.2.2 33 (by omega) (by omega) (by omega) (by omega)]
theorem TBL.se {u w : RS} (h : TBL u w) : seI w = seI u := by unfold seI; rw [h.2.2 38 (by omega) (by omega) (by omega) (by omega)]
theorem TBL.sl {u w : RS} (h : TBL u w) : slI w = slI u := by unfold slI; rw [h.2.2 42 (by omega) (by omega) (by omega) (by omega)]
theorem TBL.go {u w : RS} (h : TBL u w) : goI w = goI u := by unfold goI; rw [h.2.2 43 (by omega) (by omega) (by omega) (by omega)]
theorem TBL.wa {u w : RS} (h : TBL u w) : waI w = waI u := by unfold waI; rw [h.2.2 56 (by omega) (by omega) (by omega) (by omega)]
theorem TBL.pe {u w : RS} (h : TBL u w) : peI w = peI u := by unfold peI; rw [h.2.2 59 (by omega) (by omega) (by omega) (by omega)]
theorem TBL.g {u w : RS} (h : TBL u w) {k : Nat} (hk : k < 64) (i : Nat) : gv w k i = gv u k i := gv_of (h.1 k (Or.inl hk)) i
theorem TBL.isch {u w : RS} (h : TBL u w) {x : Int} {L : List Nat} (hi : ISCH u x L) : ISCH w x L := hi.of (fun y _ => ⟨by rw [h.1 21 (by omega)], by rw [h.1 22 (by omega)]⟩)
theorem TBL.hd {u w : RS} (h : TBL u w) (b : Bool) (γ : Nat) : hd w b γ = hd u b γ := by
  cases b
  · exact h.g (k := 49) (by decide) γ
  · exact h.g (k := 48) (by decide) γ
theorem KP.tbl {t : Nat} {s u w : RS} (h : KP t s u) (hw : TBL u w) (h18 : 0 ≤ u.i 18 → 0 ≤ w.i 18) (hf : ∀ k : Nat, 64 ≤ k → k ≤ 73 → bel k t u w) : KP t s w := by
  obtain ⟨⟨a1, a1'⟩, a2, a3, a4, a5, a6, a7, a8, a9, a10, a11⟩ := h
  have eb : ∀ (k : Nat) (n : Int), k < 64 → bel k n s w = bel k n s u := fun k n hk => by unfold bel; rw [hw.1 k (Or.inl hk)]
  refine ⟨⟨⟨fun j hj => (hw.2.2 j (by omega) (by omega) (by omega) (by omega)).trans (a1.1 j hj), fun k hk => (hw.1 k (by omega)).trans (a1.2.1 k hk), hw.2.1.trans a1.2.2⟩, fun z => h18 (a1' z)⟩, ?_, ?_, ?_, ?_, ?_, ?_, ?_, ?_, ?_, fun k k1 k2 => (a11 k k1 k2).tr (hf k k1 k2) (by omega)⟩
  · unfold KC; rw [hw.cd, eb _ _ (by decide), eb _ _ (by decide), eb _ _ (by decide)]; exact a2
  · unfold KE; rw [hw.en, eb _ _ (by decide), eb _ _ (by decide), eb _ _ (by decide), eb _ _ (by decide)]; exact a3
  · unfold KT; rw [hw.tt, eb _ _ (by decide), eb _ _ (by decide), eb _ _ (by decide)]; exact a4
  · unfold KH; unfold gv; rw [hw.ca, eb _ _ (by decide), eb _ _ (by decide), eb _ _ (by decide), eb _ _ (by decide), hw.sl, hw.1 36 (by decide)]; exact a5
  · unfold KS; rw [hw.se, hw.sl, eb _ _ (by decide), eb _ _ (by decide)]; exact a6
  · unfold KG; rw [hw.go, eb _ _ (by decide), eb _ _ (by decide), hw.1 50 (by decide), hw.1 51 (by decide), hw.1 46 (by decide)]; exact a7
  · intro γ b L hγ hI hL
    obtain ⟨L1, c1, c2⟩ := a8 γ b L hγ hI hL
    exact ⟨L1, by rw [hw.hd]; exact hw.isch c1, by rw [hw.cd]; exact c2⟩
  · unfold KW; rw [hw.wa, eb _ _ (by decide), eb _ _ (by decide)]; exact a9
  · unfold KQ; rw [hw.pe, eb _ _ (by decide), eb _ _ (by decide), eb _ _ (by decide)]; exact a10
theorem TAB.tbl {u w : RS} (h : TAB u) (hw : TBL u w) (hd' : ∀ γ : Nat, (γ : Int) < goI u → gv u 47 γ ≤ deI w) (hr : w.i 75 = 0 ∨ w.i 75 = 1) : TAB w := by
  obtain ⟨a0, a1, a2, a3, a4, a5, a6, a7, a8, -⟩ := h
  obtain ⟨a0, b1, b2, b3, b4⟩ := a0
  refine ⟨⟨?_, DJ.of a0 b1 (by rw [hw.go]; exact Int.le_refl _) (fun γ b L _ h1 _ => by rw [hw.hd]; exact hw.isch h1), ?_, ?_, ?_⟩, ?_, ?_, ?_, ?_, ?_, ?_, ?_, ?_, hr⟩
  · intro γ b hγ
    rw [hw.go] at hγ
    obtain ⟨L, l1, l2⟩ := a0 γ b hγ
    exact ⟨L, by rw [hw.hd]; exact hw.isch l1, by rw [hw.cd]; exact l2⟩
  · intro p hp; rw [hw.pe] at hp; rw [hw.tt, hw.g (by decide)]; exact b2 p hp
  · intro w1 w2 h1 h2; rw [hw.wa] at h2; rw [hw.g (by decide), hw.g (by decide)]; exact b3 w1 w2 h1 h2
  · intro p w1 h1 h2 h3; rw [hw.pe] at h1; rw [hw.wa] at h2; rw [hw.g (by decide), hw.g (by decide)] at h3; rw [hw.g (by decide), hw.g (by decide)]; exact b4 p w1 h1 h2 h3
  · intro j hj; rw [hw.en] at hj ⊢; rw [hw.g (by decide)]; exact a1 j hj
  · intro j hj; rw [hw.ca] at hj ⊢; rw [hw.g (by decide)]; exact a2 j hj
  · intro j hj; rw [hw.tt] at hj; rw [hw.ca, hw.g (by decide)]; exact a3 j hj
  · intro x hx
    rw [hw.se] at hx
    rw [hw.sl, hw.ca, hw.g (by decide), hw.1 41 (by decide)]
    have := a4 x hx
    refine ⟨this.1, this.2.1, ?_⟩
    rw [← this.2.2]
    constructor
    · rintro ⟨j, j1, j2⟩; exact ⟨j, j1, by rw [← j2, hw.g (by decide)]⟩
    · rintro ⟨j, j1, j2⟩; exact ⟨j, j1, by rw [← j2, hw.g (by decide)]⟩
  · intro j hj; rw [hw.ca] at hj; rw [hw.sl, hw.g (by decide)]; exact a5 j hj
  · intro γ hγ; rw [hw.go] at hγ; rw [hw.g (by decide)]; exact ⟨(a6 γ hγ).1, hd' γ hγ⟩
  · intro k hk; rw [hw.pe] at hk; rw [hw.g (by decide), hw.1 61 (by decide)]; exact a7 k hk
  · intro k hk; rw [hw.wa] at hk; rw [hw.tt, hw.go, hw.g (by decide), hw.g (by decide)]; exact a8 k hk
theorem LX.de {u w : RS} (hx : LX u w) : deI w = deI u := by unfold deI; rw [hx.2.2.1 52 (by omega) (by omega)]
theorem TAB.lx {u w : RS} (h : TAB u) (hx : LX u w) : TAB w := h.tbl hx.tbl (fun γ hγ => by rw [hx.de]; exact (h.2.2.2.2.2.2.1 γ hγ).2) (by rw [hx.2.2.1 75 (by omega) (by omega)]; exact h.2.2.2.2.2.2.2.2.2)
/-- the numbers, by the bytes read -/
def NUM (s : RS) : Prop := (0 ≤ op s ∧ op s ≤ 20) ∧ (0 ≤ cdI s ∧ cdI s ≤ 3 * fr s) ∧ (0 ≤ enI s ∧ 2 * enI s ≤ fr s) ∧ (0 ≤ trI s ∧ 6 * trI s ≤ fr s + 3 * op s) ∧ (0 ≤ caI s ∧ 3 * caI s ≤ fr s) ∧ (0 ≤ seI s ∧ seI s ≤ slI s) ∧ 2 * slI s ≤ fr s + 4 ∧ (0 ≤ goI s ∧ 2 * goI s ≤ fr s) ∧ (0 ≤ deI s ∧ 4 * deI s ≤ fr s + 2 * op s + 2) ∧ (0 ≤ waI s ∧ waI s ≤ op s) ∧ (0 ≤ peI s ∧ 3 * peI s ≤ fr s) ∧ (0 ≤ tkI s ∧ tkI s ≤ fr s + 1)
def INV (s : RS) : Prop := LXI s ∧ RB s ∧ s.i 15 = 0 ∧ TAB s ∧ NUM s
/-- what is the same behind an expression -/
def SAME (s u : RS) : Prop := u.i 19 = s.i 19 ∧ u.i 43 = s.i 43 ∧ u.i 52 = s.i 52 ∧ u.i 56 = s.i 56
/-- how much may be added, by the bytes read -/
def RATE (s u : RS) : Prop := cdI u - cdI s ≤ 3 * (fr u - fr s) ∧ 2 * (enI u - enI s) ≤ fr u - fr s ∧ 6 * (trI u - trI s) ≤ fr u - fr s ∧ 3 * (caI u - caI s) ≤ fr u - fr s ∧ 2 * (slI u - slI s) ≤ fr u - fr s ∧ 3 * (peI u - peI s) ≤ fr u - fr s ∧ tkI u - tkI s ≤ fr u - fr s
def FS' (s u : RS) : Prop := ¬ u.i 15 = 0 ∧ K1 s u ∧ (u.i 75 = 0 ∨ u.i 75 = 1)
/-- the labels' loops are the same; just the word true is one push of 1 -/
def JT (s u : RS) : Prop := bel 46 (goI s) s u ∧ (s.i 10 = 432 → tkI u = tkI s + 1 → cdI u = cdI s + 1 ∧ u.a 21 (cdI s).toNat = 2 ∧ u.a 22 (cdI s).toNat = 1)
/-- behind an expression -/
def PE (t : Nat) (s u : RS) : Prop := INV u ∧ tpI u = (t : Int) - 1 ∧ KP t s u ∧ SAME s u ∧ u.i 38 = s.i 38 ∧ RATE s u ∧ fr s + 1 ≤ fr u ∧ tkI s + 1 ≤ tkI u ∧ (¬ 0 ≤ u.i 18 → TE s u) ∧ JT s u
/-- an expression's frame, to its end -/
def RUNE (N : Nat) (K : Int32) (r q e : Int) (b : Nat) : Prop := ∀ (n : Nat) (s : RS) (t : Nat) (P : RS → Prop), INV s → tpI s = t → s.a 64 t = K → s.a 65 t = 0 → 2 * (t : Int) ≤ fr s + 12 * op s + 2 * r → 900 - fr s ≤ b → 36000 + q ≤ n + 40 * fr s → (∀ u, FS' s u → P u) → (∀ (m : Nat) (u : RS), PE t s u → (n : Int) + 40 * fr s + e ≤ m + 40 * fr u → ok (f_X12_parse_10 N m u) P) → ok (f_X12_parse_10 N n s) P
theorem bind_some {α β : Type} (x : Option α) (k : α → Option β) : (x.bind fun p => some p).bind k = x.bind k := by cases x <;> rfl
/-- the loop: a fault, or no frame -/
theorem lp_f {N m : Nat} {u : RS} {P : RS → Prop} (h : ¬ u.i 15 = 0) (hP : P u) (hm : 1 ≤ m) : ok (f_X12_parse_10 N m u) P := by
  obtain ⟨n, rfl⟩ : ∃ n, m = n + 1 := ⟨m - 1, by omega⟩
  show ok (b_X12_parse_10 N (f_X12_parse_10 N n) u) P
  unfold b_X12_parse_10
  exact ok_ite (fun _ => ok_some hP) (fun _ => ok_ite (fun c => absurd c h) (fun _ => ok_some hP))
theorem lp_1 {N m : Nat} {u : RS} {t : Nat} {P : RS → Prop} (ht : tpI u = t) (h9 : t < 1000) (h15 : u.i 15 = 0) (hK : u.a 64 t = 1) (h : ok ((f_X12_list N u (u.i 63)).bind fun p => f_X12_parse_10 N m p) P) : ok (f_X12_parse_10 N (m + 1) u) P := by
  show ok (b_X12_parse_10 N (f_X12_parse_10 N m) u) P
  unfold b_X12_parse_10
  have en : (u.i 63).toNatClampNeg = t := by
    show (u.i 63).toInt.toNat = t
    rw [show (u.i 63).toInt = (t : Int) from ht]; exact Int.toNat_natCast _
  have h0 : ¬ u.i 63 < 0 := fun c => by
    have := lt_int c
    rw [z_t0] at this
    have h2 : (u.i 63).toInt = (t : Int) := ht
    omega
  have hib : ib (u.i 63) 1000 := ⟨by rw [show (u.i 63).toInt = (t : Int) from ht]; omega, by rw [show (u.i 63).toInt = (t : Int) from ht]; omega⟩
  rw [en]
  exact ok_neg h0 (ok_pos h15 (ok_chk hib (ok_pos hK h)))
theorem lp_2 {N m : Nat} {u : RS} {t : Nat} {P : RS → Prop} (ht : tpI u = t) (h9 : t < 1000) (h15 : u.i 15 = 0) (hK : u.a 64 t = 2) (h : ok ((f_X12_stat N u (u.i 63)).bind fun p => f_X12_parse_10 N m p) P) : ok (f_X12_parse_10 N (m + 1) u) P := by
  show ok (b_X12_parse_10 N (f_X12_parse_10 N m) u) P
  unfold b_X12_parse_10
  have en : (u.i 63).toNatClampNeg = t := by
    show (u.i 63).toInt.toNat = t
    rw [show (u.i 63).toInt = (t : Int) from ht]; exact Int.toNat_natCast _
  have h0 : ¬ u.i 63 < 0 := fun c => by
    have := lt_int c
    rw [z_t0] at this
    have h2 : (u.i 63).toInt = (t : Int) := ht
    omega
  have hib : ib (u.i 63) 1000 := ⟨by rw [show (u.i 63).toInt = (t : Int) from ht]; omega, by rw [show (u.i 63).toInt = (t : Int) from ht]; omega⟩
  rw [en]
  exact ok_neg h0 (ok_pos h15 (ok_chk hib (ok_neg (by rw [hK]; decide) (ok_pos hK h))))
theorem lp_3 {N m : Nat} {u : RS} {t : Nat} {P : RS → Prop} (ht : tpI u = t) (h9 : t < 1000) (h15 : u.i 15 = 0) (hK : u.a 64 t = 3) (h : ok ((f_X12_block N u (u.i 63)).bind fun p => f_X12_parse_10 N m p) P) : ok (f_X12_parse_10 N (m + 1) u) P := by
  show ok (b_X12_parse_10 N (f_X12_parse_10 N m) u) P
  unfold b_X12_parse_10
  have en : (u.i 63).toNatClampNeg = t := by
    show (u.i 63).toInt.toNat = t
    rw [show (u.i 63).toInt = (t : Int) from ht]; exact Int.toNat_natCast _
  have h0 : ¬ u.i 63 < 0 := fun c => by
    have := lt_int c
    rw [z_t0] at this
    have h2 : (u.i 63).toInt = (t : Int) := ht
    omega
  have hib : ib (u.i 63) 1000 := ⟨by rw [show (u.i 63).toInt = (t : Int) from ht]; omega, by rw [show (u.i 63).toInt = (t : Int) from ht]; omega⟩
  rw [en]
  exact ok_neg h0 (ok_pos h15 (ok_chk hib (ok_neg (by rw [hK]; decide) (ok_neg (by rw [hK]; decide) (ok_pos hK h)))))
theorem lp_4 {N m : Nat} {u : RS} {t : Nat} {P : RS → Prop} (ht : tpI u = t) (h9 : t < 1000) (h15 : u.i 15 = 0) (hK : u.a 64 t = 4) (h : ok ((f_X12_tell N u (u.i 63)).bind fun p => f_X12_parse_10 N m p) P) : ok (f_X12_parse_10 N (m + 1) u) P := by
  show ok (b_X12_parse_10 N (f_X12_parse_10 N m) u) P
  unfold b_X12_parse_10
  have en : (u.i 63).toNatClampNeg = t := by
    show (u.i 63).toInt.toNat = t
    rw [show (u.i 63).toInt = (t : Int) from ht]; exact Int.toNat_natCast _
  have h0 : ¬ u.i 63 < 0 := fun c => by
    have := lt_int c
    rw [z_t0] at this
    have h2 : (u.i 63).toInt = (t : Int) := ht
    omega
  have hib : ib (u.i 63) 1000 := ⟨by rw [show (u.i 63).toInt = (t : Int) from ht]; omega, by rw [show (u.i 63).toInt = (t : Int) from ht]; omega⟩
  rw [en]
  exact ok_neg h0 (ok_pos h15 (ok_chk hib (ok_neg (by rw [hK]; decide) (ok_neg (by rw [hK]; decide) (ok_neg (by rw [hK]; decide) (ok_pos hK h))))))
theorem lp_5 {N m : Nat} {u : RS} {t : Nat} {P : RS → Prop} (ht : tpI u = t) (h9 : t < 1000) (h15 : u.i 15 = 0) (hK : u.a 64 t = 5) (h : ok ((f_X12_named N u (u.i 63)).bind fun p => f_X12_parse_10 N m p) P) : ok (f_X12_parse_10 N (m + 1) u) P := by
  show ok (b_X12_parse_10 N (f_X12_parse_10 N m) u) P
  unfold b_X12_parse_10
  have en : (u.i 63).toNatClampNeg = t := by
    show (u.i 63).toInt.toNat = t
    rw [show (u.i 63).toInt = (t : Int) from ht]; exact Int.toNat_natCast _
  have h0 : ¬ u.i 63 < 0 := fun c => by
    have := lt_int c
    rw [z_t0] at this
    have h2 : (u.i 63).toInt = (t : Int) := ht
    omega
  have hib : ib (u.i 63) 1000 := ⟨by rw [show (u.i 63).toInt = (t : Int) from ht]; omega, by rw [show (u.i 63).toInt = (t : Int) from ht]; omega⟩
  rw [en]
  exact ok_neg h0 (ok_pos h15 (ok_chk hib (ok_neg (by rw [hK]; decide) (ok_neg (by rw [hK]; decide) (ok_neg (by rw [hK]; decide) (ok_neg (by rw [hK]; decide) (ok_pos hK h)))))))
theorem lp_6 {N m : Nat} {u : RS} {t : Nat} {P : RS → Prop} (ht : tpI u = t) (h9 : t < 1000) (h15 : u.i 15 = 0) (hK : u.a 64 t = 6) (h : ok ((f_X12_ending N u (u.i 63)).bind fun p => f_X12_parse_10 N m p) P) : ok (f_X12_parse_10 N (m + 1) u) P := by
  show ok (b_X12_parse_10 N (f_X12_parse_10 N m) u) P
  unfold b_X12_parse_10
  have en : (u.i 63).toNatClampNeg = t := by
    show (u.i 63).toInt.toNat = t
    rw [show (u.i 63).toInt = (t : Int) from ht]; exact Int.toNat_natCast _
  have h0 : ¬ u.i 63 < 0 := fun c => by
    have := lt_int c
    rw [z_t0] at this
    have h2 : (u.i 63).toInt = (t : Int) := ht
    omega
  have hib : ib (u.i 63) 1000 := ⟨by rw [show (u.i 63).toInt = (t : Int) from ht]; omega, by rw [show (u.i 63).toInt = (t : Int) from ht]; omega⟩
  rw [en]
  exact ok_neg h0 (ok_pos h15 (ok_chk hib (ok_neg (by rw [hK]; decide) (ok_neg (by rw [hK]; decide) (ok_neg (by rw [hK]; decide) (ok_neg (by rw [hK]; decide) (ok_neg (by rw [hK]; decide) (ok_pos hK h))))))))
theorem lp_7 {N m : Nat} {u : RS} {t : Nat} {P : RS → Prop} (ht : tpI u = t) (h9 : t < 1000) (h15 : u.i 15 = 0) (hK : u.a 64 t = 7) (h : ok ((f_X12_throwing N u (u.i 63)).bind fun p => f_X12_parse_10 N m p) P) : ok (f_X12_parse_10 N (m + 1) u) P := by
  show ok (b_X12_parse_10 N (f_X12_parse_10 N m) u) P
  unfold b_X12_parse_10
  have en : (u.i 63).toNatClampNeg = t := by
    show (u.i 63).toInt.toNat = t
    rw [show (u.i 63).toInt = (t : Int) from ht]; exact Int.toNat_natCast _
  have h0 : ¬ u.i 63 < 0 := fun c => by
    have := lt_int c
    rw [z_t0] at this
    have h2 : (u.i 63).toInt = (t : Int) := ht
    omega
  have hib : ib (u.i 63) 1000 := ⟨by rw [show (u.i 63).toInt = (t : Int) from ht]; omega, by rw [show (u.i 63).toInt = (t : Int) from ht]; omega⟩
  rw [en]
  exact ok_neg h0 (ok_pos h15 (ok_chk hib (ok_neg (by rw [hK]; decide) (ok_neg (by rw [hK]; decide) (ok_neg (by rw [hK]; decide) (ok_neg (by rw [hK]; decide) (ok_neg (by rw [hK]; decide) (ok_neg (by rw [hK]; decide) (ok_pos hK h)))))))))
theorem lp_8 {N m : Nat} {u : RS} {t : Nat} {P : RS → Prop} (ht : tpI u = t) (h9 : t < 1000) (h15 : u.i 15 = 0) (hK : u.a 64 t = 8) (h : ok ((f_X12_asserted N u (u.i 63)).bind fun p => f_X12_parse_10 N m p) P) : ok (f_X12_parse_10 N (m + 1) u) P := by
  show ok (b_X12_parse_10 N (f_X12_parse_10 N m) u) P
  unfold b_X12_parse_10
  have en : (u.i 63).toNatClampNeg = t := by
    show (u.i 63).toInt.toNat = t
    rw [show (u.i 63).toInt = (t : Int) from ht]; exact Int.toNat_natCast _
  have h0 : ¬ u.i 63 < 0 := fun c => by
    have := lt_int c
    rw [z_t0] at this
    have h2 : (u.i 63).toInt = (t : Int) := ht
    omega
  have hib : ib (u.i 63) 1000 := ⟨by rw [show (u.i 63).toInt = (t : Int) from ht]; omega, by rw [show (u.i 63).toInt = (t : Int) from ht]; omega⟩
  rw [en]
  exact ok_neg h0 (ok_pos h15 (ok_chk hib (ok_neg (by rw [hK]; decide) (ok_neg (by rw [hK]; decide) (ok_neg (by rw [hK]; decide) (ok_neg (by rw [hK]; decide) (ok_neg (by rw [hK]; decide) (ok_neg (by rw [hK]; decide) (ok_neg (by rw [hK]; decide) (ok_pos hK h))))))))))
theorem lp_9 {N m : Nat} {u : RS} {t : Nat} {P : RS → Prop} (ht : tpI u = t) (h9 : t < 1000) (h15 : u.i 15 = 0) (hK : u.a 64 t = 9) (h : ok ((f_X12_branch N u (u.i 63)).bind fun p => f_X12_parse_10 N m p) P) : ok (f_X12_parse_10 N (m + 1) u) P := by
  show ok (b_X12_parse_10 N (f_X12_parse_10 N m) u) P
  unfold b_X12_parse_10
  have en : (u.i 63).toNatClampNeg = t := by
    show (u.i 63).toInt.toNat = t
    rw [show (u.i 63).toInt = (t : Int) from ht]; exact Int.toNat_natCast _
  have h0 : ¬ u.i 63 < 0 := fun c => by
    have := lt_int c
    rw [z_t0] at this
    have h2 : (u.i 63).toInt = (t : Int) := ht
    omega
  have hib : ib (u.i 63) 1000 := ⟨by rw [show (u.i 63).toInt = (t : Int) from ht]; omega, by rw [show (u.i 63).toInt = (t : Int) from ht]; omega⟩
  rw [en]
  exact ok_neg h0 (ok_pos h15 (ok_chk hib (ok_neg (by rw [hK]; decide) (ok_neg (by rw [hK]; decide) (ok_neg (by rw [hK]; decide) (ok_neg (by rw [hK]; decide) (ok_neg (by rw [hK]; decide) (ok_neg (by rw [hK]; decide) (ok_neg (by rw [hK]; decide) (ok_neg (by rw [hK]; decide) (ok_pos hK h)))))))))))
theorem lp_10 {N m : Nat} {u : RS} {t : Nat} {P : RS → Prop} (ht : tpI u = t) (h9 : t < 1000) (h15 : u.i 15 = 0) (hK : u.a 64 t = 10) (h : ok ((f_X12_whiles N u (u.i 63)).bind fun p => f_X12_parse_10 N m p) P) : ok (f_X12_parse_10 N (m + 1) u) P := by
  show ok (b_X12_parse_10 N (f_X12_parse_10 N m) u) P
  unfold b_X12_parse_10
  have en : (u.i 63).toNatClampNeg = t := by
    show (u.i 63).toInt.toNat = t
    rw [show (u.i 63).toInt = (t : Int) from ht]; exact Int.toNat_natCast _
  have h0 : ¬ u.i 63 < 0 := fun c => by
    have := lt_int c
    rw [z_t0] at this
    have h2 : (u.i 63).toInt = (t : Int) := ht
    omega
  have hib : ib (u.i 63) 1000 := ⟨by rw [show (u.i 63).toInt = (t : Int) from ht]; omega, by rw [show (u.i 63).toInt = (t : Int) from ht]; omega⟩
  rw [en]
  exact ok_neg h0 (ok_pos h15 (ok_chk hib (ok_neg (by rw [hK]; decide) (ok_neg (by rw [hK]; decide) (ok_neg (by rw [hK]; decide) (ok_neg (by rw [hK]; decide) (ok_neg (by rw [hK]; decide) (ok_neg (by rw [hK]; decide) (ok_neg (by rw [hK]; decide) (ok_neg (by rw [hK]; decide) (ok_neg (by rw [hK]; decide) (ok_pos hK h))))))))))))
theorem lp_11 {N m : Nat} {u : RS} {t : Nat} {P : RS → Prop} (ht : tpI u = t) (h9 : t < 1000) (h15 : u.i 15 = 0) (hK : u.a 64 t = 11) (h : ok ((f_X12_repeats N u (u.i 63)).bind fun p => f_X12_parse_10 N m p) P) : ok (f_X12_parse_10 N (m + 1) u) P := by
  show ok (b_X12_parse_10 N (f_X12_parse_10 N m) u) P
  unfold b_X12_parse_10
  have en : (u.i 63).toNatClampNeg = t := by
    show (u.i 63).toInt.toNat = t
    rw [show (u.i 63).toInt = (t : Int) from ht]; exact Int.toNat_natCast _
  have h0 : ¬ u.i 63 < 0 := fun c => by
    have := lt_int c
    rw [z_t0] at this
    have h2 : (u.i 63).toInt = (t : Int) := ht
    omega
  have hib : ib (u.i 63) 1000 := ⟨by rw [show (u.i 63).toInt = (t : Int) from ht]; omega, by rw [show (u.i 63).toInt = (t : Int) from ht]; omega⟩
  rw [en]
  exact ok_neg h0 (ok_pos h15 (ok_chk hib (ok_neg (by rw [hK]; decide) (ok_neg (by rw [hK]; decide) (ok_neg (by rw [hK]; decide) (ok_neg (by rw [hK]; decide) (ok_neg (by rw [hK]; decide) (ok_neg (by rw [hK]; decide) (ok_neg (by rw [hK]; decide) (ok_neg (by rw [hK]; decide) (ok_neg (by rw [hK]; decide) (ok_neg (by rw [hK]; decide) (ok_pos hK h)))))))))))))
theorem lp_12 {N m : Nat} {u : RS} {t : Nat} {P : RS → Prop} (ht : tpI u = t) (h9 : t < 1000) (h15 : u.i 15 = 0) (hK : u.a 64 t = 12) (h : ok ((f_X12_fors N u (u.i 63)).bind fun p => f_X12_parse_10 N m p) P) : ok (f_X12_parse_10 N (m + 1) u) P := by
  show ok (b_X12_parse_10 N (f_X12_parse_10 N m) u) P
  unfold b_X12_parse_10
  have en : (u.i 63).toNatClampNeg = t := by
    show (u.i 63).toInt.toNat = t
    rw [show (u.i 63).toInt = (t : Int) from ht]; exact Int.toNat_natCast _
  have h0 : ¬ u.i 63 < 0 := fun c => by
    have := lt_int c
    rw [z_t0] at this
    have h2 : (u.i 63).toInt = (t : Int) := ht
    omega
  have hib : ib (u.i 63) 1000 := ⟨by rw [show (u.i 63).toInt = (t : Int) from ht]; omega, by rw [show (u.i 63).toInt = (t : Int) from ht]; omega⟩
  rw [en]
  exact ok_neg h0 (ok_pos h15 (ok_chk hib (ok_neg (by rw [hK]; decide) (ok_neg (by rw [hK]; decide) (ok_neg (by rw [hK]; decide) (ok_neg (by rw [hK]; decide) (ok_neg (by rw [hK]; decide) (ok_neg (by rw [hK]; decide) (ok_neg (by rw [hK]; decide) (ok_neg (by rw [hK]; decide) (ok_neg (by rw [hK]; decide) (ok_neg (by rw [hK]; decide) (ok_neg (by rw [hK]; decide) (ok_pos hK h))))))))))))))
theorem lp_13 {N m : Nat} {u : RS} {t : Nat} {P : RS → Prop} (ht : tpI u = t) (h9 : t < 1000) (h15 : u.i 15 = 0) (hK : u.a 64 t = 13) (h : ok ((f_X12_lock N u (u.i 63)).bind fun p => f_X12_parse_10 N m p) P) : ok (f_X12_parse_10 N (m + 1) u) P := by
  show ok (b_X12_parse_10 N (f_X12_parse_10 N m) u) P
  unfold b_X12_parse_10
  have en : (u.i 63).toNatClampNeg = t := by
    show (u.i 63).toInt.toNat = t
    rw [show (u.i 63).toInt = (t : Int) from ht]; exact Int.toNat_natCast _
  have h0 : ¬ u.i 63 < 0 := fun c => by
    have := lt_int c
    rw [z_t0] at this
    have h2 : (u.i 63).toInt = (t : Int) := ht
    omega
  have hib : ib (u.i 63) 1000 := ⟨by rw [show (u.i 63).toInt = (t : Int) from ht]; omega, by rw [show (u.i 63).toInt = (t : Int) from ht]; omega⟩
  rw [en]
  exact ok_neg h0 (ok_pos h15 (ok_chk hib (ok_neg (by rw [hK]; decide) (ok_neg (by rw [hK]; decide) (ok_neg (by rw [hK]; decide) (ok_neg (by rw [hK]; decide) (ok_neg (by rw [hK]; decide) (ok_neg (by rw [hK]; decide) (ok_neg (by rw [hK]; decide) (ok_neg (by rw [hK]; decide) (ok_neg (by rw [hK]; decide) (ok_neg (by rw [hK]; decide) (ok_neg (by rw [hK]; decide) (ok_neg (by rw [hK]; decide) (ok_pos hK h)))))))))))))))
theorem lp_14 {N m : Nat} {u : RS} {t : Nat} {P : RS → Prop} (ht : tpI u = t) (h9 : t < 1000) (h15 : u.i 15 = 0) (hK : u.a 64 t = 14) (h : ok ((f_X12_groups N u (u.i 63)).bind fun p => f_X12_parse_10 N m p) P) : ok (f_X12_parse_10 N (m + 1) u) P := by
  show ok (b_X12_parse_10 N (f_X12_parse_10 N m) u) P
  unfold b_X12_parse_10
  have en : (u.i 63).toNatClampNeg = t := by
    show (u.i 63).toInt.toNat = t
    rw [show (u.i 63).toInt = (t : Int) from ht]; exact Int.toNat_natCast _
  have h0 : ¬ u.i 63 < 0 := fun c => by
    have := lt_int c
    rw [z_t0] at this
    have h2 : (u.i 63).toInt = (t : Int) := ht
    omega
  have hib : ib (u.i 63) 1000 := ⟨by rw [show (u.i 63).toInt = (t : Int) from ht]; omega, by rw [show (u.i 63).toInt = (t : Int) from ht]; omega⟩
  rw [en]
  exact ok_neg h0 (ok_pos h15 (ok_chk hib (ok_neg (by rw [hK]; decide) (ok_neg (by rw [hK]; decide) (ok_neg (by rw [hK]; decide) (ok_neg (by rw [hK]; decide) (ok_neg (by rw [hK]; decide) (ok_neg (by rw [hK]; decide) (ok_neg (by rw [hK]; decide) (ok_neg (by rw [hK]; decide) (ok_neg (by rw [hK]; decide) (ok_neg (by rw [hK]; decide) (ok_neg (by rw [hK]; decide) (ok_neg (by rw [hK]; decide) (ok_neg (by rw [hK]; decide) (ok_pos hK h))))))))))))))))
theorem lp_15 {N m : Nat} {u : RS} {t : Nat} {P : RS → Prop} (ht : tpI u = t) (h9 : t < 1000) (h15 : u.i 15 = 0) (hK : u.a 64 t = 15) (h : ok ((f_X12_trying N u (u.i 63)).bind fun p => f_X12_parse_10 N m p) P) : ok (f_X12_parse_10 N (m + 1) u) P := by
  show ok (b_X12_parse_10 N (f_X12_parse_10 N m) u) P
  unfold b_X12_parse_10
  have en : (u.i 63).toNatClampNeg = t := by
    show (u.i 63).toInt.toNat = t
    rw [show (u.i 63).toInt = (t : Int) from ht]; exact Int.toNat_natCast _
  have h0 : ¬ u.i 63 < 0 := fun c => by
    have := lt_int c
    rw [z_t0] at this
    have h2 : (u.i 63).toInt = (t : Int) := ht
    omega
  have hib : ib (u.i 63) 1000 := ⟨by rw [show (u.i 63).toInt = (t : Int) from ht]; omega, by rw [show (u.i 63).toInt = (t : Int) from ht]; omega⟩
  rw [en]
  exact ok_neg h0 (ok_pos h15 (ok_chk hib (ok_neg (by rw [hK]; decide) (ok_neg (by rw [hK]; decide) (ok_neg (by rw [hK]; decide) (ok_neg (by rw [hK]; decide) (ok_neg (by rw [hK]; decide) (ok_neg (by rw [hK]; decide) (ok_neg (by rw [hK]; decide) (ok_neg (by rw [hK]; decide) (ok_neg (by rw [hK]; decide) (ok_neg (by rw [hK]; decide) (ok_neg (by rw [hK]; decide) (ok_neg (by rw [hK]; decide) (ok_neg (by rw [hK]; decide) (ok_neg (by rw [hK]; decide) (ok_pos hK h)))))))))))))))))
theorem lp_18 {N m : Nat} {u : RS} {t : Nat} {P : RS → Prop} (ht : tpI u = t) (h9 : t < 1000) (h15 : u.i 15 = 0) (hK : u.a 64 t = 18) (h : ok ((f_X12_factor N u (u.i 63)).bind fun p => f_X12_parse_10 N m p) P) : ok (f_X12_parse_10 N (m + 1) u) P := by
  show ok (b_X12_parse_10 N (f_X12_parse_10 N m) u) P
  unfold b_X12_parse_10
  have en : (u.i 63).toNatClampNeg = t := by
    show (u.i 63).toInt.toNat = t
    rw [show (u.i 63).toInt = (t : Int) from ht]; exact Int.toNat_natCast _
  have h0 : ¬ u.i 63 < 0 := fun c => by
    have := lt_int c
    rw [z_t0] at this
    have h2 : (u.i 63).toInt = (t : Int) := ht
    omega
  have hib : ib (u.i 63) 1000 := ⟨by rw [show (u.i 63).toInt = (t : Int) from ht]; omega, by rw [show (u.i 63).toInt = (t : Int) from ht]; omega⟩
  rw [en]
  refine ok_neg h0 (ok_pos h15 (ok_chk hib (ok_neg (by rw [hK]; decide) (ok_neg (by rw [hK]; decide) (ok_neg (by rw [hK]; decide) (ok_neg (by rw [hK]; decide) (ok_neg (by rw [hK]; decide) (ok_neg (by rw [hK]; decide) (ok_neg (by rw [hK]; decide) (ok_neg (by rw [hK]; decide) (ok_neg (by rw [hK]; decide) (ok_neg (by rw [hK]; decide) (ok_neg (by rw [hK]; decide) (ok_neg (by rw [hK]; decide) (ok_neg (by rw [hK]; decide) (ok_neg (by rw [hK]; decide) (ok_neg (by rw [hK]; decide) (?_))))))))))))))))))
  unfold f_X12_thing
  rw [en, if_pos hib]
  rw [if_neg (show ¬ u.a 64 t = 16 by rw [hK]; decide)]
  rw [if_neg (show ¬ u.a 64 t = 17 by rw [hK]; decide)]
  rw [if_pos hK, bind_some]
  exact h
theorem lp_19 {N m : Nat} {u : RS} {t : Nat} {P : RS → Prop} (ht : tpI u = t) (h9 : t < 1000) (h15 : u.i 15 = 0) (hK : u.a 64 t = 19) (h : ok ((f_X12_arms N u (u.i 63)).bind fun p => f_X12_parse_10 N m p) P) : ok (f_X12_parse_10 N (m + 1) u) P := by
  show ok (b_X12_parse_10 N (f_X12_parse_10 N m) u) P
  unfold b_X12_parse_10
  have en : (u.i 63).toNatClampNeg = t := by
    show (u.i 63).toInt.toNat = t
    rw [show (u.i 63).toInt = (t : Int) from ht]; exact Int.toNat_natCast _
  have h0 : ¬ u.i 63 < 0 := fun c => by
    have := lt_int c
    rw [z_t0] at this
    have h2 : (u.i 63).toInt = (t : Int) := ht
    omega
  have hib : ib (u.i 63) 1000 := ⟨by rw [show (u.i 63).toInt = (t : Int) from ht]; omega, by rw [show (u.i 63).toInt = (t : Int) from ht]; omega⟩
  rw [en]
  refine ok_neg h0 (ok_pos h15 (ok_chk hib (ok_neg (by rw [hK]; decide) (ok_neg (by rw [hK]; decide) (ok_neg (by rw [hK]; decide) (ok_neg (by rw [hK]; decide) (ok_neg (by rw [hK]; decide) (ok_neg (by rw [hK]; decide) (ok_neg (by rw [hK]; decide) (ok_neg (by rw [hK]; decide) (ok_neg (by rw [hK]; decide) (ok_neg (by rw [hK]; decide) (ok_neg (by rw [hK]; decide) (ok_neg (by rw [hK]; decide) (ok_neg (by rw [hK]; decide) (ok_neg (by rw [hK]; decide) (ok_neg (by rw [hK]; decide) (?_))))))))))))))))))
  unfold f_X12_thing
  rw [en, if_pos hib]
  rw [if_neg (show ¬ u.a 64 t = 16 by rw [hK]; decide)]
  rw [if_neg (show ¬ u.a 64 t = 17 by rw [hK]; decide)]
  rw [if_neg (show ¬ u.a 64 t = 18 by rw [hK]; decide)]
  rw [if_pos hK, bind_some]
  exact h
theorem lp_22 {N m : Nat} {u : RS} {t : Nat} {P : RS → Prop} (ht : tpI u = t) (h9 : t < 1000) (h15 : u.i 15 = 0) (hK : u.a 64 t = 22) (h : ok ((f_X12_one N u (u.i 63)).bind fun p => f_X12_parse_10 N m p) P) : ok (f_X12_parse_10 N (m + 1) u) P := by
  show ok (b_X12_parse_10 N (f_X12_parse_10 N m) u) P
  unfold b_X12_parse_10
  have en : (u.i 63).toNatClampNeg = t := by
    show (u.i 63).toInt.toNat = t
    rw [show (u.i 63).toInt = (t : Int) from ht]; exact Int.toNat_natCast _
  have h0 : ¬ u.i 63 < 0 := fun c => by
    have := lt_int c
    rw [z_t0] at this
    have h2 : (u.i 63).toInt = (t : Int) := ht
    omega
  have hib : ib (u.i 63) 1000 := ⟨by rw [show (u.i 63).toInt = (t : Int) from ht]; omega, by rw [show (u.i 63).toInt = (t : Int) from ht]; omega⟩
  rw [en]
  refine ok_neg h0 (ok_pos h15 (ok_chk hib (ok_neg (by rw [hK]; decide) (ok_neg (by rw [hK]; decide) (ok_neg (by rw [hK]; decide) (ok_neg (by rw [hK]; decide) (ok_neg (by rw [hK]; decide) (ok_neg (by rw [hK]; decide) (ok_neg (by rw [hK]; decide) (ok_neg (by rw [hK]; decide) (ok_neg (by rw [hK]; decide) (ok_neg (by rw [hK]; decide) (ok_neg (by rw [hK]; decide) (ok_neg (by rw [hK]; decide) (ok_neg (by rw [hK]; decide) (ok_neg (by rw [hK]; decide) (ok_neg (by rw [hK]; decide) (?_))))))))))))))))))
  unfold f_X12_thing
  rw [en, if_pos hib]
  rw [if_neg (show ¬ u.a 64 t = 16 by rw [hK]; decide)]
  rw [if_neg (show ¬ u.a 64 t = 17 by rw [hK]; decide)]
  rw [if_neg (show ¬ u.a 64 t = 18 by rw [hK]; decide)]
  rw [if_neg (show ¬ u.a 64 t = 19 by rw [hK]; decide)]
  rw [if_neg (show ¬ u.a 64 t = 20 by rw [hK]; decide)]
  rw [if_neg (show ¬ u.a 64 t = 21 by rw [hK]; decide)]
  rw [bind_some]
  exact h
theorem lp_20 {N m : Nat} {u : RS} {t : Nat} {P : RS → Prop} (ht : tpI u = t) (h9 : t < 1000) (h15 : u.i 15 = 0) (hK : u.a 64 t = 20) (h : ok ((f_X12_both N u (u.i 63) 21 305 11).bind fun p => f_X12_parse_10 N m p) P) : ok (f_X12_parse_10 N (m + 1) u) P := by
  show ok (b_X12_parse_10 N (f_X12_parse_10 N m) u) P
  unfold b_X12_parse_10
  have en : (u.i 63).toNatClampNeg = t := by
    show (u.i 63).toInt.toNat = t
    rw [show (u.i 63).toInt = (t : Int) from ht]; exact Int.toNat_natCast _
  have h0 : ¬ u.i 63 < 0 := fun c => by
    have := lt_int c
    rw [z_t0] at this
    have h2 : (u.i 63).toInt = (t : Int) := ht
    omega
  have hib : ib (u.i 63) 1000 := ⟨by rw [show (u.i 63).toInt = (t : Int) from ht]; omega, by rw [show (u.i 63).toInt = (t : Int) from ht]; omega⟩
  rw [en]
  refine ok_neg h0 (ok_pos h15 (ok_chk hib (ok_neg (by rw [hK]; decide) (ok_neg (by rw [hK]; decide) (ok_neg (by rw [hK]; decide) (ok_neg (by rw [hK]; decide) (ok_neg (by rw [hK]; decide) (ok_neg (by rw [hK]; decide) (ok_neg (by rw [hK]; decide) (ok_neg (by rw [hK]; decide) (ok_neg (by rw [hK]; decide) (ok_neg (by rw [hK]; decide) (ok_neg (by rw [hK]; decide) (ok_neg (by rw [hK]; decide) (ok_neg (by rw [hK]; decide) (ok_neg (by rw [hK]; decide) (ok_neg (by rw [hK]; decide) (?_))))))))))))))))))
  unfold f_X12_thing
  rw [en, if_pos hib]
  rw [if_neg (show ¬ u.a 64 t = 16 by rw [hK]; decide)]
  rw [if_neg (show ¬ u.a 64 t = 17 by rw [hK]; decide)]
  rw [if_neg (show ¬ u.a 64 t = 18 by rw [hK]; decide)]
  rw [if_neg (show ¬ u.a 64 t = 19 by rw [hK]; decide)]
  rw [if_pos hK, bind_some]
  exact h
theorem lp_21 {N m : Nat} {u : RS} {t : Nat} {P : RS → Prop} (ht : tpI u = t) (h9 : t < 1000) (h15 : u.i 15 = 0) (hK : u.a 64 t = 21) (h : ok ((f_X12_both N u (u.i 63) 22 304 12).bind fun p => f_X12_parse_10 N m p) P) : ok (f_X12_parse_10 N (m + 1) u) P := by
  show ok (b_X12_parse_10 N (f_X12_parse_10 N m) u) P
  unfold b_X12_parse_10
  have en : (u.i 63).toNatClampNeg = t := by
    show (u.i 63).toInt.toNat = t
    rw [show (u.i 63).toInt = (t : Int) from ht]; exact Int.toNat_natCast _
  have h0 : ¬ u.i 63 < 0 := fun c => by
    have := lt_int c
    rw [z_t0] at this
    have h2 : (u.i 63).toInt = (t : Int) := ht
    omega
  have hib : ib (u.i 63) 1000 := ⟨by rw [show (u.i 63).toInt = (t : Int) from ht]; omega, by rw [show (u.i 63).toInt = (t : Int) from ht]; omega⟩
  rw [en]
  refine ok_neg h0 (ok_pos h15 (ok_chk hib (ok_neg (by rw [hK]; decide) (ok_neg (by rw [hK]; decide) (ok_neg (by rw [hK]; decide) (ok_neg (by rw [hK]; decide) (ok_neg (by rw [hK]; decide) (ok_neg (by rw [hK]; decide) (ok_neg (by rw [hK]; decide) (ok_neg (by rw [hK]; decide) (ok_neg (by rw [hK]; decide) (ok_neg (by rw [hK]; decide) (ok_neg (by rw [hK]; decide) (ok_neg (by rw [hK]; decide) (ok_neg (by rw [hK]; decide) (ok_neg (by rw [hK]; decide) (ok_neg (by rw [hK]; decide) (?_))))))))))))))))))
  unfold f_X12_thing
  rw [en, if_pos hib]
  rw [if_neg (show ¬ u.a 64 t = 16 by rw [hK]; decide)]
  rw [if_neg (show ¬ u.a 64 t = 17 by rw [hK]; decide)]
  rw [if_neg (show ¬ u.a 64 t = 18 by rw [hK]; decide)]
  rw [if_neg (show ¬ u.a 64 t = 19 by rw [hK]; decide)]
  rw [if_neg (show ¬ u.a 64 t = 20 by rw [hK]; decide)]
  rw [if_pos hK, bind_some]
  exact h
theorem lp_16 {N m : Nat} {u : RS} {t : Nat} {P : RS → Prop} (ht : tpI u = t) (h9 : t < 1000) (h15 : u.i 15 = 0) (hK : u.a 64 t = 16) (h1 : (u.i 10 = 43 ∨ u.i 10 = 45) → ok ((f_X12_sums N u (u.i 63) 17 1).bind fun p => f_X12_parse_10 N m p) P) (h : ok ((f_X12_sums N u (u.i 63) 17 0).bind fun p => f_X12_parse_10 N m p) P) : ok (f_X12_parse_10 N (m + 1) u) P := by
  show ok (b_X12_parse_10 N (f_X12_parse_10 N m) u) P
  unfold b_X12_parse_10
  have en : (u.i 63).toNatClampNeg = t := by
    show (u.i 63).toInt.toNat = t
    rw [show (u.i 63).toInt = (t : Int) from ht]; exact Int.toNat_natCast _
  have h0 : ¬ u.i 63 < 0 := fun c => by
    have := lt_int c
    rw [z_t0] at this
    have h2 : (u.i 63).toInt = (t : Int) := ht
    omega
  have hib : ib (u.i 63) 1000 := ⟨by rw [show (u.i 63).toInt = (t : Int) from ht]; omega, by rw [show (u.i 63).toInt = (t : Int) from ht]; omega⟩
  rw [en]
  refine ok_neg h0 (ok_pos h15 (ok_chk hib (ok_neg (by rw [hK]; decide) (ok_neg (by rw [hK]; decide) (ok_neg (by rw [hK]; decide) (ok_neg (by rw [hK]; decide) (ok_neg (by rw [hK]; decide) (ok_neg (by rw [hK]; decide) (ok_neg (by rw [hK]; decide) (ok_neg (by rw [hK]; decide) (ok_neg (by rw [hK]; decide) (ok_neg (by rw [hK]; decide) (ok_neg (by rw [hK]; decide) (ok_neg (by rw [hK]; decide) (ok_neg (by rw [hK]; decide) (ok_neg (by rw [hK]; decide) (ok_neg (by rw [hK]; decide) (?_))))))))))))))))))
  unfold f_X12_thing f_X12_thing_74 f_X12_thing_116
  rw [en, if_pos hib]
  rw [if_pos hK]
  by_cases c43 : u.i 10 = 43
  · rw [if_pos c43, bind_some]
    exact h1 (by rw [c43]; decide)
  rw [if_neg c43]
  by_cases c45 : u.i 10 = 45
  · rw [if_pos c45, bind_some]
    exact h1 (by rw [c45]; decide)
  rw [if_neg c45]
  rw [bind_some]
  exact h
theorem lp_17 {N m : Nat} {u : RS} {t : Nat} {P : RS → Prop} (ht : tpI u = t) (h9 : t < 1000) (h15 : u.i 15 = 0) (hK : u.a 64 t = 17) (h1 : (u.i 10 = 42 ∨ u.i 10 = 47 ∨ u.i 10 = 37) → ok ((f_X12_sums N u (u.i 63) 18 1).bind fun p => f_X12_parse_10 N m p) P) (h : ok ((f_X12_sums N u (u.i 63) 18 0).bind fun p => f_X12_parse_10 N m p) P) : ok (f_X12_parse_10 N (m + 1) u) P := by
  show ok (b_X12_parse_10 N (f_X12_parse_10 N m) u) P
  unfold b_X12_parse_10
  have en : (u.i 63).toNatClampNeg = t := by
    show (u.i 63).toInt.toNat = t
    rw [show (u.i 63).toInt = (t : Int) from ht]; exact Int.toNat_natCast _
  have h0 : ¬ u.i 63 < 0 := fun c => by
    have := lt_int c
    rw [z_t0] at this
    have h2 : (u.i 63).toInt = (t : Int) := ht
    omega
  have hib : ib (u.i 63) 1000 := ⟨by rw [show (u.i 63).toInt = (t : Int) from ht]; omega, by rw [show (u.i 63).toInt = (t : Int) from ht]; omega⟩
  rw [en]
  refine ok_neg h0 (ok_pos h15 (ok_chk hib (ok_neg (by rw [hK]; decide) (ok_neg (by rw [hK]; decide) (ok_neg (by rw [hK]; decide) (ok_neg (by rw [hK]; decide) (ok_neg (by rw [hK]; decide) (ok_neg (by rw [hK]; decide) (ok_neg (by rw [hK]; decide) (ok_neg (by rw [hK]; decide) (ok_neg (by rw [hK]; decide) (ok_neg (by rw [hK]; decide) (ok_neg (by rw [hK]; decide) (ok_neg (by rw [hK]; decide) (ok_neg (by rw [hK]; decide) (ok_neg (by rw [hK]; decide) (ok_neg (by rw [hK]; decide) (?_))))))))))))))))))
  unfold f_X12_thing f_X12_thing_74 f_X12_thing_116
  rw [en, if_pos hib]
  rw [if_neg (show ¬ u.a 64 t = 16 by rw [hK]; decide)]
  rw [if_pos hK]
  by_cases c42 : u.i 10 = 42
  · rw [if_pos c42, bind_some]
    exact h1 (by rw [c42]; decide)
  rw [if_neg c42]
  by_cases c47 : u.i 10 = 47
  · rw [if_pos c47, bind_some]
    exact h1 (by rw [c47]; decide)
  rw [if_neg c47]
  by_cases c37 : u.i 10 = 37
  · rw [if_pos c37, bind_some]
    exact h1 (by rw [c37]; decide)
  rw [if_neg c37]
  rw [bind_some]
  exact h
end
section
/-! reading: emit, holes, frames -/
def EM (u : RS) (o x : Int32) : RS := (((u.setA 21 (cdI u).toNat o).setA 22 (cdI u).toNat x).setA 23 (cdI u).toNat 0).setI 20 (u.i 20 + 1)
theorem p_em {N : Nat} {u : RS} (o x : Int32) (h0 : 0 ≤ cdI u) (h3 : cdI u < 3000) : f_X12_emit N u o x = some (u.i 20, EM u o x) := by
  have a : 0 ≤ u.i 20 := by
    rw [Int32.le_iff_toInt_le, z_t0]; exact h0
  have b : u.i 20 < 3000 := by
    rw [Int32.lt_iff_toInt_lt]
    have e : (3000 : Int32).toInt = 3000 := by decide
    rw [e]; exact h3
  exact e_emit a b
theorem EM.cd {u : RS} {o x : Int32} (h0 : 0 ≤ cdI u) (h3 : cdI u < 3000) : cdI (EM u o x) = cdI u + 1 := by
  have e1 : (1 : Int32).toInt = 1 := by decide
  have h0 : 0 ≤ (u.i 20).toInt := h0
  have h3 : (u.i 20).toInt < 3000 := h3
  show (u.i 20 + 1).toInt = (u.i 20).toInt + 1
  rw [toInt_add] <;> rw [e1] <;> omega
theorem EM.i {u : RS} {o x : Int32} {j : Nat} (hj : j ≠ 20) : (EM u o x).i j = u.i j := if_neg hj
theorem EM.a {u : RS} {o x : Int32} {k : Nat} (h1 : k ≠ 21) (h2 : k ≠ 22) (h3 : k ≠ 23) : (EM u o x).a k = u.a k := (if_neg h3).trans ((if_neg h2).trans (if_neg h1))
theorem EM.a21 {u : RS} {o x : Int32} (j : Nat) : (EM u o x).a 21 j = if j = (cdI u).toNat then o else u.a 21 j := rfl
theorem EM.a22 {u : RS} {o x : Int32} (j : Nat) : (EM u o x).a 22 j = if j = (cdI u).toNat then x else u.a 22 j := rfl
theorem EM.a23 {u : RS} {o x : Int32} (j : Nat) : (EM u o x).a 23 j = if j = (cdI u).toNat then 0 else u.a 23 j := rfl
theorem ISCH.em {u : RS} {o x : Int32} {h : Int} {L : List Nat} (h0 : 0 ≤ cdI u) (hi : ISCH u h L) (hL : ∀ y ∈ L, (y : Int) < cdI u) : ISCH (EM u o x) h L := hi.of (fun y hy => by
  have := hL y hy
  exact ⟨by rw [EM.a21, if_neg (by omega)], by rw [EM.a22, if_neg (by omega)]⟩)
theorem EM.hd {u : RS} {o x : Int32} (b : Bool) (γ : Nat) : hd (EM u o x) b γ = hd u b γ := by cases b <;> rfl
theorem KP.em {t : Nat} {s u : RS} {o x : Int32} (h : KP t s u) (hs : 0 ≤ cdI s) (h3 : cdI u < 3000) : KP t s (EM u o x) := by
  obtain ⟨⟨a1, a1'⟩, a2, a3, a4, a5, a6, a7, a8, a9, a10, a11⟩ := h
  have h0 : 0 ≤ cdI u := by have := a2.1; omega
  have ec := EM.cd (o := o) (x := x) h0 h3
  refine ⟨⟨⟨fun j hj => (EM.i (by omega)).trans (a1.1 j hj), fun k hk => (EM.a (by omega) (by omega) (by omega)).trans (a1.2.1 k hk), a1.2.2⟩, a1'⟩, ⟨by have := a2.1; omega, fun j hj => ?_, fun j hj => ?_, fun j hj => ?_⟩, a3, a4, a5, a6, a7, fun γ b L hγ hI hL => ?_, a9, a10, fun k k1 k2 j hj => by rw [EM.a (by omega) (by omega) (by omega)]; exact a11 k k1 k2 j hj⟩
  · rw [EM.a21, if_neg (by have := a2.1; omega)]; exact a2.2.1 j hj
  · rw [EM.a22, if_neg (by have := a2.1; omega)]; exact a2.2.2.1 j hj
  · rw [EM.a23, if_neg (by have := a2.1; omega)]; exact a2.2.2.2 j hj
  · obtain ⟨L1, c1, c2⟩ := a8 γ b L hγ hI hL
    refine ⟨L1, ?_, fun y hy => by have := c2 y hy; omega⟩
    rw [EM.hd]
    refine c1.em h0 (fun y hy => ?_)
    rcases List.mem_append.mp hy with hy | hy
    · exact (c2 y hy).2
    · have := hL y hy; have := a2.1; omega
theorem TAB.em {u : RS} {o x : Int32} (h : TAB u) (h0 : 0 ≤ cdI u) (h3 : cdI u < 3000) : TAB (EM u o x) := by
  refine ⟨⟨fun γ b hγ => ?_, DJ.of h.1.1 h.1.2.1 (Int.le_refl _) (fun γ b L _ h1 h2 => by rw [EM.hd]; exact h1.em h0 h2), h.1.2.2⟩, h.2⟩
  obtain ⟨L, l1, l2⟩ := h.1.1 γ b hγ
  refine ⟨L, ?_, fun y hy => by have := l2 y hy; rw [EM.cd h0 h3]; omega⟩
  rw [EM.hd]
  exact l1.em h0 l2
theorem LXI.em {u : RS} {o x : Int32} (h : LXI u) : LXI (EM u o x) := h
/-- a jump's place is filled -/
theorem ISCH.hole {u : RS} {k : Nat} {x : Int32} {h : Int} {L : List Nat} (ho : ¬ u.a 21 k = 36) (hi : ISCH u h L) : ISCH (u.setA 22 k x) h L := hi.of (fun y hy => ⟨rfl, by
  show (if y = k then x else u.a 22 y) = _
  rw [if_neg (fun e => ho (by rw [← e]; exact hi.op y hy))]⟩)
theorem KP.hole {t : Nat} {s u : RS} {k : Nat} {x : Int32} (h : KP t s u) (hk : cdI s ≤ k) (ho : ¬ u.a 21 k = 36) : KP t s (u.setA 22 k x) := by
  obtain ⟨⟨a1, a1'⟩, a2, a3, a4, a5, a6, a7, a8, a9, a10, a11⟩ := h
  refine ⟨⟨⟨a1.1, fun j hj => (if_neg (by omega)).trans (a1.2.1 j hj), a1.2.2⟩, a1'⟩, ⟨a2.1, a2.2.1, fun j hj => ?_, a2.2.2.2⟩, a3, a4, a5, a6, a7, fun γ b L hγ hI hL => ?_, a9, a10, fun k9 k1 k2 j hj => (congrFun (if_neg (by omega)) j).trans (a11 k9 k1 k2 j hj)⟩
  · show (if j = k then x else u.a 22 j) = _
    rw [if_neg (by omega)]; exact a2.2.2.1 j hj
  · obtain ⟨L1, c1, c2⟩ := a8 γ b L hγ hI hL
    exact ⟨L1, by cases b <;> exact c1.hole ho, c2⟩
theorem TAB.hole {u : RS} {k : Nat} {x : Int32} (h : TAB u) (ho : ¬ u.a 21 k = 36) : TAB (u.setA 22 k x) := by
  refine ⟨⟨fun γ b hγ => ?_, DJ.of h.1.1 h.1.2.1 (Int.le_refl _) (fun γ b L _ h1 h2 => by cases b <;> exact h1.hole ho), h.1.2.2⟩, h.2⟩
  obtain ⟨L, l1, l2⟩ := h.1.1 γ b hγ
  exact ⟨L, by cases b <;> exact l1.hole ho, l2⟩
theorem KP.lo {t t' : Nat} {s u : RS} (h : KP t s u) (ht : t' ≤ t) : KP t' s u := by
  obtain ⟨a1, a2, a3, a4, a5, a6, a7, a8, a9, a10, a11⟩ := h
  exact ⟨a1, a2, a3, a4, a5, a6, a7, a8, a9, a10, fun k k1 k2 j hj => a11 k k1 k2 j (by omega)⟩
/-- a frame more -/
def TH (u : RS) (t : Nat) (st k : Int32) : RS := (((u.setA 65 t st).setI 63 (u.i 63 + 1)).setA 64 (t + 1) k).setA 65 (t + 1) 0
theorem tp_nat {u : RS} {t : Nat} (h : tpI u = t) : (u.i 63).toNatClampNeg = t := by
  show (u.i 63).toInt.toNat = t
  rw [show (u.i 63).toInt = (t : Int) from h]; exact Int.toNat_natCast _
theorem tp_ib {u : RS} {t : Nat} (h : tpI u = t) (h9 : t < 1000) : ib (u.i 63) 1000 := by
  have h : (u.i 63).toInt = (t : Int) := h
  exact ⟨by omega, by omega⟩
theorem tp_add {u : RS} {t : Nat} (h : tpI u = t) (h9 : t < 1000) : (u.i 63 + 1).toInt = (t : Int) + 1 := by
  have h : (u.i 63).toInt = (t : Int) := h
  have e1 : (1 : Int32).toInt = 1 := by decide
  rw [toInt_add] <;> rw [e1] <;> omega
theorem tp_sub {u : RS} {t : Nat} (h : tpI u = t) (h9 : t < 1000) : (u.i 63 - 1).toInt = (t : Int) - 1 := by
  have h : (u.i 63).toInt = (t : Int) := h
  have e1 : (1 : Int32).toInt = 1 := by decide
  rw [toInt_sub] <;> rw [e1] <;> omega
theorem p_th {N : Nat} {u : RS} {t : Nat} (st k : Int32) (h : tpI u = t) (h9 : t < 999) : f_X12_then N u st k = some (TH u t st k) := by
  unfold f_X12_then f_X12_push
  have ha := tp_add h (by omega)
  have en : (u.i 63 + 1).toNatClampNeg = t + 1 := by
    show (u.i 63 + 1).toInt.toNat = t + 1
    rw [ha]; omega
  rw [if_pos (tp_ib h (by omega))]
  show ((if ib (u.i 63 + 1) 1000 then _ else none) : Option RS).bind _ = _
  rw [if_pos ⟨by rw [ha]; omega, by rw [ha]; omega⟩]
  show some ((((u.setA 65 (u.i 63).toNatClampNeg st).setI 63 (u.i 63 + 1)).setA 64 (u.i 63 + 1).toNatClampNeg k).setA 65 (u.i 63 + 1).toNatClampNeg 0) = _
  rw [en, tp_nat h]
  rfl
theorem TH.tbl (u : RS) (t : Nat) (st k : Int32) : TBL u (TH u t st k) := ⟨fun k9 hk => (if_neg (by omega)).trans ((if_neg (by omega)).trans (if_neg (by omega))), rfl, fun j _ _ h _ => if_neg h⟩
theorem TH.tp {u : RS} {t : Nat} {st k : Int32} (h : tpI u = t) (h9 : t < 1000) : tpI (TH u t st k) = ((t + 1 : Nat) : Int) := by
  show (u.i 63 + 1).toInt = _
  rw [tp_add h h9]; omega
theorem TH.fk {u : RS} {t : Nat} {st k : Int32} : (TH u t st k).a 64 (t + 1) = k := if_pos rfl
theorem TH.fs {u : RS} {t : Nat} {st k : Int32} : (TH u t st k).a 65 (t + 1) = 0 := if_pos rfl
theorem TH.st {u : RS} {t : Nat} {st k : Int32} : (TH u t st k).a 65 t = st := by
  show (if t = t + 1 then 0 else if t = t then st else u.a 65 t) = st
  rw [if_neg (by omega), if_pos rfl]
theorem TH.fk0 {u : RS} {t : Nat} {st k : Int32} {j : Nat} (h : j ≤ t) : (TH u t st k).a 64 j = u.a 64 j := by
  show (if j = t + 1 then k else u.a 64 j) = _
  rw [if_neg (by omega)]
theorem TH.loc {u : RS} {t : Nat} {st k : Int32} {k9 : Nat} (h1 : k9 ≠ 64) (h2 : k9 ≠ 65) : (TH u t st k).a k9 = u.a k9 := (if_neg h2).trans ((if_neg h1).trans (if_neg h2))
theorem TH.bel (u : RS) (t : Nat) (st k : Int32) : ∀ k9 : Nat, 64 ≤ k9 → k9 ≤ 73 → bel k9 t u (TH u t st k) := by
  intro k9 _ _ j hj
  show (if k9 = 65 then upd _ (t + 1) 0 else if k9 = 64 then upd _ (t + 1) k else if k9 = 65 then _ else u.a k9) j = u.a k9 j
  by_cases c5 : k9 = 65
  · rw [if_pos c5]; subst c5
    show (if j = t + 1 then 0 else if j = t then st else u.a 65 j) = _
    rw [if_neg (by omega), if_neg (by omega)]
  · rw [if_neg c5]
    by_cases c4 : k9 = 64
    · rw [if_pos c4]; subst c4
      show (if j = t + 1 then k else u.a 64 j) = _
      rw [if_neg (by omega)]
    · rw [if_neg c4, if_neg c5]
theorem KP.th {t0 t : Nat} {s u : RS} {st k : Int32} (h : KP t0 s u) (ht : t0 ≤ t) : KP t0 s (TH u t st k) := h.tbl (TH.tbl u t st k) id (fun k9 k1 k2 j hj => TH.bel u t st k k9 k1 k2 j (by omega))
theorem INV.tbl {u w : RS} (h : INV u) (hw : TBL u w) (hl : LXI w) (h15 : w.i 15 = 0) (h19 : w.i 19 = u.i 19) (h52 : w.i 52 = u.i 52) (h75 : w.i 75 = 0 ∨ w.i 75 = 1) (hf : fr u ≤ fr w) (htk : 0 ≤ tkI w ∧ tkI w ≤ fr w + 1) : INV w := by
  obtain ⟨a1, a2, a3, a4, a5⟩ := h
  have e52 : deI w = deI u := by unfold deI; rw [h52]
  have e19 : op w = op u := by unfold op; rw [h19]
  refine ⟨hl, RB.of (hw.2.2 2 (by omega) (by omega) (by omega) (by omega)) (hw.2.2 3 (by omega) (by omega) (by omega) (by omega)) (hw.1 4 (by omega)) (hw.1 6 (by omega)) (hw.1 7 (by omega)) a2, h15, a4.tbl hw (fun γ hγ => by rw [e52]; exact (a4.2.2.2.2.2.2.1 γ hγ).2) h75, ?_⟩
  obtain ⟨b1, b2, b3, b4, b5, b6, b7, b8, b9, b10, b11, b12⟩ := a5
  unfold NUM
  rw [e19, e52, hw.cd, hw.en, hw.tt, hw.ca, hw.se, hw.sl, hw.go, hw.wa, hw.pe]
  refine ⟨b1, ⟨b2.1, by omega⟩, ⟨b3.1, by omega⟩, ⟨b4.1, by omega⟩, ⟨b5.1, by omega⟩, b6, by omega, ⟨b8.1, by omega⟩, ⟨b9.1, by omega⟩, b10, ⟨b11.1, by omega⟩, htk⟩
theorem INV.th {u : RS} {t : Nat} {st k : Int32} (h : INV u) : INV (TH u t st k) := h.tbl (TH.tbl u t st k) h.1 h.2.2.1 rfl rfl h.2.2.2.1.2.2.2.2.2.2.2.2.2 (Int.le_refl _) h.2.2.2.2.2.2.2.2.2.2.2.2.2.2.2
theorem TE.tbl {s u : RS} {s' u' : RS} (h : TE s u) (hs : TBL s s') (hu : TBL u u') (hd : s'.i 52 = s.i 52) (hf : fr s' = fr s) : TE s' u' := by
  intro f C hA hC h9 o v rs hx
  have hOPN : ∀ k : Nat, OPN u' k → OPN u k := fun k ⟨γ, b, L, x1, x2, x3⟩ => ⟨γ, b, L, by rw [hu.go] at x1; exact x1, by
    rw [hu.hd] at x2
    exact x2.of (fun y _ => ⟨by rw [hu.1 21 (by omega)], by rw [hu.1 22 (by omega)]⟩), x3⟩
  have hA' : AG0 s u f := by
    obtain ⟨a1, a2, a3, a4, a5, a6, a7, a8⟩ := hA
    rw [hu.cd] at a1
    rw [hu.en] at a2
    rw [hu.tt] at a3
    rw [hu.2.2 3 (by omega) (by omega) (by omega) (by omega)] at a4
    rw [hu.cd, hs.cd, hu.1 21 (by omega), hu.1 22 (by omega), hu.1 23 (by omega)] at a5
    rw [hu.en, hs.en, hu.1 26 (by omega), hu.1 27 (by omega), hu.1 28 (by omega)] at a6
    rw [hu.tt, hs.tt, hu.1 30 (by omega), hu.1 31 (by omega), hu.1 32 (by omega)] at a7
    rw [hu.ca, hs.ca, hu.1 35 (by omega), hu.1 36 (by omega), hu.1 37 (by omega)] at a8
    exact ⟨a1, a2, a3, a4, fun k k1 k2 => ⟨(a5 k k1 k2).1, (a5 k k1 k2).2.1, fun q => (a5 k k1 k2).2.2 (fun z => q (hOPN k z))⟩, a6, a7, a8⟩
  have hC' : AGC s u C := by
    intro x x1 x2
    have := hC x (by rw [hs.sl]; exact x1) (by rw [hu.sl]; exact x2)
    rw [this, hs.ca, hu.ca]
    constructor
    · rintro ⟨j, j1, j2, j3⟩; exact ⟨j, j1, j2, by rw [← j3, hu.g (by decide)]⟩
    · rintro ⟨j, j1, j2, j3⟩; exact ⟨j, j1, j2, by rw [← j3, hu.g (by decide)]⟩
  have hde : deI s' = deI s := by unfold deI; rw [hd]
  have hx' : CX s h9 o v rs := by
    obtain ⟨c1, c2, c3, c4, c5, c6, c7, c8⟩ := hx
    rw [hf] at c2 c3 c4 c5 c7
    rw [hde] at c1 c8
    exact ⟨c1, c2, c3, c4, c5, c6, c7, c8⟩
  have := h f C hA' hC' h9 o v rs hx'
  rw [hs.cd]
  refine this.imp (fun g _ hE => ?_)
  obtain ⟨⟨e1, e2⟩, e3⟩ := hE
  rw [hu.cd] at e1 e3
  refine ⟨⟨e1, fun x hx => ?_⟩, e3⟩
  have := e2 x (by rw [hs.se]; exact hx)
  rw [hs.g (by decide), hs.1 41 (by omega)] at this
  exact this
end
section
/-! reading: sums and products -/
theorem AG.mid {t : Nat} {s w s1 u1 f : RS} {C : Nat → Bool} (hA : AG0 s w f) (hC : AGC s w C) (k1 : KP t s s1) (k2 : KP t s1 u1) (k3 : KP t u1 w) (hn : TN u1) (hg : goI w ≤ goI u1) : AG0 s1 u1 f ∧ AGC s1 u1 C := by
  refine ⟨AG0.comp (AG0.kp k3) hA k1.2.1.1 k1.2.2.1.1 k1.2.2.2.1.1 k1.2.2.2.2.1.1 k3.2.2.2.2.1.1 (fun k _ h2 ho => OPN.back k3 hn hg h2 ho), hC.mid k1 k2 k3.2.2.2.2.2.1.2.1 k3.2.2.2.2.1.1 (fun j hj => ?_) (fun j h1 h2 => (k3.2.2.2.2.1.2.2.2.2.2 j h1 h2).1)⟩
  unfold gv
  rw [k3.2.2.2.2.1.2.2.2.1 j hj]
theorem ENB.mid {t : Nat} {s w s1 u1 f : RS} {g : Gh} {v : Nat} {rs : List Rec} (h : ENB s w f g v rs) (k1 : KP t s s1) (he : s1.i 38 = s.i 38) (hc : cdI u1 ≤ cdI w) : ENB s1 u1 f g v rs := by
  obtain ⟨h1, h2⟩ := h
  have e : seI s1 = seI s := by unfold seI; rw [he]
  refine ⟨fun k hk => h1 k (by omega), fun x hx => ?_⟩
  rw [e] at hx
  have := h2 x hx
  unfold gv at this ⊢
  rw [k1.2.2.2.2.2.1.2.2.1 x hx, k1.2.2.2.2.2.1.2.2.2 x hx]
  exact this
theorem CX.up {s s1 : RS} {h o v : Nat} {rs : List Rec} (hc : CX s h o v rs) (h' : Nat) (hd : s1.i 52 = s.i 52) (hf : fr s ≤ fr s1) (h9 : fr s1 ≤ 900) (hh : (h' : Int) ≤ fr s1) : CX s1 h' o v rs := by
  obtain ⟨c1, c2, c3, c4, c5, c6, c7, c8⟩ := hc
  have hde : deI s1 = deI s := by unfold deI; rw [hd]
  exact ⟨by omega, hh, by omega, by omega, by omega, c6, h9, by omega⟩
/-- an instruction of the segment stands in what comes later -/
theorem AG0.cell {s w f : RS} (h : AG0 s w f) {k : Nat} (h1 : cdI s ≤ k) (h2 : (k : Int) < cdI w) {o x : Int32} (e1 : w.a 21 k = o) (e2 : w.a 22 k = x) (ho : ¬ o = 36) : gv f 21 k = o.toInt ∧ gv f 22 k = x.toInt ∧ gv f 23 k = gv w 23 k ∧ (k : Int) < cdI f := by
  obtain ⟨a1, a2, a3, a4, a5, a6, a7, a8⟩ := h
  obtain ⟨b1, b2, b3⟩ := a5 k h1 h2
  refine ⟨by unfold gv; rw [b1, e1], ?_, by unfold gv; rw [b2], by omega⟩
  unfold gv
  rw [b3 (fun ⟨γ, b, L, x1, x2, x3⟩ => ho (by rw [← e1]; exact x2.op k x3)), e2]
/-- two values, then an instruction that makes one of them -/
theorem TE.op {t : Nat} {s u u2 u3 : RS} {o9 x : Int32} (h1 : TE s u) (hk1 : KP t s u) (ht1 : TN u) (hk2 : KP t u u2) (h3 : TE u2 u3) (hk3 : KP t u2 u3) (ht3 : TN u3) (hc2 : cdI u2 = cdI u) (hc3 : cdI u3 < 3000) (hc0 : 0 ≤ cdI s) (hg1 : u.i 43 = u3.i 43) (e38 : u2.i 38 = s.i 38) (d2 : u2.i 52 = s.i 52) (d3 : u3.i 52 = s.i 52) (f2 : fr s + 1 ≤ fr u2) (f3 : fr u2 + 1 ≤ fr u3) (f9 : fr u3 ≤ 900) (ho : o9 = 8 ∨ o9 = 9) : TE s (EM u3 o9 x) := by
  intro f C hA hC h o v rs hx
  have c3p : 0 ≤ cdI u3 := by have := hk1.2.1.1; have := hk3.2.1.1; omega
  have hkw : KP t u3 (EM u3 o9 x) := (KP.rf t u3).em c3p hc3
  have hgw : goI (EM u3 o9 x) = goI u3 := rfl
  have hg : goI u3 = goI u := by unfold goI; rw [hg1]
  have ew := EM.cd (o := o9) (x := x) c3p hc3
  have hku : KP t u (EM u3 o9 x) := (hk2.tr hk3 (Nat.le_refl _)).tr hkw (Nat.le_refl _)
  have hks2 : KP t s u2 := hk1.tr hk2 (Nat.le_refl _)
  obtain ⟨A1, C1⟩ := AG.mid hA hC (KP.rf t s) hk1 hku ht1 (by omega)
  obtain ⟨A2, C2⟩ := AG.mid hA hC hks2 hk3 hkw ht3 (by omega)
  obtain ⟨x1, x2, x3, x4, x5, x6, x7, x8⟩ := id hx
  have c1 := h1 f C A1 C1 h o v rs hx
  have c2 := h3 f C A2 C2 (h + 1) o v rs (hx.up (h + 1) d2 (by omega) (by omega) (by omega))
  have ek : ((cdI u3).toNat : Int) = cdI u3 := Int.toNat_of_nonneg c3p
  have hle : cdI s ≤ cdI u3 := by have := hk1.2.1.1; have := hk3.2.1.1; omega
  obtain ⟨g1, g2, g3, g4⟩ := hA.cell (k := (cdI u3).toNat) (o := o9) (x := x) (by omega) (by omega) (by rw [EM.a21, if_pos rfl]) (by rw [EM.a22, if_pos rfl]) (by rcases ho with rfl | rfl <;> decide)
  have c3 : COD f C (cdI u3).toNat (h + 1 + 1) o v rs (fun g => ENB s (EM u3 o9 x) f g v rs ∧ FL f g v (cdI (EM u3 o9 x)) (cdI (EM u3 o9 x)) (h + 1) o rs) := by
    refine COD.ins (hx.up (h + 1 + 1) d3 (by omega) f9 (by omega)) g4 (fun g _ hE => ?_)
    obtain ⟨⟨e1, e2⟩, e3⟩ := hE
    refine ⟨?_, e1 _ (by omega)⟩
    rw [ew, ← ek] at e3
    have h2' : 2 ≤ Ctx.h (h + 1 + 1, o, v, false, rs) := by show 2 ≤ h + 1 + 1; omega
    rcases ho with rfl | rfl
    · exact okJ_8 (c := (h + 1 + 1, o, v, false, rs)) g1 ⟨h2', e3⟩
    · exact okJ_9 (c := (h + 1 + 1, o, v, false, rs)) g1 ⟨h2', e3⟩
  have c23 := COD.seq (E := fun g => ENB s (EM u3 o9 x) f g v rs ∧ FL f g v (cdI (EM u3 o9 x)) (cdI (EM u3 o9 x)) (h + 1) o rs) c2.cod c3 (fun g _ hE => hE) (fun g _ hE hF => ⟨hE.1.mid hks2 e38 (by omega), by rw [ek] at hF; exact hF⟩)
  refine CODS.seq c1 c23 (fun g _ hE => hE) (fun g _ hE hF => ⟨hE.1.mid (KP.rf t s) rfl (by have := hku.2.1.1; omega), by rw [hc2] at hF; exact hF⟩)
/-- what stands at a frame's later states -/
def PM (t : Nat) (s u : RS) : Prop := INV u ∧ tpI u = t ∧ KP t s u ∧ SAME s u ∧ u.i 38 = s.i 38 ∧ RATE s u ∧ fr s + 1 ≤ fr u ∧ tkI s + 1 ≤ tkI u ∧ (¬ 0 ≤ u.i 18 → TE s u) ∧ JT s u
theorem RATE.rf (s : RS) : RATE s s := by unfold RATE; omega
theorem RATE.tr {s u w : RS} (h1 : RATE s u) (h2 : RATE u w) : RATE s w := by unfold RATE at *; omega
theorem SAME.tr {s u w : RS} (h1 : SAME s u) (h2 : SAME u w) : SAME s w := ⟨h2.1.trans h1.1, h2.2.1.trans h1.2.1, h2.2.2.1.trans h1.2.2.1, h2.2.2.2.trans h1.2.2.2⟩
theorem TBL.rate {u w : RS} (h : TBL u w) (hf : fr u ≤ fr w) (ht : tkI w - tkI u ≤ fr w - fr u) : RATE u w := by
  unfold RATE
  rw [h.cd, h.en, h.tt, h.ca, h.sl, h.pe]
  omega
theorem TBL.i63 (u : RS) (v : Int32) : TBL u (u.setI 63 v) := ⟨fun _ _ => rfl, rfl, fun _ _ _ h _ => if_neg h⟩
theorem INV.i63 {u : RS} (h : INV u) (v : Int32) : INV (u.setI 63 v) := h.tbl (TBL.i63 u v) h.1 h.2.2.1 rfl rfl h.2.2.2.1.2.2.2.2.2.2.2.2.2 (Int.le_refl _) h.2.2.2.2.2.2.2.2.2.2.2.2.2.2.2
/-- the frame is done -/
theorem PM.pop {t : Nat} {s u : RS} (h : PM t s u) (h9 : t < 1000) : PE t s (u.setI 63 (u.i 63 - 1)) := by
  obtain ⟨a1, a2, a3, a4, a5, a6, a7, a8, a9, a10⟩ := h
  exact ⟨a1.i63 _, tp_sub a2 h9, a3.tbl (TBL.i63 u _) id (fun k k1 k2 j hj => rfl), a4, a5, a6.tr ((TBL.i63 u _).rate (Int.le_refl _) (by show tkI u - tkI u ≤ fr u - fr u; omega)), a7, a8, fun h => (a9 h).tbl (TBL.rf s) (TBL.i63 u _) rfl rfl, a10⟩
end
section
/-! reading: calls of frames -/
theorem TBL.sy {u w : RS} (h : TBL u w) : TBL w u := ⟨fun k hk => (h.1 k hk).symm, h.2.1.symm, fun j a b c d => (h.2.2 j a b c d).symm⟩
theorem TBL.loc (u : RS) {k : Nat} (t : Nat) (v : Int32) (h1 : 64 ≤ k) (h2 : k ≤ 73) : TBL u (u.setA k t v) := ⟨fun j hj => if_neg (by omega), rfl, fun _ _ _ _ _ => rfl⟩
theorem INV.loc {u : RS} (h : INV u) {k : Nat} (t : Nat) (v : Int32) (h1 : 64 ≤ k) (h2 : k ≤ 73) : INV (u.setA k t v) := h.tbl (TBL.loc u t v h1 h2) h.1 h.2.2.1 rfl rfl h.2.2.2.1.2.2.2.2.2.2.2.2.2 (Int.le_refl _) h.2.2.2.2.2.2.2.2.2.2.2.2.2.2.2
theorem KP.loc {t : Nat} {s u : RS} (h : KP t s u) {k : Nat} (j : Nat) (v : Int32) (h1 : 64 ≤ k) (h2 : k ≤ 73) (hj : t ≤ j) : KP t s (u.setA k j v) := h.tbl (TBL.loc u j v h1 h2) id (fun k9 k1 k2 i hi => by
  show (if k9 = k then upd (u.a k) j v else u.a k9) i = u.a k9 i
  by_cases c : k9 = k
  · subst c
    rw [if_pos rfl]
    show (if i = j then v else u.a k9 i) = _
    rw [if_neg (by omega)]
  · rw [if_neg c])
theorem NUM.of {t : Nat} {s u : RS} (h : NUM s) (hk : KP t s u) (ho : op s ≤ op u ∧ op u ≤ 20) (e43 : u.i 43 = s.i 43) (e52 : u.i 52 = s.i 52) (e56 : u.i 56 = s.i 56) (e38 : u.i 38 = s.i 38) (hr : RATE s u) (hf : fr s ≤ fr u) (htk : tkI s ≤ tkI u) : NUM u := by
  have g : goI u = goI s := by unfold goI; rw [e43]
  have d : deI u = deI s := by unfold deI; rw [e52]
  have w : waI u = waI s := by unfold waI; rw [e56]
  have e : seI u = seI s := by unfold seI; rw [e38]
  have k2 := hk.2.1.1
  have k3 := hk.2.2.1.1
  have k4 := hk.2.2.2.1.1
  have k5 := hk.2.2.2.2.1.1
  have k6 := hk.2.2.2.2.2.1.2.1
  have k10 := hk.2.2.2.2.2.2.2.2.2.1.1
  unfold RATE at hr
  unfold NUM at h ⊢
  rw [g, d, w, e]
  omega
theorem RB.kp {t : Nat} {s u : RS} (h : RB s) (hk : KP t s u) : RB u := RB.of (hk.1.1.1 2 (by omega)) (hk.1.1.1 3 (by omega)) (hk.1.1.2.1 4 (by omega)) (hk.1.1.2.1 6 (by omega)) (hk.1.1.2.1 7 (by omega)) h
theorem INV.mk2 {t : Nat} {s u : RS} (h : INV s) (hk : KP t s u) (hl : LXI u) (h15 : u.i 15 = 0) (ht : TAB u) (ho : op s ≤ op u ∧ op u ≤ 20) (e43 : u.i 43 = s.i 43) (e52 : u.i 52 = s.i 52) (e56 : u.i 56 = s.i 56) (e38 : u.i 38 = s.i 38) (hr : RATE s u) (hf : fr s ≤ fr u) (htk : tkI s ≤ tkI u) : INV u := ⟨hl, h.2.1.kp hk, h15, ht, h.2.2.2.2.of hk ho e43 e52 e56 e38 hr hf htk⟩
theorem tk_add {u R : RS} (h : R.i 17 = u.i 17 + 1) (h0 : 0 ≤ tkI u ∧ tkI u ≤ 901) : tkI R = tkI u + 1 := by
  unfold tkI at *
  rw [h]
  have e1 : (1 : Int32).toInt = 1 := by decide
  rw [toInt_add] <;> rw [e1] <;> omega
/-- the next token -/
theorem NX {N : Nat} (hN : 1000 ≤ N) {u : RS} (h : INV u) (hz : ¬ u.i 10 = 0) : ∃ R, f_X12_next N u = some R ∧ LX u R ∧ R.i 15 = 0 ∧ R.i 19 = u.i 19 ∧ INV R ∧ fr u + 1 ≤ fr R ∧ tkI R = tkI u + 1 ∧ (410 ≤ u.i 10 ∨ u.i 10 = 5 → fr u + 2 ≤ fr R) := by
  obtain ⟨R, eR, x1, x2, x3, x4⟩ := p_nx hN h.1
  obtain ⟨r15, rc⟩ := x4 h.2.2.1
  obtain ⟨c1, c2, c3⟩ := rc hz
  have n12 := h.2.2.2.2.2.2.2.2.2.2.2.2.2.2.2
  have hf := h.1.f0
  have tk := tk_add c1 ⟨n12.1, by omega⟩
  refine ⟨R, eR, x1, r15, x2, ?_, c2, tk, c3⟩
  exact h.tbl x1.tbl x1.2.2.2.1 r15 x2 (x1.2.2.1 52 (by omega) (by omega)) (by rw [x1.2.2.1 75 (by omega) (by omega)]; exact h.2.2.2.1.2.2.2.2.2.2.2.2.2) (by omega) ⟨by omega, by omega⟩
theorem FS'.of {s u R : RS} (hk : K1 s u) (hx : LX u R) (h15 : ¬ R.i 15 = 0) (h75 : u.i 75 = 0 ∨ u.i 75 = 1) : FS' s R := ⟨h15, ⟨fun j hj => (hx.2.2.1 j (by omega) (by omega)).trans (hk.1 j hj), fun k hk' => by rw [hx.1]; exact hk.2.1 k hk', by rw [hx.2.1]; exact hk.2.2⟩, by rw [hx.2.2.1 75 (by omega) (by omega)]; exact h75⟩
theorem FS'.th {s u : RS} {t : Nat} {st k : Int32} (h : FS' s u) : FS' s (TH u t st k) := ⟨h.1, ⟨fun j hj => (if_neg (by omega)).trans (h.2.1.1 j hj), fun k9 hk => ((TH.tbl u t st k).1 k9 (by omega)).trans (h.2.1.2.1 k9 hk), h.2.1.2.2⟩, h.2.2⟩
theorem FS'.i63 {s u : RS} (h : FS' s u) (v : Int32) : FS' s (u.setI 63 v) := ⟨h.1, ⟨fun j hj => (if_neg (by omega)).trans (h.2.1.1 j hj), h.2.1.2⟩, h.2.2⟩
theorem FS'.kp {t : Nat} {s u w : RS} (hk : KP t s u) (h : FS' u w) : FS' s w := ⟨h.1, hk.1.1.tr h.2.1, h.2.2⟩
theorem FS'.loc {s u : RS} (h : FS' s u) {k : Nat} (t : Nat) (v : Int32) (h1 : 10 ≤ k) (h2 : k ≤ 75) : FS' s (u.setA k t v) := ⟨h.1, ⟨h.2.1.1, fun k9 hk => (if_neg (by omega)).trans (h.2.1.2.1 k9 hk), h.2.1.2.2⟩, h.2.2⟩
theorem FS'.em {s u : RS} (h : FS' s u) (o x : Int32) : FS' s (EM u o x) := ⟨h.1, ⟨fun j hj => (EM.i (by omega)).trans (h.2.1.1 j hj), fun k hk => (EM.a (by omega) (by omega) (by omega)).trans (h.2.1.2.1 k hk), h.2.1.2.2⟩, h.2.2⟩
theorem RATE.em {s v : RS} {o x : Int32} (h : RATE s v) (h0 : 0 ≤ cdI v) (h3 : cdI v < 3000) (hc : cdI v + 1 - cdI s ≤ 3 * (fr v - fr s)) : RATE s (EM v o x) := by
  have e := EM.cd (o := o) (x := x) h0 h3
  have e2 : enI (EM v o x) = enI v := rfl
  have e3 : trI (EM v o x) = trI v := rfl
  have e4 : caI (EM v o x) = caI v := rfl
  have e5 : slI (EM v o x) = slI v := rfl
  have e6 : peI (EM v o x) = peI v := rfl
  have e7 : fr (EM v o x) = fr v := rfl
  have e8 : tkI (EM v o x) = tkI v := rfl
  unfold RATE at *
  rw [e, e2, e3, e4, e5, e6, e7, e8]
  omega
theorem INV.cd {u : RS} (h : INV u) : 0 ≤ cdI u ∧ cdI u ≤ 2700 ∧ cdI u < 3000 := by
  have := h.1.f0
  have := h.2.2.2.2.2.1
  omega
theorem INV.op {u : RS} (h : INV u) : 0 ≤ op u ∧ op u ≤ 20 := h.2.2.2.2.1
theorem INV.tk {u : RS} (h : INV u) : 0 ≤ tkI u ∧ tkI u ≤ fr u + 1 := h.2.2.2.2.2.2.2.2.2.2.2.2.2.2.2
theorem INV.r {u : RS} (h : INV u) : u.i 75 = 0 ∨ u.i 75 = 1 := h.2.2.2.1.2.2.2.2.2.2.2.2.2
theorem INV.tn {u : RS} (h : INV u) : TN u := h.2.2.2.1.1.1
theorem LX.same {u w : RS} (h : LX u w) (h19 : w.i 19 = u.i 19) : SAME u w := ⟨h19, h.2.2.1 43 (by omega) (by omega), h.2.2.1 52 (by omega) (by omega), h.2.2.1 56 (by omega) (by omega)⟩
theorem LX.i38 {u w : RS} (h : LX u w) : w.i 38 = u.i 38 := h.2.2.1 38 (by omega) (by omega)
theorem LX.i63 {u w : RS} (h : LX u w) : w.i 63 = u.i 63 := h.2.2.1 63 (by omega) (by omega)
theorem LX.tp {u w : RS} (h : LX u w) : tpI w = tpI u := by unfold tpI; rw [h.i63]
/-- behind a call from the frame at t -/
def PC (t : Nat) (st : Int32) (u w : RS) : Prop := INV w ∧ tpI w = t ∧ KP t u w ∧ SAME u w ∧ w.i 38 = u.i 38 ∧ RATE u w ∧ fr u + 1 ≤ fr w ∧ tkI u + 1 ≤ tkI w ∧ (¬ 0 ≤ w.i 18 → TE u w) ∧ JT u w ∧ w.a 65 t = st ∧ ∀ k : Nat, 64 ≤ k → k ≤ 73 → k ≠ 65 → w.a k t = u.a k t
theorem CALL {N : Nat} {K : Int32} {r q e : Int} {b : Nat} (hr : RUNE N K r q e b) {n : Nat} {u : RS} {t : Nat} {st : Int32} {P : RS → Prop} (hI : INV u) (ht : tpI u = t) (h9 : t < 999) (hb : 2 * ((t : Int) + 1) ≤ fr u + 12 * op u + 2 * r) (hc : 900 - fr u ≤ b) (hn : 36000 + q ≤ n + 40 * fr u) (hF : ∀ w, FS' u w → P w) (hC : ∀ (m : Nat) (w : RS), PC t st u w → (n : Int) + 40 * fr u + e ≤ m + 40 * fr w → ok (f_X12_parse_10 N m w) P) : ok (f_X12_parse_10 N n (TH u t st K)) P := by
  refine hr n (TH u t st K) (t + 1) P hI.th (TH.tp ht (by omega)) TH.fk TH.fs (by show 2 * (((t + 1 : Nat)) : Int) ≤ fr u + 12 * op u + 2 * r; omega) hc hn (fun w hw => hF w ?_) (fun m w hw hm => hC m w ?_ hm)
  · obtain ⟨a1, a2, a3⟩ := hw
    exact ⟨a1, ⟨fun j hj => (a2.1 j hj).trans (if_neg (by omega)), fun k hk => (a2.2.1 k hk).trans ((TH.tbl u t st K).1 k (by omega)), a2.2.2⟩, a3⟩
  · obtain ⟨a1, a2, a3, a4, a5, a6, a7, a8, a9, a10⟩ := hw
    have kt : KP t u (TH u t st K) := (KP.rf t u).th (Nat.le_refl _)
    have kf := a3.2.2.2.2.2.2.2.2.2.2
    refine ⟨a1, by rw [a2]; omega, kt.tr a3 (by omega), a4, a5, a6, a7, a8, fun z => (a9 z).tbl (TH.tbl u t st K).sy (TBL.rf w) rfl rfl, a10, ?_, fun k k1 k2 k3 => ?_⟩
    · rw [kf 65 (by omega) (by omega) t (by omega)]; exact TH.st
    · rw [kf k k1 k2 t (by omega)]
      by_cases c : k = 64
      · subst c; exact TH.fk0 (Nat.le_refl _)
      · exact congrFun (TH.loc c k3) t
theorem e_sums0 {N : Nat} {u : RS} {t : Nat} (part x : Int32) (ht : tpI u = t) (h9 : t < 999) (h0 : u.a 65 t = 0) : f_X12_sums N u (u.i 63) part x = some (TH u t 1 part) := by
  unfold f_X12_sums
  rw [if_pos (tp_ib ht (by omega)), tp_nat ht, if_pos h0, p_th 1 part ht h9]
  rfl
theorem e_sums1 {N : Nat} {u : RS} {t : Nat} (part x : Int32) (ht : tpI u = t) (h9 : t < 999) (h0 : u.a 65 t = 1) : f_X12_sums N u (u.i 63) part x = f_X12_sums_39 N u (u.i 63) part x := by
  unfold f_X12_sums
  rw [if_pos (tp_ib ht (by omega)), tp_nat ht, if_neg (by rw [h0]; decide), if_neg (by rw [h0]; decide)]
theorem e_sums2 {N : Nat} {u : RS} {t : Nat} (part x : Int32) (ht : tpI u = t) (h9 : t < 999) (h0 : u.a 65 t = 2) (c0 : 0 ≤ cdI u) (c3 : cdI u < 3000) : f_X12_sums N u (u.i 63) part x = f_X12_sums_39 N (EM u 8 (u.a 66 t)) (u.i 63) part x := by
  unfold f_X12_sums
  rw [if_pos (tp_ib ht (by omega)), tp_nat ht, if_neg (by rw [h0]; decide), if_pos h0, p_em 8 _ c0 c3]
  rfl
/-- a value, a sign, a value, an instruction -/
theorem PM.opp {t : Nat} {st o9 x y : Int32} {s w R v : RS} (hI : INV s) (hw : PM t s w) (x1 : LX (w.setA 66 t y) R) (x3 : R.i 19 = w.i 19) (x5 : fr w + 1 ≤ fr R) (x6 : tkI R = tkI w + 1) (hv : PC t st R v) (ho : o9 = 8 ∨ o9 = 9) : PM t s (EM v o9 x) := by
  obtain ⟨a1, a2, a3, a4, a5, a6, a7, a8, a9, a10⟩ := hw
  obtain ⟨v1, v2, v3, v4, v5, v6, v7, v8, v9, v10, v11, v12⟩ := hv
  have kR : KP t w R := ((KP.rf t w).loc (k := 66) t y (by omega) (by omega) (Nat.le_refl _)).lx x1
  have tR2 : TBL w R := (TBL.loc w (k := 66) t y (by omega) (by omega)).tr x1.tbl
  have ksR : KP t s R := a3.tr kR (Nat.le_refl _)
  have sR : SAME w R := ⟨x3, x1.2.2.1 43 (by omega) (by omega), x1.2.2.1 52 (by omega) (by omega), x1.2.2.1 56 (by omega) (by omega)⟩
  have e38R : R.i 38 = s.i 38 := (x1.2.2.1 38 (by omega) (by omega)).trans a5
  have ssv : SAME s v := (a4.tr sR).tr v4
  have cv := v1.cd
  have cs := hI.cd
  have ksv : KP t s v := ksR.tr v3 (Nat.le_refl _)
  have ecd := tR2.cd
  have rsv : RATE s v := (a6.tr (tR2.rate (by omega) (by omega))).tr v6
  have rse : RATE s (EM v o9 x) := rsv.em (by omega) cv.2.2 (by unfold RATE at a6 v6; omega)
  have kse : KP t s (EM v o9 x) := ksv.em (by omega) cv.2.2
  have te : TAB (EM v o9 x) := v1.2.2.2.1.em (by omega) cv.2.2
  have ov : op v = op s := by unfold op; rw [ssv.1]
  have tks : tkI s ≤ tkI v := by omega
  refine ⟨hI.mk2 kse (LXI.em v1.1) v1.2.2.1 te ⟨by show op s ≤ op v; omega, by show op v ≤ 20; have := hI.op; omega⟩ ssv.2.1 ssv.2.2.1 ssv.2.2.2 (v5.trans e38R) rse (by show fr s ≤ fr v; omega) tks, v2, kse, ssv, v5.trans e38R, rse, by show fr s + 1 ≤ fr v; omega, by show tkI s + 1 ≤ tkI v; omega, fun z => ?_, ⟨?_, fun _ z => ?_⟩⟩
  · have z1 : ¬ 0 ≤ v.i 18 := z
    have z2 : ¬ 0 ≤ w.i 18 := fun q => z1 (v3.1.2 (kR.1.2 q))
    exact TE.op (a9 z2) a3 a1.tn kR (v9 z1) v3 v1.tn ecd cv.2.2 cs.1 ((v4.2.1.trans sR.2.1).symm) e38R (sR.2.2.1.trans a4.2.2.1) ssv.2.2.1 (by omega) v7 v1.1.f0.2 ho
  · have b1 : bel 46 (goI w) w R := fun j _ => by rw [x1.1]; rfl
    have g1 : goI w = goI s := by unfold goI; rw [a4.2.1]
    have g2 : goI R = goI w := by unfold goI; rw [sR.2.1]
    exact ((a10.1.tr b1 (by omega)).tr v10.1 (by omega))
  · have z : tkI v = tkI s + 1 := z
    omega
theorem sums_tail {N : Nat} (hN : 1000 ≤ N) {part : Int32} {r qp ep : Int} {b : Nat} (hp : RUNE N part (r + 1) qp ep b) {s w : RS} {t m : Nat} {P : RS → Prop} (h9 : t < 998) (hI : INV s) (hb : 2 * (t : Int) ≤ fr s + 12 * op s + 2 * r) (hc : 900 - fr s ≤ b) (hw : PM t s w) (hm : 36000 + qp ≤ m + 40 * fr w + 40) (hF : ∀ u, FS' s u → P u) (hH : ∀ (m2 : Nat) (v : RS), tpI v = t → v.a 64 t = w.a 64 t → v.a 65 t = 2 → INV v → PM t s (EM v 8 (v.a 66 t)) → fr w < fr v → (m : Int) + 40 * fr w + 40 + ep ≤ m2 + 40 * fr v → ok (f_X12_parse_10 N m2 v) P) (hz : ¬ w.i 10 = 0) : ok ((f_X12_sums_39 N w (w.i 63) part 1).bind fun p => f_X12_parse_10 N m p) P := by
  have hw' := hw
  obtain ⟨a1, a2, a3, a4, a5, a6, a7, a8, a9, a10⟩ := hw'
  unfold f_X12_sums_39
  rw [if_neg (by decide), if_pos (tp_ib a2 (by omega)), tp_nat a2]
  obtain ⟨R, eR, x1, x2, x3, x4, x5, x6, x7⟩ := NX hN (a1.loc (k := 66) t (w.i 10) (by omega) (by omega)) hz
  rw [eR]
  have tR : tpI R = t := x1.tp.trans a2
  show ok (((f_X12_then N R 2 part).bind fun p => some p).bind fun p => f_X12_parse_10 N m p) P
  rw [p_th 2 part tR (by omega)]
  show ok (f_X12_parse_10 N m (TH R t 2 part)) P
  have kR : KP t w R := ((KP.rf t w).loc (k := 66) t (w.i 10) (by omega) (by omega) (Nat.le_refl _)).lx x1
  have x5 : fr w + 1 ≤ fr R := x5
  have x6 : tkI R = tkI w + 1 := x6
  have oR : op R = op s := by unfold op; rw [x3]; exact congrArg _ a4.1
  have ksR : KP t s R := a3.tr kR (Nat.le_refl _)
  refine CALL hp x4 tR (by omega) (by omega) (by omega) (by omega) (fun u hu => hF u (FS'.kp ksR hu)) (fun m2 v hv hm2 => ?_)
  have hv' := hv
  obtain ⟨v1, v2, v3, v4, v5, v6, v7, v8, v9, v10, v11, v12⟩ := hv'
  refine hH m2 v v2 ?_ v11 v1 (PM.opp hI hw x1 x3 x5 x6 hv (Or.inl rfl)) (by omega) (by omega)
  rw [v12 64 (by omega) (by omega) (by omega), x1.1]
  rfl
theorem run_sums {N : Nat} (hN : 1000 ≤ N) {K part : Int32} {r q e qp ep : Int} {b : Nat}
  (lpK : ∀ {m : Nat} {u : RS} {t : Nat} {P : RS → Prop}, tpI u = t → t < 1000 → u.i 15 = 0 → u.a 64 t = K → (¬ u.i 10 = 0 → ok ((f_X12_sums N u (u.i 63) part 1).bind fun p => f_X12_parse_10 N m p) P) → ok ((f_X12_sums N u (u.i 63) part 0).bind fun p => f_X12_parse_10 N m p) P → ok (f_X12_parse_10 N (m + 1) u) P)
  (hp : RUNE N part (r + 1) qp ep b) (hr5 : r ≤ 5) (hq0 : 0 ≤ qp) (hq : qp + 3 ≤ q) (he : e + 3 ≤ ep) (he0 : 0 ≤ e) (he4 : ep ≤ 40) : RUNE N K r q e b := by
  intro n s t P hI ht hK hS hb hc hn hF hC
  have hf := hI.1.f0
  have hop := hI.op
  have h9 : t < 998 := by omega
  have head : ∀ (c m : Nat) (w : RS), (900 - fr w).toNat = c → tpI w = t → w.a 64 t = K → (w.a 65 t = 1 ∧ PM t s w ∨ w.a 65 t = 2 ∧ INV w ∧ PM t s (EM w 8 (w.a 66 t))) → (n : Int) + 40 * fr s + e + 1 ≤ m + 40 * fr w → ok (f_X12_parse_10 N m w) P := by
    intro c
    induction c using Nat.strongRecOn with
    | ind c IH =>
      intro m w hcw tw kw hw hm
      have iw : INV w := by
        rcases hw with hw | hw
        · exact hw.2.1
        · exact hw.2.1
      have fw := iw.1.f0
      obtain ⟨m', rfl⟩ : ∃ m', m = m' + 1 := ⟨m - 1, by omega⟩
      have cw := iw.cd
      have push : ((m' + 1 : Nat) : Int) = (m' : Int) + 1 := by omega
      rw [push] at hm
      rcases hw with ⟨w1, w2⟩ | ⟨w1, w2, w3⟩
      · refine lpK tw (by omega) iw.2.2.1 kw (fun hz => ?_) ?_
        · rw [e_sums1 part 1 tw (by omega) w1]
          refine sums_tail hN hp h9 hI hb hc w2 (by omega) hF (fun m2 v v1 v2 v3 v4 v5 v6 v7 => ?_) hz
          exact IH (900 - fr v).toNat (by have := v4.1.f0; omega) m2 v rfl v1 (v2.trans kw) (Or.inr ⟨v3, v4, v5⟩) (by omega)
        · rw [e_sums1 part 0 tw (by omega) w1]
          unfold f_X12_sums_39
          rw [if_pos rfl]
          exact hC m' _ (w2.pop (by omega)) (by show (n : Int) + 40 * fr s + e ≤ m' + 40 * fr w; omega)
      · refine lpK tw (by omega) iw.2.2.1 kw (fun hz => ?_) ?_
        · rw [e_sums2 part 1 tw (by omega) w1 cw.1 cw.2.2]
          refine sums_tail (w := EM w 8 (w.a 66 t)) hN hp h9 hI hb hc w3 (by show 36000 + qp ≤ m' + 40 * fr w + 40; omega) hF (fun m2 v v1 v2 v3 v4 v5 v6 v7 => ?_) hz
          have v6 : fr w < fr v := v6
          have v7 : (m' : Int) + 40 * fr w + 40 + ep ≤ m2 + 40 * fr v := v7
          exact IH (900 - fr v).toNat (by have := v4.1.f0; omega) m2 v rfl v1 (v2.trans kw) (Or.inr ⟨v3, v4, v5⟩) (by omega)
        · rw [e_sums2 part 0 tw (by omega) w1 cw.1 cw.2.2]
          unfold f_X12_sums_39
          rw [if_pos rfl]
          exact hC m' _ (w3.pop (by omega)) (by show (n : Int) + 40 * fr s + e ≤ m' + 40 * fr w; omega)
  obtain ⟨n', rfl⟩ : ∃ n', n = n' + 1 := ⟨n - 1, by omega⟩
  have push : ((n' + 1 : Nat) : Int) = (n' : Int) + 1 := by omega
  rw [push] at hn head hC
  have go : ∀ x : Int32, ok ((f_X12_sums N s (s.i 63) part x).bind fun p => f_X12_parse_10 N n' p) P := fun x => by
    rw [e_sums0 part x ht (by omega) hS]
    show ok (f_X12_parse_10 N n' (TH s t 1 part)) P
    refine CALL hp hI ht (by omega) (by omega) hc (by omega) hF (fun m w hw hm => ?_)
    obtain ⟨v1, v2, v3, v4, v5, v6, v7, v8, v9, v10, v11, v12⟩ := hw
    exact head _ m w rfl v2 ((v12 64 (by omega) (by omega) (by omega)).trans hK) (Or.inl ⟨v11, v1, v2, v3, v4, v5, v6, v7, v8, v9, v10⟩) (by omega)
  exact lpK ht (by omega) hI.2.2.1 hK (fun _ => go 1) (go 0)
theorem run_term {N : Nat} (hN : 1000 ≤ N) {b : Nat} (hp : RUNE N 18 6 5 30 b) : RUNE N 17 5 8 27 b := by
  refine run_sums hN (fun h1 h2 h3 h4 h5 h6 => lp_17 h1 h2 h3 h4 (fun h => h5 (by rcases h with h | h | h <;> (rw [h]; decide))) h6) hp (by omega) (by omega) (by omega) (by omega) (by omega) (by omega)
theorem run_expr {N : Nat} (hN : 1000 ≤ N) {b : Nat} (hp : RUNE N 17 5 8 27 b) : RUNE N 16 4 11 24 b := by
  refine run_sums hN (fun h1 h2 h3 h4 h5 h6 => lp_16 h1 h2 h3 h4 (fun h => h5 (by rcases h with h | h <;> (rw [h]; decide))) h6) hp (by omega) (by omega) (by omega) (by omega) (by omega) (by omega)
end
section
/-! reading: factors, relations, conditions -/
theorem p_sal {N : Nat} {σ : RS} (x : Int64) : ∀ (n : Nat) (k : Int32), -1 ≤ k.toInt → k.toInt < 460 → k.toInt + 2 ≤ n → ok (f_X12_seenAs_7 N n σ x k) (fun R => R.2 = σ ∧ (¬ 0 ≤ R.1 ∨ 0 ≤ R.1.toInt ∧ R.1.toInt ≤ k.toInt))
  | 0, k, h1, _, h3 => by omega
  | n + 1, k, h1, h2, h3 => by
    show ok (b_X12_seenAs_7 N (f_X12_seenAs_7 N n) σ x k) _
    unfold b_X12_seenAs_7
    refine ok_ite (fun c => ok_some ⟨rfl, Or.inl (show ¬ (0 : Int32) ≤ -1 by decide)⟩) (fun c => ?_)
    have h0 : 0 ≤ k.toInt := by
      have : ¬ k.toInt < (0 : Int32).toInt := fun z => c (Int32.lt_iff_toInt_lt.mpr z)
      rw [z_t0] at this
      omega
    refine ok_chk ⟨h0, by omega⟩ (ok_ite (fun _ => ok_some ⟨rfl, Or.inr ⟨h0, Int.le_refl _⟩⟩) (fun _ => ?_))
    have e1 : (-1 : Int32).toInt = -1 := by decide
    have ek : (k + -1).toInt = k.toInt - 1 := by rw [toInt_add] <;> rw [e1] <;> omega
    refine ok_imp (p_sal x n (k + -1) (by omega) (by omega) (by omega)) (fun R hR => ⟨hR.1, ?_⟩)
    rcases hR.2 with h | h
    · exact Or.inl h
    · exact Or.inr ⟨h.1, by omega⟩
theorem p_sa {N : Nat} (hN : 1000 ≤ N) {σ : RS} (x : Int64) (h0 : 0 ≤ seI σ) (h1 : seI σ ≤ 460) : ok (f_X12_seenAs N σ x) (fun R => R.2 = σ ∧ (¬ 0 ≤ R.1 ∨ 0 ≤ R.1.toInt ∧ R.1.toInt < seI σ)) := by
  have e1 : (1 : Int32).toInt = 1 := by decide
  have h0' : 0 ≤ (σ.i 38).toInt := h0
  have h1' : (σ.i 38).toInt ≤ 460 := h1
  have ek : (σ.i 38 - 1).toInt = (σ.i 38).toInt - 1 := by rw [toInt_sub] <;> rw [e1] <;> omega
  refine ok_imp (p_sal x N (σ.i 38 - 1) (by omega) (by omega) (by omega)) (fun R hR => ⟨hR.1, ?_⟩)
  rcases hR.2 with h | h
  · exact Or.inl h
  · exact Or.inr ⟨h.1, by show R.1.toInt < (σ.i 38).toInt; omega⟩
theorem can1 {N : Nat} {σ : RS} (h15 : σ.i 15 = 0) (h6 : ¬ σ.i 10 = 6) : f_X12_can N σ 1 = some (1, σ) := by
  rw [e_can, if_neg (fun z => z h15), if_neg (by rintro (z | z); exact absurd z (by decide); exact h6 z)]
theorem can0 {N : Nat} {σ : RS} (h : LXI σ) (h15 : σ.i 15 = 0) : ∃ R, f_X12_can N σ 0 = some (0, R) ∧ LX σ R ∧ ¬ R.i 15 = 0 := by
  obtain ⟨R, eR, h1, h2, h3⟩ := p_cn (N := N) h 0
  rcases h3 with ⟨h3, h4⟩ | ⟨h3, h4, h5, h6⟩
  · exact ⟨R.2, by rw [eR, ← h3], h1, h4⟩
  · exact absurd rfl h6
theorem TE.i1 {t : Nat} {s R : RS} {o9 x : Int32} (h0 : 0 ≤ cdI s) (hcd : cdI R = cdI s + 1) (e21 : R.a 21 (cdI s).toNat = o9) (e22 : R.a 22 (cdI s).toNat = x) (ho : ¬ o9 = 36) (hJ : ∀ (f : RS) (g : Gh) (h o v : Nat) (rs : List Rec), gv f 21 (cdI s).toNat = o9.toInt → gv f 22 (cdI s).toNat = x.toInt → (∀ y : Nat, (y : Int) < seI s → (g.isC (gv s 40 y).toNat = true ↔ ¬ s.a 41 y = 0)) → FL f g v (((cdI s).toNat : Int) + 1) (((cdI s).toNat : Int) + 1) (h + 1) o rs → OKI f g (cdI s).toNat (h, o, v, false, rs)) : TE s R := by
  intro f C hA hC h o v rs hx
  have ek : ((cdI s).toNat : Int) = cdI s := Int.toNat_of_nonneg h0
  obtain ⟨g1, g2, g3, g4⟩ := hA.cell (k := (cdI s).toNat) (by omega) (by omega) e21 e22 ho
  have c := CODS.ins (E := fun g => ENB s R f g v rs ∧ FL f g v (cdI R) (cdI R) (h + 1) o rs) (C := C) hx g4 (fun g _ hE => ?_)
  · rw [ek] at c
    exact c
  · obtain ⟨⟨e1, e2⟩, e3⟩ := hE
    rw [hcd, ← ek] at e3
    exact ⟨hJ f g h o v rs g1 g2 e2 e3, e1 _ (by omega)⟩
/-- one instruction, and the next token -/
theorem PM.em1 {N : Nat} (hN : 1000 ≤ N) {s : RS} {t : Nat} {o9 x : Int32} (hI : INV s) (ht : tpI s = t) (hz : ¬ s.i 10 = 0) (hte : ∀ R, cdI R = cdI s + 1 → R.a 21 (cdI s).toNat = o9 → R.a 22 (cdI s).toNat = x → TE s R) (hj : s.i 10 = 432 → o9 = 2 ∧ x = 1) : ∃ R, f_X12_next N (EM s o9 x) = some R ∧ PM t s R := by
  have cs := hI.cd
  obtain ⟨R, eR, x1, x2, x3, x4⟩ := p_nx hN (LXI.em (o := o9) (x := x) hI.1)
  obtain ⟨r15, rc⟩ := x4 hI.2.2.1
  obtain ⟨c1, c2, c3⟩ := rc hz
  have c2 : fr s + 1 ≤ fr R := c2
  have hf := hI.1.f0
  have n12 := hI.tk
  have tk : tkI R = tkI s + 1 := tk_add c1 ⟨n12.1, by omega⟩
  have kR : KP t s R := ((KP.rf t s).em cs.1 cs.2.2).lx x1
  have tR : TAB R := (hI.2.2.2.1.em cs.1 cs.2.2).lx x1
  have e := x1.tbl
  have ecd : cdI R = cdI s + 1 := e.cd.trans (EM.cd cs.1 cs.2.2)
  have a21 : R.a 21 (cdI s).toNat = o9 := by rw [x1.1, EM.a21, if_pos rfl]
  have a22 : R.a 22 (cdI s).toNat = x := by rw [x1.1, EM.a22, if_pos rfl]
  have rt : RATE s R := by
    have e2 : enI R = enI s := e.en
    have e3 : trI R = trI s := e.tt
    have e4 : caI R = caI s := e.ca
    have e5 : slI R = slI s := e.sl
    have e6 : peI R = peI s := e.pe
    unfold RATE
    omega
  have ss : SAME s R := x1.same x2
  have e38 : R.i 38 = s.i 38 := x1.i38
  have oo : op R = op s := by unfold op; rw [ss.1]
  have h20 := hI.op
  refine ⟨R, eR, hI.mk2 kR x1.2.2.2.1 r15 tR ⟨by omega, by omega⟩ ss.2.1 ss.2.2.1 ss.2.2.2 e38 rt (by omega) (by omega), x1.tp.trans ht, kR, ss, e38, rt, c2, by omega, fun _ => hte R ecd a21 a22, ⟨fun j _ => by rw [x1.1]; rfl, fun q _ => ?_⟩⟩
  obtain ⟨j1, j2⟩ := hj q
  exact ⟨ecd, by rw [a21, j1], by rw [a22, j2]⟩
theorem NUM.op1 {s : RS} {v : Int32} (h : NUM s) (hv : v.toInt = op s + 1) (h2 : op s + 1 ≤ 20) : NUM (s.setI 19 v) := by
  have e : op (s.setI 19 v) = op s + 1 := hv
  obtain ⟨b1, b2, b3, b4, b5, b6, b7, b8, b9, b10, b11, b12⟩ := h
  refine ⟨by rw [e]; omega, b2, b3, ?_, b5, b6, b7, b8, ?_, ?_, b11, b12⟩
  · show 0 ≤ trI s ∧ 6 * trI s ≤ fr s + 3 * op (s.setI 19 v)
    rw [e]; omega
  · show 0 ≤ deI s ∧ 4 * deI s ≤ fr s + 2 * op (s.setI 19 v) + 2
    rw [e]; omega
  · show 0 ≤ waI s ∧ waI s ≤ op (s.setI 19 v)
    rw [e]; omega
theorem op_add {s : RS} (h : INV s) : (s.i 19 + 1).toInt = op s + 1 := by
  have e1 : (1 : Int32).toInt = 1 := by decide
  have := h.op
  unfold op at *
  rw [toInt_add] <;> rw [e1] <;> omega
theorem TBL.i19 (u : RS) (v : Int32) : TBL u (u.setI 19 v) := ⟨fun _ _ => rfl, rfl, fun _ _ _ _ _ => if_neg (by omega)⟩
theorem INV.op1 {s : RS} (h : INV s) (h2 : s.i 19 + 1 ≤ 20) : INV (s.setI 19 (s.i 19 + 1)) := by
  have e := op_add h
  have h20 : (20 : Int32).toInt = 20 := by decide
  have h2 := le_int h2
  have t := h.2.2.2.1
  exact ⟨h.1, h.2.1, h.2.2.1, t.tbl (TBL.i19 s _) (fun γ hγ => (t.2.2.2.2.2.2.1 γ hγ).2) h.r, h.2.2.2.2.op1 e (by omega)⟩
/-- a sign that opens, and the next token: where the fault is none -/
theorem OPE {N : Nat} (hN : 1000 ≤ N) {s : RS} {t : Nat} (hI : INV s) (hz : ¬ s.i 10 = 0) (h2 : s.i 19 + 1 ≤ 20) : ∃ R, f_X12_next N (s.setI 19 (s.i 19 + 1)) = some R ∧ INV R ∧ tpI R = tpI s ∧ KP t s R ∧ TBL s R ∧ R.i 19 = s.i 19 + 1 ∧ op R = op s + 1 ∧ R.i 52 = s.i 52 ∧ fr s + 1 ≤ fr R ∧ tkI R = tkI s + 1 ∧ R.a = s.a := by
  have hI1 := hI.op1 h2
  obtain ⟨R, eR, x1, x2, x3, x4, x5, x6, x7⟩ := NX hN hI1 hz
  refine ⟨R, eR, x4, x1.tp, ((KP.rf t s).i19 _).lx x1, (TBL.i19 s _).tr x1.tbl, x3, ?_, x1.2.2.1 52 (by omega) (by omega), x5, x6, x1.1⟩
  unfold op
  rw [x3]
  exact op_add hI
theorem TE.tbl2 {s u : RS} {s' u' : RS} (h : TE s u) (hs : TBL s s') (hu : TBL u u') (hd : s'.i 52 = s.i 52) (hf : fr s' ≤ fr s) (hf9 : fr s ≤ 900) : TE s' u' := by
  intro f C hA hC h9 o v rs hx
  have hOPN : ∀ k : Nat, OPN u' k → OPN u k := fun k ⟨γ, b, L, x1, x2, x3⟩ => ⟨γ, b, L, by rw [hu.go] at x1; exact x1, by
    rw [hu.hd] at x2
    exact x2.of (fun y _ => ⟨by rw [hu.1 21 (by omega)], by rw [hu.1 22 (by omega)]⟩), x3⟩
  have hA' : AG0 s u f := by
    obtain ⟨a1, a2, a3, a4, a5, a6, a7, a8⟩ := hA
    rw [hu.cd] at a1
    rw [hu.en] at a2
    rw [hu.tt] at a3
    rw [hu.2.2 3 (by omega) (by omega) (by omega) (by omega)] at a4
    rw [hu.cd, hs.cd, hu.1 21 (by omega), hu.1 22 (by omega), hu.1 23 (by omega)] at a5
    rw [hu.en, hs.en, hu.1 26 (by omega), hu.1 27 (by omega), hu.1 28 (by omega)] at a6
    rw [hu.tt, hs.tt, hu.1 30 (by omega), hu.1 31 (by omega), hu.1 32 (by omega)] at a7
    rw [hu.ca, hs.ca, hu.1 35 (by omega), hu.1 36 (by omega), hu.1 37 (by omega)] at a8
    exact ⟨a1, a2, a3, a4, fun k k1 k2 => ⟨(a5 k k1 k2).1, (a5 k k1 k2).2.1, fun q => (a5 k k1 k2).2.2 (fun z => q (hOPN k z))⟩, a6, a7, a8⟩
  have hC' : AGC s u C := by
    intro x x1 x2
    have := hC x (by rw [hs.sl]; exact x1) (by rw [hu.sl]; exact x2)
    rw [this, hs.ca, hu.ca]
    constructor
    · rintro ⟨j, j1, j2, j3⟩; exact ⟨j, j1, j2, by rw [← j3, hu.g (by decide)]⟩
    · rintro ⟨j, j1, j2, j3⟩; exact ⟨j, j1, j2, by rw [← j3, hu.g (by decide)]⟩
  have hde : deI s' = deI s := by unfold deI; rw [hd]
  have hx' : CX s h9 o v rs := by
    obtain ⟨c1, c2, c3, c4, c5, c6, c7, c8⟩ := hx
    rw [hde] at c1 c8
    exact ⟨c1, by omega, by omega, by omega, by omega, c6, hf9, c8⟩
  have := h f C hA' hC' h9 o v rs hx'
  rw [hs.cd]
  refine this.imp (fun g _ hE => ?_)
  obtain ⟨⟨e1, e2⟩, e3⟩ := hE
  rw [hu.cd] at e1 e3
  refine ⟨⟨e1, fun x hx => ?_⟩, e3⟩
  have := e2 x (by rw [hs.se]; exact hx)
  rw [hs.g (by decide), hs.1 41 (by omega)] at this
  exact this
/-- a value, then an instruction that changes it -/
theorem TE.una {t : Nat} {s v : RS} {o9 x : Int32} (h : TE s v) (hk : KP t s v) (tn : TN v) (hc3 : cdI v < 3000) (hc0 : 0 ≤ cdI s) (hd : v.i 52 = s.i 52) (hf : fr s + 1 ≤ fr v) (f9 : fr v ≤ 900) (ho : o9 = 7 ∨ o9 = 10) : TE s (EM v o9 x) := by
  intro f C hA hC h' o v' rs hx
  have cv : 0 ≤ cdI v := by have := hk.2.1.1; omega
  have hkw : KP t v (EM v o9 x) := (KP.rf t v).em cv hc3
  have ew := EM.cd (o := o9) (x := x) cv hc3
  obtain ⟨A1, C1⟩ := AG.mid hA hC (KP.rf t s) hk hkw tn (Int.le_refl _)
  have c1 := h f C A1 C1 h' o v' rs hx
  have ek : ((cdI v).toNat : Int) = cdI v := Int.toNat_of_nonneg cv
  have hle := hk.2.1.1
  obtain ⟨g1, g2, g3, g4⟩ := hA.cell (k := (cdI v).toNat) (o := o9) (x := x) (by omega) (by omega) (by rw [EM.a21, if_pos rfl]) (by rw [EM.a22, if_pos rfl]) (by rcases ho with rfl | rfl <;> decide)
  have hx2 := hx.2.1
  have c3 : COD f C (cdI v).toNat (h' + 1) o v' rs (fun g => ENB s (EM v o9 x) f g v' rs ∧ FL f g v' (cdI (EM v o9 x)) (cdI (EM v o9 x)) (h' + 1) o rs) := by
    refine COD.ins (hx.up (h' + 1) hd (by omega) f9 (by omega)) g4 (fun g _ hE => ?_)
    obtain ⟨⟨e1, e2⟩, e3⟩ := hE
    refine ⟨?_, e1 _ (by omega)⟩
    rw [ew, ← ek] at e3
    have h2' : 1 ≤ Ctx.h (h' + 1, o, v', false, rs) := by show 1 ≤ h' + 1; omega
    rcases ho with rfl | rfl
    · exact okJ_7 (c := (h' + 1, o, v', false, rs)) g1 ⟨h2', e3⟩
    · exact okJ_10 (c := (h' + 1, o, v', false, rs)) g1 ⟨h2', e3⟩
  refine CODS.seq c1 c3 (fun g _ hE => hE) (fun g _ hE hF => ⟨hE.1.mid (KP.rf t s) rfl (by omega), by rw [ek] at hF; exact hF⟩)
/-- behind a sign that opened, a part, and what closes it -/
theorem PM.clo {t : Nat} {st : Int32} {s R v w : RS} (hI : INV s) (kR : KP t s R) (tb : TBL s R) (o1 : R.i 19 = s.i 19 + 1) (d : R.i 52 = s.i 52) (fR : fr s + 1 ≤ fr R) (tkR : tkI R = tkI s + 1) (hv : PC t st R v) (kw : KP t v w) (tw : TBL v w) (w15 : w.i 15 = 0) (wl : LXI w) (w52 : w.i 52 = v.i 52) (w75 : w.i 75 = v.i 75) (w63 : w.i 63 = v.i 63) (w19 : w.i 19 = v.i 19 - 1) (wf : fr v ≤ fr w) (wt : tkI v ≤ tkI w ∧ tkI w - tkI v ≤ fr w - fr v) : PM t s w := by
  obtain ⟨v1, v2, v3, v4, v5, v6, v7, v8, v9, v10, v11, v12⟩ := hv
  have ksv : KP t s v := kR.tr v3 (Nat.le_refl _)
  have ksw : KP t s w := ksv.tr kw (Nat.le_refl _)
  have R43 : R.i 43 = s.i 43 := tb.2.2 43 (by omega) (by omega) (by omega) (by omega)
  have R56 : R.i 56 = s.i 56 := tb.2.2 56 (by omega) (by omega) (by omega) (by omega)
  have R38 : R.i 38 = s.i 38 := tb.2.2 38 (by omega) (by omega) (by omega) (by omega)
  have w43 : w.i 43 = v.i 43 := tw.2.2 43 (by omega) (by omega) (by omega) (by omega)
  have w56 : w.i 56 = v.i 56 := tw.2.2 56 (by omega) (by omega) (by omega) (by omega)
  have w38 : w.i 38 = v.i 38 := tw.2.2 38 (by omega) (by omega) (by omega) (by omega)
  have e19 : w.i 19 = s.i 19 := by rw [w19, v4.1, o1, Int32.add_sub_cancel]
  have ss : SAME s w := ⟨e19, w43.trans (v4.2.1.trans R43), w52.trans (v4.2.2.1.trans d), w56.trans (v4.2.2.2.trans R56)⟩
  have e38 : w.i 38 = s.i 38 := w38.trans (v5.trans R38)
  have rt : RATE s w := ((tb.rate (by omega) (by omega)).tr v6).tr (tw.rate wf wt.2)
  have tab : TAB w := v1.2.2.2.1.tbl tw (fun γ hγ => by have e : deI w = deI v := by { unfold deI; rw [w52] }; rw [e]; exact (v1.2.2.2.1.2.2.2.2.2.2.1 γ hγ).2) (by rw [w75]; exact v1.r)
  have h20 := hI.op
  have oo : op w = op s := by unfold op; rw [e19]
  refine ⟨hI.mk2 ksw wl w15 tab ⟨by omega, by omega⟩ ss.2.1 ss.2.2.1 ss.2.2.2 e38 rt (by omega) (by omega), by unfold tpI at *; rw [w63]; exact v2, ksw, ss, e38, rt, by omega, by omega, fun z => ?_, ⟨?_, fun _ q => by omega⟩⟩
  · have z1 : ¬ 0 ≤ v.i 18 := fun q => z (kw.1.2 q)
    exact (v9 z1).tbl2 tb.sy tw d.symm (by omega) (by have := v1.1.f0; omega)
  · have gR := tb.go
    have gv' : goI v = goI R := by unfold goI; rw [v4.2.1]
    exact fun j hj => by rw [tw.1 46 (by omega), v10.1 j (by omega), tb.1 46 (by omega)]
theorem PM.em {t : Nat} {s w : RS} {o x : Int32} (h : PM t s w) (hI : INV s) (hc : cdI w + 1 - cdI s ≤ 3 * (fr w - fr s)) (hte : TE s w → TE s (EM w o x)) (hj : tkI s + 2 ≤ tkI w) : PM t s (EM w o x) := by
  obtain ⟨a1, a2, a3, a4, a5, a6, a7, a8, a9, a10⟩ := h
  have cw := a1.cd
  have cs := hI.cd
  have rt : RATE s (EM w o x) := a6.em cw.1 cw.2.2 hc
  have k : KP t s (EM w o x) := a3.em cs.1 cw.2.2
  have h20 := hI.op
  have oo : op w = op s := by unfold op; rw [a4.1]
  refine ⟨hI.mk2 k (LXI.em a1.1) a1.2.2.1 (a1.2.2.2.1.em cw.1 cw.2.2) ⟨by show op s ≤ op w; omega, by show op w ≤ 20; omega⟩ a4.2.1 a4.2.2.1 a4.2.2.2 a5 rt (by show fr s ≤ fr w; omega) (by show tkI s ≤ tkI w; omega), a2, k, a4, a5, rt, a7, a8, fun z => hte (a9 z), ⟨a10.1, fun _ q => ?_⟩⟩
  have q : tkI w = tkI s + 1 := q
  omega
/-- opens a sign: a fault, or all is well -/
theorem OPO {N : Nat} (hN : 1000 ≤ N) {s : RS} {t : Nat} (hI : INV s) (x : Int32) (hx : ¬ x = 0) : ∃ p, f_X12_open N s x = some p ∧ (¬ p.2.i 15 = 0 ∧ LX s p.2 ∧ p.1 = 0 ∨ p.2.i 15 = 0 ∧ p.1 = 1 ∧ s.i 10 = x ∧ INV p.2 ∧ tpI p.2 = tpI s ∧ KP t s p.2 ∧ TBL s p.2 ∧ p.2.i 19 = s.i 19 + 1 ∧ op p.2 = op s + 1 ∧ p.2.i 52 = s.i 52 ∧ fr s + 1 ≤ fr p.2 ∧ tkI p.2 = tkI s + 1 ∧ p.2.a = s.a ∧ LX s p.2) := by
  obtain ⟨p, ep, h1, h2, h3⟩ := p_op hN hI.1 x hx
  refine ⟨p, ep, ?_⟩
  rcases h2 with ⟨a, b⟩ | ⟨a, b⟩
  · exact Or.inl ⟨b, h1, a⟩
  · obtain ⟨c1, ⟨c2, c3, c4⟩, c5, c6⟩ := h3 b
    have tk := tk_add c2 ⟨hI.tk.1, by have := hI.1.f0; have := hI.tk; omega⟩
    have n := hI.tk
    have hR : INV p.2 := (hI.op1 c6).tbl ((TBL.i19 s _).sy.tr h1.tbl) h1.2.2.2.1 b c5 (h1.2.2.1 52 (by omega) (by omega)) (by rw [h1.2.2.1 75 (by omega) (by omega)]; exact hI.r) (by show fr s ≤ fr p.2; omega) ⟨by omega, by omega⟩
    exact Or.inr ⟨b, a, c1, hR, h1.tp, (KP.rf t s).lx h1, h1.tbl, c5, by unfold op; rw [c5]; exact op_add hI, h1.2.2.1 52 (by omega) (by omega), c3, tk, h1.1, h1⟩
/-- closes a sign -/
theorem SHO {N : Nat} (hN : 1000 ≤ N) {v : RS} (hI : INV v) (x : Int32) (hx : ¬ x = 0) : ∃ p, f_X12_shut N v x = some p ∧ LX v p.2 ∧ (¬ p.2.i 15 = 0 ∨ p.2.i 15 = 0 ∧ v.i 10 = x ∧ p.2.i 19 = v.i 19 - 1 ∧ fr v + 1 ≤ fr p.2 ∧ tkI p.2 = tkI v + 1) := by
  obtain ⟨p, ep, h1, h2, h3⟩ := p_sh hN hI.1 x hx
  refine ⟨p, ep, h1, ?_⟩
  rcases h2 with ⟨a, b⟩ | ⟨a, b⟩
  · exact Or.inl b
  · obtain ⟨c1, ⟨c2, c3, c4⟩, c5⟩ := h3 b
    exact Or.inr ⟨b, c1, c5, c3, tk_add c2 ⟨hI.tk.1, by have := hI.1.f0; have := hI.tk; omega⟩⟩
theorem PE.loc {t : Nat} {s u : RS} {k : Nat} {v : Int32} (h1 : 64 ≤ k) (h2 : k ≤ 73) (h : PE t (s.setA k t v) u) : PE t s u := by
  obtain ⟨a1, a2, a3, a4, a5, a6, a7, a8, a9, a10⟩ := h
  exact ⟨a1, a2, ((KP.rf t s).loc t v h1 h2 (Nat.le_refl _)).tr a3 (Nat.le_refl _), a4, a5, a6, a7, a8, fun z => (a9 z).tbl (TBL.loc s t v h1 h2).sy (TBL.rf u) rfl rfl, ⟨fun j hj => (a10.1 j hj).trans (congrFun (if_neg (by omega)) j), a10.2⟩⟩
def RUNA (N : Nat) (r q e : Int) (b : Nat) : Prop := ∀ (n : Nat) (s : RS) (t : Nat) (P : RS → Prop), INV s → tpI s = t → s.a 64 t = 19 → s.a 65 t = 0 → s.i 10 = 428 → 2 * (t : Int) ≤ fr s + 12 * op s + 2 * r → 900 - fr s ≤ b → 36000 + q ≤ n + 40 * fr s → (∀ u, FS' s u → P u) → (∀ (m : Nat) (u : RS), PE t s u → (n : Int) + 40 * fr s + e ≤ m + 40 * fr u → ok (f_X12_parse_10 N m u) P) → ok (f_X12_parse_10 N n s) P
theorem e_fac {N : Nat} {s : RS} {t : Nat} (hI : INV s) (ht : tpI s = t) (h9 : t < 1000) (h0 : s.a 65 t = 0) (hc : s.i 10 = 1 ∨ s.i 10 = 2 ∨ s.i 10 = 45 ∨ s.i 10 = 40 ∨ s.i 10 = 428) : f_X12_factor N s (s.i 63) = f_X12_factor_124 N s (s.i 63) := by
  have h6 : ¬ s.i 10 = 6 := by rcases hc with h | h | h | h | h <;> (rw [h]; decide)
  have cc : f_X12_can N s 1 = some (1, s) := can1 hI.2.2.1 h6
  unfold f_X12_factor
  rw [if_pos (tp_ib ht h9), tp_nat ht, if_neg (by rw [h0]; decide), if_neg (by rw [h0]; decide)]
  rw [cc]
  have z : (((some ((1 : Int32), s)).bind fun p5 => (if p5.1 = 0 then some p5.2 else f_X12_factor_124 N p5.2 (s.i 63))) : Option RS) = f_X12_factor_124 N s (s.i 63) := by
    show (if (1 : Int32) = 0 then some s else f_X12_factor_124 N s (s.i 63)) = _
    rw [if_neg (by decide)]
  rw [z]
  rcases hc with h | h | h | h | h
  · rw [if_pos h]
  · rw [if_neg (by rw [h]; decide), if_pos h]
  · rw [if_neg (by rw [h]; decide), if_neg (by rw [h]; decide), if_pos h]
  · rw [if_neg (by rw [h]; decide), if_neg (by rw [h]; decide), if_neg (by rw [h]; decide), if_pos h]
  · rw [if_neg (by rw [h]; decide), if_neg (by rw [h]; decide), if_neg (by rw [h]; decide), if_neg (by rw [h]; decide), if_pos h]
theorem e_facF {N : Nat} {s : RS} {t : Nat} (hI : INV s) (ht : tpI s = t) (h9 : t < 1000) (h0 : s.a 65 t = 0) (hc : ¬ (s.i 10 = 1 ∨ s.i 10 = 2 ∨ s.i 10 = 45 ∨ s.i 10 = 40 ∨ s.i 10 = 428)) : ∃ R, f_X12_factor N s (s.i 63) = some R ∧ LX s R ∧ ¬ R.i 15 = 0 := by
  obtain ⟨R, eR, h1, h2⟩ := can0 (N := N) hI.1 hI.2.2.1
  refine ⟨R, ?_, h1, h2⟩
  unfold f_X12_factor
  rw [if_pos (tp_ib ht h9), tp_nat ht, if_neg (by rw [h0]; decide), if_neg (by rw [h0]; decide), if_neg (fun h => hc (Or.inl h)), if_neg (fun h => hc (Or.inr (Or.inl h))), if_neg (fun h => hc (Or.inr (Or.inr (Or.inl h)))), if_neg (fun h => hc (Or.inr (Or.inr (Or.inr (Or.inl h))))), if_neg (fun h => hc (Or.inr (Or.inr (Or.inr (Or.inr h))))), eR]
  rfl
theorem e_fac1 {N : Nat} {v : RS} {t : Nat} (ht : tpI v = t) (h9 : t < 1000) (h0 : v.a 65 t = 1) (c0 : 0 ≤ cdI v) (c3 : cdI v < 3000) : f_X12_factor N v (v.i 63) = some ((EM (v.setI 19 (v.i 19 - 1)) 7 0).setI 63 (v.i 63 - 1)) := by
  unfold f_X12_factor
  rw [if_pos (tp_ib ht h9), tp_nat ht, if_pos h0, p_em (u := v.setI 19 (v.i 19 - 1)) 7 0 c0 c3]
  rfl
theorem e_fac2 {N : Nat} {v : RS} {t : Nat} (ht : tpI v = t) (h9 : t < 1000) (h0 : v.a 65 t = 2) : f_X12_factor N v (v.i 63) = (f_X12_shut N v 41).bind fun p60 => some (RS.setI p60.2 63 ((p60.2.i 63) - 1)) := by
  unfold f_X12_factor
  rw [if_pos (tp_ib ht h9), tp_nat ht, if_neg (by rw [h0]; decide), if_pos h0]
/-- a sign before a part: what is left when the part is read -/
theorem PM.una {t : Nat} {st : Int32} {s R v : RS} {o9 : Int32} (hI : INV s) (kR : KP t s R) (tb : TBL s R) (o1 : R.i 19 = s.i 19 + 1) (d : R.i 52 = s.i 52) (fR : fr s + 1 ≤ fr R) (tkR : tkI R = tkI s + 1) (hv : PC t st R v) (ho : o9 = 7 ∨ o9 = 10) : PM t s (EM (v.setI 19 (v.i 19 - 1)) o9 0) := by
  have hv' := hv
  obtain ⟨v1, v2, v3, v4, v5, v6, v7, v8, v9, v10, v11, v12⟩ := hv'
  have hw : PM t s (v.setI 19 (v.i 19 - 1)) := PM.clo hI kR tb o1 d fR tkR hv ((KP.rf t v).i19 _) (TBL.i19 v _) v1.2.2.1 v1.1 rfl rfl rfl rfl (Int.le_refl _) ⟨Int.le_refl _, by show tkI v - tkI v ≤ fr v - fr v; omega⟩
  have cs := hI.cd
  have cv := v1.cd
  have ec := tb.cd
  refine hw.em hI ?_ (fun te => ?_) (by show tkI s + 2 ≤ tkI v; omega)
  · show cdI v + 1 - cdI s ≤ 3 * (fr v - fr s)
    unfold RATE at v6
    omega
  · exact te.una hw.2.2.1 hw.1.tn cv.2.2 cs.1 hw.2.2.2.1.2.2.1 hw.2.2.2.2.2.2.1 v1.1.f0.2 ho
theorem PM.par {t : Nat} {st : Int32} {s R v w : RS} (hI : INV s) (kR : KP t s R) (tb : TBL s R) (o1 : R.i 19 = s.i 19 + 1) (d : R.i 52 = s.i 52) (fR : fr s + 1 ≤ fr R) (tkR : tkI R = tkI s + 1) (hv : PC t st R v) (hx : LX v w) (w15 : w.i 15 = 0) (w19 : w.i 19 = v.i 19 - 1) (wf : fr v + 1 ≤ fr w) (wt : tkI w = tkI v + 1) : PM t s w :=
  PM.clo hI kR tb o1 d fR tkR hv ((KP.rf t v).lx hx) hx.tbl w15 hx.2.2.2.1 (hx.2.2.1 52 (by omega) (by omega)) (hx.2.2.1 75 (by omega) (by omega)) hx.i63 w19 (by omega) ⟨by omega, by omega⟩
theorem run_factor {N b : Nat} (hN : 1000 ≤ N) (hf' : 1 ≤ b → RUNE N 18 6 5 30 (b - 1)) (hx' : 1 ≤ b → RUNE N 16 4 11 24 (b - 1)) (ha : RUNA N 6 4 31 b) : RUNE N 18 6 5 30 b := by
  intro n s t P hI ht hK hS hb hc hn hF hC
  have hf := hI.1.f0
  have hop := hI.op
  have cs := hI.cd
  have h9 : t < 998 := by omega
  obtain ⟨n', rfl⟩ : ∃ n', n = n' + 1 := ⟨n - 1, by omega⟩
  have push : ((n' + 1 : Nat) : Int) = (n' : Int) + 1 := by omega
  rw [push] at hn hC
  have n1 : 1 ≤ n' := by omega
  refine lp_18 ht (by omega) hI.2.2.1 hK ?_
  have flt : ∀ R, LX s R → ¬ R.i 15 = 0 → FS' s R := fun R h1 h2 => FS'.of (K1.rf s) h1 h2 hI.r
  by_cases hcc : s.i 10 = 1 ∨ s.i 10 = 2 ∨ s.i 10 = 45 ∨ s.i 10 = 40 ∨ s.i 10 = 428
  case neg =>
    obtain ⟨R, eR, h1, h2⟩ := e_facF (N := N) hI ht (by omega) hS hcc
    rw [eR]
    exact lp_f h2 (hF R (flt R h1 h2)) n1
  case pos =>
  rw [e_fac hI ht (by omega) hS hcc]
  unfold f_X12_factor_124
  by_cases c1 : s.i 10 = 1
  · rw [if_pos c1, p_em 2 (s.i 14) cs.1 cs.2.2]
    obtain ⟨R, eR, hR⟩ := PM.em1 (N := N) (o9 := 2) (x := s.i 14) hN hI ht (by rw [c1]; decide) (fun R r1 r2 r3 => TE.i1 (t := t) cs.1 r1 r2 r3 (by decide) (fun f g h o v rs g1 g2 g3 g4 => okJ_2 (c := (h, o, v, false, rs)) g1 g4.fp)) (fun q => by rw [c1] at q; exact absurd q (by decide))
    show ok (((f_X12_next N (EM s 2 (s.i 14))).bind fun p39 => some (RS.setI p39 63 ((p39.i 63) - 1))).bind fun p => f_X12_parse_10 N n' p) P
    rw [eR]
    have := hR.2.2.2.2.2.2.1
    exact hC n' _ (hR.pop (by omega)) (by show (n' : Int) + 1 + 40 * fr s + 30 ≤ n' + 40 * fr R; omega)
  rw [if_neg c1]
  by_cases c2 : s.i 10 = 2
  · rw [if_pos c2]
    have nse := hI.2.2.2.2.2.2.2.2.2.1
    have nsl := hI.2.2.2.2.2.2.2.2.2.2.1
    obtain ⟨⟨p1, p2⟩, ep, e2, e3⟩ := p_sa hN s.l nse.1 (by omega)
    have e2 : p2 = s := e2
    subst e2
    rw [ep]
    show ok ((if 0 ≤ p1 then _ else _ : Option RS).bind fun p => f_X12_parse_10 N n' p) P
    rcases e3 with h | ⟨h1, h2⟩
    · have h : ¬ 0 ≤ p1 := h
      rw [if_neg h]
      obtain ⟨R, eR, r1, r2, r3⟩ := p_fl (N := N) hI.1 3 (p2.i 11) (by decide)
      rw [eR]
      exact lp_f r2 (hF R (flt R r1 r2)) n1
    · have h1 : 0 ≤ p1.toInt := h1
      have h2 : p1.toInt < seI p2 := h2
      rw [if_pos (Int32.le_iff_toInt_le.mpr (by rw [z_t0]; exact h1)), if_pos (show ib p1 460 from ⟨h1, by omega⟩)]
      have ci := clampI h1
      have tb := hI.2.2.2.1.2.2.2.2.1 p1.toNatClampNeg (by rw [ci]; exact h2)
      have hz : ¬ p2.i 10 = 0 := by rw [c2]; decide
      have hso : slotOK (gv p2 40 p1.toNatClampNeg) := ⟨tb.1, by have := tb.2.1; omega⟩
      by_cases c41 : p2.a 41 p1.toNatClampNeg = 0
      · rw [if_pos c41, p_em 3 _ cs.1 cs.2.2]
        obtain ⟨R, eR, hR⟩ := PM.em1 (N := N) (o9 := 3) (x := p2.a 40 p1.toNatClampNeg) hN hI ht hz (fun R r1 r2 r3 => TE.i1 (t := t) cs.1 r1 r2 r3 (by decide) (fun f g h o v rs g1 g2 g3 g4 => okJ_3 (c := (h, o, v, false, rs)) g1 ⟨by rw [g2]; exact hso, g4⟩)) (fun q => by rw [c2] at q; exact absurd q (by decide))
        show ok (((f_X12_next N (EM p2 3 (p2.a 40 p1.toNatClampNeg))).bind fun p39 => some (RS.setI p39 63 ((p39.i 63) - 1))).bind fun p => f_X12_parse_10 N n' p) P
        rw [eR]
        have := hR.2.2.2.2.2.2.1
        exact hC n' _ (hR.pop (by omega)) (by show (n' : Int) + 1 + 40 * fr p2 + 30 ≤ n' + 40 * fr R; omega)
      · rw [if_neg c41, p_em 4 _ cs.1 cs.2.2]
        obtain ⟨R, eR, hR⟩ := PM.em1 (N := N) (o9 := 4) (x := p2.a 40 p1.toNatClampNeg) hN hI ht hz (fun R r1 r2 r3 => TE.i1 (t := t) cs.1 r1 r2 r3 (by decide) (fun f g h o v rs g1 g2 g3 g4 => okJ_4 (c := (h, o, v, false, rs)) g1 ⟨by rw [g2]; exact hso, by rw [g2]; exact (g3 p1.toNatClampNeg (by rw [ci]; exact h2)).mpr c41, g4⟩)) (fun q => by rw [c2] at q; exact absurd q (by decide))
        show ok (((f_X12_next N (EM p2 4 (p2.a 40 p1.toNatClampNeg))).bind fun p39 => some (RS.setI p39 63 ((p39.i 63) - 1))).bind fun p => f_X12_parse_10 N n' p) P
        rw [eR]
        have := hR.2.2.2.2.2.2.1
        exact hC n' _ (hR.pop (by omega)) (by show (n' : Int) + 1 + 40 * fr p2 + 30 ≤ n' + 40 * fr R; omega)
  rw [if_neg c2]
  by_cases c45 : s.i 10 = 45
  · rw [if_pos c45]
    obtain ⟨p, ep, q1, q2, q3⟩ := p_os (N := N) hI.1
    rw [ep]
    show ok ((if p.1 = 0 then _ else _ : Option RS).bind fun p => f_X12_parse_10 N n' p) P
    rcases q2 with ⟨q2, q4⟩ | ⟨q2, q4⟩
    · rw [if_pos q2]
      exact lp_f q4 (hF _ (flt _ q1 q4)) n1
    · rw [if_neg (by rw [q2]; decide)]
      obtain ⟨q5, q6, q7⟩ := q3 q4
      obtain ⟨R, eR, r1, r2, r3, r4, r5, r6, r7, r8, r9, r10⟩ := OPE (t := t) hN hI (by rw [c45]; decide) q6
      rw [q7, eR]
      show ok (((f_X12_then N R 1 18).bind fun p => some p).bind fun p => f_X12_parse_10 N n' p) P
      rw [p_th 1 18 (r2.trans ht) (by omega)]
      show ok (f_X12_parse_10 N n' (TH R t 1 18)) P
      have rf := r1.1.f0
      refine CALL (hf' (by omega)) r1 (r2.trans ht) (by omega) (by omega) (by omega) (by omega) (fun u hu => hF u (FS'.kp r3 hu)) (fun m2 v hv hm2 => ?_)
      have hv' := hv
      obtain ⟨v1, v2, v3, v4, v5, v6, v7, v8, v9, v10, v11, v12⟩ := hv'
      have fv := v1.1.f0
      obtain ⟨m3, rfl⟩ : ∃ m3, m2 = m3 + 1 := ⟨m2 - 1, by omega⟩
      have cv := v1.cd
      refine lp_18 v2 (by omega) v1.2.2.1 (by rw [v12 64 (by omega) (by omega) (by omega), r10]; exact hK) ?_
      rw [e_fac1 v2 (by omega) v11 cv.1 cv.2.2]
      have hw := PM.una (o9 := 7) hI r3 r4 r5 r7 r8 r9 hv (Or.inl rfl)
      exact hC m3 _ (hw.pop (by omega)) (by show (n' : Int) + 1 + 40 * fr s + 30 ≤ m3 + 40 * fr v; omega)
  rw [if_neg c45]
  by_cases c40 : s.i 10 = 40
  · rw [if_pos c40]
    obtain ⟨p, ep, hp⟩ := OPO (t := t) hN hI 40 (by decide)
    rw [ep]
    show ok (((f_X12_then N p.2 2 16).bind fun p => some p).bind fun p => f_X12_parse_10 N n' p) P
    rcases hp with ⟨p1, p2, p3⟩ | ⟨p1, p2, p3, r1, r2, r3, r4, r5, r6, r7, r8, r9, r10, r11⟩
    · rw [p_th 2 16 (p2.tp.trans ht) (by omega)]
      exact lp_f (u := TH p.2 t 2 16) p1 (hF _ (FS'.th (flt _ p2 p1))) n1
    · rw [p_th 2 16 (r2.trans ht) (by omega)]
      show ok (f_X12_parse_10 N n' (TH p.2 t 2 16)) P
      have rf := r1.1.f0
      refine CALL (hx' (by omega)) r1 (r2.trans ht) (by omega) (by omega) (by omega) (by omega) (fun u hu => hF u (FS'.kp r3 hu)) (fun m2 v hv hm2 => ?_)
      have hv' := hv
      obtain ⟨v1, v2, v3, v4, v5, v6, v7, v8, v9, v10, v11, v12⟩ := hv'
      have fv := v1.1.f0
      obtain ⟨m3, rfl⟩ : ∃ m3, m2 = m3 + 1 := ⟨m2 - 1, by omega⟩
      refine lp_18 v2 (by omega) v1.2.2.1 (by rw [v12 64 (by omega) (by omega) (by omega), r10]; exact hK) ?_
      rw [e_fac2 v2 (by omega) v11]
      obtain ⟨w, ew, x1, x2⟩ := SHO hN v1 41 (by decide)
      rw [ew]
      show ok (f_X12_parse_10 N m3 (w.2.setI 63 (w.2.i 63 - 1))) P
      rcases x2 with x2 | ⟨x2, x3, x4, x5, x6⟩
      · exact lp_f (u := w.2.setI 63 (w.2.i 63 - 1)) x2 (hF _ ((FS'.of (r3.tr v3 (Nat.le_refl _)).1.1 x1 x2 v1.r).i63 _)) (by omega)
      · have hw := PM.par hI r3 r4 r5 r7 r8 r9 hv x1 x2 x4 x5 x6
        exact hC m3 _ (hw.pop (by omega)) (by show (n' : Int) + 1 + 40 * fr s + 30 ≤ m3 + 40 * fr w.2; omega)
  rw [if_neg c40, if_pos (tp_ib ht (by omega)), tp_nat ht]
  have c428 : s.i 10 = 428 := by
    rcases hcc with h | h | h | h | h
    · exact absurd h c1
    · exact absurd h c2
    · exact absurd h c45
    · exact absurd h c40
    · exact h
  show ok (f_X12_parse_10 N n' (s.setA 64 t 19)) P
  refine ha n' (s.setA 64 t 19) t P (hI.loc t 19 (by omega) (by omega)) ht (if_pos rfl) hS c428 hb hc (by show 36000 + (4 : Int) ≤ n' + 40 * fr s; omega) (fun u hu => hF u (FS'.kp ((KP.rf t s).loc (k := 64) t 19 (by omega) (by omega) (Nat.le_refl _)) hu)) (fun m u hu hm => ?_)
  exact hC m u (hu.loc (by omega) (by omega)) (by have hm : (n' : Int) + 40 * fr s + 31 ≤ m + 40 * fr u := hm; omega)
end
section
/-! reading: relations, and, or -/
theorem e_one0 {N : Nat} {s : RS} {t : Nat} (ht : tpI s = t) (h9 : t < 1000) (h0 : s.a 65 t = 0) : f_X12_one N s (s.i 63) = (if (s.i 10) = 33 then (f_X12_opens N s).bind fun p20 => (if p20.1 = 0 then some p20.2 else (f_X12_next N p20.2).bind fun p23 => (f_X12_then N p23 1 22).bind fun p25 => some p25) else (if (s.i 10) = 91 then (f_X12_open N s 91).bind fun p16 => (f_X12_then N p16.2 2 20).bind fun p18 => some p18 else (if (s.i 10) = 432 then f_X12_one_112 N s else (if (s.i 10) = 433 then f_X12_one_112 N s else (f_X12_then N s 3 16).bind fun p14 => some p14)))) := by
  unfold f_X12_one
  rw [if_pos (tp_ib ht h9), tp_nat ht, if_pos h0]
theorem e_one1 {N : Nat} {v : RS} {t : Nat} (ht : tpI v = t) (h9 : t < 1000) (h0 : v.a 65 t = 1) (c0 : 0 ≤ cdI v) (c3 : cdI v < 3000) : f_X12_one N v (v.i 63) = some ((EM (v.setI 19 (v.i 19 - 1)) 10 0).setI 63 (v.i 63 - 1)) := by
  unfold f_X12_one
  rw [if_pos (tp_ib ht h9), tp_nat ht, if_neg (by rw [h0]; decide), if_pos h0, p_em (u := v.setI 19 (v.i 19 - 1)) 10 0 c0 c3]
  rfl
theorem e_one2 {N : Nat} {v : RS} {t : Nat} (ht : tpI v = t) (h9 : t < 1000) (h0 : v.a 65 t = 2) : f_X12_one N v (v.i 63) = (f_X12_shut N v 93).bind fun p60 => some (RS.setI p60.2 63 ((p60.2.i 63) - 1)) := by
  unfold f_X12_one
  rw [if_pos (tp_ib ht h9), tp_nat ht, if_neg (by rw [h0]; decide), if_neg (by rw [h0]; decide), if_pos h0]
theorem e_one4 {N : Nat} {v : RS} {t : Nat} (ht : tpI v = t) (h9 : t < 1000) (h0 : v.a 65 t = 4) (c0 : 0 ≤ cdI v) (c3 : cdI v < 3000) : f_X12_one N v (v.i 63) = some ((EM v 9 (v.a 66 t)).setI 63 (v.i 63 - 1)) := by
  unfold f_X12_one
  rw [if_pos (tp_ib ht h9), tp_nat ht, if_neg (by rw [h0]; decide), if_neg (by rw [h0]; decide), if_neg (by rw [h0]; decide), if_neg (by rw [h0]; decide), p_em 9 _ c0 c3]
  rfl
theorem e_one3 {N : Nat} {s : RS} {t : Nat} (hI : INV s) (ht : tpI s = t) (h9 : t < 1000) (h0 : s.a 65 t = 3) : ((¬ s.i 10 = 0 ∧ f_X12_one N s (s.i 63) = f_X12_one_281 N s (s.i 63)) ∨ ∃ R, f_X12_one N s (s.i 63) = some R ∧ LX s R ∧ ¬ R.i 15 = 0) := by
  obtain ⟨R, eR, h1, h2⟩ := can0 (N := N) hI.1 hI.2.2.1
  have z : ∀ (h6 : ¬ s.i 10 = 6), (((f_X12_can N s 1).bind fun p5 => (if p5.1 = 0 then some p5.2 else f_X12_one_281 N p5.2 (s.i 63))) : Option RS) = f_X12_one_281 N s (s.i 63) := fun h6 => by
    rw [can1 hI.2.2.1 h6]
    show (if (1 : Int32) = 0 then some s else f_X12_one_281 N s (s.i 63)) = _
    rw [if_neg (by decide)]
  unfold f_X12_one
  rw [if_pos (tp_ib ht h9), tp_nat ht, if_neg (by rw [h0]; decide), if_neg (by rw [h0]; decide), if_neg (by rw [h0]; decide), if_pos h0]
  by_cases c1 : s.i 10 = 60
  · rw [if_pos c1, z (by rw [c1]; decide)]; exact Or.inl ⟨by rw [c1]; decide, rfl⟩
  rw [if_neg c1]
  by_cases c2 : s.i 10 = 300
  · rw [if_pos c2, z (by rw [c2]; decide)]; exact Or.inl ⟨by rw [c2]; decide, rfl⟩
  rw [if_neg c2]
  by_cases c3 : s.i 10 = 62
  · rw [if_pos c3, z (by rw [c3]; decide)]; exact Or.inl ⟨by rw [c3]; decide, rfl⟩
  rw [if_neg c3]
  by_cases c4 : s.i 10 = 301
  · rw [if_pos c4, z (by rw [c4]; decide)]; exact Or.inl ⟨by rw [c4]; decide, rfl⟩
  rw [if_neg c4]
  by_cases c5 : s.i 10 = 302
  · rw [if_pos c5, z (by rw [c5]; decide)]; exact Or.inl ⟨by rw [c5]; decide, rfl⟩
  rw [if_neg c5]
  by_cases c6 : s.i 10 = 303
  · rw [if_pos c6, z (by rw [c6]; decide)]; exact Or.inl ⟨by rw [c6]; decide, rfl⟩
  rw [if_neg c6, eR]
  exact Or.inr ⟨R, rfl, h1, h2⟩
theorem run_one {N b : Nat} (hN : 1000 ≤ N) (h1' : 1 ≤ b → RUNE N 22 3 14 21 (b - 1)) (hc' : 1 ≤ b → RUNE N 20 1 20 15 (b - 1)) (hx : RUNE N 16 4 11 24 b) : RUNE N 22 3 14 21 b := by
  intro n s t P hI ht hK hS hb hc hn hF hC
  have hf := hI.1.f0
  have hop := hI.op
  have cs := hI.cd
  have h9 : t < 998 := by omega
  obtain ⟨n', rfl⟩ : ∃ n', n = n' + 1 := ⟨n - 1, by omega⟩
  have push : ((n' + 1 : Nat) : Int) = (n' : Int) + 1 := by omega
  rw [push] at hn hC
  have n1 : 1 ≤ n' := by omega
  refine lp_22 ht (by omega) hI.2.2.1 hK ?_
  have flt : ∀ R, LX s R → ¬ R.i 15 = 0 → FS' s R := fun R h1 h2 => FS'.of (K1.rf s) h1 h2 hI.r
  rw [e_one0 ht (by omega) hS]
  by_cases c33 : s.i 10 = 33
  · rw [if_pos c33]
    obtain ⟨p, ep, q1, q2, q3⟩ := p_os (N := N) hI.1
    rw [ep]
    show ok ((if p.1 = 0 then _ else _ : Option RS).bind fun p => f_X12_parse_10 N n' p) P
    rcases q2 with ⟨q2, q4⟩ | ⟨q2, q4⟩
    · rw [if_pos q2]
      exact lp_f q4 (hF _ (flt _ q1 q4)) n1
    · rw [if_neg (by rw [q2]; decide)]
      obtain ⟨q5, q6, q7⟩ := q3 q4
      obtain ⟨R, eR, r1, r2, r3, r4, r5, r6, r7, r8, r9, r10⟩ := OPE (t := t) hN hI (by rw [c33]; decide) q6
      rw [q7, eR]
      show ok (((f_X12_then N R 1 22).bind fun p => some p).bind fun p => f_X12_parse_10 N n' p) P
      rw [p_th 1 22 (r2.trans ht) (by omega)]
      show ok (f_X12_parse_10 N n' (TH R t 1 22)) P
      have rf := r1.1.f0
      refine CALL (h1' (by omega)) r1 (r2.trans ht) (by omega) (by omega) (by omega) (by omega) (fun u hu => hF u (FS'.kp r3 hu)) (fun m2 v hv hm2 => ?_)
      have hv' := hv
      obtain ⟨v1, v2, v3, v4, v5, v6, v7, v8, v9, v10, v11, v12⟩ := hv'
      have fv := v1.1.f0
      obtain ⟨m3, rfl⟩ : ∃ m3, m2 = m3 + 1 := ⟨m2 - 1, by omega⟩
      have cv := v1.cd
      refine lp_22 v2 (by omega) v1.2.2.1 (by rw [v12 64 (by omega) (by omega) (by omega), r10]; exact hK) ?_
      rw [e_one1 v2 (by omega) v11 cv.1 cv.2.2]
      have hw := PM.una (o9 := 10) hI r3 r4 r5 r7 r8 r9 hv (Or.inr rfl)
      exact hC m3 _ (hw.pop (by omega)) (by show (n' : Int) + 1 + 40 * fr s + 21 ≤ m3 + 40 * fr v; omega)
  rw [if_neg c33]
  by_cases c91 : s.i 10 = 91
  · rw [if_pos c91]
    obtain ⟨p, ep, hp⟩ := OPO (t := t) hN hI 91 (by decide)
    rw [ep]
    show ok (((f_X12_then N p.2 2 20).bind fun p => some p).bind fun p => f_X12_parse_10 N n' p) P
    rcases hp with ⟨p1, p2, p3⟩ | ⟨p1, p2, p3, r1, r2, r3, r4, r5, r6, r7, r8, r9, r10, r11⟩
    · rw [p_th 2 20 (p2.tp.trans ht) (by omega)]
      exact lp_f (u := TH p.2 t 2 20) p1 (hF _ (FS'.th (flt _ p2 p1))) n1
    · rw [p_th 2 20 (r2.trans ht) (by omega)]
      show ok (f_X12_parse_10 N n' (TH p.2 t 2 20)) P
      have rf := r1.1.f0
      refine CALL (hc' (by omega)) r1 (r2.trans ht) (by omega) (by omega) (by omega) (by omega) (fun u hu => hF u (FS'.kp r3 hu)) (fun m2 v hv hm2 => ?_)
      have hv' := hv
      obtain ⟨v1, v2, v3, v4, v5, v6, v7, v8, v9, v10, v11, v12⟩ := hv'
      have fv := v1.1.f0
      obtain ⟨m3, rfl⟩ : ∃ m3, m2 = m3 + 1 := ⟨m2 - 1, by omega⟩
      refine lp_22 v2 (by omega) v1.2.2.1 (by rw [v12 64 (by omega) (by omega) (by omega), r10]; exact hK) ?_
      rw [e_one2 v2 (by omega) v11]
      obtain ⟨w, ew, x1, x2⟩ := SHO hN v1 93 (by decide)
      rw [ew]
      show ok (f_X12_parse_10 N m3 (w.2.setI 63 (w.2.i 63 - 1))) P
      rcases x2 with x2 | ⟨x2, x3, x4, x5, x6⟩
      · exact lp_f (u := w.2.setI 63 (w.2.i 63 - 1)) x2 (hF _ ((FS'.of (r3.tr v3 (Nat.le_refl _)).1.1 x1 x2 v1.r).i63 _)) (by omega)
      · have hw := PM.par hI r3 r4 r5 r7 r8 r9 hv x1 x2 x4 x5 x6
        exact hC m3 _ (hw.pop (by omega)) (by show (n' : Int) + 1 + 40 * fr s + 21 ≤ m3 + 40 * fr w.2; omega)
  rw [if_neg c91]
  have lit : ∀ x : Int32, (¬ s.i 10 = 0) → (s.i 10 = 432 → x = 1) → ok (((f_X12_emit N s 2 x).bind fun p => f_X12_one_133 N p.2).bind fun p => f_X12_parse_10 N n' p) P := fun x hz hx => by
    rw [p_em 2 x cs.1 cs.2.2]
    obtain ⟨R, eR, hR⟩ := PM.em1 (N := N) (o9 := 2) (x := x) hN hI ht hz (fun R r1 r2 r3 => TE.i1 (t := t) cs.1 r1 r2 r3 (by decide) (fun f g h o v rs g1 g2 g3 g4 => okJ_2 (c := (h, o, v, false, rs)) g1 g4.fp)) (fun q => ⟨rfl, hx q⟩)
    show ok (((f_X12_next N (EM s 2 x)).bind fun p39 => some (RS.setI p39 63 ((p39.i 63) - 1))).bind fun p => f_X12_parse_10 N n' p) P
    rw [eR]
    have := hR.2.2.2.2.2.2.1
    exact hC n' _ (hR.pop (by omega)) (by show (n' : Int) + 1 + 40 * fr s + 21 ≤ n' + 40 * fr R; omega)
  by_cases c432 : s.i 10 = 432
  · rw [if_pos c432]
    unfold f_X12_one_112
    rw [if_pos c432]
    exact lit 1 (by rw [c432]; decide) (fun _ => rfl)
  rw [if_neg c432]
  by_cases c433 : s.i 10 = 433
  · rw [if_pos c433]
    unfold f_X12_one_112
    rw [if_neg c432]
    exact lit 0 (by rw [c433]; decide) (fun q => absurd q c432)
  rw [if_neg c433, p_th 3 16 ht (by omega)]
  show ok (f_X12_parse_10 N n' (TH s t 3 16)) P
  refine CALL hx hI ht (by omega) (by omega) hc (by omega) hF (fun m2 w hw hm2 => ?_)
  obtain ⟨w1, w2, w3, w4, w5, w6, w7, w8, w9, w10, w11, w12⟩ := hw
  have fw := w1.1.f0
  obtain ⟨m3, rfl⟩ : ∃ m3, m2 = m3 + 1 := ⟨m2 - 1, by omega⟩
  have push2 : ((m3 + 1 : Nat) : Int) = (m3 : Int) + 1 := by omega
  rw [push2] at hm2
  have hpm : PM t s w := ⟨w1, w2, w3, w4, w5, w6, w7, w8, w9, w10⟩
  have kw : w.a 64 t = 22 := (w12 64 (by omega) (by omega) (by omega)).trans hK
  refine lp_22 w2 (by omega) w1.2.2.1 kw ?_
  rcases e_one3 (N := N) w1 w2 (by omega) w11 with ⟨hz, e⟩ | ⟨R, eR, h1, h2⟩
  case inr =>
    rw [eR]
    exact lp_f h2 (hF R (FS'.of w3.1.1 h1 h2 w1.r)) (by omega)
  rw [e]
  unfold f_X12_one_281
  rw [if_pos (tp_ib w2 (by omega)), tp_nat w2]
  obtain ⟨R, eR, x1, x2, x3, x4, x5, x6, x7⟩ := NX hN (w1.loc (k := 66) t (w.i 10) (by omega) (by omega)) hz
  rw [eR]
  have tR : tpI R = t := x1.tp.trans w2
  show ok (((f_X12_then N R 4 16).bind fun p => some p).bind fun p => f_X12_parse_10 N m3 p) P
  rw [p_th 4 16 tR (by omega)]
  show ok (f_X12_parse_10 N m3 (TH R t 4 16)) P
  have kR : KP t w R := ((KP.rf t w).loc (k := 66) t (w.i 10) (by omega) (by omega) (Nat.le_refl _)).lx x1
  have x5 : fr w + 1 ≤ fr R := x5
  have x6 : tkI R = tkI w + 1 := x6
  have oR : op R = op s := by unfold op; rw [x3]; exact congrArg _ w4.1
  have ksR : KP t s R := w3.tr kR (Nat.le_refl _)
  refine CALL hx x4 tR (by omega) (by omega) (by omega) (by omega) (fun u hu => hF u (FS'.kp ksR hu)) (fun m4 v hv hm4 => ?_)
  have hv' := hv
  obtain ⟨v1, v2, v3, v4, v5, v6, v7, v8, v9, v10, v11, v12⟩ := hv'
  have fv := v1.1.f0
  obtain ⟨m5, rfl⟩ : ∃ m5, m4 = m5 + 1 := ⟨m4 - 1, by omega⟩
  have cv := v1.cd
  refine lp_22 v2 (by omega) v1.2.2.1 (by rw [v12 64 (by omega) (by omega) (by omega), x1.1]; exact kw) ?_
  rw [e_one4 v2 (by omega) v11 cv.1 cv.2.2]
  have hq := PM.opp (x := v.a 66 t) hI hpm x1 x3 x5 x6 hv (Or.inr rfl)
  exact hC m5 _ (hq.pop (by omega)) (by show (n' : Int) + 1 + 40 * fr s + 21 ≤ m5 + 40 * fr v; omega)
/-- a place that is filled: what lies behind it -/
theorem AG.hole {t : Nat} {s s1 v f : RS} {C : Nat → Bool} {k : Nat} {x : Int32} (hA : AG0 s (v.setA 22 k x) f) (hC : AGC s (v.setA 22 k x) C) (k1 : KP t s s1) (k2 : KP t s1 v) (hk : (k : Int) < cdI s1) (ho : ¬ v.a 21 k = 36) : AG0 s1 v f ∧ AGC s1 v C := by
  have a22 : ∀ j : Nat, j ≠ k → (v.setA 22 k x).a 22 j = v.a 22 j := fun j hj => if_neg hj
  have hO : ∀ j : Nat, OPN (v.setA 22 k x) j → OPN v j := fun j ⟨γ, b, L, x1, x2, x3⟩ => ⟨γ, b, L, x1, by
    have e : hd (v.setA 22 k x) b γ = hd v b γ := by cases b <;> rfl
    rw [e] at x2
    refine x2.of (fun y hy => ⟨rfl, (a22 y (fun e => ho ?_)).symm⟩)
    rw [← e]
    exact x2.op y hy, x3⟩
  have h1 : AG0 s1 v (v.setA 22 k x) := ⟨Int.le_refl _, Int.le_refl _, Int.le_refl _, Int.le_refl _, fun j j1 j2 => ⟨rfl, rfl, fun _ => a22 j (by omega)⟩, fun _ _ _ => ⟨rfl, rfl, rfl⟩, fun _ _ _ => ⟨rfl, rfl, rfl⟩, fun _ _ _ => ⟨rfl, rfl, rfl⟩⟩
  exact ⟨AG0.comp h1 hA k1.2.1.1 k1.2.2.1.1 k1.2.2.2.1.1 k1.2.2.2.2.1.1 (Int.le_refl _) (fun j _ _ z => hO j z), hC.mid k1 k2 (Int.le_refl _) (Int.le_refl _) (fun _ _ => rfl) (fun j h1 h2 => by have h2 : (j : Int) < caI v := h2; omega)⟩
/-- a value that may be kept; else another -/
theorem TE.keep {t : Nat} {s w w2 v : RS} {o9 x9 : Int32} {k : Nat} (h1 : TE s w) (hk1 : KP t s w) (tn1 : TN w) (hk2 : KP t w w2) (ek : (k : Int) = cdI w) (e2 : cdI w2 = cdI w + 1) (h3 : TE w2 v) (hk3 : KP t w2 v) (tn3 : TN v) (e21 : v.a 21 k = o9) (ho : o9 = 11 ∨ o9 = 12) (hx9 : x9.toInt = cdI v) (hg : v.i 43 = w.i 43) (e38 : w2.i 38 = s.i 38) (d1 : w.i 52 = s.i 52) (d2 : w2.i 52 = s.i 52) (f1 : fr s + 1 ≤ fr w) (f2 : fr w ≤ fr w2) (f9 : fr w2 ≤ 900) (hc0 : 0 ≤ cdI s) : TE s (v.setA 22 k x9) := by
  intro f C hA hC h o lv rs hx
  have no : ¬ v.a 21 k = 36 := by rw [e21]; rcases ho with rfl | rfl <;> decide
  have hkw : KP t w (v.setA 22 k x9) := (hk2.tr hk3 (Nat.le_refl _)).hole (by omega) no
  have hks2 : KP t s w2 := hk1.tr hk2 (Nat.le_refl _)
  have gw : goI (v.setA 22 k x9) = goI w := by show goI v = goI w; unfold goI; rw [hg]
  obtain ⟨A1, C1⟩ := AG.mid hA hC (KP.rf t s) hk1 hkw tn1 (by omega)
  obtain ⟨A2, C2⟩ := AG.hole hA hC hks2 hk3 (by omega) no
  have cv := hk3.2.1.1
  have cw := hk1.2.1.1
  have c1 := h1 f C A1 C1 h o lv rs hx
  obtain ⟨x1, x2, x3, x4, x5, x6, x7, x8⟩ := id hx
  have c2 := h3 f C A2 C2 h o lv rs (hx.up h d2 (by omega) f9 (by omega))
  have cf : cdI (v.setA 22 k x9) = cdI v := rfl
  obtain ⟨g1, g2, g3, g4⟩ := hA.cell (k := k) (o := o9) (x := x9) (by omega) (by omega) e21 (if_pos rfl) (by rcases ho with rfl | rfl <;> decide)
  have c3 : COD f C k (h + 1) o lv rs (fun g => ENB s (v.setA 22 k x9) f g lv rs ∧ FL f g lv (cdI v) (cdI v) (h + 1) o rs ∧ FL f g lv (cdI w2) (cdI w2) h o rs) := by
    refine COD.ins (hx.up (h + 1) d1 (by omega) (by omega) (by omega)) g4 (fun g _ hE => ?_)
    obtain ⟨⟨e1, e2'⟩, e3, e4⟩ := hE
    refine ⟨?_, e1 _ (by omega)⟩
    rw [e2, ← ek] at e4
    have h2' : 1 ≤ Ctx.h (h + 1, o, lv, false, rs) := by show 1 ≤ h + 1; omega
    have e3' : FL f g lv ((k : Int) + 1) (gv f 22 k) (h + 1) o rs := by
      rw [g2, hx9]
      exact e3.mono (Nat.le_refl _) (by omega)
    rcases ho with rfl | rfl
    · exact okJ_11 (c := (h + 1, o, lv, false, rs)) g1 ⟨h2', e3', e4⟩
    · exact okJ_12 (c := (h + 1, o, lv, false, rs)) g1 ⟨h2', e3', e4⟩
  have c23 := COD.seq (E := fun g => ENB s (v.setA 22 k x9) f g lv rs ∧ FL f g lv (cdI v) (cdI v) (h + 1) o rs) c3 c2.cod (fun g _ hE => ⟨hE.1.mid hks2 e38 (by omega), hE.2⟩) (fun g _ hE hF => ⟨hE.1, hE.2, hF⟩)
  exact CODS.seq c1 c23 (fun g _ hE => hE) (fun g _ hE hF => ⟨hE.1.mid (KP.rf t s) rfl (by omega), by rw [ek] at hF; exact hF⟩)
theorem e_both0 {N : Nat} {u : RS} {t : Nat} (part sg stp : Int32) (ht : tpI u = t) (h9 : t < 999) (h0 : u.a 65 t = 0) : f_X12_both N u (u.i 63) part sg stp = some (TH u t 1 part) := by
  unfold f_X12_both
  rw [if_pos (tp_ib ht (by omega)), tp_nat ht, if_pos h0, p_th 1 part ht h9]
  rfl
theorem e_both1 {N : Nat} {u : RS} {t : Nat} (part sg stp : Int32) (ht : tpI u = t) (h9 : t < 999) (h0 : u.a 65 t = 1) : f_X12_both N u (u.i 63) part sg stp = f_X12_both_41 N u (u.i 63) part sg stp := by
  unfold f_X12_both
  rw [if_pos (tp_ib ht (by omega)), tp_nat ht, if_neg (by rw [h0]; decide), if_neg (by rw [h0]; decide)]
theorem e_both2 {N : Nat} {u : RS} {t k : Nat} (part sg stp : Int32) (ht : tpI u = t) (h9 : t < 999) (h0 : u.a 65 t = 2) (hk : (u.a 66 t).toInt = k) (k3 : k < 3000) : f_X12_both N u (u.i 63) part sg stp = f_X12_both_41 N (u.setA 22 k (u.i 20)) (u.i 63) part sg stp := by
  have en : (u.a 66 t).toNatClampNeg = k := by
    show (u.a 66 t).toInt.toNat = k
    rw [hk]; exact Int.toNat_natCast _
  unfold f_X12_both
  rw [if_pos (tp_ib ht (by omega)), tp_nat ht, if_neg (by rw [h0]; decide), if_pos h0, if_pos (show ib (u.a 66 t) 3000 from ⟨by omega, by omega⟩), en]
theorem PM.keep {t : Nat} {s w R v : RS} {o9 : Int32} (hI : INV s) (hw : PM t s w) (x1 : LX w R) (x2 : R.i 15 = 0) (x3 : R.i 19 = w.i 19) (x4 : INV R) (x5 : fr w + 1 ≤ fr R) (x6 : tkI R = tkI w + 1) (hv : PC t 2 ((EM R o9 0).setA 66 t (R.i 20)) v) (ho : o9 = 11 ∨ o9 = 12) : PM t s (v.setA 22 (cdI R).toNat (v.i 20)) := by
  obtain ⟨a1, a2, a3, a4, a5, a6, a7, a8, a9, a10⟩ := hw
  obtain ⟨v1, v2, v3, v4, v5, v6, v7, v8, v9, v10, v11, v12⟩ := hv
  have cR := x4.cd
  have cs := hI.cd
  have cv := v1.cd
  have ecd := x1.tbl.cd
  have eem := EM.cd (u := R) (o := o9) (x := 0) cR.1 cR.2.2
  have cw2 : cdI ((EM R o9 0).setA 66 t (R.i 20)) = cdI R + 1 := eem
  have ek : ((cdI R).toNat : Int) = cdI w := by rw [Int.toNat_of_nonneg cR.1]; exact ecd
  have kwR : KP t w R := (KP.rf t w).lx x1
  have kw2 : KP t w ((EM R o9 0).setA 66 t (R.i 20)) := (kwR.em a1.cd.1 cR.2.2).loc t _ (by omega) (by omega) (Nat.le_refl _)
  have kc := v3.2.1
  have e21 : v.a 21 (cdI R).toNat = o9 := by
    rw [kc.2.1 (cdI R).toNat (by omega)]
    show (EM R o9 0).a 21 (cdI R).toNat = o9
    rw [EM.a21, if_pos rfl]
  have no : ¬ v.a 21 (cdI R).toNat = 36 := by rw [e21]; rcases ho with rfl | rfl <;> decide
  have ksw2 := a3.tr kw2 (Nat.le_refl _)
  have ksv : KP t s v := ksw2.tr v3 (Nat.le_refl _)
  have cws := a3.2.1.1
  have ksf : KP t s (v.setA 22 (cdI R).toNat (v.i 20)) := ksv.hole (by omega) no
  have sR : SAME w R := x1.same x3
  have ssv : SAME s v := (a4.tr sR).tr v4
  have e38 : v.i 38 = s.i 38 := v5.trans (x1.i38.trans a5)
  have rsv : RATE s v := by
    have r1 := (a6.tr (x1.tbl.rate (by omega) (by omega)))
    have e2 : enI ((EM R o9 0).setA 66 t (R.i 20)) = enI R := rfl
    have e3 : trI ((EM R o9 0).setA 66 t (R.i 20)) = trI R := rfl
    have e4 : caI ((EM R o9 0).setA 66 t (R.i 20)) = caI R := rfl
    have e5 : slI ((EM R o9 0).setA 66 t (R.i 20)) = slI R := rfl
    have e6 : peI ((EM R o9 0).setA 66 t (R.i 20)) = peI R := rfl
    have e7 : fr ((EM R o9 0).setA 66 t (R.i 20)) = fr R := rfl
    have e8 : tkI ((EM R o9 0).setA 66 t (R.i 20)) = tkI R := rfl
    unfold RATE at *
    rw [cw2, e2, e3, e4, e5, e6, e7, e8] at v6
    omega
  have v7 : fr R + 1 ≤ fr v := v7
  have v8 : tkI R + 1 ≤ tkI v := v8
  have h20 := hI.op
  have oo : op v = op s := by unfold op; rw [ssv.1]
  refine ⟨hI.mk2 ksf v1.1 v1.2.2.1 (v1.2.2.2.1.hole no) ⟨by show op s ≤ op v; omega, by show op v ≤ 20; omega⟩ ssv.2.1 ssv.2.2.1 ssv.2.2.2 e38 rsv (by show fr s ≤ fr v; omega) (by show tkI s ≤ tkI v; omega), v2, ksf, ssv, e38, rsv, by show fr s + 1 ≤ fr v; omega, by show tkI s + 1 ≤ tkI v; omega, fun z => ?_, ⟨?_, fun _ z => ?_⟩⟩
  · have z1 : ¬ 0 ≤ v.i 18 := z
    have z2 : ¬ 0 ≤ w.i 18 := fun q => z1 (v3.1.2 (kw2.1.2 q))
    exact TE.keep (a9 z2) a3 a1.tn kw2 ek (by omega) (v9 z1) v3 v1.tn e21 ho rfl (v4.2.1.trans sR.2.1) (x1.i38.trans a5) a4.2.2.1 (sR.2.2.1.trans a4.2.2.1) a7 (by show fr w ≤ fr R; omega) x4.1.f0.2 cs.1
  · have b1 : bel 46 (goI w) w ((EM R o9 0).setA 66 t (R.i 20)) := fun j _ => by
      show R.a 46 j = w.a 46 j
      rw [x1.1]
    have g1 : goI w = goI s := by unfold goI; rw [a4.2.1]
    have g2 : goI ((EM R o9 0).setA 66 t (R.i 20)) = goI w := by show goI R = goI w; unfold goI; rw [sR.2.1]
    exact ((a10.1.tr b1 (by omega)).tr v10.1 (by omega))
  · have z : tkI v = tkI s + 1 := z
    omega
theorem both_tail {N : Nat} (hN : 1000 ≤ N) {part sg o9 : Int32} {r qp ep : Int} {b : Nat} (hs0 : ¬ sg = 0) (ho : o9 = 11 ∨ o9 = 12) (hp : RUNE N part (r + 1) qp ep b) {s w : RS} {t m : Nat} {P : RS → Prop} (h9 : t < 998) (hI : INV s) (hb : 2 * (t : Int) ≤ fr s + 12 * op s + 2 * r) (hc : 900 - fr s ≤ b) (hw : PM t s w) (hm : 36000 + qp ≤ m + 40 * fr w + 40) (hF : ∀ u, FS' s u → P u) (hC : ok (f_X12_parse_10 N m (w.setI 63 (w.i 63 - 1))) P) (hH : ∀ (m2 k : Nat) (v : RS), tpI v = t → v.a 64 t = w.a 64 t → v.a 65 t = 2 → INV v → (v.a 66 t).toInt = k → k < 3000 → PM t s (v.setA 22 k (v.i 20)) → fr w < fr v → (m : Int) + 40 * fr w + 40 + ep ≤ m2 + 40 * fr v → ok (f_X12_parse_10 N m2 v) P) : ok ((f_X12_both_41 N w (w.i 63) part sg o9).bind fun p => f_X12_parse_10 N m p) P := by
  have hw' := hw
  obtain ⟨a1, a2, a3, a4, a5, a6, a7, a8, a9, a10⟩ := hw'
  unfold f_X12_both_41
  by_cases ct : w.i 10 = sg
  case neg =>
    rw [if_neg ct]
    exact hC
  rw [if_pos ct, tp_nat a2]
  obtain ⟨R, eR, x1, x2, x3, x4, x5, x6, x7⟩ := NX hN a1 (by rw [ct]; exact hs0)
  rw [eR]
  have cR := x4.cd
  show ok (((f_X12_emit N R o9 0).bind fun p7 => if ib (w.i 63) 1000 then (f_X12_then N (RS.setA p7.2 66 t p7.1) 2 part).bind fun p10 => some p10 else none).bind fun p => f_X12_parse_10 N m p) P
  rw [p_em o9 0 cR.1 cR.2.2]
  show ok ((if ib (w.i 63) 1000 then (f_X12_then N ((EM R o9 0).setA 66 t (R.i 20)) 2 part).bind fun p10 => some p10 else none : Option RS).bind fun p => f_X12_parse_10 N m p) P
  rw [if_pos (tp_ib a2 (by omega))]
  show ok (((f_X12_then N ((EM R o9 0).setA 66 t (R.i 20)) 2 part).bind fun p10 => some p10).bind fun p => f_X12_parse_10 N m p) P
  have tR : tpI ((EM R o9 0).setA 66 t (R.i 20)) = t := x1.tp.trans a2
  rw [p_th 2 part tR (by omega)]
  show ok (f_X12_parse_10 N m (TH ((EM R o9 0).setA 66 t (R.i 20)) t 2 part)) P
  have kR : KP t w R := (KP.rf t w).lx x1
  have oR : op R = op s := by unfold op; rw [x3]; exact congrArg _ a4.1
  have ksR : KP t s R := a3.tr kR (Nat.le_refl _)
  have cs := hI.cd
  have ks2 : KP t s ((EM R o9 0).setA 66 t (R.i 20)) := (ksR.em cs.1 cR.2.2).loc t _ (by omega) (by omega) (Nat.le_refl _)
  have sR : SAME w R := x1.same x3
  have ss : SAME s R := a4.tr sR
  have rR : RATE s R := a6.tr (x1.tbl.rate (by omega) (by omega))
  have ecd := x1.tbl.cd
  have rE : RATE s (EM R o9 0) := rR.em cR.1 cR.2.2 (by unfold RATE at a6; omega)
  have h20 := hI.op
  have i2 : INV (EM R o9 0) := hI.mk2 (ksR.em cs.1 cR.2.2) (LXI.em x4.1) x2 (x4.2.2.2.1.em cR.1 cR.2.2) ⟨by show op s ≤ op R; omega, by show op R ≤ 20; omega⟩ ss.2.1 ss.2.2.1 ss.2.2.2 (x1.i38.trans a5) rE (by show fr s ≤ fr R; omega) (by show tkI s ≤ tkI R; omega)
  refine CALL hp (i2.loc t (R.i 20) (by omega) (by omega)) tR (by omega) (by show 2 * ((t : Int) + 1) ≤ fr R + 12 * op R + 2 * (r + 1); omega) (by show 900 - fr R ≤ b; omega) (by show 36000 + qp ≤ m + 40 * fr R; omega) (fun u hu => hF u (FS'.kp ks2 hu)) (fun m2 v hv hm2 => ?_)
  have hm2 : (m : Int) + 40 * fr R + ep ≤ m2 + 40 * fr v := hm2
  have hq := PM.keep hI hw x1 x2 x3 x4 x5 x6 hv ho
  obtain ⟨v1, v2, v3, v4, v5, v6, v7, v8, v9, v10, v11, v12⟩ := hv
  have v7 : fr R + 1 ≤ fr v := v7
  refine hH m2 (cdI R).toNat v v2 ?_ v11 v1 ?_ (by omega) hq (by omega) (by omega)
  · rw [v12 64 (by omega) (by omega) (by omega)]
    show (EM R o9 0).a 64 t = w.a 64 t
    rw [EM.a (by omega) (by omega) (by omega), x1.1]
  · rw [v12 66 (by omega) (by omega) (by omega)]
    show (if t = t then R.i 20 else (EM R o9 0).a 66 t).toInt = _
    rw [if_pos rfl, Int.toNat_of_nonneg cR.1]
    rfl
theorem run_both {N : Nat} (hN : 1000 ≤ N) {K part sg o9 : Int32} {r q e qp ep : Int} {b : Nat} (hs0 : ¬ sg = 0) (ho : o9 = 11 ∨ o9 = 12)
  (lpK : ∀ {m : Nat} {u : RS} {t : Nat} {P : RS → Prop}, tpI u = t → t < 1000 → u.i 15 = 0 → u.a 64 t = K → ok ((f_X12_both N u (u.i 63) part sg o9).bind fun p => f_X12_parse_10 N m p) P → ok (f_X12_parse_10 N (m + 1) u) P)
  (hp : RUNE N part (r + 1) qp ep b) (hr5 : r ≤ 5) (hq0 : 0 ≤ qp) (hq : qp + 3 ≤ q) (he : e + 3 ≤ ep) (he0 : 0 ≤ e) (he4 : ep ≤ 40) : RUNE N K r q e b := by
  intro n s t P hI ht hK hS hb hc hn hF hC
  have hf := hI.1.f0
  have hop := hI.op
  have h9 : t < 998 := by omega
  have head : ∀ (c m : Nat) (w : RS), (900 - fr w).toNat = c → tpI w = t → w.a 64 t = K → (w.a 65 t = 1 ∧ PM t s w ∨ w.a 65 t = 2 ∧ INV w ∧ ∃ k : Nat, (w.a 66 t).toInt = k ∧ k < 3000 ∧ PM t s (w.setA 22 k (w.i 20))) → (n : Int) + 40 * fr s + e + 1 ≤ m + 40 * fr w → ok (f_X12_parse_10 N m w) P := by
    intro c
    induction c using Nat.strongRecOn with
    | ind c IH =>
      intro m w hcw tw kw hw hm
      have iw : INV w := by
        rcases hw with hw | hw
        · exact hw.2.1
        · exact hw.2.1
      have fw := iw.1.f0
      obtain ⟨m', rfl⟩ : ∃ m', m = m' + 1 := ⟨m - 1, by omega⟩
      have cw := iw.cd
      have push : ((m' + 1 : Nat) : Int) = (m' : Int) + 1 := by omega
      rw [push] at hm
      refine lpK tw (by omega) iw.2.2.1 kw ?_
      rcases hw with ⟨w1, w2⟩ | ⟨w1, w2, k, k1, k2, w3⟩
      · rw [e_both1 part sg o9 tw (by omega) w1]
        refine both_tail hN hs0 ho hp h9 hI hb hc w2 (by omega) hF (hC m' _ (w2.pop (by omega)) (by show (n : Int) + 40 * fr s + e ≤ m' + 40 * fr w; omega)) (fun m2 k v v1 v2 v3 v4 v5 v6 v7 v8 v9 => ?_)
        exact IH (900 - fr v).toNat (by have := v4.1.f0; omega) m2 v rfl v1 (v2.trans kw) (Or.inr ⟨v3, v4, k, v5, v6, v7⟩) (by omega)
      · rw [e_both2 part sg o9 tw (by omega) w1 k1 k2]
        refine both_tail (w := w.setA 22 k (w.i 20)) hN hs0 ho hp h9 hI hb hc w3 (by show 36000 + qp ≤ m' + 40 * fr w + 40; omega) hF (hC m' _ (w3.pop (by omega)) (by show (n : Int) + 40 * fr s + e ≤ m' + 40 * fr w; omega)) (fun m2 k v v1 v2 v3 v4 v5 v6 v7 v8 v9 => ?_)
        have v8 : fr w < fr v := v8
        have v9 : (m' : Int) + 40 * fr w + 40 + ep ≤ m2 + 40 * fr v := v9
        exact IH (900 - fr v).toNat (by have := v4.1.f0; omega) m2 v rfl v1 (v2.trans kw) (Or.inr ⟨v3, v4, k, v5, v6, v7⟩) (by omega)
  obtain ⟨n', rfl⟩ : ∃ n', n = n' + 1 := ⟨n - 1, by omega⟩
  have push : ((n' + 1 : Nat) : Int) = (n' : Int) + 1 := by omega
  rw [push] at hn head hC
  refine lpK ht (by omega) hI.2.2.1 hK ?_
  rw [e_both0 part sg o9 ht (by omega) hS]
  show ok (f_X12_parse_10 N n' (TH s t 1 part)) P
  refine CALL hp hI ht (by omega) (by omega) hc (by omega) hF (fun m w hw hm => ?_)
  obtain ⟨v1, v2, v3, v4, v5, v6, v7, v8, v9, v10, v11, v12⟩ := hw
  exact head _ m w rfl v2 ((v12 64 (by omega) (by omega) (by omega)).trans hK) (Or.inl ⟨v11, v1, v2, v3, v4, v5, v6, v7, v8, v9, v10⟩) (by omega)
theorem run_ands {N : Nat} (hN : 1000 ≤ N) {b : Nat} (hp : RUNE N 22 3 14 21 b) : RUNE N 21 2 17 18 b :=
  run_both hN (by decide) (Or.inr rfl) (fun h1 h2 h3 h4 h5 => lp_21 h1 h2 h3 h4 h5) hp (by omega) (by omega) (by omega) (by omega) (by omega) (by omega)
theorem run_cond {N : Nat} (hN : 1000 ≤ N) {b : Nat} (hp : RUNE N 21 2 17 18 b) : RUNE N 20 1 20 15 b :=
  run_both hN (by decide) (Or.inl rfl) (fun h1 h2 h3 h4 h5 => lp_20 h1 h2 h3 h4 h5) hp (by omega) (by omega) (by omega) (by omega) (by omega) (by omega)
end
