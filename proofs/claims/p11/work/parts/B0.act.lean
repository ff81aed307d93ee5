theorem act_put {N : Nat} {s σ τ : RS} {g : Gh} {k v h o : Nat} {rs : List Rec} {x : Int32} (hB : RB s) (hb : BS s σ τ g) (hs : ST s τ g h o rs) (hh : h ≤ 1300) (hpc : (τ.i 92).toInt = (k : Int) + 1) (hf : FL s g v ((k : Int) + 1) ((k : Int) + 1) (h + 1) o rs) : ok ((f_X12_put N τ x).bind fun p => some p) (fun R => ACT s σ R g k v) := by
  have s1 := hs.1
  refine ok_bind (p_put N τ x (by rw [s1]; omega) (by rw [s1]; omega)) (fun p hp => ok_some ?_)
  obtain ⟨r1, r2, r3, r4, r5⟩ := hp
  exact act_FL hB (hb.put r1 r3 r4) hf (by rw [r3 92 (by decide)]; exact hpc) (hs.put (by rw [r2, s1]; rfl) r3 r4)
theorem act_take {N : Nat} {s σ τ : RS} {g : Gh} {h o : Nat} {rs : List Rec} (hb : BS s σ τ g) (hs : ST s τ g h o rs) (h1 : 1 ≤ h) (hh : h ≤ 1301) : ok (f_X12_take N τ) (fun p => BS s σ p.2 g ∧ ST s p.2 g (h - 1) o rs ∧ (∀ j : Nat, j ≠ 93 → p.2.i j = τ.i j) ∧ p.2.a = τ.a ∧ p.1 = τ.a 94 (h - 1)) := by
  have s1 := hs.1
  refine ok_imp (p_take N τ (by rw [s1]; omega) (by rw [s1]; omega)) (fun p hp => ?_)
  obtain ⟨r1, r2, r3, r4, r5⟩ := hp
  refine ⟨hb.put r1 r3 (fun k _ => by rw [r4]), hs.put (by rw [r2, s1]; omega) r3 (fun k _ => by rw [r4]), r3, r4, ?_⟩
  rw [r5, s1]
  congr 1
  omega
theorem BS.store {s σ τ : RS} {g : Gh} {x : Nat} {v : Int32} (hb : BS s σ τ g) (hx : g.isC x = false) : BS s σ (τ.setA 84 x v) g := by
  obtain ⟨b1, b2, b3, b4⟩ := hb
  obtain ⟨E1, E2, E3, E4, E5, E6, E7⟩ := b2
  refine ⟨b1.tr (RX.a _ _ _ _ (by decide)), ⟨E1, fun y h2 h3 => ?_, E3, E4, E5, E6, E7⟩, b3, b4⟩
  have e : (τ.setA 84 x v).a 84 = upd (τ.a 84) x v := rfl
  rw [gv_upd e]
  by_cases w : y = x
  · rw [w, hx] at h3; cases h3
  · rw [if_neg w]; exact E2 y h2 h3
theorem p_compute {N : Nat} {σ : RS} {x y z : Int32} (h : x = 37 ∨ x = 47 → ¬ z = 0) : ok (f_X12_compute N σ x y z) (fun R => R.2 = σ) := by
  unfold f_X12_compute
  refine ok_ite (fun c => ok_chn (h (Or.inl c)) (ok_some rfl)) (fun _ => ok_ite (fun _ => ok_some rfl) (fun _ => ok_ite (fun _ => ok_some rfl) (fun _ => ok_ite (fun _ => ok_some rfl) (fun _ => ok_ite (fun c => ok_chn (h (Or.inr c)) (ok_some rfl)) (fun _ => ?_)))))
  repeat' (first | exact ok_some rfl | refine ok_ite (fun _ => ?_) (fun _ => ?_))
theorem act_229 {N : Nat} {s σ τ : RS} {g : Gh} {k v h o : Nat} {rs : List Rec} {x y z : Int32} (hB : RB s) (hb : BS s σ τ g) (hs : ST s τ g h o rs) (hh : h ≤ 1300) (hpc : (τ.i 92).toInt = (k : Int) + 1) (hf : FL s g v ((k : Int) + 1) ((k : Int) + 1) (h + 1) o rs) (hz : x = 37 ∨ x = 47 → ¬ y = 0) : ok (f_X12_act_229 N τ x y z) (fun R => ACT s σ R g k v) := by
  unfold f_X12_act_229
  refine ok_bind (p_compute hz) (fun p hp => ?_)
  rw [hp]
  exact act_put hB hb hs hh hpc hf
theorem act_212 {N : Nat} (hN : 1000 ≤ N) {s σ τ τ' : RS} {g : Gh} {k h : Nat} {c : Ctx} {x1 x y z : Int32} (hp : PRE s σ τ' g k c x1) (hb : BS s σ τ g) (hs : ST s τ g h c.o c.rs) (hh : h ≤ 1300) (hpc : (τ.i 92).toInt = (k : Int) + 1) (hf : FL s g c.v ((k : Int) + 1) ((k : Int) + 1) (h + 1) c.o c.rs) : ok (f_X12_act_212 N τ x y z) (fun R => ACT s σ R g k c.v) := by
  unfold f_X12_act_212
  have hB : RB s := hp.2.1
  refine ok_ite (fun e => hp.raise hN hb hs ?_) (fun e => act_229 hB hb hs hh hpc hf (fun _ => e))
  have h3 := le_int hB.2.1.1
  have e2 : (2 : Int32).toInt = 2 := by decide
  have e4 : (4 : Int32).toInt = 4 := by decide
  omega
theorem p_a1 {N : Nat} (hN : 1000 ≤ N) {s σ τ : RS} {g : Gh} {k : Nat} {c : Ctx} {x1 : Int32} (hp : PRE s σ τ g k c x1) (hm : gv s 21 k = 1) : ok (f_X12_act N τ x1) (fun R => ACT s σ R g k c.v) := by
  obtain ⟨k1, k2, k3, k4, k5, k6, k7, k8, k9⟩ := hp.fact
  have hq := okI_1 k1 hm
  have hp0 := hp
  obtain ⟨hW, hB, hk, hT, hb, hs, hpc, hx1, hone⟩ := hp
  have hs0 := hs
  obtain ⟨s1, s2, s3, s4, s5, s6⟩ := hs
  have hx2 : (τ.a 22 x1.toNatClampNeg).toInt = gv s 22 k := hp0.g 22 (by decide)
  unfold f_X12_act
  refine ok_chk hp0.inb (ok_pos (hp0.eq hm (by decide)) ?_)
  have hD := hb.2.1
  refine ok_bind (p_step N τ hD.2.2.2.2.1.1 hD.2.2.2.2.1.2) (fun p hp9 => ok_some ?_)
  obtain ⟨a1, a2, a3⟩ := hp9
  have hXR : RX s p := hb.1.tr a1
  have hRD : 0 ≤ p.i 80 ∧ p.i 80 ≤ 1000 → (∀ j : Nat, j ≠ 80 → j ≠ 92 → j ≠ 115 → p.i j = τ.i j) → RD p g := by
    intro g80 gi
    obtain ⟨E1, E2, E3, E4, E5, E6, E7⟩ := hD
    refine ⟨fun j h2 h3 => ?_, fun y h2 h3 => ?_, ?_, ?_, g80, fun t h2 => ?_, fun t h2 => ?_⟩
    · rw [gv_of (congrFun a2 96)]; rw [gi 95 (by decide) (by decide) (by decide)] at h3; exact E1 j h2 h3
    · rw [gv_of (congrFun a2 84)]; exact E2 y h2 h3
    · rw [gi 81 (by decide) (by decide) (by decide)]; exact E3
    · rw [gi 85 (by decide) (by decide) (by decide)]; exact E4
    · rw [gv_of (congrFun a2 88)]; exact E6 t h2
    · rw [gv_of (congrFun a2 86), gi 3 (by decide) (by decide) (by decide)]; exact E7 t h2
  rcases a3 with ⟨b1, b2, b3, b4⟩ | ⟨b1, b2, b3, b4⟩
  · refine ⟨hXR, hXR.B hB, hRD (by rw [b2]; exact hD.2.2.2.2.1) (fun j _ d2 d3 => b4 j d2 d3), Or.inl ⟨b2.trans hb.2.2.1, Or.inl ?_⟩, Or.inr ⟨by rw [b1]; decide, fun z => ?_⟩⟩
    · rw [b1]; decide
    · rw [b3] at z; exact absurd z (by decide)
  · refine ⟨hXR, hXR.B hB, hRD ⟨b2, b3⟩ (fun j d1 _ _ => b4 j d1), Or.inr ⟨?_, ?_⟩, Or.inl ?_⟩
    · rw [b1, hb.2.2.1]
    · exact out_FS hq (by rw [b4 92 (by decide)]; exact hpc) (hs0.of (by rw [b4 93 (by decide)]; exact s1) (b4 97 (by decide)) (b4 95 (by decide)) (b4 99 (by decide)) (fun k9 _ _ => congrFun a2 k9))
    · rw [b4 115 (by decide)]; exact hb.2.2.2
theorem p_a2 {N : Nat} (hN : 1000 ≤ N) {s σ τ : RS} {g : Gh} {k : Nat} {c : Ctx} {x1 : Int32} (hp : PRE s σ τ g k c x1) (hm : gv s 21 k = 2) : ok (f_X12_act N τ x1) (fun R => ACT s σ R g k c.v) := by
  obtain ⟨k1, k2, k3, k4, k5, k6, k7, k8, k9⟩ := hp.fact
  have hq := okI_2 k1 hm
  have hp0 := hp
  obtain ⟨hW, hB, hk, hT, hb, hs, hpc, hx1, hone⟩ := hp
  have hs0 := hs
  obtain ⟨s1, s2, s3, s4, s5, s6⟩ := hs
  have hx2 : (τ.a 22 x1.toNatClampNeg).toInt = gv s 22 k := hp0.g 22 (by decide)
  unfold f_X12_act
  refine ok_chk hp0.inb (ok_neg (hp0.ne hm (z := 1) (by decide) (by decide)) (ok_pos (hp0.eq hm (by decide)) ?_))
  refine ok_bind (p_put N τ _ (by rw [s1]; omega) (by rw [s1]; omega)) (fun p hp => ok_some ?_)
  obtain ⟨r1, r2, r3, r4, r5⟩ := hp
  have hbp := hb.put r1 r3 r4
  have hsp : ST s p g (c.h + 1) c.o c.rs := hs0.put (by rw [r2, s1]; rfl) r3 r4
  obtain ⟨f1, f2⟩ := hq
  have h92 : (p.i 92).toInt = (k : Int) + 1 := by rw [r3 92 (by decide)]; exact hpc
  refine ⟨hbp.1, hbp.1.B hB, hbp.2.1, Or.inl ⟨hbp.2.2.1, ?_⟩, Or.inl hbp.2.2.2⟩
  by_cases hc : (k : Int) + 1 < cdI s
  · obtain ⟨c', d1, d2, d3, d4, d5, d6⟩ := f2 hc
    obtain ⟨a1, a2, a3, a4, a5, a6⟩ := hsp
    refine Or.inr (Or.inr ⟨c', by omega, by rw [h92]; exact d1, ⟨by rw [d2]; exact a1, by rw [d5]; exact a2, a3, by omega, by rw [d5]; exact a5, by rw [d5]; exact a6, fun q => ?_⟩, Or.inr ⟨d6, by omega⟩⟩)
    have en : (τ.i 93).toNatClampNeg = c.h := by
      show (τ.i 93).toInt.toNat = c.h
      rw [s1]; exact Int.toNat_natCast _
    rw [en] at r5
    rw [d2, gv_upd r5, if_pos (by omega), hx2]
    exact d4 q
  · exact Or.inr (Or.inl (by rw [h92]; omega))
theorem p_a3 {N : Nat} (hN : 1000 ≤ N) {s σ τ : RS} {g : Gh} {k : Nat} {c : Ctx} {x1 : Int32} (hp : PRE s σ τ g k c x1) (hm : gv s 21 k = 3) : ok (f_X12_act N τ x1) (fun R => ACT s σ R g k c.v) := by
  obtain ⟨k1, k2, k3, k4, k5, k6, k7, k8, k9⟩ := hp.fact
  have hq := okI_3 k1 hm
  have hp0 := hp
  obtain ⟨hW, hB, hk, hT, hb, hs, hpc, hx1, hone⟩ := hp
  have hs0 := hs
  obtain ⟨s1, s2, s3, s4, s5, s6⟩ := hs
  have hx2 : (τ.a 22 x1.toNatClampNeg).toInt = gv s 22 k := hp0.g 22 (by decide)
  unfold f_X12_act
  refine ok_chk hp0.inb (ok_neg (hp0.ne hm (z := 1) (by decide) (by decide)) (ok_neg (hp0.ne hm (z := 2) (by decide) (by decide)) (ok_pos (hp0.eq hm (by decide)) ?_)))
  refine ok_chk ⟨by rw [hx2]; exact hq.1.1, by rw [hx2]; exact hq.1.2⟩ ?_
  exact act_put hB hb hs0 k3 hpc hq.2
theorem p_a4 {N : Nat} (hN : 1000 ≤ N) {s σ τ : RS} {g : Gh} {k : Nat} {c : Ctx} {x1 : Int32} (hp : PRE s σ τ g k c x1) (hm : gv s 21 k = 4) : ok (f_X12_act N τ x1) (fun R => ACT s σ R g k c.v) := by
  obtain ⟨k1, k2, k3, k4, k5, k6, k7, k8, k9⟩ := hp.fact
  have hq := okI_4 k1 hm
  have hp0 := hp
  obtain ⟨hW, hB, hk, hT, hb, hs, hpc, hx1, hone⟩ := hp
  have hs0 := hs
  obtain ⟨s1, s2, s3, s4, s5, s6⟩ := hs
  have hx2 : (τ.a 22 x1.toNatClampNeg).toInt = gv s 22 k := hp0.g 22 (by decide)
  unfold f_X12_act
  refine ok_chk hp0.inb (ok_neg (hp0.ne hm (z := 1) (by decide) (by decide)) (ok_neg (hp0.ne hm (z := 2) (by decide) (by decide)) (ok_neg (hp0.ne hm (z := 3) (by decide) (by decide)) (ok_pos (hp0.eq hm (by decide)) ?_))))
  refine ok_chk ⟨by rw [hx2]; exact hq.1.1, by rw [hx2]; exact hq.1.2⟩ ?_
  have e22 : (τ.a 22 x1.toNatClampNeg).toNatClampNeg = (gv s 22 k).toNat := by
    show (τ.a 22 x1.toNatClampNeg).toInt.toNat = _
    rw [hx2]
  have hr := hb.2.1.2.1 (gv s 22 k).toNat (by have h1 := hq.1.1; have h2 := hq.1.2; change 0 ≤ gv s 22 k at h1; change gv s 22 k < 460 at h2; omega) hq.2.1
  rw [e22]
  refine ok_chk ⟨hr.1, hr.2⟩ ?_
  exact act_put hB hb hs0 k3 hpc hq.2.2
theorem p_a5 {N : Nat} (hN : 1000 ≤ N) {s σ τ : RS} {g : Gh} {k : Nat} {c : Ctx} {x1 : Int32} (hp : PRE s σ τ g k c x1) (hm : gv s 21 k = 5) : ok (f_X12_act N τ x1) (fun R => ACT s σ R g k c.v) := by
  obtain ⟨k1, k2, k3, k4, k5, k6, k7, k8, k9⟩ := hp.fact
  have hq := okI_5 k1 hm
  have hp0 := hp
  obtain ⟨hW, hB, hk, hT, hb, hs, hpc, hx1, hone⟩ := hp
  have hs0 := hs
  obtain ⟨s1, s2, s3, s4, s5, s6⟩ := hs
  have hx2 : (τ.a 22 x1.toNatClampNeg).toInt = gv s 22 k := hp0.g 22 (by decide)
  unfold f_X12_act
  refine ok_chk hp0.inb (ok_neg (hp0.ne hm (z := 1) (by decide) (by decide)) (ok_neg (hp0.ne hm (z := 2) (by decide) (by decide)) (ok_neg (hp0.ne hm (z := 3) (by decide) (by decide)) (ok_neg (hp0.ne hm (z := 4) (by decide) (by decide)) (ok_pos (hp0.eq hm (by decide)) ?_)))))
  have e22 : (τ.a 22 x1.toNatClampNeg).toNatClampNeg = (gv s 22 k).toNat := by
    show (τ.a 22 x1.toNatClampNeg).toInt.toNat = _
    rw [hx2]
  refine ok_bind (act_take hb hs0 hq.2.2.1 (by omega)) (fun p hp => ?_)
  obtain ⟨r1, r2, r3, r4, r5⟩ := hp
  refine ok_chk ⟨by rw [hx2]; exact hq.1.1, by rw [hx2]; exact hq.1.2⟩ (ok_some ?_)
  rw [e22]
  exact act_FL hB (r1.store hq.2.1) hq.2.2.2 (show (p.2.i 92).toInt = _ by rw [r3 92 (by decide)]; exact hpc) (r2.of r2.1 rfl rfl rfl (fun k9 h1 _ => if_neg (by omega)))
theorem p_a6 {N : Nat} (hN : 1000 ≤ N) {s σ τ : RS} {g : Gh} {k : Nat} {c : Ctx} {x1 : Int32} (hp : PRE s σ τ g k c x1) (hm : gv s 21 k = 6) : ok (f_X12_act N τ x1) (fun R => ACT s σ R g k c.v) := by
  obtain ⟨k1, k2, k3, k4, k5, k6, k7, k8, k9⟩ := hp.fact
  have hq := okI_6 k1 hm
  have hp0 := hp
  obtain ⟨hW, hB, hk, hT, hb, hs, hpc, hx1, hone⟩ := hp
  have hs0 := hs
  obtain ⟨s1, s2, s3, s4, s5, s6⟩ := hs
  have hx2 : (τ.a 22 x1.toNatClampNeg).toInt = gv s 22 k := hp0.g 22 (by decide)
  unfold f_X12_act
  refine ok_chk hp0.inb (ok_neg (hp0.ne hm (z := 1) (by decide) (by decide)) (ok_neg (hp0.ne hm (z := 2) (by decide) (by decide)) (ok_neg (hp0.ne hm (z := 3) (by decide) (by decide)) (ok_neg (hp0.ne hm (z := 4) (by decide) (by decide)) (ok_neg (hp0.ne hm (z := 5) (by decide) (by decide)) (ok_pos (hp0.eq hm (by decide)) ?_))))))
  have e22 : (τ.a 22 x1.toNatClampNeg).toNatClampNeg = (gv s 22 k).toNat := by
    show (τ.a 22 x1.toNatClampNeg).toInt.toNat = _
    rw [hx2]
  refine ok_chk ⟨by rw [hx2]; exact hq.1.1, by rw [hx2]; exact hq.1.2⟩ (ok_some ?_)
  rw [e22]
  exact act_FL hB (hb.store hq.2.1) hq.2.2 (show (τ.i 92).toInt = _ from hpc) (hs0.of s1 rfl rfl rfl (fun k9 h1 _ => if_neg (by omega)))
theorem p_a7 {N : Nat} (hN : 1000 ≤ N) {s σ τ : RS} {g : Gh} {k : Nat} {c : Ctx} {x1 : Int32} (hp : PRE s σ τ g k c x1) (hm : gv s 21 k = 7) : ok (f_X12_act N τ x1) (fun R => ACT s σ R g k c.v) := by
  obtain ⟨k1, k2, k3, k4, k5, k6, k7, k8, k9⟩ := hp.fact
  have hq := okI_7 k1 hm
  have hp0 := hp
  obtain ⟨hW, hB, hk, hT, hb, hs, hpc, hx1, hone⟩ := hp
  have hs0 := hs
  obtain ⟨s1, s2, s3, s4, s5, s6⟩ := hs
  have hx2 : (τ.a 22 x1.toNatClampNeg).toInt = gv s 22 k := hp0.g 22 (by decide)
  unfold f_X12_act
  refine ok_chk hp0.inb (ok_neg (hp0.ne hm (z := 1) (by decide) (by decide)) (ok_neg (hp0.ne hm (z := 2) (by decide) (by decide)) (ok_neg (hp0.ne hm (z := 3) (by decide) (by decide)) (ok_neg (hp0.ne hm (z := 4) (by decide) (by decide)) (ok_neg (hp0.ne hm (z := 5) (by decide) (by decide)) (ok_neg (hp0.ne hm (z := 6) (by decide) (by decide)) (ok_pos (hp0.eq hm (by decide)) ?_)))))))
  refine ok_bind (act_take hb hs0 hq.1 (by omega)) (fun p hp => ?_)
  obtain ⟨r1, r2, r3, r4, r5⟩ := hp
  have hh : 1 ≤ c.h := hq.1
  exact act_put hB r1 r2 (by omega) (by rw [r3 92 (by decide)]; exact hpc) (by rw [Nat.sub_add_cancel hh]; exact hq.2)
theorem p_a10 {N : Nat} (hN : 1000 ≤ N) {s σ τ : RS} {g : Gh} {k : Nat} {c : Ctx} {x1 : Int32} (hp : PRE s σ τ g k c x1) (hm : gv s 21 k = 10) : ok (f_X12_act N τ x1) (fun R => ACT s σ R g k c.v) := by
  obtain ⟨k1, k2, k3, k4, k5, k6, k7, k8, k9⟩ := hp.fact
  have hq := okI_10 k1 hm
  have hp0 := hp
  obtain ⟨hW, hB, hk, hT, hb, hs, hpc, hx1, hone⟩ := hp
  have hs0 := hs
  obtain ⟨s1, s2, s3, s4, s5, s6⟩ := hs
  have hx2 : (τ.a 22 x1.toNatClampNeg).toInt = gv s 22 k := hp0.g 22 (by decide)
  unfold f_X12_act
  refine ok_chk hp0.inb (ok_neg (hp0.ne hm (z := 1) (by decide) (by decide)) (ok_neg (hp0.ne hm (z := 2) (by decide) (by decide)) (ok_neg (hp0.ne hm (z := 3) (by decide) (by decide)) (ok_neg (hp0.ne hm (z := 4) (by decide) (by decide)) (ok_neg (hp0.ne hm (z := 5) (by decide) (by decide)) (ok_neg (hp0.ne hm (z := 6) (by decide) (by decide)) (ok_neg (hp0.ne hm (z := 7) (by decide) (by decide)) (ok_neg (hp0.ne hm (z := 8) (by decide) (by decide)) (ok_neg (hp0.ne hm (z := 9) (by decide) (by decide)) (ok_pos (hp0.eq hm (by decide)) ?_))))))))))
  refine ok_bind (act_take hb hs0 hq.1 (by omega)) (fun p hp => ?_)
  obtain ⟨r1, r2, r3, r4, r5⟩ := hp
  have hh : 1 ≤ c.h := hq.1
  exact act_put hB r1 r2 (by omega) (by rw [r3 92 (by decide)]; exact hpc) (by rw [Nat.sub_add_cancel hh]; exact hq.2)
theorem p_a8 {N : Nat} (hN : 1000 ≤ N) {s σ τ : RS} {g : Gh} {k : Nat} {c : Ctx} {x1 : Int32} (hp : PRE s σ τ g k c x1) (hm : gv s 21 k = 8) : ok (f_X12_act N τ x1) (fun R => ACT s σ R g k c.v) := by
  obtain ⟨k1, k2, k3, k4, k5, k6, k7, k8, k9⟩ := hp.fact
  have hq := okI_8 k1 hm
  have hp0 := hp
  obtain ⟨hW, hB, hk, hT, hb, hs, hpc, hx1, hone⟩ := hp
  have hs0 := hs
  obtain ⟨s1, s2, s3, s4, s5, s6⟩ := hs
  have hx2 : (τ.a 22 x1.toNatClampNeg).toInt = gv s 22 k := hp0.g 22 (by decide)
  unfold f_X12_act
  refine ok_chk hp0.inb (ok_neg (hp0.ne hm (z := 1) (by decide) (by decide)) (ok_neg (hp0.ne hm (z := 2) (by decide) (by decide)) (ok_neg (hp0.ne hm (z := 3) (by decide) (by decide)) (ok_neg (hp0.ne hm (z := 4) (by decide) (by decide)) (ok_neg (hp0.ne hm (z := 5) (by decide) (by decide)) (ok_neg (hp0.ne hm (z := 6) (by decide) (by decide)) (ok_neg (hp0.ne hm (z := 7) (by decide) (by decide)) (ok_pos (hp0.eq hm (by decide)) ?_))))))))
  have hh : 2 ≤ c.h := hq.1
  refine ok_bind (act_take hb hs0 (by omega) (by omega)) (fun p hp => ?_)
  obtain ⟨r1, r2, r3, r4, r5⟩ := hp
  refine ok_bind (act_take r1 r2 (by omega) (by omega)) (fun q hq9 => ?_)
  obtain ⟨u1, u2, u3, u4, u5⟩ := hq9
  have h92 : (q.2.i 92).toInt = (k : Int) + 1 := by rw [u3 92 (by decide), r3 92 (by decide)]; exact hpc
  have hf : FL s g c.v ((k : Int) + 1) ((k : Int) + 1) (c.h - 1 - 1 + 1) c.o c.rs := by rw [show c.h - 1 - 1 + 1 = c.h - 1 by omega]; exact hq.2
  refine ok_ite (fun _ => act_212 hN hp0 u1 u2 (by omega) h92 hf) (fun e1 => ok_ite (fun _ => act_212 hN hp0 u1 u2 (by omega) h92 hf) (fun e2 => act_229 hB u1 u2 (by omega) h92 hf (fun e => ?_)))
  rcases e with e | e
  · exact absurd e e2
  · exact absurd e e1
theorem p_a9 {N : Nat} (hN : 1000 ≤ N) {s σ τ : RS} {g : Gh} {k : Nat} {c : Ctx} {x1 : Int32} (hp : PRE s σ τ g k c x1) (hm : gv s 21 k = 9) : ok (f_X12_act N τ x1) (fun R => ACT s σ R g k c.v) := by
  obtain ⟨k1, k2, k3, k4, k5, k6, k7, k8, k9⟩ := hp.fact
  have hq := okI_9 k1 hm
  have hp0 := hp
  obtain ⟨hW, hB, hk, hT, hb, hs, hpc, hx1, hone⟩ := hp
  have hs0 := hs
  obtain ⟨s1, s2, s3, s4, s5, s6⟩ := hs
  have hx2 : (τ.a 22 x1.toNatClampNeg).toInt = gv s 22 k := hp0.g 22 (by decide)
  unfold f_X12_act
  refine ok_chk hp0.inb (ok_neg (hp0.ne hm (z := 1) (by decide) (by decide)) (ok_neg (hp0.ne hm (z := 2) (by decide) (by decide)) (ok_neg (hp0.ne hm (z := 3) (by decide) (by decide)) (ok_neg (hp0.ne hm (z := 4) (by decide) (by decide)) (ok_neg (hp0.ne hm (z := 5) (by decide) (by decide)) (ok_neg (hp0.ne hm (z := 6) (by decide) (by decide)) (ok_neg (hp0.ne hm (z := 7) (by decide) (by decide)) (ok_neg (hp0.ne hm (z := 8) (by decide) (by decide)) (ok_pos (hp0.eq hm (by decide)) ?_)))))))))
  have hh : 2 ≤ c.h := hq.1
  refine ok_bind (act_take hb hs0 (by omega) (by omega)) (fun p hp => ?_)
  obtain ⟨r1, r2, r3, r4, r5⟩ := hp
  refine ok_bind (act_take r1 r2 (by omega) (by omega)) (fun q hq9 => ?_)
  obtain ⟨u1, u2, u3, u4, u5⟩ := hq9
  have h92 : (q.2.i 92).toInt = (k : Int) + 1 := by rw [u3 92 (by decide), r3 92 (by decide)]; exact hpc
  have hf : FL s g c.v ((k : Int) + 1) ((k : Int) + 1) (c.h - 1 - 1 + 1) c.o c.rs := by rw [show c.h - 1 - 1 + 1 = c.h - 1 by omega]; exact hq.2
  refine ok_ite (fun _ => act_212 hN hp0 u1 u2 (by omega) h92 hf) (fun e1 => ok_ite (fun _ => act_212 hN hp0 u1 u2 (by omega) h92 hf) (fun e2 => act_229 hB u1 u2 (by omega) h92 hf (fun e => ?_)))
  rcases e with e | e
  · exact absurd e e2
  · exact absurd e e1
theorem p_a11 {N : Nat} (hN : 1000 ≤ N) {s σ τ : RS} {g : Gh} {k : Nat} {c : Ctx} {x1 : Int32} (hp : PRE s σ τ g k c x1) (hm : gv s 21 k = 11) : ok (f_X12_act N τ x1) (fun R => ACT s σ R g k c.v) := by
  obtain ⟨k1, k2, k3, k4, k5, k6, k7, k8, k9⟩ := hp.fact
  have hq := okI_11 k1 hm
  have hp0 := hp
  obtain ⟨hW, hB, hk, hT, hb, hs, hpc, hx1, hone⟩ := hp
  have hs0 := hs
  obtain ⟨s1, s2, s3, s4, s5, s6⟩ := hs
  have hx2 : (τ.a 22 x1.toNatClampNeg).toInt = gv s 22 k := hp0.g 22 (by decide)
  unfold f_X12_act
  refine ok_chk hp0.inb (ok_neg (hp0.ne hm (z := 1) (by decide) (by decide)) (ok_neg (hp0.ne hm (z := 2) (by decide) (by decide)) (ok_neg (hp0.ne hm (z := 3) (by decide) (by decide)) (ok_neg (hp0.ne hm (z := 4) (by decide) (by decide)) (ok_neg (hp0.ne hm (z := 5) (by decide) (by decide)) (ok_neg (hp0.ne hm (z := 6) (by decide) (by decide)) (ok_neg (hp0.ne hm (z := 7) (by decide) (by decide)) (ok_neg (hp0.ne hm (z := 8) (by decide) (by decide)) (ok_neg (hp0.ne hm (z := 9) (by decide) (by decide)) (ok_neg (hp0.ne hm (z := 10) (by decide) (by decide)) (ok_pos (hp0.eq hm (by decide)) ?_)))))))))))
  have hh : 1 ≤ c.h := hq.1
  have e1 : (1 : Int32).toInt = 1 := by decide
  have hsub : (τ.i 93 - 1).toInt = ((c.h - 1 : Nat) : Int) := by rw [toInt_sub] <;> rw [e1, s1] <;> omega
  have drop : ok (f_X12_act_290 N τ) (fun R => ACT s σ R g k c.v) := by
    unfold f_X12_act_290
    exact ok_some (act_FL hB (hb.of (RX.i _ _ _ (by decide)) rfl rfl rfl rfl rfl rfl rfl rfl rfl) hq.2.2 (show (τ.i 92).toInt = _ from hpc) (hs0.of (show (τ.i 93 - 1).toInt = _ from hsub) rfl rfl rfl (fun _ _ _ => rfl)))
  have jump : ok (f_X12_act_282 N τ (τ.a 22 x1.toNatClampNeg)) (fun R => ACT s σ R g k c.v) := by
    unfold f_X12_act_282
    exact ok_some (act_FL hB (hb.of (RX.i _ _ _ (by decide)) rfl rfl rfl rfl rfl rfl rfl rfl rfl) hq.2.1 (show (τ.a 22 x1.toNatClampNeg).toInt = _ from hx2) (hs0.of s1 rfl rfl rfl (fun _ _ _ => rfl)))
  exact ok_chk ⟨by rw [hsub]; omega, by rw [hsub]; omega⟩ (ok_ite (fun _ => drop) (fun _ => jump))
theorem p_a12 {N : Nat} (hN : 1000 ≤ N) {s σ τ : RS} {g : Gh} {k : Nat} {c : Ctx} {x1 : Int32} (hp : PRE s σ τ g k c x1) (hm : gv s 21 k = 12) : ok (f_X12_act N τ x1) (fun R => ACT s σ R g k c.v) := by
  obtain ⟨k1, k2, k3, k4, k5, k6, k7, k8, k9⟩ := hp.fact
  have hq := okI_12 k1 hm
  have hp0 := hp
  obtain ⟨hW, hB, hk, hT, hb, hs, hpc, hx1, hone⟩ := hp
  have hs0 := hs
  obtain ⟨s1, s2, s3, s4, s5, s6⟩ := hs
  have hx2 : (τ.a 22 x1.toNatClampNeg).toInt = gv s 22 k := hp0.g 22 (by decide)
  unfold f_X12_act
  refine ok_chk hp0.inb (ok_neg (hp0.ne hm (z := 1) (by decide) (by decide)) (ok_neg (hp0.ne hm (z := 2) (by decide) (by decide)) (ok_neg (hp0.ne hm (z := 3) (by decide) (by decide)) (ok_neg (hp0.ne hm (z := 4) (by decide) (by decide)) (ok_neg (hp0.ne hm (z := 5) (by decide) (by decide)) (ok_neg (hp0.ne hm (z := 6) (by decide) (by decide)) (ok_neg (hp0.ne hm (z := 7) (by decide) (by decide)) (ok_neg (hp0.ne hm (z := 8) (by decide) (by decide)) (ok_neg (hp0.ne hm (z := 9) (by decide) (by decide)) (ok_neg (hp0.ne hm (z := 10) (by decide) (by decide)) (ok_neg (hp0.ne hm (z := 11) (by decide) (by decide)) (ok_pos (hp0.eq hm (by decide)) ?_))))))))))))
  have hh : 1 ≤ c.h := hq.1
  have e1 : (1 : Int32).toInt = 1 := by decide
  have hsub : (τ.i 93 - 1).toInt = ((c.h - 1 : Nat) : Int) := by rw [toInt_sub] <;> rw [e1, s1] <;> omega
  have drop : ok (f_X12_act_290 N τ) (fun R => ACT s σ R g k c.v) := by
    unfold f_X12_act_290
    exact ok_some (act_FL hB (hb.of (RX.i _ _ _ (by decide)) rfl rfl rfl rfl rfl rfl rfl rfl rfl) hq.2.2 (show (τ.i 92).toInt = _ from hpc) (hs0.of (show (τ.i 93 - 1).toInt = _ from hsub) rfl rfl rfl (fun _ _ _ => rfl)))
  have jump : ok (f_X12_act_282 N τ (τ.a 22 x1.toNatClampNeg)) (fun R => ACT s σ R g k c.v) := by
    unfold f_X12_act_282
    exact ok_some (act_FL hB (hb.of (RX.i _ _ _ (by decide)) rfl rfl rfl rfl rfl rfl rfl rfl rfl) hq.2.1 (show (τ.a 22 x1.toNatClampNeg).toInt = _ from hx2) (hs0.of s1 rfl rfl rfl (fun _ _ _ => rfl)))
  exact ok_chk ⟨by rw [hsub]; omega, by rw [hsub]; omega⟩ (ok_ite (fun _ => jump) (fun _ => drop))
theorem p_a13 {N : Nat} (hN : 1000 ≤ N) {s σ τ : RS} {g : Gh} {k : Nat} {c : Ctx} {x1 : Int32} (hp : PRE s σ τ g k c x1) (hm : gv s 21 k = 13) : ok (f_X12_act N τ x1) (fun R => ACT s σ R g k c.v) := by
  obtain ⟨k1, k2, k3, k4, k5, k6, k7, k8, k9⟩ := hp.fact
  have hq := okI_13 k1 hm
  have hp0 := hp
  obtain ⟨hW, hB, hk, hT, hb, hs, hpc, hx1, hone⟩ := hp
  have hs0 := hs
  obtain ⟨s1, s2, s3, s4, s5, s6⟩ := hs
  have hx2 : (τ.a 22 x1.toNatClampNeg).toInt = gv s 22 k := hp0.g 22 (by decide)
  unfold f_X12_act
  refine ok_chk hp0.inb (ok_neg (hp0.ne hm (z := 1) (by decide) (by decide)) (ok_neg (hp0.ne hm (z := 2) (by decide) (by decide)) (ok_neg (hp0.ne hm (z := 3) (by decide) (by decide)) (ok_neg (hp0.ne hm (z := 4) (by decide) (by decide)) (ok_neg (hp0.ne hm (z := 5) (by decide) (by decide)) (ok_neg (hp0.ne hm (z := 6) (by decide) (by decide)) (ok_neg (hp0.ne hm (z := 7) (by decide) (by decide)) (ok_neg (hp0.ne hm (z := 8) (by decide) (by decide)) (ok_neg (hp0.ne hm (z := 9) (by decide) (by decide)) (ok_neg (hp0.ne hm (z := 10) (by decide) (by decide)) (ok_neg (hp0.ne hm (z := 11) (by decide) (by decide)) (ok_neg (hp0.ne hm (z := 12) (by decide) (by decide)) (ok_pos (hp0.eq hm (by decide)) ?_)))))))))))))
  have hh : 1 ≤ c.h := hq.1
  refine ok_bind (act_take hb hs0 hh (by omega)) (fun p hp => ?_)
  obtain ⟨r1, r2, r3, r4, r5⟩ := hp
  have h1 : p.1 = 0 → c.one = false := by
    intro e
    cases ho : c.one with
    | false => rfl
    | true =>
      have h9 := hone ho
      have : gv τ 94 (c.h - 1) = 0 := by unfold gv; rw [← r5, e]; exact z_t0
      omega
  unfold f_X12_act_322
  exact ok_ite (fun e => ok_some (act_FL hB (r1.of (RX.i _ _ _ (by decide)) rfl rfl rfl rfl rfl rfl rfl rfl rfl) (hq.2.1 (h1 e)) (show (τ.a 22 x1.toNatClampNeg).toInt = _ from hx2) (r2.of r2.1 rfl rfl rfl (fun _ _ _ => rfl)))) (fun e => ok_some (act_FL hB (r1.of (RX.i _ _ _ (by decide)) rfl rfl rfl rfl rfl rfl rfl rfl rfl) hq.2.2 (show (p.2.i 92).toInt = _ by rw [r3 92 (by decide)]; exact hpc) (r2.of r2.1 rfl rfl rfl (fun _ _ _ => rfl))))
theorem p_a14 {N : Nat} (hN : 1000 ≤ N) {s σ τ : RS} {g : Gh} {k : Nat} {c : Ctx} {x1 : Int32} (hp : PRE s σ τ g k c x1) (hm : gv s 21 k = 14) : ok (f_X12_act N τ x1) (fun R => ACT s σ R g k c.v) := by
  obtain ⟨k1, k2, k3, k4, k5, k6, k7, k8, k9⟩ := hp.fact
  have hq := okI_14 k1 hm
  have hp0 := hp
  obtain ⟨hW, hB, hk, hT, hb, hs, hpc, hx1, hone⟩ := hp
  have hs0 := hs
  obtain ⟨s1, s2, s3, s4, s5, s6⟩ := hs
  have hx2 : (τ.a 22 x1.toNatClampNeg).toInt = gv s 22 k := hp0.g 22 (by decide)
  unfold f_X12_act
  refine ok_chk hp0.inb (ok_neg (hp0.ne hm (z := 1) (by decide) (by decide)) (ok_neg (hp0.ne hm (z := 2) (by decide) (by decide)) (ok_neg (hp0.ne hm (z := 3) (by decide) (by decide)) (ok_neg (hp0.ne hm (z := 4) (by decide) (by decide)) (ok_neg (hp0.ne hm (z := 5) (by decide) (by decide)) (ok_neg (hp0.ne hm (z := 6) (by decide) (by decide)) (ok_neg (hp0.ne hm (z := 7) (by decide) (by decide)) (ok_neg (hp0.ne hm (z := 8) (by decide) (by decide)) (ok_neg (hp0.ne hm (z := 9) (by decide) (by decide)) (ok_neg (hp0.ne hm (z := 10) (by decide) (by decide)) (ok_neg (hp0.ne hm (z := 11) (by decide) (by decide)) (ok_neg (hp0.ne hm (z := 12) (by decide) (by decide)) (ok_neg (hp0.ne hm (z := 13) (by decide) (by decide)) (ok_pos (hp0.eq hm (by decide)) ?_))))))))))))))
  have hh : 1 ≤ c.h := hq.1
  refine ok_bind (act_take hb hs0 hh (by omega)) (fun p hp => ?_)
  obtain ⟨r1, r2, r3, r4, r5⟩ := hp
  have h1 : p.1 = 0 → c.one = false := by
    intro e
    cases ho : c.one with
    | false => rfl
    | true =>
      have h9 := hone ho
      have : gv τ 94 (c.h - 1) = 0 := by unfold gv; rw [← r5, e]; exact z_t0
      omega
  unfold f_X12_act_344
  exact ok_ite (fun e => ok_some (act_FL hB (r1.of (RX.i _ _ _ (by decide)) rfl rfl rfl rfl rfl rfl rfl rfl rfl) (hq.2.2 (h1 e)) (show (p.2.i 92).toInt = _ by rw [r3 92 (by decide)]; exact hpc) (r2.of r2.1 rfl rfl rfl (fun _ _ _ => rfl)))) (fun e => ok_some (act_FL hB (r1.of (RX.i _ _ _ (by decide)) rfl rfl rfl rfl rfl rfl rfl rfl rfl) hq.2.1 (show (τ.a 22 x1.toNatClampNeg).toInt = _ from hx2) (r2.of r2.1 rfl rfl rfl (fun _ _ _ => rfl))))
theorem p_a15 {N : Nat} (hN : 1000 ≤ N) {s σ τ : RS} {g : Gh} {k : Nat} {c : Ctx} {x1 : Int32} (hp : PRE s σ τ g k c x1) (hm : gv s 21 k = 15) : ok (f_X12_act N τ x1) (fun R => ACT s σ R g k c.v) := by
  obtain ⟨k1, k2, k3, k4, k5, k6, k7, k8, k9⟩ := hp.fact
  have hq := okI_15 k1 hm
  have hp0 := hp
  obtain ⟨hW, hB, hk, hT, hb, hs, hpc, hx1, hone⟩ := hp
  have hs0 := hs
  obtain ⟨s1, s2, s3, s4, s5, s6⟩ := hs
  have hx2 : (τ.a 22 x1.toNatClampNeg).toInt = gv s 22 k := hp0.g 22 (by decide)
  unfold f_X12_act
  refine ok_chk hp0.inb (ok_neg (hp0.ne hm (z := 1) (by decide) (by decide)) (ok_neg (hp0.ne hm (z := 2) (by decide) (by decide)) (ok_neg (hp0.ne hm (z := 3) (by decide) (by decide)) (ok_neg (hp0.ne hm (z := 4) (by decide) (by decide)) (ok_neg (hp0.ne hm (z := 5) (by decide) (by decide)) (ok_neg (hp0.ne hm (z := 6) (by decide) (by decide)) (ok_neg (hp0.ne hm (z := 7) (by decide) (by decide)) (ok_neg (hp0.ne hm (z := 8) (by decide) (by decide)) (ok_neg (hp0.ne hm (z := 9) (by decide) (by decide)) (ok_neg (hp0.ne hm (z := 10) (by decide) (by decide)) (ok_neg (hp0.ne hm (z := 11) (by decide) (by decide)) (ok_neg (hp0.ne hm (z := 12) (by decide) (by decide)) (ok_neg (hp0.ne hm (z := 13) (by decide) (by decide)) (ok_neg (hp0.ne hm (z := 14) (by decide) (by decide)) (ok_pos (hp0.eq hm (by decide)) ?_)))))))))))))))
  exact ok_some (act_FL hB (hb.of (RX.i _ _ _ (by decide)) rfl rfl rfl rfl rfl rfl rfl rfl rfl) hq (show (τ.a 22 x1.toNatClampNeg).toInt = _ from hx2) (hs0.of s1 rfl rfl rfl (fun _ _ _ => rfl)))
theorem p_a16 {N : Nat} (hN : 1000 ≤ N) {s σ τ : RS} {g : Gh} {k : Nat} {c : Ctx} {x1 : Int32} (hp : PRE s σ τ g k c x1) (hm : gv s 21 k = 16) : ok (f_X12_act N τ x1) (fun R => ACT s σ R g k c.v) := by
  obtain ⟨k1, k2, k3, k4, k5, k6, k7, k8, k9⟩ := hp.fact
  have hq := okI_16 k1 hm
  have hp0 := hp
  obtain ⟨hW, hB, hk, hT, hb, hs, hpc, hx1, hone⟩ := hp
  have hs0 := hs
  obtain ⟨s1, s2, s3, s4, s5, s6⟩ := hs
  have hx2 : (τ.a 22 x1.toNatClampNeg).toInt = gv s 22 k := hp0.g 22 (by decide)
  unfold f_X12_act
  refine ok_chk hp0.inb (ok_neg (hp0.ne hm (z := 1) (by decide) (by decide)) (ok_neg (hp0.ne hm (z := 2) (by decide) (by decide)) (ok_neg (hp0.ne hm (z := 3) (by decide) (by decide)) (ok_neg (hp0.ne hm (z := 4) (by decide) (by decide)) (ok_neg (hp0.ne hm (z := 5) (by decide) (by decide)) (ok_neg (hp0.ne hm (z := 6) (by decide) (by decide)) (ok_neg (hp0.ne hm (z := 7) (by decide) (by decide)) (ok_neg (hp0.ne hm (z := 8) (by decide) (by decide)) (ok_neg (hp0.ne hm (z := 9) (by decide) (by decide)) (ok_neg (hp0.ne hm (z := 10) (by decide) (by decide)) (ok_neg (hp0.ne hm (z := 11) (by decide) (by decide)) (ok_neg (hp0.ne hm (z := 12) (by decide) (by decide)) (ok_neg (hp0.ne hm (z := 13) (by decide) (by decide)) (ok_neg (hp0.ne hm (z := 14) (by decide) (by decide)) (ok_neg (hp0.ne hm (z := 15) (by decide) (by decide)) (ok_pos (hp0.eq hm (by decide)) ?_))))))))))))))))
  have hh : 1 ≤ c.h := hq.1
  refine ok_bind (act_take hb hs0 hh (by omega)) (fun p hp => ?_)
  obtain ⟨r1, r2, r3, r4, r5⟩ := hp
  have hD := r1.2.1
  refine ok_bind (p_row N p.2 0 p.1 hD.2.2.1.1 hD.2.2.1.2) (fun q hq9 => ok_some ?_)
  obtain ⟨a1, a2, a3, a4, a5⟩ := hq9
  exact act_FL hB (r1.row a1 a2 a3 a4 a5) hq.2 (by rw [a4 92 (by decide), r3 92 (by decide)]; exact hpc) (r2.row a4 a5)
theorem p_e23 {N : Nat} (hN : 1000 ≤ N) {s σ τ : RS} {g : Gh} {k : Nat} {c : Ctx} {x1 x2 : Int32} (hp0 : PRE s σ τ g k c x1) (hx2 : x2.toInt = gv s 22 k) (hm : gv s 21 k = 23) : ok (f_X12_ends N τ x1 x2) (fun R => ACT s σ R g k c.v) := by
  unfold f_X12_ends
  refine ok_chk hp0.inb (ok_neg (hp0.ne hm (z := 17) (by decide) (by decide)) (ok_neg (hp0.ne hm (z := 18) (by decide) (by decide)) (ok_neg (hp0.ne hm (z := 19) (by decide) (by decide)) (ok_neg (hp0.ne hm (z := 20) (by decide) (by decide)) (ok_neg (hp0.ne hm (z := 21) (by decide) (by decide)) (ok_neg (hp0.ne hm (z := 22) (by decide) (by decide)) (ok_pos (hp0.eq hm (by decide)) (ok_bind (p_o23 hN hp0 hx2 hm) (fun R hR => ok_some hR)))))))))
theorem p_e24 {N : Nat} (hN : 1000 ≤ N) {s σ τ : RS} {g : Gh} {k : Nat} {c : Ctx} {x1 x2 : Int32} (hp0 : PRE s σ τ g k c x1) (hx2 : x2.toInt = gv s 22 k) (hm : gv s 21 k = 24) : ok (f_X12_ends N τ x1 x2) (fun R => ACT s σ R g k c.v) := by
  unfold f_X12_ends
  refine ok_chk hp0.inb (ok_neg (hp0.ne hm (z := 17) (by decide) (by decide)) (ok_neg (hp0.ne hm (z := 18) (by decide) (by decide)) (ok_neg (hp0.ne hm (z := 19) (by decide) (by decide)) (ok_neg (hp0.ne hm (z := 20) (by decide) (by decide)) (ok_neg (hp0.ne hm (z := 21) (by decide) (by decide)) (ok_neg (hp0.ne hm (z := 22) (by decide) (by decide)) (ok_neg (hp0.ne hm (z := 23) (by decide) (by decide)) (ok_pos (hp0.eq hm (by decide)) (ok_bind (p_o24 hp0 hx2 hm) (fun R hR => ok_some hR))))))))))
theorem p_e25 {N : Nat} (hN : 1000 ≤ N) {s σ τ : RS} {g : Gh} {k : Nat} {c : Ctx} {x1 x2 : Int32} (hp0 : PRE s σ τ g k c x1) (hx2 : x2.toInt = gv s 22 k) (hm : gv s 21 k = 25) : ok (f_X12_ends N τ x1 x2) (fun R => ACT s σ R g k c.v) := by
  unfold f_X12_ends
  refine ok_chk hp0.inb (ok_neg (hp0.ne hm (z := 17) (by decide) (by decide)) (ok_neg (hp0.ne hm (z := 18) (by decide) (by decide)) (ok_neg (hp0.ne hm (z := 19) (by decide) (by decide)) (ok_neg (hp0.ne hm (z := 20) (by decide) (by decide)) (ok_neg (hp0.ne hm (z := 21) (by decide) (by decide)) (ok_neg (hp0.ne hm (z := 22) (by decide) (by decide)) (ok_neg (hp0.ne hm (z := 23) (by decide) (by decide)) (ok_neg (hp0.ne hm (z := 24) (by decide) (by decide)) (ok_pos (hp0.eq hm (by decide)) (ok_bind (p_o25 hp0 hm) (fun R hR => ok_some hR)))))))))))
theorem p_e31 {N : Nat} (hN : 1000 ≤ N) {s σ τ : RS} {g : Gh} {k : Nat} {c : Ctx} {x1 x2 : Int32} (hp0 : PRE s σ τ g k c x1) (hx2 : x2.toInt = gv s 22 k) (hm : gv s 21 k = 31) : ok (f_X12_ends N τ x1 x2) (fun R => ACT s σ R g k c.v) := by
  unfold f_X12_ends
  refine ok_chk hp0.inb (ok_neg (hp0.ne hm (z := 17) (by decide) (by decide)) (ok_neg (hp0.ne hm (z := 18) (by decide) (by decide)) (ok_neg (hp0.ne hm (z := 19) (by decide) (by decide)) (ok_neg (hp0.ne hm (z := 20) (by decide) (by decide)) (ok_neg (hp0.ne hm (z := 21) (by decide) (by decide)) (ok_neg (hp0.ne hm (z := 22) (by decide) (by decide)) (ok_neg (hp0.ne hm (z := 23) (by decide) (by decide)) (ok_neg (hp0.ne hm (z := 24) (by decide) (by decide)) (ok_neg (hp0.ne hm (z := 25) (by decide) (by decide)) (ok_neg (hp0.ne hm (z := 26) (by decide) (by decide)) (ok_neg (hp0.ne hm (z := 27) (by decide) (by decide)) (ok_neg (hp0.ne hm (z := 28) (by decide) (by decide)) (ok_neg (hp0.ne hm (z := 29) (by decide) (by decide)) (ok_neg (hp0.ne hm (z := 30) (by decide) (by decide)) (ok_pos (hp0.eq hm (by decide)) (ok_bind (p_o31 hp0 hx2 hm) (fun R hR => ok_some hR)))))))))))))))))
theorem p_e32 {N : Nat} (hN : 1000 ≤ N) {s σ τ : RS} {g : Gh} {k : Nat} {c : Ctx} {x1 x2 : Int32} (hp0 : PRE s σ τ g k c x1) (hx2 : x2.toInt = gv s 22 k) (hm : gv s 21 k = 32) : ok (f_X12_ends N τ x1 x2) (fun R => ACT s σ R g k c.v) := by
  unfold f_X12_ends
  refine ok_chk hp0.inb (ok_neg (hp0.ne hm (z := 17) (by decide) (by decide)) (ok_neg (hp0.ne hm (z := 18) (by decide) (by decide)) (ok_neg (hp0.ne hm (z := 19) (by decide) (by decide)) (ok_neg (hp0.ne hm (z := 20) (by decide) (by decide)) (ok_neg (hp0.ne hm (z := 21) (by decide) (by decide)) (ok_neg (hp0.ne hm (z := 22) (by decide) (by decide)) (ok_neg (hp0.ne hm (z := 23) (by decide) (by decide)) (ok_neg (hp0.ne hm (z := 24) (by decide) (by decide)) (ok_neg (hp0.ne hm (z := 25) (by decide) (by decide)) (ok_neg (hp0.ne hm (z := 26) (by decide) (by decide)) (ok_neg (hp0.ne hm (z := 27) (by decide) (by decide)) (ok_neg (hp0.ne hm (z := 28) (by decide) (by decide)) (ok_neg (hp0.ne hm (z := 29) (by decide) (by decide)) (ok_neg (hp0.ne hm (z := 30) (by decide) (by decide)) (ok_neg (hp0.ne hm (z := 31) (by decide) (by decide)) (ok_pos (hp0.eq hm (by decide)) (ok_bind (p_o32 hN hp0 hx2 hm) (fun R hR => ok_some hR))))))))))))))))))
theorem p_e33 {N : Nat} (hN : 1000 ≤ N) {s σ τ : RS} {g : Gh} {k : Nat} {c : Ctx} {x1 x2 : Int32} (hp0 : PRE s σ τ g k c x1) (hx2 : x2.toInt = gv s 22 k) (hm : gv s 21 k = 33) : ok (f_X12_ends N τ x1 x2) (fun R => ACT s σ R g k c.v) := by
  unfold f_X12_ends
  refine ok_chk hp0.inb (ok_neg (hp0.ne hm (z := 17) (by decide) (by decide)) (ok_neg (hp0.ne hm (z := 18) (by decide) (by decide)) (ok_neg (hp0.ne hm (z := 19) (by decide) (by decide)) (ok_neg (hp0.ne hm (z := 20) (by decide) (by decide)) (ok_neg (hp0.ne hm (z := 21) (by decide) (by decide)) (ok_neg (hp0.ne hm (z := 22) (by decide) (by decide)) (ok_neg (hp0.ne hm (z := 23) (by decide) (by decide)) (ok_neg (hp0.ne hm (z := 24) (by decide) (by decide)) (ok_neg (hp0.ne hm (z := 25) (by decide) (by decide)) (ok_neg (hp0.ne hm (z := 26) (by decide) (by decide)) (ok_neg (hp0.ne hm (z := 27) (by decide) (by decide)) (ok_neg (hp0.ne hm (z := 28) (by decide) (by decide)) (ok_neg (hp0.ne hm (z := 29) (by decide) (by decide)) (ok_neg (hp0.ne hm (z := 30) (by decide) (by decide)) (ok_neg (hp0.ne hm (z := 31) (by decide) (by decide)) (ok_neg (hp0.ne hm (z := 32) (by decide) (by decide)) (ok_pos (hp0.eq hm (by decide)) (ok_bind (p_o33 hN hp0 hm) (fun R hR => ok_some hR)))))))))))))))))))
theorem p_e34 {N : Nat} (hN : 1000 ≤ N) {s σ τ : RS} {g : Gh} {k : Nat} {c : Ctx} {x1 x2 : Int32} (hp0 : PRE s σ τ g k c x1) (hx2 : x2.toInt = gv s 22 k) (hm : gv s 21 k = 34) : ok (f_X12_ends N τ x1 x2) (fun R => ACT s σ R g k c.v) := by
  unfold f_X12_ends
  refine ok_chk hp0.inb (ok_neg (hp0.ne hm (z := 17) (by decide) (by decide)) (ok_neg (hp0.ne hm (z := 18) (by decide) (by decide)) (ok_neg (hp0.ne hm (z := 19) (by decide) (by decide)) (ok_neg (hp0.ne hm (z := 20) (by decide) (by decide)) (ok_neg (hp0.ne hm (z := 21) (by decide) (by decide)) (ok_neg (hp0.ne hm (z := 22) (by decide) (by decide)) (ok_neg (hp0.ne hm (z := 23) (by decide) (by decide)) (ok_neg (hp0.ne hm (z := 24) (by decide) (by decide)) (ok_neg (hp0.ne hm (z := 25) (by decide) (by decide)) (ok_neg (hp0.ne hm (z := 26) (by decide) (by decide)) (ok_neg (hp0.ne hm (z := 27) (by decide) (by decide)) (ok_neg (hp0.ne hm (z := 28) (by decide) (by decide)) (ok_neg (hp0.ne hm (z := 29) (by decide) (by decide)) (ok_neg (hp0.ne hm (z := 30) (by decide) (by decide)) (ok_neg (hp0.ne hm (z := 31) (by decide) (by decide)) (ok_neg (hp0.ne hm (z := 32) (by decide) (by decide)) (ok_neg (hp0.ne hm (z := 33) (by decide) (by decide)) (ok_pos (hp0.eq hm (by decide)) (ok_bind (p_o34 hp0 hm) (fun R hR => ok_some hR))))))))))))))))))))
theorem p_e35 {N : Nat} (hN : 1000 ≤ N) {s σ τ : RS} {g : Gh} {k : Nat} {c : Ctx} {x1 x2 : Int32} (hp0 : PRE s σ τ g k c x1) (hx2 : x2.toInt = gv s 22 k) (hm : gv s 21 k = 35) : ok (f_X12_ends N τ x1 x2) (fun R => ACT s σ R g k c.v) := by
  unfold f_X12_ends
  refine ok_chk hp0.inb (ok_neg (hp0.ne hm (z := 17) (by decide) (by decide)) (ok_neg (hp0.ne hm (z := 18) (by decide) (by decide)) (ok_neg (hp0.ne hm (z := 19) (by decide) (by decide)) (ok_neg (hp0.ne hm (z := 20) (by decide) (by decide)) (ok_neg (hp0.ne hm (z := 21) (by decide) (by decide)) (ok_neg (hp0.ne hm (z := 22) (by decide) (by decide)) (ok_neg (hp0.ne hm (z := 23) (by decide) (by decide)) (ok_neg (hp0.ne hm (z := 24) (by decide) (by decide)) (ok_neg (hp0.ne hm (z := 25) (by decide) (by decide)) (ok_neg (hp0.ne hm (z := 26) (by decide) (by decide)) (ok_neg (hp0.ne hm (z := 27) (by decide) (by decide)) (ok_neg (hp0.ne hm (z := 28) (by decide) (by decide)) (ok_neg (hp0.ne hm (z := 29) (by decide) (by decide)) (ok_neg (hp0.ne hm (z := 30) (by decide) (by decide)) (ok_neg (hp0.ne hm (z := 31) (by decide) (by decide)) (ok_neg (hp0.ne hm (z := 32) (by decide) (by decide)) (ok_neg (hp0.ne hm (z := 33) (by decide) (by decide)) (ok_neg (hp0.ne hm (z := 34) (by decide) (by decide)) (ok_pos (hp0.eq hm (by decide)) (ok_bind (p_o35 hN hp0 hm) (fun R hR => ok_some hR)))))))))))))))))))))
theorem p_ends {N : Nat} (hN : 1000 ≤ N) {s σ τ : RS} {g : Gh} {k : Nat} {c : Ctx} {x1 x2 : Int32} (hp0 : PRE s σ τ g k c x1) (hx2 : x2.toInt = gv s 22 k) {m : Nat} (h1 : 17 ≤ m) (h2 : m ≤ 36) (hm : gv s 21 k = (m : Int)) : ok (f_X12_ends N τ x1 x2) (fun R => ACT s σ R g k c.v) := by
  rcases (show m = 17 ∨ m = 18 ∨ m = 19 ∨ m = 20 ∨ m = 21 ∨ m = 22 ∨ m = 23 ∨ m = 24 ∨ m = 25 ∨ m = 26 ∨ m = 27 ∨ m = 28 ∨ m = 29 ∨ m = 30 ∨ m = 31 ∨ m = 32 ∨ m = 33 ∨ m = 34 ∨ m = 35 ∨ m = 36 by omega) with rfl | rfl | rfl | rfl | rfl | rfl | rfl | rfl | rfl | rfl | rfl | rfl | rfl | rfl | rfl | rfl | rfl | rfl | rfl | rfl
  · exact p_e17 hN hp0 hx2 hm
  · exact p_e18 hN hp0 hx2 hm
  · exact p_e19 hN hp0 hx2 hm
  · exact p_e20 hN hp0 hx2 hm
  · exact p_e21 hN hp0 hx2 hm
  · exact p_e22 hN hp0 hx2 hm
  · exact p_e23 hN hp0 hx2 hm
  · exact p_e24 hN hp0 hx2 hm
  · exact p_e25 hN hp0 hx2 hm
  · exact p_e26 hN hp0 hx2 hm
  · exact p_e27 hN hp0 hx2 hm
  · exact p_e28 hN hp0 hx2 hm
  · exact p_e29 hN hp0 hx2 hm
  · exact p_e30 hN hp0 hx2 hm
  · exact p_e31 hN hp0 hx2 hm
  · exact p_e32 hN hp0 hx2 hm
  · exact p_e33 hN hp0 hx2 hm
  · exact p_e34 hN hp0 hx2 hm
  · exact p_e35 hN hp0 hx2 hm
  · exact p_e36 hN hp0 hx2 hm
theorem p_act {N : Nat} (hN : 1000 ≤ N) {s σ τ : RS} {g : Gh} {k : Nat} {c : Ctx} {x1 : Int32} (hp0 : PRE s σ τ g k c x1) : ok (f_X12_act N τ x1) (fun R => ACT s σ R g k c.v) := by
  obtain ⟨m, h1, h2, hm⟩ := okI_range hp0.fact.1
  by_cases h : 17 ≤ m
  · have ne : ∀ {n : Int32} {z : Int}, n.toInt = z → z < 17 → ¬ τ.a 21 x1.toNatClampNeg = n := fun hn hz => hp0.ne hm hn (by omega)
    unfold f_X12_act
    refine ok_chk hp0.inb (ok_neg (ne (z := 1) (by decide) (by decide)) (ok_neg (ne (z := 2) (by decide) (by decide)) (ok_neg (ne (z := 3) (by decide) (by decide)) (ok_neg (ne (z := 4) (by decide) (by decide)) (ok_neg (ne (z := 5) (by decide) (by decide)) (ok_neg (ne (z := 6) (by decide) (by decide)) (ok_neg (ne (z := 7) (by decide) (by decide)) (ok_neg (ne (z := 8) (by decide) (by decide)) (ok_neg (ne (z := 9) (by decide) (by decide)) (ok_neg (ne (z := 10) (by decide) (by decide)) (ok_neg (ne (z := 11) (by decide) (by decide)) (ok_neg (ne (z := 12) (by decide) (by decide)) (ok_neg (ne (z := 13) (by decide) (by decide)) (ok_neg (ne (z := 14) (by decide) (by decide)) (ok_neg (ne (z := 15) (by decide) (by decide)) (ok_neg (ne (z := 16) (by decide) (by decide)) (ok_bind (p_ends hN hp0 (hp0.g 22 (by decide)) h h2 hm) (fun R hR => ok_some hR))))))))))))))))))
  · rcases (show m = 1 ∨ m = 2 ∨ m = 3 ∨ m = 4 ∨ m = 5 ∨ m = 6 ∨ m = 7 ∨ m = 8 ∨ m = 9 ∨ m = 10 ∨ m = 11 ∨ m = 12 ∨ m = 13 ∨ m = 14 ∨ m = 15 ∨ m = 16 by omega) with rfl | rfl | rfl | rfl | rfl | rfl | rfl | rfl | rfl | rfl | rfl | rfl | rfl | rfl | rfl | rfl
    · exact p_a1 hN hp0 hm
    · exact p_a2 hN hp0 hm
    · exact p_a3 hN hp0 hm
    · exact p_a4 hN hp0 hm
    · exact p_a5 hN hp0 hm
    · exact p_a6 hN hp0 hm
    · exact p_a7 hN hp0 hm
    · exact p_a8 hN hp0 hm
    · exact p_a9 hN hp0 hm
    · exact p_a10 hN hp0 hm
    · exact p_a11 hN hp0 hm
    · exact p_a12 hN hp0 hm
    · exact p_a13 hN hp0 hm
    · exact p_a14 hN hp0 hm
    · exact p_a15 hN hp0 hm
    · exact p_a16 hN hp0 hm
