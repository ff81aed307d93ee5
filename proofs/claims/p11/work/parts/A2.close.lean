theorem gv_of {σ τ : RS} {k : Nat} (h : τ.a k = σ.a k) (i : Nat) : gv τ k i = gv σ k i := by unfold gv; rw [h]
theorem gv_upd {σ : RS} {k i : Nat} {f : Nat → Int32} {j : Nat} {v : Int32} (h : σ.a k = upd f j v) : gv σ k i = if i = j then v.toInt else (f i).toInt := by
  unfold gv
  rw [h]
  unfold upd
  by_cases c : i = j
  · rw [if_pos c, if_pos c]
  · rw [if_neg c, if_neg c]
/-- closeAll: all that the try has begun is closed; how stays or is THROWN -/
def CA (σ R : RS) (g : Gh) (r : Nat) : Prop := RX σ R ∧ RD R g ∧ (∀ j : Nat, j ≠ 81 → j ≠ 85 → j ≠ 95 → j ≠ 110 → j ≠ 114 → R.i j = σ.i j) ∧ (∀ k : Nat, k < 82 ∨ k = 84 ∨ 91 ≤ k → R.a k = σ.a k) ∧ 0 ≤ (R.i 95).toInt ∧ (R.i 95).toInt ≤ gv σ 103 r ∧ (R.i 110 = σ.i 110 ∨ R.i 110 = 3) ∧ (R.i 110 = 3 → 0 ≤ (R.i 114).toInt ∧ (R.i 114).toInt < 3200)
theorem p_closeAll (N : Nat) (g : Gh) (x1 : Int32) (hx : ib x1 300) : ∀ (n : Nat) (σ : RS), RB σ → RD σ g → 0 ≤ gv σ 103 x1.toNatClampNeg → 0 ≤ (σ.i 95).toInt → (σ.i 95).toInt ≤ 450 → (σ.i 110 = 3 → 0 ≤ (σ.i 114).toInt ∧ (σ.i 114).toInt < 3200) → (σ.i 95).toInt < n → ok (f_X12_closeAll_0 N n σ x1) (fun R => CA σ R g x1.toNatClampNeg)
  | 0, σ, hB, hD, hc, h0, h1, ht, hn => by omega
  | n+1, σ, hB, hD, hc, h0, h1, ht, hn => by
    show ok (b_X12_closeAll_0 N (f_X12_closeAll_0 N n) σ x1) _
    unfold b_X12_closeAll_0
    refine ok_chk hx (ok_ite (fun c => ok_some ⟨RX.rf _, hD, fun _ _ _ _ _ _ => rfl, fun _ _ => rfl, h0, ?_, Or.inl rfl, ht⟩) (fun c => ?_))
    · exact le_int c
    · have c1 : gv σ 103 x1.toNatClampNeg < (σ.i 95).toInt := by
        have := Int32.not_le.mp c
        exact lt_int this
      have e1 : (1 : Int32).toInt = 1 := by decide
      have es : (σ.i 95 - 1).toInt = (σ.i 95).toInt - 1 := by rw [toInt_sub] <;> rw [e1] <;> omega
      have hib : ib (σ.i 95 - 1) 460 := ⟨by omega, by omega⟩
      refine ok_chk hib ?_
      have ec := clampI hib.1
      obtain ⟨D1, D2, D3, D4, D5, D6, D7⟩ := hD
      have hop := D1 (σ.i 95 - 1).toNatClampNeg (by omega) (by omega)
      generalize hxe : σ.a 96 (σ.i 95 - 1).toNatClampNeg = xx at *
      have hxx : ib xx 8 := by
        have : gv σ 96 (σ.i 95 - 1).toNatClampNeg = xx.toInt := by unfold gv; rw [hxe]
        rw [this] at hop
        exact hop
      refine ok_bind (p_row N (σ.setI 95 (σ.i 95 - 1)) 2 xx D3.1 D3.2) (fun p hp => ?_)
      obtain ⟨r1, r2, r3, r4, r5⟩ := hp
      refine ok_chk hxx ?_
      have hp95 : (p.i 95).toInt = (σ.i 95).toInt - 1 := by rw [r4 95 (by decide)]; exact es
      have hX : RX σ p := (RX.i _ _ _ (by decide)).tr r1
      have hp3 : p.i 3 = σ.i 3 := hX.2.2.1 3 (by decide)
      have hp7 : p.a 7 = σ.a 7 := hX.2.2.2 7 (by decide)
      have hBp : RB p := RB.of (hX.2.2.1 2 (by decide)) hp3 (hX.2.2.2 4 (by decide)) (hX.2.2.2 6 (by decide)) hp7 hB
      have hi : ∀ j : Nat, j ≠ 81 → j ≠ 95 → p.i j = σ.i j := fun j h2 h3 => (r4 j h2).trans (if_neg h3)
      have ha : ∀ k : Nat, k ≠ 82 → k ≠ 83 → p.a k = σ.a k := fun k h2 h3 => r5 k h2 h3
      have hDp : RD p g := by
        refine ⟨fun j h2 h3 => ?_, fun y h2 h3 => ?_, ⟨r2, r3⟩, ?_, ?_, fun t h2 => ?_, fun t h2 => ?_⟩
        · rw [gv_of (ha 96 (by decide) (by decide))]; exact D1 j h2 (by omega)
        · rw [gv_of (ha 84 (by decide) (by decide))]; exact D2 y h2 h3
        · rw [hi 85 (by decide) (by decide)]; exact D4
        · rw [hi 80 (by decide) (by decide)]; exact D5
        · rw [gv_of (ha 88 (by decide) (by decide))]; exact D6 t h2
        · rw [gv_of (ha 86 (by decide) (by decide)), hp3]; exact D7 t h2
      have hcp : gv p 103 x1.toNatClampNeg = gv σ 103 x1.toNatClampNeg := gv_of (ha 103 (by decide) (by decide)) _
      have htp : p.i 110 = 3 → 0 ≤ (p.i 114).toInt ∧ (p.i 114).toInt < 3200 := by
        rw [hi 110 (by decide) (by decide), hi 114 (by decide) (by decide)]; exact ht
      -- what a later state gives back
      have back : ∀ q : RS, RX p q → RB q → RD q g → (∀ j : Nat, j ≠ 85 → j ≠ 110 → j ≠ 114 → q.i j = p.i j) → (∀ k : Nat, k < 82 ∨ k = 84 ∨ 91 ≤ k → q.a k = p.a k) → (q.i 110 = p.i 110 ∨ q.i 110 = 3) → (q.i 110 = 3 → 0 ≤ (q.i 114).toInt ∧ (q.i 114).toInt < 3200) → ok (f_X12_closeAll_0 N n q x1) (fun R => CA σ R g x1.toNatClampNeg) := by
        intro q a1 a2 a3 a4 a5 a6 a7
        have hq95 : (q.i 95).toInt = (σ.i 95).toInt - 1 := by rw [a4 95 (by decide) (by decide) (by decide)]; exact hp95
        have hq103 : gv q 103 x1.toNatClampNeg = gv σ 103 x1.toNatClampNeg := (gv_of (a5 103 (Or.inr (Or.inr (by decide)))) _).trans hcp
        refine ok_imp (p_closeAll N g x1 hx n q a2 a3 (by rw [hq103]; exact hc) (by omega) (by omega) a7 (by omega)) (fun R hR => ?_)
        obtain ⟨b1, b2, b3, b4, b5, b6, b7, b8⟩ := hR
        refine ⟨(hX.tr a1).tr b1, b2, fun j d1 d2 d3 d4 d5 => ?_, fun k d1 => ?_, b5, by rw [← hq103]; exact b6, ?_, b8⟩
        · rw [b3 j d1 d2 d3 d4 d5, a4 j d2 d4 d5, hi j d1 d3]
        · rw [b4 k d1, a5 k d1]
          rcases d1 with d1 | d1 | d1
          · exact hX.2.2.2 k d1
          · subst d1; exact ha 84 (by decide) (by decide)
          · exact ha k (by omega) (by omega)
        · rcases b7 with b7 | b7
          · rcases a6 with a6 | a6
            · exact Or.inl (by rw [b7, a6, hi 110 (by decide) (by decide)])
            · exact Or.inr (b7.trans a6)
          · exact Or.inr b7
      have stay : ok (f_X12_closeAll_0 N n p x1) (fun R => CA σ R g x1.toNatClampNeg) := back p (RX.rf _) hBp hDp (fun _ _ _ _ => rfl) (fun _ _ => rfl) (Or.inl rfl) htp
      have hcl := hBp.2.2.2.2 xx.toNatClampNeg (by have := clampI hxx.1; have := hxx.2; omega)
      refine ok_ite (fun c2 => stay) (fun c2 => ok_ite (fun c3 => ?_) (fun c3 => ?_))
      · obtain ⟨t0, t1⟩ := htp c3
        have hit : ib (p.i 114) 3200 := ⟨t0, t1⟩
        refine ok_chk hit (ok_ite (fun c4 => stay) (fun c4 => ?_))
        have et := clampI t0
        have hs := hDp.2.2.2.2.2.1 (p.i 114).toNatClampNeg (by omega)
        have hs8 : gv p 88 (p.i 114).toNatClampNeg < 8 := by
          have := lt_int (Int32.not_le.mp c4)
          have e8 : (8 : Int32).toInt = 8 := by decide
          unfold gv; omega
        have e8 : (8 : Int32).toInt = 8 := by decide
        have em : (8 * p.i 114).toInt = 8 * (p.i 114).toInt := by
          rw [Int32.toInt_mul, e8, Int.bmod_eq_of_le (by omega) (by omega)]
        have ea : (8 * p.i 114 + p.a 88 (p.i 114).toNatClampNeg).toInt = 8 * (p.i 114).toInt + gv p 88 (p.i 114).toNatClampNeg := by
          rw [toInt_add] <;> rw [em] <;> unfold gv at * <;> omega
        refine ok_chk ⟨by omega, by omega⟩ ?_
        refine back _ (((RX.a _ _ _ _ (by decide)).tr (RX.a _ _ _ _ (by decide))).tr (RX.a _ _ _ _ (by decide))) (RB.of rfl rfl rfl rfl rfl hBp) ?_ (fun _ _ _ _ => rfl) (fun k hk => ?_) (Or.inl rfl) htp
        · obtain ⟨E1, E2, E3, E4, E5, E6, E7⟩ := hDp
          refine ⟨E1, E2, E3, E4, E5, fun t h2 => ?_, E7⟩
          have : gv (((p.setA 89 (8 * p.i 114 + p.a 88 (p.i 114).toNatClampNeg).toNatClampNeg (p.a 7 xx.toNatClampNeg - 1)).setA 90 (8 * p.i 114 + p.a 88 (p.i 114).toNatClampNeg).toNatClampNeg xx).setA 88 (p.i 114).toNatClampNeg (p.a 88 (p.i 114).toNatClampNeg + 1)) 88 t = if t = (p.i 114).toNatClampNeg then (p.a 88 (p.i 114).toNatClampNeg + 1).toInt else (p.a 88 t).toInt := gv_upd rfl
          rw [this]
          by_cases q : t = (p.i 114).toNatClampNeg
          · rw [if_pos q]
            have : (p.a 88 (p.i 114).toNatClampNeg + 1).toInt = gv p 88 (p.i 114).toNatClampNeg + 1 := by
              rw [toInt_add] <;> rw [e1] <;> unfold gv at * <;> omega
            omega
          · rw [if_neg q]; exact E6 t h2
        · show (if k = 88 then _ else if k = 90 then _ else if k = 89 then _ else p.a k) = p.a k
          rw [if_neg (by omega), if_neg (by omega), if_neg (by omega)]
      · refine ok_bind (p_raise N p _ xx hDp.2.2.2.1.1 hDp.2.2.2.1.2) (fun q hq => ?_)
        obtain ⟨a1, a2, a3, a4, a5, a6, a7, a8, a9, a10⟩ := hq
        have hq3 : q.i 3 = p.i 3 := a7 3 (by decide) (by decide) (by decide)
        refine back q a1 (RB.of (a1.2.2.1 2 (by decide)) hq3 (a1.2.2.2 4 (by decide)) (a1.2.2.2 6 (by decide)) (a1.2.2.2 7 (by decide)) hBp) ?_ (fun j d1 d2 d3 => a7 j d1 d2 d3) (fun k hk => a8 k (by omega) (by omega) (by omega)) (Or.inr a2) (fun _ => ⟨a3, a4⟩)
        obtain ⟨E1, E2, E3, E4, E5, E6, E7⟩ := hDp
        refine ⟨fun j h2 h3 => ?_, fun y h2 h3 => ?_, ?_, ⟨a5, a6⟩, ?_, fun t h2 => ?_, fun t h2 => ?_⟩
        · rw [gv_of (a8 96 (by decide) (by decide) (by decide))]
          rw [a7 95 (by decide) (by decide) (by decide)] at h3
          exact E1 j h2 h3
        · rw [gv_of (a8 84 (by decide) (by decide) (by decide))]; exact E2 y h2 h3
        · rw [a7 81 (by decide) (by decide) (by decide)]; exact E3
        · rw [a7 80 (by decide) (by decide) (by decide)]; exact E5
        · rw [gv_upd a10]
          by_cases w : t = (q.i 114).toNatClampNeg
          · rw [if_pos w, z_t0]; decide
          · rw [if_neg w]; exact E6 t h2
        · rw [gv_upd a9, hq3]
          by_cases w : t = (q.i 114).toNatClampNeg
          · rw [if_pos w]
            have g1 := le_int hcl.1
            have g2 := le_int hcl.2
            rw [z_t0] at g1
            have g3 := le_int hBp.2.1.2
            have e12 : (12 : Int32).toInt = 12 := by decide
            have : (p.a 7 xx.toNatClampNeg - 1).toInt = (p.a 7 xx.toNatClampNeg).toInt - 1 := by rw [toInt_sub] <;> rw [e1] <;> omega
            rw [this]; omega
          · rw [if_neg w]; exact E7 t h2
