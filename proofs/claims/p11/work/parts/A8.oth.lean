theorem ok_neg {α : Type} {c : Prop} [Decidable c] {x y : Option α} {P : α → Prop} (h : ¬ c) (h1 : ok y P) : ok (if c then x else y) P := by rw [if_neg h]; exact h1
theorem ok_pos {α : Type} {c : Prop} [Decidable c] {x y : Option α} {P : α → Prop} (h : c) (h1 : ok x P) : ok (if c then x else y) P := by rw [if_pos h]; exact h1
/-- the op is m: other tests fail -/
theorem PRE.ne {s σ τ : RS} {g : Gh} {k : Nat} {c : Ctx} {x1 : Int32} (h : PRE s σ τ g k c x1) {m : Int} (hm : gv s 21 k = m) {n : Int32} {z : Int} (hn : n.toInt = z) (hz : m ≠ z) : ¬ τ.a 21 x1.toNatClampNeg = n := neI ((h.g 21 (by decide)).trans hm) hn hz
theorem PRE.eq {s σ τ : RS} {g : Gh} {k : Nat} {c : Ctx} {x1 : Int32} (h : PRE s σ τ g k c x1) {m : Int} (hm : gv s 21 k = m) {n : Int32} (hn : n.toInt = m) : τ.a 21 x1.toNatClampNeg = n := eqI ((h.g 21 (by decide)).trans hm) hn
/-- the row's values move -/
theorem p_o85 (N : Nat) {τ0 : RS} {x2 x4 : Int32} {rs : List Rec} {h : Nat} (hx1 : 1 ≤ x2.toInt) (hxh : x2.toInt ≤ h) (hh : h ≤ 1300) (hw : (wv rs : Int) + x2.toInt ≤ 450) (hl : rs.length ≤ 250) {P : RS → Prop}
    (fin : ∀ R : RS, RX τ0 R → (∀ j : Nat, j ≠ 93 → j ≠ 97 → j ≠ 99 → R.i j = τ0.i j) → (R.i 93).toInt = h - x2.toInt → (R.i 97).toInt = wv rs + x2.toInt → (R.i 99).toInt = (τ0.i 99).toInt + 1 → (∀ k : Nat, k ≠ 98 → k < 100 ∨ 105 ≤ k → R.a k = τ0.a k) → R.a 100 = upd (τ0.a 100) (τ0.i 99).toNatClampNeg 2 → R.a 101 = upd (τ0.a 101) (τ0.i 99).toNatClampNeg x4 → R.a 102 = upd (τ0.a 102) (τ0.i 99).toNatClampNeg x4 → (∃ y : Int32, y.toInt = wv rs + x2.toInt ∧ R.a 103 = upd (τ0.a 103) (τ0.i 99).toNatClampNeg y) → (∃ y : Int32, y.toInt = h - x2.toInt ∧ R.a 104 = upd (τ0.a 104) (τ0.i 99).toNatClampNeg y) → P R)
    (h93 : (τ0.i 93).toInt = h) (h99 : (τ0.i 99).toInt = rs.length) :
    ∀ (n : Nat) (τ : RS) (i : Int32), 0 ≤ i.toInt → i.toInt ≤ x2.toInt → RX τ0 τ → (∀ j : Nat, j ≠ 97 → τ.i j = τ0.i j) → (∀ k : Nat, k ≠ 98 → τ.a k = τ0.a k) → (τ.i 97).toInt = wv rs + i.toInt → x2.toInt - i.toInt < n → ok (f_X12_others_85 N n τ x2 x4 i) P
  | 0, τ, i, h0, h1, _, _, _, _, hn => by omega
  | n+1, τ, i, h0, h1, hX, hi, ha, h97, hn => by
    show ok (b_X12_others_85 N (f_X12_others_85 N n) τ x2 x4 i) P
    unfold b_X12_others_85
    have e1 : (1 : Int32).toInt = 1 := by decide
    have t93 : (τ.i 93).toInt = h := by rw [hi 93 (by decide)]; exact h93
    have t99 : τ.i 99 = τ0.i 99 := hi 99 (by decide)
    have es : (τ.i 93 - x2).toInt = h - x2.toInt := by rw [toInt_sub] <;> omega
    refine ok_ite (fun c => ?_) (fun c => ?_)
    · have hix : i.toInt = x2.toInt := by have := le_int c; omega
      refine ok_bind (p_record N (τ.setI 93 (τ.i 93 - x2)) 2 x4 x4 (τ.i 97) (by show 0 ≤ (τ.i 99).toInt; rw [t99]; omega) (by show (τ.i 99).toInt ≤ 250; rw [t99]; omega)) (fun p hp => ok_some ?_)
      obtain ⟨r1, r2, r3, r4, a0, a1, a2, a3, a4⟩ := hp
      have u99 : (τ.setI 93 (τ.i 93 - x2)).i 99 = τ0.i 99 := t99
      rw [u99] at r2 a0 a1 a2 a3 a4
      have ua : ∀ k : Nat, k ≠ 98 → (τ.setI 93 (τ.i 93 - x2)).a k = τ0.a k := ha
      rw [ua 100 (by decide)] at a0
      rw [ua 101 (by decide)] at a1
      rw [ua 102 (by decide)] at a2
      rw [ua 103 (by decide)] at a3
      rw [ua 104 (by decide)] at a4
      refine fin p.2 ((hX.tr (RX.i _ _ _ (by decide))).tr r1) (fun j d1 d2 d3 => ?_) ?_ ?_ r2 (fun k d1 d2 => (r4 k d2).trans (ua k d1)) a0 a1 a2 ⟨τ.i 97, by rw [h97, hix], a3⟩ ⟨τ.i 93 - x2, es, a4⟩
      · rw [r3 j d3]
        show (if j = 93 then _ else τ.i j) = _
        rw [if_neg d1]; exact hi j d2
      · rw [r3 93 (by decide)]; exact es
      · rw [r3 97 (by decide)]
        show (τ.i 97).toInt = _
        rw [h97, hix]
    · have hlt := lt_int (Int32.not_le.mp c)
      have ea : (τ.i 93 - x2 + i).toInt = h - x2.toInt + i.toInt := by rw [toInt_add] <;> rw [es] <;> omega
      have ei : (i + 1).toInt = i.toInt + 1 := by rw [toInt_add] <;> rw [e1] <;> omega
      have e97 : (τ.i 97 + 1).toInt = (τ.i 97).toInt + 1 := by rw [toInt_add] <;> rw [e1] <;> omega
      refine ok_chk ⟨by omega, by omega⟩ (ok_chk ⟨by omega, by omega⟩ ?_)
      refine p_o85 N hx1 hxh hh hw hl fin h93 h99 n _ (i + 1) (by omega) (by omega) ((hX.tr (RX.a _ _ _ _ (by decide))).tr (RX.i _ _ _ (by decide))) (fun j d1 => (if_neg d1).trans (hi j d1)) (fun k d1 => (if_neg d1).trans (ha k d1)) ?_ (by omega)
      show (τ.i 97 + 1).toInt = _
      omega
theorem p_o23 {N : Nat} (hN : 1000 ≤ N) {s σ τ : RS} {g : Gh} {k : Nat} {c : Ctx} {x1 x2 : Int32} (hp : PRE s σ τ g k c x1) (hx2 : x2.toInt = gv s 22 k) (hm : gv s 21 k = 23) : ok (f_X12_others N τ x1 x2) (fun R => ACT s σ R g k c.v) := by
  obtain ⟨k1, k2, k3, k4, k5, k6, k7, k8, k9⟩ := hp.fact
  obtain ⟨q1, q2, q3, q4⟩ := okI_23 k1 hm
  have hp0 := hp
  obtain ⟨hW, hB, hk, hT, hb, hs, hpc, hx1, hone⟩ := hp
  obtain ⟨s1, s2, s3, s4, s5, s6⟩ := hs
  unfold f_X12_others
  refine ok_chk hp0.inb (ok_ite (fun _ => ?_) (fun q => absurd (hp0.eq hm (by decide)) q))
  rw [← hx2] at q1 q2 q3 q4
  have en : (τ.i 99).toNatClampNeg = c.rs.length := by
    show (τ.i 99).toInt.toNat = c.rs.length
    rw [s5]; exact Int.toNat_natCast _
  have e2 : (2 : Int32).toInt = 2 := by decide
  refine p_o85 N (τ0 := τ) (rs := c.rs) (h := c.h) q1 q2 k3 q3 k7 (fun R b1 b2 b3 b4 b5 b6 a0 a1 a2 a3 a4 => ?_) s1 s5 N τ 0 (by rw [z_t0]; omega) (by rw [z_t0]; omega) (RX.rf _) (fun _ _ => rfl) (fun _ _ => rfl) (by rw [z_t0, s2]; omega) (by rw [z_t0]; omega)
  obtain ⟨y3, y3e, a3⟩ := a3
  obtain ⟨y4, y4e, a4⟩ := a4
  rw [en] at a0 a1 a2 a3 a4
  have hbR : BS s σ R g := hb.of b1 (b2 95 (by decide) (by decide) (by decide)) (b6 96 (by decide) (by omega)) (b6 84 (by decide) (by omega)) (b2 81 (by decide) (by decide) (by decide)) (b2 85 (by decide) (by decide) (by decide)) (b2 80 (by decide) (by decide) (by decide)) (b6 88 (by decide) (by omega)) (b6 86 (by decide) (by omega)) (b2 115 (by decide) (by decide) (by decide))
  refine act_FL hB hbR q4 (by rw [b2 92 (by decide) (by decide) (by decide)]; exact hpc) ?_
  have other : ∀ i : Nat, i < c.rs.length → ∀ k9 : Nat, 100 ≤ k9 → k9 ≤ 109 → gv R k9 i = gv τ k9 i := by
    intro i hi k9 h1 h2
    have hne : ¬ i = c.rs.length := by omega
    by_cases cc : 105 ≤ k9
    · exact gv_of (b6 k9 (by omega) (Or.inr cc)) i
    · rcases (show k9 = 100 ∨ k9 = 101 ∨ k9 = 102 ∨ k9 = 103 ∨ k9 = 104 by omega) with rfl | rfl | rfl | rfl | rfl
      · rw [gv_upd a0, if_neg hne]; rfl
      · rw [gv_upd a1, if_neg hne]; rfl
      · rw [gv_upd a2, if_neg hne]; rfl
      · rw [gv_upd a3, if_neg hne]; rfl
      · rw [gv_upd a4, if_neg hne]; rfl
  have hwv : wv ((2, 0, x2.toInt.toNat, c.h - x2.toInt.toNat, c.o, c.v, false, false) :: c.rs) = x2.toInt.toNat + wv c.rs := by
    unfold wv
    rw [if_pos (show Rec.k (2, 0, x2.toInt.toNat, c.h - x2.toInt.toNat, c.o, c.v, false, false) = 2 from rfl)]
    congr 1
    cases c.rs <;> rfl
  refine ⟨by rw [b3]; omega, by rw [b4, hwv]; omega, by rw [b2 95 (by decide) (by decide) (by decide)]; exact s3, by rw [b2 95 (by decide) (by decide) (by decide)]; exact s4, by rw [b5, s5]; rfl, ⟨?_, ?_, ?_, ?_, ?_, ?_⟩, RM.of (σ := τ) other s6⟩
  · rw [gv_upd a0, if_pos rfl]; exact e2
  · rw [gv_upd a4, if_pos rfl, y4e]
    show _ = ((c.h - x2.toInt.toNat : Nat) : Int)
    omega
  · intro q; exact absurd q (by show ¬ (2 : Nat) = 1; decide)
  · intro _
    refine ⟨by rw [gv_upd a1, if_pos rfl]; exact s2, by rw [gv_upd a2, if_pos rfl, s2]; exact Int.le_refl _, ?_, ?_⟩
    · rw [gv_upd a2, if_pos rfl, gv_upd a3, if_pos rfl, y3e, s2]; omega
    · rw [gv_upd a3, if_pos rfl, y3e]
      show _ = (wv c.rs : Int) + (x2.toInt.toNat : Nat)
      omega
  · intro q; exact absurd q (by show ¬ (2 : Nat) = 3; decide)
  · intro q; exact absurd q (by show ¬ (2 : Nat) = 4; decide)
theorem p_o24 {N : Nat} {s σ τ : RS} {g : Gh} {k : Nat} {c : Ctx} {x1 x2 : Int32} (hp : PRE s σ τ g k c x1) (hx2 : x2.toInt = gv s 22 k) (hm : gv s 21 k = 24) : ok (f_X12_others N τ x1 x2) (fun R => ACT s σ R g k c.v) := by
  obtain ⟨k1, k2, k3, k4, k5, k6, k7, k8, k9⟩ := hp.fact
  obtain ⟨q1, q2, q3, q4, r, rs, q5, q6⟩ := okI_24 k1 hm
  have hp0 := hp
  obtain ⟨hW, hB, hk, hT, hb, hs, hpc, hx1, hone⟩ := hp
  have hs0 := hs
  obtain ⟨s1, s2, s3, s4, s5, s6⟩ := hs
  rw [q5] at s5 s6 k7 s2
  have k4' := k4
  rw [q5] at k4'
  have s5 : (τ.i 99).toInt = (rs.length : Int) + 1 := s5
  have k7 : rs.length + 1 ≤ 250 := k7
  have hx := sub1 s5 (by omega)
  have en : (τ.i 99 - 1).toNatClampNeg = rs.length := by
    show (τ.i 99 - 1).toInt.toNat = rs.length
    rw [hx]; exact Int.toNat_natCast _
  obtain ⟨n1, n2, n3, n4, n5, n6⟩ := s6.1
  obtain ⟨w1, w2, w3, w4⟩ := n4 q6
  have hwv : wv (r :: rs) = r.p + wv rs := by
    unfold wv; rw [if_pos q6]; congr 1; cases rs <;> rfl
  unfold f_X12_others
  refine ok_chk hp0.inb (ok_ite (fun q => absurd q (hp0.ne hm (z := 23) (by decide) (by decide))) (fun _ => ok_ite (fun _ => ?_) (fun q => absurd (hp0.eq hm (by decide)) q)))
  refine ok_chk ⟨by omega, by omega⟩ (ok_ite (fun cc => ok_some ?_) (fun cc => ?_))
  · refine act_FL hB (hb.of (RX.i _ _ _ (by decide)) rfl rfl rfl rfl rfl rfl rfl rfl rfl) q3 (show x2.toInt = _ from hx2) (hs0.of s1 rfl rfl rfl (fun _ _ _ => rfl))
  · have hne : gv τ 102 rs.length ≠ gv τ 103 rs.length := by
      intro q
      refine cc (Int32.toInt_inj.mp ?_)
      rw [en]; exact q
    have hD := hb.2.1
    refine ok_bind (p_step N τ hD.2.2.2.2.1.1 hD.2.2.2.2.1.2) (fun p hp9 => ?_)
    obtain ⟨a1, a2, a3⟩ := hp9
    have ey : (p.a 23 x1.toNatClampNeg).toInt = gv s 23 k := by rw [a2]; exact hp0.g 23 (by decide)
    have e102 : (p.a 102 (τ.i 99 - 1).toNatClampNeg).toInt = gv τ 102 rs.length := by rw [a2, en]; rfl
    refine ok_chk ⟨by rw [e102]; omega, by rw [e102]; omega⟩ (ok_chk ⟨by rw [ey]; exact q1.1, by rw [ey]; exact q1.2⟩ (ok_some ?_))
    have hXp : RX s p := hb.1.tr a1
    -- the state that comes out
    generalize hR : (p.setA 84 (p.a 23 x1.toNatClampNeg).toNatClampNeg (p.a 98 (p.a 102 (τ.i 99 - 1).toNatClampNeg).toNatClampNeg)).setA 102 (τ.i 99 - 1).toNatClampNeg (p.a 102 (τ.i 99 - 1).toNatClampNeg + 1) = R
    have hi : ∀ j : Nat, R.i j = p.i j := fun j => by rw [← hR]; rfl
    have ha : ∀ j : Nat, j ≠ 84 → j ≠ 102 → R.a j = τ.a j := fun j d1 d2 => by
      rw [← hR, ← a2]
      show (if j = 102 then _ else if j = 84 then _ else p.a j) = p.a j
      rw [if_neg d2, if_neg d1]
    have h84 : R.a 84 = upd (τ.a 84) (p.a 23 x1.toNatClampNeg).toNatClampNeg (p.a 98 (p.a 102 (τ.i 99 - 1).toNatClampNeg).toNatClampNeg) := by rw [← hR, ← a2]; rfl
    have h102 : R.a 102 = upd (τ.a 102) rs.length (p.a 102 (τ.i 99 - 1).toNatClampNeg + 1) := by rw [← hR, ← a2, ← en]; rfl
    have hXR : RX s R := by rw [← hR]; exact hXp.tr ((RX.a _ _ _ _ (by decide)).tr (RX.a _ _ _ _ (by decide)))
    have eyn : (p.a 23 x1.toNatClampNeg).toNatClampNeg = (gv s 23 k).toNat := by
      show (p.a 23 x1.toNatClampNeg).toInt.toNat = _
      rw [ey]
    have e1 : (1 : Int32).toInt = 1 := by decide
    have e1' : (p.a 102 (τ.i 99 - 1).toNatClampNeg + 1).toInt = gv τ 102 rs.length + 1 := by rw [toInt_add] <;> rw [e102, e1] <;> omega
    have hRM : RM s R g (r :: rs) := by
      refine ⟨⟨by rw [gv_of (ha 100 (by decide) (by decide))]; exact n1, by rw [gv_of (ha 104 (by decide) (by decide))]; exact n2, fun z => absurd z (by rw [q6]; decide), fun _ => ⟨by rw [gv_of (ha 101 (by decide) (by decide))]; exact w1, ?_, ?_, by rw [gv_of (ha 103 (by decide) (by decide))]; exact w4⟩, fun z => absurd z (by rw [q6]; decide), fun z => absurd z (by rw [q6]; decide)⟩, RM.of (σ := τ) (fun i hi9 k9 d1 d2 => ?_) s6.2⟩
      · rw [gv_upd h102, if_pos rfl, e1']; omega
      · rw [gv_upd h102, if_pos rfl, e1', gv_of (ha 103 (by decide) (by decide))]; omega
      · by_cases z : k9 = 102
        · subst z; rw [gv_upd h102, if_neg (by omega)]; rfl
        · exact gv_of (ha k9 (by omega) z) i
    have hRD : 0 ≤ R.i 80 ∧ R.i 80 ≤ 1000 → (∀ j : Nat, j ≠ 80 → j ≠ 92 → j ≠ 115 → R.i j = τ.i j) → RD R g := by
      intro g80 gi
      obtain ⟨E1, E2, E3, E4, E5, E6, E7⟩ := hD
      refine ⟨fun j h2 h3 => ?_, fun y h2 h3 => ?_, ?_, ?_, g80, fun t h2 => ?_, fun t h2 => ?_⟩
      · rw [gv_of (ha 96 (by decide) (by decide))]; rw [gi 95 (by decide) (by decide) (by decide)] at h3; exact E1 j h2 h3
      · rw [gv_upd h84]
        by_cases w : y = (p.a 23 x1.toNatClampNeg).toNatClampNeg
        · rw [eyn] at w
          rw [w] at h3
          exact absurd (h3.symm.trans q2) (by decide)
        · rw [if_neg w]; exact E2 y h2 h3
      · rw [gi 81 (by decide) (by decide) (by decide)]; exact E3
      · rw [gi 85 (by decide) (by decide) (by decide)]; exact E4
      · rw [gv_of (ha 88 (by decide) (by decide))]; exact E6 t h2
      · rw [gv_of (ha 86 (by decide) (by decide)), gi 3 (by decide) (by decide) (by decide)]; exact E7 t h2
    rcases a3 with ⟨b1, b2, b3, b4⟩ | ⟨b1, b2, b3, b4⟩
    · have gi : ∀ j : Nat, j ≠ 80 → j ≠ 92 → j ≠ 115 → R.i j = τ.i j := fun j _ d2 d3 => (hi j).trans (b4 j d2 d3)
      have h80 : R.i 80 = τ.i 80 := (hi 80).trans b2
      refine ⟨hXR, hXR.B hB, hRD (by rw [h80]; exact hD.2.2.2.2.1) gi, Or.inl ⟨h80.trans hb.2.2.1, Or.inl ?_⟩, Or.inr ⟨by rw [hi 92, b1]; decide, fun z => ?_⟩⟩
      · rw [hi 92, b1]; decide
      · rw [hi 115, b3] at z; exact absurd z (by decide)
    · have gi : ∀ j : Nat, j ≠ 80 → j ≠ 92 → j ≠ 115 → R.i j = τ.i j := fun j d1 _ _ => (hi j).trans (b4 j d1)
      refine ⟨hXR, hXR.B hB, hRD (by rw [hi 80]; exact ⟨b2, b3⟩) gi, Or.inr ⟨?_, ?_⟩, Or.inl ?_⟩
      · rw [hi 80, b1, hb.2.2.1]
      · refine out_FS q4 (by rw [hi 92, b4 92 (by decide)]; exact hpc) ?_
        refine ⟨by rw [gi 93 (by decide) (by decide) (by decide)]; exact s1, by rw [gi 97 (by decide) (by decide) (by decide), q5]; exact s2, by rw [gi 95 (by decide) (by decide) (by decide)]; exact s3, by rw [gi 95 (by decide) (by decide) (by decide)]; exact s4, by rw [gi 99 (by decide) (by decide) (by decide), q5]; exact s5, by rw [q5]; exact hRM⟩
      · rw [hi 115, b4 115 (by decide)]; exact hb.2.2.2
theorem p_o25 {N : Nat} {s σ τ : RS} {g : Gh} {k : Nat} {c : Ctx} {x1 x2 : Int32} (hp : PRE s σ τ g k c x1) (hm : gv s 21 k = 25) : ok (f_X12_others N τ x1 x2) (fun R => ACT s σ R g k c.v) := by
  obtain ⟨k1, k2, k3, k4, k5, k6, k7, k8, k9⟩ := hp.fact
  obtain ⟨r, rs, q5, q6, q7⟩ := okI_25 k1 hm
  have hp0 := hp
  obtain ⟨hW, hB, hk, hT, hb, hs, hpc, hx1, hone⟩ := hp
  obtain ⟨s1, s2, s3, s4, s5, s6⟩ := hs
  rw [q5] at s5 s6 k7
  have s5 : (τ.i 99).toInt = (rs.length : Int) + 1 := s5
  have k7 : rs.length + 1 ≤ 250 := k7
  have hx := sub1 s5 (by omega)
  have en : (τ.i 99 - 1).toNatClampNeg = rs.length := by
    show (τ.i 99 - 1).toInt.toNat = rs.length
    rw [hx]; exact Int.toNat_natCast _
  unfold f_X12_others
  refine ok_chk hp0.inb (ok_ite (fun q => absurd q (hp0.ne hm (z := 23) (by decide) (by decide))) (fun _ => ok_ite (fun q => absurd q (hp0.ne hm (z := 24) (by decide) (by decide))) (fun _ => ok_ite (fun _ => ?_) (fun q => absurd (hp0.eq hm (by decide)) q))))
  refine ok_chk ⟨by omega, by omega⟩ (ok_some ?_)
  refine act_FL hB (hb.of ((RX.i _ _ _ (by decide)).tr (RX.i _ _ _ (by decide))) rfl rfl rfl rfl rfl rfl rfl rfl rfl) q7 hpc ⟨s1, ?_, s3, s4, hx, RM.of (σ := τ) (fun _ _ _ _ _ => rfl) s6.2⟩
  show (τ.a 101 (τ.i 99 - 1).toNatClampNeg).toInt = _
  rw [en]; exact (s6.1.2.2.2.1 q6).1
theorem p_o31 {N : Nat} {s σ τ : RS} {g : Gh} {k : Nat} {c : Ctx} {x1 x2 : Int32} (hp : PRE s σ τ g k c x1) (hx2 : x2.toInt = gv s 22 k) (hm : gv s 21 k = 31) : ok (f_X12_others N τ x1 x2) (fun R => ACT s σ R g k c.v) := by
  obtain ⟨k1, k2, k3, k4, k5, k6, k7, k8, k9⟩ := hp.fact
  obtain ⟨q1, q2, ps, ek, q3⟩ := okI_31 k1 hm
  have hp0 := hp
  obtain ⟨hW, hB, hk, hT, hb, hs, hpc, hx1, hone⟩ := hp
  unfold f_X12_others
  refine ok_chk hp0.inb ?_
  refine ok_ite (fun q => absurd q (hp0.ne hm (z := 23) (by decide) (by decide))) (fun _ => ok_ite (fun q => absurd q (hp0.ne hm (z := 24) (by decide) (by decide))) (fun _ => ok_ite (fun q => absurd q (hp0.ne hm (z := 25) (by decide) (by decide))) (fun _ => ok_ite (fun q => absurd q (hp0.ne hm (z := 26) (by decide) (by decide))) (fun _ => ok_ite (fun q => absurd q (hp0.ne hm (z := 27) (by decide) (by decide))) (fun _ => ok_ite (fun q => absurd q (hp0.ne hm (z := 28) (by decide) (by decide))) (fun _ => ok_ite (fun q => absurd q (hp0.ne hm (z := 29) (by decide) (by decide))) (fun _ => ok_ite (fun q => absurd q (hp0.ne hm (z := 30) (by decide) (by decide))) (fun _ => ok_ite (fun _ => ?_) (fun q => absurd (hp0.eq hm (by decide)) q)))))))))
  have s5 := hs.2.2.2.2.1
  refine ok_bind (p_record N τ 4 x2 0 (τ.i 95) (by omega) (by omega)) (fun p hp9 => ok_some ?_)
  obtain ⟨r1, r2, r3, r4, a0, a1, a2, a3, a4⟩ := hp9
  refine act_FL hB (hb.rec r1 r3 r4) q3 (by rw [r3 92 (by decide)]; exact hpc) ?_
  refine hs.rec (σ := σ) (r := (4, (gv s 22 k).toNat, 0, c.h, c.o, c.v, ps, ek)) ?_ (Or.inr (Or.inr ⟨rfl, rfl⟩)) rfl (x1 := 4) (x2 := x2) (x3 := 0) (x4 := τ.i 95) (show (4 : Int32).toInt = ((4 : Nat) : Int) by decide) ?_ (fun _ => z_t0) (fun _ => ⟨hs.2.2.1, hs.2.2.2.1⟩) r2 r3 r4 a0 a1 a2 a3 a4
  · unfold wv
    rw [if_neg (show ¬ Rec.k (4, (gv s 22 k).toNat, 0, c.h, c.o, c.v, ps, ek) = 2 by show ¬ (4 : Nat) = 2; decide), Nat.zero_add]
    cases c.rs <;> rfl
  · rw [hx2]
    show _ = (((gv s 22 k).toNat : Nat) : Int)
    omega
theorem p_o32 {N : Nat} (hN : 1000 ≤ N) {s σ τ : RS} {g : Gh} {k : Nat} {c : Ctx} {x1 x2 : Int32} (hp : PRE s σ τ g k c x1) (hx2 : x2.toInt = gv s 22 k) (hm : gv s 21 k = 32) : ok (f_X12_others N τ x1 x2) (fun R => ACT s σ R g k c.v) := by
  obtain ⟨k1, k2, k3, k4, k5, k6, k7, k8, k9⟩ := hp.fact
  obtain ⟨q1, q2, q3⟩ := okI_32 k1 hm
  have hp0 := hp
  obtain ⟨hW, hB, hk, hT, hb, hs, hpc, hx1, hone⟩ := hp
  unfold f_X12_others
  refine ok_chk hp0.inb ?_
  refine ok_ite (fun q => absurd q (hp0.ne hm (z := 23) (by decide) (by decide))) (fun _ => ok_ite (fun q => absurd q (hp0.ne hm (z := 24) (by decide) (by decide))) (fun _ => ok_ite (fun q => absurd q (hp0.ne hm (z := 25) (by decide) (by decide))) (fun _ => ok_ite (fun q => absurd q (hp0.ne hm (z := 26) (by decide) (by decide))) (fun _ => ok_ite (fun q => absurd q (hp0.ne hm (z := 27) (by decide) (by decide))) (fun _ => ok_ite (fun q => absurd q (hp0.ne hm (z := 28) (by decide) (by decide))) (fun _ => ok_ite (fun q => absurd q (hp0.ne hm (z := 29) (by decide) (by decide))) (fun _ => ok_ite (fun q => absurd q (hp0.ne hm (z := 30) (by decide) (by decide))) (fun _ => ok_ite (fun q => absurd q (hp0.ne hm (z := 31) (by decide) (by decide))) (fun _ => ok_ite (fun _ => ?_) (fun q => absurd (hp0.eq hm (by decide)) q))))))))))
  have hx8 : ib x2 8 := ⟨by omega, by omega⟩
  have e8 := clampI hx8.1
  have hD := hb.2.1
  have hs0 := hs
  obtain ⟨s1, s2, s3, s4, s5, s6⟩ := hs
  obtain ⟨f1, f2, f3⟩ := q3
  have e1 : (1 : Int32).toInt = 1 := by decide
  refine ok_chk hx8 (ok_ite (fun c1 => ok_ite (fun c2 => ?_) (fun c2 => ok_some ?_)) (fun c1 => ?_))
  · refine ok_bind (p_row N τ 1 x2 hD.2.2.1.1 hD.2.2.1.2) (fun p hp9 => ?_)
    obtain ⟨r1, r2, r3, r4, r5⟩ := hp9
    have h95 : p.i 95 = τ.i 95 := r4 95 (by decide)
    have hib : ib (p.i 95) 460 := by rw [h95]; exact ⟨s3, by omega⟩
    refine ok_chk hib (ok_some ?_)
    have hbp := hb.row r1 r2 r3 r4 r5
    have e95 : (p.i 95 + 1).toInt = (τ.i 95).toInt + 1 := by rw [toInt_add] <;> rw [h95, e1] <;> omega
    have en95 := clampI hib.1
    have hX2 : RX p ((p.setA 96 (p.i 95).toNatClampNeg x2).setI 95 (p.i 95 + 1)) := (RX.a _ _ _ _ (by decide)).tr (RX.i _ _ _ (by decide))
    refine act_FL (o := c.o + 1) hB ⟨hbp.1.tr hX2, ?_, hbp.2.2.1, hbp.2.2.2⟩ ⟨f1, f2, f3⟩ (by show (p.i 92).toInt = _; rw [r4 92 (by decide)]; exact hpc) ⟨by show (p.i 93).toInt = _; rw [r4 93 (by decide)]; exact s1, by show (p.i 97).toInt = _; rw [r4 97 (by decide)]; exact s2, by show 0 ≤ (p.i 95 + 1).toInt; omega, by show (p.i 95 + 1).toInt ≤ _; omega, by show (p.i 99).toInt = _; rw [r4 99 (by decide)]; exact s5, ?_⟩
    · obtain ⟨E1, E2, E3, E4, E5, E6, E7⟩ := hbp.2.1
      refine ⟨fun j h2 h3 => ?_, E2, E3, E4, E5, E6, E7⟩
      have h3 : (j : Int) < (p.i 95 + 1).toInt := h3
      have : gv ((p.setA 96 (p.i 95).toNatClampNeg x2).setI 95 (p.i 95 + 1)) 96 j = if j = (p.i 95).toNatClampNeg then x2.toInt else (p.a 96 j).toInt := gv_upd rfl
      rw [this]
      by_cases w : j = (p.i 95).toNatClampNeg
      · rw [if_pos w]; exact ⟨by omega, by omega⟩
      · rw [if_neg w]; exact E1 j h2 (by have h9 : (p.i 95).toInt = (τ.i 95).toInt := (by rw [h95]); omega)
    · refine RM.of (σ := τ) (fun i _ k9 d1 d2 => ?_) s6
      have : gv ((p.setA 96 (p.i 95).toNatClampNeg x2).setI 95 (p.i 95 + 1)) k9 i = gv p k9 i := by
        unfold gv; simp only [ra_setI, ra_setA]; rw [if_neg (by omega)]
      rw [this]; exact gv_of (r5 k9 (by omega) (by omega)) i
  · refine act_FL (o := c.o + 1) hB hb ⟨f1, f2, f3⟩ hpc ⟨s1, s2, s3, by omega, s5, s6⟩
  · have hop := hb.1.B hB
    have h6 := hop.2.2.2.1 x2.toNatClampNeg (by omega)
    have g2 := le_int h6.2
    have g1 := le_int h6.1
    have g3 := le_int hop.2.1.2
    have e12 : (12 : Int32).toInt = 12 := by decide
    rw [z_t0] at g1
    refine hp0.raise hN hb hs0 ?_
    have : (τ.a 6 x2.toNatClampNeg - 1).toInt = (τ.a 6 x2.toNatClampNeg).toInt - 1 := by rw [toInt_sub] <;> rw [e1] <;> omega
    rw [this]
    have h3 : τ.i 3 = s.i 3 := hb.1.2.2.1 3 (by decide)
    rw [h3] at g2
    omega
/-- goOn: the finally, or behind the try -/
theorem p_goOn {N : Nat} {s σ τ : RS} {g : Gh} {k v : Nat} {r : Rec} {rs : List Rec} {x1 : Int32} (hW : WT s g) (hB : RB s) (hb : BS s σ τ g) (hx : x1.toInt = rs.length) (hR : (τ.i 99).toInt = (rs.length : Int) + 1) (hl : rs.length + 1 ≤ 250) (hM : RM s τ g (r :: rs)) (hO : recOK s g k v r rs) (hw : (τ.i 97).toInt = wv (r :: rs)) (h95 : 0 ≤ (τ.i 95).toInt) (h95r : (τ.i 95).toInt ≤ r.o) (hk : r.k = 4) (hp : r.p < 2) (hh : (τ.i 93).toInt = r.h) (h0 : τ.i 110 = 0) (he : endT s g k v r rs) : ok (f_X12_goOn N τ x1) (fun R => ACT s σ R g k v) := by
  have hx1 : x1.toNatClampNeg = rs.length := by
    show x1.toInt.toNat = rs.length
    rw [hx]; exact Int.toNat_natCast _
  have hM1 := hM.1
  obtain ⟨n1, n2, -, -, -, n6⟩ := hM1
  obtain ⟨q1, q2, q3, q4, q5⟩ := n6 hk
  have f4 := hO.four hk
  have w2 := hW.2.1
  have hX := hb.1
  unfold f_X12_goOn
  rw [e_finals (a := r.a) (show ib x1 300 from ⟨by omega, by omega⟩) (by rw [hx1]; exact q1) (by omega)]
  have e31' : gv τ 31 r.a = gv s 31 r.a := gv_of (hX.2.2.2 31 (by decide)) _
  by_cases hf : 0 ≤ gv τ 31 r.a
  · rw [if_pos hf]
    show ok (some (FIN τ x1.toNatClampNeg (τ.a 31 r.a))) _
    refine ok_some ?_
    have hf' : 0 ≤ gv s 31 r.a := by rw [← e31']; exact hf
    refine ⟨FIN_X hX, (FIN_X hX).B hB, RD.of hb.2.1 rfl rfl rfl rfl rfl rfl rfl rfl rfl, Or.inl ⟨hb.2.2.1, ?_⟩, Or.inl hb.2.2.2⟩
    exact fin_out (h := 0) (o := 0) hx1 hB hX hb.2.1 hR hM hO hw h95 h95r hk hp hf' (Or.inl ⟨h0, he.1 hf'⟩)
  · rw [if_neg hf]
    show ok (if (0 : Int32) = 0 then (if ib x1 300 then (if ib (τ.a 101 x1.toNatClampNeg) 200 then some ((τ.setI 99 (τ.i 99 - 1)).setI 92 (τ.a 32 (τ.a 101 x1.toNatClampNeg).toNatClampNeg)) else none) else none) else some τ) _
    refine ok_ite (fun _ => ?_) (fun q => absurd rfl q)
    have hr : (τ.a 101 x1.toNatClampNeg).toInt = r.a := by rw [hx1]; exact q1
    have ea : (τ.a 101 x1.toNatClampNeg).toNatClampNeg = r.a := by
      show (τ.a 101 x1.toNatClampNeg).toInt.toNat = r.a
      rw [hr]; exact Int.toNat_natCast _
    refine ok_chk ⟨by omega, by omega⟩ (ok_chk ⟨by rw [hr]; omega, by rw [hr]; omega⟩ (ok_some ?_))
    rw [ea]
    have e32 : (τ.a 32 r.a).toInt = gv s 32 r.a := gv_of (hX.2.2.2 32 (by decide)) _
    refine act_FL (o := r.o) hB (hb.of ((RX.i _ _ _ (by decide)).tr (RX.i _ _ _ (by decide))) rfl rfl rfl rfl rfl rfl rfl rfl rfl) (he.2 (by rw [← e31']; exact hf)) e32 ⟨hh, ?_, h95, h95r, sub1 hR (by omega), RM.of (σ := τ) (fun _ _ _ _ _ => rfl) hM.2⟩
    show (τ.i 97).toInt = _
    rw [hw]; unfold wv; rw [if_neg (by rw [hk]; decide), Nat.zero_add]
    cases rs <;> rfl
theorem p_o34 {N : Nat} {s σ τ : RS} {g : Gh} {k : Nat} {c : Ctx} {x1 x2 : Int32} (hp : PRE s σ τ g k c x1) (hm : gv s 21 k = 34) : ok (f_X12_others N τ x1 x2) (fun R => ACT s σ R g k c.v) := by
  obtain ⟨k1, k2, k3, k4, k5, k6, k7, k8, k9⟩ := hp.fact
  obtain ⟨r, rs, q5, q6, q7, q8, q9⟩ := okI_34 k1 hm
  have hp0 := hp
  obtain ⟨hW, hB, hk, hT, hb, hs, hpc, hx1, hone⟩ := hp
  obtain ⟨s1, s2, s3, s4, s5, s6⟩ := hs
  rw [q5] at s5 s6 k7 s2 k2 k5
  have s5 : (τ.i 99).toInt = (rs.length : Int) + 1 := s5
  have k7 : rs.length + 1 ≤ 250 := k7
  unfold f_X12_others
  refine ok_chk hp0.inb ?_
  refine ok_ite (fun q => absurd q (hp0.ne hm (z := 23) (by decide) (by decide))) (fun _ => ok_ite (fun q => absurd q (hp0.ne hm (z := 24) (by decide) (by decide))) (fun _ => ok_ite (fun q => absurd q (hp0.ne hm (z := 25) (by decide) (by decide))) (fun _ => ok_ite (fun q => absurd q (hp0.ne hm (z := 26) (by decide) (by decide))) (fun _ => ok_ite (fun q => absurd q (hp0.ne hm (z := 27) (by decide) (by decide))) (fun _ => ok_ite (fun q => absurd q (hp0.ne hm (z := 28) (by decide) (by decide))) (fun _ => ok_ite (fun q => absurd q (hp0.ne hm (z := 29) (by decide) (by decide))) (fun _ => ok_ite (fun q => absurd q (hp0.ne hm (z := 30) (by decide) (by decide))) (fun _ => ok_ite (fun q => absurd q (hp0.ne hm (z := 31) (by decide) (by decide))) (fun _ => ok_ite (fun q => absurd q (hp0.ne hm (z := 32) (by decide) (by decide))) (fun _ => ok_ite (fun q => absurd q (hp0.ne hm (z := 33) (by decide) (by decide))) (fun _ => ok_ite (fun _ => ?_) (fun q => absurd (hp0.eq hm (by decide)) q))))))))))))
  have ho : (τ.i 95).toInt ≤ r.o := by
    rcases k5.1 with z | z
    · rw [q7] at z; exact absurd z.2 (by decide)
    · omega
  refine ok_bind (p_goOn (N := N) hW hB (hb.of (RX.i _ 110 0 (by decide)) rfl rfl rfl rfl rfl rfl rfl rfl rfl) (sub1 s5 (by omega)) s5 k7 (RM.of (σ := τ) (fun _ _ _ _ _ => rfl) s6) k2.1 s2 s3 ho q6 (by omega) (by show (τ.i 93).toInt = _; rw [s1, q8]) rfl q9) (fun R hR => ok_some hR)
theorem p_o33 {N : Nat} (hN : 1000 ≤ N) {s σ τ : RS} {g : Gh} {k : Nat} {c : Ctx} {x1 x2 : Int32} (hp : PRE s σ τ g k c x1) (hm : gv s 21 k = 33) : ok (f_X12_others N τ x1 x2) (fun R => ACT s σ R g k c.v) := by
  obtain ⟨k1, k2, k3, k4, k5, k6, k7, k8, k9⟩ := hp.fact
  obtain ⟨r, rs, q5, q6, q7, q8, q9⟩ := okI_33 k1 hm
  have hp0 := hp
  obtain ⟨hW, hB, hk, hT, hb, hs, hpc, hx1, hone⟩ := hp
  have hs0 := hs
  obtain ⟨s1, s2, s3, s4, s5, s6⟩ := hs
  rw [q5] at s5 s6 k7 s2 k2 k5
  have s5 : (τ.i 99).toInt = (rs.length : Int) + 1 := s5
  have k7 : rs.length + 1 ≤ 250 := k7
  have hx := sub1 s5 (by omega)
  have en : (τ.i 99 - 1).toNatClampNeg = rs.length := by
    show (τ.i 99 - 1).toInt.toNat = rs.length
    rw [hx]; exact Int.toNat_natCast _
  obtain ⟨n1, n2, -, -, -, n6⟩ := s6.1
  obtain ⟨z1, z2, z3, z4, z5⟩ := n6 q6
  unfold f_X12_others
  refine ok_chk hp0.inb (ok_neg (hp0.ne hm (z := 23) (by decide) (by decide)) (ok_neg (hp0.ne hm (z := 24) (by decide) (by decide)) (ok_neg (hp0.ne hm (z := 25) (by decide) (by decide)) (ok_neg (hp0.ne hm (z := 26) (by decide) (by decide)) (ok_neg (hp0.ne hm (z := 27) (by decide) (by decide)) (ok_neg (hp0.ne hm (z := 28) (by decide) (by decide)) (ok_neg (hp0.ne hm (z := 29) (by decide) (by decide)) (ok_neg (hp0.ne hm (z := 30) (by decide) (by decide)) (ok_neg (hp0.ne hm (z := 31) (by decide) (by decide)) (ok_neg (hp0.ne hm (z := 32) (by decide) (by decide)) (ok_pos (hp0.eq hm (by decide)) ?_)))))))))))
  have hb1 : BS s σ (τ.setI 110 0) g := hb.of (RX.i _ 110 0 (by decide)) rfl rfl rfl rfl rfl rfl rfl rfl rfl
  unfold f_X12_closeAll
  refine ok_bind (p_closeAll N g (τ.i 99 - 1) ⟨by omega, by omega⟩ N (τ.setI 110 0) (hb1.1.B hB) hb1.2.1 (by rw [en]; exact z3) s3 (by show (τ.i 95).toInt ≤ 450; omega) (fun q => absurd q (show ¬ (0 : Int32) = 3 by decide)) (by show (τ.i 95).toInt < _; omega)) (fun p hp9 => ?_)
  obtain ⟨b1, b2, b3, b4, b5, b6, b7, b8⟩ := hp9
  have i0 : ∀ j : Nat, j ≠ 81 → j ≠ 85 → j ≠ 95 → j ≠ 110 → j ≠ 114 → p.i j = τ.i j := fun j d1 d2 d3 d4 d5 => (b3 j d1 d2 d3 d4 d5).trans (if_neg d4)
  have hMp : RM s p g (r :: rs) := RM.of (σ := τ) (fun i _ k9 h1 _ => gv_of (b4 k9 (by omega)) i) s6
  have hbp : BS s σ p g := ⟨hb1.1.tr b1, b2, (i0 80 (by decide) (by decide) (by decide) (by decide) (by decide)).trans hb.2.2.1, (i0 115 (by decide) (by decide) (by decide) (by decide) (by decide)).trans hb.2.2.2⟩
  have h99 : p.i 99 = τ.i 99 := i0 99 (by decide) (by decide) (by decide) (by decide) (by decide)
  have h97 : p.i 97 = τ.i 97 := i0 97 (by decide) (by decide) (by decide) (by decide) (by decide)
  have h93 : p.i 93 = τ.i 93 := i0 93 (by decide) (by decide) (by decide) (by decide) (by decide)
  have h103 : gv (τ.setI 110 0) 103 (τ.i 99 - 1).toNatClampNeg = gv τ 103 rs.length := by rw [en]; rfl
  have hor : (p.i 95).toInt ≤ r.o := by rw [h103] at b6; omega
  refine ok_ite (fun c3 => ?_) (fun c3 => ?_)
  · have ho2 : (p.i 95).toInt ≤ c.o ∨ True := Or.inr trivial
    -- the body's end throws: leave from here
    have hst : ST s p g c.h r.o c.rs := by
      refine ⟨by rw [h93]; exact s1, by rw [h97, q5]; exact s2, b5, hor, by rw [h99, q5]; exact s5, by rw [q5]; exact hMp⟩
    have hoo : oOK r.o c.rs := by rw [q5]; exact ⟨Or.inl ⟨q6, q7⟩, k5.2⟩
    obtain ⟨kk1, kk2, kk3, kk4, kk5, kk6, kk7, kk8, kk9⟩ := hp0.fact
    obtain ⟨a1, a2, a3, a4, a5, a6⟩ := hst
    unfold f_X12_leave
    refine ok_bind (p_leave hN (h := 0) hW hB N p r.o c.rs ⟨hbp.1, hbp.1.B hB, hbp.2.1, a5, kk7, a6, kk2, a2, a3, a4, k2.1.2.1, hoo, Or.inr (Or.inr (Or.inl ⟨c3, b8 c3⟩))⟩ (by omega)) (fun R hR => ok_some ?_)
    exact LO.act (hR.of hbp.2.2.1 hbp.2.2.2)
  · have h110 : p.i 110 = 0 := by
      rcases b7 with b7 | b7
      · exact b7
      · exact absurd b7 c3
    refine ok_bind (p_goOn (N := N) hW hB hbp hx (by rw [h99]; exact s5) k7 hMp k2.1 (by rw [h97]; exact s2) b5 hor q6 (by omega) (by rw [h93, s1, q8]) h110 q9) (fun R hR => ok_some hR)
theorem hOs_four {s : RS} {g : Gh} {k v : Nat} {r : Rec} {rs : List Rec} (h : recOK s g k v r rs) (hk : r.k = 4) : r.v ≤ v ∧ (k : Int) < gv s 32 r.a := by
  rcases h.2.2 with q | q | q | q
  · rw [hk] at q; exact absurd q.1 (by decide)
  · rw [hk] at q; exact absurd q (by decide)
  · rw [hk] at q; exact absurd q.1 (by decide)
  · exact ⟨q.2.2.2.1, q.2.2.2.2.1⟩
theorem p_o35 {N : Nat} (hN : 1000 ≤ N) {s σ τ : RS} {g : Gh} {k : Nat} {c : Ctx} {x1 x2 : Int32} (hp : PRE s σ τ g k c x1) (hm : gv s 21 k = 35) : ok (f_X12_others N τ x1 x2) (fun R => ACT s σ R g k c.v) := by
  obtain ⟨k1, k2, k3, k4, k5, k6, k7, k8, k9⟩ := hp.fact
  obtain ⟨r, rs, q5, q6, q7, q8, q9, q10, q11⟩ := okI_35 k1 hm
  have hp0 := hp
  obtain ⟨hW, hB, hk, hT, hb, hs, hpc, hx1, hone⟩ := hp
  obtain ⟨s1, s2, s3, s4, s5, s6⟩ := hs
  rw [q5] at s5 s6 k7 s2 k2 k5 k4
  have s5 : (τ.i 99).toInt = (rs.length : Int) + 1 := s5
  have k7 : rs.length + 1 ≤ 250 := k7
  have hx := sub1 s5 (by omega)
  have en : (τ.i 99 - 1).toNatClampNeg = rs.length := by
    show (τ.i 99 - 1).toInt.toNat = rs.length
    rw [hx]; exact Int.toNat_natCast _
  obtain ⟨n1, n2, -, -, -, n6⟩ := s6.1
  obtain ⟨z1, z2, z3, z4, z5⟩ := n6 q6
  obtain ⟨y1, y2, y3⟩ := z5 q7
  obtain ⟨d0, d1, d3, d4⟩ := y3 q10
  have ho : (τ.i 95).toInt ≤ r.o := by
    rcases k5.1 with z | z
    · rw [q7] at z; exact absurd z.2 (by decide)
    · omega
  have hwv : wv (r :: rs) = wv rs := by
    unfold wv; rw [if_neg (by rw [q6]; decide), Nat.zero_add]; cases rs <;> rfl
  unfold f_X12_others
  refine ok_chk hp0.inb (ok_neg (hp0.ne hm (z := 23) (by decide) (by decide)) (ok_neg (hp0.ne hm (z := 24) (by decide) (by decide)) (ok_neg (hp0.ne hm (z := 25) (by decide) (by decide)) (ok_neg (hp0.ne hm (z := 26) (by decide) (by decide)) (ok_neg (hp0.ne hm (z := 27) (by decide) (by decide)) (ok_neg (hp0.ne hm (z := 28) (by decide) (by decide)) (ok_neg (hp0.ne hm (z := 29) (by decide) (by decide)) (ok_neg (hp0.ne hm (z := 30) (by decide) (by decide)) (ok_neg (hp0.ne hm (z := 31) (by decide) (by decide)) (ok_neg (hp0.ne hm (z := 32) (by decide) (by decide)) (ok_neg (hp0.ne hm (z := 33) (by decide) (by decide)) (ok_neg (hp0.ne hm (z := 34) (by decide) (by decide)) (ok_chk ⟨by omega, by omega⟩ ?_)))))))))))))
  generalize hR0 : (RS.setI (RS.setI (RS.setI (RS.setI (RS.setI (RS.setI τ 110 (τ.a 105 (τ.i 99 - 1).toNatClampNeg)) 111 (τ.a 106 (τ.i 99 - 1).toNatClampNeg)) 112 (τ.a 107 (τ.i 99 - 1).toNatClampNeg)) 113 (τ.a 108 (τ.i 99 - 1).toNatClampNeg)) 114 (τ.a 109 (τ.i 99 - 1).toNatClampNeg)) 99 (τ.i 99 - 1)) = R
  have e110 : (R.i 110).toInt = gv τ 105 rs.length := by rw [← hR0, ← en]; rfl
  have e111 : (R.i 111).toInt = gv τ 106 rs.length := by rw [← hR0, ← en]; rfl
  have e112 : (R.i 112).toInt = gv τ 107 rs.length := by rw [← hR0, ← en]; rfl
  have e114 : (R.i 114).toInt = gv τ 109 rs.length := by rw [← hR0, ← en]; rfl
  have e105 : (τ.a 105 (τ.i 99 - 1).toNatClampNeg).toInt = gv τ 105 rs.length := by rw [en]; rfl
  have hbR : BS s σ R g := by
    rw [← hR0]
    exact hb.of ((((((RX.i _ _ _ (by decide)).tr (RX.i _ _ _ (by decide))).tr (RX.i _ _ _ (by decide))).tr (RX.i _ _ _ (by decide))).tr (RX.i _ _ _ (by decide))).tr (RX.i _ _ _ (by decide))) rfl rfl rfl rfl rfl rfl rfl rfl rfl
  have hst : ST s R g r.h r.o rs := by
    rw [← hR0]
    exact ⟨by show (τ.i 93).toInt = _; rw [s1, q8], by show (τ.i 97).toInt = _; rw [s2, hwv], s3, ho, hx, RM.of (σ := τ) (fun _ _ _ _ _ => rfl) s6.2⟩
  have hpcR : (R.i 92).toInt = (k : Int) + 1 := by rw [← hR0]; exact hpc
  refine ok_ite (fun c0 => ok_some ?_) (fun c0 => ?_)
  · have : gv τ 105 rs.length = 0 := by rw [← e105, c0]; exact z_t0
    exact act_FL hB hbR (q11 (d0 this)) hpcR hst
  · have hne : gv τ 105 rs.length ≠ 0 := fun q => c0 (eqI (e105.trans q) z_t0)
    have f4 := (hOs_four k2.1 q6)
    have htr : TR s R g k c.v r.h r.o rs := by
      rcases (show gv τ 105 rs.length = 1 ∨ gv τ 105 rs.length = 2 ∨ gv τ 105 rs.length = 3 ∨ gv τ 105 rs.length = 4 by omega) with z | z | z | z
      · obtain ⟨j1, j2, v', j3, j4, j5⟩ := d1 z
        refine Or.inl ⟨eqI (e110.trans z) (by decide), by rw [e112]; exact j1, hst.1, ?_⟩
        rw [e111, e112]
        refine ⟨j2, v', ?_, j4, j5⟩
        rw [q9]
        rcases j3 with j3 | j3
        · exact Or.inl j3
        · exact Or.inr ⟨j3.1, by omega⟩
      · exact Or.inr (Or.inl (eqI (e110.trans z) (by decide)))
      · exact Or.inr (Or.inr (Or.inl ⟨eqI (e110.trans z) (by decide), by rw [e114]; exact d3 z⟩))
      · exact Or.inr (Or.inr (Or.inr ⟨eqI (e110.trans z) (by decide), by rw [e112]; exact d4 z⟩))
    obtain ⟨a1, a2, a3, a4, a5, a6⟩ := hst
    unfold f_X12_leave
    refine ok_bind (p_leave hN (k := k) (v := c.v) hW hB N R r.o rs ⟨hbR.1, hbR.1.B hB, hbR.2.1, a5, by omega, a6, k2.2, a2, a3, a4, k2.1.2.1, k5.2, htr⟩ (by omega)) (fun R hR => ok_some ?_)
    exact LO.act (hR.of hbR.2.2.1 hbR.2.2.2)
