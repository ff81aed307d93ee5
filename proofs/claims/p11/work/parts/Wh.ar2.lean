/-! both readers: inside the arms of a choice -/
/-- what stands between the arms: the choice began at S0, s0; its code's place is not below c -/
def AMI (d : Int32) (t : Nat) (f x4 : Int32) (c : Int) (L : List Nat) (S0 : CS) (s0 : RS) (S : CS) (s : RS) : Prop := ENV d S s ∧ tpI s = (t : Int) ∧ s.a 64 t = 19 ∧ CKN S0 S ∧ TBC c s0 s ∧ FRB t s0 s ∧ (CSE S s f L ∧ chn s (s.a 22 (s.a 66 t).toNatClampNeg) L ∧ FQL s t L ∧ (∀ j ∈ L, (s0.i 24).toInt ≤ (j : Int))) ∧ (0 ≤ c ∧ c ≤ (s0.i 20).toInt ∧ c ≤ (s.a 66 t).toInt ∧ (s.a 66 t).toInt < (s.i 20).toInt) ∧ ((s.a 68 t = 0 ∨ s.a 68 t = 1) ∧ (s.a 68 t = 1 ↔ 0 ≤ x4.toInt)) ∧ f = S0.i 22 ∧ s.i 19 = s0.i 19 ∧ ((s0.i 11).toInt ≤ (s.i 11).toInt ∧ phI s0 ≤ phI s ∧ (s0.i 17).toInt ≤ (s.i 17).toInt ∧ (S.i 21).toInt ≤ 3 * (s.i 11).toInt ∧ (S.i 54).toInt ≤ (s.i 11).toInt)
def KDB (f : Int32) (S : CS) (s : RS) : Prop := 3 * (S.i 22).toInt + 10 ≤ (s.i 11).toInt + KD S f.toInt (S.i 22).toInt
/-- what stands since the choice's first sign -/
def GA0 (S0 : CS) (s0 : RS) : Prop := RWI S0 ∧ SGS S0 (cnI S0).toNat + 1 ≤ (s0.i 19).toInt ∧ WCS S0 (cnI S0).toNat + 7 ≤ (s0.i 11).toInt ∧ (0 < (s0.i 43).toInt ∧ s0.a 44 ((s0.i 43).toInt - 1).toNat = 3) ∧ (0 < (s0.i 56).toInt → (s0.a 58 ((s0.i 56).toInt - 1).toNat).toInt ≤ (s0.i 43).toInt - 1) ∧ G47 s0
theorem AMI.sgr {d : Int32} {t : Nat} {f x4 : Int32} {c : Int} {L : List Nat} {S0 S : CS} {s0 s : RS} (h : AMI d t f x4 c L S0 s0 S s) (hG : GA0 S0 s0) : SGS S (cnI S).toNat + 1 ≤ sgI S := by
  obtain ⟨h1, h2, h3, h4, h5, h6, -, -, -, v1, v2, -⟩ := h
  rw [(h4.sum hG.1).1]
  unfold sgI
  rw [h1.2.2.1.1, v2]
  exact hG.2.1
theorem AMI.gar {d : Int32} {t : Nat} {f x4 : Int32} {c : Int} {L : List Nat} {S0 S : CS} {s0 s : RS} (h : AMI d t f x4 c L S0 s0 S s) (hG : GA0 S0 s0) (h2 : (s0.i 11).toInt + 2 ≤ (s.i 11).toInt) : GAR S s := by
  have g1 := h.sgr hG
  have v6 := h.2.2.2.2.2.2.2.2.2.2.2.2.2.2
  obtain ⟨-, -, -, h4, h5, -⟩ := h
  have q := (h4.sum hG.1).2
  have e43 : s.i 43 = s0.i 43 := h5.1.1.2.2.2.2.1
  obtain ⟨-, -, w3, ⟨w4, w5⟩, -⟩ := hG
  refine ⟨g1, by rw [q]; omega, by rw [e43]; exact w4, ?_, v6⟩
  rw [e43, (h5.1.2.2.1 _ (by omega)).1]
  exact w5
/-- over the rest of an arm -/
theorem AMI.axo {d : Int32} {t : Nat} {f x4 : Int32} {c : Int} {L : List Nat} {S0 S R : CS} {s0 s u : RS} (h : AMI d t f x4 c L S0 s0 S s) (hk : KDB f S s) (g : AXO d t S s R u) : AMI d t f x4 c L S0 s0 R u ∧ KDB f R u := by
  obtain ⟨h1, h2, h3, h4, h5, h6, ⟨c1, c2, c3, c4⟩, ⟨p1, p2, p3, p4⟩, ⟨r1, r2⟩, v1, v2, ⟨v3, v4, v5, v6, v7⟩⟩ := h
  obtain ⟨w1, w2, ⟨w31, w32, w33, w34, w35⟩, w4, w5, w6, w7, w8, w9, w10⟩ := g
  have e22 : R.i 22 = S.i 22 := w6.1.1
  have e18 := w6.2.2.2.1
  have m24 := w5.1.2.2.2.2.2.2.2.2.2.2.2
  have l24 := w5.1.2.2.2.2.2.2.2.2.2.2.1
  have jl := chn.lt L _ c2
  have l20 := h5.2.1
  have ck := clampI (k := s.a 66 t) (by omega)
  have cse : CSE R u f L := by
    obtain ⟨a1, a2, a3⟩ := c1
    refine ⟨a1, by rw [e22]; exact a2, fun v => ?_⟩
    constructor
    · intro ⟨i, i1, i2, i3⟩
      rw [e22] at i2
      rw [e18 i i2] at i3
      obtain ⟨j, j1, j2, j3⟩ := (a3 v).mp ⟨i, i1, i2, i3⟩
      have mj := m24 j (jl j j1)
      exact ⟨j, j1, by rw [mj.2.2]; exact j2, by rw [mj.1]; exact j3⟩
    · intro ⟨j, j1, j2, j3⟩
      have mj := m24 j (jl j j1)
      rw [mj.2.2] at j2
      rw [mj.1] at j3
      obtain ⟨i, i1, i2, i3⟩ := (a3 v).mpr ⟨j, j1, j2, j3⟩
      exact ⟨i, i1, by rw [e22]; exact i2, by rw [e18 i i2]; exact i3⟩
  have ch : chn u (u.a 22 (u.a 66 t).toNatClampNeg) L := by
    rw [w33, w5.2.2 _ (by omega)]
    exact chn.up l24 (fun j hj => (m24 j hj).2.1) _ _ c2
  have fq : FQL u t L := by
    unfold FQL at *
    rw [w34]
    exact c3
  refine ⟨⟨w1, w2, w31, h4.exp w6, ⟨h5.1.tr w5.1, h5.2.tr (w5.2.wk (by omega))⟩, h6.tr w4, ⟨cse, ch, fq, c4⟩, ⟨p1, p2, by rw [w33]; exact p3, ?_⟩, ⟨by rw [w35]; exact r1, by rw [w35]; exact r2⟩, v1, w10.trans v2, by omega, by omega, by omega, ?_, ?_⟩, ?_⟩
  · have := w5.2.1
    rw [w33]
    omega
  · have r9 := w6.r21
    rw [h1.1.2.2.2.1.1, w1.1.2.2.2.1.1] at r9
    omega
  · have r9 := w6.2.2.2.2.2.2.2.2.2.1
    rw [h1.1.2.2.2.1.1, w1.1.2.2.2.1.1] at r9
    omega
  · unfold KDB at *
    rw [e22, KD.eq (fun i hi => e18 i hi)]
    omega
/-- over a number -/
theorem AMI.num {d : Int32} {t : Nat} {f x4 : Int32} {c : Int} {L : List Nat} {S0 S R : CS} {s0 s u : RS} (h : AMI d t f x4 c L S0 s0 S s) (hk : 3 * (S.i 22).toInt + 11 ≤ (s.i 11).toInt + KD S f.toInt (S.i 22).toInt) (g : CNX9 d t f L S s R u) : (∃ L' : List Nat, AMI d t f x4 c L' S0 s0 R u) ∧ KDB f R u ∧ u.a 65 t = s.a 65 t ∧ (s.i 11).toInt + 1 ≤ (u.i 11).toInt ∧ phI s + 3 ≤ phI u ∧ (s.i 17).toInt + 1 ≤ (u.i 17).toInt := by
  obtain ⟨h1, h2, h3, h4, h5, h6, ⟨c1, c2, c3, c4⟩, ⟨p1, p2, p3, p4⟩, ⟨r1, r2⟩, v1, v2, ⟨v3, v4, v5, v6, v7⟩⟩ := h
  obtain ⟨k1, k2, k3⟩ := g.kd h1.2.2.2.2.2.2.2.2.2.1 c1.2.1 hk
  obtain ⟨f1, f2, f3, f4, f5, f6, f7, f8, fa, fi, fb, e, q1, q2, q3, q4⟩ := g.fr h4 h5 c4 p3 (by rw [h1.1.2.2.2.1.1, k1.1.2.2.2.1.1]; exact g.b11)
  have p21 := pj_21 g.qpj
  have p54 := pj_54 g.qpj
  have u66 : u.a 66 = s.a 66 := fa 66 (by decide) (by decide) (by decide) (by decide) (by decide) (by decide)
  have u68 : u.a 68 = s.a 68 := fa 68 (by decide) (by decide) (by decide) (by decide) (by decide) (by decide)
  have u64 : u.a 64 = s.a 64 := fa 64 (by decide) (by decide) (by decide) (by decide) (by decide) (by decide)
  have u65 : u.a 65 = s.a 65 := fa 65 (by decide) (by decide) (by decide) (by decide) (by decide) (by decide)
  have u20 : u.i 20 = s.i 20 := fi 20 (by decide) (by decide) (by decide) (by decide) (by decide) (by decide)
  refine ⟨⟨L ++ [e], k1, ?_, by rw [u64]; exact h3, f1, f2, h6.tr f3, ⟨q1, q2, q3, q4⟩, ⟨p1, p2, by rw [u66]; exact p3, by rw [u66, u20]; exact p4⟩, ⟨by rw [u68]; exact r1, by rw [u68]; exact r2⟩, v1, f5.trans v2, by omega, by omega, by omega, by rw [p21]; omega, by rw [p54]; omega⟩, k3, by rw [u65], f8, f6, f7⟩
  show (u.i 63).toInt = (t : Int)
  rw [f4]
  exact h2
