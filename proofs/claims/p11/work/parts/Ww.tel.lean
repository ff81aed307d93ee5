/-! both readers: a name is told -/
theorem ENV.nm {N : Nat} {d : Int32} {S : CS} {s : RS} {l : Int64} {v y : Int32} {w : Unit × CS} {z : Int32 × RS} {c : Int32} (h : ENV d S s) (hb : 8 * ((s.i 38).toInt - 1) ≤ (s.i 11).toInt + 1) (hn : ∀ k : Nat, (k : Int) < (s.i 38).toInt → ¬ s.b 39 k = l) (hv : 0 ≤ v.toInt ↔ ¬ vp_nar .boolean y = 0) (e : f_X4_add N S l c v = some w) (g : f_X12_see N s l y = some z) : ENV d w.2 z.2 := by
  have hh := nms_hi h
  unfold f_X12_see at g
  obtain ⟨i1, g⟩ := hf_ite g
  cases g
  obtain ⟨⟨h1, h2, h3, h4, h5, h6, h7, h8⟩, ⟨n1, n2, n3, n4⟩, o, cc, ll, k, ⟨r1, r2, r3, r4, r5, r6, r7, r8, r9, r10, r11⟩⟩ := h
  have e128 : (128 : Int32).toInt = 128 := by decide
  unfold f_X4_add at e
  rw [if_neg (show ¬ 128 ≤ S.i 50 from fun q => by have := le_int q; rw [n1] at this; omega)] at e
  obtain ⟨i2, e⟩ := hf_ite e
  cases e
  have u38 : (s.i 38 + 1).toInt = (s.i 38).toInt + 1 := ad1 i1.1 (by omega)
  have ck := clampI i1.1
  refine ⟨⟨h1, h2, h3, h4, h5, h6, h7, h8⟩, ⟨?_, ?_, fun k hk => ?_, fun j k hj hk => ?_⟩, o, cc, ll, k, ⟨r1, r2, r3, r4, r5, r6, r7, r8.mv rfl rfl rfl rfl ⟨rfl, rfl, rfl⟩ r8.2.2.2.2.2.2 (Int.le_refl _), r9, r10, r11⟩⟩
  · show S.i 50 + 1 = s.i 38 + 1
    rw [n1]
  · show 2 ≤ (s.i 38 + 1).toInt ∧ 8 * ((s.i 38 + 1).toInt - 2) ≤ (s.i 11).toInt + 1
    omega
  · have hk' : (k : Int) < (s.i 38 + 1).toInt := hk
    show (if k = (S.i 50).toNatClampNeg then l else S.b 47 k) = (if k = (s.i 38).toNatClampNeg then l else s.b 39 k) ∧ (0 ≤ (if k = (S.i 50).toNatClampNeg then v else S.a 49 k).toInt ↔ ¬ (if k = (s.i 38).toNatClampNeg then vp_nar .boolean y else s.a 41 k) = 0)
    rw [n1]
    by_cases q : k = (s.i 38).toNatClampNeg
    · rw [if_pos q, if_pos q, if_pos q, if_pos q]
      exact ⟨rfl, hv⟩
    · rw [if_neg q, if_neg q, if_neg q, if_neg q]
      exact n3 k (by omega)
  · have hk' : (k : Int) < (s.i 38 + 1).toInt := hk
    show ¬ (if j = (s.i 38).toNatClampNeg then l else s.b 39 j) = (if k = (s.i 38).toNatClampNeg then l else s.b 39 k)
    rw [if_neg (show ¬ j = (s.i 38).toNatClampNeg by omega)]
    by_cases q : k = (s.i 38).toNatClampNeg
    · rw [if_pos q]
      exact hn j (by omega)
    · rw [if_neg q]
      exact n4 j k hj (by omega)
/-- the tellings: d ahead, or d + 1 -/
theorem ENV.ahead {d : Int32} {S : CS} {s : RS} {l : Int64} {t : Nat} (h : ENV d S s) : ENV (d + 1) S (RS.setB (RS.setI s 54 ((s.i 54) + 1)) 74 t l) := by
  obtain ⟨⟨h1, h2, h3, h4, h5, h6, h7, h8⟩, n, o, ⟨c1, c2, c3⟩, ll, k, r⟩ := h
  refine ⟨⟨h1, h2, h3, h4, h5, h6, h7, h8⟩, n, o, ⟨c1, c2, ?_⟩, ll, k, r⟩
  show S.i 25 + (d + 1) = s.i 54 + 1
  rw [← c3, Int32.add_assoc]
theorem ENV.told {d : Int32} {S : CS} {s : RS} (h : ENV (d + 1) S s) : ENV d (CS.setI S 25 ((S.i 25) + 1)) s := by
  obtain ⟨⟨h1, h2, h3, h4, h5, h6, h7, h8⟩, n, o, ⟨c1, c2, c3⟩, ll, k, ⟨r1, r2, r3, r4, r5, r6, r7, r8, r9, r10, r11⟩⟩ := h
  refine ⟨⟨h1, h2, h3, h4, h5, h6, h7, h8⟩, n, o, ⟨c1, c2, ?_⟩, ll, k, ⟨r1, r2, r3, r4, r5, r6, r7, r8.mv rfl rfl rfl rfl ⟨rfl, rfl, rfl⟩ r8.2.2.2.2.2.2 (Int.le_refl _), r9, r10, r11⟩⟩
  show S.i 25 + 1 + d = s.i 54
  rw [← c3, Int32.add_assoc, Int32.add_comm 1 d]
/-- a new name in both, or a fault in both; the class's name is the reference's fn -/
theorem y_newName {N : Nat} (hN : 1000 ≤ N) {d : Int32} {S : CS} {s : RS} {t : Nat} {P : Int64 × CS} {Q : Int32 × RS} (h : ENV d S s) (ht : tpI s = t) (e : f_X7_newName N S = some P) (g : f_X12_telling N s (s.i 63) = some Q) : (Q.1 = 0 ∧ ¬ P.2.i 32 = 0 ∧ ¬ Q.2.i 15 = 0) ∨ (Q.1 = 1 ∧ S.i 43 = 2 ∧ P.1 = s.l ∧ Q.2.b 74 t = s.l ∧ (∀ k : Nat, (k : Int) < (s.i 38).toInt → ¬ s.b 39 k = s.l) ∧ ENV (d + 1) P.2 Q.2 ∧ tpI Q.2 = t ∧ FRB t s Q.2 ∧ (∀ k : Nat, 64 ≤ k → k ≤ 73 → Q.2.a k t = s.a k t) ∧ TBK s Q.2 ∧ CKX S P.2 ∧ (s.i 11).toInt + 1 ≤ (Q.2.i 11).toInt ∧ phI Q.2 = phI s + 3 ∧ (Q.2.i 17).toInt = (s.i 17).toInt + 1 ∧ Q.2.i 19 = s.i 19) := by
  have h15 := h.1.2.1
  have i2 := tk_is h (a := 2) (b := 2) (Or.inl ⟨by decide, by decide⟩) (by decide)
  unfold f_X7_newName f_X7_newName_56 at e
  unfold f_X12_telling f_X12_telling_20 f_X12_telling_22 at g
  by_cases c : S.i 43 = 2
  · have k := i2.mp c
    have ll : S.l = s.l := h.1.2.2.2.1.2.2.2.2.1 c
    rw [e_fnd1 c, ob_some, if_neg n10] at e
    rw [if_pos k, y_can1 h15 (by rw [k]; decide), ob_some, if_neg n10] at g
    obtain ⟨F, eF, e⟩ := hf_bind e
    obtain ⟨G, gG, g⟩ := hf_bind g
    have eF' : f_X4_find N S s.l = some F := by rw [← ll]; exact eF
    obtain ⟨z1, z2, z3, z4, z5⟩ := y_find h eF' gG
    have em : (-1 : Int32).toInt = -1 := by decide
    by_cases cF : F.1 < 0
    · rw [if_pos cF, z1] at e
      rw [if_pos (show G.1 < 0 by rw [← z3]; exact cF), z2] at g
      obtain ⟨-, g⟩ := hf_ite g
      obtain ⟨a, ea, e⟩ := hf_bind e
      obtain ⟨b, gb, g⟩ := hf_bind g
      cases e
      cases g
      rw [tp_nat ht] at gb
      have ev := h.ahead (l := s.l) (t := t)
      have F1 : F.1 = -1 := by
        rcases z4 with q | ⟨k, k1, -⟩
        · exact q
        · exfalso
          have := lt_int cF
          rw [z_t0] at this
          omega
      obtain ⟨s1, hs1⟩ : ∃ y, y = RS.setB (RS.setI s 54 ((s.i 54) + 1)) 74 t s.l := ⟨_, rfl⟩
      rw [← hs1] at gb ev
      have i1 : ∀ k : Nat, k ≠ 54 → s1.i k = s.i k := by
        rw [hs1]
        exact fun k h => if_neg h
      have a1 : s1.a = s.a := by rw [hs1]; rfl
      have b1 : ∀ k : Nat, k ≠ 74 → s1.b k = s.b k := by
        rw [hs1]
        exact fun k h => if_neg h
      have b74 : s1.b 74 t = s.l := by
        rw [hs1]
        show (if t = t then s.l else s.b 74 t) = s.l
        exact if_pos rfl
      have b74j : ∀ j : Nat, ¬ j = t → s1.b 74 j = s.b 74 j := by
        rw [hs1]
        exact fun j h => if_neg h
      clear hs1
      have t1 : tpI s1 = t := by
        show (s1.i 63).toInt = (t : Int)
        rw [i1 63 (by decide)]
        exact ht
      obtain ⟨d1, d2, d3, d4, d5, d6, d7, d8, d9⟩ := y_nx hN ev t1 (by rw [c]; decide) ea gb
      have p1 : phI s1 = phI s := by
        unfold phI
        rw [i1 17 (by decide), i1 20 (by decide)]
      have fs : FRB t s s1 := fun j hj => ⟨by rw [a1], by rw [a1], by rw [a1], by rw [a1], by rw [a1], by rw [a1], by rw [a1], by rw [a1], by rw [a1], by rw [a1], b74j j (by omega)⟩
      have ks : TBK s s1 := ⟨⟨⟨i1 2 (by decide), i1 3 (by decide), i1 8 (by decide), i1 38 (by decide), i1 43 (by decide), i1 2 (by decide), i1 56 (by decide), by rw [a1], by rw [a1], b1 9 (by decide)⟩, fun j _ => ⟨by rw [b1 39 (by decide)], by rw [a1], by rw [a1]⟩, fun j _ => ⟨by rw [a1], by rw [b1 45 (by decide)], by rw [a1], by rw [a1], by rw [a1], by rw [a1], by rw [a1], by rw [a1]⟩, fun j _ => ⟨by rw [a1], by rw [a1]⟩, ⟨by rw [i1 59 (by decide)]; exact Int.le_refl _, fun j k1 k2 => by rw [i1 59 (by decide)] at k2; omega⟩, fun j _ => ⟨by rw [a1], by rw [a1], by rw [a1]⟩, by rw [i1 29 (by decide)]; exact Int.le_refl _, fun j _ => by rw [a1], by rw [i1 33 (by decide)]; exact Int.le_refl _, fun j _ => ⟨by rw [a1], by rw [a1]⟩, by rw [i1 24 (by decide)]; exact Int.le_refl _, fun j _ => ⟨by rw [a1], by rw [a1], by rw [a1]⟩⟩, by rw [i1 20 (by decide)]; exact Int.le_refl _, fun j _ => by rw [a1]⟩
      rw [i1 11 (by decide)] at d6
      rw [i1 17 (by decide)] at d8
      refine Or.inr ⟨rfl, c, ll, ((d3 (t + 1) t (by omega)).2.2.2.2.2.2.2.2.2.2).trans b74, z5 F1, d1, d2, fs.tr (d3 t), fun k k1 k2 => ?_, ks.tr d4, d5, d6, by rw [d7, p1], d8, by rw [d9, i1 19 (by decide)]⟩
      obtain ⟨f0, f1, f2, f3, f4, f5, f6, f7, f8, f9, -⟩ := d3 (t + 1) t (by omega)
      rw [a1] at f0 f1 f2 f3 f4 f5 f6 f7 f8 f9
      have : k = 64 ∨ k = 65 ∨ k = 66 ∨ k = 67 ∨ k = 68 ∨ k = 69 ∨ k = 70 ∨ k = 71 ∨ k = 72 ∨ k = 73 := by omega
      rcases this with q | q | q | q | q | q | q | q | q | q <;> rw [q]
      · exact f0
      · exact f1
      · exact f2
      · exact f3
      · exact f4
      · exact f5
      · exact f6
      · exact f7
      · exact f8
      · exact f9
    · rw [if_neg cF] at e
      rw [if_neg (show ¬ G.1 < 0 by rw [← z3]; exact cF), z2, e_fail, ob_some, if_pos h15] at g
      cases g
      obtain ⟨f, ef, e⟩ := hf_bind e
      cases e
      refine Or.inl ⟨rfl, y_fail (by decide) ef, ?_⟩
      show ¬ (4 : Int32) = 0
      decide
  · have k : ¬ s.i 10 = 2 := fun z => c (i2.mpr z)
    rw [e_fnd0 c, ob_some, if_pos rfl] at e
    rw [if_neg k] at g
    obtain ⟨f, ef, e⟩ := hf_bind e
    cases e
    obtain ⟨q, gq, g⟩ := hf_bind g
    obtain ⟨q1, q2⟩ := y_can0 gq
    rw [if_pos q1] at g
    cases g
    exact Or.inl ⟨rfl, y_misp ef, q2⟩
