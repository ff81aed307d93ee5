/-! both readers: a choice, whole -/
theorem em_at {N : Nat} {s : RS} {o x : Int32} {V : Int32 × RS} (h : f_X12_emit N s o x = some V) (h3 : (s.i 20).toInt < 3000) : V.2.a 22 (s.i 20).toNatClampNeg = x := by
  have e3 : (3000 : Int32).toInt = 3000 := by decide
  unfold f_X12_emit f_X12_emit_21 at h
  by_cases c : (3000 : Int32) ≤ s.i 20
  · have := le_int c
    omega
  · rw [if_neg c] at h
    obtain ⟨hib, h⟩ := hf_ite h
    cases h
    show upd (s.a 22) (s.i 20).toNatClampNeg x (s.i 20).toNatClampNeg = x
    exact if_pos rfl
theorem i20_hi {d : Int32} {S : CS} {s : RS} (hv : ENV d S s) (hp : 1 ≤ phI s) : (s.i 20).toInt < 3000 := by
  obtain ⟨h1, -, -, -, -, -, ⟨r1, r2, r3, r4, r5, -⟩⟩ := hv
  have b5 := h1.2.2.2.2.1
  have b3 := h1.2.2.1.2.1
  have b4 := h1.2.2.2.2.2.2.1.2.1
  have k11 := h1.2.2.2.1.1
  have k12 := h1.2.2.2.1.2.1
  rw [k11, k12] at b4
  unfold phI at hp
  omega
theorem g_goal {N : Nat} {u : RS} {w : Int32} {n : Int64} {V : Int32 × RS} (h : f_X12_goal N u w n = some V) : (0 ≤ (u.i 43).toInt ∧ (u.i 43).toInt < 460) ∧ V = (u.i 43, GO u w n) := by
  have h' := h
  unfold f_X12_goal at h'
  obtain ⟨i, -⟩ := hf_ite h'
  rw [p_go w n i.1 i.2] at h
  cases h
  exact ⟨⟨i.1, i.2⟩, rfl⟩
/-- the state between the sign that closes and the arms: x is s with the frame's marks and a goal more -/
def CHB (t : Nat) (v : Int32) (s x : RS) : Prop := (∀ k : Nat, k ≠ 43 → k ≠ 52 → x.i k = s.i k) ∧ (∀ k : Nat, k < 44 ∨ k = 45 ∨ (51 < k ∧ k < 66) ∨ 68 < k → x.a k = s.a k) ∧ (∀ k j : Nat, k < 52 → (j : Int) < (s.i 43).toInt → x.a k j = s.a k j) ∧ (∀ k : Nat, k ≠ 45 → x.b k = s.b k) ∧ (∀ j : Nat, (j : Int) < (s.i 43).toInt → x.b 45 j = s.b 45 j) ∧ x.l = s.l ∧ (x.a 66 t = v ∧ x.a 67 t = -1 ∧ x.a 68 t = 0) ∧ (∀ k j : Nat, 52 < k → ¬ j = t → x.a k j = s.a k j) ∧ (0 ≤ (s.i 43).toInt ∧ (s.i 43).toInt < 460 ∧ x.i 43 = s.i 43 + 1 ∧ x.i 52 = s.i 52 + 1 ∧ x.a 44 (s.i 43).toNatClampNeg = 3)
theorem setA_lo {s : RS} {k k' g j : Nat} {v : Int32} (h : k ≠ k' ∨ j ≠ g) : (s.setA k' g v).a k j = s.a k j := by
  rcases h with h | h
  · rw [setA_nk h]
  · exact setA_ne h
theorem y_chb {N : Nat} {s : RS} {t : Nat} {v : Int32} {n : Int64} {V : Int32 × RS} (h : f_X12_goal N (RS.setI (RS.setA (RS.setA (RS.setA s 66 t v) 67 t (-1)) 68 t 0) 52 (s.i 52 + 1)) 3 n = some V) : CHB t v s V.2 := by
  obtain ⟨y, hy⟩ : ∃ y, y = RS.setI (RS.setA (RS.setA (RS.setA s 66 t v) 67 t (-1)) 68 t 0) 52 (s.i 52 + 1) := ⟨_, rfl⟩
  rw [← hy] at h
  have yi : ∀ k : Nat, k ≠ 52 → y.i k = s.i k := by
    rw [hy]
    exact fun k h => if_neg h
  have ya : ∀ k : Nat, k ≠ 66 → k ≠ 67 → k ≠ 68 → y.a k = s.a k := by
    rw [hy]
    exact fun k h1 h2 h3 => (if_neg h3).trans ((if_neg h2).trans (if_neg h1))
  have yj : ∀ k j : Nat, ¬ j = t → y.a k j = s.a k j := by
    rw [hy]
    exact fun k j hj => (setA_ne hj).trans ((setA_ne hj).trans (setA_ne hj))
  have y6 : y.a 66 t = v := by
    rw [hy]
    exact (setA_lo (Or.inl (by decide))).trans ((setA_lo (Or.inl (by decide))).trans setA_at)
  have y7 : y.a 67 t = -1 := by
    rw [hy]
    exact (setA_lo (Or.inl (by decide))).trans setA_at
  have y8 : y.a 68 t = 0 := by
    rw [hy]
    exact setA_at
  have yb : y.b = s.b ∧ y.l = s.l := by
    rw [hy]
    exact ⟨rfl, rfl⟩
  have y52 : y.i 52 = s.i 52 + 1 := by
    rw [hy]
    rfl
  clear hy
  obtain ⟨⟨g0, g9⟩, hV⟩ := g_goal h
  have y43 := yi 43 (by decide)
  have ck := clampI g0
  obtain ⟨x, hx⟩ : ∃ x, x = GO y 3 n := ⟨_, rfl⟩
  have xi : ∀ k : Nat, k ≠ 43 → x.i k = y.i k := by
    rw [hx]
    exact fun k h => GO.eI h
  have x43 : x.i 43 = y.i 43 + 1 := by
    rw [hx]
    rfl
  have xa : ∀ k : Nat, (k < 44 ∨ k = 45 ∨ 51 < k) → x.a k = y.a k := by
    rw [hx]
    exact fun k h => GO.eA h
  have xl : ∀ k j : Nat, j ≠ (y.i 43).toNatClampNeg → x.a k j = y.a k j := by
    rw [hx]
    exact fun k j h => GO.lo h
  have xb : ∀ k : Nat, k ≠ 45 → x.b k = y.b k := by
    rw [hx]
    exact fun k h => if_neg h
  have xb2 : ∀ j : Nat, j ≠ (y.i 43).toNatClampNeg → x.b 45 j = y.b 45 j := by
    rw [hx]
    exact fun j h => if_neg h
  have x44 : x.a 44 (y.i 43).toNatClampNeg = 3 := by
    rw [hx]
    exact GO.a44
  have xL : x.l = y.l := by
    rw [hx]
    rfl
  have e2 : V.2 = x := by rw [hV, hx]
  clear hx
  rw [e2]
  rw [y43] at g0 g9 ck
  refine ⟨fun k h1 h2 => (xi k h1).trans (yi k h2), fun k h => (xa k (by omega)).trans (ya k (by omega) (by omega) (by omega)), fun k j h1 h2 => (xl k j (by rw [y43]; omega)).trans (by rw [ya k (by omega) (by omega) (by omega)]), fun k h => (xb k h).trans (by rw [yb.1]), fun j h => (xb2 j (by rw [y43]; omega)).trans (by rw [yb.1]), xL.trans yb.2, ⟨?_, ?_, ?_⟩, fun k j h1 h2 => ?_, g0, g9, by rw [x43, y43], (xi 52 (by decide)).trans y52, by rw [← y43]; exact x44⟩
  · rw [xa 66 (by omega)]
    exact y6
  · rw [xa 67 (by omega)]
    exact y7
  · rw [xa 68 (by omega)]
    exact y8
  · rw [xa k (by omega)]
    exact yj k j h2
/-- from before the arms to behind them -/
theorem TBZ.chb {t : Nat} {v : Int32} {s x u : RS} (h : CHB t v s x) (h43 : u.i 43 = x.i 43 - 1) (h52 : u.i 2 = x.i 2) (g : TBZ x (RS.setI (RS.setI u 43 (x.i 43)) 52 (x.i 52))) : TBZ s u := by
  obtain ⟨a1, a2, a3, a4, a5, a6, -, a8, ⟨b1, b2, b3, b4, -⟩⟩ := h
  obtain ⟨⟨t1, t2, t3, t4, -, -, t7, t8, t9, t10⟩, n, g43, g56, ⟨l59, m59⟩, b59, l29, m29, l33, m33, l24, m24⟩ := g
  have e43 : (x.i 43).toInt = (s.i 43).toInt + 1 := by rw [b3]; exact ad1 b1 (by omega)
  have f43 : u.i 43 = s.i 43 := by rw [h43, b3, Int32.add_sub_cancel]
  have f52 : u.i 2 = s.i 2 := h52.trans (a1 2 (by decide) (by decide))
  have t1 : u.i 2 = x.i 2 := t1
  have t2 : u.i 3 = x.i 3 := t2
  have t3 : u.i 8 = x.i 8 := t3
  have t4 : u.i 38 = x.i 38 := t4
  have t7 : u.i 56 = x.i 56 := t7
  have t8 : u.a 1 = x.a 1 := t8
  have t9 : u.a 4 = x.a 4 := t9
  have t10 : u.b 9 = x.b 9 := t10
  have l59 : (x.i 59).toInt ≤ (u.i 59).toInt := l59
  have m59 : ∀ j : Nat, (x.i 59).toInt ≤ (j : Int) → (j : Int) < (u.i 59).toInt → u.a 62 j = -1 := m59
  have l29 : (x.i 29).toInt ≤ (u.i 29).toInt := l29
  have l33 : (x.i 33).toInt ≤ (u.i 33).toInt := l33
  have l24 : (x.i 24).toInt ≤ (u.i 24).toInt := l24
  have z : ∀ k : Nat, k ≠ 43 → k ≠ 52 → x.i k = s.i k := a1
  rw [z 59 (by decide) (by decide)] at l59 m59
  rw [z 29 (by decide) (by decide)] at l29
  rw [z 33 (by decide) (by decide)] at l33
  rw [z 24 (by decide) (by decide)] at l24
  refine ⟨⟨t1.trans (z 2 (by decide) (by decide)), t2.trans (z 3 (by decide) (by decide)), t3.trans (z 8 (by decide) (by decide)), t4.trans (z 38 (by decide) (by decide)), f43, f52, t7.trans (z 56 (by decide) (by decide)), t8.trans (a2 1 (by omega)), t9.trans (a2 4 (by omega)), t10.trans (a4 9 (by decide))⟩, fun j hj => ?_, fun j hj => ?_, fun j hj => ?_, ⟨l59, m59⟩, fun j hj => ?_, l29, fun j hj => ?_, l33, fun j hj => ?_, l24, fun j hj => ?_⟩
  · obtain ⟨q1, q2, q3⟩ := n j (by rw [z 38 (by decide) (by decide)]; exact hj)
    exact ⟨q1.trans (by rw [a4 39 (by decide)]), q2.trans (by rw [a2 40 (by omega)]), q3.trans (by rw [a2 41 (by omega)])⟩
  · obtain ⟨q1, q2, q3, q4, q5, q6, q7, q8⟩ := g43 j (by omega)
    exact ⟨q1.trans (a3 44 j (by decide) hj), q2.trans (a5 j hj), q3.trans (a3 46 j (by decide) hj), q4.trans (a3 47 j (by decide) hj), q5.trans (a3 50 j (by decide) hj), q6.trans (a3 51 j (by decide) hj), q7.trans (a3 48 j (by decide) hj), q8.trans (a3 49 j (by decide) hj)⟩
  · obtain ⟨q1, q2⟩ := g56 j (by rw [z 56 (by decide) (by decide)]; exact hj)
    exact ⟨q1.trans (by rw [a2 57 (by omega)]), q2.trans (by rw [a2 58 (by omega)])⟩
  · obtain ⟨q1, q2, q3⟩ := b59 j (by rw [z 59 (by decide) (by decide)]; exact hj)
    exact ⟨q1.trans (by rw [a2 60 (by omega)]), q2.trans (by rw [a2 61 (by omega)]), q3.trans (by rw [a2 62 (by omega)])⟩
  · exact (m29 j (by rw [z 29 (by decide) (by decide)]; exact hj)).trans (by rw [a2 30 (by omega)])
  · obtain ⟨q1, q2⟩ := m33 j (by rw [z 33 (by decide) (by decide)]; exact hj)
    exact ⟨q1.trans (by rw [a2 34 (by omega)]), q2.trans (by rw [a2 37 (by omega)])⟩
  · obtain ⟨q1, q2, q3⟩ := m24 j (by rw [z 24 (by decide) (by decide)]; exact hj)
    exact ⟨q1.trans (by rw [a2 25 (by omega)]), q2.trans (by rw [a2 27 (by omega)]), q3.trans (by rw [a2 28 (by omega)])⟩
