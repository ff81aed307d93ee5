/-! both readers: break and continue -/
theorem rf_fail {N : Nat} {s V : RS} {x p : Int32} (hx : ¬ x = 0) (h : f_X12_fail N s x p = some V) : ¬ V.i 15 = 0 := by
  unfold f_X12_fail at h
  by_cases c : s.i 15 = 0
  · rw [if_pos c] at h
    rw [← Option.some.inj h]
    exact hx
  · rw [if_neg c] at h
    rw [← Option.some.inj h]
    exact c
theorem r_jst {N T : Nat} {s V : RS} {v : Int32} (ht : tpI s = (T : Int)) (h15 : s.i 15 = 0) (h10 : s.i 10 = v) (hv : v = 418 ∨ v = 419) (h : f_X12_stat N s (s.i 63) = some V) : T < 1000 ∧ f_X12_stat_309 N (RS.setA (RS.setI s 53 ((s.i 53) + 1)) 64 T 2) = some V := by
  unfold f_X12_stat at h
  rw [h10, tp_nat ht] at h
  have h2 : ib (s.i 63) 1000 ∧ f_X12_stat_240 N (RS.setA (RS.setI s 53 ((s.i 53) + 1)) 64 T 2) (s.i 63) = some V := by
    rcases hv with rfl | rfl
    · iterate 16 rw [if_neg (by decide)] at h
      exact hf_ite h
    · iterate 16 rw [if_neg (by decide)] at h
      exact hf_ite h
  clear h
  obtain ⟨hib, h2⟩ := h2
  refine ⟨?_, ?_⟩
  · have z : (s.i 63).toInt = (T : Int) := ht
    have := hib.2
    omega
  obtain ⟨s1, hs1⟩ : ∃ y, y = RS.setA (RS.setI s 53 ((s.i 53) + 1)) 64 T 2 := ⟨_, rfl⟩
  have i1 : ∀ k : Nat, k ≠ 53 → s1.i k = s.i k := by
    rw [hs1]
    exact fun k h => if_neg h
  have a64 : s1.a 64 T = 2 := by
    rw [hs1]
    exact setA_at
  rw [← hs1] at h2 ⊢
  clear hs1
  have can : ∀ p : Int32 × RS, f_X12_can N s1 1 = some p → p = (1, s1) := fun p e => by
    unfold f_X12_can f_X12_can_42 at e
    have j15 := (i1 15 (by decide)).trans h15
    have j6 : ¬ s1.i 10 = 6 := by
      rw [i1 10 (by decide), h10]
      rcases hv with rfl | rfl <;> decide
    rw [if_pos j15, if_neg n10, if_neg j6, if_pos j15] at e
    exact (Option.some.inj e).symm
  unfold f_X12_stat_240 at h2
  obtain ⟨-, h2⟩ := hf_ite h2
  rw [tp_nat ht, a64, if_pos rfl, i1 10 (by decide), h10] at h2
  rcases hv with rfl | rfl
  · rw [if_neg (by decide), if_pos rfl] at h2
    obtain ⟨p, ep, h2⟩ := hf_bind h2
    rw [can p ep, if_neg n10] at h2
    exact h2
  · rw [if_neg (by decide), if_neg (by decide), if_pos rfl] at h2
    obtain ⟨p, ep, h2⟩ := hf_bind h2
    rw [can p ep, if_neg n10] at h2
    exact h2
/-- jumps are counted -/
theorem WAY.cj {d : Int32} {T : Nat} {p f k y z : Int} {S P : CS} {s q : RS} (h : WAY d T p f k y z S s P q) : WAY d T p f k y z S s (CS.setI P 26 (P.i 26 + 1)) (RS.setI q 55 (q.i 55 + 1)) := by
  obtain ⟨h1, h2, h3, h4, h5, h6, h7, h8⟩ := h
  refine ⟨?_, h2, h3, h4, h5, h6, h7, h8⟩
  obtain ⟨⟨a1, a2, a3, a4, a5, a6, a7, a8⟩, n, o, ⟨c1, c2, c3⟩, l, k, ⟨r1, r2, r3, r4, r5, r6, r7, r8, r9, r10, r11⟩⟩ := h1
  refine ⟨⟨a1, a2, a3, a4, a5, a6, a7, a8⟩, n, o, ⟨c1, ?_, c3⟩, l, k, ⟨r1, r2, r3, r4, r5, r6, r7, r8.mv rfl rfl rfl rfl ⟨rfl, rfl, rfl⟩ r8.2.2.2.2.2.2 (Int.le_refl _), r9, r10, r11⟩⟩
  show P.i 26 + 1 = q.i 55 + 1
  rw [c2]
theorem pj_55 {S R : CS} (h : pj R = pj S) : R.i 55 = S.i 55 := by
  obtain ⟨-, -, -, -, -, -, -, -, -, -, -, -, -, -, -, -, i55, -, -, -, -, -, -, -, -, -, -, -, -⟩ := pj_eq h
  exact i55
/-- emit: its second word -/
theorem em_22 {N : Nat} {d : Int32} {S : CS} {s : RS} {o x : Int32} {V : Int32 × RS} (h : ENV d S s) (hp : 1 ≤ phI s) (g : f_X12_emit N s o x = some V) : V.2.a 22 (s.i 20).toNatClampNeg = x := by
  have z := (em_env h hp g).2.2.2.2.1
  unfold f_X12_emit f_X12_emit_21 at g
  by_cases c : 3000 ≤ s.i 20
  · rw [if_pos c] at g
    obtain ⟨-, g⟩ := hf_ite g
    rw [← Option.some.inj g] at z ⊢
    have e : (2999 : Int32) = s.i 20 := z
    exfalso
    rw [← e] at c
    exact absurd c (by decide)
  · rw [if_neg c] at g
    obtain ⟨-, g⟩ := hf_ite g
    rw [← Option.some.inj g]
    show (RS.setA (RS.setA (RS.setA s 21 _ o) 22 (s.i 20).toNatClampNeg x) 23 _ 0).a 22 (s.i 20).toNatClampNeg = x
    rw [setA_nk (by decide)]
    exact setA_at
theorem JFL.tr {w : CEL} {bb : Int} {q J v u : RS} (h : JFL w bb q J) (e56 : v.i 56 = q.i 56) (e58 : v.a 58 = q.a 58) (e59 : v.i 59 = q.i 59) (f59 : u.i 59 = J.i 59) (ev : v.a 50 = q.a 50 ∧ v.a 51 = q.a 51 ∧ v.a 60 = q.a 60 ∧ v.a 61 = q.a 61 ∧ v.a 62 = q.a 62) (eu : u.a 50 = J.a 50 ∧ u.a 51 = J.a 51 ∧ u.a 60 = J.a 60 ∧ u.a 61 = J.a 61 ∧ u.a 62 = J.a 62) : JFL w bb v u := by
  unfold JFL at *
  rw [e56, e58, e59, f59, ev.1, ev.2.1, ev.2.2.1, ev.2.2.2.1, ev.2.2.2.2, eu.1, eu.2.1, eu.2.2.1, eu.2.2.2.1, eu.2.2.2.2]
  exact h
theorem JPD.tr {w : CEL} {bb : Int} {q J v u : RS} (h : JPD w bb q J) (e56 : v.i 56 = q.i 56) (e58 : v.a 58 = q.a 58) (e57 : v.a 57 = q.a 57) (e59 : v.i 59 = q.i 59) (f59 : u.i 59 = J.i 59) (ev : v.a 50 = q.a 50 ∧ v.a 51 = q.a 51 ∧ v.a 60 = q.a 60 ∧ v.a 61 = q.a 61 ∧ v.a 62 = q.a 62) (eu : u.a 50 = J.a 50 ∧ u.a 51 = J.a 51 ∧ u.a 60 = J.a 60 ∧ u.a 61 = J.a 61 ∧ u.a 62 = J.a 62) : JPD w bb v u := by
  unfold JPD at *
  rw [e56, e57, e58, e59, f59, ev.1, ev.2.1, ev.2.2.1, ev.2.2.2.1, ev.2.2.2.2, eu.1, eu.2.1, eu.2.2.1, eu.2.2.2.1, eu.2.2.2.2]
  exact h
theorem qj_jp {s u : RS} (h : qj u = qj s) : u.i 59 = s.i 59 ∧ (u.a 48 = s.a 48 ∧ u.a 49 = s.a 49) ∧ (u.a 50 = s.a 50 ∧ u.a 51 = s.a 51 ∧ u.a 60 = s.a 60 ∧ u.a 61 = s.a 61 ∧ u.a 62 = s.a 62) ∧ u.i 56 = s.i 56 ∧ u.a 57 = s.a 57 ∧ u.a 58 = s.a 58 := by
  obtain ⟨-, -, -, -, -, -, -, -, -, -, -, -, -, -, i56, i59, -, -, -, -, -, -, -, -, -, -, -, -, -, -, -, -, a48, a49, a50, a51, a57, a58, a60, a61, a62, -⟩ := qj_eq h
  exact ⟨i59, ⟨a48, a49⟩, ⟨a50, a51, a60, a61, a62⟩, i56, a57, a58⟩
