/-! both: what was told stands side by side -/
def TLD (s : CS) (r : RS) : Prop := s.i 5 = r.i 2 ∧ s.i 13 = r.i 3 ∧ s.i 14 = r.i 8 ∧ s.a 9 0 = -1 ∧ (∀ k : Nat, 0 < k → (k : Int) < (r.i 3).toInt → s.a 9 k = r.a 4 k)
theorem ok_at {α : Type} {t : Option α} {P : α → Prop} {T : α} (h : ok t P) (e : t = some T) : P T := by
  obtain ⟨r, e2, hr⟩ := h
  rw [e2] at e
  cases e
  exact hr
theorem ob_some {α β : Type} (a : α) (f : α → Option β) : (some a).bind f = f a := rfl
theorem TLD.of {s S : CS} {r R : RS} (h : TLD s r) (h5 : S.i 5 = s.i 5) (h13 : S.i 13 = s.i 13) (h14 : S.i 14 = s.i 14) (h9 : S.a 9 = s.a 9) (g : KSR r R) : TLD S R := by
  obtain ⟨a1, a2, a3, a4, a5⟩ := h
  obtain ⟨g1, g2, g3, g4⟩ := g
  refine ⟨?_, ?_, ?_, ?_, ?_⟩
  · rw [h5, g4]; exact a1
  · rw [h13, g1]; exact a2
  · rw [h14, g2]; exact a3
  · rw [h9]; exact a4
  · rw [h9, g1, g3]; exact a5
theorem n10 : ¬ (1 : Int32) = 0 := by decide
theorem e_in1 {N : Nat} {r : RS} {a b c : Int32} (h : b ≤ a ∧ a ≤ c) : f_X12_in N r a b c = some (1, r) := by
  unfold f_X12_in
  exact (if_neg (Int32.not_lt.mpr h.1)).trans (if_neg (Int32.not_lt.mpr h.2))
theorem e_in0 {N : Nat} {r : RS} {a b c : Int32} (h : ¬ (b ≤ a ∧ a ≤ c)) : f_X12_in N r a b c = some (0, r) := by
  unfold f_X12_in f_X12_in_14
  by_cases d : a < b
  · exact if_pos d
  · exact (if_neg d).trans (if_pos (Int32.not_le.mp (fun q => h ⟨Int32.not_lt.mp d, q⟩)))
theorem e_isK1 {N : Nat} {s : CS} {x : Int32} (h : 0 ≤ x ∧ x < s.i 13) : f_X10_isKind N s x = some (1, s) := by
  unfold f_X10_isKind
  exact (if_neg (Int32.not_lt.mpr h.1)).trans (if_neg (Int32.not_le.mpr h.2))
theorem e_isK0 {N : Nat} {s : CS} {x : Int32} (h : ¬ (0 ≤ x ∧ x < s.i 13)) : f_X10_isKind N s x = some (0, s) := by
  unfold f_X10_isKind f_X10_isKind_16
  by_cases d : x < 0
  · exact if_pos d
  · exact (if_neg d).trans (if_pos (Int32.not_lt.mp (fun q => h ⟨Int32.not_lt.mp d, q⟩)))
theorem le_m1 {x n : Int32} (h : 4 ≤ n) : x ≤ n - 1 ↔ x < n := by
  have h' := le_int h
  have e4 : (4 : Int32).toInt = 4 := by decide
  have e1 : (1 : Int32).toInt = 1 := by decide
  have hi := Int32.toInt_lt n
  have e : (n - 1).toInt = n.toInt - 1 := by rw [toInt_sub] <;> rw [e1] <;> omega
  rw [Int32.le_iff_toInt_le, Int32.lt_iff_toInt_lt, e]
  omega
theorem le_mk {x n : Int32} (h : 4 ≤ n) : (-1 ≤ x ∧ x ≤ n - 1) ↔ (x = -1 ∨ (0 ≤ x ∧ x < n)) := by
  rw [le_m1 h]
  have em : (-1 : Int32).toInt = -1 := by decide
  have h' := le_int h
  have e4 : (4 : Int32).toInt = 4 := by decide
  have ex : x = -1 ↔ x.toInt = -1 := ⟨fun q => by rw [q]; exact em, fun q => Int32.toInt_inj.mp (by rw [q, em])⟩
  rw [Int32.le_iff_toInt_le, Int32.lt_iff_toInt_lt, Int32.le_iff_toInt_le, ex, em, z_t0]
  omega
theorem e_ikn1 {N : Nat} {s : CS} {x : Int32} (h : x = -1 ∨ (0 ≤ x ∧ x < s.i 13)) : f_X11_isKindOrNothing N s x = some (1, s) := by
  unfold f_X11_isKindOrNothing f_X11_isKindOrNothing_16
  by_cases d : x = -1
  · exact if_pos d
  · refine (if_neg d).trans ?_
    rcases h with h | h
    · exact absurd h d
    · rw [e_isK1 h, ob_some]
      exact if_neg n10
theorem e_ikn0 {N : Nat} {s : CS} {x : Int32} (h : ¬ (x = -1 ∨ (0 ≤ x ∧ x < s.i 13))) : f_X11_isKindOrNothing N s x = some (0, s) := by
  unfold f_X11_isKindOrNothing
  refine (if_neg (fun q => h (Or.inl q))).trans ?_
  rw [e_isK0 (fun q => h (Or.inr q)), ob_some]
  exact if_pos rfl
/-! the plain calls -/
theorem t_fault {N : Nat} {s : CS} {r : RS} {T : Int32 × CS} {U : Int32 × RS} (h : TLD s r) (e : f_X11_fault N s = some T) (g : f_X12_fault N r = some U) : TLD T.2 U.2 := by
  obtain ⟨a1, a2, a3, a4⟩ := k4_X11_fault N s T e
  exact h.of a1 a2 a3 a4 (kr_f_X12_fault N r U g)
theorem t_program {N : Nat} {s : CS} {r : RS} {T : Int32 × CS} {U : Int32 × RS} (h : TLD s r) (x1 : Int32) (e : f_X11_program N s x1 = some T) (g : f_X12_program N r x1 = some U) : TLD T.2 U.2 := by
  obtain ⟨a1, a2, a3, a4⟩ := k4_X11_program N s x1 T e
  exact h.of a1 a2 a3 a4 (kr_f_X12_program N r x1 U g)
theorem t_ran {N : Nat} {s : CS} {r : RS} {T : Int32 × CS} {U : Int32 × RS} (h : TLD s r) (x1 : Int32) (e : f_X11_ran N s x1 = some T) (g : f_X12_ran N r x1 = some U) : TLD T.2 U.2 := by
  obtain ⟨a1, a2, a3, a4⟩ := k4_X11_ran N s x1 T e
  exact h.of a1 a2 a3 a4 (kr_f_X12_ran N r x1 U g)
theorem t_trace {N : Nat} {s : CS} {r : RS} {T : Int32 × CS} {U : Int32 × RS} (h : TLD s r) (x1 x2 : Int32) (e : f_X11_trace N s x1 x2 = some T) (g : f_X12_trace N r x1 x2 = some U) : TLD T.2 U.2 := by
  obtain ⟨a1, a2, a3, a4⟩ := k4_X11_trace N s x1 x2 T e
  exact h.of a1 a2 a3 a4 (kr_f_X12_trace N r x1 x2 U g)
theorem t_suppressed {N : Nat} {s : CS} {r : RS} {T : Int32 × CS} {U : Int32 × RS} (h : TLD s r) (x1 x2 : Int32) (e : f_X11_suppressed N s x1 x2 = some T) (g : f_X12_suppressed N r x1 x2 = some U) : TLD T.2 U.2 := by
  obtain ⟨a1, a2, a3, a4⟩ := k4_X11_suppressed N s x1 x2 T e
  exact h.of a1 a2 a3 a4 (kr_f_X12_suppressed N r x1 x2 U g)
theorem t_run {N : Nat} (hN : 10000000000 ≤ N) {h0 : Nat} {s : CS} {r : RS} {T : Int32 × CS} {U : Int32 × RS} (hc : CIV h0 s) (h : TLD s r) (x1 x2 : Int32) (e : f_X11_run N s x1 x2 = some T) (g : f_X12_run N r x1 x2 = some U) : TLD T.2 U.2 := by
  have q : ok (f_X11_run N s x1 x2) (fun R => R.2.i 5 = s.i 5 ∧ R.2.i 13 = s.i 13 ∧ R.2.i 14 = s.i 14 ∧ R.2.a 9 = s.a 9) := by
    unfold f_X11_run
    refine ok_ite (fun _ => ok_some ⟨rfl, rfl, rfl, rfl⟩) (fun c => ?_)
    obtain ⟨Y, hY⟩ : ∃ Y, Y = CS.setI s 8 1 := ⟨_, rfl⟩
    have f2 : ∀ j : Nat, j ≠ 8 → Y.i j = s.i j := fun j hj => by rw [hY]; exact ci_ne _ _ _ hj
    have f9 : Y.a 9 = s.a 9 := by rw [hY]; rfl
    have cY : CIV h0 Y := by
      refine hc.of (by rw [hY]; exact HSM.i _ _ _) ⟨by rw [f2 14 (by decide)]; exact hc.2.2.2.2.1.1, by rw [f2 13 (by decide)]; exact hc.2.2.2.2.1.2⟩ (by rw [f2 5 (by decide)]; exact hc.2.2.2.2.2.1) (f2 7 (by decide)) ⟨by rw [hY]; rfl, by rw [hY]; rfl, by rw [hY]; rfl, f2 20 (by decide)⟩
    rw [← hY]
    obtain ⟨D, hD⟩ := cY.2.2.2.2.2.2 (by rw [f2 7 (by decide)]; exact c)
    refine ok_bind (q_perform hN cY.1 cY.2.1 hD x1 x2) (fun R hR => ok_some ?_)
    obtain ⟨r1, r2, m1, m2, m3, m4, m5, m6⟩ := hR
    exact ⟨(m1 5 (by decide)).trans (f2 5 (by decide)), (m1 13 (by decide)).trans (f2 13 (by decide)), (m1 14 (by decide)).trans (f2 14 (by decide)), (m2 9 (by decide)).trans f9⟩
  obtain ⟨a1, a2, a3, a4⟩ := ok_at q e
  exact h.of a1 a2 a3 a4 (kr_f_X12_run N r x1 x2 U g)
theorem k4_X11_read (N : Nat) (E1 : CS → Option (Unit × CS)) (E2 : CS → Option (Int32 × CS)) (hm1 : ∀ σ, Kp4 (CS.i σ 5) (CS.i σ 13) (CS.i σ 14) (CS.a σ 9) (E1 σ)) (hm2 : ∀ σ, Kp4 (CS.i σ 5) (CS.i σ 13) (CS.i σ 14) (CS.a σ 9) (E2 σ)) (σ : CS) : Kp4 0 (CS.i σ 13) (CS.i σ 14) (CS.a σ 9) (f_X11_read N E1 E2 σ) := by
  unfold f_X11_read f_X11_read_43
  exact kp4_bind (kp4_le ⟨rfl, rfl, rfl, rfl⟩ (k4_X7_translate N E1 E2 hm1 hm2 (CS.setI (CS.setI σ 5 0) 8 0) (σ.i 5))) (fun p1 => kp4_ite (kp4_ite (kp4_some ⟨rfl, rfl, rfl, rfl⟩) (kp4_some ⟨rfl, rfl, rfl, rfl⟩)) (kp4_ite (kp4_some ⟨rfl, rfl, rfl, rfl⟩) (kp4_some ⟨rfl, rfl, rfl, rfl⟩)))
theorem kr_199 (N : Nat) (σ : RS) : KR σ (f_X12_read_199 N σ) := by
  unfold f_X12_read_199
  exact kr_ite (kr_some ⟨rfl, rfl, rfl, rfl⟩) (kr_some ⟨rfl, rfl, rfl, rfl⟩)
theorem kr_167 (N : Nat) (σ : RS) : KR σ (f_X12_read_167 N σ) := by
  unfold f_X12_read_167
  exact kr_ite (kr_ite (kr_st ⟨rfl, rfl, rfl, rfl⟩ (kr_199 N _)) (kr_st ⟨rfl, rfl, rfl, rfl⟩ (kr_199 N _))) kr_none
theorem kr_138 (N : Nat) (σ : RS) : KR (RS.setI σ 2 0) (f_X12_read_138 N σ) := by
  unfold f_X12_read_138
  exact kr_ite (kr_ite (kr_167 N _) (kr_bindv (kr_f_X12_fail N _ _ _) (fun p => kr_167 N p))) (kr_167 N _)
theorem kz_read {N : Nat} {r : RS} {U : Int32 × RS} (g : f_X12_read N r = some U) : U.2.i 3 = r.i 3 ∧ U.2.i 8 = r.i 8 ∧ U.2.a 4 = r.a 4 ∧ U.2.i 2 = 0 := by
  unfold f_X12_read at g
  obtain ⟨A, hA⟩ : ∃ A, A = RS.setI (RS.setI (RS.setI (RS.setI (RS.setI (RS.setI (RS.setI (RS.setI (RS.setI r 0 0) 38 0) 42 0) 43 0) 19 0) 53 0) 54 0) 55 0) 20 0 := ⟨_, rfl⟩
  have kA : KSR r A := by rw [hA]; exact ⟨rfl, rfl, rfl, rfl⟩
  rw [← hA] at g
  clear hA
  obtain ⟨B, hB⟩ : ∃ B, B = RS.setI (RS.setI (RS.setI (RS.setI (RS.setI (RS.setI (RS.setI (RS.setI (RS.setI (RS.setI A 24 0) 29 0) 33 0) 56 0) 59 0) 52 0) 12 0) 15 0) 18 (-1)) 17 0 := ⟨_, rfl⟩
  have kB : KSR A B := by rw [hB]; exact ⟨rfl, rfl, rfl, rfl⟩
  rw [← hB] at g
  clear hB
  obtain ⟨p1, g1, g⟩ := hf_bind g
  obtain ⟨p3, g3, g⟩ := hf_bind g
  obtain ⟨p5, g5, g⟩ := hf_bind g
  obtain ⟨p7, g7, g⟩ := hf_bind g
  have k7 : KSR r p7 := ((((kA.tr kB).tr (kr_f_X12_see N _ _ _ p1 g1)).tr (kr_f_X12_see N _ _ _ p3 g3)).tr (kr_f_X12_next N _ p5 g5)).tr (kr_f_X12_parse N _ p7 g7)
  have fin : ∀ (p : Int32 × RS), KSR p7 p.2 → f_X12_read_138 N p.2 = some U → U.2.i 3 = r.i 3 ∧ U.2.i 8 = r.i 8 ∧ U.2.a 4 = r.a 4 ∧ U.2.i 2 = 0 := fun p kp gp => by
    obtain ⟨b1, b2, b3, b4⟩ := kr_138 N p.2 U gp
    obtain ⟨c1, c2, c3, c4⟩ := k7.tr kp
    exact ⟨b1.trans c1, b2.trans c2, b3.trans c3, b4⟩
  by_cases c : p7.i 10 = 0
  · rw [if_pos c] at g
    obtain ⟨p, g9, g⟩ := hf_bind g
    exact fin p (kr_f_X12_can N _ _ p g9) g
  · rw [if_neg c] at g
    obtain ⟨p, g9, g⟩ := hf_bind g
    exact fin p (kr_f_X12_can N _ _ p g9) g
theorem t_read {N : Nat} {s : CS} {r : RS} {T : Int32 × CS} {U : Int32 × RS} (h : TLD s r) (e : f_X11_read N (fEE N 23).1 (fEE N 23).2 s = some T) (g : f_X12_read N r = some U) : TLD T.2 U.2 := by
  obtain ⟨a1, a2, a3, a4⟩ := k4_X11_read N _ _ (k4EE N 23).1 (k4EE N 23).2 s T e
  obtain ⟨b1, b2, b3, b4⟩ := kz_read g
  obtain ⟨h1, h2, h3, h4, h5⟩ := h
  refine ⟨?_, ?_, ?_, ?_, ?_⟩
  · rw [a1, b4]
  · rw [a2, b1]; exact h2
  · rw [a3, b2]; exact h3
  · rw [a4]; exact h4
  · rw [a4, b1, b3]; exact h5
/-! asserts, cut, kind, feed: what they answer, too -/
theorem t_asserts {N : Nat} {s : CS} {r : RS} {T : Int32 × CS} {U : Int32 × RS} (h : TLD s r) (x1 : Int32) (e : f_X11_asserts N s x1 = some T) (g : f_X12_asserts N r x1 = some U) : TLD T.2 U.2 ∧ T.1 = U.1 := by
  obtain ⟨a1, a2, a3, a4, a5⟩ := h
  unfold f_X11_asserts f_X11_asserts_16 at e
  unfold f_X12_asserts f_X12_asserts_18 at g
  rw [a3] at e
  by_cases c : r.i 8 = 0
  · rw [if_pos c] at e g
    obtain ⟨d, e⟩ := hf_ite e
    obtain ⟨d', g⟩ := hf_ite g
    cases e
    cases g
    exact ⟨⟨a1, a2, rfl, a4, a5⟩, rfl⟩
  · rw [if_neg c] at e g
    obtain ⟨d, e⟩ := hf_ite e
    obtain ⟨d', g⟩ := hf_ite g
    cases e
    cases g
    exact ⟨⟨a1, a2, rfl, a4, a5⟩, rfl⟩
theorem t_cut {N : Nat} {s : CS} {r : RS} {T : Int32 × CS} {U : Int32 × RS} (h : TLD s r) (x1 : Int32) (e : f_X11_cut N s x1 = some T) (g : f_X12_cut N r x1 = some U) : TLD T.2 U.2 ∧ T.1 = U.1 := by
  obtain ⟨a1, a2, a3, a4, a5⟩ := h
  by_cases c : 0 ≤ x1 ∧ x1 ≤ r.i 2
  · have e' : f_X11_cut N s x1 = some (s.i 5 - x1, CS.setI s 5 x1) := by
      unfold f_X11_cut
      exact (if_neg (Int32.not_lt.mpr c.1)).trans (if_pos (by rw [a1]; exact c.2))
    have g' : f_X12_cut N r x1 = some (r.i 2 - x1, RS.setI (RS.setI r 0 0) 2 x1) := by
      unfold f_X12_cut
      rw [e_in1 c, ob_some]
      exact if_neg n10
    rw [e'] at e
    rw [g'] at g
    cases e
    cases g
    refine ⟨⟨rfl, a2, a3, a4, a5⟩, ?_⟩
    show s.i 5 - x1 = r.i 2 - x1
    rw [a1]
  · have c' : ¬ (0 ≤ x1 ∧ x1 ≤ s.i 5) := by rw [a1]; exact c
    have e' : f_X11_cut N s x1 = some (-1, s) := by
      unfold f_X11_cut f_X11_cut_12
      by_cases d : x1 < 0
      · exact if_pos d
      · exact (if_neg d).trans (if_neg (fun q => c' ⟨Int32.not_lt.mp d, q⟩))
    have g' : f_X12_cut N r x1 = some (-1, RS.setI r 0 0) := by
      unfold f_X12_cut
      rw [e_in0 c, ob_some]
      exact if_pos rfl
    rw [e'] at e
    rw [g'] at g
    cases e
    cases g
    exact ⟨⟨a1, a2, a3, a4, a5⟩, rfl⟩
theorem t_kind {N : Nat} {s : CS} {r : RS} {T : Int32 × CS} {U : Int32 × RS} (hr : RB r) (h : TLD s r) (x1 : Int32) (e : f_X11_kind N s x1 = some T) (g : f_X12_kind N r x1 = some U) : TLD T.2 U.2 ∧ T.1 = U.1 := by
  obtain ⟨a1, a2, a3, a4, a5⟩ := h
  have b3 := hr.2.1
  by_cases c : 0 ≤ x1 ∧ x1 < r.i 3
  · have k1 : f_X10_isKind N s x1 = some (1, s) := e_isK1 ⟨c.1, by rw [a2]; exact c.2⟩
    have k2 : f_X12_in N (RS.setI r 0 0) x1 0 (r.i 3 - 1) = some (1, RS.setI r 0 0) := e_in1 ⟨c.1, (le_m1 b3.1).mpr c.2⟩
    by_cases d : r.i 3 = 12
    · have l : ¬ s.i 13 < 12 := by rw [a2, d]; decide
      have e' : f_X11_kind N s x1 = some (-2, s) := by
        unfold f_X11_kind f_X10_isFull
        rw [k1, ob_some]
        refine (if_neg n10).trans ?_
        show Option.bind (if s.i 13 < 12 then some ((0 : Int32), s) else some (1, s)) _ = _
        rw [if_neg l, ob_some]
        exact if_neg n10
      have g' : f_X12_kind N r x1 = some (-2, RS.setI r 0 0) := by
        unfold f_X12_kind
        rw [k2, ob_some]
        exact (if_neg n10).trans (if_pos d)
      rw [e'] at e
      rw [g'] at g
      cases e
      cases g
      exact ⟨⟨a1, a2, a3, a4, a5⟩, rfl⟩
    · have e12 : (12 : Int32).toInt = 12 := by decide
      have e4 : (4 : Int32).toInt = 4 := by decide
      have e1 : (1 : Int32).toInt = 1 := by decide
      have l4 := le_int b3.1
      have l12 : (r.i 3).toInt < 12 := by
        have q := le_int b3.2
        rcases Int.lt_or_eq_of_le q with z | z
        · omega
        · exact absurd (Int32.toInt_inj.mp z) d
      have l : s.i 13 < 12 := by rw [a2, Int32.lt_iff_toInt_lt]; omega
      have hib : ib (r.i 3) 12 := ⟨by omega, by omega⟩
      have e' : f_X11_kind N s x1 = some ((s.i 13 + 1) - 1, CS.setI (CS.putA s 9 (gPut (s.a 9) 12 (s.i 13) x1)) 13 (s.i 13 + 1)) := by
        unfold f_X11_kind f_X10_isFull f_X10_addKind
        rw [k1, ob_some]
        refine (if_neg n10).trans ?_
        show Option.bind (if s.i 13 < 12 then some ((0 : Int32), s) else some (1, s)) _ = _
        rw [if_pos l, ob_some]
        exact if_pos rfl
      have g' : f_X12_kind N r x1 = some ((r.i 3 + 1) - 1, RS.setI (RS.setA (RS.setI r 0 0) 4 (r.i 3).toNatClampNeg x1) 3 (r.i 3 + 1)) := by
        unfold f_X12_kind
        rw [k2, ob_some]
        exact (if_neg n10).trans ((if_neg d).trans (if_pos hib))
      rw [e'] at e
      rw [g'] at g
      cases e
      cases g
      have ck := clampI hib.1
      have en : (r.i 3 + 1).toInt = (r.i 3).toInt + 1 := by rw [toInt_add] <;> rw [e1] <;> omega
      have gp : gPut (s.a 9) 12 (s.i 13) x1 = upd (s.a 9) (r.i 3).toNatClampNeg x1 := by
        rw [a2]
        unfold gPut
        exact if_pos hib
      refine ⟨⟨a1, ?_, a3, ?_, ?_⟩, ?_⟩
      · show s.i 13 + 1 = r.i 3 + 1
        rw [a2]
      · show gPut (s.a 9) 12 (s.i 13) x1 0 = -1
        rw [gp]
        refine Eq.trans ?_ a4
        exact if_neg (by omega)
      · intro k k0 k1
        have k1' : (k : Int) < (r.i 3 + 1).toInt := k1
        rw [en] at k1'
        show gPut (s.a 9) 12 (s.i 13) x1 k = upd (r.a 4) (r.i 3).toNatClampNeg x1 k
        rw [gp]
        by_cases q : k = (r.i 3).toNatClampNeg
        · exact (if_pos q).trans (if_pos q).symm
        · exact (if_neg q).trans ((a5 k k0 (by omega)).trans (if_neg q).symm)
      · show s.i 13 + 1 - 1 = r.i 3 + 1 - 1
        rw [a2]
  · have c1 : ¬ (0 ≤ x1 ∧ x1 < s.i 13) := by rw [a2]; exact c
    have e' : f_X11_kind N s x1 = some (-1, s) := by
      unfold f_X11_kind
      rw [e_isK0 c1, ob_some]
      exact if_pos rfl
    have c2 : ¬ (0 ≤ x1 ∧ x1 ≤ r.i 3 - 1) := by rw [le_m1 b3.1]; exact c
    have g' : f_X12_kind N r x1 = some (-1, RS.setI r 0 0) := by
      unfold f_X12_kind
      rw [e_in0 c2, ob_some]
      exact if_pos rfl
    rw [e'] at e
    rw [g'] at g
    cases e
    cases g
    exact ⟨⟨a1, a2, a3, a4, a5⟩, rfl⟩
/-- bytes come behind: the class -/
theorem y_feed {N : Nat} (hN : 1000 ≤ N) {h : Nat} {s : CS} (hc : CIV h s) (x1 x2 x3 x4 x5 : Int32) : ok (f_X11_feed N s x1 x2 x3 x4 x5) (fun R => (s.i 5 + 20 ≤ 900 → R.1 = s.i 5 + 20 ∧ R.2.i 5 = s.i 5 + 20) ∧ (¬ s.i 5 + 20 ≤ 900 → R.1 = -2 ∧ R.2.i 5 = s.i 5) ∧ R.2.i 13 = s.i 13 ∧ R.2.i 14 = s.i 14 ∧ R.2.a 9 = s.a 9) := by
  unfold f_X11_feed
  refine ok_ite (fun c => ?_) (fun c => ok_some ⟨fun q => absurd q c, fun _ => ⟨rfl, rfl⟩, rfl, rfl, rfl⟩)
  have h5 := hc.2.2.2.2.2.1
  have l := le_int c
  have e20 : (20 : Int32).toInt = 20 := by decide
  have e9 : (900 : Int32).toInt = 900 := by decide
  have e5 : (s.i 5 + 20).toInt = (s.i 5).toInt + 20 := by rw [toInt_add] <;> rw [e20] <;> omega
  have l' := l
  rw [e5, e9] at l'
  refine ok_bind (q_addB hN x1 (by omega)) (fun p1 h1 => ok_bind (q_addB hN x2 (by rw [h1.2.2.2]; omega)) (fun p2 h2' => ?_))
  have h2 := h1.tr h2'
  refine ok_bind (q_addB hN x3 (by rw [h2.2.2.2]; omega)) (fun p3 h3' => ?_)
  have h3 := h2.tr h3'
  refine ok_bind (q_addB hN x4 (by rw [h3.2.2.2]; omega)) (fun p4 h4' => ?_)
  have h4 := h3.tr h4'
  refine ok_bind (q_addB hN x5 (by rw [h4.2.2.2]; omega)) (fun p5 h5' => ok_some ?_)
  obtain ⟨f1, f2, f3, f4⟩ := h4.tr h5'
  have q5 : p5.2.i 5 = s.i 5 + 20 := Int32.toInt_inj.mp (by rw [f4, e5]; omega)
  exact ⟨fun _ => ⟨q5, q5⟩, fun q => absurd c q, f2 13 (by decide), f2 14 (by decide), f3 9 (by decide)⟩
/-- the reference -/
def KFD (s : RS) (t : Option (Int32 × RS)) : Prop := ∀ R, t = some R → R.1 = s.i 2 + 20 ∧ R.2.i 2 = s.i 2 + 20 ∧ R.2.i 3 = s.i 3 ∧ R.2.i 8 = s.i 8 ∧ R.2.a 4 = s.a 4
theorem kf_none {s : RS} : KFD s none := fun R q => by cases q
theorem kf_ite {s : RS} {c : Prop} [Decidable c] {x y : Option (Int32 × RS)} (hx : KFD s x) (hy : KFD s y) : KFD s (if c then x else y) := by
  by_cases h : c
  · rw [if_pos h]; exact hx
  · rw [if_neg h]; exact hy
theorem kf_24 (N : Nat) (x1 x2 x3 x4 x5 : Int32) : ∀ (n : Nat) (r : RS) (k : Int32), KFD r (f_X12_feed_24 N n r x1 x2 x3 x4 x5 k)
  | 0, _, _ => kf_none
  | n + 1, r, k => by
    show KFD r (b_X12_feed_24 N (f_X12_feed_24 N n) r x1 x2 x3 x4 x5 k)
    unfold b_X12_feed_24
    have fin : ∀ (j : Nat) (v : Int32), KFD r (f_X12_feed_24 N n (RS.setA r 1 j v) x1 x2 x3 x4 x5 (k + 1)) := fun j v => kf_24 N x1 x2 x3 x4 x5 n (RS.setA r 1 j v) (k + 1)
    exact kf_ite (fun R q => by cases q; exact ⟨rfl, rfl, rfl, rfl, rfl⟩) (kf_ite (kf_ite (kf_ite (kf_ite (kf_ite (fin _ _) kf_none) (kf_ite (fin _ _) kf_none)) (kf_ite (fin _ _) kf_none)) (kf_ite (fin _ _) kf_none)) (kf_ite (fin _ _) kf_none))
theorem t_feed {N : Nat} (hN : 1000 ≤ N) {h0 : Nat} {s : CS} {r : RS} {T : Int32 × CS} {U : Int32 × RS} (hc : CIV h0 s) (h : TLD s r) (x1 x2 x3 x4 x5 : Int32) (e : f_X11_feed N s x1 x2 x3 x4 x5 = some T) (g : f_X12_feed N r x1 x2 x3 x4 x5 = some U) : TLD T.2 U.2 ∧ T.1 = U.1 := by
  obtain ⟨b1, b2, b3, b4, b5⟩ := ok_at (y_feed hN hc x1 x2 x3 x4 x5) e
  obtain ⟨a1, a2, a3, a4, a5⟩ := h
  rw [a1] at b1 b2
  unfold f_X12_feed at g
  by_cases c : r.i 2 + 20 ≤ 900
  · rw [if_pos c] at g
    obtain ⟨g1, g2, g3, g4, g5⟩ := kf_24 N x1 x2 x3 x4 x5 N _ _ U g
    obtain ⟨d1, d2⟩ := b1 c
    refine ⟨⟨d2.trans g2.symm, ?_, ?_, ?_, ?_⟩, d1.trans g1.symm⟩
    · rw [b3, g3]; exact a2
    · rw [b4, g4]; exact a3
    · rw [b5]; exact a4
    · rw [b5, g3, g5]; exact a5
  · rw [if_neg c] at g
    cases g
    obtain ⟨d1, d2⟩ := b2 c
    refine ⟨⟨d2, ?_, ?_, ?_, ?_⟩, d1⟩
    · rw [b3]; exact a2
    · rw [b4]; exact a3
    · rw [b5]; exact a4
    · rw [b5]; exact a5
/-! resource -/
theorem t_resource {N : Nat} {s : CS} {r : RS} {T : Int32 × CS} {U : Int32 × RS} (hr : RB r) (h : TLD s r) (x1 x2 x3 x4 : Int32) (e : f_X11_resource N s x1 x2 x3 x4 = some T) (g : f_X12_resource N r x1 x2 x3 x4 = some U) : TLD T.2 U.2 ∧ T.1 = U.1 := by
  obtain ⟨f1, f2, f3, f4⟩ := k4_X11_resource N s x1 x2 x3 x4 T e
  refine ⟨h.of f1 f2 f3 f4 (kr_f_X12_resource N r x1 x2 x3 x4 U g), ?_⟩
  obtain ⟨a1, a2, a3, a4, a5⟩ := h
  have b3 := hr.2.1.1
  have e7 : (7 : Int32).toInt = 7 := by decide
  have e8 : (8 : Int32).toInt = 8 := by decide
  have w : ∀ x : Int32, (x = -1 ∨ (0 ≤ x ∧ x < s.i 13)) ↔ (-1 ≤ x ∧ x ≤ r.i 3 - 1) := fun x => by rw [a2]; exact (le_mk b3).symm
  by_cases c1 : 0 ≤ x1 ∧ x1 ≤ 7
  · have i1 : ¬ x1 < 0 := Int32.not_lt.mpr c1.1
    have i2 : ¬ 8 ≤ x1 := fun q => by
      have q1 := le_int q
      have q2 := le_int c1.2
      omega
    by_cases c2 : 0 ≤ x2 ∧ x2 ≤ 1
    · have i3 : ¬ x2 < 0 := Int32.not_lt.mpr c2.1
      by_cases c3 : -1 ≤ x3 ∧ x3 ≤ r.i 3 - 1
      · by_cases c4 : -1 ≤ x4 ∧ x4 ≤ r.i 3 - 1
        · have e' : ok (f_X11_resource N s x1 x2 x3 x4) (fun R => R.1 = 1) := by
            unfold f_X11_resource f_X10_tellResource
            rw [if_neg i1, if_neg i2, if_neg i3, if_pos c2.2, e_ikn1 ((w x3).mpr c3), ob_some]
            refine ok_ite (fun q => absurd q n10) (fun _ => ?_)
            show ok (Option.bind (f_X11_isKindOrNothing N s x4) _) _
            rw [e_ikn1 ((w x4).mpr c4), ob_some]
            refine ok_ite (fun q => absurd q n10) (fun _ => ?_)
            exact ok_bind (ok_some (P := fun _ => True) trivial) (fun p _ => ok_some rfl)
          have hib : ib x1 8 := by
            have q1 := le_int c1.1
            have q2 := le_int c1.2
            rw [z_t0] at q1
            exact ⟨q1, by omega⟩
          have g' : ok (f_X12_resource N r x1 x2 x3 x4) (fun R => R.1 = 1) := by
            unfold f_X12_resource f_X12_resource_71
            rw [e_in1 c1, ob_some]
            have k4 : ∀ X : RS, ok (if ib x1 8 then some ((1 : Int32), RS.setA (RS.setA X 6 x1.toNatClampNeg (x3 + 1)) 7 x1.toNatClampNeg (x4 + 1)) else none) (fun R => R.1 = 1) := fun X => ok_chk hib (ok_some rfl)
            refine ok_ite (fun q => absurd q n10) (fun _ => ?_)
            show ok (Option.bind (f_X12_in N (RS.setI r 0 0) x2 0 1) _) _
            rw [e_in1 c2, ob_some]
            refine ok_ite (fun q => absurd q n10) (fun _ => ?_)
            show ok (Option.bind (f_X12_in N (RS.setI r 0 0) x3 (-1) (r.i 3 - 1)) _) _
            rw [e_in1 c3, ob_some]
            refine ok_ite (fun q => absurd q n10) (fun _ => ?_)
            show ok (Option.bind (f_X12_in N (RS.setI r 0 0) x4 (-1) (r.i 3 - 1)) _) _
            rw [e_in1 c4, ob_some]
            refine ok_ite (fun q => absurd q n10) (fun _ => ?_)
            exact ok_ite (fun _ => ok_chk hib (k4 _)) (fun _ => ok_chk hib (k4 _))
          exact (ok_at e' e).trans (ok_at g' g).symm
        · have e' : f_X11_resource N s x1 x2 x3 x4 = some (-1, s) := by
            unfold f_X11_resource f_X11_resource_38
            rw [if_neg i1, if_neg i2, if_neg i3, if_pos c2.2, e_ikn1 ((w x3).mpr c3), ob_some]
            refine (if_neg n10).trans ?_
            show Option.bind (f_X11_isKindOrNothing N s x4) _ = _
            rw [e_ikn0 (fun q => c4 ((w x4).mp q)), ob_some]
            exact if_pos rfl
          have g' : f_X12_resource N r x1 x2 x3 x4 = some (-1, RS.setI r 0 0) := by
            unfold f_X12_resource f_X12_resource_53
            rw [e_in1 c1, ob_some]
            refine (if_neg n10).trans ?_
            show Option.bind (f_X12_in N (RS.setI r 0 0) x2 0 1) _ = _
            rw [e_in1 c2, ob_some]
            refine (if_neg n10).trans ?_
            show Option.bind (f_X12_in N (RS.setI r 0 0) x3 (-1) (r.i 3 - 1)) _ = _
            rw [e_in1 c3, ob_some]
            refine (if_neg n10).trans ?_
            show Option.bind (f_X12_in N (RS.setI r 0 0) x4 (-1) (r.i 3 - 1)) _ = _
            rw [e_in0 c4, ob_some]
            exact if_pos rfl
          rw [e'] at e
          rw [g'] at g
          cases e
          cases g
          rfl
      · have e' : f_X11_resource N s x1 x2 x3 x4 = some (-1, s) := by
          unfold f_X11_resource f_X11_resource_38
          rw [if_neg i1, if_neg i2, if_neg i3, if_pos c2.2, e_ikn0 (fun q => c3 ((w x3).mp q)), ob_some]
          exact if_pos rfl
        have g' : f_X12_resource N r x1 x2 x3 x4 = some (-1, RS.setI r 0 0) := by
          unfold f_X12_resource f_X12_resource_53
          rw [e_in1 c1, ob_some]
          refine (if_neg n10).trans ?_
          show Option.bind (f_X12_in N (RS.setI r 0 0) x2 0 1) _ = _
          rw [e_in1 c2, ob_some]
          refine (if_neg n10).trans ?_
          show Option.bind (f_X12_in N (RS.setI r 0 0) x3 (-1) (r.i 3 - 1)) _ = _
          rw [e_in0 c3, ob_some]
          exact if_pos rfl
        rw [e'] at e
        rw [g'] at g
        cases e
        cases g
        rfl
    · have e' : f_X11_resource N s x1 x2 x3 x4 = some (-1, s) := by
        unfold f_X11_resource f_X11_resource_19
        rw [if_neg i1, if_neg i2]
        by_cases d : x2 < 0
        · exact if_pos d
        · exact (if_neg d).trans (if_neg (fun q => c2 ⟨Int32.not_lt.mp d, q⟩))
      have g' : f_X12_resource N r x1 x2 x3 x4 = some (-1, RS.setI r 0 0) := by
        unfold f_X12_resource f_X12_resource_53
        rw [e_in1 c1, ob_some]
        refine (if_neg n10).trans ?_
        show Option.bind (f_X12_in N (RS.setI r 0 0) x2 0 1) _ = _
        rw [e_in0 c2, ob_some]
        exact if_pos rfl
      rw [e'] at e
      rw [g'] at g
      cases e
      cases g
      rfl
  · have e' : f_X11_resource N s x1 x2 x3 x4 = some (-1, s) := by
      unfold f_X11_resource f_X11_resource_19
      by_cases d : x1 < 0
      · exact if_pos d
      · refine (if_neg d).trans (if_pos ?_)
        rw [Int32.le_iff_toInt_le]
        have q1 : ¬ x1.toInt ≤ 7 := fun q => c1 ⟨Int32.not_lt.mp d, by rw [Int32.le_iff_toInt_le, e7]; exact q⟩
        omega
    have g' : f_X12_resource N r x1 x2 x3 x4 = some (-1, RS.setI r 0 0) := by
      unfold f_X12_resource f_X12_resource_53
      rw [e_in0 c1, ob_some]
      exact if_pos rfl
    rw [e'] at e
    rw [g'] at g
    cases e
    cases g
    rfl
/-! under -/
theorem t_und {N : Nat} {s : CS} {r : RS} (hr : RB r) (h : TLD s r) {b : Int32} : ∀ (n1 n2 : Nat) (k x4 : Int32), 0 ≤ k.toInt → k.toInt < (r.i 3).toInt → 0 ≤ x4.toInt → x4.toInt + k.toInt < 12 → k.toInt + 2 ≤ n1 → k.toInt + 1 ≤ n2 → ∃ v : Int32, (v = 0 ∨ v = 1) ∧ f_X10_isUnder_5 N n1 s b k x4 = some (v, s) ∧ f_X12_isUnder_2 N n2 r b k = some (v, r)
  | 0, _, _, _, h0, _, _, _, h1, _ => by omega
  | n1 + 1, 0, _, _, h0, _, _, _, _, h2 => by omega
  | n1 + 1, n2 + 1, k, x4, h0, h3, h4, h5, h1, h2 => by
    have e12 : (12 : Int32).toInt = 12 := by decide
    have e1 : (1 : Int32).toInt = 1 := by decide
    have nx : ¬ (12 : Int32) ≤ x4 := fun q => by
      have := le_int q
      omega
    have nk : ¬ k < 0 := fun q => by
      have := lt_int q
      rw [z_t0] at this
      omega
    have es : (x4 + 1).toInt = x4.toInt + 1 := by rw [toInt_add] <;> rw [e1] <;> omega
    show ∃ v : Int32, (v = 0 ∨ v = 1) ∧ b_X10_isUnder_5 N (f_X10_isUnder_5 N n1) s b k x4 = some (v, s) ∧ b_X12_isUnder_2 N (f_X12_isUnder_2 N n2) r b k = some (v, r)
    unfold b_X10_isUnder_5 b_X12_isUnder_2 f_X10_isUnder_38 f_X12_isUnder_21
    by_cases c : k = b
    · exact ⟨1, Or.inr rfl, (if_neg nx).trans ((if_neg nk).trans (if_pos c)), (if_pos c).trans (if_pos c)⟩
    · by_cases d : k ≤ 0
      · have k0 : k.toInt = 0 := by
          have := le_int d
          rw [z_t0] at this
          omega
        have kz : k = 0 := Int32.toInt_inj.mp (by rw [k0, z_t0])
        refine ⟨0, Or.inl rfl, (if_neg nx).trans ((if_neg nk).trans ((if_neg c).trans ?_)), (if_neg c).trans ((if_pos d).trans (if_neg c))⟩
        have gk : gAt (s.a 9) 12 k = -1 := by
          rw [kz]
          unfold gAt
          exact (if_pos ⟨by decide, by decide⟩).trans h.2.2.2.1
        rw [gk]
        obtain ⟨n, rfl⟩ : ∃ n, n1 = n + 1 := ⟨n1 - 1, by omega⟩
        show b_X10_isUnder_5 N (f_X10_isUnder_5 N n) s b (-1) (x4 + 1) = some (0, s)
        unfold b_X10_isUnder_5 f_X10_isUnder_38
        by_cases f : (12 : Int32) ≤ x4 + 1
        · exact if_pos f
        · exact (if_neg f).trans (if_pos (by decide))
      · have kp : 0 < k.toInt := by
          have q : ¬ k.toInt ≤ 0 := fun q => d (by rw [Int32.le_iff_toInt_le, z_t0]; exact q)
          omega
        have hib : ib k 12 := ⟨h0, by omega⟩
        have ck := clampI h0
        obtain ⟨q1, q2⟩ := hr.2.2.1 k.toNatClampNeg (by omega) (by omega)
        have gk : gAt (s.a 9) 12 k = r.a 4 k.toNatClampNeg := by
          unfold gAt
          exact (if_pos hib).trans (h.2.2.2.2 k.toNatClampNeg (by omega) (by omega))
        obtain ⟨v, v1, v2, v3⟩ := t_und (N := N) hr h (b := b) n1 n2 (r.a 4 k.toNatClampNeg) (x4 + 1) q1 (by omega) (by omega) (by omega) (by omega) (by omega)
        refine ⟨v, v1, (if_neg nx).trans ((if_neg nk).trans ((if_neg c).trans ?_)), (if_neg c).trans ((if_neg d).trans ((if_pos hib).trans v3))⟩
        rw [gk]
        exact v2
theorem t_under {N : Nat} (hN : 1000 ≤ N) {s : CS} {r : RS} {T : Int32 × CS} {U : Int32 × RS} (hr : RB r) (h : TLD s r) (x1 x2 : Int32) (e : f_X11_under N s x1 x2 = some T) (g : f_X12_under N r x1 x2 = some U) : TLD T.2 U.2 ∧ T.1 = U.1 := by
  obtain ⟨f1, f2, f3, f4⟩ := k4_X11_under N s x1 x2 T e
  refine ⟨h.of f1 f2 f3 f4 (kr_f_X12_under N r x1 x2 U g), ?_⟩
  have h0 : TLD s (RS.setI r 0 0) := h
  have hr0 : RB (RS.setI r 0 0) := hr.i0 0
  obtain ⟨a1, a2, a3, a4, a5⟩ := h
  have b3 := hr.2.1.1
  have b4 := le_int hr.2.1.2
  have e12 : (12 : Int32).toInt = 12 := by decide
  by_cases c1 : 0 ≤ x1 ∧ x1 < r.i 3
  · have k1 : 0 ≤ x1 ∧ x1 < s.i 13 := ⟨c1.1, by rw [a2]; exact c1.2⟩
    have m1 : 0 ≤ x1 ∧ x1 ≤ r.i 3 - 1 := ⟨c1.1, (le_m1 b3).mpr c1.2⟩
    by_cases c2 : 0 ≤ x2 ∧ x2 < r.i 3
    · have k2 : 0 ≤ x2 ∧ x2 < s.i 13 := ⟨c2.1, by rw [a2]; exact c2.2⟩
      have m2 : 0 ≤ x2 ∧ x2 ≤ r.i 3 - 1 := ⟨c2.1, (le_m1 b3).mpr c2.2⟩
      have l0 := le_int c1.1
      have l1 := lt_int c1.2
      rw [z_t0] at l0
      obtain ⟨v, hv, u1, u2⟩ := t_und (N := N) hr0 h0 (b := x2) N N x1 0 l0 l1 (by decide) (by rw [z_t0]; omega) (by omega) (by omega)
      have u1' : f_X10_isUnder N s x1 x2 = some (v, s) := u1
      have u2' : f_X12_isUnder N (RS.setI r 0 0) x1 x2 = some (v, RS.setI r 0 0) := u2
      have e' : f_X11_under N s x1 x2 = some (v, s) := by
        unfold f_X11_under
        rw [e_isK1 k1, ob_some]
        refine (if_neg n10).trans ?_
        show Option.bind (f_X10_isKind N s x2) _ = _
        rw [e_isK1 k2, ob_some]
        refine (if_neg n10).trans ?_
        show Option.bind (f_X10_isUnder N s x1 x2) _ = _
        rw [u1', ob_some]
        rcases hv with rfl | rfl
        · exact if_pos rfl
        · exact if_neg n10
      have g' : f_X12_under N r x1 x2 = some (v, RS.setI r 0 0) := by
        unfold f_X12_under
        rw [e_in1 m1, ob_some]
        refine (if_neg n10).trans ?_
        show Option.bind (f_X12_in N (RS.setI r 0 0) x2 0 (r.i 3 - 1)) _ = _
        rw [e_in1 m2, ob_some]
        refine (if_neg n10).trans ?_
        show Option.bind (f_X12_isUnder N (RS.setI r 0 0) x1 x2) _ = _
        rw [u2', ob_some]
        rcases hv with rfl | rfl
        · exact if_pos rfl
        · exact if_neg n10
      rw [e'] at e
      rw [g'] at g
      cases e
      cases g
      rfl
    · have k2 : ¬ (0 ≤ x2 ∧ x2 < s.i 13) := by rw [a2]; exact c2
      have m2 : ¬ (0 ≤ x2 ∧ x2 ≤ r.i 3 - 1) := by rw [le_m1 b3]; exact c2
      have e' : f_X11_under N s x1 x2 = some (-1, s) := by
        unfold f_X11_under f_X11_under_22
        rw [e_isK1 k1, ob_some]
        refine (if_neg n10).trans ?_
        show Option.bind (f_X10_isKind N s x2) _ = _
        rw [e_isK0 k2, ob_some]
        exact if_pos rfl
      have g' : f_X12_under N r x1 x2 = some (-1, RS.setI r 0 0) := by
        unfold f_X12_under f_X12_under_33
        rw [e_in1 m1, ob_some]
        refine (if_neg n10).trans ?_
        show Option.bind (f_X12_in N (RS.setI r 0 0) x2 0 (r.i 3 - 1)) _ = _
        rw [e_in0 m2, ob_some]
        exact if_pos rfl
      rw [e'] at e
      rw [g'] at g
      cases e
      cases g
      rfl
  · have k1 : ¬ (0 ≤ x1 ∧ x1 < s.i 13) := by rw [a2]; exact c1
    have m1 : ¬ (0 ≤ x1 ∧ x1 ≤ r.i 3 - 1) := by rw [le_m1 b3]; exact c1
    have e' : f_X11_under N s x1 x2 = some (-1, s) := by
      unfold f_X11_under f_X11_under_22
      rw [e_isK0 k1, ob_some]
      exact if_pos rfl
    have g' : f_X12_under N r x1 x2 = some (-1, RS.setI r 0 0) := by
      unfold f_X12_under f_X12_under_33
      rw [e_in0 m1, ob_some]
      exact if_pos rfl
    rw [e'] at e
    rw [g'] at g
    cases e
    cases g
    rfl
