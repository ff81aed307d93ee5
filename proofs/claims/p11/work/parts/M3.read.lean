/-! read, and what stands between the calls of the reference -/
def RI (s : RS) : Prop := RB s ∧ RR s ∧ WD s ∧ (s.i 75 = 0 ∨ s.i 75 = 1) ∧ (¬ s.i 77 = 0 → ∃ g : Gh, WT s g)
theorem p_167 {N : Nat} {s : RS} (h : s.i 75 = 0 ∨ s.i 75 = 1) : ok (f_X12_read_167 N s) (fun R => (∀ j : Nat, j < 76 ∨ 82 ≤ j → R.2.i j = s.i j) ∧ R.2.a = s.a ∧ R.2.b = s.b ∧ R.2.i 81 = 0 ∧ (¬ R.2.i 77 = 0 → s.i 15 = 0)) := by
  unfold f_X12_read_167
  rw [if_pos h]
  have z199 : ∀ (A : RS), (∀ j : Nat, j < 76 ∨ 82 ≤ j → A.i j = s.i j) → A.a = s.a → A.b = s.b → (¬ A.i 77 = 0 → s.i 15 = 0) → ok (f_X12_read_199 N A) (fun R => (∀ j : Nat, j < 76 ∨ 82 ≤ j → R.2.i j = s.i j) ∧ R.2.a = s.a ∧ R.2.b = s.b ∧ R.2.i 81 = 0 ∧ (¬ R.2.i 77 = 0 → s.i 15 = 0)) := fun A h1 h2 h3 h4 => by
    unfold f_X12_read_199
    have hj : ∀ j : Nat, j < 76 ∨ 82 ≤ j → (RS.setI (RS.setI A 79 0) 81 0).i j = s.i j := fun j hj => ((if_neg (by omega)).trans (if_neg (by omega))).trans (h1 j hj)
    exact ok_ite (fun _ => ok_some ⟨hj, h2, h3, rfl, h4⟩) (fun _ => ok_some ⟨hj, h2, h3, rfl, h4⟩)
  have hj : ∀ (x : Int32) (j : Nat), j < 76 ∨ 82 ≤ j → (RS.setI (RS.setI (RS.setI s 78 (s.i 75)) 76 (s.i 15)) 77 x).i j = s.i j := fun x j hj => (if_neg (by omega)).trans ((if_neg (by omega)).trans (if_neg (by omega)))
  refine ok_ite (fun c => z199 _ (hj 1) rfl rfl (fun _ => c)) (fun c => z199 _ (hj 0) rfl rfl (fun q => ?_))
  exact absurd rfl q
theorem p_138 {N : Nat} {s : RS} (h : s.i 75 = 0 ∨ s.i 75 = 1) : ok (f_X12_read_138 N s) (fun R => (∀ j : Nat, j < 76 ∨ 82 ≤ j → j ≠ 2 → j ≠ 15 → j ≠ 16 → R.2.i j = s.i j) ∧ R.2.a = s.a ∧ R.2.b = s.b ∧ R.2.i 2 = 0 ∧ R.2.i 81 = 0 ∧ (¬ R.2.i 77 = 0 → s.i 15 = 0 ∧ s.i 18 < 0)) := by
  unfold f_X12_read_138
  have s2 : ∀ j : Nat, j ≠ 2 → (s.setI 2 0).i j = s.i j := fun j hj => if_neg hj
  refine ok_ite (fun c => ok_ite (fun c2 => ?_) (fun c2 => ?_)) (fun c => ?_)
  · refine ok_imp (p_167 (s := s.setI 2 0) h) (fun R hR => ?_)
    obtain ⟨a1, a2, a3, a4, a5⟩ := hR
    exact ⟨fun j q1 q2 _ _ => (a1 j q1).trans (s2 j q2), a2, a3, (a1 2 (by omega)), a4, fun _ => ⟨c, c2⟩⟩
  · rw [e_fail]
    have e15 : (s.setI 2 0).i 15 = 0 := c
    rw [if_pos e15]
    show ok (f_X12_read_167 N (((s.setI 2 0).setI 15 7).setI 16 (s.i 18))) _
    refine ok_imp (p_167 (s := ((s.setI 2 0).setI 15 7).setI 16 (s.i 18)) h) (fun R hR => ?_)
    obtain ⟨a1, a2, a3, a4, a5⟩ := hR
    refine ⟨fun j q1 q2 q3 q4 => (a1 j q1).trans ((if_neg q4).trans ((if_neg q3).trans (if_neg q2))), a2, a3, (a1 2 (by omega)), a4, fun q => absurd (a5 q) ?_⟩
    show ¬ (7 : Int32) = 0
    decide
  · refine ok_imp (p_167 (s := s.setI 2 0) h) (fun R hR => ?_)
    obtain ⟨a1, a2, a3, a4, a5⟩ := hR
    exact ⟨fun j q1 q2 _ _ => (a1 j q1).trans (s2 j q2), a2, a3, (a1 2 (by omega)), a4, fun q => absurd (a5 q) c⟩
theorem p_can2 {N : Nat} {s : RS} {x : Int32} : ok (f_X12_can N s x) (fun R => (∀ j : Nat, j ≠ 15 → j ≠ 16 → R.2.i j = s.i j) ∧ R.2.a = s.a ∧ R.2.b = s.b ∧ (R.2.i 15 = 0 → R.2 = s)) := by
  rw [e_can]
  refine ok_some ?_
  by_cases c : s.i 15 = 0
  · rw [if_neg (fun z => z c)]
    by_cases d : x = 0 ∨ s.i 10 = 6
    · rw [if_pos d]
      refine ⟨fun j q1 q2 => (if_neg q2).trans (if_neg q1), rfl, rfl, fun q => absurd q ?_⟩
      show ¬ (if s.i 10 = 6 then (1 : Int32) else 2) = 0
      by_cases e : s.i 10 = 6
      · rw [if_pos e]; decide
      · rw [if_neg e]; decide
    · rw [if_neg d]
      exact ⟨fun _ _ _ => rfl, rfl, rfl, fun _ => rfl⟩
  · rw [if_pos c]
    exact ⟨fun _ _ _ => rfl, rfl, rfl, fun _ => rfl⟩
theorem p_read {N : Nat} (hN : 40000 ≤ N) {s : RS} (h : RI s) : ok (f_X12_read N s) (fun R => RI R.2) := by
  obtain ⟨h1, h2, h3, h4, h5⟩ := h
  unfold f_X12_read
  obtain ⟨A, hA⟩ : ∃ A, A = RS.setI (RS.setI (RS.setI (RS.setI (RS.setI (RS.setI (RS.setI (RS.setI (RS.setI s 0 0) 38 0) 42 0) 43 0) 19 0) 53 0) 54 0) 55 0) 20 0 := ⟨_, rfl⟩
  have iA : ∀ j : Nat, j ≠ 0 → j ≠ 19 → j ≠ 20 → j ≠ 38 → j ≠ 42 → j ≠ 43 → ¬ (53 ≤ j ∧ j ≤ 55) → A.i j = s.i j := fun j q0 q1 q2 q3 q4 q5 q6 => by
    rw [hA]
    exact (if_neg q2).trans ((if_neg (by omega)).trans ((if_neg (by omega)).trans ((if_neg (by omega)).trans ((if_neg q1).trans ((if_neg q5).trans ((if_neg q4).trans ((if_neg q3).trans (if_neg q0))))))))
  have A19 : A.i 19 = 0 := by rw [hA]; rfl
  have A20 : A.i 20 = 0 := by rw [hA]; rfl
  have A38 : A.i 38 = 0 := by rw [hA]; rfl
  have A42 : A.i 42 = 0 := by rw [hA]; rfl
  have A43 : A.i 43 = 0 := by rw [hA]; rfl
  have aA : A.a = s.a := by rw [hA]; rfl
  have bA : A.b = s.b := by rw [hA]; rfl
  rw [← hA]
  clear hA
  obtain ⟨B, hB⟩ : ∃ B, B = RS.setI (RS.setI (RS.setI (RS.setI (RS.setI (RS.setI (RS.setI (RS.setI (RS.setI (RS.setI A 24 0) 29 0) 33 0) 56 0) 59 0) 52 0) 12 0) 15 0) 18 (-1)) 17 0 := ⟨_, rfl⟩
  have iB : ∀ j : Nat, j ≠ 12 → j ≠ 15 → j ≠ 17 → j ≠ 18 → j ≠ 24 → j ≠ 29 → j ≠ 33 → j ≠ 52 → j ≠ 56 → j ≠ 59 → B.i j = A.i j := fun j q0 q1 q2 q3 q4 q5 q6 q7 q8 q9 => by
    rw [hB]
    exact (if_neg q2).trans ((if_neg q3).trans ((if_neg q1).trans ((if_neg q0).trans ((if_neg q7).trans ((if_neg q9).trans ((if_neg q8).trans ((if_neg q6).trans ((if_neg q5).trans (if_neg q4)))))))))
  have B12 : B.i 12 = 0 := by rw [hB]; rfl
  have B15 : B.i 15 = 0 := by rw [hB]; rfl
  have B17 : B.i 17 = 0 := by rw [hB]; rfl
  have B24 : B.i 24 = 0 := by rw [hB]; rfl
  have B29 : B.i 29 = 0 := by rw [hB]; rfl
  have B33 : B.i 33 = 0 := by rw [hB]; rfl
  have B52 : B.i 52 = 0 := by rw [hB]; rfl
  have B56 : B.i 56 = 0 := by rw [hB]; rfl
  have B59 : B.i 59 = 0 := by rw [hB]; rfl
  have aB : B.a = s.a := by rw [hB]; exact aA
  have bB : B.b = s.b := by rw [hB]; exact bA
  rw [← hB]
  clear hB
  have B38 : B.i 38 = 0 := by rw [iB 38 (by decide) (by decide) (by decide) (by decide) (by decide) (by decide) (by decide) (by decide) (by decide) (by decide)]; exact A38
  have B42 : B.i 42 = 0 := by rw [iB 42 (by decide) (by decide) (by decide) (by decide) (by decide) (by decide) (by decide) (by decide) (by decide) (by decide)]; exact A42
  have seB : seI B = 0 := by unfold seI; rw [B38]; exact z_t0
  have slB : slI B = 0 := by unfold slI; rw [B42]; exact z_t0
  rw [p_se (N := N) 97 (Or.inl rfl) (by omega) (by omega)]
  show ok ((f_X12_see N (SE B 97 0) 98 0).bind fun p3 => (f_X12_next N p3.2).bind fun p5 => (f_X12_parse N p5).bind fun p7 => (if (p7.i 10) = 0 then (f_X12_can N p7 1).bind fun p19 => f_X12_read_138 N p19.2 else (f_X12_can N p7 0).bind fun p10 => f_X12_read_138 N p10.2)) _
  obtain ⟨C, hC⟩ : ∃ C, C = SE B 97 0 := ⟨_, rfl⟩
  have iC : ∀ j : Nat, j ≠ 38 → j ≠ 42 → C.i j = B.i j := fun j q1 q2 => by rw [hC]; exact SE.eI q1 q2
  have aC : ∀ k : Nat, k ≠ 40 → k ≠ 41 → C.a k = s.a k := fun k q1 q2 => by rw [hC, SE.eA q1 q2, aB]
  have n0 : (B.i 38).toNatClampNeg = 0 := by rw [B38]; decide
  have C40 : C.a 40 0 = 0 := by
    have e := SE.a40 (u := B) (n := 97) (c := 0)
    rw [n0, B42] at e
    rw [hC]; exact e
  have C41 : C.a 41 0 = 0 := by
    have e := SE.a41 (u := B) (n := 97) (c := 0)
    rw [n0] at e
    rw [hC]; exact e
  have seC : seI C = 1 := by rw [hC, SE.eSE (by omega) (by omega)]; omega
  have slC : slI C = 1 := by rw [hC, SE.eSL (by omega) (by omega)]; omega
  have C38 : C.i 38 = 1 := by
    rw [hC]; show B.i 38 + 1 = 1; rw [B38]; decide
  have C42 : C.i 42 = 1 := by
    rw [hC]; show B.i 42 + 1 = 1; rw [B42]; decide
  have bC : C.b 9 = s.b 9 := by rw [hC, ← bB]; rfl
  rw [← hC]
  clear hC
  rw [p_se (N := N) 98 (Or.inl rfl) (by omega) (by omega)]
  show ok ((f_X12_next N (SE C 98 0)).bind fun p5 => (f_X12_parse N p5).bind fun p7 => (if (p7.i 10) = 0 then (f_X12_can N p7 1).bind fun p19 => f_X12_read_138 N p19.2 else (f_X12_can N p7 0).bind fun p10 => f_X12_read_138 N p10.2)) _
  obtain ⟨D, hD⟩ : ∃ D, D = SE C 98 0 := ⟨_, rfl⟩
  have iD : ∀ j : Nat, j ≠ 38 → j ≠ 42 → D.i j = B.i j := fun j q1 q2 => by rw [hD, SE.eI q1 q2]; exact iC j q1 q2
  have aD : ∀ k : Nat, k ≠ 40 → k ≠ 41 → D.a k = s.a k := fun k q1 q2 => by rw [hD, SE.eA q1 q2]; exact aC k q1 q2
  have n1 : (C.i 38).toNatClampNeg = 1 := by rw [C38]; decide
  have D40 : D.a 40 1 = 1 := by
    have e := SE.a40 (u := C) (n := 98) (c := 0)
    rw [n1, C42] at e
    rw [hD]; exact e
  have D41 : D.a 41 1 = 0 := by
    have e := SE.a41 (u := C) (n := 98) (c := 0)
    rw [n1] at e
    rw [hD]; exact e
  have D400 : D.a 40 0 = 0 := by rw [hD, SE.lo (by rw [n1]; decide)]; exact C40
  have D410 : D.a 41 0 = 0 := by rw [hD, SE.lo (by rw [n1]; decide)]; exact C41
  have seD : seI D = 2 := by rw [hD, SE.eSE (by omega) (by omega)]; omega
  have slD : slI D = 2 := by rw [hD, SE.eSL (by omega) (by omega)]; omega
  have bD : D.b 9 = s.b 9 := by rw [hD, ← bC]; rfl
  rw [← hD]
  clear hD
  have iDs : ∀ j : Nat, (0 < j ∧ j < 10) ∨ 75 ≤ j → D.i j = s.i j := fun j hj => by
    rw [iD j (by omega) (by omega), iB j (by omega) (by omega) (by omega) (by omega) (by omega) (by omega) (by omega) (by omega) (by omega) (by omega), iA j (by omega) (by omega) (by omega) (by omega) (by omega) (by omega) (by omega)]
  have D2 : D.i 2 = s.i 2 := iDs 2 (by omega)
  have D12 : D.i 12 = 0 := (iD 12 (by decide) (by decide)).trans B12
  have D15 : D.i 15 = 0 := (iD 15 (by decide) (by decide)).trans B15
  have D17 : D.i 17 = 0 := (iD 17 (by decide) (by decide)).trans B17
  have wD : WD D := fun k hk => by rw [bD]; exact h3 k hk
  refine ok_bind (p_next (by omega) D (by rw [D12]; decide) (by rw [D12, D2]; exact h1.1.1) (by rw [D2]; exact h1.1.2) wD) (fun R hR => ?_)
  rcases hR with ⟨c, -⟩ | ⟨-, ⟨⟨u1, u2, u3⟩, t1, t2, t3, t4, t5, t6, t7, t8, t9⟩, hf⟩
  · exact absurd D15 c
  have iR : ∀ j : Nat, j ≠ 10 → j ≠ 11 → j ≠ 12 → j ≠ 14 → j ≠ 17 → R.i j = D.i j := fun j q1 q2 q3 q4 q5 => (u1 j q1 q2 q3 q4).trans (if_neg q5)
  have R17 : R.i 17 = 1 := by
    rw [u1 17 (by decide) (by decide) (by decide) (by decide)]
    show D.i 17 + 1 = 1
    rw [D17]; decide
  have aR : R.a = D.a := u2
  have bR : R.b = D.b := u3
  have R2 : R.i 2 = s.i 2 := (iR 2 (by decide) (by decide) (by decide) (by decide) (by decide)).trans D2
  have R3 : R.i 3 = s.i 3 := (iR 3 (by decide) (by decide) (by decide) (by decide) (by decide)).trans (iDs 3 (by omega))
  have wR : WD R := fun k hk => by rw [bR, bD]; exact h3 k hk
  have lR : LXI R := ⟨t1, t2, t3, by rw [R2]; exact h1.1.2, t4, t5, t6, t7, t8, wR, t9⟩
  have fR := lR.f0
  have iRB : ∀ j : Nat, 18 ≤ j → j ≠ 38 → j ≠ 42 → R.i j = B.i j := fun j q1 q2 q3 => (iR j (by omega) (by omega) (by omega) (by omega) (by omega)).trans (iD j q2 q3)
  have iRA : ∀ j : Nat, 18 < j → j ≠ 24 → j ≠ 29 → j ≠ 33 → j ≠ 38 → j ≠ 42 → j ≠ 52 → j ≠ 56 → j ≠ 59 → R.i j = A.i j := fun j q1 q2 q3 q4 q5 q6 q7 q8 q9 => (iRB j (by omega) q5 q6).trans (iB j (by omega) (by omega) (by omega) (by omega) q2 q3 q4 q7 q8 q9)
  have rd : RD0 R := by
    refine ⟨lR, RB.of R2 R3 (by rw [aR, aD 4 (by decide) (by decide)]) (by rw [aR, aD 6 (by decide) (by decide)]) (by rw [aR, aD 7 (by decide) (by decide)]) h1, (iR 15 (by decide) (by decide) (by decide) (by decide) (by decide)).trans D15, ?_, ⟨(iRA 19 (by decide) (by decide) (by decide) (by decide) (by decide) (by decide) (by decide) (by decide) (by decide)).trans A19, (iRA 20 (by decide) (by decide) (by decide) (by decide) (by decide) (by decide) (by decide) (by decide) (by decide)).trans A20, (iRB 24 (by decide) (by decide) (by decide)).trans B24, (iRB 29 (by decide) (by decide) (by decide)).trans B29, (iRB 33 (by decide) (by decide) (by decide)).trans B33, (iRA 43 (by decide) (by decide) (by decide) (by decide) (by decide) (by decide) (by decide) (by decide) (by decide)).trans A43, (iRB 52 (by decide) (by decide) (by decide)).trans B52, (iRB 56 (by decide) (by decide) (by decide)).trans B56, (iRB 59 (by decide) (by decide) (by decide)).trans B59⟩, ⟨?_, ?_⟩, fun x hx => ?_, ?_⟩
    · rw [iR 75 (by decide) (by decide) (by decide) (by decide) (by decide), iDs 75 (by omega)]; exact h4
    · rw [← seD]; unfold seI; rw [iR 38 (by decide) (by decide) (by decide) (by decide) (by decide)]
    · rw [← slD]; unfold slI; rw [iR 42 (by decide) (by decide) (by decide) (by decide) (by decide)]
    · unfold gv
      rw [aR]
      have e1 : (1 : Int32).toInt = 1 := by decide
      rcases Nat.lt_or_ge x 1 with q | q
      · have e : x = 0 := by omega
        rw [e, D400, D410, z_t0]
        exact ⟨by omega, by omega, rfl⟩
      · have e : x = 1 := by omega
        rw [e, D40, D41, e1]
        exact ⟨by omega, by omega, rfl⟩
    · have e1 : (1 : Int32).toInt = 1 := by decide
      unfold tkI
      rw [R17, e1]
      omega
  have iRs : ∀ j : Nat, (0 < j ∧ j < 10) ∨ 76 ≤ j → R.i j = s.i j := fun j hj => (iR j (by omega) (by omega) (by omega) (by omega) (by omega)).trans (iDs j (by omega))
  have aRs : ∀ k : Nat, k ≠ 40 → k ≠ 41 → R.a k = s.a k := fun k q1 q2 => by rw [aR]; exact aD k q1 q2
  have bRs : R.b 9 = s.b 9 := by rw [bR]; exact bD
  clear iA iB iC iD iDs aD aC aB aA iR iRB iRA
  refine ok_bind (p_parse hN rd) (fun p hp => ?_)
  obtain ⟨⟨k1, k2, k3⟩, p75, pw⟩ := hp
  have fin : ∀ x : Int32, ok ((f_X12_can N p x).bind fun p19 => f_X12_read_138 N p19.2) (fun R => RI R.2) := fun x => by
    refine ok_bind p_can2 (fun q hq => ?_)
    obtain ⟨q1, q2, q3, q4⟩ := hq
    refine ok_imp (p_138 (by rw [q1 75 (by decide) (by decide)]; exact p75)) (fun T hT => ?_)
    obtain ⟨y1, y2, y3, y4, y5, y6⟩ := hT
    have iT : ∀ j : Nat, (j < 76 ∨ 82 ≤ j) → j ≠ 2 → j ≠ 15 → j ≠ 16 → T.2.i j = p.i j := fun j z1 z2 z3 z4 => (y1 j z1 z2 z3 z4).trans (q1 j z3 z4)
    have aT : T.2.a = p.a := y2.trans q2
    have iTs : ∀ j : Nat, ((0 < j ∧ j < 10) ∨ 82 ≤ j) → j ≠ 2 → T.2.i j = s.i j := fun j z1 z2 => (iT j (by omega) z2 (by omega) (by omega)).trans ((k1 j (by omega)).trans (iRs j (by omega)))
    have aTs : ∀ k : Nat, k < 10 ∨ 76 ≤ k → T.2.a k = s.a k := fun k hk => by rw [aT, k2 k hk, aRs k (by omega) (by omega)]
    have T3 : T.2.i 3 = s.i 3 := iTs 3 (by omega) (by decide)
    refine ⟨⟨⟨by rw [y4]; decide, by rw [y4]; decide⟩, ?_⟩, ⟨⟨by rw [y5]; decide, by rw [y5]; decide⟩, ?_, ?_, ?_⟩, fun k hk => ?_, ?_, fun z => ?_⟩
    · have := h1.2
      rw [T3, aTs 4 (by omega), aTs 6 (by omega), aTs 7 (by omega)]
      exact this
    · rw [iTs 115 (by omega) (by decide), iTs 114 (by omega) (by decide)]; exact h2.2.1
    · have := h2.2.2.1
      unfold gv at this ⊢
      rw [aTs 88 (by omega)]; exact this
    · have := h2.2.2.2
      unfold gv at this ⊢
      rw [aTs 86 (by omega), T3]; exact this
    · rw [y3, q3, k3, bRs]; exact h3 k hk
    · rw [iT 75 (by omega) (by decide) (by decide) (by decide)]; exact p75
    · obtain ⟨z1, z2⟩ := y6 z
      have e := q4 z1
      rw [e] at z1 z2
      obtain ⟨g, hg⟩ := pw z1 (fun z3 => absurd z3 (by
        have := lt_int z2
        intro z3
        have := le_int z3
        omega))
      refine ⟨g, hg.eqw ⟨⟨?_, ?_, ?_, ?_, ?_⟩, fun k _ _ => by rw [aT]⟩⟩
      · exact iT 20 (by omega) (by decide) (by decide) (by decide)
      · exact iT 24 (by omega) (by decide) (by decide) (by decide)
      · exact iT 29 (by omega) (by decide) (by decide) (by decide)
      · exact iT 33 (by omega) (by decide) (by decide) (by decide)
      · exact iT 3 (by omega) (by decide) (by decide) (by decide)
  exact ok_ite (fun _ => fin 1) (fun _ => fin 0)
theorem RI.rk {s t : RS} (h : RI s) (hb : RB t) (e : RK s t) : RI t := by
  obtain ⟨h1, h2, h3, h4, h5⟩ := h
  have i3 := le_int e.2.2.2.2
  refine ⟨hb, ⟨?_, ?_, ?_, fun x hx => ?_⟩, fun k hk => by rw [e.2.2.1]; exact h3 k hk, by rw [e.1 75 (by decide) (by decide) (by decide) (by decide)]; exact h4, fun z => ?_⟩
  · rw [e.1 81 (by decide) (by decide) (by decide) (by decide)]; exact h2.1
  · rw [e.1 115 (by decide) (by decide) (by decide) (by decide), e.1 114 (by decide) (by decide) (by decide) (by decide)]; exact h2.2.1
  · have := h2.2.2.1
    unfold gv at this ⊢
    rw [e.2.1 88 (by decide) (by decide) (by decide) (by decide) (by decide)]; exact this
  · have := h2.2.2.2 x hx
    unfold gv at this ⊢
    rw [e.2.1 86 (by decide) (by decide) (by decide) (by decide) (by decide)]
    omega
  · obtain ⟨g, hg⟩ := h5 (by rw [← e.1 77 (by decide) (by decide) (by decide) (by decide)]; exact z)
    exact ⟨g, hg.rk e⟩
theorem RI.i0 {s : RS} (h : RI s) (v : Int32) : RI (s.setI 0 v) := h.rk (h.1.i0 v) (RK.i0 s v)
theorem q_run {N : Nat} (hN : 10000000000 ≤ N) {s : RS} (x1 x2 : Int32) (h : RI s) : ok (f_X12_run N s x1 x2) (fun R => RI R.2) := by
  refine ok_imp (p_run hN s x1 x2 h.1 h.2.1 h.2.2.2.2) (fun R hR => ?_)
  rcases hR with ⟨-, e⟩ | ⟨c, a1, a2, a3, a4, a5, a6, a7⟩
  · rw [e]; exact h.i0 0
  have h' := h.i0 0
  obtain ⟨h1, h2, h3, h4, h5⟩ := h'
  refine ⟨a6, a7, fun k hk => by rw [a3]; exact h3 k hk, by rw [a1 75 (by decide)]; exact h4, fun z => ?_⟩
  obtain ⟨g, hg⟩ := h5 (by rw [← a1 77 (by decide)]; exact z)
  exact ⟨g, hg.eqw ⟨⟨a1 20 (by decide), a1 24 (by decide), a1 29 (by decide), a1 33 (by decide), a1 3 (by decide)⟩, fun k _ _ => a4 k (by omega)⟩⟩
theorem q_ran {N : Nat} (hN : 1000 ≤ N) {s : RS} (x1 : Int32) (h : RI s) : ok (f_X12_ran N s x1) (fun R => RI R.2) := ok_imp (p_ran hN s x1 h.2.1) (fun R e => by rw [e]; exact h.i0 0)
theorem q_trace {N : Nat} {s : RS} (x1 x2 : Int32) (h : RI s) : ok (f_X12_trace N s x1 x2) (fun R => RI R.2) := ok_imp (p_trace N s x1 x2 h.2.1) (fun R e => by rw [e]; exact h.i0 0)
theorem q_suppressed {N : Nat} {s : RS} (x1 x2 : Int32) (h : RI s) : ok (f_X12_suppressed N s x1 x2) (fun R => RI R.2) := ok_imp (p_suppressed N s x1 x2 h.2.1) (fun R e => by rw [e]; exact h.i0 0)
theorem q_cut {N : Nat} {s : RS} (x1 : Int32) (h : RI s) : ok (f_X12_cut N s x1) (fun R => RI R.2) := ok_imp (p_cut N s x1 h.1) (fun R e => h.rk e.1 e.2)
theorem q_under {N : Nat} (hN : 100 ≤ N) {s : RS} (x1 x2 : Int32) (h : RI s) : ok (f_X12_under N s x1 x2) (fun R => RI R.2) := ok_imp (p_under hN s x1 x2 h.1) (fun R e => h.rk e.1 e.2)
theorem q_kind {N : Nat} {s : RS} (x1 : Int32) (h : RI s) : ok (f_X12_kind N s x1) (fun R => RI R.2) := ok_imp (p_kind N s x1 h.1) (fun R e => h.rk e.1 e.2)
theorem q_resource {N : Nat} {s : RS} (x1 x2 x3 x4 : Int32) (h : RI s) : ok (f_X12_resource N s x1 x2 x3 x4) (fun R => RI R.2) := ok_imp (p_resource N s x1 x2 x3 x4 h.1) (fun R e => h.rk e.1 e.2)
theorem q_asserts {N : Nat} {s : RS} (x1 : Int32) (hx : x1 = 0 ∨ x1 = 1) (h : RI s) : ok (f_X12_asserts N s x1) (fun R => RI R.2) := ok_imp (p_asserts N s x1 h.1 hx) (fun R e => h.rk e.1 e.2)
theorem q_fault {N : Nat} {s : RS} (h : RI s) : ok (f_X12_fault N s) (fun R => RI R.2) := ok_imp (p_fault N s h.1) (fun R e => h.rk e.1 e.2)
theorem q_program {N : Nat} {s : RS} (x1 : Int32) (h : RI s) : ok (f_X12_program N s x1) (fun R => RI R.2) := ok_imp (p_program N s x1 h.1) (fun R e => h.rk e.1 e.2)
theorem q_feed {N : Nat} (hN : 100 ≤ N) {s : RS} (x1 x2 x3 x4 x5 : Int32) (h : RI s) : ok (f_X12_feed N s x1 x2 x3 x4 x5) (fun R => RI R.2) := ok_imp (p_feed hN s x1 x2 x3 x4 x5 h.1) (fun R e => h.rk e.1 e.2)
