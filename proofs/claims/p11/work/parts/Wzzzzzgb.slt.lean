/-! the reference: slots of a text that was read -/
theorem p_slots {N : Nat} (hN : 40000 ≤ N) {s : RS} (h : RD0 s) : ok (f_X12_parse N s) (fun R => (R.i 75 = 0 ∨ R.i 75 = 1) ∧ (R.i 15 = 0 → (R.i 42).toInt ≤ 460)) := by
  unfold f_X12_parse
  have e : f_X12_push N (RS.setI s 63 (-1)) 1 = some (PU s) := by
    have e0 : ((RS.setI s 63 (-1)).i 63) + 1 = (0 : Int32) := by show (-1 : Int32) + 1 = 0; decide
    unfold f_X12_push
    rw [e0, if_pos (show ib (0 : Int32) 1000 from ⟨by decide, by decide⟩)]
    rfl
  rw [e]
  show ok (f_X12_parse_10 N N (PU s)) _
  have hp := PU.rd h
  have f0 := hp.1.f0
  have n := hp.n
  refine (run_all (N := N) (by omega) 900).2.2.2.2.2.2.2.1 N (PU s) 0 _ hp.inv hp.prl (by show (0 : Int32).toInt = ((0 : Nat) : Int); decide) rfl rfl (by omega) (by omega) (by omega) (fun u hu => ?_) (fun m u hu hu2 hm => ?_)
  · exact ⟨hu.2.2, fun q => absurd q hu.1⟩
  · have fu := hu.1.1.f0
    obtain ⟨m', rfl⟩ : ∃ m', m = m' + 1 := ⟨m - 1, by omega⟩
    have tp : tpI u = -1 := by have := hu.2.1; omega
    show ok (b_X12_parse_10 N (f_X12_parse_10 N m') u) _
    unfold b_X12_parse_10
    have e1 : u.i 63 < 0 := Int32.lt_iff_toInt_lt.mpr (by rw [z_t0]; show tpI u < 0; omega)
    rw [if_pos e1]
    exact ok_some ⟨hu.1.r, fun _ => by
      have nm := hu.1.2.2.2.2.2.2.2.2.2.2.1
      show slI u ≤ 460
      omega⟩
set_option maxHeartbeats 1000000 in
/-- few slots -/
theorem rd_slt {N : Nat} (hN : 40000 ≤ N) {s : RS} (h : RI s) : ok (f_X12_read N s) (fun R => ¬ R.2.i 77 = 0 → (R.2.i 42).toInt ≤ 460) := by
  obtain ⟨h1, h2, h3, h4, h5⟩ := h
  unfold f_X12_read
  obtain ⟨A, hA⟩ : ∃ A, A = RS.setI (RS.setI (RS.setI (RS.setI (RS.setI (RS.setI (RS.setI (RS.setI (RS.setI s 0 0) 38 0) 42 0) 43 0) 19 0) 53 0) 54 0) 55 0) 20 0 := ⟨_, rfl⟩
  have iA : ∀ j : Nat, j ≠ 0 → j ≠ 19 → j ≠ 20 → j ≠ 38 → j ≠ 42 → j ≠ 43 → ¬ (53 ≤ j ∧ j ≤ 55) → A.i j = s.i j := fun j q0 q1 q2 q3 q4 q5 q6 => by
    rw [hA]
    exact (if_neg q2).trans ((if_neg (by omega)).trans ((if_neg (by omega)).trans ((if_neg (by omega)).trans ((if_neg q1).trans ((if_neg q5).trans ((if_neg q4).trans ((if_neg q3).trans (if_neg q0))))))))
  have A19 : A.i 19 = 0 := by rw [hA]; rfl
  have A20 : A.i 20 = 0 := by rw [hA]; rfl
  have A38 : A.i 38 = 0 := by rw [hA]; rfl
  have A42 : A.i 42 = 0 := by rw [hA]; rfl
  have A43 : A.i 43 = 0 := by rw [hA]; rfl
  have aA : A.a = s.a := by rw [hA]; rfl
  have bA : A.b = s.b := by rw [hA]; rfl
  rw [← hA]
  clear hA
  obtain ⟨B, hB⟩ : ∃ B, B = RS.setI (RS.setI (RS.setI (RS.setI (RS.setI (RS.setI (RS.setI (RS.setI (RS.setI (RS.setI A 24 0) 29 0) 33 0) 56 0) 59 0) 52 0) 12 0) 15 0) 18 (-1)) 17 0 := ⟨_, rfl⟩
  have iB : ∀ j : Nat, j ≠ 12 → j ≠ 15 → j ≠ 17 → j ≠ 18 → j ≠ 24 → j ≠ 29 → j ≠ 33 → j ≠ 52 → j ≠ 56 → j ≠ 59 → B.i j = A.i j := fun j q0 q1 q2 q3 q4 q5 q6 q7 q8 q9 => by
    rw [hB]
    exact (if_neg q2).trans ((if_neg q3).trans ((if_neg q1).trans ((if_neg q0).trans ((if_neg q7).trans ((if_neg q9).trans ((if_neg q8).trans ((if_neg q6).trans ((if_neg q5).trans (if_neg q4)))))))))
  have B12 : B.i 12 = 0 := by rw [hB]; rfl
  have B15 : B.i 15 = 0 := by rw [hB]; rfl
  have B17 : B.i 17 = 0 := by rw [hB]; rfl
  have B24 : B.i 24 = 0 := by rw [hB]; rfl
  have B29 : B.i 29 = 0 := by rw [hB]; rfl
  have B33 : B.i 33 = 0 := by rw [hB]; rfl
  have B52 : B.i 52 = 0 := by rw [hB]; rfl
  have B56 : B.i 56 = 0 := by rw [hB]; rfl
  have B59 : B.i 59 = 0 := by rw [hB]; rfl
  have aB : B.a = s.a := by rw [hB]; exact aA
  have bB : B.b = s.b := by rw [hB]; exact bA
  rw [← hB]
  clear hB
  have B38 : B.i 38 = 0 := by rw [iB 38 (by decide) (by decide) (by decide) (by decide) (by decide) (by decide) (by decide) (by decide) (by decide) (by decide)]; exact A38
  have B42 : B.i 42 = 0 := by rw [iB 42 (by decide) (by decide) (by decide) (by decide) (by decide) (by decide) (by decide) (by decide) (by decide) (by decide)]; exact A42
  have seB : seI B = 0 := by unfold seI; rw [B38]; exact z_t0
  have slB : slI B = 0 := by unfold slI; rw [B42]; exact z_t0
  rw [p_se (N := N) 97 (Or.inl rfl) (by omega) (by omega)]
  show ok ((f_X12_see N (SE B 97 0) 98 0).bind fun p3 => (f_X12_next N p3.2).bind fun p5 => (f_X12_parse N p5).bind fun p7 => (if (p7.i 10) = 0 then (f_X12_can N p7 1).bind fun p19 => f_X12_read_138 N p19.2 else (f_X12_can N p7 0).bind fun p10 => f_X12_read_138 N p10.2)) _
  obtain ⟨C, hC⟩ : ∃ C, C = SE B 97 0 := ⟨_, rfl⟩
  have iC : ∀ j : Nat, j ≠ 38 → j ≠ 42 → C.i j = B.i j := fun j q1 q2 => by rw [hC]; exact SE.eI q1 q2
  have aC : ∀ k : Nat, k ≠ 40 → k ≠ 41 → C.a k = s.a k := fun k q1 q2 => by rw [hC, SE.eA q1 q2, aB]
  have n0 : (B.i 38).toNatClampNeg = 0 := by rw [B38]; decide
  have C40 : C.a 40 0 = 0 := by
    have e := SE.a40 (u := B) (n := 97) (c := 0)
    rw [n0, B42] at e
    rw [hC]; exact e
  have C41 : C.a 41 0 = 0 := by
    have e := SE.a41 (u := B) (n := 97) (c := 0)
    rw [n0] at e
    rw [hC]; exact e
  have seC : seI C = 1 := by rw [hC, SE.eSE (by omega) (by omega)]; omega
  have slC : slI C = 1 := by rw [hC, SE.eSL (by omega) (by omega)]; omega
  have C38 : C.i 38 = 1 := by
    rw [hC]; show B.i 38 + 1 = 1; rw [B38]; decide
  have C42 : C.i 42 = 1 := by
    rw [hC]; show B.i 42 + 1 = 1; rw [B42]; decide
  have bC : C.b 9 = s.b 9 := by rw [hC, ← bB]; rfl
  rw [← hC]
  clear hC
  rw [p_se (N := N) 98 (Or.inl rfl) (by omega) (by omega)]
  show ok ((f_X12_next N (SE C 98 0)).bind fun p5 => (f_X12_parse N p5).bind fun p7 => (if (p7.i 10) = 0 then (f_X12_can N p7 1).bind fun p19 => f_X12_read_138 N p19.2 else (f_X12_can N p7 0).bind fun p10 => f_X12_read_138 N p10.2)) _
  obtain ⟨D, hD⟩ : ∃ D, D = SE C 98 0 := ⟨_, rfl⟩
  have iD : ∀ j : Nat, j ≠ 38 → j ≠ 42 → D.i j = B.i j := fun j q1 q2 => by rw [hD, SE.eI q1 q2]; exact iC j q1 q2
  have aD : ∀ k : Nat, k ≠ 40 → k ≠ 41 → D.a k = s.a k := fun k q1 q2 => by rw [hD, SE.eA q1 q2]; exact aC k q1 q2
  have n1 : (C.i 38).toNatClampNeg = 1 := by rw [C38]; decide
  have D40 : D.a 40 1 = 1 := by
    have e := SE.a40 (u := C) (n := 98) (c := 0)
    rw [n1, C42] at e
    rw [hD]; exact e
  have D41 : D.a 41 1 = 0 := by
    have e := SE.a41 (u := C) (n := 98) (c := 0)
    rw [n1] at e
    rw [hD]; exact e
  have D400 : D.a 40 0 = 0 := by rw [hD, SE.lo (by rw [n1]; decide)]; exact C40
  have D410 : D.a 41 0 = 0 := by rw [hD, SE.lo (by rw [n1]; decide)]; exact C41
  have seD : seI D = 2 := by rw [hD, SE.eSE (by omega) (by omega)]; omega
  have slD : slI D = 2 := by rw [hD, SE.eSL (by omega) (by omega)]; omega
  have bD : D.b 9 = s.b 9 := by rw [hD, ← bC]; rfl
  rw [← hD]
  clear hD
  have iDs : ∀ j : Nat, (0 < j ∧ j < 10) ∨ 75 ≤ j → D.i j = s.i j := fun j hj => by
    rw [iD j (by omega) (by omega), iB j (by omega) (by omega) (by omega) (by omega) (by omega) (by omega) (by omega) (by omega) (by omega) (by omega), iA j (by omega) (by omega) (by omega) (by omega) (by omega) (by omega) (by omega)]
  have D2 : D.i 2 = s.i 2 := iDs 2 (by omega)
  have D12 : D.i 12 = 0 := (iD 12 (by decide) (by decide)).trans B12
  have D15 : D.i 15 = 0 := (iD 15 (by decide) (by decide)).trans B15
  have D17 : D.i 17 = 0 := (iD 17 (by decide) (by decide)).trans B17
  have wD : WD D := fun k hk => by rw [bD]; exact h3 k hk
  refine ok_bind (p_next (by omega) D (by rw [D12]; decide) (by rw [D12, D2]; exact h1.1.1) (by rw [D2]; exact h1.1.2) wD) (fun R hR => ?_)
  rcases hR with ⟨c, -⟩ | ⟨-, ⟨⟨u1, u2, u3⟩, t1, t2, t3, t4, t5, t6, t7, t8, t9⟩, hf⟩
  · exact absurd D15 c
  have iR : ∀ j : Nat, j ≠ 10 → j ≠ 11 → j ≠ 12 → j ≠ 14 → j ≠ 17 → R.i j = D.i j := fun j q1 q2 q3 q4 q5 => (u1 j q1 q2 q3 q4).trans (if_neg q5)
  have R17 : R.i 17 = 1 := by
    rw [u1 17 (by decide) (by decide) (by decide) (by decide)]
    show D.i 17 + 1 = 1
    rw [D17]; decide
  have aR : R.a = D.a := u2
  have bR : R.b = D.b := u3
  have R2 : R.i 2 = s.i 2 := (iR 2 (by decide) (by decide) (by decide) (by decide) (by decide)).trans D2
  have R3 : R.i 3 = s.i 3 := (iR 3 (by decide) (by decide) (by decide) (by decide) (by decide)).trans (iDs 3 (by omega))
  have wR : WD R := fun k hk => by rw [bR, bD]; exact h3 k hk
  have lR : LXI R := ⟨t1, t2, t3, by rw [R2]; exact h1.1.2, t4, t5, t6, t7, t8, wR, t9⟩
  have fR := lR.f0
  have iRB : ∀ j : Nat, 18 ≤ j → j ≠ 38 → j ≠ 42 → R.i j = B.i j := fun j q1 q2 q3 => (iR j (by omega) (by omega) (by omega) (by omega) (by omega)).trans (iD j q2 q3)
  have iRA : ∀ j : Nat, 18 < j → j ≠ 24 → j ≠ 29 → j ≠ 33 → j ≠ 38 → j ≠ 42 → j ≠ 52 → j ≠ 56 → j ≠ 59 → R.i j = A.i j := fun j q1 q2 q3 q4 q5 q6 q7 q8 q9 => (iRB j (by omega) q5 q6).trans (iB j (by omega) (by omega) (by omega) (by omega) q2 q3 q4 q7 q8 q9)
  have rd : RD0 R := by
    refine ⟨lR, RB.of R2 R3 (by rw [aR, aD 4 (by decide) (by decide)]) (by rw [aR, aD 6 (by decide) (by decide)]) (by rw [aR, aD 7 (by decide) (by decide)]) h1, (iR 15 (by decide) (by decide) (by decide) (by decide) (by decide)).trans D15, ?_, ⟨(iRA 19 (by decide) (by decide) (by decide) (by decide) (by decide) (by decide) (by decide) (by decide) (by decide)).trans A19, (iRA 20 (by decide) (by decide) (by decide) (by decide) (by decide) (by decide) (by decide) (by decide) (by decide)).trans A20, (iRB 24 (by decide) (by decide) (by decide)).trans B24, (iRB 29 (by decide) (by decide) (by decide)).trans B29, (iRB 33 (by decide) (by decide) (by decide)).trans B33, (iRA 43 (by decide) (by decide) (by decide) (by decide) (by decide) (by decide) (by decide) (by decide) (by decide)).trans A43, (iRB 52 (by decide) (by decide) (by decide)).trans B52, (iRB 56 (by decide) (by decide) (by decide)).trans B56, (iRB 59 (by decide) (by decide) (by decide)).trans B59⟩, ⟨?_, ?_⟩, fun x hx => ?_, ?_⟩
    · rw [iR 75 (by decide) (by decide) (by decide) (by decide) (by decide), iDs 75 (by omega)]; exact h4
    · rw [← seD]; unfold seI; rw [iR 38 (by decide) (by decide) (by decide) (by decide) (by decide)]
    · rw [← slD]; unfold slI; rw [iR 42 (by decide) (by decide) (by decide) (by decide) (by decide)]
    · unfold gv
      rw [aR]
      have e1 : (1 : Int32).toInt = 1 := by decide
      rcases Nat.lt_or_ge x 1 with q | q
      · have e : x = 0 := by omega
        rw [e, D400, D410, z_t0]
        exact ⟨by omega, by omega, rfl⟩
      · have e : x = 1 := by omega
        rw [e, D40, D41, e1]
        exact ⟨by omega, by omega, rfl⟩
    · have e1 : (1 : Int32).toInt = 1 := by decide
      unfold tkI
      rw [R17, e1]
      omega
  have iRs : ∀ j : Nat, (0 < j ∧ j < 10) ∨ 76 ≤ j → R.i j = s.i j := fun j hj => (iR j (by omega) (by omega) (by omega) (by omega) (by omega)).trans (iDs j (by omega))
  have aRs : ∀ k : Nat, k ≠ 40 → k ≠ 41 → R.a k = s.a k := fun k q1 q2 => by rw [aR]; exact aD k q1 q2
  have bRs : R.b 9 = s.b 9 := by rw [bR]; exact bD
  clear iA iB iC iD iDs aD aC aB aA iR iRB iRA
  refine ok_bind (p_slots hN rd) (fun p hp => ?_)
  have fin : ∀ x : Int32, ok ((f_X12_can N p x).bind fun p19 => f_X12_read_138 N p19.2) (fun R => ¬ R.2.i 77 = 0 → (R.2.i 42).toInt ≤ 460) := fun x => by
    refine ok_bind p_can2 (fun q hq => ?_)
    obtain ⟨q1, q2, q3, q4⟩ := hq
    refine ok_imp (p_138 (by rw [q1 75 (by decide) (by decide)]; exact hp.1)) (fun T hT => ?_)
    obtain ⟨y1, y2, y3, y4, y5, y6⟩ := hT
    intro z
    obtain ⟨z1, z2⟩ := y6 z
    have e := q4 z1
    rw [e] at z1
    rw [(y1 42 (by omega) (by decide) (by decide) (by decide)).trans (q1 42 (by decide) (by decide))]
    exact hp.2 z1
  exact ok_ite (fun _ => fin 1) (fun _ => fin 0)
