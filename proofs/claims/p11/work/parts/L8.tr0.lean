/-! reading: try: from its first word -/
theorem TRX.mono {CL : List Nat} {id : Nat} {x e : Int} {ρ ρ' : Prop} {s w : RS} (h : TRX CL id x e ρ s w) (hr : ρ → ρ') : TRX CL id x e ρ' s w := by
  intro f C hA hC h' o v rs ps ek hx hy
  obtain ⟨S0, S1, hS⟩ := h f C hA hC h' o v rs ps ek hx hy
  exact ⟨S0, S1, fun g q1 q2 q3 q4 q5 q6 q7 => hS g q1 q2 q3 q4 q5 (fun z => q6 (hr z)) q7⟩
/-- the head is done, the body begins -/
theorem p_t215 {N : Nat} {t id n : Nat} {s σ : RS} {y x1 : Int32} (hI : INV s) (ht : tpI s = t) (h9 : t < 998) (ibx : ib x1 1000) (nx : x1.toNatClampNeg = t) (h : HL t id s n y σ) : ∃ X, f_X12_trying_215 N σ x1 = some (TH X t 1 3) ∧ HST t id s X ∧ (∀ j : Nat, j ≠ 56 → X.i j = σ.i j) ∧ waI X = waI s + 1 ∧ X.b = σ.b ∧ gv X 57 (waI s).toNat = id ∧ gv X 58 (waI s).toNat = goI s ∧ (∀ k : Nat, k ≠ 57 → k ≠ 58 → k ≠ 72 → X.a k = σ.a k) ∧ X.a 72 t = -1 := by
  obtain ⟨a1, a2, ⟨a3, a4, a5⟩, a6, a7, a8, a9, a10, a11⟩ := h
  obtain ⟨b1, b2, b3, b4, b5, b6, b7, b8, b9, b10, b11⟩ := a1
  have ns := hI.2.2.2.2
  have w0 := ns.2.2.2.2.2.2.2.2.2.1
  have hop := hI.op
  have w0' : 0 ≤ (s.i 56).toInt ∧ (s.i 56).toInt ≤ op s := w0
  have ew : (σ.i 56).toNatClampNeg = (waI s).toNat := by rw [a5]; rfl
  unfold f_X12_trying_215
  rw [if_pos ibx, nx, if_pos (show ib (σ.i 56) 40 from ⟨by rw [a5]; omega, by rw [a5]; omega⟩), ew]
  obtain ⟨A, hA⟩ : ∃ A, A = RS.setA σ 57 (waI s).toNat (σ.a 66 t) := ⟨_, rfl⟩
  have iA : A.i = σ.i := by rw [hA]; rfl
  have bA : A.b = σ.b := by rw [hA]; rfl
  have aA : ∀ k : Nat, k ≠ 57 → A.a k = σ.a k := fun k hk => by rw [hA]; exact setA_nk hk
  have A57 : A.a 57 (waI s).toNat = σ.a 66 t := by rw [hA]; exact setA_at
  have A57n : ∀ j : Nat, j ≠ (waI s).toNat → A.a 57 j = σ.a 57 j := fun j hj => by rw [hA]; exact setA_ne hj
  rw [← hA]
  clear hA
  obtain ⟨B, hB⟩ : ∃ B, B = RS.setI (RS.setA A 58 (waI s).toNat (σ.i 43)) 56 (σ.i 56 + 1) := ⟨_, rfl⟩
  have iB : ∀ j : Nat, j ≠ 56 → B.i j = A.i j := fun j hj => by rw [hB]; exact if_neg hj
  have B56 : B.i 56 = σ.i 56 + 1 := by rw [hB]; rfl
  have bB : B.b = A.b := by rw [hB]; rfl
  have aB : ∀ k : Nat, k ≠ 58 → B.a k = A.a k := fun k hk => by rw [hB]; exact setA_nk hk
  have B58 : B.a 58 (waI s).toNat = σ.i 43 := by rw [hB]; exact setA_at
  have B58n : ∀ j : Nat, j ≠ (waI s).toNat → B.a 58 j = A.a 58 j := fun j hj => by rw [hB]; exact setA_ne hj
  rw [← hB]
  clear hB
  obtain ⟨X, hX⟩ : ∃ X, X = RS.setA B 72 t (-1) := ⟨_, rfl⟩
  have iX : X.i = B.i := by rw [hX]; rfl
  have bX : X.b = B.b := by rw [hX]; rfl
  have aX : ∀ k : Nat, k ≠ 72 → X.a k = B.a k := fun k hk => by rw [hX]; exact setA_nk hk
  have X72 : X.a 72 t = -1 := by rw [hX]; exact setA_at
  have X72n : ∀ j : Nat, j ≠ t → X.a 72 j = B.a 72 j := fun j hj => by rw [hX]; exact setA_ne hj
  rw [← hX]
  clear hX
  have i56 : ∀ j : Nat, j ≠ 56 → X.i j = σ.i j := fun j hj => by rw [iX, iB j hj, iA]
  have ax : ∀ k : Nat, k ≠ 57 → k ≠ 58 → k ≠ 72 → X.a k = σ.a k := fun k q1 q2 q3 => by rw [aX k q3, aB k q2, aA k q1]
  have e1 : (1 : Int32).toInt = 1 := by decide
  have wX : waI X = waI s + 1 := by
    show (X.i 56).toInt = (s.i 56).toInt + 1
    rw [iX, B56, a5, toInt_add] <;> rw [e1] <;> omega
  have tX : tpI X = t := by
    unfold tpI
    rw [i56 63 (by decide), b1 63 (by omega) (by decide) (by decide) (by decide) (by decide) (by decide) (by decide)]
    exact ht
  rw [p_th 1 3 tX (by omega)]
  have g57 : gv X 57 (waI s).toNat = id := by unfold gv; rw [aX 57 (by decide), aB 57 (by decide), A57]; exact a11.2.1
  have g58 : gv X 58 (waI s).toNat = goI s := by
    unfold gv; rw [aX 58 (by decide), B58, b1 43 (by omega) (by decide) (by decide) (by decide) (by decide) (by decide) (by decide)]; rfl
  have cX : cdI X = cdI σ := by unfold cdI; rw [i56 20 (by decide)]
  have ttX : trI X = trI σ := by unfold trI; rw [i56 29 (by decide)]
  have dX : deI X = deI σ := by unfold deI; rw [i56 52 (by decide)]
  refine ⟨X, rfl, ⟨fun j q0 q1 q2 q3 q4 q5 q6 => (i56 j q6).trans (b1 j q0 q1 q2 q3 q4 q5 q6), by omega, by omega, by omega, fun k q1 q2 q3 q4 q5 q6 => (ax k q5 q6 (by omega)).trans (b5 k q1 q2 q3 q4 q5 q6), fun k j q1 q2 q3 => by rw [ax k (by omega) (by omega) (by omega)]; exact b6 k j q1 q2 q3, by rw [ax 30 (by decide) (by decide) (by decide), ax 31 (by decide) (by decide) (by decide)]; exact b7, by rw [gv_of (ax 30 (by decide) (by decide) (by decide))]; exact b8, fun j hj => ⟨?_, ?_⟩, fun k j q1 q2 q3 => ?_, by rw [bX, bB, bA]; exact b11⟩, i56, wX, by rw [bX, bB, bA], g57, g58, ax, X72⟩
  · rw [aX 57 (by decide), aB 57 (by decide), A57n j (by omega)]; exact (b9 j hj).1
  · rw [aX 58 (by decide), B58n j (by omega), aA 58 (by decide)]; exact (b9 j hj).2
  · by_cases c : k = 72
    · rw [c, X72n j (by omega), aB 72 (by decide), aA 72 (by decide), ← c]; exact b10 k j q1 q2 q3
    · rw [ax k (by omega) (by omega) c]; exact b10 k j q1 q2 q3
/-- the first steps: a row, TRIES -/
theorem p_try0 {N : Nat} {t id : Nat} {s R : RS} (hI : INV s) (ht : tpI s = t) (h9 : t < 998) (hid : (id : Int) = trI s) (rI : ∀ j : Nat, (j < 10 ∨ 18 ≤ j) → j ≠ 19 → j ≠ 20 → j ≠ 53 → R.i j = s.i j) (hR : MK t 15 s R) (f2 : fr s + 2 ≤ fr R) : ∃ E, f_X12_emit N (RS.setI (RS.setA (RS.setA (RS.setA R 66 t (R.i 29)) 30 id (-1)) 31 id (-1)) 29 ((R.i 29) + 1)) 31 (R.i 29) = some (R.i 20, E) ∧ E.i 10 = R.i 10 ∧ E.i 15 = 0 ∧ E.i 52 = s.i 52 ∧ ∀ y : Int32, HL t id s 0 y (RS.setA (RS.setI E 52 (E.i 52 + 1)) 67 t y) ∧ HG s 0 (RS.setA (RS.setI E 52 (E.i 52 + 1)) 67 t y) := by
  obtain ⟨r1, r2, r3, r4, r5, r6, r7, r8, r9, r10, r11, r12, r13, r14⟩ := hR
  have ns := hI.2.2.2.2
  have cs := hI.cd
  have fs := hI.1.f0
  have hop := hI.op
  obtain ⟨Q, hQ⟩ : ∃ Q, Q = RS.setI (RS.setA (RS.setA (RS.setA R 66 t (R.i 29)) 30 id (-1)) 31 id (-1)) 29 ((R.i 29) + 1) := ⟨_, rfl⟩
  have iQ : ∀ j : Nat, j ≠ 29 → Q.i j = R.i j := fun j hj => by rw [hQ]; exact if_neg hj
  have Q29 : Q.i 29 = R.i 29 + 1 := by rw [hQ]; rfl
  have bQ : Q.b = R.b := by rw [hQ]; rfl
  have aQ : ∀ k : Nat, k ≠ 66 → k ≠ 30 → k ≠ 31 → Q.a k = R.a k := fun k q1 q2 q3 => by rw [hQ]; exact (setA_nk q3).trans ((setA_nk q2).trans (setA_nk q1))
  have nQ : ∀ k j : Nat, j ≠ t → j ≠ id → Q.a k j = R.a k j := fun k j q1 q2 => by rw [hQ]; exact (setA_ne q2).trans ((setA_ne q2).trans (setA_ne q1))
  have n66 : ∀ j : Nat, j ≠ t → Q.a 66 j = R.a 66 j := fun j hj => by
    have e : Q.a 66 = (RS.setA R 66 t (R.i 29)).a 66 := by rw [hQ]; exact (setA_nk (by decide)).trans (setA_nk (by decide))
    rw [e]; exact setA_ne hj
  have n30 : ∀ j : Nat, j ≠ id → Q.a 30 j = R.a 30 j := fun j hj => by
    have e : Q.a 30 = (RS.setA (RS.setA R 66 t (R.i 29)) 30 id (-1)).a 30 := by rw [hQ]; exact setA_nk (by decide)
    rw [e, setA_ne hj, setA_nk (by decide)]
  have n31 : ∀ j : Nat, j ≠ id → Q.a 31 j = R.a 31 j := fun j hj => by
    have e : Q.a 31 = (RS.setA (RS.setA (RS.setA R 66 t (R.i 29)) 30 id (-1)) 31 id (-1)).a 31 := by rw [hQ]; rfl
    rw [e, setA_ne hj, setA_nk (by decide), setA_nk (by decide)]
  have Q66 : Q.a 66 t = R.i 29 := by
    have e : Q.a 66 = (RS.setA R 66 t (R.i 29)).a 66 := by rw [hQ]; exact (setA_nk (by decide)).trans (setA_nk (by decide))
    rw [e]; exact setA_at
  have Q30 : Q.a 30 id = -1 := by
    have e : Q.a 30 = (RS.setA (RS.setA R 66 t (R.i 29)) 30 id (-1)).a 30 := by rw [hQ]; exact setA_nk (by decide)
    rw [e]; exact setA_at
  have Q31 : Q.a 31 id = -1 := by rw [hQ]; exact setA_at
  rw [← hQ]
  clear hQ
  have R29 : R.i 29 = s.i 29 := rI 29 (by omega) (by decide) (by decide) (by decide)
  have R29I : (R.i 29).toInt = (id : Int) := by rw [R29, hid]; rfl
  have cQ : cdI Q = cdI s + 1 := by
    have : cdI Q = cdI R := by unfold cdI; rw [iQ 20 (by decide)]
    omega
  have lQ : LXI Q := r1.1.of (iQ 2 (by decide)) (iQ 10 (by decide)) (iQ 11 (by decide)) (iQ 12 (by decide)) (iQ 14 (by decide)) (by rw [bQ])
  have cs' := ns.2.1
  rw [p_em 31 (R.i 29) (by omega) (by omega)]
  have cE := EM.cd (u := Q) (o := 31) (x := R.i 29) (by omega) (by omega)
  obtain ⟨E, hE⟩ : ∃ E, E = EM Q 31 (R.i 29) := ⟨_, rfl⟩
  have iE : ∀ j : Nat, j ≠ 20 → E.i j = Q.i j := fun j hj => by rw [hE]; exact EM.i hj
  have aE : ∀ k : Nat, k ≠ 21 → k ≠ 22 → k ≠ 23 → E.a k = Q.a k := fun k q1 q2 q3 => by rw [hE]; exact EM.a q1 q2 q3
  have loE : ∀ k j : Nat, j ≠ (cdI Q).toNat → E.a k j = Q.a k j := fun k j hj => by
    rw [hE]
    by_cases c1 : k = 21
    · rw [c1, EM.a21, if_neg hj]
    by_cases c2 : k = 22
    · rw [c2, EM.a22, if_neg hj]
    by_cases c3 : k = 23
    · rw [c3, EM.a23, if_neg hj]
    · rw [EM.a c1 c2 c3]
  have E21 : E.a 21 (cdI Q).toNat = 31 := by rw [hE, EM.a21, if_pos rfl]
  have E22 : E.a 22 (cdI Q).toNat = R.i 29 := by rw [hE, EM.a22, if_pos rfl]
  have lE : LXI E := by rw [hE]; exact lQ.em
  have bE : E.b = Q.b := by rw [hE]; rfl
  have pr : ((Q.i 20, EM Q 31 (R.i 29)) : Int32 × RS) = (R.i 20, E) := by rw [iQ 20 (by decide), hE]
  rw [pr]
  rw [← hE] at cE
  clear hE pr
  refine ⟨E, rfl, (iE 10 (by decide)).trans (iQ 10 (by decide)), ?_, ?_, fun y => ?_⟩
  · rw [iE 15 (by decide), iQ 15 (by decide)]; exact r1.2.2.1
  · rw [iE 52 (by decide), iQ 52 (by decide)]; exact r4.2.2.1
  obtain ⟨D, hD⟩ : ∃ D, D = RS.setA (RS.setI E 52 (E.i 52 + 1)) 67 t y := ⟨_, rfl⟩
  have iD : ∀ j : Nat, j ≠ 52 → D.i j = E.i j := fun j hj => by rw [hD]; exact if_neg hj
  have D52 : D.i 52 = E.i 52 + 1 := by rw [hD]; rfl
  have bD : D.b = E.b := by rw [hD]; rfl
  have aD : ∀ k : Nat, k ≠ 67 → D.a k = E.a k := fun k hk => by rw [hD]; exact setA_nk hk
  have D67 : D.a 67 t = y := by rw [hD]; exact setA_at
  have D67n : ∀ j : Nat, j ≠ t → D.a 67 j = E.a 67 j := fun j hj => by rw [hD]; exact setA_ne hj
  rw [← hD]
  clear hD
  have iDR : ∀ j : Nat, j ≠ 20 → j ≠ 29 → j ≠ 52 → D.i j = R.i j := fun j q1 q2 q3 => by rw [iD j q3, iE j q1, iQ j q2]
  have cD : cdI D = cdI s + 2 := by
    have : cdI D = cdI E := by unfold cdI; rw [iD 20 (by decide)]
    omega
  have e1 : (1 : Int32).toInt = 1 := by decide
  have tr0 := ns.2.2.2.1
  have tr0' : 0 ≤ (s.i 29).toInt ∧ 6 * (s.i 29).toInt ≤ fr s + 3 * op s := tr0
  have de0 : 0 ≤ (s.i 52).toInt ∧ 4 * (s.i 52).toInt ≤ fr s + 2 * op s + 2 := ns.2.2.2.2.2.2.2.2.1
  have tD : trI D = trI s + 1 := by
    show (D.i 29).toInt = (s.i 29).toInt + 1
    rw [iD 29 (by decide), iE 29 (by decide), Q29, R29, toInt_add] <;> rw [e1] <;> omega
  have d52 : D.i 52 = s.i 52 + 1 := by rw [D52, iE 52 (by decide), iQ 52 (by decide), r4.2.2.1]
  have dD : deI D = deI s + 1 := by
    show (D.i 52).toInt = (s.i 52).toInt + 1
    rw [d52, toInt_add] <;> rw [e1] <;> omega
  have kc := r3.2.1
  have kf := r3.2.2.2.2.2.2.2.2.2.2
  have fD : fr D = fr R := by unfold fr; rw [iDR 11 (by decide) (by decide) (by decide)]
  have tkD : tkI D = tkI R := by unfold tkI; rw [iDR 17 (by decide) (by decide) (by decide)]
  have m1 : (-1 : Int32).toInt = -1 := by decide
  have aDR : ∀ k : Nat, k ≠ 21 → k ≠ 22 → k ≠ 23 → k ≠ 30 → k ≠ 31 → k ≠ 66 → k ≠ 67 → D.a k = R.a k := fun k q1 q2 q3 q4 q5 q6 q7 => by rw [aD k q7, aE k q1 q2 q3, aQ k q6 q4 q5]
  refine ⟨⟨⟨fun j q0 q1 q2 q3 q4 q5 q6 => (iDR j q2 q3 q4).trans (rI j q0 q1 q2 q5), by omega, by omega, by omega, fun k q1 q2 q3 q4 q5 q6 => (aDR k (by omega) (by omega) (by omega) q3 q4 (by omega) (by omega)).trans (r14 k (by omega) (by omega) (by omega) (by omega)), fun k j q1 q2 q3 => ?_, fun j hj => ⟨?_, ?_⟩, ?_, fun j hj => ⟨?_, ?_⟩, fun k j q1 q2 q3 => ?_, by rw [bD, bE, bQ]; exact r3.1.1.2.2⟩, ?_, ⟨?_, d52, ?_⟩, by omega, ⟨?_, ?_, ?_⟩, ?_, ⟨?_, ?_⟩, True.intro, ⟨?_, ?_, D67⟩⟩, ⟨by omega, fun q => absurd q (by omega), by omega, by unfold RATE at r6; omega⟩⟩
  · rw [aD k (by omega), loE k j (by omega), aQ k (by omega) (by omega) (by omega)]
    by_cases c1 : k = 21
    · rw [c1]; exact kc.2.1 j q3
    by_cases c2 : k = 22
    · rw [c2]; exact kc.2.2.1 j q3
    · have c3 : k = 23 := by omega
      rw [c3]; exact kc.2.2.2 j q3
  · rw [aD 30 (by decide), aE 30 (by decide) (by decide) (by decide), n30 j hj, r14 30 (by decide) (by decide) (by decide) (by decide)]
  · rw [aD 31 (by decide), aE 31 (by decide) (by decide) (by decide), n31 j hj, r14 31 (by decide) (by decide) (by decide) (by decide)]
  · unfold gv; rw [aD 30 (by decide), aE 30 (by decide) (by decide) (by decide), Q30]; exact m1
  · rw [aDR 57 (by decide) (by decide) (by decide) (by decide) (by decide) (by decide) (by decide), r14 57 (by decide) (by decide) (by decide) (by decide)]
  · rw [aDR 58 (by decide) (by decide) (by decide) (by decide) (by decide) (by decide) (by decide), r14 58 (by decide) (by decide) (by decide) (by decide)]
  · have hk := kf k q1 q2 j (by omega)
    by_cases c6 : k = 66
    · rw [c6, aD 66 (by decide), aE 66 (by decide) (by decide) (by decide), n66 j (by omega), ← c6]; exact hk
    by_cases c7 : k = 67
    · rw [c7, D67n j (by omega), aE 67 (by decide) (by decide) (by decide), aQ 67 (by decide) (by decide) (by decide), ← c7]; exact hk
    · rw [aDR k (by omega) (by omega) (by omega) (by omega) (by omega) c6 c7]; exact hk
  · exact lE.of (iD 2 (by decide)) (iD 10 (by decide)) (iD 11 (by decide)) (iD 12 (by decide)) (iD 14 (by decide)) (by rw [bD])
  · rw [iDR 19 (by decide) (by decide) (by decide)]; exact r4.1
  · rw [iDR 56 (by decide) (by decide) (by decide)]; exact r4.2.2.2
  · rw [aD 21 (by decide), loE 21 _ (by omega), aQ 21 (by decide) (by decide) (by decide)]; exact r10
  · rw [aD 21 (by decide), ← cQ]; exact E21
  · rw [aD 22 (by decide), ← cQ, E22]; exact R29I
  · unfold gv; rw [aD 31 (by decide), aE 31 (by decide) (by decide) (by decide), Q31]; exact m1
  · rw [aDR 57 (by decide) (by decide) (by decide) (by decide) (by decide) (by decide) (by decide), r14 57 (by decide) (by decide) (by decide) (by decide)]
  · rw [aDR 58 (by decide) (by decide) (by decide) (by decide) (by decide) (by decide) (by decide), r14 58 (by decide) (by decide) (by decide) (by decide)]
  · rw [aDR 64 (by decide) (by decide) (by decide) (by decide) (by decide) (by decide) (by decide)]; exact r11
  · rw [aD 66 (by decide), aE 66 (by decide) (by decide) (by decide), Q66]; exact R29I
