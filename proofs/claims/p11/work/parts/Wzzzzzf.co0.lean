/-! both readers: before the first turn -/
/-- what the base of a whole text gives -/
def RSB (W : CS) (b : RS) : Prop := CRQB W ∧ SLO b ∧ -1 ≤ (b.i 11).toInt ∧ (pcC W = 0 ∧ pcR b = 0) ∧ ((W.i 23).toInt = 2 ∧ (b.i 42).toInt = 2) ∧ ∀ nm : Nat → Nat → Prop, nm 0 0 → nm 1 1 → NMG nm [] W b
set_option maxHeartbeats 4000000 in
theorem rt_start {N : Nat} (hN : 1000 ≤ N) {h0 : Nat} {σ : CS} {r : RS} (hc : CIV h0 σ) (hr : RB r) (ht : TXB σ r) {Z : CS} {A : Unit × CS} {P : Option Nat × CS} {Y q V : RS} (cz : CZ (CS.setI (CS.setI σ 5 0) 8 0) Z) (es : f_X9_start N Z (σ.i 5) = some ((), A.2)) (eA : f_X9_advance N (CS.setI (CS.setI Z 41 (σ.i 5)) 42 0) = some A) (eP : f_X6_push N A.2 300 0 (A.2.i 50) = some P) (rz : RZB r Y) (gq : f_X12_next N Y = some q) (gV : f_X12_push N (RS.setI q 63 (-1)) 1 = some V) (cz2 : CZ2 Z) (rz2 : RZ2 Y) : ∃ (b : RS) (c : CEL), (∀ U : RS, STI RBA U 0 P.2 b 0 P.2 V c []) ∧ ((∀ k : Nat, k ≠ 11 → b.i k = V.i k) ∧ RSB P.2 b) ∧ (P.2.i 53).toInt = 1 ∧ (P.2.i 56).toInt = -1 := by
  obtain ⟨P1, W⟩ := P
  show ∃ (b : RS) (c : CEL), (∀ U : RS, STI RBA U 0 W b 0 W V c []) ∧ ((∀ k : Nat, k ≠ 11 → b.i k = V.i k) ∧ RSB W b) ∧ (W.i 53).toInt = 1 ∧ (W.i 56).toInt = -1
  obtain ⟨evA, tk, tu⟩ := rt_env hN hc hr ht cz es eA rz gq
  obtain ⟨-, -, ⟨c21, c22, -, -, -, c50⟩, ⟨c53, c54, c55, c56⟩, ⟨-, c34, c36, -, c38⟩, ⟨-, -, cn0, cn1⟩⟩ := cz
  obtain ⟨-, ⟨r38, r43, r19, -, -, -⟩, ⟨r20, r24, r29, r33, r56, r59⟩, ⟨-, -, -, r17⟩, -⟩ := rz
  have m1 : (-1 : Int32).toInt = -1 := by decide
  have e1 : (1 : Int32).toInt = 1 := by decide
  have e2 : (2 : Int32).toInt = 2 := by decide
  have Ai : ∀ j : Nat, j ≠ 41 → j ≠ 42 → j ≠ 43 → j ≠ 44 → j ≠ 45 → A.2.i j = Z.i j := fun j a0 a1 a2 a3 a4 => by rw [tk.2 j a1 a2 a3 a4, ci_ne _ _ _ a0]
  have qi : ∀ j : Nat, j ≠ 10 → j ≠ 11 → j ≠ 12 → j ≠ 14 → j ≠ 17 → q.i j = Y.i j := fun j a1 a2 a3 a4 a5 => by rw [tu.1 j a1 a2 a3 a4, ri_ne a5]
  have q17 : q.i 17 = 1 := by
    rw [tu.1 17 (by decide) (by decide) (by decide) (by decide), ri_at, r17]
    decide
  have A53 : A.2.i 53 = 0 := by rw [Ai 53 (by decide) (by decide) (by decide) (by decide) (by decide)]; exact c53
  have A54 : A.2.i 54 = 0 := by rw [Ai 54 (by decide) (by decide) (by decide) (by decide) (by decide)]; exact c54
  have A55 : A.2.i 55 = 0 := by rw [Ai 55 (by decide) (by decide) (by decide) (by decide) (by decide)]; exact c55
  have A56 : A.2.i 56 = -1 := by rw [Ai 56 (by decide) (by decide) (by decide) (by decide) (by decide)]; exact c56
  have A38 : A.2.i 38 = 0 := by rw [Ai 38 (by decide) (by decide) (by decide) (by decide) (by decide)]; exact c38
  have A36 : A.2.i 36 = 1 := by rw [Ai 36 (by decide) (by decide) (by decide) (by decide) (by decide)]; exact c36
  have A34 : A.2.i 34 = 0 := by rw [Ai 34 (by decide) (by decide) (by decide) (by decide) (by decide)]; exact c34
  have A22 : A.2.i 22 = 0 := by rw [Ai 22 (by decide) (by decide) (by decide) (by decide) (by decide)]; exact c22
  have A21 : A.2.i 21 = 0 := by rw [Ai 21 (by decide) (by decide) (by decide) (by decide) (by decide)]; exact c21
  have A50 : A.2.i 50 = 2 := by rw [Ai 50 (by decide) (by decide) (by decide) (by decide) (by decide)]; exact c50
  have hm : cnI A.2 = ((0 : Nat) : Int) := by
    unfold cnI
    rw [A53]
    exact z_t0
  have hm' : (A.2.i 53).toInt = ((0 : Nat) : Int) := hm
  obtain ⟨a, ra, psr⟩ := y_push evA.ri.s hm (by omega) eP
  have psr : PSR A.2 W a 0 300 (A.2.i 50) := psr
  obtain ⟨zR, r53, r54, r55', r52, r21', r44⟩ := psr.z hm' (by omega) ⟨by rw [A54, z_t0]; exact Int.le_refl _, by rw [A54, z_t0]; omega⟩
  obtain ⟨⟨b1, b2, b3⟩, i1, ⟨-, -⟩, rr1, rr2, rw3, nb, ob1, ⟨f0, f1, f3, fl⟩, ⟨f5, f6, f7, f8⟩, ⟨f9, f10, f11, f12, f14⟩⟩ := id psr
  have iq := evA.ri.2.2.2.2.1
  have es0 : (cnI A.2).toNat = 0 := by rw [hm]; rfl
  rw [es0] at iq
  obtain ⟨iq1, wc1⟩ := iq.root rfl rr1 f0
  have sg1 : SGS W (0 + 1) = 0 := by
    show SGS W 0 + sgn W (rowA W 0) = 0
    rw [rowA.of rr1]
    unfold sgn
    rw [f0]
    rfl
  have k11 := evA.1.2.2.2.1.1
  have lc := evA.1.2.2.2.2.2.2.1
  have k44 := lc.2.1.1
  have egeP := (eI.ge W).1
  unfold plI at egeP
  rw [r44] at egeP
  have wR : RWI W := psr.ri evA.ri hm' (by omega) iq1 (by rw [wc1]; omega) (by
    rw [sg1]
    unfold sgI
    rw [i1 34 (by decide) (by decide), A34, z_t0]
    exact Int.le_refl _)
  rw [k11] at k44
  have evP : ENV 0 W q := evA.psh psr wR (by rw [A54, z_t0]; omega)
  -- the reference's row
  unfold f_X12_push at gV
  obtain ⟨-, gV⟩ := hf_ite gV
  have e0 : (RS.setI q 63 (-1)).i 63 + 1 = 0 := by
    rw [ri_at]
    decide
  rw [e0] at gV
  have en : (0 : Int32).toNatClampNeg = 0 := by decide
  rw [en] at gV
  have eV := (Option.some.inj gV).symm
  clear gV e0 en
  have Vi : ∀ j : Nat, j ≠ 63 → V.i j = q.i j := fun j hj => by
    rw [eV]
    show (RS.setI (RS.setI q 63 (-1)) 63 0).i j = q.i j
    rw [ri_ne hj, ri_ne hj]
  have V63 : tpI V = 0 := by
    rw [eV]
    rfl
  have V64 : V.a 64 0 = 1 := by rw [eV]; rfl
  have V65 : V.a 65 0 = 0 := by rw [eV]; rfl
  have Va : ∀ k : Nat, k ≠ 64 → k ≠ 65 → V.a k = q.a k := fun k h1 h2 => by
    rw [eV, setA_nk h2, setA_nk h1]
    rfl
  have Vb : V.b = q.b ∧ V.l = q.l := by rw [eV]; exact ⟨rfl, rfl⟩
  clear eV
  have V20 : (V.i 20).toInt = 0 := by rw [Vi 20 (by decide), qi 20 (by decide) (by decide) (by decide) (by decide) (by decide), r20]; exact z_t0
  have V17 : (V.i 17).toInt = 1 := by rw [Vi 17 (by decide), q17]; exact e1
  have ph : phI V = 3 := by
    unfold phI
    rw [V17, V20]
    rfl
  have Vz : ∀ j : Nat, (j = 43 ∨ j = 19 ∨ j = 24 ∨ j = 29 ∨ j = 33 ∨ j = 56 ∨ j = 59) → (V.i j).toInt = 0 := fun j hj => by
    rw [Vi j (by omega), qi j (by omega) (by omega) (by omega) (by omega) (by omega)]
    rcases hj with z | z | z | z | z | z | z <;> rw [z]
    · rw [r43]; exact z_t0
    · rw [r19]; exact z_t0
    · rw [r24]; exact z_t0
    · rw [r29]; exact z_t0
    · rw [r33]; exact z_t0
    · rw [r56]; exact z_t0
    · rw [r59]; exact z_t0
  have V38 : V.i 38 = 2 := by rw [Vi 38 (by decide), qi 38 (by decide) (by decide) (by decide) (by decide) (by decide)]; exact r38
  have V11 : V.i 11 = q.i 11 := Vi 11 (by decide)
  have hwp := evP.wp
  have wpV : WPI V := hwp.of (by rw [Vi 43 (by decide)]; exact Int.le_refl _) (Vi 56 (by decide)) (Vi 59 (by decide)) (Vi 29 (by decide)) (Va 58 (by decide) (by decide)) (Va 62 (by decide) (by decide))
  have evV : ENV 0 W V := evP.kq (Vi 38 (by decide)) (Vi 2 (by decide)) (Vi 3 (by decide)) (Vi 18 (by decide)) (Vi 53 (by decide)) (Vi 54 (by decide)) (Vi 55 (by decide)) (Va 1 (by decide) (by decide)) (Va 4 (by decide) (by decide)) (Va 41 (by decide) (by decide)) (congrFun Vb.1 9) (congrFun Vb.1 39) (Vi 10 (by decide)) (Vi 11 (by decide)) (Vi 12 (by decide)) (Vi 14 (by decide)) (Vi 15 (by decide)) (Vi 17 (by decide)) (Vi 19 (by decide)) Vb.2 ⟨by omega, by omega⟩ wpV
  -- the class's row
  have W53 : (W.i 53).toInt = 1 := by rw [r53, A53, z_t0]; rfl
  have W54 : (W.i 54).toInt = 1 := by rw [r54, A54, z_t0]; rfl
  have W55 : W.i 55 = 0 := by rw [r55', A55]
  have W56 : W.i 56 = -1 := by rw [i1 56 (by decide) (by decide), A56]
  have W22 : W.i 22 = 0 := by rw [i1 22 (by decide) (by decide), A22]
  have W38 : W.i 38 = 0 := by rw [i1 38 (by decide) (by decide), A38]
  have W36 : W.i 36 = 1 := by rw [i1 36 (by decide) (by decide), A36]
  have W50 : W.i 50 = 2 := by rw [i1 50 (by decide) (by decide), A50]
  have W21 : W.i 21 = 0 := by rw [r21', A21]
  have W1 : (W.o a 1).toInt = 1 := by
    rw [f1, A54]
    decide
  have W3 : W.o a 3 = 2 := by rw [f3, A50]
  have W14 : W.o a 14 = 0 := by rw [f14, A55]
  -- the base
  obtain ⟨b, hb⟩ : ∃ b, b = RS.setI V 11 (-1) := ⟨_, rfl⟩
  have bi : ∀ j : Nat, j ≠ 11 → b.i j = V.i j := fun j hj => by rw [hb, ri_ne hj]
  have b11 : b.i 11 = -1 := by rw [hb, ri_at]
  have ba : b.a = V.a := by rw [hb]; rfl
  have bb : b.b = V.b := by rw [hb]; rfl
  clear hb
  have phb : phI b = 3 := by
    unfold phI at *
    rw [bi 17 (by decide), bi 20 (by decide)]
    exact ph
  have no : ∀ v : Int32, v = 300 → ¬ isOne v ∧ ¬ isTy v ∧ ¬ isGo v ∧ ¬ isWl v ∧ ¬ v = 218 ∧ ¬ v = 303 ∧ ¬ v = 305 ∧ ¬ v = 216 := fun v hv => by
    rw [hv]
    unfold isOne isTy isGo isWl
    decide
  obtain ⟨no1, noT, noG, noW, n218, n303, n305, n216⟩ := no _ f0
  have wd : wid (W.o a 0) = 1 := by rw [f0]; rfl
  have rfr : RFR W V a 0 0 0 := RFR.m300 f0 V64
  have tbb : TBB b V := by
    unfold TBB
    rw [bi 38 (by decide), bi 43 (by decide), bi 56 (by decide), bi 59 (by decide), bi 29 (by decide), bi 33 (by decide), bi 24 (by decide), ba, bb]
    exact ⟨Int.le_refl _, Int.le_refl _, Int.le_refl _, fun j _ => ⟨rfl, rfl, rfl⟩, fun j _ => ⟨rfl, rfl, rfl, rfl, rfl, rfl, rfl, rfl⟩, fun j _ => ⟨rfl, rfl⟩, Int.le_refl _, fun j _ => ⟨rfl, rfl, rfl⟩, Int.le_refl _, fun j _ => rfl, Int.le_refl _, fun j _ => ⟨rfl, rfl⟩, Int.le_refl _, fun j _ => ⟨rfl, rfl, rfl⟩⟩
  have cor : COR 0 W b 0 [((0, a, 0, 0, 0) : CEL)] 0 W V := by
    refine ⟨evV, ?_, ?_, ?_, ?_, ⟨fun j hj => absurd hj (by omega), tbb, ⟨by rw [bi 20 (by decide)]; exact Int.le_refl _, fun j _ => by rw [ba]⟩, ⟨(bi 2 (by decide)).symm, (bi 3 (by decide)).symm, (bi 8 (by decide)).symm, by rw [ba], by rw [ba], by rw [bb]⟩⟩, ⟨?_, ?_, ?_, ?_⟩, ⟨?_, ?_, ?_, ?_, ?_⟩, ⟨?_, ?_, ?_⟩, ?_, ?_, ?_, ?_, fun _ => none, ?_⟩
    · exact ⟨_, _, _, CST.pl rr1 (by show 0 < 400; omega) rfr n218 noT, fun c0 hc => (by cases hc), trivial⟩
    · have one : ∀ y ∈ [((0, a, 0, 0, 0) : CEL)], y = ((0, a, 0, 0, 0) : CEL) := fun y hy => List.mem_singleton.mp hy
      have oy : ∀ y ∈ [((0, a, 0, 0, 0) : CEL)], W.o y.2.1 = W.o a := fun y hy => by rw [one y hy]
      refine ⟨fun y hy z => ?_, fun y hy z => ?_, fun k hk y hy z => ?_, fun k h1 h2 => ?_, fun y hy z => ?_, fun y hy z _ h1 => ?_, fun y hy => ?_, ⟨fun i hi hg => ?_, fun y hy z => ?_⟩⟩
      · rw [oy y hy] at z
        exact absurd z noG
      · rw [oy y hy] at z
        exact absurd z noG
      · rw [oy y hy] at z
        exact absurd z noT
      · rw [bi 59 (by decide)] at h1
        omega
      · rw [oy y hy] at z
        exact absurd z noT
      · rw [oy y hy] at h1
        exact absurd h1 noT
      · rw [oy y hy, W14, W55, W1, W54, z_t0]
        exact ⟨by omega, Int.le_refl _, Int.le_refl _, Int.le_refl _, fun z => absurd z n216⟩
      · rw [W55, z_t0] at hi
        omega
      · rw [oy y hy] at z
        exact absurd z noG
    · unfold LBC
      rw [if_neg n303, if_neg (fun z => noG (by
        rcases z with z | z | z | z
        · exact Or.inr (Or.inr (Or.inl z))
        · exact Or.inr (Or.inr (Or.inr (Or.inl z)))
        · exact Or.inr (Or.inr (Or.inr (Or.inr (Or.inl z))))
        · exact Or.inr (Or.inr (Or.inr (Or.inr (Or.inr z))))))]
      trivial
    · exact ⟨fun _ _ => rfl, fun _ _ _ _ => ⟨rfl, rfl⟩, Int.le_refl _, Int.le_refl _, fun _ _ => rfl, Int.le_refl _, Int.le_refl _, fun _ _ => rfl, fun k h1 h2 => by omega, ⟨Int.le_refl _, Int.le_refl _, Int.le_refl _⟩, rfl⟩
    · rw [b11, m1, V11]
      omega
    · have y : PDM W [((0, a, 0, 0, 0) : CEL)] = dbt (W.o a 0) + 0 := rfl
      have w : dbt (W.o a 0) = 0 := by rw [f0]; rfl
      rw [phb, y, w, ph]
      omega
    · rw [bi 17 (by decide)]
      exact Int.le_refl _
    · have y : SSM W [((0, a, 0, 0, 0) : CEL)] = (nSg (W.o a 0) : Int) + 0 := rfl
      have w : nSg (W.o a 0) = 0 := by rw [f0]; rfl
      rw [y, w, bi 19 (by decide)]
      show _ = _ + (((0 : Nat) : Int) + 0)
      omega
    · have y : DSM W [((0, a, 0, 0, 0) : CEL)] = (nDp (W.o a 0) : Int) + 0 := rfl
      have w : nDp (W.o a 0) = 0 := by rw [f0]; rfl
      rw [y, w]
      show _ = _ + (((0 : Nat) : Int) + 0)
      omega
    · intro y hy
      rw [List.mem_singleton.mp hy]
      show (b.i 38).toInt ≤ (W.o a 3).toInt ∧ (W.o a 3).toInt ≤ (W.i 50).toInt
      rw [W3, W50, bi 38 (by decide), V38]
      exact ⟨Int.le_refl _, Int.le_refl _⟩
    · intro y hy z hz l
      rw [List.mem_singleton.mp hy, List.mem_singleton.mp hz]
      exact Int.le_refl _
    · show cfl W [] (if W.o a 0 = 218 then (W.o a 13).toInt else (W.i 22).toInt) = (W.i 22).toInt
      rw [if_neg n218]
      rfl
    · intro y hy
      rw [List.mem_singleton.mp hy]
      exact ⟨fun z => absurd z noT, fun z => absurd z n218⟩
    · rw [W21, z_t0, V11]
      omega
    · rw [V38, e2, V11]
      omega
    · rw [W54, V11]
      omega
    · unfold IAR
      rw [W56, m1, Vz 43 (by decide)]
      exact ⟨⟨fun z => absurd z (by decide), fun ⟨g, hg, _⟩ => absurd hg (by omega)⟩, fun z => absurd z (by decide)⟩
    · rw [bi 29 (by decide), Vz 29 (by decide)]
      exact Int.le_refl _
    · rw [phb]
      exact Int.le_refl _
    · rw [bi 20 (by decide), V20]
      exact Int.le_refl _
    · refine ⟨fun k x e => (by cases e), fun k x e => (by cases e), fun y hy z => ?_, fun k g e h => (by cases h), fun y hy z => ?_, fun y hy z _ h1 => ?_, fun y hy k p => ?_⟩
      · rw [List.mem_singleton.mp hy] at z
        exact absurd z noG
      · rw [List.mem_singleton.mp hy] at z
        exact absurd z n218
      · rw [List.mem_singleton.mp hy] at h1
        exact absurd h1 n218
      · exfalso
        rw [List.mem_singleton.mp hy] at p
        have p' : ((W.o a 0 = 203 ∨ W.o a 0 = 304) ∧ k = (V.a 66 0).toInt) ∨ (W.o a 0 = 204 ∧ k = (V.a 68 0).toInt) ∨ ((W.o a 0 = 205 ∨ W.o a 0 = 207) ∧ k = (V.a 67 0).toInt) := p
        rw [f0] at p'
        rcases p' with ⟨z | z, -⟩ | ⟨z, -⟩ | ⟨z | z, -⟩ <;> exact absurd z (by decide)
  have rsb : RSB W b := by
    obtain ⟨z20, z23, z480, z481⟩ := cz2
    obtain ⟨y42, y52, y400, y401⟩ := rz2
    have W20 : (W.i 20).toInt = 0 := by rw [i1 20 (by decide) (by decide), Ai 20 (by decide) (by decide) (by decide) (by decide) (by decide), z20]; exact z_t0
    have W23 : (W.i 23).toInt = 2 := by rw [i1 23 (by decide) (by decide), Ai 23 (by decide) (by decide) (by decide) (by decide) (by decide), z23]; exact e2
    have W21' : (W.i 21).toInt = 0 := by rw [W21]; exact z_t0
    have Wa : W.a = Z.a := b1.trans tk.1.2.2.2.2.2.2.2.2.2.2
    have qa : q.a = Y.a := tu.2.1
    have v11 : 0 ≤ (V.i 11).toInt := (i11_hi evV).1
    have w44 : (W.i 44).toInt = (V.i 11).toInt := by rw [evV.p44.1]
    have bq : ∀ j : Nat, j ≠ 10 → j ≠ 11 → j ≠ 12 → j ≠ 14 → j ≠ 17 → j ≠ 63 → b.i j = Y.i j := fun j h1 h2 h3 h4 h5 h6 => by rw [bi j h2, Vi j h6, qi j h1 h2 h3 h4 h5]
    have b42 : (b.i 42).toInt = 2 := by rw [bq 42 (by decide) (by decide) (by decide) (by decide) (by decide) (by decide), y42]; exact e2
    have b20 : (b.i 20).toInt = 0 := by rw [bi 20 (by decide)]; exact V20
    have slb : SLO b := by
      unfold SLO
      omega
    refine ⟨⟨⟨⟨⟨by omega, by omega⟩, by omega, by omega, by omega, by omega⟩, by omega⟩, by omega, by omega⟩, slb, by rw [b11, m1]; exact Int.le_refl _, ⟨by unfold pcC; rw [W20]; rfl, by unfold pcR; rw [b20]; rfl⟩, ⟨W23, b42⟩, fun nm h0 h1 => ⟨fun k hk => ?_, ?_, ?_, ?_, slb, fun e he => absurd he List.not_mem_nil⟩⟩
    · rw [bi 38 (by decide), V38, e2] at hk
      rw [Wa, ba, Va 40 (by decide) (by decide), qa]
      have hk' : k = 0 ∨ k = 1 := by omega
      rcases hk' with z | z
      · rw [z, z480, y400, cn0]
        exact ⟨fun _ => ⟨0, 0, by decide, by decide, h0⟩, fun q => absurd q (by decide)⟩
      · rw [z, z481, y401, cn1]
        exact ⟨fun _ => ⟨1, 1, by decide, by decide, h1⟩, fun q => absurd q (by decide)⟩
    · rw [W38, z_t0]
      rfl
    · rw [bq 52 (by decide) (by decide) (by decide) (by decide) (by decide) (by decide), y52, z_t0]
      rfl
    · rw [bi 19 (by decide), Vz 19 (by decide)]
      exact Int.le_refl _
  have jx : ∀ U : RS, JRX RBA U W b (vws W V [((0, a, 0, 0, 0) : CEL)]) W V := fun U => by
    have v11 : 0 ≤ (V.i 11).toInt := (i11_hi evV).1
    refine (JRW.ini (r := vw W V (0, a, 0, 0, 0)) (Or.inl (vw_v.trans f0)) W36 ⟨⟨(bi 20 (by decide)).symm, (bi 24 (by decide)).symm, (bi 29 (by decide)).symm, (bi 33 (by decide)).symm, (bi 42 (by decide)).symm⟩, by rw [ba], by rw [ba], by rw [ba], by rw [ba], by rw [ba], by rw [ba], by rw [ba], by rw [ba], by rw [ba], by rw [ba], by rw [ba], by rw [ba], by rw [ba], by rw [ba]⟩ (bi 52 (by decide)).symm ⟨(bi 38 (by decide)).symm, fun j _ => by rw [ba]⟩ (by rw [b11, m1]; omega) (by rw [bi 19 (by decide)]; exact Int.le_refl _)).x
  refine ⟨b, (0, a, 0, 0, 0), fun U => ⟨0, cor, ⟨?_, ?_, ?_⟩, ⟨Or.inl ⟨no1, n305, ?_, ?_, Or.inl ⟨?_, W36⟩, fun z => absurd z n218⟩, Or.inr W36⟩, ?_, ?_, fun z => absurd z.1 no1, jx U⟩, ⟨bi, rsb⟩, W53, by rw [W56]; exact m1⟩
  · show (W.i 53).toInt = ((0 : Nat) : Int) + 1
    rw [W53]
    rfl
  · show (V.i 43).toInt = ((0 : Nat) : Int) + (nGo (W.o a 0) : Int)
    rw [nGo.eq noG, Vz 43 (by decide)]
    rfl
  · show (V.i 56).toInt = ((0 : Nat) : Int) + (nWl (W.o a 0) : Int)
    rw [nWl.eq noW, Vz 56 (by decide)]
    rfl
  · show tpI V = ((0 : Nat) : Int) + (wid (W.o a 0) : Int) - 1
    rw [wd, V63]
    rfl
  · show V.a 64 (0 + wid (W.o a 0) - 1) = 1
    rw [wd]
    exact V64
  · show V.a 65 (0 + wid (W.o a 0) - 1) = 0
    rw [wd]
    exact V65
  · refine ⟨⟨noG, noT⟩, ⟨by rw [bi 43 (by decide), Vz 43 (by decide)]; rfl, Or.inl rfl⟩, by rw [bi 56 (by decide), Vz 56 (by decide)]; rfl, by show (W.i 54).toInt ≤ (W.o a 1).toInt; rw [W1, W54]; exact Int.le_refl _, fun z => ?_, ⟨by show (W.i 53).toInt = ((0 : Nat) : Int) + 1; rw [W53]; rfl, rr1, by rw [bi 38 (by decide), V38, e2]; exact Int.le_refl _, by show (W.i 55).toInt ≤ (W.o a 14).toInt; rw [W14, W55]; exact Int.le_refl _, by rw [W38, z_t0]; exact Int.le_refl _, ?_⟩, Or.inr ⟨rfl, by rw [W56]; exact m1, f0⟩⟩
    · rw [bi 56 (by decide), Vz 56 (by decide)] at z
      omega
    · unfold WPI at *
      rw [bi 43 (by decide), bi 56 (by decide), bi 59 (by decide), bi 29 (by decide), ba]
      exact wpV
  · show 0 + 1 = 0 + wid (W.o a 0)
    rw [wd]
