/-! both readers: the whole text is one row -/
theorem zRW_wl : (4294967296 ≤ (zRW 8).toInt ∧ 4294967296 ≤ (zRW 9).toInt ∧ 4294967296 ≤ (zRW 17).toInt) ∧ 65536 ≤ (zRW 0).toInt ∧ 65536 ≤ (zRW 1).toInt := by decide +kernel
/-- what stands side by side before a text is read -/
def TXB (σ : CS) (r : RS) : Prop := TLD σ r ∧ (∀ k : Nat, (k : Int) < (r.i 2).toInt → σ.a 0 k = r.a 1 k) ∧ (∀ k : Nat, k < 25 → σ.b 40 k = zRW k) ∧ (∀ k : Nat, k < 25 → r.b 9 k = zRW k)
/-- the first token -/
theorem rt_bt {N : Nat} (hN : 1000 ≤ N) {Z : CS} {A : Unit × CS} {Y q : RS} {x1 : Int32} (h32 : Z.i 32 = 0) (h15 : Y.i 15 = 0) (h3 : TPR (CS.setI (CS.setI Z 41 x1) 42 0) Y) (hP : POS (CS.setI (CS.setI Z 41 x1) 42 0) Y) (h6 : WDS Y) (h8 : WDC Z) (hx : 0 ≤ x1.toInt ∧ x1.toInt ≤ 900) (es : f_X9_start N Z x1 = some ((), A.2)) (e : f_X9_advance N (CS.setI (CS.setI Z 41 x1) 42 0) = some A) (g : f_X12_next N Y = some q) : BT A.2 q ∧ TKC (CS.setI Z 41 x1) A.2 ∧ TU (RS.setI Y 17 (Y.i 17 + 1)) q ∧ (Y.i 12).toInt ≤ (q.i 11).toInt := by
  have e900 : (900 : Int32).toInt = 900 := by decide
  have hk := y_next h3 hP h6 h15 e g
  obtain ⟨tk, lc⟩ := ok_at (q_start hN h8 x1 hx) es
  have b := ok_at (p_next hN Y (by rw [Int32.le_iff_toInt_le, z_t0]; exact hP.2.1) (by rw [Int32.le_iff_toInt_le]; exact hP.2.2) (by rw [Int32.le_iff_toInt_le, e900]; exact h3.2.1.2) h6.wd) g
  rcases b with ⟨b, -⟩ | ⟨-, b, b9⟩
  · exact absurd h15 b
  obtain ⟨u1, u2, u3, u4, -⟩ := b
  have tk' : TKC (CS.setI Z 41 x1) A.2 := tk
  have tki : ∀ j : Nat, j ≠ 41 → j ≠ 42 → j ≠ 43 → j ≠ 44 → j ≠ 45 → A.2.i j = Z.i j := fun j a0 a1 a2 a3 a4 => by rw [tk'.2 j a1 a2 a3 a4, ci_ne _ _ _ a0]
  have e41 : A.2.i 41 = x1 := by rw [tk'.2 41 (by decide) (by decide) (by decide) (by decide), ci_at]
  have eb : A.2.b = Z.b := tk'.1.2.2.2.2.2.2.2.2.2.1
  have ea : A.2.a = Z.a := tk'.1.2.2.2.2.2.2.2.2.2.2
  obtain ⟨t1, t2, t3, t4⟩ := h3
  have q2 : q.i 2 = Y.i 2 := u1.1 2 (by decide) (by decide) (by decide) (by decide)
  have qa : q.a = Y.a := u1.2.1
  have qb : q.b = Y.b := u1.2.2
  refine ⟨⟨?_, ?_, ⟨?_, ?_, fun k hk => ?_, fun k hk => ?_⟩, hk, ⟨?_, ?_⟩, fun k hk => ?_, lc, ?_⟩, tk', u1, le_int b9⟩
  · rw [tki 32 (by decide) (by decide) (by decide) (by decide) (by decide)]; exact h32
  · rw [u1.1 15 (by decide) (by decide) (by decide) (by decide)]; exact h15
  · rw [e41, q2]
    exact t1
  · rw [q2]
    exact t2
  · rw [q2] at hk
    rw [ea, qa]
    exact t3 k hk
  · rw [eb, qb]
    exact t4 k hk
  · have w1 := le_int u2
    have w2 := le_int u3
    rw [z_t0] at w1
    omega
  · exact le_int u4
  · rw [qb]
    exact h6 k hk
  · unfold WDC at *
    rw [eb]
    exact h8
/-- what stands when the first token is read -/
theorem rt_env {N : Nat} (hN : 1000 ≤ N) {h0 : Nat} {σ : CS} {r : RS} (hc : CIV h0 σ) (hr : RB r) (ht : TXB σ r) {Z : CS} {A : Unit × CS} {Y q : RS} (cz : CZ (CS.setI (CS.setI σ 5 0) 8 0) Z) (es : f_X9_start N Z (σ.i 5) = some ((), A.2)) (eA : f_X9_advance N (CS.setI (CS.setI Z 41 (σ.i 5)) 42 0) = some A) (rz : RZB r Y) (gq : f_X12_next N Y = some q) : ENV 0 A.2 q ∧ TKC (CS.setI Z 41 (σ.i 5)) A.2 ∧ TU (RS.setI Y 17 (Y.i 17 + 1)) q := by
  obtain ⟨hs, ⟨ca0, ca9, c13⟩, ⟨c21, c22, c24, c25, c26, c50⟩, ⟨c53, c54, c55, c56⟩, ⟨c32, c34, c36, c37, c38⟩, ⟨b0, b1, n0, n1⟩⟩ := cz
  obtain ⟨⟨r2, r3, r8, ra1, ra4, rb9⟩, ⟨r38, r43, r19, r53, r54, r55⟩, ⟨r20, r24, r29, r33, r56, r59⟩, ⟨r12, r15, r18, r17⟩, ⟨rb0, rb1, rn0, rn1⟩⟩ := rz
  obtain ⟨⟨t5, t13, t14, t90, t9⟩, tx, tb, tw⟩ := ht
  have e900 : (900 : Int32).toInt = 900 := by decide
  have e4 : (4 : Int32).toInt = 4 := by decide
  have e12 : (12 : Int32).toInt = 12 := by decide
  have m1 : (-1 : Int32).toInt = -1 := by decide
  have h2 := hr.1
  have h2a := le_int h2.1
  have h2b := le_int h2.2
  rw [z_t0] at h2a
  rw [e900] at h2b
  have hsA : HSM σ Z := hs
  have zb : ∀ k : Nat, k < 25 → Z.b 40 k = zRW k := fun k hk => by
    rw [hsA.2]
    exact tb k hk
  have wdZ : WDC Z := hsA.wd hc.2.2.1
  have h3 : TPR (CS.setI (CS.setI Z 41 (σ.i 5)) 42 0) Y := by
    refine ⟨?_, ?_, fun k hk => ?_, fun k hk => ?_⟩
    · rw [ci_ne _ _ _ (by decide), ci_at, r2]
      exact t5
    · rw [r2]
      exact ⟨h2a, h2b⟩
    · rw [r2] at hk
      rw [ra1]
      exact (congrFun ca0 k).trans (tx k hk)
    · rw [rb9, tw k hk]
      exact zb k hk
  have hP : POS (CS.setI (CS.setI Z 41 (σ.i 5)) 42 0) Y := by
    refine ⟨?_, ?_, ?_⟩
    · rw [ci_at, r12]
    · rw [r12, z_t0]
      exact Int.le_refl _
    · rw [r12, z_t0, r2]
      exact h2a
  have hw : WDS Y := fun k hk => by rw [rb9]; exact tw k hk
  have hx : 0 ≤ (σ.i 5).toInt ∧ (σ.i 5).toInt ≤ 900 := by
    rw [t5]
    exact ⟨h2a, h2b⟩
  obtain ⟨bt, tk, tu, b9⟩ := rt_bt hN c32 r15 h3 hP hw wdZ hx es eA gq
  rw [r12, z_t0] at b9
  have Ai : ∀ j : Nat, j ≠ 41 → j ≠ 42 → j ≠ 43 → j ≠ 44 → j ≠ 45 → A.2.i j = Z.i j := fun j a0 a1 a2 a3 a4 => by rw [tk.2 j a1 a2 a3 a4, ci_ne _ _ _ a0]
  have Ab : A.2.b = Z.b := tk.1.2.2.2.2.2.2.2.2.2.1
  have Aa : A.2.a = Z.a := tk.1.2.2.2.2.2.2.2.2.2.2
  have qi : ∀ j : Nat, j ≠ 10 → j ≠ 11 → j ≠ 12 → j ≠ 14 → j ≠ 17 → q.i j = Y.i j := fun j a1 a2 a3 a4 a5 => by rw [tu.1 j a1 a2 a3 a4, ri_ne a5]
  have q17 : q.i 17 = 1 := by
    rw [tu.1 17 (by decide) (by decide) (by decide) (by decide), ri_at, r17]
    decide
  have qa : q.a = Y.a := tu.2.1
  have qb : q.b = Y.b := tu.2.2
  have e1 : (1 : Int32).toInt = 1 := by decide
  have e2 : (2 : Int32).toInt = 2 := by decide
  have q20 : (q.i 20).toInt = 0 := by rw [qi 20 (by decide) (by decide) (by decide) (by decide) (by decide), r20]; exact z_t0
  have q38 : q.i 38 = 2 := by rw [qi 38 (by decide) (by decide) (by decide) (by decide) (by decide)]; exact r38
  have ph : phI q = 3 := by
    unfold phI
    rw [q17, q20, e1]
    rfl
  have hsmA : HSM σ A.2 := by
    obtain ⟨⟨d1, d2, d3, d4, d5, d6, d7, d8⟩, d9⟩ := hsA
    obtain ⟨⟨f1, f2, f3, f4, f5, f6, f7, f8, f9, f10, f11⟩, -⟩ := tk
    exact ⟨⟨f1.trans d1, f2.trans d2, f3.trans d3, f4.trans d4, f5.trans d5, f6.trans d6, f8.trans d7, f9.trans d8⟩, (congrFun f10 40).trans d9⟩
  have rf := hsmA.refs hc.1
  have A53 : A.2.i 53 = 0 := by rw [Ai 53 (by decide) (by decide) (by decide) (by decide) (by decide)]; exact c53
  have cn : (cnI A.2).toNat = 0 := by
    unfold cnI
    rw [A53, z_t0]
    rfl
  have lc := bt.2.2.2.2.2.2.1
  have ege := eI.ge A.2
  have k44 := lc.2.1.1
  have ri : RWI A.2 := by
    refine ⟨rf.2.1, rf.2.2.1, rf.1, ⟨?_, ?_⟩, ?_, ?_, ?_⟩
    · unfold cnI
      rw [A53, z_t0]
      exact Int.le_refl _
    · rw [cn]
      intro i hi
      omega
    · rw [cn]
      intro m hm
      have em : m = 0 := by omega
      rw [em]
      have := (cnt.le (KLS A.2 0) 26).1
      show (3 : Int) * ((0 : Nat) : Int) ≤ 0 + 3 * 0 + 20 * 0 + cnt (KLS A.2 0) 26 + 3
      omega
    · rw [cn]
      show (0 : Int) ≤ eI A.2
      unfold plI at ege
      omega
    · rw [cn]
      show (0 : Int) ≤ sgI A.2
      unfold sgI
      rw [Ai 34 (by decide) (by decide) (by decide) (by decide) (by decide), c34, z_t0]
      exact Int.le_refl _
  refine ⟨⟨bt, ⟨?_, ⟨?_, ?_⟩, fun k hk => ?_, fun j k hj hk => ?_⟩, ⟨?_, ?_, ?_⟩, ⟨?_, ?_, ?_⟩, ?_, ⟨?_, ?_, fun k k0 k1 => ?_, ⟨?_, ?_⟩, fun k k0 k1 => ?_⟩, ⟨?_, ?_, ?_, ?_, ?_, ?_, ?_, ri, ⟨?_, ?_, ?_, ?_, ?_, ?_⟩, ⟨⟨?_, ?_, ?_, ?_⟩, fun j hj => ?_⟩, ?_, ?_⟩⟩, tk, tu⟩
  · rw [Ai 50 (by decide) (by decide) (by decide) (by decide) (by decide), c50, q38]
  · rw [q38, e2]
    exact Int.le_refl _
  · rw [q38, e2]
    omega
  · rw [q38, e2] at hk
    rw [Ab, Aa, qb, qa]
    by_cases z : k = 0
    · rw [z, b0, n0, rb0, rn0, m1]
      exact ⟨rfl, fun w => absurd w (by decide), fun w => absurd rfl w⟩
    · have z1 : k = 1 := by omega
      rw [z1, b1, n1, rb1, rn1, m1]
      exact ⟨rfl, fun w => absurd w (by decide), fun w => absurd rfl w⟩
  · rw [q38, e2] at hk
    have z0 : j = 0 := by omega
    have z1 : k = 1 := by omega
    rw [qb, z0, z1, rb0, rb1]
    decide
  · rw [Ai 34 (by decide) (by decide) (by decide) (by decide) (by decide), c34, qi 19 (by decide) (by decide) (by decide) (by decide) (by decide), r19]
  · rw [qi 19 (by decide) (by decide) (by decide) (by decide) (by decide), r19, z_t0]
    exact Int.le_refl _
  · rw [qi 19 (by decide) (by decide) (by decide) (by decide) (by decide), r19, z_t0]
    omega
  · rw [Ai 24 (by decide) (by decide) (by decide) (by decide) (by decide), c24, qi 53 (by decide) (by decide) (by decide) (by decide) (by decide), r53]
  · rw [Ai 26 (by decide) (by decide) (by decide) (by decide) (by decide), c26, qi 55 (by decide) (by decide) (by decide) (by decide) (by decide), r55]
  · rw [Ai 25 (by decide) (by decide) (by decide) (by decide) (by decide), c25, qi 54 (by decide) (by decide) (by decide) (by decide) (by decide), r54]
    decide
  · unfold LTE
    rw [Ai 37 (by decide) (by decide) (by decide) (by decide) (by decide), c37, qi 18 (by decide) (by decide) (by decide) (by decide) (by decide), r18]
  · rw [Ai 13 (by decide) (by decide) (by decide) (by decide) (by decide), c13, qi 3 (by decide) (by decide) (by decide) (by decide) (by decide), r3]
    exact t13
  · rw [Aa, ca9]
    exact t90
  · rw [qi 3 (by decide) (by decide) (by decide) (by decide) (by decide), r3] at k1
    rw [Aa, ca9, qa, ra4]
    exact t9 k k0 k1
  · have := le_int hr.2.1.1
    rw [qi 3 (by decide) (by decide) (by decide) (by decide) (by decide), r3]
    omega
  · have := le_int hr.2.1.2
    rw [qi 3 (by decide) (by decide) (by decide) (by decide) (by decide), r3]
    omega
  · rw [qi 3 (by decide) (by decide) (by decide) (by decide) (by decide), r3] at k1
    rw [qa, ra4]
    exact hr.2.2.1 k k0 k1
  · omega
  · omega
  · rw [q17, e1]
    omega
  · rw [Ai 22 (by decide) (by decide) (by decide) (by decide) (by decide), c22, z_t0]
    exact Int.le_refl _
  · rw [Ai 22 (by decide) (by decide) (by decide) (by decide) (by decide), c22, z_t0]
    omega
  · rw [Ai 21 (by decide) (by decide) (by decide) (by decide) (by decide), c21, z_t0]
    exact Int.le_refl _
  · rw [Ai 21 (by decide) (by decide) (by decide) (by decide) (by decide), c21, z_t0]
    omega
  · rw [Ai 54 (by decide) (by decide) (by decide) (by decide) (by decide), c54, z_t0]
    exact Int.le_refl _
  · rw [Ai 54 (by decide) (by decide) (by decide) (by decide) (by decide), c54, z_t0]
    omega
  · rw [Ai 55 (by decide) (by decide) (by decide) (by decide) (by decide), c55, z_t0]
    exact Int.le_refl _
  · rw [Ai 55 (by decide) (by decide) (by decide) (by decide) (by decide), c55, z_t0]
    omega
  · rw [Ai 38 (by decide) (by decide) (by decide) (by decide) (by decide), c38, z_t0]
    exact Int.le_refl _
  · rw [Ai 38 (by decide) (by decide) (by decide) (by decide) (by decide), c38, Ai 54 (by decide) (by decide) (by decide) (by decide) (by decide), c54]
    exact Int.le_refl _
  · rw [qi 43 (by decide) (by decide) (by decide) (by decide) (by decide), r43, z_t0]
    exact Int.le_refl _
  · rw [qi 56 (by decide) (by decide) (by decide) (by decide) (by decide), r56, z_t0]
    exact Int.le_refl _
  · intro z
    rw [qi 56 (by decide) (by decide) (by decide) (by decide) (by decide), r56, z_t0] at z
    omega
  · rw [qi 29 (by decide) (by decide) (by decide) (by decide) (by decide), r29, z_t0]
    exact Int.le_refl _
  · rw [qi 59 (by decide) (by decide) (by decide) (by decide) (by decide), r59, z_t0] at hj
    omega
  · refine l5_2 hN N (CS.setI (CS.setI Z 41 (σ.i 5)) 42 0) 0 A ?_ ?_ wdZ ?_ eA
    · rw [ci_at, z_t0]
      exact Int.le_refl _
    · rw [ci_ne _ _ _ (by decide), ci_at]
      exact hx
    · unfold WL5
      show (4294967296 ≤ (Z.b 40 8).toInt ∧ 4294967296 ≤ (Z.b 40 9).toInt ∧ 4294967296 ≤ (Z.b 40 17).toInt) ∧ 65536 ≤ (Z.b 40 0).toInt ∧ 65536 ≤ (Z.b 40 1).toInt
      rw [zb 8 (by decide), zb 9 (by decide), zb 17 (by decide), zb 0 (by decide), zb 1 (by decide)]
      exact zRW_wl
  · unfold WL5
    rw [Ab, zb 8 (by decide), zb 9 (by decide), zb 17 (by decide), zb 0 (by decide), zb 1 (by decide)]
    exact zRW_wl
