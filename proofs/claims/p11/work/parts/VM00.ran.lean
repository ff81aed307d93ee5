/-! both: what a run left is told alike -/
theorem toInt_ml {x y : Int32} (h1 : -2147483648 ≤ x.toInt * y.toInt) (h2 : x.toInt * y.toInt < 2147483648) : (x * y).toInt = x.toInt * y.toInt := by
  rw [Int32.toInt_mul, Int.bmod_eq_of_le] <;> omega
/-- the locks that are held -/
def hS (r : RS) : Nat → Int32
  | 0 => 0
  | n + 1 => hS r n + r.a 91 n
/-- what was thrown, on both sides -/
def THG (s : CS) (r : RS) (a k : Nat) : Prop := (s.o a 2 = r.a 86 k ∧ s.o a 3 = r.a 87 k ∧ s.o a 4 = r.a 88 k) ∧ (0 ≤ (r.a 88 k).toInt ∧ (r.a 88 k).toInt ≤ 8) ∧ ∀ i : Nat, (i : Int) < (r.a 88 k).toInt → s.oa (a + 1) i = r.a 89 (8 * k + i) ∧ s.oa (a + 2) i = r.a 90 (8 * k + i)
/-- what a run left -/
def RNZ (s : CS) (r : RS) : Prop := (s.i 70 = r.i 80 ∧ s.i 69 = r.i 81 ∧ (0 ≤ (r.i 81).toInt ∧ (r.i 81).toInt ≤ 200)) ∧ ((s.i 72 = 1 ↔ r.i 115 = 2) ∧ (s.i 72 = 2 ↔ r.i 115 = 3)) ∧ (r.i 115 = 2 → s.i 74 = r.i 113) ∧ (∀ k : Nat, (k : Int) < (r.i 81).toInt → s.a 64 (2 * k) = r.a 82 k ∧ s.a 64 (2 * k + 1) = r.a 83 k) ∧ s.i 71 = hS r 8 ∧ (r.i 115 = 3 → ∃ a k : Nat, s.w = some a ∧ (r.i 114).toInt = (k : Int) ∧ k < 3200 ∧ THG s r a k)
def RNA (s : CS) (r : RS) : Prop := (s.i 8 = 0 ∧ r.i 79 = 0) ∨ ((¬ s.i 8 = 0 ∧ ¬ r.i 79 = 0) ∧ RNZ s r)
theorem of_8 : ∀ k : Nat, k ≤ 8 → (Int32.ofNat k).toInt = (k : Int) ∧ (Int32.ofNat k).toNatClampNeg = k ∧ Int32.ofNat k + 1 = Int32.ofNat (k + 1) := by decide +kernel
theorem hs_loop {N : Nat} {r : RS} : ∀ (n k : Nat) (U : Int32 × RS), k ≤ 8 → f_X12_ran_168 N n r (hS r k) (Int32.ofNat k) = some U → U.1 = hS r 8
  | 0, _, _, _, g => by cases g
  | n + 1, k, U, hk, g => by
    have g' : b_X12_ran_168 N (f_X12_ran_168 N n) r (hS r k) (Int32.ofNat k) = some U := g
    unfold b_X12_ran_168 at g'
    obtain ⟨o1, o2, o3⟩ := of_8 k hk
    have e8 : (8 : Int32).toInt = 8 := by decide
    by_cases c : (8 : Int32) ≤ Int32.ofNat k
    · have l := le_int c
      have ek : k = 8 := by omega
      rw [if_pos c] at g'
      rw [← Option.some.inj g', ek]
    · have l := lt_int (Int32.not_le.mp c)
      rw [if_neg c] at g'
      obtain ⟨-, g'⟩ := hf_ite g'
      rw [o2, o3] at g'
      exact hs_loop n (k + 1) U (by omega) g'
/-- ran -/
theorem v_ran {N : Nat} {s : CS} {r : RS} {T : Int32 × CS} {U : Int32 × RS} (h : RNA s r) (x1 : Int32) (e : f_X11_ran N s x1 = some T) (g : f_X12_ran N r x1 = some U) : T.1 = U.1 := by
  unfold f_X11_ran f_X11_ran_10 at e
  unfold f_X12_ran at g
  by_cases c : 0 ≤ x1 ∧ x1 ≤ 6
  · rw [if_neg (Int32.not_lt.mpr c.1), if_pos c.2] at e
    rw [e_in1 c, ob_some] at g
    have g' : (if r.i 79 = 0 then some ((-3 : Int32), RS.setI r 0 0) else (if r.i 115 = 3 then f_X12_ran_41 N (RS.setI r 0 0) x1 1 else f_X12_ran_41 N (RS.setI r 0 0) x1 0)) = some U := (if_neg n10).symm.trans g
    rcases h with ⟨z1, z2⟩ | ⟨⟨z1, z2⟩, ⟨q1, q2, q3⟩, ⟨q4, q5⟩, q6, -, q8, q9⟩
    · rw [if_pos z1] at e
      rw [if_pos z2] at g'
      rw [← Option.some.inj e, ← Option.some.inj g']
    · rw [if_neg z1] at e
      rw [if_neg z2] at g'
      obtain ⟨A, eA, e⟩ := hf_bind e
      have eT : T.1 = A.1 := by rw [← Option.some.inj e]
      rw [eT]
      clear e eT
      unfold f_X3_answer f_X3_lastThrown at eA
      have last : ∀ V, f_X12_ran_168 N N (RS.setI r 0 0) 0 0 = some V → s.i 71 = V.1 := fun V gV => by
        rw [q8]
        exact (hs_loop (r := RS.setI r 0 0) N 0 V (by omega) gV).symm
      by_cases t : r.i 115 = 3
      · obtain ⟨a, k, w1, w2, w3, ⟨w4, w5, w6⟩, -, -⟩ := q9 t
        have ek : ((RS.setI r 0 0).i 114).toNatClampNeg = k := by
          show (r.i 114).toInt.toNat = k
          rw [w2]
          exact Int.toNat_natCast _
        rw [if_pos t] at g'
        rw [if_pos (q5.mpr t), w1] at eA
        unfold f_X12_ran_41 at g'
        have eA' : (if x1 = 0 then some ((s.i 70), s) else (if x1 = 1 then some ((s.i 69), s) else (if x1 = 2 then (if (s.i 72) = 1 then some ((s.i 74), s) else some (0, s)) else (if x1 = 3 then if oK s a 2 then some ((CS.o s a 2), s) else none else (if x1 = 4 then if oK s a 2 then some ((CS.o s a 3), s) else none else (if x1 = 5 then if oK s a 2 then some ((CS.o s a 4), s) else none else some ((s.i 71), s))))))) = some A := eA
        by_cases x0 : x1 = 0
        · rw [if_pos x0] at eA' g'
          rw [← Option.some.inj eA', ← Option.some.inj g']
          exact q1
        rw [if_neg x0] at eA' g'
        by_cases xa : x1 = 1
        · rw [if_pos xa] at eA' g'
          rw [← Option.some.inj eA', ← Option.some.inj g']
          exact q2
        rw [if_neg xa] at eA' g'
        by_cases xb : x1 = 2
        · rw [if_pos xb, if_neg (fun z => absurd ((q4.mp z).symm.trans t) (by decide))] at eA'
          rw [if_pos xb, if_neg (show ¬ (RS.setI r 0 0).i 115 = 2 from fun z => absurd (z.symm.trans t) (by decide))] at g'
          rw [← Option.some.inj eA', ← Option.some.inj g']
        rw [if_neg xb] at eA' g'
        by_cases xc : x1 = 3
        · rw [if_pos xc] at eA' g'
          rw [if_neg n10] at g'
          have e1 := (hf_ite eA').2
          have g1 := (hf_ite g').2
          rw [ek] at g1
          rw [← Option.some.inj e1, ← Option.some.inj g1]
          exact w4
        rw [if_neg xc] at eA' g'
        by_cases xd : x1 = 4
        · rw [if_pos xd] at eA' g'
          rw [if_neg n10] at g'
          have e1 := (hf_ite eA').2
          have g1 := (hf_ite g').2
          rw [ek] at g1
          rw [← Option.some.inj e1, ← Option.some.inj g1]
          exact w5
        rw [if_neg xd] at eA' g'
        by_cases xe : x1 = 5
        · rw [if_pos xe] at eA' g'
          rw [if_neg n10] at g'
          have e1 := (hf_ite eA').2
          have g1 := (hf_ite g').2
          rw [ek] at g1
          rw [← Option.some.inj e1, ← Option.some.inj g1]
          exact w6
        rw [if_neg xe] at eA' g'
        rw [← Option.some.inj eA']
        exact last U g'
      · rw [if_neg t] at g'
        rw [if_neg (fun z => t (q5.mp z))] at eA
        unfold f_X12_ran_41 at g'
        have eA' : (if x1 = 0 then some ((s.i 70), s) else (if x1 = 1 then some ((s.i 69), s) else (if x1 = 2 then (if (s.i 72) = 1 then some ((s.i 74), s) else some (0, s)) else (if x1 = 3 then some ((-1), s) else (if x1 = 4 then some (0, s) else (if x1 = 5 then some (0, s) else some ((s.i 71), s))))))) = some A := eA
        by_cases x0 : x1 = 0
        · rw [if_pos x0] at eA' g'
          rw [← Option.some.inj eA', ← Option.some.inj g']
          exact q1
        rw [if_neg x0] at eA' g'
        by_cases xa : x1 = 1
        · rw [if_pos xa] at eA' g'
          rw [← Option.some.inj eA', ← Option.some.inj g']
          exact q2
        rw [if_neg xa] at eA' g'
        by_cases xb : x1 = 2
        · rw [if_pos xb] at eA' g'
          by_cases y : r.i 115 = 2
          · rw [if_pos (q4.mpr y)] at eA'
            rw [if_pos (show (RS.setI r 0 0).i 115 = 2 from y)] at g'
            rw [← Option.some.inj eA', ← Option.some.inj g']
            exact q6 y
          · rw [if_neg (fun z => y (q4.mp z))] at eA'
            rw [if_neg (show ¬ (RS.setI r 0 0).i 115 = 2 from y)] at g'
            rw [← Option.some.inj eA', ← Option.some.inj g']
        rw [if_neg xb] at eA' g'
        by_cases xc : x1 = 3
        · rw [if_pos xc] at eA' g'
          rw [if_pos rfl] at g'
          rw [← Option.some.inj eA', ← Option.some.inj g']
        rw [if_neg xc] at eA' g'
        by_cases xd : x1 = 4
        · rw [if_pos xd] at eA' g'
          rw [if_pos rfl] at g'
          rw [← Option.some.inj eA', ← Option.some.inj g']
        rw [if_neg xd] at eA' g'
        by_cases xe : x1 = 5
        · rw [if_pos xe] at eA' g'
          rw [if_pos rfl] at g'
          rw [← Option.some.inj eA', ← Option.some.inj g']
        rw [if_neg xe] at eA' g'
        rw [← Option.some.inj eA']
        exact last U g'
  · rw [e_in0 c, ob_some] at g
    have g' : some ((-1 : Int32), RS.setI r 0 0) = some U := (if_pos rfl).symm.trans g
    have e' : some ((-1 : Int32), s) = some T := by
      by_cases d : x1 < 0
      · rw [if_pos d] at e
        exact e
      · rw [if_neg d, if_neg (fun q => c ⟨Int32.not_lt.mp d, q⟩)] at e
        exact e
    rw [← Option.some.inj e', ← Option.some.inj g']
/-- trace -/
theorem v_trace {N : Nat} {s : CS} {r : RS} {T : Int32 × CS} {U : Int32 × RS} (h : RNA s r) (x1 x2 : Int32) (e : f_X11_trace N s x1 x2 = some T) (g : f_X12_trace N r x1 x2 = some U) : T.1 = U.1 := by
  unfold f_X11_trace f_X11_trace_31 at e
  unfold f_X12_trace f_X12_trace_35 at g
  rcases h with ⟨z1, z2⟩ | ⟨⟨z1, z2⟩, ⟨-, q2, ⟨q3, q4⟩⟩, -, -, q7, -⟩
  · rw [if_pos z1] at e
    rw [if_pos z2] at g
    rw [← Option.some.inj e, ← Option.some.inj g]
  rw [if_neg z1] at e
  rw [if_neg z2] at g
  have e1 : (1 : Int32).toInt = 1 := by decide
  have e2 : (2 : Int32).toInt = 2 := by decide
  have em : (r.i 81 - 1).toInt = (r.i 81).toInt - 1 := by
    rw [toInt_sub] <;> rw [e1] <;> omega
  by_cases c : 0 ≤ x1 ∧ x1 ≤ r.i 81 - 1
  · have l1 := le_int c.1
    have l2 := le_int c.2
    rw [z_t0] at l1
    rw [em] at l2
    rw [if_neg (Int32.not_lt.mpr c.1), if_neg (fun q => by
      have := le_int q
      rw [q2] at this
      omega)] at e
    rw [e_in1 c, ob_some] at g
    have g1 := (if_neg n10).symm.trans g
    by_cases d : 0 ≤ x2 ∧ x2 ≤ 1
    · rw [if_neg (Int32.not_lt.mpr d.1), if_pos d.2] at e
      have m1 := le_int d.1
      have m2 := le_int d.2
      rw [z_t0] at m1
      rw [e1] at m2
      have g2 : (f_X12_in N (RS.setI r 0 0) x2 0 1).bind (fun p5 => (if p5.1 = 0 then some ((-1 : Int32), p5.2) else (if x2 = 0 then if ib x1 200 then some ((p5.2.a 82 ((x1 : Int32).toNatClampNeg)), p5.2) else none else if ib x1 200 then some ((p5.2.a 83 ((x1 : Int32).toNatClampNeg)), p5.2) else none))) = some U := g1
      rw [e_in1 d, ob_some] at g2
      have g3 : (if x2 = 0 then if ib x1 200 then some ((r.a 82 ((x1 : Int32).toNatClampNeg)), RS.setI r 0 0) else none else if ib x1 200 then some ((r.a 83 ((x1 : Int32).toNatClampNeg)), RS.setI r 0 0) else none) = some U := (if_neg n10).symm.trans g2
      obtain ⟨k, hk⟩ : ∃ k : Nat, x1.toInt = (k : Int) := ⟨x1.toInt.toNat, by omega⟩
      have en : x1.toNatClampNeg = k := by
        show x1.toInt.toNat = k
        rw [hk]
        exact Int.toNat_natCast _
      rw [en] at g3
      obtain ⟨r1, r2⟩ := q7 k (by omega)
      have mu : (2 * x1).toInt = 2 * x1.toInt := by rw [toInt_ml] <;> rw [e2] <;> omega
      have ad : (2 * x1 + x2).toInt = 2 * (k : Int) + x2.toInt := by rw [toInt_add] <;> omega
      have eT : T.1 = s.a 64 (2 * x1 + x2).toNatClampNeg := by
        rw [← Option.some.inj e]
        show gAt (s.a 64) 400 (2 * x1 + x2) = _
        unfold gAt
        exact if_pos ⟨by omega, by omega⟩
      rw [eT]
      by_cases y : x2 = 0
      · rw [if_pos y] at g3
        rw [← Option.some.inj (hf_ite g3).2]
        have : (2 * x1 + x2).toNatClampNeg = 2 * k := by
          show (2 * x1 + x2).toInt.toNat = 2 * k
          rw [ad, y, z_t0]
          omega
        rw [this]
        exact r1
      · rw [if_neg y] at g3
        rw [← Option.some.inj (hf_ite g3).2]
        have y1 : x2.toInt = 1 := by
          by_cases w : x2.toInt = 0
          · exact absurd (Int32.toInt_inj.mp (w.trans z_t0.symm)) y
          · omega
        have : (2 * x1 + x2).toNatClampNeg = 2 * k + 1 := by
          show (2 * x1 + x2).toInt.toNat = 2 * k + 1
          rw [ad, y1]
          omega
        rw [this]
        exact r2
    · have g2 : (f_X12_in N (RS.setI r 0 0) x2 0 1).bind (fun p5 => (if p5.1 = 0 then some ((-1 : Int32), p5.2) else (if x2 = 0 then if ib x1 200 then some ((p5.2.a 82 ((x1 : Int32).toNatClampNeg)), p5.2) else none else if ib x1 200 then some ((p5.2.a 83 ((x1 : Int32).toNatClampNeg)), p5.2) else none))) = some U := g1
      rw [e_in0 d, ob_some] at g2
      have g3 : some ((-1 : Int32), RS.setI r 0 0) = some U := (if_pos rfl).symm.trans g2
      have e' : some ((-1 : Int32), s) = some T := by
        by_cases w : x2 < 0
        · rw [if_pos w] at e
          exact e
        · rw [if_neg w, if_neg (fun q => d ⟨Int32.not_lt.mp w, q⟩)] at e
          exact e
      rw [← Option.some.inj e', ← Option.some.inj g3]
  · rw [e_in0 c, ob_some] at g
    have g3 : some ((-1 : Int32), RS.setI r 0 0) = some U := (if_pos rfl).symm.trans g
    have e' : some ((-1 : Int32), s) = some T := by
      by_cases w : x1 < 0
      · rw [if_pos w] at e
        exact e
      · rw [if_neg w, if_pos (show s.i 69 ≤ x1 from by
          rw [q2]
          refine Int32.not_lt.mp (fun q => c ⟨Int32.not_lt.mp w, ?_⟩)
          have := lt_int q
          rw [Int32.le_iff_toInt_le, em]
          omega)] at e
        exact e
    rw [← Option.some.inj e', ← Option.some.inj g3]
/-- suppressed -/
theorem v_suppressed {N : Nat} {s : CS} {r : RS} {T : Int32 × CS} {U : Int32 × RS} (h : RNA s r) (x1 x2 : Int32) (e : f_X11_suppressed N s x1 x2 = some T) (g : f_X12_suppressed N r x1 x2 = some U) : T.1 = U.1 := by
  unfold f_X11_suppressed at e
  unfold f_X12_suppressed f_X12_suppressed_48 at g
  have no : ∀ A : Int32 × CS, f_X11_suppressed_19 N s x1 x2 none = some A → A.1 = -1 := fun A q => by
    unfold f_X11_suppressed_19 f_X11_suppressed_44 at q
    have q' : some ((-1 : Int32), s) = some A := q
    rw [← Option.some.inj q']
  rcases h with ⟨z1, z2⟩ | ⟨⟨z1, z2⟩, -, ⟨-, q5⟩, -, -, -, q9⟩
  · rw [if_pos z1] at e
    rw [if_pos z2] at g
    rw [no T e, ← Option.some.inj g]
  rw [if_neg z1] at e
  rw [if_neg z2] at g
  unfold f_X3_lastThrown at e
  by_cases t : r.i 115 = 3
  · obtain ⟨a, k, w1, w2, w3, ⟨-, -, w6⟩, ⟨w7, w8⟩, w9⟩ := q9 t
    rw [if_pos t] at g
    obtain ⟨-, g⟩ := hf_ite g
    have ek : (r.i 114).toNatClampNeg = k := by
      show (r.i 114).toInt.toNat = k
      rw [w2]
      exact Int.toNat_natCast _
    rw [ek] at g
    rw [if_pos (q5.mpr t), w1] at e
    have e0 : f_X11_suppressed_19 N s x1 x2 (some a) = some T := e
    unfold f_X11_suppressed_19 f_X11_suppressed_44 at e0
    have e' : (if x1 < 0 then some ((-1 : Int32), s) else if oK s a 2 then (if (CS.o s a 4) ≤ x1 then some ((-1), s) else (if x2 < 0 then some ((-1), s) else (if x2 ≤ 1 then (if x2 = 0 then if oK s (a + 1) 3 then some ((gAt (CS.oa s (a + 1)) 8 x1), s) else none else if oK s (a + 2) 3 then some ((gAt (CS.oa s (a + 2)) 8 x1), s) else none) else some ((-1), s)))) else none) = some T := e0
    have e1 : (1 : Int32).toInt = 1 := by decide
    have e8 : (8 : Int32).toInt = 8 := by decide
    have em : (r.a 88 k - 1).toInt = (r.a 88 k).toInt - 1 := by
      rw [toInt_sub] <;> rw [e1] <;> omega
    by_cases c : 0 ≤ x1 ∧ x1 ≤ r.a 88 k - 1
    · have l1 := le_int c.1
      have l2 := le_int c.2
      rw [z_t0] at l1
      rw [em] at l2
      rw [if_neg (Int32.not_lt.mpr c.1)] at e'
      obtain ⟨-, e'⟩ := hf_ite e'
      rw [if_neg (fun q => by
        have := le_int q
        rw [w6] at this
        omega)] at e'
      rw [e_in1 c, ob_some] at g
      have g1 : (f_X12_in N (RS.setI r 0 0) x2 0 1).bind (fun p7 => (if p7.1 = 0 then some ((-1 : Int32), p7.2) else (if x2 = 0 then if ib ((8 * (p7.2.i 114)) + x1) 25600 then some ((p7.2.a 89 ((((8 * (p7.2.i 114)) + x1) : Int32).toNatClampNeg)), p7.2) else none else if ib ((8 * (p7.2.i 114)) + x1) 25600 then some ((p7.2.a 90 ((((8 * (p7.2.i 114)) + x1) : Int32).toNatClampNeg)), p7.2) else none))) = some U := (if_neg n10).symm.trans g
      by_cases d : 0 ≤ x2 ∧ x2 ≤ 1
      · rw [if_neg (Int32.not_lt.mpr d.1), if_pos d.2] at e'
        rw [e_in1 d, ob_some] at g1
        have g2 : (if x2 = 0 then if ib ((8 * (r.i 114)) + x1) 25600 then some ((r.a 89 ((((8 * (r.i 114)) + x1) : Int32).toNatClampNeg)), RS.setI r 0 0) else none else if ib ((8 * (r.i 114)) + x1) 25600 then some ((r.a 90 ((((8 * (r.i 114)) + x1) : Int32).toNatClampNeg)), RS.setI r 0 0) else none) = some U := (if_neg n10).symm.trans g1
        obtain ⟨i, hi⟩ : ∃ i : Nat, x1.toInt = (i : Int) := ⟨x1.toInt.toNat, by omega⟩
        have en : x1.toNatClampNeg = i := by
          show x1.toInt.toNat = i
          rw [hi]
          exact Int.toNat_natCast _
        have mu : (8 * r.i 114).toInt = 8 * (k : Int) := by rw [toInt_ml, e8, w2] <;> rw [e8, w2] <;> omega
        have ad : (8 * r.i 114 + x1).toNatClampNeg = 8 * k + i := by
          have z : (8 * r.i 114 + x1).toInt = ((8 * k + i : Nat) : Int) := by rw [toInt_add] <;> omega
          show (8 * r.i 114 + x1).toInt.toNat = 8 * k + i
          rw [z]
          exact Int.toNat_natCast _
        rw [ad] at g2
        obtain ⟨r1, r2⟩ := w9 i (by omega)
        have ga : ∀ f : Nat → Int32, gAt f 8 x1 = f i := fun f => by
          unfold gAt
          rw [if_pos ⟨by omega, by omega⟩, en]
        by_cases y : x2 = 0
        · rw [if_pos y] at e' g2
          rw [← Option.some.inj (hf_ite e').2, ← Option.some.inj (hf_ite g2).2]
          exact (ga _).trans r1
        · rw [if_neg y] at e' g2
          rw [← Option.some.inj (hf_ite e').2, ← Option.some.inj (hf_ite g2).2]
          exact (ga _).trans r2
      · rw [e_in0 d, ob_some] at g1
        have g2 : some ((-1 : Int32), RS.setI r 0 0) = some U := (if_pos rfl).symm.trans g1
        have e3 : some ((-1 : Int32), s) = some T := by
          by_cases w : x2 < 0
          · rw [if_pos w] at e'
            exact e'
          · rw [if_neg w, if_neg (fun q => d ⟨Int32.not_lt.mp w, q⟩)] at e'
            exact e'
        rw [← Option.some.inj e3, ← Option.some.inj g2]
    · rw [e_in0 c, ob_some] at g
      have g2 : some ((-1 : Int32), RS.setI r 0 0) = some U := (if_pos rfl).symm.trans g
      have e3 : some ((-1 : Int32), s) = some T := by
        by_cases w : x1 < 0
        · rw [if_pos w] at e'
          exact e'
        · rw [if_neg w] at e'
          obtain ⟨-, e'⟩ := hf_ite e'
          rw [if_pos (show CS.o s a 4 ≤ x1 from by
            rw [w6]
            refine Int32.not_lt.mp (fun q => c ⟨Int32.not_lt.mp w, ?_⟩)
            have := lt_int q
            rw [Int32.le_iff_toInt_le, em]
            omega)] at e'
          exact e'
      rw [← Option.some.inj e3, ← Option.some.inj g2]
  · rw [if_neg t] at g
    rw [if_neg (fun z => t (q5.mp z))] at e
    have e0 : f_X11_suppressed_19 N s x1 x2 none = some T := e
    rw [no T e0, ← Option.some.inj g]
