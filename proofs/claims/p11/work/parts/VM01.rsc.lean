/-! both: what was told of resources -/
def RSC (s : CS) (r : RS) : Prop := ∀ k : Nat, k < 8 → s.a 10 k = r.a 5 k ∧ s.a 11 k + 1 = r.a 6 k ∧ s.a 12 k + 1 = r.a 7 k
theorem w_resource {N : Nat} {s : CS} {r : RS} {T : Int32 × CS} {U : Int32 × RS} (hr : RB r) (ht : TLD s r) (h : RSC s r) (x1 x2 x3 x4 : Int32) (e : f_X11_resource N s x1 x2 x3 x4 = some T) (g : f_X12_resource N r x1 x2 x3 x4 = some U) : RSC T.2 U.2 := by
  have a2 := ht.2.1
  have b3 := hr.2.1.1
  have w : ∀ x : Int32, (x = -1 ∨ (0 ≤ x ∧ x < s.i 13)) ↔ (-1 ≤ x ∧ x ≤ r.i 3 - 1) := fun x => by rw [a2]; exact (le_mk b3).symm
  have e7 : (7 : Int32).toInt = 7 := by decide
  have e8 : (8 : Int32).toInt = 8 := by decide
  have bad : T.2 = s → U.2 = RS.setI r 0 0 → RSC T.2 U.2 := fun q1 q2 => by
    rw [q1, q2]
    exact h
  unfold f_X11_resource f_X11_resource_19 f_X11_resource_38 at e
  unfold f_X12_resource f_X12_resource_53 at g
  by_cases c1 : 0 ≤ x1 ∧ x1 ≤ 7
  · have i2 : ¬ 8 ≤ x1 := fun q => by
      have q1 := le_int q
      have q2 := le_int c1.2
      omega
    rw [if_neg (Int32.not_lt.mpr c1.1), if_neg i2] at e
    rw [e_in1 c1, ob_some] at g
    have g1 := (if_neg n10).symm.trans g
    by_cases c2 : 0 ≤ x2 ∧ x2 ≤ 1
    · rw [if_neg (Int32.not_lt.mpr c2.1), if_pos c2.2] at e
      have g2 : (f_X12_in N (RS.setI r 0 0) x2 0 1).bind (fun p4 => (if p4.1 = 0 then some ((-1 : Int32), p4.2) else (f_X12_in N p4.2 x3 (-1) ((p4.2.i 3) - 1)).bind fun p7 => (if p7.1 = 0 then some ((-1 : Int32), p7.2) else (f_X12_in N p7.2 x4 (-1) ((p7.2.i 3) - 1)).bind fun p10 => (if p10.1 = 0 then some ((-1 : Int32), p10.2) else (if x2 = 1 then if ib x1 8 then f_X12_resource_71 N (RS.setA p10.2 5 ((x1 : Int32).toNatClampNeg) 1) x1 x3 x4 else none else if ib x1 8 then f_X12_resource_71 N (RS.setA p10.2 5 ((x1 : Int32).toNatClampNeg) 0) x1 x3 x4 else none))))) = some U := g1
      rw [e_in1 c2, ob_some] at g2
      have g3 : (f_X12_in N (RS.setI r 0 0) x3 (-1) (r.i 3 - 1)).bind (fun p7 => (if p7.1 = 0 then some ((-1 : Int32), p7.2) else (f_X12_in N p7.2 x4 (-1) ((p7.2.i 3) - 1)).bind fun p10 => (if p10.1 = 0 then some ((-1 : Int32), p10.2) else (if x2 = 1 then if ib x1 8 then f_X12_resource_71 N (RS.setA p10.2 5 ((x1 : Int32).toNatClampNeg) 1) x1 x3 x4 else none else if ib x1 8 then f_X12_resource_71 N (RS.setA p10.2 5 ((x1 : Int32).toNatClampNeg) 0) x1 x3 x4 else none)))) = some U := (if_neg n10).symm.trans g2
      by_cases c3 : -1 ≤ x3 ∧ x3 ≤ r.i 3 - 1
      · rw [e_ikn1 ((w x3).mpr c3), ob_some] at e
        have e2 : (f_X11_isKindOrNothing N s x4).bind (fun p10 => (if p10.1 = 0 then some ((-1 : Int32), p10.2) else (f_X10_tellResource N p10.2 x1 x2 x3 x4).bind fun p15 => some (1, p15.2))) = some T := (if_neg n10).symm.trans e
        rw [e_in1 c3, ob_some] at g3
        have g4 : (f_X12_in N (RS.setI r 0 0) x4 (-1) (r.i 3 - 1)).bind (fun p10 => (if p10.1 = 0 then some ((-1 : Int32), p10.2) else (if x2 = 1 then if ib x1 8 then f_X12_resource_71 N (RS.setA p10.2 5 ((x1 : Int32).toNatClampNeg) 1) x1 x3 x4 else none else if ib x1 8 then f_X12_resource_71 N (RS.setA p10.2 5 ((x1 : Int32).toNatClampNeg) 0) x1 x3 x4 else none))) = some U := (if_neg n10).symm.trans g3
        by_cases c4 : -1 ≤ x4 ∧ x4 ≤ r.i 3 - 1
        · rw [e_ikn1 ((w x4).mpr c4), ob_some] at e2
          have e3 : some ((1 : Int32), CS.putA (CS.putA (CS.putA s 10 (gPut (s.a 10) 8 x1 x2)) 11 (gPut (s.a 11) 8 x1 x3)) 12 (gPut (s.a 12) 8 x1 x4)) = some T := (if_neg n10).symm.trans e2
          rw [e_in1 c4, ob_some] at g4
          have g5 : (if x2 = 1 then if ib x1 8 then f_X12_resource_71 N (RS.setA (RS.setI r 0 0) 5 ((x1 : Int32).toNatClampNeg) 1) x1 x3 x4 else none else if ib x1 8 then f_X12_resource_71 N (RS.setA (RS.setI r 0 0) 5 ((x1 : Int32).toNatClampNeg) 0) x1 x3 x4 else none) = some U := (if_neg n10).symm.trans g4
          have l1 := le_int c1.1
          have l2 := le_int c1.2
          rw [z_t0] at l1
          obtain ⟨m, hm⟩ : ∃ m : Nat, x1.toInt = (m : Int) := ⟨x1.toInt.toNat, by omega⟩
          have en : x1.toNatClampNeg = m := by
            show x1.toInt.toNat = m
            rw [hm]
            exact Int.toNat_natCast _
          have hib : ib x1 8 := ⟨by omega, by omega⟩
          have key : ∀ v : Int32, x2 = v → f_X12_resource_71 N (RS.setA (RS.setI r 0 0) 5 ((x1 : Int32).toNatClampNeg) v) x1 x3 x4 = some U → RSC T.2 U.2 := fun v hv q => by
            unfold f_X12_resource_71 at q
            rw [if_pos hib, en] at q
            intro k hk
            rw [← Option.some.inj q, ← Option.some.inj e3]
            have t10 : (CS.putA (CS.putA (CS.putA s 10 (gPut (s.a 10) 8 x1 x2)) 11 (gPut (s.a 11) 8 x1 x3)) 12 (gPut (s.a 12) 8 x1 x4)).a 10 k = gPut (s.a 10) 8 x1 x2 k := rfl
            have t11 : (CS.putA (CS.putA (CS.putA s 10 (gPut (s.a 10) 8 x1 x2)) 11 (gPut (s.a 11) 8 x1 x3)) 12 (gPut (s.a 12) 8 x1 x4)).a 11 k = gPut (s.a 11) 8 x1 x3 k := rfl
            have t12 : (CS.putA (CS.putA (CS.putA s 10 (gPut (s.a 10) 8 x1 x2)) 11 (gPut (s.a 11) 8 x1 x3)) 12 (gPut (s.a 12) 8 x1 x4)).a 12 k = gPut (s.a 12) 8 x1 x4 k := rfl
            have gp : ∀ (f : Nat → Int32) (v : Int32), gPut f 8 x1 v k = if k = m then v else f k := fun f v => by
              unfold gPut
              rw [if_pos hib, en]
              rfl
            show (CS.putA (CS.putA (CS.putA s 10 (gPut (s.a 10) 8 x1 x2)) 11 (gPut (s.a 11) 8 x1 x3)) 12 (gPut (s.a 12) 8 x1 x4)).a 10 k = (RS.setA (RS.setA (RS.setA (RS.setI r 0 0) 5 m v) 6 m (x3 + 1)) 7 m (x4 + 1)).a 5 k ∧ (CS.putA (CS.putA (CS.putA s 10 (gPut (s.a 10) 8 x1 x2)) 11 (gPut (s.a 11) 8 x1 x3)) 12 (gPut (s.a 12) 8 x1 x4)).a 11 k + 1 = (RS.setA (RS.setA (RS.setA (RS.setI r 0 0) 5 m v) 6 m (x3 + 1)) 7 m (x4 + 1)).a 6 k ∧ (CS.putA (CS.putA (CS.putA s 10 (gPut (s.a 10) 8 x1 x2)) 11 (gPut (s.a 11) 8 x1 x3)) 12 (gPut (s.a 12) 8 x1 x4)).a 12 k + 1 = (RS.setA (RS.setA (RS.setA (RS.setI r 0 0) 5 m v) 6 m (x3 + 1)) 7 m (x4 + 1)).a 7 k
            rw [t10, t11, t12, gp, gp, gp, setA_nk (k := 5) (k' := 7) (by decide), setA_nk (k := 5) (k' := 6) (by decide), setA_nk (k := 6) (k' := 7) (by decide)]
            by_cases ek : k = m
            · rw [if_pos ek, if_pos ek, if_pos ek, ek, setA_at, setA_at, setA_at]
              exact ⟨hv, rfl, rfl⟩
            · rw [if_neg ek, if_neg ek, if_neg ek, setA_ne ek, setA_ne ek, setA_ne ek, setA_ne ek, setA_ne ek, setA_ne ek]
              exact h k hk
          have m1 := le_int c2.1
          have m2 := le_int c2.2
          have e1 : (1 : Int32).toInt = 1 := by decide
          rw [z_t0] at m1
          by_cases y : x2 = 1
          · rw [if_pos y] at g5
            exact key 1 y (hf_ite g5).2
          · rw [if_neg y] at g5
            refine key 0 (Int32.toInt_inj.mp ?_) (hf_ite g5).2
            rw [z_t0]
            by_cases q : x2.toInt = 1
            · exact absurd (Int32.toInt_inj.mp (q.trans e1.symm)) y
            · omega
        · rw [e_ikn0 (fun q => c4 ((w x4).mp q)), ob_some] at e2
          have e3 : some ((-1 : Int32), s) = some T := (if_pos rfl).symm.trans e2
          rw [e_in0 c4, ob_some] at g4
          have g5 : some ((-1 : Int32), RS.setI r 0 0) = some U := (if_pos rfl).symm.trans g4
          exact bad (by rw [← Option.some.inj e3]) (by rw [← Option.some.inj g5])
      · rw [e_ikn0 (fun q => c3 ((w x3).mp q)), ob_some] at e
        have e3 : some ((-1 : Int32), s) = some T := (if_pos rfl).symm.trans e
        rw [e_in0 c3, ob_some] at g3
        have g5 : some ((-1 : Int32), RS.setI r 0 0) = some U := (if_pos rfl).symm.trans g3
        exact bad (by rw [← Option.some.inj e3]) (by rw [← Option.some.inj g5])
    · have e3 : some ((-1 : Int32), s) = some T := by
        by_cases q : x2 < 0
        · rw [if_pos q] at e
          exact e
        · rw [if_neg q, if_neg (fun z => c2 ⟨Int32.not_lt.mp q, z⟩)] at e
          exact e
      have g2 : (f_X12_in N (RS.setI r 0 0) x2 0 1).bind (fun p4 => (if p4.1 = 0 then some ((-1 : Int32), p4.2) else (f_X12_in N p4.2 x3 (-1) ((p4.2.i 3) - 1)).bind fun p7 => (if p7.1 = 0 then some ((-1 : Int32), p7.2) else (f_X12_in N p7.2 x4 (-1) ((p7.2.i 3) - 1)).bind fun p10 => (if p10.1 = 0 then some ((-1 : Int32), p10.2) else (if x2 = 1 then if ib x1 8 then f_X12_resource_71 N (RS.setA p10.2 5 ((x1 : Int32).toNatClampNeg) 1) x1 x3 x4 else none else if ib x1 8 then f_X12_resource_71 N (RS.setA p10.2 5 ((x1 : Int32).toNatClampNeg) 0) x1 x3 x4 else none))))) = some U := g1
      rw [e_in0 c2, ob_some] at g2
      have g5 : some ((-1 : Int32), RS.setI r 0 0) = some U := (if_pos rfl).symm.trans g2
      exact bad (by rw [← Option.some.inj e3]) (by rw [← Option.some.inj g5])
  · have e3 : some ((-1 : Int32), s) = some T := by
      by_cases q : x1 < 0
      · rw [if_pos q] at e
        exact e
      · rw [if_neg q, if_pos (Int32.not_lt.mp (fun z => c1 ⟨Int32.not_lt.mp q, by
          have := lt_int z
          rw [Int32.le_iff_toInt_le]
          omega⟩))] at e
        exact e
    rw [e_in0 c1, ob_some] at g
    have g5 : some ((-1 : Int32), RS.setI r 0 0) = some U := (if_pos rfl).symm.trans g
    exact bad (by rw [← Option.some.inj e3]) (by rw [← Option.some.inj g5])
