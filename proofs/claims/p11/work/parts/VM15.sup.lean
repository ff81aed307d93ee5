/-! both machines: one more is suppressed -/
theorem sup_c {N : Nat} {s : CS} {b : Nat} {x1 x2 : Int32} {R : Unit × CS} (e : f_X8_suppress N s b x1 x2 = some R) : (8 ≤ s.o b 4 ∧ R.2 = s) ∨ (¬ 8 ≤ s.o b 4 ∧ (R.2.i = s.i ∧ R.2.a = s.a ∧ R.2.r = s.r ∧ R.2.w = s.w ∧ R.2.ot = s.ot) ∧ (∀ x : Nat, x ≠ b → R.2.o x = s.o x) ∧ (R.2.o b 4 = s.o b 4 + 1 ∧ ∀ j : Nat, j ≠ 4 → R.2.o b j = s.o b j) ∧ (R.2.oa (b + 1) = gPut (s.oa (b + 1)) 8 (s.o b 4) x1 ∧ R.2.oa (b + 2) = gPut (s.oa (b + 2)) 8 (s.o b 4) x2) ∧ ∀ x : Nat, x ≠ b + 1 → x ≠ b + 2 → R.2.oa x = s.oa x) := by
  unfold f_X8_suppress at e
  have e1 := (hf_ite e).2
  by_cases c : 8 ≤ s.o b 4
  · rw [if_pos c] at e1
    exact Or.inl ⟨c, by rw [← Option.some.inj e1]⟩
  · rw [if_neg c] at e1
    have e2 := (hf_ite (hf_ite e1).2).2
    right
    obtain ⟨P, hP⟩ : ∃ P, P = CS.putOA s (b + 1) (gPut (s.oa (b + 1)) 8 (s.o b 4) x1) := ⟨_, rfl⟩
    obtain ⟨Q, hQ⟩ : ∃ Q, Q = CS.putOA P (b + 2) (gPut (P.oa (b + 2)) 8 (P.o b 4) x2) := ⟨_, rfl⟩
    have eR : R.2 = CS.setO Q b 4 (Q.o b 4 + 1) := by
      rw [← Option.some.inj e2, hQ, hP]
    have po : P.o = s.o := by rw [hP, co_putOA]
    have pa2 : P.oa (b + 2) = s.oa (b + 2) := by
      rw [hP]
      exact if_neg (by omega)
    have pa1 : P.oa (b + 1) = gPut (s.oa (b + 1)) 8 (s.o b 4) x1 := by
      rw [hP]
      exact if_pos rfl
    have pa : ∀ x : Nat, x ≠ b + 1 → P.oa x = s.oa x := fun x hx => by
      rw [hP]
      exact if_neg hx
    have qo : Q.o = s.o := by rw [hQ, co_putOA, po]
    have qa2 : Q.oa (b + 2) = gPut (s.oa (b + 2)) 8 (s.o b 4) x2 := by
      rw [hQ, pa2, po]
      exact if_pos rfl
    have qa : ∀ x : Nat, x ≠ b + 2 → Q.oa x = P.oa x := fun x hx => by
      rw [hQ]
      exact if_neg hx
    have q5 : Q.i = s.i ∧ Q.a = s.a ∧ Q.r = s.r ∧ Q.w = s.w ∧ Q.ot = s.ot := by
      rw [hQ, hP]
      exact ⟨rfl, rfl, rfl, rfl, rfl⟩
    refine ⟨c, ?_, fun x hx => ?_, ⟨?_, fun j hj => ?_⟩, ⟨?_, ?_⟩, fun x h1 h2 => ?_⟩
    · rw [eR]
      exact q5
    · rw [eR, setO_ne hx, qo]
    · rw [eR, setO_at, qo]
    · rw [eR, setO_k hj, qo]
    · rw [eR, coa_setO, qa _ (by omega), pa1]
    · rw [eR, coa_setO, qa2]
    · rw [eR, coa_setO, qa x h2, pa x h1]
/-- the reference's side -/
def rSup (r : RS) (x1 x2 : Int32) : RS := if 8 ≤ r.a 88 (r.i 114).toNatClampNeg then r else RS.setA (RS.setA (RS.setA r 89 (8 * r.i 114 + r.a 88 (r.i 114).toNatClampNeg).toNatClampNeg x1) 90 (8 * r.i 114 + r.a 88 (r.i 114).toNatClampNeg).toNatClampNeg x2) 88 (r.i 114).toNatClampNeg (r.a 88 (r.i 114).toNatClampNeg + 1)
theorem sup_both {N : Nat} {s : CS} {r : RS} {mu : Nat → Nat} {b : Nat} {x1 x2 : Int32} {R : Unit × CS} {c : List Ent} {m : Int} (hr : REFS s) (d22 : frs c ≤ 22) (hmu : MUI r mu) (h3 : (r.i 85).toInt ≤ 3200) (t : TLV s r mu b) (e114 : (r.i 114).toInt = (mu b : Int)) (e : f_X8_suppress N s b x1 x2 = some R) : FEQ s R.2 r (rSup r x1 x2) mu mu c m ∧ TLV R.2 (rSup r x1 x2) mu b ∧ (R.2.i = s.i ∧ R.2.a = s.a ∧ R.2.r = s.r ∧ R.2.w = s.w) ∧ (rSup r x1 x2).i = r.i ∧ ∀ k : Nat, k ≠ 88 → k ≠ 89 → k ≠ 90 → (rSup r x1 x2).a k = r.a k := by
  have k1 := cl_nat e114
  obtain ⟨⟨⟨t1, t2, t3⟩, ⟨t4, t5⟩, t6⟩, t7, t8, t9⟩ := id t
  have e8 : (8 : Int32).toInt = 8 := by decide
  have key : ∀ V : RS, V = rSup r x1 x2 → FEQ s R.2 r V mu mu c m ∧ TLV R.2 V mu b ∧ (R.2.i = s.i ∧ R.2.a = s.a ∧ R.2.r = s.r ∧ R.2.w = s.w) ∧ V.i = r.i ∧ ∀ k : Nat, k ≠ 88 → k ≠ 89 → k ≠ 90 → V.a k = r.a k := fun V hV => by
    unfold rSup at hV
    rw [k1] at hV
    rcases sup_c e with ⟨c1, c2⟩ | ⟨c1, ⟨c2, c3, c4, c5, c6⟩, c7, ⟨c8, c9⟩, ⟨d1, d2⟩, d3⟩
    · rw [if_pos (by rw [← t3]; exact c1)] at hV
      rw [hV, c2]
      exact ⟨⟨fun i f _ h => ⟨h, rfl, rfl⟩, fun b' _ t' => ⟨t', rfl, rfl⟩, ⟨rfl, rfl, rfl, rfl, rfl⟩, fun _ _ _ _ _ => rfl, fun _ _ => ⟨fun _ _ => rfl, fun _ _ => rfl⟩, fun _ _ => rfl⟩, t, ⟨rfl, rfl, rfl, rfl⟩, rfl, fun _ _ _ _ => rfl⟩
    · rw [if_neg (by rw [← t3]; exact c1)] at hV
      have l8 : (r.a 88 (mu b)).toInt < 8 := by
        rw [t3] at c1
        have := lt_int (Int32.not_le.mp c1)
        omega
      obtain ⟨w, hw⟩ : ∃ w : Nat, (r.a 88 (mu b)).toInt = (w : Int) := ⟨(r.a 88 (mu b)).toInt.toNat, by omega⟩
      have i1 : (8 * r.i 114).toInt = 8 * (mu b : Int) := by
        rw [toInt_ml, e8, e114] <;> rw [e8, e114] <;> omega
      have i2 : (8 * r.i 114 + r.a 88 (mu b)).toInt = ((8 * mu b + w : Nat) : Int) := by
        rw [toInt_add] <;> rw [i1, hw] <;> omega
      rw [cl_nat i2] at hV
      have ww : (r.a 88 (mu b) + 1).toInt = (w : Int) + 1 := by
        rw [ad1 (by omega) (by omega), hw]
      have va : ∀ k : Nat, k ≠ 88 → k ≠ 89 → k ≠ 90 → V.a k = r.a k := fun k q1 q2 q3 => by
        rw [hV, setA_nk q1, setA_nk q3, setA_nk q2]
      have v88 : V.a 88 (mu b) = r.a 88 (mu b) + 1 := by rw [hV, setA_at]
      have v88' : ∀ j : Nat, j ≠ mu b → V.a 88 j = r.a 88 j := fun j hj => by
        rw [hV, setA_ne hj, setA_nk (by decide), setA_nk (by decide)]
      have v89 : ∀ j : Nat, V.a 89 j = if j = 8 * mu b + w then x1 else r.a 89 j := fun j => by
        rw [hV, setA_nk (by decide), setA_nk (by decide)]
        by_cases z : j = 8 * mu b + w
        · rw [z, setA_at, if_pos rfl]
        · rw [setA_ne z, if_neg z]
      have v90 : ∀ j : Nat, V.a 90 j = if j = 8 * mu b + w then x2 else r.a 90 j := fun j => by
        rw [hV, setA_nk (by decide)]
        by_cases z : j = 8 * mu b + w
        · rw [z, setA_at, if_pos rfl]
        · rw [setA_ne z, if_neg z, setA_nk (by decide)]
      have vi : V.i = r.i := by
        rw [hV]
        rfl
      have hp' : ∀ b' : Nat, inP s b' → inP R.2 b' := fun b' q => by
        unfold inP at *
        rw [c4]
        exact q
      have hw4 : (s.o b 4).toInt = (w : Int) := by
        rw [t3]
        exact hw
      have gp : ∀ (f : Nat → Int32) (x : Int32) (i : Nat), gPut f 8 (s.o b 4) x i = if i = w then x else f i := fun f x i => by
        unfold gPut
        rw [if_pos ⟨by omega, by omega⟩, cl_nat hw4]
        rfl
      have TB : TLV R.2 V mu b := by
        refine ⟨⟨⟨?_, ?_, ?_⟩, ?_, fun i hi => ?_⟩, by rw [vi]; exact t7, hp' b t8, by rw [va 86 (by decide) (by decide) (by decide), vi]; exact t9⟩
        · rw [c9 2 (by decide), va 86 (by decide) (by decide) (by decide)]; exact t1
        · rw [c9 3 (by decide), va 87 (by decide) (by decide) (by decide)]; exact t2
        · rw [c8, v88, t3]
        · rw [v88, ww]
          omega
        · rw [v88, ww] at hi
          rw [d1, d2, gp, gp, v89, v90]
          by_cases z : i = w
          · rw [if_pos z, if_pos z, if_pos (by omega), if_pos (by omega)]
            exact ⟨rfl, rfl⟩
          · rw [if_neg z, if_neg z, if_neg (by omega), if_neg (by omega)]
            exact t6 i (by omega)
      refine ⟨⟨fun i f hi hf => ?_, fun b' hb t' => ?_, ⟨by rw [c3], va 21 (by decide) (by decide) (by decide), va 23 (by decide) (by decide) (by decide), va 31 (by decide) (by decide) (by decide), va 32 (by decide) (by decide) (by decide)⟩, fun j k q1 q2 _ => by rw [va j (by omega) (by omega) (by omega)], fun a ha => ⟨fun k _ => by rw [c3], fun l _ => by rw [va 84 (by decide) (by decide) (by decide)]⟩, fun j _ => by rw [va 98 (by decide) (by decide) (by decide)]⟩, TB, ⟨c2, c3, c4, c5⟩, vi, va⟩
      · refine ⟨by rw [c4]; exact hf, c7 f (fun z => ?_), by rw [c6]⟩
        obtain ⟨j, j1, j2⟩ := t8
        have kb := (hr.2.2.2.2.2.1 j b j1 j2).1.2
        have kf := (hr.2.2.2.1 i f (by omega) hf).2
        rw [z, kb] at kf
        exact absurd kf (by decide)
      · refine ⟨?_, rfl, by rw [va 87 (by decide) (by decide) (by decide)]⟩
        by_cases z : b' = b
        · rw [z]
          exact TB
        · have nm : mu b' ≠ mu b := fun q => z (hmu.2 b' b t'.2.1 t7 q)
          obtain ⟨j, j1, j2⟩ := t8
          obtain ⟨j', j1', j2'⟩ := t'.2.2.1
          obtain ⟨l1, l2, l3⟩ := hr.2.2.2.2.2.1 j b j1 j2
          obtain ⟨l1', l2', l3'⟩ := hr.2.2.2.2.2.1 j' b' j1' j2'
          have n1 : b' ≠ b + 1 := fun q => by
            have := l2.2
            rw [← q, l1'.2] at this
            exact absurd this (by decide)
          have n2 : b ≠ b' + 1 := fun q => by
            have := l2'.2
            rw [← q, l1.2] at this
            exact absurd this (by decide)
          exact TLV.of (c7 b' z) (d3 _ (by omega) (by omega)) (d3 _ (by omega) (by omega)) (hp' b') (by rw [vi]; exact Int.le_refl _) (by rw [va 86 (by decide) (by decide) (by decide)]) (by rw [va 87 (by decide) (by decide) (by decide)]) (v88' _ nm) (fun i hi => by rw [v89, if_neg (by omega)]) (fun i hi => by rw [v90, if_neg (by omega)]) (by rw [vi]) t'
  exact key _ rfl
