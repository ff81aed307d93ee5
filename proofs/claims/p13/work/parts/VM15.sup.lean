section
/-! both machines: one more is suppressed -/
theorem sup_c {N : Nat} {s : CS} {b : Nat} {x1 x2 : Int32} {R : Unit × CS} (e : f_X8_suppress N s b x1 x2 = some R) : (8 ≤ s.o b 4 ∧ R.2 = s) ∨ (¬ 8 ≤ s.o b 4 ∧ (R.2.i = s.i ∧ R.2.a = s.a ∧ R.2.r = s.r ∧ R.2.w = s.w ∧ R.2.ot = s.ot) ∧ (∀ x : Nat, x ≠ b → R.2.o x = s.o x) ∧ (R.2.o b 4 = s.o b 4 + 1 ∧ ∀ j : Nat, j ≠ 4 → R.2.o b j = s.o b j) ∧ (R.2.oa (b + 1) = gPut (s.oa (b + 1)) 8 (s.o b 4) x1 ∧ R.2.oa (b + 2) = gPut (s.oa (b + 2)) 8 (s.o b 4) x2) ∧ ∀ x : Nat, x ≠ b + 1 → x ≠ b + 2 → R.2.oa x = s.oa x) := by
  unfold f_X8_suppress at e
  have e1 := (hf_ite e).2
  by_cases c : 8 ≤ s.o b 4
  · rw [if_pos c] at e1
    exact Or.inl ⟨c, by rw [← Option.some.inj e1]⟩
  · rw [if_neg c] at e1
    have e2 := (hf_ite (hf_ite e1).2).2
    right
    obtain ⟨P, hP⟩ : ∃ P, P = CS.putOA s (b + 1) (gPut (s.oa (b + 1)) 8 (s.o b 4) x1) := ⟨_, rfl⟩
    obtain ⟨Q, hQ⟩ : ∃ Q, Q = CS.putOA P (b + 2) (gPut (P.oa (b + 2)) 8 (P.o b 4) x2) := ⟨_, rfl⟩
    have eR : R.2 = CS.setO Q b 4 (Q.o b 4 + 1) := by
      rw [← Option.some.inj e2, hQ, hP]
    have po : P.o = s.o := by rw [hP, co_putOA]
    have pa2 : P.oa (b + 2) = s.oa (b + 2) := by
      rw [hP]
      exact if_neg (by omega)
    have pa1 : P.oa (b + 1) = gPut (s.oa (b + 1)) 8 (s.o b 4) x1 := by
      rw [hP]
      exact if_pos rfl
    have pa : ∀ x : Nat, x ≠ b + 1 → P.oa x = s.oa x := fun x hx => by
      rw [hP]
      exact if_neg hx
    have qo : Q.o = s.o := by rw [hQ, co_putOA, po]
    have qa2 : Q.oa (b + 2) = gPut (s.oa (b + 2)) 8 (s.o b 4) x2 := by
      rw [hQ, pa2, po]
      exact if_pos rfl
    have qa : ∀ x : Nat, x ≠ b + 2 → Q.oa x = P.oa x := fun x hx => by
      rw [hQ]
      exact if_neg hx
    have q5 : Q.i = s.i ∧ Q.a = s.a ∧ Q.r = s.r ∧ Q.w = s.w ∧ Q.ot = s.ot := by
      rw [hQ, hP]
      exact ⟨rfl, rfl, rfl, rfl, rfl⟩
    refine ⟨c, ?_, fun x hx => ?_, ⟨?_, fun j hj => ?_⟩, ⟨?_, ?_⟩, fun x h1 h2 => ?_⟩
    · rw [eR]
      exact q5
    · rw [eR, setO_ne hx, qo]
    · rw [eR, setO_at, qo]
    · rw [eR, setO_k hj, qo]
    · rw [eR, coa_setO, qa _ (by omega), pa1]
    · rw [eR, coa_setO, qa2]
    · rw [eR, coa_setO, qa x h2, pa x h1]
/-- the reference's side -/
def rSup (r : RS) (x1 x2 : Int32) : RS := if 8 ≤ r.a 88 (r.i 114).toNatClampNeg then r else RS.setA (RS.setA (RS.setA r 89 (8 * r.i 114 + r.a 88 (r.i 114).toNatClampNeg).toNatClampNeg x1) 90 (8 * r.i 114 + r.a 88 (r.i 114).toNatClampNeg).toNatClampNeg x2) 88 (r.i 114).toNatClampNeg (r.a 88 (r.i 114).toNatClampNeg + 1)
theorem sup_both {N : Nat} {s : CS} {r : RS} {mu : Nat → Nat} {b : Nat} {x1 x2 : Int32} {R : Unit × CS} {c : List Ent} {m : Int} (hr : REFS s) (d22 : frs c ≤ 22) (hmu : MUI r mu) (h3 : (r.i 85).toInt ≤ 3200) (t : TLV s r mu b) (e114 : (r.i 114).toInt = (mu b : Int)) (e : f_X8_suppress N s b x1 x2 = some R) : FEQ s R.2 r (rSup r x1 x2) mu mu c m ∧ TLV R.2 (rSup r x1 x2) mu b ∧ (R.2.i = s.i ∧ R.2.a = s.a ∧ R.2.r = s.r ∧ R.2.w = s.w) ∧ (rSup r x1 x2).i = r.i ∧ ∀ k : Nat, k ≠ 88 → k ≠ 89 → k ≠ 90 → (rSup r x1 x2).a k = r.a k := by
  have k1 := cl_nat e114
  obtain ⟨⟨⟨t1, t2, t3⟩, ⟨t4, t5⟩, t6⟩, t7, t8, t9⟩ := id t
  have e8 : (8 : Int32).toInt = 8 := by decide
  have key : ∀ V : RS, V = rSup r x1 x2 → FEQ s R.2 r V mu mu c m ∧ TLV R.2 V mu b ∧ (R.2.i = s.i ∧ R.2.a = s.a ∧ R.2.r = s.r ∧ R.2.w = s.w) ∧ V.i = r.i ∧ ∀ k : Nat, k ≠ 88 → k ≠ 89 → k ≠ 90 → V.a k = r.a k := fun V hV => by
    unfold rSup at hV
    rw [k1] at hV
    rcases sup_c e with ⟨c1, c2⟩ | ⟨c1, ⟨c2, c3, c4, c5, c6⟩, c7, ⟨c8, c9⟩, ⟨d1, d2⟩, d3⟩
    · rw [if_pos (by rw [← t3]; exact c1)] at hV
      rw [hV, c2]
      exact ⟨⟨fun i f _ h => ⟨h, rfl, rfl⟩, fun b' _ t' => ⟨t', rfl, rfl⟩, ⟨rfl, rfl, rfl, rfl, rfl⟩, fun _ _ _ _ _ => rfl, fun _ _ => ⟨fun _ _ => rfl, fun _ _ => rfl⟩, fun _ _ => rfl⟩, t, ⟨rfl, rfl, rfl, rfl⟩, rfl, fun _ _ _ _ => rfl⟩
    · rw [if_neg (by rw [← t3]; exact c1)] at hV
      have l8 : (r.a 88 (mu b)).toInt < 8 := by
        rw [t3] at c1
        have := lt_int (Int32.not_le.mp c1)
        omega
      obtain ⟨w, hw⟩ : ∃ w : Nat, (r.a 88 (mu b)).toInt = (w : Int) := ⟨(r.a 88 (mu b)).toInt.toNat, by omega⟩
      have i1 : (8 * r.i 114).toInt = 8 * (mu b : Int) := by
        rw [toInt_ml, e8, e114] <;> rw [e8, e114] <;> omega
      have i2 : (8 * r.i 114 + r.a 88 (mu b)).toInt = ((8 * mu b + w : Nat) : Int) := by
        rw [toInt_add] <;> rw [i1, hw] <;> omega
      rw [cl_nat i2] at hV
      have ww : (r.a 88 (mu b) + 1).toInt = (w : Int) + 1 := by
        rw [ad1 (by omega) (by omega), hw]
      have va : ∀ k : Nat, k ≠ 88 → k ≠ 89 → k ≠ 90 → V.a k = r.a k := fun k q1 q2 q3 => by
        rw [hV, setA_nk q1, setA_nk q3, setA_nk q2]
      have v88 : V.a 88 (mu b) = r.a 88 (mu b) + 1 := by rw [hV, setA_at]
      have v88' : ∀ j : Nat, j ≠ mu b → V.a 88 j = r.a 88 j := fun j hj => by
        rw [hV, setA_ne hj, setA_nk (by decide), setA_nk (by decide)]
      have v89 : ∀ j : Nat, V.a 89 j = if j = 8 * mu b + w then x1 else r.a 89 j := fun j => by
        rw [hV, setA_nk (by decide), setA_nk (by decide)]
        by_cases z : j = 8 * mu b + w
        · rw [z, setA_at, if_pos rfl]
        · rw [setA_ne z, if_neg z]
      have v90 : ∀ j : Nat, V.a 90 j = if j = 8 * mu b + w then x2 else r.a 90 j := fun j => by
        rw [hV, setA_nk (by decide)]
        by_cases z : j = 8 * mu b + w
        · rw [z, setA_at, if_pos rfl]
        · rw [setA_ne z, if_neg z, setA_nk (by decide)]
      have vi : V.i = r.i := by
        rw [hV]
        rfl
      have hp' : ∀ b' : Nat, inP s b' → inP R.2 b' := fun b' q => by
        unfold inP at *
        rw [c4]
        exact q
      have hw4 : (s.o b 4).toInt = (w : Int) := by
        rw [t3]
        exact hw
      have gp : ∀ (f : Nat → Int32) (x : Int32) (i : Nat), gPut f 8 (s.o b 4) x i = if i = w then x else f i := fun f x i => by
        unfold gPut
        rw [if_pos ⟨by omega, by omega⟩, cl_nat hw4]
        rfl
      have TB : TLV R.2 V mu b := by
        refine ⟨⟨⟨?_, ?_, ?_⟩, ?_, fun i hi => ?_⟩, by rw [vi]; exact t7, hp' b t8, by rw [va 86 (by decide) (by decide) (by decide), vi]; exact t9⟩
        · rw [c9 2 (by decide), va 86 (by decide) (by decide) (by decide)]; exact t1
        · rw [c9 3 (by decide), va 87 (by decide) (by decide) (by decide)]; exact t2
        · rw [c8, v88, t3]
        · rw [v88, ww]
          omega
        · rw [v88, ww] at hi
          rw [d1, d2, gp, gp, v89, v90]
          by_cases z : i = w
          · rw [if_pos z, if_pos z, if_pos (by omega), if_pos (by omega)]
            exact ⟨rfl, rfl⟩
          · rw [if_neg z, if_neg z, if_neg (by omega), if_neg (by omega)]
            exact t6 i (by omega)
      refine ⟨⟨fun i f hi hf => ?_, fun b' hb t' => ?_, ⟨by rw [c3], va 21 (by decide) (by decide) (by decide), va 23 (by decide) (by decide) (by decide), va 31 (by decide) (by decide) (by decide), va 32 (by decide) (by decide) (by decide)⟩, fun j k q1 q2 _ => by rw [va j (by omega) (by omega) (by omega)], fun a ha => ⟨fun k _ => by rw [c3], fun l _ => by rw [va 84 (by decide) (by decide) (by decide)]⟩, fun j _ => by rw [va 98 (by decide) (by decide) (by decide)]⟩, TB, ⟨c2, c3, c4, c5⟩, vi, va⟩
      · refine ⟨by rw [c4]; exact hf, c7 f (fun z => ?_), by rw [c6]⟩
        obtain ⟨j, j1, j2⟩ := t8
        have kb := (hr.2.2.2.2.2.1 j b j1 j2).1.2
        have kf := (hr.2.2.2.1 i f (by omega) hf).2
        rw [z, kb] at kf
        exact absurd kf (by decide)
      · refine ⟨?_, rfl, by rw [va 87 (by decide) (by decide) (by decide)]⟩
        by_cases z : b' = b
        · rw [z]
          exact TB
        · have nm : mu b' ≠ mu b := fun q => z (hmu.2 b' b t'.2.1 t7 q)
          obtain ⟨j, j1, j2⟩ := t8
          obtain ⟨j', j1', j2'⟩ := t'.2.2.1
          obtain ⟨l1, l2, l3⟩ := hr.2.2.2.2.2.1 j b j1 j2
          obtain ⟨l1', l2', l3'⟩ := hr.2.2.2.2.2.1 j' b' j1' j2'
          have n1 : b' ≠ b + 1 := fun q => by
            have := l2.2
            rw [← q, l1'.2] at this
            exact absurd this (by decide)
          have n2 : b ≠ b' + 1 := fun q => by
            have := l2'.2
            rw [← q, l1.2] at this
            exact absurd this (by decide)
          exact TLV.of (c7 b' z) (d3 _ (by omega) (by omega)) (d3 _ (by omega) (by omega)) (hp' b') (by rw [vi]; exact Int.le_refl _) (by rw [va 86 (by decide) (by decide) (by decide)]) (by rw [va 87 (by decide) (by decide) (by decide)]) (v88' _ nm) (fun i hi => by rw [v89, if_neg (by omega)]) (fun i hi => by rw [v90, if_neg (by omega)]) (by rw [vi]) t'
  exact key _ rfl
end
section
/-! both machines: what is open is closed -/
/-- the ways, an end that is none among them -/
def WYC (s : CS) (r : RS) (mu : Nat → Nat) (AL : Als) (c : List Ent) (h u : Nat) : Prop := (s.i 73 = 1 ∧ r.i 110 = 0) ∨ WYS s r mu AL c h u (s.i 73) (s.i 74) (s.i 75) s.w (r.i 110) (r.i 111) (r.i 112) (r.i 113) (r.i 114)
theorem WYC.h4 {s : CS} {r : RS} {mu : Nat → Nat} {AL : Als} {c : List Ent} {h u : Nat} (w : WYC s r mu AL c h u) : s.i 73 = 4 ↔ r.i 110 = 3 := by
  rcases w with ⟨a, b⟩ | ⟨a, b, -⟩ | ⟨a, b, -⟩ | ⟨a, b, -⟩ | ⟨a, b, -⟩ <;> rw [a, b] <;> decide
theorem WYC.th {s : CS} {r : RS} {mu : Nat → Nat} {AL : Als} {c : List Ent} {h u : Nat} (w : WYC s r mu AL c h u) (e : s.i 73 = 4) : ∃ b : Nat, s.w = some b ∧ (r.i 114).toInt = (mu b : Int) ∧ TLV s r mu b ∧ s.i 75 = 0 := by
  rcases w with ⟨a, b⟩ | ⟨a, b, -⟩ | ⟨a, b, -⟩ | ⟨a, b, -⟩ | ⟨a, b, d, f, g⟩
  · rw [a] at e; exact absurd e (by decide)
  · rw [a] at e; exact absurd e (by decide)
  · rw [a] at e; exact absurd e (by decide)
  · rw [a] at e; exact absurd e (by decide)
  · exact ⟨f, g.1, g.2.1, g.2.2, d⟩
theorem WYC.ex {nm : Nat → Nat → Prop} {s S : CS} {r R : RS} {mu : Nat → Nat} {AL : Als} {c : List Ent} {h u : Nat} (e : EXC nm s S) (g : EXV nm r R) (w : WYC s r mu AL c h u) : WYC S R mu AL c h u := by
  have i73 := e.1 73 (by decide) (by decide) (by decide) (by decide)
  have i74 := e.1 74 (by decide) (by decide) (by decide) (by decide)
  have i75 := e.1 75 (by decide) (by decide) (by decide) (by decide)
  have j110 := g.1 110 (by decide) (by decide) (by decide) (by decide)
  have j111 := g.1 111 (by decide) (by decide) (by decide) (by decide)
  have j112 := g.1 112 (by decide) (by decide) (by decide) (by decide)
  have j113 := g.1 113 (by decide) (by decide) (by decide) (by decide)
  have j114 := g.1 114 (by decide) (by decide) (by decide) (by decide)
  unfold WYC
  rw [i73, i74, i75, e.2.2.1.2.1, j110, j111, j112, j113, j114]
  rcases w with w | w
  · exact Or.inl w
  · exact Or.inr (w.ex e g)
/-- a throw's way -/
theorem WYC.mk4 {s : CS} {r : RS} {mu : Nat → Nat} {AL : Als} {c : List Ent} {h u b : Nat} (e73 : s.i 73 = 4) (e75 : s.i 75 = 0) (e110 : r.i 110 = 3) (ew : s.w = some b) (e114 : (r.i 114).toInt = (mu b : Int)) (t : TLV s r mu b) : WYC s r mu AL c h u := Or.inr (Or.inr (Or.inr (Or.inr ⟨e73, e110, e75, b, ew, e114, t⟩)))
/-- the values; while one is thrown the heights may differ -/
def MVH (s : CS) (r : RS) (h : Nat) : Prop := ((∀ k : Nat, k < h → s.a 60 k = r.a 94 k) ∧ h ≤ 600) ∧ (¬ s.i 73 = 4 → (s.i 65).toInt = (h : Int) ∧ (r.i 93).toInt = (h : Int))
theorem MVS.mvh {s : CS} {r : RS} {h : Nat} (m : MVS s r h) : MVH s r h := ⟨⟨m.2, m.1.2.2⟩, fun _ => ⟨m.1.1, m.1.2.1⟩⟩
theorem MVH.mvs {s : CS} {r : RS} {h : Nat} (m : MVH s r h) (e : ¬ s.i 73 = 4) : MVS s r h := ⟨⟨(m.2 e).1, (m.2 e).2, m.1.2⟩, m.1.1⟩
theorem MVH.of {s S : CS} {r R : RS} {h : Nat} (m : MVH s r h) (e65 : S.i 65 = s.i 65) (e60 : S.a 60 = s.a 60) (e93 : R.i 93 = r.i 93) (e94 : R.a 94 = r.a 94) (e73 : ¬ S.i 73 = 4 → ¬ s.i 73 = 4) : MVH S R h := by
  obtain ⟨m1, m2⟩ := m
  unfold MVH
  rw [e65, e60, e93, e94]
  exact ⟨m1, fun z => m2 (e73 z)⟩
/-- what stands while both close -/
def CLI (nm : Nat → Nat → Prop) (H : Nat) (s : CS) (r : RS) (mu : Nat → Nat) (AL : Als) (h : Nat) (c : List Ent) (n : Int) (u : Nat) : Prop := (REFS s ∧ ROOM H s) ∧ s.i 72 = -1 ∧ (MVH s r h ∧ MTR s r ∧ ∀ k l : Nat, nm k l → s.a 59 k = r.a 84 l) ∧ DY0 s r mu AL c n ∧ (n ≤ 1 ∧ (¬ s.i 73 = 4 → n = 0)) ∧ WYC s r mu AL c h u ∧ TLR s r ∧ (0 ≤ (r.i 95).toInt ∧ (r.i 95).toInt ≤ 320) ∧ ∀ k : Nat, (k : Int) < (r.i 95).toInt → s.a 63 k = r.a 96 k
/-- a way that stays, or a throw -/
def WKP (s S : CS) (r R : RS) : Prop := S.i 73 = 4 ∨ (S.i 73 = s.i 73 ∧ S.i 74 = s.i 74 ∧ S.i 75 = s.i 75 ∧ R.i 110 = r.i 110 ∧ R.i 112 = r.i 112)
theorem WKP.tr {s S T : CS} {r R V : RS} (h : WKP s S r R) (g : WKP S T R V) : WKP s T r V := by
  rcases g with g | ⟨g1, g2, g3, g4, g5⟩
  · exact Or.inl g
  · rcases h with h | ⟨h1, h2, h3, h4, h5⟩
    · exact Or.inl (g1.trans h)
    · exact Or.inr ⟨g1.trans h1, g2.trans h2, g3.trans h3, g4.trans h4, g5.trans h5⟩
/-- one close of the reference -/
theorem clr_step {N n : Nat} {r V : RS} {y : Int32} (hc : ¬ r.i 95 ≤ r.a 103 y.toNatClampNeg) (g : f_X12_closeAll_0 N (n + 1) r y = some V) : ∃ p4 : RS, f_X12_row N (RS.setI r 95 (r.i 95 - 1)) 2 (r.a 96 (r.i 95 - 1).toNatClampNeg) = some p4 ∧ ib (r.a 96 (r.i 95 - 1).toNatClampNeg) 8 ∧ ((r.a 7 (r.a 96 (r.i 95 - 1).toNatClampNeg).toNatClampNeg - 1 < 0 ∧ f_X12_closeAll_0 N n p4 y = some V) ∨ (¬ r.a 7 (r.a 96 (r.i 95 - 1).toNatClampNeg).toNatClampNeg - 1 < 0 ∧ p4.i 110 = 3 ∧ f_X12_closeAll_0 N n (rSup p4 (r.a 7 (r.a 96 (r.i 95 - 1).toNatClampNeg).toNatClampNeg - 1) (r.a 96 (r.i 95 - 1).toNatClampNeg)) y = some V) ∨ (¬ r.a 7 (r.a 96 (r.i 95 - 1).toNatClampNeg).toNatClampNeg - 1 < 0 ∧ ¬ p4.i 110 = 3 ∧ ∃ W : RS, f_X12_raise N p4 (r.a 7 (r.a 96 (r.i 95 - 1).toNatClampNeg).toNatClampNeg - 1) (r.a 96 (r.i 95 - 1).toNatClampNeg) = some W ∧ f_X12_closeAll_0 N n W y = some V)) := by
  have g' : b_X12_closeAll_0 N (f_X12_closeAll_0 N n) r y = some V := g
  unfold b_X12_closeAll_0 at g'
  obtain ⟨-, g1⟩ := hf_ite g'
  rw [if_neg hc] at g1
  obtain ⟨-, g2⟩ := hf_ite g1
  obtain ⟨p4, q4, g3⟩ := hf_bind g2
  obtain ⟨q5, g4⟩ := hf_ite g3
  have e7 : p4.a 7 = r.a 7 := (kx_f_X12_row N _ _ _ p4 q4).2 7 (by decide)
  rw [e7] at g4
  refine ⟨p4, q4, q5, ?_⟩
  by_cases c1 : r.a 7 (r.a 96 (r.i 95 - 1).toNatClampNeg).toNatClampNeg - 1 < 0
  · rw [if_pos c1] at g4
    exact Or.inl ⟨c1, g4⟩
  · rw [if_neg c1] at g4
    by_cases c2 : p4.i 110 = 3
    · rw [if_pos c2] at g4
      obtain ⟨-, g5⟩ := hf_ite g4
      refine Or.inr (Or.inl ⟨c1, c2, ?_⟩)
      unfold rSup
      by_cases c3 : 8 ≤ p4.a 88 (p4.i 114).toNatClampNeg
      · rw [if_pos c3] at g5 ⊢
        exact g5
      · rw [if_neg c3] at g5 ⊢
        exact (hf_ite g5).2
    · rw [if_neg c2] at g4
      obtain ⟨W, w1, w2⟩ := hf_bind g4
      exact Or.inr (Or.inr ⟨c1, c2, W, w1, w2⟩)
/-- one close of the class -/
theorem clc_step {N : Nat} {s : CS} {x : Int32} {R : Unit × CS} (e : f_X3_closeOne N s x = some R) : ∃ P : Unit × CS, f_X3_note N s 2 x = some P ∧ ((¬ 0 ≤ gAt (s.a 12) 8 x ∧ R.2 = P.2) ∨ (0 ≤ gAt (s.a 12) 8 x ∧ P.2.i 73 = 4 ∧ (∀ b : Nat, P.2.w = some b → ∃ Q : Unit × CS, f_X8_suppress N P.2 b (gAt (s.a 12) 8 x) x = some Q ∧ R.2 = Q.2)) ∨ (0 ≤ gAt (s.a 12) 8 x ∧ ¬ P.2.i 73 = 4 ∧ ∃ Q : Unit × CS, f_X3_raise N P.2 (gAt (s.a 12) 8 x) x = some Q ∧ R.2 = Q.2)) := by
  unfold f_X3_closeOne f_X3_closeOne_50 at e
  obtain ⟨P, p1, e1⟩ := hf_bind e
  refine ⟨P, p1, ?_⟩
  by_cases c1 : 0 ≤ gAt (s.a 12) 8 x
  · rw [if_pos c1] at e1
    by_cases c2 : P.2.i 73 = 4
    · rw [if_pos c2] at e1
      refine Or.inr (Or.inl ⟨c1, c2, fun b hb => ?_⟩)
      rw [hb] at e1
      have e2 : (if oK P.2 b 2 then (f_X8_suppress N P.2 b (gAt (s.a 12) 8 x) x).bind fun p18 => some ((), p18.2) else none) = some R := e1
      obtain ⟨Q, q1, q2⟩ := hf_bind (hf_ite e2).2
      exact ⟨Q, q1, by rw [← Option.some.inj q2]⟩
    · rw [if_neg c2] at e1
      obtain ⟨Q, q1, q2⟩ := hf_bind e1
      exact Or.inr (Or.inr ⟨c1, c2, Q, q1, by rw [← Option.some.inj q2]⟩)
  · rw [if_neg c1] at e1
    exact Or.inl ⟨c1, by rw [← Option.some.inj e1]⟩
end
section
/-! both machines: one close, and all of them -/
theorem FEQ.ri {s : CS} {r : RS} {mu : Nat → Nat} {c : List Ent} {m : Int} {k : Nat} {v : Int32} (h : k ≠ 85) (h3 : k ≠ 3) : FEQ s s r (RS.setI r k v) mu mu c m := ⟨fun i f _ q => ⟨q, rfl, rfl⟩, fun b _ t => ⟨TLV.of (r := r) (R := RS.setI r k v) rfl rfl rfl id (by rw [ri_ne (Ne.symm h)]; exact Int.le_refl _) rfl rfl rfl (fun _ _ => rfl) (fun _ _ => rfl) (ri_ne (Ne.symm h3)) t, rfl, rfl⟩, ⟨rfl, rfl, rfl, rfl, rfl⟩, fun _ _ _ _ _ => rfl, fun _ _ => ⟨fun _ _ => rfl, fun _ _ => rfl⟩, fun _ _ => rfl⟩
theorem DY0.of {s S : CS} {r R : RS} {mu nu : Nat → Nat} {AL : Als} {c : List Ent} {n n' : Int} (d : DY0 s r mu AL c n) (f : FEQ s S r R mu nu c (r.i 97).toInt) (e67 : S.i 67 = s.i 67) (e71 : S.i 71 = s.i 71) (e97 : R.i 97 = r.i 97) (e99 : R.i 99 = r.i 99) (e115 : R.i 115 = r.i 115) (e91 : R.a 91 = r.a 91) (m : MUI R nu) (t : 0 ≤ (R.i 85).toInt ∧ (R.i 85).toInt + tps c ≤ 2 * (R.i 80).toInt + n') : DY0 S R nu AL c n' := by
  obtain ⟨d1, ⟨d2, d3⟩, d4, -, -, d7⟩ := d
  refine ⟨by rw [e97]; exact d1.of f, ⟨by rw [e67]; exact d2, by rw [e99]; exact d3⟩, by rw [e71, hS_of e91]; exact d4, t, m, by rw [e115]; exact d7⟩
theorem WYC.of {s S : CS} {r R : RS} {mu nu : Nat → Nat} {AL : Als} {c : List Ent} {h u : Nat} (w : WYC s r mu AL c h u) (e73 : S.i 73 = s.i 73) (e74 : S.i 74 = s.i 74) (e75 : S.i 75 = s.i 75) (ew : S.w = s.w) (j110 : R.i 110 = r.i 110) (j111 : R.i 111 = r.i 111) (j112 : R.i 112 = r.i 112) (j113 : R.i 113 = r.i 113) (j114 : R.i 114 = r.i 114) (e17 : S.a 17 = s.a 17) (e21 : R.a 21 = r.a 21) (e31 : R.a 31 = r.a 31) (e23 : R.a 23 = r.a 23) (hb : ∀ b : Nat, s.w = some b → TLV s r mu b → TLV S R nu b ∧ nu b = mu b) : WYC S R nu AL c h u := by
  unfold WYC
  rw [e73, e74, e75, ew, j110, j111, j112, j113, j114]
  rcases w with w | w
  · exact Or.inl w
  · exact Or.inr (w.of e17 e21 e31 e23 hb)
/-- a row of the trace, in both: all else stays -/
theorem nt_both {N : Nat} {nm : Nat → Nat → Prop} {s : CS} {r V : RS} {x y : Int32} {R : Unit × CS} (m : MTR s r) (e : f_X3_note N s x y = some R) (g : f_X12_row N r x y = some V) : MTR R.2 V ∧ EXC nm s R.2 ∧ EXV nm r V ∧ (R.2.i 65 = s.i 65 ∧ R.2.a 60 = s.a 60 ∧ V.i 93 = r.i 93 ∧ V.a 94 = r.a 94) ∧ (R.2.a 59 = s.a 59 ∧ V.a 84 = r.a 84) ∧ V.i 80 = r.i 80 := by
  obtain ⟨n1, n2, n3, ⟨n4, n5, n6, n7, n8⟩, n9, n10⟩ := m.note e g
  exact ⟨n1, ⟨fun j _ _ h3 _ => n2 j h3, fun k _ _ h3 => n3 k h3, ⟨n4, n5, n6, n7, n8⟩, fun k _ => congrFun (n3 59 (by decide)) k⟩, ⟨fun j _ h2 _ _ => n9 j h2, fun k h1 h2 _ _ => n10 k h1 h2, fun l _ => congrFun (n10 84 (by decide) (by decide)) l, le_80 (n9 80 (by decide))⟩, ⟨n2 65 (by decide), n3 60 (by decide), n9 93 (by decide), n10 94 (by decide) (by decide)⟩, ⟨n3 59 (by decide), n10 84 (by decide) (by decide)⟩, n9 80 (by decide)⟩
theorem cl_one {N H : Nat} (hN : 1000 ≤ N) {nm : Nat → Nat → Prop} {s : CS} {r V : RS} {mu : Nat → Nat} {AL : Als} {h u n' : Nat} {c : List Ent} {n : Int} {y : Int32} {R : Unit × CS} (ck : CTK nm c) (d22 : frs c ≤ 22) (i : CLI nm H s r mu AL h c n u) (h1 : 1 ≤ (r.i 95).toInt) (e : f_X3_closeOne N s (r.a 96 (r.i 95 - 1).toNatClampNeg) = some R) (hc : ¬ r.i 95 ≤ r.a 103 y.toNatClampNeg) (g : f_X12_closeAll_0 N (n' + 1) r y = some V) : ∃ (W : RS) (nu : Nat → Nat) (n1 : Int), CLI nm H R.2 W nu AL h c n1 u ∧ f_X12_closeAll_0 N n' W y = some V ∧ (W.i 95 = r.i 95 - 1 ∧ W.a 103 = r.a 103 ∧ W.i 80 = r.i 80) ∧ WKP s R.2 r W ∧ R.2.r 61 = s.r 61 ∧ ∀ f : Nat, oK s f 1 → oK R.2 f 1 ∧ R.2.o f = s.o f := by
  obtain ⟨⟨i1, i2⟩, i3, ⟨i4, i5, i6⟩, i7, ⟨i8, i9⟩, i10, i11, ⟨i12, i13⟩, i14⟩ := i
  obtain ⟨p4, q4, q5, q6⟩ := clr_step hc g
  obtain ⟨P, p1, p2⟩ := clc_step e
  have e1 : (1 : Int32).toInt = 1 := by decide
  have w95 : (r.i 95 - 1).toInt = (r.i 95).toInt - 1 := by
    rw [toInt_sub] <;> rw [e1] <;> omega
  obtain ⟨x, hx⟩ : ∃ x, x = r.a 96 (r.i 95 - 1).toNatClampNeg := ⟨_, rfl⟩
  rw [← hx] at q4 q5 q6 p1 p2
  obtain ⟨k, hk⟩ : ∃ k : Nat, x.toInt = (k : Int) := ⟨x.toInt.toNat, by have := q5.1; omega⟩
  have k8 : k < 8 := by have := q5.2; omega
  obtain ⟨s1, s2, s3⟩ := i11.1 k k8
  rw [cl_nat hk] at q6
  have ek : gAt (s.a 12) 8 x = s.a 12 k := by
    unfold gAt
    rw [if_pos ⟨by omega, by omega⟩, cl_nat hk]
  have e7 : r.a 7 k - 1 = s.a 12 k := by
    rw [← s3]
    exact Int32.add_sub_cancel _ _
  rw [e7] at q6
  rw [ek] at p2
  -- the rows of the trace
  have m0 : MTR s (RS.setI r 95 (r.i 95 - 1)) := i5.of rfl rfl rfl (ri_ne (by decide)) (ri_ne (by decide)) rfl rfl
  obtain ⟨t1, t2, t3, ⟨t4, t5, t6, t7⟩, ⟨t8, t9⟩, t80⟩ := nt_both (nm := nm) m0 p1 q4
  have pq := ok_at (q_note N s 2 x) p1
  have d0 : DY0 s (RS.setI r 95 (r.i 95 - 1)) mu AL c n := i7.of (FEQ.ri (by decide) (by decide)) rfl rfl (ri_ne (by decide)) (ri_ne (by decide)) (ri_ne (by decide)) rfl (by
    have z := i7.2.2.2.2.1
    unfold MUI at *
    rw [ri_ne (by decide)]
    exact z) (by
    have z := i7.2.2.2.1
    rw [ri_ne (by decide), ri_ne (by decide)]
    exact z)
  have d1 : DY0 P.2 p4 mu AL c n := d0.ex ck t2 t3
  have w0 : WYC s (RS.setI r 95 (r.i 95 - 1)) mu AL c h u := i10.of rfl rfl rfl rfl (ri_ne (by decide)) (ri_ne (by decide)) (ri_ne (by decide)) (ri_ne (by decide)) (ri_ne (by decide)) rfl rfl rfl rfl (fun b _ t => ⟨TLV.of (r := r) (R := RS.setI r 95 (r.i 95 - 1)) rfl rfl rfl id (by rw [ri_ne (by decide)]; exact Int.le_refl _) rfl rfl rfl (fun _ _ => rfl) (fun _ _ => rfl) (ri_ne (by decide)) t, rfl⟩)
  have w1 : WYC P.2 p4 mu AL c h u := w0.ex t2 t3
  have p95 : p4.i 95 = r.i 95 - 1 := (t3.1 95 (by decide) (by decide) (by decide) (by decide)).trans ri_at
  have pa : ∀ k : Nat, k ≠ 82 → k ≠ 83 → k ≠ 84 → k ≠ 94 → p4.a k = r.a k := t3.2.1
  have sa : ∀ k : Nat, k ≠ 59 → k ≠ 60 → k ≠ 64 → P.2.a k = s.a k := t2.2.1
  have si : ∀ j : Nat, j ≠ 65 → j ≠ 66 → j ≠ 69 → j ≠ 70 → P.2.i j = s.i j := t2.1
  have vv : MVH P.2 p4 h := i4.of t4 t5 (t6.trans (ri_ne (by decide))) t7 (fun z q => z ((si 73 (by decide) (by decide) (by decide) (by decide)).trans q))
  have nmm : ∀ k l : Nat, nm k l → P.2.a 59 k = p4.a 84 l := fun k l q => by
    rw [t8, t9]
    exact i6 k l q
  have rsc : TLR P.2 p4 := TLR.ex (nm := nm) (r := RS.setI r 95 (r.i 95 - 1)) t2 t3 (i11.of (fun _ _ => rfl) (fun _ _ => rfl) ⟨fun j hj => ri_ne (by omega), fun _ _ => rfl⟩)
  have op : ∀ k : Nat, (k : Int) < (p4.i 95).toInt → P.2.a 63 k = p4.a 96 k := fun k q => by
    rw [sa 63 (by decide) (by decide) (by decide), pa 96 (by decide) (by decide) (by decide) (by decide)]
    rw [p95, w95] at q
    exact i14 k (by omega)
  have b95 : 0 ≤ (p4.i 95).toInt ∧ (p4.i 95).toInt ≤ 320 := by
    rw [p95, w95]
    omega
  have refsP := pq.1.refs i1
  have roomP := pq.1.room i2
  have j110 : p4.i 110 = r.i 110 := (t3.1 110 (by decide) (by decide) (by decide) (by decide)).trans (ri_ne (by decide))
  have wk1 : WKP s P.2 r p4 := Or.inr ⟨si 73 (by decide) (by decide) (by decide) (by decide), si 74 (by decide) (by decide) (by decide) (by decide), si 75 (by decide) (by decide) (by decide) (by decide), j110, (t3.1 112 (by decide) (by decide) (by decide) (by decide)).trans (ri_ne (by decide))⟩
  have p80 : p4.i 80 = r.i 80 := t80.trans (ri_ne (by decide))
  have c0 : (0 : Int32).toInt = 0 := by decide
  have okP : ∀ f : Nat, oK s f 1 → oK P.2 f 1 ∧ P.2.o f = s.o f := fun f q => ⟨by rw [pq.1.ok1]; exact q, by rw [t2.2.2.1.2.2.1]⟩
  have r61 : P.2.r 61 = s.r 61 := by rw [t2.2.2.1.1]
  have cliP : CLI nm H P.2 p4 mu AL h c n u := ⟨⟨refsP, roomP⟩, (si 72 (by decide) (by decide) (by decide) (by decide)).trans i3, ⟨vv, t1, nmm⟩, d1, ⟨i8, fun q => i9 (fun z => q ((si 73 (by decide) (by decide) (by decide) (by decide)).trans z))⟩, w1, rsc, b95, op⟩
  have st := t1.1.2.2
  have bnd := d1.2.2.2.1
  have d67 := d1.2.1.1
  rcases p2 with ⟨c1, eR⟩ | ⟨c1, c2, f⟩ | ⟨c1, c2, Q, f, eR⟩
  · rcases q6 with ⟨z, g1⟩ | ⟨z, -⟩ | ⟨z, -⟩
    · rw [eR]
      exact ⟨p4, mu, n, cliP, g1, ⟨p95, pa 103 (by decide) (by decide) (by decide) (by decide), p80⟩, wk1, r61, okP⟩
    · exact absurd (Int32.not_lt.mp z) c1
    · exact absurd (Int32.not_lt.mp z) c1
  · rcases q6 with ⟨z, -⟩ | ⟨z, z2, g1⟩ | ⟨z, z2, -⟩
    · exact absurd c1 (Int32.not_le.mpr z)
    · obtain ⟨b, b1, b2, b3, b4⟩ := w1.th c2
      obtain ⟨Q, f1, eR⟩ := f b b1
      obtain ⟨f2, f3, ⟨f4, f5, f6, f7⟩, f8, f9⟩ := sup_both (c := c) (m := (p4.i 97).toInt) refsP d22 d1.2.2.2.2.1 (by omega) b3 b2 f1
      have lbr := ok_at (q_supp refsP roomP b3.2.2.1 (s.a 12 k) x) f1
      rw [eR]
      obtain ⟨W, hW⟩ : ∃ W, W = rSup p4 (s.a 12 k) x := ⟨_, rfl⟩
      rw [← hW] at f2 f3 f8 f9 g1
      refine ⟨W, mu, n, ⟨⟨lbr.1, lbr.2.1⟩, by rw [f4]; exact cliP.2.1, ⟨vv.of (by rw [f4]) (by rw [f5]) (by rw [f8]) (f9 94 (by decide) (by decide) (by decide)) (fun z => by rw [f4] at z; exact z), t1.of (by rw [f4]) (by rw [f4]) (by rw [f5]) (by rw [f8]) (by rw [f8]) (f9 82 (by decide) (by decide) (by decide)) (f9 83 (by decide) (by decide) (by decide)), fun k' l q => ?_⟩, d1.of f2 (by rw [f4]) (by rw [f4]) (by rw [f8]) (by rw [f8]) (by rw [f8]) (f9 91 (by decide) (by decide) (by decide)) ?_ (by rw [f8]; exact bnd), ⟨i8, fun q => ?_⟩, WYC.mk4 (by rw [f4]; exact c2) (by rw [f4]; exact b4) (by rw [f8]; exact z2) (by rw [f7]; exact b1) (by rw [f8]; exact b2) f3, rsc.of (fun j _ => by rw [f4]) (fun k _ => by rw [f5]) ⟨fun j _ => by rw [f8], fun k hk => f9 k (by omega) (by omega) (by omega)⟩, by rw [f8]; exact b95, fun k' q => ?_⟩, g1, ⟨by rw [f8]; exact p95, (f9 103 (by decide) (by decide) (by decide)).trans (pa 103 (by decide) (by decide) (by decide) (by decide)), by rw [f8]; exact p80⟩, Or.inl (by rw [f4]; exact c2), by rw [f6]; exact r61, fun f' q => ?_⟩
      · rw [f5, f9 84 (by decide) (by decide) (by decide)]
        exact nmm k' l q
      · have z := d1.2.2.2.2.1
        unfold MUI at *
        rw [f8]
        exact z
      · exact absurd (by rw [f4]; exact c2) q
      · rw [f8] at q
        rw [f5, f9 96 (by decide) (by decide) (by decide)]
        exact op k' q
      · obtain ⟨y1, y2⟩ := okP f' q
        obtain ⟨y3, y4, -⟩ := lbr.2.2.2.1 f' y1
        exact ⟨y3, y4.trans y2⟩
    · exact absurd (w1.h4.mp c2) z2
  · rcases q6 with ⟨z, -⟩ | ⟨z, z2, -⟩ | ⟨z, z2, W, z3, g1⟩
    · exact absurd c1 (Int32.not_le.mpr z)
    · exact absurd (w1.h4.mpr z2) c2
    · have n0 : n = 0 := cliP.2.2.2.2.1.2 c2
      have kd0 : 0 ≤ (s.a 12 k).toInt := by
        have := le_int c1
        rw [c0] at this
        exact this
      have kd1 : (s.a 12 k).toInt < (p4.i 3).toInt := by
        obtain ⟨z8, z9⟩ := i11.2.2.2.2.2.2 k k8
        have y8 := le_int z8
        have y9 := le_int z9
        have y12 := le_int i11.2.2.2.1.2
        have e12 : (12 : Int32).toInt = 12 := by decide
        have p3 : p4.i 3 = r.i 3 := (t3.1 3 (by decide) (by decide) (by decide) (by decide)).trans (ri_ne (by decide))
        rw [p3]
        rw [← e7, toInt_sub] <;> rw [e1] <;> rw [c0] at y8 <;> omega
      obtain ⟨nu, b, f2, f3, ⟨f4, f5, f6⟩, ⟨f7, ⟨f8, f9⟩, f10, f11⟩, f12, ⟨f13, f14⟩, f15⟩ := ra_both (c := c) (m := (p4.i 97).toInt) hN refsP roomP d67 d22 d1.2.2.2.2.1 bnd.1 (by omega) kd0 kd1 f z3
      have rsd := ok_at (q_raise hN refsP roomP (by unfold dpI; omega) (by unfold dpI; omega) (s.a 12 k) x) f
      have g12 : ∀ j : Nat, j ≠ 85 → j ≠ 110 → j ≠ 114 → W.i j = p4.i j := f12
      rw [eR]
      refine ⟨W, nu, 1, ⟨⟨rsd.1, rsd.2.1⟩, (f7 72 (by decide) (by decide) (by decide)).trans cliP.2.1, ⟨vv.of (f7 65 (by decide) (by decide) (by decide)) (by rw [f10]) (g12 93 (by decide) (by decide) (by decide)) (f15 94 (by decide) (by decide) (by decide)) (fun z => absurd f8 z), t1.of (f7 69 (by decide) (by decide) (by decide)) (f7 70 (by decide) (by decide) (by decide)) (by rw [f10]) (g12 80 (by decide) (by decide) (by decide)) (g12 81 (by decide) (by decide) (by decide)) (f15 82 (by decide) (by decide) (by decide)) (f15 83 (by decide) (by decide) (by decide)), fun k' l q => ?_⟩, d1.of f2 (f7 67 (by decide) (by decide) (by decide)) (f7 71 (by decide) (by decide) (by decide)) (g12 97 (by decide) (by decide) (by decide)) (g12 99 (by decide) (by decide) (by decide)) (g12 115 (by decide) (by decide) (by decide)) (f15 91 (by decide) (by decide) (by decide)) f3 ?_, ⟨by decide, fun q => absurd f8 q⟩, WYC.mk4 f8 f9 f13 f4 f5 f6, rsc.of (fun j hj => f7 j (by omega) (by omega) (by omega)) (fun k _ => by rw [f10]) ⟨fun j hj => g12 j (by omega) (by omega) (by omega), fun k hk => f15 k (by omega) (by omega) (by omega)⟩, ?_, fun k' q => ?_⟩, g1, ⟨(g12 95 (by decide) (by decide) (by decide)).trans p95, (f15 103 (by decide) (by decide) (by decide)).trans (pa 103 (by decide) (by decide) (by decide) (by decide)), (g12 80 (by decide) (by decide) (by decide)).trans p80⟩, Or.inl f8, by rw [f11]; exact r61, fun f' q => ?_⟩
      · rw [f10, f15 84 (by decide) (by decide) (by decide)]
        exact nmm k' l q
      · rw [g12 80 (by decide) (by decide) (by decide)]
        omega
      · rw [g12 95 (by decide) (by decide) (by decide)]
        exact b95
      · rw [g12 95 (by decide) (by decide) (by decide)] at q
        rw [f10, f15 96 (by decide) (by decide) (by decide)]
        exact op k' q
      · obtain ⟨y1, y2⟩ := okP f' q
        obtain ⟨y3, y4, -⟩ := rsd.2.2.2.2.2.2.2.2.2 f' y1
        exact ⟨y3, y4.trans y2⟩
end
section
/-! both machines: all that a body opened is closed -/
noncomputable def cFb (s : CS) (f : Nat) : CS := CS.setO (CS.setI s 68 (s.o f 3)) f 0 2
noncomputable def cFt (s : CS) (f b : Nat) : CS := CS.setOt (cFb s f) f (some b)
noncomputable def cBg (s : CS) (f : Nat) (t : Int32) : CS := CS.setI (CS.setI (CS.setI s 65 (s.o f 2)) 66 (gAt (s.a 17) 1024 t)) 73 0
theorem cl_all {N H : Nat} (hN : 1000 ≤ N) {nm : Nat → Nat → Prop} {AL : Als} {h u f : Nat} {c : List Ent} {y : Int32} (ck : CTK nm c) (d22 : frs c ≤ 22) : ∀ (n' n : Nat) (s : CS) (r : RS) (mu : Nat → Nat) (n0 : Int) (x2 : Int32) (R : Unit × CS) (V : RS), CLI nm H s r mu AL h c n0 u → x2.toInt = (r.i 95).toInt - 1 → oK s f 1 → s.o f 3 = r.a 103 y.toNatClampNeg → 0 ≤ (s.o f 3).toInt → (s.o f 3).toInt ≤ (r.i 95).toInt → f_X3_leaveBody_7 N n s f x2 = some R → f_X12_closeAll_0 N n' r y = some V → ∃ (S : CS) (nu : Nat → Nat) (n1 : Int), CLI nm H S V nu AL h c n1 u ∧ V.i 95 = s.o f 3 ∧ (¬ S.i 73 = 4 → R.2 = cFb S f) ∧ (∀ b : Nat, S.i 73 = 4 → S.w = some b → R.2 = cBg (cFt S f b) f ((cFt S f b).o f 1)) ∧ WKP s S r V ∧ S.r 61 = s.r 61 ∧ (oK S f 1 ∧ S.o f = s.o f) ∧ V.a 103 = r.a 103 ∧ V.i 80 = r.i 80 := by
  intro n'
  induction n' with
  | zero =>
    intro _ _ _ _ _ _ _ _ _ _ _ _ _ _ _ g
    cases g
  | succ n' ih =>
    intro n s r mu n0 x2 R V i hx ho h3 h4 h5 e g
    cases n with
    | zero => cases e
    | succ n =>
      have e' : b_X3_leaveBody_7 N (f_X3_leaveBody_7 N n) s f x2 = some R := e
      unfold b_X3_leaveBody_7 at e'
      obtain ⟨-, e2⟩ := hf_ite e'
      have em : ((-1 : Int32)).toInt = -1 := by decide
      by_cases cc : r.i 95 ≤ r.a 103 y.toNatClampNeg
      · have lc := le_int cc
        rw [← h3] at lc
        rw [if_pos (by rw [Int32.lt_iff_toInt_lt]; omega)] at e2
        have g' : b_X12_closeAll_0 N (f_X12_closeAll_0 N n') r y = some V := g
        unfold b_X12_closeAll_0 at g'
        obtain ⟨-, g2⟩ := hf_ite g'
        rw [if_pos cc] at g2
        rw [← Option.some.inj g2]
        refine ⟨s, mu, n0, i, ?_, fun z => ?_, fun b z hb => ?_, Or.inr ⟨rfl, rfl, rfl, rfl, rfl⟩, rfl, ⟨ho, rfl⟩, rfl, rfl⟩
        · exact Int32.toInt_inj.mp (by omega)
        · rw [if_neg z] at e2
          rw [← Option.some.inj e2]
          rfl
        · rw [if_pos z] at e2
          have hb' : CS.w (CS.setO (CS.setI s 68 (CS.o s f 3)) f 0 2) = some b := by
            rw [cw_setO, cw_setI]
            exact hb
          rw [hb'] at e2
          obtain ⟨Y, hY⟩ : ∃ Y, Y = CS.setOt (CS.setO (CS.setI s 68 (CS.o s f 3)) f 0 2) f (some b) := ⟨_, rfl⟩
          have e3 : ((f_X3_begin N Y f (Y.o f 1)).bind fun p10 => some ((), p10.2)) = some R := by
            rw [hY]
            exact e2
          have eY : cFt s f b = Y := hY.symm
          rw [eY]
          clear hY eY hb' e2
          obtain ⟨B, b1, b2⟩ := hf_bind e3
          unfold f_X3_begin at b1
          have b3 := Option.some.inj (hf_ite b1).2
          have b4 := Option.some.inj b2
          rw [← b4, ← b3]
          unfold cBg
          rw [ca_setI]
      · have lc := lt_int (Int32.not_le.mp cc)
        rw [← h3] at lc
        rw [if_neg (by rw [Int32.lt_iff_toInt_lt]; omega)] at e2
        obtain ⟨P, p1, p2⟩ := hf_bind e2
        obtain ⟨-, -, -, -, -, -, -, ⟨i12, i13⟩, i14⟩ := id i
        obtain ⟨k, hk⟩ : ∃ k : Nat, x2.toInt = (k : Int) := ⟨x2.toInt.toNat, by omega⟩
        have e1 : (1 : Int32).toInt = 1 := by decide
        have w95 : (r.i 95 - 1).toInt = (r.i 95).toInt - 1 := by
          rw [toInt_sub] <;> rw [e1] <;> omega
        have w95' : (r.i 95 - 1).toInt = (k : Int) := by omega
        have ex : gAt (s.a 63) 320 x2 = r.a 96 (r.i 95 - 1).toNatClampNeg := by
          unfold gAt
          rw [if_pos ⟨by omega, by omega⟩, cl_nat hk, cl_nat w95']
          exact i14 k (by omega)
        rw [ex] at p1
        obtain ⟨W, nu, n1, q1, q2, ⟨q3, q4, q80⟩, q5, q6, q7⟩ := cl_one hN ck d22 i (by omega) p1 cc g
        obtain ⟨o1, o2⟩ := q7 f ho
        have hx' : (x2 + -1).toInt = (W.i 95).toInt - 1 := by
          rw [q3, w95, toInt_add] <;> rw [em] <;> omega
        obtain ⟨S, nu2, n2, z1, z2, z3, z4, z5, z6, ⟨z7, z8⟩, z9, z80⟩ := ih n P.2 W nu n1 (x2 + -1) R V q1 hx' o1 (by rw [o2, q4]; exact h3) (by rw [o2]; exact h4) (by rw [o2, q3, w95]; omega) p2 q2
        exact ⟨S, nu2, n2, z1, by rw [z2, o2], z3, z4, q5.tr z5, z6.trans q6, ⟨z7, z8.trans o2⟩, z9.trans q4, z80.trans q80⟩
end
section
/-! the class's machine: frames looked at, rows of a try, what is thrown again, what goes on -/
theorem e_frm {N : Nat} {s : CS} {x : Int32} {d f : Nat} (hx : x.toInt = (d : Int)) (h1 : (d : Int) < (s.i 67).toInt) (h24 : d < 24) (hf : s.r 61 d = some f) : f_X3_frame N s x = some (some f, s) := by
  unfold f_X3_frame
  have e24 : (24 : Int32).toInt = 24 := by decide
  rw [if_neg (by rw [Int32.lt_iff_toInt_lt, z_t0]; omega), if_neg (by rw [Int32.le_iff_toInt_le]; omega), if_neg (by rw [Int32.le_iff_toInt_le, e24]; omega), if_pos (show ib x 24 from ⟨by omega, by omega⟩), cl_nat hx, hf]
  rfl
theorem e_frT {N : Nat} {s : CS} {d f : Nat} (hx : (s.i 67).toInt = (d : Int) + 1) (h24 : d < 24) (hf : s.r 61 d = some f) : f_X3_frame N s (s.i 67 - 1) = some (some f, s) := e_frm (sub_n1 hx) (by omega) h24 hf
theorem e_frE {N : Nat} {s : CS} (hx : (s.i 67).toInt = 0) : f_X3_frame N s (s.i 67 - 1) = some (none, s) := by
  unfold f_X3_frame f_X3_frame_30
  have e1 : (1 : Int32).toInt = 1 := by decide
  have z : (s.i 67 - 1).toInt = -1 := by
    rw [toInt_sub] <;> rw [e1] <;> omega
  rw [if_pos (by rw [Int32.lt_iff_toInt_lt, z_t0]; omega)]
/-- the frame on top, behind an instruction's first step -/
theorem fr_nx {s : CS} {d f : Nat} (hx : (s.i 67).toInt = (d : Int) + 1) (hf : s.r 61 d = some f) : ((cNx s).i 67).toInt = (d : Int) + 1 ∧ (cNx s).r 61 d = some f := ⟨by rw [cNx_i (by decide)]; exact hx, hf⟩
theorem xi_hnd {N : Nat} {s : CS} {R : Unit × CS} {d f : Nat} (ho : cOp s = 56 ∨ cOp s = 57 ∨ cOp s = 58) (hx : (s.i 67).toInt = (d : Int) + 1) (h24 : d < 24) (hf : s.r 61 d = some f) (e : f_X3_instruction N s = some R) : ∃ Q : Unit × CS, f_X3_handle N (cNx s) (cOp s) (cAr s) (some f) = some Q ∧ R.2 = Q.2 := by
  have z := xi_tur (by rcases ho with h | h | h <;> rw [h] <;> decide) (by rcases ho with h | h | h <;> rw [h] <;> decide) (by rcases ho with h | h | h <;> rw [h] <;> decide) (by rcases ho with h | h | h <;> rw [h] <;> decide) e
  unfold f_X3_turn at z
  obtain ⟨q1, q2⟩ := fr_nx hx hf
  rw [if_neg (by rcases ho with h | h | h <;> rw [h] <;> decide), if_neg (by rcases ho with h | h | h <;> rw [h] <;> decide), if_neg (by rcases ho with h | h | h <;> rw [h] <;> decide), if_neg (by rcases ho with h | h | h <;> rw [h] <;> decide), if_neg (by rcases ho with h | h | h <;> rw [h] <;> decide), if_neg (by rcases ho with h | h | h <;> rw [h] <;> decide), e_frT q1 h24 q2, ob_some] at z
  have z2 : ((f_X3_handle N (cNx s) (cOp s) (cAr s) (some f)).bind fun p73 => some ((), p73.2)) = some R := z
  obtain ⟨Q, w1, w2⟩ := hf_bind z2
  exact ⟨Q, w1, by rw [← Option.some.inj w2]⟩
/-- MATCH -/
theorem xi_56 {N : Nat} (hN : 1000 ≤ N) {s : CS} {R : Unit × CS} {d f b : Nat} (h : cOp s = 56) (hx : (s.i 67).toInt = (d : Int) + 1) (h24 : d < 24) (hf : s.r 61 d = some f) (hb : s.ot f = some b) (e : f_X3_instruction N s = some R) : ∃ v : Int32, f_X10_isUnder N (cNx s) (s.o b 2) (cAr s - cAr s / 16 * 16) = some (v, cNx s) ∧ R.2 = if v = 0 then cNx s else CS.setI (cNx s) 66 (cTg s (cAr s / 16)) := by
  obtain ⟨Q, q1, q2⟩ := xi_hnd (Or.inl h) hx h24 hf e
  rw [h] at q1
  unfold f_X3_handle at q1
  have q3 := (hf_ite (show (if oK (cNx s) f 1 then oCase (CS.ot (cNx s) f) (some ((), cNx s)) (fun a5 => (if (56 : Int32) = 58 then (f_X3_throwAgain N (cNx s) (some f)).bind fun p22 => some ((), p22.2) else (if (56 : Int32) = 57 then oCase (CS.ot (cNx s) f) (none) (fun a20 => if oK (cNx s) a20 2 then some ((), CS.putA (cNx s) 59 (gPut ((cNx s).a 59) 720 (cAr s) (CS.o (cNx s) a20 3))) else none) else oCase (CS.ot (cNx s) f) (none) (fun a9 => if oK (cNx s) a9 2 then (f_X10_isUnder N (cNx s) (CS.o (cNx s) a9 2) (cAr s - cAr s / 16 * 16)).bind fun p11 => (f_X3_goIf N p11.2 p11.1 (cAr s / 16)).bind fun p15 => some ((), p15.2) else none)))) else none) = some Q from q1)).2
  have ot : CS.ot (cNx s) f = some b := hb
  rw [ot] at q3
  have q4 : (if oK (cNx s) b 2 then (f_X10_isUnder N (cNx s) (CS.o (cNx s) b 2) (cAr s - cAr s / 16 * 16)).bind fun p11 => (f_X3_goIf N p11.2 p11.1 (cAr s / 16)).bind fun p15 => some ((), p15.2) else none) = some Q := q3
  obtain ⟨I, i1, i2⟩ := hf_bind (hf_ite q4).2
  obtain ⟨j1, j2⟩ := ok_at (q_isUnder hN) i1
  obtain ⟨G, g1, g2⟩ := hf_bind i2
  have eI : I = (I.1, cNx s) := by rw [← j1]
  refine ⟨I.1, by rw [← eI]; exact i1, ?_⟩
  rw [q2, ← Option.some.inj g2]
  unfold f_X3_goIf at g1
  rw [j1] at g1
  by_cases c : I.1 = 0
  · rw [if_pos c] at g1 ⊢
    rw [← Option.some.inj g1]
  · rw [if_neg c] at g1 ⊢
    rw [← Option.some.inj g1]
    rfl
/-- CAUGHT -/
theorem xi_57 {N : Nat} {s : CS} {R : Unit × CS} {d f b : Nat} (h : cOp s = 57) (hx : (s.i 67).toInt = (d : Int) + 1) (h24 : d < 24) (hf : s.r 61 d = some f) (hb : s.ot f = some b) (e : f_X3_instruction N s = some R) : R.2 = CS.putA (cNx s) 59 (gPut (s.a 59) 720 (cAr s) (s.o b 3)) := by
  obtain ⟨Q, q1, q2⟩ := xi_hnd (Or.inr (Or.inl h)) hx h24 hf e
  rw [h] at q1
  unfold f_X3_handle at q1
  have q3 := (hf_ite (show (if oK (cNx s) f 1 then oCase (CS.ot (cNx s) f) (some ((), cNx s)) (fun a5 => (if (57 : Int32) = 58 then (f_X3_throwAgain N (cNx s) (some f)).bind fun p22 => some ((), p22.2) else (if (57 : Int32) = 57 then oCase (CS.ot (cNx s) f) (none) (fun a20 => if oK (cNx s) a20 2 then some ((), CS.putA (cNx s) 59 (gPut ((cNx s).a 59) 720 (cAr s) (CS.o (cNx s) a20 3))) else none) else oCase (CS.ot (cNx s) f) (none) (fun a9 => if oK (cNx s) a9 2 then (f_X10_isUnder N (cNx s) (CS.o (cNx s) a9 2) (cAr s - cAr s / 16 * 16)).bind fun p11 => (f_X3_goIf N p11.2 p11.1 (cAr s / 16)).bind fun p15 => some ((), p15.2) else none)))) else none) = some Q from q1)).2
  have ot : CS.ot (cNx s) f = some b := hb
  rw [ot] at q3
  have q4 : (if oK (cNx s) b 2 then some ((), CS.putA (cNx s) 59 (gPut ((cNx s).a 59) 720 (cAr s) (CS.o (cNx s) b 3))) else none) = some Q := q3
  rw [q2, ← Option.some.inj (hf_ite q4).2]
  rfl
/-- thrown again -/
noncomputable def cAg (s : CS) (b : Nat) : CS := CS.setI (CS.setI (CS.setI (CS.setW s (some b)) 73 4) 74 0) 75 0
theorem ag_c {N : Nat} {s : CS} {R : Unit × CS} {f b : Nat} (hb : s.ot f = some b) (e : f_X3_throwAgain N s (some f) = some R) : R.2 = cAg s b := by
  unfold f_X3_throwAgain at e
  have e1 := (hf_ite (show (if oK s f 1 then oCase (CS.ot s f) ((f_X3_go N (CS.setW s none) 4 0 0).bind fun p6 => some ((), p6.2)) (fun a5 => (f_X3_go N (CS.setW s (some a5)) 4 0 0).bind fun p10 => some ((), p10.2)) else none) = some R from e)).2
  rw [hb] at e1
  have e2 : ((f_X3_go N (CS.setW s (some b)) 4 0 0).bind fun p10 => some ((), p10.2)) = some R := e1
  unfold f_X3_go at e2
  rw [ob_some] at e2
  rw [← Option.some.inj e2]
  rfl
/-- UNCAUGHT -/
theorem xi_58 {N : Nat} {s : CS} {R : Unit × CS} {d f b : Nat} (h : cOp s = 58) (hx : (s.i 67).toInt = (d : Int) + 1) (h24 : d < 24) (hf : s.r 61 d = some f) (hb : s.ot f = some b) (e : f_X3_instruction N s = some R) : R.2 = cAg (cNx s) b := by
  obtain ⟨Q, q1, q2⟩ := xi_hnd (Or.inr (Or.inr h)) hx h24 hf e
  rw [h] at q1
  unfold f_X3_handle at q1
  have q3 := (hf_ite (show (if oK (cNx s) f 1 then oCase (CS.ot (cNx s) f) (some ((), cNx s)) (fun a5 => (if (58 : Int32) = 58 then (f_X3_throwAgain N (cNx s) (some f)).bind fun p22 => some ((), p22.2) else (if (58 : Int32) = 57 then oCase (CS.ot (cNx s) f) (none) (fun a20 => if oK (cNx s) a20 2 then some ((), CS.putA (cNx s) 59 (gPut ((cNx s).a 59) 720 (cAr s) (CS.o (cNx s) a20 3))) else none) else oCase (CS.ot (cNx s) f) (none) (fun a9 => if oK (cNx s) a9 2 then (f_X10_isUnder N (cNx s) (CS.o (cNx s) a9 2) (cAr s - cAr s / 16 * 16)).bind fun p11 => (f_X3_goIf N p11.2 p11.1 (cAr s / 16)).bind fun p15 => some ((), p15.2) else none)))) else none) = some Q from q1)).2
  have ot : CS.ot (cNx s) f = some b := hb
  rw [ot] at q3
  have q4 : ((f_X3_throwAgain N (cNx s) (some f)).bind fun p22 => some ((), p22.2)) = some Q := q3
  obtain ⟨A, a1, a2⟩ := hf_bind q4
  rw [q2, ← Option.some.inj a2]
  exact ag_c (s := cNx s) hb a1
/-- RETHROW -/
theorem xi_64 {N : Nat} {s : CS} {R : Unit × CS} {d f b : Nat} (h : cOp s = 64) (hx : (cAr s).toInt = (d : Int)) (h1 : (d : Int) < (s.i 67).toInt) (h24 : d < 24) (hf : s.r 61 d = some f) (hb : s.ot f = some b) (e : f_X3_instruction N s = some R) : R.2 = cAg (cNx s) b := by
  have z := xi_tur (by rw [h]; decide) (by rw [h]; decide) (by rw [h]; decide) (by rw [h]; decide) e
  rw [h] at z
  unfold f_X3_turn at z
  have f1 : (d : Int) < ((cNx s).i 67).toInt := by
    rw [cNx_i (by decide)]
    exact h1
  have fe : f_X3_frame N (cNx s) (cAr s) = some (some f, cNx s) := e_frm hx f1 h24 hf
  rw [if_neg (by decide), if_neg (by decide), if_neg (by decide), if_neg (by decide), if_neg (by decide), if_pos rfl, fe, ob_some] at z
  have z2 : ((f_X3_throwAgain N (cNx s) (some f)).bind fun p59 => some ((), p59.2)) = some R := z
  obtain ⟨A, a1, a2⟩ := hf_bind z2
  rw [← Option.some.inj a2]
  exact ag_c (s := cNx s) hb a1
/-- RESUME -/
noncomputable def cRs (s : CS) (f : Nat) : CS := CS.setI (CS.setI (CS.setI (CS.setW (CS.setI s 67 (s.i 67 - 1)) (s.ot f)) 73 (s.o f 5)) 74 (s.o f 6)) 75 (s.o f 7)
theorem xi_59 {N : Nat} {s : CS} {R : Unit × CS} {d f : Nat} (h : cOp s = 59) (hx : (s.i 67).toInt = (d : Int) + 1) (h24 : d < 24) (hf : s.r 61 d = some f) (e : f_X3_instruction N s = some R) : R.2 = cRs (cNx s) f := by
  have z := xi_tur (by rw [h]; decide) (by rw [h]; decide) (by rw [h]; decide) (by rw [h]; decide) e
  rw [h] at z
  unfold f_X3_turn at z
  obtain ⟨q1, q2⟩ := fr_nx hx hf
  rw [if_pos rfl, e_frT q1 h24 q2, ob_some] at z
  have z2 : ((f_X3_resume N (cNx s) (some f)).bind fun p12 => some ((), p12.2)) = some R := z
  obtain ⟨A, a1, a2⟩ := hf_bind z2
  rw [← Option.some.inj a2]
  unfold f_X3_resume at a1
  obtain ⟨S, hS⟩ : ∃ S, S = cNx s := ⟨_, rfl⟩
  rw [← hS] at a1 ⊢
  have a3 := (hf_ite (show (if oK S f 1 then oCase (CS.ot (CS.setI S 67 ((S.i 67) - 1)) f) ((f_X3_go N (CS.setW (CS.setI S 67 ((S.i 67) - 1)) none) (CS.o (CS.setW (CS.setI S 67 ((S.i 67) - 1)) none) f 5) (CS.o (CS.setW (CS.setI S 67 ((S.i 67) - 1)) none) f 6) (CS.o (CS.setW (CS.setI S 67 ((S.i 67) - 1)) none) f 7)).bind fun p6 => some ((), p6.2)) (fun a5 => (f_X3_go N (CS.setW (CS.setI S 67 ((S.i 67) - 1)) (some a5)) (CS.o (CS.setW (CS.setI S 67 ((S.i 67) - 1)) (some a5)) f 5) (CS.o (CS.setW (CS.setI S 67 ((S.i 67) - 1)) (some a5)) f 6) (CS.o (CS.setW (CS.setI S 67 ((S.i 67) - 1)) (some a5)) f 7)).bind fun p10 => some ((), p10.2)) else none) = some A from a1)).2
  unfold cRs
  rw [cot_setI] at a3
  cases ho : S.ot f with
  | none =>
    rw [ho] at a3
    have a4 : ((f_X3_go N (CS.setW (CS.setI S 67 ((S.i 67) - 1)) none) (CS.o (CS.setW (CS.setI S 67 ((S.i 67) - 1)) none) f 5) (CS.o (CS.setW (CS.setI S 67 ((S.i 67) - 1)) none) f 6) (CS.o (CS.setW (CS.setI S 67 ((S.i 67) - 1)) none) f 7)).bind fun p6 => some ((), p6.2)) = some A := a3
    rw [co_setW, co_setI] at a4
    unfold f_X3_go at a4
    rw [ob_some] at a4
    rw [← Option.some.inj a4]
  | some b =>
    rw [ho] at a3
    have a4 : ((f_X3_go N (CS.setW (CS.setI S 67 ((S.i 67) - 1)) (some b)) (CS.o (CS.setW (CS.setI S 67 ((S.i 67) - 1)) (some b)) f 5) (CS.o (CS.setW (CS.setI S 67 ((S.i 67) - 1)) (some b)) f 6) (CS.o (CS.setW (CS.setI S 67 ((S.i 67) - 1)) (some b)) f 7)).bind fun p10 => some ((), p10.2)) = some A := a3
    rw [co_setW, co_setI] at a4
    unfold f_X3_go at a4
    rw [ob_some] at a4
    rw [← Option.some.inj a4]
end
section
/-! both machines: the rows of a try -/
/-- the class's rows from there on, the reference's from that catch on -/
def HRW (s : CS) (r : RS) (AL : Als) (e : Ent) (c : List Ent) (W : Nat) : Nat → Nat → Int32 → Prop
  | 0, _, _ => False
  | n + 1, p, k => p < 1200 ∧ ((s.a 15 p = 58 ∧ k.toInt < 0)
    ∨ (s.a 15 p = 56 ∧ ∃ j pb qb z l w : Nat, k.toInt = (j : Int) ∧ s.a 16 p - s.a 16 p / 16 * 16 = r.a 34 j ∧ ((cTg s (s.a 16 p / 16)).toInt = (pb : Int) ∧ pb < 1199) ∧ (s.a 15 pb = 57 ∧ (s.a 16 pb).toInt = (z : Int) ∧ z < 720) ∧ ((r.a 35 j).toInt = (qb : Int) ∧ (r.a 36 j).toInt = (l : Int)) ∧ (AL (pb + 1) qb e.h w 0 ((2, e.h, e.x, e.y, z, l, e.u) :: c) ∧ w ≤ W) ∧ HRW s r AL e c W n (p + 1) (r.a 37 j))
    ∨ (s.a 15 p = 30 ∧ ∃ p' : Nat, (cTg s (s.a 16 p)).toInt = (p' : Int) ∧ HRW s r AL e c W n p' k))
theorem HRW.cg {s S : CS} {r R : RS} {AL : Als} {e : Ent} {c : List Ent} {W : Nat} (e15 : S.a 15 = s.a 15) (e16 : S.a 16 = s.a 16) (e17 : S.a 17 = s.a 17) (g34 : R.a 34 = r.a 34) (g35 : R.a 35 = r.a 35) (g36 : R.a 36 = r.a 36) (g37 : R.a 37 = r.a 37) : ∀ (n p : Nat) (k : Int32), HRW S R AL e c W n p k = HRW s r AL e c W n p k := by
  intro n
  induction n with
  | zero => intro _ _; rfl
  | succ n ih =>
    intro p k
    unfold HRW
    have ec : cTg S = cTg s := by
      funext t
      unfold cTg
      rw [e17]
    rw [e15, e16, ec, g34, g35, g36, g37]
    simp only [ih]
def HBD (s : CS) (r : RS) (AL : Als) (e : Ent) (c : List Ent) (W : Nat) : Prop := ∃ n p : Nat, n ≤ 300 ∧ (∀ a : Int32, a.toInt = (e.x : Int) → (cTg s a).toInt = (p : Int)) ∧ HRW s r AL e c W n p (r.a 30 e.y)
def HFN (s : CS) (r : RS) (AL : Als) (e : Ent) (c : List Ent) (W : Nat) : Prop := ((r.a 31 e.y).toInt < 0 ∧ ∀ a : Int32, a.toInt = (e.x : Int) → (cTg s (a + 1)).toInt < 0) ∨ ∃ p q w : Nat, (r.a 31 e.y).toInt = (q : Int) ∧ (∀ a : Int32, a.toInt = (e.x : Int) → (cTg s (a + 1)).toInt = (p : Int)) ∧ p < 1200 ∧ AL p q e.h w 0 ((3, e.h, e.x, e.y, 0, 0, e.u) :: c) ∧ w ≤ W
/-- what was noted too late: all is good then -/
def LTGD (r : RS) (AL : Als) : Prop := 0 ≤ r.i 18 → ∀ (p q h w g : Nat) (c : List Ent), g ≤ 1 → AL p q h w g c
def TYC (s : CS) (r : RS) (AL : Als) (W : Nat) : List Ent → Prop
  | [] => LTGD r AL ∧ 1300 ≤ W
  | e :: c => (e.k = 1 → HBD s r AL e c W) ∧ (e.k = 1 ∨ e.k = 2 → HFN s r AL e c W) ∧ TYC s r AL W c
def E66 (s S : CS) : Prop := (∀ j : Nat, j ≠ 66 → S.i j = s.i j) ∧ S.a = s.a ∧ (S.r = s.r ∧ S.w = s.w ∧ S.o = s.o ∧ S.ot = s.ot ∧ S.oa = s.oa)
theorem E66.rf (s : CS) : E66 s s := ⟨fun _ _ => rfl, rfl, rfl, rfl, rfl, rfl, rfl⟩
theorem E66.tr {s S T : CS} (h : E66 s S) (g : E66 S T) : E66 s T := by
  obtain ⟨h1, h2, h3, h4, h5, h6, h7⟩ := h
  obtain ⟨g1, g2, g3, g4, g5, g6, g7⟩ := g
  exact ⟨fun j hj => (g1 j hj).trans (h1 j hj), g2.trans h2, g3.trans h3, g4.trans h4, g5.trans h5, g6.trans h6, g7.trans h7⟩
theorem E66.nx (s : CS) : E66 s (cNx s) := ⟨fun j hj => cNx_i hj, rfl, rfl, rfl, rfl, rfl, rfl⟩
theorem E66.to (s : CS) (x : Int32) : E66 s (CS.setI s 66 x) := ⟨fun j hj => ci_ne _ _ _ hj, rfl, rfl, rfl, rfl, rfl, rfl⟩
theorem TLV.e66 {s S : CS} {r : RS} {mu : Nat → Nat} {b : Nat} (e : E66 s S) (t : TLV s r mu b) : TLV S r mu b := by
  obtain ⟨-, -, h3, h4, h5, h6, h7⟩ := e
  unfold TLV THG inP at *
  rw [h3, h5, h7]
  exact t
theorem TLR.e66 {s S : CS} {r : RS} (e : E66 s S) (t : TLR s r) : TLR S r := t.of (fun j hj => e.1 j (by omega)) (fun k _ => by rw [e.2.1]) (RFX.rf r)
theorem cop_at {s : CS} {p : Nat} (h : (s.i 66).toInt = (p : Int)) (hp : p < 1200) : cOp s = s.a 15 p ∧ cAr s = s.a 16 p := by
  unfold cOp cAr gAt
  rw [if_pos ⟨by omega, by omega⟩, if_pos ⟨by omega, by omega⟩, cl_nat h]
  exact ⟨rfl, rfl⟩
theorem iu_both {N : Nat} (hN : 1000 ≤ N) {s : CS} {r : RS} (h : TLR s r) {k y : Int32} (h0 : 0 ≤ k.toInt) (h1 : k.toInt < (r.i 3).toInt) : ∃ v : Int32, f_X10_isUnder N s k y = some (v, s) ∧ f_X12_isUnder N r k y = some (v, r) := by
  have e12 : (12 : Int32).toInt = 12 := by decide
  have y12 := le_int h.2.2.2.1.2
  obtain ⟨v, -, v1, v2⟩ := t_und (N := N) h.2.2 h.2.1 (b := y) N N k 0 h0 h1 (by decide) (by rw [z_t0]; omega) (by omega) (by omega)
  exact ⟨v, v1, v2⟩
theorem cNx_66 {s : CS} {p : Nat} (h : (s.i 66).toInt = (p : Int)) (hp : p < 2000) : ((cNx s).i 66).toInt = ((p + 1 : Nat) : Int) := by
  unfold cNx
  rw [ci_at, ad1 (by omega) (by omega), h]
  rfl
/-- what comes of the rows -/
def HRO (N H : Nat) (D : Nat → List Nat) (T : Int32 × CS) (s0 : CS) (AL : Als) (e : Ent) (c : List Ent) (W : Nat) (s : CS) (r : RS) (b : Nat) (y : Int32) (P : Int32 × RS) (x : Int32) (n : Nat) : Prop := ∃ (S : CS) (x' : Int32), CRN N H D T s0 S x' ∧ x'.toInt ≤ x.toInt + n + 1 ∧ S.i 72 = -1 ∧ ((P.1 = 0 ∧ P.2 = r ∧ ∃ S1 : CS, E66 s S1 ∧ S = cAg S1 b) ∨ (¬ P.1 = 0 ∧ ∃ pb qb z l w j : Nat, (AL (pb + 1) qb e.h w 0 ((2, e.h, e.x, e.y, z, l, e.u) :: c) ∧ w ≤ W) ∧ (z < 720 ∧ (r.a 35 j).toInt = (qb : Int)) ∧ P.2 = RS.setI (RS.setI (RS.setA (RS.setA r 84 l (r.i 114)) 102 y.toNatClampNeg 1) 93 (r.a 104 y.toNatClampNeg)) 92 (r.a 35 j) ∧ ∃ S1 : CS, E66 s S1 ∧ (S1.i 66).toInt = ((pb + 1 : Nat) : Int) ∧ S = CS.putA S1 59 (upd (s.a 59) z (s.o b 3))))
theorem HRO.bk {N H : Nat} {D : Nat → List Nat} {T : Int32 × CS} {s0 : CS} {AL : Als} {e : Ent} {c : List Ent} {W : Nat} {s s1 : CS} {r : RS} {b : Nat} {y : Int32} {P : Int32 × RS} {x x1 : Int32} {n : Nat} (h : HRO N H D T s0 AL e c W s1 r b y P x1 n) (g : E66 s s1) (hx : x1.toInt ≤ x.toInt + 1) : HRO N H D T s0 AL e c W s r b y P x (n + 1) := by
  obtain ⟨S, x', h1, h2, h3, h4⟩ := h
  refine ⟨S, x', h1, by omega, h3, ?_⟩
  rcases h4 with ⟨a1, a2, S1, a3, a4⟩ | ⟨a1, pb, qb, z, l, w, j, a2, a3, a4, S1, a5, a6, a7⟩
  · exact Or.inl ⟨a1, a2, S1, g.tr a3, a4⟩
  · refine Or.inr ⟨a1, pb, qb, z, l, w, j, a2, a3, a4, S1, g.tr a5, a6, ?_⟩
    rw [a7, g.2.1, g.2.2.2.2.1]
theorem hr_loop {N H : Nat} (hN : 10000000000 ≤ N) {D : Nat → List Nat} {T : Int32 × CS} {s0 : CS} {AL : Als} {mu : Nat → Nat} {e : Ent} {c : List Ent} {W f b d : Nat} {y : Int32} {r : RS} (h24 : d < 24) (e114 : (r.i 114).toInt = (mu b : Int)) : ∀ (n m p : Nat) (k : Int32) (s : CS) (x : Int32) (P : Int32 × RS), HRW s r AL e c W n p k → CRN N H D T s0 s x → s.i 72 = -1 → s.i 73 = 0 → (s.i 66).toInt = (p : Int) → (s.i 67).toInt = (d : Int) + 1 → s.r 61 d = some f → s.ot f = some b → TLV s r mu b → TLR s r → x.toInt + n + 1 ≤ 4000000 → f_X12_isCaught_12 N m r y k = some P → HRO N H D T s0 AL e c W s r b y P x n := by
  intro n
  induction n with
  | zero =>
    intro _ _ _ _ _ _ h
    exact absurd h id
  | succ n ih =>
    intro m p k s x P h cr h72 h73 h66 h67 hf hb tl tr hx g
    obtain ⟨hp, h⟩ := h
    obtain ⟨o1, o2⟩ := cop_at h66 hp
    obtain ⟨S, e1, e2, e3, e4⟩ := cr.on hN h72 h73 (by omega)
    have x0 := cr.2.2.1.1
    have hx1 : (x + 1).toInt = x.toInt + 1 := ad1 x0 (by omega)
    cases m with
    | zero => cases g
    | succ m =>
      have g' : b_X12_isCaught_12 N (f_X12_isCaught_12 N m) r y k = some P := g
      unfold b_X12_isCaught_12 at g'
      rcases h with ⟨a1, a2⟩ | ⟨a1, j, pb, qb, z, l, w, a2, a3, ⟨a4, a5⟩, ⟨a6, a7, a8⟩, ⟨a9, a10⟩, a11, a12⟩ | ⟨a1, p', a2, a3⟩
      · have eS := xi_58 (o1.trans a1) h67 h24 hf hb e1
        have eS' : S = cAg (cNx s) b := eS
        have S72 : S.i 72 = -1 := by
          rw [eS']
          unfold cAg
          rw [ci_ne _ _ _ (by decide), ci_ne _ _ _ (by decide), ci_ne _ _ _ (by decide), ci_setW, cNx_i (by decide)]
          exact h72
        rw [if_pos (by rw [Int32.lt_iff_toInt_lt, z_t0]; exact a2)] at g'
        have gP := (Option.some.inj g').symm
        refine ⟨S, x + 1, e3 S72, by omega, S72, Or.inl ⟨by rw [gP], by rw [gP], cNx s, E66.nx s, eS'⟩⟩
      · obtain ⟨v, v1, v2⟩ := xi_56 (by omega) (o1.trans a1) h67 h24 hf hb e1
        have v2' : S = if v = 0 then cNx s else CS.setI (cNx s) 66 (cTg s (cAr s / 16)) := v2
        obtain ⟨⟨⟨t1, t2, t3⟩, -, -⟩, -, -, t4, t5⟩ := id tl
        obtain ⟨v', u1, u2⟩ := iu_both (N := N) (y := cAr s - cAr s / 16 * 16) (by omega) (tr.e66 (E66.nx s)) t4 t5
        rw [t1] at v1
        rw [v1] at u1
        have ev : v = v' := congrArg Prod.fst (Option.some.inj u1)
        rw [← ev, o2, a3] at u2
        rw [if_neg (by rw [Int32.lt_iff_toInt_lt, z_t0]; omega)] at g'
        obtain ⟨-, g1⟩ := hf_ite g'
        obtain ⟨-, g2⟩ := hf_ite g1
        rw [cl_nat e114, cl_nat a2, u2, ob_some] at g2
        by_cases cv : v = 0
        · rw [if_pos cv] at v2'
          have g3 : f_X12_isCaught_12 N m r y (r.a 37 j) = some P := (if_pos cv).symm.trans g2
          have n66 := cNx_66 h66 (by omega)
          have eC := E66.nx s
          rw [v2'] at e3
          have C72 : (cNx s).i 72 = -1 := (cNx_i (by decide)).trans h72
          have hr : HRW (cNx s) r AL e c W n (p + 1) (r.a 37 j) := by
            rw [HRW.cg (S := cNx s) (s := s) (r := r) (R := r) rfl rfl rfl rfl rfl rfl rfl]
            exact a12
          exact (ih m (p + 1) (r.a 37 j) (cNx s) (x + 1) P hr (e3 C72) C72 ((cNx_i (by decide)).trans h73) n66 (by rw [cNx_i (by decide)]; exact h67) hf hb (tl.e66 eC) (tr.e66 eC) (by omega) g3).bk eC (by omega)
        · rw [if_neg cv] at v2'
          have g3 := (if_neg cv).symm.trans g2
          obtain ⟨-, g4⟩ := hf_ite g3
          obtain ⟨-, g5⟩ := hf_ite g4
          have gP := (Option.some.inj g5).symm
          have E1 : E66 s S := by
            rw [v2']
            exact (E66.nx s).tr (E66.to _ _)
          have S66 : (S.i 66).toInt = (pb : Int) := by
            rw [v2', ci_at, o2]
            exact a4
          have S72 : S.i 72 = -1 := (E1.1 72 (by decide)).trans h72
          have S73 : S.i 73 = 0 := (E1.1 73 (by decide)).trans h73
          obtain ⟨S2, f1, f2, f3, f4⟩ := (e3 S72).on hN S72 S73 (by omega)
          obtain ⟨q1, q2⟩ := cop_at S66 (by omega)
          have sa := E1.2.1
          have f5 : S2 = CS.putA (cNx S) 59 (gPut (S.a 59) 720 (cAr S) (S.o b 3)) := xi_57 (q1.trans (by rw [sa]; exact a6)) (by rw [E1.1 67 (by decide)]; exact h67) h24 (by rw [E1.2.2.1]; exact hf) (by rw [E1.2.2.2.2.2.1]; exact hb) f1
          have zz : (cAr S).toInt = (z : Int) := by
            rw [q2, sa]
            exact a7
          have f6 : S2 = CS.putA (cNx S) 59 (upd (s.a 59) z (s.o b 3)) := by
            rw [f5]
            unfold gPut
            rw [if_pos ⟨by omega, by omega⟩, cl_nat zz, sa, E1.2.2.2.2.1]
          have T72 : S2.i 72 = -1 := by
            rw [f6]
            exact (cNx_i (by decide)).trans S72
          have hx2 : (x + 1 + 1).toInt = x.toInt + 1 + 1 := by rw [ad1 (by omega) (by omega), hx1]
          refine ⟨S2, x + 1 + 1, f3 T72, by omega, T72, Or.inr ⟨?_, pb, qb, z, l, w, j, a11, ⟨a8, a9⟩, ?_, cNx S, E1.tr (E66.nx S), cNx_66 S66 (by omega), f6⟩⟩
          · rw [gP]
            exact n10
          · rw [gP, cl_nat a10]
      · have eS := xi_30 (o1.trans a1) e1
        have eS' : S = CS.setI (cNx s) 66 (gAt (s.a 17) 1024 (cAr s)) := eS
        have E1 : E66 s S := by
          rw [eS']
          exact (E66.nx s).tr (E66.to _ _)
        have S66 : (S.i 66).toInt = (p' : Int) := by
          rw [eS', ci_at, o2]
          exact a2
        have S72 : S.i 72 = -1 := (E1.1 72 (by decide)).trans h72
        have hr : HRW S r AL e c W n p' k := by
          rw [HRW.cg (S := S) (s := s) (r := r) (R := r) (by rw [E1.2.1]) (by rw [E1.2.1]) (by rw [E1.2.1]) rfl rfl rfl rfl]
          exact a3
        exact (ih (m + 1) p' k S (x + 1) P hr (e3 S72) S72 ((E1.1 73 (by decide)).trans h73) S66 (by rw [E1.1 67 (by decide)]; exact h67) (by rw [E1.2.2.1]; exact hf) (by rw [E1.2.2.2.2.2.1]; exact hb) (tl.e66 E1) (tr.e66 E1) (by omega) g).bk E1 (by omega)
end
section
/-! both machines: leaving, one record and one frame -/
def LVB (N : Nat) (K : RS → Option (RS)) (σ : RS) : Option (RS) :=
  if ib ((σ.i 99) - 1) 300 then (if (σ.a 100 ((((σ.i 99) - 1) : Int32).toNatClampNeg)) = 1 then (f_X12_row N σ 4 (σ.a 101 ((((σ.i 99) - 1) : Int32).toNatClampNeg))).bind fun p27 => if ib (p27.a 101 ((((σ.i 99) - 1) : Int32).toNatClampNeg)) 8 then K (RS.setI (RS.setA p27 91 (((p27.a 101 ((((σ.i 99) - 1) : Int32).toNatClampNeg)) : Int32).toNatClampNeg) ((p27.a 91 (((p27.a 101 ((((σ.i 99) - 1) : Int32).toNatClampNeg)) : Int32).toNatClampNeg)) - 1)) 99 ((p27.i 99) - 1)) else none else (if (σ.a 100 ((((σ.i 99) - 1) : Int32).toNatClampNeg)) = 2 then K (RS.setI (RS.setI σ 97 (σ.a 101 ((((σ.i 99) - 1) : Int32).toNatClampNeg))) 99 ((σ.i 99) - 1)) else (if (σ.a 100 ((((σ.i 99) - 1) : Int32).toNatClampNeg)) = 4 then (if (σ.a 102 ((((σ.i 99) - 1) : Int32).toNatClampNeg)) = 0 then (f_X12_closeAll N σ ((σ.i 99) - 1)).bind fun p13 => (if (p13.i 110) = 3 then (f_X12_isCaught N p13 ((σ.i 99) - 1)).bind fun p20 => (if p20.1 = 0 then (if 2 ≤ (p20.2.a 102 ((((σ.i 99) - 1) : Int32).toNatClampNeg)) then K (RS.setI p20.2 99 ((p20.2.i 99) - 1)) else (f_X12_finals N p20.2 ((σ.i 99) - 1)).bind fun p24 => (if p24.1 = 0 then K (RS.setI p24.2 99 ((p24.2.i 99) - 1)) else some p24.2)) else some p20.2) else (if 2 ≤ (p13.a 102 ((((σ.i 99) - 1) : Int32).toNatClampNeg)) then K (RS.setI p13 99 ((p13.i 99) - 1)) else (f_X12_finals N p13 ((σ.i 99) - 1)).bind fun p17 => (if p17.1 = 0 then K (RS.setI p17.2 99 ((p17.2.i 99) - 1)) else some p17.2))) else (if 2 ≤ (σ.a 102 ((((σ.i 99) - 1) : Int32).toNatClampNeg)) then K (RS.setI σ 99 ((σ.i 99) - 1)) else (f_X12_finals N σ ((σ.i 99) - 1)).bind fun p10 => (if p10.1 = 0 then K (RS.setI p10.2 99 ((p10.2.i 99) - 1)) else some p10.2))) else K (RS.setI σ 99 ((σ.i 99) - 1))))) else none
/-- the goal is not reached -/
def LVG (r : RS) : Prop := ((r.i 110 = 1 ∨ r.i 110 = 4) ∧ ¬ r.i 99 ≤ r.i 112) ∨ (¬ r.i 110 = 1 ∧ ¬ r.i 110 = 4 ∧ ¬ r.i 99 ≤ 0)
theorem lv_ng {N n : Nat} {r V : RS} (h : LVG r) (g : f_X12_leave_0 N (n + 1) r = some V) : LVB N (f_X12_leave_0 N n) r = some V := by
  have g' : b_X12_leave_0 N (f_X12_leave_0 N n) r = some V := g
  unfold b_X12_leave_0 at g'
  rcases h with ⟨h1 | h1, h2⟩ | ⟨h1, h2, h3⟩
  · rw [if_pos h1, if_neg h2] at g'
    exact g'
  · rw [if_neg (by rw [h1]; decide), if_pos h1, if_neg h2] at g'
    exact g'
  · rw [if_neg h1, if_neg h2, if_neg h3] at g'
    exact g'
/-- the goal of a jump -/
theorem lv_g1 {N n : Nat} {r V : RS} (h1 : r.i 110 = 1) (h2 : r.i 99 ≤ r.i 112) (g : f_X12_leave_0 N (n + 1) r = some V) : V = RS.setI r 92 (r.i 111) := by
  have g' : b_X12_leave_0 N (f_X12_leave_0 N n) r = some V := g
  unfold b_X12_leave_0 at g'
  rw [if_pos h1, if_pos h2] at g'
  exact (Option.some.inj g').symm
/-- the goal of a yield -/
theorem lv_g4 {N n : Nat} {r V : RS} (h1 : r.i 110 = 4) (h2 : r.i 99 ≤ r.i 112) (g : f_X12_leave_0 N (n + 1) r = some V) : ∃ W : RS, W = rPu (RS.setI (RS.setI r 99 (r.i 99 - 1)) 93 (r.a 104 (r.i 99 - 1).toNatClampNeg)) (r.i 113) ∧ V = RS.setI W 92 (W.a 23 (W.a 101 (W.i 99).toNatClampNeg).toNatClampNeg) := by
  have g' : b_X12_leave_0 N (f_X12_leave_0 N n) r = some V := g
  unfold b_X12_leave_0 at g'
  rw [if_neg (by rw [h1]; decide), if_pos h1, if_pos h2] at g'
  obtain ⟨-, g1⟩ := hf_ite g'
  obtain ⟨W, w1, w2⟩ := hf_bind g1
  have w3 := (hf_ite (hf_ite w2).2).2
  exact ⟨W, e_rPu w1, (Option.some.inj w3).symm⟩
/-- no record is left -/
theorem lv_gE {N n : Nat} {r V : RS} (h1 : ¬ r.i 110 = 1) (h2 : ¬ r.i 110 = 4) (h3 : r.i 99 ≤ 0) (g : f_X12_leave_0 N (n + 1) r = some V) : V = RS.setI (RS.setI r 115 (r.i 110)) 92 (-1) := by
  have g' : b_X12_leave_0 N (f_X12_leave_0 N n) r = some V := g
  unfold b_X12_leave_0 at g'
  rw [if_neg h1, if_neg h2, if_pos h3] at g'
  exact (Option.some.inj g').symm
theorem lv_r1 {N : Nat} {K : RS → Option RS} {r V : RS} {k : Nat} (hk : (r.i 99 - 1).toNatClampNeg = k) (h : r.a 100 k = 1) (g : LVB N K r = some V) : ∃ P : RS, f_X12_row N r 4 (r.a 101 k) = some P ∧ ib (P.a 101 k) 8 ∧ K (RS.setI (RS.setA P 91 (P.a 101 k).toNatClampNeg (P.a 91 (P.a 101 k).toNatClampNeg - 1)) 99 (P.i 99 - 1)) = some V := by
  unfold LVB at g
  rw [hk] at g
  obtain ⟨-, g1⟩ := hf_ite g
  rw [if_pos h] at g1
  obtain ⟨P, p1, p2⟩ := hf_bind g1
  obtain ⟨p3, p4⟩ := hf_ite p2
  exact ⟨P, p1, p3, p4⟩
theorem lv_r2 {N : Nat} {K : RS → Option RS} {r V : RS} {k : Nat} (hk : (r.i 99 - 1).toNatClampNeg = k) (h : r.a 100 k = 2) (g : LVB N K r = some V) : K (RS.setI (RS.setI r 97 (r.a 101 k)) 99 (r.i 99 - 1)) = some V := by
  unfold LVB at g
  rw [hk] at g
  obtain ⟨-, g1⟩ := hf_ite g
  rw [if_neg (by rw [h]; decide), if_pos h] at g1
  exact g1
theorem lv_r3 {N : Nat} {K : RS → Option RS} {r V : RS} {k : Nat} (hk : (r.i 99 - 1).toNatClampNeg = k) (h : r.a 100 k = 3) (g : LVB N K r = some V) : K (RS.setI r 99 (r.i 99 - 1)) = some V := by
  unfold LVB at g
  rw [hk] at g
  obtain ⟨-, g1⟩ := hf_ite g
  rw [if_neg (by rw [h]; decide), if_neg (by rw [h]; decide), if_neg (by rw [h]; decide)] at g1
  exact g1
/-- a finally, or none -/
def LVF (N : Nat) (K : RS → Option RS) (r V : RS) (y : Int32) : Prop := ∃ P : Int32 × RS, f_X12_finals N r y = some P ∧ ((P.1 = 0 ∧ K (RS.setI P.2 99 (P.2.i 99 - 1)) = some V) ∨ (¬ P.1 = 0 ∧ P.2 = V))
theorem lv_f {N : Nat} {K : RS → Option RS} {r V : RS} {y : Int32} (g : ((f_X12_finals N r y).bind fun p10 => (if p10.1 = 0 then K (RS.setI p10.2 99 ((p10.2.i 99) - 1)) else some p10.2)) = some V) : LVF N K r V y := by
  obtain ⟨P, p1, p2⟩ := hf_bind g
  refine ⟨P, p1, ?_⟩
  by_cases c : P.1 = 0
  · rw [if_pos c] at p2
    exact Or.inl ⟨c, p2⟩
  · rw [if_neg c] at p2
    exact Or.inr ⟨c, Option.some.inj p2⟩
theorem lv_r42 {N : Nat} {K : RS → Option RS} {r V : RS} {k : Nat} (hk : (r.i 99 - 1).toNatClampNeg = k) (h : r.a 100 k = 4) (hb : r.a 102 k = 2) (g : LVB N K r = some V) : K (RS.setI r 99 (r.i 99 - 1)) = some V := by
  unfold LVB at g
  rw [hk] at g
  obtain ⟨-, g1⟩ := hf_ite g
  rw [if_neg (by rw [h]; decide), if_neg (by rw [h]; decide), if_pos h, if_neg (by rw [hb]; decide), if_pos (by rw [hb]; decide)] at g1
  exact g1
theorem lv_r41 {N : Nat} {K : RS → Option RS} {r V : RS} {k : Nat} (hk : (r.i 99 - 1).toNatClampNeg = k) (h : r.a 100 k = 4) (hb : r.a 102 k = 1) (g : LVB N K r = some V) : LVF N K r V (r.i 99 - 1) := by
  unfold LVB at g
  rw [hk] at g
  obtain ⟨-, g1⟩ := hf_ite g
  rw [if_neg (by rw [h]; decide), if_neg (by rw [h]; decide), if_pos h, if_neg (by rw [hb]; decide), if_neg (by rw [hb]; decide)] at g1
  exact lv_f g1
theorem lv_r40 {N : Nat} {K : RS → Option RS} {r V : RS} {k : Nat} (hk : (r.i 99 - 1).toNatClampNeg = k) (h : r.a 100 k = 4) (hb : r.a 102 k = 0) (g : LVB N K r = some V) : ∃ P : RS, f_X12_closeAll N r (r.i 99 - 1) = some P ∧ ((P.i 110 = 3 ∧ ∃ Q : Int32 × RS, f_X12_isCaught N P (r.i 99 - 1) = some Q ∧ ((¬ Q.1 = 0 ∧ Q.2 = V) ∨ (Q.1 = 0 ∧ (Q.2.a 102 k = 0 → LVF N K Q.2 V (r.i 99 - 1))))) ∨ (¬ P.i 110 = 3 ∧ (P.a 102 k = 0 → LVF N K P V (r.i 99 - 1)))) := by
  unfold LVB at g
  rw [hk] at g
  obtain ⟨-, g1⟩ := hf_ite g
  rw [if_neg (by rw [h]; decide), if_neg (by rw [h]; decide), if_pos h, if_pos hb] at g1
  obtain ⟨P, p1, p2⟩ := hf_bind g1
  refine ⟨P, p1, ?_⟩
  by_cases c : P.i 110 = 3
  · rw [if_pos c] at p2
    obtain ⟨Q, q1, q2⟩ := hf_bind p2
    refine Or.inl ⟨c, Q, q1, ?_⟩
    by_cases cq : Q.1 = 0
    · rw [if_pos cq] at q2
      refine Or.inr ⟨cq, fun z => ?_⟩
      rw [if_neg (by rw [z]; decide)] at q2
      exact lv_f q2
    · rw [if_neg cq] at q2
      exact Or.inl ⟨cq, Option.some.inj q2⟩
  · rw [if_neg c] at p2
    refine Or.inr ⟨c, fun z => ?_⟩
    rw [if_neg (by rw [z]; decide)] at p2
    exact lv_f p2
/-- the class: there is a frame to leave -/
def LTG (s : CS) : Prop := s.i 75 - s.i 75 / 32 * 32 < s.i 67
theorem lo_arr {N : Nat} {s S : CS} (h : (s.i 67).toInt = 0 ∨ ∃ d f : Nat, (s.i 67).toInt = (d : Int) + 1 ∧ d < 24 ∧ s.r 61 d = some f ∧ ¬ LTG s) (e : f_X3_leaveOne N s = some ((), S)) : f_X3_arrive N s = some ((), S) := by
  unfold f_X3_leaveOne f_X3_leaveOne_29 at e
  rcases h with h | ⟨d, f, h1, h2, h3, h4⟩
  · rw [e_frE h, ob_some] at e
    have e1 : ((f_X3_arrive N s).bind fun p7 => some ((), p7.2)) = some ((), S) := e
    obtain ⟨P, p1, p2⟩ := hf_bind e1
    rw [p1]
    exact p2
  · rw [e_frT h1 h2 h3, ob_some] at e
    have e1 : ((f_X3_arrive N s).bind fun p7 => some ((), p7.2)) = some ((), S) := (if_neg h4).symm.trans e
    obtain ⟨P, p1, p2⟩ := hf_bind e1
    rw [p1]
    exact p2
theorem lo_top {N d f : Nat} {s S : CS} (h1 : (s.i 67).toInt = (d : Int) + 1) (h2 : d < 24) (h3 : s.r 61 d = some f) (h4 : LTG s) (e : f_X3_leaveOne N s = some ((), S)) : (if (CS.o s f 0) = 1 then (f_X3_leaveBody N s f).bind fun p27 => some ((), p27.2) else (if (CS.o s f 0) = 2 then (if (gAt (s.a 17) 1024 ((CS.o s f 1) + 1)) < 0 then f_X3_leaveOne_87 N s f else (f_X3_enterFinally N s f).bind fun p23 => some ((), p23.2)) else f_X3_leaveOne_87 N s f)) = some ((), S) := by
  unfold f_X3_leaveOne at e
  rw [e_frT h1 h2 h3, ob_some] at e
  have e1 := (if_pos h4).symm.trans e
  exact (hf_ite e1).2
theorem lo_b {N d f : Nat} {s S : CS} (h1 : (s.i 67).toInt = (d : Int) + 1) (h2 : d < 24) (h3 : s.r 61 d = some f) (h4 : LTG s) (ho : s.o f 0 = 1) (e : f_X3_leaveOne N s = some ((), S)) : f_X3_leaveBody N s f = some ((), S) := by
  have z := lo_top h1 h2 h3 h4 e
  rw [if_pos ho] at z
  obtain ⟨P, p1, p2⟩ := hf_bind z
  rw [p1]
  exact p2
theorem lo_0 {N d f : Nat} {s S : CS} (h1 : (s.i 67).toInt = (d : Int) + 1) (h2 : d < 24) (h3 : s.r 61 d = some f) (h4 : LTG s) (ho : s.o f 0 = 0) (e : f_X3_leaveOne N s = some ((), S)) : ∃ P : Unit × CS, f_X3_note N (CS.setI s 71 (s.i 71 - 1)) 4 (s.o f 1) = some P ∧ S = CS.setI P.2 67 (P.2.i 67 - 1) := by
  have z := lo_top h1 h2 h3 h4 e
  rw [if_neg (by rw [ho]; decide), if_neg (by rw [ho]; decide)] at z
  unfold f_X3_leaveOne_87 f_X3_leaveOne_113 at z
  have z1 := (hf_ite z).2
  rw [if_pos ho] at z1
  obtain ⟨P, p1, p2⟩ := hf_bind z1
  exact ⟨P, p1, (congrArg Prod.snd (Option.some.inj p2)).symm⟩
theorem lo_p {N d f : Nat} {s S : CS} (h1 : (s.i 67).toInt = (d : Int) + 1) (h2 : d < 24) (h3 : s.r 61 d = some f) (h4 : LTG s) (ho : s.o f 0 = 3 ∨ (s.o f 0 = 2 ∧ (cTg s (s.o f 1 + 1)).toInt < 0)) (e : f_X3_leaveOne N s = some ((), S)) : S = CS.setI s 67 (s.i 67 - 1) := by
  have z := lo_top h1 h2 h3 h4 e
  unfold f_X3_leaveOne_87 f_X3_leaveOne_113 at z
  rcases ho with ho | ⟨ho, ht⟩
  · rw [if_neg (by rw [ho]; decide), if_neg (by rw [ho]; decide)] at z
    have z1 := (hf_ite z).2
    rw [if_neg (by rw [ho]; decide)] at z1
    exact (congrArg Prod.snd (Option.some.inj z1)).symm
  · rw [if_neg (by rw [ho]; decide), if_pos ho] at z
    have z0 := (if_pos (show gAt (s.a 17) 1024 (s.o f 1 + 1) < 0 by rw [Int32.lt_iff_toInt_lt, z_t0]; exact ht)).symm.trans z
    have z1 := (hf_ite z0).2
    rw [if_neg (by rw [ho]; decide)] at z1
    exact (congrArg Prod.snd (Option.some.inj z1)).symm
/-- a finally begins -/
noncomputable def cFi (s : CS) (f : Nat) : CS := CS.setO (CS.setO (CS.setO (CS.setOt (CS.setO s f 0 3) f s.w) f 5 (s.i 73)) f 6 (s.i 74)) f 7 (s.i 75)
theorem lo_f {N d f : Nat} {s S : CS} (h1 : (s.i 67).toInt = (d : Int) + 1) (h2 : d < 24) (h3 : s.r 61 d = some f) (h4 : LTG s) (ho : s.o f 0 = 2) (ht : ¬ (cTg s (s.o f 1 + 1)).toInt < 0) (e : f_X3_leaveOne N s = some ((), S)) : S = cBg (cFi s f) f ((cFi s f).o f 1 + 1) := by
  have z := lo_top h1 h2 h3 h4 e
  rw [if_neg (by rw [ho]; decide), if_pos ho] at z
  have z0 := (if_neg (show ¬ gAt (s.a 17) 1024 (s.o f 1 + 1) < 0 by rw [Int32.lt_iff_toInt_lt, z_t0]; exact ht)).symm.trans z
  obtain ⟨P, p1, p2⟩ := hf_bind z0
  have eS : S = P.2 := (congrArg Prod.snd (Option.some.inj p2)).symm
  rw [eS]
  unfold f_X3_enterFinally at p1
  have p3 := (hf_ite p1).2
  rw [cw_setO] at p3
  cases hw : s.w with
  | none =>
    rw [hw] at p3
    obtain ⟨Y, hY⟩ : ∃ Y, Y = CS.setO (CS.setO (CS.setO (CS.setOt (CS.setO s f 0 3) f none) f 5 (s.i 73)) f 6 (s.i 74)) f 7 (s.i 75) := ⟨_, rfl⟩
    have p4 : ((f_X3_begin N Y f (Y.o f 1 + 1)).bind fun p4 => some ((), p4.2)) = some P := by
      rw [hY]
      exact p3
    have eY : cFi s f = Y := by
      rw [hY]
      unfold cFi
      rw [hw]
    rw [eY]
    clear hY eY p3
    obtain ⟨B, b1, b2⟩ := hf_bind p4
    unfold f_X3_begin at b1
    have b3 := Option.some.inj (hf_ite b1).2
    have b4 := Option.some.inj b2
    rw [← b4, ← b3]
    unfold cBg
    rw [ca_setI]
  | some b =>
    rw [hw] at p3
    obtain ⟨Y, hY⟩ : ∃ Y, Y = CS.setO (CS.setO (CS.setO (CS.setOt (CS.setO s f 0 3) f (some b)) f 5 (s.i 73)) f 6 (s.i 74)) f 7 (s.i 75) := ⟨_, rfl⟩
    have p4 : ((f_X3_begin N Y f (Y.o f 1 + 1)).bind fun p8 => some ((), p8.2)) = some P := by
      rw [hY]
      exact p3
    have eY : cFi s f = Y := by
      rw [hY]
      unfold cFi
      rw [hw]
    rw [eY]
    clear hY eY p3
    obtain ⟨B, b1, b2⟩ := hf_bind p4
    unfold f_X3_begin at b1
    have b3 := Option.some.inj (hf_ite b1).2
    have b4 := Option.some.inj b2
    rw [← b4, ← b3]
    unfold cBg
    rw [ca_setI]
end
section
/-! both machines: leaving, what stays -/
/-- while both leave -/
def LVR (nm : Nat → Nat → Prop) (s : CS) (r : RS) (mu : Nat → Nat) (AL : Als) (h : Nat) (c : List Ent) (n : Int) (u : Nat) : Prop := s.i 72 = -1 ∧ (MVH s r h ∧ MTR s r ∧ ∀ k l : Nat, nm k l → s.a 59 k = r.a 84 l) ∧ DYN s r mu AL c n ∧ (n ≤ 1 ∧ (¬ s.i 73 = 4 → n = 0)) ∧ WYS s r mu AL c h u (s.i 73) (s.i 74) (s.i 75) s.w (r.i 110) (r.i 111) (r.i 112) (r.i 113) (r.i 114) ∧ TLR s r
/-- both go on at a place -/
def SYN (nm : Nat → Nat → Prop) (s : CS) (r : RS) (mu : Nat → Nat) (AL : Als) (h p q : Nat) (c : List Ent) (n : Int) : Prop := MCO nm s r h p q ∧ DYN s r mu AL c n ∧ TLR s r
/-- what comes of a leave -/
def LVO (N H : Nat) (D : Nat → List Nat) (T : Int32 × CS) (s0 : CS) (nm : Nat → Nat → Prop) (AL : Als) (V : RS) (st : Int32) (B : Int) : Prop := V.i 80 = st ∧ ((∃ (S : CS) (x : Int32) (mu : Nat → Nat) (h p q w : Nat) (c : List Ent), CRN N H D T s0 S x ∧ SYN nm S V mu AL h p q c 0 ∧ AL p q h w 0 c ∧ x.toInt + fps c + w ≤ B) ∨ (∃ S : CS, T = (S.i 72, S) ∧ (V.i 92).toInt < 0 ∧ RNZ S V ∧ ((S.i 72 = 1 ∧ V.i 115 = 2) ∨ (S.i 72 = 2 ∧ V.i 115 = 3))))
/-- what every place keeps -/
def HCT (nm : Nat → Nat → Prop) (AL : Als) : Prop := ∀ (p q h w g : Nat) (c : List Ent), AL p q h w g c → (p < 1200 ∧ q ≤ 3000) ∧ CTK nm c ∧ ops c ≤ 320 ∧ frs c ≤ 22 ∧ ∀ e ∈ c, e.h ≤ h
theorem FCA.up {r : RS} {AL : Als} {e : Ent} {c : List Ent} (h : FCA r AL c) (g : e.k = 1 ∨ e.k = 2 → 0 ≤ (r.a 31 e.y).toInt → FCP r AL e.y) : FCA r AL (e :: c) := fun a ha => by
  rcases List.mem_cons.mp ha with z | z
  · rw [z]
    exact g
  · exact h a z
theorem WYS.tl {s : CS} {r : RS} {mu : Nat → Nat} {AL : Als} {e : Ent} {c : List Ent} {h u : Nat} {way val T how x d value g : Int32} {t : Option Nat} (k : WYS s r mu AL (e :: c) h u way val T t how x d value g) (nd : way = 1 ∨ way = 2 → ¬ d.toInt = (c.length : Int) + 1) (hfc : e.k = 1 ∨ e.k = 2 → 0 ≤ (r.a 31 e.y).toInt → FCP r AL e.y) : WYS s r mu AL c h u way val T t how x d value g ∧ (e.k = 1 ∨ e.k = 2 → WYS s r mu AL c e.h e.u way val T t how x d value g) := by
  rcases k with ⟨a1, a2, c1, c0, b1, ⟨b2, b3⟩, b4, b5⟩ | ⟨a1, a2, a3, c1, a, c0, b1, b2, ⟨b3, b4⟩, b5, b6⟩ | a | a
  · cases c1 with
    | nil =>
      have e0 : c0 = e :: c := b1.symm
      rw [e0] at b3
      exact absurd b3 (nd (Or.inl a1))
    | cons e' c1 =>
      have e1 : e = e' ∧ c = c1 ++ c0 := by
        have := List.cons.inj b1
        exact this
      obtain ⟨e1, e2⟩ := e1
      rw [← e1] at b4 b5
      have ht : HTS c1 h := fun z hz => b4 z (List.mem_cons_of_mem _ hz)
      refine ⟨Or.inl ⟨a1, a2, c1, c0, e2, ⟨b2, b3⟩, ht, fun fc => ?_⟩, fun hk => ?_⟩
      · obtain ⟨p, q, w, z1, z2, z3, z4⟩ := b5 (fc.up hfc)
        exact ⟨p, q, w, z1, z2, z3, fun y hy => z4 y (List.mem_cons_of_mem _ hy)⟩
      · have eh : e.h = h := b4 e List.mem_cons_self (by omega)
        refine Or.inl ⟨a1, a2, c1, c0, e2, ⟨b2, b3⟩, by rw [eh]; exact ht, fun fc => ?_⟩
        obtain ⟨p, q, w, z1, z2, z3, z4⟩ := b5 (fc.up hfc)
        exact ⟨p, q, w, z1, by rw [eh]; exact z2, z4 e List.mem_cons_self hk, fun y hy => z4 y (List.mem_cons_of_mem _ hy)⟩
  · cases c1 with
    | nil =>
      have e1 : e = a ∧ c = c0 := List.cons.inj b1
      rw [← e1.2] at b4
      exact absurd b4 (nd (Or.inr a1))
    | cons e' c1 =>
      have e1 : e = e' ∧ c = c1 ++ a :: c0 := List.cons.inj b1
      obtain ⟨e1, e2⟩ := e1
      rw [← e1] at b5 b6
      have ht : HTS c1 h := fun z hz => b5 z (List.mem_cons_of_mem _ hz)
      refine ⟨Or.inr (Or.inl ⟨a1, a2, a3, c1, a, c0, e2, b2, ⟨b3, b4⟩, ht, fun fc => ?_⟩), fun hk => ?_⟩
      · obtain ⟨p, q, w, z1, z2, z3, z4⟩ := b6 (fc.up hfc)
        exact ⟨p, q, w, z1, z2, z3, fun y hy => z4 y (List.mem_cons_of_mem _ hy)⟩
      · have eh : e.h = h := b5 e List.mem_cons_self (by omega)
        refine Or.inr (Or.inl ⟨a1, a2, a3, c1, a, c0, e2, by rw [eh]; exact b2, ⟨b3, b4⟩, by rw [eh]; exact ht, fun fc => ?_⟩)
        obtain ⟨p, q, w, z1, z2, z3, z4⟩ := b6 (fc.up hfc)
        exact ⟨p, q, w, z1, by rw [eh]; exact z2, z4 e List.mem_cons_self hk, fun y hy => z4 y (List.mem_cons_of_mem _ hy)⟩
  · exact ⟨Or.inr (Or.inr (Or.inl a)), fun _ => Or.inr (Or.inr (Or.inl a))⟩
  · exact ⟨Or.inr (Or.inr (Or.inr a)), fun _ => Or.inr (Or.inr (Or.inr a))⟩
/-- what stays where an entry goes -/
def SAM (s S : CS) (r R : RS) : Prop := (∀ j : Nat, j ≠ 67 → j ≠ 69 → j ≠ 71 → S.i j = s.i j) ∧ (∀ k : Nat, k ≠ 64 → S.a k = s.a k) ∧ (S.r = s.r ∧ S.w = s.w ∧ S.o = s.o ∧ S.ot = s.ot ∧ S.oa = s.oa) ∧ (∀ j : Nat, j ≠ 81 → j ≠ 97 → j ≠ 99 → R.i j = r.i j) ∧ ∀ k : Nat, k ≠ 82 → k ≠ 83 → k ≠ 91 → R.a k = r.a k
theorem SAM.tlv {s S : CS} {r R : RS} {mu : Nat → Nat} {b : Nat} (m : SAM s S r R) (t : TLV s r mu b) : TLV S R mu b := by
  obtain ⟨m1, m2, ⟨m3, m4, m5, m6, m7⟩, m8, m9⟩ := m
  have i85 : R.i 85 = r.i 85 := m8 85 (by decide) (by decide) (by decide)
  refine TLV.of (by rw [m5]) (by rw [m7]) (by rw [m7]) (fun q => ?_) (by rw [i85]; exact Int.le_refl _) ?_ ?_ ?_ (fun i _ => ?_) (fun i _ => ?_) (m8 3 (by decide) (by decide) (by decide)) t
  · unfold inP at *
    rw [m3]
    exact q
  all_goals rw [m9 _ (by decide) (by decide) (by decide)]
theorem SAM.feq {s S : CS} {r R : RS} {mu : Nat → Nat} {c : List Ent} {m : Int} (h : SAM s S r R) : FEQ s S r R mu mu c m := by
  obtain ⟨m1, m2, ⟨m3, m4, m5, m6, m7⟩, m8, m9⟩ := id h
  exact ⟨fun i f _ hf => ⟨by rw [m3]; exact hf, by rw [m5], by rw [m6]⟩, fun b _ t => ⟨h.tlv t, rfl, by rw [m9 87 (by decide) (by decide) (by decide)]⟩, ⟨m2 17 (by decide), m9 21 (by decide) (by decide) (by decide), m9 23 (by decide) (by decide) (by decide), m9 31 (by decide) (by decide) (by decide), m9 32 (by decide) (by decide) (by decide)⟩, fun j k h1 h2 _ => by rw [m9 j (by omega) (by omega) (by omega)], fun a ha => ⟨fun k _ => by rw [m2 59 (by decide)], fun l _ => by rw [m9 84 (by decide) (by decide) (by decide)]⟩, fun j _ => by rw [m9 98 (by decide) (by decide) (by decide)]⟩
theorem SAM.rfx {s S : CS} {r R : RS} (m : SAM s S r R) : RFX r R := ⟨fun j hj => m.2.2.2.1 j (by omega) (by omega) (by omega), fun k hk => m.2.2.2.2 k (by omega) (by omega) (by omega)⟩
theorem tps_le {e : Ent} {c : List Ent} : tps c ≤ tps (e :: c) := by
  show tps c ≤ tps c + (if e.k = 1 then 2 else if e.k = 2 then 1 else 0)
  omega
/-- an entry goes -/
theorem pop_sam {nm : Nat → Nat → Prop} {s S : CS} {r R : RS} {mu : Nat → Nat} {AL : Als} {h u : Nat} {e : Ent} {c : List Ent} {n : Int} (l : LVR nm s r mu AL h (e :: c) n u) (sm : SAM s S r R) (mt : MTR S R) (fr : FRS s r mu AL c (R.i 97).toInt) (i67 : (S.i 67).toInt = (frs c : Int)) (i99 : (R.i 99).toInt = (c.length : Int)) (op : OPW s r c) (tk : S.i 71 = hS R 8) (nd : s.i 73 = 1 ∨ s.i 73 = 2 → ¬ (r.i 112).toInt = (c.length : Int) + 1) (hfc : e.k = 1 ∨ e.k = 2 → 0 ≤ (r.a 31 e.y).toInt → FCP r AL e.y) : LVR nm S R mu AL h c n u := by
  obtain ⟨l1, ⟨l2, l3, l4⟩, ⟨⟨d1, d2, d3, ⟨d4, d5⟩, d6, d7⟩, l6⟩, ⟨l7, l8⟩, l9, l10⟩ := l
  have tlv : ∀ b : Nat, TLV s r mu b → TLV S R mu b := fun b t => sm.tlv t
  have feq : FEQ s S r R mu mu c (R.i 97).toInt := sm.feq
  have rfx := sm.rfx
  obtain ⟨m1, m2, ⟨m3, m4, m5, m6, m7⟩, m8, m9⟩ := sm
  have i73 := m1 73 (by decide) (by decide) (by decide)
  have i85 : R.i 85 = r.i 85 := m8 85 (by decide) (by decide) (by decide)
  have i80 : R.i 80 = r.i 80 := m8 80 (by decide) (by decide) (by decide)
  have i95 : R.i 95 = r.i 95 := m8 95 (by decide) (by decide) (by decide)
  have i68 : S.i 68 = s.i 68 := m1 68 (by decide) (by decide) (by decide)
  have tl := tps_le (e := e) (c := c)
  refine ⟨(m1 72 (by decide) (by decide) (by decide)).trans l1, ⟨l2.of (m1 65 (by decide) (by decide) (by decide)) (m2 60 (by decide)) (m8 93 (by decide) (by decide) (by decide)) (m9 94 (by decide) (by decide) (by decide)) (fun z q => z (i73.trans q)), mt, fun k l q => ?_⟩, ⟨⟨fr.of feq, ⟨i67, i99⟩, tk, ⟨by rw [i85]; exact d4, by rw [i85, i80]; omega⟩, ?_, (m8 115 (by decide) (by decide) (by decide)).trans d7⟩, ?_⟩, ⟨l7, fun q => l8 (fun z => q (i73.trans z))⟩, ?_, l10.of (fun j hj => m1 j (by omega) (by omega) (by omega)) (fun k hk => m2 k (by omega)) rfx⟩
  · rw [m2 59 (by decide), m9 84 (by decide) (by decide) (by decide)]
    exact l4 k l q
  · unfold MUI at *
    rw [i85]
    exact d6
  · obtain ⟨o1, o2, o3, o4, o5, o6⟩ := op
    refine ⟨by rw [i68, i95]; exact o1, by rw [i95]; exact o2, by rw [i95]; exact o3, o4, fun k hk => ?_, by rw [i95]; exact o6.of (fun k _ => by rw [m9 103 (by decide) (by decide) (by decide)])⟩
    rw [i95] at hk
    rw [m2 63 (by decide), m9 96 (by decide) (by decide) (by decide)]
    exact o5 k hk
  · rw [i73, m1 74 (by decide) (by decide) (by decide), m1 75 (by decide) (by decide) (by decide), m4, m8 110 (by decide) (by decide) (by decide), m8 111 (by decide) (by decide) (by decide), m8 112 (by decide) (by decide) (by decide), m8 113 (by decide) (by decide) (by decide), m8 114 (by decide) (by decide) (by decide)]
    exact (l9.tl nd hfc).1.of (m2 17 (by decide)) (m9 21 (by decide) (by decide) (by decide)) (m9 31 (by decide) (by decide) (by decide)) (m9 23 (by decide) (by decide) (by decide)) (fun b _ t => ⟨tlv b t, rfl⟩)
end
section
/-! both machines: a finally begins -/
theorem cfi_f {s : CS} {f : Nat} {t : Int32} : (∀ j : Nat, j ≠ 65 → j ≠ 66 → j ≠ 73 → (cBg (cFi s f) f t).i j = s.i j) ∧ ((cBg (cFi s f) f t).i 65 = s.o f 2 ∧ (cBg (cFi s f) f t).i 66 = cTg s t ∧ (cBg (cFi s f) f t).i 73 = 0) ∧ ((cBg (cFi s f) f t).a = s.a ∧ (cBg (cFi s f) f t).r = s.r ∧ (cBg (cFi s f) f t).oa = s.oa) ∧ (∀ g : Nat, g ≠ f → (cBg (cFi s f) f t).o g = s.o g ∧ (cBg (cFi s f) f t).ot g = s.ot g) ∧ ((cBg (cFi s f) f t).o f 0 = 3 ∧ (cBg (cFi s f) f t).o f 2 = s.o f 2 ∧ (cBg (cFi s f) f t).o f 5 = s.i 73 ∧ (cBg (cFi s f) f t).o f 6 = s.i 74 ∧ (cBg (cFi s f) f t).o f 7 = s.i 75 ∧ (cBg (cFi s f) f t).ot f = s.w) ∧ (cFi s f).o f 1 = s.o f 1 := by
  obtain ⟨Y, hY⟩ : ∃ Y, Y = cFi s f := ⟨_, rfl⟩
  have yi : Y.i = s.i := by
    rw [hY]
    unfold cFi
    rw [ci_setO, ci_setO, ci_setO, ci_setOt, ci_setO]
  have ya : Y.a = s.a := by
    rw [hY]
    unfold cFi
    rw [ca_setO, ca_setO, ca_setO, ca_setOt, ca_setO]
  have yr : Y.r = s.r := by
    rw [hY]
    unfold cFi
    rw [cr_setO, cr_setO, cr_setO, cr_setOt, cr_setO]
  have yoa : Y.oa = s.oa := by
    rw [hY]
    unfold cFi
    rw [coa_setO, coa_setO, coa_setO, coa_setOt, coa_setO]
  have yo : ∀ g : Nat, g ≠ f → Y.o g = s.o g := fun g hg => by
    rw [hY]
    unfold cFi
    rw [setO_ne hg, setO_ne hg, setO_ne hg, co_setOt, setO_ne hg]
  have yt : ∀ g : Nat, g ≠ f → Y.ot g = s.ot g := fun g hg => by
    rw [hY]
    unfold cFi
    rw [cot_setO, cot_setO, cot_setO, cot_ne _ _ _ hg, cot_setO]
  have ytf : Y.ot f = s.w := by
    rw [hY]
    unfold cFi
    rw [cot_setO, cot_setO, cot_setO, cot_at]
  have y0 : Y.o f 0 = 3 := by
    rw [hY]
    unfold cFi
    rw [setO_k (by decide), setO_k (by decide), setO_k (by decide), co_setOt, setO_at]
  have yk : ∀ j : Nat, j ≠ 0 → j ≠ 5 → j ≠ 6 → j ≠ 7 → Y.o f j = s.o f j := fun j a b c d => by
    rw [hY]
    unfold cFi
    rw [setO_k d, setO_k c, setO_k b, co_setOt, setO_k a]
  have y5 : Y.o f 5 = s.i 73 := by
    rw [hY]
    unfold cFi
    rw [setO_k (by decide), setO_k (by decide), setO_at]
  have y6 : Y.o f 6 = s.i 74 := by
    rw [hY]
    unfold cFi
    rw [setO_k (by decide), setO_at]
  have y7 : Y.o f 7 = s.i 75 := by
    rw [hY]
    unfold cFi
    rw [setO_at]
  rw [← hY]
  clear hY
  unfold cBg
  refine ⟨fun j h1 h2 h3 => by rw [ci_ne _ _ _ h3, ci_ne _ _ _ h2, ci_ne _ _ _ h1, yi], ⟨?_, ?_, ?_⟩, ⟨?_, ?_, ?_⟩, fun g hg => ⟨?_, ?_⟩, ⟨?_, ?_, ?_, ?_, ?_, ?_⟩, yk 1 (by decide) (by decide) (by decide) (by decide)⟩
  · rw [ci_ne _ _ _ (by decide), ci_ne _ _ _ (by decide), ci_at]
    exact yk 2 (by decide) (by decide) (by decide) (by decide)
  · rw [ci_ne _ _ _ (by decide), ci_at, ya]
    rfl
  · rw [ci_at]
  · rw [ca_setI, ca_setI, ca_setI, ya]
  · rw [cr_setI, cr_setI, cr_setI, yr]
  · rw [coa_setI, coa_setI, coa_setI, yoa]
  · rw [co_setI, co_setI, co_setI, yo g hg]
  · rw [cot_setI, cot_setI, cot_setI, yt g hg]
  · rw [co_setI, co_setI, co_setI, y0]
  · rw [co_setI, co_setI, co_setI]
    exact yk 2 (by decide) (by decide) (by decide) (by decide)
  · rw [co_setI, co_setI, co_setI, y5]
  · rw [co_setI, co_setI, co_setI, y6]
  · rw [co_setI, co_setI, co_setI, y7]
  · rw [cot_setI, cot_setI, cot_setI, ytf]
/-- the reference's finally -/
theorem fi_r {N k y0 : Nat} {r : RS} {y : Int32} {P : Int32 × RS} (hy : y.toInt = (k : Int)) (h1 : (r.a 101 k).toInt = (y0 : Int)) (g : f_X12_finals N r y = some P) : ((r.a 31 y0).toInt < 0 ∧ P = (0, r)) ∨ (0 ≤ (r.a 31 y0).toInt ∧ P.1 = 1 ∧ (∀ j : Nat, j ≠ 92 → j ≠ 93 → P.2.i j = r.i j) ∧ (P.2.i 92 = r.a 31 y0 ∧ P.2.i 93 = r.a 104 k) ∧ (∀ j : Nat, j ≠ 102 → j ≠ 105 → j ≠ 106 → j ≠ 107 → j ≠ 108 → j ≠ 109 → P.2.a j = r.a j) ∧ (∀ j i : Nat, i ≠ k → P.2.a j i = r.a j i) ∧ (P.2.a 102 k = 2 ∧ P.2.a 105 k = r.i 110 ∧ P.2.a 106 k = r.i 111 ∧ P.2.a 107 k = r.i 112 ∧ P.2.a 108 k = r.i 113 ∧ P.2.a 109 k = r.i 114)) := by
  unfold f_X12_finals at g
  rw [cl_nat hy, cl_nat h1] at g
  have g1 := (hf_ite (hf_ite g).2).2
  by_cases c : 0 ≤ r.a 31 y0
  · rw [if_pos c] at g1
    have lc := le_int c
    rw [z_t0] at lc
    right
    obtain ⟨Y, hY⟩ : ∃ Y, Y = RS.setA (RS.setA (RS.setA (RS.setA (RS.setA (RS.setA r 105 k (r.i 110)) 106 k (r.i 111)) 107 k (r.i 112)) 108 k (r.i 113)) 109 k (r.i 114)) 102 k 2 := ⟨_, rfl⟩
    have eP : P = (1, RS.setI (RS.setI Y 93 (r.a 104 k)) 92 (r.a 31 y0)) := by
      rw [← Option.some.inj g1, hY]
    have yi : Y.i = r.i := by
      rw [hY]
      rfl
    have ya : ∀ j : Nat, j ≠ 102 → j ≠ 105 → j ≠ 106 → j ≠ 107 → j ≠ 108 → j ≠ 109 → Y.a j = r.a j := fun j a1 a2 a3 a4 a5 a6 => by
      rw [hY, setA_nk a1, setA_nk a6, setA_nk a5, setA_nk a4, setA_nk a3, setA_nk a2]
    have yn : ∀ j i : Nat, i ≠ k → Y.a j i = r.a j i := fun j i hi => by
      rw [hY, setA_ne hi, setA_ne hi, setA_ne hi, setA_ne hi, setA_ne hi, setA_ne hi]
    have y102 : Y.a 102 k = 2 := by rw [hY, setA_at]
    have y109 : Y.a 109 k = r.i 114 := by rw [hY, setA_nk (by decide), setA_at]
    have y108 : Y.a 108 k = r.i 113 := by rw [hY, setA_nk (by decide), setA_nk (by decide), setA_at]
    have y107 : Y.a 107 k = r.i 112 := by rw [hY, setA_nk (by decide), setA_nk (by decide), setA_nk (by decide), setA_at]
    have y106 : Y.a 106 k = r.i 111 := by rw [hY, setA_nk (by decide), setA_nk (by decide), setA_nk (by decide), setA_nk (by decide), setA_at]
    have y105 : Y.a 105 k = r.i 110 := by rw [hY, setA_nk (by decide), setA_nk (by decide), setA_nk (by decide), setA_nk (by decide), setA_nk (by decide), setA_at]
    rw [eP]
    clear eP hY
    refine ⟨lc, rfl, fun j a b => ?_, ⟨ri_at, ?_⟩, ya, yn, y102, y105, y106, y107, y108, y109⟩
    · show (RS.setI (RS.setI Y 93 (r.a 104 k)) 92 (r.a 31 y0)).i j = r.i j
      rw [ri_ne a, ri_ne b, yi]
    · show (RS.setI (RS.setI Y 93 (r.a 104 k)) 92 (r.a 31 y0)).i 93 = r.a 104 k
      rw [ri_ne (by decide), ri_at]
  · rw [if_neg c] at g1
    left
    have lc := lt_int (Int32.not_le.mp c)
    rw [z_t0] at lc
    exact ⟨lc, (Option.some.inj g1).symm⟩
/-- how it will go on behind the finally of this entry -/
def PNX (s : CS) (r : RS) (mu : Nat → Nat) (AL : Als) (e : Ent) (c : List Ent) : Prop := (s.i 73 = 1 ∧ r.i 110 = 0 ∧ ((s.i 75 - s.i 75 / 32 * 32).toInt = (frs c : Int) ∧ (s.i 75 / 32).toInt = (e.x : Int) + 2) ∧ (FCP r AL e.y → ∃ p q w : Nat, (cTg s (s.i 75 / 32)).toInt = (p : Int) ∧ (r.a 32 e.y).toInt = (q : Int) ∧ AL p q e.h w 0 c ∧ w ≤ e.u)) ∨ (FCP r AL e.y → WYS s r mu AL c e.h e.u (s.i 73) (s.i 74) (s.i 75) s.w (r.i 110) (r.i 111) (r.i 112) (r.i 113) (r.i 114))
/-- the entry on top, in its catches or behind them -/
def TOPW (s : CS) (r : RS) (e : Ent) (c : List Ent) (f : Nat) : Prop := ((s.i 67).toInt = (frs c : Int) + 1 ∧ frs c ≤ 21) ∧ (s.r 61 (frs c) = some f ∧ s.o f 0 = 2 ∧ (s.o f 1).toInt = (e.x : Int) ∧ (s.o f 2).toInt = (e.h : Int)) ∧ (r.i 99).toInt = (c.length : Int) + 1 ∧ (r.a 100 c.length = 4 ∧ (r.a 101 c.length).toInt = (e.y : Int) ∧ (r.a 104 c.length).toInt = (e.h : Int))
/-- all else, below it -/
def BLW (nm : Nat → Nat → Prop) (s : CS) (r : RS) (mu : Nat → Nat) (AL : Als) (h : Nat) (c : List Ent) (n : Int) : Prop := s.i 72 = -1 ∧ (MVH s r h ∧ MTR s r ∧ ∀ k l : Nat, nm k l → s.a 59 k = r.a 84 l) ∧ FRS s r mu AL c (r.i 97).toInt ∧ OPW s r c ∧ s.i 71 = hS r 8 ∧ (0 ≤ (r.i 85).toInt ∧ (r.i 85).toInt + tps c ≤ 2 * (r.i 80).toInt + n) ∧ MUI r mu ∧ r.i 115 = 0 ∧ TLR s r
theorem fin_in {N H : Nat} (hN : 10000000000 ≤ N) {D : Nat → List Nat} {T : Int32 × CS} {s0 s : CS} {nm : Nat → Nat → Prop} {AL : Als} {mu : Nat → Nat} {h f p q w : Nat} {e : Ent} {c : List Ent} {r : RS} {x y : Int32} {P : Int32 × RS} (cr : CRN N H D T s0 s x) (hx : x.toInt < 4000000) (h73 : ¬ s.i 73 = 0) (lt : LTG s) (tp : TOPW s r e c f) (bl : BLW nm s r mu AL h c 0) (eh : e.h ≤ h) (e31 : (r.a 31 e.y).toInt = (q : Int)) (ec : (cTg s (s.o f 1 + 1)).toInt = (p : Int)) (al : AL p q e.h w 0 ((3, e.h, e.x, e.y, 0, 0, e.u) :: c)) (pn : PNX s r mu AL e c) (hy : y.toInt = (c.length : Int)) (g : f_X12_finals N r y = some P) : ¬ P.1 = 0 ∧ ∃ S : CS, CRN N H D T s0 S (x + 1) ∧ SYN nm S P.2 mu AL e.h p q ((3, e.h, e.x, e.y, 0, 0, e.u) :: c) 0 ∧ P.2.i 80 = r.i 80 := by
  obtain ⟨⟨t1, t2⟩, ⟨t3, t4, t5, t6⟩, t7, t8, t9, t10⟩ := tp
  obtain ⟨b1, ⟨b2, b3, b4⟩, b5, b6, b7, ⟨b8, b9⟩, b10, b11, b12⟩ := bl
  obtain ⟨S, e1, e2, e3⟩ := cr.lv hN b1 h73 hx
  have hr : REFS s := cr.1.1
  have eS := lo_f t1 (by omega) t3 lt t4 (by omega) e1
  obtain ⟨c1, ⟨c2, c3, c4⟩, ⟨c5, c6, c7⟩, c8, ⟨c9, c10, c11, c12, c13, c14⟩, c15⟩ := cfi_f (s := s) (f := f) (t := (cFi s f).o f 1 + 1)
  rw [← eS] at c1 c2 c3 c4 c5 c6 c7 c8 c9 c10 c11 c12 c13 c14
  rw [c15] at c3
  clear eS c15
  rcases fi_r hy t9 g with ⟨z, -⟩ | ⟨z, p1, p2, ⟨p3, p4⟩, p5, p6, p7, p8, p9, p10, p11, p12⟩
  · omega
  obtain ⟨P1, V⟩ := P
  have fk : oK s f 1 := hr.2.2.2.1 (frs c) f (by omega) t3
  have tlv : ∀ b : Nat, TLV s r mu b → TLV S V mu b := fun b t => by
    obtain ⟨j, j1, j2⟩ := t.2.2.1
    have kb := (hr.2.2.2.2.2.1 j b j1 j2).1.2
    have nb : b ≠ f := fun q => by
      rw [q, fk.2] at kb
      exact absurd kb (by decide)
    have p85 : V.i 85 = r.i 85 := p2 85 (by decide) (by decide)
    refine TLV.of (c8 b nb).1 (by rw [c7]) (by rw [c7]) (fun q => ?_) (by rw [p85]; exact Int.le_refl _) ?_ ?_ ?_ (fun i _ => ?_) (fun i _ => ?_) (p2 3 (by decide) (by decide)) t
    · unfold inP at *
      rw [c6]
      exact q
    all_goals exact congrFun (p5 _ (by decide) (by decide) (by decide) (by decide) (by decide) (by decide)) _
  have feq : FEQ s S r V mu mu c (r.i 97).toInt := by
    refine ⟨fun i g' hi hg => ?_, fun b _ t => ⟨tlv b t, rfl, congrFun (p5 87 (by decide) (by decide) (by decide) (by decide) (by decide) (by decide)) _⟩, ⟨by rw [c5], p5 21 (by decide) (by decide) (by decide) (by decide) (by decide) (by decide), p5 23 (by decide) (by decide) (by decide) (by decide) (by decide) (by decide), p5 31 (by decide) (by decide) (by decide) (by decide) (by decide) (by decide), p5 32 (by decide) (by decide) (by decide) (by decide) (by decide) (by decide)⟩, fun j k _ _ hk => p6 j k (by omega), fun a _ => ⟨fun k _ => by rw [c5], fun l _ => congrFun (p5 84 (by decide) (by decide) (by decide) (by decide) (by decide) (by decide)) _⟩, fun j _ => congrFun (p5 98 (by decide) (by decide) (by decide) (by decide) (by decide) (by decide)) _⟩
    have ng : g' ≠ f := fun q => by
      rw [q] at hg
      have := hr.2.2.2.2.1 i (frs c) f (by omega) (by omega) hg t3
      omega
    exact ⟨by rw [c6]; exact hg, c8 g' ng⟩
  have rfx : RFX r V := ⟨fun j hj => p2 j (by omega) (by omega), fun k hk => p5 k (by omega) (by omega) (by omega) (by omega) (by omega) (by omega)⟩
  have i85 : V.i 85 = r.i 85 := p2 85 (by decide) (by decide)
  have i80 : V.i 80 = r.i 80 := p2 80 (by decide) (by decide)
  have i95 : V.i 95 = r.i 95 := p2 95 (by decide) (by decide)
  refine ⟨by rw [p1]; exact n10, S, e3, ⟨⟨⟨⟨(c1 72 (by decide) (by decide) (by decide)).trans b1, c4⟩, by rw [c3]; exact ec, by rw [p3]; exact e31⟩, ⟨⟨by rw [c2]; exact t6, by rw [p4]; exact t10, by have := b2.1.2; omega⟩, fun k hk => ?_⟩, b3.of (c1 69 (by decide) (by decide) (by decide)) (c1 70 (by decide) (by decide) (by decide)) (by rw [c5]) i80 (p2 81 (by decide) (by decide)) (p5 82 (by decide) (by decide) (by decide) (by decide) (by decide) (by decide)) (p5 83 (by decide) (by decide) (by decide) (by decide) (by decide) (by decide)), fun k l hk => ?_⟩, ⟨⟨?_, ⟨?_, ?_⟩, ?_, ⟨by rw [i85]; exact b8, ?_⟩, ?_, (p2 115 (by decide) (by decide)).trans b11⟩, ?_⟩, b12.of (fun j hj => c1 j (by omega) (by omega) (by omega)) (fun k _ => by rw [c5]) rfx⟩, i80⟩
  · rw [c5, p5 94 (by decide) (by decide) (by decide) (by decide) (by decide) (by decide)]
    exact b2.1.1 k (by omega)
  · rw [c5, p5 84 (by decide) (by decide) (by decide) (by decide) (by decide) (by decide)]
    exact b4 k l hk
  · refine ⟨?_, Or.inr (Or.inr (Or.inr (Or.inl ⟨rfl, ?_, ⟨?_, p7⟩, ⟨f, ⟨by rw [c6]; exact t3, c9, by rw [c10]; exact t6⟩, ?_⟩, ?_⟩)))⟩
    · rw [p5 104 (by decide) (by decide) (by decide) (by decide) (by decide) (by decide)]
      exact t10
    · rw [p5 100 (by decide) (by decide) (by decide) (by decide) (by decide) (by decide)]
      exact t8
    · rw [p5 101 (by decide) (by decide) (by decide) (by decide) (by decide) (by decide)]
      exact t9
    · unfold PNF
      rw [c11, c12, c13, c14, p8, p9, p10, p11, p12]
      rcases pn with pn | pn
      · left
        unfold FCP cTg at *
        rw [c5, p5 21 (by decide) (by decide) (by decide) (by decide) (by decide) (by decide), p5 32 (by decide) (by decide) (by decide) (by decide) (by decide) (by decide)]
        exact pn
      · right
        intro fc
        have fc' : FCP r AL e.y := by
          unfold FCP at *
          rw [p5 21 (by decide) (by decide) (by decide) (by decide) (by decide) (by decide)] at fc
          exact fc
        exact (pn fc').of (by rw [c5]) (p5 21 (by decide) (by decide) (by decide) (by decide) (by decide) (by decide)) (p5 31 (by decide) (by decide) (by decide) (by decide) (by decide) (by decide)) (p5 23 (by decide) (by decide) (by decide) (by decide) (by decide) (by decide)) (fun b _ t => ⟨tlv b t, rfl⟩)
    · rw [p2 97 (by decide) (by decide)]
      exact b5.of feq
  · rw [c1 67 (by decide) (by decide) (by decide), t1, frs_up (show Ent.k (3, e.h, e.x, e.y, 0, 0, e.u) ≤ 3 from Nat.le_refl 3)]
    omega
  · rw [p2 99 (by decide) (by decide), t7]
    show (c.length : Int) + 1 = ((c.length + 1 : Nat) : Int)
    omega
  · rw [c1 71 (by decide) (by decide) (by decide), hS_of (p5 91 (by decide) (by decide) (by decide) (by decide) (by decide) (by decide))]
    exact b7
  · rw [i85, i80]
    exact b9
  · unfold MUI at *
    rw [i85]
    exact b10
  · obtain ⟨o1, o2, o3, o4, o5, o6⟩ := b6
    refine ⟨by rw [c1 68 (by decide) (by decide) (by decide), i95]; exact o1, by rw [i95]; exact o2, by rw [i95]; exact o3, o4, fun k hk => ?_, by rw [i95]; exact ⟨fun z => absurd (show (3 : Nat) = 1 from z) (by decide), fun _ => o6.of (fun k _ => by rw [p5 103 (by decide) (by decide) (by decide) (by decide) (by decide) (by decide)])⟩⟩
    rw [i95] at hk
    rw [c5, p5 96 (by decide) (by decide) (by decide) (by decide) (by decide) (by decide)]
    exact o5 k hk
end
section
/-! both machines: a jump, a yield arrives; a run ends -/
theorem FRS.fr {s : CS} {r : RS} {mu : Nat → Nat} {AL : Als} : ∀ {c : List Ent} {m : Int}, FRS s r mu AL c m → ∀ i : Nat, i < frs c → ∃ f : Nat, s.r 61 i = some f
  | [], _, _, i, hi => absurd hi (Nat.not_lt_zero i)
  | e :: c, m, ⟨_, h⟩, i, hi => by
    have up : ∀ {m' : Int}, FRS s r mu AL c m' → (∃ f : Nat, s.r 61 (frs c) = some f) → ∃ f : Nat, s.r 61 i = some f := fun {m'} g ⟨f, hf⟩ => by
      by_cases z : i < frs c
      · exact FRS.fr g i z
      · have : frs (e :: c) ≤ frs c + 1 := by
          show frs c + (if e.k ≤ 3 then 1 else 0) ≤ frs c + 1
          by_cases q : e.k ≤ 3
          · rw [if_pos q]
            omega
          · rw [if_neg q]
            omega
        have e1 : i = frs c := by omega
        rw [e1]
        exact ⟨f, hf⟩
    rcases h with ⟨k0, a1, ⟨f, a2, a3⟩, a4⟩ | ⟨k1, a1, a2, ⟨f, a3, a4, a5, a6⟩, a7⟩ | ⟨k2, a1, a2, ⟨f, b, a3, a4⟩, a9⟩ | ⟨k3, a1, a2, ⟨f, a3, a4⟩, a5⟩ | ⟨k4, a1, m0, a2, a3⟩ | ⟨k5, a1, a2, a3⟩
    · exact up a4 ⟨f, a2.1⟩
    · exact up a7 ⟨f, a3.1⟩
    · exact up a9 ⟨f, a3.1⟩
    · exact up a5 ⟨f, a3.1⟩
    · rw [frs_eq (by omega)] at hi
      exact FRS.fr a3 i hi
    · rw [frs_eq (by omega)] at hi
      exact FRS.fr a3 i hi
/-- the class arrives: the top frame, if there is one, stays -/
theorem cl_arr {N H : Nat} (hN : 10000000000 ≤ N) {D : Nat → List Nat} {T : Int32 × CS} {s0 s : CS} {r : RS} {mu : Nat → Nat} {AL : Als} {c : List Ent} {m : Int} {x : Int32} (cr : CRN N H D T s0 s x) (hx : x.toInt < 4000000) (h72 : s.i 72 = -1) (h73 : ¬ s.i 73 = 0) (d67 : (s.i 67).toInt = (frs c : Int)) (d22 : frs c ≤ 22) (fr : FRS s r mu AL c m) (ng : frs c = 0 ∨ ¬ LTG s) : ∃ S : CS, f_X3_arrive N s = some ((), S) ∧ MR s S ∧ CRN N H D T s0 S (x + 1) := by
  obtain ⟨S, e1, e2, e3⟩ := cr.lv hN h72 h73 hx
  refine ⟨S, lo_arr ?_ e1, e2, e3⟩
  by_cases z : frs c = 0
  · left
    omega
  · right
    obtain ⟨f, hf⟩ := fr.fr (frs c - 1) (by omega)
    exact ⟨frs c - 1, f, by omega, by omega, hf, ng.resolve_left z⟩
/-- only the way and the place change -/
theorem SYN.mk1 {nm : Nat → Nat → Prop} {s : CS} {r : RS} {mu : Nat → Nat} {AL : Als} {h p q : Nat} {c : List Ent} {y z : Int32} (h72 : s.i 72 = -1) (mv : MVS s r h) (mt : MTR s r) (nn : ∀ k l : Nat, nm k l → s.a 59 k = r.a 84 l) (dy : DYN s r mu AL c 0) (tr : TLR s r) (hy : y.toInt = (p : Int)) (hz : z.toInt = (q : Int)) : SYN nm (CS.setI (CS.setI s 66 y) 73 0) (RS.setI r 92 z) mu AL h p q c 0 := by
  obtain ⟨⟨d1, d2, d3, d4, d5, d6⟩, o⟩ := dy
  have ci : ∀ j : Nat, j ≠ 66 → j ≠ 73 → (CS.setI (CS.setI s 66 y) 73 0).i j = s.i j := fun j a b => by rw [ci_ne _ _ _ b, ci_ne _ _ _ a]
  have ri : ∀ j : Nat, j ≠ 92 → (RS.setI r 92 z).i j = r.i j := fun j a => ri_ne a
  obtain ⟨S, hS⟩ : ∃ S, S = CS.setI (CS.setI s 66 y) 73 0 := ⟨_, rfl⟩
  obtain ⟨R, hR⟩ : ∃ R, R = RS.setI r 92 z := ⟨_, rfl⟩
  have sa : S.a = s.a ∧ S.r = s.r ∧ S.w = s.w ∧ S.o = s.o ∧ S.ot = s.ot ∧ S.oa = s.oa := by
    rw [hS]
    exact ⟨rfl, rfl, rfl, rfl, rfl, rfl⟩
  have ra : R.a = r.a := by
    rw [hR]
    rfl
  have s66 : (S.i 66).toInt = (p : Int) := by
    rw [hS, ci_ne _ _ _ (by decide), ci_at]
    exact hy
  have s73 : S.i 73 = 0 := by rw [hS, ci_at]
  have r92 : (R.i 92).toInt = (q : Int) := by
    rw [hR, ri_at]
    exact hz
  rw [← hS] at ci
  rw [← hR] at ri
  rw [← hS, ← hR]
  clear hS hR
  obtain ⟨a1, a2, a3, a4, a5, a6⟩ := sa
  have tlv : ∀ b : Nat, TLV s r mu b → TLV S R mu b := fun b t => by
    unfold TLV THG inP at *
    rw [a2, a4, a6, ra, ri 85 (by decide), ri 3 (by decide)]
    exact t
  have feq : FEQ s S r R mu mu c (r.i 97).toInt := ⟨fun i f _ hf => ⟨by rw [a2]; exact hf, by rw [a4], by rw [a5]⟩, fun b _ t => ⟨tlv b t, rfl, by rw [ra]⟩, ⟨by rw [a1], by rw [ra], by rw [ra], by rw [ra], by rw [ra]⟩, fun j k _ _ _ => by rw [ra], fun a _ => ⟨fun k _ => by rw [a1], fun l _ => by rw [ra]⟩, fun j _ => by rw [ra]⟩
  refine ⟨⟨⟨⟨(ci 72 (by decide) (by decide)).trans h72, s73⟩, s66, r92⟩, mv.of (ci 65 (by decide) (by decide)) (by rw [a1]) (ri 93 (by decide)) (by rw [ra]), mt.of (ci 69 (by decide) (by decide)) (ci 70 (by decide) (by decide)) (by rw [a1]) (ri 80 (by decide)) (ri 81 (by decide)) (by rw [ra]) (by rw [ra]), fun k l hk => by rw [a1, ra]; exact nn k l hk⟩, ⟨⟨by rw [ri 97 (by decide)]; exact d1.of feq, ⟨by rw [ci 67 (by decide) (by decide)]; exact d2.1, by rw [ri 99 (by decide)]; exact d2.2⟩, by rw [ci 71 (by decide) (by decide), hS_of (r := r) (R := R) (by rw [ra]) 8]; exact d3, by rw [ri 85 (by decide), ri 80 (by decide)]; exact d4, ?_, (ri 115 (by decide)).trans d6⟩, ?_⟩, tr.of (fun j hj => ci j (by omega) (by omega)) (fun k _ => by rw [a1]) ⟨fun j hj => ri j (by omega), fun k _ => by rw [ra]⟩⟩
  · unfold MUI at *
    rw [ri 85 (by decide)]
    exact d5
  · obtain ⟨o1, o2, o3, o4, o5, o6⟩ := o
    unfold OPW
    rw [ci 68 (by decide) (by decide), ri 95 (by decide), a1, ra]
    exact ⟨o1, o2, o3, o4, o5, o6.of (fun k _ => by rw [ra])⟩
/-- a jump arrives -/
theorem arr_1 {N H n0 : Nat} (hN : 10000000000 ≤ N) {D : Nat → List Nat} {T : Int32 × CS} {s0 s : CS} {nm : Nat → Nat → Prop} {AL : Als} {mu : Nat → Nat} {h u : Nat} {c : List Ent} {r V : RS} {x : Int32} {n : Int} {B : Int} (cr : CRN N H D T s0 s x) (d22 : frs c ≤ 22) (l : LVR nm s r mu AL h c n u) (e73 : s.i 73 = 1) (e110 : r.i 110 = 1) {p q w : Nat} (t32 : (s.i 75 - s.i 75 / 32 * 32).toInt = (frs c : Int)) (d112 : (r.i 112).toInt = (c.length : Int)) (ep : (cTg s (s.i 75 / 32)).toInt = (p : Int)) (eq : (r.i 111).toInt = (q : Int)) (al : AL p q h w 0 c) (hw : w ≤ u) (hB : x.toInt + fps c + u + 1 ≤ B) (hB4 : B ≤ 4000000) (g : f_X12_leave_0 N n0 r = some V) : LVO N H D T s0 nm AL V (r.i 80) B := by
  obtain ⟨l1, ⟨l2, l3, l4⟩, l5, ⟨l7, l8⟩, l9, l10⟩ := l
  obtain ⟨d1, ⟨d2, d2'⟩, -⟩ := id l5.1
  have nz : n = 0 := l8 (by rw [e73]; decide)
  rw [nz] at l5
  obtain ⟨S, e1, -, e3⟩ := cl_arr hN cr (by omega) l1 (by rw [e73]; decide) d2 d22 d1 (Or.inr (fun z => by
    unfold LTG at z
    have := lt_int z
    omega))
  cases n0 with
  | zero => cases g
  | succ n0 =>
    have eV := lv_g1 e110 (by rw [Int32.le_iff_toInt_le]; omega) g
    unfold f_X3_arrive f_X3_arrive_48 at e1
    rw [if_neg (by rw [e73]; decide), if_neg (by rw [e73]; decide), if_neg (by rw [e73]; decide)] at e1
    have eS : S = CS.setI (CS.setI s 66 (gAt (s.a 17) 1024 (s.i 75 / 32))) 73 0 := (congrArg Prod.snd (Option.some.inj e1)).symm
    have sy : SYN nm S V mu AL h p q c 0 := by
      rw [eS, eV]
      exact SYN.mk1 l1 (l2.mvs (by rw [e73]; decide)) l3 l4 l5 l10 ep eq
    have x0 := cr.2.2.1.1
    refine ⟨by rw [eV, ri_ne (by decide)], Or.inl ⟨S, x + 1, mu, h, p, q, w, c, e3, sy, al, ?_⟩⟩
    rw [ad1 x0 (by omega)]
    omega
/-- a run ends: a return, a throw -/
theorem arr_E {N H n0 : Nat} (hN : 10000000000 ≤ N) {D : Nat → List Nat} {T : Int32 × CS} {s0 s : CS} {nm : Nat → Nat → Prop} {AL : Als} {mu : Nat → Nat} {h u : Nat} {r V : RS} {x : Int32} {n : Int} {B : Int} (cr : CRN N H D T s0 s x) (l : LVR nm s r mu AL h [] n u) (e73 : s.i 73 = 3 ∨ s.i 73 = 4) (hx : x.toInt < 4000000) (g : f_X12_leave_0 N n0 r = some V) : LVO N H D T s0 nm AL V (r.i 80) B := by
  obtain ⟨l1, ⟨l2, ⟨⟨l3, -, l3'⟩, ⟨l3a, l3b, l3c⟩, l3d⟩, l4⟩, ⟨⟨d1, ⟨d2, d2'⟩, d3, ⟨d4, d5⟩, d6, d7⟩, -⟩, ⟨l7, l8⟩, l9, l10⟩ := l
  obtain ⟨S, e1, -, ⟨-, -, -, n1, e4⟩⟩ := cl_arr hN cr hx l1 (by rcases e73 with e | e <;> rw [e] <;> decide) d2 (Nat.zero_le _) d1 (Or.inl rfl)
  have ze : (0 : Int32).toInt = 0 := by decide
  have hs : ∀ v : Int32, hS (RS.setI (RS.setI r 115 v) 92 (-1)) 8 = hS r 8 := fun v => hS_of rfl 8
  cases n0 with
  | zero => cases g
  | succ n0 =>
    unfold f_X3_arrive at e1
    rcases l9 with ⟨a, -⟩ | ⟨a, -⟩ | ⟨a1, a2, a3, a4⟩ | ⟨a1, a2, a3, b, a4, a5, a6⟩
    · rcases e73 with e | e <;> rw [a] at e <;> exact absurd e (by decide)
    · rcases e73 with e | e <;> rw [a] at e <;> exact absurd e (by decide)
    · have eV := lv_gE (by rw [a2]; decide) (by rw [a2]; decide) (by rw [Int32.le_iff_toInt_le, ze]; exact Int.le_of_eq d2') g
      rw [if_pos a1] at e1
      have eS : S = CS.setI s 72 1 := (congrArg Prod.snd (Option.some.inj e1)).symm
      have s72 : S.i 72 = 1 := by rw [eS, ci_at]
      have v115 : V.i 115 = 2 := by
        rw [eV, ri_ne (by decide), ri_at]
        exact a2
      refine ⟨by rw [eV, ri_ne (by decide), ri_ne (by decide)], Or.inr ⟨S, pf_end (by rw [s72]; decide) e4, ?_, ⟨⟨?_, ?_, ?_⟩, ⟨⟨fun _ => v115, fun _ => s72⟩, fun z => ?_, fun z => ?_⟩, fun _ => ?_, fun k hk => ?_, ?_, fun z => ?_⟩, Or.inl ⟨s72, v115⟩⟩⟩
      · rw [eV, ri_at]
        decide
      · rw [eS, eV, ci_ne _ _ _ (by decide), ri_ne (by decide), ri_ne (by decide)]
        exact l3
      · rw [eS, eV, ci_ne _ _ _ (by decide), ri_ne (by decide), ri_ne (by decide)]
        exact l3a
      · rw [eV, ri_ne (by decide), ri_ne (by decide)]
        exact ⟨l3b, l3c⟩
      · rw [s72] at z
        exact absurd z (by decide)
      · rw [v115] at z
        exact absurd z (by decide)
      · rw [eS, eV, ci_ne _ _ _ (by decide), ri_ne (by decide), ri_ne (by decide)]
        exact a3
      · rw [eV, ri_ne (by decide), ri_ne (by decide)] at hk
        rw [eS, eV]
        exact l3d k hk
      · rw [eS, eV, ci_ne _ _ _ (by decide), hs]
        exact d3
      · rw [v115] at z
        exact absurd z (by decide)
    · have eV := lv_gE (by rw [a2]; decide) (by rw [a2]; decide) (by rw [Int32.le_iff_toInt_le, ze]; exact Int.le_of_eq d2') g
      rw [if_neg (by rw [a1]; decide), if_pos a1] at e1
      have eS : S = CS.setI s 72 2 := (congrArg Prod.snd (Option.some.inj e1)).symm
      have s72 : S.i 72 = 2 := by rw [eS, ci_at]
      have v115 : V.i 115 = 3 := by
        rw [eV, ri_ne (by decide), ri_at]
        exact a2
      have tb : (tps [] : Int) = 0 := rfl
      refine ⟨by rw [eV, ri_ne (by decide), ri_ne (by decide)], Or.inr ⟨S, pf_end (by rw [s72]; decide) e4, ?_, ⟨⟨?_, ?_, ?_⟩, ⟨⟨fun z => ?_, fun z => ?_⟩, fun _ => v115, fun _ => s72⟩, fun z => ?_, fun k hk => ?_, ?_, fun _ => ⟨b, mu b, ?_, ?_, ?_, ?_⟩⟩, Or.inr ⟨s72, v115⟩⟩⟩
      · rw [eV, ri_at]
        decide
      · rw [eS, eV, ci_ne _ _ _ (by decide), ri_ne (by decide), ri_ne (by decide)]
        exact l3
      · rw [eS, eV, ci_ne _ _ _ (by decide), ri_ne (by decide), ri_ne (by decide)]
        exact l3a
      · rw [eV, ri_ne (by decide), ri_ne (by decide)]
        exact ⟨l3b, l3c⟩
      · rw [s72] at z
        exact absurd z (by decide)
      · rw [v115] at z
        exact absurd z (by decide)
      · rw [v115] at z
        exact absurd z (by decide)
      · rw [eV, ri_ne (by decide), ri_ne (by decide)] at hk
        rw [eS, eV]
        exact l3d k hk
      · rw [eS, eV, ci_ne _ _ _ (by decide), hs]
        exact d3
      · rw [eS, cw_setI]
        exact a4
      · rw [eV, ri_ne (by decide), ri_ne (by decide)]
        exact a5
      · have := a6.2.1
        omega
      · rw [eS, eV]
        exact a6.1
end
section
/-! both machines: leaving, entry by entry -/
theorem hS_dec {r R : RS} {m : Nat} {v : Int32} (h1 : R.a 91 m = r.a 91 m + v) (h2 : ∀ j : Nat, j ≠ m → R.a 91 j = r.a 91 j) : ∀ n : Nat, (n ≤ m → hS R n = hS r n) ∧ (m < n → hS R n = hS r n + v)
  | 0 => ⟨fun _ => rfl, fun h => absurd h (Nat.not_lt_zero m)⟩
  | n + 1 => by
    obtain ⟨i1, i2⟩ := hS_dec h1 h2 n
    refine ⟨fun h => ?_, fun h => ?_⟩
    · show hS R n + R.a 91 n = hS r n + r.a 91 n
      rw [i1 (by omega), h2 n (by omega)]
    · show hS R n + R.a 91 n = hS r n + r.a 91 n + v
      by_cases z : n = m
      · rw [i1 (by omega), z, h1, Int32.add_assoc]
      · rw [i2 (by omega), h2 n z, Int32.add_assoc, Int32.add_assoc, Int32.add_comm v]
/-- one entry less, or all is over -/
def STP (N H : Nat) (D : Nat → List Nat) (T : Int32 × CS) (s0 : CS) (nm : Nat → Nat → Prop) (AL : Als) (h u : Nat) (V : RS) (s : CS) (r : RS) (c : List Ent) (n0 : Nat) (B : Int) : Prop := LVO N H D T s0 nm AL V (r.i 80) B ∨ ∃ (S : CS) (R : RS) (mu : Nat → Nat) (n : Int) (x : Int32), CRN N H D T s0 S x ∧ LVR nm S R mu AL h c n u ∧ f_X12_leave_0 N n0 R = some V ∧ x.toInt + fps c + u + 1 ≤ B ∧ (S.a 15 = s.a 15 ∧ S.a 16 = s.a 16 ∧ S.a 17 = s.a 17) ∧ RFX r R ∧ R.i 80 = r.i 80
theorem nd_ofw {r : RS} {c : List Ent} {e : Ent} {way : Int32} (h99 : (r.i 99).toInt = ((e :: c).length : Int)) (hw : way = 1 → r.i 110 = 1) (hw2 : way = 2 → r.i 110 = 4) (g : LVG r) : way = 1 ∨ way = 2 → ¬ (r.i 112).toInt = (c.length : Int) + 1 := by
  intro w z
  have el : ((e :: c).length : Int) = (c.length : Int) + 1 := by
    show ((c.length + 1 : Nat) : Int) = _
    omega
  rcases g with ⟨-, g2⟩ | ⟨g1, g2, -⟩
  · exact g2 (by rw [Int32.le_iff_toInt_le]; omega)
  · rcases w with w | w
    · exact g1 (hw w)
    · exact g2 (hw2 w)
theorem WYS.hw {s : CS} {r : RS} {mu : Nat → Nat} {AL : Als} {c : List Ent} {h u : Nat} {way val T how x d value g : Int32} {t : Option Nat} (k : WYS s r mu AL c h u way val T t how x d value g) : (way = 1 → how = 1) ∧ (way = 2 → how = 4) ∧ ¬ way = 0 ∧ (way = 3 → how = 2) ∧ (way = 4 → how = 3) := by
  rcases k with ⟨a, b, -⟩ | ⟨a, b, -⟩ | ⟨a, b, -⟩ | ⟨a, b, -⟩ <;> rw [a, b] <;> decide
theorem idx1 {r : RS} {k : Nat} (h : (r.i 99).toInt = ((k + 1 : Nat) : Int)) : (r.i 99 - 1).toInt = (k : Int) ∧ (r.i 99 - 1).toNatClampNeg = k := by
  have z : (r.i 99 - 1).toInt = (k : Int) := sub_n1 (by omega)
  exact ⟨z, cl_nat z⟩
theorem ltg_of {s : CS} {r : RS} {mu : Nat → Nat} {AL : Als} {e : Ent} {c : List Ent} {h u : Nat} {val how x d value g : Int32} {t : Option Nat} (hk : e.k ≤ 3) (k : WYS s r mu AL (e :: c) h u (s.i 73) val (s.i 75) t how x d value g) (nd : s.i 73 = 1 ∨ s.i 73 = 2 → ¬ d.toInt = (c.length : Int) + 1) (h67 : (s.i 67).toInt = (frs (e :: c) : Int)) : LTG s := by
  have ap : ∀ (a b : List Ent), frs b ≤ frs (a ++ b) := fun a b => by
    induction a with
    | nil => exact Nat.le_refl _
    | cons z a ih => exact Nat.le_trans ih frs_le
  have up := frs_up (c := c) hk
  unfold LTG
  rw [Int32.lt_iff_toInt_lt, h67, up]
  rcases k with ⟨a1, a2, c1, c0, b1, ⟨b2, b3⟩, -⟩ | ⟨a1, a2, a3, c1, a, c0, b1, b2, ⟨b3, b4⟩, -⟩ | ⟨a1, a2, a3, a4⟩ | ⟨a1, a2, a3, a4⟩
  · cases c1 with
    | nil =>
      have e0 : c0 = e :: c := b1.symm
      rw [e0] at b3
      exact absurd b3 (nd (Or.inl a1))
    | cons e' c1 =>
      have e2 : c = c1 ++ c0 := (List.cons.inj b1).2
      have := ap c1 c0
      rw [← e2] at this
      omega
  · cases c1 with
    | nil =>
      have e1 : e = a ∧ c = c0 := List.cons.inj b1
      rw [← e1.2] at b4
      exact absurd b4 (nd (Or.inr a1))
    | cons e' c1 =>
      have e2 : c = c1 ++ a :: c0 := (List.cons.inj b1).2
      have := ap c1 (a :: c0)
      rw [← e2] at this
      have := frs_le (e := a) (c := c0)
      omega
  · rw [a4, show ((0 : Int32) - 0 / 32 * 32).toInt = 0 by decide]
    omega
  · rw [a3, show ((0 : Int32) - 0 / 32 * 32).toInt = 0 by decide]
    omega
theorem fps_le {e : Ent} {c : List Ent} : fps c ≤ fps (e :: c) := by
  show fps c ≤ fps c + (if e.k = 0 then 2 else if e.k = 1 then 1460 else if e.k = 2 then 1154 else if e.k = 3 then 1152 else 0)
  omega
/-- a row, or arms, go: the class does nothing -/
theorem st_45 {N H n0 : Nat} {D : Nat → List Nat} {T : Int32 × CS} {s0 s : CS} {nm : Nat → Nat → Prop} {AL : Als} {mu : Nat → Nat} {h u : Nat} {e : Ent} {c : List Ent} {r V : RS} {x : Int32} {n : Int} {B : Int} (hk : e.k = 4 ∨ e.k = 5) (cr : CRN N H D T s0 s x) (l : LVR nm s r mu AL h (e :: c) n u) (ng : LVG r) (hB : x.toInt + fps (e :: c) + u + 1 ≤ B) (g : f_X12_leave_0 N (n0 + 1) r = some V) : STP N H D T s0 nm AL h u V s r c n0 B := by
  obtain ⟨l1, ⟨l2, l3, l4⟩, ⟨⟨⟨d0, d1⟩, ⟨d2, d2'⟩, d3, d4, d6, d7⟩, op⟩, -, l9, -⟩ := id l
  have g1 := lv_ng ng g
  obtain ⟨x1, x2⟩ := idx1 (r := r) (k := c.length) d2'
  have fl := fps_le (e := e) (c := c)
  have hf : frs (e :: c) = frs c := frs_eq (by omega)
  replace op := op.tl (by omega)
  have nd := nd_ofw d2' l9.hw.1 l9.hw.2.1 ng
  have hfc : e.k = 1 ∨ e.k = 2 → 0 ≤ (r.a 31 e.y).toInt → FCP r AL e.y := fun q => by omega
  rcases d1 with ⟨k0, -⟩ | ⟨k0, -⟩ | ⟨k0, -⟩ | ⟨k0, -⟩ | ⟨k4, a1, m0, a2, a3⟩ | ⟨k5, a1, a2, a3⟩
  · omega
  · omega
  · omega
  · omega
  · have g2 := lv_r2 x2 a1 g1
    obtain ⟨i, b1, b2, b3, b4, -⟩ := a2
    have sm : SAM s s r (RS.setI (RS.setI r 97 (r.a 101 c.length)) 99 (r.i 99 - 1)) := ⟨fun _ _ _ _ => rfl, fun _ _ => rfl, ⟨rfl, rfl, rfl, rfl, rfl⟩, fun j _ q1 q2 => by rw [ri_ne q2, ri_ne q1], fun _ _ _ _ => rfl⟩
    have m97 : ((RS.setI (RS.setI r 97 (r.a 101 c.length)) 99 (r.i 99 - 1)).i 97).toInt = m0 := by
      rw [ri_ne (by decide), ri_at]
      exact b4
    refine Or.inr ⟨s, _, mu, n, x, cr, pop_sam l sm (l3.of rfl rfl rfl (by rw [ri_ne (by decide), ri_ne (by decide)]) (by rw [ri_ne (by decide), ri_ne (by decide)]) rfl rfl) (by rw [m97]; exact a3) (by rw [d2, hf]) (by rw [ri_at]; exact x1) op (d3.trans (hS_of (r := r) rfl 8).symm) nd hfc, g2, by omega, ⟨rfl, rfl, rfl⟩, sm.rfx, by rw [ri_ne (by decide), ri_ne (by decide)]⟩
  · have g2 := lv_r3 x2 a1 g1
    have sm : SAM s s r (RS.setI r 99 (r.i 99 - 1)) := ⟨fun _ _ _ _ => rfl, fun _ _ => rfl, ⟨rfl, rfl, rfl, rfl, rfl⟩, fun j _ q1 q2 => ri_ne q2, fun _ _ _ _ => rfl⟩
    refine Or.inr ⟨s, _, mu, n, x, cr, pop_sam l sm (l3.of rfl rfl rfl (ri_ne (by decide)) (ri_ne (by decide)) rfl rfl) (by rw [ri_ne (by decide)]; exact a3) (by rw [d2, hf]) (by rw [ri_at]; exact x1) op (d3.trans (hS_of (r := r) rfl 8).symm) nd hfc, g2, by omega, ⟨rfl, rfl, rfl⟩, sm.rfx, ri_ne (by decide)⟩
/-- a frame that goes with no more -/
theorem st_pp {N H n0 : Nat} {D : Nat → List Nat} {T : Int32 × CS} {s0 s S : CS} {nm : Nat → Nat → Prop} {AL : Als} {mu : Nat → Nat} {h u : Nat} {e : Ent} {c : List Ent} {r V : RS} {x : Int32} {n : Int} {B : Int} (hk : e.k = 2 ∨ e.k = 3) (cr : CRN N H D T s0 S x) (l : LVR nm s r mu AL h (e :: c) n u) (fr : FRS s r mu AL c (r.i 97).toInt) (nd : s.i 73 = 1 ∨ s.i 73 = 2 → ¬ (r.i 112).toInt = (c.length : Int) + 1) (hfc : e.k = 1 ∨ e.k = 2 → 0 ≤ (r.a 31 e.y).toInt → FCP r AL e.y) (eS : S = CS.setI s 67 (s.i 67 - 1)) (hB : x.toInt + fps c + u + 1 ≤ B) (g : f_X12_leave_0 N n0 (RS.setI r 99 (r.i 99 - 1)) = some V) : STP N H D T s0 nm AL h u V s r c n0 B := by
  obtain ⟨l1, ⟨l2, l3, l4⟩, ⟨⟨⟨d0, d1⟩, ⟨d2, d2'⟩, d3, d4, d6, d7⟩, op⟩, -, l9, -⟩ := id l
  obtain ⟨x1, x2⟩ := idx1 (r := r) (k := c.length) d2'
  have hf : frs (e :: c) = frs c + 1 := frs_up (by omega)
  replace op := op.tl (by omega)
  have sm : SAM s S r (RS.setI r 99 (r.i 99 - 1)) := by
    rw [eS]
    exact ⟨fun j q _ _ => ci_ne _ _ _ q, fun _ _ => rfl, ⟨rfl, rfl, rfl, rfl, rfl⟩, fun j _ _ q => ri_ne q, fun _ _ _ _ => rfl⟩
  have si := sm.1
  refine Or.inr ⟨S, _, mu, n, x, cr, pop_sam l sm (l3.of (by rw [eS, ci_ne _ _ _ (by decide)]) (by rw [eS, ci_ne _ _ _ (by decide)]) (by rw [eS]; rfl) (ri_ne (by decide)) (ri_ne (by decide)) rfl rfl) (by rw [ri_ne (by decide)]; exact fr) ?_ (by rw [ri_at]; exact x1) op (by rw [eS, ci_ne _ _ _ (by decide)]; exact d3.trans (hS_of (r := r) rfl 8).symm) nd hfc, g, hB, by rw [eS]; exact ⟨rfl, rfl, rfl⟩, sm.rfx, ri_ne (by decide)⟩
  rw [eS, ci_at]
  exact sub_n1 (by rw [d2, hf]; omega)
/-- a finally that was left goes -/
theorem st_3 {N H n0 : Nat} (hN : 10000000000 ≤ N) {D : Nat → List Nat} {T : Int32 × CS} {s0 s : CS} {nm : Nat → Nat → Prop} {AL : Als} {mu : Nat → Nat} {h u : Nat} {e : Ent} {c : List Ent} {r V : RS} {x : Int32} {n : Int} {B : Int} (hk : e.k = 3) (d22 : frs (e :: c) ≤ 22) (cr : CRN N H D T s0 s x) (l : LVR nm s r mu AL h (e :: c) n u) (ng : LVG r) (hB : x.toInt + fps (e :: c) + u + 1 ≤ B) (hB4 : B ≤ 4000000) (g : f_X12_leave_0 N (n0 + 1) r = some V) : STP N H D T s0 nm AL h u V s r c n0 B := by
  obtain ⟨l1, ⟨l2, l3, l4⟩, ⟨⟨⟨d0, d1⟩, ⟨d2, d2'⟩, d3, d4, d6, d7⟩, op⟩, -, l9, -⟩ := id l
  have g1 := lv_ng ng g
  obtain ⟨x1, x2⟩ := idx1 (r := r) (k := c.length) d2'
  have hf : frs (e :: c) = frs c + 1 := frs_up (by omega)
  have fp : fps (e :: c) = fps c + 1152 := by
    show fps c + (if e.k = 0 then 2 else if e.k = 1 then 1460 else if e.k = 2 then 1154 else if e.k = 3 then 1152 else 0) = fps c + 1152
    rw [if_neg (by omega), if_neg (by omega), if_neg (by omega), if_pos hk]
  have nd := nd_ofw d2' l9.hw.1 l9.hw.2.1 ng
  have lt := ltg_of (by omega) l9 nd d2
  have hfc : e.k = 1 ∨ e.k = 2 → 0 ≤ (r.a 31 e.y).toInt → FCP r AL e.y := fun q => by omega
  rcases d1 with ⟨k0, -⟩ | ⟨k0, -⟩ | ⟨k0, -⟩ | ⟨k3, a1, ⟨a2, a3⟩, ⟨f, a4, a5⟩, a6⟩ | ⟨k0, -⟩ | ⟨k0, -⟩
  · omega
  · omega
  · omega
  · have g2 := lv_r42 x2 a1 a3 g1
    obtain ⟨S, e1, e2, e3⟩ := cr.lv hN l1 l9.hw.2.2.1 (by omega)
    have eS := lo_p (by rw [d2, hf]; omega) (by omega) a4.1 lt (Or.inl a4.2.1) e1
    have x0 := cr.2.2.1.1
    exact st_pp (Or.inr hk) e3 l a6 nd hfc eS (by rw [ad1 x0 (by omega)]; omega) g2
  · omega
  · omega
end
section
/-! both machines: leaving a lock, a catch; a yield arrives -/
theorem st_0 {N H n0 : Nat} (hN : 10000000000 ≤ N) {D : Nat → List Nat} {T : Int32 × CS} {s0 s : CS} {nm : Nat → Nat → Prop} {AL : Als} {mu : Nat → Nat} {h u : Nat} {e : Ent} {c : List Ent} {r V : RS} {x : Int32} {n : Int} {B : Int} (hk : e.k = 0) (d22 : frs (e :: c) ≤ 22) (cr : CRN N H D T s0 s x) (l : LVR nm s r mu AL h (e :: c) n u) (ng : LVG r) (hB : x.toInt + fps (e :: c) + u + 1 ≤ B) (hB4 : B ≤ 4000000) (g : f_X12_leave_0 N (n0 + 1) r = some V) : STP N H D T s0 nm AL h u V s r c n0 B := by
  obtain ⟨l1, ⟨l2, l3, l4⟩, ⟨⟨⟨d0, d1⟩, ⟨d2, d2'⟩, d3, d4, d6, d7⟩, op⟩, -, l9, -⟩ := id l
  have g1 := lv_ng ng g
  obtain ⟨x1, x2⟩ := idx1 (r := r) (k := c.length) d2'
  have hf : frs (e :: c) = frs c + 1 := frs_up (by omega)
  replace op := op.tl (by omega)
  have fp : fps (e :: c) = fps c + 2 := by
    show fps c + (if e.k = 0 then 2 else if e.k = 1 then 1460 else if e.k = 2 then 1154 else if e.k = 3 then 1152 else 0) = fps c + 2
    rw [if_pos hk]
  have nd := nd_ofw d2' l9.hw.1 l9.hw.2.1 ng
  have lt := ltg_of (by omega) l9 nd d2
  have hfc : e.k = 1 ∨ e.k = 2 → 0 ≤ (r.a 31 e.y).toInt → FCP r AL e.y := fun q => by omega
  rcases d1 with ⟨k0, a1, ⟨f, a2, a3⟩, a4⟩ | ⟨k0, -⟩ | ⟨k0, -⟩ | ⟨k0, -⟩ | ⟨k0, -⟩ | ⟨k0, -⟩
  · obtain ⟨Q, q1, q2, q3⟩ := lv_r1 x2 a1 g1
    obtain ⟨S, e1, e2, e3⟩ := cr.lv hN l1 l9.hw.2.2.1 (by omega)
    obtain ⟨P, p1, eS⟩ := lo_0 (by rw [d2, hf]; omega) (by omega) a2.1 lt a2.2.1 e1
    have x0 := cr.2.2.1.1
    rw [a3] at p1
    have m0 : MTR (CS.setI s 71 (s.i 71 - 1)) r := l3.of (ci_ne _ _ _ (by decide)) (ci_ne _ _ _ (by decide)) rfl rfl rfl rfl rfl
    obtain ⟨n1, n2, n3, ⟨n4, n5, n6, n7, n8⟩, n9, n10⟩ := m0.note p1 q1
    obtain ⟨R, hR⟩ : ∃ R, R = RS.setI (RS.setA Q 91 (Q.a 101 c.length).toNatClampNeg (Q.a 91 (Q.a 101 c.length).toNatClampNeg - 1)) 99 (Q.i 99 - 1) := ⟨_, rfl⟩
    rw [← hR] at q3
    have Ri : ∀ j : Nat, j ≠ 81 → j ≠ 99 → R.i j = r.i j := fun j a b => by
      rw [hR, ri_ne b]
      exact n9 j a
    have R81 : R.i 81 = Q.i 81 := by
      rw [hR, ri_ne (by decide)]
      rfl
    have R99 : (R.i 99).toInt = (c.length : Int) := by
      rw [hR, ri_at, n9 99 (by decide)]
      exact x1
    have Ra : ∀ k : Nat, k ≠ 91 → R.a k = Q.a k := fun k a => by
      rw [hR]
      exact setA_nk (s := Q) a
    have R91 : ∀ j : Nat, j ≠ (Q.a 101 c.length).toNatClampNeg → R.a 91 j = r.a 91 j := fun j a => by
      rw [hR]
      show (RS.setA Q 91 (Q.a 101 c.length).toNatClampNeg (Q.a 91 (Q.a 101 c.length).toNatClampNeg - 1)).a 91 j = r.a 91 j
      rw [setA_ne a, n10 91 (by decide) (by decide)]
    have R91' : R.a 91 (Q.a 101 c.length).toNatClampNeg = r.a 91 (Q.a 101 c.length).toNatClampNeg + -1 := by
      rw [hR]
      show (RS.setA Q 91 (Q.a 101 c.length).toNatClampNeg (Q.a 91 (Q.a 101 c.length).toNatClampNeg - 1)).a 91 (Q.a 101 c.length).toNatClampNeg = _
      rw [setA_at, n10 91 (by decide) (by decide), Int32.sub_eq_add_neg]
    clear hR
    have m8 : (Q.a 101 c.length).toNatClampNeg < 8 := by
      have := q2.1
      have := q2.2
      show (Q.a 101 c.length).toInt.toNat < 8
      omega
    have hs := (hS_dec R91' R91 8).2 m8
    have sm : SAM s S r R := by
      rw [eS]
      refine ⟨fun j a b d => ?_, fun k a => ?_, ⟨n4, n5, n6, n7, n8⟩, fun j a _ b => Ri j a b, fun k a b d => (Ra k d).trans (n10 k a b)⟩
      · rw [ci_ne _ _ _ a, n2 j b, ci_ne _ _ _ d]
      · exact n3 k a
    have mt : MTR S R := n1.of (by rw [eS, ci_ne _ _ _ (by decide)]) (by rw [eS, ci_ne _ _ _ (by decide)]) (by rw [eS]; rfl) ((Ri 80 (by decide) (by decide)).trans (n9 80 (by decide)).symm) R81 (Ra 82 (by decide)) (Ra 83 (by decide))
    refine Or.inr ⟨S, R, mu, n, x + 1, e3, pop_sam l sm mt (by rw [Ri 97 (by decide) (by decide)]; exact a4) ?_ R99 op ?_ nd hfc, q3, by rw [ad1 x0 (by omega)]; omega, ⟨sm.2.1 15 (by decide), sm.2.1 16 (by decide), sm.2.1 17 (by decide)⟩, sm.rfx, Ri 80 (by decide) (by decide)⟩
    · rw [eS, ci_at, n2 67 (by decide), ci_ne _ _ _ (by decide)]
      exact sub_n1 (by rw [d2, hf]; omega)
    · rw [eS, ci_ne _ _ _ (by decide), n2 71 (by decide), ci_at, hs, d3, Int32.sub_eq_add_neg]
  · omega
  · omega
  · omega
  · omega
  · omega
/-- a catch is left: its finally, or none -/
theorem st_2 {N H n0 : Nat} (hN : 10000000000 ≤ N) {D : Nat → List Nat} {T : Int32 × CS} {s0 s : CS} {nm : Nat → Nat → Prop} {AL : Als} {mu : Nat → Nat} {h u : Nat} {e : Ent} {c : List Ent} {r V : RS} {x : Int32} {n : Int} {B : Int} (hk : e.k = 2) (d22 : frs (e :: c) ≤ 22) (cr : CRN N H D T s0 s x) (l : LVR nm s r mu AL h (e :: c) n u) (eh : e.h ≤ h) (ty : HFN s r AL e c u) (ng : LVG r) (hB : x.toInt + fps (e :: c) + u + 1 ≤ B) (hB4 : B ≤ 4000000) (g : f_X12_leave_0 N (n0 + 1) r = some V) : STP N H D T s0 nm AL h u V s r c n0 B := by
  obtain ⟨l1, ⟨l2, l3, l4⟩, ⟨⟨⟨d0, d1⟩, ⟨d2, d2'⟩, d3, ⟨d4, d4'⟩, d6, d7⟩, op⟩, ⟨l7, l8⟩, l9, l10⟩ := id l
  have g1 := lv_ng ng g
  obtain ⟨x1, x2⟩ := idx1 (r := r) (k := c.length) d2'
  have hf : frs (e :: c) = frs c + 1 := frs_up (by omega)
  have tp : tps (e :: c) = tps c + 1 := by
    show tps c + (if e.k = 1 then 2 else if e.k = 2 then 1 else 0) = tps c + 1
    rw [if_neg (by omega), if_pos hk]
  replace op := op.tl (by omega)
  have fp : fps (e :: c) = fps c + 1154 := by
    show fps c + (if e.k = 0 then 2 else if e.k = 1 then 1460 else if e.k = 2 then 1154 else if e.k = 3 then 1152 else 0) = fps c + 1154
    rw [if_neg (by omega), if_neg (by omega), if_pos hk]
  have nd := nd_ofw d2' l9.hw.1 l9.hw.2.1 ng
  have lt := ltg_of (by omega) l9 nd d2
  have x0 := cr.2.2.1.1
  rcases d1 with ⟨k0, -⟩ | ⟨k0, -⟩ | ⟨k2, a1, ⟨a2, a3⟩, ⟨f, b, a4, a5, a6, a7, a8, a9⟩, a10⟩ | ⟨k0, -⟩ | ⟨k0, -⟩ | ⟨k0, -⟩
  · omega
  · omega
  · obtain ⟨P, p1, p2⟩ := lv_r41 x2 a1 a3 g1
    have h67 : (s.i 67).toInt = (frs c : Int) + 1 := by
      rw [d2, hf]
      omega
    rcases ty with ⟨t1, t2⟩ | ⟨p, q, w, t1, t2, t3, t4, t5⟩
    · rcases fi_r x1 a2 p1 with ⟨z, eP⟩ | ⟨z, -⟩
      · rcases p2 with ⟨-, p2⟩ | ⟨z2, -⟩
        · obtain ⟨S, e1, e2, e3⟩ := cr.lv hN l1 l9.hw.2.2.1 (by omega)
          have eS := lo_p h67 (by omega) a4.1 lt (Or.inr ⟨a4.2.1, t2 _ a5⟩) e1
          rw [eP] at p2
          exact st_pp (Or.inl hk) e3 l a10 nd (fun _ z' => by omega) eS (by rw [ad1 x0 (by omega)]; omega) p2
        · rw [eP] at z2
          exact absurd rfl z2
      · omega
    · have top : TOPW s r e c f := ⟨⟨h67, by omega⟩, ⟨a4.1, a4.2.1, a5, a4.2.2⟩, by rw [d2']; show ((c.length + 1 : Nat) : Int) = _; omega, a1, a2, d0⟩
      have bl : BLW nm s r mu AL h c 0 := ⟨l1, ⟨l2, l3, l4⟩, a10, op, d3, ⟨d4, by omega⟩, d6, d7, l10⟩
      obtain ⟨nz, S, e3, sy, i80⟩ := fin_in hN cr (by omega) l9.hw.2.2.1 lt top bl eh t1 (t2 _ a5) t4 (Or.inr (fun fc => (l9.tl nd (fun _ _ => fc)).2 (Or.inr hk))) x1 p1
      rcases p2 with ⟨z, -⟩ | ⟨-, eV⟩
      · exact absurd z nz
      · rw [eV] at sy i80
        refine Or.inl ⟨i80, Or.inl ⟨S, x + 1, mu, e.h, p, q, w, _, e3, sy, t4, ?_⟩⟩
        rw [ad1 x0 (by omega)]
        show x.toInt + 1 + ((fps c + 1152 : Nat) : Int) + w ≤ B
        omega
  · omega
  · omega
  · omega
/-- a yield arrives -/
theorem arr_2 {N H n0 : Nat} (hN : 10000000000 ≤ N) {D : Nat → List Nat} {T : Int32 × CS} {s0 s : CS} {nm : Nat → Nat → Prop} {AL : Als} {mu : Nat → Nat} {h u : Nat} {a : Ent} {c : List Ent} {r V : RS} {x : Int32} {n : Int} {B : Int} (cr : CRN N H D T s0 s x) (d22 : frs c ≤ 22) (ck : CTK nm c) (l : LVR nm s r mu AL h (a :: c) n u) (e73 : s.i 73 = 2) (e110 : r.i 110 = 4) (e74 : s.i 74 = r.i 113) (ak : a.k = 5) (ah : a.h = h) (h6 : h < 600) {p q w : Nat} (t32 : (s.i 75 - s.i 75 / 32 * 32).toInt = (frs c : Int)) (d112 : (r.i 112).toInt = (c.length : Int) + 1) (ep : (cTg s (s.i 75 / 32)).toInt = (p : Int)) (eq : (r.a 23 a.x).toInt = (q : Int)) (al : AL p q (h + 1) w 0 c) (hw : w ≤ u) (hB : x.toInt + fps (a :: c) + u + 1 ≤ B) (hB4 : B ≤ 4000000) (g : f_X12_leave_0 N n0 r = some V) : LVO N H D T s0 nm AL V (r.i 80) B := by
  obtain ⟨l1, ⟨l2, l3, l4⟩, ⟨⟨⟨d0, d1⟩, ⟨d2, d2'⟩, d3, ⟨d4, d4'⟩, d6, d7⟩, op⟩, ⟨l7, l8⟩, l9, l10⟩ := id l
  have nz : n = 0 := l8 (by rw [e73]; decide)
  obtain ⟨x1, x2⟩ := idx1 (r := r) (k := c.length) d2'
  have hf : frs (a :: c) = frs c := frs_eq (by omega)
  have fl := fps_le (e := a) (c := c)
  have tl := tps_le (e := a) (c := c)
  replace op := op.tl (by omega)
  rw [hf] at d2
  have x0 := cr.2.2.1.1
  rcases d1 with ⟨k0, -⟩ | ⟨k0, -⟩ | ⟨k0, -⟩ | ⟨k0, -⟩ | ⟨k0, -⟩ | ⟨k5, a1, a2, a3⟩
  · omega
  · omega
  · omega
  · omega
  · omega
  · obtain ⟨S, e1, -, e3⟩ := cl_arr hN cr (by omega) l1 (by rw [e73]; decide) d2 d22 a3 (Or.inr (fun z => by
      unfold LTG at z
      have := lt_int z
      omega))
    cases n0 with
    | zero => cases g
    | succ n0 =>
      have el : ((a :: c).length : Int) = (c.length : Int) + 1 := by
        show ((c.length + 1 : Nat) : Int) = _
        omega
      obtain ⟨W, eW, eV⟩ := lv_g4 e110 (by rw [Int32.le_iff_toInt_le]; omega) g
      unfold f_X3_arrive f_X3_arrive_48 at e1
      rw [if_neg (by rw [e73]; decide), if_neg (by rw [e73]; decide), if_pos e73, e_cPu, ob_some] at e1
      have eS : S = CS.setI (CS.setI (cPu s (s.i 74)) 66 (gAt ((cPu s (s.i 74)).a 17) 1024 ((cPu s (s.i 74)).i 75 / 32))) 73 0 := (congrArg Prod.snd (Option.some.inj e1)).symm
      -- the record of the arms goes
      obtain ⟨R, hR⟩ : ∃ R, R = RS.setI (RS.setI r 99 (r.i 99 - 1)) 93 (r.a 104 (r.i 99 - 1).toNatClampNeg) := ⟨_, rfl⟩
      rw [← hR] at eW
      have Ra : R.a = r.a := by
        rw [hR]
        rfl
      have Ri : ∀ j : Nat, j ≠ 93 → j ≠ 99 → R.i j = r.i j := fun j q1 q2 => by rw [hR, ri_ne q1, ri_ne q2]
      have R93 : R.i 93 = r.i 93 := by
        rw [hR, ri_at, x2]
        exact Int32.toInt_inj.mp (by rw [d0, ah, (l2.2 (by rw [e73]; decide)).2])
      have R99 : (R.i 99).toInt = (c.length : Int) := by
        rw [hR, ri_ne (by decide), ri_at]
        exact x1
      clear hR
      have tlv : ∀ b : Nat, TLV s r mu b → TLV s R mu b := fun b t => by
        unfold TLV THG at *
        rw [Ra, Ri 85 (by decide) (by decide), Ri 3 (by decide) (by decide)]
        exact t
      have feq : FEQ s s r R mu mu c (r.i 97).toInt := ⟨fun i f _ hf => ⟨hf, rfl, rfl⟩, fun b _ t => ⟨tlv b t, rfl, by rw [Ra]⟩, ⟨rfl, by rw [Ra], by rw [Ra], by rw [Ra], by rw [Ra]⟩, fun j k _ _ _ => by rw [Ra], fun a _ => ⟨fun k _ => rfl, fun l _ => by rw [Ra]⟩, fun j _ => by rw [Ra]⟩
      have dR : DYN s R mu AL c 0 := by
        refine ⟨⟨by rw [Ri 97 (by decide) (by decide)]; exact a3.of feq, ⟨d2, R99⟩, d3.trans (hS_of (by rw [Ra]) 8).symm, ⟨by rw [Ri 85 (by decide) (by decide)]; exact d4, by rw [Ri 85 (by decide) (by decide), Ri 80 (by decide) (by decide)]; omega⟩, ?_, (Ri 115 (by decide) (by decide)).trans d7⟩, ?_⟩
        · unfold MUI at *
          rw [Ri 85 (by decide) (by decide)]
          exact d6
        · obtain ⟨o1, o2, o3, o4, o5, o6⟩ := op
          unfold OPW
          rw [Ri 95 (by decide) (by decide), Ra]
          exact ⟨o1, o2, o3, o4, o5, o6.of (fun k _ => by rw [Ra])⟩
      have tR : TLR s R := l10.of (fun _ _ => rfl) (fun _ _ => rfl) ⟨fun j hj => Ri j (by omega) (by omega), fun k _ => by rw [Ra]⟩
      have mR : MVS s R h := (l2.mvs (by rw [e73]; decide)).of rfl rfl R93 (by rw [Ra])
      have ec : EXC nm s (cPu s (s.i 74)) := ⟨fun j h1 _ _ _ => cPu_i h1, fun k _ h2 _ => cPu_a h2, ⟨rfl, rfl, rfl, rfl, rfl⟩, fun k _ => congrFun (cPu_a (by decide)) k⟩
      have ev : EXV nm R W := by
        rw [eW]
        exact ⟨fun j _ _ _ h4 => rPu_i h4, fun k _ _ _ h4 => rPu_a h4, fun l _ => congrFun (rPu_a (by decide)) l, le_80 (rPu_i (by decide))⟩
      have W80 : W.i 80 = r.i 80 := by
        rw [eW, rPu_i (by decide)]
        exact Ri 80 (by decide) (by decide)
      have mW : MVS (cPu s (s.i 74)) W (h + 1) := by
        rw [eW, ← e74]
        exact mR.push h6 (s.i 74)
      have W99 : W.i 99 = R.i 99 := ev.1 99 (by decide) (by decide) (by decide) (by decide)
      have Wa : ∀ k : Nat, k ≠ 82 → k ≠ 83 → k ≠ 84 → k ≠ 94 → W.a k = r.a k := fun k q1 q2 q3 q4 => by
        rw [ev.2.1 k q1 q2 q3 q4, Ra]
      have sy : SYN nm S V mu AL (h + 1) p q c 0 := by
        rw [eS, eV]
        refine SYN.mk1 ((cPu_i (by decide)).trans l1) mW (l3.of (cPu_i (by decide)) (cPu_i (by decide)) (cPu_a (by decide)) W80 ?_ ?_ ?_) (fun k l hk => ?_) (dR.ex ck ec ev) (tR.ex ec ev) ?_ ?_
        · rw [eW, rPu_i (by decide)]
          exact Ri 81 (by decide) (by decide)
        · rw [eW, rPu_a (by decide), Ra]
        · rw [eW, rPu_a (by decide), Ra]
        · rw [cPu_a (by decide), eW, rPu_a (by decide), Ra]
          exact l4 k l hk
        · rw [cPu_a (by decide), cPu_i (by decide)]
          exact ep
        · rw [W99, cl_nat R99, Wa 101 (by decide) (by decide) (by decide) (by decide), Wa 23 (by decide) (by decide) (by decide) (by decide), cl_nat a2]
          exact eq
      refine ⟨by rw [eV, ri_ne (by decide), W80], Or.inl ⟨S, x + 1, mu, h + 1, p, q, w, c, e3, sy, al, ?_⟩⟩
      rw [ad1 x0 (by omega)]
      omega
end
section
/-! both machines: behind a body: its finally, or none -/
theorem blw_pop {nm : Nat → Nat → Prop} {s : CS} {r : RS} {mu : Nat → Nat} {AL : Als} {h u f : Nat} {e : Ent} {c : List Ent} (tp : TOPW s r e c f) (bl : BLW nm s r mu AL h c 0) (w : WYS s r mu AL c h u (s.i 73) (s.i 74) (s.i 75) s.w (r.i 110) (r.i 111) (r.i 112) (r.i 113) (r.i 114)) : LVR nm (CS.setI s 67 (s.i 67 - 1)) (RS.setI r 99 (r.i 99 - 1)) mu AL h c 0 u := by
  obtain ⟨⟨t1, t2⟩, -, t7, -⟩ := tp
  obtain ⟨b1, ⟨b2, b3, b4⟩, b5, b6, b7, ⟨b8, b9⟩, b10, b11, b12⟩ := bl
  obtain ⟨x1, x2⟩ := idx1 (r := r) (k := c.length) (by rw [t7]; omega)
  obtain ⟨S, hS'⟩ : ∃ S, S = CS.setI s 67 (s.i 67 - 1) := ⟨_, rfl⟩
  obtain ⟨R, hR⟩ : ∃ R, R = RS.setI r 99 (r.i 99 - 1) := ⟨_, rfl⟩
  have ci : ∀ j : Nat, j ≠ 67 → S.i j = s.i j := fun j a => by rw [hS', ci_ne _ _ _ a]
  have ri : ∀ j : Nat, j ≠ 99 → R.i j = r.i j := fun j a => by rw [hR, ri_ne a]
  have sa : S.a = s.a ∧ S.r = s.r ∧ S.w = s.w ∧ S.o = s.o ∧ S.ot = s.ot ∧ S.oa = s.oa := by
    rw [hS']
    exact ⟨rfl, rfl, rfl, rfl, rfl, rfl⟩
  have ra : R.a = r.a := by
    rw [hR]
    rfl
  have s67 : (S.i 67).toInt = (frs c : Int) := by
    rw [hS', ci_at]
    exact sub_n1 t1
  have r99 : (R.i 99).toInt = (c.length : Int) := by
    rw [hR, ri_at]
    exact x1
  rw [← hS', ← hR]
  clear hS' hR
  obtain ⟨a1, a2, a3, a4, a5, a6⟩ := sa
  have tlv : ∀ b : Nat, TLV s r mu b → TLV S R mu b := fun b t => by
    unfold TLV THG inP at *
    rw [a2, a4, a6, ra, ri 85 (by decide), ri 3 (by decide)]
    exact t
  have feq : FEQ s S r R mu mu c (r.i 97).toInt := ⟨fun i f _ hf => ⟨by rw [a2]; exact hf, by rw [a4], by rw [a5]⟩, fun b _ t => ⟨tlv b t, rfl, by rw [ra]⟩, ⟨by rw [a1], by rw [ra], by rw [ra], by rw [ra], by rw [ra]⟩, fun j k _ _ _ => by rw [ra], fun a _ => ⟨fun k _ => by rw [a1], fun l _ => by rw [ra]⟩, fun j _ => by rw [ra]⟩
  refine ⟨(ci 72 (by decide)).trans b1, ⟨b2.of (ci 65 (by decide)) (by rw [a1]) (ri 93 (by decide)) (by rw [ra]) (fun z => by rw [ci 73 (by decide)] at z; exact z), b3.of (ci 69 (by decide)) (ci 70 (by decide)) (by rw [a1]) (ri 80 (by decide)) (ri 81 (by decide)) (by rw [ra]) (by rw [ra]), fun k l hk => by rw [a1, ra]; exact b4 k l hk⟩, ⟨⟨by rw [ri 97 (by decide)]; exact b5.of feq, ⟨s67, r99⟩, by rw [ci 71 (by decide), hS_of (r := r) (R := R) (by rw [ra]) 8]; exact b7, by rw [ri 85 (by decide), ri 80 (by decide)]; exact ⟨b8, b9⟩, ?_, (ri 115 (by decide)).trans b11⟩, ?_⟩, ⟨by decide, fun _ => rfl⟩, ?_, b12.of (fun j hj => ci j (by omega)) (fun k _ => by rw [a1]) ⟨fun j hj => ri j (by omega), fun k _ => by rw [ra]⟩⟩
  · unfold MUI at *
    rw [ri 85 (by decide)]
    exact b10
  · obtain ⟨o1, o2, o3, o4, o5, o6⟩ := b6
    unfold OPW
    rw [ci 68 (by decide), ri 95 (by decide), a1, ra]
    exact ⟨o1, o2, o3, o4, o5, o6.of (fun k _ => by rw [ra])⟩
  · rw [ci 73 (by decide), ci 74 (by decide), ci 75 (by decide), a3, ri 110 (by decide), ri 111 (by decide), ri 112 (by decide), ri 113 (by decide), ri 114 (by decide)]
    exact w.of (by rw [a1]) (by rw [ra]) (by rw [ra]) (by rw [ra]) (fun b _ t => ⟨tlv b t, rfl⟩)
theorem fop {N H n0 : Nat} (hN : 10000000000 ≤ N) {D : Nat → List Nat} {T : Int32 × CS} {s0 s : CS} {nm : Nat → Nat → Prop} {AL : Als} {mu : Nat → Nat} {h u f : Nat} {e : Ent} {c : List Ent} {r V : RS} {x y : Int32} {B : Int} (hk : e.k = 1 ∨ e.k = 2) (cr : CRN N H D T s0 s x) (tp : TOPW s r e c f) (bl : BLW nm s r mu AL h c 0) (eh : e.h ≤ h) (wy : WYS s r mu AL (e :: c) h u (s.i 73) (s.i 74) (s.i 75) s.w (r.i 110) (r.i 111) (r.i 112) (r.i 113) (r.i 114)) (nd : s.i 73 = 1 ∨ s.i 73 = 2 → ¬ (r.i 112).toInt = (c.length : Int) + 1) (ty : HFN s r AL e c u) (hB : x.toInt + fps c + 1154 + u + 1 ≤ B) (hB4 : B ≤ 4000000) (hy : y.toInt = (c.length : Int)) (g : LVF N (f_X12_leave_0 N n0) r V y) : STP N H D T s0 nm AL h u V s r c n0 B := by
  have x0 := cr.2.2.1.1
  have h67 := tp.1.1
  have lt := ltg_of (by omega) wy nd (by rw [h67, frs_up (by omega)]; omega)
  obtain ⟨P, p1, p2⟩ := g
  rcases ty with ⟨t1, t2⟩ | ⟨p, q, w, t1, t2, t3, t4, t5⟩
  · rcases fi_r hy tp.2.2.2.2.1 p1 with ⟨z, eP⟩ | ⟨z, -⟩
    · rcases p2 with ⟨-, p2⟩ | ⟨z2, -⟩
      · obtain ⟨S, e1, e2, e3⟩ := cr.lv hN bl.1 wy.hw.2.2.1 (by omega)
        have eS := lo_p h67 (by have := tp.1.2; omega) tp.2.1.1 lt (Or.inr ⟨tp.2.1.2.1, t2 _ tp.2.1.2.2.1⟩) e1
        rw [eP] at p2
        refine Or.inr ⟨S, _, mu, 0, x + 1, e3, by rw [eS]; exact blw_pop tp bl (wy.tl nd (fun _ z' => by omega)).1, p2, by rw [ad1 x0 (by omega)]; omega, by rw [eS]; exact ⟨rfl, rfl, rfl⟩, ⟨fun j hj => ri_ne (by omega), fun _ _ => rfl⟩, ri_ne (by decide)⟩
      · rw [eP] at z2
        exact absurd rfl z2
    · omega
  · obtain ⟨nz, S, e3, sy, i80⟩ := fin_in hN cr (by omega) wy.hw.2.2.1 lt tp bl eh t1 (t2 _ tp.2.1.2.2.1) t4 (Or.inr (fun fc => (wy.tl nd (fun _ _ => fc)).2 hk)) hy p1
    rcases p2 with ⟨z, -⟩ | ⟨-, eV⟩
    · exact absurd z nz
    · rw [eV] at sy i80
      refine Or.inl ⟨i80, Or.inl ⟨S, x + 1, mu, e.h, p, q, w, _, e3, sy, t4, ?_⟩⟩
      rw [ad1 x0 (by omega)]
      show x.toInt + 1 + ((fps c + 1152 : Nat) : Int) + w ≤ B
      omega
/-- the class behind a body: no throw -/
theorem cfb_f {s : CS} {f : Nat} : (∀ j : Nat, j ≠ 68 → (cFb s f).i j = s.i j) ∧ (cFb s f).i 68 = s.o f 3 ∧ ((cFb s f).a = s.a ∧ (cFb s f).r = s.r ∧ (cFb s f).w = s.w ∧ (cFb s f).ot = s.ot ∧ (cFb s f).oa = s.oa) ∧ (∀ g : Nat, g ≠ f → (cFb s f).o g = s.o g) ∧ (cFb s f).o f 0 = 2 ∧ ∀ j : Nat, j ≠ 0 → (cFb s f).o f j = s.o f j := by
  unfold cFb
  refine ⟨fun j a => ?_, ?_, ⟨rfl, rfl, rfl, rfl, rfl⟩, fun g hg => ?_, ?_, fun j a => ?_⟩
  · rw [ci_setO, ci_ne _ _ _ a]
  · rw [ci_setO, ci_at]
  · rw [setO_ne hg, co_setI]
  · rw [setO_at]
  · rw [setO_k a, co_setI]
/-- a throw: the handler begins -/
theorem cbt_f {s : CS} {f b : Nat} {t : Int32} : (∀ j : Nat, j ≠ 65 → j ≠ 66 → j ≠ 68 → j ≠ 73 → (cBg (cFt s f b) f t).i j = s.i j) ∧ ((cBg (cFt s f b) f t).i 65 = s.o f 2 ∧ (cBg (cFt s f b) f t).i 66 = cTg s t ∧ (cBg (cFt s f b) f t).i 68 = s.o f 3 ∧ (cBg (cFt s f b) f t).i 73 = 0) ∧ ((cBg (cFt s f b) f t).a = s.a ∧ (cBg (cFt s f b) f t).r = s.r ∧ (cBg (cFt s f b) f t).w = s.w ∧ (cBg (cFt s f b) f t).oa = s.oa) ∧ (∀ g : Nat, g ≠ f → (cBg (cFt s f b) f t).o g = s.o g ∧ (cBg (cFt s f b) f t).ot g = s.ot g) ∧ ((cBg (cFt s f b) f t).o f 0 = 2 ∧ (∀ j : Nat, j ≠ 0 → (cBg (cFt s f b) f t).o f j = s.o f j) ∧ (cBg (cFt s f b) f t).ot f = some b) ∧ (cFt s f b).o f 1 = s.o f 1 := by
  obtain ⟨c1, c2, ⟨c3, c4, c5, c6, c7⟩, c8, c9, c10⟩ := cfb_f (s := s) (f := f)
  obtain ⟨Y, hY⟩ : ∃ Y, Y = cFb s f := ⟨_, rfl⟩
  rw [← hY] at c1 c2 c3 c4 c5 c6 c7 c8 c9 c10
  have eF : cFt s f b = CS.setOt Y f (some b) := by
    rw [hY]
    rfl
  rw [eF]
  clear hY eF
  unfold cBg
  refine ⟨fun j q1 q2 q3 q4 => ?_, ⟨?_, ?_, ?_, ?_⟩, ⟨?_, ?_, ?_, ?_⟩, fun g hg => ⟨?_, ?_⟩, ⟨?_, fun j q => ?_, ?_⟩, ?_⟩
  · rw [ci_ne _ _ _ q4, ci_ne _ _ _ q2, ci_ne _ _ _ q1, ci_setOt, c1 j q3]
  · rw [ci_ne _ _ _ (by decide), ci_ne _ _ _ (by decide), ci_at, co_setOt, c10 2 (by decide)]
  · rw [ci_ne _ _ _ (by decide), ci_at, ca_setOt, c3]
    rfl
  · rw [ci_ne _ _ _ (by decide), ci_ne _ _ _ (by decide), ci_ne _ _ _ (by decide), ci_setOt, c2]
  · rw [ci_at]
  · rw [ca_setI, ca_setI, ca_setI, ca_setOt, c3]
  · rw [cr_setI, cr_setI, cr_setI, cr_setOt, c4]
  · rw [cw_setI, cw_setI, cw_setI, cw_setOt, c5]
  · rw [coa_setI, coa_setI, coa_setI, coa_setOt, c7]
  · rw [co_setI, co_setI, co_setI, co_setOt, c8 g hg]
  · rw [cot_setI, cot_setI, cot_setI, cot_ne _ _ _ hg, c6]
  · rw [co_setI, co_setI, co_setI, co_setOt, c9]
  · rw [co_setI, co_setI, co_setI, co_setOt, c10 j q]
  · rw [cot_setI, cot_setI, cot_setI, cot_at]
  · rw [co_setOt, c10 1 (by decide)]
end
section
/-! both machines: a body is left -/
theorem HFN.cg {s S : CS} {r R : RS} {AL : Als} {e : Ent} {c : List Ent} {W : Nat} (e17 : S.a 17 = s.a 17) (g : RFX r R) (h : HFN s r AL e c W) : HFN S R AL e c W := by
  have ec : cTg S = cTg s := by
    funext t
    unfold cTg
    rw [e17]
  unfold HFN at *
  rw [ec, g.2 31 (by decide)]
  exact h
theorem HBD.cg {s S : CS} {r R : RS} {AL : Als} {e : Ent} {c : List Ent} {W : Nat} (e15 : S.a 15 = s.a 15) (e16 : S.a 16 = s.a 16) (e17 : S.a 17 = s.a 17) (g : RFX r R) (h : HBD s r AL e c W) : HBD S R AL e c W := by
  have ec : cTg S = cTg s := by
    funext t
    unfold cTg
    rw [e17]
  obtain ⟨n, p, h1, h2, h3⟩ := h
  refine ⟨n, p, h1, by rw [ec]; exact h2, ?_⟩
  rw [HRW.cg (S := S) (s := s) (r := r) (R := R) e15 e16 e17 (g.2 34 (by decide)) (g.2 35 (by decide)) (g.2 36 (by decide)) (g.2 37 (by decide)), g.2 30 (by decide)]
  exact h3
theorem TYC.cg {s S : CS} {r R : RS} {AL : Als} {W : Nat} (e15 : S.a 15 = s.a 15) (e16 : S.a 16 = s.a 16) (e17 : S.a 17 = s.a 17) (g : RFX r R) : ∀ {c : List Ent}, TYC s r AL W c → TYC S R AL W c
  | [], h => ⟨fun z => h.1 (by rw [← g.1 18 (by decide)]; exact z), h.2⟩
  | _ :: _, ⟨h1, h2, h3⟩ => ⟨fun z => (h1 z).cg e15 e16 e17 g, fun z => (h2 z).cg e17 g, TYC.cg e15 e16 e17 g h3⟩
theorem STP.bk {N H : Nat} {D : Nat → List Nat} {T : Int32 × CS} {s0 : CS} {nm : Nat → Nat → Prop} {AL : Als} {h u n0 : Nat} {V : RS} {s S : CS} {r R : RS} {c : List Ent} {B : Int} (e15 : S.a 15 = s.a 15) (e16 : S.a 16 = s.a 16) (e17 : S.a 17 = s.a 17) (g : RFX r R) (e80 : R.i 80 = r.i 80) (k : STP N H D T s0 nm AL h u V S R c n0 B) : STP N H D T s0 nm AL h u V s r c n0 B := by
  rcases k with k | ⟨S1, R1, mu, n, x, k1, k2, k3, k4, ⟨k5, k6, k7⟩, k8, k9⟩
  · rw [e80] at k
    exact Or.inl k
  · exact Or.inr ⟨S1, R1, mu, n, x, k1, k2, k3, k4, ⟨k5.trans e15, k6.trans e16, k7.trans e17⟩, g.tr k8, k9.trans e80⟩
theorem feq_top {S S1 : CS} {P : RS} {nu : Nat → Nat} {c : List Ent} {m : Int} {f : Nat} (hr : REFS S) (hf : S.r 61 (frs c) = some f) (d : frs c ≤ 21) (ea : S1.a = S.a) (er : S1.r = S.r) (eoa : S1.oa = S.oa) (eo : ∀ g : Nat, g ≠ f → S1.o g = S.o g ∧ S1.ot g = S.ot g) : FEQ S S1 P P nu nu c m ∧ ∀ b : Nat, TLV S P nu b → TLV S1 P nu b := by
  have fk : oK S f 1 := hr.2.2.2.1 (frs c) f (by omega) hf
  have tlv : ∀ b : Nat, TLV S P nu b → TLV S1 P nu b := fun b t => by
    obtain ⟨j, j1, j2⟩ := t.2.2.1
    have kb := (hr.2.2.2.2.2.1 j b j1 j2).1.2
    have nb : b ≠ f := fun q => by
      rw [q, fk.2] at kb
      exact absurd kb (by decide)
    unfold TLV THG inP at *
    rw [er, (eo b nb).1, eoa]
    exact t
  refine ⟨⟨fun i g hi hg => ?_, fun b _ t => ⟨tlv b t, rfl, rfl⟩, ⟨by rw [ea], rfl, rfl, rfl, rfl⟩, fun _ _ _ _ _ => rfl, fun _ _ => ⟨fun _ _ => by rw [ea], fun _ _ => rfl⟩, fun _ _ => rfl⟩, tlv⟩
  have ng : g ≠ f := fun q => by
    rw [q] at hg
    have := hr.2.2.2.2.1 i (frs c) f (by omega) (by omega) hg hf
    omega
  exact ⟨by rw [er]; exact hg, eo g ng⟩
/-- what is known behind the closes -/
def ACL (nm : Nat → Nat → Prop) (H : Nat) (S : CS) (P : RS) (nu : Nat → Nat) (AL : Als) (h u f : Nat) (e : Ent) (c : List Ent) (n1 : Int) : Prop := CLI nm H S P nu AL h (e :: c) n1 u ∧ (S.r 61 (frs c) = some f ∧ (S.o f 1).toInt = (e.x : Int) ∧ (S.o f 2).toInt = (e.h : Int)) ∧ (P.a 100 c.length = 4 ∧ (P.a 101 c.length).toInt = (e.y : Int) ∧ (P.a 104 c.length).toInt = (e.h : Int) ∧ P.a 102 c.length = 0) ∧ FRS S P nu AL c (P.i 97).toInt ∧ (P.i 95 = S.o f 3 ∧ (P.i 95).toInt ≤ (ops c : Int) ∧ ops c ≤ 320 ∧ RCO P c (P.i 95).toInt)
/-- below the entry, any state that is the class's but for this frame -/
theorem acl_blw {nm : Nat → Nat → Prop} {H : Nat} {S S1 : CS} {P : RS} {nu : Nat → Nat} {AL : Als} {h u f : Nat} {e : Ent} {c : List Ent} {n1 : Int} (hk : e.k = 1) (d22 : frs (e :: c) ≤ 22) (a : ACL nm H S P nu AL h u f e c n1) (ea : S1.a = S.a) (er : S1.r = S.r) (eoa : S1.oa = S.oa) (eo : ∀ g : Nat, g ≠ f → S1.o g = S.o g ∧ S1.ot g = S.ot g) (ei : ∀ j : Nat, j ≠ 65 → j ≠ 66 → j ≠ 68 → j ≠ 73 → j ≠ 74 → j ≠ 75 → S1.i j = S.i j) (e68 : S1.i 68 = S.o f 3) (e65 : ¬ S1.i 73 = 4 → S1.i 65 = S.i 65 ∧ ¬ S.i 73 = 4) (o0 : S1.o f 0 = 2) (oj : ∀ j : Nat, j ≠ 0 → S1.o f j = S.o f j) : BLW nm S1 P nu AL h c 0 ∧ TOPW S1 P e c f ∧ ∀ b : Nat, TLV S P nu b → TLV S1 P nu b := by
  obtain ⟨⟨⟨y1, y2⟩, y3, ⟨y4, y5, y6⟩, ⟨-, ⟨dd2, dd2'⟩, dd3, ⟨dd4, dd4'⟩, dd6, dd7⟩, ⟨y8, y9⟩, y10, y11, ⟨y12, y13⟩, y14⟩, ⟨q1, q2, q3⟩, ⟨q4, q5, q6, q7⟩, q8, ⟨q9, q10, q11, q12⟩⟩ := a
  have hf : frs (e :: c) = frs c + 1 := frs_up (by omega)
  have tp : tps (e :: c) = tps c + 2 := by
    show tps c + (if e.k = 1 then 2 else if e.k = 2 then 1 else 0) = tps c + 2
    rw [if_pos hk]
  obtain ⟨feq, tlv⟩ := feq_top (P := P) (nu := nu) (m := (P.i 97).toInt) y1 q1 (by omega) ea er eoa eo
  refine ⟨⟨(ei 72 (by decide) (by decide) (by decide) (by decide) (by decide) (by decide)).trans y3, ⟨⟨⟨by rw [ea]; exact y4.1.1, y4.1.2⟩, fun z => ?_⟩, y5.of (ei 69 (by decide) (by decide) (by decide) (by decide) (by decide) (by decide)) (ei 70 (by decide) (by decide) (by decide) (by decide) (by decide) (by decide)) (by rw [ea]) rfl rfl rfl rfl, by rw [ea]; exact y6⟩, q8.of feq, ⟨by rw [e68, q9], y12, q10, q11, by rw [ea]; exact y14, q12⟩, by rw [ei 71 (by decide) (by decide) (by decide) (by decide) (by decide) (by decide)]; exact dd3, ⟨dd4, by omega⟩, dd6, dd7, y11.of (fun j hj => ei j (by omega) (by omega) (by omega) (by omega) (by omega) (by omega)) (fun k _ => by rw [ea]) (RFX.rf P)⟩, ⟨⟨by rw [ei 67 (by decide) (by decide) (by decide) (by decide) (by decide) (by decide), dd2, hf]; omega, by omega⟩, ⟨by rw [er]; exact q1, o0, by rw [oj 1 (by decide)]; exact q2, by rw [oj 2 (by decide)]; exact q3⟩, by rw [dd2']; show ((c.length + 1 : Nat) : Int) = _; omega, q4, q5, q6⟩, tlv⟩
  obtain ⟨z1, z2⟩ := e65 z
  rw [z1]
  exact y4.2 z2
end
section
/-! both machines: a catch begins; a body is left -/
theorem cat_in {nm : Nat → Nat → Prop} {S0 S1 S2 S : CS} {P V : RS} {nu : Nat → Nat} {AL : Als} {h f b pb qb z l j : Nat} {e : Ent} {c : List Ent} (ck : CTK nm ((2, e.h, e.x, e.y, z, l, e.u) :: c)) (bl : BLW nm S0 P nu AL h c 0) (tp : TOPW S0 P e c f) (hs : (∀ j : Nat, j ≠ 73 → j ≠ 74 → j ≠ 75 → S1.i j = S0.i j) ∧ S1.a = S0.a ∧ S1.r = S0.r ∧ S1.o = S0.o ∧ S1.ot = S0.ot ∧ S1.oa = S0.oa) (ot : S1.ot f = some b) (tl : TLV S0 P nu b) (h65 : (S1.i 65).toInt = (e.h : Int)) (h73 : S1.i 73 = 0) (eh : e.h ≤ h) (e114 : (P.i 114).toInt = (nu b : Int)) (th : (P.i 85).toInt + tps c + 1 ≤ 2 * (P.i 80).toInt) (g6 : E66 S1 S2) (h66 : (S2.i 66).toInt = ((pb + 1 : Nat) : Int)) (eS : S = CS.putA S2 59 (upd (S1.a 59) z (S1.o b 3))) (eV : V = RS.setI (RS.setI (RS.setA (RS.setA P 84 l (P.i 114)) 102 c.length 1) 93 (P.a 104 c.length)) 92 (P.a 35 j)) (e35 : (P.a 35 j).toInt = (qb : Int)) : SYN nm S V nu AL e.h (pb + 1) qb ((2, e.h, e.x, e.y, z, l, e.u) :: c) 0 ∧ V.i 80 = P.i 80 := by
  obtain ⟨⟨t1, t2⟩, ⟨t3, t4, t5, t6⟩, t7, t8, t9, t10⟩ := tp
  obtain ⟨b1, ⟨b2, b3, b4⟩, b5, b6, b7, ⟨b8, b9⟩, b10, b11, b12⟩ := bl
  obtain ⟨ck1, ck2, ck3⟩ := ck
  obtain ⟨z7, zn, zc⟩ := ck1 z (Or.inl ⟨rfl, rfl⟩)
  obtain ⟨ln, lc⟩ := ck2 l ⟨rfl, rfl⟩
  obtain ⟨g1, g2, g3, g4, g5, g7, g8⟩ := g6
  obtain ⟨k1, k2, k3, k4, k5, k6⟩ := hs
  have Si1 : ∀ k : Nat, k ≠ 66 → S.i k = S1.i k := fun k a => by
    rw [eS]
    exact g1 k a
  have Si : ∀ k : Nat, k ≠ 66 → k ≠ 73 → k ≠ 74 → k ≠ 75 → S.i k = S0.i k := fun k a b' c' d => (Si1 k a).trans (k1 k b' c' d)
  have S66 : S.i 66 = S2.i 66 := by
    rw [eS]
    rfl
  have Sa : ∀ k : Nat, k ≠ 59 → S.a k = S0.a k := fun k a => by
    rw [eS, ← k2, ← g2]
    exact if_neg a
  have S59 : ∀ k : Nat, S.a 59 k = if k = z then S0.o b 3 else S0.a 59 k := fun k => by
    rw [eS, ← k2, ← k4]
    rfl
  have Sr : S.r = S0.r ∧ S.o = S0.o ∧ S.ot = S0.ot ∧ S.oa = S0.oa := by
    rw [eS]
    exact ⟨g3.trans k3, g5.trans k4, g7.trans k5, g8.trans k6⟩
  rw [k5] at ot
  obtain ⟨s1, s2, s3, s4⟩ := Sr
  have Vi : ∀ k : Nat, k ≠ 92 → k ≠ 93 → V.i k = P.i k := fun k a d => by
    rw [eV, ri_ne a, ri_ne d]
    rfl
  have V92 : V.i 92 = P.a 35 j := by rw [eV, ri_at]
  have V93 : V.i 93 = P.a 104 c.length := by rw [eV, ri_ne (by decide), ri_at]
  have Va : ∀ k : Nat, k ≠ 84 → k ≠ 102 → V.a k = P.a k := fun k a d => by
    rw [eV]
    show (RS.setA (RS.setA P 84 l (P.i 114)) 102 c.length 1).a k = P.a k
    rw [setA_nk d, setA_nk a]
  have V84 : ∀ k : Nat, V.a 84 k = if k = l then P.i 114 else P.a 84 k := fun k => by
    rw [eV]
    show (RS.setA (RS.setA P 84 l (P.i 114)) 102 c.length 1).a 84 k = _
    rw [setA_nk (by decide)]
    by_cases q : k = l
    · rw [q, setA_at, if_pos rfl]
    · rw [setA_ne q, if_neg q]
  have V102 : V.a 102 c.length = 1 := by
    rw [eV]
    show (RS.setA (RS.setA P 84 l (P.i 114)) 102 c.length 1).a 102 c.length = 1
    rw [setA_at]
  have V102' : ∀ k : Nat, k ≠ c.length → V.a 102 k = P.a 102 k := fun k a => by
    rw [eV]
    show (RS.setA (RS.setA P 84 l (P.i 114)) 102 c.length 1).a 102 k = P.a 102 k
    rw [setA_ne a, setA_nk (by decide)]
  clear eS eV
  have tlv : ∀ b' : Nat, TLV S0 P nu b' → TLV S V nu b' := fun b' t => by
    unfold TLV THG inP at *
    rw [s1, s2, s4, Vi 85 (by decide) (by decide), Vi 3 (by decide) (by decide), Va 86 (by decide) (by decide), Va 87 (by decide) (by decide), Va 88 (by decide) (by decide), Va 89 (by decide) (by decide), Va 90 (by decide) (by decide)]
    exact t
  have feq : FEQ S0 S P V nu nu c (P.i 97).toInt := by
    refine ⟨fun i f' _ hf => ⟨by rw [s1]; exact hf, by rw [s2], by rw [s3]⟩, fun b' _ t => ⟨tlv b' t, rfl, by rw [Va 87 (by decide) (by decide)]⟩, ⟨Sa 17 (by decide), Va 21 (by decide) (by decide), Va 23 (by decide) (by decide), Va 31 (by decide) (by decide), Va 32 (by decide) (by decide)⟩, fun i k q1 q2 q3 => ?_, fun a ha => ⟨fun k hk => ?_, fun l' hl => ?_⟩, fun i _ => by rw [Va 98 (by decide) (by decide)]⟩
    · by_cases q : i = 102
      · rw [q]
        exact V102' k (by omega)
      · rw [Va i (by omega) q]
    · rw [S59, if_neg (fun q => zc a ha (by rw [← q]; exact hk))]
    · rw [V84, if_neg (fun q => lc a ha (by rw [← q]; exact hl))]
  refine ⟨⟨⟨⟨⟨(Si 72 (by decide) (by decide) (by decide) (by decide)).trans b1, (Si1 73 (by decide)).trans h73⟩, by rw [S66]; exact h66, by rw [V92]; exact e35⟩, ⟨⟨by rw [Si1 65 (by decide)]; exact h65, by rw [V93]; exact t10, by have := b2.1.2; omega⟩, fun k hk => ?_⟩, b3.of (Si 69 (by decide) (by decide) (by decide) (by decide)) (Si 70 (by decide) (by decide) (by decide) (by decide)) (Sa 64 (by decide)) (Vi 80 (by decide) (by decide)) (Vi 81 (by decide) (by decide)) (Va 82 (by decide) (by decide)) (Va 83 (by decide) (by decide)), fun k l' hk => ?_⟩, ⟨⟨?_, ⟨?_, ?_⟩, ?_, ⟨by rw [Vi 85 (by decide) (by decide)]; exact b8, ?_⟩, ?_, (Vi 115 (by decide) (by decide)).trans b11⟩, ?_⟩, b12.of (fun k hk => Si k (by omega) (by omega) (by omega) (by omega)) (fun k hk => Sa k (by omega)) ⟨fun k hk => Vi k (by omega) (by omega), fun k hk => Va k (by omega) (by omega)⟩⟩, Vi 80 (by decide) (by decide)⟩
  · rw [Sa 60 (by decide), Va 94 (by decide) (by decide)]
    exact b2.1.1 k (by omega)
  · rw [S59, V84, if_neg (fun q => zn l' (by rw [← q]; exact hk)), if_neg (fun q => ln k (by rw [← q]; exact hk))]
    exact b4 k l' hk
  · refine ⟨?_, Or.inr (Or.inr (Or.inl ⟨rfl, ?_, ⟨?_, V102⟩, ⟨f, b, ⟨by rw [s1]; exact t3, by rw [s2]; exact t4, by rw [s2]; exact t6⟩, by rw [s2]; exact t5, by rw [s3]; exact ot, tlv b tl, ?_, ?_⟩, ?_⟩))⟩
    · rw [Va 104 (by decide) (by decide)]
      exact t10
    · rw [Va 100 (by decide) (by decide)]
      exact t8
    · rw [Va 101 (by decide) (by decide)]
      exact t9
    · show (V.a 84 l).toInt = (nu b : Int)
      rw [V84, if_pos rfl]
      exact e114
    · show S.a 59 z = V.a 87 (nu b)
      rw [S59, if_pos rfl, Va 87 (by decide) (by decide)]
      exact tl.1.1.2.1
    · rw [Vi 97 (by decide) (by decide)]
      exact b5.of feq
  · rw [Si 67 (by decide) (by decide) (by decide) (by decide), t1, frs_up (show Ent.k (2, e.h, e.x, e.y, z, l, e.u) ≤ 3 from by show (2 : Nat) ≤ 3; decide)]
    omega
  · rw [Vi 99 (by decide) (by decide), t7]
    show (c.length : Int) + 1 = ((c.length + 1 : Nat) : Int)
    omega
  · rw [Si 71 (by decide) (by decide) (by decide) (by decide), hS_of (r := P) (R := V) (Va 91 (by decide) (by decide)) 8]
    exact b7
  · rw [Vi 85 (by decide) (by decide), Vi 80 (by decide) (by decide)]
    show (P.i 85).toInt + ((tps c + 1 : Nat) : Int) ≤ 2 * (P.i 80).toInt + 0
    omega
  · unfold MUI at *
    rw [Vi 85 (by decide) (by decide)]
    exact b10
  · obtain ⟨o1, o2, o3, o4, o5, o6⟩ := b6
    refine ⟨by rw [Si 68 (by decide) (by decide) (by decide) (by decide), Vi 95 (by decide) (by decide)]; exact o1, by rw [Vi 95 (by decide) (by decide)]; exact o2, by rw [Vi 95 (by decide) (by decide)]; exact o3, o4, fun k hk => ?_, by rw [Vi 95 (by decide) (by decide)]; exact ⟨fun q => absurd (show (2 : Nat) = 1 from q) (by decide), fun _ => o6.of (fun k _ => by rw [Va 103 (by decide) (by decide)])⟩⟩
    rw [Vi 95 (by decide) (by decide)] at hk
    rw [Sa 63 (by decide), Va 96 (by decide) (by decide)]
    exact o5 k hk
theorem cag_f {s : CS} {b : Nat} : (∀ j : Nat, j ≠ 73 → j ≠ 74 → j ≠ 75 → (cAg s b).i j = s.i j) ∧ ((cAg s b).i 73 = 4 ∧ (cAg s b).i 74 = 0 ∧ (cAg s b).i 75 = 0) ∧ (cAg s b).w = some b ∧ ((cAg s b).a = s.a ∧ (cAg s b).r = s.r ∧ (cAg s b).o = s.o ∧ (cAg s b).ot = s.ot ∧ (cAg s b).oa = s.oa) := by
  unfold cAg
  refine ⟨fun j a c d => ?_, ⟨?_, ?_, ?_⟩, rfl, rfl, rfl, rfl, rfl, rfl⟩
  · rw [ci_ne _ _ _ d, ci_ne _ _ _ c, ci_ne _ _ _ a, ci_setW]
  · rw [ci_ne _ _ _ (by decide), ci_ne _ _ _ (by decide), ci_at]
  · rw [ci_ne _ _ _ (by decide), ci_at]
  · rw [ci_at]
end
section
/-! both machines: a body is left; a whole leave -/
theorem thr_in {N H n0 : Nat} (hN : 10000000000 ≤ N) {D : Nat → List Nat} {T : Int32 × CS} {s0 S S1 : CS} {nm : Nat → Nat → Prop} {AL : Als} {nu : Nat → Nat} {h u f : Nat} {e : Ent} {c : List Ent} {P V : RS} {x y : Int32} {n1 : Int} {B : Int} (hct : HCT nm AL) (hk : e.k = 1) (d22 : frs (e :: c) ≤ 22) (acl : ACL nm H S P nu AL h u f e c n1) (t4 : S.i 73 = 4) (z4 : ∀ b : Nat, S.w = some b → S1 = cBg (cFt S f b) f ((cFt S f b).o f 1)) (cr : CRN N H D T s0 S1 x) (eh : e.h ≤ h) (hb : HBD S1 P AL e c u) (ty : HFN S1 P AL e c u) (hB : x.toInt + fps c + 1459 + u + 1 ≤ B) (hB4 : B ≤ 4000000) (hy : y.toInt = (c.length : Int)) (qq : ∃ Q : Int32 × RS, f_X12_isCaught N P y = some Q ∧ ((¬ Q.1 = 0 ∧ Q.2 = V) ∨ (Q.1 = 0 ∧ (Q.2.a 102 c.length = 0 → LVF N (f_X12_leave_0 N n0) Q.2 V y)))) : STP N H D T s0 nm AL h u V S1 P c n0 B := by
  have z1 := acl.1
  have y10 := z1.2.2.2.2.2.1
  have hy1 : REFS S := z1.1.1
  have hf : frs (e :: c) = frs c + 1 := frs_up (by omega)
  have x2 := cl_nat hy
  obtain ⟨b, w1, w2, w3, w4⟩ := y10.th t4
  have eS' := z4 b w1
  obtain ⟨u1, ⟨u2, u3, u4, u5⟩, ⟨u6, u7, u8, u9⟩, u10, ⟨u11, u12, u13⟩, u14⟩ := cbt_f (s := S) (f := f) (b := b) (t := (cFt S f b).o f 1)
  rw [← eS'] at u1 u2 u3 u4 u5 u6 u7 u8 u9 u10 u11 u12 u13
  rw [u14] at u3
  clear eS' z4
  have tlS : ∀ b' : Nat, TLV S P nu b' → TLV S1 P nu b' := (feq_top (P := P) (nu := nu) (m := 0) (c := c) hy1 acl.2.1.1 (by omega) u6 u7 u9 u10).2
  obtain ⟨nr, pr, hn, hp, hrw⟩ := hb
  have h66 : (S1.i 66).toInt = (pr : Int) := by
    rw [u3]
    have q := hp (S.o f 1) acl.2.1.2.1
    unfold cTg at *
    rw [u6] at q
    exact q
  have p4 : P.i 110 = 3 := y10.h4.mp t4
  obtain ⟨Q, q5, q6⟩ := qq
  have q7 : f_X12_isCaught_12 N N P y (P.a 30 e.y) = some Q := by
    unfold f_X12_isCaught at q5
    rw [x2, cl_nat acl.2.2.1.2.1] at q5
    exact (hf_ite (hf_ite q5).2).2
  have S72 : S1.i 72 = -1 := (u1 72 (by decide) (by decide) (by decide) (by decide)).trans z1.2.1
  have i67 : (S1.i 67).toInt = (frs c : Int) + 1 := by
    rw [u1 67 (by decide) (by decide) (by decide) (by decide), z1.2.2.2.1.2.1.1, hf]
    omega
  have r61 : S1.r 61 (frs c) = some f := by
    rw [u7]
    exact acl.2.1.1
  have tlr : TLR S1 P := z1.2.2.2.2.2.2.1.of (fun j hj => u1 j (by omega) (by omega) (by omega) (by omega)) (fun k _ => by rw [u6]) (RFX.rf P)
  obtain ⟨S', x', h1, h2, h3, h4⟩ := hr_loop hN (by omega) w2 nr N pr (P.a 30 e.y) S1 x Q hrw cr S72 u5 h66 i67 r61 u13 (tlS b w3) tlr (by omega) q7
  rcases h4 with ⟨h5, h6, S2, h7, h8⟩ | ⟨h5, pb, qb, zz, ll, w, j, ⟨h6, h6'⟩, ⟨h7, h8⟩, h9, S2, h10, h11, h12⟩
  · -- no catch is for it
    obtain ⟨v1, ⟨v2, v3, v4⟩, v5, v6, v7, v8, v9, v10⟩ := cag_f (s := S2) (b := b)
    rw [← h8] at v1 v2 v3 v4 v5 v6 v7 v8 v9 v10
    obtain ⟨E1, E2, E3, E4, E5, E6, E7⟩ := h7
    obtain ⟨bl, tp, tv⟩ := acl_blw (S1 := S') hk d22 acl (by rw [v6, E2, u6]) (by rw [v7, E3, u7]) (by rw [v10, E7, u9]) (fun g' hg => by rw [v8, E5, v9, E6]; exact u10 g' hg) (fun j j1 j2 j3 j4 j5 j6 => by rw [v1 j j4 j5 j6, E1 j j2, u1 j j1 j2 j3 j4]) (by rw [v1 68 (by decide) (by decide) (by decide), E1 68 (by decide), u4]) (fun q => absurd v2 q) (by rw [v8, E5, u11]) (fun j q => by rw [v8, E5, u12 j q])
    have lf : LVF N (f_X12_leave_0 N n0) P V y := by
      rcases q6 with ⟨q6, -⟩ | ⟨-, q6⟩
      · exact absurd h5 q6
      · rw [h6] at q6
        exact q6 acl.2.2.1.2.2.2
    have s15 : S'.a = S1.a := by rw [v6, E2]
    have wy : WYS S' P nu AL (e :: c) h u (S'.i 73) (S'.i 74) (S'.i 75) S'.w (P.i 110) (P.i 111) (P.i 112) (P.i 113) (P.i 114) := Or.inr (Or.inr (Or.inr ⟨v2, p4, v4, b, v5, w2, tv b w3⟩))
    exact STP.bk (by rw [s15]) (by rw [s15]) (by rw [s15]) (RFX.rf P) rfl (fop hN (Or.inl hk) h1 tp bl eh wy (fun q => by rw [v2] at q; rcases q with q | q <;> exact absurd q (by decide)) (ty.cg (by rw [s15]) (RFX.rf P)) (by omega) hB4 hy lf)
  · -- a catch begins
    obtain ⟨bl, tp, tv⟩ := acl_blw (S1 := cAg S1 b) hk d22 acl u6 u7 u9 u10 (fun j j1 j2 j3 j4 j5 j6 => by rw [cag_f.1 j j4 j5 j6, u1 j j1 j2 j3 j4]) (by rw [cag_f.1 68 (by decide) (by decide) (by decide), u4]) (fun q => absurd cag_f.2.1.1 q) u11 u12
    have th : (P.i 85).toInt + tps c + 1 ≤ 2 * (P.i 80).toInt := by
      have q1' := z1.2.2.2.1.2.2.2.1.2
      have q2' := z1.2.2.2.2.1.1
      have q3' : tps (e :: c) = tps c + 2 := by
        show tps c + (if e.k = 1 then 2 else if e.k = 2 then 1 else 0) = tps c + 2
        rw [if_pos hk]
      omega
    obtain ⟨-, hck, -⟩ := hct _ _ _ _ _ _ h6
    rw [x2] at h9
    obtain ⟨sy, i80⟩ := cat_in hck bl tp ⟨fun j j1 j2 j3 => (cag_f.1 j j1 j2 j3).symm, rfl, rfl, rfl, rfl, rfl⟩ u13 (tv b w3) (by rw [u2]; exact acl.2.1.2.2) u5 eh w2 th h10 h11 h12 h9 h8
    rcases q6 with ⟨-, q6⟩ | ⟨q6, -⟩
    · rw [q6] at sy i80
      refine Or.inl ⟨i80, Or.inl ⟨S', x', nu, e.h, pb + 1, qb, w, _, h1, sy, h6, ?_⟩⟩
      show x'.toInt + ((fps c + 1154 : Nat) : Int) + w ≤ B
      omega
    · exact absurd q6 h5
theorem st_1 {N H n0 : Nat} (hN : 10000000000 ≤ N) {D : Nat → List Nat} {T : Int32 × CS} {s0 s : CS} {nm : Nat → Nat → Prop} {AL : Als} {mu : Nat → Nat} {h u : Nat} {e : Ent} {c : List Ent} {r V : RS} {x : Int32} {n : Int} {B : Int} (hct : HCT nm AL) (hk : e.k = 1) (d22 : frs (e :: c) ≤ 22) (ck : CTK nm (e :: c)) (cr : CRN N H D T s0 s x) (l : LVR nm s r mu AL h (e :: c) n u) (eh : e.h ≤ h) (hb : HBD s r AL e c u) (ty : HFN s r AL e c u) (ng : LVG r) (hB : x.toInt + fps (e :: c) + u + 1 ≤ B) (hB4 : B ≤ 4000000) (g : f_X12_leave_0 N (n0 + 1) r = some V) : STP N H D T s0 nm AL h u V s r c n0 B := by
  obtain ⟨l1, ⟨l2, l3, l4⟩, ⟨dy0, ⟨o1, o2, o3, o4, o5, o6⟩⟩, ⟨l7, l8⟩, l9, l10⟩ := id l
  obtain ⟨⟨d0, d1⟩, ⟨d2, d2'⟩, d3, ⟨d4, d4'⟩, d6, d7⟩ := id dy0
  have g1 := lv_ng ng g
  obtain ⟨x1, x2⟩ := idx1 (r := r) (k := c.length) d2'
  have hf : frs (e :: c) = frs c + 1 := frs_up (by omega)
  have fp : fps (e :: c) = fps c + 1460 := by
    show fps c + (if e.k = 0 then 2 else if e.k = 1 then 1460 else if e.k = 2 then 1154 else if e.k = 3 then 1152 else 0) = fps c + 1460
    rw [if_neg (by omega), if_pos hk]
  have nd := nd_ofw d2' l9.hw.1 l9.hw.2.1 ng
  have lt := ltg_of (by omega) l9 nd d2
  have x0 := cr.2.2.1.1
  have hr : REFS s := cr.1.1
  rcases d1 with ⟨k0, -⟩ | ⟨k1, a1, ⟨a2, a3⟩, ⟨f, a4, a5, a6, a7, a8⟩, a9⟩ | ⟨k0, -⟩ | ⟨k0, -⟩ | ⟨k0, -⟩ | ⟨k0, -⟩
  · omega
  · have h67 : (s.i 67).toInt = (frs c : Int) + 1 := by
      rw [d2, hf]
      omega
    obtain ⟨P, p1, p2⟩ := lv_r40 x2 a1 a3 g1
    obtain ⟨S1, e1, e2, e3⟩ := cr.lv hN l1 l9.hw.2.2.1 (by omega)
    have e4 := lo_b h67 (by omega) a4.1 lt a4.2.1 e1
    have fk : oK s f 1 := hr.2.2.2.1 (frs c) f (by omega) a4.1
    have e1' : (1 : Int32).toInt = 1 := by decide
    have hx : (s.i 68 - 1).toInt = (r.i 95).toInt - 1 := by
      rw [o1, toInt_sub] <;> rw [e1'] <;> omega
    have cli : CLI nm H s r mu AL h (e :: c) n u := ⟨⟨hr, cr.1.2.1⟩, l1, ⟨l2, l3, l4⟩, dy0, ⟨l7, l8⟩, Or.inr l9, l10, ⟨o2, by omega⟩, o5⟩
    have e5 : f_X3_leaveBody_7 N N s f (s.i 68 - 1) = some ((), S1) := e4
    have p3 : f_X12_closeAll_0 N N r (r.i 99 - 1) = some P := p1
    obtain ⟨q1, q2⟩ := o6.1 hk
    obtain ⟨S, nu, n1, z1, z2, z3, z4, z5, z6, ⟨z7, z8⟩, z9, z80⟩ := cl_all (f := f) (by omega) ck d22 N N s r mu n (s.i 68 - 1) ((), S1) P cli hx fk (by rw [x2]; exact a6) (by rw [a6]; exact a7) (by rw [a6]; exact q1) e5 p3
    have rfx : RFX r P := kx_f_X12_closeAll N r _ P p1
    have c15 : S1.a 15 = s.a 15 := e2.2.1 15 (by decide)
    have c16 : S1.a 16 = s.a 16 := e2.2.1 16 (by decide)
    have c17 : S1.a 17 = s.a 17 := e2.2.1 17 (by decide)
    have acl : ACL nm H S P nu AL h u f e c n1 := by
      obtain ⟨-, -, -, ⟨⟨dd0, dd1⟩, -⟩, -⟩ := id z1
      rcases dd1 with ⟨k0, -⟩ | ⟨-, b1, ⟨b2, b3⟩, ⟨f', b4, b5, b6, b7, b8⟩, b9⟩ | ⟨k0, -⟩ | ⟨k0, -⟩ | ⟨k0, -⟩ | ⟨k0, -⟩
      · omega
      · have ef : f' = f := by
          have y1 := b4.1
          rw [z6, a4.1] at y1
          exact (Option.some.inj y1).symm
        rw [ef] at b4 b5 b6
        have op : ops (e :: c) = ops c + e.z := by
          show ops c + (if e.k = 1 then e.z else 0) = ops c + e.z
          rw [if_pos hk]
        have e95 : P.i 95 = P.a 103 c.length := by
          rw [z2, a6, z9]
        refine ⟨z1, ⟨b4.1, b5, b4.2.2⟩, ⟨b1, b2, dd0, b3⟩, b9, ⟨by rw [z2, z8], by rw [e95]; exact b8, by omega, ?_⟩⟩
        rw [e95, z9]
        exact q2.of (fun k _ => by rw [z9])
      · omega
      · omega
      · omega
      · omega
    have y10 := z1.2.2.2.2.2.1
    have hy1 : REFS S := z1.1.1
    by_cases t4 : S.i 73 = 4
    · -- one is thrown
      rcases p2 with ⟨p4, p5⟩ | ⟨p4, -⟩
      · exact STP.bk c15 c16 c17 rfx z80 (thr_in hN hct hk d22 acl t4 (fun b w1 => z4 b t4 w1) e3 eh (hb.cg c15 c16 c17 rfx) (ty.cg c17 rfx) (by rw [ad1 x0 (by omega)]; omega) hB4 x1 p5)
      · exact absurd (y10.h4.mp t4) p4
    · -- none is thrown
      have eS : S1 = cFb S f := z3 t4
      obtain ⟨u1, u2, ⟨u3, u4, u5, u6, u7⟩, u8, u9, u10⟩ := cfb_f (s := S) (f := f)
      rw [← eS] at u1 u2 u3 u4 u5 u6 u7 u8 u9 u10
      clear eS
      rcases z5 with z5 | ⟨y1, y2, y3, y4, y5⟩
      · exact absurd z5 t4
      obtain ⟨bl, tp, tv⟩ := acl_blw (S1 := S1) hk d22 acl u3 u4 u7 (fun g' hg => ⟨u8 g' hg, by rw [u6]⟩) (fun j _ _ j3 _ _ _ => u1 j j3) u2 (fun _ => ⟨u1 65 (by decide), t4⟩) u9 u10
      have wy : WYS S1 P nu AL (e :: c) h u (S1.i 73) (S1.i 74) (S1.i 75) S1.w (P.i 110) (P.i 111) (P.i 112) (P.i 113) (P.i 114) := by
        rw [u1 73 (by decide), u1 74 (by decide), u1 75 (by decide), u5]
        rcases y10 with ⟨w1, w2⟩ | w
        · rw [y1] at w1
          rw [y4, l9.hw.1 w1] at w2
          exact absurd w2 (by decide)
        · exact w.of (by rw [u3]) rfl rfl rfl (fun b _ t => ⟨tv b t, rfl⟩)
      have nh : ¬ P.i 110 = 3 := fun q => t4 (y10.h4.mpr q)
      rcases p2 with ⟨p4, -⟩ | ⟨-, p4⟩
      · exact absurd p4 nh
      · exact STP.bk c15 c16 c17 rfx z80 (fop hN (Or.inl hk) e3 tp bl eh wy (fun q => by rw [u1 73 (by decide), y1] at q; rw [y5]; exact nd q) (ty.cg c17 rfx) (by rw [ad1 x0 (by omega)]; omega) hB4 x1 (p4 acl.2.2.1.2.2.2))
  · omega
  · omega
  · omega
  · omega
/-- a whole leave -/
theorem lv_main {N H : Nat} (hN : 10000000000 ≤ N) {D : Nat → List Nat} {T : Int32 × CS} {s0 : CS} {nm : Nat → Nat → Prop} {AL : Als} {h u : Nat} {V : RS} {B : Int} (hct : HCT nm AL) (hB4 : B ≤ 4000000) : ∀ (c : List Ent) (n0 : Nat) (s : CS) (r : RS) (mu : Nat → Nat) (n : Int) (x : Int32), CTK nm c → frs c ≤ 22 → (∀ e ∈ c, e.h ≤ h) → TYC s r AL u c → CRN N H D T s0 s x → LVR nm s r mu AL h c n u → x.toInt + fps c + u + 1 ≤ B → f_X12_leave_0 N n0 r = some V → LVO N H D T s0 nm AL V (r.i 80) B := by
  intro c
  induction c with
  | nil =>
    intro n0 s r mu n x ck d22 eh ty cr l hB g
    have l9 := l.2.2.2.2.1
    rcases l9 with ⟨a1, a2, c1, c0, b1, ⟨b2, b3⟩, b4, b5⟩ | ⟨a1, a2, a3, c1, a, c0, b1, b2⟩ | ⟨a1, -⟩ | ⟨a1, -⟩
    · have e1 : c1 = [] ∧ c0 = [] := List.append_eq_nil_iff.mp b1.symm
      rw [e1.1] at b5
      rw [e1.2] at b2 b3 b5
      obtain ⟨p, q, w, ⟨z1, z2⟩, z3, z4, -⟩ := b5 (fun e he => by cases he)
      exact arr_1 hN cr (Nat.zero_le _) l a1 a2 b2 b3 z1 z2 z3 z4 hB hB4 g
    · cases c1 with
      | nil => cases b1
      | cons z1 z2 => cases b1
    · exact arr_E hN cr l (Or.inl a1) (by omega) g
    · exact arr_E hN cr l (Or.inr a1) (by omega) g
  | cons e c ih =>
    intro n0 s r mu n x ck d22 eh ty cr l hB g
    have l9 := l.2.2.2.2.1
    obtain ⟨d1, ⟨d2, d2'⟩, -⟩ := l.2.2.1.1
    have el : ((e :: c).length : Int) = (c.length : Int) + 1 := by
      show ((c.length + 1 : Nat) : Int) = _
      omega
    have fl := frs_le (e := e) (c := c)
    cases n0 with
    | zero => cases g
    | succ n0 =>
      -- at the goal, or not
      have step : LVG r → LVO N H D T s0 nm AL V (r.i 80) B := fun ng => by
        have st : STP N H D T s0 nm AL h u V s r c n0 B := by
          rcases d1.2 with ⟨k0, -⟩ | ⟨k0, -⟩ | ⟨k0, -⟩ | ⟨k0, -⟩ | ⟨k0, -⟩ | ⟨k0, -⟩
          · exact st_0 hN k0 d22 cr l ng hB hB4 g
          · exact st_1 hN hct k0 d22 ck cr l (eh e List.mem_cons_self) (ty.1 k0) (ty.2.1 (Or.inl k0)) ng hB hB4 g
          · exact st_2 hN k0 d22 cr l (eh e List.mem_cons_self) (ty.2.1 (Or.inr k0)) ng hB hB4 g
          · exact st_3 hN k0 d22 cr l ng hB hB4 g
          · exact st_45 (Or.inl k0) cr l ng hB g
          · exact st_45 (Or.inr k0) cr l ng hB g
        rcases st with st | ⟨S, R, nu, n1, x', q1, q2, q3, q4, ⟨q5, q6, q7⟩, q8, q9⟩
        · exact st
        · have := ih n0 S R nu n1 x' ck.2.2 (by omega) (fun a ha => eh a (List.mem_cons_of_mem _ ha)) (TYC.cg q5 q6 q7 q8 ty.2.2) q1 q2 q4 q3
          rw [q9] at this
          exact this
      have z0 : (0 : Int32).toInt = 0 := by decide
      rcases id l9 with ⟨a1, a2, c1, c0, b1, ⟨b2, b3⟩, b4, b5⟩ | ⟨a1, a2, a3, c1, a, c0, b1, ⟨b2, b2', b2''⟩, ⟨b3, b4⟩, b5, b6⟩ | ⟨a1, a2, -⟩ | ⟨a1, a2, -⟩
      · cases c1 with
        | nil =>
          have e0 : c0 = e :: c := b1.symm
          rw [e0] at b2 b3 b5
          obtain ⟨p, q, w, ⟨z1, z2⟩, z3, z4, -⟩ := b5 (fun e he => by cases he)
          exact arr_1 hN cr d22 l a1 a2 b2 b3 z1 z2 z3 z4 hB hB4 g
        | cons e' c1 =>
          have e2 : c = c1 ++ c0 := (List.cons.inj b1).2
          have l2 : c.length = c1.length + c0.length := by rw [e2, List.length_append]
          exact step (Or.inl ⟨Or.inl a2, fun q => by have := le_int q; omega⟩)
      · cases c1 with
        | nil =>
          have e1 : e = a ∧ c = c0 := List.cons.inj b1
          rw [← e1.1] at b2 b2' b6
          rw [← e1.2] at b3 b4 b6
          obtain ⟨p, q, w, ⟨z1, z2⟩, z3, z4, -⟩ := b6 (fun e he => by cases he)
          exact arr_2 hN cr (by omega) ck.2.2 l a1 a2 a3 b2 b2' b2'' b3 b4 z1 z2 z3 z4 hB hB4 g
        | cons e' c1 =>
          have e2 : c = c1 ++ a :: c0 := (List.cons.inj b1).2
          have l2 : c.length = c1.length + (c0.length + 1) := by rw [e2, List.length_append, List.length_cons]
          exact step (Or.inl ⟨Or.inr a2, fun q => by have := le_int q; omega⟩)
      · exact step (Or.inr ⟨by rw [a2]; decide, by rw [a2]; decide, fun q => by have := le_int q; omega⟩)
      · exact step (Or.inr ⟨by rw [a2]; decide, by rw [a2]; decide, fun q => by have := le_int q; omega⟩)
end
section
/-! both machines: places that belong together, and what stands there -/
def gcr (g : Nat) : Int := if g = 1 then 2 else 0
def gpo (g : Nat) : Int := if g = 1 then 1461 else 0
def BTP (s : CS) (h g : Nat) : Prop := 2 ≤ g → ∃ k : Nat, h = k + 1 ∧ (s.a 60 k = 0 ∨ s.a 60 k = 1) ∧ (g = 3 → s.a 60 k = 0) ∧ (g = 4 → s.a 60 k = 1)
/-- both stand at a place -/
def PTX (N H : Nat) (D : Nat → List Nat) (T : Int32 × CS) (s0 : CS) (r0 : RS) (nm : Nat → Nat → Prop) (AL : Als) (s : CS) (r : RS) (mu : Nat → Nat) (h p q w g : Nat) (c : List Ent) (x : Int32) : Prop := CRN N H D T s0 s x ∧ RFX r0 r ∧ SYN nm s r mu AL h p q c (-(gcr g)) ∧ BTP s h g ∧ AL p q h w g c ∧ x.toInt + fps c + w + gpo g ≤ 3990 * (r.i 80).toInt + 10000
/-- both ended alike -/
def FIE (T : Int32 × CS) (U : Int32 × RS) : Prop := RNZ T.2 U.2 ∧ T.1 = U.1
/-- later both stand at a place again, or both have ended -/
def NXTW (N H : Nat) (D : Nat → List Nat) (T : Int32 × CS) (s0 : CS) (r0 : RS) (nm : Nat → Nat → Prop) (AL : Als) (n : Nat) (U : Int32 × RS) : Prop := (∃ (m : Nat) (s : CS) (r : RS) (mu : Nat → Nat) (h p q w g : Nat) (c : List Ent) (x : Int32), m < n ∧ PTX N H D T s0 r0 nm AL s r mu h p q w g c x ∧ f_X12_run_122 N m r = some U) ∨ FIE T U
/-- the next place, a jump's place: so much dearer than what follows -/
def NXW (AL : Als) (p q h w n g : Nat) (c : List Ent) : Prop := ∃ w' : Nat, w' + n ≤ w ∧ AL p q h w' g c
def JX (s0 : CS) (AL : Als) (t x : Int32) (h w n g : Nat) (c : List Ent) : Prop := ∃ p q w' : Nat, ((cTg s0 t).toInt = (p : Int) ∧ x.toInt = (q : Int)) ∧ w' + n ≤ w ∧ AL p q h w' g c
theorem bud_x {N H : Nat} {D : Nat → List Nat} {T : Int32 × CS} {s0 : CS} {r0 : RS} {nm : Nat → Nat → Prop} {AL : Als} {s : CS} {r : RS} {mu : Nat → Nat} {h p q w g : Nat} {c : List Ent} {x : Int32} (pt : PTX N H D T s0 r0 nm AL s r mu h p q w g c x) : x.toInt + fps c + w ≤ 4000000 ∧ 0 ≤ x.toInt := by
  obtain ⟨p1, p2, ⟨⟨-, -, p3, -⟩, -⟩, -, -, p6⟩ := pt
  have q := p3.1.2.2
  have : 0 ≤ gpo g := by
    unfold gpo
    by_cases z : g = 1
    · rw [if_pos z]
      decide
    · rw [if_neg z]
      exact Int.le_refl _
  exact ⟨by omega, p1.2.2.1.1⟩
/-- one instruction of each -/
theorem pt_tick {N H n : Nat} (hN : 10000000000 ≤ N) {D : Nat → List Nat} {T : Int32 × CS} {s0 : CS} {r0 : RS} {nm : Nat → Nat → Prop} {AL : Als} {s : CS} {r : RS} {mu : Nat → Nat} {h p q w g : Nat} {c : List Ent} {x : Int32} {U : Int32 × RS} (hct : HCT nm AL) (pt : PTX N H D T s0 r0 nm AL s r mu h p q w g c x) (hq : (q : Int) < (r0.i 20).toInt) (hw : 1 ≤ w) (e : f_X12_run_122 N n r = some U) : ∃ (m : Nat) (S : CS) (V : RS), n = m + 1 ∧ (f_X3_instruction N s = some ((), S) ∧ MR s S ∧ (S.i 72 = -1 → CRN N H D T s0 S (x + 1)) ∧ (¬ S.i 72 = -1 → T = (S.i 72, S))) ∧ (f_X12_act N (rNx r) (r.i 92) = some V ∧ f_X12_run_122 N m V = some U ∧ RFX r0 V) ∧ (cOp s = s0.a 15 p ∧ cAr s = s0.a 16 p) ∧ cTg s = cTg s0 ∧ (p < 1200 ∧ q ≤ 3000) ∧ (x + 1).toInt = x.toInt + 1 := by
  obtain ⟨bx, x0⟩ := bud_x pt
  obtain ⟨p1, p2, ⟨p3, p4, p5⟩, -, p6, -⟩ := pt
  obtain ⟨⟨hp, hq3⟩, -⟩ := hct _ _ _ _ _ _ p6
  obtain ⟨S, e1, e2, e3, e4⟩ := p1.on hN p3.1.1.1 p3.1.1.2 (by omega)
  cases n with
  | zero => cases e
  | succ m =>
    have q92 := p3.1.2.2
    have i20 : r.i 20 = r0.i 20 := p2.1 20 (by decide)
    obtain ⟨V, v1, v2⟩ := rn_one (by omega) (by rw [i20]; omega) e
    have o := cop_at p3.1.2.1 hp
    rw [p1.2.1.2.1 15 (by decide), p1.2.1.2.1 16 (by decide)] at o
    have ec : cTg s = cTg s0 := by
      funext t
      unfold cTg
      rw [p1.2.1.2.1 17 (by decide)]
    have rv : RFX r (rNx r) := ⟨fun j hj => rNx_i (by omega), fun _ _ => rfl⟩
    exact ⟨m, S, V, rfl, ⟨e1, e2, e3, e4⟩, ⟨v1, v2, p2.tr (rv.tr (kx_f_X12_act N _ _ V v1))⟩, o, ec, ⟨hp, hq3⟩, ad1 x0 (by omega)⟩
/-- plain instructions end so -/
theorem pl_fin {N H n m : Nat} {D : Nat → List Nat} {T : Int32 × CS} {s0 : CS} {r0 : RS} {nm : Nat → Nat → Prop} {AL : Als} {s S : CS} {r V : RS} {mu : Nat → Nat} {h p q w g h' p' q' w' g' : Nat} {c : List Ent} {x : Int32} {U : Int32 × RS} (hct : HCT nm AL) (pt : PTX N H D T s0 r0 nm AL s r mu h p q w g c x) (hn : n = m + 1) (x1 : (x + 1).toInt = x.toInt + 1) (cr : S.i 72 = -1 → CRN N H D T s0 S (x + 1)) (rf : RFX r0 V) (run : f_X12_run_122 N m V = some U) (mc : MCO nm S V h' p' q') (ec : EXC nm s S) (ev : EXV nm r V) (al : AL p' q' h' w' g' c) (hw : w' + 1 ≤ w) (g1 : ¬ g' = 1) (bt : BTP S h' g') : NXTW N H D T s0 r0 nm AL n U := by
  obtain ⟨p1, p2, ⟨p3, p4, p5⟩, p6, p7, p8⟩ := pt
  obtain ⟨-, ck, -⟩ := hct _ _ _ _ _ _ p7
  have gz : gcr g' = 0 := if_neg g1
  have gz' : gpo g' = 0 := if_neg g1
  have gg : 0 ≤ gcr g ∧ 0 ≤ gpo g := by
    unfold gcr gpo
    by_cases z : g = 1
    · rw [if_pos z, if_pos z]
      decide
    · rw [if_neg z, if_neg z]
      decide
  have d := p4.ex ck ec ev
  have d' : DYN S V mu AL c (-(gcr g')) := by
    obtain ⟨⟨d1, d2, d3, ⟨d4, d5⟩, d6, d7⟩, o⟩ := d
    exact ⟨⟨d1, d2, d3, ⟨d4, by omega⟩, d6, d7⟩, o⟩
  have st := ev.2.2.2
  exact Or.inl ⟨m, S, V, mu, h', p', q', w', g', c, x + 1, by omega, ⟨cr mc.1.1.1, rf, ⟨mc, d', p5.ex ec ev⟩, bt, al, by omega⟩, run⟩
theorem BTP.no {s : CS} {h g : Nat} (hg : ¬ 2 ≤ g) : BTP s h g := fun z => absurd z hg
/-- PUSH -/
def UPush (s0 : CS) (r0 : RS) (AL : Als) (p q h w : Nat) (c : List Ent) : Prop := s0.a 15 p = 0 ∧ r0.a 21 q = 2 ∧ s0.a 16 p = r0.a 22 q ∧ h < 600 ∧ ∃ g' : Nat, NXW AL (p + 1) (q + 1) (h + 1) w 1 g' c ∧ (g' = 0 ∨ (g' = 2 ∧ (s0.a 16 p = 0 ∨ s0.a 16 p = 1)) ∨ (g' = 4 ∧ s0.a 16 p = 1))
theorem u_push {N H n : Nat} (hN : 10000000000 ≤ N) {D : Nat → List Nat} {T : Int32 × CS} {s0 : CS} {r0 : RS} {nm : Nat → Nat → Prop} {AL : Als} {s : CS} {r : RS} {mu : Nat → Nat} {h p q w g : Nat} {c : List Ent} {x : Int32} {U : Int32 × RS} (hct : HCT nm AL) (pt : PTX N H D T s0 r0 nm AL s r mu h p q w g c x) (hq : (q : Int) < (r0.i 20).toInt) (u : UPush s0 r0 AL p q h w c) (e : f_X12_run_122 N n r = some U) : NXTW N H D T s0 r0 nm AL n U := by
  obtain ⟨u1, u2, u3, u4, g', ⟨w', u5, u6⟩, u7⟩ := u
  obtain ⟨m, S, V, hn, ⟨e1, e2, e3, e4⟩, ⟨v1, v2, v3⟩, ⟨o1, o2⟩, oc, ⟨hp, hq3⟩, x1⟩ := pt_tick hN hct pt hq (by omega) e
  have rf := pt.2.1
  have h21 : r.a 21 q = r0.a 21 q := by rw [rf.2 21 (by decide)]
  have h22 : r.a 22 q = r0.a 22 q := by rw [rf.2 22 (by decide)]
  obtain ⟨m1, m2, m3⟩ := un_push pt.2.2.1.1 (by omega) (by omega) u4 (o1.trans u1) (h21.trans u2) (by rw [o2, h22]; exact u3) e1 v1
  have eS : S = cPu (cNx s) (cAr s) := xi_0 (o1.trans u1) e1
  have hv := pt.2.2.1.1.2.1.1
  have e65 : ((cNx s).i 65).toInt = (h : Int) := by
    rw [cNx_i (by decide)]
    exact hv.1
  have top : S.a 60 h = cAr s := by
    rw [eS]
    show gPut ((cNx s).a 60) 600 ((cNx s).i 65) (cAr s) h = cAr s
    unfold gPut
    rw [if_pos ⟨by omega, by omega⟩, cl_nat e65]
    exact if_pos rfl
  rw [o2] at top
  refine pl_fin hct pt hn x1 e3 v3 v2 m1 m2 m3 u6 u5 (by rcases u7 with z | ⟨z, -⟩ | ⟨z, -⟩ <;> omega) (fun z => ⟨h, rfl, ?_, fun y => by rcases u7 with z' | ⟨z', -⟩ | ⟨z', -⟩ <;> omega, fun y => ?_⟩)
  · rw [top]
    rcases u7 with y | ⟨-, y⟩ | ⟨-, y⟩
    · omega
    · exact y
    · exact Or.inr y
  · rw [top]
    rcases u7 with z' | ⟨z', -⟩ | ⟨-, z'⟩
    · omega
    · omega
    · exact z'
/-- LOAD -/
def ULoad (s0 : CS) (r0 : RS) (nm : Nat → Nat → Prop) (AL : Als) (p q h w : Nat) (c : List Ent) : Prop := s0.a 15 p = 1 ∧ r0.a 21 q = 3 ∧ (∃ k l : Nat, (s0.a 16 p).toInt = (k : Int) ∧ (r0.a 22 q).toInt = (l : Int) ∧ nm k l) ∧ h < 600 ∧ NXW AL (p + 1) (q + 1) (h + 1) w 1 0 c
theorem u_load {N H n : Nat} (hN : 10000000000 ≤ N) {D : Nat → List Nat} {T : Int32 × CS} {s0 : CS} {r0 : RS} {nm : Nat → Nat → Prop} {AL : Als} {s : CS} {r : RS} {mu : Nat → Nat} {h p q w g : Nat} {c : List Ent} {x : Int32} {U : Int32 × RS} (hct : HCT nm AL) (nn : NMP nm) (pt : PTX N H D T s0 r0 nm AL s r mu h p q w g c x) (hq : (q : Int) < (r0.i 20).toInt) (u : ULoad s0 r0 nm AL p q h w c) (e : f_X12_run_122 N n r = some U) : NXTW N H D T s0 r0 nm AL n U := by
  obtain ⟨u1, u2, ⟨k, l, u3, u4, u5⟩, u6, w', u7, u8⟩ := u
  obtain ⟨m, S, V, hn, ⟨e1, e2, e3, e4⟩, ⟨v1, v2, v3⟩, ⟨o1, o2⟩, oc, ⟨hp, hq3⟩, x1⟩ := pt_tick hN hct pt hq (by omega) e
  have rf := pt.2.1
  have h21 : r.a 21 q = r0.a 21 q := by rw [rf.2 21 (by decide)]
  have h22 : r.a 22 q = r0.a 22 q := by rw [rf.2 22 (by decide)]
  obtain ⟨m1, m2, m3⟩ := un_load nn pt.2.2.1.1 (by omega) (by omega) u6 (o1.trans u1) (h21.trans u2) (by rw [o2]; exact u3) (by rw [h22]; exact u4) u5 e1 v1
  exact pl_fin hct pt hn x1 e3 v3 v2 m1 m2 m3 u8 u7 (by decide) (BTP.no (by decide))
/-- STORE, INCREASE -/
def UStor (s0 : CS) (r0 : RS) (nm : Nat → Nat → Prop) (AL : Als) (p q h w : Nat) (c : List Ent) : Prop := (∃ k l : Nat, (s0.a 16 p).toInt = (k : Int) ∧ (r0.a 22 q).toInt = (l : Int) ∧ nm k l) ∧ ((s0.a 15 p = 2 ∧ r0.a 21 q = 5 ∧ ∃ h' : Nat, h = h' + 1 ∧ NXW AL (p + 1) (q + 1) h' w 1 0 c) ∨ (s0.a 15 p = 3 ∧ r0.a 21 q = 6 ∧ NXW AL (p + 1) (q + 1) h w 1 0 c))
theorem u_stor {N H n : Nat} (hN : 10000000000 ≤ N) {D : Nat → List Nat} {T : Int32 × CS} {s0 : CS} {r0 : RS} {nm : Nat → Nat → Prop} {AL : Als} {s : CS} {r : RS} {mu : Nat → Nat} {h p q w g : Nat} {c : List Ent} {x : Int32} {U : Int32 × RS} (hct : HCT nm AL) (nn : NMP nm) (pt : PTX N H D T s0 r0 nm AL s r mu h p q w g c x) (hq : (q : Int) < (r0.i 20).toInt) (u : UStor s0 r0 nm AL p q h w c) (e : f_X12_run_122 N n r = some U) : NXTW N H D T s0 r0 nm AL n U := by
  obtain ⟨⟨k, l, u3, u4, u5⟩, u⟩ := u
  have hw : 1 ≤ w := by
    rcases u with ⟨-, -, h', -, w', z, -⟩ | ⟨-, -, w', z, -⟩ <;> omega
  obtain ⟨m, S, V, hn, ⟨e1, e2, e3, e4⟩, ⟨v1, v2, v3⟩, ⟨o1, o2⟩, oc, ⟨hp, hq3⟩, x1⟩ := pt_tick hN hct pt hq hw e
  have rf := pt.2.1
  have h21 : r.a 21 q = r0.a 21 q := by rw [rf.2 21 (by decide)]
  have h22 : r.a 22 q = r0.a 22 q := by rw [rf.2 22 (by decide)]
  rcases u with ⟨u1, u2, h', eh, w', u7, u8⟩ | ⟨u1, u2, w', u7, u8⟩
  · have mc := pt.2.2.1.1
    rw [eh] at mc
    obtain ⟨m1, m2, m3⟩ := un_stor nn mc (by omega) (by omega) (o1.trans u1) (h21.trans u2) (by rw [o2]; exact u3) (by rw [h22]; exact u4) u5 e1 v1
    exact pl_fin hct pt hn x1 e3 v3 v2 m1 m2 m3 u8 u7 (by decide) (BTP.no (by decide))
  · obtain ⟨m1, m2, m3⟩ := un_inc nn pt.2.2.1.1 (by omega) (by omega) (o1.trans u1) (h21.trans u2) (by rw [o2]; exact u3) (by rw [h22]; exact u4) u5 e1 v1
    exact pl_fin hct pt hn x1 e3 v3 v2 m1 m2 m3 u8 u7 (by decide) (BTP.no (by decide))
/-- JMP -/
def UJmp (s0 : CS) (r0 : RS) (AL : Als) (p q h w : Nat) (c : List Ent) : Prop := s0.a 15 p = 30 ∧ r0.a 21 q = 15 ∧ JX s0 AL (s0.a 16 p) (r0.a 22 q) h w 1 0 c
theorem u_jmp {N H n : Nat} (hN : 10000000000 ≤ N) {D : Nat → List Nat} {T : Int32 × CS} {s0 : CS} {r0 : RS} {nm : Nat → Nat → Prop} {AL : Als} {s : CS} {r : RS} {mu : Nat → Nat} {h p q w g : Nat} {c : List Ent} {x : Int32} {U : Int32 × RS} (hct : HCT nm AL) (pt : PTX N H D T s0 r0 nm AL s r mu h p q w g c x) (hq : (q : Int) < (r0.i 20).toInt) (u : UJmp s0 r0 AL p q h w c) (e : f_X12_run_122 N n r = some U) : NXTW N H D T s0 r0 nm AL n U := by
  obtain ⟨u1, u2, p', q', w', ⟨u3, u4⟩, u7, u8⟩ := u
  obtain ⟨m, S, V, hn, ⟨e1, e2, e3, e4⟩, ⟨v1, v2, v3⟩, ⟨o1, o2⟩, oc, ⟨hp, hq3⟩, x1⟩ := pt_tick hN hct pt hq (by omega) e
  have rf := pt.2.1
  have h21 : r.a 21 q = r0.a 21 q := by rw [rf.2 21 (by decide)]
  have h22 : r.a 22 q = r0.a 22 q := by rw [rf.2 22 (by decide)]
  obtain ⟨m1, m2, m3⟩ := un_jmp pt.2.2.1.1 (by omega) (by omega) (o1.trans u1) (h21.trans u2) (by rw [oc, o2]; exact u3) (by rw [h22]; exact u4) e1 v1
  exact pl_fin hct pt hn x1 e3 v3 v2 m1 m2 m3 u8 u7 (by decide) (BTP.no (by decide))
/-- the top value: cTp -/
theorem cTp_at' {s : CS} {h : Nat} (e : (s.i 65).toInt = (h : Int) + 1) (h6 : h < 600) : cTp s = s.a 60 h := by
  have e1 : (1 : Int32).toInt = 1 := by decide
  have hi := Int32.toInt_lt (s.i 65)
  have em : (s.i 65 - 1).toInt = (h : Int) := by
    rw [toInt_sub] <;> rw [e1] <;> omega
  unfold cTp gAt
  rw [if_pos (show ib (s.i 65 - 1) 600 from ⟨by omega, by omega⟩), cl_nat em]
/-- JZ; g = 4: the top value is 1 -/
def UJz (s0 : CS) (r0 : RS) (AL : Als) (p q h w g : Nat) (c : List Ent) : Prop := s0.a 15 p = 31 ∧ r0.a 21 q = 13 ∧ ∃ h' : Nat, h = h' + 1 ∧ (g = 4 ∨ JX s0 AL (s0.a 16 p) (r0.a 22 q) h' w 1 0 c) ∧ NXW AL (p + 1) (q + 1) h' w 1 0 c
theorem u_jz {N H n : Nat} (hN : 10000000000 ≤ N) {D : Nat → List Nat} {T : Int32 × CS} {s0 : CS} {r0 : RS} {nm : Nat → Nat → Prop} {AL : Als} {s : CS} {r : RS} {mu : Nat → Nat} {h p q w g : Nat} {c : List Ent} {x : Int32} {U : Int32 × RS} (hct : HCT nm AL) (pt : PTX N H D T s0 r0 nm AL s r mu h p q w g c x) (hq : (q : Int) < (r0.i 20).toInt) (u : UJz s0 r0 AL p q h w g c) (e : f_X12_run_122 N n r = some U) : NXTW N H D T s0 r0 nm AL n U := by
  obtain ⟨u1, u2, h', eh, uj, w'', u9, u10⟩ := u
  obtain ⟨m, S, V, hn, ⟨e1, e2, e3, e4⟩, ⟨v1, v2, v3⟩, ⟨o1, o2⟩, oc, ⟨hp, hq3⟩, x1⟩ := pt_tick hN hct pt hq (by omega) e
  have rf := pt.2.1
  have h21 : r.a 21 q = r0.a 21 q := by rw [rf.2 21 (by decide)]
  have h22 : r.a 22 q = r0.a 22 q := by rw [rf.2 22 (by decide)]
  have mc := pt.2.2.1.1
  have bt := pt.2.2.2.1
  rw [eh] at mc
  rcases uj with g4 | ⟨p', q', w', ⟨u3, u4⟩, u7, u8⟩
  · obtain ⟨k, ek, -, -, k4⟩ := bt (by omega)
    have kh : k = h' := by omega
    have t60 := k4 g4
    rw [kh] at t60
    have hv := mc.2.1.1
    have e65 : (s.i 65).toInt = (h' : Int) + 1 := by
      rw [hv.1]
      omega
    have h6 : h' < 600 := by
      have := hv.2.2
      omega
    have ct : cTp s = 1 := (cTp_at' e65 h6).trans t60
    have f1 := xi_31 (o1.trans u1) e1
    have g1 := xa_13 (r := rNx r) (by rw [mc.clq]; exact h21.trans u2) v1
    obtain ⟨t1, t2, t3, t4⟩ := un_tak mc (by omega) (by omega)
    have tp : rTp (rNx r) = cTp s := t4.symm
    have c0 : ¬ cTp s = 0 := by rw [ct]; decide
    rw [tp, if_neg c0] at g1
    have f1' : S = cPo (cNx s) := f1.trans (if_neg c0)
    obtain ⟨-, -, n3, n4⟩ := mc.nx (by omega) (by omega)
    obtain ⟨b1, b2⟩ := un_toR (y := (rNx r).i 92) t1 n4
    rw [← f1'] at b1 t2
    rw [← g1] at b1 b2
    exact pl_fin hct pt hn x1 e3 v3 v2 b1 t2 (t3.tr b2) u10 u9 (by decide) (BTP.no (by decide))
  · obtain ⟨m1, m2, m3⟩ := un_jz mc (by omega) (by omega) (o1.trans u1) (h21.trans u2) (by rw [oc, o2]; exact u3) (by rw [h22]; exact u4) e1 v1
    rcases m1 with ⟨-, m1⟩ | ⟨-, m1⟩
    · exact pl_fin hct pt hn x1 e3 v3 v2 m1 m2 m3 u8 u7 (by decide) (BTP.no (by decide))
    · exact pl_fin hct pt hn x1 e3 v3 v2 m1 m2 m3 u10 u9 (by decide) (BTP.no (by decide))
/-- OUT -/
def UOut (s0 : CS) (r0 : RS) (AL : Als) (p q h w : Nat) (c : List Ent) : Prop := s0.a 15 p = 52 ∧ r0.a 21 q = 16 ∧ ∃ h' : Nat, h = h' + 1 ∧ NXW AL (p + 1) (q + 1) h' w 1 0 c
theorem u_out {N H n : Nat} (hN : 10000000000 ≤ N) {D : Nat → List Nat} {T : Int32 × CS} {s0 : CS} {r0 : RS} {nm : Nat → Nat → Prop} {AL : Als} {s : CS} {r : RS} {mu : Nat → Nat} {h p q w g : Nat} {c : List Ent} {x : Int32} {U : Int32 × RS} (hct : HCT nm AL) (pt : PTX N H D T s0 r0 nm AL s r mu h p q w g c x) (hq : (q : Int) < (r0.i 20).toInt) (u : UOut s0 r0 AL p q h w c) (e : f_X12_run_122 N n r = some U) : NXTW N H D T s0 r0 nm AL n U := by
  obtain ⟨u1, u2, h', eh, w', u7, u8⟩ := u
  obtain ⟨m, S, V, hn, ⟨e1, e2, e3, e4⟩, ⟨v1, v2, v3⟩, ⟨o1, o2⟩, oc, ⟨hp, hq3⟩, x1⟩ := pt_tick hN hct pt hq (by omega) e
  have rf := pt.2.1
  have h21 : r.a 21 q = r0.a 21 q := by rw [rf.2 21 (by decide)]
  have mc := pt.2.2.1.1
  rw [eh] at mc
  obtain ⟨m1, m2, m3⟩ := un_out mc (by omega) (by omega) (o1.trans u1) (h21.trans u2) e1 v1
  exact pl_fin hct pt hn x1 e3 v3 v2 m1 m2 m3 u8 u7 (by decide) (BTP.no (by decide))
end
section
/-! both machines: more units -/
theorem un_pc {nm : Nat → Nat → Prop} {A S : CS} {R : RS} {h p p' q : Nat} (m : MCO nm A R h p q) (ei : ∀ j : Nat, j ≠ 66 → S.i j = A.i j) (ea : ∀ k : Nat, k ≠ 60 → S.a k = A.a k) (e60 : ∀ k : Nat, k < h → S.a 60 k = A.a 60 k) (er : S.r = A.r ∧ S.w = A.w ∧ S.o = A.o ∧ S.ot = A.ot ∧ S.oa = A.oa) (h66 : (S.i 66).toInt = (p' : Int)) : MCO nm S R h p' q ∧ EXC nm A S := by
  obtain ⟨⟨⟨m1, m2⟩, m3, m4⟩, ⟨⟨m5, m6, m7⟩, m8⟩, m9, m10⟩ := m
  refine ⟨⟨⟨⟨(ei 72 (by decide)).trans m1, (ei 73 (by decide)).trans m2⟩, h66, m4⟩, ⟨⟨by rw [ei 65 (by decide)]; exact m5, m6, m7⟩, fun k hk => (e60 k hk).trans (m8 k hk)⟩, m9.of (ei 69 (by decide)) (ei 70 (by decide)) (ea 64 (by decide)) rfl rfl rfl rfl, fun k l hk => by rw [ea 59 (by decide)]; exact m10 k l hk⟩, ⟨fun j _ h2 _ _ => ei j h2, fun k _ h2 _ => ea k h2, er, fun k _ => by rw [ea 59 (by decide)]⟩⟩
theorem cTp_at {s : CS} {h : Nat} (e : (s.i 65).toInt = (h : Int) + 1) (h6 : h < 600) : cTp s = s.a 60 h := by
  unfold cTp gAt
  have z := sub_n1 e
  rw [if_pos ⟨by omega, by omega⟩, cl_nat z]
theorem cPu_top {s : CS} {h : Nat} {v : Int32} (e : (s.i 65).toInt = (h : Int)) (h6 : h < 600) : (cPu s v).a 60 h = v := by
  show gPut (s.a 60) 600 (s.i 65) v h = v
  unfold gPut
  rw [if_pos ⟨by omega, by omega⟩, cl_nat e]
  exact if_pos rfl
/-- NEGATE, NOT -/
def UNeg (s0 : CS) (r0 : RS) (AL : Als) (p q h w g : Nat) (c : List Ent) : Prop := ((s0.a 15 p = 4 ∧ r0.a 21 q = 7) ∨ (s0.a 15 p = 5 ∧ r0.a 21 q = 10)) ∧ (∃ h' : Nat, h = h' + 1) ∧ ∃ g' : Nat, NXW AL (p + 1) (q + 1) h w 1 g' c ∧ (g' = 0 ∨ (g' = 2 ∧ g = 2 ∧ s0.a 15 p = 5))
theorem u_neg {N H n : Nat} (hN : 10000000000 ≤ N) {D : Nat → List Nat} {T : Int32 × CS} {s0 : CS} {r0 : RS} {nm : Nat → Nat → Prop} {AL : Als} {s : CS} {r : RS} {mu : Nat → Nat} {h p q w g : Nat} {c : List Ent} {x : Int32} {U : Int32 × RS} (hct : HCT nm AL) (pt : PTX N H D T s0 r0 nm AL s r mu h p q w g c x) (hq : (q : Int) < (r0.i 20).toInt) (u : UNeg s0 r0 AL p q h w g c) (e : f_X12_run_122 N n r = some U) : NXTW N H D T s0 r0 nm AL n U := by
  obtain ⟨u1, ⟨h', eh⟩, g', ⟨w', u5, u6⟩, u7⟩ := u
  obtain ⟨m, S, V, hn, ⟨e1, e2, e3, e4⟩, ⟨v1, v2, v3⟩, ⟨o1, o2⟩, oc, ⟨hp, hq3⟩, x1⟩ := pt_tick hN hct pt hq (by omega) e
  have rf := pt.2.1
  have h21 : r.a 21 q = r0.a 21 q := by rw [rf.2 21 (by decide)]
  have mc := pt.2.2.1.1
  rw [eh] at mc u6
  obtain ⟨m1, m2, m3⟩ := un_neg mc (by omega) (by omega) (by rw [o1, h21]; exact u1) e1 v1
  refine pl_fin hct pt hn x1 e3 v3 v2 m1 m2 m3 u6 u5 (by rcases u7 with z | ⟨z, -⟩ <;> omega) (fun z => ⟨h', rfl, ?_, fun y => by rcases u7 with z' | ⟨z', -⟩ <;> omega, fun y => by rcases u7 with z' | ⟨z', -⟩ <;> omega⟩)
  rcases u7 with y | ⟨-, y1, y2⟩
  · omega
  · have eS : S = cPu (cPo (cNx s)) (1 - cTp s) := xi_5 (o1.trans y2) e1
    obtain ⟨k, ek, hk, -, -⟩ := pt.2.2.2.1 (by omega)
    have hv := mc.2.1.1
    have e65 : (s.i 65).toInt = (h' : Int) + 1 := by
      rw [hv.1]
      omega
    have q65 : ((cPo (cNx s)).i 65).toInt = (h' : Int) := by
      show ((CS.setI (cNx s) 65 ((cNx s).i 65 - 1)).i 65).toInt = _
      rw [ci_at]
      exact sub_n1 (by rw [cNx_i (by decide)]; exact e65)
    have kh : k = h' := by omega
    rw [kh] at hk
    rw [eS, cPu_top q65 (by omega), cTp_at e65 (by omega)]
    rcases hk with hk | hk <;> rw [hk]
    · exact Or.inr (by decide)
    · exact Or.inl (by decide)
/-- arithmetic but for / and %, comparisons -/
def UAri (s0 : CS) (r0 : RS) (AL : Als) (p q h w : Nat) (c : List Ent) : Prop := ((s0.a 15 p = 7 ∧ r0.a 21 q = 8 ∧ r0.a 22 q = 43) ∨ (s0.a 15 p = 8 ∧ r0.a 21 q = 8 ∧ r0.a 22 q = 45) ∨ (s0.a 15 p = 9 ∧ r0.a 21 q = 8 ∧ r0.a 22 q = 42) ∨ (s0.a 15 p = 12 ∧ r0.a 21 q = 9 ∧ r0.a 22 q = 60) ∨ (s0.a 15 p = 13 ∧ r0.a 21 q = 9 ∧ r0.a 22 q = 300) ∨ (s0.a 15 p = 14 ∧ r0.a 21 q = 9 ∧ r0.a 22 q = 62) ∨ (s0.a 15 p = 15 ∧ r0.a 21 q = 9 ∧ r0.a 22 q = 301) ∨ (s0.a 15 p = 16 ∧ r0.a 21 q = 9 ∧ r0.a 22 q = 302) ∨ (s0.a 15 p = 17 ∧ r0.a 21 q = 9 ∧ r0.a 22 q = 303)) ∧ ∃ h' g' : Nat, h = h' + 1 + 1 ∧ NXW AL (p + 1) (q + 1) (h' + 1) w 1 g' c ∧ (g' = 0 ∨ (g' = 2 ∧ 12 ≤ (s0.a 15 p).toInt))
theorem cmp_01 {P : Prop} [Decidable P] {v : Int32} (h : v = if P then 0 else 1) : v = 0 ∨ v = 1 := by
  by_cases z : P
  · rw [if_pos z] at h
    exact Or.inl h
  · rw [if_neg z] at h
    exact Or.inr h
theorem cmp_10 {P : Prop} [Decidable P] {v : Int32} (h : v = if P then 1 else 0) : v = 0 ∨ v = 1 := by
  by_cases z : P
  · rw [if_pos z] at h
    exact Or.inr h
  · rw [if_neg z] at h
    exact Or.inl h
theorem u_ari {N H n : Nat} (hN : 10000000000 ≤ N) {D : Nat → List Nat} {T : Int32 × CS} {s0 : CS} {r0 : RS} {nm : Nat → Nat → Prop} {AL : Als} {s : CS} {r : RS} {mu : Nat → Nat} {h p q w g : Nat} {c : List Ent} {x : Int32} {U : Int32 × RS} (hct : HCT nm AL) (pt : PTX N H D T s0 r0 nm AL s r mu h p q w g c x) (hq : (q : Int) < (r0.i 20).toInt) (u : UAri s0 r0 AL p q h w c) (e : f_X12_run_122 N n r = some U) : NXTW N H D T s0 r0 nm AL n U := by
  obtain ⟨u1, h', g', eh, ⟨w', u5, u6⟩, u7⟩ := u
  obtain ⟨m, S, V, hn, ⟨e1, e2, e3, e4⟩, ⟨v1, v2, v3⟩, ⟨o1, o2⟩, oc, ⟨hp, hq3⟩, x1⟩ := pt_tick hN hct pt hq (by omega) e
  have rf := pt.2.1
  have h21 : r.a 21 q = r0.a 21 q := by rw [rf.2 21 (by decide)]
  have h22 : r.a 22 q = r0.a 22 q := by rw [rf.2 22 (by decide)]
  have mc := pt.2.2.1.1
  rw [eh] at mc
  obtain ⟨m1, m2, m3⟩ := un_ari mc (by omega) (by omega) (by rw [o1, h21, h22]; exact u1) e1 v1
  refine pl_fin hct pt hn x1 e3 v3 v2 m1 m2 m3 u6 u5 (by rcases u7 with z | ⟨z, -⟩ <;> omega) (fun z => ⟨h', rfl, ?_, fun y => by rcases u7 with z' | ⟨z', -⟩ <;> omega, fun y => by rcases u7 with z' | ⟨z', -⟩ <;> omega⟩)
  rcases u7 with y | ⟨-, y⟩
  · omega
  · have hv := mc.2.1.1
    have e65 : (s.i 65).toInt = (h' : Int) + 1 + 1 := by
      rw [hv.1]
      omega
    have a65 : ((cPo (cNx s)).i 65).toInt = (h' : Int) + 1 := by
      show ((CS.setI (cNx s) 65 ((cNx s).i 65 - 1)).i 65).toInt = _
      rw [ci_at]
      exact sub_n1 (c := h' + 1) (by rw [cNx_i (by decide), e65]; omega)
    have b65 : ((cPo (cPo (cNx s))).i 65).toInt = (h' : Int) := by
      show ((CS.setI (cPo (cNx s)) 65 ((cPo (cNx s)).i 65 - 1)).i 65).toInt = _
      rw [ci_at]
      exact sub_n1 a65
    have top : ∀ v : Int32, S = cPu (cPo (cPo (cNx s))) v → S.a 60 h' = v := fun v ev => by
      rw [ev]
      exact cPu_top b65 (by omega)
    rcases u1 with ⟨z1, -⟩ | ⟨z1, -⟩ | ⟨z1, -⟩ | ⟨z1, -⟩ | ⟨z1, -⟩ | ⟨z1, -⟩ | ⟨z1, -⟩ | ⟨z1, -⟩ | ⟨z1, -⟩
    · rw [z1] at y
      exact absurd y (by decide)
    · rw [z1] at y
      exact absurd y (by decide)
    · rw [z1] at y
      exact absurd y (by decide)
    · exact cmp_01 (top _ (xi_12 (o1.trans z1) e1))
    · exact cmp_01 (top _ (xi_13 (o1.trans z1) e1))
    · exact cmp_01 (top _ (xi_14 (o1.trans z1) e1))
    · exact cmp_01 (top _ (xi_15 (o1.trans z1) e1))
    · exact cmp_10 (top _ (xi_16 (o1.trans z1) e1))
    · exact cmp_01 (top _ (xi_17 (o1.trans z1) e1))
/-- a caught one's number -/
theorem FRS.cat {s : CS} {r : RS} {mu : Nat → Nat} {AL : Als} : ∀ {c : List Ent} {m : Int}, FRS s r mu AL c m → ∀ e ∈ c, e.k = 2 → ∃ b : Nat, (r.a 84 e.w).toInt = (mu b : Int) ∧ s.a 59 e.z = r.a 87 (mu b) ∧ TLV s r mu b
  | [], _, _, e, he, _ => by cases he
  | a :: c, m, ⟨_, h⟩, e, he, hk => by
    rcases List.mem_cons.mp he with z | z
    · rw [z] at hk ⊢
      rcases h with ⟨k0, -⟩ | ⟨k0, -⟩ | ⟨k2, a1, a2, ⟨f, b, a3, a4, a5, a6, a7, a8⟩, a9⟩ | ⟨k0, -⟩ | ⟨k0, -⟩ | ⟨k0, -⟩
      · omega
      · omega
      · exact ⟨b, a7, a8, a6⟩
      · omega
      · omega
      · omega
    · rcases h with ⟨-, -, -, h⟩ | ⟨-, -, -, -, h⟩ | ⟨-, -, -, -, h⟩ | ⟨-, -, -, -, h⟩ | ⟨-, -, m0, -, h⟩ | ⟨-, -, -, h⟩
      · exact FRS.cat h e z hk
      · exact FRS.cat h e z hk
      · exact FRS.cat h e z hk
      · exact FRS.cat h e z hk
      · exact FRS.cat h e z hk
      · exact FRS.cat h e z hk
def UCau (s0 : CS) (r0 : RS) (AL : Als) (p q h w : Nat) (c : List Ent) : Prop := s0.a 15 p = 1 ∧ r0.a 21 q = 4 ∧ (∃ e ∈ c, e.k = 2 ∧ (s0.a 16 p).toInt = (e.z : Int) ∧ (r0.a 22 q).toInt = (e.w : Int)) ∧ h < 600 ∧ NXW AL (p + 1) (q + 1) (h + 1) w 1 0 c
theorem u_cau {N H n : Nat} (hN : 10000000000 ≤ N) {D : Nat → List Nat} {T : Int32 × CS} {s0 : CS} {r0 : RS} {nm : Nat → Nat → Prop} {AL : Als} {s : CS} {r : RS} {mu : Nat → Nat} {h p q w g : Nat} {c : List Ent} {x : Int32} {U : Int32 × RS} (hct : HCT nm AL) (pt : PTX N H D T s0 r0 nm AL s r mu h p q w g c x) (hq : (q : Int) < (r0.i 20).toInt) (u : UCau s0 r0 AL p q h w c) (e : f_X12_run_122 N n r = some U) : NXTW N H D T s0 r0 nm AL n U := by
  obtain ⟨u1, u2, ⟨a, ha, ak, u3, u4⟩, u6, w', u7, u8⟩ := u
  obtain ⟨m, S, V, hn, ⟨e1, e2, e3, e4⟩, ⟨v1, v2, v3⟩, ⟨o1, o2⟩, oc, ⟨hp, hq3⟩, x1⟩ := pt_tick hN hct pt hq (by omega) e
  have rf := pt.2.1
  have mc := pt.2.2.1.1
  have h21 : r.a 21 q = r0.a 21 q := by rw [rf.2 21 (by decide)]
  have h22 : r.a 22 q = r0.a 22 q := by rw [rf.2 22 (by decide)]
  obtain ⟨b, b1, b2, -⟩ := pt.2.2.1.2.1.1.1.cat a ha ak
  obtain ⟨-, ck, -⟩ := hct _ _ _ _ _ _ pt.2.2.2.2.1
  have z7 := ((ck.in a ha).1 a.z (Or.inl ⟨ak, rfl⟩)).1
  have eS : S = cPu (cNx s) (gAt (s.a 59) 720 (cAr s)) := xi_1 (o1.trans u1) e1
  have eV := xa_4 (r := rNx r) (by rw [mc.clq]; exact h21.trans u2) v1
  have zc : (cAr s).toInt = (a.z : Int) := by rw [o2]; exact u3
  have g1 : gAt (s.a 59) 720 (cAr s) = s.a 59 a.z := by
    unfold gAt
    rw [if_pos ⟨by omega, by omega⟩, cl_nat zc]
  have g2 : (rNx r).a 87 ((rNx r).a 84 ((rNx r).a 22 (r.i 92).toNatClampNeg).toNatClampNeg).toNatClampNeg = s.a 59 a.z := by
    rw [mc.clq]
    show r.a 87 (r.a 84 (r.a 22 q).toNatClampNeg).toNatClampNeg = s.a 59 a.z
    rw [h22, cl_nat u4, cl_nat b1]
    exact b2.symm
  rw [g1] at eS
  rw [g2] at eV
  obtain ⟨m1, m2, m3⟩ := un_put mc (by omega) (by omega) u6 (s.a 59 a.z)
  rw [← eS, ← eV] at m1
  rw [← eS] at m2
  rw [← eV] at m3
  exact pl_fin hct pt hn x1 e3 v3 v2 m1 m2 m3 u8 u7 (by decide) (BTP.no (by decide))
/-- KEEP -/
def UKep (s0 : CS) (r0 : RS) (AL : Als) (p q h w g : Nat) (c : List Ent) : Prop := ((s0.a 15 p = 32 ∧ r0.a 21 q = 12) ∨ (s0.a 15 p = 33 ∧ r0.a 21 q = 11)) ∧ ∃ h' g' : Nat, h = h' + 1 ∧ JX s0 AL (s0.a 16 p) (r0.a 22 q) h w 1 g' c ∧ NXW AL (p + 1) (q + 1) h' w 1 0 c ∧ (g' = 0 ∨ (g' = 2 ∧ g = 2) ∨ (g' = 3 ∧ s0.a 15 p = 32 ∧ g = 2) ∨ (g' = 4 ∧ s0.a 15 p = 33 ∧ g = 2))
theorem u_kep {N H n : Nat} (hN : 10000000000 ≤ N) {D : Nat → List Nat} {T : Int32 × CS} {s0 : CS} {r0 : RS} {nm : Nat → Nat → Prop} {AL : Als} {s : CS} {r : RS} {mu : Nat → Nat} {h p q w g : Nat} {c : List Ent} {x : Int32} {U : Int32 × RS} (hct : HCT nm AL) (pt : PTX N H D T s0 r0 nm AL s r mu h p q w g c x) (hq : (q : Int) < (r0.i 20).toInt) (u : UKep s0 r0 AL p q h w g c) (e : f_X12_run_122 N n r = some U) : NXTW N H D T s0 r0 nm AL n U := by
  obtain ⟨u1, h', g', eh, ⟨p', q', w', ⟨u3, u4⟩, u5, u6⟩, ⟨w'', u7, u8⟩, u9⟩ := u
  obtain ⟨m, S, V, hn, ⟨e1, e2, e3, e4⟩, ⟨v1, v2, v3⟩, ⟨o1, o2⟩, oc, ⟨hp, hq3⟩, x1⟩ := pt_tick hN hct pt hq (by omega) e
  have rf := pt.2.1
  have h21 : r.a 21 q = r0.a 21 q := by rw [rf.2 21 (by decide)]
  have h22 : r.a 22 q = r0.a 22 q := by rw [rf.2 22 (by decide)]
  have mc := pt.2.2.1.1
  rw [eh] at mc u6
  obtain ⟨m1, m2, m3⟩ := un_keep mc (by omega) (by omega) (by rw [o1, h21]; exact u1) (by rw [oc, o2]; exact u3) (by rw [h22]; exact u4) e1 v1
  rcases m1 with m1 | m1
  · refine pl_fin hct pt hn x1 e3 v3 v2 m1 m2 m3 u6 u5 (by rcases u9 with z | ⟨z, -⟩ | ⟨z, -⟩ | ⟨z, -⟩ <;> omega) (fun z => ?_)
    have g2 : g = 2 := by rcases u9 with y | ⟨-, y⟩ | ⟨-, -, y⟩ | ⟨-, -, y⟩ <;> omega
    obtain ⟨k, ek, hk, -, -⟩ := pt.2.2.2.1 (by omega)
    have eS := xi_kp (by rw [o1]; rcases u1 with ⟨y, -⟩ | ⟨y, -⟩; exact Or.inl y; exact Or.inr y) e1
    have eS' : S = if (cTp s = 0 ↔ cOp s = 32) then CS.setI (cNx s) 66 (gAt (s.a 17) 1024 (cAr s)) else cPo (cNx s) := eS
    have hv := mc.2.1.1
    have e65 : (s.i 65).toInt = (h' : Int) + 1 := by
      rw [hv.1]
      omega
    have ct : cTp s = s.a 60 h' := cTp_at e65 (by omega)
    have hS : (S.i 65).toInt = ((h' + 1 : Nat) : Int) := m1.2.1.1.1
    by_cases y : (cTp s = 0 ↔ cOp s = 32)
    · rw [if_pos y] at eS'
      have ea : S.a 60 = s.a 60 := by
        rw [eS']
        rfl
      have kh : k = h' := by omega
      rw [kh] at hk
      refine ⟨h', by omega, by rw [ea]; exact hk, fun z3 => ?_, fun z4 => ?_⟩
      · rw [ea, ← ct]
        rcases u9 with y' | ⟨y', -⟩ | ⟨-, y', -⟩ | ⟨y', -⟩
        · omega
        · omega
        · exact y.mpr (o1.trans y')
        · omega
      · rw [ea]
        rcases u9 with y' | ⟨y', -⟩ | ⟨y', -⟩ | ⟨-, y', -⟩
        · omega
        · omega
        · omega
        · rcases hk with hk | hk
          · have := y.mp (ct.trans hk)
            rw [o1, y'] at this
            exact absurd this (by decide)
          · exact hk
    · rw [if_neg y] at eS'
      have q65 : (S.i 65).toInt = (h' : Int) := by
        rw [eS']
        show ((CS.setI (cNx s) 65 ((cNx s).i 65 - 1)).i 65).toInt = _
        rw [ci_at]
        exact sub_n1 (by rw [cNx_i (by decide)]; exact e65)
      omega
  · exact pl_fin hct pt hn x1 e3 v3 v2 m1 m2 m3 u8 u7 (by decide) (BTP.no (by decide))
/-- the reference's KEEP alone: what it keeps is known -/
def URkp (r0 : RS) (AL : Als) (p q h w g : Nat) (c : List Ent) : Prop := ((r0.a 21 q = 12 ∧ g = 3) ∨ (r0.a 21 q = 11 ∧ g = 4)) ∧ ∃ h' q' w' g' : Nat, h = h' + 1 ∧ (r0.a 22 q).toInt = (q' : Int) ∧ AL p q' h w' g' c ∧ w' ≤ w ∧ (g' = 2 ∨ g' = g)
theorem u_rkp {N H n : Nat} {D : Nat → List Nat} {T : Int32 × CS} {s0 : CS} {r0 : RS} {nm : Nat → Nat → Prop} {AL : Als} {s : CS} {r : RS} {mu : Nat → Nat} {h p q w g : Nat} {c : List Ent} {x : Int32} {U : Int32 × RS} (hct : HCT nm AL) (pt : PTX N H D T s0 r0 nm AL s r mu h p q w g c x) (hq : (q : Int) < (r0.i 20).toInt) (u : URkp r0 AL p q h w g c) (e : f_X12_run_122 N n r = some U) : NXTW N H D T s0 r0 nm AL n U := by
  obtain ⟨u1, h', q', w', g', eh, u2, u3, u4, u5⟩ := u
  obtain ⟨p1, p2, ⟨mc, p4, p5⟩, p6, p7, p8⟩ := pt
  obtain ⟨⟨hp, hq3⟩, ck, -⟩ := hct _ _ _ _ _ _ p7
  have h21 : r.a 21 q = r0.a 21 q := by rw [p2.2 21 (by decide)]
  have h22 : r.a 22 q = r0.a 22 q := by rw [p2.2 22 (by decide)]
  have q92 := mc.1.2.2
  have i20 : r.i 20 = r0.i 20 := p2.1 20 (by decide)
  have g2 : 2 ≤ g := by rcases u1 with ⟨-, z⟩ | ⟨-, z⟩ <;> omega
  obtain ⟨k, ek, kk, k3, k4⟩ := p6 g2
  have kh : k = h' := by omega
  rw [kh] at kk k3 k4
  cases n with
  | zero => cases e
  | succ m =>
    obtain ⟨V, v1, v2⟩ := rn_one (by omega) (by rw [i20]; omega) e
    have mc' := mc
    rw [eh] at mc'
    have tp : rTp (rNx r) = cTp s := (un_tak mc' (by omega) (by omega)).2.2.2.symm
    have hv := mc'.2.1.1
    have e65 : (s.i 65).toInt = (h' : Int) + 1 := by
      rw [hv.1]
      omega
    have ct : cTp s = s.a 60 h' := cTp_at e65 (by omega)
    have eV : V = RS.setI (rNx r) 92 ((rNx r).a 22 (r.i 92).toNatClampNeg) := by
      rcases u1 with ⟨o, z⟩ | ⟨o, z⟩
      · have g1 := xa_12 (r := rNx r) (by rw [mc.clq]; exact h21.trans o) v1
        rw [tp, ct, if_pos (k3 z)] at g1
        exact g1
      · have g1 := xa_11 (r := rNx r) (by rw [mc.clq]; exact h21.trans o) v1
        rw [tp, ct, if_neg (by rw [k4 z]; decide)] at g1
        exact g1
    obtain ⟨b1, b2⟩ := un_toR (y := r.i 92 + 1) (q' := q + 1) mc (by rw [ad1 (by omega) (by omega), q92]; rfl)
    have y22 : ((rNx r).a 22 (r.i 92).toNatClampNeg).toInt = (q' : Int) := by
      rw [mc.clq]
      show (r.a 22 q).toInt = (q' : Int)
      rw [h22]
      exact u2
    obtain ⟨c1, c2⟩ := un_toR (y := (rNx r).a 22 (r.i 92).toNatClampNeg) b1 y22
    have ev : EXV nm r V := by
      rw [eV]
      exact b2.tr c2
    have ec : EXC nm s s := ⟨fun _ _ _ _ _ => rfl, fun _ _ _ _ => rfl, ⟨rfl, rfl, rfl, rfl, rfl⟩, fun _ _ => rfl⟩
    have gz : gcr g = 0 := if_neg (by omega)
    have gz' : gcr g' = 0 := if_neg (by omega)
    have go : gpo g = 0 := if_neg (by omega)
    have go' : gpo g' = 0 := if_neg (by omega)
    have d := p4.ex ck ec ev
    have st := ev.2.2.2
    refine Or.inl ⟨m, s, V, mu, h, p, q', w', g', c, x, by omega, ⟨p1, p2.tr ev.rfx, ⟨by rw [eV]; exact c1, by rw [gz']; rw [gz] at d; exact d, p5.ex ec ev⟩, fun _ => ⟨h', eh, kk, fun y => k3 (by omega), fun y => k4 (by omega)⟩, u3, by omega⟩, v2⟩
/-- the class's GOTO alone -/
def UCgo (s0 : CS) (AL : Als) (p q h w : Nat) (c : List Ent) : Prop := s0.a 15 p = 30 ∧ ∃ p' w' : Nat, (cTg s0 (s0.a 16 p)).toInt = (p' : Int) ∧ w' + 1 ≤ w ∧ AL p' q h w' 0 c
theorem u_cgo {N H : Nat} (hN : 10000000000 ≤ N) {D : Nat → List Nat} {T : Int32 × CS} {s0 : CS} {r0 : RS} {nm : Nat → Nat → Prop} {AL : Als} {s : CS} {r : RS} {mu : Nat → Nat} {h p q w g : Nat} {c : List Ent} {x : Int32} (hct : HCT nm AL) (pt : PTX N H D T s0 r0 nm AL s r mu h p q w g c x) (u : UCgo s0 AL p q h w c) : ∃ (S : CS) (p' w' : Nat) (x' : Int32), w' < w ∧ PTX N H D T s0 r0 nm AL S r mu h p' q w' 0 c x' := by
  obtain ⟨bx, x0⟩ := bud_x pt
  obtain ⟨p1, p2, ⟨p3, p4, p5⟩, p6, p7, p8⟩ := pt
  obtain ⟨u1, p', w', u2, u3, u4⟩ := u
  obtain ⟨⟨hp, hq3⟩, ck, -⟩ := hct _ _ _ _ _ _ p7
  obtain ⟨S, e1, e2, e3, e4⟩ := p1.on hN p3.1.1.1 p3.1.1.2 (by omega)
  have o := cop_at p3.1.2.1 hp
  rw [p1.2.1.2.1 15 (by decide), p1.2.1.2.1 16 (by decide)] at o
  have ec : cTg s = cTg s0 := by
    funext t
    unfold cTg
    rw [p1.2.1.2.1 17 (by decide)]
  have eS : S = CS.setI (cNx s) 66 (gAt (s.a 17) 1024 (cAr s)) := xi_30 (o.1.trans u1) e1
  have Si : ∀ j : Nat, j ≠ 66 → S.i j = s.i j := fun j hj => by rw [eS, ci_ne _ _ _ hj, cNx_i hj]
  have Sa : S.a = s.a := by rw [eS]; rfl
  have Sr : S.r = s.r ∧ S.w = s.w ∧ S.o = s.o ∧ S.ot = s.ot ∧ S.oa = s.oa := by rw [eS]; exact ⟨rfl, rfl, rfl, rfl, rfl⟩
  have S66 : (S.i 66).toInt = (p' : Int) := by
    rw [eS, ci_at]
    have z : (cTg s (cAr s)).toInt = (p' : Int) := by rw [ec, o.2]; exact u2
    exact z
  have x1 : (x + 1).toInt = x.toInt + 1 := ad1 x0 (by omega)
  have exc : EXC nm s S := ⟨fun j _ j2 _ _ => Si j j2, fun k _ _ _ => by rw [Sa], Sr, fun k _ => by rw [Sa]⟩
  have exv : EXV nm r r := ⟨fun _ _ _ _ _ => rfl, fun _ _ _ _ _ => rfl, fun _ _ => rfl, Int.le_refl _⟩
  have mc : MCO nm S r h p' q := by
    obtain ⟨⟨⟨c1, c2⟩, c3, c4⟩, c5, c6, c7⟩ := p3
    refine ⟨⟨⟨by rw [Si 72 (by decide)]; exact c1, by rw [Si 73 (by decide)]; exact c2⟩, S66, c4⟩, ?_, ?_, fun k l z => by rw [Sa]; exact c7 k l z⟩
    · unfold MVS at *
      rw [Si 65 (by decide), Sa]
      exact c5
    · unfold MTR at *
      rw [Si 69 (by decide), Si 70 (by decide), Sa]
      exact c6
  have gg : 0 ≤ gcr g ∧ 0 ≤ gpo g := by
    unfold gcr gpo
    by_cases z : g = 1
    · rw [if_pos z, if_pos z]
      decide
    · rw [if_neg z, if_neg z]
      decide
  have d := p4.ex ck exc exv
  have d' : DYN S r mu AL c (-(gcr 0)) := by
    obtain ⟨⟨d1, d2, d3, ⟨d4, d5⟩, d6, d7⟩, o⟩ := d
    exact ⟨⟨d1, d2, d3, ⟨d4, by have : gcr 0 = 0 := rfl; omega⟩, d6, d7⟩, o⟩
  have g0 : gpo 0 = 0 := rfl
  exact ⟨S, p', w', x + 1, by omega, ⟨e3 mc.1.1.1, p2, ⟨mc, d', p5.ex exc exv⟩, BTP.no (by decide), u4, by omega⟩⟩
end
section
/-! both machines: units of more than one step -/
theorem pl_fink {N H n m k : Nat} {D : Nat → List Nat} {T : Int32 × CS} {s0 : CS} {r0 : RS} {nm : Nat → Nat → Prop} {AL : Als} {s S : CS} {r V : RS} {mu : Nat → Nat} {h p q w g h' p' q' w' g' : Nat} {c : List Ent} {x y : Int32} {U : Int32 × RS} (hct : HCT nm AL) (pt : PTX N H D T s0 r0 nm AL s r mu h p q w g c x) (hn : m < n) (x1 : y.toInt ≤ x.toInt + k) (cr : CRN N H D T s0 S y) (rf : RFX r0 V) (run : f_X12_run_122 N m V = some U) (mc : MCO nm S V h' p' q') (ec : EXC nm s S) (ev : EXV nm r V) (al : AL p' q' h' w' g' c) (hw : w' + k ≤ w) (g1 : ¬ g' = 1) (bt : BTP S h' g') : NXTW N H D T s0 r0 nm AL n U := by
  obtain ⟨p1, p2, ⟨p3, p4, p5⟩, p6, p7, p8⟩ := pt
  obtain ⟨-, ck, -⟩ := hct _ _ _ _ _ _ p7
  have gz : gcr g' = 0 := if_neg g1
  have gz' : gpo g' = 0 := if_neg g1
  have gg : 0 ≤ gcr g ∧ 0 ≤ gpo g := by
    unfold gcr gpo
    by_cases z : g = 1
    · rw [if_pos z, if_pos z]
      decide
    · rw [if_neg z, if_neg z]
      decide
  have d := p4.ex ck ec ev
  have d' : DYN S V mu AL c (-(gcr g')) := by
    obtain ⟨⟨d1, d2, d3, ⟨d4, d5⟩, d6, d7⟩, o⟩ := d
    exact ⟨⟨d1, d2, d3, ⟨d4, by omega⟩, d6, d7⟩, o⟩
  have st := ev.2.2.2
  exact Or.inl ⟨m, S, V, mu, h', p', q', w', g', c, y, hn, ⟨cr, rf, ⟨mc, d', p5.ex ec ev⟩, bt, al, by omega⟩, run⟩
/-- a second instruction of the class -/
theorem tick2 {N H : Nat} (hN : 10000000000 ≤ N) {D : Nat → List Nat} {T : Int32 × CS} {s0 S : CS} {p : Nat} {x : Int32} (cr : CRN N H D T s0 S x) (h72 : S.i 72 = -1) (h73 : S.i 73 = 0) (h66 : (S.i 66).toInt = (p : Int)) (hp : p < 1200) (hx : x.toInt < 4000000) : ∃ S2 : CS, f_X3_instruction N S = some ((), S2) ∧ (S2.i 72 = -1 → CRN N H D T s0 S2 (x + 1)) ∧ (¬ S2.i 72 = -1 → T = (S2.i 72, S2)) ∧ (cOp S = s0.a 15 p ∧ cAr S = s0.a 16 p) ∧ cTg S = cTg s0 ∧ (x + 1).toInt = x.toInt + 1 := by
  obtain ⟨S2, e1, e2, e3, e4⟩ := cr.on hN h72 h73 hx
  have o := cop_at h66 hp
  rw [cr.2.1.2.1 15 (by decide), cr.2.1.2.1 16 (by decide)] at o
  refine ⟨S2, e1, e3, e4, o, ?_, ad1 cr.2.2.1.1 (by omega)⟩
  funext t
  unfold cTg
  rw [cr.2.1.2.1 17 (by decide)]
/-- NOT, IF_NOT against JNZ -/
def UJnf (s0 : CS) (r0 : RS) (AL : Als) (p q h w g : Nat) (c : List Ent) : Prop := (s0.a 15 p = 5 ∧ s0.a 15 (p + 1) = 31 ∧ r0.a 21 q = 14 ∧ p + 1 < 1200) ∧ g = 2 ∧ ∃ h' : Nat, h = h' + 1 ∧ JX s0 AL (s0.a 16 (p + 1)) (r0.a 22 q) h' w 2 0 c ∧ NXW AL (p + 2) (q + 1) h' w 2 0 c
theorem u_jnf {N H n : Nat} (hN : 10000000000 ≤ N) {D : Nat → List Nat} {T : Int32 × CS} {s0 : CS} {r0 : RS} {nm : Nat → Nat → Prop} {AL : Als} {s : CS} {r : RS} {mu : Nat → Nat} {h p q w g : Nat} {c : List Ent} {x : Int32} {U : Int32 × RS} (hct : HCT nm AL) (pt : PTX N H D T s0 r0 nm AL s r mu h p q w g c x) (hq : (q : Int) < (r0.i 20).toInt) (u : UJnf s0 r0 AL p q h w g c) (e : f_X12_run_122 N n r = some U) : NXTW N H D T s0 r0 nm AL n U := by
  obtain ⟨⟨u1, u2, u3, u3'⟩, u4, h', eh, ⟨p', q', w', ⟨u5, u6⟩, u7, u8⟩, w'', u9, u10⟩ := u
  obtain ⟨m, S, V, hn, ⟨e1, e2, e3, e4⟩, ⟨v1, v2, v3⟩, ⟨o1, o2⟩, oc, ⟨hp, hq3⟩, x1⟩ := pt_tick hN hct pt hq (by omega) e
  have rf := pt.2.1
  have h21 : r.a 21 q = r0.a 21 q := by rw [rf.2 21 (by decide)]
  have h22 : r.a 22 q = r0.a 22 q := by rw [rf.2 22 (by decide)]
  obtain ⟨bx, x0⟩ := bud_x pt
  have mc := pt.2.2.1.1
  rw [eh] at mc
  have hv := mc.2.1.1
  have eS : S = cPu (cPo (cNx s)) (1 - cTp s) := xi_5 (o1.trans u1) e1
  have e65 : (s.i 65).toInt = (h' : Int) + 1 := by
    rw [hv.1]
    omega
  have q65 : ((cPo (cNx s)).i 65).toInt = (h' : Int) := by
    show ((CS.setI (cNx s) 65 ((cNx s).i 65 - 1)).i 65).toInt = _
    rw [ci_at]
    exact sub_n1 (by rw [cNx_i (by decide)]; exact e65)
  obtain ⟨k, ek, hk, -, -⟩ := pt.2.2.2.1 (by omega)
  have kh : k = h' := by omega
  rw [kh] at hk
  have ct : cTp s = s.a 60 h' := cTp_at e65 (by omega)
  have S65 : (S.i 65).toInt = (h' : Int) + 1 := by
    rw [eS]
    show ((CS.setI (CS.putA (cPo (cNx s)) 60 (gPut ((cPo (cNx s)).a 60) 600 ((cPo (cNx s)).i 65) (1 - cTp s))) 65 ((cPo (cNx s)).i 65 + 1)).i 65).toInt = _
    rw [ci_at, ad1 (by omega) (by omega), q65]
  have Stop : S.a 60 h' = 1 - cTp s := by
    rw [eS]
    exact cPu_top q65 (by omega)
  have Sct : cTp S = 1 - cTp s := (cTp_at S65 (by omega)).trans Stop
  have Si : ∀ j : Nat, j ≠ 65 → j ≠ 66 → S.i j = s.i j := fun j a b => by rw [eS, cPu_i a, cPo_i a, cNx_i b]
  have S66 : (S.i 66).toInt = ((p + 1 : Nat) : Int) := by
    rw [eS, cPu_i (by decide), cPo_i (by decide)]
    exact cNx_66 mc.1.2.1 (by omega)
  have Sa : ∀ k : Nat, k ≠ 60 → S.a k = s.a k := fun k a => by
    rw [eS, cPu_a a]
    rfl
  have Sl : ∀ k : Nat, k < h' → S.a 60 k = s.a 60 k := fun k hk' => by
    rw [eS]
    show gPut ((cPo (cNx s)).a 60) 600 ((cPo (cNx s)).i 65) (1 - cTp s) k = s.a 60 k
    unfold gPut
    rw [if_pos ⟨by omega, by omega⟩, cl_nat q65]
    exact if_neg (by omega)
  have Sr : S.r = s.r ∧ S.w = s.w ∧ S.o = s.o ∧ S.ot = s.ot ∧ S.oa = s.oa := by
    rw [eS]
    exact ⟨rfl, rfl, rfl, rfl, rfl⟩
  have S72 : S.i 72 = -1 := (Si 72 (by decide) (by decide)).trans mc.1.1.1
  have S73 : S.i 73 = 0 := (Si 73 (by decide) (by decide)).trans mc.1.1.2
  obtain ⟨S2, f1, f2, -, ⟨f4, f5⟩, f6, x2⟩ := tick2 hN (e3 S72) S72 S73 S66 u3' (by omega)
  have f7 := xi_31 (f4.trans u2) f1
  have f7' : S2 = if cTp S = 0 then CS.setI (cPo (cNx S)) 66 (cTg S (cAr S)) else cPo (cNx S) := f7
  obtain ⟨t1, t2, t3, t4⟩ := un_tak mc (by omega) (by omega)
  have g1 := xa_14 (r := rNx r) (by rw [mc.clq]; exact h21.trans u3) v1
  have tp : rTp (rNx r) = cTp s := t4.symm
  rw [tp, mc.clq] at g1
  have n4 := t1.1.2.2
  have S2i : ∀ j : Nat, j ≠ 66 → (cPo (cNx S)).i j = (cPo (cNx s)).i j := fun j a => by
    by_cases b : j = 65
    · rw [b]
      exact Int32.toInt_inj.mp (by
        rw [q65]
        show ((CS.setI (cNx S) 65 ((cNx S).i 65 - 1)).i 65).toInt = _
        rw [ci_at]
        exact sub_n1 (by rw [cNx_i (by decide)]; exact S65))
    · rw [cPo_i b, cNx_i a, cPo_i b, cNx_i a]
      exact Si j b a
  have fin : ∀ (S3 : CS) (pp : Nat), (∀ j : Nat, j ≠ 66 → S3.i j = (cPo (cNx S)).i j) → S3.a = S.a → (S3.r = S.r ∧ S3.w = S.w ∧ S3.o = S.o ∧ S3.ot = S.ot ∧ S3.oa = S.oa) → (S3.i 66).toInt = (pp : Int) → MCO nm S3 (rPo (rNx r)) h' pp (q + 1) ∧ EXC nm (cPo (cNx s)) S3 := fun S3 pp i1 i2 i3 i4 => by
    obtain ⟨j1, j2, j3, j4, j5⟩ := i3
    obtain ⟨k1, k2, k3, k4, k5⟩ := Sr
    exact un_pc t1 (fun j a => (i1 j a).trans (S2i j a)) (fun k a => by rw [i2]; exact Sa k a) (fun k a => by rw [i2]; exact Sl k a) ⟨j1.trans k1, j2.trans k2, j3.trans k3, j4.trans k4, j5.trans k5⟩ i4
  have p2 : ((cPo (cNx S)).i 66).toInt = ((p + 2 : Nat) : Int) := by
    rw [cPo_i (by decide)]
    exact cNx_66 S66 (by omega)
  rcases hk with hk | hk
  · -- false: both go on
    have c0 : cTp s = 0 := ct.trans hk
    have c1 : ¬ cTp S = 0 := by
      rw [Sct, c0]
      decide
    rw [if_neg c1] at f7'
    rw [if_pos c0] at g1
    obtain ⟨m1, m2⟩ := fin (cPo (cNx S)) (p + 2) (fun _ _ => rfl) rfl ⟨rfl, rfl, rfl, rfl, rfl⟩ p2
    have n92 : ((rNx r).i 92).toInt = ((q + 1 : Nat) : Int) := by
      have := n4
      rw [rPo_i (by decide)] at this
      exact this
    obtain ⟨b1, b2⟩ := un_toR (y := (rNx r).i 92) m1 n92
    rw [← f7'] at b1 m2
    rw [← g1] at b1 b2
    exact pl_fink (k := 2) hct pt (by omega) (by omega) (f2 b1.1.1.1) v3 v2 b1 (t2.tr m2) (t3.tr b2) u10 u9 (by decide) (BTP.no (by decide))
  · -- true: both jump
    have c0 : ¬ cTp s = 0 := by
      rw [ct, hk]
      decide
    have c1 : cTp S = 0 := by
      rw [Sct, ct, hk]
      decide
    rw [if_pos c1] at f7'
    rw [if_neg c0] at g1
    obtain ⟨m1, m2⟩ := fin (CS.setI (cPo (cNx S)) 66 (cTg S (cAr S))) p' (fun j a => ci_ne _ _ _ a) rfl ⟨rfl, rfl, rfl, rfl, rfl⟩ (by rw [ci_at, f6, f5]; exact u5)
    obtain ⟨b1, b2⟩ := un_toR (y := (rNx r).a 22 q) m1 (by show (r.a 22 q).toInt = _; rw [h22]; exact u6)
    rw [← f7'] at b1 m2
    rw [← g1] at b1 b2
    exact pl_fink (k := 2) hct pt (by omega) (by omega) (f2 b1.1.1.1) v3 v2 b1 (t2.tr m2) (t3.tr b2) u8 u7 (by decide) (BTP.no (by decide))
/-- IF_NOT, GOTO against JNZ: the end of a do -/
def UJnb (s0 : CS) (r0 : RS) (AL : Als) (p q h w g : Nat) (c : List Ent) : Prop := (s0.a 15 p = 31 ∧ s0.a 15 (p + 1) = 30 ∧ r0.a 21 q = 14 ∧ p + 1 < 1200) ∧ ∃ h' : Nat, h = h' + 1 ∧ JX s0 AL (s0.a 16 (p + 1)) (r0.a 22 q) h' w 2 0 c ∧ (g = 4 ∨ ∃ p' w' : Nat, (cTg s0 (s0.a 16 p)).toInt = (p' : Int) ∧ w' + 1 ≤ w ∧ AL p' (q + 1) h' w' 0 c)
theorem u_jnb {N H n : Nat} (hN : 10000000000 ≤ N) {D : Nat → List Nat} {T : Int32 × CS} {s0 : CS} {r0 : RS} {nm : Nat → Nat → Prop} {AL : Als} {s : CS} {r : RS} {mu : Nat → Nat} {h p q w g : Nat} {c : List Ent} {x : Int32} {U : Int32 × RS} (hct : HCT nm AL) (pt : PTX N H D T s0 r0 nm AL s r mu h p q w g c x) (hq : (q : Int) < (r0.i 20).toInt) (u : UJnb s0 r0 AL p q h w g c) (e : f_X12_run_122 N n r = some U) : NXTW N H D T s0 r0 nm AL n U := by
  obtain ⟨⟨u1, u2, u3, u3'⟩, h', eh, ⟨p', q', w', ⟨u5, u6⟩, u7, u8⟩, ux⟩ := u
  have bt := pt.2.2.2.1
  obtain ⟨m, S, V, hn, ⟨e1, e2, e3, e4⟩, ⟨v1, v2, v3⟩, ⟨o1, o2⟩, oc, ⟨hp, hq3⟩, x1⟩ := pt_tick hN hct pt hq (by omega) e
  have rf := pt.2.1
  have h21 : r.a 21 q = r0.a 21 q := by rw [rf.2 21 (by decide)]
  have h22 : r.a 22 q = r0.a 22 q := by rw [rf.2 22 (by decide)]
  obtain ⟨bx, x0⟩ := bud_x pt
  have mc := pt.2.2.1.1
  rw [eh] at mc
  obtain ⟨t1, t2, t3, t4⟩ := un_tak mc (by omega) (by omega)
  have g1 := xa_14 (r := rNx r) (by rw [mc.clq]; exact h21.trans u3) v1
  have tp : rTp (rNx r) = cTp s := t4.symm
  rw [tp, mc.clq] at g1
  have f7 := xi_31 (o1.trans u1) e1
  have f7' : S = if cTp s = 0 then CS.setI (cPo (cNx s)) 66 (cTg s (cAr s)) else cPo (cNx s) := f7
  by_cases c0 : cTp s = 0
  · rcases ux with g4 | ⟨p'', w'', u9, u10, u11⟩
    · exfalso
      obtain ⟨k, ek, -, -, k4⟩ := bt (by omega)
      have kh : k = h' := by omega
      have t60 := k4 g4
      rw [kh] at t60
      have hv := mc.2.1.1
      have e65 : (s.i 65).toInt = (h' : Int) + 1 := by
        rw [hv.1]
        omega
      have h6 : h' < 600 := by
        have := hv.2.2
        omega
      rw [cTp_at' e65 h6, t60] at c0
      exact absurd c0 (by decide)
    rw [if_pos c0] at f7' g1
    obtain ⟨a1, a2⟩ := un_toC (x := cTg s (cAr s)) t1 (by rw [oc, o2]; exact u9)
    have n92 : ((rNx r).i 92).toInt = ((q + 1 : Nat) : Int) := by
      have := t1.1.2.2
      rw [rPo_i (by decide)] at this
      exact this
    obtain ⟨b1, b2⟩ := un_toR (y := (rNx r).i 92) a1 n92
    rw [← f7'] at b1 a2
    rw [← g1] at b1 b2
    exact pl_fin hct pt hn x1 e3 v3 v2 b1 (t2.tr a2) (t3.tr b2) u11 u10 (by decide) (BTP.no (by decide))
  · rw [if_neg c0] at f7' g1
    have S66 : (S.i 66).toInt = ((p + 1 : Nat) : Int) := by
      rw [f7']
      exact t1.1.2.1
    have S72 : S.i 72 = -1 := by
      rw [f7']
      exact t1.1.1.1
    have S73 : S.i 73 = 0 := by
      rw [f7']
      exact t1.1.1.2
    obtain ⟨S2, f1, f2, -, ⟨f4, f5⟩, f6, x2⟩ := tick2 hN (e3 S72) S72 S73 S66 u3' (by omega)
    have f8 := xi_30 (f4.trans u2) f1
    have f8' : S2 = CS.setI (cNx S) 66 (cTg S (cAr S)) := f8
    rw [← f7'] at t1 t2
    obtain ⟨a1, a2⟩ := un_pc (S := S2) (p' := p') t1 (fun j a => by rw [f8', ci_ne _ _ _ a, cNx_i a]) (fun k _ => by rw [f8']; rfl) (fun k _ => by rw [f8']; rfl) (by rw [f8']; exact ⟨rfl, rfl, rfl, rfl, rfl⟩) (by rw [f8', ci_at, f6, f5]; exact u5)
    obtain ⟨b1, b2⟩ := un_toR (y := (rNx r).a 22 q) a1 (by show (r.a 22 q).toInt = _; rw [h22]; exact u6)
    rw [← g1] at b1 b2
    exact pl_fink (k := 2) hct pt (by omega) (by omega) (f2 b1.1.1.1) v3 v2 b1 (t2.tr a2) (t3.tr b2) u8 u7 (by decide) (BTP.no (by decide))
/-- IF_CALM, ASSERTS -/
theorem xi_35 {N : Nat} {s : CS} {R : Unit × CS} (h : cOp s = 35) (e : f_X3_instruction N s = some R) : R.2 = if s.i 14 = 0 then CS.setI (cNx s) 66 (cTg s (cAr s)) else cNx s := by
  have z := xi_ste (by rw [h]; decide) (by rw [h]; decide) (by rw [h]; decide) e
  rw [h] at z
  unfold f_X3_steer f_X3_steer_133 f_X3_goIf at z
  rw [if_neg (by decide), if_neg (by decide), if_neg (by decide), if_neg (by decide), if_neg (by decide), if_pos rfl] at z
  have i14 : (cNx s).i 14 = s.i 14 := cNx_i (by decide)
  rw [i14] at z
  by_cases c : s.i 14 = 0
  · rw [if_pos c] at z ⊢
    rw [if_neg (by decide), ob_some] at z
    rw [← Option.some.inj z]
    rfl
  · rw [if_neg c] at z ⊢
    rw [if_pos rfl, ob_some] at z
    rw [← Option.some.inj z]
def UAsr (s0 : CS) (r0 : RS) (AL : Als) (p q h w : Nat) (c : List Ent) : Prop := s0.a 15 p = 35 ∧ r0.a 21 q = 22 ∧ JX s0 AL (s0.a 16 p) (r0.a 22 q) h w 1 0 c ∧ NXW AL (p + 1) (q + 1) h w 1 0 c
theorem u_asr {N H n : Nat} (hN : 10000000000 ≤ N) {D : Nat → List Nat} {T : Int32 × CS} {s0 : CS} {r0 : RS} {nm : Nat → Nat → Prop} {AL : Als} {s : CS} {r : RS} {mu : Nat → Nat} {h p q w g : Nat} {c : List Ent} {x : Int32} {U : Int32 × RS} (hct : HCT nm AL) (pt : PTX N H D T s0 r0 nm AL s r mu h p q w g c x) (hq : (q : Int) < (r0.i 20).toInt) (u : UAsr s0 r0 AL p q h w c) (e : f_X12_run_122 N n r = some U) : NXTW N H D T s0 r0 nm AL n U := by
  obtain ⟨u1, u2, ⟨p', q', w', ⟨u3, u4⟩, u7, u8⟩, w'', u9, u10⟩ := u
  obtain ⟨m, S, V, hn, ⟨e1, e2, e3, e4⟩, ⟨v1, v2, v3⟩, ⟨o1, o2⟩, oc, ⟨hp, hq3⟩, x1⟩ := pt_tick hN hct pt hq (by omega) e
  have rf := pt.2.1
  have h21 : r.a 21 q = r0.a 21 q := by rw [rf.2 21 (by decide)]
  have h22 : r.a 22 q = r0.a 22 q := by rw [rf.2 22 (by decide)]
  have mc := pt.2.2.1.1
  have as : s.i 14 = r.i 8 := pt.2.2.1.2.2.2.1.2.2.1
  have f7 := xi_35 (o1.trans u1) e1
  have f7' : S = if s.i 14 = 0 then CS.setI (cNx s) 66 (cTg s (cAr s)) else cNx s := f7
  have g1 := xa_22 (r := rNx r) (by rw [mc.clq]; exact h21.trans u2) v1
  have r8 : (rNx r).i 8 = r.i 8 := rNx_i (by decide)
  rw [r8, mc.clq] at g1
  rw [as] at f7'
  obtain ⟨t1, t2, t3⟩ := un_nx mc (by omega) (by omega)
  by_cases c0 : r.i 8 = 0
  · rw [if_pos c0] at f7' g1
    obtain ⟨a1, a2⟩ := un_toC (x := cTg s (cAr s)) t1 (by rw [oc, o2]; exact u3)
    obtain ⟨b1, b2⟩ := un_toR (y := (rNx r).a 22 q) a1 (by show (r.a 22 q).toInt = _; rw [h22]; exact u4)
    rw [← f7'] at b1 a2
    rw [← g1] at b1 b2
    exact pl_fin hct pt hn x1 e3 v3 v2 b1 (t2.tr a2) (t3.tr b2) u8 u7 (by decide) (BTP.no (by decide))
  · rw [if_neg c0] at f7' g1
    obtain ⟨b1, b2⟩ := un_toR (y := (rNx r).i 92) t1 t1.1.2.2
    rw [← f7'] at b1 t2
    rw [← g1] at b1 b2
    exact pl_fin hct pt hn x1 e3 v3 v2 b1 t2 (t3.tr b2) u10 u9 (by decide) (BTP.no (by decide))
end
section
/-! both machines: units that leave -/
theorem lv_fin {N H n m : Nat} {D : Nat → List Nat} {T : Int32 × CS} {s0 : CS} {r0 : RS} {nm : Nat → Nat → Prop} {AL : Als} {r V : RS} {U : Int32 × RS} (hn : m < n) (run : f_X12_run_122 N m V = some U) (rf : RFX r0 V) (lo : LVO N H D T s0 nm AL V (r.i 80) (3990 * (r.i 80).toInt + 10000)) : NXTW N H D T s0 r0 nm AL n U := by
  obtain ⟨e80, lo⟩ := lo
  rcases lo with ⟨S, x, mu, h, p, q, w, c, l1, l2, l3, l4⟩ | ⟨S, l1, l2, l3, l4⟩
  · refine Or.inl ⟨m, S, V, mu, h, p, q, w, 0, c, x, hn, ⟨l1, rf, l2, BTP.no (by decide), l3, ?_⟩, run⟩
    rw [e80]
    show x.toInt + fps c + w + 0 ≤ _
    omega
  · have ru := rn_end (Or.inl l2) run
    unfold f_X12_run_163 at ru
    right
    rcases l4 with ⟨a, b⟩ | ⟨a, b⟩
    · rw [if_pos b] at ru
      rw [l1, ← Option.some.inj ru]
      exact ⟨l3, a⟩
    · rw [if_neg (by rw [b]; decide), if_pos b] at ru
      rw [l1, ← Option.some.inj ru]
      exact ⟨l3, a⟩
theorem lvr_mk {nm : Nat → Nat → Prop} {A S : CS} {R W : RS} {mu : Nat → Nat} {AL : Als} {h p q u : Nat} {c : List Ent} {n0 : Int} (m : MCO nm A R h p q) (d : DYN A R mu AL c n0) (hn : n0 ≤ 0) (t : TLR A R) (ei : ∀ j : Nat, j ≠ 73 → j ≠ 74 → j ≠ 75 → S.i j = A.i j) (ea : S.a = A.a) (er : S.r = A.r ∧ S.o = A.o ∧ S.ot = A.ot ∧ S.oa = A.oa) (gi : ∀ j : Nat, j < 110 ∨ 114 < j → W.i j = R.i j) (ga : W.a = R.a) (wy : WYS S W mu AL c h u (S.i 73) (S.i 74) (S.i 75) S.w (W.i 110) (W.i 111) (W.i 112) (W.i 113) (W.i 114)) : LVR nm S W mu AL h c 0 u := by
  obtain ⟨⟨⟨m1, m2⟩, m3, m4⟩, m5, m6, m7⟩ := m
  obtain ⟨⟨d1, d2, d3, ⟨d4, d5⟩, d6, d7⟩, o⟩ := d
  obtain ⟨a1, a2, a3, a4⟩ := er
  have tlv : ∀ b : Nat, TLV A R mu b → TLV S W mu b := fun b t => by
    unfold TLV THG inP at *
    rw [a1, a2, a4, ga, gi 85 (by omega), gi 3 (by omega)]
    exact t
  have feq : FEQ A S R W mu mu c (R.i 97).toInt := ⟨fun i f _ hf => ⟨by rw [a1]; exact hf, by rw [a2], by rw [a3]⟩, fun b _ t => ⟨tlv b t, rfl, by rw [ga]⟩, ⟨by rw [ea], by rw [ga], by rw [ga], by rw [ga], by rw [ga]⟩, fun j k _ _ _ => by rw [ga], fun a _ => ⟨fun k _ => by rw [ea], fun l _ => by rw [ga]⟩, fun j _ => by rw [ga]⟩
  refine ⟨(ei 72 (by decide) (by decide) (by decide)).trans m1, ⟨(m5.of (ei 65 (by decide) (by decide) (by decide)) (by rw [ea]) (gi 93 (by omega)) (by rw [ga])).mvh, m6.of (ei 69 (by decide) (by decide) (by decide)) (ei 70 (by decide) (by decide) (by decide)) (by rw [ea]) (gi 80 (by omega)) (gi 81 (by omega)) (by rw [ga]) (by rw [ga]), by rw [ea, ga]; exact m7⟩, ⟨⟨by rw [gi 97 (by omega)]; exact d1.of feq, by rw [ei 67 (by decide) (by decide) (by decide), gi 99 (by omega)]; exact d2, by rw [ei 71 (by decide) (by decide) (by decide), hS_of (r := R) (R := W) (by rw [ga]) 8]; exact d3, by rw [gi 85 (by omega), gi 80 (by omega)]; exact ⟨d4, by omega⟩, ?_, (gi 115 (by omega)).trans d7⟩, ?_⟩, ⟨by decide, fun _ => rfl⟩, wy, t.of (fun j hj => ei j (by omega) (by omega) (by omega)) (fun k _ => by rw [ea]) ⟨fun j hj => gi j (by omega), fun k _ => by rw [ga]⟩⟩
  · unfold MUI at *
    rw [gi 85 (by omega)]
    exact d6
  · obtain ⟨o1, o2, o3, o4, o5, o6⟩ := o
    unfold OPW
    rw [ei 68 (by decide) (by decide) (by decide), gi 95 (by omega), ea, ga]
    exact ⟨o1, o2, o3, o4, o5, o6.of (fun k _ => by rw [ga])⟩
/-- a unit that leaves, in all -/
theorem lv_unit {N H n m : Nat} (hN : 10000000000 ≤ N) {D : Nat → List Nat} {T : Int32 × CS} {s0 : CS} {r0 : RS} {nm : Nat → Nat → Prop} {AL : Als} {s S : CS} {r W V : RS} {mu nu : Nat → Nat} {h p q w g h' u : Nat} {c c' : List Ent} {x y : Int32} {U : Int32 × RS} {n0 : Int} (hct : HCT nm AL) (pt : PTX N H D T s0 r0 nm AL s r mu h p q w g c x) (hn : m < n) (run : f_X12_run_122 N m V = some U) (rf : RFX r0 V) (cr : CRN N H D T s0 S y) (rw0 : RFX r0 W) (e80 : W.i 80 = r.i 80) (ck : CTK nm c' ∧ frs c' ≤ 22 ∧ ∀ e ∈ c', e.h ≤ h') (ty : TYC s0 r0 AL u c') (l : LVR nm S W nu AL h' c' n0 u) (hB : y.toInt + fps c' + u + 1 ≤ x.toInt + fps c + w + gpo g) (lv : f_X12_leave N W = some V) : NXTW N H D T s0 r0 nm AL n U := by
  have a15 : S.a 15 = s0.a 15 := cr.2.1.2.1 15 (by decide)
  have a16 : S.a 16 = s0.a 16 := cr.2.1.2.1 16 (by decide)
  have a17 : S.a 17 = s0.a 17 := cr.2.1.2.1 17 (by decide)
  have st := pt.2.2.1.1.2.2.1.1
  have b6 := pt.2.2.2.2.2
  have lo := lv_main hN (V := V) (B := 3990 * (r.i 80).toInt + 10000) hct (by omega) c' N S W nu n0 y ck.1 ck.2.1 ck.2.2 (TYC.cg a15 a16 a17 rw0 ty) cr l (by omega) lv
  rw [e80] at lo
  exact lv_fin hn run rf lo
theorem gcr_nn {g : Nat} : 0 ≤ gcr g := by
  unfold gcr
  by_cases z : g = 1
  · rw [if_pos z]
    decide
  · rw [if_neg z]
    decide
theorem gpo_nn {g : Nat} : 0 ≤ gpo g := by
  unfold gpo
  by_cases z : g = 1
  · rw [if_pos z]
    decide
  · rw [if_neg z]
    decide
theorem xa_rt {N : Nat} {r V : RS} {x o : Int32} (h : r.a 21 x.toNatClampNeg = o) (ho : o = 17 ∨ o = 18) (g0 : f_X12_act N r x = some V) : f_X12_leave N (RS.setI (RS.setI (RS.setI (rPo r) 113 (rTp r)) 110 (if o = 17 then 2 else 4)) 112 (r.a 23 x.toNatClampNeg)) = some V := by
  have g := xa_ends (by rw [h]; rcases ho with z | z <;> rw [z] <;> decide) g0
  unfold f_X12_ends f_X12_ends_128 at g
  obtain ⟨hi, g1⟩ := hf_ite g
  rcases ho with z | z
  · rw [z] at h ⊢
    rw [if_pos h] at g1
    obtain ⟨A, a1, g2⟩ := hf_bind g1
    rw [e_rPo a1] at g2
    have g3 := (if_pos (show (rPo r).a 21 x.toNatClampNeg = 17 from h)).symm.trans g2
    obtain ⟨B, b1, b2⟩ := hf_bind (hf_ite g3).2
    rw [if_pos rfl, ← Option.some.inj b2]
    exact b1
  · rw [z] at h ⊢
    rw [if_neg (by rw [h]; decide), if_pos h] at g1
    obtain ⟨A, a1, g2⟩ := hf_bind g1
    rw [e_rPo a1] at g2
    have g3 := (if_neg (show ¬ (rPo r).a 21 x.toNatClampNeg = 17 from fun q => absurd (h.symm.trans q) (by decide))).symm.trans g2
    obtain ⟨B, b1, b2⟩ := hf_bind (hf_ite g3).2
    rw [if_neg (by decide), ← Option.some.inj b2]
    exact b1
/-- RETURN, YIELD -/
def URet (s0 : CS) (r0 : RS) (AL : Als) (p q h w : Nat) (c : List Ent) : Prop := ∃ h' u : Nat, h = h' + 1 ∧ u + 2 ≤ w ∧ (∀ e ∈ c, e.h ≤ h') ∧ TYC s0 r0 AL u c ∧ ((s0.a 15 p = 62 ∧ r0.a 21 q = 17) ∨ (s0.a 15 p = 61 ∧ r0.a 21 q = 18 ∧ GL2 s0 r0 AL c h' (s0.a 16 p) (r0.a 23 q) u))
theorem u_ret {N H n : Nat} (hN : 10000000000 ≤ N) {D : Nat → List Nat} {T : Int32 × CS} {s0 : CS} {r0 : RS} {nm : Nat → Nat → Prop} {AL : Als} {s : CS} {r : RS} {mu : Nat → Nat} {h p q w g : Nat} {c : List Ent} {x : Int32} {U : Int32 × RS} (hct : HCT nm AL) (pt : PTX N H D T s0 r0 nm AL s r mu h p q w g c x) (hq : (q : Int) < (r0.i 20).toInt) (u : URet s0 r0 AL p q h w c) (e : f_X12_run_122 N n r = some U) : NXTW N H D T s0 r0 nm AL n U := by
  obtain ⟨h', u, eh, u1, u2, u3, u4⟩ := u
  obtain ⟨m, S, V, hn, ⟨e1, e2, e3, e4⟩, ⟨v1, v2, v3⟩, ⟨o1, o2⟩, oc, ⟨hp, hq3⟩, x1⟩ := pt_tick hN hct pt hq (by omega) e
  have rf := pt.2.1
  have h21 : r.a 21 q = r0.a 21 q := by rw [rf.2 21 (by decide)]
  have h23 : r.a 23 q = r0.a 23 q := by rw [rf.2 23 (by decide)]
  have mc := pt.2.2.1.1
  rw [eh] at mc
  obtain ⟨-, ck, -, d22, -⟩ := hct _ _ _ _ _ _ pt.2.2.2.2.1
  obtain ⟨t1, t2, t3, t4⟩ := un_tak mc (by omega) (by omega)
  have tp : rTp (rNx r) = cTp s := t4.symm
  have dy := pt.2.2.1.2.1.ex ck t2 t3
  have tr := pt.2.2.1.2.2.ex t2 t3
  have gn := gcr_nn (g := g)
  have gn' := gpo_nn (g := g)
  have wr : ∀ a b d : Int32, RFX r0 (RS.setI (RS.setI (RS.setI (rPo (rNx r)) 113 a) 110 b) 112 d) := fun a b d => rf.tr (t3.rfx.tr ⟨fun j hj => by rw [ri_ne (by omega), ri_ne (by omega), ri_ne (by omega)], fun _ _ => rfl⟩)
  have w80 : ∀ a b d : Int32, (RS.setI (RS.setI (RS.setI (rPo (rNx r)) 113 a) 110 b) 112 d).i 80 = r.i 80 := fun a b d => by rw [ri_ne (by decide), ri_ne (by decide), ri_ne (by decide), rPo_i (by decide), rNx_i (by decide)]
  rcases u4 with ⟨y1, y2⟩ | ⟨y1, y2, y3⟩
  · have eS : S = CS.setI (CS.setI (CS.setI (cPo (cNx s)) 73 3) 74 (cTp s)) 75 0 := xi_62 (o1.trans y1) e1
    have lv := xa_rt (r := rNx r) (by rw [mc.clq]; exact h21.trans y2) (Or.inl rfl) v1
    rw [if_pos rfl, tp] at lv
    have S72 : S.i 72 = -1 := by
      rw [eS, ci_ne _ _ _ (by decide), ci_ne _ _ _ (by decide), ci_ne _ _ _ (by decide)]
      exact t1.1.1.1
    have l : LVR nm S (RS.setI (RS.setI (RS.setI (rPo (rNx r)) 113 (cTp s)) 110 2) 112 ((rNx r).a 23 (r.i 92).toNatClampNeg)) mu AL h' c 0 u := by
      refine lvr_mk t1 dy (by omega) tr (fun j a b d => ?_) ?_ ?_ (fun j a => ?_) rfl (Or.inr (Or.inr (Or.inl ⟨?_, ?_, ?_, ?_⟩)))
      · rw [eS, ci_ne _ _ _ d, ci_ne _ _ _ b, ci_ne _ _ _ a]
      · rw [eS]
        rfl
      · rw [eS]
        exact ⟨rfl, rfl, rfl, rfl⟩
      · rw [ri_ne (by omega), ri_ne (by omega), ri_ne (by omega)]
      · rw [eS, ci_ne _ _ _ (by decide), ci_ne _ _ _ (by decide), ci_at]
      · rw [ri_ne (by decide), ri_at]
      · rw [eS, ci_ne _ _ _ (by decide), ci_at, ri_ne (by decide), ri_ne (by decide), ri_at]
      · rw [eS, ci_at]
    exact lv_unit hN hct pt (by omega) v2 v3 (e3 S72) (wr _ _ _) (w80 _ _ _) ⟨ck, d22, u2⟩ u3 l (by omega) lv
  · have eS : S = CS.setI (CS.setI (CS.setI (cPo (cNx s)) 73 2) 74 (cTp s)) 75 (cAr s) := xi_61 (o1.trans y1) e1
    have lv := xa_rt (r := rNx r) (by rw [mc.clq]; exact h21.trans y2) (Or.inr rfl) v1
    rw [if_neg (by decide), tp] at lv
    have S72 : S.i 72 = -1 := by
      rw [eS, ci_ne _ _ _ (by decide), ci_ne _ _ _ (by decide), ci_ne _ _ _ (by decide)]
      exact t1.1.1.1
    have a17 : S.a 17 = s0.a 17 := (e3 S72).2.1.2.1 17 (by decide)
    have l : LVR nm S (RS.setI (RS.setI (RS.setI (rPo (rNx r)) 113 (cTp s)) 110 4) 112 ((rNx r).a 23 (r.i 92).toNatClampNeg)) mu AL h' c 0 u := by
      refine lvr_mk t1 dy (by omega) tr (fun j a b d => ?_) ?_ ?_ (fun j a => ?_) rfl (Or.inr (Or.inl ⟨?_, ?_, ?_, ?_⟩))
      · rw [eS, ci_ne _ _ _ d, ci_ne _ _ _ b, ci_ne _ _ _ a]
      · rw [eS]
        rfl
      · rw [eS]
        exact ⟨rfl, rfl, rfl, rfl⟩
      · rw [ri_ne (by omega), ri_ne (by omega), ri_ne (by omega)]
      · rw [eS, ci_ne _ _ _ (by decide), ci_ne _ _ _ (by decide), ci_at]
      · rw [ri_ne (by decide), ri_at]
      · rw [eS, ci_ne _ _ _ (by decide), ci_at, ri_ne (by decide), ri_ne (by decide), ri_at]
      · have q75 : S.i 75 = s0.a 16 p := by rw [eS, ci_at, o2]
        have q112 : (RS.setI (RS.setI (RS.setI (rPo (rNx r)) 113 (cTp s)) 110 4) 112 ((rNx r).a 23 (r.i 92).toNatClampNeg)).i 112 = r0.a 23 q := by
          rw [ri_at, mc.clq]
          exact h23
        rw [q75, q112]
        exact y3.of a17 (rf.2 21 (by decide)) (rf.2 31 (by decide)) (rf.2 23 (by decide))
    exact lv_unit hN hct pt (by omega) v2 v3 (e3 S72) (wr _ _ _) (w80 _ _ _) ⟨ck, d22, u2⟩ u3 l (by omega) lv
/-- LEAVE against GO -/
def UGo (s0 : CS) (r0 : RS) (AL : Als) (p q h w : Nat) (c : List Ent) : Prop := s0.a 15 p = 60 ∧ r0.a 21 q = 36 ∧ ∃ u : Nat, u + 2 ≤ w ∧ TYC s0 r0 AL u c ∧ GL1 s0 r0 AL c h (s0.a 16 p) (r0.a 22 q) (r0.a 23 q) u
theorem u_go {N H n : Nat} (hN : 10000000000 ≤ N) {D : Nat → List Nat} {T : Int32 × CS} {s0 : CS} {r0 : RS} {nm : Nat → Nat → Prop} {AL : Als} {s : CS} {r : RS} {mu : Nat → Nat} {h p q w g : Nat} {c : List Ent} {x : Int32} {U : Int32 × RS} (hct : HCT nm AL) (pt : PTX N H D T s0 r0 nm AL s r mu h p q w g c x) (hq : (q : Int) < (r0.i 20).toInt) (u : UGo s0 r0 AL p q h w c) (e : f_X12_run_122 N n r = some U) : NXTW N H D T s0 r0 nm AL n U := by
  obtain ⟨y1, y2, u, u1, u3, y3⟩ := u
  obtain ⟨m, S, V, hn, ⟨e1, e2, e3, e4⟩, ⟨v1, v2, v3⟩, ⟨o1, o2⟩, oc, ⟨hp, hq3⟩, x1⟩ := pt_tick hN hct pt hq (by omega) e
  have rf := pt.2.1
  have h21 : r.a 21 q = r0.a 21 q := by rw [rf.2 21 (by decide)]
  have h22 : r.a 22 q = r0.a 22 q := by rw [rf.2 22 (by decide)]
  have h23 : r.a 23 q = r0.a 23 q := by rw [rf.2 23 (by decide)]
  have mc := pt.2.2.1.1
  obtain ⟨-, ck, -, d22, hh⟩ := hct _ _ _ _ _ _ pt.2.2.2.2.1
  obtain ⟨t1, t2, t3⟩ := un_nx mc (by omega) (by omega)
  have dy := pt.2.2.1.2.1.ex ck t2 t3
  have tr := pt.2.2.1.2.2.ex t2 t3
  have gn := gcr_nn (g := g)
  have gn' := gpo_nn (g := g)
  have eS : S = CS.setI (CS.setI (CS.setI (cNx s) 73 1) 74 0) 75 (cAr s) := xi_60 (o1.trans y1) e1
  have lv := xa_36 (r := rNx r) (by rw [mc.clq]; exact h21.trans y2) v1
  rw [mc.clq] at lv
  have S72 : S.i 72 = -1 := by
    rw [eS, ci_ne _ _ _ (by decide), ci_ne _ _ _ (by decide), ci_ne _ _ _ (by decide)]
    exact t1.1.1.1
  have a17 : S.a 17 = s0.a 17 := (e3 S72).2.1.2.1 17 (by decide)
  have l : LVR nm S (RS.setI (RS.setI (RS.setI (rNx r) 110 1) 111 ((rNx r).a 22 q)) 112 ((rNx r).a 23 q)) mu AL h c 0 u := by
    refine lvr_mk t1 dy (by omega) tr (fun j a b d => ?_) ?_ ?_ (fun j a => ?_) rfl (Or.inl ⟨?_, ?_, ?_⟩)
    · rw [eS, ci_ne _ _ _ d, ci_ne _ _ _ b, ci_ne _ _ _ a]
    · rw [eS]
      rfl
    · rw [eS]
      exact ⟨rfl, rfl, rfl, rfl⟩
    · rw [ri_ne (by omega), ri_ne (by omega), ri_ne (by omega)]
    · rw [eS, ci_ne _ _ _ (by decide), ci_ne _ _ _ (by decide), ci_at]
    · rw [ri_ne (by decide), ri_ne (by decide), ri_at]
    · have q75 : S.i 75 = s0.a 16 p := by rw [eS, ci_at, o2]
      have q111 : (RS.setI (RS.setI (RS.setI (rNx r) 110 1) 111 ((rNx r).a 22 q)) 112 ((rNx r).a 23 q)).i 111 = r0.a 22 q := by
        rw [ri_ne (by decide), ri_at]
        exact h22
      have q112 : (RS.setI (RS.setI (RS.setI (rNx r) 110 1) 111 ((rNx r).a 22 q)) 112 ((rNx r).a 23 q)).i 112 = r0.a 23 q := by
        rw [ri_at]
        exact h23
      rw [q75, q111, q112]
      exact y3.of a17 (rf.2 21 (by decide)) (rf.2 31 (by decide))
  have wr : RFX r0 (RS.setI (RS.setI (RS.setI (rNx r) 110 1) 111 ((rNx r).a 22 q)) 112 ((rNx r).a 23 q)) := rf.tr (t3.rfx.tr ⟨fun j hj => by rw [ri_ne (by omega), ri_ne (by omega), ri_ne (by omega)], fun _ _ => rfl⟩)
  have w80 : (RS.setI (RS.setI (RS.setI (rNx r) 110 1) 111 ((rNx r).a 22 q)) 112 ((rNx r).a 23 q)).i 80 = r.i 80 := by rw [ri_ne (by decide), ri_ne (by decide), ri_ne (by decide), rNx_i (by decide)]
  exact lv_unit hN hct pt (by omega) v2 v3 (e3 S72) wr w80 ⟨ck, d22, hh⟩ u3 l (by omega) lv
end
