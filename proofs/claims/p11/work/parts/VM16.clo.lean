/-! both machines: what is open is closed -/
/-- the ways, an end that is none among them -/
def WYC (s : CS) (r : RS) (mu : Nat → Nat) (AL : Als) (c : List Ent) (h u : Nat) : Prop := (s.i 73 = 1 ∧ r.i 110 = 0) ∨ WYS s r mu AL c h u (s.i 73) (s.i 74) (s.i 75) s.w (r.i 110) (r.i 111) (r.i 112) (r.i 113) (r.i 114)
theorem WYC.h4 {s : CS} {r : RS} {mu : Nat → Nat} {AL : Als} {c : List Ent} {h u : Nat} (w : WYC s r mu AL c h u) : s.i 73 = 4 ↔ r.i 110 = 3 := by
  rcases w with ⟨a, b⟩ | ⟨a, b, -⟩ | ⟨a, b, -⟩ | ⟨a, b, -⟩ | ⟨a, b, -⟩ <;> rw [a, b] <;> decide
theorem WYC.th {s : CS} {r : RS} {mu : Nat → Nat} {AL : Als} {c : List Ent} {h u : Nat} (w : WYC s r mu AL c h u) (e : s.i 73 = 4) : ∃ b : Nat, s.w = some b ∧ (r.i 114).toInt = (mu b : Int) ∧ TLV s r mu b ∧ s.i 75 = 0 := by
  rcases w with ⟨a, b⟩ | ⟨a, b, -⟩ | ⟨a, b, -⟩ | ⟨a, b, -⟩ | ⟨a, b, d, f, g⟩
  · rw [a] at e; exact absurd e (by decide)
  · rw [a] at e; exact absurd e (by decide)
  · rw [a] at e; exact absurd e (by decide)
  · rw [a] at e; exact absurd e (by decide)
  · exact ⟨f, g.1, g.2.1, g.2.2, d⟩
theorem WYC.ex {nm : Nat → Nat → Prop} {s S : CS} {r R : RS} {mu : Nat → Nat} {AL : Als} {c : List Ent} {h u : Nat} (e : EXC nm s S) (g : EXV nm r R) (w : WYC s r mu AL c h u) : WYC S R mu AL c h u := by
  have i73 := e.1 73 (by decide) (by decide) (by decide) (by decide)
  have i74 := e.1 74 (by decide) (by decide) (by decide) (by decide)
  have i75 := e.1 75 (by decide) (by decide) (by decide) (by decide)
  have j110 := g.1 110 (by decide) (by decide) (by decide) (by decide)
  have j111 := g.1 111 (by decide) (by decide) (by decide) (by decide)
  have j112 := g.1 112 (by decide) (by decide) (by decide) (by decide)
  have j113 := g.1 113 (by decide) (by decide) (by decide) (by decide)
  have j114 := g.1 114 (by decide) (by decide) (by decide) (by decide)
  unfold WYC
  rw [i73, i74, i75, e.2.2.1.2.1, j110, j111, j112, j113, j114]
  rcases w with w | w
  · exact Or.inl w
  · exact Or.inr (w.ex e g)
/-- a throw's way -/
theorem WYC.mk4 {s : CS} {r : RS} {mu : Nat → Nat} {AL : Als} {c : List Ent} {h u b : Nat} (e73 : s.i 73 = 4) (e75 : s.i 75 = 0) (e110 : r.i 110 = 3) (ew : s.w = some b) (e114 : (r.i 114).toInt = (mu b : Int)) (t : TLV s r mu b) : WYC s r mu AL c h u := Or.inr (Or.inr (Or.inr (Or.inr ⟨e73, e110, e75, b, ew, e114, t⟩)))
/-- the values; while one is thrown the heights may differ -/
def MVH (s : CS) (r : RS) (h : Nat) : Prop := ((∀ k : Nat, k < h → s.a 60 k = r.a 94 k) ∧ h ≤ 600) ∧ (¬ s.i 73 = 4 → (s.i 65).toInt = (h : Int) ∧ (r.i 93).toInt = (h : Int))
theorem MVS.mvh {s : CS} {r : RS} {h : Nat} (m : MVS s r h) : MVH s r h := ⟨⟨m.2, m.1.2.2⟩, fun _ => ⟨m.1.1, m.1.2.1⟩⟩
theorem MVH.mvs {s : CS} {r : RS} {h : Nat} (m : MVH s r h) (e : ¬ s.i 73 = 4) : MVS s r h := ⟨⟨(m.2 e).1, (m.2 e).2, m.1.2⟩, m.1.1⟩
theorem MVH.of {s S : CS} {r R : RS} {h : Nat} (m : MVH s r h) (e65 : S.i 65 = s.i 65) (e60 : S.a 60 = s.a 60) (e93 : R.i 93 = r.i 93) (e94 : R.a 94 = r.a 94) (e73 : ¬ S.i 73 = 4 → ¬ s.i 73 = 4) : MVH S R h := by
  obtain ⟨m1, m2⟩ := m
  unfold MVH
  rw [e65, e60, e93, e94]
  exact ⟨m1, fun z => m2 (e73 z)⟩
/-- what stands while both close -/
def CLI (nm : Nat → Nat → Prop) (H : Nat) (s : CS) (r : RS) (mu : Nat → Nat) (AL : Als) (h : Nat) (c : List Ent) (n : Int) (u : Nat) : Prop := (REFS s ∧ ROOM H s) ∧ s.i 72 = -1 ∧ (MVH s r h ∧ MTR s r ∧ ∀ k l : Nat, nm k l → s.a 59 k = r.a 84 l) ∧ DY0 s r mu AL c n ∧ (n ≤ 1 ∧ (¬ s.i 73 = 4 → n = 0)) ∧ WYC s r mu AL c h u ∧ TLR s r ∧ (0 ≤ (r.i 95).toInt ∧ (r.i 95).toInt ≤ 320) ∧ ∀ k : Nat, (k : Int) < (r.i 95).toInt → s.a 63 k = r.a 96 k
/-- a way that stays, or a throw -/
def WKP (s S : CS) (r R : RS) : Prop := S.i 73 = 4 ∨ (S.i 73 = s.i 73 ∧ S.i 74 = s.i 74 ∧ S.i 75 = s.i 75 ∧ R.i 110 = r.i 110 ∧ R.i 112 = r.i 112)
theorem WKP.tr {s S T : CS} {r R V : RS} (h : WKP s S r R) (g : WKP S T R V) : WKP s T r V := by
  rcases g with g | ⟨g1, g2, g3, g4, g5⟩
  · exact Or.inl g
  · rcases h with h | ⟨h1, h2, h3, h4, h5⟩
    · exact Or.inl (g1.trans h)
    · exact Or.inr ⟨g1.trans h1, g2.trans h2, g3.trans h3, g4.trans h4, g5.trans h5⟩
/-- one close of the reference -/
theorem clr_step {N n : Nat} {r V : RS} {y : Int32} (hc : ¬ r.i 95 ≤ r.a 103 y.toNatClampNeg) (g : f_X12_closeAll_0 N (n + 1) r y = some V) : ∃ p4 : RS, f_X12_row N (RS.setI r 95 (r.i 95 - 1)) 2 (r.a 96 (r.i 95 - 1).toNatClampNeg) = some p4 ∧ ib (r.a 96 (r.i 95 - 1).toNatClampNeg) 8 ∧ ((r.a 7 (r.a 96 (r.i 95 - 1).toNatClampNeg).toNatClampNeg - 1 < 0 ∧ f_X12_closeAll_0 N n p4 y = some V) ∨ (¬ r.a 7 (r.a 96 (r.i 95 - 1).toNatClampNeg).toNatClampNeg - 1 < 0 ∧ p4.i 110 = 3 ∧ f_X12_closeAll_0 N n (rSup p4 (r.a 7 (r.a 96 (r.i 95 - 1).toNatClampNeg).toNatClampNeg - 1) (r.a 96 (r.i 95 - 1).toNatClampNeg)) y = some V) ∨ (¬ r.a 7 (r.a 96 (r.i 95 - 1).toNatClampNeg).toNatClampNeg - 1 < 0 ∧ ¬ p4.i 110 = 3 ∧ ∃ W : RS, f_X12_raise N p4 (r.a 7 (r.a 96 (r.i 95 - 1).toNatClampNeg).toNatClampNeg - 1) (r.a 96 (r.i 95 - 1).toNatClampNeg) = some W ∧ f_X12_closeAll_0 N n W y = some V)) := by
  have g' : b_X12_closeAll_0 N (f_X12_closeAll_0 N n) r y = some V := g
  unfold b_X12_closeAll_0 at g'
  obtain ⟨-, g1⟩ := hf_ite g'
  rw [if_neg hc] at g1
  obtain ⟨-, g2⟩ := hf_ite g1
  obtain ⟨p4, q4, g3⟩ := hf_bind g2
  obtain ⟨q5, g4⟩ := hf_ite g3
  have e7 : p4.a 7 = r.a 7 := (kx_f_X12_row N _ _ _ p4 q4).2 7 (by decide)
  rw [e7] at g4
  refine ⟨p4, q4, q5, ?_⟩
  by_cases c1 : r.a 7 (r.a 96 (r.i 95 - 1).toNatClampNeg).toNatClampNeg - 1 < 0
  · rw [if_pos c1] at g4
    exact Or.inl ⟨c1, g4⟩
  · rw [if_neg c1] at g4
    by_cases c2 : p4.i 110 = 3
    · rw [if_pos c2] at g4
      obtain ⟨-, g5⟩ := hf_ite g4
      refine Or.inr (Or.inl ⟨c1, c2, ?_⟩)
      unfold rSup
      by_cases c3 : 8 ≤ p4.a 88 (p4.i 114).toNatClampNeg
      · rw [if_pos c3] at g5 ⊢
        exact g5
      · rw [if_neg c3] at g5 ⊢
        exact (hf_ite g5).2
    · rw [if_neg c2] at g4
      obtain ⟨W, w1, w2⟩ := hf_bind g4
      exact Or.inr (Or.inr ⟨c1, c2, W, w1, w2⟩)
/-- one close of the class -/
theorem clc_step {N : Nat} {s : CS} {x : Int32} {R : Unit × CS} (e : f_X3_closeOne N s x = some R) : ∃ P : Unit × CS, f_X3_note N s 2 x = some P ∧ ((¬ 0 ≤ gAt (s.a 12) 8 x ∧ R.2 = P.2) ∨ (0 ≤ gAt (s.a 12) 8 x ∧ P.2.i 73 = 4 ∧ (∀ b : Nat, P.2.w = some b → ∃ Q : Unit × CS, f_X8_suppress N P.2 b (gAt (s.a 12) 8 x) x = some Q ∧ R.2 = Q.2)) ∨ (0 ≤ gAt (s.a 12) 8 x ∧ ¬ P.2.i 73 = 4 ∧ ∃ Q : Unit × CS, f_X3_raise N P.2 (gAt (s.a 12) 8 x) x = some Q ∧ R.2 = Q.2)) := by
  unfold f_X3_closeOne f_X3_closeOne_50 at e
  obtain ⟨P, p1, e1⟩ := hf_bind e
  refine ⟨P, p1, ?_⟩
  by_cases c1 : 0 ≤ gAt (s.a 12) 8 x
  · rw [if_pos c1] at e1
    by_cases c2 : P.2.i 73 = 4
    · rw [if_pos c2] at e1
      refine Or.inr (Or.inl ⟨c1, c2, fun b hb => ?_⟩)
      rw [hb] at e1
      have e2 : (if oK P.2 b 2 then (f_X8_suppress N P.2 b (gAt (s.a 12) 8 x) x).bind fun p18 => some ((), p18.2) else none) = some R := e1
      obtain ⟨Q, q1, q2⟩ := hf_bind (hf_ite e2).2
      exact ⟨Q, q1, by rw [← Option.some.inj q2]⟩
    · rw [if_neg c2] at e1
      obtain ⟨Q, q1, q2⟩ := hf_bind e1
      exact Or.inr (Or.inr ⟨c1, c2, Q, q1, by rw [← Option.some.inj q2]⟩)
  · rw [if_neg c1] at e1
    exact Or.inl ⟨c1, by rw [← Option.some.inj e1]⟩
