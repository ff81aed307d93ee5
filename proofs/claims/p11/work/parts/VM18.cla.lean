/-! both machines: all that a body opened is closed -/
noncomputable def cFb (s : CS) (f : Nat) : CS := CS.setO (CS.setI s 68 (s.o f 3)) f 0 2
noncomputable def cFt (s : CS) (f b : Nat) : CS := CS.setOt (cFb s f) f (some b)
noncomputable def cBg (s : CS) (f : Nat) (t : Int32) : CS := CS.setI (CS.setI (CS.setI s 65 (s.o f 2)) 66 (gAt (s.a 17) 1024 t)) 73 0
theorem cl_all {N H : Nat} (hN : 1000 ≤ N) {nm : Nat → Nat → Prop} {AL : Als} {h u f : Nat} {c : List Ent} {y : Int32} (ck : CTK nm c) (d22 : frs c ≤ 22) : ∀ (n' n : Nat) (s : CS) (r : RS) (mu : Nat → Nat) (n0 : Int) (x2 : Int32) (R : Unit × CS) (V : RS), CLI nm H s r mu AL h c n0 u → x2.toInt = (r.i 95).toInt - 1 → oK s f 1 → s.o f 3 = r.a 103 y.toNatClampNeg → 0 ≤ (s.o f 3).toInt → (s.o f 3).toInt ≤ (r.i 95).toInt → f_X3_leaveBody_7 N n s f x2 = some R → f_X12_closeAll_0 N n' r y = some V → ∃ (S : CS) (nu : Nat → Nat) (n1 : Int), CLI nm H S V nu AL h c n1 u ∧ V.i 95 = s.o f 3 ∧ (¬ S.i 73 = 4 → R.2 = cFb S f) ∧ (∀ b : Nat, S.i 73 = 4 → S.w = some b → R.2 = cBg (cFt S f b) f ((cFt S f b).o f 1)) ∧ WKP s S r V ∧ S.r 61 = s.r 61 ∧ (oK S f 1 ∧ S.o f = s.o f) ∧ V.a 103 = r.a 103 ∧ V.i 80 = r.i 80 := by
  intro n'
  induction n' with
  | zero =>
    intro _ _ _ _ _ _ _ _ _ _ _ _ _ _ _ g
    cases g
  | succ n' ih =>
    intro n s r mu n0 x2 R V i hx ho h3 h4 h5 e g
    cases n with
    | zero => cases e
    | succ n =>
      have e' : b_X3_leaveBody_7 N (f_X3_leaveBody_7 N n) s f x2 = some R := e
      unfold b_X3_leaveBody_7 at e'
      obtain ⟨-, e2⟩ := hf_ite e'
      have em : ((-1 : Int32)).toInt = -1 := by decide
      by_cases cc : r.i 95 ≤ r.a 103 y.toNatClampNeg
      · have lc := le_int cc
        rw [← h3] at lc
        rw [if_pos (by rw [Int32.lt_iff_toInt_lt]; omega)] at e2
        have g' : b_X12_closeAll_0 N (f_X12_closeAll_0 N n') r y = some V := g
        unfold b_X12_closeAll_0 at g'
        obtain ⟨-, g2⟩ := hf_ite g'
        rw [if_pos cc] at g2
        rw [← Option.some.inj g2]
        refine ⟨s, mu, n0, i, ?_, fun z => ?_, fun b z hb => ?_, Or.inr ⟨rfl, rfl, rfl, rfl, rfl⟩, rfl, ⟨ho, rfl⟩, rfl, rfl⟩
        · exact Int32.toInt_inj.mp (by omega)
        · rw [if_neg z] at e2
          rw [← Option.some.inj e2]
          rfl
        · rw [if_pos z] at e2
          have hb' : CS.w (CS.setO (CS.setI s 68 (CS.o s f 3)) f 0 2) = some b := by
            rw [cw_setO, cw_setI]
            exact hb
          rw [hb'] at e2
          obtain ⟨Y, hY⟩ : ∃ Y, Y = CS.setOt (CS.setO (CS.setI s 68 (CS.o s f 3)) f 0 2) f (some b) := ⟨_, rfl⟩
          have e3 : ((f_X3_begin N Y f (Y.o f 1)).bind fun p10 => some ((), p10.2)) = some R := by
            rw [hY]
            exact e2
          have eY : cFt s f b = Y := hY.symm
          rw [eY]
          clear hY eY hb' e2
          obtain ⟨B, b1, b2⟩ := hf_bind e3
          unfold f_X3_begin at b1
          have b3 := Option.some.inj (hf_ite b1).2
          have b4 := Option.some.inj b2
          rw [← b4, ← b3]
          unfold cBg
          rw [ca_setI]
      · have lc := lt_int (Int32.not_le.mp cc)
        rw [← h3] at lc
        rw [if_neg (by rw [Int32.lt_iff_toInt_lt]; omega)] at e2
        obtain ⟨P, p1, p2⟩ := hf_bind e2
        obtain ⟨-, -, -, -, -, -, -, ⟨i12, i13⟩, i14⟩ := id i
        obtain ⟨k, hk⟩ : ∃ k : Nat, x2.toInt = (k : Int) := ⟨x2.toInt.toNat, by omega⟩
        have e1 : (1 : Int32).toInt = 1 := by decide
        have w95 : (r.i 95 - 1).toInt = (r.i 95).toInt - 1 := by
          rw [toInt_sub] <;> rw [e1] <;> omega
        have w95' : (r.i 95 - 1).toInt = (k : Int) := by omega
        have ex : gAt (s.a 63) 320 x2 = r.a 96 (r.i 95 - 1).toNatClampNeg := by
          unfold gAt
          rw [if_pos ⟨by omega, by omega⟩, cl_nat hk, cl_nat w95']
          exact i14 k (by omega)
        rw [ex] at p1
        obtain ⟨W, nu, n1, q1, q2, ⟨q3, q4, q80⟩, q5, q6, q7⟩ := cl_one hN ck d22 i (by omega) p1 cc g
        obtain ⟨o1, o2⟩ := q7 f ho
        have hx' : (x2 + -1).toInt = (W.i 95).toInt - 1 := by
          rw [q3, w95, toInt_add] <;> rw [em] <;> omega
        obtain ⟨S, nu2, n2, z1, z2, z3, z4, z5, z6, ⟨z7, z8⟩, z9, z80⟩ := ih n P.2 W nu n1 (x2 + -1) R V q1 hx' o1 (by rw [o2, q4]; exact h3) (by rw [o2]; exact h4) (by rw [o2, q3, w95]; omega) p2 q2
        exact ⟨S, nu2, n2, z1, by rw [z2, o2], z3, z4, q5.tr z5, z6.trans q6, ⟨z7, z8.trans o2⟩, z9.trans q4, z80.trans q80⟩
