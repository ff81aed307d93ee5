/-! both readers: one token on -/
theorem y_row {N : Nat} : ∀ (n1 n2 : Nat) (S : CS) (s : RS) (x1 : Int32) (m : Nat) (R : Unit × CS) (u : RS), TPR S s → POS S s → S.i 44 = s.i 11 → 0 ≤ (s.i 11).toInt → (s.i 12).toInt = (s.i 11).toInt + m → x1.toInt = (m : Int) → S.l = s.l → s.l = pk (s.a 1) (s.i 11).toNatClampNeg m → (∀ j : Nat, j < m → 48 ≤ (s.a 1 ((s.i 11).toNatClampNeg + j)).toInt ∧ (s.a 1 ((s.i 11).toNatClampNeg + j)).toInt ≤ 122) → WDS s → (1 ≤ m ∨ isLt (bt s (s.i 12))) → f_X9_takeRow_7 N n1 S x1 = some R → f_X12_readName_5 N n2 s = some u → TKR R.2 u
  | 0, _, _, _, _, _, _, _, _, _, _, _, _, _, _, _, _, _, _, e, _ => by cases e
  | n1 + 1, 0, _, _, _, _, _, _, _, _, _, _, _, _, _, _, _, _, _, _, g => by cases g
  | n1 + 1, n2 + 1, S, s, x1, m, R, u, hT, hP, h44, h0, hm, hx, hl, hk, hb, hw, hf, e, g => by
    have e' : b_X9_takeRow_7 N (f_X9_takeRow_7 N n1) S x1 = some R := e
    have g' : b_X12_readName_5 N (f_X12_readName_5 N n2) s = some u := g
    unfold b_X9_takeRow_7 at e'
    unfold b_X12_readName_5 at g'
    obtain ⟨p1, p2, p3⟩ := id hP
    obtain ⟨t1, t2, t3, t4⟩ := id hT
    have e900 : (900 : Int32).toInt = 900 := by decide
    have i12 : 0 ≤ s.i 12 := by rw [Int32.le_iff_toInt_le, z_t0]; exact p2
    have i2 : s.i 2 ≤ 900 := by rw [Int32.le_iff_toInt_le, e900]; exact t2.2
    rw [e_at i12 i2, ob_some] at g'
    by_cases d : isDg (bt s (s.i 12)) ∨ isLt (bt s (s.i 12))
    · have dC : isDg (BY S (S.i 42)) ∨ isLt (BY S (S.i 42)) := by rw [p1, by_dg hT p2, by_lt hT p2]; exact d
      have inr : (s.i 12).toInt < (s.i 2).toInt := by
        have := BY.dg dC
        rw [p1, t1] at this
        exact this.2.2
      have eb : BY S (S.i 42) = bt s (s.i 12) := by rw [p1]; exact by_lo hT p2 inr
      have c9 : ¬ (900 : Int32) ≤ x1 := fun q => by
        have := le_int q
        omega
      have e12 : (s.i 12 + 1).toInt = (s.i 12).toInt + 1 := ad1 p2 (by omega)
      have ex1 : (x1 + 1).toInt = ((m + 1 : Nat) : Int) := by rw [ad1 (by omega) (by omega)]; omega
      have e2 : f_X9_takeRow_7 N n1 (CS.setI (CS.setL S ((S.l <<< ((8 : Int32).toInt64 &&& 63)) ||| (BY S (S.i 42)).toInt64)) 42 (S.i 42 + 1)) (x1 + 1) = some R := by
        by_cases dd : isDg (BY S (S.i 42))
        · rw [if_neg c9, e_by, ob_some, e_dg1 dd, ob_some, if_neg n10, e_by, ob_some] at e'; exact e'
        · rw [if_neg c9, e_by, ob_some, e_dg0 dd, ob_some, if_pos rfl, e_by, ob_some, e_lt1 (dC.resolve_left dd), ob_some, if_neg n10, e_by, ob_some] at e'; exact e'
      have g2 : f_X12_readName_5 N n2 (RS.setI (RS.setL s ((s.l <<< ((8 : Int32).toInt64 &&& 63)) ||| (bt s (s.i 12)).toInt64)) 12 (s.i 12 + 1)) = some u := by
        by_cases dd : isLt (bt s (s.i 12))
        · rw [r_lt1 dd, ob_some, if_neg n10, e_at i12 i2, ob_some] at g'; exact g'
        · rw [r_lt0 dd, ob_some, if_pos rfl, e_at i12 i2, ob_some, r_dg1 (d.resolve_right dd), ob_some, if_neg n10, e_at i12 i2, ob_some] at g'; exact g'
      have ck := clampI h0
      have ck2 := clampI p2
      have bm : bt s (s.i 12) = s.a 1 ((s.i 11).toNatClampNeg + m) := by
        unfold bt
        rw [if_neg (fun q => by have := le_int q; omega)]
        rw [show (s.i 12).toNatClampNeg = (s.i 11).toNatClampNeg + m by omega]
      refine y_row n1 n2 _ (RS.setI (RS.setL s ((s.l <<< ((8 : Int32).toInt64 &&& 63)) ||| (bt s (s.i 12)).toInt64)) 12 (s.i 12 + 1)) (x1 + 1) (m + 1) R u (hT.of (((TKC.rf S).l _).i 42 _ (by omega)) ((TU.l s ((s.l <<< ((8 : Int32).toInt64 &&& 63)) ||| (bt s (s.i 12)).toInt64)).tr (TU.i12 _ _))) ⟨?_, ?_, ?_⟩ h44 h0 ?_ ex1 ?_ ?_ (fun j hj => ?_) hw (Or.inl (by omega)) e2 g2
      · show S.i 42 + 1 = s.i 12 + 1
        rw [p1]
      · show 0 ≤ (s.i 12 + 1).toInt
        omega
      · show (s.i 12 + 1).toInt ≤ (s.i 2).toInt
        omega
      · show (s.i 12 + 1).toInt = (s.i 11).toInt + ((m + 1 : Nat) : Int)
        omega
      · show ((S.l <<< ((8 : Int32).toInt64 &&& 63)) ||| (BY S (S.i 42)).toInt64) = ((s.l <<< ((8 : Int32).toInt64 &&& 63)) ||| (bt s (s.i 12)).toInt64)
        rw [hl, eb]
      · show ((s.l <<< ((8 : Int32).toInt64 &&& 63)) ||| (bt s (s.i 12)).toInt64) = (pk (s.a 1) (s.i 11).toNatClampNeg m <<< ((8 : Int32).toInt64 &&& 63)) ||| (s.a 1 ((s.i 11).toNatClampNeg + m)).toInt64
        rw [← hk, bm]
      · show 48 ≤ (s.a 1 ((s.i 11).toNatClampNeg + j)).toInt ∧ (s.a 1 ((s.i 11).toNatClampNeg + j)).toInt ≤ 122
        by_cases q : j = m
        · rw [q, ← bm]
          unfold isDg isLt at d
          omega
        · exact hb j (by omega)
    · have nd : ¬ isDg (bt s (s.i 12)) := fun q => d (Or.inl q)
      have nl : ¬ isLt (bt s (s.i 12)) := fun q => d (Or.inr q)
      have cd : ¬ isDg (BY S (S.i 42)) := by rw [p1, by_dg hT p2]; exact nd
      have cl : ¬ isLt (BY S (S.i 42)) := by rw [p1, by_lt hT p2]; exact nl
      have e2 : f_X9_takeRow_79 N S = some R := by
        by_cases c : (900 : Int32) ≤ x1
        · rw [if_pos c] at e'; exact e'
        · rw [if_neg c, e_by, ob_some, e_dg0 cd, ob_some, if_pos rfl, e_by, ob_some, e_lt0 cl, ob_some, if_pos rfl] at e'; exact e'
      have g2 : RNE N s = some u := by
        rw [r_lt0 nl, ob_some, if_pos rfl, e_at i12 i2, ob_some, r_dg0 nd, ob_some, if_pos rfl] at g'
        exact g'
      exact y_end hT hP h44 h0 hm (hf.resolve_right nl) hl hk hb hw e2 g2
/-- the token at the place where both stand -/
theorem y_tok {N : Nat} {S : CS} {s : RS} {R : Unit × CS} {u : RS} (hT : TPR S s) (hP : POS S s) (hw : WDS s) (e : f_X9_advance_51 N S = some R) (g : f_X12_next_68 N s = some u) : TKR R.2 u := by
  unfold f_X9_advance_51 at e
  unfold f_X12_next_68 at g
  obtain ⟨p1, p2, p3⟩ := id hP
  obtain ⟨t1, t2, t3, t4⟩ := id hT
  have e900 : (900 : Int32).toInt = 900 := by decide
  have i12 : 0 ≤ s.i 12 := by rw [Int32.le_iff_toInt_le, z_t0]; exact p2
  have i2 : s.i 2 ≤ 900 := by rw [Int32.le_iff_toInt_le, e900]; exact t2.2
  rw [e_at (σ := RS.setI s 11 (s.i 12)) i12 i2, ob_some] at g
  have eb0 : bt (RS.setI s 11 (s.i 12)) (s.i 12) = bt s (s.i 12) := rfl
  rw [eb0] at g
  rcases Int.lt_or_eq_of_le p3 with lt | eq
  · have c1 : S.i 42 < S.i 41 := by rw [p1, t1, Int32.lt_iff_toInt_lt]; exact lt
    have c2 : ¬ (RS.setI s 11 (s.i 12)).i 11 = (RS.setI s 11 (s.i 12)).i 2 := fun q => by
      have q' : s.i 12 = s.i 2 := q
      rw [q'] at lt
      omega
    rw [if_pos c1] at e
    have g1 : ((f_X12_isDigit N (RS.setI s 11 (s.i 12)) (bt s (s.i 12))).bind fun p6 => (if p6.1 = 0 then (f_X12_isLetter N p6.2 (bt s (s.i 12))).bind fun p9 => (if p9.1 = 0 then (f_X12_readSign N p9.2 (bt s (s.i 12))).bind fun p12 => some p12 else (f_X12_readName N p9.2).bind fun p14 => some p14) else f_X12_next_116 N N (RS.setI p6.2 14 0))) = some u := (if_neg c2).symm.trans g
    obtain ⟨S1, hS1⟩ : ∃ X, X = CS.setI S 44 (S.i 42) := ⟨_, rfl⟩
    obtain ⟨s1, hs1⟩ : ∃ x, x = RS.setI s 11 (s.i 12) := ⟨_, rfl⟩
    have k1 : TKC S S1 := by rw [hS1]; exact (TKC.rf S).i 44 _ (by omega)
    have k2 : TU s s1 := by rw [hs1]; exact TU.i11 s _
    have hT1 : TPR S1 s1 := hT.of k1 k2
    have a42 : S1.i 42 = S.i 42 := by rw [hS1]; exact ci_ne _ _ _ (by decide)
    have a44 : S1.i 44 = S.i 42 := by rw [hS1]; exact ci_at _ _ _
    have b12 : s1.i 12 = s.i 12 := by rw [hs1]; rfl
    have b11 : s1.i 11 = s.i 12 := by rw [hs1]; rfl
    have b2 : s1.i 2 = s.i 2 := by rw [hs1]; rfl
    have bb : bt s1 (s.i 12) = bt s (s.i 12) := by rw [hs1]; rfl
    have hw1 : WDS s1 := by rw [hs1]; exact hw
    have hP1 : POS S1 s1 := ⟨by rw [a42, b12]; exact p1, by rw [b12]; exact p2, by rw [b12, b2]; exact p3⟩
    have h441 : S1.i 44 = s1.i 11 := by rw [a44, b11]; exact p1
    have h01 : 0 ≤ (s1.i 11).toInt := by rw [b11]; exact p2
    have eb : BY S1 (S.i 42) = bt s (s.i 12) := by
      rw [p1, ← bb]
      exact by_lo hT1 p2 (by rw [b2]; exact lt)
    rw [← hS1] at e
    rw [← hs1] at g1
    clear hS1 hs1
    rw [e_by, ob_some, eb] at e
    by_cases dd : isDg (bt s (s.i 12))
    · rw [e_dg1 dd, ob_some, if_neg n10] at e
      rw [r_dg1 dd, ob_some, if_neg n10] at g1
      obtain ⟨p, ep, e⟩ := hf_bind e
      cases e
      exact y_num N N (CS.setI S1 45 0) (RS.setI s1 14 0) 0 0 p u (hT1.of ((TKC.rf S1).i 45 _ (by omega)) (TU.i14 s1 _)) hP1 h441 h01 (by show (s1.i 12).toInt = (s1.i 11).toInt + ((0 : Nat) : Int); rw [b12, b11]; omega) (by decide) (fun _ => rfl) ep g1
    · rw [e_dg0 dd, ob_some, if_pos rfl, a42, e_by, ob_some, eb] at e
      rw [r_dg0 dd, ob_some, if_pos rfl] at g1
      by_cases ll : isLt (bt s (s.i 12))
      · rw [e_lt1 ll, ob_some, if_neg n10] at e
        rw [r_lt1 ll, ob_some, if_neg n10] at g1
        obtain ⟨p, ep, e⟩ := hf_bind e
        cases e
        obtain ⟨q, gq, g1⟩ := hf_bind g1
        cases g1
        exact y_row N N (CS.setL S1 0) (RS.setL s1 0) 0 0 p u (hT1.of ((TKC.rf S1).l _) (TU.l s1 _)) hP1 h441 h01 (by show (s1.i 12).toInt = (s1.i 11).toInt + ((0 : Nat) : Int); rw [b12, b11]; omega) (by decide) rfl rfl (fun j hj => absurd hj (by omega)) hw1 (Or.inr (by show isLt (bt s1 (s1.i 12)); rw [b12, bb]; exact ll)) ep gq
      · rw [e_lt0 ll, ob_some, if_pos rfl] at e
        rw [r_lt0 ll, ob_some, if_pos rfl] at g1
        obtain ⟨p, ep, e⟩ := hf_bind e
        cases e
        obtain ⟨q, gq, g1⟩ := hf_bind g1
        cases g1
        exact y_sign hT1 hP1 (by rw [b12, b2]; exact lt) h441 (by rw [b12, bb]) ep gq
  · have c1 : ¬ S.i 42 < S.i 41 := fun q => by
      have := lt_int q
      rw [p1, t1] at this
      omega
    have c2 : s.i 12 = s.i 2 := Int32.toInt_inj.mp eq
    rw [if_neg c1] at e
    have g1 : some (RS.setI (RS.setI s 11 (s.i 12)) 10 0) = some u := (if_pos (show (RS.setI s 11 (s.i 12)).i 11 = (RS.setI s 11 (s.i 12)).i 2 from c2)).symm.trans g
    cases e
    cases g1
    exact ⟨p1, p1, tm_0.symm, ty_0, fun q => absurd (show (0 : Int32) = 2 from q) (by decide), fun q => absurd (show (0 : Int32) = 1 ∨ (0 : Int32) = 3 ∨ (0 : Int32) = 4 ∨ (0 : Int32) = 5 from q) (by decide)⟩
/-- blanks, then the token -/
theorem y_blank {N : Nat} : ∀ (n1 n2 : Nat) (S : CS) (s : RS) (x1 : Int32) (R : Unit × CS) (u : RS), TPR S s → POS S s → WDS s → x1.toInt ≤ (s.i 12).toInt → f_X9_advance_2 N n1 S x1 = some R → f_X12_next_18 N n2 s = some u → TKR R.2 u
  | 0, _, _, _, _, _, _, _, _, _, _, e, _ => by cases e
  | n1 + 1, 0, _, _, _, _, _, _, _, _, _, _, g => by cases g
  | n1 + 1, n2 + 1, S, s, x1, R, u, hT, hP, hw, hx, e, g => by
    have e' : b_X9_advance_2 N (f_X9_advance_2 N n1) S x1 = some R := e
    have g' : b_X12_next_18 N (f_X12_next_18 N n2) s = some u := g
    unfold b_X9_advance_2 at e'
    unfold b_X12_next_18 at g'
    obtain ⟨p1, p2, p3⟩ := id hP
    obtain ⟨t1, t2, t3, t4⟩ := id hT
    have e900 : (900 : Int32).toInt = 900 := by decide
    have i12 : 0 ≤ s.i 12 := by rw [Int32.le_iff_toInt_le, z_t0]; exact p2
    have i2 : s.i 2 ≤ 900 := by rw [Int32.le_iff_toInt_le, e900]; exact t2.2
    have k32 := by_eq hT (v := 32) p2 (by decide)
    have k10 := by_eq hT (v := 10) p2 (by decide)
    have tok : ¬ BY S (S.i 42) = 32 → ¬ BY S (S.i 42) = 10 → f_X9_advance_51 N S = some R := fun q1 q2 => by
      by_cases c : (900 : Int32) ≤ x1
      · rw [if_pos c] at e'; exact e'
      · rw [if_neg c, e_by, ob_some, if_neg q1, e_by, ob_some, if_neg q2] at e'; exact e'
    by_cases c : s.i 2 ≤ s.i 12
    · rw [if_pos c] at g'
      have c' := le_int c
      obtain ⟨z1, z2⟩ := by_hi hT (x := s.i 12) c'
      rw [← p1] at z1
      exact y_tok hT hP hw (tok (by rw [z1]; decide) (by rw [z1]; decide)) g'
    · have lt := lt_int (Int32.not_le.mp c)
      rw [if_neg c, e_at i12 i2, ob_some] at g'
      have c9 : ¬ (900 : Int32) ≤ x1 := fun q => by
        have := le_int q
        omega
      have e12 : (s.i 12 + 1).toInt = (s.i 12).toInt + 1 := ad1 p2 (by omega)
      have hx1 : (x1 + 1).toInt ≤ (s.i 12 + 1).toInt := by
        have hi := Int32.toInt_lt x1
        have lo := Int32.le_toInt x1
        have e1 : (1 : Int32).toInt = 1 := by decide
        have : (x1 + 1).toInt = x1.toInt + 1 := by rw [toInt_add] <;> rw [e1] <;> omega
        omega
      have rcu : f_X9_advance_2 N n1 (CS.setI S 42 (S.i 42 + 1)) (x1 + 1) = some R → f_X12_next_18 N n2 (RS.setI s 12 (s.i 12 + 1)) = some u → TKR R.2 u := fun q1 q2 => by
        refine y_blank n1 n2 _ _ (x1 + 1) R u (hT.of ((TKC.rf S).i 42 _ (by omega)) (TU.i12 s _)) ⟨?_, ?_, ?_⟩ hw hx1 q1 q2
        · show S.i 42 + 1 = s.i 12 + 1
          rw [p1]
        · show 0 ≤ (s.i 12 + 1).toInt
          omega
        · show (s.i 12 + 1).toInt ≤ (s.i 2).toInt
          omega
      by_cases q1 : bt s (s.i 12) = 32
      · have q1' : BY S (S.i 42) = 32 := by rw [p1]; exact k32.mpr q1
        rw [if_pos q1] at g'
        rw [if_neg c9, e_by, ob_some, if_pos q1'] at e'
        exact rcu e' g'
      · have q1' : ¬ BY S (S.i 42) = 32 := by rw [p1]; exact fun q => q1 (k32.mp q)
        rw [if_neg q1, e_at i12 i2, ob_some] at g'
        by_cases q2 : bt s (s.i 12) = 10
        · have q2' : BY S (S.i 42) = 10 := by rw [p1]; exact k10.mpr q2
          rw [if_pos q2] at g'
          rw [if_neg c9, e_by, ob_some, if_neg q1', e_by, ob_some, if_pos q2'] at e'
          exact rcu e' g'
        · have q2' : ¬ BY S (S.i 42) = 10 := by rw [p1]; exact fun q => q2 (k10.mp q)
          rw [if_neg q2] at g'
          exact y_tok hT hP hw (tok q1' q2') g'
/-- one token on: the same in both -/
theorem y_next {N : Nat} {S : CS} {s : RS} {R : Unit × CS} {u : RS} (hT : TPR S s) (hP : POS S s) (hw : WDS s) (h15 : s.i 15 = 0) (e : f_X9_advance N S = some R) (g : f_X12_next N s = some u) : TKR R.2 u := by
  have e' : f_X9_advance_2 N N S 0 = some R := e
  unfold f_X12_next at g
  rw [if_pos h15] at g
  refine y_blank N N S (RS.setI s 17 (s.i 17 + 1)) 0 R u ?_ hP hw ?_ e' g
  · exact hT
  · show (0 : Int32).toInt ≤ (s.i 12).toInt
    rw [z_t0]
    exact hP.2.1
