/-! the class: how long the words of a jump are -/
theorem sh8_b8 (l : Int64) (b : Int32) (hl : 0 ≤ l.toInt ∧ l.toInt < 256) (hb : 48 ≤ b.toInt ∧ b.toInt ≤ 122) : 0 ≤ ((l <<< ((8 : Int32).toInt64 &&& 63)) ||| b.toInt64).toInt ∧ ((l <<< ((8 : Int32).toInt64 &&& 63)) ||| b.toInt64).toInt < 65536 := by
  have e8 : ((8 : Int32).toInt64 &&& 63) = 8 := by decide
  rw [e8]
  have nn : ∀ x : Int64, 0 ≤ x.toInt → (x.toBitVec.toNat : Int) = x.toInt := fun x hx => by
    have h1 : x.toInt = x.toBitVec.toInt := rfl
    have h2 := BitVec.toInt_eq_toNat_cond x.toBitVec
    have h3 := x.toBitVec.isLt
    rw [h1] at hx ⊢
    rw [h2] at hx ⊢
    by_cases c : 2 * x.toBitVec.toNat < 2 ^ 64
    · rw [if_pos c]
    · rw [if_neg c] at hx; omega
  have bn : ∀ x : Int64, x.toBitVec.toNat < 2 ^ 16 → 0 ≤ x.toInt ∧ x.toInt < 65536 := fun x hx => by
    have h1 : x.toInt = x.toBitVec.toInt := rfl
    have h2 := BitVec.toInt_eq_toNat_cond x.toBitVec
    rw [h1, h2, if_pos (by omega)]
    omega
  have l1 := nn l hl.1
  have eb : b.toInt64.toInt = b.toInt := Int32.toInt_toInt64 _
  have b1 := nn b.toInt64 (by omega)
  refine bn _ ?_
  rw [Int64.toBitVec_or, BitVec.toNat_or]
  refine Nat.or_lt_two_pow ?_ (by omega)
  rw [Int64.toBitVec_shiftLeft]
  have e : ((8 : Int64).toBitVec.smod 64) = 8#64 := by decide
  rw [e]
  show (l.toBitVec <<< 8#64).toNat < 2 ^ 16
  rw [BitVec.shiftLeft_eq', BitVec.toNat_shiftLeft]
  have e2 : (8#64).toNat = 8 := by decide
  rw [e2, Nat.shiftLeft_eq]
  have := Nat.mod_le (l.toBitVec.toNat * 2 ^ 8) (2 ^ 64)
  omega
theorem sh8_b16 (l : Int64) (b : Int32) (hl : 0 ≤ l.toInt ∧ l.toInt < 65536) (hb : 48 ≤ b.toInt ∧ b.toInt ≤ 122) : 0 ≤ ((l <<< ((8 : Int32).toInt64 &&& 63)) ||| b.toInt64).toInt ∧ ((l <<< ((8 : Int32).toInt64 &&& 63)) ||| b.toInt64).toInt < 16777216 := by
  have e8 : ((8 : Int32).toInt64 &&& 63) = 8 := by decide
  rw [e8]
  have nn : ∀ x : Int64, 0 ≤ x.toInt → (x.toBitVec.toNat : Int) = x.toInt := fun x hx => by
    have h1 : x.toInt = x.toBitVec.toInt := rfl
    have h2 := BitVec.toInt_eq_toNat_cond x.toBitVec
    have h3 := x.toBitVec.isLt
    rw [h1] at hx ⊢
    rw [h2] at hx ⊢
    by_cases c : 2 * x.toBitVec.toNat < 2 ^ 64
    · rw [if_pos c]
    · rw [if_neg c] at hx; omega
  have bn : ∀ x : Int64, x.toBitVec.toNat < 2 ^ 24 → 0 ≤ x.toInt ∧ x.toInt < 16777216 := fun x hx => by
    have h1 : x.toInt = x.toBitVec.toInt := rfl
    have h2 := BitVec.toInt_eq_toNat_cond x.toBitVec
    rw [h1, h2, if_pos (by omega)]
    omega
  have l1 := nn l hl.1
  have eb : b.toInt64.toInt = b.toInt := Int32.toInt_toInt64 _
  have b1 := nn b.toInt64 (by omega)
  refine bn _ ?_
  rw [Int64.toBitVec_or, BitVec.toNat_or]
  refine Nat.or_lt_two_pow ?_ (by omega)
  rw [Int64.toBitVec_shiftLeft]
  have e : ((8 : Int64).toBitVec.smod 64) = 8#64 := by decide
  rw [e]
  show (l.toBitVec <<< 8#64).toNat < 2 ^ 24
  rw [BitVec.shiftLeft_eq', BitVec.toNat_shiftLeft]
  have e2 : (8#64).toNat = 8 := by decide
  rw [e2, Nat.shiftLeft_eq]
  have := Nat.mod_le (l.toBitVec.toNat * 2 ^ 8) (2 ^ 64)
  omega
theorem sh8_b24 (l : Int64) (b : Int32) (hl : 0 ≤ l.toInt ∧ l.toInt < 16777216) (hb : 48 ≤ b.toInt ∧ b.toInt ≤ 122) : 0 ≤ ((l <<< ((8 : Int32).toInt64 &&& 63)) ||| b.toInt64).toInt ∧ ((l <<< ((8 : Int32).toInt64 &&& 63)) ||| b.toInt64).toInt < 4294967296 := by
  have e8 : ((8 : Int32).toInt64 &&& 63) = 8 := by decide
  rw [e8]
  have nn : ∀ x : Int64, 0 ≤ x.toInt → (x.toBitVec.toNat : Int) = x.toInt := fun x hx => by
    have h1 : x.toInt = x.toBitVec.toInt := rfl
    have h2 := BitVec.toInt_eq_toNat_cond x.toBitVec
    have h3 := x.toBitVec.isLt
    rw [h1] at hx ⊢
    rw [h2] at hx ⊢
    by_cases c : 2 * x.toBitVec.toNat < 2 ^ 64
    · rw [if_pos c]
    · rw [if_neg c] at hx; omega
  have bn : ∀ x : Int64, x.toBitVec.toNat < 2 ^ 32 → 0 ≤ x.toInt ∧ x.toInt < 4294967296 := fun x hx => by
    have h1 : x.toInt = x.toBitVec.toInt := rfl
    have h2 := BitVec.toInt_eq_toNat_cond x.toBitVec
    rw [h1, h2, if_pos (by omega)]
    omega
  have l1 := nn l hl.1
  have eb : b.toInt64.toInt = b.toInt := Int32.toInt_toInt64 _
  have b1 := nn b.toInt64 (by omega)
  refine bn _ ?_
  rw [Int64.toBitVec_or, BitVec.toNat_or]
  refine Nat.or_lt_two_pow ?_ (by omega)
  rw [Int64.toBitVec_shiftLeft]
  have e : ((8 : Int64).toBitVec.smod 64) = 8#64 := by decide
  rw [e]
  show (l.toBitVec <<< 8#64).toNat < 2 ^ 32
  rw [BitVec.shiftLeft_eq', BitVec.toNat_shiftLeft]
  have e2 : (8#64).toNat = 8 := by decide
  rw [e2, Nat.shiftLeft_eq]
  have := Nat.mod_le (l.toBitVec.toNat * 2 ^ 8) (2 ^ 64)
  omega
def LB5 (S : CS) : Prop := ((S.i 43 = 208 ∨ S.i 43 = 209) ∨ S.i 43 = 217 → (S.i 44).toInt + 5 ≤ (S.i 42).toInt) ∧ (S.i 43 = 200 ∨ S.i 43 = 201 → (S.i 44).toInt + 3 ≤ (S.i 42).toInt) ∧ (S.i 43 = 5 → 0 ≤ (S.i 45).toInt ∧ (S.i 45).toInt < 12)
theorem LB5.of {S : CS} (h5 : ¬ S.i 43 = 5) (h : ¬ (200 ≤ (S.i 43).toInt ∧ (S.i 43).toInt ≤ 221)) : LB5 S := by
  have n : ∀ v : Int32, 200 ≤ v.toInt → v.toInt ≤ 221 → ¬ S.i 43 = v := fun v h1 h2 e => h (by rw [e]; exact ⟨h1, h2⟩)
  exact ⟨fun q => q.elim (fun q => q.elim (fun z => absurd z (n 208 (by decide) (by decide))) (fun z => absurd z (n 209 (by decide) (by decide)))) (fun z => absurd z (n 217 (by decide) (by decide))), fun q => q.elim (fun z => absurd z (n 200 (by decide) (by decide))) (fun z => absurd z (n 201 (by decide) (by decide))), fun q => absurd q h5⟩
def WL5 (S : CS) : Prop := (4294967296 ≤ (S.b 40 8).toInt ∧ 4294967296 ≤ (S.b 40 9).toInt ∧ 4294967296 ≤ (S.b 40 17).toInt) ∧ 65536 ≤ (S.b 40 0).toInt ∧ 65536 ≤ (S.b 40 1).toInt
def LBW (S : CS) : Prop := LB5 S ∧ WL5 S
/-- so many letters and digits are taken -/
def TR5 (X : CS) : Prop := ∃ m : Nat, (X.i 42).toInt = (X.i 44).toInt + m ∧ 0 ≤ (X.i 44).toInt ∧ (m = 0 → X.l = 0) ∧ (m = 1 → 0 ≤ X.l.toInt ∧ X.l.toInt < 256) ∧ (m = 2 → 0 ≤ X.l.toInt ∧ X.l.toInt < 65536) ∧ (m = 3 → 0 ≤ X.l.toInt ∧ X.l.toInt < 16777216) ∧ (m = 4 → X.l.toInt < 4294967296)
theorem TR5.step {X : CS} {b : Int32} (h : TR5 X) (h9 : (X.i 42).toInt < 900) (hb : 48 ≤ b.toInt ∧ b.toInt ≤ 122) : TR5 (CS.setI (CS.setL X ((X.l <<< ((8 : Int32).toInt64 &&& 63)) ||| b.toInt64)) 42 ((X.i 42) + 1)) := by
  obtain ⟨m, h1, h2, h3, h4, h5, h6, -⟩ := h
  have es : (X.i 42 + 1).toInt = (X.i 42).toInt + 1 := ad1 (by omega) (by omega)
  obtain ⟨y, hy⟩ : ∃ y, y = (X.l <<< ((8 : Int32).toInt64 &&& 63)) ||| b.toInt64 := ⟨_, rfl⟩
  rw [← hy]
  refine ⟨m + 1, ?_, ?_, fun q => by omega, fun q => ?_, fun q => ?_, fun q => ?_, fun q => ?_⟩
  · rw [ci_at, ci_ne _ _ _ (by decide), es]
    show (X.i 42).toInt + 1 = (X.i 44).toInt + _
    omega
  · rw [ci_ne _ _ _ (by decide)]
    exact h2
  · rw [cl_setI]
    show 0 ≤ y.toInt ∧ y.toInt < 256
    rw [hy, h3 (by omega), sh8_0 b (by omega)]
    omega
  · rw [cl_setI]
    show 0 ≤ y.toInt ∧ y.toInt < 65536
    rw [hy]
    exact sh8_b8 _ _ (h4 (by omega)) hb
  · rw [cl_setI]
    show 0 ≤ y.toInt ∧ y.toInt < 16777216
    rw [hy]
    exact sh8_b16 _ _ (h5 (by omega)) hb
  · rw [cl_setI]
    show y.toInt < 4294967296
    rw [hy]
    exact (sh8_b24 _ _ (h6 (by omega)) hb).2
theorem t32_k : ∀ k : Nat, k < 10 → 0 ≤ ((Int64.ofNat k).toInt32 + 10).toInt ∧ 0 ≤ ((Int64.ofNat k).toInt32 + 0).toInt := by decide +kernel
theorem rt5_171 {N : Nat} {σ : CS} {x6 : Int64} {P : Int32 × CS} (h0 : 0 ≤ (σ.i 45).toInt) (e : f_X9_rowType_171 N σ x6 = some P) (q : P.1 = 5) : 0 ≤ (P.2.i 45).toInt ∧ (P.2.i 45).toInt < 12 := by
  unfold f_X9_rowType_171 at e
  by_cases c : lg_cmp x6 101 = 0
  · rw [if_pos c] at e
    by_cases c2 : 12 ≤ σ.i 45
    · rw [if_pos c2] at e
      cases e
      exact absurd (show (2 : Int32) = 5 from q) (by decide)
    · rw [if_neg c2] at e
      cases e
      have := lt_int (Int32.not_le.mp c2)
      have e12 : (12 : Int32).toInt = 12 := by decide
      exact ⟨h0, by show (σ.i 45).toInt < 12; omega⟩
  · rw [if_neg c] at e
    by_cases c2 : σ.i 45 < 8
    · rw [if_pos c2] at e
      by_cases c3 : lg_cmp x6 109 = 0
      · rw [if_pos c3] at e
        cases e
        exact absurd (show (3 : Int32) = 5 from q) (by decide)
      · rw [if_neg c3] at e
        by_cases c4 : lg_cmp x6 114 = 0
        · rw [if_pos c4] at e
          cases e
          exact absurd (show (4 : Int32) = 5 from q) (by decide)
        · rw [if_neg c4] at e
          cases e
          exact absurd (show (2 : Int32) = 5 from q) (by decide)
    · rw [if_neg c2] at e
      cases e
      exact absurd (show (2 : Int32) = 5 from q) (by decide)
theorem rt5_129 {N : Nat} {σ : CS} {x2 : Int64} {x4 : Int32} {P : Int32 × CS} (h : 0 ≤ x2.toInt ∧ x2.toInt ≤ 9) (e : f_X9_rowType_129 N σ x2 x4 = some P) (q : P.1 = 5) : 0 ≤ (P.2.i 45).toInt ∧ (P.2.i 45).toInt < 12 := by
  have hk : x2 = Int64.ofNat x2.toInt.toNat := by
    refine Int64.toInt_inj.mp ?_
    rw [Int64.toInt_ofNat_of_lt (by omega)]
    omega
  have tk := t32_k x2.toInt.toNat (by omega)
  rw [← hk] at tk
  have r153 : ∀ x6 : Int64, f_X9_rowType_153 N σ x2 x4 x6 = some P → 0 ≤ (P.2.i 45).toInt ∧ (P.2.i 45).toInt < 12 := fun x6 e => by
    unfold f_X9_rowType_153 at e
    by_cases c : x4 = 0
    · rw [if_pos c] at e
      exact rt5_171 (by rw [ci_at]; exact tk.1) e q
    · rw [if_neg c] at e
      exact rt5_171 (by rw [ci_at]; exact tk.2) e q
  unfold f_X9_rowType_129 at e
  by_cases c : x4 = 0
  · rw [if_pos c] at e
    exact r153 _ e
  · rw [if_neg c] at e
    exact r153 _ e
theorem lgc_lo {x : Int64} (h : ¬ lg_cmp x 0 < 0) : 0 ≤ x.toInt := by
  by_cases c : x.toInt < 0
  · exfalso
    refine h ?_
    unfold lg_cmp
    have n1 : ¬ x > 0 := fun z => by
      have := Int64.lt_iff_toInt_lt.mp z
      have e0 : (0 : Int64).toInt = 0 := by decide
      omega
    have n2 : ¬ x = 0 := fun z => by
      rw [z] at c
      exact absurd c (by decide)
    rw [if_neg n1, if_neg n2]
    decide
  · omega
theorem lgc_hi {x : Int64} (h : ¬ 0 < lg_cmp x 9) : x.toInt ≤ 9 := by
  by_cases c : 9 < x.toInt
  · exfalso
    refine h ?_
    unfold lg_cmp
    have n1 : x > 9 := Int64.lt_iff_toInt_lt.mpr (by
      have e0 : (9 : Int64).toInt = 9 := by decide
      omega)
    rw [if_pos n1]
    decide
  · omega
theorem rt5_73 {N : Nat} {σ : CS} {x1 x4 : Int32} {x2 : Int64} {P : Int32 × CS} (h : ¬ x4 = 0 → 0 ≤ x2.toInt ∧ x2.toInt ≤ 9) (e : f_X9_rowType_73 N σ x1 x2 x4 = some P) (q : P.1 = 5) : 0 ≤ (P.2.i 45).toInt ∧ (P.2.i 45).toInt < 12 := by
  have r117 : ∀ x5 : Int32, (¬ x5 = 0 → 0 ≤ x2.toInt ∧ x2.toInt ≤ 9) → f_X9_rowType_117 N σ x2 x4 x5 = some P → 0 ≤ (P.2.i 45).toInt ∧ (P.2.i 45).toInt < 12 := fun x5 h5 e => by
    unfold f_X9_rowType_117 at e
    by_cases c : x4 = 0
    · rw [if_pos c] at e
      by_cases c5 : x5 = 0
      · rw [if_pos c5] at e
        cases e
        exact absurd (show (2 : Int32) = 5 from q) (by decide)
      · rw [if_neg c5] at e
        exact rt5_129 (h5 c5) e q
    · rw [if_neg c] at e
      exact rt5_129 (h c) e q
  have r114 : f_X9_rowType_114 N σ x2 x4 = some P → 0 ≤ (P.2.i 45).toInt ∧ (P.2.i 45).toInt < 12 := fun e => by
    unfold f_X9_rowType_114 at e
    exact r117 0 (fun z => absurd rfl z) e
  unfold f_X9_rowType_73 at e
  by_cases c : x1 = 3
  · rw [if_pos c] at e
    by_cases c0 : lg_cmp x2 0 < 0
    · rw [if_pos c0] at e
      exact r114 e
    · rw [if_neg c0] at e
      by_cases c9 : 0 < lg_cmp x2 9
      · rw [if_pos c9] at e
        exact r114 e
      · rw [if_neg c9] at e
        by_cases c1 : (lg_cmp ((σ.l >>> ((8 : Int32).toInt64 &&& 63)) &&& 255) 49) = 0
        · rw [if_pos c1] at e
          exact r117 1 (fun _ => ⟨lgc_lo c0, lgc_hi c9⟩) e
        · rw [if_neg c1] at e
          exact r114 e
  · rw [if_neg c] at e
    exact r114 e
theorem rt5_2 {N : Nat} {σ : CS} {x1 : Int32} : ∀ (n : Nat) (x2 : Int32) (P : Int32 × CS), 0 ≤ x2.toInt → f_X9_rowType_2 N n σ x1 x2 = some P → P.1 = 5 → 0 ≤ (P.2.i 45).toInt ∧ (P.2.i 45).toInt < 12
  | 0, _, _, _, e, _ => by cases e
  | n + 1, x2, P, h0, e, q => by
    have e' : b_X9_rowType_2 N (f_X9_rowType_2 N n) σ x1 x2 = some P := e
    unfold b_X9_rowType_2 f_X9_rowType_70 at e'
    have e25 : (25 : Int32).toInt = 25 := by decide
    by_cases c : 25 ≤ x2
    · rw [if_pos c] at e'
      by_cases c1 : x1 = 2
      · rw [if_pos c1] at e'
        by_cases c2 : (lg_cmp ((σ.l &&& 255) - 48) 0) < 0
        · rw [if_pos c2] at e'
          exact rt5_73 (fun z => absurd rfl z) e' q
        · rw [if_neg c2] at e'
          by_cases c3 : 0 < (lg_cmp ((σ.l &&& 255) - 48) 9)
          · rw [if_pos c3] at e'
            exact rt5_73 (fun z => absurd rfl z) e' q
          · rw [if_neg c3] at e'
            exact rt5_73 (fun _ => ⟨lgc_lo c2, lgc_hi c3⟩) e' q
      · rw [if_neg c1] at e'
        exact rt5_73 (fun z => absurd rfl z) e' q
    · rw [if_neg c] at e'
      have lt := lt_int (Int32.not_le.mp c)
      obtain ⟨-, e'⟩ := hf_ite e'
      by_cases c4 : lg_cmp ((σ.b 40) (x2.toNatClampNeg)) σ.l = 0
      · rw [if_pos c4] at e'
        cases e'
        exfalso
        have e200 : (200 : Int32).toInt = 200 := by decide
        have ea : (200 + x2).toInt = 200 + x2.toInt := by rw [toInt_add] <;> rw [e200] <;> omega
        have q' : (200 + x2 : Int32) = 5 := q
        rw [q'] at ea
        have e5 : (5 : Int32).toInt = 5 := by decide
        omega
      · rw [if_neg c4] at e'
        exact rt5_2 n (x2 + 1) P (by have := ad1 h0 (show x2.toInt < 2147483647 by omega); omega) e' q
theorem l5_79 {N : Nat} (hN : 1000 ≤ N) {X : CS} {R : Unit × CS} (h : TR5 X) (w : WL5 X) (e : f_X9_takeRow_79 N X = some R) : LB5 R.2 := by
  unfold f_X9_takeRow_79 at e
  by_cases c : (X.i 42 - X.i 44) ≤ 8
  · rw [if_pos c] at e
    obtain ⟨p, ep, e⟩ := hf_bind e
    cases e
    obtain ⟨⟨-, r1, r2, -, r4⟩, t⟩ := ok_at (q_rt hN (X.i 42 - X.i 44)) ep
    have e43 : (CS.setI p.2 43 p.1).i 43 = p.1 := ci_at _ _ _
    have e44 : (CS.setI p.2 43 p.1).i 44 = X.i 44 := by rw [ci_ne _ _ _ (by decide)]; exact r4
    have e42 : (CS.setI p.2 43 p.1).i 42 = X.i 42 := by rw [ci_ne _ _ _ (by decide)]; exact r2
    have tk : ∀ k : Nat, p.1.toInt = 200 + (k : Int) → X.b 40 k = X.l := fun k hk => by
      rcases t with z | ⟨z, -⟩ | ⟨j, j1, j2, j3⟩
      · rw [z] at hk
        have : (2 : Int32).toInt = 2 := by decide
        omega
      · have a3 : (3 : Int32).toInt = 3 := by decide
        have a4 : (4 : Int32).toInt = 4 := by decide
        have a5 : (5 : Int32).toInt = 5 := by decide
        rcases z with y | y | y <;> rw [y] at hk <;> omega
      · have : j = k := by omega
        rw [← this]
        exact j3
    obtain ⟨m, h1, h2, h3, h4, h5, h6, h7⟩ := h
    have zz : (0 : Int64).toInt = 0 := by decide
    have big : 65536 ≤ X.l.toInt → 3 ≤ m := fun lg => by
      by_cases c0 : m = 0
      · rw [h3 c0] at lg
        omega
      · by_cases c1 : m = 1
        · have := h4 c1
          omega
        · by_cases c2 : m = 2
          · have := h5 c2
            omega
          · omega
    have big5 : 4294967296 ≤ X.l.toInt → 5 ≤ m := fun lg => by
      have m3 := big (by omega)
      by_cases c3 : m = 3
      · have := h6 c3
        omega
      · by_cases c4 : m = 4
        · have := h7 c4
          omega
        · omega
    show LB5 (CS.setI p.2 43 p.1)
    unfold LB5
    rw [e43, e44, e42]
    refine ⟨fun q => ?_, fun q => ?_, fun q => ?_⟩
    · have : 5 ≤ m := by
        rcases q with (y | y) | y
        · refine big5 ?_
          rw [← tk 8 (by rw [y]; decide)]
          exact w.1.1
        · refine big5 ?_
          rw [← tk 9 (by rw [y]; decide)]
          exact w.1.2.1
        · refine big5 ?_
          rw [← tk 17 (by rw [y]; decide)]
          exact w.1.2.2
      omega
    · have : 3 ≤ m := by
        rcases q with y | y
        · refine big ?_
          rw [← tk 0 (by rw [y]; decide)]
          exact w.2.1
        · refine big ?_
          rw [← tk 1 (by rw [y]; decide)]
          exact w.2.2
      omega
    · rw [ci_ne _ _ _ (by decide)]
      exact rt5_2 N 0 p (by decide) ep q
  · rw [if_neg c] at e
    cases e
    refine LB5.of ?_ ?_
    · rw [ci_at]
      decide
    · rw [ci_at]
      decide
theorem l5_7 {N : Nat} (hN : 1000 ≤ N) : ∀ (n : Nat) (X : CS) (x1 : Int32) (R : Unit × CS), TR5 X → WL5 X → f_X9_takeRow_7 N n X x1 = some R → LB5 R.2
  | 0, _, _, _, _, _, e => by cases e
  | n + 1, X, x1, R, h, w, e => by
    have e' : b_X9_takeRow_7 N (f_X9_takeRow_7 N n) X x1 = some R := e
    unfold b_X9_takeRow_7 at e'
    by_cases c : 900 ≤ x1
    · rw [if_pos c] at e'
      exact l5_79 hN h w e'
    · rw [if_neg c] at e'
      have nxt : ∀ b : Int32, b = BY X (X.i 42) → AB X (X.i 42) → f_X9_takeRow_7 N n (CS.setI (CS.setL X ((X.l <<< ((8 : Int32).toInt64 &&& 63)) ||| b.toInt64)) 42 ((X.i 42) + 1)) (x1 + 1) = some R → LB5 R.2 := fun b hb hab e => by
        have rg := BY.dg (s := X) (x := X.i 42) hab
        have br := AB.r hab
        rw [← hb] at br
        exact l5_7 hN n _ (x1 + 1) R (h.step (by omega) br) w e
      obtain ⟨p7, e7, e'⟩ := hf_bind e'
      obtain ⟨p11, e11, e'⟩ := hf_bind e'
      obtain ⟨g1, g2⟩ := ok_at (q_by _) e7
      obtain ⟨d1, d2, d3⟩ := ok_at (q_dg _) e11
      rw [g1] at d1
      rw [g2] at d2 d3
      by_cases c11 : p11.1 = 0
      · rw [if_pos c11, d1] at e'
        obtain ⟨p20, e20, e'⟩ := hf_bind e'
        obtain ⟨p24, e24, e'⟩ := hf_bind e'
        obtain ⟨g3, g4⟩ := ok_at (q_by _) e20
        obtain ⟨l1, l2, l3⟩ := ok_at (q_lt _) e24
        rw [g3] at l1
        rw [g4] at l2 l3
        by_cases c24 : p24.1 = 0
        · rw [if_pos c24, l1] at e'
          exact l5_79 hN h w e'
        · rw [if_neg c24, l1] at e'
          obtain ⟨p29, e29, e'⟩ := hf_bind e'
          obtain ⟨g5, g6⟩ := ok_at (q_by _) e29
          rw [g5] at e'
          exact nxt p29.1 g6 (Or.inr (l2 c24)) e'
      · rw [if_neg c11, d1] at e'
        obtain ⟨p16, e16, e'⟩ := hf_bind e'
        obtain ⟨g5, g6⟩ := ok_at (q_by _) e16
        rw [g5] at e'
        exact nxt p16.1 g6 (Or.inl (d2 c11)) e'
theorem tn_43 {N : Nat} : ∀ (n : Nat) (X : CS) (x1 : Int32) (R : Unit × CS), f_X9_takeNumber_7 N n X x1 = some R → R.2.i 43 = 1 ∨ R.2.i 43 = 6
  | 0, _, _, _, e => by cases e
  | n + 1, X, x1, R, e => by
    have e' : b_X9_takeNumber_7 N (f_X9_takeNumber_7 N n) X x1 = some R := e
    unfold b_X9_takeNumber_7 at e'
    have z67 : ∀ Y : CS, f_X9_takeNumber_67 N Y = some R → R.2.i 43 = 1 ∨ R.2.i 43 = 6 := fun Y e => by
      unfold f_X9_takeNumber_67 at e
      by_cases c : (Y.i 42 - Y.i 44) ≤ 9
      · rw [if_pos c] at e
        cases e
        exact Or.inl (ci_at _ _ _)
      · rw [if_neg c] at e
        cases e
        exact Or.inr (ci_at _ _ _)
    by_cases c : 900 ≤ x1
    · rw [if_pos c] at e'
      exact z67 X e'
    · rw [if_neg c] at e'
      obtain ⟨p3, e3, e'⟩ := hf_bind e'
      obtain ⟨p7, e7, e'⟩ := hf_bind e'
      by_cases c7 : p7.1 = 0
      · rw [if_pos c7] at e'
        exact z67 _ e'
      · rw [if_neg c7] at e'
        obtain ⟨p12, e12, e'⟩ := hf_bind e'
        exact tn_43 n _ _ R e'
theorem l5_51 {N : Nat} (hN : 1000 ≤ N) {X : CS} {R : Unit × CS} (h0 : 0 ≤ (X.i 42).toInt) (h9 : 0 ≤ (X.i 41).toInt ∧ (X.i 41).toInt ≤ 900) (hw : WDC X) (w : WL5 X) (e : f_X9_advance_51 N X = some R) : LB5 R.2 := by
  unfold f_X9_advance_51 at e
  by_cases c : X.i 42 < X.i 41
  · rw [if_pos c] at e
    have lt := lt_int c
    obtain ⟨Y, hY⟩ : ∃ y, y = CS.setI X 44 (X.i 42) := ⟨_, rfl⟩
    have y41 : Y.i 41 = X.i 41 := by rw [hY]; exact ci_ne _ _ _ (by decide)
    have y42 : Y.i 42 = X.i 42 := by rw [hY]; exact ci_ne _ _ _ (by decide)
    have y44 : Y.i 44 = X.i 42 := by rw [hY]; exact ci_at _ _ _
    have wY : WL5 Y := by rw [hY]; exact w
    have hwY : WDC Y := by rw [hY]; exact hw
    rw [← hY] at e
    clear hY
    obtain ⟨p3, e3, e⟩ := hf_bind e
    obtain ⟨p7, e7, e⟩ := hf_bind e
    obtain ⟨g1, g2⟩ := ok_at (q_by _) e3
    obtain ⟨d1, d2, d3⟩ := ok_at (q_dg _) e7
    rw [g1] at d1
    rw [g2] at d2 d3
    by_cases c7 : p7.1 = 0
    · rw [if_pos c7, d1] at e
      obtain ⟨p12, e12, e⟩ := hf_bind e
      obtain ⟨p16, e16, e⟩ := hf_bind e
      obtain ⟨g3, g4⟩ := ok_at (q_by _) e12
      obtain ⟨l1, l2, l3⟩ := ok_at (q_lt _) e16
      rw [g3] at l1
      rw [g4] at l2 l3
      by_cases c16 : p16.1 = 0
      · rw [if_pos c16, l1] at e
        obtain ⟨p, ep, e⟩ := hf_bind e
        cases e
        obtain ⟨t1, t2, t3, t4⟩ := ok_at (q_takeSign (N := N) (by rw [y41]; exact h9) (by rw [y42]; exact h0) (by rw [y42, y41]; exact lt) (y44.trans y42.symm)) ep
        have no : ¬ ALN (p.2.i 43) := fun al => by
          have ab := t2.2.2.2.2.1.1 al
          unfold AB at ab
          rw [t1.by, t3, y44] at ab
          rw [y42] at l3
          rcases ab with z | z
          · exact d3 c7 z
          · exact l3 c16 z
        refine LB5.of (fun q => ?_) (fun q => no (Or.inr q.1))
        have q' : p.2.i 43 = 5 := q
        exact no (Or.inl (by rw [q']; decide))
      · rw [if_neg c16, l1] at e
        obtain ⟨p, ep, e⟩ := hf_bind e
        cases e
        exact l5_7 hN N (CS.setL Y 0) 0 p ⟨0, by show (Y.i 42).toInt = (Y.i 44).toInt + _; rw [y42, y44]; omega, by show 0 ≤ (Y.i 44).toInt; rw [y44]; exact h0, fun _ => rfl, fun q => by omega, fun q => by omega, fun q => by omega, fun q => by omega⟩ wY ep
    · rw [if_neg c7, d1] at e
      obtain ⟨p, ep, e⟩ := hf_bind e
      cases e
      have a1 : (1 : Int32).toInt = 1 := by decide
      have a6 : (6 : Int32).toInt = 6 := by decide
      refine LB5.of (fun q => ?_) (fun q => ?_)
      · have q' : p.2.i 43 = 5 := q
        rcases tn_43 N _ 0 p ep with z | z <;> rw [z] at q' <;> exact absurd q' (by decide)
      · have q1 : 200 ≤ (p.2.i 43).toInt := q.1
        rcases tn_43 N _ 0 p ep with z | z <;> rw [z] at q1 <;> omega
  · rw [if_neg c] at e
    cases e
    refine LB5.of ?_ ?_
    · rw [ci_at]
      decide
    · rw [ci_at]
      decide
theorem l5_2 {N : Nat} (hN : 1000 ≤ N) : ∀ (n : Nat) (X : CS) (x1 : Int32) (R : Unit × CS), 0 ≤ (X.i 42).toInt → (0 ≤ (X.i 41).toInt ∧ (X.i 41).toInt ≤ 900) → WDC X → WL5 X → f_X9_advance_2 N n X x1 = some R → LB5 R.2
  | 0, _, _, _, _, _, _, _, e => by cases e
  | n + 1, X, x1, R, h0, h9, hw, w, e => by
    have e' : b_X9_advance_2 N (f_X9_advance_2 N n) X x1 = some R := e
    unfold b_X9_advance_2 at e'
    have go : ∀ b : Int32, BY X (X.i 42) = b → ¬ b = -1 → f_X9_advance_2 N n (CS.setI X 42 ((X.i 42) + 1)) (x1 + 1) = some R → LB5 R.2 := fun b hb h1 e => by
      have rg := BY.in (s := X) (x := X.i 42) (by rw [hb]; exact h1)
      have es : (X.i 42 + 1).toInt = (X.i 42).toInt + 1 := ad1 h0 (by omega)
      exact l5_2 hN n (CS.setI X 42 ((X.i 42) + 1)) (x1 + 1) R (by rw [ci_at]; omega) (by rw [ci_ne _ _ _ (by decide)]; exact h9) hw w e
    by_cases c : 900 ≤ x1
    · rw [if_pos c] at e'
      exact l5_51 hN h0 h9 hw w e'
    · rw [if_neg c] at e'
      obtain ⟨p, ep, e'⟩ := hf_bind e'
      obtain ⟨g1, g2⟩ := ok_at (q_by _) ep
      by_cases c1 : p.1 = 32
      · rw [if_pos c1, g1] at e'
        exact go 32 (by rw [← g2]; exact c1) (by decide) e'
      · rw [if_neg c1, g1] at e'
        obtain ⟨p2, ep2, e'⟩ := hf_bind e'
        obtain ⟨g3, g4⟩ := ok_at (q_by _) ep2
        by_cases c2 : p2.1 = 10
        · rw [if_pos c2, g3] at e'
          exact go 10 (by rw [← g4]; exact c2) (by decide) e'
        · rw [if_neg c2, g3] at e'
          exact l5_51 hN h0 h9 hw w e'
theorem LBW.adv {N : Nat} (hN : 1000 ≤ N) {S : CS} {R : Unit × CS} (h : LBW S) (hl : LC S) (hw : WDC S) (eb : R.2.b = S.b) (e : f_X9_advance N S = some R) : LBW R.2 := by
  refine ⟨l5_2 hN N S 0 R (by have := hl.2.1; omega) hl.1 hw h.2 e, ?_⟩
  unfold WL5
  rw [eb]
  exact h.2
theorem LBW.kd {S R : CS} (h : LBW S) (e42 : R.i 42 = S.i 42) (e43 : R.i 43 = S.i 43) (e44 : R.i 44 = S.i 44) (e45 : R.i 45 = S.i 45) (eb : R.b = S.b) : LBW R := by
  unfold LBW LB5 WL5 at *
  rw [e42, e43, e44, e45, eb]
  exact h
