/-! both readers: rows of letters and digits -/
theorem i64_nn {x : Int64} (hx : 0 ≤ x.toInt) : (x.toBitVec.toNat : Int) = x.toInt := by
  have h1 : x.toInt = x.toBitVec.toInt := rfl
  have h2 := BitVec.toInt_eq_toNat_cond x.toBitVec
  have h3 := x.toBitVec.isLt
  rw [h1] at hx ⊢
  rw [h2] at hx ⊢
  by_cases c : 2 * x.toBitVec.toNat < 2 ^ 64
  · rw [if_pos c]
  · rw [if_neg c] at hx; omega
theorem i64_of {x : Int64} {n : Nat} (h : x.toBitVec.toNat = n) (hn : n < 2 ^ 63) : x.toInt = (n : Int) := by
  have h1 : x.toInt = x.toBitVec.toInt := rfl
  have h2 := BitVec.toInt_eq_toNat_cond x.toBitVec
  rw [h1, h2, if_pos (by omega), h]
theorem shl8 (l : Int64) (b : Int32) (hl : 0 ≤ l.toInt ∧ l.toInt < 1099511627776) (hb : 0 ≤ b.toInt ∧ b.toInt < 256) : ((l <<< ((8 : Int32).toInt64 &&& 63)) ||| b.toInt64).toInt = l.toInt * 256 + b.toInt := by
  have e8 : ((8 : Int32).toInt64 &&& 63) = 8 := by decide
  rw [e8]
  have l1 := i64_nn hl.1
  have eb : b.toInt64.toInt = b.toInt := Int32.toInt_toInt64 _
  have b1 := i64_nn (x := b.toInt64) (by omega)
  have e : ((8 : Int64).toBitVec.smod 64) = 8#64 := by decide
  have e2 : (8#64).toNat = 8 := by decide
  have q : ((l <<< (8 : Int64)) ||| b.toInt64).toBitVec.toNat = l.toBitVec.toNat * 256 + b.toInt64.toBitVec.toNat := by
    rw [Int64.toBitVec_or, BitVec.toNat_or, Int64.toBitVec_shiftLeft, e]
    show (l.toBitVec <<< 8#64).toNat ||| b.toInt64.toBitVec.toNat = _
    rw [BitVec.shiftLeft_eq', BitVec.toNat_shiftLeft, e2]
    have m : l.toBitVec.toNat <<< 8 % 2 ^ 64 = l.toBitVec.toNat <<< 8 := by
      rw [Nat.shiftLeft_eq]
      exact Nat.mod_eq_of_lt (by omega)
    rw [m, ← Nat.shiftLeft_add_eq_or_of_lt (i := 8) (by omega), Nat.shiftLeft_eq]
  rw [i64_of q (by omega)]
  omega
theorem shr_8 (y : Int64) : (y >>> ((8 : Int32).toInt64 &&& 63)).toInt = y.toInt / 256 := by
  have e8 : ((8 : Int32).toInt64 &&& 63) = 8 := by decide
  rw [e8]
  have e : ((8 : Int64).toBitVec.smod 64) = 8#64 := by decide
  have e2 : (8#64).toNat = 8 := by decide
  show (y >>> (8 : Int64)).toBitVec.toInt = y.toInt / 256
  rw [Int64.toBitVec_shiftRight, e]
  show (y.toBitVec.sshiftRight' 8#64).toInt = y.toInt / 256
  rw [BitVec.sshiftRight_eq', BitVec.toInt_sshiftRight, e2, Int.shiftRight_eq_div_pow]
  rfl
theorem shr_16 (y : Int64) : (y >>> ((16 : Int32).toInt64 &&& 63)).toInt = y.toInt / 65536 := by
  have e8 : ((16 : Int32).toInt64 &&& 63) = 16 := by decide
  rw [e8]
  have e : ((16 : Int64).toBitVec.smod 64) = 16#64 := by decide
  have e2 : (16#64).toNat = 16 := by decide
  show (y >>> (16 : Int64)).toBitVec.toInt = y.toInt / 65536
  rw [Int64.toBitVec_shiftRight, e]
  show (y.toBitVec.sshiftRight' 16#64).toInt = y.toInt / 65536
  rw [BitVec.sshiftRight_eq', BitVec.toInt_sshiftRight, e2, Int.shiftRight_eq_div_pow]
  rfl
theorem and_255 (y : Int64) (h : 0 ≤ y.toInt) : (y &&& 255).toInt = y.toInt % 256 := by
  have y1 := i64_nn h
  have e2 : (255 : Int64).toBitVec.toNat = 2 ^ 8 - 1 := by decide
  have q : (y &&& 255).toBitVec.toNat = y.toBitVec.toNat % 256 := by
    rw [Int64.toBitVec_and, BitVec.toNat_and, e2, Nat.and_two_pow_sub_one_eq_mod]
  rw [i64_of q (by omega)]
  omega
theorem sub_48 (y : Int64) (h : 0 ≤ y.toInt ∧ y.toInt < 256) : (y - 48).toInt = y.toInt - 48 := by
  have e : (48 : Int64).toInt = 48 := by decide
  rw [Int64.toInt_sub, e, Int.bmod_eq_of_le (by omega) (by omega)]
theorem lgc_eq {x y : Int64} : lg_cmp x y = 0 ↔ x = y := ⟨lg_eq, fun h => by
  unfold lg_cmp
  rw [if_neg (fun q => by rw [h] at q; exact absurd (Int64.lt_iff_toInt_lt.mp q) (Int.lt_irrefl _)), if_pos h]⟩
theorem lgc_lt {x y : Int64} : lg_cmp x y < 0 ↔ x.toInt < y.toInt := by
  unfold lg_cmp
  by_cases c : x > y
  · rw [if_pos c]
    have := Int64.lt_iff_toInt_lt.mp c
    exact ⟨fun q => absurd q (by decide), fun q => by omega⟩
  · rw [if_neg c]
    have c' : ¬ y.toInt < x.toInt := fun q => c (Int64.lt_iff_toInt_lt.mpr q)
    by_cases d : x = y
    · rw [if_pos d, d]
      exact ⟨fun q => absurd q (by decide), fun q => absurd q (Int.lt_irrefl _)⟩
    · rw [if_neg d]
      have d' : ¬ x.toInt = y.toInt := fun q => d (Int64.toInt_inj.mp q)
      exact ⟨fun _ => by omega, fun _ => by decide⟩
theorem lgc_gt {x y : Int64} : 0 < lg_cmp x y ↔ y.toInt < x.toInt := by
  unfold lg_cmp
  by_cases c : x > y
  · rw [if_pos c]
    exact ⟨fun _ => Int64.lt_iff_toInt_lt.mp c, fun _ => by decide⟩
  · rw [if_neg c]
    have c' : ¬ y.toInt < x.toInt := fun q => c (Int64.lt_iff_toInt_lt.mpr q)
    by_cases d : x = y
    · rw [if_pos d]
      exact ⟨fun q => absurd q (by decide), fun q => absurd q c'⟩
    · rw [if_neg d]
      exact ⟨fun q => absurd q (by decide), fun q => absurd q c'⟩
/-- the bytes of a row, in one number -/
def pk (g : Nat → Int32) (F : Nat) : Nat → Int64
  | 0 => 0
  | m + 1 => (pk g F m <<< ((8 : Int32).toInt64 &&& 63)) ||| (g (F + m)).toInt64
theorem pk_2 {g : Nat → Int32} {F : Nat} (h0 : 48 ≤ (g F).toInt ∧ (g F).toInt ≤ 122) (h1 : 48 ≤ (g (F + 1)).toInt ∧ (g (F + 1)).toInt ≤ 122) : (pk g F 2).toInt = (g F).toInt * 256 + (g (F + 1)).toInt := by
  have a : (pk g F 1).toInt = (g F).toInt := sh8_0 (g F) ⟨by omega, by omega⟩
  show ((pk g F 1 <<< ((8 : Int32).toInt64 &&& 63)) ||| (g (F + 1)).toInt64).toInt = _
  rw [shl8 _ _ (by omega) (by omega), a]
theorem pk_3 {g : Nat → Int32} {F : Nat} (h0 : 48 ≤ (g F).toInt ∧ (g F).toInt ≤ 122) (h1 : 48 ≤ (g (F + 1)).toInt ∧ (g (F + 1)).toInt ≤ 122) (h2 : 48 ≤ (g (F + 2)).toInt ∧ (g (F + 2)).toInt ≤ 122) : (pk g F 3).toInt = (g F).toInt * 65536 + (g (F + 1)).toInt * 256 + (g (F + 2)).toInt := by
  have a := pk_2 h0 h1
  show ((pk g F 2 <<< ((8 : Int32).toInt64 &&& 63)) ||| (g (F + 2)).toInt64).toInt = _
  rw [shl8 _ _ (by omega) (by omega), a]
  omega
/-- the words -/
def WDS (s : RS) : Prop := ∀ k : Nat, k < 25 → s.b 9 k = zRW k
theorem zRW_inj : ∀ j : Nat, j < 25 → ∀ k : Nat, k < 25 → zRW j = zRW k → j = k := by decide +kernel
theorem zRW_2 : ∀ k : Nat, k < 25 → ¬ (25856 ≤ (zRW k).toInt ∧ (zRW k).toInt ≤ 26111) ∧ ¬ (27904 ≤ (zRW k).toInt ∧ (zRW k).toInt ≤ 28159) ∧ ¬ (29184 ≤ (zRW k).toInt ∧ (zRW k).toInt ≤ 29439) ∧ ¬ (6619136 ≤ (zRW k).toInt ∧ (zRW k).toInt ≤ 6684671) := by decide +kernel
/-- the class: a word, or what is behind the words -/
noncomputable def RTL (N : Nat) (S : CS) (z : Int32) : Option (Int32 × CS) := (if z = 2 then (if (lg_cmp ((S.l &&& 255) - 48) 0) < 0 then f_X9_rowType_70 N S z ((S.l &&& 255) - 48) else (if 0 < (lg_cmp ((S.l &&& 255) - 48) 9) then f_X9_rowType_70 N S z ((S.l &&& 255) - 48) else f_X9_rowType_73 N S z ((S.l &&& 255) - 48) 1)) else f_X9_rowType_70 N S z ((S.l &&& 255) - 48))
theorem y_rt {N : Nat} {S : CS} {z : Int32} : ∀ (n : Nat) (x2 : Int32) (R : Int32 × CS), 0 ≤ x2.toInt → x2.toInt ≤ 25 → f_X9_rowType_2 N n S z x2 = some R → (∃ k : Nat, x2.toInt ≤ (k : Int) ∧ k < 25 ∧ S.b 40 k = S.l ∧ R.2 = S ∧ R.1.toInt = 200 + (k : Int)) ∨ ((∀ k : Nat, x2.toInt ≤ (k : Int) → k < 25 → ¬ S.b 40 k = S.l) ∧ RTL N S z = some R)
  | 0, _, _, _, _, e => by cases e
  | n + 1, x2, R, h0, h25, e => by
    have e' : b_X9_rowType_2 N (f_X9_rowType_2 N n) S z x2 = some R := e
    unfold b_X9_rowType_2 at e'
    have e25 : (25 : Int32).toInt = 25 := by decide
    have e200 : (200 : Int32).toInt = 200 := by decide
    by_cases c : (25 : Int32) ≤ x2
    · rw [if_pos c] at e'
      have := le_int c
      exact Or.inr ⟨fun k h1 h2 => by omega, e'⟩
    · rw [if_neg c] at e'
      have lt := lt_int (Int32.not_le.mp c)
      obtain ⟨hib, e'⟩ := hf_ite e'
      have ck := clampI h0
      by_cases d : lg_cmp (S.b 40 x2.toNatClampNeg) S.l = 0
      · rw [if_pos d] at e'
        cases e'
        refine Or.inl ⟨x2.toNatClampNeg, by omega, by omega, lg_eq d, rfl, ?_⟩
        show (200 + x2).toInt = _
        rw [toInt_add] <;> rw [e200] <;> omega
      · rw [if_neg d] at e'
        have e1 : (x2 + 1).toInt = x2.toInt + 1 := ad1 h0 (by omega)
        have nd : ¬ S.b 40 x2.toNatClampNeg = S.l := fun q => d (lgc_eq.mpr q)
        rcases y_rt n (x2 + 1) R (by omega) (by omega) e' with ⟨k, k1, k2, k3⟩ | ⟨k1, k2⟩
        · exact Or.inl ⟨k, by omega, k2, k3⟩
        · refine Or.inr ⟨fun k h1 h2 => ?_, k2⟩
          by_cases q : (k : Int) = x2.toInt
          · have : k = x2.toNatClampNeg := by omega
            rw [this]
            exact nd
          · exact k1 k (by omega) h2
/-- the reference: the words -/
theorem y_rw {N : Nat} : ∀ (n : Nat) (s : RS) (x4 : Int32) (u : RS), 0 ≤ x4.toInt → x4.toInt ≤ 25 → f_X12_readName_260 N n s x4 = some u → (u.i 11 = s.i 11 ∧ u.i 12 = s.i 12 ∧ u.i 14 = s.i 14 ∧ u.l = s.l) ∧ ((∃ k : Nat, x4.toInt ≤ (k : Int) ∧ k < 25 ∧ s.b 9 k = s.l ∧ (u.i 10).toInt = 410 + (k : Int)) ∨ ((∀ k : Nat, x4.toInt ≤ (k : Int) → k < 25 → ¬ s.b 9 k = s.l) ∧ u.i 10 = s.i 10))
  | 0, _, _, _, _, _, e => by cases e
  | n + 1, s, x4, u, h0, h25, e => by
    have e' : b_X12_readName_260 N (f_X12_readName_260 N n) s x4 = some u := e
    unfold b_X12_readName_260 at e'
    have e25 : (25 : Int32).toInt = 25 := by decide
    have e410 : (410 : Int32).toInt = 410 := by decide
    by_cases c : (25 : Int32) ≤ x4
    · rw [if_pos c] at e'
      cases e'
      have := le_int c
      exact ⟨⟨rfl, rfl, rfl, rfl⟩, Or.inr ⟨fun k h1 h2 => by omega, rfl⟩⟩
    · rw [if_neg c] at e'
      have lt := lt_int (Int32.not_le.mp c)
      obtain ⟨hib, e'⟩ := hf_ite e'
      have ck := clampI h0
      have e1 : (x4 + 1).toInt = x4.toInt + 1 := ad1 h0 (by omega)
      by_cases d : lg_cmp (s.b 9 x4.toNatClampNeg) s.l = 0
      · rw [if_pos d] at e'
        obtain ⟨⟨a1, a2, a3, a4⟩, b⟩ := y_rw n (RS.setI s 10 (410 + x4)) (x4 + 1) u (by omega) (by omega) e'
        refine ⟨⟨a1, a2, a3, a4⟩, Or.inl ?_⟩
        rcases b with ⟨k, k1, k2, k3, k4⟩ | ⟨k1, k2⟩
        · exact ⟨k, by omega, k2, k3, k4⟩
        · refine ⟨x4.toNatClampNeg, by omega, by omega, lg_eq d, ?_⟩
          rw [k2]
          show (410 + x4).toInt = _
          rw [toInt_add] <;> rw [e410] <;> omega
      · rw [if_neg d] at e'
        have nd : ¬ s.b 9 x4.toNatClampNeg = s.l := fun q => d (lgc_eq.mpr q)
        obtain ⟨⟨a1, a2, a3, a4⟩, b⟩ := y_rw n (RS.setI s 10 (s.i 10)) (x4 + 1) u (by omega) (by omega) e'
        refine ⟨⟨a1, a2, a3, a4⟩, ?_⟩
        rcases b with ⟨k, k1, k2, k3, k4⟩ | ⟨k1, k2⟩
        · exact Or.inl ⟨k, by omega, k2, k3, k4⟩
        · refine Or.inr ⟨fun k h1 h2 => ?_, k2⟩
          by_cases q : (k : Int) = x4.toInt
          · have : k = x4.toNatClampNeg := by omega
            rw [this]
            exact nd
          · exact k1 k (by omega) h2
