/-! both readers: what a row of letters and digits is -/
/-- the class, no word: by the row's size and bytes -/
theorem rtl_o {N : Nat} {S : CS} {z : Int32} (h2 : ¬ z = 2) (h3 : ¬ z = 3) : RTL N S z = some (2, S) := by
  unfold RTL f_X9_rowType_70 f_X9_rowType_73 f_X9_rowType_114 f_X9_rowType_117
  exact (if_neg h2).trans ((if_neg h3).trans ((if_pos rfl).trans (if_pos rfl)))
theorem rtl_2n {N : Nat} {S : CS} {b0 b1 : Int} (hl : S.l.toInt = b0 * 256 + b1) (r0 : 48 ≤ b0 ∧ b0 ≤ 122) (r1 : 48 ≤ b1 ∧ b1 ≤ 122) (h : ¬ b1 ≤ 57) : RTL N S 2 = some (2, S) := by
  have a : (S.l &&& 255).toInt = b1 := by rw [and_255 _ (by omega), hl]; omega
  have b : ((S.l &&& 255) - 48).toInt = b1 - 48 := by rw [sub_48 _ (by omega), a]
  have e9 : (9 : Int64).toInt = 9 := by decide
  have e0 : (0 : Int64).toInt = 0 := by decide
  unfold RTL f_X9_rowType_70 f_X9_rowType_73 f_X9_rowType_114 f_X9_rowType_117
  refine (if_pos rfl).trans ?_
  refine (if_neg (fun q => by have := lgc_lt.mp q; omega)).trans ?_
  refine (if_pos (lgc_gt.mpr (by omega))).trans ?_
  exact (if_neg (by decide)).trans ((if_pos rfl).trans (if_pos rfl))
/-- the letter and the number decide -/
theorem rt_171 {N : Nat} {S : CS} {x6 : Int64} {v : Int32} (hv : 0 ≤ v.toInt) (e45 : S.i 45 = v) : (x6.toInt = 101 → v.toInt < 12 → f_X9_rowType_171 N S x6 = some (5, S)) ∧ (x6.toInt = 101 → ¬ v.toInt < 12 → f_X9_rowType_171 N S x6 = some (2, S)) ∧ (x6.toInt = 109 → v.toInt < 8 → f_X9_rowType_171 N S x6 = some (3, S)) ∧ (x6.toInt = 114 → v.toInt < 8 → f_X9_rowType_171 N S x6 = some (4, S)) ∧ (¬ x6.toInt = 101 → ¬ v.toInt < 8 → f_X9_rowType_171 N S x6 = some (2, S)) ∧ (¬ x6.toInt = 101 → ¬ x6.toInt = 109 → ¬ x6.toInt = 114 → f_X9_rowType_171 N S x6 = some (2, S)) := by
  have q : ∀ (w : Int64), lg_cmp x6 w = 0 ↔ x6.toInt = w.toInt := fun w => by rw [lgc_eq]; exact ⟨fun h => by rw [h], fun h => Int64.toInt_inj.mp h⟩
  have q1 := q 101
  have q2 := q 109
  have q3 := q 114
  have c1 : (101 : Int64).toInt = 101 := by decide
  have c2 : (109 : Int64).toInt = 109 := by decide
  have c3 : (114 : Int64).toInt = 114 := by decide
  rw [c1] at q1
  rw [c2] at q2
  rw [c3] at q3
  have e12 : (12 : Int32).toInt = 12 := by decide
  have e8 : (8 : Int32).toInt = 8 := by decide
  unfold f_X9_rowType_171
  rw [e45]
  refine ⟨fun h1 h2 => ?_, fun h1 h2 => ?_, fun h1 h2 => ?_, fun h1 h2 => ?_, fun h1 h2 => ?_, fun h1 h2 h3 => ?_⟩
  · exact (if_pos (q1.mpr h1)).trans (if_neg (fun w => by have := le_int w; omega))
  · exact (if_pos (q1.mpr h1)).trans (if_pos (by rw [Int32.le_iff_toInt_le]; omega))
  · exact (if_neg (fun w => by have := q1.mp w; omega)).trans ((if_pos (by rw [Int32.lt_iff_toInt_lt]; omega)).trans (if_pos (q2.mpr h1)))
  · exact (if_neg (fun w => by have := q1.mp w; omega)).trans ((if_pos (by rw [Int32.lt_iff_toInt_lt]; omega)).trans ((if_neg (fun w => by have := q2.mp w; omega)).trans (if_pos (q3.mpr h1))))
  · exact (if_neg (fun w => h1 (q1.mp w))).trans (if_neg (fun w => by have := lt_int w; omega))
  · refine (if_neg (fun w => h1 (q1.mp w))).trans ?_
    by_cases d : v < 8
    · exact (if_pos d).trans ((if_neg (fun w => h2 (q2.mp w))).trans (if_neg (fun w => h3 (q3.mp w))))
    · exact if_neg d
theorem rtl_2y {N : Nat} {S : CS} {b0 b1 : Int} (hl : S.l.toInt = b0 * 256 + b1) (r0 : 48 ≤ b0 ∧ b0 ≤ 122) (r1 : 48 ≤ b1 ∧ b1 ≤ 57) : ∃ (v : Int32) (x6 : Int64), v.toInt = b1 - 48 ∧ x6.toInt = b0 ∧ RTL N S 2 = f_X9_rowType_171 N (CS.setI S 45 v) x6 := by
  have a : (S.l &&& 255).toInt = b1 := by rw [and_255 _ (by omega), hl]; omega
  have b : ((S.l &&& 255) - 48).toInt = b1 - 48 := by rw [sub_48 _ (by omega), a]
  have e9 : (9 : Int64).toInt = 9 := by decide
  have e0 : (0 : Int64).toInt = 0 := by decide
  have e00 : (0 : Int32).toInt = 0 := by decide
  have v1 : (((S.l &&& 255) - 48 : Int64).toInt32).toInt = b1 - 48 := by rw [Int64.toInt_toInt32, b, Int.bmod_eq_of_le (by omega) (by omega)]
  refine ⟨((S.l &&& 255) - 48 : Int64).toInt32 + 0, S.l >>> ((8 : Int32).toInt64 &&& 63), ?_, by rw [shr_8, hl]; omega, ?_⟩
  · rw [toInt_add] <;> rw [e00, v1] <;> omega
  · unfold RTL f_X9_rowType_73 f_X9_rowType_114 f_X9_rowType_117 f_X9_rowType_129 f_X9_rowType_153
    refine (if_pos rfl).trans ?_
    refine (if_neg (fun q => by have := lgc_lt.mp q; omega)).trans ?_
    refine (if_neg (fun q => by have := lgc_gt.mp q; omega)).trans ?_
    refine (if_neg (by decide)).trans ?_
    exact (if_neg n10).trans ((if_neg n10).trans (if_neg n10))
theorem rtl_3n {N : Nat} {S : CS} {b0 b1 b2 : Int} (hl : S.l.toInt = b0 * 65536 + b1 * 256 + b2) (r0 : 48 ≤ b0 ∧ b0 ≤ 122) (r1 : 48 ≤ b1 ∧ b1 ≤ 122) (r2 : 48 ≤ b2 ∧ b2 ≤ 122) (h : ¬ (b2 ≤ 57 ∧ b1 = 49)) : RTL N S 3 = some (2, S) := by
  have a : (S.l &&& 255).toInt = b2 := by rw [and_255 _ (by omega), hl]; omega
  have b : ((S.l &&& 255) - 48).toInt = b2 - 48 := by rw [sub_48 _ (by omega), a]
  have c : ((S.l >>> ((8 : Int32).toInt64 &&& 63)) &&& 255).toInt = b1 := by rw [and_255 _ (by rw [shr_8, hl]; omega), shr_8, hl]; omega
  have e9 : (9 : Int64).toInt = 9 := by decide
  have e0 : (0 : Int64).toInt = 0 := by decide
  have e49 : (49 : Int64).toInt = 49 := by decide
  have fin : f_X9_rowType_114 N S ((S.l &&& 255) - 48) 0 = some (2, S) := by
    unfold f_X9_rowType_114 f_X9_rowType_117
    exact (if_pos rfl).trans (if_pos rfl)
  unfold RTL f_X9_rowType_70 f_X9_rowType_73
  refine (if_neg (by decide)).trans ?_
  refine (if_pos rfl).trans ?_
  refine (if_neg (fun q => by have := lgc_lt.mp q; omega)).trans ?_
  refine ite_so (fun _ => fin) (fun q => ?_)
  refine ite_so (fun k => ?_) (fun _ => fin)
  exfalso
  have k' := lgc_eq.mp k
  rw [k', e49] at c
  refine h ⟨?_, c.symm⟩
  have : ¬ 9 < b2 - 48 := fun w => q (lgc_gt.mpr (by omega))
  omega
theorem rtl_3y {N : Nat} {S : CS} {b0 b1 b2 : Int} (hl : S.l.toInt = b0 * 65536 + b1 * 256 + b2) (r0 : 48 ≤ b0 ∧ b0 ≤ 122) (r1 : b1 = 49) (r2 : 48 ≤ b2 ∧ b2 ≤ 57) : ∃ (v : Int32) (x6 : Int64), v.toInt = b2 - 38 ∧ x6.toInt = b0 ∧ RTL N S 3 = f_X9_rowType_171 N (CS.setI S 45 v) x6 := by
  have a : (S.l &&& 255).toInt = b2 := by rw [and_255 _ (by omega), hl]; omega
  have b : ((S.l &&& 255) - 48).toInt = b2 - 48 := by rw [sub_48 _ (by omega), a]
  have c : ((S.l >>> ((8 : Int32).toInt64 &&& 63)) &&& 255).toInt = b1 := by rw [and_255 _ (by rw [shr_8, hl]; omega), shr_8, hl]; omega
  have e9 : (9 : Int64).toInt = 9 := by decide
  have e0 : (0 : Int64).toInt = 0 := by decide
  have e49 : (49 : Int64).toInt = 49 := by decide
  have e10 : (10 : Int32).toInt = 10 := by decide
  have v1 : (((S.l &&& 255) - 48 : Int64).toInt32).toInt = b2 - 48 := by rw [Int64.toInt_toInt32, b, Int.bmod_eq_of_le (by omega) (by omega)]
  refine ⟨((S.l &&& 255) - 48 : Int64).toInt32 + 10, S.l >>> ((16 : Int32).toInt64 &&& 63), ?_, by rw [shr_16, hl]; omega, ?_⟩
  · rw [toInt_add] <;> rw [e10, v1] <;> omega
  · unfold RTL f_X9_rowType_70 f_X9_rowType_73 f_X9_rowType_117 f_X9_rowType_129 f_X9_rowType_153
    refine (if_neg (by decide)).trans ?_
    refine (if_pos rfl).trans ?_
    refine (if_neg (fun q => by have := lgc_lt.mp q; omega)).trans ?_
    refine (if_neg (fun q => by have := lgc_gt.mp q; omega)).trans ?_
    refine (if_pos (lgc_eq.mpr (Int64.toInt_inj.mp (by rw [c, e49]; exact r1)))).trans ?_
    exact (if_pos rfl).trans ((if_neg n10).trans ((if_pos rfl).trans (if_pos rfl)))
