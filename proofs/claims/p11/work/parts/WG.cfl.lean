/-! the class: a fault stays -/
def Kf {α : Type} (v : Int32) (t : Option (α × CS)) : Prop := ∀ R, t = some R → ¬ v = 0 → CS.i R.2 32 = v
theorem kf_some {α : Type} {v : Int32} {r : α × CS} (h : CS.i r.2 32 = v) : Kf v (some r) := fun R q _ => by
  cases q
  exact h
theorem kf_none9 {α : Type} {v : Int32} : Kf v (none : Option (α × CS)) := fun R q => by cases q
theorem kf_ite9 {α : Type} {v : Int32} {c : Prop} [Decidable c] {x y : Option (α × CS)} (hx : Kf v x) (hy : Kf v y) : Kf v (if c then x else y) := by
  by_cases h : c
  · rw [if_pos h]; exact hx
  · rw [if_neg h]; exact hy
theorem kf_bind9 {α β : Type} {v : Int32} {x : Option (α × CS)} {g : α × CS → Option (β × CS)} (hx : Kf v x) (hk : ∀ p : α × CS, Kf (CS.i p.2 32) (g p)) : Kf v (x.bind g) := by
  intro R h hv
  cases hx' : x with
  | none => rw [hx'] at h; cases h
  | some p =>
    rw [hx'] at h
    have a := hx p hx' hv
    exact (hk p R h (by rw [a]; exact hv)).trans a
theorem kf_oc9 {α β : Type} {v : Int32} {r : Option α} {x : Option (β × CS)} {g : α → Option (β × CS)} (hx : Kf v x) (hf : ∀ a, Kf v (g a)) : Kf v (oCase r x g) := by
  cases r with
  | none => exact hx
  | some a => exact hf a
theorem kf_le9 {α : Type} {v w : Int32} {t : Option (α × CS)} (h : v = w) (ht : Kf v t) : Kf w t := by rw [← h]; exact ht
theorem kF_X0_clear (N : Nat) (σ : CS) : Kf (CS.i σ 32) (f_X0_clear N σ) := by
  unfold f_X0_clear
  exact (kf_some (rfl))
theorem kF_X0_add (N : Nat) (σ : CS) (x1 : Int32) (x2 : Int32) : Kf (CS.i σ 32) (f_X0_add N σ x1 x2) := by
  unfold f_X0_add
  exact (kf_some (rfl))
theorem kF_X0_newTarget (N : Nat) (σ : CS) : Kf (CS.i σ 32) (f_X0_newTarget N σ) := by
  unfold f_X0_newTarget
  exact (kf_some (rfl))
theorem kF_X0_aim (N : Nat) (σ : CS) (x1 : Int32) : Kf (CS.i σ 32) (f_X0_aim N σ x1) := by
  unfold f_X0_aim
  exact (kf_some (rfl))
theorem kF_X0_newCells (N : Nat) (σ : CS) (x1 : Int32) : Kf (CS.i σ 32) (f_X0_newCells N σ x1) := by
  unfold f_X0_newCells
  exact (kf_some (rfl))
theorem kFb_X0_hasCase_2 (N : Nat) (K : CS → Int32 → Int32 → Option (Int32 × CS)) (hMK : ∀ (σ : CS) (x2 : Int32) (x3 : Int32), Kf (CS.i σ 32) (K σ x2 x3)) (σ : CS) (x2 : Int32) (x3 : Int32) : Kf (CS.i σ 32) (b_X0_hasCase_2 N K σ x2 x3) := by
  unfold b_X0_hasCase_2
  exact (kf_ite9 (kf_some (rfl)) (kf_ite9 (kf_some (rfl)) (hMK σ x2 (x3 + 1))))
theorem kF_X0_hasCase_2 (N : Nat) : ∀ (n : Nat) (σ : CS) (x2 : Int32) (x3 : Int32), Kf (CS.i σ 32) (f_X0_hasCase_2 N n σ x2 x3)
  | 0, _, _, _ => kf_none9
  | n+1, σ, x2, x3 => kFb_X0_hasCase_2 N (f_X0_hasCase_2 N n) (fun σ x2 x3 => kF_X0_hasCase_2 N n σ x2 x3) σ x2 x3
theorem kF_X0_hasCase (N : Nat) (σ : CS) (x1 : Int32) (x2 : Int32) : Kf (CS.i σ 32) (f_X0_hasCase N σ x1 x2) := by
  unfold f_X0_hasCase
  exact (kF_X0_hasCase_2 N N σ x2 x1)
theorem kF_X0_addCase (N : Nat) (σ : CS) (x1 : Int32) (x2 : Int32) : Kf (CS.i σ 32) (f_X0_addCase N σ x1 x2) := by
  unfold f_X0_addCase
  exact (kf_some (rfl))
theorem kFb_X0_addCases_2 (N : Nat) (K : CS → Int32 → Int32 → Int32 → Option (Unit × CS)) (hMK : ∀ (σ : CS) (x1 : Int32) (x2 : Int32) (x3 : Int32), Kf (CS.i σ 32) (K σ x1 x2 x3)) (σ : CS) (x1 : Int32) (x2 : Int32) (x3 : Int32) : Kf (CS.i σ 32) (b_X0_addCases_2 N K σ x1 x2 x3) := by
  unfold b_X0_addCases_2
  exact (kf_ite9 (kf_bind9 (kF_X0_add N (CS.setI σ 22 x1) 6 0) (fun p2 => (kf_bind9 (kF_X0_add N p2.2 30 x2) (fun p6 => (kf_some (rfl)))))) (kf_bind9 (kF_X0_add N σ 0 (gAt (σ.a 18) 320 x3)) (fun p11 => (kf_bind9 (kF_X0_add N p11.2 34 (gAt (p11.2.a 19) 320 x3)) (fun p16 => (hMK p16.2 x1 x2 (x3 + 1)))))))
theorem kF_X0_addCases_2 (N : Nat) : ∀ (n : Nat) (σ : CS) (x1 : Int32) (x2 : Int32) (x3 : Int32), Kf (CS.i σ 32) (f_X0_addCases_2 N n σ x1 x2 x3)
  | 0, _, _, _, _ => kf_none9
  | n+1, σ, x1, x2, x3 => kFb_X0_addCases_2 N (f_X0_addCases_2 N n) (fun σ x1 x2 x3 => kF_X0_addCases_2 N n σ x1 x2 x3) σ x1 x2 x3
theorem kF_X0_addCases (N : Nat) (σ : CS) (x1 : Int32) (x2 : Int32) : Kf (CS.i σ 32) (f_X0_addCases N σ x1 x2) := by
  unfold f_X0_addCases
  exact (kF_X0_addCases_2 N N σ x1 x2 x1)
theorem kF_X9_stop (N : Nat) (σ : CS) : Kf (CS.i σ 32) (f_X9_stop N σ) := by
  unfold f_X9_stop
  exact (kf_some (rfl))
theorem kF_X1_fail (N : Nat) (σ : CS) (x1 : Int32) (x2 : Int32) : Kf (CS.i σ 32) (f_X1_fail N σ x1 x2) := by
  unfold f_X1_fail
  intro R h hv
  rw [if_neg hv] at h
  cases h
  rfl
theorem kF_X1_found (N : Nat) (σ : CS) (x1 : Int32) : Kf (CS.i σ 32) (f_X1_found N σ x1) := by
  unfold f_X1_found
  exact (kf_ite9 (kf_some (rfl)) (kf_some (rfl)))
theorem kF_X1_misplaced (N : Nat) (σ : CS) : Kf (CS.i σ 32) (f_X1_misplaced N σ) := by
  unfold f_X1_misplaced
  exact (kf_bind9 (kF_X1_found N σ 6) (fun p1 => (kf_ite9 (kf_bind9 (kF_X1_fail N p1.2 2 (p1.2.i 44)) (fun p6 => (kf_some (rfl)))) (kf_bind9 (kF_X1_fail N p1.2 1 (p1.2.i 44)) (fun p10 => (kf_some (rfl)))))))
theorem kF_X9_byteAt_30 (N : Nat) (σ : CS) : Kf (CS.i σ 32) (f_X9_byteAt_30 N σ ) := by
  unfold f_X9_byteAt_30
  exact (kf_some (rfl))
theorem kF_X9_byteAt (N : Nat) (σ : CS) (x1 : Int32) : Kf (CS.i σ 32) (f_X9_byteAt N σ x1) := by
  unfold f_X9_byteAt
  exact (kf_ite9 (kF_X9_byteAt_30 N σ) (kf_ite9 (kF_X9_byteAt_30 N σ) (kf_ite9 (kF_X9_byteAt_30 N σ) (kf_ite9 (kf_some (rfl)) kf_none9))))
theorem kF_X9_isDigit_16 (N : Nat) (σ : CS) : Kf (CS.i σ 32) (f_X9_isDigit_16 N σ ) := by
  unfold f_X9_isDigit_16
  exact (kf_some (rfl))
theorem kF_X9_isDigit (N : Nat) (σ : CS) (x0 : Int32) : Kf (CS.i σ 32) (f_X9_isDigit N σ x0) := by
  unfold f_X9_isDigit
  exact (kf_ite9 (kF_X9_isDigit_16 N σ) (kf_ite9 (kF_X9_isDigit_16 N σ) (kf_some (rfl))))
theorem kF_X9_takeNumber_67 (N : Nat) (σ : CS) : Kf (CS.i σ 32) (f_X9_takeNumber_67 N σ ) := by
  unfold f_X9_takeNumber_67
  exact (kf_ite9 (kf_some (rfl)) (kf_some (rfl)))
theorem kFb_X9_takeNumber_7 (N : Nat) (K : CS → Int32 → Option (Unit × CS)) (hMK : ∀ (σ : CS) (x1 : Int32), Kf (CS.i σ 32) (K σ x1)) (σ : CS) (x1 : Int32) : Kf (CS.i σ 32) (b_X9_takeNumber_7 N K σ x1) := by
  unfold b_X9_takeNumber_7
  exact (kf_ite9 (kF_X9_takeNumber_67 N σ) (kf_bind9 (kF_X9_byteAt N σ (σ.i 42)) (fun p3 => (kf_bind9 (kF_X9_isDigit N p3.2 p3.1) (fun p7 => (kf_ite9 (kF_X9_takeNumber_67 N p7.2) (kf_bind9 (kF_X9_byteAt N p7.2 (p7.2.i 42)) (fun p12 => (hMK (CS.setI (CS.setI p12.2 45 ((((p7.2.i 45) * 10) + p12.1) - 48)) 42 ((p12.2.i 42) + 1)) (x1 + 1))))))))))
theorem kF_X9_takeNumber_7 (N : Nat) : ∀ (n : Nat) (σ : CS) (x1 : Int32), Kf (CS.i σ 32) (f_X9_takeNumber_7 N n σ x1)
  | 0, _, _ => kf_none9
  | n+1, σ, x1 => kFb_X9_takeNumber_7 N (f_X9_takeNumber_7 N n) (fun σ x1 => kF_X9_takeNumber_7 N n σ x1) σ x1
theorem kF_X9_takeNumber (N : Nat) (σ : CS) : Kf (CS.i σ 32) (f_X9_takeNumber N σ) := by
  unfold f_X9_takeNumber
  exact (kF_X9_takeNumber_7 N N (CS.setI σ 45 0) 0)
theorem kF_X9_isLetter_16 (N : Nat) (σ : CS) : Kf (CS.i σ 32) (f_X9_isLetter_16 N σ ) := by
  unfold f_X9_isLetter_16
  exact (kf_some (rfl))
theorem kF_X9_isLetter (N : Nat) (σ : CS) (x0 : Int32) : Kf (CS.i σ 32) (f_X9_isLetter N σ x0) := by
  unfold f_X9_isLetter
  exact (kf_ite9 (kF_X9_isLetter_16 N σ) (kf_ite9 (kF_X9_isLetter_16 N σ) (kf_some (rfl))))
theorem kF_X9_rowType_171 (N : Nat) (σ : CS) (x6 : Int64) : Kf (CS.i σ 32) (f_X9_rowType_171 N σ x6) := by
  unfold f_X9_rowType_171
  exact (kf_ite9 (kf_ite9 (kf_some (rfl)) (kf_some (rfl))) (kf_ite9 (kf_ite9 (kf_some (rfl)) (kf_ite9 (kf_some (rfl)) (kf_some (rfl)))) (kf_some (rfl))))
theorem kF_X9_rowType_153 (N : Nat) (σ : CS) (x2 : Int64) (x4 : Int32) (x6 : Int64) : Kf (CS.i σ 32) (f_X9_rowType_153 N σ x2 x4 x6) := by
  unfold f_X9_rowType_153
  exact (kf_ite9 (kF_X9_rowType_171 N (CS.setI σ 45 (((x2 : Int64).toInt32) + 10)) x6) (kF_X9_rowType_171 N (CS.setI σ 45 (((x2 : Int64).toInt32) + 0)) x6))
theorem kF_X9_rowType_129 (N : Nat) (σ : CS) (x2 : Int64) (x4 : Int32) : Kf (CS.i σ 32) (f_X9_rowType_129 N σ x2 x4) := by
  unfold f_X9_rowType_129
  exact (kf_ite9 (kF_X9_rowType_153 N σ x2 x4 (σ.l >>> ((16 : Int32).toInt64 &&& 63))) (kF_X9_rowType_153 N σ x2 x4 (σ.l >>> ((8 : Int32).toInt64 &&& 63))))
theorem kF_X9_rowType_117 (N : Nat) (σ : CS) (x2 : Int64) (x4 : Int32) (x5 : Int32) : Kf (CS.i σ 32) (f_X9_rowType_117 N σ x2 x4 x5) := by
  unfold f_X9_rowType_117
  exact (kf_ite9 (kf_ite9 (kf_some (rfl)) (kF_X9_rowType_129 N σ x2 x4)) (kF_X9_rowType_129 N σ x2 x4))
theorem kF_X9_rowType_114 (N : Nat) (σ : CS) (x2 : Int64) (x4 : Int32) : Kf (CS.i σ 32) (f_X9_rowType_114 N σ x2 x4) := by
  unfold f_X9_rowType_114
  exact (kF_X9_rowType_117 N σ x2 x4 0)
theorem kF_X9_rowType_73 (N : Nat) (σ : CS) (x1 : Int32) (x2 : Int64) (x4 : Int32) : Kf (CS.i σ 32) (f_X9_rowType_73 N σ x1 x2 x4) := by
  unfold f_X9_rowType_73
  exact (kf_ite9 (kf_ite9 (kF_X9_rowType_114 N σ x2 x4) (kf_ite9 (kF_X9_rowType_114 N σ x2 x4) (kf_ite9 (kF_X9_rowType_117 N σ x2 x4 1) (kF_X9_rowType_114 N σ x2 x4)))) (kF_X9_rowType_114 N σ x2 x4))
theorem kF_X9_rowType_70 (N : Nat) (σ : CS) (x1 : Int32) (x2 : Int64) : Kf (CS.i σ 32) (f_X9_rowType_70 N σ x1 x2) := by
  unfold f_X9_rowType_70
  exact (kF_X9_rowType_73 N σ x1 x2 0)
theorem kFb_X9_rowType_2 (N : Nat) (K : CS → Int32 → Int32 → Option (Int32 × CS)) (hMK : ∀ (σ : CS) (x1 : Int32) (x2 : Int32), Kf (CS.i σ 32) (K σ x1 x2)) (σ : CS) (x1 : Int32) (x2 : Int32) : Kf (CS.i σ 32) (b_X9_rowType_2 N K σ x1 x2) := by
  unfold b_X9_rowType_2
  exact (kf_ite9 (kf_ite9 (kf_ite9 (kF_X9_rowType_70 N σ x1 ((σ.l &&& 255) - 48)) (kf_ite9 (kF_X9_rowType_70 N σ x1 ((σ.l &&& 255) - 48)) (kF_X9_rowType_73 N σ x1 ((σ.l &&& 255) - 48) 1))) (kF_X9_rowType_70 N σ x1 ((σ.l &&& 255) - 48))) (kf_ite9 (kf_ite9 (kf_some (rfl)) (hMK σ x1 (x2 + 1))) kf_none9))
theorem kF_X9_rowType_2 (N : Nat) : ∀ (n : Nat) (σ : CS) (x1 : Int32) (x2 : Int32), Kf (CS.i σ 32) (f_X9_rowType_2 N n σ x1 x2)
  | 0, _, _, _ => kf_none9
  | n+1, σ, x1, x2 => kFb_X9_rowType_2 N (f_X9_rowType_2 N n) (fun σ x1 x2 => kF_X9_rowType_2 N n σ x1 x2) σ x1 x2
theorem kF_X9_rowType (N : Nat) (σ : CS) (x1 : Int32) : Kf (CS.i σ 32) (f_X9_rowType N σ x1) := by
  unfold f_X9_rowType
  exact (kF_X9_rowType_2 N N σ x1 0)
theorem kF_X9_takeRow_79 (N : Nat) (σ : CS) : Kf (CS.i σ 32) (f_X9_takeRow_79 N σ ) := by
  unfold f_X9_takeRow_79
  exact (kf_ite9 (kf_bind9 (kF_X9_rowType N σ ((σ.i 42) - (σ.i 44))) (fun p3 => (kf_some (rfl)))) (kf_some (rfl)))
theorem kFb_X9_takeRow_7 (N : Nat) (K : CS → Int32 → Option (Unit × CS)) (hMK : ∀ (σ : CS) (x1 : Int32), Kf (CS.i σ 32) (K σ x1)) (σ : CS) (x1 : Int32) : Kf (CS.i σ 32) (b_X9_takeRow_7 N K σ x1) := by
  unfold b_X9_takeRow_7
  exact (kf_ite9 (kF_X9_takeRow_79 N σ) (kf_bind9 (kF_X9_byteAt N σ (σ.i 42)) (fun p7 => (kf_bind9 (kF_X9_isDigit N p7.2 p7.1) (fun p11 => (kf_ite9 (kf_bind9 (kF_X9_byteAt N p11.2 (p11.2.i 42)) (fun p20 => (kf_bind9 (kF_X9_isLetter N p20.2 p20.1) (fun p24 => (kf_ite9 (kF_X9_takeRow_79 N p24.2) (kf_bind9 (kF_X9_byteAt N p24.2 (p24.2.i 42)) (fun p29 => (hMK (CS.setI (CS.setL p29.2 ((p24.2.l <<< ((8 : Int32).toInt64 &&& 63)) ||| (p29.1 : Int32).toInt64)) 42 ((p29.2.i 42) + 1)) (x1 + 1))))))))) (kf_bind9 (kF_X9_byteAt N p11.2 (p11.2.i 42)) (fun p16 => (hMK (CS.setI (CS.setL p16.2 ((p11.2.l <<< ((8 : Int32).toInt64 &&& 63)) ||| (p16.1 : Int32).toInt64)) 42 ((p16.2.i 42) + 1)) (x1 + 1))))))))))
theorem kF_X9_takeRow_7 (N : Nat) : ∀ (n : Nat) (σ : CS) (x1 : Int32), Kf (CS.i σ 32) (f_X9_takeRow_7 N n σ x1)
  | 0, _, _ => kf_none9
  | n+1, σ, x1 => kFb_X9_takeRow_7 N (f_X9_takeRow_7 N n) (fun σ x1 => kF_X9_takeRow_7 N n σ x1) σ x1
theorem kF_X9_takeRow (N : Nat) (σ : CS) : Kf (CS.i σ 32) (f_X9_takeRow N σ) := by
  unfold f_X9_takeRow
  exact (kF_X9_takeRow_7 N N (CS.setL σ 0) 0)
theorem kF_X9_longSign_73 (N : Nat) (σ : CS) (x0 : Int32) (x1 : Int32) : Kf (CS.i σ 32) (f_X9_longSign_73 N σ x0 x1) := by
  unfold f_X9_longSign_73
  exact (kf_ite9 (kf_ite9 (kf_some (rfl)) (kf_ite9 (kf_some (rfl)) (kf_ite9 (kf_some (rfl)) (kf_some (rfl))))) (kf_some (rfl)))
theorem kF_X9_longSign (N : Nat) (σ : CS) (x0 : Int32) (x1 : Int32) : Kf (CS.i σ 32) (f_X9_longSign N σ x0 x1) := by
  unfold f_X9_longSign
  exact (kf_ite9 (kf_ite9 (kf_some (rfl)) (kf_ite9 (kf_some (rfl)) (kf_ite9 (kf_some (rfl)) (kf_ite9 (kf_some (rfl)) (kf_some (rfl)))))) (kf_ite9 (kf_ite9 (kf_some (rfl)) (kF_X9_longSign_73 N σ x0 x1)) (kF_X9_longSign_73 N σ x0 x1)))
theorem kF_X9_isSign (N : Nat) (σ : CS) (x0 : Int32) : Kf (CS.i σ 32) (f_X9_isSign N σ x0) := by
  unfold f_X9_isSign
  exact (kf_ite9 (kf_some (rfl)) (kf_ite9 (kf_some (rfl)) (kf_ite9 (kf_some (rfl)) (kf_ite9 (kf_some (rfl)) (kf_ite9 (kf_some (rfl)) (kf_ite9 (kf_some (rfl)) (kf_ite9 (kf_some (rfl)) (kf_ite9 (kf_some (rfl)) (kf_ite9 (kf_some (rfl)) (kf_ite9 (kf_some (rfl)) (kf_ite9 (kf_some (rfl)) (kf_ite9 (kf_some (rfl)) (kf_ite9 (kf_some (rfl)) (kf_ite9 (kf_some (rfl)) (kf_ite9 (kf_some (rfl)) (kf_ite9 (kf_some (rfl)) (kf_ite9 (kf_some (rfl)) (kf_ite9 (kf_some (rfl)) (kf_ite9 (kf_some (rfl)) (kf_some (rfl)))))))))))))))))))))
theorem kF_X9_takeSign (N : Nat) (σ : CS) : Kf (CS.i σ 32) (f_X9_takeSign N σ) := by
  unfold f_X9_takeSign
  exact (kf_bind9 (kF_X9_byteAt N σ (σ.i 42)) (fun p1 => (kf_bind9 (kF_X9_byteAt N p1.2 ((p1.2.i 42) + 1)) (fun p5 => (kf_bind9 (kF_X9_longSign N p5.2 p1.1 p5.1) (fun p9 => (kf_ite9 (kf_bind9 (kF_X9_isSign N (CS.setI (CS.setI p9.2 43 p9.1) 42 ((p9.2.i 42) + 1)) p1.1) (fun p14 => (kf_ite9 (kf_some (rfl)) (kf_some (rfl))))) (kf_some (rfl)))))))))
theorem kF_X9_advance_51 (N : Nat) (σ : CS) : Kf (CS.i σ 32) (f_X9_advance_51 N σ ) := by
  unfold f_X9_advance_51
  exact (kf_ite9 (kf_bind9 (kF_X9_byteAt N (CS.setI σ 44 (σ.i 42)) (σ.i 42)) (fun p3 => (kf_bind9 (kF_X9_isDigit N p3.2 p3.1) (fun p7 => (kf_ite9 (kf_bind9 (kF_X9_byteAt N p7.2 (p7.2.i 42)) (fun p12 => (kf_bind9 (kF_X9_isLetter N p12.2 p12.1) (fun p16 => (kf_ite9 (kf_bind9 (kF_X9_takeSign N p16.2) (fun p21 => (kf_some (rfl)))) (kf_bind9 (kF_X9_takeRow N p16.2) (fun p25 => (kf_some (rfl))))))))) (kf_bind9 (kF_X9_takeNumber N p7.2) (fun p29 => (kf_some (rfl))))))))) (kf_some (rfl)))
theorem kFb_X9_advance_2 (N : Nat) (K : CS → Int32 → Option (Unit × CS)) (hMK : ∀ (σ : CS) (x1 : Int32), Kf (CS.i σ 32) (K σ x1)) (σ : CS) (x1 : Int32) : Kf (CS.i σ 32) (b_X9_advance_2 N K σ x1) := by
  unfold b_X9_advance_2
  exact (kf_ite9 (kF_X9_advance_51 N σ) (kf_bind9 (kF_X9_byteAt N σ (σ.i 42)) (fun p33 => (kf_ite9 (hMK (CS.setI p33.2 42 ((p33.2.i 42) + 1)) (x1 + 1)) (kf_bind9 (kF_X9_byteAt N p33.2 (p33.2.i 42)) (fun p38 => (kf_ite9 (hMK (CS.setI p38.2 42 ((p38.2.i 42) + 1)) (x1 + 1)) (kF_X9_advance_51 N p38.2))))))))
theorem kF_X9_advance_2 (N : Nat) : ∀ (n : Nat) (σ : CS) (x1 : Int32), Kf (CS.i σ 32) (f_X9_advance_2 N n σ x1)
  | 0, _, _ => kf_none9
  | n+1, σ, x1 => kFb_X9_advance_2 N (f_X9_advance_2 N n) (fun σ x1 => kF_X9_advance_2 N n σ x1) σ x1
theorem kF_X9_advance (N : Nat) (σ : CS) : Kf (CS.i σ 32) (f_X9_advance N σ) := by
  unfold f_X9_advance
  exact (kF_X9_advance_2 N N σ 0)
theorem kF_X1_skip_17 (N : Nat) (σ : CS) (x2 : Int32) : Kf (CS.i σ 32) (f_X1_skip_17 N σ x2) := by
  unfold f_X1_skip_17
  exact (kf_ite9 (kf_some (rfl)) kf_none9)
theorem kF_X1_skip (N : Nat) (σ : CS) (x1 : Int32) : Kf (CS.i σ 32) (f_X1_skip N σ x1) := by
  unfold f_X1_skip
  exact (kf_bind9 (kF_X1_found N σ x1) (fun p1 => (kf_ite9 (kF_X1_skip_17 N p1.2 p1.1) (kf_bind9 (kF_X9_advance N p1.2) (fun p7 => (kF_X1_skip_17 N p7.2 p1.1))))))
theorem kF_X1_expect (N : Nat) (σ : CS) (x1 : Int32) : Kf (CS.i σ 32) (f_X1_expect N σ x1) := by
  unfold f_X1_expect
  exact (kf_bind9 (kF_X1_found N σ x1) (fun p1 => (kf_ite9 (kf_bind9 (kF_X1_misplaced N p1.2) (fun p6 => (kf_some (rfl)))) (kf_bind9 (kF_X9_advance N p1.2) (fun p10 => (kf_some (rfl)))))))
theorem kF_X1_open (N : Nat) (σ : CS) (x1 : Int32) : Kf (CS.i σ 32) (f_X1_open N σ x1) := by
  unfold f_X1_open
  exact (kf_bind9 (kF_X1_found N σ x1) (fun p1 => (kf_ite9 (kf_bind9 (kF_X1_misplaced N p1.2) (fun p15 => (kf_some (rfl)))) (kf_ite9 (kf_bind9 (kF_X9_advance N (CS.setI p1.2 34 ((p1.2.i 34) + 1))) (fun p7 => (kf_some (rfl)))) (kf_bind9 (kF_X1_fail N p1.2 6 (p1.2.i 44)) (fun p11 => (kf_some (rfl))))))))
theorem kF_X1_close_22 (N : Nat) (σ : CS) : Kf (CS.i σ 32) (f_X1_close_22 N σ ) := by
  unfold f_X1_close_22
  exact (kf_some (rfl))
theorem kF_X1_close (N : Nat) (σ : CS) (x1 : Int32) : Kf (CS.i σ 32) (f_X1_close N σ x1) := by
  unfold f_X1_close
  exact (kf_bind9 (kF_X1_found N σ x1) (fun p1 => (kf_ite9 (kf_bind9 (kF_X1_misplaced N p1.2) (fun p6 => (kF_X1_close_22 N p6.2))) (kf_bind9 (kF_X9_advance N p1.2) (fun p10 => (kF_X1_close_22 N p10.2))))))
theorem kFb_X1_product_6 (N : Nat) (E1 : CS → Option (Unit × CS)) (E2 : CS → Option (Int32 × CS)) (hm1 : ∀ σ, Kf (CS.i σ 32) (E1 σ)) (hm2 : ∀ σ, Kf (CS.i σ 32) (E2 σ)) (K : CS → Int32 → Option (Unit × CS)) (hMK : ∀ (σ : CS) (x1 : Int32), Kf (CS.i σ 32) (K σ x1)) (σ : CS) (x1 : Int32) : Kf (CS.i σ 32) (b_X1_product_6 N E1 E2 K σ x1) := by
  unfold b_X1_product_6
  exact (kf_ite9 (kf_some (rfl)) (kf_bind9 (kF_X1_found N σ 42) (fun p6 => (kf_ite9 (kf_bind9 (kF_X1_found N p6.2 47) (fun p57 => (kf_ite9 (kf_bind9 (kF_X1_found N p57.2 37) (fun p108 => (kf_ite9 (kf_some (rfl)) (kf_bind9 (kF_X1_found N p108.2 42) (fun p113 => (kf_ite9 (kf_bind9 (kF_X1_found N p113.2 47) (fun p118 => (kf_ite9 (kf_bind9 (kF_X9_advance N p118.2) (fun p123 => (kf_bind9 (hm1 p123.2) (fun p127 => (kf_bind9 (kF_X0_add N p127.2 11 0) (fun p131 => (hMK p131.2 (x1 + 1)))))))) (kf_bind9 (kF_X9_advance N p118.2) (fun p135 => (kf_bind9 (hm1 p135.2) (fun p139 => (kf_bind9 (kF_X0_add N p139.2 10 0) (fun p143 => (hMK p143.2 (x1 + 1))))))))))) (kf_bind9 (kF_X9_advance N p113.2) (fun p147 => (kf_bind9 (hm1 p147.2) (fun p151 => (kf_bind9 (kF_X0_add N p151.2 9 0) (fun p155 => (hMK p155.2 (x1 + 1)))))))))))))) (kf_bind9 (kF_X1_found N p57.2 42) (fun p62 => (kf_ite9 (kf_bind9 (kF_X1_found N p62.2 47) (fun p67 => (kf_ite9 (kf_bind9 (kF_X9_advance N p67.2) (fun p72 => (kf_bind9 (hm1 p72.2) (fun p76 => (kf_bind9 (kF_X0_add N p76.2 11 0) (fun p80 => (hMK p80.2 (x1 + 1)))))))) (kf_bind9 (kF_X9_advance N p67.2) (fun p84 => (kf_bind9 (hm1 p84.2) (fun p88 => (kf_bind9 (kF_X0_add N p88.2 10 0) (fun p92 => (hMK p92.2 (x1 + 1))))))))))) (kf_bind9 (kF_X9_advance N p62.2) (fun p96 => (kf_bind9 (hm1 p96.2) (fun p100 => (kf_bind9 (kF_X0_add N p100.2 9 0) (fun p104 => (hMK p104.2 (x1 + 1)))))))))))))) (kf_bind9 (kF_X1_found N p6.2 42) (fun p11 => (kf_ite9 (kf_bind9 (kF_X1_found N p11.2 47) (fun p16 => (kf_ite9 (kf_bind9 (kF_X9_advance N p16.2) (fun p21 => (kf_bind9 (hm1 p21.2) (fun p25 => (kf_bind9 (kF_X0_add N p25.2 11 0) (fun p29 => (hMK p29.2 (x1 + 1)))))))) (kf_bind9 (kF_X9_advance N p16.2) (fun p33 => (kf_bind9 (hm1 p33.2) (fun p37 => (kf_bind9 (kF_X0_add N p37.2 10 0) (fun p41 => (hMK p41.2 (x1 + 1))))))))))) (kf_bind9 (kF_X9_advance N p11.2) (fun p45 => (kf_bind9 (hm1 p45.2) (fun p49 => (kf_bind9 (kF_X0_add N p49.2 9 0) (fun p53 => (hMK p53.2 (x1 + 1)))))))))))))))
theorem kF_X1_product_6 (N : Nat) (E1 : CS → Option (Unit × CS)) (E2 : CS → Option (Int32 × CS)) (hm1 : ∀ σ, Kf (CS.i σ 32) (E1 σ)) (hm2 : ∀ σ, Kf (CS.i σ 32) (E2 σ)) : ∀ (n : Nat) (σ : CS) (x1 : Int32), Kf (CS.i σ 32) (f_X1_product_6 N E1 E2 n σ x1)
  | 0, _, _ => kf_none9
  | n+1, σ, x1 => kFb_X1_product_6 N E1 E2 hm1 hm2 (f_X1_product_6 N E1 E2 n) (fun σ x1 => kF_X1_product_6 N E1 E2 hm1 hm2 n σ x1) σ x1
theorem kF_X1_product (N : Nat) (E1 : CS → Option (Unit × CS)) (E2 : CS → Option (Int32 × CS)) (hm1 : ∀ σ, Kf (CS.i σ 32) (E1 σ)) (hm2 : ∀ σ, Kf (CS.i σ 32) (E2 σ)) (σ : CS) : Kf (CS.i σ 32) (f_X1_product N E1 E2 σ) := by
  unfold f_X1_product
  exact (kf_bind9 (hm1 σ) (fun p1 => (kF_X1_product_6 N E1 E2 hm1 hm2 N p1.2 0)))
theorem kFb_X1_expression_6 (N : Nat) (E1 : CS → Option (Unit × CS)) (E2 : CS → Option (Int32 × CS)) (hm1 : ∀ σ, Kf (CS.i σ 32) (E1 σ)) (hm2 : ∀ σ, Kf (CS.i σ 32) (E2 σ)) (K : CS → Int32 → Option (Unit × CS)) (hMK : ∀ (σ : CS) (x1 : Int32), Kf (CS.i σ 32) (K σ x1)) (σ : CS) (x1 : Int32) : Kf (CS.i σ 32) (b_X1_expression_6 N E1 E2 K σ x1) := by
  unfold b_X1_expression_6
  exact (kf_ite9 (kf_some (rfl)) (kf_bind9 (kF_X1_found N σ 43) (fun p6 => (kf_ite9 (kf_bind9 (kF_X1_found N p6.2 45) (fun p40 => (kf_ite9 (kf_some (rfl)) (kf_bind9 (kF_X1_found N p40.2 43) (fun p45 => (kf_ite9 (kf_bind9 (kF_X9_advance N p45.2) (fun p50 => (kf_bind9 (kF_X1_product N E1 E2 hm1 hm2 p50.2) (fun p54 => (kf_bind9 (kF_X0_add N p54.2 8 0) (fun p58 => (hMK p58.2 (x1 + 1)))))))) (kf_bind9 (kF_X9_advance N p45.2) (fun p62 => (kf_bind9 (kF_X1_product N E1 E2 hm1 hm2 p62.2) (fun p66 => (kf_bind9 (kF_X0_add N p66.2 7 0) (fun p70 => (hMK p70.2 (x1 + 1)))))))))))))) (kf_bind9 (kF_X1_found N p6.2 43) (fun p11 => (kf_ite9 (kf_bind9 (kF_X9_advance N p11.2) (fun p16 => (kf_bind9 (kF_X1_product N E1 E2 hm1 hm2 p16.2) (fun p20 => (kf_bind9 (kF_X0_add N p20.2 8 0) (fun p24 => (hMK p24.2 (x1 + 1)))))))) (kf_bind9 (kF_X9_advance N p11.2) (fun p28 => (kf_bind9 (kF_X1_product N E1 E2 hm1 hm2 p28.2) (fun p32 => (kf_bind9 (kF_X0_add N p32.2 7 0) (fun p36 => (hMK p36.2 (x1 + 1)))))))))))))))
theorem kF_X1_expression_6 (N : Nat) (E1 : CS → Option (Unit × CS)) (E2 : CS → Option (Int32 × CS)) (hm1 : ∀ σ, Kf (CS.i σ 32) (E1 σ)) (hm2 : ∀ σ, Kf (CS.i σ 32) (E2 σ)) : ∀ (n : Nat) (σ : CS) (x1 : Int32), Kf (CS.i σ 32) (f_X1_expression_6 N E1 E2 n σ x1)
  | 0, _, _ => kf_none9
  | n+1, σ, x1 => kFb_X1_expression_6 N E1 E2 hm1 hm2 (f_X1_expression_6 N E1 E2 n) (fun σ x1 => kF_X1_expression_6 N E1 E2 hm1 hm2 n σ x1) σ x1
theorem kF_X1_expression (N : Nat) (E1 : CS → Option (Unit × CS)) (E2 : CS → Option (Int32 × CS)) (hm1 : ∀ σ, Kf (CS.i σ 32) (E1 σ)) (hm2 : ∀ σ, Kf (CS.i σ 32) (E2 σ)) (σ : CS) : Kf (CS.i σ 32) (f_X1_expression N E1 E2 σ) := by
  unfold f_X1_expression
  exact (kf_bind9 (kF_X1_product N E1 E2 hm1 hm2 σ) (fun p1 => (kF_X1_expression_6 N E1 E2 hm1 hm2 N p1.2 0)))
theorem kF_X4_find_38 (N : Nat) (σ : CS) : Kf (CS.i σ 32) (f_X4_find_38 N σ ) := by
  unfold f_X4_find_38
  exact (kf_some (rfl))
theorem kFb_X4_find_2 (N : Nat) (K : CS → Int64 → Int32 → Option (Int32 × CS)) (hMK : ∀ (σ : CS) (x1 : Int64) (x3 : Int32), Kf (CS.i σ 32) (K σ x1 x3)) (σ : CS) (x1 : Int64) (x3 : Int32) : Kf (CS.i σ 32) (b_X4_find_2 N K σ x1 x3) := by
  unfold b_X4_find_2
  exact (kf_ite9 (kF_X4_find_38 N σ) (kf_ite9 (kF_X4_find_38 N σ) (kf_ite9 (kf_ite9 (kf_some (rfl)) (hMK σ x1 (x3 + 1))) kf_none9)))
theorem kF_X4_find_2 (N : Nat) : ∀ (n : Nat) (σ : CS) (x1 : Int64) (x3 : Int32), Kf (CS.i σ 32) (f_X4_find_2 N n σ x1 x3)
  | 0, _, _, _ => kf_none9
  | n+1, σ, x1, x3 => kFb_X4_find_2 N (f_X4_find_2 N n) (fun σ x1 x3 => kF_X4_find_2 N n σ x1 x3) σ x1 x3
theorem kF_X4_find (N : Nat) (σ : CS) (x1 : Int64) : Kf (CS.i σ 32) (f_X4_find N σ x1) := by
  unfold f_X4_find
  exact (kF_X4_find_2 N N σ x1 0)
theorem kF_X4_cellOf (N : Nat) (σ : CS) (x1 : Int32) : Kf (CS.i σ 32) (f_X4_cellOf N σ x1) := by
  unfold f_X4_cellOf
  exact (kf_some (rfl))
theorem kF_X1_loadName (N : Nat) (σ : CS) : Kf (CS.i σ 32) (f_X1_loadName N σ) := by
  unfold f_X1_loadName
  exact (kf_bind9 (kF_X4_find N σ σ.l) (fun p1 => (kf_ite9 (kf_bind9 (kF_X4_cellOf N p1.2 p1.1) (fun p6 => (kf_bind9 (kF_X0_add N p6.2 1 p6.1) (fun p10 => (kf_bind9 (kF_X9_advance N p10.2) (fun p14 => (kf_some (rfl)))))))) (kf_bind9 (kF_X1_fail N p1.2 3 (p1.2.i 44)) (fun p18 => (kf_some (rfl)))))))
theorem kF_X1_negated_17 (N : Nat) (E1 : CS → Option (Unit × CS)) (E2 : CS → Option (Int32 × CS)) (hm1 : ∀ σ, Kf (CS.i σ 32) (E1 σ)) (hm2 : ∀ σ, Kf (CS.i σ 32) (E2 σ)) (σ : CS) : Kf (CS.i σ 32) (f_X1_negated_17 N E1 E2 σ ) := by
  unfold f_X1_negated_17
  exact (kf_bind9 (kF_X0_add N (CS.setI σ 34 ((σ.i 34) - 1)) 4 0) (fun p6 => (kf_some (rfl))))
theorem kF_X1_negated (N : Nat) (E1 : CS → Option (Unit × CS)) (E2 : CS → Option (Int32 × CS)) (hm1 : ∀ σ, Kf (CS.i σ 32) (E1 σ)) (hm2 : ∀ σ, Kf (CS.i σ 32) (E2 σ)) (σ : CS) : Kf (CS.i σ 32) (f_X1_negated N E1 E2 σ) := by
  unfold f_X1_negated
  exact (kf_bind9 (kF_X1_open N σ 45) (fun p1 => (kf_ite9 (kf_bind9 (hm1 p1.2) (fun p10 => (kF_X1_negated_17 N E1 E2 hm1 hm2 p10.2))) (kF_X1_negated_17 N E1 E2 hm1 hm2 p1.2))))
theorem kF_X1_caseNumber_44 (N : Nat) (σ : CS) (x1 : Int32) (x2 : Int32) (x4 : Int32) : Kf (CS.i σ 32) (f_X1_caseNumber_44 N σ x1 x2 x4) := by
  unfold f_X1_caseNumber_44
  exact (kf_bind9 (kF_X0_hasCase N σ x1 x4) (fun p11 => (kf_ite9 (kf_bind9 (kF_X0_addCase N p11.2 x4 x2) (fun p16 => (kf_bind9 (kF_X9_advance N p16.2) (fun p20 => (kf_some (rfl)))))) (kf_bind9 (kF_X1_fail N p11.2 4 (p11.2.i 44)) (fun p24 => (kf_some (rfl)))))))
theorem kF_X1_caseNumber (N : Nat) (σ : CS) (x1 : Int32) (x2 : Int32) : Kf (CS.i σ 32) (f_X1_caseNumber N σ x1 x2) := by
  unfold f_X1_caseNumber
  exact (kf_bind9 (kF_X1_skip N σ 45) (fun p1 => (kf_bind9 (kF_X1_found N p1.2 1) (fun p5 => (kf_ite9 (kf_bind9 (kF_X1_misplaced N p5.2) (fun p28 => (kf_some (rfl)))) (kf_ite9 (kF_X1_caseNumber_44 N p5.2 x1 x2 (p5.2.i 45)) (kF_X1_caseNumber_44 N p5.2 x1 x2 (-(p5.2.i 45)))))))))
theorem kF_X5_init (N : Nat) (σ : CS) (x0 : Nat) : Kf (CS.i σ 32) (f_X5_init N σ x0) := by
  unfold f_X5_init
  exact (kf_some (rfl))
theorem kF_X6_push_48 (N : Nat) (σ : CS) (x1 : Int32) (x2 : Int32) (x3 : Int32) (x4 : Int32) (x5 : Nat) : Kf (CS.i σ 32) (f_X6_push_48 N σ x1 x2 x3 x4 x5) := by
  unfold f_X6_push_48
  exact (kf_ite9 (kf_some (rfl)) kf_none9)
theorem kF_X6_push (N : Nat) (σ : CS) (x1 : Int32) (x2 : Int32) (x3 : Int32) : Kf (CS.i σ 32) (f_X6_push N σ x1 x2 x3) := by
  unfold f_X6_push
  exact (kf_ite9 (kf_oc9 (kf_le9 (rfl) (kf_bind9 (kF_X5_init N (CS.new σ 0) (CS.hs σ)) (fun p5 => (kf_ite9 (kf_ite9 (kF_X6_push_48 N (CS.setR p5.2 51 (((if (399 : Int32) < (σ.i 53) then (399 : Int32) else (σ.i 53)) : Int32).toNatClampNeg) (some (CS.hs σ))) x1 x2 x3 (if (399 : Int32) < (σ.i 53) then (399 : Int32) else (σ.i 53)) (CS.hs σ)) kf_none9) kf_none9)))) (fun a3 => (kF_X6_push_48 N σ x1 x2 x3 (if (399 : Int32) < (σ.i 53) then (399 : Int32) else (σ.i 53)) a3))) kf_none9)
theorem kF_X6_row_30 (N : Nat) (σ : CS) : Kf (CS.i σ 32) (f_X6_row_30 N σ ) := by
  unfold f_X6_row_30
  exact (kf_some (rfl))
theorem kF_X6_row (N : Nat) (σ : CS) (x1 : Int32) : Kf (CS.i σ 32) (f_X6_row N σ x1) := by
  unfold f_X6_row
  exact (kf_ite9 (kF_X6_row_30 N σ) (kf_ite9 (kF_X6_row_30 N σ) (kf_ite9 (kF_X6_row_30 N σ) (kf_ite9 (kf_oc9 (kf_some (rfl)) (fun a6 => (kf_some (rfl)))) kf_none9))))
theorem kF_X5_isLoop_40 (N : Nat) (σ : CS) : Kf (CS.i σ 32) (f_X5_isLoop_40 N σ ) := by
  unfold f_X5_isLoop_40
  exact (kf_some (rfl))
theorem kF_X5_isLoop (N : Nat) (σ : CS) (x0 : Nat) : Kf (CS.i σ 32) (f_X5_isLoop N σ x0) := by
  unfold f_X5_isLoop
  exact (kf_ite9 (kf_ite9 (kF_X5_isLoop_40 N σ) (kf_ite9 (kF_X5_isLoop_40 N σ) (kf_ite9 (kF_X5_isLoop_40 N σ) (kf_ite9 (kF_X5_isLoop_40 N σ) (kf_some (rfl)))))) kf_none9)
theorem kF_X5_hasOneBody_37 (N : Nat) (σ : CS) : Kf (CS.i σ 32) (f_X5_hasOneBody_37 N σ ) := by
  unfold f_X5_hasOneBody_37
  exact (kf_some (rfl))
theorem kF_X5_hasOneBody (N : Nat) (σ : CS) (x0 : Nat) : Kf (CS.i σ 32) (f_X5_hasOneBody N σ x0) := by
  unfold f_X5_hasOneBody
  exact (kf_ite9 (kf_bind9 (kF_X5_isLoop N σ x0) (fun p3 => (kf_ite9 (kf_ite9 (kf_ite9 (kF_X5_hasOneBody_37 N p3.2) (kf_ite9 (kF_X5_hasOneBody_37 N p3.2) (kf_ite9 (kF_X5_hasOneBody_37 N p3.2) (kf_some (rfl))))) kf_none9) (kF_X5_hasOneBody_37 N p3.2)))) kf_none9)
theorem kF_X6_pop (N : Nat) (σ : CS) : Kf (CS.i σ 32) (f_X6_pop N σ) := by
  unfold f_X6_pop
  exact (kf_some (rfl))
theorem kF_X7_endIf (N : Nat) (σ : CS) (x1 : Nat) : Kf (CS.i σ 32) (f_X7_endIf N σ x1) := by
  unfold f_X7_endIf
  exact (kf_bind9 (kF_X1_skip N σ 204) (fun p1 => (kf_ite9 (kf_ite9 (kf_bind9 (kF_X0_aim N p1.2 (CS.o p1.2 x1 10)) (fun p23 => (kf_bind9 (kF_X6_pop N (CS.setI p23.2 36 1)) (fun p27 => (kf_some (rfl)))))) kf_none9) (kf_ite9 (kf_ite9 (kf_bind9 (kF_X0_newTarget N (CS.setO (CS.setO (CS.setO p1.2 x1 0 204) x1 5 0) x1 6 (p1.2.i 36))) (fun p8 => (kf_ite9 (kf_bind9 (kF_X0_add N (CS.setO p8.2 x1 9 p8.1) 30 (CS.o (CS.setO p8.2 x1 9 p8.1) x1 9)) (fun p13 => (kf_ite9 (kf_bind9 (kF_X0_aim N p13.2 (CS.o p13.2 x1 10)) (fun p18 => (kf_some (rfl)))) kf_none9))) kf_none9))) kf_none9) kf_none9))))
theorem kF_X6_jumpTo (N : Nat) (σ : CS) (x0 : Nat) (x1 : Int32) : Kf (CS.i σ 32) (f_X6_jumpTo N σ x0 x1) := by
  unfold f_X6_jumpTo
  exact (kf_ite9 (kf_ite9 (kf_some (rfl)) (kf_some (rfl))) kf_none9)
theorem kFb_X6_isGoneTo_5 (N : Nat) (K : CS → Nat → Int32 → Int32 → Option (Int32 × CS)) (hMK : ∀ (σ : CS) (x1 : Nat) (x2 : Int32) (x3 : Int32), Kf (CS.i σ 32) (K σ x1 x2 x3)) (σ : CS) (x1 : Nat) (x2 : Int32) (x3 : Int32) : Kf (CS.i σ 32) (b_X6_isGoneTo_5 N K σ x1 x2 x3) := by
  unfold b_X6_isGoneTo_5
  exact (kf_ite9 (kf_some (rfl)) (kf_bind9 (kF_X6_jumpTo N σ x1 x2) (fun p4 => (kf_ite9 (kf_some (rfl)) (hMK p4.2 x1 x2 (x3 + 1))))))
theorem kF_X6_isGoneTo_5 (N : Nat) : ∀ (n : Nat) (σ : CS) (x1 : Nat) (x2 : Int32) (x3 : Int32), Kf (CS.i σ 32) (f_X6_isGoneTo_5 N n σ x1 x2 x3)
  | 0, _, _, _, _ => kf_none9
  | n+1, σ, x1, x2, x3 => kFb_X6_isGoneTo_5 N (f_X6_isGoneTo_5 N n) (fun σ x1 x2 x3 => kF_X6_isGoneTo_5 N n σ x1 x2 x3) σ x1 x2 x3
theorem kF_X6_isGoneTo (N : Nat) (σ : CS) (x1 : Nat) (x2 : Int32) : Kf (CS.i σ 32) (f_X6_isGoneTo N σ x1 x2) := by
  unfold f_X6_isGoneTo
  exact (kf_ite9 (kF_X6_isGoneTo_5 N N σ x1 x2 (CS.o σ x1 14)) kf_none9)
theorem kF_X1_conjunction_65 (N : Nat) (E1 : CS → Option (Unit × CS)) (E2 : CS → Option (Int32 × CS)) (hm1 : ∀ σ, Kf (CS.i σ 32) (E1 σ)) (hm2 : ∀ σ, Kf (CS.i σ 32) (E2 σ)) (σ : CS) (x2 : Int32) : Kf (CS.i σ 32) (f_X1_conjunction_65 N E1 E2 σ x2) := by
  unfold f_X1_conjunction_65
  exact (kf_bind9 (kF_X0_aim N σ x2) (fun p15 => (kf_some (rfl))))
theorem kFb_X1_conjunction_27 (N : Nat) (E1 : CS → Option (Unit × CS)) (E2 : CS → Option (Int32 × CS)) (hm1 : ∀ σ, Kf (CS.i σ 32) (E1 σ)) (hm2 : ∀ σ, Kf (CS.i σ 32) (E2 σ)) (K : CS → Int32 → Int32 → Option (Int32 × CS)) (hMK : ∀ (σ : CS) (x2 : Int32) (x3 : Int32), Kf (CS.i σ 32) (K σ x2 x3)) (σ : CS) (x2 : Int32) (x3 : Int32) : Kf (CS.i σ 32) (b_X1_conjunction_27 N E1 E2 K σ x2 x3) := by
  unfold b_X1_conjunction_27
  exact (kf_ite9 (kF_X1_conjunction_65 N E1 E2 hm1 hm2 σ x2) (kf_bind9 (kF_X1_skip N σ 132) (fun p19 => (kf_ite9 (kF_X1_conjunction_65 N E1 E2 hm1 hm2 p19.2 x2) (kf_bind9 (kF_X0_add N p19.2 32 x2) (fun p24 => (kf_bind9 (hm2 p24.2) (fun p28 => (hMK p28.2 x2 (x3 + 1))))))))))
theorem kF_X1_conjunction_27 (N : Nat) (E1 : CS → Option (Unit × CS)) (E2 : CS → Option (Int32 × CS)) (hm1 : ∀ σ, Kf (CS.i σ 32) (E1 σ)) (hm2 : ∀ σ, Kf (CS.i σ 32) (E2 σ)) : ∀ (n : Nat) (σ : CS) (x2 : Int32) (x3 : Int32), Kf (CS.i σ 32) (f_X1_conjunction_27 N E1 E2 n σ x2 x3)
  | 0, _, _, _ => kf_none9
  | n+1, σ, x2, x3 => kFb_X1_conjunction_27 N E1 E2 hm1 hm2 (f_X1_conjunction_27 N E1 E2 n) (fun σ x2 x3 => kF_X1_conjunction_27 N E1 E2 hm1 hm2 n σ x2 x3) σ x2 x3
theorem kF_X1_conjunction (N : Nat) (E1 : CS → Option (Unit × CS)) (E2 : CS → Option (Int32 × CS)) (hm1 : ∀ σ, Kf (CS.i σ 32) (E1 σ)) (hm2 : ∀ σ, Kf (CS.i σ 32) (E2 σ)) (σ : CS) : Kf (CS.i σ 32) (f_X1_conjunction N E1 E2 σ) := by
  unfold f_X1_conjunction
  exact (kf_bind9 (hm2 σ) (fun p1 => (kf_bind9 (kF_X1_found N p1.2 132) (fun p5 => (kf_ite9 (kf_ite9 (kf_some (rfl)) kf_none9) (kf_bind9 (kF_X0_newTarget N p5.2) (fun p10 => (kF_X1_conjunction_27 N E1 E2 hm1 hm2 N p10.2 p10.1 0))))))))
theorem kF_X1_condition_65 (N : Nat) (E1 : CS → Option (Unit × CS)) (E2 : CS → Option (Int32 × CS)) (hm1 : ∀ σ, Kf (CS.i σ 32) (E1 σ)) (hm2 : ∀ σ, Kf (CS.i σ 32) (E2 σ)) (σ : CS) (x2 : Int32) : Kf (CS.i σ 32) (f_X1_condition_65 N E1 E2 σ x2) := by
  unfold f_X1_condition_65
  exact (kf_bind9 (kF_X0_aim N σ x2) (fun p15 => (kf_some (rfl))))
theorem kFb_X1_condition_27 (N : Nat) (E1 : CS → Option (Unit × CS)) (E2 : CS → Option (Int32 × CS)) (hm1 : ∀ σ, Kf (CS.i σ 32) (E1 σ)) (hm2 : ∀ σ, Kf (CS.i σ 32) (E2 σ)) (K : CS → Int32 → Int32 → Option (Int32 × CS)) (hMK : ∀ (σ : CS) (x2 : Int32) (x3 : Int32), Kf (CS.i σ 32) (K σ x2 x3)) (σ : CS) (x2 : Int32) (x3 : Int32) : Kf (CS.i σ 32) (b_X1_condition_27 N E1 E2 K σ x2 x3) := by
  unfold b_X1_condition_27
  exact (kf_ite9 (kF_X1_condition_65 N E1 E2 hm1 hm2 σ x2) (kf_bind9 (kF_X1_skip N σ 133) (fun p19 => (kf_ite9 (kF_X1_condition_65 N E1 E2 hm1 hm2 p19.2 x2) (kf_bind9 (kF_X0_add N p19.2 33 x2) (fun p24 => (kf_bind9 (kF_X1_conjunction N E1 E2 hm1 hm2 p24.2) (fun p28 => (hMK p28.2 x2 (x3 + 1))))))))))
theorem kF_X1_condition_27 (N : Nat) (E1 : CS → Option (Unit × CS)) (E2 : CS → Option (Int32 × CS)) (hm1 : ∀ σ, Kf (CS.i σ 32) (E1 σ)) (hm2 : ∀ σ, Kf (CS.i σ 32) (E2 σ)) : ∀ (n : Nat) (σ : CS) (x2 : Int32) (x3 : Int32), Kf (CS.i σ 32) (f_X1_condition_27 N E1 E2 n σ x2 x3)
  | 0, _, _, _ => kf_none9
  | n+1, σ, x2, x3 => kFb_X1_condition_27 N E1 E2 hm1 hm2 (f_X1_condition_27 N E1 E2 n) (fun σ x2 x3 => kF_X1_condition_27 N E1 E2 hm1 hm2 n σ x2 x3) σ x2 x3
theorem kF_X1_condition (N : Nat) (E1 : CS → Option (Unit × CS)) (E2 : CS → Option (Int32 × CS)) (hm1 : ∀ σ, Kf (CS.i σ 32) (E1 σ)) (hm2 : ∀ σ, Kf (CS.i σ 32) (E2 σ)) (σ : CS) : Kf (CS.i σ 32) (f_X1_condition N E1 E2 σ) := by
  unfold f_X1_condition
  exact (kf_bind9 (kF_X1_conjunction N E1 E2 hm1 hm2 σ) (fun p1 => (kf_bind9 (kF_X1_found N p1.2 133) (fun p5 => (kf_ite9 (kf_ite9 (kf_some (rfl)) kf_none9) (kf_bind9 (kF_X0_newTarget N p5.2) (fun p10 => (kF_X1_condition_27 N E1 E2 hm1 hm2 N p10.2 p10.1 0))))))))
theorem kF_X7_conditionInside (N : Nat) (E1 : CS → Option (Unit × CS)) (E2 : CS → Option (Int32 × CS)) (hm1 : ∀ σ, Kf (CS.i σ 32) (E1 σ)) (hm2 : ∀ σ, Kf (CS.i σ 32) (E2 σ)) (σ : CS) : Kf (CS.i σ 32) (f_X7_conditionInside N E1 E2 σ) := by
  unfold f_X7_conditionInside
  exact (kf_bind9 (kF_X1_open N σ 40) (fun p1 => (kf_bind9 (kF_X1_condition N E1 E2 hm1 hm2 p1.2) (fun p5 => (kf_bind9 (kF_X1_close N p5.2 41) (fun p9 => (kf_ite9 (kf_some (rfl)) kf_none9)))))))
theorem kF_X7_endDo_25 (N : Nat) (E1 : CS → Option (Unit × CS)) (E2 : CS → Option (Int32 × CS)) (hm1 : ∀ σ, Kf (CS.i σ 32) (E1 σ)) (hm2 : ∀ σ, Kf (CS.i σ 32) (E2 σ)) (σ : CS) (x1 : Nat) (x2 : Int32) : Kf (CS.i σ 32) (f_X7_endDo_25 N E1 E2 σ x1 x2) := by
  unfold f_X7_endDo_25
  exact (kf_bind9 (kF_X1_expect N σ 205) (fun p2 => (kf_ite9 (kf_bind9 (kF_X0_aim N p2.2 (CS.o p2.2 x1 10)) (fun p7 => (kf_bind9 (kF_X7_conditionInside N E1 E2 hm1 hm2 p7.2) (fun p11 => (kf_bind9 (kF_X1_expect N p11.2 59) (fun p15 => (kf_ite9 (kf_bind9 (kF_X0_add N p15.2 31 (CS.o p15.2 x1 9)) (fun p20 => (kf_ite9 (kf_bind9 (kF_X0_add N p20.2 30 (CS.o p20.2 x1 11)) (fun p25 => (kf_ite9 (kf_bind9 (kF_X0_aim N p25.2 (CS.o p25.2 x1 9)) (fun p30 => (kf_ite9 (kf_bind9 (kF_X6_isGoneTo N p30.2 x1 0) (fun p35 => (kf_ite9 (kf_some (rfl)) (kf_some (rfl))))) (kf_ite9 (kf_some (rfl)) (kf_bind9 (kF_X6_isGoneTo N p30.2 x1 0) (fun p41 => (kf_ite9 (kf_some (rfl)) (kf_some (rfl))))))))) kf_none9))) kf_none9))) kf_none9))))))) kf_none9)))
theorem kF_X7_endDo_19 (N : Nat) (E1 : CS → Option (Unit × CS)) (E2 : CS → Option (Int32 × CS)) (hm1 : ∀ σ, Kf (CS.i σ 32) (E1 σ)) (hm2 : ∀ σ, Kf (CS.i σ 32) (E2 σ)) (σ : CS) (x1 : Nat) : Kf (CS.i σ 32) (f_X7_endDo_19 N E1 E2 σ x1) := by
  unfold f_X7_endDo_19
  exact (kF_X7_endDo_25 N E1 E2 hm1 hm2 σ x1 1)
theorem kF_X7_endDo (N : Nat) (E1 : CS → Option (Unit × CS)) (E2 : CS → Option (Int32 × CS)) (hm1 : ∀ σ, Kf (CS.i σ 32) (E1 σ)) (hm2 : ∀ σ, Kf (CS.i σ 32) (E2 σ)) (σ : CS) (x1 : Nat) : Kf (CS.i σ 32) (f_X7_endDo N E1 E2 σ x1) := by
  unfold f_X7_endDo
  exact (kf_ite9 (kf_bind9 (kF_X6_isGoneTo N σ x1 1) (fun p46 => (kf_ite9 (kF_X7_endDo_25 N E1 E2 hm1 hm2 p46.2 x1 0) (kF_X7_endDo_19 N E1 E2 hm1 hm2 p46.2 x1)))) (kF_X7_endDo_19 N E1 E2 hm1 hm2 σ x1))
theorem kF_X7_endBody_193 (N : Nat) (E1 : CS → Option (Unit × CS)) (E2 : CS → Option (Int32 × CS)) (hm1 : ∀ σ, Kf (CS.i σ 32) (E1 σ)) (hm2 : ∀ σ, Kf (CS.i σ 32) (E2 σ)) (σ : CS) (x1 : Nat) : Kf (CS.i σ 32) (f_X7_endBody_193 N E1 E2 σ x1) := by
  unfold f_X7_endBody_193
  exact (kf_ite9 (kf_bind9 (kF_X6_pop N (CS.setI σ 50 (CS.o σ x1 3))) (fun p14 => (kf_some (rfl)))) kf_none9)
theorem kF_X7_endBody_88 (N : Nat) (E1 : CS → Option (Unit × CS)) (E2 : CS → Option (Int32 × CS)) (hm1 : ∀ σ, Kf (CS.i σ 32) (E1 σ)) (hm2 : ∀ σ, Kf (CS.i σ 32) (E2 σ)) (σ : CS) (x1 : Nat) : Kf (CS.i σ 32) (f_X7_endBody_88 N E1 E2 σ x1) := by
  unfold f_X7_endBody_88
  exact (kF_X7_endBody_193 N E1 E2 hm1 hm2 σ x1)
theorem kF_X7_endBody_130 (N : Nat) (E1 : CS → Option (Unit × CS)) (E2 : CS → Option (Int32 × CS)) (hm1 : ∀ σ, Kf (CS.i σ 32) (E1 σ)) (hm2 : ∀ σ, Kf (CS.i σ 32) (E2 σ)) (σ : CS) (x1 : Nat) : Kf (CS.i σ 32) (f_X7_endBody_130 N E1 E2 σ x1) := by
  unfold f_X7_endBody_130
  exact (kF_X7_endBody_193 N E1 E2 hm1 hm2 σ x1)
theorem kF_X7_endBody (N : Nat) (E1 : CS → Option (Unit × CS)) (E2 : CS → Option (Int32 × CS)) (hm1 : ∀ σ, Kf (CS.i σ 32) (E1 σ)) (hm2 : ∀ σ, Kf (CS.i σ 32) (E2 σ)) (σ : CS) (x1 : Nat) : Kf (CS.i σ 32) (f_X7_endBody N E1 E2 σ x1) := by
  unfold f_X7_endBody
  exact (kf_ite9 (kf_ite9 (kf_bind9 (kF_X7_endIf N σ x1) (fun p3 => (kf_some (rfl)))) (kf_ite9 (kf_bind9 (kF_X0_aim N σ (CS.o σ x1 9)) (fun p8 => (kf_ite9 (kf_ite9 (kf_ite9 (kF_X7_endBody_88 N E1 E2 hm1 hm2 (CS.setI p8.2 36 0) x1) (kF_X7_endBody_88 N E1 E2 hm1 hm2 (CS.setI p8.2 36 1) x1)) kf_none9) (kF_X7_endBody_88 N E1 E2 hm1 hm2 (CS.setI p8.2 36 1) x1)))) (kf_ite9 (kf_bind9 (kF_X7_endDo N E1 E2 hm1 hm2 σ x1) (fun p21 => (kF_X7_endBody_193 N E1 E2 hm1 hm2 p21.2 x1))) (kf_ite9 (kf_bind9 (kF_X0_aim N σ (CS.o σ x1 9)) (fun p26 => (kf_ite9 (kf_bind9 (kF_X6_isGoneTo N p26.2 x1 0) (fun p31 => (kf_ite9 (kF_X7_endBody_130 N E1 E2 hm1 hm2 (CS.setI p31.2 36 0) x1) (kF_X7_endBody_130 N E1 E2 hm1 hm2 (CS.setI p31.2 36 1) x1)))) (kF_X7_endBody_130 N E1 E2 hm1 hm2 (CS.setI p26.2 36 1) x1)))) (kf_bind9 (kF_X0_add N σ 30 (CS.o σ x1 10)) (fun p36 => (kf_ite9 (kf_bind9 (kF_X0_aim N p36.2 (CS.o p36.2 x1 9)) (fun p41 => (kf_ite9 (kf_ite9 (kF_X7_endBody_193 N E1 E2 hm1 hm2 (CS.setI p41.2 36 1) x1) (kf_bind9 (kF_X6_isGoneTo N p41.2 x1 0) (fun p47 => (kf_ite9 (kF_X7_endBody_193 N E1 E2 hm1 hm2 (CS.setI p47.2 36 0) x1) (kF_X7_endBody_193 N E1 E2 hm1 hm2 (CS.setI p47.2 36 1) x1))))) kf_none9))) kf_none9))))))) kf_none9)
theorem kF_X7_notReached (N : Nat) (σ : CS) (x1 : Int32) : Kf (CS.i σ 32) (f_X7_notReached N σ x1) := by
  unfold f_X7_notReached
  exact (kf_ite9 (kf_some (rfl)) (kf_some (rfl)))
theorem kF_X4_isCaught (N : Nat) (σ : CS) (x1 : Int32) : Kf (CS.i σ 32) (f_X4_isCaught N σ x1) := by
  unfold f_X4_isCaught
  exact (kf_ite9 (kf_some (rfl)) (kf_some (rfl)))
theorem kF_X7_change_63 (N : Nat) (E1 : CS → Option (Unit × CS)) (E2 : CS → Option (Int32 × CS)) (hm1 : ∀ σ, Kf (CS.i σ 32) (E1 σ)) (hm2 : ∀ σ, Kf (CS.i σ 32) (E2 σ)) (σ : CS) (x3 : Int32) : Kf (CS.i σ 32) (f_X7_change_63 N E1 E2 σ x3) := by
  unfold f_X7_change_63
  exact (kf_bind9 (kF_X1_fail N σ 3 x3) (fun p11 => (kf_some (rfl))))
theorem kF_X7_change_72 (N : Nat) (E1 : CS → Option (Unit × CS)) (E2 : CS → Option (Int32 × CS)) (hm1 : ∀ σ, Kf (CS.i σ 32) (E1 σ)) (hm2 : ∀ σ, Kf (CS.i σ 32) (E2 σ)) (σ : CS) (x5 : Int32) (x6 : Int32) : Kf (CS.i σ 32) (f_X7_change_72 N E1 E2 σ x5 x6) := by
  unfold f_X7_change_72
  exact (kf_ite9 (kf_bind9 (kF_X1_misplaced N σ) (fun p46 => (kf_some (rfl)))) (kf_bind9 (kF_X1_skip N σ 135) (fun p17 => (kf_ite9 (kf_bind9 (kF_X9_advance N p17.2) (fun p22 => (kf_bind9 (kF_X1_expression N E1 E2 hm1 hm2 p22.2) (fun p26 => (kf_bind9 (kF_X4_cellOf N p26.2 x5) (fun p30 => (kf_bind9 (kF_X0_add N p30.2 2 p30.1) (fun p34 => (kf_some (rfl)))))))))) (kf_bind9 (kF_X4_cellOf N p17.2 x5) (fun p38 => (kf_bind9 (kF_X0_add N p38.2 3 p38.1) (fun p42 => (kf_some (rfl))))))))))
theorem kF_X7_change_41 (N : Nat) (E1 : CS → Option (Unit × CS)) (E2 : CS → Option (Int32 × CS)) (hm1 : ∀ σ, Kf (CS.i σ 32) (E1 σ)) (hm2 : ∀ σ, Kf (CS.i σ 32) (E2 σ)) (σ : CS) (x3 : Int32) (x5 : Int32) (x6 : Int32) : Kf (CS.i σ 32) (f_X7_change_41 N E1 E2 σ x3 x5 x6) := by
  unfold f_X7_change_41
  exact (kf_ite9 (kF_X7_change_63 N E1 E2 hm1 hm2 σ x3) (kf_ite9 (kF_X7_change_72 N E1 E2 hm1 hm2 σ x5 x6) (kf_bind9 (kF_X4_isCaught N σ x5) (fun p50 => (kf_ite9 (kF_X7_change_72 N E1 E2 hm1 hm2 p50.2 x5 x6) (kF_X7_change_63 N E1 E2 hm1 hm2 p50.2 x3))))))
theorem kF_X7_change_34 (N : Nat) (E1 : CS → Option (Unit × CS)) (E2 : CS → Option (Int32 × CS)) (hm1 : ∀ σ, Kf (CS.i σ 32) (E1 σ)) (hm2 : ∀ σ, Kf (CS.i σ 32) (E2 σ)) (σ : CS) (x3 : Int32) (x5 : Int32) : Kf (CS.i σ 32) (f_X7_change_34 N E1 E2 σ x3 x5) := by
  unfold f_X7_change_34
  exact (kF_X7_change_41 N E1 E2 hm1 hm2 σ x3 x5 1)
theorem kF_X7_change_38 (N : Nat) (E1 : CS → Option (Unit × CS)) (E2 : CS → Option (Int32 × CS)) (hm1 : ∀ σ, Kf (CS.i σ 32) (E1 σ)) (hm2 : ∀ σ, Kf (CS.i σ 32) (E2 σ)) (σ : CS) (x3 : Int32) (x5 : Int32) : Kf (CS.i σ 32) (f_X7_change_38 N E1 E2 σ x3 x5) := by
  unfold f_X7_change_38
  exact (kF_X7_change_41 N E1 E2 hm1 hm2 σ x3 x5 0)
theorem kF_X7_change (N : Nat) (E1 : CS → Option (Unit × CS)) (E2 : CS → Option (Int32 × CS)) (hm1 : ∀ σ, Kf (CS.i σ 32) (E1 σ)) (hm2 : ∀ σ, Kf (CS.i σ 32) (E2 σ)) (σ : CS) (x1 : Int64) (x3 : Int32) (x4 : Int32) : Kf (CS.i σ 32) (f_X7_change N E1 E2 σ x1 x3 x4) := by
  unfold f_X7_change
  exact (kf_bind9 (kF_X4_find N σ x1) (fun p1 => (kf_bind9 (kF_X1_found N p1.2 61) (fun p5 => (kf_ite9 (kf_ite9 (kF_X7_change_38 N E1 E2 hm1 hm2 p5.2 x3 p1.1) (kf_bind9 (kF_X1_found N p5.2 135) (fun p56 => (kf_ite9 (kF_X7_change_38 N E1 E2 hm1 hm2 p56.2 x3 p1.1) (kF_X7_change_34 N E1 E2 hm1 hm2 p56.2 x3 p1.1))))) (kF_X7_change_34 N E1 E2 hm1 hm2 p5.2 x3 p1.1))))))
theorem kFb_X6_labelled_7 (N : Nat) (K : CS → Int64 → Int32 → Option (Int32 × CS)) (hMK : ∀ (σ : CS) (x1 : Int64) (x3 : Int32), Kf (CS.i σ 32) (K σ x1 x3)) (σ : CS) (x1 : Int64) (x3 : Int32) : Kf (CS.i σ 32) (b_X6_labelled_7 N K σ x1 x3) := by
  unfold b_X6_labelled_7
  exact (kf_ite9 (kf_some (rfl)) (kf_bind9 (kF_X6_row N σ x3) (fun p2 => (kf_oc9 (hMK p2.2 x1 (x3 + (-1))) (fun a7 => (kf_ite9 (kf_ite9 (kf_ite9 (kf_some (rfl)) (hMK p2.2 x1 (x3 + (-1)))) (hMK p2.2 x1 (x3 + (-1)))) kf_none9))))))
theorem kF_X6_labelled_7 (N : Nat) : ∀ (n : Nat) (σ : CS) (x1 : Int64) (x3 : Int32), Kf (CS.i σ 32) (f_X6_labelled_7 N n σ x1 x3)
  | 0, _, _, _ => kf_none9
  | n+1, σ, x1, x3 => kFb_X6_labelled_7 N (f_X6_labelled_7 N n) (fun σ x1 x3 => kF_X6_labelled_7 N n σ x1 x3) σ x1 x3
theorem kF_X6_labelled (N : Nat) (σ : CS) (x1 : Int64) : Kf (CS.i σ 32) (f_X6_labelled N σ x1) := by
  unfold f_X6_labelled
  exact (kF_X6_labelled_7 N N σ x1 ((σ.i 53) - 1))
theorem kF_X7_named_73 (N : Nat) (E1 : CS → Option (Unit × CS)) (E2 : CS → Option (Int32 × CS)) (hm1 : ∀ σ, Kf (CS.i σ 32) (E1 σ)) (hm2 : ∀ σ, Kf (CS.i σ 32) (E2 σ)) (σ : CS) (x1 : Int64) : Kf (CS.i σ 32) (f_X7_named_73 N E1 E2 σ x1) := by
  unfold f_X7_named_73
  exact (kf_bind9 (kF_X9_advance N σ) (fun p15 => (kf_bind9 (kF_X6_push N p15.2 303 (p15.2.i 38) (p15.2.i 50)) (fun p19 => (kf_oc9 kf_none9 (fun a24 => (kf_ite9 (kf_bind9 (kF_X0_newTarget N (CS.setOl p19.2 a24 x1)) (fun p26 => (kf_ite9 (kf_some (rfl)) kf_none9))) kf_none9)))))))
theorem kF_X7_named (N : Nat) (E1 : CS → Option (Unit × CS)) (E2 : CS → Option (Int32 × CS)) (hm1 : ∀ σ, Kf (CS.i σ 32) (E1 σ)) (hm2 : ∀ σ, Kf (CS.i σ 32) (E2 σ)) (σ : CS) : Kf (CS.i σ 32) (f_X7_named N E1 E2 σ) := by
  unfold f_X7_named
  exact (kf_bind9 (kF_X9_advance N σ) (fun p1 => (kf_bind9 (kF_X1_found N p1.2 58) (fun p5 => (kf_ite9 (kf_bind9 (kF_X0_add N p5.2 51 0) (fun p35 => (kf_bind9 (kF_X7_change N E1 E2 hm1 hm2 p35.2 σ.l (σ.i 44) 1) (fun p39 => (kf_bind9 (kF_X1_expect N p39.2 59) (fun p43 => (kf_some (rfl)))))))) (kf_bind9 (kF_X6_labelled N p5.2 σ.l) (fun p10 => (kf_ite9 (kF_X7_named_73 N E1 E2 hm1 hm2 p10.2 σ.l) (kf_bind9 (kF_X1_fail N p10.2 4 (σ.i 44)) (fun p31 => (kF_X7_named_73 N E1 E2 hm1 hm2 p31.2 σ.l)))))))))))
theorem kF_X7_newName_56 (N : Nat) (σ : CS) (x1 : Int64) : Kf (CS.i σ 32) (f_X7_newName_56 N σ x1) := by
  unfold f_X7_newName_56
  exact (kf_some (rfl))
theorem kF_X7_newName (N : Nat) (σ : CS) : Kf (CS.i σ 32) (f_X7_newName N σ) := by
  unfold f_X7_newName
  exact (kf_bind9 (kF_X1_found N σ 2) (fun p1 => (kf_ite9 (kf_bind9 (kF_X1_misplaced N p1.2) (fun p19 => (kF_X7_newName_56 N p19.2 σ.l))) (kf_bind9 (kF_X4_find N p1.2 σ.l) (fun p6 => (kf_ite9 (kf_bind9 (kF_X9_advance N p6.2) (fun p11 => (kF_X7_newName_56 N p11.2 σ.l))) (kf_bind9 (kF_X1_fail N p6.2 4 (p6.2.i 44)) (fun p15 => (kF_X7_newName_56 N p15.2 σ.l)))))))))
theorem kF_X4_add (N : Nat) (σ : CS) (x1 : Int64) (x3 : Int32) (x4 : Int32) : Kf (CS.i σ 32) (f_X4_add N σ x1 x3 x4) := by
  unfold f_X4_add
  exact (kf_ite9 (kf_some (rfl)) (kf_ite9 (kf_some (rfl)) kf_none9))
theorem kF_X7_tell (N : Nat) (σ : CS) (x1 : Int64) : Kf (CS.i σ 32) (f_X7_tell N σ x1) := by
  unfold f_X7_tell
  exact (kf_bind9 (kF_X0_newCells N σ 1) (fun p1 => (kf_bind9 (kF_X4_add N p1.2 x1 p1.1 (-1)) (fun p5 => (kf_some (rfl))))))
theorem kF_X7_define (N : Nat) (E1 : CS → Option (Unit × CS)) (E2 : CS → Option (Int32 × CS)) (hm1 : ∀ σ, Kf (CS.i σ 32) (E1 σ)) (hm2 : ∀ σ, Kf (CS.i σ 32) (E2 σ)) (σ : CS) (x1 : Int64) : Kf (CS.i σ 32) (f_X7_define N E1 E2 σ x1) := by
  unfold f_X7_define
  exact (kf_bind9 (kF_X1_expect N σ 61) (fun p1 => (kf_bind9 (kF_X1_expression N E1 E2 hm1 hm2 p1.2) (fun p5 => (kf_bind9 (kF_X7_tell N p5.2 x1) (fun p9 => (kf_bind9 (kF_X0_add N p9.2 2 p9.1) (fun p13 => (kf_some (rfl))))))))))
theorem kF_X6_loopBehind_47 (N : Nat) (σ : CS) : Kf (CS.i σ 32) (f_X6_loopBehind_47 N σ ) := by
  unfold f_X6_loopBehind_47
  exact (kf_some (rfl))
theorem kF_X6_loopBehind_32 (N : Nat) (σ : CS) (x2 : Int32) (x3 : Option Nat) : Kf (CS.i σ 32) (f_X6_loopBehind_32 N σ x2 x3) := by
  unfold f_X6_loopBehind_32
  exact (kf_oc9 (kF_X6_loopBehind_47 N σ) (fun a9 => (kf_ite9 (kf_bind9 (kF_X5_isLoop N σ a9) (fun p12 => (kf_ite9 (kF_X6_loopBehind_47 N p12.2) (kf_some (rfl))))) kf_none9)))
theorem kFb_X6_loopBehind_4 (N : Nat) (K : CS → Int32 → Option (Int32 × CS)) (hMK : ∀ (σ : CS) (x2 : Int32), Kf (CS.i σ 32) (K σ x2)) (σ : CS) (x2 : Int32) : Kf (CS.i σ 32) (b_X6_loopBehind_4 N K σ x2) := by
  unfold b_X6_loopBehind_4
  exact (kf_ite9 (kf_some (rfl)) (kf_bind9 (kF_X6_row N σ x2) (fun p2 => (kf_oc9 (kF_X6_loopBehind_32 N p2.2 x2 none) (fun a7 => (kf_ite9 (kf_ite9 (hMK p2.2 (x2 + 1)) (kF_X6_loopBehind_32 N p2.2 x2 (some a7))) kf_none9))))))
theorem kF_X6_loopBehind_4 (N : Nat) : ∀ (n : Nat) (σ : CS) (x2 : Int32), Kf (CS.i σ 32) (f_X6_loopBehind_4 N n σ x2)
  | 0, _, _ => kf_none9
  | n+1, σ, x2 => kFb_X6_loopBehind_4 N (f_X6_loopBehind_4 N n) (fun σ x2 => kF_X6_loopBehind_4 N n σ x2) σ x2
theorem kF_X6_loopBehind (N : Nat) (σ : CS) (x1 : Int32) : Kf (CS.i σ 32) (f_X6_loopBehind N σ x1) := by
  unfold f_X6_loopBehind
  exact (kF_X6_loopBehind_4 N N σ (x1 + 1))
theorem kF_X7_labelTarget_63 (N : Nat) (σ : CS) (x2 : Int32) : Kf (CS.i σ 32) (f_X7_labelTarget_63 N σ x2) := by
  unfold f_X7_labelTarget_63
  exact (kf_bind9 (kF_X9_advance N σ) (fun p7 => (kf_some (rfl))))
theorem kF_X7_labelTarget (N : Nat) (σ : CS) (x1 : Int32) : Kf (CS.i σ 32) (f_X7_labelTarget N σ x1) := by
  unfold f_X7_labelTarget
  exact (kf_bind9 (kF_X6_labelled N σ σ.l) (fun p1 => (kf_ite9 (kf_ite9 (kF_X7_labelTarget_63 N p1.2 p1.1) (kf_bind9 (kF_X6_loopBehind N p1.2 p1.1) (fun p11 => (kf_ite9 (kF_X7_labelTarget_63 N p11.2 p11.1) (kf_bind9 (kF_X1_fail N p11.2 5 (p11.2.i 44)) (fun p16 => (kF_X7_labelTarget_63 N p16.2 p11.1))))))) (kf_bind9 (kF_X1_fail N p1.2 3 (p1.2.i 44)) (fun p20 => (kF_X7_labelTarget_63 N p20.2 p1.1))))))
theorem kF_X6_nearest_46 (N : Nat) (σ : CS) (x2 : Int32) : Kf (CS.i σ 32) (f_X6_nearest_46 N σ x2) := by
  unfold f_X6_nearest_46
  exact (kf_some (rfl))
theorem kFb_X6_nearest_7 (N : Nat) (K : CS → Int32 → Int32 → Option (Int32 × CS)) (hMK : ∀ (σ : CS) (x1 : Int32) (x2 : Int32), Kf (CS.i σ 32) (K σ x1 x2)) (σ : CS) (x1 : Int32) (x2 : Int32) : Kf (CS.i σ 32) (b_X6_nearest_7 N K σ x1 x2) := by
  unfold b_X6_nearest_7
  exact (kf_ite9 (kf_some (rfl)) (kf_bind9 (kF_X6_row N σ x2) (fun p2 => (kf_oc9 (hMK p2.2 x1 (x2 + (-1))) (fun a7 => (kf_ite9 (kf_bind9 (kF_X5_isLoop N p2.2 a7) (fun p10 => (kf_ite9 (kf_ite9 (kf_ite9 (kf_ite9 (kF_X6_nearest_46 N p10.2 x2) (hMK p10.2 x1 (x2 + (-1)))) kf_none9) (hMK p10.2 x1 (x2 + (-1)))) (kF_X6_nearest_46 N p10.2 x2)))) kf_none9))))))
theorem kF_X6_nearest_7 (N : Nat) : ∀ (n : Nat) (σ : CS) (x1 : Int32) (x2 : Int32), Kf (CS.i σ 32) (f_X6_nearest_7 N n σ x1 x2)
  | 0, _, _, _ => kf_none9
  | n+1, σ, x1, x2 => kFb_X6_nearest_7 N (f_X6_nearest_7 N n) (fun σ x1 x2 => kF_X6_nearest_7 N n σ x1 x2) σ x1 x2
theorem kF_X6_nearest (N : Nat) (σ : CS) (x1 : Int32) : Kf (CS.i σ 32) (f_X6_nearest N σ x1) := by
  unfold f_X6_nearest
  exact (kF_X6_nearest_7 N N σ x1 ((σ.i 53) - 1))
theorem kF_X6_addJump (N : Nat) (σ : CS) (x1 : Nat) (x2 : Int32) : Kf (CS.i σ 32) (f_X6_addJump N σ x1 x2) := by
  unfold f_X6_addJump
  exact (kf_bind9 (kF_X6_jumpTo N σ x1 x2) (fun p1 => (kf_some (rfl))))
theorem kF_X7_leave (N : Nat) (σ : CS) (x1 : Int32) (x2 : Int32) : Kf (CS.i σ 32) (f_X7_leave N σ x1 x2) := by
  unfold f_X7_leave
  exact (kf_ite9 (kf_bind9 (kF_X0_add N σ 30 x1) (fun p6 => (kf_some (rfl)))) (kf_bind9 (kF_X0_add N σ 60 ((x1 * 32) + x2)) (fun p2 => (kf_some (rfl)))))
theorem kF_X7_jump_129 (N : Nat) (σ : CS) : Kf (CS.i σ 32) (f_X7_jump_129 N σ ) := by
  unfold f_X7_jump_129
  exact (kf_some (rfl))
theorem kF_X7_jump_72 (N : Nat) (σ : CS) (x1 : Int32) (x3 : Int32) : Kf (CS.i σ 32) (f_X7_jump_72 N σ x1 x3) := by
  unfold f_X7_jump_72
  exact (kf_bind9 (kF_X1_expect N σ 59) (fun p19 => (kf_bind9 (kF_X6_row N p19.2 x3) (fun p23 => (kf_oc9 (kF_X7_jump_129 N p23.2) (fun a28 => (kf_bind9 (kF_X6_addJump N p23.2 a28 x1) (fun p29 => (kf_ite9 (kf_ite9 (kf_bind9 (kF_X7_leave N p29.2 (CS.o p29.2 a28 9) (CS.o p29.2 a28 2)) (fun p35 => (kF_X7_jump_129 N p35.2))) kf_none9) (kf_ite9 (kf_bind9 (kF_X7_leave N p29.2 (CS.o p29.2 a28 10) (CS.o p29.2 a28 2)) (fun p40 => (kF_X7_jump_129 N p40.2))) kf_none9))))))))))
theorem kF_X7_jump (N : Nat) (σ : CS) : Kf (CS.i σ 32) (f_X7_jump N σ) := by
  unfold f_X7_jump
  exact (kf_bind9 (kF_X1_found N σ 209) (fun p1 => (kf_bind9 (kF_X9_advance N (CS.setI p1.2 26 ((p1.2.i 26) + 1))) (fun p5 => (kf_bind9 (kF_X1_found N p5.2 2) (fun p9 => (kf_ite9 (kf_bind9 (kF_X6_nearest N p9.2 p1.1) (fun p14 => (kf_ite9 (kF_X7_jump_72 N p14.2 p1.1 p14.1) (kf_bind9 (kF_X1_fail N p14.2 5 (p1.2.i 44)) (fun p44 => (kF_X7_jump_72 N p44.2 p1.1 p14.1)))))) (kf_bind9 (kF_X7_labelTarget N p9.2 p1.1) (fun p48 => (kF_X7_jump_72 N p48.2 p1.1 p48.1))))))))))
theorem kF_X7_giveBack_22 (N : Nat) (E1 : CS → Option (Unit × CS)) (E2 : CS → Option (Int32 × CS)) (hm1 : ∀ σ, Kf (CS.i σ 32) (E1 σ)) (hm2 : ∀ σ, Kf (CS.i σ 32) (E2 σ)) (σ : CS) : Kf (CS.i σ 32) (f_X7_giveBack_22 N E1 E2 σ ) := by
  unfold f_X7_giveBack_22
  exact (kf_bind9 (kF_X9_advance N σ) (fun p2 => (kf_bind9 (kF_X1_expression N E1 E2 hm1 hm2 p2.2) (fun p6 => (kf_bind9 (kF_X0_add N p6.2 62 0) (fun p10 => (kf_bind9 (kF_X1_expect N p10.2 59) (fun p14 => (kf_some (rfl))))))))))
theorem kF_X7_giveBack (N : Nat) (E1 : CS → Option (Unit × CS)) (E2 : CS → Option (Int32 × CS)) (hm1 : ∀ σ, Kf (CS.i σ 32) (E1 σ)) (hm2 : ∀ σ, Kf (CS.i σ 32) (E2 σ)) (σ : CS) : Kf (CS.i σ 32) (f_X7_giveBack N E1 E2 σ) := by
  unfold f_X7_giveBack
  exact (kf_ite9 (kF_X7_giveBack_22 N E1 E2 hm1 hm2 σ) (kf_bind9 (kF_X1_fail N σ 5 (σ.i 44)) (fun p18 => (kF_X7_giveBack_22 N E1 E2 hm1 hm2 p18.2))))
theorem kF_X7_yieldValue (N : Nat) (E1 : CS → Option (Unit × CS)) (E2 : CS → Option (Int32 × CS)) (hm1 : ∀ σ, Kf (CS.i σ 32) (E1 σ)) (hm2 : ∀ σ, Kf (CS.i σ 32) (E2 σ)) (σ : CS) : Kf (CS.i σ 32) (f_X7_yieldValue N E1 E2 σ) := by
  unfold f_X7_yieldValue
  exact (kf_bind9 (kF_X6_row N σ (σ.i 56)) (fun p1 => (kf_oc9 (kf_bind9 (kF_X1_fail N p1.2 5 (p1.2.i 44)) (fun p7 => (kf_some (rfl)))) (fun a6 => (kf_bind9 (kF_X9_advance N p1.2) (fun p11 => (kf_bind9 (kF_X1_expression N E1 E2 hm1 hm2 p11.2) (fun p15 => (kf_ite9 (kf_bind9 (kF_X0_add N p15.2 61 (((CS.o p15.2 a6 9) * 32) + (CS.o p15.2 a6 2))) (fun p20 => (kf_bind9 (kF_X1_expect N p20.2 59) (fun p24 => (kf_some (rfl)))))) kf_none9)))))))))
theorem kF_X10_isKind_16 (N : Nat) (σ : CS) : Kf (CS.i σ 32) (f_X10_isKind_16 N σ ) := by
  unfold f_X10_isKind_16
  exact (kf_some (rfl))
theorem kF_X10_isKind (N : Nat) (σ : CS) (x1 : Int32) : Kf (CS.i σ 32) (f_X10_isKind N σ x1) := by
  unfold f_X10_isKind
  exact (kf_ite9 (kF_X10_isKind_16 N σ) (kf_ite9 (kF_X10_isKind_16 N σ) (kf_some (rfl))))
theorem kF_X4_frameOf (N : Nat) (σ : CS) (x1 : Int32) : Kf (CS.i σ 32) (f_X4_frameOf N σ x1) := by
  unfold f_X4_frameOf
  exact (kf_some (rfl))
theorem kF_X7_throwOne_152 (N : Nat) (E1 : CS → Option (Unit × CS)) (E2 : CS → Option (Int32 × CS)) (hm1 : ∀ σ, Kf (CS.i σ 32) (E1 σ)) (hm2 : ∀ σ, Kf (CS.i σ 32) (E2 σ)) (σ : CS) : Kf (CS.i σ 32) (f_X7_throwOne_152 N E1 E2 σ ) := by
  unfold f_X7_throwOne_152
  exact (kf_bind9 (kF_X1_expect N σ 59) (fun p19 => (kf_some (rfl))))
theorem kF_X7_throwOne_108 (N : Nat) (E1 : CS → Option (Unit × CS)) (E2 : CS → Option (Int32 × CS)) (hm1 : ∀ σ, Kf (CS.i σ 32) (E1 σ)) (hm2 : ∀ σ, Kf (CS.i σ 32) (E2 σ)) (σ : CS) : Kf (CS.i σ 32) (f_X7_throwOne_108 N E1 E2 σ ) := by
  unfold f_X7_throwOne_108
  exact (kf_bind9 (kF_X1_fail N σ 3 (σ.i 44)) (fun p28 => (kf_some (rfl))))
theorem kF_X7_throwOne_46 (N : Nat) (E1 : CS → Option (Unit × CS)) (E2 : CS → Option (Int32 × CS)) (hm1 : ∀ σ, Kf (CS.i σ 32) (E1 σ)) (hm2 : ∀ σ, Kf (CS.i σ 32) (E2 σ)) (σ : CS) (x1 : Int32) : Kf (CS.i σ 32) (f_X7_throwOne_46 N E1 E2 σ x1) := by
  unfold f_X7_throwOne_46
  exact (kf_bind9 (kF_X9_advance N σ) (fun p54 => (kf_bind9 (kF_X1_expression N E1 E2 hm1 hm2 p54.2) (fun p58 => (kf_bind9 (kF_X0_add N p58.2 63 x1) (fun p62 => (kF_X7_throwOne_152 N E1 E2 hm1 hm2 p62.2)))))))
theorem kF_X7_throwOne (N : Nat) (E1 : CS → Option (Unit × CS)) (E2 : CS → Option (Int32 × CS)) (hm1 : ∀ σ, Kf (CS.i σ 32) (E1 σ)) (hm2 : ∀ σ, Kf (CS.i σ 32) (E2 σ)) (σ : CS) : Kf (CS.i σ 32) (f_X7_throwOne N E1 E2 σ) := by
  unfold f_X7_throwOne
  exact (kf_bind9 (kF_X9_advance N σ) (fun p1 => (kf_bind9 (kF_X1_found N p1.2 5) (fun p5 => (kf_ite9 (kf_bind9 (kF_X1_found N p5.2 2) (fun p10 => (kf_ite9 (kf_bind9 (kF_X1_misplaced N p10.2) (fun p15 => (kF_X7_throwOne_152 N E1 E2 hm1 hm2 p15.2))) (kf_bind9 (kF_X4_find N p10.2 p10.2.l) (fun p23 => (kf_ite9 (kF_X7_throwOne_108 N E1 E2 hm1 hm2 p23.2) (kf_bind9 (kF_X4_isCaught N p23.2 p23.1) (fun p32 => (kf_ite9 (kF_X7_throwOne_108 N E1 E2 hm1 hm2 p32.2) (kf_bind9 (kF_X4_frameOf N p32.2 p23.1) (fun p37 => (kf_bind9 (kF_X0_add N p37.2 64 p37.1) (fun p41 => (kf_bind9 (kF_X9_advance N p41.2) (fun p45 => (kF_X7_throwOne_152 N E1 E2 hm1 hm2 p45.2)))))))))))))))) (kf_bind9 (kF_X10_isKind N p5.2 (p5.2.i 45)) (fun p49 => (kf_ite9 (kf_bind9 (kF_X1_fail N p49.2 3 (p49.2.i 44)) (fun p66 => (kF_X7_throwOne_46 N E1 E2 hm1 hm2 p66.2 (p5.2.i 45)))) (kF_X7_throwOne_46 N E1 E2 hm1 hm2 p49.2 (p5.2.i 45))))))))))
theorem kF_X7_claim_74 (N : Nat) (E1 : CS → Option (Unit × CS)) (E2 : CS → Option (Int32 × CS)) (hm1 : ∀ σ, Kf (CS.i σ 32) (E1 σ)) (hm2 : ∀ σ, Kf (CS.i σ 32) (E2 σ)) (σ : CS) (x1 : Int32) : Kf (CS.i σ 32) (f_X7_claim_74 N E1 E2 σ x1) := by
  unfold f_X7_claim_74
  exact (kf_bind9 (kF_X0_add N σ 63 3) (fun p34 => (kf_bind9 (kF_X0_aim N p34.2 x1) (fun p38 => (kf_bind9 (kF_X1_expect N p38.2 59) (fun p42 => (kf_some (rfl))))))))
theorem kF_X7_claim (N : Nat) (E1 : CS → Option (Unit × CS)) (E2 : CS → Option (Int32 × CS)) (hm1 : ∀ σ, Kf (CS.i σ 32) (E1 σ)) (hm2 : ∀ σ, Kf (CS.i σ 32) (E2 σ)) (σ : CS) : Kf (CS.i σ 32) (f_X7_claim N E1 E2 σ) := by
  unfold f_X7_claim
  exact (kf_bind9 (kF_X0_newTarget N σ) (fun p1 => (kf_bind9 (kF_X9_advance N p1.2) (fun p5 => (kf_bind9 (kF_X0_add N p5.2 35 p1.1) (fun p9 => (kf_bind9 (kF_X1_condition N E1 E2 hm1 hm2 p9.2) (fun p13 => (kf_bind9 (kF_X0_add N p13.2 5 0) (fun p17 => (kf_bind9 (kF_X0_add N p17.2 31 p1.1) (fun p21 => (kf_bind9 (kF_X1_skip N p21.2 58) (fun p25 => (kf_ite9 (kf_bind9 (kF_X0_add N p25.2 0 0) (fun p30 => (kF_X7_claim_74 N E1 E2 hm1 hm2 p30.2 p1.1))) (kf_bind9 (kF_X1_expression N E1 E2 hm1 hm2 p25.2) (fun p46 => (kF_X7_claim_74 N E1 E2 hm1 hm2 p46.2 p1.1))))))))))))))))))
theorem kF_X7_beginIf (N : Nat) (E1 : CS → Option (Unit × CS)) (E2 : CS → Option (Int32 × CS)) (hm1 : ∀ σ, Kf (CS.i σ 32) (E1 σ)) (hm2 : ∀ σ, Kf (CS.i σ 32) (E2 σ)) (σ : CS) : Kf (CS.i σ 32) (f_X7_beginIf N E1 E2 σ) := by
  unfold f_X7_beginIf
  exact (kf_bind9 (kF_X0_newTarget N σ) (fun p1 => (kf_bind9 (kF_X9_advance N p1.2) (fun p5 => (kf_bind9 (kF_X7_conditionInside N E1 E2 hm1 hm2 p5.2) (fun p9 => (kf_bind9 (kF_X0_add N p9.2 31 p1.1) (fun p13 => (kf_bind9 (kF_X6_push N p13.2 203 (p13.2.i 38) (p13.2.i 50)) (fun p17 => (kf_oc9 kf_none9 (fun a22 => (kf_ite9 (kf_some (rfl)) kf_none9)))))))))))))
theorem kF_X7_pushLoop (N : Nat) (σ : CS) (x1 : Int32) (x2 : Int32) (x3 : Int32) : Kf (CS.i σ 32) (f_X7_pushLoop N σ x1 x2 x3) := by
  unfold f_X7_pushLoop
  exact (kf_bind9 (kF_X6_push N σ x1 (σ.i 38) (σ.i 50)) (fun p1 => (kf_oc9 kf_none9 (fun a6 => (kf_ite9 (kf_some (rfl)) kf_none9)))))
theorem kF_X7_beginWhile (N : Nat) (E1 : CS → Option (Unit × CS)) (E2 : CS → Option (Int32 × CS)) (hm1 : ∀ σ, Kf (CS.i σ 32) (E1 σ)) (hm2 : ∀ σ, Kf (CS.i σ 32) (E2 σ)) (σ : CS) : Kf (CS.i σ 32) (f_X7_beginWhile N E1 E2 σ) := by
  unfold f_X7_beginWhile
  exact (kf_bind9 (kF_X0_newTarget N σ) (fun p1 => (kf_bind9 (kF_X0_newTarget N p1.2) (fun p5 => (kf_bind9 (kF_X9_advance N p5.2) (fun p9 => (kf_bind9 (kF_X0_aim N p9.2 p1.1) (fun p13 => (kf_bind9 (kF_X7_conditionInside N E1 E2 hm1 hm2 p13.2) (fun p17 => (kf_bind9 (kF_X0_add N p17.2 31 p5.1) (fun p21 => (kf_bind9 (kF_X0_add N p21.2 51 0) (fun p25 => (kf_bind9 (kF_X7_pushLoop N p25.2 205 p1.1 p5.1) (fun p29 => (kf_oc9 kf_none9 (fun a34 => (kf_ite9 (kf_ite9 (kf_some (rfl)) kf_none9) kf_none9)))))))))))))))))))
theorem kF_X7_beginDo (N : Nat) (σ : CS) : Kf (CS.i σ 32) (f_X7_beginDo N σ) := by
  unfold f_X7_beginDo
  exact (kf_bind9 (kF_X0_newTarget N σ) (fun p1 => (kf_bind9 (kF_X0_newTarget N p1.2) (fun p5 => (kf_bind9 (kF_X7_pushLoop N p5.2 206 p1.1 p5.1) (fun p9 => (kf_oc9 (kf_bind9 (kF_X0_newTarget N p9.2) (fun p15 => kf_none9)) (fun a14 => (kf_bind9 (kF_X0_newTarget N p9.2) (fun p19 => (kf_ite9 (kf_bind9 (kF_X9_advance N (CS.setO p19.2 a14 11 p19.1)) (fun p24 => (kf_ite9 (kf_bind9 (kF_X0_aim N p24.2 (CS.o p24.2 a14 11)) (fun p29 => (kf_bind9 (kF_X0_add N p29.2 51 0) (fun p33 => (kf_some (rfl)))))) kf_none9))) kf_none9)))))))))))
theorem kF_X7_throwNull (N : Nat) (σ : CS) : Kf (CS.i σ 32) (f_X7_throwNull N σ) := by
  unfold f_X7_throwNull
  exact (kf_bind9 (kF_X0_add N σ 0 0) (fun p1 => (kf_bind9 (kF_X0_add N p1.2 63 1) (fun p5 => (kf_some (rfl))))))
theorem kF_X7_rowValues_60 (N : Nat) (E1 : CS → Option (Unit × CS)) (E2 : CS → Option (Int32 × CS)) (hm1 : ∀ σ, Kf (CS.i σ 32) (E1 σ)) (hm2 : ∀ σ, Kf (CS.i σ 32) (E2 σ)) (σ : CS) (x1 : Int32) : Kf (CS.i σ 32) (f_X7_rowValues_60 N E1 E2 σ x1) := by
  unfold f_X7_rowValues_60
  exact (kf_bind9 (kF_X0_newCells N σ (2 + x1)) (fun p11 => (kf_bind9 (kF_X0_add N p11.2 0 x1) (fun p15 => (kf_bind9 (kF_X0_add N p15.2 36 p11.1) (fun p19 => (kf_some (rfl))))))))
theorem kFb_X7_rowValues_31 (N : Nat) (E1 : CS → Option (Unit × CS)) (E2 : CS → Option (Int32 × CS)) (hm1 : ∀ σ, Kf (CS.i σ 32) (E1 σ)) (hm2 : ∀ σ, Kf (CS.i σ 32) (E2 σ)) (K : CS → Int32 → Int32 → Option (Int32 × CS)) (hMK : ∀ (σ : CS) (x1 : Int32) (x2 : Int32), Kf (CS.i σ 32) (K σ x1 x2)) (σ : CS) (x1 : Int32) (x2 : Int32) : Kf (CS.i σ 32) (b_X7_rowValues_31 N E1 E2 K σ x1 x2) := by
  unfold b_X7_rowValues_31
  exact (kf_ite9 (kF_X7_rowValues_60 N E1 E2 hm1 hm2 σ x1) (kf_bind9 (kF_X1_skip N σ 44) (fun p23 => (kf_ite9 (kF_X7_rowValues_60 N E1 E2 hm1 hm2 p23.2 x1) (kf_bind9 (kF_X1_expression N E1 E2 hm1 hm2 p23.2) (fun p28 => (hMK p28.2 (x1 + 1) (x2 + 1))))))))
theorem kF_X7_rowValues_31 (N : Nat) (E1 : CS → Option (Unit × CS)) (E2 : CS → Option (Int32 × CS)) (hm1 : ∀ σ, Kf (CS.i σ 32) (E1 σ)) (hm2 : ∀ σ, Kf (CS.i σ 32) (E2 σ)) : ∀ (n : Nat) (σ : CS) (x1 : Int32) (x2 : Int32), Kf (CS.i σ 32) (f_X7_rowValues_31 N E1 E2 n σ x1 x2)
  | 0, _, _, _ => kf_none9
  | n+1, σ, x1, x2 => kFb_X7_rowValues_31 N E1 E2 hm1 hm2 (f_X7_rowValues_31 N E1 E2 n) (fun σ x1 x2 => kF_X7_rowValues_31 N E1 E2 hm1 hm2 n σ x1 x2) σ x1 x2
theorem kF_X7_rowValues (N : Nat) (E1 : CS → Option (Unit × CS)) (E2 : CS → Option (Int32 × CS)) (hm1 : ∀ σ, Kf (CS.i σ 32) (E1 σ)) (hm2 : ∀ σ, Kf (CS.i σ 32) (E2 σ)) (σ : CS) : Kf (CS.i σ 32) (f_X7_rowValues N E1 E2 σ) := by
  unfold f_X7_rowValues
  exact (kf_bind9 (kF_X1_skip N σ 224) (fun p1 => (kf_ite9 (kf_bind9 (kF_X1_expression N E1 E2 hm1 hm2 p1.2) (fun p6 => (kF_X7_rowValues_31 N E1 E2 hm1 hm2 N p6.2 1 0))) (kf_bind9 (kF_X7_throwNull N p1.2) (fun p32 => (kf_bind9 (kF_X0_newCells N p32.2 2) (fun p36 => (kf_some (rfl)))))))))
theorem kF_X7_rowHead (N : Nat) (E1 : CS → Option (Unit × CS)) (E2 : CS → Option (Int32 × CS)) (hm1 : ∀ σ, Kf (CS.i σ 32) (E1 σ)) (hm2 : ∀ σ, Kf (CS.i σ 32) (E2 σ)) (σ : CS) (x1 : Int64) : Kf (CS.i σ 32) (f_X7_rowHead N E1 E2 σ x1) := by
  unfold f_X7_rowHead
  exact (kf_bind9 (kF_X0_newTarget N σ) (fun p1 => (kf_bind9 (kF_X0_newTarget N p1.2) (fun p5 => (kf_bind9 (kF_X9_advance N p5.2) (fun p9 => (kf_bind9 (kF_X7_rowValues N E1 E2 hm1 hm2 p9.2) (fun p13 => (kf_bind9 (kF_X1_close N p13.2 41) (fun p17 => (kf_bind9 (kF_X0_aim N p17.2 p1.1) (fun p21 => (kf_bind9 (kF_X0_add N p21.2 37 p13.1) (fun p25 => (kf_bind9 (kF_X0_add N p25.2 31 p5.1) (fun p29 => (kf_bind9 (kF_X0_add N p29.2 51 0) (fun p33 => (kf_bind9 (kF_X0_add N p33.2 38 p13.1) (fun p37 => (kf_bind9 (kF_X7_tell N p37.2 x1) (fun p41 => (kf_bind9 (kF_X0_add N p41.2 2 p41.1) (fun p45 => (kf_bind9 (kF_X7_pushLoop N p45.2 304 p1.1 p5.1) (fun p49 => (kf_oc9 (kf_some (rfl)) (fun a54 => (kf_some (rfl))))))))))))))))))))))))))))))
theorem kF_X7_changeHere (N : Nat) (E1 : CS → Option (Unit × CS)) (E2 : CS → Option (Int32 × CS)) (hm1 : ∀ σ, Kf (CS.i σ 32) (E1 σ)) (hm2 : ∀ σ, Kf (CS.i σ 32) (E2 σ)) (σ : CS) (x1 : Int32) : Kf (CS.i σ 32) (f_X7_changeHere N E1 E2 σ x1) := by
  unfold f_X7_changeHere
  exact (kf_bind9 (kF_X9_advance N σ) (fun p1 => (kf_bind9 (kF_X7_change N E1 E2 hm1 hm2 p1.2 σ.l (σ.i 44) x1) (fun p5 => (kf_some (rfl))))))
theorem kF_X7_forHead_113 (N : Nat) (E1 : CS → Option (Unit × CS)) (E2 : CS → Option (Int32 × CS)) (hm1 : ∀ σ, Kf (CS.i σ 32) (E1 σ)) (hm2 : ∀ σ, Kf (CS.i σ 32) (E2 σ)) (σ : CS) (x1 : Int32) (x2 : Int32) (x3 : Int32) (x4 : Int32) (x5 : Int32) : Kf (CS.i σ 32) (f_X7_forHead_113 N E1 E2 σ x1 x2 x3 x4 x5) := by
  unfold f_X7_forHead_113
  exact (kf_bind9 (kF_X1_close N σ 41) (fun p47 => (kf_bind9 (kF_X0_add N p47.2 30 x1) (fun p51 => (kf_bind9 (kF_X0_aim N p51.2 x3) (fun p55 => (kf_bind9 (kF_X0_add N p55.2 51 0) (fun p59 => (kf_bind9 (kF_X7_pushLoop N p59.2 207 x2 x4) (fun p63 => (kf_oc9 kf_none9 (fun a68 => (kf_ite9 (kf_ite9 (kf_some (rfl)) kf_none9) kf_none9)))))))))))))
theorem kF_X7_forHead_76 (N : Nat) (E1 : CS → Option (Unit × CS)) (E2 : CS → Option (Int32 × CS)) (hm1 : ∀ σ, Kf (CS.i σ 32) (E1 σ)) (hm2 : ∀ σ, Kf (CS.i σ 32) (E2 σ)) (σ : CS) (x1 : Int32) (x2 : Int32) (x3 : Int32) (x4 : Int32) (x5 : Int32) : Kf (CS.i σ 32) (f_X7_forHead_76 N E1 E2 σ x1 x2 x3 x4 x5) := by
  unfold f_X7_forHead_76
  exact (kf_bind9 (kF_X0_add N σ 30 x3) (fun p30 => (kf_bind9 (kF_X1_expect N p30.2 59) (fun p34 => (kf_bind9 (kF_X0_aim N p34.2 x2) (fun p38 => (kf_bind9 (kF_X1_found N p38.2 2) (fun p42 => (kf_ite9 (kF_X7_forHead_113 N E1 E2 hm1 hm2 p42.2 x1 x2 x3 x4 x5) (kf_bind9 (kF_X7_changeHere N E1 E2 hm1 hm2 p42.2 1) (fun p71 => (kF_X7_forHead_113 N E1 E2 hm1 hm2 p71.2 x1 x2 x3 x4 x5))))))))))))
theorem kF_X7_forHead (N : Nat) (E1 : CS → Option (Unit × CS)) (E2 : CS → Option (Int32 × CS)) (hm1 : ∀ σ, Kf (CS.i σ 32) (E1 σ)) (hm2 : ∀ σ, Kf (CS.i σ 32) (E2 σ)) (σ : CS) : Kf (CS.i σ 32) (f_X7_forHead N E1 E2 σ) := by
  unfold f_X7_forHead
  exact (kf_bind9 (kF_X0_newTarget N σ) (fun p1 => (kf_bind9 (kF_X0_newTarget N p1.2) (fun p5 => (kf_bind9 (kF_X0_newTarget N p5.2) (fun p9 => (kf_bind9 (kF_X0_newTarget N p9.2) (fun p13 => (kf_bind9 (kF_X1_expect N p13.2 59) (fun p17 => (kf_bind9 (kF_X0_aim N p17.2 p1.1) (fun p21 => (kf_bind9 (kF_X1_found N p21.2 59) (fun p25 => (kf_ite9 (kf_bind9 (kF_X1_condition N E1 E2 hm1 hm2 p25.2) (fun p75 => (kf_bind9 (kF_X0_add N p75.2 31 p13.1) (fun p79 => (kF_X7_forHead_76 N E1 E2 hm1 hm2 p79.2 p1.1 p5.1 p9.1 p13.1 p75.1))))) (kF_X7_forHead_76 N E1 E2 hm1 hm2 p25.2 p1.1 p5.1 p9.1 p13.1 1))))))))))))))))
theorem kF_X7_beginFor_85 (N : Nat) (E1 : CS → Option (Unit × CS)) (E2 : CS → Option (Int32 × CS)) (hm1 : ∀ σ, Kf (CS.i σ 32) (E1 σ)) (hm2 : ∀ σ, Kf (CS.i σ 32) (E2 σ)) (σ : CS) (x1 : Int32) (x2 : Option Nat) : Kf (CS.i σ 32) (f_X7_beginFor_85 N E1 E2 σ x1 x2) := by
  unfold f_X7_beginFor_85
  exact (kf_oc9 kf_none9 (fun a26 => (kf_ite9 (kf_some (rfl)) kf_none9)))
theorem kF_X7_beginFor_80 (N : Nat) (E1 : CS → Option (Unit × CS)) (E2 : CS → Option (Int32 × CS)) (hm1 : ∀ σ, Kf (CS.i σ 32) (E1 σ)) (hm2 : ∀ σ, Kf (CS.i σ 32) (E2 σ)) (σ : CS) (x1 : Int32) : Kf (CS.i σ 32) (f_X7_beginFor_80 N E1 E2 σ x1) := by
  unfold f_X7_beginFor_80
  exact (kf_bind9 (kF_X7_forHead N E1 E2 hm1 hm2 σ) (fun p19 => (kf_oc9 (kF_X7_beginFor_85 N E1 E2 hm1 hm2 p19.2 x1 none) (fun a24 => (kF_X7_beginFor_85 N E1 E2 hm1 hm2 p19.2 x1 (some a24))))))
theorem kF_X7_beginFor_64 (N : Nat) (E1 : CS → Option (Unit × CS)) (E2 : CS → Option (Int32 × CS)) (hm1 : ∀ σ, Kf (CS.i σ 32) (E1 σ)) (hm2 : ∀ σ, Kf (CS.i σ 32) (E2 σ)) (σ : CS) (x1 : Int32) (x2 : Option Nat) : Kf (CS.i σ 32) (f_X7_beginFor_64 N E1 E2 σ x1 x2) := by
  unfold f_X7_beginFor_64
  exact (kF_X7_beginFor_85 N E1 E2 hm1 hm2 σ x1 x2)
theorem kF_X7_beginFor (N : Nat) (E1 : CS → Option (Unit × CS)) (E2 : CS → Option (Int32 × CS)) (hm1 : ∀ σ, Kf (CS.i σ 32) (E1 σ)) (hm2 : ∀ σ, Kf (CS.i σ 32) (E2 σ)) (σ : CS) : Kf (CS.i σ 32) (f_X7_beginFor N E1 E2 σ) := by
  unfold f_X7_beginFor
  exact (kf_bind9 (kF_X9_advance N σ) (fun p1 => (kf_bind9 (kF_X1_open N p1.2 40) (fun p5 => (kf_bind9 (kF_X1_skip N p5.2 200) (fun p9 => (kf_ite9 (kf_bind9 (kF_X1_found N p9.2 2) (fun p14 => (kf_ite9 (kF_X7_beginFor_80 N E1 E2 hm1 hm2 p14.2 (σ.i 50)) (kf_bind9 (kF_X7_changeHere N E1 E2 hm1 hm2 p14.2 0) (fun p28 => (kF_X7_beginFor_80 N E1 E2 hm1 hm2 p28.2 (σ.i 50))))))) (kf_bind9 (kF_X7_newName N p9.2) (fun p32 => (kf_bind9 (kF_X1_found N p32.2 58) (fun p36 => (kf_ite9 (kf_bind9 (kF_X7_define N E1 E2 hm1 hm2 p36.2 p32.1) (fun p41 => (kf_bind9 (kF_X7_forHead N E1 E2 hm1 hm2 p41.2) (fun p45 => (kf_oc9 (kF_X7_beginFor_64 N E1 E2 hm1 hm2 p45.2 (σ.i 50) none) (fun a50 => (kF_X7_beginFor_64 N E1 E2 hm1 hm2 p45.2 (σ.i 50) (some a50)))))))) (kf_bind9 (kF_X7_rowHead N E1 E2 hm1 hm2 p36.2 p32.1) (fun p51 => (kf_oc9 (kF_X7_beginFor_64 N E1 E2 hm1 hm2 p51.2 (σ.i 50) none) (fun a56 => (kF_X7_beginFor_64 N E1 E2 hm1 hm2 p51.2 (σ.i 50) (some a56))))))))))))))))))
theorem kF_X7_beginLock_58 (N : Nat) (σ : CS) : Kf (CS.i σ 32) (f_X7_beginLock_58 N σ ) := by
  unfold f_X7_beginLock_58
  exact (kf_bind9 (kF_X1_close N σ 41) (fun p22 => (kf_bind9 (kF_X1_open N p22.2 123) (fun p26 => (kf_bind9 (kF_X6_push N p26.2 212 (p26.2.i 38) (p26.2.i 50)) (fun p30 => (kf_oc9 (kf_bind9 (kF_X0_newTarget N p30.2) (fun p36 => kf_none9)) (fun a35 => (kf_bind9 (kF_X0_newTarget N p30.2) (fun p40 => (kf_ite9 (kf_some (rfl)) kf_none9)))))))))))
theorem kF_X7_beginLock (N : Nat) (σ : CS) : Kf (CS.i σ 32) (f_X7_beginLock N σ) := by
  unfold f_X7_beginLock
  exact (kf_bind9 (kF_X9_advance N σ) (fun p1 => (kf_bind9 (kF_X1_open N p1.2 40) (fun p5 => (kf_bind9 (kF_X1_found N p5.2 3) (fun p9 => (kf_ite9 (kf_bind9 (kF_X1_expect N p9.2 224) (fun p14 => (kf_bind9 (kF_X7_throwNull N p14.2) (fun p18 => (kF_X7_beginLock_58 N p18.2))))) (kf_bind9 (kF_X0_add N p9.2 53 (p9.2.i 45)) (fun p45 => (kf_bind9 (kF_X9_advance N p45.2) (fun p49 => (kF_X7_beginLock_58 N p49.2))))))))))))
theorem kF_X7_beginSwitch (N : Nat) (E1 : CS → Option (Unit × CS)) (E2 : CS → Option (Int32 × CS)) (hm1 : ∀ σ, Kf (CS.i σ 32) (E1 σ)) (hm2 : ∀ σ, Kf (CS.i σ 32) (E2 σ)) (σ : CS) : Kf (CS.i σ 32) (f_X7_beginSwitch N E1 E2 σ) := by
  unfold f_X7_beginSwitch
  exact (kf_bind9 (kF_X9_advance N σ) (fun p1 => (kf_bind9 (kF_X1_open N p1.2 40) (fun p5 => (kf_bind9 (kF_X1_expression N E1 E2 hm1 hm2 p5.2) (fun p9 => (kf_bind9 (kF_X1_close N p9.2 41) (fun p13 => (kf_bind9 (kF_X1_open N p13.2 123) (fun p17 => (kf_bind9 (kF_X6_push N p17.2 218 (p17.2.i 38) (p17.2.i 50)) (fun p21 => (kf_oc9 (kf_bind9 (kF_X0_newTarget N p21.2) (fun p27 => kf_none9)) (fun a26 => (kf_bind9 (kF_X0_newTarget N p21.2) (fun p31 => (kf_ite9 (kf_bind9 (kF_X0_newTarget N (CS.setO p31.2 a26 10 p31.1)) (fun p36 => (kf_ite9 (kf_bind9 (kF_X0_add N (CS.setO (CS.setO p36.2 a26 9 p36.1) a26 13 (p36.2.i 22)) 30 (CS.o (CS.setO (CS.setO p36.2 a26 9 p36.1) a26 13 (p36.2.i 22)) a26 10)) (fun p41 => (kf_some (rfl)))) kf_none9))) kf_none9)))))))))))))))))
theorem kF_X7_openResource (N : Nat) (σ : CS) : Kf (CS.i σ 32) (f_X7_openResource N σ) := by
  unfold f_X7_openResource
  exact (kf_bind9 (kF_X1_found N σ 4) (fun p1 => (kf_ite9 (kf_bind9 (kF_X1_misplaced N p1.2) (fun p14 => (kf_some (rfl)))) (kf_bind9 (kF_X0_add N p1.2 55 (p1.2.i 45)) (fun p6 => (kf_bind9 (kF_X9_advance N p6.2) (fun p10 => (kf_some (rfl)))))))))
theorem kF_X7_beginTry_132 (N : Nat) (σ : CS) : Kf (CS.i σ 32) (f_X7_beginTry_132 N σ ) := by
  unfold f_X7_beginTry_132
  exact (kf_bind9 (kF_X1_open N σ 123) (fun p40 => (kf_some (rfl))))
theorem kFb_X7_beginTry_106 (N : Nat) (K : CS → Int32 → Option (Unit × CS)) (hMK : ∀ (σ : CS) (x2 : Int32), Kf (CS.i σ 32) (K σ x2)) (σ : CS) (x2 : Int32) : Kf (CS.i σ 32) (b_X7_beginTry_106 N K σ x2) := by
  unfold b_X7_beginTry_106
  exact (kf_ite9 (kF_X7_beginTry_132 N σ) (kf_bind9 (kF_X1_skip N σ 44) (fun p50 => (kf_ite9 (kF_X7_beginTry_132 N p50.2) (kf_bind9 (kF_X7_openResource N p50.2) (fun p55 => (hMK p55.2 (x2 + 1))))))))
theorem kF_X7_beginTry_106 (N : Nat) : ∀ (n : Nat) (σ : CS) (x2 : Int32), Kf (CS.i σ 32) (f_X7_beginTry_106 N n σ x2)
  | 0, _, _ => kf_none9
  | n+1, σ, x2 => kFb_X7_beginTry_106 N (f_X7_beginTry_106 N n) (fun σ x2 => kF_X7_beginTry_106 N n σ x2) σ x2
theorem kF_X7_beginTry (N : Nat) (σ : CS) : Kf (CS.i σ 32) (f_X7_beginTry N σ) := by
  unfold f_X7_beginTry
  exact (kf_bind9 (kF_X6_push N σ 213 (σ.i 38) (σ.i 50)) (fun p1 => (kf_oc9 (kf_bind9 (kF_X0_newTarget N p1.2) (fun p7 => kf_none9)) (fun a6 => (kf_bind9 (kF_X0_newTarget N p1.2) (fun p11 => (kf_ite9 (kf_bind9 (kF_X0_newTarget N (CS.setO p11.2 a6 10 p11.1)) (fun p16 => (kf_ite9 (kf_bind9 (kF_X0_newTarget N (CS.setO p16.2 a6 11 p16.1)) (fun p21 => (kf_ite9 (kf_bind9 (kF_X9_advance N (CS.setO p21.2 a6 9 p21.1)) (fun p26 => (kf_ite9 (kf_bind9 (kF_X0_add N p26.2 54 (CS.o p26.2 a6 10)) (fun p31 => (kf_bind9 (kF_X1_skip N (CS.setI p31.2 38 ((p31.2.i 38) + 1)) 214) (fun p35 => (kf_ite9 (kF_X7_beginTry_132 N p35.2) (kf_ite9 (kf_bind9 (kF_X7_openResource N (CS.setO p35.2 a6 8 1)) (fun p45 => (kF_X7_beginTry_106 N N p45.2 0))) kf_none9)))))) kf_none9))) kf_none9))) kf_none9))) kf_none9)))))))
theorem kF_X7_compound (N : Nat) (E1 : CS → Option (Unit × CS)) (E2 : CS → Option (Int32 × CS)) (hm1 : ∀ σ, Kf (CS.i σ 32) (E1 σ)) (hm2 : ∀ σ, Kf (CS.i σ 32) (E2 σ)) (σ : CS) : Kf (CS.i σ 32) (f_X7_compound N E1 E2 σ) := by
  unfold f_X7_compound
  exact (kf_ite9 (kf_bind9 (kF_X7_beginIf N E1 E2 hm1 hm2 σ) (fun p2 => (kf_some (rfl)))) (kf_ite9 (kf_bind9 (kF_X1_misplaced N σ) (fun p7 => (kf_some (rfl)))) (kf_ite9 (kf_bind9 (kF_X7_beginWhile N E1 E2 hm1 hm2 σ) (fun p12 => (kf_some (rfl)))) (kf_ite9 (kf_bind9 (kF_X7_beginDo N σ) (fun p17 => (kf_some (rfl)))) (kf_ite9 (kf_bind9 (kF_X7_beginFor N E1 E2 hm1 hm2 σ) (fun p22 => (kf_some (rfl)))) (kf_ite9 (kf_bind9 (kF_X1_misplaced N σ) (fun p27 => (kf_some (rfl)))) (kf_ite9 (kf_bind9 (kF_X1_misplaced N σ) (fun p32 => (kf_some (rfl)))) (kf_ite9 (kf_bind9 (kF_X1_misplaced N σ) (fun p37 => (kf_some (rfl)))) (kf_ite9 (kf_bind9 (kF_X1_misplaced N σ) (fun p42 => (kf_some (rfl)))) (kf_ite9 (kf_bind9 (kF_X7_beginLock N σ) (fun p47 => (kf_some (rfl)))) (kf_ite9 (kf_bind9 (kF_X7_beginTry N σ) (fun p52 => (kf_some (rfl)))) (kf_ite9 (kf_bind9 (kF_X1_misplaced N σ) (fun p57 => (kf_some (rfl)))) (kf_ite9 (kf_bind9 (kF_X1_misplaced N σ) (fun p62 => (kf_some (rfl)))) (kf_ite9 (kf_bind9 (kF_X1_misplaced N σ) (fun p67 => (kf_some (rfl)))) (kf_ite9 (kf_bind9 (kF_X1_misplaced N σ) (fun p72 => (kf_some (rfl)))) (kf_ite9 (kf_bind9 (kF_X7_beginSwitch N E1 E2 hm1 hm2 σ) (fun p77 => (kf_some (rfl)))) (kf_bind9 (kF_X1_misplaced N σ) (fun p81 => (kf_some (rfl))))))))))))))))))))
theorem kF_X7_plain (N : Nat) (E1 : CS → Option (Unit × CS)) (E2 : CS → Option (Int32 × CS)) (hm1 : ∀ σ, Kf (CS.i σ 32) (E1 σ)) (hm2 : ∀ σ, Kf (CS.i σ 32) (E2 σ)) (σ : CS) : Kf (CS.i σ 32) (f_X7_plain N E1 E2 σ) := by
  unfold f_X7_plain
  exact (kf_ite9 (kf_bind9 (kF_X9_advance N σ) (fun p2 => (kf_some (rfl)))) (kf_ite9 (kf_bind9 (kF_X9_advance N σ) (fun p7 => (kf_bind9 (kF_X7_newName N p7.2) (fun p11 => (kf_bind9 (kF_X7_define N E1 E2 hm1 hm2 p11.2 p11.1) (fun p15 => (kf_bind9 (kF_X1_expect N p15.2 59) (fun p19 => (kf_some (rfl)))))))))) (kf_ite9 (kf_bind9 (kF_X9_advance N σ) (fun p24 => (kf_bind9 (kF_X7_newName N p24.2) (fun p28 => (kf_bind9 (kF_X7_define N E1 E2 hm1 hm2 p28.2 p28.1) (fun p32 => (kf_bind9 (kF_X1_expect N p32.2 59) (fun p36 => (kf_some (rfl)))))))))) (kf_ite9 (kf_bind9 (kF_X9_advance N σ) (fun p41 => (kf_bind9 (kF_X1_expression N E1 E2 hm1 hm2 p41.2) (fun p45 => (kf_bind9 (kF_X0_add N p45.2 52 0) (fun p49 => (kf_bind9 (kF_X1_expect N p49.2 59) (fun p53 => (kf_some (rfl)))))))))) (kf_ite9 (kf_bind9 (kF_X7_jump N σ) (fun p58 => (kf_some (rfl)))) (kf_ite9 (kf_bind9 (kF_X7_jump N σ) (fun p63 => (kf_some (rfl)))) (kf_ite9 (kf_bind9 (kF_X7_giveBack N E1 E2 hm1 hm2 σ) (fun p68 => (kf_some (rfl)))) (kf_ite9 (kf_bind9 (kF_X7_throwOne N E1 E2 hm1 hm2 σ) (fun p73 => (kf_some (rfl)))) (kf_ite9 (kf_bind9 (kF_X7_claim N E1 E2 hm1 hm2 σ) (fun p78 => (kf_some (rfl)))) (kf_ite9 (kf_bind9 (kF_X7_yieldValue N E1 E2 hm1 hm2 σ) (fun p83 => (kf_some (rfl)))) (kf_bind9 (kF_X7_compound N E1 E2 hm1 hm2 σ) (fun p87 => (kf_some (rfl))))))))))))))
theorem kF_X7_statement_122 (N : Nat) (E1 : CS → Option (Unit × CS)) (E2 : CS → Option (Int32 × CS)) (hm1 : ∀ σ, Kf (CS.i σ 32) (E1 σ)) (hm2 : ∀ σ, Kf (CS.i σ 32) (E2 σ)) (σ : CS) : Kf (CS.i σ 32) (f_X7_statement_122 N E1 E2 σ ) := by
  unfold f_X7_statement_122
  exact (kf_bind9 (kF_X0_add N σ 51 0) (fun p13 => (kf_bind9 (kF_X7_plain N E1 E2 hm1 hm2 p13.2) (fun p17 => (kf_some (rfl))))))
theorem kF_X7_statement_115 (N : Nat) (E1 : CS → Option (Unit × CS)) (E2 : CS → Option (Int32 × CS)) (hm1 : ∀ σ, Kf (CS.i σ 32) (E1 σ)) (hm2 : ∀ σ, Kf (CS.i σ 32) (E2 σ)) (σ : CS) : Kf (CS.i σ 32) (f_X7_statement_115 N E1 E2 σ ) := by
  unfold f_X7_statement_115
  exact (kf_bind9 (kF_X1_misplaced N σ) (fun p26 => (kf_some (rfl))))
theorem kF_X7_statement_18 (N : Nat) (E1 : CS → Option (Unit × CS)) (E2 : CS → Option (Int32 × CS)) (hm1 : ∀ σ, Kf (CS.i σ 32) (E1 σ)) (hm2 : ∀ σ, Kf (CS.i σ 32) (E2 σ)) (σ : CS) (x1 : Int32) : Kf (CS.i σ 32) (f_X7_statement_18 N E1 E2 σ x1) := by
  unfold f_X7_statement_18
  exact (kf_bind9 (kF_X1_found N (CS.setI (CS.setI σ 36 1) 24 ((σ.i 24) + 1)) 2) (fun p2 => (kf_ite9 (kf_bind9 (kF_X1_found N p2.2 123) (fun p7 => (kf_ite9 (kf_ite9 (kF_X7_statement_122 N E1 E2 hm1 hm2 p7.2) (kf_bind9 (kF_X1_found N p7.2 200) (fun p21 => (kf_ite9 (kf_bind9 (kF_X1_found N p21.2 201) (fun p30 => (kf_ite9 (kF_X7_statement_122 N E1 E2 hm1 hm2 p30.2) (kF_X7_statement_115 N E1 E2 hm1 hm2 p30.2)))) (kF_X7_statement_115 N E1 E2 hm1 hm2 p21.2))))) (kf_bind9 (kF_X1_open N p7.2 123) (fun p35 => (kf_bind9 (kF_X6_push N p35.2 301 (p35.2.i 38) (p35.2.i 50)) (fun p39 => (kf_oc9 (kf_some (rfl)) (fun a44 => (kf_some (rfl))))))))))) (kf_bind9 (kF_X7_named N E1 E2 hm1 hm2 p2.2) (fun p45 => (kf_some (rfl)))))))
theorem kF_X7_statement (N : Nat) (E1 : CS → Option (Unit × CS)) (E2 : CS → Option (Int32 × CS)) (hm1 : ∀ σ, Kf (CS.i σ 32) (E1 σ)) (hm2 : ∀ σ, Kf (CS.i σ 32) (E2 σ)) (σ : CS) (x1 : Int32) : Kf (CS.i σ 32) (f_X7_statement N E1 E2 σ x1) := by
  unfold f_X7_statement
  exact (kf_ite9 (kf_bind9 (kF_X7_notReached N σ (σ.i 44)) (fun p49 => (kF_X7_statement_18 N E1 E2 hm1 hm2 p49.2 x1))) (kF_X7_statement_18 N E1 E2 hm1 hm2 σ x1))
theorem kF_X7_bodyTurn (N : Nat) (E1 : CS → Option (Unit × CS)) (E2 : CS → Option (Int32 × CS)) (hm1 : ∀ σ, Kf (CS.i σ 32) (E1 σ)) (hm2 : ∀ σ, Kf (CS.i σ 32) (E2 σ)) (σ : CS) (x1 : Nat) : Kf (CS.i σ 32) (f_X7_bodyTurn N E1 E2 σ x1) := by
  unfold f_X7_bodyTurn
  exact (kf_ite9 (kf_ite9 (kf_bind9 (kF_X7_statement N E1 E2 hm1 hm2 (CS.setO σ x1 5 1) 1) (fun p3 => (kf_some (rfl)))) (kf_bind9 (kF_X7_endBody N E1 E2 hm1 hm2 σ x1) (fun p7 => (kf_some (rfl))))) kf_none9)
theorem kF_X10_isUnder_38 (N : Nat) (σ : CS) : Kf (CS.i σ 32) (f_X10_isUnder_38 N σ ) := by
  unfold f_X10_isUnder_38
  exact (kf_some (rfl))
theorem kFb_X10_isUnder_5 (N : Nat) (K : CS → Int32 → Int32 → Int32 → Option (Int32 × CS)) (hMK : ∀ (σ : CS) (x2 : Int32) (x3 : Int32) (x4 : Int32), Kf (CS.i σ 32) (K σ x2 x3 x4)) (σ : CS) (x2 : Int32) (x3 : Int32) (x4 : Int32) : Kf (CS.i σ 32) (b_X10_isUnder_5 N K σ x2 x3 x4) := by
  unfold b_X10_isUnder_5
  exact (kf_ite9 (kF_X10_isUnder_38 N σ) (kf_ite9 (kF_X10_isUnder_38 N σ) (kf_ite9 (kf_some (rfl)) (hMK σ x2 (gAt (σ.a 9) 12 x3) (x4 + 1)))))
theorem kF_X10_isUnder_5 (N : Nat) : ∀ (n : Nat) (σ : CS) (x2 : Int32) (x3 : Int32) (x4 : Int32), Kf (CS.i σ 32) (f_X10_isUnder_5 N n σ x2 x3 x4)
  | 0, _, _, _, _ => kf_none9
  | n+1, σ, x2, x3, x4 => kFb_X10_isUnder_5 N (f_X10_isUnder_5 N n) (fun σ x2 x3 x4 => kF_X10_isUnder_5 N n σ x2 x3 x4) σ x2 x3 x4
theorem kF_X10_isUnder (N : Nat) (σ : CS) (x1 : Int32) (x2 : Int32) : Kf (CS.i σ 32) (f_X10_isUnder N σ x1 x2) := by
  unfold f_X10_isUnder
  exact (kF_X10_isUnder_5 N N σ x2 x1 0)
theorem kFb_X7_caughtKind_47 (N : Nat) (K : CS → Nat → Int32 → Int32 → Int32 → Option (Unit × CS)) (hMK : ∀ (σ : CS) (x1 : Nat) (x2 : Int32) (x3 : Int32) (x4 : Int32), Kf (CS.i σ 32) (K σ x1 x2 x3 x4)) (σ : CS) (x1 : Nat) (x2 : Int32) (x3 : Int32) (x4 : Int32) : Kf (CS.i σ 32) (b_X7_caughtKind_47 N K σ x1 x2 x3 x4) := by
  unfold b_X7_caughtKind_47
  exact (kf_ite9 (kf_ite9 (kf_bind9 (kF_X0_add N (CS.setO σ x1 12 ((CS.o σ x1 12) ||| ((1 : Int32) <<< (x3 &&& 31)))) 56 ((x2 * 16) + x3)) (fun p13 => (kf_bind9 (kF_X9_advance N p13.2) (fun p17 => (kf_some (rfl)))))) kf_none9) (kf_ite9 (kf_ite9 (kf_bind9 (kF_X10_isUnder N σ x3 x4) (fun p23 => (kf_ite9 (hMK p23.2 x1 x2 x3 (x4 + 1)) (kf_bind9 (kF_X1_fail N p23.2 6 (p23.2.i 44)) (fun p28 => (hMK p28.2 x1 x2 x3 (x4 + 1))))))) (hMK σ x1 x2 x3 (x4 + 1))) kf_none9))
theorem kF_X7_caughtKind_47 (N : Nat) : ∀ (n : Nat) (σ : CS) (x1 : Nat) (x2 : Int32) (x3 : Int32) (x4 : Int32), Kf (CS.i σ 32) (f_X7_caughtKind_47 N n σ x1 x2 x3 x4)
  | 0, _, _, _, _, _ => kf_none9
  | n+1, σ, x1, x2, x3, x4 => kFb_X7_caughtKind_47 N (f_X7_caughtKind_47 N n) (fun σ x1 x2 x3 x4 => kF_X7_caughtKind_47 N n σ x1 x2 x3 x4) σ x1 x2 x3 x4
theorem kF_X7_caughtKind_44 (N : Nat) (σ : CS) (x1 : Nat) (x2 : Int32) (x3 : Int32) : Kf (CS.i σ 32) (f_X7_caughtKind_44 N σ x1 x2 x3) := by
  unfold f_X7_caughtKind_44
  exact (kF_X7_caughtKind_47 N N σ x1 x2 x3 0)
theorem kF_X7_caughtKind (N : Nat) (σ : CS) (x1 : Nat) (x2 : Int32) : Kf (CS.i σ 32) (f_X7_caughtKind N σ x1 x2) := by
  unfold f_X7_caughtKind
  exact (kf_bind9 (kF_X1_found N σ 5) (fun p1 => (kf_ite9 (kf_bind9 (kF_X1_misplaced N p1.2) (fun p36 => (kf_some (rfl)))) (kf_bind9 (kF_X10_isKind N p1.2 (p1.2.i 45)) (fun p6 => (kf_ite9 (kf_bind9 (kF_X1_fail N p6.2 3 (p6.2.i 44)) (fun p32 => (kF_X7_caughtKind_44 N p32.2 x1 x2 (p1.2.i 45)))) (kF_X7_caughtKind_44 N p6.2 x1 x2 (p1.2.i 45))))))))
theorem kF_X7_beginCatch_80 (N : Nat) (σ : CS) (x1 : Nat) (x2 : Int32) : Kf (CS.i σ 32) (f_X7_beginCatch_80 N σ x1 x2) := by
  unfold f_X7_beginCatch_80
  exact (kf_bind9 (kF_X0_newCells N σ 1) (fun p24 => (kf_bind9 (kF_X7_newName N p24.2) (fun p28 => (kf_bind9 (kF_X4_add N p28.2 p28.1 p24.1 ((p28.2.i 38) - 1)) (fun p32 => (kf_bind9 (kF_X1_close N p32.2 41) (fun p36 => (kf_bind9 (kF_X1_open N p36.2 123) (fun p40 => (kf_ite9 (kf_bind9 (kF_X0_add N p40.2 30 (CS.o p40.2 x1 10)) (fun p45 => (kf_bind9 (kF_X0_aim N p45.2 x2) (fun p49 => (kf_bind9 (kF_X0_add N p49.2 57 p24.1) (fun p53 => (kf_some (rfl)))))))) kf_none9)))))))))))
theorem kFb_X7_beginCatch_52 (N : Nat) (K : CS → Nat → Int32 → Int32 → Option (Unit × CS)) (hMK : ∀ (σ : CS) (x1 : Nat) (x2 : Int32) (x3 : Int32), Kf (CS.i σ 32) (K σ x1 x2 x3)) (σ : CS) (x1 : Nat) (x2 : Int32) (x3 : Int32) : Kf (CS.i σ 32) (b_X7_beginCatch_52 N K σ x1 x2 x3) := by
  unfold b_X7_beginCatch_52
  exact (kf_ite9 (kF_X7_beginCatch_80 N σ x1 x2) (kf_bind9 (kF_X1_skip N σ 124) (fun p57 => (kf_ite9 (kF_X7_beginCatch_80 N p57.2 x1 x2) (kf_bind9 (kF_X7_caughtKind N p57.2 x1 x2) (fun p62 => (hMK p62.2 x1 x2 (x3 + 1))))))))
theorem kF_X7_beginCatch_52 (N : Nat) : ∀ (n : Nat) (σ : CS) (x1 : Nat) (x2 : Int32) (x3 : Int32), Kf (CS.i σ 32) (f_X7_beginCatch_52 N n σ x1 x2 x3)
  | 0, _, _, _, _ => kf_none9
  | n+1, σ, x1, x2, x3 => kFb_X7_beginCatch_52 N (f_X7_beginCatch_52 N n) (fun σ x1 x2 x3 => kF_X7_beginCatch_52 N n σ x1 x2 x3) σ x1 x2 x3
theorem kF_X7_beginCatch (N : Nat) (σ : CS) (x1 : Nat) : Kf (CS.i σ 32) (f_X7_beginCatch N σ x1) := by
  unfold f_X7_beginCatch
  exact (kf_bind9 (kF_X0_newTarget N σ) (fun p1 => (kf_ite9 (kf_bind9 (kF_X0_newTarget N (CS.setO (CS.setO p1.2 x1 0 215) x1 8 1)) (fun p6 => (kf_ite9 (kf_bind9 (kF_X9_advance N (CS.setO p6.2 x1 10 p6.1)) (fun p11 => (kf_bind9 (kF_X1_open N p11.2 40) (fun p15 => (kf_bind9 (kF_X7_caughtKind N p15.2 x1 p1.1) (fun p19 => (kF_X7_beginCatch_52 N N p19.2 x1 p1.1 0))))))) kf_none9))) kf_none9)))
theorem kF_X7_beginFinally (N : Nat) (σ : CS) (x1 : Nat) : Kf (CS.i σ 32) (f_X7_beginFinally N σ x1) := by
  unfold f_X7_beginFinally
  exact (kf_ite9 (kf_bind9 (kF_X9_advance N (CS.setO (CS.setO σ x1 0 216) x1 15 (σ.i 55))) (fun p2 => (kf_bind9 (kF_X1_open N p2.2 123) (fun p6 => (kf_bind9 (kF_X0_add N p6.2 58 0) (fun p10 => (kf_ite9 (kf_bind9 (kF_X0_aim N p10.2 (CS.o p10.2 x1 11)) (fun p15 => (kf_some (rfl)))) kf_none9))))))) kf_none9)
theorem kF_X7_endLock (N : Nat) (σ : CS) (x1 : Nat) : Kf (CS.i σ 32) (f_X7_endLock N σ x1) := by
  unfold f_X7_endLock
  exact (kf_ite9 (kf_bind9 (kF_X7_leave N σ (CS.o σ x1 9) (CS.o σ x1 2)) (fun p2 => (kf_ite9 (kf_bind9 (kF_X0_aim N p2.2 (CS.o p2.2 x1 9)) (fun p7 => (kf_bind9 (kF_X6_pop N (CS.setI p7.2 38 ((p7.2.i 38) - 1))) (fun p11 => (kf_some (rfl)))))) kf_none9))) kf_none9)
theorem kF_X7_endSwitch_99 (N : Nat) (σ : CS) : Kf (CS.i σ 32) (f_X7_endSwitch_99 N σ ) := by
  unfold f_X7_endSwitch_99
  exact (kf_bind9 (kF_X6_pop N σ) (fun p23 => (kf_some (rfl))))
theorem kF_X7_endSwitch_53 (N : Nat) (σ : CS) (x1 : Nat) : Kf (CS.i σ 32) (f_X7_endSwitch_53 N σ x1) := by
  unfold f_X7_endSwitch_53
  exact (kf_ite9 (kf_bind9 (kF_X0_aim N σ (CS.o σ x1 9)) (fun p18 => (kf_ite9 (kf_ite9 (kf_ite9 (kF_X7_endSwitch_99 N (CS.setI p18.2 36 1)) (kf_bind9 (kF_X6_isGoneTo N p18.2 x1 0) (fun p29 => (kf_ite9 (kF_X7_endSwitch_99 N (CS.setI p29.2 36 0)) (kF_X7_endSwitch_99 N (CS.setI p29.2 36 1)))))) kf_none9) (kF_X7_endSwitch_99 N (CS.setI p18.2 36 1))))) kf_none9)
theorem kF_X7_endSwitch (N : Nat) (σ : CS) (x1 : Nat) : Kf (CS.i σ 32) (f_X7_endSwitch N σ x1) := by
  unfold f_X7_endSwitch
  exact (kf_ite9 (kf_bind9 (kF_X0_add N σ 30 (CS.o σ x1 9)) (fun p2 => (kf_ite9 (kf_bind9 (kF_X0_aim N p2.2 (CS.o p2.2 x1 10)) (fun p7 => (kf_ite9 (kf_ite9 (kf_bind9 (kF_X0_addCases N p7.2 (CS.o p7.2 x1 13) (CS.o p7.2 x1 9)) (fun p13 => (kF_X7_endSwitch_53 N p13.2 x1))) (kf_bind9 (kF_X0_addCases N p7.2 (CS.o p7.2 x1 13) (CS.o p7.2 x1 11)) (fun p34 => (kF_X7_endSwitch_53 N p34.2 x1)))) kf_none9))) kf_none9))) kf_none9)
theorem kF_X7_endGuarded_66 (N : Nat) (σ : CS) (x1 : Nat) : Kf (CS.i σ 32) (f_X7_endGuarded_66 N σ x1) := by
  unfold f_X7_endGuarded_66
  exact (kf_ite9 (kf_some (rfl)) kf_none9)
theorem kF_X7_endGuarded_46 (N : Nat) (σ : CS) (x1 : Nat) : Kf (CS.i σ 32) (f_X7_endGuarded_46 N σ x1) := by
  unfold f_X7_endGuarded_46
  exact (kf_bind9 (kF_X1_found N σ 215) (fun p13 => (kf_ite9 (kf_bind9 (kF_X1_found N p13.2 216) (fun p19 => (kf_ite9 (kf_ite9 (kf_ite9 (kf_bind9 (kF_X1_misplaced N p19.2) (fun p26 => (kf_some (rfl)))) (kf_bind9 (kF_X0_add N p19.2 58 0) (fun p30 => (kf_ite9 (kf_bind9 (kF_X0_aim N p30.2 (CS.o p30.2 x1 9)) (fun p35 => (kf_ite9 (kf_ite9 (kf_bind9 (kF_X6_pop N (CS.setI (CS.setI p35.2 36 (CS.o p35.2 x1 6)) 38 ((p35.2.i 38) - 1))) (fun p41 => (kf_some (rfl)))) kf_none9) kf_none9))) kf_none9)))) kf_none9) (kF_X7_endGuarded_66 N p19.2 x1)))) (kF_X7_endGuarded_66 N p13.2 x1))))
theorem kF_X7_endGuarded (N : Nat) (σ : CS) (x1 : Nat) : Kf (CS.i σ 32) (f_X7_endGuarded N σ x1) := by
  unfold f_X7_endGuarded
  exact (kf_ite9 (kf_bind9 (kF_X7_leave N σ (CS.o σ x1 9) (CS.o σ x1 2)) (fun p2 => (kf_ite9 (kf_bind9 (kF_X0_aim N p2.2 (CS.o p2.2 x1 10)) (fun p7 => (kf_ite9 (kf_ite9 (kf_ite9 (kF_X7_endGuarded_46 N (CS.setO p7.2 x1 6 0) x1) (kF_X7_endGuarded_46 N (CS.setO p7.2 x1 6 1) x1)) (kF_X7_endGuarded_46 N (CS.setO p7.2 x1 6 1) x1)) kf_none9))) kf_none9))) kf_none9)
theorem kFb_X6_loseJumps_2 (N : Nat) (K : CS → Int32 → Int32 → Option (Unit × CS)) (hMK : ∀ (σ : CS) (x2 : Int32) (x3 : Int32), Kf (CS.i σ 32) (K σ x2 x3)) (σ : CS) (x2 : Int32) (x3 : Int32) : Kf (CS.i σ 32) (b_X6_loseJumps_2 N K σ x2 x3) := by
  unfold b_X6_loseJumps_2
  exact (kf_ite9 (kf_some (rfl)) (hMK (CS.putA σ 52 (gPut (σ.a 52) 160 x3 0)) x2 (x3 + 1)))
theorem kF_X6_loseJumps_2 (N : Nat) : ∀ (n : Nat) (σ : CS) (x2 : Int32) (x3 : Int32), Kf (CS.i σ 32) (f_X6_loseJumps_2 N n σ x2 x3)
  | 0, _, _, _ => kf_none9
  | n+1, σ, x2, x3 => kFb_X6_loseJumps_2 N (f_X6_loseJumps_2 N n) (fun σ x2 x3 => kF_X6_loseJumps_2 N n σ x2 x3) σ x2 x3
theorem kF_X6_loseJumps (N : Nat) (σ : CS) (x1 : Int32) (x2 : Int32) : Kf (CS.i σ 32) (f_X6_loseJumps N σ x1 x2) := by
  unfold f_X6_loseJumps
  exact (kF_X6_loseJumps_2 N N σ x2 x1)
theorem kF_X7_endFinally_66 (N : Nat) (σ : CS) : Kf (CS.i σ 32) (f_X7_endFinally_66 N σ ) := by
  unfold f_X7_endFinally_66
  exact (kf_bind9 (kF_X6_pop N (CS.setI σ 38 ((σ.i 38) - 1))) (fun p12 => (kf_some (rfl))))
theorem kF_X7_endFinally_43 (N : Nat) (σ : CS) (x1 : Nat) : Kf (CS.i σ 32) (f_X7_endFinally_43 N σ x1) := by
  unfold f_X7_endFinally_43
  exact (kf_ite9 (kF_X7_endFinally_66 N (CS.setI σ 36 0)) (kf_ite9 (kf_ite9 (kF_X7_endFinally_66 N (CS.setI σ 36 0)) (kF_X7_endFinally_66 N (CS.setI σ 36 1))) kf_none9))
theorem kF_X7_endFinally (N : Nat) (σ : CS) (x1 : Nat) : Kf (CS.i σ 32) (f_X7_endFinally N σ x1) := by
  unfold f_X7_endFinally
  exact (kf_bind9 (kF_X0_add N σ 59 0) (fun p1 => (kf_ite9 (kf_bind9 (kF_X0_aim N p1.2 (CS.o p1.2 x1 9)) (fun p6 => (kf_ite9 (kf_ite9 (kf_bind9 (kF_X6_loseJumps N p6.2 (CS.o p6.2 x1 14) (CS.o p6.2 x1 15)) (fun p19 => (kF_X7_endFinally_43 N p19.2 x1))) kf_none9) (kF_X7_endFinally_43 N p6.2 x1)))) kf_none9)))
theorem kF_X7_endList_72 (N : Nat) (σ : CS) (x1 : Nat) : Kf (CS.i σ 32) (f_X7_endList_72 N σ x1) := by
  unfold f_X7_endList_72
  exact (kf_bind9 (kF_X1_close N σ 125) (fun p4 => (kf_ite9 (kf_ite9 (kf_bind9 (kF_X7_endLock N (CS.setI p4.2 50 (CS.o p4.2 x1 3)) x1) (fun p10 => (kf_some (rfl)))) (kf_ite9 (kf_bind9 (kF_X7_endGuarded N (CS.setI p4.2 50 (CS.o p4.2 x1 3)) x1) (fun p15 => (kf_some (rfl)))) (kf_ite9 (kf_bind9 (kF_X6_pop N (CS.setI p4.2 50 (CS.o p4.2 x1 3))) (fun p20 => (kf_some (rfl)))) (kf_ite9 (kf_bind9 (kF_X7_endGuarded N (CS.setI p4.2 50 (CS.o p4.2 x1 3)) x1) (fun p25 => (kf_some (rfl)))) (kf_ite9 (kf_bind9 (kF_X7_endFinally N (CS.setI p4.2 50 (CS.o p4.2 x1 3)) x1) (fun p30 => (kf_some (rfl)))) (kf_ite9 (kf_bind9 (kF_X6_pop N (CS.setI p4.2 50 (CS.o p4.2 x1 3))) (fun p35 => (kf_some (rfl)))) (kf_ite9 (kf_bind9 (kF_X7_endSwitch N (CS.setI p4.2 50 (CS.o p4.2 x1 3)) x1) (fun p40 => (kf_some (rfl)))) (kf_bind9 (kF_X6_pop N (CS.setI p4.2 50 (CS.o p4.2 x1 3))) (fun p44 => (kf_some (rfl))))))))))) kf_none9)))
theorem kF_X7_endList (N : Nat) (σ : CS) (x1 : Nat) : Kf (CS.i σ 32) (f_X7_endList N σ x1) := by
  unfold f_X7_endList
  exact (kf_ite9 (kf_ite9 (kf_bind9 (kF_X1_expect N σ 0) (fun p53 => (kf_ite9 (kf_bind9 (kF_X0_add N (CS.setI p53.2 27 (p53.2.i 36)) 50 0) (fun p58 => (kf_bind9 (kF_X6_pop N p58.2) (fun p62 => (kf_some (rfl)))))) kf_none9))) (kf_ite9 (kf_ite9 (kF_X7_endList_72 N σ x1) (kf_bind9 (kF_X7_notReached N σ (σ.i 44)) (fun p49 => (kF_X7_endList_72 N p49.2 x1)))) (kF_X7_endList_72 N σ x1))) kf_none9)
theorem kF_X7_groupTurn_87 (N : Nat) (E1 : CS → Option (Unit × CS)) (E2 : CS → Option (Int32 × CS)) (hm1 : ∀ σ, Kf (CS.i σ 32) (E1 σ)) (hm2 : ∀ σ, Kf (CS.i σ 32) (E2 σ)) (σ : CS) (x1 : Nat) (x2 : Int32) : Kf (CS.i σ 32) (f_X7_groupTurn_87 N E1 E2 σ x1 x2) := by
  unfold f_X7_groupTurn_87
  exact (kf_bind9 (kF_X1_expect N σ 58) (fun p21 => (kf_bind9 (kF_X0_aim N p21.2 x2) (fun p25 => (kf_ite9 (kf_some (rfl)) kf_none9)))))
theorem kF_X7_groupTurn_59 (N : Nat) (E1 : CS → Option (Unit × CS)) (E2 : CS → Option (Int32 × CS)) (hm1 : ∀ σ, Kf (CS.i σ 32) (E1 σ)) (hm2 : ∀ σ, Kf (CS.i σ 32) (E2 σ)) (σ : CS) (x1 : Nat) (x2 : Int32) (x3 : Int32) : Kf (CS.i σ 32) (f_X7_groupTurn_59 N E1 E2 σ x1 x2 x3) := by
  unfold f_X7_groupTurn_59
  exact (kf_bind9 (kF_X9_advance N σ) (fun p15 => (kf_ite9 (kf_ite9 (kF_X7_groupTurn_87 N E1 E2 hm1 hm2 (CS.setO p15.2 x1 11 x2) x1 x2) kf_none9) (kf_ite9 (kf_bind9 (kF_X1_caseNumber N p15.2 (CS.o p15.2 x1 13) x2) (fun p31 => (kF_X7_groupTurn_87 N E1 E2 hm1 hm2 p31.2 x1 x2))) kf_none9))))
theorem kF_X7_groupTurn_20 (N : Nat) (E1 : CS → Option (Unit × CS)) (E2 : CS → Option (Int32 × CS)) (hm1 : ∀ σ, Kf (CS.i σ 32) (E1 σ)) (hm2 : ∀ σ, Kf (CS.i σ 32) (E2 σ)) (σ : CS) (x1 : Nat) : Kf (CS.i σ 32) (f_X7_groupTurn_20 N E1 E2 σ x1) := by
  unfold f_X7_groupTurn_20
  exact (kf_bind9 (kF_X0_newTarget N σ) (fun p6 => (kf_bind9 (kF_X1_found N p6.2 219) (fun p10 => (kf_ite9 (kf_ite9 (kf_ite9 (kF_X7_groupTurn_59 N E1 E2 hm1 hm2 p10.2 x1 p6.1 p10.1) (kf_bind9 (kF_X1_fail N p10.2 4 (p10.2.i 44)) (fun p37 => (kF_X7_groupTurn_59 N E1 E2 hm1 hm2 p37.2 x1 p6.1 p10.1)))) kf_none9) (kF_X7_groupTurn_59 N E1 E2 hm1 hm2 p10.2 x1 p6.1 p10.1))))))
theorem kF_X7_groupTurn (N : Nat) (E1 : CS → Option (Unit × CS)) (E2 : CS → Option (Int32 × CS)) (hm1 : ∀ σ, Kf (CS.i σ 32) (E1 σ)) (hm2 : ∀ σ, Kf (CS.i σ 32) (E2 σ)) (σ : CS) (x1 : Nat) : Kf (CS.i σ 32) (f_X7_groupTurn N E1 E2 σ x1) := by
  unfold f_X7_groupTurn
  exact (kf_bind9 (kF_X1_found N σ 219) (fun p1 => (kf_ite9 (kf_bind9 (kF_X1_found N p1.2 220) (fun p41 => (kf_ite9 (kf_ite9 (kf_ite9 (kf_bind9 (kF_X1_misplaced N p41.2) (fun p48 => (kf_some (rfl)))) (kf_bind9 (kF_X7_statement N E1 E2 hm1 hm2 p41.2 0) (fun p52 => (kf_some (rfl))))) kf_none9) (kF_X7_groupTurn_20 N E1 E2 hm1 hm2 p41.2 x1)))) (kF_X7_groupTurn_20 N E1 E2 hm1 hm2 p1.2 x1))))
theorem kFb_X7_turns_2 (N : Nat) (E1 : CS → Option (Unit × CS)) (E2 : CS → Option (Int32 × CS)) (hm1 : ∀ σ, Kf (CS.i σ 32) (E1 σ)) (hm2 : ∀ σ, Kf (CS.i σ 32) (E2 σ)) (K : CS → Int32 → Int32 → Option (Unit × CS)) (hMK : ∀ (σ : CS) (x1 : Int32) (x2 : Int32), Kf (CS.i σ 32) (K σ x1 x2)) (σ : CS) (x1 : Int32) (x2 : Int32) : Kf (CS.i σ 32) (b_X7_turns_2 N E1 E2 K σ x1 x2) := by
  unfold b_X7_turns_2
  exact (kf_ite9 (kf_ite9 kf_none9 (kf_some (rfl))) (kf_ite9 (kf_ite9 (kf_some (rfl)) (kf_bind9 (kF_X6_row N σ ((σ.i 53) - 1)) (fun p4 => (kf_oc9 (kf_some (rfl)) (fun a9 => (kf_ite9 (kf_bind9 (kF_X5_hasOneBody N p4.2 a9) (fun p12 => (kf_ite9 (kf_ite9 (kf_ite9 (kf_bind9 (kF_X1_found N p12.2 215) (fun p47 => (kf_ite9 (kf_ite9 (kf_ite9 (kf_bind9 (kF_X7_beginFinally N p47.2 a9) (fun p82 => (hMK p82.2 x1 (x2 + 1)))) (kf_bind9 (kF_X1_found N p47.2 125) (fun p54 => (kf_ite9 (kf_bind9 (kF_X1_found N p54.2 0) (fun p63 => (kf_ite9 (kf_ite9 (kf_ite9 (kf_bind9 (kF_X7_groupTurn N E1 E2 hm1 hm2 p63.2 a9) (fun p74 => (hMK p74.2 x1 (x2 + 1)))) (kf_bind9 (kF_X7_statement N E1 E2 hm1 hm2 p63.2 0) (fun p70 => (hMK p70.2 x1 (x2 + 1))))) kf_none9) (kf_bind9 (kF_X7_endList N p63.2 a9) (fun p78 => (hMK p78.2 x1 (x2 + 1))))))) (kf_bind9 (kF_X7_endList N p54.2 a9) (fun p59 => (hMK p59.2 x1 (x2 + 1)))))))) kf_none9) (kf_bind9 (kF_X7_beginCatch N p47.2 a9) (fun p86 => (hMK p86.2 x1 (x2 + 1))))))) (kf_bind9 (kF_X1_found N p12.2 125) (fun p19 => (kf_ite9 (kf_bind9 (kF_X1_found N p19.2 0) (fun p28 => (kf_ite9 (kf_ite9 (kf_ite9 (kf_bind9 (kF_X7_groupTurn N E1 E2 hm1 hm2 p28.2 a9) (fun p39 => (hMK p39.2 x1 (x2 + 1)))) (kf_bind9 (kF_X7_statement N E1 E2 hm1 hm2 p28.2 0) (fun p35 => (hMK p35.2 x1 (x2 + 1))))) kf_none9) (kf_bind9 (kF_X7_endList N p28.2 a9) (fun p43 => (hMK p43.2 x1 (x2 + 1))))))) (kf_bind9 (kF_X7_endList N p19.2 a9) (fun p24 => (hMK p24.2 x1 (x2 + 1)))))))) kf_none9) (kf_bind9 (kF_X7_bodyTurn N E1 E2 hm1 hm2 p12.2 a9) (fun p90 => (hMK p90.2 x1 (x2 + 1))))))) kf_none9)))))) (kf_some (rfl))))
theorem kF_X7_turns_2 (N : Nat) (E1 : CS → Option (Unit × CS)) (E2 : CS → Option (Int32 × CS)) (hm1 : ∀ σ, Kf (CS.i σ 32) (E1 σ)) (hm2 : ∀ σ, Kf (CS.i σ 32) (E2 σ)) : ∀ (n : Nat) (σ : CS) (x1 : Int32) (x2 : Int32), Kf (CS.i σ 32) (f_X7_turns_2 N E1 E2 n σ x1 x2)
  | 0, _, _, _ => kf_none9
  | n+1, σ, x1, x2 => kFb_X7_turns_2 N E1 E2 hm1 hm2 (f_X7_turns_2 N E1 E2 n) (fun σ x1 x2 => kF_X7_turns_2 N E1 E2 hm1 hm2 n σ x1 x2) σ x1 x2
theorem kF_X7_turns (N : Nat) (E1 : CS → Option (Unit × CS)) (E2 : CS → Option (Int32 × CS)) (hm1 : ∀ σ, Kf (CS.i σ 32) (E1 σ)) (hm2 : ∀ σ, Kf (CS.i σ 32) (E2 σ)) (σ : CS) (x1 : Int32) : Kf (CS.i σ 32) (f_X7_turns N E1 E2 σ x1) := by
  unfold f_X7_turns
  exact (kF_X7_turns_2 N E1 E2 hm1 hm2 N σ x1 0)
theorem kF_X7_armBlock (N : Nat) (E1 : CS → Option (Unit × CS)) (E2 : CS → Option (Int32 × CS)) (hm1 : ∀ σ, Kf (CS.i σ 32) (E1 σ)) (hm2 : ∀ σ, Kf (CS.i σ 32) (E2 σ)) (σ : CS) (x1 : Int32) : Kf (CS.i σ 32) (f_X7_armBlock N E1 E2 σ x1) := by
  unfold f_X7_armBlock
  exact (kf_bind9 (kF_X1_open N σ 123) (fun p1 => (kf_bind9 (kF_X6_push N p1.2 302 (p1.2.i 38) (p1.2.i 50)) (fun p5 => (kf_oc9 kf_none9 (fun a10 => (kf_ite9 (kf_bind9 (kF_X7_turns N E1 E2 hm1 hm2 (CS.setI (CS.setI (CS.setO (CS.setO p5.2 a10 9 x1) a10 16 (p5.2.i 56)) 56 (σ.i 53)) 36 1) (σ.i 53)) (fun p12 => (kf_ite9 (kf_ite9 (kf_some (rfl)) kf_none9) kf_none9))) kf_none9)))))))
theorem kF_X1_arm_153 (N : Nat) (E1 : CS → Option (Unit × CS)) (E2 : CS → Option (Int32 × CS)) (hm1 : ∀ σ, Kf (CS.i σ 32) (E1 σ)) (hm2 : ∀ σ, Kf (CS.i σ 32) (E2 σ)) (σ : CS) (x5 : Int32) : Kf (CS.i σ 32) (f_X1_arm_153 N E1 E2 σ x5) := by
  unfold f_X1_arm_153
  exact (kf_some (rfl))
theorem kF_X1_arm_100 (N : Nat) (E1 : CS → Option (Unit × CS)) (E2 : CS → Option (Int32 × CS)) (hm1 : ∀ σ, Kf (CS.i σ 32) (E1 σ)) (hm2 : ∀ σ, Kf (CS.i σ 32) (E2 σ)) (σ : CS) (x3 : Int32) (x4 : Int32) (x5 : Int32) : Kf (CS.i σ 32) (f_X1_arm_100 N E1 E2 σ x3 x4 x5) := by
  unfold f_X1_arm_100
  exact (kf_bind9 (kF_X1_expect N σ 134) (fun p19 => (kf_bind9 (kF_X0_aim N p19.2 x4) (fun p23 => (kf_bind9 (kF_X1_found N p23.2 123) (fun p27 => (kf_ite9 (kf_bind9 (kF_X1_expression N E1 E2 hm1 hm2 p27.2) (fun p32 => (kf_bind9 (kF_X1_expect N p32.2 59) (fun p36 => (kf_bind9 (kF_X0_add N p36.2 30 x3) (fun p40 => (kF_X1_arm_153 N E1 E2 hm1 hm2 p40.2 x5))))))) (kf_bind9 (kF_X7_armBlock N E1 E2 hm1 hm2 p27.2 x3) (fun p44 => (kF_X1_arm_153 N E1 E2 hm1 hm2 p44.2 x5))))))))))
theorem kFb_X1_arm_70 (N : Nat) (E1 : CS → Option (Unit × CS)) (E2 : CS → Option (Int32 × CS)) (hm1 : ∀ σ, Kf (CS.i σ 32) (E1 σ)) (hm2 : ∀ σ, Kf (CS.i σ 32) (E2 σ)) (K : CS → Int32 → Int32 → Int32 → Int32 → Int32 → Option (Int32 × CS)) (hMK : ∀ (σ : CS) (x1 : Int32) (x3 : Int32) (x4 : Int32) (x5 : Int32) (x6 : Int32), Kf (CS.i σ 32) (K σ x1 x3 x4 x5 x6)) (σ : CS) (x1 : Int32) (x3 : Int32) (x4 : Int32) (x5 : Int32) (x6 : Int32) : Kf (CS.i σ 32) (b_X1_arm_70 N E1 E2 K σ x1 x3 x4 x5 x6) := by
  unfold b_X1_arm_70
  exact (kf_ite9 (kF_X1_arm_100 N E1 E2 hm1 hm2 σ x3 x4 x5) (kf_bind9 (kF_X1_skip N σ 44) (fun p48 => (kf_ite9 (kF_X1_arm_100 N E1 E2 hm1 hm2 p48.2 x3 x4 x5) (kf_bind9 (kF_X1_caseNumber N p48.2 x1 x4) (fun p53 => (hMK p53.2 x1 x3 x4 x5 (x6 + 1))))))))
theorem kF_X1_arm_70 (N : Nat) (E1 : CS → Option (Unit × CS)) (E2 : CS → Option (Int32 × CS)) (hm1 : ∀ σ, Kf (CS.i σ 32) (E1 σ)) (hm2 : ∀ σ, Kf (CS.i σ 32) (E2 σ)) : ∀ (n : Nat) (σ : CS) (x1 : Int32) (x3 : Int32) (x4 : Int32) (x5 : Int32) (x6 : Int32), Kf (CS.i σ 32) (f_X1_arm_70 N E1 E2 n σ x1 x3 x4 x5 x6)
  | 0, _, _, _, _, _, _ => kf_none9
  | n+1, σ, x1, x3, x4, x5, x6 => kFb_X1_arm_70 N E1 E2 hm1 hm2 (f_X1_arm_70 N E1 E2 n) (fun σ x1 x3 x4 x5 x6 => kF_X1_arm_70 N E1 E2 hm1 hm2 n σ x1 x3 x4 x5 x6) σ x1 x3 x4 x5 x6
theorem kF_X1_arm_39 (N : Nat) (E1 : CS → Option (Unit × CS)) (E2 : CS → Option (Int32 × CS)) (hm1 : ∀ σ, Kf (CS.i σ 32) (E1 σ)) (hm2 : ∀ σ, Kf (CS.i σ 32) (E2 σ)) (σ : CS) (x3 : Int32) (x4 : Int32) : Kf (CS.i σ 32) (f_X1_arm_39 N E1 E2 σ x3 x4) := by
  unfold f_X1_arm_39
  exact (kf_bind9 (kF_X9_advance N σ) (fun p58 => (kF_X1_arm_100 N E1 E2 hm1 hm2 p58.2 x3 x4 x4)))
theorem kF_X1_arm (N : Nat) (E1 : CS → Option (Unit × CS)) (E2 : CS → Option (Int32 × CS)) (hm1 : ∀ σ, Kf (CS.i σ 32) (E1 σ)) (hm2 : ∀ σ, Kf (CS.i σ 32) (E2 σ)) (σ : CS) (x1 : Int32) (x2 : Int32) (x3 : Int32) : Kf (CS.i σ 32) (f_X1_arm N E1 E2 σ x1 x2 x3) := by
  unfold f_X1_arm
  exact (kf_bind9 (kF_X0_newTarget N σ) (fun p1 => (kf_bind9 (kF_X1_found N p1.2 220) (fun p5 => (kf_ite9 (kf_bind9 (kF_X9_advance N p5.2) (fun p10 => (kf_bind9 (kF_X1_caseNumber N p10.2 x1 p1.1) (fun p14 => (kF_X1_arm_70 N E1 E2 hm1 hm2 N p14.2 x1 x3 p1.1 x2 0))))) (kf_ite9 (kF_X1_arm_39 N E1 E2 hm1 hm2 p5.2 x3 p1.1) (kf_bind9 (kF_X1_fail N p5.2 4 (p5.2.i 44)) (fun p62 => (kF_X1_arm_39 N E1 E2 hm1 hm2 p62.2 x3 p1.1)))))))))
theorem kF_X1_choice_122 (N : Nat) (E1 : CS → Option (Unit × CS)) (E2 : CS → Option (Int32 × CS)) (hm1 : ∀ σ, Kf (CS.i σ 32) (E1 σ)) (hm2 : ∀ σ, Kf (CS.i σ 32) (E2 σ)) (σ : CS) (x1 : Int32) (x2 : Int32) (x3 : Int32) (x4 : Int32) : Kf (CS.i σ 32) (f_X1_choice_122 N E1 E2 σ x1 x2 x3 x4) := by
  unfold f_X1_choice_122
  exact (kf_bind9 (kF_X1_close N σ 125) (fun p35 => (kf_bind9 (kF_X0_aim N p35.2 x1) (fun p39 => (kf_bind9 (kF_X0_addCases N p39.2 x3 x4) (fun p43 => (kf_bind9 (kF_X0_aim N p43.2 x2) (fun p47 => (kf_some (rfl))))))))))
theorem kF_X1_choice_113 (N : Nat) (E1 : CS → Option (Unit × CS)) (E2 : CS → Option (Int32 × CS)) (hm1 : ∀ σ, Kf (CS.i σ 32) (E1 σ)) (hm2 : ∀ σ, Kf (CS.i σ 32) (E2 σ)) (σ : CS) (x1 : Int32) (x2 : Int32) (x3 : Int32) (x4 : Int32) : Kf (CS.i σ 32) (f_X1_choice_113 N E1 E2 σ x1 x2 x3 x4) := by
  unfold f_X1_choice_113
  exact (kf_ite9 (kF_X1_choice_122 N E1 E2 hm1 hm2 σ x1 x2 x3 x4) (kf_bind9 (kF_X1_misplaced N σ) (fun p51 => (kF_X1_choice_122 N E1 E2 hm1 hm2 p51.2 x1 x2 x3 x4))))
theorem kFb_X1_choice_69 (N : Nat) (E1 : CS → Option (Unit × CS)) (E2 : CS → Option (Int32 × CS)) (hm1 : ∀ σ, Kf (CS.i σ 32) (E1 σ)) (hm2 : ∀ σ, Kf (CS.i σ 32) (E2 σ)) (K : CS → Int32 → Int32 → Int32 → Int32 → Int32 → Option (Unit × CS)) (hMK : ∀ (σ : CS) (x1 : Int32) (x2 : Int32) (x3 : Int32) (x4 : Int32) (x5 : Int32), Kf (CS.i σ 32) (K σ x1 x2 x3 x4 x5)) (σ : CS) (x1 : Int32) (x2 : Int32) (x3 : Int32) (x4 : Int32) (x5 : Int32) : Kf (CS.i σ 32) (b_X1_choice_69 N E1 E2 K σ x1 x2 x3 x4 x5) := by
  unfold b_X1_choice_69
  exact (kf_ite9 (kF_X1_choice_113 N E1 E2 hm1 hm2 σ x1 x2 x3 x4) (kf_bind9 (kF_X1_found N σ 219) (fun p55 => (kf_ite9 (kf_bind9 (kF_X1_found N p55.2 220) (fun p64 => (kf_ite9 (kF_X1_choice_113 N E1 E2 hm1 hm2 p64.2 x1 x2 x3 x4) (kf_bind9 (kF_X1_arm N E1 E2 hm1 hm2 p64.2 x3 x4 x2) (fun p69 => (hMK p69.2 x1 x2 x3 p69.1 (x5 + 1))))))) (kf_bind9 (kF_X1_arm N E1 E2 hm1 hm2 p55.2 x3 x4 x2) (fun p60 => (hMK p60.2 x1 x2 x3 p60.1 (x5 + 1))))))))
theorem kF_X1_choice_69 (N : Nat) (E1 : CS → Option (Unit × CS)) (E2 : CS → Option (Int32 × CS)) (hm1 : ∀ σ, Kf (CS.i σ 32) (E1 σ)) (hm2 : ∀ σ, Kf (CS.i σ 32) (E2 σ)) : ∀ (n : Nat) (σ : CS) (x1 : Int32) (x2 : Int32) (x3 : Int32) (x4 : Int32) (x5 : Int32), Kf (CS.i σ 32) (f_X1_choice_69 N E1 E2 n σ x1 x2 x3 x4 x5)
  | 0, _, _, _, _, _, _ => kf_none9
  | n+1, σ, x1, x2, x3, x4, x5 => kFb_X1_choice_69 N E1 E2 hm1 hm2 (f_X1_choice_69 N E1 E2 n) (fun σ x1 x2 x3 x4 x5 => kF_X1_choice_69 N E1 E2 hm1 hm2 n σ x1 x2 x3 x4 x5) σ x1 x2 x3 x4 x5
theorem kF_X1_choice (N : Nat) (E1 : CS → Option (Unit × CS)) (E2 : CS → Option (Int32 × CS)) (hm1 : ∀ σ, Kf (CS.i σ 32) (E1 σ)) (hm2 : ∀ σ, Kf (CS.i σ 32) (E2 σ)) (σ : CS) : Kf (CS.i σ 32) (f_X1_choice N E1 E2 σ) := by
  unfold f_X1_choice
  exact (kf_bind9 (kF_X9_advance N σ) (fun p1 => (kf_bind9 (kF_X1_open N p1.2 40) (fun p5 => (kf_bind9 (kF_X1_expression N E1 E2 hm1 hm2 p5.2) (fun p9 => (kf_bind9 (kF_X1_close N p9.2 41) (fun p13 => (kf_bind9 (kF_X1_open N p13.2 123) (fun p17 => (kf_bind9 (kF_X0_newTarget N p17.2) (fun p21 => (kf_bind9 (kF_X0_newTarget N p21.2) (fun p25 => (kf_bind9 (kF_X0_add N p25.2 30 p21.1) (fun p29 => (kF_X1_choice_69 N E1 E2 hm1 hm2 N p29.2 p21.1 p25.1 (p25.2.i 22) (-1) 0)))))))))))))))))
theorem kF_X1_factor (N : Nat) (E1 : CS → Option (Unit × CS)) (E2 : CS → Option (Int32 × CS)) (hm1 : ∀ σ, Kf (CS.i σ 32) (E1 σ)) (hm2 : ∀ σ, Kf (CS.i σ 32) (E2 σ)) (σ : CS) : Kf (CS.i σ 32) (f_X1_factor N E1 E2 σ) := by
  unfold f_X1_factor
  exact (kf_ite9 (kf_bind9 (kF_X0_add N σ 0 (σ.i 45)) (fun p2 => (kf_bind9 (kF_X9_advance N p2.2) (fun p6 => (kf_some (rfl)))))) (kf_ite9 (kf_bind9 (kF_X1_loadName N σ) (fun p11 => (kf_some (rfl)))) (kf_ite9 (kf_bind9 (kF_X1_open N σ 40) (fun p16 => (kf_bind9 (kF_X1_expression N E1 E2 hm1 hm2 p16.2) (fun p20 => (kf_bind9 (kF_X1_close N p20.2 41) (fun p24 => (kf_some (rfl)))))))) (kf_ite9 (kf_bind9 (kF_X1_negated N E1 E2 hm1 hm2 σ) (fun p29 => (kf_some (rfl)))) (kf_ite9 (kf_bind9 (kF_X1_choice N E1 E2 hm1 hm2 σ) (fun p34 => (kf_some (rfl)))) (kf_bind9 (kF_X1_misplaced N σ) (fun p38 => (kf_some (rfl)))))))))
theorem kF_X1_comparing (N : Nat) (σ : CS) (x0 : Int32) : Kf (CS.i σ 32) (f_X1_comparing N σ x0) := by
  unfold f_X1_comparing
  exact (kf_ite9 (kf_some (rfl)) (kf_ite9 (kf_some (rfl)) (kf_ite9 (kf_some (rfl)) (kf_ite9 (kf_some (rfl)) (kf_ite9 (kf_some (rfl)) (kf_ite9 (kf_some (rfl)) (kf_some (rfl))))))))
theorem kF_X1_comparison (N : Nat) (E1 : CS → Option (Unit × CS)) (E2 : CS → Option (Int32 × CS)) (hm1 : ∀ σ, Kf (CS.i σ 32) (E1 σ)) (hm2 : ∀ σ, Kf (CS.i σ 32) (E2 σ)) (σ : CS) : Kf (CS.i σ 32) (f_X1_comparison N E1 E2 σ) := by
  unfold f_X1_comparison
  exact (kf_bind9 (kF_X1_expression N E1 E2 hm1 hm2 σ) (fun p1 => (kf_bind9 (kF_X1_comparing N p1.2 (p1.2.i 43)) (fun p5 => (kf_ite9 (kf_bind9 (kF_X9_advance N p5.2) (fun p10 => (kf_bind9 (kF_X1_expression N E1 E2 hm1 hm2 p10.2) (fun p14 => (kf_bind9 (kF_X0_add N p14.2 p5.1 0) (fun p18 => (kf_some (rfl)))))))) (kf_bind9 (kF_X1_misplaced N p5.2) (fun p22 => (kf_some (rfl)))))))))
theorem kF_X1_one_66 (N : Nat) (E1 : CS → Option (Unit × CS)) (E2 : CS → Option (Int32 × CS)) (hm1 : ∀ σ, Kf (CS.i σ 32) (E1 σ)) (hm2 : ∀ σ, Kf (CS.i σ 32) (E2 σ)) (σ : CS) : Kf (CS.i σ 32) (f_X1_one_66 N E1 E2 σ ) := by
  unfold f_X1_one_66
  exact (kf_bind9 (kF_X0_add N (CS.setI σ 34 ((σ.i 34) - 1)) 5 0) (fun p7 => (kf_some (rfl))))
theorem kF_X1_one (N : Nat) (E1 : CS → Option (Unit × CS)) (E2 : CS → Option (Int32 × CS)) (hm1 : ∀ σ, Kf (CS.i σ 32) (E1 σ)) (hm2 : ∀ σ, Kf (CS.i σ 32) (E2 σ)) (σ : CS) : Kf (CS.i σ 32) (f_X1_one N E1 E2 σ) := by
  unfold f_X1_one
  exact (kf_ite9 (kf_bind9 (kF_X1_open N σ 33) (fun p2 => (kf_ite9 (kf_bind9 (hm2 p2.2) (fun p11 => (kF_X1_one_66 N E1 E2 hm1 hm2 p11.2))) (kF_X1_one_66 N E1 E2 hm1 hm2 p2.2)))) (kf_ite9 (kf_bind9 (kF_X1_open N σ 91) (fun p16 => (kf_bind9 (kF_X1_condition N E1 E2 hm1 hm2 p16.2) (fun p20 => (kf_bind9 (kF_X1_close N p20.2 93) (fun p24 => (kf_some (rfl)))))))) (kf_ite9 (kf_bind9 (kF_X0_add N σ 0 1) (fun p29 => (kf_bind9 (kF_X9_advance N p29.2) (fun p33 => (kf_some (rfl)))))) (kf_ite9 (kf_bind9 (kF_X0_add N σ 0 0) (fun p38 => (kf_bind9 (kF_X9_advance N p38.2) (fun p42 => (kf_some (rfl)))))) (kf_bind9 (kF_X1_comparison N E1 E2 hm1 hm2 σ) (fun p46 => (kf_some (rfl))))))))
theorem kF_X6_clear (N : Nat) (σ : CS) : Kf (CS.i σ 32) (f_X6_clear N σ) := by
  unfold f_X6_clear
  exact (kf_some (rfl))
theorem kF_X9_start (N : Nat) (σ : CS) (x1 : Int32) : Kf (CS.i σ 32) (f_X9_start N σ x1) := by
  unfold f_X9_start
  exact (kf_bind9 (kF_X9_advance N (CS.setI (CS.setI σ 41 x1) 42 0)) (fun p1 => (kf_some (rfl))))
theorem kF_X10_isFull (N : Nat) (σ : CS) : Kf (CS.i σ 32) (f_X10_isFull N σ) := by
  unfold f_X10_isFull
  exact (kf_ite9 (kf_some (rfl)) (kf_some (rfl)))
theorem kF_X10_addKind (N : Nat) (σ : CS) (x1 : Int32) : Kf (CS.i σ 32) (f_X10_addKind N σ x1) := by
  unfold f_X10_addKind
  exact (kf_some (rfl))
theorem kF_X10_tellResource (N : Nat) (σ : CS) (x1 : Int32) (x2 : Int32) (x3 : Int32) (x4 : Int32) : Kf (CS.i σ 32) (f_X10_tellResource N σ x1 x2 x3 x4) := by
  unfold f_X10_tellResource
  exact (kf_some (rfl))
theorem kFEE (N : Nat) : ∀ d : Nat, (∀ σ, Kf (CS.i σ 32) ((fEE N d).1 σ)) ∧ (∀ σ, Kf (CS.i σ 32) ((fEE N d).2 σ))
  | 0 => ⟨fun _ => kf_none9, fun _ => kf_none9⟩
  | d+1 => ⟨fun σ => kF_X1_factor N _ _ (kFEE N d).1 (kFEE N d).2 σ, fun σ => kF_X1_one N _ _ (kFEE N d).1 (kFEE N d).2 σ⟩
