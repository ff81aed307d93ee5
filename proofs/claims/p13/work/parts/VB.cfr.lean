section
/-! the class: what the reading leaves alone -/
def Kp4 {α : Type} (n m k : Int32) (f : Nat → Int32) (t : Option (α × CS)) : Prop := ∀ R, t = some R → CS.i R.2 5 = n ∧ CS.i R.2 13 = m ∧ CS.i R.2 14 = k ∧ CS.a R.2 9 = f
theorem kp4_some {α : Type} {n m k : Int32} {f : Nat → Int32} {r : α × CS} (h : CS.i r.2 5 = n ∧ CS.i r.2 13 = m ∧ CS.i r.2 14 = k ∧ CS.a r.2 9 = f) : Kp4 n m k f (some r) := fun R q => by
  cases q
  exact h
theorem kp4_none {α : Type} {n m k : Int32} {f : Nat → Int32} : Kp4 n m k f (none : Option (α × CS)) := fun R q => by cases q
theorem kp4_ite {α : Type} {n m k : Int32} {f : Nat → Int32} {c : Prop} [Decidable c] {x y : Option (α × CS)} (hx : Kp4 n m k f x) (hy : Kp4 n m k f y) : Kp4 n m k f (if c then x else y) := by
  by_cases h : c
  · rw [if_pos h]; exact hx
  · rw [if_neg h]; exact hy
theorem kp4_bind {α β : Type} {n m k : Int32} {f : Nat → Int32} {x : Option (α × CS)} {g : α × CS → Option (β × CS)} (hx : Kp4 n m k f x) (hk : ∀ p : α × CS, Kp4 (CS.i p.2 5) (CS.i p.2 13) (CS.i p.2 14) (CS.a p.2 9) (g p)) : Kp4 n m k f (x.bind g) := by
  intro R h
  cases hx' : x with
  | none => rw [hx'] at h; cases h
  | some p =>
    rw [hx'] at h
    obtain ⟨a1, a2, a3, a4⟩ := hx p hx'
    obtain ⟨b1, b2, b3, b4⟩ := hk p R h
    exact ⟨b1.trans a1, b2.trans a2, b3.trans a3, b4.trans a4⟩
theorem kp4_oc {α β : Type} {n m k : Int32} {f : Nat → Int32} {r : Option α} {x : Option (β × CS)} {g : α → Option (β × CS)} (hx : Kp4 n m k f x) (hf : ∀ a, Kp4 n m k f (g a)) : Kp4 n m k f (oCase r x g) := by
  cases r with
  | none => exact hx
  | some a => exact hf a
theorem kp4_le {α : Type} {n m k n' m' k' : Int32} {f f' : Nat → Int32} {t : Option (α × CS)} (h : n = n' ∧ m = m' ∧ k = k' ∧ f = f') (ht : Kp4 n m k f t) : Kp4 n' m' k' f' t := by rw [← h.1, ← h.2.1, ← h.2.2.1, ← h.2.2.2]; exact ht
theorem k4_X0_clear (N : Nat) (σ : CS) : Kp4 (CS.i σ 5) (CS.i σ 13) (CS.i σ 14) (CS.a σ 9) (f_X0_clear N σ) := by
  unfold f_X0_clear
  exact (kp4_some (⟨rfl, rfl, rfl, rfl⟩))
theorem k4_X0_add (N : Nat) (σ : CS) (x1 : Int32) (x2 : Int32) : Kp4 (CS.i σ 5) (CS.i σ 13) (CS.i σ 14) (CS.a σ 9) (f_X0_add N σ x1 x2) := by
  unfold f_X0_add
  exact (kp4_some (⟨rfl, rfl, rfl, rfl⟩))
theorem k4_X0_newTarget (N : Nat) (σ : CS) : Kp4 (CS.i σ 5) (CS.i σ 13) (CS.i σ 14) (CS.a σ 9) (f_X0_newTarget N σ) := by
  unfold f_X0_newTarget
  exact (kp4_some (⟨rfl, rfl, rfl, rfl⟩))
theorem k4_X0_aim (N : Nat) (σ : CS) (x1 : Int32) : Kp4 (CS.i σ 5) (CS.i σ 13) (CS.i σ 14) (CS.a σ 9) (f_X0_aim N σ x1) := by
  unfold f_X0_aim
  exact (kp4_some (⟨rfl, rfl, rfl, rfl⟩))
theorem k4_X0_newCells (N : Nat) (σ : CS) (x1 : Int32) : Kp4 (CS.i σ 5) (CS.i σ 13) (CS.i σ 14) (CS.a σ 9) (f_X0_newCells N σ x1) := by
  unfold f_X0_newCells
  exact (kp4_some (⟨rfl, rfl, rfl, rfl⟩))
theorem kb4_X0_hasCase_2 (N : Nat) (K : CS → Int32 → Int32 → Option (Int32 × CS)) (hMK : ∀ (σ : CS) (x2 : Int32) (x3 : Int32), Kp4 (CS.i σ 5) (CS.i σ 13) (CS.i σ 14) (CS.a σ 9) (K σ x2 x3)) (σ : CS) (x2 : Int32) (x3 : Int32) : Kp4 (CS.i σ 5) (CS.i σ 13) (CS.i σ 14) (CS.a σ 9) (b_X0_hasCase_2 N K σ x2 x3) := by
  unfold b_X0_hasCase_2
  exact (kp4_ite (kp4_some (⟨rfl, rfl, rfl, rfl⟩)) (kp4_ite (kp4_some (⟨rfl, rfl, rfl, rfl⟩)) (hMK σ x2 (x3 + 1))))
theorem k4_X0_hasCase_2 (N : Nat) : ∀ (n : Nat) (σ : CS) (x2 : Int32) (x3 : Int32), Kp4 (CS.i σ 5) (CS.i σ 13) (CS.i σ 14) (CS.a σ 9) (f_X0_hasCase_2 N n σ x2 x3)
  | 0, _, _, _ => kp4_none
  | n+1, σ, x2, x3 => kb4_X0_hasCase_2 N (f_X0_hasCase_2 N n) (fun σ x2 x3 => k4_X0_hasCase_2 N n σ x2 x3) σ x2 x3
theorem k4_X0_hasCase (N : Nat) (σ : CS) (x1 : Int32) (x2 : Int32) : Kp4 (CS.i σ 5) (CS.i σ 13) (CS.i σ 14) (CS.a σ 9) (f_X0_hasCase N σ x1 x2) := by
  unfold f_X0_hasCase
  exact (k4_X0_hasCase_2 N N σ x2 x1)
theorem k4_X0_addCase (N : Nat) (σ : CS) (x1 : Int32) (x2 : Int32) : Kp4 (CS.i σ 5) (CS.i σ 13) (CS.i σ 14) (CS.a σ 9) (f_X0_addCase N σ x1 x2) := by
  unfold f_X0_addCase
  exact (kp4_some (⟨rfl, rfl, rfl, rfl⟩))
theorem kb4_X0_addCases_2 (N : Nat) (K : CS → Int32 → Int32 → Int32 → Option (Unit × CS)) (hMK : ∀ (σ : CS) (x1 : Int32) (x2 : Int32) (x3 : Int32), Kp4 (CS.i σ 5) (CS.i σ 13) (CS.i σ 14) (CS.a σ 9) (K σ x1 x2 x3)) (σ : CS) (x1 : Int32) (x2 : Int32) (x3 : Int32) : Kp4 (CS.i σ 5) (CS.i σ 13) (CS.i σ 14) (CS.a σ 9) (b_X0_addCases_2 N K σ x1 x2 x3) := by
  unfold b_X0_addCases_2
  exact (kp4_ite (kp4_bind (k4_X0_add N (CS.setI σ 22 x1) 6 0) (fun p2 => (kp4_bind (k4_X0_add N p2.2 30 x2) (fun p6 => (kp4_some (⟨rfl, rfl, rfl, rfl⟩)))))) (kp4_bind (k4_X0_add N σ 0 (gAt (σ.a 18) 320 x3)) (fun p11 => (kp4_bind (k4_X0_add N p11.2 34 (gAt (p11.2.a 19) 320 x3)) (fun p16 => (hMK p16.2 x1 x2 (x3 + 1)))))))
theorem k4_X0_addCases_2 (N : Nat) : ∀ (n : Nat) (σ : CS) (x1 : Int32) (x2 : Int32) (x3 : Int32), Kp4 (CS.i σ 5) (CS.i σ 13) (CS.i σ 14) (CS.a σ 9) (f_X0_addCases_2 N n σ x1 x2 x3)
  | 0, _, _, _, _ => kp4_none
  | n+1, σ, x1, x2, x3 => kb4_X0_addCases_2 N (f_X0_addCases_2 N n) (fun σ x1 x2 x3 => k4_X0_addCases_2 N n σ x1 x2 x3) σ x1 x2 x3
theorem k4_X0_addCases (N : Nat) (σ : CS) (x1 : Int32) (x2 : Int32) : Kp4 (CS.i σ 5) (CS.i σ 13) (CS.i σ 14) (CS.a σ 9) (f_X0_addCases N σ x1 x2) := by
  unfold f_X0_addCases
  exact (k4_X0_addCases_2 N N σ x1 x2 x1)
theorem k4_X9_stop (N : Nat) (σ : CS) : Kp4 (CS.i σ 5) (CS.i σ 13) (CS.i σ 14) (CS.a σ 9) (f_X9_stop N σ) := by
  unfold f_X9_stop
  exact (kp4_some (⟨rfl, rfl, rfl, rfl⟩))
theorem k4_X1_fail (N : Nat) (σ : CS) (x1 : Int32) (x2 : Int32) : Kp4 (CS.i σ 5) (CS.i σ 13) (CS.i σ 14) (CS.a σ 9) (f_X1_fail N σ x1 x2) := by
  unfold f_X1_fail
  exact (kp4_ite (kp4_bind (k4_X9_stop N (CS.setI (CS.setI σ 32 x1) 33 x2)) (fun p2 => (kp4_some (⟨rfl, rfl, rfl, rfl⟩)))) (kp4_some (⟨rfl, rfl, rfl, rfl⟩)))
theorem k4_X1_found (N : Nat) (σ : CS) (x1 : Int32) : Kp4 (CS.i σ 5) (CS.i σ 13) (CS.i σ 14) (CS.a σ 9) (f_X1_found N σ x1) := by
  unfold f_X1_found
  exact (kp4_ite (kp4_some (⟨rfl, rfl, rfl, rfl⟩)) (kp4_some (⟨rfl, rfl, rfl, rfl⟩)))
theorem k4_X1_misplaced (N : Nat) (σ : CS) : Kp4 (CS.i σ 5) (CS.i σ 13) (CS.i σ 14) (CS.a σ 9) (f_X1_misplaced N σ) := by
  unfold f_X1_misplaced
  exact (kp4_bind (k4_X1_found N σ 6) (fun p1 => (kp4_ite (kp4_bind (k4_X1_fail N p1.2 2 (p1.2.i 44)) (fun p6 => (kp4_some (⟨rfl, rfl, rfl, rfl⟩)))) (kp4_bind (k4_X1_fail N p1.2 1 (p1.2.i 44)) (fun p10 => (kp4_some (⟨rfl, rfl, rfl, rfl⟩)))))))
theorem k4_X9_byteAt_30 (N : Nat) (σ : CS) : Kp4 (CS.i σ 5) (CS.i σ 13) (CS.i σ 14) (CS.a σ 9) (f_X9_byteAt_30 N σ ) := by
  unfold f_X9_byteAt_30
  exact (kp4_some (⟨rfl, rfl, rfl, rfl⟩))
theorem k4_X9_byteAt (N : Nat) (σ : CS) (x1 : Int32) : Kp4 (CS.i σ 5) (CS.i σ 13) (CS.i σ 14) (CS.a σ 9) (f_X9_byteAt N σ x1) := by
  unfold f_X9_byteAt
  exact (kp4_ite (k4_X9_byteAt_30 N σ) (kp4_ite (k4_X9_byteAt_30 N σ) (kp4_ite (k4_X9_byteAt_30 N σ) (kp4_ite (kp4_some (⟨rfl, rfl, rfl, rfl⟩)) kp4_none))))
theorem k4_X9_isDigit_16 (N : Nat) (σ : CS) : Kp4 (CS.i σ 5) (CS.i σ 13) (CS.i σ 14) (CS.a σ 9) (f_X9_isDigit_16 N σ ) := by
  unfold f_X9_isDigit_16
  exact (kp4_some (⟨rfl, rfl, rfl, rfl⟩))
theorem k4_X9_isDigit (N : Nat) (σ : CS) (x0 : Int32) : Kp4 (CS.i σ 5) (CS.i σ 13) (CS.i σ 14) (CS.a σ 9) (f_X9_isDigit N σ x0) := by
  unfold f_X9_isDigit
  exact (kp4_ite (k4_X9_isDigit_16 N σ) (kp4_ite (k4_X9_isDigit_16 N σ) (kp4_some (⟨rfl, rfl, rfl, rfl⟩))))
theorem k4_X9_takeNumber_67 (N : Nat) (σ : CS) : Kp4 (CS.i σ 5) (CS.i σ 13) (CS.i σ 14) (CS.a σ 9) (f_X9_takeNumber_67 N σ ) := by
  unfold f_X9_takeNumber_67
  exact (kp4_ite (kp4_some (⟨rfl, rfl, rfl, rfl⟩)) (kp4_some (⟨rfl, rfl, rfl, rfl⟩)))
theorem kb4_X9_takeNumber_7 (N : Nat) (K : CS → Int32 → Option (Unit × CS)) (hMK : ∀ (σ : CS) (x1 : Int32), Kp4 (CS.i σ 5) (CS.i σ 13) (CS.i σ 14) (CS.a σ 9) (K σ x1)) (σ : CS) (x1 : Int32) : Kp4 (CS.i σ 5) (CS.i σ 13) (CS.i σ 14) (CS.a σ 9) (b_X9_takeNumber_7 N K σ x1) := by
  unfold b_X9_takeNumber_7
  exact (kp4_ite (k4_X9_takeNumber_67 N σ) (kp4_bind (k4_X9_byteAt N σ (σ.i 42)) (fun p3 => (kp4_bind (k4_X9_isDigit N p3.2 p3.1) (fun p7 => (kp4_ite (k4_X9_takeNumber_67 N p7.2) (kp4_bind (k4_X9_byteAt N p7.2 (p7.2.i 42)) (fun p12 => (hMK (CS.setI (CS.setI p12.2 45 ((((p7.2.i 45) * 10) + p12.1) - 48)) 42 ((p12.2.i 42) + 1)) (x1 + 1))))))))))
theorem k4_X9_takeNumber_7 (N : Nat) : ∀ (n : Nat) (σ : CS) (x1 : Int32), Kp4 (CS.i σ 5) (CS.i σ 13) (CS.i σ 14) (CS.a σ 9) (f_X9_takeNumber_7 N n σ x1)
  | 0, _, _ => kp4_none
  | n+1, σ, x1 => kb4_X9_takeNumber_7 N (f_X9_takeNumber_7 N n) (fun σ x1 => k4_X9_takeNumber_7 N n σ x1) σ x1
theorem k4_X9_takeNumber (N : Nat) (σ : CS) : Kp4 (CS.i σ 5) (CS.i σ 13) (CS.i σ 14) (CS.a σ 9) (f_X9_takeNumber N σ) := by
  unfold f_X9_takeNumber
  exact (k4_X9_takeNumber_7 N N (CS.setI σ 45 0) 0)
theorem k4_X9_isLetter_16 (N : Nat) (σ : CS) : Kp4 (CS.i σ 5) (CS.i σ 13) (CS.i σ 14) (CS.a σ 9) (f_X9_isLetter_16 N σ ) := by
  unfold f_X9_isLetter_16
  exact (kp4_some (⟨rfl, rfl, rfl, rfl⟩))
theorem k4_X9_isLetter (N : Nat) (σ : CS) (x0 : Int32) : Kp4 (CS.i σ 5) (CS.i σ 13) (CS.i σ 14) (CS.a σ 9) (f_X9_isLetter N σ x0) := by
  unfold f_X9_isLetter
  exact (kp4_ite (k4_X9_isLetter_16 N σ) (kp4_ite (k4_X9_isLetter_16 N σ) (kp4_some (⟨rfl, rfl, rfl, rfl⟩))))
theorem k4_X9_rowType_171 (N : Nat) (σ : CS) (x6 : Int64) : Kp4 (CS.i σ 5) (CS.i σ 13) (CS.i σ 14) (CS.a σ 9) (f_X9_rowType_171 N σ x6) := by
  unfold f_X9_rowType_171
  exact (kp4_ite (kp4_ite (kp4_some (⟨rfl, rfl, rfl, rfl⟩)) (kp4_some (⟨rfl, rfl, rfl, rfl⟩))) (kp4_ite (kp4_ite (kp4_some (⟨rfl, rfl, rfl, rfl⟩)) (kp4_ite (kp4_some (⟨rfl, rfl, rfl, rfl⟩)) (kp4_some (⟨rfl, rfl, rfl, rfl⟩)))) (kp4_some (⟨rfl, rfl, rfl, rfl⟩))))
theorem k4_X9_rowType_153 (N : Nat) (σ : CS) (x2 : Int64) (x4 : Int32) (x6 : Int64) : Kp4 (CS.i σ 5) (CS.i σ 13) (CS.i σ 14) (CS.a σ 9) (f_X9_rowType_153 N σ x2 x4 x6) := by
  unfold f_X9_rowType_153
  exact (kp4_ite (k4_X9_rowType_171 N (CS.setI σ 45 (((x2 : Int64).toInt32) + 10)) x6) (k4_X9_rowType_171 N (CS.setI σ 45 (((x2 : Int64).toInt32) + 0)) x6))
theorem k4_X9_rowType_129 (N : Nat) (σ : CS) (x2 : Int64) (x4 : Int32) : Kp4 (CS.i σ 5) (CS.i σ 13) (CS.i σ 14) (CS.a σ 9) (f_X9_rowType_129 N σ x2 x4) := by
  unfold f_X9_rowType_129
  exact (kp4_ite (k4_X9_rowType_153 N σ x2 x4 (σ.l >>> ((16 : Int32).toInt64 &&& 63))) (k4_X9_rowType_153 N σ x2 x4 (σ.l >>> ((8 : Int32).toInt64 &&& 63))))
theorem k4_X9_rowType_117 (N : Nat) (σ : CS) (x2 : Int64) (x4 : Int32) (x5 : Int32) : Kp4 (CS.i σ 5) (CS.i σ 13) (CS.i σ 14) (CS.a σ 9) (f_X9_rowType_117 N σ x2 x4 x5) := by
  unfold f_X9_rowType_117
  exact (kp4_ite (kp4_ite (kp4_some (⟨rfl, rfl, rfl, rfl⟩)) (k4_X9_rowType_129 N σ x2 x4)) (k4_X9_rowType_129 N σ x2 x4))
theorem k4_X9_rowType_114 (N : Nat) (σ : CS) (x2 : Int64) (x4 : Int32) : Kp4 (CS.i σ 5) (CS.i σ 13) (CS.i σ 14) (CS.a σ 9) (f_X9_rowType_114 N σ x2 x4) := by
  unfold f_X9_rowType_114
  exact (k4_X9_rowType_117 N σ x2 x4 0)
theorem k4_X9_rowType_73 (N : Nat) (σ : CS) (x1 : Int32) (x2 : Int64) (x4 : Int32) : Kp4 (CS.i σ 5) (CS.i σ 13) (CS.i σ 14) (CS.a σ 9) (f_X9_rowType_73 N σ x1 x2 x4) := by
  unfold f_X9_rowType_73
  exact (kp4_ite (kp4_ite (k4_X9_rowType_114 N σ x2 x4) (kp4_ite (k4_X9_rowType_114 N σ x2 x4) (kp4_ite (k4_X9_rowType_117 N σ x2 x4 1) (k4_X9_rowType_114 N σ x2 x4)))) (k4_X9_rowType_114 N σ x2 x4))
theorem k4_X9_rowType_70 (N : Nat) (σ : CS) (x1 : Int32) (x2 : Int64) : Kp4 (CS.i σ 5) (CS.i σ 13) (CS.i σ 14) (CS.a σ 9) (f_X9_rowType_70 N σ x1 x2) := by
  unfold f_X9_rowType_70
  exact (k4_X9_rowType_73 N σ x1 x2 0)
theorem kb4_X9_rowType_2 (N : Nat) (K : CS → Int32 → Int32 → Option (Int32 × CS)) (hMK : ∀ (σ : CS) (x1 : Int32) (x2 : Int32), Kp4 (CS.i σ 5) (CS.i σ 13) (CS.i σ 14) (CS.a σ 9) (K σ x1 x2)) (σ : CS) (x1 : Int32) (x2 : Int32) : Kp4 (CS.i σ 5) (CS.i σ 13) (CS.i σ 14) (CS.a σ 9) (b_X9_rowType_2 N K σ x1 x2) := by
  unfold b_X9_rowType_2
  exact (kp4_ite (kp4_ite (kp4_ite (k4_X9_rowType_70 N σ x1 ((σ.l &&& 255) - 48)) (kp4_ite (k4_X9_rowType_70 N σ x1 ((σ.l &&& 255) - 48)) (k4_X9_rowType_73 N σ x1 ((σ.l &&& 255) - 48) 1))) (k4_X9_rowType_70 N σ x1 ((σ.l &&& 255) - 48))) (kp4_ite (kp4_ite (kp4_some (⟨rfl, rfl, rfl, rfl⟩)) (hMK σ x1 (x2 + 1))) kp4_none))
theorem k4_X9_rowType_2 (N : Nat) : ∀ (n : Nat) (σ : CS) (x1 : Int32) (x2 : Int32), Kp4 (CS.i σ 5) (CS.i σ 13) (CS.i σ 14) (CS.a σ 9) (f_X9_rowType_2 N n σ x1 x2)
  | 0, _, _, _ => kp4_none
  | n+1, σ, x1, x2 => kb4_X9_rowType_2 N (f_X9_rowType_2 N n) (fun σ x1 x2 => k4_X9_rowType_2 N n σ x1 x2) σ x1 x2
theorem k4_X9_rowType (N : Nat) (σ : CS) (x1 : Int32) : Kp4 (CS.i σ 5) (CS.i σ 13) (CS.i σ 14) (CS.a σ 9) (f_X9_rowType N σ x1) := by
  unfold f_X9_rowType
  exact (k4_X9_rowType_2 N N σ x1 0)
theorem k4_X9_takeRow_79 (N : Nat) (σ : CS) : Kp4 (CS.i σ 5) (CS.i σ 13) (CS.i σ 14) (CS.a σ 9) (f_X9_takeRow_79 N σ ) := by
  unfold f_X9_takeRow_79
  exact (kp4_ite (kp4_bind (k4_X9_rowType N σ ((σ.i 42) - (σ.i 44))) (fun p3 => (kp4_some (⟨rfl, rfl, rfl, rfl⟩)))) (kp4_some (⟨rfl, rfl, rfl, rfl⟩)))
theorem kb4_X9_takeRow_7 (N : Nat) (K : CS → Int32 → Option (Unit × CS)) (hMK : ∀ (σ : CS) (x1 : Int32), Kp4 (CS.i σ 5) (CS.i σ 13) (CS.i σ 14) (CS.a σ 9) (K σ x1)) (σ : CS) (x1 : Int32) : Kp4 (CS.i σ 5) (CS.i σ 13) (CS.i σ 14) (CS.a σ 9) (b_X9_takeRow_7 N K σ x1) := by
  unfold b_X9_takeRow_7
  exact (kp4_ite (k4_X9_takeRow_79 N σ) (kp4_bind (k4_X9_byteAt N σ (σ.i 42)) (fun p7 => (kp4_bind (k4_X9_isDigit N p7.2 p7.1) (fun p11 => (kp4_ite (kp4_bind (k4_X9_byteAt N p11.2 (p11.2.i 42)) (fun p20 => (kp4_bind (k4_X9_isLetter N p20.2 p20.1) (fun p24 => (kp4_ite (k4_X9_takeRow_79 N p24.2) (kp4_bind (k4_X9_byteAt N p24.2 (p24.2.i 42)) (fun p29 => (hMK (CS.setI (CS.setL p29.2 ((p24.2.l <<< ((8 : Int32).toInt64 &&& 63)) ||| (p29.1 : Int32).toInt64)) 42 ((p29.2.i 42) + 1)) (x1 + 1))))))))) (kp4_bind (k4_X9_byteAt N p11.2 (p11.2.i 42)) (fun p16 => (hMK (CS.setI (CS.setL p16.2 ((p11.2.l <<< ((8 : Int32).toInt64 &&& 63)) ||| (p16.1 : Int32).toInt64)) 42 ((p16.2.i 42) + 1)) (x1 + 1))))))))))
theorem k4_X9_takeRow_7 (N : Nat) : ∀ (n : Nat) (σ : CS) (x1 : Int32), Kp4 (CS.i σ 5) (CS.i σ 13) (CS.i σ 14) (CS.a σ 9) (f_X9_takeRow_7 N n σ x1)
  | 0, _, _ => kp4_none
  | n+1, σ, x1 => kb4_X9_takeRow_7 N (f_X9_takeRow_7 N n) (fun σ x1 => k4_X9_takeRow_7 N n σ x1) σ x1
theorem k4_X9_takeRow (N : Nat) (σ : CS) : Kp4 (CS.i σ 5) (CS.i σ 13) (CS.i σ 14) (CS.a σ 9) (f_X9_takeRow N σ) := by
  unfold f_X9_takeRow
  exact (k4_X9_takeRow_7 N N (CS.setL σ 0) 0)
theorem k4_X9_longSign_73 (N : Nat) (σ : CS) (x0 : Int32) (x1 : Int32) : Kp4 (CS.i σ 5) (CS.i σ 13) (CS.i σ 14) (CS.a σ 9) (f_X9_longSign_73 N σ x0 x1) := by
  unfold f_X9_longSign_73
  exact (kp4_ite (kp4_ite (kp4_some (⟨rfl, rfl, rfl, rfl⟩)) (kp4_ite (kp4_some (⟨rfl, rfl, rfl, rfl⟩)) (kp4_ite (kp4_some (⟨rfl, rfl, rfl, rfl⟩)) (kp4_some (⟨rfl, rfl, rfl, rfl⟩))))) (kp4_some (⟨rfl, rfl, rfl, rfl⟩)))
theorem k4_X9_longSign (N : Nat) (σ : CS) (x0 : Int32) (x1 : Int32) : Kp4 (CS.i σ 5) (CS.i σ 13) (CS.i σ 14) (CS.a σ 9) (f_X9_longSign N σ x0 x1) := by
  unfold f_X9_longSign
  exact (kp4_ite (kp4_ite (kp4_some (⟨rfl, rfl, rfl, rfl⟩)) (kp4_ite (kp4_some (⟨rfl, rfl, rfl, rfl⟩)) (kp4_ite (kp4_some (⟨rfl, rfl, rfl, rfl⟩)) (kp4_ite (kp4_some (⟨rfl, rfl, rfl, rfl⟩)) (kp4_some (⟨rfl, rfl, rfl, rfl⟩)))))) (kp4_ite (kp4_ite (kp4_some (⟨rfl, rfl, rfl, rfl⟩)) (k4_X9_longSign_73 N σ x0 x1)) (k4_X9_longSign_73 N σ x0 x1)))
theorem k4_X9_isSign (N : Nat) (σ : CS) (x0 : Int32) : Kp4 (CS.i σ 5) (CS.i σ 13) (CS.i σ 14) (CS.a σ 9) (f_X9_isSign N σ x0) := by
  unfold f_X9_isSign
  exact (kp4_ite (kp4_some (⟨rfl, rfl, rfl, rfl⟩)) (kp4_ite (kp4_some (⟨rfl, rfl, rfl, rfl⟩)) (kp4_ite (kp4_some (⟨rfl, rfl, rfl, rfl⟩)) (kp4_ite (kp4_some (⟨rfl, rfl, rfl, rfl⟩)) (kp4_ite (kp4_some (⟨rfl, rfl, rfl, rfl⟩)) (kp4_ite (kp4_some (⟨rfl, rfl, rfl, rfl⟩)) (kp4_ite (kp4_some (⟨rfl, rfl, rfl, rfl⟩)) (kp4_ite (kp4_some (⟨rfl, rfl, rfl, rfl⟩)) (kp4_ite (kp4_some (⟨rfl, rfl, rfl, rfl⟩)) (kp4_ite (kp4_some (⟨rfl, rfl, rfl, rfl⟩)) (kp4_ite (kp4_some (⟨rfl, rfl, rfl, rfl⟩)) (kp4_ite (kp4_some (⟨rfl, rfl, rfl, rfl⟩)) (kp4_ite (kp4_some (⟨rfl, rfl, rfl, rfl⟩)) (kp4_ite (kp4_some (⟨rfl, rfl, rfl, rfl⟩)) (kp4_ite (kp4_some (⟨rfl, rfl, rfl, rfl⟩)) (kp4_ite (kp4_some (⟨rfl, rfl, rfl, rfl⟩)) (kp4_ite (kp4_some (⟨rfl, rfl, rfl, rfl⟩)) (kp4_ite (kp4_some (⟨rfl, rfl, rfl, rfl⟩)) (kp4_ite (kp4_some (⟨rfl, rfl, rfl, rfl⟩)) (kp4_some (⟨rfl, rfl, rfl, rfl⟩)))))))))))))))))))))
theorem k4_X9_takeSign (N : Nat) (σ : CS) : Kp4 (CS.i σ 5) (CS.i σ 13) (CS.i σ 14) (CS.a σ 9) (f_X9_takeSign N σ) := by
  unfold f_X9_takeSign
  exact (kp4_bind (k4_X9_byteAt N σ (σ.i 42)) (fun p1 => (kp4_bind (k4_X9_byteAt N p1.2 ((p1.2.i 42) + 1)) (fun p5 => (kp4_bind (k4_X9_longSign N p5.2 p1.1 p5.1) (fun p9 => (kp4_ite (kp4_bind (k4_X9_isSign N (CS.setI (CS.setI p9.2 43 p9.1) 42 ((p9.2.i 42) + 1)) p1.1) (fun p14 => (kp4_ite (kp4_some (⟨rfl, rfl, rfl, rfl⟩)) (kp4_some (⟨rfl, rfl, rfl, rfl⟩))))) (kp4_some (⟨rfl, rfl, rfl, rfl⟩)))))))))
theorem k4_X9_advance_51 (N : Nat) (σ : CS) : Kp4 (CS.i σ 5) (CS.i σ 13) (CS.i σ 14) (CS.a σ 9) (f_X9_advance_51 N σ ) := by
  unfold f_X9_advance_51
  exact (kp4_ite (kp4_bind (k4_X9_byteAt N (CS.setI σ 44 (σ.i 42)) (σ.i 42)) (fun p3 => (kp4_bind (k4_X9_isDigit N p3.2 p3.1) (fun p7 => (kp4_ite (kp4_bind (k4_X9_byteAt N p7.2 (p7.2.i 42)) (fun p12 => (kp4_bind (k4_X9_isLetter N p12.2 p12.1) (fun p16 => (kp4_ite (kp4_bind (k4_X9_takeSign N p16.2) (fun p21 => (kp4_some (⟨rfl, rfl, rfl, rfl⟩)))) (kp4_bind (k4_X9_takeRow N p16.2) (fun p25 => (kp4_some (⟨rfl, rfl, rfl, rfl⟩))))))))) (kp4_bind (k4_X9_takeNumber N p7.2) (fun p29 => (kp4_some (⟨rfl, rfl, rfl, rfl⟩))))))))) (kp4_some (⟨rfl, rfl, rfl, rfl⟩)))
theorem kb4_X9_advance_2 (N : Nat) (K : CS → Int32 → Option (Unit × CS)) (hMK : ∀ (σ : CS) (x1 : Int32), Kp4 (CS.i σ 5) (CS.i σ 13) (CS.i σ 14) (CS.a σ 9) (K σ x1)) (σ : CS) (x1 : Int32) : Kp4 (CS.i σ 5) (CS.i σ 13) (CS.i σ 14) (CS.a σ 9) (b_X9_advance_2 N K σ x1) := by
  unfold b_X9_advance_2
  exact (kp4_ite (k4_X9_advance_51 N σ) (kp4_bind (k4_X9_byteAt N σ (σ.i 42)) (fun p33 => (kp4_ite (hMK (CS.setI p33.2 42 ((p33.2.i 42) + 1)) (x1 + 1)) (kp4_bind (k4_X9_byteAt N p33.2 (p33.2.i 42)) (fun p38 => (kp4_ite (hMK (CS.setI p38.2 42 ((p38.2.i 42) + 1)) (x1 + 1)) (k4_X9_advance_51 N p38.2))))))))
theorem k4_X9_advance_2 (N : Nat) : ∀ (n : Nat) (σ : CS) (x1 : Int32), Kp4 (CS.i σ 5) (CS.i σ 13) (CS.i σ 14) (CS.a σ 9) (f_X9_advance_2 N n σ x1)
  | 0, _, _ => kp4_none
  | n+1, σ, x1 => kb4_X9_advance_2 N (f_X9_advance_2 N n) (fun σ x1 => k4_X9_advance_2 N n σ x1) σ x1
theorem k4_X9_advance (N : Nat) (σ : CS) : Kp4 (CS.i σ 5) (CS.i σ 13) (CS.i σ 14) (CS.a σ 9) (f_X9_advance N σ) := by
  unfold f_X9_advance
  exact (k4_X9_advance_2 N N σ 0)
theorem k4_X1_skip_17 (N : Nat) (σ : CS) (x2 : Int32) : Kp4 (CS.i σ 5) (CS.i σ 13) (CS.i σ 14) (CS.a σ 9) (f_X1_skip_17 N σ x2) := by
  unfold f_X1_skip_17
  exact (kp4_ite (kp4_some (⟨rfl, rfl, rfl, rfl⟩)) kp4_none)
theorem k4_X1_skip (N : Nat) (σ : CS) (x1 : Int32) : Kp4 (CS.i σ 5) (CS.i σ 13) (CS.i σ 14) (CS.a σ 9) (f_X1_skip N σ x1) := by
  unfold f_X1_skip
  exact (kp4_bind (k4_X1_found N σ x1) (fun p1 => (kp4_ite (k4_X1_skip_17 N p1.2 p1.1) (kp4_bind (k4_X9_advance N p1.2) (fun p7 => (k4_X1_skip_17 N p7.2 p1.1))))))
theorem k4_X1_expect (N : Nat) (σ : CS) (x1 : Int32) : Kp4 (CS.i σ 5) (CS.i σ 13) (CS.i σ 14) (CS.a σ 9) (f_X1_expect N σ x1) := by
  unfold f_X1_expect
  exact (kp4_bind (k4_X1_found N σ x1) (fun p1 => (kp4_ite (kp4_bind (k4_X1_misplaced N p1.2) (fun p6 => (kp4_some (⟨rfl, rfl, rfl, rfl⟩)))) (kp4_bind (k4_X9_advance N p1.2) (fun p10 => (kp4_some (⟨rfl, rfl, rfl, rfl⟩)))))))
theorem k4_X1_open (N : Nat) (σ : CS) (x1 : Int32) : Kp4 (CS.i σ 5) (CS.i σ 13) (CS.i σ 14) (CS.a σ 9) (f_X1_open N σ x1) := by
  unfold f_X1_open
  exact (kp4_bind (k4_X1_found N σ x1) (fun p1 => (kp4_ite (kp4_bind (k4_X1_misplaced N p1.2) (fun p15 => (kp4_some (⟨rfl, rfl, rfl, rfl⟩)))) (kp4_ite (kp4_bind (k4_X9_advance N (CS.setI p1.2 34 ((p1.2.i 34) + 1))) (fun p7 => (kp4_some (⟨rfl, rfl, rfl, rfl⟩)))) (kp4_bind (k4_X1_fail N p1.2 6 (p1.2.i 44)) (fun p11 => (kp4_some (⟨rfl, rfl, rfl, rfl⟩))))))))
theorem k4_X1_close_22 (N : Nat) (σ : CS) : Kp4 (CS.i σ 5) (CS.i σ 13) (CS.i σ 14) (CS.a σ 9) (f_X1_close_22 N σ ) := by
  unfold f_X1_close_22
  exact (kp4_some (⟨rfl, rfl, rfl, rfl⟩))
theorem k4_X1_close (N : Nat) (σ : CS) (x1 : Int32) : Kp4 (CS.i σ 5) (CS.i σ 13) (CS.i σ 14) (CS.a σ 9) (f_X1_close N σ x1) := by
  unfold f_X1_close
  exact (kp4_bind (k4_X1_found N σ x1) (fun p1 => (kp4_ite (kp4_bind (k4_X1_misplaced N p1.2) (fun p6 => (k4_X1_close_22 N p6.2))) (kp4_bind (k4_X9_advance N p1.2) (fun p10 => (k4_X1_close_22 N p10.2))))))
theorem kb4_X1_product_6 (N : Nat) (E1 : CS → Option (Unit × CS)) (E2 : CS → Option (Int32 × CS)) (hm1 : ∀ σ, Kp4 (CS.i σ 5) (CS.i σ 13) (CS.i σ 14) (CS.a σ 9) (E1 σ)) (hm2 : ∀ σ, Kp4 (CS.i σ 5) (CS.i σ 13) (CS.i σ 14) (CS.a σ 9) (E2 σ)) (K : CS → Int32 → Option (Unit × CS)) (hMK : ∀ (σ : CS) (x1 : Int32), Kp4 (CS.i σ 5) (CS.i σ 13) (CS.i σ 14) (CS.a σ 9) (K σ x1)) (σ : CS) (x1 : Int32) : Kp4 (CS.i σ 5) (CS.i σ 13) (CS.i σ 14) (CS.a σ 9) (b_X1_product_6 N E1 E2 K σ x1) := by
  unfold b_X1_product_6
  exact (kp4_ite (kp4_some (⟨rfl, rfl, rfl, rfl⟩)) (kp4_bind (k4_X1_found N σ 42) (fun p6 => (kp4_ite (kp4_bind (k4_X1_found N p6.2 47) (fun p57 => (kp4_ite (kp4_bind (k4_X1_found N p57.2 37) (fun p108 => (kp4_ite (kp4_some (⟨rfl, rfl, rfl, rfl⟩)) (kp4_bind (k4_X1_found N p108.2 42) (fun p113 => (kp4_ite (kp4_bind (k4_X1_found N p113.2 47) (fun p118 => (kp4_ite (kp4_bind (k4_X9_advance N p118.2) (fun p123 => (kp4_bind (hm1 p123.2) (fun p127 => (kp4_bind (k4_X0_add N p127.2 11 0) (fun p131 => (hMK p131.2 (x1 + 1)))))))) (kp4_bind (k4_X9_advance N p118.2) (fun p135 => (kp4_bind (hm1 p135.2) (fun p139 => (kp4_bind (k4_X0_add N p139.2 10 0) (fun p143 => (hMK p143.2 (x1 + 1))))))))))) (kp4_bind (k4_X9_advance N p113.2) (fun p147 => (kp4_bind (hm1 p147.2) (fun p151 => (kp4_bind (k4_X0_add N p151.2 9 0) (fun p155 => (hMK p155.2 (x1 + 1)))))))))))))) (kp4_bind (k4_X1_found N p57.2 42) (fun p62 => (kp4_ite (kp4_bind (k4_X1_found N p62.2 47) (fun p67 => (kp4_ite (kp4_bind (k4_X9_advance N p67.2) (fun p72 => (kp4_bind (hm1 p72.2) (fun p76 => (kp4_bind (k4_X0_add N p76.2 11 0) (fun p80 => (hMK p80.2 (x1 + 1)))))))) (kp4_bind (k4_X9_advance N p67.2) (fun p84 => (kp4_bind (hm1 p84.2) (fun p88 => (kp4_bind (k4_X0_add N p88.2 10 0) (fun p92 => (hMK p92.2 (x1 + 1))))))))))) (kp4_bind (k4_X9_advance N p62.2) (fun p96 => (kp4_bind (hm1 p96.2) (fun p100 => (kp4_bind (k4_X0_add N p100.2 9 0) (fun p104 => (hMK p104.2 (x1 + 1)))))))))))))) (kp4_bind (k4_X1_found N p6.2 42) (fun p11 => (kp4_ite (kp4_bind (k4_X1_found N p11.2 47) (fun p16 => (kp4_ite (kp4_bind (k4_X9_advance N p16.2) (fun p21 => (kp4_bind (hm1 p21.2) (fun p25 => (kp4_bind (k4_X0_add N p25.2 11 0) (fun p29 => (hMK p29.2 (x1 + 1)))))))) (kp4_bind (k4_X9_advance N p16.2) (fun p33 => (kp4_bind (hm1 p33.2) (fun p37 => (kp4_bind (k4_X0_add N p37.2 10 0) (fun p41 => (hMK p41.2 (x1 + 1))))))))))) (kp4_bind (k4_X9_advance N p11.2) (fun p45 => (kp4_bind (hm1 p45.2) (fun p49 => (kp4_bind (k4_X0_add N p49.2 9 0) (fun p53 => (hMK p53.2 (x1 + 1)))))))))))))))
theorem k4_X1_product_6 (N : Nat) (E1 : CS → Option (Unit × CS)) (E2 : CS → Option (Int32 × CS)) (hm1 : ∀ σ, Kp4 (CS.i σ 5) (CS.i σ 13) (CS.i σ 14) (CS.a σ 9) (E1 σ)) (hm2 : ∀ σ, Kp4 (CS.i σ 5) (CS.i σ 13) (CS.i σ 14) (CS.a σ 9) (E2 σ)) : ∀ (n : Nat) (σ : CS) (x1 : Int32), Kp4 (CS.i σ 5) (CS.i σ 13) (CS.i σ 14) (CS.a σ 9) (f_X1_product_6 N E1 E2 n σ x1)
  | 0, _, _ => kp4_none
  | n+1, σ, x1 => kb4_X1_product_6 N E1 E2 hm1 hm2 (f_X1_product_6 N E1 E2 n) (fun σ x1 => k4_X1_product_6 N E1 E2 hm1 hm2 n σ x1) σ x1
theorem k4_X1_product (N : Nat) (E1 : CS → Option (Unit × CS)) (E2 : CS → Option (Int32 × CS)) (hm1 : ∀ σ, Kp4 (CS.i σ 5) (CS.i σ 13) (CS.i σ 14) (CS.a σ 9) (E1 σ)) (hm2 : ∀ σ, Kp4 (CS.i σ 5) (CS.i σ 13) (CS.i σ 14) (CS.a σ 9) (E2 σ)) (σ : CS) : Kp4 (CS.i σ 5) (CS.i σ 13) (CS.i σ 14) (CS.a σ 9) (f_X1_product N E1 E2 σ) := by
  unfold f_X1_product
  exact (kp4_bind (hm1 σ) (fun p1 => (k4_X1_product_6 N E1 E2 hm1 hm2 N p1.2 0)))
theorem kb4_X1_expression_6 (N : Nat) (E1 : CS → Option (Unit × CS)) (E2 : CS → Option (Int32 × CS)) (hm1 : ∀ σ, Kp4 (CS.i σ 5) (CS.i σ 13) (CS.i σ 14) (CS.a σ 9) (E1 σ)) (hm2 : ∀ σ, Kp4 (CS.i σ 5) (CS.i σ 13) (CS.i σ 14) (CS.a σ 9) (E2 σ)) (K : CS → Int32 → Option (Unit × CS)) (hMK : ∀ (σ : CS) (x1 : Int32), Kp4 (CS.i σ 5) (CS.i σ 13) (CS.i σ 14) (CS.a σ 9) (K σ x1)) (σ : CS) (x1 : Int32) : Kp4 (CS.i σ 5) (CS.i σ 13) (CS.i σ 14) (CS.a σ 9) (b_X1_expression_6 N E1 E2 K σ x1) := by
  unfold b_X1_expression_6
  exact (kp4_ite (kp4_some (⟨rfl, rfl, rfl, rfl⟩)) (kp4_bind (k4_X1_found N σ 43) (fun p6 => (kp4_ite (kp4_bind (k4_X1_found N p6.2 45) (fun p40 => (kp4_ite (kp4_some (⟨rfl, rfl, rfl, rfl⟩)) (kp4_bind (k4_X1_found N p40.2 43) (fun p45 => (kp4_ite (kp4_bind (k4_X9_advance N p45.2) (fun p50 => (kp4_bind (k4_X1_product N E1 E2 hm1 hm2 p50.2) (fun p54 => (kp4_bind (k4_X0_add N p54.2 8 0) (fun p58 => (hMK p58.2 (x1 + 1)))))))) (kp4_bind (k4_X9_advance N p45.2) (fun p62 => (kp4_bind (k4_X1_product N E1 E2 hm1 hm2 p62.2) (fun p66 => (kp4_bind (k4_X0_add N p66.2 7 0) (fun p70 => (hMK p70.2 (x1 + 1)))))))))))))) (kp4_bind (k4_X1_found N p6.2 43) (fun p11 => (kp4_ite (kp4_bind (k4_X9_advance N p11.2) (fun p16 => (kp4_bind (k4_X1_product N E1 E2 hm1 hm2 p16.2) (fun p20 => (kp4_bind (k4_X0_add N p20.2 8 0) (fun p24 => (hMK p24.2 (x1 + 1)))))))) (kp4_bind (k4_X9_advance N p11.2) (fun p28 => (kp4_bind (k4_X1_product N E1 E2 hm1 hm2 p28.2) (fun p32 => (kp4_bind (k4_X0_add N p32.2 7 0) (fun p36 => (hMK p36.2 (x1 + 1)))))))))))))))
theorem k4_X1_expression_6 (N : Nat) (E1 : CS → Option (Unit × CS)) (E2 : CS → Option (Int32 × CS)) (hm1 : ∀ σ, Kp4 (CS.i σ 5) (CS.i σ 13) (CS.i σ 14) (CS.a σ 9) (E1 σ)) (hm2 : ∀ σ, Kp4 (CS.i σ 5) (CS.i σ 13) (CS.i σ 14) (CS.a σ 9) (E2 σ)) : ∀ (n : Nat) (σ : CS) (x1 : Int32), Kp4 (CS.i σ 5) (CS.i σ 13) (CS.i σ 14) (CS.a σ 9) (f_X1_expression_6 N E1 E2 n σ x1)
  | 0, _, _ => kp4_none
  | n+1, σ, x1 => kb4_X1_expression_6 N E1 E2 hm1 hm2 (f_X1_expression_6 N E1 E2 n) (fun σ x1 => k4_X1_expression_6 N E1 E2 hm1 hm2 n σ x1) σ x1
theorem k4_X1_expression (N : Nat) (E1 : CS → Option (Unit × CS)) (E2 : CS → Option (Int32 × CS)) (hm1 : ∀ σ, Kp4 (CS.i σ 5) (CS.i σ 13) (CS.i σ 14) (CS.a σ 9) (E1 σ)) (hm2 : ∀ σ, Kp4 (CS.i σ 5) (CS.i σ 13) (CS.i σ 14) (CS.a σ 9) (E2 σ)) (σ : CS) : Kp4 (CS.i σ 5) (CS.i σ 13) (CS.i σ 14) (CS.a σ 9) (f_X1_expression N E1 E2 σ) := by
  unfold f_X1_expression
  exact (kp4_bind (k4_X1_product N E1 E2 hm1 hm2 σ) (fun p1 => (k4_X1_expression_6 N E1 E2 hm1 hm2 N p1.2 0)))
theorem k4_X4_find_38 (N : Nat) (σ : CS) : Kp4 (CS.i σ 5) (CS.i σ 13) (CS.i σ 14) (CS.a σ 9) (f_X4_find_38 N σ ) := by
  unfold f_X4_find_38
  exact (kp4_some (⟨rfl, rfl, rfl, rfl⟩))
theorem kb4_X4_find_2 (N : Nat) (K : CS → Int64 → Int32 → Option (Int32 × CS)) (hMK : ∀ (σ : CS) (x1 : Int64) (x3 : Int32), Kp4 (CS.i σ 5) (CS.i σ 13) (CS.i σ 14) (CS.a σ 9) (K σ x1 x3)) (σ : CS) (x1 : Int64) (x3 : Int32) : Kp4 (CS.i σ 5) (CS.i σ 13) (CS.i σ 14) (CS.a σ 9) (b_X4_find_2 N K σ x1 x3) := by
  unfold b_X4_find_2
  exact (kp4_ite (k4_X4_find_38 N σ) (kp4_ite (k4_X4_find_38 N σ) (kp4_ite (kp4_ite (kp4_some (⟨rfl, rfl, rfl, rfl⟩)) (hMK σ x1 (x3 + 1))) kp4_none)))
theorem k4_X4_find_2 (N : Nat) : ∀ (n : Nat) (σ : CS) (x1 : Int64) (x3 : Int32), Kp4 (CS.i σ 5) (CS.i σ 13) (CS.i σ 14) (CS.a σ 9) (f_X4_find_2 N n σ x1 x3)
  | 0, _, _, _ => kp4_none
  | n+1, σ, x1, x3 => kb4_X4_find_2 N (f_X4_find_2 N n) (fun σ x1 x3 => k4_X4_find_2 N n σ x1 x3) σ x1 x3
theorem k4_X4_find (N : Nat) (σ : CS) (x1 : Int64) : Kp4 (CS.i σ 5) (CS.i σ 13) (CS.i σ 14) (CS.a σ 9) (f_X4_find N σ x1) := by
  unfold f_X4_find
  exact (k4_X4_find_2 N N σ x1 0)
theorem k4_X4_cellOf (N : Nat) (σ : CS) (x1 : Int32) : Kp4 (CS.i σ 5) (CS.i σ 13) (CS.i σ 14) (CS.a σ 9) (f_X4_cellOf N σ x1) := by
  unfold f_X4_cellOf
  exact (kp4_some (⟨rfl, rfl, rfl, rfl⟩))
theorem k4_X1_loadName (N : Nat) (σ : CS) : Kp4 (CS.i σ 5) (CS.i σ 13) (CS.i σ 14) (CS.a σ 9) (f_X1_loadName N σ) := by
  unfold f_X1_loadName
  exact (kp4_bind (k4_X4_find N σ σ.l) (fun p1 => (kp4_ite (kp4_bind (k4_X4_cellOf N p1.2 p1.1) (fun p6 => (kp4_bind (k4_X0_add N p6.2 1 p6.1) (fun p10 => (kp4_bind (k4_X9_advance N p10.2) (fun p14 => (kp4_some (⟨rfl, rfl, rfl, rfl⟩)))))))) (kp4_bind (k4_X1_fail N p1.2 3 (p1.2.i 44)) (fun p18 => (kp4_some (⟨rfl, rfl, rfl, rfl⟩)))))))
theorem k4_X1_negated_17 (N : Nat) (E1 : CS → Option (Unit × CS)) (E2 : CS → Option (Int32 × CS)) (hm1 : ∀ σ, Kp4 (CS.i σ 5) (CS.i σ 13) (CS.i σ 14) (CS.a σ 9) (E1 σ)) (hm2 : ∀ σ, Kp4 (CS.i σ 5) (CS.i σ 13) (CS.i σ 14) (CS.a σ 9) (E2 σ)) (σ : CS) : Kp4 (CS.i σ 5) (CS.i σ 13) (CS.i σ 14) (CS.a σ 9) (f_X1_negated_17 N E1 E2 σ ) := by
  unfold f_X1_negated_17
  exact (kp4_bind (k4_X0_add N (CS.setI σ 34 ((σ.i 34) - 1)) 4 0) (fun p6 => (kp4_some (⟨rfl, rfl, rfl, rfl⟩))))
theorem k4_X1_negated (N : Nat) (E1 : CS → Option (Unit × CS)) (E2 : CS → Option (Int32 × CS)) (hm1 : ∀ σ, Kp4 (CS.i σ 5) (CS.i σ 13) (CS.i σ 14) (CS.a σ 9) (E1 σ)) (hm2 : ∀ σ, Kp4 (CS.i σ 5) (CS.i σ 13) (CS.i σ 14) (CS.a σ 9) (E2 σ)) (σ : CS) : Kp4 (CS.i σ 5) (CS.i σ 13) (CS.i σ 14) (CS.a σ 9) (f_X1_negated N E1 E2 σ) := by
  unfold f_X1_negated
  exact (kp4_bind (k4_X1_open N σ 45) (fun p1 => (kp4_ite (kp4_bind (hm1 p1.2) (fun p10 => (k4_X1_negated_17 N E1 E2 hm1 hm2 p10.2))) (k4_X1_negated_17 N E1 E2 hm1 hm2 p1.2))))
theorem k4_X1_caseNumber_44 (N : Nat) (σ : CS) (x1 : Int32) (x2 : Int32) (x4 : Int32) : Kp4 (CS.i σ 5) (CS.i σ 13) (CS.i σ 14) (CS.a σ 9) (f_X1_caseNumber_44 N σ x1 x2 x4) := by
  unfold f_X1_caseNumber_44
  exact (kp4_bind (k4_X0_hasCase N σ x1 x4) (fun p11 => (kp4_ite (kp4_bind (k4_X0_addCase N p11.2 x4 x2) (fun p16 => (kp4_bind (k4_X9_advance N p16.2) (fun p20 => (kp4_some (⟨rfl, rfl, rfl, rfl⟩)))))) (kp4_bind (k4_X1_fail N p11.2 4 (p11.2.i 44)) (fun p24 => (kp4_some (⟨rfl, rfl, rfl, rfl⟩)))))))
theorem k4_X1_caseNumber (N : Nat) (σ : CS) (x1 : Int32) (x2 : Int32) : Kp4 (CS.i σ 5) (CS.i σ 13) (CS.i σ 14) (CS.a σ 9) (f_X1_caseNumber N σ x1 x2) := by
  unfold f_X1_caseNumber
  exact (kp4_bind (k4_X1_skip N σ 45) (fun p1 => (kp4_bind (k4_X1_found N p1.2 1) (fun p5 => (kp4_ite (kp4_bind (k4_X1_misplaced N p5.2) (fun p28 => (kp4_some (⟨rfl, rfl, rfl, rfl⟩)))) (kp4_ite (k4_X1_caseNumber_44 N p5.2 x1 x2 (p5.2.i 45)) (k4_X1_caseNumber_44 N p5.2 x1 x2 (-(p5.2.i 45)))))))))
theorem k4_X5_init (N : Nat) (σ : CS) (x0 : Nat) : Kp4 (CS.i σ 5) (CS.i σ 13) (CS.i σ 14) (CS.a σ 9) (f_X5_init N σ x0) := by
  unfold f_X5_init
  exact (kp4_some (⟨rfl, rfl, rfl, rfl⟩))
theorem k4_X6_push_48 (N : Nat) (σ : CS) (x1 : Int32) (x2 : Int32) (x3 : Int32) (x4 : Int32) (x5 : Nat) : Kp4 (CS.i σ 5) (CS.i σ 13) (CS.i σ 14) (CS.a σ 9) (f_X6_push_48 N σ x1 x2 x3 x4 x5) := by
  unfold f_X6_push_48
  exact (kp4_ite (kp4_some (⟨rfl, rfl, rfl, rfl⟩)) kp4_none)
theorem k4_X6_push (N : Nat) (σ : CS) (x1 : Int32) (x2 : Int32) (x3 : Int32) : Kp4 (CS.i σ 5) (CS.i σ 13) (CS.i σ 14) (CS.a σ 9) (f_X6_push N σ x1 x2 x3) := by
  unfold f_X6_push
  exact (kp4_ite (kp4_oc (kp4_le (⟨rfl, rfl, rfl, rfl⟩) (kp4_bind (k4_X5_init N (CS.new σ 0) (CS.hs σ)) (fun p5 => (kp4_ite (kp4_ite (k4_X6_push_48 N (CS.setR p5.2 51 (((if (399 : Int32) < (σ.i 53) then (399 : Int32) else (σ.i 53)) : Int32).toNatClampNeg) (some (CS.hs σ))) x1 x2 x3 (if (399 : Int32) < (σ.i 53) then (399 : Int32) else (σ.i 53)) (CS.hs σ)) kp4_none) kp4_none)))) (fun a3 => (k4_X6_push_48 N σ x1 x2 x3 (if (399 : Int32) < (σ.i 53) then (399 : Int32) else (σ.i 53)) a3))) kp4_none)
theorem k4_X6_row_30 (N : Nat) (σ : CS) : Kp4 (CS.i σ 5) (CS.i σ 13) (CS.i σ 14) (CS.a σ 9) (f_X6_row_30 N σ ) := by
  unfold f_X6_row_30
  exact (kp4_some (⟨rfl, rfl, rfl, rfl⟩))
theorem k4_X6_row (N : Nat) (σ : CS) (x1 : Int32) : Kp4 (CS.i σ 5) (CS.i σ 13) (CS.i σ 14) (CS.a σ 9) (f_X6_row N σ x1) := by
  unfold f_X6_row
  exact (kp4_ite (k4_X6_row_30 N σ) (kp4_ite (k4_X6_row_30 N σ) (kp4_ite (k4_X6_row_30 N σ) (kp4_ite (kp4_oc (kp4_some (⟨rfl, rfl, rfl, rfl⟩)) (fun a6 => (kp4_some (⟨rfl, rfl, rfl, rfl⟩)))) kp4_none))))
theorem k4_X5_isLoop_40 (N : Nat) (σ : CS) : Kp4 (CS.i σ 5) (CS.i σ 13) (CS.i σ 14) (CS.a σ 9) (f_X5_isLoop_40 N σ ) := by
  unfold f_X5_isLoop_40
  exact (kp4_some (⟨rfl, rfl, rfl, rfl⟩))
theorem k4_X5_isLoop (N : Nat) (σ : CS) (x0 : Nat) : Kp4 (CS.i σ 5) (CS.i σ 13) (CS.i σ 14) (CS.a σ 9) (f_X5_isLoop N σ x0) := by
  unfold f_X5_isLoop
  exact (kp4_ite (kp4_ite (k4_X5_isLoop_40 N σ) (kp4_ite (k4_X5_isLoop_40 N σ) (kp4_ite (k4_X5_isLoop_40 N σ) (kp4_ite (k4_X5_isLoop_40 N σ) (kp4_some (⟨rfl, rfl, rfl, rfl⟩)))))) kp4_none)
theorem k4_X5_hasOneBody_37 (N : Nat) (σ : CS) : Kp4 (CS.i σ 5) (CS.i σ 13) (CS.i σ 14) (CS.a σ 9) (f_X5_hasOneBody_37 N σ ) := by
  unfold f_X5_hasOneBody_37
  exact (kp4_some (⟨rfl, rfl, rfl, rfl⟩))
theorem k4_X5_hasOneBody (N : Nat) (σ : CS) (x0 : Nat) : Kp4 (CS.i σ 5) (CS.i σ 13) (CS.i σ 14) (CS.a σ 9) (f_X5_hasOneBody N σ x0) := by
  unfold f_X5_hasOneBody
  exact (kp4_ite (kp4_bind (k4_X5_isLoop N σ x0) (fun p3 => (kp4_ite (kp4_ite (kp4_ite (k4_X5_hasOneBody_37 N p3.2) (kp4_ite (k4_X5_hasOneBody_37 N p3.2) (kp4_ite (k4_X5_hasOneBody_37 N p3.2) (kp4_some (⟨rfl, rfl, rfl, rfl⟩))))) kp4_none) (k4_X5_hasOneBody_37 N p3.2)))) kp4_none)
theorem k4_X6_pop (N : Nat) (σ : CS) : Kp4 (CS.i σ 5) (CS.i σ 13) (CS.i σ 14) (CS.a σ 9) (f_X6_pop N σ) := by
  unfold f_X6_pop
  exact (kp4_some (⟨rfl, rfl, rfl, rfl⟩))
theorem k4_X7_endIf (N : Nat) (σ : CS) (x1 : Nat) : Kp4 (CS.i σ 5) (CS.i σ 13) (CS.i σ 14) (CS.a σ 9) (f_X7_endIf N σ x1) := by
  unfold f_X7_endIf
  exact (kp4_bind (k4_X1_skip N σ 204) (fun p1 => (kp4_ite (kp4_ite (kp4_bind (k4_X0_aim N p1.2 (CS.o p1.2 x1 10)) (fun p23 => (kp4_bind (k4_X6_pop N (CS.setI p23.2 36 1)) (fun p27 => (kp4_some (⟨rfl, rfl, rfl, rfl⟩)))))) kp4_none) (kp4_ite (kp4_ite (kp4_bind (k4_X0_newTarget N (CS.setO (CS.setO (CS.setO p1.2 x1 0 204) x1 5 0) x1 6 (p1.2.i 36))) (fun p8 => (kp4_ite (kp4_bind (k4_X0_add N (CS.setO p8.2 x1 9 p8.1) 30 (CS.o (CS.setO p8.2 x1 9 p8.1) x1 9)) (fun p13 => (kp4_ite (kp4_bind (k4_X0_aim N p13.2 (CS.o p13.2 x1 10)) (fun p18 => (kp4_some (⟨rfl, rfl, rfl, rfl⟩)))) kp4_none))) kp4_none))) kp4_none) kp4_none))))
theorem k4_X6_jumpTo (N : Nat) (σ : CS) (x0 : Nat) (x1 : Int32) : Kp4 (CS.i σ 5) (CS.i σ 13) (CS.i σ 14) (CS.a σ 9) (f_X6_jumpTo N σ x0 x1) := by
  unfold f_X6_jumpTo
  exact (kp4_ite (kp4_ite (kp4_some (⟨rfl, rfl, rfl, rfl⟩)) (kp4_some (⟨rfl, rfl, rfl, rfl⟩))) kp4_none)
theorem kb4_X6_isGoneTo_5 (N : Nat) (K : CS → Nat → Int32 → Int32 → Option (Int32 × CS)) (hMK : ∀ (σ : CS) (x1 : Nat) (x2 : Int32) (x3 : Int32), Kp4 (CS.i σ 5) (CS.i σ 13) (CS.i σ 14) (CS.a σ 9) (K σ x1 x2 x3)) (σ : CS) (x1 : Nat) (x2 : Int32) (x3 : Int32) : Kp4 (CS.i σ 5) (CS.i σ 13) (CS.i σ 14) (CS.a σ 9) (b_X6_isGoneTo_5 N K σ x1 x2 x3) := by
  unfold b_X6_isGoneTo_5
  exact (kp4_ite (kp4_some (⟨rfl, rfl, rfl, rfl⟩)) (kp4_bind (k4_X6_jumpTo N σ x1 x2) (fun p4 => (kp4_ite (kp4_some (⟨rfl, rfl, rfl, rfl⟩)) (hMK p4.2 x1 x2 (x3 + 1))))))
theorem k4_X6_isGoneTo_5 (N : Nat) : ∀ (n : Nat) (σ : CS) (x1 : Nat) (x2 : Int32) (x3 : Int32), Kp4 (CS.i σ 5) (CS.i σ 13) (CS.i σ 14) (CS.a σ 9) (f_X6_isGoneTo_5 N n σ x1 x2 x3)
  | 0, _, _, _, _ => kp4_none
  | n+1, σ, x1, x2, x3 => kb4_X6_isGoneTo_5 N (f_X6_isGoneTo_5 N n) (fun σ x1 x2 x3 => k4_X6_isGoneTo_5 N n σ x1 x2 x3) σ x1 x2 x3
theorem k4_X6_isGoneTo (N : Nat) (σ : CS) (x1 : Nat) (x2 : Int32) : Kp4 (CS.i σ 5) (CS.i σ 13) (CS.i σ 14) (CS.a σ 9) (f_X6_isGoneTo N σ x1 x2) := by
  unfold f_X6_isGoneTo
  exact (kp4_ite (k4_X6_isGoneTo_5 N N σ x1 x2 (CS.o σ x1 14)) kp4_none)
theorem k4_X1_conjunction_65 (N : Nat) (E1 : CS → Option (Unit × CS)) (E2 : CS → Option (Int32 × CS)) (hm1 : ∀ σ, Kp4 (CS.i σ 5) (CS.i σ 13) (CS.i σ 14) (CS.a σ 9) (E1 σ)) (hm2 : ∀ σ, Kp4 (CS.i σ 5) (CS.i σ 13) (CS.i σ 14) (CS.a σ 9) (E2 σ)) (σ : CS) (x2 : Int32) : Kp4 (CS.i σ 5) (CS.i σ 13) (CS.i σ 14) (CS.a σ 9) (f_X1_conjunction_65 N E1 E2 σ x2) := by
  unfold f_X1_conjunction_65
  exact (kp4_bind (k4_X0_aim N σ x2) (fun p15 => (kp4_some (⟨rfl, rfl, rfl, rfl⟩))))
theorem kb4_X1_conjunction_27 (N : Nat) (E1 : CS → Option (Unit × CS)) (E2 : CS → Option (Int32 × CS)) (hm1 : ∀ σ, Kp4 (CS.i σ 5) (CS.i σ 13) (CS.i σ 14) (CS.a σ 9) (E1 σ)) (hm2 : ∀ σ, Kp4 (CS.i σ 5) (CS.i σ 13) (CS.i σ 14) (CS.a σ 9) (E2 σ)) (K : CS → Int32 → Int32 → Option (Int32 × CS)) (hMK : ∀ (σ : CS) (x2 : Int32) (x3 : Int32), Kp4 (CS.i σ 5) (CS.i σ 13) (CS.i σ 14) (CS.a σ 9) (K σ x2 x3)) (σ : CS) (x2 : Int32) (x3 : Int32) : Kp4 (CS.i σ 5) (CS.i σ 13) (CS.i σ 14) (CS.a σ 9) (b_X1_conjunction_27 N E1 E2 K σ x2 x3) := by
  unfold b_X1_conjunction_27
  exact (kp4_ite (k4_X1_conjunction_65 N E1 E2 hm1 hm2 σ x2) (kp4_bind (k4_X1_skip N σ 132) (fun p19 => (kp4_ite (k4_X1_conjunction_65 N E1 E2 hm1 hm2 p19.2 x2) (kp4_bind (k4_X0_add N p19.2 32 x2) (fun p24 => (kp4_bind (hm2 p24.2) (fun p28 => (hMK p28.2 x2 (x3 + 1))))))))))
theorem k4_X1_conjunction_27 (N : Nat) (E1 : CS → Option (Unit × CS)) (E2 : CS → Option (Int32 × CS)) (hm1 : ∀ σ, Kp4 (CS.i σ 5) (CS.i σ 13) (CS.i σ 14) (CS.a σ 9) (E1 σ)) (hm2 : ∀ σ, Kp4 (CS.i σ 5) (CS.i σ 13) (CS.i σ 14) (CS.a σ 9) (E2 σ)) : ∀ (n : Nat) (σ : CS) (x2 : Int32) (x3 : Int32), Kp4 (CS.i σ 5) (CS.i σ 13) (CS.i σ 14) (CS.a σ 9) (f_X1_conjunction_27 N E1 E2 n σ x2 x3)
  | 0, _, _, _ => kp4_none
  | n+1, σ, x2, x3 => kb4_X1_conjunction_27 N E1 E2 hm1 hm2 (f_X1_conjunction_27 N E1 E2 n) (fun σ x2 x3 => k4_X1_conjunction_27 N E1 E2 hm1 hm2 n σ x2 x3) σ x2 x3
theorem k4_X1_conjunction (N : Nat) (E1 : CS → Option (Unit × CS)) (E2 : CS → Option (Int32 × CS)) (hm1 : ∀ σ, Kp4 (CS.i σ 5) (CS.i σ 13) (CS.i σ 14) (CS.a σ 9) (E1 σ)) (hm2 : ∀ σ, Kp4 (CS.i σ 5) (CS.i σ 13) (CS.i σ 14) (CS.a σ 9) (E2 σ)) (σ : CS) : Kp4 (CS.i σ 5) (CS.i σ 13) (CS.i σ 14) (CS.a σ 9) (f_X1_conjunction N E1 E2 σ) := by
  unfold f_X1_conjunction
  exact (kp4_bind (hm2 σ) (fun p1 => (kp4_bind (k4_X1_found N p1.2 132) (fun p5 => (kp4_ite (kp4_ite (kp4_some (⟨rfl, rfl, rfl, rfl⟩)) kp4_none) (kp4_bind (k4_X0_newTarget N p5.2) (fun p10 => (k4_X1_conjunction_27 N E1 E2 hm1 hm2 N p10.2 p10.1 0))))))))
theorem k4_X1_condition_65 (N : Nat) (E1 : CS → Option (Unit × CS)) (E2 : CS → Option (Int32 × CS)) (hm1 : ∀ σ, Kp4 (CS.i σ 5) (CS.i σ 13) (CS.i σ 14) (CS.a σ 9) (E1 σ)) (hm2 : ∀ σ, Kp4 (CS.i σ 5) (CS.i σ 13) (CS.i σ 14) (CS.a σ 9) (E2 σ)) (σ : CS) (x2 : Int32) : Kp4 (CS.i σ 5) (CS.i σ 13) (CS.i σ 14) (CS.a σ 9) (f_X1_condition_65 N E1 E2 σ x2) := by
  unfold f_X1_condition_65
  exact (kp4_bind (k4_X0_aim N σ x2) (fun p15 => (kp4_some (⟨rfl, rfl, rfl, rfl⟩))))
theorem kb4_X1_condition_27 (N : Nat) (E1 : CS → Option (Unit × CS)) (E2 : CS → Option (Int32 × CS)) (hm1 : ∀ σ, Kp4 (CS.i σ 5) (CS.i σ 13) (CS.i σ 14) (CS.a σ 9) (E1 σ)) (hm2 : ∀ σ, Kp4 (CS.i σ 5) (CS.i σ 13) (CS.i σ 14) (CS.a σ 9) (E2 σ)) (K : CS → Int32 → Int32 → Option (Int32 × CS)) (hMK : ∀ (σ : CS) (x2 : Int32) (x3 : Int32), Kp4 (CS.i σ 5) (CS.i σ 13) (CS.i σ 14) (CS.a σ 9) (K σ x2 x3)) (σ : CS) (x2 : Int32) (x3 : Int32) : Kp4 (CS.i σ 5) (CS.i σ 13) (CS.i σ 14) (CS.a σ 9) (b_X1_condition_27 N E1 E2 K σ x2 x3) := by
  unfold b_X1_condition_27
  exact (kp4_ite (k4_X1_condition_65 N E1 E2 hm1 hm2 σ x2) (kp4_bind (k4_X1_skip N σ 133) (fun p19 => (kp4_ite (k4_X1_condition_65 N E1 E2 hm1 hm2 p19.2 x2) (kp4_bind (k4_X0_add N p19.2 33 x2) (fun p24 => (kp4_bind (k4_X1_conjunction N E1 E2 hm1 hm2 p24.2) (fun p28 => (hMK p28.2 x2 (x3 + 1))))))))))
theorem k4_X1_condition_27 (N : Nat) (E1 : CS → Option (Unit × CS)) (E2 : CS → Option (Int32 × CS)) (hm1 : ∀ σ, Kp4 (CS.i σ 5) (CS.i σ 13) (CS.i σ 14) (CS.a σ 9) (E1 σ)) (hm2 : ∀ σ, Kp4 (CS.i σ 5) (CS.i σ 13) (CS.i σ 14) (CS.a σ 9) (E2 σ)) : ∀ (n : Nat) (σ : CS) (x2 : Int32) (x3 : Int32), Kp4 (CS.i σ 5) (CS.i σ 13) (CS.i σ 14) (CS.a σ 9) (f_X1_condition_27 N E1 E2 n σ x2 x3)
  | 0, _, _, _ => kp4_none
  | n+1, σ, x2, x3 => kb4_X1_condition_27 N E1 E2 hm1 hm2 (f_X1_condition_27 N E1 E2 n) (fun σ x2 x3 => k4_X1_condition_27 N E1 E2 hm1 hm2 n σ x2 x3) σ x2 x3
theorem k4_X1_condition (N : Nat) (E1 : CS → Option (Unit × CS)) (E2 : CS → Option (Int32 × CS)) (hm1 : ∀ σ, Kp4 (CS.i σ 5) (CS.i σ 13) (CS.i σ 14) (CS.a σ 9) (E1 σ)) (hm2 : ∀ σ, Kp4 (CS.i σ 5) (CS.i σ 13) (CS.i σ 14) (CS.a σ 9) (E2 σ)) (σ : CS) : Kp4 (CS.i σ 5) (CS.i σ 13) (CS.i σ 14) (CS.a σ 9) (f_X1_condition N E1 E2 σ) := by
  unfold f_X1_condition
  exact (kp4_bind (k4_X1_conjunction N E1 E2 hm1 hm2 σ) (fun p1 => (kp4_bind (k4_X1_found N p1.2 133) (fun p5 => (kp4_ite (kp4_ite (kp4_some (⟨rfl, rfl, rfl, rfl⟩)) kp4_none) (kp4_bind (k4_X0_newTarget N p5.2) (fun p10 => (k4_X1_condition_27 N E1 E2 hm1 hm2 N p10.2 p10.1 0))))))))
theorem k4_X7_conditionInside (N : Nat) (E1 : CS → Option (Unit × CS)) (E2 : CS → Option (Int32 × CS)) (hm1 : ∀ σ, Kp4 (CS.i σ 5) (CS.i σ 13) (CS.i σ 14) (CS.a σ 9) (E1 σ)) (hm2 : ∀ σ, Kp4 (CS.i σ 5) (CS.i σ 13) (CS.i σ 14) (CS.a σ 9) (E2 σ)) (σ : CS) : Kp4 (CS.i σ 5) (CS.i σ 13) (CS.i σ 14) (CS.a σ 9) (f_X7_conditionInside N E1 E2 σ) := by
  unfold f_X7_conditionInside
  exact (kp4_bind (k4_X1_open N σ 40) (fun p1 => (kp4_bind (k4_X1_condition N E1 E2 hm1 hm2 p1.2) (fun p5 => (kp4_bind (k4_X1_close N p5.2 41) (fun p9 => (kp4_ite (kp4_some (⟨rfl, rfl, rfl, rfl⟩)) kp4_none)))))))
theorem k4_X7_endDo_25 (N : Nat) (E1 : CS → Option (Unit × CS)) (E2 : CS → Option (Int32 × CS)) (hm1 : ∀ σ, Kp4 (CS.i σ 5) (CS.i σ 13) (CS.i σ 14) (CS.a σ 9) (E1 σ)) (hm2 : ∀ σ, Kp4 (CS.i σ 5) (CS.i σ 13) (CS.i σ 14) (CS.a σ 9) (E2 σ)) (σ : CS) (x1 : Nat) (x2 : Int32) : Kp4 (CS.i σ 5) (CS.i σ 13) (CS.i σ 14) (CS.a σ 9) (f_X7_endDo_25 N E1 E2 σ x1 x2) := by
  unfold f_X7_endDo_25
  exact (kp4_bind (k4_X1_expect N σ 205) (fun p2 => (kp4_ite (kp4_bind (k4_X0_aim N p2.2 (CS.o p2.2 x1 10)) (fun p7 => (kp4_bind (k4_X7_conditionInside N E1 E2 hm1 hm2 p7.2) (fun p11 => (kp4_bind (k4_X1_expect N p11.2 59) (fun p15 => (kp4_ite (kp4_bind (k4_X0_add N p15.2 31 (CS.o p15.2 x1 9)) (fun p20 => (kp4_ite (kp4_bind (k4_X0_add N p20.2 30 (CS.o p20.2 x1 11)) (fun p25 => (kp4_ite (kp4_bind (k4_X0_aim N p25.2 (CS.o p25.2 x1 9)) (fun p30 => (kp4_ite (kp4_bind (k4_X6_isGoneTo N p30.2 x1 0) (fun p35 => (kp4_ite (kp4_some (⟨rfl, rfl, rfl, rfl⟩)) (kp4_some (⟨rfl, rfl, rfl, rfl⟩))))) (kp4_ite (kp4_some (⟨rfl, rfl, rfl, rfl⟩)) (kp4_bind (k4_X6_isGoneTo N p30.2 x1 0) (fun p41 => (kp4_ite (kp4_some (⟨rfl, rfl, rfl, rfl⟩)) (kp4_some (⟨rfl, rfl, rfl, rfl⟩))))))))) kp4_none))) kp4_none))) kp4_none))))))) kp4_none)))
theorem k4_X7_endDo_19 (N : Nat) (E1 : CS → Option (Unit × CS)) (E2 : CS → Option (Int32 × CS)) (hm1 : ∀ σ, Kp4 (CS.i σ 5) (CS.i σ 13) (CS.i σ 14) (CS.a σ 9) (E1 σ)) (hm2 : ∀ σ, Kp4 (CS.i σ 5) (CS.i σ 13) (CS.i σ 14) (CS.a σ 9) (E2 σ)) (σ : CS) (x1 : Nat) : Kp4 (CS.i σ 5) (CS.i σ 13) (CS.i σ 14) (CS.a σ 9) (f_X7_endDo_19 N E1 E2 σ x1) := by
  unfold f_X7_endDo_19
  exact (k4_X7_endDo_25 N E1 E2 hm1 hm2 σ x1 1)
theorem k4_X7_endDo (N : Nat) (E1 : CS → Option (Unit × CS)) (E2 : CS → Option (Int32 × CS)) (hm1 : ∀ σ, Kp4 (CS.i σ 5) (CS.i σ 13) (CS.i σ 14) (CS.a σ 9) (E1 σ)) (hm2 : ∀ σ, Kp4 (CS.i σ 5) (CS.i σ 13) (CS.i σ 14) (CS.a σ 9) (E2 σ)) (σ : CS) (x1 : Nat) : Kp4 (CS.i σ 5) (CS.i σ 13) (CS.i σ 14) (CS.a σ 9) (f_X7_endDo N E1 E2 σ x1) := by
  unfold f_X7_endDo
  exact (kp4_ite (kp4_bind (k4_X6_isGoneTo N σ x1 1) (fun p46 => (kp4_ite (k4_X7_endDo_25 N E1 E2 hm1 hm2 p46.2 x1 0) (k4_X7_endDo_19 N E1 E2 hm1 hm2 p46.2 x1)))) (k4_X7_endDo_19 N E1 E2 hm1 hm2 σ x1))
theorem k4_X7_endBody_193 (N : Nat) (E1 : CS → Option (Unit × CS)) (E2 : CS → Option (Int32 × CS)) (hm1 : ∀ σ, Kp4 (CS.i σ 5) (CS.i σ 13) (CS.i σ 14) (CS.a σ 9) (E1 σ)) (hm2 : ∀ σ, Kp4 (CS.i σ 5) (CS.i σ 13) (CS.i σ 14) (CS.a σ 9) (E2 σ)) (σ : CS) (x1 : Nat) : Kp4 (CS.i σ 5) (CS.i σ 13) (CS.i σ 14) (CS.a σ 9) (f_X7_endBody_193 N E1 E2 σ x1) := by
  unfold f_X7_endBody_193
  exact (kp4_ite (kp4_bind (k4_X6_pop N (CS.setI σ 50 (CS.o σ x1 3))) (fun p14 => (kp4_some (⟨rfl, rfl, rfl, rfl⟩)))) kp4_none)
theorem k4_X7_endBody_88 (N : Nat) (E1 : CS → Option (Unit × CS)) (E2 : CS → Option (Int32 × CS)) (hm1 : ∀ σ, Kp4 (CS.i σ 5) (CS.i σ 13) (CS.i σ 14) (CS.a σ 9) (E1 σ)) (hm2 : ∀ σ, Kp4 (CS.i σ 5) (CS.i σ 13) (CS.i σ 14) (CS.a σ 9) (E2 σ)) (σ : CS) (x1 : Nat) : Kp4 (CS.i σ 5) (CS.i σ 13) (CS.i σ 14) (CS.a σ 9) (f_X7_endBody_88 N E1 E2 σ x1) := by
  unfold f_X7_endBody_88
  exact (k4_X7_endBody_193 N E1 E2 hm1 hm2 σ x1)
theorem k4_X7_endBody_130 (N : Nat) (E1 : CS → Option (Unit × CS)) (E2 : CS → Option (Int32 × CS)) (hm1 : ∀ σ, Kp4 (CS.i σ 5) (CS.i σ 13) (CS.i σ 14) (CS.a σ 9) (E1 σ)) (hm2 : ∀ σ, Kp4 (CS.i σ 5) (CS.i σ 13) (CS.i σ 14) (CS.a σ 9) (E2 σ)) (σ : CS) (x1 : Nat) : Kp4 (CS.i σ 5) (CS.i σ 13) (CS.i σ 14) (CS.a σ 9) (f_X7_endBody_130 N E1 E2 σ x1) := by
  unfold f_X7_endBody_130
  exact (k4_X7_endBody_193 N E1 E2 hm1 hm2 σ x1)
theorem k4_X7_endBody (N : Nat) (E1 : CS → Option (Unit × CS)) (E2 : CS → Option (Int32 × CS)) (hm1 : ∀ σ, Kp4 (CS.i σ 5) (CS.i σ 13) (CS.i σ 14) (CS.a σ 9) (E1 σ)) (hm2 : ∀ σ, Kp4 (CS.i σ 5) (CS.i σ 13) (CS.i σ 14) (CS.a σ 9) (E2 σ)) (σ : CS) (x1 : Nat) : Kp4 (CS.i σ 5) (CS.i σ 13) (CS.i σ 14) (CS.a σ 9) (f_X7_endBody N E1 E2 σ x1) := by
  unfold f_X7_endBody
  exact (kp4_ite (kp4_ite (kp4_bind (k4_X7_endIf N σ x1) (fun p3 => (kp4_some (⟨rfl, rfl, rfl, rfl⟩)))) (kp4_ite (kp4_bind (k4_X0_aim N σ (CS.o σ x1 9)) (fun p8 => (kp4_ite (kp4_ite (kp4_ite (k4_X7_endBody_88 N E1 E2 hm1 hm2 (CS.setI p8.2 36 0) x1) (k4_X7_endBody_88 N E1 E2 hm1 hm2 (CS.setI p8.2 36 1) x1)) kp4_none) (k4_X7_endBody_88 N E1 E2 hm1 hm2 (CS.setI p8.2 36 1) x1)))) (kp4_ite (kp4_bind (k4_X7_endDo N E1 E2 hm1 hm2 σ x1) (fun p21 => (k4_X7_endBody_193 N E1 E2 hm1 hm2 p21.2 x1))) (kp4_ite (kp4_bind (k4_X0_aim N σ (CS.o σ x1 9)) (fun p26 => (kp4_ite (kp4_bind (k4_X6_isGoneTo N p26.2 x1 0) (fun p31 => (kp4_ite (k4_X7_endBody_130 N E1 E2 hm1 hm2 (CS.setI p31.2 36 0) x1) (k4_X7_endBody_130 N E1 E2 hm1 hm2 (CS.setI p31.2 36 1) x1)))) (k4_X7_endBody_130 N E1 E2 hm1 hm2 (CS.setI p26.2 36 1) x1)))) (kp4_bind (k4_X0_add N σ 30 (CS.o σ x1 10)) (fun p36 => (kp4_ite (kp4_bind (k4_X0_aim N p36.2 (CS.o p36.2 x1 9)) (fun p41 => (kp4_ite (kp4_ite (k4_X7_endBody_193 N E1 E2 hm1 hm2 (CS.setI p41.2 36 1) x1) (kp4_bind (k4_X6_isGoneTo N p41.2 x1 0) (fun p47 => (kp4_ite (k4_X7_endBody_193 N E1 E2 hm1 hm2 (CS.setI p47.2 36 0) x1) (k4_X7_endBody_193 N E1 E2 hm1 hm2 (CS.setI p47.2 36 1) x1))))) kp4_none))) kp4_none))))))) kp4_none)
theorem k4_X7_notReached (N : Nat) (σ : CS) (x1 : Int32) : Kp4 (CS.i σ 5) (CS.i σ 13) (CS.i σ 14) (CS.a σ 9) (f_X7_notReached N σ x1) := by
  unfold f_X7_notReached
  exact (kp4_ite (kp4_some (⟨rfl, rfl, rfl, rfl⟩)) (kp4_some (⟨rfl, rfl, rfl, rfl⟩)))
theorem k4_X4_isCaught (N : Nat) (σ : CS) (x1 : Int32) : Kp4 (CS.i σ 5) (CS.i σ 13) (CS.i σ 14) (CS.a σ 9) (f_X4_isCaught N σ x1) := by
  unfold f_X4_isCaught
  exact (kp4_ite (kp4_some (⟨rfl, rfl, rfl, rfl⟩)) (kp4_some (⟨rfl, rfl, rfl, rfl⟩)))
theorem k4_X7_change_63 (N : Nat) (E1 : CS → Option (Unit × CS)) (E2 : CS → Option (Int32 × CS)) (hm1 : ∀ σ, Kp4 (CS.i σ 5) (CS.i σ 13) (CS.i σ 14) (CS.a σ 9) (E1 σ)) (hm2 : ∀ σ, Kp4 (CS.i σ 5) (CS.i σ 13) (CS.i σ 14) (CS.a σ 9) (E2 σ)) (σ : CS) (x3 : Int32) : Kp4 (CS.i σ 5) (CS.i σ 13) (CS.i σ 14) (CS.a σ 9) (f_X7_change_63 N E1 E2 σ x3) := by
  unfold f_X7_change_63
  exact (kp4_bind (k4_X1_fail N σ 3 x3) (fun p11 => (kp4_some (⟨rfl, rfl, rfl, rfl⟩))))
theorem k4_X7_change_72 (N : Nat) (E1 : CS → Option (Unit × CS)) (E2 : CS → Option (Int32 × CS)) (hm1 : ∀ σ, Kp4 (CS.i σ 5) (CS.i σ 13) (CS.i σ 14) (CS.a σ 9) (E1 σ)) (hm2 : ∀ σ, Kp4 (CS.i σ 5) (CS.i σ 13) (CS.i σ 14) (CS.a σ 9) (E2 σ)) (σ : CS) (x5 : Int32) (x6 : Int32) : Kp4 (CS.i σ 5) (CS.i σ 13) (CS.i σ 14) (CS.a σ 9) (f_X7_change_72 N E1 E2 σ x5 x6) := by
  unfold f_X7_change_72
  exact (kp4_ite (kp4_bind (k4_X1_misplaced N σ) (fun p46 => (kp4_some (⟨rfl, rfl, rfl, rfl⟩)))) (kp4_bind (k4_X1_skip N σ 135) (fun p17 => (kp4_ite (kp4_bind (k4_X9_advance N p17.2) (fun p22 => (kp4_bind (k4_X1_expression N E1 E2 hm1 hm2 p22.2) (fun p26 => (kp4_bind (k4_X4_cellOf N p26.2 x5) (fun p30 => (kp4_bind (k4_X0_add N p30.2 2 p30.1) (fun p34 => (kp4_some (⟨rfl, rfl, rfl, rfl⟩)))))))))) (kp4_bind (k4_X4_cellOf N p17.2 x5) (fun p38 => (kp4_bind (k4_X0_add N p38.2 3 p38.1) (fun p42 => (kp4_some (⟨rfl, rfl, rfl, rfl⟩))))))))))
theorem k4_X7_change_41 (N : Nat) (E1 : CS → Option (Unit × CS)) (E2 : CS → Option (Int32 × CS)) (hm1 : ∀ σ, Kp4 (CS.i σ 5) (CS.i σ 13) (CS.i σ 14) (CS.a σ 9) (E1 σ)) (hm2 : ∀ σ, Kp4 (CS.i σ 5) (CS.i σ 13) (CS.i σ 14) (CS.a σ 9) (E2 σ)) (σ : CS) (x3 : Int32) (x5 : Int32) (x6 : Int32) : Kp4 (CS.i σ 5) (CS.i σ 13) (CS.i σ 14) (CS.a σ 9) (f_X7_change_41 N E1 E2 σ x3 x5 x6) := by
  unfold f_X7_change_41
  exact (kp4_ite (k4_X7_change_63 N E1 E2 hm1 hm2 σ x3) (kp4_ite (k4_X7_change_72 N E1 E2 hm1 hm2 σ x5 x6) (kp4_bind (k4_X4_isCaught N σ x5) (fun p50 => (kp4_ite (k4_X7_change_72 N E1 E2 hm1 hm2 p50.2 x5 x6) (k4_X7_change_63 N E1 E2 hm1 hm2 p50.2 x3))))))
theorem k4_X7_change_34 (N : Nat) (E1 : CS → Option (Unit × CS)) (E2 : CS → Option (Int32 × CS)) (hm1 : ∀ σ, Kp4 (CS.i σ 5) (CS.i σ 13) (CS.i σ 14) (CS.a σ 9) (E1 σ)) (hm2 : ∀ σ, Kp4 (CS.i σ 5) (CS.i σ 13) (CS.i σ 14) (CS.a σ 9) (E2 σ)) (σ : CS) (x3 : Int32) (x5 : Int32) : Kp4 (CS.i σ 5) (CS.i σ 13) (CS.i σ 14) (CS.a σ 9) (f_X7_change_34 N E1 E2 σ x3 x5) := by
  unfold f_X7_change_34
  exact (k4_X7_change_41 N E1 E2 hm1 hm2 σ x3 x5 1)
theorem k4_X7_change_38 (N : Nat) (E1 : CS → Option (Unit × CS)) (E2 : CS → Option (Int32 × CS)) (hm1 : ∀ σ, Kp4 (CS.i σ 5) (CS.i σ 13) (CS.i σ 14) (CS.a σ 9) (E1 σ)) (hm2 : ∀ σ, Kp4 (CS.i σ 5) (CS.i σ 13) (CS.i σ 14) (CS.a σ 9) (E2 σ)) (σ : CS) (x3 : Int32) (x5 : Int32) : Kp4 (CS.i σ 5) (CS.i σ 13) (CS.i σ 14) (CS.a σ 9) (f_X7_change_38 N E1 E2 σ x3 x5) := by
  unfold f_X7_change_38
  exact (k4_X7_change_41 N E1 E2 hm1 hm2 σ x3 x5 0)
theorem k4_X7_change (N : Nat) (E1 : CS → Option (Unit × CS)) (E2 : CS → Option (Int32 × CS)) (hm1 : ∀ σ, Kp4 (CS.i σ 5) (CS.i σ 13) (CS.i σ 14) (CS.a σ 9) (E1 σ)) (hm2 : ∀ σ, Kp4 (CS.i σ 5) (CS.i σ 13) (CS.i σ 14) (CS.a σ 9) (E2 σ)) (σ : CS) (x1 : Int64) (x3 : Int32) (x4 : Int32) : Kp4 (CS.i σ 5) (CS.i σ 13) (CS.i σ 14) (CS.a σ 9) (f_X7_change N E1 E2 σ x1 x3 x4) := by
  unfold f_X7_change
  exact (kp4_bind (k4_X4_find N σ x1) (fun p1 => (kp4_bind (k4_X1_found N p1.2 61) (fun p5 => (kp4_ite (kp4_ite (k4_X7_change_38 N E1 E2 hm1 hm2 p5.2 x3 p1.1) (kp4_bind (k4_X1_found N p5.2 135) (fun p56 => (kp4_ite (k4_X7_change_38 N E1 E2 hm1 hm2 p56.2 x3 p1.1) (k4_X7_change_34 N E1 E2 hm1 hm2 p56.2 x3 p1.1))))) (k4_X7_change_34 N E1 E2 hm1 hm2 p5.2 x3 p1.1))))))
theorem kb4_X6_labelled_7 (N : Nat) (K : CS → Int64 → Int32 → Option (Int32 × CS)) (hMK : ∀ (σ : CS) (x1 : Int64) (x3 : Int32), Kp4 (CS.i σ 5) (CS.i σ 13) (CS.i σ 14) (CS.a σ 9) (K σ x1 x3)) (σ : CS) (x1 : Int64) (x3 : Int32) : Kp4 (CS.i σ 5) (CS.i σ 13) (CS.i σ 14) (CS.a σ 9) (b_X6_labelled_7 N K σ x1 x3) := by
  unfold b_X6_labelled_7
  exact (kp4_ite (kp4_some (⟨rfl, rfl, rfl, rfl⟩)) (kp4_bind (k4_X6_row N σ x3) (fun p2 => (kp4_oc (hMK p2.2 x1 (x3 + (-1))) (fun a7 => (kp4_ite (kp4_ite (kp4_ite (kp4_some (⟨rfl, rfl, rfl, rfl⟩)) (hMK p2.2 x1 (x3 + (-1)))) (hMK p2.2 x1 (x3 + (-1)))) kp4_none))))))
theorem k4_X6_labelled_7 (N : Nat) : ∀ (n : Nat) (σ : CS) (x1 : Int64) (x3 : Int32), Kp4 (CS.i σ 5) (CS.i σ 13) (CS.i σ 14) (CS.a σ 9) (f_X6_labelled_7 N n σ x1 x3)
  | 0, _, _, _ => kp4_none
  | n+1, σ, x1, x3 => kb4_X6_labelled_7 N (f_X6_labelled_7 N n) (fun σ x1 x3 => k4_X6_labelled_7 N n σ x1 x3) σ x1 x3
theorem k4_X6_labelled (N : Nat) (σ : CS) (x1 : Int64) : Kp4 (CS.i σ 5) (CS.i σ 13) (CS.i σ 14) (CS.a σ 9) (f_X6_labelled N σ x1) := by
  unfold f_X6_labelled
  exact (k4_X6_labelled_7 N N σ x1 ((σ.i 53) - 1))
theorem k4_X7_named_73 (N : Nat) (E1 : CS → Option (Unit × CS)) (E2 : CS → Option (Int32 × CS)) (hm1 : ∀ σ, Kp4 (CS.i σ 5) (CS.i σ 13) (CS.i σ 14) (CS.a σ 9) (E1 σ)) (hm2 : ∀ σ, Kp4 (CS.i σ 5) (CS.i σ 13) (CS.i σ 14) (CS.a σ 9) (E2 σ)) (σ : CS) (x1 : Int64) : Kp4 (CS.i σ 5) (CS.i σ 13) (CS.i σ 14) (CS.a σ 9) (f_X7_named_73 N E1 E2 σ x1) := by
  unfold f_X7_named_73
  exact (kp4_bind (k4_X9_advance N σ) (fun p15 => (kp4_bind (k4_X6_push N p15.2 303 (p15.2.i 38) (p15.2.i 50)) (fun p19 => (kp4_oc kp4_none (fun a24 => (kp4_ite (kp4_bind (k4_X0_newTarget N (CS.setOl p19.2 a24 x1)) (fun p26 => (kp4_ite (kp4_some (⟨rfl, rfl, rfl, rfl⟩)) kp4_none))) kp4_none)))))))
theorem k4_X7_named (N : Nat) (E1 : CS → Option (Unit × CS)) (E2 : CS → Option (Int32 × CS)) (hm1 : ∀ σ, Kp4 (CS.i σ 5) (CS.i σ 13) (CS.i σ 14) (CS.a σ 9) (E1 σ)) (hm2 : ∀ σ, Kp4 (CS.i σ 5) (CS.i σ 13) (CS.i σ 14) (CS.a σ 9) (E2 σ)) (σ : CS) : Kp4 (CS.i σ 5) (CS.i σ 13) (CS.i σ 14) (CS.a σ 9) (f_X7_named N E1 E2 σ) := by
  unfold f_X7_named
  exact (kp4_bind (k4_X9_advance N σ) (fun p1 => (kp4_bind (k4_X1_found N p1.2 58) (fun p5 => (kp4_ite (kp4_bind (k4_X0_add N p5.2 51 0) (fun p35 => (kp4_bind (k4_X7_change N E1 E2 hm1 hm2 p35.2 σ.l (σ.i 44) 1) (fun p39 => (kp4_bind (k4_X1_expect N p39.2 59) (fun p43 => (kp4_some (⟨rfl, rfl, rfl, rfl⟩)))))))) (kp4_bind (k4_X6_labelled N p5.2 σ.l) (fun p10 => (kp4_ite (k4_X7_named_73 N E1 E2 hm1 hm2 p10.2 σ.l) (kp4_bind (k4_X1_fail N p10.2 4 (σ.i 44)) (fun p31 => (k4_X7_named_73 N E1 E2 hm1 hm2 p31.2 σ.l)))))))))))
theorem k4_X7_newName_56 (N : Nat) (σ : CS) (x1 : Int64) : Kp4 (CS.i σ 5) (CS.i σ 13) (CS.i σ 14) (CS.a σ 9) (f_X7_newName_56 N σ x1) := by
  unfold f_X7_newName_56
  exact (kp4_some (⟨rfl, rfl, rfl, rfl⟩))
theorem k4_X7_newName (N : Nat) (σ : CS) : Kp4 (CS.i σ 5) (CS.i σ 13) (CS.i σ 14) (CS.a σ 9) (f_X7_newName N σ) := by
  unfold f_X7_newName
  exact (kp4_bind (k4_X1_found N σ 2) (fun p1 => (kp4_ite (kp4_bind (k4_X1_misplaced N p1.2) (fun p19 => (k4_X7_newName_56 N p19.2 σ.l))) (kp4_bind (k4_X4_find N p1.2 σ.l) (fun p6 => (kp4_ite (kp4_bind (k4_X9_advance N p6.2) (fun p11 => (k4_X7_newName_56 N p11.2 σ.l))) (kp4_bind (k4_X1_fail N p6.2 4 (p6.2.i 44)) (fun p15 => (k4_X7_newName_56 N p15.2 σ.l)))))))))
theorem k4_X4_add (N : Nat) (σ : CS) (x1 : Int64) (x3 : Int32) (x4 : Int32) : Kp4 (CS.i σ 5) (CS.i σ 13) (CS.i σ 14) (CS.a σ 9) (f_X4_add N σ x1 x3 x4) := by
  unfold f_X4_add
  exact (kp4_ite (kp4_some (⟨rfl, rfl, rfl, rfl⟩)) (kp4_ite (kp4_some (⟨rfl, rfl, rfl, rfl⟩)) kp4_none))
theorem k4_X7_tell (N : Nat) (σ : CS) (x1 : Int64) : Kp4 (CS.i σ 5) (CS.i σ 13) (CS.i σ 14) (CS.a σ 9) (f_X7_tell N σ x1) := by
  unfold f_X7_tell
  exact (kp4_bind (k4_X0_newCells N σ 1) (fun p1 => (kp4_bind (k4_X4_add N p1.2 x1 p1.1 (-1)) (fun p5 => (kp4_some (⟨rfl, rfl, rfl, rfl⟩))))))
theorem k4_X7_define (N : Nat) (E1 : CS → Option (Unit × CS)) (E2 : CS → Option (Int32 × CS)) (hm1 : ∀ σ, Kp4 (CS.i σ 5) (CS.i σ 13) (CS.i σ 14) (CS.a σ 9) (E1 σ)) (hm2 : ∀ σ, Kp4 (CS.i σ 5) (CS.i σ 13) (CS.i σ 14) (CS.a σ 9) (E2 σ)) (σ : CS) (x1 : Int64) : Kp4 (CS.i σ 5) (CS.i σ 13) (CS.i σ 14) (CS.a σ 9) (f_X7_define N E1 E2 σ x1) := by
  unfold f_X7_define
  exact (kp4_bind (k4_X1_expect N σ 61) (fun p1 => (kp4_bind (k4_X1_expression N E1 E2 hm1 hm2 p1.2) (fun p5 => (kp4_bind (k4_X7_tell N p5.2 x1) (fun p9 => (kp4_bind (k4_X0_add N p9.2 2 p9.1) (fun p13 => (kp4_some (⟨rfl, rfl, rfl, rfl⟩))))))))))
theorem k4_X6_loopBehind_47 (N : Nat) (σ : CS) : Kp4 (CS.i σ 5) (CS.i σ 13) (CS.i σ 14) (CS.a σ 9) (f_X6_loopBehind_47 N σ ) := by
  unfold f_X6_loopBehind_47
  exact (kp4_some (⟨rfl, rfl, rfl, rfl⟩))
theorem k4_X6_loopBehind_32 (N : Nat) (σ : CS) (x2 : Int32) (x3 : Option Nat) : Kp4 (CS.i σ 5) (CS.i σ 13) (CS.i σ 14) (CS.a σ 9) (f_X6_loopBehind_32 N σ x2 x3) := by
  unfold f_X6_loopBehind_32
  exact (kp4_oc (k4_X6_loopBehind_47 N σ) (fun a9 => (kp4_ite (kp4_bind (k4_X5_isLoop N σ a9) (fun p12 => (kp4_ite (k4_X6_loopBehind_47 N p12.2) (kp4_some (⟨rfl, rfl, rfl, rfl⟩))))) kp4_none)))
theorem kb4_X6_loopBehind_4 (N : Nat) (K : CS → Int32 → Option (Int32 × CS)) (hMK : ∀ (σ : CS) (x2 : Int32), Kp4 (CS.i σ 5) (CS.i σ 13) (CS.i σ 14) (CS.a σ 9) (K σ x2)) (σ : CS) (x2 : Int32) : Kp4 (CS.i σ 5) (CS.i σ 13) (CS.i σ 14) (CS.a σ 9) (b_X6_loopBehind_4 N K σ x2) := by
  unfold b_X6_loopBehind_4
  exact (kp4_ite (kp4_some (⟨rfl, rfl, rfl, rfl⟩)) (kp4_bind (k4_X6_row N σ x2) (fun p2 => (kp4_oc (k4_X6_loopBehind_32 N p2.2 x2 none) (fun a7 => (kp4_ite (kp4_ite (hMK p2.2 (x2 + 1)) (k4_X6_loopBehind_32 N p2.2 x2 (some a7))) kp4_none))))))
theorem k4_X6_loopBehind_4 (N : Nat) : ∀ (n : Nat) (σ : CS) (x2 : Int32), Kp4 (CS.i σ 5) (CS.i σ 13) (CS.i σ 14) (CS.a σ 9) (f_X6_loopBehind_4 N n σ x2)
  | 0, _, _ => kp4_none
  | n+1, σ, x2 => kb4_X6_loopBehind_4 N (f_X6_loopBehind_4 N n) (fun σ x2 => k4_X6_loopBehind_4 N n σ x2) σ x2
theorem k4_X6_loopBehind (N : Nat) (σ : CS) (x1 : Int32) : Kp4 (CS.i σ 5) (CS.i σ 13) (CS.i σ 14) (CS.a σ 9) (f_X6_loopBehind N σ x1) := by
  unfold f_X6_loopBehind
  exact (k4_X6_loopBehind_4 N N σ (x1 + 1))
theorem k4_X7_labelTarget_63 (N : Nat) (σ : CS) (x2 : Int32) : Kp4 (CS.i σ 5) (CS.i σ 13) (CS.i σ 14) (CS.a σ 9) (f_X7_labelTarget_63 N σ x2) := by
  unfold f_X7_labelTarget_63
  exact (kp4_bind (k4_X9_advance N σ) (fun p7 => (kp4_some (⟨rfl, rfl, rfl, rfl⟩))))
theorem k4_X7_labelTarget (N : Nat) (σ : CS) (x1 : Int32) : Kp4 (CS.i σ 5) (CS.i σ 13) (CS.i σ 14) (CS.a σ 9) (f_X7_labelTarget N σ x1) := by
  unfold f_X7_labelTarget
  exact (kp4_bind (k4_X6_labelled N σ σ.l) (fun p1 => (kp4_ite (kp4_ite (k4_X7_labelTarget_63 N p1.2 p1.1) (kp4_bind (k4_X6_loopBehind N p1.2 p1.1) (fun p11 => (kp4_ite (k4_X7_labelTarget_63 N p11.2 p11.1) (kp4_bind (k4_X1_fail N p11.2 5 (p11.2.i 44)) (fun p16 => (k4_X7_labelTarget_63 N p16.2 p11.1))))))) (kp4_bind (k4_X1_fail N p1.2 3 (p1.2.i 44)) (fun p20 => (k4_X7_labelTarget_63 N p20.2 p1.1))))))
theorem k4_X6_nearest_46 (N : Nat) (σ : CS) (x2 : Int32) : Kp4 (CS.i σ 5) (CS.i σ 13) (CS.i σ 14) (CS.a σ 9) (f_X6_nearest_46 N σ x2) := by
  unfold f_X6_nearest_46
  exact (kp4_some (⟨rfl, rfl, rfl, rfl⟩))
theorem kb4_X6_nearest_7 (N : Nat) (K : CS → Int32 → Int32 → Option (Int32 × CS)) (hMK : ∀ (σ : CS) (x1 : Int32) (x2 : Int32), Kp4 (CS.i σ 5) (CS.i σ 13) (CS.i σ 14) (CS.a σ 9) (K σ x1 x2)) (σ : CS) (x1 : Int32) (x2 : Int32) : Kp4 (CS.i σ 5) (CS.i σ 13) (CS.i σ 14) (CS.a σ 9) (b_X6_nearest_7 N K σ x1 x2) := by
  unfold b_X6_nearest_7
  exact (kp4_ite (kp4_some (⟨rfl, rfl, rfl, rfl⟩)) (kp4_bind (k4_X6_row N σ x2) (fun p2 => (kp4_oc (hMK p2.2 x1 (x2 + (-1))) (fun a7 => (kp4_ite (kp4_bind (k4_X5_isLoop N p2.2 a7) (fun p10 => (kp4_ite (kp4_ite (kp4_ite (kp4_ite (k4_X6_nearest_46 N p10.2 x2) (hMK p10.2 x1 (x2 + (-1)))) kp4_none) (hMK p10.2 x1 (x2 + (-1)))) (k4_X6_nearest_46 N p10.2 x2)))) kp4_none))))))
theorem k4_X6_nearest_7 (N : Nat) : ∀ (n : Nat) (σ : CS) (x1 : Int32) (x2 : Int32), Kp4 (CS.i σ 5) (CS.i σ 13) (CS.i σ 14) (CS.a σ 9) (f_X6_nearest_7 N n σ x1 x2)
  | 0, _, _, _ => kp4_none
  | n+1, σ, x1, x2 => kb4_X6_nearest_7 N (f_X6_nearest_7 N n) (fun σ x1 x2 => k4_X6_nearest_7 N n σ x1 x2) σ x1 x2
theorem k4_X6_nearest (N : Nat) (σ : CS) (x1 : Int32) : Kp4 (CS.i σ 5) (CS.i σ 13) (CS.i σ 14) (CS.a σ 9) (f_X6_nearest N σ x1) := by
  unfold f_X6_nearest
  exact (k4_X6_nearest_7 N N σ x1 ((σ.i 53) - 1))
theorem k4_X6_addJump (N : Nat) (σ : CS) (x1 : Nat) (x2 : Int32) : Kp4 (CS.i σ 5) (CS.i σ 13) (CS.i σ 14) (CS.a σ 9) (f_X6_addJump N σ x1 x2) := by
  unfold f_X6_addJump
  exact (kp4_bind (k4_X6_jumpTo N σ x1 x2) (fun p1 => (kp4_some (⟨rfl, rfl, rfl, rfl⟩))))
theorem k4_X7_leave (N : Nat) (σ : CS) (x1 : Int32) (x2 : Int32) : Kp4 (CS.i σ 5) (CS.i σ 13) (CS.i σ 14) (CS.a σ 9) (f_X7_leave N σ x1 x2) := by
  unfold f_X7_leave
  exact (kp4_ite (kp4_bind (k4_X0_add N σ 30 x1) (fun p6 => (kp4_some (⟨rfl, rfl, rfl, rfl⟩)))) (kp4_bind (k4_X0_add N σ 60 ((x1 * 32) + x2)) (fun p2 => (kp4_some (⟨rfl, rfl, rfl, rfl⟩)))))
theorem k4_X7_jump_129 (N : Nat) (σ : CS) : Kp4 (CS.i σ 5) (CS.i σ 13) (CS.i σ 14) (CS.a σ 9) (f_X7_jump_129 N σ ) := by
  unfold f_X7_jump_129
  exact (kp4_some (⟨rfl, rfl, rfl, rfl⟩))
theorem k4_X7_jump_72 (N : Nat) (σ : CS) (x1 : Int32) (x3 : Int32) : Kp4 (CS.i σ 5) (CS.i σ 13) (CS.i σ 14) (CS.a σ 9) (f_X7_jump_72 N σ x1 x3) := by
  unfold f_X7_jump_72
  exact (kp4_bind (k4_X1_expect N σ 59) (fun p19 => (kp4_bind (k4_X6_row N p19.2 x3) (fun p23 => (kp4_oc (k4_X7_jump_129 N p23.2) (fun a28 => (kp4_bind (k4_X6_addJump N p23.2 a28 x1) (fun p29 => (kp4_ite (kp4_ite (kp4_bind (k4_X7_leave N p29.2 (CS.o p29.2 a28 9) (CS.o p29.2 a28 2)) (fun p35 => (k4_X7_jump_129 N p35.2))) kp4_none) (kp4_ite (kp4_bind (k4_X7_leave N p29.2 (CS.o p29.2 a28 10) (CS.o p29.2 a28 2)) (fun p40 => (k4_X7_jump_129 N p40.2))) kp4_none))))))))))
theorem k4_X7_jump (N : Nat) (σ : CS) : Kp4 (CS.i σ 5) (CS.i σ 13) (CS.i σ 14) (CS.a σ 9) (f_X7_jump N σ) := by
  unfold f_X7_jump
  exact (kp4_bind (k4_X1_found N σ 209) (fun p1 => (kp4_bind (k4_X9_advance N (CS.setI p1.2 26 ((p1.2.i 26) + 1))) (fun p5 => (kp4_bind (k4_X1_found N p5.2 2) (fun p9 => (kp4_ite (kp4_bind (k4_X6_nearest N p9.2 p1.1) (fun p14 => (kp4_ite (k4_X7_jump_72 N p14.2 p1.1 p14.1) (kp4_bind (k4_X1_fail N p14.2 5 (p1.2.i 44)) (fun p44 => (k4_X7_jump_72 N p44.2 p1.1 p14.1)))))) (kp4_bind (k4_X7_labelTarget N p9.2 p1.1) (fun p48 => (k4_X7_jump_72 N p48.2 p1.1 p48.1))))))))))
theorem k4_X7_giveBack_22 (N : Nat) (E1 : CS → Option (Unit × CS)) (E2 : CS → Option (Int32 × CS)) (hm1 : ∀ σ, Kp4 (CS.i σ 5) (CS.i σ 13) (CS.i σ 14) (CS.a σ 9) (E1 σ)) (hm2 : ∀ σ, Kp4 (CS.i σ 5) (CS.i σ 13) (CS.i σ 14) (CS.a σ 9) (E2 σ)) (σ : CS) : Kp4 (CS.i σ 5) (CS.i σ 13) (CS.i σ 14) (CS.a σ 9) (f_X7_giveBack_22 N E1 E2 σ ) := by
  unfold f_X7_giveBack_22
  exact (kp4_bind (k4_X9_advance N σ) (fun p2 => (kp4_bind (k4_X1_expression N E1 E2 hm1 hm2 p2.2) (fun p6 => (kp4_bind (k4_X0_add N p6.2 62 0) (fun p10 => (kp4_bind (k4_X1_expect N p10.2 59) (fun p14 => (kp4_some (⟨rfl, rfl, rfl, rfl⟩))))))))))
theorem k4_X7_giveBack (N : Nat) (E1 : CS → Option (Unit × CS)) (E2 : CS → Option (Int32 × CS)) (hm1 : ∀ σ, Kp4 (CS.i σ 5) (CS.i σ 13) (CS.i σ 14) (CS.a σ 9) (E1 σ)) (hm2 : ∀ σ, Kp4 (CS.i σ 5) (CS.i σ 13) (CS.i σ 14) (CS.a σ 9) (E2 σ)) (σ : CS) : Kp4 (CS.i σ 5) (CS.i σ 13) (CS.i σ 14) (CS.a σ 9) (f_X7_giveBack N E1 E2 σ) := by
  unfold f_X7_giveBack
  exact (kp4_ite (k4_X7_giveBack_22 N E1 E2 hm1 hm2 σ) (kp4_bind (k4_X1_fail N σ 5 (σ.i 44)) (fun p18 => (k4_X7_giveBack_22 N E1 E2 hm1 hm2 p18.2))))
theorem k4_X7_yieldValue (N : Nat) (E1 : CS → Option (Unit × CS)) (E2 : CS → Option (Int32 × CS)) (hm1 : ∀ σ, Kp4 (CS.i σ 5) (CS.i σ 13) (CS.i σ 14) (CS.a σ 9) (E1 σ)) (hm2 : ∀ σ, Kp4 (CS.i σ 5) (CS.i σ 13) (CS.i σ 14) (CS.a σ 9) (E2 σ)) (σ : CS) : Kp4 (CS.i σ 5) (CS.i σ 13) (CS.i σ 14) (CS.a σ 9) (f_X7_yieldValue N E1 E2 σ) := by
  unfold f_X7_yieldValue
  exact (kp4_bind (k4_X6_row N σ (σ.i 56)) (fun p1 => (kp4_oc (kp4_bind (k4_X1_fail N p1.2 5 (p1.2.i 44)) (fun p7 => (kp4_some (⟨rfl, rfl, rfl, rfl⟩)))) (fun a6 => (kp4_bind (k4_X9_advance N p1.2) (fun p11 => (kp4_bind (k4_X1_expression N E1 E2 hm1 hm2 p11.2) (fun p15 => (kp4_ite (kp4_bind (k4_X0_add N p15.2 61 (((CS.o p15.2 a6 9) * 32) + (CS.o p15.2 a6 2))) (fun p20 => (kp4_bind (k4_X1_expect N p20.2 59) (fun p24 => (kp4_some (⟨rfl, rfl, rfl, rfl⟩)))))) kp4_none)))))))))
theorem k4_X10_isKind_16 (N : Nat) (σ : CS) : Kp4 (CS.i σ 5) (CS.i σ 13) (CS.i σ 14) (CS.a σ 9) (f_X10_isKind_16 N σ ) := by
  unfold f_X10_isKind_16
  exact (kp4_some (⟨rfl, rfl, rfl, rfl⟩))
theorem k4_X10_isKind (N : Nat) (σ : CS) (x1 : Int32) : Kp4 (CS.i σ 5) (CS.i σ 13) (CS.i σ 14) (CS.a σ 9) (f_X10_isKind N σ x1) := by
  unfold f_X10_isKind
  exact (kp4_ite (k4_X10_isKind_16 N σ) (kp4_ite (k4_X10_isKind_16 N σ) (kp4_some (⟨rfl, rfl, rfl, rfl⟩))))
theorem k4_X4_frameOf (N : Nat) (σ : CS) (x1 : Int32) : Kp4 (CS.i σ 5) (CS.i σ 13) (CS.i σ 14) (CS.a σ 9) (f_X4_frameOf N σ x1) := by
  unfold f_X4_frameOf
  exact (kp4_some (⟨rfl, rfl, rfl, rfl⟩))
theorem k4_X7_throwOne_152 (N : Nat) (E1 : CS → Option (Unit × CS)) (E2 : CS → Option (Int32 × CS)) (hm1 : ∀ σ, Kp4 (CS.i σ 5) (CS.i σ 13) (CS.i σ 14) (CS.a σ 9) (E1 σ)) (hm2 : ∀ σ, Kp4 (CS.i σ 5) (CS.i σ 13) (CS.i σ 14) (CS.a σ 9) (E2 σ)) (σ : CS) : Kp4 (CS.i σ 5) (CS.i σ 13) (CS.i σ 14) (CS.a σ 9) (f_X7_throwOne_152 N E1 E2 σ ) := by
  unfold f_X7_throwOne_152
  exact (kp4_bind (k4_X1_expect N σ 59) (fun p19 => (kp4_some (⟨rfl, rfl, rfl, rfl⟩))))
theorem k4_X7_throwOne_108 (N : Nat) (E1 : CS → Option (Unit × CS)) (E2 : CS → Option (Int32 × CS)) (hm1 : ∀ σ, Kp4 (CS.i σ 5) (CS.i σ 13) (CS.i σ 14) (CS.a σ 9) (E1 σ)) (hm2 : ∀ σ, Kp4 (CS.i σ 5) (CS.i σ 13) (CS.i σ 14) (CS.a σ 9) (E2 σ)) (σ : CS) : Kp4 (CS.i σ 5) (CS.i σ 13) (CS.i σ 14) (CS.a σ 9) (f_X7_throwOne_108 N E1 E2 σ ) := by
  unfold f_X7_throwOne_108
  exact (kp4_bind (k4_X1_fail N σ 3 (σ.i 44)) (fun p28 => (kp4_some (⟨rfl, rfl, rfl, rfl⟩))))
theorem k4_X7_throwOne_46 (N : Nat) (E1 : CS → Option (Unit × CS)) (E2 : CS → Option (Int32 × CS)) (hm1 : ∀ σ, Kp4 (CS.i σ 5) (CS.i σ 13) (CS.i σ 14) (CS.a σ 9) (E1 σ)) (hm2 : ∀ σ, Kp4 (CS.i σ 5) (CS.i σ 13) (CS.i σ 14) (CS.a σ 9) (E2 σ)) (σ : CS) (x1 : Int32) : Kp4 (CS.i σ 5) (CS.i σ 13) (CS.i σ 14) (CS.a σ 9) (f_X7_throwOne_46 N E1 E2 σ x1) := by
  unfold f_X7_throwOne_46
  exact (kp4_bind (k4_X9_advance N σ) (fun p54 => (kp4_bind (k4_X1_expression N E1 E2 hm1 hm2 p54.2) (fun p58 => (kp4_bind (k4_X0_add N p58.2 63 x1) (fun p62 => (k4_X7_throwOne_152 N E1 E2 hm1 hm2 p62.2)))))))
theorem k4_X7_throwOne (N : Nat) (E1 : CS → Option (Unit × CS)) (E2 : CS → Option (Int32 × CS)) (hm1 : ∀ σ, Kp4 (CS.i σ 5) (CS.i σ 13) (CS.i σ 14) (CS.a σ 9) (E1 σ)) (hm2 : ∀ σ, Kp4 (CS.i σ 5) (CS.i σ 13) (CS.i σ 14) (CS.a σ 9) (E2 σ)) (σ : CS) : Kp4 (CS.i σ 5) (CS.i σ 13) (CS.i σ 14) (CS.a σ 9) (f_X7_throwOne N E1 E2 σ) := by
  unfold f_X7_throwOne
  exact (kp4_bind (k4_X9_advance N σ) (fun p1 => (kp4_bind (k4_X1_found N p1.2 5) (fun p5 => (kp4_ite (kp4_bind (k4_X1_found N p5.2 2) (fun p10 => (kp4_ite (kp4_bind (k4_X1_misplaced N p10.2) (fun p15 => (k4_X7_throwOne_152 N E1 E2 hm1 hm2 p15.2))) (kp4_bind (k4_X4_find N p10.2 p10.2.l) (fun p23 => (kp4_ite (k4_X7_throwOne_108 N E1 E2 hm1 hm2 p23.2) (kp4_bind (k4_X4_isCaught N p23.2 p23.1) (fun p32 => (kp4_ite (k4_X7_throwOne_108 N E1 E2 hm1 hm2 p32.2) (kp4_bind (k4_X4_frameOf N p32.2 p23.1) (fun p37 => (kp4_bind (k4_X0_add N p37.2 64 p37.1) (fun p41 => (kp4_bind (k4_X9_advance N p41.2) (fun p45 => (k4_X7_throwOne_152 N E1 E2 hm1 hm2 p45.2)))))))))))))))) (kp4_bind (k4_X10_isKind N p5.2 (p5.2.i 45)) (fun p49 => (kp4_ite (kp4_bind (k4_X1_fail N p49.2 3 (p49.2.i 44)) (fun p66 => (k4_X7_throwOne_46 N E1 E2 hm1 hm2 p66.2 (p5.2.i 45)))) (k4_X7_throwOne_46 N E1 E2 hm1 hm2 p49.2 (p5.2.i 45))))))))))
theorem k4_X7_claim_74 (N : Nat) (E1 : CS → Option (Unit × CS)) (E2 : CS → Option (Int32 × CS)) (hm1 : ∀ σ, Kp4 (CS.i σ 5) (CS.i σ 13) (CS.i σ 14) (CS.a σ 9) (E1 σ)) (hm2 : ∀ σ, Kp4 (CS.i σ 5) (CS.i σ 13) (CS.i σ 14) (CS.a σ 9) (E2 σ)) (σ : CS) (x1 : Int32) : Kp4 (CS.i σ 5) (CS.i σ 13) (CS.i σ 14) (CS.a σ 9) (f_X7_claim_74 N E1 E2 σ x1) := by
  unfold f_X7_claim_74
  exact (kp4_bind (k4_X0_add N σ 63 3) (fun p34 => (kp4_bind (k4_X0_aim N p34.2 x1) (fun p38 => (kp4_bind (k4_X1_expect N p38.2 59) (fun p42 => (kp4_some (⟨rfl, rfl, rfl, rfl⟩))))))))
theorem k4_X7_claim (N : Nat) (E1 : CS → Option (Unit × CS)) (E2 : CS → Option (Int32 × CS)) (hm1 : ∀ σ, Kp4 (CS.i σ 5) (CS.i σ 13) (CS.i σ 14) (CS.a σ 9) (E1 σ)) (hm2 : ∀ σ, Kp4 (CS.i σ 5) (CS.i σ 13) (CS.i σ 14) (CS.a σ 9) (E2 σ)) (σ : CS) : Kp4 (CS.i σ 5) (CS.i σ 13) (CS.i σ 14) (CS.a σ 9) (f_X7_claim N E1 E2 σ) := by
  unfold f_X7_claim
  exact (kp4_bind (k4_X0_newTarget N σ) (fun p1 => (kp4_bind (k4_X9_advance N p1.2) (fun p5 => (kp4_bind (k4_X0_add N p5.2 35 p1.1) (fun p9 => (kp4_bind (k4_X1_condition N E1 E2 hm1 hm2 p9.2) (fun p13 => (kp4_bind (k4_X0_add N p13.2 5 0) (fun p17 => (kp4_bind (k4_X0_add N p17.2 31 p1.1) (fun p21 => (kp4_bind (k4_X1_skip N p21.2 58) (fun p25 => (kp4_ite (kp4_bind (k4_X0_add N p25.2 0 0) (fun p30 => (k4_X7_claim_74 N E1 E2 hm1 hm2 p30.2 p1.1))) (kp4_bind (k4_X1_expression N E1 E2 hm1 hm2 p25.2) (fun p46 => (k4_X7_claim_74 N E1 E2 hm1 hm2 p46.2 p1.1))))))))))))))))))
theorem k4_X7_beginIf (N : Nat) (E1 : CS → Option (Unit × CS)) (E2 : CS → Option (Int32 × CS)) (hm1 : ∀ σ, Kp4 (CS.i σ 5) (CS.i σ 13) (CS.i σ 14) (CS.a σ 9) (E1 σ)) (hm2 : ∀ σ, Kp4 (CS.i σ 5) (CS.i σ 13) (CS.i σ 14) (CS.a σ 9) (E2 σ)) (σ : CS) : Kp4 (CS.i σ 5) (CS.i σ 13) (CS.i σ 14) (CS.a σ 9) (f_X7_beginIf N E1 E2 σ) := by
  unfold f_X7_beginIf
  exact (kp4_bind (k4_X0_newTarget N σ) (fun p1 => (kp4_bind (k4_X9_advance N p1.2) (fun p5 => (kp4_bind (k4_X7_conditionInside N E1 E2 hm1 hm2 p5.2) (fun p9 => (kp4_bind (k4_X0_add N p9.2 31 p1.1) (fun p13 => (kp4_bind (k4_X6_push N p13.2 203 (p13.2.i 38) (p13.2.i 50)) (fun p17 => (kp4_oc kp4_none (fun a22 => (kp4_ite (kp4_some (⟨rfl, rfl, rfl, rfl⟩)) kp4_none)))))))))))))
theorem k4_X7_pushLoop (N : Nat) (σ : CS) (x1 : Int32) (x2 : Int32) (x3 : Int32) : Kp4 (CS.i σ 5) (CS.i σ 13) (CS.i σ 14) (CS.a σ 9) (f_X7_pushLoop N σ x1 x2 x3) := by
  unfold f_X7_pushLoop
  exact (kp4_bind (k4_X6_push N σ x1 (σ.i 38) (σ.i 50)) (fun p1 => (kp4_oc kp4_none (fun a6 => (kp4_ite (kp4_some (⟨rfl, rfl, rfl, rfl⟩)) kp4_none)))))
theorem k4_X7_beginWhile (N : Nat) (E1 : CS → Option (Unit × CS)) (E2 : CS → Option (Int32 × CS)) (hm1 : ∀ σ, Kp4 (CS.i σ 5) (CS.i σ 13) (CS.i σ 14) (CS.a σ 9) (E1 σ)) (hm2 : ∀ σ, Kp4 (CS.i σ 5) (CS.i σ 13) (CS.i σ 14) (CS.a σ 9) (E2 σ)) (σ : CS) : Kp4 (CS.i σ 5) (CS.i σ 13) (CS.i σ 14) (CS.a σ 9) (f_X7_beginWhile N E1 E2 σ) := by
  unfold f_X7_beginWhile
  exact (kp4_bind (k4_X0_newTarget N σ) (fun p1 => (kp4_bind (k4_X0_newTarget N p1.2) (fun p5 => (kp4_bind (k4_X9_advance N p5.2) (fun p9 => (kp4_bind (k4_X0_aim N p9.2 p1.1) (fun p13 => (kp4_bind (k4_X7_conditionInside N E1 E2 hm1 hm2 p13.2) (fun p17 => (kp4_bind (k4_X0_add N p17.2 31 p5.1) (fun p21 => (kp4_bind (k4_X0_add N p21.2 51 0) (fun p25 => (kp4_bind (k4_X7_pushLoop N p25.2 205 p1.1 p5.1) (fun p29 => (kp4_oc kp4_none (fun a34 => (kp4_ite (kp4_ite (kp4_some (⟨rfl, rfl, rfl, rfl⟩)) kp4_none) kp4_none)))))))))))))))))))
theorem k4_X7_beginDo (N : Nat) (σ : CS) : Kp4 (CS.i σ 5) (CS.i σ 13) (CS.i σ 14) (CS.a σ 9) (f_X7_beginDo N σ) := by
  unfold f_X7_beginDo
  exact (kp4_bind (k4_X0_newTarget N σ) (fun p1 => (kp4_bind (k4_X0_newTarget N p1.2) (fun p5 => (kp4_bind (k4_X7_pushLoop N p5.2 206 p1.1 p5.1) (fun p9 => (kp4_oc (kp4_bind (k4_X0_newTarget N p9.2) (fun p15 => kp4_none)) (fun a14 => (kp4_bind (k4_X0_newTarget N p9.2) (fun p19 => (kp4_ite (kp4_bind (k4_X9_advance N (CS.setO p19.2 a14 11 p19.1)) (fun p24 => (kp4_ite (kp4_bind (k4_X0_aim N p24.2 (CS.o p24.2 a14 11)) (fun p29 => (kp4_bind (k4_X0_add N p29.2 51 0) (fun p33 => (kp4_some (⟨rfl, rfl, rfl, rfl⟩)))))) kp4_none))) kp4_none)))))))))))
theorem k4_X7_throwNull (N : Nat) (σ : CS) : Kp4 (CS.i σ 5) (CS.i σ 13) (CS.i σ 14) (CS.a σ 9) (f_X7_throwNull N σ) := by
  unfold f_X7_throwNull
  exact (kp4_bind (k4_X0_add N σ 0 0) (fun p1 => (kp4_bind (k4_X0_add N p1.2 63 1) (fun p5 => (kp4_some (⟨rfl, rfl, rfl, rfl⟩))))))
theorem k4_X7_rowValues_60 (N : Nat) (E1 : CS → Option (Unit × CS)) (E2 : CS → Option (Int32 × CS)) (hm1 : ∀ σ, Kp4 (CS.i σ 5) (CS.i σ 13) (CS.i σ 14) (CS.a σ 9) (E1 σ)) (hm2 : ∀ σ, Kp4 (CS.i σ 5) (CS.i σ 13) (CS.i σ 14) (CS.a σ 9) (E2 σ)) (σ : CS) (x1 : Int32) : Kp4 (CS.i σ 5) (CS.i σ 13) (CS.i σ 14) (CS.a σ 9) (f_X7_rowValues_60 N E1 E2 σ x1) := by
  unfold f_X7_rowValues_60
  exact (kp4_bind (k4_X0_newCells N σ (2 + x1)) (fun p11 => (kp4_bind (k4_X0_add N p11.2 0 x1) (fun p15 => (kp4_bind (k4_X0_add N p15.2 36 p11.1) (fun p19 => (kp4_some (⟨rfl, rfl, rfl, rfl⟩))))))))
theorem kb4_X7_rowValues_31 (N : Nat) (E1 : CS → Option (Unit × CS)) (E2 : CS → Option (Int32 × CS)) (hm1 : ∀ σ, Kp4 (CS.i σ 5) (CS.i σ 13) (CS.i σ 14) (CS.a σ 9) (E1 σ)) (hm2 : ∀ σ, Kp4 (CS.i σ 5) (CS.i σ 13) (CS.i σ 14) (CS.a σ 9) (E2 σ)) (K : CS → Int32 → Int32 → Option (Int32 × CS)) (hMK : ∀ (σ : CS) (x1 : Int32) (x2 : Int32), Kp4 (CS.i σ 5) (CS.i σ 13) (CS.i σ 14) (CS.a σ 9) (K σ x1 x2)) (σ : CS) (x1 : Int32) (x2 : Int32) : Kp4 (CS.i σ 5) (CS.i σ 13) (CS.i σ 14) (CS.a σ 9) (b_X7_rowValues_31 N E1 E2 K σ x1 x2) := by
  unfold b_X7_rowValues_31
  exact (kp4_ite (k4_X7_rowValues_60 N E1 E2 hm1 hm2 σ x1) (kp4_bind (k4_X1_skip N σ 44) (fun p23 => (kp4_ite (k4_X7_rowValues_60 N E1 E2 hm1 hm2 p23.2 x1) (kp4_bind (k4_X1_expression N E1 E2 hm1 hm2 p23.2) (fun p28 => (hMK p28.2 (x1 + 1) (x2 + 1))))))))
theorem k4_X7_rowValues_31 (N : Nat) (E1 : CS → Option (Unit × CS)) (E2 : CS → Option (Int32 × CS)) (hm1 : ∀ σ, Kp4 (CS.i σ 5) (CS.i σ 13) (CS.i σ 14) (CS.a σ 9) (E1 σ)) (hm2 : ∀ σ, Kp4 (CS.i σ 5) (CS.i σ 13) (CS.i σ 14) (CS.a σ 9) (E2 σ)) : ∀ (n : Nat) (σ : CS) (x1 : Int32) (x2 : Int32), Kp4 (CS.i σ 5) (CS.i σ 13) (CS.i σ 14) (CS.a σ 9) (f_X7_rowValues_31 N E1 E2 n σ x1 x2)
  | 0, _, _, _ => kp4_none
  | n+1, σ, x1, x2 => kb4_X7_rowValues_31 N E1 E2 hm1 hm2 (f_X7_rowValues_31 N E1 E2 n) (fun σ x1 x2 => k4_X7_rowValues_31 N E1 E2 hm1 hm2 n σ x1 x2) σ x1 x2
theorem k4_X7_rowValues (N : Nat) (E1 : CS → Option (Unit × CS)) (E2 : CS → Option (Int32 × CS)) (hm1 : ∀ σ, Kp4 (CS.i σ 5) (CS.i σ 13) (CS.i σ 14) (CS.a σ 9) (E1 σ)) (hm2 : ∀ σ, Kp4 (CS.i σ 5) (CS.i σ 13) (CS.i σ 14) (CS.a σ 9) (E2 σ)) (σ : CS) : Kp4 (CS.i σ 5) (CS.i σ 13) (CS.i σ 14) (CS.a σ 9) (f_X7_rowValues N E1 E2 σ) := by
  unfold f_X7_rowValues
  exact (kp4_bind (k4_X1_skip N σ 224) (fun p1 => (kp4_ite (kp4_bind (k4_X1_expression N E1 E2 hm1 hm2 p1.2) (fun p6 => (k4_X7_rowValues_31 N E1 E2 hm1 hm2 N p6.2 1 0))) (kp4_bind (k4_X7_throwNull N p1.2) (fun p32 => (kp4_bind (k4_X0_newCells N p32.2 2) (fun p36 => (kp4_some (⟨rfl, rfl, rfl, rfl⟩)))))))))
theorem k4_X7_rowHead (N : Nat) (E1 : CS → Option (Unit × CS)) (E2 : CS → Option (Int32 × CS)) (hm1 : ∀ σ, Kp4 (CS.i σ 5) (CS.i σ 13) (CS.i σ 14) (CS.a σ 9) (E1 σ)) (hm2 : ∀ σ, Kp4 (CS.i σ 5) (CS.i σ 13) (CS.i σ 14) (CS.a σ 9) (E2 σ)) (σ : CS) (x1 : Int64) : Kp4 (CS.i σ 5) (CS.i σ 13) (CS.i σ 14) (CS.a σ 9) (f_X7_rowHead N E1 E2 σ x1) := by
  unfold f_X7_rowHead
  exact (kp4_bind (k4_X0_newTarget N σ) (fun p1 => (kp4_bind (k4_X0_newTarget N p1.2) (fun p5 => (kp4_bind (k4_X9_advance N p5.2) (fun p9 => (kp4_bind (k4_X7_rowValues N E1 E2 hm1 hm2 p9.2) (fun p13 => (kp4_bind (k4_X1_close N p13.2 41) (fun p17 => (kp4_bind (k4_X0_aim N p17.2 p1.1) (fun p21 => (kp4_bind (k4_X0_add N p21.2 37 p13.1) (fun p25 => (kp4_bind (k4_X0_add N p25.2 31 p5.1) (fun p29 => (kp4_bind (k4_X0_add N p29.2 51 0) (fun p33 => (kp4_bind (k4_X0_add N p33.2 38 p13.1) (fun p37 => (kp4_bind (k4_X7_tell N p37.2 x1) (fun p41 => (kp4_bind (k4_X0_add N p41.2 2 p41.1) (fun p45 => (kp4_bind (k4_X7_pushLoop N p45.2 304 p1.1 p5.1) (fun p49 => (kp4_oc (kp4_some (⟨rfl, rfl, rfl, rfl⟩)) (fun a54 => (kp4_some (⟨rfl, rfl, rfl, rfl⟩))))))))))))))))))))))))))))))
theorem k4_X7_changeHere (N : Nat) (E1 : CS → Option (Unit × CS)) (E2 : CS → Option (Int32 × CS)) (hm1 : ∀ σ, Kp4 (CS.i σ 5) (CS.i σ 13) (CS.i σ 14) (CS.a σ 9) (E1 σ)) (hm2 : ∀ σ, Kp4 (CS.i σ 5) (CS.i σ 13) (CS.i σ 14) (CS.a σ 9) (E2 σ)) (σ : CS) (x1 : Int32) : Kp4 (CS.i σ 5) (CS.i σ 13) (CS.i σ 14) (CS.a σ 9) (f_X7_changeHere N E1 E2 σ x1) := by
  unfold f_X7_changeHere
  exact (kp4_bind (k4_X9_advance N σ) (fun p1 => (kp4_bind (k4_X7_change N E1 E2 hm1 hm2 p1.2 σ.l (σ.i 44) x1) (fun p5 => (kp4_some (⟨rfl, rfl, rfl, rfl⟩))))))
theorem k4_X7_forHead_113 (N : Nat) (E1 : CS → Option (Unit × CS)) (E2 : CS → Option (Int32 × CS)) (hm1 : ∀ σ, Kp4 (CS.i σ 5) (CS.i σ 13) (CS.i σ 14) (CS.a σ 9) (E1 σ)) (hm2 : ∀ σ, Kp4 (CS.i σ 5) (CS.i σ 13) (CS.i σ 14) (CS.a σ 9) (E2 σ)) (σ : CS) (x1 : Int32) (x2 : Int32) (x3 : Int32) (x4 : Int32) (x5 : Int32) : Kp4 (CS.i σ 5) (CS.i σ 13) (CS.i σ 14) (CS.a σ 9) (f_X7_forHead_113 N E1 E2 σ x1 x2 x3 x4 x5) := by
  unfold f_X7_forHead_113
  exact (kp4_bind (k4_X1_close N σ 41) (fun p47 => (kp4_bind (k4_X0_add N p47.2 30 x1) (fun p51 => (kp4_bind (k4_X0_aim N p51.2 x3) (fun p55 => (kp4_bind (k4_X0_add N p55.2 51 0) (fun p59 => (kp4_bind (k4_X7_pushLoop N p59.2 207 x2 x4) (fun p63 => (kp4_oc kp4_none (fun a68 => (kp4_ite (kp4_ite (kp4_some (⟨rfl, rfl, rfl, rfl⟩)) kp4_none) kp4_none)))))))))))))
theorem k4_X7_forHead_76 (N : Nat) (E1 : CS → Option (Unit × CS)) (E2 : CS → Option (Int32 × CS)) (hm1 : ∀ σ, Kp4 (CS.i σ 5) (CS.i σ 13) (CS.i σ 14) (CS.a σ 9) (E1 σ)) (hm2 : ∀ σ, Kp4 (CS.i σ 5) (CS.i σ 13) (CS.i σ 14) (CS.a σ 9) (E2 σ)) (σ : CS) (x1 : Int32) (x2 : Int32) (x3 : Int32) (x4 : Int32) (x5 : Int32) : Kp4 (CS.i σ 5) (CS.i σ 13) (CS.i σ 14) (CS.a σ 9) (f_X7_forHead_76 N E1 E2 σ x1 x2 x3 x4 x5) := by
  unfold f_X7_forHead_76
  exact (kp4_bind (k4_X0_add N σ 30 x3) (fun p30 => (kp4_bind (k4_X1_expect N p30.2 59) (fun p34 => (kp4_bind (k4_X0_aim N p34.2 x2) (fun p38 => (kp4_bind (k4_X1_found N p38.2 2) (fun p42 => (kp4_ite (k4_X7_forHead_113 N E1 E2 hm1 hm2 p42.2 x1 x2 x3 x4 x5) (kp4_bind (k4_X7_changeHere N E1 E2 hm1 hm2 p42.2 1) (fun p71 => (k4_X7_forHead_113 N E1 E2 hm1 hm2 p71.2 x1 x2 x3 x4 x5))))))))))))
theorem k4_X7_forHead (N : Nat) (E1 : CS → Option (Unit × CS)) (E2 : CS → Option (Int32 × CS)) (hm1 : ∀ σ, Kp4 (CS.i σ 5) (CS.i σ 13) (CS.i σ 14) (CS.a σ 9) (E1 σ)) (hm2 : ∀ σ, Kp4 (CS.i σ 5) (CS.i σ 13) (CS.i σ 14) (CS.a σ 9) (E2 σ)) (σ : CS) : Kp4 (CS.i σ 5) (CS.i σ 13) (CS.i σ 14) (CS.a σ 9) (f_X7_forHead N E1 E2 σ) := by
  unfold f_X7_forHead
  exact (kp4_bind (k4_X0_newTarget N σ) (fun p1 => (kp4_bind (k4_X0_newTarget N p1.2) (fun p5 => (kp4_bind (k4_X0_newTarget N p5.2) (fun p9 => (kp4_bind (k4_X0_newTarget N p9.2) (fun p13 => (kp4_bind (k4_X1_expect N p13.2 59) (fun p17 => (kp4_bind (k4_X0_aim N p17.2 p1.1) (fun p21 => (kp4_bind (k4_X1_found N p21.2 59) (fun p25 => (kp4_ite (kp4_bind (k4_X1_condition N E1 E2 hm1 hm2 p25.2) (fun p75 => (kp4_bind (k4_X0_add N p75.2 31 p13.1) (fun p79 => (k4_X7_forHead_76 N E1 E2 hm1 hm2 p79.2 p1.1 p5.1 p9.1 p13.1 p75.1))))) (k4_X7_forHead_76 N E1 E2 hm1 hm2 p25.2 p1.1 p5.1 p9.1 p13.1 1))))))))))))))))
theorem k4_X7_beginFor_85 (N : Nat) (E1 : CS → Option (Unit × CS)) (E2 : CS → Option (Int32 × CS)) (hm1 : ∀ σ, Kp4 (CS.i σ 5) (CS.i σ 13) (CS.i σ 14) (CS.a σ 9) (E1 σ)) (hm2 : ∀ σ, Kp4 (CS.i σ 5) (CS.i σ 13) (CS.i σ 14) (CS.a σ 9) (E2 σ)) (σ : CS) (x1 : Int32) (x2 : Option Nat) : Kp4 (CS.i σ 5) (CS.i σ 13) (CS.i σ 14) (CS.a σ 9) (f_X7_beginFor_85 N E1 E2 σ x1 x2) := by
  unfold f_X7_beginFor_85
  exact (kp4_oc kp4_none (fun a26 => (kp4_ite (kp4_some (⟨rfl, rfl, rfl, rfl⟩)) kp4_none)))
theorem k4_X7_beginFor_80 (N : Nat) (E1 : CS → Option (Unit × CS)) (E2 : CS → Option (Int32 × CS)) (hm1 : ∀ σ, Kp4 (CS.i σ 5) (CS.i σ 13) (CS.i σ 14) (CS.a σ 9) (E1 σ)) (hm2 : ∀ σ, Kp4 (CS.i σ 5) (CS.i σ 13) (CS.i σ 14) (CS.a σ 9) (E2 σ)) (σ : CS) (x1 : Int32) : Kp4 (CS.i σ 5) (CS.i σ 13) (CS.i σ 14) (CS.a σ 9) (f_X7_beginFor_80 N E1 E2 σ x1) := by
  unfold f_X7_beginFor_80
  exact (kp4_bind (k4_X7_forHead N E1 E2 hm1 hm2 σ) (fun p19 => (kp4_oc (k4_X7_beginFor_85 N E1 E2 hm1 hm2 p19.2 x1 none) (fun a24 => (k4_X7_beginFor_85 N E1 E2 hm1 hm2 p19.2 x1 (some a24))))))
theorem k4_X7_beginFor_64 (N : Nat) (E1 : CS → Option (Unit × CS)) (E2 : CS → Option (Int32 × CS)) (hm1 : ∀ σ, Kp4 (CS.i σ 5) (CS.i σ 13) (CS.i σ 14) (CS.a σ 9) (E1 σ)) (hm2 : ∀ σ, Kp4 (CS.i σ 5) (CS.i σ 13) (CS.i σ 14) (CS.a σ 9) (E2 σ)) (σ : CS) (x1 : Int32) (x2 : Option Nat) : Kp4 (CS.i σ 5) (CS.i σ 13) (CS.i σ 14) (CS.a σ 9) (f_X7_beginFor_64 N E1 E2 σ x1 x2) := by
  unfold f_X7_beginFor_64
  exact (k4_X7_beginFor_85 N E1 E2 hm1 hm2 σ x1 x2)
theorem k4_X7_beginFor (N : Nat) (E1 : CS → Option (Unit × CS)) (E2 : CS → Option (Int32 × CS)) (hm1 : ∀ σ, Kp4 (CS.i σ 5) (CS.i σ 13) (CS.i σ 14) (CS.a σ 9) (E1 σ)) (hm2 : ∀ σ, Kp4 (CS.i σ 5) (CS.i σ 13) (CS.i σ 14) (CS.a σ 9) (E2 σ)) (σ : CS) : Kp4 (CS.i σ 5) (CS.i σ 13) (CS.i σ 14) (CS.a σ 9) (f_X7_beginFor N E1 E2 σ) := by
  unfold f_X7_beginFor
  exact (kp4_bind (k4_X9_advance N σ) (fun p1 => (kp4_bind (k4_X1_open N p1.2 40) (fun p5 => (kp4_bind (k4_X1_skip N p5.2 200) (fun p9 => (kp4_ite (kp4_bind (k4_X1_found N p9.2 2) (fun p14 => (kp4_ite (k4_X7_beginFor_80 N E1 E2 hm1 hm2 p14.2 (σ.i 50)) (kp4_bind (k4_X7_changeHere N E1 E2 hm1 hm2 p14.2 0) (fun p28 => (k4_X7_beginFor_80 N E1 E2 hm1 hm2 p28.2 (σ.i 50))))))) (kp4_bind (k4_X7_newName N p9.2) (fun p32 => (kp4_bind (k4_X1_found N p32.2 58) (fun p36 => (kp4_ite (kp4_bind (k4_X7_define N E1 E2 hm1 hm2 p36.2 p32.1) (fun p41 => (kp4_bind (k4_X7_forHead N E1 E2 hm1 hm2 p41.2) (fun p45 => (kp4_oc (k4_X7_beginFor_64 N E1 E2 hm1 hm2 p45.2 (σ.i 50) none) (fun a50 => (k4_X7_beginFor_64 N E1 E2 hm1 hm2 p45.2 (σ.i 50) (some a50)))))))) (kp4_bind (k4_X7_rowHead N E1 E2 hm1 hm2 p36.2 p32.1) (fun p51 => (kp4_oc (k4_X7_beginFor_64 N E1 E2 hm1 hm2 p51.2 (σ.i 50) none) (fun a56 => (k4_X7_beginFor_64 N E1 E2 hm1 hm2 p51.2 (σ.i 50) (some a56))))))))))))))))))
theorem k4_X7_beginLock_58 (N : Nat) (σ : CS) : Kp4 (CS.i σ 5) (CS.i σ 13) (CS.i σ 14) (CS.a σ 9) (f_X7_beginLock_58 N σ ) := by
  unfold f_X7_beginLock_58
  exact (kp4_bind (k4_X1_close N σ 41) (fun p22 => (kp4_bind (k4_X1_open N p22.2 123) (fun p26 => (kp4_bind (k4_X6_push N p26.2 212 (p26.2.i 38) (p26.2.i 50)) (fun p30 => (kp4_oc (kp4_bind (k4_X0_newTarget N p30.2) (fun p36 => kp4_none)) (fun a35 => (kp4_bind (k4_X0_newTarget N p30.2) (fun p40 => (kp4_ite (kp4_some (⟨rfl, rfl, rfl, rfl⟩)) kp4_none)))))))))))
theorem k4_X7_beginLock (N : Nat) (σ : CS) : Kp4 (CS.i σ 5) (CS.i σ 13) (CS.i σ 14) (CS.a σ 9) (f_X7_beginLock N σ) := by
  unfold f_X7_beginLock
  exact (kp4_bind (k4_X9_advance N σ) (fun p1 => (kp4_bind (k4_X1_open N p1.2 40) (fun p5 => (kp4_bind (k4_X1_found N p5.2 3) (fun p9 => (kp4_ite (kp4_bind (k4_X1_expect N p9.2 224) (fun p14 => (kp4_bind (k4_X7_throwNull N p14.2) (fun p18 => (k4_X7_beginLock_58 N p18.2))))) (kp4_bind (k4_X0_add N p9.2 53 (p9.2.i 45)) (fun p45 => (kp4_bind (k4_X9_advance N p45.2) (fun p49 => (k4_X7_beginLock_58 N p49.2))))))))))))
theorem k4_X7_beginSwitch (N : Nat) (E1 : CS → Option (Unit × CS)) (E2 : CS → Option (Int32 × CS)) (hm1 : ∀ σ, Kp4 (CS.i σ 5) (CS.i σ 13) (CS.i σ 14) (CS.a σ 9) (E1 σ)) (hm2 : ∀ σ, Kp4 (CS.i σ 5) (CS.i σ 13) (CS.i σ 14) (CS.a σ 9) (E2 σ)) (σ : CS) : Kp4 (CS.i σ 5) (CS.i σ 13) (CS.i σ 14) (CS.a σ 9) (f_X7_beginSwitch N E1 E2 σ) := by
  unfold f_X7_beginSwitch
  exact (kp4_bind (k4_X9_advance N σ) (fun p1 => (kp4_bind (k4_X1_open N p1.2 40) (fun p5 => (kp4_bind (k4_X1_expression N E1 E2 hm1 hm2 p5.2) (fun p9 => (kp4_bind (k4_X1_close N p9.2 41) (fun p13 => (kp4_bind (k4_X1_open N p13.2 123) (fun p17 => (kp4_bind (k4_X6_push N p17.2 218 (p17.2.i 38) (p17.2.i 50)) (fun p21 => (kp4_oc (kp4_bind (k4_X0_newTarget N p21.2) (fun p27 => kp4_none)) (fun a26 => (kp4_bind (k4_X0_newTarget N p21.2) (fun p31 => (kp4_ite (kp4_bind (k4_X0_newTarget N (CS.setO p31.2 a26 10 p31.1)) (fun p36 => (kp4_ite (kp4_bind (k4_X0_add N (CS.setO (CS.setO p36.2 a26 9 p36.1) a26 13 (p36.2.i 22)) 30 (CS.o (CS.setO (CS.setO p36.2 a26 9 p36.1) a26 13 (p36.2.i 22)) a26 10)) (fun p41 => (kp4_some (⟨rfl, rfl, rfl, rfl⟩)))) kp4_none))) kp4_none)))))))))))))))))
theorem k4_X7_openResource (N : Nat) (σ : CS) : Kp4 (CS.i σ 5) (CS.i σ 13) (CS.i σ 14) (CS.a σ 9) (f_X7_openResource N σ) := by
  unfold f_X7_openResource
  exact (kp4_bind (k4_X1_found N σ 4) (fun p1 => (kp4_ite (kp4_bind (k4_X1_misplaced N p1.2) (fun p14 => (kp4_some (⟨rfl, rfl, rfl, rfl⟩)))) (kp4_bind (k4_X0_add N p1.2 55 (p1.2.i 45)) (fun p6 => (kp4_bind (k4_X9_advance N p6.2) (fun p10 => (kp4_some (⟨rfl, rfl, rfl, rfl⟩)))))))))
theorem k4_X7_beginTry_132 (N : Nat) (σ : CS) : Kp4 (CS.i σ 5) (CS.i σ 13) (CS.i σ 14) (CS.a σ 9) (f_X7_beginTry_132 N σ ) := by
  unfold f_X7_beginTry_132
  exact (kp4_bind (k4_X1_open N σ 123) (fun p40 => (kp4_some (⟨rfl, rfl, rfl, rfl⟩))))
theorem kb4_X7_beginTry_106 (N : Nat) (K : CS → Int32 → Option (Unit × CS)) (hMK : ∀ (σ : CS) (x2 : Int32), Kp4 (CS.i σ 5) (CS.i σ 13) (CS.i σ 14) (CS.a σ 9) (K σ x2)) (σ : CS) (x2 : Int32) : Kp4 (CS.i σ 5) (CS.i σ 13) (CS.i σ 14) (CS.a σ 9) (b_X7_beginTry_106 N K σ x2) := by
  unfold b_X7_beginTry_106
  exact (kp4_ite (k4_X7_beginTry_132 N σ) (kp4_bind (k4_X1_skip N σ 44) (fun p50 => (kp4_ite (k4_X7_beginTry_132 N p50.2) (kp4_bind (k4_X7_openResource N p50.2) (fun p55 => (hMK p55.2 (x2 + 1))))))))
theorem k4_X7_beginTry_106 (N : Nat) : ∀ (n : Nat) (σ : CS) (x2 : Int32), Kp4 (CS.i σ 5) (CS.i σ 13) (CS.i σ 14) (CS.a σ 9) (f_X7_beginTry_106 N n σ x2)
  | 0, _, _ => kp4_none
  | n+1, σ, x2 => kb4_X7_beginTry_106 N (f_X7_beginTry_106 N n) (fun σ x2 => k4_X7_beginTry_106 N n σ x2) σ x2
theorem k4_X7_beginTry (N : Nat) (σ : CS) : Kp4 (CS.i σ 5) (CS.i σ 13) (CS.i σ 14) (CS.a σ 9) (f_X7_beginTry N σ) := by
  unfold f_X7_beginTry
  exact (kp4_bind (k4_X6_push N σ 213 (σ.i 38) (σ.i 50)) (fun p1 => (kp4_oc (kp4_bind (k4_X0_newTarget N p1.2) (fun p7 => kp4_none)) (fun a6 => (kp4_bind (k4_X0_newTarget N p1.2) (fun p11 => (kp4_ite (kp4_bind (k4_X0_newTarget N (CS.setO p11.2 a6 10 p11.1)) (fun p16 => (kp4_ite (kp4_bind (k4_X0_newTarget N (CS.setO p16.2 a6 11 p16.1)) (fun p21 => (kp4_ite (kp4_bind (k4_X9_advance N (CS.setO p21.2 a6 9 p21.1)) (fun p26 => (kp4_ite (kp4_bind (k4_X0_add N p26.2 54 (CS.o p26.2 a6 10)) (fun p31 => (kp4_bind (k4_X1_skip N (CS.setI p31.2 38 ((p31.2.i 38) + 1)) 214) (fun p35 => (kp4_ite (k4_X7_beginTry_132 N p35.2) (kp4_ite (kp4_bind (k4_X7_openResource N (CS.setO p35.2 a6 8 1)) (fun p45 => (k4_X7_beginTry_106 N N p45.2 0))) kp4_none)))))) kp4_none))) kp4_none))) kp4_none))) kp4_none)))))))
theorem k4_X7_compound (N : Nat) (E1 : CS → Option (Unit × CS)) (E2 : CS → Option (Int32 × CS)) (hm1 : ∀ σ, Kp4 (CS.i σ 5) (CS.i σ 13) (CS.i σ 14) (CS.a σ 9) (E1 σ)) (hm2 : ∀ σ, Kp4 (CS.i σ 5) (CS.i σ 13) (CS.i σ 14) (CS.a σ 9) (E2 σ)) (σ : CS) : Kp4 (CS.i σ 5) (CS.i σ 13) (CS.i σ 14) (CS.a σ 9) (f_X7_compound N E1 E2 σ) := by
  unfold f_X7_compound
  exact (kp4_ite (kp4_bind (k4_X7_beginIf N E1 E2 hm1 hm2 σ) (fun p2 => (kp4_some (⟨rfl, rfl, rfl, rfl⟩)))) (kp4_ite (kp4_bind (k4_X1_misplaced N σ) (fun p7 => (kp4_some (⟨rfl, rfl, rfl, rfl⟩)))) (kp4_ite (kp4_bind (k4_X7_beginWhile N E1 E2 hm1 hm2 σ) (fun p12 => (kp4_some (⟨rfl, rfl, rfl, rfl⟩)))) (kp4_ite (kp4_bind (k4_X7_beginDo N σ) (fun p17 => (kp4_some (⟨rfl, rfl, rfl, rfl⟩)))) (kp4_ite (kp4_bind (k4_X7_beginFor N E1 E2 hm1 hm2 σ) (fun p22 => (kp4_some (⟨rfl, rfl, rfl, rfl⟩)))) (kp4_ite (kp4_bind (k4_X1_misplaced N σ) (fun p27 => (kp4_some (⟨rfl, rfl, rfl, rfl⟩)))) (kp4_ite (kp4_bind (k4_X1_misplaced N σ) (fun p32 => (kp4_some (⟨rfl, rfl, rfl, rfl⟩)))) (kp4_ite (kp4_bind (k4_X1_misplaced N σ) (fun p37 => (kp4_some (⟨rfl, rfl, rfl, rfl⟩)))) (kp4_ite (kp4_bind (k4_X1_misplaced N σ) (fun p42 => (kp4_some (⟨rfl, rfl, rfl, rfl⟩)))) (kp4_ite (kp4_bind (k4_X7_beginLock N σ) (fun p47 => (kp4_some (⟨rfl, rfl, rfl, rfl⟩)))) (kp4_ite (kp4_bind (k4_X7_beginTry N σ) (fun p52 => (kp4_some (⟨rfl, rfl, rfl, rfl⟩)))) (kp4_ite (kp4_bind (k4_X1_misplaced N σ) (fun p57 => (kp4_some (⟨rfl, rfl, rfl, rfl⟩)))) (kp4_ite (kp4_bind (k4_X1_misplaced N σ) (fun p62 => (kp4_some (⟨rfl, rfl, rfl, rfl⟩)))) (kp4_ite (kp4_bind (k4_X1_misplaced N σ) (fun p67 => (kp4_some (⟨rfl, rfl, rfl, rfl⟩)))) (kp4_ite (kp4_bind (k4_X1_misplaced N σ) (fun p72 => (kp4_some (⟨rfl, rfl, rfl, rfl⟩)))) (kp4_ite (kp4_bind (k4_X7_beginSwitch N E1 E2 hm1 hm2 σ) (fun p77 => (kp4_some (⟨rfl, rfl, rfl, rfl⟩)))) (kp4_bind (k4_X1_misplaced N σ) (fun p81 => (kp4_some (⟨rfl, rfl, rfl, rfl⟩))))))))))))))))))))
theorem k4_X7_plain (N : Nat) (E1 : CS → Option (Unit × CS)) (E2 : CS → Option (Int32 × CS)) (hm1 : ∀ σ, Kp4 (CS.i σ 5) (CS.i σ 13) (CS.i σ 14) (CS.a σ 9) (E1 σ)) (hm2 : ∀ σ, Kp4 (CS.i σ 5) (CS.i σ 13) (CS.i σ 14) (CS.a σ 9) (E2 σ)) (σ : CS) : Kp4 (CS.i σ 5) (CS.i σ 13) (CS.i σ 14) (CS.a σ 9) (f_X7_plain N E1 E2 σ) := by
  unfold f_X7_plain
  exact (kp4_ite (kp4_bind (k4_X9_advance N σ) (fun p2 => (kp4_some (⟨rfl, rfl, rfl, rfl⟩)))) (kp4_ite (kp4_bind (k4_X9_advance N σ) (fun p7 => (kp4_bind (k4_X7_newName N p7.2) (fun p11 => (kp4_bind (k4_X7_define N E1 E2 hm1 hm2 p11.2 p11.1) (fun p15 => (kp4_bind (k4_X1_expect N p15.2 59) (fun p19 => (kp4_some (⟨rfl, rfl, rfl, rfl⟩)))))))))) (kp4_ite (kp4_bind (k4_X9_advance N σ) (fun p24 => (kp4_bind (k4_X7_newName N p24.2) (fun p28 => (kp4_bind (k4_X7_define N E1 E2 hm1 hm2 p28.2 p28.1) (fun p32 => (kp4_bind (k4_X1_expect N p32.2 59) (fun p36 => (kp4_some (⟨rfl, rfl, rfl, rfl⟩)))))))))) (kp4_ite (kp4_bind (k4_X9_advance N σ) (fun p41 => (kp4_bind (k4_X1_expression N E1 E2 hm1 hm2 p41.2) (fun p45 => (kp4_bind (k4_X0_add N p45.2 52 0) (fun p49 => (kp4_bind (k4_X1_expect N p49.2 59) (fun p53 => (kp4_some (⟨rfl, rfl, rfl, rfl⟩)))))))))) (kp4_ite (kp4_bind (k4_X7_jump N σ) (fun p58 => (kp4_some (⟨rfl, rfl, rfl, rfl⟩)))) (kp4_ite (kp4_bind (k4_X7_jump N σ) (fun p63 => (kp4_some (⟨rfl, rfl, rfl, rfl⟩)))) (kp4_ite (kp4_bind (k4_X7_giveBack N E1 E2 hm1 hm2 σ) (fun p68 => (kp4_some (⟨rfl, rfl, rfl, rfl⟩)))) (kp4_ite (kp4_bind (k4_X7_throwOne N E1 E2 hm1 hm2 σ) (fun p73 => (kp4_some (⟨rfl, rfl, rfl, rfl⟩)))) (kp4_ite (kp4_bind (k4_X7_claim N E1 E2 hm1 hm2 σ) (fun p78 => (kp4_some (⟨rfl, rfl, rfl, rfl⟩)))) (kp4_ite (kp4_bind (k4_X7_yieldValue N E1 E2 hm1 hm2 σ) (fun p83 => (kp4_some (⟨rfl, rfl, rfl, rfl⟩)))) (kp4_bind (k4_X7_compound N E1 E2 hm1 hm2 σ) (fun p87 => (kp4_some (⟨rfl, rfl, rfl, rfl⟩))))))))))))))
theorem k4_X7_statement_122 (N : Nat) (E1 : CS → Option (Unit × CS)) (E2 : CS → Option (Int32 × CS)) (hm1 : ∀ σ, Kp4 (CS.i σ 5) (CS.i σ 13) (CS.i σ 14) (CS.a σ 9) (E1 σ)) (hm2 : ∀ σ, Kp4 (CS.i σ 5) (CS.i σ 13) (CS.i σ 14) (CS.a σ 9) (E2 σ)) (σ : CS) : Kp4 (CS.i σ 5) (CS.i σ 13) (CS.i σ 14) (CS.a σ 9) (f_X7_statement_122 N E1 E2 σ ) := by
  unfold f_X7_statement_122
  exact (kp4_bind (k4_X0_add N σ 51 0) (fun p13 => (kp4_bind (k4_X7_plain N E1 E2 hm1 hm2 p13.2) (fun p17 => (kp4_some (⟨rfl, rfl, rfl, rfl⟩))))))
theorem k4_X7_statement_115 (N : Nat) (E1 : CS → Option (Unit × CS)) (E2 : CS → Option (Int32 × CS)) (hm1 : ∀ σ, Kp4 (CS.i σ 5) (CS.i σ 13) (CS.i σ 14) (CS.a σ 9) (E1 σ)) (hm2 : ∀ σ, Kp4 (CS.i σ 5) (CS.i σ 13) (CS.i σ 14) (CS.a σ 9) (E2 σ)) (σ : CS) : Kp4 (CS.i σ 5) (CS.i σ 13) (CS.i σ 14) (CS.a σ 9) (f_X7_statement_115 N E1 E2 σ ) := by
  unfold f_X7_statement_115
  exact (kp4_bind (k4_X1_misplaced N σ) (fun p26 => (kp4_some (⟨rfl, rfl, rfl, rfl⟩))))
theorem k4_X7_statement_18 (N : Nat) (E1 : CS → Option (Unit × CS)) (E2 : CS → Option (Int32 × CS)) (hm1 : ∀ σ, Kp4 (CS.i σ 5) (CS.i σ 13) (CS.i σ 14) (CS.a σ 9) (E1 σ)) (hm2 : ∀ σ, Kp4 (CS.i σ 5) (CS.i σ 13) (CS.i σ 14) (CS.a σ 9) (E2 σ)) (σ : CS) (x1 : Int32) : Kp4 (CS.i σ 5) (CS.i σ 13) (CS.i σ 14) (CS.a σ 9) (f_X7_statement_18 N E1 E2 σ x1) := by
  unfold f_X7_statement_18
  exact (kp4_bind (k4_X1_found N (CS.setI (CS.setI σ 36 1) 24 ((σ.i 24) + 1)) 2) (fun p2 => (kp4_ite (kp4_bind (k4_X1_found N p2.2 123) (fun p7 => (kp4_ite (kp4_ite (k4_X7_statement_122 N E1 E2 hm1 hm2 p7.2) (kp4_bind (k4_X1_found N p7.2 200) (fun p21 => (kp4_ite (kp4_bind (k4_X1_found N p21.2 201) (fun p30 => (kp4_ite (k4_X7_statement_122 N E1 E2 hm1 hm2 p30.2) (k4_X7_statement_115 N E1 E2 hm1 hm2 p30.2)))) (k4_X7_statement_115 N E1 E2 hm1 hm2 p21.2))))) (kp4_bind (k4_X1_open N p7.2 123) (fun p35 => (kp4_bind (k4_X6_push N p35.2 301 (p35.2.i 38) (p35.2.i 50)) (fun p39 => (kp4_oc (kp4_some (⟨rfl, rfl, rfl, rfl⟩)) (fun a44 => (kp4_some (⟨rfl, rfl, rfl, rfl⟩))))))))))) (kp4_bind (k4_X7_named N E1 E2 hm1 hm2 p2.2) (fun p45 => (kp4_some (⟨rfl, rfl, rfl, rfl⟩)))))))
theorem k4_X7_statement (N : Nat) (E1 : CS → Option (Unit × CS)) (E2 : CS → Option (Int32 × CS)) (hm1 : ∀ σ, Kp4 (CS.i σ 5) (CS.i σ 13) (CS.i σ 14) (CS.a σ 9) (E1 σ)) (hm2 : ∀ σ, Kp4 (CS.i σ 5) (CS.i σ 13) (CS.i σ 14) (CS.a σ 9) (E2 σ)) (σ : CS) (x1 : Int32) : Kp4 (CS.i σ 5) (CS.i σ 13) (CS.i σ 14) (CS.a σ 9) (f_X7_statement N E1 E2 σ x1) := by
  unfold f_X7_statement
  exact (kp4_ite (kp4_bind (k4_X7_notReached N σ (σ.i 44)) (fun p49 => (k4_X7_statement_18 N E1 E2 hm1 hm2 p49.2 x1))) (k4_X7_statement_18 N E1 E2 hm1 hm2 σ x1))
theorem k4_X7_bodyTurn (N : Nat) (E1 : CS → Option (Unit × CS)) (E2 : CS → Option (Int32 × CS)) (hm1 : ∀ σ, Kp4 (CS.i σ 5) (CS.i σ 13) (CS.i σ 14) (CS.a σ 9) (E1 σ)) (hm2 : ∀ σ, Kp4 (CS.i σ 5) (CS.i σ 13) (CS.i σ 14) (CS.a σ 9) (E2 σ)) (σ : CS) (x1 : Nat) : Kp4 (CS.i σ 5) (CS.i σ 13) (CS.i σ 14) (CS.a σ 9) (f_X7_bodyTurn N E1 E2 σ x1) := by
  unfold f_X7_bodyTurn
  exact (kp4_ite (kp4_ite (kp4_bind (k4_X7_statement N E1 E2 hm1 hm2 (CS.setO σ x1 5 1) 1) (fun p3 => (kp4_some (⟨rfl, rfl, rfl, rfl⟩)))) (kp4_bind (k4_X7_endBody N E1 E2 hm1 hm2 σ x1) (fun p7 => (kp4_some (⟨rfl, rfl, rfl, rfl⟩))))) kp4_none)
theorem k4_X10_isUnder_38 (N : Nat) (σ : CS) : Kp4 (CS.i σ 5) (CS.i σ 13) (CS.i σ 14) (CS.a σ 9) (f_X10_isUnder_38 N σ ) := by
  unfold f_X10_isUnder_38
  exact (kp4_some (⟨rfl, rfl, rfl, rfl⟩))
theorem kb4_X10_isUnder_5 (N : Nat) (K : CS → Int32 → Int32 → Int32 → Option (Int32 × CS)) (hMK : ∀ (σ : CS) (x2 : Int32) (x3 : Int32) (x4 : Int32), Kp4 (CS.i σ 5) (CS.i σ 13) (CS.i σ 14) (CS.a σ 9) (K σ x2 x3 x4)) (σ : CS) (x2 : Int32) (x3 : Int32) (x4 : Int32) : Kp4 (CS.i σ 5) (CS.i σ 13) (CS.i σ 14) (CS.a σ 9) (b_X10_isUnder_5 N K σ x2 x3 x4) := by
  unfold b_X10_isUnder_5
  exact (kp4_ite (k4_X10_isUnder_38 N σ) (kp4_ite (k4_X10_isUnder_38 N σ) (kp4_ite (kp4_some (⟨rfl, rfl, rfl, rfl⟩)) (hMK σ x2 (gAt (σ.a 9) 12 x3) (x4 + 1)))))
theorem k4_X10_isUnder_5 (N : Nat) : ∀ (n : Nat) (σ : CS) (x2 : Int32) (x3 : Int32) (x4 : Int32), Kp4 (CS.i σ 5) (CS.i σ 13) (CS.i σ 14) (CS.a σ 9) (f_X10_isUnder_5 N n σ x2 x3 x4)
  | 0, _, _, _, _ => kp4_none
  | n+1, σ, x2, x3, x4 => kb4_X10_isUnder_5 N (f_X10_isUnder_5 N n) (fun σ x2 x3 x4 => k4_X10_isUnder_5 N n σ x2 x3 x4) σ x2 x3 x4
theorem k4_X10_isUnder (N : Nat) (σ : CS) (x1 : Int32) (x2 : Int32) : Kp4 (CS.i σ 5) (CS.i σ 13) (CS.i σ 14) (CS.a σ 9) (f_X10_isUnder N σ x1 x2) := by
  unfold f_X10_isUnder
  exact (k4_X10_isUnder_5 N N σ x2 x1 0)
theorem kb4_X7_caughtKind_47 (N : Nat) (K : CS → Nat → Int32 → Int32 → Int32 → Option (Unit × CS)) (hMK : ∀ (σ : CS) (x1 : Nat) (x2 : Int32) (x3 : Int32) (x4 : Int32), Kp4 (CS.i σ 5) (CS.i σ 13) (CS.i σ 14) (CS.a σ 9) (K σ x1 x2 x3 x4)) (σ : CS) (x1 : Nat) (x2 : Int32) (x3 : Int32) (x4 : Int32) : Kp4 (CS.i σ 5) (CS.i σ 13) (CS.i σ 14) (CS.a σ 9) (b_X7_caughtKind_47 N K σ x1 x2 x3 x4) := by
  unfold b_X7_caughtKind_47
  exact (kp4_ite (kp4_ite (kp4_bind (k4_X0_add N (CS.setO σ x1 12 ((CS.o σ x1 12) ||| ((1 : Int32) <<< (x3 &&& 31)))) 56 ((x2 * 16) + x3)) (fun p13 => (kp4_bind (k4_X9_advance N p13.2) (fun p17 => (kp4_some (⟨rfl, rfl, rfl, rfl⟩)))))) kp4_none) (kp4_ite (kp4_ite (kp4_bind (k4_X10_isUnder N σ x3 x4) (fun p23 => (kp4_ite (hMK p23.2 x1 x2 x3 (x4 + 1)) (kp4_bind (k4_X1_fail N p23.2 6 (p23.2.i 44)) (fun p28 => (hMK p28.2 x1 x2 x3 (x4 + 1))))))) (hMK σ x1 x2 x3 (x4 + 1))) kp4_none))
theorem k4_X7_caughtKind_47 (N : Nat) : ∀ (n : Nat) (σ : CS) (x1 : Nat) (x2 : Int32) (x3 : Int32) (x4 : Int32), Kp4 (CS.i σ 5) (CS.i σ 13) (CS.i σ 14) (CS.a σ 9) (f_X7_caughtKind_47 N n σ x1 x2 x3 x4)
  | 0, _, _, _, _, _ => kp4_none
  | n+1, σ, x1, x2, x3, x4 => kb4_X7_caughtKind_47 N (f_X7_caughtKind_47 N n) (fun σ x1 x2 x3 x4 => k4_X7_caughtKind_47 N n σ x1 x2 x3 x4) σ x1 x2 x3 x4
theorem k4_X7_caughtKind_44 (N : Nat) (σ : CS) (x1 : Nat) (x2 : Int32) (x3 : Int32) : Kp4 (CS.i σ 5) (CS.i σ 13) (CS.i σ 14) (CS.a σ 9) (f_X7_caughtKind_44 N σ x1 x2 x3) := by
  unfold f_X7_caughtKind_44
  exact (k4_X7_caughtKind_47 N N σ x1 x2 x3 0)
theorem k4_X7_caughtKind (N : Nat) (σ : CS) (x1 : Nat) (x2 : Int32) : Kp4 (CS.i σ 5) (CS.i σ 13) (CS.i σ 14) (CS.a σ 9) (f_X7_caughtKind N σ x1 x2) := by
  unfold f_X7_caughtKind
  exact (kp4_bind (k4_X1_found N σ 5) (fun p1 => (kp4_ite (kp4_bind (k4_X1_misplaced N p1.2) (fun p36 => (kp4_some (⟨rfl, rfl, rfl, rfl⟩)))) (kp4_bind (k4_X10_isKind N p1.2 (p1.2.i 45)) (fun p6 => (kp4_ite (kp4_bind (k4_X1_fail N p6.2 3 (p6.2.i 44)) (fun p32 => (k4_X7_caughtKind_44 N p32.2 x1 x2 (p1.2.i 45)))) (k4_X7_caughtKind_44 N p6.2 x1 x2 (p1.2.i 45))))))))
theorem k4_X7_beginCatch_80 (N : Nat) (σ : CS) (x1 : Nat) (x2 : Int32) : Kp4 (CS.i σ 5) (CS.i σ 13) (CS.i σ 14) (CS.a σ 9) (f_X7_beginCatch_80 N σ x1 x2) := by
  unfold f_X7_beginCatch_80
  exact (kp4_bind (k4_X0_newCells N σ 1) (fun p24 => (kp4_bind (k4_X7_newName N p24.2) (fun p28 => (kp4_bind (k4_X4_add N p28.2 p28.1 p24.1 ((p28.2.i 38) - 1)) (fun p32 => (kp4_bind (k4_X1_close N p32.2 41) (fun p36 => (kp4_bind (k4_X1_open N p36.2 123) (fun p40 => (kp4_ite (kp4_bind (k4_X0_add N p40.2 30 (CS.o p40.2 x1 10)) (fun p45 => (kp4_bind (k4_X0_aim N p45.2 x2) (fun p49 => (kp4_bind (k4_X0_add N p49.2 57 p24.1) (fun p53 => (kp4_some (⟨rfl, rfl, rfl, rfl⟩)))))))) kp4_none)))))))))))
theorem kb4_X7_beginCatch_52 (N : Nat) (K : CS → Nat → Int32 → Int32 → Option (Unit × CS)) (hMK : ∀ (σ : CS) (x1 : Nat) (x2 : Int32) (x3 : Int32), Kp4 (CS.i σ 5) (CS.i σ 13) (CS.i σ 14) (CS.a σ 9) (K σ x1 x2 x3)) (σ : CS) (x1 : Nat) (x2 : Int32) (x3 : Int32) : Kp4 (CS.i σ 5) (CS.i σ 13) (CS.i σ 14) (CS.a σ 9) (b_X7_beginCatch_52 N K σ x1 x2 x3) := by
  unfold b_X7_beginCatch_52
  exact (kp4_ite (k4_X7_beginCatch_80 N σ x1 x2) (kp4_bind (k4_X1_skip N σ 124) (fun p57 => (kp4_ite (k4_X7_beginCatch_80 N p57.2 x1 x2) (kp4_bind (k4_X7_caughtKind N p57.2 x1 x2) (fun p62 => (hMK p62.2 x1 x2 (x3 + 1))))))))
theorem k4_X7_beginCatch_52 (N : Nat) : ∀ (n : Nat) (σ : CS) (x1 : Nat) (x2 : Int32) (x3 : Int32), Kp4 (CS.i σ 5) (CS.i σ 13) (CS.i σ 14) (CS.a σ 9) (f_X7_beginCatch_52 N n σ x1 x2 x3)
  | 0, _, _, _, _ => kp4_none
  | n+1, σ, x1, x2, x3 => kb4_X7_beginCatch_52 N (f_X7_beginCatch_52 N n) (fun σ x1 x2 x3 => k4_X7_beginCatch_52 N n σ x1 x2 x3) σ x1 x2 x3
theorem k4_X7_beginCatch (N : Nat) (σ : CS) (x1 : Nat) : Kp4 (CS.i σ 5) (CS.i σ 13) (CS.i σ 14) (CS.a σ 9) (f_X7_beginCatch N σ x1) := by
  unfold f_X7_beginCatch
  exact (kp4_bind (k4_X0_newTarget N σ) (fun p1 => (kp4_ite (kp4_bind (k4_X0_newTarget N (CS.setO (CS.setO p1.2 x1 0 215) x1 8 1)) (fun p6 => (kp4_ite (kp4_bind (k4_X9_advance N (CS.setO p6.2 x1 10 p6.1)) (fun p11 => (kp4_bind (k4_X1_open N p11.2 40) (fun p15 => (kp4_bind (k4_X7_caughtKind N p15.2 x1 p1.1) (fun p19 => (k4_X7_beginCatch_52 N N p19.2 x1 p1.1 0))))))) kp4_none))) kp4_none)))
theorem k4_X7_beginFinally (N : Nat) (σ : CS) (x1 : Nat) : Kp4 (CS.i σ 5) (CS.i σ 13) (CS.i σ 14) (CS.a σ 9) (f_X7_beginFinally N σ x1) := by
  unfold f_X7_beginFinally
  exact (kp4_ite (kp4_bind (k4_X9_advance N (CS.setO (CS.setO σ x1 0 216) x1 15 (σ.i 55))) (fun p2 => (kp4_bind (k4_X1_open N p2.2 123) (fun p6 => (kp4_bind (k4_X0_add N p6.2 58 0) (fun p10 => (kp4_ite (kp4_bind (k4_X0_aim N p10.2 (CS.o p10.2 x1 11)) (fun p15 => (kp4_some (⟨rfl, rfl, rfl, rfl⟩)))) kp4_none))))))) kp4_none)
theorem k4_X7_endLock (N : Nat) (σ : CS) (x1 : Nat) : Kp4 (CS.i σ 5) (CS.i σ 13) (CS.i σ 14) (CS.a σ 9) (f_X7_endLock N σ x1) := by
  unfold f_X7_endLock
  exact (kp4_ite (kp4_bind (k4_X7_leave N σ (CS.o σ x1 9) (CS.o σ x1 2)) (fun p2 => (kp4_ite (kp4_bind (k4_X0_aim N p2.2 (CS.o p2.2 x1 9)) (fun p7 => (kp4_bind (k4_X6_pop N (CS.setI p7.2 38 ((p7.2.i 38) - 1))) (fun p11 => (kp4_some (⟨rfl, rfl, rfl, rfl⟩)))))) kp4_none))) kp4_none)
theorem k4_X7_endSwitch_99 (N : Nat) (σ : CS) : Kp4 (CS.i σ 5) (CS.i σ 13) (CS.i σ 14) (CS.a σ 9) (f_X7_endSwitch_99 N σ ) := by
  unfold f_X7_endSwitch_99
  exact (kp4_bind (k4_X6_pop N σ) (fun p23 => (kp4_some (⟨rfl, rfl, rfl, rfl⟩))))
theorem k4_X7_endSwitch_53 (N : Nat) (σ : CS) (x1 : Nat) : Kp4 (CS.i σ 5) (CS.i σ 13) (CS.i σ 14) (CS.a σ 9) (f_X7_endSwitch_53 N σ x1) := by
  unfold f_X7_endSwitch_53
  exact (kp4_ite (kp4_bind (k4_X0_aim N σ (CS.o σ x1 9)) (fun p18 => (kp4_ite (kp4_ite (kp4_ite (k4_X7_endSwitch_99 N (CS.setI p18.2 36 1)) (kp4_bind (k4_X6_isGoneTo N p18.2 x1 0) (fun p29 => (kp4_ite (k4_X7_endSwitch_99 N (CS.setI p29.2 36 0)) (k4_X7_endSwitch_99 N (CS.setI p29.2 36 1)))))) kp4_none) (k4_X7_endSwitch_99 N (CS.setI p18.2 36 1))))) kp4_none)
theorem k4_X7_endSwitch (N : Nat) (σ : CS) (x1 : Nat) : Kp4 (CS.i σ 5) (CS.i σ 13) (CS.i σ 14) (CS.a σ 9) (f_X7_endSwitch N σ x1) := by
  unfold f_X7_endSwitch
  exact (kp4_ite (kp4_bind (k4_X0_add N σ 30 (CS.o σ x1 9)) (fun p2 => (kp4_ite (kp4_bind (k4_X0_aim N p2.2 (CS.o p2.2 x1 10)) (fun p7 => (kp4_ite (kp4_ite (kp4_bind (k4_X0_addCases N p7.2 (CS.o p7.2 x1 13) (CS.o p7.2 x1 9)) (fun p13 => (k4_X7_endSwitch_53 N p13.2 x1))) (kp4_bind (k4_X0_addCases N p7.2 (CS.o p7.2 x1 13) (CS.o p7.2 x1 11)) (fun p34 => (k4_X7_endSwitch_53 N p34.2 x1)))) kp4_none))) kp4_none))) kp4_none)
theorem k4_X7_endGuarded_66 (N : Nat) (σ : CS) (x1 : Nat) : Kp4 (CS.i σ 5) (CS.i σ 13) (CS.i σ 14) (CS.a σ 9) (f_X7_endGuarded_66 N σ x1) := by
  unfold f_X7_endGuarded_66
  exact (kp4_ite (kp4_some (⟨rfl, rfl, rfl, rfl⟩)) kp4_none)
theorem k4_X7_endGuarded_46 (N : Nat) (σ : CS) (x1 : Nat) : Kp4 (CS.i σ 5) (CS.i σ 13) (CS.i σ 14) (CS.a σ 9) (f_X7_endGuarded_46 N σ x1) := by
  unfold f_X7_endGuarded_46
  exact (kp4_bind (k4_X1_found N σ 215) (fun p13 => (kp4_ite (kp4_bind (k4_X1_found N p13.2 216) (fun p19 => (kp4_ite (kp4_ite (kp4_ite (kp4_bind (k4_X1_misplaced N p19.2) (fun p26 => (kp4_some (⟨rfl, rfl, rfl, rfl⟩)))) (kp4_bind (k4_X0_add N p19.2 58 0) (fun p30 => (kp4_ite (kp4_bind (k4_X0_aim N p30.2 (CS.o p30.2 x1 9)) (fun p35 => (kp4_ite (kp4_ite (kp4_bind (k4_X6_pop N (CS.setI (CS.setI p35.2 36 (CS.o p35.2 x1 6)) 38 ((p35.2.i 38) - 1))) (fun p41 => (kp4_some (⟨rfl, rfl, rfl, rfl⟩)))) kp4_none) kp4_none))) kp4_none)))) kp4_none) (k4_X7_endGuarded_66 N p19.2 x1)))) (k4_X7_endGuarded_66 N p13.2 x1))))
theorem k4_X7_endGuarded (N : Nat) (σ : CS) (x1 : Nat) : Kp4 (CS.i σ 5) (CS.i σ 13) (CS.i σ 14) (CS.a σ 9) (f_X7_endGuarded N σ x1) := by
  unfold f_X7_endGuarded
  exact (kp4_ite (kp4_bind (k4_X7_leave N σ (CS.o σ x1 9) (CS.o σ x1 2)) (fun p2 => (kp4_ite (kp4_bind (k4_X0_aim N p2.2 (CS.o p2.2 x1 10)) (fun p7 => (kp4_ite (kp4_ite (kp4_ite (k4_X7_endGuarded_46 N (CS.setO p7.2 x1 6 0) x1) (k4_X7_endGuarded_46 N (CS.setO p7.2 x1 6 1) x1)) (k4_X7_endGuarded_46 N (CS.setO p7.2 x1 6 1) x1)) kp4_none))) kp4_none))) kp4_none)
theorem kb4_X6_loseJumps_2 (N : Nat) (K : CS → Int32 → Int32 → Option (Unit × CS)) (hMK : ∀ (σ : CS) (x2 : Int32) (x3 : Int32), Kp4 (CS.i σ 5) (CS.i σ 13) (CS.i σ 14) (CS.a σ 9) (K σ x2 x3)) (σ : CS) (x2 : Int32) (x3 : Int32) : Kp4 (CS.i σ 5) (CS.i σ 13) (CS.i σ 14) (CS.a σ 9) (b_X6_loseJumps_2 N K σ x2 x3) := by
  unfold b_X6_loseJumps_2
  exact (kp4_ite (kp4_some (⟨rfl, rfl, rfl, rfl⟩)) (hMK (CS.putA σ 52 (gPut (σ.a 52) 160 x3 0)) x2 (x3 + 1)))
theorem k4_X6_loseJumps_2 (N : Nat) : ∀ (n : Nat) (σ : CS) (x2 : Int32) (x3 : Int32), Kp4 (CS.i σ 5) (CS.i σ 13) (CS.i σ 14) (CS.a σ 9) (f_X6_loseJumps_2 N n σ x2 x3)
  | 0, _, _, _ => kp4_none
  | n+1, σ, x2, x3 => kb4_X6_loseJumps_2 N (f_X6_loseJumps_2 N n) (fun σ x2 x3 => k4_X6_loseJumps_2 N n σ x2 x3) σ x2 x3
theorem k4_X6_loseJumps (N : Nat) (σ : CS) (x1 : Int32) (x2 : Int32) : Kp4 (CS.i σ 5) (CS.i σ 13) (CS.i σ 14) (CS.a σ 9) (f_X6_loseJumps N σ x1 x2) := by
  unfold f_X6_loseJumps
  exact (k4_X6_loseJumps_2 N N σ x2 x1)
theorem k4_X7_endFinally_66 (N : Nat) (σ : CS) : Kp4 (CS.i σ 5) (CS.i σ 13) (CS.i σ 14) (CS.a σ 9) (f_X7_endFinally_66 N σ ) := by
  unfold f_X7_endFinally_66
  exact (kp4_bind (k4_X6_pop N (CS.setI σ 38 ((σ.i 38) - 1))) (fun p12 => (kp4_some (⟨rfl, rfl, rfl, rfl⟩))))
theorem k4_X7_endFinally_43 (N : Nat) (σ : CS) (x1 : Nat) : Kp4 (CS.i σ 5) (CS.i σ 13) (CS.i σ 14) (CS.a σ 9) (f_X7_endFinally_43 N σ x1) := by
  unfold f_X7_endFinally_43
  exact (kp4_ite (k4_X7_endFinally_66 N (CS.setI σ 36 0)) (kp4_ite (kp4_ite (k4_X7_endFinally_66 N (CS.setI σ 36 0)) (k4_X7_endFinally_66 N (CS.setI σ 36 1))) kp4_none))
theorem k4_X7_endFinally (N : Nat) (σ : CS) (x1 : Nat) : Kp4 (CS.i σ 5) (CS.i σ 13) (CS.i σ 14) (CS.a σ 9) (f_X7_endFinally N σ x1) := by
  unfold f_X7_endFinally
  exact (kp4_bind (k4_X0_add N σ 59 0) (fun p1 => (kp4_ite (kp4_bind (k4_X0_aim N p1.2 (CS.o p1.2 x1 9)) (fun p6 => (kp4_ite (kp4_ite (kp4_bind (k4_X6_loseJumps N p6.2 (CS.o p6.2 x1 14) (CS.o p6.2 x1 15)) (fun p19 => (k4_X7_endFinally_43 N p19.2 x1))) kp4_none) (k4_X7_endFinally_43 N p6.2 x1)))) kp4_none)))
theorem k4_X7_endList_72 (N : Nat) (σ : CS) (x1 : Nat) : Kp4 (CS.i σ 5) (CS.i σ 13) (CS.i σ 14) (CS.a σ 9) (f_X7_endList_72 N σ x1) := by
  unfold f_X7_endList_72
  exact (kp4_bind (k4_X1_close N σ 125) (fun p4 => (kp4_ite (kp4_ite (kp4_bind (k4_X7_endLock N (CS.setI p4.2 50 (CS.o p4.2 x1 3)) x1) (fun p10 => (kp4_some (⟨rfl, rfl, rfl, rfl⟩)))) (kp4_ite (kp4_bind (k4_X7_endGuarded N (CS.setI p4.2 50 (CS.o p4.2 x1 3)) x1) (fun p15 => (kp4_some (⟨rfl, rfl, rfl, rfl⟩)))) (kp4_ite (kp4_bind (k4_X6_pop N (CS.setI p4.2 50 (CS.o p4.2 x1 3))) (fun p20 => (kp4_some (⟨rfl, rfl, rfl, rfl⟩)))) (kp4_ite (kp4_bind (k4_X7_endGuarded N (CS.setI p4.2 50 (CS.o p4.2 x1 3)) x1) (fun p25 => (kp4_some (⟨rfl, rfl, rfl, rfl⟩)))) (kp4_ite (kp4_bind (k4_X7_endFinally N (CS.setI p4.2 50 (CS.o p4.2 x1 3)) x1) (fun p30 => (kp4_some (⟨rfl, rfl, rfl, rfl⟩)))) (kp4_ite (kp4_bind (k4_X6_pop N (CS.setI p4.2 50 (CS.o p4.2 x1 3))) (fun p35 => (kp4_some (⟨rfl, rfl, rfl, rfl⟩)))) (kp4_ite (kp4_bind (k4_X7_endSwitch N (CS.setI p4.2 50 (CS.o p4.2 x1 3)) x1) (fun p40 => (kp4_some (⟨rfl, rfl, rfl, rfl⟩)))) (kp4_bind (k4_X6_pop N (CS.setI p4.2 50 (CS.o p4.2 x1 3))) (fun p44 => (kp4_some (⟨rfl, rfl, rfl, rfl⟩))))))))))) kp4_none)))
theorem k4_X7_endList (N : Nat) (σ : CS) (x1 : Nat) : Kp4 (CS.i σ 5) (CS.i σ 13) (CS.i σ 14) (CS.a σ 9) (f_X7_endList N σ x1) := by
  unfold f_X7_endList
  exact (kp4_ite (kp4_ite (kp4_bind (k4_X1_expect N σ 0) (fun p53 => (kp4_ite (kp4_bind (k4_X0_add N (CS.setI p53.2 27 (p53.2.i 36)) 50 0) (fun p58 => (kp4_bind (k4_X6_pop N p58.2) (fun p62 => (kp4_some (⟨rfl, rfl, rfl, rfl⟩)))))) kp4_none))) (kp4_ite (kp4_ite (k4_X7_endList_72 N σ x1) (kp4_bind (k4_X7_notReached N σ (σ.i 44)) (fun p49 => (k4_X7_endList_72 N p49.2 x1)))) (k4_X7_endList_72 N σ x1))) kp4_none)
theorem k4_X7_groupTurn_87 (N : Nat) (E1 : CS → Option (Unit × CS)) (E2 : CS → Option (Int32 × CS)) (hm1 : ∀ σ, Kp4 (CS.i σ 5) (CS.i σ 13) (CS.i σ 14) (CS.a σ 9) (E1 σ)) (hm2 : ∀ σ, Kp4 (CS.i σ 5) (CS.i σ 13) (CS.i σ 14) (CS.a σ 9) (E2 σ)) (σ : CS) (x1 : Nat) (x2 : Int32) : Kp4 (CS.i σ 5) (CS.i σ 13) (CS.i σ 14) (CS.a σ 9) (f_X7_groupTurn_87 N E1 E2 σ x1 x2) := by
  unfold f_X7_groupTurn_87
  exact (kp4_bind (k4_X1_expect N σ 58) (fun p21 => (kp4_bind (k4_X0_aim N p21.2 x2) (fun p25 => (kp4_ite (kp4_some (⟨rfl, rfl, rfl, rfl⟩)) kp4_none)))))
theorem k4_X7_groupTurn_59 (N : Nat) (E1 : CS → Option (Unit × CS)) (E2 : CS → Option (Int32 × CS)) (hm1 : ∀ σ, Kp4 (CS.i σ 5) (CS.i σ 13) (CS.i σ 14) (CS.a σ 9) (E1 σ)) (hm2 : ∀ σ, Kp4 (CS.i σ 5) (CS.i σ 13) (CS.i σ 14) (CS.a σ 9) (E2 σ)) (σ : CS) (x1 : Nat) (x2 : Int32) (x3 : Int32) : Kp4 (CS.i σ 5) (CS.i σ 13) (CS.i σ 14) (CS.a σ 9) (f_X7_groupTurn_59 N E1 E2 σ x1 x2 x3) := by
  unfold f_X7_groupTurn_59
  exact (kp4_bind (k4_X9_advance N σ) (fun p15 => (kp4_ite (kp4_ite (k4_X7_groupTurn_87 N E1 E2 hm1 hm2 (CS.setO p15.2 x1 11 x2) x1 x2) kp4_none) (kp4_ite (kp4_bind (k4_X1_caseNumber N p15.2 (CS.o p15.2 x1 13) x2) (fun p31 => (k4_X7_groupTurn_87 N E1 E2 hm1 hm2 p31.2 x1 x2))) kp4_none))))
theorem k4_X7_groupTurn_20 (N : Nat) (E1 : CS → Option (Unit × CS)) (E2 : CS → Option (Int32 × CS)) (hm1 : ∀ σ, Kp4 (CS.i σ 5) (CS.i σ 13) (CS.i σ 14) (CS.a σ 9) (E1 σ)) (hm2 : ∀ σ, Kp4 (CS.i σ 5) (CS.i σ 13) (CS.i σ 14) (CS.a σ 9) (E2 σ)) (σ : CS) (x1 : Nat) : Kp4 (CS.i σ 5) (CS.i σ 13) (CS.i σ 14) (CS.a σ 9) (f_X7_groupTurn_20 N E1 E2 σ x1) := by
  unfold f_X7_groupTurn_20
  exact (kp4_bind (k4_X0_newTarget N σ) (fun p6 => (kp4_bind (k4_X1_found N p6.2 219) (fun p10 => (kp4_ite (kp4_ite (kp4_ite (k4_X7_groupTurn_59 N E1 E2 hm1 hm2 p10.2 x1 p6.1 p10.1) (kp4_bind (k4_X1_fail N p10.2 4 (p10.2.i 44)) (fun p37 => (k4_X7_groupTurn_59 N E1 E2 hm1 hm2 p37.2 x1 p6.1 p10.1)))) kp4_none) (k4_X7_groupTurn_59 N E1 E2 hm1 hm2 p10.2 x1 p6.1 p10.1))))))
theorem k4_X7_groupTurn (N : Nat) (E1 : CS → Option (Unit × CS)) (E2 : CS → Option (Int32 × CS)) (hm1 : ∀ σ, Kp4 (CS.i σ 5) (CS.i σ 13) (CS.i σ 14) (CS.a σ 9) (E1 σ)) (hm2 : ∀ σ, Kp4 (CS.i σ 5) (CS.i σ 13) (CS.i σ 14) (CS.a σ 9) (E2 σ)) (σ : CS) (x1 : Nat) : Kp4 (CS.i σ 5) (CS.i σ 13) (CS.i σ 14) (CS.a σ 9) (f_X7_groupTurn N E1 E2 σ x1) := by
  unfold f_X7_groupTurn
  exact (kp4_bind (k4_X1_found N σ 219) (fun p1 => (kp4_ite (kp4_bind (k4_X1_found N p1.2 220) (fun p41 => (kp4_ite (kp4_ite (kp4_ite (kp4_bind (k4_X1_misplaced N p41.2) (fun p48 => (kp4_some (⟨rfl, rfl, rfl, rfl⟩)))) (kp4_bind (k4_X7_statement N E1 E2 hm1 hm2 p41.2 0) (fun p52 => (kp4_some (⟨rfl, rfl, rfl, rfl⟩))))) kp4_none) (k4_X7_groupTurn_20 N E1 E2 hm1 hm2 p41.2 x1)))) (k4_X7_groupTurn_20 N E1 E2 hm1 hm2 p1.2 x1))))
theorem kb4_X7_turns_2 (N : Nat) (E1 : CS → Option (Unit × CS)) (E2 : CS → Option (Int32 × CS)) (hm1 : ∀ σ, Kp4 (CS.i σ 5) (CS.i σ 13) (CS.i σ 14) (CS.a σ 9) (E1 σ)) (hm2 : ∀ σ, Kp4 (CS.i σ 5) (CS.i σ 13) (CS.i σ 14) (CS.a σ 9) (E2 σ)) (K : CS → Int32 → Int32 → Option (Unit × CS)) (hMK : ∀ (σ : CS) (x1 : Int32) (x2 : Int32), Kp4 (CS.i σ 5) (CS.i σ 13) (CS.i σ 14) (CS.a σ 9) (K σ x1 x2)) (σ : CS) (x1 : Int32) (x2 : Int32) : Kp4 (CS.i σ 5) (CS.i σ 13) (CS.i σ 14) (CS.a σ 9) (b_X7_turns_2 N E1 E2 K σ x1 x2) := by
  unfold b_X7_turns_2
  exact (kp4_ite (kp4_ite kp4_none (kp4_some (⟨rfl, rfl, rfl, rfl⟩))) (kp4_ite (kp4_ite (kp4_some (⟨rfl, rfl, rfl, rfl⟩)) (kp4_bind (k4_X6_row N σ ((σ.i 53) - 1)) (fun p4 => (kp4_oc (kp4_some (⟨rfl, rfl, rfl, rfl⟩)) (fun a9 => (kp4_ite (kp4_bind (k4_X5_hasOneBody N p4.2 a9) (fun p12 => (kp4_ite (kp4_ite (kp4_ite (kp4_bind (k4_X1_found N p12.2 215) (fun p47 => (kp4_ite (kp4_ite (kp4_ite (kp4_bind (k4_X7_beginFinally N p47.2 a9) (fun p82 => (hMK p82.2 x1 (x2 + 1)))) (kp4_bind (k4_X1_found N p47.2 125) (fun p54 => (kp4_ite (kp4_bind (k4_X1_found N p54.2 0) (fun p63 => (kp4_ite (kp4_ite (kp4_ite (kp4_bind (k4_X7_groupTurn N E1 E2 hm1 hm2 p63.2 a9) (fun p74 => (hMK p74.2 x1 (x2 + 1)))) (kp4_bind (k4_X7_statement N E1 E2 hm1 hm2 p63.2 0) (fun p70 => (hMK p70.2 x1 (x2 + 1))))) kp4_none) (kp4_bind (k4_X7_endList N p63.2 a9) (fun p78 => (hMK p78.2 x1 (x2 + 1))))))) (kp4_bind (k4_X7_endList N p54.2 a9) (fun p59 => (hMK p59.2 x1 (x2 + 1)))))))) kp4_none) (kp4_bind (k4_X7_beginCatch N p47.2 a9) (fun p86 => (hMK p86.2 x1 (x2 + 1))))))) (kp4_bind (k4_X1_found N p12.2 125) (fun p19 => (kp4_ite (kp4_bind (k4_X1_found N p19.2 0) (fun p28 => (kp4_ite (kp4_ite (kp4_ite (kp4_bind (k4_X7_groupTurn N E1 E2 hm1 hm2 p28.2 a9) (fun p39 => (hMK p39.2 x1 (x2 + 1)))) (kp4_bind (k4_X7_statement N E1 E2 hm1 hm2 p28.2 0) (fun p35 => (hMK p35.2 x1 (x2 + 1))))) kp4_none) (kp4_bind (k4_X7_endList N p28.2 a9) (fun p43 => (hMK p43.2 x1 (x2 + 1))))))) (kp4_bind (k4_X7_endList N p19.2 a9) (fun p24 => (hMK p24.2 x1 (x2 + 1)))))))) kp4_none) (kp4_bind (k4_X7_bodyTurn N E1 E2 hm1 hm2 p12.2 a9) (fun p90 => (hMK p90.2 x1 (x2 + 1))))))) kp4_none)))))) (kp4_some (⟨rfl, rfl, rfl, rfl⟩))))
theorem k4_X7_turns_2 (N : Nat) (E1 : CS → Option (Unit × CS)) (E2 : CS → Option (Int32 × CS)) (hm1 : ∀ σ, Kp4 (CS.i σ 5) (CS.i σ 13) (CS.i σ 14) (CS.a σ 9) (E1 σ)) (hm2 : ∀ σ, Kp4 (CS.i σ 5) (CS.i σ 13) (CS.i σ 14) (CS.a σ 9) (E2 σ)) : ∀ (n : Nat) (σ : CS) (x1 : Int32) (x2 : Int32), Kp4 (CS.i σ 5) (CS.i σ 13) (CS.i σ 14) (CS.a σ 9) (f_X7_turns_2 N E1 E2 n σ x1 x2)
  | 0, _, _, _ => kp4_none
  | n+1, σ, x1, x2 => kb4_X7_turns_2 N E1 E2 hm1 hm2 (f_X7_turns_2 N E1 E2 n) (fun σ x1 x2 => k4_X7_turns_2 N E1 E2 hm1 hm2 n σ x1 x2) σ x1 x2
theorem k4_X7_turns (N : Nat) (E1 : CS → Option (Unit × CS)) (E2 : CS → Option (Int32 × CS)) (hm1 : ∀ σ, Kp4 (CS.i σ 5) (CS.i σ 13) (CS.i σ 14) (CS.a σ 9) (E1 σ)) (hm2 : ∀ σ, Kp4 (CS.i σ 5) (CS.i σ 13) (CS.i σ 14) (CS.a σ 9) (E2 σ)) (σ : CS) (x1 : Int32) : Kp4 (CS.i σ 5) (CS.i σ 13) (CS.i σ 14) (CS.a σ 9) (f_X7_turns N E1 E2 σ x1) := by
  unfold f_X7_turns
  exact (k4_X7_turns_2 N E1 E2 hm1 hm2 N σ x1 0)
theorem k4_X7_armBlock (N : Nat) (E1 : CS → Option (Unit × CS)) (E2 : CS → Option (Int32 × CS)) (hm1 : ∀ σ, Kp4 (CS.i σ 5) (CS.i σ 13) (CS.i σ 14) (CS.a σ 9) (E1 σ)) (hm2 : ∀ σ, Kp4 (CS.i σ 5) (CS.i σ 13) (CS.i σ 14) (CS.a σ 9) (E2 σ)) (σ : CS) (x1 : Int32) : Kp4 (CS.i σ 5) (CS.i σ 13) (CS.i σ 14) (CS.a σ 9) (f_X7_armBlock N E1 E2 σ x1) := by
  unfold f_X7_armBlock
  exact (kp4_bind (k4_X1_open N σ 123) (fun p1 => (kp4_bind (k4_X6_push N p1.2 302 (p1.2.i 38) (p1.2.i 50)) (fun p5 => (kp4_oc kp4_none (fun a10 => (kp4_ite (kp4_bind (k4_X7_turns N E1 E2 hm1 hm2 (CS.setI (CS.setI (CS.setO (CS.setO p5.2 a10 9 x1) a10 16 (p5.2.i 56)) 56 (σ.i 53)) 36 1) (σ.i 53)) (fun p12 => (kp4_ite (kp4_ite (kp4_some (⟨rfl, rfl, rfl, rfl⟩)) kp4_none) kp4_none))) kp4_none)))))))
theorem k4_X1_arm_153 (N : Nat) (E1 : CS → Option (Unit × CS)) (E2 : CS → Option (Int32 × CS)) (hm1 : ∀ σ, Kp4 (CS.i σ 5) (CS.i σ 13) (CS.i σ 14) (CS.a σ 9) (E1 σ)) (hm2 : ∀ σ, Kp4 (CS.i σ 5) (CS.i σ 13) (CS.i σ 14) (CS.a σ 9) (E2 σ)) (σ : CS) (x5 : Int32) : Kp4 (CS.i σ 5) (CS.i σ 13) (CS.i σ 14) (CS.a σ 9) (f_X1_arm_153 N E1 E2 σ x5) := by
  unfold f_X1_arm_153
  exact (kp4_some (⟨rfl, rfl, rfl, rfl⟩))
theorem k4_X1_arm_100 (N : Nat) (E1 : CS → Option (Unit × CS)) (E2 : CS → Option (Int32 × CS)) (hm1 : ∀ σ, Kp4 (CS.i σ 5) (CS.i σ 13) (CS.i σ 14) (CS.a σ 9) (E1 σ)) (hm2 : ∀ σ, Kp4 (CS.i σ 5) (CS.i σ 13) (CS.i σ 14) (CS.a σ 9) (E2 σ)) (σ : CS) (x3 : Int32) (x4 : Int32) (x5 : Int32) : Kp4 (CS.i σ 5) (CS.i σ 13) (CS.i σ 14) (CS.a σ 9) (f_X1_arm_100 N E1 E2 σ x3 x4 x5) := by
  unfold f_X1_arm_100
  exact (kp4_bind (k4_X1_expect N σ 134) (fun p19 => (kp4_bind (k4_X0_aim N p19.2 x4) (fun p23 => (kp4_bind (k4_X1_found N p23.2 123) (fun p27 => (kp4_ite (kp4_bind (k4_X1_expression N E1 E2 hm1 hm2 p27.2) (fun p32 => (kp4_bind (k4_X1_expect N p32.2 59) (fun p36 => (kp4_bind (k4_X0_add N p36.2 30 x3) (fun p40 => (k4_X1_arm_153 N E1 E2 hm1 hm2 p40.2 x5))))))) (kp4_bind (k4_X7_armBlock N E1 E2 hm1 hm2 p27.2 x3) (fun p44 => (k4_X1_arm_153 N E1 E2 hm1 hm2 p44.2 x5))))))))))
theorem kb4_X1_arm_70 (N : Nat) (E1 : CS → Option (Unit × CS)) (E2 : CS → Option (Int32 × CS)) (hm1 : ∀ σ, Kp4 (CS.i σ 5) (CS.i σ 13) (CS.i σ 14) (CS.a σ 9) (E1 σ)) (hm2 : ∀ σ, Kp4 (CS.i σ 5) (CS.i σ 13) (CS.i σ 14) (CS.a σ 9) (E2 σ)) (K : CS → Int32 → Int32 → Int32 → Int32 → Int32 → Option (Int32 × CS)) (hMK : ∀ (σ : CS) (x1 : Int32) (x3 : Int32) (x4 : Int32) (x5 : Int32) (x6 : Int32), Kp4 (CS.i σ 5) (CS.i σ 13) (CS.i σ 14) (CS.a σ 9) (K σ x1 x3 x4 x5 x6)) (σ : CS) (x1 : Int32) (x3 : Int32) (x4 : Int32) (x5 : Int32) (x6 : Int32) : Kp4 (CS.i σ 5) (CS.i σ 13) (CS.i σ 14) (CS.a σ 9) (b_X1_arm_70 N E1 E2 K σ x1 x3 x4 x5 x6) := by
  unfold b_X1_arm_70
  exact (kp4_ite (k4_X1_arm_100 N E1 E2 hm1 hm2 σ x3 x4 x5) (kp4_bind (k4_X1_skip N σ 44) (fun p48 => (kp4_ite (k4_X1_arm_100 N E1 E2 hm1 hm2 p48.2 x3 x4 x5) (kp4_bind (k4_X1_caseNumber N p48.2 x1 x4) (fun p53 => (hMK p53.2 x1 x3 x4 x5 (x6 + 1))))))))
theorem k4_X1_arm_70 (N : Nat) (E1 : CS → Option (Unit × CS)) (E2 : CS → Option (Int32 × CS)) (hm1 : ∀ σ, Kp4 (CS.i σ 5) (CS.i σ 13) (CS.i σ 14) (CS.a σ 9) (E1 σ)) (hm2 : ∀ σ, Kp4 (CS.i σ 5) (CS.i σ 13) (CS.i σ 14) (CS.a σ 9) (E2 σ)) : ∀ (n : Nat) (σ : CS) (x1 : Int32) (x3 : Int32) (x4 : Int32) (x5 : Int32) (x6 : Int32), Kp4 (CS.i σ 5) (CS.i σ 13) (CS.i σ 14) (CS.a σ 9) (f_X1_arm_70 N E1 E2 n σ x1 x3 x4 x5 x6)
  | 0, _, _, _, _, _, _ => kp4_none
  | n+1, σ, x1, x3, x4, x5, x6 => kb4_X1_arm_70 N E1 E2 hm1 hm2 (f_X1_arm_70 N E1 E2 n) (fun σ x1 x3 x4 x5 x6 => k4_X1_arm_70 N E1 E2 hm1 hm2 n σ x1 x3 x4 x5 x6) σ x1 x3 x4 x5 x6
theorem k4_X1_arm_39 (N : Nat) (E1 : CS → Option (Unit × CS)) (E2 : CS → Option (Int32 × CS)) (hm1 : ∀ σ, Kp4 (CS.i σ 5) (CS.i σ 13) (CS.i σ 14) (CS.a σ 9) (E1 σ)) (hm2 : ∀ σ, Kp4 (CS.i σ 5) (CS.i σ 13) (CS.i σ 14) (CS.a σ 9) (E2 σ)) (σ : CS) (x3 : Int32) (x4 : Int32) : Kp4 (CS.i σ 5) (CS.i σ 13) (CS.i σ 14) (CS.a σ 9) (f_X1_arm_39 N E1 E2 σ x3 x4) := by
  unfold f_X1_arm_39
  exact (kp4_bind (k4_X9_advance N σ) (fun p58 => (k4_X1_arm_100 N E1 E2 hm1 hm2 p58.2 x3 x4 x4)))
theorem k4_X1_arm (N : Nat) (E1 : CS → Option (Unit × CS)) (E2 : CS → Option (Int32 × CS)) (hm1 : ∀ σ, Kp4 (CS.i σ 5) (CS.i σ 13) (CS.i σ 14) (CS.a σ 9) (E1 σ)) (hm2 : ∀ σ, Kp4 (CS.i σ 5) (CS.i σ 13) (CS.i σ 14) (CS.a σ 9) (E2 σ)) (σ : CS) (x1 : Int32) (x2 : Int32) (x3 : Int32) : Kp4 (CS.i σ 5) (CS.i σ 13) (CS.i σ 14) (CS.a σ 9) (f_X1_arm N E1 E2 σ x1 x2 x3) := by
  unfold f_X1_arm
  exact (kp4_bind (k4_X0_newTarget N σ) (fun p1 => (kp4_bind (k4_X1_found N p1.2 220) (fun p5 => (kp4_ite (kp4_bind (k4_X9_advance N p5.2) (fun p10 => (kp4_bind (k4_X1_caseNumber N p10.2 x1 p1.1) (fun p14 => (k4_X1_arm_70 N E1 E2 hm1 hm2 N p14.2 x1 x3 p1.1 x2 0))))) (kp4_ite (k4_X1_arm_39 N E1 E2 hm1 hm2 p5.2 x3 p1.1) (kp4_bind (k4_X1_fail N p5.2 4 (p5.2.i 44)) (fun p62 => (k4_X1_arm_39 N E1 E2 hm1 hm2 p62.2 x3 p1.1)))))))))
theorem k4_X1_choice_122 (N : Nat) (E1 : CS → Option (Unit × CS)) (E2 : CS → Option (Int32 × CS)) (hm1 : ∀ σ, Kp4 (CS.i σ 5) (CS.i σ 13) (CS.i σ 14) (CS.a σ 9) (E1 σ)) (hm2 : ∀ σ, Kp4 (CS.i σ 5) (CS.i σ 13) (CS.i σ 14) (CS.a σ 9) (E2 σ)) (σ : CS) (x1 : Int32) (x2 : Int32) (x3 : Int32) (x4 : Int32) : Kp4 (CS.i σ 5) (CS.i σ 13) (CS.i σ 14) (CS.a σ 9) (f_X1_choice_122 N E1 E2 σ x1 x2 x3 x4) := by
  unfold f_X1_choice_122
  exact (kp4_bind (k4_X1_close N σ 125) (fun p35 => (kp4_bind (k4_X0_aim N p35.2 x1) (fun p39 => (kp4_bind (k4_X0_addCases N p39.2 x3 x4) (fun p43 => (kp4_bind (k4_X0_aim N p43.2 x2) (fun p47 => (kp4_some (⟨rfl, rfl, rfl, rfl⟩))))))))))
theorem k4_X1_choice_113 (N : Nat) (E1 : CS → Option (Unit × CS)) (E2 : CS → Option (Int32 × CS)) (hm1 : ∀ σ, Kp4 (CS.i σ 5) (CS.i σ 13) (CS.i σ 14) (CS.a σ 9) (E1 σ)) (hm2 : ∀ σ, Kp4 (CS.i σ 5) (CS.i σ 13) (CS.i σ 14) (CS.a σ 9) (E2 σ)) (σ : CS) (x1 : Int32) (x2 : Int32) (x3 : Int32) (x4 : Int32) : Kp4 (CS.i σ 5) (CS.i σ 13) (CS.i σ 14) (CS.a σ 9) (f_X1_choice_113 N E1 E2 σ x1 x2 x3 x4) := by
  unfold f_X1_choice_113
  exact (kp4_ite (k4_X1_choice_122 N E1 E2 hm1 hm2 σ x1 x2 x3 x4) (kp4_bind (k4_X1_misplaced N σ) (fun p51 => (k4_X1_choice_122 N E1 E2 hm1 hm2 p51.2 x1 x2 x3 x4))))
theorem kb4_X1_choice_69 (N : Nat) (E1 : CS → Option (Unit × CS)) (E2 : CS → Option (Int32 × CS)) (hm1 : ∀ σ, Kp4 (CS.i σ 5) (CS.i σ 13) (CS.i σ 14) (CS.a σ 9) (E1 σ)) (hm2 : ∀ σ, Kp4 (CS.i σ 5) (CS.i σ 13) (CS.i σ 14) (CS.a σ 9) (E2 σ)) (K : CS → Int32 → Int32 → Int32 → Int32 → Int32 → Option (Unit × CS)) (hMK : ∀ (σ : CS) (x1 : Int32) (x2 : Int32) (x3 : Int32) (x4 : Int32) (x5 : Int32), Kp4 (CS.i σ 5) (CS.i σ 13) (CS.i σ 14) (CS.a σ 9) (K σ x1 x2 x3 x4 x5)) (σ : CS) (x1 : Int32) (x2 : Int32) (x3 : Int32) (x4 : Int32) (x5 : Int32) : Kp4 (CS.i σ 5) (CS.i σ 13) (CS.i σ 14) (CS.a σ 9) (b_X1_choice_69 N E1 E2 K σ x1 x2 x3 x4 x5) := by
  unfold b_X1_choice_69
  exact (kp4_ite (k4_X1_choice_113 N E1 E2 hm1 hm2 σ x1 x2 x3 x4) (kp4_bind (k4_X1_found N σ 219) (fun p55 => (kp4_ite (kp4_bind (k4_X1_found N p55.2 220) (fun p64 => (kp4_ite (k4_X1_choice_113 N E1 E2 hm1 hm2 p64.2 x1 x2 x3 x4) (kp4_bind (k4_X1_arm N E1 E2 hm1 hm2 p64.2 x3 x4 x2) (fun p69 => (hMK p69.2 x1 x2 x3 p69.1 (x5 + 1))))))) (kp4_bind (k4_X1_arm N E1 E2 hm1 hm2 p55.2 x3 x4 x2) (fun p60 => (hMK p60.2 x1 x2 x3 p60.1 (x5 + 1))))))))
theorem k4_X1_choice_69 (N : Nat) (E1 : CS → Option (Unit × CS)) (E2 : CS → Option (Int32 × CS)) (hm1 : ∀ σ, Kp4 (CS.i σ 5) (CS.i σ 13) (CS.i σ 14) (CS.a σ 9) (E1 σ)) (hm2 : ∀ σ, Kp4 (CS.i σ 5) (CS.i σ 13) (CS.i σ 14) (CS.a σ 9) (E2 σ)) : ∀ (n : Nat) (σ : CS) (x1 : Int32) (x2 : Int32) (x3 : Int32) (x4 : Int32) (x5 : Int32), Kp4 (CS.i σ 5) (CS.i σ 13) (CS.i σ 14) (CS.a σ 9) (f_X1_choice_69 N E1 E2 n σ x1 x2 x3 x4 x5)
  | 0, _, _, _, _, _, _ => kp4_none
  | n+1, σ, x1, x2, x3, x4, x5 => kb4_X1_choice_69 N E1 E2 hm1 hm2 (f_X1_choice_69 N E1 E2 n) (fun σ x1 x2 x3 x4 x5 => k4_X1_choice_69 N E1 E2 hm1 hm2 n σ x1 x2 x3 x4 x5) σ x1 x2 x3 x4 x5
theorem k4_X1_choice (N : Nat) (E1 : CS → Option (Unit × CS)) (E2 : CS → Option (Int32 × CS)) (hm1 : ∀ σ, Kp4 (CS.i σ 5) (CS.i σ 13) (CS.i σ 14) (CS.a σ 9) (E1 σ)) (hm2 : ∀ σ, Kp4 (CS.i σ 5) (CS.i σ 13) (CS.i σ 14) (CS.a σ 9) (E2 σ)) (σ : CS) : Kp4 (CS.i σ 5) (CS.i σ 13) (CS.i σ 14) (CS.a σ 9) (f_X1_choice N E1 E2 σ) := by
  unfold f_X1_choice
  exact (kp4_bind (k4_X9_advance N σ) (fun p1 => (kp4_bind (k4_X1_open N p1.2 40) (fun p5 => (kp4_bind (k4_X1_expression N E1 E2 hm1 hm2 p5.2) (fun p9 => (kp4_bind (k4_X1_close N p9.2 41) (fun p13 => (kp4_bind (k4_X1_open N p13.2 123) (fun p17 => (kp4_bind (k4_X0_newTarget N p17.2) (fun p21 => (kp4_bind (k4_X0_newTarget N p21.2) (fun p25 => (kp4_bind (k4_X0_add N p25.2 30 p21.1) (fun p29 => (k4_X1_choice_69 N E1 E2 hm1 hm2 N p29.2 p21.1 p25.1 (p25.2.i 22) (-1) 0)))))))))))))))))
theorem k4_X1_factor (N : Nat) (E1 : CS → Option (Unit × CS)) (E2 : CS → Option (Int32 × CS)) (hm1 : ∀ σ, Kp4 (CS.i σ 5) (CS.i σ 13) (CS.i σ 14) (CS.a σ 9) (E1 σ)) (hm2 : ∀ σ, Kp4 (CS.i σ 5) (CS.i σ 13) (CS.i σ 14) (CS.a σ 9) (E2 σ)) (σ : CS) : Kp4 (CS.i σ 5) (CS.i σ 13) (CS.i σ 14) (CS.a σ 9) (f_X1_factor N E1 E2 σ) := by
  unfold f_X1_factor
  exact (kp4_ite (kp4_bind (k4_X0_add N σ 0 (σ.i 45)) (fun p2 => (kp4_bind (k4_X9_advance N p2.2) (fun p6 => (kp4_some (⟨rfl, rfl, rfl, rfl⟩)))))) (kp4_ite (kp4_bind (k4_X1_loadName N σ) (fun p11 => (kp4_some (⟨rfl, rfl, rfl, rfl⟩)))) (kp4_ite (kp4_bind (k4_X1_open N σ 40) (fun p16 => (kp4_bind (k4_X1_expression N E1 E2 hm1 hm2 p16.2) (fun p20 => (kp4_bind (k4_X1_close N p20.2 41) (fun p24 => (kp4_some (⟨rfl, rfl, rfl, rfl⟩)))))))) (kp4_ite (kp4_bind (k4_X1_negated N E1 E2 hm1 hm2 σ) (fun p29 => (kp4_some (⟨rfl, rfl, rfl, rfl⟩)))) (kp4_ite (kp4_bind (k4_X1_choice N E1 E2 hm1 hm2 σ) (fun p34 => (kp4_some (⟨rfl, rfl, rfl, rfl⟩)))) (kp4_bind (k4_X1_misplaced N σ) (fun p38 => (kp4_some (⟨rfl, rfl, rfl, rfl⟩)))))))))
theorem k4_X1_comparing (N : Nat) (σ : CS) (x0 : Int32) : Kp4 (CS.i σ 5) (CS.i σ 13) (CS.i σ 14) (CS.a σ 9) (f_X1_comparing N σ x0) := by
  unfold f_X1_comparing
  exact (kp4_ite (kp4_some (⟨rfl, rfl, rfl, rfl⟩)) (kp4_ite (kp4_some (⟨rfl, rfl, rfl, rfl⟩)) (kp4_ite (kp4_some (⟨rfl, rfl, rfl, rfl⟩)) (kp4_ite (kp4_some (⟨rfl, rfl, rfl, rfl⟩)) (kp4_ite (kp4_some (⟨rfl, rfl, rfl, rfl⟩)) (kp4_ite (kp4_some (⟨rfl, rfl, rfl, rfl⟩)) (kp4_some (⟨rfl, rfl, rfl, rfl⟩))))))))
theorem k4_X1_comparison (N : Nat) (E1 : CS → Option (Unit × CS)) (E2 : CS → Option (Int32 × CS)) (hm1 : ∀ σ, Kp4 (CS.i σ 5) (CS.i σ 13) (CS.i σ 14) (CS.a σ 9) (E1 σ)) (hm2 : ∀ σ, Kp4 (CS.i σ 5) (CS.i σ 13) (CS.i σ 14) (CS.a σ 9) (E2 σ)) (σ : CS) : Kp4 (CS.i σ 5) (CS.i σ 13) (CS.i σ 14) (CS.a σ 9) (f_X1_comparison N E1 E2 σ) := by
  unfold f_X1_comparison
  exact (kp4_bind (k4_X1_expression N E1 E2 hm1 hm2 σ) (fun p1 => (kp4_bind (k4_X1_comparing N p1.2 (p1.2.i 43)) (fun p5 => (kp4_ite (kp4_bind (k4_X9_advance N p5.2) (fun p10 => (kp4_bind (k4_X1_expression N E1 E2 hm1 hm2 p10.2) (fun p14 => (kp4_bind (k4_X0_add N p14.2 p5.1 0) (fun p18 => (kp4_some (⟨rfl, rfl, rfl, rfl⟩)))))))) (kp4_bind (k4_X1_misplaced N p5.2) (fun p22 => (kp4_some (⟨rfl, rfl, rfl, rfl⟩)))))))))
theorem k4_X1_one_66 (N : Nat) (E1 : CS → Option (Unit × CS)) (E2 : CS → Option (Int32 × CS)) (hm1 : ∀ σ, Kp4 (CS.i σ 5) (CS.i σ 13) (CS.i σ 14) (CS.a σ 9) (E1 σ)) (hm2 : ∀ σ, Kp4 (CS.i σ 5) (CS.i σ 13) (CS.i σ 14) (CS.a σ 9) (E2 σ)) (σ : CS) : Kp4 (CS.i σ 5) (CS.i σ 13) (CS.i σ 14) (CS.a σ 9) (f_X1_one_66 N E1 E2 σ ) := by
  unfold f_X1_one_66
  exact (kp4_bind (k4_X0_add N (CS.setI σ 34 ((σ.i 34) - 1)) 5 0) (fun p7 => (kp4_some (⟨rfl, rfl, rfl, rfl⟩))))
theorem k4_X1_one (N : Nat) (E1 : CS → Option (Unit × CS)) (E2 : CS → Option (Int32 × CS)) (hm1 : ∀ σ, Kp4 (CS.i σ 5) (CS.i σ 13) (CS.i σ 14) (CS.a σ 9) (E1 σ)) (hm2 : ∀ σ, Kp4 (CS.i σ 5) (CS.i σ 13) (CS.i σ 14) (CS.a σ 9) (E2 σ)) (σ : CS) : Kp4 (CS.i σ 5) (CS.i σ 13) (CS.i σ 14) (CS.a σ 9) (f_X1_one N E1 E2 σ) := by
  unfold f_X1_one
  exact (kp4_ite (kp4_bind (k4_X1_open N σ 33) (fun p2 => (kp4_ite (kp4_bind (hm2 p2.2) (fun p11 => (k4_X1_one_66 N E1 E2 hm1 hm2 p11.2))) (k4_X1_one_66 N E1 E2 hm1 hm2 p2.2)))) (kp4_ite (kp4_bind (k4_X1_open N σ 91) (fun p16 => (kp4_bind (k4_X1_condition N E1 E2 hm1 hm2 p16.2) (fun p20 => (kp4_bind (k4_X1_close N p20.2 93) (fun p24 => (kp4_some (⟨rfl, rfl, rfl, rfl⟩)))))))) (kp4_ite (kp4_bind (k4_X0_add N σ 0 1) (fun p29 => (kp4_bind (k4_X9_advance N p29.2) (fun p33 => (kp4_some (⟨rfl, rfl, rfl, rfl⟩)))))) (kp4_ite (kp4_bind (k4_X0_add N σ 0 0) (fun p38 => (kp4_bind (k4_X9_advance N p38.2) (fun p42 => (kp4_some (⟨rfl, rfl, rfl, rfl⟩)))))) (kp4_bind (k4_X1_comparison N E1 E2 hm1 hm2 σ) (fun p46 => (kp4_some (⟨rfl, rfl, rfl, rfl⟩))))))))
theorem k4_X3_lastThrown (N : Nat) (σ : CS) : Kp4 (CS.i σ 5) (CS.i σ 13) (CS.i σ 14) (CS.a σ 9) (f_X3_lastThrown N σ) := by
  unfold f_X3_lastThrown
  exact (kp4_ite (kp4_oc (kp4_some (⟨rfl, rfl, rfl, rfl⟩)) (fun a3 => (kp4_some (⟨rfl, rfl, rfl, rfl⟩)))) (kp4_some (⟨rfl, rfl, rfl, rfl⟩)))
theorem k4_X3_answer (N : Nat) (σ : CS) (x1 : Int32) : Kp4 (CS.i σ 5) (CS.i σ 13) (CS.i σ 14) (CS.a σ 9) (f_X3_answer N σ x1) := by
  unfold f_X3_answer
  exact (kp4_bind (k4_X3_lastThrown N σ) (fun p1 => (kp4_oc (kp4_ite (kp4_some (⟨rfl, rfl, rfl, rfl⟩)) (kp4_ite (kp4_some (⟨rfl, rfl, rfl, rfl⟩)) (kp4_ite (kp4_ite (kp4_some (⟨rfl, rfl, rfl, rfl⟩)) (kp4_some (⟨rfl, rfl, rfl, rfl⟩))) (kp4_ite (kp4_some (⟨rfl, rfl, rfl, rfl⟩)) (kp4_ite (kp4_some (⟨rfl, rfl, rfl, rfl⟩)) (kp4_ite (kp4_some (⟨rfl, rfl, rfl, rfl⟩)) (kp4_some (⟨rfl, rfl, rfl, rfl⟩)))))))) (fun a6 => (kp4_ite (kp4_some (⟨rfl, rfl, rfl, rfl⟩)) (kp4_ite (kp4_some (⟨rfl, rfl, rfl, rfl⟩)) (kp4_ite (kp4_ite (kp4_some (⟨rfl, rfl, rfl, rfl⟩)) (kp4_some (⟨rfl, rfl, rfl, rfl⟩))) (kp4_ite (kp4_ite (kp4_some (⟨rfl, rfl, rfl, rfl⟩)) kp4_none) (kp4_ite (kp4_ite (kp4_some (⟨rfl, rfl, rfl, rfl⟩)) kp4_none) (kp4_ite (kp4_ite (kp4_some (⟨rfl, rfl, rfl, rfl⟩)) kp4_none) (kp4_some (⟨rfl, rfl, rfl, rfl⟩))))))))))))
theorem k4_X6_clear (N : Nat) (σ : CS) : Kp4 (CS.i σ 5) (CS.i σ 13) (CS.i σ 14) (CS.a σ 9) (f_X6_clear N σ) := by
  unfold f_X6_clear
  exact (kp4_some (⟨rfl, rfl, rfl, rfl⟩))
theorem k4_X9_start (N : Nat) (σ : CS) (x1 : Int32) : Kp4 (CS.i σ 5) (CS.i σ 13) (CS.i σ 14) (CS.a σ 9) (f_X9_start N σ x1) := by
  unfold f_X9_start
  exact (kp4_bind (k4_X9_advance N (CS.setI (CS.setI σ 41 x1) 42 0)) (fun p1 => (kp4_some (⟨rfl, rfl, rfl, rfl⟩))))
theorem k4_X7_translate_139 (N : Nat) (E1 : CS → Option (Unit × CS)) (E2 : CS → Option (Int32 × CS)) (hm1 : ∀ σ, Kp4 (CS.i σ 5) (CS.i σ 13) (CS.i σ 14) (CS.a σ 9) (E1 σ)) (hm2 : ∀ σ, Kp4 (CS.i σ 5) (CS.i σ 13) (CS.i σ 14) (CS.a σ 9) (E2 σ)) (σ : CS) : Kp4 (CS.i σ 5) (CS.i σ 13) (CS.i σ 14) (CS.a σ 9) (f_X7_translate_139 N E1 E2 σ ) := by
  unfold f_X7_translate_139
  exact (kp4_some (⟨rfl, rfl, rfl, rfl⟩))
theorem k4_X7_translate (N : Nat) (E1 : CS → Option (Unit × CS)) (E2 : CS → Option (Int32 × CS)) (hm1 : ∀ σ, Kp4 (CS.i σ 5) (CS.i σ 13) (CS.i σ 14) (CS.a σ 9) (E1 σ)) (hm2 : ∀ σ, Kp4 (CS.i σ 5) (CS.i σ 13) (CS.i σ 14) (CS.a σ 9) (E2 σ)) (σ : CS) (x1 : Int32) : Kp4 (CS.i σ 5) (CS.i σ 13) (CS.i σ 14) (CS.a σ 9) (f_X7_translate N E1 E2 σ x1) := by
  unfold f_X7_translate
  exact (kp4_bind (k4_X0_clear N σ) (fun p1 => (kp4_bind (k4_X0_newCells N (CS.setI p1.2 50 0) 1) (fun p5 => (kp4_bind (k4_X4_add N p5.2 97 p5.1 (-1)) (fun p9 => (kp4_bind (k4_X0_newCells N p9.2 1) (fun p13 => (kp4_bind (k4_X4_add N p13.2 98 p13.1 (-1)) (fun p17 => (kp4_bind (k4_X6_clear N p17.2) (fun p21 => (kp4_bind (k4_X9_start N (CS.setI (CS.setI (CS.setI (CS.setI (CS.setI (CS.setI p21.2 32 0) 33 0) 34 0) 36 1) 37 (-1)) 38 0) x1) (fun p25 => (kp4_bind (k4_X6_push N p25.2 300 0 (p25.2.i 50)) (fun p29 => (kp4_oc (kp4_bind (k4_X7_turns N E1 E2 hm1 hm2 p29.2 0) (fun p35 => (kp4_ite (k4_X7_translate_139 N E1 E2 hm1 hm2 p35.2) (kp4_bind (k4_X1_fail N p35.2 7 (p35.2.i 37)) (fun p40 => (k4_X7_translate_139 N E1 E2 hm1 hm2 p40.2)))))) (fun a34 => (kp4_bind (k4_X7_turns N E1 E2 hm1 hm2 p29.2 0) (fun p44 => (kp4_ite (k4_X7_translate_139 N E1 E2 hm1 hm2 p44.2) (kp4_bind (k4_X1_fail N p44.2 7 (p44.2.i 37)) (fun p49 => (k4_X7_translate_139 N E1 E2 hm1 hm2 p49.2))))))))))))))))))))))))
theorem k4_X10_isFull (N : Nat) (σ : CS) : Kp4 (CS.i σ 5) (CS.i σ 13) (CS.i σ 14) (CS.a σ 9) (f_X10_isFull N σ) := by
  unfold f_X10_isFull
  exact (kp4_ite (kp4_some (⟨rfl, rfl, rfl, rfl⟩)) (kp4_some (⟨rfl, rfl, rfl, rfl⟩)))
theorem k4_X10_tellResource (N : Nat) (σ : CS) (x1 : Int32) (x2 : Int32) (x3 : Int32) (x4 : Int32) : Kp4 (CS.i σ 5) (CS.i σ 13) (CS.i σ 14) (CS.a σ 9) (f_X10_tellResource N σ x1 x2 x3 x4) := by
  unfold f_X10_tellResource
  exact (kp4_some (⟨rfl, rfl, rfl, rfl⟩))
theorem k4_X11_isKindOrNothing_16 (N : Nat) (σ : CS) : Kp4 (CS.i σ 5) (CS.i σ 13) (CS.i σ 14) (CS.a σ 9) (f_X11_isKindOrNothing_16 N σ ) := by
  unfold f_X11_isKindOrNothing_16
  exact (kp4_some (⟨rfl, rfl, rfl, rfl⟩))
theorem k4_X11_isKindOrNothing (N : Nat) (σ : CS) (x1 : Int32) : Kp4 (CS.i σ 5) (CS.i σ 13) (CS.i σ 14) (CS.a σ 9) (f_X11_isKindOrNothing N σ x1) := by
  unfold f_X11_isKindOrNothing
  exact (kp4_ite (k4_X11_isKindOrNothing_16 N σ) (kp4_bind (k4_X10_isKind N σ x1) (fun p2 => (kp4_ite (kp4_some (⟨rfl, rfl, rfl, rfl⟩)) (k4_X11_isKindOrNothing_16 N p2.2)))))
theorem k4_X11_resource_19 (N : Nat) (σ : CS) : Kp4 (CS.i σ 5) (CS.i σ 13) (CS.i σ 14) (CS.a σ 9) (f_X11_resource_19 N σ ) := by
  unfold f_X11_resource_19
  exact (kp4_some (⟨rfl, rfl, rfl, rfl⟩))
theorem k4_X11_resource_38 (N : Nat) (σ : CS) : Kp4 (CS.i σ 5) (CS.i σ 13) (CS.i σ 14) (CS.a σ 9) (f_X11_resource_38 N σ ) := by
  unfold f_X11_resource_38
  exact (kp4_some (⟨rfl, rfl, rfl, rfl⟩))
theorem k4_X11_resource (N : Nat) (σ : CS) (x1 : Int32) (x2 : Int32) (x3 : Int32) (x4 : Int32) : Kp4 (CS.i σ 5) (CS.i σ 13) (CS.i σ 14) (CS.a σ 9) (f_X11_resource N σ x1 x2 x3 x4) := by
  unfold f_X11_resource
  exact (kp4_ite (k4_X11_resource_19 N σ) (kp4_ite (k4_X11_resource_19 N σ) (kp4_ite (k4_X11_resource_19 N σ) (kp4_ite (kp4_bind (k4_X11_isKindOrNothing N σ x3) (fun p5 => (kp4_ite (k4_X11_resource_38 N p5.2) (kp4_bind (k4_X11_isKindOrNothing N p5.2 x4) (fun p10 => (kp4_ite (k4_X11_resource_38 N p10.2) (kp4_bind (k4_X10_tellResource N p10.2 x1 x2 x3 x4) (fun p15 => (kp4_some (⟨rfl, rfl, rfl, rfl⟩)))))))))) (k4_X11_resource_19 N σ)))))
theorem k4_X11_fault (N : Nat) (σ : CS) : Kp4 (CS.i σ 5) (CS.i σ 13) (CS.i σ 14) (CS.a σ 9) (f_X11_fault N σ) := by
  unfold f_X11_fault
  exact (kp4_some (⟨rfl, rfl, rfl, rfl⟩))
theorem k4_X11_program_9 (N : Nat) (σ : CS) : Kp4 (CS.i σ 5) (CS.i σ 13) (CS.i σ 14) (CS.a σ 9) (f_X11_program_9 N σ ) := by
  unfold f_X11_program_9
  exact (kp4_some (⟨rfl, rfl, rfl, rfl⟩))
theorem k4_X11_program (N : Nat) (σ : CS) (x1 : Int32) : Kp4 (CS.i σ 5) (CS.i σ 13) (CS.i σ 14) (CS.a σ 9) (f_X11_program N σ x1) := by
  unfold f_X11_program
  exact (kp4_ite (k4_X11_program_9 N σ) (kp4_ite (kp4_ite (kp4_some (⟨rfl, rfl, rfl, rfl⟩)) (kp4_ite (kp4_some (⟨rfl, rfl, rfl, rfl⟩)) (kp4_ite (kp4_ite (kp4_some (⟨rfl, rfl, rfl, rfl⟩)) (kp4_some (⟨rfl, rfl, rfl, rfl⟩))) (kp4_ite (kp4_some (⟨rfl, rfl, rfl, rfl⟩)) (kp4_some (⟨rfl, rfl, rfl, rfl⟩)))))) (k4_X11_program_9 N σ)))
theorem k4_X11_ran_10 (N : Nat) (σ : CS) : Kp4 (CS.i σ 5) (CS.i σ 13) (CS.i σ 14) (CS.a σ 9) (f_X11_ran_10 N σ ) := by
  unfold f_X11_ran_10
  exact (kp4_some (⟨rfl, rfl, rfl, rfl⟩))
theorem k4_X11_ran (N : Nat) (σ : CS) (x1 : Int32) : Kp4 (CS.i σ 5) (CS.i σ 13) (CS.i σ 14) (CS.a σ 9) (f_X11_ran N σ x1) := by
  unfold f_X11_ran
  exact (kp4_ite (k4_X11_ran_10 N σ) (kp4_ite (kp4_ite (kp4_some (⟨rfl, rfl, rfl, rfl⟩)) (kp4_bind (k4_X3_answer N σ x1) (fun p4 => (kp4_some (⟨rfl, rfl, rfl, rfl⟩))))) (k4_X11_ran_10 N σ)))
theorem k4_X11_trace_31 (N : Nat) (σ : CS) : Kp4 (CS.i σ 5) (CS.i σ 13) (CS.i σ 14) (CS.a σ 9) (f_X11_trace_31 N σ ) := by
  unfold f_X11_trace_31
  exact (kp4_some (⟨rfl, rfl, rfl, rfl⟩))
theorem k4_X11_trace (N : Nat) (σ : CS) (x1 : Int32) (x2 : Int32) : Kp4 (CS.i σ 5) (CS.i σ 13) (CS.i σ 14) (CS.a σ 9) (f_X11_trace N σ x1 x2) := by
  unfold f_X11_trace
  exact (kp4_ite (k4_X11_trace_31 N σ) (kp4_ite (k4_X11_trace_31 N σ) (kp4_ite (k4_X11_trace_31 N σ) (kp4_ite (k4_X11_trace_31 N σ) (kp4_ite (kp4_some (⟨rfl, rfl, rfl, rfl⟩)) (k4_X11_trace_31 N σ))))))
theorem k4_X11_suppressed_44 (N : Nat) (σ : CS) : Kp4 (CS.i σ 5) (CS.i σ 13) (CS.i σ 14) (CS.a σ 9) (f_X11_suppressed_44 N σ ) := by
  unfold f_X11_suppressed_44
  exact (kp4_some (⟨rfl, rfl, rfl, rfl⟩))
theorem k4_X11_suppressed_19 (N : Nat) (σ : CS) (x1 : Int32) (x2 : Int32) (x3 : Option Nat) : Kp4 (CS.i σ 5) (CS.i σ 13) (CS.i σ 14) (CS.a σ 9) (f_X11_suppressed_19 N σ x1 x2 x3) := by
  unfold f_X11_suppressed_19
  exact (kp4_oc (k4_X11_suppressed_44 N σ) (fun a3 => (kp4_ite (k4_X11_suppressed_44 N σ) (kp4_ite (kp4_ite (k4_X11_suppressed_44 N σ) (kp4_ite (k4_X11_suppressed_44 N σ) (kp4_ite (kp4_ite (kp4_ite (kp4_some (⟨rfl, rfl, rfl, rfl⟩)) kp4_none) (kp4_ite (kp4_some (⟨rfl, rfl, rfl, rfl⟩)) kp4_none)) (k4_X11_suppressed_44 N σ)))) kp4_none))))
theorem k4_X11_suppressed (N : Nat) (σ : CS) (x1 : Int32) (x2 : Int32) : Kp4 (CS.i σ 5) (CS.i σ 13) (CS.i σ 14) (CS.a σ 9) (f_X11_suppressed N σ x1 x2) := by
  unfold f_X11_suppressed
  exact (kp4_ite (k4_X11_suppressed_19 N σ x1 x2 none) (kp4_bind (k4_X3_lastThrown N σ) (fun p16 => (kp4_oc (k4_X11_suppressed_19 N p16.2 x1 x2 none) (fun a21 => (k4_X11_suppressed_19 N p16.2 x1 x2 (some a21)))))))
theorem k4_X11_under_22 (N : Nat) (σ : CS) : Kp4 (CS.i σ 5) (CS.i σ 13) (CS.i σ 14) (CS.a σ 9) (f_X11_under_22 N σ ) := by
  unfold f_X11_under_22
  exact (kp4_some (⟨rfl, rfl, rfl, rfl⟩))
theorem k4_X11_under (N : Nat) (σ : CS) (x1 : Int32) (x2 : Int32) : Kp4 (CS.i σ 5) (CS.i σ 13) (CS.i σ 14) (CS.a σ 9) (f_X11_under N σ x1 x2) := by
  unfold f_X11_under
  exact (kp4_bind (k4_X10_isKind N σ x1) (fun p1 => (kp4_ite (k4_X11_under_22 N p1.2) (kp4_bind (k4_X10_isKind N p1.2 x2) (fun p6 => (kp4_ite (k4_X11_under_22 N p6.2) (kp4_bind (k4_X10_isUnder N p6.2 x1 x2) (fun p11 => (kp4_ite (kp4_some (⟨rfl, rfl, rfl, rfl⟩)) (kp4_some (⟨rfl, rfl, rfl, rfl⟩)))))))))))
theorem k4EE (N : Nat) : ∀ d : Nat, (∀ σ, Kp4 (CS.i σ 5) (CS.i σ 13) (CS.i σ 14) (CS.a σ 9) ((fEE N d).1 σ)) ∧ (∀ σ, Kp4 (CS.i σ 5) (CS.i σ 13) (CS.i σ 14) (CS.a σ 9) ((fEE N d).2 σ))
  | 0 => ⟨fun _ => kp4_none, fun _ => kp4_none⟩
  | d+1 => ⟨fun σ => k4_X1_factor N _ _ (k4EE N d).1 (k4EE N d).2 σ, fun σ => k4_X1_one N _ _ (k4EE N d).1 (k4EE N d).2 σ⟩
end
section
/-! both: what was told stands side by side -/
def TLD (s : CS) (r : RS) : Prop := s.i 5 = r.i 2 ∧ s.i 13 = r.i 3 ∧ s.i 14 = r.i 8 ∧ s.a 9 0 = -1 ∧ (∀ k : Nat, 0 < k → (k : Int) < (r.i 3).toInt → s.a 9 k = r.a 4 k)
theorem ok_at {α : Type} {t : Option α} {P : α → Prop} {T : α} (h : ok t P) (e : t = some T) : P T := by
  obtain ⟨r, e2, hr⟩ := h
  rw [e2] at e
  cases e
  exact hr
theorem ob_some {α β : Type} (a : α) (f : α → Option β) : (some a).bind f = f a := rfl
theorem TLD.of {s S : CS} {r R : RS} (h : TLD s r) (h5 : S.i 5 = s.i 5) (h13 : S.i 13 = s.i 13) (h14 : S.i 14 = s.i 14) (h9 : S.a 9 = s.a 9) (g : KSR r R) : TLD S R := by
  obtain ⟨a1, a2, a3, a4, a5⟩ := h
  obtain ⟨g1, g2, g3, g4⟩ := g
  refine ⟨?_, ?_, ?_, ?_, ?_⟩
  · rw [h5, g4]; exact a1
  · rw [h13, g1]; exact a2
  · rw [h14, g2]; exact a3
  · rw [h9]; exact a4
  · rw [h9, g1, g3]; exact a5
theorem n10 : ¬ (1 : Int32) = 0 := by decide
theorem e_in1 {N : Nat} {r : RS} {a b c : Int32} (h : b ≤ a ∧ a ≤ c) : f_X12_in N r a b c = some (1, r) := by
  unfold f_X12_in
  exact (if_neg (Int32.not_lt.mpr h.1)).trans (if_neg (Int32.not_lt.mpr h.2))
theorem e_in0 {N : Nat} {r : RS} {a b c : Int32} (h : ¬ (b ≤ a ∧ a ≤ c)) : f_X12_in N r a b c = some (0, r) := by
  unfold f_X12_in f_X12_in_14
  by_cases d : a < b
  · exact if_pos d
  · exact (if_neg d).trans (if_pos (Int32.not_le.mp (fun q => h ⟨Int32.not_lt.mp d, q⟩)))
theorem e_isK1 {N : Nat} {s : CS} {x : Int32} (h : 0 ≤ x ∧ x < s.i 13) : f_X10_isKind N s x = some (1, s) := by
  unfold f_X10_isKind
  exact (if_neg (Int32.not_lt.mpr h.1)).trans (if_neg (Int32.not_le.mpr h.2))
theorem e_isK0 {N : Nat} {s : CS} {x : Int32} (h : ¬ (0 ≤ x ∧ x < s.i 13)) : f_X10_isKind N s x = some (0, s) := by
  unfold f_X10_isKind f_X10_isKind_16
  by_cases d : x < 0
  · exact if_pos d
  · exact (if_neg d).trans (if_pos (Int32.not_lt.mp (fun q => h ⟨Int32.not_lt.mp d, q⟩)))
theorem le_m1 {x n : Int32} (h : 4 ≤ n) : x ≤ n - 1 ↔ x < n := by
  have h' := le_int h
  have e4 : (4 : Int32).toInt = 4 := by decide
  have e1 : (1 : Int32).toInt = 1 := by decide
  have hi := Int32.toInt_lt n
  have e : (n - 1).toInt = n.toInt - 1 := by rw [toInt_sub] <;> rw [e1] <;> omega
  rw [Int32.le_iff_toInt_le, Int32.lt_iff_toInt_lt, e]
  omega
theorem le_mk {x n : Int32} (h : 4 ≤ n) : (-1 ≤ x ∧ x ≤ n - 1) ↔ (x = -1 ∨ (0 ≤ x ∧ x < n)) := by
  rw [le_m1 h]
  have em : (-1 : Int32).toInt = -1 := by decide
  have h' := le_int h
  have e4 : (4 : Int32).toInt = 4 := by decide
  have ex : x = -1 ↔ x.toInt = -1 := ⟨fun q => by rw [q]; exact em, fun q => Int32.toInt_inj.mp (by rw [q, em])⟩
  rw [Int32.le_iff_toInt_le, Int32.lt_iff_toInt_lt, Int32.le_iff_toInt_le, ex, em, z_t0]
  omega
theorem e_ikn1 {N : Nat} {s : CS} {x : Int32} (h : x = -1 ∨ (0 ≤ x ∧ x < s.i 13)) : f_X11_isKindOrNothing N s x = some (1, s) := by
  unfold f_X11_isKindOrNothing f_X11_isKindOrNothing_16
  by_cases d : x = -1
  · exact if_pos d
  · refine (if_neg d).trans ?_
    rcases h with h | h
    · exact absurd h d
    · rw [e_isK1 h, ob_some]
      exact if_neg n10
theorem e_ikn0 {N : Nat} {s : CS} {x : Int32} (h : ¬ (x = -1 ∨ (0 ≤ x ∧ x < s.i 13))) : f_X11_isKindOrNothing N s x = some (0, s) := by
  unfold f_X11_isKindOrNothing
  refine (if_neg (fun q => h (Or.inl q))).trans ?_
  rw [e_isK0 (fun q => h (Or.inr q)), ob_some]
  exact if_pos rfl
/-! the plain calls -/
theorem t_fault {N : Nat} {s : CS} {r : RS} {T : Int32 × CS} {U : Int32 × RS} (h : TLD s r) (e : f_X11_fault N s = some T) (g : f_X12_fault N r = some U) : TLD T.2 U.2 := by
  obtain ⟨a1, a2, a3, a4⟩ := k4_X11_fault N s T e
  exact h.of a1 a2 a3 a4 (kr_f_X12_fault N r U g)
theorem t_program {N : Nat} {s : CS} {r : RS} {T : Int32 × CS} {U : Int32 × RS} (h : TLD s r) (x1 : Int32) (e : f_X11_program N s x1 = some T) (g : f_X12_program N r x1 = some U) : TLD T.2 U.2 := by
  obtain ⟨a1, a2, a3, a4⟩ := k4_X11_program N s x1 T e
  exact h.of a1 a2 a3 a4 (kr_f_X12_program N r x1 U g)
theorem t_ran {N : Nat} {s : CS} {r : RS} {T : Int32 × CS} {U : Int32 × RS} (h : TLD s r) (x1 : Int32) (e : f_X11_ran N s x1 = some T) (g : f_X12_ran N r x1 = some U) : TLD T.2 U.2 := by
  obtain ⟨a1, a2, a3, a4⟩ := k4_X11_ran N s x1 T e
  exact h.of a1 a2 a3 a4 (kr_f_X12_ran N r x1 U g)
theorem t_trace {N : Nat} {s : CS} {r : RS} {T : Int32 × CS} {U : Int32 × RS} (h : TLD s r) (x1 x2 : Int32) (e : f_X11_trace N s x1 x2 = some T) (g : f_X12_trace N r x1 x2 = some U) : TLD T.2 U.2 := by
  obtain ⟨a1, a2, a3, a4⟩ := k4_X11_trace N s x1 x2 T e
  exact h.of a1 a2 a3 a4 (kr_f_X12_trace N r x1 x2 U g)
theorem t_suppressed {N : Nat} {s : CS} {r : RS} {T : Int32 × CS} {U : Int32 × RS} (h : TLD s r) (x1 x2 : Int32) (e : f_X11_suppressed N s x1 x2 = some T) (g : f_X12_suppressed N r x1 x2 = some U) : TLD T.2 U.2 := by
  obtain ⟨a1, a2, a3, a4⟩ := k4_X11_suppressed N s x1 x2 T e
  exact h.of a1 a2 a3 a4 (kr_f_X12_suppressed N r x1 x2 U g)
theorem t_run {N : Nat} (hN : 10000000000 ≤ N) {h0 : Nat} {s : CS} {r : RS} {T : Int32 × CS} {U : Int32 × RS} (hc : CIV h0 s) (h : TLD s r) (x1 x2 : Int32) (e : f_X11_run N s x1 x2 = some T) (g : f_X12_run N r x1 x2 = some U) : TLD T.2 U.2 := by
  have q : ok (f_X11_run N s x1 x2) (fun R => R.2.i 5 = s.i 5 ∧ R.2.i 13 = s.i 13 ∧ R.2.i 14 = s.i 14 ∧ R.2.a 9 = s.a 9) := by
    unfold f_X11_run
    refine ok_ite (fun _ => ok_some ⟨rfl, rfl, rfl, rfl⟩) (fun c => ?_)
    obtain ⟨Y, hY⟩ : ∃ Y, Y = CS.setI s 8 1 := ⟨_, rfl⟩
    have f2 : ∀ j : Nat, j ≠ 8 → Y.i j = s.i j := fun j hj => by rw [hY]; exact ci_ne _ _ _ hj
    have f9 : Y.a 9 = s.a 9 := by rw [hY]; rfl
    have cY : CIV h0 Y := by
      refine hc.of (by rw [hY]; exact HSM.i _ _ _) ⟨by rw [f2 14 (by decide)]; exact hc.2.2.2.2.1.1, by rw [f2 13 (by decide)]; exact hc.2.2.2.2.1.2⟩ (by rw [f2 5 (by decide)]; exact hc.2.2.2.2.2.1) (f2 7 (by decide)) ⟨by rw [hY]; rfl, by rw [hY]; rfl, by rw [hY]; rfl, f2 20 (by decide)⟩
    rw [← hY]
    obtain ⟨D, hD⟩ := cY.2.2.2.2.2.2 (by rw [f2 7 (by decide)]; exact c)
    refine ok_bind (q_perform hN cY.1 cY.2.1 hD x1 x2) (fun R hR => ok_some ?_)
    obtain ⟨r1, r2, m1, m2, m3, m4, m5, m6⟩ := hR
    exact ⟨(m1 5 (by decide)).trans (f2 5 (by decide)), (m1 13 (by decide)).trans (f2 13 (by decide)), (m1 14 (by decide)).trans (f2 14 (by decide)), (m2 9 (by decide)).trans f9⟩
  obtain ⟨a1, a2, a3, a4⟩ := ok_at q e
  exact h.of a1 a2 a3 a4 (kr_f_X12_run N r x1 x2 U g)
theorem k4_X11_read (N : Nat) (E1 : CS → Option (Unit × CS)) (E2 : CS → Option (Int32 × CS)) (hm1 : ∀ σ, Kp4 (CS.i σ 5) (CS.i σ 13) (CS.i σ 14) (CS.a σ 9) (E1 σ)) (hm2 : ∀ σ, Kp4 (CS.i σ 5) (CS.i σ 13) (CS.i σ 14) (CS.a σ 9) (E2 σ)) (σ : CS) : Kp4 0 (CS.i σ 13) (CS.i σ 14) (CS.a σ 9) (f_X11_read N E1 E2 σ) := by
  unfold f_X11_read f_X11_read_43
  exact kp4_bind (kp4_le ⟨rfl, rfl, rfl, rfl⟩ (k4_X7_translate N E1 E2 hm1 hm2 (CS.setI (CS.setI σ 5 0) 8 0) (σ.i 5))) (fun p1 => kp4_ite (kp4_ite (kp4_some ⟨rfl, rfl, rfl, rfl⟩) (kp4_some ⟨rfl, rfl, rfl, rfl⟩)) (kp4_ite (kp4_some ⟨rfl, rfl, rfl, rfl⟩) (kp4_some ⟨rfl, rfl, rfl, rfl⟩)))
theorem kr_199 (N : Nat) (σ : RS) : KR σ (f_X12_read_199 N σ) := by
  unfold f_X12_read_199
  exact kr_ite (kr_some ⟨rfl, rfl, rfl, rfl⟩) (kr_some ⟨rfl, rfl, rfl, rfl⟩)
theorem kr_167 (N : Nat) (σ : RS) : KR σ (f_X12_read_167 N σ) := by
  unfold f_X12_read_167
  exact kr_ite (kr_ite (kr_st ⟨rfl, rfl, rfl, rfl⟩ (kr_199 N _)) (kr_st ⟨rfl, rfl, rfl, rfl⟩ (kr_199 N _))) kr_none
theorem kr_138 (N : Nat) (σ : RS) : KR (RS.setI σ 2 0) (f_X12_read_138 N σ) := by
  unfold f_X12_read_138
  exact kr_ite (kr_ite (kr_167 N _) (kr_bindv (kr_f_X12_fail N _ _ _) (fun p => kr_167 N p))) (kr_167 N _)
theorem kz_read {N : Nat} {r : RS} {U : Int32 × RS} (g : f_X12_read N r = some U) : U.2.i 3 = r.i 3 ∧ U.2.i 8 = r.i 8 ∧ U.2.a 4 = r.a 4 ∧ U.2.i 2 = 0 := by
  unfold f_X12_read at g
  obtain ⟨A, hA⟩ : ∃ A, A = RS.setI (RS.setI (RS.setI (RS.setI (RS.setI (RS.setI (RS.setI (RS.setI (RS.setI r 0 0) 38 0) 42 0) 43 0) 19 0) 53 0) 54 0) 55 0) 20 0 := ⟨_, rfl⟩
  have kA : KSR r A := by rw [hA]; exact ⟨rfl, rfl, rfl, rfl⟩
  rw [← hA] at g
  clear hA
  obtain ⟨B, hB⟩ : ∃ B, B = RS.setI (RS.setI (RS.setI (RS.setI (RS.setI (RS.setI (RS.setI (RS.setI (RS.setI (RS.setI A 24 0) 29 0) 33 0) 56 0) 59 0) 52 0) 12 0) 15 0) 18 (-1)) 17 0 := ⟨_, rfl⟩
  have kB : KSR A B := by rw [hB]; exact ⟨rfl, rfl, rfl, rfl⟩
  rw [← hB] at g
  clear hB
  obtain ⟨p1, g1, g⟩ := hf_bind g
  obtain ⟨p3, g3, g⟩ := hf_bind g
  obtain ⟨p5, g5, g⟩ := hf_bind g
  obtain ⟨p7, g7, g⟩ := hf_bind g
  have k7 : KSR r p7 := ((((kA.tr kB).tr (kr_f_X12_see N _ _ _ p1 g1)).tr (kr_f_X12_see N _ _ _ p3 g3)).tr (kr_f_X12_next N _ p5 g5)).tr (kr_f_X12_parse N _ p7 g7)
  have fin : ∀ (p : Int32 × RS), KSR p7 p.2 → f_X12_read_138 N p.2 = some U → U.2.i 3 = r.i 3 ∧ U.2.i 8 = r.i 8 ∧ U.2.a 4 = r.a 4 ∧ U.2.i 2 = 0 := fun p kp gp => by
    obtain ⟨b1, b2, b3, b4⟩ := kr_138 N p.2 U gp
    obtain ⟨c1, c2, c3, c4⟩ := k7.tr kp
    exact ⟨b1.trans c1, b2.trans c2, b3.trans c3, b4⟩
  by_cases c : p7.i 10 = 0
  · rw [if_pos c] at g
    obtain ⟨p, g9, g⟩ := hf_bind g
    exact fin p (kr_f_X12_can N _ _ p g9) g
  · rw [if_neg c] at g
    obtain ⟨p, g9, g⟩ := hf_bind g
    exact fin p (kr_f_X12_can N _ _ p g9) g
theorem t_read {N : Nat} {s : CS} {r : RS} {T : Int32 × CS} {U : Int32 × RS} (h : TLD s r) (e : f_X11_read N (fEE N 23).1 (fEE N 23).2 s = some T) (g : f_X12_read N r = some U) : TLD T.2 U.2 := by
  obtain ⟨a1, a2, a3, a4⟩ := k4_X11_read N _ _ (k4EE N 23).1 (k4EE N 23).2 s T e
  obtain ⟨b1, b2, b3, b4⟩ := kz_read g
  obtain ⟨h1, h2, h3, h4, h5⟩ := h
  refine ⟨?_, ?_, ?_, ?_, ?_⟩
  · rw [a1, b4]
  · rw [a2, b1]; exact h2
  · rw [a3, b2]; exact h3
  · rw [a4]; exact h4
  · rw [a4, b1, b3]; exact h5
/-! asserts, cut, kind, feed: what they answer, too -/
theorem t_asserts {N : Nat} {s : CS} {r : RS} {T : Int32 × CS} {U : Int32 × RS} (h : TLD s r) (x1 : Int32) (e : f_X11_asserts N s x1 = some T) (g : f_X12_asserts N r x1 = some U) : TLD T.2 U.2 ∧ T.1 = U.1 := by
  obtain ⟨a1, a2, a3, a4, a5⟩ := h
  unfold f_X11_asserts f_X11_asserts_16 at e
  unfold f_X12_asserts f_X12_asserts_18 at g
  rw [a3] at e
  by_cases c : r.i 8 = 0
  · rw [if_pos c] at e g
    obtain ⟨d, e⟩ := hf_ite e
    obtain ⟨d', g⟩ := hf_ite g
    cases e
    cases g
    exact ⟨⟨a1, a2, rfl, a4, a5⟩, rfl⟩
  · rw [if_neg c] at e g
    obtain ⟨d, e⟩ := hf_ite e
    obtain ⟨d', g⟩ := hf_ite g
    cases e
    cases g
    exact ⟨⟨a1, a2, rfl, a4, a5⟩, rfl⟩
theorem t_cut {N : Nat} {s : CS} {r : RS} {T : Int32 × CS} {U : Int32 × RS} (h : TLD s r) (x1 : Int32) (e : f_X11_cut N s x1 = some T) (g : f_X12_cut N r x1 = some U) : TLD T.2 U.2 ∧ T.1 = U.1 := by
  obtain ⟨a1, a2, a3, a4, a5⟩ := h
  by_cases c : 0 ≤ x1 ∧ x1 ≤ r.i 2
  · have e' : f_X11_cut N s x1 = some (s.i 5 - x1, CS.setI s 5 x1) := by
      unfold f_X11_cut
      exact (if_neg (Int32.not_lt.mpr c.1)).trans (if_pos (by rw [a1]; exact c.2))
    have g' : f_X12_cut N r x1 = some (r.i 2 - x1, RS.setI (RS.setI r 0 0) 2 x1) := by
      unfold f_X12_cut
      rw [e_in1 c, ob_some]
      exact if_neg n10
    rw [e'] at e
    rw [g'] at g
    cases e
    cases g
    refine ⟨⟨rfl, a2, a3, a4, a5⟩, ?_⟩
    show s.i 5 - x1 = r.i 2 - x1
    rw [a1]
  · have c' : ¬ (0 ≤ x1 ∧ x1 ≤ s.i 5) := by rw [a1]; exact c
    have e' : f_X11_cut N s x1 = some (-1, s) := by
      unfold f_X11_cut f_X11_cut_12
      by_cases d : x1 < 0
      · exact if_pos d
      · exact (if_neg d).trans (if_neg (fun q => c' ⟨Int32.not_lt.mp d, q⟩))
    have g' : f_X12_cut N r x1 = some (-1, RS.setI r 0 0) := by
      unfold f_X12_cut
      rw [e_in0 c, ob_some]
      exact if_pos rfl
    rw [e'] at e
    rw [g'] at g
    cases e
    cases g
    exact ⟨⟨a1, a2, a3, a4, a5⟩, rfl⟩
theorem t_kind {N : Nat} {s : CS} {r : RS} {T : Int32 × CS} {U : Int32 × RS} (hr : RB r) (h : TLD s r) (x1 : Int32) (e : f_X11_kind N s x1 = some T) (g : f_X12_kind N r x1 = some U) : TLD T.2 U.2 ∧ T.1 = U.1 := by
  obtain ⟨a1, a2, a3, a4, a5⟩ := h
  have b3 := hr.2.1
  by_cases c : 0 ≤ x1 ∧ x1 < r.i 3
  · have k1 : f_X10_isKind N s x1 = some (1, s) := e_isK1 ⟨c.1, by rw [a2]; exact c.2⟩
    have k2 : f_X12_in N (RS.setI r 0 0) x1 0 (r.i 3 - 1) = some (1, RS.setI r 0 0) := e_in1 ⟨c.1, (le_m1 b3.1).mpr c.2⟩
    by_cases d : r.i 3 = 12
    · have l : ¬ s.i 13 < 12 := by rw [a2, d]; decide
      have e' : f_X11_kind N s x1 = some (-2, s) := by
        unfold f_X11_kind f_X10_isFull
        rw [k1, ob_some]
        refine (if_neg n10).trans ?_
        show Option.bind (if s.i 13 < 12 then some ((0 : Int32), s) else some (1, s)) _ = _
        rw [if_neg l, ob_some]
        exact if_neg n10
      have g' : f_X12_kind N r x1 = some (-2, RS.setI r 0 0) := by
        unfold f_X12_kind
        rw [k2, ob_some]
        exact (if_neg n10).trans (if_pos d)
      rw [e'] at e
      rw [g'] at g
      cases e
      cases g
      exact ⟨⟨a1, a2, a3, a4, a5⟩, rfl⟩
    · have e12 : (12 : Int32).toInt = 12 := by decide
      have e4 : (4 : Int32).toInt = 4 := by decide
      have e1 : (1 : Int32).toInt = 1 := by decide
      have l4 := le_int b3.1
      have l12 : (r.i 3).toInt < 12 := by
        have q := le_int b3.2
        rcases Int.lt_or_eq_of_le q with z | z
        · omega
        · exact absurd (Int32.toInt_inj.mp z) d
      have l : s.i 13 < 12 := by rw [a2, Int32.lt_iff_toInt_lt]; omega
      have hib : ib (r.i 3) 12 := ⟨by omega, by omega⟩
      have e' : f_X11_kind N s x1 = some ((s.i 13 + 1) - 1, CS.setI (CS.putA s 9 (gPut (s.a 9) 12 (s.i 13) x1)) 13 (s.i 13 + 1)) := by
        unfold f_X11_kind f_X10_isFull f_X10_addKind
        rw [k1, ob_some]
        refine (if_neg n10).trans ?_
        show Option.bind (if s.i 13 < 12 then some ((0 : Int32), s) else some (1, s)) _ = _
        rw [if_pos l, ob_some]
        exact if_pos rfl
      have g' : f_X12_kind N r x1 = some ((r.i 3 + 1) - 1, RS.setI (RS.setA (RS.setI r 0 0) 4 (r.i 3).toNatClampNeg x1) 3 (r.i 3 + 1)) := by
        unfold f_X12_kind
        rw [k2, ob_some]
        exact (if_neg n10).trans ((if_neg d).trans (if_pos hib))
      rw [e'] at e
      rw [g'] at g
      cases e
      cases g
      have ck := clampI hib.1
      have en : (r.i 3 + 1).toInt = (r.i 3).toInt + 1 := by rw [toInt_add] <;> rw [e1] <;> omega
      have gp : gPut (s.a 9) 12 (s.i 13) x1 = upd (s.a 9) (r.i 3).toNatClampNeg x1 := by
        rw [a2]
        unfold gPut
        exact if_pos hib
      refine ⟨⟨a1, ?_, a3, ?_, ?_⟩, ?_⟩
      · show s.i 13 + 1 = r.i 3 + 1
        rw [a2]
      · show gPut (s.a 9) 12 (s.i 13) x1 0 = -1
        rw [gp]
        refine Eq.trans ?_ a4
        exact if_neg (by omega)
      · intro k k0 k1
        have k1' : (k : Int) < (r.i 3 + 1).toInt := k1
        rw [en] at k1'
        show gPut (s.a 9) 12 (s.i 13) x1 k = upd (r.a 4) (r.i 3).toNatClampNeg x1 k
        rw [gp]
        by_cases q : k = (r.i 3).toNatClampNeg
        · exact (if_pos q).trans (if_pos q).symm
        · exact (if_neg q).trans ((a5 k k0 (by omega)).trans (if_neg q).symm)
      · show s.i 13 + 1 - 1 = r.i 3 + 1 - 1
        rw [a2]
  · have c1 : ¬ (0 ≤ x1 ∧ x1 < s.i 13) := by rw [a2]; exact c
    have e' : f_X11_kind N s x1 = some (-1, s) := by
      unfold f_X11_kind
      rw [e_isK0 c1, ob_some]
      exact if_pos rfl
    have c2 : ¬ (0 ≤ x1 ∧ x1 ≤ r.i 3 - 1) := by rw [le_m1 b3.1]; exact c
    have g' : f_X12_kind N r x1 = some (-1, RS.setI r 0 0) := by
      unfold f_X12_kind
      rw [e_in0 c2, ob_some]
      exact if_pos rfl
    rw [e'] at e
    rw [g'] at g
    cases e
    cases g
    exact ⟨⟨a1, a2, a3, a4, a5⟩, rfl⟩
/-- bytes come behind: the class -/
theorem y_feed {N : Nat} (hN : 1000 ≤ N) {h : Nat} {s : CS} (hc : CIV h s) (x1 x2 x3 x4 x5 : Int32) : ok (f_X11_feed N s x1 x2 x3 x4 x5) (fun R => (s.i 5 + 20 ≤ 900 → R.1 = s.i 5 + 20 ∧ R.2.i 5 = s.i 5 + 20) ∧ (¬ s.i 5 + 20 ≤ 900 → R.1 = -2 ∧ R.2.i 5 = s.i 5) ∧ R.2.i 13 = s.i 13 ∧ R.2.i 14 = s.i 14 ∧ R.2.a 9 = s.a 9) := by
  unfold f_X11_feed
  refine ok_ite (fun c => ?_) (fun c => ok_some ⟨fun q => absurd q c, fun _ => ⟨rfl, rfl⟩, rfl, rfl, rfl⟩)
  have h5 := hc.2.2.2.2.2.1
  have l := le_int c
  have e20 : (20 : Int32).toInt = 20 := by decide
  have e9 : (900 : Int32).toInt = 900 := by decide
  have e5 : (s.i 5 + 20).toInt = (s.i 5).toInt + 20 := by rw [toInt_add] <;> rw [e20] <;> omega
  have l' := l
  rw [e5, e9] at l'
  refine ok_bind (q_addB hN x1 (by omega)) (fun p1 h1 => ok_bind (q_addB hN x2 (by rw [h1.2.2.2]; omega)) (fun p2 h2' => ?_))
  have h2 := h1.tr h2'
  refine ok_bind (q_addB hN x3 (by rw [h2.2.2.2]; omega)) (fun p3 h3' => ?_)
  have h3 := h2.tr h3'
  refine ok_bind (q_addB hN x4 (by rw [h3.2.2.2]; omega)) (fun p4 h4' => ?_)
  have h4 := h3.tr h4'
  refine ok_bind (q_addB hN x5 (by rw [h4.2.2.2]; omega)) (fun p5 h5' => ok_some ?_)
  obtain ⟨f1, f2, f3, f4⟩ := h4.tr h5'
  have q5 : p5.2.i 5 = s.i 5 + 20 := Int32.toInt_inj.mp (by rw [f4, e5]; omega)
  exact ⟨fun _ => ⟨q5, q5⟩, fun q => absurd c q, f2 13 (by decide), f2 14 (by decide), f3 9 (by decide)⟩
/-- the reference -/
def KFD (s : RS) (t : Option (Int32 × RS)) : Prop := ∀ R, t = some R → R.1 = s.i 2 + 20 ∧ R.2.i 2 = s.i 2 + 20 ∧ R.2.i 3 = s.i 3 ∧ R.2.i 8 = s.i 8 ∧ R.2.a 4 = s.a 4
theorem kf_none {s : RS} : KFD s none := fun R q => by cases q
theorem kf_ite {s : RS} {c : Prop} [Decidable c] {x y : Option (Int32 × RS)} (hx : KFD s x) (hy : KFD s y) : KFD s (if c then x else y) := by
  by_cases h : c
  · rw [if_pos h]; exact hx
  · rw [if_neg h]; exact hy
theorem kf_24 (N : Nat) (x1 x2 x3 x4 x5 : Int32) : ∀ (n : Nat) (r : RS) (k : Int32), KFD r (f_X12_feed_24 N n r x1 x2 x3 x4 x5 k)
  | 0, _, _ => kf_none
  | n + 1, r, k => by
    show KFD r (b_X12_feed_24 N (f_X12_feed_24 N n) r x1 x2 x3 x4 x5 k)
    unfold b_X12_feed_24
    have fin : ∀ (j : Nat) (v : Int32), KFD r (f_X12_feed_24 N n (RS.setA r 1 j v) x1 x2 x3 x4 x5 (k + 1)) := fun j v => kf_24 N x1 x2 x3 x4 x5 n (RS.setA r 1 j v) (k + 1)
    exact kf_ite (fun R q => by cases q; exact ⟨rfl, rfl, rfl, rfl, rfl⟩) (kf_ite (kf_ite (kf_ite (kf_ite (kf_ite (fin _ _) kf_none) (kf_ite (fin _ _) kf_none)) (kf_ite (fin _ _) kf_none)) (kf_ite (fin _ _) kf_none)) (kf_ite (fin _ _) kf_none))
theorem t_feed {N : Nat} (hN : 1000 ≤ N) {h0 : Nat} {s : CS} {r : RS} {T : Int32 × CS} {U : Int32 × RS} (hc : CIV h0 s) (h : TLD s r) (x1 x2 x3 x4 x5 : Int32) (e : f_X11_feed N s x1 x2 x3 x4 x5 = some T) (g : f_X12_feed N r x1 x2 x3 x4 x5 = some U) : TLD T.2 U.2 ∧ T.1 = U.1 := by
  obtain ⟨b1, b2, b3, b4, b5⟩ := ok_at (y_feed hN hc x1 x2 x3 x4 x5) e
  obtain ⟨a1, a2, a3, a4, a5⟩ := h
  rw [a1] at b1 b2
  unfold f_X12_feed at g
  by_cases c : r.i 2 + 20 ≤ 900
  · rw [if_pos c] at g
    obtain ⟨g1, g2, g3, g4, g5⟩ := kf_24 N x1 x2 x3 x4 x5 N _ _ U g
    obtain ⟨d1, d2⟩ := b1 c
    refine ⟨⟨d2.trans g2.symm, ?_, ?_, ?_, ?_⟩, d1.trans g1.symm⟩
    · rw [b3, g3]; exact a2
    · rw [b4, g4]; exact a3
    · rw [b5]; exact a4
    · rw [b5, g3, g5]; exact a5
  · rw [if_neg c] at g
    cases g
    obtain ⟨d1, d2⟩ := b2 c
    refine ⟨⟨d2, ?_, ?_, ?_, ?_⟩, d1⟩
    · rw [b3]; exact a2
    · rw [b4]; exact a3
    · rw [b5]; exact a4
    · rw [b5]; exact a5
/-! resource -/
theorem t_resource {N : Nat} {s : CS} {r : RS} {T : Int32 × CS} {U : Int32 × RS} (hr : RB r) (h : TLD s r) (x1 x2 x3 x4 : Int32) (e : f_X11_resource N s x1 x2 x3 x4 = some T) (g : f_X12_resource N r x1 x2 x3 x4 = some U) : TLD T.2 U.2 ∧ T.1 = U.1 := by
  obtain ⟨f1, f2, f3, f4⟩ := k4_X11_resource N s x1 x2 x3 x4 T e
  refine ⟨h.of f1 f2 f3 f4 (kr_f_X12_resource N r x1 x2 x3 x4 U g), ?_⟩
  obtain ⟨a1, a2, a3, a4, a5⟩ := h
  have b3 := hr.2.1.1
  have e7 : (7 : Int32).toInt = 7 := by decide
  have e8 : (8 : Int32).toInt = 8 := by decide
  have w : ∀ x : Int32, (x = -1 ∨ (0 ≤ x ∧ x < s.i 13)) ↔ (-1 ≤ x ∧ x ≤ r.i 3 - 1) := fun x => by rw [a2]; exact (le_mk b3).symm
  by_cases c1 : 0 ≤ x1 ∧ x1 ≤ 7
  · have i1 : ¬ x1 < 0 := Int32.not_lt.mpr c1.1
    have i2 : ¬ 8 ≤ x1 := fun q => by
      have q1 := le_int q
      have q2 := le_int c1.2
      omega
    by_cases c2 : 0 ≤ x2 ∧ x2 ≤ 1
    · have i3 : ¬ x2 < 0 := Int32.not_lt.mpr c2.1
      by_cases c3 : -1 ≤ x3 ∧ x3 ≤ r.i 3 - 1
      · by_cases c4 : -1 ≤ x4 ∧ x4 ≤ r.i 3 - 1
        · have e' : ok (f_X11_resource N s x1 x2 x3 x4) (fun R => R.1 = 1) := by
            unfold f_X11_resource f_X10_tellResource
            rw [if_neg i1, if_neg i2, if_neg i3, if_pos c2.2, e_ikn1 ((w x3).mpr c3), ob_some]
            refine ok_ite (fun q => absurd q n10) (fun _ => ?_)
            show ok (Option.bind (f_X11_isKindOrNothing N s x4) _) _
            rw [e_ikn1 ((w x4).mpr c4), ob_some]
            refine ok_ite (fun q => absurd q n10) (fun _ => ?_)
            exact ok_bind (ok_some (P := fun _ => True) trivial) (fun p _ => ok_some rfl)
          have hib : ib x1 8 := by
            have q1 := le_int c1.1
            have q2 := le_int c1.2
            rw [z_t0] at q1
            exact ⟨q1, by omega⟩
          have g' : ok (f_X12_resource N r x1 x2 x3 x4) (fun R => R.1 = 1) := by
            unfold f_X12_resource f_X12_resource_71
            rw [e_in1 c1, ob_some]
            have k4 : ∀ X : RS, ok (if ib x1 8 then some ((1 : Int32), RS.setA (RS.setA X 6 x1.toNatClampNeg (x3 + 1)) 7 x1.toNatClampNeg (x4 + 1)) else none) (fun R => R.1 = 1) := fun X => ok_chk hib (ok_some rfl)
            refine ok_ite (fun q => absurd q n10) (fun _ => ?_)
            show ok (Option.bind (f_X12_in N (RS.setI r 0 0) x2 0 1) _) _
            rw [e_in1 c2, ob_some]
            refine ok_ite (fun q => absurd q n10) (fun _ => ?_)
            show ok (Option.bind (f_X12_in N (RS.setI r 0 0) x3 (-1) (r.i 3 - 1)) _) _
            rw [e_in1 c3, ob_some]
            refine ok_ite (fun q => absurd q n10) (fun _ => ?_)
            show ok (Option.bind (f_X12_in N (RS.setI r 0 0) x4 (-1) (r.i 3 - 1)) _) _
            rw [e_in1 c4, ob_some]
            refine ok_ite (fun q => absurd q n10) (fun _ => ?_)
            exact ok_ite (fun _ => ok_chk hib (k4 _)) (fun _ => ok_chk hib (k4 _))
          exact (ok_at e' e).trans (ok_at g' g).symm
        · have e' : f_X11_resource N s x1 x2 x3 x4 = some (-1, s) := by
            unfold f_X11_resource f_X11_resource_38
            rw [if_neg i1, if_neg i2, if_neg i3, if_pos c2.2, e_ikn1 ((w x3).mpr c3), ob_some]
            refine (if_neg n10).trans ?_
            show Option.bind (f_X11_isKindOrNothing N s x4) _ = _
            rw [e_ikn0 (fun q => c4 ((w x4).mp q)), ob_some]
            exact if_pos rfl
          have g' : f_X12_resource N r x1 x2 x3 x4 = some (-1, RS.setI r 0 0) := by
            unfold f_X12_resource f_X12_resource_53
            rw [e_in1 c1, ob_some]
            refine (if_neg n10).trans ?_
            show Option.bind (f_X12_in N (RS.setI r 0 0) x2 0 1) _ = _
            rw [e_in1 c2, ob_some]
            refine (if_neg n10).trans ?_
            show Option.bind (f_X12_in N (RS.setI r 0 0) x3 (-1) (r.i 3 - 1)) _ = _
            rw [e_in1 c3, ob_some]
            refine (if_neg n10).trans ?_
            show Option.bind (f_X12_in N (RS.setI r 0 0) x4 (-1) (r.i 3 - 1)) _ = _
            rw [e_in0 c4, ob_some]
            exact if_pos rfl
          rw [e'] at e
          rw [g'] at g
          cases e
          cases g
          rfl
      · have e' : f_X11_resource N s x1 x2 x3 x4 = some (-1, s) := by
          unfold f_X11_resource f_X11_resource_38
          rw [if_neg i1, if_neg i2, if_neg i3, if_pos c2.2, e_ikn0 (fun q => c3 ((w x3).mp q)), ob_some]
          exact if_pos rfl
        have g' : f_X12_resource N r x1 x2 x3 x4 = some (-1, RS.setI r 0 0) := by
          unfold f_X12_resource f_X12_resource_53
          rw [e_in1 c1, ob_some]
          refine (if_neg n10).trans ?_
          show Option.bind (f_X12_in N (RS.setI r 0 0) x2 0 1) _ = _
          rw [e_in1 c2, ob_some]
          refine (if_neg n10).trans ?_
          show Option.bind (f_X12_in N (RS.setI r 0 0) x3 (-1) (r.i 3 - 1)) _ = _
          rw [e_in0 c3, ob_some]
          exact if_pos rfl
        rw [e'] at e
        rw [g'] at g
        cases e
        cases g
        rfl
    · have e' : f_X11_resource N s x1 x2 x3 x4 = some (-1, s) := by
        unfold f_X11_resource f_X11_resource_19
        rw [if_neg i1, if_neg i2]
        by_cases d : x2 < 0
        · exact if_pos d
        · exact (if_neg d).trans (if_neg (fun q => c2 ⟨Int32.not_lt.mp d, q⟩))
      have g' : f_X12_resource N r x1 x2 x3 x4 = some (-1, RS.setI r 0 0) := by
        unfold f_X12_resource f_X12_resource_53
        rw [e_in1 c1, ob_some]
        refine (if_neg n10).trans ?_
        show Option.bind (f_X12_in N (RS.setI r 0 0) x2 0 1) _ = _
        rw [e_in0 c2, ob_some]
        exact if_pos rfl
      rw [e'] at e
      rw [g'] at g
      cases e
      cases g
      rfl
  · have e' : f_X11_resource N s x1 x2 x3 x4 = some (-1, s) := by
      unfold f_X11_resource f_X11_resource_19
      by_cases d : x1 < 0
      · exact if_pos d
      · refine (if_neg d).trans (if_pos ?_)
        rw [Int32.le_iff_toInt_le]
        have q1 : ¬ x1.toInt ≤ 7 := fun q => c1 ⟨Int32.not_lt.mp d, by rw [Int32.le_iff_toInt_le, e7]; exact q⟩
        omega
    have g' : f_X12_resource N r x1 x2 x3 x4 = some (-1, RS.setI r 0 0) := by
      unfold f_X12_resource f_X12_resource_53
      rw [e_in0 c1, ob_some]
      exact if_pos rfl
    rw [e'] at e
    rw [g'] at g
    cases e
    cases g
    rfl
/-! under -/
theorem t_und {N : Nat} {s : CS} {r : RS} (hr : RB r) (h : TLD s r) {b : Int32} : ∀ (n1 n2 : Nat) (k x4 : Int32), 0 ≤ k.toInt → k.toInt < (r.i 3).toInt → 0 ≤ x4.toInt → x4.toInt + k.toInt < 12 → k.toInt + 2 ≤ n1 → k.toInt + 1 ≤ n2 → ∃ v : Int32, (v = 0 ∨ v = 1) ∧ f_X10_isUnder_5 N n1 s b k x4 = some (v, s) ∧ f_X12_isUnder_2 N n2 r b k = some (v, r)
  | 0, _, _, _, h0, _, _, _, h1, _ => by omega
  | n1 + 1, 0, _, _, h0, _, _, _, _, h2 => by omega
  | n1 + 1, n2 + 1, k, x4, h0, h3, h4, h5, h1, h2 => by
    have e12 : (12 : Int32).toInt = 12 := by decide
    have e1 : (1 : Int32).toInt = 1 := by decide
    have nx : ¬ (12 : Int32) ≤ x4 := fun q => by
      have := le_int q
      omega
    have nk : ¬ k < 0 := fun q => by
      have := lt_int q
      rw [z_t0] at this
      omega
    have es : (x4 + 1).toInt = x4.toInt + 1 := by rw [toInt_add] <;> rw [e1] <;> omega
    show ∃ v : Int32, (v = 0 ∨ v = 1) ∧ b_X10_isUnder_5 N (f_X10_isUnder_5 N n1) s b k x4 = some (v, s) ∧ b_X12_isUnder_2 N (f_X12_isUnder_2 N n2) r b k = some (v, r)
    unfold b_X10_isUnder_5 b_X12_isUnder_2 f_X10_isUnder_38 f_X12_isUnder_21
    by_cases c : k = b
    · exact ⟨1, Or.inr rfl, (if_neg nx).trans ((if_neg nk).trans (if_pos c)), (if_pos c).trans (if_pos c)⟩
    · by_cases d : k ≤ 0
      · have k0 : k.toInt = 0 := by
          have := le_int d
          rw [z_t0] at this
          omega
        have kz : k = 0 := Int32.toInt_inj.mp (by rw [k0, z_t0])
        refine ⟨0, Or.inl rfl, (if_neg nx).trans ((if_neg nk).trans ((if_neg c).trans ?_)), (if_neg c).trans ((if_pos d).trans (if_neg c))⟩
        have gk : gAt (s.a 9) 12 k = -1 := by
          rw [kz]
          unfold gAt
          exact (if_pos ⟨by decide, by decide⟩).trans h.2.2.2.1
        rw [gk]
        obtain ⟨n, rfl⟩ : ∃ n, n1 = n + 1 := ⟨n1 - 1, by omega⟩
        show b_X10_isUnder_5 N (f_X10_isUnder_5 N n) s b (-1) (x4 + 1) = some (0, s)
        unfold b_X10_isUnder_5 f_X10_isUnder_38
        by_cases f : (12 : Int32) ≤ x4 + 1
        · exact if_pos f
        · exact (if_neg f).trans (if_pos (by decide))
      · have kp : 0 < k.toInt := by
          have q : ¬ k.toInt ≤ 0 := fun q => d (by rw [Int32.le_iff_toInt_le, z_t0]; exact q)
          omega
        have hib : ib k 12 := ⟨h0, by omega⟩
        have ck := clampI h0
        obtain ⟨q1, q2⟩ := hr.2.2.1 k.toNatClampNeg (by omega) (by omega)
        have gk : gAt (s.a 9) 12 k = r.a 4 k.toNatClampNeg := by
          unfold gAt
          exact (if_pos hib).trans (h.2.2.2.2 k.toNatClampNeg (by omega) (by omega))
        obtain ⟨v, v1, v2, v3⟩ := t_und (N := N) hr h (b := b) n1 n2 (r.a 4 k.toNatClampNeg) (x4 + 1) q1 (by omega) (by omega) (by omega) (by omega) (by omega)
        refine ⟨v, v1, (if_neg nx).trans ((if_neg nk).trans ((if_neg c).trans ?_)), (if_neg c).trans ((if_neg d).trans ((if_pos hib).trans v3))⟩
        rw [gk]
        exact v2
theorem t_under {N : Nat} (hN : 1000 ≤ N) {s : CS} {r : RS} {T : Int32 × CS} {U : Int32 × RS} (hr : RB r) (h : TLD s r) (x1 x2 : Int32) (e : f_X11_under N s x1 x2 = some T) (g : f_X12_under N r x1 x2 = some U) : TLD T.2 U.2 ∧ T.1 = U.1 := by
  obtain ⟨f1, f2, f3, f4⟩ := k4_X11_under N s x1 x2 T e
  refine ⟨h.of f1 f2 f3 f4 (kr_f_X12_under N r x1 x2 U g), ?_⟩
  have h0 : TLD s (RS.setI r 0 0) := h
  have hr0 : RB (RS.setI r 0 0) := hr.i0 0
  obtain ⟨a1, a2, a3, a4, a5⟩ := h
  have b3 := hr.2.1.1
  have b4 := le_int hr.2.1.2
  have e12 : (12 : Int32).toInt = 12 := by decide
  by_cases c1 : 0 ≤ x1 ∧ x1 < r.i 3
  · have k1 : 0 ≤ x1 ∧ x1 < s.i 13 := ⟨c1.1, by rw [a2]; exact c1.2⟩
    have m1 : 0 ≤ x1 ∧ x1 ≤ r.i 3 - 1 := ⟨c1.1, (le_m1 b3).mpr c1.2⟩
    by_cases c2 : 0 ≤ x2 ∧ x2 < r.i 3
    · have k2 : 0 ≤ x2 ∧ x2 < s.i 13 := ⟨c2.1, by rw [a2]; exact c2.2⟩
      have m2 : 0 ≤ x2 ∧ x2 ≤ r.i 3 - 1 := ⟨c2.1, (le_m1 b3).mpr c2.2⟩
      have l0 := le_int c1.1
      have l1 := lt_int c1.2
      rw [z_t0] at l0
      obtain ⟨v, hv, u1, u2⟩ := t_und (N := N) hr0 h0 (b := x2) N N x1 0 l0 l1 (by decide) (by rw [z_t0]; omega) (by omega) (by omega)
      have u1' : f_X10_isUnder N s x1 x2 = some (v, s) := u1
      have u2' : f_X12_isUnder N (RS.setI r 0 0) x1 x2 = some (v, RS.setI r 0 0) := u2
      have e' : f_X11_under N s x1 x2 = some (v, s) := by
        unfold f_X11_under
        rw [e_isK1 k1, ob_some]
        refine (if_neg n10).trans ?_
        show Option.bind (f_X10_isKind N s x2) _ = _
        rw [e_isK1 k2, ob_some]
        refine (if_neg n10).trans ?_
        show Option.bind (f_X10_isUnder N s x1 x2) _ = _
        rw [u1', ob_some]
        rcases hv with rfl | rfl
        · exact if_pos rfl
        · exact if_neg n10
      have g' : f_X12_under N r x1 x2 = some (v, RS.setI r 0 0) := by
        unfold f_X12_under
        rw [e_in1 m1, ob_some]
        refine (if_neg n10).trans ?_
        show Option.bind (f_X12_in N (RS.setI r 0 0) x2 0 (r.i 3 - 1)) _ = _
        rw [e_in1 m2, ob_some]
        refine (if_neg n10).trans ?_
        show Option.bind (f_X12_isUnder N (RS.setI r 0 0) x1 x2) _ = _
        rw [u2', ob_some]
        rcases hv with rfl | rfl
        · exact if_pos rfl
        · exact if_neg n10
      rw [e'] at e
      rw [g'] at g
      cases e
      cases g
      rfl
    · have k2 : ¬ (0 ≤ x2 ∧ x2 < s.i 13) := by rw [a2]; exact c2
      have m2 : ¬ (0 ≤ x2 ∧ x2 ≤ r.i 3 - 1) := by rw [le_m1 b3]; exact c2
      have e' : f_X11_under N s x1 x2 = some (-1, s) := by
        unfold f_X11_under f_X11_under_22
        rw [e_isK1 k1, ob_some]
        refine (if_neg n10).trans ?_
        show Option.bind (f_X10_isKind N s x2) _ = _
        rw [e_isK0 k2, ob_some]
        exact if_pos rfl
      have g' : f_X12_under N r x1 x2 = some (-1, RS.setI r 0 0) := by
        unfold f_X12_under f_X12_under_33
        rw [e_in1 m1, ob_some]
        refine (if_neg n10).trans ?_
        show Option.bind (f_X12_in N (RS.setI r 0 0) x2 0 (r.i 3 - 1)) _ = _
        rw [e_in0 m2, ob_some]
        exact if_pos rfl
      rw [e'] at e
      rw [g'] at g
      cases e
      cases g
      rfl
  · have k1 : ¬ (0 ≤ x1 ∧ x1 < s.i 13) := by rw [a2]; exact c1
    have m1 : ¬ (0 ≤ x1 ∧ x1 ≤ r.i 3 - 1) := by rw [le_m1 b3]; exact c1
    have e' : f_X11_under N s x1 x2 = some (-1, s) := by
      unfold f_X11_under f_X11_under_22
      rw [e_isK0 k1, ob_some]
      exact if_pos rfl
    have g' : f_X12_under N r x1 x2 = some (-1, RS.setI r 0 0) := by
      unfold f_X12_under f_X12_under_33
      rw [e_in0 m1, ob_some]
      exact if_pos rfl
    rw [e'] at e
    rw [g'] at g
    cases e
    cases g
    rfl
end
section
theorem ad1 {x : Int32} (h0 : 0 ≤ x.toInt) (h1 : x.toInt < 2147483647) : (x + 1).toInt = x.toInt + 1 := by
  have e1 : (1 : Int32).toInt = 1 := by decide
  rw [toInt_add] <;> rw [e1] <;> omega

theorem ob_id {α : Type} (x : Option α) : (x.bind fun p => some p) = x := by cases x <;> rfl

theorem ob_un {x : Option (Unit × CS)} {R : Unit × CS} (h : (x.bind fun q => some ((), q.2)) = some R) : x = some R := by
  obtain ⟨q, h1, h2⟩ := hf_bind h
  rw [h1]
  exact h2

theorem ri_ne {s : RS} {k j : Nat} {v : Int32} (h : j ≠ k) : (RS.setI s k v).i j = s.i j := if_neg h
theorem ri_at {s : RS} {k : Nat} {v : Int32} : (RS.setI s k v).i k = v := if_pos rfl
end
section
/-! both: what a run left is told alike -/
theorem toInt_ml {x y : Int32} (h1 : -2147483648 ≤ x.toInt * y.toInt) (h2 : x.toInt * y.toInt < 2147483648) : (x * y).toInt = x.toInt * y.toInt := by
  rw [Int32.toInt_mul, Int.bmod_eq_of_le] <;> omega
/-- the locks that are held -/
def hS (r : RS) : Nat → Int32
  | 0 => 0
  | n + 1 => hS r n + r.a 91 n
/-- what was thrown, on both sides -/
def THG (s : CS) (r : RS) (a k : Nat) : Prop := (s.o a 2 = r.a 86 k ∧ s.o a 3 = r.a 87 k ∧ s.o a 4 = r.a 88 k) ∧ (0 ≤ (r.a 88 k).toInt ∧ (r.a 88 k).toInt ≤ 8) ∧ ∀ i : Nat, (i : Int) < (r.a 88 k).toInt → s.oa (a + 1) i = r.a 89 (8 * k + i) ∧ s.oa (a + 2) i = r.a 90 (8 * k + i)
/-- what a run left -/
def RNZ (s : CS) (r : RS) : Prop := (s.i 70 = r.i 80 ∧ s.i 69 = r.i 81 ∧ (0 ≤ (r.i 81).toInt ∧ (r.i 81).toInt ≤ 200)) ∧ ((s.i 72 = 1 ↔ r.i 115 = 2) ∧ (s.i 72 = 2 ↔ r.i 115 = 3)) ∧ (r.i 115 = 2 → s.i 74 = r.i 113) ∧ (∀ k : Nat, (k : Int) < (r.i 81).toInt → s.a 64 (2 * k) = r.a 82 k ∧ s.a 64 (2 * k + 1) = r.a 83 k) ∧ s.i 71 = hS r 8 ∧ (r.i 115 = 3 → ∃ a k : Nat, s.w = some a ∧ (r.i 114).toInt = (k : Int) ∧ k < 3200 ∧ THG s r a k)
def RNA (s : CS) (r : RS) : Prop := (s.i 8 = 0 ∧ r.i 79 = 0) ∨ ((¬ s.i 8 = 0 ∧ ¬ r.i 79 = 0) ∧ RNZ s r)
theorem of_8 : ∀ k : Nat, k ≤ 8 → (Int32.ofNat k).toInt = (k : Int) ∧ (Int32.ofNat k).toNatClampNeg = k ∧ Int32.ofNat k + 1 = Int32.ofNat (k + 1) := by decide +kernel
theorem hs_loop {N : Nat} {r : RS} : ∀ (n k : Nat) (U : Int32 × RS), k ≤ 8 → f_X12_ran_168 N n r (hS r k) (Int32.ofNat k) = some U → U.1 = hS r 8
  | 0, _, _, _, g => by cases g
  | n + 1, k, U, hk, g => by
    have g' : b_X12_ran_168 N (f_X12_ran_168 N n) r (hS r k) (Int32.ofNat k) = some U := g
    unfold b_X12_ran_168 at g'
    obtain ⟨o1, o2, o3⟩ := of_8 k hk
    have e8 : (8 : Int32).toInt = 8 := by decide
    by_cases c : (8 : Int32) ≤ Int32.ofNat k
    · have l := le_int c
      have ek : k = 8 := by omega
      rw [if_pos c] at g'
      rw [← Option.some.inj g', ek]
    · have l := lt_int (Int32.not_le.mp c)
      rw [if_neg c] at g'
      obtain ⟨-, g'⟩ := hf_ite g'
      rw [o2, o3] at g'
      exact hs_loop n (k + 1) U (by omega) g'
/-- ran -/
theorem v_ran {N : Nat} {s : CS} {r : RS} {T : Int32 × CS} {U : Int32 × RS} (h : RNA s r) (x1 : Int32) (e : f_X11_ran N s x1 = some T) (g : f_X12_ran N r x1 = some U) : T.1 = U.1 := by
  unfold f_X11_ran f_X11_ran_10 at e
  unfold f_X12_ran at g
  by_cases c : 0 ≤ x1 ∧ x1 ≤ 6
  · rw [if_neg (Int32.not_lt.mpr c.1), if_pos c.2] at e
    rw [e_in1 c, ob_some] at g
    have g' : (if r.i 79 = 0 then some ((-3 : Int32), RS.setI r 0 0) else (if r.i 115 = 3 then f_X12_ran_41 N (RS.setI r 0 0) x1 1 else f_X12_ran_41 N (RS.setI r 0 0) x1 0)) = some U := (if_neg n10).symm.trans g
    rcases h with ⟨z1, z2⟩ | ⟨⟨z1, z2⟩, ⟨q1, q2, q3⟩, ⟨q4, q5⟩, q6, -, q8, q9⟩
    · rw [if_pos z1] at e
      rw [if_pos z2] at g'
      rw [← Option.some.inj e, ← Option.some.inj g']
    · rw [if_neg z1] at e
      rw [if_neg z2] at g'
      obtain ⟨A, eA, e⟩ := hf_bind e
      have eT : T.1 = A.1 := by rw [← Option.some.inj e]
      rw [eT]
      clear e eT
      unfold f_X3_answer f_X3_lastThrown at eA
      have last : ∀ V, f_X12_ran_168 N N (RS.setI r 0 0) 0 0 = some V → s.i 71 = V.1 := fun V gV => by
        rw [q8]
        exact (hs_loop (r := RS.setI r 0 0) N 0 V (by omega) gV).symm
      by_cases t : r.i 115 = 3
      · obtain ⟨a, k, w1, w2, w3, ⟨w4, w5, w6⟩, -, -⟩ := q9 t
        have ek : ((RS.setI r 0 0).i 114).toNatClampNeg = k := by
          show (r.i 114).toInt.toNat = k
          rw [w2]
          exact Int.toNat_natCast _
        rw [if_pos t] at g'
        rw [if_pos (q5.mpr t), w1] at eA
        unfold f_X12_ran_41 at g'
        have eA' : (if x1 = 0 then some ((s.i 70), s) else (if x1 = 1 then some ((s.i 69), s) else (if x1 = 2 then (if (s.i 72) = 1 then some ((s.i 74), s) else some (0, s)) else (if x1 = 3 then if oK s a 2 then some ((CS.o s a 2), s) else none else (if x1 = 4 then if oK s a 2 then some ((CS.o s a 3), s) else none else (if x1 = 5 then if oK s a 2 then some ((CS.o s a 4), s) else none else some ((s.i 71), s))))))) = some A := eA
        by_cases x0 : x1 = 0
        · rw [if_pos x0] at eA' g'
          rw [← Option.some.inj eA', ← Option.some.inj g']
          exact q1
        rw [if_neg x0] at eA' g'
        by_cases xa : x1 = 1
        · rw [if_pos xa] at eA' g'
          rw [← Option.some.inj eA', ← Option.some.inj g']
          exact q2
        rw [if_neg xa] at eA' g'
        by_cases xb : x1 = 2
        · rw [if_pos xb, if_neg (fun z => absurd ((q4.mp z).symm.trans t) (by decide))] at eA'
          rw [if_pos xb, if_neg (show ¬ (RS.setI r 0 0).i 115 = 2 from fun z => absurd (z.symm.trans t) (by decide))] at g'
          rw [← Option.some.inj eA', ← Option.some.inj g']
        rw [if_neg xb] at eA' g'
        by_cases xc : x1 = 3
        · rw [if_pos xc] at eA' g'
          rw [if_neg n10] at g'
          have e1 := (hf_ite eA').2
          have g1 := (hf_ite g').2
          rw [ek] at g1
          rw [← Option.some.inj e1, ← Option.some.inj g1]
          exact w4
        rw [if_neg xc] at eA' g'
        by_cases xd : x1 = 4
        · rw [if_pos xd] at eA' g'
          rw [if_neg n10] at g'
          have e1 := (hf_ite eA').2
          have g1 := (hf_ite g').2
          rw [ek] at g1
          rw [← Option.some.inj e1, ← Option.some.inj g1]
          exact w5
        rw [if_neg xd] at eA' g'
        by_cases xe : x1 = 5
        · rw [if_pos xe] at eA' g'
          rw [if_neg n10] at g'
          have e1 := (hf_ite eA').2
          have g1 := (hf_ite g').2
          rw [ek] at g1
          rw [← Option.some.inj e1, ← Option.some.inj g1]
          exact w6
        rw [if_neg xe] at eA' g'
        rw [← Option.some.inj eA']
        exact last U g'
      · rw [if_neg t] at g'
        rw [if_neg (fun z => t (q5.mp z))] at eA
        unfold f_X12_ran_41 at g'
        have eA' : (if x1 = 0 then some ((s.i 70), s) else (if x1 = 1 then some ((s.i 69), s) else (if x1 = 2 then (if (s.i 72) = 1 then some ((s.i 74), s) else some (0, s)) else (if x1 = 3 then some ((-1), s) else (if x1 = 4 then some (0, s) else (if x1 = 5 then some (0, s) else some ((s.i 71), s))))))) = some A := eA
        by_cases x0 : x1 = 0
        · rw [if_pos x0] at eA' g'
          rw [← Option.some.inj eA', ← Option.some.inj g']
          exact q1
        rw [if_neg x0] at eA' g'
        by_cases xa : x1 = 1
        · rw [if_pos xa] at eA' g'
          rw [← Option.some.inj eA', ← Option.some.inj g']
          exact q2
        rw [if_neg xa] at eA' g'
        by_cases xb : x1 = 2
        · rw [if_pos xb] at eA' g'
          by_cases y : r.i 115 = 2
          · rw [if_pos (q4.mpr y)] at eA'
            rw [if_pos (show (RS.setI r 0 0).i 115 = 2 from y)] at g'
            rw [← Option.some.inj eA', ← Option.some.inj g']
            exact q6 y
          · rw [if_neg (fun z => y (q4.mp z))] at eA'
            rw [if_neg (show ¬ (RS.setI r 0 0).i 115 = 2 from y)] at g'
            rw [← Option.some.inj eA', ← Option.some.inj g']
        rw [if_neg xb] at eA' g'
        by_cases xc : x1 = 3
        · rw [if_pos xc] at eA' g'
          rw [if_pos rfl] at g'
          rw [← Option.some.inj eA', ← Option.some.inj g']
        rw [if_neg xc] at eA' g'
        by_cases xd : x1 = 4
        · rw [if_pos xd] at eA' g'
          rw [if_pos rfl] at g'
          rw [← Option.some.inj eA', ← Option.some.inj g']
        rw [if_neg xd] at eA' g'
        by_cases xe : x1 = 5
        · rw [if_pos xe] at eA' g'
          rw [if_pos rfl] at g'
          rw [← Option.some.inj eA', ← Option.some.inj g']
        rw [if_neg xe] at eA' g'
        rw [← Option.some.inj eA']
        exact last U g'
  · rw [e_in0 c, ob_some] at g
    have g' : some ((-1 : Int32), RS.setI r 0 0) = some U := (if_pos rfl).symm.trans g
    have e' : some ((-1 : Int32), s) = some T := by
      by_cases d : x1 < 0
      · rw [if_pos d] at e
        exact e
      · rw [if_neg d, if_neg (fun q => c ⟨Int32.not_lt.mp d, q⟩)] at e
        exact e
    rw [← Option.some.inj e', ← Option.some.inj g']
/-- trace -/
theorem v_trace {N : Nat} {s : CS} {r : RS} {T : Int32 × CS} {U : Int32 × RS} (h : RNA s r) (x1 x2 : Int32) (e : f_X11_trace N s x1 x2 = some T) (g : f_X12_trace N r x1 x2 = some U) : T.1 = U.1 := by
  unfold f_X11_trace f_X11_trace_31 at e
  unfold f_X12_trace f_X12_trace_35 at g
  rcases h with ⟨z1, z2⟩ | ⟨⟨z1, z2⟩, ⟨-, q2, ⟨q3, q4⟩⟩, -, -, q7, -⟩
  · rw [if_pos z1] at e
    rw [if_pos z2] at g
    rw [← Option.some.inj e, ← Option.some.inj g]
  rw [if_neg z1] at e
  rw [if_neg z2] at g
  have e1 : (1 : Int32).toInt = 1 := by decide
  have e2 : (2 : Int32).toInt = 2 := by decide
  have em : (r.i 81 - 1).toInt = (r.i 81).toInt - 1 := by
    rw [toInt_sub] <;> rw [e1] <;> omega
  by_cases c : 0 ≤ x1 ∧ x1 ≤ r.i 81 - 1
  · have l1 := le_int c.1
    have l2 := le_int c.2
    rw [z_t0] at l1
    rw [em] at l2
    rw [if_neg (Int32.not_lt.mpr c.1), if_neg (fun q => by
      have := le_int q
      rw [q2] at this
      omega)] at e
    rw [e_in1 c, ob_some] at g
    have g1 := (if_neg n10).symm.trans g
    by_cases d : 0 ≤ x2 ∧ x2 ≤ 1
    · rw [if_neg (Int32.not_lt.mpr d.1), if_pos d.2] at e
      have m1 := le_int d.1
      have m2 := le_int d.2
      rw [z_t0] at m1
      rw [e1] at m2
      have g2 : (f_X12_in N (RS.setI r 0 0) x2 0 1).bind (fun p5 => (if p5.1 = 0 then some ((-1 : Int32), p5.2) else (if x2 = 0 then if ib x1 200 then some ((p5.2.a 82 ((x1 : Int32).toNatClampNeg)), p5.2) else none else if ib x1 200 then some ((p5.2.a 83 ((x1 : Int32).toNatClampNeg)), p5.2) else none))) = some U := g1
      rw [e_in1 d, ob_some] at g2
      have g3 : (if x2 = 0 then if ib x1 200 then some ((r.a 82 ((x1 : Int32).toNatClampNeg)), RS.setI r 0 0) else none else if ib x1 200 then some ((r.a 83 ((x1 : Int32).toNatClampNeg)), RS.setI r 0 0) else none) = some U := (if_neg n10).symm.trans g2
      obtain ⟨k, hk⟩ : ∃ k : Nat, x1.toInt = (k : Int) := ⟨x1.toInt.toNat, by omega⟩
      have en : x1.toNatClampNeg = k := by
        show x1.toInt.toNat = k
        rw [hk]
        exact Int.toNat_natCast _
      rw [en] at g3
      obtain ⟨r1, r2⟩ := q7 k (by omega)
      have mu : (2 * x1).toInt = 2 * x1.toInt := by rw [toInt_ml] <;> rw [e2] <;> omega
      have ad : (2 * x1 + x2).toInt = 2 * (k : Int) + x2.toInt := by rw [toInt_add] <;> omega
      have eT : T.1 = s.a 64 (2 * x1 + x2).toNatClampNeg := by
        rw [← Option.some.inj e]
        show gAt (s.a 64) 400 (2 * x1 + x2) = _
        unfold gAt
        exact if_pos ⟨by omega, by omega⟩
      rw [eT]
      by_cases y : x2 = 0
      · rw [if_pos y] at g3
        rw [← Option.some.inj (hf_ite g3).2]
        have : (2 * x1 + x2).toNatClampNeg = 2 * k := by
          show (2 * x1 + x2).toInt.toNat = 2 * k
          rw [ad, y, z_t0]
          omega
        rw [this]
        exact r1
      · rw [if_neg y] at g3
        rw [← Option.some.inj (hf_ite g3).2]
        have y1 : x2.toInt = 1 := by
          by_cases w : x2.toInt = 0
          · exact absurd (Int32.toInt_inj.mp (w.trans z_t0.symm)) y
          · omega
        have : (2 * x1 + x2).toNatClampNeg = 2 * k + 1 := by
          show (2 * x1 + x2).toInt.toNat = 2 * k + 1
          rw [ad, y1]
          omega
        rw [this]
        exact r2
    · have g2 : (f_X12_in N (RS.setI r 0 0) x2 0 1).bind (fun p5 => (if p5.1 = 0 then some ((-1 : Int32), p5.2) else (if x2 = 0 then if ib x1 200 then some ((p5.2.a 82 ((x1 : Int32).toNatClampNeg)), p5.2) else none else if ib x1 200 then some ((p5.2.a 83 ((x1 : Int32).toNatClampNeg)), p5.2) else none))) = some U := g1
      rw [e_in0 d, ob_some] at g2
      have g3 : some ((-1 : Int32), RS.setI r 0 0) = some U := (if_pos rfl).symm.trans g2
      have e' : some ((-1 : Int32), s) = some T := by
        by_cases w : x2 < 0
        · rw [if_pos w] at e
          exact e
        · rw [if_neg w, if_neg (fun q => d ⟨Int32.not_lt.mp w, q⟩)] at e
          exact e
      rw [← Option.some.inj e', ← Option.some.inj g3]
  · rw [e_in0 c, ob_some] at g
    have g3 : some ((-1 : Int32), RS.setI r 0 0) = some U := (if_pos rfl).symm.trans g
    have e' : some ((-1 : Int32), s) = some T := by
      by_cases w : x1 < 0
      · rw [if_pos w] at e
        exact e
      · rw [if_neg w, if_pos (show s.i 69 ≤ x1 from by
          rw [q2]
          refine Int32.not_lt.mp (fun q => c ⟨Int32.not_lt.mp w, ?_⟩)
          have := lt_int q
          rw [Int32.le_iff_toInt_le, em]
          omega)] at e
        exact e
    rw [← Option.some.inj e', ← Option.some.inj g3]
/-- suppressed -/
theorem v_suppressed {N : Nat} {s : CS} {r : RS} {T : Int32 × CS} {U : Int32 × RS} (h : RNA s r) (x1 x2 : Int32) (e : f_X11_suppressed N s x1 x2 = some T) (g : f_X12_suppressed N r x1 x2 = some U) : T.1 = U.1 := by
  unfold f_X11_suppressed at e
  unfold f_X12_suppressed f_X12_suppressed_48 at g
  have no : ∀ A : Int32 × CS, f_X11_suppressed_19 N s x1 x2 none = some A → A.1 = -1 := fun A q => by
    unfold f_X11_suppressed_19 f_X11_suppressed_44 at q
    have q' : some ((-1 : Int32), s) = some A := q
    rw [← Option.some.inj q']
  rcases h with ⟨z1, z2⟩ | ⟨⟨z1, z2⟩, -, ⟨-, q5⟩, -, -, -, q9⟩
  · rw [if_pos z1] at e
    rw [if_pos z2] at g
    rw [no T e, ← Option.some.inj g]
  rw [if_neg z1] at e
  rw [if_neg z2] at g
  unfold f_X3_lastThrown at e
  by_cases t : r.i 115 = 3
  · obtain ⟨a, k, w1, w2, w3, ⟨-, -, w6⟩, ⟨w7, w8⟩, w9⟩ := q9 t
    rw [if_pos t] at g
    obtain ⟨-, g⟩ := hf_ite g
    have ek : (r.i 114).toNatClampNeg = k := by
      show (r.i 114).toInt.toNat = k
      rw [w2]
      exact Int.toNat_natCast _
    rw [ek] at g
    rw [if_pos (q5.mpr t), w1] at e
    have e0 : f_X11_suppressed_19 N s x1 x2 (some a) = some T := e
    unfold f_X11_suppressed_19 f_X11_suppressed_44 at e0
    have e' : (if x1 < 0 then some ((-1 : Int32), s) else if oK s a 2 then (if (CS.o s a 4) ≤ x1 then some ((-1), s) else (if x2 < 0 then some ((-1), s) else (if x2 ≤ 1 then (if x2 = 0 then if oK s (a + 1) 3 then some ((gAt (CS.oa s (a + 1)) 8 x1), s) else none else if oK s (a + 2) 3 then some ((gAt (CS.oa s (a + 2)) 8 x1), s) else none) else some ((-1), s)))) else none) = some T := e0
    have e1 : (1 : Int32).toInt = 1 := by decide
    have e8 : (8 : Int32).toInt = 8 := by decide
    have em : (r.a 88 k - 1).toInt = (r.a 88 k).toInt - 1 := by
      rw [toInt_sub] <;> rw [e1] <;> omega
    by_cases c : 0 ≤ x1 ∧ x1 ≤ r.a 88 k - 1
    · have l1 := le_int c.1
      have l2 := le_int c.2
      rw [z_t0] at l1
      rw [em] at l2
      rw [if_neg (Int32.not_lt.mpr c.1)] at e'
      obtain ⟨-, e'⟩ := hf_ite e'
      rw [if_neg (fun q => by
        have := le_int q
        rw [w6] at this
        omega)] at e'
      rw [e_in1 c, ob_some] at g
      have g1 : (f_X12_in N (RS.setI r 0 0) x2 0 1).bind (fun p7 => (if p7.1 = 0 then some ((-1 : Int32), p7.2) else (if x2 = 0 then if ib ((8 * (p7.2.i 114)) + x1) 25600 then some ((p7.2.a 89 ((((8 * (p7.2.i 114)) + x1) : Int32).toNatClampNeg)), p7.2) else none else if ib ((8 * (p7.2.i 114)) + x1) 25600 then some ((p7.2.a 90 ((((8 * (p7.2.i 114)) + x1) : Int32).toNatClampNeg)), p7.2) else none))) = some U := (if_neg n10).symm.trans g
      by_cases d : 0 ≤ x2 ∧ x2 ≤ 1
      · rw [if_neg (Int32.not_lt.mpr d.1), if_pos d.2] at e'
        rw [e_in1 d, ob_some] at g1
        have g2 : (if x2 = 0 then if ib ((8 * (r.i 114)) + x1) 25600 then some ((r.a 89 ((((8 * (r.i 114)) + x1) : Int32).toNatClampNeg)), RS.setI r 0 0) else none else if ib ((8 * (r.i 114)) + x1) 25600 then some ((r.a 90 ((((8 * (r.i 114)) + x1) : Int32).toNatClampNeg)), RS.setI r 0 0) else none) = some U := (if_neg n10).symm.trans g1
        obtain ⟨i, hi⟩ : ∃ i : Nat, x1.toInt = (i : Int) := ⟨x1.toInt.toNat, by omega⟩
        have en : x1.toNatClampNeg = i := by
          show x1.toInt.toNat = i
          rw [hi]
          exact Int.toNat_natCast _
        have mu : (8 * r.i 114).toInt = 8 * (k : Int) := by rw [toInt_ml, e8, w2] <;> rw [e8, w2] <;> omega
        have ad : (8 * r.i 114 + x1).toNatClampNeg = 8 * k + i := by
          have z : (8 * r.i 114 + x1).toInt = ((8 * k + i : Nat) : Int) := by rw [toInt_add] <;> omega
          show (8 * r.i 114 + x1).toInt.toNat = 8 * k + i
          rw [z]
          exact Int.toNat_natCast _
        rw [ad] at g2
        obtain ⟨r1, r2⟩ := w9 i (by omega)
        have ga : ∀ f : Nat → Int32, gAt f 8 x1 = f i := fun f => by
          unfold gAt
          rw [if_pos ⟨by omega, by omega⟩, en]
        by_cases y : x2 = 0
        · rw [if_pos y] at e' g2
          rw [← Option.some.inj (hf_ite e').2, ← Option.some.inj (hf_ite g2).2]
          exact (ga _).trans r1
        · rw [if_neg y] at e' g2
          rw [← Option.some.inj (hf_ite e').2, ← Option.some.inj (hf_ite g2).2]
          exact (ga _).trans r2
      · rw [e_in0 d, ob_some] at g1
        have g2 : some ((-1 : Int32), RS.setI r 0 0) = some U := (if_pos rfl).symm.trans g1
        have e3 : some ((-1 : Int32), s) = some T := by
          by_cases w : x2 < 0
          · rw [if_pos w] at e'
            exact e'
          · rw [if_neg w, if_neg (fun q => d ⟨Int32.not_lt.mp w, q⟩)] at e'
            exact e'
        rw [← Option.some.inj e3, ← Option.some.inj g2]
    · rw [e_in0 c, ob_some] at g
      have g2 : some ((-1 : Int32), RS.setI r 0 0) = some U := (if_pos rfl).symm.trans g
      have e3 : some ((-1 : Int32), s) = some T := by
        by_cases w : x1 < 0
        · rw [if_pos w] at e'
          exact e'
        · rw [if_neg w] at e'
          obtain ⟨-, e'⟩ := hf_ite e'
          rw [if_pos (show CS.o s a 4 ≤ x1 from by
            rw [w6]
            refine Int32.not_lt.mp (fun q => c ⟨Int32.not_lt.mp w, ?_⟩)
            have := lt_int q
            rw [Int32.le_iff_toInt_le, em]
            omega)] at e'
          exact e'
      rw [← Option.some.inj e3, ← Option.some.inj g2]
  · rw [if_neg t] at g
    rw [if_neg (fun z => t (q5.mp z))] at e
    have e0 : f_X11_suppressed_19 N s x1 x2 none = some T := e
    rw [no T e0, ← Option.some.inj g]
end
section
/-! both: what was told of resources -/
def RSC (s : CS) (r : RS) : Prop := ∀ k : Nat, k < 8 → s.a 10 k = r.a 5 k ∧ s.a 11 k + 1 = r.a 6 k ∧ s.a 12 k + 1 = r.a 7 k
theorem w_resource {N : Nat} {s : CS} {r : RS} {T : Int32 × CS} {U : Int32 × RS} (hr : RB r) (ht : TLD s r) (h : RSC s r) (x1 x2 x3 x4 : Int32) (e : f_X11_resource N s x1 x2 x3 x4 = some T) (g : f_X12_resource N r x1 x2 x3 x4 = some U) : RSC T.2 U.2 := by
  have a2 := ht.2.1
  have b3 := hr.2.1.1
  have w : ∀ x : Int32, (x = -1 ∨ (0 ≤ x ∧ x < s.i 13)) ↔ (-1 ≤ x ∧ x ≤ r.i 3 - 1) := fun x => by rw [a2]; exact (le_mk b3).symm
  have e7 : (7 : Int32).toInt = 7 := by decide
  have e8 : (8 : Int32).toInt = 8 := by decide
  have bad : T.2 = s → U.2 = RS.setI r 0 0 → RSC T.2 U.2 := fun q1 q2 => by
    rw [q1, q2]
    exact h
  unfold f_X11_resource f_X11_resource_19 f_X11_resource_38 at e
  unfold f_X12_resource f_X12_resource_53 at g
  by_cases c1 : 0 ≤ x1 ∧ x1 ≤ 7
  · have i2 : ¬ 8 ≤ x1 := fun q => by
      have q1 := le_int q
      have q2 := le_int c1.2
      omega
    rw [if_neg (Int32.not_lt.mpr c1.1), if_neg i2] at e
    rw [e_in1 c1, ob_some] at g
    have g1 := (if_neg n10).symm.trans g
    by_cases c2 : 0 ≤ x2 ∧ x2 ≤ 1
    · rw [if_neg (Int32.not_lt.mpr c2.1), if_pos c2.2] at e
      have g2 : (f_X12_in N (RS.setI r 0 0) x2 0 1).bind (fun p4 => (if p4.1 = 0 then some ((-1 : Int32), p4.2) else (f_X12_in N p4.2 x3 (-1) ((p4.2.i 3) - 1)).bind fun p7 => (if p7.1 = 0 then some ((-1 : Int32), p7.2) else (f_X12_in N p7.2 x4 (-1) ((p7.2.i 3) - 1)).bind fun p10 => (if p10.1 = 0 then some ((-1 : Int32), p10.2) else (if x2 = 1 then if ib x1 8 then f_X12_resource_71 N (RS.setA p10.2 5 ((x1 : Int32).toNatClampNeg) 1) x1 x3 x4 else none else if ib x1 8 then f_X12_resource_71 N (RS.setA p10.2 5 ((x1 : Int32).toNatClampNeg) 0) x1 x3 x4 else none))))) = some U := g1
      rw [e_in1 c2, ob_some] at g2
      have g3 : (f_X12_in N (RS.setI r 0 0) x3 (-1) (r.i 3 - 1)).bind (fun p7 => (if p7.1 = 0 then some ((-1 : Int32), p7.2) else (f_X12_in N p7.2 x4 (-1) ((p7.2.i 3) - 1)).bind fun p10 => (if p10.1 = 0 then some ((-1 : Int32), p10.2) else (if x2 = 1 then if ib x1 8 then f_X12_resource_71 N (RS.setA p10.2 5 ((x1 : Int32).toNatClampNeg) 1) x1 x3 x4 else none else if ib x1 8 then f_X12_resource_71 N (RS.setA p10.2 5 ((x1 : Int32).toNatClampNeg) 0) x1 x3 x4 else none)))) = some U := (if_neg n10).symm.trans g2
      by_cases c3 : -1 ≤ x3 ∧ x3 ≤ r.i 3 - 1
      · rw [e_ikn1 ((w x3).mpr c3), ob_some] at e
        have e2 : (f_X11_isKindOrNothing N s x4).bind (fun p10 => (if p10.1 = 0 then some ((-1 : Int32), p10.2) else (f_X10_tellResource N p10.2 x1 x2 x3 x4).bind fun p15 => some (1, p15.2))) = some T := (if_neg n10).symm.trans e
        rw [e_in1 c3, ob_some] at g3
        have g4 : (f_X12_in N (RS.setI r 0 0) x4 (-1) (r.i 3 - 1)).bind (fun p10 => (if p10.1 = 0 then some ((-1 : Int32), p10.2) else (if x2 = 1 then if ib x1 8 then f_X12_resource_71 N (RS.setA p10.2 5 ((x1 : Int32).toNatClampNeg) 1) x1 x3 x4 else none else if ib x1 8 then f_X12_resource_71 N (RS.setA p10.2 5 ((x1 : Int32).toNatClampNeg) 0) x1 x3 x4 else none))) = some U := (if_neg n10).symm.trans g3
        by_cases c4 : -1 ≤ x4 ∧ x4 ≤ r.i 3 - 1
        · rw [e_ikn1 ((w x4).mpr c4), ob_some] at e2
          have e3 : some ((1 : Int32), CS.putA (CS.putA (CS.putA s 10 (gPut (s.a 10) 8 x1 x2)) 11 (gPut (s.a 11) 8 x1 x3)) 12 (gPut (s.a 12) 8 x1 x4)) = some T := (if_neg n10).symm.trans e2
          rw [e_in1 c4, ob_some] at g4
          have g5 : (if x2 = 1 then if ib x1 8 then f_X12_resource_71 N (RS.setA (RS.setI r 0 0) 5 ((x1 : Int32).toNatClampNeg) 1) x1 x3 x4 else none else if ib x1 8 then f_X12_resource_71 N (RS.setA (RS.setI r 0 0) 5 ((x1 : Int32).toNatClampNeg) 0) x1 x3 x4 else none) = some U := (if_neg n10).symm.trans g4
          have l1 := le_int c1.1
          have l2 := le_int c1.2
          rw [z_t0] at l1
          obtain ⟨m, hm⟩ : ∃ m : Nat, x1.toInt = (m : Int) := ⟨x1.toInt.toNat, by omega⟩
          have en : x1.toNatClampNeg = m := by
            show x1.toInt.toNat = m
            rw [hm]
            exact Int.toNat_natCast _
          have hib : ib x1 8 := ⟨by omega, by omega⟩
          have key : ∀ v : Int32, x2 = v → f_X12_resource_71 N (RS.setA (RS.setI r 0 0) 5 ((x1 : Int32).toNatClampNeg) v) x1 x3 x4 = some U → RSC T.2 U.2 := fun v hv q => by
            unfold f_X12_resource_71 at q
            rw [if_pos hib, en] at q
            intro k hk
            rw [← Option.some.inj q, ← Option.some.inj e3]
            have t10 : (CS.putA (CS.putA (CS.putA s 10 (gPut (s.a 10) 8 x1 x2)) 11 (gPut (s.a 11) 8 x1 x3)) 12 (gPut (s.a 12) 8 x1 x4)).a 10 k = gPut (s.a 10) 8 x1 x2 k := rfl
            have t11 : (CS.putA (CS.putA (CS.putA s 10 (gPut (s.a 10) 8 x1 x2)) 11 (gPut (s.a 11) 8 x1 x3)) 12 (gPut (s.a 12) 8 x1 x4)).a 11 k = gPut (s.a 11) 8 x1 x3 k := rfl
            have t12 : (CS.putA (CS.putA (CS.putA s 10 (gPut (s.a 10) 8 x1 x2)) 11 (gPut (s.a 11) 8 x1 x3)) 12 (gPut (s.a 12) 8 x1 x4)).a 12 k = gPut (s.a 12) 8 x1 x4 k := rfl
            have gp : ∀ (f : Nat → Int32) (v : Int32), gPut f 8 x1 v k = if k = m then v else f k := fun f v => by
              unfold gPut
              rw [if_pos hib, en]
              rfl
            show (CS.putA (CS.putA (CS.putA s 10 (gPut (s.a 10) 8 x1 x2)) 11 (gPut (s.a 11) 8 x1 x3)) 12 (gPut (s.a 12) 8 x1 x4)).a 10 k = (RS.setA (RS.setA (RS.setA (RS.setI r 0 0) 5 m v) 6 m (x3 + 1)) 7 m (x4 + 1)).a 5 k ∧ (CS.putA (CS.putA (CS.putA s 10 (gPut (s.a 10) 8 x1 x2)) 11 (gPut (s.a 11) 8 x1 x3)) 12 (gPut (s.a 12) 8 x1 x4)).a 11 k + 1 = (RS.setA (RS.setA (RS.setA (RS.setI r 0 0) 5 m v) 6 m (x3 + 1)) 7 m (x4 + 1)).a 6 k ∧ (CS.putA (CS.putA (CS.putA s 10 (gPut (s.a 10) 8 x1 x2)) 11 (gPut (s.a 11) 8 x1 x3)) 12 (gPut (s.a 12) 8 x1 x4)).a 12 k + 1 = (RS.setA (RS.setA (RS.setA (RS.setI r 0 0) 5 m v) 6 m (x3 + 1)) 7 m (x4 + 1)).a 7 k
            rw [t10, t11, t12, gp, gp, gp, setA_nk (k := 5) (k' := 7) (by decide), setA_nk (k := 5) (k' := 6) (by decide), setA_nk (k := 6) (k' := 7) (by decide)]
            by_cases ek : k = m
            · rw [if_pos ek, if_pos ek, if_pos ek, ek, setA_at, setA_at, setA_at]
              exact ⟨hv, rfl, rfl⟩
            · rw [if_neg ek, if_neg ek, if_neg ek, setA_ne ek, setA_ne ek, setA_ne ek, setA_ne ek, setA_ne ek, setA_ne ek]
              exact h k hk
          have m1 := le_int c2.1
          have m2 := le_int c2.2
          have e1 : (1 : Int32).toInt = 1 := by decide
          rw [z_t0] at m1
          by_cases y : x2 = 1
          · rw [if_pos y] at g5
            exact key 1 y (hf_ite g5).2
          · rw [if_neg y] at g5
            refine key 0 (Int32.toInt_inj.mp ?_) (hf_ite g5).2
            rw [z_t0]
            by_cases q : x2.toInt = 1
            · exact absurd (Int32.toInt_inj.mp (q.trans e1.symm)) y
            · omega
        · rw [e_ikn0 (fun q => c4 ((w x4).mp q)), ob_some] at e2
          have e3 : some ((-1 : Int32), s) = some T := (if_pos rfl).symm.trans e2
          rw [e_in0 c4, ob_some] at g4
          have g5 : some ((-1 : Int32), RS.setI r 0 0) = some U := (if_pos rfl).symm.trans g4
          exact bad (by rw [← Option.some.inj e3]) (by rw [← Option.some.inj g5])
      · rw [e_ikn0 (fun q => c3 ((w x3).mp q)), ob_some] at e
        have e3 : some ((-1 : Int32), s) = some T := (if_pos rfl).symm.trans e
        rw [e_in0 c3, ob_some] at g3
        have g5 : some ((-1 : Int32), RS.setI r 0 0) = some U := (if_pos rfl).symm.trans g3
        exact bad (by rw [← Option.some.inj e3]) (by rw [← Option.some.inj g5])
    · have e3 : some ((-1 : Int32), s) = some T := by
        by_cases q : x2 < 0
        · rw [if_pos q] at e
          exact e
        · rw [if_neg q, if_neg (fun z => c2 ⟨Int32.not_lt.mp q, z⟩)] at e
          exact e
      have g2 : (f_X12_in N (RS.setI r 0 0) x2 0 1).bind (fun p4 => (if p4.1 = 0 then some ((-1 : Int32), p4.2) else (f_X12_in N p4.2 x3 (-1) ((p4.2.i 3) - 1)).bind fun p7 => (if p7.1 = 0 then some ((-1 : Int32), p7.2) else (f_X12_in N p7.2 x4 (-1) ((p7.2.i 3) - 1)).bind fun p10 => (if p10.1 = 0 then some ((-1 : Int32), p10.2) else (if x2 = 1 then if ib x1 8 then f_X12_resource_71 N (RS.setA p10.2 5 ((x1 : Int32).toNatClampNeg) 1) x1 x3 x4 else none else if ib x1 8 then f_X12_resource_71 N (RS.setA p10.2 5 ((x1 : Int32).toNatClampNeg) 0) x1 x3 x4 else none))))) = some U := g1
      rw [e_in0 c2, ob_some] at g2
      have g5 : some ((-1 : Int32), RS.setI r 0 0) = some U := (if_pos rfl).symm.trans g2
      exact bad (by rw [← Option.some.inj e3]) (by rw [← Option.some.inj g5])
  · have e3 : some ((-1 : Int32), s) = some T := by
      by_cases q : x1 < 0
      · rw [if_pos q] at e
        exact e
      · rw [if_neg q, if_pos (Int32.not_lt.mp (fun z => c1 ⟨Int32.not_lt.mp q, by
          have := lt_int z
          rw [Int32.le_iff_toInt_le]
          omega⟩))] at e
        exact e
    rw [e_in0 c1, ob_some] at g
    have g5 : some ((-1 : Int32), RS.setI r 0 0) = some U := (if_pos rfl).symm.trans g
    exact bad (by rw [← Option.some.inj e3]) (by rw [← Option.some.inj g5])
end
section
/-! both machines: values, trace, steps, what is opened -/
theorem cl_nat {x : Int32} {n : Nat} (h : x.toInt = (n : Int)) : x.toNatClampNeg = n := by
  show x.toInt.toNat = n
  rw [h]
  exact Int.toNat_natCast _
theorem sub_n1 {x : Int32} {c : Nat} (h : x.toInt = (c : Int) + 1) : (x - 1).toInt = (c : Int) := by
  have e1 : (1 : Int32).toInt = 1 := by decide
  have hi := Int32.toInt_lt x
  rw [toInt_sub] <;> rw [e1] <;> omega
/-- so many values, the same ones -/
def MVS (s : CS) (r : RS) (h : Nat) : Prop := ((s.i 65).toInt = (h : Int) ∧ (r.i 93).toInt = (h : Int) ∧ h ≤ 600) ∧ ∀ k : Nat, k < h → s.a 60 k = r.a 94 k
theorem MVS.push {s : CS} {r : RS} {h : Nat} (m : MVS s r h) (hh : h < 600) (v : Int32) : MVS (CS.setI (CS.putA s 60 (gPut (s.a 60) 600 (s.i 65) v)) 65 (s.i 65 + 1)) (RS.setI (RS.setA r 94 (r.i 93).toNatClampNeg v) 93 (r.i 93 + 1)) (h + 1) := by
  obtain ⟨⟨m1, m2, -⟩, m4⟩ := m
  refine ⟨⟨?_, ?_, by omega⟩, fun k hk => ?_⟩
  · rw [ci_at, ad1 (by omega) (by omega), m1]
    rfl
  · rw [ri_at, ad1 (by omega) (by omega), m2]
    rfl
  · show gPut (s.a 60) 600 (s.i 65) v k = (RS.setA r 94 (r.i 93).toNatClampNeg v).a 94 k
    unfold gPut
    rw [if_pos ⟨by omega, by omega⟩, cl_nat m1, cl_nat m2]
    by_cases e : k = h
    · rw [e, setA_at]
      exact if_pos rfl
    · rw [setA_ne e]
      exact (if_neg e).trans (m4 k (by omega))
theorem MVS.top {s : CS} {r : RS} {h : Nat} (m : MVS s r (h + 1)) : gAt (s.a 60) 600 (s.i 65 - 1) = r.a 94 (r.i 93 - 1).toNatClampNeg ∧ (s.i 65 - 1).toInt = (h : Int) ∧ (r.i 93 - 1).toInt = (h : Int) := by
  obtain ⟨⟨m1, m2, m3⟩, m4⟩ := m
  have q1 : (s.i 65).toInt = (h : Int) + 1 := by omega
  have q2 : (r.i 93).toInt = (h : Int) + 1 := by omega
  have e1 : (s.i 65 - 1).toInt = (h : Int) := sub_n1 q1
  have e2 : (r.i 93 - 1).toInt = (h : Int) := sub_n1 q2
  refine ⟨?_, e1, e2⟩
  unfold gAt
  rw [if_pos ⟨by omega, by omega⟩, cl_nat e1, cl_nat e2]
  exact m4 h (by omega)
theorem MVS.pop {s : CS} {r : RS} {h : Nat} (m : MVS s r (h + 1)) : MVS (CS.setI s 65 (s.i 65 - 1)) (RS.setI r 93 (r.i 93 - 1)) h := by
  obtain ⟨-, e1, e2⟩ := m.top
  obtain ⟨⟨m1, m2, m3⟩, m4⟩ := m
  refine ⟨⟨?_, ?_, by omega⟩, fun k hk => ?_⟩
  · rw [ci_at]
    exact e1
  · rw [ri_at]
    exact e2
  · exact m4 k (by omega)
theorem MVS.of {s S : CS} {r R : RS} {h : Nat} (m : MVS s r h) (e65 : S.i 65 = s.i 65) (e60 : S.a 60 = s.a 60) (e93 : R.i 93 = r.i 93) (e94 : R.a 94 = r.a 94) : MVS S R h := by
  unfold MVS at *
  rw [e65, e60, e93, e94]
  exact m
/-- steps and trace -/
def MTR (s : CS) (r : RS) : Prop := (s.i 70 = r.i 80 ∧ 0 ≤ (r.i 80).toInt ∧ (r.i 80).toInt ≤ 1000) ∧ (s.i 69 = r.i 81 ∧ (0 ≤ (r.i 81).toInt ∧ (r.i 81).toInt ≤ 200)) ∧ ∀ k : Nat, (k : Int) < (r.i 81).toInt → s.a 64 (2 * k) = r.a 82 k ∧ s.a 64 (2 * k + 1) = r.a 83 k
theorem MTR.of {s S : CS} {r R : RS} (m : MTR s r) (e69 : S.i 69 = s.i 69) (e70 : S.i 70 = s.i 70) (e64 : S.a 64 = s.a 64) (e80 : R.i 80 = r.i 80) (e81 : R.i 81 = r.i 81) (e82 : R.a 82 = r.a 82) (e83 : R.a 83 = r.a 83) : MTR S R := by
  unfold MTR at *
  rw [e69, e70, e64, e80, e81, e82, e83]
  exact m
/-- a row of the trace, in both; nothing else changes -/
theorem MTR.note {N : Nat} {s : CS} {r : RS} (m : MTR s r) {x y : Int32} {R : Unit × CS} {V : RS} (e : f_X3_note N s x y = some R) (g : f_X12_row N r x y = some V) : MTR R.2 V ∧ (∀ j : Nat, j ≠ 69 → R.2.i j = s.i j) ∧ (∀ k : Nat, k ≠ 64 → R.2.a k = s.a k) ∧ (R.2.r = s.r ∧ R.2.w = s.w ∧ R.2.o = s.o ∧ R.2.ot = s.ot ∧ R.2.oa = s.oa) ∧ (∀ j : Nat, j ≠ 81 → V.i j = r.i j) ∧ (∀ k : Nat, k ≠ 82 → k ≠ 83 → V.a k = r.a k) := by
  obtain ⟨m1, ⟨m2, m3, m4⟩, m5⟩ := id m
  unfold f_X3_note at e
  unfold f_X12_row at g
  have e200 : (200 : Int32).toInt = 200 := by decide
  have e2 : (2 : Int32).toInt = 2 := by decide
  have e1 : (1 : Int32).toInt = 1 := by decide
  by_cases c : (200 : Int32) ≤ r.i 81
  · rw [if_pos (by rw [m2]; exact c)] at e
    rw [if_pos c] at g
    rw [← Option.some.inj e, ← Option.some.inj g]
    exact ⟨m, fun _ _ => rfl, fun _ _ => rfl, ⟨rfl, rfl, rfl, rfl, rfl⟩, fun _ _ => rfl, fun _ _ _ => rfl⟩
  · have l := lt_int (Int32.not_le.mp c)
    rw [if_neg (by rw [m2]; exact c)] at e
    rw [if_neg c] at g
    obtain ⟨-, g⟩ := hf_ite g
    obtain ⟨n, hn⟩ : ∃ n : Nat, (r.i 81).toInt = (n : Int) := ⟨(r.i 81).toInt.toNat, by omega⟩
    rw [cl_nat hn] at g
    have hs : (s.i 69).toInt = (n : Int) := by rw [m2]; exact hn
    have mu : (2 * s.i 69).toInt = 2 * (n : Int) := by
      rw [toInt_ml, e2, hs] <;> rw [e2, hs] <;> omega
    have mv : (2 * s.i 69 + 1).toInt = ((2 * n + 1 : Nat) : Int) := by
      rw [ad1 (by omega) (by omega), mu]
      omega
    have mu' : (2 * s.i 69).toInt = ((2 * n : Nat) : Int) := by omega
    have gp1 : gPut (s.a 64) 400 (2 * s.i 69) x = upd (s.a 64) (2 * n) x := by
      unfold gPut
      rw [if_pos ⟨by omega, by omega⟩, cl_nat mu']
    have gp2 : ∀ f : Nat → Int32, gPut f 400 (2 * s.i 69 + 1) y = upd f (2 * n + 1) y := fun f => by
      unfold gPut
      rw [if_pos ⟨by omega, by omega⟩, cl_nat mv]
    have eR : R.2 = CS.setI (CS.putA (CS.putA s 64 (upd (s.a 64) (2 * n) x)) 64 (upd (upd (s.a 64) (2 * n) x) (2 * n + 1) y)) 69 (s.i 69 + 1) := by
      rw [← Option.some.inj e, gp1, gp2]
      rfl
    have eV := (Option.some.inj g).symm
    have R64 : ∀ k : Nat, R.2.a 64 k = if k = 2 * n + 1 then y else if k = 2 * n then x else s.a 64 k := fun k => by
      rw [eR]
      rfl
    refine ⟨⟨?_, ⟨?_, ?_, ?_⟩, fun k hk => ?_⟩, fun j hj => ?_, fun k hk => ?_, ?_, fun j hj => ?_, fun k h1 h2 => ?_⟩
    · rw [eR, eV, ci_ne _ _ _ (by decide), ri_ne (by decide)]
      exact m1
    · rw [eR, eV, ci_at, ri_at, m2]
    · rw [eV, ri_at, ad1 (by omega) (by omega)]
      omega
    · rw [eV, ri_at, ad1 (by omega) (by omega)]
      omega
    · rw [R64, R64]
      have V82 : V.a 82 k = if k = n then x else r.a 82 k := by
        rw [eV]
        show (RS.setA (RS.setA r 82 n x) 83 n y).a 82 k = _
        rw [setA_nk (by decide)]
        by_cases z : k = n
        · rw [if_pos z, z, setA_at]
        · rw [if_neg z, setA_ne z]
      have V83 : V.a 83 k = if k = n then y else r.a 83 k := by
        rw [eV]
        show (RS.setA (RS.setA r 82 n x) 83 n y).a 83 k = _
        by_cases z : k = n
        · rw [if_pos z, z, setA_at]
        · rw [if_neg z, setA_ne z, setA_nk (by decide)]
      rw [V82, V83]
      by_cases z : k = n
      · rw [if_neg (show ¬ 2 * k = 2 * n + 1 by omega), if_pos (show 2 * k = 2 * n by omega), if_pos (show 2 * k + 1 = 2 * n + 1 by omega), if_pos z, if_pos z]
        exact ⟨rfl, rfl⟩
      · have hk' : (k : Int) < (r.i 81).toInt := by
          rw [eV, ri_at, ad1 (by omega) (by omega)] at hk
          omega
        rw [if_neg (show ¬ 2 * k = 2 * n + 1 by omega), if_neg (show ¬ 2 * k = 2 * n by omega), if_neg (show ¬ 2 * k + 1 = 2 * n + 1 by omega), if_neg (show ¬ 2 * k + 1 = 2 * n by omega), if_neg z, if_neg z]
        exact m5 k hk'
    · rw [eR, ci_ne _ _ _ hj]
      rfl
    · rw [eR]
      show (CS.putA (CS.putA s 64 (upd (s.a 64) (2 * n) x)) 64 (upd (upd (s.a 64) (2 * n) x) (2 * n + 1) y)).a k = s.a k
      exact (if_neg hk).trans (if_neg hk)
    · rw [eR]
      exact ⟨rfl, rfl, rfl, rfl, rfl⟩
    · rw [eV, ri_ne hj]
      rfl
    · rw [eV]
      show (RS.setA (RS.setA r 82 n x) 83 n y).a k = r.a k
      rw [setA_nk h2, setA_nk h1]
/-- a step, in both -/
theorem MTR.step {N : Nat} {s : CS} {r : RS} (m : MTR s r) {R : Unit × CS} {V : RS} (e : f_X3_step N s = some R) (g : f_X12_step N r = some V) : (R.2 = CS.setI s 72 3 ∧ V = RS.setI (RS.setI r 115 5) 92 (-1)) ∨ ((R.2 = CS.setI s 70 (s.i 70 + 1) ∧ V = RS.setI r 80 (r.i 80 + 1)) ∧ MTR R.2 V ∧ (V.i 80).toInt = (r.i 80).toInt + 1) := by
  obtain ⟨⟨m1, m2, m3⟩, m4, m5⟩ := id m
  unfold f_X3_step at e
  unfold f_X12_step at g
  have e1000 : (1000 : Int32).toInt = 1000 := by decide
  by_cases c : r.i 80 = 1000
  · left
    rw [if_neg (by rw [m1, c]; decide)] at e
    rw [if_pos c] at g
    exact ⟨by rw [← Option.some.inj e], (Option.some.inj g).symm⟩
  · right
    have l : (r.i 80).toInt < 1000 := by
      rcases Int.lt_or_eq_of_le m3 with z | z
      · exact z
      · exact absurd (Int32.toInt_inj.mp (z.trans e1000.symm)) c
    rw [if_pos (by rw [m1, Int32.lt_iff_toInt_lt, e1000]; exact l)] at e
    rw [if_neg c] at g
    have eR : R.2 = CS.setI s 70 (s.i 70 + 1) := by rw [← Option.some.inj e]
    have eV : V = RS.setI r 80 (r.i 80 + 1) := (Option.some.inj g).symm
    have a1 : (r.i 80 + 1).toInt = (r.i 80).toInt + 1 := ad1 (by omega) (by omega)
    refine ⟨⟨eR, eV⟩, ⟨⟨?_, ?_, ?_⟩, ?_, ?_⟩, ?_⟩
    · rw [eR, eV, ci_at, ri_at, m1]
    · rw [eV, ri_at, a1]
      omega
    · rw [eV, ri_at, a1]
      omega
    · rw [eR, eV, ci_ne _ _ _ (by decide), ri_ne (by decide)]
      exact m4
    · rw [eV, ri_ne (by decide), eR]
      exact m5
    · rw [eV, ri_at]
      exact a1
end
section
/-! the class's machine: what each instruction does -/
noncomputable def cPu (s : CS) (v : Int32) : CS := CS.setI (CS.putA s 60 (gPut (s.a 60) 600 (s.i 65) v)) 65 (s.i 65 + 1)
noncomputable def cPo (s : CS) : CS := CS.setI s 65 (s.i 65 - 1)
def cTp (s : CS) : Int32 := gAt (s.a 60) 600 (s.i 65 - 1)
theorem e_cPu (N : Nat) (s : CS) (v : Int32) : f_X3_push N s v = some ((), cPu s v) := rfl
theorem e_cPo (N : Nat) (s : CS) : f_X3_pop N s = some (cTp s, cPo s) := rfl
/-- op, argument, and one place on -/
def cOp (s : CS) : Int32 := gAt (s.a 15) 1200 (s.i 66)
def cAr (s : CS) : Int32 := gAt (s.a 16) 1200 (s.i 66)
noncomputable def cNx (s : CS) : CS := CS.setI s 66 (s.i 66 + 1)
theorem xi_mov {N : Nat} {s : CS} {R : Unit × CS} (h : ¬ 7 ≤ cOp s) (e : f_X3_instruction N s = some R) : f_X3_move N (cNx s) (cOp s) (cAr s) = some R := by
  unfold f_X3_instruction at e
  exact ob_un ((if_neg h).symm.trans e)
theorem xi_com {N : Nat} {s : CS} {R : Unit × CS} (h : 7 ≤ cOp s) (h2 : ¬ 30 ≤ cOp s) (e : f_X3_instruction N s = some R) : f_X3_combine N (cNx s) (cOp s) = some R := by
  unfold f_X3_instruction at e
  exact ob_un ((if_neg h2).symm.trans ((if_pos h).symm.trans e))
theorem xi_ste {N : Nat} {s : CS} {R : Unit × CS} (h2 : 30 ≤ cOp s) (h3 : ¬ 50 ≤ cOp s) (h : 7 ≤ cOp s) (e : f_X3_instruction N s = some R) : f_X3_steer N (cNx s) (cOp s) (cAr s) = some R := by
  unfold f_X3_instruction at e
  exact ob_un ((if_neg h3).symm.trans ((if_pos h2).symm.trans ((if_pos h).symm.trans e)))
theorem xi_act {N : Nat} {s : CS} {R : Unit × CS} (h3 : 50 ≤ cOp s) (h4 : ¬ 56 ≤ cOp s) (h2 : 30 ≤ cOp s) (h : 7 ≤ cOp s) (e : f_X3_instruction N s = some R) : f_X3_act N (cNx s) (cOp s) (cAr s) = some R := by
  unfold f_X3_instruction at e
  exact ob_un ((if_neg h4).symm.trans ((if_pos h3).symm.trans ((if_pos h2).symm.trans ((if_pos h).symm.trans e))))
theorem xi_tur {N : Nat} {s : CS} {R : Unit × CS} (h4 : 56 ≤ cOp s) (h3 : 50 ≤ cOp s) (h2 : 30 ≤ cOp s) (h : 7 ≤ cOp s) (e : f_X3_instruction N s = some R) : f_X3_turn N (cNx s) (cOp s) (cAr s) = some R := by
  unfold f_X3_instruction at e
  exact ob_un ((if_pos h4).symm.trans ((if_pos h3).symm.trans ((if_pos h2).symm.trans ((if_pos h).symm.trans e))))
theorem xi_0 {N : Nat} {s : CS} {R : Unit × CS} (h : cOp s = 0) (e : f_X3_instruction N s = some R) : R.2 = cPu (cNx s) (cAr s) := by
  have z := xi_mov (by rw [h]; decide) e
  rw [h] at z
  unfold f_X3_move at z
  rw [if_pos rfl] at z
  rw [← Option.some.inj z]
  rfl
theorem xi_1 {N : Nat} {s : CS} {R : Unit × CS} (h : cOp s = 1) (e : f_X3_instruction N s = some R) : R.2 = cPu (cNx s) (gAt (s.a 59) 720 (cAr s)) := by
  have z := xi_mov (by rw [h]; decide) e
  rw [h] at z
  unfold f_X3_move at z
  rw [if_neg (by decide), if_pos rfl] at z
  rw [← Option.some.inj z]
  rfl
theorem xi_2 {N : Nat} {s : CS} {R : Unit × CS} (h : cOp s = 2) (e : f_X3_instruction N s = some R) : R.2 = CS.putA (cPo (cNx s)) 59 (gPut (s.a 59) 720 (cAr s) (cTp s)) := by
  have z := xi_mov (by rw [h]; decide) e
  rw [h] at z
  unfold f_X3_move at z
  rw [if_neg (by decide), if_neg (by decide), if_pos rfl] at z
  rw [← Option.some.inj z]
  rfl
theorem xi_3 {N : Nat} {s : CS} {R : Unit × CS} (h : cOp s = 3) (e : f_X3_instruction N s = some R) : R.2 = CS.putA (cNx s) 59 (gPut (s.a 59) 720 (cAr s) (gAt (s.a 59) 720 (cAr s) + 1)) := by
  have z := xi_mov (by rw [h]; decide) e
  rw [h] at z
  unfold f_X3_move at z
  rw [if_neg (by decide), if_neg (by decide), if_neg (by decide), if_pos rfl] at z
  rw [← Option.some.inj z]
  rfl
theorem xi_4 {N : Nat} {s : CS} {R : Unit × CS} (h : cOp s = 4) (e : f_X3_instruction N s = some R) : R.2 = cPu (cPo (cNx s)) (-(cTp s)) := by
  have z := xi_mov (by rw [h]; decide) e
  rw [h] at z
  unfold f_X3_move at z
  rw [if_neg (by decide), if_neg (by decide), if_neg (by decide), if_neg (by decide), if_pos rfl] at z
  rw [← Option.some.inj z]
  rfl
theorem xi_5 {N : Nat} {s : CS} {R : Unit × CS} (h : cOp s = 5) (e : f_X3_instruction N s = some R) : R.2 = cPu (cPo (cNx s)) (1 - cTp s) := by
  have z := xi_mov (by rw [h]; decide) e
  rw [h] at z
  unfold f_X3_move at z
  rw [if_neg (by decide), if_neg (by decide), if_neg (by decide), if_neg (by decide), if_neg (by decide), if_pos rfl] at z
  rw [← Option.some.inj z]
  rfl
theorem xi_6 {N : Nat} {s : CS} {R : Unit × CS} (h : cOp s = 6) (e : f_X3_instruction N s = some R) : R.2 = cPo (cNx s) := by
  have z := xi_mov (by rw [h]; decide) e
  rw [h] at z
  unfold f_X3_move at z
  rw [if_neg (by decide), if_neg (by decide), if_neg (by decide), if_neg (by decide), if_neg (by decide), if_neg (by decide)] at z
  rw [← Option.some.inj z]
  rfl
theorem xi_7 {N : Nat} {s : CS} {R : Unit × CS} (h : cOp s = 7) (e : f_X3_instruction N s = some R) : R.2 = cPu (cPo (cPo (cNx s))) (cTp (cPo s) + cTp s) := by
  have z := xi_com (by rw [h]; decide) (by rw [h]; decide) e
  rw [h] at z
  unfold f_X3_combine at z
  rw [e_cPo, ob_some, e_cPo, ob_some, if_pos (by decide), if_pos rfl] at z
  rw [← Option.some.inj z]
  rfl
theorem xi_8 {N : Nat} {s : CS} {R : Unit × CS} (h : cOp s = 8) (e : f_X3_instruction N s = some R) : R.2 = cPu (cPo (cPo (cNx s))) (cTp (cPo s) - cTp s) := by
  have z := xi_com (by rw [h]; decide) (by rw [h]; decide) e
  rw [h] at z
  unfold f_X3_combine at z
  rw [e_cPo, ob_some, e_cPo, ob_some, if_pos (by decide), if_neg (by decide), if_pos rfl] at z
  rw [← Option.some.inj z]
  rfl
theorem xi_9 {N : Nat} {s : CS} {R : Unit × CS} (h : cOp s = 9) (e : f_X3_instruction N s = some R) : R.2 = cPu (cPo (cPo (cNx s))) (cTp (cPo s) * cTp s) := by
  have z := xi_com (by rw [h]; decide) (by rw [h]; decide) e
  rw [h] at z
  unfold f_X3_combine at z
  rw [e_cPo, ob_some, e_cPo, ob_some, if_pos (by decide), if_neg (by decide), if_neg (by decide), if_pos rfl] at z
  rw [← Option.some.inj z]
  rfl
theorem xi_30 {N : Nat} {s : CS} {R : Unit × CS} (h : cOp s = 30) (e : f_X3_instruction N s = some R) : R.2 = CS.setI (cNx s) 66 (gAt (s.a 17) 1024 (cAr s)) := by
  have z := xi_ste (by rw [h]; decide) (by rw [h]; decide) (by rw [h]; decide) e
  rw [h] at z
  unfold f_X3_steer at z
  rw [if_pos rfl] at z
  rw [← Option.some.inj z]
  rfl
theorem xi_31 {N : Nat} {s : CS} {R : Unit × CS} (h : cOp s = 31) (e : f_X3_instruction N s = some R) : R.2 = if cTp s = 0 then CS.setI (cPo (cNx s)) 66 (gAt (s.a 17) 1024 (cAr s)) else cPo (cNx s) := by
  have z := xi_ste (by rw [h]; decide) (by rw [h]; decide) (by rw [h]; decide) e
  rw [h] at z
  unfold f_X3_steer f_X3_steer_83 f_X3_goIf at z
  rw [if_neg (by decide), if_pos rfl, e_cPo, ob_some] at z
  by_cases c : cTp s = 0
  · rw [if_pos c]
    have z1 := (if_pos (show cTp (cNx s) = 0 from c)).symm.trans z
    have z2 : some ((), CS.setI (cPo (cNx s)) 66 (gAt (s.a 17) 1024 (cAr s))) = some R := z1
    rw [← Option.some.inj z2]
  · rw [if_neg c]
    have z1 := (if_neg (show ¬ cTp (cNx s) = 0 from c)).symm.trans z
    have z2 : some ((), cPo (cNx s)) = some R := z1
    rw [← Option.some.inj z2]
theorem xi_51 {N : Nat} {s : CS} {R : Unit × CS} (h : cOp s = 51) (e : f_X3_instruction N s = some R) : f_X3_step N (cNx s) = some R := by
  have z := xi_act (by rw [h]; decide) (by rw [h]; decide) (by rw [h]; decide) (by rw [h]; decide) e
  rw [h] at z
  unfold f_X3_act at z
  rw [if_pos rfl] at z
  exact ob_un z
theorem xi_52 {N : Nat} {s : CS} {R : Unit × CS} (h : cOp s = 52) (e : f_X3_instruction N s = some R) : f_X3_note N (cPo (cNx s)) 0 (cTp s) = some R := by
  have z := xi_act (by rw [h]; decide) (by rw [h]; decide) (by rw [h]; decide) (by rw [h]; decide) e
  rw [h] at z
  unfold f_X3_act at z
  rw [if_neg (by decide), if_pos rfl, e_cPo, ob_some] at z
  exact ob_un z
theorem xi_50 {N : Nat} {s : CS} {R : Unit × CS} (h : cOp s = 50) (e : f_X3_instruction N s = some R) : R.2 = CS.setI (cNx s) 72 0 := by
  have z := xi_act (by rw [h]; decide) (by rw [h]; decide) (by rw [h]; decide) (by rw [h]; decide) e
  rw [h] at z
  unfold f_X3_act at z
  rw [if_neg (by decide), if_neg (by decide), if_neg (by decide), if_neg (by decide), if_neg (by decide)] at z
  rw [← Option.some.inj z]
theorem xi_60 {N : Nat} {s : CS} {R : Unit × CS} (h : cOp s = 60) (e : f_X3_instruction N s = some R) : R.2 = CS.setI (CS.setI (CS.setI (cNx s) 73 1) 74 0) 75 (cAr s) := by
  have z := xi_tur (by rw [h]; decide) (by rw [h]; decide) (by rw [h]; decide) (by rw [h]; decide) e
  rw [h] at z
  unfold f_X3_turn f_X3_go at z
  rw [if_neg (by decide), if_pos rfl] at z
  have z2 : some ((), CS.setI (CS.setI (CS.setI (cNx s) 73 1) 74 0) 75 (cAr s)) = some R := z
  rw [← Option.some.inj z2]
theorem xi_61 {N : Nat} {s : CS} {R : Unit × CS} (h : cOp s = 61) (e : f_X3_instruction N s = some R) : R.2 = CS.setI (CS.setI (CS.setI (cPo (cNx s)) 73 2) 74 (cTp s)) 75 (cAr s) := by
  have z := xi_tur (by rw [h]; decide) (by rw [h]; decide) (by rw [h]; decide) (by rw [h]; decide) e
  rw [h] at z
  unfold f_X3_turn f_X3_go at z
  rw [if_neg (by decide), if_neg (by decide), if_pos rfl, e_cPo, ob_some] at z
  have z2 : some ((), CS.setI (CS.setI (CS.setI (cPo (cNx s)) 73 2) 74 (cTp s)) 75 (cAr s)) = some R := z
  rw [← Option.some.inj z2]
theorem xi_62 {N : Nat} {s : CS} {R : Unit × CS} (h : cOp s = 62) (e : f_X3_instruction N s = some R) : R.2 = CS.setI (CS.setI (CS.setI (cPo (cNx s)) 73 3) 74 (cTp s)) 75 0 := by
  have z := xi_tur (by rw [h]; decide) (by rw [h]; decide) (by rw [h]; decide) (by rw [h]; decide) e
  rw [h] at z
  unfold f_X3_turn f_X3_go at z
  rw [if_neg (by decide), if_neg (by decide), if_neg (by decide), if_pos rfl, e_cPo, ob_some] at z
  have z2 : some ((), CS.setI (CS.setI (CS.setI (cPo (cNx s)) 73 3) 74 (cTp s)) 75 0) = some R := z
  rw [← Option.some.inj z2]
theorem xi_63 {N : Nat} {s : CS} {R : Unit × CS} (h : cOp s = 63) (e : f_X3_instruction N s = some R) : f_X3_raise N (cPo (cNx s)) (cAr s) (cTp s) = some R := by
  have z := xi_tur (by rw [h]; decide) (by rw [h]; decide) (by rw [h]; decide) (by rw [h]; decide) e
  rw [h] at z
  unfold f_X3_turn at z
  rw [if_neg (by decide), if_neg (by decide), if_neg (by decide), if_neg (by decide), if_pos rfl, e_cPo, ob_some] at z
  exact ob_un z
end
section
/-! the reference's machine: what each instruction does -/
def rPu (r : RS) (v : Int32) : RS := RS.setI (RS.setA r 94 (r.i 93).toNatClampNeg v) 93 (r.i 93 + 1)
def rPo (r : RS) : RS := RS.setI r 93 (r.i 93 - 1)
def rTp (r : RS) : Int32 := r.a 94 (r.i 93 - 1).toNatClampNeg
theorem e_rPu {N : Nat} {r V : RS} {v : Int32} (h : f_X12_put N r v = some V) : V = rPu r v := by
  unfold f_X12_put at h
  exact (Option.some.inj (hf_ite h).2).symm
theorem e_rPo {N : Nat} {r : RS} {W : Int32 × RS} (h : f_X12_take N r = some W) : W = (rTp r, rPo r) := by
  unfold f_X12_take at h
  exact (Option.some.inj (hf_ite h).2).symm
/-- one turn of its loop -/
theorem rn_one {N n : Nat} {r : RS} {U : Int32 × RS} (h0 : 0 ≤ (r.i 92).toInt) (h1 : (r.i 92).toInt < (r.i 20).toInt) (g : f_X12_run_122 N (n + 1) r = some U) : ∃ V : RS, f_X12_act N (RS.setI r 92 (r.i 92 + 1)) (r.i 92) = some V ∧ f_X12_run_122 N n V = some U := by
  have g' : b_X12_run_122 N (f_X12_run_122 N n) r = some U := g
  unfold b_X12_run_122 at g'
  rw [if_neg (fun q => by
    have := lt_int q
    rw [z_t0] at this
    omega), if_neg (fun q => by
    have := le_int q
    omega)] at g'
  exact hf_bind g'
theorem rn_end {N n : Nat} {r : RS} {U : Int32 × RS} (h : (r.i 92).toInt < 0 ∨ (r.i 20).toInt ≤ (r.i 92).toInt) (g : f_X12_run_122 N n r = some U) : f_X12_run_163 N r = some U := by
  cases n with
  | zero => cases g
  | succ n =>
    have g' : b_X12_run_122 N (f_X12_run_122 N n) r = some U := g
    unfold b_X12_run_122 at g'
    by_cases c : r.i 92 < 0
    · rw [if_pos c] at g'
      exact g'
    · rw [if_neg c, if_pos (Int32.le_iff_toInt_le.mpr (h.resolve_left (fun q => c (Int32.lt_iff_toInt_lt.mpr (by rw [z_t0]; exact q)))))] at g'
      exact g'
theorem xa_1 {N : Nat} {r V : RS} {x : Int32} (h : r.a 21 x.toNatClampNeg = 1) (g : f_X12_act N r x = some V) : f_X12_step N r = some V := by
  unfold f_X12_act at g
  obtain ⟨-, g⟩ := hf_ite g
  rw [h] at g
  rw [if_pos rfl] at g
  rw [ob_id] at g
  exact g
theorem xa_2 {N : Nat} {r V : RS} {x : Int32} (h : r.a 21 x.toNatClampNeg = 2) (g : f_X12_act N r x = some V) : V = rPu r (r.a 22 x.toNatClampNeg) := by
  unfold f_X12_act at g
  obtain ⟨-, g⟩ := hf_ite g
  rw [h] at g
  rw [if_neg (by decide), if_pos rfl] at g
  rw [ob_id] at g
  exact e_rPu g
theorem xa_3 {N : Nat} {r V : RS} {x : Int32} (h : r.a 21 x.toNatClampNeg = 3) (g : f_X12_act N r x = some V) : V = rPu r (r.a 84 (r.a 22 x.toNatClampNeg).toNatClampNeg) := by
  unfold f_X12_act at g
  obtain ⟨-, g⟩ := hf_ite g
  rw [h] at g
  rw [if_neg (by decide), if_neg (by decide), if_pos rfl] at g
  obtain ⟨-, g⟩ := hf_ite g
  rw [ob_id] at g
  exact e_rPu g
theorem xa_4 {N : Nat} {r V : RS} {x : Int32} (h : r.a 21 x.toNatClampNeg = 4) (g : f_X12_act N r x = some V) : V = rPu r (r.a 87 (r.a 84 (r.a 22 x.toNatClampNeg).toNatClampNeg).toNatClampNeg) := by
  unfold f_X12_act at g
  obtain ⟨-, g⟩ := hf_ite g
  rw [h] at g
  rw [if_neg (by decide), if_neg (by decide), if_neg (by decide), if_pos rfl] at g
  obtain ⟨-, g⟩ := hf_ite g
  obtain ⟨-, g⟩ := hf_ite g
  rw [ob_id] at g
  exact e_rPu g
theorem xa_5 {N : Nat} {r V : RS} {x : Int32} (h : r.a 21 x.toNatClampNeg = 5) (g : f_X12_act N r x = some V) : V = RS.setA (rPo r) 84 (r.a 22 x.toNatClampNeg).toNatClampNeg (rTp r) := by
  unfold f_X12_act at g
  obtain ⟨-, g⟩ := hf_ite g
  rw [h] at g
  rw [if_neg (by decide), if_neg (by decide), if_neg (by decide), if_neg (by decide), if_pos rfl] at g
  obtain ⟨w, gw, g⟩ := hf_bind g
  obtain ⟨-, g⟩ := hf_ite g
  rw [e_rPo gw] at g
  exact (Option.some.inj g).symm
theorem xa_6 {N : Nat} {r V : RS} {x : Int32} (h : r.a 21 x.toNatClampNeg = 6) (g : f_X12_act N r x = some V) : V = RS.setA r 84 (r.a 22 x.toNatClampNeg).toNatClampNeg (r.a 84 (r.a 22 x.toNatClampNeg).toNatClampNeg + 1) := by
  unfold f_X12_act at g
  obtain ⟨-, g⟩ := hf_ite g
  rw [h] at g
  rw [if_neg (by decide), if_neg (by decide), if_neg (by decide), if_neg (by decide), if_neg (by decide), if_pos rfl] at g
  obtain ⟨-, g⟩ := hf_ite g
  exact (Option.some.inj g).symm
theorem xa_7 {N : Nat} {r V : RS} {x : Int32} (h : r.a 21 x.toNatClampNeg = 7) (g : f_X12_act N r x = some V) : V = rPu (rPo r) (-(rTp r)) := by
  unfold f_X12_act at g
  obtain ⟨-, g⟩ := hf_ite g
  rw [h] at g
  rw [if_neg (by decide), if_neg (by decide), if_neg (by decide), if_neg (by decide), if_neg (by decide), if_neg (by decide), if_pos rfl] at g
  obtain ⟨w, gw, g⟩ := hf_bind g
  rw [e_rPo gw, ob_id] at g
  exact e_rPu g
theorem xa_10 {N : Nat} {r V : RS} {x : Int32} (h : r.a 21 x.toNatClampNeg = 10) (g : f_X12_act N r x = some V) : V = rPu (rPo r) (1 - rTp r) := by
  unfold f_X12_act at g
  obtain ⟨-, g⟩ := hf_ite g
  rw [h] at g
  rw [if_neg (by decide), if_neg (by decide), if_neg (by decide), if_neg (by decide), if_neg (by decide), if_neg (by decide), if_neg (by decide), if_neg (by decide), if_neg (by decide), if_pos rfl] at g
  obtain ⟨w, gw, g⟩ := hf_bind g
  rw [e_rPo gw, ob_id] at g
  exact e_rPu g
theorem xa_11 {N : Nat} {r V : RS} {x : Int32} (h : r.a 21 x.toNatClampNeg = 11) (g : f_X12_act N r x = some V) : V = if rTp r = 0 then rPo r else RS.setI r 92 (r.a 22 x.toNatClampNeg) := by
  unfold f_X12_act at g
  obtain ⟨-, g⟩ := hf_ite g
  rw [h] at g
  rw [if_neg (by decide), if_neg (by decide), if_neg (by decide), if_neg (by decide), if_neg (by decide), if_neg (by decide), if_neg (by decide), if_neg (by decide), if_neg (by decide), if_neg (by decide), if_pos rfl] at g
  obtain ⟨-, g⟩ := hf_ite g
  unfold f_X12_act_290 f_X12_act_282 at g
  by_cases c : rTp r = 0
  · rw [if_pos c]
    exact (Option.some.inj ((if_pos c).symm.trans g)).symm
  · rw [if_neg c]
    exact (Option.some.inj ((if_neg c).symm.trans g)).symm
theorem xa_12 {N : Nat} {r V : RS} {x : Int32} (h : r.a 21 x.toNatClampNeg = 12) (g : f_X12_act N r x = some V) : V = if rTp r = 0 then RS.setI r 92 (r.a 22 x.toNatClampNeg) else rPo r := by
  unfold f_X12_act at g
  obtain ⟨-, g⟩ := hf_ite g
  rw [h] at g
  rw [if_neg (by decide), if_neg (by decide), if_neg (by decide), if_neg (by decide), if_neg (by decide), if_neg (by decide), if_neg (by decide), if_neg (by decide), if_neg (by decide), if_neg (by decide), if_neg (by decide), if_pos rfl] at g
  obtain ⟨-, g⟩ := hf_ite g
  unfold f_X12_act_290 f_X12_act_282 at g
  by_cases c : rTp r = 0
  · rw [if_pos c]
    exact (Option.some.inj ((if_pos c).symm.trans g)).symm
  · rw [if_neg c]
    exact (Option.some.inj ((if_neg c).symm.trans g)).symm
theorem xa_13 {N : Nat} {r V : RS} {x : Int32} (h : r.a 21 x.toNatClampNeg = 13) (g : f_X12_act N r x = some V) : V = if rTp r = 0 then RS.setI (rPo r) 92 (r.a 22 x.toNatClampNeg) else RS.setI (rPo r) 92 (r.i 92) := by
  unfold f_X12_act at g
  obtain ⟨-, g⟩ := hf_ite g
  rw [h] at g
  rw [if_neg (by decide), if_neg (by decide), if_neg (by decide), if_neg (by decide), if_neg (by decide), if_neg (by decide), if_neg (by decide), if_neg (by decide), if_neg (by decide), if_neg (by decide), if_neg (by decide), if_neg (by decide), if_pos rfl] at g
  obtain ⟨w, gw, g⟩ := hf_bind g
  rw [e_rPo gw] at g
  unfold f_X12_act_322 at g
  by_cases c : rTp r = 0
  · rw [if_pos c]
    exact (Option.some.inj ((if_pos c).symm.trans g)).symm
  · rw [if_neg c]
    exact (Option.some.inj ((if_neg c).symm.trans g)).symm
theorem xa_14 {N : Nat} {r V : RS} {x : Int32} (h : r.a 21 x.toNatClampNeg = 14) (g : f_X12_act N r x = some V) : V = if rTp r = 0 then RS.setI (rPo r) 92 (r.i 92) else RS.setI (rPo r) 92 (r.a 22 x.toNatClampNeg) := by
  unfold f_X12_act at g
  obtain ⟨-, g⟩ := hf_ite g
  rw [h] at g
  rw [if_neg (by decide), if_neg (by decide), if_neg (by decide), if_neg (by decide), if_neg (by decide), if_neg (by decide), if_neg (by decide), if_neg (by decide), if_neg (by decide), if_neg (by decide), if_neg (by decide), if_neg (by decide), if_neg (by decide), if_pos rfl] at g
  obtain ⟨w, gw, g⟩ := hf_bind g
  rw [e_rPo gw] at g
  unfold f_X12_act_344 at g
  by_cases c : rTp r = 0
  · rw [if_pos c]
    exact (Option.some.inj ((if_pos c).symm.trans g)).symm
  · rw [if_neg c]
    exact (Option.some.inj ((if_neg c).symm.trans g)).symm
theorem xa_15 {N : Nat} {r V : RS} {x : Int32} (h : r.a 21 x.toNatClampNeg = 15) (g : f_X12_act N r x = some V) : V = RS.setI r 92 (r.a 22 x.toNatClampNeg) := by
  unfold f_X12_act at g
  obtain ⟨-, g⟩ := hf_ite g
  rw [h] at g
  rw [if_neg (by decide), if_neg (by decide), if_neg (by decide), if_neg (by decide), if_neg (by decide), if_neg (by decide), if_neg (by decide), if_neg (by decide), if_neg (by decide), if_neg (by decide), if_neg (by decide), if_neg (by decide), if_neg (by decide), if_neg (by decide), if_pos rfl] at g
  exact (Option.some.inj g).symm
theorem xa_16 {N : Nat} {r V : RS} {x : Int32} (h : r.a 21 x.toNatClampNeg = 16) (g : f_X12_act N r x = some V) : f_X12_row N (rPo r) 0 (rTp r) = some V := by
  unfold f_X12_act at g
  obtain ⟨-, g⟩ := hf_ite g
  rw [h] at g
  rw [if_neg (by decide), if_neg (by decide), if_neg (by decide), if_neg (by decide), if_neg (by decide), if_neg (by decide), if_neg (by decide), if_neg (by decide), if_neg (by decide), if_neg (by decide), if_neg (by decide), if_neg (by decide), if_neg (by decide), if_neg (by decide), if_neg (by decide), if_pos rfl] at g
  obtain ⟨w, gw, g⟩ := hf_bind g
  rw [e_rPo gw, ob_id] at g
  exact g
theorem xa_ends {N : Nat} {r V : RS} {x : Int32} (h : 16 < (r.a 21 x.toNatClampNeg).toInt) (g : f_X12_act N r x = some V) : f_X12_ends N r x (r.a 22 x.toNatClampNeg) = some V := by
  have n : ∀ v : Int32, v.toInt ≤ 16 → ¬ r.a 21 x.toNatClampNeg = v := fun v hv e => by
    rw [e] at h
    omega
  unfold f_X12_act at g
  obtain ⟨-, g⟩ := hf_ite g
  rw [if_neg (n 1 (by decide)), if_neg (n 2 (by decide)), if_neg (n 3 (by decide)), if_neg (n 4 (by decide)), if_neg (n 5 (by decide)), if_neg (n 6 (by decide)), if_neg (n 7 (by decide)), if_neg (n 8 (by decide)), if_neg (n 9 (by decide)), if_neg (n 10 (by decide)), if_neg (n 11 (by decide)), if_neg (n 12 (by decide)), if_neg (n 13 (by decide)), if_neg (n 14 (by decide)), if_neg (n 15 (by decide)), if_neg (n 16 (by decide)), ob_id] at g
  exact g
theorem xa_19 {N : Nat} {r V : RS} {x : Int32} (h : r.a 21 x.toNatClampNeg = 19) (g0 : f_X12_act N r x = some V) : ∃ W : RS, f_X12_raise N (rPo r) (r.a 22 x.toNatClampNeg) (rTp r) = some W ∧ f_X12_leave N W = some V := by
  have g := xa_ends (by rw [h]; decide) g0
  unfold f_X12_ends at g
  obtain ⟨-, g⟩ := hf_ite g
  rw [h] at g
  rw [if_neg (by decide), if_neg (by decide), if_pos rfl] at g
  obtain ⟨w, gw, g⟩ := hf_bind g
  rw [e_rPo gw] at g
  obtain ⟨u, gu, g⟩ := hf_bind g
  rw [ob_id] at g
  exact ⟨u, gu, g⟩
theorem xa_20 {N : Nat} {r V : RS} {x : Int32} (h : r.a 21 x.toNatClampNeg = 20) (g0 : f_X12_act N r x = some V) : ∃ W : RS, f_X12_raise N r (r.a 22 x.toNatClampNeg) 0 = some W ∧ f_X12_leave N W = some V := by
  have g := xa_ends (by rw [h]; decide) g0
  unfold f_X12_ends at g
  obtain ⟨-, g⟩ := hf_ite g
  rw [h] at g
  rw [if_neg (by decide), if_neg (by decide), if_neg (by decide), if_pos rfl] at g
  obtain ⟨u, gu, g⟩ := hf_bind g
  rw [ob_id] at g
  exact ⟨u, gu, g⟩
theorem xa_21 {N : Nat} {r V : RS} {x : Int32} (h : r.a 21 x.toNatClampNeg = 21) (g0 : f_X12_act N r x = some V) : f_X12_leave N (RS.setI (RS.setI r 114 (r.a 84 (r.a 22 x.toNatClampNeg).toNatClampNeg)) 110 3) = some V := by
  have g := xa_ends (by rw [h]; decide) g0
  unfold f_X12_ends at g
  obtain ⟨-, g⟩ := hf_ite g
  rw [h] at g
  rw [if_neg (by decide), if_neg (by decide), if_neg (by decide), if_neg (by decide), if_pos rfl] at g
  obtain ⟨-, g⟩ := hf_ite g
  rw [ob_id] at g
  exact g
theorem xa_22 {N : Nat} {r V : RS} {x : Int32} (h : r.a 21 x.toNatClampNeg = 22) (g0 : f_X12_act N r x = some V) : V = if r.i 8 = 0 then RS.setI r 92 (r.a 22 x.toNatClampNeg) else RS.setI r 92 (r.i 92) := by
  have g := xa_ends (by rw [h]; decide) g0
  unfold f_X12_ends at g
  obtain ⟨-, g⟩ := hf_ite g
  rw [h] at g
  rw [if_neg (by decide), if_neg (by decide), if_neg (by decide), if_neg (by decide), if_neg (by decide), if_pos rfl] at g
  unfold f_X12_ends_242 at g
  by_cases c : r.i 8 = 0
  · rw [if_pos c] at g ⊢
    exact (Option.some.inj g).symm
  · rw [if_neg c] at g ⊢
    exact (Option.some.inj g).symm
theorem xa_36 {N : Nat} {r V : RS} {x : Int32} (h : r.a 21 x.toNatClampNeg = 36) (g0 : f_X12_act N r x = some V) : f_X12_leave N (RS.setI (RS.setI (RS.setI r 110 1) 111 (r.a 22 x.toNatClampNeg)) 112 (r.a 23 x.toNatClampNeg)) = some V := by
  have g := xa_ends (by rw [h]; decide) g0
  unfold f_X12_ends at g
  obtain ⟨-, g⟩ := hf_ite g
  rw [h] at g
  rw [if_neg (by decide), if_neg (by decide), if_neg (by decide), if_neg (by decide), if_neg (by decide), if_neg (by decide), if_neg (by decide), if_neg (by decide), if_neg (by decide), if_neg (by decide), if_neg (by decide), if_neg (by decide), if_neg (by decide), if_neg (by decide), if_neg (by decide), if_neg (by decide), if_neg (by decide), if_neg (by decide), if_neg (by decide), if_pos rfl] at g
  rw [ob_id] at g
  exact g
end
section
/-! both machines: the plain instructions side by side -/
/-- the map of names: cells against slots -/
def NMP (nm : Nat → Nat → Prop) : Prop := (∀ c l : Nat, nm c l → c < 720 ∧ l < 460) ∧ ∀ c l c' l' : Nat, nm c l → nm c' l' → (c = c' ↔ l = l')
/-- both go on: so many values, at these places -/
def MCO (nm : Nat → Nat → Prop) (s : CS) (r : RS) (h p q : Nat) : Prop := ((s.i 72 = -1 ∧ s.i 73 = 0) ∧ (s.i 66).toInt = (p : Int) ∧ (r.i 92).toInt = (q : Int)) ∧ MVS s r h ∧ MTR s r ∧ ∀ c l : Nat, nm c l → s.a 59 c = r.a 84 l
/-- what the plain instructions leave alone -/
def EXC (nm : Nat → Nat → Prop) (s R : CS) : Prop := (∀ j : Nat, j ≠ 65 → j ≠ 66 → j ≠ 69 → j ≠ 70 → R.i j = s.i j) ∧ (∀ k : Nat, k ≠ 59 → k ≠ 60 → k ≠ 64 → R.a k = s.a k) ∧ (R.r = s.r ∧ R.w = s.w ∧ R.o = s.o ∧ R.ot = s.ot ∧ R.oa = s.oa) ∧ ∀ k : Nat, (∀ l : Nat, ¬ nm k l) → R.a 59 k = s.a 59 k
def EXV (nm : Nat → Nat → Prop) (r V : RS) : Prop := (∀ j : Nat, j ≠ 80 → j ≠ 81 → j ≠ 92 → j ≠ 93 → V.i j = r.i j) ∧ (∀ k : Nat, k ≠ 82 → k ≠ 83 → k ≠ 84 → k ≠ 94 → V.a k = r.a k) ∧ (∀ l : Nat, (∀ c : Nat, ¬ nm c l) → V.a 84 l = r.a 84 l) ∧ (r.i 80).toInt ≤ (V.i 80).toInt
theorem le_80 {a b : Int32} (h : b = a) : a.toInt ≤ b.toInt := by
  rw [h]
  exact Int.le_refl _
theorem EXC.tr {nm : Nat → Nat → Prop} {s R T : CS} (h : EXC nm s R) (g : EXC nm R T) : EXC nm s T := by
  obtain ⟨h1, h2, ⟨h3, h4, h5, h6, h7⟩, h8⟩ := h
  obtain ⟨g1, g2, ⟨g3, g4, g5, g6, g7⟩, g8⟩ := g
  exact ⟨fun j a b c d => (g1 j a b c d).trans (h1 j a b c d), fun k a b c => (g2 k a b c).trans (h2 k a b c), ⟨g3.trans h3, g4.trans h4, g5.trans h5, g6.trans h6, g7.trans h7⟩, fun k a => (g8 k a).trans (h8 k a)⟩
theorem EXV.tr {nm : Nat → Nat → Prop} {s R T : RS} (h : EXV nm s R) (g : EXV nm R T) : EXV nm s T := ⟨fun j a b c d => (g.1 j a b c d).trans (h.1 j a b c d), fun k a b c d => (g.2.1 k a b c d).trans (h.2.1 k a b c d), fun l a => (g.2.2.1 l a).trans (h.2.2.1 l a), Int.le_trans h.2.2.2 g.2.2.2⟩
def rNx (r : RS) : RS := RS.setI r 92 (r.i 92 + 1)
theorem cPu_i {s : CS} {v : Int32} {j : Nat} (h : j ≠ 65) : (cPu s v).i j = s.i j := ci_ne (CS.putA s 60 (gPut (s.a 60) 600 (s.i 65) v)) 65 (s.i 65 + 1) h
theorem cPu_a {s : CS} {v : Int32} {k : Nat} (h : k ≠ 60) : (cPu s v).a k = s.a k := if_neg h
theorem cPo_i {s : CS} {j : Nat} (h : j ≠ 65) : (cPo s).i j = s.i j := ci_ne s 65 (s.i 65 - 1) h
theorem cNx_i {s : CS} {j : Nat} (h : j ≠ 66) : (cNx s).i j = s.i j := ci_ne s 66 (s.i 66 + 1) h
theorem rPu_i {r : RS} {v : Int32} {j : Nat} (h : j ≠ 93) : (rPu r v).i j = r.i j := ri_ne (s := RS.setA r 94 (r.i 93).toNatClampNeg v) h
theorem rPu_a {r : RS} {v : Int32} {k : Nat} (h : k ≠ 94) : (rPu r v).a k = r.a k := setA_nk (s := r) h
theorem rPo_i {r : RS} {j : Nat} (h : j ≠ 93) : (rPo r).i j = r.i j := ri_ne h
theorem rNx_i {r : RS} {j : Nat} (h : j ≠ 92) : (rNx r).i j = r.i j := ri_ne h
theorem MCO.nx {nm : Nat → Nat → Prop} {s : CS} {r : RS} {h p q : Nat} (m : MCO nm s r h p q) (hp : p < 2000) (hq : q < 4000) : MVS (cNx s) (rNx r) h ∧ MTR (cNx s) (rNx r) ∧ ((cNx s).i 66).toInt = ((p + 1 : Nat) : Int) ∧ ((rNx r).i 92).toInt = ((q + 1 : Nat) : Int) := by
  obtain ⟨⟨-, m1, m2⟩, m3, m4, -⟩ := m
  refine ⟨m3.of (cNx_i (by decide)) rfl (rNx_i (by decide)) rfl, m4.of (cNx_i (by decide)) (cNx_i (by decide)) rfl (rNx_i (by decide)) (rNx_i (by decide)) rfl rfl, ?_, ?_⟩
  · unfold cNx
    rw [ci_at, ad1 (by omega) (by omega)]
    omega
  · unfold rNx
    rw [ri_at, ad1 (by omega) (by omega)]
    omega
theorem MCO.clq {nm : Nat → Nat → Prop} {s : CS} {r : RS} {h p q : Nat} (m : MCO nm s r h p q) : (r.i 92).toNatClampNeg = q := cl_nat m.1.2.2
/-- a value is put -/
theorem un_put {nm : Nat → Nat → Prop} {s : CS} {r : RS} {h p q : Nat} (m : MCO nm s r h p q) (hp : p < 2000) (hq : q < 4000) (hh : h < 600) (v : Int32) : MCO nm (cPu (cNx s) v) (rPu (rNx r) v) (h + 1) (p + 1) (q + 1) ∧ EXC nm s (cPu (cNx s) v) ∧ EXV nm r (rPu (rNx r) v) := by
  obtain ⟨n1, n2, n3, n4⟩ := m.nx hp hq
  obtain ⟨⟨⟨m1, m2⟩, -, -⟩, -, -, m5⟩ := m
  refine ⟨⟨⟨⟨?_, ?_⟩, ?_, ?_⟩, n1.push hh v, ?_, ?_⟩, ⟨fun j h1 h2 h3 h4 => ?_, fun k h1 h2 h3 => ?_, ⟨rfl, rfl, rfl, rfl, rfl⟩, fun k _ => congrFun (cPu_a (by decide)) k⟩, ⟨fun j h1 h2 h3 h4 => ?_, fun k h1 h2 h3 h4 => ?_, fun l _ => congrFun (rPu_a (by decide)) l, le_80 ((rPu_i (by decide)).trans (rNx_i (by decide)))⟩⟩
  · rw [cPu_i (by decide), cNx_i (by decide)]
    exact m1
  · rw [cPu_i (by decide), cNx_i (by decide)]
    exact m2
  · rw [cPu_i (by decide)]
    exact n3
  · rw [rPu_i (by decide)]
    exact n4
  · exact n2.of (cPu_i (by decide)) (cPu_i (by decide)) (cPu_a (by decide)) (rPu_i (by decide)) (rPu_i (by decide)) (rPu_a (by decide)) (rPu_a (by decide))
  · intro c l hc
    rw [cPu_a (by decide), rPu_a (by decide)]
    exact m5 c l hc
  · rw [cPu_i h1, cNx_i h2]
  · rw [cPu_a h2]
    rfl
  · rw [rPu_i h4, rNx_i h3]
  · rw [rPu_a h4]
    rfl
/-- a value is taken -/
theorem un_tak {nm : Nat → Nat → Prop} {s : CS} {r : RS} {h p q : Nat} (m : MCO nm s r (h + 1) p q) (hp : p < 2000) (hq : q < 4000) : MCO nm (cPo (cNx s)) (rPo (rNx r)) h (p + 1) (q + 1) ∧ EXC nm s (cPo (cNx s)) ∧ EXV nm r (rPo (rNx r)) ∧ cTp s = rTp r := by
  obtain ⟨n1, n2, n3, n4⟩ := m.nx hp hq
  obtain ⟨⟨⟨m1, m2⟩, -, -⟩, m3, -, m5⟩ := m
  refine ⟨⟨⟨⟨?_, ?_⟩, ?_, ?_⟩, n1.pop, ?_, m5⟩, ⟨fun j h1 h2 h3 h4 => ?_, fun k h1 h2 h3 => rfl, ⟨rfl, rfl, rfl, rfl, rfl⟩, fun _ _ => rfl⟩, ⟨fun j h1 h2 h3 h4 => ?_, fun k h1 h2 h3 h4 => rfl, fun _ _ => rfl, le_80 ((rPo_i (by decide)).trans (rNx_i (by decide)))⟩, m3.top.1⟩
  · rw [cPo_i (by decide), cNx_i (by decide)]
    exact m1
  · rw [cPo_i (by decide), cNx_i (by decide)]
    exact m2
  · rw [cPo_i (by decide)]
    exact n3
  · rw [rPo_i (by decide)]
    exact n4
  · exact n2.of (cPo_i (by decide)) (cPo_i (by decide)) rfl (rPo_i (by decide)) (rPo_i (by decide)) rfl rfl
  · rw [cPo_i h1, cNx_i h2]
  · rw [rPo_i h4, rNx_i h3]
/-- one after the other, at one place: values alone -/
theorem un_vs {nm : Nat → Nat → Prop} {s S : CS} {r R : RS} {h h' p q : Nat} (m : MCO nm s r h p q) (v : MVS S R h') (e : EXC nm s S) (g : EXV nm r R) (e59 : S.a 59 = s.a 59) (e84 : R.a 84 = r.a 84) (e66 : S.i 66 = s.i 66) (e92 : R.i 92 = r.i 92) (t : MTR S R) : MCO nm S R h' p q := by
  obtain ⟨⟨⟨m1, m2⟩, m3, m4⟩, -, -, m7⟩ := m
  refine ⟨⟨⟨?_, ?_⟩, ?_, ?_⟩, v, t, ?_⟩
  · rw [e.1 72 (by decide) (by decide) (by decide) (by decide)]
    exact m1
  · rw [e.1 73 (by decide) (by decide) (by decide) (by decide)]
    exact m2
  · rw [e66]
    exact m3
  · rw [e92]
    exact m4
  · rw [e59, e84]
    exact m7
/-- PUSH -/
theorem un_push {N : Nat} {nm : Nat → Nat → Prop} {s : CS} {r V : RS} {R : Unit × CS} {h p q : Nat} (m : MCO nm s r h p q) (hp : p < 2000) (hq : q < 4000) (hh : h < 600) (o1 : cOp s = 0) (o2 : r.a 21 q = 2) (ea : cAr s = r.a 22 q) (e : f_X3_instruction N s = some R) (g : f_X12_act N (rNx r) (r.i 92) = some V) : MCO nm R.2 V (h + 1) (p + 1) (q + 1) ∧ EXC nm s R.2 ∧ EXV nm r V := by
  have e1 := xi_0 o1 e
  have g1 := xa_2 (r := rNx r) (by rw [m.clq]; exact o2) g
  have z : (rNx r).a 22 (r.i 92).toNatClampNeg = cAr s := by
    rw [m.clq, ea]
    rfl
  rw [z] at g1
  rw [e1, g1]
  exact un_put m hp hq hh _
/-- LOAD -/
theorem un_load {N : Nat} {nm : Nat → Nat → Prop} {s : CS} {r V : RS} {R : Unit × CS} {h p q c l : Nat} (nn : NMP nm) (m : MCO nm s r h p q) (hp : p < 2000) (hq : q < 4000) (hh : h < 600) (o1 : cOp s = 1) (o2 : r.a 21 q = 3) (ec : (cAr s).toInt = (c : Int)) (el : (r.a 22 q).toInt = (l : Int)) (hc : nm c l) (e : f_X3_instruction N s = some R) (g : f_X12_act N (rNx r) (r.i 92) = some V) : MCO nm R.2 V (h + 1) (p + 1) (q + 1) ∧ EXC nm s R.2 ∧ EXV nm r V := by
  have e1 := xi_1 o1 e
  have g1 := xa_3 (r := rNx r) (by rw [m.clq]; exact o2) g
  obtain ⟨c7, -⟩ := nn.1 c l hc
  have z1 : gAt (s.a 59) 720 (cAr s) = s.a 59 c := by
    unfold gAt
    rw [if_pos ⟨by omega, by omega⟩, cl_nat ec]
  have z2 : (rNx r).a 84 ((rNx r).a 22 (r.i 92).toNatClampNeg).toNatClampNeg = s.a 59 c := by
    rw [m.clq]
    show r.a 84 (r.a 22 q).toNatClampNeg = s.a 59 c
    rw [cl_nat el]
    exact (m.2.2.2 c l hc).symm
  rw [z1] at e1
  rw [z2] at g1
  rw [e1, g1]
  exact un_put m hp hq hh _
/-- NEGATE, NOT -/
theorem un_neg {N : Nat} {nm : Nat → Nat → Prop} {s : CS} {r V : RS} {R : Unit × CS} {h p q : Nat} (m : MCO nm s r (h + 1) p q) (hp : p < 2000) (hq : q < 4000) (o : (cOp s = 4 ∧ r.a 21 q = 7) ∨ (cOp s = 5 ∧ r.a 21 q = 10)) (e : f_X3_instruction N s = some R) (g : f_X12_act N (rNx r) (r.i 92) = some V) : MCO nm R.2 V (h + 1) (p + 1) (q + 1) ∧ EXC nm s R.2 ∧ EXV nm r V := by
  obtain ⟨t1, t2, t3, t4⟩ := un_tak m hp hq
  have h6 := m.2.1.1.2.2
  have key : ∀ v : Int32, MCO nm (cPu (cPo (cNx s)) v) (rPu (rPo (rNx r)) v) (h + 1) (p + 1) (q + 1) ∧ EXC nm s (cPu (cPo (cNx s)) v) ∧ EXV nm r (rPu (rPo (rNx r)) v) := fun v => by
    have a1 : EXC nm (cPo (cNx s)) (cPu (cPo (cNx s)) v) := ⟨fun j h1 h2 h3 h4 => cPu_i h1, fun k h1 h2 h3 => cPu_a h2, ⟨rfl, rfl, rfl, rfl, rfl⟩, fun k _ => congrFun (cPu_a (by decide)) k⟩
    have a2 : EXV nm (rPo (rNx r)) (rPu (rPo (rNx r)) v) := ⟨fun j h1 h2 h3 h4 => rPu_i h4, fun k h1 h2 h3 h4 => rPu_a h4, fun l _ => congrFun (rPu_a (by decide)) l, le_80 (rPu_i (by decide))⟩
    exact ⟨un_vs t1 (t1.2.1.push (by omega) v) a1 a2 (cPu_a (by decide)) (rPu_a (by decide)) (cPu_i (by decide)) (rPu_i (by decide)) (t1.2.2.1.of (cPu_i (by decide)) (cPu_i (by decide)) (cPu_a (by decide)) (rPu_i (by decide)) (rPu_i (by decide)) (rPu_a (by decide)) (rPu_a (by decide))), t2.tr a1, t3.tr a2⟩
  have tp : rTp (rNx r) = cTp s := t4.symm
  rcases o with ⟨o1, o2⟩ | ⟨o1, o2⟩
  · have e1 := xi_4 o1 e
    have g1 := xa_7 (r := rNx r) (by rw [m.clq]; exact o2) g
    rw [tp] at g1
    rw [e1, g1]
    exact key _
  · have e1 := xi_5 o1 e
    have g1 := xa_10 (r := rNx r) (by rw [m.clq]; exact o2) g
    rw [tp] at g1
    rw [e1, g1]
    exact key _
end
section
/-! both machines: stores, arithmetic, comparisons, jumps, log, step -/
/-- a name gets a value -/
theorem un_set {nm : Nat → Nat → Prop} (nn : NMP nm) {s : CS} {r : RS} {h p q c0 l0 : Nat} (m : MCO nm s r h p q) (hc : nm c0 l0) (v : Int32) : MCO nm (CS.putA s 59 (upd (s.a 59) c0 v)) (RS.setA r 84 l0 v) h p q ∧ EXC nm s (CS.putA s 59 (upd (s.a 59) c0 v)) ∧ EXV nm r (RS.setA r 84 l0 v) := by
  obtain ⟨m1, m2, m3, m4⟩ := m
  have ka : ∀ k : Nat, k ≠ 59 → (CS.putA s 59 (upd (s.a 59) c0 v)).a k = s.a k := fun k hk => if_neg hk
  refine ⟨⟨m1, m2.of rfl (ka 60 (by decide)) rfl (setA_nk (by decide)), m3.of rfl rfl (ka 64 (by decide)) rfl rfl (setA_nk (by decide)) (setA_nk (by decide)), fun c l hn => ?_⟩, ⟨fun _ _ _ _ _ => rfl, fun k h1 _ _ => ka k h1, ⟨rfl, rfl, rfl, rfl, rfl⟩, fun k hk => (if_neg (fun z : k = c0 => hk l0 (by rw [z]; exact hc)) : upd (s.a 59) c0 v k = s.a 59 k)⟩, ⟨fun _ _ _ _ _ => rfl, fun k _ _ h3 _ => setA_nk h3, fun l hl => setA_ne (fun z => hl c0 (by rw [z]; exact hc)), Int.le_refl _⟩⟩
  have i := nn.2 c l c0 l0 hn hc
  show upd (s.a 59) c0 v c = (RS.setA r 84 l0 v).a 84 l
  by_cases e : c = c0
  · rw [i.mp e, setA_at]
    exact if_pos e
  · rw [setA_ne (fun z => e (i.mpr z))]
    exact (if_neg e).trans (m4 c l hn)
/-- STORE -/
theorem un_stor {N : Nat} {nm : Nat → Nat → Prop} {s : CS} {r V : RS} {R : Unit × CS} {h p q c l : Nat} (nn : NMP nm) (m : MCO nm s r (h + 1) p q) (hp : p < 2000) (hq : q < 4000) (o1 : cOp s = 2) (o2 : r.a 21 q = 5) (ec : (cAr s).toInt = (c : Int)) (el : (r.a 22 q).toInt = (l : Int)) (hc : nm c l) (e : f_X3_instruction N s = some R) (g : f_X12_act N (rNx r) (r.i 92) = some V) : MCO nm R.2 V h (p + 1) (q + 1) ∧ EXC nm s R.2 ∧ EXV nm r V := by
  have e1 := xi_2 o1 e
  have g1 := xa_5 (r := rNx r) (by rw [m.clq]; exact o2) g
  obtain ⟨c7, -⟩ := nn.1 c l hc
  obtain ⟨t1, t2, t3, t4⟩ := un_tak m hp hq
  have z1 : gPut (s.a 59) 720 (cAr s) (cTp s) = upd ((cPo (cNx s)).a 59) c (cTp s) := by
    unfold gPut
    rw [if_pos ⟨by omega, by omega⟩, cl_nat ec]
    rfl
  have z2 : ((rNx r).a 22 (r.i 92).toNatClampNeg).toNatClampNeg = l := by
    rw [m.clq]
    exact cl_nat el
  have z3 : rTp (rNx r) = cTp s := t4.symm
  rw [z1] at e1
  rw [z2, z3] at g1
  rw [e1, g1]
  obtain ⟨w1, w2, w3⟩ := un_set nn t1 hc (cTp s)
  exact ⟨w1, t2.tr w2, t3.tr w3⟩
/-- both one place on -/
theorem un_nx {nm : Nat → Nat → Prop} {s : CS} {r : RS} {h p q : Nat} (m : MCO nm s r h p q) (hp : p < 2000) (hq : q < 4000) : MCO nm (cNx s) (rNx r) h (p + 1) (q + 1) ∧ EXC nm s (cNx s) ∧ EXV nm r (rNx r) := by
  obtain ⟨n1, n2, n3, n4⟩ := m.nx hp hq
  obtain ⟨⟨⟨m1, m2⟩, -, -⟩, -, -, m5⟩ := m
  exact ⟨⟨⟨⟨(cNx_i (by decide)).trans m1, (cNx_i (by decide)).trans m2⟩, n3, n4⟩, n1, n2, m5⟩, ⟨fun j _ h2 _ _ => cNx_i h2, fun _ _ _ _ => rfl, ⟨rfl, rfl, rfl, rfl, rfl⟩, fun _ _ => rfl⟩, ⟨fun j _ _ h3 _ => rNx_i h3, fun _ _ _ _ _ => rfl, fun _ _ => rfl, le_80 (rNx_i (by decide))⟩⟩
/-- INCREASE -/
theorem un_inc {N : Nat} {nm : Nat → Nat → Prop} {s : CS} {r V : RS} {R : Unit × CS} {h p q c l : Nat} (nn : NMP nm) (m : MCO nm s r h p q) (hp : p < 2000) (hq : q < 4000) (o1 : cOp s = 3) (o2 : r.a 21 q = 6) (ec : (cAr s).toInt = (c : Int)) (el : (r.a 22 q).toInt = (l : Int)) (hc : nm c l) (e : f_X3_instruction N s = some R) (g : f_X12_act N (rNx r) (r.i 92) = some V) : MCO nm R.2 V h (p + 1) (q + 1) ∧ EXC nm s R.2 ∧ EXV nm r V := by
  have e1 := xi_3 o1 e
  have g1 := xa_6 (r := rNx r) (by rw [m.clq]; exact o2) g
  obtain ⟨c7, -⟩ := nn.1 c l hc
  obtain ⟨t1, t2, t3⟩ := un_nx m hp hq
  have z0 : gAt (s.a 59) 720 (cAr s) = s.a 59 c := by
    unfold gAt
    rw [if_pos ⟨by omega, by omega⟩, cl_nat ec]
  have z1 : gPut (s.a 59) 720 (cAr s) (s.a 59 c + 1) = upd ((cNx s).a 59) c (s.a 59 c + 1) := by
    unfold gPut
    rw [if_pos ⟨by omega, by omega⟩, cl_nat ec]
    rfl
  have z2 : ((rNx r).a 22 (r.i 92).toNatClampNeg).toNatClampNeg = l := by
    rw [m.clq]
    exact cl_nat el
  have z3 : (rNx r).a 84 l = s.a 59 c := (m.2.2.2 c l hc).symm
  rw [z0, z1] at e1
  rw [z2, z3] at g1
  rw [e1, g1]
  obtain ⟨w1, w2, w3⟩ := un_set nn t1 hc (s.a 59 c + 1)
  exact ⟨w1, t2.tr w2, t3.tr w3⟩
/-- two values give one -/
theorem un_bin {nm : Nat → Nat → Prop} {s : CS} {r : RS} {h p q : Nat} (m : MCO nm s r (h + 1 + 1) p q) (hp : p < 2000) (hq : q < 4000) (v : Int32) : MCO nm (cPu (cPo (cPo (cNx s))) v) (rPu (rPo (rPo (rNx r))) v) (h + 1) (p + 1) (q + 1) ∧ EXC nm s (cPu (cPo (cPo (cNx s))) v) ∧ EXV nm r (rPu (rPo (rPo (rNx r))) v) := by
  obtain ⟨t1, t2, t3, -⟩ := un_tak m hp hq
  have h6 := m.2.1.1.2.2
  have v2 := t1.2.1.pop
  have a1 : EXC nm (cPo (cNx s)) (cPu (cPo (cPo (cNx s))) v) := ⟨fun j h1 h2 h3 h4 => (cPu_i h1).trans (cPo_i h1), fun k h1 h2 h3 => cPu_a h2, ⟨rfl, rfl, rfl, rfl, rfl⟩, fun k _ => congrFun (cPu_a (by decide)) k⟩
  have a2 : EXV nm (rPo (rNx r)) (rPu (rPo (rPo (rNx r))) v) := ⟨fun j h1 h2 h3 h4 => (rPu_i h4).trans (rPo_i h4), fun k h1 h2 h3 h4 => rPu_a h4, fun l _ => congrFun (rPu_a (by decide)) l, le_80 ((rPu_i (by decide)).trans (rPo_i (by decide)))⟩
  refine ⟨un_vs t1 (MVS.push (s := cPo (cPo (cNx s))) (r := rPo (rPo (rNx r))) v2 (by omega) v) a1 a2 (cPu_a (by decide)) (rPu_a (by decide)) ((cPu_i (by decide)).trans (cPo_i (by decide))) ((rPu_i (by decide)).trans (rPo_i (by decide))) (t1.2.2.1.of ((cPu_i (by decide)).trans (cPo_i (by decide))) ((cPu_i (by decide)).trans (cPo_i (by decide))) (cPu_a (by decide)) ((rPu_i (by decide)).trans (rPo_i (by decide))) ((rPu_i (by decide)).trans (rPo_i (by decide))) (rPu_a (by decide)) (rPu_a (by decide))), t2.tr a1, t3.tr a2⟩
theorem un_tp2 {nm : Nat → Nat → Prop} {s : CS} {r : RS} {h p q : Nat} (m : MCO nm s r (h + 1 + 1) p q) (hp : p < 2000) (hq : q < 4000) : cTp s = rTp r ∧ cTp (cPo s) = rTp (rPo r) := by
  obtain ⟨t1, t2, t3, t4⟩ := un_tak m hp hq
  exact ⟨t4, t1.2.1.top.1⟩
theorem e_cmp {N : Nat} {r : RS} {o x y : Int32} {W : Int32 × RS} (g : f_X12_compute N r o x y = some W) (n1 : ¬ o = 37) (n2 : ¬ o = 47) : W = (if o = 42 then x * y else if o = 43 then x + y else if o = 45 then x - y else if o = 60 then (if y ≤ x then 0 else 1) else if o = 62 then (if x ≤ y then 0 else 1) else if o = 300 then (if y < x then 0 else 1) else if o = 301 then (if x < y then 0 else 1) else if o = 302 then (if x = y then 1 else 0) else (if x = y then 0 else 1), r) := by
  unfold f_X12_compute at g
  rw [if_neg n1] at g
  by_cases c1 : o = 42
  · rw [if_pos c1] at g ⊢
    exact (Option.some.inj g).symm
  rw [if_neg c1] at g ⊢
  by_cases c2 : o = 43
  · rw [if_pos c2] at g ⊢
    exact (Option.some.inj g).symm
  rw [if_neg c2] at g ⊢
  by_cases c3 : o = 45
  · rw [if_pos c3] at g ⊢
    exact (Option.some.inj g).symm
  rw [if_neg c3] at g ⊢
  rw [if_neg n2] at g
  by_cases d60 : o = 60
  · rw [if_pos d60] at g ⊢
    by_cases c : y ≤ x
    · rw [if_pos c] at g ⊢
      exact (Option.some.inj g).symm
    · rw [if_neg c] at g ⊢
      exact (Option.some.inj g).symm
  rw [if_neg d60] at g ⊢
  by_cases d62 : o = 62
  · rw [if_pos d62] at g ⊢
    by_cases c : x ≤ y
    · rw [if_pos c] at g ⊢
      exact (Option.some.inj g).symm
    · rw [if_neg c] at g ⊢
      exact (Option.some.inj g).symm
  rw [if_neg d62] at g ⊢
  by_cases d300 : o = 300
  · rw [if_pos d300] at g ⊢
    by_cases c : y < x
    · rw [if_pos c] at g ⊢
      exact (Option.some.inj g).symm
    · rw [if_neg c] at g ⊢
      exact (Option.some.inj g).symm
  rw [if_neg d300] at g ⊢
  by_cases d301 : o = 301
  · rw [if_pos d301] at g ⊢
    by_cases c : x < y
    · rw [if_pos c] at g ⊢
      exact (Option.some.inj g).symm
    · rw [if_neg c] at g ⊢
      exact (Option.some.inj g).symm
  rw [if_neg d301] at g ⊢
  by_cases d302 : o = 302
  · rw [if_pos d302] at g ⊢
    by_cases c : x = y
    · rw [if_pos c] at g ⊢
      exact (Option.some.inj g).symm
    · rw [if_neg c] at g ⊢
      exact (Option.some.inj g).symm
  rw [if_neg d302] at g ⊢
  by_cases c : x = y
  · rw [if_pos c] at g ⊢
    exact (Option.some.inj g).symm
  · rw [if_neg c] at g ⊢
    exact (Option.some.inj g).symm
/-- the reference: OP, REL but for / and % -/
theorem xa_89 {N : Nat} {r V : RS} {x : Int32} (h : r.a 21 x.toNatClampNeg = 8 ∨ r.a 21 x.toNatClampNeg = 9) (n1 : ¬ r.a 22 x.toNatClampNeg = 37) (n2 : ¬ r.a 22 x.toNatClampNeg = 47) (g : f_X12_act N r x = some V) : ∃ w : Int32, f_X12_compute N (rPo (rPo r)) (r.a 22 x.toNatClampNeg) (rTp (rPo r)) (rTp r) = some (w, rPo (rPo r)) ∧ V = rPu (rPo (rPo r)) w := by
  unfold f_X12_act at g
  obtain ⟨-, g⟩ := hf_ite g
  have go : ((f_X12_take N r).bind fun p29 => (f_X12_take N p29.2).bind fun p31 => (if (r.a 22 x.toNatClampNeg) = 47 then f_X12_act_212 N p31.2 (r.a 22 x.toNatClampNeg) p29.1 p31.1 else (if (r.a 22 x.toNatClampNeg) = 37 then f_X12_act_212 N p31.2 (r.a 22 x.toNatClampNeg) p29.1 p31.1 else f_X12_act_229 N p31.2 (r.a 22 x.toNatClampNeg) p29.1 p31.1))) = some V := by
    rcases h with h | h
    · rw [h] at g
      rw [if_neg (by decide), if_neg (by decide), if_neg (by decide), if_neg (by decide), if_neg (by decide), if_neg (by decide), if_neg (by decide), if_pos rfl] at g
      exact g
    · rw [h] at g
      rw [if_neg (by decide), if_neg (by decide), if_neg (by decide), if_neg (by decide), if_neg (by decide), if_neg (by decide), if_neg (by decide), if_neg (by decide), if_pos rfl] at g
      exact g
  obtain ⟨a, ga, go⟩ := hf_bind go
  obtain ⟨b, gb, go⟩ := hf_bind go
  rw [e_rPo ga] at gb go
  have eb : b = (rTp (rPo r), rPo (rPo r)) := e_rPo gb
  rw [eb, if_neg n2, if_neg n1] at go
  unfold f_X12_act_229 at go
  obtain ⟨w, gw, go⟩ := hf_bind go
  rw [ob_id] at go
  have ew := e_cmp gw n1 n2
  have e2 : w.2 = rPo (rPo r) := by rw [ew]
  have e3 : w = (w.1, rPo (rPo r)) := by rw [← e2]
  refine ⟨w.1, ?_, ?_⟩
  · rw [← e3]
    exact gw
  · rw [e2] at go
    exact e_rPu go
theorem xi_12 {N : Nat} {s : CS} {R : Unit × CS} (h : cOp s = 12) (e : f_X3_instruction N s = some R) : R.2 = cPu (cPo (cPo (cNx s))) (if cTp s ≤ cTp (cPo s) then 0 else 1) := by
  have z := xi_com (by rw [h]; decide) (by rw [h]; decide) e
  rw [h] at z
  unfold f_X3_combine at z
  rw [e_cPo, ob_some, e_cPo, ob_some, if_neg (by decide)] at z
  unfold f_X3_compares at z
  rw [if_pos rfl] at z
  by_cases c : cTp s ≤ cTp (cPo s)
  · rw [if_pos c]
    rw [if_pos (show cTp (cNx s) ≤ cTp (cPo (cNx s)) from c), ob_some] at z
    have z2 : some ((), cPu (cPo (cPo (cNx s))) 0) = some R := (if_pos rfl).symm.trans z
    rw [← Option.some.inj z2]
  · rw [if_neg c]
    rw [if_neg (show ¬ (cTp (cNx s) ≤ cTp (cPo (cNx s))) from c), ob_some] at z
    have z2 : some ((), cPu (cPo (cPo (cNx s))) 1) = some R := (if_neg n10).symm.trans z
    rw [← Option.some.inj z2]
theorem xi_13 {N : Nat} {s : CS} {R : Unit × CS} (h : cOp s = 13) (e : f_X3_instruction N s = some R) : R.2 = cPu (cPo (cPo (cNx s))) (if cTp s < cTp (cPo s) then 0 else 1) := by
  have z := xi_com (by rw [h]; decide) (by rw [h]; decide) e
  rw [h] at z
  unfold f_X3_combine at z
  rw [e_cPo, ob_some, e_cPo, ob_some, if_neg (by decide)] at z
  unfold f_X3_compares at z
  rw [if_neg (by decide), if_pos rfl] at z
  by_cases c : cTp s < cTp (cPo s)
  · rw [if_pos c]
    rw [if_pos (show cTp (cNx s) < cTp (cPo (cNx s)) from c), ob_some] at z
    have z2 : some ((), cPu (cPo (cPo (cNx s))) 0) = some R := (if_pos rfl).symm.trans z
    rw [← Option.some.inj z2]
  · rw [if_neg c]
    rw [if_neg (show ¬ (cTp (cNx s) < cTp (cPo (cNx s))) from c), ob_some] at z
    have z2 : some ((), cPu (cPo (cPo (cNx s))) 1) = some R := (if_neg n10).symm.trans z
    rw [← Option.some.inj z2]
theorem xi_14 {N : Nat} {s : CS} {R : Unit × CS} (h : cOp s = 14) (e : f_X3_instruction N s = some R) : R.2 = cPu (cPo (cPo (cNx s))) (if cTp (cPo s) ≤ cTp s then 0 else 1) := by
  have z := xi_com (by rw [h]; decide) (by rw [h]; decide) e
  rw [h] at z
  unfold f_X3_combine at z
  rw [e_cPo, ob_some, e_cPo, ob_some, if_neg (by decide)] at z
  unfold f_X3_compares at z
  rw [if_neg (by decide), if_neg (by decide), if_pos rfl] at z
  by_cases c : cTp (cPo s) ≤ cTp s
  · rw [if_pos c]
    rw [if_pos (show cTp (cPo (cNx s)) ≤ cTp (cNx s) from c), ob_some] at z
    have z2 : some ((), cPu (cPo (cPo (cNx s))) 0) = some R := (if_pos rfl).symm.trans z
    rw [← Option.some.inj z2]
  · rw [if_neg c]
    rw [if_neg (show ¬ (cTp (cPo (cNx s)) ≤ cTp (cNx s)) from c), ob_some] at z
    have z2 : some ((), cPu (cPo (cPo (cNx s))) 1) = some R := (if_neg n10).symm.trans z
    rw [← Option.some.inj z2]
theorem xi_15 {N : Nat} {s : CS} {R : Unit × CS} (h : cOp s = 15) (e : f_X3_instruction N s = some R) : R.2 = cPu (cPo (cPo (cNx s))) (if cTp (cPo s) < cTp s then 0 else 1) := by
  have z := xi_com (by rw [h]; decide) (by rw [h]; decide) e
  rw [h] at z
  unfold f_X3_combine at z
  rw [e_cPo, ob_some, e_cPo, ob_some, if_neg (by decide)] at z
  unfold f_X3_compares at z
  rw [if_neg (by decide), if_neg (by decide), if_neg (by decide), if_pos rfl] at z
  by_cases c : cTp (cPo s) < cTp s
  · rw [if_pos c]
    rw [if_pos (show cTp (cPo (cNx s)) < cTp (cNx s) from c), ob_some] at z
    have z2 : some ((), cPu (cPo (cPo (cNx s))) 0) = some R := (if_pos rfl).symm.trans z
    rw [← Option.some.inj z2]
  · rw [if_neg c]
    rw [if_neg (show ¬ (cTp (cPo (cNx s)) < cTp (cNx s)) from c), ob_some] at z
    have z2 : some ((), cPu (cPo (cPo (cNx s))) 1) = some R := (if_neg n10).symm.trans z
    rw [← Option.some.inj z2]
theorem xi_16 {N : Nat} {s : CS} {R : Unit × CS} (h : cOp s = 16) (e : f_X3_instruction N s = some R) : R.2 = cPu (cPo (cPo (cNx s))) (if cTp (cPo s) = cTp s then 1 else 0) := by
  have z := xi_com (by rw [h]; decide) (by rw [h]; decide) e
  rw [h] at z
  unfold f_X3_combine at z
  rw [e_cPo, ob_some, e_cPo, ob_some, if_neg (by decide)] at z
  unfold f_X3_compares at z
  rw [if_neg (by decide), if_neg (by decide), if_neg (by decide), if_neg (by decide), if_pos rfl] at z
  by_cases c : cTp (cPo s) = cTp s
  · rw [if_pos c]
    rw [if_pos (show cTp (cPo (cNx s)) = cTp (cNx s) from c), ob_some] at z
    have z2 : some ((), cPu (cPo (cPo (cNx s))) 1) = some R := (if_neg n10).symm.trans z
    rw [← Option.some.inj z2]
  · rw [if_neg c]
    rw [if_neg (show ¬ (cTp (cPo (cNx s)) = cTp (cNx s)) from c), ob_some] at z
    have z2 : some ((), cPu (cPo (cPo (cNx s))) 0) = some R := (if_pos rfl).symm.trans z
    rw [← Option.some.inj z2]
theorem xi_17 {N : Nat} {s : CS} {R : Unit × CS} (h : cOp s = 17) (e : f_X3_instruction N s = some R) : R.2 = cPu (cPo (cPo (cNx s))) (if cTp (cPo s) = cTp s then 0 else 1) := by
  have z := xi_com (by rw [h]; decide) (by rw [h]; decide) e
  rw [h] at z
  unfold f_X3_combine at z
  rw [e_cPo, ob_some, e_cPo, ob_some, if_neg (by decide)] at z
  unfold f_X3_compares at z
  rw [if_neg (by decide), if_neg (by decide), if_neg (by decide), if_neg (by decide), if_neg (by decide)] at z
  by_cases c : cTp (cPo s) = cTp s
  · rw [if_pos c]
    rw [if_pos (show cTp (cPo (cNx s)) = cTp (cNx s) from c), ob_some] at z
    have z2 : some ((), cPu (cPo (cPo (cNx s))) 0) = some R := (if_pos rfl).symm.trans z
    rw [← Option.some.inj z2]
  · rw [if_neg c]
    rw [if_neg (show ¬ (cTp (cPo (cNx s)) = cTp (cNx s)) from c), ob_some] at z
    have z2 : some ((), cPu (cPo (cPo (cNx s))) 1) = some R := (if_neg n10).symm.trans z
    rw [← Option.some.inj z2]
/-- arithmetic but for / and %, comparisons -/
theorem un_ari {N : Nat} {nm : Nat → Nat → Prop} {s : CS} {r V : RS} {R : Unit × CS} {h p q : Nat} (m : MCO nm s r (h + 1 + 1) p q) (hp : p < 2000) (hq : q < 4000) (o : (cOp s = 7 ∧ r.a 21 q = 8 ∧ r.a 22 q = 43) ∨ (cOp s = 8 ∧ r.a 21 q = 8 ∧ r.a 22 q = 45) ∨ (cOp s = 9 ∧ r.a 21 q = 8 ∧ r.a 22 q = 42) ∨ (cOp s = 12 ∧ r.a 21 q = 9 ∧ r.a 22 q = 60) ∨ (cOp s = 13 ∧ r.a 21 q = 9 ∧ r.a 22 q = 300) ∨ (cOp s = 14 ∧ r.a 21 q = 9 ∧ r.a 22 q = 62) ∨ (cOp s = 15 ∧ r.a 21 q = 9 ∧ r.a 22 q = 301) ∨ (cOp s = 16 ∧ r.a 21 q = 9 ∧ r.a 22 q = 302) ∨ (cOp s = 17 ∧ r.a 21 q = 9 ∧ r.a 22 q = 303)) (e : f_X3_instruction N s = some R) (g : f_X12_act N (rNx r) (r.i 92) = some V) : MCO nm R.2 V (h + 1) (p + 1) (q + 1) ∧ EXC nm s R.2 ∧ EXV nm r V := by
  obtain ⟨t1, t2⟩ := un_tp2 m hp hq
  have key : ∀ v : Int32, R.2 = cPu (cPo (cPo (cNx s))) v → V = rPu (rPo (rPo (rNx r))) v → MCO nm R.2 V (h + 1) (p + 1) (q + 1) ∧ EXC nm s R.2 ∧ EXV nm r V := fun v q1 q2 => by
    rw [q1, q2]
    exact un_bin m hp hq v
  have ref : ∀ (a b : Int32), (a = 8 ∨ a = 9) → ¬ b = 37 → ¬ b = 47 → r.a 21 q = a → r.a 22 q = b → ∃ w : Int32, f_X12_compute N (rPo (rPo (rNx r))) b (cTp (cPo s)) (cTp s) = some (w, rPo (rPo (rNx r))) ∧ V = rPu (rPo (rPo (rNx r))) w := fun a b ha n1 n2 q1 q2 => by
    have z1 : (rNx r).a 21 (r.i 92).toNatClampNeg = a := by rw [m.clq]; exact q1
    have z2 : (rNx r).a 22 (r.i 92).toNatClampNeg = b := by rw [m.clq]; exact q2
    obtain ⟨w, w1, w2⟩ := xa_89 (r := rNx r) (by rw [z1]; exact ha) (by rw [z2]; exact n1) (by rw [z2]; exact n2) g
    rw [z2] at w1
    have y1 : rTp (rNx r) = cTp s := t1.symm
    have y2 : rTp (rPo (rNx r)) = cTp (cPo s) := t2.symm
    rw [y1, y2] at w1
    exact ⟨w, w1, w2⟩
  rcases o with ⟨o1, o2, o3⟩ | ⟨o1, o2, o3⟩ | ⟨o1, o2, o3⟩ | ⟨o1, o2, o3⟩ | ⟨o1, o2, o3⟩ | ⟨o1, o2, o3⟩ | ⟨o1, o2, o3⟩ | ⟨o1, o2, o3⟩ | ⟨o1, o2, o3⟩
  · obtain ⟨w, w1, w2⟩ := ref 8 43 (by decide) (by decide) (by decide) o2 o3
    have ew := congrArg Prod.fst (e_cmp w1 (by decide) (by decide))
    refine key w ?_ w2
    rw [xi_7 o1 e]
    exact congrArg _ ew.symm
  · obtain ⟨w, w1, w2⟩ := ref 8 45 (by decide) (by decide) (by decide) o2 o3
    have ew := congrArg Prod.fst (e_cmp w1 (by decide) (by decide))
    refine key w ?_ w2
    rw [xi_8 o1 e]
    exact congrArg _ ew.symm
  · obtain ⟨w, w1, w2⟩ := ref 8 42 (by decide) (by decide) (by decide) o2 o3
    have ew := congrArg Prod.fst (e_cmp w1 (by decide) (by decide))
    refine key w ?_ w2
    rw [xi_9 o1 e]
    exact congrArg _ ew.symm
  · obtain ⟨w, w1, w2⟩ := ref 9 60 (by decide) (by decide) (by decide) o2 o3
    have ew := congrArg Prod.fst (e_cmp w1 (by decide) (by decide))
    refine key w ?_ w2
    rw [xi_12 o1 e]
    exact congrArg _ ew.symm
  · obtain ⟨w, w1, w2⟩ := ref 9 300 (by decide) (by decide) (by decide) o2 o3
    have ew := congrArg Prod.fst (e_cmp w1 (by decide) (by decide))
    refine key w ?_ w2
    rw [xi_13 o1 e]
    exact congrArg _ ew.symm
  · obtain ⟨w, w1, w2⟩ := ref 9 62 (by decide) (by decide) (by decide) o2 o3
    have ew := congrArg Prod.fst (e_cmp w1 (by decide) (by decide))
    refine key w ?_ w2
    rw [xi_14 o1 e]
    exact congrArg _ ew.symm
  · obtain ⟨w, w1, w2⟩ := ref 9 301 (by decide) (by decide) (by decide) o2 o3
    have ew := congrArg Prod.fst (e_cmp w1 (by decide) (by decide))
    refine key w ?_ w2
    rw [xi_15 o1 e]
    exact congrArg _ ew.symm
  · obtain ⟨w, w1, w2⟩ := ref 9 302 (by decide) (by decide) (by decide) o2 o3
    have ew := congrArg Prod.fst (e_cmp w1 (by decide) (by decide))
    refine key w ?_ w2
    rw [xi_16 o1 e]
    exact congrArg _ ew.symm
  · obtain ⟨w, w1, w2⟩ := ref 9 303 (by decide) (by decide) (by decide) o2 o3
    have ew := congrArg Prod.fst (e_cmp w1 (by decide) (by decide))
    refine key w ?_ w2
    rw [xi_17 o1 e]
    exact congrArg _ ew.symm
end
section
/-! both machines: jumps, log, step -/
theorem un_toC {nm : Nat → Nat → Prop} {s : CS} {r : RS} {h p q p' : Nat} {x : Int32} (m : MCO nm s r h p q) (hx : x.toInt = (p' : Int)) : MCO nm (CS.setI s 66 x) r h p' q ∧ EXC nm s (CS.setI s 66 x) := by
  obtain ⟨⟨⟨m1, m2⟩, -, m4⟩, m5, m6, m7⟩ := m
  refine ⟨⟨⟨⟨(ci_ne _ _ _ (by decide)).trans m1, (ci_ne _ _ _ (by decide)).trans m2⟩, ?_, m4⟩, m5.of (ci_ne _ _ _ (by decide)) rfl rfl rfl, m6.of (ci_ne _ _ _ (by decide)) (ci_ne _ _ _ (by decide)) rfl rfl rfl rfl rfl, m7⟩, ⟨fun j _ h2 _ _ => ci_ne _ _ _ h2, fun _ _ _ _ => rfl, ⟨rfl, rfl, rfl, rfl, rfl⟩, fun _ _ => rfl⟩⟩
  rw [ci_at]
  exact hx
theorem un_toR {nm : Nat → Nat → Prop} {s : CS} {r : RS} {h p q q' : Nat} {y : Int32} (m : MCO nm s r h p q) (hy : y.toInt = (q' : Int)) : MCO nm s (RS.setI r 92 y) h p q' ∧ EXV nm r (RS.setI r 92 y) := by
  obtain ⟨⟨m1, m2, -⟩, m5, m6, m7⟩ := m
  refine ⟨⟨⟨m1, m2, ?_⟩, m5.of rfl rfl (ri_ne (by decide)) rfl, m6.of rfl rfl rfl (ri_ne (by decide)) (ri_ne (by decide)) rfl rfl, m7⟩, ⟨fun j _ _ h3 _ => ri_ne h3, fun _ _ _ _ _ => rfl, fun _ _ => rfl, le_80 (ri_ne (by decide))⟩⟩
  rw [ri_at]
  exact hy
/-- where a target lies -/
def cTg (s : CS) (x : Int32) : Int32 := gAt (s.a 17) 1024 x
/-- GOTO, JMP -/
theorem un_jmp {N : Nat} {nm : Nat → Nat → Prop} {s : CS} {r V : RS} {R : Unit × CS} {h p q p' q' : Nat} (m : MCO nm s r h p q) (hp : p < 2000) (hq : q < 4000) (o1 : cOp s = 30) (o2 : r.a 21 q = 15) (ep : (cTg s (cAr s)).toInt = (p' : Int)) (eq : (r.a 22 q).toInt = (q' : Int)) (e : f_X3_instruction N s = some R) (g : f_X12_act N (rNx r) (r.i 92) = some V) : MCO nm R.2 V h p' q' ∧ EXC nm s R.2 ∧ EXV nm r V := by
  have e1 := xi_30 o1 e
  have g1 := xa_15 (r := rNx r) (by rw [m.clq]; exact o2) g
  obtain ⟨t1, t2, t3⟩ := un_nx m hp hq
  obtain ⟨a1, a2⟩ := un_toC (x := gAt (s.a 17) 1024 (cAr s)) t1 ep
  obtain ⟨b1, b2⟩ := un_toR (y := (rNx r).a 22 (r.i 92).toNatClampNeg) a1 (by rw [m.clq]; exact eq)
  rw [e1, g1]
  exact ⟨b1, t2.tr a2, t3.tr b2⟩
/-- IF_NOT, JZ -/
theorem un_jz {N : Nat} {nm : Nat → Nat → Prop} {s : CS} {r V : RS} {R : Unit × CS} {h p q p' q' : Nat} (m : MCO nm s r (h + 1) p q) (hp : p < 2000) (hq : q < 4000) (o1 : cOp s = 31) (o2 : r.a 21 q = 13) (ep : (cTg s (cAr s)).toInt = (p' : Int)) (eq : (r.a 22 q).toInt = (q' : Int)) (e : f_X3_instruction N s = some R) (g : f_X12_act N (rNx r) (r.i 92) = some V) : ((cTp s = 0 ∧ MCO nm R.2 V h p' q') ∨ (¬ cTp s = 0 ∧ MCO nm R.2 V h (p + 1) (q + 1))) ∧ EXC nm s R.2 ∧ EXV nm r V := by
  have e1 := xi_31 o1 e
  have g1 := xa_13 (r := rNx r) (by rw [m.clq]; exact o2) g
  obtain ⟨t1, t2, t3, t4⟩ := un_tak m hp hq
  have tp : rTp (rNx r) = cTp s := t4.symm
  rw [tp] at g1
  by_cases c : cTp s = 0
  · rw [if_pos c] at e1 g1
    obtain ⟨a1, a2⟩ := un_toC (x := gAt (s.a 17) 1024 (cAr s)) t1 ep
    obtain ⟨b1, b2⟩ := un_toR (y := (rNx r).a 22 (r.i 92).toNatClampNeg) a1 (by rw [m.clq]; exact eq)
    rw [e1, g1]
    exact ⟨Or.inl ⟨c, b1⟩, t2.tr a2, t3.tr b2⟩
  · rw [if_neg c] at e1 g1
    obtain ⟨-, -, n3, n4⟩ := m.nx hp hq
    obtain ⟨b1, b2⟩ := un_toR (y := (rNx r).i 92) t1 n4
    rw [e1, g1]
    exact ⟨Or.inr ⟨c, b1⟩, t2, t3.tr b2⟩
/-- what KEEP does -/
theorem xi_kp {N : Nat} {s : CS} {R : Unit × CS} (h : cOp s = 32 ∨ cOp s = 33) (e : f_X3_instruction N s = some R) : R.2 = if (cTp s = 0 ↔ cOp s = 32) then CS.setI (cNx s) 66 (gAt (s.a 17) 1024 (cAr s)) else cPo (cNx s) := by
  have kp : ∀ (v : Int32) (A : Unit × CS), (v = 0 ∨ v = 1) → f_X3_keep N (cNx s) v (cAr s) = some A → A.2 = if (cTp s = 0 ↔ v = 0) then CS.setI (cNx s) 66 (gAt (s.a 17) 1024 (cAr s)) else cPo (cNx s) := fun v A hv q => by
    unfold f_X3_keep f_X3_keep_22 at q
    by_cases c : cTp s = 0
    · have q1 := (if_pos (show cTp (cNx s) = 0 from c)).symm.trans q
      rcases hv with hv | hv
      · rw [if_pos ⟨fun _ => hv, fun _ => c⟩]
        have q2 := (if_pos hv.symm).symm.trans q1
        rw [← Option.some.inj q2]
        rfl
      · rw [if_neg (fun z => absurd (hv.symm.trans (z.mp c)) (by decide))]
        have q2 := (if_neg (show ¬ (0 : Int32) = v by rw [hv]; decide)).symm.trans q1
        have q3 : some ((), cPo (cNx s)) = some A := q2
        rw [← Option.some.inj q3]
    · have q1 := (if_neg (show ¬ cTp (cNx s) = 0 from c)).symm.trans q
      rcases hv with hv | hv
      · rw [if_neg (fun z => c (z.mpr hv))]
        have q2 := (if_neg (show ¬ (1 : Int32) = v by rw [hv]; decide)).symm.trans q1
        have q3 : some ((), cPo (cNx s)) = some A := q2
        rw [← Option.some.inj q3]
      · rw [if_pos ⟨fun z => absurd z c, fun z => absurd (hv.symm.trans z) (by decide)⟩]
        have q2 := (if_pos hv.symm).symm.trans q1
        rw [← Option.some.inj q2]
        rfl
  rcases h with h | h
  · have z := xi_ste (by rw [h]; decide) (by rw [h]; decide) (by rw [h]; decide) e
    rw [h] at z
    unfold f_X3_steer f_X3_steer_102 at z
    rw [if_neg (by decide), if_neg (by decide), if_pos rfl, if_neg (by decide)] at z
    have w := kp 0 R (Or.inl rfl) (ob_un z)
    rw [w, h]
    by_cases c : cTp s = 0
    · rw [if_pos ⟨fun _ => rfl, fun _ => c⟩, if_pos ⟨fun _ => rfl, fun _ => c⟩]
    · rw [if_neg (fun y => c (y.mpr rfl)), if_neg (fun y => c (y.mpr rfl))]
  · have z := xi_ste (by rw [h]; decide) (by rw [h]; decide) (by rw [h]; decide) e
    rw [h] at z
    unfold f_X3_steer f_X3_steer_102 at z
    rw [if_neg (by decide), if_neg (by decide), if_neg (by decide), if_pos rfl] at z
    have w := kp 1 R (Or.inr rfl) (ob_un z)
    rw [w, h]
    by_cases c : cTp s = 0
    · rw [if_neg (fun y => absurd (y.mp c) (by decide)), if_neg (fun y => absurd (y.mp c) (by decide))]
    · rw [if_pos ⟨fun y => absurd y c, fun y => absurd y (by decide)⟩, if_pos ⟨fun y => absurd y c, fun y => absurd y (by decide)⟩]
/-- KEEP, KEEP -/
theorem un_keep {N : Nat} {nm : Nat → Nat → Prop} {s : CS} {r V : RS} {R : Unit × CS} {h p q p' q' : Nat} (m : MCO nm s r (h + 1) p q) (hp : p < 2000) (hq : q < 4000) (o : (cOp s = 32 ∧ r.a 21 q = 12) ∨ (cOp s = 33 ∧ r.a 21 q = 11)) (ep : (cTg s (cAr s)).toInt = (p' : Int)) (eq : (r.a 22 q).toInt = (q' : Int)) (e : f_X3_instruction N s = some R) (g : f_X12_act N (rNx r) (r.i 92) = some V) : (MCO nm R.2 V (h + 1) p' q' ∨ MCO nm R.2 V h (p + 1) (q + 1)) ∧ EXC nm s R.2 ∧ EXV nm r V := by
  obtain ⟨t1, t2, t3, t4⟩ := un_tak m hp hq
  obtain ⟨u1, u2, u3⟩ := un_nx m hp hq
  have tp : rTp (rNx r) = cTp s := t4.symm
  have jmp : R.2 = CS.setI (cNx s) 66 (gAt (s.a 17) 1024 (cAr s)) → V = RS.setI (rNx r) 92 ((rNx r).a 22 (r.i 92).toNatClampNeg) → (MCO nm R.2 V (h + 1) p' q' ∨ MCO nm R.2 V h (p + 1) (q + 1)) ∧ EXC nm s R.2 ∧ EXV nm r V := fun q1 q2 => by
    obtain ⟨a1, a2⟩ := un_toC (x := gAt (s.a 17) 1024 (cAr s)) u1 ep
    obtain ⟨b1, b2⟩ := un_toR (y := (rNx r).a 22 (r.i 92).toNatClampNeg) a1 (by rw [m.clq]; exact eq)
    rw [q1, q2]
    exact ⟨Or.inl b1, u2.tr a2, u3.tr b2⟩
  have pop : R.2 = cPo (cNx s) → V = rPo (rNx r) → (MCO nm R.2 V (h + 1) p' q' ∨ MCO nm R.2 V h (p + 1) (q + 1)) ∧ EXC nm s R.2 ∧ EXV nm r V := fun q1 q2 => by
    rw [q1, q2]
    exact ⟨Or.inr t1, t2, t3⟩
  rcases o with ⟨o1, o2⟩ | ⟨o1, o2⟩
  · have e1 := xi_kp (Or.inl o1) e
    have g1 := xa_12 (r := rNx r) (by rw [m.clq]; exact o2) g
    rw [tp] at g1
    rw [o1] at e1
    by_cases c : cTp s = 0
    · rw [if_pos ⟨fun _ => rfl, fun _ => c⟩] at e1
      rw [if_pos c] at g1
      exact jmp e1 g1
    · rw [if_neg (fun y => c (y.mpr rfl))] at e1
      rw [if_neg c] at g1
      exact pop e1 g1
  · have e1 := xi_kp (Or.inr o1) e
    have g1 := xa_11 (r := rNx r) (by rw [m.clq]; exact o2) g
    rw [tp] at g1
    rw [o1] at e1
    by_cases c : cTp s = 0
    · rw [if_neg (fun y => absurd (y.mp c) (by decide))] at e1
      rw [if_pos c] at g1
      exact pop e1 g1
    · rw [if_pos ⟨fun y => absurd y c, fun y => absurd y (by decide)⟩] at e1
      rw [if_neg c] at g1
      exact jmp e1 g1
/-- LOG, OUT -/
theorem un_out {N : Nat} {nm : Nat → Nat → Prop} {s : CS} {r V : RS} {R : Unit × CS} {h p q : Nat} (m : MCO nm s r (h + 1) p q) (hp : p < 2000) (hq : q < 4000) (o1 : cOp s = 52) (o2 : r.a 21 q = 16) (e : f_X3_instruction N s = some R) (g : f_X12_act N (rNx r) (r.i 92) = some V) : MCO nm R.2 V h (p + 1) (q + 1) ∧ EXC nm s R.2 ∧ EXV nm r V := by
  have e1 := xi_52 o1 e
  have g1 := xa_16 (r := rNx r) (by rw [m.clq]; exact o2) g
  obtain ⟨t1, t2, t3, t4⟩ := un_tak m hp hq
  have tp : rTp (rNx r) = cTp s := t4.symm
  rw [tp] at g1
  obtain ⟨n1, n2, n3, ⟨n4, n5, n6, n7, n8⟩, n9, n10⟩ := t1.2.2.1.note e1 g1
  have ec : EXC nm (cPo (cNx s)) R.2 := ⟨fun j _ _ h3 _ => n2 j h3, fun k _ _ h3 => n3 k h3, ⟨n4, n5, n6, n7, n8⟩, fun k _ => congrFun (n3 59 (by decide)) k⟩
  have er : EXV nm (rPo (rNx r)) V := ⟨fun j _ h2 _ _ => n9 j h2, fun k h1 h2 _ _ => n10 k h1 h2, fun l _ => congrFun (n10 84 (by decide) (by decide)) l, le_80 (n9 80 (by decide))⟩
  exact ⟨un_vs t1 (t1.2.1.of (n2 65 (by decide)) (n3 60 (by decide)) (n9 93 (by decide)) (n10 94 (by decide) (by decide))) ec er (n3 59 (by decide)) (n10 84 (by decide) (by decide)) (n2 66 (by decide)) (n9 92 (by decide)) n1, t2.tr ec, t3.tr er⟩
/-- STEP -/
theorem un_step {N : Nat} {nm : Nat → Nat → Prop} {s : CS} {r V : RS} {R : Unit × CS} {h p q : Nat} (m : MCO nm s r h p q) (hp : p < 2000) (hq : q < 4000) (o1 : cOp s = 51) (o2 : r.a 21 q = 1) (e : f_X3_instruction N s = some R) (g : f_X12_act N (rNx r) (r.i 92) = some V) : (R.2 = CS.setI (cNx s) 72 3 ∧ V = RS.setI (RS.setI (rNx r) 115 5) 92 (-1)) ∨ ((MCO nm R.2 V h (p + 1) (q + 1) ∧ EXC nm s R.2 ∧ EXV nm r V) ∧ (V.i 80).toInt = (r.i 80).toInt + 1) := by
  have e1 := xi_51 o1 e
  have g1 := xa_1 (r := rNx r) (by rw [m.clq]; exact o2) g
  obtain ⟨t1, t2, t3⟩ := un_nx m hp hq
  rcases t1.2.2.1.step e1 g1 with z | ⟨⟨z1, z2⟩, z3, z4⟩
  · exact Or.inl z
  · right
    have ec : EXC nm (cNx s) R.2 := by
      rw [z1]
      exact ⟨fun j _ _ _ h4 => ci_ne _ _ _ h4, fun _ _ _ _ => rfl, ⟨rfl, rfl, rfl, rfl, rfl⟩, fun _ _ => rfl⟩
    have z6 : ((rNx r).i 80).toInt ≤ (V.i 80).toInt := by omega
    have er : EXV nm (rNx r) V := by
      rw [z2] at z6 ⊢
      exact ⟨fun j h1 _ _ _ => ri_ne h1, fun _ _ _ _ _ => rfl, fun _ _ => rfl, z6⟩
    have i65 : R.2.i 65 = (cNx s).i 65 := by rw [z1, ci_ne _ _ _ (by decide)]
    have i66 : R.2.i 66 = (cNx s).i 66 := by rw [z1, ci_ne _ _ _ (by decide)]
    have a0 : R.2.a = (cNx s).a := by rw [z1]; rfl
    have j93 : V.i 93 = (rNx r).i 93 := by rw [z2, ri_ne (by decide)]
    have j92 : V.i 92 = (rNx r).i 92 := by rw [z2, ri_ne (by decide)]
    have b0 : V.a = (rNx r).a := by rw [z2]; rfl
    refine ⟨⟨un_vs t1 (t1.2.1.of i65 (by rw [a0]) j93 (by rw [b0])) ec er (by rw [a0]) (by rw [b0]) i66 j92 z3, t2.tr ec, t3.tr er⟩, ?_⟩
    rw [z4]
    have z5 : (rNx r).i 80 = r.i 80 := rNx_i (by decide)
    rw [z5]
end
section
/-! the class's machine: one that no frame holds -/
theorem hd_no {N b : Nat} {s : CS} : ∀ (n : Nat) (x2 : Int32) (p : Int32 × CS), f_X3_isHeld_2 N n s b x2 = some p → p.1 = 0 → 0 ≤ x2.toInt → p.2 = s ∧ ∀ i a : Nat, x2.toInt ≤ (i : Int) → (i : Int) < dpI s → i < 24 → s.r 61 i = some a → ¬ s.ot a = some b
  | 0, _, _, e, _, _ => by cases e
  | n + 1, x2, p, e, h0, hx => by
    have e' : b_X3_isHeld_2 N (f_X3_isHeld_2 N n) s b x2 = some p := e
    unfold b_X3_isHeld_2 f_X3_isHeld_46 at e'
    have e24 : (24 : Int32).toInt = 24 := by decide
    by_cases c1 : s.i 67 ≤ x2
    · rw [if_pos c1] at e'
      have l := le_int c1
      refine ⟨by rw [← Option.some.inj e'], fun i a h1 h2 _ _ => ?_⟩
      unfold dpI at h2
      omega
    rw [if_neg c1] at e'
    by_cases c2 : (24 : Int32) ≤ x2
    · rw [if_pos c2] at e'
      have l := le_int c2
      refine ⟨by rw [← Option.some.inj e'], fun i a h1 _ h3 _ => ?_⟩
      omega
    rw [if_neg c2] at e'
    obtain ⟨-, e'⟩ := hf_ite e'
    have l2 := lt_int (Int32.not_le.mp c2)
    have ad : (x2 + 1).toInt = x2.toInt + 1 := ad1 hx (by omega)
    obtain ⟨k, hk⟩ : ∃ k : Nat, x2.toInt = (k : Int) := ⟨x2.toInt.toNat, by omega⟩
    rw [cl_nat hk] at e'
    have go : f_X3_isHeld_2 N n s b (x2 + 1) = some p → (∀ a : Nat, s.r 61 k = some a → ¬ s.ot a = some b) → p.2 = s ∧ ∀ i a : Nat, x2.toInt ≤ (i : Int) → (i : Int) < dpI s → i < 24 → s.r 61 i = some a → ¬ s.ot a = some b := fun q hh => by
      obtain ⟨r1, r2⟩ := hd_no n (x2 + 1) p q h0 (by omega)
      refine ⟨r1, fun i a h1 h2 h3 h4 => ?_⟩
      by_cases z : i = k
      · rw [z] at h4
        exact hh a h4
      · exact r2 i a (by omega) h2 h3 h4
    cases hr : s.r 61 k with
    | none =>
      rw [hr] at e'
      exact go e' (fun a h => by rw [hr] at h; cases h)
    | some a =>
      rw [hr] at e'
      have e2 := (hf_ite e').2
      cases ho : s.ot a with
      | none =>
        rw [ho] at e2
        have e2' : (if (none : Option Nat) = some b then some ((1 : Int32), s) else f_X3_isHeld_2 N n s b (x2 + 1)) = some p := e2
        rw [if_neg (fun z => by cases z)] at e2'
        exact go e2' (fun a' h => by
          rw [hr] at h
          cases h
          rw [ho]
          exact fun z => by cases z)
      | some c =>
        rw [ho] at e2
        have e2' : (if (some c : Option Nat) = some b then some ((1 : Int32), s) else f_X3_isHeld_2 N n s b (x2 + 1)) = some p := e2
        by_cases y : (some c : Option Nat) = some b
        · rw [if_pos y] at e2'
          rw [← Option.some.inj e2'] at h0
          exact absurd h0 n10
        · rw [if_neg y] at e2'
          exact go e2' (fun a' h => by
            rw [hr] at h
            cases h
            rw [ho]
            exact y)
theorem hd_no0 {N b : Nat} {s : CS} {p : Int32 × CS} (e : f_X3_isHeld N s b = some p) (h : p.1 = 0) : p.2 = s ∧ ¬ HELD s b := by
  have e' : f_X3_isHeld_2 N N s b 0 = some p := e
  obtain ⟨r1, r2⟩ := hd_no N 0 p e' h (by rw [z_t0]; exact Int.le_refl _)
  refine ⟨r1, fun ⟨i, a, h1, h2, h3, h4⟩ => ?_⟩
  exact r2 i a (by rw [z_t0]; omega) h1 h2 h3 h4
end
section
/-! the class's machine: a free one, and what stays -/
theorem coa_new (s : CS) (t : Nat) {x : Nat} (h : x ≠ s.hs) : (CS.new s t).oa x = s.oa x := if_neg h
theorem NT.oa9 {s : CS} {x : Nat} (h : x < s.hs) : (NT s).oa x = s.oa x := by
  have e1 : x ≠ s.hs := by omega
  have e2 : x ≠ (CS.new s 4).hs := by rw [chs_new]; omega
  have e3 : x ≠ (CS.setK (CS.new (CS.new s 4) 3) s.hs 5).hs := by rw [chs_setK, chs_new, chs_new]; omega
  unfold NT
  rw [coa_setK, coa_new _ _ e3, coa_setK, coa_new _ _ e2, coa_new _ _ e1]
/-- what stays where one is looked for -/
def KEP (s R : CS) : Prop := (R.i = s.i ∧ R.a = s.a ∧ R.w = s.w ∧ R.r 61 = s.r 61) ∧ (∀ x : Nat, x < s.hs → R.o x = s.o x ∧ R.ot x = s.ot x ∧ R.oa x = s.oa x) ∧ ∀ j x : Nat, s.r 62 j = some x → R.r 62 j = some x
theorem KEP.nt (s : CS) : KEP s (NT s) := ⟨⟨NT.i, NT.a, NT.w, by rw [NT.r]⟩, fun x hx => ⟨(NT.o hx).1, (NT.o hx).2.2, NT.oa9 hx⟩, fun j x h => by rw [NT.r]; exact h⟩
theorem hd_new {s : CS} (hr : REFS s) : ¬ HELD s s.hs := fun ⟨i, a, _, h2, h3, h4⟩ => by
  obtain ⟨j, j1, j2⟩ := hr.2.2.2.2.2.2.2.1 i a s.hs h2 h3 h4
  have := hr.1 s.hs (hr.2.2.2.2.2.1 j s.hs j1 j2).1.1
  omega
theorem fr_no {N H : Nat} (hN : 1000 ≤ N) {s : CS} (hr : REFS s) (hm : ROOM H s) : ∀ (n : Nat) (x1 : Int32) (R : Option Nat × CS), f_X3_freeThrown_2 N n s x1 = some R → ∃ b : Nat, R.1 = some b ∧ ¬ HELD s b ∧ KEP s R.2
  | 0, _, _, e => by cases e
  | n + 1, x1, R, e => by
    have e' : b_X3_freeThrown_2 N (f_X3_freeThrown_2 N n) s x1 = some R := e
    unfold b_X3_freeThrown_2 at e'
    by_cases c : (24 : Int32) ≤ x1
    · rw [if_pos c, e_init, ob_some] at e'
      rw [← Option.some.inj e']
      exact ⟨s.hs, rfl, hd_new hr, KEP.nt s⟩
    rw [if_neg c] at e'
    obtain ⟨hib, e'⟩ := hf_ite e'
    obtain ⟨k, hk⟩ : ∃ k : Nat, x1.toInt = (k : Int) := ⟨x1.toInt.toNat, by have := hib.1; omega⟩
    have k24 : k < 24 := by have := hib.2; omega
    rw [cl_nat hk] at e'
    cases hf : s.r 62 k with
    | none =>
      rw [hf] at e'
      have e2 : ((f_X8_init N (CS.new s 4) (CS.hs s)).bind fun p11 => if ib x1 24 then if oK p11.2 (CS.hs s) 2 then oCase (CS.r (CS.setR p11.2 62 k (some (CS.hs s))) 62 k) none (fun a18 => (f_X3_isHeld N (CS.setR p11.2 62 k (some (CS.hs s))) a18).bind fun p19 => (if p19.1 = 0 then oCase (CS.r p19.2 62 k) (some (none, p19.2)) (fun a25 => some ((some a25), p19.2)) else f_X3_freeThrown_2 N n p19.2 (x1 + 1))) else none else none) = some R := e'
      rw [e_init, ob_some] at e2
      have e3 := (hf_ite (hf_ite e2).2).2
      have hnp := NPR.new hr hm (m := k) k24 hf
      obtain ⟨V, hV⟩ : ∃ V, V = CS.setR (NT s) 62 k (some s.hs) := ⟨_, rfl⟩
      have v62 : V.r 62 k = some s.hs := by rw [hV, cr_at]; exact if_pos rfl
      have kv : KEP s V := by
        have z := KEP.nt s
        refine ⟨⟨?_, ?_, ?_, ?_⟩, fun x hx => ?_, fun j x h => ?_⟩
        · rw [hV, ci_setR]; exact z.1.1
        · rw [hV, ca_setR]; exact z.1.2.1
        · rw [hV, cw_setR]; exact z.1.2.2.1
        · rw [hV, cr_ne _ _ _ _ (by decide)]; exact z.1.2.2.2
        · rw [hV, co_setR, cot_setR, coa_setR]; exact z.2.1 x hx
        · rw [hV, cr_at, NT.r]
          exact (if_neg (fun y => by rw [y, hf] at h; cases h) : va_up (s.r 62) k (some s.hs) j = s.r 62 j).trans h
      have e4 : oCase (V.r 62 k) none (fun a18 => (f_X3_isHeld N V a18).bind fun p19 => (if p19.1 = 0 then oCase (CS.r p19.2 62 k) (some (none, p19.2)) (fun a25 => some ((some a25), p19.2)) else f_X3_freeThrown_2 N n p19.2 (x1 + 1))) = some R := by
        rw [hV]
        exact e3
      rw [← hV] at hnp
      clear hV
      rw [v62] at e4
      obtain ⟨p, ep, e5⟩ := hf_bind e4
      by_cases z : p.1 = 0
      · obtain ⟨p2, -⟩ := hd_no0 ep z
        rw [if_pos z, p2, v62] at e5
        have e6 : some (some s.hs, V) = some R := e5
        rw [← Option.some.inj e6]
        exact ⟨s.hs, rfl, hd_new hr, kv⟩
      · exfalso
        obtain ⟨i, a, q1, q2, q3, q4⟩ := (ok_at (q_held hN hnp.1 s.hs) ep).2 z
        rw [kv.1.2.2.2] at q3
        have ha := hr.2.2.2.1 i a q2 q3
        have la := hr.1 a ha.1
        rw [(kv.2.1 a la).2.1] at q4
        have q1' : (i : Int) < dpI s := by
          unfold dpI at *
          rw [kv.1.1] at q1
          exact q1
        exact hd_new hr ⟨i, a, q1', q2, q3, q4⟩
    | some b =>
      rw [hf] at e'
      have e2 : ((f_X3_isHeld N s b).bind fun p28 => (if p28.1 = 0 then oCase (CS.r p28.2 62 k) (some (none, p28.2)) (fun a34 => some ((some a34), p28.2)) else f_X3_freeThrown_2 N n p28.2 (x1 + 1))) = some R := e'
      obtain ⟨p, ep, e3⟩ := hf_bind e2
      by_cases z : p.1 = 0
      · obtain ⟨p2, nh⟩ := hd_no0 ep z
        rw [if_pos z, p2, hf] at e3
        have e4 : some (some b, s) = some R := e3
        rw [← Option.some.inj e4]
        exact ⟨b, rfl, nh, ⟨rfl, rfl, rfl, rfl⟩, fun _ _ => ⟨rfl, rfl, rfl⟩, fun _ _ h => h⟩
      · have p2 := (ok_at (q_held hN hr b) ep).1
        rw [if_neg z, p2] at e3
        exact fr_no hN hr hm n (x1 + 1) R e3
end
section
/-! the reference: what its run leaves alone -/
def RFX (s r : RS) : Prop := (∀ j : Nat, j < 79 → r.i j = s.i j) ∧ (∀ k : Nat, k < 82 → r.a k = s.a k)
theorem RFX.rf (s : RS) : RFX s s := ⟨fun _ _ => rfl, fun _ _ => rfl⟩
theorem RFX.tr {s r u : RS} (h : RFX s r) (g : RFX r u) : RFX s u := ⟨fun j hj => (g.1 j hj).trans (h.1 j hj), fun k hk => (g.2 k hk).trans (h.2 k hk)⟩
theorem RFX.si {s r : RS} (h : RFX s r) (k : Nat) (v : Int32) (hk : 79 ≤ k) : RFX s (RS.setI r k v) := ⟨fun j hj => (if_neg (by omega) : (RS.setI r k v).i j = r.i j).trans (h.1 j hj), h.2⟩
theorem RFX.sa {s r : RS} (h : RFX s r) (k g : Nat) (v : Int32) (hk : 82 ≤ k) : RFX s (RS.setA r k g v) := ⟨h.1, fun j hj => (if_neg (by omega) : (RS.setA r k g v).a j = r.a j).trans (h.2 j hj)⟩
def KX {α : Type} (s : RS) (t : Option (α × RS)) : Prop := ∀ R, t = some R → RFX s R.2
def KY (s : RS) (t : Option RS) : Prop := ∀ R, t = some R → RFX s R
theorem kx_some {α : Type} {s : RS} {r : α × RS} (h : RFX s r.2) : KX s (some r) := fun R q => by
  cases q
  exact h
theorem ky_some {s r : RS} (h : RFX s r) : KY s (some r) := fun R q => by
  cases q
  exact h
theorem kx_none {α : Type} {s : RS} : KX s (none : Option (α × RS)) := fun R q => by cases q
theorem ky_none {s : RS} : KY s (none : Option RS) := fun R q => by cases q
theorem kx_ite {α : Type} {s : RS} {c : Prop} [Decidable c] {x y : Option (α × RS)} (hx : KX s x) (hy : KX s y) : KX s (if c then x else y) := by
  by_cases h : c
  · rw [if_pos h]; exact hx
  · rw [if_neg h]; exact hy
theorem ky_ite {s : RS} {c : Prop} [Decidable c] {x y : Option RS} (hx : KY s x) (hy : KY s y) : KY s (if c then x else y) := by
  by_cases h : c
  · rw [if_pos h]; exact hx
  · rw [if_neg h]; exact hy
theorem kx_st {α : Type} {s r : RS} {t : Option (α × RS)} (h : RFX s r) (g : KX r t) : KX s t := fun R q => h.tr (g R q)
theorem ky_st {s r : RS} {t : Option RS} (h : RFX s r) (g : KY r t) : KY s t := fun R q => h.tr (g R q)
theorem kx_bind {α β : Type} {s : RS} {x : Option (α × RS)} {k : α × RS → Option (β × RS)} (hx : KX s x) (hk : ∀ p : α × RS, KX p.2 (k p)) : KX s (x.bind k) := by
  intro R h
  obtain ⟨p, h1, h2⟩ := hf_bind h
  exact (hx p h1).tr (hk p R h2)
theorem kx_bindv {β : Type} {s : RS} {x : Option RS} {k : RS → Option (β × RS)} (hx : KY s x) (hk : ∀ p : RS, KX p (k p)) : KX s (x.bind k) := by
  intro R h
  obtain ⟨p, h1, h2⟩ := hf_bind h
  exact (hx p h1).tr (hk p R h2)
theorem ky_bind {α : Type} {s : RS} {x : Option (α × RS)} {k : α × RS → Option RS} (hx : KX s x) (hk : ∀ p : α × RS, KY p.2 (k p)) : KY s (x.bind k) := by
  intro R h
  obtain ⟨p, h1, h2⟩ := hf_bind h
  exact (hx p h1).tr (hk p R h2)
theorem ky_bindv {s : RS} {x : Option RS} {k : RS → Option RS} (hx : KY s x) (hk : ∀ p : RS, KY p (k p)) : KY s (x.bind k) := by
  intro R h
  obtain ⟨p, h1, h2⟩ := hf_bind h
  exact (hx p h1).tr (hk p R h2)
theorem kx_f_X12_in_14 (N : Nat) (σ : RS) : KX σ (f_X12_in_14 N σ) := by
  unfold f_X12_in_14
  exact (kx_some (RFX.rf _))
theorem kx_f_X12_in (N : Nat) (σ : RS) (x0 : Int32) (x1 : Int32) (x2 : Int32) : KX σ (f_X12_in N σ x0 x1 x2) := by
  unfold f_X12_in
  exact (kx_ite (kx_st (RFX.rf _) (kx_f_X12_in_14 N σ)) (kx_ite (kx_st (RFX.rf _) (kx_f_X12_in_14 N σ)) (kx_some (RFX.rf _))))
theorem kx_f_X12_isUnder_21 (N : Nat) (σ : RS) (x2 : Int32) (x3 : Int32) : KX σ (f_X12_isUnder_21 N σ x2 x3) := by
  unfold f_X12_isUnder_21
  exact (kx_ite (kx_some (RFX.rf _)) (kx_some (RFX.rf _)))
theorem kx_b_X12_isUnder_2 (N : Nat) (K : RS → Int32 → Int32 → Option (Int32 × RS)) (hK : ∀ (σ : RS) (y0 : Int32) (y1 : Int32), KX σ (K σ y0 y1)) (σ : RS) (x2 : Int32) (x3 : Int32) : KX σ (b_X12_isUnder_2 N K σ x2 x3) := by
  unfold b_X12_isUnder_2
  exact (kx_ite (kx_st (RFX.rf _) (kx_f_X12_isUnder_21 N σ x2 x3)) (kx_ite (kx_st (RFX.rf _) (kx_f_X12_isUnder_21 N σ x2 x3)) (kx_ite (kx_st (RFX.rf _) (hK σ x2 (σ.a 4 ((x3 : Int32).toNatClampNeg)))) kx_none)))
theorem kx_f_X12_isUnder_2 (N : Nat) : ∀ (n : Nat) (σ : RS) (y0 : Int32) (y1 : Int32), KX σ (f_X12_isUnder_2 N n σ y0 y1)
  | 0, _, _, _ => kx_none
  | n+1, σ, y0, y1 => kx_b_X12_isUnder_2 N (f_X12_isUnder_2 N n) (fun σ y0 y1 => kx_f_X12_isUnder_2 N n σ y0 y1) σ y0 y1
theorem kx_f_X12_isUnder (N : Nat) (σ : RS) (x1 : Int32) (x2 : Int32) : KX σ (f_X12_isUnder N σ x1 x2) := by
  unfold f_X12_isUnder
  exact (kx_st (RFX.rf _) (kx_f_X12_isUnder_2 N N σ x2 x1))
theorem kx_f_X12_row (N : Nat) (σ : RS) (x1 : Int32) (x2 : Int32) : KY σ (f_X12_row N σ x1 x2) := by
  unfold f_X12_row
  exact (ky_ite (ky_some (RFX.rf _)) (ky_ite (ky_some (RFX.si (RFX.sa (RFX.sa (RFX.rf _) 82 (((σ.i 81) : Int32).toNatClampNeg) x1 (by decide)) 83 (((σ.i 81) : Int32).toNatClampNeg) x2 (by decide)) 81 ((σ.i 81) + 1) (by decide))) ky_none))
theorem kx_f_X12_record (N : Nat) (σ : RS) (x1 : Int32) (x2 : Int32) (x3 : Int32) (x4 : Int32) : KX σ (f_X12_record N σ x1 x2 x3 x4) := by
  unfold f_X12_record
  exact (kx_ite (kx_some (RFX.si (RFX.sa (RFX.sa (RFX.sa (RFX.sa (RFX.sa (RFX.rf _) 100 (((σ.i 99) : Int32).toNatClampNeg) x1 (by decide)) 101 (((σ.i 99) : Int32).toNatClampNeg) x2 (by decide)) 102 (((σ.i 99) : Int32).toNatClampNeg) x3 (by decide)) 103 (((σ.i 99) : Int32).toNatClampNeg) x4 (by decide)) 104 (((σ.i 99) : Int32).toNatClampNeg) (σ.i 93) (by decide)) 99 ((σ.i 99) + 1) (by decide))) kx_none)
theorem kx_f_X12_put (N : Nat) (σ : RS) (x1 : Int32) : KY σ (f_X12_put N σ x1) := by
  unfold f_X12_put
  exact (ky_ite (ky_some (RFX.si (RFX.sa (RFX.rf _) 94 (((σ.i 93) : Int32).toNatClampNeg) x1 (by decide)) 93 ((σ.i 93) + 1) (by decide))) ky_none)
theorem kx_f_X12_take (N : Nat) (σ : RS) : KX σ (f_X12_take N σ) := by
  unfold f_X12_take
  exact (kx_ite (kx_some (RFX.si (RFX.rf _) 93 ((σ.i 93) - 1) (by decide))) kx_none)
theorem kx_f_X12_raise_24 (N : Nat) (σ : RS) (x1 : Int32) (x2 : Int32) : KY σ (f_X12_raise_24 N σ x1 x2) := by
  unfold f_X12_raise_24
  exact (ky_ite (ky_some (RFX.si (RFX.sa (RFX.sa (RFX.sa (RFX.si (RFX.rf _) 85 ((σ.i 114) + 1) (by decide)) 86 (((σ.i 114) : Int32).toNatClampNeg) x1 (by decide)) 87 (((σ.i 114) : Int32).toNatClampNeg) x2 (by decide)) 88 (((σ.i 114) : Int32).toNatClampNeg) 0 (by decide)) 110 3 (by decide))) ky_none)
theorem kx_f_X12_raise (N : Nat) (σ : RS) (x1 : Int32) (x2 : Int32) : KY σ (f_X12_raise N σ x1 x2) := by
  unfold f_X12_raise
  exact (ky_ite (ky_st (RFX.si (RFX.rf _) 114 3199 (by decide)) (kx_f_X12_raise_24 N (RS.setI σ 114 3199) x1 x2)) (ky_st (RFX.si (RFX.rf _) 114 (σ.i 85) (by decide)) (kx_f_X12_raise_24 N (RS.setI σ 114 (σ.i 85)) x1 x2)))
theorem kx_b_X12_closeAll_0 (N : Nat) (K : RS → Int32 → Option (RS)) (hK : ∀ (σ : RS) (y0 : Int32), KY σ (K σ y0)) (σ : RS) (x1 : Int32) : KY σ (b_X12_closeAll_0 N K σ x1) := by
  unfold b_X12_closeAll_0
  exact (ky_ite (ky_ite (ky_some (RFX.rf _)) (ky_ite (ky_bindv (ky_st (RFX.si (RFX.rf _) 95 ((σ.i 95) - 1) (by decide)) (kx_f_X12_row N (RS.setI σ 95 ((σ.i 95) - 1)) 2 (σ.a 96 ((((σ.i 95) - 1) : Int32).toNatClampNeg)))) (fun p4 => (ky_ite (ky_ite (ky_st (RFX.rf _) (hK p4 x1)) (ky_ite (ky_ite (ky_ite (ky_st (RFX.rf _) (hK p4 x1)) (ky_ite (ky_st (RFX.sa (RFX.sa (RFX.sa (RFX.rf _) 89 ((((8 * (p4.i 114)) + (p4.a 88 (((p4.i 114) : Int32).toNatClampNeg))) : Int32).toNatClampNeg) ((p4.a 7 (((σ.a 96 ((((σ.i 95) - 1) : Int32).toNatClampNeg)) : Int32).toNatClampNeg)) - 1) (by decide)) 90 ((((8 * (p4.i 114)) + (p4.a 88 (((p4.i 114) : Int32).toNatClampNeg))) : Int32).toNatClampNeg) (σ.a 96 ((((σ.i 95) - 1) : Int32).toNatClampNeg)) (by decide)) 88 (((p4.i 114) : Int32).toNatClampNeg) ((p4.a 88 (((p4.i 114) : Int32).toNatClampNeg)) + 1) (by decide)) (hK (RS.setA (RS.setA (RS.setA p4 89 ((((8 * (p4.i 114)) + (p4.a 88 (((p4.i 114) : Int32).toNatClampNeg))) : Int32).toNatClampNeg) ((p4.a 7 (((σ.a 96 ((((σ.i 95) - 1) : Int32).toNatClampNeg)) : Int32).toNatClampNeg)) - 1)) 90 ((((8 * (p4.i 114)) + (p4.a 88 (((p4.i 114) : Int32).toNatClampNeg))) : Int32).toNatClampNeg) (σ.a 96 ((((σ.i 95) - 1) : Int32).toNatClampNeg))) 88 (((p4.i 114) : Int32).toNatClampNeg) ((p4.a 88 (((p4.i 114) : Int32).toNatClampNeg)) + 1)) x1)) ky_none)) ky_none) (ky_bindv (ky_st (RFX.rf _) (kx_f_X12_raise N p4 ((p4.a 7 (((σ.a 96 ((((σ.i 95) - 1) : Int32).toNatClampNeg)) : Int32).toNatClampNeg)) - 1) (σ.a 96 ((((σ.i 95) - 1) : Int32).toNatClampNeg)))) (fun p14 => (ky_st (RFX.rf _) (hK p14 x1)))))) ky_none))) ky_none)) ky_none)
theorem kx_f_X12_closeAll_0 (N : Nat) : ∀ (n : Nat) (σ : RS) (y0 : Int32), KY σ (f_X12_closeAll_0 N n σ y0)
  | 0, _, _ => ky_none
  | n+1, σ, y0 => kx_b_X12_closeAll_0 N (f_X12_closeAll_0 N n) (fun σ y0 => kx_f_X12_closeAll_0 N n σ y0) σ y0
theorem kx_f_X12_closeAll (N : Nat) (σ : RS) (x1 : Int32) : KY σ (f_X12_closeAll N σ x1) := by
  unfold f_X12_closeAll
  exact (ky_st (RFX.rf _) (kx_f_X12_closeAll_0 N N σ x1))
theorem kx_f_X12_finals (N : Nat) (σ : RS) (x1 : Int32) : KX σ (f_X12_finals N σ x1) := by
  unfold f_X12_finals
  exact (kx_ite (kx_ite (kx_ite (kx_some (RFX.si (RFX.si (RFX.sa (RFX.sa (RFX.sa (RFX.sa (RFX.sa (RFX.sa (RFX.rf _) 105 ((x1 : Int32).toNatClampNeg) (σ.i 110) (by decide)) 106 ((x1 : Int32).toNatClampNeg) (σ.i 111) (by decide)) 107 ((x1 : Int32).toNatClampNeg) (σ.i 112) (by decide)) 108 ((x1 : Int32).toNatClampNeg) (σ.i 113) (by decide)) 109 ((x1 : Int32).toNatClampNeg) (σ.i 114) (by decide)) 102 ((x1 : Int32).toNatClampNeg) 2 (by decide)) 93 (σ.a 104 ((x1 : Int32).toNatClampNeg)) (by decide)) 92 (σ.a 31 (((σ.a 101 ((x1 : Int32).toNatClampNeg)) : Int32).toNatClampNeg)) (by decide))) (kx_some (RFX.rf _))) kx_none) kx_none)
theorem kx_b_X12_isCaught_12 (N : Nat) (K : RS → Int32 → Int32 → Option (Int32 × RS)) (hK : ∀ (σ : RS) (y0 : Int32) (y1 : Int32), KX σ (K σ y0 y1)) (σ : RS) (x1 : Int32) (x2 : Int32) : KX σ (b_X12_isCaught_12 N K σ x1 x2) := by
  unfold b_X12_isCaught_12
  exact (kx_ite (kx_some (RFX.rf _)) (kx_ite (kx_ite (kx_bind (kx_st (RFX.rf _) (kx_f_X12_isUnder N σ (σ.a 86 (((σ.i 114) : Int32).toNatClampNeg)) (σ.a 34 ((x2 : Int32).toNatClampNeg)))) (fun p6 => (kx_ite (kx_st (RFX.rf _) (hK p6.2 x1 (p6.2.a 37 ((x2 : Int32).toNatClampNeg)))) (kx_ite (kx_ite (kx_some (RFX.si (RFX.si (RFX.sa (RFX.sa (RFX.rf _) 84 (((p6.2.a 36 ((x2 : Int32).toNatClampNeg)) : Int32).toNatClampNeg) (p6.2.i 114) (by decide)) 102 ((x1 : Int32).toNatClampNeg) 1 (by decide)) 93 (p6.2.a 104 ((x1 : Int32).toNatClampNeg)) (by decide)) 92 (p6.2.a 35 ((x2 : Int32).toNatClampNeg)) (by decide))) kx_none) kx_none)))) kx_none) kx_none))
theorem kx_f_X12_isCaught_12 (N : Nat) : ∀ (n : Nat) (σ : RS) (y0 : Int32) (y1 : Int32), KX σ (f_X12_isCaught_12 N n σ y0 y1)
  | 0, _, _, _ => kx_none
  | n+1, σ, y0, y1 => kx_b_X12_isCaught_12 N (f_X12_isCaught_12 N n) (fun σ y0 y1 => kx_f_X12_isCaught_12 N n σ y0 y1) σ y0 y1
theorem kx_f_X12_isCaught (N : Nat) (σ : RS) (x1 : Int32) : KX σ (f_X12_isCaught N σ x1) := by
  unfold f_X12_isCaught
  exact (kx_ite (kx_ite (kx_st (RFX.rf _) (kx_f_X12_isCaught_12 N N σ x1 (σ.a 30 (((σ.a 101 ((x1 : Int32).toNatClampNeg)) : Int32).toNatClampNeg)))) kx_none) kx_none)
theorem kx_b_X12_leave_0 (N : Nat) (K : RS → Option (RS)) (hK : ∀ (σ : RS), KY σ (K σ)) (σ : RS) : KY σ (b_X12_leave_0 N K σ) := by
  unfold b_X12_leave_0
  exact (ky_ite (ky_ite (ky_some (RFX.si (RFX.rf _) 92 (σ.i 111) (by decide))) (ky_ite (ky_ite (ky_bindv (ky_st (RFX.rf _) (kx_f_X12_row N σ 4 (σ.a 101 ((((σ.i 99) - 1) : Int32).toNatClampNeg)))) (fun p27 => (ky_ite (ky_st (RFX.si (RFX.sa (RFX.rf _) 91 (((p27.a 101 ((((σ.i 99) - 1) : Int32).toNatClampNeg)) : Int32).toNatClampNeg) ((p27.a 91 (((p27.a 101 ((((σ.i 99) - 1) : Int32).toNatClampNeg)) : Int32).toNatClampNeg)) - 1) (by decide)) 99 ((p27.i 99) - 1) (by decide)) (hK (RS.setI (RS.setA p27 91 (((p27.a 101 ((((σ.i 99) - 1) : Int32).toNatClampNeg)) : Int32).toNatClampNeg) ((p27.a 91 (((p27.a 101 ((((σ.i 99) - 1) : Int32).toNatClampNeg)) : Int32).toNatClampNeg)) - 1)) 99 ((p27.i 99) - 1)))) ky_none))) (ky_ite (ky_st (RFX.si (RFX.si (RFX.rf _) 97 (σ.a 101 ((((σ.i 99) - 1) : Int32).toNatClampNeg)) (by decide)) 99 ((σ.i 99) - 1) (by decide)) (hK (RS.setI (RS.setI σ 97 (σ.a 101 ((((σ.i 99) - 1) : Int32).toNatClampNeg))) 99 ((σ.i 99) - 1)))) (ky_ite (ky_ite (ky_bindv (ky_st (RFX.rf _) (kx_f_X12_closeAll N σ ((σ.i 99) - 1))) (fun p13 => (ky_ite (ky_bind (kx_st (RFX.rf _) (kx_f_X12_isCaught N p13 ((σ.i 99) - 1))) (fun p20 => (ky_ite (ky_ite (ky_st (RFX.si (RFX.rf _) 99 ((p20.2.i 99) - 1) (by decide)) (hK (RS.setI p20.2 99 ((p20.2.i 99) - 1)))) (ky_bind (kx_st (RFX.rf _) (kx_f_X12_finals N p20.2 ((σ.i 99) - 1))) (fun p24 => (ky_ite (ky_st (RFX.si (RFX.rf _) 99 ((p24.2.i 99) - 1) (by decide)) (hK (RS.setI p24.2 99 ((p24.2.i 99) - 1)))) (ky_some (RFX.rf _)))))) (ky_some (RFX.rf _))))) (ky_ite (ky_st (RFX.si (RFX.rf _) 99 ((p13.i 99) - 1) (by decide)) (hK (RS.setI p13 99 ((p13.i 99) - 1)))) (ky_bind (kx_st (RFX.rf _) (kx_f_X12_finals N p13 ((σ.i 99) - 1))) (fun p17 => (ky_ite (ky_st (RFX.si (RFX.rf _) 99 ((p17.2.i 99) - 1) (by decide)) (hK (RS.setI p17.2 99 ((p17.2.i 99) - 1)))) (ky_some (RFX.rf _))))))))) (ky_ite (ky_st (RFX.si (RFX.rf _) 99 ((σ.i 99) - 1) (by decide)) (hK (RS.setI σ 99 ((σ.i 99) - 1)))) (ky_bind (kx_st (RFX.rf _) (kx_f_X12_finals N σ ((σ.i 99) - 1))) (fun p10 => (ky_ite (ky_st (RFX.si (RFX.rf _) 99 ((p10.2.i 99) - 1) (by decide)) (hK (RS.setI p10.2 99 ((p10.2.i 99) - 1)))) (ky_some (RFX.rf _))))))) (ky_st (RFX.si (RFX.rf _) 99 ((σ.i 99) - 1) (by decide)) (hK (RS.setI σ 99 ((σ.i 99) - 1))))))) ky_none)) (ky_ite (ky_ite (ky_ite (ky_bindv (ky_st (RFX.si (RFX.si (RFX.rf _) 99 ((σ.i 99) - 1) (by decide)) 93 (σ.a 104 ((((σ.i 99) - 1) : Int32).toNatClampNeg)) (by decide)) (kx_f_X12_put N (RS.setI (RS.setI σ 99 ((σ.i 99) - 1)) 93 (σ.a 104 ((((σ.i 99) - 1) : Int32).toNatClampNeg))) (σ.i 113))) (fun p64 => (ky_ite (ky_ite (ky_some (RFX.si (RFX.rf _) 92 (p64.a 23 (((p64.a 101 (((p64.i 99) : Int32).toNatClampNeg)) : Int32).toNatClampNeg)) (by decide))) ky_none) ky_none))) ky_none) (ky_ite (ky_ite (ky_bindv (ky_st (RFX.rf _) (kx_f_X12_row N σ 4 (σ.a 101 ((((σ.i 99) - 1) : Int32).toNatClampNeg)))) (fun p91 => (ky_ite (ky_st (RFX.si (RFX.sa (RFX.rf _) 91 (((p91.a 101 ((((σ.i 99) - 1) : Int32).toNatClampNeg)) : Int32).toNatClampNeg) ((p91.a 91 (((p91.a 101 ((((σ.i 99) - 1) : Int32).toNatClampNeg)) : Int32).toNatClampNeg)) - 1) (by decide)) 99 ((p91.i 99) - 1) (by decide)) (hK (RS.setI (RS.setA p91 91 (((p91.a 101 ((((σ.i 99) - 1) : Int32).toNatClampNeg)) : Int32).toNatClampNeg) ((p91.a 91 (((p91.a 101 ((((σ.i 99) - 1) : Int32).toNatClampNeg)) : Int32).toNatClampNeg)) - 1)) 99 ((p91.i 99) - 1)))) ky_none))) (ky_ite (ky_st (RFX.si (RFX.si (RFX.rf _) 97 (σ.a 101 ((((σ.i 99) - 1) : Int32).toNatClampNeg)) (by decide)) 99 ((σ.i 99) - 1) (by decide)) (hK (RS.setI (RS.setI σ 97 (σ.a 101 ((((σ.i 99) - 1) : Int32).toNatClampNeg))) 99 ((σ.i 99) - 1)))) (ky_ite (ky_ite (ky_bindv (ky_st (RFX.rf _) (kx_f_X12_closeAll N σ ((σ.i 99) - 1))) (fun p77 => (ky_ite (ky_bind (kx_st (RFX.rf _) (kx_f_X12_isCaught N p77 ((σ.i 99) - 1))) (fun p84 => (ky_ite (ky_ite (ky_st (RFX.si (RFX.rf _) 99 ((p84.2.i 99) - 1) (by decide)) (hK (RS.setI p84.2 99 ((p84.2.i 99) - 1)))) (ky_bind (kx_st (RFX.rf _) (kx_f_X12_finals N p84.2 ((σ.i 99) - 1))) (fun p88 => (ky_ite (ky_st (RFX.si (RFX.rf _) 99 ((p88.2.i 99) - 1) (by decide)) (hK (RS.setI p88.2 99 ((p88.2.i 99) - 1)))) (ky_some (RFX.rf _)))))) (ky_some (RFX.rf _))))) (ky_ite (ky_st (RFX.si (RFX.rf _) 99 ((p77.i 99) - 1) (by decide)) (hK (RS.setI p77 99 ((p77.i 99) - 1)))) (ky_bind (kx_st (RFX.rf _) (kx_f_X12_finals N p77 ((σ.i 99) - 1))) (fun p81 => (ky_ite (ky_st (RFX.si (RFX.rf _) 99 ((p81.2.i 99) - 1) (by decide)) (hK (RS.setI p81.2 99 ((p81.2.i 99) - 1)))) (ky_some (RFX.rf _))))))))) (ky_ite (ky_st (RFX.si (RFX.rf _) 99 ((σ.i 99) - 1) (by decide)) (hK (RS.setI σ 99 ((σ.i 99) - 1)))) (ky_bind (kx_st (RFX.rf _) (kx_f_X12_finals N σ ((σ.i 99) - 1))) (fun p74 => (ky_ite (ky_st (RFX.si (RFX.rf _) 99 ((p74.2.i 99) - 1) (by decide)) (hK (RS.setI p74.2 99 ((p74.2.i 99) - 1)))) (ky_some (RFX.rf _))))))) (ky_st (RFX.si (RFX.rf _) 99 ((σ.i 99) - 1) (by decide)) (hK (RS.setI σ 99 ((σ.i 99) - 1))))))) ky_none)) (ky_ite (ky_some (RFX.si (RFX.si (RFX.rf _) 115 (σ.i 110) (by decide)) 92 (-1) (by decide))) (ky_ite (ky_ite (ky_bindv (ky_st (RFX.rf _) (kx_f_X12_row N σ 4 (σ.a 101 ((((σ.i 99) - 1) : Int32).toNatClampNeg)))) (fun p57 => (ky_ite (ky_st (RFX.si (RFX.sa (RFX.rf _) 91 (((p57.a 101 ((((σ.i 99) - 1) : Int32).toNatClampNeg)) : Int32).toNatClampNeg) ((p57.a 91 (((p57.a 101 ((((σ.i 99) - 1) : Int32).toNatClampNeg)) : Int32).toNatClampNeg)) - 1) (by decide)) 99 ((p57.i 99) - 1) (by decide)) (hK (RS.setI (RS.setA p57 91 (((p57.a 101 ((((σ.i 99) - 1) : Int32).toNatClampNeg)) : Int32).toNatClampNeg) ((p57.a 91 (((p57.a 101 ((((σ.i 99) - 1) : Int32).toNatClampNeg)) : Int32).toNatClampNeg)) - 1)) 99 ((p57.i 99) - 1)))) ky_none))) (ky_ite (ky_st (RFX.si (RFX.si (RFX.rf _) 97 (σ.a 101 ((((σ.i 99) - 1) : Int32).toNatClampNeg)) (by decide)) 99 ((σ.i 99) - 1) (by decide)) (hK (RS.setI (RS.setI σ 97 (σ.a 101 ((((σ.i 99) - 1) : Int32).toNatClampNeg))) 99 ((σ.i 99) - 1)))) (ky_ite (ky_ite (ky_bindv (ky_st (RFX.rf _) (kx_f_X12_closeAll N σ ((σ.i 99) - 1))) (fun p43 => (ky_ite (ky_bind (kx_st (RFX.rf _) (kx_f_X12_isCaught N p43 ((σ.i 99) - 1))) (fun p50 => (ky_ite (ky_ite (ky_st (RFX.si (RFX.rf _) 99 ((p50.2.i 99) - 1) (by decide)) (hK (RS.setI p50.2 99 ((p50.2.i 99) - 1)))) (ky_bind (kx_st (RFX.rf _) (kx_f_X12_finals N p50.2 ((σ.i 99) - 1))) (fun p54 => (ky_ite (ky_st (RFX.si (RFX.rf _) 99 ((p54.2.i 99) - 1) (by decide)) (hK (RS.setI p54.2 99 ((p54.2.i 99) - 1)))) (ky_some (RFX.rf _)))))) (ky_some (RFX.rf _))))) (ky_ite (ky_st (RFX.si (RFX.rf _) 99 ((p43.i 99) - 1) (by decide)) (hK (RS.setI p43 99 ((p43.i 99) - 1)))) (ky_bind (kx_st (RFX.rf _) (kx_f_X12_finals N p43 ((σ.i 99) - 1))) (fun p47 => (ky_ite (ky_st (RFX.si (RFX.rf _) 99 ((p47.2.i 99) - 1) (by decide)) (hK (RS.setI p47.2 99 ((p47.2.i 99) - 1)))) (ky_some (RFX.rf _))))))))) (ky_ite (ky_st (RFX.si (RFX.rf _) 99 ((σ.i 99) - 1) (by decide)) (hK (RS.setI σ 99 ((σ.i 99) - 1)))) (ky_bind (kx_st (RFX.rf _) (kx_f_X12_finals N σ ((σ.i 99) - 1))) (fun p40 => (ky_ite (ky_st (RFX.si (RFX.rf _) 99 ((p40.2.i 99) - 1) (by decide)) (hK (RS.setI p40.2 99 ((p40.2.i 99) - 1)))) (ky_some (RFX.rf _))))))) (ky_st (RFX.si (RFX.rf _) 99 ((σ.i 99) - 1) (by decide)) (hK (RS.setI σ 99 ((σ.i 99) - 1))))))) ky_none))))
theorem kx_f_X12_leave_0 (N : Nat) : ∀ (n : Nat) (σ : RS), KY σ (f_X12_leave_0 N n σ )
  | 0, _ => ky_none
  | n+1, σ => kx_b_X12_leave_0 N (f_X12_leave_0 N n) (fun σ => kx_f_X12_leave_0 N n σ) σ
theorem kx_f_X12_leave (N : Nat) (σ : RS) : KY σ (f_X12_leave N σ) := by
  unfold f_X12_leave
  exact (ky_st (RFX.rf _) (kx_f_X12_leave_0 N N σ))
theorem kx_f_X12_step (N : Nat) (σ : RS) : KY σ (f_X12_step N σ) := by
  unfold f_X12_step
  exact (ky_ite (ky_some (RFX.si (RFX.si (RFX.rf _) 115 5 (by decide)) 92 (-1) (by decide))) (ky_some (RFX.si (RFX.rf _) 80 ((σ.i 80) + 1) (by decide))))
theorem kx_f_X12_compute (N : Nat) (σ : RS) (x1 : Int32) (x2 : Int32) (x3 : Int32) : KX σ (f_X12_compute N σ x1 x2 x3) := by
  unfold f_X12_compute
  exact (kx_ite (kx_ite kx_none (kx_some (RFX.rf _))) (kx_ite (kx_some (RFX.rf _)) (kx_ite (kx_some (RFX.rf _)) (kx_ite (kx_some (RFX.rf _)) (kx_ite (kx_ite kx_none (kx_some (RFX.rf _))) (kx_ite (kx_ite (kx_some (RFX.rf _)) (kx_some (RFX.rf _))) (kx_ite (kx_ite (kx_some (RFX.rf _)) (kx_some (RFX.rf _))) (kx_ite (kx_ite (kx_some (RFX.rf _)) (kx_some (RFX.rf _))) (kx_ite (kx_ite (kx_some (RFX.rf _)) (kx_some (RFX.rf _))) (kx_ite (kx_ite (kx_some (RFX.rf _)) (kx_some (RFX.rf _))) (kx_ite (kx_some (RFX.rf _)) (kx_some (RFX.rf _)))))))))))))
theorem kx_b_X12_caseOf_5 (N : Nat) (K : RS → Int32 → Int32 → Int32 → Option (Int32 × RS)) (hK : ∀ (σ : RS) (y0 : Int32) (y1 : Int32) (y2 : Int32), KX σ (K σ y0 y1 y2)) (σ : RS) (x2 : Int32) (x3 : Int32) (x4 : Int32) : KX σ (b_X12_caseOf_5 N K σ x2 x3 x4) := by
  unfold b_X12_caseOf_5
  exact (kx_ite (kx_some (RFX.rf _)) (kx_ite (kx_ite (kx_ite (kx_some (RFX.rf _)) (kx_st (RFX.rf _) (hK σ x2 x3 (σ.a 27 ((x4 : Int32).toNatClampNeg))))) (kx_st (RFX.rf _) (hK σ x2 x4 (σ.a 27 ((x4 : Int32).toNatClampNeg))))) kx_none))
theorem kx_f_X12_caseOf_5 (N : Nat) : ∀ (n : Nat) (σ : RS) (y0 : Int32) (y1 : Int32) (y2 : Int32), KX σ (f_X12_caseOf_5 N n σ y0 y1 y2)
  | 0, _, _, _, _ => kx_none
  | n+1, σ, y0, y1, y2 => kx_b_X12_caseOf_5 N (f_X12_caseOf_5 N n) (fun σ y0 y1 y2 => kx_f_X12_caseOf_5 N n σ y0 y1 y2) σ y0 y1 y2
theorem kx_f_X12_caseOf (N : Nat) (σ : RS) (x1 : Int32) (x2 : Int32) : KX σ (f_X12_caseOf N σ x1 x2) := by
  unfold f_X12_caseOf
  exact (kx_st (RFX.rf _) (kx_f_X12_caseOf_5 N N σ x2 (-1) x1))
theorem kx_f_X12_goOn (N : Nat) (σ : RS) (x1 : Int32) : KY σ (f_X12_goOn N σ x1) := by
  unfold f_X12_goOn
  exact (ky_bind (kx_st (RFX.rf _) (kx_f_X12_finals N σ x1)) (fun p1 => (ky_ite (ky_ite (ky_ite (ky_some (RFX.si (RFX.si (RFX.rf _) 99 ((p1.2.i 99) - 1) (by decide)) 92 (p1.2.a 32 (((p1.2.a 101 ((x1 : Int32).toNatClampNeg)) : Int32).toNatClampNeg)) (by decide))) ky_none) ky_none) (ky_some (RFX.rf _)))))
theorem kx_b_X12_others_85 (N : Nat) (K : RS → Int32 → Int32 → Int32 → Option (RS)) (hK : ∀ (σ : RS) (y0 : Int32) (y1 : Int32) (y2 : Int32), KY σ (K σ y0 y1 y2)) (σ : RS) (x2 : Int32) (x4 : Int32) (x5 : Int32) : KY σ (b_X12_others_85 N K σ x2 x4 x5) := by
  unfold b_X12_others_85
  exact (ky_ite (ky_bind (kx_st (RFX.si (RFX.rf _) 93 ((σ.i 93) - x2) (by decide)) (kx_f_X12_record N (RS.setI σ 93 ((σ.i 93) - x2)) 2 x4 x4 (σ.i 97))) (fun p4 => (ky_some (RFX.rf _)))) (ky_ite (ky_ite (ky_st (RFX.si (RFX.sa (RFX.rf _) 98 (((σ.i 97) : Int32).toNatClampNeg) (σ.a 94 (((((σ.i 93) - x2) + x5) : Int32).toNatClampNeg)) (by decide)) 97 ((σ.i 97) + 1) (by decide)) (hK (RS.setI (RS.setA σ 98 (((σ.i 97) : Int32).toNatClampNeg) (σ.a 94 (((((σ.i 93) - x2) + x5) : Int32).toNatClampNeg))) 97 ((σ.i 97) + 1)) x2 x4 (x5 + 1))) ky_none) ky_none))
theorem kx_f_X12_others_85 (N : Nat) : ∀ (n : Nat) (σ : RS) (y0 : Int32) (y1 : Int32) (y2 : Int32), KY σ (f_X12_others_85 N n σ y0 y1 y2)
  | 0, _, _, _, _ => ky_none
  | n+1, σ, y0, y1, y2 => kx_b_X12_others_85 N (f_X12_others_85 N n) (fun σ y0 y1 y2 => kx_f_X12_others_85 N n σ y0 y1 y2) σ y0 y1 y2
theorem kx_f_X12_others (N : Nat) (σ : RS) (x1 : Int32) (x2 : Int32) : KY σ (f_X12_others N σ x1 x2) := by
  unfold f_X12_others
  exact (ky_ite (ky_ite (ky_st (RFX.rf _) (kx_f_X12_others_85 N N σ x2 (σ.i 97) 0)) (ky_ite (ky_ite (ky_ite (ky_some (RFX.si (RFX.rf _) 92 x2 (by decide))) (ky_bindv (ky_st (RFX.rf _) (kx_f_X12_step N σ)) (fun p11 => (ky_ite (ky_ite (ky_some (RFX.sa (RFX.sa (RFX.rf _) 84 (((p11.a 23 ((x1 : Int32).toNatClampNeg)) : Int32).toNatClampNeg) (p11.a 98 (((p11.a 102 ((((σ.i 99) - 1) : Int32).toNatClampNeg)) : Int32).toNatClampNeg)) (by decide)) 102 ((((σ.i 99) - 1) : Int32).toNatClampNeg) ((p11.a 102 ((((σ.i 99) - 1) : Int32).toNatClampNeg)) + 1) (by decide))) ky_none) ky_none)))) ky_none) (ky_ite (ky_ite (ky_some (RFX.si (RFX.si (RFX.rf _) 97 (σ.a 101 ((((σ.i 99) - 1) : Int32).toNatClampNeg)) (by decide)) 99 ((σ.i 99) - 1) (by decide))) ky_none) (ky_ite (ky_ite (ky_ite (ky_some (RFX.si (RFX.si (RFX.si (RFX.si (RFX.si (RFX.si (RFX.rf _) 110 (σ.a 105 ((((σ.i 99) - 1) : Int32).toNatClampNeg)) (by decide)) 111 (σ.a 106 ((((σ.i 99) - 1) : Int32).toNatClampNeg)) (by decide)) 112 (σ.a 107 ((((σ.i 99) - 1) : Int32).toNatClampNeg)) (by decide)) 113 (σ.a 108 ((((σ.i 99) - 1) : Int32).toNatClampNeg)) (by decide)) 114 (σ.a 109 ((((σ.i 99) - 1) : Int32).toNatClampNeg)) (by decide)) 99 ((σ.i 99) - 1) (by decide))) (ky_bindv (ky_st (RFX.si (RFX.si (RFX.si (RFX.si (RFX.si (RFX.si (RFX.rf _) 110 (σ.a 105 ((((σ.i 99) - 1) : Int32).toNatClampNeg)) (by decide)) 111 (σ.a 106 ((((σ.i 99) - 1) : Int32).toNatClampNeg)) (by decide)) 112 (σ.a 107 ((((σ.i 99) - 1) : Int32).toNatClampNeg)) (by decide)) 113 (σ.a 108 ((((σ.i 99) - 1) : Int32).toNatClampNeg)) (by decide)) 114 (σ.a 109 ((((σ.i 99) - 1) : Int32).toNatClampNeg)) (by decide)) 99 ((σ.i 99) - 1) (by decide)) (kx_f_X12_leave N (RS.setI (RS.setI (RS.setI (RS.setI (RS.setI (RS.setI σ 110 (σ.a 105 ((((σ.i 99) - 1) : Int32).toNatClampNeg))) 111 (σ.a 106 ((((σ.i 99) - 1) : Int32).toNatClampNeg))) 112 (σ.a 107 ((((σ.i 99) - 1) : Int32).toNatClampNeg))) 113 (σ.a 108 ((((σ.i 99) - 1) : Int32).toNatClampNeg))) 114 (σ.a 109 ((((σ.i 99) - 1) : Int32).toNatClampNeg))) 99 ((σ.i 99) - 1)))) (fun p20 => (ky_some (RFX.rf _))))) ky_none) (ky_ite (ky_ite (ky_ite (ky_some (RFX.si (RFX.si (RFX.si (RFX.si (RFX.si (RFX.si (RFX.rf _) 110 (σ.a 105 ((((σ.i 99) - 1) : Int32).toNatClampNeg)) (by decide)) 111 (σ.a 106 ((((σ.i 99) - 1) : Int32).toNatClampNeg)) (by decide)) 112 (σ.a 107 ((((σ.i 99) - 1) : Int32).toNatClampNeg)) (by decide)) 113 (σ.a 108 ((((σ.i 99) - 1) : Int32).toNatClampNeg)) (by decide)) 114 (σ.a 109 ((((σ.i 99) - 1) : Int32).toNatClampNeg)) (by decide)) 99 ((σ.i 99) - 1) (by decide))) (ky_bindv (ky_st (RFX.si (RFX.si (RFX.si (RFX.si (RFX.si (RFX.si (RFX.rf _) 110 (σ.a 105 ((((σ.i 99) - 1) : Int32).toNatClampNeg)) (by decide)) 111 (σ.a 106 ((((σ.i 99) - 1) : Int32).toNatClampNeg)) (by decide)) 112 (σ.a 107 ((((σ.i 99) - 1) : Int32).toNatClampNeg)) (by decide)) 113 (σ.a 108 ((((σ.i 99) - 1) : Int32).toNatClampNeg)) (by decide)) 114 (σ.a 109 ((((σ.i 99) - 1) : Int32).toNatClampNeg)) (by decide)) 99 ((σ.i 99) - 1) (by decide)) (kx_f_X12_leave N (RS.setI (RS.setI (RS.setI (RS.setI (RS.setI (RS.setI σ 110 (σ.a 105 ((((σ.i 99) - 1) : Int32).toNatClampNeg))) 111 (σ.a 106 ((((σ.i 99) - 1) : Int32).toNatClampNeg))) 112 (σ.a 107 ((((σ.i 99) - 1) : Int32).toNatClampNeg))) 113 (σ.a 108 ((((σ.i 99) - 1) : Int32).toNatClampNeg))) 114 (σ.a 109 ((((σ.i 99) - 1) : Int32).toNatClampNeg))) 99 ((σ.i 99) - 1)))) (fun p25 => (ky_some (RFX.rf _))))) ky_none) (ky_ite (ky_ite (ky_ite (ky_some (RFX.si (RFX.si (RFX.si (RFX.si (RFX.si (RFX.si (RFX.rf _) 110 (σ.a 105 ((((σ.i 99) - 1) : Int32).toNatClampNeg)) (by decide)) 111 (σ.a 106 ((((σ.i 99) - 1) : Int32).toNatClampNeg)) (by decide)) 112 (σ.a 107 ((((σ.i 99) - 1) : Int32).toNatClampNeg)) (by decide)) 113 (σ.a 108 ((((σ.i 99) - 1) : Int32).toNatClampNeg)) (by decide)) 114 (σ.a 109 ((((σ.i 99) - 1) : Int32).toNatClampNeg)) (by decide)) 99 ((σ.i 99) - 1) (by decide))) (ky_bindv (ky_st (RFX.si (RFX.si (RFX.si (RFX.si (RFX.si (RFX.si (RFX.rf _) 110 (σ.a 105 ((((σ.i 99) - 1) : Int32).toNatClampNeg)) (by decide)) 111 (σ.a 106 ((((σ.i 99) - 1) : Int32).toNatClampNeg)) (by decide)) 112 (σ.a 107 ((((σ.i 99) - 1) : Int32).toNatClampNeg)) (by decide)) 113 (σ.a 108 ((((σ.i 99) - 1) : Int32).toNatClampNeg)) (by decide)) 114 (σ.a 109 ((((σ.i 99) - 1) : Int32).toNatClampNeg)) (by decide)) 99 ((σ.i 99) - 1) (by decide)) (kx_f_X12_leave N (RS.setI (RS.setI (RS.setI (RS.setI (RS.setI (RS.setI σ 110 (σ.a 105 ((((σ.i 99) - 1) : Int32).toNatClampNeg))) 111 (σ.a 106 ((((σ.i 99) - 1) : Int32).toNatClampNeg))) 112 (σ.a 107 ((((σ.i 99) - 1) : Int32).toNatClampNeg))) 113 (σ.a 108 ((((σ.i 99) - 1) : Int32).toNatClampNeg))) 114 (σ.a 109 ((((σ.i 99) - 1) : Int32).toNatClampNeg))) 99 ((σ.i 99) - 1)))) (fun p30 => (ky_some (RFX.rf _))))) ky_none) (ky_ite (ky_ite (ky_ite (ky_some (RFX.si (RFX.si (RFX.si (RFX.si (RFX.si (RFX.si (RFX.rf _) 110 (σ.a 105 ((((σ.i 99) - 1) : Int32).toNatClampNeg)) (by decide)) 111 (σ.a 106 ((((σ.i 99) - 1) : Int32).toNatClampNeg)) (by decide)) 112 (σ.a 107 ((((σ.i 99) - 1) : Int32).toNatClampNeg)) (by decide)) 113 (σ.a 108 ((((σ.i 99) - 1) : Int32).toNatClampNeg)) (by decide)) 114 (σ.a 109 ((((σ.i 99) - 1) : Int32).toNatClampNeg)) (by decide)) 99 ((σ.i 99) - 1) (by decide))) (ky_bindv (ky_st (RFX.si (RFX.si (RFX.si (RFX.si (RFX.si (RFX.si (RFX.rf _) 110 (σ.a 105 ((((σ.i 99) - 1) : Int32).toNatClampNeg)) (by decide)) 111 (σ.a 106 ((((σ.i 99) - 1) : Int32).toNatClampNeg)) (by decide)) 112 (σ.a 107 ((((σ.i 99) - 1) : Int32).toNatClampNeg)) (by decide)) 113 (σ.a 108 ((((σ.i 99) - 1) : Int32).toNatClampNeg)) (by decide)) 114 (σ.a 109 ((((σ.i 99) - 1) : Int32).toNatClampNeg)) (by decide)) 99 ((σ.i 99) - 1) (by decide)) (kx_f_X12_leave N (RS.setI (RS.setI (RS.setI (RS.setI (RS.setI (RS.setI σ 110 (σ.a 105 ((((σ.i 99) - 1) : Int32).toNatClampNeg))) 111 (σ.a 106 ((((σ.i 99) - 1) : Int32).toNatClampNeg))) 112 (σ.a 107 ((((σ.i 99) - 1) : Int32).toNatClampNeg))) 113 (σ.a 108 ((((σ.i 99) - 1) : Int32).toNatClampNeg))) 114 (σ.a 109 ((((σ.i 99) - 1) : Int32).toNatClampNeg))) 99 ((σ.i 99) - 1)))) (fun p35 => (ky_some (RFX.rf _))))) ky_none) (ky_ite (ky_ite (ky_ite (ky_some (RFX.si (RFX.si (RFX.si (RFX.si (RFX.si (RFX.si (RFX.rf _) 110 (σ.a 105 ((((σ.i 99) - 1) : Int32).toNatClampNeg)) (by decide)) 111 (σ.a 106 ((((σ.i 99) - 1) : Int32).toNatClampNeg)) (by decide)) 112 (σ.a 107 ((((σ.i 99) - 1) : Int32).toNatClampNeg)) (by decide)) 113 (σ.a 108 ((((σ.i 99) - 1) : Int32).toNatClampNeg)) (by decide)) 114 (σ.a 109 ((((σ.i 99) - 1) : Int32).toNatClampNeg)) (by decide)) 99 ((σ.i 99) - 1) (by decide))) (ky_bindv (ky_st (RFX.si (RFX.si (RFX.si (RFX.si (RFX.si (RFX.si (RFX.rf _) 110 (σ.a 105 ((((σ.i 99) - 1) : Int32).toNatClampNeg)) (by decide)) 111 (σ.a 106 ((((σ.i 99) - 1) : Int32).toNatClampNeg)) (by decide)) 112 (σ.a 107 ((((σ.i 99) - 1) : Int32).toNatClampNeg)) (by decide)) 113 (σ.a 108 ((((σ.i 99) - 1) : Int32).toNatClampNeg)) (by decide)) 114 (σ.a 109 ((((σ.i 99) - 1) : Int32).toNatClampNeg)) (by decide)) 99 ((σ.i 99) - 1) (by decide)) (kx_f_X12_leave N (RS.setI (RS.setI (RS.setI (RS.setI (RS.setI (RS.setI σ 110 (σ.a 105 ((((σ.i 99) - 1) : Int32).toNatClampNeg))) 111 (σ.a 106 ((((σ.i 99) - 1) : Int32).toNatClampNeg))) 112 (σ.a 107 ((((σ.i 99) - 1) : Int32).toNatClampNeg))) 113 (σ.a 108 ((((σ.i 99) - 1) : Int32).toNatClampNeg))) 114 (σ.a 109 ((((σ.i 99) - 1) : Int32).toNatClampNeg))) 99 ((σ.i 99) - 1)))) (fun p40 => (ky_some (RFX.rf _))))) ky_none) (ky_ite (ky_bind (kx_st (RFX.rf _) (kx_f_X12_record N σ 4 x2 0 (σ.i 95))) (fun p43 => (ky_some (RFX.rf _)))) (ky_ite (ky_ite (ky_ite (ky_ite (ky_bindv (ky_st (RFX.rf _) (kx_f_X12_row N σ 1 x2)) (fun p49 => (ky_ite (ky_some (RFX.si (RFX.sa (RFX.rf _) 96 (((p49.i 95) : Int32).toNatClampNeg) x2 (by decide)) 95 ((p49.i 95) + 1) (by decide))) ky_none))) (ky_some (RFX.rf _))) (ky_bindv (ky_st (RFX.rf _) (kx_f_X12_raise N σ ((σ.a 6 ((x2 : Int32).toNatClampNeg)) - 1) x2)) (fun p52 => (ky_bindv (ky_st (RFX.rf _) (kx_f_X12_leave N p52)) (fun p54 => (ky_some (RFX.rf _))))))) ky_none) (ky_ite (ky_bindv (ky_st (RFX.si (RFX.rf _) 110 0 (by decide)) (kx_f_X12_closeAll N (RS.setI σ 110 0) ((σ.i 99) - 1))) (fun p57 => (ky_ite (ky_bindv (ky_st (RFX.rf _) (kx_f_X12_leave N p57)) (fun p62 => (ky_some (RFX.rf _)))) (ky_bindv (ky_st (RFX.rf _) (kx_f_X12_goOn N p57 ((σ.i 99) - 1))) (fun p60 => (ky_some (RFX.rf _))))))) (ky_ite (ky_bindv (ky_st (RFX.si (RFX.rf _) 110 0 (by decide)) (kx_f_X12_goOn N (RS.setI σ 110 0) ((σ.i 99) - 1))) (fun p65 => (ky_some (RFX.rf _)))) (ky_ite (ky_ite (ky_some (RFX.si (RFX.si (RFX.si (RFX.si (RFX.si (RFX.si (RFX.rf _) 110 (σ.a 105 ((((σ.i 99) - 1) : Int32).toNatClampNeg)) (by decide)) 111 (σ.a 106 ((((σ.i 99) - 1) : Int32).toNatClampNeg)) (by decide)) 112 (σ.a 107 ((((σ.i 99) - 1) : Int32).toNatClampNeg)) (by decide)) 113 (σ.a 108 ((((σ.i 99) - 1) : Int32).toNatClampNeg)) (by decide)) 114 (σ.a 109 ((((σ.i 99) - 1) : Int32).toNatClampNeg)) (by decide)) 99 ((σ.i 99) - 1) (by decide))) (ky_bindv (ky_st (RFX.si (RFX.si (RFX.si (RFX.si (RFX.si (RFX.si (RFX.rf _) 110 (σ.a 105 ((((σ.i 99) - 1) : Int32).toNatClampNeg)) (by decide)) 111 (σ.a 106 ((((σ.i 99) - 1) : Int32).toNatClampNeg)) (by decide)) 112 (σ.a 107 ((((σ.i 99) - 1) : Int32).toNatClampNeg)) (by decide)) 113 (σ.a 108 ((((σ.i 99) - 1) : Int32).toNatClampNeg)) (by decide)) 114 (σ.a 109 ((((σ.i 99) - 1) : Int32).toNatClampNeg)) (by decide)) 99 ((σ.i 99) - 1) (by decide)) (kx_f_X12_leave N (RS.setI (RS.setI (RS.setI (RS.setI (RS.setI (RS.setI σ 110 (σ.a 105 ((((σ.i 99) - 1) : Int32).toNatClampNeg))) 111 (σ.a 106 ((((σ.i 99) - 1) : Int32).toNatClampNeg))) 112 (σ.a 107 ((((σ.i 99) - 1) : Int32).toNatClampNeg))) 113 (σ.a 108 ((((σ.i 99) - 1) : Int32).toNatClampNeg))) 114 (σ.a 109 ((((σ.i 99) - 1) : Int32).toNatClampNeg))) 99 ((σ.i 99) - 1)))) (fun p69 => (ky_some (RFX.rf _))))) ky_none))))))))))))) ky_none)
theorem kx_f_X12_ends_128 (N : Nat) (σ : RS) (x1 : Int32) : KY σ (f_X12_ends_128 N σ x1) := by
  unfold f_X12_ends_128
  exact (ky_ite (ky_bindv (ky_st (RFX.si (RFX.rf _) 112 (σ.a 23 ((x1 : Int32).toNatClampNeg)) (by decide)) (kx_f_X12_leave N (RS.setI σ 112 (σ.a 23 ((x1 : Int32).toNatClampNeg))))) (fun p7 => (ky_some (RFX.rf _)))) ky_none)
theorem kx_f_X12_ends_242 (N : Nat) (σ : RS) : KY σ (f_X12_ends_242 N σ) := by
  unfold f_X12_ends_242
  exact (ky_some (RFX.rf _))
theorem kx_f_X12_ends_351 (N : Nat) (σ : RS) : KY σ (f_X12_ends_351 N σ) := by
  unfold f_X12_ends_351
  exact (ky_some (RFX.rf _))
theorem kx_f_X12_ends (N : Nat) (σ : RS) (x1 : Int32) (x2 : Int32) : KY σ (f_X12_ends N σ x1 x2) := by
  unfold f_X12_ends
  exact (ky_ite (ky_ite (ky_bind (kx_st (RFX.rf _) (kx_f_X12_take N σ)) (fun p3 => (ky_ite (ky_st (RFX.si (RFX.si (RFX.rf _) 113 p3.1 (by decide)) 110 2 (by decide)) (kx_f_X12_ends_128 N (RS.setI (RS.setI p3.2 113 p3.1) 110 2) x1)) (ky_st (RFX.si (RFX.si (RFX.rf _) 113 p3.1 (by decide)) 110 4 (by decide)) (kx_f_X12_ends_128 N (RS.setI (RS.setI p3.2 113 p3.1) 110 4) x1))))) (ky_ite (ky_bind (kx_st (RFX.rf _) (kx_f_X12_take N σ)) (fun p10 => (ky_ite (ky_st (RFX.si (RFX.si (RFX.rf _) 113 p10.1 (by decide)) 110 2 (by decide)) (kx_f_X12_ends_128 N (RS.setI (RS.setI p10.2 113 p10.1) 110 2) x1)) (ky_st (RFX.si (RFX.si (RFX.rf _) 113 p10.1 (by decide)) 110 4 (by decide)) (kx_f_X12_ends_128 N (RS.setI (RS.setI p10.2 113 p10.1) 110 4) x1))))) (ky_ite (ky_bind (kx_st (RFX.rf _) (kx_f_X12_take N σ)) (fun p14 => (ky_bindv (ky_st (RFX.rf _) (kx_f_X12_raise N p14.2 x2 p14.1)) (fun p16 => (ky_bindv (ky_st (RFX.rf _) (kx_f_X12_leave N p16)) (fun p18 => (ky_some (RFX.rf _)))))))) (ky_ite (ky_bindv (ky_st (RFX.rf _) (kx_f_X12_raise N σ x2 0)) (fun p21 => (ky_bindv (ky_st (RFX.rf _) (kx_f_X12_leave N p21)) (fun p23 => (ky_some (RFX.rf _)))))) (ky_ite (ky_ite (ky_bindv (ky_st (RFX.si (RFX.si (RFX.rf _) 114 (σ.a 84 ((x2 : Int32).toNatClampNeg)) (by decide)) 110 3 (by decide)) (kx_f_X12_leave N (RS.setI (RS.setI σ 114 (σ.a 84 ((x2 : Int32).toNatClampNeg))) 110 3))) (fun p27 => (ky_some (RFX.rf _)))) ky_none) (ky_ite (ky_ite (ky_st (RFX.si (RFX.rf _) 92 x2 (by decide)) (kx_f_X12_ends_242 N (RS.setI σ 92 x2))) (ky_st (RFX.si (RFX.rf _) 92 (σ.i 92) (by decide)) (kx_f_X12_ends_242 N (RS.setI σ 92 (σ.i 92))))) (ky_ite (ky_bindv (ky_st (RFX.rf _) (kx_f_X12_others N σ x1 x2)) (fun p32 => (ky_some (RFX.rf _)))) (ky_ite (ky_bindv (ky_st (RFX.rf _) (kx_f_X12_others N σ x1 x2)) (fun p35 => (ky_some (RFX.rf _)))) (ky_ite (ky_bindv (ky_st (RFX.rf _) (kx_f_X12_others N σ x1 x2)) (fun p38 => (ky_some (RFX.rf _)))) (ky_ite (ky_bindv (ky_st (RFX.rf _) (kx_f_X12_row N σ 3 x2)) (fun p41 => (ky_ite (ky_bind (kx_st (RFX.sa (RFX.rf _) 91 ((x2 : Int32).toNatClampNeg) ((p41.a 91 ((x2 : Int32).toNatClampNeg)) + 1) (by decide)) (kx_f_X12_record N (RS.setA p41 91 ((x2 : Int32).toNatClampNeg) ((p41.a 91 ((x2 : Int32).toNatClampNeg)) + 1)) 1 x2 0 0)) (fun p44 => (ky_some (RFX.rf _)))) ky_none))) (ky_ite (ky_ite (ky_bindv (ky_st (RFX.si (RFX.rf _) 99 ((σ.i 99) - 1) (by decide)) (kx_f_X12_row N (RS.setI σ 99 ((σ.i 99) - 1)) 4 (σ.a 101 ((((σ.i 99) - 1) : Int32).toNatClampNeg)))) (fun p48 => (ky_ite (ky_ite (ky_some (RFX.sa (RFX.rf _) 91 (((p48.a 101 (((p48.i 99) : Int32).toNatClampNeg)) : Int32).toNatClampNeg) ((p48.a 91 (((p48.a 101 (((p48.i 99) : Int32).toNatClampNeg)) : Int32).toNatClampNeg)) - 1) (by decide))) ky_none) ky_none))) ky_none) (ky_ite (ky_bind (kx_st (RFX.rf _) (kx_f_X12_take N σ)) (fun p53 => (ky_bind (kx_st (RFX.rf _) (kx_f_X12_caseOf N p53.2 x2 p53.1)) (fun p55 => (ky_ite (ky_ite (ky_st (RFX.si (RFX.rf _) 92 (p55.2.a 26 ((p55.1 : Int32).toNatClampNeg)) (by decide)) (kx_f_X12_ends_351 N (RS.setI p55.2 92 (p55.2.a 26 ((p55.1 : Int32).toNatClampNeg))))) ky_none) (ky_st (RFX.si (RFX.rf _) 92 (p55.2.a 23 ((x1 : Int32).toNatClampNeg)) (by decide)) (kx_f_X12_ends_351 N (RS.setI p55.2 92 (p55.2.a 23 ((x1 : Int32).toNatClampNeg)))))))))) (ky_ite (ky_bind (kx_st (RFX.rf _) (kx_f_X12_take N σ)) (fun p60 => (ky_bind (kx_st (RFX.rf _) (kx_f_X12_caseOf N p60.2 x2 p60.1)) (fun p62 => (ky_bind (kx_st (RFX.rf _) (kx_f_X12_record N p62.2 3 x1 0 0)) (fun p64 => (ky_ite (ky_some (RFX.si (RFX.rf _) 92 (p64.2.a 26 ((p62.1 : Int32).toNatClampNeg)) (by decide))) ky_none))))))) (ky_ite (ky_ite (ky_ite (ky_some (RFX.si (RFX.si (RFX.rf _) 99 ((σ.i 99) - 1) (by decide)) 92 (σ.a 23 (((σ.a 101 ((((σ.i 99) - 1) : Int32).toNatClampNeg)) : Int32).toNatClampNeg)) (by decide))) ky_none) ky_none) (ky_ite (ky_bindv (ky_st (RFX.rf _) (kx_f_X12_others N σ x1 x2)) (fun p71 => (ky_some (RFX.rf _)))) (ky_ite (ky_bindv (ky_st (RFX.rf _) (kx_f_X12_others N σ x1 x2)) (fun p74 => (ky_some (RFX.rf _)))) (ky_ite (ky_bindv (ky_st (RFX.rf _) (kx_f_X12_others N σ x1 x2)) (fun p77 => (ky_some (RFX.rf _)))) (ky_ite (ky_bindv (ky_st (RFX.rf _) (kx_f_X12_others N σ x1 x2)) (fun p80 => (ky_some (RFX.rf _)))) (ky_ite (ky_bindv (ky_st (RFX.rf _) (kx_f_X12_others N σ x1 x2)) (fun p83 => (ky_some (RFX.rf _)))) (ky_ite (ky_bindv (ky_st (RFX.si (RFX.si (RFX.si (RFX.rf _) 110 1 (by decide)) 111 x2 (by decide)) 112 (σ.a 23 ((x1 : Int32).toNatClampNeg)) (by decide)) (kx_f_X12_leave N (RS.setI (RS.setI (RS.setI σ 110 1) 111 x2) 112 (σ.a 23 ((x1 : Int32).toNatClampNeg))))) (fun p86 => (ky_some (RFX.rf _)))) (ky_bindv (ky_st (RFX.rf _) (kx_f_X12_others N σ x1 x2)) (fun p88 => (ky_some (RFX.rf _)))))))))))))))))))))))) ky_none)
theorem kx_f_X12_act_229 (N : Nat) (σ : RS) (x2 : Int32) (x3 : Int32) (x4 : Int32) : KY σ (f_X12_act_229 N σ x2 x3 x4) := by
  unfold f_X12_act_229
  exact (ky_bind (kx_st (RFX.rf _) (kx_f_X12_compute N σ x2 x4 x3)) (fun p35 => (ky_bindv (ky_st (RFX.rf _) (kx_f_X12_put N p35.2 p35.1)) (fun p37 => (ky_some (RFX.rf _))))))
theorem kx_f_X12_act_212 (N : Nat) (σ : RS) (x2 : Int32) (x3 : Int32) (x4 : Int32) : KY σ (f_X12_act_212 N σ x2 x3 x4) := by
  unfold f_X12_act_212
  exact (ky_ite (ky_bindv (ky_st (RFX.rf _) (kx_f_X12_raise N σ 2 0)) (fun p39 => (ky_bindv (ky_st (RFX.rf _) (kx_f_X12_leave N p39)) (fun p41 => (ky_some (RFX.rf _)))))) (ky_st (RFX.rf _) (kx_f_X12_act_229 N σ x2 x3 x4)))
theorem kx_f_X12_act_290 (N : Nat) (σ : RS) : KY σ (f_X12_act_290 N σ) := by
  unfold f_X12_act_290
  exact (ky_some (RFX.si (RFX.rf _) 93 ((σ.i 93) - 1) (by decide)))
theorem kx_f_X12_act_282 (N : Nat) (σ : RS) (x2 : Int32) : KY σ (f_X12_act_282 N σ x2) := by
  unfold f_X12_act_282
  exact (ky_some (RFX.si (RFX.rf _) 92 x2 (by decide)))
theorem kx_f_X12_act_322 (N : Nat) (σ : RS) : KY σ (f_X12_act_322 N σ) := by
  unfold f_X12_act_322
  exact (ky_some (RFX.rf _))
theorem kx_f_X12_act_344 (N : Nat) (σ : RS) : KY σ (f_X12_act_344 N σ) := by
  unfold f_X12_act_344
  exact (ky_some (RFX.rf _))
theorem kx_f_X12_act (N : Nat) (σ : RS) (x1 : Int32) : KY σ (f_X12_act N σ x1) := by
  unfold f_X12_act
  exact (ky_ite (ky_ite (ky_bindv (ky_st (RFX.rf _) (kx_f_X12_step N σ)) (fun p3 => (ky_some (RFX.rf _)))) (ky_ite (ky_bindv (ky_st (RFX.rf _) (kx_f_X12_put N σ (σ.a 22 ((x1 : Int32).toNatClampNeg)))) (fun p6 => (ky_some (RFX.rf _)))) (ky_ite (ky_ite (ky_bindv (ky_st (RFX.rf _) (kx_f_X12_put N σ (σ.a 84 (((σ.a 22 ((x1 : Int32).toNatClampNeg)) : Int32).toNatClampNeg)))) (fun p10 => (ky_some (RFX.rf _)))) ky_none) (ky_ite (ky_ite (ky_ite (ky_bindv (ky_st (RFX.rf _) (kx_f_X12_put N σ (σ.a 87 (((σ.a 84 (((σ.a 22 ((x1 : Int32).toNatClampNeg)) : Int32).toNatClampNeg)) : Int32).toNatClampNeg)))) (fun p15 => (ky_some (RFX.rf _)))) ky_none) ky_none) (ky_ite (ky_bind (kx_st (RFX.rf _) (kx_f_X12_take N σ)) (fun p18 => (ky_ite (ky_some (RFX.sa (RFX.rf _) 84 (((σ.a 22 ((x1 : Int32).toNatClampNeg)) : Int32).toNatClampNeg) p18.1 (by decide))) ky_none))) (ky_ite (ky_ite (ky_some (RFX.sa (RFX.rf _) 84 (((σ.a 22 ((x1 : Int32).toNatClampNeg)) : Int32).toNatClampNeg) ((σ.a 84 (((σ.a 22 ((x1 : Int32).toNatClampNeg)) : Int32).toNatClampNeg)) + 1) (by decide))) ky_none) (ky_ite (ky_bind (kx_st (RFX.rf _) (kx_f_X12_take N σ)) (fun p24 => (ky_bindv (ky_st (RFX.rf _) (kx_f_X12_put N p24.2 (-p24.1))) (fun p26 => (ky_some (RFX.rf _)))))) (ky_ite (ky_bind (kx_st (RFX.rf _) (kx_f_X12_take N σ)) (fun p29 => (ky_bind (kx_st (RFX.rf _) (kx_f_X12_take N p29.2)) (fun p31 => (ky_ite (ky_st (RFX.rf _) (kx_f_X12_act_212 N p31.2 (σ.a 22 ((x1 : Int32).toNatClampNeg)) p29.1 p31.1)) (ky_ite (ky_st (RFX.rf _) (kx_f_X12_act_212 N p31.2 (σ.a 22 ((x1 : Int32).toNatClampNeg)) p29.1 p31.1)) (ky_st (RFX.rf _) (kx_f_X12_act_229 N p31.2 (σ.a 22 ((x1 : Int32).toNatClampNeg)) p29.1 p31.1)))))))) (ky_ite (ky_bind (kx_st (RFX.rf _) (kx_f_X12_take N σ)) (fun p45 => (ky_bind (kx_st (RFX.rf _) (kx_f_X12_take N p45.2)) (fun p47 => (ky_ite (ky_st (RFX.rf _) (kx_f_X12_act_212 N p47.2 (σ.a 22 ((x1 : Int32).toNatClampNeg)) p45.1 p47.1)) (ky_ite (ky_st (RFX.rf _) (kx_f_X12_act_212 N p47.2 (σ.a 22 ((x1 : Int32).toNatClampNeg)) p45.1 p47.1)) (ky_st (RFX.rf _) (kx_f_X12_act_229 N p47.2 (σ.a 22 ((x1 : Int32).toNatClampNeg)) p45.1 p47.1)))))))) (ky_ite (ky_bind (kx_st (RFX.rf _) (kx_f_X12_take N σ)) (fun p52 => (ky_bindv (ky_st (RFX.rf _) (kx_f_X12_put N p52.2 (1 - p52.1))) (fun p54 => (ky_some (RFX.rf _)))))) (ky_ite (ky_ite (ky_ite (ky_st (RFX.rf _) (kx_f_X12_act_290 N σ)) (ky_st (RFX.rf _) (kx_f_X12_act_282 N σ (σ.a 22 ((x1 : Int32).toNatClampNeg))))) ky_none) (ky_ite (ky_ite (ky_ite (ky_st (RFX.rf _) (kx_f_X12_act_282 N σ (σ.a 22 ((x1 : Int32).toNatClampNeg)))) (ky_st (RFX.rf _) (kx_f_X12_act_290 N σ))) ky_none) (ky_ite (ky_bind (kx_st (RFX.rf _) (kx_f_X12_take N σ)) (fun p67 => (ky_ite (ky_st (RFX.si (RFX.rf _) 92 (σ.a 22 ((x1 : Int32).toNatClampNeg)) (by decide)) (kx_f_X12_act_322 N (RS.setI p67.2 92 (σ.a 22 ((x1 : Int32).toNatClampNeg))))) (ky_st (RFX.si (RFX.rf _) 92 (p67.2.i 92) (by decide)) (kx_f_X12_act_322 N (RS.setI p67.2 92 (p67.2.i 92))))))) (ky_ite (ky_bind (kx_st (RFX.rf _) (kx_f_X12_take N σ)) (fun p71 => (ky_ite (ky_st (RFX.si (RFX.rf _) 92 (p71.2.i 92) (by decide)) (kx_f_X12_act_344 N (RS.setI p71.2 92 (p71.2.i 92)))) (ky_st (RFX.si (RFX.rf _) 92 (σ.a 22 ((x1 : Int32).toNatClampNeg)) (by decide)) (kx_f_X12_act_344 N (RS.setI p71.2 92 (σ.a 22 ((x1 : Int32).toNatClampNeg)))))))) (ky_ite (ky_some (RFX.si (RFX.rf _) 92 (σ.a 22 ((x1 : Int32).toNatClampNeg)) (by decide))) (ky_ite (ky_bind (kx_st (RFX.rf _) (kx_f_X12_take N σ)) (fun p76 => (ky_bindv (ky_st (RFX.rf _) (kx_f_X12_row N p76.2 0 p76.1)) (fun p78 => (ky_some (RFX.rf _)))))) (ky_bindv (ky_st (RFX.rf _) (kx_f_X12_ends N σ x1 (σ.a 22 ((x1 : Int32).toNatClampNeg)))) (fun p80 => (ky_some (RFX.rf _)))))))))))))))))))) ky_none)
end
section
/-! both machines: what is open around a place -/
/-- an entry: its sort (0 lock, 1 body, 2 catch, 3 finally, 4 row, 5 arms), its height, four numbers, what it may cost -/
def Ent : Type := Nat × Nat × Nat × Nat × Nat × Nat × Nat
def Ent.k (e : Ent) : Nat := e.1
def Ent.h (e : Ent) : Nat := e.2.1
def Ent.x (e : Ent) : Nat := e.2.2.1
def Ent.y (e : Ent) : Nat := e.2.2.2.1
def Ent.z (e : Ent) : Nat := e.2.2.2.2.1
def Ent.w (e : Ent) : Nat := e.2.2.2.2.2.1
def Ent.u (e : Ent) : Nat := e.2.2.2.2.2.2
/-- places of both codes that belong together: place, place, height, what it may cost, what is left of a step, what is open -/
def Als : Type := Nat → Nat → Nat → Nat → Nat → List Ent → Prop
/-- the frames among them -/
def frs : List Ent → Nat
  | [] => 0
  | e :: c => frs c + (if e.k ≤ 3 then 1 else 0)
/-- so many may be open -/
def ops : List Ent → Nat
  | [] => 0
  | e :: c => ops c + (if e.k = 1 then e.z else 0)
/-- so many may still be thrown -/
def tps : List Ent → Nat
  | [] => 0
  | e :: c => tps c + (if e.k = 1 then 2 else if e.k = 2 then 1 else 0)
/-- what leaving the frames may cost -/
def fps : List Ent → Nat
  | [] => 0
  | e :: c => fps c + (if e.k = 0 then 2 else if e.k = 1 then 1460 else if e.k = 2 then 1154 else if e.k = 3 then 1152 else 0)
/-- the cells and slots that entries keep for themselves -/
def cel (e : Ent) (k : Nat) : Prop := (e.k = 2 ∧ k = e.z) ∨ (e.k = 4 ∧ e.x ≤ k ∧ k < e.x + 2 + e.y)
def slo (e : Ent) (l : Nat) : Prop := e.k = 2 ∧ l = e.w
def CTK (nm : Nat → Nat → Prop) : List Ent → Prop
  | [] => True
  | e :: c => (∀ k : Nat, cel e k → k < 720 ∧ (∀ l : Nat, ¬ nm k l) ∧ ∀ e' ∈ c, ¬ cel e' k) ∧ (∀ l : Nat, slo e l → (∀ k : Nat, ¬ nm k l) ∧ ∀ e' ∈ c, ¬ slo e' l) ∧ CTK nm c
/-- what each address stands for -/
def MUI (r : RS) (mu : Nat → Nat) : Prop := (∀ b : Nat, (mu b : Int) < (r.i 85).toInt ∨ 3200 ≤ mu b) ∧ ∀ b b' : Nat, (mu b : Int) < (r.i 85).toInt → (mu b' : Int) < (r.i 85).toInt → mu b = mu b' → b = b'
def TLV (s : CS) (r : RS) (mu : Nat → Nat) (b : Nat) : Prop := THG s r b (mu b) ∧ (mu b : Int) < (r.i 85).toInt ∧ inP s b ∧ 0 ≤ (r.a 86 (mu b)).toInt ∧ (r.a 86 (mu b)).toInt < (r.i 3).toInt
/-- the end of that try's finally can be reached -/
def FCP (r : RS) (AL : Als) (y : Nat) : Prop := ∃ (p q h w g : Nat) (e : Ent) (c : List Ent), AL p q h w g (e :: c) ∧ e.k = 3 ∧ e.y = y ∧ r.a 21 q = 35
/-- all finallys among them can end -/
def FCA (r : RS) (AL : Als) (c : List Ent) : Prop := ∀ e ∈ c, e.k = 1 ∨ e.k = 2 → 0 ≤ (r.a 31 e.y).toInt → FCP r AL e.y
def HTS (c : List Ent) (h : Nat) : Prop := ∀ e ∈ c, e.k ≤ 3 → e.h = h
def UTS (c : List Ent) (w : Nat) : Prop := ∀ e ∈ c, e.k = 1 ∨ e.k = 2 → w ≤ e.u
/-- a jump's goal -/
def GL1 (s : CS) (r : RS) (AL : Als) (c : List Ent) (h : Nat) (T x d : Int32) (u : Nat) : Prop := ∃ (c1 c0 : List Ent), c = c1 ++ c0 ∧ ((T - T / 32 * 32).toInt = (frs c0 : Int) ∧ d.toInt = (c0.length : Int)) ∧ HTS c1 h ∧ (FCA r AL c1 → ∃ p q w : Nat, ((cTg s (T / 32)).toInt = (p : Int) ∧ x.toInt = (q : Int)) ∧ AL p q h w 0 c0 ∧ w ≤ u ∧ UTS c1 w)
/-- a yield's goal -/
def GL2 (s : CS) (r : RS) (AL : Als) (c : List Ent) (h : Nat) (T d : Int32) (u : Nat) : Prop := ∃ (c1 : List Ent) (a : Ent) (c0 : List Ent), c = c1 ++ a :: c0 ∧ (a.k = 5 ∧ a.h = h ∧ h < 600) ∧ ((T - T / 32 * 32).toInt = (frs c0 : Int) ∧ d.toInt = (c0.length : Int) + 1) ∧ HTS c1 h ∧ (FCA r AL c1 → ∃ p q w : Nat, ((cTg s (T / 32)).toInt = (p : Int) ∧ (r.a 23 a.x).toInt = (q : Int)) ∧ AL p q (h + 1) w 0 c0 ∧ w ≤ u ∧ UTS c1 w)
/-- the ways that both go -/
def WYS (s : CS) (r : RS) (mu : Nat → Nat) (AL : Als) (c : List Ent) (h u : Nat) (way val T : Int32) (t : Option Nat) (how x d value g : Int32) : Prop := (way = 1 ∧ how = 1 ∧ GL1 s r AL c h T x d u) ∨ (way = 2 ∧ how = 4 ∧ val = value ∧ GL2 s r AL c h T d u) ∨ (way = 3 ∧ how = 2 ∧ val = value ∧ T = 0) ∨ (way = 4 ∧ how = 3 ∧ T = 0 ∧ ∃ b : Nat, t = some b ∧ g.toInt = (mu b : Int) ∧ TLV s r mu b)
/-- a frame of the class -/
def FRA (s : CS) (f : Nat) (c : List Ent) (ph : Int32) (h : Nat) : Prop := s.r 61 (frs c) = some f ∧ s.o f 0 = ph ∧ (s.o f 2).toInt = (h : Int)
/-- how it goes on behind a finally -/
def PNF (s : CS) (r : RS) (mu : Nat → Nat) (AL : Als) (e : Ent) (c : List Ent) (f : Nat) : Prop := (s.o f 5 = 1 ∧ r.a 105 c.length = 0 ∧ ((s.o f 7 - s.o f 7 / 32 * 32).toInt = (frs c : Int) ∧ (s.o f 7 / 32).toInt = (e.x : Int) + 2) ∧ (FCP r AL e.y → ∃ p q w : Nat, (cTg s (s.o f 7 / 32)).toInt = (p : Int) ∧ (r.a 32 e.y).toInt = (q : Int) ∧ AL p q e.h w 0 c ∧ w ≤ e.u)) ∨ (FCP r AL e.y → WYS s r mu AL c e.h e.u (s.o f 5) (s.o f 6) (s.o f 7) (s.ot f) (r.a 105 c.length) (r.a 106 c.length) (r.a 107 c.length) (r.a 108 c.length) (r.a 109 c.length))
/-- a row of values -/
def RWV (s : CS) (r : RS) (e : Ent) (k : Nat) (m0 m : Int) : Prop := ∃ i : Nat, i ≤ e.y ∧ m = m0 + e.y ∧ 0 ≤ m0 ∧ (r.a 101 k).toInt = m0 ∧ (r.a 102 k).toInt = m0 + i ∧ (r.a 103 k).toInt = m ∧ (s.a 59 e.x).toInt = (i : Int) ∧ (s.a 59 (e.x + 1)).toInt = (e.y : Int) ∧ ∀ j : Nat, j < e.y → s.a 59 (e.x + 2 + j) = r.a 98 (m0.toNat + j)
/-- frames and records, one beside the other -/
def FRS (s : CS) (r : RS) (mu : Nat → Nat) (AL : Als) : List Ent → Int → Prop
  | [], m => m = 0
  | e :: c, m => (r.a 104 c.length).toInt = (e.h : Int) ∧ (
      (e.k = 0 ∧ r.a 100 c.length = 1 ∧ (∃ f : Nat, FRA s f c 0 e.h ∧ s.o f 1 = r.a 101 c.length) ∧ FRS s r mu AL c m)
    ∨ (e.k = 1 ∧ r.a 100 c.length = 4 ∧ ((r.a 101 c.length).toInt = (e.y : Int) ∧ r.a 102 c.length = 0) ∧ (∃ f : Nat, FRA s f c 1 e.h ∧ (s.o f 1).toInt = (e.x : Int) ∧ s.o f 3 = r.a 103 c.length ∧ 0 ≤ (r.a 103 c.length).toInt ∧ (r.a 103 c.length).toInt ≤ (ops c : Int)) ∧ FRS s r mu AL c m)
    ∨ (e.k = 2 ∧ r.a 100 c.length = 4 ∧ ((r.a 101 c.length).toInt = (e.y : Int) ∧ r.a 102 c.length = 1) ∧ (∃ f b : Nat, FRA s f c 2 e.h ∧ (s.o f 1).toInt = (e.x : Int) ∧ s.ot f = some b ∧ TLV s r mu b ∧ (r.a 84 e.w).toInt = (mu b : Int) ∧ s.a 59 e.z = r.a 87 (mu b)) ∧ FRS s r mu AL c m)
    ∨ (e.k = 3 ∧ r.a 100 c.length = 4 ∧ ((r.a 101 c.length).toInt = (e.y : Int) ∧ r.a 102 c.length = 2) ∧ (∃ f : Nat, FRA s f c 3 e.h ∧ PNF s r mu AL e c f) ∧ FRS s r mu AL c m)
    ∨ (e.k = 4 ∧ r.a 100 c.length = 2 ∧ ∃ m0 : Int, RWV s r e c.length m0 m ∧ FRS s r mu AL c m0)
    ∨ (e.k = 5 ∧ r.a 100 c.length = 3 ∧ (r.a 101 c.length).toInt = (e.x : Int) ∧ FRS s r mu AL c m))
/-- what was told, alike -/
def TLR (s : CS) (r : RS) : Prop := RSC s r ∧ TLD s r ∧ RB r
/-- what is open -/
def RCO (r : RS) : List Ent → Int → Prop
  | [], _ => True
  | e :: c, o => (e.k = 1 → (r.a 103 c.length).toInt ≤ o ∧ RCO r c (r.a 103 c.length).toInt) ∧ (¬ e.k = 1 → RCO r c o)
def OPW (s : CS) (r : RS) (c : List Ent) : Prop := s.i 68 = r.i 95 ∧ 0 ≤ (r.i 95).toInt ∧ (r.i 95).toInt ≤ (ops c : Int) ∧ ops c ≤ 320 ∧ (∀ k : Nat, (k : Int) < (r.i 95).toInt → s.a 63 k = r.a 96 k) ∧ RCO r c (r.i 95).toInt
/-- all that runs beside the values; what is open beside it -/
def DY0 (s : CS) (r : RS) (mu : Nat → Nat) (AL : Als) (c : List Ent) (n : Int) : Prop := FRS s r mu AL c (r.i 97).toInt ∧ ((s.i 67).toInt = (frs c : Int) ∧ (r.i 99).toInt = (c.length : Int)) ∧ s.i 71 = hS r 8 ∧ (0 ≤ (r.i 85).toInt ∧ (r.i 85).toInt + tps c ≤ 2 * (r.i 80).toInt + n) ∧ MUI r mu ∧ r.i 115 = 0
def DYN (s : CS) (r : RS) (mu : Nat → Nat) (AL : Als) (c : List Ent) (n : Int) : Prop := DY0 s r mu AL c n ∧ OPW s r c
end
section
/-! both machines: frames and records while other things change -/
/-- held by one of these frames -/
def HLB (s : CS) (c : List Ent) (b : Nat) : Prop := ∃ i f : Nat, i < frs c ∧ s.r 61 i = some f ∧ s.ot f = some b
theorem HLB.up {s : CS} {e : Ent} {c : List Ent} {b : Nat} (h : HLB s c b) : HLB s (e :: c) b := by
  obtain ⟨i, f, h1, h2, h3⟩ := h
  refine ⟨i, f, ?_, h2, h3⟩
  show i < frs c + (if e.k ≤ 3 then 1 else 0)
  omega
theorem frs_up {e : Ent} {c : List Ent} (h : e.k ≤ 3) : frs (e :: c) = frs c + 1 := by
  show frs c + (if e.k ≤ 3 then 1 else 0) = frs c + 1
  rw [if_pos h]
theorem frs_eq {e : Ent} {c : List Ent} (h : 3 < e.k) : frs (e :: c) = frs c := by
  show frs c + (if e.k ≤ 3 then 1 else 0) = frs c
  rw [if_neg (by omega)]
  rfl
theorem frs_le {e : Ent} {c : List Ent} : frs c ≤ frs (e :: c) := by
  show frs c ≤ frs c + (if e.k ≤ 3 then 1 else 0)
  omega
/-- what frames and records rest on is the same -/
def FEQ (s S : CS) (r R : RS) (mu nu : Nat → Nat) (c : List Ent) (m : Int) : Prop := (∀ i f : Nat, i < frs c → s.r 61 i = some f → S.r 61 i = some f ∧ S.o f = s.o f ∧ S.ot f = s.ot f) ∧ (∀ b : Nat, HLB s c b → TLV s r mu b → TLV S R nu b ∧ nu b = mu b ∧ R.a 87 (mu b) = r.a 87 (mu b)) ∧ (S.a 17 = s.a 17 ∧ R.a 21 = r.a 21 ∧ R.a 23 = r.a 23 ∧ R.a 31 = r.a 31 ∧ R.a 32 = r.a 32) ∧ (∀ j k : Nat, 100 ≤ j → j ≤ 109 → k < c.length → R.a j k = r.a j k) ∧ (∀ e ∈ c, (∀ k : Nat, cel e k → S.a 59 k = s.a 59 k) ∧ ∀ l : Nat, slo e l → R.a 84 l = r.a 84 l) ∧ ∀ j : Nat, (j : Int) < m → R.a 98 j = r.a 98 j
theorem FEQ.tl {s S : CS} {r R : RS} {mu nu : Nat → Nat} {e : Ent} {c : List Ent} {m m' : Int} (h : FEQ s S r R mu nu (e :: c) m) (hm : m' ≤ m) : FEQ s S r R mu nu c m' := by
  obtain ⟨h1, h2, h3, h4, h5, h6⟩ := h
  exact ⟨fun i f hi hf => h1 i f (Nat.lt_of_lt_of_le hi frs_le) hf, fun b hb => h2 b hb.up, h3, fun j k a b d => h4 j k a b (Nat.lt_succ_of_lt d), fun e' he => h5 e' (List.mem_cons_of_mem _ he), fun j hj => h6 j (by omega)⟩
theorem GL1.of {s S : CS} {r R : RS} {AL : Als} {c : List Ent} {h u : Nat} {T x d : Int32} (e17 : S.a 17 = s.a 17) (e21 : R.a 21 = r.a 21) (e31 : R.a 31 = r.a 31) (g : GL1 s r AL c h T x d u) : GL1 S R AL c h T x d u := by
  unfold GL1 FCA FCP cTg at *
  rw [e17, e21, e31]
  exact g
theorem GL2.of {s S : CS} {r R : RS} {AL : Als} {c : List Ent} {h u : Nat} {T d : Int32} (e17 : S.a 17 = s.a 17) (e21 : R.a 21 = r.a 21) (e31 : R.a 31 = r.a 31) (e23 : R.a 23 = r.a 23) (g : GL2 s r AL c h T d u) : GL2 S R AL c h T d u := by
  unfold GL2 FCA FCP cTg at *
  rw [e17, e21, e31, e23]
  exact g
theorem WYS.of {s S : CS} {r R : RS} {mu nu : Nat → Nat} {AL : Als} {c : List Ent} {h u : Nat} {way val T how x d value g : Int32} {t : Option Nat} (e17 : S.a 17 = s.a 17) (e21 : R.a 21 = r.a 21) (e31 : R.a 31 = r.a 31) (e23 : R.a 23 = r.a 23) (hb : ∀ b : Nat, t = some b → TLV s r mu b → TLV S R nu b ∧ nu b = mu b) (k : WYS s r mu AL c h u way val T t how x d value g) : WYS S R nu AL c h u way val T t how x d value g := by
  rcases k with ⟨a1, a2, a3⟩ | ⟨a1, a2, a3, a4⟩ | a | ⟨a1, a2, a3, b, a4, a5, a6⟩
  · exact Or.inl ⟨a1, a2, a3.of e17 e21 e31⟩
  · exact Or.inr (Or.inl ⟨a1, a2, a3, a4.of e17 e21 e31 e23⟩)
  · exact Or.inr (Or.inr (Or.inl a))
  · obtain ⟨z1, z2⟩ := hb b a4 a6
    exact Or.inr (Or.inr (Or.inr ⟨a1, a2, a3, b, a4, by rw [z2]; exact a5, z1⟩))
theorem FRA.of {s S : CS} {f : Nat} {c : List Ent} {ph : Int32} {h : Nat} (g : FRA s f c ph h) (e1 : S.r 61 (frs c) = some f) (e2 : S.o f = s.o f) : FRA S f c ph h := by
  unfold FRA at *
  rw [e2]
  exact ⟨e1, g.2⟩
theorem FRS.of {s S : CS} {r R : RS} {mu nu : Nat → Nat} {AL : Als} : ∀ {c : List Ent} {m : Int}, FRS s r mu AL c m → FEQ s S r R mu nu c m → FRS S R nu AL c m
  | [], _, h, _ => h
  | e :: c, m, ⟨h0, h⟩, q => by
    obtain ⟨q1, q2, ⟨q17, q21, q23, q31, q32⟩, q4, q5, q6⟩ := id q
    have hl : c.length < (e :: c).length := Nat.lt_succ_self _
    have ej : ∀ j : Nat, 100 ≤ j → j ≤ 109 → R.a j c.length = r.a j c.length := fun j h1 h2 => q4 j c.length h1 h2 hl
    have fr : e.k ≤ 3 → ∀ f : Nat, s.r 61 (frs c) = some f → S.r 61 (frs c) = some f ∧ S.o f = s.o f ∧ S.ot f = s.ot f := fun hk f hf => q1 (frs c) f (by rw [frs_up hk]; omega) hf
    have hb : e.k ≤ 3 → ∀ f b : Nat, s.r 61 (frs c) = some f → s.ot f = some b → HLB s (e :: c) b := fun hk f b h1 h2 => ⟨frs c, f, by rw [frs_up hk]; omega, h1, h2⟩
    refine ⟨by rw [ej 104 (by decide) (by decide)]; exact h0, ?_⟩
    rw [ej 100 (by decide) (by decide), ej 101 (by decide) (by decide), ej 102 (by decide) (by decide), ej 103 (by decide) (by decide)]
    rcases h with ⟨k0, a1, ⟨f, a2, a3⟩, a4⟩ | ⟨k1, a1, a2, ⟨f, a3, a4, a5, a6⟩, a7⟩ | ⟨k2, a1, a2, ⟨f, b, a3, a4, a5, a6, a7, a8⟩, a9⟩ | ⟨k3, a1, a2, ⟨f, a3, a4⟩, a5⟩ | ⟨k4, a1, m0, a2, a3⟩ | ⟨k5, a1, a2, a3⟩
    · obtain ⟨w1, w2, w3⟩ := fr (by omega) f a2.1
      exact Or.inl ⟨k0, a1, ⟨f, a2.of w1 w2, by rw [w2]; exact a3⟩, FRS.of a4 (q.tl (Int.le_refl _))⟩
    · obtain ⟨w1, w2, w3⟩ := fr (by omega) f a3.1
      exact Or.inr (Or.inl ⟨k1, a1, a2, ⟨f, a3.of w1 w2, by rw [w2]; exact a4, by rw [w2]; exact a5, a6⟩, FRS.of a7 (q.tl (Int.le_refl _))⟩)
    · obtain ⟨w1, w2, w3⟩ := fr (by omega) f a3.1
      obtain ⟨y1, y2, y3⟩ := q2 b (hb (by omega) f b a3.1 a5) a6
      obtain ⟨x1, x2⟩ := q5 e List.mem_cons_self
      refine Or.inr (Or.inr (Or.inl ⟨k2, a1, a2, ⟨f, b, a3.of w1 w2, by rw [w2]; exact a4, by rw [w3]; exact a5, y1, ?_, ?_⟩, FRS.of a9 (q.tl (Int.le_refl _))⟩))
      · rw [x2 e.w ⟨k2, rfl⟩, y2]
        exact a7
      · rw [x1 e.z (Or.inl ⟨k2, rfl⟩), y2, y3]
        exact a8
    · obtain ⟨w1, w2, w3⟩ := fr (by omega) f a3.1
      refine Or.inr (Or.inr (Or.inr (Or.inl ⟨k3, a1, a2, ⟨f, a3.of w1 w2, ?_⟩, FRS.of a5 (q.tl (Int.le_refl _))⟩)))
      unfold PNF
      rw [w2, w3, ej 105 (by decide) (by decide), ej 106 (by decide) (by decide), ej 107 (by decide) (by decide), ej 108 (by decide) (by decide), ej 109 (by decide) (by decide)]
      rcases a4 with a4 | a4
      · left
        unfold FCP cTg at *
        rw [q17, q21, q32]
        exact a4
      · exact Or.inr (fun fc => (a4 (by unfold FCP at *; rw [q21] at fc; exact fc)).of q17 q21 q31 q23 (fun b hb' t => by
          obtain ⟨y1, y2, -⟩ := q2 b (hb (by omega) f b a3.1 hb') t
          exact ⟨y1, y2⟩))
    · obtain ⟨x1, x2⟩ := q5 e List.mem_cons_self
      obtain ⟨i, b1, b2, b3, b4, b5, b6, b7, b8, b9⟩ := a2
      refine Or.inr (Or.inr (Or.inr (Or.inr (Or.inl ⟨k4, a1, m0, ⟨i, b1, b2, b3, ?_, ?_, ?_, ?_, ?_, fun j hj => ?_⟩, FRS.of a3 (q.tl (by omega))⟩))))
      · rw [ej 101 (by decide) (by decide)]; exact b4
      · rw [ej 102 (by decide) (by decide)]; exact b5
      · rw [ej 103 (by decide) (by decide)]; exact b6
      · rw [x1 e.x (Or.inr ⟨k4, by omega, by omega⟩)]; exact b7
      · rw [x1 (e.x + 1) (Or.inr ⟨k4, by omega, by omega⟩)]; exact b8
      · rw [x1 (e.x + 2 + j) (Or.inr ⟨k4, by omega, by omega⟩), q6 (m0.toNat + j) (by omega)]
        exact b9 j hj
    · exact Or.inr (Or.inr (Or.inr (Or.inr (Or.inr ⟨k5, a1, a2, FRS.of a3 (q.tl (Int.le_refl _))⟩))))
end
section
/-! both machines: what the plain instructions leave, and the class's ticks -/
theorem CTK.in {nm : Nat → Nat → Prop} : ∀ {c : List Ent}, CTK nm c → ∀ e ∈ c, (∀ k : Nat, cel e k → k < 720 ∧ ∀ l : Nat, ¬ nm k l) ∧ ∀ l : Nat, slo e l → ∀ k : Nat, ¬ nm k l
  | [], _, e, he => by cases he
  | a :: c, ⟨h1, h2, h3⟩, e, he => by
    rcases List.mem_cons.mp he with z | z
    · rw [z]
      exact ⟨fun k hk => ⟨(h1 k hk).1, (h1 k hk).2.1⟩, fun l hl => (h2 l hl).1⟩
    · exact CTK.in h3 e z
theorem hS_of {r R : RS} (h : R.a 91 = r.a 91) : ∀ n : Nat, hS R n = hS r n
  | 0 => rfl
  | n + 1 => by
    show hS R n + R.a 91 n = hS r n + r.a 91 n
    rw [hS_of h n, h]
theorem TLV.of {s S : CS} {r R : RS} {mu : Nat → Nat} {b : Nat} (eo : S.o b = s.o b) (e1 : S.oa (b + 1) = s.oa (b + 1)) (e2 : S.oa (b + 2) = s.oa (b + 2)) (ep : inP s b → inP S b) (e85 : (r.i 85).toInt ≤ (R.i 85).toInt) (e86 : R.a 86 (mu b) = r.a 86 (mu b)) (e87 : R.a 87 (mu b) = r.a 87 (mu b)) (e88 : R.a 88 (mu b) = r.a 88 (mu b)) (e89 : ∀ i : Nat, i < 8 → R.a 89 (8 * mu b + i) = r.a 89 (8 * mu b + i)) (e90 : ∀ i : Nat, i < 8 → R.a 90 (8 * mu b + i) = r.a 90 (8 * mu b + i)) (e3 : R.i 3 = r.i 3) (t : TLV s r mu b) : TLV S R mu b := by
  obtain ⟨⟨t1, t2, t3⟩, t4, t5, t6⟩ := t
  refine ⟨⟨?_, ?_, fun i hi => ?_⟩, by omega, ep t5, by rw [e86, e3]; exact t6⟩
  · rw [eo, e86, e87, e88]
    exact t1
  · rw [e88]
    exact t2
  · rw [e88] at hi
    rw [e1, e2, e89 i (by omega), e90 i (by omega)]
    exact t3 i hi
theorem TLV.ex {nm : Nat → Nat → Prop} {s S : CS} {r R : RS} {mu : Nat → Nat} {b : Nat} (e : EXC nm s S) (g : EXV nm r R) (t : TLV s r mu b) : TLV S R mu b := by
  obtain ⟨e1, e2, ⟨er, ew, eo, et, ea⟩, e4⟩ := e
  obtain ⟨g1, g2, g3, g4⟩ := g
  have i85 : R.i 85 = r.i 85 := g1 85 (by decide) (by decide) (by decide) (by decide)
  refine TLV.of (by rw [eo]) (by rw [ea]) (by rw [ea]) (fun q => ?_) (by rw [i85]; exact Int.le_refl _) ?_ ?_ ?_ (fun i _ => ?_) (fun i _ => ?_) (g1 3 (by decide) (by decide) (by decide) (by decide)) t
  · unfold inP at *
    rw [er]
    exact q
  all_goals rw [g2 _ (by decide) (by decide) (by decide) (by decide)]
theorem TLR.of {s S : CS} {r R : RS} (h : TLR s r) (hi : ∀ j : Nat, j < 59 → S.i j = s.i j) (ha : ∀ k : Nat, k < 59 → S.a k = s.a k) (g : RFX r R) : TLR S R := by
  unfold TLR RSC TLD RB at *
  rw [hi 5 (by decide), hi 13 (by decide), hi 14 (by decide), ha 9 (by decide), ha 10 (by decide), ha 11 (by decide), ha 12 (by decide), g.1 2 (by decide), g.1 3 (by decide), g.1 8 (by decide), g.2 4 (by decide), g.2 5 (by decide), g.2 6 (by decide), g.2 7 (by decide)]
  exact h
theorem EXV.rfx {nm : Nat → Nat → Prop} {r R : RS} (g : EXV nm r R) : RFX r R := ⟨fun j hj => g.1 j (by omega) (by omega) (by omega) (by omega), fun k hk => g.2.1 k (by omega) (by omega) (by omega) (by omega)⟩
theorem TLR.ex {nm : Nat → Nat → Prop} {s S : CS} {r R : RS} (e : EXC nm s S) (g : EXV nm r R) (h : TLR s r) : TLR S R := h.of (fun j hj => e.1 j (by omega) (by omega) (by omega) (by omega)) (fun k hk => e.2.1 k (by omega) (by omega) (by omega)) g.rfx
theorem DY0.ex {nm : Nat → Nat → Prop} {s S : CS} {r R : RS} {mu : Nat → Nat} {AL : Als} {c : List Ent} {n : Int} (ck : CTK nm c) (e : EXC nm s S) (g : EXV nm r R) (d : DY0 s r mu AL c n) : DY0 S R mu AL c n := by
  have tl : ∀ b : Nat, TLV s r mu b → TLV S R mu b := fun b t => t.ex e g
  obtain ⟨e1, e2, ⟨er, ew, eo, et, ea⟩, e4⟩ := e
  obtain ⟨g1, g2, g3, g4⟩ := g
  obtain ⟨d1, ⟨d2, d3⟩, d5, ⟨d6, d7⟩, d8, d9⟩ := d
  have i85 : R.i 85 = r.i 85 := g1 85 (by decide) (by decide) (by decide) (by decide)
  have i97 : R.i 97 = r.i 97 := g1 97 (by decide) (by decide) (by decide) (by decide)
  have i99 : R.i 99 = r.i 99 := g1 99 (by decide) (by decide) (by decide) (by decide)
  have i115 : R.i 115 = r.i 115 := g1 115 (by decide) (by decide) (by decide) (by decide)
  have j67 : S.i 67 = s.i 67 := e1 67 (by decide) (by decide) (by decide) (by decide)
  have j71 : S.i 71 = s.i 71 := e1 71 (by decide) (by decide) (by decide) (by decide)
  have ra : ∀ k : Nat, k ≠ 82 → k ≠ 83 → k ≠ 84 → k ≠ 94 → R.a k = r.a k := g2
  have feq : FEQ s S r R mu mu c (r.i 97).toInt := by
    refine ⟨fun i f _ hf => ⟨by rw [er]; exact hf, by rw [eo], by rw [et]⟩, fun b _ t => ⟨tl b t, rfl, ?_⟩, ⟨e2 17 (by decide) (by decide) (by decide), ra 21 (by decide) (by decide) (by decide) (by decide), ra 23 (by decide) (by decide) (by decide) (by decide), ra 31 (by decide) (by decide) (by decide) (by decide), ra 32 (by decide) (by decide) (by decide) (by decide)⟩, fun j k h1 h2 _ => by rw [ra j (by omega) (by omega) (by omega) (by omega)], fun a ha => ⟨fun k hk => e4 k ((ck.in a ha).1 k hk).2, fun l hl => g3 l ((ck.in a ha).2 l hl)⟩, fun j _ => by rw [ra 98 (by decide) (by decide) (by decide) (by decide)]⟩
    rw [ra 87 (by decide) (by decide) (by decide) (by decide)]
  refine ⟨by rw [i97]; exact d1.of feq, ⟨by rw [j67]; exact d2, by rw [i99]; exact d3⟩, ?_, ⟨by rw [i85]; exact d6, by rw [i85]; omega⟩, ?_, by rw [i115]; exact d9⟩
  · rw [j71, hS_of (ra 91 (by decide) (by decide) (by decide) (by decide))]
    exact d5
  · unfold MUI at *
    rw [i85]
    exact d8
theorem RCO.of {r R : RS} : ∀ {c : List Ent} {o : Int}, RCO r c o → (∀ k : Nat, k < c.length → R.a 103 k = r.a 103 k) → RCO R c o
  | [], _, _, _ => True.intro
  | e :: c, o, ⟨h1, h2⟩, q => by
    have e1 := q c.length (Nat.lt_succ_self _)
    have q' : ∀ k : Nat, k < c.length → R.a 103 k = r.a 103 k := fun k hk => q k (Nat.lt_succ_of_lt hk)
    refine ⟨fun z => ?_, fun z => RCO.of (h2 z) q'⟩
    rw [e1]
    exact ⟨(h1 z).1, RCO.of (h1 z).2 q'⟩
theorem RCO.mono {r : RS} : ∀ {c : List Ent} {o o' : Int}, RCO r c o → o ≤ o' → RCO r c o'
  | [], _, _, _, _ => True.intro
  | e :: c, o, o', ⟨h1, h2⟩, q => ⟨fun z => ⟨Int.le_trans (h1 z).1 q, (h1 z).2⟩, fun z => RCO.mono (h2 z) q⟩
theorem OPW.tl {s : CS} {r : RS} {e : Ent} {c : List Ent} (h : OPW s r (e :: c)) (hk : ¬ e.k = 1) : OPW s r c := by
  obtain ⟨o1, o2, o3, o4, o5, o6⟩ := h
  have ho : ops (e :: c) = ops c := by
    show ops c + (if e.k = 1 then e.z else 0) = ops c
    rw [if_neg hk]
    rfl
  rw [ho] at o3 o4
  exact ⟨o1, o2, o3, o4, o5, o6.2 hk⟩
theorem DYN.ex {nm : Nat → Nat → Prop} {s S : CS} {r R : RS} {mu : Nat → Nat} {AL : Als} {c : List Ent} {n : Int} (ck : CTK nm c) (e : EXC nm s S) (g : EXV nm r R) (d : DYN s r mu AL c n) : DYN S R mu AL c n := by
  refine ⟨d.1.ex ck e g, ?_⟩
  obtain ⟨e1, e2, -, -⟩ := e
  obtain ⟨g1, g2, -, -⟩ := g
  obtain ⟨-, ⟨o1, o2, o3, o4, o5, o6⟩⟩ := d
  have i95 : R.i 95 = r.i 95 := g1 95 (by decide) (by decide) (by decide) (by decide)
  have j68 : S.i 68 = s.i 68 := e1 68 (by decide) (by decide) (by decide) (by decide)
  refine ⟨by rw [j68, i95]; exact o1, by rw [i95]; exact o2, by rw [i95]; exact o3, o4, fun k hk => ?_, by rw [i95]; exact o6.of (fun k _ => by rw [g2 103 (by decide) (by decide) (by decide) (by decide)])⟩
  rw [i95] at hk
  rw [e2 63 (by decide) (by decide) (by decide), g2 96 (by decide) (by decide) (by decide) (by decide)]
  exact o5 k hk
theorem WYS.ex {nm : Nat → Nat → Prop} {s S : CS} {r R : RS} {mu : Nat → Nat} {AL : Als} {c : List Ent} {h u : Nat} {way val T how x d value g0 : Int32} {t : Option Nat} (e : EXC nm s S) (g : EXV nm r R) (k : WYS s r mu AL c h u way val T t how x d value g0) : WYS S R mu AL c h u way val T t how x d value g0 := k.of (e.2.1 17 (by decide) (by decide) (by decide)) (g.2.1 21 (by decide) (by decide) (by decide) (by decide)) (g.2.1 31 (by decide) (by decide) (by decide) (by decide)) (g.2.1 23 (by decide) (by decide) (by decide) (by decide)) (fun b _ t => ⟨t.ex e g, rfl⟩)
/-- the class goes on from here, and comes to that end -/
def CRN (N H : Nat) (D : Nat → List Nat) (T : Int32 × CS) (s0 s : CS) (x : Int32) : Prop := MI H s D x.toInt ∧ MR s0 s ∧ (0 ≤ x.toInt ∧ x.toInt ≤ 4000000) ∧ ∃ n : Nat, f_X3_perform_110 N n s x = some T
theorem pf_end {N n : Nat} {s : CS} {x : Int32} {T : Int32 × CS} (h : ¬ s.i 72 = -1) (e : f_X3_perform_110 N n s x = some T) : T = (s.i 72, s) := by
  cases n with
  | zero => cases e
  | succ n =>
    have e' : b_X3_perform_110 N (f_X3_perform_110 N n) s x = some T := e
    unfold b_X3_perform_110 f_X3_perform_148 at e'
    by_cases c : (4000000 : Int32) ≤ x
    · rw [if_pos c] at e'
      exact (Option.some.inj e').symm
    · rw [if_neg c, if_neg h] at e'
      exact (Option.some.inj e').symm
theorem CRN.on {N H : Nat} (hN : 10000000000 ≤ N) {D : Nat → List Nat} {T : Int32 × CS} {s0 s : CS} {x : Int32} (h : CRN N H D T s0 s x) (h72 : s.i 72 = -1) (h73 : s.i 73 = 0) (hx : x.toInt < 4000000) : ∃ S : CS, f_X3_instruction N s = some ((), S) ∧ MR s S ∧ (S.i 72 = -1 → CRN N H D T s0 S (x + 1)) ∧ (¬ S.i 72 = -1 → T = (S.i 72, S)) := by
  obtain ⟨h1, h2, ⟨h3, h4⟩, n, h5⟩ := h
  have e4 : (4000000 : Int32).toInt = 4000000 := by decide
  cases n with
  | zero => cases h5
  | succ n =>
    have e' : b_X3_perform_110 N (f_X3_perform_110 N n) s x = some T := h5
    unfold b_X3_perform_110 at e'
    rw [if_neg (Int32.not_le.mpr (by rw [Int32.lt_iff_toInt_lt, e4]; exact hx)), if_pos h72, if_pos h73] at e'
    obtain ⟨R, e1, e2⟩ := hf_bind e'
    obtain ⟨q1, q2, -⟩ := ok_at (q_instr hN h3 h4 h1 h73) e1
    have ad : (x + 1).toInt = x.toInt + 1 := ad1 h3 (by omega)
    refine ⟨R.2, e1, q2, fun g => ⟨?_, h2.tr q2, ⟨by omega, by omega⟩, n, e2⟩, fun g => pf_end g e2⟩
    rw [ad]
    exact q1.resolve_right (fun z => z g)
theorem CRN.lv {N H : Nat} (hN : 10000000000 ≤ N) {D : Nat → List Nat} {T : Int32 × CS} {s0 s : CS} {x : Int32} (h : CRN N H D T s0 s x) (h72 : s.i 72 = -1) (h73 : ¬ s.i 73 = 0) (hx : x.toInt < 4000000) : ∃ S : CS, f_X3_leaveOne N s = some ((), S) ∧ MR s S ∧ CRN N H D T s0 S (x + 1) := by
  obtain ⟨h1, h2, ⟨h3, h4⟩, n, h5⟩ := h
  have e4 : (4000000 : Int32).toInt = 4000000 := by decide
  cases n with
  | zero => cases h5
  | succ n =>
    have e' : b_X3_perform_110 N (f_X3_perform_110 N n) s x = some T := h5
    unfold b_X3_perform_110 at e'
    rw [if_neg (Int32.not_le.mpr (by rw [Int32.lt_iff_toInt_lt, e4]; exact hx)), if_pos h72, if_neg h73] at e'
    obtain ⟨R, e1, e2⟩ := hf_bind e'
    obtain ⟨q1, q2⟩ := ok_at (q_leaveOne hN h3 h1 h73) e1
    have ad : (x + 1).toInt = x.toInt + 1 := ad1 h3 (by omega)
    refine ⟨R.2, e1, q2, ?_, h2.tr q2, ⟨by omega, by omega⟩, n, e2⟩
    rw [ad]
    exact q1
end
section
/-! both machines: one is thrown -/
theorem ra_c {N H : Nat} (hN : 1000 ≤ N) {s : CS} (hr : REFS s) (hm : ROOM H s) (h0d : 0 ≤ dpI s) (hd : dpI s ≤ 22) {x1 x2 : Int32} {R : Unit × CS} (e : f_X3_raise N s x1 x2 = some R) : ∃ b : Nat, ¬ HELD s b ∧ RSD H s R.2 ∧ R.2.w = some b ∧ (R.2.o b 2 = x1 ∧ R.2.o b 3 = x2 ∧ R.2.o b 4 = 0) ∧ R.2.i 74 = 0 ∧ (∀ x : Nat, x < s.hs → (x ≠ b → R.2.o x = s.o x) ∧ R.2.ot x = s.ot x ∧ R.2.oa x = s.oa x) ∧ ∀ j x : Nat, s.r 62 j = some x → R.2.r 62 j = some x := by
  have hR := ok_at (q_raise hN hr hm h0d hd x1 x2) e
  unfold f_X3_raise at e
  obtain ⟨p, ep, e⟩ := hf_bind e
  obtain ⟨b, eb, nh, ⟨⟨k1, k2, k3, k4⟩, k5, k6⟩⟩ := fr_no hN hr hm N 0 p ep
  rw [eb] at e
  have e' : (if oK p.2 b 2 then if oK p.2 b 2 then if oK p.2 b 2 then ((f_X3_go N (CS.setO (CS.setO (CS.setO (CS.setW p.2 (some b)) b 2 x1) b 3 x2) b 4 0) 4 0 0).bind fun p29 => some ((), p29.2)) else none else none else none) = some R := e
  have e2 := (hf_ite (hf_ite (hf_ite e').2).2).2
  have eR : R.2 = CS.setI (CS.setI (CS.setI (CS.setO (CS.setO (CS.setO (CS.setW p.2 (some b)) b 2 x1) b 3 x2) b 4 0) 73 4) 74 0) 75 0 := by
    rw [← Option.some.inj e2]
  have wo : ∀ x : Nat, x ≠ b → R.2.o x = p.2.o x := fun x hx => by
    rw [eR, co_setI, co_setI, co_setI, setO_ne hx, setO_ne hx, setO_ne hx, co_setW]
  refine ⟨b, nh, hR, ?_, ⟨?_, ?_, ?_⟩, ?_, fun x hx => ⟨fun hb => ?_, ?_, ?_⟩, fun j x h => ?_⟩
  · rw [eR, cw_setI, cw_setI, cw_setI, cw_setO, cw_setO, cw_setO, cw_at]
  · rw [eR, co_setI, co_setI, co_setI, setO_k (by decide), setO_k (by decide), setO_at]
  · rw [eR, co_setI, co_setI, co_setI, setO_k (by decide), setO_at]
  · rw [eR, co_setI, co_setI, co_setI, setO_at]
  · rw [eR, ci_ne _ _ _ (by decide), ci_at]
  · rw [wo x hb]
    exact (k5 x hx).1
  · rw [eR, cot_setI, cot_setI, cot_setI, cot_setO, cot_setO, cot_setO, cot_setW]
    exact (k5 x hx).2.1
  · rw [eR, coa_setI, coa_setI, coa_setI, coa_setO, coa_setO, coa_setO, coa_setW]
    exact (k5 x hx).2.2
  · rw [eR, cr_setI, cr_setI, cr_setI, cr_setO, cr_setO, cr_setO, cr_setW]
    exact k6 j x h
/-- the reference: one is thrown, and there is room -/
theorem ra_r {N : Nat} {r V : RS} {x1 x2 : Int32} (h0 : 0 ≤ (r.i 85).toInt) (h1 : (r.i 85).toInt < 3199) (g : f_X12_raise N r x1 x2 = some V) : (∀ j : Nat, j ≠ 85 → j ≠ 110 → j ≠ 114 → V.i j = r.i j) ∧ (V.i 110 = 3 ∧ V.i 114 = r.i 85 ∧ (V.i 85).toInt = (r.i 85).toInt + 1) ∧ (V.a 86 (r.i 85).toInt.toNat = x1 ∧ V.a 87 (r.i 85).toInt.toNat = x2 ∧ V.a 88 (r.i 85).toInt.toNat = 0) ∧ (∀ k : Nat, k ≠ 86 → k ≠ 87 → k ≠ 88 → V.a k = r.a k) ∧ ∀ k j : Nat, j ≠ (r.i 85).toInt.toNat → V.a k j = r.a k j := by
  have e3 : (3200 : Int32).toInt = 3200 := by decide
  unfold f_X12_raise f_X12_raise_24 at g
  rw [if_neg (Int32.not_le.mpr (by rw [Int32.lt_iff_toInt_lt, e3]; omega))] at g
  have g2 := (hf_ite g).2
  obtain ⟨t, ht⟩ : ∃ t : Nat, t = (r.i 85).toInt.toNat := ⟨_, rfl⟩
  have et : (r.i 85).toNatClampNeg = t := ht.symm
  have eV : V = RS.setI (RS.setA (RS.setA (RS.setA (RS.setI (RS.setI r 114 (r.i 85)) 85 (r.i 85 + 1)) 86 t x1) 87 t x2) 88 t 0) 110 3 := by
    rw [← Option.some.inj g2, ← et]
    rfl
  rw [← ht]
  have ad : (r.i 85 + 1).toInt = (r.i 85).toInt + 1 := ad1 h0 (by omega)
  refine ⟨fun j a b d => ?_, ⟨?_, ?_, ?_⟩, ⟨?_, ?_, ?_⟩, fun k a b d => ?_, fun k j hj => ?_⟩
  · rw [eV, ri_ne b]
    show (RS.setI (RS.setI r 114 (r.i 85)) 85 (r.i 85 + 1)).i j = r.i j
    rw [ri_ne a, ri_ne d]
  · rw [eV, ri_at]
  · rw [eV, ri_ne (by decide)]
    show (RS.setI (RS.setI r 114 (r.i 85)) 85 (r.i 85 + 1)).i 114 = r.i 85
    rw [ri_ne (by decide), ri_at]
  · rw [eV, ri_ne (by decide)]
    show ((RS.setI (RS.setI r 114 (r.i 85)) 85 (r.i 85 + 1)).i 85).toInt = (r.i 85).toInt + 1
    rw [ri_at, ad]
  · rw [eV]
    show (RS.setA (RS.setA (RS.setA (RS.setI (RS.setI r 114 (r.i 85)) 85 (r.i 85 + 1)) 86 t x1) 87 t x2) 88 t 0).a 86 t = x1
    rw [setA_nk (by decide), setA_nk (by decide), setA_at]
  · rw [eV]
    show (RS.setA (RS.setA (RS.setA (RS.setI (RS.setI r 114 (r.i 85)) 85 (r.i 85 + 1)) 86 t x1) 87 t x2) 88 t 0).a 87 t = x2
    rw [setA_nk (by decide), setA_at]
  · rw [eV]
    show (RS.setA (RS.setA (RS.setA (RS.setI (RS.setI r 114 (r.i 85)) 85 (r.i 85 + 1)) 86 t x1) 87 t x2) 88 t 0).a 88 t = 0
    rw [setA_at]
  · rw [eV]
    show (RS.setA (RS.setA (RS.setA (RS.setI (RS.setI r 114 (r.i 85)) 85 (r.i 85 + 1)) 86 t x1) 87 t x2) 88 t 0).a k = r.a k
    rw [setA_nk d, setA_nk b, setA_nk a]
    rfl
  · rw [eV]
    show (RS.setA (RS.setA (RS.setA (RS.setI (RS.setI r 114 (r.i 85)) 85 (r.i 85 + 1)) 86 t x1) 87 t x2) 88 t 0).a k j = r.a k j
    rw [setA_ne hj, setA_ne hj, setA_ne hj]
    rfl
/-- what a throw changes -/
def RAC (s S : CS) : Prop := (∀ j : Nat, j ≠ 73 → j ≠ 74 → j ≠ 75 → S.i j = s.i j) ∧ (S.i 73 = 4 ∧ S.i 75 = 0) ∧ S.a = s.a ∧ S.r 61 = s.r 61
def RAV (r V : RS) : Prop := (∀ j : Nat, j ≠ 85 → j ≠ 110 → j ≠ 114 → V.i j = r.i j) ∧ (V.i 110 = 3 ∧ (V.i 85).toInt = (r.i 85).toInt + 1) ∧ ∀ k : Nat, k ≠ 86 → k ≠ 87 → k ≠ 88 → V.a k = r.a k
theorem ra_both {N H : Nat} (hN : 1000 ≤ N) {s : CS} {r V : RS} {R : Unit × CS} {mu : Nat → Nat} {c : List Ent} {m : Int} {x1 x2 : Int32} (hr : REFS s) (hm : ROOM H s) (d67 : (s.i 67).toInt = (frs c : Int)) (d22 : frs c ≤ 22) (hmu : MUI r mu) (h0 : 0 ≤ (r.i 85).toInt) (h1 : (r.i 85).toInt < 3199) (k0 : 0 ≤ x1.toInt) (k1 : x1.toInt < (r.i 3).toInt) (e : f_X3_raise N s x1 x2 = some R) (g : f_X12_raise N r x1 x2 = some V) : ∃ (nu : Nat → Nat) (b : Nat), FEQ s R.2 r V mu nu c m ∧ MUI V nu ∧ (R.2.w = some b ∧ (V.i 114).toInt = (nu b : Int) ∧ TLV R.2 V nu b) ∧ RAC s R.2 ∧ RAV r V := by
  obtain ⟨b, nh, ⟨rs1, rs2, rs3, rs4, rs5, rs6, rs7, rs8, rs9, rs10⟩, hw, ⟨o2, o3, o4⟩, i74, hx, hp⟩ := ra_c hN hr hm (by unfold dpI; omega) (by unfold dpI; omega) e
  obtain ⟨v1, ⟨v2, v3, v4⟩, ⟨v5, v6, v7⟩, v8, v9⟩ := ra_r h0 h1 g
  obtain ⟨t, ht⟩ : ∃ t : Nat, t = (r.i 85).toInt.toNat := ⟨_, rfl⟩
  have ht' : (r.i 85).toInt = (t : Int) := by omega
  rw [← ht] at v5 v6 v7 v9
  have nb : (fun x => if x = b then t else mu x) b = t := if_pos rfl
  have nx : ∀ x : Nat, x ≠ b → (fun x => if x = b then t else mu x) x = mu x := fun x h => if_neg h
  have held : ∀ b' : Nat, HLB s c b' → b' ≠ b := fun b' ⟨i, f, q1, q2, q3⟩ z => nh ⟨i, f, by unfold dpI; omega, by omega, q2, by rw [← z]; exact q3⟩
  have fl : ∀ i f : Nat, i < frs c → s.r 61 i = some f → oK s f 1 := fun i f h1 h2 => hr.2.2.2.1 i f (by omega) h2
  have inn : inP R.2 b := rs1.2.2.2.2.2.2.2.2 b hw
  have c0 : (0 : Int32).toInt = 0 := by decide
  refine ⟨fun x => if x = b then t else mu x, b, ⟨fun i f hi hf => ⟨by rw [rs9]; exact hf, (rs10 f (fl i f hi hf)).2⟩, fun b' hb tl => ?_, ⟨by rw [rs8], v8 21 (by decide) (by decide) (by decide), v8 23 (by decide) (by decide) (by decide), v8 31 (by decide) (by decide) (by decide), v8 32 (by decide) (by decide) (by decide)⟩, fun j k q1 q2 _ => by rw [v8 j (by omega) (by omega) (by omega)], fun a ha => ⟨fun k _ => by rw [rs8], fun l _ => by rw [v8 84 (by decide) (by decide) (by decide)]⟩, fun j _ => by rw [v8 98 (by decide) (by decide) (by decide)]⟩, ⟨fun x => ?_, fun x x' q1 q2 q3 => ?_⟩, ⟨hw, by rw [v3, nb]; exact ht', ⟨⟨?_, ?_, fun i hi => ?_⟩, by rw [nb]; omega, inn, ?_⟩⟩, ⟨rs4, ⟨rs5, rs6⟩, rs8, rs9⟩, v1, ⟨v2, v4⟩, v8⟩
  · have hne := held b' hb
    obtain ⟨j, j1, j2⟩ := tl.2.2.1
    obtain ⟨l1, l2, l3⟩ := hr.2.2.2.2.2.1 j b' j1 j2
    have m1 := hr.1 _ l1.1
    have m2 := hr.1 _ l2.1
    have m3 := hr.1 _ l3.1
    have lt := tl.2.1
    have ne : mu b' ≠ t := by omega
    have ek : ∀ k : Nat, V.a k (mu b') = r.a k (mu b') := fun k => v9 k _ ne
    have T1 : TLV R.2 V mu b' := TLV.of ((hx b' m1).1 hne) (hx _ m2).2.2 (hx _ m3).2.2 (fun _ => ⟨j, j1, hp j b' j2⟩) (by omega) (ek 86) (ek 87) (ek 88) (fun i _ => by rw [v8 89 (by decide) (by decide) (by decide)]) (fun i _ => by rw [v8 90 (by decide) (by decide) (by decide)]) (v1 3 (by decide) (by decide) (by decide)) tl
    refine ⟨?_, nx b' hne, ek 87⟩
    unfold TLV at *
    rw [nx b' hne]
    exact T1
  · by_cases z : x = b
    · left
      rw [z, nb]
      omega
    · rw [nx x z]
      rcases hmu.1 x with y | y
      · left
        omega
      · exact Or.inr y
  · by_cases z : x = b
    · by_cases z' : x' = b
      · rw [z, z']
      · rw [nx x' z'] at q2 q3
        rw [z, nb] at q3
        rcases hmu.1 x' with y | y <;> omega
    · rw [nx x z] at q1 q3
      by_cases z' : x' = b
      · rw [z', nb] at q3
        rcases hmu.1 x with y | y <;> omega
      · rw [nx x' z'] at q2 q3
        rcases hmu.1 x with y | y
        · rcases hmu.1 x' with y' | y'
          · exact hmu.2 x x' y y' q3
          · omega
        · omega
  · rw [nb]
    exact ⟨o2.trans v5.symm, o3.trans v6.symm, o4.trans v7.symm⟩
  · rw [nb, v7, c0]
    exact ⟨Int.le_refl _, by decide⟩
  · rw [nb, v7, c0] at hi
    omega
  · rw [nb, v5, v1 3 (by decide) (by decide) (by decide)]
    exact ⟨k0, k1⟩
end
