/-! the class: what the reading leaves alone -/
def Kp4 {α : Type} (n m k : Int32) (f : Nat → Int32) (t : Option (α × CS)) : Prop := ∀ R, t = some R → CS.i R.2 5 = n ∧ CS.i R.2 13 = m ∧ CS.i R.2 14 = k ∧ CS.a R.2 9 = f
theorem kp4_some {α : Type} {n m k : Int32} {f : Nat → Int32} {r : α × CS} (h : CS.i r.2 5 = n ∧ CS.i r.2 13 = m ∧ CS.i r.2 14 = k ∧ CS.a r.2 9 = f) : Kp4 n m k f (some r) := fun R q => by
  cases q
  exact h
theorem kp4_none {α : Type} {n m k : Int32} {f : Nat → Int32} : Kp4 n m k f (none : Option (α × CS)) := fun R q => by cases q
theorem kp4_ite {α : Type} {n m k : Int32} {f : Nat → Int32} {c : Prop} [Decidable c] {x y : Option (α × CS)} (hx : Kp4 n m k f x) (hy : Kp4 n m k f y) : Kp4 n m k f (if c then x else y) := by
  by_cases h : c
  · rw [if_pos h]; exact hx
  · rw [if_neg h]; exact hy
theorem kp4_bind {α β : Type} {n m k : Int32} {f : Nat → Int32} {x : Option (α × CS)} {g : α × CS → Option (β × CS)} (hx : Kp4 n m k f x) (hk : ∀ p : α × CS, Kp4 (CS.i p.2 5) (CS.i p.2 13) (CS.i p.2 14) (CS.a p.2 9) (g p)) : Kp4 n m k f (x.bind g) := by
  intro R h
  cases hx' : x with
  | none => rw [hx'] at h; cases h
  | some p =>
    rw [hx'] at h
    obtain ⟨a1, a2, a3, a4⟩ := hx p hx'
    obtain ⟨b1, b2, b3, b4⟩ := hk p R h
    exact ⟨b1.trans a1, b2.trans a2, b3.trans a3, b4.trans a4⟩
theorem kp4_oc {α β : Type} {n m k : Int32} {f : Nat → Int32} {r : Option α} {x : Option (β × CS)} {g : α → Option (β × CS)} (hx : Kp4 n m k f x) (hf : ∀ a, Kp4 n m k f (g a)) : Kp4 n m k f (oCase r x g) := by
  cases r with
  | none => exact hx
  | some a => exact hf a
theorem kp4_le {α : Type} {n m k n' m' k' : Int32} {f f' : Nat → Int32} {t : Option (α × CS)} (h : n = n' ∧ m = m' ∧ k = k' ∧ f = f') (ht : Kp4 n m k f t) : Kp4 n' m' k' f' t := by rw [← h.1, ← h.2.1, ← h.2.2.1, ← h.2.2.2]; exact ht
theorem k4_X0_clear (N : Nat) (σ : CS) : Kp4 (CS.i σ 5) (CS.i σ 13) (CS.i σ 14) (CS.a σ 9) (f_X0_clear N σ) := by
  unfold f_X0_clear
  exact (kp4_some (⟨rfl, rfl, rfl, rfl⟩))
theorem k4_X0_add (N : Nat) (σ : CS) (x1 : Int32) (x2 : Int32) : Kp4 (CS.i σ 5) (CS.i σ 13) (CS.i σ 14) (CS.a σ 9) (f_X0_add N σ x1 x2) := by
  unfold f_X0_add
  exact (kp4_some (⟨rfl, rfl, rfl, rfl⟩))
theorem k4_X0_newTarget (N : Nat) (σ : CS) : Kp4 (CS.i σ 5) (CS.i σ 13) (CS.i σ 14) (CS.a σ 9) (f_X0_newTarget N σ) := by
  unfold f_X0_newTarget
  exact (kp4_some (⟨rfl, rfl, rfl, rfl⟩))
theorem k4_X0_aim (N : Nat) (σ : CS) (x1 : Int32) : Kp4 (CS.i σ 5) (CS.i σ 13) (CS.i σ 14) (CS.a σ 9) (f_X0_aim N σ x1) := by
  unfold f_X0_aim
  exact (kp4_some (⟨rfl, rfl, rfl, rfl⟩))
theorem k4_X0_newCells (N : Nat) (σ : CS) (x1 : Int32) : Kp4 (CS.i σ 5) (CS.i σ 13) (CS.i σ 14) (CS.a σ 9) (f_X0_newCells N σ x1) := by
  unfold f_X0_newCells
  exact (kp4_some (⟨rfl, rfl, rfl, rfl⟩))
theorem kb4_X0_hasCase_2 (N : Nat) (K : CS → Int32 → Int32 → Option (Int32 × CS)) (hMK : ∀ (σ : CS) (x2 : Int32) (x3 : Int32), Kp4 (CS.i σ 5) (CS.i σ 13) (CS.i σ 14) (CS.a σ 9) (K σ x2 x3)) (σ : CS) (x2 : Int32) (x3 : Int32) : Kp4 (CS.i σ 5) (CS.i σ 13) (CS.i σ 14) (CS.a σ 9) (b_X0_hasCase_2 N K σ x2 x3) := by
  unfold b_X0_hasCase_2
  exact (kp4_ite (kp4_some (⟨rfl, rfl, rfl, rfl⟩)) (kp4_ite (kp4_some (⟨rfl, rfl, rfl, rfl⟩)) (hMK σ x2 (x3 + 1))))
theorem k4_X0_hasCase_2 (N : Nat) : ∀ (n : Nat) (σ : CS) (x2 : Int32) (x3 : Int32), Kp4 (CS.i σ 5) (CS.i σ 13) (CS.i σ 14) (CS.a σ 9) (f_X0_hasCase_2 N n σ x2 x3)
  | 0, _, _, _ => kp4_none
  | n+1, σ, x2, x3 => kb4_X0_hasCase_2 N (f_X0_hasCase_2 N n) (fun σ x2 x3 => k4_X0_hasCase_2 N n σ x2 x3) σ x2 x3
theorem k4_X0_hasCase (N : Nat) (σ : CS) (x1 : Int32) (x2 : Int32) : Kp4 (CS.i σ 5) (CS.i σ 13) (CS.i σ 14) (CS.a σ 9) (f_X0_hasCase N σ x1 x2) := by
  unfold f_X0_hasCase
  exact (k4_X0_hasCase_2 N N σ x2 x1)
theorem k4_X0_addCase (N : Nat) (σ : CS) (x1 : Int32) (x2 : Int32) : Kp4 (CS.i σ 5) (CS.i σ 13) (CS.i σ 14) (CS.a σ 9) (f_X0_addCase N σ x1 x2) := by
  unfold f_X0_addCase
  exact (kp4_some (⟨rfl, rfl, rfl, rfl⟩))
theorem kb4_X0_addCases_2 (N : Nat) (K : CS → Int32 → Int32 → Int32 → Option (Unit × CS)) (hMK : ∀ (σ : CS) (x1 : Int32) (x2 : Int32) (x3 : Int32), Kp4 (CS.i σ 5) (CS.i σ 13) (CS.i σ 14) (CS.a σ 9) (K σ x1 x2 x3)) (σ : CS) (x1 : Int32) (x2 : Int32) (x3 : Int32) : Kp4 (CS.i σ 5) (CS.i σ 13) (CS.i σ 14) (CS.a σ 9) (b_X0_addCases_2 N K σ x1 x2 x3) := by
  unfold b_X0_addCases_2
  exact (kp4_ite (kp4_bind (k4_X0_add N (CS.setI σ 22 x1) 6 0) (fun p2 => (kp4_bind (k4_X0_add N p2.2 30 x2) (fun p6 => (kp4_some (⟨rfl, rfl, rfl, rfl⟩)))))) (kp4_bind (k4_X0_add N σ 0 (gAt (σ.a 18) 320 x3)) (fun p11 => (kp4_bind (k4_X0_add N p11.2 34 (gAt (p11.2.a 19) 320 x3)) (fun p16 => (hMK p16.2 x1 x2 (x3 + 1)))))))
theorem k4_X0_addCases_2 (N : Nat) : ∀ (n : Nat) (σ : CS) (x1 : Int32) (x2 : Int32) (x3 : Int32), Kp4 (CS.i σ 5) (CS.i σ 13) (CS.i σ 14) (CS.a σ 9) (f_X0_addCases_2 N n σ x1 x2 x3)
  | 0, _, _, _, _ => kp4_none
  | n+1, σ, x1, x2, x3 => kb4_X0_addCases_2 N (f_X0_addCases_2 N n) (fun σ x1 x2 x3 => k4_X0_addCases_2 N n σ x1 x2 x3) σ x1 x2 x3
theorem k4_X0_addCases (N : Nat) (σ : CS) (x1 : Int32) (x2 : Int32) : Kp4 (CS.i σ 5) (CS.i σ 13) (CS.i σ 14) (CS.a σ 9) (f_X0_addCases N σ x1 x2) := by
  unfold f_X0_addCases
  exact (k4_X0_addCases_2 N N σ x1 x2 x1)
theorem k4_X9_stop (N : Nat) (σ : CS) : Kp4 (CS.i σ 5) (CS.i σ 13) (CS.i σ 14) (CS.a σ 9) (f_X9_stop N σ) := by
  unfold f_X9_stop
  exact (kp4_some (⟨rfl, rfl, rfl, rfl⟩))
theorem k4_X1_fail (N : Nat) (σ : CS) (x1 : Int32) (x2 : Int32) : Kp4 (CS.i σ 5) (CS.i σ 13) (CS.i σ 14) (CS.a σ 9) (f_X1_fail N σ x1 x2) := by
  unfold f_X1_fail
  exact (kp4_ite (kp4_bind (k4_X9_stop N (CS.setI (CS.setI σ 32 x1) 33 x2)) (fun p2 => (kp4_some (⟨rfl, rfl, rfl, rfl⟩)))) (kp4_some (⟨rfl, rfl, rfl, rfl⟩)))
theorem k4_X1_found (N : Nat) (σ : CS) (x1 : Int32) : Kp4 (CS.i σ 5) (CS.i σ 13) (CS.i σ 14) (CS.a σ 9) (f_X1_found N σ x1) := by
  unfold f_X1_found
  exact (kp4_ite (kp4_some (⟨rfl, rfl, rfl, rfl⟩)) (kp4_some (⟨rfl, rfl, rfl, rfl⟩)))
theorem k4_X1_misplaced (N : Nat) (σ : CS) : Kp4 (CS.i σ 5) (CS.i σ 13) (CS.i σ 14) (CS.a σ 9) (f_X1_misplaced N σ) := by
  unfold f_X1_misplaced
  exact (kp4_bind (k4_X1_found N σ 6) (fun p1 => (kp4_ite (kp4_bind (k4_X1_fail N p1.2 2 (p1.2.i 44)) (fun p6 => (kp4_some (⟨rfl, rfl, rfl, rfl⟩)))) (kp4_bind (k4_X1_fail N p1.2 1 (p1.2.i 44)) (fun p10 => (kp4_some (⟨rfl, rfl, rfl, rfl⟩)))))))
theorem k4_X9_byteAt_30 (N : Nat) (σ : CS) : Kp4 (CS.i σ 5) (CS.i σ 13) (CS.i σ 14) (CS.a σ 9) (f_X9_byteAt_30 N σ ) := by
  unfold f_X9_byteAt_30
  exact (kp4_some (⟨rfl, rfl, rfl, rfl⟩))
theorem k4_X9_byteAt (N : Nat) (σ : CS) (x1 : Int32) : Kp4 (CS.i σ 5) (CS.i σ 13) (CS.i σ 14) (CS.a σ 9) (f_X9_byteAt N σ x1) := by
  unfold f_X9_byteAt
  exact (kp4_ite (k4_X9_byteAt_30 N σ) (kp4_ite (k4_X9_byteAt_30 N σ) (kp4_ite (k4_X9_byteAt_30 N σ) (kp4_ite (kp4_some (⟨rfl, rfl, rfl, rfl⟩)) kp4_none))))
theorem k4_X9_isDigit_16 (N : Nat) (σ : CS) : Kp4 (CS.i σ 5) (CS.i σ 13) (CS.i σ 14) (CS.a σ 9) (f_X9_isDigit_16 N σ ) := by
  unfold f_X9_isDigit_16
  exact (kp4_some (⟨rfl, rfl, rfl, rfl⟩))
theorem k4_X9_isDigit (N : Nat) (σ : CS) (x0 : Int32) : Kp4 (CS.i σ 5) (CS.i σ 13) (CS.i σ 14) (CS.a σ 9) (f_X9_isDigit N σ x0) := by
  unfold f_X9_isDigit
  exact (kp4_ite (k4_X9_isDigit_16 N σ) (kp4_ite (k4_X9_isDigit_16 N σ) (kp4_some (⟨rfl, rfl, rfl, rfl⟩))))
theorem k4_X9_takeNumber_67 (N : Nat) (σ : CS) : Kp4 (CS.i σ 5) (CS.i σ 13) (CS.i σ 14) (CS.a σ 9) (f_X9_takeNumber_67 N σ ) := by
  unfold f_X9_takeNumber_67
  exact (kp4_ite (kp4_some (⟨rfl, rfl, rfl, rfl⟩)) (kp4_some (⟨rfl, rfl, rfl, rfl⟩)))
theorem kb4_X9_takeNumber_7 (N : Nat) (K : CS → Int32 → Option (Unit × CS)) (hMK : ∀ (σ : CS) (x1 : Int32), Kp4 (CS.i σ 5) (CS.i σ 13) (CS.i σ 14) (CS.a σ 9) (K σ x1)) (σ : CS) (x1 : Int32) : Kp4 (CS.i σ 5) (CS.i σ 13) (CS.i σ 14) (CS.a σ 9) (b_X9_takeNumber_7 N K σ x1) := by
  unfold b_X9_takeNumber_7
  exact (kp4_ite (k4_X9_takeNumber_67 N σ) (kp4_bind (k4_X9_byteAt N σ (σ.i 42)) (fun p3 => (kp4_bind (k4_X9_isDigit N p3.2 p3.1) (fun p7 => (kp4_ite (k4_X9_takeNumber_67 N p7.2) (kp4_bind (k4_X9_byteAt N p7.2 (p7.2.i 42)) (fun p12 => (hMK (CS.setI (CS.setI p12.2 45 ((((p7.2.i 45) * 10) + p12.1) - 48)) 42 ((p12.2.i 42) + 1)) (x1 + 1))))))))))
theorem k4_X9_takeNumber_7 (N : Nat) : ∀ (n : Nat) (σ : CS) (x1 : Int32), Kp4 (CS.i σ 5) (CS.i σ 13) (CS.i σ 14) (CS.a σ 9) (f_X9_takeNumber_7 N n σ x1)
  | 0, _, _ => kp4_none
  | n+1, σ, x1 => kb4_X9_takeNumber_7 N (f_X9_takeNumber_7 N n) (fun σ x1 => k4_X9_takeNumber_7 N n σ x1) σ x1
theorem k4_X9_takeNumber (N : Nat) (σ : CS) : Kp4 (CS.i σ 5) (CS.i σ 13) (CS.i σ 14) (CS.a σ 9) (f_X9_takeNumber N σ) := by
  unfold f_X9_takeNumber
  exact (k4_X9_takeNumber_7 N N (CS.setI σ 45 0) 0)
theorem k4_X9_isLetter_16 (N : Nat) (σ : CS) : Kp4 (CS.i σ 5) (CS.i σ 13) (CS.i σ 14) (CS.a σ 9) (f_X9_isLetter_16 N σ ) := by
  unfold f_X9_isLetter_16
  exact (kp4_some (⟨rfl, rfl, rfl, rfl⟩))
theorem k4_X9_isLetter (N : Nat) (σ : CS) (x0 : Int32) : Kp4 (CS.i σ 5) (CS.i σ 13) (CS.i σ 14) (CS.a σ 9) (f_X9_isLetter N σ x0) := by
  unfold f_X9_isLetter
  exact (kp4_ite (k4_X9_isLetter_16 N σ) (kp4_ite (k4_X9_isLetter_16 N σ) (kp4_some (⟨rfl, rfl, rfl, rfl⟩))))
theorem k4_X9_rowType_171 (N : Nat) (σ : CS) (x6 : Int64) : Kp4 (CS.i σ 5) (CS.i σ 13) (CS.i σ 14) (CS.a σ 9) (f_X9_rowType_171 N σ x6) := by
  unfold f_X9_rowType_171
  exact (kp4_ite (kp4_ite (kp4_some (⟨rfl, rfl, rfl, rfl⟩)) (kp4_some (⟨rfl, rfl, rfl, rfl⟩))) (kp4_ite (kp4_ite (kp4_some (⟨rfl, rfl, rfl, rfl⟩)) (kp4_ite (kp4_some (⟨rfl, rfl, rfl, rfl⟩)) (kp4_some (⟨rfl, rfl, rfl, rfl⟩)))) (kp4_some (⟨rfl, rfl, rfl, rfl⟩))))
theorem k4_X9_rowType_153 (N : Nat) (σ : CS) (x2 : Int64) (x4 : Int32) (x6 : Int64) : Kp4 (CS.i σ 5) (CS.i σ 13) (CS.i σ 14) (CS.a σ 9) (f_X9_rowType_153 N σ x2 x4 x6) := by
  unfold f_X9_rowType_153
  exact (kp4_ite (k4_X9_rowType_171 N (CS.setI σ 45 (((x2 : Int64).toInt32) + 10)) x6) (k4_X9_rowType_171 N (CS.setI σ 45 (((x2 : Int64).toInt32) + 0)) x6))
theorem k4_X9_rowType_129 (N : Nat) (σ : CS) (x2 : Int64) (x4 : Int32) : Kp4 (CS.i σ 5) (CS.i σ 13) (CS.i σ 14) (CS.a σ 9) (f_X9_rowType_129 N σ x2 x4) := by
  unfold f_X9_rowType_129
  exact (kp4_ite (k4_X9_rowType_153 N σ x2 x4 (σ.l >>> ((16 : Int32).toInt64 &&& 63))) (k4_X9_rowType_153 N σ x2 x4 (σ.l >>> ((8 : Int32).toInt64 &&& 63))))
theorem k4_X9_rowType_117 (N : Nat) (σ : CS) (x2 : Int64) (x4 : Int32) (x5 : Int32) : Kp4 (CS.i σ 5) (CS.i σ 13) (CS.i σ 14) (CS.a σ 9) (f_X9_rowType_117 N σ x2 x4 x5) := by
  unfold f_X9_rowType_117
  exact (kp4_ite (kp4_ite (kp4_some (⟨rfl, rfl, rfl, rfl⟩)) (k4_X9_rowType_129 N σ x2 x4)) (k4_X9_rowType_129 N σ x2 x4))
theorem k4_X9_rowType_114 (N : Nat) (σ : CS) (x2 : Int64) (x4 : Int32) : Kp4 (CS.i σ 5) (CS.i σ 13) (CS.i σ 14) (CS.a σ 9) (f_X9_rowType_114 N σ x2 x4) := by
  unfold f_X9_rowType_114
  exact (k4_X9_rowType_117 N σ x2 x4 0)
theorem k4_X9_rowType_73 (N : Nat) (σ : CS) (x1 : Int32) (x2 : Int64) (x4 : Int32) : Kp4 (CS.i σ 5) (CS.i σ 13) (CS.i σ 14) (CS.a σ 9) (f_X9_rowType_73 N σ x1 x2 x4) := by
  unfold f_X9_rowType_73
  exact (kp4_ite (kp4_ite (k4_X9_rowType_114 N σ x2 x4) (kp4_ite (k4_X9_rowType_114 N σ x2 x4) (kp4_ite (k4_X9_rowType_117 N σ x2 x4 1) (k4_X9_rowType_114 N σ x2 x4)))) (k4_X9_rowType_114 N σ x2 x4))
theorem k4_X9_rowType_70 (N : Nat) (σ : CS) (x1 : Int32) (x2 : Int64) : Kp4 (CS.i σ 5) (CS.i σ 13) (CS.i σ 14) (CS.a σ 9) (f_X9_rowType_70 N σ x1 x2) := by
  unfold f_X9_rowType_70
  exact (k4_X9_rowType_73 N σ x1 x2 0)
theorem kb4_X9_rowType_2 (N : Nat) (K : CS → Int32 → Int32 → Option (Int32 × CS)) (hMK : ∀ (σ : CS) (x1 : Int32) (x2 : Int32), Kp4 (CS.i σ 5) (CS.i σ 13) (CS.i σ 14) (CS.a σ 9) (K σ x1 x2)) (σ : CS) (x1 : Int32) (x2 : Int32) : Kp4 (CS.i σ 5) (CS.i σ 13) (CS.i σ 14) (CS.a σ 9) (b_X9_rowType_2 N K σ x1 x2) := by
  unfold b_X9_rowType_2
  exact (kp4_ite (kp4_ite (kp4_ite (k4_X9_rowType_70 N σ x1 ((σ.l &&& 255) - 48)) (kp4_ite (k4_X9_rowType_70 N σ x1 ((σ.l &&& 255) - 48)) (k4_X9_rowType_73 N σ x1 ((σ.l &&& 255) - 48) 1))) (k4_X9_rowType_70 N σ x1 ((σ.l &&& 255) - 48))) (kp4_ite (kp4_ite (kp4_some (⟨rfl, rfl, rfl, rfl⟩)) (hMK σ x1 (x2 + 1))) kp4_none))
theorem k4_X9_rowType_2 (N : Nat) : ∀ (n : Nat) (σ : CS) (x1 : Int32) (x2 : Int32), Kp4 (CS.i σ 5) (CS.i σ 13) (CS.i σ 14) (CS.a σ 9) (f_X9_rowType_2 N n σ x1 x2)
  | 0, _, _, _ => kp4_none
  | n+1, σ, x1, x2 => kb4_X9_rowType_2 N (f_X9_rowType_2 N n) (fun σ x1 x2 => k4_X9_rowType_2 N n σ x1 x2) σ x1 x2
theorem k4_X9_rowType (N : Nat) (σ : CS) (x1 : Int32) : Kp4 (CS.i σ 5) (CS.i σ 13) (CS.i σ 14) (CS.a σ 9) (f_X9_rowType N σ x1) := by
  unfold f_X9_rowType
  exact (k4_X9_rowType_2 N N σ x1 0)
theorem k4_X9_takeRow_79 (N : Nat) (σ : CS) : Kp4 (CS.i σ 5) (CS.i σ 13) (CS.i σ 14) (CS.a σ 9) (f_X9_takeRow_79 N σ ) := by
  unfold f_X9_takeRow_79
  exact (kp4_ite (kp4_bind (k4_X9_rowType N σ ((σ.i 42) - (σ.i 44))) (fun p3 => (kp4_some (⟨rfl, rfl, rfl, rfl⟩)))) (kp4_some (⟨rfl, rfl, rfl, rfl⟩)))
theorem kb4_X9_takeRow_7 (N : Nat) (K : CS → Int32 → Option (Unit × CS)) (hMK : ∀ (σ : CS) (x1 : Int32), Kp4 (CS.i σ 5) (CS.i σ 13) (CS.i σ 14) (CS.a σ 9) (K σ x1)) (σ : CS) (x1 : Int32) : Kp4 (CS.i σ 5) (CS.i σ 13) (CS.i σ 14) (CS.a σ 9) (b_X9_takeRow_7 N K σ x1) := by
  unfold b_X9_takeRow_7
  exact (kp4_ite (k4_X9_takeRow_79 N σ) (kp4_bind (k4_X9_byteAt N σ (σ.i 42)) (fun p7 => (kp4_bind (k4_X9_isDigit N p7.2 p7.1) (fun p11 => (kp4_ite (kp4_bind (k4_X9_byteAt N p11.2 (p11.2.i 42)) (fun p20 => (kp4_bind (k4_X9_isLetter N p20.2 p20.1) (fun p24 => (kp4_ite (k4_X9_takeRow_79 N p24.2) (kp4_bind (k4_X9_byteAt N p24.2 (p24.2.i 42)) (fun p29 => (hMK (CS.setI (CS.setL p29.2 ((p24.2.l <<< ((8 : Int32).toInt64 &&& 63)) ||| (p29.1 : Int32).toInt64)) 42 ((p29.2.i 42) + 1)) (x1 + 1))))))))) (kp4_bind (k4_X9_byteAt N p11.2 (p11.2.i 42)) (fun p16 => (hMK (CS.setI (CS.setL p16.2 ((p11.2.l <<< ((8 : Int32).toInt64 &&& 63)) ||| (p16.1 : Int32).toInt64)) 42 ((p16.2.i 42) + 1)) (x1 + 1))))))))))
theorem k4_X9_takeRow_7 (N : Nat) : ∀ (n : Nat) (σ : CS) (x1 : Int32), Kp4 (CS.i σ 5) (CS.i σ 13) (CS.i σ 14) (CS.a σ 9) (f_X9_takeRow_7 N n σ x1)
  | 0, _, _ => kp4_none
  | n+1, σ, x1 => kb4_X9_takeRow_7 N (f_X9_takeRow_7 N n) (fun σ x1 => k4_X9_takeRow_7 N n σ x1) σ x1
theorem k4_X9_takeRow (N : Nat) (σ : CS) : Kp4 (CS.i σ 5) (CS.i σ 13) (CS.i σ 14) (CS.a σ 9) (f_X9_takeRow N σ) := by
  unfold f_X9_takeRow
  exact (k4_X9_takeRow_7 N N (CS.setL σ 0) 0)
theorem k4_X9_longSign_73 (N : Nat) (σ : CS) (x0 : Int32) (x1 : Int32) : Kp4 (CS.i σ 5) (CS.i σ 13) (CS.i σ 14) (CS.a σ 9) (f_X9_longSign_73 N σ x0 x1) := by
  unfold f_X9_longSign_73
  exact (kp4_ite (kp4_ite (kp4_some (⟨rfl, rfl, rfl, rfl⟩)) (kp4_ite (kp4_some (⟨rfl, rfl, rfl, rfl⟩)) (kp4_ite (kp4_some (⟨rfl, rfl, rfl, rfl⟩)) (kp4_some (⟨rfl, rfl, rfl, rfl⟩))))) (kp4_some (⟨rfl, rfl, rfl, rfl⟩)))
theorem k4_X9_longSign (N : Nat) (σ : CS) (x0 : Int32) (x1 : Int32) : Kp4 (CS.i σ 5) (CS.i σ 13) (CS.i σ 14) (CS.a σ 9) (f_X9_longSign N σ x0 x1) := by
  unfold f_X9_longSign
  exact (kp4_ite (kp4_ite (kp4_some (⟨rfl, rfl, rfl, rfl⟩)) (kp4_ite (kp4_some (⟨rfl, rfl, rfl, rfl⟩)) (kp4_ite (kp4_some (⟨rfl, rfl, rfl, rfl⟩)) (kp4_ite (kp4_some (⟨rfl, rfl, rfl, rfl⟩)) (kp4_some (⟨rfl, rfl, rfl, rfl⟩)))))) (kp4_ite (kp4_ite (kp4_some (⟨rfl, rfl, rfl, rfl⟩)) (k4_X9_longSign_73 N σ x0 x1)) (k4_X9_longSign_73 N σ x0 x1)))
theorem k4_X9_isSign (N : Nat) (σ : CS) (x0 : Int32) : Kp4 (CS.i σ 5) (CS.i σ 13) (CS.i σ 14) (CS.a σ 9) (f_X9_isSign N σ x0) := by
  unfold f_X9_isSign
  exact (kp4_ite (kp4_some (⟨rfl, rfl, rfl, rfl⟩)) (kp4_ite (kp4_some (⟨rfl, rfl, rfl, rfl⟩)) (kp4_ite (kp4_some (⟨rfl, rfl, rfl, rfl⟩)) (kp4_ite (kp4_some (⟨rfl, rfl, rfl, rfl⟩)) (kp4_ite (kp4_some (⟨rfl, rfl, rfl, rfl⟩)) (kp4_ite (kp4_some (⟨rfl, rfl, rfl, rfl⟩)) (kp4_ite (kp4_some (⟨rfl, rfl, rfl, rfl⟩)) (kp4_ite (kp4_some (⟨rfl, rfl, rfl, rfl⟩)) (kp4_ite (kp4_some (⟨rfl, rfl, rfl, rfl⟩)) (kp4_ite (kp4_some (⟨rfl, rfl, rfl, rfl⟩)) (kp4_ite (kp4_some (⟨rfl, rfl, rfl, rfl⟩)) (kp4_ite (kp4_some (⟨rfl, rfl, rfl, rfl⟩)) (kp4_ite (kp4_some (⟨rfl, rfl, rfl, rfl⟩)) (kp4_ite (kp4_some (⟨rfl, rfl, rfl, rfl⟩)) (kp4_ite (kp4_some (⟨rfl, rfl, rfl, rfl⟩)) (kp4_ite (kp4_some (⟨rfl, rfl, rfl, rfl⟩)) (kp4_ite (kp4_some (⟨rfl, rfl, rfl, rfl⟩)) (kp4_ite (kp4_some (⟨rfl, rfl, rfl, rfl⟩)) (kp4_ite (kp4_some (⟨rfl, rfl, rfl, rfl⟩)) (kp4_some (⟨rfl, rfl, rfl, rfl⟩)))))))))))))))))))))
theorem k4_X9_takeSign (N : Nat) (σ : CS) : Kp4 (CS.i σ 5) (CS.i σ 13) (CS.i σ 14) (CS.a σ 9) (f_X9_takeSign N σ) := by
  unfold f_X9_takeSign
  exact (kp4_bind (k4_X9_byteAt N σ (σ.i 42)) (fun p1 => (kp4_bind (k4_X9_byteAt N p1.2 ((p1.2.i 42) + 1)) (fun p5 => (kp4_bind (k4_X9_longSign N p5.2 p1.1 p5.1) (fun p9 => (kp4_ite (kp4_bind (k4_X9_isSign N (CS.setI (CS.setI p9.2 43 p9.1) 42 ((p9.2.i 42) + 1)) p1.1) (fun p14 => (kp4_ite (kp4_some (⟨rfl, rfl, rfl, rfl⟩)) (kp4_some (⟨rfl, rfl, rfl, rfl⟩))))) (kp4_some (⟨rfl, rfl, rfl, rfl⟩)))))))))
theorem k4_X9_advance_51 (N : Nat) (σ : CS) : Kp4 (CS.i σ 5) (CS.i σ 13) (CS.i σ 14) (CS.a σ 9) (f_X9_advance_51 N σ ) := by
  unfold f_X9_advance_51
  exact (kp4_ite (kp4_bind (k4_X9_byteAt N (CS.setI σ 44 (σ.i 42)) (σ.i 42)) (fun p3 => (kp4_bind (k4_X9_isDigit N p3.2 p3.1) (fun p7 => (kp4_ite (kp4_bind (k4_X9_byteAt N p7.2 (p7.2.i 42)) (fun p12 => (kp4_bind (k4_X9_isLetter N p12.2 p12.1) (fun p16 => (kp4_ite (kp4_bind (k4_X9_takeSign N p16.2) (fun p21 => (kp4_some (⟨rfl, rfl, rfl, rfl⟩)))) (kp4_bind (k4_X9_takeRow N p16.2) (fun p25 => (kp4_some (⟨rfl, rfl, rfl, rfl⟩))))))))) (kp4_bind (k4_X9_takeNumber N p7.2) (fun p29 => (kp4_some (⟨rfl, rfl, rfl, rfl⟩))))))))) (kp4_some (⟨rfl, rfl, rfl, rfl⟩)))
theorem kb4_X9_advance_2 (N : Nat) (K : CS → Int32 → Option (Unit × CS)) (hMK : ∀ (σ : CS) (x1 : Int32), Kp4 (CS.i σ 5) (CS.i σ 13) (CS.i σ 14) (CS.a σ 9) (K σ x1)) (σ : CS) (x1 : Int32) : Kp4 (CS.i σ 5) (CS.i σ 13) (CS.i σ 14) (CS.a σ 9) (b_X9_advance_2 N K σ x1) := by
  unfold b_X9_advance_2
  exact (kp4_ite (k4_X9_advance_51 N σ) (kp4_bind (k4_X9_byteAt N σ (σ.i 42)) (fun p33 => (kp4_ite (hMK (CS.setI p33.2 42 ((p33.2.i 42) + 1)) (x1 + 1)) (kp4_bind (k4_X9_byteAt N p33.2 (p33.2.i 42)) (fun p38 => (kp4_ite (hMK (CS.setI p38.2 42 ((p38.2.i 42) + 1)) (x1 + 1)) (k4_X9_advance_51 N p38.2))))))))
theorem k4_X9_advance_2 (N : Nat) : ∀ (n : Nat) (σ : CS) (x1 : Int32), Kp4 (CS.i σ 5) (CS.i σ 13) (CS.i σ 14) (CS.a σ 9) (f_X9_advance_2 N n σ x1)
  | 0, _, _ => kp4_none
  | n+1, σ, x1 => kb4_X9_advance_2 N (f_X9_advance_2 N n) (fun σ x1 => k4_X9_advance_2 N n σ x1) σ x1
theorem k4_X9_advance (N : Nat) (σ : CS) : Kp4 (CS.i σ 5) (CS.i σ 13) (CS.i σ 14) (CS.a σ 9) (f_X9_advance N σ) := by
  unfold f_X9_advance
  exact (k4_X9_advance_2 N N σ 0)
theorem k4_X1_skip_17 (N : Nat) (σ : CS) (x2 : Int32) : Kp4 (CS.i σ 5) (CS.i σ 13) (CS.i σ 14) (CS.a σ 9) (f_X1_skip_17 N σ x2) := by
  unfold f_X1_skip_17
  exact (kp4_ite (kp4_some (⟨rfl, rfl, rfl, rfl⟩)) kp4_none)
theorem k4_X1_skip (N : Nat) (σ : CS) (x1 : Int32) : Kp4 (CS.i σ 5) (CS.i σ 13) (CS.i σ 14) (CS.a σ 9) (f_X1_skip N σ x1) := by
  unfold f_X1_skip
  exact (kp4_bind (k4_X1_found N σ x1) (fun p1 => (kp4_ite (k4_X1_skip_17 N p1.2 p1.1) (kp4_bind (k4_X9_advance N p1.2) (fun p7 => (k4_X1_skip_17 N p7.2 p1.1))))))
theorem k4_X1_expect (N : Nat) (σ : CS) (x1 : Int32) : Kp4 (CS.i σ 5) (CS.i σ 13) (CS.i σ 14) (CS.a σ 9) (f_X1_expect N σ x1) := by
  unfold f_X1_expect
  exact (kp4_bind (k4_X1_found N σ x1) (fun p1 => (kp4_ite (kp4_bind (k4_X1_misplaced N p1.2) (fun p6 => (kp4_some (⟨rfl, rfl, rfl, rfl⟩)))) (kp4_bind (k4_X9_advance N p1.2) (fun p10 => (kp4_some (⟨rfl, rfl, rfl, rfl⟩)))))))
theorem k4_X1_open (N : Nat) (σ : CS) (x1 : Int32) : Kp4 (CS.i σ 5) (CS.i σ 13) (CS.i σ 14) (CS.a σ 9) (f_X1_open N σ x1) := by
  unfold f_X1_open
  exact (kp4_bind (k4_X1_found N σ x1) (fun p1 => (kp4_ite (kp4_bind (k4_X1_misplaced N p1.2) (fun p15 => (kp4_some (⟨rfl, rfl, rfl, rfl⟩)))) (kp4_ite (kp4_bind (k4_X9_advance N (CS.setI p1.2 34 ((p1.2.i 34) + 1))) (fun p7 => (kp4_some (⟨rfl, rfl, rfl, rfl⟩)))) (kp4_bind (k4_X1_fail N p1.2 6 (p1.2.i 44)) (fun p11 => (kp4_some (⟨rfl, rfl, rfl, rfl⟩))))))))
theorem k4_X1_close_22 (N : Nat) (σ : CS) : Kp4 (CS.i σ 5) (CS.i σ 13) (CS.i σ 14) (CS.a σ 9) (f_X1_close_22 N σ ) := by
  unfold f_X1_close_22
  exact (kp4_some (⟨rfl, rfl, rfl, rfl⟩))
theorem k4_X1_close (N : Nat) (σ : CS) (x1 : Int32) : Kp4 (CS.i σ 5) (CS.i σ 13) (CS.i σ 14) (CS.a σ 9) (f_X1_close N σ x1) := by
  unfold f_X1_close
  exact (kp4_bind (k4_X1_found N σ x1) (fun p1 => (kp4_ite (kp4_bind (k4_X1_misplaced N p1.2) (fun p6 => (k4_X1_close_22 N p6.2))) (kp4_bind (k4_X9_advance N p1.2) (fun p10 => (k4_X1_close_22 N p10.2))))))
theorem kb4_X1_product_6 (N : Nat) (E1 : CS → Option (Unit × CS)) (E2 : CS → Option (Int32 × CS)) (hm1 : ∀ σ, Kp4 (CS.i σ 5) (CS.i σ 13) (CS.i σ 14) (CS.a σ 9) (E1 σ)) (hm2 : ∀ σ, Kp4 (CS.i σ 5) (CS.i σ 13) (CS.i σ 14) (CS.a σ 9) (E2 σ)) (K : CS → Int32 → Option (Unit × CS)) (hMK : ∀ (σ : CS) (x1 : Int32), Kp4 (CS.i σ 5) (CS.i σ 13) (CS.i σ 14) (CS.a σ 9) (K σ x1)) (σ : CS) (x1 : Int32) : Kp4 (CS.i σ 5) (CS.i σ 13) (CS.i σ 14) (CS.a σ 9) (b_X1_product_6 N E1 E2 K σ x1) := by
  unfold b_X1_product_6
  exact (kp4_ite (kp4_some (⟨rfl, rfl, rfl, rfl⟩)) (kp4_bind (k4_X1_found N σ 42) (fun p6 => (kp4_ite (kp4_bind (k4_X1_found N p6.2 47) (fun p57 => (kp4_ite (kp4_bind (k4_X1_found N p57.2 37) (fun p108 => (kp4_ite (kp4_some (⟨rfl, rfl, rfl, rfl⟩)) (kp4_bind (k4_X1_found N p108.2 42) (fun p113 => (kp4_ite (kp4_bind (k4_X1_found N p113.2 47) (fun p118 => (kp4_ite (kp4_bind (k4_X9_advance N p118.2) (fun p123 => (kp4_bind (hm1 p123.2) (fun p127 => (kp4_bind (k4_X0_add N p127.2 11 0) (fun p131 => (hMK p131.2 (x1 + 1)))))))) (kp4_bind (k4_X9_advance N p118.2) (fun p135 => (kp4_bind (hm1 p135.2) (fun p139 => (kp4_bind (k4_X0_add N p139.2 10 0) (fun p143 => (hMK p143.2 (x1 + 1))))))))))) (kp4_bind (k4_X9_advance N p113.2) (fun p147 => (kp4_bind (hm1 p147.2) (fun p151 => (kp4_bind (k4_X0_add N p151.2 9 0) (fun p155 => (hMK p155.2 (x1 + 1)))))))))))))) (kp4_bind (k4_X1_found N p57.2 42) (fun p62 => (kp4_ite (kp4_bind (k4_X1_found N p62.2 47) (fun p67 => (kp4_ite (kp4_bind (k4_X9_advance N p67.2) (fun p72 => (kp4_bind (hm1 p72.2) (fun p76 => (kp4_bind (k4_X0_add N p76.2 11 0) (fun p80 => (hMK p80.2 (x1 + 1)))))))) (kp4_bind (k4_X9_advance N p67.2) (fun p84 => (kp4_bind (hm1 p84.2) (fun p88 => (kp4_bind (k4_X0_add N p88.2 10 0) (fun p92 => (hMK p92.2 (x1 + 1))))))))))) (kp4_bind (k4_X9_advance N p62.2) (fun p96 => (kp4_bind (hm1 p96.2) (fun p100 => (kp4_bind (k4_X0_add N p100.2 9 0) (fun p104 => (hMK p104.2 (x1 + 1)))))))))))))) (kp4_bind (k4_X1_found N p6.2 42) (fun p11 => (kp4_ite (kp4_bind (k4_X1_found N p11.2 47) (fun p16 => (kp4_ite (kp4_bind (k4_X9_advance N p16.2) (fun p21 => (kp4_bind (hm1 p21.2) (fun p25 => (kp4_bind (k4_X0_add N p25.2 11 0) (fun p29 => (hMK p29.2 (x1 + 1)))))))) (kp4_bind (k4_X9_advance N p16.2) (fun p33 => (kp4_bind (hm1 p33.2) (fun p37 => (kp4_bind (k4_X0_add N p37.2 10 0) (fun p41 => (hMK p41.2 (x1 + 1))))))))))) (kp4_bind (k4_X9_advance N p11.2) (fun p45 => (kp4_bind (hm1 p45.2) (fun p49 => (kp4_bind (k4_X0_add N p49.2 9 0) (fun p53 => (hMK p53.2 (x1 + 1)))))))))))))))
theorem k4_X1_product_6 (N : Nat) (E1 : CS → Option (Unit × CS)) (E2 : CS → Option (Int32 × CS)) (hm1 : ∀ σ, Kp4 (CS.i σ 5) (CS.i σ 13) (CS.i σ 14) (CS.a σ 9) (E1 σ)) (hm2 : ∀ σ, Kp4 (CS.i σ 5) (CS.i σ 13) (CS.i σ 14) (CS.a σ 9) (E2 σ)) : ∀ (n : Nat) (σ : CS) (x1 : Int32), Kp4 (CS.i σ 5) (CS.i σ 13) (CS.i σ 14) (CS.a σ 9) (f_X1_product_6 N E1 E2 n σ x1)
  | 0, _, _ => kp4_none
  | n+1, σ, x1 => kb4_X1_product_6 N E1 E2 hm1 hm2 (f_X1_product_6 N E1 E2 n) (fun σ x1 => k4_X1_product_6 N E1 E2 hm1 hm2 n σ x1) σ x1
theorem k4_X1_product (N : Nat) (E1 : CS → Option (Unit × CS)) (E2 : CS → Option (Int32 × CS)) (hm1 : ∀ σ, Kp4 (CS.i σ 5) (CS.i σ 13) (CS.i σ 14) (CS.a σ 9) (E1 σ)) (hm2 : ∀ σ, Kp4 (CS.i σ 5) (CS.i σ 13) (CS.i σ 14) (CS.a σ 9) (E2 σ)) (σ : CS) : Kp4 (CS.i σ 5) (CS.i σ 13) (CS.i σ 14) (CS.a σ 9) (f_X1_product N E1 E2 σ) := by
  unfold f_X1_product
  exact (kp4_bind (hm1 σ) (fun p1 => (k4_X1_product_6 N E1 E2 hm1 hm2 N p1.2 0)))
theorem kb4_X1_expression_6 (N : Nat) (E1 : CS → Option (Unit × CS)) (E2 : CS → Option (Int32 × CS)) (hm1 : ∀ σ, Kp4 (CS.i σ 5) (CS.i σ 13) (CS.i σ 14) (CS.a σ 9) (E1 σ)) (hm2 : ∀ σ, Kp4 (CS.i σ 5) (CS.i σ 13) (CS.i σ 14) (CS.a σ 9) (E2 σ)) (K : CS → Int32 → Option (Unit × CS)) (hMK : ∀ (σ : CS) (x1 : Int32), Kp4 (CS.i σ 5) (CS.i σ 13) (CS.i σ 14) (CS.a σ 9) (K σ x1)) (σ : CS) (x1 : Int32) : Kp4 (CS.i σ 5) (CS.i σ 13) (CS.i σ 14) (CS.a σ 9) (b_X1_expression_6 N E1 E2 K σ x1) := by
  unfold b_X1_expression_6
  exact (kp4_ite (kp4_some (⟨rfl, rfl, rfl, rfl⟩)) (kp4_bind (k4_X1_found N σ 43) (fun p6 => (kp4_ite (kp4_bind (k4_X1_found N p6.2 45) (fun p40 => (kp4_ite (kp4_some (⟨rfl, rfl, rfl, rfl⟩)) (kp4_bind (k4_X1_found N p40.2 43) (fun p45 => (kp4_ite (kp4_bind (k4_X9_advance N p45.2) (fun p50 => (kp4_bind (k4_X1_product N E1 E2 hm1 hm2 p50.2) (fun p54 => (kp4_bind (k4_X0_add N p54.2 8 0) (fun p58 => (hMK p58.2 (x1 + 1)))))))) (kp4_bind (k4_X9_advance N p45.2) (fun p62 => (kp4_bind (k4_X1_product N E1 E2 hm1 hm2 p62.2) (fun p66 => (kp4_bind (k4_X0_add N p66.2 7 0) (fun p70 => (hMK p70.2 (x1 + 1)))))))))))))) (kp4_bind (k4_X1_found N p6.2 43) (fun p11 => (kp4_ite (kp4_bind (k4_X9_advance N p11.2) (fun p16 => (kp4_bind (k4_X1_product N E1 E2 hm1 hm2 p16.2) (fun p20 => (kp4_bind (k4_X0_add N p20.2 8 0) (fun p24 => (hMK p24.2 (x1 + 1)))))))) (kp4_bind (k4_X9_advance N p11.2) (fun p28 => (kp4_bind (k4_X1_product N E1 E2 hm1 hm2 p28.2) (fun p32 => (kp4_bind (k4_X0_add N p32.2 7 0) (fun p36 => (hMK p36.2 (x1 + 1)))))))))))))))
theorem k4_X1_expression_6 (N : Nat) (E1 : CS → Option (Unit × CS)) (E2 : CS → Option (Int32 × CS)) (hm1 : ∀ σ, Kp4 (CS.i σ 5) (CS.i σ 13) (CS.i σ 14) (CS.a σ 9) (E1 σ)) (hm2 : ∀ σ, Kp4 (CS.i σ 5) (CS.i σ 13) (CS.i σ 14) (CS.a σ 9) (E2 σ)) : ∀ (n : Nat) (σ : CS) (x1 : Int32), Kp4 (CS.i σ 5) (CS.i σ 13) (CS.i σ 14) (CS.a σ 9) (f_X1_expression_6 N E1 E2 n σ x1)
  | 0, _, _ => kp4_none
  | n+1, σ, x1 => kb4_X1_expression_6 N E1 E2 hm1 hm2 (f_X1_expression_6 N E1 E2 n) (fun σ x1 => k4_X1_expression_6 N E1 E2 hm1 hm2 n σ x1) σ x1
theorem k4_X1_expression (N : Nat) (E1 : CS → Option (Unit × CS)) (E2 : CS → Option (Int32 × CS)) (hm1 : ∀ σ, Kp4 (CS.i σ 5) (CS.i σ 13) (CS.i σ 14) (CS.a σ 9) (E1 σ)) (hm2 : ∀ σ, Kp4 (CS.i σ 5) (CS.i σ 13) (CS.i σ 14) (CS.a σ 9) (E2 σ)) (σ : CS) : Kp4 (CS.i σ 5) (CS.i σ 13) (CS.i σ 14) (CS.a σ 9) (f_X1_expression N E1 E2 σ) := by
  unfold f_X1_expression
  exact (kp4_bind (k4_X1_product N E1 E2 hm1 hm2 σ) (fun p1 => (k4_X1_expression_6 N E1 E2 hm1 hm2 N p1.2 0)))
theorem k4_X4_find_38 (N : Nat) (σ : CS) : Kp4 (CS.i σ 5) (CS.i σ 13) (CS.i σ 14) (CS.a σ 9) (f_X4_find_38 N σ ) := by
  unfold f_X4_find_38
  exact (kp4_some (⟨rfl, rfl, rfl, rfl⟩))
theorem kb4_X4_find_2 (N : Nat) (K : CS → Int64 → Int32 → Option (Int32 × CS)) (hMK : ∀ (σ : CS) (x1 : Int64) (x3 : Int32), Kp4 (CS.i σ 5) (CS.i σ 13) (CS.i σ 14) (CS.a σ 9) (K σ x1 x3)) (σ : CS) (x1 : Int64) (x3 : Int32) : Kp4 (CS.i σ 5) (CS.i σ 13) (CS.i σ 14) (CS.a σ 9) (b_X4_find_2 N K σ x1 x3) := by
  unfold b_X4_find_2
  exact (kp4_ite (k4_X4_find_38 N σ) (kp4_ite (k4_X4_find_38 N σ) (kp4_ite (kp4_ite (kp4_some (⟨rfl, rfl, rfl, rfl⟩)) (hMK σ x1 (x3 + 1))) kp4_none)))
theorem k4_X4_find_2 (N : Nat) : ∀ (n : Nat) (σ : CS) (x1 : Int64) (x3 : Int32), Kp4 (CS.i σ 5) (CS.i σ 13) (CS.i σ 14) (CS.a σ 9) (f_X4_find_2 N n σ x1 x3)
  | 0, _, _, _ => kp4_none
  | n+1, σ, x1, x3 => kb4_X4_find_2 N (f_X4_find_2 N n) (fun σ x1 x3 => k4_X4_find_2 N n σ x1 x3) σ x1 x3
theorem k4_X4_find (N : Nat) (σ : CS) (x1 : Int64) : Kp4 (CS.i σ 5) (CS.i σ 13) (CS.i σ 14) (CS.a σ 9) (f_X4_find N σ x1) := by
  unfold f_X4_find
  exact (k4_X4_find_2 N N σ x1 0)
theorem k4_X4_cellOf (N : Nat) (σ : CS) (x1 : Int32) : Kp4 (CS.i σ 5) (CS.i σ 13) (CS.i σ 14) (CS.a σ 9) (f_X4_cellOf N σ x1) := by
  unfold f_X4_cellOf
  exact (kp4_some (⟨rfl, rfl, rfl, rfl⟩))
theorem k4_X1_loadName (N : Nat) (σ : CS) : Kp4 (CS.i σ 5) (CS.i σ 13) (CS.i σ 14) (CS.a σ 9) (f_X1_loadName N σ) := by
  unfold f_X1_loadName
  exact (kp4_bind (k4_X4_find N σ σ.l) (fun p1 => (kp4_ite (kp4_bind (k4_X4_cellOf N p1.2 p1.1) (fun p6 => (kp4_bind (k4_X0_add N p6.2 1 p6.1) (fun p10 => (kp4_bind (k4_X9_advance N p10.2) (fun p14 => (kp4_some (⟨rfl, rfl, rfl, rfl⟩)))))))) (kp4_bind (k4_X1_fail N p1.2 3 (p1.2.i 44)) (fun p18 => (kp4_some (⟨rfl, rfl, rfl, rfl⟩)))))))
theorem k4_X1_negated_17 (N : Nat) (E1 : CS → Option (Unit × CS)) (E2 : CS → Option (Int32 × CS)) (hm1 : ∀ σ, Kp4 (CS.i σ 5) (CS.i σ 13) (CS.i σ 14) (CS.a σ 9) (E1 σ)) (hm2 : ∀ σ, Kp4 (CS.i σ 5) (CS.i σ 13) (CS.i σ 14) (CS.a σ 9) (E2 σ)) (σ : CS) : Kp4 (CS.i σ 5) (CS.i σ 13) (CS.i σ 14) (CS.a σ 9) (f_X1_negated_17 N E1 E2 σ ) := by
  unfold f_X1_negated_17
  exact (kp4_bind (k4_X0_add N (CS.setI σ 34 ((σ.i 34) - 1)) 4 0) (fun p6 => (kp4_some (⟨rfl, rfl, rfl, rfl⟩))))
theorem k4_X1_negated (N : Nat) (E1 : CS → Option (Unit × CS)) (E2 : CS → Option (Int32 × CS)) (hm1 : ∀ σ, Kp4 (CS.i σ 5) (CS.i σ 13) (CS.i σ 14) (CS.a σ 9) (E1 σ)) (hm2 : ∀ σ, Kp4 (CS.i σ 5) (CS.i σ 13) (CS.i σ 14) (CS.a σ 9) (E2 σ)) (σ : CS) : Kp4 (CS.i σ 5) (CS.i σ 13) (CS.i σ 14) (CS.a σ 9) (f_X1_negated N E1 E2 σ) := by
  unfold f_X1_negated
  exact (kp4_bind (k4_X1_open N σ 45) (fun p1 => (kp4_ite (kp4_bind (hm1 p1.2) (fun p10 => (k4_X1_negated_17 N E1 E2 hm1 hm2 p10.2))) (k4_X1_negated_17 N E1 E2 hm1 hm2 p1.2))))
theorem k4_X1_caseNumber_44 (N : Nat) (σ : CS) (x1 : Int32) (x2 : Int32) (x4 : Int32) : Kp4 (CS.i σ 5) (CS.i σ 13) (CS.i σ 14) (CS.a σ 9) (f_X1_caseNumber_44 N σ x1 x2 x4) := by
  unfold f_X1_caseNumber_44
  exact (kp4_bind (k4_X0_hasCase N σ x1 x4) (fun p11 => (kp4_ite (kp4_bind (k4_X0_addCase N p11.2 x4 x2) (fun p16 => (kp4_bind (k4_X9_advance N p16.2) (fun p20 => (kp4_some (⟨rfl, rfl, rfl, rfl⟩)))))) (kp4_bind (k4_X1_fail N p11.2 4 (p11.2.i 44)) (fun p24 => (kp4_some (⟨rfl, rfl, rfl, rfl⟩)))))))
theorem k4_X1_caseNumber (N : Nat) (σ : CS) (x1 : Int32) (x2 : Int32) : Kp4 (CS.i σ 5) (CS.i σ 13) (CS.i σ 14) (CS.a σ 9) (f_X1_caseNumber N σ x1 x2) := by
  unfold f_X1_caseNumber
  exact (kp4_bind (k4_X1_skip N σ 45) (fun p1 => (kp4_bind (k4_X1_found N p1.2 1) (fun p5 => (kp4_ite (kp4_bind (k4_X1_misplaced N p5.2) (fun p28 => (kp4_some (⟨rfl, rfl, rfl, rfl⟩)))) (kp4_ite (k4_X1_caseNumber_44 N p5.2 x1 x2 (p5.2.i 45)) (k4_X1_caseNumber_44 N p5.2 x1 x2 (-(p5.2.i 45)))))))))
theorem k4_X5_init (N : Nat) (σ : CS) (x0 : Nat) : Kp4 (CS.i σ 5) (CS.i σ 13) (CS.i σ 14) (CS.a σ 9) (f_X5_init N σ x0) := by
  unfold f_X5_init
  exact (kp4_some (⟨rfl, rfl, rfl, rfl⟩))
theorem k4_X6_push_48 (N : Nat) (σ : CS) (x1 : Int32) (x2 : Int32) (x3 : Int32) (x4 : Int32) (x5 : Nat) : Kp4 (CS.i σ 5) (CS.i σ 13) (CS.i σ 14) (CS.a σ 9) (f_X6_push_48 N σ x1 x2 x3 x4 x5) := by
  unfold f_X6_push_48
  exact (kp4_ite (kp4_some (⟨rfl, rfl, rfl, rfl⟩)) kp4_none)
theorem k4_X6_push (N : Nat) (σ : CS) (x1 : Int32) (x2 : Int32) (x3 : Int32) : Kp4 (CS.i σ 5) (CS.i σ 13) (CS.i σ 14) (CS.a σ 9) (f_X6_push N σ x1 x2 x3) := by
  unfold f_X6_push
  exact (kp4_ite (kp4_oc (kp4_le (⟨rfl, rfl, rfl, rfl⟩) (kp4_bind (k4_X5_init N (CS.new σ 0) (CS.hs σ)) (fun p5 => (kp4_ite (kp4_ite (k4_X6_push_48 N (CS.setR p5.2 51 (((if (399 : Int32) < (σ.i 53) then (399 : Int32) else (σ.i 53)) : Int32).toNatClampNeg) (some (CS.hs σ))) x1 x2 x3 (if (399 : Int32) < (σ.i 53) then (399 : Int32) else (σ.i 53)) (CS.hs σ)) kp4_none) kp4_none)))) (fun a3 => (k4_X6_push_48 N σ x1 x2 x3 (if (399 : Int32) < (σ.i 53) then (399 : Int32) else (σ.i 53)) a3))) kp4_none)
theorem k4_X6_row_30 (N : Nat) (σ : CS) : Kp4 (CS.i σ 5) (CS.i σ 13) (CS.i σ 14) (CS.a σ 9) (f_X6_row_30 N σ ) := by
  unfold f_X6_row_30
  exact (kp4_some (⟨rfl, rfl, rfl, rfl⟩))
theorem k4_X6_row (N : Nat) (σ : CS) (x1 : Int32) : Kp4 (CS.i σ 5) (CS.i σ 13) (CS.i σ 14) (CS.a σ 9) (f_X6_row N σ x1) := by
  unfold f_X6_row
  exact (kp4_ite (k4_X6_row_30 N σ) (kp4_ite (k4_X6_row_30 N σ) (kp4_ite (k4_X6_row_30 N σ) (kp4_ite (kp4_oc (kp4_some (⟨rfl, rfl, rfl, rfl⟩)) (fun a6 => (kp4_some (⟨rfl, rfl, rfl, rfl⟩)))) kp4_none))))
theorem k4_X5_isLoop_40 (N : Nat) (σ : CS) : Kp4 (CS.i σ 5) (CS.i σ 13) (CS.i σ 14) (CS.a σ 9) (f_X5_isLoop_40 N σ ) := by
  unfold f_X5_isLoop_40
  exact (kp4_some (⟨rfl, rfl, rfl, rfl⟩))
theorem k4_X5_isLoop (N : Nat) (σ : CS) (x0 : Nat) : Kp4 (CS.i σ 5) (CS.i σ 13) (CS.i σ 14) (CS.a σ 9) (f_X5_isLoop N σ x0) := by
  unfold f_X5_isLoop
  exact (kp4_ite (kp4_ite (k4_X5_isLoop_40 N σ) (kp4_ite (k4_X5_isLoop_40 N σ) (kp4_ite (k4_X5_isLoop_40 N σ) (kp4_ite (k4_X5_isLoop_40 N σ) (kp4_some (⟨rfl, rfl, rfl, rfl⟩)))))) kp4_none)
theorem k4_X5_hasOneBody_37 (N : Nat) (σ : CS) : Kp4 (CS.i σ 5) (CS.i σ 13) (CS.i σ 14) (CS.a σ 9) (f_X5_hasOneBody_37 N σ ) := by
  unfold f_X5_hasOneBody_37
  exact (kp4_some (⟨rfl, rfl, rfl, rfl⟩))
theorem k4_X5_hasOneBody (N : Nat) (σ : CS) (x0 : Nat) : Kp4 (CS.i σ 5) (CS.i σ 13) (CS.i σ 14) (CS.a σ 9) (f_X5_hasOneBody N σ x0) := by
  unfold f_X5_hasOneBody
  exact (kp4_ite (kp4_bind (k4_X5_isLoop N σ x0) (fun p3 => (kp4_ite (kp4_ite (kp4_ite (k4_X5_hasOneBody_37 N p3.2) (kp4_ite (k4_X5_hasOneBody_37 N p3.2) (kp4_ite (k4_X5_hasOneBody_37 N p3.2) (kp4_some (⟨rfl, rfl, rfl, rfl⟩))))) kp4_none) (k4_X5_hasOneBody_37 N p3.2)))) kp4_none)
theorem k4_X6_pop (N : Nat) (σ : CS) : Kp4 (CS.i σ 5) (CS.i σ 13) (CS.i σ 14) (CS.a σ 9) (f_X6_pop N σ) := by
  unfold f_X6_pop
  exact (kp4_some (⟨rfl, rfl, rfl, rfl⟩))
theorem k4_X7_endIf (N : Nat) (σ : CS) (x1 : Nat) : Kp4 (CS.i σ 5) (CS.i σ 13) (CS.i σ 14) (CS.a σ 9) (f_X7_endIf N σ x1) := by
  unfold f_X7_endIf
  exact (kp4_bind (k4_X1_skip N σ 204) (fun p1 => (kp4_ite (kp4_ite (kp4_bind (k4_X0_aim N p1.2 (CS.o p1.2 x1 10)) (fun p23 => (kp4_bind (k4_X6_pop N (CS.setI p23.2 36 1)) (fun p27 => (kp4_some (⟨rfl, rfl, rfl, rfl⟩)))))) kp4_none) (kp4_ite (kp4_ite (kp4_bind (k4_X0_newTarget N (CS.setO (CS.setO (CS.setO p1.2 x1 0 204) x1 5 0) x1 6 (p1.2.i 36))) (fun p8 => (kp4_ite (kp4_bind (k4_X0_add N (CS.setO p8.2 x1 9 p8.1) 30 (CS.o (CS.setO p8.2 x1 9 p8.1) x1 9)) (fun p13 => (kp4_ite (kp4_bind (k4_X0_aim N p13.2 (CS.o p13.2 x1 10)) (fun p18 => (kp4_some (⟨rfl, rfl, rfl, rfl⟩)))) kp4_none))) kp4_none))) kp4_none) kp4_none))))
theorem k4_X6_jumpTo (N : Nat) (σ : CS) (x0 : Nat) (x1 : Int32) : Kp4 (CS.i σ 5) (CS.i σ 13) (CS.i σ 14) (CS.a σ 9) (f_X6_jumpTo N σ x0 x1) := by
  unfold f_X6_jumpTo
  exact (kp4_ite (kp4_ite (kp4_some (⟨rfl, rfl, rfl, rfl⟩)) (kp4_some (⟨rfl, rfl, rfl, rfl⟩))) kp4_none)
theorem kb4_X6_isGoneTo_5 (N : Nat) (K : CS → Nat → Int32 → Int32 → Option (Int32 × CS)) (hMK : ∀ (σ : CS) (x1 : Nat) (x2 : Int32) (x3 : Int32), Kp4 (CS.i σ 5) (CS.i σ 13) (CS.i σ 14) (CS.a σ 9) (K σ x1 x2 x3)) (σ : CS) (x1 : Nat) (x2 : Int32) (x3 : Int32) : Kp4 (CS.i σ 5) (CS.i σ 13) (CS.i σ 14) (CS.a σ 9) (b_X6_isGoneTo_5 N K σ x1 x2 x3) := by
  unfold b_X6_isGoneTo_5
  exact (kp4_ite (kp4_some (⟨rfl, rfl, rfl, rfl⟩)) (kp4_bind (k4_X6_jumpTo N σ x1 x2) (fun p4 => (kp4_ite (kp4_some (⟨rfl, rfl, rfl, rfl⟩)) (hMK p4.2 x1 x2 (x3 + 1))))))
theorem k4_X6_isGoneTo_5 (N : Nat) : ∀ (n : Nat) (σ : CS) (x1 : Nat) (x2 : Int32) (x3 : Int32), Kp4 (CS.i σ 5) (CS.i σ 13) (CS.i σ 14) (CS.a σ 9) (f_X6_isGoneTo_5 N n σ x1 x2 x3)
  | 0, _, _, _, _ => kp4_none
  | n+1, σ, x1, x2, x3 => kb4_X6_isGoneTo_5 N (f_X6_isGoneTo_5 N n) (fun σ x1 x2 x3 => k4_X6_isGoneTo_5 N n σ x1 x2 x3) σ x1 x2 x3
theorem k4_X6_isGoneTo (N : Nat) (σ : CS) (x1 : Nat) (x2 : Int32) : Kp4 (CS.i σ 5) (CS.i σ 13) (CS.i σ 14) (CS.a σ 9) (f_X6_isGoneTo N σ x1 x2) := by
  unfold f_X6_isGoneTo
  exact (kp4_ite (k4_X6_isGoneTo_5 N N σ x1 x2 (CS.o σ x1 14)) kp4_none)
theorem k4_X1_conjunction_65 (N : Nat) (E1 : CS → Option (Unit × CS)) (E2 : CS → Option (Int32 × CS)) (hm1 : ∀ σ, Kp4 (CS.i σ 5) (CS.i σ 13) (CS.i σ 14) (CS.a σ 9) (E1 σ)) (hm2 : ∀ σ, Kp4 (CS.i σ 5) (CS.i σ 13) (CS.i σ 14) (CS.a σ 9) (E2 σ)) (σ : CS) (x2 : Int32) : Kp4 (CS.i σ 5) (CS.i σ 13) (CS.i σ 14) (CS.a σ 9) (f_X1_conjunction_65 N E1 E2 σ x2) := by
  unfold f_X1_conjunction_65
  exact (kp4_bind (k4_X0_aim N σ x2) (fun p15 => (kp4_some (⟨rfl, rfl, rfl, rfl⟩))))
theorem kb4_X1_conjunction_27 (N : Nat) (E1 : CS → Option (Unit × CS)) (E2 : CS → Option (Int32 × CS)) (hm1 : ∀ σ, Kp4 (CS.i σ 5) (CS.i σ 13) (CS.i σ 14) (CS.a σ 9) (E1 σ)) (hm2 : ∀ σ, Kp4 (CS.i σ 5) (CS.i σ 13) (CS.i σ 14) (CS.a σ 9) (E2 σ)) (K : CS → Int32 → Int32 → Option (Int32 × CS)) (hMK : ∀ (σ : CS) (x2 : Int32) (x3 : Int32), Kp4 (CS.i σ 5) (CS.i σ 13) (CS.i σ 14) (CS.a σ 9) (K σ x2 x3)) (σ : CS) (x2 : Int32) (x3 : Int32) : Kp4 (CS.i σ 5) (CS.i σ 13) (CS.i σ 14) (CS.a σ 9) (b_X1_conjunction_27 N E1 E2 K σ x2 x3) := by
  unfold b_X1_conjunction_27
  exact (kp4_ite (k4_X1_conjunction_65 N E1 E2 hm1 hm2 σ x2) (kp4_bind (k4_X1_skip N σ 132) (fun p19 => (kp4_ite (k4_X1_conjunction_65 N E1 E2 hm1 hm2 p19.2 x2) (kp4_bind (k4_X0_add N p19.2 32 x2) (fun p24 => (kp4_bind (hm2 p24.2) (fun p28 => (hMK p28.2 x2 (x3 + 1))))))))))
theorem k4_X1_conjunction_27 (N : Nat) (E1 : CS → Option (Unit × CS)) (E2 : CS → Option (Int32 × CS)) (hm1 : ∀ σ, Kp4 (CS.i σ 5) (CS.i σ 13) (CS.i σ 14) (CS.a σ 9) (E1 σ)) (hm2 : ∀ σ, Kp4 (CS.i σ 5) (CS.i σ 13) (CS.i σ 14) (CS.a σ 9) (E2 σ)) : ∀ (n : Nat) (σ : CS) (x2 : Int32) (x3 : Int32), Kp4 (CS.i σ 5) (CS.i σ 13) (CS.i σ 14) (CS.a σ 9) (f_X1_conjunction_27 N E1 E2 n σ x2 x3)
  | 0, _, _, _ => kp4_none
  | n+1, σ, x2, x3 => kb4_X1_conjunction_27 N E1 E2 hm1 hm2 (f_X1_conjunction_27 N E1 E2 n) (fun σ x2 x3 => k4_X1_conjunction_27 N E1 E2 hm1 hm2 n σ x2 x3) σ x2 x3
theorem k4_X1_conjunction (N : Nat) (E1 : CS → Option (Unit × CS)) (E2 : CS → Option (Int32 × CS)) (hm1 : ∀ σ, Kp4 (CS.i σ 5) (CS.i σ 13) (CS.i σ 14) (CS.a σ 9) (E1 σ)) (hm2 : ∀ σ, Kp4 (CS.i σ 5) (CS.i σ 13) (CS.i σ 14) (CS.a σ 9) (E2 σ)) (σ : CS) : Kp4 (CS.i σ 5) (CS.i σ 13) (CS.i σ 14) (CS.a σ 9) (f_X1_conjunction N E1 E2 σ) := by
  unfold f_X1_conjunction
  exact (kp4_bind (hm2 σ) (fun p1 => (kp4_bind (k4_X1_found N p1.2 132) (fun p5 => (kp4_ite (kp4_ite (kp4_some (⟨rfl, rfl, rfl, rfl⟩)) kp4_none) (kp4_bind (k4_X0_newTarget N p5.2) (fun p10 => (k4_X1_conjunction_27 N E1 E2 hm1 hm2 N p10.2 p10.1 0))))))))
theorem k4_X1_condition_65 (N : Nat) (E1 : CS → Option (Unit × CS)) (E2 : CS → Option (Int32 × CS)) (hm1 : ∀ σ, Kp4 (CS.i σ 5) (CS.i σ 13) (CS.i σ 14) (CS.a σ 9) (E1 σ)) (hm2 : ∀ σ, Kp4 (CS.i σ 5) (CS.i σ 13) (CS.i σ 14) (CS.a σ 9) (E2 σ)) (σ : CS) (x2 : Int32) : Kp4 (CS.i σ 5) (CS.i σ 13) (CS.i σ 14) (CS.a σ 9) (f_X1_condition_65 N E1 E2 σ x2) := by
  unfold f_X1_condition_65
  exact (kp4_bind (k4_X0_aim N σ x2) (fun p15 => (kp4_some (⟨rfl, rfl, rfl, rfl⟩))))
theorem kb4_X1_condition_27 (N : Nat) (E1 : CS → Option (Unit × CS)) (E2 : CS → Option (Int32 × CS)) (hm1 : ∀ σ, Kp4 (CS.i σ 5) (CS.i σ 13) (CS.i σ 14) (CS.a σ 9) (E1 σ)) (hm2 : ∀ σ, Kp4 (CS.i σ 5) (CS.i σ 13) (CS.i σ 14) (CS.a σ 9) (E2 σ)) (K : CS → Int32 → Int32 → Option (Int32 × CS)) (hMK : ∀ (σ : CS) (x2 : Int32) (x3 : Int32), Kp4 (CS.i σ 5) (CS.i σ 13) (CS.i σ 14) (CS.a σ 9) (K σ x2 x3)) (σ : CS) (x2 : Int32) (x3 : Int32) : Kp4 (CS.i σ 5) (CS.i σ 13) (CS.i σ 14) (CS.a σ 9) (b_X1_condition_27 N E1 E2 K σ x2 x3) := by
  unfold b_X1_condition_27
  exact (kp4_ite (k4_X1_condition_65 N E1 E2 hm1 hm2 σ x2) (kp4_bind (k4_X1_skip N σ 133) (fun p19 => (kp4_ite (k4_X1_condition_65 N E1 E2 hm1 hm2 p19.2 x2) (kp4_bind (k4_X0_add N p19.2 33 x2) (fun p24 => (kp4_bind (k4_X1_conjunction N E1 E2 hm1 hm2 p24.2) (fun p28 => (hMK p28.2 x2 (x3 + 1))))))))))
theorem k4_X1_condition_27 (N : Nat) (E1 : CS → Option (Unit × CS)) (E2 : CS → Option (Int32 × CS)) (hm1 : ∀ σ, Kp4 (CS.i σ 5) (CS.i σ 13) (CS.i σ 14) (CS.a σ 9) (E1 σ)) (hm2 : ∀ σ, Kp4 (CS.i σ 5) (CS.i σ 13) (CS.i σ 14) (CS.a σ 9) (E2 σ)) : ∀ (n : Nat) (σ : CS) (x2 : Int32) (x3 : Int32), Kp4 (CS.i σ 5) (CS.i σ 13) (CS.i σ 14) (CS.a σ 9) (f_X1_condition_27 N E1 E2 n σ x2 x3)
  | 0, _, _, _ => kp4_none
  | n+1, σ, x2, x3 => kb4_X1_condition_27 N E1 E2 hm1 hm2 (f_X1_condition_27 N E1 E2 n) (fun σ x2 x3 => k4_X1_condition_27 N E1 E2 hm1 hm2 n σ x2 x3) σ x2 x3
theorem k4_X1_condition (N : Nat) (E1 : CS → Option (Unit × CS)) (E2 : CS → Option (Int32 × CS)) (hm1 : ∀ σ, Kp4 (CS.i σ 5) (CS.i σ 13) (CS.i σ 14) (CS.a σ 9) (E1 σ)) (hm2 : ∀ σ, Kp4 (CS.i σ 5) (CS.i σ 13) (CS.i σ 14) (CS.a σ 9) (E2 σ)) (σ : CS) : Kp4 (CS.i σ 5) (CS.i σ 13) (CS.i σ 14) (CS.a σ 9) (f_X1_condition N E1 E2 σ) := by
  unfold f_X1_condition
  exact (kp4_bind (k4_X1_conjunction N E1 E2 hm1 hm2 σ) (fun p1 => (kp4_bind (k4_X1_found N p1.2 133) (fun p5 => (kp4_ite (kp4_ite (kp4_some (⟨rfl, rfl, rfl, rfl⟩)) kp4_none) (kp4_bind (k4_X0_newTarget N p5.2) (fun p10 => (k4_X1_condition_27 N E1 E2 hm1 hm2 N p10.2 p10.1 0))))))))
theorem k4_X7_conditionInside (N : Nat) (E1 : CS → Option (Unit × CS)) (E2 : CS → Option (Int32 × CS)) (hm1 : ∀ σ, Kp4 (CS.i σ 5) (CS.i σ 13) (CS.i σ 14) (CS.a σ 9) (E1 σ)) (hm2 : ∀ σ, Kp4 (CS.i σ 5) (CS.i σ 13) (CS.i σ 14) (CS.a σ 9) (E2 σ)) (σ : CS) : Kp4 (CS.i σ 5) (CS.i σ 13) (CS.i σ 14) (CS.a σ 9) (f_X7_conditionInside N E1 E2 σ) := by
  unfold f_X7_conditionInside
  exact (kp4_bind (k4_X1_open N σ 40) (fun p1 => (kp4_bind (k4_X1_condition N E1 E2 hm1 hm2 p1.2) (fun p5 => (kp4_bind (k4_X1_close N p5.2 41) (fun p9 => (kp4_ite (kp4_some (⟨rfl, rfl, rfl, rfl⟩)) kp4_none)))))))
theorem k4_X7_endDo_25 (N : Nat) (E1 : CS → Option (Unit × CS)) (E2 : CS → Option (Int32 × CS)) (hm1 : ∀ σ, Kp4 (CS.i σ 5) (CS.i σ 13) (CS.i σ 14) (CS.a σ 9) (E1 σ)) (hm2 : ∀ σ, Kp4 (CS.i σ 5) (CS.i σ 13) (CS.i σ 14) (CS.a σ 9) (E2 σ)) (σ : CS) (x1 : Nat) (x2 : Int32) : Kp4 (CS.i σ 5) (CS.i σ 13) (CS.i σ 14) (CS.a σ 9) (f_X7_endDo_25 N E1 E2 σ x1 x2) := by
  unfold f_X7_endDo_25
  exact (kp4_bind (k4_X1_expect N σ 205) (fun p2 => (kp4_ite (kp4_bind (k4_X0_aim N p2.2 (CS.o p2.2 x1 10)) (fun p7 => (kp4_bind (k4_X7_conditionInside N E1 E2 hm1 hm2 p7.2) (fun p11 => (kp4_bind (k4_X1_expect N p11.2 59) (fun p15 => (kp4_ite (kp4_bind (k4_X0_add N p15.2 31 (CS.o p15.2 x1 9)) (fun p20 => (kp4_ite (kp4_bind (k4_X0_add N p20.2 30 (CS.o p20.2 x1 11)) (fun p25 => (kp4_ite (kp4_bind (k4_X0_aim N p25.2 (CS.o p25.2 x1 9)) (fun p30 => (kp4_ite (kp4_bind (k4_X6_isGoneTo N p30.2 x1 0) (fun p35 => (kp4_ite (kp4_some (⟨rfl, rfl, rfl, rfl⟩)) (kp4_some (⟨rfl, rfl, rfl, rfl⟩))))) (kp4_ite (kp4_some (⟨rfl, rfl, rfl, rfl⟩)) (kp4_bind (k4_X6_isGoneTo N p30.2 x1 0) (fun p41 => (kp4_ite (kp4_some (⟨rfl, rfl, rfl, rfl⟩)) (kp4_some (⟨rfl, rfl, rfl, rfl⟩))))))))) kp4_none))) kp4_none))) kp4_none))))))) kp4_none)))
theorem k4_X7_endDo_19 (N : Nat) (E1 : CS → Option (Unit × CS)) (E2 : CS → Option (Int32 × CS)) (hm1 : ∀ σ, Kp4 (CS.i σ 5) (CS.i σ 13) (CS.i σ 14) (CS.a σ 9) (E1 σ)) (hm2 : ∀ σ, Kp4 (CS.i σ 5) (CS.i σ 13) (CS.i σ 14) (CS.a σ 9) (E2 σ)) (σ : CS) (x1 : Nat) : Kp4 (CS.i σ 5) (CS.i σ 13) (CS.i σ 14) (CS.a σ 9) (f_X7_endDo_19 N E1 E2 σ x1) := by
  unfold f_X7_endDo_19
  exact (k4_X7_endDo_25 N E1 E2 hm1 hm2 σ x1 1)
theorem k4_X7_endDo (N : Nat) (E1 : CS → Option (Unit × CS)) (E2 : CS → Option (Int32 × CS)) (hm1 : ∀ σ, Kp4 (CS.i σ 5) (CS.i σ 13) (CS.i σ 14) (CS.a σ 9) (E1 σ)) (hm2 : ∀ σ, Kp4 (CS.i σ 5) (CS.i σ 13) (CS.i σ 14) (CS.a σ 9) (E2 σ)) (σ : CS) (x1 : Nat) : Kp4 (CS.i σ 5) (CS.i σ 13) (CS.i σ 14) (CS.a σ 9) (f_X7_endDo N E1 E2 σ x1) := by
  unfold f_X7_endDo
  exact (kp4_ite (kp4_bind (k4_X6_isGoneTo N σ x1 1) (fun p46 => (kp4_ite (k4_X7_endDo_25 N E1 E2 hm1 hm2 p46.2 x1 0) (k4_X7_endDo_19 N E1 E2 hm1 hm2 p46.2 x1)))) (k4_X7_endDo_19 N E1 E2 hm1 hm2 σ x1))
theorem k4_X7_endBody_193 (N : Nat) (E1 : CS → Option (Unit × CS)) (E2 : CS → Option (Int32 × CS)) (hm1 : ∀ σ, Kp4 (CS.i σ 5) (CS.i σ 13) (CS.i σ 14) (CS.a σ 9) (E1 σ)) (hm2 : ∀ σ, Kp4 (CS.i σ 5) (CS.i σ 13) (CS.i σ 14) (CS.a σ 9) (E2 σ)) (σ : CS) (x1 : Nat) : Kp4 (CS.i σ 5) (CS.i σ 13) (CS.i σ 14) (CS.a σ 9) (f_X7_endBody_193 N E1 E2 σ x1) := by
  unfold f_X7_endBody_193
  exact (kp4_ite (kp4_bind (k4_X6_pop N (CS.setI σ 50 (CS.o σ x1 3))) (fun p14 => (kp4_some (⟨rfl, rfl, rfl, rfl⟩)))) kp4_none)
theorem k4_X7_endBody_88 (N : Nat) (E1 : CS → Option (Unit × CS)) (E2 : CS → Option (Int32 × CS)) (hm1 : ∀ σ, Kp4 (CS.i σ 5) (CS.i σ 13) (CS.i σ 14) (CS.a σ 9) (E1 σ)) (hm2 : ∀ σ, Kp4 (CS.i σ 5) (CS.i σ 13) (CS.i σ 14) (CS.a σ 9) (E2 σ)) (σ : CS) (x1 : Nat) : Kp4 (CS.i σ 5) (CS.i σ 13) (CS.i σ 14) (CS.a σ 9) (f_X7_endBody_88 N E1 E2 σ x1) := by
  unfold f_X7_endBody_88
  exact (k4_X7_endBody_193 N E1 E2 hm1 hm2 σ x1)
theorem k4_X7_endBody_130 (N : Nat) (E1 : CS → Option (Unit × CS)) (E2 : CS → Option (Int32 × CS)) (hm1 : ∀ σ, Kp4 (CS.i σ 5) (CS.i σ 13) (CS.i σ 14) (CS.a σ 9) (E1 σ)) (hm2 : ∀ σ, Kp4 (CS.i σ 5) (CS.i σ 13) (CS.i σ 14) (CS.a σ 9) (E2 σ)) (σ : CS) (x1 : Nat) : Kp4 (CS.i σ 5) (CS.i σ 13) (CS.i σ 14) (CS.a σ 9) (f_X7_endBody_130 N E1 E2 σ x1) := by
  unfold f_X7_endBody_130
  exact (k4_X7_endBody_193 N E1 E2 hm1 hm2 σ x1)
theorem k4_X7_endBody (N : Nat) (E1 : CS → Option (Unit × CS)) (E2 : CS → Option (Int32 × CS)) (hm1 : ∀ σ, Kp4 (CS.i σ 5) (CS.i σ 13) (CS.i σ 14) (CS.a σ 9) (E1 σ)) (hm2 : ∀ σ, Kp4 (CS.i σ 5) (CS.i σ 13) (CS.i σ 14) (CS.a σ 9) (E2 σ)) (σ : CS) (x1 : Nat) : Kp4 (CS.i σ 5) (CS.i σ 13) (CS.i σ 14) (CS.a σ 9) (f_X7_endBody N E1 E2 σ x1) := by
  unfold f_X7_endBody
  exact (kp4_ite (kp4_ite (kp4_bind (k4_X7_endIf N σ x1) (fun p3 => (kp4_some (⟨rfl, rfl, rfl, rfl⟩)))) (kp4_ite (kp4_bind (k4_X0_aim N σ (CS.o σ x1 9)) (fun p8 => (kp4_ite (kp4_ite (kp4_ite (k4_X7_endBody_88 N E1 E2 hm1 hm2 (CS.setI p8.2 36 0) x1) (k4_X7_endBody_88 N E1 E2 hm1 hm2 (CS.setI p8.2 36 1) x1)) kp4_none) (k4_X7_endBody_88 N E1 E2 hm1 hm2 (CS.setI p8.2 36 1) x1)))) (kp4_ite (kp4_bind (k4_X7_endDo N E1 E2 hm1 hm2 σ x1) (fun p21 => (k4_X7_endBody_193 N E1 E2 hm1 hm2 p21.2 x1))) (kp4_ite (kp4_bind (k4_X0_aim N σ (CS.o σ x1 9)) (fun p26 => (kp4_ite (kp4_bind (k4_X6_isGoneTo N p26.2 x1 0) (fun p31 => (kp4_ite (k4_X7_endBody_130 N E1 E2 hm1 hm2 (CS.setI p31.2 36 0) x1) (k4_X7_endBody_130 N E1 E2 hm1 hm2 (CS.setI p31.2 36 1) x1)))) (k4_X7_endBody_130 N E1 E2 hm1 hm2 (CS.setI p26.2 36 1) x1)))) (kp4_bind (k4_X0_add N σ 30 (CS.o σ x1 10)) (fun p36 => (kp4_ite (kp4_bind (k4_X0_aim N p36.2 (CS.o p36.2 x1 9)) (fun p41 => (kp4_ite (kp4_ite (k4_X7_endBody_193 N E1 E2 hm1 hm2 (CS.setI p41.2 36 1) x1) (kp4_bind (k4_X6_isGoneTo N p41.2 x1 0) (fun p47 => (kp4_ite (k4_X7_endBody_193 N E1 E2 hm1 hm2 (CS.setI p47.2 36 0) x1) (k4_X7_endBody_193 N E1 E2 hm1 hm2 (CS.setI p47.2 36 1) x1))))) kp4_none))) kp4_none))))))) kp4_none)
theorem k4_X7_notReached (N : Nat) (σ : CS) (x1 : Int32) : Kp4 (CS.i σ 5) (CS.i σ 13) (CS.i σ 14) (CS.a σ 9) (f_X7_notReached N σ x1) := by
  unfold f_X7_notReached
  exact (kp4_ite (kp4_some (⟨rfl, rfl, rfl, rfl⟩)) (kp4_some (⟨rfl, rfl, rfl, rfl⟩)))
theorem k4_X4_isCaught (N : Nat) (σ : CS) (x1 : Int32) : Kp4 (CS.i σ 5) (CS.i σ 13) (CS.i σ 14) (CS.a σ 9) (f_X4_isCaught N σ x1) := by
  unfold f_X4_isCaught
  exact (kp4_ite (kp4_some (⟨rfl, rfl, rfl, rfl⟩)) (kp4_some (⟨rfl, rfl, rfl, rfl⟩)))
theorem k4_X7_change_63 (N : Nat) (E1 : CS → Option (Unit × CS)) (E2 : CS → Option (Int32 × CS)) (hm1 : ∀ σ, Kp4 (CS.i σ 5) (CS.i σ 13) (CS.i σ 14) (CS.a σ 9) (E1 σ)) (hm2 : ∀ σ, Kp4 (CS.i σ 5) (CS.i σ 13) (CS.i σ 14) (CS.a σ 9) (E2 σ)) (σ : CS) (x3 : Int32) : Kp4 (CS.i σ 5) (CS.i σ 13) (CS.i σ 14) (CS.a σ 9) (f_X7_change_63 N E1 E2 σ x3) := by
  unfold f_X7_change_63
  exact (kp4_bind (k4_X1_fail N σ 3 x3) (fun p11 => (kp4_some (⟨rfl, rfl, rfl, rfl⟩))))
theorem k4_X7_change_72 (N : Nat) (E1 : CS → Option (Unit × CS)) (E2 : CS → Option (Int32 × CS)) (hm1 : ∀ σ, Kp4 (CS.i σ 5) (CS.i σ 13) (CS.i σ 14) (CS.a σ 9) (E1 σ)) (hm2 : ∀ σ, Kp4 (CS.i σ 5) (CS.i σ 13) (CS.i σ 14) (CS.a σ 9) (E2 σ)) (σ : CS) (x5 : Int32) (x6 : Int32) : Kp4 (CS.i σ 5) (CS.i σ 13) (CS.i σ 14) (CS.a σ 9) (f_X7_change_72 N E1 E2 σ x5 x6) := by
  unfold f_X7_change_72
  exact (kp4_ite (kp4_bind (k4_X1_misplaced N σ) (fun p46 => (kp4_some (⟨rfl, rfl, rfl, rfl⟩)))) (kp4_bind (k4_X1_skip N σ 135) (fun p17 => (kp4_ite (kp4_bind (k4_X9_advance N p17.2) (fun p22 => (kp4_bind (k4_X1_expression N E1 E2 hm1 hm2 p22.2) (fun p26 => (kp4_bind (k4_X4_cellOf N p26.2 x5) (fun p30 => (kp4_bind (k4_X0_add N p30.2 2 p30.1) (fun p34 => (kp4_some (⟨rfl, rfl, rfl, rfl⟩)))))))))) (kp4_bind (k4_X4_cellOf N p17.2 x5) (fun p38 => (kp4_bind (k4_X0_add N p38.2 3 p38.1) (fun p42 => (kp4_some (⟨rfl, rfl, rfl, rfl⟩))))))))))
theorem k4_X7_change_41 (N : Nat) (E1 : CS → Option (Unit × CS)) (E2 : CS → Option (Int32 × CS)) (hm1 : ∀ σ, Kp4 (CS.i σ 5) (CS.i σ 13) (CS.i σ 14) (CS.a σ 9) (E1 σ)) (hm2 : ∀ σ, Kp4 (CS.i σ 5) (CS.i σ 13) (CS.i σ 14) (CS.a σ 9) (E2 σ)) (σ : CS) (x3 : Int32) (x5 : Int32) (x6 : Int32) : Kp4 (CS.i σ 5) (CS.i σ 13) (CS.i σ 14) (CS.a σ 9) (f_X7_change_41 N E1 E2 σ x3 x5 x6) := by
  unfold f_X7_change_41
  exact (kp4_ite (k4_X7_change_63 N E1 E2 hm1 hm2 σ x3) (kp4_ite (k4_X7_change_72 N E1 E2 hm1 hm2 σ x5 x6) (kp4_bind (k4_X4_isCaught N σ x5) (fun p50 => (kp4_ite (k4_X7_change_72 N E1 E2 hm1 hm2 p50.2 x5 x6) (k4_X7_change_63 N E1 E2 hm1 hm2 p50.2 x3))))))
theorem k4_X7_change_34 (N : Nat) (E1 : CS → Option (Unit × CS)) (E2 : CS → Option (Int32 × CS)) (hm1 : ∀ σ, Kp4 (CS.i σ 5) (CS.i σ 13) (CS.i σ 14) (CS.a σ 9) (E1 σ)) (hm2 : ∀ σ, Kp4 (CS.i σ 5) (CS.i σ 13) (CS.i σ 14) (CS.a σ 9) (E2 σ)) (σ : CS) (x3 : Int32) (x5 : Int32) : Kp4 (CS.i σ 5) (CS.i σ 13) (CS.i σ 14) (CS.a σ 9) (f_X7_change_34 N E1 E2 σ x3 x5) := by
  unfold f_X7_change_34
  exact (k4_X7_change_41 N E1 E2 hm1 hm2 σ x3 x5 1)
theorem k4_X7_change_38 (N : Nat) (E1 : CS → Option (Unit × CS)) (E2 : CS → Option (Int32 × CS)) (hm1 : ∀ σ, Kp4 (CS.i σ 5) (CS.i σ 13) (CS.i σ 14) (CS.a σ 9) (E1 σ)) (hm2 : ∀ σ, Kp4 (CS.i σ 5) (CS.i σ 13) (CS.i σ 14) (CS.a σ 9) (E2 σ)) (σ : CS) (x3 : Int32) (x5 : Int32) : Kp4 (CS.i σ 5) (CS.i σ 13) (CS.i σ 14) (CS.a σ 9) (f_X7_change_38 N E1 E2 σ x3 x5) := by
  unfold f_X7_change_38
  exact (k4_X7_change_41 N E1 E2 hm1 hm2 σ x3 x5 0)
theorem k4_X7_change (N : Nat) (E1 : CS → Option (Unit × CS)) (E2 : CS → Option (Int32 × CS)) (hm1 : ∀ σ, Kp4 (CS.i σ 5) (CS.i σ 13) (CS.i σ 14) (CS.a σ 9) (E1 σ)) (hm2 : ∀ σ, Kp4 (CS.i σ 5) (CS.i σ 13) (CS.i σ 14) (CS.a σ 9) (E2 σ)) (σ : CS) (x1 : Int64) (x3 : Int32) (x4 : Int32) : Kp4 (CS.i σ 5) (CS.i σ 13) (CS.i σ 14) (CS.a σ 9) (f_X7_change N E1 E2 σ x1 x3 x4) := by
  unfold f_X7_change
  exact (kp4_bind (k4_X4_find N σ x1) (fun p1 => (kp4_bind (k4_X1_found N p1.2 61) (fun p5 => (kp4_ite (kp4_ite (k4_X7_change_38 N E1 E2 hm1 hm2 p5.2 x3 p1.1) (kp4_bind (k4_X1_found N p5.2 135) (fun p56 => (kp4_ite (k4_X7_change_38 N E1 E2 hm1 hm2 p56.2 x3 p1.1) (k4_X7_change_34 N E1 E2 hm1 hm2 p56.2 x3 p1.1))))) (k4_X7_change_34 N E1 E2 hm1 hm2 p5.2 x3 p1.1))))))
theorem kb4_X6_labelled_7 (N : Nat) (K : CS → Int64 → Int32 → Option (Int32 × CS)) (hMK : ∀ (σ : CS) (x1 : Int64) (x3 : Int32), Kp4 (CS.i σ 5) (CS.i σ 13) (CS.i σ 14) (CS.a σ 9) (K σ x1 x3)) (σ : CS) (x1 : Int64) (x3 : Int32) : Kp4 (CS.i σ 5) (CS.i σ 13) (CS.i σ 14) (CS.a σ 9) (b_X6_labelled_7 N K σ x1 x3) := by
  unfold b_X6_labelled_7
  exact (kp4_ite (kp4_some (⟨rfl, rfl, rfl, rfl⟩)) (kp4_bind (k4_X6_row N σ x3) (fun p2 => (kp4_oc (hMK p2.2 x1 (x3 + (-1))) (fun a7 => (kp4_ite (kp4_ite (kp4_ite (kp4_some (⟨rfl, rfl, rfl, rfl⟩)) (hMK p2.2 x1 (x3 + (-1)))) (hMK p2.2 x1 (x3 + (-1)))) kp4_none))))))
theorem k4_X6_labelled_7 (N : Nat) : ∀ (n : Nat) (σ : CS) (x1 : Int64) (x3 : Int32), Kp4 (CS.i σ 5) (CS.i σ 13) (CS.i σ 14) (CS.a σ 9) (f_X6_labelled_7 N n σ x1 x3)
  | 0, _, _, _ => kp4_none
  | n+1, σ, x1, x3 => kb4_X6_labelled_7 N (f_X6_labelled_7 N n) (fun σ x1 x3 => k4_X6_labelled_7 N n σ x1 x3) σ x1 x3
theorem k4_X6_labelled (N : Nat) (σ : CS) (x1 : Int64) : Kp4 (CS.i σ 5) (CS.i σ 13) (CS.i σ 14) (CS.a σ 9) (f_X6_labelled N σ x1) := by
  unfold f_X6_labelled
  exact (k4_X6_labelled_7 N N σ x1 ((σ.i 53) - 1))
theorem k4_X7_named_73 (N : Nat) (E1 : CS → Option (Unit × CS)) (E2 : CS → Option (Int32 × CS)) (hm1 : ∀ σ, Kp4 (CS.i σ 5) (CS.i σ 13) (CS.i σ 14) (CS.a σ 9) (E1 σ)) (hm2 : ∀ σ, Kp4 (CS.i σ 5) (CS.i σ 13) (CS.i σ 14) (CS.a σ 9) (E2 σ)) (σ : CS) (x1 : Int64) : Kp4 (CS.i σ 5) (CS.i σ 13) (CS.i σ 14) (CS.a σ 9) (f_X7_named_73 N E1 E2 σ x1) := by
  unfold f_X7_named_73
  exact (kp4_bind (k4_X9_advance N σ) (fun p15 => (kp4_bind (k4_X6_push N p15.2 303 (p15.2.i 38) (p15.2.i 50)) (fun p19 => (kp4_oc kp4_none (fun a24 => (kp4_ite (kp4_bind (k4_X0_newTarget N (CS.setOl p19.2 a24 x1)) (fun p26 => (kp4_ite (kp4_some (⟨rfl, rfl, rfl, rfl⟩)) kp4_none))) kp4_none)))))))
theorem k4_X7_named (N : Nat) (E1 : CS → Option (Unit × CS)) (E2 : CS → Option (Int32 × CS)) (hm1 : ∀ σ, Kp4 (CS.i σ 5) (CS.i σ 13) (CS.i σ 14) (CS.a σ 9) (E1 σ)) (hm2 : ∀ σ, Kp4 (CS.i σ 5) (CS.i σ 13) (CS.i σ 14) (CS.a σ 9) (E2 σ)) (σ : CS) : Kp4 (CS.i σ 5) (CS.i σ 13) (CS.i σ 14) (CS.a σ 9) (f_X7_named N E1 E2 σ) := by
  unfold f_X7_named
  exact (kp4_bind (k4_X9_advance N σ) (fun p1 => (kp4_bind (k4_X1_found N p1.2 58) (fun p5 => (kp4_ite (kp4_bind (k4_X0_add N p5.2 51 0) (fun p35 => (kp4_bind (k4_X7_change N E1 E2 hm1 hm2 p35.2 σ.l (σ.i 44) 1) (fun p39 => (kp4_bind (k4_X1_expect N p39.2 59) (fun p43 => (kp4_some (⟨rfl, rfl, rfl, rfl⟩)))))))) (kp4_bind (k4_X6_labelled N p5.2 σ.l) (fun p10 => (kp4_ite (k4_X7_named_73 N E1 E2 hm1 hm2 p10.2 σ.l) (kp4_bind (k4_X1_fail N p10.2 4 (σ.i 44)) (fun p31 => (k4_X7_named_73 N E1 E2 hm1 hm2 p31.2 σ.l)))))))))))
theorem k4_X7_newName_56 (N : Nat) (σ : CS) (x1 : Int64) : Kp4 (CS.i σ 5) (CS.i σ 13) (CS.i σ 14) (CS.a σ 9) (f_X7_newName_56 N σ x1) := by
  unfold f_X7_newName_56
  exact (kp4_some (⟨rfl, rfl, rfl, rfl⟩))
theorem k4_X7_newName (N : Nat) (σ : CS) : Kp4 (CS.i σ 5) (CS.i σ 13) (CS.i σ 14) (CS.a σ 9) (f_X7_newName N σ) := by
  unfold f_X7_newName
  exact (kp4_bind (k4_X1_found N σ 2) (fun p1 => (kp4_ite (kp4_bind (k4_X1_misplaced N p1.2) (fun p19 => (k4_X7_newName_56 N p19.2 σ.l))) (kp4_bind (k4_X4_find N p1.2 σ.l) (fun p6 => (kp4_ite (kp4_bind (k4_X9_advance N p6.2) (fun p11 => (k4_X7_newName_56 N p11.2 σ.l))) (kp4_bind (k4_X1_fail N p6.2 4 (p6.2.i 44)) (fun p15 => (k4_X7_newName_56 N p15.2 σ.l)))))))))
theorem k4_X4_add (N : Nat) (σ : CS) (x1 : Int64) (x3 : Int32) (x4 : Int32) : Kp4 (CS.i σ 5) (CS.i σ 13) (CS.i σ 14) (CS.a σ 9) (f_X4_add N σ x1 x3 x4) := by
  unfold f_X4_add
  exact (kp4_ite (kp4_some (⟨rfl, rfl, rfl, rfl⟩)) (kp4_ite (kp4_some (⟨rfl, rfl, rfl, rfl⟩)) kp4_none))
theorem k4_X7_tell (N : Nat) (σ : CS) (x1 : Int64) : Kp4 (CS.i σ 5) (CS.i σ 13) (CS.i σ 14) (CS.a σ 9) (f_X7_tell N σ x1) := by
  unfold f_X7_tell
  exact (kp4_bind (k4_X0_newCells N σ 1) (fun p1 => (kp4_bind (k4_X4_add N p1.2 x1 p1.1 (-1)) (fun p5 => (kp4_some (⟨rfl, rfl, rfl, rfl⟩))))))
theorem k4_X7_define (N : Nat) (E1 : CS → Option (Unit × CS)) (E2 : CS → Option (Int32 × CS)) (hm1 : ∀ σ, Kp4 (CS.i σ 5) (CS.i σ 13) (CS.i σ 14) (CS.a σ 9) (E1 σ)) (hm2 : ∀ σ, Kp4 (CS.i σ 5) (CS.i σ 13) (CS.i σ 14) (CS.a σ 9) (E2 σ)) (σ : CS) (x1 : Int64) : Kp4 (CS.i σ 5) (CS.i σ 13) (CS.i σ 14) (CS.a σ 9) (f_X7_define N E1 E2 σ x1) := by
  unfold f_X7_define
  exact (kp4_bind (k4_X1_expect N σ 61) (fun p1 => (kp4_bind (k4_X1_expression N E1 E2 hm1 hm2 p1.2) (fun p5 => (kp4_bind (k4_X7_tell N p5.2 x1) (fun p9 => (kp4_bind (k4_X0_add N p9.2 2 p9.1) (fun p13 => (kp4_some (⟨rfl, rfl, rfl, rfl⟩))))))))))
theorem k4_X6_loopBehind_47 (N : Nat) (σ : CS) : Kp4 (CS.i σ 5) (CS.i σ 13) (CS.i σ 14) (CS.a σ 9) (f_X6_loopBehind_47 N σ ) := by
  unfold f_X6_loopBehind_47
  exact (kp4_some (⟨rfl, rfl, rfl, rfl⟩))
theorem k4_X6_loopBehind_32 (N : Nat) (σ : CS) (x2 : Int32) (x3 : Option Nat) : Kp4 (CS.i σ 5) (CS.i σ 13) (CS.i σ 14) (CS.a σ 9) (f_X6_loopBehind_32 N σ x2 x3) := by
  unfold f_X6_loopBehind_32
  exact (kp4_oc (k4_X6_loopBehind_47 N σ) (fun a9 => (kp4_ite (kp4_bind (k4_X5_isLoop N σ a9) (fun p12 => (kp4_ite (k4_X6_loopBehind_47 N p12.2) (kp4_some (⟨rfl, rfl, rfl, rfl⟩))))) kp4_none)))
theorem kb4_X6_loopBehind_4 (N : Nat) (K : CS → Int32 → Option (Int32 × CS)) (hMK : ∀ (σ : CS) (x2 : Int32), Kp4 (CS.i σ 5) (CS.i σ 13) (CS.i σ 14) (CS.a σ 9) (K σ x2)) (σ : CS) (x2 : Int32) : Kp4 (CS.i σ 5) (CS.i σ 13) (CS.i σ 14) (CS.a σ 9) (b_X6_loopBehind_4 N K σ x2) := by
  unfold b_X6_loopBehind_4
  exact (kp4_ite (kp4_some (⟨rfl, rfl, rfl, rfl⟩)) (kp4_bind (k4_X6_row N σ x2) (fun p2 => (kp4_oc (k4_X6_loopBehind_32 N p2.2 x2 none) (fun a7 => (kp4_ite (kp4_ite (hMK p2.2 (x2 + 1)) (k4_X6_loopBehind_32 N p2.2 x2 (some a7))) kp4_none))))))
theorem k4_X6_loopBehind_4 (N : Nat) : ∀ (n : Nat) (σ : CS) (x2 : Int32), Kp4 (CS.i σ 5) (CS.i σ 13) (CS.i σ 14) (CS.a σ 9) (f_X6_loopBehind_4 N n σ x2)
  | 0, _, _ => kp4_none
  | n+1, σ, x2 => kb4_X6_loopBehind_4 N (f_X6_loopBehind_4 N n) (fun σ x2 => k4_X6_loopBehind_4 N n σ x2) σ x2
theorem k4_X6_loopBehind (N : Nat) (σ : CS) (x1 : Int32) : Kp4 (CS.i σ 5) (CS.i σ 13) (CS.i σ 14) (CS.a σ 9) (f_X6_loopBehind N σ x1) := by
  unfold f_X6_loopBehind
  exact (k4_X6_loopBehind_4 N N σ (x1 + 1))
theorem k4_X7_labelTarget_63 (N : Nat) (σ : CS) (x2 : Int32) : Kp4 (CS.i σ 5) (CS.i σ 13) (CS.i σ 14) (CS.a σ 9) (f_X7_labelTarget_63 N σ x2) := by
  unfold f_X7_labelTarget_63
  exact (kp4_bind (k4_X9_advance N σ) (fun p7 => (kp4_some (⟨rfl, rfl, rfl, rfl⟩))))
theorem k4_X7_labelTarget (N : Nat) (σ : CS) (x1 : Int32) : Kp4 (CS.i σ 5) (CS.i σ 13) (CS.i σ 14) (CS.a σ 9) (f_X7_labelTarget N σ x1) := by
  unfold f_X7_labelTarget
  exact (kp4_bind (k4_X6_labelled N σ σ.l) (fun p1 => (kp4_ite (kp4_ite (k4_X7_labelTarget_63 N p1.2 p1.1) (kp4_bind (k4_X6_loopBehind N p1.2 p1.1) (fun p11 => (kp4_ite (k4_X7_labelTarget_63 N p11.2 p11.1) (kp4_bind (k4_X1_fail N p11.2 5 (p11.2.i 44)) (fun p16 => (k4_X7_labelTarget_63 N p16.2 p11.1))))))) (kp4_bind (k4_X1_fail N p1.2 3 (p1.2.i 44)) (fun p20 => (k4_X7_labelTarget_63 N p20.2 p1.1))))))
theorem k4_X6_nearest_46 (N : Nat) (σ : CS) (x2 : Int32) : Kp4 (CS.i σ 5) (CS.i σ 13) (CS.i σ 14) (CS.a σ 9) (f_X6_nearest_46 N σ x2) := by
  unfold f_X6_nearest_46
  exact (kp4_some (⟨rfl, rfl, rfl, rfl⟩))
theorem kb4_X6_nearest_7 (N : Nat) (K : CS → Int32 → Int32 → Option (Int32 × CS)) (hMK : ∀ (σ : CS) (x1 : Int32) (x2 : Int32), Kp4 (CS.i σ 5) (CS.i σ 13) (CS.i σ 14) (CS.a σ 9) (K σ x1 x2)) (σ : CS) (x1 : Int32) (x2 : Int32) : Kp4 (CS.i σ 5) (CS.i σ 13) (CS.i σ 14) (CS.a σ 9) (b_X6_nearest_7 N K σ x1 x2) := by
  unfold b_X6_nearest_7
  exact (kp4_ite (kp4_some (⟨rfl, rfl, rfl, rfl⟩)) (kp4_bind (k4_X6_row N σ x2) (fun p2 => (kp4_oc (hMK p2.2 x1 (x2 + (-1))) (fun a7 => (kp4_ite (kp4_bind (k4_X5_isLoop N p2.2 a7) (fun p10 => (kp4_ite (kp4_ite (kp4_ite (kp4_ite (k4_X6_nearest_46 N p10.2 x2) (hMK p10.2 x1 (x2 + (-1)))) kp4_none) (hMK p10.2 x1 (x2 + (-1)))) (k4_X6_nearest_46 N p10.2 x2)))) kp4_none))))))
theorem k4_X6_nearest_7 (N : Nat) : ∀ (n : Nat) (σ : CS) (x1 : Int32) (x2 : Int32), Kp4 (CS.i σ 5) (CS.i σ 13) (CS.i σ 14) (CS.a σ 9) (f_X6_nearest_7 N n σ x1 x2)
  | 0, _, _, _ => kp4_none
  | n+1, σ, x1, x2 => kb4_X6_nearest_7 N (f_X6_nearest_7 N n) (fun σ x1 x2 => k4_X6_nearest_7 N n σ x1 x2) σ x1 x2
theorem k4_X6_nearest (N : Nat) (σ : CS) (x1 : Int32) : Kp4 (CS.i σ 5) (CS.i σ 13) (CS.i σ 14) (CS.a σ 9) (f_X6_nearest N σ x1) := by
  unfold f_X6_nearest
  exact (k4_X6_nearest_7 N N σ x1 ((σ.i 53) - 1))
theorem k4_X6_addJump (N : Nat) (σ : CS) (x1 : Nat) (x2 : Int32) : Kp4 (CS.i σ 5) (CS.i σ 13) (CS.i σ 14) (CS.a σ 9) (f_X6_addJump N σ x1 x2) := by
  unfold f_X6_addJump
  exact (kp4_bind (k4_X6_jumpTo N σ x1 x2) (fun p1 => (kp4_some (⟨rfl, rfl, rfl, rfl⟩))))
theorem k4_X7_leave (N : Nat) (σ : CS) (x1 : Int32) (x2 : Int32) : Kp4 (CS.i σ 5) (CS.i σ 13) (CS.i σ 14) (CS.a σ 9) (f_X7_leave N σ x1 x2) := by
  unfold f_X7_leave
  exact (kp4_ite (kp4_bind (k4_X0_add N σ 30 x1) (fun p6 => (kp4_some (⟨rfl, rfl, rfl, rfl⟩)))) (kp4_bind (k4_X0_add N σ 60 ((x1 * 32) + x2)) (fun p2 => (kp4_some (⟨rfl, rfl, rfl, rfl⟩)))))
theorem k4_X7_jump_129 (N : Nat) (σ : CS) : Kp4 (CS.i σ 5) (CS.i σ 13) (CS.i σ 14) (CS.a σ 9) (f_X7_jump_129 N σ ) := by
  unfold f_X7_jump_129
  exact (kp4_some (⟨rfl, rfl, rfl, rfl⟩))
theorem k4_X7_jump_72 (N : Nat) (σ : CS) (x1 : Int32) (x3 : Int32) : Kp4 (CS.i σ 5) (CS.i σ 13) (CS.i σ 14) (CS.a σ 9) (f_X7_jump_72 N σ x1 x3) := by
  unfold f_X7_jump_72
  exact (kp4_bind (k4_X1_expect N σ 59) (fun p19 => (kp4_bind (k4_X6_row N p19.2 x3) (fun p23 => (kp4_oc (k4_X7_jump_129 N p23.2) (fun a28 => (kp4_bind (k4_X6_addJump N p23.2 a28 x1) (fun p29 => (kp4_ite (kp4_ite (kp4_bind (k4_X7_leave N p29.2 (CS.o p29.2 a28 9) (CS.o p29.2 a28 2)) (fun p35 => (k4_X7_jump_129 N p35.2))) kp4_none) (kp4_ite (kp4_bind (k4_X7_leave N p29.2 (CS.o p29.2 a28 10) (CS.o p29.2 a28 2)) (fun p40 => (k4_X7_jump_129 N p40.2))) kp4_none))))))))))
theorem k4_X7_jump (N : Nat) (σ : CS) : Kp4 (CS.i σ 5) (CS.i σ 13) (CS.i σ 14) (CS.a σ 9) (f_X7_jump N σ) := by
  unfold f_X7_jump
  exact (kp4_bind (k4_X1_found N σ 209) (fun p1 => (kp4_bind (k4_X9_advance N (CS.setI p1.2 26 ((p1.2.i 26) + 1))) (fun p5 => (kp4_bind (k4_X1_found N p5.2 2) (fun p9 => (kp4_ite (kp4_bind (k4_X6_nearest N p9.2 p1.1) (fun p14 => (kp4_ite (k4_X7_jump_72 N p14.2 p1.1 p14.1) (kp4_bind (k4_X1_fail N p14.2 5 (p1.2.i 44)) (fun p44 => (k4_X7_jump_72 N p44.2 p1.1 p14.1)))))) (kp4_bind (k4_X7_labelTarget N p9.2 p1.1) (fun p48 => (k4_X7_jump_72 N p48.2 p1.1 p48.1))))))))))
theorem k4_X7_giveBack_22 (N : Nat) (E1 : CS → Option (Unit × CS)) (E2 : CS → Option (Int32 × CS)) (hm1 : ∀ σ, Kp4 (CS.i σ 5) (CS.i σ 13) (CS.i σ 14) (CS.a σ 9) (E1 σ)) (hm2 : ∀ σ, Kp4 (CS.i σ 5) (CS.i σ 13) (CS.i σ 14) (CS.a σ 9) (E2 σ)) (σ : CS) : Kp4 (CS.i σ 5) (CS.i σ 13) (CS.i σ 14) (CS.a σ 9) (f_X7_giveBack_22 N E1 E2 σ ) := by
  unfold f_X7_giveBack_22
  exact (kp4_bind (k4_X9_advance N σ) (fun p2 => (kp4_bind (k4_X1_expression N E1 E2 hm1 hm2 p2.2) (fun p6 => (kp4_bind (k4_X0_add N p6.2 62 0) (fun p10 => (kp4_bind (k4_X1_expect N p10.2 59) (fun p14 => (kp4_some (⟨rfl, rfl, rfl, rfl⟩))))))))))
theorem k4_X7_giveBack (N : Nat) (E1 : CS → Option (Unit × CS)) (E2 : CS → Option (Int32 × CS)) (hm1 : ∀ σ, Kp4 (CS.i σ 5) (CS.i σ 13) (CS.i σ 14) (CS.a σ 9) (E1 σ)) (hm2 : ∀ σ, Kp4 (CS.i σ 5) (CS.i σ 13) (CS.i σ 14) (CS.a σ 9) (E2 σ)) (σ : CS) : Kp4 (CS.i σ 5) (CS.i σ 13) (CS.i σ 14) (CS.a σ 9) (f_X7_giveBack N E1 E2 σ) := by
  unfold f_X7_giveBack
  exact (kp4_ite (k4_X7_giveBack_22 N E1 E2 hm1 hm2 σ) (kp4_bind (k4_X1_fail N σ 5 (σ.i 44)) (fun p18 => (k4_X7_giveBack_22 N E1 E2 hm1 hm2 p18.2))))
theorem k4_X7_yieldValue (N : Nat) (E1 : CS → Option (Unit × CS)) (E2 : CS → Option (Int32 × CS)) (hm1 : ∀ σ, Kp4 (CS.i σ 5) (CS.i σ 13) (CS.i σ 14) (CS.a σ 9) (E1 σ)) (hm2 : ∀ σ, Kp4 (CS.i σ 5) (CS.i σ 13) (CS.i σ 14) (CS.a σ 9) (E2 σ)) (σ : CS) : Kp4 (CS.i σ 5) (CS.i σ 13) (CS.i σ 14) (CS.a σ 9) (f_X7_yieldValue N E1 E2 σ) := by
  unfold f_X7_yieldValue
  exact (kp4_bind (k4_X6_row N σ (σ.i 56)) (fun p1 => (kp4_oc (kp4_bind (k4_X1_fail N p1.2 5 (p1.2.i 44)) (fun p7 => (kp4_some (⟨rfl, rfl, rfl, rfl⟩)))) (fun a6 => (kp4_bind (k4_X9_advance N p1.2) (fun p11 => (kp4_bind (k4_X1_expression N E1 E2 hm1 hm2 p11.2) (fun p15 => (kp4_ite (kp4_bind (k4_X0_add N p15.2 61 (((CS.o p15.2 a6 9) * 32) + (CS.o p15.2 a6 2))) (fun p20 => (kp4_bind (k4_X1_expect N p20.2 59) (fun p24 => (kp4_some (⟨rfl, rfl, rfl, rfl⟩)))))) kp4_none)))))))))
theorem k4_X10_isKind_16 (N : Nat) (σ : CS) : Kp4 (CS.i σ 5) (CS.i σ 13) (CS.i σ 14) (CS.a σ 9) (f_X10_isKind_16 N σ ) := by
  unfold f_X10_isKind_16
  exact (kp4_some (⟨rfl, rfl, rfl, rfl⟩))
theorem k4_X10_isKind (N : Nat) (σ : CS) (x1 : Int32) : Kp4 (CS.i σ 5) (CS.i σ 13) (CS.i σ 14) (CS.a σ 9) (f_X10_isKind N σ x1) := by
  unfold f_X10_isKind
  exact (kp4_ite (k4_X10_isKind_16 N σ) (kp4_ite (k4_X10_isKind_16 N σ) (kp4_some (⟨rfl, rfl, rfl, rfl⟩))))
theorem k4_X4_frameOf (N : Nat) (σ : CS) (x1 : Int32) : Kp4 (CS.i σ 5) (CS.i σ 13) (CS.i σ 14) (CS.a σ 9) (f_X4_frameOf N σ x1) := by
  unfold f_X4_frameOf
  exact (kp4_some (⟨rfl, rfl, rfl, rfl⟩))
theorem k4_X7_throwOne_152 (N : Nat) (E1 : CS → Option (Unit × CS)) (E2 : CS → Option (Int32 × CS)) (hm1 : ∀ σ, Kp4 (CS.i σ 5) (CS.i σ 13) (CS.i σ 14) (CS.a σ 9) (E1 σ)) (hm2 : ∀ σ, Kp4 (CS.i σ 5) (CS.i σ 13) (CS.i σ 14) (CS.a σ 9) (E2 σ)) (σ : CS) : Kp4 (CS.i σ 5) (CS.i σ 13) (CS.i σ 14) (CS.a σ 9) (f_X7_throwOne_152 N E1 E2 σ ) := by
  unfold f_X7_throwOne_152
  exact (kp4_bind (k4_X1_expect N σ 59) (fun p19 => (kp4_some (⟨rfl, rfl, rfl, rfl⟩))))
theorem k4_X7_throwOne_108 (N : Nat) (E1 : CS → Option (Unit × CS)) (E2 : CS → Option (Int32 × CS)) (hm1 : ∀ σ, Kp4 (CS.i σ 5) (CS.i σ 13) (CS.i σ 14) (CS.a σ 9) (E1 σ)) (hm2 : ∀ σ, Kp4 (CS.i σ 5) (CS.i σ 13) (CS.i σ 14) (CS.a σ 9) (E2 σ)) (σ : CS) : Kp4 (CS.i σ 5) (CS.i σ 13) (CS.i σ 14) (CS.a σ 9) (f_X7_throwOne_108 N E1 E2 σ ) := by
  unfold f_X7_throwOne_108
  exact (kp4_bind (k4_X1_fail N σ 3 (σ.i 44)) (fun p28 => (kp4_some (⟨rfl, rfl, rfl, rfl⟩))))
theorem k4_X7_throwOne_46 (N : Nat) (E1 : CS → Option (Unit × CS)) (E2 : CS → Option (Int32 × CS)) (hm1 : ∀ σ, Kp4 (CS.i σ 5) (CS.i σ 13) (CS.i σ 14) (CS.a σ 9) (E1 σ)) (hm2 : ∀ σ, Kp4 (CS.i σ 5) (CS.i σ 13) (CS.i σ 14) (CS.a σ 9) (E2 σ)) (σ : CS) (x1 : Int32) : Kp4 (CS.i σ 5) (CS.i σ 13) (CS.i σ 14) (CS.a σ 9) (f_X7_throwOne_46 N E1 E2 σ x1) := by
  unfold f_X7_throwOne_46
  exact (kp4_bind (k4_X9_advance N σ) (fun p54 => (kp4_bind (k4_X1_expression N E1 E2 hm1 hm2 p54.2) (fun p58 => (kp4_bind (k4_X0_add N p58.2 63 x1) (fun p62 => (k4_X7_throwOne_152 N E1 E2 hm1 hm2 p62.2)))))))
theorem k4_X7_throwOne (N : Nat) (E1 : CS → Option (Unit × CS)) (E2 : CS → Option (Int32 × CS)) (hm1 : ∀ σ, Kp4 (CS.i σ 5) (CS.i σ 13) (CS.i σ 14) (CS.a σ 9) (E1 σ)) (hm2 : ∀ σ, Kp4 (CS.i σ 5) (CS.i σ 13) (CS.i σ 14) (CS.a σ 9) (E2 σ)) (σ : CS) : Kp4 (CS.i σ 5) (CS.i σ 13) (CS.i σ 14) (CS.a σ 9) (f_X7_throwOne N E1 E2 σ) := by
  unfold f_X7_throwOne
  exact (kp4_bind (k4_X9_advance N σ) (fun p1 => (kp4_bind (k4_X1_found N p1.2 5) (fun p5 => (kp4_ite (kp4_bind (k4_X1_found N p5.2 2) (fun p10 => (kp4_ite (kp4_bind (k4_X1_misplaced N p10.2) (fun p15 => (k4_X7_throwOne_152 N E1 E2 hm1 hm2 p15.2))) (kp4_bind (k4_X4_find N p10.2 p10.2.l) (fun p23 => (kp4_ite (k4_X7_throwOne_108 N E1 E2 hm1 hm2 p23.2) (kp4_bind (k4_X4_isCaught N p23.2 p23.1) (fun p32 => (kp4_ite (k4_X7_throwOne_108 N E1 E2 hm1 hm2 p32.2) (kp4_bind (k4_X4_frameOf N p32.2 p23.1) (fun p37 => (kp4_bind (k4_X0_add N p37.2 64 p37.1) (fun p41 => (kp4_bind (k4_X9_advance N p41.2) (fun p45 => (k4_X7_throwOne_152 N E1 E2 hm1 hm2 p45.2)))))))))))))))) (kp4_bind (k4_X10_isKind N p5.2 (p5.2.i 45)) (fun p49 => (kp4_ite (kp4_bind (k4_X1_fail N p49.2 3 (p49.2.i 44)) (fun p66 => (k4_X7_throwOne_46 N E1 E2 hm1 hm2 p66.2 (p5.2.i 45)))) (k4_X7_throwOne_46 N E1 E2 hm1 hm2 p49.2 (p5.2.i 45))))))))))
theorem k4_X7_claim_74 (N : Nat) (E1 : CS → Option (Unit × CS)) (E2 : CS → Option (Int32 × CS)) (hm1 : ∀ σ, Kp4 (CS.i σ 5) (CS.i σ 13) (CS.i σ 14) (CS.a σ 9) (E1 σ)) (hm2 : ∀ σ, Kp4 (CS.i σ 5) (CS.i σ 13) (CS.i σ 14) (CS.a σ 9) (E2 σ)) (σ : CS) (x1 : Int32) : Kp4 (CS.i σ 5) (CS.i σ 13) (CS.i σ 14) (CS.a σ 9) (f_X7_claim_74 N E1 E2 σ x1) := by
  unfold f_X7_claim_74
  exact (kp4_bind (k4_X0_add N σ 63 3) (fun p34 => (kp4_bind (k4_X0_aim N p34.2 x1) (fun p38 => (kp4_bind (k4_X1_expect N p38.2 59) (fun p42 => (kp4_some (⟨rfl, rfl, rfl, rfl⟩))))))))
theorem k4_X7_claim (N : Nat) (E1 : CS → Option (Unit × CS)) (E2 : CS → Option (Int32 × CS)) (hm1 : ∀ σ, Kp4 (CS.i σ 5) (CS.i σ 13) (CS.i σ 14) (CS.a σ 9) (E1 σ)) (hm2 : ∀ σ, Kp4 (CS.i σ 5) (CS.i σ 13) (CS.i σ 14) (CS.a σ 9) (E2 σ)) (σ : CS) : Kp4 (CS.i σ 5) (CS.i σ 13) (CS.i σ 14) (CS.a σ 9) (f_X7_claim N E1 E2 σ) := by
  unfold f_X7_claim
  exact (kp4_bind (k4_X0_newTarget N σ) (fun p1 => (kp4_bind (k4_X9_advance N p1.2) (fun p5 => (kp4_bind (k4_X0_add N p5.2 35 p1.1) (fun p9 => (kp4_bind (k4_X1_condition N E1 E2 hm1 hm2 p9.2) (fun p13 => (kp4_bind (k4_X0_add N p13.2 5 0) (fun p17 => (kp4_bind (k4_X0_add N p17.2 31 p1.1) (fun p21 => (kp4_bind (k4_X1_skip N p21.2 58) (fun p25 => (kp4_ite (kp4_bind (k4_X0_add N p25.2 0 0) (fun p30 => (k4_X7_claim_74 N E1 E2 hm1 hm2 p30.2 p1.1))) (kp4_bind (k4_X1_expression N E1 E2 hm1 hm2 p25.2) (fun p46 => (k4_X7_claim_74 N E1 E2 hm1 hm2 p46.2 p1.1))))))))))))))))))
theorem k4_X7_beginIf (N : Nat) (E1 : CS → Option (Unit × CS)) (E2 : CS → Option (Int32 × CS)) (hm1 : ∀ σ, Kp4 (CS.i σ 5) (CS.i σ 13) (CS.i σ 14) (CS.a σ 9) (E1 σ)) (hm2 : ∀ σ, Kp4 (CS.i σ 5) (CS.i σ 13) (CS.i σ 14) (CS.a σ 9) (E2 σ)) (σ : CS) : Kp4 (CS.i σ 5) (CS.i σ 13) (CS.i σ 14) (CS.a σ 9) (f_X7_beginIf N E1 E2 σ) := by
  unfold f_X7_beginIf
  exact (kp4_bind (k4_X0_newTarget N σ) (fun p1 => (kp4_bind (k4_X9_advance N p1.2) (fun p5 => (kp4_bind (k4_X7_conditionInside N E1 E2 hm1 hm2 p5.2) (fun p9 => (kp4_bind (k4_X0_add N p9.2 31 p1.1) (fun p13 => (kp4_bind (k4_X6_push N p13.2 203 (p13.2.i 38) (p13.2.i 50)) (fun p17 => (kp4_oc kp4_none (fun a22 => (kp4_ite (kp4_some (⟨rfl, rfl, rfl, rfl⟩)) kp4_none)))))))))))))
theorem k4_X7_pushLoop (N : Nat) (σ : CS) (x1 : Int32) (x2 : Int32) (x3 : Int32) : Kp4 (CS.i σ 5) (CS.i σ 13) (CS.i σ 14) (CS.a σ 9) (f_X7_pushLoop N σ x1 x2 x3) := by
  unfold f_X7_pushLoop
  exact (kp4_bind (k4_X6_push N σ x1 (σ.i 38) (σ.i 50)) (fun p1 => (kp4_oc kp4_none (fun a6 => (kp4_ite (kp4_some (⟨rfl, rfl, rfl, rfl⟩)) kp4_none)))))
theorem k4_X7_beginWhile (N : Nat) (E1 : CS → Option (Unit × CS)) (E2 : CS → Option (Int32 × CS)) (hm1 : ∀ σ, Kp4 (CS.i σ 5) (CS.i σ 13) (CS.i σ 14) (CS.a σ 9) (E1 σ)) (hm2 : ∀ σ, Kp4 (CS.i σ 5) (CS.i σ 13) (CS.i σ 14) (CS.a σ 9) (E2 σ)) (σ : CS) : Kp4 (CS.i σ 5) (CS.i σ 13) (CS.i σ 14) (CS.a σ 9) (f_X7_beginWhile N E1 E2 σ) := by
  unfold f_X7_beginWhile
  exact (kp4_bind (k4_X0_newTarget N σ) (fun p1 => (kp4_bind (k4_X0_newTarget N p1.2) (fun p5 => (kp4_bind (k4_X9_advance N p5.2) (fun p9 => (kp4_bind (k4_X0_aim N p9.2 p1.1) (fun p13 => (kp4_bind (k4_X7_conditionInside N E1 E2 hm1 hm2 p13.2) (fun p17 => (kp4_bind (k4_X0_add N p17.2 31 p5.1) (fun p21 => (kp4_bind (k4_X0_add N p21.2 51 0) (fun p25 => (kp4_bind (k4_X7_pushLoop N p25.2 205 p1.1 p5.1) (fun p29 => (kp4_oc kp4_none (fun a34 => (kp4_ite (kp4_ite (kp4_some (⟨rfl, rfl, rfl, rfl⟩)) kp4_none) kp4_none)))))))))))))))))))
theorem k4_X7_beginDo (N : Nat) (σ : CS) : Kp4 (CS.i σ 5) (CS.i σ 13) (CS.i σ 14) (CS.a σ 9) (f_X7_beginDo N σ) := by
  unfold f_X7_beginDo
  exact (kp4_bind (k4_X0_newTarget N σ) (fun p1 => (kp4_bind (k4_X0_newTarget N p1.2) (fun p5 => (kp4_bind (k4_X7_pushLoop N p5.2 206 p1.1 p5.1) (fun p9 => (kp4_oc (kp4_bind (k4_X0_newTarget N p9.2) (fun p15 => kp4_none)) (fun a14 => (kp4_bind (k4_X0_newTarget N p9.2) (fun p19 => (kp4_ite (kp4_bind (k4_X9_advance N (CS.setO p19.2 a14 11 p19.1)) (fun p24 => (kp4_ite (kp4_bind (k4_X0_aim N p24.2 (CS.o p24.2 a14 11)) (fun p29 => (kp4_bind (k4_X0_add N p29.2 51 0) (fun p33 => (kp4_some (⟨rfl, rfl, rfl, rfl⟩)))))) kp4_none))) kp4_none)))))))))))
theorem k4_X7_throwNull (N : Nat) (σ : CS) : Kp4 (CS.i σ 5) (CS.i σ 13) (CS.i σ 14) (CS.a σ 9) (f_X7_throwNull N σ) := by
  unfold f_X7_throwNull
  exact (kp4_bind (k4_X0_add N σ 0 0) (fun p1 => (kp4_bind (k4_X0_add N p1.2 63 1) (fun p5 => (kp4_some (⟨rfl, rfl, rfl, rfl⟩))))))
theorem k4_X7_rowValues_60 (N : Nat) (E1 : CS → Option (Unit × CS)) (E2 : CS → Option (Int32 × CS)) (hm1 : ∀ σ, Kp4 (CS.i σ 5) (CS.i σ 13) (CS.i σ 14) (CS.a σ 9) (E1 σ)) (hm2 : ∀ σ, Kp4 (CS.i σ 5) (CS.i σ 13) (CS.i σ 14) (CS.a σ 9) (E2 σ)) (σ : CS) (x1 : Int32) : Kp4 (CS.i σ 5) (CS.i σ 13) (CS.i σ 14) (CS.a σ 9) (f_X7_rowValues_60 N E1 E2 σ x1) := by
  unfold f_X7_rowValues_60
  exact (kp4_bind (k4_X0_newCells N σ (2 + x1)) (fun p11 => (kp4_bind (k4_X0_add N p11.2 0 x1) (fun p15 => (kp4_bind (k4_X0_add N p15.2 36 p11.1) (fun p19 => (kp4_some (⟨rfl, rfl, rfl, rfl⟩))))))))
theorem kb4_X7_rowValues_31 (N : Nat) (E1 : CS → Option (Unit × CS)) (E2 : CS → Option (Int32 × CS)) (hm1 : ∀ σ, Kp4 (CS.i σ 5) (CS.i σ 13) (CS.i σ 14) (CS.a σ 9) (E1 σ)) (hm2 : ∀ σ, Kp4 (CS.i σ 5) (CS.i σ 13) (CS.i σ 14) (CS.a σ 9) (E2 σ)) (K : CS → Int32 → Int32 → Option (Int32 × CS)) (hMK : ∀ (σ : CS) (x1 : Int32) (x2 : Int32), Kp4 (CS.i σ 5) (CS.i σ 13) (CS.i σ 14) (CS.a σ 9) (K σ x1 x2)) (σ : CS) (x1 : Int32) (x2 : Int32) : Kp4 (CS.i σ 5) (CS.i σ 13) (CS.i σ 14) (CS.a σ 9) (b_X7_rowValues_31 N E1 E2 K σ x1 x2) := by
  unfold b_X7_rowValues_31
  exact (kp4_ite (k4_X7_rowValues_60 N E1 E2 hm1 hm2 σ x1) (kp4_bind (k4_X1_skip N σ 44) (fun p23 => (kp4_ite (k4_X7_rowValues_60 N E1 E2 hm1 hm2 p23.2 x1) (kp4_bind (k4_X1_expression N E1 E2 hm1 hm2 p23.2) (fun p28 => (hMK p28.2 (x1 + 1) (x2 + 1))))))))
theorem k4_X7_rowValues_31 (N : Nat) (E1 : CS → Option (Unit × CS)) (E2 : CS → Option (Int32 × CS)) (hm1 : ∀ σ, Kp4 (CS.i σ 5) (CS.i σ 13) (CS.i σ 14) (CS.a σ 9) (E1 σ)) (hm2 : ∀ σ, Kp4 (CS.i σ 5) (CS.i σ 13) (CS.i σ 14) (CS.a σ 9) (E2 σ)) : ∀ (n : Nat) (σ : CS) (x1 : Int32) (x2 : Int32), Kp4 (CS.i σ 5) (CS.i σ 13) (CS.i σ 14) (CS.a σ 9) (f_X7_rowValues_31 N E1 E2 n σ x1 x2)
  | 0, _, _, _ => kp4_none
  | n+1, σ, x1, x2 => kb4_X7_rowValues_31 N E1 E2 hm1 hm2 (f_X7_rowValues_31 N E1 E2 n) (fun σ x1 x2 => k4_X7_rowValues_31 N E1 E2 hm1 hm2 n σ x1 x2) σ x1 x2
theorem k4_X7_rowValues (N : Nat) (E1 : CS → Option (Unit × CS)) (E2 : CS → Option (Int32 × CS)) (hm1 : ∀ σ, Kp4 (CS.i σ 5) (CS.i σ 13) (CS.i σ 14) (CS.a σ 9) (E1 σ)) (hm2 : ∀ σ, Kp4 (CS.i σ 5) (CS.i σ 13) (CS.i σ 14) (CS.a σ 9) (E2 σ)) (σ : CS) : Kp4 (CS.i σ 5) (CS.i σ 13) (CS.i σ 14) (CS.a σ 9) (f_X7_rowValues N E1 E2 σ) := by
  unfold f_X7_rowValues
  exact (kp4_bind (k4_X1_skip N σ 224) (fun p1 => (kp4_ite (kp4_bind (k4_X1_expression N E1 E2 hm1 hm2 p1.2) (fun p6 => (k4_X7_rowValues_31 N E1 E2 hm1 hm2 N p6.2 1 0))) (kp4_bind (k4_X7_throwNull N p1.2) (fun p32 => (kp4_bind (k4_X0_newCells N p32.2 2) (fun p36 => (kp4_some (⟨rfl, rfl, rfl, rfl⟩)))))))))
theorem k4_X7_rowHead (N : Nat) (E1 : CS → Option (Unit × CS)) (E2 : CS → Option (Int32 × CS)) (hm1 : ∀ σ, Kp4 (CS.i σ 5) (CS.i σ 13) (CS.i σ 14) (CS.a σ 9) (E1 σ)) (hm2 : ∀ σ, Kp4 (CS.i σ 5) (CS.i σ 13) (CS.i σ 14) (CS.a σ 9) (E2 σ)) (σ : CS) (x1 : Int64) : Kp4 (CS.i σ 5) (CS.i σ 13) (CS.i σ 14) (CS.a σ 9) (f_X7_rowHead N E1 E2 σ x1) := by
  unfold f_X7_rowHead
  exact (kp4_bind (k4_X0_newTarget N σ) (fun p1 => (kp4_bind (k4_X0_newTarget N p1.2) (fun p5 => (kp4_bind (k4_X9_advance N p5.2) (fun p9 => (kp4_bind (k4_X7_rowValues N E1 E2 hm1 hm2 p9.2) (fun p13 => (kp4_bind (k4_X1_close N p13.2 41) (fun p17 => (kp4_bind (k4_X0_aim N p17.2 p1.1) (fun p21 => (kp4_bind (k4_X0_add N p21.2 37 p13.1) (fun p25 => (kp4_bind (k4_X0_add N p25.2 31 p5.1) (fun p29 => (kp4_bind (k4_X0_add N p29.2 51 0) (fun p33 => (kp4_bind (k4_X0_add N p33.2 38 p13.1) (fun p37 => (kp4_bind (k4_X7_tell N p37.2 x1) (fun p41 => (kp4_bind (k4_X0_add N p41.2 2 p41.1) (fun p45 => (kp4_bind (k4_X7_pushLoop N p45.2 304 p1.1 p5.1) (fun p49 => (kp4_oc (kp4_some (⟨rfl, rfl, rfl, rfl⟩)) (fun a54 => (kp4_some (⟨rfl, rfl, rfl, rfl⟩))))))))))))))))))))))))))))))
theorem k4_X7_changeHere (N : Nat) (E1 : CS → Option (Unit × CS)) (E2 : CS → Option (Int32 × CS)) (hm1 : ∀ σ, Kp4 (CS.i σ 5) (CS.i σ 13) (CS.i σ 14) (CS.a σ 9) (E1 σ)) (hm2 : ∀ σ, Kp4 (CS.i σ 5) (CS.i σ 13) (CS.i σ 14) (CS.a σ 9) (E2 σ)) (σ : CS) (x1 : Int32) : Kp4 (CS.i σ 5) (CS.i σ 13) (CS.i σ 14) (CS.a σ 9) (f_X7_changeHere N E1 E2 σ x1) := by
  unfold f_X7_changeHere
  exact (kp4_bind (k4_X9_advance N σ) (fun p1 => (kp4_bind (k4_X7_change N E1 E2 hm1 hm2 p1.2 σ.l (σ.i 44) x1) (fun p5 => (kp4_some (⟨rfl, rfl, rfl, rfl⟩))))))
theorem k4_X7_forHead_113 (N : Nat) (E1 : CS → Option (Unit × CS)) (E2 : CS → Option (Int32 × CS)) (hm1 : ∀ σ, Kp4 (CS.i σ 5) (CS.i σ 13) (CS.i σ 14) (CS.a σ 9) (E1 σ)) (hm2 : ∀ σ, Kp4 (CS.i σ 5) (CS.i σ 13) (CS.i σ 14) (CS.a σ 9) (E2 σ)) (σ : CS) (x1 : Int32) (x2 : Int32) (x3 : Int32) (x4 : Int32) (x5 : Int32) : Kp4 (CS.i σ 5) (CS.i σ 13) (CS.i σ 14) (CS.a σ 9) (f_X7_forHead_113 N E1 E2 σ x1 x2 x3 x4 x5) := by
  unfold f_X7_forHead_113
  exact (kp4_bind (k4_X1_close N σ 41) (fun p47 => (kp4_bind (k4_X0_add N p47.2 30 x1) (fun p51 => (kp4_bind (k4_X0_aim N p51.2 x3) (fun p55 => (kp4_bind (k4_X0_add N p55.2 51 0) (fun p59 => (kp4_bind (k4_X7_pushLoop N p59.2 207 x2 x4) (fun p63 => (kp4_oc kp4_none (fun a68 => (kp4_ite (kp4_ite (kp4_some (⟨rfl, rfl, rfl, rfl⟩)) kp4_none) kp4_none)))))))))))))
theorem k4_X7_forHead_76 (N : Nat) (E1 : CS → Option (Unit × CS)) (E2 : CS → Option (Int32 × CS)) (hm1 : ∀ σ, Kp4 (CS.i σ 5) (CS.i σ 13) (CS.i σ 14) (CS.a σ 9) (E1 σ)) (hm2 : ∀ σ, Kp4 (CS.i σ 5) (CS.i σ 13) (CS.i σ 14) (CS.a σ 9) (E2 σ)) (σ : CS) (x1 : Int32) (x2 : Int32) (x3 : Int32) (x4 : Int32) (x5 : Int32) : Kp4 (CS.i σ 5) (CS.i σ 13) (CS.i σ 14) (CS.a σ 9) (f_X7_forHead_76 N E1 E2 σ x1 x2 x3 x4 x5) := by
  unfold f_X7_forHead_76
  exact (kp4_bind (k4_X0_add N σ 30 x3) (fun p30 => (kp4_bind (k4_X1_expect N p30.2 59) (fun p34 => (kp4_bind (k4_X0_aim N p34.2 x2) (fun p38 => (kp4_bind (k4_X1_found N p38.2 2) (fun p42 => (kp4_ite (k4_X7_forHead_113 N E1 E2 hm1 hm2 p42.2 x1 x2 x3 x4 x5) (kp4_bind (k4_X7_changeHere N E1 E2 hm1 hm2 p42.2 1) (fun p71 => (k4_X7_forHead_113 N E1 E2 hm1 hm2 p71.2 x1 x2 x3 x4 x5))))))))))))
theorem k4_X7_forHead (N : Nat) (E1 : CS → Option (Unit × CS)) (E2 : CS → Option (Int32 × CS)) (hm1 : ∀ σ, Kp4 (CS.i σ 5) (CS.i σ 13) (CS.i σ 14) (CS.a σ 9) (E1 σ)) (hm2 : ∀ σ, Kp4 (CS.i σ 5) (CS.i σ 13) (CS.i σ 14) (CS.a σ 9) (E2 σ)) (σ : CS) : Kp4 (CS.i σ 5) (CS.i σ 13) (CS.i σ 14) (CS.a σ 9) (f_X7_forHead N E1 E2 σ) := by
  unfold f_X7_forHead
  exact (kp4_bind (k4_X0_newTarget N σ) (fun p1 => (kp4_bind (k4_X0_newTarget N p1.2) (fun p5 => (kp4_bind (k4_X0_newTarget N p5.2) (fun p9 => (kp4_bind (k4_X0_newTarget N p9.2) (fun p13 => (kp4_bind (k4_X1_expect N p13.2 59) (fun p17 => (kp4_bind (k4_X0_aim N p17.2 p1.1) (fun p21 => (kp4_bind (k4_X1_found N p21.2 59) (fun p25 => (kp4_ite (kp4_bind (k4_X1_condition N E1 E2 hm1 hm2 p25.2) (fun p75 => (kp4_bind (k4_X0_add N p75.2 31 p13.1) (fun p79 => (k4_X7_forHead_76 N E1 E2 hm1 hm2 p79.2 p1.1 p5.1 p9.1 p13.1 p75.1))))) (k4_X7_forHead_76 N E1 E2 hm1 hm2 p25.2 p1.1 p5.1 p9.1 p13.1 1))))))))))))))))
theorem k4_X7_beginFor_85 (N : Nat) (E1 : CS → Option (Unit × CS)) (E2 : CS → Option (Int32 × CS)) (hm1 : ∀ σ, Kp4 (CS.i σ 5) (CS.i σ 13) (CS.i σ 14) (CS.a σ 9) (E1 σ)) (hm2 : ∀ σ, Kp4 (CS.i σ 5) (CS.i σ 13) (CS.i σ 14) (CS.a σ 9) (E2 σ)) (σ : CS) (x1 : Int32) (x2 : Option Nat) : Kp4 (CS.i σ 5) (CS.i σ 13) (CS.i σ 14) (CS.a σ 9) (f_X7_beginFor_85 N E1 E2 σ x1 x2) := by
  unfold f_X7_beginFor_85
  exact (kp4_oc kp4_none (fun a26 => (kp4_ite (kp4_some (⟨rfl, rfl, rfl, rfl⟩)) kp4_none)))
theorem k4_X7_beginFor_80 (N : Nat) (E1 : CS → Option (Unit × CS)) (E2 : CS → Option (Int32 × CS)) (hm1 : ∀ σ, Kp4 (CS.i σ 5) (CS.i σ 13) (CS.i σ 14) (CS.a σ 9) (E1 σ)) (hm2 : ∀ σ, Kp4 (CS.i σ 5) (CS.i σ 13) (CS.i σ 14) (CS.a σ 9) (E2 σ)) (σ : CS) (x1 : Int32) : Kp4 (CS.i σ 5) (CS.i σ 13) (CS.i σ 14) (CS.a σ 9) (f_X7_beginFor_80 N E1 E2 σ x1) := by
  unfold f_X7_beginFor_80
  exact (kp4_bind (k4_X7_forHead N E1 E2 hm1 hm2 σ) (fun p19 => (kp4_oc (k4_X7_beginFor_85 N E1 E2 hm1 hm2 p19.2 x1 none) (fun a24 => (k4_X7_beginFor_85 N E1 E2 hm1 hm2 p19.2 x1 (some a24))))))
theorem k4_X7_beginFor_64 (N : Nat) (E1 : CS → Option (Unit × CS)) (E2 : CS → Option (Int32 × CS)) (hm1 : ∀ σ, Kp4 (CS.i σ 5) (CS.i σ 13) (CS.i σ 14) (CS.a σ 9) (E1 σ)) (hm2 : ∀ σ, Kp4 (CS.i σ 5) (CS.i σ 13) (CS.i σ 14) (CS.a σ 9) (E2 σ)) (σ : CS) (x1 : Int32) (x2 : Option Nat) : Kp4 (CS.i σ 5) (CS.i σ 13) (CS.i σ 14) (CS.a σ 9) (f_X7_beginFor_64 N E1 E2 σ x1 x2) := by
  unfold f_X7_beginFor_64
  exact (k4_X7_beginFor_85 N E1 E2 hm1 hm2 σ x1 x2)
theorem k4_X7_beginFor (N : Nat) (E1 : CS → Option (Unit × CS)) (E2 : CS → Option (Int32 × CS)) (hm1 : ∀ σ, Kp4 (CS.i σ 5) (CS.i σ 13) (CS.i σ 14) (CS.a σ 9) (E1 σ)) (hm2 : ∀ σ, Kp4 (CS.i σ 5) (CS.i σ 13) (CS.i σ 14) (CS.a σ 9) (E2 σ)) (σ : CS) : Kp4 (CS.i σ 5) (CS.i σ 13) (CS.i σ 14) (CS.a σ 9) (f_X7_beginFor N E1 E2 σ) := by
  unfold f_X7_beginFor
  exact (kp4_bind (k4_X9_advance N σ) (fun p1 => (kp4_bind (k4_X1_open N p1.2 40) (fun p5 => (kp4_bind (k4_X1_skip N p5.2 200) (fun p9 => (kp4_ite (kp4_bind (k4_X1_found N p9.2 2) (fun p14 => (kp4_ite (k4_X7_beginFor_80 N E1 E2 hm1 hm2 p14.2 (σ.i 50)) (kp4_bind (k4_X7_changeHere N E1 E2 hm1 hm2 p14.2 0) (fun p28 => (k4_X7_beginFor_80 N E1 E2 hm1 hm2 p28.2 (σ.i 50))))))) (kp4_bind (k4_X7_newName N p9.2) (fun p32 => (kp4_bind (k4_X1_found N p32.2 58) (fun p36 => (kp4_ite (kp4_bind (k4_X7_define N E1 E2 hm1 hm2 p36.2 p32.1) (fun p41 => (kp4_bind (k4_X7_forHead N E1 E2 hm1 hm2 p41.2) (fun p45 => (kp4_oc (k4_X7_beginFor_64 N E1 E2 hm1 hm2 p45.2 (σ.i 50) none) (fun a50 => (k4_X7_beginFor_64 N E1 E2 hm1 hm2 p45.2 (σ.i 50) (some a50)))))))) (kp4_bind (k4_X7_rowHead N E1 E2 hm1 hm2 p36.2 p32.1) (fun p51 => (kp4_oc (k4_X7_beginFor_64 N E1 E2 hm1 hm2 p51.2 (σ.i 50) none) (fun a56 => (k4_X7_beginFor_64 N E1 E2 hm1 hm2 p51.2 (σ.i 50) (some a56))))))))))))))))))
theorem k4_X7_beginLock_58 (N : Nat) (σ : CS) : Kp4 (CS.i σ 5) (CS.i σ 13) (CS.i σ 14) (CS.a σ 9) (f_X7_beginLock_58 N σ ) := by
  unfold f_X7_beginLock_58
  exact (kp4_bind (k4_X1_close N σ 41) (fun p22 => (kp4_bind (k4_X1_open N p22.2 123) (fun p26 => (kp4_bind (k4_X6_push N p26.2 212 (p26.2.i 38) (p26.2.i 50)) (fun p30 => (kp4_oc (kp4_bind (k4_X0_newTarget N p30.2) (fun p36 => kp4_none)) (fun a35 => (kp4_bind (k4_X0_newTarget N p30.2) (fun p40 => (kp4_ite (kp4_some (⟨rfl, rfl, rfl, rfl⟩)) kp4_none)))))))))))
theorem k4_X7_beginLock (N : Nat) (σ : CS) : Kp4 (CS.i σ 5) (CS.i σ 13) (CS.i σ 14) (CS.a σ 9) (f_X7_beginLock N σ) := by
  unfold f_X7_beginLock
  exact (kp4_bind (k4_X9_advance N σ) (fun p1 => (kp4_bind (k4_X1_open N p1.2 40) (fun p5 => (kp4_bind (k4_X1_found N p5.2 3) (fun p9 => (kp4_ite (kp4_bind (k4_X1_expect N p9.2 224) (fun p14 => (kp4_bind (k4_X7_throwNull N p14.2) (fun p18 => (k4_X7_beginLock_58 N p18.2))))) (kp4_bind (k4_X0_add N p9.2 53 (p9.2.i 45)) (fun p45 => (kp4_bind (k4_X9_advance N p45.2) (fun p49 => (k4_X7_beginLock_58 N p49.2))))))))))))
theorem k4_X7_beginSwitch (N : Nat) (E1 : CS → Option (Unit × CS)) (E2 : CS → Option (Int32 × CS)) (hm1 : ∀ σ, Kp4 (CS.i σ 5) (CS.i σ 13) (CS.i σ 14) (CS.a σ 9) (E1 σ)) (hm2 : ∀ σ, Kp4 (CS.i σ 5) (CS.i σ 13) (CS.i σ 14) (CS.a σ 9) (E2 σ)) (σ : CS) : Kp4 (CS.i σ 5) (CS.i σ 13) (CS.i σ 14) (CS.a σ 9) (f_X7_beginSwitch N E1 E2 σ) := by
  unfold f_X7_beginSwitch
  exact (kp4_bind (k4_X9_advance N σ) (fun p1 => (kp4_bind (k4_X1_open N p1.2 40) (fun p5 => (kp4_bind (k4_X1_expression N E1 E2 hm1 hm2 p5.2) (fun p9 => (kp4_bind (k4_X1_close N p9.2 41) (fun p13 => (kp4_bind (k4_X1_open N p13.2 123) (fun p17 => (kp4_bind (k4_X6_push N p17.2 218 (p17.2.i 38) (p17.2.i 50)) (fun p21 => (kp4_oc (kp4_bind (k4_X0_newTarget N p21.2) (fun p27 => kp4_none)) (fun a26 => (kp4_bind (k4_X0_newTarget N p21.2) (fun p31 => (kp4_ite (kp4_bind (k4_X0_newTarget N (CS.setO p31.2 a26 10 p31.1)) (fun p36 => (kp4_ite (kp4_bind (k4_X0_add N (CS.setO (CS.setO p36.2 a26 9 p36.1) a26 13 (p36.2.i 22)) 30 (CS.o (CS.setO (CS.setO p36.2 a26 9 p36.1) a26 13 (p36.2.i 22)) a26 10)) (fun p41 => (kp4_some (⟨rfl, rfl, rfl, rfl⟩)))) kp4_none))) kp4_none)))))))))))))))))
theorem k4_X7_openResource (N : Nat) (σ : CS) : Kp4 (CS.i σ 5) (CS.i σ 13) (CS.i σ 14) (CS.a σ 9) (f_X7_openResource N σ) := by
  unfold f_X7_openResource
  exact (kp4_bind (k4_X1_found N σ 4) (fun p1 => (kp4_ite (kp4_bind (k4_X1_misplaced N p1.2) (fun p14 => (kp4_some (⟨rfl, rfl, rfl, rfl⟩)))) (kp4_bind (k4_X0_add N p1.2 55 (p1.2.i 45)) (fun p6 => (kp4_bind (k4_X9_advance N p6.2) (fun p10 => (kp4_some (⟨rfl, rfl, rfl, rfl⟩)))))))))
theorem k4_X7_beginTry_132 (N : Nat) (σ : CS) : Kp4 (CS.i σ 5) (CS.i σ 13) (CS.i σ 14) (CS.a σ 9) (f_X7_beginTry_132 N σ ) := by
  unfold f_X7_beginTry_132
  exact (kp4_bind (k4_X1_open N σ 123) (fun p40 => (kp4_some (⟨rfl, rfl, rfl, rfl⟩))))
theorem kb4_X7_beginTry_106 (N : Nat) (K : CS → Int32 → Option (Unit × CS)) (hMK : ∀ (σ : CS) (x2 : Int32), Kp4 (CS.i σ 5) (CS.i σ 13) (CS.i σ 14) (CS.a σ 9) (K σ x2)) (σ : CS) (x2 : Int32) : Kp4 (CS.i σ 5) (CS.i σ 13) (CS.i σ 14) (CS.a σ 9) (b_X7_beginTry_106 N K σ x2) := by
  unfold b_X7_beginTry_106
  exact (kp4_ite (k4_X7_beginTry_132 N σ) (kp4_bind (k4_X1_skip N σ 44) (fun p50 => (kp4_ite (k4_X7_beginTry_132 N p50.2) (kp4_bind (k4_X7_openResource N p50.2) (fun p55 => (hMK p55.2 (x2 + 1))))))))
theorem k4_X7_beginTry_106 (N : Nat) : ∀ (n : Nat) (σ : CS) (x2 : Int32), Kp4 (CS.i σ 5) (CS.i σ 13) (CS.i σ 14) (CS.a σ 9) (f_X7_beginTry_106 N n σ x2)
  | 0, _, _ => kp4_none
  | n+1, σ, x2 => kb4_X7_beginTry_106 N (f_X7_beginTry_106 N n) (fun σ x2 => k4_X7_beginTry_106 N n σ x2) σ x2
theorem k4_X7_beginTry (N : Nat) (σ : CS) : Kp4 (CS.i σ 5) (CS.i σ 13) (CS.i σ 14) (CS.a σ 9) (f_X7_beginTry N σ) := by
  unfold f_X7_beginTry
  exact (kp4_bind (k4_X6_push N σ 213 (σ.i 38) (σ.i 50)) (fun p1 => (kp4_oc (kp4_bind (k4_X0_newTarget N p1.2) (fun p7 => kp4_none)) (fun a6 => (kp4_bind (k4_X0_newTarget N p1.2) (fun p11 => (kp4_ite (kp4_bind (k4_X0_newTarget N (CS.setO p11.2 a6 10 p11.1)) (fun p16 => (kp4_ite (kp4_bind (k4_X0_newTarget N (CS.setO p16.2 a6 11 p16.1)) (fun p21 => (kp4_ite (kp4_bind (k4_X9_advance N (CS.setO p21.2 a6 9 p21.1)) (fun p26 => (kp4_ite (kp4_bind (k4_X0_add N p26.2 54 (CS.o p26.2 a6 10)) (fun p31 => (kp4_bind (k4_X1_skip N (CS.setI p31.2 38 ((p31.2.i 38) + 1)) 214) (fun p35 => (kp4_ite (k4_X7_beginTry_132 N p35.2) (kp4_ite (kp4_bind (k4_X7_openResource N (CS.setO p35.2 a6 8 1)) (fun p45 => (k4_X7_beginTry_106 N N p45.2 0))) kp4_none)))))) kp4_none))) kp4_none))) kp4_none))) kp4_none)))))))
theorem k4_X7_compound (N : Nat) (E1 : CS → Option (Unit × CS)) (E2 : CS → Option (Int32 × CS)) (hm1 : ∀ σ, Kp4 (CS.i σ 5) (CS.i σ 13) (CS.i σ 14) (CS.a σ 9) (E1 σ)) (hm2 : ∀ σ, Kp4 (CS.i σ 5) (CS.i σ 13) (CS.i σ 14) (CS.a σ 9) (E2 σ)) (σ : CS) : Kp4 (CS.i σ 5) (CS.i σ 13) (CS.i σ 14) (CS.a σ 9) (f_X7_compound N E1 E2 σ) := by
  unfold f_X7_compound
  exact (kp4_ite (kp4_bind (k4_X7_beginIf N E1 E2 hm1 hm2 σ) (fun p2 => (kp4_some (⟨rfl, rfl, rfl, rfl⟩)))) (kp4_ite (kp4_bind (k4_X1_misplaced N σ) (fun p7 => (kp4_some (⟨rfl, rfl, rfl, rfl⟩)))) (kp4_ite (kp4_bind (k4_X7_beginWhile N E1 E2 hm1 hm2 σ) (fun p12 => (kp4_some (⟨rfl, rfl, rfl, rfl⟩)))) (kp4_ite (kp4_bind (k4_X7_beginDo N σ) (fun p17 => (kp4_some (⟨rfl, rfl, rfl, rfl⟩)))) (kp4_ite (kp4_bind (k4_X7_beginFor N E1 E2 hm1 hm2 σ) (fun p22 => (kp4_some (⟨rfl, rfl, rfl, rfl⟩)))) (kp4_ite (kp4_bind (k4_X1_misplaced N σ) (fun p27 => (kp4_some (⟨rfl, rfl, rfl, rfl⟩)))) (kp4_ite (kp4_bind (k4_X1_misplaced N σ) (fun p32 => (kp4_some (⟨rfl, rfl, rfl, rfl⟩)))) (kp4_ite (kp4_bind (k4_X1_misplaced N σ) (fun p37 => (kp4_some (⟨rfl, rfl, rfl, rfl⟩)))) (kp4_ite (kp4_bind (k4_X1_misplaced N σ) (fun p42 => (kp4_some (⟨rfl, rfl, rfl, rfl⟩)))) (kp4_ite (kp4_bind (k4_X7_beginLock N σ) (fun p47 => (kp4_some (⟨rfl, rfl, rfl, rfl⟩)))) (kp4_ite (kp4_bind (k4_X7_beginTry N σ) (fun p52 => (kp4_some (⟨rfl, rfl, rfl, rfl⟩)))) (kp4_ite (kp4_bind (k4_X1_misplaced N σ) (fun p57 => (kp4_some (⟨rfl, rfl, rfl, rfl⟩)))) (kp4_ite (kp4_bind (k4_X1_misplaced N σ) (fun p62 => (kp4_some (⟨rfl, rfl, rfl, rfl⟩)))) (kp4_ite (kp4_bind (k4_X1_misplaced N σ) (fun p67 => (kp4_some (⟨rfl, rfl, rfl, rfl⟩)))) (kp4_ite (kp4_bind (k4_X1_misplaced N σ) (fun p72 => (kp4_some (⟨rfl, rfl, rfl, rfl⟩)))) (kp4_ite (kp4_bind (k4_X7_beginSwitch N E1 E2 hm1 hm2 σ) (fun p77 => (kp4_some (⟨rfl, rfl, rfl, rfl⟩)))) (kp4_bind (k4_X1_misplaced N σ) (fun p81 => (kp4_some (⟨rfl, rfl, rfl, rfl⟩))))))))))))))))))))
theorem k4_X7_plain (N : Nat) (E1 : CS → Option (Unit × CS)) (E2 : CS → Option (Int32 × CS)) (hm1 : ∀ σ, Kp4 (CS.i σ 5) (CS.i σ 13) (CS.i σ 14) (CS.a σ 9) (E1 σ)) (hm2 : ∀ σ, Kp4 (CS.i σ 5) (CS.i σ 13) (CS.i σ 14) (CS.a σ 9) (E2 σ)) (σ : CS) : Kp4 (CS.i σ 5) (CS.i σ 13) (CS.i σ 14) (CS.a σ 9) (f_X7_plain N E1 E2 σ) := by
  unfold f_X7_plain
  exact (kp4_ite (kp4_bind (k4_X9_advance N σ) (fun p2 => (kp4_some (⟨rfl, rfl, rfl, rfl⟩)))) (kp4_ite (kp4_bind (k4_X9_advance N σ) (fun p7 => (kp4_bind (k4_X7_newName N p7.2) (fun p11 => (kp4_bind (k4_X7_define N E1 E2 hm1 hm2 p11.2 p11.1) (fun p15 => (kp4_bind (k4_X1_expect N p15.2 59) (fun p19 => (kp4_some (⟨rfl, rfl, rfl, rfl⟩)))))))))) (kp4_ite (kp4_bind (k4_X9_advance N σ) (fun p24 => (kp4_bind (k4_X7_newName N p24.2) (fun p28 => (kp4_bind (k4_X7_define N E1 E2 hm1 hm2 p28.2 p28.1) (fun p32 => (kp4_bind (k4_X1_expect N p32.2 59) (fun p36 => (kp4_some (⟨rfl, rfl, rfl, rfl⟩)))))))))) (kp4_ite (kp4_bind (k4_X9_advance N σ) (fun p41 => (kp4_bind (k4_X1_expression N E1 E2 hm1 hm2 p41.2) (fun p45 => (kp4_bind (k4_X0_add N p45.2 52 0) (fun p49 => (kp4_bind (k4_X1_expect N p49.2 59) (fun p53 => (kp4_some (⟨rfl, rfl, rfl, rfl⟩)))))))))) (kp4_ite (kp4_bind (k4_X7_jump N σ) (fun p58 => (kp4_some (⟨rfl, rfl, rfl, rfl⟩)))) (kp4_ite (kp4_bind (k4_X7_jump N σ) (fun p63 => (kp4_some (⟨rfl, rfl, rfl, rfl⟩)))) (kp4_ite (kp4_bind (k4_X7_giveBack N E1 E2 hm1 hm2 σ) (fun p68 => (kp4_some (⟨rfl, rfl, rfl, rfl⟩)))) (kp4_ite (kp4_bind (k4_X7_throwOne N E1 E2 hm1 hm2 σ) (fun p73 => (kp4_some (⟨rfl, rfl, rfl, rfl⟩)))) (kp4_ite (kp4_bind (k4_X7_claim N E1 E2 hm1 hm2 σ) (fun p78 => (kp4_some (⟨rfl, rfl, rfl, rfl⟩)))) (kp4_ite (kp4_bind (k4_X7_yieldValue N E1 E2 hm1 hm2 σ) (fun p83 => (kp4_some (⟨rfl, rfl, rfl, rfl⟩)))) (kp4_bind (k4_X7_compound N E1 E2 hm1 hm2 σ) (fun p87 => (kp4_some (⟨rfl, rfl, rfl, rfl⟩))))))))))))))
theorem k4_X7_statement_122 (N : Nat) (E1 : CS → Option (Unit × CS)) (E2 : CS → Option (Int32 × CS)) (hm1 : ∀ σ, Kp4 (CS.i σ 5) (CS.i σ 13) (CS.i σ 14) (CS.a σ 9) (E1 σ)) (hm2 : ∀ σ, Kp4 (CS.i σ 5) (CS.i σ 13) (CS.i σ 14) (CS.a σ 9) (E2 σ)) (σ : CS) : Kp4 (CS.i σ 5) (CS.i σ 13) (CS.i σ 14) (CS.a σ 9) (f_X7_statement_122 N E1 E2 σ ) := by
  unfold f_X7_statement_122
  exact (kp4_bind (k4_X0_add N σ 51 0) (fun p13 => (kp4_bind (k4_X7_plain N E1 E2 hm1 hm2 p13.2) (fun p17 => (kp4_some (⟨rfl, rfl, rfl, rfl⟩))))))
theorem k4_X7_statement_115 (N : Nat) (E1 : CS → Option (Unit × CS)) (E2 : CS → Option (Int32 × CS)) (hm1 : ∀ σ, Kp4 (CS.i σ 5) (CS.i σ 13) (CS.i σ 14) (CS.a σ 9) (E1 σ)) (hm2 : ∀ σ, Kp4 (CS.i σ 5) (CS.i σ 13) (CS.i σ 14) (CS.a σ 9) (E2 σ)) (σ : CS) : Kp4 (CS.i σ 5) (CS.i σ 13) (CS.i σ 14) (CS.a σ 9) (f_X7_statement_115 N E1 E2 σ ) := by
  unfold f_X7_statement_115
  exact (kp4_bind (k4_X1_misplaced N σ) (fun p26 => (kp4_some (⟨rfl, rfl, rfl, rfl⟩))))
theorem k4_X7_statement_18 (N : Nat) (E1 : CS → Option (Unit × CS)) (E2 : CS → Option (Int32 × CS)) (hm1 : ∀ σ, Kp4 (CS.i σ 5) (CS.i σ 13) (CS.i σ 14) (CS.a σ 9) (E1 σ)) (hm2 : ∀ σ, Kp4 (CS.i σ 5) (CS.i σ 13) (CS.i σ 14) (CS.a σ 9) (E2 σ)) (σ : CS) (x1 : Int32) : Kp4 (CS.i σ 5) (CS.i σ 13) (CS.i σ 14) (CS.a σ 9) (f_X7_statement_18 N E1 E2 σ x1) := by
  unfold f_X7_statement_18
  exact (kp4_bind (k4_X1_found N (CS.setI (CS.setI σ 36 1) 24 ((σ.i 24) + 1)) 2) (fun p2 => (kp4_ite (kp4_bind (k4_X1_found N p2.2 123) (fun p7 => (kp4_ite (kp4_ite (k4_X7_statement_122 N E1 E2 hm1 hm2 p7.2) (kp4_bind (k4_X1_found N p7.2 200) (fun p21 => (kp4_ite (kp4_bind (k4_X1_found N p21.2 201) (fun p30 => (kp4_ite (k4_X7_statement_122 N E1 E2 hm1 hm2 p30.2) (k4_X7_statement_115 N E1 E2 hm1 hm2 p30.2)))) (k4_X7_statement_115 N E1 E2 hm1 hm2 p21.2))))) (kp4_bind (k4_X1_open N p7.2 123) (fun p35 => (kp4_bind (k4_X6_push N p35.2 301 (p35.2.i 38) (p35.2.i 50)) (fun p39 => (kp4_oc (kp4_some (⟨rfl, rfl, rfl, rfl⟩)) (fun a44 => (kp4_some (⟨rfl, rfl, rfl, rfl⟩))))))))))) (kp4_bind (k4_X7_named N E1 E2 hm1 hm2 p2.2) (fun p45 => (kp4_some (⟨rfl, rfl, rfl, rfl⟩)))))))
theorem k4_X7_statement (N : Nat) (E1 : CS → Option (Unit × CS)) (E2 : CS → Option (Int32 × CS)) (hm1 : ∀ σ, Kp4 (CS.i σ 5) (CS.i σ 13) (CS.i σ 14) (CS.a σ 9) (E1 σ)) (hm2 : ∀ σ, Kp4 (CS.i σ 5) (CS.i σ 13) (CS.i σ 14) (CS.a σ 9) (E2 σ)) (σ : CS) (x1 : Int32) : Kp4 (CS.i σ 5) (CS.i σ 13) (CS.i σ 14) (CS.a σ 9) (f_X7_statement N E1 E2 σ x1) := by
  unfold f_X7_statement
  exact (kp4_ite (kp4_bind (k4_X7_notReached N σ (σ.i 44)) (fun p49 => (k4_X7_statement_18 N E1 E2 hm1 hm2 p49.2 x1))) (k4_X7_statement_18 N E1 E2 hm1 hm2 σ x1))
theorem k4_X7_bodyTurn (N : Nat) (E1 : CS → Option (Unit × CS)) (E2 : CS → Option (Int32 × CS)) (hm1 : ∀ σ, Kp4 (CS.i σ 5) (CS.i σ 13) (CS.i σ 14) (CS.a σ 9) (E1 σ)) (hm2 : ∀ σ, Kp4 (CS.i σ 5) (CS.i σ 13) (CS.i σ 14) (CS.a σ 9) (E2 σ)) (σ : CS) (x1 : Nat) : Kp4 (CS.i σ 5) (CS.i σ 13) (CS.i σ 14) (CS.a σ 9) (f_X7_bodyTurn N E1 E2 σ x1) := by
  unfold f_X7_bodyTurn
  exact (kp4_ite (kp4_ite (kp4_bind (k4_X7_statement N E1 E2 hm1 hm2 (CS.setO σ x1 5 1) 1) (fun p3 => (kp4_some (⟨rfl, rfl, rfl, rfl⟩)))) (kp4_bind (k4_X7_endBody N E1 E2 hm1 hm2 σ x1) (fun p7 => (kp4_some (⟨rfl, rfl, rfl, rfl⟩))))) kp4_none)
theorem k4_X10_isUnder_38 (N : Nat) (σ : CS) : Kp4 (CS.i σ 5) (CS.i σ 13) (CS.i σ 14) (CS.a σ 9) (f_X10_isUnder_38 N σ ) := by
  unfold f_X10_isUnder_38
  exact (kp4_some (⟨rfl, rfl, rfl, rfl⟩))
theorem kb4_X10_isUnder_5 (N : Nat) (K : CS → Int32 → Int32 → Int32 → Option (Int32 × CS)) (hMK : ∀ (σ : CS) (x2 : Int32) (x3 : Int32) (x4 : Int32), Kp4 (CS.i σ 5) (CS.i σ 13) (CS.i σ 14) (CS.a σ 9) (K σ x2 x3 x4)) (σ : CS) (x2 : Int32) (x3 : Int32) (x4 : Int32) : Kp4 (CS.i σ 5) (CS.i σ 13) (CS.i σ 14) (CS.a σ 9) (b_X10_isUnder_5 N K σ x2 x3 x4) := by
  unfold b_X10_isUnder_5
  exact (kp4_ite (k4_X10_isUnder_38 N σ) (kp4_ite (k4_X10_isUnder_38 N σ) (kp4_ite (kp4_some (⟨rfl, rfl, rfl, rfl⟩)) (hMK σ x2 (gAt (σ.a 9) 12 x3) (x4 + 1)))))
theorem k4_X10_isUnder_5 (N : Nat) : ∀ (n : Nat) (σ : CS) (x2 : Int32) (x3 : Int32) (x4 : Int32), Kp4 (CS.i σ 5) (CS.i σ 13) (CS.i σ 14) (CS.a σ 9) (f_X10_isUnder_5 N n σ x2 x3 x4)
  | 0, _, _, _, _ => kp4_none
  | n+1, σ, x2, x3, x4 => kb4_X10_isUnder_5 N (f_X10_isUnder_5 N n) (fun σ x2 x3 x4 => k4_X10_isUnder_5 N n σ x2 x3 x4) σ x2 x3 x4
theorem k4_X10_isUnder (N : Nat) (σ : CS) (x1 : Int32) (x2 : Int32) : Kp4 (CS.i σ 5) (CS.i σ 13) (CS.i σ 14) (CS.a σ 9) (f_X10_isUnder N σ x1 x2) := by
  unfold f_X10_isUnder
  exact (k4_X10_isUnder_5 N N σ x2 x1 0)
theorem kb4_X7_caughtKind_47 (N : Nat) (K : CS → Nat → Int32 → Int32 → Int32 → Option (Unit × CS)) (hMK : ∀ (σ : CS) (x1 : Nat) (x2 : Int32) (x3 : Int32) (x4 : Int32), Kp4 (CS.i σ 5) (CS.i σ 13) (CS.i σ 14) (CS.a σ 9) (K σ x1 x2 x3 x4)) (σ : CS) (x1 : Nat) (x2 : Int32) (x3 : Int32) (x4 : Int32) : Kp4 (CS.i σ 5) (CS.i σ 13) (CS.i σ 14) (CS.a σ 9) (b_X7_caughtKind_47 N K σ x1 x2 x3 x4) := by
  unfold b_X7_caughtKind_47
  exact (kp4_ite (kp4_ite (kp4_bind (k4_X0_add N (CS.setO σ x1 12 ((CS.o σ x1 12) ||| ((1 : Int32) <<< (x3 &&& 31)))) 56 ((x2 * 16) + x3)) (fun p13 => (kp4_bind (k4_X9_advance N p13.2) (fun p17 => (kp4_some (⟨rfl, rfl, rfl, rfl⟩)))))) kp4_none) (kp4_ite (kp4_ite (kp4_bind (k4_X10_isUnder N σ x3 x4) (fun p23 => (kp4_ite (hMK p23.2 x1 x2 x3 (x4 + 1)) (kp4_bind (k4_X1_fail N p23.2 6 (p23.2.i 44)) (fun p28 => (hMK p28.2 x1 x2 x3 (x4 + 1))))))) (hMK σ x1 x2 x3 (x4 + 1))) kp4_none))
theorem k4_X7_caughtKind_47 (N : Nat) : ∀ (n : Nat) (σ : CS) (x1 : Nat) (x2 : Int32) (x3 : Int32) (x4 : Int32), Kp4 (CS.i σ 5) (CS.i σ 13) (CS.i σ 14) (CS.a σ 9) (f_X7_caughtKind_47 N n σ x1 x2 x3 x4)
  | 0, _, _, _, _, _ => kp4_none
  | n+1, σ, x1, x2, x3, x4 => kb4_X7_caughtKind_47 N (f_X7_caughtKind_47 N n) (fun σ x1 x2 x3 x4 => k4_X7_caughtKind_47 N n σ x1 x2 x3 x4) σ x1 x2 x3 x4
theorem k4_X7_caughtKind_44 (N : Nat) (σ : CS) (x1 : Nat) (x2 : Int32) (x3 : Int32) : Kp4 (CS.i σ 5) (CS.i σ 13) (CS.i σ 14) (CS.a σ 9) (f_X7_caughtKind_44 N σ x1 x2 x3) := by
  unfold f_X7_caughtKind_44
  exact (k4_X7_caughtKind_47 N N σ x1 x2 x3 0)
theorem k4_X7_caughtKind (N : Nat) (σ : CS) (x1 : Nat) (x2 : Int32) : Kp4 (CS.i σ 5) (CS.i σ 13) (CS.i σ 14) (CS.a σ 9) (f_X7_caughtKind N σ x1 x2) := by
  unfold f_X7_caughtKind
  exact (kp4_bind (k4_X1_found N σ 5) (fun p1 => (kp4_ite (kp4_bind (k4_X1_misplaced N p1.2) (fun p36 => (kp4_some (⟨rfl, rfl, rfl, rfl⟩)))) (kp4_bind (k4_X10_isKind N p1.2 (p1.2.i 45)) (fun p6 => (kp4_ite (kp4_bind (k4_X1_fail N p6.2 3 (p6.2.i 44)) (fun p32 => (k4_X7_caughtKind_44 N p32.2 x1 x2 (p1.2.i 45)))) (k4_X7_caughtKind_44 N p6.2 x1 x2 (p1.2.i 45))))))))
theorem k4_X7_beginCatch_80 (N : Nat) (σ : CS) (x1 : Nat) (x2 : Int32) : Kp4 (CS.i σ 5) (CS.i σ 13) (CS.i σ 14) (CS.a σ 9) (f_X7_beginCatch_80 N σ x1 x2) := by
  unfold f_X7_beginCatch_80
  exact (kp4_bind (k4_X0_newCells N σ 1) (fun p24 => (kp4_bind (k4_X7_newName N p24.2) (fun p28 => (kp4_bind (k4_X4_add N p28.2 p28.1 p24.1 ((p28.2.i 38) - 1)) (fun p32 => (kp4_bind (k4_X1_close N p32.2 41) (fun p36 => (kp4_bind (k4_X1_open N p36.2 123) (fun p40 => (kp4_ite (kp4_bind (k4_X0_add N p40.2 30 (CS.o p40.2 x1 10)) (fun p45 => (kp4_bind (k4_X0_aim N p45.2 x2) (fun p49 => (kp4_bind (k4_X0_add N p49.2 57 p24.1) (fun p53 => (kp4_some (⟨rfl, rfl, rfl, rfl⟩)))))))) kp4_none)))))))))))
theorem kb4_X7_beginCatch_52 (N : Nat) (K : CS → Nat → Int32 → Int32 → Option (Unit × CS)) (hMK : ∀ (σ : CS) (x1 : Nat) (x2 : Int32) (x3 : Int32), Kp4 (CS.i σ 5) (CS.i σ 13) (CS.i σ 14) (CS.a σ 9) (K σ x1 x2 x3)) (σ : CS) (x1 : Nat) (x2 : Int32) (x3 : Int32) : Kp4 (CS.i σ 5) (CS.i σ 13) (CS.i σ 14) (CS.a σ 9) (b_X7_beginCatch_52 N K σ x1 x2 x3) := by
  unfold b_X7_beginCatch_52
  exact (kp4_ite (k4_X7_beginCatch_80 N σ x1 x2) (kp4_bind (k4_X1_skip N σ 124) (fun p57 => (kp4_ite (k4_X7_beginCatch_80 N p57.2 x1 x2) (kp4_bind (k4_X7_caughtKind N p57.2 x1 x2) (fun p62 => (hMK p62.2 x1 x2 (x3 + 1))))))))
theorem k4_X7_beginCatch_52 (N : Nat) : ∀ (n : Nat) (σ : CS) (x1 : Nat) (x2 : Int32) (x3 : Int32), Kp4 (CS.i σ 5) (CS.i σ 13) (CS.i σ 14) (CS.a σ 9) (f_X7_beginCatch_52 N n σ x1 x2 x3)
  | 0, _, _, _, _ => kp4_none
  | n+1, σ, x1, x2, x3 => kb4_X7_beginCatch_52 N (f_X7_beginCatch_52 N n) (fun σ x1 x2 x3 => k4_X7_beginCatch_52 N n σ x1 x2 x3) σ x1 x2 x3
theorem k4_X7_beginCatch (N : Nat) (σ : CS) (x1 : Nat) : Kp4 (CS.i σ 5) (CS.i σ 13) (CS.i σ 14) (CS.a σ 9) (f_X7_beginCatch N σ x1) := by
  unfold f_X7_beginCatch
  exact (kp4_bind (k4_X0_newTarget N σ) (fun p1 => (kp4_ite (kp4_bind (k4_X0_newTarget N (CS.setO (CS.setO p1.2 x1 0 215) x1 8 1)) (fun p6 => (kp4_ite (kp4_bind (k4_X9_advance N (CS.setO p6.2 x1 10 p6.1)) (fun p11 => (kp4_bind (k4_X1_open N p11.2 40) (fun p15 => (kp4_bind (k4_X7_caughtKind N p15.2 x1 p1.1) (fun p19 => (k4_X7_beginCatch_52 N N p19.2 x1 p1.1 0))))))) kp4_none))) kp4_none)))
theorem k4_X7_beginFinally (N : Nat) (σ : CS) (x1 : Nat) : Kp4 (CS.i σ 5) (CS.i σ 13) (CS.i σ 14) (CS.a σ 9) (f_X7_beginFinally N σ x1) := by
  unfold f_X7_beginFinally
  exact (kp4_ite (kp4_bind (k4_X9_advance N (CS.setO (CS.setO σ x1 0 216) x1 15 (σ.i 55))) (fun p2 => (kp4_bind (k4_X1_open N p2.2 123) (fun p6 => (kp4_bind (k4_X0_add N p6.2 58 0) (fun p10 => (kp4_ite (kp4_bind (k4_X0_aim N p10.2 (CS.o p10.2 x1 11)) (fun p15 => (kp4_some (⟨rfl, rfl, rfl, rfl⟩)))) kp4_none))))))) kp4_none)
theorem k4_X7_endLock (N : Nat) (σ : CS) (x1 : Nat) : Kp4 (CS.i σ 5) (CS.i σ 13) (CS.i σ 14) (CS.a σ 9) (f_X7_endLock N σ x1) := by
  unfold f_X7_endLock
  exact (kp4_ite (kp4_bind (k4_X7_leave N σ (CS.o σ x1 9) (CS.o σ x1 2)) (fun p2 => (kp4_ite (kp4_bind (k4_X0_aim N p2.2 (CS.o p2.2 x1 9)) (fun p7 => (kp4_bind (k4_X6_pop N (CS.setI p7.2 38 ((p7.2.i 38) - 1))) (fun p11 => (kp4_some (⟨rfl, rfl, rfl, rfl⟩)))))) kp4_none))) kp4_none)
theorem k4_X7_endSwitch_99 (N : Nat) (σ : CS) : Kp4 (CS.i σ 5) (CS.i σ 13) (CS.i σ 14) (CS.a σ 9) (f_X7_endSwitch_99 N σ ) := by
  unfold f_X7_endSwitch_99
  exact (kp4_bind (k4_X6_pop N σ) (fun p23 => (kp4_some (⟨rfl, rfl, rfl, rfl⟩))))
theorem k4_X7_endSwitch_53 (N : Nat) (σ : CS) (x1 : Nat) : Kp4 (CS.i σ 5) (CS.i σ 13) (CS.i σ 14) (CS.a σ 9) (f_X7_endSwitch_53 N σ x1) := by
  unfold f_X7_endSwitch_53
  exact (kp4_ite (kp4_bind (k4_X0_aim N σ (CS.o σ x1 9)) (fun p18 => (kp4_ite (kp4_ite (kp4_ite (k4_X7_endSwitch_99 N (CS.setI p18.2 36 1)) (kp4_bind (k4_X6_isGoneTo N p18.2 x1 0) (fun p29 => (kp4_ite (k4_X7_endSwitch_99 N (CS.setI p29.2 36 0)) (k4_X7_endSwitch_99 N (CS.setI p29.2 36 1)))))) kp4_none) (k4_X7_endSwitch_99 N (CS.setI p18.2 36 1))))) kp4_none)
theorem k4_X7_endSwitch (N : Nat) (σ : CS) (x1 : Nat) : Kp4 (CS.i σ 5) (CS.i σ 13) (CS.i σ 14) (CS.a σ 9) (f_X7_endSwitch N σ x1) := by
  unfold f_X7_endSwitch
  exact (kp4_ite (kp4_bind (k4_X0_add N σ 30 (CS.o σ x1 9)) (fun p2 => (kp4_ite (kp4_bind (k4_X0_aim N p2.2 (CS.o p2.2 x1 10)) (fun p7 => (kp4_ite (kp4_ite (kp4_bind (k4_X0_addCases N p7.2 (CS.o p7.2 x1 13) (CS.o p7.2 x1 9)) (fun p13 => (k4_X7_endSwitch_53 N p13.2 x1))) (kp4_bind (k4_X0_addCases N p7.2 (CS.o p7.2 x1 13) (CS.o p7.2 x1 11)) (fun p34 => (k4_X7_endSwitch_53 N p34.2 x1)))) kp4_none))) kp4_none))) kp4_none)
theorem k4_X7_endGuarded_66 (N : Nat) (σ : CS) (x1 : Nat) : Kp4 (CS.i σ 5) (CS.i σ 13) (CS.i σ 14) (CS.a σ 9) (f_X7_endGuarded_66 N σ x1) := by
  unfold f_X7_endGuarded_66
  exact (kp4_ite (kp4_some (⟨rfl, rfl, rfl, rfl⟩)) kp4_none)
theorem k4_X7_endGuarded_46 (N : Nat) (σ : CS) (x1 : Nat) : Kp4 (CS.i σ 5) (CS.i σ 13) (CS.i σ 14) (CS.a σ 9) (f_X7_endGuarded_46 N σ x1) := by
  unfold f_X7_endGuarded_46
  exact (kp4_bind (k4_X1_found N σ 215) (fun p13 => (kp4_ite (kp4_bind (k4_X1_found N p13.2 216) (fun p19 => (kp4_ite (kp4_ite (kp4_ite (kp4_bind (k4_X1_misplaced N p19.2) (fun p26 => (kp4_some (⟨rfl, rfl, rfl, rfl⟩)))) (kp4_bind (k4_X0_add N p19.2 58 0) (fun p30 => (kp4_ite (kp4_bind (k4_X0_aim N p30.2 (CS.o p30.2 x1 9)) (fun p35 => (kp4_ite (kp4_ite (kp4_bind (k4_X6_pop N (CS.setI (CS.setI p35.2 36 (CS.o p35.2 x1 6)) 38 ((p35.2.i 38) - 1))) (fun p41 => (kp4_some (⟨rfl, rfl, rfl, rfl⟩)))) kp4_none) kp4_none))) kp4_none)))) kp4_none) (k4_X7_endGuarded_66 N p19.2 x1)))) (k4_X7_endGuarded_66 N p13.2 x1))))
theorem k4_X7_endGuarded (N : Nat) (σ : CS) (x1 : Nat) : Kp4 (CS.i σ 5) (CS.i σ 13) (CS.i σ 14) (CS.a σ 9) (f_X7_endGuarded N σ x1) := by
  unfold f_X7_endGuarded
  exact (kp4_ite (kp4_bind (k4_X7_leave N σ (CS.o σ x1 9) (CS.o σ x1 2)) (fun p2 => (kp4_ite (kp4_bind (k4_X0_aim N p2.2 (CS.o p2.2 x1 10)) (fun p7 => (kp4_ite (kp4_ite (kp4_ite (k4_X7_endGuarded_46 N (CS.setO p7.2 x1 6 0) x1) (k4_X7_endGuarded_46 N (CS.setO p7.2 x1 6 1) x1)) (k4_X7_endGuarded_46 N (CS.setO p7.2 x1 6 1) x1)) kp4_none))) kp4_none))) kp4_none)
theorem kb4_X6_loseJumps_2 (N : Nat) (K : CS → Int32 → Int32 → Option (Unit × CS)) (hMK : ∀ (σ : CS) (x2 : Int32) (x3 : Int32), Kp4 (CS.i σ 5) (CS.i σ 13) (CS.i σ 14) (CS.a σ 9) (K σ x2 x3)) (σ : CS) (x2 : Int32) (x3 : Int32) : Kp4 (CS.i σ 5) (CS.i σ 13) (CS.i σ 14) (CS.a σ 9) (b_X6_loseJumps_2 N K σ x2 x3) := by
  unfold b_X6_loseJumps_2
  exact (kp4_ite (kp4_some (⟨rfl, rfl, rfl, rfl⟩)) (hMK (CS.putA σ 52 (gPut (σ.a 52) 160 x3 0)) x2 (x3 + 1)))
theorem k4_X6_loseJumps_2 (N : Nat) : ∀ (n : Nat) (σ : CS) (x2 : Int32) (x3 : Int32), Kp4 (CS.i σ 5) (CS.i σ 13) (CS.i σ 14) (CS.a σ 9) (f_X6_loseJumps_2 N n σ x2 x3)
  | 0, _, _, _ => kp4_none
  | n+1, σ, x2, x3 => kb4_X6_loseJumps_2 N (f_X6_loseJumps_2 N n) (fun σ x2 x3 => k4_X6_loseJumps_2 N n σ x2 x3) σ x2 x3
theorem k4_X6_loseJumps (N : Nat) (σ : CS) (x1 : Int32) (x2 : Int32) : Kp4 (CS.i σ 5) (CS.i σ 13) (CS.i σ 14) (CS.a σ 9) (f_X6_loseJumps N σ x1 x2) := by
  unfold f_X6_loseJumps
  exact (k4_X6_loseJumps_2 N N σ x2 x1)
theorem k4_X7_endFinally_66 (N : Nat) (σ : CS) : Kp4 (CS.i σ 5) (CS.i σ 13) (CS.i σ 14) (CS.a σ 9) (f_X7_endFinally_66 N σ ) := by
  unfold f_X7_endFinally_66
  exact (kp4_bind (k4_X6_pop N (CS.setI σ 38 ((σ.i 38) - 1))) (fun p12 => (kp4_some (⟨rfl, rfl, rfl, rfl⟩))))
theorem k4_X7_endFinally_43 (N : Nat) (σ : CS) (x1 : Nat) : Kp4 (CS.i σ 5) (CS.i σ 13) (CS.i σ 14) (CS.a σ 9) (f_X7_endFinally_43 N σ x1) := by
  unfold f_X7_endFinally_43
  exact (kp4_ite (k4_X7_endFinally_66 N (CS.setI σ 36 0)) (kp4_ite (kp4_ite (k4_X7_endFinally_66 N (CS.setI σ 36 0)) (k4_X7_endFinally_66 N (CS.setI σ 36 1))) kp4_none))
theorem k4_X7_endFinally (N : Nat) (σ : CS) (x1 : Nat) : Kp4 (CS.i σ 5) (CS.i σ 13) (CS.i σ 14) (CS.a σ 9) (f_X7_endFinally N σ x1) := by
  unfold f_X7_endFinally
  exact (kp4_bind (k4_X0_add N σ 59 0) (fun p1 => (kp4_ite (kp4_bind (k4_X0_aim N p1.2 (CS.o p1.2 x1 9)) (fun p6 => (kp4_ite (kp4_ite (kp4_bind (k4_X6_loseJumps N p6.2 (CS.o p6.2 x1 14) (CS.o p6.2 x1 15)) (fun p19 => (k4_X7_endFinally_43 N p19.2 x1))) kp4_none) (k4_X7_endFinally_43 N p6.2 x1)))) kp4_none)))
theorem k4_X7_endList_72 (N : Nat) (σ : CS) (x1 : Nat) : Kp4 (CS.i σ 5) (CS.i σ 13) (CS.i σ 14) (CS.a σ 9) (f_X7_endList_72 N σ x1) := by
  unfold f_X7_endList_72
  exact (kp4_bind (k4_X1_close N σ 125) (fun p4 => (kp4_ite (kp4_ite (kp4_bind (k4_X7_endLock N (CS.setI p4.2 50 (CS.o p4.2 x1 3)) x1) (fun p10 => (kp4_some (⟨rfl, rfl, rfl, rfl⟩)))) (kp4_ite (kp4_bind (k4_X7_endGuarded N (CS.setI p4.2 50 (CS.o p4.2 x1 3)) x1) (fun p15 => (kp4_some (⟨rfl, rfl, rfl, rfl⟩)))) (kp4_ite (kp4_bind (k4_X6_pop N (CS.setI p4.2 50 (CS.o p4.2 x1 3))) (fun p20 => (kp4_some (⟨rfl, rfl, rfl, rfl⟩)))) (kp4_ite (kp4_bind (k4_X7_endGuarded N (CS.setI p4.2 50 (CS.o p4.2 x1 3)) x1) (fun p25 => (kp4_some (⟨rfl, rfl, rfl, rfl⟩)))) (kp4_ite (kp4_bind (k4_X7_endFinally N (CS.setI p4.2 50 (CS.o p4.2 x1 3)) x1) (fun p30 => (kp4_some (⟨rfl, rfl, rfl, rfl⟩)))) (kp4_ite (kp4_bind (k4_X6_pop N (CS.setI p4.2 50 (CS.o p4.2 x1 3))) (fun p35 => (kp4_some (⟨rfl, rfl, rfl, rfl⟩)))) (kp4_ite (kp4_bind (k4_X7_endSwitch N (CS.setI p4.2 50 (CS.o p4.2 x1 3)) x1) (fun p40 => (kp4_some (⟨rfl, rfl, rfl, rfl⟩)))) (kp4_bind (k4_X6_pop N (CS.setI p4.2 50 (CS.o p4.2 x1 3))) (fun p44 => (kp4_some (⟨rfl, rfl, rfl, rfl⟩))))))))))) kp4_none)))
theorem k4_X7_endList (N : Nat) (σ : CS) (x1 : Nat) : Kp4 (CS.i σ 5) (CS.i σ 13) (CS.i σ 14) (CS.a σ 9) (f_X7_endList N σ x1) := by
  unfold f_X7_endList
  exact (kp4_ite (kp4_ite (kp4_bind (k4_X1_expect N σ 0) (fun p53 => (kp4_ite (kp4_bind (k4_X0_add N (CS.setI p53.2 27 (p53.2.i 36)) 50 0) (fun p58 => (kp4_bind (k4_X6_pop N p58.2) (fun p62 => (kp4_some (⟨rfl, rfl, rfl, rfl⟩)))))) kp4_none))) (kp4_ite (kp4_ite (k4_X7_endList_72 N σ x1) (kp4_bind (k4_X7_notReached N σ (σ.i 44)) (fun p49 => (k4_X7_endList_72 N p49.2 x1)))) (k4_X7_endList_72 N σ x1))) kp4_none)
theorem k4_X7_groupTurn_87 (N : Nat) (E1 : CS → Option (Unit × CS)) (E2 : CS → Option (Int32 × CS)) (hm1 : ∀ σ, Kp4 (CS.i σ 5) (CS.i σ 13) (CS.i σ 14) (CS.a σ 9) (E1 σ)) (hm2 : ∀ σ, Kp4 (CS.i σ 5) (CS.i σ 13) (CS.i σ 14) (CS.a σ 9) (E2 σ)) (σ : CS) (x1 : Nat) (x2 : Int32) : Kp4 (CS.i σ 5) (CS.i σ 13) (CS.i σ 14) (CS.a σ 9) (f_X7_groupTurn_87 N E1 E2 σ x1 x2) := by
  unfold f_X7_groupTurn_87
  exact (kp4_bind (k4_X1_expect N σ 58) (fun p21 => (kp4_bind (k4_X0_aim N p21.2 x2) (fun p25 => (kp4_ite (kp4_some (⟨rfl, rfl, rfl, rfl⟩)) kp4_none)))))
theorem k4_X7_groupTurn_59 (N : Nat) (E1 : CS → Option (Unit × CS)) (E2 : CS → Option (Int32 × CS)) (hm1 : ∀ σ, Kp4 (CS.i σ 5) (CS.i σ 13) (CS.i σ 14) (CS.a σ 9) (E1 σ)) (hm2 : ∀ σ, Kp4 (CS.i σ 5) (CS.i σ 13) (CS.i σ 14) (CS.a σ 9) (E2 σ)) (σ : CS) (x1 : Nat) (x2 : Int32) (x3 : Int32) : Kp4 (CS.i σ 5) (CS.i σ 13) (CS.i σ 14) (CS.a σ 9) (f_X7_groupTurn_59 N E1 E2 σ x1 x2 x3) := by
  unfold f_X7_groupTurn_59
  exact (kp4_bind (k4_X9_advance N σ) (fun p15 => (kp4_ite (kp4_ite (k4_X7_groupTurn_87 N E1 E2 hm1 hm2 (CS.setO p15.2 x1 11 x2) x1 x2) kp4_none) (kp4_ite (kp4_bind (k4_X1_caseNumber N p15.2 (CS.o p15.2 x1 13) x2) (fun p31 => (k4_X7_groupTurn_87 N E1 E2 hm1 hm2 p31.2 x1 x2))) kp4_none))))
theorem k4_X7_groupTurn_20 (N : Nat) (E1 : CS → Option (Unit × CS)) (E2 : CS → Option (Int32 × CS)) (hm1 : ∀ σ, Kp4 (CS.i σ 5) (CS.i σ 13) (CS.i σ 14) (CS.a σ 9) (E1 σ)) (hm2 : ∀ σ, Kp4 (CS.i σ 5) (CS.i σ 13) (CS.i σ 14) (CS.a σ 9) (E2 σ)) (σ : CS) (x1 : Nat) : Kp4 (CS.i σ 5) (CS.i σ 13) (CS.i σ 14) (CS.a σ 9) (f_X7_groupTurn_20 N E1 E2 σ x1) := by
  unfold f_X7_groupTurn_20
  exact (kp4_bind (k4_X0_newTarget N σ) (fun p6 => (kp4_bind (k4_X1_found N p6.2 219) (fun p10 => (kp4_ite (kp4_ite (kp4_ite (k4_X7_groupTurn_59 N E1 E2 hm1 hm2 p10.2 x1 p6.1 p10.1) (kp4_bind (k4_X1_fail N p10.2 4 (p10.2.i 44)) (fun p37 => (k4_X7_groupTurn_59 N E1 E2 hm1 hm2 p37.2 x1 p6.1 p10.1)))) kp4_none) (k4_X7_groupTurn_59 N E1 E2 hm1 hm2 p10.2 x1 p6.1 p10.1))))))
theorem k4_X7_groupTurn (N : Nat) (E1 : CS → Option (Unit × CS)) (E2 : CS → Option (Int32 × CS)) (hm1 : ∀ σ, Kp4 (CS.i σ 5) (CS.i σ 13) (CS.i σ 14) (CS.a σ 9) (E1 σ)) (hm2 : ∀ σ, Kp4 (CS.i σ 5) (CS.i σ 13) (CS.i σ 14) (CS.a σ 9) (E2 σ)) (σ : CS) (x1 : Nat) : Kp4 (CS.i σ 5) (CS.i σ 13) (CS.i σ 14) (CS.a σ 9) (f_X7_groupTurn N E1 E2 σ x1) := by
  unfold f_X7_groupTurn
  exact (kp4_bind (k4_X1_found N σ 219) (fun p1 => (kp4_ite (kp4_bind (k4_X1_found N p1.2 220) (fun p41 => (kp4_ite (kp4_ite (kp4_ite (kp4_bind (k4_X1_misplaced N p41.2) (fun p48 => (kp4_some (⟨rfl, rfl, rfl, rfl⟩)))) (kp4_bind (k4_X7_statement N E1 E2 hm1 hm2 p41.2 0) (fun p52 => (kp4_some (⟨rfl, rfl, rfl, rfl⟩))))) kp4_none) (k4_X7_groupTurn_20 N E1 E2 hm1 hm2 p41.2 x1)))) (k4_X7_groupTurn_20 N E1 E2 hm1 hm2 p1.2 x1))))
theorem kb4_X7_turns_2 (N : Nat) (E1 : CS → Option (Unit × CS)) (E2 : CS → Option (Int32 × CS)) (hm1 : ∀ σ, Kp4 (CS.i σ 5) (CS.i σ 13) (CS.i σ 14) (CS.a σ 9) (E1 σ)) (hm2 : ∀ σ, Kp4 (CS.i σ 5) (CS.i σ 13) (CS.i σ 14) (CS.a σ 9) (E2 σ)) (K : CS → Int32 → Int32 → Option (Unit × CS)) (hMK : ∀ (σ : CS) (x1 : Int32) (x2 : Int32), Kp4 (CS.i σ 5) (CS.i σ 13) (CS.i σ 14) (CS.a σ 9) (K σ x1 x2)) (σ : CS) (x1 : Int32) (x2 : Int32) : Kp4 (CS.i σ 5) (CS.i σ 13) (CS.i σ 14) (CS.a σ 9) (b_X7_turns_2 N E1 E2 K σ x1 x2) := by
  unfold b_X7_turns_2
  exact (kp4_ite (kp4_ite kp4_none (kp4_some (⟨rfl, rfl, rfl, rfl⟩))) (kp4_ite (kp4_ite (kp4_some (⟨rfl, rfl, rfl, rfl⟩)) (kp4_bind (k4_X6_row N σ ((σ.i 53) - 1)) (fun p4 => (kp4_oc (kp4_some (⟨rfl, rfl, rfl, rfl⟩)) (fun a9 => (kp4_ite (kp4_bind (k4_X5_hasOneBody N p4.2 a9) (fun p12 => (kp4_ite (kp4_ite (kp4_ite (kp4_bind (k4_X1_found N p12.2 215) (fun p47 => (kp4_ite (kp4_ite (kp4_ite (kp4_bind (k4_X7_beginFinally N p47.2 a9) (fun p82 => (hMK p82.2 x1 (x2 + 1)))) (kp4_bind (k4_X1_found N p47.2 125) (fun p54 => (kp4_ite (kp4_bind (k4_X1_found N p54.2 0) (fun p63 => (kp4_ite (kp4_ite (kp4_ite (kp4_bind (k4_X7_groupTurn N E1 E2 hm1 hm2 p63.2 a9) (fun p74 => (hMK p74.2 x1 (x2 + 1)))) (kp4_bind (k4_X7_statement N E1 E2 hm1 hm2 p63.2 0) (fun p70 => (hMK p70.2 x1 (x2 + 1))))) kp4_none) (kp4_bind (k4_X7_endList N p63.2 a9) (fun p78 => (hMK p78.2 x1 (x2 + 1))))))) (kp4_bind (k4_X7_endList N p54.2 a9) (fun p59 => (hMK p59.2 x1 (x2 + 1)))))))) kp4_none) (kp4_bind (k4_X7_beginCatch N p47.2 a9) (fun p86 => (hMK p86.2 x1 (x2 + 1))))))) (kp4_bind (k4_X1_found N p12.2 125) (fun p19 => (kp4_ite (kp4_bind (k4_X1_found N p19.2 0) (fun p28 => (kp4_ite (kp4_ite (kp4_ite (kp4_bind (k4_X7_groupTurn N E1 E2 hm1 hm2 p28.2 a9) (fun p39 => (hMK p39.2 x1 (x2 + 1)))) (kp4_bind (k4_X7_statement N E1 E2 hm1 hm2 p28.2 0) (fun p35 => (hMK p35.2 x1 (x2 + 1))))) kp4_none) (kp4_bind (k4_X7_endList N p28.2 a9) (fun p43 => (hMK p43.2 x1 (x2 + 1))))))) (kp4_bind (k4_X7_endList N p19.2 a9) (fun p24 => (hMK p24.2 x1 (x2 + 1)))))))) kp4_none) (kp4_bind (k4_X7_bodyTurn N E1 E2 hm1 hm2 p12.2 a9) (fun p90 => (hMK p90.2 x1 (x2 + 1))))))) kp4_none)))))) (kp4_some (⟨rfl, rfl, rfl, rfl⟩))))
theorem k4_X7_turns_2 (N : Nat) (E1 : CS → Option (Unit × CS)) (E2 : CS → Option (Int32 × CS)) (hm1 : ∀ σ, Kp4 (CS.i σ 5) (CS.i σ 13) (CS.i σ 14) (CS.a σ 9) (E1 σ)) (hm2 : ∀ σ, Kp4 (CS.i σ 5) (CS.i σ 13) (CS.i σ 14) (CS.a σ 9) (E2 σ)) : ∀ (n : Nat) (σ : CS) (x1 : Int32) (x2 : Int32), Kp4 (CS.i σ 5) (CS.i σ 13) (CS.i σ 14) (CS.a σ 9) (f_X7_turns_2 N E1 E2 n σ x1 x2)
  | 0, _, _, _ => kp4_none
  | n+1, σ, x1, x2 => kb4_X7_turns_2 N E1 E2 hm1 hm2 (f_X7_turns_2 N E1 E2 n) (fun σ x1 x2 => k4_X7_turns_2 N E1 E2 hm1 hm2 n σ x1 x2) σ x1 x2
theorem k4_X7_turns (N : Nat) (E1 : CS → Option (Unit × CS)) (E2 : CS → Option (Int32 × CS)) (hm1 : ∀ σ, Kp4 (CS.i σ 5) (CS.i σ 13) (CS.i σ 14) (CS.a σ 9) (E1 σ)) (hm2 : ∀ σ, Kp4 (CS.i σ 5) (CS.i σ 13) (CS.i σ 14) (CS.a σ 9) (E2 σ)) (σ : CS) (x1 : Int32) : Kp4 (CS.i σ 5) (CS.i σ 13) (CS.i σ 14) (CS.a σ 9) (f_X7_turns N E1 E2 σ x1) := by
  unfold f_X7_turns
  exact (k4_X7_turns_2 N E1 E2 hm1 hm2 N σ x1 0)
theorem k4_X7_armBlock (N : Nat) (E1 : CS → Option (Unit × CS)) (E2 : CS → Option (Int32 × CS)) (hm1 : ∀ σ, Kp4 (CS.i σ 5) (CS.i σ 13) (CS.i σ 14) (CS.a σ 9) (E1 σ)) (hm2 : ∀ σ, Kp4 (CS.i σ 5) (CS.i σ 13) (CS.i σ 14) (CS.a σ 9) (E2 σ)) (σ : CS) (x1 : Int32) : Kp4 (CS.i σ 5) (CS.i σ 13) (CS.i σ 14) (CS.a σ 9) (f_X7_armBlock N E1 E2 σ x1) := by
  unfold f_X7_armBlock
  exact (kp4_bind (k4_X1_open N σ 123) (fun p1 => (kp4_bind (k4_X6_push N p1.2 302 (p1.2.i 38) (p1.2.i 50)) (fun p5 => (kp4_oc kp4_none (fun a10 => (kp4_ite (kp4_bind (k4_X7_turns N E1 E2 hm1 hm2 (CS.setI (CS.setI (CS.setO (CS.setO p5.2 a10 9 x1) a10 16 (p5.2.i 56)) 56 (σ.i 53)) 36 1) (σ.i 53)) (fun p12 => (kp4_ite (kp4_ite (kp4_some (⟨rfl, rfl, rfl, rfl⟩)) kp4_none) kp4_none))) kp4_none)))))))
theorem k4_X1_arm_153 (N : Nat) (E1 : CS → Option (Unit × CS)) (E2 : CS → Option (Int32 × CS)) (hm1 : ∀ σ, Kp4 (CS.i σ 5) (CS.i σ 13) (CS.i σ 14) (CS.a σ 9) (E1 σ)) (hm2 : ∀ σ, Kp4 (CS.i σ 5) (CS.i σ 13) (CS.i σ 14) (CS.a σ 9) (E2 σ)) (σ : CS) (x5 : Int32) : Kp4 (CS.i σ 5) (CS.i σ 13) (CS.i σ 14) (CS.a σ 9) (f_X1_arm_153 N E1 E2 σ x5) := by
  unfold f_X1_arm_153
  exact (kp4_some (⟨rfl, rfl, rfl, rfl⟩))
theorem k4_X1_arm_100 (N : Nat) (E1 : CS → Option (Unit × CS)) (E2 : CS → Option (Int32 × CS)) (hm1 : ∀ σ, Kp4 (CS.i σ 5) (CS.i σ 13) (CS.i σ 14) (CS.a σ 9) (E1 σ)) (hm2 : ∀ σ, Kp4 (CS.i σ 5) (CS.i σ 13) (CS.i σ 14) (CS.a σ 9) (E2 σ)) (σ : CS) (x3 : Int32) (x4 : Int32) (x5 : Int32) : Kp4 (CS.i σ 5) (CS.i σ 13) (CS.i σ 14) (CS.a σ 9) (f_X1_arm_100 N E1 E2 σ x3 x4 x5) := by
  unfold f_X1_arm_100
  exact (kp4_bind (k4_X1_expect N σ 134) (fun p19 => (kp4_bind (k4_X0_aim N p19.2 x4) (fun p23 => (kp4_bind (k4_X1_found N p23.2 123) (fun p27 => (kp4_ite (kp4_bind (k4_X1_expression N E1 E2 hm1 hm2 p27.2) (fun p32 => (kp4_bind (k4_X1_expect N p32.2 59) (fun p36 => (kp4_bind (k4_X0_add N p36.2 30 x3) (fun p40 => (k4_X1_arm_153 N E1 E2 hm1 hm2 p40.2 x5))))))) (kp4_bind (k4_X7_armBlock N E1 E2 hm1 hm2 p27.2 x3) (fun p44 => (k4_X1_arm_153 N E1 E2 hm1 hm2 p44.2 x5))))))))))
theorem kb4_X1_arm_70 (N : Nat) (E1 : CS → Option (Unit × CS)) (E2 : CS → Option (Int32 × CS)) (hm1 : ∀ σ, Kp4 (CS.i σ 5) (CS.i σ 13) (CS.i σ 14) (CS.a σ 9) (E1 σ)) (hm2 : ∀ σ, Kp4 (CS.i σ 5) (CS.i σ 13) (CS.i σ 14) (CS.a σ 9) (E2 σ)) (K : CS → Int32 → Int32 → Int32 → Int32 → Int32 → Option (Int32 × CS)) (hMK : ∀ (σ : CS) (x1 : Int32) (x3 : Int32) (x4 : Int32) (x5 : Int32) (x6 : Int32), Kp4 (CS.i σ 5) (CS.i σ 13) (CS.i σ 14) (CS.a σ 9) (K σ x1 x3 x4 x5 x6)) (σ : CS) (x1 : Int32) (x3 : Int32) (x4 : Int32) (x5 : Int32) (x6 : Int32) : Kp4 (CS.i σ 5) (CS.i σ 13) (CS.i σ 14) (CS.a σ 9) (b_X1_arm_70 N E1 E2 K σ x1 x3 x4 x5 x6) := by
  unfold b_X1_arm_70
  exact (kp4_ite (k4_X1_arm_100 N E1 E2 hm1 hm2 σ x3 x4 x5) (kp4_bind (k4_X1_skip N σ 44) (fun p48 => (kp4_ite (k4_X1_arm_100 N E1 E2 hm1 hm2 p48.2 x3 x4 x5) (kp4_bind (k4_X1_caseNumber N p48.2 x1 x4) (fun p53 => (hMK p53.2 x1 x3 x4 x5 (x6 + 1))))))))
theorem k4_X1_arm_70 (N : Nat) (E1 : CS → Option (Unit × CS)) (E2 : CS → Option (Int32 × CS)) (hm1 : ∀ σ, Kp4 (CS.i σ 5) (CS.i σ 13) (CS.i σ 14) (CS.a σ 9) (E1 σ)) (hm2 : ∀ σ, Kp4 (CS.i σ 5) (CS.i σ 13) (CS.i σ 14) (CS.a σ 9) (E2 σ)) : ∀ (n : Nat) (σ : CS) (x1 : Int32) (x3 : Int32) (x4 : Int32) (x5 : Int32) (x6 : Int32), Kp4 (CS.i σ 5) (CS.i σ 13) (CS.i σ 14) (CS.a σ 9) (f_X1_arm_70 N E1 E2 n σ x1 x3 x4 x5 x6)
  | 0, _, _, _, _, _, _ => kp4_none
  | n+1, σ, x1, x3, x4, x5, x6 => kb4_X1_arm_70 N E1 E2 hm1 hm2 (f_X1_arm_70 N E1 E2 n) (fun σ x1 x3 x4 x5 x6 => k4_X1_arm_70 N E1 E2 hm1 hm2 n σ x1 x3 x4 x5 x6) σ x1 x3 x4 x5 x6
theorem k4_X1_arm_39 (N : Nat) (E1 : CS → Option (Unit × CS)) (E2 : CS → Option (Int32 × CS)) (hm1 : ∀ σ, Kp4 (CS.i σ 5) (CS.i σ 13) (CS.i σ 14) (CS.a σ 9) (E1 σ)) (hm2 : ∀ σ, Kp4 (CS.i σ 5) (CS.i σ 13) (CS.i σ 14) (CS.a σ 9) (E2 σ)) (σ : CS) (x3 : Int32) (x4 : Int32) : Kp4 (CS.i σ 5) (CS.i σ 13) (CS.i σ 14) (CS.a σ 9) (f_X1_arm_39 N E1 E2 σ x3 x4) := by
  unfold f_X1_arm_39
  exact (kp4_bind (k4_X9_advance N σ) (fun p58 => (k4_X1_arm_100 N E1 E2 hm1 hm2 p58.2 x3 x4 x4)))
theorem k4_X1_arm (N : Nat) (E1 : CS → Option (Unit × CS)) (E2 : CS → Option (Int32 × CS)) (hm1 : ∀ σ, Kp4 (CS.i σ 5) (CS.i σ 13) (CS.i σ 14) (CS.a σ 9) (E1 σ)) (hm2 : ∀ σ, Kp4 (CS.i σ 5) (CS.i σ 13) (CS.i σ 14) (CS.a σ 9) (E2 σ)) (σ : CS) (x1 : Int32) (x2 : Int32) (x3 : Int32) : Kp4 (CS.i σ 5) (CS.i σ 13) (CS.i σ 14) (CS.a σ 9) (f_X1_arm N E1 E2 σ x1 x2 x3) := by
  unfold f_X1_arm
  exact (kp4_bind (k4_X0_newTarget N σ) (fun p1 => (kp4_bind (k4_X1_found N p1.2 220) (fun p5 => (kp4_ite (kp4_bind (k4_X9_advance N p5.2) (fun p10 => (kp4_bind (k4_X1_caseNumber N p10.2 x1 p1.1) (fun p14 => (k4_X1_arm_70 N E1 E2 hm1 hm2 N p14.2 x1 x3 p1.1 x2 0))))) (kp4_ite (k4_X1_arm_39 N E1 E2 hm1 hm2 p5.2 x3 p1.1) (kp4_bind (k4_X1_fail N p5.2 4 (p5.2.i 44)) (fun p62 => (k4_X1_arm_39 N E1 E2 hm1 hm2 p62.2 x3 p1.1)))))))))
theorem k4_X1_choice_122 (N : Nat) (E1 : CS → Option (Unit × CS)) (E2 : CS → Option (Int32 × CS)) (hm1 : ∀ σ, Kp4 (CS.i σ 5) (CS.i σ 13) (CS.i σ 14) (CS.a σ 9) (E1 σ)) (hm2 : ∀ σ, Kp4 (CS.i σ 5) (CS.i σ 13) (CS.i σ 14) (CS.a σ 9) (E2 σ)) (σ : CS) (x1 : Int32) (x2 : Int32) (x3 : Int32) (x4 : Int32) : Kp4 (CS.i σ 5) (CS.i σ 13) (CS.i σ 14) (CS.a σ 9) (f_X1_choice_122 N E1 E2 σ x1 x2 x3 x4) := by
  unfold f_X1_choice_122
  exact (kp4_bind (k4_X1_close N σ 125) (fun p35 => (kp4_bind (k4_X0_aim N p35.2 x1) (fun p39 => (kp4_bind (k4_X0_addCases N p39.2 x3 x4) (fun p43 => (kp4_bind (k4_X0_aim N p43.2 x2) (fun p47 => (kp4_some (⟨rfl, rfl, rfl, rfl⟩))))))))))
theorem k4_X1_choice_113 (N : Nat) (E1 : CS → Option (Unit × CS)) (E2 : CS → Option (Int32 × CS)) (hm1 : ∀ σ, Kp4 (CS.i σ 5) (CS.i σ 13) (CS.i σ 14) (CS.a σ 9) (E1 σ)) (hm2 : ∀ σ, Kp4 (CS.i σ 5) (CS.i σ 13) (CS.i σ 14) (CS.a σ 9) (E2 σ)) (σ : CS) (x1 : Int32) (x2 : Int32) (x3 : Int32) (x4 : Int32) : Kp4 (CS.i σ 5) (CS.i σ 13) (CS.i σ 14) (CS.a σ 9) (f_X1_choice_113 N E1 E2 σ x1 x2 x3 x4) := by
  unfold f_X1_choice_113
  exact (kp4_ite (k4_X1_choice_122 N E1 E2 hm1 hm2 σ x1 x2 x3 x4) (kp4_bind (k4_X1_misplaced N σ) (fun p51 => (k4_X1_choice_122 N E1 E2 hm1 hm2 p51.2 x1 x2 x3 x4))))
theorem kb4_X1_choice_69 (N : Nat) (E1 : CS → Option (Unit × CS)) (E2 : CS → Option (Int32 × CS)) (hm1 : ∀ σ, Kp4 (CS.i σ 5) (CS.i σ 13) (CS.i σ 14) (CS.a σ 9) (E1 σ)) (hm2 : ∀ σ, Kp4 (CS.i σ 5) (CS.i σ 13) (CS.i σ 14) (CS.a σ 9) (E2 σ)) (K : CS → Int32 → Int32 → Int32 → Int32 → Int32 → Option (Unit × CS)) (hMK : ∀ (σ : CS) (x1 : Int32) (x2 : Int32) (x3 : Int32) (x4 : Int32) (x5 : Int32), Kp4 (CS.i σ 5) (CS.i σ 13) (CS.i σ 14) (CS.a σ 9) (K σ x1 x2 x3 x4 x5)) (σ : CS) (x1 : Int32) (x2 : Int32) (x3 : Int32) (x4 : Int32) (x5 : Int32) : Kp4 (CS.i σ 5) (CS.i σ 13) (CS.i σ 14) (CS.a σ 9) (b_X1_choice_69 N E1 E2 K σ x1 x2 x3 x4 x5) := by
  unfold b_X1_choice_69
  exact (kp4_ite (k4_X1_choice_113 N E1 E2 hm1 hm2 σ x1 x2 x3 x4) (kp4_bind (k4_X1_found N σ 219) (fun p55 => (kp4_ite (kp4_bind (k4_X1_found N p55.2 220) (fun p64 => (kp4_ite (k4_X1_choice_113 N E1 E2 hm1 hm2 p64.2 x1 x2 x3 x4) (kp4_bind (k4_X1_arm N E1 E2 hm1 hm2 p64.2 x3 x4 x2) (fun p69 => (hMK p69.2 x1 x2 x3 p69.1 (x5 + 1))))))) (kp4_bind (k4_X1_arm N E1 E2 hm1 hm2 p55.2 x3 x4 x2) (fun p60 => (hMK p60.2 x1 x2 x3 p60.1 (x5 + 1))))))))
theorem k4_X1_choice_69 (N : Nat) (E1 : CS → Option (Unit × CS)) (E2 : CS → Option (Int32 × CS)) (hm1 : ∀ σ, Kp4 (CS.i σ 5) (CS.i σ 13) (CS.i σ 14) (CS.a σ 9) (E1 σ)) (hm2 : ∀ σ, Kp4 (CS.i σ 5) (CS.i σ 13) (CS.i σ 14) (CS.a σ 9) (E2 σ)) : ∀ (n : Nat) (σ : CS) (x1 : Int32) (x2 : Int32) (x3 : Int32) (x4 : Int32) (x5 : Int32), Kp4 (CS.i σ 5) (CS.i σ 13) (CS.i σ 14) (CS.a σ 9) (f_X1_choice_69 N E1 E2 n σ x1 x2 x3 x4 x5)
  | 0, _, _, _, _, _, _ => kp4_none
  | n+1, σ, x1, x2, x3, x4, x5 => kb4_X1_choice_69 N E1 E2 hm1 hm2 (f_X1_choice_69 N E1 E2 n) (fun σ x1 x2 x3 x4 x5 => k4_X1_choice_69 N E1 E2 hm1 hm2 n σ x1 x2 x3 x4 x5) σ x1 x2 x3 x4 x5
theorem k4_X1_choice (N : Nat) (E1 : CS → Option (Unit × CS)) (E2 : CS → Option (Int32 × CS)) (hm1 : ∀ σ, Kp4 (CS.i σ 5) (CS.i σ 13) (CS.i σ 14) (CS.a σ 9) (E1 σ)) (hm2 : ∀ σ, Kp4 (CS.i σ 5) (CS.i σ 13) (CS.i σ 14) (CS.a σ 9) (E2 σ)) (σ : CS) : Kp4 (CS.i σ 5) (CS.i σ 13) (CS.i σ 14) (CS.a σ 9) (f_X1_choice N E1 E2 σ) := by
  unfold f_X1_choice
  exact (kp4_bind (k4_X9_advance N σ) (fun p1 => (kp4_bind (k4_X1_open N p1.2 40) (fun p5 => (kp4_bind (k4_X1_expression N E1 E2 hm1 hm2 p5.2) (fun p9 => (kp4_bind (k4_X1_close N p9.2 41) (fun p13 => (kp4_bind (k4_X1_open N p13.2 123) (fun p17 => (kp4_bind (k4_X0_newTarget N p17.2) (fun p21 => (kp4_bind (k4_X0_newTarget N p21.2) (fun p25 => (kp4_bind (k4_X0_add N p25.2 30 p21.1) (fun p29 => (k4_X1_choice_69 N E1 E2 hm1 hm2 N p29.2 p21.1 p25.1 (p25.2.i 22) (-1) 0)))))))))))))))))
theorem k4_X1_factor (N : Nat) (E1 : CS → Option (Unit × CS)) (E2 : CS → Option (Int32 × CS)) (hm1 : ∀ σ, Kp4 (CS.i σ 5) (CS.i σ 13) (CS.i σ 14) (CS.a σ 9) (E1 σ)) (hm2 : ∀ σ, Kp4 (CS.i σ 5) (CS.i σ 13) (CS.i σ 14) (CS.a σ 9) (E2 σ)) (σ : CS) : Kp4 (CS.i σ 5) (CS.i σ 13) (CS.i σ 14) (CS.a σ 9) (f_X1_factor N E1 E2 σ) := by
  unfold f_X1_factor
  exact (kp4_ite (kp4_bind (k4_X0_add N σ 0 (σ.i 45)) (fun p2 => (kp4_bind (k4_X9_advance N p2.2) (fun p6 => (kp4_some (⟨rfl, rfl, rfl, rfl⟩)))))) (kp4_ite (kp4_bind (k4_X1_loadName N σ) (fun p11 => (kp4_some (⟨rfl, rfl, rfl, rfl⟩)))) (kp4_ite (kp4_bind (k4_X1_open N σ 40) (fun p16 => (kp4_bind (k4_X1_expression N E1 E2 hm1 hm2 p16.2) (fun p20 => (kp4_bind (k4_X1_close N p20.2 41) (fun p24 => (kp4_some (⟨rfl, rfl, rfl, rfl⟩)))))))) (kp4_ite (kp4_bind (k4_X1_negated N E1 E2 hm1 hm2 σ) (fun p29 => (kp4_some (⟨rfl, rfl, rfl, rfl⟩)))) (kp4_ite (kp4_bind (k4_X1_choice N E1 E2 hm1 hm2 σ) (fun p34 => (kp4_some (⟨rfl, rfl, rfl, rfl⟩)))) (kp4_bind (k4_X1_misplaced N σ) (fun p38 => (kp4_some (⟨rfl, rfl, rfl, rfl⟩)))))))))
theorem k4_X1_comparing (N : Nat) (σ : CS) (x0 : Int32) : Kp4 (CS.i σ 5) (CS.i σ 13) (CS.i σ 14) (CS.a σ 9) (f_X1_comparing N σ x0) := by
  unfold f_X1_comparing
  exact (kp4_ite (kp4_some (⟨rfl, rfl, rfl, rfl⟩)) (kp4_ite (kp4_some (⟨rfl, rfl, rfl, rfl⟩)) (kp4_ite (kp4_some (⟨rfl, rfl, rfl, rfl⟩)) (kp4_ite (kp4_some (⟨rfl, rfl, rfl, rfl⟩)) (kp4_ite (kp4_some (⟨rfl, rfl, rfl, rfl⟩)) (kp4_ite (kp4_some (⟨rfl, rfl, rfl, rfl⟩)) (kp4_some (⟨rfl, rfl, rfl, rfl⟩))))))))
theorem k4_X1_comparison (N : Nat) (E1 : CS → Option (Unit × CS)) (E2 : CS → Option (Int32 × CS)) (hm1 : ∀ σ, Kp4 (CS.i σ 5) (CS.i σ 13) (CS.i σ 14) (CS.a σ 9) (E1 σ)) (hm2 : ∀ σ, Kp4 (CS.i σ 5) (CS.i σ 13) (CS.i σ 14) (CS.a σ 9) (E2 σ)) (σ : CS) : Kp4 (CS.i σ 5) (CS.i σ 13) (CS.i σ 14) (CS.a σ 9) (f_X1_comparison N E1 E2 σ) := by
  unfold f_X1_comparison
  exact (kp4_bind (k4_X1_expression N E1 E2 hm1 hm2 σ) (fun p1 => (kp4_bind (k4_X1_comparing N p1.2 (p1.2.i 43)) (fun p5 => (kp4_ite (kp4_bind (k4_X9_advance N p5.2) (fun p10 => (kp4_bind (k4_X1_expression N E1 E2 hm1 hm2 p10.2) (fun p14 => (kp4_bind (k4_X0_add N p14.2 p5.1 0) (fun p18 => (kp4_some (⟨rfl, rfl, rfl, rfl⟩)))))))) (kp4_bind (k4_X1_misplaced N p5.2) (fun p22 => (kp4_some (⟨rfl, rfl, rfl, rfl⟩)))))))))
theorem k4_X1_one_66 (N : Nat) (E1 : CS → Option (Unit × CS)) (E2 : CS → Option (Int32 × CS)) (hm1 : ∀ σ, Kp4 (CS.i σ 5) (CS.i σ 13) (CS.i σ 14) (CS.a σ 9) (E1 σ)) (hm2 : ∀ σ, Kp4 (CS.i σ 5) (CS.i σ 13) (CS.i σ 14) (CS.a σ 9) (E2 σ)) (σ : CS) : Kp4 (CS.i σ 5) (CS.i σ 13) (CS.i σ 14) (CS.a σ 9) (f_X1_one_66 N E1 E2 σ ) := by
  unfold f_X1_one_66
  exact (kp4_bind (k4_X0_add N (CS.setI σ 34 ((σ.i 34) - 1)) 5 0) (fun p7 => (kp4_some (⟨rfl, rfl, rfl, rfl⟩))))
theorem k4_X1_one (N : Nat) (E1 : CS → Option (Unit × CS)) (E2 : CS → Option (Int32 × CS)) (hm1 : ∀ σ, Kp4 (CS.i σ 5) (CS.i σ 13) (CS.i σ 14) (CS.a σ 9) (E1 σ)) (hm2 : ∀ σ, Kp4 (CS.i σ 5) (CS.i σ 13) (CS.i σ 14) (CS.a σ 9) (E2 σ)) (σ : CS) : Kp4 (CS.i σ 5) (CS.i σ 13) (CS.i σ 14) (CS.a σ 9) (f_X1_one N E1 E2 σ) := by
  unfold f_X1_one
  exact (kp4_ite (kp4_bind (k4_X1_open N σ 33) (fun p2 => (kp4_ite (kp4_bind (hm2 p2.2) (fun p11 => (k4_X1_one_66 N E1 E2 hm1 hm2 p11.2))) (k4_X1_one_66 N E1 E2 hm1 hm2 p2.2)))) (kp4_ite (kp4_bind (k4_X1_open N σ 91) (fun p16 => (kp4_bind (k4_X1_condition N E1 E2 hm1 hm2 p16.2) (fun p20 => (kp4_bind (k4_X1_close N p20.2 93) (fun p24 => (kp4_some (⟨rfl, rfl, rfl, rfl⟩)))))))) (kp4_ite (kp4_bind (k4_X0_add N σ 0 1) (fun p29 => (kp4_bind (k4_X9_advance N p29.2) (fun p33 => (kp4_some (⟨rfl, rfl, rfl, rfl⟩)))))) (kp4_ite (kp4_bind (k4_X0_add N σ 0 0) (fun p38 => (kp4_bind (k4_X9_advance N p38.2) (fun p42 => (kp4_some (⟨rfl, rfl, rfl, rfl⟩)))))) (kp4_bind (k4_X1_comparison N E1 E2 hm1 hm2 σ) (fun p46 => (kp4_some (⟨rfl, rfl, rfl, rfl⟩))))))))
theorem k4_X3_lastThrown (N : Nat) (σ : CS) : Kp4 (CS.i σ 5) (CS.i σ 13) (CS.i σ 14) (CS.a σ 9) (f_X3_lastThrown N σ) := by
  unfold f_X3_lastThrown
  exact (kp4_ite (kp4_oc (kp4_some (⟨rfl, rfl, rfl, rfl⟩)) (fun a3 => (kp4_some (⟨rfl, rfl, rfl, rfl⟩)))) (kp4_some (⟨rfl, rfl, rfl, rfl⟩)))
theorem k4_X3_answer (N : Nat) (σ : CS) (x1 : Int32) : Kp4 (CS.i σ 5) (CS.i σ 13) (CS.i σ 14) (CS.a σ 9) (f_X3_answer N σ x1) := by
  unfold f_X3_answer
  exact (kp4_bind (k4_X3_lastThrown N σ) (fun p1 => (kp4_oc (kp4_ite (kp4_some (⟨rfl, rfl, rfl, rfl⟩)) (kp4_ite (kp4_some (⟨rfl, rfl, rfl, rfl⟩)) (kp4_ite (kp4_ite (kp4_some (⟨rfl, rfl, rfl, rfl⟩)) (kp4_some (⟨rfl, rfl, rfl, rfl⟩))) (kp4_ite (kp4_some (⟨rfl, rfl, rfl, rfl⟩)) (kp4_ite (kp4_some (⟨rfl, rfl, rfl, rfl⟩)) (kp4_ite (kp4_some (⟨rfl, rfl, rfl, rfl⟩)) (kp4_some (⟨rfl, rfl, rfl, rfl⟩)))))))) (fun a6 => (kp4_ite (kp4_some (⟨rfl, rfl, rfl, rfl⟩)) (kp4_ite (kp4_some (⟨rfl, rfl, rfl, rfl⟩)) (kp4_ite (kp4_ite (kp4_some (⟨rfl, rfl, rfl, rfl⟩)) (kp4_some (⟨rfl, rfl, rfl, rfl⟩))) (kp4_ite (kp4_ite (kp4_some (⟨rfl, rfl, rfl, rfl⟩)) kp4_none) (kp4_ite (kp4_ite (kp4_some (⟨rfl, rfl, rfl, rfl⟩)) kp4_none) (kp4_ite (kp4_ite (kp4_some (⟨rfl, rfl, rfl, rfl⟩)) kp4_none) (kp4_some (⟨rfl, rfl, rfl, rfl⟩))))))))))))
theorem k4_X6_clear (N : Nat) (σ : CS) : Kp4 (CS.i σ 5) (CS.i σ 13) (CS.i σ 14) (CS.a σ 9) (f_X6_clear N σ) := by
  unfold f_X6_clear
  exact (kp4_some (⟨rfl, rfl, rfl, rfl⟩))
theorem k4_X9_start (N : Nat) (σ : CS) (x1 : Int32) : Kp4 (CS.i σ 5) (CS.i σ 13) (CS.i σ 14) (CS.a σ 9) (f_X9_start N σ x1) := by
  unfold f_X9_start
  exact (kp4_bind (k4_X9_advance N (CS.setI (CS.setI σ 41 x1) 42 0)) (fun p1 => (kp4_some (⟨rfl, rfl, rfl, rfl⟩))))
theorem k4_X7_translate_139 (N : Nat) (E1 : CS → Option (Unit × CS)) (E2 : CS → Option (Int32 × CS)) (hm1 : ∀ σ, Kp4 (CS.i σ 5) (CS.i σ 13) (CS.i σ 14) (CS.a σ 9) (E1 σ)) (hm2 : ∀ σ, Kp4 (CS.i σ 5) (CS.i σ 13) (CS.i σ 14) (CS.a σ 9) (E2 σ)) (σ : CS) : Kp4 (CS.i σ 5) (CS.i σ 13) (CS.i σ 14) (CS.a σ 9) (f_X7_translate_139 N E1 E2 σ ) := by
  unfold f_X7_translate_139
  exact (kp4_some (⟨rfl, rfl, rfl, rfl⟩))
theorem k4_X7_translate (N : Nat) (E1 : CS → Option (Unit × CS)) (E2 : CS → Option (Int32 × CS)) (hm1 : ∀ σ, Kp4 (CS.i σ 5) (CS.i σ 13) (CS.i σ 14) (CS.a σ 9) (E1 σ)) (hm2 : ∀ σ, Kp4 (CS.i σ 5) (CS.i σ 13) (CS.i σ 14) (CS.a σ 9) (E2 σ)) (σ : CS) (x1 : Int32) : Kp4 (CS.i σ 5) (CS.i σ 13) (CS.i σ 14) (CS.a σ 9) (f_X7_translate N E1 E2 σ x1) := by
  unfold f_X7_translate
  exact (kp4_bind (k4_X0_clear N σ) (fun p1 => (kp4_bind (k4_X0_newCells N (CS.setI p1.2 50 0) 1) (fun p5 => (kp4_bind (k4_X4_add N p5.2 97 p5.1 (-1)) (fun p9 => (kp4_bind (k4_X0_newCells N p9.2 1) (fun p13 => (kp4_bind (k4_X4_add N p13.2 98 p13.1 (-1)) (fun p17 => (kp4_bind (k4_X6_clear N p17.2) (fun p21 => (kp4_bind (k4_X9_start N (CS.setI (CS.setI (CS.setI (CS.setI (CS.setI (CS.setI p21.2 32 0) 33 0) 34 0) 36 1) 37 (-1)) 38 0) x1) (fun p25 => (kp4_bind (k4_X6_push N p25.2 300 0 (p25.2.i 50)) (fun p29 => (kp4_oc (kp4_bind (k4_X7_turns N E1 E2 hm1 hm2 p29.2 0) (fun p35 => (kp4_ite (k4_X7_translate_139 N E1 E2 hm1 hm2 p35.2) (kp4_bind (k4_X1_fail N p35.2 7 (p35.2.i 37)) (fun p40 => (k4_X7_translate_139 N E1 E2 hm1 hm2 p40.2)))))) (fun a34 => (kp4_bind (k4_X7_turns N E1 E2 hm1 hm2 p29.2 0) (fun p44 => (kp4_ite (k4_X7_translate_139 N E1 E2 hm1 hm2 p44.2) (kp4_bind (k4_X1_fail N p44.2 7 (p44.2.i 37)) (fun p49 => (k4_X7_translate_139 N E1 E2 hm1 hm2 p49.2))))))))))))))))))))))))
theorem k4_X10_isFull (N : Nat) (σ : CS) : Kp4 (CS.i σ 5) (CS.i σ 13) (CS.i σ 14) (CS.a σ 9) (f_X10_isFull N σ) := by
  unfold f_X10_isFull
  exact (kp4_ite (kp4_some (⟨rfl, rfl, rfl, rfl⟩)) (kp4_some (⟨rfl, rfl, rfl, rfl⟩)))
theorem k4_X10_tellResource (N : Nat) (σ : CS) (x1 : Int32) (x2 : Int32) (x3 : Int32) (x4 : Int32) : Kp4 (CS.i σ 5) (CS.i σ 13) (CS.i σ 14) (CS.a σ 9) (f_X10_tellResource N σ x1 x2 x3 x4) := by
  unfold f_X10_tellResource
  exact (kp4_some (⟨rfl, rfl, rfl, rfl⟩))
theorem k4_X11_isKindOrNothing_16 (N : Nat) (σ : CS) : Kp4 (CS.i σ 5) (CS.i σ 13) (CS.i σ 14) (CS.a σ 9) (f_X11_isKindOrNothing_16 N σ ) := by
  unfold f_X11_isKindOrNothing_16
  exact (kp4_some (⟨rfl, rfl, rfl, rfl⟩))
theorem k4_X11_isKindOrNothing (N : Nat) (σ : CS) (x1 : Int32) : Kp4 (CS.i σ 5) (CS.i σ 13) (CS.i σ 14) (CS.a σ 9) (f_X11_isKindOrNothing N σ x1) := by
  unfold f_X11_isKindOrNothing
  exact (kp4_ite (k4_X11_isKindOrNothing_16 N σ) (kp4_bind (k4_X10_isKind N σ x1) (fun p2 => (kp4_ite (kp4_some (⟨rfl, rfl, rfl, rfl⟩)) (k4_X11_isKindOrNothing_16 N p2.2)))))
theorem k4_X11_resource_19 (N : Nat) (σ : CS) : Kp4 (CS.i σ 5) (CS.i σ 13) (CS.i σ 14) (CS.a σ 9) (f_X11_resource_19 N σ ) := by
  unfold f_X11_resource_19
  exact (kp4_some (⟨rfl, rfl, rfl, rfl⟩))
theorem k4_X11_resource_38 (N : Nat) (σ : CS) : Kp4 (CS.i σ 5) (CS.i σ 13) (CS.i σ 14) (CS.a σ 9) (f_X11_resource_38 N σ ) := by
  unfold f_X11_resource_38
  exact (kp4_some (⟨rfl, rfl, rfl, rfl⟩))
theorem k4_X11_resource (N : Nat) (σ : CS) (x1 : Int32) (x2 : Int32) (x3 : Int32) (x4 : Int32) : Kp4 (CS.i σ 5) (CS.i σ 13) (CS.i σ 14) (CS.a σ 9) (f_X11_resource N σ x1 x2 x3 x4) := by
  unfold f_X11_resource
  exact (kp4_ite (k4_X11_resource_19 N σ) (kp4_ite (k4_X11_resource_19 N σ) (kp4_ite (k4_X11_resource_19 N σ) (kp4_ite (kp4_bind (k4_X11_isKindOrNothing N σ x3) (fun p5 => (kp4_ite (k4_X11_resource_38 N p5.2) (kp4_bind (k4_X11_isKindOrNothing N p5.2 x4) (fun p10 => (kp4_ite (k4_X11_resource_38 N p10.2) (kp4_bind (k4_X10_tellResource N p10.2 x1 x2 x3 x4) (fun p15 => (kp4_some (⟨rfl, rfl, rfl, rfl⟩)))))))))) (k4_X11_resource_19 N σ)))))
theorem k4_X11_fault (N : Nat) (σ : CS) : Kp4 (CS.i σ 5) (CS.i σ 13) (CS.i σ 14) (CS.a σ 9) (f_X11_fault N σ) := by
  unfold f_X11_fault
  exact (kp4_some (⟨rfl, rfl, rfl, rfl⟩))
theorem k4_X11_program_9 (N : Nat) (σ : CS) : Kp4 (CS.i σ 5) (CS.i σ 13) (CS.i σ 14) (CS.a σ 9) (f_X11_program_9 N σ ) := by
  unfold f_X11_program_9
  exact (kp4_some (⟨rfl, rfl, rfl, rfl⟩))
theorem k4_X11_program (N : Nat) (σ : CS) (x1 : Int32) : Kp4 (CS.i σ 5) (CS.i σ 13) (CS.i σ 14) (CS.a σ 9) (f_X11_program N σ x1) := by
  unfold f_X11_program
  exact (kp4_ite (k4_X11_program_9 N σ) (kp4_ite (kp4_ite (kp4_some (⟨rfl, rfl, rfl, rfl⟩)) (kp4_ite (kp4_some (⟨rfl, rfl, rfl, rfl⟩)) (kp4_ite (kp4_ite (kp4_some (⟨rfl, rfl, rfl, rfl⟩)) (kp4_some (⟨rfl, rfl, rfl, rfl⟩))) (kp4_ite (kp4_some (⟨rfl, rfl, rfl, rfl⟩)) (kp4_some (⟨rfl, rfl, rfl, rfl⟩)))))) (k4_X11_program_9 N σ)))
theorem k4_X11_ran_10 (N : Nat) (σ : CS) : Kp4 (CS.i σ 5) (CS.i σ 13) (CS.i σ 14) (CS.a σ 9) (f_X11_ran_10 N σ ) := by
  unfold f_X11_ran_10
  exact (kp4_some (⟨rfl, rfl, rfl, rfl⟩))
theorem k4_X11_ran (N : Nat) (σ : CS) (x1 : Int32) : Kp4 (CS.i σ 5) (CS.i σ 13) (CS.i σ 14) (CS.a σ 9) (f_X11_ran N σ x1) := by
  unfold f_X11_ran
  exact (kp4_ite (k4_X11_ran_10 N σ) (kp4_ite (kp4_ite (kp4_some (⟨rfl, rfl, rfl, rfl⟩)) (kp4_bind (k4_X3_answer N σ x1) (fun p4 => (kp4_some (⟨rfl, rfl, rfl, rfl⟩))))) (k4_X11_ran_10 N σ)))
theorem k4_X11_trace_31 (N : Nat) (σ : CS) : Kp4 (CS.i σ 5) (CS.i σ 13) (CS.i σ 14) (CS.a σ 9) (f_X11_trace_31 N σ ) := by
  unfold f_X11_trace_31
  exact (kp4_some (⟨rfl, rfl, rfl, rfl⟩))
theorem k4_X11_trace (N : Nat) (σ : CS) (x1 : Int32) (x2 : Int32) : Kp4 (CS.i σ 5) (CS.i σ 13) (CS.i σ 14) (CS.a σ 9) (f_X11_trace N σ x1 x2) := by
  unfold f_X11_trace
  exact (kp4_ite (k4_X11_trace_31 N σ) (kp4_ite (k4_X11_trace_31 N σ) (kp4_ite (k4_X11_trace_31 N σ) (kp4_ite (k4_X11_trace_31 N σ) (kp4_ite (kp4_some (⟨rfl, rfl, rfl, rfl⟩)) (k4_X11_trace_31 N σ))))))
theorem k4_X11_suppressed_44 (N : Nat) (σ : CS) : Kp4 (CS.i σ 5) (CS.i σ 13) (CS.i σ 14) (CS.a σ 9) (f_X11_suppressed_44 N σ ) := by
  unfold f_X11_suppressed_44
  exact (kp4_some (⟨rfl, rfl, rfl, rfl⟩))
theorem k4_X11_suppressed_19 (N : Nat) (σ : CS) (x1 : Int32) (x2 : Int32) (x3 : Option Nat) : Kp4 (CS.i σ 5) (CS.i σ 13) (CS.i σ 14) (CS.a σ 9) (f_X11_suppressed_19 N σ x1 x2 x3) := by
  unfold f_X11_suppressed_19
  exact (kp4_oc (k4_X11_suppressed_44 N σ) (fun a3 => (kp4_ite (k4_X11_suppressed_44 N σ) (kp4_ite (kp4_ite (k4_X11_suppressed_44 N σ) (kp4_ite (k4_X11_suppressed_44 N σ) (kp4_ite (kp4_ite (kp4_ite (kp4_some (⟨rfl, rfl, rfl, rfl⟩)) kp4_none) (kp4_ite (kp4_some (⟨rfl, rfl, rfl, rfl⟩)) kp4_none)) (k4_X11_suppressed_44 N σ)))) kp4_none))))
theorem k4_X11_suppressed (N : Nat) (σ : CS) (x1 : Int32) (x2 : Int32) : Kp4 (CS.i σ 5) (CS.i σ 13) (CS.i σ 14) (CS.a σ 9) (f_X11_suppressed N σ x1 x2) := by
  unfold f_X11_suppressed
  exact (kp4_ite (k4_X11_suppressed_19 N σ x1 x2 none) (kp4_bind (k4_X3_lastThrown N σ) (fun p16 => (kp4_oc (k4_X11_suppressed_19 N p16.2 x1 x2 none) (fun a21 => (k4_X11_suppressed_19 N p16.2 x1 x2 (some a21)))))))
theorem k4_X11_under_22 (N : Nat) (σ : CS) : Kp4 (CS.i σ 5) (CS.i σ 13) (CS.i σ 14) (CS.a σ 9) (f_X11_under_22 N σ ) := by
  unfold f_X11_under_22
  exact (kp4_some (⟨rfl, rfl, rfl, rfl⟩))
theorem k4_X11_under (N : Nat) (σ : CS) (x1 : Int32) (x2 : Int32) : Kp4 (CS.i σ 5) (CS.i σ 13) (CS.i σ 14) (CS.a σ 9) (f_X11_under N σ x1 x2) := by
  unfold f_X11_under
  exact (kp4_bind (k4_X10_isKind N σ x1) (fun p1 => (kp4_ite (k4_X11_under_22 N p1.2) (kp4_bind (k4_X10_isKind N p1.2 x2) (fun p6 => (kp4_ite (k4_X11_under_22 N p6.2) (kp4_bind (k4_X10_isUnder N p6.2 x1 x2) (fun p11 => (kp4_ite (kp4_some (⟨rfl, rfl, rfl, rfl⟩)) (kp4_some (⟨rfl, rfl, rfl, rfl⟩)))))))))))
theorem k4EE (N : Nat) : ∀ d : Nat, (∀ σ, Kp4 (CS.i σ 5) (CS.i σ 13) (CS.i σ 14) (CS.a σ 9) ((fEE N d).1 σ)) ∧ (∀ σ, Kp4 (CS.i σ 5) (CS.i σ 13) (CS.i σ 14) (CS.a σ 9) ((fEE N d).2 σ))
  | 0 => ⟨fun _ => kp4_none, fun _ => kp4_none⟩
  | d+1 => ⟨fun σ => k4_X1_factor N _ _ (k4EE N d).1 (k4EE N d).2 σ, fun σ => k4_X1_one N _ _ (k4EE N d).1 (k4EE N d).2 σ⟩
