/-! the class: what the small methods leave alone -/
def PJT : Type := (Int32 × Int32 × Int32 × Int32 × Int32 × Int32 × Int32 × Int32 × Int32 × Int32 × Int32 × Int32 × Int32 × Int32 × Int32 × Int32 × Int32 × Int32) × ((Nat → Int32) × (Nat → Int32) × (Nat → Int32) × (Nat → Int32) × (Nat → Int32)) × (Nat → Nat → Option Nat) × (Nat → Nat → Int32) × (Nat → Int64) × (Nat → Nat → Int64) × Int32 × Nat × List Nat × (Nat → Nat)
def pj (s : CS) : PJT := ((CS.i s 5, CS.i s 6, CS.i s 7, CS.i s 8, CS.i s 13, CS.i s 14, CS.i s 24, CS.i s 25, CS.i s 26, CS.i s 27, CS.i s 36, CS.i s 37, CS.i s 38, CS.i s 50, CS.i s 53, CS.i s 54, CS.i s 55, CS.i s 56), (CS.a s 0, CS.a s 9, CS.a s 48, CS.a s 49, CS.a s 52), CS.r s, CS.o s, CS.ol s, CS.b s, CS.i s 21, CS.hs s, CS.L s, CS.k s)
def Kc {α : Type} (v : PJT) (t : Option (α × CS)) : Prop := ∀ R, t = some R → pj R.2 = v
theorem kc_some {α : Type} {v : PJT} {r : α × CS} (h : pj r.2 = v) : Kc v (some r) := fun R q => by
  cases q
  exact h
theorem kc_none {α : Type} {v : PJT} : Kc v (none : Option (α × CS)) := fun R q => by cases q
theorem kc_ite {α : Type} {v : PJT} {c : Prop} [Decidable c] {x y : Option (α × CS)} (hx : Kc v x) (hy : Kc v y) : Kc v (if c then x else y) := by
  by_cases h : c
  · rw [if_pos h]; exact hx
  · rw [if_neg h]; exact hy
theorem kc_bind {α β : Type} {v : PJT} {x : Option (α × CS)} {g : α × CS → Option (β × CS)} (hx : Kc v x) (hk : ∀ p : α × CS, Kc (pj p.2) (g p)) : Kc v (x.bind g) := by
  intro R h
  cases hx' : x with
  | none => rw [hx'] at h; cases h
  | some p =>
    rw [hx'] at h
    exact (hk p R h).trans (hx p hx')
theorem kc_oc {α β : Type} {v : PJT} {r : Option α} {x : Option (β × CS)} {g : α → Option (β × CS)} (hx : Kc v x) (hf : ∀ a, Kc v (g a)) : Kc v (oCase r x g) := by
  cases r with
  | none => exact hx
  | some a => exact hf a
theorem kc_le {α : Type} {v w : PJT} {t : Option (α × CS)} (h : v = w) (ht : Kc v t) : Kc w t := by rw [← h]; exact ht
theorem kc_X0_add (N : Nat) (σ : CS) (x1 : Int32) (x2 : Int32) : Kc (pj σ) (f_X0_add N σ x1 x2) := by
  unfold f_X0_add
  exact (kc_some (rfl))
theorem kc_X0_aim (N : Nat) (σ : CS) (x1 : Int32) : Kc (pj σ) (f_X0_aim N σ x1) := by
  unfold f_X0_aim
  exact (kc_some (rfl))
theorem kc_X0_newCells (N : Nat) (σ : CS) (x1 : Int32) : Kc (pj σ) (f_X0_newCells N σ x1) := by
  unfold f_X0_newCells
  exact (kc_some (rfl))
theorem kcb_X0_hasCase_2 (N : Nat) (K : CS → Int32 → Int32 → Option (Int32 × CS)) (hMK : ∀ (σ : CS) (x2 : Int32) (x3 : Int32), Kc (pj σ) (K σ x2 x3)) (σ : CS) (x2 : Int32) (x3 : Int32) : Kc (pj σ) (b_X0_hasCase_2 N K σ x2 x3) := by
  unfold b_X0_hasCase_2
  exact (kc_ite (kc_some (rfl)) (kc_ite (kc_some (rfl)) (hMK σ x2 (x3 + 1))))
theorem kc_X0_hasCase_2 (N : Nat) : ∀ (n : Nat) (σ : CS) (x2 : Int32) (x3 : Int32), Kc (pj σ) (f_X0_hasCase_2 N n σ x2 x3)
  | 0, _, _, _ => kc_none
  | n+1, σ, x2, x3 => kcb_X0_hasCase_2 N (f_X0_hasCase_2 N n) (fun σ x2 x3 => kc_X0_hasCase_2 N n σ x2 x3) σ x2 x3
theorem kc_X0_hasCase (N : Nat) (σ : CS) (x1 : Int32) (x2 : Int32) : Kc (pj σ) (f_X0_hasCase N σ x1 x2) := by
  unfold f_X0_hasCase
  exact (kc_X0_hasCase_2 N N σ x2 x1)
theorem kc_X0_addCase (N : Nat) (σ : CS) (x1 : Int32) (x2 : Int32) : Kc (pj σ) (f_X0_addCase N σ x1 x2) := by
  unfold f_X0_addCase
  exact (kc_some (rfl))
theorem kcb_X0_addCases_2 (N : Nat) (K : CS → Int32 → Int32 → Int32 → Option (Unit × CS)) (hMK : ∀ (σ : CS) (x1 : Int32) (x2 : Int32) (x3 : Int32), Kc (pj σ) (K σ x1 x2 x3)) (σ : CS) (x1 : Int32) (x2 : Int32) (x3 : Int32) : Kc (pj σ) (b_X0_addCases_2 N K σ x1 x2 x3) := by
  unfold b_X0_addCases_2
  exact (kc_ite (kc_bind (kc_X0_add N (CS.setI σ 22 x1) 6 0) (fun p2 => (kc_bind (kc_X0_add N p2.2 30 x2) (fun p6 => (kc_some (rfl)))))) (kc_bind (kc_X0_add N σ 0 (gAt (σ.a 18) 320 x3)) (fun p11 => (kc_bind (kc_X0_add N p11.2 34 (gAt (p11.2.a 19) 320 x3)) (fun p16 => (hMK p16.2 x1 x2 (x3 + 1)))))))
theorem kc_X0_addCases_2 (N : Nat) : ∀ (n : Nat) (σ : CS) (x1 : Int32) (x2 : Int32) (x3 : Int32), Kc (pj σ) (f_X0_addCases_2 N n σ x1 x2 x3)
  | 0, _, _, _, _ => kc_none
  | n+1, σ, x1, x2, x3 => kcb_X0_addCases_2 N (f_X0_addCases_2 N n) (fun σ x1 x2 x3 => kc_X0_addCases_2 N n σ x1 x2 x3) σ x1 x2 x3
theorem kc_X0_addCases (N : Nat) (σ : CS) (x1 : Int32) (x2 : Int32) : Kc (pj σ) (f_X0_addCases N σ x1 x2) := by
  unfold f_X0_addCases
  exact (kc_X0_addCases_2 N N σ x1 x2 x1)
theorem kc_X9_stop (N : Nat) (σ : CS) : Kc (pj σ) (f_X9_stop N σ) := by
  unfold f_X9_stop
  exact (kc_some (rfl))
theorem kc_X1_fail (N : Nat) (σ : CS) (x1 : Int32) (x2 : Int32) : Kc (pj σ) (f_X1_fail N σ x1 x2) := by
  unfold f_X1_fail
  exact (kc_ite (kc_bind (kc_X9_stop N (CS.setI (CS.setI σ 32 x1) 33 x2)) (fun p2 => (kc_some (rfl)))) (kc_some (rfl)))
theorem kc_X1_found (N : Nat) (σ : CS) (x1 : Int32) : Kc (pj σ) (f_X1_found N σ x1) := by
  unfold f_X1_found
  exact (kc_ite (kc_some (rfl)) (kc_some (rfl)))
theorem kc_X1_misplaced (N : Nat) (σ : CS) : Kc (pj σ) (f_X1_misplaced N σ) := by
  unfold f_X1_misplaced
  exact (kc_bind (kc_X1_found N σ 6) (fun p1 => (kc_ite (kc_bind (kc_X1_fail N p1.2 2 (p1.2.i 44)) (fun p6 => (kc_some (rfl)))) (kc_bind (kc_X1_fail N p1.2 1 (p1.2.i 44)) (fun p10 => (kc_some (rfl)))))))
theorem kc_X9_byteAt_30 (N : Nat) (σ : CS) : Kc (pj σ) (f_X9_byteAt_30 N σ ) := by
  unfold f_X9_byteAt_30
  exact (kc_some (rfl))
theorem kc_X9_byteAt (N : Nat) (σ : CS) (x1 : Int32) : Kc (pj σ) (f_X9_byteAt N σ x1) := by
  unfold f_X9_byteAt
  exact (kc_ite (kc_X9_byteAt_30 N σ) (kc_ite (kc_X9_byteAt_30 N σ) (kc_ite (kc_X9_byteAt_30 N σ) (kc_ite (kc_some (rfl)) kc_none))))
theorem kc_X9_isDigit_16 (N : Nat) (σ : CS) : Kc (pj σ) (f_X9_isDigit_16 N σ ) := by
  unfold f_X9_isDigit_16
  exact (kc_some (rfl))
theorem kc_X9_isDigit (N : Nat) (σ : CS) (x0 : Int32) : Kc (pj σ) (f_X9_isDigit N σ x0) := by
  unfold f_X9_isDigit
  exact (kc_ite (kc_X9_isDigit_16 N σ) (kc_ite (kc_X9_isDigit_16 N σ) (kc_some (rfl))))
theorem kc_X9_takeNumber_67 (N : Nat) (σ : CS) : Kc (pj σ) (f_X9_takeNumber_67 N σ ) := by
  unfold f_X9_takeNumber_67
  exact (kc_ite (kc_some (rfl)) (kc_some (rfl)))
theorem kcb_X9_takeNumber_7 (N : Nat) (K : CS → Int32 → Option (Unit × CS)) (hMK : ∀ (σ : CS) (x1 : Int32), Kc (pj σ) (K σ x1)) (σ : CS) (x1 : Int32) : Kc (pj σ) (b_X9_takeNumber_7 N K σ x1) := by
  unfold b_X9_takeNumber_7
  exact (kc_ite (kc_X9_takeNumber_67 N σ) (kc_bind (kc_X9_byteAt N σ (σ.i 42)) (fun p3 => (kc_bind (kc_X9_isDigit N p3.2 p3.1) (fun p7 => (kc_ite (kc_X9_takeNumber_67 N p7.2) (kc_bind (kc_X9_byteAt N p7.2 (p7.2.i 42)) (fun p12 => (hMK (CS.setI (CS.setI p12.2 45 ((((p7.2.i 45) * 10) + p12.1) - 48)) 42 ((p12.2.i 42) + 1)) (x1 + 1))))))))))
theorem kc_X9_takeNumber_7 (N : Nat) : ∀ (n : Nat) (σ : CS) (x1 : Int32), Kc (pj σ) (f_X9_takeNumber_7 N n σ x1)
  | 0, _, _ => kc_none
  | n+1, σ, x1 => kcb_X9_takeNumber_7 N (f_X9_takeNumber_7 N n) (fun σ x1 => kc_X9_takeNumber_7 N n σ x1) σ x1
theorem kc_X9_takeNumber (N : Nat) (σ : CS) : Kc (pj σ) (f_X9_takeNumber N σ) := by
  unfold f_X9_takeNumber
  exact (kc_X9_takeNumber_7 N N (CS.setI σ 45 0) 0)
theorem kc_X9_isLetter_16 (N : Nat) (σ : CS) : Kc (pj σ) (f_X9_isLetter_16 N σ ) := by
  unfold f_X9_isLetter_16
  exact (kc_some (rfl))
theorem kc_X9_isLetter (N : Nat) (σ : CS) (x0 : Int32) : Kc (pj σ) (f_X9_isLetter N σ x0) := by
  unfold f_X9_isLetter
  exact (kc_ite (kc_X9_isLetter_16 N σ) (kc_ite (kc_X9_isLetter_16 N σ) (kc_some (rfl))))
theorem kc_X9_rowType_171 (N : Nat) (σ : CS) (x6 : Int64) : Kc (pj σ) (f_X9_rowType_171 N σ x6) := by
  unfold f_X9_rowType_171
  exact (kc_ite (kc_ite (kc_some (rfl)) (kc_some (rfl))) (kc_ite (kc_ite (kc_some (rfl)) (kc_ite (kc_some (rfl)) (kc_some (rfl)))) (kc_some (rfl))))
theorem kc_X9_rowType_153 (N : Nat) (σ : CS) (x2 : Int64) (x4 : Int32) (x6 : Int64) : Kc (pj σ) (f_X9_rowType_153 N σ x2 x4 x6) := by
  unfold f_X9_rowType_153
  exact (kc_ite (kc_X9_rowType_171 N (CS.setI σ 45 (((x2 : Int64).toInt32) + 10)) x6) (kc_X9_rowType_171 N (CS.setI σ 45 (((x2 : Int64).toInt32) + 0)) x6))
theorem kc_X9_rowType_129 (N : Nat) (σ : CS) (x2 : Int64) (x4 : Int32) : Kc (pj σ) (f_X9_rowType_129 N σ x2 x4) := by
  unfold f_X9_rowType_129
  exact (kc_ite (kc_X9_rowType_153 N σ x2 x4 (σ.l >>> ((16 : Int32).toInt64 &&& 63))) (kc_X9_rowType_153 N σ x2 x4 (σ.l >>> ((8 : Int32).toInt64 &&& 63))))
theorem kc_X9_rowType_117 (N : Nat) (σ : CS) (x2 : Int64) (x4 : Int32) (x5 : Int32) : Kc (pj σ) (f_X9_rowType_117 N σ x2 x4 x5) := by
  unfold f_X9_rowType_117
  exact (kc_ite (kc_ite (kc_some (rfl)) (kc_X9_rowType_129 N σ x2 x4)) (kc_X9_rowType_129 N σ x2 x4))
theorem kc_X9_rowType_114 (N : Nat) (σ : CS) (x2 : Int64) (x4 : Int32) : Kc (pj σ) (f_X9_rowType_114 N σ x2 x4) := by
  unfold f_X9_rowType_114
  exact (kc_X9_rowType_117 N σ x2 x4 0)
theorem kc_X9_rowType_73 (N : Nat) (σ : CS) (x1 : Int32) (x2 : Int64) (x4 : Int32) : Kc (pj σ) (f_X9_rowType_73 N σ x1 x2 x4) := by
  unfold f_X9_rowType_73
  exact (kc_ite (kc_ite (kc_X9_rowType_114 N σ x2 x4) (kc_ite (kc_X9_rowType_114 N σ x2 x4) (kc_ite (kc_X9_rowType_117 N σ x2 x4 1) (kc_X9_rowType_114 N σ x2 x4)))) (kc_X9_rowType_114 N σ x2 x4))
theorem kc_X9_rowType_70 (N : Nat) (σ : CS) (x1 : Int32) (x2 : Int64) : Kc (pj σ) (f_X9_rowType_70 N σ x1 x2) := by
  unfold f_X9_rowType_70
  exact (kc_X9_rowType_73 N σ x1 x2 0)
theorem kcb_X9_rowType_2 (N : Nat) (K : CS → Int32 → Int32 → Option (Int32 × CS)) (hMK : ∀ (σ : CS) (x1 : Int32) (x2 : Int32), Kc (pj σ) (K σ x1 x2)) (σ : CS) (x1 : Int32) (x2 : Int32) : Kc (pj σ) (b_X9_rowType_2 N K σ x1 x2) := by
  unfold b_X9_rowType_2
  exact (kc_ite (kc_ite (kc_ite (kc_X9_rowType_70 N σ x1 ((σ.l &&& 255) - 48)) (kc_ite (kc_X9_rowType_70 N σ x1 ((σ.l &&& 255) - 48)) (kc_X9_rowType_73 N σ x1 ((σ.l &&& 255) - 48) 1))) (kc_X9_rowType_70 N σ x1 ((σ.l &&& 255) - 48))) (kc_ite (kc_ite (kc_some (rfl)) (hMK σ x1 (x2 + 1))) kc_none))
theorem kc_X9_rowType_2 (N : Nat) : ∀ (n : Nat) (σ : CS) (x1 : Int32) (x2 : Int32), Kc (pj σ) (f_X9_rowType_2 N n σ x1 x2)
  | 0, _, _, _ => kc_none
  | n+1, σ, x1, x2 => kcb_X9_rowType_2 N (f_X9_rowType_2 N n) (fun σ x1 x2 => kc_X9_rowType_2 N n σ x1 x2) σ x1 x2
theorem kc_X9_rowType (N : Nat) (σ : CS) (x1 : Int32) : Kc (pj σ) (f_X9_rowType N σ x1) := by
  unfold f_X9_rowType
  exact (kc_X9_rowType_2 N N σ x1 0)
theorem kc_X9_takeRow_79 (N : Nat) (σ : CS) : Kc (pj σ) (f_X9_takeRow_79 N σ ) := by
  unfold f_X9_takeRow_79
  exact (kc_ite (kc_bind (kc_X9_rowType N σ ((σ.i 42) - (σ.i 44))) (fun p3 => (kc_some (rfl)))) (kc_some (rfl)))
theorem kcb_X9_takeRow_7 (N : Nat) (K : CS → Int32 → Option (Unit × CS)) (hMK : ∀ (σ : CS) (x1 : Int32), Kc (pj σ) (K σ x1)) (σ : CS) (x1 : Int32) : Kc (pj σ) (b_X9_takeRow_7 N K σ x1) := by
  unfold b_X9_takeRow_7
  exact (kc_ite (kc_X9_takeRow_79 N σ) (kc_bind (kc_X9_byteAt N σ (σ.i 42)) (fun p7 => (kc_bind (kc_X9_isDigit N p7.2 p7.1) (fun p11 => (kc_ite (kc_bind (kc_X9_byteAt N p11.2 (p11.2.i 42)) (fun p20 => (kc_bind (kc_X9_isLetter N p20.2 p20.1) (fun p24 => (kc_ite (kc_X9_takeRow_79 N p24.2) (kc_bind (kc_X9_byteAt N p24.2 (p24.2.i 42)) (fun p29 => (hMK (CS.setI (CS.setL p29.2 ((p24.2.l <<< ((8 : Int32).toInt64 &&& 63)) ||| (p29.1 : Int32).toInt64)) 42 ((p29.2.i 42) + 1)) (x1 + 1))))))))) (kc_bind (kc_X9_byteAt N p11.2 (p11.2.i 42)) (fun p16 => (hMK (CS.setI (CS.setL p16.2 ((p11.2.l <<< ((8 : Int32).toInt64 &&& 63)) ||| (p16.1 : Int32).toInt64)) 42 ((p16.2.i 42) + 1)) (x1 + 1))))))))))
theorem kc_X9_takeRow_7 (N : Nat) : ∀ (n : Nat) (σ : CS) (x1 : Int32), Kc (pj σ) (f_X9_takeRow_7 N n σ x1)
  | 0, _, _ => kc_none
  | n+1, σ, x1 => kcb_X9_takeRow_7 N (f_X9_takeRow_7 N n) (fun σ x1 => kc_X9_takeRow_7 N n σ x1) σ x1
theorem kc_X9_takeRow (N : Nat) (σ : CS) : Kc (pj σ) (f_X9_takeRow N σ) := by
  unfold f_X9_takeRow
  exact (kc_X9_takeRow_7 N N (CS.setL σ 0) 0)
theorem kc_X9_longSign_73 (N : Nat) (σ : CS) (x0 : Int32) (x1 : Int32) : Kc (pj σ) (f_X9_longSign_73 N σ x0 x1) := by
  unfold f_X9_longSign_73
  exact (kc_ite (kc_ite (kc_some (rfl)) (kc_ite (kc_some (rfl)) (kc_ite (kc_some (rfl)) (kc_some (rfl))))) (kc_some (rfl)))
theorem kc_X9_longSign (N : Nat) (σ : CS) (x0 : Int32) (x1 : Int32) : Kc (pj σ) (f_X9_longSign N σ x0 x1) := by
  unfold f_X9_longSign
  exact (kc_ite (kc_ite (kc_some (rfl)) (kc_ite (kc_some (rfl)) (kc_ite (kc_some (rfl)) (kc_ite (kc_some (rfl)) (kc_some (rfl)))))) (kc_ite (kc_ite (kc_some (rfl)) (kc_X9_longSign_73 N σ x0 x1)) (kc_X9_longSign_73 N σ x0 x1)))
theorem kc_X9_isSign (N : Nat) (σ : CS) (x0 : Int32) : Kc (pj σ) (f_X9_isSign N σ x0) := by
  unfold f_X9_isSign
  exact (kc_ite (kc_some (rfl)) (kc_ite (kc_some (rfl)) (kc_ite (kc_some (rfl)) (kc_ite (kc_some (rfl)) (kc_ite (kc_some (rfl)) (kc_ite (kc_some (rfl)) (kc_ite (kc_some (rfl)) (kc_ite (kc_some (rfl)) (kc_ite (kc_some (rfl)) (kc_ite (kc_some (rfl)) (kc_ite (kc_some (rfl)) (kc_ite (kc_some (rfl)) (kc_ite (kc_some (rfl)) (kc_ite (kc_some (rfl)) (kc_ite (kc_some (rfl)) (kc_ite (kc_some (rfl)) (kc_ite (kc_some (rfl)) (kc_ite (kc_some (rfl)) (kc_ite (kc_some (rfl)) (kc_some (rfl)))))))))))))))))))))
theorem kc_X9_takeSign (N : Nat) (σ : CS) : Kc (pj σ) (f_X9_takeSign N σ) := by
  unfold f_X9_takeSign
  exact (kc_bind (kc_X9_byteAt N σ (σ.i 42)) (fun p1 => (kc_bind (kc_X9_byteAt N p1.2 ((p1.2.i 42) + 1)) (fun p5 => (kc_bind (kc_X9_longSign N p5.2 p1.1 p5.1) (fun p9 => (kc_ite (kc_bind (kc_X9_isSign N (CS.setI (CS.setI p9.2 43 p9.1) 42 ((p9.2.i 42) + 1)) p1.1) (fun p14 => (kc_ite (kc_some (rfl)) (kc_some (rfl))))) (kc_some (rfl)))))))))
theorem kc_X9_advance_51 (N : Nat) (σ : CS) : Kc (pj σ) (f_X9_advance_51 N σ ) := by
  unfold f_X9_advance_51
  exact (kc_ite (kc_bind (kc_X9_byteAt N (CS.setI σ 44 (σ.i 42)) (σ.i 42)) (fun p3 => (kc_bind (kc_X9_isDigit N p3.2 p3.1) (fun p7 => (kc_ite (kc_bind (kc_X9_byteAt N p7.2 (p7.2.i 42)) (fun p12 => (kc_bind (kc_X9_isLetter N p12.2 p12.1) (fun p16 => (kc_ite (kc_bind (kc_X9_takeSign N p16.2) (fun p21 => (kc_some (rfl)))) (kc_bind (kc_X9_takeRow N p16.2) (fun p25 => (kc_some (rfl))))))))) (kc_bind (kc_X9_takeNumber N p7.2) (fun p29 => (kc_some (rfl))))))))) (kc_some (rfl)))
theorem kcb_X9_advance_2 (N : Nat) (K : CS → Int32 → Option (Unit × CS)) (hMK : ∀ (σ : CS) (x1 : Int32), Kc (pj σ) (K σ x1)) (σ : CS) (x1 : Int32) : Kc (pj σ) (b_X9_advance_2 N K σ x1) := by
  unfold b_X9_advance_2
  exact (kc_ite (kc_X9_advance_51 N σ) (kc_bind (kc_X9_byteAt N σ (σ.i 42)) (fun p33 => (kc_ite (hMK (CS.setI p33.2 42 ((p33.2.i 42) + 1)) (x1 + 1)) (kc_bind (kc_X9_byteAt N p33.2 (p33.2.i 42)) (fun p38 => (kc_ite (hMK (CS.setI p38.2 42 ((p38.2.i 42) + 1)) (x1 + 1)) (kc_X9_advance_51 N p38.2))))))))
theorem kc_X9_advance_2 (N : Nat) : ∀ (n : Nat) (σ : CS) (x1 : Int32), Kc (pj σ) (f_X9_advance_2 N n σ x1)
  | 0, _, _ => kc_none
  | n+1, σ, x1 => kcb_X9_advance_2 N (f_X9_advance_2 N n) (fun σ x1 => kc_X9_advance_2 N n σ x1) σ x1
theorem kc_X9_advance (N : Nat) (σ : CS) : Kc (pj σ) (f_X9_advance N σ) := by
  unfold f_X9_advance
  exact (kc_X9_advance_2 N N σ 0)
theorem kc_X1_skip_17 (N : Nat) (σ : CS) (x2 : Int32) : Kc (pj σ) (f_X1_skip_17 N σ x2) := by
  unfold f_X1_skip_17
  exact (kc_ite (kc_some (rfl)) kc_none)
theorem kc_X1_skip (N : Nat) (σ : CS) (x1 : Int32) : Kc (pj σ) (f_X1_skip N σ x1) := by
  unfold f_X1_skip
  exact (kc_bind (kc_X1_found N σ x1) (fun p1 => (kc_ite (kc_X1_skip_17 N p1.2 p1.1) (kc_bind (kc_X9_advance N p1.2) (fun p7 => (kc_X1_skip_17 N p7.2 p1.1))))))
theorem kc_X1_expect (N : Nat) (σ : CS) (x1 : Int32) : Kc (pj σ) (f_X1_expect N σ x1) := by
  unfold f_X1_expect
  exact (kc_bind (kc_X1_found N σ x1) (fun p1 => (kc_ite (kc_bind (kc_X1_misplaced N p1.2) (fun p6 => (kc_some (rfl)))) (kc_bind (kc_X9_advance N p1.2) (fun p10 => (kc_some (rfl)))))))
theorem kc_X1_open (N : Nat) (σ : CS) (x1 : Int32) : Kc (pj σ) (f_X1_open N σ x1) := by
  unfold f_X1_open
  exact (kc_bind (kc_X1_found N σ x1) (fun p1 => (kc_ite (kc_bind (kc_X1_misplaced N p1.2) (fun p15 => (kc_some (rfl)))) (kc_ite (kc_bind (kc_X9_advance N (CS.setI p1.2 34 ((p1.2.i 34) + 1))) (fun p7 => (kc_some (rfl)))) (kc_bind (kc_X1_fail N p1.2 6 (p1.2.i 44)) (fun p11 => (kc_some (rfl))))))))
theorem kc_X1_close_22 (N : Nat) (σ : CS) : Kc (pj σ) (f_X1_close_22 N σ ) := by
  unfold f_X1_close_22
  exact (kc_some (rfl))
theorem kc_X1_close (N : Nat) (σ : CS) (x1 : Int32) : Kc (pj σ) (f_X1_close N σ x1) := by
  unfold f_X1_close
  exact (kc_bind (kc_X1_found N σ x1) (fun p1 => (kc_ite (kc_bind (kc_X1_misplaced N p1.2) (fun p6 => (kc_X1_close_22 N p6.2))) (kc_bind (kc_X9_advance N p1.2) (fun p10 => (kc_X1_close_22 N p10.2))))))
theorem kc_X4_find_38 (N : Nat) (σ : CS) : Kc (pj σ) (f_X4_find_38 N σ ) := by
  unfold f_X4_find_38
  exact (kc_some (rfl))
theorem kcb_X4_find_2 (N : Nat) (K : CS → Int64 → Int32 → Option (Int32 × CS)) (hMK : ∀ (σ : CS) (x1 : Int64) (x3 : Int32), Kc (pj σ) (K σ x1 x3)) (σ : CS) (x1 : Int64) (x3 : Int32) : Kc (pj σ) (b_X4_find_2 N K σ x1 x3) := by
  unfold b_X4_find_2
  exact (kc_ite (kc_X4_find_38 N σ) (kc_ite (kc_X4_find_38 N σ) (kc_ite (kc_ite (kc_some (rfl)) (hMK σ x1 (x3 + 1))) kc_none)))
theorem kc_X4_find_2 (N : Nat) : ∀ (n : Nat) (σ : CS) (x1 : Int64) (x3 : Int32), Kc (pj σ) (f_X4_find_2 N n σ x1 x3)
  | 0, _, _, _ => kc_none
  | n+1, σ, x1, x3 => kcb_X4_find_2 N (f_X4_find_2 N n) (fun σ x1 x3 => kc_X4_find_2 N n σ x1 x3) σ x1 x3
theorem kc_X4_find (N : Nat) (σ : CS) (x1 : Int64) : Kc (pj σ) (f_X4_find N σ x1) := by
  unfold f_X4_find
  exact (kc_X4_find_2 N N σ x1 0)
theorem kc_X4_cellOf (N : Nat) (σ : CS) (x1 : Int32) : Kc (pj σ) (f_X4_cellOf N σ x1) := by
  unfold f_X4_cellOf
  exact (kc_some (rfl))
theorem kc_X1_loadName (N : Nat) (σ : CS) : Kc (pj σ) (f_X1_loadName N σ) := by
  unfold f_X1_loadName
  exact (kc_bind (kc_X4_find N σ σ.l) (fun p1 => (kc_ite (kc_bind (kc_X4_cellOf N p1.2 p1.1) (fun p6 => (kc_bind (kc_X0_add N p6.2 1 p6.1) (fun p10 => (kc_bind (kc_X9_advance N p10.2) (fun p14 => (kc_some (rfl)))))))) (kc_bind (kc_X1_fail N p1.2 3 (p1.2.i 44)) (fun p18 => (kc_some (rfl)))))))
theorem kc_X1_caseNumber_44 (N : Nat) (σ : CS) (x1 : Int32) (x2 : Int32) (x4 : Int32) : Kc (pj σ) (f_X1_caseNumber_44 N σ x1 x2 x4) := by
  unfold f_X1_caseNumber_44
  exact (kc_bind (kc_X0_hasCase N σ x1 x4) (fun p11 => (kc_ite (kc_bind (kc_X0_addCase N p11.2 x4 x2) (fun p16 => (kc_bind (kc_X9_advance N p16.2) (fun p20 => (kc_some (rfl)))))) (kc_bind (kc_X1_fail N p11.2 4 (p11.2.i 44)) (fun p24 => (kc_some (rfl)))))))
theorem kc_X1_caseNumber (N : Nat) (σ : CS) (x1 : Int32) (x2 : Int32) : Kc (pj σ) (f_X1_caseNumber N σ x1 x2) := by
  unfold f_X1_caseNumber
  exact (kc_bind (kc_X1_skip N σ 45) (fun p1 => (kc_bind (kc_X1_found N p1.2 1) (fun p5 => (kc_ite (kc_bind (kc_X1_misplaced N p5.2) (fun p28 => (kc_some (rfl)))) (kc_ite (kc_X1_caseNumber_44 N p5.2 x1 x2 (p5.2.i 45)) (kc_X1_caseNumber_44 N p5.2 x1 x2 (-(p5.2.i 45)))))))))
theorem kc_X4_isCaught (N : Nat) (σ : CS) (x1 : Int32) : Kc (pj σ) (f_X4_isCaught N σ x1) := by
  unfold f_X4_isCaught
  exact (kc_ite (kc_some (rfl)) (kc_some (rfl)))
theorem kc_X10_isKind_16 (N : Nat) (σ : CS) : Kc (pj σ) (f_X10_isKind_16 N σ ) := by
  unfold f_X10_isKind_16
  exact (kc_some (rfl))
theorem kc_X10_isKind (N : Nat) (σ : CS) (x1 : Int32) : Kc (pj σ) (f_X10_isKind N σ x1) := by
  unfold f_X10_isKind
  exact (kc_ite (kc_X10_isKind_16 N σ) (kc_ite (kc_X10_isKind_16 N σ) (kc_some (rfl))))
theorem kc_X4_frameOf (N : Nat) (σ : CS) (x1 : Int32) : Kc (pj σ) (f_X4_frameOf N σ x1) := by
  unfold f_X4_frameOf
  exact (kc_some (rfl))
theorem kc_X10_isUnder_38 (N : Nat) (σ : CS) : Kc (pj σ) (f_X10_isUnder_38 N σ ) := by
  unfold f_X10_isUnder_38
  exact (kc_some (rfl))
theorem kcb_X10_isUnder_5 (N : Nat) (K : CS → Int32 → Int32 → Int32 → Option (Int32 × CS)) (hMK : ∀ (σ : CS) (x2 : Int32) (x3 : Int32) (x4 : Int32), Kc (pj σ) (K σ x2 x3 x4)) (σ : CS) (x2 : Int32) (x3 : Int32) (x4 : Int32) : Kc (pj σ) (b_X10_isUnder_5 N K σ x2 x3 x4) := by
  unfold b_X10_isUnder_5
  exact (kc_ite (kc_X10_isUnder_38 N σ) (kc_ite (kc_X10_isUnder_38 N σ) (kc_ite (kc_some (rfl)) (hMK σ x2 (gAt (σ.a 9) 12 x3) (x4 + 1)))))
theorem kc_X10_isUnder_5 (N : Nat) : ∀ (n : Nat) (σ : CS) (x2 : Int32) (x3 : Int32) (x4 : Int32), Kc (pj σ) (f_X10_isUnder_5 N n σ x2 x3 x4)
  | 0, _, _, _, _ => kc_none
  | n+1, σ, x2, x3, x4 => kcb_X10_isUnder_5 N (f_X10_isUnder_5 N n) (fun σ x2 x3 x4 => kc_X10_isUnder_5 N n σ x2 x3 x4) σ x2 x3 x4
theorem kc_X10_isUnder (N : Nat) (σ : CS) (x1 : Int32) (x2 : Int32) : Kc (pj σ) (f_X10_isUnder N σ x1 x2) := by
  unfold f_X10_isUnder
  exact (kc_X10_isUnder_5 N N σ x2 x1 0)
theorem kc_X1_comparing (N : Nat) (σ : CS) (x0 : Int32) : Kc (pj σ) (f_X1_comparing N σ x0) := by
  unfold f_X1_comparing
  exact (kc_ite (kc_some (rfl)) (kc_ite (kc_some (rfl)) (kc_ite (kc_some (rfl)) (kc_ite (kc_some (rfl)) (kc_ite (kc_some (rfl)) (kc_ite (kc_some (rfl)) (kc_some (rfl))))))))
theorem kc_X9_start (N : Nat) (σ : CS) (x1 : Int32) : Kc (pj σ) (f_X9_start N σ x1) := by
  unfold f_X9_start
  exact (kc_bind (kc_X9_advance N (CS.setI (CS.setI σ 41 x1) 42 0)) (fun p1 => (kc_some (rfl))))
/-! and those that leave the tokens alone, too -/
def PJT2 : Type := PJT × (Int32 × Int32 × Int32 × Int32 × Int32 × Int32 × Int32 × Int32 × Int32) × Int64 × (Nat → Int32)
def pj2 (s : CS) : PJT2 := (pj s, (CS.i s 32, CS.i s 33, CS.i s 34, CS.i s 22, CS.i s 41, CS.i s 42, CS.i s 43, CS.i s 44, CS.i s 45), CS.l s, CS.a s 18)
def Kd {α : Type} (v : PJT2) (t : Option (α × CS)) : Prop := ∀ R, t = some R → pj2 R.2 = v
theorem kd_some {α : Type} {v : PJT2} {r : α × CS} (h : pj2 r.2 = v) : Kd v (some r) := fun R q => by
  cases q
  exact h
theorem kd_none {α : Type} {v : PJT2} : Kd v (none : Option (α × CS)) := fun R q => by cases q
theorem kd_ite {α : Type} {v : PJT2} {c : Prop} [Decidable c] {x y : Option (α × CS)} (hx : Kd v x) (hy : Kd v y) : Kd v (if c then x else y) := by
  by_cases h : c
  · rw [if_pos h]; exact hx
  · rw [if_neg h]; exact hy
theorem kd_bind {α β : Type} {v : PJT2} {x : Option (α × CS)} {g : α × CS → Option (β × CS)} (hx : Kd v x) (hk : ∀ p : α × CS, Kd (pj2 p.2) (g p)) : Kd v (x.bind g) := by
  intro R h
  cases hx' : x with
  | none => rw [hx'] at h; cases h
  | some p =>
    rw [hx'] at h
    exact (hk p R h).trans (hx p hx')
theorem kd_X0_add (N : Nat) (σ : CS) (x1 : Int32) (x2 : Int32) : Kd (pj2 σ) (f_X0_add N σ x1 x2) := by
  unfold f_X0_add
  exact (kd_some (rfl))
theorem kd_X0_aim (N : Nat) (σ : CS) (x1 : Int32) : Kd (pj2 σ) (f_X0_aim N σ x1) := by
  unfold f_X0_aim
  exact (kd_some (rfl))
theorem kd_X0_newCells (N : Nat) (σ : CS) (x1 : Int32) : Kd (pj2 σ) (f_X0_newCells N σ x1) := by
  unfold f_X0_newCells
  exact (kd_some (rfl))
theorem kdb_X0_hasCase_2 (N : Nat) (K : CS → Int32 → Int32 → Option (Int32 × CS)) (hMK : ∀ (σ : CS) (x2 : Int32) (x3 : Int32), Kd (pj2 σ) (K σ x2 x3)) (σ : CS) (x2 : Int32) (x3 : Int32) : Kd (pj2 σ) (b_X0_hasCase_2 N K σ x2 x3) := by
  unfold b_X0_hasCase_2
  exact (kd_ite (kd_some (rfl)) (kd_ite (kd_some (rfl)) (hMK σ x2 (x3 + 1))))
theorem kd_X0_hasCase_2 (N : Nat) : ∀ (n : Nat) (σ : CS) (x2 : Int32) (x3 : Int32), Kd (pj2 σ) (f_X0_hasCase_2 N n σ x2 x3)
  | 0, _, _, _ => kd_none
  | n+1, σ, x2, x3 => kdb_X0_hasCase_2 N (f_X0_hasCase_2 N n) (fun σ x2 x3 => kd_X0_hasCase_2 N n σ x2 x3) σ x2 x3
theorem kd_X0_hasCase (N : Nat) (σ : CS) (x1 : Int32) (x2 : Int32) : Kd (pj2 σ) (f_X0_hasCase N σ x1 x2) := by
  unfold f_X0_hasCase
  exact (kd_X0_hasCase_2 N N σ x2 x1)
theorem kd_X1_found (N : Nat) (σ : CS) (x1 : Int32) : Kd (pj2 σ) (f_X1_found N σ x1) := by
  unfold f_X1_found
  exact (kd_ite (kd_some (rfl)) (kd_some (rfl)))
theorem kd_X4_find_38 (N : Nat) (σ : CS) : Kd (pj2 σ) (f_X4_find_38 N σ ) := by
  unfold f_X4_find_38
  exact (kd_some (rfl))
theorem kdb_X4_find_2 (N : Nat) (K : CS → Int64 → Int32 → Option (Int32 × CS)) (hMK : ∀ (σ : CS) (x1 : Int64) (x3 : Int32), Kd (pj2 σ) (K σ x1 x3)) (σ : CS) (x1 : Int64) (x3 : Int32) : Kd (pj2 σ) (b_X4_find_2 N K σ x1 x3) := by
  unfold b_X4_find_2
  exact (kd_ite (kd_X4_find_38 N σ) (kd_ite (kd_X4_find_38 N σ) (kd_ite (kd_ite (kd_some (rfl)) (hMK σ x1 (x3 + 1))) kd_none)))
theorem kd_X4_find_2 (N : Nat) : ∀ (n : Nat) (σ : CS) (x1 : Int64) (x3 : Int32), Kd (pj2 σ) (f_X4_find_2 N n σ x1 x3)
  | 0, _, _, _ => kd_none
  | n+1, σ, x1, x3 => kdb_X4_find_2 N (f_X4_find_2 N n) (fun σ x1 x3 => kd_X4_find_2 N n σ x1 x3) σ x1 x3
theorem kd_X4_find (N : Nat) (σ : CS) (x1 : Int64) : Kd (pj2 σ) (f_X4_find N σ x1) := by
  unfold f_X4_find
  exact (kd_X4_find_2 N N σ x1 0)
theorem kd_X4_cellOf (N : Nat) (σ : CS) (x1 : Int32) : Kd (pj2 σ) (f_X4_cellOf N σ x1) := by
  unfold f_X4_cellOf
  exact (kd_some (rfl))
theorem kd_X4_isCaught (N : Nat) (σ : CS) (x1 : Int32) : Kd (pj2 σ) (f_X4_isCaught N σ x1) := by
  unfold f_X4_isCaught
  exact (kd_ite (kd_some (rfl)) (kd_some (rfl)))
theorem kd_X10_isKind_16 (N : Nat) (σ : CS) : Kd (pj2 σ) (f_X10_isKind_16 N σ ) := by
  unfold f_X10_isKind_16
  exact (kd_some (rfl))
theorem kd_X10_isKind (N : Nat) (σ : CS) (x1 : Int32) : Kd (pj2 σ) (f_X10_isKind N σ x1) := by
  unfold f_X10_isKind
  exact (kd_ite (kd_X10_isKind_16 N σ) (kd_ite (kd_X10_isKind_16 N σ) (kd_some (rfl))))
theorem kd_X4_frameOf (N : Nat) (σ : CS) (x1 : Int32) : Kd (pj2 σ) (f_X4_frameOf N σ x1) := by
  unfold f_X4_frameOf
  exact (kd_some (rfl))
theorem kd_X10_isUnder_38 (N : Nat) (σ : CS) : Kd (pj2 σ) (f_X10_isUnder_38 N σ ) := by
  unfold f_X10_isUnder_38
  exact (kd_some (rfl))
theorem kdb_X10_isUnder_5 (N : Nat) (K : CS → Int32 → Int32 → Int32 → Option (Int32 × CS)) (hMK : ∀ (σ : CS) (x2 : Int32) (x3 : Int32) (x4 : Int32), Kd (pj2 σ) (K σ x2 x3 x4)) (σ : CS) (x2 : Int32) (x3 : Int32) (x4 : Int32) : Kd (pj2 σ) (b_X10_isUnder_5 N K σ x2 x3 x4) := by
  unfold b_X10_isUnder_5
  exact (kd_ite (kd_X10_isUnder_38 N σ) (kd_ite (kd_X10_isUnder_38 N σ) (kd_ite (kd_some (rfl)) (hMK σ x2 (gAt (σ.a 9) 12 x3) (x4 + 1)))))
theorem kd_X10_isUnder_5 (N : Nat) : ∀ (n : Nat) (σ : CS) (x2 : Int32) (x3 : Int32) (x4 : Int32), Kd (pj2 σ) (f_X10_isUnder_5 N n σ x2 x3 x4)
  | 0, _, _, _, _ => kd_none
  | n+1, σ, x2, x3, x4 => kdb_X10_isUnder_5 N (f_X10_isUnder_5 N n) (fun σ x2 x3 x4 => kd_X10_isUnder_5 N n σ x2 x3 x4) σ x2 x3 x4
theorem kd_X10_isUnder (N : Nat) (σ : CS) (x1 : Int32) (x2 : Int32) : Kd (pj2 σ) (f_X10_isUnder N σ x1 x2) := by
  unfold f_X10_isUnder
  exact (kd_X10_isUnder_5 N N σ x2 x1 0)
theorem kd_X1_comparing (N : Nat) (σ : CS) (x0 : Int32) : Kd (pj2 σ) (f_X1_comparing N σ x0) := by
  unfold f_X1_comparing
  exact (kd_ite (kd_some (rfl)) (kd_ite (kd_some (rfl)) (kd_ite (kd_some (rfl)) (kd_ite (kd_some (rfl)) (kd_ite (kd_some (rfl)) (kd_ite (kd_some (rfl)) (kd_some (rfl))))))))
