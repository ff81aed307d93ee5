/-! the class: what lays nothing leaves the code alone -/
def PET : Type := Int32 × (Nat → Int32) × (Nat → Int32) × (Nat → Int32) × Int32 × Int32 × Int32 × (Nat → Int32)
def pe (s : CS) : PET := (CS.i s 20, CS.a s 15, CS.a s 16, CS.a s 17, CS.i s 23, CS.i s 38, CS.i s 22, CS.a s 19)
def Ke {α : Type} (v : PET) (t : Option (α × CS)) : Prop := ∀ R, t = some R → pe R.2 = v
theorem ke_some {α : Type} {v : PET} {r : α × CS} (h : pe r.2 = v) : Ke v (some r) := fun R q => by
  cases q
  exact h
theorem ke_none {α : Type} {v : PET} : Ke v (none : Option (α × CS)) := fun R q => by cases q
theorem ke_ite {α : Type} {v : PET} {c : Prop} [Decidable c] {x y : Option (α × CS)} (hx : Ke v x) (hy : Ke v y) : Ke v (if c then x else y) := by
  by_cases h : c
  · rw [if_pos h]; exact hx
  · rw [if_neg h]; exact hy
theorem ke_bind {α β : Type} {v : PET} {x : Option (α × CS)} {g : α × CS → Option (β × CS)} (hx : Ke v x) (hk : ∀ p : α × CS, Ke (pe p.2) (g p)) : Ke v (x.bind g) := by
  intro R h
  cases hx' : x with
  | none => rw [hx'] at h; cases h
  | some p =>
    rw [hx'] at h
    exact (hk p R h).trans (hx p hx')
theorem ke_oc {α β : Type} {v : PET} {r : Option α} {x : Option (β × CS)} {g : α → Option (β × CS)} (hx : Ke v x) (hf : ∀ a, Ke v (g a)) : Ke v (oCase r x g) := by
  cases r with
  | none => exact hx
  | some a => exact hf a
theorem ke_le {α : Type} {v w : PET} {t : Option (α × CS)} (h : v = w) (ht : Ke v t) : Ke w t := by rw [← h]; exact ht
theorem pe_eq {s r : CS} (h : pe r = pe s) : r.i 20 = s.i 20 ∧ r.a 15 = s.a 15 ∧ r.a 16 = s.a 16 ∧ r.a 17 = s.a 17 ∧ r.i 23 = s.i 23 ∧ r.i 38 = s.i 38 ∧ r.i 22 = s.i 22 ∧ r.a 19 = s.a 19 := by
  have h1 := congrArg (fun v : PET => v.1) h
  have h2 := congrArg (fun v : PET => v.2.1) h
  have h3 := congrArg (fun v : PET => v.2.2.1) h
  have h4 := congrArg (fun v : PET => v.2.2.2.1) h
  have h5 := congrArg (fun v : PET => v.2.2.2.2.1) h
  have h6 := congrArg (fun v : PET => v.2.2.2.2.2.1) h
  have h7 := congrArg (fun v : PET => v.2.2.2.2.2.2.1) h
  have h8 := congrArg (fun v : PET => v.2.2.2.2.2.2.2) h
  exact ⟨h1, h2, h3, h4, h5, h6, h7, h8⟩
theorem keb_X0_hasCase_2 (N : Nat) (K : CS → Int32 → Int32 → Option (Int32 × CS)) (hMK : ∀ (σ : CS) (x2 : Int32) (x3 : Int32), Ke (pe σ) (K σ x2 x3)) (σ : CS) (x2 : Int32) (x3 : Int32) : Ke (pe σ) (b_X0_hasCase_2 N K σ x2 x3) := by
  unfold b_X0_hasCase_2
  exact (ke_ite (ke_some (rfl)) (ke_ite (ke_some (rfl)) (hMK σ x2 (x3 + 1))))
theorem ke_X0_hasCase_2 (N : Nat) : ∀ (n : Nat) (σ : CS) (x2 : Int32) (x3 : Int32), Ke (pe σ) (f_X0_hasCase_2 N n σ x2 x3)
  | 0, _, _, _ => ke_none
  | n+1, σ, x2, x3 => keb_X0_hasCase_2 N (f_X0_hasCase_2 N n) (fun σ x2 x3 => ke_X0_hasCase_2 N n σ x2 x3) σ x2 x3
theorem ke_X0_hasCase (N : Nat) (σ : CS) (x1 : Int32) (x2 : Int32) : Ke (pe σ) (f_X0_hasCase N σ x1 x2) := by
  unfold f_X0_hasCase
  exact (ke_X0_hasCase_2 N N σ x2 x1)
theorem ke_X9_stop (N : Nat) (σ : CS) : Ke (pe σ) (f_X9_stop N σ) := by
  unfold f_X9_stop
  exact (ke_some (rfl))
theorem ke_X1_fail (N : Nat) (σ : CS) (x1 : Int32) (x2 : Int32) : Ke (pe σ) (f_X1_fail N σ x1 x2) := by
  unfold f_X1_fail
  exact (ke_ite (ke_bind (ke_X9_stop N (CS.setI (CS.setI σ 32 x1) 33 x2)) (fun p2 => (ke_some (rfl)))) (ke_some (rfl)))
theorem ke_X1_found (N : Nat) (σ : CS) (x1 : Int32) : Ke (pe σ) (f_X1_found N σ x1) := by
  unfold f_X1_found
  exact (ke_ite (ke_some (rfl)) (ke_some (rfl)))
theorem ke_X1_misplaced (N : Nat) (σ : CS) : Ke (pe σ) (f_X1_misplaced N σ) := by
  unfold f_X1_misplaced
  exact (ke_bind (ke_X1_found N σ 6) (fun p1 => (ke_ite (ke_bind (ke_X1_fail N p1.2 2 (p1.2.i 44)) (fun p6 => (ke_some (rfl)))) (ke_bind (ke_X1_fail N p1.2 1 (p1.2.i 44)) (fun p10 => (ke_some (rfl)))))))
theorem ke_X9_byteAt_30 (N : Nat) (σ : CS) : Ke (pe σ) (f_X9_byteAt_30 N σ ) := by
  unfold f_X9_byteAt_30
  exact (ke_some (rfl))
theorem ke_X9_byteAt (N : Nat) (σ : CS) (x1 : Int32) : Ke (pe σ) (f_X9_byteAt N σ x1) := by
  unfold f_X9_byteAt
  exact (ke_ite (ke_X9_byteAt_30 N σ) (ke_ite (ke_X9_byteAt_30 N σ) (ke_ite (ke_X9_byteAt_30 N σ) (ke_ite (ke_some (rfl)) ke_none))))
theorem ke_X9_isDigit_16 (N : Nat) (σ : CS) : Ke (pe σ) (f_X9_isDigit_16 N σ ) := by
  unfold f_X9_isDigit_16
  exact (ke_some (rfl))
theorem ke_X9_isDigit (N : Nat) (σ : CS) (x0 : Int32) : Ke (pe σ) (f_X9_isDigit N σ x0) := by
  unfold f_X9_isDigit
  exact (ke_ite (ke_X9_isDigit_16 N σ) (ke_ite (ke_X9_isDigit_16 N σ) (ke_some (rfl))))
theorem ke_X9_takeNumber_67 (N : Nat) (σ : CS) : Ke (pe σ) (f_X9_takeNumber_67 N σ ) := by
  unfold f_X9_takeNumber_67
  exact (ke_ite (ke_some (rfl)) (ke_some (rfl)))
theorem keb_X9_takeNumber_7 (N : Nat) (K : CS → Int32 → Option (Unit × CS)) (hMK : ∀ (σ : CS) (x1 : Int32), Ke (pe σ) (K σ x1)) (σ : CS) (x1 : Int32) : Ke (pe σ) (b_X9_takeNumber_7 N K σ x1) := by
  unfold b_X9_takeNumber_7
  exact (ke_ite (ke_X9_takeNumber_67 N σ) (ke_bind (ke_X9_byteAt N σ (σ.i 42)) (fun p3 => (ke_bind (ke_X9_isDigit N p3.2 p3.1) (fun p7 => (ke_ite (ke_X9_takeNumber_67 N p7.2) (ke_bind (ke_X9_byteAt N p7.2 (p7.2.i 42)) (fun p12 => (hMK (CS.setI (CS.setI p12.2 45 ((((p7.2.i 45) * 10) + p12.1) - 48)) 42 ((p12.2.i 42) + 1)) (x1 + 1))))))))))
theorem ke_X9_takeNumber_7 (N : Nat) : ∀ (n : Nat) (σ : CS) (x1 : Int32), Ke (pe σ) (f_X9_takeNumber_7 N n σ x1)
  | 0, _, _ => ke_none
  | n+1, σ, x1 => keb_X9_takeNumber_7 N (f_X9_takeNumber_7 N n) (fun σ x1 => ke_X9_takeNumber_7 N n σ x1) σ x1
theorem ke_X9_takeNumber (N : Nat) (σ : CS) : Ke (pe σ) (f_X9_takeNumber N σ) := by
  unfold f_X9_takeNumber
  exact (ke_X9_takeNumber_7 N N (CS.setI σ 45 0) 0)
theorem ke_X9_isLetter_16 (N : Nat) (σ : CS) : Ke (pe σ) (f_X9_isLetter_16 N σ ) := by
  unfold f_X9_isLetter_16
  exact (ke_some (rfl))
theorem ke_X9_isLetter (N : Nat) (σ : CS) (x0 : Int32) : Ke (pe σ) (f_X9_isLetter N σ x0) := by
  unfold f_X9_isLetter
  exact (ke_ite (ke_X9_isLetter_16 N σ) (ke_ite (ke_X9_isLetter_16 N σ) (ke_some (rfl))))
theorem ke_X9_rowType_171 (N : Nat) (σ : CS) (x6 : Int64) : Ke (pe σ) (f_X9_rowType_171 N σ x6) := by
  unfold f_X9_rowType_171
  exact (ke_ite (ke_ite (ke_some (rfl)) (ke_some (rfl))) (ke_ite (ke_ite (ke_some (rfl)) (ke_ite (ke_some (rfl)) (ke_some (rfl)))) (ke_some (rfl))))
theorem ke_X9_rowType_153 (N : Nat) (σ : CS) (x2 : Int64) (x4 : Int32) (x6 : Int64) : Ke (pe σ) (f_X9_rowType_153 N σ x2 x4 x6) := by
  unfold f_X9_rowType_153
  exact (ke_ite (ke_X9_rowType_171 N (CS.setI σ 45 (((x2 : Int64).toInt32) + 10)) x6) (ke_X9_rowType_171 N (CS.setI σ 45 (((x2 : Int64).toInt32) + 0)) x6))
theorem ke_X9_rowType_129 (N : Nat) (σ : CS) (x2 : Int64) (x4 : Int32) : Ke (pe σ) (f_X9_rowType_129 N σ x2 x4) := by
  unfold f_X9_rowType_129
  exact (ke_ite (ke_X9_rowType_153 N σ x2 x4 (σ.l >>> ((16 : Int32).toInt64 &&& 63))) (ke_X9_rowType_153 N σ x2 x4 (σ.l >>> ((8 : Int32).toInt64 &&& 63))))
theorem ke_X9_rowType_117 (N : Nat) (σ : CS) (x2 : Int64) (x4 : Int32) (x5 : Int32) : Ke (pe σ) (f_X9_rowType_117 N σ x2 x4 x5) := by
  unfold f_X9_rowType_117
  exact (ke_ite (ke_ite (ke_some (rfl)) (ke_X9_rowType_129 N σ x2 x4)) (ke_X9_rowType_129 N σ x2 x4))
theorem ke_X9_rowType_114 (N : Nat) (σ : CS) (x2 : Int64) (x4 : Int32) : Ke (pe σ) (f_X9_rowType_114 N σ x2 x4) := by
  unfold f_X9_rowType_114
  exact (ke_X9_rowType_117 N σ x2 x4 0)
theorem ke_X9_rowType_73 (N : Nat) (σ : CS) (x1 : Int32) (x2 : Int64) (x4 : Int32) : Ke (pe σ) (f_X9_rowType_73 N σ x1 x2 x4) := by
  unfold f_X9_rowType_73
  exact (ke_ite (ke_ite (ke_X9_rowType_114 N σ x2 x4) (ke_ite (ke_X9_rowType_114 N σ x2 x4) (ke_ite (ke_X9_rowType_117 N σ x2 x4 1) (ke_X9_rowType_114 N σ x2 x4)))) (ke_X9_rowType_114 N σ x2 x4))
theorem ke_X9_rowType_70 (N : Nat) (σ : CS) (x1 : Int32) (x2 : Int64) : Ke (pe σ) (f_X9_rowType_70 N σ x1 x2) := by
  unfold f_X9_rowType_70
  exact (ke_X9_rowType_73 N σ x1 x2 0)
theorem keb_X9_rowType_2 (N : Nat) (K : CS → Int32 → Int32 → Option (Int32 × CS)) (hMK : ∀ (σ : CS) (x1 : Int32) (x2 : Int32), Ke (pe σ) (K σ x1 x2)) (σ : CS) (x1 : Int32) (x2 : Int32) : Ke (pe σ) (b_X9_rowType_2 N K σ x1 x2) := by
  unfold b_X9_rowType_2
  exact (ke_ite (ke_ite (ke_ite (ke_X9_rowType_70 N σ x1 ((σ.l &&& 255) - 48)) (ke_ite (ke_X9_rowType_70 N σ x1 ((σ.l &&& 255) - 48)) (ke_X9_rowType_73 N σ x1 ((σ.l &&& 255) - 48) 1))) (ke_X9_rowType_70 N σ x1 ((σ.l &&& 255) - 48))) (ke_ite (ke_ite (ke_some (rfl)) (hMK σ x1 (x2 + 1))) ke_none))
theorem ke_X9_rowType_2 (N : Nat) : ∀ (n : Nat) (σ : CS) (x1 : Int32) (x2 : Int32), Ke (pe σ) (f_X9_rowType_2 N n σ x1 x2)
  | 0, _, _, _ => ke_none
  | n+1, σ, x1, x2 => keb_X9_rowType_2 N (f_X9_rowType_2 N n) (fun σ x1 x2 => ke_X9_rowType_2 N n σ x1 x2) σ x1 x2
theorem ke_X9_rowType (N : Nat) (σ : CS) (x1 : Int32) : Ke (pe σ) (f_X9_rowType N σ x1) := by
  unfold f_X9_rowType
  exact (ke_X9_rowType_2 N N σ x1 0)
theorem ke_X9_takeRow_79 (N : Nat) (σ : CS) : Ke (pe σ) (f_X9_takeRow_79 N σ ) := by
  unfold f_X9_takeRow_79
  exact (ke_ite (ke_bind (ke_X9_rowType N σ ((σ.i 42) - (σ.i 44))) (fun p3 => (ke_some (rfl)))) (ke_some (rfl)))
theorem keb_X9_takeRow_7 (N : Nat) (K : CS → Int32 → Option (Unit × CS)) (hMK : ∀ (σ : CS) (x1 : Int32), Ke (pe σ) (K σ x1)) (σ : CS) (x1 : Int32) : Ke (pe σ) (b_X9_takeRow_7 N K σ x1) := by
  unfold b_X9_takeRow_7
  exact (ke_ite (ke_X9_takeRow_79 N σ) (ke_bind (ke_X9_byteAt N σ (σ.i 42)) (fun p7 => (ke_bind (ke_X9_isDigit N p7.2 p7.1) (fun p11 => (ke_ite (ke_bind (ke_X9_byteAt N p11.2 (p11.2.i 42)) (fun p20 => (ke_bind (ke_X9_isLetter N p20.2 p20.1) (fun p24 => (ke_ite (ke_X9_takeRow_79 N p24.2) (ke_bind (ke_X9_byteAt N p24.2 (p24.2.i 42)) (fun p29 => (hMK (CS.setI (CS.setL p29.2 ((p24.2.l <<< ((8 : Int32).toInt64 &&& 63)) ||| (p29.1 : Int32).toInt64)) 42 ((p29.2.i 42) + 1)) (x1 + 1))))))))) (ke_bind (ke_X9_byteAt N p11.2 (p11.2.i 42)) (fun p16 => (hMK (CS.setI (CS.setL p16.2 ((p11.2.l <<< ((8 : Int32).toInt64 &&& 63)) ||| (p16.1 : Int32).toInt64)) 42 ((p16.2.i 42) + 1)) (x1 + 1))))))))))
theorem ke_X9_takeRow_7 (N : Nat) : ∀ (n : Nat) (σ : CS) (x1 : Int32), Ke (pe σ) (f_X9_takeRow_7 N n σ x1)
  | 0, _, _ => ke_none
  | n+1, σ, x1 => keb_X9_takeRow_7 N (f_X9_takeRow_7 N n) (fun σ x1 => ke_X9_takeRow_7 N n σ x1) σ x1
theorem ke_X9_takeRow (N : Nat) (σ : CS) : Ke (pe σ) (f_X9_takeRow N σ) := by
  unfold f_X9_takeRow
  exact (ke_X9_takeRow_7 N N (CS.setL σ 0) 0)
theorem ke_X9_longSign_73 (N : Nat) (σ : CS) (x0 : Int32) (x1 : Int32) : Ke (pe σ) (f_X9_longSign_73 N σ x0 x1) := by
  unfold f_X9_longSign_73
  exact (ke_ite (ke_ite (ke_some (rfl)) (ke_ite (ke_some (rfl)) (ke_ite (ke_some (rfl)) (ke_some (rfl))))) (ke_some (rfl)))
theorem ke_X9_longSign (N : Nat) (σ : CS) (x0 : Int32) (x1 : Int32) : Ke (pe σ) (f_X9_longSign N σ x0 x1) := by
  unfold f_X9_longSign
  exact (ke_ite (ke_ite (ke_some (rfl)) (ke_ite (ke_some (rfl)) (ke_ite (ke_some (rfl)) (ke_ite (ke_some (rfl)) (ke_some (rfl)))))) (ke_ite (ke_ite (ke_some (rfl)) (ke_X9_longSign_73 N σ x0 x1)) (ke_X9_longSign_73 N σ x0 x1)))
theorem ke_X9_isSign (N : Nat) (σ : CS) (x0 : Int32) : Ke (pe σ) (f_X9_isSign N σ x0) := by
  unfold f_X9_isSign
  exact (ke_ite (ke_some (rfl)) (ke_ite (ke_some (rfl)) (ke_ite (ke_some (rfl)) (ke_ite (ke_some (rfl)) (ke_ite (ke_some (rfl)) (ke_ite (ke_some (rfl)) (ke_ite (ke_some (rfl)) (ke_ite (ke_some (rfl)) (ke_ite (ke_some (rfl)) (ke_ite (ke_some (rfl)) (ke_ite (ke_some (rfl)) (ke_ite (ke_some (rfl)) (ke_ite (ke_some (rfl)) (ke_ite (ke_some (rfl)) (ke_ite (ke_some (rfl)) (ke_ite (ke_some (rfl)) (ke_ite (ke_some (rfl)) (ke_ite (ke_some (rfl)) (ke_ite (ke_some (rfl)) (ke_some (rfl)))))))))))))))))))))
theorem ke_X9_takeSign (N : Nat) (σ : CS) : Ke (pe σ) (f_X9_takeSign N σ) := by
  unfold f_X9_takeSign
  exact (ke_bind (ke_X9_byteAt N σ (σ.i 42)) (fun p1 => (ke_bind (ke_X9_byteAt N p1.2 ((p1.2.i 42) + 1)) (fun p5 => (ke_bind (ke_X9_longSign N p5.2 p1.1 p5.1) (fun p9 => (ke_ite (ke_bind (ke_X9_isSign N (CS.setI (CS.setI p9.2 43 p9.1) 42 ((p9.2.i 42) + 1)) p1.1) (fun p14 => (ke_ite (ke_some (rfl)) (ke_some (rfl))))) (ke_some (rfl)))))))))
theorem ke_X9_advance_51 (N : Nat) (σ : CS) : Ke (pe σ) (f_X9_advance_51 N σ ) := by
  unfold f_X9_advance_51
  exact (ke_ite (ke_bind (ke_X9_byteAt N (CS.setI σ 44 (σ.i 42)) (σ.i 42)) (fun p3 => (ke_bind (ke_X9_isDigit N p3.2 p3.1) (fun p7 => (ke_ite (ke_bind (ke_X9_byteAt N p7.2 (p7.2.i 42)) (fun p12 => (ke_bind (ke_X9_isLetter N p12.2 p12.1) (fun p16 => (ke_ite (ke_bind (ke_X9_takeSign N p16.2) (fun p21 => (ke_some (rfl)))) (ke_bind (ke_X9_takeRow N p16.2) (fun p25 => (ke_some (rfl))))))))) (ke_bind (ke_X9_takeNumber N p7.2) (fun p29 => (ke_some (rfl))))))))) (ke_some (rfl)))
theorem keb_X9_advance_2 (N : Nat) (K : CS → Int32 → Option (Unit × CS)) (hMK : ∀ (σ : CS) (x1 : Int32), Ke (pe σ) (K σ x1)) (σ : CS) (x1 : Int32) : Ke (pe σ) (b_X9_advance_2 N K σ x1) := by
  unfold b_X9_advance_2
  exact (ke_ite (ke_X9_advance_51 N σ) (ke_bind (ke_X9_byteAt N σ (σ.i 42)) (fun p33 => (ke_ite (hMK (CS.setI p33.2 42 ((p33.2.i 42) + 1)) (x1 + 1)) (ke_bind (ke_X9_byteAt N p33.2 (p33.2.i 42)) (fun p38 => (ke_ite (hMK (CS.setI p38.2 42 ((p38.2.i 42) + 1)) (x1 + 1)) (ke_X9_advance_51 N p38.2))))))))
theorem ke_X9_advance_2 (N : Nat) : ∀ (n : Nat) (σ : CS) (x1 : Int32), Ke (pe σ) (f_X9_advance_2 N n σ x1)
  | 0, _, _ => ke_none
  | n+1, σ, x1 => keb_X9_advance_2 N (f_X9_advance_2 N n) (fun σ x1 => ke_X9_advance_2 N n σ x1) σ x1
theorem ke_X9_advance (N : Nat) (σ : CS) : Ke (pe σ) (f_X9_advance N σ) := by
  unfold f_X9_advance
  exact (ke_X9_advance_2 N N σ 0)
theorem ke_X1_skip_17 (N : Nat) (σ : CS) (x2 : Int32) : Ke (pe σ) (f_X1_skip_17 N σ x2) := by
  unfold f_X1_skip_17
  exact (ke_ite (ke_some (rfl)) ke_none)
theorem ke_X1_skip (N : Nat) (σ : CS) (x1 : Int32) : Ke (pe σ) (f_X1_skip N σ x1) := by
  unfold f_X1_skip
  exact (ke_bind (ke_X1_found N σ x1) (fun p1 => (ke_ite (ke_X1_skip_17 N p1.2 p1.1) (ke_bind (ke_X9_advance N p1.2) (fun p7 => (ke_X1_skip_17 N p7.2 p1.1))))))
theorem ke_X1_expect (N : Nat) (σ : CS) (x1 : Int32) : Ke (pe σ) (f_X1_expect N σ x1) := by
  unfold f_X1_expect
  exact (ke_bind (ke_X1_found N σ x1) (fun p1 => (ke_ite (ke_bind (ke_X1_misplaced N p1.2) (fun p6 => (ke_some (rfl)))) (ke_bind (ke_X9_advance N p1.2) (fun p10 => (ke_some (rfl)))))))
theorem ke_X1_open (N : Nat) (σ : CS) (x1 : Int32) : Ke (pe σ) (f_X1_open N σ x1) := by
  unfold f_X1_open
  exact (ke_bind (ke_X1_found N σ x1) (fun p1 => (ke_ite (ke_bind (ke_X1_misplaced N p1.2) (fun p15 => (ke_some (rfl)))) (ke_ite (ke_bind (ke_X9_advance N (CS.setI p1.2 34 ((p1.2.i 34) + 1))) (fun p7 => (ke_some (rfl)))) (ke_bind (ke_X1_fail N p1.2 6 (p1.2.i 44)) (fun p11 => (ke_some (rfl))))))))
theorem ke_X1_close_22 (N : Nat) (σ : CS) : Ke (pe σ) (f_X1_close_22 N σ ) := by
  unfold f_X1_close_22
  exact (ke_some (rfl))
theorem ke_X1_close (N : Nat) (σ : CS) (x1 : Int32) : Ke (pe σ) (f_X1_close N σ x1) := by
  unfold f_X1_close
  exact (ke_bind (ke_X1_found N σ x1) (fun p1 => (ke_ite (ke_bind (ke_X1_misplaced N p1.2) (fun p6 => (ke_X1_close_22 N p6.2))) (ke_bind (ke_X9_advance N p1.2) (fun p10 => (ke_X1_close_22 N p10.2))))))
theorem ke_X4_find_38 (N : Nat) (σ : CS) : Ke (pe σ) (f_X4_find_38 N σ ) := by
  unfold f_X4_find_38
  exact (ke_some (rfl))
theorem keb_X4_find_2 (N : Nat) (K : CS → Int64 → Int32 → Option (Int32 × CS)) (hMK : ∀ (σ : CS) (x1 : Int64) (x3 : Int32), Ke (pe σ) (K σ x1 x3)) (σ : CS) (x1 : Int64) (x3 : Int32) : Ke (pe σ) (b_X4_find_2 N K σ x1 x3) := by
  unfold b_X4_find_2
  exact (ke_ite (ke_X4_find_38 N σ) (ke_ite (ke_X4_find_38 N σ) (ke_ite (ke_ite (ke_some (rfl)) (hMK σ x1 (x3 + 1))) ke_none)))
theorem ke_X4_find_2 (N : Nat) : ∀ (n : Nat) (σ : CS) (x1 : Int64) (x3 : Int32), Ke (pe σ) (f_X4_find_2 N n σ x1 x3)
  | 0, _, _, _ => ke_none
  | n+1, σ, x1, x3 => keb_X4_find_2 N (f_X4_find_2 N n) (fun σ x1 x3 => ke_X4_find_2 N n σ x1 x3) σ x1 x3
theorem ke_X4_find (N : Nat) (σ : CS) (x1 : Int64) : Ke (pe σ) (f_X4_find N σ x1) := by
  unfold f_X4_find
  exact (ke_X4_find_2 N N σ x1 0)
theorem ke_X4_cellOf (N : Nat) (σ : CS) (x1 : Int32) : Ke (pe σ) (f_X4_cellOf N σ x1) := by
  unfold f_X4_cellOf
  exact (ke_some (rfl))
theorem ke_X5_init (N : Nat) (σ : CS) (x0 : Nat) : Ke (pe σ) (f_X5_init N σ x0) := by
  unfold f_X5_init
  exact (ke_some (rfl))
theorem ke_X6_push_48 (N : Nat) (σ : CS) (x1 : Int32) (x2 : Int32) (x3 : Int32) (x4 : Int32) (x5 : Nat) : Ke (pe σ) (f_X6_push_48 N σ x1 x2 x3 x4 x5) := by
  unfold f_X6_push_48
  exact (ke_ite (ke_some (rfl)) ke_none)
theorem ke_X6_push (N : Nat) (σ : CS) (x1 : Int32) (x2 : Int32) (x3 : Int32) : Ke (pe σ) (f_X6_push N σ x1 x2 x3) := by
  unfold f_X6_push
  exact (ke_ite (ke_oc (ke_le (rfl) (ke_bind (ke_X5_init N (CS.new σ 0) (CS.hs σ)) (fun p5 => (ke_ite (ke_ite (ke_X6_push_48 N (CS.setR p5.2 51 (((if (399 : Int32) < (σ.i 53) then (399 : Int32) else (σ.i 53)) : Int32).toNatClampNeg) (some (CS.hs σ))) x1 x2 x3 (if (399 : Int32) < (σ.i 53) then (399 : Int32) else (σ.i 53)) (CS.hs σ)) ke_none) ke_none)))) (fun a3 => (ke_X6_push_48 N σ x1 x2 x3 (if (399 : Int32) < (σ.i 53) then (399 : Int32) else (σ.i 53)) a3))) ke_none)
theorem ke_X6_row_30 (N : Nat) (σ : CS) : Ke (pe σ) (f_X6_row_30 N σ ) := by
  unfold f_X6_row_30
  exact (ke_some (rfl))
theorem ke_X6_row (N : Nat) (σ : CS) (x1 : Int32) : Ke (pe σ) (f_X6_row N σ x1) := by
  unfold f_X6_row
  exact (ke_ite (ke_X6_row_30 N σ) (ke_ite (ke_X6_row_30 N σ) (ke_ite (ke_X6_row_30 N σ) (ke_ite (ke_oc (ke_some (rfl)) (fun a6 => (ke_some (rfl)))) ke_none))))
theorem ke_X5_isLoop_40 (N : Nat) (σ : CS) : Ke (pe σ) (f_X5_isLoop_40 N σ ) := by
  unfold f_X5_isLoop_40
  exact (ke_some (rfl))
theorem ke_X5_isLoop (N : Nat) (σ : CS) (x0 : Nat) : Ke (pe σ) (f_X5_isLoop N σ x0) := by
  unfold f_X5_isLoop
  exact (ke_ite (ke_ite (ke_X5_isLoop_40 N σ) (ke_ite (ke_X5_isLoop_40 N σ) (ke_ite (ke_X5_isLoop_40 N σ) (ke_ite (ke_X5_isLoop_40 N σ) (ke_some (rfl)))))) ke_none)
theorem ke_X5_hasOneBody_37 (N : Nat) (σ : CS) : Ke (pe σ) (f_X5_hasOneBody_37 N σ ) := by
  unfold f_X5_hasOneBody_37
  exact (ke_some (rfl))
theorem ke_X5_hasOneBody (N : Nat) (σ : CS) (x0 : Nat) : Ke (pe σ) (f_X5_hasOneBody N σ x0) := by
  unfold f_X5_hasOneBody
  exact (ke_ite (ke_bind (ke_X5_isLoop N σ x0) (fun p3 => (ke_ite (ke_ite (ke_ite (ke_X5_hasOneBody_37 N p3.2) (ke_ite (ke_X5_hasOneBody_37 N p3.2) (ke_ite (ke_X5_hasOneBody_37 N p3.2) (ke_some (rfl))))) ke_none) (ke_X5_hasOneBody_37 N p3.2)))) ke_none)
theorem ke_X6_pop (N : Nat) (σ : CS) : Ke (pe σ) (f_X6_pop N σ) := by
  unfold f_X6_pop
  exact (ke_some (rfl))
theorem ke_X6_jumpTo (N : Nat) (σ : CS) (x0 : Nat) (x1 : Int32) : Ke (pe σ) (f_X6_jumpTo N σ x0 x1) := by
  unfold f_X6_jumpTo
  exact (ke_ite (ke_ite (ke_some (rfl)) (ke_some (rfl))) ke_none)
theorem keb_X6_isGoneTo_5 (N : Nat) (K : CS → Nat → Int32 → Int32 → Option (Int32 × CS)) (hMK : ∀ (σ : CS) (x1 : Nat) (x2 : Int32) (x3 : Int32), Ke (pe σ) (K σ x1 x2 x3)) (σ : CS) (x1 : Nat) (x2 : Int32) (x3 : Int32) : Ke (pe σ) (b_X6_isGoneTo_5 N K σ x1 x2 x3) := by
  unfold b_X6_isGoneTo_5
  exact (ke_ite (ke_some (rfl)) (ke_bind (ke_X6_jumpTo N σ x1 x2) (fun p4 => (ke_ite (ke_some (rfl)) (hMK p4.2 x1 x2 (x3 + 1))))))
theorem ke_X6_isGoneTo_5 (N : Nat) : ∀ (n : Nat) (σ : CS) (x1 : Nat) (x2 : Int32) (x3 : Int32), Ke (pe σ) (f_X6_isGoneTo_5 N n σ x1 x2 x3)
  | 0, _, _, _, _ => ke_none
  | n+1, σ, x1, x2, x3 => keb_X6_isGoneTo_5 N (f_X6_isGoneTo_5 N n) (fun σ x1 x2 x3 => ke_X6_isGoneTo_5 N n σ x1 x2 x3) σ x1 x2 x3
theorem ke_X6_isGoneTo (N : Nat) (σ : CS) (x1 : Nat) (x2 : Int32) : Ke (pe σ) (f_X6_isGoneTo N σ x1 x2) := by
  unfold f_X6_isGoneTo
  exact (ke_ite (ke_X6_isGoneTo_5 N N σ x1 x2 (CS.o σ x1 14)) ke_none)
theorem ke_X7_notReached (N : Nat) (σ : CS) (x1 : Int32) : Ke (pe σ) (f_X7_notReached N σ x1) := by
  unfold f_X7_notReached
  exact (ke_ite (ke_some (rfl)) (ke_some (rfl)))
theorem ke_X4_isCaught (N : Nat) (σ : CS) (x1 : Int32) : Ke (pe σ) (f_X4_isCaught N σ x1) := by
  unfold f_X4_isCaught
  exact (ke_ite (ke_some (rfl)) (ke_some (rfl)))
theorem keb_X6_labelled_7 (N : Nat) (K : CS → Int64 → Int32 → Option (Int32 × CS)) (hMK : ∀ (σ : CS) (x1 : Int64) (x3 : Int32), Ke (pe σ) (K σ x1 x3)) (σ : CS) (x1 : Int64) (x3 : Int32) : Ke (pe σ) (b_X6_labelled_7 N K σ x1 x3) := by
  unfold b_X6_labelled_7
  exact (ke_ite (ke_some (rfl)) (ke_bind (ke_X6_row N σ x3) (fun p2 => (ke_oc (hMK p2.2 x1 (x3 + (-1))) (fun a7 => (ke_ite (ke_ite (ke_ite (ke_some (rfl)) (hMK p2.2 x1 (x3 + (-1)))) (hMK p2.2 x1 (x3 + (-1)))) ke_none))))))
theorem ke_X6_labelled_7 (N : Nat) : ∀ (n : Nat) (σ : CS) (x1 : Int64) (x3 : Int32), Ke (pe σ) (f_X6_labelled_7 N n σ x1 x3)
  | 0, _, _, _ => ke_none
  | n+1, σ, x1, x3 => keb_X6_labelled_7 N (f_X6_labelled_7 N n) (fun σ x1 x3 => ke_X6_labelled_7 N n σ x1 x3) σ x1 x3
theorem ke_X6_labelled (N : Nat) (σ : CS) (x1 : Int64) : Ke (pe σ) (f_X6_labelled N σ x1) := by
  unfold f_X6_labelled
  exact (ke_X6_labelled_7 N N σ x1 ((σ.i 53) - 1))
theorem ke_X7_newName_56 (N : Nat) (σ : CS) (x1 : Int64) : Ke (pe σ) (f_X7_newName_56 N σ x1) := by
  unfold f_X7_newName_56
  exact (ke_some (rfl))
theorem ke_X7_newName (N : Nat) (σ : CS) : Ke (pe σ) (f_X7_newName N σ) := by
  unfold f_X7_newName
  exact (ke_bind (ke_X1_found N σ 2) (fun p1 => (ke_ite (ke_bind (ke_X1_misplaced N p1.2) (fun p19 => (ke_X7_newName_56 N p19.2 σ.l))) (ke_bind (ke_X4_find N p1.2 σ.l) (fun p6 => (ke_ite (ke_bind (ke_X9_advance N p6.2) (fun p11 => (ke_X7_newName_56 N p11.2 σ.l))) (ke_bind (ke_X1_fail N p6.2 4 (p6.2.i 44)) (fun p15 => (ke_X7_newName_56 N p15.2 σ.l)))))))))
theorem ke_X4_add (N : Nat) (σ : CS) (x1 : Int64) (x3 : Int32) (x4 : Int32) : Ke (pe σ) (f_X4_add N σ x1 x3 x4) := by
  unfold f_X4_add
  exact (ke_ite (ke_some (rfl)) (ke_ite (ke_some (rfl)) ke_none))
theorem ke_X6_loopBehind_47 (N : Nat) (σ : CS) : Ke (pe σ) (f_X6_loopBehind_47 N σ ) := by
  unfold f_X6_loopBehind_47
  exact (ke_some (rfl))
theorem ke_X6_loopBehind_32 (N : Nat) (σ : CS) (x2 : Int32) (x3 : Option Nat) : Ke (pe σ) (f_X6_loopBehind_32 N σ x2 x3) := by
  unfold f_X6_loopBehind_32
  exact (ke_oc (ke_X6_loopBehind_47 N σ) (fun a9 => (ke_ite (ke_bind (ke_X5_isLoop N σ a9) (fun p12 => (ke_ite (ke_X6_loopBehind_47 N p12.2) (ke_some (rfl))))) ke_none)))
theorem keb_X6_loopBehind_4 (N : Nat) (K : CS → Int32 → Option (Int32 × CS)) (hMK : ∀ (σ : CS) (x2 : Int32), Ke (pe σ) (K σ x2)) (σ : CS) (x2 : Int32) : Ke (pe σ) (b_X6_loopBehind_4 N K σ x2) := by
  unfold b_X6_loopBehind_4
  exact (ke_ite (ke_some (rfl)) (ke_bind (ke_X6_row N σ x2) (fun p2 => (ke_oc (ke_X6_loopBehind_32 N p2.2 x2 none) (fun a7 => (ke_ite (ke_ite (hMK p2.2 (x2 + 1)) (ke_X6_loopBehind_32 N p2.2 x2 (some a7))) ke_none))))))
theorem ke_X6_loopBehind_4 (N : Nat) : ∀ (n : Nat) (σ : CS) (x2 : Int32), Ke (pe σ) (f_X6_loopBehind_4 N n σ x2)
  | 0, _, _ => ke_none
  | n+1, σ, x2 => keb_X6_loopBehind_4 N (f_X6_loopBehind_4 N n) (fun σ x2 => ke_X6_loopBehind_4 N n σ x2) σ x2
theorem ke_X6_loopBehind (N : Nat) (σ : CS) (x1 : Int32) : Ke (pe σ) (f_X6_loopBehind N σ x1) := by
  unfold f_X6_loopBehind
  exact (ke_X6_loopBehind_4 N N σ (x1 + 1))
theorem ke_X7_labelTarget_63 (N : Nat) (σ : CS) (x2 : Int32) : Ke (pe σ) (f_X7_labelTarget_63 N σ x2) := by
  unfold f_X7_labelTarget_63
  exact (ke_bind (ke_X9_advance N σ) (fun p7 => (ke_some (rfl))))
theorem ke_X7_labelTarget (N : Nat) (σ : CS) (x1 : Int32) : Ke (pe σ) (f_X7_labelTarget N σ x1) := by
  unfold f_X7_labelTarget
  exact (ke_bind (ke_X6_labelled N σ σ.l) (fun p1 => (ke_ite (ke_ite (ke_X7_labelTarget_63 N p1.2 p1.1) (ke_bind (ke_X6_loopBehind N p1.2 p1.1) (fun p11 => (ke_ite (ke_X7_labelTarget_63 N p11.2 p11.1) (ke_bind (ke_X1_fail N p11.2 5 (p11.2.i 44)) (fun p16 => (ke_X7_labelTarget_63 N p16.2 p11.1))))))) (ke_bind (ke_X1_fail N p1.2 3 (p1.2.i 44)) (fun p20 => (ke_X7_labelTarget_63 N p20.2 p1.1))))))
theorem ke_X6_nearest_46 (N : Nat) (σ : CS) (x2 : Int32) : Ke (pe σ) (f_X6_nearest_46 N σ x2) := by
  unfold f_X6_nearest_46
  exact (ke_some (rfl))
theorem keb_X6_nearest_7 (N : Nat) (K : CS → Int32 → Int32 → Option (Int32 × CS)) (hMK : ∀ (σ : CS) (x1 : Int32) (x2 : Int32), Ke (pe σ) (K σ x1 x2)) (σ : CS) (x1 : Int32) (x2 : Int32) : Ke (pe σ) (b_X6_nearest_7 N K σ x1 x2) := by
  unfold b_X6_nearest_7
  exact (ke_ite (ke_some (rfl)) (ke_bind (ke_X6_row N σ x2) (fun p2 => (ke_oc (hMK p2.2 x1 (x2 + (-1))) (fun a7 => (ke_ite (ke_bind (ke_X5_isLoop N p2.2 a7) (fun p10 => (ke_ite (ke_ite (ke_ite (ke_ite (ke_X6_nearest_46 N p10.2 x2) (hMK p10.2 x1 (x2 + (-1)))) ke_none) (hMK p10.2 x1 (x2 + (-1)))) (ke_X6_nearest_46 N p10.2 x2)))) ke_none))))))
theorem ke_X6_nearest_7 (N : Nat) : ∀ (n : Nat) (σ : CS) (x1 : Int32) (x2 : Int32), Ke (pe σ) (f_X6_nearest_7 N n σ x1 x2)
  | 0, _, _, _ => ke_none
  | n+1, σ, x1, x2 => keb_X6_nearest_7 N (f_X6_nearest_7 N n) (fun σ x1 x2 => ke_X6_nearest_7 N n σ x1 x2) σ x1 x2
theorem ke_X6_nearest (N : Nat) (σ : CS) (x1 : Int32) : Ke (pe σ) (f_X6_nearest N σ x1) := by
  unfold f_X6_nearest
  exact (ke_X6_nearest_7 N N σ x1 ((σ.i 53) - 1))
theorem ke_X6_addJump (N : Nat) (σ : CS) (x1 : Nat) (x2 : Int32) : Ke (pe σ) (f_X6_addJump N σ x1 x2) := by
  unfold f_X6_addJump
  exact (ke_bind (ke_X6_jumpTo N σ x1 x2) (fun p1 => (ke_some (rfl))))
theorem ke_X7_jump_129 (N : Nat) (σ : CS) : Ke (pe σ) (f_X7_jump_129 N σ ) := by
  unfold f_X7_jump_129
  exact (ke_some (rfl))
theorem ke_X10_isKind_16 (N : Nat) (σ : CS) : Ke (pe σ) (f_X10_isKind_16 N σ ) := by
  unfold f_X10_isKind_16
  exact (ke_some (rfl))
theorem ke_X10_isKind (N : Nat) (σ : CS) (x1 : Int32) : Ke (pe σ) (f_X10_isKind N σ x1) := by
  unfold f_X10_isKind
  exact (ke_ite (ke_X10_isKind_16 N σ) (ke_ite (ke_X10_isKind_16 N σ) (ke_some (rfl))))
theorem ke_X4_frameOf (N : Nat) (σ : CS) (x1 : Int32) : Ke (pe σ) (f_X4_frameOf N σ x1) := by
  unfold f_X4_frameOf
  exact (ke_some (rfl))
theorem ke_X7_pushLoop (N : Nat) (σ : CS) (x1 : Int32) (x2 : Int32) (x3 : Int32) : Ke (pe σ) (f_X7_pushLoop N σ x1 x2 x3) := by
  unfold f_X7_pushLoop
  exact (ke_bind (ke_X6_push N σ x1 (σ.i 38) (σ.i 50)) (fun p1 => (ke_oc ke_none (fun a6 => (ke_ite (ke_some (rfl)) ke_none)))))
theorem ke_X7_beginTry_132 (N : Nat) (σ : CS) : Ke (pe σ) (f_X7_beginTry_132 N σ ) := by
  unfold f_X7_beginTry_132
  exact (ke_bind (ke_X1_open N σ 123) (fun p40 => (ke_some (rfl))))
theorem ke_X10_isUnder_38 (N : Nat) (σ : CS) : Ke (pe σ) (f_X10_isUnder_38 N σ ) := by
  unfold f_X10_isUnder_38
  exact (ke_some (rfl))
theorem keb_X10_isUnder_5 (N : Nat) (K : CS → Int32 → Int32 → Int32 → Option (Int32 × CS)) (hMK : ∀ (σ : CS) (x2 : Int32) (x3 : Int32) (x4 : Int32), Ke (pe σ) (K σ x2 x3 x4)) (σ : CS) (x2 : Int32) (x3 : Int32) (x4 : Int32) : Ke (pe σ) (b_X10_isUnder_5 N K σ x2 x3 x4) := by
  unfold b_X10_isUnder_5
  exact (ke_ite (ke_X10_isUnder_38 N σ) (ke_ite (ke_X10_isUnder_38 N σ) (ke_ite (ke_some (rfl)) (hMK σ x2 (gAt (σ.a 9) 12 x3) (x4 + 1)))))
theorem ke_X10_isUnder_5 (N : Nat) : ∀ (n : Nat) (σ : CS) (x2 : Int32) (x3 : Int32) (x4 : Int32), Ke (pe σ) (f_X10_isUnder_5 N n σ x2 x3 x4)
  | 0, _, _, _, _ => ke_none
  | n+1, σ, x2, x3, x4 => keb_X10_isUnder_5 N (f_X10_isUnder_5 N n) (fun σ x2 x3 x4 => ke_X10_isUnder_5 N n σ x2 x3 x4) σ x2 x3 x4
theorem ke_X10_isUnder (N : Nat) (σ : CS) (x1 : Int32) (x2 : Int32) : Ke (pe σ) (f_X10_isUnder N σ x1 x2) := by
  unfold f_X10_isUnder
  exact (ke_X10_isUnder_5 N N σ x2 x1 0)
theorem ke_X7_endSwitch_99 (N : Nat) (σ : CS) : Ke (pe σ) (f_X7_endSwitch_99 N σ ) := by
  unfold f_X7_endSwitch_99
  exact (ke_bind (ke_X6_pop N σ) (fun p23 => (ke_some (rfl))))
theorem ke_X7_endGuarded_66 (N : Nat) (σ : CS) (x1 : Nat) : Ke (pe σ) (f_X7_endGuarded_66 N σ x1) := by
  unfold f_X7_endGuarded_66
  exact (ke_ite (ke_some (rfl)) ke_none)
theorem keb_X6_loseJumps_2 (N : Nat) (K : CS → Int32 → Int32 → Option (Unit × CS)) (hMK : ∀ (σ : CS) (x2 : Int32) (x3 : Int32), Ke (pe σ) (K σ x2 x3)) (σ : CS) (x2 : Int32) (x3 : Int32) : Ke (pe σ) (b_X6_loseJumps_2 N K σ x2 x3) := by
  unfold b_X6_loseJumps_2
  exact (ke_ite (ke_some (rfl)) (hMK (CS.putA σ 52 (gPut (σ.a 52) 160 x3 0)) x2 (x3 + 1)))
theorem ke_X6_loseJumps_2 (N : Nat) : ∀ (n : Nat) (σ : CS) (x2 : Int32) (x3 : Int32), Ke (pe σ) (f_X6_loseJumps_2 N n σ x2 x3)
  | 0, _, _, _ => ke_none
  | n+1, σ, x2, x3 => keb_X6_loseJumps_2 N (f_X6_loseJumps_2 N n) (fun σ x2 x3 => ke_X6_loseJumps_2 N n σ x2 x3) σ x2 x3
theorem ke_X6_loseJumps (N : Nat) (σ : CS) (x1 : Int32) (x2 : Int32) : Ke (pe σ) (f_X6_loseJumps N σ x1 x2) := by
  unfold f_X6_loseJumps
  exact (ke_X6_loseJumps_2 N N σ x2 x1)
theorem ke_X1_comparing (N : Nat) (σ : CS) (x0 : Int32) : Ke (pe σ) (f_X1_comparing N σ x0) := by
  unfold f_X1_comparing
  exact (ke_ite (ke_some (rfl)) (ke_ite (ke_some (rfl)) (ke_ite (ke_some (rfl)) (ke_ite (ke_some (rfl)) (ke_ite (ke_some (rfl)) (ke_ite (ke_some (rfl)) (ke_some (rfl))))))))
theorem ke_X2_init (N : Nat) (σ : CS) (x0 : Nat) : Ke (pe σ) (f_X2_init N σ x0) := by
  unfold f_X2_init
  exact (ke_some (rfl))
theorem ke_X6_clear (N : Nat) (σ : CS) : Ke (pe σ) (f_X6_clear N σ) := by
  unfold f_X6_clear
  exact (ke_some (rfl))
theorem ke_X9_start (N : Nat) (σ : CS) (x1 : Int32) : Ke (pe σ) (f_X9_start N σ x1) := by
  unfold f_X9_start
  exact (ke_bind (ke_X9_advance N (CS.setI (CS.setI σ 41 x1) 42 0)) (fun p1 => (ke_some (rfl))))
theorem ke_X10_isFull (N : Nat) (σ : CS) : Ke (pe σ) (f_X10_isFull N σ) := by
  unfold f_X10_isFull
  exact (ke_ite (ke_some (rfl)) (ke_some (rfl)))
theorem ke_X10_addKind (N : Nat) (σ : CS) (x1 : Int32) : Ke (pe σ) (f_X10_addKind N σ x1) := by
  unfold f_X10_addKind
  exact (ke_some (rfl))
theorem ke_X10_tellResource (N : Nat) (σ : CS) (x1 : Int32) (x2 : Int32) (x3 : Int32) (x4 : Int32) : Ke (pe σ) (f_X10_tellResource N σ x1 x2 x3 x4) := by
  unfold f_X10_tellResource
  exact (ke_some (rfl))
