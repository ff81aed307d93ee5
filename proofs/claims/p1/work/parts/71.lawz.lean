theorem z_lcmp (x : Int64) : lg_cmp x x = 0 := by
  unfold lg_cmp
  rw [if_neg (by intro h; exact absurd (Int64.lt_iff_toInt_lt.mp h) (Int.lt_irrefl _)), if_pos rfl]
theorem z_ti (k : Int32) (n : Int) (h : k.toInt = n) (x : Int32) : (k ≤ x ↔ n ≤ x.toInt) ∧ (x ≤ k ↔ x.toInt ≤ n) ∧ (k < x ↔ n < x.toInt) ∧ (x < k ↔ x.toInt < n) := by
  rw [← h]
  exact ⟨Int32.le_iff_toInt_le, Int32.le_iff_toInt_le, Int32.lt_iff_toInt_lt, Int32.lt_iff_toInt_lt⟩
theorem z_43 (x : Int32) : (¬ 4 ≤ x) = (¬ 3 < x) := by
  rw [(z_ti 4 4 (by decide) x).1, (z_ti 3 3 (by decide) x).2.2.1]
  exact propext ⟨fun h => by omega, fun h => by omega⟩
theorem z_87 (x : Int32) : (¬ 8 ≤ x) = (¬ 7 < x) := by
  rw [(z_ti 8 8 (by decide) x).1, (z_ti 7 7 (by decide) x).2.2.1]
  exact propext ⟨fun h => by omega, fun h => by omega⟩
theorem z_le3 (x : Int32) : (x ≤ 3) = (¬ 3 < x) := propext Int32.not_lt.symm
theorem z_le6 (x : Int32) : (x ≤ 6) = (¬ 6 < x) := propext Int32.not_lt.symm
theorem z_le1 (x : Int32) : (x ≤ 1) = (¬ 1 < x) := propext Int32.not_lt.symm
theorem z_kn (x : Int32) : (x = -1 ∨ (¬ x < 0 ∧ ¬ 4 ≤ x)) = (¬ x < (-1) ∧ ¬ 3 < x) := by
  have e1 : (-1 : Int32).toInt = -1 := by decide
  rw [(z_ti 4 4 (by decide) x).1, (z_ti 3 3 (by decide) x).2.2.1, (z_ti 0 0 (by decide) x).2.2.2, (z_ti (-1) (-1) e1 x).2.2.2]
  have e2 : (x = -1) ↔ x.toInt = -1 := ⟨fun h => by rw [h]; exact e1, fun h => Int32.toInt_inj.mp (h.trans e1.symm)⟩
  rw [e2]
  exact propext ⟨fun h => by omega, fun h => by omega⟩
theorem z_res (x y o k : Int32) : (¬ x < 0 ∧ ¬ 8 ≤ x ∧ ¬ y < 0 ∧ y ≤ 1 ∧ (o = -1 ∨ (¬ o < 0 ∧ ¬ 4 ≤ o)) ∧ (k = -1 ∨ (¬ k < 0 ∧ ¬ 4 ≤ k))) = ((¬ x < 0 ∧ ¬ 7 < x) ∧ (¬ y < 0 ∧ ¬ 1 < y) ∧ (¬ o < (-1) ∧ ¬ 3 < o) ∧ (¬ k < (-1) ∧ ¬ 3 < k)) := by
  rw [z_87, z_le1, z_kn, z_kn]
  exact propext ⟨fun h => ⟨⟨h.1, h.2.1⟩, ⟨h.2.2.1, h.2.2.2.1⟩, h.2.2.2.2.1, h.2.2.2.2.2⟩, fun h => ⟨h.1.1, h.1.2, h.2.1.1, h.2.1.2, h.2.2.1, h.2.2.2⟩⟩
