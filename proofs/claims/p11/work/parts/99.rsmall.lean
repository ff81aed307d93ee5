/-! the reader's small methods -/
theorem e_fail {N : Nat} {σ : RS} {x y : Int32} : f_X12_fail N σ x y = some (if σ.i 15 = 0 then (σ.setI 15 x).setI 16 y else σ) := by
  unfold f_X12_fail
  by_cases c : σ.i 15 = 0
  · rw [if_pos c, if_pos c]
  · rw [if_neg c, if_neg c]
theorem e_note {N : Nat} {σ : RS} {x : Int32} : f_X12_note N σ x = some (if σ.i 15 = 0 ∧ ¬ 0 ≤ σ.i 18 then σ.setI 18 x else σ) := by
  unfold f_X12_note
  by_cases c : σ.i 15 = 0
  · rw [if_pos c]
    by_cases d : 0 ≤ σ.i 18
    · rw [if_pos d, if_neg (fun h => h.2 d)]
    · rw [if_neg d, if_pos ⟨c, d⟩]
  · rw [if_neg c, if_neg (fun h => c h.1)]
/-- a fault is there: number not 0, its place -/
def FLT (s : RS) (x : Int32) : RS := (s.setI 15 x).setI 16 (s.i 11)
theorem e_can {N : Nat} {σ : RS} {x : Int32} : f_X12_can N σ x = some (if ¬ σ.i 15 = 0 then (0, σ) else if x = 0 ∨ σ.i 10 = 6 then (0, FLT σ (if σ.i 10 = 6 then 1 else 2)) else (1, σ)) := by
  unfold f_X12_can f_X12_can_20 f_X12_can_42
  by_cases c : σ.i 15 = 0
  · have h1 : ∀ v : Int32, v ≠ 0 → (f_X12_fail N σ v (σ.i 11)).bind (fun p => if p.i 15 = 0 then some ((1 : Int32), p) else some (0, p)) = some (0, FLT σ v) := by
      intro v hv
      rw [e_fail, if_pos c]
      show (if ((σ.setI 15 v).setI 16 (σ.i 11)).i 15 = 0 then some ((1 : Int32), _) else some (0, _)) = _
      exact if_neg hv
    by_cases d : x = 0 <;> by_cases g : σ.i 10 = 6
    · rw [if_pos c, if_pos d, if_pos g, h1 1 (by decide)]; simp [c, d, g]
    · rw [if_pos c, if_pos d, if_neg g, h1 2 (by decide)]; simp [c, d, g]
    · rw [if_pos c, if_neg d, if_pos g, if_pos g, h1 1 (by decide)]; simp [c, d, g]
    · rw [if_pos c, if_neg d, if_neg g, if_pos c]; simp [c, d, g]
  · rw [if_neg c, if_neg c]; simp [c]
theorem e_emit {N : Nat} {σ : RS} {o x : Int32} (h0 : 0 ≤ σ.i 20) (h3 : σ.i 20 < 3000) : f_X12_emit N σ o x = some (σ.i 20, (((σ.setA 21 (σ.i 20).toNatClampNeg o).setA 22 (σ.i 20).toNatClampNeg x).setA 23 (σ.i 20).toNatClampNeg 0).setI 20 (σ.i 20 + 1)) := by
  unfold f_X12_emit f_X12_emit_21
  rw [if_neg (by grind), if_pos (ib_of (m := 3000) (by decide) h0 h3)]
