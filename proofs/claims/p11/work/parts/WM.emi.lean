/-! the reference: an instruction more -/
def QJT2 : Type := QJT × (Int32 × Int32 × Int32 × Int32 × Int32 × Int32 × Int32 × Int32) × Int64
def qj2 (s : RS) : QJT2 := (qj s, (RS.i s 10, RS.i s 11, RS.i s 12, RS.i s 14, RS.i s 15, RS.i s 16, RS.i s 17, RS.i s 19), RS.l s)
theorem kq_emit {N : Nat} {s : RS} {o x : Int32} {V : Int32 × RS} (h : f_X12_emit N s o x = some V) : qj2 V.2 = qj2 s ∧ ((0 ≤ (s.i 20).toInt ∧ (s.i 20).toInt < 3000) → V.1 = s.i 20 ∧ (V.2.i 20).toInt = (s.i 20).toInt + 1 ∧ ∀ j : Nat, (j : Int) < (s.i 20).toInt → V.2.a 22 j = s.a 22 j) := by
  have e3 : (3000 : Int32).toInt = 3000 := by decide
  unfold f_X12_emit f_X12_emit_21 at h
  by_cases c : (3000 : Int32) ≤ s.i 20
  · rw [if_pos c] at h
    obtain ⟨-, h⟩ := hf_ite h
    cases h
    refine ⟨rfl, fun q => ?_⟩
    have := le_int c
    omega
  · rw [if_neg c] at h
    obtain ⟨hib, h⟩ := hf_ite h
    cases h
    refine ⟨rfl, fun q => ⟨rfl, ?_, fun j hj => ?_⟩⟩
    · show (s.i 20 + 1).toInt = (s.i 20).toInt + 1
      exact ad1 q.1 (by omega)
    · have ck := clampI hib.1
      show upd (s.a 22) (s.i 20).toNatClampNeg x j = s.a 22 j
      exact if_neg (by omega)
