/-! both readers: the numbers of a switch -/
/-- the entries of a switch, from the first on -/
def chn (s : RS) : Int32 → List Nat → Prop
  | k, [] => k.toInt < 0
  | k, j :: L => k.toInt = (j : Int) ∧ (j : Int) < (s.i 24).toInt ∧ (∀ i ∈ L, j < i) ∧ chn s (s.a 27 j) L
theorem chn.up {s u : RS} (h24 : (s.i 24).toInt ≤ (u.i 24).toInt) (h27 : ∀ j : Nat, (j : Int) < (s.i 24).toInt → u.a 27 j = s.a 27 j) : ∀ (L : List Nat) (k : Int32), chn s k L → chn u k L
  | [], _, h => h
  | j :: L, k, h => ⟨h.1, by have := h.2.1; omega, h.2.2.1, by rw [h27 j h.2.1]; exact chn.up h24 h27 L _ h.2.2.2⟩
theorem chn.lt {s : RS} : ∀ (L : List Nat) (k : Int32), chn s k L → ∀ j ∈ L, (j : Int) < (s.i 24).toInt
  | [], _, _, j, hj => absurd hj List.not_mem_nil
  | a :: L, k, h, j, hj => by
    rcases List.mem_cons.mp hj with rfl | hj
    · exact h.2.1
    · exact chn.lt L _ h.2.2.2 j hj
/-- the same numbers stand in both: the class's from f on, the reference's on the chain L -/
def CSE (S : CS) (s : RS) (f : Int32) (L : List Nat) : Prop := 0 ≤ f.toInt ∧ f.toInt ≤ (S.i 22).toInt ∧ ∀ v : Int32, (∃ i : Nat, f.toInt ≤ (i : Int) ∧ (i : Int) < (S.i 22).toInt ∧ S.a 18 i = v) ↔ (∃ j ∈ L, s.a 28 j = 0 ∧ s.a 25 j = v)
/-- the class: does the number stand there -/
theorem y_has {N : Nat} {S : CS} {v : Int32} : ∀ (n : Nat) (x : Int32) (P : Int32 × CS), 0 ≤ x.toInt → (S.i 22).toInt ≤ 320 → f_X0_hasCase_2 N n S v x = some P → P.2 = S ∧ ((P.1 = 0 ∧ ¬ ∃ i : Nat, x.toInt ≤ (i : Int) ∧ (i : Int) < (S.i 22).toInt ∧ S.a 18 i = v) ∨ (P.1 = 1 ∧ ∃ i : Nat, x.toInt ≤ (i : Int) ∧ (i : Int) < (S.i 22).toInt ∧ S.a 18 i = v))
  | 0, _, _, _, _, e => by cases e
  | n + 1, x, P, h0, h3, e => by
    have e' : b_X0_hasCase_2 N (f_X0_hasCase_2 N n) S v x = some P := e
    unfold b_X0_hasCase_2 at e'
    by_cases c : S.i 22 ≤ x
    · rw [if_pos c] at e'
      cases e'
      have := le_int c
      exact ⟨rfl, Or.inl ⟨rfl, fun ⟨i, i1, i2, _⟩ => by omega⟩⟩
    · rw [if_neg c] at e'
      have lt := lt_int (Int32.not_le.mp c)
      have ck := clampI h0
      have hib : ib x 320 := ⟨h0, by omega⟩
      have eg : gAt (S.a 18) 320 x = S.a 18 x.toNatClampNeg := by
        unfold gAt
        exact if_pos hib
      rw [eg] at e'
      by_cases d : S.a 18 x.toNatClampNeg = v
      · rw [if_pos d] at e'
        cases e'
        exact ⟨rfl, Or.inr ⟨rfl, x.toNatClampNeg, by omega, by omega, d⟩⟩
      · rw [if_neg d] at e'
        have e1 : (x + 1).toInt = x.toInt + 1 := ad1 h0 (by omega)
        obtain ⟨p1, p2⟩ := y_has n (x + 1) P (by omega) h3 e'
        refine ⟨p1, ?_⟩
        rcases p2 with ⟨q1, q2⟩ | ⟨q1, i, i1, i2, i3⟩
        · refine Or.inl ⟨q1, fun ⟨i, i1, i2, i3⟩ => ?_⟩
          by_cases z : (i : Int) = x.toInt
          · have : i = x.toNatClampNeg := by omega
            rw [this] at i3
            exact d i3
          · exact q2 ⟨i, by omega, i2, i3⟩
        · exact Or.inr ⟨q1, i, by omega, i2, i3⟩
/-- the reference: does the number stand there; then no entry comes -/
theorem y_75 {N : Nat} {x1 v : Int32} : ∀ (n : Nat) (L : List Nat) (s : RS) (k : Int32) (Q : Int32 × RS), chn s k L → f_X12_caseNumber_75 N n s x1 v k = some Q → ((¬ s.i 15 = 0 ∨ ∃ j ∈ L, s.a 28 j = 0 ∧ s.a 25 j = v) → Q.1 = 0 ∧ ¬ Q.2.i 15 = 0) ∧ (s.i 15 = 0 → (¬ ∃ j ∈ L, s.a 28 j = 0 ∧ s.a 25 j = v) → ((f_X12_entry N s x1 v 0).bind fun p13 => (f_X12_next N p13).bind fun p15 => f_X12_caseNumber_140 N p15) = some Q)
  | 0, _, _, _, _, _, e => by cases e
  | n + 1, L, s, k, Q, hL, e => by
    have e' : b_X12_caseNumber_75 N (f_X12_caseNumber_75 N n) s x1 v k = some Q := e
    unfold b_X12_caseNumber_75 at e'
    cases L with
    | nil =>
      have k0 : k < 0 := by rw [Int32.lt_iff_toInt_lt, z_t0]; exact hL
      rw [if_pos k0] at e'
      refine ⟨fun q => ?_, fun h15 _ => ?_⟩
      · have f15 : ¬ s.i 15 = 0 := q.elim id (fun ⟨j, hj, _⟩ => absurd hj List.not_mem_nil)
        unfold f_X12_caseNumber_140 at e'
        rw [if_neg f15, if_neg f15] at e'
        cases e'
        exact ⟨rfl, f15⟩
      · rw [if_pos h15] at e'
        exact e'
    | cons j L =>
      obtain ⟨k1, k2, -, k3⟩ := hL
      have k0 : ¬ k < 0 := fun q => by
        have := lt_int q
        rw [z_t0] at this
        omega
      rw [if_neg k0] at e'
      obtain ⟨hib, e'⟩ := hf_ite e'
      have ek : k.toNatClampNeg = j := by
        show k.toInt.toNat = j
        rw [k1]
        exact Int.toNat_natCast _
      rw [ek] at e'
      by_cases d : s.a 28 j = 0
      · rw [if_pos d] at e'
        by_cases d2 : s.a 25 j = v
        · rw [if_pos d2, e_fail, ob_some] at e'
          obtain ⟨s2, hs2⟩ : ∃ y, y = (if s.i 15 = 0 then (s.setI 15 4).setI 16 (s.i 11) else s) := ⟨_, rfl⟩
          rw [← hs2] at e'
          have f2 : ¬ s2.i 15 = 0 := by
            rw [hs2]
            by_cases c : s.i 15 = 0
            · rw [if_pos c]
              show ¬ (4 : Int32) = 0
              decide
            · rw [if_neg c]
              exact c
          have a2 : s2.a = s.a ∧ s2.i 24 = s.i 24 := by
            rw [hs2]
            by_cases c : s.i 15 = 0
            · rw [if_pos c]
              exact ⟨rfl, rfl⟩
            · rw [if_neg c]
              exact ⟨rfl, rfl⟩
          clear hs2
          have hL2 : chn s2 (s2.a 27 j) L := by
            rw [a2.1]
            exact chn.up (by rw [a2.2]; exact Int.le_refl _) (fun i _ => by rw [a2.1]) L _ k3
          have r := y_75 n L s2 (s2.a 27 j) Q hL2 e'
          refine ⟨fun _ => r.1 (Or.inl f2), fun _ q => absurd ⟨j, List.mem_cons_self, d, d2⟩ q⟩
        · rw [if_neg d2] at e'
          have r := y_75 n L s (s.a 27 j) Q k3 e'
          refine ⟨fun q => r.1 (q.imp id (fun ⟨i, hi, i1, i2⟩ => ?_)), fun h15 q => r.2 h15 (fun ⟨i, hi, i1, i2⟩ => q ⟨i, List.mem_cons_of_mem _ hi, i1, i2⟩)⟩
          rcases List.mem_cons.mp hi with rfl | hi
          · exact absurd i2 d2
          · exact ⟨i, hi, i1, i2⟩
      · rw [if_neg d] at e'
        have r := y_75 n L s (s.a 27 j) Q k3 e'
        refine ⟨fun q => r.1 (q.imp id (fun ⟨i, hi, i1, i2⟩ => ?_)), fun h15 q => r.2 h15 (fun ⟨i, hi, i1, i2⟩ => q ⟨i, List.mem_cons_of_mem _ hi, i1, i2⟩)⟩
        rcases List.mem_cons.mp hi with rfl | hi
        · exact absurd i1 d
        · exact ⟨i, hi, i1, i2⟩
