/-! both readers: where a jump goes: the class's rows -/
/-- the rows of the list lie one below the other, down to the base -/
def BSE (S : CS) : List CEL → Prop
  | [] => False
  | [c] => S.r 51 c.1 = some c.2.1 ∧ c.1 < 400 ∧ (c.1 : Int) < (S.i 53).toInt ∧ (((c.1 : Int) = (S.i 56).toInt ∧ S.o c.2.1 0 = 302) ∨ (c.1 = 0 ∧ (S.i 56).toInt = -1 ∧ S.o c.2.1 0 = 300))
  | c :: c0 :: L => S.r 51 c.1 = some c.2.1 ∧ c.1 < 400 ∧ (c.1 : Int) < (S.i 53).toInt ∧ c.1 = c0.1 + 1 ∧ BSE S (c0 :: L)
theorem BSE.lo {S : CS} : ∀ (L : List CEL) (c : CEL), BSE S (c :: L) → (S.i 56).toInt ≤ (c.1 : Int) ∧ ∀ y ∈ c :: L, y.1 ≤ c.1
  | [], c, h => by
    obtain ⟨-, -, -, h⟩ := h
    refine ⟨by omega, fun y hy => ?_⟩
    rcases List.mem_cons.mp hy with rfl | hy
    · exact Nat.le_refl _
    · exact absurd hy List.not_mem_nil
  | c0 :: L, c, h => by
    obtain ⟨-, -, -, h1, h2⟩ := h
    obtain ⟨g1, g2⟩ := BSE.lo L c0 h2
    refine ⟨by omega, fun y hy => ?_⟩
    rcases List.mem_cons.mp hy with rfl | hy
    · exact Nat.le_refl _
    · have := g2 y hy
      omega
/-- the first of the list, from the top, that is meant -/
def FNS (p : CEL → Prop) (L : List CEL) (r : Int32) : Prop := (r = -1 ∧ ∀ c ∈ L, ¬ p c) ∨ ∃ c ∈ L, p c ∧ r.toInt = (c.1 : Int) ∧ ∀ y ∈ L, c.1 < y.1 → ¬ p y
theorem FNS.skip {p : CEL → Prop} {c : CEL} {L : List CEL} {r : Int32} (h : FNS p L r) (n : ¬ p c) (hl : ∀ y ∈ L, y.1 < c.1) : FNS p (c :: L) r := by
  rcases h with ⟨h1, h2⟩ | ⟨y, h1, h2, h3, h4⟩
  · refine Or.inl ⟨h1, fun z hz => ?_⟩
    rcases List.mem_cons.mp hz with rfl | hz
    · exact n
    · exact h2 z hz
  · refine Or.inr ⟨y, List.mem_cons_of_mem _ h1, h2, h3, fun z hz l => ?_⟩
    rcases List.mem_cons.mp hz with rfl | hz
    · exact n
    · exact h4 z hz l
theorem FNS.here {p : CEL → Prop} {c : CEL} {L : List CEL} {r : Int32} (h : p c) (hr : r.toInt = (c.1 : Int)) (hl : ∀ y ∈ c :: L, y.1 ≤ c.1) : FNS p (c :: L) r := Or.inr ⟨c, List.mem_cons_self, h, hr, fun y hy l => by
  have := hl y hy
  omega⟩
theorem row_at {N : Nat} {S : CS} {x : Int32} {c a : Nat} {P : Option Nat × CS} (hx : x.toInt = (c : Int)) (h1 : S.r 51 c = some a) (h4 : c < 400) (h5 : (c : Int) < (S.i 53).toInt) (e : f_X6_row N S x = some P) : P = (some a, S) := by
  obtain ⟨r1, r2⟩ := e_row e
  rcases r2 with ⟨-, -, -, y⟩ | ⟨y, -⟩
  · rw [hx, Int.toNat_natCast, h1] at y
    have : P = (P.1, P.2) := rfl
    rw [this, y, r1]
  · omega
theorem y_nearC {N : Nat} {S : CS} {x1 : Int32} : ∀ (n : Nat) (L : List CEL) (c : CEL) (x2 : Int32) (P : Int32 × CS), BSE S (c :: L) → x2.toInt = (c.1 : Int) → f_X6_nearest_7 N n S x1 x2 = some P → P.2 = S ∧ FNS (fun y => (S.o y.2.1 0 = 205 ∨ S.o y.2.1 0 = 206 ∨ S.o y.2.1 0 = 207 ∨ S.o y.2.1 0 = 304) ∨ (x1 = 0 ∧ S.o y.2.1 0 = 218)) (c :: L) P.1
  | 0, _, _, _, _, _, _, e => by cases e
  | n + 1, L, c, x2, P, hB, hx, e => by
    have e' : b_X6_nearest_7 N (f_X6_nearest_7 N n) S x1 x2 = some P := e
    unfold b_X6_nearest_7 at e'
    have bl := BSE.lo L c hB
    have em : (-1 : Int32).toInt = -1 := by decide
    by_cases st : x2 ≤ S.i 56
    · rw [if_pos st] at e'
      cases e'
      have st' := le_int st
      cases L with
      | nil =>
        obtain ⟨-, -, -, h⟩ := hB
        refine ⟨rfl, Or.inl ⟨rfl, fun y hy => ?_⟩⟩
        rcases List.mem_cons.mp hy with rfl | hy
        · rcases h with ⟨-, h⟩ | ⟨-, -, h⟩ <;> rintro ((z | z | z | z) | ⟨-, z⟩) <;> rw [h] at z <;> exact absurd z (by decide)
        · exact absurd hy List.not_mem_nil
      | cons c0 L =>
        obtain ⟨-, -, -, h1, h2⟩ := hB
        have := (BSE.lo L c0 h2).1
        omega
    · rw [if_neg st] at e'
      have st' := lt_int (Int32.not_le.mp st)
      have g : S.r 51 c.1 = some c.2.1 ∧ c.1 < 400 ∧ (c.1 : Int) < (S.i 53).toInt := by
        cases L with
        | nil => exact ⟨hB.1, hB.2.1, hB.2.2.1⟩
        | cons c0 L => exact ⟨hB.1, hB.2.1, hB.2.2.1⟩
      obtain ⟨q, eq, e'⟩ := hf_bind e'
      have hq := row_at hx g.1 g.2.1 g.2.2 eq
      rw [hq] at e'
      have x21 : (x2 + (-1)).toInt = x2.toInt - 1 := by rw [toInt_add] <;> rw [em] <;> omega
      -- the row is not meant
      have next : f_X6_nearest_7 N n S x1 (x2 + (-1)) = some P → ¬ ((S.o c.2.1 0 = 205 ∨ S.o c.2.1 0 = 206 ∨ S.o c.2.1 0 = 207 ∨ S.o c.2.1 0 = 304) ∨ (x1 = 0 ∧ S.o c.2.1 0 = 218)) → P.2 = S ∧ FNS (fun y => (S.o y.2.1 0 = 205 ∨ S.o y.2.1 0 = 206 ∨ S.o y.2.1 0 = 207 ∨ S.o y.2.1 0 = 304) ∨ (x1 = 0 ∧ S.o y.2.1 0 = 218)) (c :: L) P.1 := fun ek nm => by
        cases L with
        | nil =>
          obtain ⟨-, -, -, h⟩ := hB
          cases n with
          | zero => cases ek
          | succ n =>
            have ek' : b_X6_nearest_7 N (f_X6_nearest_7 N n) S x1 (x2 + (-1)) = some P := ek
            unfold b_X6_nearest_7 at ek'
            rw [if_pos (show x2 + (-1) ≤ S.i 56 by rw [Int32.le_iff_toInt_le]; omega)] at ek'
            cases ek'
            refine ⟨rfl, Or.inl ⟨rfl, fun y hy => ?_⟩⟩
            rcases List.mem_cons.mp hy with rfl | hy
            · exact nm
            · exact absurd hy List.not_mem_nil
        | cons c0 L =>
          obtain ⟨-, -, -, h1, h2⟩ := hB
          obtain ⟨r1, r2⟩ := y_nearC n L c0 (x2 + (-1)) P h2 (by omega) ek
          refine ⟨r1, r2.skip nm (fun y hy => ?_)⟩
          have := (BSE.lo L c0 h2).2 y hy
          omega
      have e2 : (if oK S c.2.1 0 then (f_X5_isLoop N S c.2.1).bind fun p10 => (if p10.1 = 0 then (if x1 = 0 then if oK p10.2 c.2.1 0 then (if (CS.o p10.2 c.2.1 0) = 218 then f_X6_nearest_46 N p10.2 x2 else f_X6_nearest_7 N n p10.2 x1 (x2 + (-1))) else none else f_X6_nearest_7 N n p10.2 x1 (x2 + (-1))) else f_X6_nearest_46 N p10.2 x2) else none) = some P := e'
      obtain ⟨ok1, e2⟩ := hf_ite e2
      obtain ⟨l, el, e2⟩ := hf_bind e2
      unfold f_X5_isLoop f_X5_isLoop_40 at el
      obtain ⟨-, el⟩ := hf_ite el
      unfold f_X6_nearest_46 at e2
      have loop : l = (1, S) → (S.o c.2.1 0 = 205 ∨ S.o c.2.1 0 = 206 ∨ S.o c.2.1 0 = 207 ∨ S.o c.2.1 0 = 304) → P.2 = S ∧ FNS (fun y => (S.o y.2.1 0 = 205 ∨ S.o y.2.1 0 = 206 ∨ S.o y.2.1 0 = 207 ∨ S.o y.2.1 0 = 304) ∨ (x1 = 0 ∧ S.o y.2.1 0 = 218)) (c :: L) P.1 := fun hl h => by
        rw [hl, if_neg n10] at e2
        cases e2
        exact ⟨rfl, FNS.here (Or.inl h) hx bl.2⟩
      by_cases c1 : S.o c.2.1 0 = 205
      · rw [if_pos c1] at el
        cases el
        exact loop rfl (Or.inl c1)
      · rw [if_neg c1] at el
        by_cases c2 : S.o c.2.1 0 = 206
        · rw [if_pos c2] at el
          cases el
          exact loop rfl (Or.inr (Or.inl c2))
        · rw [if_neg c2] at el
          by_cases c3 : S.o c.2.1 0 = 207
          · rw [if_pos c3] at el
            cases el
            exact loop rfl (Or.inr (Or.inr (Or.inl c3)))
          · rw [if_neg c3] at el
            by_cases c4 : S.o c.2.1 0 = 304
            · rw [if_pos c4] at el
              cases el
              exact loop rfl (Or.inr (Or.inr (Or.inr c4)))
            · rw [if_neg c4] at el
              cases el
              have nl : ¬ (S.o c.2.1 0 = 205 ∨ S.o c.2.1 0 = 206 ∨ S.o c.2.1 0 = 207 ∨ S.o c.2.1 0 = 304) := fun z => by
                rcases z with z | z | z | z
                · exact c1 z
                · exact c2 z
                · exact c3 z
                · exact c4 z
              have e3 : (if x1 = 0 then if oK S c.2.1 0 then (if (CS.o S c.2.1 0) = 218 then some (x2, S) else f_X6_nearest_7 N n S x1 (x2 + (-1))) else none else f_X6_nearest_7 N n S x1 (x2 + (-1))) = some P := (if_pos rfl).symm.trans e2
              by_cases c5 : x1 = 0
              · rw [if_pos c5] at e3
                obtain ⟨-, e3⟩ := hf_ite e3
                by_cases c6 : S.o c.2.1 0 = 218
                · rw [if_pos c6] at e3
                  cases e3
                  exact ⟨rfl, FNS.here (Or.inr ⟨c5, c6⟩) hx bl.2⟩
                · rw [if_neg c6] at e3
                  exact next e3 (fun z => z.elim nl (fun y => c6 y.2))
              · rw [if_neg c5] at e3
                exact next e3 (fun z => z.elim nl (fun y => c5 y.1))
