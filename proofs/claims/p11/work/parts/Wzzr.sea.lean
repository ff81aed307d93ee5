/-! both readers: where a jump goes: the reference's goals -/
def PJ (S : CS) (s : RS) (x1 x3 : Int32) (y : CEL) : Prop := (x3 = 0 ∧ ((S.o y.2.1 0 = 205 ∨ S.o y.2.1 0 = 206 ∨ S.o y.2.1 0 = 207 ∨ S.o y.2.1 0 = 304) ∨ (¬ x1 = 0 ∧ S.o y.2.1 0 = 218))) ∨ (¬ x3 = 0 ∧ S.o y.2.1 0 = 303 ∧ S.ol y.2.1 = s.l)
theorem jp_fnd {N : Nat} {s V : RS} {x1 x2 x3 x4 : Int32} (h4 : 0 ≤ x4) : ∀ (n : Nat) (x5 : Int32), f_X12_jump_60 N n s x1 x2 x3 x4 x5 = some V → f_X12_jump_171 N s x1 x2 x3 x4 = some V
  | 0, _, e => by cases e
  | n + 1, x5, e => by
    have e' : b_X12_jump_60 N (f_X12_jump_60 N n) s x1 x2 x3 x4 x5 = some V := e
    unfold b_X12_jump_60 at e'
    by_cases c0 : x5 < 0
    · rw [if_pos c0] at e'
      exact e'
    · rw [if_neg c0] at e'
      obtain ⟨-, e'⟩ := hf_ite e'
      by_cases c3 : s.a 44 x5.toNatClampNeg = 3
      · rw [if_pos c3] at e'
        exact e'
      · rw [if_neg c3, if_pos h4] at e'
        exact e'
def FNG (p : CEL → Prop) (L : List CEL) (r : Int32) : Prop := (r = -1 ∧ ∀ c ∈ L, ¬ p c) ∨ ∃ c ∈ L, p c ∧ r.toInt = (ceG c : Int) ∧ ∀ y ∈ L, c.1 < y.1 → ¬ p y
theorem FNG.skip {p : CEL → Prop} {c : CEL} {L : List CEL} {r : Int32} (h : FNG p L r) (n : ¬ p c) : FNG p (c :: L) r := by
  rcases h with ⟨h1, h2⟩ | ⟨y, h1, h2, h3, h4⟩
  · refine Or.inl ⟨h1, fun z hz => ?_⟩
    rcases List.mem_cons.mp hz with rfl | hz
    · exact n
    · exact h2 z hz
  · refine Or.inr ⟨y, List.mem_cons_of_mem _ h1, h2, h3, fun z hz l => ?_⟩
    rcases List.mem_cons.mp hz with rfl | hz
    · exact n
    · exact h4 z hz l
theorem jp_ref {N : Nat} {b : RS} {S : CS} {s V : RS} {x1 x2 x3 : Int32} : ∀ (L : List CEL) (c : CEL) (m e k : Int) (n : Nat) (x5 : Int32), STK S s (c :: L) m e k → BOT b S (c :: L) → TBB b s → x5.toInt + 1 = (ceG c : Int) + (nGo (S.o c.2.1 0) : Int) → f_X12_jump_60 N n s x1 x2 x3 (-1) x5 = some V → ∃ x4 : Int32, f_X12_jump_171 N s x1 x2 x3 x4 = some V ∧ FNG (PJ S s x1 x3) (c :: L) x4
  | L, c, m, e, k, n, x5, st, hb, tb, hx, ev => by
    have em : (-1 : Int32).toInt = -1 := by decide
    have nm1 : ¬ (0 : Int32) ≤ -1 := by decide
    by_cases cg : isGo (S.o c.2.1 0)
    · have n1 := nGo1 cg
      cases L with
      | nil => exact absurd cg hb.1
      | cons c0 L =>
        have ord := STK.ord (c0 :: L) c m e k st
        obtain ⟨m', e', k', h1, h2, h3⟩ := st
        obtain ⟨l1, -⟩ := h2 c0 rfl
        have l4 := l1.2.2.1
        cases n with
        | zero => cases ev
        | succ n =>
          have ev' : b_X12_jump_60 N (f_X12_jump_60 N n) s x1 x2 x3 (-1) x5 = some V := ev
          unfold b_X12_jump_60 at ev'
          rw [if_neg (show ¬ x5 < 0 by rw [Int32.lt_iff_toInt_lt, z_t0]; omega)] at ev'
          obtain ⟨hib, ev'⟩ := hf_ite ev'
          have jn : (x5.toNatClampNeg : Nat) = ceG c := by
            show x5.toInt.toNat = ceG c
            omega
          have x50 : 0 ≤ x5 := by rw [Int32.le_iff_toInt_le, z_t0]; omega
          have x5g : x5.toInt = (ceG c : Int) := by omega
          rw [jn] at ev'
          have xm : (x5 + (-1)).toInt = x5.toInt - 1 := by
            have y1 := hib.1
            have y2 := hib.2
            rw [toInt_add] <;> rw [em] <;> omega
          have here : f_X12_jump_60 N n s x1 x2 x3 x5 (x5 + (-1)) = some V → PJ S s x1 x3 c → ∃ x4 : Int32, f_X12_jump_171 N s x1 x2 x3 x4 = some V ∧ FNG (PJ S s x1 x3) (c :: c0 :: L) x4 := fun h p => ⟨x5, jp_fnd x50 n _ h, Or.inr ⟨c, List.mem_cons_self, p, x5g, fun y hy l => by
            rcases List.mem_cons.mp hy with e0 | hy
            · rw [e0] at l
              omega
            · have := ord y hy
              omega⟩⟩
          have next : f_X12_jump_60 N n s x1 x2 x3 (-1) (x5 + (-1)) = some V → ¬ PJ S s x1 x3 c → ∃ x4 : Int32, f_X12_jump_171 N s x1 x2 x3 x4 = some V ∧ FNG (PJ S s x1 x3) (c :: c0 :: L) x4 := fun h p => by
            obtain ⟨x4, r1, r2⟩ := jp_ref L c0 m' e' k' n (x5 + (-1)) h3 hb tb (by omega) h
            exact ⟨x4, r1, r2.skip p⟩
          have gs := h1.2.2.1.gs cg
          have n3 : ¬ s.a 44 (ceG c) = 3 := by
            rcases gs with ⟨-, q, -⟩ | ⟨-, q⟩ | ⟨-, q⟩ <;> rw [q] <;> decide
          rw [if_neg n3, if_neg nm1] at ev'
          by_cases c3 : x3 = 0
          · rw [if_pos c3] at ev'
            rcases gs with ⟨q1, q2, -⟩ | ⟨q1, q2⟩ | ⟨q1, q2⟩
            · have np : ¬ PJ S s x1 x3 c := fun z => by
                rcases z with ⟨-, (z | z | z | z) | ⟨-, z⟩⟩ | ⟨z, -⟩
                · rw [q1] at z; exact absurd z (by decide)
                · rw [q1] at z; exact absurd z (by decide)
                · rw [q1] at z; exact absurd z (by decide)
                · rw [q1] at z; exact absurd z (by decide)
                · rw [q1] at z; exact absurd z (by decide)
                · exact z c3
              rw [if_neg (show ¬ s.a 44 (ceG c) = 0 by rw [q2]; decide)] at ev'
              by_cases c1 : x1 = 0
              · rw [if_pos c1] at ev'
                exact next ev' np
              · rw [if_neg c1, if_neg (show ¬ s.a 44 (ceG c) = 1 by rw [q2]; decide)] at ev'
                exact next ev' np
            · rw [if_neg (show ¬ s.a 44 (ceG c) = 0 by rw [q2]; decide)] at ev'
              by_cases c1 : x1 = 0
              · rw [if_pos c1] at ev'
                refine next ev' (fun z => ?_)
                rcases z with ⟨-, (z | z | z | z) | ⟨z, -⟩⟩ | ⟨z, -⟩
                · rw [q1] at z; exact absurd z (by decide)
                · rw [q1] at z; exact absurd z (by decide)
                · rw [q1] at z; exact absurd z (by decide)
                · rw [q1] at z; exact absurd z (by decide)
                · exact z c1
                · exact z c3
              · rw [if_neg c1, if_pos q2] at ev'
                exact here ev' (Or.inl ⟨c3, Or.inr ⟨c1, q1⟩⟩)
            · rw [if_pos q2] at ev'
              exact here ev' (Or.inl ⟨c3, Or.inl q1⟩)
          · rw [if_neg c3] at ev'
            rcases gs with ⟨q1, q2, q3⟩ | ⟨q1, q2⟩ | ⟨q1, q2⟩
            · rw [if_pos q2, q3] at ev'
              by_cases c2 : lg_cmp (S.ol c.2.1) s.l = 0
              · rw [if_pos c2] at ev'
                exact here ev' (Or.inr ⟨c3, q1, lg_eq c2⟩)
              · rw [if_neg c2] at ev'
                refine next ev' (fun z => ?_)
                rcases z with ⟨z, -⟩ | ⟨-, -, z⟩
                · exact c3 z
                · exact c2 (lgc_eq.mpr z)
            · rw [if_neg (show ¬ s.a 44 (ceG c) = 2 by rw [q2]; decide)] at ev'
              refine next ev' (fun z => ?_)
              rcases z with ⟨z, -⟩ | ⟨-, z, -⟩
              · exact c3 z
              · rw [q1] at z
                exact absurd z (by decide)
            · rw [if_neg (show ¬ s.a 44 (ceG c) = 2 by rw [q2]; decide)] at ev'
              refine next ev' (fun z => ?_)
              rcases z with ⟨z, -⟩ | ⟨-, z, -⟩
              · exact c3 z
              · rcases q1 with q | q | q | q <;> rw [q] at z <;> exact absurd z (by decide)
    · have n0 := nGo.eq cg
      have np : ¬ PJ S s x1 x3 c := fun z => by
        rcases z with ⟨-, (z | z | z | z) | ⟨-, z⟩⟩ | ⟨-, z, -⟩
        · exact cg (Or.inr (Or.inr (Or.inl z)))
        · exact cg (Or.inr (Or.inr (Or.inr (Or.inl z))))
        · exact cg (Or.inr (Or.inr (Or.inr (Or.inr (Or.inl z)))))
        · exact cg (Or.inr (Or.inr (Or.inr (Or.inr (Or.inr z)))))
        · exact cg (Or.inr (Or.inl z))
        · exact cg (Or.inl z)
      cases L with
      | nil =>
        obtain ⟨-, b1, b2⟩ := hb
        have fin : f_X12_jump_171 N s x1 x2 x3 (-1) = some V := by
          cases n with
          | zero => cases ev
          | succ n =>
            have ev' : b_X12_jump_60 N (f_X12_jump_60 N n) s x1 x2 x3 (-1) x5 = some V := ev
            unfold b_X12_jump_60 at ev'
            by_cases c0 : x5 < 0
            · rw [if_pos c0] at ev'
              exact ev'
            · rw [if_neg c0] at ev'
              obtain ⟨hib, ev'⟩ := hf_ite ev'
              have hlo := hib.1
              have jn : (x5.toNatClampNeg : Nat) = ceG c - 1 := by
                show x5.toInt.toNat = ceG c - 1
                omega
              rw [jn] at ev'
              have y3 : b.a 44 (ceG c - 1) = 3 := b2.resolve_left (by omega)
              have t := (tb.2.2.2.2.1 (ceG c - 1) (by omega)).1
              rw [if_pos (t.trans y3)] at ev'
              exact ev'
        refine ⟨-1, fin, Or.inl ⟨rfl, fun y hy => ?_⟩⟩
        rcases List.mem_cons.mp hy with rfl | hy
        · exact np
        · exact absurd hy List.not_mem_nil
      | cons c0 L =>
        obtain ⟨m', e', k', h1, h2, h3⟩ := st
        obtain ⟨l1, -⟩ := h2 c0 rfl
        have l4 := l1.2.2.1
        obtain ⟨x4, r1, r2⟩ := jp_ref L c0 m' e' k' n x5 h3 hb tb (by omega) ev
        exact ⟨x4, r1, r2.skip np⟩
/-- the class's first row and the reference's first goal are the same row's -/
theorem fn_same {p p' : CEL → Prop} {L : List CEL} {r r' : Int32} (inj : ∀ y ∈ L, ∀ y' ∈ L, y.1 = y'.1 → y = y') (hp : ∀ y ∈ L, p y ↔ p' y) (h : FNS p L r) (g : FNG p' L r') : (r = -1 ∧ r' = -1) ∨ ∃ y ∈ L, p y ∧ r.toInt = (y.1 : Int) ∧ r'.toInt = (ceG y : Int) := by
  rcases h with ⟨h1, h2⟩ | ⟨y, h1, h2, h3, h4⟩
  · rcases g with ⟨g1, -⟩ | ⟨z, g1, g2, -⟩
    · exact Or.inl ⟨h1, g1⟩
    · exact absurd ((hp z g1).mpr g2) (h2 z g1)
  · rcases g with ⟨-, g2⟩ | ⟨z, g1, g2, g3, g4⟩
    · exact absurd ((hp y h1).mp h2) (g2 y h1)
    · refine Or.inr ⟨y, h1, h2, h3, ?_⟩
      have e : y = z := inj y h1 z g1 (by
        rcases Nat.lt_trichotomy y.1 z.1 with q | q | q
        · exact absurd ((hp z g1).mpr g2) (h4 z g1 q)
        · exact q
        · exact absurd ((hp y h1).mp h2) (g4 y h1 q))
      rw [e]
      exact g3
theorem STK.inj {S : CS} {s : RS} : ∀ (L : List CEL) (m e k : Int), STK S s L m e k → (∀ y ∈ L, ∀ y' ∈ L, y.1 = y'.1 → y = y') ∧ (∀ y ∈ L, ∀ y' ∈ L, y.1 < y'.1 → (S.o y.2.1 1).toInt < (S.o y'.2.1 1).toInt ∧ (ceG y + nGo (S.o y.2.1 0) ≤ ceG y') ∧ (ceW y + nWl (S.o y.2.1 0) ≤ ceW y'))
  | [], _, _, _, _ => ⟨fun _ hy => absurd hy List.not_mem_nil, fun _ hy => absurd hy List.not_mem_nil⟩
  | [c], m, e, k, h => by
    refine ⟨fun y hy y' hy' _ => ?_, fun y hy y' hy' l => ?_⟩
    · rcases List.mem_cons.mp hy with rfl | hy
      · rcases List.mem_cons.mp hy' with rfl | hy'
        · rfl
        · exact absurd hy' List.not_mem_nil
      · exact absurd hy List.not_mem_nil
    · rcases List.mem_cons.mp hy with e1 | hy
      · rcases List.mem_cons.mp hy' with e2 | hy'
        · rw [e1, e2] at l
          omega
        · exact absurd hy' List.not_mem_nil
      · exact absurd hy List.not_mem_nil
  | c :: c0 :: L, m, e, k, h => by
    have ord := STK.ord (c0 :: L) c m e k h
    obtain ⟨m', e', k', h1, h2, h3⟩ := h
    obtain ⟨i1, i2⟩ := STK.inj (c0 :: L) m' e' k' h3
    obtain ⟨l1, -⟩ := h2 c0 rfl
    have ord0 := STK.ord L c0 m' e' k' h3
    refine ⟨fun y hy y' hy' q => ?_, fun y hy y' hy' l => ?_⟩
    · rcases List.mem_cons.mp hy with e1 | hy
      · rcases List.mem_cons.mp hy' with e2 | hy'
        · rw [e1, e2]
        · have := ord y' hy'
          rw [e1] at q
          omega
      · rcases List.mem_cons.mp hy' with e2 | hy'
        · have := ord y hy
          rw [e2] at q
          omega
        · exact i1 y hy y' hy' q
    · rcases List.mem_cons.mp hy with e1 | hy
      · rcases List.mem_cons.mp hy' with e2 | hy'
        · rw [e1, e2] at l
          omega
        · have := ord y' hy'
          rw [e1] at l
          omega
      · rcases List.mem_cons.mp hy' with e2 | hy'
        · rw [e2]
          obtain ⟨a1, a2, a3, a4, a5, -⟩ := l1
          by_cases z : y = c0
          · rw [z]
            exact ⟨a5, by omega, by omega⟩
          · have lt : y.1 < c0.1 := by
              rcases List.mem_cons.mp hy with e3 | hy3
              · exact absurd e3 z
              · exact ord0 y hy3
            obtain ⟨j1, j2, j3⟩ := i2 y hy c0 List.mem_cons_self lt
            exact ⟨by omega, by omega, by omega⟩
        · exact i2 y hy y' hy' l
