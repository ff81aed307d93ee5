/-! both readers: labels that are seen -/
theorem y_labC {N : Nat} {S : CS} {l : Int64} : ∀ (n : Nat) (L : List CEL) (c : CEL) (x2 : Int32) (P : Int32 × CS), BSE S (c :: L) → x2.toInt = (c.1 : Int) → f_X6_labelled_7 N n S l x2 = some P → P.2 = S ∧ FNS (fun y => S.o y.2.1 0 = 303 ∧ S.ol y.2.1 = l) (c :: L) P.1
  | 0, _, _, _, _, _, _, e => by cases e
  | n + 1, L, c, x2, P, hB, hx, e => by
    have e' : b_X6_labelled_7 N (f_X6_labelled_7 N n) S l x2 = some P := e
    unfold b_X6_labelled_7 at e'
    have bl := BSE.lo L c hB
    have em : (-1 : Int32).toInt = -1 := by decide
    by_cases st : x2 ≤ S.i 56
    · rw [if_pos st] at e'
      cases e'
      have st' := le_int st
      cases L with
      | nil =>
        obtain ⟨-, -, -, h⟩ := hB
        refine ⟨rfl, Or.inl ⟨rfl, fun y hy => ?_⟩⟩
        rcases List.mem_cons.mp hy with rfl | hy
        · rintro ⟨z, -⟩
          rcases h with ⟨-, h⟩ | ⟨-, -, h⟩ <;> rw [h] at z <;> exact absurd z (by decide)
        · exact absurd hy List.not_mem_nil
      | cons c0 L =>
        obtain ⟨-, -, -, h1, h2⟩ := hB
        have := (BSE.lo L c0 h2).1
        omega
    · rw [if_neg st] at e'
      have st' := lt_int (Int32.not_le.mp st)
      have g : S.r 51 c.1 = some c.2.1 ∧ c.1 < 400 ∧ (c.1 : Int) < (S.i 53).toInt := by
        cases L with
        | nil => exact ⟨hB.1, hB.2.1, hB.2.2.1⟩
        | cons c0 L => exact ⟨hB.1, hB.2.1, hB.2.2.1⟩
      obtain ⟨q, eq, e'⟩ := hf_bind e'
      have hq := row_at hx g.1 g.2.1 g.2.2 eq
      rw [hq] at e'
      have x21 : (x2 + (-1)).toInt = x2.toInt - 1 := by rw [toInt_add] <;> rw [em] <;> omega
      have next : f_X6_labelled_7 N n S l (x2 + (-1)) = some P → ¬ (S.o c.2.1 0 = 303 ∧ S.ol c.2.1 = l) → P.2 = S ∧ FNS (fun y => S.o y.2.1 0 = 303 ∧ S.ol y.2.1 = l) (c :: L) P.1 := fun ek nm => by
        cases L with
        | nil =>
          obtain ⟨-, -, -, h⟩ := hB
          cases n with
          | zero => cases ek
          | succ n =>
            have ek' : b_X6_labelled_7 N (f_X6_labelled_7 N n) S l (x2 + (-1)) = some P := ek
            unfold b_X6_labelled_7 at ek'
            rw [if_pos (show x2 + (-1) ≤ S.i 56 by rw [Int32.le_iff_toInt_le]; omega)] at ek'
            cases ek'
            refine ⟨rfl, Or.inl ⟨rfl, fun y hy => ?_⟩⟩
            rcases List.mem_cons.mp hy with rfl | hy
            · exact nm
            · exact absurd hy List.not_mem_nil
        | cons c0 L =>
          obtain ⟨-, -, -, h1, h2⟩ := hB
          obtain ⟨r1, r2⟩ := y_labC n L c0 (x2 + (-1)) P h2 (by omega) ek
          refine ⟨r1, r2.skip nm (fun y hy => ?_)⟩
          have := (BSE.lo L c0 h2).2 y hy
          omega
      have e2 : (if oK S c.2.1 0 then (if (CS.o S c.2.1 0) = 303 then (if (lg_cmp (CS.ol S c.2.1) l) = 0 then some (x2, S) else f_X6_labelled_7 N n S l (x2 + (-1))) else f_X6_labelled_7 N n S l (x2 + (-1))) else none) = some P := e'
      obtain ⟨-, e2⟩ := hf_ite e2
      by_cases c1 : S.o c.2.1 0 = 303
      · rw [if_pos c1] at e2
        by_cases c2 : lg_cmp (S.ol c.2.1) l = 0
        · rw [if_pos c2] at e2
          cases e2
          exact ⟨rfl, FNS.here ⟨c1, lg_eq c2⟩ hx bl.2⟩
        · rw [if_neg c2] at e2
          exact next e2 (fun z => c2 (lgc_eq.mpr z.2))
      · rw [if_neg c1] at e2
        exact next e2 (fun z => c1 z.1)
/-- the sort of a goal, by its row -/
theorem RFR.gs {S : CS} {s : RS} {a t g w : Nat} (h : RFR S s a t g w) (hg : isGo (S.o a 0)) : (S.o a 0 = 303 ∧ s.a 44 g = 2 ∧ s.b 45 g = S.ol a) ∨ (S.o a 0 = 218 ∧ s.a 44 g = 1) ∨ ((S.o a 0 = 205 ∨ S.o a 0 = 206 ∨ S.o a 0 = 207 ∨ S.o a 0 = 304) ∧ s.a 44 g = 0) := by
  rcases id hg with q | q | q | q | q | q
  · have y := h.2.2.2.1 q
    exact Or.inl ⟨q, y.2.2.2.1, y.2.2.2.2⟩
  · exact Or.inr (Or.inl ⟨q, (h.2.2.2.2.2.2.2.2.2.2.2.1 q).2.2.2.1⟩)
  · exact Or.inr (Or.inr ⟨Or.inl q, (h.2.2.2.2.2.2.1 q).2.2.2.2⟩)
  · exact Or.inr (Or.inr ⟨Or.inr (Or.inl q), (h.2.2.2.2.2.2.2.1 q).2.2.2⟩)
  · exact Or.inr (Or.inr ⟨Or.inr (Or.inr (Or.inl q)), (h.2.2.2.2.2.2.2.2.1 q).2.2.2.2.2⟩)
  · exact Or.inr (Or.inr ⟨Or.inr (Or.inr (Or.inr q)), (h.2.2.2.2.2.2.2.2.2.1 q).1.2.2.2.2⟩)
/-- the reference looks for the label among the goals -/
theorem lb_ref {N : Nat} {b : RS} {S : CS} {s V : RS} {x1 x4 : Int32} {l : Int64} (h15 : s.i 15 = 0) : ∀ (L : List CEL) (c : CEL) (m e k : Int) (n : Nat) (x5 : Int32), STK S s (c :: L) m e k → BOT b S (c :: L) → TBB b s → x5.toInt + 1 = (ceG c : Int) + (nGo (S.o c.2.1 0) : Int) → f_X12_label_8 N n s x1 l x4 x5 = some V → ((∃ y ∈ c :: L, S.o y.2.1 0 = 303 ∧ S.ol y.2.1 = l) ∧ ¬ V.i 15 = 0) ∨ ((∀ y ∈ c :: L, ¬ (S.o y.2.1 0 = 303 ∧ S.ol y.2.1 = l)) ∧ f_X12_label_60 N s x1 l = some V)
  | L, c, m, e, k, n, x5, st, hb, tb, hx, ev => by
    have em : (-1 : Int32).toInt = -1 := by decide
    by_cases cg : isGo (S.o c.2.1 0)
    · -- a goal
      have n1 := nGo1 cg
      cases L with
      | nil => exact absurd cg hb.1
      | cons c0 L =>
        obtain ⟨m', e', k', h1, h2, h3⟩ := st
        obtain ⟨l1, -⟩ := h2 c0 rfl
        have l4 := l1.2.2.1
        cases n with
        | zero => cases ev
        | succ n =>
          have ev' : b_X12_label_8 N (f_X12_label_8 N n) s x1 l x4 x5 = some V := ev
          unfold b_X12_label_8 at ev'
          rw [if_neg (show ¬ x5 < 0 by rw [Int32.lt_iff_toInt_lt, z_t0]; omega)] at ev'
          obtain ⟨hib, ev'⟩ := hf_ite ev'
          have jn : (x5.toNatClampNeg : Nat) = ceG c := by
            show x5.toInt.toNat = ceG c
            omega
          rw [jn] at ev'
          have xm : (x5 + (-1)).toInt = x5.toInt - 1 := by
            have y1 := hib.1
            have y2 := hib.2
            rw [toInt_add] <;> rw [em] <;> omega
          have ih : ∀ n, f_X12_label_8 N n s x1 l x4 (x5 + (-1)) = some V → ¬ (S.o c.2.1 0 = 303 ∧ S.ol c.2.1 = l) → ((∃ y ∈ c :: c0 :: L, S.o y.2.1 0 = 303 ∧ S.ol y.2.1 = l) ∧ ¬ V.i 15 = 0) ∨ ((∀ y ∈ c :: c0 :: L, ¬ (S.o y.2.1 0 = 303 ∧ S.ol y.2.1 = l)) ∧ f_X12_label_60 N s x1 l = some V) := fun n hn nm => by
            rcases lb_ref h15 L c0 m' e' k' n (x5 + (-1)) h3 hb tb (by omega) hn with ⟨⟨y, hy, h⟩, z⟩ | ⟨z1, z2⟩
            · exact Or.inl ⟨⟨y, List.mem_cons_of_mem _ hy, h⟩, z⟩
            · refine Or.inr ⟨fun y hy => ?_, z2⟩
              rcases List.mem_cons.mp hy with rfl | hy
              · exact nm
              · exact z1 y hy
          rcases h1.2.2.1.gs cg with ⟨q1, q2, q3⟩ | ⟨q1, q2⟩ | ⟨q1, q2⟩
          · rw [if_neg (show ¬ s.a 44 (ceG c) = 3 by rw [q2]; decide), if_pos q2, q3] at ev'
            by_cases c2 : lg_cmp (S.ol c.2.1) l = 0
            · rw [if_pos c2, e_fail, ob_some, if_pos h15] at ev'
              refine Or.inl ⟨⟨c, List.mem_cons_self, q1, lg_eq c2⟩, ?_⟩
              refine krf_f_X12_label_8 N n _ x1 l x4 (x5 + (-1)) V ev' ?_
              show ¬ (4 : Int32) = 0
              decide
            · rw [if_neg c2] at ev'
              exact ih n ev' (fun z => c2 (lgc_eq.mpr z.2))
          · rw [if_neg (show ¬ s.a 44 (ceG c) = 3 by rw [q2]; decide), if_neg (show ¬ s.a 44 (ceG c) = 2 by rw [q2]; decide)] at ev'
            exact ih n ev' (fun z => by rw [q1] at z; exact absurd z.1 (by decide))
          · rw [if_neg (show ¬ s.a 44 (ceG c) = 3 by rw [q2]; decide), if_neg (show ¬ s.a 44 (ceG c) = 2 by rw [q2]; decide)] at ev'
            exact ih n ev' (fun z => by
              have z1 := z.1
              rcases q1 with q | q | q | q <;> rw [q] at z1 <;> exact absurd z1 (by decide))
    · have n0 := nGo.eq cg
      have nm : ¬ (S.o c.2.1 0 = 303 ∧ S.ol c.2.1 = l) := fun z => cg (Or.inl z.1)
      cases L with
      | nil =>
        obtain ⟨-, b1, b2⟩ := hb
        have fin : f_X12_label_60 N s x1 l = some V := by
          cases n with
          | zero => cases ev
          | succ n =>
            have ev' : b_X12_label_8 N (f_X12_label_8 N n) s x1 l x4 x5 = some V := ev
            unfold b_X12_label_8 at ev'
            by_cases c0 : x5 < 0
            · rw [if_pos c0] at ev'
              exact ev'
            · rw [if_neg c0] at ev'
              obtain ⟨hib, ev'⟩ := hf_ite ev'
              have hlo := hib.1
              have jn : (x5.toNatClampNeg : Nat) = ceG c - 1 := by
                show x5.toInt.toNat = ceG c - 1
                omega
              rw [jn] at ev'
              have y3 : b.a 44 (ceG c - 1) = 3 := b2.resolve_left (by omega)
              have t := (tb.2.2.2.2.1 (ceG c - 1) (by omega)).1
              rw [if_pos (t.trans y3)] at ev'
              exact ev'
        refine Or.inr ⟨fun y hy => ?_, fin⟩
        rcases List.mem_cons.mp hy with rfl | hy
        · exact nm
        · exact absurd hy List.not_mem_nil
      | cons c0 L =>
        obtain ⟨m', e', k', h1, h2, h3⟩ := st
        obtain ⟨l1, -⟩ := h2 c0 rfl
        have l4 := l1.2.2.1
        rcases lb_ref h15 L c0 m' e' k' n x5 h3 hb tb (by omega) ev with ⟨⟨y, hy, h⟩, z⟩ | ⟨z1, z2⟩
        · exact Or.inl ⟨⟨y, List.mem_cons_of_mem _ hy, h⟩, z⟩
        · refine Or.inr ⟨fun y hy => ?_, z2⟩
          rcases List.mem_cons.mp hy with rfl | hy
          · exact nm
          · exact z1 y hy
