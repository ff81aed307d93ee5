section
/-! both readers: labels that are seen -/
theorem y_labC {N : Nat} {S : CS} {l : Int64} : ∀ (n : Nat) (L : List CEL) (c : CEL) (x2 : Int32) (P : Int32 × CS), BSE S (c :: L) → x2.toInt = (c.1 : Int) → f_X6_labelled_7 N n S l x2 = some P → P.2 = S ∧ FNS (fun y => S.o y.2.1 0 = 303 ∧ S.ol y.2.1 = l) (c :: L) P.1
  | 0, _, _, _, _, _, _, e => by cases e
  | n + 1, L, c, x2, P, hB, hx, e => by
    have e' : b_X6_labelled_7 N (f_X6_labelled_7 N n) S l x2 = some P := e
    unfold b_X6_labelled_7 at e'
    have bl := BSE.lo L c hB
    have em : (-1 : Int32).toInt = -1 := by decide
    by_cases st : x2 ≤ S.i 56
    · rw [if_pos st] at e'
      cases e'
      have st' := le_int st
      cases L with
      | nil =>
        obtain ⟨-, -, -, h⟩ := hB
        refine ⟨rfl, Or.inl ⟨rfl, fun y hy => ?_⟩⟩
        rcases List.mem_cons.mp hy with rfl | hy
        · rintro ⟨z, -⟩
          rcases h with ⟨-, h⟩ | ⟨-, -, h⟩ <;> rw [h] at z <;> exact absurd z (by decide)
        · exact absurd hy List.not_mem_nil
      | cons c0 L =>
        obtain ⟨-, -, -, h1, h2⟩ := hB
        have := (BSE.lo L c0 h2).1
        omega
    · rw [if_neg st] at e'
      have st' := lt_int (Int32.not_le.mp st)
      have g : S.r 51 c.1 = some c.2.1 ∧ c.1 < 400 ∧ (c.1 : Int) < (S.i 53).toInt := by
        cases L with
        | nil => exact ⟨hB.1, hB.2.1, hB.2.2.1⟩
        | cons c0 L => exact ⟨hB.1, hB.2.1, hB.2.2.1⟩
      obtain ⟨q, eq, e'⟩ := hf_bind e'
      have hq := row_at hx g.1 g.2.1 g.2.2 eq
      rw [hq] at e'
      have x21 : (x2 + (-1)).toInt = x2.toInt - 1 := by rw [toInt_add] <;> rw [em] <;> omega
      have next : f_X6_labelled_7 N n S l (x2 + (-1)) = some P → ¬ (S.o c.2.1 0 = 303 ∧ S.ol c.2.1 = l) → P.2 = S ∧ FNS (fun y => S.o y.2.1 0 = 303 ∧ S.ol y.2.1 = l) (c :: L) P.1 := fun ek nm => by
        cases L with
        | nil =>
          obtain ⟨-, -, -, h⟩ := hB
          cases n with
          | zero => cases ek
          | succ n =>
            have ek' : b_X6_labelled_7 N (f_X6_labelled_7 N n) S l (x2 + (-1)) = some P := ek
            unfold b_X6_labelled_7 at ek'
            rw [if_pos (show x2 + (-1) ≤ S.i 56 by rw [Int32.le_iff_toInt_le]; omega)] at ek'
            cases ek'
            refine ⟨rfl, Or.inl ⟨rfl, fun y hy => ?_⟩⟩
            rcases List.mem_cons.mp hy with rfl | hy
            · exact nm
            · exact absurd hy List.not_mem_nil
        | cons c0 L =>
          obtain ⟨-, -, -, h1, h2⟩ := hB
          obtain ⟨r1, r2⟩ := y_labC n L c0 (x2 + (-1)) P h2 (by omega) ek
          refine ⟨r1, r2.skip nm (fun y hy => ?_)⟩
          have := (BSE.lo L c0 h2).2 y hy
          omega
      have e2 : (if oK S c.2.1 0 then (if (CS.o S c.2.1 0) = 303 then (if (lg_cmp (CS.ol S c.2.1) l) = 0 then some (x2, S) else f_X6_labelled_7 N n S l (x2 + (-1))) else f_X6_labelled_7 N n S l (x2 + (-1))) else none) = some P := e'
      obtain ⟨-, e2⟩ := hf_ite e2
      by_cases c1 : S.o c.2.1 0 = 303
      · rw [if_pos c1] at e2
        by_cases c2 : lg_cmp (S.ol c.2.1) l = 0
        · rw [if_pos c2] at e2
          cases e2
          exact ⟨rfl, FNS.here ⟨c1, lg_eq c2⟩ hx bl.2⟩
        · rw [if_neg c2] at e2
          exact next e2 (fun z => c2 (lgc_eq.mpr z.2))
      · rw [if_neg c1] at e2
        exact next e2 (fun z => c1 z.1)
/-- the sort of a goal, by its row -/
theorem RFR.gs {S : CS} {s : RS} {a t g w : Nat} (h : RFR S s a t g w) (hg : isGo (S.o a 0)) : (S.o a 0 = 303 ∧ s.a 44 g = 2 ∧ s.b 45 g = S.ol a) ∨ (S.o a 0 = 218 ∧ s.a 44 g = 1) ∨ ((S.o a 0 = 205 ∨ S.o a 0 = 206 ∨ S.o a 0 = 207 ∨ S.o a 0 = 304) ∧ s.a 44 g = 0) := by
  rcases id hg with q | q | q | q | q | q
  · have y := h.2.2.2.1 q
    exact Or.inl ⟨q, y.2.2.2.1, y.2.2.2.2⟩
  · exact Or.inr (Or.inl ⟨q, (h.2.2.2.2.2.2.2.2.2.2.2.1 q).2.2.2.1⟩)
  · exact Or.inr (Or.inr ⟨Or.inl q, (h.2.2.2.2.2.2.1 q).2.2.2.2⟩)
  · exact Or.inr (Or.inr ⟨Or.inr (Or.inl q), (h.2.2.2.2.2.2.2.1 q).2.2.2⟩)
  · exact Or.inr (Or.inr ⟨Or.inr (Or.inr (Or.inl q)), (h.2.2.2.2.2.2.2.2.1 q).2.2.2.2.2⟩)
  · exact Or.inr (Or.inr ⟨Or.inr (Or.inr (Or.inr q)), (h.2.2.2.2.2.2.2.2.2.1 q).1.2.2.2.2⟩)
/-- the reference looks for the label among the goals -/
theorem lb_ref {N : Nat} {b : RS} {S : CS} {s V : RS} {x1 x4 : Int32} {l : Int64} (h15 : s.i 15 = 0) : ∀ (L : List CEL) (c : CEL) (m e k : Int) (n : Nat) (x5 : Int32), STK S s (c :: L) m e k → BOT b S (c :: L) → TBB b s → x5.toInt + 1 = (ceG c : Int) + (nGo (S.o c.2.1 0) : Int) → f_X12_label_8 N n s x1 l x4 x5 = some V → ((∃ y ∈ c :: L, S.o y.2.1 0 = 303 ∧ S.ol y.2.1 = l) ∧ ¬ V.i 15 = 0) ∨ ((∀ y ∈ c :: L, ¬ (S.o y.2.1 0 = 303 ∧ S.ol y.2.1 = l)) ∧ f_X12_label_60 N s x1 l = some V)
  | L, c, m, e, k, n, x5, st, hb, tb, hx, ev => by
    have em : (-1 : Int32).toInt = -1 := by decide
    by_cases cg : isGo (S.o c.2.1 0)
    · -- a goal
      have n1 := nGo1 cg
      cases L with
      | nil => exact absurd cg hb.1
      | cons c0 L =>
        obtain ⟨m', e', k', h1, h2, h3⟩ := st
        obtain ⟨l1, -⟩ := h2 c0 rfl
        have l4 := l1.2.2.1
        cases n with
        | zero => cases ev
        | succ n =>
          have ev' : b_X12_label_8 N (f_X12_label_8 N n) s x1 l x4 x5 = some V := ev
          unfold b_X12_label_8 at ev'
          rw [if_neg (show ¬ x5 < 0 by rw [Int32.lt_iff_toInt_lt, z_t0]; omega)] at ev'
          obtain ⟨hib, ev'⟩ := hf_ite ev'
          have jn : (x5.toNatClampNeg : Nat) = ceG c := by
            show x5.toInt.toNat = ceG c
            omega
          rw [jn] at ev'
          have xm : (x5 + (-1)).toInt = x5.toInt - 1 := by
            have y1 := hib.1
            have y2 := hib.2
            rw [toInt_add] <;> rw [em] <;> omega
          have ih : ∀ n, f_X12_label_8 N n s x1 l x4 (x5 + (-1)) = some V → ¬ (S.o c.2.1 0 = 303 ∧ S.ol c.2.1 = l) → ((∃ y ∈ c :: c0 :: L, S.o y.2.1 0 = 303 ∧ S.ol y.2.1 = l) ∧ ¬ V.i 15 = 0) ∨ ((∀ y ∈ c :: c0 :: L, ¬ (S.o y.2.1 0 = 303 ∧ S.ol y.2.1 = l)) ∧ f_X12_label_60 N s x1 l = some V) := fun n hn nm => by
            rcases lb_ref h15 L c0 m' e' k' n (x5 + (-1)) h3 hb tb (by omega) hn with ⟨⟨y, hy, h⟩, z⟩ | ⟨z1, z2⟩
            · exact Or.inl ⟨⟨y, List.mem_cons_of_mem _ hy, h⟩, z⟩
            · refine Or.inr ⟨fun y hy => ?_, z2⟩
              rcases List.mem_cons.mp hy with rfl | hy
              · exact nm
              · exact z1 y hy
          rcases h1.2.2.1.gs cg with ⟨q1, q2, q3⟩ | ⟨q1, q2⟩ | ⟨q1, q2⟩
          · rw [if_neg (show ¬ s.a 44 (ceG c) = 3 by rw [q2]; decide), if_pos q2, q3] at ev'
            by_cases c2 : lg_cmp (S.ol c.2.1) l = 0
            · rw [if_pos c2, e_fail, ob_some, if_pos h15] at ev'
              refine Or.inl ⟨⟨c, List.mem_cons_self, q1, lg_eq c2⟩, ?_⟩
              refine krf_f_X12_label_8 N n _ x1 l x4 (x5 + (-1)) V ev' ?_
              show ¬ (4 : Int32) = 0
              decide
            · rw [if_neg c2] at ev'
              exact ih n ev' (fun z => c2 (lgc_eq.mpr z.2))
          · rw [if_neg (show ¬ s.a 44 (ceG c) = 3 by rw [q2]; decide), if_neg (show ¬ s.a 44 (ceG c) = 2 by rw [q2]; decide)] at ev'
            exact ih n ev' (fun z => by rw [q1] at z; exact absurd z.1 (by decide))
          · rw [if_neg (show ¬ s.a 44 (ceG c) = 3 by rw [q2]; decide), if_neg (show ¬ s.a 44 (ceG c) = 2 by rw [q2]; decide)] at ev'
            exact ih n ev' (fun z => by
              have z1 := z.1
              rcases q1 with q | q | q | q <;> rw [q] at z1 <;> exact absurd z1 (by decide))
    · have n0 := nGo.eq cg
      have nm : ¬ (S.o c.2.1 0 = 303 ∧ S.ol c.2.1 = l) := fun z => cg (Or.inl z.1)
      cases L with
      | nil =>
        obtain ⟨-, b1, b2⟩ := hb
        have fin : f_X12_label_60 N s x1 l = some V := by
          cases n with
          | zero => cases ev
          | succ n =>
            have ev' : b_X12_label_8 N (f_X12_label_8 N n) s x1 l x4 x5 = some V := ev
            unfold b_X12_label_8 at ev'
            by_cases c0 : x5 < 0
            · rw [if_pos c0] at ev'
              exact ev'
            · rw [if_neg c0] at ev'
              obtain ⟨hib, ev'⟩ := hf_ite ev'
              have hlo := hib.1
              have jn : (x5.toNatClampNeg : Nat) = ceG c - 1 := by
                show x5.toInt.toNat = ceG c - 1
                omega
              rw [jn] at ev'
              have y3 : b.a 44 (ceG c - 1) = 3 := b2.resolve_left (by omega)
              have t := (tb.2.2.2.2.1 (ceG c - 1) (by omega)).1
              rw [if_pos (t.trans y3)] at ev'
              exact ev'
        refine Or.inr ⟨fun y hy => ?_, fin⟩
        rcases List.mem_cons.mp hy with rfl | hy
        · exact nm
        · exact absurd hy List.not_mem_nil
      | cons c0 L =>
        obtain ⟨m', e', k', h1, h2, h3⟩ := st
        obtain ⟨l1, -⟩ := h2 c0 rfl
        have l4 := l1.2.2.1
        rcases lb_ref h15 L c0 m' e' k' n x5 h3 hb tb (by omega) ev with ⟨⟨y, hy, h⟩, z⟩ | ⟨z1, z2⟩
        · exact Or.inl ⟨⟨y, List.mem_cons_of_mem _ hy, h⟩, z⟩
        · refine Or.inr ⟨fun y hy => ?_, z2⟩
          rcases List.mem_cons.mp hy with rfl | hy
          · exact nm
          · exact z1 y hy
end
section
/-! both readers: a label's chain -/
theorem LBC.stop2 {b : RS} {S : CS} {s : RS} : ∀ (L : List CEL) (c : CEL) (m e k x : Int), STK S s (c :: L) m e k → LBC S s (c :: L) x → ¬ S.o c.2.1 0 = 303 → BOT b S (c :: L) → TBB b s → ∀ j : Nat, ceG c + nGo (S.o c.2.1 0) = j + 1 → ¬ (s.a 44 j = 2 ∧ s.a 46 j = -2)
  | L, c, m, e, k, x, h, lb, hx, hb, tb, j, hj, ⟨z1, z2⟩ => by
    obtain ⟨m', e', k', h1, h2, h3⟩ := h
    by_cases cg : isGo (S.o c.2.1 0)
    · have n1 := nGo1 cg
      have ej : j = ceG c := by omega
      subst ej
      rcases h1.2.2.1.gs cg with ⟨q1, -, -⟩ | ⟨-, q2⟩ | ⟨-, q2⟩
      · exact hx q1
      · rw [z1] at q2
        exact absurd q2 (by decide)
      · rw [z1] at q2
        exact absurd q2 (by decide)
    · have n0 := nGo.eq cg
      cases L with
      | nil =>
        obtain ⟨-, b1, b2⟩ := hb
        rcases b2 with y | y
        · omega
        · have ej : ceG c - 1 = j := by omega
          rw [ej] at y
          have t := (tb.2.2.2.2.1 j (by omega)).1
          rw [z1, y] at t
          exact absurd t (by decide)
      | cons c0 L =>
        obtain ⟨l1, -⟩ := h2 c0 rfl
        have l4 := l1.2.2.1
        have lb' : LBC S s (c0 :: L) (-1) := by
          unfold LBC at lb
          rw [if_neg (fun q => cg (Or.inl q)), if_neg (fun q => cg (by
            rcases q with q | q | q | q
            · exact Or.inr (Or.inr (Or.inl q))
            · exact Or.inr (Or.inr (Or.inr (Or.inl q)))
            · exact Or.inr (Or.inr (Or.inr (Or.inr (Or.inl q))))
            · exact Or.inr (Or.inr (Or.inr (Or.inr (Or.inr q))))))] at lb
          exact lb
        by_cases c0l : S.o c0.2.1 0 = 303
        · have n1 := nGo1 (v := S.o c0.2.1 0) (Or.inl c0l)
          have ej : j = ceG c0 := by omega
          unfold LBC at lb'
          rw [if_pos c0l] at lb'
          have e2 : (-2 : Int32).toInt = -2 := by decide
          rcases lb'.1 with y | y
          · exact absurd y (by decide)
          · rw [← ej, z2, e2] at y
            exact absurd y (by decide)
        · exact LBC.stop2 L c0 m' e' k' (-1) h3 lb' c0l hb tb j (by omega) ⟨z1, z2⟩
/-- the walk of a label that stands at a loop: the labels before it stand there too -/
theorem y_walk2 {N : Nat} {b s0 V : RS} {S : CS} : ∀ (n : Nat) (L : List CEL) (c : CEL) (m e k x : Int) (s : RS) (j : Int32), STK S s0 (c :: L) m e k → LBC S s0 (c :: L) x → (S.o c.2.1 0 = 303 → x = -2) → BOT b S (c :: L) → TBB b s0 → j.toInt + 1 = (ceG c : Int) + (nGo (S.o c.2.1 0) : Int) → (∀ i : Nat, (i : Int) ≤ j.toInt → s.a 44 i = s0.a 44 i ∧ s.a 46 i = s0.a 46 i) → f_X12_label_125 N n s j = some V → ∃ v : RS, f_X12_label_188 N v = some V ∧ E46 s v ∧ LBC S v (c :: L) (-3) ∧ (∀ i : Nat, (i : Int) < (b.i 43).toInt ∨ j.toInt < (i : Int) → v.a 46 i = s.a 46 i)
  | 0, _, _, _, _, _, _, _, _, _, _, _, _, _, _, _, e => by cases e
  | n + 1, L, c, m, e, k, x, s, j, st, lb, hx, hb, tb, hj, ag, ev => by
    have ev' : b_X12_label_125 N (f_X12_label_125 N n) s j = some V := ev
    unfold b_X12_label_125 f_X12_label_168 at ev'
    obtain ⟨gl1, gl2⟩ := STK.gl L c m e k st hb
    have stop : ¬ S.o c.2.1 0 = 303 → f_X12_label_188 N s = some V → ∃ v : RS, f_X12_label_188 N v = some V ∧ E46 s v ∧ LBC S v (c :: L) (-3) ∧ (∀ i : Nat, (i : Int) < (b.i 43).toInt ∨ j.toInt < (i : Int) → v.a 46 i = s.a 46 i) := fun nl h => by
      refine ⟨s, h, E46.rf s, ?_, fun _ _ => rfl⟩
      exact LBC.mv (c :: L) (-3) (lb.no nl) (fun _ _ => rfl) (fun y hy q => (ag (ceG y) (by
        have y1 := gl2 y hy
        have y2 := nGo1 (v := S.o y.2.1 0) (Or.inl q)
        omega)).2)
    by_cases c0 : j < 0
    · rw [if_pos c0] at ev'
      have c0' := lt_int c0
      rw [z_t0] at c0'
      refine stop (fun q => ?_) ev'
      have := nGo1 (v := S.o c.2.1 0) (Or.inl q)
      omega
    rw [if_neg c0] at ev'
    obtain ⟨hib, ev'⟩ := hf_ite ev'
    have hjn : ((j.toNatClampNeg : Nat) : Int) = j.toInt := by
      show ((j.toInt.toNat : Nat) : Int) = j.toInt
      have := hib.1
      omega
    obtain ⟨jn, hjn'⟩ : ∃ jn : Nat, jn = j.toNatClampNeg := ⟨_, rfl⟩
    rw [← hjn'] at ev' hjn
    have agj := ag jn (by omega)
    by_cases d1 : s.a 44 jn = 2 ∧ s.a 46 jn = -2
    · rw [if_pos d1.1, if_pos d1.2] at ev'
      have isl : S.o c.2.1 0 = 303 := by
        by_cases q : S.o c.2.1 0 = 303
        · exact q
        · exact absurd ⟨agj.1.symm.trans d1.1, agj.2.symm.trans d1.2⟩ (LBC.stop2 L c m e k x st lb q hb tb jn (by omega))
      have n1 := nGo1 (v := S.o c.2.1 0) (Or.inl isl)
      have x3 := hx isl
      have ejc : jn = ceG c := by omega
      have jm : (j + (-1)).toInt = j.toInt - 1 := by
        have y1 := hib.1
        have y2 := hib.2
        have em : (-1 : Int32).toInt = -1 := by decide
        rw [toInt_add] <;> rw [em] <;> omega
      cases L with
      | nil => exact absurd (Or.inl isl) hb.1
      | cons c1 L =>
        obtain ⟨m', e', k', h1, h2, h3⟩ := st
        obtain ⟨l1, -⟩ := h2 c1 rfl
        have l4 := l1.2.2.1
        unfold LBC at lb
        rw [if_pos isl, x3, if_neg (by decide)] at lb
        obtain ⟨v, r1, r2, r3, r4⟩ := y_walk2 n L c1 m' e' k' (-2) (RS.setA s 46 jn (-3)) (j + (-1)) h3 lb.2 (fun _ => rfl) hb tb (by omega) (fun i hi => by
          have z := ag i (by omega)
          refine ⟨z.1, ?_⟩
          rw [setA_ne (by omega)]
          exact z.2) ev'
        refine ⟨v, r1, E46.tr (show E46 s (RS.setA s 46 jn (-3)) from ⟨rfl, rfl, rfl, fun q hq => setA_nk hq⟩) r2, ?_, fun i hi => ?_⟩
        · unfold LBC
          rw [if_pos isl, if_neg (show ¬ (-3 : Int) = -1 by decide)]
          refine ⟨Or.inr ?_, r3⟩
          rw [← ejc, r4 jn (Or.inr (by omega)), show (RS.setA s 46 jn (-3)).a 46 jn = -3 from setA_at]
          decide
        · rw [r4 i (by omega), setA_ne (by omega)]
    · have st2 : f_X12_label_188 N s = some V := by
        by_cases d2 : s.a 44 jn = 2
        · rw [if_pos d2, if_neg (fun z => d1 ⟨d2, z⟩)] at ev'
          exact ev'
        · rw [if_neg d2] at ev'
          exact ev'
      refine stop (fun q => d1 ?_) st2
      have n1 := nGo1 (v := S.o c.2.1 0) (Or.inl q)
      have ejc : jn = ceG c := by omega
      obtain ⟨m', e', k', h1, -, -⟩ := st
      have rf := (h1.2.2.1.2.2.2.1 q).2.2.2.1
      unfold LBC at lb
      rw [if_pos q, hx q] at lb
      have y : (s0.a 46 (ceG c)).toInt = -2 := lb.1.resolve_left (by decide)
      refine ⟨by rw [agj.1, ejc]; exact rf, ?_⟩
      rw [agj.2, ejc]
      exact Int32.toInt_inj.mp (by rw [y]; decide)
end
section
/-! both readers: a label's row more -/
set_option maxHeartbeats 4000000 in
theorem COR.lab {d : Int32} {B : CS} {b : RS} {t0 T : Nat} {L : List CEL} {x x' xn p f k y z : Int} {S P R : CS} {s q u : RS} {c : CEL} {a m : Nat} {x3 : Int32} (hC : COR d B b t0 (c :: L) x S s) (q1 : TOP S s c) (q2 : LOW S s c) (q3 : T = ceT c + wid (S.o c.2.1 0)) (hT : t0 ≤ T) (hm : NMC c S) (w : WAX d T p f k y z S s P q) (hp : 0 ≤ p) (sq : PSQ P R a m 303 x3) (g3 : R.o a 3 = S.i 50) (x38 : R.i 38 = P.i 38) (fu : FRB T q u) (tu : TBR (s46 q (u.a 46)) u) (cu : CDK (q.i 20).toInt q u) (nu : u.i 2 = q.i 2 ∧ u.i 3 = q.i 3 ∧ u.i 8 = q.i 8 ∧ u.i 38 = q.i 38 ∧ u.a 1 = q.a 1 ∧ u.a 4 = q.a 4 ∧ u.b 9 = q.b 9) (e43 : (u.i 43).toInt = (q.i 43).toInt + 1) (e56 : u.i 56 = q.i 56) (ev : ENV d R u) (nn : (q.i 11).toInt ≤ (u.i 11).toInt ∧ phI s ≤ phI u ∧ (q.i 17).toInt ≤ (u.i 17).toInt ∧ (u.i 19).toInt = (s.i 19).toInt) (n21 : (R.i 21).toInt + 2 * (s.i 11).toInt ≤ (S.i 21).toInt + 2 * (u.i 11).toInt) (n54 : (R.i 54).toInt + (s.i 11).toInt ≤ (S.i 54).toInt + (u.i 11).toInt) (up : u.i 59 = q.i 59 ∧ u.a 60 = q.a 60 ∧ u.a 61 = q.a 61 ∧ u.a 62 = q.a 62) (lbx : LBC S (s46 s (u.a 46)) (c :: L) x') (hb46 : ∀ j : Nat, (j : Int) < (b.i 43).toInt → u.a 46 j = s.a 46 j) (ng : ∀ g : Nat, (q.i 43).toInt = (g : Int) → u.a 44 g = 2 ∧ u.b 45 g = R.ol a ∧ (u.a 46 g).toInt = xn ∧ (u.a 48 g = -1 ∧ u.a 49 g = -1) ∧ u.a 50 g = 0 ∧ u.a 51 g = 0) (hxn : x' = (if xn = -1 then -2 else xn)) (frm : u.a 64 T = 5 ∧ u.a 65 T = 1 ∧ (u.a 66 T).toInt = (q.i 43).toInt) : ∃ c1 : CEL, COR d B b t0 (c1 :: c :: L) xn R u ∧ TOP R u c1 ∧ c1.2.1 = a ∧ ceT c1 = T := by
  obtain ⟨w1, w2, wf, ⟨wt, wcd, wn⟩, wz, ⟨j38, j53, j56, j36⟩, ⟨n11, nph, n17, n19⟩, ⟨-, -, n55⟩, ⟨l38, l8⟩⟩ := w
  obtain ⟨nm1, nm2, nm3, nm4, nm5, nm6, nm7, nm8, nm9⟩ := wn
  obtain ⟨nu1, nu2, nu3, nu4, nu5, nu6, nu7⟩ := nu
  have hin := hC.inl q1 q3
  obtain ⟨zX, ⟨r53, r54, r55, r52⟩, ⟨r50, r56, r36⟩, ⟨m1', m2', rr1⟩, ⟨g0, g1', -, g14⟩, -⟩ := id sq
  have hv0 := hC.1
  have t1 := q1.2.1
  have t2 := q1.2.2
  have s43 : (q.i 43).toInt = (s.i 43).toInt := by rw [nm4]
  -- where the statement began, with the labels' loops as they will be
  have hC' : COR d B b t0 (c :: L) x' S (s46 s (u.a 46)) := hC.e46 s46.e (fun j hj => by
    rw [s46.at]
    exact hb46 j hj) lbx
  have hin' : INL S (s46 s (u.a 46)) T (c :: L) := hin.mv ⟨rfl, fun _ _ => rfl, fun _ _ _ _ => ⟨rfl, rfl⟩, fun _ _ => rfl, Int.le_refl _, Int.le_refl _, fun _ _ => rfl, fun k h1 h2 => by omega⟩ rfl rfl rfl
  have fr1 : FRB T s u := wf.tr fu
  have tb0 : TBR (s46 s (u.a 46)) (s46 q (u.a 46)) := by
    have z := wt.e46 (s46.e (s := q) (f := u.a 46))
    rw [s46.at] at z
    exact z
  have tb : TBR (s46 s (u.a 46)) u := tb0.tr tu l38 (by show (s.i 43).toInt ≤ (q.i 43).toInt; omega) (by show (s.i 56).toInt ≤ (q.i 56).toInt; rw [nm6]; exact Int.le_refl _)
  have cd1 : CDK (s.i 20).toInt s u := wcd.tr (cu.wk wcd.1)
  have cd' : CDK ((s46 s (u.a 46)).i 20).toInt (s46 s (u.a 46)) u := ⟨cd1.1, fun j hj => (cd1.2 j hj).trans (by
    show s.a 22 j = (s46 s (u.a 46)).a 22 j
    rw [s46.e.2.2.2 22 (by decide)])⟩
  have ckall : CKZ S R := wz.tr j53 zX
  have eo := (hin.o ckall c List.mem_cons_self).1
  have low : LOW R u c := q2.mv eo fr1 (by omega)
  have z44 : S.i 44 = s.i 11 := hv0.1.2.2.2.1.1
  have z45 : R.i 44 = u.i 11 := ev.1.2.2.2.1.1
  have rte : RTE S R := by
    unfold RTE
    rw [z44, z45, r55]
    exact ⟨n21, n54, by omega⟩
  obtain ⟨sj1, sj2, sj3, sj4, sj5, sj6⟩ := id w1.sj
  have hi11 := i11_hi w1
  have hinP : INL P q T (c :: L) := hin.mv wz j53 nm4 nm6
  have eoP : ∀ y ∈ c :: L, P.o y.2.1 = S.o y.2.1 := fun y hy => (hin.o wz y hy).1
  have eP : ∀ y ∈ c :: L, R.o y.2.1 = P.o y.2.1 := fun y hy => (hinP.o zX y hy).1
  obtain ⟨b29, b30, b0, col, hc⟩ := id hC.2.2.2.2.2.2.2.2.2.2
  have jP : JMQ P q (c :: L) (b.i 59).toInt (b.i 29).toInt := hC.2.2.1.mv b29 hv0.sj.1 hin wz wf wt
  have jp := hC.jp
  obtain ⟨-, -, -, -, -, -, j7, -⟩ := id jP
  obtain ⟨k1, k2, k3, k4, k5⟩ := j7 c List.mem_cons_self
  rw [eoP c List.mem_cons_self] at k1 k2 k3 k4 k5
  have lo29 : (s.i 29).toInt ≤ (q.i 29).toInt := wt.2.2.2.2.2.1
  have t21 := hC.2.2.2.2.2.2.2.2.1.1
  have q54 := hC.2.2.2.2.2.2.2.2.1.2.2
  have n8 := hC.2.2.2.2.2.2.2.2.1.2.1
  have h8 := l8 n8
  have o1i : (R.o a 1).toInt = (P.i 54).toInt + 1 := by rw [g1', ad1 sj1 (by omega)]
  obtain ⟨g, hg⟩ : ∃ g : Nat, (q.i 43).toInt = (g : Int) := ⟨(q.i 43).toInt.toNat, by have := w1.wp.1.1; omega⟩
  obtain ⟨y44, y45, y46, ⟨y48, y49⟩, y50, y51⟩ := ng g hg
  have em1 : (-1 : Int32).toInt = -1 := by decide
  obtain ⟨c1, hc1⟩ : ∃ c1 : CEL, c1 = (c.1 + 1, a, T, g, ceW c + nWl (S.o c.2.1 0)) := ⟨_, rfl⟩
  have v1 : c1.1 = c.1 + 1 := by rw [hc1]
  have v2 : c1.2.1 = a := by rw [hc1]
  have v3 : ceT c1 = T := by rw [hc1]; rfl
  have v4' : ceG c1 = g := by rw [hc1]; rfl
  have v4 : ceG c1 = ceG c + nGo (S.o c.2.1 0) := by rw [v4']; omega
  have v5 : ceW c1 = ceW c + nWl (S.o c.2.1 0) := by rw [hc1]; rfl
  clear hc1
  have em2 : m = c.1 + 1 := by
    have a1 := q1.1
    rw [j53] at m1'
    omega
  have s20 : 0 ≤ (s.i 20).toInt := by
    have := hC.2.2.2.2.2.1.2.2.1.1
    omega
  have iar : IAR R u := by
    obtain ⟨⟨z1, z2⟩, z3⟩ := hC.2.2.2.2.2.2.2.2.2.1
    have e56' : R.i 56 = S.i 56 := r56.trans j56
    unfold IAR
    rw [e56']
    refine ⟨⟨fun z => ?_, fun z => ?_⟩, fun z => ?_⟩
    · obtain ⟨g', w1, w2⟩ := z1 z
      have y1 := tb.2.1 g' w1
      have y2 : (s46 s (u.a 46)).a 44 g' = s.a 44 g' := by rw [s46.e.2.2.2 44 (by decide)]
      exact ⟨g', by omega, (y1.1.trans y2).trans w2⟩
    · obtain ⟨g', w1, w2⟩ := z
      by_cases cg : (g' : Int) < (s.i 43).toInt
      · have y1 := tb.2.1 g' cg
        have y2 : (s46 s (u.a 46)).a 44 g' = s.a 44 g' := by rw [s46.e.2.2.2 44 (by decide)]
        exact z2 ⟨g', cg, (y1.1.trans y2).symm.trans w2⟩
      · have eg : g' = g := by omega
        rw [eg, y44] at w2
        exact absurd w2 (by decide)
    · obtain ⟨w1, w2, a', w3⟩ := z3 z
      exact ⟨by rw [r53, j53]; omega, w2, a', (ckall.2.1 _ (by omega)).trans w3⟩
  have hcol : ∃ col : Nat → Option (Nat × Bool), COL R u (c1 :: c :: L) col (b.i 20).toInt := by
    refine ⟨col, ((hc.e46 (s46.e (f := u.a 46))).mv b0 hin' ckall fr1.e46l tb cd').addg (fun _ => ?_) (by rw [v2, g0]; decide) (fun kk z => ?_)⟩
    · rw [v4', y48, y49, em1]
      exact ⟨by omega, by omega⟩
    · exfalso
      unfold PLF at z
      rw [v2, g0] at z
      rcases z with ⟨z | z, -⟩ | ⟨z, -⟩ | ⟨z | z, -⟩ <;> exact absurd z (by decide)
  have lb : LBC R u (c :: L) x' := LBC.mv (c :: L) _ lbx (fun y hy => (hin.o ckall y hy).1) (fun y hy h => by rw [s46.at])
  have isg : isGo (R.o a 0) := by
    rw [g0]
    exact Or.inl rfl
  have nw : ¬ isWl (R.o a 0) := by
    rw [g0]
    unfold isWl
    decide
  have nt : ¬ isTy (R.o a 0) := by
    rw [g0]
    unfold isTy
    decide
  refine ⟨c1, hC'.push hin' hT ev fr1.e46l tb cd' ⟨?_, ?_, ?_, ?_, ?_, ?_⟩ (by show (s.i 43).toInt ≤ (u.i 43).toInt; omega) (by show (s.i 56).toInt ≤ (u.i 56).toInt; rw [e56, nm6]; exact Int.le_refl _) ckall jP hinP eP fu (fun y hy hgo bb => ?_) ⟨by have := jp.1.1; omega, fun y hy ty => ?_, w1.wp.2⟩ ⟨sj1, sj3⟩ r54 r55 r52 (by rw [v2, g0, x38, j38]; show _ = _ + ((0 : Nat) : Int); omega) (by rw [r53, j53]; omega) rte ⟨?_, ?_, ?_, ?_⟩ (by omega) (by omega) (by rw [nu4]; omega) (by show (s.i 38).toInt ≤ (u.i 38).toInt; rw [nu4]; exact l38) up.1 up.2.1 up.2.2.1 up.2.2.2 (CST.pl (by rw [v1, v2, ← em2]; exact rr1) (by rw [v1]; omega) (by rw [v2, v3, v4']; exact RFR.m303 g0 ⟨frm.1, frm.2.1, frm.2.2.trans hg, y44, y45⟩) (by rw [v2, g0]; decide) (by rw [v2]; exact nt)) ⟨v1, by rw [v3, eo]; exact q3, by rw [v4, eo], by rw [v5, eo], by rw [v2, eo, o1i]; omega, by rw [v2, eo, g14]; exact k4, fun w => by rw [v2, eo, g14]; rw [eo] at w; exact (k5 w).2, fun w1 w2 w3 => by rw [v2, eo, g3]; rw [eo] at w1 w2 w3; exact hm w1 w2 w3, by rw [v2, g0]; unfold isKS isOne isTy; decide⟩ low ?_ iar hcol (by rw [v2]; exact o1i) (by rw [v2]; exact g14) (by rw [v2, g0]; decide) (fun _ bb => ?_) (fun w => absurd w (by rw [v2]; exact nt)) (r56.trans j56) (by rw [v2]; exact g3), ⟨?_, ?_, ?_⟩, v2, v3⟩
  · exact nu1.trans nm1
  · exact nu2.trans nm2
  · exact nu3.trans nm3
  · rw [s46.e.2.2.2 1 (by decide)]
    exact nu5.trans nm7
  · rw [s46.e.2.2.2 4 (by decide)]
    exact nu6.trans nm8
  · exact nu7.trans nm9
  · have lt := (hinP y hy).2.2.2.1 hgo
    have w' := tu.2.1 (ceG y) lt
    unfold flg
    rw [w'.2.2.2.2.1, w'.2.2.2.2.2.1, s46.e.2.2.2 50 (by decide), s46.e.2.2.2 51 (by decide)]
  · rw [eoP y hy] at ty
    have w1 := wid1 (S.o y.2.1 0)
    have w2 := (hin y hy).2.2.1
    rw [(wf (ceT y) (by omega)).2.2.1]
    have := jp.1.2.1 y hy ty
    omega
  · show (s.i 11).toInt ≤ (u.i 11).toInt
    omega
  · show phI s + dbt (R.o c1.2.1 0) ≤ phI u
    rw [v2, g0]
    show phI s + 0 ≤ phI u
    omega
  · show (s.i 17).toInt ≤ (u.i 17).toInt
    omega
  · show (u.i 19).toInt = (s.i 19).toInt + (nSg (R.o c1.2.1 0) : Int)
    rw [v2, g0]
    show (u.i 19).toInt = (s.i 19).toInt + ((0 : Nat) : Int)
    have := nn.2.2.2
    omega
  · unfold LBC
    rw [v2, if_pos g0, v4']
    refine ⟨Or.inr y46, ?_⟩
    rw [← hxn]
    exact lb
  · unfold flg
    rw [v4', y50, y51]
    by_cases z : bb = 0
    · exact if_pos z
    · exact if_neg z
  · rw [r53, j53, v1]
    have := q1.1
    omega
  · rw [v2, v4', nGo1 isg, e43, hg]
    omega
  · rw [v2, v5, nWl.eq nw, e56, nm6, q1.2.2]
    omega
end
section
/-! both readers: NAME : -/
/-- as st_go, for a name: nothing is laid -/
theorem st_nm {N : Nat} {d : Int32} {B : CS} {b : RS} {t0 T n : Nat} {L : List CEL} {x : Int} {S : CS} {s U : RS} {c : CEL} (hC : COR d B b t0 (c :: L) x S s) (hS : STO c T S s) (h10 : s.i 10 = 2) (g : f_X12_parse_10 N n s = some U) : ∃ (m : Nat) (q : RS), f_X12_parse_10 N m q = some U ∧ WAY d T 0 0 0 0 0 S s (CS.setI (CS.setI S 36 1) 24 ((S.i 24) + 1)) q ∧ q.a 64 T = 5 ∧ q.a 65 T = 0 ∧ q.i 10 = 2 ∧ 3 ≤ phI s ∧ q.i 11 = s.i 11 ∧ q.l = s.l ∧ qe q = qe s ∧ NMV s q := by
  obtain ⟨q1, q2, q3, q4, q5, q6⟩ := id hS
  have hv := hC.1
  obtain ⟨m1, V1, hV1, g1⟩ := rl_2 g q4 hv.1.2.1 q5
  have hV2 := r_stat q4 h10 (K := 5) (Or.inr (Or.inr (Or.inr (Or.inr (Or.inr (Or.inr (Or.inr (Or.inr (Or.inr (Or.inr (Or.inr (Or.inr (Or.inr (Or.inr ⟨rfl, rfl⟩)))))))))))))) hV1
  have ph3 : 3 ≤ phI s := by
    have a := hC.2.2.2.2.2.2.1.2.1
    have b := (PDM.ge S (c :: L)).1
    have e := hC.2.2.2.2.2.2.2.2.2.2.2.1
    omega
  have w0 := WAY.stm (K := 5) hv q4
  obtain ⟨s1, hs1⟩ : ∃ y, y = RS.setA (RS.setI s 53 ((s.i 53) + 1)) 64 T 5 := ⟨_, rfl⟩
  have i1 : ∀ k : Nat, k ≠ 53 → s1.i k = s.i k := by
    rw [hs1]
    exact fun k h => if_neg h
  have a64 : s1.a 64 T = 5 := by
    rw [hs1]
    exact setA_at
  have aq : ∀ k : Nat, k ≠ 64 → s1.a k = s.a k := by
    rw [hs1]
    exact fun k h => setA_nk h
  have l1 : s1.l = s.l := by rw [hs1]; rfl
  have qs : qe s1 = qe s := by rw [hs1]; rfl
  rw [← hs1] at hV2 w0
  clear hs1
  unfold f_X12_stat_240 at hV2
  obtain ⟨-, hV2⟩ := hf_ite hV2
  rw [tp_nat q4, a64, if_neg (by decide), if_pos rfl] at hV2
  have hh : s1 = V1 := Option.some.inj hV2
  rw [← hh] at g1
  exact ⟨m1, s1, g1, w0, a64, by rw [aq 65 (by decide)]; exact q6, by rw [i1 10 (by decide)]; exact h10, ph3, i1 11 (by decide), l1, qs, i1 38 (by decide), fun j _ => by rw [aq 40 (by decide)]⟩
/-- the base, as p15's rows ask for it -/
theorem BSE.arm {S : CS} : ∀ (L : List CEL) (c : CEL), BSE S (c :: L) → -1 ≤ (S.i 56).toInt ∧ (∀ a : Nat, 0 ≤ (S.i 56).toInt → S.r 51 (S.i 56).toInt.toNat = some a → S.o a 0 = 302) ∧ (S.i 56).toInt ≤ (c.1 : Int) ∧ ∀ i : Nat, (S.i 56).toInt < (i : Int) → i ≤ c.1 → ∃ y ∈ c :: L, y.1 = i
  | [], c, h => by
    obtain ⟨h1, h2, h3, h4⟩ := h
    rcases h4 with ⟨z1, z2⟩ | ⟨z1, z2, z3⟩
    · refine ⟨by omega, fun a _ e => ?_, by omega, fun i i1 i2 => by omega⟩
      have : (S.i 56).toInt.toNat = c.1 := by omega
      rw [this, h1] at e
      cases e
      exact z2
    · refine ⟨by omega, fun a y _ => by omega, by omega, fun i i1 i2 => ⟨c, List.mem_cons_self, by omega⟩⟩
  | c0 :: L, c, h => by
    obtain ⟨h1, h2, h3, h4, h5⟩ := h
    obtain ⟨i1, i2, i3, i4⟩ := BSE.arm L c0 h5
    refine ⟨i1, i2, by omega, fun i j1 j2 => ?_⟩
    by_cases z : i = c.1
    · exact ⟨c, List.mem_cons_self, z.symm⟩
    · obtain ⟨y, hy, e⟩ := i4 i j1 (by omega)
      exact ⟨y, List.mem_cons_of_mem _ hy, e⟩
theorem BSE.at {S : CS} : ∀ (L : List CEL) (c : CEL), BSE S (c :: L) → ∀ y ∈ c :: L, S.r 51 y.1 = some y.2.1 ∧ y.1 < 400 ∧ (y.1 : Int) < (S.i 53).toInt
  | [], c, h, y, hy => by
    rcases List.mem_cons.mp hy with rfl | hy
    · exact ⟨h.1, h.2.1, h.2.2.1⟩
    · exact absurd hy List.not_mem_nil
  | c0 :: L, c, h, y, hy => by
    rcases List.mem_cons.mp hy with rfl | hy
    · exact ⟨h.1, h.2.1, h.2.2.1⟩
    · exact BSE.at L c0 h.2.2.2.2 y hy
theorem BSE.mv {S R : CS} : ∀ (L : List CEL), BSE S L → R.i 56 = S.i 56 → R.i 53 = S.i 53 → (∀ y ∈ L, R.r 51 y.1 = S.r 51 y.1 ∧ R.o y.2.1 = S.o y.2.1) → BSE R L
  | [], h, _, _, _ => h
  | [c], h, e1, e2, e3 => by
    obtain ⟨h1, h2, h3, h4⟩ := h
    obtain ⟨z1, z2⟩ := e3 c List.mem_cons_self
    exact ⟨z1.trans h1, h2, by rw [e2]; exact h3, by rw [e1, z2]; exact h4⟩
  | c :: c0 :: L, h, e1, e2, e3 => by
    obtain ⟨h1, h2, h3, h4, h5⟩ := h
    exact ⟨(e3 c List.mem_cons_self).1.trans h1, h2, by rw [e2]; exact h3, h4, BSE.mv (c0 :: L) h5 e1 e2 (fun y hy => e3 y (List.mem_cons_of_mem _ hy))⟩
/-- a label's row is paid -/
theorem PSR.lab {S R X : CS} {a m : Nat} {x3 : Int32} {l : Int64} (h : PSR S R a m 303 x3) (w : RWI S) (hm : (S.i 53).toInt = (m : Int)) (m4 : m < 399) (er : X.r = R.r) (eL : X.L = R.L) (ek : X.k = R.k) (eh : X.hs = R.hs) (e53 : X.i 53 = R.i 53) (eo : ∀ b : Nat, X.o b 0 = R.o b 0) (eol : ∀ b : Nat, b ≠ a → X.ol b = R.ol b) (el : X.ol a = l) (kn : 97 ≤ l.toInt ∧ l.toInt ≤ 122 → KLS S m (l.toInt - 97).toNat = false) (pay : WCS S m + (if 97 ≤ l.toInt ∧ l.toInt ≤ 122 then 2 else 3) ≤ eI X) (psg : SGS S m ≤ sgI X) : RWI X := by
  obtain ⟨-, -, ⟨j53, -⟩, rr1, rr2, ⟨z1, z2, z3⟩, nb, ob1, ⟨f0, -, -, fl⟩, -, -⟩ := id h
  have es : (cnI S).toNat = m := by
    show (S.i 53).toInt.toNat = m
    rw [hm]
    exact Int.toNat_natCast _
  have nr := w.2.2.2.1.2
  have iq := w.2.2.2.2.1
  rw [es] at nr iq
  have sX : ∀ b : Nat, b ≠ a → X.o b 0 = S.o b 0 ∧ X.ol b = S.ol b := fun b hb => by
    have z := ob1 b hb
    exact ⟨by rw [eo b, z.1], by rw [eol b hb, z.2]⟩
  have x0 : X.o a 0 = 303 := (eo a).trans f0
  have e53' : (X.i 53).toInt = (m : Int) + 1 := by rw [e53, j53, ad1 (by omega) (by omega), hm]
  have ec : (cnI X).toNat = m + 1 := by
    show (X.i 53).toInt.toNat = m + 1
    rw [e53']
    omega
  have rX : X.r 51 m = some a := by rw [er]; exact rr1
  -- a state in which just the new row is other
  have csm : CSQ S X m := fun i hi => ⟨by rw [er]; exact rr2 51 i (fun z => by omega), fun b hb => sX b (nb i b (by omega) (by omega) hb)⟩
  obtain ⟨c1, c2, c3, c4, c5⟩ := csm.sums nr
  have nrX : NR X (m + 1) := fun i hi => by
    by_cases c : i = m
    · exact ⟨a, by rw [c]; exact rX⟩
    · obtain ⟨b, hb⟩ := nr i (by omega)
      exact ⟨b, by rw [er, rr2 51 i (fun z => c z.2)]; exact hb⟩
  have rsX : RSQ X X m := fun i _ => ⟨rfl, fun _ _ => ⟨rfl, rfl⟩⟩
  have nrm : NR X m := fun i hi => nrX i (by omega)
  have iqX : IQ X m := fun k hk => by
    obtain ⟨i1, i2, i3, i4, i5⟩ := (csm.lo hk).sums (fun i hi => nr i (by omega))
    rw [i1, i3, i4, i5]
    exact iq k hk
  obtain ⟨u1, u2, -, -, -⟩ := rsX.put nrm rX
  have sg0 : sgn X a = 0 := by
    unfold sgn
    rw [x0]
    decide
  have fin : IQ X (m + 1) ∧ WCS X (m + 1) ≤ eI X := by
    by_cases sh : 97 ≤ l.toInt ∧ l.toInt ≤ 122
    · rw [if_pos sh] at pay
      obtain ⟨y1, y2⟩ := iqX.label rsX nrm rX ⟨x0, by rw [el]; exact sh⟩ (by rw [el, c5]; exact kn sh)
      exact ⟨y1, by rw [y2, c1]; exact pay⟩
    · rw [if_neg sh] at pay
      obtain ⟨y1, y2⟩ := iqX.plain rsX nrm rX ⟨by rw [x0]; decide, by rw [x0]; decide, by rw [x0]; decide, fun z => sh (by rw [el] at z; exact z.2)⟩
      exact ⟨y1, by rw [y2, c1]; exact pay⟩
  unfold RWI
  rw [ec]
  refine ⟨fun i b hi hb => ?_, fun i j b hi hj ha hb => ?_, by rw [eL, eh]; exact z3, ⟨by show 0 ≤ (X.i 53).toInt; omega, nrX⟩, fin.1, fin.2, by rw [u2, sg0, c2]; omega⟩
  · rw [er] at hb
    have q := z1 i b hi hb
    unfold oK at *
    rw [eL, ek]
    exact q
  · rw [er] at ha hb
    exact z2 i j b hi hj ha hb
end
section
/-! both readers: a statement that begins with a name -/
theorem XO.don2 {d : Int32} {t : Nat} {S R : CS} {s u : RS} (x : XO d t S s R u) (h75 : u.i 75 = R.i 36 ∧ (R.i 36 = 0 ∨ R.i 36 = 1)) : DON d t S s R u := by
  obtain ⟨w1, w2, w3, w4, w5, w6, w7, w8, w9⟩ := x
  obtain ⟨⟨t1, t2, t3, t4, t5, t6, t7, t8, t9, t10⟩, tr⟩ := w4.1
  obtain ⟨⟨a1, -, a3, a4, a5, a6⟩, b1, b2, b3, b4, b5, b6, b7, b8⟩ := w5
  exact ⟨w1, w2, w3, tr, w4.2, ⟨t1, t2, t3, t5, t6, t7, t8, t9, t10⟩, ⟨a1, b1, b2, b3, b4, b5, b6, b7⟩, ⟨a3, a5, a6⟩, b8, ⟨w6, w7, w8, w9⟩, h75, fun q => by rw [t4]; omega, by rw [t4]; exact Int.le_refl _⟩
theorem DON.dn {d : Int32} {B : CS} {b : RS} {t0 T : Nat} {L : List CEL} {x p f k y z : Int} {S S1 R : CS} {s s1 u : RS} {c : CEL} (hC : COR d B b t0 (c :: L) x S s) (hS : STO c T S s) (hT : t0 ≤ T) (w : WAY d T p f k y z S s S1 s1) (n : 0 ≤ p ∧ -1 ≤ f ∧ k = 0 ∧ y ≤ 0 ∧ 0 ≤ z) (h : DON d T S1 s1 R u) : DN d B b t0 T c L x R u := by
  obtain ⟨h1, h2, h3, h4, h5, ⟨i1, i2, i3, i4, i5⟩, ⟨n1, n2, n3, n4⟩, ⟨r1, r2, r3⟩⟩ := w
  have k11 := hC.1.1.2.2.2.1.1
  have k11' := h1.1.2.2.2.1.1
  have rt : RTE S S1 := by
    unfold RTE
    rw [k11, k11']
    exact ⟨by omega, by omega, by omega⟩
  have e19 : s1.i 19 = s.i 19 := Int32.toInt_inj.mp (by omega)
  exact st_done hC hS hT h3 h4 h5 ⟨i1, i3, i4⟩ rt ⟨by omega, n3, e19, by omega⟩ h
/-- the place itself is good -/
def JQ2 (U : RS) (p q : Nat) : JKT := fun FC SF nm X ω j z => GU2 FC SF U nm X p q j.h (ω + j.l - p) j.c → z
set_option maxHeartbeats 8000000 in
/-- a label that is not seen yet -/
theorem lb_new {N : Nat} (hN : 1000 ≤ N) {E1 : CS → Option (Unit × CS)} {E2 : CS → Option (Int32 × CS)} {d : Int32} {B : CS} {b : RS} {t0 T n : Nat} {L : List CEL} {x : Int} {S P : CS} {s q V U : RS} {c : CEL} {l : Int64} {R : Unit × CS} {Aj : JBA} (hC : COR d B b t0 (c :: L) x S s) (q1 : TOP S s c) (q2 : LOW S s c) (q3 : T = ceT c + wid (S.o c.2.1 0)) (hT : t0 ≤ T) (hm : NMC c S) (hx : S.o c.2.1 0 = 303 → x = -2) (hB : BOT b S (c :: L)) (hBS : BSE S (c :: L)) (w : WAY d T 1 3 0 (-2) 1 S s P q) (c58 : P.i 43 = 58) (k64 : q.a 64 T = 5) (k65 : q.a 65 T = 0) (hal : ALN (S.i 43)) (hpay : plI S + (if 97 ≤ l.toInt ∧ l.toInt ≤ 122 then 2 else 3) ≤ eI P) (hno : ∀ y ∈ c :: L, ¬ (P.o y.2.1 0 = 303 ∧ P.ol y.2.1 = l)) (e : f_X7_named_73 N E1 E2 P l = some R) (hV : f_X12_label_60 N q (q.i 63) l = some V) (g : f_X12_parse_10 N n V = some U) (jg : KU3 U s → JRW Aj U B b (vws S s (c :: L)) S s → JRG Aj U B b (vws S s (c :: L)) s [] (JQ2 U (pcC P) (pcR q)) (-1) 0 P q) : DMD d B R.2 U ∨ ∃ (m : Nat) (u : RS), f_X12_parse_10 N m u = some U ∧ NEW d B b t0 c L R.2 u (JTR Aj U B b (c :: L) S s) := by
  have hv := hC.1
  have t21 := hC.2.2.2.2.2.2.2.2.1.1
  have q54 := hC.2.2.2.2.2.2.2.2.1.2.2
  have hin := hC.inl q1 q3
  obtain ⟨cP, tP, lP, oP⟩ := hC.way q1 q2 q3 hT w ⟨by omega, by omega, by omega, by omega, by omega⟩
  have eoP : ∀ y ∈ c :: L, P.o y.2.1 = S.o y.2.1 := fun y hy => (hin.o w.2.2.2.2.1 y hy).1
  -- the class, taken apart
  unfold f_X7_named_73 at e
  obtain ⟨x15, ex15, e⟩ := hf_bind e
  obtain ⟨pp, epp, e⟩ := hf_bind e
  -- the reference
  unfold f_X12_label_60 at hV
  obtain ⟨o, ho, hV⟩ := hf_bind hV
  obtain ⟨-, hV⟩ := hf_ite hV
  rw [tp_nat w.2.1] at hV
  obtain ⟨p5, hp5, hV⟩ := hf_bind hV
  obtain ⟨oe, oa⟩ := g_goa ho
  obtain ⟨b1, b2, b3, b4, b5, b6, ⟨b7, b8, b9⟩, b10⟩ := id oa
  have evz : ENV d P (RS.setA o.2 66 T o.1) := setA_env (Or.inr (by omega)) (oa.env w.1)
  have tz : tpI (RS.setA o.2 66 T o.1) = (T : Int) := by
    show (o.2.i 63).toInt = (T : Int)
    rw [b1 63 (by decide)]
    exact w.2.1
  obtain ⟨d1, d2, d3, d4, d5, d6, d7, d8, d9⟩ := y_nx hN evz tz (by rw [c58]; decide) ex15 hp5
  obtain ⟨a1, a2, a3, a4, a5, a6, a7, a8, a9, a10⟩ := evz.adv hN (by rw [c58]; decide) ex15 hp5
  obtain ⟨-, adv, -, -⟩ := y_adv hN evz.1 ex15 hp5
  have gn := ((ADV.gain evz.1.2.2.2.2.2.2.1 adv).2.1 (by rw [c58]; decide)).2
  have zi : ∀ k : Nat, (RS.setA o.2 66 T o.1).i k = o.2.i k := fun _ => rfl
  have za : ∀ k : Nat, k ≠ 66 → (RS.setA o.2 66 T o.1).a k = o.2.a k := fun k h => setA_nk h
  have z66 : (RS.setA o.2 66 T o.1).a 66 T = o.1 := setA_at
  have zb : (RS.setA o.2 66 T o.1).b = o.2.b := rfl
  have fz : FRB T q (RS.setA o.2 66 T o.1) := (oa.frb T).tr (setA_frb (Or.inr ⟨by omega, by omega, Nat.le_refl _⟩))
  have qz : qe (RS.setA o.2 66 T o.1) = qe q := kre_f_X12_goal N q _ _ o ho
  obtain ⟨z, hz⟩ : ∃ z, z = RS.setA o.2 66 T o.1 := ⟨_, rfl⟩
  rw [← hz] at qz hp5 evz tz d3 d4 d6 d7 d8 d9 a2 a6 a7 zi za z66 zb fz
  clear hz
  have q43s : q.i 43 = s.i 43 := w.2.2.2.1.1.1.2.2.2.2.1
  obtain ⟨gg, hgg⟩ : ∃ gg : Nat, (q.i 43).toInt = (gg : Int) := ⟨(q.i 43).toInt.toNat, by omega⟩
  obtain ⟨⟨c44, c45⟩, ⟨c46, c48, c49⟩, c50', c51⟩ := b10 gg hgg
  have z43 : (z.i 43).toInt = (gg : Int) + 1 := by rw [zi 43, b9, hgg]
  obtain ⟨g44, g45, g46, g47, g50, g51, g48, g49⟩ := d4.1.2.2.1 gg (by omega)
  rw [za 44 (by decide), c44] at g44
  rw [zb, c45] at g45
  rw [za 46 (by decide), c46] at g46
  rw [za 48 (by decide), c48] at g48
  rw [za 47 (by decide), goa47 ho hgg] at g47
  rw [za 49 (by decide), c49] at g49
  rw [za 50 (by decide), c50'] at g50
  rw [za 51 (by decide), c51] at g51
  have lo5 : ∀ j : Nat, (j : Int) < (q.i 43).toInt → p5.a 44 j = q.a 44 j ∧ p5.b 45 j = q.b 45 j ∧ p5.a 46 j = q.a 46 j ∧ p5.a 47 j = q.a 47 j ∧ p5.a 50 j = q.a 50 j ∧ p5.a 51 j = q.a 51 j ∧ p5.a 48 j = q.a 48 j ∧ p5.a 49 j = q.a 49 j := fun j hj => by
    obtain ⟨y1, y2, y3, y4, y5, y6, y7, y8⟩ := d4.1.2.2.1 j (by omega)
    rw [y1, y2, y3, y4, y5, y6, y7, y8, za 44 (by decide), zb, za 46 (by decide), za 47 (by decide), za 50 (by decide), za 51 (by decide), za 48 (by decide), za 49 (by decide)]
    exact ⟨b4 44 j hj, b6 j hj, b4 46 j hj, b4 47 j hj, b4 50 j hj, b4 51 j hj, b4 48 j hj, b4 49 j hj⟩
  obtain ⟨x2, x3, x8, x18, x24, x29, x33, x38, x42, x43, x52, x53, x54, x55, x56, x59, x63, x75, xa1, xa4, xa25, xa26, xa27, xa28, xa30, xa34, xa37, xa40, xa41, xa44, xa46, xa47, xa48, xa49, xa50, xa51, xa57, xa58, xa60, xa61, xa62, xa64, xa65, xa66, xa67, xa68, xa69, xa70, xa71, xa72, xa73, xb9, xb39, xb45, xb74⟩ := qj_eq a2
  have I : ∀ k : Nat, k ≠ 43 → p5.i k = z.i k → p5.i k = q.i k := fun k h1 e => by
    rw [e, zi k]
    exact b1 k h1
  have A : ∀ k : Nat, 51 < k → k ≠ 66 → p5.a k = z.a k → p5.a k = q.a k := fun k h1 h2 e => e.trans ((za k h2).trans (b3 k (Or.inr (Or.inr h1))))
  have A' : ∀ k : Nat, k < 44 → p5.a k = z.a k → p5.a k = q.a k := fun k h1 e => e.trans ((za k (by omega)).trans (b3 k (Or.inl h1)))
  have Bb : ∀ k : Nat, k ≠ 45 → p5.b k = z.b k → p5.b k = q.b k := fun k h1 e => e.trans (by rw [zb]; exact b5 k h1)
  have tb5 : TBR q p5 := ⟨fun j _ => ⟨by rw [Bb 39 (by decide) xb39], by rw [A' 40 (by decide) xa40], by rw [A' 41 (by decide) xa41]⟩, lo5, fun j _ => ⟨by rw [A 57 (by decide) (by decide) xa57], by rw [A 58 (by decide) (by decide) xa58]⟩, ⟨by rw [I 59 (by decide) x59]; exact Int.le_refl _, fun j k1 k2 => by rw [I 59 (by decide) x59] at k2; omega⟩, fun j _ => ⟨by rw [A 60 (by decide) (by decide) xa60], by rw [A 61 (by decide) (by decide) xa61], by rw [A 62 (by decide) (by decide) xa62]⟩, by rw [I 29 (by decide) x29]; exact Int.le_refl _, fun j _ => by rw [A' 30 (by decide) xa30], by rw [I 33 (by decide) x33]; exact Int.le_refl _, fun j _ => ⟨by rw [A' 34 (by decide) xa34], by rw [A' 37 (by decide) xa37]⟩, by rw [I 24 (by decide) x24]; exact Int.le_refl _, fun j _ => ⟨by rw [A' 25 (by decide) xa25], by rw [A' 27 (by decide) xa27], by rw [A' 28 (by decide) xa28]⟩⟩
  -- the same, before the goal
  obtain ⟨q', hq'⟩ : ∃ y, y = RS.setI p5 43 (s.i 43) := ⟨_, rfl⟩
  have qi : ∀ k : Nat, k ≠ 43 → q'.i k = p5.i k := by
    rw [hq']
    exact fun k h => if_neg h
  have q43 : q'.i 43 = s.i 43 := by
    rw [hq']
    rfl
  have qa : q'.a = p5.a ∧ q'.b = p5.b ∧ q'.l = p5.l := by rw [hq']; exact ⟨rfl, rfl, rfl⟩
  clear hq'
  have i20 : p5.i 20 = q.i 20 := by
    rw [a6, zi 20]
    exact b1 20 (by decide)
  have a22 : p5.a 22 = q.a 22 := by
    rw [a7, za 22 (by decide)]
    exact b3 22 (by decide)
  have f5 : FRB T q p5 := fz.tr (d3 T)
  have tbq : TBR q q' := by
    have h := tb5
    unfold TBR at *
    rw [qa.1, qa.2.1, qi 59 (by decide), qi 29 (by decide), qi 33 (by decide), qi 24 (by decide)]
    exact h
  have t9 : TBK9 q q' := ⟨⟨⟨(qi 2 (by decide)).trans (I 2 (by decide) x2), (qi 3 (by decide)).trans (I 3 (by decide) x3), (qi 8 (by decide)).trans (I 8 (by decide) x8), (qi 38 (by decide)).trans (I 38 (by decide) x38), q43.trans q43s.symm, trivial, (qi 56 (by decide)).trans (I 56 (by decide) x56), by rw [qa.1]; exact A' 1 (by decide) xa1, by rw [qa.1]; exact A' 4 (by decide) xa4, by rw [qa.2.1]; exact Bb 9 (by decide) xb9⟩, tbq⟩, ⟨by rw [qi 20 (by decide), i20]; exact Int.le_refl _, fun j _ => by rw [qa.1, a22]⟩⟩
  have i11 : (q.i 11).toInt + 1 ≤ (p5.i 11).toInt := by
    rw [zi 11, b1 11 (by decide)] at d6
    exact d6
  have i17 : (p5.i 17).toInt = (q.i 17).toInt + 1 := by rw [d8, zi 17, b1 17 (by decide)]
  have i19 : p5.i 19 = q.i 19 := by rw [d9, zi 19, b1 19 (by decide)]
  have ph5 : phI p5 = phI q + 3 := by
    unfold phI
    rw [i20, i17]
    omega
  have phq : phI q' = phI p5 := by
    unfold phI
    rw [qi 17 (by decide), qi 20 (by decide)]
  have evq : ENV d x15.2 q' := d1.kq (qi 38 (by decide)) (qi 2 (by decide)) (qi 3 (by decide)) (qi 18 (by decide)) (qi 53 (by decide)) (qi 54 (by decide)) (qi 55 (by decide)) (by rw [qa.1]) (by rw [qa.1]) (by rw [qa.1]) (by rw [qa.2.1]) (by rw [qa.2.1]) (qi 10 (by decide)) (qi 11 (by decide)) (qi 12 (by decide)) (qi 14 (by decide)) (qi 15 (by decide)) (qi 17 (by decide)) (qi 19 (by decide)) qa.2.2 ⟨by rw [qi 20 (by decide)]; exact d1.2.2.2.2.2.2.1, by rw [phq]; exact d1.2.2.2.2.2.2.2.1⟩ (w.1.wp.of (by rw [q43, q43s]; exact Int.le_refl _) ((qi 56 (by decide)).trans (I 56 (by decide) x56)) ((qi 59 (by decide)).trans (I 59 (by decide) x59)) ((qi 29 (by decide)).trans (I 29 (by decide) x29)) (by rw [qa.1]; exact A 58 (by decide) (by decide) xa58) (by rw [qa.1]; exact A 62 (by decide) (by decide) xa62))
  have wx : WAX d T 2 6 0 (-4) 2 S s x15.2 q' := ((w.z (by omega)).x.tk (p1 := 1) (f1 := 3) (k1 := 0) evq (f5.tr (fun j _ => by rw [qa.1, qa.2.1]; exact ⟨rfl, rfl, rfl, rfl, rfl, rfl, rfl, rfl, rfl, rfl, rfl⟩)) t9 a3 a8 a9 ⟨by rw [qi 11 (by decide)]; exact i11, by rw [phq]; omega, by rw [qi 17 (by decide)]; omega, by rw [qi 19 (by decide), i19]; omega⟩ (by omega)).nu (by omega) (by omega) (by omega) (by omega) (by omega)
  have lox := wx.lo
  rw [qi 11 (by decide), phq] at lox
  -- the class's row
  obtain ⟨m, hmm, m38⟩ := RWI.few d1
  have hm' : (x15.2.i 53).toInt = (m : Int) := hmm
  obtain ⟨a, ra, psr⟩ := y_push d1.ri.s hmm (by omega) epp
  rw [ra] at e
  have e' : (if oK pp.2 a 0 then (f_X0_newTarget N (CS.setOl pp.2 a l)).bind fun p26 => if oK p26.2 a 0 then some ((), CS.setO p26.2 a 9 p26.1) else none else none) = some R := e
  obtain ⟨-, e'⟩ := hf_ite e'
  obtain ⟨x26, ex26, e'⟩ := hf_bind e'
  obtain ⟨-, e'⟩ := hf_ite e'
  cases e'
  obtain ⟨sj1, sj2, sj3, sj4, sj5, sj6⟩ := id d1.sj
  have hi := i11_hi d1
  have sq0 := psr.sq hm' m38 ⟨sj1, by omega⟩
  have sq1 : PSQ x15.2 (CS.setOl pp.2 a l) a m 303 (x15.2.i 50) := by
    obtain ⟨⟨c1, c2, c3, c4, c5, c6, c7, c8⟩, ⟨d1, d2, d3, d4⟩, ⟨e1, e2, e3⟩, h4, ⟨f0, f1, f3, f14⟩, h6⟩ := sq0
    exact ⟨⟨c1, c2, fun i b hi hb => ⟨(c3 i b hi hb).1, (show (CS.setOl pp.2 a l).ol b = pp.2.ol b from if_neg (h6 i b hi hb)).trans (c3 i b hi hb).2⟩, c4, c5, c6, c7, c8⟩, ⟨d1, d2, d3, d4⟩, ⟨e1, e2, e3⟩, h4, ⟨f0, f1, f3, f14⟩, h6⟩
  have sqX := (sq1.nt ex26).so (k := 9) (w := x26.1) ⟨by decide, by decide, by decide, by decide⟩
  obtain ⟨nw, n21'⟩ := (NTW.rf (CS.setOl pp.2 a l)).nt ex26
  have nx := nw.so (a := a) (k := 9) (v := x26.1) (Or.inl rfl)
  have ji := psr.2.1
  have X21 : ((CS.setO x26.2 a 9 x26.1).i 21).toInt = (x15.2.i 21).toInt + 1 := by
    show (x26.2.i 21).toInt = _
    rw [n21']
    show (pp.2.i 21 + 1).toInt = _
    rw [ji 21 (by decide) (by decide)]
    have := d1.t21
    exact ad1 this.1 (by omega)
  have olX : (CS.setO x26.2 a 9 x26.1).ol a = l := by
    show x26.2.ol a = l
    rw [nw.2.2.1.2.2.2.2.2.2]
    show (CS.setOl pp.2 a l).ol a = l
    exact if_pos rfl
  have olB : ∀ b : Nat, b ≠ a → (CS.setO x26.2 a 9 x26.1).ol b = pp.2.ol b := fun b hb => by
    show x26.2.ol b = _
    rw [nw.2.2.1.2.2.2.2.2.2]
    exact if_neg hb
  obtain ⟨X, hX⟩ : ∃ X, X = CS.setO x26.2 a 9 x26.1 := ⟨_, rfl⟩
  show DMD d B (CS.setO x26.2 a 9 x26.1) U ∨ ∃ (m : Nat) (u : RS), f_X12_parse_10 N m u = some U ∧ NEW d B b t0 c L (CS.setO x26.2 a 9 x26.1) u (JTR Aj U B b (c :: L) S s)
  have eX : pe X = pe x26.2 ∧ X.a = x26.2.a ∧ X.i = x26.2.i ∧ X.o a 9 = x26.1 := by
    rw [hX]
    exact ⟨rfl, rfl, rfl, so_at⟩
  have oX2 : X.o a 2 = X.i 38 := by
    have z0 : x26.2.o = (CS.setOl pp.2 a l).o := by
      unfold f_X0_newTarget at ex26
      cases ex26
      rfl
    have z1 : x26.2.i 38 = pp.2.i 38 := by
      unfold f_X0_newTarget at ex26
      cases ex26
      rfl
    rw [eX.2.2.1, z1, ji 38 (by decide) (by decide), ← psh_o2 epp ra, hX, so_nk (by decide), z0]
    rfl
  rw [← hX] at sqX nx X21 olX olB ⊢
  clear hX
  obtain ⟨ui, ua, ⟨ur, ub, ul, uL, uk, uh, -⟩, uo⟩ := nx
  obtain ⟨⟨pa, pb, pl⟩, -, ⟨p53, p54⟩, -, -, -, -, -, -, ⟨f5', f6, f7, f8⟩, -⟩ := id psr
  have UI : ∀ j : Nat, j ≠ 21 → j ≠ 53 → j ≠ 54 → X.i j = x15.2.i j := fun j h1 h2 h3 => (ui j h1).trans (ji j h2 h3)
  have X54 : (X.i 54).toInt = (x15.2.i 54).toInt + 1 := by
    rw [ui 54 (by decide)]
    show (pp.2.i 54).toInt = _
    rw [p54]
    exact ad1 sj1 (by omega)
  have ewX : ENW d X p5 := by
    refine d1.w.gx (fun j h1 _ _ h4 h5 _ _ => UI j h1 h4 h5) ⟨?_, ?_, ?_⟩ ?_ ?_ ?_ ?_
    · rw [ua 0 (by decide)]
      show pp.2.a 0 = _
      rw [pa]
    · rw [ua 9 (by decide)]
      show pp.2.a 9 = _
      rw [pa]
    · rw [ua 49 (by decide)]
      show pp.2.a 49 = _
      rw [pa]
    · rw [ub]
      exact pb
    · rw [ul]
      exact pl
    · unfold SJB
      rw [X54, UI 55 (by decide) (by decide) (by decide), UI 38 (by decide) (by decide) (by decide)]
      omega
    · rw [X21]
      have := d1.t21
      omega
  -- the rows and what they cost
  have sm := wx.sum hv
  have es : (cnI x15.2).toNat = m := by
    show (x15.2.i 53).toInt.toNat = m
    rw [hm']
    exact Int.toNat_natCast _
  have bse15 : BSE x15.2 (c :: L) := by
    refine BSE.mv (c :: L) hBS wx.2.2.2.2.2.1.2.2.1 wx.2.2.2.2.2.1.2.1 (fun y hy => ?_)
    have z1 := hin y hy
    exact ⟨wx.2.2.2.2.1.2.1 y.1 z1.1, (wx.2.2.2.2.1.2.2.1 y.1 y.2.1 z1.1 z1.2.1).1⟩
  have pjx := pj_eq a3
  have rwX : RWI X := by
    refine psr.lab d1.ri hm' (by omega) ur uL uk uh (ui 53 (by decide)) (fun b => uo b 0 (by decide) (by decide) (by decide)) olB olX (fun sh => ?_) ?_ ?_
    · obtain ⟨y1, y2, y3, y4⟩ := BSE.arm L c bse15
      have cn : cnI x15.2 = (c.1 : Int) + 1 := by
        show (x15.2.i 53).toInt = _
        rw [wx.2.2.2.2.2.1.2.1]
        exact q1.1
      have kn := KLS.new (s := x15.2) (x1 := l) ⟨y1, by omega, y2⟩ d1.ri.2.2.2.1.2 sh (fun i b' i1 i2 i3 i4 i5 => by
        obtain ⟨y, hy, ey⟩ := y4 i i1 (by omega)
        have z1 := (BSE.at L c bse15 y hy).1
        rw [ey, i3] at z1
        cases z1
        have z2 := hno y hy
        rw [pjx.2.2.2.2.2.2.2.2.2.2.2.2.2.2.2.2.2.2.2.2.2.2.2.2.1] at i4
        rw [pjx.2.2.2.2.2.2.2.2.2.2.2.2.2.2.2.2.2.2.2.2.2.2.2.2.2.1] at i5
        exact z2 ⟨i4, i5⟩)
      rw [es] at kn
      exact kn
    · have z1 := hv.ri.2.2.2.2.2.1
      rw [eI.al hal, ← sm.2, es] at z1
      have z2 : eI X = eI x15.2 := by
        unfold eI plI
        rw [UI 44 (by decide) (by decide) (by decide), UI 43 (by decide) (by decide) (by decide)]
      omega
    · have z1 := d1.ri.2.2.2.2.2.2
      rw [es] at z1
      have z2 : sgI X = sgI x15.2 := by
        unfold sgI
        rw [UI 34 (by decide) (by decide) (by decide)]
      omega
  have evX : ENV d X p5 := ewX.v rwX
  have o5X : X.o a 5 = 0 := by
    rw [uo a 5 (by decide) (by decide) (by decide)]
    exact f5'
  obtain ⟨zX, ⟨R53, R54, -, -⟩, ⟨R50, R56, R36⟩, ⟨-, -, rr1⟩, ⟨g0, -, g3', -⟩, -⟩ := id sqX
  have c50 : x15.2.i 50 = S.i 50 := by
    have z1 := d1.2.1.1
    have z3 : q.i 38 = s.i 38 := w.2.2.2.1.1.1.2.2.2.1
    rw [z1, I 38 (by decide) x38, z3]
    exact hv.2.1.1.symm
  have r36 : X.i 36 = 1 := R36.trans wx.2.2.2.2.2.1.2.2.2
  have one : isOne (X.o a 0) := by
    rw [g0]
    exact Or.inr (Or.inr (Or.inl rfl))
  -- what the label's chain becomes
  have o1n : o.1.toInt = (gg : Int) := by rw [oe]; exact hgg
  have o1c : o.1.toNatClampNeg = gg := by
    show o.1.toInt.toNat = gg
    omega
  have lb2 : LBC S s (c :: L) (-2) := by
    have z := hC.2.2.2.1
    by_cases w : S.o c.2.1 0 = 303
    · rw [hx w] at z
      exact z
    · exact z.no w
  have s46e : ∀ j : Nat, (j : Int) < (s.i 43).toInt → p5.a 46 j = s.a 46 j := fun j hj => by
    rw [(lo5 j (by rw [q43s]; exact hj)).2.2.1]
    exact (w.2.2.2.1.1.2.2.1 j hj).2.2.1
  have bs43 : (b.i 43).toInt ≤ (s.i 43).toInt := hC.2.2.2.2.2.1.2.1.2.1
  have ways : ∃ (v : RS) (xn x' : Int), f_X12_label_188 N v = some V ∧ E46 p5 v ∧ LBC S (s46 s (v.a 46)) (c :: L) x' ∧ (∀ j : Nat, (j : Int) < (b.i 43).toInt → v.a 46 j = s.a 46 j) ∧ (v.a 46 gg).toInt = xn ∧ x' = (if xn = -1 then -2 else xn) ∧ xn = (if p5.i 10 = 415 ∨ p5.i 10 = 416 ∨ p5.i 10 = 417 then -3 else if p5.i 10 = 2 then -2 else -1) := by
    have loop : f_X12_label_110 N p5 o.1 = some V → (p5.i 10 = 415 ∨ p5.i 10 = 416 ∨ p5.i 10 = 417) → ∃ (v : RS) (xn x' : Int), f_X12_label_188 N v = some V ∧ E46 p5 v ∧ LBC S (s46 s (v.a 46)) (c :: L) x' ∧ (∀ j : Nat, (j : Int) < (b.i 43).toInt → v.a 46 j = s.a 46 j) ∧ (v.a 46 gg).toInt = xn ∧ x' = (if xn = -1 then -2 else xn) ∧ xn = (if p5.i 10 = 415 ∨ p5.i 10 = 416 ∨ p5.i 10 = 417 then -3 else if p5.i 10 = 2 then -2 else -1) := fun h hk => by
      unfold f_X12_label_110 at h
      obtain ⟨hib, h⟩ := hf_ite h
      rw [o1c] at h
      have o1m : (o.1 - 1).toInt = (gg : Int) - 1 := by
        have e1 : (1 : Int32).toInt = 1 := by decide
        have y1 := hib.2
        rw [toInt_sub] <;> rw [e1] <;> omega
      have t43 := q1.2.1
      rw [← q43s, hgg] at t43
      obtain ⟨v, r1, r2, r3, r4⟩ := y_walk2 N L c _ _ _ x (RS.setA p5 46 gg (-3)) (o.1 - 1) cP.2.1 cP.2.2.2.1 (fun h => hx (by rw [← oP]; exact h)) (BOT.mv (c :: L) hB eoP) cP.2.2.2.2.2.1.2.1 (by rw [o1m, oP]; omega) (fun i hi => by
        rw [o1m] at hi
        have y := lo5 i (by omega)
        refine ⟨y.1, ?_⟩
        rw [setA_ne (by omega)]
        exact y.2.2.1) h
      have e1 : E46 p5 (RS.setA p5 46 gg (-3)) := ⟨rfl, rfl, rfl, fun q hq => setA_nk hq⟩
      refine ⟨v, -3, -3, r1, e1.tr r2, ?_, fun j hj => ?_, ?_, by decide, by rw [if_pos hk]⟩
      · exact LBC.mv (c :: L) (-3) r3 (fun y hy => (eoP y hy).symm) (fun y hy _ => by rw [s46.at])
      · rw [r4 j (Or.inl hj), setA_ne (by rw [q43s] at hgg; omega)]
        exact s46e j (by omega)
      · rw [r4 gg (Or.inr (by omega)), show (RS.setA p5 46 gg (-3)).a 46 gg = -3 from setA_at]
        decide
    by_cases k1 : p5.i 10 = 415
    · rw [if_pos k1] at hV
      exact loop hV (Or.inl k1)
    rw [if_neg k1] at hV
    by_cases k2 : p5.i 10 = 416
    · rw [if_pos k2] at hV
      exact loop hV (Or.inr (Or.inl k2))
    rw [if_neg k2] at hV
    by_cases k3 : p5.i 10 = 417
    · rw [if_pos k3] at hV
      exact loop hV (Or.inr (Or.inr k3))
    rw [if_neg k3] at hV
    have nk : ¬ (p5.i 10 = 415 ∨ p5.i 10 = 416 ∨ p5.i 10 = 417) := fun h => by
      rcases h with h | h | h
      · exact k1 h
      · exact k2 h
      · exact k3 h
    have mv : ∀ v : RS, (∀ j : Nat, j ≠ gg → v.a 46 j = p5.a 46 j) → LBC S (s46 s (v.a 46)) (c :: L) (-2) := fun v hv => LBC.mv (c :: L) (-2) lb2 (fun _ _ => rfl) (fun y hy h => by
      have lt := (hin y hy).2.2.2.1 (Or.inl h)
      rw [s46.at, hv (ceG y) (by rw [q43s] at hgg; omega)]
      exact s46e (ceG y) lt)
    by_cases k4 : p5.i 10 = 2
    · rw [if_pos k4] at hV
      obtain ⟨-, hV⟩ := hf_ite hV
      rw [o1c] at hV
      refine ⟨RS.setA p5 46 gg (-2), -2, -2, hV, ⟨rfl, rfl, rfl, fun q hq => setA_nk hq⟩, mv _ (fun j hj => setA_ne hj), fun j hj => ?_, ?_, by decide, by rw [if_neg nk, if_pos k4]⟩
      · rw [setA_ne (by rw [q43s] at hgg; omega)]
        exact s46e j (by omega)
      · rw [show (RS.setA p5 46 gg (-2)).a 46 gg = -2 from setA_at]
        decide
    · rw [if_neg k4] at hV
      exact ⟨p5, -1, -2, hV, E46.rf p5, mv p5 (fun _ _ => rfl), fun j hj => s46e j (by omega), by rw [g46]; decide, by decide, by rw [if_neg nk, if_neg k4]⟩
  obtain ⟨v, xn, x', hv188, ev46, lbx, hb46, v46, hxn, hxk⟩ := ways
  obtain ⟨ei, el, eb, ea⟩ := id ev46
  unfold f_X12_label_188 at hv188
  rw [ob_id] at hv188
  have evv : ENV d X v := evX.e46 ev46
  rcases r_body evv.1.2.1 hv188 g with ⟨z1, z2⟩ | ⟨hth, n410, n411, -⟩
  · exact Or.inl ⟨z1, ⟨v, evv, z2⟩, r36, a, m, by omega, ⟨m38, by have z9 := hC.2.2.2.2.1.2.2.1; have z8 := wx.2.2.2.2.2.1.2.1; rw [z8] at hm'; omega⟩, rr1, one, o5X⟩
  refine Or.inr ?_
  have tv' : tpI v = (T : Int) := by
    show (v.i 63).toInt = (T : Int)
    rw [ei]
    exact d2
  obtain ⟨hV', t99⟩ := r_then tv' hth
  rw [hV'] at g
  obtain ⟨u, hu⟩ : ∃ y, y = TH v T 1 2 := ⟨_, rfl⟩
  have evu : ENV d X u := by rw [hu]; exact evv.th
  have fu : FRB T v u := by rw [hu]; exact TH.frb
  have ku : TBK v u := by rw [hu]; exact TH.tbk
  have iu : ∀ k : Nat, k ≠ 63 → u.i k = v.i k := by
    rw [hu]
    exact fun k h => if_neg h
  have ua' : ∀ k : Nat, k ≠ 64 → k ≠ 65 → u.a k = v.a k := by
    rw [hu]
    exact fun k h1 h2 => TH.loc h1 h2
  have ub' : u.b = v.b := by rw [hu]; rfl
  have quv : qe u = qe v := by rw [hu]; rfl
  have u64 : u.a 64 T = 5 := by
    rw [hu, TH.fk0 (Nat.le_refl T), ea 64 (by decide), xa64, za 64 (by decide), b3 64 (by decide)]
    exact k64
  have u65 : u.a 65 T = 1 := by rw [hu]; exact TH.st
  have u641 : u.a 64 (T + 1) = 2 := by rw [hu]; exact TH.fk
  have u651 : u.a 65 (T + 1) = 0 := by rw [hu]; exact TH.fs
  have tu : tpI u = ((T + 1 : Nat) : Int) := by rw [hu]; exact TH.tp tv' (by omega)
  rw [← hu] at g
  clear hu hV'
  have u46 : u.a 46 = v.a 46 := ua' 46 (by decide) (by decide)
  have ui' : ∀ k : Nat, k ≠ 63 → u.i k = p5.i k := fun k hk => by rw [iu k hk, ei]
  have u66 : (u.a 66 T).toInt = (q'.i 43).toInt := by
    rw [ua' 66 (by decide) (by decide), ea 66 (by decide), xa66, z66, oe, q43, q43s]
  have ug : ∀ k : Nat, 44 ≤ k → k ≤ 51 → k ≠ 46 → u.a k = p5.a k := fun k h1 h2 h3 => (ua' k (by omega) (by omega)).trans (ea k h3)
  have uf : FRB T q' u := by
    have z1 : FRB T p5 v := fun j hj => ⟨by rw [ea 64 (by decide)], by rw [ea 65 (by decide)], by rw [ea 66 (by decide)], by rw [ea 67 (by decide)], by rw [ea 68 (by decide)], by rw [ea 69 (by decide)], by rw [ea 70 (by decide)], by rw [ea 71 (by decide)], by rw [ea 72 (by decide)], by rw [ea 73 (by decide)], by rw [eb]⟩
    intro j hj
    have z2 := (z1.tr fu) j hj
    rw [qa.1, qa.2.1]
    exact z2
  have tu46 : TBR (s46 q' (u.a 46)) u := by
    have z1 : TBR q' p5 := by
      unfold TBR
      rw [qa.1, qa.2.1, qi 59 (by decide), qi 29 (by decide), qi 33 (by decide), qi 24 (by decide)]
      exact ⟨fun _ _ => ⟨rfl, rfl, rfl⟩, fun _ _ => ⟨rfl, rfl, rfl, rfl, rfl, rfl, rfl, rfl⟩, fun _ _ => ⟨rfl, rfl⟩, ⟨Int.le_refl _, fun j k1 k2 => by omega⟩, fun _ _ => ⟨rfl, rfl, rfl⟩, Int.le_refl _, fun _ _ => rfl, Int.le_refl _, fun _ _ => ⟨rfl, rfl⟩, Int.le_refl _, fun _ _ => ⟨rfl, rfl, rfl⟩⟩
    have z2 := z1.e46 ev46
    rw [u46]
    refine z2.tr ku.1.r (by show (q'.i 38).toInt ≤ (v.i 38).toInt; rw [ei, qi 38 (by decide)]; exact Int.le_refl _) (by show (q'.i 43).toInt ≤ (v.i 43).toInt; rw [ei, x43, z43, q43, ← q43s, hgg]; omega) (by show (q'.i 56).toInt ≤ (v.i 56).toInt; rw [ei, qi 56 (by decide)]; exact Int.le_refl _)
  have phu : phI u = phI p5 := by
    unfold phI
    rw [ui' 17 (by decide), ui' 20 (by decide)]
  obtain ⟨c1, hc, ht, v2, v3⟩ := hC.lab q1 q2 q3 hT hm wx (by omega) sqX (g3'.trans c50) (UI 38 (by decide) (by decide) (by decide)) uf tu46 ⟨by rw [ui' 20 (by decide), qi 20 (by decide)]; exact Int.le_refl _, fun j _ => by rw [ua' 22 (by decide) (by decide), ea 22 (by decide), qa.1]⟩ ⟨by rw [ui' 2 (by decide), qi 2 (by decide)], by rw [ui' 3 (by decide), qi 3 (by decide)], by rw [ui' 8 (by decide), qi 8 (by decide)], by rw [ui' 38 (by decide), qi 38 (by decide)], by rw [ua' 1 (by decide) (by decide), ea 1 (by decide), qa.1], by rw [ua' 4 (by decide) (by decide), ea 4 (by decide), qa.1], by rw [ub', eb, qa.2.1]⟩ (by rw [ui' 43 (by decide), x43, z43, q43, ← q43s, hgg]) (by rw [ui' 56 (by decide), qi 56 (by decide)]) evu ⟨by rw [ui' 11 (by decide), qi 11 (by decide)]; exact Int.le_refl _, by rw [phu]; omega, by rw [ui' 17 (by decide), qi 17 (by decide)]; exact Int.le_refl _, by rw [ui' 19 (by decide)]; have z9 := wx.2.2.2.2.2.2.1.2.2.2; rw [qi 19 (by decide)] at z9; omega⟩ (by rw [X21, ui' 11 (by decide)]; omega) (by rw [R54, ui' 11 (by decide)]; omega) ⟨by rw [ui' 59 (by decide), qi 59 (by decide)], by rw [ua' 60 (by decide) (by decide), ea 60 (by decide), qa.1], by rw [ua' 61 (by decide) (by decide), ea 61 (by decide), qa.1], by rw [ua' 62 (by decide) (by decide), ea 62 (by decide), qa.1]⟩ (by rw [u46]; exact lbx) (fun j hj => by rw [u46]; exact hb46 j hj) (fun g hg => by
      have hg1 : g = gg := by
        rw [q43, ← q43s] at hg
        omega
      rw [hg1, u46, ub', eb, ug 44 (by decide) (by decide) (by decide), ug 48 (by decide) (by decide) (by decide), ug 49 (by decide) (by decide) (by decide), ug 50 (by decide) (by decide) (by decide), ug 51 (by decide) (by decide) (by decide)]
      exact ⟨g44, g45.trans olX.symm, v46, ⟨g48, g49⟩, g50, g51⟩) hxn ⟨u64, u65, u66⟩
  have cdx : cod c1 X u = xn := by
    unfold cod lcd
    rw [if_pos (by rw [v2]; exact ⟨g0, o5X⟩), ui' 10 (by decide)]
    exact hxk.symm
  refine ⟨n, u, g, c1, by rw [cdx]; exact hc, ht, ⟨Or.inr (Or.inl ⟨by rw [v2]; exact one, by rw [v2]; exact o5X, by rw [v3]; exact tu, by rw [v3]; exact u641, by rw [v3]; exact u651, r36, (by rw [iu 10 (by decide)]; exact ⟨n410, n411⟩), fun _ _ _ => by rw [v2, g3', R50]⟩), Or.inr r36⟩, fun ku0 jw => ?_⟩
  have ckall : CKZ S X := wx.2.2.2.2.1.tr wx.2.2.2.2.2.1.2.1 zX
  have fsu : FRB T s u := wx.2.2.1.tr uf
  have veq : vws X u (c :: L) = vws S s (c :: L) := vws.eqf (T := T) (fun j hj => (by rw [ua' 40 (by decide) (by decide), ea 40 (by decide)] : u.a 40 j = p5.a 40 j).trans (((tb5.1 j (by rw [w.2.2.2.1.1.1.2.2.2.1]; exact hj)).2.1).trans (w.2.2.2.1.1.2.1 j hj).2.1)) (c :: L) hC.o3 (fun y hy => (hin.o ckall y hy).1) (fun k t h1 h2 h3 => fsu.fld k t h1 h2 h3) (fun y hy => by
    have z1 := wid1 (S.o y.2.1 0)
    have z2 := (hin y hy).2.2.1
    omega)
  show JRW Aj U B b (vw X u c1 :: vws X u (c :: L)) X u
  rw [veq]
  have pls : ∀ y ∈ vws S s (c :: L), y.2.2.1 < c1.1 := vws.pl hc
  have qvp : qe v = qe p5 := by
    unfold qe
    rw [ei, ea 21 (by decide), ea 22 (by decide), ea 23 (by decide), ea 25 (by decide), ea 26 (by decide), ea 27 (by decide), ea 28 (by decide), ea 30 (by decide), ea 31 (by decide), ea 32 (by decide), ea 34 (by decide), ea 35 (by decide), ea 36 (by decide), ea 37 (by decide)]
  have j1 := jg ku0 jw
  have j2 := (j1.se (u := z) qz ⟨by rw [zi 38, b1 38 (by decide)], fun j _ => by rw [za 40 (by decide), b3 40 (by decide)]⟩).adv hN evz (by rw [c58]; decide) ex15 hp5
  have j3 := j2.se (u := u) (quv.trans qvp) ⟨ui' 38 (by decide), fun j _ => by rw [ua' 40 (by decide) (by decide), ea 40 (by decide)]⟩
  have j4 := (j3.ce (R := pp.2) (ke_X6_push N x15.2 303 _ _ pp epp) (ji 21 (by decide) (by decide)) (by rw [pa]) (by rw [pa]) (ji 50 (by decide) (by decide)) (ji 44 (by decide) (by decide))).ce (R := CS.setOl pp.2 a l) rfl rfl rfl rfl rfl rfl
  have h44 : ((CS.setOl pp.2 a l).i 44).toInt ≤ 900 := by
    show (pp.2.i 44).toInt ≤ 900
    rw [ji 44 (by decide) (by decide), d1.p44.1]
    exact hi.2
  have j5 := j4.nt ex26 h44 (by omega)
  obtain ⟨eX1, eX2, eX3, eX9⟩ := eX
  have j6 := j5.ce (R := X) eX1 (by rw [eX3]) (by rw [eX2]) (by rw [eX2]) (by rw [eX3]) (by rw [eX3])
  have k26 : x26.2.i 20 = pp.2.i 20 := by
    unfold f_X0_newTarget at ex26
    cases ex26
    rfl
  have pcX : pcC X = pcC P := by
    rw [← pcC.pe (ke_X9_advance N P x15 ex15)]
    unfold pcC
    rw [eX3, k26, (pe_eq (ke_X6_push N x15.2 303 _ _ pp epp)).1]
  have pru : pcR u = pcR q := by
    unfold pcR
    rw [ui' 20 (by decide), i20]
  have hr0 : (vw X u c1).v = 303 := show X.o c1.2.1 0 = 303 by rw [v2]; exact g0
  have r9 : (vw X u c1).1 9 = x26.1 := show X.o c1.2.1 9 = x26.1 by rw [v2]; exact eX9
  have jl : jlv (vw X u c1).v = 0 := by rw [hr0]; rfl
  have u43 : (u.i 43).toInt = (gg : Int) + 1 := by rw [ui' 43 (by decide), x43]; exact z43
  have gkp : GKP s u := ((GKP.tbr w.2.2.2.1.1.2 (by rw [q43s]; exact Int.le_refl _)).tr (GKP.tbr tb5 (by rw [x43]; omega))).tr ⟨by rw [ui' 43 (by decide)]; exact Int.le_refl _, fun j _ => ⟨by rw [ug 50 (by decide) (by decide) (by decide)], by rw [ug 51 (by decide) (by decide) (by decide)], by rw [ug 48 (by decide) (by decide) (by decide)], by rw [ug 49 (by decide) (by decide) (by decide)], by rw [ug 47 (by decide) (by decide) (by decide)]⟩, by rw [ui' 59 (by decide)]; exact Int.le_refl _, fun j _ => ⟨by rw [ua' 60 (by decide) (by decide), ea 60 (by decide)], by rw [ua' 61 (by decide) (by decide), ea 61 (by decide)], by rw [ua' 62 (by decide) (by decide), ea 62 (by decide)]⟩⟩
  have eg : ceG c1 = gg := by
    have t43 := ht.2.1
    have o1 : nGo (X.o c1.2.1 0) = 1 := by rw [v2, g0]; decide
    rw [o1] at t43
    omega
  have eM : (-1 : Int32).toInt = -1 := by decide
  have u11s : (s.i 11).toInt ≤ (u.i 11).toInt := by
    have y1 := w.2.2.2.2.2.2.1.1
    rw [ui' 11 (by decide)]
    omega
  have u19s : (s.i 19).toInt ≤ (u.i 19).toInt := by
    have y1 := w.2.2.2.2.2.2.1.2.2.2
    rw [ui' 19 (by decide), i19]
    omega
  refine j6.ps0 (r := vw X u c1) ⟨by omega, fun y => by rcases y with y | y <;> rw [hr0] at y <;> exact absurd y (by decide), fun y => absurd (hr0.symm.trans y) (by decide), by rw [hr0]; decide⟩ (Or.inl (by omega)) gkp u11s u19s pls (fun y => ?_) (by rw [hr0]; decide) (by rw [hr0]; decide) (by rw [hr0]; decide) (by rw [hr0]; decide) (fun k y => ?_) ?_ (fun _ => ?_) r36 (fun FC SF nm X' G' col YJ ω j Z hω r12 hc' hh k jr' cur => ?_)
  · rcases y with y | y | y | y <;> rw [hr0] at y <;> exact absurd y (by decide)
  · unfold rsite at y
    rw [hr0] at y
    rcases y with ⟨y, -⟩ | ⟨y, -⟩ | ⟨y, -⟩ | ⟨y, -⟩
    · rcases y with y | y | y <;> exact absurd y (by decide)
    · exact absurd y (by decide)
    · rcases y with y | y <;> exact absurd y (by decide)
    · rcases y with y | y <;> exact absurd y (by decide)
  · have e1 : rtgs (vw X u c1) = [x26.1] := by
      unfold rtgs
      rw [hr0, if_neg (by decide), if_pos (by decide), r9]
    have e2 : ptl [tv x26.1] = [x26.1] := by
      show rtgs (tv x26.1) ++ [] = _
      rw [tv.tgs]
      rfl
    rw [e1]
    exact List.Perm.of_eq e2.symm
  · show (s.i 43).toInt ≤ ((ceG c1 : Nat) : Int) ∧ ((ceG c1 : Nat) : Int) < (u.i 43).toInt ∧ (u.a 48 (ceG c1)).toInt < 0 ∧ (u.a 49 (ceG c1)).toInt < 0 ∧ X.o c1.2.1 2 = X.i 38 ∧ (dln (vw X u c1).v = 0 → u.a 47 (ceG c1) = u.i 52) ∧ (dln (vw X u c1).v = 1 → u.a 47 (ceG c1) = u.i 52 + 1) ∧ NT5 (X.o c1.2.1 9) ∧ (isLo (vw X u c1).v → NT5 (X.o c1.2.1 10)) ∧ RHP (vw X u c1).v (vw X u c1).2.1
    have dl : dln (vw X u c1).v = 0 := by rw [hr0]; decide
    have n59 : NT5 x26.1 := by
      have h1 := d1.t21
      have h2 := (i11_hi d1).2
      have h3 : (CS.setOl pp.2 a l).i 21 = x15.2.i 21 := ji 21 (by decide) (by decide)
      exact (nt5r ex26 ⟨by rw [h3]; exact h1.1, by rw [h3]; omega⟩).1
    have u52 : u.i 52 = q.i 52 := by rw [ui' 52 (by decide), x52, zi 52, b1 52 (by decide)]
    rw [eg, ug 48 (by decide) (by decide) (by decide), ug 49 (by decide) (by decide) (by decide), ug 47 (by decide) (by decide) (by decide), g47, g48, g49, eM, dl, u52]
    rw [q43s] at hgg
    exact ⟨by omega, by omega, by omega, by omega, by rw [v2]; exact oX2, fun _ => rfl, fun z => by omega, by rw [v2, eX9]; exact n59, fun z => by rw [hr0] at z; rcases z with z | z | z | z <;> exact absurd z (by decide), RHP.no (by rw [hr0]; decide)⟩
  · rw [jl, pcX, pru, Nat.add_zero] at cur
    exact ⟨k cur, JHH.no (by rw [hr0]; decide)⟩
end
section
/-! both readers: a statement that begins with a name, whole -/
/-- what comes of a statement -/
def OUTS (N : Nat) (d : Int32) (B : CS) (b : RS) (t0 T : Nat) (c : CEL) (L : List CEL) (x : Int) (R : CS) (U : RS) (J : List RVW → CS → RS → Prop) : Prop := (¬ R.i 32 = 0 ∧ ¬ U.i 15 = 0) ∨ DMD d B R U ∨ (∃ (m : Nat) (u : RS), f_X12_parse_10 N m u = some U ∧ NEW d B b t0 c L R u J) ∨ ∃ (m : Nat) (u : RS), f_X12_parse_10 N m u = some U ∧ (DN d B b t0 T c L x R u ∧ NMC c R) ∧ J (vws R u (c :: L)) R u
theorem NMC.dn {d d0 : Int32} {c : CEL} {S R : CS} {s u : RS} (hm : NMC c S) (es : ENV d0 S s) (eu : ENV d R u) (e38 : u.i 38 = s.i 38) (eo : R.o c.2.1 = S.o c.2.1) : NMC c R := by
  have z1 := es.2.1.1
  have z2 := eu.2.1.1
  unfold NMC at *
  rw [eo, z2, e38, ← z1]
  exact hm
theorem DON.dm {d : Int32} {B : CS} {b : RS} {t0 T : Nat} {L : List CEL} {x p f k y z : Int} {S S1 R : CS} {s s1 u : RS} {c : CEL} (hC : COR d B b t0 (c :: L) x S s) (hS : STO c T S s) (hT : t0 ≤ T) (hm : NMC c S) (w : WAY d T p f k y z S s S1 s1) (n : 0 ≤ p ∧ -1 ≤ f ∧ k = 0 ∧ y ≤ 0 ∧ 0 ≤ z) (h : DON d T S1 s1 R u) (e38 : u.i 38 = s1.i 38) : DN d B b t0 T c L x R u ∧ NMC c R := by
  have eo := ((hC.inl hS.1 hS.2.2.1).o (w.2.2.2.2.1.tr w.2.2.2.2.2.1.2.2.1 h.2.2.2.2.2.2.1) c List.mem_cons_self).1
  exact ⟨DON.dn hC hS hT w n h, hm.dn hC.1 h.1 (e38.trans w.2.2.2.1.1.1.2.2.2.1) eo⟩
theorem WAY.bse {d : Int32} {T : Nat} {p f k y z : Int} {S P : CS} {s q : RS} {c : CEL} {L : List CEL} (w : WAY d T p f k y z S s P q) (h : BSE S (c :: L)) : BSE P (c :: L) := by
  refine BSE.mv (c :: L) h w.2.2.2.2.2.1.2.2.2.1 w.2.2.2.2.2.1.2.2.1 (fun y hy => ?_)
  have z1 := BSE.at L c h y hy
  exact ⟨w.2.2.2.2.1.2.1 y.1 z1.2.2, (w.2.2.2.2.1.2.2.1 y.1 y.2.1 z1.2.2 z1.1).1⟩
theorem m1_int {S : CS} {c : Nat} (h : (S.i 53).toInt = (c : Int) + 1) : (S.i 53 - 1).toInt = (c : Int) := by
  have e1 : (1 : Int32).toInt = 1 := by decide
  have hi := Int32.toInt_lt (S.i 53)
  rw [toInt_sub] <;> rw [e1] <;> omega
theorem g1_int {s : RS} {c : Int} (h : (s.i 43).toInt = c) (h0 : 0 ≤ c) : (s.i 43 - 1).toInt + 1 = c := by
  have e1 : (1 : Int32).toInt = 1 := by decide
  have hi := Int32.toInt_lt (s.i 43)
  rw [toInt_sub] <;> rw [e1] <;> omega
set_option maxHeartbeats 4000000 in
theorem st_named {N : Nat} (hN : 1000 ≤ N) {E1 : CS → Option (Unit × CS)} {E2 : CS → Option (Int32 × CS)} (hm1 : ∀ σ, Kf (CS.i σ 32) (E1 σ)) (hm2 : ∀ σ, Kf (CS.i σ 32) (E2 σ)) (hE : SXR N 18 E1) {d : Int32} {B : CS} {b : RS} {t0 T n : Nat} {L : List CEL} {x : Int} {S : CS} {s U : RS} {c : CEL} {R : Unit × CS} {Aj : JBA} (hC : COR d B b t0 (c :: L) x S s) (hS : STO c T S s) (hT : t0 ≤ T) (hm : NMC c S) (hx : S.o c.2.1 0 = 303 → x = -2) (hB : BOT b S (c :: L)) (hBS : BSE S (c :: L)) (h43 : S.i 43 = 2) (e : f_X7_named N E1 E2 (CS.setI (CS.setI S 36 1) 24 ((S.i 24) + 1)) = some R) (g : f_X12_parse_10 N n s = some U) : OUTS N d B b t0 T c L x R.2 U (JTR Aj U B b (c :: L) S s) := by
  obtain ⟨q1, q2, q3, q4, q5, q6⟩ := id hS
  have hv := hC.1
  have k10 := (tk_is hv (a := 2) (b := 2) (Or.inl ⟨by decide, by decide⟩) (by decide)).mp h43
  obtain ⟨m1, s1, g1, w0, a64, a65, i10, ph3, i11, l1, qs1, nv1⟩ := st_nm hC hS k10 g
  have lq : S.l = s1.l := (hv.1.2.2.2.1.2.2.2.2.1 h43).trans l1.symm
  have S43 : (CS.setI (CS.setI S 36 1) 24 ((S.i 24) + 1)).i 43 = 2 := by
    rw [ci_ne _ _ _ (by decide), ci_ne _ _ _ (by decide)]
    exact h43
  have Sl : (CS.setI (CS.setI S 36 1) 24 ((S.i 24) + 1)).l = S.l := rfl
  have Spl : plI (CS.setI (CS.setI S 36 1) 24 ((S.i 24) + 1)) = plI S := by
    unfold plI
    rw [ci_ne _ _ _ (by decide), ci_ne _ _ _ (by decide)]
  unfold f_X7_named at e
  rw [Sl] at e
  obtain ⟨S1, hS1⟩ : ∃ y, y = CS.setI (CS.setI S 36 1) 24 ((S.i 24) + 1) := ⟨_, rfl⟩
  have eS1 : pe S1 = pe S ∧ S1.a = S.a ∧ S1.i 21 = S.i 21 ∧ S1.i 50 = S.i 50 ∧ S1.i 44 = S.i 44 := by
    rw [hS1]
    exact ⟨rfl, rfl, rfl, rfl, rfl⟩
  rw [← hS1] at e w0 S43 Sl Spl
  clear hS1
  obtain ⟨eS1, eSa, eS21, eS50, eS44⟩ := eS1
  obtain ⟨x1, ex1, e⟩ := hf_bind e
  obtain ⟨x5, ex5, e⟩ := hf_bind e
  -- the reference
  obtain ⟨m2, V, hV, g2⟩ := rl_5 g1 w0.2.1 w0.1.1.2.1 a64
  unfold f_X12_named at hV
  obtain ⟨hib, hV⟩ := hf_ite hV
  have t9 : T < 1000 := by
    have h2 : (s1.i 63).toInt = (T : Int) := w0.2.1
    have := hib.2
    omega
  rw [tp_nat w0.2.1, if_neg (show ¬ s1.a 65 T = 1 by rw [a65]; decide), if_neg (show ¬ s1.a 65 T = 2 by rw [a65]; decide)] at hV
  obtain ⟨q, hq, hV⟩ := hf_bind hV
  obtain ⟨w1, f1⟩ := w0.nx hN (by rw [S43]; decide) ex1 hq
  obtain ⟨-, adv, -, -⟩ := y_adv hN w0.1.1 ex1 hq
  obtain ⟨ft1, f65⟩ := FRB.ft (T := T) f1
  have i58 := tk_is w1.1 (a := 58) (b := 58) (Or.inl ⟨by decide, by decide⟩) (by decide)
  have e63 : q.i 63 = s1.i 63 := Int32.toInt_inj.mp (by
    have y1 : (q.i 63).toInt = (T : Int) := w1.2.1
    have y2 : (s1.i 63).toInt = (T : Int) := w0.2.1
    omega)
  rw [← e63, ← lq] at hV
  have jg : KU3 U s → JRW Aj U B b (vws S s (c :: L)) S s → JRG Aj U B b (vws S s (c :: L)) s [] (JQ2 U (pcC x1.2) (pcR q)) (-1) 0 x1.2 q := fun _ jw => by
    have z1 := (((jw.go (e := 1) (Or.inl rfl)).ce (R := S1) eS1 eS21 (by rw [eSa]) (by rw [eSa]) eS50 eS44).se (u := s1) qs1 nv1).adv hN w0.1 (by rw [S43]; decide) ex1 hq
    have pc1 : pcC x1.2 = pcC S := (pcC.pe (ke_X9_advance N S1 x1 ex1)).trans (pcC.pe eS1)
    have pr1 : pcR q = pcR s := (pcR.qe (kre_f_X12_next N s1 q hq)).trans (pcR.qe qs1)
    exact z1.imp (by omega) (by omega) (fun _ _ _ _ _ _ _ _ _ _ _ _ _ k gu => k (by rw [← pc1, ← pr1]; exact gu))
  by_cases c58 : x1.2.i 43 = 58
  · -- a label
    rw [e_fnd1 c58] at ex5
    cases ex5
    rw [if_neg n10] at e
    obtain ⟨x10, ex10, e⟩ := hf_bind e
    rw [if_pos (i58.mp c58), ob_id] at hV
    obtain ⟨cP, tP, lP, oP⟩ := hC.way q1 q2 q3 hT w1 ⟨by omega, by omega, by omega, by omega, by omega⟩
    have hin := hC.inl q1 q3
    have eoP : ∀ y ∈ c :: L, x1.2.o y.2.1 = S.o y.2.1 := fun y hy => (hin.o w1.2.2.2.2.1 y hy).1
    have bP := w1.bse hBS
    have ex10' : f_X6_labelled_7 N N x1.2 S.l (x1.2.i 53 - 1) = some x10 := ex10
    obtain ⟨z1, z2⟩ := y_labC N L c (x1.2.i 53 - 1) x10 bP (m1_int tP.1) ex10'
    have hV' : f_X12_label_8 N N q (q.i 63) S.l (s1.i 11) (q.i 43 - 1) = some V := hV
    have hr := lb_ref (b := b) w1.1.1.2.1 L c _ _ _ N (q.i 43 - 1) cP.2.1 (BOT.mv (c :: L) hB eoP) cP.2.2.2.2.2.1.2.1 (g1_int tP.2.1 (by omega)) hV'
    have gn := (ADV.gain w0.1.1.2.2.2.2.2.2.1 adv).2.2.2.1 S43
    rw [Sl, Spl] at gn
    rw [z1] at e
    rcases z2 with ⟨y1, y2⟩ | ⟨y, hy, y1, y2, -⟩
    · rcases hr with ⟨⟨y, hy, y3⟩, -⟩ | ⟨-, hV2⟩
      · exact absurd y3 (y2 y hy)
      · rw [if_pos (show x10.1 < 0 by rw [y1]; decide)] at e
        have e' : f_X7_named_73 N E1 E2 x1.2 S.l = some R := e
        have pay : plI S + (if 97 ≤ S.l.toInt ∧ S.l.toInt ≤ 122 then 2 else 3) ≤ eI x1.2 := by
          by_cases sh : 97 ≤ S.l.toInt ∧ S.l.toInt ≤ 122
          · rw [if_pos sh]
            exact gn.1
          · rw [if_neg sh]
            exact gn.2 sh
        rcases lb_new hN hC q1 q2 q3 hT hm hx hB hBS (w1.nu (by omega) (by omega) (by omega) (by omega) (by omega)) c58 (ft1.1.trans a64) (f65.trans a65) (Or.inl (by rw [h43]; decide)) pay y2 e' hV2 g2 jg with z | z
        · exact Or.inr (Or.inl z)
        · exact Or.inr (Or.inr (Or.inl z))
    · rcases hr with ⟨-, v15⟩ | ⟨y3, -⟩
      · rw [if_neg (show ¬ x10.1 < 0 by rw [Int32.lt_iff_toInt_lt, z_t0, y2]; omega)] at e
        obtain ⟨fl, efl, e⟩ := hf_bind e
        have z3 := y_fail (by decide) efl
        refine Or.inl ⟨?_, u_flt g2 v15⟩
        rw [kF_X7_named_73 N E1 E2 hm1 hm2 fl.2 S.l R e z3]
        exact z3
      · exact absurd y1 (y3 y hy)
  · -- a value
    rw [e_fnd0 c58] at ex5
    cases ex5
    rw [if_pos rfl] at e
    obtain ⟨x35, ex35, e⟩ := hf_bind e
    rw [if_neg (fun z => c58 (i58.mpr z))] at hV
    have w2 := w1.ad ex35
    have np := w2.2.2.2.2.2.2.1.2.1
    rcases y_assign hN hm1 hm2 hE w2.1 w2.2.1 t9 (ft1.1.trans a64) (by omega) e hV g2 with z | ⟨m3, u, g3, xo, u75, y, hy, xc⟩
    · exact Or.inl z
    · have r36 : R.2.i 36 = 1 := xo.2.2.2.2.1.1.2.1.trans w2.2.2.2.2.2.1.2.2.2.2
      have dm := DON.dm hC hS hT hm w2 ⟨by omega, by omega, by omega, by omega, by omega⟩ (xo.don2 ⟨u75.trans r36.symm, Or.inr r36⟩) xo.2.2.2.1.1.1.2.2.2.1
      refine Or.inr (Or.inr (Or.inr ⟨m3, u, g3, dm, fun ku jw => ?_⟩))
      have hin := hC.inl q1 q3
      have ckall : CKZ S R.2 := w2.2.2.2.2.1.tr w2.2.2.2.2.2.1.2.2.1 (xo.don2 ⟨u75.trans r36.symm, Or.inr r36⟩).2.2.2.2.2.2.1
      have veq : vws R.2 u (c :: L) = vws S s (c :: L) := vws.eqf (T := T) ((NMV.tr (NMV.tbk w2.2.2.2.1) (NMV.tbk xo.2.2.2.1)).2) (c :: L) hC.o3 (fun y hy => (hin.o ckall y hy).1) (fun k t h1 h2 h3 => (w2.2.2.1.tr xo.2.2.1).fld k t h1 h2 h3) (fun y hy => by
        have z1 := wid1 (S.o y.2.1 0)
        have z2 := (hin y hy).2.2.1
        omega)
      show JRW Aj U B b (vws R.2 u (c :: L)) R.2 u
      rw [veq]
      have ye := y_emit w1.1 w1.2.1 (by omega) hy
      have p20 := w1.1.p20
      have g44 : (x1.2.i 44).toInt = (q.i 11).toInt := by rw [w1.1.p44.1]
      have g6 := (i11_hi w1.1).2
      have y38 : y.2.i 38 = q.i 38 := ye.2.2.2.1.1.1.2.2.2.1
      have y40 : ∀ j : Nat, (j : Int) < (q.i 38).toInt → y.2.a 40 j = q.a 40 j := fun j hj => (ye.2.2.2.1.1.2.1 j hj).2.1
      have y11 : y.2.i 11 = q.i 11 := ye.2.2.2.2.2.2.2.1
      have y19 : y.2.i 19 = q.i 19 := ye.2.2.2.2.2.2.2.2.2.1
      have u38 : u.i 38 = q.i 38 := xo.2.2.2.1.1.1.2.2.2.1
      have u40 : ∀ j : Nat, (j : Int) < (q.i 38).toInt → u.a 40 j = q.a 40 j := fun j hj => (xo.2.2.2.1.1.2.1 j hj).2.1
      have xoo := (xo.don2 ⟨u75.trans r36.symm, Or.inr r36⟩).2.2.2.2.2.2.2.2.2.1
      have n50 : x35.2.i 50 = y.2.i 38 := w2.1.2.1.1.trans y38.symm
      have cw := xc.t n50 (u38.trans y38.symm) (fun j hj => by rw [y38] at hj; rw [u40 j hj, y40 j hj]) (by rw [xoo.2.2.2, y19]; exact Int.le_refl _)
      have l11 := w1.l11
      have l19 := w1.l19
      have j1 : JRG Aj U B b (vws S s (c :: L)) s [] (JQA U 0 0 (pcC x1.2) (pcR q) JQZ) (-1) 0 x1.2 q := (jg ku jw).imp (by omega) (by omega) (fun _ _ _ _ _ _ _ _ _ _ _ _ _ k gu => k ⟨gu 0, gu 1⟩)
      have j2 := j1.stp (δ' := 1264) ex35 (by omega) (by omega) hy ⟨p20.1, by omega⟩ (by omega)
      have j3 : JRG Aj U B b (vws S s (c :: L)) s [] (JQG U 1264 0 1 (pcC x35.2) (pcR y.2) JQZ) 1 1 x35.2 y.2 := j2.imp (by omega) (by omega) (fun _ _ _ _ _ _ _ _ _ _ _ _ _ k => k)
      have j4 := j3.codT (fun _ => by rw [y38, w1.2.2.2.1.1.1.2.2.2.1]; exact hC.2.2.2.2.2.1.2.1.1) (jsp_cdw cw n50 (by omega) (by rw [y11]; omega) (by rw [y19]; omega))
      exact j4.fin (by omega) (Or.inl (by omega)) ((GKP.tbr w2.2.2.2.1.1.2 (by rw [w2.2.2.2.1.1.1.2.2.2.2.1]; exact Int.le_refl _)).tr (GKP.tbr xo.2.2.2.1.1.2 (by rw [xo.2.2.2.1.1.1.2.2.2.2.1]; exact Int.le_refl _))) (by omega) (by rw [xoo.2.2.2]; omega) (fun FC SF nm X G h0 c0 ω Z hω r12 hA ng hc k cur => k.2 ⟨_, by omega, cur r36⟩)
end
section
/-! both readers: where a jump goes: the reference's goals -/
def PJ (S : CS) (s : RS) (x1 x3 : Int32) (y : CEL) : Prop := (x3 = 0 ∧ ((S.o y.2.1 0 = 205 ∨ S.o y.2.1 0 = 206 ∨ S.o y.2.1 0 = 207 ∨ S.o y.2.1 0 = 304) ∨ (¬ x1 = 0 ∧ S.o y.2.1 0 = 218))) ∨ (¬ x3 = 0 ∧ S.o y.2.1 0 = 303 ∧ S.ol y.2.1 = s.l)
theorem jp_fnd {N : Nat} {s V : RS} {x1 x2 x3 x4 : Int32} (h4 : 0 ≤ x4) : ∀ (n : Nat) (x5 : Int32), f_X12_jump_60 N n s x1 x2 x3 x4 x5 = some V → f_X12_jump_171 N s x1 x2 x3 x4 = some V
  | 0, _, e => by cases e
  | n + 1, x5, e => by
    have e' : b_X12_jump_60 N (f_X12_jump_60 N n) s x1 x2 x3 x4 x5 = some V := e
    unfold b_X12_jump_60 at e'
    by_cases c0 : x5 < 0
    · rw [if_pos c0] at e'
      exact e'
    · rw [if_neg c0] at e'
      obtain ⟨-, e'⟩ := hf_ite e'
      by_cases c3 : s.a 44 x5.toNatClampNeg = 3
      · rw [if_pos c3] at e'
        exact e'
      · rw [if_neg c3, if_pos h4] at e'
        exact e'
def FNG (p : CEL → Prop) (L : List CEL) (r : Int32) : Prop := (r = -1 ∧ ∀ c ∈ L, ¬ p c) ∨ ∃ c ∈ L, p c ∧ r.toInt = (ceG c : Int) ∧ ∀ y ∈ L, c.1 < y.1 → ¬ p y
theorem FNG.skip {p : CEL → Prop} {c : CEL} {L : List CEL} {r : Int32} (h : FNG p L r) (n : ¬ p c) : FNG p (c :: L) r := by
  rcases h with ⟨h1, h2⟩ | ⟨y, h1, h2, h3, h4⟩
  · refine Or.inl ⟨h1, fun z hz => ?_⟩
    rcases List.mem_cons.mp hz with rfl | hz
    · exact n
    · exact h2 z hz
  · refine Or.inr ⟨y, List.mem_cons_of_mem _ h1, h2, h3, fun z hz l => ?_⟩
    rcases List.mem_cons.mp hz with rfl | hz
    · exact n
    · exact h4 z hz l
theorem jp_ref {N : Nat} {b : RS} {S : CS} {s V : RS} {x1 x2 x3 : Int32} : ∀ (L : List CEL) (c : CEL) (m e k : Int) (n : Nat) (x5 : Int32), STK S s (c :: L) m e k → BOT b S (c :: L) → TBB b s → x5.toInt + 1 = (ceG c : Int) + (nGo (S.o c.2.1 0) : Int) → f_X12_jump_60 N n s x1 x2 x3 (-1) x5 = some V → ∃ x4 : Int32, f_X12_jump_171 N s x1 x2 x3 x4 = some V ∧ FNG (PJ S s x1 x3) (c :: L) x4
  | L, c, m, e, k, n, x5, st, hb, tb, hx, ev => by
    have em : (-1 : Int32).toInt = -1 := by decide
    have nm1 : ¬ (0 : Int32) ≤ -1 := by decide
    by_cases cg : isGo (S.o c.2.1 0)
    · have n1 := nGo1 cg
      cases L with
      | nil => exact absurd cg hb.1
      | cons c0 L =>
        have ord := STK.ord (c0 :: L) c m e k st
        obtain ⟨m', e', k', h1, h2, h3⟩ := st
        obtain ⟨l1, -⟩ := h2 c0 rfl
        have l4 := l1.2.2.1
        cases n with
        | zero => cases ev
        | succ n =>
          have ev' : b_X12_jump_60 N (f_X12_jump_60 N n) s x1 x2 x3 (-1) x5 = some V := ev
          unfold b_X12_jump_60 at ev'
          rw [if_neg (show ¬ x5 < 0 by rw [Int32.lt_iff_toInt_lt, z_t0]; omega)] at ev'
          obtain ⟨hib, ev'⟩ := hf_ite ev'
          have jn : (x5.toNatClampNeg : Nat) = ceG c := by
            show x5.toInt.toNat = ceG c
            omega
          have x50 : 0 ≤ x5 := by rw [Int32.le_iff_toInt_le, z_t0]; omega
          have x5g : x5.toInt = (ceG c : Int) := by omega
          rw [jn] at ev'
          have xm : (x5 + (-1)).toInt = x5.toInt - 1 := by
            have y1 := hib.1
            have y2 := hib.2
            rw [toInt_add] <;> rw [em] <;> omega
          have here : f_X12_jump_60 N n s x1 x2 x3 x5 (x5 + (-1)) = some V → PJ S s x1 x3 c → ∃ x4 : Int32, f_X12_jump_171 N s x1 x2 x3 x4 = some V ∧ FNG (PJ S s x1 x3) (c :: c0 :: L) x4 := fun h p => ⟨x5, jp_fnd x50 n _ h, Or.inr ⟨c, List.mem_cons_self, p, x5g, fun y hy l => by
            rcases List.mem_cons.mp hy with e0 | hy
            · rw [e0] at l
              omega
            · have := ord y hy
              omega⟩⟩
          have next : f_X12_jump_60 N n s x1 x2 x3 (-1) (x5 + (-1)) = some V → ¬ PJ S s x1 x3 c → ∃ x4 : Int32, f_X12_jump_171 N s x1 x2 x3 x4 = some V ∧ FNG (PJ S s x1 x3) (c :: c0 :: L) x4 := fun h p => by
            obtain ⟨x4, r1, r2⟩ := jp_ref L c0 m' e' k' n (x5 + (-1)) h3 hb tb (by omega) h
            exact ⟨x4, r1, r2.skip p⟩
          have gs := h1.2.2.1.gs cg
          have n3 : ¬ s.a 44 (ceG c) = 3 := by
            rcases gs with ⟨-, q, -⟩ | ⟨-, q⟩ | ⟨-, q⟩ <;> rw [q] <;> decide
          rw [if_neg n3, if_neg nm1] at ev'
          by_cases c3 : x3 = 0
          · rw [if_pos c3] at ev'
            rcases gs with ⟨q1, q2, -⟩ | ⟨q1, q2⟩ | ⟨q1, q2⟩
            · have np : ¬ PJ S s x1 x3 c := fun z => by
                rcases z with ⟨-, (z | z | z | z) | ⟨-, z⟩⟩ | ⟨z, -⟩
                · rw [q1] at z; exact absurd z (by decide)
                · rw [q1] at z; exact absurd z (by decide)
                · rw [q1] at z; exact absurd z (by decide)
                · rw [q1] at z; exact absurd z (by decide)
                · rw [q1] at z; exact absurd z (by decide)
                · exact z c3
              rw [if_neg (show ¬ s.a 44 (ceG c) = 0 by rw [q2]; decide)] at ev'
              by_cases c1 : x1 = 0
              · rw [if_pos c1] at ev'
                exact next ev' np
              · rw [if_neg c1, if_neg (show ¬ s.a 44 (ceG c) = 1 by rw [q2]; decide)] at ev'
                exact next ev' np
            · rw [if_neg (show ¬ s.a 44 (ceG c) = 0 by rw [q2]; decide)] at ev'
              by_cases c1 : x1 = 0
              · rw [if_pos c1] at ev'
                refine next ev' (fun z => ?_)
                rcases z with ⟨-, (z | z | z | z) | ⟨z, -⟩⟩ | ⟨z, -⟩
                · rw [q1] at z; exact absurd z (by decide)
                · rw [q1] at z; exact absurd z (by decide)
                · rw [q1] at z; exact absurd z (by decide)
                · rw [q1] at z; exact absurd z (by decide)
                · exact z c1
                · exact z c3
              · rw [if_neg c1, if_pos q2] at ev'
                exact here ev' (Or.inl ⟨c3, Or.inr ⟨c1, q1⟩⟩)
            · rw [if_pos q2] at ev'
              exact here ev' (Or.inl ⟨c3, Or.inl q1⟩)
          · rw [if_neg c3] at ev'
            rcases gs with ⟨q1, q2, q3⟩ | ⟨q1, q2⟩ | ⟨q1, q2⟩
            · rw [if_pos q2, q3] at ev'
              by_cases c2 : lg_cmp (S.ol c.2.1) s.l = 0
              · rw [if_pos c2] at ev'
                exact here ev' (Or.inr ⟨c3, q1, lg_eq c2⟩)
              · rw [if_neg c2] at ev'
                refine next ev' (fun z => ?_)
                rcases z with ⟨z, -⟩ | ⟨-, -, z⟩
                · exact c3 z
                · exact c2 (lgc_eq.mpr z)
            · rw [if_neg (show ¬ s.a 44 (ceG c) = 2 by rw [q2]; decide)] at ev'
              refine next ev' (fun z => ?_)
              rcases z with ⟨z, -⟩ | ⟨-, z, -⟩
              · exact c3 z
              · rw [q1] at z
                exact absurd z (by decide)
            · rw [if_neg (show ¬ s.a 44 (ceG c) = 2 by rw [q2]; decide)] at ev'
              refine next ev' (fun z => ?_)
              rcases z with ⟨z, -⟩ | ⟨-, z, -⟩
              · exact c3 z
              · rcases q1 with q | q | q | q <;> rw [q] at z <;> exact absurd z (by decide)
    · have n0 := nGo.eq cg
      have np : ¬ PJ S s x1 x3 c := fun z => by
        rcases z with ⟨-, (z | z | z | z) | ⟨-, z⟩⟩ | ⟨-, z, -⟩
        · exact cg (Or.inr (Or.inr (Or.inl z)))
        · exact cg (Or.inr (Or.inr (Or.inr (Or.inl z))))
        · exact cg (Or.inr (Or.inr (Or.inr (Or.inr (Or.inl z)))))
        · exact cg (Or.inr (Or.inr (Or.inr (Or.inr (Or.inr z)))))
        · exact cg (Or.inr (Or.inl z))
        · exact cg (Or.inl z)
      cases L with
      | nil =>
        obtain ⟨-, b1, b2⟩ := hb
        have fin : f_X12_jump_171 N s x1 x2 x3 (-1) = some V := by
          cases n with
          | zero => cases ev
          | succ n =>
            have ev' : b_X12_jump_60 N (f_X12_jump_60 N n) s x1 x2 x3 (-1) x5 = some V := ev
            unfold b_X12_jump_60 at ev'
            by_cases c0 : x5 < 0
            · rw [if_pos c0] at ev'
              exact ev'
            · rw [if_neg c0] at ev'
              obtain ⟨hib, ev'⟩ := hf_ite ev'
              have hlo := hib.1
              have jn : (x5.toNatClampNeg : Nat) = ceG c - 1 := by
                show x5.toInt.toNat = ceG c - 1
                omega
              rw [jn] at ev'
              have y3 : b.a 44 (ceG c - 1) = 3 := b2.resolve_left (by omega)
              have t := (tb.2.2.2.2.1 (ceG c - 1) (by omega)).1
              rw [if_pos (t.trans y3)] at ev'
              exact ev'
        refine ⟨-1, fin, Or.inl ⟨rfl, fun y hy => ?_⟩⟩
        rcases List.mem_cons.mp hy with rfl | hy
        · exact np
        · exact absurd hy List.not_mem_nil
      | cons c0 L =>
        obtain ⟨m', e', k', h1, h2, h3⟩ := st
        obtain ⟨l1, -⟩ := h2 c0 rfl
        have l4 := l1.2.2.1
        obtain ⟨x4, r1, r2⟩ := jp_ref L c0 m' e' k' n x5 h3 hb tb (by omega) ev
        exact ⟨x4, r1, r2.skip np⟩
/-- the class's first row and the reference's first goal are the same row's -/
theorem fn_same {p p' : CEL → Prop} {L : List CEL} {r r' : Int32} (inj : ∀ y ∈ L, ∀ y' ∈ L, y.1 = y'.1 → y = y') (hp : ∀ y ∈ L, p y ↔ p' y) (h : FNS p L r) (g : FNG p' L r') : (r = -1 ∧ r' = -1) ∨ ∃ y ∈ L, p y ∧ r.toInt = (y.1 : Int) ∧ r'.toInt = (ceG y : Int) := by
  rcases h with ⟨h1, h2⟩ | ⟨y, h1, h2, h3, h4⟩
  · rcases g with ⟨g1, -⟩ | ⟨z, g1, g2, -⟩
    · exact Or.inl ⟨h1, g1⟩
    · exact absurd ((hp z g1).mpr g2) (h2 z g1)
  · rcases g with ⟨-, g2⟩ | ⟨z, g1, g2, g3, g4⟩
    · exact absurd ((hp y h1).mp h2) (g2 y h1)
    · refine Or.inr ⟨y, h1, h2, h3, ?_⟩
      have e : y = z := inj y h1 z g1 (by
        rcases Nat.lt_trichotomy y.1 z.1 with q | q | q
        · exact absurd ((hp z g1).mpr g2) (h4 z g1 q)
        · exact q
        · exact absurd ((hp y h1).mp h2) (g4 y h1 q))
      rw [e]
      exact g3
theorem STK.inj {S : CS} {s : RS} : ∀ (L : List CEL) (m e k : Int), STK S s L m e k → (∀ y ∈ L, ∀ y' ∈ L, y.1 = y'.1 → y = y') ∧ (∀ y ∈ L, ∀ y' ∈ L, y.1 < y'.1 → (S.o y.2.1 1).toInt < (S.o y'.2.1 1).toInt ∧ (ceG y + nGo (S.o y.2.1 0) ≤ ceG y') ∧ (ceW y + nWl (S.o y.2.1 0) ≤ ceW y'))
  | [], _, _, _, _ => ⟨fun _ hy => absurd hy List.not_mem_nil, fun _ hy => absurd hy List.not_mem_nil⟩
  | [c], m, e, k, h => by
    refine ⟨fun y hy y' hy' _ => ?_, fun y hy y' hy' l => ?_⟩
    · rcases List.mem_cons.mp hy with rfl | hy
      · rcases List.mem_cons.mp hy' with rfl | hy'
        · rfl
        · exact absurd hy' List.not_mem_nil
      · exact absurd hy List.not_mem_nil
    · rcases List.mem_cons.mp hy with e1 | hy
      · rcases List.mem_cons.mp hy' with e2 | hy'
        · rw [e1, e2] at l
          omega
        · exact absurd hy' List.not_mem_nil
      · exact absurd hy List.not_mem_nil
  | c :: c0 :: L, m, e, k, h => by
    have ord := STK.ord (c0 :: L) c m e k h
    obtain ⟨m', e', k', h1, h2, h3⟩ := h
    obtain ⟨i1, i2⟩ := STK.inj (c0 :: L) m' e' k' h3
    obtain ⟨l1, -⟩ := h2 c0 rfl
    have ord0 := STK.ord L c0 m' e' k' h3
    refine ⟨fun y hy y' hy' q => ?_, fun y hy y' hy' l => ?_⟩
    · rcases List.mem_cons.mp hy with e1 | hy
      · rcases List.mem_cons.mp hy' with e2 | hy'
        · rw [e1, e2]
        · have := ord y' hy'
          rw [e1] at q
          omega
      · rcases List.mem_cons.mp hy' with e2 | hy'
        · have := ord y hy
          rw [e2] at q
          omega
        · exact i1 y hy y' hy' q
    · rcases List.mem_cons.mp hy with e1 | hy
      · rcases List.mem_cons.mp hy' with e2 | hy'
        · rw [e1, e2] at l
          omega
        · have := ord y' hy'
          rw [e1] at l
          omega
      · rcases List.mem_cons.mp hy' with e2 | hy'
        · rw [e2]
          obtain ⟨a1, a2, a3, a4, a5, -⟩ := l1
          by_cases z : y = c0
          · rw [z]
            exact ⟨a5, by omega, by omega⟩
          · have lt : y.1 < c0.1 := by
              rcases List.mem_cons.mp hy with e3 | hy3
              · exact absurd e3 z
              · exact ord0 y hy3
            obtain ⟨j1, j2, j3⟩ := i2 y hy c0 List.mem_cons_self lt
            exact ⟨by omega, by omega, by omega⟩
        · exact i2 y hy y' hy' l
end
section
/-! both readers: the loop that a label stands at -/
def isLpR (v : Int32) : Prop := v = 205 ∨ v = 206 ∨ v = 207 ∨ v = 304
theorem lb_z {S : CS} {s : RS} : ∀ (L : List CEL) (c : CEL) (m e k x : Int), STK S s (c :: L) m e k → LBC S s (c :: L) x → ¬ x = -9 → ∀ y ∈ c :: L, S.o y.2.1 0 = 303 → ((∀ w ∈ c :: L, y.1 < w.1 → S.o w.2.1 0 = 303) ∧ ((s.a 46 (ceG y)).toInt = x ∨ (x = -1 ∧ (s.a 46 (ceG y)).toInt = -2))) ∨ (∃ z ∈ c :: L, isLpR (S.o z.2.1 0) ∧ y.1 < z.1 ∧ (∀ w ∈ c :: L, y.1 < w.1 → w.1 < z.1 → S.o w.2.1 0 = 303) ∧ (s.a 46 (ceG y)).toInt = (ceG z : Int)) ∨ (∃ z ∈ c :: L, ¬ S.o z.2.1 0 = 303 ∧ ¬ isLpR (S.o z.2.1 0) ∧ y.1 < z.1 ∧ (∀ w ∈ c :: L, y.1 < w.1 → w.1 < z.1 → S.o w.2.1 0 = 303) ∧ (s.a 46 (ceG y)).toInt < 0)
  | L, c, m, e, k, x, st, lb, nx, y, hy, y303 => by
    have ord := STK.ord L c m e k st
    by_cases cl : S.o c.2.1 0 = 303
    · unfold LBC at lb
      rw [if_pos cl] at lb
      rcases List.mem_cons.mp hy with e0 | hy2
      · refine Or.inl ⟨fun w hw l => ?_, Or.inl ?_⟩
        · rcases List.mem_cons.mp hw with e1 | hw2
          · rw [e1]
            exact cl
          · have := ord w hw2
            rw [e0] at l
            omega
        · rw [e0]
          exact lb.1.resolve_left nx
      · cases L with
        | nil => exact absurd hy2 List.not_mem_nil
        | cons c0 L =>
          obtain ⟨m', e', k', h1, h2, h3⟩ := st
          have nx' : ¬ (if x = -1 then (-2 : Int) else x) = -9 := by
            by_cases z : x = -1
            · rw [if_pos z]; decide
            · rw [if_neg z]; exact nx
          have up : ∀ (P : CEL → Prop), (∀ w ∈ c0 :: L, P w) → P c → ∀ w ∈ c :: c0 :: L, P w := fun P h1 h2 w hw => by
            rcases List.mem_cons.mp hw with e1 | hw
            · rw [e1]; exact h2
            · exact h1 w hw
          rcases lb_z L c0 m' e' k' _ h3 lb.2 nx' y hy2 y303 with ⟨r1, r2⟩ | ⟨z, hz, r1, r2, r3, r4⟩ | ⟨z, hz, r1, r2, r3, r4, r5⟩
          · refine Or.inl ⟨up _ r1 (fun _ => cl), ?_⟩
            by_cases z : x = -1
            · rw [if_pos z] at r2
              rcases r2 with r2 | ⟨r2, -⟩
              · exact Or.inr ⟨z, r2⟩
              · exact absurd r2 (by decide)
            · rw [if_neg z] at r2
              rcases r2 with r2 | ⟨r2, -⟩
              · exact Or.inl r2
              · exact absurd r2 z
          · exact Or.inr (Or.inl ⟨z, List.mem_cons_of_mem _ hz, r1, r2, up _ r3 (fun _ _ => cl), r4⟩)
          · exact Or.inr (Or.inr ⟨z, List.mem_cons_of_mem _ hz, r1, r2, r3, up _ r4 (fun _ _ => cl), r5⟩)
    · have hy2 : y ∈ L := by
        rcases List.mem_cons.mp hy with e0 | hy2
        · rw [e0] at y303
          exact absurd y303 cl
        · exact hy2
      have yc := ord y hy2
      cases L with
      | nil => exact absurd hy2 List.not_mem_nil
      | cons c0 L =>
        obtain ⟨m', e', k', h1, h2, h3⟩ := st
        have upb : (∀ w ∈ c0 :: L, y.1 < w.1 → S.o w.2.1 0 = 303) → ∀ w ∈ c :: c0 :: L, y.1 < w.1 → w.1 < c.1 → S.o w.2.1 0 = 303 := fun h w hw l1 l2 => by
          rcases List.mem_cons.mp hw with e1 | hw
          · rw [e1] at l2
            omega
          · exact h w hw l1
        have upz : ∀ z ∈ c0 :: L, (∀ w ∈ c0 :: L, y.1 < w.1 → w.1 < z.1 → S.o w.2.1 0 = 303) → ∀ w ∈ c :: c0 :: L, y.1 < w.1 → w.1 < z.1 → S.o w.2.1 0 = 303 := fun z hz h w hw l1 l2 => by
          rcases List.mem_cons.mp hw with e1 | hw
          · have := ord z hz
            rw [e1] at l2
            omega
          · exact h w hw l1 l2
        unfold LBC at lb
        rw [if_neg cl] at lb
        by_cases cp : S.o c.2.1 0 = 205 ∨ S.o c.2.1 0 = 206 ∨ S.o c.2.1 0 = 207 ∨ S.o c.2.1 0 = 304
        · rw [if_pos cp] at lb
          rcases lb_z L c0 m' e' k' _ h3 lb (by omega) y hy2 y303 with ⟨r1, r2⟩ | ⟨z, hz, r1, r2, r3, r4⟩ | ⟨z, hz, r1, r2, r3, r4, r5⟩
          · refine Or.inr (Or.inl ⟨c, List.mem_cons_self, cp, yc, upb r1, ?_⟩)
            rcases r2 with r2 | ⟨r2, -⟩
            · exact r2
            · omega
          · exact Or.inr (Or.inl ⟨z, List.mem_cons_of_mem _ hz, r1, r2, upz z hz r3, r4⟩)
          · exact Or.inr (Or.inr ⟨z, List.mem_cons_of_mem _ hz, r1, r2, r3, upz z hz r4, r5⟩)
        · rw [if_neg cp] at lb
          rcases lb_z L c0 m' e' k' _ h3 lb (by decide) y hy2 y303 with ⟨r1, r2⟩ | ⟨z, hz, r1, r2, r3, r4⟩ | ⟨z, hz, r1, r2, r3, r4, r5⟩
          · refine Or.inr (Or.inr ⟨c, List.mem_cons_self, cl, cp, yc, upb r1, ?_⟩)
            rcases r2 with r2 | ⟨-, r2⟩ <;> omega
          · exact Or.inr (Or.inl ⟨z, List.mem_cons_of_mem _ hz, r1, r2, upz z hz r3, r4⟩)
          · exact Or.inr (Or.inr ⟨z, List.mem_cons_of_mem _ hz, r1, r2, r3, upz z hz r4, r5⟩)
/-- the class goes up over labels -/
theorem lp_up {N : Nat} {S : CS} {L : List CEL} {c : CEL} {P : Int32 × CS} {zi : Nat} (hB : BSE S (c :: L)) (h53 : (S.i 53).toInt = (c.1 : Int) + 1) (hz : zi ≤ c.1 + 1) : ∀ (n : Nat) (x2 : Int32) (k : Nat), x2.toInt = (k : Int) → k ≤ zi → (S.i 56).toInt < (k : Int) → (∀ w ∈ c :: L, k ≤ w.1 → w.1 < zi → S.o w.2.1 0 = 303) → f_X6_loopBehind_4 N n S x2 = some P → ∃ (n' : Nat) (x : Int32), x.toInt = (zi : Int) ∧ f_X6_loopBehind_4 N n' S x = some P
  | 0, _, _, _, _, _, _, e => by cases e
  | n + 1, x2, k, hx, hk, h56, hl, e => by
    by_cases c0 : k = zi
    · exact ⟨n + 1, x2, by rw [hx, c0], e⟩
    · have e' : b_X6_loopBehind_4 N (f_X6_loopBehind_4 N n) S x2 = some P := e
      unfold b_X6_loopBehind_4 at e'
      rw [if_neg (show ¬ S.i 53 ≤ x2 from fun q => by have := le_int q; omega)] at e'
      obtain ⟨q, eq, e'⟩ := hf_bind e'
      obtain ⟨w, hw, ew⟩ := (BSE.arm L c hB).2.2.2 k h56 (by omega)
      obtain ⟨w1, w2, w3⟩ := BSE.at L c hB w hw
      rw [row_at (by rw [hx, ← ew]) w1 w2 w3 eq] at e'
      have e2 : (if oK S w.2.1 0 then (if (CS.o S w.2.1 0) = 303 then f_X6_loopBehind_4 N n S (x2 + 1) else f_X6_loopBehind_32 N S x2 (some w.2.1)) else none) = some P := e'
      obtain ⟨-, e2⟩ := hf_ite e2
      rw [if_pos (hl w hw (by omega) (by omega))] at e2
      have x21 : (x2 + 1).toInt = x2.toInt + 1 := ad1 (by omega) (by have := Int32.toInt_lt (S.i 53); omega)
      exact lp_up hB h53 hz n (x2 + 1) (k + 1) (by omega) (by omega) (by omega) (fun v hv l1 l2 => hl v hv (by omega) l2) e2
theorem y_lpC {N : Nat} {S : CS} {s : RS} {L : List CEL} {c y : CEL} {m e k : Int} {x1 : Int32} {P : Int32 × CS} (st : STK S s (c :: L) m e k) (lb : LBC S s (c :: L) (-1)) (hB : BSE S (c :: L)) (h53 : (S.i 53).toInt = (c.1 : Int) + 1) (hy : y ∈ c :: L) (y303 : S.o y.2.1 0 = 303) (hx : x1.toInt = (y.1 : Int)) (ev : f_X6_loopBehind N S x1 = some P) : P.2 = S ∧ ((P.1 = -1 ∧ (s.a 46 (ceG y)).toInt < 0) ∨ ∃ z ∈ c :: L, isLpR (S.o z.2.1 0) ∧ P.1.toInt = (z.1 : Int) ∧ (s.a 46 (ceG y)).toInt = (ceG z : Int)) := by
  have ev' : f_X6_loopBehind_4 N N S (x1 + 1) = some P := ev
  have ord : ∀ w ∈ c :: L, w.1 ≤ c.1 := (BSE.lo L c hB).2
  have yl := ord y hy
  have yb := BSE.at L c hB y hy
  have y56 : (S.i 56).toInt ≤ (y.1 : Int) := by
    have z1 := BSE.arm L c hB
    by_cases q : (S.i 56).toInt ≤ (y.1 : Int)
    · exact q
    · exfalso
      have z2 := z1.2.1 
      have z3 : ∀ (L : List CEL) (c : CEL), BSE S (c :: L) → ∀ w ∈ c :: L, (S.i 56).toInt ≤ (w.1 : Int) := by
        intro L
        induction L with
        | nil =>
          intro c h w hw
          rcases List.mem_cons.mp hw with rfl | hw
          · exact (BSE.lo [] w h).1
          · exact absurd hw List.not_mem_nil
        | cons c0 L ih =>
          intro c h w hw
          rcases List.mem_cons.mp hw with rfl | hw
          · exact (BSE.lo (c0 :: L) w h).1
          · exact ih c0 h.2.2.2.2 w hw
      exact q (z3 L c hB y hy)
  have hi := Int32.toInt_lt (S.i 53)
  have x11 : (x1 + 1).toInt = ((y.1 + 1 : Nat) : Int) := by
    rw [ad1 (by omega) (by omega), hx]
    omega
  rcases lb_z L c m e k (-1) st lb (by decide) y hy y303 with ⟨r1, r2⟩ | ⟨z, hz, r1, r2, r3, r4⟩ | ⟨z, hz, r1, r2, r3, r4, r5⟩
  · -- labels up to the top
    obtain ⟨n', x, hx', e2⟩ := lp_up hB h53 (Nat.le_refl (c.1 + 1)) N (x1 + 1) (y.1 + 1) x11 (by omega) (by omega) (fun w hw l1 _ => r1 w hw (by omega)) ev'
    cases n' with
    | zero => cases e2
    | succ n' =>
      have e3 : b_X6_loopBehind_4 N (f_X6_loopBehind_4 N n') S x = some P := e2
      unfold b_X6_loopBehind_4 at e3
      rw [if_pos (show S.i 53 ≤ x by rw [Int32.le_iff_toInt_le]; omega)] at e3
      cases e3
      refine ⟨rfl, Or.inl ⟨rfl, ?_⟩⟩
      rcases r2 with r2 | ⟨-, r2⟩ <;> omega
  · have zl := ord z hz
    obtain ⟨n', x, hx', e2⟩ := lp_up hB h53 (show z.1 ≤ c.1 + 1 by omega) N (x1 + 1) (y.1 + 1) x11 (by omega) (by omega) (fun w hw l1 l2 => r3 w hw (by omega) l2) ev'
    cases n' with
    | zero => cases e2
    | succ n' =>
      have e3 : b_X6_loopBehind_4 N (f_X6_loopBehind_4 N n') S x = some P := e2
      unfold b_X6_loopBehind_4 at e3
      rw [if_neg (show ¬ S.i 53 ≤ x from fun q => by have := le_int q; omega)] at e3
      obtain ⟨q, eq, e3⟩ := hf_bind e3
      obtain ⟨w1, w2, w3⟩ := BSE.at L c hB z hz
      rw [row_at hx' w1 w2 w3 eq] at e3
      have e4 : (if oK S z.2.1 0 then (if (CS.o S z.2.1 0) = 303 then f_X6_loopBehind_4 N n' S (x + 1) else f_X6_loopBehind_32 N S x (some z.2.1)) else none) = some P := e3
      obtain ⟨-, e4⟩ := hf_ite e4
      rw [if_neg (fun q => by
        rcases r1 with h | h | h | h <;> rw [h] at q <;> exact absurd q (by decide))] at e4
      have e5 : (if oK S z.2.1 0 then (f_X5_isLoop N S z.2.1).bind fun p12 => (if p12.1 = 0 then f_X6_loopBehind_47 N p12.2 else some (x, p12.2)) else none) = some P := e4
      obtain ⟨-, e5⟩ := hf_ite e5
      obtain ⟨lp, elp, e5⟩ := hf_bind e5
      have hl : lp = (1, S) := by
        unfold f_X5_isLoop f_X5_isLoop_40 at elp
        obtain ⟨-, elp⟩ := hf_ite elp
        by_cases d1 : S.o z.2.1 0 = 205
        · rw [if_pos d1] at elp
          cases elp
          rfl
        rw [if_neg d1] at elp
        by_cases d2 : S.o z.2.1 0 = 206
        · rw [if_pos d2] at elp
          cases elp
          rfl
        rw [if_neg d2] at elp
        by_cases d3 : S.o z.2.1 0 = 207
        · rw [if_pos d3] at elp
          cases elp
          rfl
        rw [if_neg d3] at elp
        by_cases d4 : S.o z.2.1 0 = 304
        · rw [if_pos d4] at elp
          cases elp
          rfl
        · exfalso
          rcases r1 with h | h | h | h
          · exact d1 h
          · exact d2 h
          · exact d3 h
          · exact d4 h
      rw [hl, if_neg n10] at e5
      cases e5
      exact ⟨rfl, Or.inr ⟨z, hz, r1, hx', r4⟩⟩
  · have zl := ord z hz
    obtain ⟨n', x, hx', e2⟩ := lp_up hB h53 (show z.1 ≤ c.1 + 1 by omega) N (x1 + 1) (y.1 + 1) x11 (by omega) (by omega) (fun w hw l1 l2 => r4 w hw (by omega) l2) ev'
    cases n' with
    | zero => cases e2
    | succ n' =>
      have e3 : b_X6_loopBehind_4 N (f_X6_loopBehind_4 N n') S x = some P := e2
      unfold b_X6_loopBehind_4 at e3
      rw [if_neg (show ¬ S.i 53 ≤ x from fun q => by have := le_int q; omega)] at e3
      obtain ⟨q, eq, e3⟩ := hf_bind e3
      obtain ⟨w1, w2, w3⟩ := BSE.at L c hB z hz
      rw [row_at hx' w1 w2 w3 eq] at e3
      have e4 : (if oK S z.2.1 0 then (if (CS.o S z.2.1 0) = 303 then f_X6_loopBehind_4 N n' S (x + 1) else f_X6_loopBehind_32 N S x (some z.2.1)) else none) = some P := e3
      obtain ⟨-, e4⟩ := hf_ite e4
      rw [if_neg r1] at e4
      have e5 : (if oK S z.2.1 0 then (f_X5_isLoop N S z.2.1).bind fun p12 => (if p12.1 = 0 then f_X6_loopBehind_47 N p12.2 else some (x, p12.2)) else none) = some P := e4
      obtain ⟨-, e5⟩ := hf_ite e5
      obtain ⟨lp, elp, e5⟩ := hf_bind e5
      have hl : lp = (0, S) := by
        unfold f_X5_isLoop f_X5_isLoop_40 at elp
        obtain ⟨-, elp⟩ := hf_ite elp
        rw [if_neg (fun h => r2 (Or.inl h)), if_neg (fun h => r2 (Or.inr (Or.inl h))), if_neg (fun h => r2 (Or.inr (Or.inr (Or.inl h)))), if_neg (fun h => r2 (Or.inr (Or.inr (Or.inr h))))] at elp
        cases elp
        rfl
      rw [hl] at e5
      have e6 : f_X6_loopBehind_47 N S = some P := (if_pos rfl).symm.trans e5
      unfold f_X6_loopBehind_47 at e6
      cases e6
      exact ⟨rfl, Or.inl ⟨rfl, r5⟩⟩
end
section
/-! both readers: a jump more -/
/-- the row at the bottom: its walls, its serial -/
def BO2 (B : CS) (b : RS) (S : CS) : List CEL → Prop
  | [] => False
  | [c] => ¬ isTy (S.o c.2.1 0) ∧ (b.i 56).toInt = (ceW c : Int) ∧ (B.i 54).toInt ≤ (S.o c.2.1 1).toInt ∧ (0 < (b.i 56).toInt → (b.a 58 ((b.i 56).toInt - 1).toNat).toInt ≤ (b.i 43).toInt)
  | _ :: c0 :: L => BO2 B b S (c0 :: L)
theorem BO2.mv {B : CS} {b : RS} {S R : CS} : ∀ (L : List CEL), BO2 B b S L → (∀ y ∈ L, R.o y.2.1 = S.o y.2.1) → BO2 B b R L
  | [], h, _ => h
  | [c], h, e => by
    obtain ⟨h1, h2, h3, h4⟩ := h
    refine ⟨?_, h2, ?_, h4⟩
    · rw [e c List.mem_cons_self]
      exact h1
    · rw [e c List.mem_cons_self]
      exact h3
  | _ :: c0 :: L, h, e => BO2.mv (c0 :: L) h (fun y hy => e y (List.mem_cons_of_mem _ hy))
theorem nWl1 {v : Int32} (h : isWl v) : nWl v = 1 := by
  unfold nWl
  exact if_pos h
theorem isWl.ty {v : Int32} (h : isWl v) : isTy v := by
  rcases h with h | h | h
  · exact Or.inl h
  · exact Or.inr (Or.inl h)
  · exact Or.inr (Or.inr (Or.inl h))
/-- the wall at the top -/
theorem WLT {B : CS} {b : RS} {S : CS} {s : RS} : ∀ (L : List CEL) (c : CEL) (m e k : Int), STK S s (c :: L) m e k → BO2 B b S (c :: L) → (∃ q ∈ c :: L, isWl (S.o q.2.1 0) ∧ ceW q + 1 = ceW c + nWl (S.o c.2.1 0) ∧ ∀ y ∈ c :: L, q.1 < y.1 → ¬ isWl (S.o y.2.1 0)) ∨ ((∀ y ∈ c :: L, ¬ isWl (S.o y.2.1 0)) ∧ (b.i 56).toInt = (ceW c : Int) + (nWl (S.o c.2.1 0) : Int) ∧ (0 < (b.i 56).toInt → (b.a 58 ((b.i 56).toInt - 1).toNat).toInt ≤ (b.i 43).toInt))
  | L, c, m, e, k, st, hb => by
    have ord := STK.ord L c m e k st
    by_cases cw : isWl (S.o c.2.1 0)
    · have n1 := nWl1 cw
      refine Or.inl ⟨c, List.mem_cons_self, cw, by omega, fun y hy l => ?_⟩
      rcases List.mem_cons.mp hy with e0 | hy
      · rw [e0] at l
        omega
      · have := ord y hy
        omega
    · have n0 := nWl.eq cw
      cases L with
      | nil =>
        obtain ⟨h1, h2, h3, h4⟩ := hb
        refine Or.inr ⟨fun y hy => ?_, by omega, h4⟩
        rcases List.mem_cons.mp hy with rfl | hy
        · exact cw
        · exact absurd hy List.not_mem_nil
      | cons c0 L =>
        obtain ⟨m', e', k', h1, h2, h3⟩ := st
        obtain ⟨l1, -⟩ := h2 c0 rfl
        have l5 := l1.2.2.2.1
        rcases WLT L c0 m' e' k' h3 hb with ⟨q, hq, q1, q2, q3⟩ | ⟨q1, q2, q3⟩
        · refine Or.inl ⟨q, List.mem_cons_of_mem _ hq, q1, by omega, fun y hy l => ?_⟩
          rcases List.mem_cons.mp hy with rfl | hy
          · exact cw
          · exact q3 y hy l
        · refine Or.inr ⟨fun y hy => ?_, by omega, q3⟩
          rcases List.mem_cons.mp hy with rfl | hy
          · exact cw
          · exact q1 y hy
theorem BO2.ge {B : CS} {b : RS} {S : CS} {s : RS} : ∀ (L : List CEL) (c : CEL) (m e k : Int), STK S s (c :: L) m e k → BO2 B b S (c :: L) → (B.i 54).toInt ≤ (S.o c.2.1 1).toInt
  | [], _, _, _, _, _, h => h.2.2.1
  | c0 :: L, c, m, e, k, st, h => by
    obtain ⟨m', e', k', h1, h2, h3⟩ := st
    obtain ⟨l1, -⟩ := h2 c0 rfl
    have ih := BO2.ge L c0 m' e' k' h3 h
    have := l1.2.2.2.2.1
    omega
theorem BO2.ser {B : CS} {b : RS} {S : CS} {s : RS} : ∀ (L : List CEL) (c : CEL) (m e k : Int), STK S s (c :: L) m e k → BOT b S (c :: L) → BO2 B b S (c :: L) → ∀ y ∈ c :: L, isGo (S.o y.2.1 0) → (B.i 54).toInt < (S.o y.2.1 1).toInt
  | [], c, _, _, _, _, hb, _, y, hy, gy => by
    rcases List.mem_cons.mp hy with rfl | hy
    · exact absurd gy hb.1
    · exact absurd hy List.not_mem_nil
  | c0 :: L, c, m, e, k, st, hb, h, y, hy, gy => by
    obtain ⟨m', e', k', h1, h2, h3⟩ := st
    obtain ⟨l1, -⟩ := h2 c0 rfl
    have ge := BO2.ge L c0 m' e' k' h3 h
    rcases List.mem_cons.mp hy with e0 | hy
    · have := l1.2.2.2.2.1
      rw [e0]
      omega
    · exact BO2.ser L c0 m' e' k' h3 hb h y hy gy
/-- all but heads, flags and what waits is the same -/
def EJF (s u : RS) : Prop := (∀ k : Nat, k ≠ 59 → u.i k = s.i k) ∧ u.l = s.l ∧ u.b = s.b ∧ ∀ k : Nat, k ≠ 48 → k ≠ 49 → k ≠ 50 → k ≠ 51 → k ≠ 60 → k ≠ 61 → k ≠ 62 → u.a k = s.a k
theorem EJF.A {s u : RS} (h : EJF s u) (k : Nat) (h1 : k < 48 ∨ (51 < k ∧ k < 60) ∨ 62 < k) : u.a k = s.a k := h.2.2.2 k (by omega) (by omega) (by omega) (by omega) (by omega) (by omega) (by omega)
theorem chn.ej {s u : RS} (h : EJF s u) : ∀ (L : List Nat) (k : Int32), chn s k L → chn u k L
  | [], _, g => g
  | j :: L, k, g => ⟨g.1, by rw [h.1 24 (by decide)]; exact g.2.1, g.2.2.1, by rw [h.A 27 (by decide)]; exact chn.ej h L _ g.2.2.2⟩
theorem kch.ej {s u : RS} (h : EJF s u) : ∀ (L : List Nat) (k : Int32), kch s k L → kch u k L
  | [], _, g => g
  | j :: L, k, g => ⟨g.1, by rw [h.1 33 (by decide)]; exact g.2.1, g.2.2.1, by rw [h.A 37 (by decide)]; exact kch.ej h L _ g.2.2.2⟩
theorem RFR.ej {S : CS} {s u : RS} {a t g w : Nat} (h : EJF s u) (r : RFR S s a t g w) : RFR S u a t g w := by
  have a64 := h.A 64 (by decide)
  have a65 := h.A 65 (by decide)
  have a66 := h.A 66 (by decide)
  have a67 := h.A 67 (by decide)
  have a68 := h.A 68 (by decide)
  have a71 := h.A 71 (by decide)
  have a72 := h.A 72 (by decide)
  have a73 := h.A 73 (by decide)
  have a44 := h.A 44 (by decide)
  have a57 := h.A 57 (by decide)
  have a58 := h.A 58 (by decide)
  unfold RFR F301 F302 F303 F203 F204 F205 F206 F207 F304 F212 F301 F218 FTR FTS F301 FBL at *
  rw [a64, a65, a66, a67, a68, a71, a72, a73, a44, a57, a58, h.1 29 (by decide), h.2.2.1]
  exact r
theorem CST.ej {S : CS} {s u : RS} {c : CEL} {m e k m' e' k' : Int} (h : EJF s u) (g : CST S s c m e k m' e' k') : CST S u c m e k m' e' k' := by
  obtain ⟨g1, g2, g3, g4, g5, g6, g7⟩ := g
  have a66 := h.A 66 (by decide)
  refine ⟨g1, g2, g3.ej h, g4, fun q => ?_, g6, fun q => ?_⟩
  · obtain ⟨x1, x2, x3, L, y1, y2, y3, y4⟩ := g5 q
    rw [a66, h.A 22 (by decide), h.1 20 (by decide)]
    refine ⟨x1, x2, x3, L, ?_, chn.ej h _ _ y2, ?_, y4⟩
    · unfold CSM at *
      rw [h.A 28 (by decide), h.A 25 (by decide)]
      exact y1
    · unfold FQL at *
      rw [h.A 67 (by decide)]
      exact y3
  · obtain ⟨x1, L, y1, y2, y3, y4⟩ := g7 q
    rw [a66, h.A 30 (by decide), h.A 72 (by decide)]
    refine ⟨x1, L, kch.ej h _ _ y1, ?_, y3, y4⟩
    unfold KMK at *
    rw [h.A 34 (by decide)]
    exact y2
theorem LOW.ej {S : CS} {s u : RS} {c : CEL} (h : EJF s u) (g : LOW S s c) : LOW S u c := by
  unfold LOW at *
  rw [h.A 65 (by decide), h.A 64 (by decide)]
  exact g
theorem STK.ej {S : CS} {s u : RS} (h : EJF s u) : ∀ (L : List CEL) (m e k : Int), STK S s L m e k → STK S u L m e k
  | [], _, _, _, _ => trivial
  | c :: L, m, e, k, g => by
    obtain ⟨m', e', k', g1, g2, g3⟩ := g
    exact ⟨m', e', k', g1.ej h, fun c0 hc => ⟨(g2 c0 hc).1, (g2 c0 hc).2.ej h⟩, STK.ej h L m' e' k' g3⟩
/-- the class: rows and cases are the same -/
def CRQ (S R : CS) : Prop := R.r = S.r ∧ R.o = S.o ∧ R.ol = S.ol ∧ R.a 18 = S.a 18
theorem STK.cq {S R : CS} {s : RS} (h : CRQ S R) : ∀ (L : List CEL) (m e k : Int), STK S s L m e k → STK R s L m e k
  | [], _, _, _, _ => trivial
  | c :: L, m, e, k, g => by
    obtain ⟨m', e', k', g1, g2, g3⟩ := g
    obtain ⟨er, eo, eol, ea⟩ := id h
    refine ⟨m', e', k', ?_, fun c0 hc => ?_, STK.cq h L m' e' k' g3⟩
    · unfold CST RFR CSM at *
      rw [er, eo, eol, ea]
      exact g1
    · obtain ⟨z1, z2⟩ := g2 c0 hc
      unfold LNK LOW at *
      rw [eo]
      exact ⟨z1, z2⟩
theorem LBC.cq {S R : CS} {s u : RS} (ho : R.o = S.o) (ha : u.a 46 = s.a 46) (L : List CEL) (x : Int) (h : LBC S s L x) : LBC R u L x := LBC.mv L x h (fun _ _ => by rw [ho]) (fun _ _ _ => by rw [ha])
/-- what a jump does: to row w, its instruction at kk -/
def JHD (w : CEL) (bb : Int) (kk : Nat) (v u : RS) : Prop := (bb = 0 → u.a 48 = upd (v.a 48) (ceG w) (Int32.ofNat kk) ∧ u.a 49 = v.a 49 ∧ v.a 22 kk = v.a 48 (ceG w)) ∧ (bb = 1 → u.a 49 = upd (v.a 49) (ceG w) (Int32.ofNat kk) ∧ u.a 48 = v.a 48 ∧ v.a 22 kk = v.a 49 (ceG w))
def JFL (w : CEL) (bb : Int) (v u : RS) : Prop := ((v.i 56).toInt = 0 ∨ (v.a 58 ((v.i 56).toInt - 1).toNat).toInt ≤ (ceG w : Int)) ∧ u.i 59 = v.i 59 ∧ (u.a 60 = v.a 60 ∧ u.a 61 = v.a 61 ∧ u.a 62 = v.a 62) ∧ (bb = 0 → u.a 50 = upd (v.a 50) (ceG w) 1 ∧ u.a 51 = v.a 51) ∧ (bb = 1 → u.a 51 = upd (v.a 51) (ceG w) 1 ∧ u.a 50 = v.a 50)
def JPD (w : CEL) (bb : Int) (v u : RS) : Prop := (0 < (v.i 56).toInt ∧ (ceG w : Int) < (v.a 58 ((v.i 56).toInt - 1).toNat).toInt) ∧ (u.a 50 = v.a 50 ∧ u.a 51 = v.a 51) ∧ (0 ≤ (v.i 59).toInt ∧ (u.i 59).toInt = (v.i 59).toInt + 1) ∧ (∀ j : Nat, ¬ (j : Int) = (v.i 59).toInt → u.a 60 j = v.a 60 j ∧ u.a 61 j = v.a 61 j ∧ u.a 62 j = v.a 62 j) ∧ (∀ j : Nat, (j : Int) = (v.i 59).toInt → (u.a 60 j).toInt = (ceG w : Int) ∧ (¬ u.a 61 j = 0 ↔ bb = 0) ∧ u.a 62 j = v.a 57 ((v.i 56).toInt - 1).toNat)
theorem updA {f : Nat → Int32} {g j : Nat} {v : Int32} (h : j = g) : upd f g v j = v := if_pos h
theorem updN {f : Nat → Int32} {g j : Nat} {v : Int32} (h : ¬ j = g) : upd f g v j = f j := if_neg h
/-- the chains -/
theorem COL.jmp {X R : CS} {v u : RS} {K : List CEL} {col : Nat → Option (Nat × Bool)} {b20 : Int} {w : CEL} {bb : Int} {kk : Nat} (h : COL X v K col b20) (eo : R.o = X.o) (ej : EJF v u) (hb : bb = 0 ∨ bb = 1) (hd : JHD w bb kk v u) (k31 : kk < 2147483648) (ck : col kk = none) (cl : ∀ (j : Nat) (x : Nat × Bool), col j = some x → j < kk) (cf : ∀ q ∈ K, X.o q.2.1 0 = 218 → ¬ (kk : Int) = (v.a 66 (ceT q)).toInt) (cp : ∀ q ∈ K, ¬ PLF X v q (kk : Int)) (kr : b20 ≤ (kk : Int) ∧ (kk : Int) < (v.i 20).toInt) (b0 : 0 ≤ b20) (hw : w ∈ K) (gw : isGo (X.o w.2.1 0)) (inj : ∀ y ∈ K, isGo (X.o y.2.1 0) → ceG y = ceG w → y = w) : ∃ col' : Nat → Option (Nat × Bool), COL R u K col' b20 := by
  obtain ⟨h1, h2, h3, h4, h5, h6, h7⟩ := h
  have ek : (Int32.ofNat kk).toInt = (kk : Int) := Int32.toInt_ofNat_of_lt (by omega)
  have i20 := ej.1 20 (by decide)
  have a22 := ej.A 22 (by decide)
  have a66 := ej.A 66 (by decide)
  have a67 := ej.A 67 (by decide)
  have a68 := ej.A 68 (by decide)
  have ne : ∀ (j : Nat) (x : Nat × Bool), col j = some x → ¬ j = kk := fun j x q z => by
    rw [z, ck] at q
    cases q
  obtain ⟨e, he⟩ : ∃ e : Bool, (bb = 0 → e = true) ∧ (bb = 1 → e = false) := by
    rcases hb with z | z
    · exact ⟨true, fun _ => rfl, fun y => by omega⟩
    · exact ⟨false, fun y => by omega, fun _ => rfl⟩
  have keep : ∀ (j : Nat) (x : Nat × Bool), col j = some x → (if j = kk then some (ceG w, e) else col j) = some x := fun j x q => by
    rw [if_neg (ne j x q)]
    exact q
  refine ⟨fun j => if j = kk then some (ceG w, e) else col j, fun k x q => ?_, fun k x q => ?_, fun c hc q => ?_, fun k g e' q => ?_, fun c hc q => ?_, fun c hc q hq t1 t2 l => ?_, fun c hc k p => ?_⟩
  · by_cases z : k = kk
    · rw [i20, z]
      exact kr
    · rw [i20]
      exact h1 k x (by rw [← q]; exact (if_neg z).symm)
  · rw [a22]
    by_cases z : k = kk
    · have ex : (ceG w, e) = x := by
        have y : some (ceG w, e) = some x := (if_pos z).symm.trans q
        cases y
        rfl
      obtain ⟨y1, y2⟩ := h3 w hw gw
      rcases hb with zb | zb
      · rw [z, (hd.1 zb).2.2]
        rcases y1 with y | ⟨j, j1, j2⟩
        · exact Or.inl y
        · refine Or.inr ⟨j, j1, cl j _ j2, ?_⟩
          have hx : x = (ceG w, true) := by rw [← ex, he.1 zb]
          rw [hx]
          exact keep j _ j2
      · rw [z, (hd.2 zb).2.2]
        rcases y2 with y | ⟨j, j1, j2⟩
        · exact Or.inl y
        · refine Or.inr ⟨j, j1, cl j _ j2, ?_⟩
          have hx : x = (ceG w, false) := by rw [← ex, he.2 zb]
          rw [hx]
          exact keep j _ j2
    · rcases h2 k x (by rw [← q]; exact (if_neg z).symm) with y | ⟨j, j1, jl, j2⟩
      · exact Or.inl y
      · exact Or.inr ⟨j, j1, jl, keep j x j2⟩
  · rw [eo] at q
    obtain ⟨y1, y2⟩ := h3 c hc q
    have kp : ∀ (g : Int32) (x : Nat × Bool), (g.toInt < 0 ∨ ∃ j : Nat, g.toInt = (j : Int) ∧ col j = some x) → g.toInt < 0 ∨ ∃ j : Nat, g.toInt = (j : Int) ∧ (if j = kk then some (ceG w, e) else col j) = some x := fun g x h => by
      rcases h with y | ⟨j, j1, j2⟩
      · exact Or.inl y
      · exact Or.inr ⟨j, j1, keep j x j2⟩
    have nw : ∀ x : Nat × Bool, x = (ceG w, e) → (if kk = kk then some (ceG w, e) else col kk) = some x := fun x hx => by
      rw [if_pos rfl, hx]
    rcases hb with zb | zb
    · obtain ⟨d1, d2, -⟩ := hd.1 zb
      rw [d1, d2]
      refine ⟨?_, kp _ _ y2⟩
      by_cases z : c = w
      · rw [z, updA rfl, ek]
        exact Or.inr ⟨kk, rfl, nw _ (by rw [he.1 zb])⟩
      · rw [updN (fun g => z (inj c hc q g))]
        exact kp _ _ y1
    · obtain ⟨d1, d2, -⟩ := hd.2 zb
      rw [d1, d2]
      refine ⟨kp _ _ y1, ?_⟩
      by_cases z : c = w
      · rw [z, updA rfl, ek]
        exact Or.inr ⟨kk, rfl, nw _ (by rw [he.2 zb])⟩
      · rw [updN (fun g => z (inj c hc q g))]
        exact kp _ _ y2
  · by_cases z : k = kk
    · have ex : (ceG w, e) = (g, e') := by
        have y : some (ceG w, e) = some (g, e') := (if_pos z).symm.trans q
        cases y
        rfl
      exact ⟨w, hw, by rw [eo]; exact gw, (congrArg Prod.fst ex)⟩
    · obtain ⟨c, hc, g1, g2⟩ := h4 k g e' (by rw [← q]; exact (if_neg z).symm)
      exact ⟨c, hc, by rw [eo]; exact g1, g2⟩
  · rw [eo] at q
    rw [a66, i20]
    obtain ⟨z1, z2, z3⟩ := h5 c hc q
    refine ⟨z1, z2, ?_⟩
    have nk := cf c hc q
    exact (if_neg (show ¬ (v.a 66 (ceT c)).toInt.toNat = kk by omega)).trans z3
  · rw [eo] at t1 t2
    rw [a66]
    exact h6 c hc q hq t1 t2 l
  · have p' : PLF X v c k := by
      unfold PLF at *
      rw [eo, a66, a67, a68] at p
      exact p
    obtain ⟨z1, z2, z3, z4⟩ := h7 c hc k p'
    refine ⟨z1, by rw [i20]; exact z2, ?_, fun q hq t => by rw [eo] at t; rw [a66]; exact z4 q hq t⟩
    exact (if_neg (fun z => cp c hc (by
      have : (kk : Int) = k := by omega
      rw [this]
      exact p'))).trans z3
end
section
/-! both readers: a jump more, all that stands -/
theorem STK.ty {S : CS} {s : RS} {L : List CEL} {m e k : Int} (h : STK S s L m e k) : ∀ q ∈ L, isWl (S.o q.2.1 0) → (s.a 57 (ceW q) = s.a 66 (ceT q) ∧ (s.a 58 (ceW q)).toInt = (ceG q : Int)) ∧ (s.a 66 (ceT q)).toInt < (s.i 29).toInt := fun q hq t => by
  obtain ⟨m1, e1, k1, m2, e2, k2, g⟩ := STK.mem L m e k h q hq
  have z := (g.2.2.1.2.2.2.2.2.2.2.2.2.2.2.2 t.ty).1
  exact ⟨z.2.2.2 t, z.2.1.2⟩
theorem STK.glb {b : RS} {X : CS} {v : RS} : ∀ (L : List CEL) (c : CEL) (m e k : Int), STK X v (c :: L) m e k → BOT b X (c :: L) → ∀ y ∈ c :: L, (b.i 43).toInt ≤ (ceG y : Int) := by
  intro L
  induction L with
  | nil =>
    intro c m e k _ hb y hy
    rcases List.mem_cons.mp hy with rfl | hy
    · have := hb.2.1
      omega
    · exact absurd hy List.not_mem_nil
  | cons c0 L ih =>
    intro c m e k st hb y hy
    have z0 := (STK.gl (c0 :: L) c m e k st hb).1
    obtain ⟨m', e', k', g1, g2, g3⟩ := st
    rcases List.mem_cons.mp hy with e0 | hy
    · rw [e0]
      exact z0
    · exact ih c0 m' e' k' g3 hb y hy
/-- the wall that a jump waits at -/
theorem TWL {B : CS} {b : RS} {X : CS} {v u : RS} {L : List CEL} {c w : CEL} {m e k bb : Int} (st : STK X v (c :: L) m e k) (tX : TOP X v c) (hb : BO2 B b X (c :: L)) (tb : TBB b v) (gl : (b.i 43).toInt ≤ (ceG w : Int)) (hw : w ∈ c :: L) (j : JPD w bb v u) : ∃ q ∈ c :: L, isWl (X.o q.2.1 0) ∧ w.1 < q.1 ∧ (∀ y ∈ c :: L, q.1 < y.1 → ¬ isWl (X.o y.2.1 0)) ∧ v.a 57 ((v.i 56).toInt - 1).toNat = v.a 66 (ceT q) ∧ (v.a 66 (ceT q)).toInt < (v.i 29).toInt := by
  obtain ⟨⟨j1, j2⟩, -⟩ := j
  have t3 := tX.2.2
  obtain ⟨inj1, inj2⟩ := STK.inj (c :: L) m e k st
  rcases WLT L c m e k st hb with ⟨q, hq, q1, q2, q3⟩ | ⟨-, q2, q3⟩
  · obtain ⟨⟨y1, y2⟩, y3⟩ := st.ty q hq q1
    have en : ((v.i 56).toInt - 1).toNat = ceW q := by omega
    rw [en] at j2 ⊢
    refine ⟨q, hq, q1, ?_, q3, y1, y3⟩
    rcases Nat.lt_trichotomy w.1 q.1 with z | z | z
    · exact z
    · exfalso
      rw [inj1 w hw q hq z] at j2
      omega
    · exfalso
      have := (inj2 q hq w hw z).2.1
      omega
  · exfalso
    have e56 : (v.i 56).toInt = (b.i 56).toInt := by omega
    have y := (tb.2.2.2.2.2.1 ((b.i 56).toInt - 1).toNat (by omega)).2
    rw [e56, y] at j2
    have := q3 (by omega)
    omega
theorem TFL {B : CS} {b : RS} {X : CS} {v u : RS} {L : List CEL} {c w : CEL} {m e k bb : Int} (st : STK X v (c :: L) m e k) (tX : TOP X v c) (hb : BO2 B b X (c :: L)) (hw : w ∈ c :: L) (gw : isGo (X.o w.2.1 0)) (j : JFL w bb v u) : ∀ y ∈ c :: L, isWl (X.o y.2.1 0) → ¬ w.1 < y.1 := by
  obtain ⟨j1, -⟩ := j
  have t3 := tX.2.2
  obtain ⟨inj1, inj2⟩ := STK.inj (c :: L) m e k st
  intro y hy yw l
  rcases WLT L c m e k st hb with ⟨q, hq, q1, q2, q3⟩ | ⟨q1, -, -⟩
  · obtain ⟨⟨-, y2⟩, -⟩ := st.ty q hq q1
    have en : ((v.i 56).toInt - 1).toNat = ceW q := by omega
    rw [en] at j1
    have lq : w.1 < q.1 := by
      by_cases z : q.1 < y.1
      · exact absurd yw (q3 y hy z)
      · omega
    have z := (inj2 w hw q hq lq).2.1
    have := nGo1 gw
    omega
  · exact q1 y hy yw
/-- flags stay -/
theorem flg.up {w : CEL} {bb : Int} {v u : RS} (hj : JFL w bb v u ∨ JPD w bb v u) (hb : bb = 0 ∨ bb = 1) (g : Nat) (b' : Int) (h : flg v g b' = 1) : flg u g b' = 1 := by
  unfold flg at *
  rcases hj with ⟨-, -, -, j1, j2⟩ | ⟨-, ⟨j1, j2⟩, -⟩
  · rcases hb with z | z
    · obtain ⟨y1, y2⟩ := j1 z
      by_cases c0 : b' = 0
      · rw [if_pos c0] at h ⊢
        rw [y1]
        by_cases c1 : g = ceG w
        · exact updA c1
        · rw [updN c1]
          exact h
      · rw [if_neg c0] at h ⊢
        rw [y2]
        exact h
    · obtain ⟨y1, y2⟩ := j2 z
      by_cases c0 : b' = 0
      · rw [if_pos c0] at h ⊢
        rw [y2]
        exact h
      · rw [if_neg c0] at h ⊢
        rw [y1]
        by_cases c1 : g = ceG w
        · exact updA c1
        · rw [updN c1]
          exact h
  · rw [j1, j2]
    exact h
theorem flg.at {w : CEL} {bb : Int} {v u : RS} (hj : JFL w bb v u) (hb : bb = 0 ∨ bb = 1) : flg u (ceG w) bb = 1 := by
  unfold flg
  obtain ⟨-, -, -, j1, j2⟩ := hj
  rcases hb with z | z
  · rw [if_pos z, (j1 z).1]
    exact updA rfl
  · rw [if_neg (by omega), (j2 z).1]
    exact updA rfl
/-- a flag that was not set: this jump's -/
theorem flg.nw {w : CEL} {bb : Int} {v u : RS} (hj : JFL w bb v u ∨ JPD w bb v u) (hb : bb = 0 ∨ bb = 1) (g : Nat) (b' : Int) (hb' : b' = 0 ∨ b' = 1) (h : flg u g b' = 1) : flg v g b' = 1 ∨ (JFL w bb v u ∧ g = ceG w ∧ b' = bb) := by
  unfold flg at *
  rcases hj with j | ⟨-, ⟨j1, j2⟩, -⟩
  · obtain ⟨-, -, -, j1, j2⟩ := id j
    rcases hb with z | z
    · obtain ⟨y1, y2⟩ := j1 z
      by_cases c0 : b' = 0
      · rw [if_pos c0] at h ⊢
        rw [y1] at h
        by_cases c1 : g = ceG w
        · exact Or.inr ⟨j, c1, by omega⟩
        · rw [updN c1] at h
          exact Or.inl h
      · rw [if_neg c0] at h ⊢
        rw [y2] at h
        exact Or.inl h
    · obtain ⟨y1, y2⟩ := j2 z
      by_cases c0 : b' = 0
      · rw [if_pos c0] at h ⊢
        rw [y2] at h
        exact Or.inl h
      · rw [if_neg c0] at h ⊢
        rw [y1] at h
        by_cases c1 : g = ceG w
        · exact Or.inr ⟨j, c1, by omega⟩
        · rw [updN c1] at h
          exact Or.inl h
  · rw [j1, j2] at h
    exact Or.inl h
theorem flg.bo {w : CEL} {bb : Int} {v u : RS} (hj : JFL w bb v u ∨ JPD w bb v u) (hb : bb = 0 ∨ bb = 1) (g : Nat) (b' : Int) (h : flg v g b' = 0 ∨ flg v g b' = 1) : flg u g b' = 0 ∨ flg u g b' = 1 := by
  unfold flg at *
  rcases hj with ⟨-, -, -, j1, j2⟩ | ⟨-, ⟨j1, j2⟩, -⟩
  · rcases hb with z | z
    · obtain ⟨y1, y2⟩ := j1 z
      rw [y1, y2]
      by_cases c0 : b' = 0
      · rw [if_pos c0] at h ⊢
        by_cases c1 : g = ceG w
        · exact Or.inr (updA c1)
        · rw [updN c1]
          exact h
      · rw [if_neg c0] at h ⊢
        exact h
    · obtain ⟨y1, y2⟩ := j2 z
      rw [y1, y2]
      by_cases c0 : b' = 0
      · rw [if_pos c0] at h ⊢
        exact h
      · rw [if_neg c0] at h ⊢
        by_cases c1 : g = ceG w
        · exact Or.inr (updA c1)
        · rw [updN c1]
          exact h
  · rw [j1, j2]
    exact h
/-- what waits stays -/
theorem pnd.up {w : CEL} {bb : Int} {v u : RS} (hj : JFL w bb v u ∨ JPD w bb v u) (e66 : u.a 66 = v.a 66) : (v.i 59).toInt ≤ (u.i 59).toInt ∧ (∀ j : Nat, (j : Int) < (v.i 59).toInt → u.a 60 j = v.a 60 j ∧ u.a 61 j = v.a 61 j ∧ u.a 62 j = v.a 62 j) ∧ (∀ (y q : CEL) (b' : Int) (k : Nat), PND v y q b' k → PND u y q b' k) := by
  have h : (v.i 59).toInt ≤ (u.i 59).toInt ∧ (∀ j : Nat, (j : Int) < (v.i 59).toInt → u.a 60 j = v.a 60 j ∧ u.a 61 j = v.a 61 j ∧ u.a 62 j = v.a 62 j) := by
    rcases hj with ⟨-, j1, ⟨j2, j3, j4⟩, -⟩ | ⟨-, -, ⟨j0, j1⟩, j2, -⟩
    · rw [j1, j2, j3, j4]
      exact ⟨Int.le_refl _, fun _ _ => ⟨rfl, rfl, rfl⟩⟩
    · exact ⟨by omega, fun j hj => j2 j (by omega)⟩
  refine ⟨h.1, h.2, fun y q b' k p => ?_⟩
  obtain ⟨p1, p2, p3, p4⟩ := p
  obtain ⟨z1, z2, z3⟩ := h.2 k p1
  unfold PND
  rw [z1, z2, z3, e66]
  exact ⟨by omega, p2, p3, p4⟩
set_option maxHeartbeats 1000000 in
theorem JMQ.jmp {B : CS} {b : RS} {X R : CS} {v u : RS} {L : List CEL} {c w : CEL} {m e k bb : Int} {B59 B29 : Int} (h : JMQ X v (c :: L) B59 B29) (st : STK X v (c :: L) m e k) (tX : TOP X v c) (hbo : BO2 B b X (c :: L)) (tb : TBB b v) (gl : (b.i 43).toInt ≤ (ceG w : Int)) (hw : w ∈ c :: L) (gw : isGo (X.o w.2.1 0)) (hb : bb = 0 ∨ bb = 1) (eo : R.o = X.o) (e54 : R.i 54 = X.i 54) (z55 : 0 ≤ (X.i 55).toInt) (e55 : (R.i 55).toInt = (X.i 55).toInt + 1) (n52 : ∀ i : Nat, ¬ (i : Int) = (X.i 55).toInt → R.a 52 i = X.a 52 i) (r52 : ∀ i : Nat, (i : Int) = (X.i 55).toInt → (R.a 52 i).toInt = 2 * (X.o w.2.1 1).toInt + bb) (ej : EJF v u) (hj : JFL w bb v u ∨ JPD w bb v u) : JMQ R u (c :: L) B59 B29 := by
  obtain ⟨h1, h2, h3, h4, h5, h6, h7, h8⟩ := h
  obtain ⟨inj1, inj2⟩ := STK.inj (c :: L) m e k st
  have e66 := ej.A 66 (by decide)
  obtain ⟨p1, p2, p3⟩ := pnd.up hj e66
  obtain ⟨i0, hi0⟩ : ∃ i : Nat, (i : Int) = (X.i 55).toInt := ⟨(X.i 55).toInt.toNat, by omega⟩
  have rup : ∀ (y : CEL) (b' : Int) (i : Nat), RCD X y b' i → RCD R y b' i := fun y b' i q => by
    obtain ⟨q1, q2⟩ := q
    unfold RCD
    rw [n52 i (by omega), eo]
    exact ⟨by omega, q2⟩
  have rnew : RCD R w bb i0 := by
    unfold RCD
    rw [eo]
    exact ⟨by omega, r52 i0 hi0, by have := (h7 w hw).2.2.2.1; omega⟩
  have same : ∀ y ∈ c :: L, (X.o y.2.1 1).toInt = (X.o w.2.1 1).toInt → y = w := fun y hy q => by
    rcases Nat.lt_trichotomy y.1 w.1 with z | z | z
    · have := (inj2 y hy w hw z).1
      omega
    · exact inj1 y hy w hw z
    · have := (inj2 w hw y hy z).1
      omega
  have sameG : ∀ y ∈ c :: L, isGo (X.o y.2.1 0) → ceG y = ceG w → y = w := fun y hy gy q => by
    have n1 := nGo1 gy
    have n2 := nGo1 gw
    rcases Nat.lt_trichotomy y.1 w.1 with z | z | z
    · have := (inj2 y hy w hw z).2.1
      omega
    · exact inj1 y hy w hw z
    · have := (inj2 w hw y hy z).2.1
      omega
  have n216 : ∀ q ∈ c :: L, X.o q.2.1 0 = 216 → ¬ INR R q i0 := fun q hq t z => by
    have z2 := z.2 (by rw [eo]; exact t)
    have := ((h7 q hq).2.2.2.2 t).2
    rw [eo] at z2
    omega
  have inw : ∀ q ∈ c :: L, isWl (X.o q.2.1 0) → INR R q i0 := fun q hq t => by
    unfold INR
    rw [eo]
    have := (h7 q hq).2.2.2.1
    refine ⟨by omega, fun z => ?_⟩
    rcases t with t | t | t <;> rw [t] at z <;> exact absurd z (by decide)
  have tyq : ∀ q : CEL, isTy (X.o q.2.1 0) → isWl (X.o q.2.1 0) ∨ X.o q.2.1 0 = 216 := fun q t => by
    rcases t with t | t | t | t
    · exact Or.inl (Or.inl t)
    · exact Or.inl (Or.inr (Or.inl t))
    · exact Or.inl (Or.inr (Or.inr t))
    · exact Or.inr t
  have inr : ∀ (q : CEL) (i : Nat), INR X q i → INR R q i := fun q i z => by
    unfold INR at *
    rw [eo]
    exact z
  have saf : ∀ (n i : Nat), SAF X (c :: L) n i → SAF R (c :: L) n i := fun n i z q hq t l y => by
    rw [eo] at t
    refine z q hq t l ?_
    unfold INR at *
    rw [eo] at y
    exact y
  have pnew : JPD w bb v u → ∃ q ∈ c :: L, isWl (X.o q.2.1 0) ∧ w.1 < q.1 ∧ (∀ y ∈ c :: L, q.1 < y.1 → ¬ isWl (X.o y.2.1 0)) ∧ ∀ j : Nat, (j : Int) = (v.i 59).toInt → PND u w q bb j := fun j => by
    obtain ⟨q, hq, q1, q2, q3, q4, -⟩ := TWL st tX hbo tb gl hw j
    obtain ⟨-, -, ⟨j0, j1⟩, -, j3⟩ := j
    refine ⟨q, hq, q1, q2, q3, fun i hi => ?_⟩
    obtain ⟨y1, y2, y3⟩ := j3 i hi
    unfold PND
    rw [e66, y3]
    exact ⟨by omega, y1, y2, q4⟩
  refine ⟨fun y hy gy b' hb' i r => ?_, fun y hy gy b' hb' f => ?_, fun j hj2 q hq t e62 => ?_, fun j hl hj2 => ?_, fun q hq t => ?_, fun q hq p hp t1 t2 l => ?_, fun y hy => ?_, ⟨fun i hi hg9 => ?_, fun y hy gy b' => ?_⟩⟩
  · rw [eo] at gy
    by_cases ci : i = i0
    · obtain ⟨-, r2⟩ := r
      rw [eo, ci, r52 i0 hi0] at r2
      have eb : bb = b' := by omega
      have ey : y = w := same y hy (by omega)
      rw [ey, ci, ← eb]
      rcases hj with j | j
      · exact Or.inl (flg.at j hb)
      · obtain ⟨q, hq, q1, q2, q3, q4⟩ := pnew j
        obtain ⟨i1, hi1⟩ : ∃ i : Nat, (i : Int) = (v.i 59).toInt := ⟨(v.i 59).toInt.toNat, by have := j.2.2.1.1; omega⟩
        exact Or.inr ⟨i1, q, hq, by rw [eo]; exact q1.ty, q2, q4 i1 hi1, inw q hq q1⟩
    · have r' : RCD X y b' i := by
        obtain ⟨r1, r2⟩ := r
        rw [eo, n52 i (by omega)] at r2
        exact ⟨by omega, r2⟩
      rcases h1 y hy gy b' hb' i r' with z | ⟨k1, q, hq, z1, z2, z3, z4⟩
      · exact Or.inl (flg.up hj hb _ _ z)
      · exact Or.inr ⟨k1, q, hq, by rw [eo]; exact z1, z2, p3 y q b' k1 z3, inr q i z4⟩
  · rw [eo] at gy
    rcases flg.nw hj hb _ b' hb' f with z | ⟨j, z1, z2⟩
    · obtain ⟨i, r1, r2, r3⟩ := h2 y hy gy b' hb' z
      exact ⟨i, rup y b' i r1, by rw [eo]; exact r2, saf _ _ r3⟩
    · have ey : y = w := sameG y hy gy z1
      rw [ey, z2]
      refine ⟨i0, rnew, ?_, fun q hq t l z => ?_⟩
      · rw [eo]
        have := (h7 w hw).2.2.2.1
        omega
      · rw [eo] at t
        rcases tyq q t with t | t
        · exact TFL st tX hbo hw gw j q hq t l
        · exact n216 q hq t z
  · rw [eo] at t
    rw [e66] at e62
    by_cases cj : (j : Int) < (v.i 59).toInt
    · rw [(p2 j cj).2.2] at e62
      obtain ⟨y, hy, y1, y2, b', hb', y3, i, r1, r2, r3⟩ := h3 j cj q hq t e62
      exact ⟨y, hy, by rw [eo]; exact y1, y2, b', hb', p3 y q b' j y3, i, rup y b' i r1, inr q i r2, saf _ _ r3⟩
    · rcases hj with j1 | j1
      · have := j1.2.1
        rw [this] at hj2
        omega
      · have jl : (j : Int) = (v.i 59).toInt := by
          have := j1.2.2.1.2
          omega
        obtain ⟨q', hq', q1, q2, q3, q4⟩ := pnew j1
        have pn := q4 j jl
        have eq : q = q' := by
          have z := pn.2.2.2
          rw [e66] at z
          have zz : v.a 66 (ceT q) = v.a 66 (ceT q') := e62.symm.trans z
          rcases Nat.lt_trichotomy q.1 q'.1 with l | l | l
          · have := h6 q hq q' hq' t q1.ty l
            rw [zz] at this
            omega
          · exact inj1 q hq q' hq' l
          · have := h6 q' hq' q hq q1.ty t l
            rw [zz] at this
            omega
        rw [eq]
        refine ⟨w, hw, by rw [eo]; exact gw, q2, bb, hb, pn, i0, rnew, inw q' hq' q1, fun y hy ty l z => ?_⟩
        rw [eo] at ty
        rcases tyq y ty with t2 | t2
        · exact q3 y hy l t2
        · exact n216 y hy t2 z
  · rw [e66, eo]
    by_cases cj : (j : Int) < (v.i 59).toInt
    · rw [(p2 j cj).2.2]
      exact h4 j hl cj
    · rcases hj with j1 | j1
      · have := j1.2.1
        rw [this] at hj2
        omega
      · have jl : (j : Int) = (v.i 59).toInt := by
          have := j1.2.2.1.2
          omega
        obtain ⟨q', hq', q1, q2, q3, q4⟩ := pnew j1
        have pn := (q4 j jl).2.2.2
        rw [e66] at pn
        exact Or.inr ⟨q', hq', q1.ty, pn⟩
  · rw [eo] at t
    rw [e66]
    exact h5 q hq t
  · rw [eo] at t1 t2
    rw [e66]
    exact h6 q hq p hp t1 t2 l
  · rw [eo, e54]
    obtain ⟨z1, z2, z3, z4, z5⟩ := h7 y hy
    exact ⟨z1, z2, z3, by omega, fun t => ⟨(z5 t).1, by have := (z5 t).2; omega⟩⟩
  · rw [e54]
    by_cases ci : i = i0
    · rw [ci, r52 i0 hi0]
      have := (h7 w hw).2.1
      omega
    · rw [n52 i (by omega)]
      exact h8.1 i (by omega) (by rw [eo] at hg9; exact hg9)
  · rw [eo] at gy
    exact flg.bo hj hb _ _ (h8.2 y hy gy b')
/-- where a jump's instruction lies: behind all that waits -/
def CFR (X : CS) (v : RS) (L : List CEL) (b20 : Int) (kk : Nat) : Prop := ∃ col : Nat → Option (Nat × Bool), COL X v L col b20 ∧ col kk = none ∧ (∀ (j : Nat) (x : Nat × Bool), col j = some x → j < kk) ∧ (∀ q ∈ L, X.o q.2.1 0 = 218 → (v.a 66 (ceT q)).toInt < (kk : Int)) ∧ (∀ q ∈ L, ∀ k : Int, PLF X v q k → k < (kk : Int))
set_option maxHeartbeats 1000000 in
theorem COR.jmp {d : Int32} {B : CS} {b : RS} {t0 : Nat} {L : List CEL} {x : Int} {X R : CS} {v u : RS} {c w : CEL} {bb : Int} {kk : Nat} (hC : COR d B b t0 (c :: L) x X v) (tX : TOP X v c) (lX : LOW X v c) (hB : BOT b X (c :: L)) (hB2 : BO2 B b X (c :: L)) (cq : CRQ X R) (hi : ∀ k : Nat, k ≠ 55 → R.i k = X.i k) (e55 : (R.i 55).toInt = (X.i 55).toInt + 1) (n52 : ∀ i : Nat, ¬ (i : Int) = (X.i 55).toInt → R.a 52 i = X.a 52 i) (r52 : ∀ i : Nat, (i : Int) = (X.i 55).toInt → (R.a 52 i).toInt = 2 * (X.o w.2.1 1).toInt + bb) (rt : RTE B R) (ev : ENV d R u) (ej : EJF v u) (hw : w ∈ c :: L) (gw : isGo (X.o w.2.1 0)) (hb : bb = 0 ∨ bb = 1) (hd : JHD w bb kk v u) (hj : JFL w bb v u ∨ JPD w bb v u) (hcol : CFR X v (c :: L) (b.i 20).toInt kk) (kr : (b.i 20).toInt ≤ (kk : Int) ∧ (kk : Int) < (v.i 20).toInt) : COR d B b t0 (c :: L) x R u ∧ TOP R u c ∧ LOW R u c := by
  obtain ⟨h1, h2, h3, h4, h5, ⟨h6, h7, h8, h9⟩, h10, h13, h14, h17, ⟨h18, h19, h20, -⟩⟩ := hC
  obtain ⟨cr, co, col', ca⟩ := id cq
  have sj := h1.sj
  have e54 := hi 54 (by decide)
  have ei := fun k hk => ej.1 k hk
  have eb := ej.2.2.1
  have ea := fun k hk => ej.A k hk
  have i20 := Int32.toInt_lt (v.i 20)
  have glc := STK.gl L c _ _ _ h2 hB
  have inj := STK.inj (c :: L) _ _ _ h2
  have gl : (b.i 43).toInt ≤ (ceG w : Int) := by
    exact STK.glb L c _ _ _ h2 hB w hw
  have jq := h3.jmp h2 tX hB2 h7 gl hw gw hb co e54 sj.2.2.1 e55 n52 r52 ej hj
  have eo : ∀ y ∈ c :: L, R.o y.2.1 = X.o y.2.1 := fun y _ => by rw [co]
  obtain ⟨d1, d2⟩ := DSM.eq (c :: L) eo
  obtain ⟨p1, p2, -⟩ := pnd.up hj (ea 66 (by decide))
  have ph : phI u = phI v := by
    unfold phI
    rw [ei 17 (by decide), ei 20 (by decide)]
  obtain ⟨col, c1, c2, cl, c3, c4⟩ := hcol
  refine ⟨⟨ev, ?_, jq, LBC.cq co (ea 46 (by decide)) _ _ h4, ?_, ⟨?_, ?_, ?_, ?_⟩, ?_, ?_, ?_, ?_, h18, h19, h20, ?_⟩, ⟨?_, ?_, ?_⟩, ?_⟩
  · rw [hi 22 (by decide), ei 24 (by decide), ei 33 (by decide)]
    exact STK.cq cq _ _ _ _ (STK.ej ej _ _ _ _ h2)
  · obtain ⟨a1, a2, a3, a4, a5, a6, a7, a8, a9, -, a11⟩ := h5
    unfold CBB
    rw [cr, co, col', ca, hi 53 (by decide), hi 22 (by decide), e54]
    refine ⟨a1, a2, a3, a4, a5, a6, by omega, fun k hk => ?_, fun k k1 k2 => ?_, rt, (hi 56 (by decide)).trans a11⟩
    · rw [n52 k (by omega)]
      exact a8 k hk
    · by_cases ck : (k : Int) = (X.i 55).toInt
      · rw [r52 k ck]
        have := BO2.ser L c _ _ _ h2 hB hB2 w hw gw
        exact Or.inr (by omega)
      · rw [n52 k ck]
        exact a9 k k1 (by omega)
  · intro j hj
    have z := h6 j hj
    rw [ea 64 (by decide), ea 65 (by decide), ea 66 (by decide), ea 67 (by decide), ea 68 (by decide), ea 69 (by decide), ea 70 (by decide), ea 71 (by decide), ea 72 (by decide), ea 73 (by decide), eb]
    exact z
  · obtain ⟨a1, a2, a3, q0, q1, q2, q3, q4, q5, q6, q7, q8, q9, q10⟩ := h7
    have hds : ∀ j : Nat, (j : Int) < (b.i 43).toInt → u.a 50 j = v.a 50 j ∧ u.a 51 j = v.a 51 j ∧ u.a 48 j = v.a 48 j ∧ u.a 49 j = v.a 49 j := fun j hj2 => by
      have nj : ¬ j = ceG w := by omega
      have f1 : u.a 48 j = v.a 48 j ∧ u.a 49 j = v.a 49 j := by
        rcases hb with z | z
        · obtain ⟨y1, y2, -⟩ := hd.1 z
          rw [y1, y2]
          exact ⟨updN nj, rfl⟩
        · obtain ⟨y1, y2, -⟩ := hd.2 z
          rw [y1, y2]
          exact ⟨rfl, updN nj⟩
      have f2 : u.a 50 j = v.a 50 j ∧ u.a 51 j = v.a 51 j := by
        rcases hj with ⟨-, -, -, j1, j2⟩ | ⟨-, ⟨j1, j2⟩, -⟩
        · rcases hb with z | z
          · obtain ⟨y1, y2⟩ := j1 z
            rw [y1, y2]
            exact ⟨updN nj, rfl⟩
          · obtain ⟨y1, y2⟩ := j2 z
            rw [y1, y2]
            exact ⟨rfl, updN nj⟩
        · rw [j1, j2]
          exact ⟨rfl, rfl⟩
      exact ⟨f2.1, f2.2, f1.1, f1.2⟩
    unfold TBB
    rw [ei 38 (by decide), ei 43 (by decide), ei 56 (by decide), ei 29 (by decide), ei 33 (by decide), ei 24 (by decide), eb, ea 40 (by decide), ea 41 (by decide), ea 44 (by decide), ea 46 (by decide), ea 47 (by decide), ea 57 (by decide), ea 58 (by decide), ea 30 (by decide), ea 34 (by decide), ea 37 (by decide), ea 25 (by decide), ea 27 (by decide), ea 28 (by decide)]
    refine ⟨a1, a2, a3, q0, fun j hj2 => ?_, q2, by omega, fun j hj2 => ?_, q5, q6, q7, q8, q9, q10⟩
    · obtain ⟨f1, f2, f3, f4⟩ := hds j hj2
      rw [f1, f2, f3, f4]
      exact q1 j hj2
    · obtain ⟨f1, f2, f3⟩ := p2 j (by omega)
      rw [f1, f2, f3]
      exact q4 j hj2
  · unfold CDK at *
    rw [ei 20 (by decide), ea 22 (by decide)]
    exact h8
  · rw [ei 2 (by decide), ei 3 (by decide), ei 8 (by decide), eb, ea 1 (by decide), ea 4 (by decide)]
    exact h9
  · rw [ei 11 (by decide), ei 17 (by decide), ei 19 (by decide), ph, d2, SSM.eo (c :: L) eo]
    exact h10
  · rw [hi 38 (by decide), d1]
    exact ⟨h13.1, h13.2.mv eo (hi 22 (by decide)) (by rw [hi 50 (by decide)]; exact Int.le_refl _) (fun y _ => ⟨by rw [ea 72 (by decide)], by rw [ea 67 (by decide)]⟩)⟩
  · rw [hi 21 (by decide), e54, ei 11 (by decide), ei 38 (by decide)]
    exact h14
  · unfold IAR at *
    rw [hi 56 (by decide), hi 53 (by decide), ei 43 (by decide), ea 44 (by decide), cr]
    exact h17
  · exact COL.jmp c1 co ej hb hd (by omega) c2 cl (fun q hq t z => by have := c3 q hq t; omega) (fun q hq z => by have := c4 q hq _ z; omega) kr h20 hw gw (fun y hy gy q => by
      have n1 := nGo1 gy
      have n2 := nGo1 gw
      rcases Nat.lt_trichotomy y.1 w.1 with z | z | z
      · have := (inj.2 y hy w hw z).2.1
        omega
      · exact inj.1 y hy w hw z
      · have := (inj.2 w hw y hy z).2.1
        omega)
  · rw [hi 53 (by decide)]
    exact tX.1
  · rw [ei 43 (by decide), co]
    exact tX.2.1
  · rw [ei 56 (by decide), co]
    exact tX.2.2
  · have z := lX.ej ej
    unfold LOW at *
    rw [co]
    exact z
end
section
/-! both readers: the reference's jump, on the way -/
abbrev isJ (k : Nat) : Prop := k = 48 ∨ k = 49 ∨ k = 50 ∨ k = 51 ∨ k = 60 ∨ k = 61 ∨ k = 62
/-- u with what jumps change as in q -/
def sj (q u : RS) : RS := (va_up u.i 59 (q.i 59), u.l, fun k => if isJ k then q.a k else u.a k, u.b)
theorem sj.ej (q u : RS) : EJF (sj q u) u := by
  refine ⟨fun k hk => (if_neg hk).symm, rfl, rfl, fun k h1 h2 h3 h4 h5 h6 h7 => (if_neg ?_).symm⟩
  intro z
  unfold isJ at z
  omega
theorem sj.a {q u : RS} {k : Nat} (h : isJ k) : (sj q u).a k = q.a k := if_pos h
theorem sj.i {q u : RS} : (sj q u).i 59 = q.i 59 := rfl
theorem EJF.sym {s u : RS} (h : EJF s u) : EJF u s := ⟨fun k hk => (h.1 k hk).symm, h.2.1.symm, h.2.2.1.symm, fun k h1 h2 h3 h4 h5 h6 h7 => (h.2.2.2 k h1 h2 h3 h4 h5 h6 h7).symm⟩
theorem EJF.env {d : Int32} {S : CS} {s u : RS} (h : EJF s u) (g : ENV d S s) (w : ∀ j : Nat, (j : Int) < (u.i 59).toInt → (u.a 62 j).toInt < (s.i 29).toInt) : ENV d S u := by
  have e := fun k hk => h.1 k hk
  have ea := fun k hk => h.A k hk
  refine g.kq (e 38 (by decide)) (e 2 (by decide)) (e 3 (by decide)) (e 18 (by decide)) (e 53 (by decide)) (e 54 (by decide)) (e 55 (by decide)) (ea 1 (by decide)) (ea 4 (by decide)) (ea 41 (by decide)) (by rw [h.2.2.1]) (by rw [h.2.2.1]) (e 10 (by decide)) (e 11 (by decide)) (e 12 (by decide)) (e 14 (by decide)) (e 15 (by decide)) (e 17 (by decide)) (e 19 (by decide)) h.2.1 ?_ ?_
  · unfold phI
    rw [e 17 (by decide), e 20 (by decide)]
    exact ⟨g.2.2.2.2.2.2.1, g.2.2.2.2.2.2.2.1⟩
  · have z := g.wp
    unfold WPI at *
    rw [e 43 (by decide), e 56 (by decide), e 29 (by decide), ea 58 (by decide)]
    exact ⟨z.1, w⟩
theorem EJF.frb {s u : RS} (h : EJF s u) (T : Nat) : FRB T s u := fun j _ => by
  have ea := fun k hk => h.A k hk
  rw [ea 64 (by decide), ea 65 (by decide), ea 66 (by decide), ea 67 (by decide), ea 68 (by decide), ea 69 (by decide), ea 70 (by decide), ea 71 (by decide), ea 72 (by decide), ea 73 (by decide), h.2.2.1]
  exact ⟨rfl, rfl, rfl, rfl, rfl, rfl, rfl, rfl, rfl, rfl, rfl⟩
/-- what a piece behind the jump does, without the jump -/
theorem EJF.tbk {q J u : RS} (h : EJF q J) (g : TBK J u) : TBK q (sj q u) := by
  obtain ⟨⟨⟨n1, n2, n3, n4, n5, n6, n7, n8, n9, n10⟩, t0, t1, t2, -, -, t5, t6, t7, t8, t9, t10⟩, c1, c2⟩ := g
  have E := sj.ej q u
  obtain ⟨U, hU⟩ : ∃ U, U = sj q u := ⟨_, rfl⟩
  have j48 : U.a 48 = q.a 48 := by rw [hU]; exact sj.a (Or.inl rfl)
  have j49 : U.a 49 = q.a 49 := by rw [hU]; exact sj.a (Or.inr (Or.inl rfl))
  have j50 : U.a 50 = q.a 50 := by rw [hU]; exact sj.a (Or.inr (Or.inr (Or.inl rfl)))
  have j51 : U.a 51 = q.a 51 := by rw [hU]; exact sj.a (Or.inr (Or.inr (Or.inr (Or.inl rfl))))
  have j60 : U.a 60 = q.a 60 := by rw [hU]; exact sj.a (Or.inr (Or.inr (Or.inr (Or.inr (Or.inl rfl)))))
  have j61 : U.a 61 = q.a 61 := by rw [hU]; exact sj.a (Or.inr (Or.inr (Or.inr (Or.inr (Or.inr (Or.inl rfl))))))
  have j62 : U.a 62 = q.a 62 := by rw [hU]; exact sj.a (Or.inr (Or.inr (Or.inr (Or.inr (Or.inr (Or.inr rfl))))))
  have j59 : U.i 59 = q.i 59 := by rw [hU]; rfl
  rw [← hU] at E ⊢
  clear hU
  have xi : ∀ k : Nat, k ≠ 59 → u.i k = J.i k → U.i k = q.i k := fun k hk z => ((E.1 k hk).symm.trans z).trans (h.1 k hk)
  have xa : ∀ k : Nat, (k < 48 ∨ (51 < k ∧ k < 60) ∨ 62 < k) → ∀ j : Nat, u.a k j = J.a k j → U.a k j = q.a k j := fun k hk j z => by
    rw [← E.A k hk, z, h.A k hk]
  have xb : ∀ k j : Nat, u.b k j = J.b k j → U.b k j = q.b k j := fun k j z => by
    rw [← E.2.2.1, z, h.2.2.1]
  have xA : ∀ k : Nat, (k < 48 ∨ (51 < k ∧ k < 60) ∨ 62 < k) → u.a k = J.a k → U.a k = q.a k := fun k hk z => by
    rw [← E.A k hk, z, h.A k hk]
  have xB : ∀ k : Nat, u.b k = J.b k → U.b k = q.b k := fun k z => by
    rw [← E.2.2.1, z, h.2.2.1]
  have hi := fun k hk => h.1 k hk
  have Ei := fun k hk => E.1 k hk
  refine ⟨⟨⟨xi 2 (by decide) n1, xi 3 (by decide) n2, xi 8 (by decide) n3, xi 38 (by decide) n4, xi 43 (by decide) n5, xi 2 (by decide) n6, xi 56 (by decide) n7, xA 1 (by decide) n8, xA 4 (by decide) n9, xB 9 n10⟩, fun j hj => ?_, fun j hj => ?_, fun j hj => ?_, ⟨by rw [j59]; exact Int.le_refl _, fun j h1 h2 => by rw [j59] at h2; omega⟩, fun j hj => by rw [j60, j61, j62]; exact ⟨rfl, rfl, rfl⟩, ?_, fun j hj => ?_, ?_, fun j hj => ?_, ?_, fun j hj => ?_⟩, ?_, fun j hj => ?_⟩
  · rw [← hi 38 (by decide)] at hj
    obtain ⟨z1, z2, z3⟩ := t0 j hj
    exact ⟨xb 39 j z1, xa 40 (by decide) j z2, xa 41 (by decide) j z3⟩
  · rw [← hi 43 (by decide)] at hj
    obtain ⟨z1, z2, z3, z4, -⟩ := t1 j hj
    rw [j48, j49, j50, j51]
    exact ⟨xa 44 (by decide) j z1, xb 45 j z2, xa 46 (by decide) j z3, xa 47 (by decide) j z4, rfl, rfl, rfl, rfl⟩
  · rw [← hi 56 (by decide)] at hj
    obtain ⟨z1, z2⟩ := t2 j hj
    exact ⟨xa 57 (by decide) j z1, xa 58 (by decide) j z2⟩
  · rw [← Ei 29 (by decide), ← hi 29 (by decide)]
    exact t5
  · rw [← hi 29 (by decide)] at hj
    exact xa 30 (by decide) j (t6 j hj)
  · rw [← Ei 33 (by decide), ← hi 33 (by decide)]
    exact t7
  · rw [← hi 33 (by decide)] at hj
    obtain ⟨z1, z2⟩ := t8 j hj
    exact ⟨xa 34 (by decide) j z1, xa 37 (by decide) j z2⟩
  · rw [← Ei 24 (by decide), ← hi 24 (by decide)]
    exact t9
  · rw [← hi 24 (by decide)] at hj
    obtain ⟨z1, z2, z3⟩ := t10 j hj
    exact ⟨xa 25 (by decide) j z1, xa 27 (by decide) j z2, xa 28 (by decide) j z3⟩
  · rw [← Ei 20 (by decide), ← hi 20 (by decide)]
    exact c1
  · rw [← hi 20 (by decide)] at hj
    exact xa 22 (by decide) j (c2 j hj)
theorem WAY.ej {d : Int32} {T : Nat} {p f k y z : Int} {P R : CS} {q J u : RS} (h : EJF q J) (evq : ENV d P q) (w : WAY d T p f k y z P J R u) : WAY d T p f k y z P q R (sj q u) := by
  obtain ⟨w1, w2, w3, w4, w5, w6, ⟨m1, m2, m3, m4⟩, ⟨r1, r2, r3⟩⟩ := w
  have E := sj.ej q u
  have tb := h.tbk w4
  have l29 := w4.1.2.2.2.2.2.2.1
  have hi := fun k hk => h.1 k hk
  have Ei := fun k hk => E.1 k hk
  have p1 : phI J = phI q := by
    unfold phI
    rw [hi 17 (by decide), hi 20 (by decide)]
  have p2 : phI u = phI (sj q u) := by
    unfold phI
    rw [Ei 17 (by decide), Ei 20 (by decide)]
  rw [hi 11 (by decide), Ei 11 (by decide)] at m1 r1 r2 r3
  rw [p1, p2] at m2
  rw [hi 17 (by decide), Ei 17 (by decide)] at m3
  rw [hi 19 (by decide), Ei 19 (by decide)] at m4
  refine ⟨E.sym.env w1 (fun j hj => ?_), ?_, (h.frb T).tr (w3.tr (E.sym.frb T)), tb, w5, w6, ⟨m1, m2, m3, m4⟩, ⟨r1, r2, r3⟩⟩
  · rw [sj.a (Or.inr (Or.inr (Or.inr (Or.inr (Or.inr (Or.inr rfl))))))]
    have z := evq.wp.2 j hj
    rw [hi 29 (by decide)] at l29
    omega
  · show ((sj q u).i 63).toInt = (T : Int)
    rw [← Ei 63 (by decide)]
    exact w2
theorem WAY.tr {d d0 : Int32} {T : Nat} {p f k y z p1 f1 k1 y1 z1 : Int} {S P R : CS} {s q u : RS} (h : WAY d0 T p f k y z S s P q) (g : WAY d T p1 f1 k1 y1 z1 P q R u) : WAY d T (p + p1) (f + f1) (k + k1) (y + y1) (z + z1) S s R u := by
  obtain ⟨h1, h2, h3, h4, h5, ⟨i1, i2, i3, i4, i5⟩, ⟨n1, n2, n3, n4⟩, ⟨r1, r2, r3⟩⟩ := h
  obtain ⟨g1, g2, g3, g4, g5, ⟨j1, j2, j3, j4, j5⟩, ⟨m1, m2, m3, m4⟩, ⟨s1, s2, s3⟩⟩ := g
  exact ⟨g1, g2, h3.tr g3, h4.tr g4, h5.tr i3 g5, ⟨j1.trans i1, j2.trans i2, j3.trans i3, j4.trans i4, j5⟩, ⟨by omega, by omega, by omega, by omega⟩, ⟨by omega, by omega, by omega⟩⟩
/-- the third word of an instruction -/
theorem WAY.s23 {d : Int32} {T : Nat} {p f k y z : Int} {S P : CS} {s q : RS} {j : Nat} {v : Int32} (h : WAY d T p f k y z S s P q) : WAY d T p f k y z S s P (RS.setA q 23 j v) := by
  have e : ∀ m : Nat, m ≠ 23 → (RS.setA q 23 j v).a m = q.a m := fun m hm => if_neg hm
  obtain ⟨Q, hQ⟩ : ∃ Q, Q = RS.setA q 23 j v := ⟨_, rfl⟩
  have ei : Q.i = q.i := by rw [hQ]; rfl
  have el : Q.l = q.l := by rw [hQ]; rfl
  have eb : Q.b = q.b := by rw [hQ]; rfl
  rw [← hQ] at e ⊢
  clear hQ
  have ph : phI Q = phI q := by
    unfold phI
    rw [ei]
  have ev : ENV d P Q := h.1.kq (by rw [ei]) (by rw [ei]) (by rw [ei]) (by rw [ei]) (by rw [ei]) (by rw [ei]) (by rw [ei]) (e 1 (by decide)) (e 4 (by decide)) (e 41 (by decide)) (by rw [eb]) (by rw [eb]) (by rw [ei]) (by rw [ei]) (by rw [ei]) (by rw [ei]) (by rw [ei]) (by rw [ei]) (by rw [ei]) el (by rw [ei, ph]; exact ⟨h.1.2.2.2.2.2.2.1, h.1.2.2.2.2.2.2.2.1⟩) (h.1.wp.of (by rw [ei]; exact Int.le_refl _) (by rw [ei]) (by rw [ei]) (by rw [ei]) (e 58 (by decide)) (e 62 (by decide)))
  have fr : FRB T q Q := fun i _ => by
    rw [e 64 (by decide), e 65 (by decide), e 66 (by decide), e 67 (by decide), e 68 (by decide), e 69 (by decide), e 70 (by decide), e 71 (by decide), e 72 (by decide), e 73 (by decide), eb]
    exact ⟨rfl, rfl, rfl, rfl, rfl, rfl, rfl, rfl, rfl, rfl, rfl⟩
  have tb : TBK q Q := by
    have z := TBK.rf q
    unfold TBK TBZ CDK at *
    rw [ei, eb, e 1 (by decide), e 4 (by decide), e 22 (by decide), e 25 (by decide), e 27 (by decide), e 28 (by decide), e 30 (by decide), e 34 (by decide), e 37 (by decide), e 40 (by decide), e 41 (by decide), e 44 (by decide), e 46 (by decide), e 47 (by decide), e 48 (by decide), e 49 (by decide), e 50 (by decide), e 51 (by decide), e 57 (by decide), e 58 (by decide), e 60 (by decide), e 61 (by decide), e 62 (by decide)]
    exact z
  have w := h.cx (p1 := 0) (f1 := 0) (k1 := 0) ev (by show (Q.i 63).toInt = (T : Int); rw [ei]; exact h.2.1) fr tb (CKX.rf P) ⟨by rw [ei]; omega, by rw [ph]; omega, by rw [ei]; exact Int.le_refl _, by rw [ei]; omega⟩
  exact w.nu (by omega) (by omega) (by omega) (by omega) (by omega)
/-- the reference: the head of the chain, the flag or what waits -/
theorem jp_pend {N F g : Nat} {q J : RS} {x1 x4 hk : Int32} {w : CEL} {bb : Int} (hF : F = 48 ∨ F = 49) (h56 : 0 ≤ (q.i 56).toInt) (hx : x4.toInt = (ceG w : Int)) (hbx : (x1 = 1 ∧ bb = 0) ∨ (x1 = 0 ∧ bb = 1)) (h : f_X12_pend N (RS.setA q F g hk) x4 x1 = some J) : EJF q J ∧ (J.a F = upd (q.a F) g hk ∧ ∀ k : Nat, k = 48 ∨ k = 49 → k ≠ F → J.a k = q.a k) ∧ (JFL w bb q J ∨ JPD w bb q J) := by
  have e1 : (1 : Int32).toInt = 1 := by decide
  obtain ⟨J0, hJ0⟩ : ∃ y, y = RS.setA q F g hk := ⟨_, rfl⟩
  have ei : J0.i = q.i := by rw [hJ0]; rfl
  have el : J0.l = q.l := by rw [hJ0]; rfl
  have eb : J0.b = q.b := by rw [hJ0]; rfl
  have ea : ∀ m : Nat, m ≠ F → J0.a m = q.a m := by
    rw [hJ0]
    exact fun m hm => if_neg hm
  have eF : J0.a F = upd (q.a F) g hk := by
    rw [hJ0]
    show (if F = F then upd (q.a F) g hk else q.a F) = upd (q.a F) g hk
    exact if_pos rfl
  rw [← hJ0] at h
  clear hJ0
  have xn : x4.toNatClampNeg = ceG w := by
    show x4.toInt.toNat = ceG w
    omega
  -- a flag
  have flag : f_X12_pend_22 N J0 x4 x1 = some J → ((q.i 56).toInt = 0 ∨ (q.a 58 ((q.i 56).toInt - 1).toNat).toInt ≤ (ceG w : Int)) → EJF q J ∧ (J.a F = upd (q.a F) g hk ∧ ∀ k : Nat, k = 48 ∨ k = 49 → k ≠ F → J.a k = q.a k) ∧ (JFL w bb q J ∨ JPD w bb q J) := fun e hl => by
    unfold f_X12_pend_22 at e
    obtain ⟨y, hy, e⟩ := hf_bind e
    cases e
    unfold f_X12_goes at hy
    have fin : ∀ G : Nat, (G = 50 ∧ bb = 0) ∨ (G = 51 ∧ bb = 1) → RS.setA J0 G (ceG w) 1 = J → EJF q J ∧ (J.a F = upd (q.a F) g hk ∧ ∀ k : Nat, k = 48 ∨ k = 49 → k ≠ F → J.a k = q.a k) ∧ (JFL w bb q J ∨ JPD w bb q J) := fun G hG e => by
      have jn : ∀ m : Nat, m ≠ G → J.a m = J0.a m := by
        rw [← e]
        exact fun m hm => if_neg hm
      have jG : J.a G = upd (J0.a G) (ceG w) 1 := by
        rw [← e]
        show (if G = G then upd (J0.a G) (ceG w) 1 else J0.a G) = _
        exact if_pos rfl
      have ji : J.i = J0.i := by rw [← e]; rfl
      have jl : J.l = J0.l := by rw [← e]; rfl
      have jb : J.b = J0.b := by rw [← e]; rfl
      clear e
      refine ⟨⟨fun k _ => by rw [ji, ei], jl.trans el, jb.trans eb, fun k h1 h2 h3 h4 h5 h6 h7 => by rw [jn k (by omega), ea k (by omega)]⟩, ⟨by rw [jn F (by omega)]; exact eF, fun k hk2 hn => by rw [jn k (by omega), ea k hn]⟩, Or.inl ⟨hl, by rw [ji, ei], ⟨by rw [jn 60 (by omega), ea 60 (by omega)], by rw [jn 61 (by omega), ea 61 (by omega)], by rw [jn 62 (by omega), ea 62 (by omega)]⟩, fun z => ?_, fun z => ?_⟩⟩
      · have g50 : G = 50 := by omega
        rw [g50] at jG jn
        rw [jG, jn 51 (by decide), ea 50 (by omega), ea 51 (by omega)]
        exact ⟨rfl, rfl⟩
      · have g51 : G = 51 := by omega
        rw [g51] at jG jn
        rw [jG, jn 50 (by decide), ea 50 (by omega), ea 51 (by omega)]
        exact ⟨rfl, rfl⟩
    rcases hbx with ⟨z1, z2⟩ | ⟨z1, z2⟩
    · rw [z1, if_neg n10] at hy
      obtain ⟨-, hy⟩ := hf_ite hy
      rw [xn] at hy
      exact fin 50 (Or.inl ⟨rfl, z2⟩) (Option.some.inj hy)
    · rw [z1, if_pos rfl] at hy
      obtain ⟨-, hy⟩ := hf_ite hy
      rw [xn] at hy
      exact fin 51 (Or.inr ⟨rfl, z2⟩) (Option.some.inj hy)
  unfold f_X12_pend at h
  rw [ei] at h
  by_cases c0 : q.i 56 = 0
  · rw [if_pos c0] at h
    exact flag h (Or.inl (by rw [c0]; rfl))
  · rw [if_neg c0] at h
    obtain ⟨hib, h⟩ := hf_ite h
    have em : (q.i 56 - 1).toInt = (q.i 56).toInt - 1 := by
      have hi := Int32.toInt_lt (q.i 56)
      rw [toInt_sub] <;> rw [e1] <;> omega
    have en : (q.i 56 - 1).toNatClampNeg = ((q.i 56).toInt - 1).toNat := by
      show (q.i 56 - 1).toInt.toNat = _
      rw [em]
    rw [en, ea 58 (by omega), ea 57 (by omega)] at h
    have hp : 0 < (q.i 56).toInt := by
      have := hib.1
      omega
    by_cases c1 : x4 < q.a 58 ((q.i 56).toInt - 1).toNat
    · rw [if_pos c1] at h
      obtain ⟨hb2, h⟩ := hf_ite h
      have c1' := Int32.lt_iff_toInt_lt.mp c1
      have h59 := hb2.1
      have h59' := hb2.2
      obtain ⟨n, hn⟩ : ∃ n : Nat, n = (q.i 59).toNatClampNeg := ⟨_, rfl⟩
      have hn' : (n : Int) = (q.i 59).toInt := by
        rw [hn]
        show (((q.i 59).toInt.toNat : Nat) : Int) = _
        omega
      rw [← hn] at h
      have hJ := Option.some.inj h
      clear h
      have a60 : J.a 60 = upd (q.a 60) n x4 := by
        rw [← hJ]
        show (RS.setA (RS.setA (RS.setA J0 60 n x4) 61 n (vp_nar .boolean x1)) 62 n _).a 60 = _
        rw [setA_nk (by decide), setA_nk (by decide), ← ea 60 (by omega)]
        rfl
      have a61 : J.a 61 = upd (q.a 61) n (vp_nar .boolean x1) := by
        rw [← hJ]
        show (RS.setA (RS.setA (RS.setA J0 60 n x4) 61 n (vp_nar .boolean x1)) 62 n _).a 61 = _
        rw [setA_nk (by decide), ← ea 61 (by omega), ← setA_nk (s := J0) (k := 61) (k' := 60) (j := n) (v := x4) (by decide)]
        rfl
      have a62 : J.a 62 = upd (q.a 62) n (q.a 57 ((q.i 56).toInt - 1).toNat) := by
        rw [← hJ]
        show (RS.setA (RS.setA (RS.setA J0 60 n x4) 61 n (vp_nar .boolean x1)) 62 n _).a 62 = _
        rw [← ea 62 (by omega), ← setA_nk (s := J0) (k := 62) (k' := 60) (j := n) (v := x4) (by decide), ← setA_nk (s := RS.setA J0 60 n x4) (k := 62) (k' := 61) (j := n) (v := vp_nar .boolean x1) (by decide)]
        rfl
      have jn : ∀ m : Nat, m ≠ 60 → m ≠ 61 → m ≠ 62 → J.a m = J0.a m := fun m h1 h2 h3 => by
        rw [← hJ]
        show (RS.setA (RS.setA (RS.setA J0 60 n x4) 61 n (vp_nar .boolean x1)) 62 n _).a m = _
        rw [setA_nk h3, setA_nk h2, setA_nk h1]
      have ji : ∀ k : Nat, k ≠ 59 → J.i k = q.i k := fun k hk => by
        rw [← hJ, ← ei]
        exact if_neg hk
      have j59 : J.i 59 = q.i 59 + 1 := by
        rw [← hJ]
        rfl
      have jl : J.l = J0.l := by rw [← hJ]; rfl
      have jb : J.b = J0.b := by rw [← hJ]; rfl
      clear hJ
      refine ⟨⟨ji, jl.trans el, jb.trans eb, fun k h1 h2 h3 h4 h5 h6 h7 => by rw [jn k h5 h6 h7, ea k (by omega)]⟩, ⟨by rw [jn F (by omega) (by omega) (by omega)]; exact eF, fun k hk2 hne => by rw [jn k (by omega) (by omega) (by omega), ea k hne]⟩, Or.inr ⟨⟨hp, by omega⟩, ⟨by rw [jn 50 (by decide) (by decide) (by decide), ea 50 (by omega)], by rw [jn 51 (by decide) (by decide) (by decide), ea 51 (by omega)]⟩, ⟨h59, by rw [j59, ad1 h59 (by omega)]⟩, fun j hj => ?_, fun j hj => ?_⟩⟩
      · have nj : ¬ j = n := by omega
        rw [a60, a61, a62, updN nj, updN nj, updN nj]
        exact ⟨rfl, rfl, rfl⟩
      · have nj : j = n := by omega
        rw [a60, a61, a62, updA nj, updA nj, updA nj]
        refine ⟨hx, ?_, rfl⟩
        have b0 : vp_nar .boolean (0 : Int32) = 0 := by decide
        have b1 : vp_nar .boolean (1 : Int32) = 1 := by decide
        rcases hbx with ⟨z1, z2⟩ | ⟨z1, z2⟩
        · rw [z1, b1]
          exact ⟨fun _ => z2, fun _ => by decide⟩
        · rw [z1, b0]
          exact ⟨fun z => absurd rfl z, fun z => by omega⟩
    · rw [if_neg c1] at h
      have c1' : ¬ x4.toInt < (q.a 58 ((q.i 56).toInt - 1).toNat).toInt := fun z => c1 (Int32.lt_iff_toInt_lt.mpr z)
      exact flag h (Or.inr (by omega))
end
section
/-! both readers: break and continue -/
theorem rf_fail {N : Nat} {s V : RS} {x p : Int32} (hx : ¬ x = 0) (h : f_X12_fail N s x p = some V) : ¬ V.i 15 = 0 := by
  unfold f_X12_fail at h
  by_cases c : s.i 15 = 0
  · rw [if_pos c] at h
    rw [← Option.some.inj h]
    exact hx
  · rw [if_neg c] at h
    rw [← Option.some.inj h]
    exact c
theorem r_jst {N T : Nat} {s V : RS} {v : Int32} (ht : tpI s = (T : Int)) (h15 : s.i 15 = 0) (h10 : s.i 10 = v) (hv : v = 418 ∨ v = 419) (h : f_X12_stat N s (s.i 63) = some V) : T < 1000 ∧ f_X12_stat_309 N (RS.setA (RS.setI s 53 ((s.i 53) + 1)) 64 T 2) = some V := by
  unfold f_X12_stat at h
  rw [h10, tp_nat ht] at h
  have h2 : ib (s.i 63) 1000 ∧ f_X12_stat_240 N (RS.setA (RS.setI s 53 ((s.i 53) + 1)) 64 T 2) (s.i 63) = some V := by
    rcases hv with rfl | rfl
    · iterate 16 rw [if_neg (by decide)] at h
      exact hf_ite h
    · iterate 16 rw [if_neg (by decide)] at h
      exact hf_ite h
  clear h
  obtain ⟨hib, h2⟩ := h2
  refine ⟨?_, ?_⟩
  · have z : (s.i 63).toInt = (T : Int) := ht
    have := hib.2
    omega
  obtain ⟨s1, hs1⟩ : ∃ y, y = RS.setA (RS.setI s 53 ((s.i 53) + 1)) 64 T 2 := ⟨_, rfl⟩
  have i1 : ∀ k : Nat, k ≠ 53 → s1.i k = s.i k := by
    rw [hs1]
    exact fun k h => if_neg h
  have a64 : s1.a 64 T = 2 := by
    rw [hs1]
    exact setA_at
  rw [← hs1] at h2 ⊢
  clear hs1
  have can : ∀ p : Int32 × RS, f_X12_can N s1 1 = some p → p = (1, s1) := fun p e => by
    unfold f_X12_can f_X12_can_42 at e
    have j15 := (i1 15 (by decide)).trans h15
    have j6 : ¬ s1.i 10 = 6 := by
      rw [i1 10 (by decide), h10]
      rcases hv with rfl | rfl <;> decide
    rw [if_pos j15, if_neg n10, if_neg j6, if_pos j15] at e
    exact (Option.some.inj e).symm
  unfold f_X12_stat_240 at h2
  obtain ⟨-, h2⟩ := hf_ite h2
  rw [tp_nat ht, a64, if_pos rfl, i1 10 (by decide), h10] at h2
  rcases hv with rfl | rfl
  · rw [if_neg (by decide), if_pos rfl] at h2
    obtain ⟨p, ep, h2⟩ := hf_bind h2
    rw [can p ep, if_neg n10] at h2
    exact h2
  · rw [if_neg (by decide), if_neg (by decide), if_pos rfl] at h2
    obtain ⟨p, ep, h2⟩ := hf_bind h2
    rw [can p ep, if_neg n10] at h2
    exact h2
/-- jumps are counted -/
theorem WAY.cj {d : Int32} {T : Nat} {p f k y z : Int} {S P : CS} {s q : RS} (h : WAY d T p f k y z S s P q) : WAY d T p f k y z S s (CS.setI P 26 (P.i 26 + 1)) (RS.setI q 55 (q.i 55 + 1)) := by
  obtain ⟨h1, h2, h3, h4, h5, h6, h7, h8⟩ := h
  refine ⟨?_, h2, h3, h4, h5, h6, h7, h8⟩
  obtain ⟨⟨a1, a2, a3, a4, a5, a6, a7, a8⟩, n, o, ⟨c1, c2, c3⟩, l, k, ⟨r1, r2, r3, r4, r5, r6, r7, r8, r9, r10, r11⟩⟩ := h1
  refine ⟨⟨a1, a2, a3, a4, a5, a6, a7, a8⟩, n, o, ⟨c1, ?_, c3⟩, l, k, ⟨r1, r2, r3, r4, r5, r6, r7, r8.mv rfl rfl rfl rfl ⟨rfl, rfl, rfl⟩ r8.2.2.2.2.2.2 (Int.le_refl _), r9, r10, r11⟩⟩
  show P.i 26 + 1 = q.i 55 + 1
  rw [c2]
theorem pj_55 {S R : CS} (h : pj R = pj S) : R.i 55 = S.i 55 := by
  obtain ⟨-, -, -, -, -, -, -, -, -, -, -, -, -, -, -, -, i55, -, -, -, -, -, -, -, -, -, -, -, -⟩ := pj_eq h
  exact i55
/-- emit: its second word -/
theorem em_22 {N : Nat} {d : Int32} {S : CS} {s : RS} {o x : Int32} {V : Int32 × RS} (h : ENV d S s) (hp : 1 ≤ phI s) (g : f_X12_emit N s o x = some V) : V.2.a 22 (s.i 20).toNatClampNeg = x := by
  have z := (em_env h hp g).2.2.2.2.1
  unfold f_X12_emit f_X12_emit_21 at g
  by_cases c : 3000 ≤ s.i 20
  · rw [if_pos c] at g
    obtain ⟨-, g⟩ := hf_ite g
    rw [← Option.some.inj g] at z ⊢
    have e : (2999 : Int32) = s.i 20 := z
    exfalso
    rw [← e] at c
    exact absurd c (by decide)
  · rw [if_neg c] at g
    obtain ⟨-, g⟩ := hf_ite g
    rw [← Option.some.inj g]
    show (RS.setA (RS.setA (RS.setA s 21 _ o) 22 (s.i 20).toNatClampNeg x) 23 _ 0).a 22 (s.i 20).toNatClampNeg = x
    rw [setA_nk (by decide)]
    exact setA_at
theorem JFL.tr {w : CEL} {bb : Int} {q J v u : RS} (h : JFL w bb q J) (e56 : v.i 56 = q.i 56) (e58 : v.a 58 = q.a 58) (e59 : v.i 59 = q.i 59) (f59 : u.i 59 = J.i 59) (ev : v.a 50 = q.a 50 ∧ v.a 51 = q.a 51 ∧ v.a 60 = q.a 60 ∧ v.a 61 = q.a 61 ∧ v.a 62 = q.a 62) (eu : u.a 50 = J.a 50 ∧ u.a 51 = J.a 51 ∧ u.a 60 = J.a 60 ∧ u.a 61 = J.a 61 ∧ u.a 62 = J.a 62) : JFL w bb v u := by
  unfold JFL at *
  rw [e56, e58, e59, f59, ev.1, ev.2.1, ev.2.2.1, ev.2.2.2.1, ev.2.2.2.2, eu.1, eu.2.1, eu.2.2.1, eu.2.2.2.1, eu.2.2.2.2]
  exact h
theorem JPD.tr {w : CEL} {bb : Int} {q J v u : RS} (h : JPD w bb q J) (e56 : v.i 56 = q.i 56) (e58 : v.a 58 = q.a 58) (e57 : v.a 57 = q.a 57) (e59 : v.i 59 = q.i 59) (f59 : u.i 59 = J.i 59) (ev : v.a 50 = q.a 50 ∧ v.a 51 = q.a 51 ∧ v.a 60 = q.a 60 ∧ v.a 61 = q.a 61 ∧ v.a 62 = q.a 62) (eu : u.a 50 = J.a 50 ∧ u.a 51 = J.a 51 ∧ u.a 60 = J.a 60 ∧ u.a 61 = J.a 61 ∧ u.a 62 = J.a 62) : JPD w bb v u := by
  unfold JPD at *
  rw [e56, e57, e58, e59, f59, ev.1, ev.2.1, ev.2.2.1, ev.2.2.2.1, ev.2.2.2.2, eu.1, eu.2.1, eu.2.2.1, eu.2.2.2.1, eu.2.2.2.2]
  exact h
theorem qj_jp {s u : RS} (h : qj u = qj s) : u.i 59 = s.i 59 ∧ (u.a 48 = s.a 48 ∧ u.a 49 = s.a 49) ∧ (u.a 50 = s.a 50 ∧ u.a 51 = s.a 51 ∧ u.a 60 = s.a 60 ∧ u.a 61 = s.a 61 ∧ u.a 62 = s.a 62) ∧ u.i 56 = s.i 56 ∧ u.a 57 = s.a 57 ∧ u.a 58 = s.a 58 := by
  obtain ⟨-, -, -, -, -, -, -, -, -, -, -, -, -, -, i56, i59, -, -, -, -, -, -, -, -, -, -, -, -, -, -, -, -, a48, a49, a50, a51, a57, a58, a60, a61, a62, -⟩ := qj_eq h
  exact ⟨i59, ⟨a48, a49⟩, ⟨a50, a51, a60, a61, a62⟩, i56, a57, a58⟩
end
