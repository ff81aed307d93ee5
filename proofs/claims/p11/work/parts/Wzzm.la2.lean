/-! both readers: a label's chain -/
theorem LBC.stop2 {b : RS} {S : CS} {s : RS} : ∀ (L : List CEL) (c : CEL) (m e k x : Int), STK S s (c :: L) m e k → LBC S s (c :: L) x → ¬ S.o c.2.1 0 = 303 → BOT b S (c :: L) → TBB b s → ∀ j : Nat, ceG c + nGo (S.o c.2.1 0) = j + 1 → ¬ (s.a 44 j = 2 ∧ s.a 46 j = -2)
  | L, c, m, e, k, x, h, lb, hx, hb, tb, j, hj, ⟨z1, z2⟩ => by
    obtain ⟨m', e', k', h1, h2, h3⟩ := h
    by_cases cg : isGo (S.o c.2.1 0)
    · have n1 := nGo1 cg
      have ej : j = ceG c := by omega
      subst ej
      rcases h1.2.2.1.gs cg with ⟨q1, -, -⟩ | ⟨-, q2⟩ | ⟨-, q2⟩
      · exact hx q1
      · rw [z1] at q2
        exact absurd q2 (by decide)
      · rw [z1] at q2
        exact absurd q2 (by decide)
    · have n0 := nGo.eq cg
      cases L with
      | nil =>
        obtain ⟨-, b1, b2⟩ := hb
        rcases b2 with y | y
        · omega
        · have ej : ceG c - 1 = j := by omega
          rw [ej] at y
          have t := (tb.2.2.2.2.1 j (by omega)).1
          rw [z1, y] at t
          exact absurd t (by decide)
      | cons c0 L =>
        obtain ⟨l1, -⟩ := h2 c0 rfl
        have l4 := l1.2.2.1
        have lb' : LBC S s (c0 :: L) (-1) := by
          unfold LBC at lb
          rw [if_neg (fun q => cg (Or.inl q)), if_neg (fun q => cg (by
            rcases q with q | q | q | q
            · exact Or.inr (Or.inr (Or.inl q))
            · exact Or.inr (Or.inr (Or.inr (Or.inl q)))
            · exact Or.inr (Or.inr (Or.inr (Or.inr (Or.inl q))))
            · exact Or.inr (Or.inr (Or.inr (Or.inr (Or.inr q))))))] at lb
          exact lb
        by_cases c0l : S.o c0.2.1 0 = 303
        · have n1 := nGo1 (v := S.o c0.2.1 0) (Or.inl c0l)
          have ej : j = ceG c0 := by omega
          unfold LBC at lb'
          rw [if_pos c0l] at lb'
          have e2 : (-2 : Int32).toInt = -2 := by decide
          rcases lb'.1 with y | y
          · exact absurd y (by decide)
          · rw [← ej, z2, e2] at y
            exact absurd y (by decide)
        · exact LBC.stop2 L c0 m' e' k' (-1) h3 lb' c0l hb tb j (by omega) ⟨z1, z2⟩
/-- the walk of a label that stands at a loop: the labels before it stand there too -/
theorem y_walk2 {N : Nat} {b s0 V : RS} {S : CS} : ∀ (n : Nat) (L : List CEL) (c : CEL) (m e k x : Int) (s : RS) (j : Int32), STK S s0 (c :: L) m e k → LBC S s0 (c :: L) x → (S.o c.2.1 0 = 303 → x = -2) → BOT b S (c :: L) → TBB b s0 → j.toInt + 1 = (ceG c : Int) + (nGo (S.o c.2.1 0) : Int) → (∀ i : Nat, (i : Int) ≤ j.toInt → s.a 44 i = s0.a 44 i ∧ s.a 46 i = s0.a 46 i) → f_X12_label_125 N n s j = some V → ∃ v : RS, f_X12_label_188 N v = some V ∧ E46 s v ∧ LBC S v (c :: L) (-3) ∧ (∀ i : Nat, (i : Int) < (b.i 43).toInt ∨ j.toInt < (i : Int) → v.a 46 i = s.a 46 i)
  | 0, _, _, _, _, _, _, _, _, _, _, _, _, _, _, _, e => by cases e
  | n + 1, L, c, m, e, k, x, s, j, st, lb, hx, hb, tb, hj, ag, ev => by
    have ev' : b_X12_label_125 N (f_X12_label_125 N n) s j = some V := ev
    unfold b_X12_label_125 f_X12_label_168 at ev'
    obtain ⟨gl1, gl2⟩ := STK.gl L c m e k st hb
    have stop : ¬ S.o c.2.1 0 = 303 → f_X12_label_188 N s = some V → ∃ v : RS, f_X12_label_188 N v = some V ∧ E46 s v ∧ LBC S v (c :: L) (-3) ∧ (∀ i : Nat, (i : Int) < (b.i 43).toInt ∨ j.toInt < (i : Int) → v.a 46 i = s.a 46 i) := fun nl h => by
      refine ⟨s, h, E46.rf s, ?_, fun _ _ => rfl⟩
      exact LBC.mv (c :: L) (-3) (lb.no nl) (fun _ _ => rfl) (fun y hy q => (ag (ceG y) (by
        have y1 := gl2 y hy
        have y2 := nGo1 (v := S.o y.2.1 0) (Or.inl q)
        omega)).2)
    by_cases c0 : j < 0
    · rw [if_pos c0] at ev'
      have c0' := lt_int c0
      rw [z_t0] at c0'
      refine stop (fun q => ?_) ev'
      have := nGo1 (v := S.o c.2.1 0) (Or.inl q)
      omega
    rw [if_neg c0] at ev'
    obtain ⟨hib, ev'⟩ := hf_ite ev'
    have hjn : ((j.toNatClampNeg : Nat) : Int) = j.toInt := by
      show ((j.toInt.toNat : Nat) : Int) = j.toInt
      have := hib.1
      omega
    obtain ⟨jn, hjn'⟩ : ∃ jn : Nat, jn = j.toNatClampNeg := ⟨_, rfl⟩
    rw [← hjn'] at ev' hjn
    have agj := ag jn (by omega)
    by_cases d1 : s.a 44 jn = 2 ∧ s.a 46 jn = -2
    · rw [if_pos d1.1, if_pos d1.2] at ev'
      have isl : S.o c.2.1 0 = 303 := by
        by_cases q : S.o c.2.1 0 = 303
        · exact q
        · exact absurd ⟨agj.1.symm.trans d1.1, agj.2.symm.trans d1.2⟩ (LBC.stop2 L c m e k x st lb q hb tb jn (by omega))
      have n1 := nGo1 (v := S.o c.2.1 0) (Or.inl isl)
      have x3 := hx isl
      have ejc : jn = ceG c := by omega
      have jm : (j + (-1)).toInt = j.toInt - 1 := by
        have y1 := hib.1
        have y2 := hib.2
        have em : (-1 : Int32).toInt = -1 := by decide
        rw [toInt_add] <;> rw [em] <;> omega
      cases L with
      | nil => exact absurd (Or.inl isl) hb.1
      | cons c1 L =>
        obtain ⟨m', e', k', h1, h2, h3⟩ := st
        obtain ⟨l1, -⟩ := h2 c1 rfl
        have l4 := l1.2.2.1
        unfold LBC at lb
        rw [if_pos isl, x3, if_neg (by decide)] at lb
        obtain ⟨v, r1, r2, r3, r4⟩ := y_walk2 n L c1 m' e' k' (-2) (RS.setA s 46 jn (-3)) (j + (-1)) h3 lb.2 (fun _ => rfl) hb tb (by omega) (fun i hi => by
          have z := ag i (by omega)
          refine ⟨z.1, ?_⟩
          rw [setA_ne (by omega)]
          exact z.2) ev'
        refine ⟨v, r1, E46.tr (show E46 s (RS.setA s 46 jn (-3)) from ⟨rfl, rfl, rfl, fun q hq => setA_nk hq⟩) r2, ?_, fun i hi => ?_⟩
        · unfold LBC
          rw [if_pos isl, if_neg (show ¬ (-3 : Int) = -1 by decide)]
          refine ⟨Or.inr ?_, r3⟩
          rw [← ejc, r4 jn (Or.inr (by omega)), show (RS.setA s 46 jn (-3)).a 46 jn = -3 from setA_at]
          decide
        · rw [r4 i (by omega), setA_ne (by omega)]
    · have st2 : f_X12_label_188 N s = some V := by
        by_cases d2 : s.a 44 jn = 2
        · rw [if_pos d2, if_neg (fun z => d1 ⟨d2, z⟩)] at ev'
          exact ev'
        · rw [if_neg d2] at ev'
          exact ev'
      refine stop (fun q => d1 ?_) st2
      have n1 := nGo1 (v := S.o c.2.1 0) (Or.inl q)
      have ejc : jn = ceG c := by omega
      obtain ⟨m', e', k', h1, -, -⟩ := st
      have rf := (h1.2.2.1.2.2.2.1 q).2.2.2.1
      unfold LBC at lb
      rw [if_pos q, hx q] at lb
      have y : (s0.a 46 (ceG c)).toInt = -2 := lb.1.resolve_left (by decide)
      refine ⟨by rw [agj.1, ejc]; exact rf, ?_⟩
      rw [agj.2, ejc]
      exact Int32.toInt_inj.mp (by rw [y]; decide)
