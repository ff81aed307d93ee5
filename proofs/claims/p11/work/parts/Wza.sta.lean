/-! both readers: a statement begins -/
theorem ENV.late {d : Int32} {S : CS} {s : RS} {v w : Int32} (h : ENV d S s) (hv : 0 ≤ v.toInt) (hw : 0 ≤ w.toInt) : ENV d (CS.setI S 37 v) (RS.setI s 18 w) := by
  obtain ⟨⟨h1, h2, h3, h4, h5, h6, h7, h8⟩, n, o, c, l, k, ⟨r1, r2, r3, r4, r5, r6, r7, r8, r9, r10, r11⟩⟩ := h
  exact ⟨⟨h1, h2, h3, h4, h5, h6, h7, h8⟩, n, o, c, ⟨fun _ => hw, fun _ => hv⟩, k, ⟨r1, r2, r3, r4, r5, r6, r7, r8.mv rfl rfl rfl rfl ⟨rfl, rfl, rfl⟩ r8.2.2.2.2.2.2 (Int.le_refl _), r9, r10, r11⟩⟩
/-- what cannot be reached is noted in both -/
theorem y_note {N : Nat} {d : Int32} {S : CS} {s V : RS} {R : Unit × CS} (h : ENV d S s) (e : f_X7_notReached N S (S.i 44) = some R) (g : f_X12_note N s (s.i 11) = some V) : ENV d R.2 V ∧ (R.2 = S ∨ R.2 = CS.setI S 37 (S.i 44)) ∧ (V = s ∨ V = RS.setI s 18 (s.i 11)) := by
  have hi := i11_hi h
  have h15 := h.1.2.1
  have k11 := h.1.2.2.2.1.1
  have lt := h.2.2.2.2.1
  unfold f_X7_notReached at e
  unfold f_X12_note at g
  rw [if_pos h15] at g
  by_cases c : 0 ≤ S.i 37
  · rw [if_pos c] at e
    cases e
    have c' : 0 ≤ (S.i 37).toInt := by
      have := le_int c
      rw [z_t0] at this
      exact this
    rw [if_pos (show 0 ≤ s.i 18 by rw [Int32.le_iff_toInt_le, z_t0]; exact lt.mp c')] at g
    cases g
    exact ⟨h, Or.inl rfl, Or.inl rfl⟩
  · rw [if_neg c] at e
    cases e
    have c' : ¬ 0 ≤ (S.i 37).toInt := fun z => c (by rw [Int32.le_iff_toInt_le, z_t0]; exact z)
    rw [if_neg (show ¬ 0 ≤ s.i 18 from fun z => c' (lt.mpr (by have := le_int z; rw [z_t0] at this; exact this)))] at g
    cases g
    exact ⟨h.late (by rw [k11]; exact hi.1) hi.1, Or.inr rfl, Or.inr rfl⟩
/-- only frames are other -/
def QLS (s V : RS) : Prop := (∀ k : Nat, k ≠ 18 → k ≠ 63 → V.i k = s.i k) ∧ ∀ k : Nat, k < 64 → V.a k = s.a k
/-- a list goes on: the statement's frame stands above it -/
theorem y_list {N : Nat} (hN : 1000 ≤ N) {E1 : CS → Option (Unit × CS)} {E2 : CS → Option (Int32 × CS)} {d : Int32} {S : CS} {s U : RS} {n t : Nat} {R : Unit × CS} (hv : ENV d S s) (ht : tpI s = t) (hk : s.a 64 t = 1) (hm : (s.a 65 t = 0 ∧ S.i 36 = 1) ∨ (s.a 65 t = 1 ∧ s.i 75 = S.i 36)) (hb : S.i 36 = 0 ∨ S.i 36 = 1) (n125 : ¬ s.i 10 = 125) (n429 : ¬ s.i 10 = 429) (n430 : ¬ s.i 10 = 430) (n0 : ¬ s.i 10 = 0) (e : f_X7_statement N E1 E2 S 0 = some R) (g : f_X12_parse_10 N n s = some U) : ∃ (S' : CS) (m : Nat) (V : RS), (S' = S ∨ S' = CS.setI S 37 (S.i 44)) ∧ f_X7_statement_18 N E1 E2 S' 0 = some R ∧ f_X12_parse_10 N m V = some U ∧ ENV d S' V ∧ tpI V = ((t + 1 : Nat) : Int) ∧ V.a 64 t = 1 ∧ V.a 65 t = 1 ∧ V.a 64 (t + 1) = 2 ∧ V.a 65 (t + 1) = 0 ∧ FRB t s V ∧ TBK s V ∧ phI V = phI s ∧ V.i 11 = s.i 11 ∧ V.i 17 = s.i 17 ∧ V.i 19 = s.i 19 ∧ QLS s V := by
  obtain ⟨m, V, hV, g2⟩ := rl_1 g ht hv.1.2.1 hk
  unfold f_X12_list at hV
  obtain ⟨hib, hV⟩ := hf_ite hV
  rw [tp_nat ht] at hV
  have core : ∀ (v : Int32) (S' : CS) (y : RS), ENV d S' y → (y = RS.setA s 66 t v ∨ y = RS.setI (RS.setA s 66 t v) 18 (s.i 11)) → f_X12_list_110 N y = some V → ENV d S' V ∧ tpI V = ((t + 1 : Nat) : Int) ∧ V.a 64 t = 1 ∧ V.a 65 t = 1 ∧ V.a 64 (t + 1) = 2 ∧ V.a 65 (t + 1) = 0 ∧ FRB t s V ∧ TBK s V ∧ phI V = phI s ∧ V.i 11 = s.i 11 ∧ V.i 17 = s.i 17 ∧ V.i 19 = s.i 19 ∧ QLS s V := fun v S' y ey hy h => by
    unfold f_X12_list_110 at h
    rw [ob_id] at h
    have yi : ∀ k : Nat, k ≠ 18 → y.i k = s.i k := by
      rcases hy with q | q <;> rw [q]
      · exact fun _ _ => rfl
      · exact fun k h => if_neg h
    have ya : ∀ k : Nat, k ≠ 66 → y.a k = s.a k := by
      rcases hy with q | q <;> rw [q]
      · exact fun k h => if_neg h
      · exact fun k h => if_neg h
    have yb : y.b = s.b := by
      rcases hy with q | q <;> rw [q] <;> rfl
    have yj : ∀ j : Nat, ¬ j = t → y.a 66 j = s.a 66 j := by
      rcases hy with q | q <;> rw [q]
      · exact fun j h => setA_ne h
      · exact fun j h => setA_ne h
    have ty : tpI y = t := by
      show (y.i 63).toInt = (t : Int)
      rw [yi 63 (by decide)]
      exact ht
    obtain ⟨hV', t9⟩ := r_then ty h
    rw [hV']
    have fy : FRB t s y := fun j hj => ⟨by rw [ya 64 (by decide)], by rw [ya 65 (by decide)], yj j (by omega), by rw [ya 67 (by decide)], by rw [ya 68 (by decide)], by rw [ya 69 (by decide)], by rw [ya 70 (by decide)], by rw [ya 71 (by decide)], by rw [ya 72 (by decide)], by rw [ya 73 (by decide)], by rw [yb]⟩
    have ky : TBK s y := ⟨⟨⟨yi 2 (by decide), yi 3 (by decide), yi 8 (by decide), yi 38 (by decide), yi 43 (by decide), yi 2 (by decide), yi 56 (by decide), ya 1 (by decide), ya 4 (by decide), by rw [yb]⟩, fun j _ => ⟨by rw [yb], by rw [ya 40 (by decide)], by rw [ya 41 (by decide)]⟩, fun j _ => ⟨by rw [ya 44 (by decide)], by rw [yb], by rw [ya 46 (by decide)], by rw [ya 47 (by decide)], by rw [ya 50 (by decide)], by rw [ya 51 (by decide)], by rw [ya 48 (by decide)], by rw [ya 49 (by decide)]⟩, fun j _ => ⟨by rw [ya 57 (by decide)], by rw [ya 58 (by decide)]⟩, ⟨by rw [yi 59 (by decide)]; exact Int.le_refl _, fun j k1 k2 => by rw [yi 59 (by decide)] at k2; omega⟩, fun j _ => ⟨by rw [ya 60 (by decide)], by rw [ya 61 (by decide)], by rw [ya 62 (by decide)]⟩, by rw [yi 29 (by decide)]; exact Int.le_refl _, fun j _ => by rw [ya 30 (by decide)], by rw [yi 33 (by decide)]; exact Int.le_refl _, fun j _ => ⟨by rw [ya 34 (by decide)], by rw [ya 37 (by decide)]⟩, by rw [yi 24 (by decide)]; exact Int.le_refl _, fun j _ => ⟨by rw [ya 25 (by decide)], by rw [ya 27 (by decide)], by rw [ya 28 (by decide)]⟩⟩, by rw [yi 20 (by decide)]; exact Int.le_refl _, fun j _ => by rw [ya 22 (by decide)]⟩
    have py : phI y = phI s := by
      unfold phI
      rw [yi 17 (by decide), yi 20 (by decide)]
    exact ⟨ey.th, TH.tp ty (by omega), (TH.fk0 (Nat.le_refl t)).trans (by rw [ya 64 (by decide)]; exact hk), TH.st, TH.fk, TH.fs, fy.tr TH.frb, ky.tr TH.tbk, py, yi 11 (by decide), yi 17 (by decide), yi 19 (by decide), fun k k1 k2 => by rw [← yi k k1]; exact if_neg k2, fun k hk => (TH.loc (by omega) (by omega)).trans (ya k (by omega))⟩
  have go : ∀ v : Int32, f_X12_list_37 N (RS.setA s 66 t v) (s.i 63) = some V → (v = 0 ∧ S.i 36 = 0) ∨ (v = 1 ∧ S.i 36 = 1) → ∃ (S' : CS) (m : Nat) (V : RS), (S' = S ∨ S' = CS.setI S 37 (S.i 44)) ∧ f_X7_statement_18 N E1 E2 S' 0 = some R ∧ f_X12_parse_10 N m V = some U ∧ ENV d S' V ∧ tpI V = ((t + 1 : Nat) : Int) ∧ V.a 64 t = 1 ∧ V.a 65 t = 1 ∧ V.a 64 (t + 1) = 2 ∧ V.a 65 (t + 1) = 0 ∧ FRB t s V ∧ TBK s V ∧ phI V = phI s ∧ V.i 11 = s.i 11 ∧ V.i 17 = s.i 17 ∧ V.i 19 = s.i 19 ∧ QLS s V := fun v h hv2 => by
    unfold f_X12_list_37 at h
    have ev : ENV d S (RS.setA s 66 t v) := setA_env (Or.inr (by omega)) hv
    rw [if_neg (show ¬ (RS.setA s 66 t v).i 10 = 125 from n125), if_neg (show ¬ (RS.setA s 66 t v).i 10 = 429 from n429), if_neg (show ¬ (RS.setA s 66 t v).i 10 = 430 from n430), if_neg (show ¬ (RS.setA s 66 t v).i 10 = 0 from n0)] at h
    obtain ⟨-, h⟩ := hf_ite h
    rw [tp_nat ht, show (RS.setA s 66 t v).a 66 t = v from setA_at] at h
    unfold f_X7_statement at e
    rcases hv2 with ⟨y1, y2⟩ | ⟨y1, y2⟩
    · rw [if_pos y1] at h
      rw [if_pos y2] at e
      obtain ⟨p, ep, e⟩ := hf_bind e
      obtain ⟨y, hy, h⟩ := hf_bind h
      obtain ⟨z1, z2, z3⟩ := y_note ev ep hy
      exact ⟨p.2, m, V, z2, e, g2, core v p.2 y z1 z3 h⟩
    · rw [if_neg (show ¬ v = 0 by rw [y1]; decide)] at h
      rw [if_neg (show ¬ S.i 36 = 0 by rw [y2]; decide)] at e
      exact ⟨S, m, V, Or.inl rfl, e, g2, core v S _ ev (Or.inl rfl) h⟩
  rcases hm with ⟨m1, m2⟩ | ⟨m1, m2⟩
  · rw [if_pos m1] at hV
    exact go 1 hV (Or.inr ⟨rfl, m2⟩)
  · rw [if_neg (show ¬ s.a 65 t = 0 by rw [m1]; decide)] at hV
    by_cases c : s.i 75 = 0
    · rw [if_pos c] at hV
      exact go 0 hV (Or.inl ⟨rfl, m2.symm.trans c⟩)
    · rw [if_neg c] at hV
      refine go 1 hV (Or.inr ⟨rfl, ?_⟩)
      rw [m2] at c
      exact hb.resolve_left c
/-- the statement's frame gets its sort, the statement is counted -/
theorem ENV.stm {d : Int32} {S : CS} {s : RS} {t : Nat} {K : Int32} (h : ENV d S s) : ENV d (CS.setI (CS.setI S 36 1) 24 ((S.i 24) + 1)) (RS.setA (RS.setI s 53 ((s.i 53) + 1)) 64 t K) := by
  obtain ⟨⟨h1, h2, h3, h4, h5, h6, h7, h8⟩, n, o, ⟨c1, c2, c3⟩, l, k, ⟨r1, r2, r3, r4, r5, r6, r7, r8, r9, r10, r11⟩⟩ := h
  refine ⟨⟨h1, h2, h3, h4, h5, h6, h7, h8⟩, n, o, ⟨?_, c2, c3⟩, l, k, ⟨r1, r2, r3, r4, r5, r6, r7, r8.mv rfl rfl rfl rfl ⟨rfl, rfl, rfl⟩ r8.2.2.2.2.2.2 (Int.le_refl _), r9, r10, r11⟩⟩
  show S.i 24 + 1 = s.i 53 + 1
  rw [c1]
