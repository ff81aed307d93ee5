/-! the class's reading: a catch begins -/
theorem ck16 {t n : Int32} (ht : 0 ≤ t.toInt ∧ t.toInt ≤ 2000) (hn : 0 ≤ n.toInt ∧ n.toInt < 16) : (t * 16 + n) / 16 = t := by
  have e16 : (16 : Int32).toInt = 16 := by decide
  have m1 : (t * 16).toInt = t.toInt * 16 := by
    rw [Int32.toInt_mul, e16, Int.bmod_eq_of_le (by omega) (by omega)]
  have a1 : (t * 16 + n).toInt = t.toInt * 16 + n.toInt := by rw [toInt_add] <;> rw [m1] <;> omega
  refine Int32.toInt_inj.mp ?_
  rw [Int32.toInt_div, a1, e16, Int.tdiv_eq_ediv_of_nonneg (by omega), Int.bmod_eq_of_le (by omega) (by omega)]
  omega
/-- between a catch's words: the row stands as before, the cell is other -/
def GHC (H : HB) (x y : Int) (c : List Nat) (X : List (Nat × List Nat)) (P : List Nat) (lim : List Int) (σ : CS) (p e0 e : Int) (a m : Nat) (t : Int32) (s : CS) : Prop := GHS H x y c c c X P lim σ p e0 e (σ.o a) (σ.ol a) a m s ∧ (s.ol a = σ.ol a ∧ s.o a 0 = 215 ∧ s.o a 10 = t ∧ ∀ j : Nat, j = 2 ∨ j = 3 ∨ j = 9 ∨ j = 11 ∨ j = 13 → s.o a j = σ.o a j)
theorem GHC.cp {H : HB} {x y x' y' : Int} {c : List Nat} {X X' : List (Nat × List Nat)} {P P' : List Nat} {lim : List Int} {σ : CS} {p e0 e p' e0' e' : Int} {a m : Nat} {t : Int32} {s R : CS} (h : GHC H x y c X P lim σ p e0 e a m t s) (g : GHS H x' y' c c c X' P' lim σ p' e0' e' (σ.o a) (σ.ol a) a m R) (ho : R.o = s.o ∧ R.ol = s.ol) : GHC H x' y' c X' P' lim σ p' e0' e' a m t R := ⟨g, by rw [ho.1, ho.2]; exact h.2⟩
theorem q_ck47 {N : Nat} {H : HB} (hN : 1000 ≤ N) {x y : Int} {c : List Nat} {X : List (Nat × List Nat)} {P : List Nat} {lim : List Int} {σ : CS} {p e0 e : Int} {a m b : Nat} {t x2 x3 : Int32} (hx : x ≤ 4500) (hy : y ≤ 92) (hl : c.length ≤ 21) (hb : x2.toInt = (b : Int) ∧ (b, c) ∈ X ∧ b ≤ 2000) : ∀ (n : Nat) (s : CS) (x4 : Int32), 0 ≤ x4.toInt → x4.toInt ≤ 12 → 12 - x4.toInt < n → GHC H x y c X P lim σ p e0 e a m t s → (s.i 32 = 0 → s.i 43 = 5 ∧ 0 ≤ x3.toInt ∧ x3.toInt < 16) → ok (f_X7_caughtKind_47 N n s a x2 x3 x4) (fun R => GHC H (x - 50) y c X P lim σ (p + 1) e0 e a m t R.2)
  | 0, _, _, _, _, h, _, _ => by omega
  | n + 1, s, x4, z0, z9, hn, h, hk => by
    show ok (b_X7_caughtKind_47 N (f_X7_caughtKind_47 N n) s a x2 x3 x4) _
    unfold b_X7_caughtKind_47
    have e12 : (12 : Int32).toInt = 12 := by decide
    have e1 : (1 : Int32).toInt = 1 := by decide
    have okA := h.1.1.1.2.1 m a h.1.2.1.2 h.1.2.1.1
    refine ok_ite (fun c9 => ok_chk okA ?_) (fun c9 => ok_chk okA ?_)
    · have g1 := h.1.set 12 (s.o a 12 ||| ((1 : Int32) <<< (x3 &&& 31))) (by omega) (by decide)
      have ou := (OUV.rf s a).o 12 (s.o a 12 ||| ((1 : Int32) <<< (x3 &&& 31)))
      have Bo : ∀ j : Nat, j ≠ 12 → (CS.setO s a 12 (s.o a 12 ||| ((1 : Int32) <<< (x3 &&& 31)))).o a j = s.o a j := fun j hj => by
        rw [show (CS.setO s a 12 (s.o a 12 ||| ((1 : Int32) <<< (x3 &&& 31)))).o a = upd (s.o a) 12 (s.o a 12 ||| ((1 : Int32) <<< (x3 &&& 31))) from ou.2.2.1]
        exact if_neg hj
      have Bl : (CS.setO s a 12 (s.o a 12 ||| ((1 : Int32) <<< (x3 &&& 31)))).ol a = s.ol a := ou.2.2.2
      have Bi : (CS.setO s a 12 (s.o a 12 ||| ((1 : Int32) <<< (x3 &&& 31)))).i = s.i := ci_setO ..
      generalize CS.setO s a 12 (s.o a 12 ||| ((1 : Int32) <<< (x3 &&& 31))) = B at *
      refine ok_bind (q_add N B 56 _) (fun q hq => ?_)
      have g2 := g1.add (c1 := c) hq (by omega) (by omega) (fun _ => hl) (fun z DT KT qX => by
        have w := hk (by rw [← Bi]; exact z)
        have tt := TTc.x qX hb.1 hb.2.1
        have cc := ck16 (t := x2) (n := x3) ⟨tt.1, by omega⟩ w.2
        refine ⟨fun q => absurd q (by decide), fun q => absurd q (by decide), fun _ q => absurd q (by decide), fun _ q => absurd q (by decide), fun q => absurd q (by decide), fun q => absurd q (by decide), fun q => absurd q (by decide), fun _ => ⟨?_, rfl⟩, fun q => absurd q (by decide), fun q => absurd q (by decide), fun q => absurd q (by decide), fun q => absurd q (by decide), by decide⟩
        rw [cc]; exact tt)
      refine ok_bind (q_advC hN g2.1) (fun r hr => ok_some ?_)
      have mo := hr.mono g2.1.2.2.1
      have tk : q.2.i 32 = 0 → plI q.2 + 1 ≤ plI r.2 := fun z => (hr.tk1 g2.1.2.2.1 (by
        have z1 := hq.f32.1.symm.trans z
        rw [hq.f32.2.1, Bi, (hk (by rw [← Bi]; exact z1)).1]; decide)).1
      have g3 := g2.adv (x' := x - 50) (y' := y) (p' := 1) (e0' := 0) hr (fun z => by have := tk z; omega) (fun z => by have := tk z; omega)
      have ro : r.2.o = B.o ∧ r.2.ol = B.ol := ⟨hr.1.1.2.2.2.1.trans hq.1.2.2.2.1, hr.1.1.2.2.2.2.1.trans hq.1.2.2.2.2.1⟩
      refine ⟨g3.w (Int.le_refl _) (Int.le_refl _) (Int.le_refl _) (by omega), ?_⟩
      show r.2.ol a = σ.ol a ∧ r.2.o a 0 = 215 ∧ r.2.o a 10 = t ∧ ∀ j : Nat, j = 2 ∨ j = 3 ∨ j = 9 ∨ j = 11 ∨ j = 13 → r.2.o a j = σ.o a j
      rw [ro.1, ro.2]
      exact ⟨Bl.trans h.2.1, (Bo 0 (by decide)).trans h.2.2.1, (Bo 10 (by decide)).trans h.2.2.2.1, fun j hj => (Bo j (by omega)).trans (h.2.2.2.2 j hj)⟩
    · have l : x4.toInt < 12 := by
        have := lt_int (Int32.not_le.mp c9)
        rw [e12] at this; exact this
      have es : (x4 + 1).toInt = x4.toInt + 1 := by rw [toInt_add] <;> rw [e1] <;> omega
      have go : ∀ u : CS, GHC H x y c X P lim σ p e0 e a m t u → (u.i 32 = 0 → u.i 43 = 5 ∧ 0 ≤ x3.toInt ∧ x3.toInt < 16) → ok (f_X7_caughtKind_47 N n u a x2 x3 (x4 + 1)) (fun R => GHC H (x - 50) y c X P lim σ (p + 1) e0 e a m t R.2) := fun u hu hv => q_ck47 hN hx hy hl hb n u (x4 + 1) (by omega) (by omega) (by omega) hu hv
      refine ok_ite (fun _ => ?_) (fun _ => go s h hk)
      refine ok_bind (q_isUnder hN) (fun w hw => ?_)
      rw [hw.1]
      refine ok_ite (fun _ => go s h hk) (fun _ => ?_)
      refine ok_bind (q_failC h.1.1 6 _ (by decide)) (fun f hf => ?_)
      exact go f.2 (h.cp (GHS.flt h.1.1 h.1.2.2.1.1 h.1.2.1 hf) ⟨hf.1.2.2.2.1, hf.1.2.2.2.2.1⟩) (fun z => absurd z hf.2.2.2.1)
theorem q_caughtKind {N : Nat} {H : HB} (hN : 1000 ≤ N) {x y : Int} {c : List Nat} {X : List (Nat × List Nat)} {P : List Nat} {lim : List Int} {σ : CS} {p e0 e : Int} {a m b : Nat} {t x2 : Int32} {s : CS} (hx : x ≤ 4500) (hy : y ≤ 92) (hl : c.length ≤ 21) (hb : x2.toInt = (b : Int) ∧ (b, c) ∈ X ∧ b ≤ 2000) (h : GHC H x y c X P lim σ p e0 e a m t s) : ok (f_X7_caughtKind N s a x2) (fun R => GHC H (x - 50) y c X P lim σ (p + 1) e0 e a m t R.2) := by
  unfold f_X7_caughtKind f_X7_caughtKind_44
  refine ok_bind (q_found s 5) (fun q hq => ?_)
  obtain ⟨q1, q2⟩ := hq
  rw [q1]
  rcases q2 with ⟨q2, q3⟩ | ⟨q2, q3⟩
  · rw [if_pos q2]
    exact ok_bind (q_misp h.1.1) (fun f hf => ok_some (h.cp (GHS.flt h.1.1 h.1.2.2.1.1 h.1.2.1 hf) ⟨hf.1.2.2.2.1, hf.1.2.2.2.2.1⟩))
  · rw [q2, if_neg (by decide)]
    refine ok_bind (Q := fun w => w.2 = s ∧ (w.1 = 0 ∨ (0 ≤ (s.i 45).toInt ∧ (s.i 45).toInt < 16))) (by
      unfold f_X10_isKind f_X10_isKind_16
      refine ok_ite (fun _ => ok_some ⟨rfl, Or.inl rfl⟩) (fun c1 => ok_ite (fun _ => ok_some ⟨rfl, Or.inl rfl⟩) (fun c2 => ok_some ⟨rfl, Or.inr ?_⟩))
      have l1 := le_int (Int32.not_lt.mp c1)
      rw [z_t0] at l1
      have l2 := lt_int (Int32.not_le.mp c2)
      have b13 := h.1.1.2.2.2.2.2.2.2.2.2.1.2
      exact ⟨l1, by omega⟩) (fun w hw => ?_)
    rw [hw.1]
    refine ok_ite (fun c0 => ?_) (fun c0 => q_ck47 hN hx hy hl hb N s 0 (by decide) (by decide) (by rw [z_t0]; omega) h (fun _ => ⟨q3, ?_⟩))
    · refine ok_bind (q_failC h.1.1 3 _ (by decide)) (fun f hf => ?_)
      exact q_ck47 hN hx hy hl hb N f.2 0 (by decide) (by decide) (by rw [z_t0]; omega) (h.cp (GHS.flt h.1.1 h.1.2.2.1.1 h.1.2.1 hf) ⟨hf.1.2.2.2.1, hf.1.2.2.2.2.1⟩) (fun z => absurd z hf.2.2.2.1)
    · rcases hw.2 with e | e
      · exact absurd e c0
      · exact e
