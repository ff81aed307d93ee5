section
/-! the class's reading: a catch begins -/
theorem ck16 {t n : Int32} (ht : 0 ≤ t.toInt ∧ t.toInt ≤ 2000) (hn : 0 ≤ n.toInt ∧ n.toInt < 16) : (t * 16 + n) / 16 = t := by
  have e16 : (16 : Int32).toInt = 16 := by decide
  have m1 : (t * 16).toInt = t.toInt * 16 := by
    rw [Int32.toInt_mul, e16, Int.bmod_eq_of_le (by omega) (by omega)]
  have a1 : (t * 16 + n).toInt = t.toInt * 16 + n.toInt := by rw [toInt_add] <;> rw [m1] <;> omega
  refine Int32.toInt_inj.mp ?_
  rw [Int32.toInt_div, a1, e16, Int.tdiv_eq_ediv_of_nonneg (by omega), Int.bmod_eq_of_le (by omega) (by omega)]
  omega
/-- between a catch's words: the row stands as before, the cell is other -/
def GHC (H : HB) (x y : Int) (c : List Nat) (X : List (Nat × List Nat)) (P : List Nat) (lim : List Int) (σ : CS) (p e0 e : Int) (a m : Nat) (t : Int32) (s : CS) : Prop := GHS H x y c c c X P lim σ p e0 e (σ.o a) (σ.ol a) a m s ∧ (s.ol a = σ.ol a ∧ s.o a 0 = 215 ∧ s.o a 10 = t ∧ ∀ j : Nat, j = 2 ∨ j = 3 ∨ j = 9 ∨ j = 11 ∨ j = 13 → s.o a j = σ.o a j)
theorem GHC.cp {H : HB} {x y x' y' : Int} {c : List Nat} {X X' : List (Nat × List Nat)} {P P' : List Nat} {lim : List Int} {σ : CS} {p e0 e p' e0' e' : Int} {a m : Nat} {t : Int32} {s R : CS} (h : GHC H x y c X P lim σ p e0 e a m t s) (g : GHS H x' y' c c c X' P' lim σ p' e0' e' (σ.o a) (σ.ol a) a m R) (ho : R.o = s.o ∧ R.ol = s.ol) : GHC H x' y' c X' P' lim σ p' e0' e' a m t R := ⟨g, by rw [ho.1, ho.2]; exact h.2⟩
theorem q_ck47 {N : Nat} {H : HB} (hN : 1000 ≤ N) {x y : Int} {c : List Nat} {X : List (Nat × List Nat)} {P : List Nat} {lim : List Int} {σ : CS} {p e0 e : Int} {a m b : Nat} {t x2 x3 : Int32} (hx : x ≤ 4500) (hy : y ≤ 92) (hl : c.length ≤ 21) (hb : x2.toInt = (b : Int) ∧ (b, c) ∈ X ∧ b ≤ 2000) : ∀ (n : Nat) (s : CS) (x4 : Int32), 0 ≤ x4.toInt → x4.toInt ≤ 12 → 12 - x4.toInt < n → GHC H x y c X P lim σ p e0 e a m t s → (s.i 32 = 0 → s.i 43 = 5 ∧ 0 ≤ x3.toInt ∧ x3.toInt < 16) → ok (f_X7_caughtKind_47 N n s a x2 x3 x4) (fun R => GHC H (x - 50) y c X P lim σ (p + 1) e0 e a m t R.2)
  | 0, _, _, _, _, h, _, _ => by omega
  | n + 1, s, x4, z0, z9, hn, h, hk => by
    show ok (b_X7_caughtKind_47 N (f_X7_caughtKind_47 N n) s a x2 x3 x4) _
    unfold b_X7_caughtKind_47
    have e12 : (12 : Int32).toInt = 12 := by decide
    have e1 : (1 : Int32).toInt = 1 := by decide
    have okA := h.1.1.1.2.1 m a h.1.2.1.2 h.1.2.1.1
    refine ok_ite (fun c9 => ok_chk okA ?_) (fun c9 => ok_chk okA ?_)
    · have g1 := h.1.set 12 (s.o a 12 ||| ((1 : Int32) <<< (x3 &&& 31))) (by omega) (by decide)
      have ou := (OUV.rf s a).o 12 (s.o a 12 ||| ((1 : Int32) <<< (x3 &&& 31)))
      have Bo : ∀ j : Nat, j ≠ 12 → (CS.setO s a 12 (s.o a 12 ||| ((1 : Int32) <<< (x3 &&& 31)))).o a j = s.o a j := fun j hj => by
        rw [show (CS.setO s a 12 (s.o a 12 ||| ((1 : Int32) <<< (x3 &&& 31)))).o a = upd (s.o a) 12 (s.o a 12 ||| ((1 : Int32) <<< (x3 &&& 31))) from ou.2.2.1]
        exact if_neg hj
      have Bl : (CS.setO s a 12 (s.o a 12 ||| ((1 : Int32) <<< (x3 &&& 31)))).ol a = s.ol a := ou.2.2.2
      have Bi : (CS.setO s a 12 (s.o a 12 ||| ((1 : Int32) <<< (x3 &&& 31)))).i = s.i := ci_setO ..
      generalize CS.setO s a 12 (s.o a 12 ||| ((1 : Int32) <<< (x3 &&& 31))) = B at *
      refine ok_bind (q_add N B 56 _) (fun q hq => ?_)
      have g2 := g1.add (c1 := c) hq (by omega) (by omega) (fun _ => hl) (fun z DT KT qX => by
        have w := hk (by rw [← Bi]; exact z)
        have tt := TTc.x qX hb.1 hb.2.1
        have cc := ck16 (t := x2) (n := x3) ⟨tt.1, by omega⟩ w.2
        refine ⟨fun q => absurd q (by decide), fun q => absurd q (by decide), fun _ q => absurd q (by decide), fun _ q => absurd q (by decide), fun q => absurd q (by decide), fun q => absurd q (by decide), fun q => absurd q (by decide), fun _ => ⟨?_, rfl⟩, fun q => absurd q (by decide), fun q => absurd q (by decide), fun q => absurd q (by decide), fun q => absurd q (by decide), by decide⟩
        rw [cc]; exact tt)
      refine ok_bind (q_advC hN g2.1) (fun r hr => ok_some ?_)
      have mo := hr.mono g2.1.2.2.1
      have tk : q.2.i 32 = 0 → plI q.2 + 1 ≤ plI r.2 := fun z => (hr.tk1 g2.1.2.2.1 (by
        have z1 := hq.f32.1.symm.trans z
        rw [hq.f32.2.1, Bi, (hk (by rw [← Bi]; exact z1)).1]; decide)).1
      have g3 := g2.adv (x' := x - 50) (y' := y) (p' := 1) (e0' := 0) hr (fun z => by have := tk z; omega) (fun z => by have := tk z; omega)
      have ro : r.2.o = B.o ∧ r.2.ol = B.ol := ⟨hr.1.1.2.2.2.1.trans hq.1.2.2.2.1, hr.1.1.2.2.2.2.1.trans hq.1.2.2.2.2.1⟩
      refine ⟨g3.w (Int.le_refl _) (Int.le_refl _) (Int.le_refl _) (by omega), ?_⟩
      show r.2.ol a = σ.ol a ∧ r.2.o a 0 = 215 ∧ r.2.o a 10 = t ∧ ∀ j : Nat, j = 2 ∨ j = 3 ∨ j = 9 ∨ j = 11 ∨ j = 13 → r.2.o a j = σ.o a j
      rw [ro.1, ro.2]
      exact ⟨Bl.trans h.2.1, (Bo 0 (by decide)).trans h.2.2.1, (Bo 10 (by decide)).trans h.2.2.2.1, fun j hj => (Bo j (by omega)).trans (h.2.2.2.2 j hj)⟩
    · have l : x4.toInt < 12 := by
        have := lt_int (Int32.not_le.mp c9)
        rw [e12] at this; exact this
      have es : (x4 + 1).toInt = x4.toInt + 1 := by rw [toInt_add] <;> rw [e1] <;> omega
      have go : ∀ u : CS, GHC H x y c X P lim σ p e0 e a m t u → (u.i 32 = 0 → u.i 43 = 5 ∧ 0 ≤ x3.toInt ∧ x3.toInt < 16) → ok (f_X7_caughtKind_47 N n u a x2 x3 (x4 + 1)) (fun R => GHC H (x - 50) y c X P lim σ (p + 1) e0 e a m t R.2) := fun u hu hv => q_ck47 hN hx hy hl hb n u (x4 + 1) (by omega) (by omega) (by omega) hu hv
      refine ok_ite (fun _ => ?_) (fun _ => go s h hk)
      refine ok_bind (q_isUnder hN) (fun w hw => ?_)
      rw [hw.1]
      refine ok_ite (fun _ => go s h hk) (fun _ => ?_)
      refine ok_bind (q_failC h.1.1 6 _ (by decide)) (fun f hf => ?_)
      exact go f.2 (h.cp (GHS.flt h.1.1 h.1.2.2.1.1 h.1.2.1 hf) ⟨hf.1.2.2.2.1, hf.1.2.2.2.2.1⟩) (fun z => absurd z hf.2.2.2.1)
theorem q_caughtKind {N : Nat} {H : HB} (hN : 1000 ≤ N) {x y : Int} {c : List Nat} {X : List (Nat × List Nat)} {P : List Nat} {lim : List Int} {σ : CS} {p e0 e : Int} {a m b : Nat} {t x2 : Int32} {s : CS} (hx : x ≤ 4500) (hy : y ≤ 92) (hl : c.length ≤ 21) (hb : x2.toInt = (b : Int) ∧ (b, c) ∈ X ∧ b ≤ 2000) (h : GHC H x y c X P lim σ p e0 e a m t s) : ok (f_X7_caughtKind N s a x2) (fun R => GHC H (x - 50) y c X P lim σ (p + 1) e0 e a m t R.2) := by
  unfold f_X7_caughtKind f_X7_caughtKind_44
  refine ok_bind (q_found s 5) (fun q hq => ?_)
  obtain ⟨q1, q2⟩ := hq
  rw [q1]
  rcases q2 with ⟨q2, q3⟩ | ⟨q2, q3⟩
  · rw [if_pos q2]
    exact ok_bind (q_misp h.1.1) (fun f hf => ok_some (h.cp (GHS.flt h.1.1 h.1.2.2.1.1 h.1.2.1 hf) ⟨hf.1.2.2.2.1, hf.1.2.2.2.2.1⟩))
  · rw [q2, if_neg (by decide)]
    refine ok_bind (Q := fun w => w.2 = s ∧ (w.1 = 0 ∨ (0 ≤ (s.i 45).toInt ∧ (s.i 45).toInt < 16))) (by
      unfold f_X10_isKind f_X10_isKind_16
      refine ok_ite (fun _ => ok_some ⟨rfl, Or.inl rfl⟩) (fun c1 => ok_ite (fun _ => ok_some ⟨rfl, Or.inl rfl⟩) (fun c2 => ok_some ⟨rfl, Or.inr ?_⟩))
      have l1 := le_int (Int32.not_lt.mp c1)
      rw [z_t0] at l1
      have l2 := lt_int (Int32.not_le.mp c2)
      have b13 := h.1.1.2.2.2.2.2.2.2.2.2.1.2
      exact ⟨l1, by omega⟩) (fun w hw => ?_)
    rw [hw.1]
    refine ok_ite (fun c0 => ?_) (fun c0 => q_ck47 hN hx hy hl hb N s 0 (by decide) (by decide) (by rw [z_t0]; omega) h (fun _ => ⟨q3, ?_⟩))
    · refine ok_bind (q_failC h.1.1 3 _ (by decide)) (fun f hf => ?_)
      exact q_ck47 hN hx hy hl hb N f.2 0 (by decide) (by decide) (by rw [z_t0]; omega) (h.cp (GHS.flt h.1.1 h.1.2.2.1.1 h.1.2.1 hf) ⟨hf.1.2.2.2.1, hf.1.2.2.2.2.1⟩) (fun z => absurd z hf.2.2.2.1)
    · rcases hw.2 with e | e
      · exact absurd e c0
      · exact e
end
section
/-! the class's reading: a catch begins, whole -/
theorem q_newNameG {N : Nat} {H : HB} (hN : 1000 ≤ N) {x y : Int} {c : List Nat} {X : List (Nat × List Nat)} {P : List Nat} {lim : List Int} {σ : CS} {p e0 e : Int} {a m : Nat} {t : Int32} {s : CS} (h : GHC H x y c X P lim σ p e0 e a m t s) : ok (f_X7_newName N s) (fun R => GHC H (x - 100) y c X P lim σ p e0 e a m t R.2) := by
  unfold f_X7_newName f_X7_newName_56
  refine ok_bind (q_found s 2) (fun q hq => ?_)
  obtain ⟨p1, p2⟩ := hq
  rw [p1]
  rcases p2 with ⟨p2, p3⟩ | ⟨p2, p3⟩
  · rw [if_pos p2]
    exact ok_bind (q_misp h.1.1) (fun f hf => ok_some (h.cp (GHS.flt h.1.1 h.1.2.2.1.1 h.1.2.1 hf) ⟨hf.1.2.2.2.1, hf.1.2.2.2.2.1⟩))
  · rw [p2, if_neg (by decide)]
    refine ok_bind (q_find hN h.1.1.2.2.2.2.2.1 s.l) (fun f hf => ?_)
    rw [hf.1]
    refine ok_ite (fun _ => ok_bind (q_advC hN h.1.1) (fun r hr => ok_some ?_)) (fun _ => ok_bind (q_failC h.1.1 4 _ (by decide)) (fun r hr => ok_some (h.cp (GHS.flt h.1.1 h.1.2.2.1.1 h.1.2.1 hr) ⟨hr.1.2.2.2.1, hr.1.2.2.2.2.1⟩)))
    have tk := hr.tk1 h.1.1.2.2.1 (by rw [p3]; decide)
    exact h.cp ((h.1.adv (x' := x - 100) (y' := y) (p' := 0) (e0' := 0) hr (fun _ => by omega) (fun _ => by omega)).w (Int.le_refl _) (Int.le_refl _) (by omega) (by omega)) ⟨hr.1.1.2.2.2.1, hr.1.1.2.2.2.2.1⟩
theorem q_bc80 {N : Nat} {H : HB} (hN : 1000 ≤ N) {x y : Int} {c c0 : List Nat} {X X0 : List (Nat × List Nat)} {P : List Nat} {T : List Int} {σ : CS} {p : Int} {a m b k : Nat} {t x2 : Int32} {s : CS} (hx : x ≤ 4500) (hy : y ≤ 92) (ht : TUR σ a m) (hs : σ.o a 0 = 305) (hσ : SGS σ (m + 1) ≤ sgI σ ∧ 0 ≤ sgI σ) (ec : c = 2 :: c0) (hcl : ∀ (s : CS) (DT : Nat → List Nat) (KT : Nat → Prop) (c0' : List Nat) (lim lim0 : List Int), s.o a 0 = 305 → ROW1 s DT KT a c0' c lim lim0 → c0' = c0 ∧ lim0 = lim) (hd : (σ.i 38).toInt = (c.length : Int) ∧ c.length ≤ 21) (hp : 1 ≤ p) (hb : x2.toInt = (b : Int) ∧ (b, c) ∈ X) (hk : t.toInt = (k : Int) ∧ (k, c) ∈ X) (hX : ∀ q ∈ X0, q ∈ X) (h : GHC H x y c X (k :: b :: P) (ccI σ :: T) σ p 0 1 a m t s) : ok (f_X7_beginCatch_80 N s a x2) (fun R => TNQ H (x - 200) y X0 P T σ R.2 ∧ (R.2.i 32 = 0 → R.2.o a 0 = 215)) := by
  obtain ⟨nf, hm, ea, nr, m4⟩ := (show TUR σ a m from ht)
  have emσ : (cnI σ).toNat = m + 1 := by omega
  unfold f_X7_beginCatch_80 f_X0_newCells
  refine ok_bind (Q := fun w => w.2 = CS.setI s 23 (s.i 23 + 1)) (ok_some rfl) (fun w hw => ?_)
  rw [hw]
  have ir := (IRR.rf h.1.1).i 23 (s.i 23 + 1) (by unfold IRJ; omega) (by omega)
  have h1 := h.cp (h.1.irr ir) ⟨ir.1.2.2.2.1, ir.1.2.2.2.2.1⟩
  generalize CS.setI s 23 (s.i 23 + 1) = s1 at *
  refine ok_bind (q_newNameG hN h1) (fun q h2 => ?_)
  refine ok_bind (q_nad h2.1.1.2.2.2.2.2.1 q.1 w.1 (q.2.i 38 - 1)) (fun r hr => ?_)
  have e1 : (1 : Int32).toInt = 1 := by decide
  have h3 := h2.cp (h2.1.nad hr (fun z => by
    have i38 : q.2.i 38 = σ.i 38 := (h2.1.2.2.2 z).2.2.2.1.1
    right
    have lc : c.length = c0.length + 1 := by rw [ec]; rfl
    refine ⟨c0.length, ?_, by rw [lc]; omega, [], c0, ec, rfl⟩
    rw [i38, toInt_sub] <;> rw [e1] <;> omega)) ⟨hr.1.2.2.2.1, hr.1.2.2.2.2.1⟩
  refine ok_bind (h3.1.cl hN 41 (by decide) ⟨by rw [emσ]; exact hσ.1, hσ.2, by rw [emσ]; exact nr⟩ (by omega)) (fun u hu => ?_)
  have h4 := h3.cp hu.1 hu.2
  refine ok_bind (q_open hN h4.1.1 123) (fun v hv => ?_)
  have vo : v.2.o = u.2.o ∧ v.2.ol = u.2.ol := by
    rcases hv with hf | ⟨-, -, ha⟩
    · exact ⟨hf.1.2.2.2.1, hf.1.2.2.2.2.1⟩
    · exact ⟨ha.1.1.2.2.2.1, ha.1.1.2.2.2.2.1⟩
  have h5 := h4.cp (h4.1.op (by decide) hv) vo
  refine ok_chk (h5.1.1.1.2.1 m a m4 h5.1.2.1.1) ?_
  rw [h5.2.2.2.1]
  refine ok_bind (q_add N v.2 30 t) (fun d hd' => ?_)
  have h6 := h5.cp (h5.1.add (c1 := c) hd' (by omega) (by omega) (fun _ => hd.2) (fun _ DT KT qX => IOK.jmp (by decide) hk.1 hk.2 qX)) ⟨hd'.1.2.2.2.1, hd'.1.2.2.2.2.1⟩
  refine ok_bind (q_aim N d.2 x2) (fun f hf => ?_)
  have h7 := h6.cp (h6.1.aim (P' := k :: P) hf (by omega) (by omega) (fun _ DT KT qX _ => by
    have w := TTc.x qX hb.1 hb.2
    exact ⟨w.1, w.2.1, w.2.2.1⟩) (fun _ j hj => by
    rcases List.mem_cons.mp hj with e | e
    · left; rw [e]; exact List.mem_cons_self ..
    · rcases List.mem_cons.mp e with e | e
      · right; rw [e]; exact hb.1.symm
      · left; exact List.mem_cons_of_mem _ e)) ⟨hf.1.2.2.2.1, hf.1.2.2.2.2.1⟩
  refine ok_bind (q_add N f.2 57 w.1) (fun g hg => ok_some ?_)
  have h8 := h7.cp (h7.1.add (c1 := c) hg (by omega) (by omega) (fun _ => hd.2) (fun _ _ _ _ => IOK.fall (by decide))) ⟨hg.1.2.2.2.1, hg.1.2.2.2.2.1⟩
  have ir2 := (IRR.rf h8.1.1).i 36 1 (by unfold IRJ; omega) (fun _ => Or.inr rfl)
  have h9 := h8.cp (h8.1.irr ir2) ⟨ir2.1.2.2.2.1, ir2.1.2.2.2.2.1⟩
  show TNQ H (x - 200) y X0 P T σ (CS.setI g.2 36 1) ∧ ((CS.setI g.2 36 1).i 32 = 0 → (CS.setI g.2 36 1).o a 0 = 215)
  generalize CS.setI g.2 36 1 = F at *
  obtain ⟨gF, fl, F0, F10, Fj⟩ := h9
  refine ⟨?_, fun _ => F0⟩
  have g6 := gF.w (x' := x - 200) (y' := y) (p' := 1) (e0' := 0) (by omega) (by omega) (by omega) (by omega)
  refine GHS.end g6 ht hσ.1 (by omega) (by omega) hX (fun z => ⟨fl, Fj 3 (by omega), by rw [F0]; decide, by rw [hs]; decide, by unfold sgn; rw [F0, hs]; rfl⟩) (fun z => ?_) (fun z DT KT c0' lim0 qX w => ?_) (fun _ j hj => ?_) (fun _ j w => Or.inr ?_) (fun _ _ _ w => w)
  · have : F.i 38 = σ.i 38 := (gF.2.2.2 z).2.2.2.1.1
    rw [this]
    exact ⟨hd.1.symm, hd.2⟩
  · have woa : (wO F a (σ.o a) (σ.ol a)).o a = σ.o a := by rw [wO.o]; exact if_pos rfl
    have so : (wO F a (σ.o a) (σ.ol a)).o a 0 = 305 := by rw [woa]; exact hs
    have e := hcl _ DT KT c0' _ lim0 so w
    have t9 := w.cx.2.2.2.2.1 (Or.inr (Or.inr (Or.inr (Or.inl so))))
    have t11 := w.cx.2.2.2.2.2.2 (Or.inr (Or.inr so))
    obtain ⟨w1, w2, -⟩ := w
    rw [woa] at t9 w1 w2 t11
    have w2' : ∀ n : Nat, (n : Int) < (σ.o a 3).toInt → NMT (F.a 49 n) c0' := w2
    have t9' : TTc (tcI F) DT KT (σ.o a 9) c0' := t9
    have t11' : KTc (tcI F) DT KT (σ.o a 11) (3 :: c0') := t11
    refine ⟨by rw [Fj 2 (by omega)]; exact w1, by rw [Fj 3 (by omega)]; exact w2', Or.inr (Or.inr (Or.inr (Or.inr (Or.inr (Or.inr (Or.inr (Or.inr (Or.inr (Or.inl ⟨F0, by rw [e.1]; exact ec, ?_, ?_, ?_, e.2⟩)))))))))⟩
    · rw [Fj 9 (by omega)]; exact t9'
    · rw [F10, e.1, ← ec]; exact TTc.x qX hk.1 hk.2
    · rw [Fj 11 (by omega)]; exact t11'
  · rcases List.mem_cons.mp hj with e | e
    · right; right
      rw [F0, F10, e]
      exact ⟨by decide, hk.1⟩
    · exact Or.inl e
  · unfold OWS at w ⊢
    rw [F0, Fj 9 (by omega)]
    rw [hs] at w
    rcases w with w | w
    · exact Or.inl ⟨by decide, by decide, by decide, by decide, w.2.2.2.2⟩
    · exact absurd w.1 (by decide)
theorem GHC.w {H : HB} {x y x' y' : Int} {c : List Nat} {X : List (Nat × List Nat)} {P : List Nat} {lim : List Int} {σ : CS} {p e0 e p' e0' : Int} {a m : Nat} {t : Int32} {s : CS} (h : GHC H x y c X P lim σ p e0 e a m t s) (hx : x ≤ x') (hy : y ≤ y') (hp : p' ≤ p) (he : e0' ≤ e0) : GHC H x' y' c X P lim σ p' e0' e a m t s := ⟨h.1.w hx hy hp he, h.2⟩
theorem q_bc52 {N : Nat} {H : HB} (hN : 1000 ≤ N) {x y : Int} {c c0 : List Nat} {X X0 : List (Nat × List Nat)} {P : List Nat} {T : List Int} {σ : CS} {p : Int} {a m b k : Nat} {t x2 : Int32} (hx : x ≤ 4500) (hy : y ≤ 92) (ht : TUR σ a m) (hs : σ.o a 0 = 305) (hσ : SGS σ (m + 1) ≤ sgI σ ∧ 0 ≤ sgI σ) (ec : c = 2 :: c0) (hcl : ∀ (s : CS) (DT : Nat → List Nat) (KT : Nat → Prop) (c0' : List Nat) (lim lim0 : List Int), s.o a 0 = 305 → ROW1 s DT KT a c0' c lim lim0 → c0' = c0 ∧ lim0 = lim) (hd : (σ.i 38).toInt = (c.length : Int) ∧ c.length ≤ 21) (hp : 1 ≤ p) (hb : x2.toInt = (b : Int) ∧ (b, c) ∈ X ∧ b ≤ 2000) (hk : t.toInt = (k : Int) ∧ (k, c) ∈ X) (hX : ∀ q ∈ X0, q ∈ X) : ∀ (n : Nat) (s : CS) (x3 : Int32), 0 ≤ x3.toInt → x3.toInt ≤ 900 → 900 - x3.toInt < n → GHC H x y c X (k :: b :: P) (ccI σ :: T) σ p 0 1 a m t s → ok (f_X7_beginCatch_52 N n s a x2 x3) (fun R => TNQ H (x - 200) y X0 P T σ R.2 ∧ (R.2.i 32 = 0 → R.2.o a 0 = 215))
  | 0, _, _, _, _, h, _ => by omega
  | n + 1, s, x3, z0, z9, hn, h => by
    show ok (b_X7_beginCatch_52 N (f_X7_beginCatch_52 N n) s a x2 x3) _
    unfold b_X7_beginCatch_52
    have e9 : (900 : Int32).toInt = 900 := by decide
    have e1 : (1 : Int32).toInt = 1 := by decide
    have out : ok (f_X7_beginCatch_80 N s a x2) (fun R => TNQ H (x - 200) y X0 P T σ R.2 ∧ (R.2.i 32 = 0 → R.2.o a 0 = 215)) := q_bc80 hN hx hy ht hs hσ ec hcl hd hp ⟨hb.1, hb.2.1⟩ hk hX h
    refine ok_ite (fun _ => out) (fun c9 => ?_)
    have l : x3.toInt < 900 := by
      have := lt_int (Int32.not_le.mp c9)
      rw [e9] at this; exact this
    have es : (x3 + 1).toInt = x3.toInt + 1 := by rw [toInt_add] <;> rw [e1] <;> omega
    refine ok_bind (q_skip hN h.1.1 124) (fun q hq => ?_)
    rcases hq with ⟨q1, q2, q3⟩ | ⟨q1, q2, q3⟩
    · rw [if_pos q1, q2]; exact out
    · rw [q1, if_neg (by decide)]
      have mo := q3.mono h.1.1.2.2.1
      have h1 := h.cp (h.1.adv (x' := x) (y' := y) (p' := 0) (e0' := 0) q3 (fun _ => by omega) (fun _ => by omega)) ⟨q3.1.1.2.2.2.1, q3.1.1.2.2.2.2.1⟩
      refine ok_bind (q_caughtKind hN (by omega) (by omega) hd.2 hb h1) (fun r hr => ?_)
      exact q_bc52 hN hx hy ht hs hσ ec hcl hd hp hb hk hX n r.2 (x3 + 1) (by omega) (by omega) (by omega) (hr.w (by omega) (Int.le_refl _) (by omega) (by omega))
theorem q_beginCatch {N : Nat} {H : HB} (hN : 1000 ≤ N) {x y : Int} {c : List Nat} {X : List (Nat × List Nat)} {P : List Nat} {T : List Int} {σ : CS} {a m : Nat} (hx : x ≤ 4000) (hy : y ≤ 90) (h : JJ H x y c X P (ccI σ :: T) σ) (ht : TUR σ a m) (hs : σ.o a 0 = 305) (htk : σ.i 43 = 215) : ok (f_X7_beginCatch N σ a) (fun R => TNQ H x y X P T σ R.2 ∧ (R.2.i 32 = 0 → R.2.o a 0 = 215)) := by
  obtain ⟨nf, hm, ea, nr, m4⟩ := (show TUR σ a m from ht)
  obtain ⟨DT0, KT0, c0, lim0, r0⟩ := h.row ht
  have ec := (r0.cx.2.2.1 (Or.inr hs)).1
  have nb := (h.2 nf).2
  have em : (cnI σ).toNat = m + 1 := by omega
  have sg := nb.2.2.2.2.2.2.1
  rw [em] at sg
  have ds := h.ds nf
  have hcl : ∀ (s : CS) (DT : Nat → List Nat) (KT : Nat → Prop) (c0' : List Nat) (lim lim0 : List Int), s.o a 0 = 305 → ROW1 s DT KT a c0' c lim lim0 → c0' = c0 ∧ lim0 = lim := fun s DT KT c0' lim lim0 e r => by
    have w := r.cx.2.2.1 (Or.inr e)
    rw [ec] at w
    exact ⟨(List.cons.inj w.1).2.symm, w.2⟩
  have tc0 : 0 ≤ tcI σ ∧ tcI σ ≤ 1010 := ⟨(h.2 nf).1.tc0.1, (nb.sz h.1.2.2.1 h.1.2.2.2.2.2.2.1.1 (by omega) (by omega)).2⟩
  unfold f_X7_beginCatch
  refine ok_bind (q_newTarget N σ) (fun p hp => ?_)
  obtain ⟨p1, p2⟩ := hp
  have g1 := (GHS.rf h ea m4).new p1 (by omega) (by omega) c
  have eb : p.1.toInt = ((tcI σ).toNat : Int) := by rw [p2]; show tcI σ = _; omega
  obtain ⟨b, hb⟩ : ∃ b, b = (tcI σ).toNat := ⟨_, rfl⟩
  rw [← hb] at g1 eb
  obtain ⟨tn, -, -⟩ := p1.n (by omega)
  refine ok_chk (g1.1.1.2.1 m a m4 g1.2.1.1) ?_
  have g2 := (g1.set 0 215 (by omega) (by decide)).set 8 1 (fun _ => Or.inr rfl) (by decide)
  have ou := ((OUV.rf p.2 a).o 0 215).o 8 1
  have po : p.2.o = σ.o := p1.1.2.2.2.1
  have pol : p.2.ol = σ.ol := p1.1.2.2.2.2.1
  have Wo : (CS.setO (CS.setO p.2 a 0 215) a 8 1).o a = upd (upd (σ.o a) 0 215) 8 1 := by
    have := ou.2.2.1
    rw [po] at this
    exact this
  have Wl : (CS.setO (CS.setO p.2 a 0 215) a 8 1).ol a = σ.ol a := by
    have := ou.2.2.2
    rw [pol] at this
    exact this
  have Wi : (CS.setO (CS.setO p.2 a 0 215) a 8 1).i = p.2.i := ou.1.2.2.2.2.2.2.2.2.2
  generalize CS.setO (CS.setO p.2 a 0 215) a 8 1 = W at *
  have tW : tcI W = tcI σ + 1 := by rw [← tn]; unfold tcI; rw [Wi]
  refine ok_bind (q_newTarget N W) (fun q hq => ?_)
  obtain ⟨q1, q2⟩ := hq
  have g3 := g2.new q1 (by omega) (by omega) c
  have ek : q.1.toInt = ((tcI W).toNat : Int) := by rw [q2]; show tcI W = _; omega
  obtain ⟨k, hk⟩ : ∃ k, k = (tcI W).toNat := ⟨_, rfl⟩
  rw [← hk] at g3 ek
  refine ok_chk (g3.1.1.2.1 m a m4 g3.2.1.1) ?_
  have g4 := g3.set 10 q.1 (by omega) (by decide)
  have ou2 := (OUV.rf q.2 a).o 10 q.1
  have Bo : (CS.setO q.2 a 10 q.1).o a = upd (upd (upd (σ.o a) 0 215) 8 1) 10 q.1 := by
    have := ou2.2.2.1
    rw [q1.1.2.2.2.1, Wo] at this
    exact this
  have Bl : (CS.setO q.2 a 10 q.1).ol a = σ.ol a := by
    have := ou2.2.2.2
    rw [q1.1.2.2.2.2.1, Wl] at this
    exact this
  have Bi : (CS.setO q.2 a 10 q.1).i = q.2.i := ci_setO ..
  generalize CS.setO q.2 a 10 q.1 = B at *
  have B43 : B.i 43 = 215 := by rw [Bi, q1.2.1 43 (by decide), Wi, p1.2.1 43 (by decide)]; exact htk
  have hB : GHC H x (y + 1 + 1) c ((k, c) :: (b, c) :: X) (k :: b :: P) (ccI σ :: T) σ 0 0 0 a m q.1 B := ⟨g4, Bl, by rw [Bo]; rfl, by rw [Bo]; rfl, fun j hj => by
    rw [Bo]
    exact (if_neg (by omega)).trans ((if_neg (by omega)).trans (if_neg (by omega)))⟩
  refine ok_bind (q_advC hN hB.1.1) (fun r hr => ?_)
  have wd := hr.wd hB.1.1.2.2.1 (Or.inl (by rw [B43]; decide))
  have h1 := hB.cp (hB.1.adv (x' := x - 200) (y' := y - 1) (p' := 2) (e0' := 3) hr (fun _ => by omega) (fun _ => wd)) ⟨hr.1.1.2.2.2.1, hr.1.1.2.2.2.2.1⟩
  refine ok_bind (q_open hN h1.1.1 40) (fun v hv => ?_)
  have vo : v.2.o = r.2.o ∧ v.2.ol = r.2.ol := by
    rcases hv with hf | ⟨-, -, ha⟩
    · exact ⟨hf.1.2.2.2.1, hf.1.2.2.2.2.1⟩
    · exact ⟨ha.1.1.2.2.2.1, ha.1.1.2.2.2.2.1⟩
  have h2 := h1.cp (h1.1.op (by decide) hv) vo
  have mb : (b, c) ∈ (k, c) :: (b, c) :: X := List.mem_cons_of_mem _ (List.mem_cons_self ..)
  have mk : (k, c) ∈ (k, c) :: (b, c) :: X := List.mem_cons_self ..
  refine ok_bind (q_caughtKind hN (by omega) (by omega) ds.2 ⟨eb, mb, by omega⟩ h2) (fun f hf => ?_)
  have h3 := hf.w (x' := x - 200) (y' := y) (p' := 1) (e0' := 0) (by omega) (by omega) (by omega) (by omega)
  exact ok_imp (q_bc52 (X0 := X) (P := P) (T := T) hN (by omega) (by omega) ht hs ⟨sg, nb.2.2.2.1.1⟩ ec hcl ds (by omega) ⟨eb, mb, by omega⟩ ⟨ek, mk⟩ (fun _ z => List.mem_cons_of_mem _ (List.mem_cons_of_mem _ z)) N f.2 0 (by decide) (by decide) (by rw [z_t0]; omega) h3) (fun R hR => ⟨hR.1.w (by omega) (Int.le_refl _), hR.2⟩)
end
section
/-! the class's reading: the groups of a switch -/
theorem ROW1.sw {s : CS} {DT : Nat → List Nat} {KT : Nat → Prop} {a : Nat} {c0 c : List Nat} {lim lim' : List Int} (r : ROW1 s DT KT a c0 c lim lim') (hs : s.o a 0 = 218) : c = c0 ∧ TTc (tcI s) DT KT (s.o a 9) c0 ∧ TTc (tcI s) DT KT (s.o a 10) c0 ∧ ((s.o a 11).toInt < 0 ∨ TTc (tcI s) DT KT (s.o a 11) c0) ∧ (∃ (l : Int) (T : List Int), lim = l :: T ∧ lim' = (s.o a 13).toInt :: T ∧ (s.o a 13).toInt ≤ l ∧ (∀ i : Nat, (s.o a 13).toInt ≤ (i : Int) → (i : Int) < l → TTc (tcI s) DT KT (s.a 19 i) c0)) := by
  obtain ⟨r1, r2, r3⟩ := r
  have no : ∀ w : Int32, s.o a 0 = w → ¬ w = 218 → c = c0 ∧ TTc (tcI s) DT KT (s.o a 9) c0 ∧ TTc (tcI s) DT KT (s.o a 10) c0 ∧ ((s.o a 11).toInt < 0 ∨ TTc (tcI s) DT KT (s.o a 11) c0) ∧ (∃ (l : Int) (T : List Int), lim = l :: T ∧ lim' = (s.o a 13).toInt :: T ∧ (s.o a 13).toInt ≤ l ∧ (∀ i : Nat, (s.o a 13).toInt ≤ (i : Int) → (i : Int) < l → TTc (tcI s) DT KT (s.a 19 i) c0)) := fun w e n => absurd (e.symm.trans hs) n
  rcases r3 with ⟨z1, z2, e⟩ | ⟨z1, z2, z3, -⟩ | ⟨z1, z2, z3, e⟩ | ⟨z1, z2, z3, e⟩ | ⟨z1, z2, z3, z4, e⟩ | ⟨z1, z2, z3, z4, z5, e⟩ | ⟨z1, z2, z3, z4, z5, z6⟩ | ⟨z1, z2, z3, e⟩ | ⟨z1, z2, z3, z4, z5, e⟩ | ⟨z1, z2, z3, z4, z5, e⟩ | ⟨z1, z2, z3, z4, e⟩ | ⟨z1, z2, z3, e⟩
  · rcases z1 with z1 | z1
    · exact no _ z1 (by decide)
    · exact no _ z1 (by decide)
  · exact no _ z1 (by decide)
  · exact no _ z1 (by decide)
  · rcases z1 with z1 | z1
    · exact no _ z1 (by decide)
    · exact no _ z1 (by decide)
  · rcases z1 with z1 | z1 | z1
    · exact no _ z1 (by decide)
    · exact no _ z1 (by decide)
    · exact no _ z1 (by decide)
  · exact no _ z1 (by decide)
  · exact ⟨z2, z3, z4, z5, z6⟩
  · exact no _ z1 (by decide)
  · exact no _ z1 (by decide)
  · exact no _ z1 (by decide)
  · exact no _ z1 (by decide)
  · exact no _ z1 (by decide)
theorem ROW1.mkS {s : CS} {DT : Nat → List Nat} {KT : Nat → Prop} {a : Nat} {c0 c : List Nat} {lim lim' : List Int} (r1 : (s.o a 2).toInt = (c0.length : Int)) (r2 : ∀ n : Nat, (n : Int) < (s.o a 3).toInt → NMT (s.a 49 n) c0) (hs : s.o a 0 = 218) (h : c = c0 ∧ TTc (tcI s) DT KT (s.o a 9) c0 ∧ TTc (tcI s) DT KT (s.o a 10) c0 ∧ ((s.o a 11).toInt < 0 ∨ TTc (tcI s) DT KT (s.o a 11) c0) ∧ (∃ (l : Int) (T : List Int), lim = l :: T ∧ lim' = (s.o a 13).toInt :: T ∧ (s.o a 13).toInt ≤ l ∧ (∀ i : Nat, (s.o a 13).toInt ≤ (i : Int) → (i : Int) < l → TTc (tcI s) DT KT (s.a 19 i) c0))) : ROW1 s DT KT a c0 c lim lim' := ⟨r1, r2, Or.inr (Or.inr (Or.inr (Or.inr (Or.inr (Or.inr (Or.inl ⟨hs, h⟩))))))⟩
/-- the entries that the innermost switch owns -/
theorem JK.lims {H : HB} {x y : Int} {cD c d : List Nat} {X : List (Nat × List Nat)} {P : List Nat} {l l' : Int} {T : List Int} {s : CS} {a m : Nat} (h : JK H x y cD c d X P (l :: T) s) (ea : s.r 51 m = some a) (hm : s.i 32 = 0 → cnI s = (m : Int) + 1) (hs : s.i 32 = 0 → s.o a 0 = 218) (hl : s.i 32 = 0 → (s.o a 13).toInt ≤ l' ∧ l' ≤ ccI s) (hi : s.i 32 = 0 → ∀ i : Nat, l ≤ (i : Int) → (i : Int) < l' → ∃ k : Nat, (s.a 19 i).toInt = (k : Int) ∧ (k, c) ∈ X) : JK H x y cD c d X P (l' :: T) s := by
  refine h.top h.1 rfl ea ea (fun q => ⟨hm q, ⟨⟨rfl, rfl, rfl, rfl, rfl⟩, rfl, rfl, rfl, rfl⟩, RSQ.rf s m, ⟨rfl, rfl, rfl, rfl, rfl⟩, rfl, rfl⟩) (fun q => (h.2 q).2.2.2.2.2.2.2.2.1) (fun q => Or.inl rfl) (fun q => ?_) (fun q DT KT c0 lim0 qX r => ?_) (fun q k hk => Or.inl hk) (fun q k _ k2 _ => Or.inr k2) (fun q n _ z => z) (fun q => (hl q).2)
  · have w := (h.2 q).2.2.2.2.2.2.2.1
    have em : (cnI s).toNat = m + 1 := by have := hm q; omega
    rw [em] at w
    exact w
  · have w := r.sw (hs q)
    obtain ⟨r1, r2, -⟩ := r
    obtain ⟨w1, w2, w3, w4, l0, T0, w5, w6, w7, w8⟩ := w
    have e := List.cons.inj w5
    refine ROW1.mkS r1 r2 (hs q) ⟨w1, w2, w3, w4, l', T0, by rw [e.2], w6, (hl q).1, fun i q1 q2 => ?_⟩
    by_cases z : (i : Int) < l
    · exact w8 i q1 (by omega)
    · obtain ⟨k, k1, k2⟩ := hi q i (by omega) q2
      rw [w1] at k2
      exact TTc.x qX k1 k2
theorem CNR.mid {f : Int} {s R : CS} {t : Int32} (h : CNR f s R t) : MDL 1 0 0 s R := by
  obtain ⟨a0, ⟨a1, a2⟩, a3, a4, ⟨a5, a6, a7, a8, a9⟩, a10, a11, a12, a13⟩ := h
  exact ⟨a0, ⟨a1, by omega⟩, by unfold sgI; rw [a4]; omega, ⟨a7, a8⟩, a10.lo (by omega), a11, a12, by omega, by unfold nmI; rw [a6]; exact Int.le_refl _⟩
theorem q_grp87 {N : Nat} {H : HB} (hN : 1000 ≤ N) {E1 : CS → Option (Unit × CS)} {E2 : CS → Option (Int32 × CS)} {x y : Int} {c : List Nat} {X X0 : List (Nat × List Nat)} {P : List Nat} {T : List Int} {σ s : CS} {a m t : Nat} {x2 : Int32} {p g : Int} (hx : x ≤ 4500) (hy : y ≤ 92) (ht : TUR σ a m) (hs : σ.o a 0 = 218) (hX : ∀ q ∈ X0, q ∈ X) (h : JJ H x y c X (t :: P) (ccI s :: T) s) (hr : s.r 51 m = some a) (ht2 : x2.toInt = (t : Int) ∧ (t, c) ∈ X) (hp : 1 ≤ p) (hg : 0 ≤ g) (hm : s.i 32 = 0 → MDL p g 0 σ s ∧ s.o a 0 = 218) : ok (f_X7_groupTurn_87 N E1 E2 s a x2) (fun R => TNQ H (x - 100) y X0 P T σ R.2 ∧ (R.2.i 32 = 0 → R.2.o a 0 = 218)) := by
  obtain ⟨nf, hmm, ea, nr, m4⟩ := (show TUR σ a m from ht)
  unfold f_X7_groupTurn_87
  refine ok_bind (q_expect hN h.1 58) (fun q hq => ?_)
  have hq' : JJ H (x - 100) y c X (t :: P) (ccI s :: T) q.2 ∧ (q.2.r = s.r ∧ q.2.o = s.o) ∧ (q.2.i 32 = 0 → SX 1 0 0 s q.2) := by
    rcases hq with hf | ⟨q1, q2⟩
    · exact ⟨JJ.flt h.1 hf, ⟨hf.1.2.2.2.2.2.2.2.1, hf.1.2.2.2.1⟩, fun z => absurd z hf.2.2.2.1⟩
    · obtain ⟨j, e⟩ := h.tk q2 (fun _ => by rw [q1]; decide)
      exact ⟨j, ⟨q2.1.1.2.2.2.2.2.2.2.1, q2.1.1.2.2.2.1⟩, fun z => (e z).sx⟩
  obtain ⟨j1, ⟨q1, q2⟩, x1⟩ := hq'
  refine ok_bind (q_aim N q.2 x2) (fun r hr' => ?_)
  have j2 : JJ H (x - 100) y c X P (ccI s :: T) r.2 := j1.aim hr' (by omega) (by omega) (fun _ => ⟨t, ht2⟩) (fun k hk => by
    rcases List.mem_cons.mp hk with e | e
    · right; rw [e]; exact ht2.1.symm
    · exact Or.inl e)
  have rr : r.2.r 51 m = some a := by rw [hr'.1.2.2.2.2.2.2.1, q1]; exact hr
  have ro : r.2.o = s.o := hr'.1.2.2.2.1.trans q2
  refine ok_chk (j2.1.1.2.1 m a m4 rr) (ok_some ?_)
  have x2' : r.2.i 32 = 0 → SX 1 0 0 s r.2 := fun z => ((x1 (hr'.f.1.symm.trans z)).tr (hr'.sx (hr'.f.1.symm.trans z))).w (by omega) (by omega) (by omega)
  have rc : r.2.i 32 = 0 → cnI r.2 = (m : Int) + 1 := fun z => by
    have w := x2' z
    rw [← hmm]; unfold cnI; rw [w.2.2.2.1.2.1, (hm w.1).1.2.2.2.1.1]
  have j3 := j2.k.fld rr m4 rc 5 1 (by omega) (fun _ => Or.inr rfl)
  have ou := (OUV.rf r.2 a).o 5 1
  have u0 : (CS.setO r.2 a 5 1).o a 0 = s.o a 0 := by rw [show (CS.setO r.2 a 5 1).o a = upd (r.2.o a) 5 1 from ou.2.2.1, ro]; rfl
  have ui : (CS.setO r.2 a 5 1).i = r.2.i := ci_setO ..
  have md : r.2.i 32 = 0 → MDL 0 0 0 r.2 (CS.setO r.2 a 5 1) := fun z => MDL.cel z j2.1.1 (rc z) m4 rr ou
  have ur : (CS.setO r.2 a 5 1).r 51 m = some a := rr
  generalize CS.setO r.2 a 5 1 = U at *
  have ir := (IRR.rf j3.1).i 36 1 (by unfold IRJ; omega) (fun _ => Or.inr rfl)
  have j4 := j3.irr ir
  show TNQ H (x - 100) y X0 P T σ (CS.setI U 36 1) ∧ ((CS.setI U 36 1).i 32 = 0 → (CS.setI U 36 1).o a 0 = 218)
  have fo : (CS.setI U 36 1).o a 0 = s.o a 0 := by rw [co_setI]; exact u0
  have fr : (CS.setI U 36 1).r 51 m = some a := ur
  generalize CS.setI U 36 1 = F at *
  have key : F.i 32 = 0 → r.2.i 32 = 0 := fun z => by rw [← ui]; exact ir.f.1.symm.trans z
  refine ⟨⟨j4.1, fun z => ?_⟩, fun z => by rw [fo]; exact (hm (x2' (key z)).1).2⟩
  have z1 := key z
  have zU := ir.f.1.symm.trans z
  have w := x2' z1
  have m1 : MDL 1 0 0 σ F := (((((hm w.1).1).tr w.mid).tr (md z1)).tr (ir.sx zU).mid).w (by omega) (by omega) (by omega)
  have ecc : ccI F = ccI s := by
    have e1 : F.i 22 = U.i 22 := (ir.sx zU).2.2.2.1.2.2.2
    unfold ccI
    rw [e1, ui, w.2.2.2.1.2.2.2]
  rw [ecc]
  refine ⟨⟨c, JK.j (j4.sub hX)⟩, m1.trn (by omega) (by omega) hmm ea fr nr ?_⟩
  unfold sgn
  rw [fo, (hm w.1).2, hs]; rfl
end
section
/-! the class's reading: a turn of a switch's groups -/
theorem q_grp59 {N : Nat} {H : HB} (hN : 10000000000 ≤ N) {E1 : CS → Option (Unit × CS)} {E2 : CS → Option (Int32 × CS)} {x y : Int} {c : List Nat} {X : List (Nat × List Nat)} {P : List Nat} {T : List Int} {σ s : CS} {a m b : Nat} {x2 x3 : Int32} (hx : x ≤ 4400) (hy : y ≤ 91) (ht : TUR σ a m) (hs : σ.o a 0 = 218) (h13 : (σ.o a 13).toInt ≤ ccI σ) (h : JJ H x (y + 1) c ((b, c) :: X) (b :: P) (ccI σ :: T) s) (hr : s.r 51 m = some a) (ho : s.o = σ.o) (hb : x2.toInt = (b : Int)) (hm : s.i 32 = 0 → SX 0 0 0 σ s ∧ 200 ≤ (s.i 43).toInt ∧ (¬ x3 = 0 → s.i 43 = 219)) : ok (f_X7_groupTurn_59 N E1 E2 s a x2 x3) (fun R => TNQ H (x - 100) y X P T σ R.2 ∧ (R.2.i 32 = 0 → R.2.o a 0 = 218)) := by
  have hN1 : 1000 ≤ N := by omega
  obtain ⟨nf, hmm, ea, nr, m4⟩ := (show TUR σ a m from ht)
  have hX : ∀ q ∈ X, q ∈ (b, c) :: X := fun q hq => List.mem_cons_of_mem _ hq
  have bX : (b, c) ∈ (b, c) :: X := List.mem_cons_self ..
  unfold f_X7_groupTurn_59
  refine ok_bind (q_advC hN1 h.1) (fun q hq => ?_)
  obtain ⟨j1, e1⟩ := h.word hq (fun z => (hm z).2.1)
  have j1 := j1.w (x' := x) (y' := y) (by omega) (by omega)
  have qr : q.2.r 51 m = some a := by rw [hq.1.1.2.2.2.2.2.2.2.1]; exact hr
  have qo : q.2.o = σ.o := hq.1.1.2.2.2.1.trans ho
  have f32 := hq.f32
  have e2 : q.2.i 32 = 0 → SX 2 3 0 σ q.2 := fun z => ((hm (f32.symm.trans z)).1.tr (e1 z)).w (by omega) (by omega) (by omega)
  have rc : q.2.i 32 = 0 → cnI q.2 = (m : Int) + 1 := fun z => by
    rw [← hmm]; unfold cnI; rw [(e2 z).2.2.2.1.2.1]
  have ecc : q.2.i 32 = 0 → ccI q.2 = ccI σ := fun z => by unfold ccI; rw [(e2 z).2.2.2.1.2.2.2]
  refine ok_ite (fun _ => ?_) (fun c3 => ?_)
  · refine ok_chk (j1.1.1.2.1 m a m4 qr) ?_
    have cb := j1.1.o a 11 x2 (by omega) (by omega)
    have ou := (OUV.rf q.2 a).o 11 x2
    have oj : ∀ j : Nat, j ≠ 11 → (CS.setO q.2 a 11 x2).o a j = q.2.o a j := fun j hj => by
      rw [show (CS.setO q.2 a 11 x2).o a = upd (q.2.o a) 11 x2 from ou.2.2.1]
      exact if_neg hj
    have o11 : (CS.setO q.2 a 11 x2).o a 11 = x2 := by
      rw [show (CS.setO q.2 a 11 x2).o a = upd (q.2.o a) 11 x2 from ou.2.2.1]
      exact if_pos rfl
    have tl := ou.t2 j1.1.1 m4 qr
    have Ri : (CS.setO q.2 a 11 x2).i = q.2.i := ci_setO ..
    have Ra : (CS.setO q.2 a 11 x2).a = q.2.a := ca_setO ..
    have Rr : (CS.setO q.2 a 11 x2).r = q.2.r := cr_setO ..
    have Rl : (CS.setO q.2 a 11 x2).ol = q.2.ol := col_setO ..
    have md : q.2.i 32 = 0 → MDL 0 0 0 q.2 (CS.setO q.2 a 11 x2) := fun z => MDL.cel z j1.1.1 (rc z) m4 qr ou
    generalize CS.setO q.2 a 11 x2 = R at *
    have j2 : JK H x y c c c ((b, c) :: X) (b :: P) (ccI σ :: T) R := by
      refine j1.k.top cb (by rw [Ri]) qr (by rw [Rr]; exact qr) (fun z => ⟨rc z, ⟨⟨by rw [Ra], by rw [Ra], by rw [Ra], by rw [Ra], by rw [Ra]⟩, by rw [Ri], by rw [Ri], by rw [Ri], by rw [Ri]⟩, tl.1.2, ⟨by rw [Ri], by rw [Ri], by rw [Ri], by rw [Ri], by rw [Ri]⟩, by rw [Rl], oj 3 (by omega)⟩) (fun z => ?_) (fun z => Or.inl (oj 0 (by omega))) (fun z => ?_) (fun z DT KT c0 lim0 qX r => ?_) (fun z k hk => Or.inl hk) (fun z t _ w _ => Or.inr ?_) (fun z n _ w => w) (fun z => (j1.2 z).1.lim)
      · have n := (j1.2 z).2.2.2.2.2.2.2.2.1
        unfold dsI at *
        rw [Ri]
        exact n
      · have n := (j1.2 z).2.2.2.2.2.2.2.1
        have em : (cnI q.2).toNat = m + 1 := by have := rc z; omega
        rw [em] at n
        have nr' : NR q.2 m := fun i hi => j1.1.2.2.2.2.2.2.1.2.2 i (by have := rc z; omega)
        have i2 := (tl.1.2.sums nr').2.1
        have g0 : sgn R a = sgn q.2 a := by unfold sgn; rw [oj 0 (by omega)]
        have er := rowA.of (show R.r 51 m = some a by rw [Rr]; exact qr)
        have es := rowA.of qr
        have e : SGS R (m + 1) = SGS q.2 (m + 1) := by
          show SGS R m + sgn R (rowA R m) = SGS q.2 m + sgn q.2 (rowA q.2 m)
          rw [i2, er, es, g0]
        rw [e]
        exact n
      · have hs' : q.2.o a 0 = 218 := by rw [qo]; exact hs
        have w := r.sw hs'
        obtain ⟨r1, r2, -⟩ := r
        obtain ⟨w1, w2, w3, w4, l0, T0, w5, w6, w7, w8⟩ := w
        have et : tcI R = tcI q.2 := by unfold tcI; rw [Ri]
        refine ROW1.mkS (by rw [oj 2 (by omega)]; exact r1) (by rw [oj 3 (by omega), Ra]; exact r2) (by rw [oj 0 (by omega)]; exact hs') ⟨w1, by rw [oj 9 (by omega), et]; exact w2, by rw [oj 10 (by omega), et]; exact w3, Or.inr ?_, l0, T0, w5, by rw [oj 13 (by omega)]; exact w6, by rw [oj 13 (by omega)]; exact w7, fun i v1 v2 => ?_⟩
        · rw [o11, et, ← w1]; exact TTc.x qX hb bX
        · rw [oj 13 (by omega)] at v1
          rw [Ra, et]
          exact w8 i v1 v2
      · unfold OWS at *
        rw [oj 0 (by omega), oj 9 (by omega), oj 10 (by omega)]
        exact w
    have Rcc : R.i 32 = 0 → ccI R = ccI σ := fun z => by
      have z' : q.2.i 32 = 0 := by rw [← Ri]; exact z
      rw [← ecc z']; unfold ccI; rw [Ri]
    have j3 : JJ H x y c ((b, c) :: X) (b :: P) (ccI R :: T) R := ⟨j2.1, fun z => by rw [Rcc z]; exact j2.2 z⟩
    refine q_grp87 hN1 (by omega) (by omega) ht hs hX j3 (by rw [Rr]; exact qr) ⟨hb, bX⟩ (p := 2) (g := 3) (by omega) (by omega) (fun z => ?_)
    have z' : q.2.i 32 = 0 := by rw [← Ri]; exact z
    exact ⟨((e2 z').mid.tr (md z')).w (by omega) (by omega) (by omega), by rw [oj 0 (by omega), qo]; exact hs⟩
  · refine ok_chk (j1.1.1.2.1 m a m4 qr) ?_
    refine ok_bind (q_caseNumber hN (by omega) (by omega) j1.rb _ _ (fun R hR => ?_)) (fun r hr' => ?_)
    · have z := hR.1
      have z0 := f32.symm.trans z
      have w := e2 z
      have n3 := (h.2 z0).2.2.1
      have g4 := (hq.gain h.1.2.2.1).2.2.2.2.2.2 (Or.inr ((hm z0).2.2 c3))
      have n5 := hR.2.1.1
      have c1 := ecc z
      have c2 : ccI s = ccI σ := by unfold ccI; rw [(hm z0).1.2.2.2.1.2.2.2]
      omega
    have jr := hr'.1.bk j1.1 (fun z => (hr'.2 z).1)
    have rr := (hr'.1.1.st m4 qr).1
    have ro : r.2.i 32 = 0 → r.2.o a = q.2.o a := fun z => by
      have w := hr'.2 z
      have rq := w.2.2.2.2.2.1
      have := rc w.1
      exact ((rq m (by omega)).2 a qr).1
    have rcn : r.2.i 32 = 0 → cnI r.2 = (m : Int) + 1 := fun z => by
      have w := hr'.2 z
      rw [← rc w.1]; unfold cnI; rw [w.2.2.2.2.1.2.2.1]
    have j4 : JK H (x - 50) y c c c ((b, c) :: X) (b :: P) (ccI r.2 :: T) r.2 := jr.k.lims rr rcn (fun z => by rw [ro z, qo]; exact hs) (fun z => ⟨by
      have w := hr'.2 z
      have ecq := ecc w.1
      have ecr := w.2.2.1
      rw [ro z, qo]; omega, Int.le_refl _⟩) (fun z i i1 i2 => ⟨b, by
        have w := hr'.2 z
        have ecq := ecc w.1
        have ecr := w.2.2.1
        have n3 := (j1.2 w.1).2.2.1.1
        have e19 := w.2.2.2.2.2.2.2.2.1
        have : i = (ccI q.2).toNat := by omega
        rw [this, e19]; exact hb, bX⟩)
    refine ok_imp (q_grp87 hN1 (x := x - 50) (by omega) (by omega) ht hs hX j4.j rr ⟨hb, bX⟩ (p := 3) (g := 3) (by omega) (by omega) (fun z => ⟨((e2 (hr'.2 z).1).mid.tr (hr'.2 z).mid).w (by omega) (by omega) (by omega), by rw [ro z, qo]; exact hs⟩)) (fun R hR => ⟨⟨hR.1.1, fun v => ?_⟩, hR.2⟩)
    obtain ⟨⟨c', jc⟩, tn⟩ := hR.1.2 v
    exact ⟨⟨c', jc.w (by omega) (Int.le_refl _)⟩, tn⟩
theorem q_grp20 {N : Nat} {H : HB} (hN : 10000000000 ≤ N) {E1 : CS → Option (Unit × CS)} {E2 : CS → Option (Int32 × CS)} {x y : Int} {c : List Nat} {X : List (Nat × List Nat)} {P : List Nat} {T : List Int} {σ : CS} {a m : Nat} (hx : x ≤ 4000) (hy : y ≤ 90) (h : JJ H x y c X P (ccI σ :: T) σ) (ht : TUR σ a m) (hs : σ.o a 0 = 218) (htk : σ.i 43 = 219 ∨ σ.i 43 = 220) : ok (f_X7_groupTurn_20 N E1 E2 σ a) (fun R => TNQ H x y X P T σ R.2 ∧ (R.2.i 32 = 0 → R.2.o a 0 = 218)) := by
  have hN1 : 1000 ≤ N := by omega
  obtain ⟨nf, hmm, ea, nr, m4⟩ := (show TUR σ a m from ht)
  obtain ⟨DT0, KT0, c0, lim0, r0⟩ := h.row ht
  have h13 : (σ.o a 13).toInt ≤ ccI σ := by
    obtain ⟨-, -, -, -, l, T', w1, -, w3, -⟩ := r0.sw hs
    rw [(List.cons.inj w1).1]
    exact w3
  have tc0 := (h.2 nf).1.tc0.1
  unfold f_X7_groupTurn_20
  refine ok_bind (q_newTarget N σ) (fun p hp => ?_)
  obtain ⟨p1, p2⟩ := hp
  have j1 := h.new p1 (by omega) (by omega) c
  have eb : p.1.toInt = ((tcI σ).toNat : Int) := by rw [p2]; show tcI σ = _; omega
  obtain ⟨b, hb⟩ : ∃ b, b = (tcI σ).toNat := ⟨_, rfl⟩
  rw [← hb] at j1 eb
  have pr : p.2.r 51 m = some a := by rw [p1.1.2.2.2.2.2.2.1]; exact ea
  have po : p.2.o = σ.o := p1.1.2.2.2.1
  have ptk : p.2.i 43 = σ.i 43 := p1.f.2.1
  have wd : ∀ v : Int32, v = 219 ∨ v = 220 → 200 ≤ v.toInt := fun v e => by
    rcases e with e | e <;> rw [e] <;> decide
  refine ok_bind (q_found p.2 219) (fun q hq => ?_)
  obtain ⟨q1, q2⟩ := hq
  rw [q1]
  have fin : ∀ s : CS, JJ H x (y + 1) c ((b, c) :: X) (b :: P) (ccI σ :: T) s → s.r 51 m = some a → s.o = σ.o → (s.i 32 = 0 → SX 0 0 0 σ s ∧ 200 ≤ (s.i 43).toInt ∧ (¬ q.1 = 0 → s.i 43 = 219)) → ok (f_X7_groupTurn_59 N E1 E2 s a p.1 q.1) (fun R => TNQ H x y X P T σ R.2 ∧ (R.2.i 32 = 0 → R.2.o a 0 = 218)) := fun s js sr so sm =>
    ok_imp (q_grp59 hN (by omega) (by omega) ht hs h13 js sr so eb sm) (fun R hR => ⟨⟨hR.1.1, fun v => by
      obtain ⟨⟨c', jc⟩, tn⟩ := hR.1.2 v
      exact ⟨⟨c', jc.w (by omega) (Int.le_refl _)⟩, tn⟩⟩, hR.2⟩)
  have fin0 := fin p.2 j1 pr po (fun z => ⟨p1.sx nf, by rw [ptk]; exact wd _ htk, fun n => by
    rcases q2 with ⟨w, -⟩ | ⟨-, w⟩
    · exact absurd w n
    · exact w⟩)
  refine ok_ite (fun c1 => ?_) (fun _ => fin0)
  refine ok_chk (j1.1.1.2.1 m a m4 pr) ?_
  refine ok_ite (fun _ => fin0) (fun _ => ?_)
  refine ok_bind (q_failC j1.1 4 _ (by decide)) (fun f hf => ?_)
  exact fin f.2 (JJ.flt j1.1 hf) (by rw [hf.1.2.2.2.2.2.2.2.1]; exact pr) (hf.1.2.2.2.1.trans po) (fun z => absurd z hf.2.2.2.1)
/-- a turn of a switch: another row stands on top only if it is not one behind a try -/
theorem q_groupTurn {N : Nat} {H : HB} (hN : 10000000000 ≤ N) {k : Int} {E1 : CS → Option (Unit × CS)} {E2 : CS → Option (Int32 × CS)} (hE : ∀ b, EC (H.1, b) k E1) (hE2 : ∀ b, EC2 (H.1, b) k E2) {x y : Int} {c : List Nat} {X : List (Nat × List Nat)} {P : List Nat} {T : List Int} {σ : CS} {a m : Nat} (hx : x ≤ 3900) (hy : y + 3 * k ≤ 87 ∧ 0 ≤ k) (h : JJ H x y c X P (ccI σ :: T) σ) (h0 : S0G σ) (hk : 24 - sgI σ ≤ k) (ht : TUR σ a m) (hs : σ.o a 0 = 218) : ok (f_X7_groupTurn N E1 E2 σ a) (fun R => TNQ H x y X P T σ R.2 ∧ (R.2.i 32 = 0 → R.2.o a 0 = 218 ∨ SRL σ R.2)) := by
  obtain ⟨nf, hmm, ea, nr, m4⟩ := (show TUR σ a m from ht)
  unfold f_X7_groupTurn
  have g20 : (σ.i 43 = 219 ∨ σ.i 43 = 220) → ok (f_X7_groupTurn_20 N E1 E2 σ a) (fun R => TNQ H x y X P T σ R.2 ∧ (R.2.i 32 = 0 → R.2.o a 0 = 218 ∨ SRL σ R.2)) := fun e =>
    ok_imp (q_grp20 hN (by omega) (by omega) h ht hs e) (fun R hR => ⟨hR.1, fun z => Or.inl (hR.2 z)⟩)
  refine ok_bind (q_found σ 219) (fun p hp => ?_)
  obtain ⟨p1, p2⟩ := hp
  rw [p1]
  rcases p2 with ⟨p2, p3⟩ | ⟨p2, p3⟩
  · rw [if_pos p2]
    refine ok_bind (q_found σ 220) (fun q hq => ?_)
    obtain ⟨q1, q2⟩ := hq
    rw [q1]
    rcases q2 with ⟨q2, q3⟩ | ⟨q2, q3⟩
    · rw [if_pos q2]
      refine ok_chk (h.1.1.2.1 m a m4 ea) (ok_ite (fun _ => ?_) (fun _ => ?_))
      · refine ok_bind (q_misp h.1) (fun f hf => ok_some ?_)
        have j := JJ.flt (H := H) (x := x) (y := y) (c := c) (X := X) (P := P) (lim := ccI σ :: T) h.1 hf
        exact ⟨⟨j.1, fun z => absurd z hf.2.2.2.1⟩, fun z => absurd z hf.2.2.2.1⟩
      · exact ok_bind (q_statement hN hE hE2 hx (by omega) h h0 hk 0) (fun r hr => ok_some ⟨hr.tq (by omega), fun z => Or.inr (hr.2 z).2⟩)
    · rw [q2, if_neg (by decide)]
      exact g20 (Or.inr q3)
  · rw [p2, if_neg (by decide)]
    exact g20 (Or.inl p3)
end
section
/-! the class's reading: a switch ends -/
theorem JSH.c22 {H : HB} {x y : Int} {c : List Nat} {X : List (Nat × List Nat)} {P : List Nat} {lim : List Int} {s : CS} {v : Int32} (h : JSH H x y c c c X P lim s) (hv : s.i 32 = 0 → 0 ≤ v.toInt ∧ v.toInt ≤ ccI s ∧ lmh lim ≤ v.toInt) {x' : Int} (hx : s.i 32 = 0 → x - 4 * (ccI s - v.toInt) ≤ x') : JSH H x' y c c c X P lim (CS.setI s 22 v) := by
  have e : shs (CS.setI s 22 v) = CS.setI (shs s) 22 v := setI.cm s 22 34 v 20 (by decide)
  have cc : ccI (shs s) = ccI s := by unfold ccI; rw [shs.i s 22 (by decide)]
  refine ⟨?_, ?_⟩
  · have b := ADS.c22 s v
    refine h.1.of b.1 (b.2.2 0 (by decide) (by decide)) (fun j hj => b.2.1 j (by omega) (by omega)) (fun _ t t1 t2 => ?_)
    have e : tcI (CS.setI s 22 v) = tcI s := by unfold tcI; rw [b.2.1 21 (by decide) (by decide)]
    rw [e, b.2.2 17 (by decide) (by decide)]
    exact ⟨t1, t2⟩
  · rw [e]
    exact (JJ.c22 h.2.j (fun q => by rw [cc]; exact hv ((shs.i s 32 (by decide)).symm.trans q)) (fun q => by rw [cc]; exact hx ((shs.i s 32 (by decide)).symm.trans q))).k
theorem q_addCsE {N : Nat} {H : HB} {x y : Int} {c : List Nat} {X : List (Nat × List Nat)} {P : List Nat} {lim : List Int} {s : CS} (hx : x ≤ 5000) (hy : y ≤ 95) (hl : c.length ≤ 21) (x1 x2 : Int32) (hT : s.i 32 = 0 → (0 ≤ x1.toInt ∧ x1.toInt ≤ ccI s ∧ lmh lim ≤ x1.toInt ∧ ccI s ≤ 300) ∧ (∀ i : Nat, x1.toInt ≤ (i : Int) → (i : Int) < ccI s → ∃ k : Nat, (s.a 19 i).toInt = (k : Int) ∧ (k, c) ∈ X) ∧ ∃ k : Nat, x2.toInt = (k : Int) ∧ (k, c) ∈ X) : ∀ (n : Nat) (σ : CS) (x3 : Int32), ccI s - x3.toInt < n → ADS s σ → σ.i 22 = s.i 22 → (s.i 32 = 0 → x1.toInt ≤ x3.toInt ∧ x3.toInt ≤ ccI s) → (∃ z : Int, z ≤ 6000 ∧ (s.i 32 = 0 → z = x + 2 * (x3.toInt - x1.toInt)) ∧ JSH H z y c c c X P lim σ) → ok (f_X0_addCases_2 N (n + 1) σ x1 x2 x3) (fun R => JSH H (x + 2) y c c c X P lim R.2 ∧ ADS s R.2 ∧ R.2.i 22 = x1)
  | n, σ, x3, hn, ha, h22, h3, ⟨z, z1, z2, hj⟩ => by
    show ok (b_X0_addCases_2 N (f_X0_addCases_2 N n) σ x1 x2 x3) _
    unfold b_X0_addCases_2
    have e1 : (1 : Int32).toInt = 1 := by decide
    have e32 : σ.i 32 = s.i 32 := ha.2.1 32 (by decide) (by decide)
    have ecc : ccI σ = ccI s := by unfold ccI; rw [h22]
    refine ok_ite (fun q => ?_) (fun q => ?_)
    · have l := le_int q
      have l' : ccI σ ≤ x3.toInt := l
      have j0 : JSH H x y c c c X P lim (CS.setI σ 22 x1) := hj.c22 (fun nf => by
        obtain ⟨t1, -⟩ := hT (e32 ▸ nf)
        omega) (fun nf => by
        have nf' : s.i 32 = 0 := e32 ▸ nf
        have := z2 nf'
        have := h3 nf'
        omega)
      have a0 : ADS s (CS.setI σ 22 x1) := ha.tr (ADS.c22 σ x1)
      have c0 : (CS.setI σ 22 x1).i 22 = x1 := ci_at _ _ _
      refine ok_bind (q_add N _ 6 0) (fun p hp => ?_)
      have j1 := j0.add hp (by omega) (by omega) (fun _ => hl) (fun _ _ _ _ _ => IOK.fall (by decide))
      have a1 := a0.tr hp.ads
      have c1 : p.2.i 22 = x1 := (hp.2.1 22 (by decide)).trans c0
      refine ok_bind (q_add N _ 30 x2) (fun r hr => ok_some ⟨?_, a1.tr hr.ads, (hr.2.1 22 (by decide)).trans c1⟩)
      have j2 := j1.add hr (by omega) (by omega) (fun _ => hl) (fun nf DT KT qX _ => by
        obtain ⟨-, -, k, k1, k2⟩ := hT ((a1.2.1 32 (by decide) (by decide)).symm.trans nf)
        exact IOK.jmp (by decide) k1 k2 qX)
      exact j2.w (by omega) (Int.le_refl _)
    · have l : x3.toInt < (σ.i 22).toInt := lt_int (Int32.not_le.mp q)
      have l' : x3.toInt < ccI s := by rw [← ecc]; exact l
      have b1 := Int32.toInt_lt (σ.i 22)
      have b2 := Int32.le_toInt x3
      have es : (x3 + 1).toInt = x3.toInt + 1 := by rw [toInt_add] <;> rw [e1] <;> omega
      obtain ⟨n', rfl⟩ : ∃ n', n = n' + 1 := ⟨n - 1, by omega⟩
      refine ok_bind (q_add N _ 0 _) (fun p hp => ?_)
      have j1 := hj.add hp (by omega) (by omega) (fun _ => hl) (fun _ _ _ _ _ => IOK.fall (by decide))
      have a1 := ha.tr hp.ads
      have c1 : p.2.i 22 = s.i 22 := (hp.2.1 22 (by decide)).trans h22
      refine ok_bind (q_add N _ 34 _) (fun r hr => ?_)
      have j2 := j1.add hr (by omega) (by omega) (fun _ => hl) (fun nf DT KT qX _ => by
        have nf' : s.i 32 = 0 := (a1.2.1 32 (by decide) (by decide)).symm.trans nf
        obtain ⟨t1, t2, -⟩ := hT nf'
        have t3 := h3 nf'
        obtain ⟨k, k1, k2⟩ := t2 x3.toInt.toNat (by omega) (by omega)
        have eg : gAt (p.2.a 19) 320 x3 = s.a 19 x3.toInt.toNat := by
          rw [a1.2.2 19 (by decide) (by decide)]
          unfold gAt
          have ib' : ib x3 320 := ⟨by omega, by omega⟩
          rw [if_pos ib']
          have cl := clampI ib'.1
          have ei : x3.toNatClampNeg = x3.toInt.toNat := by omega
          rw [ei]
        rw [eg]
        exact IOK.jmp (by decide) k1 k2 qX)
      have a2 := a1.tr hr.ads
      have c2 : r.2.i 22 = s.i 22 := (hr.2.1 22 (by decide)).trans c1
      refine q_addCsE hx hy hl x1 x2 hT n' r.2 (x3 + 1) (by omega) a2 c2 (fun nf => by have := h3 nf; omega) ?_
      by_cases nf : s.i 32 = 0
      · have t1 := (hT nf).1
        have t2 := h3 nf
        have t3 := z2 nf
        exact ⟨z + 1 + 1, by omega, fun _ => by omega, j2⟩
      · exact ⟨x, by omega, fun w => absurd w nf, JSH.flt j2.1 (fun w => absurd ((a2.2.1 32 (by decide) (by decide)).symm.trans w) nf)⟩
  termination_by n => n
theorem q_addCasesE {N : Nat} {H : HB} (hN : 10000000000 ≤ N) {x y : Int} {c : List Nat} {X : List (Nat × List Nat)} {P : List Nat} {lim : List Int} {s : CS} (hx : x ≤ 5000) (hy : y ≤ 95) (hl : c.length ≤ 21) (h : JSH H x y c c c X P lim s) (x1 x2 : Int32) (hT : s.i 32 = 0 → (0 ≤ x1.toInt ∧ x1.toInt ≤ ccI s ∧ lmh lim ≤ x1.toInt) ∧ (∀ i : Nat, x1.toInt ≤ (i : Int) → (i : Int) < ccI s → ∃ k : Nat, (s.a 19 i).toInt = (k : Int) ∧ (k, c) ∈ X) ∧ ∃ k : Nat, x2.toInt = (k : Int) ∧ (k, c) ∈ X) : ok (f_X0_addCases N s x1 x2) (fun R => JSH H (x + 2) y c c c X P lim R.2 ∧ ADS s R.2 ∧ R.2.i 22 = x1) := by
  unfold f_X0_addCases
  obtain ⟨N', rfl⟩ : ∃ N', N = N' + 1 := ⟨N - 1, by omega⟩
  have b1 := Int32.toInt_lt (s.i 22)
  have b2 := Int32.le_toInt x1
  refine q_addCsE hx hy hl x1 x2 (fun nf => ?_) N' s x1 (by show (s.i 22).toInt - x1.toInt < N'; omega) (ADS.rf s) rfl (fun nf => ⟨Int.le_refl _, (hT nf).1.2.1⟩) ⟨x, by omega, fun _ => by omega, h⟩
  obtain ⟨t1, t2⟩ := hT nf
  refine ⟨⟨t1.1, t1.2.1, t1.2.2, ?_⟩, t2⟩
  have n1 := (h.2.2 ((shs.i s 32 (by decide)).trans nf)).2.2.1
  have cc : ccI (shs s) = ccI s := by unfold ccI; rw [shs.i s 22 (by decide)]
  have pl : plI (shs s) = plI s := by unfold plI; rw [shs.i s 44 (by decide)]
  have a := h.1.2.2.1.2.1
  have b := h.1.2.2.1.1
  have : plI s ≤ 900 := by unfold plI; omega
  omega
/-- targets whose context the rows tell -/
theorem JSH.exts {H : HB} {x y : Int} {cD c d : List Nat} {X : List (Nat × List Nat)} {P : List Nat} {lim : List Int} {s : CS} (h : JSH H x y cD c d X P lim s) (b : List Nat) : ∀ (L : List Int32), (s.i 32 = 0 → ∀ (DT : Nat → List Nat) (KT : Nat → Prop), (∀ n : Nat, (n : Int) = cnI s → RCH (shs s) DT KT n c lim) → ∀ t ∈ L, TTc (tcI s) DT KT t b) → JSH H x y cD c d (L.map (fun t => (t.toInt.toNat, b)) ++ X) P lim s
  | [], _ => h
  | t :: L, hT => by
    have ih := h.exts b L (fun q DT KT qR u hu => hT q DT KT qR u (List.mem_cons_of_mem _ hu))
    exact ⟨h.1, ih.2.ext t b (fun q DT KT _ qR => by
      have := hT ((shs.i s 32 (by decide)).symm.trans q) DT KT qR t (List.mem_cons_self ..)
      exact this)⟩
theorem AIM.kp {s R : CS} {t : Int32} (h : AIM s R t) (h0 : 0 ≤ szI s) {k : Nat} (hk : ¬ (s.a 17 k).toInt = -1) : ¬ (R.a 17 k).toInt = -1 := by
  rw [h.2.2.2]
  unfold gPut
  have : 0 ≤ (s.i 20).toInt := h0
  by_cases c : ib t 1024
  · rw [if_pos c]
    show ¬ (if k = t.toNatClampNeg then s.i 20 else s.a 17 k).toInt = -1
    by_cases e : k = t.toNatClampNeg
    · rw [if_pos e]; omega
    · rw [if_neg e]; exact hk
  · rw [if_neg c]; exact hk
end
section
/-! the class's reading: a switch ends, whole -/
theorem RCH.ge {s : CS} {DT : Nat → List Nat} {KT : Nat → Prop} : ∀ (n : Nat) (c : List Nat) (lim : List Int), RCH s DT KT n c lim → ∃ (l : Int) (T : List Int), lim = l :: T ∧ 0 ≤ l ∧ ∀ v ∈ T, 0 ≤ v ∧ v ≤ l
  | 0, _, _, ⟨_, l, e, h⟩ => ⟨l, [], e, h, fun v hv => absurd hv (List.not_mem_nil)⟩
  | n + 1, c, lim, ⟨a, c0, lim', _, _, r, hr⟩ => by
    obtain ⟨l, T, e, h0, hT⟩ := RCH.ge n c0 lim' hr
    have same : lim' = lim → ∃ (l : Int) (T : List Int), lim = l :: T ∧ 0 ≤ l ∧ ∀ v ∈ T, 0 ≤ v ∧ v ≤ l := fun q => ⟨l, T, q.symm.trans e, h0, hT⟩
    obtain ⟨-, -, r3⟩ := r
    rcases r3 with ⟨z1, z2, e⟩ | ⟨z1, z2, z3, w⟩ | ⟨z1, z2, z3, e⟩ | ⟨z1, z2, z3, e⟩ | ⟨z1, z2, z3, z4, e⟩ | ⟨z1, z2, z3, z4, z5, e⟩ | ⟨z1, z2, z3, z4, z5, w⟩ | ⟨z1, z2, z3, e⟩ | ⟨z1, z2, z3, z4, z5, e⟩ | ⟨z1, z2, z3, z4, z5, e⟩ | ⟨z1, z2, z3, z4, e⟩ | ⟨z1, z2, z3, e⟩
    · exact same e
    · obtain ⟨v, v1, v2⟩ := w
      have v2' : l ≤ v := by rw [e] at v2; exact v2
      refine ⟨v, v :: lim', v1, by omega, fun u hu => ?_⟩
      rcases List.mem_cons.mp hu with q | q
      · omega
      · rw [e] at q
        rcases List.mem_cons.mp q with q | q
        · omega
        · have := hT u q; omega
    · exact same e
    · exact same e
    · exact same e
    · exact same e
    · obtain ⟨l2, T2, w1, w2, w3, -⟩ := w
      rw [e] at w2
      have q := List.cons.inj w2
      refine ⟨l2, T2, w1, by omega, fun u hu => ?_⟩
      rw [← q.2] at hu
      have := hT u hu
      omega
    · exact same e
    · exact same e
    · exact same e
    · exact same e
    · exact same e
theorem ADS.tle {s R : CS} (h : ADS s R) : TLE s R := ⟨⟨h.1.2.2.2.2.2.2.1, h.1.2.2.2.1, h.1.2.2.2.2.1⟩, ⟨h.2.2 18 (by decide) (by decide), h.2.2 19 (by decide) (by decide), h.2.2 49 (by decide) (by decide)⟩, h.2.1 32 (by decide) (by decide), h.2.1 34 (by decide) (by decide), h.2.1 43 (by decide) (by decide), h.2.1 44 (by decide) (by decide), h.2.1 53 (by decide) (by decide), h.2.1 56 (by decide) (by decide)⟩
theorem q_endSw {N : Nat} {H : HB} (hN : 10000000000 ≤ N) {x y : Int} {c : List Nat} {X : List (Nat × List Nat)} {P : List Nat} {T : List Int} {σ : CS} {a m : Nat} {s' s : CS} (hx : x ≤ 4000) (hy : y ≤ 90) (hσ : JJ H (x + 100) y c X P (ccI σ :: T) σ) (ht : TUR σ a m) (hs : σ.o a 0 = 218) (h : ECL H x y c X P T σ a m s' s) : ok (f_X7_endSwitch N s a) (fun R => TNQ H (x - 20) y X P T σ R.2 ∧ (R.2.i 32 = 0 → cnI R.2 = (m : Int))) := by
  obtain ⟨nf, hm, ea, nr, m4⟩ := (show TUR σ a m from ht)
  have nb := (hσ.2 nf).2
  have em : (cnI σ).toNat = m + 1 := by omega
  have sg := nb.2.2.2.2.2.2.1
  rw [em] at sg
  have ds := hσ.ds nf
  have n3 := nb.2.1
  -- the row as it stands
  obtain ⟨x2, hx2⟩ : ∃ x2 : Int32, x2 = if σ.o a 11 < 0 then σ.o a 9 else σ.o a 11 := ⟨_, rfl⟩
  obtain ⟨L, hL⟩ : ∃ L : List Int32, L = σ.o a 9 :: σ.o a 10 :: x2 :: ((List.range 320).filter (fun i : Nat => decide ((σ.o a 13).toInt ≤ (i : Int) ∧ (i : Int) < ccI σ))).map (fun i : Nat => s.a 19 i) := ⟨_, rfl⟩
  have e0 : (0 : Int32).toInt = 0 := by decide
  have a19 : s.i 32 = 0 → ∀ i : Nat, (i : Int) < ccI σ → s.a 19 i = σ.a 19 i := fun z i hi => by
    have w := h.2.2 z
    rw [w.2.1.2.1.2.1]
    exact (w.1.2.2.2.2.2.2.1 i hi).2
  have roww : ∀ (u : CS) (DT : Nat → List Nat) (KT : Nat → Prop), u.o = σ.o → u.r 51 m = some a → RCH u DT KT (m + 1) c (ccI σ :: T) → (TTc (tcI u) DT KT (σ.o a 9) c ∧ TTc (tcI u) DT KT (σ.o a 10) c ∧ TTc (tcI u) DT KT x2 c) ∧ (0 ≤ (σ.o a 13).toInt ∧ (σ.o a 13).toInt ≤ ccI σ) ∧ ∀ i : Nat, (σ.o a 13).toInt ≤ (i : Int) → (i : Int) < ccI σ → TTc (tcI u) DT KT (u.a 19 i) c := fun u DT KT uo ur q => by
    obtain ⟨a', c0, L0, q1, -, r, q4⟩ := q
    have ea' : a' = a := Option.some.inj (q1.symm.trans ur)
    rw [ea'] at r
    have so : u.o a 0 = 218 := by rw [uo]; exact hs
    obtain ⟨w1, w2, w3, w4, l, T0, w5, w6, w7, w8⟩ := r.sw so
    rw [w1]
    rw [uo] at w2 w3 w4 w6 w7 w8
    have e := List.cons.inj w5
    rw [← e.1] at w7 w8
    obtain ⟨l2, T2, g1, g2, -⟩ := RCH.ge m c0 L0 q4
    rw [w6] at g1
    have g3 := (List.cons.inj g1).1
    refine ⟨⟨w2, w3, ?_⟩, ⟨by omega, w7⟩, w8⟩
    rw [hx2]
    by_cases z : σ.o a 11 < 0
    · rw [if_pos z]; exact w2
    · rw [if_neg z]
      have := le_int (Int32.not_lt.mp z)
      rw [e0] at this
      exact w4.resolve_left (by omega)
  obtain ⟨D0, DT0, KT0, -, -, -, -, -, ⟨k0, k1, k2, k3⟩, -⟩ := (hσ.2 nf).1
  have ek : k0 = m + 1 := by omega
  rw [ek] at k3
  obtain ⟨⟨f9, f10, f2⟩, f13, f19⟩ := roww σ DT0 KT0 rfl ea k3
  have cS : cnI (shs s) = cnI s := by unfold cnI; rw [shs.i s 53 (by decide)]
  have tS : tcI (shs s) = tcI s := by unfold tcI; rw [shs.i s 21 (by decide)]
  have h1 : JSH H x y c c c (L.map (fun t => (t.toInt.toNat, c)) ++ X) P (ccI σ :: T) s := h.1.exts c L (fun z DT KT qR t hu => by
    have w := h.2.2 z
    have q := roww (shs s) DT KT (h.o z) h.2.1 (qR (m + 1) (by have := w.2.2.2.2.2.2; omega))
    rw [tS] at q
    rw [hL] at hu
    rcases List.mem_cons.mp hu with e | hu
    · rw [e]; exact q.1.1
    rcases List.mem_cons.mp hu with e | hu
    · rw [e]; exact q.1.2.1
    rcases List.mem_cons.mp hu with e | hu
    · rw [e]; exact q.1.2.2
    obtain ⟨i, i1, i2⟩ := List.mem_map.mp hu
    have i3 := of_decide_eq_true (List.mem_filter.mp i1).2
    rw [← i2]
    exact q.2.2 i i3.1 i3.2)
  have hX : ∀ q ∈ X, q ∈ L.map (fun t => (t.toInt.toNat, c)) ++ X := fun q hq => List.mem_append_right _ hq
  have inL : ∀ t ∈ L, (t.toInt.toNat, c) ∈ L.map (fun t => (t.toInt.toNat, c)) ++ X := fun t q => List.mem_append_left _ (List.mem_map.mpr ⟨t, q, rfl⟩)
  have in9 := inL (σ.o a 9) (by rw [hL]; exact List.mem_cons_self ..)
  have in10 := inL (σ.o a 10) (by rw [hL]; exact List.mem_cons_of_mem _ (List.mem_cons_self ..))
  have in2 := inL x2 (by rw [hL]; exact List.mem_cons_of_mem _ (List.mem_cons_of_mem _ (List.mem_cons_self ..)))
  have cc300 : ccI σ ≤ 300 := by
    have a := hσ.1.2.2.1.2.1
    have b := hσ.1.2.2.1.1
    have : plI σ ≤ 900 := by unfold plI; omega
    omega
  have in19 : s.i 32 = 0 → ∀ i : Nat, (σ.o a 13).toInt ≤ (i : Int) → (i : Int) < ccI σ → ∃ k : Nat, (s.a 19 i).toInt = (k : Int) ∧ (k, c) ∈ L.map (fun t => (t.toInt.toNat, c)) ++ X := fun z i i1 i2 => by
    refine ⟨(s.a 19 i).toInt.toNat, ?_, inL _ ?_⟩
    · rw [a19 z i i2]
      have := (f19 i i1 i2).1
      omega
    · rw [hL]
      refine List.mem_cons_of_mem _ (List.mem_cons_of_mem _ (List.mem_cons_of_mem _ (List.mem_map.mpr ⟨i, List.mem_filter.mpr ⟨List.mem_range.mpr (by omega), decide_eq_true ⟨i1, i2⟩⟩, rfl⟩)))
  have ccS : s.i 32 = 0 → ccI s = ccI σ := fun z => by unfold ccI; rw [(h.2.2 z).2.2.2.1]
  have h2 : JSH H x y c c c (L.map (fun t => (t.toInt.toNat, c)) ++ X) P ((σ.o a 13).toInt :: T) s := ⟨h1.1, by
    have nz : (shs s).i 32 = 0 → s.i 32 = 0 := fun q => (shs.i s 32 (by decide)).symm.trans q
    refine h1.2.lims (a := a) (m := m) h.2.1 (fun q => by rw [cS]; exact (h.2.2 (nz q)).2.2.2.2.2.2) (fun q => ?_) (fun q => ⟨?_, ?_⟩) (fun q i i1 i2 => by omega)
    · show s.o a 0 = 218
      rw [h.o (nz q)]; exact hs
    · show (s.o a 13).toInt ≤ _
      rw [h.o (nz q)]; exact Int.le_refl _
    · have : ccI (shs s) = ccI s := by unfold ccI; rw [shs.i s 22 (by decide)]
      rw [this, ccS (nz q)]; exact f13.2⟩
  generalize L.map (fun t => (t.toInt.toNat, c)) ++ X = X1 at *
  have tcb : s.i 32 = 0 → tcI s ≤ 1010 := fun z => by
    have w := h.1.2.2 ((shs.i s 32 (by decide)).trans z)
    have := (w.2.sz h.1.2.1.2.2.1 h.1.2.1.2.2.2.2.2.2.1.1 (by omega) (by omega)).2
    rw [tS] at this
    exact this
  have g9 : (σ.o a 9).toInt = ((σ.o a 9).toInt.toNat : Int) := by have := f9.1; omega
  have g10 : (σ.o a 10).toInt = ((σ.o a 10).toInt.toNat : Int) := by have := f10.1; omega
  have g2 : x2.toInt = (x2.toInt.toNat : Int) := by have := f2.1; omega
  unfold f_X7_endSwitch
  refine ok_chk (h.1.1.1.2.1 m a m4 h.2.1) ?_
  refine ok_bind (q_add N s 30 (s.o a 9)) (fun p ha => ?_)
  have j1 := h2.add (c1 := c) ha (by omega) (by omega) (fun _ => ds.2) (fun z DT KT qX _ => by
    rw [h.o z]
    exact IOK.jmp (by decide) g9 in9 qX)
  have po : p.2.o = s.o := ha.1.2.2.2.1
  have pr : p.2.r 51 m = some a := by rw [ha.1.2.2.2.2.2.2.1]; exact h.2.1
  have p32 := ha.f32.1
  refine ok_chk (j1.1.1.2.1 m a m4 pr) ?_
  refine ok_bind (q_aim N p.2 (p.2.o a 10)) (fun q hq => ?_)
  have j2 : JSH H (x + 1) y c c c X1 P ((σ.o a 13).toInt :: T) q.2 := j1.aim hq (by omega) (by omega) (fun z DT KT qX _ => by
    rw [po, h.o (p32.symm.trans z)]
    have w := TTc.x qX g10 in10
    exact ⟨w.1, w.2.1, w.2.2.1⟩) (fun _ k hk => Or.inl hk)
  have qo : q.2.o = s.o := hq.1.2.2.2.1.trans po
  have qr : q.2.r 51 m = some a := by rw [hq.1.2.2.2.2.2.2.1]; exact pr
  have q32 : q.2.i 32 = s.i 32 := hq.f.1.trans p32
  have qtc : tcI q.2 = tcI s := by unfold tcI; rw [hq.2.1, ha.2.1 21 (by decide)]
  have qcc : ccI q.2 = ccI s := by unfold ccI; rw [hq.2.1, ha.2.1 22 (by decide)]
  have qtl : TLE s q.2 := ha.tle.tr hq.tle
  have sz0 : ∀ u : CS, (∃ z : Int, JSH H z y c c c X1 P ((σ.o a 13).toInt :: T) u) → u.i 32 = 0 → 0 ≤ szI u := fun u ju z => by
    obtain ⟨_, ju⟩ := ju
    have w := (ju.2.2 ((shs.i u 32 (by decide)).trans z)).1.tc0.2
    exact w
  refine ok_chk (j2.1.1.2.1 m a m4 qr) ?_
  have body : ∀ v : Int32, (q.2.i 32 = 0 → v.toInt = (x2.toInt.toNat : Int)) → ok ((f_X0_addCases N q.2 (q.2.o a 13) v).bind fun p13 => f_X7_endSwitch_53 N p13.2 a) (fun R => TNQ H (x - 20) y X P T σ R.2 ∧ (R.2.i 32 = 0 → cnI R.2 = (m : Int))) := fun v hv => by
    refine ok_bind (q_addCasesE hN (by omega) (by omega) ds.2 j2 _ v (fun z => ?_)) (fun r hr => ?_)
    · have z' := q32.symm.trans z
      rw [qo, h.o z', qcc, ccS z', qtl.2.1.2.1]
      exact ⟨⟨f13.1, f13.2, Int.le_refl _⟩, in19 z', x2.toInt.toNat, hv z, in2⟩
    obtain ⟨j3, ad, e22⟩ := hr
    have ro : r.2.o = s.o := ad.1.2.2.2.1.trans qo
    have rr : r.2.r 51 m = some a := by rw [ad.1.2.2.2.2.2.2.1]; exact qr
    have r32 : r.2.i 32 = s.i 32 := (ad.2.1 32 (by decide) (by decide)).trans q32
    unfold f_X7_endSwitch_53
    refine ok_chk (j3.1.1.2.1 m a m4 rr) ?_
    refine ok_bind (q_aim N r.2 (r.2.o a 9)) (fun f hf => ?_)
    have j4 : JSH H (x + 1 + 2) y c c c X1 P ((σ.o a 13).toInt :: T) f.2 := j3.aim hf (by omega) (by omega) (fun z DT KT qX _ => by
      rw [ro, h.o (r32.symm.trans z)]
      have w := TTc.x qX g9 in9
      exact ⟨w.1, w.2.1, w.2.2.1⟩) (fun _ k hk => Or.inl hk)
    have fo : f.2.o = s.o := hf.1.2.2.2.1.trans ro
    have fr : f.2.r 51 m = some a := by rw [hf.1.2.2.2.2.2.2.1]; exact rr
    have f32 : f.2.i 32 = s.i 32 := hf.f.1.trans r32
    have fin : ∀ u : CS, IRR f.2 u → ok (f_X7_endSwitch_99 N u) (fun R => TNQ H (x - 20) y X P T σ R.2 ∧ (R.2.i 32 = 0 → cnI R.2 = (m : Int))) := fun u hu => by
      unfold f_X7_endSwitch_99
      have uo : u.o = s.o := hu.1.2.2.2.1.trans fo
      have u22 : u.i 22 = q.2.o a 13 := (hu.2.1 22 (by unfold IRJ; omega)).trans (by rw [hf.2.1]; exact e22)
      refine ok_imp (q_popE (p := 1) (g := 0) (s' := s') (T := T) (j4.irr hu) ht (by unfold sgn; rw [hs]; rfl) (by rw [hs]; decide) (by rw [hu.1.2.2.2.2.2.2.1]; exact fr) (Or.inr ⟨sg, nb.2.2.2.1.2⟩) (fun z => ?_) (by omega) (by omega)) (fun R hR => ⟨⟨hR.1.1, fun v => ?_⟩, hR.2⟩)
      · have z1 := f32.symm.trans (hu.f.1.symm.trans z)
        have w := h.2.2 z1
        have eo := h.o z1
        have ui : ∀ j : Nat, ¬ IRJ j → j ≠ 20 → j ≠ 22 → u.i j = s.i j := fun j j1 j2 j3 => by rw [hu.2.1 j j1, hf.2.1, ad.2.1 j j2 j3, hq.2.1, ha.2.1 j j2]
        have ecc : ccI u = (σ.o a 13).toInt := by unfold ccI; rw [u22, qo, eo]
        have etc : tcI u = tcI s := by unfold tcI; rw [ui 21 (by unfold IRJ; omega) (by decide) (by decide)]
        have zp := p32.trans z1
        have zr := r32.trans z1
        have tb := tcb z1
        have su := sz0 p.2 ⟨_, j1⟩ zp
        have sr := sz0 r.2 ⟨_, j3⟩ zr
        refine ⟨w.1, ((((w.2.1.tr qtl).tr ad.tle).tr hf.tle).tr hu.tle).t2 m, by rw [uo, eo], fun DT KT c0 lim0 r => ?_, Or.inl ?_, fun k k1 k2 k3 => ?_⟩
        · have so : (shs u).o a 0 = 218 := by show u.o a 0 = 218; rw [uo, eo]; exact hs
          obtain ⟨w1, -, -, -, l, T0, w5, w6, -⟩ := r.sw so
          have w6' : lim0 = (u.o a 13).toInt :: T0 := w6
          rw [ecc, w6', uo, eo, (List.cons.inj w5).2]
          exact ⟨w1.symm, rfl⟩
        · have e : nmI u = nmI s := by unfold nmI; rw [ui 50 (by unfold IRJ; omega) (by decide) (by decide)]
          rw [e, uo]; exact w.2.2.2.2.2.1
        · exfalso
          rw [hu.2.2.1 17 (by decide)] at k2
          have k3' : OWS u a k := k3
          unfold OWS at k3'
          rcases k3' with k4 | k4
          · have k5 := k4.2.2.2.2
            rw [uo, ← ro] at k5
            exact hf.at k5.symm (by omega) sr k2
          · have k5 := k4.2
            rw [uo, ← po] at k5
            refine hf.kp sr ?_ k2
            rw [ad.2.2 17 (by decide) (by decide)]
            exact hq.at k5.symm (by omega) su
      · obtain ⟨⟨c', jc⟩, tn⟩ := hR.1.2 v
        exact ⟨⟨c', (jc.sub hX).w (by omega) (Int.le_refl _)⟩, tn⟩
    have s0 := fun u hu => fin _ (IRR.i (R := u) hu 36 0 (by unfold IRJ; omega) (fun _ => Or.inl rfl))
    have s1 := fun u hu => fin _ (IRR.i (R := u) hu 36 1 (by unfold IRJ; omega) (fun _ => Or.inr rfl))
    have cf := j4.1.1.2.1 m a m4 fr
    refine ok_ite (fun _ => ok_chk cf (ok_ite (fun _ => s1 _ (IRR.rf j4.1)) (fun _ => ?_))) (fun _ => s1 _ (IRR.rf j4.1))
    refine ok_bind (q_gone hN cf 0) (fun g hg => ?_)
    rw [hg]
    exact ok_ite (fun _ => s0 _ (IRR.rf j4.1)) (fun _ => s1 _ (IRR.rf j4.1))
  refine ok_ite (fun c1 => body _ (fun z => ?_)) (fun c1 => body _ (fun z => ?_))
  · have z' := q32.symm.trans z
    rw [qo, h.o z'] at c1 ⊢
    rw [if_pos c1] at hx2
    rw [← hx2]; exact g2
  · have z' := q32.symm.trans z
    rw [qo, h.o z'] at c1 ⊢
    rw [if_neg c1] at hx2
    rw [← hx2]; exact g2
end
section
/-! the class's reading: the whole ends -/
theorem tg_at {s : CS} {t : Int32} (h0 : 0 ≤ t.toInt) (h1 : t.toInt < 1024) : tg s t = s.a 17 t.toInt.toNat := by
  unfold tg gAt
  have ib' : ib t 1024 := ⟨h0, by omega⟩
  rw [if_pos ib']
  have cl := clampI ib'.1
  have ei : t.toNatClampNeg = t.toInt.toNat := by omega
  rw [ei]
/-- the code is whole: all that is aimed at is there -/
theorem wtc_of {c : List Nat} {X : List (Nat × List Nat)} {lim : List Int} {s R : CS} {v : Int32} (g : GW c c X [] lim s) (ha : ADD s R 50 v) (hO : ∀ t : Nat, ¬ OWN s t) (hsz : szI s ≤ 200000) (htc : tcI s ≤ 1020) (hl : c.length ≤ 21) : ∃ D, WTC R D := by
  obtain ⟨D, DT, KT, h1, h2, h3, ⟨h4, h5, h6⟩, -⟩ := g
  obtain ⟨-, b11, b12, b13, b14, b15⟩ := ha
  have e1 : (1 : Int32).toInt = 1 := by decide
  have h4' : 0 ≤ (s.i 20).toInt := h4
  have hsz' : (s.i 20).toInt ≤ 200000 := hsz
  have esz : szI R = szI s + 1 := by
    show (R.i 20).toInt = (s.i 20).toInt + 1
    rw [b12, toInt_add] <;> rw [e1] <;> omega
  have a17 : R.a 17 = s.a 17 := b13 17 (by decide) (by decide)
  have etg : ∀ t : Int32, tg R t = tg s t := fun t => by unfold tg; rw [a17]
  -- a target that may be jumped to
  have vt : ∀ (t : Int32) (d : List Nat), TTc (tcI s) DT KT t d → VT R D t d := fun t d w => by
    obtain ⟨w1, w2, w3, w4⟩ := w
    unfold VT VN
    rw [etg, tg_at w1 (by omega)]
    have tt := h2 t.toInt.toNat (by omega)
    rcases tt with tt | tt
    · rcases h3 t.toInt.toNat (by omega) w4 tt with q | q
      · exact absurd q (List.not_mem_nil)
      · exact absurd q (hO _)
    · exact ⟨tt.1, by omega, Or.inr ⟨by omega, by rw [tt.2.2]; exact w3⟩⟩
  have vk : ∀ (t : Int32) (d : List Nat), KTc (tcI s) DT KT t d → 0 ≤ (tg R t).toInt → VT R D t d := fun t d w w0 => by
    obtain ⟨w1, w2, w3, w4⟩ := w
    rw [etg] at w0
    unfold VT VN
    rw [etg]
    rw [tg_at w1 (by omega)] at w0 ⊢
    have tt := h2 t.toInt.toNat (by omega)
    rcases tt with tt | tt
    · omega
    · exact ⟨tt.1, by omega, Or.inr ⟨by omega, by rw [tt.2.2]; exact w3⟩⟩
  refine ⟨D, by omega, h6, fun p p1 p2 => ?_⟩
  by_cases q : (p : Int) = szI s
  · have q' : (p : Int) = (s.i 20).toInt := q
    have eo : R.a 15 p = 50 := by rw [b14]; exact gPut_at q' p1
    have e5 : (50 : Int32).toInt = 50 := by decide
    have ep : p = (szI s).toNat := by omega
    refine ⟨?_, by rw [ep, h5]; exact hl⟩
    unfold INS
    rw [eo, e5]
    exact ⟨fun z => by omega, fun z => by omega, fun z1 z2 => by omega, fun z1 z2 => by omega, fun z => by omega, fun z => by omega, fun z => by omega, fun z => by omega, fun z => by omega, fun z => by omega, fun z => by omega, fun z => by omega, by omega⟩
  · have q1 : (p : Int) ≠ (s.i 20).toInt := q
    have eo : R.a 15 p = s.a 15 p := by rw [b14]; exact gPut_ne q1
    have ex : R.a 16 p = s.a 16 p := by rw [b15]; exact gPut_ne q1
    obtain ⟨ii, il⟩ := h1 p p1 (by omega)
    refine ⟨?_, il⟩
    have nx : ∀ d : List Nat, D (p + 1) = d → VN R D ((p : Int) + 1) d := fun d e => ⟨by omega, by omega, Or.inr ⟨by omega, by
      have : ((p : Int) + 1).toNat = p + 1 := by omega
      rw [this]; exact e⟩⟩
    unfold INS
    rw [eo, ex]
    obtain ⟨i1, i2, i3, i4, i5, i6, i7, i8, i9, i10, i11, i12, i13⟩ := ii
    refine ⟨fun z => nx _ (i1 z), fun z => vt _ _ (i2 z), fun z1 z2 => ⟨vt _ _ (i3 z1 z2).1, nx _ (i3 z1 z2).2⟩, fun z1 z2 => nx _ (i4 z1 z2), fun z => nx _ (i5 z), fun z => nx _ (i6 z), fun z => ⟨nx _ (i7 z).1, vt _ _ (i7 z).2.1, fun w => vk _ _ (i7 z).2.2 w⟩, fun z => ⟨vt _ _ (i8 z).1, nx _ (i8 z).2⟩, i9, i10, fun z => ?_, i12, i13⟩
    obtain ⟨g, g1, g2, g3⟩ := i11 z
    exact ⟨g, g1, g2, vt _ _ g3⟩
theorem q_endRoot {N : Nat} {H : HB} (hN : 1000 ≤ N) {x y : Int} {c : List Nat} {X : List (Nat × List Nat)} {P : List Nat} {T : List Int} {σ : CS} {a m : Nat} (hx : x ≤ 4000) (hy : y ≤ 90) (h : JJ H x y c X P (ccI σ :: T) σ) (ht : TUR σ a m) (hs : σ.o a 0 = 300) : ok (f_X7_endList N σ a) (fun R => TNQ H x y X P T σ R.2 ∧ (R.2.i 32 = 0 → cnI R.2 = (m : Int) ∧ (m = 0 → P = [] → ∃ D, WTC R.2 D))) := by
  obtain ⟨nf, hm, ea, nr, m4⟩ := (show TUR σ a m from ht)
  unfold f_X7_endList
  refine ok_chk (h.1.1.2.1 m a m4 ea) ?_
  rw [if_pos hs]
  refine ok_bind (q_expect hN h.1 0) (fun p hp => ?_)
  have hp' : JJ H x y c X P (ccI σ :: T) p.2 ∧ (p.2.r = σ.r ∧ p.2.o = σ.o) ∧ (p.2.i 32 = 0 → SX 0 0 0 σ p.2) := by
    rcases hp with hf | ⟨q1, q2⟩
    · exact ⟨JJ.flt h.1 hf, ⟨hf.1.2.2.2.2.2.2.2.1, hf.1.2.2.2.1⟩, fun z => absurd z hf.2.2.2.1⟩
    · have mo := q2.mono h.1.2.2.1
      exact ⟨h.adv q2 (fun _ => by omega), ⟨q2.1.1.2.2.2.2.2.2.2.1, q2.1.1.2.2.2.1⟩, fun z => q2.smr.sx nf (by omega)⟩
  obtain ⟨j1, ⟨pr, po⟩, x1⟩ := hp'
  refine ok_ite (fun c1 => ?_) (fun c1 => absurd j1.1.2.2.2.2.2.2.2.2.1 c1)
  have ir := (IRR.rf j1.1).i 27 (p.2.i 36) (by unfold IRJ; omega) (fun _ => c1)
  have j2 := (j1.k.irr ir).j
  generalize CS.setI p.2 27 (p.2.i 36) = W at *
  refine ok_bind (q_add N W 50 0) (fun q ha => ?_)
  have j3 := j2.add ha (by omega) (by omega) (fun _ DT KT _ _ _ => ⟨fun q => absurd q (by decide), fun q => absurd q (by decide), fun _ q => absurd q (by decide), fun _ q => absurd q (by decide), fun q => absurd q (by decide), fun q => absurd q (by decide), fun q => absurd q (by decide), fun q => absurd q (by decide), fun q => absurd q (by decide), fun q => absurd q (by decide), fun q => absurd q (by decide), fun q => absurd q (by decide), by decide⟩)
  have qr : q.2.r = σ.r := ha.1.2.2.2.2.2.2.1.trans (ir.1.2.2.2.2.2.2.1.trans pr)
  have qo : q.2.o = σ.o := ha.1.2.2.2.1.trans (ir.1.2.2.2.1.trans po)
  have q32 : q.2.i 32 = 0 → W.i 32 = 0 ∧ SX 0 0 0 σ q.2 := fun z => by
    have z1 := ha.f32.1.symm.trans z
    have z2 := ir.f.1.symm.trans z1
    exact ⟨z1, (((x1 z2).tr (ir.sx z2)).tr (ha.sx z1)).w (by omega) (by omega) (by omega)⟩
  refine ok_bind (q_popC N j3.1) (fun R hR => ok_some ?_)
  obtain ⟨r1, r2, r3⟩ := hR
  show TNQ H x y X P T σ R.2 ∧ (R.2.i 32 = 0 → cnI R.2 = (m : Int) ∧ (m = 0 → P = [] → ∃ D, WTC R.2 D))
  have hcn : q.2.i 32 = 0 → cnI q.2 = (m : Int) + 1 := fun z => by
    rw [← hm]; unfold cnI; rw [(q32 z).2.2.2.2.1.2.1]
  refine ⟨⟨r1, fun z => ?_⟩, fun z => ?_⟩
  · have zq := r3.symm.trans z
    have cq := hcn zq
    obtain ⟨eR, cR⟩ := r2 (by omega)
    have sx := (q32 zq).2
    have n9 := (j3.2 zq).2.2.2.2.2.2.2.2.2
    have h56 : (q.2.i 56).toInt < (m : Int) := by
      by_cases w : (q.2.i 56).toInt = (m : Int)
      · exfalso
        have e2 := n9.2.2 a (by omega) (by rw [show (q.2.i 56).toInt.toNat = m by omega, qr]; exact ea)
        rw [qo, hs] at e2
        exact absurd e2 (by decide)
      · have := n9.2.1; omega
    have jr := j3.k.pop (cc := c) (ll := ccI σ :: T) zq r1 cq (by rw [qr]; exact ea) eR (by omega) (fun k k1 k2 k3 => by
      exfalso
      unfold OWS at k3
      rw [qo, hs] at k3
      rcases k3 with k3 | k3
      · exact k3.1 rfl
      · exact absurd k3.1 (by decide)) (fun DT KT c0 lim0 z => z.pl (Or.inr (Or.inl (by rw [qo]; exact hs)))) (fun _ _ => Or.inr rfl) h56 (j3.2 zq).1.lim
    have Ri : ∀ j : Nat, j ≠ 53 → R.2.i j = q.2.i j := fun j k1 => by rw [eR, ci_ne _ _ _ k1]
    have ecc : ccI R.2 = ccI σ := by unfold ccI; rw [Ri 22 (by decide), sx.2.2.2.1.2.2.2]
    rw [ecc]
    refine ⟨⟨c, (JK.j jr).w (by omega) (Int.le_refl _)⟩, sx.mid.pop (by omega) (by omega) hm ea nr ?_ (fun j hj => Ri j (by omega)) (by rw [eR, ca_setI]; exact ⟨rfl, rfl, rfl⟩) (fun i _ => ⟨by rw [eR, cr_setI], fun b _ => ⟨by rw [eR, co_setI], by rw [eR, col_setI]⟩⟩) (by omega)⟩
    unfold sgn
    rw [hs]; rfl
  · have zq := r3.symm.trans z
    have cq := hcn zq
    obtain ⟨eR, cR⟩ := r2 (by omega)
    refine ⟨by omega, fun m0 hP => ?_⟩
    have zW := (q32 zq).1
    obtain ⟨gW, nW⟩ := j2.2 zW
    rw [hP] at gW
    have szb := nW.sz j2.1.2.2.1 j2.1.2.2.2.2.2.2.1.1 (by omega) (by omega)
    obtain ⟨D, w⟩ := wtc_of gW ha (fun t ⟨i, b, i1, i2, i3⟩ => by
      have cW : cnI W = (m : Int) + 1 := by rw [← cq]; unfold cnI; rw [ha.2.1 53 (by decide)]
      have Wr : W.r = σ.r := ir.1.2.2.2.2.2.2.1.trans pr
      have Wo : W.o = σ.o := ir.1.2.2.2.1.trans po
      have ei : i = m := by omega
      rw [ei, Wr, ea] at i2
      have eb := Option.some.inj i2
      unfold OWS at i3
      rw [Wo, ← eb, hs] at i3
      rcases i3 with i3 | i3
      · exact i3.1 rfl
      · exact absurd i3.1 (by decide)) szb.1 (by omega) nW.2.2.2.2.2.2.2.1.2
    refine ⟨D, CEQ.wt (s := q.2) ⟨?_, ?_, ?_, ?_⟩ w⟩
    · rw [eR, ca_setI]
    · rw [eR, ca_setI]
    · rw [eR, ca_setI]
    · rw [eR, ci_ne _ _ _ (by decide)]
end
section
/-! the class's reading: an arm ends -/
theorem CBS.s56 {H : HB} {s : CS} (h : CBS H s) (w : Int32) : CBS H (CS.setI s 56 w) := by
  obtain ⟨c1, c2, c3, c4, c5, c6, c7, c8, c9⟩ := h
  refine ⟨c1, c2, c3, c4, ?_, c6, c7, c8, ?_⟩
  · rw [ci_ne _ _ _ (by decide), ci_ne _ _ _ (by decide)]; exact c5
  · rw [ci_ne _ _ _ (by decide), ci_ne _ _ _ (by decide), ci_ne _ _ _ (by decide), ci_ne _ _ _ (by decide)]; exact c9
/-- another arm is the innermost -/
theorem JK.i56 {H : HB} {x y : Int} {cD c d : List Nat} {X : List (Nat × List Nat)} {P : List Nat} {lim : List Int} {s : CS} (h : JK H x y cD c d X P lim s) (w : Int32) (hw : s.i 32 = 0 → -1 ≤ w.toInt ∧ w.toInt < cnI s ∧ ∀ a : Nat, 0 ≤ w.toInt → s.r 51 w.toInt.toNat = some a → s.o a 0 = 302) : JK H x y cD c d X P lim (CS.setI s 56 w) := by
  refine ⟨h.1.s56 w, fun q => ?_⟩
  have yi : ∀ j : Nat, j ≠ 56 → (CS.setI s 56 w).i j = s.i j := fun j hj => ci_ne _ _ _ hj
  have y56 : (CS.setI s 56 w).i 56 = w := ci_at _ _ _
  have q1 := (yi 32 (by decide)).symm.trans q
  obtain ⟨g, n⟩ := h.2 q1
  have hw' := hw q1
  have ra : (CS.setI s 56 w).r = s.r := rfl
  have oa : (CS.setI s 56 w).o = s.o := rfl
  have la : (CS.setI s 56 w).ol = s.ol := rfl
  have aa : (CS.setI s 56 w).a = s.a := rfl
  have hc := h.1
  generalize CS.setI s 56 w = Y at *
  have ck : CK s Y := ⟨⟨⟨by rw [aa], by rw [aa], by rw [aa], by rw [aa], by rw [aa]⟩, ⟨yi 20 (by decide), yi 21 (by decide), yi 50 (by decide), yi 53 (by decide)⟩, by rw [ra], fun b _ => ⟨by rw [oa], by rw [la]⟩⟩, yi 22 (by decide)⟩
  refine ⟨g.ck hc.1 ck, ?_⟩
  have nr := hc.2.2.2.2.2.2.1.2.2
  have rq : RSQ s Y (cnI s).toNat := fun i _ => ⟨by rw [ra], fun b _ => ⟨by rw [oa], by rw [la]⟩⟩
  obtain ⟨i1, i2, i3, i4, i5⟩ := rq.sums nr
  have ecn : cnI Y = cnI s := by unfold cnI; rw [yi 53 (by decide)]
  have etc : tcI Y = tcI s := by unfold tcI; rw [yi 21 (by decide)]
  have ecc : ccI Y = ccI s := by unfold ccI; rw [yi 22 (by decide)]
  have esz : szI Y = szI s := by unfold szI; rw [yi 20 (by decide)]
  have esg : sgI Y = sgI s := by unfold sgI; rw [yi 34 (by decide)]
  have eds : dsI Y = dsI s := by unfold dsI; rw [yi 38 (by decide)]
  have epl : plI Y = plI s := by unfold plI; rw [yi 44 (by decide)]
  have ee : eI Y = eI s := by unfold eI; rw [epl, yi 43 (by decide)]
  obtain ⟨c1, c2, c3, c4, c5, c6, c7, c8, c9⟩ := n
  exact ⟨by omega, by omega, by omega, by omega, by rw [ecn]; exact c5.of rq nr, by rw [ecn, i1, ee]; exact c6, by rw [ecn, i2, esg]; exact c7, by rw [eds]; exact c8, by rw [y56, ecn, ra, oa]; exact hw'⟩
/-- what the end of an arm leaves -/
def ARE (m : Nat) (v : Int32) (s R : CS) : Prop := s.i 32 = 0 ∧ (plI s + 1 ≤ plI R ∧ eI s ≤ eI R) ∧ (sgI R = sgI s - 1 ∧ cnI R = (m : Int)) ∧ RSQ s R m ∧ (∀ n : Nat, (n : Int) < nmI s → R.a 49 n = s.a 49 n) ∧ (∀ i : Nat, (i : Int) < ccI s → R.a 18 i = s.a 18 i ∧ R.a 19 i = s.a 19 i) ∧ R.i 22 = s.i 22 ∧ R.i 38 = s.i 38 ∧ R.i 50 = v ∧ R.o = s.o
theorem ROW1.arm {s : CS} {DT : Nat → List Nat} {KT : Nat → Prop} {a : Nat} {c0 c : List Nat} {lim lim' : List Int} (r : ROW1 s DT KT a c0 c lim lim') (hs : s.o a 0 = 302) : c = c0 ∧ ∃ v : Int, lim = v :: v :: lim' ∧ lmh lim' ≤ v := by
  obtain ⟨r1, r2, r3⟩ := r
  have no : ∀ w : Int32, s.o a 0 = w → ¬ w = 302 → c = c0 ∧ ∃ v : Int, lim = v :: v :: lim' ∧ lmh lim' ≤ v := fun w e n => absurd (e.symm.trans hs) n
  rcases r3 with ⟨z1, z2, e⟩ | ⟨z1, z2, z3, z4⟩ | ⟨z1, z2, z3, e⟩ | ⟨z1, z2, z3, e⟩ | ⟨z1, z2, z3, z4, e⟩ | ⟨z1, z2, z3, z4, z5, e⟩ | ⟨z1, z2, z3, z4, z5, z6⟩ | ⟨z1, z2, z3, e⟩ | ⟨z1, z2, z3, z4, z5, e⟩ | ⟨z1, z2, z3, z4, z5, e⟩ | ⟨z1, z2, z3, z4, e⟩ | ⟨z1, z2, z3, e⟩
  · rcases z1 with z1 | z1
    · exact no _ z1 (by decide)
    · exact no _ z1 (by decide)
  · exact ⟨z2, z4⟩
  · exact no _ z1 (by decide)
  · rcases z1 with z1 | z1
    · exact no _ z1 (by decide)
    · exact no _ z1 (by decide)
  · rcases z1 with z1 | z1 | z1
    · exact no _ z1 (by decide)
    · exact no _ z1 (by decide)
    · exact no _ z1 (by decide)
  · exact no _ z1 (by decide)
  · exact no _ z1 (by decide)
  · exact no _ z1 (by decide)
  · exact no _ z1 (by decide)
  · exact no _ z1 (by decide)
  · exact no _ z1 (by decide)
  · exact no _ z1 (by decide)
theorem q_popArm {N : Nat} {H : HB} {x y : Int} {c : List Nat} {X : List (Nat × List Nat)} {P : List Nat} {T : List Int} {σ : CS} {a m : Nat} {s' s : CS} (hσ : JJ H (x + 100) y c X P (ccI σ :: T) σ) (ht : TUR σ a m) (hs : σ.o a 0 = 302) (w : Int32) (hw : -1 ≤ w.toInt ∧ w.toInt < (m : Int) ∧ ∀ b : Nat, 0 ≤ w.toInt → σ.r 51 w.toInt.toNat = some b → σ.o b 0 = 302) (h : ECL H x y c X P T σ a m s' s) : ok ((f_X6_pop N s).bind fun p27 => some ((), p27.2)) (fun R => CBS H R.2 ∧ (R.2.i 32 = 0 → ∃ lim' : List Int, T = ccI σ :: lim' ∧ JJ H (x - 50) y c X P lim' (CS.setI R.2 56 w) ∧ ARE m (σ.o a 3) σ R.2)) := by
  obtain ⟨nf, hm, eaσ, nr, m4⟩ := (show TUR σ a m from ht)
  obtain ⟨DT0, KT0, c0, lim0, r0⟩ := hσ.row ht
  obtain ⟨ec, v0, ev, lv⟩ := r0.arm hs
  have ev1 : ccI σ = v0 := (List.cons.inj ev).1
  have ev2 : T = v0 :: lim0 := (List.cons.inj ev).2
  refine ok_bind (q_popC N h.1.1) (fun R hR => ok_some ?_)
  obtain ⟨r1, r2, r3⟩ := hR
  show CBS H R.2 ∧ (R.2.i 32 = 0 → ∃ lim' : List Int, T = ccI σ :: lim' ∧ JJ H (x - 50) y c X P lim' (CS.setI R.2 56 w) ∧ ARE m (σ.o a 3) σ R.2)
  refine ⟨r1, fun q => ⟨lim0, by rw [ev1]; exact ev2, ?_⟩⟩
  have qs := r3.symm.trans q
  obtain ⟨md, tl, ⟨sr, so, sl⟩, e22, e38, e50, cs⟩ := h.2.2 qs
  have eo := h.o qs
  obtain ⟨eR, cR⟩ := r2 (by omega)
  have qS := (shs.i s 32 (by decide)).trans qs
  have cS : cnI (shs s) = cnI s := by unfold cnI; rw [shs.i s 53 (by decide)]
  have sR0 : s.r = σ.r := tl.1.1.trans sr
  have jV := h.1.2.i56 w (fun _ => ⟨hw.1, by rw [cS]; omega, fun b b0 eb => by
    have eb' : s.r 51 w.toInt.toNat = some b := eb
    rw [sR0] at eb'
    show s.o b 0 = 302
    rw [eo]
    exact hw.2.2 b b0 eb'⟩)
  have eV : CS.setI (CS.setI (shs s) 56 w) 53 ((CS.setI (shs s) 56 w).i 53 - 1) = shs (CS.setI R.2 56 w) := by
    have e53 : (CS.setI (shs s) 56 w).i 53 = s.i 53 := (ci_ne _ _ _ (by decide)).trans (shs.i s 53 (by decide))
    rw [e53, eR]
    unfold shs
    rw [setI.cm (CS.setI s 34 20) 56 53 w _ (by decide), setI.cm s 34 53 20 _ (by decide), setI.cm (CS.setI s 53 (s.i 53 - 1)) 34 56 20 w (by decide)]
  have qV : (CS.setI (shs s) 56 w).i 32 = 0 := (ci_ne _ _ _ (by decide)).trans qS
  have cV : cnI (CS.setI (shs s) 56 w) = (m : Int) + 1 := by
    rw [← cs, ← cS]; unfold cnI; rw [ci_ne _ _ _ (by decide)]
  have cR' : cnI (shs (CS.setI R.2 56 w)) = (m : Int) := by
    unfold cnI at cR cs ⊢
    rw [shs.i _ 53 (by decide), ci_ne _ _ _ (by decide)]
    omega
  have ccV : ccI (CS.setI (shs s) 56 w) = ccI σ := by unfold ccI; rw [ci_ne _ _ _ (by decide), shs.i s 22 (by decide), e22]
  have jr := jV.pop (R := shs (CS.setI R.2 56 w)) (cc := c) (ll := lim0) qV (by have := (r1.s56 w).s34 20; exact this) cV (by show s.r 51 m = some a; exact h.2.1) eV.symm cR' (fun k k1 k2 k3 => by
    exfalso
    have k3' : OWS s a k := k3
    unfold OWS at k3'
    rw [eo, hs] at k3'
    rcases k3' with k4 | k4
    · exact k4.2.2.1 rfl
    · exact absurd k4.1 (by decide)) (fun DT KT c0' L0 r => by
    have so' : (CS.setI (shs s) 56 w).o a 0 = 302 := by show s.o a 0 = 302; rw [eo]; exact hs
    obtain ⟨w1, v1, w2, -⟩ := r.arm so'
    refine ⟨w1.symm, ?_⟩
    have w3 := (List.cons.inj w2).2
    rw [ev2] at w3
    exact (List.cons.inj w3).2.symm) (fun _ _ => Or.inr rfl) (by
    rw [show (CS.setI (shs s) 56 w).i 56 = w from ci_at _ _ _]; exact hw.2.1) (by rw [ccV, ev1]; exact lv)
  have Ri : ∀ j : Nat, j ≠ 53 → R.2.i j = s.i j := fun j k1 => by rw [eR, ci_ne _ _ _ k1]
  have rqm : RSQ σ R.2 m := by
    have a9 := md.2.2.2.2.1
    rw [show (cnI σ).toNat - 1 = m by omega] at a9
    exact (a9.tr (tl.t2 m).1.2).tr (fun i _ => ⟨by rw [eR, cr_setI], fun b _ => ⟨by rw [eR, co_setI], by rw [eR, col_setI]⟩⟩)
  have sgR : sgI R.2 = sgI σ - 1 := by
    have := md.2.2.1
    have e : sgI R.2 = sgI s' := by unfold sgI; rw [Ri 34 (by decide), tl.2.2.2.1]
    omega
  refine ⟨JK.j (JSH.un ⟨r1.s56 w, jr⟩ (fun _ => ?_)), nf, ?_, ⟨sgR, by omega⟩, rqm, fun n hn => ?_, fun i hi => ?_, ?_, ?_, ?_, by rw [eR, co_setI, eo]⟩
  · have cR2 : cnI (CS.setI R.2 56 w) = (m : Int) := by unfold cnI at *; rw [ci_ne _ _ _ (by decide)]; omega
    have sg2 : sgI (CS.setI R.2 56 w) = sgI R.2 := by unfold sgI; rw [ci_ne _ _ _ (by decide)]
    have rq2 : RSQ σ (CS.setI R.2 56 w) m := rqm.tr (fun i _ => ⟨by rw [cr_setI], fun b _ => ⟨by rw [co_setI], by rw [col_setI]⟩⟩)
    have i2 := (rq2.sums (fun i hi => nr i (by omega))).2.1
    have nb := (hσ.2 nf).2
    have n7 := nb.2.2.2.2.2.2.1
    rw [show (cnI σ).toNat = m + 1 by omega] at n7
    have sw : SGS σ (m + 1) = SGS σ m + sgn σ a := by
      show SGS σ m + sgn σ (rowA σ m) = _
      rw [rowA.of eaσ]
    have s2 : sgn σ a = 2 := by unfold sgn; rw [hs]; rfl
    have bas := (BAS (s := σ) m).2.2.2.1
    have n4 := nb.2.2.2.1.2
    rw [cR2, sg2, sgR, show ((m : Int)).toNat = m by omega, i2]
    omega
  · have epl : plI R.2 = plI s' := by unfold plI; rw [Ri 44 (by decide), tl.2.2.2.2.2.1]
    have ee : eI R.2 = eI s' := by unfold eI; rw [epl, Ri 43 (by decide), tl.2.2.2.2.1]
    have := md.2.1
    omega
  · rw [eR, ca_setI, tl.2.1.2.2]; exact md.2.2.2.2.2.1 n hn
  · rw [eR, ca_setI, tl.2.1.1, tl.2.1.2.1]; exact md.2.2.2.2.2.2.1 i hi
  · rw [Ri 22 (by decide), e22]
  · rw [Ri 38 (by decide), e38]
  · have : (R.2.i 50).toInt = (σ.o a 3).toInt := by
      rw [Ri 50 (by decide), ← eo]; exact e50
    exact Int32.toInt_inj.mp this
end
section
/-! the class's reading: what holds many ends -/
noncomputable def kEL (N : Nat) (x1 : Nat) (s : CS) : Option (Unit × CS) :=
  if (CS.o s x1 0) = 212 then (f_X7_endLock N s x1).bind fun p10 => some ((), p10.2) else (if (CS.o s x1 0) = 213 then (f_X7_endGuarded N s x1).bind fun p15 => some ((), p15.2) else (if (CS.o s x1 0) = 214 then (f_X6_pop N s).bind fun p20 => some ((), p20.2) else (if (CS.o s x1 0) = 215 then (f_X7_endGuarded N s x1).bind fun p25 => some ((), p25.2) else (if (CS.o s x1 0) = 216 then (f_X7_endFinally N s x1).bind fun p30 => some ((), p30.2) else (if (CS.o s x1 0) = 217 then (f_X6_pop N s).bind fun p35 => some ((), p35.2) else (if (CS.o s x1 0) = 218 then (f_X7_endSwitch N s x1).bind fun p40 => some ((), p40.2) else (f_X6_pop N s).bind fun p44 => some ((), p44.2)))))))
theorem kEL.eq (N : Nat) (σ : CS) (a : Nat) : f_X7_endList_72 N σ a = (f_X1_close N σ 125).bind fun p4 => if oK p4.2 a 0 then kEL N a (CS.setI p4.2 50 (CS.o p4.2 a 3)) else none := rfl
/-- with a fault, a row with braces still ends -/
def isL1 (v : Int32) : Prop := v = 301 ∨ v = 212 ∨ v = 213 ∨ v = 215 ∨ v = 216 ∨ v = 218
theorem ROW1.srt {s : CS} {DT : Nat → List Nat} {KT : Nat → Prop} {a : Nat} {c0 c : List Nat} {lim lim' : List Int} (r : ROW1 s DT KT a c0 c lim lim') : isB1 (s.o a 0) ∨ isL1 (s.o a 0) ∨ s.o a 0 = 300 ∨ s.o a 0 = 302 ∨ s.o a 0 = 305 := by
  obtain ⟨r1, r2, r3⟩ := r
  unfold isB1 isL1
  rcases r3 with ⟨z1, z2, e⟩ | ⟨z1, z2, z3, z4⟩ | ⟨z1, z2, z3, e⟩ | ⟨z1, z2, z3, e⟩ | ⟨z1, z2, z3, z4, e⟩ | ⟨z1, z2, z3, z4, z5, e⟩ | ⟨z1, z2, z3, z4, z5, z6⟩ | ⟨z1, z2, z3, e⟩ | ⟨z1, z2, z3, z4, z5, e⟩ | ⟨z1, z2, z3, z4, z5, e⟩ | ⟨z1, z2, z3, z4, e⟩ | ⟨z1, z2, z3, e⟩
  · rcases z1 with z1 | z1 <;> rw [z1] <;> decide
  · rw [z1]; decide
  · rw [z1]; decide
  · rcases z1 with z1 | z1 <;> rw [z1] <;> decide
  · rcases z1 with z1 | z1 | z1 <;> rw [z1] <;> decide
  · rw [z1]; decide
  · rw [z1]; decide
  · rw [z1]; decide
  · rw [z1]; decide
  · rw [z1]; decide
  · rw [z1]; decide
  · rw [z1]; decide
theorem sg_one {H : HB} {x y : Int} {c : List Nat} {X : List (Nat × List Nat)} {P : List Nat} {lim : List Int} {σ : CS} {a m : Nat} (h : JJ H x y c X P lim σ) (ht : TUR σ a m) (hs : isL1 (σ.o a 0) ∨ σ.o a 0 = 302) : 1 ≤ sgI σ := by
  obtain ⟨nf, hm, ea, nr, m4⟩ := ht
  have n7 := (h.2 nf).2.2.2.2.2.2.2.1
  rw [show (cnI σ).toNat = m + 1 by omega] at n7
  have sw : SGS σ (m + 1) = SGS σ m + sgn σ a := by
    show SGS σ m + sgn σ (rowA σ m) = _
    rw [rowA.of ea]
  have bas := (BAS (s := σ) m).2.2.2.1
  have s1 : 1 ≤ sgn σ a := by
    unfold sgn
    unfold isL1 at hs
    rcases hs with (e | e | e | e | e | e) | e <;> rw [e] <;> decide
  omega
theorem q_clo2 {N : Nat} {H : HB} (hN : 1000 ≤ N) {x y : Int} {c : List Nat} {X : List (Nat × List Nat)} {P : List Nat} {T : List Int} {σ : CS} {a m : Nat} (h : JJ H x y c X P (ccI σ :: T) σ) (ht : TUR σ a m) (h1 : 1 ≤ sgI σ) {α : Type} {K : CS → Option α} {Q : α → Prop} (hK : ∀ s' s : CS, s.o = σ.o → ECL H (x - 100) y c X P T σ a m s' s → ok (K s) Q) : ok ((f_X1_close N σ 125).bind fun p4 => if oK p4.2 a 0 then K (CS.setI p4.2 50 (CS.o p4.2 a 3)) else none) Q := by
  obtain ⟨nf, hm, ea, nr, m4⟩ := ht
  refine ok_bind (q_closE hN h nf h1) (fun p hp => ?_)
  obtain ⟨j, ⟨r1, r2, r3⟩, w⟩ := hp
  have pr : p.2.r 51 m = some a := by rw [r1]; exact ea
  refine ok_chk (j.1.1.2.1 m a m4 pr) (hK p.2 _ (by rw [co_setI]; exact r2) ⟨j.nmr pr m4 (fun z => ?_), by rw [cr_setI]; exact pr, fun z => ?_⟩)
  · rw [← hm]; unfold cnI; rw [(w z).1.2.2.2.1.1]
  · have z1 := (ci_ne _ _ _ (by decide)).symm.trans z
    have w1 := w z1
    refine ⟨w1.1, (TLE.rf p.2).i50 _, ⟨r1, r2, r3⟩, (ci_ne _ _ _ (by decide)).trans w1.2.1, (ci_ne _ _ _ (by decide)).trans w1.2.2.1, ?_, ?_⟩
    · unfold nmI; rw [ci_at, co_setI]
    · rw [← hm]; unfold cnI; rw [ci_ne _ _ _ (by decide), w1.1.2.2.2.1.1]
theorem q_el72 {N : Nat} {H : HB} (hN : 10000000000 ≤ N) {x y : Int} {c : List Nat} {X : List (Nat × List Nat)} {P : List Nat} {T : List Int} {σ : CS} {a m : Nat} (hx : x ≤ 4000) (hy : y ≤ 90) (h : JJ H x y c X P (ccI σ :: T) σ) (ht : TUR σ a m) (hs : isL1 (σ.o a 0)) : ok (f_X7_endList_72 N σ a) (fun R => TNQ H x y X P T σ R.2 ∧ (R.2.i 32 = 0 → cnI R.2 = (m : Int) ∨ ((σ.o a 0 = 213 ∨ σ.o a 0 = 215) ∧ nmI R.2 = (R.2.o a 3).toInt ∧ cnI R.2 = (m : Int) + 1))) := by
  have hN1 : 1000 ≤ N := by omega
  rw [kEL.eq]
  refine q_clo2 (K := kEL N a) hN1 h ht (sg_one h ht (Or.inl hs)) (fun s' s so hE => ?_)
  have h' : JJ H (x - 100 + 100) y c X P (ccI σ :: T) σ := by rw [show x - 100 + 100 = x by omega]; exact h
  unfold kEL
  rw [so]
  unfold isL1 at hs
  rcases hs with e | e | e | e | e | e
  · rw [e, if_neg (by decide), if_neg (by decide), if_neg (by decide), if_neg (by decide), if_neg (by decide), if_neg (by decide), if_neg (by decide)]
    exact ok_imp (q_endBlk h' ht e hE) (fun R hR => ⟨hR.1.w (by omega) (Int.le_refl _), fun z => Or.inl (hR.2 z)⟩)
  · rw [e, if_pos rfl]
    exact ok_bind (q_endLock (by omega) hy h' ht e hE) (fun R hR => ok_some ⟨hR.1.w (by omega) (Int.le_refl _), fun z => Or.inl (hR.2 z)⟩)
  · rw [e, if_neg (by decide), if_pos rfl]
    exact ok_bind (q_endGrd (by omega) hy h' ht (Or.inl e) hE) (fun R hR => ok_some ⟨hR.1.w (by omega) (Int.le_refl _), fun z => (hR.2 z).elim Or.inl (fun w => Or.inr ⟨Or.inl rfl, w⟩)⟩)
  · rw [e, if_neg (by decide), if_neg (by decide), if_neg (by decide), if_pos rfl]
    exact ok_bind (q_endGrd (by omega) hy h' ht (Or.inr e) hE) (fun R hR => ok_some ⟨hR.1.w (by omega) (Int.le_refl _), fun z => (hR.2 z).elim Or.inl (fun w => Or.inr ⟨Or.inr rfl, w⟩)⟩)
  · rw [e, if_neg (by decide), if_neg (by decide), if_neg (by decide), if_neg (by decide), if_pos rfl]
    exact ok_bind (q_endFin hN (by omega) hy h' ht e hE) (fun R hR => ok_some ⟨hR.1.w (by omega) (Int.le_refl _), fun z => Or.inl (hR.2 z)⟩)
  · rw [e, if_neg (by decide), if_neg (by decide), if_neg (by decide), if_neg (by decide), if_neg (by decide), if_neg (by decide), if_pos rfl]
    exact ok_bind (q_endSw hN (by omega) hy h' ht e hE) (fun R hR => ok_some ⟨hR.1.w (by omega) (Int.le_refl _), fun z => Or.inl (hR.2 z)⟩)
/-- what holds many ends, but for an arm -/
theorem q_endList {N : Nat} {H : HB} (hN : 10000000000 ≤ N) {x y : Int} {c : List Nat} {X : List (Nat × List Nat)} {P : List Nat} {T : List Int} {σ : CS} {a m : Nat} (hx : x ≤ 4000) (hy : y ≤ 90) (h : JJ H x y c X P (ccI σ :: T) σ) (ht : TUR σ a m) (hs : isL1 (σ.o a 0) ∨ σ.o a 0 = 300) : ok (f_X7_endList N σ a) (fun R => TNQ H x y X P T σ R.2 ∧ (R.2.i 32 = 0 → (cnI R.2 = (m : Int) ∧ (σ.o a 0 = 300 → m = 0 → P = [] → ∃ D, WTC R.2 D)) ∨ ((σ.o a 0 = 213 ∨ σ.o a 0 = 215) ∧ nmI R.2 = (R.2.o a 3).toInt ∧ cnI R.2 = (m : Int) + 1))) := by
  rcases hs with hs | hs
  · unfold f_X7_endList
    have n0 : ¬ σ.o a 0 = 300 := fun e => by
      rw [e] at hs; exact absurd hs (by unfold isL1; decide)
    have n2 : ¬ σ.o a 0 = 302 := fun e => by
      rw [e] at hs; exact absurd hs (by unfold isL1; decide)
    refine ok_chk (h.1.1.2.1 m a ht.2.2.2.2 ht.2.2.1) ?_
    rw [if_neg n0, if_neg n2]
    exact ok_imp (q_el72 hN hx hy h ht hs) (fun R hR => ⟨hR.1, fun z => (hR.2 z).elim (fun w => Or.inl ⟨w, fun e => absurd e n0⟩) Or.inr⟩)
  · exact ok_imp (q_endRoot (by omega) hx hy h ht hs) (fun R hR => ⟨hR.1, fun z => Or.inl ⟨(hR.2 z).1, fun _ => (hR.2 z).2⟩⟩)
theorem q_arm72 {N : Nat} {H : HB} (hN : 1000 ≤ N) {x y : Int} {c : List Nat} {X : List (Nat × List Nat)} {P : List Nat} {T : List Int} {σ : CS} {a m : Nat} (h : JJ H x y c X P (ccI σ :: T) σ) (ht : TUR σ a m) (hs : σ.o a 0 = 302) (w : Int32) (hw : -1 ≤ w.toInt ∧ w.toInt < (m : Int) ∧ ∀ b : Nat, 0 ≤ w.toInt → σ.r 51 w.toInt.toNat = some b → σ.o b 0 = 302) : ok (f_X7_endList_72 N σ a) (fun R => CBS H R.2 ∧ (R.2.i 32 = 0 → ∃ lim' : List Int, T = ccI σ :: lim' ∧ JJ H (x - 150) y c X P lim' (CS.setI R.2 56 w) ∧ ARE m (σ.o a 3) σ R.2)) := by
  rw [kEL.eq]
  refine q_clo2 (K := kEL N a) hN h ht (sg_one h ht (Or.inr hs)) (fun s' s so hE => ?_)
  have h' : JJ H (x - 100 + 100) y c X P (ccI σ :: T) σ := by rw [show x - 100 + 100 = x by omega]; exact h
  unfold kEL
  rw [so, hs, if_neg (by decide), if_neg (by decide), if_neg (by decide), if_neg (by decide), if_neg (by decide), if_neg (by decide), if_neg (by decide)]
  refine ok_imp (q_popArm h' ht hs w hw hE) (fun R hR => ⟨hR.1, fun z => ?_⟩)
  obtain ⟨l, l1, l2, l3⟩ := hR.2 z
  exact ⟨l, l1, l2.w (by omega) (Int.le_refl _), l3⟩
/-- an arm ends -/
theorem q_endArm {N : Nat} {H : HB} (hN : 1000 ≤ N) {x y : Int} {c : List Nat} {X : List (Nat × List Nat)} {P : List Nat} {T : List Int} {σ : CS} {a m : Nat} (h : JJ H x y c X P (ccI σ :: T) σ) (ht : TUR σ a m) (hs : σ.o a 0 = 302) (w : Int32) (hw : -1 ≤ w.toInt ∧ w.toInt < (m : Int) ∧ ∀ b : Nat, 0 ≤ w.toInt → σ.r 51 w.toInt.toNat = some b → σ.o b 0 = 302) : ok (f_X7_endList N σ a) (fun R => CBS H R.2 ∧ (R.2.i 32 = 0 → ∃ lim' : List Int, T = ccI σ :: lim' ∧ JJ H (x - 150) y c X P lim' (CS.setI R.2 56 w) ∧ ARE m (σ.o a 3) σ R.2)) := by
  unfold f_X7_endList f_X7_notReached
  obtain ⟨nf, hm, ea, nr, m4⟩ := (show TUR σ a m from ht)
  refine ok_chk (h.1.1.2.1 m a m4 ea) ?_
  rw [if_neg (by rw [hs]; decide), if_pos hs]
  refine ok_ite (fun _ => q_arm72 hN h ht hs w hw) (fun _ => ?_)
  refine ok_bind (Q := fun u => IRR σ u.2) (ok_ite (fun _ => ok_some (IRR.rf h.1)) (fun _ => ok_some ((IRR.rf h.1).i 37 _ (by unfold IRJ; omega) (by omega)))) (fun u hu => ?_)
  have sx := hu.sx nf
  have nfu := hu.f.1.trans nf
  have ecu : ccI u.2 = ccI σ := by unfold ccI; rw [sx.2.2.2.1.2.2.2]
  have ur : u.2.r = σ.r := hu.1.2.2.2.2.2.2.1
  have uo : u.2.o = σ.o := hu.1.2.2.2.1
  have ju := h.irr hu
  rw [← ecu] at ju
  have tu : TUR u.2 a m := ⟨nfu, by rw [← hm]; unfold cnI; rw [sx.2.2.2.1.2.1], by rw [ur]; exact ea, fun i hi => by rw [ur]; exact nr i hi, m4⟩
  refine ok_imp (q_arm72 hN ju tu (by rw [uo]; exact hs) w (by rw [ur, uo]; exact hw)) (fun R hR => ⟨hR.1, fun z => ?_⟩)
  obtain ⟨l, l1, l2, l3⟩ := hR.2 z
  refine ⟨l, by rw [← ecu]; exact l1, l2, ?_⟩
  obtain ⟨b0, b1, b2, b3, b4, b5, b6, b7, b8, b9⟩ := l3
  have a49 : u.2.a 49 = σ.a 49 := hu.2.2.1 49 (by decide)
  have a18 : u.2.a 18 = σ.a 18 := hu.2.2.1 18 (by decide)
  have a19 : u.2.a 19 = σ.a 19 := hu.2.2.1 19 (by decide)
  have enm : nmI u.2 = nmI σ := by unfold nmI; rw [hu.2.1 50 (by unfold IRJ; omega)]
  have pl := sx.2.1
  have sg := sx.2.2.1
  rw [enm, a49] at b4
  rw [ecu, a18, a19] at b5
  refine ⟨nf, by omega, by omega, fun i hi => ?_, b4, b5, b6.trans sx.2.2.2.1.2.2.2, b7.trans sx.2.2.2.1.1, by rw [b8, uo], b9.trans uo⟩
  have q := b3 i hi
  rw [ur, uo, hu.1.2.2.2.2.1] at q
  exact q
end
section
/-! the class's reading: one turn -/
theorem q_hasOneBody {N : Nat} {s : CS} {a : Nat} (h : oK s a 0) : ok (f_X5_hasOneBody N s a) (fun R => R.2 = s ∧ ((R.1 = 0 ∧ ¬ isB1 (s.o a 0)) ∨ (R.1 = 1 ∧ isB1 (s.o a 0)))) := by
  unfold f_X5_hasOneBody f_X5_hasOneBody_37
  refine ok_chk h (ok_bind (q_isLoop h) (fun p hp => ?_))
  obtain ⟨p1, p2⟩ := hp
  rw [p1]
  rcases p2 with ⟨p2, p3⟩ | ⟨p2, p3⟩
  · rw [if_pos p2]
    refine ok_chk h (ok_ite (fun c1 => ok_some ⟨rfl, Or.inr ⟨rfl, by rw [c1]; unfold isB1; decide⟩⟩) (fun c1 => ok_ite (fun c2 => ok_some ⟨rfl, Or.inr ⟨rfl, by rw [c2]; unfold isB1; decide⟩⟩) (fun c2 => ok_ite (fun c3 => ok_some ⟨rfl, Or.inr ⟨rfl, by rw [c3]; unfold isB1; decide⟩⟩) (fun c3 => ok_some ⟨rfl, Or.inl ⟨rfl, fun q => ?_⟩⟩))))
    unfold isLp at p3
    rcases q with q | q | q | q | q | q | q
    · exact c2 q
    · exact c3 q
    · exact p3 (Or.inl q)
    · exact p3 (Or.inr (Or.inl q))
    · exact p3 (Or.inr (Or.inr (Or.inl q)))
    · exact c1 q
    · exact p3 (Or.inr (Or.inr (Or.inr q)))
  · rw [p2, if_neg (by decide)]
    refine ok_some ⟨rfl, Or.inr ⟨rfl, ?_⟩⟩
    unfold isB1
    rcases p3 with q | q | q | q <;> rw [q] <;> decide
/-- what a turn with a row on top leaves -/
def TRO (H : HB) (x y : Int) (X : List (Nat × List Nat)) (P : List Nat) (T : List Int) (σ : CS) (m : Nat) (R : CS) : Prop := TNQ H x y X P T σ R ∧ (R.i 32 = 0 → cnI R = (m : Int) ∨ (∀ b : Nat, R.r 51 m = some b → R.o b 0 = 305 → cnI R = (m : Int) + 1 ∧ nmI R = (R.o b 3).toInt))
theorem TNQ.bk {H : HB} {x y : Int} {X : List (Nat × List Nat)} {P : List Nat} {T : List Int} {σ R : CS} (h : TNQ (H.1, rbB σ) x y X P T σ R) (hs : CBS H σ) (nf : σ.i 32 = 0) : TNQ H x y X P T σ R := by
  refine ⟨h.1.bk hs (fun _ => nf), fun z => ?_⟩
  obtain ⟨⟨c, j⟩, t⟩ := h.2 z
  exact ⟨⟨c, j.bk hs (fun _ => nf)⟩, t⟩
/-- the row on top is another, or it is none behind a try -/
theorem TRO.mk1 {H : HB} {x y : Int} {X : List (Nat × List Nat)} {P : List Nat} {T : List Int} {σ R : CS} {a m : Nat} (h : TNQ (H.1, rbB σ) x y X P T σ R) (hs : CBS H σ) (ht : TUR σ a m) (w : R.i 32 = 0 → cnI R = (m : Int) ∨ ¬ R.o a 0 = 305 ∨ (nmI R = (R.o a 3).toInt ∧ cnI R = (m : Int) + 1)) : TRO H x y X P T σ m R := by
  refine ⟨h.bk hs ht.1, fun z => ?_⟩
  have st := (h.1.st ht.2.2.2.2 ht.2.2.1).1
  rcases w z with w | w | w
  · exact Or.inl w
  · refine Or.inr (fun b eb e => ?_)
    rw [st] at eb
    rw [← Option.some.inj eb] at e
    exact absurd e w
  · refine Or.inr (fun b eb e => ?_)
    rw [st] at eb
    rw [← Option.some.inj eb]
    exact ⟨w.2, w.1⟩
theorem SRL.keep {σ R : CS} {a m : Nat} (h : SRL σ R) (ht : TUR σ a m) : R.o a 0 = σ.o a 0 := by
  have q := h.2.2.2.2.1 m (by have := ht.2.1; omega)
  rw [(q.2 a ht.2.2.1).1]
theorem SRL.cel {σ s1 R : CS} {a m : Nat} {f : Nat → Int32} {l : Int64} (h : SRL s1 R) (ou : OUV σ s1 a f l) (ht : TUR σ a m) (hr : REFS σ) (h0 : f 0 = σ.o a 0) : TNR σ R ∧ R.o a 0 = σ.o a 0 := by
  obtain ⟨nf, hm, ea, nr, m4⟩ := (show TUR σ a m from ht)
  have t2 := ou.t2 hr m4 ea
  obtain ⟨⟨u1, u2, u3, u4, u5, u6, u7, u8, u9, u10⟩, u11, u12, u13⟩ := ou
  have ecn : cnI s1 = cnI σ := by unfold cnI; rw [u10]
  have ht1 : TUR s1 a m := ⟨by rw [u10]; exact nf, by rw [ecn]; exact hm, by rw [u5]; exact ea, fun i hi => by rw [u5]; exact nr i hi, m4⟩
  have tr := h.trn (by omega)
  have i2 := (t2.1.2.sums (fun i hi => nr i (by omega))).2.1
  have em : (cnI σ).toNat = m + 1 := by omega
  have sw : SGS σ (m + 1) = SGS σ m + sgn σ a := by
    show SGS σ m + sgn σ (rowA σ m) = _
    rw [rowA.of ea]
  have sR : SGS s1 (m + 1) = SGS s1 m + sgn s1 a := by
    show SGS s1 m + sgn s1 (rowA s1 m) = _
    rw [rowA.of ht1.2.2.1]
  have sg : sgn s1 a = sgn σ a := by unfold sgn; rw [u12, h0]
  have esg : sgI s1 = sgI σ := by unfold sgI; rw [u10]
  have epl : plI s1 = plI σ := by unfold plI; rw [u10]
  have ee : eI s1 = eI σ := by unfold eI; rw [epl, u10]
  have enm : nmI s1 = nmI σ := by unfold nmI; rw [u10]
  have ecc : ccI s1 = ccI σ := by unfold ccI; rw [u10]
  obtain ⟨b0, b1, b2, ⟨b3, b4, b5, b6⟩, b7, b8, b9, b10⟩ := tr
  rw [ecn] at b3 b4 b5 b6 b7
  rw [ecn, em, sR, i2, sg, esg] at b2
  rw [enm, u9] at b8
  rw [ecc, u9] at b9
  refine ⟨⟨nf, by omega, by rw [em, sw]; exact b2, ⟨b3, b4, b5, b6⟩, ?_, b8, b9, by rw [b10, u10]⟩, by rw [h.keep ht1, u12, h0]⟩
  have e1 : (cnI σ).toNat - 1 = m := by omega
  rw [e1] at b7 ⊢
  exact t2.1.2.tr b7
theorem q_bodyTurn {N : Nat} {H : HB} (hN : 10000000000 ≤ N) {k : Int} {E1 : CS → Option (Unit × CS)} {E2 : CS → Option (Int32 × CS)} (hE : ∀ b, EC (H.1, b) k E1) (hE2 : ∀ b, EC2 (H.1, b) k E2) {x y : Int} {c : List Nat} {X : List (Nat × List Nat)} {P : List Nat} {T : List Int} {σ : CS} {a m : Nat} (hx : x ≤ 3900) (hy : y + 3 * k ≤ 87 ∧ 0 ≤ k) (h : JJ H x y c X P (ccI σ :: T) σ) (ht : TUR σ a m) (hb : isB1 (σ.o a 0)) (hk : 24 - sgI σ ≤ k) : ok (f_X7_bodyTurn N E1 E2 σ a) (fun R => TRO H x y X P T σ m R.2) := by
  obtain ⟨nf, hm, ea, nr, m4⟩ := (show TUR σ a m from ht)
  have n5 : ¬ σ.o a 0 = 305 := fun e => by
    rw [e] at hb; exact absurd hb (by unfold isB1; decide)
  unfold f_X7_bodyTurn
  refine ok_chk (h.1.1.2.1 m a m4 ea) (ok_ite (fun _ => ?_) (fun _ => ?_))
  · have j1 := (h.rb.k.fld ea m4 (fun _ => hm) 5 1 (by omega) (fun _ => Or.inr rfl)).j
    have ou := (OUV.rf σ a).o 5 1
    have u12 : (CS.setO σ a 5 1).o a 0 = σ.o a 0 := by rw [show (CS.setO σ a 5 1).o a = upd (σ.o a) 5 1 from ou.2.2.1]; rfl
    have ui : (CS.setO σ a 5 1).i = σ.i := ci_setO ..
    have ur : (CS.setO σ a 5 1).r = σ.r := cr_setO ..
    generalize CS.setO σ a 5 1 = s1 at *
    have ecc : ccI s1 = ccI σ := by unfold ccI; rw [ui]
    rw [← ecc] at j1
    have nf1 : s1.i 32 = 0 := by rw [ui]; exact nf
    have g1 := j1.s0g nf1 (fun i b hi e => by
      have ei : i = m := by
        have : cnI s1 = cnI σ := by unfold cnI; rw [ui]
        omega
      rw [ei, ur, ea] at e
      rw [← Option.some.inj e, u12]
      exact n5)
    refine ok_bind (q_statement (H := (H.1, rbB σ)) hN hE hE2 hx hy j1 g1 (by unfold sgI at *; rw [ui]; exact hk) 1) (fun R hR => ok_some ?_)
    refine TRO.mk1 ⟨hR.1, fun z => ?_⟩ h.1 ht (fun z => Or.inr (Or.inl ?_))
    · obtain ⟨⟨c', jc⟩, sr⟩ := hR.2 z
      have e2 : ccI R.2 = ccI s1 := by unfold ccI; rw [sr.2.2.2.2.2.2.2.2.1]
      exact ⟨⟨c', by rw [e2]; exact jc⟩, (sr.cel ou ht h.1.1 rfl).1⟩
    · rw [((hR.2 z).2.cel ou ht h.1.1 rfl).2]; exact n5
  · refine ok_bind (q_endBody (H := (H.1, rbB σ)) hN hE2 (by omega) hy h.rb ht hb hk) (fun R hR => ok_some ?_)
    refine TRO.mk1 hR.1 h.1 ht (fun z => (hR.2 z).elim Or.inl (fun e => Or.inr (Or.inl ?_)))
    rw [e]; decide
end
section
/-! the class's reading: one turn, whole -/
noncomputable def kTB (N : Nat) (E1 : CS → Option (Unit × CS)) (E2 : CS → Option (Int32 × CS)) (K : CS → Option (Unit × CS)) (σ : CS) (a9 : Nat) : Option (Unit × CS) :=
  if oK σ a9 0 then (f_X5_hasOneBody N σ a9).bind fun p12 => (if p12.1 = 0 then if oK p12.2 a9 0 then (if (CS.o p12.2 a9 0) = 305 then (f_X1_found N p12.2 215).bind fun p47 => (if p47.1 = 0 then if oK p47.2 a9 0 then (if (CS.o p47.2 a9 0) = 305 then (f_X7_beginFinally N p47.2 a9).bind fun p82 => K p82.2 else (f_X1_found N p47.2 125).bind fun p54 => (if p54.1 = 0 then (f_X1_found N p54.2 0).bind fun p63 => (if p63.1 = 0 then if oK p63.2 a9 0 then (if (CS.o p63.2 a9 0) = 218 then (f_X7_groupTurn N E1 E2 p63.2 a9).bind fun p74 => K p74.2 else (f_X7_statement N E1 E2 p63.2 0).bind fun p70 => K p70.2) else none else (f_X7_endList N p63.2 a9).bind fun p78 => K p78.2) else (f_X7_endList N p54.2 a9).bind fun p59 => K p59.2)) else none else (f_X7_beginCatch N p47.2 a9).bind fun p86 => K p86.2) else (f_X1_found N p12.2 125).bind fun p19 => (if p19.1 = 0 then (f_X1_found N p19.2 0).bind fun p28 => (if p28.1 = 0 then if oK p28.2 a9 0 then (if (CS.o p28.2 a9 0) = 218 then (f_X7_groupTurn N E1 E2 p28.2 a9).bind fun p39 => K p39.2 else (f_X7_statement N E1 E2 p28.2 0).bind fun p35 => K p35.2) else none else (f_X7_endList N p28.2 a9).bind fun p43 => K p43.2) else (f_X7_endList N p19.2 a9).bind fun p24 => K p24.2)) else none else (f_X7_bodyTurn N E1 E2 p12.2 a9).bind fun p90 => K p90.2) else none
theorem kTB.eq (N : Nat) (E1 : CS → Option (Unit × CS)) (E2 : CS → Option (Int32 × CS)) (K : CS → Int32 → Int32 → Option (Unit × CS)) (σ : CS) (x1 x2 : Int32) : b_X7_turns_2 N E1 E2 K σ x1 x2 = (if 10000 ≤ x2 then (if (σ.i 32) = 0 ∧ ¬ (σ.i 53) ≤ x1 then none else some ((), σ)) else (if (σ.i 32) = 0 then (if (σ.i 53) ≤ x1 then some ((), σ) else (f_X6_row N σ ((σ.i 53) - 1)).bind fun p4 => oCase p4.1 (some ((), p4.2)) (fun a9 => kTB N E1 E2 (fun s => K s x1 (x2 + 1)) p4.2 a9)) else some ((), σ))) := rfl
theorem q_turnB {N : Nat} {H : HB} (hN : 10000000000 ≤ N) {k : Int} {E1 : CS → Option (Unit × CS)} {E2 : CS → Option (Int32 × CS)} (hE : ∀ b, EC (H.1, b) k E1) (hE2 : ∀ b, EC2 (H.1, b) k E2) {x y : Int} {c : List Nat} {X : List (Nat × List Nat)} {P : List Nat} {T : List Int} {σ : CS} {a m : Nat} (hx : x ≤ 3900) (hy : y + 3 * k ≤ 87 ∧ 0 ≤ k) (h : JJ H x y c X P (ccI σ :: T) σ) (ht : TUR σ a m) (h5 : σ.o a 0 = 305 → nmI σ = (σ.o a 3).toInt) (hk : 24 - sgI σ ≤ k) {K : CS → Option (Unit × CS)} {Q : (Unit × CS) → Prop} (hKe : ¬ isB1 (σ.o a 0) → ¬ σ.o a 0 = 305 → ok ((f_X7_endList N σ a).bind fun p => K p.2) Q) (hK : ∀ R : CS, TRO H x y X P T σ m R → ((σ.o a 0 = 300 ∨ σ.o a 0 = 302) → R.i 32 = 0 → SRL σ R) → ok (K R) Q) : ok (kTB N E1 E2 K σ a) Q := by
  obtain ⟨nf, hm, ea, nr, m4⟩ := (show TUR σ a m from ht)
  have ok0 := h.1.1.2.1 m a m4 ea
  unfold kTB
  refine ok_chk ok0 (ok_bind (q_hasOneBody ok0) (fun p hp => ?_))
  obtain ⟨p1, p2⟩ := hp
  rw [p1]
  rcases p2 with ⟨p2, p3⟩ | ⟨p2, p3⟩
  · rw [if_pos p2]
    refine ok_chk ok0 ?_
    by_cases e5 : σ.o a 0 = 305
    · rw [if_pos e5]
      have no : ¬ (σ.o a 0 = 300 ∨ σ.o a 0 = 302) := by rw [e5]; decide
      refine ok_bind (q_found σ 215) (fun q hq => ?_)
      obtain ⟨q1, q2⟩ := hq
      rw [q1]
      rcases q2 with ⟨q2, q3⟩ | ⟨q2, q3⟩
      · rw [if_pos q2]
        refine ok_chk ok0 ?_
        rw [if_pos e5]
        refine ok_bind (q_beginFin (H := (H.1, rbB σ)) (by omega) (by omega) (by omega) h.rb ht e5 (h5 e5)) (fun R hR => hK R.2 (TRO.mk1 hR.1 h.1 ht (fun z => Or.inr (Or.inl ?_))) (fun w => absurd w no))
        rw [hR.2 z]; decide
      · rw [q2, if_neg (by decide)]
        refine ok_bind (q_beginCatch (H := (H.1, rbB σ)) (by omega) (by omega) (by omega) h.rb ht e5 q3) (fun R hR => hK R.2 (TRO.mk1 hR.1 h.1 ht (fun z => Or.inr (Or.inl ?_))) (fun w => absurd w no))
        rw [hR.2 z]; decide
    · rw [if_neg e5]
      have ng : NG σ := fun i b hi e => by
        have ei : i = m := by omega
        rw [ei, ea] at e
        rw [← Option.some.inj e]; exact e5
      have g0 := h.s0g nf ng
      refine ok_bind (q_found σ 125) (fun q hq => ?_)
      obtain ⟨q1, q2⟩ := hq
      rw [q1]
      refine ok_ite (fun _ => ?_) (fun _ => hKe p3 e5)
      refine ok_bind (q_found σ 0) (fun r hr => ?_)
      obtain ⟨r1, r2⟩ := hr
      rw [r1]
      refine ok_ite (fun _ => ?_) (fun _ => hKe p3 e5)
      refine ok_chk ok0 ?_
      by_cases e8 : σ.o a 0 = 218
      · rw [if_pos e8]
        refine ok_bind (q_groupTurn (H := (H.1, rbB σ)) hN hE hE2 hx (by omega) h.rb g0 hk ht e8) (fun R hR => hK R.2 (TRO.mk1 hR.1 h.1 ht (fun z => Or.inr (Or.inl ?_))) (fun w => by rw [e8] at w; exact absurd w (by decide)))
        rcases hR.2 z with w | w
        · rw [w]; decide
        · rw [w.keep ht]; exact e5
      · rw [if_neg e8]
        refine ok_bind (q_statement (H := (H.1, rbB σ)) hN hE hE2 hx (by omega) h.rb g0 hk 0) (fun R hR => hK R.2 (TRO.mk1 (hR.tq (by omega)) h.1 ht (fun z => Or.inr (Or.inl ?_))) (fun _ z => (hR.2 z).2))
        rw [(hR.2 z).2.keep ht]; exact e5
  · rw [p2, if_neg (by decide)]
    refine ok_bind (q_bodyTurn hN hE hE2 hx (by omega) h ht p3 hk) (fun R hR => hK R.2 hR (fun w => ?_))
    exfalso
    rcases w with w | w <;> rw [w] at p3 <;> exact absurd p3 (by unfold isB1; decide)
end
section
/-! the class's reading: all turns -/
/-- so many limits as arms -/
theorem RCH.ams {s : CS} {DT : Nat → List Nat} {KT : Nat → Prop} : ∀ (n : Nat) (c : List Nat) (lim : List Int), RCH s DT KT n c lim → (lim.length : Int) = 1 + 2 * AMS s n
  | 0, _, _, ⟨_, l, e, h⟩ => by rw [e]; rfl
  | n + 1, c, lim, ⟨a, c0, lim', ea, _, r, hr⟩ => by
    have ih := RCH.ams n c0 lim' hr
    have er := rowA.of ea
    have e1 : AMS s (n + 1) = AMS s n + (if s.o a 0 = 302 then 1 else 0) := by
      show AMS s n + (if s.o (rowA s n) 0 = 302 then 1 else 0) = _
      rw [er]
    rw [e1]
    have no : ∀ w : Int32, s.o a 0 = w → ¬ w = 302 → lim' = lim → (lim.length : Int) = 1 + 2 * (AMS s n + (if s.o a 0 = 302 then 1 else 0)) := fun w e q f => by
      rw [if_neg (by rw [e]; exact q), ← f]; omega
    obtain ⟨-, -, r3⟩ := r
    rcases r3 with ⟨z1, z2, e⟩ | ⟨z1, z2, z3, w⟩ | ⟨z1, z2, z3, e⟩ | ⟨z1, z2, z3, e⟩ | ⟨z1, z2, z3, z4, e⟩ | ⟨z1, z2, z3, z4, z5, e⟩ | ⟨z1, z2, z3, z4, z5, w⟩ | ⟨z1, z2, z3, e⟩ | ⟨z1, z2, z3, z4, z5, e⟩ | ⟨z1, z2, z3, z4, z5, e⟩ | ⟨z1, z2, z3, z4, e⟩ | ⟨z1, z2, z3, e⟩
    · rcases z1 with z1 | z1
      · exact no _ z1 (by decide) e
      · exact no _ z1 (by decide) e
    · obtain ⟨v, v1, -⟩ := w
      rw [if_pos z1, v1]
      have : (v :: v :: lim').length = lim'.length + 2 := rfl
      omega
    · exact no _ z1 (by decide) e
    · rcases z1 with z1 | z1
      · exact no _ z1 (by decide) e
      · exact no _ z1 (by decide) e
    · rcases z1 with z1 | z1 | z1
      · exact no _ z1 (by decide) e
      · exact no _ z1 (by decide) e
      · exact no _ z1 (by decide) e
    · exact no _ z1 (by decide) e
    · obtain ⟨l, T, w1, w2, -⟩ := w
      rw [if_neg (by rw [z1]; decide)]
      have l1 : lim.length = T.length + 1 := by rw [w1]; rfl
      have l2 : lim'.length = T.length + 1 := by rw [w2]; rfl
      omega
    · exact no _ z1 (by decide) e
    · exact no _ z1 (by decide) e
    · exact no _ z1 (by decide) e
    · exact no _ z1 (by decide) e
    · exact no _ z1 (by decide) e
theorem AMS.mono {s : CS} (n : Nat) : ∀ j : Nat, AMS s n ≤ AMS s (n + j) ∧ SGS s n ≤ SGS s (n + j)
  | 0 => ⟨Int.le_refl _, Int.le_refl _⟩
  | j + 1 => by
    have ih := AMS.mono (s := s) n j
    have e1 : AMS s (n + (j + 1)) = AMS s (n + j) + (if s.o (rowA s (n + j)) 0 = 302 then 1 else 0) := rfl
    have e2 : SGS s (n + (j + 1)) = SGS s (n + j) + sgn s (rowA s (n + j)) := rfl
    have g1 : 0 ≤ (if s.o (rowA s (n + j)) 0 = 302 then (1 : Int) else 0) := by
      by_cases q : s.o (rowA s (n + j)) 0 = 302
      · rw [if_pos q]; decide
      · rw [if_neg q]; decide
    have g2 : 0 ≤ sgn s (rowA s (n + j)) := by
      unfold sgn
      by_cases q : s.o (rowA s (n + j)) 0 = 302
      · rw [if_pos q]; decide
      · rw [if_neg q]
        by_cases q2 : s.o (rowA s (n + j)) 0 = 301 ∨ s.o (rowA s (n + j)) 0 = 212 ∨ s.o (rowA s (n + j)) 0 = 218 ∨ s.o (rowA s (n + j)) 0 = 213 ∨ s.o (rowA s (n + j)) 0 = 215 ∨ s.o (rowA s (n + j)) 0 = 216
        · rw [if_pos q2]; decide
        · rw [if_neg q2]; decide
    omega
/-- only the row on top may be one behind a try, and then its names are gone -/
def G5 (n0 : Nat) (s : CS) : Prop := ∀ i a : Nat, n0 ≤ i → (i : Int) < cnI s → s.r 51 i = some a → s.o a 0 = 305 → (i : Int) + 1 = cnI s ∧ nmI s = (s.o a 3).toInt
theorem G5.of {n0 m : Nat} {σ R : CS} (g : G5 n0 σ) (t : TNR σ R) (hm : cnI σ = (m : Int) + 1) (nr : NR σ (m + 1)) (hA : cnI R = (m : Int) ∨ (∀ b : Nat, R.r 51 m = some b → R.o b 0 = 305 → cnI R = (m : Int) + 1 ∧ nmI R = (R.o b 3).toInt)) : G5 n0 R := fun i a i0 i1 ea e5 => by
  obtain ⟨-, -, -, ⟨-, -, w1, w2⟩, rq, -⟩ := t
  rw [show (cnI σ).toNat - 1 = m by omega] at rq
  by_cases c : i < m
  · exfalso
    have q := rq i c
    obtain ⟨b, eb⟩ := nr i (by omega)
    have ea' := q.1.symm.trans ea
    have := g i a i0 (by omega) ea' (by rw [← (q.2 a ea').1]; exact e5)
    omega
  · by_cases c2 : i = m
    · rw [c2] at ea
      rcases hA with z | z
      · omega
      · have := z a ea e5
        omega
    · exfalso
      have ei : i = (cnI σ).toNat := by omega
      rw [ei] at ea
      exact w2 (by omega) a ea e5
/-- what stands at every turn, since B: n0 rows stay, the row over them will end it -/
def TIV (H : HB) (x y : Int) (X : List (Nat × List Nat)) (P : List Nat) (T : List Int) (B : CS) (n0 : Nat) (b3 : Int) (σ : CS) : Prop := CBS H σ ∧ (σ.i 32 = 0 → (∃ c : List Nat, JJ H x y c X P (ccI σ :: T) σ) ∧ (plI B ≤ plI σ ∧ eI B ≤ eI σ) ∧ sgI σ - SGS σ (cnI σ).toNat = sgI B - SGS B (n0 + 1) ∧ (n0 : Int) < cnI σ ∧ RSQ B σ (n0 + 1) ∧ (∀ n : Nat, (n : Int) < b3 → σ.a 49 n = B.a 49 n) ∧ (∀ i : Nat, (i : Int) < lmh T → σ.a 18 i = B.a 18 i ∧ σ.a 19 i = B.a 19 i) ∧ σ.i 56 = B.i 56 ∧ G5 n0 σ)
theorem GW.geT {cD c : List Nat} {X : List (Nat × List Nat)} {P : List Nat} {l : Int} {T : List Int} {s : CS} (h : GW cD c X P (l :: T) s) : lmh T ≤ l ∧ 0 ≤ lmh T := by
  obtain ⟨D, DT, KT, -, -, -, -, -, ⟨n, -, -, n3⟩, -⟩ := h
  obtain ⟨l2, T2, e, e0, eT⟩ := RCH.ge n _ _ n3
  have q := List.cons.inj e
  rw [q.1, q.2]
  cases T2 with
  | nil => exact ⟨e0, Int.le_refl _⟩
  | cons v T3 =>
    have := eT v (List.mem_cons_self ..)
    exact ⟨this.2, this.1⟩
theorem TIV.step {H : HB} {x y : Int} {X : List (Nat × List Nat)} {P : List Nat} {T : List Int} {B : CS} {n0 : Nat} {b3 : Int} {σ R : CS} {a0 m : Nat} (h : TIV H x y X P T B n0 b3 σ) (nf : σ.i 32 = 0) (e0 : B.r 51 n0 = some a0) (e3 : (B.o a0 3).toInt = b3) (hm : cnI σ = (m : Int) + 1) (t : TRO H x y X P T σ m R) (hn : R.i 32 = 0 → (n0 : Int) < cnI R) (hq : R.i 32 = 0 → RSQ σ R (n0 + 1)) : TIV H x y X P T B n0 b3 R := by
  refine ⟨t.1.1, fun z => ?_⟩
  obtain ⟨⟨c, j⟩, ⟨b1, b1'⟩, b2, b4, b5, b6, b7, b8, b9⟩ := h.2 nf
  obtain ⟨jc, tn⟩ := t.1.2 z
  obtain ⟨g, n⟩ := j.2 nf
  have nr := h.1.2.2.2.2.2.2.1.2.2
  rw [show (cnI σ).toNat = m + 1 by omega] at nr
  have nm3 : b3 ≤ nmI σ := by
    have q := b5 n0 (by omega)
    obtain ⟨D, DT, KT, -, -, -, -, -, -, -, -, -, nmb⟩ := g
    have := (nmb n0 a0 b4 (q.1.trans e0)).1
    rw [(q.2 a0 e0).1, e3] at this
    exact this
  have lT := g.geT
  have t2 := tn.2.1
  refine ⟨jc, ⟨by omega, by omega⟩, by rw [tn.2.2.1]; exact b2, hn z, b5.tr (hq z), fun k hk => ?_, fun i hi => ?_, tn.2.2.2.2.2.2.2.trans b8, b9.of tn hm nr (t.2 z)⟩
  · rw [tn.2.2.2.2.2.1 k (by omega)]; exact b6 k hk
  · have w := tn.2.2.2.2.2.2.1 i (by omega)
    have w2 := b7 i hi
    exact ⟨w.1.trans w2.1, w.2.trans w2.2⟩
end
section
/-! the class's reading: all turns, whole -/
theorem q_turnsO {N : Nat} {E1 : CS → Option (Unit × CS)} {E2 : CS → Option (Int32 × CS)} {n : Nat} (hn : 1 ≤ n) {R : CS} {x1 x2 : Int32} (h : R.i 32 = 0 → R.i 53 ≤ x1) : ok (f_X7_turns_2 N E1 E2 n R x1 x2) (fun w => w.2 = R) := by
  obtain ⟨n', rfl⟩ : ∃ n', n = n' + 1 := ⟨n - 1, by omega⟩
  show ok (b_X7_turns_2 N E1 E2 (f_X7_turns_2 N E1 E2 n') R x1 x2) _
  rw [kTB.eq]
  refine ok_ite (fun _ => ok_ite (fun z => absurd (h z.1) z.2) (fun _ => ok_some rfl)) (fun _ => ok_ite (fun z => ?_) (fun _ => ok_some rfl))
  rw [if_pos (h z)]
  exact ok_some rfl
theorem q_turns2 {N : Nat} {H : HB} (hN : 10000000000 ≤ N) {k : Int} {E1 : CS → Option (Unit × CS)} {E2 : CS → Option (Int32 × CS)} (hE : ∀ b, EC (H.1, b) k E1) (hE2 : ∀ b, EC2 (H.1, b) k E2) {x y : Int} {X : List (Nat × List Nat)} {P : List Nat} {T : List Int} {B : CS} {n0 a0 : Nat} {b3 : Int} {x1 : Int32} (hx : x ≤ 3900) (hy : y + 3 * k ≤ 87 ∧ 0 ≤ k) (hB : B.i 32 = 0 ∧ NR B (n0 + 1)) (e0 : B.r 51 n0 = some a0) (e3 : (B.o a0 3).toInt = b3) (es : B.o a0 0 = 300 ∨ B.o a0 0 = 302) (eT : (T.length : Int) = 2 * AMS B (n0 + 1)) (hk : 24 - sgI B ≤ k) (n4 : n0 < 400) (hx1 : x1.toInt = (n0 : Int)) {Q : CS → Prop} (hQ1 : ∀ R : CS, CBS H R → ¬ R.i 32 = 0 → Q R) (hQe : ∀ (σ : CS) (c : List Nat), JJ H x y c X P (ccI σ :: T) σ → TIV H x y X P T B n0 b3 σ → TUR σ a0 n0 → σ.o a0 = B.o a0 → ok (f_X7_endList N σ a0) (fun R => Q R.2 ∧ (R.2.i 32 = 0 → cnI R.2 = (n0 : Int)))) : ∀ (n : Nat) (σ : CS) (x2 : Int32), 0 ≤ x2.toInt → 1 ≤ n → (σ.i 32 = 0 → 1802 - 2 * plI σ + cnI σ < n ∧ x2.toInt + (1802 - 2 * plI σ + cnI σ) ≤ 2300) → TIV H x y X P T B n0 b3 σ → ok (f_X7_turns_2 N E1 E2 n σ x1 x2) (fun R => Q R.2)
  | 0, _, _, _, h, _, _ => by omega
  | n + 1, σ, x2, z0, _, hM, hI => by
    show ok (b_X7_turns_2 N E1 E2 (f_X7_turns_2 N E1 E2 n) σ x1 x2) _
    rw [kTB.eq]
    by_cases nf : σ.i 32 = 0
    · obtain ⟨⟨c, j⟩, b1, b2, b4, b5, b6, b7, b8, b9⟩ := hI.2 nf
      obtain ⟨hM1, hM2⟩ := hM nf
      have e1 : (1 : Int32).toInt = 1 := by decide
      have e10 : (10000 : Int32).toInt = 10000 := by decide
      have pl9 : plI σ ≤ 900 := by
        have a := j.1.2.2.1.2.1
        have b := j.1.2.2.1.1
        unfold plI; omega
      have cn := j.1.2.2.2.2.2.2.1
      rw [if_neg (by
        intro q
        have := le_int q
        rw [e10] at this
        omega), if_pos nf, if_neg (by
        intro q
        have := le_int q
        unfold cnI at b4
        omega)]
      obtain ⟨m, hm⟩ : ∃ m : Nat, cnI σ = (m : Int) + 1 := ⟨(cnI σ).toNat - 1, by omega⟩
      have i53 : (σ.i 53 - 1).toInt = (m : Int) := by
        have c4 := cn.2.1
        unfold cnI at hm c4
        rw [toInt_sub] <;> rw [e1] <;> omega
      refine ok_bind (q_row j.1 (σ.i 53 - 1)) (fun p hp => ?_)
      obtain ⟨p1, p2⟩ := hp
      rw [p1]
      rcases p2 with ⟨q1, q2⟩ | ⟨a, q1, q2, q3, q4⟩
      · exact absurd (by omega) q2
      rw [q1]
      show ok (kTB N E1 E2 (fun s => f_X7_turns_2 N E1 E2 n s x1 (x2 + 1)) σ a) _
      rw [show (σ.i 53 - 1).toInt.toNat = m by omega] at q3
      have nr := cn.2.2
      rw [show (cnI σ).toNat = m + 1 by omega] at nr
      have ht : TUR σ a m := ⟨nf, hm, q3, nr, by omega⟩
      have x21 : (x2 + 1).toInt = x2.toInt + 1 := by rw [toInt_add] <;> rw [e1] <;> omega
      have nxt : ∀ R : CS, TNQ H x y X P T σ R → TIV H x y X P T B n0 b3 R → ok (f_X7_turns_2 N E1 E2 n R x1 (x2 + 1)) (fun w => Q w.2) := fun R t i => by
        refine q_turns2 hN hE hE2 hx (by omega) hB e0 e3 es eT hk n4 hx1 hQ1 hQe n R (x2 + 1) (by omega) (by omega) (fun z => ?_) i
        have := (t.2 z).2.2.1.2.2
        omega
      have sgs : sgI B ≤ sgI σ := by
        have i2 := (b5.sums hB.2).2.1
        have mo := (AMS.mono (s := σ) (n0 + 1) ((cnI σ).toNat - (n0 + 1))).2
        rw [show n0 + 1 + ((cnI σ).toNat - (n0 + 1)) = (cnI σ).toNat by omega] at mo
        omega
      have h5 : σ.o a 0 = 305 → nmI σ = (σ.o a 3).toInt := fun e => (b9 m a (by omega) (by omega) q3 e).2
      have row0 := b5 n0 (by omega)
      have r0 : σ.r 51 n0 = some a0 := row0.1.trans e0
      have o0 : σ.o a0 = B.o a0 := (row0.2 a0 e0).1
      by_cases c0 : m = n0
      · have eaa : a = a0 := by
          rw [c0, r0] at q3
          exact (Option.some.inj q3).symm
        subst c0
        subst eaa
        refine q_turnB hN hE hE2 hx (by omega) j ht h5 (by omega) (fun _ _ => ?_) (fun R t s => ?_)
        · refine ok_bind (hQe σ c j hI ht o0) (fun R hR => ?_)
          refine ok_imp (q_turnsO (by omega) (fun z => ?_)) (fun w hw => by rw [hw]; exact hR.1)
          have := hR.2 z
          refine Int32.le_iff_toInt_le.mpr ?_
          unfold cnI at this
          omega
        · have s' := s (by rw [o0]; exact es)
          refine nxt R t.1 (hI.step nf e0 e3 hm t (fun z => ?_) (fun z => ?_))
          · have := (s' z).2.2.2.1.1; omega
          · have := (s' z).2.2.2.2.1
            rw [show (cnI σ).toNat = m + 1 by omega] at this
            exact this
      · have up : n0 < m := by omega
        have n2 : ¬ σ.o a 0 = 302 := fun e => by
          obtain ⟨D, DT, KT, -, -, -, -, -, ⟨kk, k1, -, k3⟩, -⟩ := (j.2 nf).1
          have l1 := RCH.ams kk _ _ k3
          have i4 := (b5.sums hB.2).2.2.2.1
          have mo := (AMS.mono (s := σ) (n0 + 1) (m - (n0 + 1))).1
          rw [show n0 + 1 + (m - (n0 + 1)) = m by omega] at mo
          have st : AMS σ (m + 1) = AMS σ m + 1 := by
            show AMS σ m + (if σ.o (rowA σ m) 0 = 302 then 1 else 0) = _
            rw [rowA.of q3, if_pos e]
          rw [show kk = m + 1 by omega] at l1
          have l2 : (ccI σ :: T).length = T.length + 1 := rfl
          omega
        have rqm : ∀ R : CS, TNR σ R → RSQ σ R (n0 + 1) := fun R t => t.2.2.2.2.1.lo (by omega)
        have cnm : ∀ R : CS, TNR σ R → (n0 : Int) < cnI R := fun R t => by
          have := t.2.2.2.1.1; omega
        refine q_turnB hN hE hE2 hx (by omega) j ht h5 (by omega) (fun nb n5 => ?_) (fun R t _ => nxt R t.1 (hI.step nf e0 e3 hm t (fun z => cnm R (t.1.2 z).2) (fun z => rqm R (t.1.2 z).2)))
        obtain ⟨DT, KT, c1, L1, r⟩ := j.row ht
        have so : isL1 (σ.o a 0) ∨ σ.o a 0 = 300 := by
          rcases r.srt with q | q | q | q | q
          · exact absurd q nb
          · exact Or.inl q
          · exact Or.inr q
          · exact absurd q n2
          · exact absurd q n5
        refine ok_bind (q_endList (H := (H.1, rbB σ)) hN (by omega) (by omega) j.rb ht so) (fun R hR => ?_)
        have t : TRO H x y X P T σ m R.2 := TRO.mk1 hR.1 j.1 ht (fun z => (hR.2 z).elim (fun w => Or.inl w.1) (fun w => Or.inr (Or.inr w.2)))
        exact nxt R.2 t.1 (hI.step nf e0 e3 hm t (fun z => cnm _ (t.1.2 z).2) (fun z => rqm _ (t.1.2 z).2))
    · refine ok_ite (fun _ => ok_ite (fun z => absurd z.1 nf) (fun _ => ok_some (hQ1 σ hI.1 nf))) (fun _ => ?_)
      rw [if_neg nf]
      exact ok_some (hQ1 σ hI.1 nf)
end
section
/-! the class's reading: an arm -/
/-- one frame more than signs, at most -/
theorem RCH.len1 {s : CS} {DT : Nat → List Nat} {KT : Nat → Prop} {n : Nat} {c : List Nat} {lim : List Int} (h : RCH s DT KT n c lim) : (c.length : Int) ≤ SGS s n + 1 := by
  by_cases q : ∃ m a : Nat, n = m + 1 ∧ s.r 51 m = some a ∧ s.o a 0 = 305
  · obtain ⟨m, a, e, ea, e5⟩ := q
    subst e
    obtain ⟨b, c0, L0, h1, h2, r, -⟩ := h
    have eb : b = a := Option.some.inj (h1.symm.trans ea)
    rw [eb] at r h2
    have ec := (r.cx.2.2.1 (Or.inr e5)).1
    have ax : arx s a = 0 := by unfold arx; rw [if_neg (by rw [e5]; decide)]
    have mo := (AMS.mono (s := s) m 1).2
    have : c.length = c0.length + 1 := by rw [ec]; rfl
    omega
  · have := h.len (fun m a e ea e5 => q ⟨m, a, e, ea, e5⟩)
    omega
theorem JK.len1 {H : HB} {x y : Int} {cD c d : List Nat} {X : List (Nat × List Nat)} {P : List Nat} {lim : List Int} {s : CS} (h : JK H x y cD c d X P lim s) (nf : s.i 32 = 0) : (c.length : Int) ≤ SGS s (cnI s).toNat + 1 := by
  obtain ⟨D, DT, KT, -, -, -, -, -, ⟨n, n1, -, n3⟩, -⟩ := (h.2 nf).1
  have e : (cnI s).toNat = n := by omega
  rw [e]
  exact n3.len1
/-- what a row's sort does to the context -/
def ctf (o : Int32) (c0 : List Nat) : List Nat := if o = 212 then 0 :: c0 else if o = 213 then 1 :: c0 else if o = 215 ∨ o = 305 then 2 :: c0 else if o = 216 then 3 :: c0 else c0
theorem ROW1.fn {s : CS} {DT : Nat → List Nat} {KT : Nat → Prop} {a : Nat} {c0 c : List Nat} {lim lim' : List Int} (r : ROW1 s DT KT a c0 c lim lim') : c = ctf (s.o a 0) c0 := by
  obtain ⟨r1, r2, r3⟩ := r
  rcases r3 with ⟨z1, z2, e⟩ | ⟨z1, z2, z3, z4⟩ | ⟨z1, z2, z3, e⟩ | ⟨z1, z2, z3, e⟩ | ⟨z1, z2, z3, z4, e⟩ | ⟨z1, z2, z3, z4, z5, e⟩ | ⟨z1, z2, z3, z4, z5, z6⟩ | ⟨z1, z2, z3, e⟩ | ⟨z1, z2, z3, z4, z5, e⟩ | ⟨z1, z2, z3, z4, z5, e⟩ | ⟨z1, z2, z3, z4, e⟩ | ⟨z1, z2, z3, e⟩
  · rcases z1 with z1 | z1 <;> rw [z1, z2] <;> rfl
  · rw [z1, z2]; rfl
  · rw [z1, z2]; rfl
  · rcases z1 with z1 | z1 <;> rw [z1, z2] <;> rfl
  · rcases z1 with z1 | z1 | z1 <;> rw [z1, z2] <;> rfl
  · rw [z1, z2]; rfl
  · rw [z1, z2]; rfl
  · rw [z1, z2]; rfl
  · rw [z1, z2]; rfl
  · rw [z1, z2]; rfl
  · rw [z1, z2]; rfl
  · rw [z1, z2]; rfl
/-- the rows tell the context -/
theorem RCH.uc {s R : CS} {DT DT' : Nat → List Nat} {KT KT' : Nat → Prop} : ∀ (n : Nat) (c c' : List Nat) (lim lim' : List Int), RCH s DT KT n c lim → RCH R DT' KT' n c' lim' → RSQ s R n → c' = c
  | 0, _, _, _, _, ⟨h, _⟩, ⟨g, _⟩, _ => by rw [h, g]
  | n + 1, c, c', lim, lim', ⟨a, c0, l0, ea, _, r, hr⟩, ⟨b, d0, m0, eb, _, q, hq⟩, rs => by
    have ih := RCH.uc n c0 d0 l0 m0 hr hq (rs.lo (by omega))
    have w := rs n (by omega)
    have e : b = a := by
      rw [w.1, ea] at eb
      exact (Option.some.inj eb).symm
    rw [r.fn, q.fn, ih, e, (w.2 a ea).1]
theorem JJ.uc {H H' : HB} {x y x' y' : Int} {c c' : List Nat} {X X' : List (Nat × List Nat)} {P P' : List Nat} {lim lim' : List Int} {s R : CS} (h : JJ H x y c X P lim s) (h' : JJ H' x' y' c' X' P' lim' R) (nf : s.i 32 = 0) (nf' : R.i 32 = 0) (e : cnI R = cnI s) (rs : RSQ s R (cnI s).toNat) : c' = c := by
  obtain ⟨D, DT, KT, -, -, -, -, -, ⟨n, n1, -, n3⟩, -⟩ := (h.2 nf).1
  obtain ⟨D', DT', KT', -, -, -, -, -, ⟨n', n1', -, n3'⟩, -⟩ := (h'.2 nf').1
  have en : n' = n := by omega
  rw [en] at n3'
  exact RCH.uc n c c' lim lim' n3 n3' (rs.lo (by omega))
/-- the state in which an arm's turns begin -/
noncomputable def armB (p : CS) (a : Nat) (t v : Int32) : CS := CS.setI (CS.setI (CS.setO (CS.setO p a 9 t) a 16 (p.i 56)) 56 v) 36 1
theorem armB.i (p : CS) (a : Nat) (t v : Int32) : ∀ j : Nat, j ≠ 36 → j ≠ 56 → (armB p a t v).i j = p.i j := fun j h1 h2 => by
  unfold armB
  rw [ci_ne _ _ _ h1, ci_ne _ _ _ h2]
  rfl
theorem armB.i56 (p : CS) (a : Nat) (t v : Int32) : (armB p a t v).i 56 = v := by
  unfold armB
  rw [ci_ne _ _ _ (by decide), ci_at]
theorem armB.f (p : CS) (a : Nat) (t v : Int32) : (armB p a t v).a = p.a ∧ (armB p a t v).r = p.r ∧ (∀ b k : Nat, oK p b k → oK (armB p a t v) b k) := ⟨rfl, rfl, fun _ _ h => h⟩
theorem armB.o (p : CS) (a : Nat) (t v : Int32) : (armB p a t v).o a = upd (upd (p.o a) 9 t) 16 (p.i 56) ∧ ∀ b : Nat, b ≠ a → (armB p a t v).o b = p.o b ∧ (armB p a t v).ol b = p.ol b := by
  have u := ((OUV.rf p a).o 9 t).o 16 (p.i 56)
  unfold armB
  rw [co_setI, co_setI, col_setI, col_setI]
  exact ⟨u.2.2.1, u.2.1⟩
theorem armB.cb {H : HB} {p : CS} (h : CBS H p) (a : Nat) (t v : Int32) : CBS H (armB p a t v) := by
  unfold armB
  have h1 := ((h.o a 9 t (fun q => by omega) (fun q => by omega)).o a 16 (p.i 56) (fun q => by omega) (fun q => by omega)).s56 v
  exact ((IRR.rf h1).i 36 1 (by unfold IRJ; omega) (fun _ => Or.inr rfl)).cb h1
end
section
/-! the class's reading: an arm, whole -/
/-- what an arm's turns leave -/
def ARQ (s R : CS) : Prop := (plI s + 1 ≤ plI R ∧ eI s ≤ eI R) ∧ (R.i 34 = s.i 34 ∧ R.i 38 = s.i 38 ∧ R.i 50 = s.i 50 ∧ R.i 53 = s.i 53 ∧ R.i 22 = s.i 22) ∧ RSQ s R (cnI s).toNat ∧ (∀ n : Nat, (n : Int) < nmI s → R.a 49 n = s.a 49 n) ∧ (∀ i : Nat, (i : Int) < ccI s → R.a 18 i = s.a 18 i ∧ R.a 19 i = s.a 19 i)
theorem ARQ.ex {s R : CS} (h : ARQ s R) (nf : s.i 32 = 0) : EXR s (CS.setI (CS.setI R 56 (s.i 56)) 36 (s.i 36)) := by
  obtain ⟨⟨h1, h2⟩, ⟨i34, i38, i50, i53, i22⟩, rq, nm, cs⟩ := h
  have yi : ∀ j : Nat, j ≠ 36 → j ≠ 56 → (CS.setI (CS.setI R 56 (s.i 56)) 36 (s.i 36)).i j = R.i j := fun j q1 q2 => (ci_ne _ _ _ q1).trans (ci_ne _ _ _ q2)
  have y36 : (CS.setI (CS.setI R 56 (s.i 56)) 36 (s.i 36)).i 36 = s.i 36 := ci_at _ _ _
  have y56 : (CS.setI (CS.setI R 56 (s.i 56)) 36 (s.i 36)).i 56 = s.i 56 := (ci_ne _ _ _ (by decide)).trans (ci_at _ _ _)
  have ya : (CS.setI (CS.setI R 56 (s.i 56)) 36 (s.i 36)).a = R.a := rfl
  have yr : (CS.setI (CS.setI R 56 (s.i 56)) 36 (s.i 36)).r = R.r := rfl
  have yo : (CS.setI (CS.setI R 56 (s.i 56)) 36 (s.i 36)).o = R.o := rfl
  have yl : (CS.setI (CS.setI R 56 (s.i 56)) 36 (s.i 36)).ol = R.ol := rfl
  generalize CS.setI (CS.setI R 56 (s.i 56)) 36 (s.i 36) = Y at *
  have epl : plI Y = plI R := by unfold plI; rw [yi 44 (by decide) (by decide)]
  have ee : eI Y = eI R := by unfold eI; rw [epl, yi 43 (by decide) (by decide)]
  refine ⟨nf, ⟨by omega, by omega⟩, ⟨(yi 34 (by decide) (by decide)).trans i34, (yi 38 (by decide) (by decide)).trans i38, (yi 50 (by decide) (by decide)).trans i50, (yi 53 (by decide) (by decide)).trans i53, y56, (yi 22 (by decide) (by decide)).trans i22, y36⟩, ?_, by rw [ya]; exact nm, by rw [ya]; exact cs⟩
  exact rq.tr (fun i _ => ⟨by rw [yr], fun b _ => ⟨by rw [yo], by rw [yl]⟩⟩)
/-- the end of an arm's turns -/
theorem q_armEnd {N : Nat} {H : HB} (hN : 1000 ≤ N) {x y : Int} {c c' : List Nat} {X : List (Nat × List Nat)} {P : List Nat} {lim : List Int} {s B σ : CS} {a m : Nat} {H0 : HB} {x0 : Int} (h0 : JJ H0 x0 y c X P lim s) (nf : s.i 32 = 0) (em : cnI s = (m : Int)) (rB : RSQ s B m) (sgB : sgI B = sgI s + 1) (plB : plI s + 1 ≤ plI B ∧ eI s ≤ eI B) (nrB : NR B (m + 1)) (oB : B.o a 0 = 302 ∧ B.o a 3 = s.i 50 ∧ B.o a 16 = s.i 56) (a49 : ∀ n : Nat, (n : Int) < nmI s → B.a 49 n = s.a 49 n) (a18 : ∀ i : Nat, (i : Int) < ccI s → B.a 18 i = s.a 18 i ∧ B.a 19 i = s.a 19 i) (h : JJ H x y c' X P (ccI σ :: ccI s :: lim) σ) (ti : TIV H x y X P (ccI s :: lim) B m (nmI s) σ) (ht : TUR σ a m) (eo : σ.o a = B.o a) : ok (f_X7_endList N σ a) (fun R => (CBS H R.2 ∧ (R.2.i 32 = 0 → JJ H (x - 150) y c X P lim (CS.setI R.2 56 (s.i 56)) ∧ R.2.o a 16 = s.i 56 ∧ ARQ s R.2)) ∧ (R.2.i 32 = 0 → cnI R.2 = (m : Int))) := by
  obtain ⟨nfσ, hm, eaσ, nr, m4⟩ := (show TUR σ a m from ht)
  obtain ⟨-, ⟨t1, t1'⟩, t2, t3, t4, t5, t6, t7, t8⟩ := ti.2 nfσ
  have n9 := (h0.2 nf).2.2.2.2.2.2.2.2.2
  have rσ : RSQ s σ m := rB.tr (t4.lo (by omega))
  have lT : lmh (ccI s :: lim) = ccI s := rfl
  refine ok_imp (q_endArm hN h ht (by rw [eo]; exact oB.1) (s.i 56) ⟨n9.1, by have := n9.2.1; omega, fun b b0 eb => ?_⟩) (fun R hR => ?_)
  · have lt : (s.i 56).toInt.toNat < m := by have := n9.2.1; omega
    have w := rσ _ lt
    have z := w.1.symm.trans eb
    rw [(w.2 b z).1]
    exact n9.2.2 b b0 z
  · refine ⟨⟨hR.1, fun q => ?_⟩, fun q => ?_⟩
    · obtain ⟨l, l1, l2, l3⟩ := hR.2 q
      obtain ⟨b0, ⟨b1, b1'⟩, ⟨b2, b2'⟩, b3, b4, b5, b6, b7, b8, b9⟩ := l3
      obtain ⟨ecc, el⟩ := List.cons.inj l1
      rw [← el] at l2
      have rR : RSQ s R.2 m := rσ.tr b3
      have em' : (cnI s).toNat = m := by omega
      have qY : (CS.setI R.2 56 (s.i 56)).i 32 = 0 := (ci_ne _ _ _ (by decide)).trans q
      have cY : cnI (CS.setI R.2 56 (s.i 56)) = cnI s := by
        rw [em, ← b2']; unfold cnI; rw [ci_ne _ _ _ (by decide)]
      have uc : c' = c := h0.uc l2 nf qY cY (by
        rw [em']
        exact rR.tr (fun i _ => ⟨rfl, fun b _ => ⟨rfl, rfl⟩⟩))
      rw [uc] at l2 h
      have sg := (t4.sums nrB).2.1
      have cσ : (cnI σ).toNat = m + 1 := by omega
      rw [cσ, sg] at t2
      have nm : nmI s ≤ nmI σ := by
        obtain ⟨D, DT, KT, -, -, -, -, -, -, -, -, -, nmb⟩ := (h.2 nfσ).1
        have := (nmb m a (by omega) eaσ).1
        rw [eo, oB.2.1] at this
        exact this
      refine ⟨l2, by rw [b9, eo]; exact oB.2.2, ⟨by omega, by omega⟩, ⟨?_, ?_, by rw [b8, eo]; exact oB.2.1, ?_, ?_⟩, by rw [em']; exact rR, fun n hn => ?_, fun i hi => ?_⟩
      · refine Int32.toInt_inj.mp ?_
        have : sgI R.2 = sgI s := by omega
        exact this
      · rw [b7]
        refine Int32.toInt_inj.mp ?_
        rw [(h.ds nfσ).1, (h0.ds nf).1]
      · refine Int32.toInt_inj.mp ?_
        have : cnI R.2 = cnI s := by omega
        exact this
      · rw [b6]
        refine Int32.toInt_inj.mp ?_
        exact ecc.symm
      · rw [b4 n (by omega), t5 n hn]; exact a49 n hn
      · have w1 := b5 i (by omega)
        have w2 := t6 i (by rw [lT]; exact hi)
        have w3 := a18 i hi
        exact ⟨w1.1.trans (w2.1.trans w3.1), w1.2.trans (w2.2.trans w3.2)⟩
    · obtain ⟨l, l1, l2, l3⟩ := hR.2 q
      exact l3.2.2.1.2
/-- the state in which an arm's turns begin keeps all -/
theorem armB.jk {H : HB} {x y : Int} {c : List Nat} {X : List (Nat × List Nat)} {P : List Nat} {lim : List Int} {s p : CS} {v t : Int32} {m a : Nat} (h0 : JJ H (x + 100) y c X P lim s) (nf : p.i 32 = 0) (px : PRX H x y c c c X P lim v m a s 1 0 1 p) (o : p.o a 0 = 302 ∧ p.o a 2 = s.i 38 ∧ p.o a 3 = s.i 50) (i50 : p.i 50 = s.i 50) (hg : SGS s (cnI s).toNat ≤ sgI s - 1) (hw : WCS s (cnI s).toNat + 10 ≤ eI s) (ht : ∃ k : Nat, t.toInt = (k : Int) ∧ (k, c) ∈ X) : JJ H (x + 50) y c X P (ccI s :: ccI s :: lim) (armB p a t (s.i 53)) ∧ cnI s = (m : Int) ∧ RSQ s (armB p a t (s.i 53)) m ∧ (sgI (armB p a t (s.i 53)) = sgI s + 1 ∧ plI s + 1 ≤ plI (armB p a t (s.i 53)) ∧ eI s ≤ eI (armB p a t (s.i 53))) ∧ (cnI (armB p a t (s.i 53)) = (m : Int) + 1 ∧ ccI (armB p a t (s.i 53)) = ccI s) ∧ ((∀ n : Nat, (n : Int) < nmI s → (armB p a t (s.i 53)).a 49 n = s.a 49 n) ∧ (∀ i : Nat, (i : Int) < ccI s → (armB p a t (s.i 53)).a 18 i = s.a 18 i ∧ (armB p a t (s.i 53)).a 19 i = s.a 19 i)) ∧ p.i 56 = s.i 56 := by
  obtain ⟨⟨k1, ⟨k2, k3, m4, k5, k6⟩, k7, jV⟩, hsx⟩ := px
  have sx := hsx nf
  obtain ⟨vm, cm⟩ := k7 nf
  have nfs := sx.1
  have cb := armB.cb k1 a t (s.i 53)
  have bi := armB.i p a t (s.i 53)
  have b56 := armB.i56 p a t (s.i 53)
  obtain ⟨ba, br, -⟩ := armB.f p a t (s.i 53)
  obtain ⟨boa, bob⟩ := armB.o p a t (s.i 53)
  generalize armB p a t (s.i 53) = B at *
  have Vi : ∀ j : Nat, j ≠ 53 → (CS.setI p 53 v).i j = p.i j := fun j hj => ci_ne _ _ _ hj
  have V53 : cnI (CS.setI p 53 v) = (m : Int) := by unfold cnI; rw [ci_at]; exact vm
  have Va : (CS.setI p 53 v).a = p.a := ca_setI ..
  have Vr : (CS.setI p 53 v).r = p.r := cr_setI ..
  have Vo : (CS.setI p 53 v).o = p.o := co_setI ..
  have Vol : (CS.setI p 53 v).ol = p.ol := col_setI ..
  generalize CS.setI p 53 v = V at *
  obtain ⟨-, ⟨s1, s1'⟩, s2, ⟨s3, s4, s5, s6⟩, s7, s8, s9, s10⟩ := sx
  have es : cnI s = (m : Int) := by rw [← V53]; unfold cnI; rw [s4]
  have em : (cnI s).toNat = m := by omega
  have emV : (cnI V).toNat = m := by omega
  rw [em] at s8 hg hw
  have nfV : V.i 32 = 0 := (Vi 32 (by decide)).trans nf
  have nrV : NR V m := by
    have := jV.1.2.2.2.2.2.2.1.2.2
    rw [emV] at this
    exact this
  have nrS : NR s m := by
    have := h0.1.2.2.2.2.2.2.1.2.2
    rw [em] at this
    exact this
  have hr : RSQ V B m := fun i hi => by
    refine ⟨by rw [br, Vr], fun b eb => ?_⟩
    rw [Vr] at eb
    have ne : b ≠ a := fun z => by
      rw [z] at eb
      have := k1.1.2.2.1 i m a (by omega) m4 eb k3
      omega
    rw [(bob b ne).1, (bob b ne).2, Vo, Vol]
    exact ⟨rfl, rfl⟩
  have o0 : B.o a 0 = 302 := by rw [boa]; exact o.1
  have o2 : B.o a 2 = s.i 38 := by rw [boa]; exact o.2.1
  have o3 : B.o a 3 = s.i 50 := by rw [boa]; exact o.2.2
  have o9 : B.o a 9 = t := by rw [boa]; rfl
  have ha : B.r 51 m = some a := by rw [br]; exact k3
  have n := (jV.2 nfV).2
  have ax : arx B a = 1 := by unfold arx; rw [if_pos o0]
  have len := jV.len1 nfV
  rw [emV] at len
  have etc : tcI B = tcI V := by unfold tcI; rw [bi 21 (by decide) (by decide), Vi 21 (by decide)]
  have enm : nmI V = nmI s := by unfold nmI; rw [Vi 50 (by decide), i50]
  have ecc : ccI V = ccI s := by unfold ccI; rw [s6]
  have lms : lmh lim ≤ ccI s := by
    obtain ⟨D, DT, KT, -, -, -, -, -, -, -, -, g9, -⟩ := (h0.2 nfs).1
    exact g9
  have iq := n.2.2.2.2.1
  rw [emV] at iq
  obtain ⟨q1, q2⟩ := iq.arm hr nrV ha o0
  obtain ⟨p1, p2, p3, p4, p5⟩ := hr.put nrV ha
  obtain ⟨u1, u2, u3, u4, u5⟩ := s8.sums nrS
  have sgB : sgn B a = 2 := by unfold sgn; rw [o0]; rfl
  have dsB : dsI B = dsI V := by unfold dsI; rw [bi 38 (by decide) (by decide), Vi 38 (by decide)]
  have cnB : cnI B = (m : Int) + 1 := by unfold cnI; rw [bi 53 (by decide) (by decide)]; exact cm
  have jB := jV.row (c' := c) (d' := c) (P' := P) (lim' := ccI s :: ccI s :: lim) (R := B) nfV cb V53.symm m4 ⟨⟨by rw [ba, Va], by rw [ba, Va], by rw [ba, Va], by rw [ba, Va], by rw [ba, Va]⟩, by rw [bi 20 (by decide) (by decide), Vi 20 (by decide)], by rw [bi 21 (by decide) (by decide), Vi 21 (by decide)], by rw [bi 50 (by decide) (by decide), Vi 50 (by decide)], by rw [bi 22 (by decide) (by decide), Vi 22 (by decide)]⟩ cnB ha hr (by omega) (fun DT KT qX qN => ⟨by rw [o2, (h0.ds nfs).1], fun j hj => by
      rw [ba, ← Va]
      refine qN j ?_
      rw [o3] at hj
      rw [enm]; exact hj, Or.inr (Or.inl ⟨o0, rfl, ?_, ccI s, rfl, lms⟩)⟩) (fun k hk => Or.inl hk) (fun _ z => z) (by rw [ecc]; exact Int.le_refl _) ⟨by rw [o3, enm]; exact Int.le_refl _, fun j b hj eb => ?_⟩ ⟨by rw [bi 34 (by decide) (by decide), Vi 34 (by decide)], by rw [bi 43 (by decide) (by decide), Vi 43 (by decide)], by rw [bi 44 (by decide) (by decide), Vi 44 (by decide)]⟩ (by rw [dsB]; exact n.2.2.2.2.2.2.2.1) q1 (by omega) (by omega) (Or.inr ⟨by rw [b56]; exact es, o0⟩)
  · have plB : plI B = plI V := by unfold plI; rw [bi 44 (by decide) (by decide), Vi 44 (by decide)]
    have eB : eI B = eI V := by unfold eI; rw [plB, bi 43 (by decide) (by decide), Vi 43 (by decide)]
    have sB : sgI B = sgI V := by unfold sgI; rw [bi 34 (by decide) (by decide), Vi 34 (by decide)]
    have cB : ccI B = ccI V := by unfold ccI; rw [bi 22 (by decide) (by decide), Vi 22 (by decide)]
    refine ⟨jB.j, es, s8.tr hr, ⟨by omega, by omega, by omega⟩, ⟨cnB, by omega⟩, ⟨fun j hj => ?_, fun j hj => ?_⟩, by rw [← Vi 56 (by decide)]; exact s5⟩
    · rw [ba, ← Va]; exact s9 j hj
    · rw [ba, ← Va]; exact s10 j hj
  · obtain ⟨k, e1, e2⟩ := ht
    rw [o9, etc]
    exact TTc.x qX e1 e2
  · obtain ⟨D, DT, KT, -, -, -, -, -, -, -, -, -, nmb⟩ := (jV.2 nfV).1
    have := (nmb j b hj eb).1
    rw [o3]
    rw [enm] at this
    exact this
end
section
/-! the class's reading: armBlock -/
theorem q_armBlock {N : Nat} {H : HB} (hN : 10000000000 ≤ N) {k : Int} {E1 : CS → Option (Unit × CS)} {E2 : CS → Option (Int32 × CS)} (hE : ∀ b, EC (H.1, b) k E1) (hE2 : ∀ b, EC2 (H.1, b) k E2) : ABC H k (f_X7_armBlock N E1 E2) := by
  intro x y c X P lim s t hx hy h nf h43 hk hg hw ht
  unfold f_X7_armBlock
  refine ok_bind (q_open (by omega) h.1 123) (fun p1 hp1 => ?_)
  obtain ⟨j1, mv⟩ := h.k.op (by decide) hp1
  refine ok_bind (PRX.of (s0 := s) j1 (fun q => (mv q).sx) 302 (p1.2.i 38) (p1.2.i 50) j1.1.nm) (fun p hp => ?_)
  obtain ⟨v, a, m, r1, px, ⟨o0, o2, o3, ol⟩, -, pi, pa⟩ := hp
  rw [r1]
  show ok (if oK p.2 a 0 then (f_X7_turns_2 N E1 E2 N (armB p.2 a t (s.i 53)) (s.i 53) 0).bind fun p12 => if oK p12.2 a 0 then if (s.i 36) = 0 ∨ (s.i 36) = 1 then some ((), CS.setI (CS.setI p12.2 56 (CS.o p12.2 a 16)) 36 (s.i 36)) else none else none else none) _
  have m4 := px.1.2.1.2.2.1
  refine ok_chk px.1.2.1.1 ?_
  have cb := armB.cb px.1.1 a t (s.i 53)
  have ra : (armB p.2 a t (s.i 53)).r 51 m = some a := px.1.2.1.2.1
  have bo36 : s.i 36 = 0 ∨ s.i 36 = 1 := h.1.2.2.2.2.2.2.2.2.1
  have e32 : (armB p.2 a t (s.i 53)).i 32 = p.2.i 32 := armB.i _ _ _ _ 32 (by decide) (by decide)
  have fact : p.2.i 32 = 0 → _ := fun z => armB.jk (t := t) (x := x - 100) (h.w (by omega) (Int.le_refl _)) z px ⟨o0, by
    rw [o2]; exact (mv ((pi 32 (by decide) (by decide)).symm.trans z)).2.2.2.1.1, by
    rw [o3]; exact (mv ((pi 32 (by decide) (by decide)).symm.trans z)).2.2.2.1.2.1⟩ (by
    rw [pi 50 (by decide) (by decide)]; exact (mv ((pi 32 (by decide) (by decide)).symm.trans z)).2.2.2.1.2.1) hg hw ht
  have o3' : p.2.i 32 = 0 → p.2.o a 3 = s.i 50 := fun z => by
    rw [o3]; exact (mv ((pi 32 (by decide) (by decide)).symm.trans z)).2.2.2.1.2.1
  have bo := (armB.o p.2 a t (s.i 53)).1
  generalize armB p.2 a t (s.i 53) = B at *
  refine ok_bind (Q := fun w => CBS (H.1, rbB B) w.2 ∧ (w.2.i 32 = 0 → B.i 32 = 0 ∧ JJ (H.1, rbB B) (x - 200) y c X P lim (CS.setI w.2 56 (s.i 56)) ∧ w.2.o a 16 = s.i 56 ∧ ARQ s w.2)) ?_ (fun w hw => ?_)
  · by_cases nfp : p.2.i 32 = 0
    · have nfB := e32.trans nfp
      obtain ⟨jB, es, rB, ⟨sgB, plB⟩, ⟨cnB, ccB⟩, ⟨a49, a18⟩, i56⟩ := fact nfp
      have hb : B.o a 0 = 302 ∧ B.o a 3 = s.i 50 ∧ B.o a 16 = s.i 56 := by
        rw [bo]
        exact ⟨o0, o3' nfp, i56⟩
      have nrB : NR B (m + 1) := by
        have := cb.2.2.2.2.2.2.1.2.2
        rw [cnB] at this
        exact this
      have jB' : JJ (H.1, rbB B) (x - 50) y c X P (ccI B :: ccI s :: lim) B := by
        rw [ccB]
        exact jB.rb.w (by omega) (Int.le_refl _)
      have ams : ((ccI s :: lim).length : Int) = 2 * AMS B (m + 1) := by
        obtain ⟨D, DT, KT, -, -, -, -, -, ⟨n, n1, -, n3⟩, -⟩ := (jB'.2 nfB).1
        have := RCH.ams n _ _ n3
        rw [show n = m + 1 by omega] at this
        have e : (ccI B :: ccI s :: lim).length = (ccI s :: lim).length + 1 := rfl
        omega
      have ti : TIV (H.1, rbB B) (x - 50) y X P (ccI s :: lim) B m (nmI s) B := ⟨cb.rb, fun _ => ⟨⟨c, jB'⟩, ⟨Int.le_refl _, Int.le_refl _⟩, by rw [show (cnI B).toNat = m + 1 by omega], by omega, RSQ.rf _ _, fun _ _ => rfl, fun _ _ => ⟨rfl, rfl⟩, rfl, fun i b i0 i1 eb e5 => by
        have ei : i = m := by omega
        rw [ei, ra] at eb
        cases eb
        rw [hb.1] at e5
        exact absurd e5 (by decide)⟩⟩
      have bp := cb.pl
      have bc := cb.2.2.2.2.2.2.1
      have e0 : (0 : Int32).toInt = 0 := by decide
      refine q_turns2 (H := (H.1, rbB B)) hN (fun b => hE b) (fun b => hE2 b) (by omega) hy ⟨nfB, nrB⟩ ra (by rw [hb.2.1]; rfl) (Or.inr hb.1) ams (by omega) m4 es (Q := fun R => CBS (H.1, rbB B) R ∧ (R.i 32 = 0 → B.i 32 = 0 ∧ JJ (H.1, rbB B) (x - 200) y c X P lim (CS.setI R 56 (s.i 56)) ∧ R.o a 16 = s.i 56 ∧ ARQ s R)) (fun R c1 c2 => ⟨c1, fun q => absurd q c2⟩) (fun σ c' jσ tσ uσ oσ => ?_) N B 0 (by rw [e0]; omega) (by omega) (fun _ => by rw [e0]; omega) ti
      refine ok_imp (q_armEnd (by omega) h nf es rB sgB plB nrB hb a49 a18 jσ tσ uσ oσ) (fun R hR => ⟨⟨hR.1.1, fun q => ?_⟩, hR.2⟩)
      obtain ⟨w1, w2, w3⟩ := hR.1.2 q
      exact ⟨nfB, w1.w (by omega) (Int.le_refl _), w2, w3⟩
    · have nfB : ¬ B.i 32 = 0 := fun q => nfp (e32.symm.trans q)
      exact ok_imp (q_turnsO (by omega) (fun z => absurd z nfB)) (fun w hw => by rw [hw]; exact ⟨cb.rb, fun z => absurd z nfB⟩)
  · obtain ⟨hc, hn⟩ := hw
    have st := hc.st m4 ra
    refine ok_chk st.2 ?_
    rw [if_pos bo36]
    by_cases nfw : w.2.i 32 = 0
    · obtain ⟨n1, n2, n3, n4⟩ := hn nfw
      rw [n3]
      have j := n2.bk cb (fun _ => n1)
      refine ok_some ⟨(j.irr ((IRR.rf j.1).i 36 (s.i 36) (by unfold IRJ; omega) (fun _ => bo36))).w (by omega) (Int.le_refl _), fun _ => n4.ex nf⟩
    · have cbw : CBS H w.2 := hc.bk cb (fun q => absurd q nfw)
      have c1 := cbw.s56 (w.2.o a 16)
      have c2 := ((IRR.rf c1).i 36 (s.i 36) (by unfold IRJ; omega) (fun _ => bo36)).cb c1
      have e : ¬ (CS.setI (CS.setI w.2 56 (w.2.o a 16)) 36 (s.i 36)).i 32 = 0 := by
        rw [ci_ne _ _ _ (by decide), ci_ne _ _ _ (by decide)]; exact nfw
      exact ok_some ⟨⟨c2, fun q => absurd q e⟩, fun q => absurd q e⟩
end
