/-! the class's reading: a for of a row; for, whole -/
theorem q_rv60 {N : Nat} {H : HB} {E1 : CS → Option (Unit × CS)} {E2 : CS → Option (Int32 × CS)} {x y : Int} {c : List Nat} {X : List (Nat × List Nat)} {P : List Nat} {lim : List Int} {s : CS} (hx : x ≤ 4500) (hy : y ≤ 92) (h : JJ H x y c X P lim s) (x1 : Int32) : ok (f_X7_rowValues_60 N E1 E2 s x1) (fun R => JJ H (x + 2) y c X P lim R.2 ∧ (R.2.i 32 = 0 → SX 0 0 0 s R.2)) := by
  unfold f_X7_rowValues_60 f_X0_newCells
  refine ok_bind (Q := fun w => IRR s w.2) (ok_some ((IRR.rf h.1).i 23 _ (by unfold IRJ; omega) (by omega))) (fun w hw => ?_)
  have j1 := h.irr hw
  refine ok_bind (q_add N w.2 0 x1) (fun p hp => ?_)
  have j2 := j1.add hp (by omega) (by omega) (fun _ _ _ _ _ _ => IOK.fall (by decide))
  refine ok_bind (q_add N p.2 36 w.1) (fun q hq => ok_some ?_)
  have j3 := j2.add hq (by omega) (by omega) (fun _ _ _ _ _ _ => IOK.fall (by decide))
  refine ⟨j3.w (by omega) (Int.le_refl _), fun z => ?_⟩
  have z1 := hq.f32.1.symm.trans z
  have z2 := hp.f32.1.symm.trans z1
  have z3 := hw.f.1.symm.trans z2
  exact (((hw.sx z3).tr (hp.sx z2)).tr (hq.sx z1)).w (by omega) (by omega) (by omega)
theorem q_rv31 {N : Nat} {H : HB} (hN : 1000 ≤ N) {k : Int} {E1 : CS → Option (Unit × CS)} {E2 : CS → Option (Int32 × CS)} (hE : EC H k E1) {x y : Int} {c : List Nat} {X : List (Nat × List Nat)} {P : List Nat} {lim : List Int} {s : CS} (hx : x ≤ 4000) (hy : y + 3 * k ≤ 90 ∧ 0 ≤ k) (hk : s.i 32 = 0 → 23 - sgI s ≤ k) : ∀ (n : Nat) (σ : CS) (x1 x2 : Int32), 0 ≤ x2.toInt → x2.toInt ≤ 900 → 900 - x2.toInt < n → JJ H x y c X P lim σ → (σ.i 32 = 0 → SX 1 0 0 s σ) → ok (f_X7_rowValues_31 N E1 E2 n σ x1 x2) (fun R => JJ H (x + 2) y c X P lim R.2 ∧ (R.2.i 32 = 0 → SX 1 0 0 s R.2))
  | 0, _, _, _, _, _, h, _, _ => by omega
  | n + 1, σ, x1, x2, h0, h9, hn, hj, he => by
    show ok (b_X7_rowValues_31 N E1 E2 (f_X7_rowValues_31 N E1 E2 n) σ x1 x2) _
    unfold b_X7_rowValues_31
    have e9 : (900 : Int32).toInt = 900 := by decide
    have e1 : (1 : Int32).toInt = 1 := by decide
    have out : ok (f_X7_rowValues_60 N E1 E2 σ x1) (fun R => JJ H (x + 2) y c X P lim R.2 ∧ (R.2.i 32 = 0 → SX 1 0 0 s R.2)) := ok_imp (q_rv60 (by omega) (by omega) hj x1) (fun R hR => ⟨hR.1, fun z => ((he (hR.2 z).1).tr (hR.2 z)).w (by omega) (by omega) (by omega)⟩)
    refine ok_ite (fun _ => out) (fun c9 => ?_)
    have l : x2.toInt < 900 := by
      have := lt_int (Int32.not_le.mp c9)
      rw [e9] at this; exact this
    have es : (x2 + 1).toInt = x2.toInt + 1 := by rw [toInt_add] <;> rw [e1] <;> omega
    refine ok_bind (q_skip hN hj.1 44) (fun p hp => ?_)
    rcases hp with ⟨p1, p2, p3⟩ | ⟨p1, p2, p3⟩
    · rw [if_pos p1, p2]; exact out
    · rw [p1, if_neg (by decide)]
      obtain ⟨j1, t1⟩ := hj.tk p3 (fun _ => by rw [p2]; decide)
      have t1' : p.2.i 32 = 0 → SX 1 0 0 s p.2 := fun z => ((he (t1 z).1).tr (t1 z).sx).w (by omega) (by omega) (by omega)
      refine ok_bind (q_expression (E2 := E2) hN hE _ _ c X P lim p.2 (by omega) (by omega) j1 (fun z => by have := (t1' z).2.2.1; have := hk (t1' z).1; omega)) (fun q hq => ?_)
      exact q_rv31 hN hE hx (by omega) hk n q.2 (x1 + 1) (x2 + 1) (by omega) (by omega) (by omega) (hq.1.w (by omega) (Int.le_refl _)) (fun z => ((t1' (hq.2 z).1).tr (hq.2 z).sx).w (by omega) (by omega) (by omega))
theorem q_throwNull {N : Nat} {H : HB} {x y : Int} {cD c d c1 : List Nat} {X : List (Nat × List Nat)} {P : List Nat} {lim : List Int} {s : CS} (hx : x ≤ 4500) (hy : y ≤ 92) (h : JK H x y cD c d X P lim s) (hl : s.i 32 = 0 → cD.length ≤ 21) : ok (f_X7_throwNull N s) (fun R => JK H (x + 2) y c1 c d X P lim R.2 ∧ (R.2.i 32 = 0 → SX 0 0 0 s R.2) ∧ R.2.i 43 = s.i 43) := by
  unfold f_X7_throwNull
  refine ok_bind (q_add N s 0 0) (fun p hp => ?_)
  have j2 := h.add (c1 := cD) hp (by omega) (by omega) hl (fun _ _ _ _ _ _ => IOK.fall (by decide))
  refine ok_bind (q_add N p.2 63 1) (fun q hq => ok_some ?_)
  have j3 := j2.add (c1 := c1) hq (by omega) (by omega) (fun z => hl (hp.f32.1.symm.trans z)) (fun _ _ _ _ _ _ => IOK.stop (by decide))
  refine ⟨j3.w (by omega) (Int.le_refl _), fun z => ?_, hq.f32.2.1.trans hp.f32.2.1⟩
  have z1 := hq.f32.1.symm.trans z
  have z2 := hp.f32.1.symm.trans z1
  exact ((hp.sx z2).tr (hq.sx z1)).w (by omega) (by omega) (by omega)
theorem q_rowValues {N : Nat} {H : HB} (hN : 1000 ≤ N) {k : Int} {E1 : CS → Option (Unit × CS)} {E2 : CS → Option (Int32 × CS)} (hE : EC H k E1) {x y : Int} {c : List Nat} {X : List (Nat × List Nat)} {P : List Nat} {lim : List Int} {s : CS} (hx : x ≤ 3900) (hy : y + 3 * k ≤ 90 ∧ 0 ≤ k) (h : JJ H x y c X P lim s) (hk : s.i 32 = 0 → 23 - sgI s ≤ k) : ok (f_X7_rowValues N E1 E2 s) (fun R => JJ H (x - 40) y c X P lim R.2 ∧ (R.2.i 32 = 0 → SX 1 0 0 s R.2)) := by
  unfold f_X7_rowValues f_X0_newCells
  refine ok_bind (q_skip hN h.1 224) (fun p hp => ?_)
  rcases hp with ⟨p1, p2, p3⟩ | ⟨p1, p2, p3⟩
  · rw [if_pos p1, p2]
    refine ok_bind (q_expression (E2 := E2) hN hE _ _ c X P lim s (by omega) (by omega) h hk) (fun q hq => ?_)
    refine ok_imp (q_rv31 (x := x - 50) hN hE (by omega) (by omega) hk N q.2 1 0 (by decide) (by decide) (by rw [z_t0]; omega) hq.1 (fun z => (hq.2 z).sx)) (fun R hR => ⟨hR.1.w (by omega) (Int.le_refl _), hR.2⟩)
  · rw [p1, if_neg (by decide)]
    obtain ⟨j1, t1⟩ := h.tk p3 (fun _ => by rw [p2]; decide)
    refine ok_bind (q_throwNull (N := N) (c1 := c) (by omega) (by omega) j1.k (fun z => (j1.ds z).2)) (fun q hq => ?_)
    obtain ⟨j2, t2, -⟩ := hq
    have ir := (IRR.rf j2.1).i 23 (q.2.i 23 + 2) (by unfold IRJ; omega) (by omega)
    refine ok_bind (Q := fun w => w.2 = CS.setI q.2 23 (q.2.i 23 + 2)) (ok_some rfl) (fun w hw => ok_some ?_)
    show JJ H (x - 40) y c X P lim w.2 ∧ (w.2.i 32 = 0 → SX 1 0 0 s w.2)
    rw [hw]
    refine ⟨(JK.j (j2.irr ir)).w (by omega) (Int.le_refl _), fun z => ?_⟩
    have z1 := ir.f.1.symm.trans z
    exact (((t1 (t2 z1).1).sx.tr (t2 z1)).tr (ir.sx z1)).w (by omega) (by omega) (by omega)
theorem q_rowHead {N : Nat} {H : HB} (hN : 1000 ≤ N) {k : Int} {E1 : CS → Option (Unit × CS)} {E2 : CS → Option (Int32 × CS)} (hE : EC H k E1) {x y : Int} {c : List Nat} {X : List (Nat × List Nat)} {P : List Nat} {lim : List Int} {s0 s : CS} (hx : x ≤ 4000) (hy : y + 3 * k ≤ 87 ∧ 0 ≤ k) (h : JJ H x y c X P lim s) (h0 : S0G s0) (hk : 24 - sgI s0 ≤ k) (hs : s.i 32 = 0 → SX 3 3 1 s0 s) (ht : s.i 43 = 58) (x1 : Int64) : ok (f_X7_rowHead N E1 E2 s x1) (fun R => FHP H x (y + 2) c X P lim s0 R) := by
  unfold f_X7_rowHead
  refine ok_bind (q_newTarget N s) (fun p hp => ?_)
  obtain ⟨t1, t2⟩ := hp
  have j1 : JJ H x (y + 1) c _ _ lim p.2 := h.new t1 (by omega) (by omega) c
  have et : s.i 32 = 0 → p.1.toInt = ((tcI s).toNat : Int) := fun z => NTG.t h.k z t2
  have f1 := t1.f
  obtain ⟨t, ht'⟩ : ∃ t, t = (tcI s).toNat := ⟨_, rfl⟩
  rw [← ht'] at j1 et
  refine ok_bind (q_newTarget N p.2) (fun q hq => ?_)
  obtain ⟨u1, u2⟩ := hq
  have j2 : JJ H x (y + 1 + 1) c _ _ lim q.2 := j1.new u1 (by omega) (by omega) c
  have eu : s.i 32 = 0 → q.1.toInt = ((tcI p.2).toNat : Int) := fun z => NTG.t j1.k (f1.1.trans z) u2
  have f2 := u1.f
  obtain ⟨u, hu'⟩ : ∃ u, u = (tcI p.2).toNat := ⟨_, rfl⟩
  rw [← hu'] at j2 eu
  have mu : (u, c) ∈ (u, c) :: (t, c) :: X := List.mem_cons_self ..
  have mt : (t, c) ∈ (u, c) :: (t, c) :: X := List.mem_cons_of_mem _ (List.mem_cons_self ..)
  have hX : ∀ q ∈ X, q ∈ (u, c) :: (t, c) :: X := fun q hq => List.mem_cons_of_mem _ (List.mem_cons_of_mem _ hq)
  generalize hXX : (u, c) :: (t, c) :: X = X1 at *
  clear hXX
  refine ok_bind (q_advC hN j2.1) (fun r hr => ?_)
  obtain ⟨j3, e3⟩ := j2.tk hr (fun _ => by rw [f2.2.1, f1.2.1, ht]; decide)
  have x3 : r.2.i 32 = 0 → s.i 32 = 0 ∧ SX 3 3 1 s0 r.2 := fun z => by
    have z1 := f2.1.symm.trans (e3 z).1
    have z2 := f1.1.symm.trans z1
    exact ⟨z2, ((((hs z2).tr (t1.sx z2)).tr (u1.sx z1)).tr (e3 z).sx).w (by omega) (by omega) (by omega)⟩
  refine ok_bind (q_rowValues (E2 := E2) hN hE (by omega) (by omega) j3 (fun z => by have := (x3 z).2.2.2.1; omega)) (fun a ha => ?_)
  obtain ⟨j4, e4⟩ := ha
  have x4 : a.2.i 32 = 0 → s.i 32 = 0 ∧ SX 3 3 1 s0 a.2 := fun z => ⟨(x3 (e4 z).1).1, ((x3 (e4 z).1).2.tr (e4 z)).w (by omega) (by omega) (by omega)⟩
  refine ok_bind (q_clos hN j4 (fun z => ?_) 41 (by decide)) (fun b hb => ?_)
  · have sx := (x4 z).2
    have ecn : cnI a.2 = cnI s0 := by unfold cnI; rw [sx.2.2.2.1.2.1]
    obtain ⟨i1, i2, i3, i4, i5⟩ := sx.2.2.2.2.2.1.sums h0.2.1
    have := sx.2.2.1
    have := h0.2.2.2.2.1.2
    have := h0.2.2.2.2.2.2.2.2
    rw [ecn, i2]
    omega
  obtain ⟨j5, m5⟩ := hb
  have x5 : b.2.i 32 = 0 → s.i 32 = 0 ∧ SX 3 3 0 s0 b.2 := fun z => ⟨(x4 (m5 z).1).1, ((x4 (m5 z).1).2.tr (m5 z).sx).w (by omega) (by omega) (by omega)⟩
  refine ok_bind (q_aim N b.2 p.1) (fun d hd => ?_)
  have j6 : JJ H (x - 100 - 40 - 100) (y + 1 + 1) c X1 (u :: P) lim d.2 := j5.aimF hd (by omega) (by omega) (fun z => by
    have z1 := (x5 z).1
    refine ⟨⟨t, et z1, mt⟩, fun k hk => ?_⟩
    rcases List.mem_cons.mp hk with e | e
    · left; rw [e]; exact List.mem_cons_self ..
    · rcases List.mem_cons.mp e with e | e
      · right; rw [e]; exact (et z1).symm
      · left; exact List.mem_cons_of_mem _ e)
  have x6 : d.2.i 32 = 0 → s.i 32 = 0 ∧ SX 3 3 0 s0 d.2 := fun z => by
    have z1 := hd.f.1.symm.trans z
    exact ⟨(x5 z1).1, ((x5 z1).2.tr (hd.sx z1)).w (by omega) (by omega) (by omega)⟩
  refine ok_bind (q_add N d.2 37 a.1) (fun e he => ?_)
  have j7 := j6.add he (by omega) (by omega) (fun _ _ _ _ _ _ => IOK.fall (by decide))
  have x7 : e.2.i 32 = 0 → s.i 32 = 0 ∧ SX 3 3 0 s0 e.2 := fun z => by
    have z1 := he.f32.1.symm.trans z
    exact ⟨(x6 z1).1, ((x6 z1).2.tr (he.sx z1)).w (by omega) (by omega) (by omega)⟩
  refine ok_bind (q_add N e.2 31 q.1) (fun f hf => ?_)
  have j8 := j7.add hf (by omega) (by omega) (fun z DT KT qX _ _ => IOK.jmp (by decide) (eu (x7 z).1) mu qX)
  have x8 : f.2.i 32 = 0 → s.i 32 = 0 ∧ SX 3 3 0 s0 f.2 := fun z => by
    have z1 := hf.f32.1.symm.trans z
    exact ⟨(x7 z1).1, ((x7 z1).2.tr (hf.sx z1)).w (by omega) (by omega) (by omega)⟩
  refine ok_bind (q_add N f.2 51 0) (fun g hg => ?_)
  have j9 := j8.add hg (by omega) (by omega) (fun _ _ _ _ _ _ => IOK.fall (by decide))
  have x9 : g.2.i 32 = 0 → s.i 32 = 0 ∧ SX 3 3 0 s0 g.2 := fun z => by
    have z1 := hg.f32.1.symm.trans z
    exact ⟨(x8 z1).1, ((x8 z1).2.tr (hg.sx z1)).w (by omega) (by omega) (by omega)⟩
  refine ok_bind (q_add N g.2 38 a.1) (fun i hi => ?_)
  have k1 := j9.add hi (by omega) (by omega) (fun _ _ _ _ _ _ => IOK.fall (by decide))
  have y1 : i.2.i 32 = 0 → s.i 32 = 0 ∧ SX 3 3 0 s0 i.2 := fun z => by
    have z1 := hi.f32.1.symm.trans z
    exact ⟨(x9 z1).1, ((x9 z1).2.tr (hi.sx z1)).w (by omega) (by omega) (by omega)⟩
  refine ok_bind (q_tell (N := N) k1 x1) (fun l hl => ?_)
  obtain ⟨k2, y2'⟩ := hl
  have y2 : l.2.i 32 = 0 → s.i 32 = 0 ∧ SX 3 3 0 s0 l.2 := fun z => ⟨(y1 (y2' z).1).1, ((y1 (y2' z).1).2.tr (y2' z)).w (by omega) (by omega) (by omega)⟩
  refine ok_bind (q_add N l.2 2 l.1) (fun o ho => ?_)
  have k3 := k2.add ho (by omega) (by omega) (fun _ _ _ _ _ _ => IOK.fall (by decide))
  have y3 : o.2.i 32 = 0 → s.i 32 = 0 ∧ SX 3 3 0 s0 o.2 := fun z => by
    have z1 := ho.f32.1.symm.trans z
    exact ⟨(y2 z1).1, ((y2 z1).2.tr (ho.sx z1)).w (by omega) (by omega) (by omega)⟩
  refine ok_bind (q_pushLoop (N := N) k3.k (fun z => (y3 z).2) 304 p.1 q.1) (fun w hw => ?_)
  obtain ⟨v, b', m, r1, px, ⟨o0, o2, o3⟩, ⟨o9, o10⟩, ri, ra⟩ := hw
  rw [r1]
  show ok (some ((some b'), w.2)) _
  have nw : w.2.i 32 = 0 → s.i 32 = 0 := fun z => by
    rw [ri 32 (by decide) (by decide)] at z
    exact (y3 z).1
  refine ok_some ⟨v, b', m, X1, u :: P, rfl, px.w (by omega) (by omega), hX, Or.inr (Or.inr o0), o2, fun z => ⟨u, ?_⟩, fun z => ⟨t, ?_⟩, fun z k hk => ?_⟩
  · show (w.2.o b' 9).toInt = (u : Int) ∧ (u, c) ∈ X1
    rw [o9]; exact ⟨eu (nw z), mu⟩
  · show (w.2.o b' 10).toInt = (t : Int) ∧ (t, c) ∈ X1
    rw [o10]; exact ⟨et (nw z), mt⟩
  · show k ∈ P ∨ (w.2.o b' 9).toInt = (k : Int)
    rcases List.mem_cons.mp hk with e | e
    · right; rw [o9, e]; exact eu (nw z)
    · exact Or.inl e
