/-! the class's reading: int, log, return, throw, assert -/
theorem IOK.stop {tc : Int} {DT : Nat → List Nat} {KT : Nat → Prop} {o x : Int32} {c c1 : List Nat} (h : o.toInt = 50 ∨ o.toInt = 62 ∨ o.toInt = 63) : IOK tc DT KT o x c c1 := ⟨fun q => by omega, fun q => by omega, fun q r => by omega, fun q => by omega, fun q => by omega, fun q => by omega, fun q => by omega, fun q => by omega, fun q => by omega, fun q => by omega, fun q => by omega, fun q => by omega, by omega⟩
theorem q_newName {N : Nat} {H : HB} (hN : 1000 ≤ N) {x y : Int} {c : List Nat} {X : List (Nat × List Nat)} {P : List Nat} {lim : List Int} {s : CS} (h : JJ H x y c X P lim s) : ok (f_X7_newName N s) (fun R => JJ H (x - 100) y c X P lim R.2 ∧ (R.2.i 32 = 0 → EXR s R.2)) := by
  unfold f_X7_newName f_X7_newName_56
  refine ok_bind (q_found s 2) (fun p hp => ?_)
  obtain ⟨p1, p2⟩ := hp
  rw [p1]
  rcases p2 with ⟨p2, p3⟩ | ⟨p2, p3⟩
  · rw [if_pos p2]
    exact ok_bind (q_misp h.1) (fun q hq => ok_some ⟨JJ.flt h.1 hq, fun z => absurd z hq.2.2.2.1⟩)
  · rw [p2, if_neg (by decide)]
    refine ok_bind (q_find hN h.1.2.2.2.2.2.1 s.l) (fun q hq => ?_)
    rw [hq.1]
    refine ok_ite (fun _ => ok_bind (q_advC hN h.1) (fun r hr => ok_some ?_)) (fun _ => ok_bind (q_failC h.1 4 _ (by decide)) (fun r hr => ok_some ⟨JJ.flt h.1 hr, fun z => absurd z hr.2.2.2.1⟩))
    exact h.tk hr (fun _ => by rw [p3]; decide)
theorem q_tell {N : Nat} {H : HB} {x y : Int} {c : List Nat} {X : List (Nat × List Nat)} {P : List Nat} {lim : List Int} {s : CS} (h : JJ H x y c X P lim s) (x1 : Int64) : ok (f_X7_tell N s x1) (fun R => JJ H x y c X P lim R.2 ∧ (R.2.i 32 = 0 → SX 0 0 0 s R.2)) := by
  unfold f_X7_tell f_X0_newCells
  refine ok_bind (Q := fun w => IRR s w.2) (ok_some ((IRR.rf h.1).i 23 _ (by unfold IRJ; omega) (by omega))) (fun w hw => ?_)
  have j1 := h.irr hw
  refine ok_bind (q_nad j1.1.2.2.2.2.2.1 x1 w.1 (-1)) (fun n hn => ok_some ?_)
  have j2 := j1.k.nad hn (fun _ => Or.inl (by decide))
  have ir := (IRR.rf j2.1).i 25 (n.2.i 25 + 1) (by unfold IRJ; omega) (by omega)
  refine ⟨JK.j (j2.irr ir), fun z => ?_⟩
  have z1 := ir.f.1.symm.trans z
  have z2 := hn.f.1.symm.trans z1
  have z3 := hw.f.1.symm.trans z2
  exact (((hw.sx z3).tr (hn.sx z2)).tr (ir.sx z1)).w (by omega) (by omega) (by omega)
theorem q_define {N : Nat} {H : HB} (hN : 1000 ≤ N) {k : Int} {E1 : CS → Option (Unit × CS)} {E2 : CS → Option (Int32 × CS)} (hE : EC H k E1) {x y : Int} {c : List Nat} {X : List (Nat × List Nat)} {P : List Nat} {lim : List Int} {s : CS} (hx : x ≤ 4000) (hy : y + 3 * k ≤ 90 ∧ 0 ≤ k) (h : JJ H x y c X P lim s) (hk : s.i 32 = 0 → 23 - sgI s ≤ k) (x1 : Int64) : ok (f_X7_define N E1 E2 s x1) (fun R => JJ H (x - 100) y c X P lim R.2 ∧ (R.2.i 32 = 0 → SX 2 0 0 s R.2)) := by
  unfold f_X7_define
  refine ok_bind (q_expJ hN h 61 (by decide)) (fun p hp => ?_)
  obtain ⟨j1, e1⟩ := hp
  refine ok_bind (q_expression (E2 := E2) hN hE (x - 100) y c X P lim p.2 (by omega) (by omega) j1 (fun z => by rw [(e1 z).sg]; exact hk (e1 z).1)) (fun q hq => ?_)
  obtain ⟨j2, e2⟩ := hq
  refine ok_bind (q_tell (N := N) j2 x1) (fun r hr => ?_)
  obtain ⟨j3, e3⟩ := hr
  refine ok_bind (q_add N r.2 2 r.1) (fun u hu => ok_some ?_)
  have j4 := j3.add hu (by omega) (by omega) (fun _ _ _ _ _ _ => IOK.fall (by decide))
  refine ⟨j4.w (by omega) (Int.le_refl _), fun z => ?_⟩
  have z1 := hu.f32.1.symm.trans z
  have z2 := (e3 z1).1
  exact (((((e1 (e2 z2).1).sx.tr (e2 z2).sx)).tr (e3 z1)).tr (hu.sx z1)).w (by omega) (by omega) (by omega)
/-- a word is taken -/
theorem JJ.word {H : HB} {x y : Int} {c : List Nat} {X : List (Nat × List Nat)} {P : List Nat} {lim : List Int} {s R : CS} (h : JJ H x y c X P lim s) (ha : ADV s R) (hw : s.i 32 = 0 → 200 ≤ (s.i 43).toInt) : JJ H (x - 200) (y - 3) c X P lim R ∧ (R.i 32 = 0 → SX 2 3 0 s R) := by
  refine ⟨h.adv ha (fun q => ?_), fun q => ?_⟩
  · have wd := ha.wd h.1.2.2.1 (Or.inl (hw q))
    omega
  · have q' := ha.f32.symm.trans q
    exact ha.smr.sx q' (ha.wd h.1.2.2.1 (Or.inl (hw q')))
theorem q_int {N : Nat} {H : HB} (hN : 1000 ≤ N) {k : Int} {E1 : CS → Option (Unit × CS)} {E2 : CS → Option (Int32 × CS)} (hE : EC H k E1) {x y : Int} {c : List Nat} {X : List (Nat × List Nat)} {P : List Nat} {lim : List Int} {s : CS} (hx : x ≤ 4000) (hy : y + 3 * k ≤ 87 ∧ 0 ≤ k) (h : JJ H x y c X P lim s) (h0 : S0G s) (hk : 24 - sgI s ≤ k) (ht : 200 ≤ (s.i 43).toInt) : ok ((f_X9_advance N s).bind fun p7 => (f_X7_newName N p7.2).bind fun p11 => (f_X7_define N E1 E2 p11.2 p11.1).bind fun p15 => (f_X1_expect N p15.2 59).bind fun p19 => some ((), p19.2)) (fun R => STQ H (x - 20) y X P lim s R.2) := by
  refine ok_bind (q_advC hN h.1) (fun p hp => ?_)
  obtain ⟨j1, e1⟩ := h.word hp (fun _ => ht)
  refine ok_bind (q_newName hN j1) (fun q hq => ?_)
  obtain ⟨j2, e2⟩ := hq
  refine ok_bind (q_define (E2 := E2) hN hE (by omega) (by omega) j2 (fun z => by have := (e2 z).sg; have := (e1 (e2 z).1).2.2.1; omega) q.1) (fun r hr => ?_)
  obtain ⟨j3, e3⟩ := hr
  refine ok_bind (q_expJ hN j3 59 (by decide)) (fun u hu => ok_some ?_)
  obtain ⟨j4, e4⟩ := hu
  refine STQ.pl (p := 1) (g := 0) (j4.w (by omega) (by omega)) h0 (fun z => ?_) (by omega) (by omega)
  have z1 := (e4 z).1
  have z2 := (e3 z1).1
  exact ((((e1 (e2 z2).1).tr (e2 z2).sx).tr (e3 z1)).tr (e4 z).sx).w (by omega) (by omega) (by omega)
theorem q_log {N : Nat} {H : HB} (hN : 1000 ≤ N) {k : Int} {E1 : CS → Option (Unit × CS)} {E2 : CS → Option (Int32 × CS)} (hE : EC H k E1) {x y : Int} {c : List Nat} {X : List (Nat × List Nat)} {P : List Nat} {lim : List Int} {s : CS} (hx : x ≤ 4000) (hy : y + 3 * k ≤ 87 ∧ 0 ≤ k) (h : JJ H x y c X P lim s) (h0 : S0G s) (hk : 24 - sgI s ≤ k) (ht : 200 ≤ (s.i 43).toInt) : ok ((f_X9_advance N s).bind fun p41 => (f_X1_expression N E1 E2 p41.2).bind fun p45 => (f_X0_add N p45.2 52 0).bind fun p49 => (f_X1_expect N p49.2 59).bind fun p53 => some ((), p53.2)) (fun R => STQ H (x - 20) y X P lim s R.2) := by
  refine ok_bind (q_advC hN h.1) (fun p hp => ?_)
  obtain ⟨j1, e1⟩ := h.word hp (fun _ => ht)
  refine ok_bind (q_expression (E2 := E2) hN hE _ _ c X P lim p.2 (by omega) (by omega) j1 (fun z => by have := (e1 z).2.2.1; omega)) (fun q hq => ?_)
  obtain ⟨j2, e2⟩ := hq
  refine ok_bind (q_add N q.2 52 0) (fun r hr => ?_)
  have j3 := j2.add hr (by omega) (by omega) (fun _ _ _ _ _ _ => IOK.fall (by decide))
  refine ok_bind (q_expJ hN j3 59 (by decide)) (fun u hu => ok_some ?_)
  obtain ⟨j4, e4⟩ := hu
  refine STQ.pl (p := 1) (g := 0) (j4.w (by omega) (by omega)) h0 (fun z => ?_) (by omega) (by omega)
  have z1 := (e4 z).1
  have z2 := hr.f32.1.symm.trans z1
  exact ((((e1 (e2 z2).1).tr (e2 z2).sx).tr (hr.sx z2)).tr (e4 z).sx).w (by omega) (by omega) (by omega)
/-- the end of a statement that is not gone past -/
theorem q_endS {N : Nat} {H : HB} (hN : 1000 ≤ N) {x y p g : Int} {c : List Nat} {X : List (Nat × List Nat)} {P : List Nat} {lim : List Int} {s0 s : CS} (h : JJ H x y c X P lim s) (h0 : S0G s0) (hs : s.i 32 = 0 → SX p g 0 s0 s) (hp : 0 ≤ p) (hg : 0 ≤ g) : ok ((f_X1_expect N s 59).bind fun p14 => some ((), CS.setI p14.2 36 0)) (fun R => STQ H (x - 100) y X P lim s0 R.2) := by
  refine ok_bind (q_expJ hN h 59 (by decide)) (fun u hu => ok_some ?_)
  obtain ⟨j4, e4⟩ := hu
  have ir := (IRR.rf j4.1).i 36 0 (by unfold IRJ; omega) (fun _ => Or.inl rfl)
  refine STQ.pl (p := 1) (g := 0) (j4.irr ir) h0 (fun z => ?_) (by omega) (by omega)
  have z1 := ir.f.1.symm.trans z
  exact (((hs (e4 z1).1).tr (e4 z1).sx).tr (ir.sx z1)).w (by omega) (by omega) (by omega)
theorem q_giveBack {N : Nat} {H : HB} (hN : 1000 ≤ N) {k : Int} {E1 : CS → Option (Unit × CS)} {E2 : CS → Option (Int32 × CS)} (hE : EC H k E1) {x y : Int} {c : List Nat} {X : List (Nat × List Nat)} {P : List Nat} {lim : List Int} {s : CS} (hx : x ≤ 4000) (hy : y + 3 * k ≤ 87 ∧ 0 ≤ k) (h : JJ H x y c X P lim s) (h0 : S0G s) (hk : 24 - sgI s ≤ k) (ht : 200 ≤ (s.i 43).toInt) : ok (f_X7_giveBack N E1 E2 s) (fun R => STQ H (x - 20) y X P lim s R.2) := by
  have go : ∀ u : CS, JJ H x y c X P lim u → (u.i 32 = 0 → u = s) → ok (f_X7_giveBack_22 N E1 E2 u) (fun R => STQ H (x - 20) y X P lim s R.2) := fun u ju hu => by
    unfold f_X7_giveBack_22
    refine ok_bind (q_advC hN ju.1) (fun p hp => ?_)
    obtain ⟨j1, e1⟩ := ju.word hp (fun z => by rw [hu z]; exact ht)
    have e1' : p.2.i 32 = 0 → SX 2 3 0 s p.2 := fun z => by
      have w := e1 z
      rw [hu w.1] at w
      exact w
    refine ok_bind (q_expression (E2 := E2) hN hE _ _ c X P lim p.2 (by omega) (by omega) j1 (fun z => by have := (e1' z).2.2.1; omega)) (fun q hq => ?_)
    obtain ⟨j2, e2⟩ := hq
    refine ok_bind (q_add N q.2 62 0) (fun r hr => ?_)
    have j3 := j2.add hr (by omega) (by omega) (fun _ _ _ _ _ _ => IOK.stop (by decide))
    refine ok_imp (q_endS (p := 0) (g := 0) hN j3 h0 (fun z => ?_) (by omega) (by omega)) (fun R hR => hR.w (by omega) (by omega))
    have z2 := hr.f32.1.symm.trans z
    exact (((e1' (e2 z2).1).tr (e2 z2).sx).tr (hr.sx z2)).w (by omega) (by omega) (by omega)
  unfold f_X7_giveBack
  exact ok_ite (fun _ => go s h (fun _ => rfl)) (fun _ => ok_bind (q_failC h.1 5 _ (by decide)) (fun p hp => go p.2 (JJ.flt h.1 hp) (fun z => absurd z hp.2.2.2.1)))
theorem q_throwOne {N : Nat} {H : HB} (hN : 1000 ≤ N) {k : Int} {E1 : CS → Option (Unit × CS)} {E2 : CS → Option (Int32 × CS)} (hE : EC H k E1) {x y : Int} {c : List Nat} {X : List (Nat × List Nat)} {P : List Nat} {lim : List Int} {s : CS} (hx : x ≤ 4000) (hy : y + 3 * k ≤ 87 ∧ 0 ≤ k) (h : JJ H x y c X P lim s) (h0 : S0G s) (hk : 24 - sgI s ≤ k) (ht : 200 ≤ (s.i 43).toInt) : ok (f_X7_throwOne N E1 E2 s) (fun R => STQ H (x - 20) y X P lim s R.2) := by
  unfold f_X7_throwOne f_X7_throwOne_108 f_X4_isCaught f_X4_frameOf
  refine ok_bind (q_advC hN h.1) (fun p hp => ?_)
  obtain ⟨j1, e1⟩ := h.word hp (fun _ => ht)
  have e152 : ∀ (u : CS) (x' : Int), x' ≤ x → JJ H x' (y - 3) c X P lim u → (u.i 32 = 0 → SX 2 0 0 s u) → ok (f_X7_throwOne_152 N E1 E2 u) (fun R => STQ H (x - 20) y X P lim s R.2) := fun u x' hx' ju hu => by
    unfold f_X7_throwOne_152
    exact ok_imp (q_endS (p := 2) (g := 0) hN ju h0 hu (by omega) (by omega)) (fun R hR => hR.w (by omega) (by omega))
  have fl : ok ((f_X1_fail N p.2 3 (p.2.i 44)).bind fun p28 => some ((), p28.2)) (fun R => STQ H (x - 20) y X P lim s R.2) := ok_bind (q_failC j1.1 3 _ (by decide)) (fun q hq => ok_some (STQ.flt j1.1 hq))
  refine ok_bind (q_found p.2 5) (fun q hq => ?_)
  obtain ⟨q1, q2⟩ := hq
  rw [q1]
  rcases q2 with ⟨q2, q3⟩ | ⟨q2, q3⟩
  · rw [if_pos q2]
    refine ok_bind (q_found p.2 2) (fun r hr => ?_)
    obtain ⟨r1, r2⟩ := hr
    rw [r1]
    rcases r2 with ⟨r2, r3⟩ | ⟨r2, r3⟩
    · rw [if_pos r2]
      exact ok_bind (q_misp j1.1) (fun u hu => e152 u.2 x (Int.le_refl _) (JJ.flt j1.1 hu) (fun z => absurd z hu.2.2.2.1))
    · rw [r2, if_neg (by decide)]
      refine ok_bind (q_find hN j1.1.2.2.2.2.2.1 p.2.l) (fun f hf => ?_)
      rw [hf.1]
      refine ok_ite (fun _ => fl) (fun cf => ?_)
      have f0 := hf.2 (Int32.not_lt.mp cf)
      refine ok_bind (Q := fun w => w.2 = p.2 ∧ (¬ w.1 = 0 → ¬ gAt (p.2.a 49) 128 f.1 < 0)) (ok_ite (fun _ => ok_some ⟨rfl, fun z => absurd rfl z⟩) (fun g => ok_some ⟨rfl, fun _ => g⟩)) (fun w hw => ?_)
      rw [hw.1]
      refine ok_ite (fun _ => fl) (fun cw => ?_)
      refine ok_bind (Q := fun w => w.2 = p.2 ∧ w.1 = gAt (p.2.a 49) 128 f.1) (ok_some ⟨rfl, rfl⟩) (fun t ht' => ?_)
      rw [ht'.1]
      refine ok_bind (q_add N p.2 64 t.1) (fun a ha => ?_)
      have nm := j1.1.2.2.2.2.2.1
      have j2 := j1.add ha (by omega) (by omega) (fun _ DT KT _ _ qN => by
        have ib' : ib f.1 128 := ⟨f0.1, by omega⟩
        have cl := clampI f0.1
        have eg : t.1 = p.2.a 49 f.1.toNatClampNeg := by
          rw [ht'.2]
          unfold gAt
          exact if_pos ib'
        have ne := hw.2 cw
        rw [← ht'.2] at ne
        have ge := le_int (Int32.not_lt.mp ne)
        rw [z_t0] at ge
        have z := qN f.1.toNatClampNeg (by omega)
        rw [← eg] at z
        have at2 : AT2 c t.1 := by
          rcases z with z | z
          · omega
          · exact z
        exact ⟨fun q => absurd q (by decide), fun q => absurd q (by decide), fun _ q => absurd q (by decide), fun _ q => absurd q (by decide), fun q => absurd q (by decide), fun q => absurd q (by decide), fun q => absurd q (by decide), fun q => absurd q (by decide), fun q => absurd q (by decide), fun q => absurd q (by decide), fun q => absurd q (by decide), fun _ => at2, by decide⟩)
      refine ok_bind (q_advC hN j2.1) (fun b hb => ?_)
      have f32 := ha.f32
      obtain ⟨j3, e3⟩ := j2.tk hb (fun _ => by rw [f32.2.1, r3]; decide)
      refine e152 b.2 _ (by omega) j3 (fun z => ?_)
      have z1 := (e3 z).1
      have z2 := f32.1.symm.trans z1
      exact (((e1 z2).tr (ha.sx z2)).tr (e3 z).sx).w (by omega) (by omega) (by omega)
  · rw [q2, if_neg (by decide)]
    have e46 : ∀ (u : CS) (x1 : Int32), JJ H (x - 200) (y - 3) c X P lim u → (u.i 32 = 0 → u = p.2) → ok (f_X7_throwOne_46 N E1 E2 u x1) (fun R => STQ H (x - 20) y X P lim s R.2) := fun u x1 ju hu => by
      unfold f_X7_throwOne_46
      refine ok_bind (q_advC hN ju.1) (fun b hb => ?_)
      obtain ⟨j2, e2⟩ := ju.tk hb (fun z => by rw [hu z, q3]; decide)
      have e2' : b.2.i 32 = 0 → SX 2 0 0 s b.2 := fun z => by
        have w := e2 z
        rw [hu w.1] at w
        exact ((e1 w.1).tr w.sx).w (by omega) (by omega) (by omega)
      refine ok_bind (q_expression (E2 := E2) hN hE _ _ c X P lim b.2 (by omega) (by omega) j2 (fun z => by have := (e2' z).2.2.1; omega)) (fun d hd => ?_)
      obtain ⟨j3, e3⟩ := hd
      refine ok_bind (q_add N d.2 63 x1) (fun r hr => ?_)
      have j4 := j3.add hr (by omega) (by omega) (fun _ _ _ _ _ _ => IOK.stop (by decide))
      refine e152 r.2 _ (by omega) j4 (fun z => ?_)
      have z2 := hr.f32.1.symm.trans z
      exact (((e2' (e3 z2).1).tr (e3 z2).sx).tr (hr.sx z2)).w (by omega) (by omega) (by omega)
    refine ok_bind (Q := fun w => w.2 = p.2) (by
      unfold f_X10_isKind f_X10_isKind_16
      exact ok_ite (fun _ => ok_some rfl) (fun _ => ok_ite (fun _ => ok_some rfl) (fun _ => ok_some rfl))) (fun w hw => ?_)
    rw [hw]
    refine ok_ite (fun _ => ok_bind (q_failC j1.1 3 _ (by decide)) (fun u hu => e46 u.2 _ (JJ.flt j1.1 hu) (fun z => absurd z hu.2.2.2.1))) (fun _ => e46 p.2 _ j1 (fun _ => rfl))
