/-! the class's reading: names that get something -/
theorem q_expK {N : Nat} {H : HB} (hN : 1000 ≤ N) {x y : Int} {cD c d : List Nat} {X : List (Nat × List Nat)} {P : List Nat} {lim : List Int} {s : CS} (h : JK H x y cD c d X P lim s) (v : Int32) (hv : ¬ v = 0) : ok (f_X1_expect N s v) (fun R => JK H (x - 100) y cD c d X P lim R.2 ∧ (R.2.i 32 = 0 → EXR s R.2)) := by
  refine ok_imp (q_expect hN h.1 v) (fun R hR => ?_)
  rcases hR with hf | ⟨e, ha⟩
  · exact ⟨JK.flt h.1 hf, fun q => absurd q hf.2.2.2.1⟩
  · have tk := ha.tk1 h.1.2.2.1 (by rw [e]; exact hv)
    exact ⟨h.adv ha (fun _ => by omega), fun q => ⟨ha.f32.symm.trans q, tk, ha.smr⟩⟩
theorem q_expJ {N : Nat} {H : HB} (hN : 1000 ≤ N) {x y : Int} {c : List Nat} {X : List (Nat × List Nat)} {P : List Nat} {lim : List Int} {s : CS} (h : JJ H x y c X P lim s) (v : Int32) (hv : ¬ v = 0) : ok (f_X1_expect N s v) (fun R => JJ H (x - 100) y c X P lim R.2 ∧ (R.2.i 32 = 0 → EXR s R.2)) := q_expK hN h.k v hv
theorem q_ch72 {N : Nat} {H : HB} (hN : 1000 ≤ N) {k : Int} {E1 : CS → Option (Unit × CS)} {E2 : CS → Option (Int32 × CS)} (hE : EC H k E1) {x y : Int} {c : List Nat} {X : List (Nat × List Nat)} {P : List Nat} {lim : List Int} {s : CS} (hx : x ≤ 4000) (hy : y + 3 * k ≤ 90 ∧ 0 ≤ k) (h : JJ H x y c X P lim s) (hk : s.i 32 = 0 → 23 - sgI s ≤ k) (x5 x6 : Int32) (h6 : x6 = 0 ∨ s.i 43 = 61 ∨ s.i 43 = 135) : ok (f_X7_change_72 N E1 E2 s x5 x6) (fun R => JJ H (x - 20) y c X P lim R.2 ∧ (R.2.i 32 = 0 → EXR s R.2)) := by
  unfold f_X7_change_72 f_X4_cellOf
  refine ok_ite (fun _ => ok_bind (q_misp h.1) (fun p hp => ok_some ⟨JJ.flt h.1 hp, fun z => absurd z hp.2.2.2.1⟩)) (fun c6 => ?_)
  refine ok_bind (q_skip hN h.1 135) (fun p hp => ?_)
  rcases hp with ⟨p1, p2, p3⟩ | ⟨p1, p2, p3⟩
  · rw [if_pos p1, p2]
    have e61 : s.i 43 = 61 := by
      rcases h6 with z | z | z
      · exact absurd z c6
      · exact z
      · exact absurd z p3
    refine ok_bind (q_advC hN h.1) (fun q hq => ?_)
    obtain ⟨j1, e1⟩ := h.tk hq (fun _ => by rw [e61]; decide)
    refine ok_bind (q_expression (E2 := E2) hN hE (x - 100) y c X P lim q.2 (by omega) (by omega) j1 (fun z => by rw [(e1 z).sg]; exact hk (e1 z).1)) (fun r hr => ?_)
    obtain ⟨j2, e2⟩ := hr
    refine ok_bind (Q := fun w => w.2 = r.2) (ok_some rfl) (fun w hw => ?_)
    rw [hw]
    refine ok_bind (q_add N r.2 2 w.1) (fun u hu => ok_some ?_)
    have j3 := j2.add hu (by omega) (by omega) (fun _ _ _ _ _ _ => IOK.fall (by decide))
    refine ⟨j3.w (by omega) (Int.le_refl _), fun z => ?_⟩
    have z' := hu.f32.1.symm.trans z
    have ex := (e1 (e2 z').1).tr (e2 z')
    have pl := hu.pl
    exact ⟨ex.1, ⟨by rw [pl.1]; exact ex.2.1.1, by rw [pl.2]; exact ex.2.1.2⟩, ex.2.2.tr hu.smr⟩
  · rw [p1, if_neg (by decide)]
    obtain ⟨j1, e1⟩ := h.tk p3 (fun _ => by rw [p2]; decide)
    refine ok_bind (Q := fun w => w.2 = p.2) (ok_some rfl) (fun w hw => ?_)
    rw [hw]
    refine ok_bind (q_add N p.2 3 w.1) (fun u hu => ok_some ?_)
    have j3 := j1.add hu (by omega) (by omega) (fun _ _ _ _ _ _ => IOK.fall (by decide))
    refine ⟨j3.w (by omega) (Int.le_refl _), fun z => ?_⟩
    have ex := e1 (hu.f32.1.symm.trans z)
    have pl := hu.pl
    exact ⟨ex.1, ⟨by rw [pl.1]; exact ex.2.1.1, by rw [pl.2]; exact ex.2.1.2⟩, ex.2.2.tr hu.smr⟩
theorem q_change {N : Nat} {H : HB} (hN : 1000 ≤ N) {k : Int} {E1 : CS → Option (Unit × CS)} {E2 : CS → Option (Int32 × CS)} (hE : EC H k E1) {x y : Int} {c : List Nat} {X : List (Nat × List Nat)} {P : List Nat} {lim : List Int} {s : CS} (hx : x ≤ 4000) (hy : y + 3 * k ≤ 90 ∧ 0 ≤ k) (h : JJ H x y c X P lim s) (hk : s.i 32 = 0 → 23 - sgI s ≤ k) (x1 : Int64) (x3 x4 : Int32) : ok (f_X7_change N E1 E2 s x1 x3 x4) (fun R => JJ H (x - 20) y c X P lim R.2 ∧ (R.2.i 32 = 0 → EXR s R.2)) := by
  have c41 : ∀ x5 x6 : Int32, (x6 = 0 ∨ s.i 43 = 61 ∨ s.i 43 = 135) → ok (f_X7_change_41 N E1 E2 s x3 x5 x6) (fun R => JJ H (x - 20) y c X P lim R.2 ∧ (R.2.i 32 = 0 → EXR s R.2)) := fun x5 x6 h6 => by
    unfold f_X7_change_41 f_X7_change_63 f_X4_isCaught
    have fl : ok ((f_X1_fail N s 3 x3).bind fun p11 => some ((), p11.2)) (fun R => JJ H (x - 20) y c X P lim R.2 ∧ (R.2.i 32 = 0 → EXR s R.2)) := ok_bind (q_failC h.1 3 _ (by decide)) (fun p hp => ok_some ⟨JJ.flt h.1 hp, fun z => absurd z hp.2.2.2.1⟩)
    refine ok_ite (fun _ => fl) (fun _ => ok_ite (fun _ => q_ch72 hN hE hx hy h hk x5 x6 h6) (fun _ => ?_))
    refine ok_bind (Q := fun w => w.2 = s) (ok_ite (fun _ => ok_some rfl) (fun _ => ok_some rfl)) (fun w hw => ?_)
    rw [hw]
    exact ok_ite (fun _ => q_ch72 hN hE hx hy h hk x5 x6 h6) (fun _ => fl)
  unfold f_X7_change f_X7_change_38 f_X7_change_34
  refine ok_bind (q_find hN h.1.2.2.2.2.2.1 x1) (fun p hp => ?_)
  rw [hp.1]
  refine ok_bind (q_found s 61) (fun q hq => ?_)
  obtain ⟨q1, q2⟩ := hq
  rw [q1]
  rcases q2 with ⟨q2, q3⟩ | ⟨q2, q3⟩
  · rw [if_pos q2]
    refine ok_ite (fun _ => c41 _ 0 (Or.inl rfl)) (fun _ => ?_)
    refine ok_bind (q_found s 135) (fun r hr => ?_)
    obtain ⟨r1, r2⟩ := hr
    rw [r1]
    rcases r2 with ⟨r2, r3⟩ | ⟨r2, r3⟩
    · rw [if_pos r2]; exact c41 _ 0 (Or.inl rfl)
    · rw [r2, if_neg (by decide)]; exact c41 _ 1 (Or.inr (Or.inr r3))
  · rw [q2, if_neg (by decide)]; exact c41 _ 1 (Or.inr (Or.inl q3))
theorem q_named {N : Nat} {H : HB} (hN : 10000000000 ≤ N) {k : Int} {E1 : CS → Option (Unit × CS)} {E2 : CS → Option (Int32 × CS)} (hE : EC H k E1) {x y : Int} {c : List Nat} {X : List (Nat × List Nat)} {P : List Nat} {lim : List Int} {s : CS} (hx : x ≤ 4000) (hy : y + 3 * k ≤ 87 ∧ 0 ≤ k) (h : JJ H x y c X P lim s) (h0 : S0G s) (hk : 24 - sgI s ≤ k) (ht : s.i 43 = 2) : ok (f_X7_named N E1 E2 s) (fun R => STQ H (x - 20) y X P lim s R.2) := by
  have hN1 : 1000 ≤ N := by omega
  have nf := h0.1
  unfold f_X7_named
  refine ok_bind (q_advC hN1 h.1) (fun p hp => ?_)
  have gn := hp.gain h.1.2.2.1
  have g1 := gn.2.1 (by rw [ht]; decide)
  have g4 := gn.2.2.2.1 ht
  have es : eI s = plI s := eI.al (by unfold ALN; rw [ht]; decide)
  have j1 : JJ H (x - 100) (y - 2) c X P lim p.2 := h.adv hp (fun _ => by omega)
  have nf1 : p.2.i 32 = 0 := hp.f32.trans nf
  have x1 : SX 1 2 0 s p.2 := hp.smr.sx nf (by omega)
  refine ok_bind (q_found p.2 58) (fun q hq => ?_)
  obtain ⟨q1, q2⟩ := hq
  rw [q1]
  rcases q2 with ⟨q2, q3⟩ | ⟨q2, q3⟩
  · rw [if_pos q2]
    refine ok_bind (q_add N p.2 51 0) (fun a ha => ?_)
    have j2 := j1.add ha (by omega) (by omega) (fun _ _ _ _ _ _ => IOK.fall (by decide))
    have x2 : SX 1 2 0 s a.2 := (x1.tr (ha.sx nf1)).w (by omega) (by omega) (by omega)
    refine ok_bind (q_change (E2 := E2) hN1 hE (by omega) (by omega) j2 (fun _ => by have := x2.2.2.1; omega) s.l (s.i 44) 1) (fun b hb => ?_)
    obtain ⟨j3, e3⟩ := hb
    refine ok_bind (q_expJ hN1 j3 59 (by decide)) (fun d hd => ok_some ?_)
    obtain ⟨j4, e4⟩ := hd
    exact STQ.pl (p := 1) (g := 0) (j4.w (by omega) (by omega)) h0 (fun z => ((x2.tr (e3 (e4 z).1).sx).tr (e4 z).sx).w (by omega) (by omega) (by omega)) (by omega) (by omega)
  · rw [q2, if_neg (by decide)]
    have nb := (h.2 nf).2
    have nr := h0.2.1
    have e56 : p.2.i 56 = s.i 56 := x1.2.2.2.1.2.2.1
    have ecn : cnI p.2 = cnI s := by unfold cnI; rw [x1.2.2.2.1.2.1]
    have rs := x1.2.2.2.2.2.1
    have go : ∀ u : CS, JJ H (x - 100) (y - 2) c X P lim u → (u.i 32 = 0 → u = p.2 ∧ ∀ i a : Nat, (p.2.i 56).toInt < (i : Int) → (i : Int) < cnI p.2 → p.2.r 51 i = some a → p.2.o a 0 = 303 → ¬ p.2.ol a = s.l) → ok (f_X7_named_73 N E1 E2 u s.l) (fun R => STQ H (x - 20) y X P lim s R.2) := fun u ju hu => by
      by_cases sh : 97 ≤ s.l.toInt ∧ s.l.toInt ≤ 122
      · refine ok_imp (q_named73 (κ := 2) hN1 (by omega) (by omega) ju h0 (by omega) (fun z => by rw [(hu z).1]; exact ⟨x1, q3⟩) (fun z V T m a a1 a2 a3 a4 a5 v1 v2 v3 => ?_)) (fun R hR => hR.w (by omega) (by omega))
        have fresh := (hu z).2
        have kn := KLS.new (s := s) (x1 := s.l) nb.2.2.2.2.2.2.2.2 nr sh (fun i b b1 b2 b3 b4 => by
          have w := rs i (by omega)
          have w2 := w.2 b b3
          rw [← w2.2]
          exact fresh i b (by rw [e56]; exact b1) (by rw [ecn]; exact b2) (w.1.trans b3) (by rw [w2.1]; exact b4))
        have em : (cnI s).toNat = m := by omega
        rw [em] at kn
        have lb := v1.label v2 v3 a1 ⟨a2, by rw [a3]; exact sh⟩ (by rw [a3, a5]; exact kn)
        exact ⟨lb.1, by rw [lb.2]; omega⟩
      · have x3 : SX 1 3 0 s p.2 := hp.smr.sx nf (by have := g4.2 sh; omega)
        refine ok_imp (q_named73 (κ := 3) hN1 (by omega) (by omega) ju h0 (by omega) (fun z => by rw [(hu z).1]; exact ⟨x3, q3⟩) (fun z V T m a a1 a2 a3 a4 a5 v1 v2 v3 => ?_)) (fun R hR => hR.w (by omega) (by omega))
        have pl := v1.plain v2 v3 a1 (by rw [a2, a3]; exact ⟨by decide, by decide, by decide, fun q => sh q.2⟩)
        exact ⟨pl.1, by rw [pl.2]; omega⟩
    refine ok_bind (q_labelled hN j1.1 s.l) (fun r hr => ?_)
    rw [hr.1]
    rcases hr.2 with ⟨r1, r2⟩ | ⟨a, r1, r2, r3, r4, r5⟩
    · rw [if_pos r1]
      exact go p.2 j1 (fun _ => ⟨rfl, r2⟩)
    · rw [if_neg (fun z => by have := lt_int z; rw [z_t0] at this; omega)]
      refine ok_bind (q_failC j1.1 4 _ (by decide)) (fun u hu => ?_)
      exact go u.2 (JJ.flt j1.1 hu) (fun z => absurd z hu.2.2.2.1)
