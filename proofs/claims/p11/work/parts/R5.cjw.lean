/-! the class's reading: break, continue, yield, whole -/
theorem q_labT {N : Nat} {H : HB} (hN : 10000000000 ≤ N) {x y : Int} {c : List Nat} {X : List (Nat × List Nat)} {P : List Nat} {lim : List Int} {s : CS} (h : JJ H x y c X P lim s) (x1 : Int32) (ht : s.i 43 = 2) : ok (f_X7_labelTarget N s x1) (fun R => JJ H (x - 100) y c X P lim R.2 ∧ (R.2.i 32 = 0 → EXR s R.2 ∧ TGC s x1 R.1)) := by
  have hN1 : 1000 ≤ N := by omega
  have fl : ∀ (v w : Int32), ¬ v = 0 → ok ((f_X1_fail N s v (s.i 44)).bind fun p20 => f_X7_labelTarget_63 N p20.2 w) (fun R => JJ H (x - 100) y c X P lim R.2 ∧ (R.2.i 32 = 0 → EXR s R.2 ∧ TGC s x1 R.1)) := fun v w hv => by
    unfold f_X7_labelTarget_63
    refine ok_bind (q_failC h.1 v _ hv) (fun p hp => ?_)
    have jp : JJ H x y c X P lim p.2 := JJ.flt h.1 hp
    refine ok_bind (q_advC hN1 jp.1) (fun q hq => ok_some ⟨jp.adv hq (fun z => absurd z hp.2.2.2.1), fun z => absurd (hq.f32.symm.trans z) hp.2.2.2.1⟩)
  have go : ∀ w : Int32, TGC s x1 w → ok (f_X7_labelTarget_63 N s w) (fun R => JJ H (x - 100) y c X P lim R.2 ∧ (R.2.i 32 = 0 → EXR s R.2 ∧ TGC s x1 R.1)) := fun w hw => by
    unfold f_X7_labelTarget_63
    refine ok_bind (q_advC hN1 h.1) (fun q hq => ok_some ?_)
    obtain ⟨j, e⟩ := h.tk hq (fun _ => by rw [ht]; decide)
    exact ⟨j, fun z => ⟨e z, hw⟩⟩
  unfold f_X7_labelTarget
  refine ok_bind (q_labelled hN h.1 s.l) (fun p hp => ?_)
  rw [hp.1]
  rcases hp.2 with ⟨r1, r2⟩ | ⟨a, r1, r2, r3, r4, r5⟩
  · rw [if_neg (fun z => by have l := le_int z; have l2 := lt_int r1; rw [z_t0] at l l2; omega)]
    exact fl 3 _ (by decide)
  · rw [if_pos (Int32.le_iff_toInt_le.mpr (by rw [z_t0]; exact r1))]
    refine ok_ite (fun cx => go p.1 ⟨a, r1, r3, r4, fun _ => Or.inr (Or.inr r5), fun z => absurd cx z⟩) (fun cx => ?_)
    have cn := h.1.2.2.2.2.2.2.1
    have e1 : (1 : Int32).toInt = 1 := by decide
    have es : (p.1 + 1).toInt = p.1.toInt + 1 := by rw [toInt_add] <;> rw [e1] <;> omega
    unfold f_X6_loopBehind
    refine ok_bind (q_lb4 (N := N) h.1 N (p.1 + 1) (by omega) (by omega) (by omega)) (fun q hq => ?_)
    rw [hq.1]
    rcases hq.2 with b1 | ⟨b, b1, b2, b3, b4⟩
    · rw [if_neg (fun z => by have l := le_int z; have l2 := lt_int b1; rw [z_t0] at l l2; omega)]
      exact fl 5 _ (by decide)
    · rw [if_pos (Int32.le_iff_toInt_le.mpr (by rw [z_t0]; exact b1))]
      exact go q.1 ⟨b, b1, b2, b3, fun _ => Or.inl b4, fun _ => b4⟩
theorem q_jump {N : Nat} {H : HB} (hN : 10000000000 ≤ N) {x y : Int} {c : List Nat} {X : List (Nat × List Nat)} {P : List Nat} {lim : List Int} {s : CS} (hx : x ≤ 4000) (hy : y ≤ 90) (h : JJ H x y c X P lim s) (h0 : S0G s) (ht : 200 ≤ (s.i 43).toInt) : ok (f_X7_jump N s) (fun R => STQ H (x - 20) y X P lim s R.2) := by
  have hN1 : 1000 ≤ N := by omega
  unfold f_X7_jump
  refine ok_bind (Q := fun w => w.2 = s) (ok_imp (q_found s 209) (fun w hw => hw.1)) (fun p hp => ?_)
  rw [hp]
  have ir := (IRR.rf h.1).i 26 (s.i 26 + 1) (by unfold IRJ; omega) (by omega)
  have j0 := h.irr ir
  have i43 := ir.f.2.1
  refine ok_bind (q_advC hN1 j0.1) (fun q hq => ?_)
  obtain ⟨j1, e1⟩ := j0.word hq (fun _ => by rw [i43]; exact ht)
  have e1' : q.2.i 32 = 0 → SX 2 3 0 s q.2 := fun z => ((ir.sx h0.1).tr (e1 z)).w (by omega) (by omega) (by omega)
  refine ok_bind (q_found q.2 2) (fun r hr => ?_)
  obtain ⟨r1, r2⟩ := hr
  rw [r1]
  rcases r2 with ⟨r2, r3⟩ | ⟨r2, r3⟩
  · rw [if_pos r2]
    refine ok_bind (q_nearest hN j1.1 p.1) (fun n hn => ?_)
    rw [hn.1]
    rcases hn.2 with n1 | ⟨a, n1, n2, n3, n4⟩
    · rw [if_neg (fun z => by have l := le_int z; have l2 := lt_int n1; rw [z_t0] at l l2; omega)]
      refine ok_bind (q_failC j1.1 5 _ (by decide)) (fun u hu => ?_)
      exact ok_imp (q_jump72 (p := 0) (g := 0) hN1 (by omega) (by omega) (JJ.flt (x := x - 200) (y := y - 3) (c := c) j1.1 hu) h0 (by omega) (by omega) (fun z => absurd z hu.2.2.2.1)) (fun R hR => hR.w (by omega) (by omega))
    · rw [if_pos (Int32.le_iff_toInt_le.mpr (by rw [z_t0]; exact n1))]
      refine ok_imp (q_jump72 (p := 2) (g := 3) hN1 (by omega) (by omega) j1 h0 (by omega) (by omega) (fun z => ⟨e1' z, a, n1, n2, n3, fun _ => ?_, fun c0 => ?_⟩)) (fun R hR => hR.w (by omega) (by omega))
      · rcases n4 with w | w
        · exact Or.inl w
        · exact Or.inr (Or.inl w.2)
      · rcases n4 with w | w
        · exact w
        · exact absurd w.1 c0
  · rw [r2, if_neg (by decide)]
    refine ok_bind (q_labT hN j1 p.1 r3) (fun n hn => ?_)
    obtain ⟨j2, e2⟩ := hn
    exact ok_imp (q_jump72 (p := 2) (g := 0) hN1 (by omega) (by omega) j2 h0 (by omega) (by omega) (fun z => ⟨((e1' (e2 z).1.1).tr (e2 z).1.sx).w (by omega) (by omega) (by omega), (e2 z).2.sx (e2 z).1.sx⟩)) (fun R hR => hR.w (by omega) (by omega))
/-- the rows that are there now stay -/
def rbB (s : CS) : (Nat → Option Nat) × (Nat → Prop) := (s.r 51, fun t => s.i 32 = 0 ∧ (t : Int) < tcI s ∧ 0 ≤ (s.a 17 t).toInt)
theorem CBS.rb {H : HB} {s : CS} (h : CBS H s) : CBS (H.1, rbB s) s := ⟨h.1, ⟨h.2.1.1, fun _ _ e => e, fun _ _ z => z.2⟩, h.2.2⟩
theorem CBS.bk {H : HB} {s R : CS} (h : CBS (H.1, rbB s) R) (hs : CBS H s) (h32 : R.i 32 = 0 → s.i 32 = 0) : CBS H R := ⟨h.1, ⟨h.2.1.1, fun i a e => h.2.1.2.1 i a (hs.2.1.2.1 i a e), fun q t ht => h.2.1.2.2 q t ⟨h32 q, hs.2.1.2.2 (h32 q) t ht⟩⟩, h.2.2⟩
theorem JJ.rb {H : HB} {x y : Int} {c : List Nat} {X : List (Nat × List Nat)} {P : List Nat} {lim : List Int} {s : CS} (h : JJ H x y c X P lim s) : JJ (H.1, rbB s) x y c X P lim s := ⟨h.1.rb, h.2⟩
theorem JJ.bk {H : HB} {x y : Int} {c : List Nat} {X : List (Nat × List Nat)} {P : List Nat} {lim : List Int} {s R : CS} (h : JJ (H.1, rbB s) x y c X P lim R) (hs : CBS H s) (h32 : R.i 32 = 0 → s.i 32 = 0) : JJ H x y c X P lim R := ⟨h.1.bk hs h32, h.2⟩
theorem CBS.st {H : HB} {s R : CS} (h : CBS (H.1, rbB s) R) {i a : Nat} (hi : i < 400) (e : s.r 51 i = some a) : R.r 51 i = some a ∧ oK R a 0 := by
  have w := h.2.1.2.1 i a e
  exact ⟨w, h.1.2.1 i a hi w⟩
theorem q_yield {N : Nat} {H : HB} (hN : 1000 ≤ N) {k : Int} {E1 : CS → Option (Unit × CS)} {E2 : CS → Option (Int32 × CS)} (hE : ∀ b, EC (H.1, b) k E1) {x y : Int} {c : List Nat} {X : List (Nat × List Nat)} {P : List Nat} {lim : List Int} {s : CS} (hx : x ≤ 4000) (hy : y + 3 * k ≤ 87 ∧ 0 ≤ k) (h : JJ H x y c X P lim s) (h0 : S0G s) (hk : 24 - sgI s ≤ k) (ht : 200 ≤ (s.i 43).toInt) : ok (f_X7_yieldValue N E1 E2 s) (fun R => STQ H (x - 20) y X P lim s R.2) := by
  have nf := h0.1
  unfold f_X7_yieldValue
  refine ok_bind (q_row (N := N) h.1 (s.i 56)) (fun r hr => ?_)
  obtain ⟨r1, r2⟩ := hr
  rw [r1]
  rcases r2 with ⟨r2, r3⟩ | ⟨a, r2, r3, r4, r5⟩
  · rw [r2]
    exact ok_bind (q_failC h.1 5 _ (by decide)) (fun p hp => ok_some (STQ.flt h.1 hp))
  rw [r2]
  show ok ((f_X9_advance N s).bind fun p11 => (f_X1_expression N E1 E2 p11.2).bind fun p15 => if oK p15.2 a 0 then (f_X0_add N p15.2 61 (((CS.o p15.2 a 9) * 32) + (CS.o p15.2 a 2))).bind fun p20 => (f_X1_expect N p20.2 59).bind fun p24 => some ((), CS.setI p24.2 36 0) else none) _
  have cn := h.1.2.2.2.2.2.2.1
  have nb9 := (h.2 nf).2.2.2.2.2.2.2.2.2
  have s2 : s.o a 0 = 302 := nb9.2.2 a r3.1 r4
  refine ok_bind (q_advC hN h.1) (fun p hp => ?_)
  obtain ⟨j1, e1⟩ := h.word hp (fun _ => ht)
  have pr : p.2.r = s.r := hp.1.1.2.2.2.2.2.2.2.1
  refine ok_bind (q_expression (E2 := E2) hN (hE (rbB p.2)) _ _ c X P lim p.2 (by omega) (by omega) j1.rb (fun z => by have := (e1 z).2.2.1; omega)) (fun q hq => ?_)
  obtain ⟨j2', e2⟩ := hq
  have st := j2'.1.st (s := p.2) (i := (s.i 56).toInt.toNat) (a := a) (by omega) (by rw [pr]; exact r4)
  have j2 := j2'.bk j1.1 (fun z => (e2 z).1)
  refine ok_chk st.2 ?_
  refine ok_bind (q_add N q.2 61 _) (fun b hb => ?_)
  have x2 : q.2.i 32 = 0 → SX 3 0 0 s q.2 := fun z => ((e1 (e2 z).1).tr (e2 z).sx).w (by omega) (by omega) (by omega)
  have j3 := j2.add hb (by omega) (by omega) (fun z DT KT _ qR _ => by
    have sx := x2 z
    have w := sx.2.2.2.2.2.1 (s.i 56).toInt.toNat (by omega)
    have o2 : q.2.o a 0 = 302 := by rw [(w.2 a r4).1]; exact s2
    have ecn : cnI q.2 = cnI s := by unfold cnI; rw [sx.2.2.2.1.2.1]
    obtain ⟨c0, c1, L1, L0, r, g1, g2⟩ := (qR (cnI q.2).toNat (by omega)).at (s.i 56).toInt.toNat a (by omega) st.1
    have tt : TTc (tcI q.2) DT KT (q.2.o a 9) c0 := by
      obtain ⟨h1, h2, h3⟩ := g1
      have no : ∀ v : Int32, q.2.o a 0 = v → ¬ v = 302 → TTc (tcI q.2) DT KT (q.2.o a 9) c0 := fun v e n => absurd (e.symm.trans o2) n
      rcases h3 with ⟨z1, z2, e⟩ | ⟨z1, z2, z3, -⟩ | ⟨z1, z2, z3, e⟩ | ⟨z1, z2, z3, e⟩ | ⟨z1, z2, z3, z4, e⟩ | ⟨z1, z2, z3, z4, z5, e⟩ | ⟨z1, z2, z3, -⟩ | ⟨z1, z2, z3, e⟩ | ⟨z1, z2, z3, -⟩ | ⟨z1, z2, z3, -⟩ | ⟨z1, z2, z3, -⟩ | ⟨z1, z2, z3, e⟩
      · rcases z1 with z1 | z1
        · exact no _ z1 (by decide)
        · exact no _ z1 (by decide)
      · exact z3
      · exact no _ z1 (by decide)
      · exact z3
      · exact z3
      · exact z3
      · exact z3
      · exact z3
      · exact z3
      · exact z3
      · exact z3
      · exact z3
    have ds := j2.ds z
    have sz := (j2.2 z).2.sz j2.1.2.2.1 j2.1.2.2.2.2.2.2.1.1 (by omega) (by omega)
    have l2 : c0.length ≤ c.length := by rw [g2, List.length_append]; omega
    have lv := lv32 (t := q.2.o a 9) (g := q.2.o a 2) ⟨tt.1, by have := tt.2.1; omega⟩ (by have := g1.1; omega)
    refine ⟨fun q => absurd q (by decide), fun q => absurd q (by decide), fun _ q => absurd q (by decide), fun _ q => absurd q (by decide), fun q => absurd q (by decide), fun q => absurd q (by decide), fun q => absurd q (by decide), fun q => absurd q (by decide), fun q => absurd q (by decide), fun q => absurd q (by decide), fun _ => ⟨c0.length, lv.2.trans g1.1, l2, ?_⟩, fun q => absurd q (by decide), by decide⟩
    rw [lv.1, g2, drop_suf]
    exact tt)
  refine ok_imp (q_endS (p := 0) (g := 0) hN j3 h0 (fun z => ?_) (by omega) (by omega)) (fun R hR => hR.w (by omega) (by omega))
  have z2 := hb.f32.1.symm.trans z
  exact ((x2 z2).tr (hb.sx z2)).w (by omega) (by omega) (by omega)
