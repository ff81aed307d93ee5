/-! the class's reading: armBlock -/
theorem q_armBlock {N : Nat} {H : HB} (hN : 10000000000 ≤ N) {k : Int} {E1 : CS → Option (Unit × CS)} {E2 : CS → Option (Int32 × CS)} (hE : ∀ b, EC (H.1, b) k E1) (hE2 : ∀ b, EC2 (H.1, b) k E2) : ABC H k (f_X7_armBlock N E1 E2) := by
  intro x y c X P lim s t hx hy h nf h43 hk hg hw ht
  unfold f_X7_armBlock
  refine ok_bind (q_open (by omega) h.1 123) (fun p1 hp1 => ?_)
  obtain ⟨j1, mv⟩ := h.k.op (by decide) hp1
  refine ok_bind (PRX.of (s0 := s) j1 (fun q => (mv q).sx) 302 (p1.2.i 38) (p1.2.i 50) j1.1.nm) (fun p hp => ?_)
  obtain ⟨v, a, m, r1, px, ⟨o0, o2, o3, ol⟩, -, pi, pa⟩ := hp
  rw [r1]
  show ok (if oK p.2 a 0 then (f_X7_turns_2 N E1 E2 N (armB p.2 a t (s.i 53)) (s.i 53) 0).bind fun p12 => if oK p12.2 a 0 then if (s.i 36) = 0 ∨ (s.i 36) = 1 then some ((), CS.setI (CS.setI p12.2 56 (CS.o p12.2 a 16)) 36 (s.i 36)) else none else none else none) _
  have m4 := px.1.2.1.2.2.1
  refine ok_chk px.1.2.1.1 ?_
  have cb := armB.cb px.1.1 a t (s.i 53)
  have ra : (armB p.2 a t (s.i 53)).r 51 m = some a := px.1.2.1.2.1
  have bo36 : s.i 36 = 0 ∨ s.i 36 = 1 := h.1.2.2.2.2.2.2.2.2.1
  have e32 : (armB p.2 a t (s.i 53)).i 32 = p.2.i 32 := armB.i _ _ _ _ 32 (by decide) (by decide)
  have fact : p.2.i 32 = 0 → _ := fun z => armB.jk (t := t) (x := x - 100) (h.w (by omega) (Int.le_refl _)) z px ⟨o0, by
    rw [o2]; exact (mv ((pi 32 (by decide) (by decide)).symm.trans z)).2.2.2.1.1, by
    rw [o3]; exact (mv ((pi 32 (by decide) (by decide)).symm.trans z)).2.2.2.1.2.1⟩ (by
    rw [pi 50 (by decide) (by decide)]; exact (mv ((pi 32 (by decide) (by decide)).symm.trans z)).2.2.2.1.2.1) hg hw ht
  have o3' : p.2.i 32 = 0 → p.2.o a 3 = s.i 50 := fun z => by
    rw [o3]; exact (mv ((pi 32 (by decide) (by decide)).symm.trans z)).2.2.2.1.2.1
  have bo := (armB.o p.2 a t (s.i 53)).1
  generalize armB p.2 a t (s.i 53) = B at *
  refine ok_bind (Q := fun w => CBS (H.1, rbB B) w.2 ∧ (w.2.i 32 = 0 → B.i 32 = 0 ∧ JJ (H.1, rbB B) (x - 200) y c X P lim (CS.setI w.2 56 (s.i 56)) ∧ w.2.o a 16 = s.i 56 ∧ ARQ s w.2)) ?_ (fun w hw => ?_)
  · by_cases nfp : p.2.i 32 = 0
    · have nfB := e32.trans nfp
      obtain ⟨jB, es, rB, ⟨sgB, plB⟩, ⟨cnB, ccB⟩, ⟨a49, a18⟩, i56⟩ := fact nfp
      have hb : B.o a 0 = 302 ∧ B.o a 3 = s.i 50 ∧ B.o a 16 = s.i 56 := by
        rw [bo]
        exact ⟨o0, o3' nfp, i56⟩
      have nrB : NR B (m + 1) := by
        have := cb.2.2.2.2.2.2.1.2.2
        rw [cnB] at this
        exact this
      have jB' : JJ (H.1, rbB B) (x - 50) y c X P (ccI B :: ccI s :: lim) B := by
        rw [ccB]
        exact jB.rb.w (by omega) (Int.le_refl _)
      have ams : ((ccI s :: lim).length : Int) = 2 * AMS B (m + 1) := by
        obtain ⟨D, DT, KT, -, -, -, -, -, ⟨n, n1, -, n3⟩, -⟩ := (jB'.2 nfB).1
        have := RCH.ams n _ _ n3
        rw [show n = m + 1 by omega] at this
        have e : (ccI B :: ccI s :: lim).length = (ccI s :: lim).length + 1 := rfl
        omega
      have ti : TIV (H.1, rbB B) (x - 50) y X P (ccI s :: lim) B m (nmI s) B := ⟨cb.rb, fun _ => ⟨⟨c, jB'⟩, ⟨Int.le_refl _, Int.le_refl _⟩, by rw [show (cnI B).toNat = m + 1 by omega], by omega, RSQ.rf _ _, fun _ _ => rfl, fun _ _ => ⟨rfl, rfl⟩, rfl, fun i b i0 i1 eb e5 => by
        have ei : i = m := by omega
        rw [ei, ra] at eb
        cases eb
        rw [hb.1] at e5
        exact absurd e5 (by decide)⟩⟩
      have bp := cb.pl
      have bc := cb.2.2.2.2.2.2.1
      have e0 : (0 : Int32).toInt = 0 := by decide
      refine q_turns2 (H := (H.1, rbB B)) hN (fun b => hE b) (fun b => hE2 b) (by omega) hy ⟨nfB, nrB⟩ ra (by rw [hb.2.1]; rfl) (Or.inr hb.1) ams (by omega) m4 es (Q := fun R => CBS (H.1, rbB B) R ∧ (R.i 32 = 0 → B.i 32 = 0 ∧ JJ (H.1, rbB B) (x - 200) y c X P lim (CS.setI R 56 (s.i 56)) ∧ R.o a 16 = s.i 56 ∧ ARQ s R)) (fun R c1 c2 => ⟨c1, fun q => absurd q c2⟩) (fun σ c' jσ tσ uσ oσ => ?_) N B 0 (by rw [e0]; omega) (by omega) (fun _ => by rw [e0]; omega) ti
      refine ok_imp (q_armEnd (by omega) h nf es rB sgB plB nrB hb a49 a18 jσ tσ uσ oσ) (fun R hR => ⟨⟨hR.1.1, fun q => ?_⟩, hR.2⟩)
      obtain ⟨w1, w2, w3⟩ := hR.1.2 q
      exact ⟨nfB, w1.w (by omega) (Int.le_refl _), w2, w3⟩
    · have nfB : ¬ B.i 32 = 0 := fun q => nfp (e32.symm.trans q)
      exact ok_imp (q_turnsO (by omega) (fun z => absurd z nfB)) (fun w hw => by rw [hw]; exact ⟨cb.rb, fun z => absurd z nfB⟩)
  · obtain ⟨hc, hn⟩ := hw
    have st := hc.st m4 ra
    refine ok_chk st.2 ?_
    rw [if_pos bo36]
    by_cases nfw : w.2.i 32 = 0
    · obtain ⟨n1, n2, n3, n4⟩ := hn nfw
      rw [n3]
      have j := n2.bk cb (fun _ => n1)
      refine ok_some ⟨(j.irr ((IRR.rf j.1).i 36 (s.i 36) (by unfold IRJ; omega) (fun _ => bo36))).w (by omega) (Int.le_refl _), fun _ => n4.ex nf⟩
    · have cbw : CBS H w.2 := hc.bk cb (fun q => absurd q nfw)
      have c1 := cbw.s56 (w.2.o a 16)
      have c2 := ((IRR.rf c1).i 36 (s.i 36) (by unfold IRJ; omega) (fun _ => bo36)).cb c1
      have e : ¬ (CS.setI (CS.setI w.2 56 (w.2.o a 16)) 36 (s.i 36)).i 32 = 0 := by
        rw [ci_ne _ _ _ (by decide), ci_ne _ _ _ (by decide)]; exact nfw
      exact ok_some ⟨⟨c2, fun q => absurd q e⟩, fun q => absurd q e⟩
