/-! the class's reading: a statement, whole -/
theorem SX.srl0 {p g : Int} {s u R : CS} (h : SX p g 0 s u) (hp : 0 ≤ p) (hg : 0 ≤ g) (k : SRL u R) (nr : NR s (cnI s).toNat) : SRL s R := by
  obtain ⟨a0, ⟨a1, a2⟩, a3, ⟨a4, a5, a6, a7⟩, a8, a9, a10, a11⟩ := h
  obtain ⟨b0, ⟨b1, b1'⟩, b2, b3, b4, b5, b6, b7, b8, b9, h5⟩ := k
  have ecn : cnI u = cnI s := by unfold cnI; rw [a5]
  have ecc : ccI u = ccI s := by unfold ccI; rw [a7]
  obtain ⟨i1, i2, i3, i4, i5⟩ := a9.sums nr
  rw [ecn] at b2 b3 b4 h5
  rw [ecc] at b6
  rw [i2] at b2
  exact ⟨a0, ⟨by omega, by omega⟩, by omega, b3, a9.tr b4, fun n hn => (b5 n (by omega)).trans (a10 n hn), fun i hi => ⟨(b6 i hi).1.trans (a11 i hi).1, (b6 i hi).2.trans (a11 i hi).2⟩, b7.trans a6, b8.trans a7, by omega, h5⟩
theorem q_compound {N : Nat} {H : HB} (hN : 10000000000 ≤ N) {k : Int} {E1 : CS → Option (Unit × CS)} {E2 : CS → Option (Int32 × CS)} (hE : ∀ b, EC (H.1, b) k E1) (hE2 : ∀ b, EC2 (H.1, b) k E2) {x y : Int} {c : List Nat} {X : List (Nat × List Nat)} {P : List Nat} {T : List Int} {s : CS} (hx : x ≤ 4000) (hy : y + 3 * k ≤ 87 ∧ 0 ≤ k) (h : JJ H x y c X P (ccI s :: T) s) (h0 : S0G s) (hk : 24 - sgI s ≤ k) : ok (f_X7_compound N E1 E2 s) (fun R => STQ H (x - 20) y X P (ccI s :: T) s R.2) := by
  have hN1 : 1000 ≤ N := by omega
  have eE : EC H k E1 := hE H.2
  have eE2 : EC2 H k E2 := hE2 H.2
  have mis : ok ((f_X1_misplaced N s).bind fun p => some ((), p.2)) (fun R => STQ H (x - 20) y X P (ccI s :: T) s R.2) := ok_bind (q_misp h.1) (fun p hp => ok_some (STQ.flt h.1 hp))
  unfold f_X7_compound
  refine ok_ite (fun e => ok_bind (q_beginIf (E1 := E1) hN1 eE2 hx (by omega) h h0 hk e) (fun p hp => ok_some hp)) (fun _ => ok_ite (fun _ => mis) (fun _ => ok_ite (fun e => ok_bind (q_beginWhile (E1 := E1) hN1 eE2 hx (by omega) h h0 hk e) (fun p hp => ok_some hp)) (fun _ => ok_ite (fun e => ok_bind (q_beginDo hN1 hx (by omega) h h0 e) (fun p hp => ok_some hp)) (fun _ => ok_ite (fun e => ok_bind (q_beginFor hN1 eE eE2 hx (by omega) h h0 hk e) (fun p hp => ok_some hp)) (fun _ => ok_ite (fun _ => mis) (fun _ => ok_ite (fun _ => mis) (fun _ => ok_ite (fun _ => mis) (fun _ => ok_ite (fun _ => mis) (fun _ => ok_ite (fun e => ok_bind (q_beginLock hN1 hx (by omega) h h0 e) (fun p hp => ok_some hp)) (fun _ => ok_ite (fun e => ok_bind (q_beginTry hN1 hx (by omega) h h0 e) (fun p hp => ok_some hp)) (fun _ => ok_ite (fun _ => mis) (fun _ => ok_ite (fun _ => mis) (fun _ => ok_ite (fun _ => mis) (fun _ => ok_ite (fun _ => mis) (fun _ => ok_ite (fun e => ok_bind (q_beginSwitch (E2 := E2) hN1 eE hx (by omega) h h0 hk e) (fun p hp => ok_some hp)) (fun _ => mis))))))))))))))))
theorem q_plain {N : Nat} {H : HB} (hN : 10000000000 ≤ N) {k : Int} {E1 : CS → Option (Unit × CS)} {E2 : CS → Option (Int32 × CS)} (hE : ∀ b, EC (H.1, b) k E1) (hE2 : ∀ b, EC2 (H.1, b) k E2) {x y : Int} {c : List Nat} {X : List (Nat × List Nat)} {P : List Nat} {T : List Int} {s : CS} (hx : x ≤ 4000) (hy : y + 3 * k ≤ 87 ∧ 0 ≤ k) (h : JJ H x y c X P (ccI s :: T) s) (h0 : S0G s) (hk : 24 - sgI s ≤ k) : ok (f_X7_plain N E1 E2 s) (fun R => STQ H (x - 20) y X P (ccI s :: T) s R.2) := by
  have hN1 : 1000 ≤ N := by omega
  have eE : EC H k E1 := hE H.2
  have eE2 : EC2 H k E2 := hE2 H.2
  have w : ∀ v : Int32, s.i 43 = v → 200 ≤ v.toInt → 200 ≤ (s.i 43).toInt := fun v e q => by rw [e]; exact q
  unfold f_X7_plain
  refine ok_ite (fun e => ?_) (fun _ => ok_ite (fun e => ?_) (fun _ => ok_ite (fun e => ?_) (fun _ => ok_ite (fun e => ?_) (fun _ => ok_ite (fun e => ?_) (fun _ => ok_ite (fun e => ?_) (fun _ => ok_ite (fun e => ?_) (fun _ => ok_ite (fun e => ?_) (fun _ => ok_ite (fun e => ?_) (fun _ => ok_ite (fun e => ?_) (fun _ => ?_))))))))))
  · refine ok_bind (q_advC hN1 h.1) (fun p hp => ok_some ?_)
    obtain ⟨j1, e1⟩ := h.tk hp (fun _ => by rw [e]; decide)
    exact STQ.pl (p := 1) (g := 0) (j1.w (by omega) (Int.le_refl _)) h0 (fun z => (e1 z).sx) (by omega) (by omega)
  · exact q_int hN1 eE hx (by omega) h h0 hk (w 200 e (by decide))
  · exact q_int hN1 eE hx (by omega) h h0 hk (w 201 e (by decide))
  · exact q_log hN1 eE hx (by omega) h h0 hk (w 202 e (by decide))
  · exact ok_bind (q_jump hN hx (by omega) h h0 (w 208 e (by decide))) (fun p hp => ok_some hp)
  · exact ok_bind (q_jump hN hx (by omega) h h0 (w 209 e (by decide))) (fun p hp => ok_some hp)
  · exact ok_bind (q_giveBack (E2 := E2) hN1 eE hx (by omega) h h0 hk (w 210 e (by decide))) (fun p hp => ok_some hp)
  · exact ok_bind (q_throwOne (E2 := E2) hN1 eE hx (by omega) h h0 hk (w 211 e (by decide))) (fun p hp => ok_some hp)
  · exact ok_bind (q_claim hN1 eE eE2 hx (by omega) h h0 hk (w 217 e (by decide))) (fun p hp => ok_some hp)
  · exact ok_bind (q_yield (E2 := E2) hN1 hE hx (by omega) h h0 hk (w 221 e (by decide))) (fun p hp => ok_some hp)
  · exact ok_bind (q_compound hN hE hE2 hx (by omega) h h0 hk) (fun p hp => ok_some hp)
theorem q_stm18 {N : Nat} {H : HB} (hN : 10000000000 ≤ N) {k : Int} {E1 : CS → Option (Unit × CS)} {E2 : CS → Option (Int32 × CS)} (hE : ∀ b, EC (H.1, b) k E1) (hE2 : ∀ b, EC2 (H.1, b) k E2) {x y : Int} {c : List Nat} {X : List (Nat × List Nat)} {P : List Nat} {T : List Int} {s : CS} (hx : x ≤ 3900) (hy : y + 3 * k ≤ 87 ∧ 0 ≤ k) (h : JJ H x y c X P (ccI s :: T) s) (h0 : S0G s) (hk : 24 - sgI s ≤ k) (x1 : Int32) : ok (f_X7_statement_18 N E1 E2 s x1) (fun R => STQ H (x - 10) y X P (ccI s :: T) s R.2) := by
  have hN1 : 1000 ≤ N := by omega
  have eE : EC H k E1 := hE H.2
  have nf := h0.1
  unfold f_X7_statement_18
  have ir := ((IRR.rf h.1).i 36 1 (by unfold IRJ; omega) (fun _ => Or.inr rfl)).i 24 (s.i 24 + 1) (by unfold IRJ; omega) (by omega)
  generalize CS.setI (CS.setI s 36 1) 24 (s.i 24 + 1) = u at *
  have sx := ir.sx nf
  have nfu := ir.f.1.trans nf
  have ecu : ccI u = ccI s := by unfold ccI; rw [sx.2.2.2.1.2.2.2]
  have ju := h.irr ir
  rw [← ecu] at ju
  have ngu := sx.ng h0.2.2.1 h0.2.1
  have gu := ju.s0g nfu ngu
  have sgu : sgI u = sgI s := by have := sx.2.2.1; omega
  have back : ∀ (x' : Int) (R : CS), x' ≤ x - 10 → STQ H x' y X P (ccI u :: T) u R → STQ H (x - 10) y X P (ccI s :: T) s R := fun x' R hx' hR => by
    rw [ecu] at hR
    have hw := hR.w hx' (Int.le_refl _)
    exact ⟨hw.1, fun z => ⟨(hw.2 z).1, sx.srl0 (by omega) (by omega) (hw.2 z).2 h0.2.1⟩⟩
  have e115 : ok (f_X7_statement_115 N E1 E2 u) (fun R => STQ H (x - 10) y X P (ccI s :: T) s R.2) := by
    unfold f_X7_statement_115
    exact ok_bind (q_misp ju.1) (fun p hp => ok_some (STQ.flt ju.1 hp))
  have e122 : ok (f_X7_statement_122 N E1 E2 u) (fun R => STQ H (x - 10) y X P (ccI s :: T) s R.2) := by
    unfold f_X7_statement_122
    refine ok_bind (q_add N u 51 0) (fun p hp => ?_)
    have j1 := ju.add hp (by omega) (by omega) (fun _ _ _ _ _ _ => IOK.fall (by decide))
    have sp := hp.sx nfu
    have nfp := hp.f32.1.trans nfu
    have ecp : ccI p.2 = ccI u := by unfold ccI; rw [sp.2.2.2.1.2.2.2]
    rw [← ecp] at j1
    have gp := j1.s0g nfp (sp.ng ngu gu.2.1)
    refine ok_bind (q_plain hN hE hE2 (by omega) (by omega) j1 gp (by have := sp.2.2.1; omega)) (fun q hq => ok_some ?_)
    refine back (x + 1 - 20) q.2 (by omega) ?_
    rw [ecp] at hq
    exact ⟨hq.1, fun z => ⟨(hq.2 z).1, sp.srl0 (by omega) (by omega) (hq.2 z).2 gu.2.1⟩⟩
  refine ok_bind (q_found u 2) (fun p hp => ?_)
  obtain ⟨p1, p2⟩ := hp
  rw [p1]
  rcases p2 with ⟨p2, p3⟩ | ⟨p2, p3⟩
  · rw [if_pos p2]
    refine ok_bind (q_found u 123) (fun q hq => ?_)
    obtain ⟨q1, q2⟩ := hq
    rw [q1]
    rcases q2 with ⟨q2, q3⟩ | ⟨q2, q3⟩
    · rw [if_pos q2]
      refine ok_ite (fun _ => e122) (fun _ => ?_)
      refine ok_bind (q_found u 200) (fun r hr => ?_)
      rw [hr.1]
      refine ok_ite (fun _ => ?_) (fun _ => e115)
      refine ok_bind (q_found u 201) (fun b hb => ?_)
      rw [hb.1]
      exact ok_ite (fun _ => e122) (fun _ => e115)
    · rw [q2, if_neg (by decide)]
      exact ok_imp (q_block hN1 (by omega) (by omega) ju gu) (fun R hR => back _ R.2 (by omega) hR)
  · rw [p2, if_neg (by decide)]
    exact ok_bind (q_named (E2 := E2) hN eE (by omega) (by omega) ju gu (by omega) p3) (fun q hq => ok_some (back _ q.2 (by omega) hq))
theorem q_statement {N : Nat} {H : HB} (hN : 10000000000 ≤ N) {k : Int} {E1 : CS → Option (Unit × CS)} {E2 : CS → Option (Int32 × CS)} (hE : ∀ b, EC (H.1, b) k E1) (hE2 : ∀ b, EC2 (H.1, b) k E2) {x y : Int} {c : List Nat} {X : List (Nat × List Nat)} {P : List Nat} {T : List Int} {s : CS} (hx : x ≤ 3900) (hy : y + 3 * k ≤ 87 ∧ 0 ≤ k) (h : JJ H x y c X P (ccI s :: T) s) (h0 : S0G s) (hk : 24 - sgI s ≤ k) (x1 : Int32) : ok (f_X7_statement N E1 E2 s x1) (fun R => STQ H x y X P (ccI s :: T) s R.2) := by
  have nf := h0.1
  unfold f_X7_statement f_X7_notReached
  refine ok_ite (fun _ => ?_) (fun _ => ok_imp (q_stm18 hN hE hE2 hx (by omega) h h0 hk x1) (fun R hR => hR.w (by omega) (Int.le_refl _)))
  refine ok_bind (Q := fun w => IRR s w.2) (ok_ite (fun _ => ok_some (IRR.rf h.1)) (fun _ => ok_some ((IRR.rf h.1).i 37 _ (by unfold IRJ; omega) (by omega)))) (fun w hw => ?_)
  have sx := hw.sx nf
  have nfu := hw.f.1.trans nf
  have ecu : ccI w.2 = ccI s := by unfold ccI; rw [sx.2.2.2.1.2.2.2]
  have ju := h.irr hw
  rw [← ecu] at ju
  have gu := ju.s0g nfu (sx.ng h0.2.2.1 h0.2.1)
  refine ok_imp (q_stm18 hN hE hE2 hx (by omega) ju gu (by have := sx.2.2.1; omega) x1) (fun R hR => ?_)
  rw [ecu] at hR
  have hw2 := hR.w (x' := x) (y' := y) (by omega) (Int.le_refl _)
  exact ⟨hw2.1, fun z => ⟨(hw2.2 z).1, sx.srl0 (by omega) (by omega) (hw2.2 z).2 h0.2.1⟩⟩
