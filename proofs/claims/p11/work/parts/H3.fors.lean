/-! reading: for: its first words -/
theorem run_for {N b : Nat} (hN : 4000 ≤ N) (hc' : 1 ≤ b → RUNE N 20 1 20 15 (b - 1)) (hx : 1 ≤ b → RUNE N 16 4 11 24 (b - 1)) (hs : 1 ≤ b → RUNS N (b - 1)) : RUNU N b 12 (fun x => x = 417) := by
  intro n s u t P hI hp ht hu tu u15 hT hz h9 hb hc hn n1 hF hC
  have hN1 : 1000 ≤ N := by omega
  have hf := hI.1.f0
  have cs := hI.cd
  refine lp_12 tu (by omega) u15 hu.2.2.2.2.2.2.1 ?_
  unfold f_X12_fors
  rw [if_pos (tp_ib tu (by omega)), tp_nat tu, if_pos hu.2.2.2.2.2.2.2.1]
  have ibx : ib (u.i 63) 1000 := tp_ib tu (by omega)
  have nx : (u.i 63).toNatClampNeg = t := tp_nat tu
  obtain ⟨x1, ex1⟩ : ∃ x1, x1 = u.i 63 := ⟨_, rfl⟩
  rw [← ex1] at ibx nx ⊢
  have x1t : x1 = u.i 63 := ex1
  obtain ⟨R, eR, mR, cR, aR, fR, slR, xR⟩ := STARTl (k := 71) hN1 (u.i 38) (by omega) (by omega) hI ht hz hu
  rw [eR]
  have fR := fR (by rw [hT]; decide)
  have R21 : R.a 21 (cdI s).toNat = 1 := by rw [aR, setA_nk (by decide)]; exact hu.2.2.2.2.2.1
  have R64 : R.a 64 t = 12 := by rw [aR, setA_nk (by decide)]; exact hu.2.2.2.2.2.2.1
  have R71 : R.a 71 t = s.i 38 := by rw [aR, setA_at]; exact hu.2.1 38 (by decide) (by decide)
  have b46 : bel 46 (goI s) s R := fun j _ => by rw [aR, setA_nk (by decide), hu.2.2.2.2.2.2.2.2 46 (by decide) (by decide) (by decide) (by decide)]
  have r63 : R.i 63 = x1 := by rw [ex1]; exact xR.2.2.1 63 (by omega) (by omega)
  clear ex1 eR aR xR
  show ok (((f_X12_open N R 40).bind fun p5 => (f_X12_forHead N p5.2 x1).bind fun p7 => some p7).bind fun p => f_X12_parse_10 N n p) P
  obtain ⟨p, ep, hpp⟩ := OPO (t := t) hN1 mR.1 40 (by decide)
  rw [ep]
  show ok (((f_X12_forHead N p.2 x1).bind fun p7 => some p7).bind fun p => f_X12_parse_10 N n p) P
  rw [bind_some]
  rcases hpp with ⟨p1, p2, p3⟩ | ⟨p1, p2, p3, q1, q2, q3, q4, q5, q6, q7, q8, q9, q10, q11⟩
  · unfold f_X12_forHead
    rw [if_neg p1]
    exact lp_f p1 (hF _ (FS'.of mR.2.2.1.1.1 p2 p1 mR.1.r)) n1
  obtain ⟨O, hO⟩ : ∃ O, O = p.2 := ⟨_, rfl⟩
  rw [← hO] at p1 q1 q2 q3 q4 q5 q6 q7 q8 q9 q10 q11 ⊢
  clear hO ep
  have hH : HD t s O := HD.opn mR q1 q3 q4 q5 q6 q7 q2 q8 q9 q10 slR cR R21 R64 R71 fR b46
  have o63 : O.i 63 = x1 := by rw [← r63]; exact q11.2.2.1 63 (by omega) (by omega)
  clear q1 q2 q3 q4 q5 q6 q7 q8 q9 q10 q11 R21 R64 R71 b46 slR
  have flt : ∀ (A S : RS), HD t s A → LX A S → ¬ S.i 15 = 0 → ok (f_X12_parse_10 N n S) P := fun A S hA hx h15 => lp_f h15 (hF _ (FS'.of hA.1.2.2.1.1.1 hx h15 hA.1.1.r)) n1
  unfold f_X12_forHead
  rw [if_pos p1]
  by_cases c1 : O.i 10 = 410
  · rw [if_pos c1]
    obtain ⟨w, ew, y1, y2, y3, y4, y5, y6, y7⟩ := NX hN1 hH.1.1 (by rw [c1]; decide)
    rw [ew]
    have hW := hH.nx y4 y1 y3 y5 y6
    obtain ⟨p, ep, hpp⟩ := TLG (t := t) hN1 y4 ibx
    show ok (((f_X12_telling N w x1).bind fun p30 => (if p30.1 = 0 then some p30.2 else (if (p30.2.i 10) = 61 then (f_X12_can N p30.2 1).bind fun p34 => (if p34.1 = 0 then some p34.2 else f_X12_forHead_61 N p34.2 x1) else (if (p30.2.i 10) = 58 then (f_X12_can N p30.2 1).bind fun p56 => (if p56.1 = 0 then some p56.2 else f_X12_forHead_61 N p56.2 x1) else (f_X12_can N p30.2 0).bind fun p53 => (if p53.1 = 0 then some p53.2 else f_X12_forHead_61 N p53.2 x1))))).bind fun p => f_X12_parse_10 N n p) P
    rw [ep]
    show ok ((if p.1 = 0 then some p.2 else (if (p.2.i 10) = 61 then (f_X12_can N p.2 1).bind fun p34 => (if p34.1 = 0 then some p34.2 else f_X12_forHead_61 N p34.2 x1) else (if (p.2.i 10) = 58 then (f_X12_can N p.2 1).bind fun p56 => (if p56.1 = 0 then some p56.2 else f_X12_forHead_61 N p56.2 x1) else (f_X12_can N p.2 0).bind fun p53 => (if p53.1 = 0 then some p53.2 else f_X12_forHead_61 N p53.2 x1))) : Option RS).bind fun p => f_X12_parse_10 N n p) P
    rcases hpp with ⟨p1, p2, p3⟩ | ⟨p1, q1, q2, q3, q4, q5, q6, q7, q8⟩
    · rw [if_pos p1]
      exact flt w p.2 hW p3 p2
    rw [if_neg (by rw [p1]; decide)]
    obtain ⟨A, hA⟩ : ∃ A, A = p.2 := ⟨_, rfl⟩
    rw [← hA] at q1 q2 q3 q4 q5 q6 q7 q8 ⊢
    clear hA ep
    have tA : tpI A = t := q2.trans hW.1.2.1
    have mA : MF t s A := hW.1.step q1 q4 q3 q5.1 q5.2.2.1 q2 (by omega) (by omega) (by omega)
    have hHA : HD t s A := hW.step mA q4 (by rw [q8]) (by rw [q8]) (by omega)
    have a63 : x1 = A.i 63 := by
      have e1 : (A.i 63).toInt = (O.i 63).toInt := tA.trans hH.1.2.1.symm
      exact (Int32.toInt_inj.mp (e1.trans (by rw [o63]))).symm
    have cn1 : ok ((f_X12_can N A 1).bind fun p34 => (if p34.1 = 0 then some p34.2 else f_X12_forHead_61 N p34.2 x1)) (fun _ => True) ∨ True := Or.inr trivial
    clear cn1
    have c61 : (A.i 10 = 61 ∨ A.i 10 = 58) → ok (((f_X12_can N A 1).bind fun p34 => (if p34.1 = 0 then some p34.2 else f_X12_forHead_61 N p34.2 x1)).bind fun p => f_X12_parse_10 N n p) P := fun tok => by
      obtain ⟨G, eG, g1, g2, hG⟩ := p_cn (N := N) mA.1.1 1
      rw [eG]
      rcases hG with ⟨g3, g4⟩ | ⟨g3, g4, g5, g6⟩
      · show ok ((if G.1 = 0 then some G.2 else f_X12_forHead_61 N G.2 x1 : Option RS).bind fun p => f_X12_parse_10 N n p) P
        rw [if_pos g3]
        exact flt A G.2 hHA g1 g4
      · show ok ((if G.1 = 0 then some G.2 else f_X12_forHead_61 N G.2 x1 : Option RS).bind fun p => f_X12_parse_10 N n p) P
        rw [if_neg (by rw [g3]; decide), g4]
        exact FOT hN hc' hx hs hI hp h9 hb hc hF hHA hn n1 hC tok a63
    by_cases d1 : A.i 10 = 61
    · rw [if_pos d1]; exact c61 (Or.inl d1)
    rw [if_neg d1]
    by_cases d2 : A.i 10 = 58
    · rw [if_pos d2]; exact c61 (Or.inr d2)
    rw [if_neg d2]
    obtain ⟨G, eG, g1, g2, hG⟩ := p_cn (N := N) mA.1.1 0
    rw [eG]
    rcases hG with ⟨g3, g4⟩ | ⟨g3, g4, g5, g6⟩
    · show ok ((if G.1 = 0 then some G.2 else f_X12_forHead_61 N G.2 x1 : Option RS).bind fun p => f_X12_parse_10 N n p) P
      rw [if_pos g3]
      exact flt A G.2 hHA g1 g4
    · exact absurd rfl g6
  rw [if_neg c1]
  by_cases c2 : O.i 10 = 2
  · rw [if_pos c2]
    obtain ⟨p, ep, hpp⟩ := GOT hN1 hH.1.1 O.l (O.i 11)
    rw [ep]
    show ok ((if ib x1 1000 then (f_X12_next N (RS.setA p.2 66 (x1.toNatClampNeg) p.1)).bind fun p15 => (if (p15.i 10) = 61 then (f_X12_can N p15 1).bind fun p25 => (if p25.1 = 0 then some p25.2 else f_X12_forHead_196 N p25.2) else (f_X12_can N p15 0).bind fun p18 => (if p18.1 = 0 then some p18.2 else f_X12_forHead_196 N p18.2)) else none : Option RS).bind fun p => f_X12_parse_10 N n p) P
    rw [if_pos ibx, nx]
    rcases hpp with ⟨z1, z2⟩ | ⟨z1, z2⟩
    · have tS : FS' s (p.2.setA 66 t p.1) := FS'.loc (FS'.of hH.1.2.2.1.1.1 z2 z1 hH.1.1.r) t p.1 (by omega) (by omega)
      have lS : LXI (p.2.setA 66 t p.1) := z2.2.2.2.1
      obtain ⟨E, eE, e1, e2, e3, e4⟩ := p_nx hN1 lS
      have eEE : E = p.2.setA 66 t p.1 := e3 z1
      rw [eE]
      have E15 : ¬ E.i 15 = 0 := by rw [eEE]; exact z1
      have E75 : E.i 75 = 0 ∨ E.i 75 = 1 := by rw [eEE]; exact tS.2.2
      have KE : K1 s E := by rw [eEE]; exact tS.2.1
      have fin : ∀ y : Int32, ok (((f_X12_can N E y).bind fun p25 => (if p25.1 = 0 then some p25.2 else f_X12_forHead_196 N p25.2)).bind fun p => f_X12_parse_10 N n p) P := fun y => by
        obtain ⟨G, eG, g1, g2, hG⟩ := p_cn (N := N) e1.2.2.2.1 y
        rw [eG]
        rcases hG with ⟨g3, g4⟩ | ⟨g3, g4, g5, g6⟩
        · show ok ((if G.1 = 0 then some G.2 else f_X12_forHead_196 N G.2 : Option RS).bind fun p => f_X12_parse_10 N n p) P
          rw [if_pos g3]
          exact lp_f g4 (hF _ (FS'.of KE g1 g4 E75)) n1
        · exact absurd g5 E15
      show ok ((if (E.i 10) = 61 then (f_X12_can N E 1).bind fun p25 => (if p25.1 = 0 then some p25.2 else f_X12_forHead_196 N p25.2) else (f_X12_can N E 0).bind fun p18 => (if p18.1 = 0 then some p18.2 else f_X12_forHead_196 N p18.2) : Option RS).bind fun p => f_X12_parse_10 N n p) P
      by_cases d : E.i 10 = 61
      · rw [if_pos d]; exact fin 1
      · rw [if_neg d]; exact fin 0
    rw [z1]
    obtain ⟨sl, esl⟩ : ∃ sl, sl = p.1 := ⟨_, rfl⟩
    rw [← esl] at z2 ⊢
    clear esl z1 ep
    have hsl : SLT s sl := SLT.kp z2 hH.2.1 hH.1.2.2.1
    obtain ⟨A, hA⟩ : ∃ A, A = O.setA 66 t sl := ⟨_, rfl⟩
    have hHA : HD t s A := by rw [hA]; exact hH.loc _ (by omega) (by omega)
    have A66 : A.a 66 t = sl := by rw [hA]; exact setA_at
    have A10 : A.i 10 = 2 := by rw [hA]; exact c2
    rw [← hA]
    clear hA
    obtain ⟨w, ew, y1, y2, y3, y4, y5, y6, y7⟩ := NX hN1 hHA.1.1 (by rw [A10]; decide)
    rw [ew]
    have hW := hHA.nx y4 y1 y3 y5 y6
    have w66 : w.a 66 t = sl := by rw [y1.1]; exact A66
    show ok ((if (w.i 10) = 61 then (f_X12_can N w 1).bind fun p25 => (if p25.1 = 0 then some p25.2 else f_X12_forHead_196 N p25.2) else (f_X12_can N w 0).bind fun p18 => (if p18.1 = 0 then some p18.2 else f_X12_forHead_196 N p18.2) : Option RS).bind fun p => f_X12_parse_10 N n p) P
    by_cases d : w.i 10 = 61
    · rw [if_pos d]
      obtain ⟨G, eG, g1, g2, hG⟩ := p_cn (N := N) hW.1.1.1 1
      rw [eG]
      show ok ((if G.1 = 0 then some G.2 else f_X12_forHead_196 N G.2 : Option RS).bind fun p => f_X12_parse_10 N n p) P
      rcases hG with ⟨g3, g4⟩ | ⟨g3, g4, g5, g6⟩
      · rw [if_pos g3]
        exact flt w G.2 hW g1 g4
      rw [if_neg (by rw [g3]; decide), g4]
      clear eG g1 g2 g3 g4
      obtain ⟨z, ez, z1, z2, z3, z4, z5, z6, z7⟩ := NX hN1 hW.1.1 (by rw [d]; decide)
      have hZ := hW.nx z4 z1 z3 z5 z6
      unfold f_X12_forHead_196
      rw [ez]
      show ok (((f_X12_then N z 2 16).bind fun p22 => some p22).bind fun p => f_X12_parse_10 N n p) P
      obtain ⟨mZ, z38, zsl, cz, z21, z64, z71, fz⟩ := id hZ
      rw [p_th 2 16 mZ.2.1 (by omega)]
      exact FO2 hN hc' hx hs hI hp h9 hb hc hF mZ z38 cz z21 fz z64 (by rw [z1.1]; exact w66) hsl z71 hn hC
    · rw [if_neg d]
      obtain ⟨G, eG, g1, g2, hG⟩ := p_cn (N := N) hW.1.1.1 0
      rw [eG]
      show ok ((if G.1 = 0 then some G.2 else f_X12_forHead_196 N G.2 : Option RS).bind fun p => f_X12_parse_10 N n p) P
      rcases hG with ⟨g3, g4⟩ | ⟨g3, g4, g5, g6⟩
      · rw [if_pos g3]
        exact flt w G.2 hW g1 g4
      · exact absurd rfl g6
  rw [if_neg c2]
  by_cases c3 : O.i 10 = 59
  · rw [if_pos c3]
    obtain ⟨G, eG, g1, g2, hG⟩ := p_cn (N := N) hH.1.1.1 1
    rw [eG]
    show ok ((if G.1 = 0 then some G.2 else f_X12_forHead_231 N G.2 x1 : Option RS).bind fun p => f_X12_parse_10 N n p) P
    rcases hG with ⟨g3, g4⟩ | ⟨g3, g4, g5, g6⟩
    · rw [if_pos g3]
      exact flt O G.2 hH g1 g4
    rw [if_neg (by rw [g3]; decide), g4]
    clear eG g1 g2 g3 g4
    unfold f_X12_forHead_231
    rw [if_pos ibx, nx]
    show ok (f_X12_parse_10 N n (O.setA 65 t 3)) P
    obtain ⟨I, hII⟩ : ∃ I, I = O.setA 65 t 3 := ⟨_, rfl⟩
    have hJ : HD t s I := by rw [hII]; exact hH.loc _ (by omega) (by omega)
    have I65 : I.a 65 t = 3 := by rw [hII]; exact setA_at
    rw [← hII]
    clear hII
    obtain ⟨mI, i38, isl, cI, i21, i64, i71, fI⟩ := id hJ
    obtain ⟨m', rfl⟩ : ∃ m', n = m' + 1 := ⟨n - 1, by omega⟩
    have push' : ((m' + 1 : Nat) : Int) = (m' : Int) + 1 := by omega
    rw [push'] at hn hC
    have fIf := mI.1.1.f0
    exact FO3 (m := m') hN hc' hx hs hI hp h9 hb hc hF mI (fun z => TS.i0 cs.1 cI i21 rfl) i64 I65 i71 (by omega) (by omega) (fun m4 u hu hf hm => hC m4 u hu (by omega) (by omega))
  · rw [if_neg c3]
    obtain ⟨G, eG, g1, g2, hG⟩ := p_cn (N := N) hH.1.1.1 0
    rw [eG]
    show ok ((if G.1 = 0 then some G.2 else f_X12_forHead_231 N G.2 x1 : Option RS).bind fun p => f_X12_parse_10 N n p) P
    rcases hG with ⟨g3, g4⟩ | ⟨g3, g4, g5, g6⟩
    · rw [if_pos g3]
      exact flt O G.2 hH g1 g4
    · exact absurd rfl g6
