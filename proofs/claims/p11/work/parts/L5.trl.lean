/-! reading: try: catch by catch -/
theorem TRL {N b : Nat} (hN : 1000 ≤ N) (hbk : 1 ≤ b → RUNBW N (b - 1)) {s : RS} {t id : Nat} {e : Int} {P : RS → Prop} {B0 : Int} (hI : INV s) (h9 : t < 996) (hb : 2 * (t : Int) ≤ fr s + 12 * op s + 2) (hc : 900 - fr s ≤ b) (hF : ∀ u, FS' s u → P u) (hid : (id : Int) = trI s) (hC : ∀ (m : Nat) (u : RS), PS t s u → fr s + 1 ≤ fr u → B0 ≤ m + 40 * fr u → ok (f_X12_parse_10 N m u) P) : ∀ (d m : Nat) (CL : List Nat) (w : RS), TI t s id CL e w → w.a 65 t = 2 → 900 - fr w < d → 36000 + 60 ≤ (m : Int) + 40 * fr w → B0 ≤ (m : Int) + 40 * fr w → ok (f_X12_parse_10 N (m + 1) w) P
  | 0, m, CL, w, hw, w65, hd, hm, hB => by
    have := hw.1.1.1.f0
    omega
  | d + 1, m, CL, w, hw, w65, hd, hm, hB => by
    have ih := TRL hN hbk (e := e) hI h9 hb hc hF hid hC d
    obtain ⟨⟨a1, a2, a3, a4⟩, ⟨b1, b2, b3, b4, b5⟩, ⟨c1, c2⟩, ⟨d1, d2, d3⟩, ⟨e1, e2, e3, e4⟩, ⟨f1, f2, f3⟩, ⟨g1, g2, g3, g4⟩, ⟨h1, h2⟩, k1⟩ := (show TI t s id CL e w from hw)
    have fw := a1.1.f0
    by_cases t1 : w.i 10 = 425
    · exact TRC hN hbk hI h9 hb hc hF hid hw w65 t1 (by omega) (fun m' w' CL' q1 q2 _ q4 q5 => ih m' CL' w' q1 q2 (by omega) (by omega) (by omega))
    by_cases t2 : w.i 10 = 426
    · exact TRF hN hbk hI h9 hb hc hF hid hw w65 t2 (by omega) (fun m' u q1 q2 q3 => hC m' u q1 (by omega) (by omega))
    have ibx : ib (w.i 63) 1000 := tp_ib a2 (by omega)
    have nx : (w.i 63).toNatClampNeg = t := tp_nat a2
    refine lp_15 a2 (by omega) a1.2.2.1 e1 ?_
    unfold f_X12_trying
    rw [if_pos ibx, nx, if_neg (by rw [w65]; decide), if_neg (by rw [w65]; decide), if_pos w65, if_neg t1, if_neg t2]
    have go : ∀ y : Int32, (¬ y = 0 → w.a 67 t = 1 ∨ CL ≠ []) → ok (((f_X12_can N w y).bind fun p50 => (if p50.1 = 0 then some p50.2 else f_X12_trying_417 N p50.2 (w.i 63))).bind fun p => f_X12_parse_10 N m p) P := fun y hy => by
      obtain ⟨G, eG, y1, y2, hG⟩ := p_cn (N := N) a1.1 y
      rw [eG]
      show ok ((if G.1 = 0 then some G.2 else f_X12_trying_417 N G.2 (w.i 63) : Option RS).bind fun p => f_X12_parse_10 N m p) P
      rcases hG with ⟨y3, y4⟩ | ⟨y3, y4, y5, y6⟩
      · rw [if_pos y3]
        exact lp_f (u := G.2) y4 (hF _ (FS'.of a3.1.1 y1 y4 a1.r)) (by omega)
      rw [if_neg (by rw [y3]; decide), y4]
      exact TRN hN hI h9 hid hw (hy y6) ibx nx (fun u hu hf => hC m u hu (by omega) (by omega))
    by_cases c67 : w.a 67 t = 1
    · rw [if_pos c67]; exact go 1 (fun _ => Or.inl c67)
    rw [if_neg c67]
    by_cases c72 : w.a 72 t < 0
    · rw [if_pos c72]; exact go 0 (fun q => absurd rfl q)
    rw [if_neg c72]
    refine go 1 (fun _ => Or.inr (fun q => ?_))
    rcases e3 with ⟨_, q2⟩ | ⟨M, j, q1, _⟩
    · exact c72 (Int32.lt_iff_toInt_lt.mpr (by rw [z_t0]; exact q2))
    · rw [q] at q1
      have := congrArg List.length q1
      simp at this
