/-! both readers: inside the arms, one token on; the frame's state is set -/
theorem AMI.adw {N : Nat} (hN : 1000 ≤ N) {d : Int32} {t : Nat} {f x4 : Int32} {c : Int} {L : List Nat} {S0 S W : CS} {s0 s u : RS} {R : Unit × CS} (h : AMI d t f x4 c L S0 s0 S s) (hW : ENV d W s) (w22 : W.i 22 = S.i 22) (w18 : W.a 18 = S.a 18) (hck : ∀ T : CS, pj T = pj W → T.i 22 = W.i 22 → T.a 18 = W.a 18 → (W.i 44).toInt + 1 ≤ (T.i 44).toInt → CKX S T ∧ (T.i 21).toInt ≤ (S.i 21).toInt + 1) (hz : ¬ W.i 43 = 0) (e : f_X9_advance N W = some R) (g : f_X12_next N s = some u) : AMI d t f x4 c L S0 s0 R.2 u ∧ u.a = s.a ∧ R.2.i 22 = S.i 22 ∧ R.2.a 18 = S.a 18 ∧ (s.i 11).toInt + 1 ≤ (u.i 11).toInt ∧ phI u = phI s + 3 ∧ (u.i 17).toInt = (s.i 17).toInt + 1 ∧ (s.i 12).toInt ≤ (u.i 11).toInt := by
  obtain ⟨h1, h2, h3, h4, h5, h6, ⟨c1, c2, c3, c4⟩, ⟨p1, p2, p3, p4⟩, ⟨r1, r2⟩, v1, v2, ⟨v3, v4, v5, v6, v7⟩⟩ := h
  obtain ⟨w1, w2, w3, w4, w5, w6, w7, w8, w9, w10⟩ := hW.adv hN hz e g
  obtain ⟨-, -, tu, b9⟩ := y_adv hN hW.1 e g
  have ua : u.a = s.a := by rw [tu.2.1]; rfl
  have u24 : u.i 24 = s.i 24 := tu.1 24 (by decide) (by decide) (by decide) (by decide)
  have t17 : (u.i 17).toInt = (s.i 17).toInt + 1 := by rw [w4]; exact t17_up (N := N) h1
  have pu : phI u = phI s + 3 := by
    unfold phI
    rw [w6, t17]
    omega
  have z22 := w8.trans w22
  have z18 := w9.1.trans w18
  obtain ⟨ck, l21⟩ := hck R.2 w3 w8 w9.1 (by rw [hW.1.2.2.2.1.1, w1.1.2.2.2.1.1]; exact w5)
  refine ⟨⟨w1, qj_63 w2 h2, by rw [ua]; exact h3, h4.exp ck, ⟨h5.1.tr (TBZ.of w2), by rw [w6]; exact h5.2.1, fun j hj => by rw [ua]; exact h5.2.2 j hj⟩, h6.tr (FRB.of w2), ⟨?_, ?_, ?_, c4⟩, ⟨p1, p2, by rw [ua]; exact p3, by rw [ua, w6]; exact p4⟩, ⟨by rw [ua]; exact r1, by rw [ua]; exact r2⟩, v1, w10.trans v2, by omega, by omega, by omega, by omega, ?_⟩, ua, z22, z18, w5, pu, t17, b9⟩
  · unfold CSE at *
    rw [z22, z18, ua]
    exact c1
  · rw [ua]
    exact chn.up (by rw [u24]; exact Int.le_refl _) (fun i _ => by rw [ua]) _ _ c2
  · unfold FQL at *
    rw [ua]
    exact c3
  · have r9 := ck.2.2.2.2.2.2.2.2.2.1
    rw [h1.1.2.2.2.1.1, w1.1.2.2.2.1.1] at r9
    omega
theorem AMI.adv {N : Nat} (hN : 1000 ≤ N) {d : Int32} {t : Nat} {f x4 : Int32} {c : Int} {L : List Nat} {S0 S : CS} {s0 s u : RS} {R : Unit × CS} (h : AMI d t f x4 c L S0 s0 S s) (hz : ¬ S.i 43 = 0) (e : f_X9_advance N S = some R) (g : f_X12_next N s = some u) : AMI d t f x4 c L S0 s0 R.2 u ∧ u.a = s.a ∧ R.2.i 22 = S.i 22 ∧ R.2.a 18 = S.a 18 ∧ (s.i 11).toInt + 1 ≤ (u.i 11).toInt ∧ phI u = phI s + 3 ∧ (u.i 17).toInt = (s.i 17).toInt + 1 ∧ (s.i 12).toInt ≤ (u.i 11).toInt := h.adw hN h.1 rfl rfl (fun T k1 k2 k3 k4 => ⟨CKX.of k1 k2 ⟨k3, by omega⟩, by rw [pj_21 k1]; omega⟩) hz e g
/-- a target more, then one token on -/
theorem AMI.nadv {N : Nat} (hN : 1000 ≤ N) {d : Int32} {t : Nat} {f x4 : Int32} {c : Int} {L : List Nat} {S0 S : CS} {s0 s u : RS} {w : Int32 × CS} {R : Unit × CS} (h : AMI d t f x4 c L S0 s0 S s) (hz : ¬ S.i 43 = 0) (ew : f_X0_newTarget N S = some w) (e : f_X9_advance N w.2 = some R) (g : f_X12_next N s = some u) : (AMI d t f x4 c L S0 s0 R.2 u ∧ u.a = s.a ∧ R.2.i 22 = S.i 22 ∧ R.2.a 18 = S.a 18 ∧ (s.i 11).toInt + 1 ≤ (u.i 11).toInt ∧ phI u = phI s + 3 ∧ (u.i 17).toInt = (s.i 17).toInt + 1 ∧ (s.i 12).toInt ≤ (u.i 11).toInt) ∧ 0 ≤ w.1.toInt := by
  obtain ⟨-, n43, n44, n22, n18, n21⟩ := nt_i ew
  have h6 := h.2.2.2.2.2.2.2.2.2.2.2.2.2.2
  have h0 := h.1.t21.1
  obtain ⟨vw, w1, w21⟩ := h.1.nt (by omega) ew
  refine ⟨h.adw hN vw n22 n18 (fun T k1 k2 k3 k4 => ?_) (by rw [n43]; exact hz) e g, by omega⟩
  have t21 : (T.i 21).toInt = (S.i 21).toInt + 1 := by rw [pj_21 k1]; exact w21
  rw [n44] at k4
  exact ⟨CKX.nt ew (CKX.of k1 k2 ⟨k3, by rw [n44]; omega⟩) (by omega), by omega⟩
theorem AMI.s65 {d : Int32} {t : Nat} {f x4 v : Int32} {c : Int} {L : List Nat} {S0 S : CS} {s0 s : RS} (h : AMI d t f x4 c L S0 s0 S s) : AMI d t f x4 c L S0 s0 S (RS.setA s 65 t v) := by
  obtain ⟨h1, h2, h3, h4, h5, h6, ⟨c1, c2, c3, c4⟩, p, r, v1, v2, v3⟩ := h
  have ch : chn (RS.setA s 65 t v) (s.a 22 (s.a 66 t).toNatClampNeg) L := chn.up (s := s) (u := RS.setA s 65 t v) (Int.le_refl _) (fun _ _ => rfl) _ _ c2
  exact ⟨setA_env (Or.inr (by omega)) h1, h2, h3, h4, ⟨h5.1.tr (setA_tb0 (Or.inr (by omega))), h5.2⟩, h6.tr (setA_frb (Or.inr ⟨by omega, by omega, Nat.le_refl _⟩)), ⟨c1, ch, c3, c4⟩, p, r, v1, v2, v3⟩
theorem s65_at {s : RS} {t : Nat} {v : Int32} : (RS.setA s 65 t v).a 65 t = v := by
  show upd (s.a 65) t v t = v
  exact if_pos rfl
