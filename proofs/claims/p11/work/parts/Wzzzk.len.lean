/-! both readers: a list's end, the reference's LIST goes -/
theorem y_lend {N : Nat} {d : Int32} {S : CS} {s U : RS} {n t : Nat} (hv : ENV d S s) (ht : tpI s = (t : Int)) (hk : s.a 64 t = 1) (hm : (s.a 65 t = 0 ∧ S.i 36 = 1) ∨ (s.a 65 t = 1 ∧ s.i 75 = S.i 36)) (hb : S.i 36 = 0 ∨ S.i 36 = 1) (h10 : s.i 10 = 125 ∨ s.i 10 = 429 ∨ s.i 10 = 430 ∨ s.i 10 = 0) (g : f_X12_parse_10 N n s = some U) : ∃ (m : Nat) (V : RS), f_X12_parse_10 N m V = some U ∧ ENV d S V ∧ tpI V = (t : Int) - 1 ∧ FRB t s V ∧ TBK s V ∧ V.i 75 = S.i 36 ∧ phI V = phI s ∧ V.i 10 = s.i 10 ∧ V.i 11 = s.i 11 ∧ V.i 17 = s.i 17 ∧ V.i 19 = s.i 19 ∧ V.a 64 = s.a 64 ∧ ((∀ k : Nat, k ≠ 63 → k ≠ 75 → V.i k = s.i k) ∧ (∀ k : Nat, k ≠ 66 → V.a k = s.a k) ∧ V.b = s.b) := by
  obtain ⟨m, V, hV, g2⟩ := rl_1 g ht hv.1.2.1 hk
  unfold f_X12_list at hV
  obtain ⟨hib, hV⟩ := hf_ite hV
  have t9 : t < 1000 := by
    have h2 : (s.i 63).toInt = (t : Int) := ht
    have := hib.2
    omega
  rw [tp_nat ht] at hV
  have key : ∀ w : Int32, w = S.i 36 → f_X12_list_37 N (RS.setA s 66 t w) (s.i 63) = some V → ∃ (m : Nat) (V : RS), f_X12_parse_10 N m V = some U ∧ ENV d S V ∧ tpI V = (t : Int) - 1 ∧ FRB t s V ∧ TBK s V ∧ V.i 75 = S.i 36 ∧ phI V = phI s ∧ V.i 10 = s.i 10 ∧ V.i 11 = s.i 11 ∧ V.i 17 = s.i 17 ∧ V.i 19 = s.i 19 ∧ V.a 64 = s.a 64 ∧ ((∀ k : Nat, k ≠ 63 → k ≠ 75 → V.i k = s.i k) ∧ (∀ k : Nat, k ≠ 66 → V.a k = s.a k) ∧ V.b = s.b) := fun w hw e => by
    have ev : ENV d S (RS.setA s 66 t w) := setA_env (Or.inr ⟨by decide, by decide⟩) hv
    have fr : FRB t s (RS.setA s 66 t w) := setA_frb (Or.inr ⟨by decide, by decide, Nat.le_refl _⟩)
    have tk : TBK s (RS.setA s 66 t w) := setA_tbk ⟨by decide, by decide⟩
    have a66 : (RS.setA s 66 t w).a 66 t = w := setA_at
    have qi : (RS.setA s 66 t w).i = s.i := rfl
    have qa : (RS.setA s 66 t w).a 64 = s.a 64 := setA_nk (by decide)
    have qk : (∀ k : Nat, k ≠ 66 → (RS.setA s 66 t w).a k = s.a k) ∧ (RS.setA s 66 t w).b = s.b := ⟨fun k hk => setA_nk hk, rfl⟩
    obtain ⟨q, hq⟩ : ∃ q, q = RS.setA s 66 t w := ⟨_, rfl⟩
    rw [← hq] at e ev fr tk a66 qi qa qk
    clear hq
    have e73 : f_X12_list_73 N q (s.i 63) = some V := by
      unfold f_X12_list_37 at e
      rw [qi] at e
      rcases h10 with z | z | z | z
      · rw [if_pos z] at e
        exact e
      · rw [if_neg (by rw [z]; decide), if_pos z] at e
        exact e
      · rw [if_neg (by rw [z]; decide), if_neg (by rw [z]; decide), if_pos z] at e
        exact e
      · rw [if_neg (by rw [z]; decide), if_neg (by rw [z]; decide), if_neg (by rw [z]; decide), if_pos z] at e
        exact e
    unfold f_X12_list_73 at e73
    obtain ⟨-, e73⟩ := hf_ite e73
    rw [tp_nat ht, a66] at e73
    have ho : f_X12_over N q w = some V := by
      rcases hb with z | z
      · rw [hw.trans z] at e73 ⊢
        rw [if_neg (by decide), ob_id] at e73
        exact e73
      · rw [hw.trans z] at e73 ⊢
        rw [if_pos rfl, ob_id] at e73
        exact e73
    have tq : tpI q = (t : Int) := by
      show (q.i 63).toInt = _
      rw [qi]
      exact ht
    obtain ⟨v1, v2, v3, v4, v5, -, v7, v8, v9, v10⟩ := y_over ev tq t9 ho
    have phq : phI q = phI s := by
      unfold phI
      rw [qi]
    have V10 : V.i 10 = q.i 10 ∧ V.a 64 = q.a 64 ∧ (∀ k : Nat, k ≠ 63 → k ≠ 75 → V.i k = q.i k) ∧ V.a = q.a ∧ V.b = q.b := by
      unfold f_X12_over at ho
      obtain ⟨-, ho⟩ := hf_ite ho
      rw [← Option.some.inj ho]
      exact ⟨rfl, rfl, fun k h1 h2 => (if_neg h1).trans (if_neg h2), rfl, rfl⟩
    exact ⟨m, V, g2, v1, v2, fr.tr (v3 t), tk.tr v4, v5.trans hw, v7.trans phq, by rw [V10.1, qi], by rw [v8, qi], by rw [v9, qi], by rw [v10, qi], V10.2.1.trans qa, fun k h1 h2 => by rw [V10.2.2.1 k h1 h2, qi], fun k hk => by rw [V10.2.2.2.1]; exact qk.1 k hk, V10.2.2.2.2.trans qk.2⟩
  rcases hm with ⟨z1, z2⟩ | ⟨z1, z2⟩
  · rw [if_pos z1] at hV
    exact key 1 z2.symm hV
  · rw [if_neg (by rw [z1]; decide)] at hV
    rcases hb with k | k
    · rw [if_pos (z2.trans k)] at hV
      exact key 0 k.symm hV
    · rw [if_neg (by rw [z2, k]; decide)] at hV
      exact key 1 k.symm hV
/-- the sign that closes: the token goes, then one sign less -/
theorem y_clsA {N : Nat} (hN : 1000 ≤ N) {dl : Int32} {S : CS} {s : RS} {R : Unit × CS} {V : Int32 × RS} {c d : Int32} (h : ENV dl S s) (hc : tyR c) (hd : tm c = d) (h6 : ¬ d = 6) (h0 : ¬ c = 0) (k : S.i 43 = c) (e : f_X1_close N S c = some R) (g : f_X12_shut N s d = some V) : ∃ (A : Unit × CS) (q : RS), f_X9_advance N S = some A ∧ f_X12_next N s = some q ∧ ENV dl A.2 q ∧ R.2 = CS.setI A.2 34 (A.2.i 34 - 1) ∧ V.2 = RS.setI q 19 (q.i 19 - 1) ∧ V.1 = 1 := by
  have is := h.1.2.2.2.1.is hc hd
  have h15 := h.1.2.1
  unfold f_X1_close f_X1_close_22 at e
  unfold f_X12_shut f_X12_shut_18 f_X12_need f_X12_need_27 f_X12_need_31 at g
  rw [if_pos h15] at g
  have k' := is.mp k
  rw [e_fnd1 k, ob_some, if_neg n10] at e
  rw [if_pos k', y_can1 h15 (by rw [k']; exact h6), ob_some, if_neg n10] at g
  obtain ⟨p, ep, e⟩ := hf_bind e
  obtain ⟨w, gw, g⟩ := hf_bind g
  obtain ⟨q, gq, gw⟩ := hf_bind gw
  obtain ⟨a1, -⟩ := h.adv hN (fun z => h0 (k.symm.trans z)) ep gq
  rw [if_pos a1.1.2.1] at gw
  cases gw
  have g2 : (if (RS.setI q 19 (q.i 19 - 1)).i 15 = 0 then some ((1 : Int32), RS.setI q 19 (q.i 19 - 1)) else some (0, RS.setI q 19 (q.i 19 - 1))) = some V := (if_neg n10).symm.trans g
  rw [if_pos (show (RS.setI q 19 (q.i 19 - 1)).i 15 = 0 from a1.1.2.1)] at g2
  cases e
  cases g2
  exact ⟨p, q, ep, gq, a1, rfl, rfl, rfl⟩
