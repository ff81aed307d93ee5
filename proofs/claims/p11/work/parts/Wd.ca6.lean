/-! both readers: a number of a switch, whole -/
def CNX9 (d : Int32) (t : Nat) (f : Int32) (L : List Nat) (S : CS) (s : RS) (R : CS) (u : RS) : Prop := ∃ (S1 : CS) (s1 : RS) (v : Int32), ENV d S1 s1 ∧ (s1.a = s.a ∧ s1.b = s.b ∧ (∀ k : Nat, k ≠ 10 → k ≠ 11 → k ≠ 12 → k ≠ 14 → k ≠ 17 → s1.i k = s.i k)) ∧ (pj S1 = pj S ∧ S1.i 22 = S.i 22 ∧ S1.a 18 = S.a 18) ∧ ((s.i 17).toInt ≤ (s1.i 17).toInt ∧ (s.i 11).toInt ≤ (s1.i 11).toInt) ∧ CNR9 d t f L v S1 s1 R u ∧ ((s.i 11).toInt + 1 < (u.i 11).toInt ∨ (0 ≤ v.toInt ∧ v.toInt ≤ 9))
theorem y_caseNumber {N : Nat} (hN : 1000 ≤ N) {d : Int32} {S : CS} {s : RS} {R : Unit × CS} {Q : Int32 × RS} {t : Nat} {x f tgt : Int32} {L : List Nat} (h : ENV d S s) (hx : x.toNatClampNeg = t) (hc : CSE S s f L) (hl : chn s (s.a 22 (s.a 66 t).toNatClampNeg) L) (hq : FQL s t L) (h3 : (S.i 22).toInt < 320) (e : f_X1_caseNumber N S f tgt = some R) (g : f_X12_caseNumber N s x = some Q) : (Q.1 = 0 ∧ ¬ R.2.i 32 = 0 ∧ ¬ Q.2.i 15 = 0) ∨ (Q.1 = 1 ∧ CNX9 d t f L S s R.2 Q.2 ∧ CNC tgt S s R.2 Q.2) := by
  have i45 := tk_is h (a := 45) (b := 45) (Or.inl ⟨by decide, by decide⟩) (by decide)
  have core : ∀ (S1 : CS) (s1 : RS) (mi : Int32), ENV d S1 s1 → s1.a = s.a → s1.b = s.b → (∀ k : Nat, k ≠ 10 → k ≠ 11 → k ≠ 12 → k ≠ 14 → k ≠ 17 → s1.i k = s.i k) → pj S1 = pj S → S1.i 22 = S.i 22 → S1.a 18 = S.a 18 → pe S1 = pe S → (s.i 17).toInt ≤ (s1.i 17).toInt → (s.i 11).toInt ≤ (s1.i 11).toInt → (mi = 0 ∨ (s.i 11).toInt + 1 ≤ (s1.i 11).toInt) → ((f_X1_found N S1 1).bind fun p5 => (if p5.1 = 0 then (f_X1_misplaced N p5.2).bind fun p28 => some ((), p28.2) else (if mi = 0 then f_X1_caseNumber_44 N p5.2 f tgt (p5.2.i 45) else f_X1_caseNumber_44 N p5.2 f tgt (-(p5.2.i 45))))) = some R → f_X12_caseNumber_23 N s1 x mi = some Q → (Q.1 = 0 ∧ ¬ R.2.i 32 = 0 ∧ ¬ Q.2.i 15 = 0) ∨ (Q.1 = 1 ∧ CNX9 d t f L S s R.2 Q.2 ∧ CNC tgt S s R.2 Q.2) := by
    intro S1 s1 mi h1 ea eb ei ep e22 e18 epe b17 b11 bm e g
    have i1 := tk_is h1 (a := 1) (b := 1) (Or.inl ⟨by decide, by decide⟩) (by decide)
    have h15 := h1.1.2.1
    unfold f_X12_caseNumber_23 at g
    by_cases c : S1.i 43 = 1
    · have k := i1.mp c
      rw [e_fnd1 c, ob_some, if_neg n10] at e
      rw [if_pos k, y_can1 h15 (by rw [k]; decide), ob_some, if_neg n10] at g
      unfold f_X12_caseNumber_45 at g
      have hc1 : CSE S1 s1 f L := by
        unfold CSE at *
        rw [e22, e18, ea]
        exact hc
      have hl1 : chn s1 (s1.a 22 (s1.a 66 t).toNatClampNeg) L := by
        rw [ea]
        exact chn.up (by rw [ei 24 (by decide) (by decide) (by decide) (by decide) (by decide)]; exact Int.le_refl _) (fun i _ => by rw [ea]) _ _ hl
      have hq1 : FQL s1 t L := by
        unfold FQL at *
        rw [ea]
        exact hq
      have h31 : (S1.i 22).toInt < 320 := by rw [e22]; exact h3
      have lc := h1.1.2.2.2.2.2.2.1
      have lc4 := lc.2.2.2.1 (by rw [c]; decide)
      have lc9 := lc.2.2.2.2.2.2.2.2 c
      have v14 : S1.i 45 = s1.i 14 := h1.1.2.2.2.1.2.2.2.2.2 (Or.inl c)
      have fin : ∀ v : Int32, (mi = 0 → v = S1.i 45) → f_X1_caseNumber_44 N S1 f tgt v = some R → f_X12_caseNumber_62 N s1 x v = some Q → (Q.1 = 0 ∧ ¬ R.2.i 32 = 0 ∧ ¬ Q.2.i 15 = 0) ∨ (Q.1 = 1 ∧ CNX9 d t f L S s R.2 Q.2 ∧ CNC tgt S s R.2 Q.2) := fun v hv e g => by
        rcases y_cn2 hN h1 hx hc1 hl1 hq1 h31 c e g with z | ⟨z1, z2, zc⟩
        · exact Or.inl z
        · have z3 := z2
          obtain ⟨_, _, _, _, _, _, _, _, _, _, _, f1, _, _, _, _, _, _, _, _, _, _, _, _, ln⟩ := z3
          refine Or.inr ⟨z1, ⟨S1, s1, v, h1, ⟨ea, eb, ei⟩, ⟨ep, e22, e18⟩, ⟨b17, b11⟩, z2, ?_⟩, ?_⟩
          rotate_left
          · obtain ⟨p20, p15, p16, p17, p23, p38, p22, p19⟩ := pe_eq epe
            obtain ⟨⟨c1, c2, c3, c4, c5, c6⟩, c7, c8, e9, c9, c10, c11⟩ := zc
            rw [e22] at c7 c8
            rw [ei 24 (by decide) (by decide) (by decide) (by decide) (by decide)] at c9
            rw [ei 20 (by decide) (by decide) (by decide) (by decide) (by decide)] at c10
            exact ⟨⟨c1.trans p20, c2.trans p23, c3.trans p38, c4.trans p15, c5.trans p16, c6.trans p17⟩, fun i hi => (c7 i hi).trans (by rw [p19]), c8, e9, c9, c10, fun i hi => (c11 i hi).trans (by rw [ea])⟩
          by_cases m0 : mi = 0
          · by_cases q : (S1.i 42).toInt = (S1.i 44).toInt + 1
            · exact Or.inr (by rw [hv m0]; exact lc9 q)
            · refine Or.inl ?_
              have := ln (by omega)
              omega
          · refine Or.inl ?_
            have := bm.resolve_left m0
            omega
      by_cases m0 : mi = 0
      · rw [if_pos m0] at e g
        rw [← v14] at g
        exact fin _ (fun _ => rfl) e g
      · rw [if_neg m0] at e g
        rw [← v14] at g
        exact fin _ (fun q => absurd q m0) e g
    · have k : ¬ s1.i 10 = 1 := fun q => c (i1.mpr q)
      rw [e_fnd0 c, ob_some, if_pos rfl] at e
      rw [if_neg k] at g
      obtain ⟨p, ep', e⟩ := hf_bind e
      cases e
      obtain ⟨q, gq, g⟩ := hf_bind g
      obtain ⟨q1, q2⟩ := y_can0 gq
      rw [if_pos q1] at g
      unfold f_X12_caseNumber_43 at g
      cases g
      exact Or.inl ⟨rfl, y_misp ep', q2⟩
  unfold f_X1_caseNumber f_X1_skip at e
  unfold f_X12_caseNumber f_X12_caseNumber_15 at g
  obtain ⟨p, ep, e⟩ := hf_bind e
  by_cases c : S.i 43 = 45
  · have k := i45.mp c
    rw [if_pos k, if_neg n10] at g
    rw [e_fnd1 c, ob_some, if_neg n10] at ep
    obtain ⟨a, ea, ep⟩ := hf_bind ep
    unfold f_X1_skip_17 at ep
    cases ep
    obtain ⟨u, gu, g⟩ := hf_bind g
    obtain ⟨w1, w2, w3, w4, w5, w6, w7, w8, w9, w10⟩ := h.adv hN (by rw [c]; decide) ea gu
    obtain ⟨ba, adv, tu, b9⟩ := y_adv hN h.1 ea gu
    refine core a.2 u 1 w1 (by rw [tu.2.1]; rfl) (by rw [tu.2.2]; rfl) (fun k h1 h2 h3 h4 h5 => (tu.1 k h1 h2 h3 h4).trans (if_neg h5)) w3 w8 w9.1 (ke_X9_advance N S a ea) ?_ (by omega) (Or.inr w5) e g
    rw [w4, t17_up (N := N) h]
    omega
  · have k : ¬ s.i 10 = 45 := fun q => c (i45.mpr q)
    rw [if_neg k, if_pos rfl] at g
    rw [e_fnd0 c, ob_some, if_pos rfl] at ep
    unfold f_X1_skip_17 at ep
    cases ep
    exact core S s 0 h rfl rfl (fun _ _ _ _ _ _ => rfl) rfl rfl rfl rfl (Int.le_refl _) (Int.le_refl _) (Or.inl rfl) e g
