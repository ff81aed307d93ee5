/-! both readers: names that are seen -/
theorem f_lo {N : Nat} {S : CS} {l : Int64} : ∀ (n : Nat) (x : Int32) (P : Int32 × CS), 0 ≤ x.toInt → x.toInt ≤ 128 → f_X4_find_2 N n S l x = some P → P.2 = S ∧ ((P.1 = -1 ∧ ∀ k : Nat, x.toInt ≤ (k : Int) → (k : Int) < (S.i 50).toInt → k < 128 → ¬ S.b 47 k = l) ∨ (∃ k : Nat, (k : Int) < (S.i 50).toInt ∧ k < 128 ∧ P.1.toInt = (k : Int) ∧ S.b 47 k = l))
  | 0, _, _, _, _, e => by cases e
  | n + 1, x, P, h0, h8, e => by
    have e' : b_X4_find_2 N (f_X4_find_2 N n) S l x = some P := e
    unfold b_X4_find_2 f_X4_find_38 at e'
    have e128 : (128 : Int32).toInt = 128 := by decide
    by_cases c : S.i 50 ≤ x
    · rw [if_pos c] at e'
      cases e'
      have := le_int c
      exact ⟨rfl, Or.inl ⟨rfl, fun k h1 h2 _ => by omega⟩⟩
    · rw [if_neg c] at e'
      have lt := lt_int (Int32.not_le.mp c)
      by_cases c2 : (128 : Int32) ≤ x
      · rw [if_pos c2] at e'
        cases e'
        have := le_int c2
        exact ⟨rfl, Or.inl ⟨rfl, fun k h1 h2 h3 => by omega⟩⟩
      · rw [if_neg c2] at e'
        have lt2 := lt_int (Int32.not_le.mp c2)
        obtain ⟨hib, e'⟩ := hf_ite e'
        have ck := clampI h0
        by_cases d : lg_cmp (S.b 47 x.toNatClampNeg) l = 0
        · rw [if_pos d] at e'
          cases e'
          exact ⟨rfl, Or.inr ⟨x.toNatClampNeg, by omega, by omega, by show x.toInt = (x.toNatClampNeg : Int); omega, lg_eq d⟩⟩
        · rw [if_neg d] at e'
          have e1 : (x + 1).toInt = x.toInt + 1 := ad1 h0 (by omega)
          have nd : ¬ S.b 47 x.toNatClampNeg = l := fun q => d (lgc_eq.mpr q)
          obtain ⟨p1, p2⟩ := f_lo n (x + 1) P (by omega) (by omega) e'
          refine ⟨p1, ?_⟩
          rcases p2 with ⟨q1, q2⟩ | q
          · refine Or.inl ⟨q1, fun k h1 h2 h3 => ?_⟩
            by_cases z : (k : Int) = x.toInt
            · have : k = x.toNatClampNeg := by omega
              rw [this]
              exact nd
            · exact q2 k (by omega) h2 h3
          · exact Or.inr q
theorem f_hi {N : Nat} {s : RS} {l : Int64} : ∀ (n : Nat) (x : Int32) (P : Int32 × RS), -1 ≤ x.toInt → f_X12_seenAs_7 N n s l x = some P → P.2 = s ∧ ((P.1 = -1 ∧ ∀ k : Nat, (k : Int) ≤ x.toInt → ¬ s.b 39 k = l) ∨ (∃ k : Nat, (k : Int) ≤ x.toInt ∧ P.1.toInt = (k : Int) ∧ s.b 39 k = l))
  | 0, _, _, _, e => by cases e
  | n + 1, x, P, h0, e => by
    have e' : b_X12_seenAs_7 N (f_X12_seenAs_7 N n) s l x = some P := e
    unfold b_X12_seenAs_7 at e'
    by_cases c : x < 0
    · rw [if_pos c] at e'
      cases e'
      have := lt_int c
      rw [z_t0] at this
      exact ⟨rfl, Or.inl ⟨rfl, fun k h1 => by omega⟩⟩
    · rw [if_neg c] at e'
      have ge := le_int (Int32.not_lt.mp c)
      rw [z_t0] at ge
      obtain ⟨hib, e'⟩ := hf_ite e'
      have ck := clampI ge
      by_cases d : lg_cmp (s.b 39 x.toNatClampNeg) l = 0
      · rw [if_pos d] at e'
        cases e'
        exact ⟨rfl, Or.inr ⟨x.toNatClampNeg, by omega, by show x.toInt = (x.toNatClampNeg : Int); omega, lg_eq d⟩⟩
      · rw [if_neg d] at e'
        have em : (-1 : Int32).toInt = -1 := by decide
        have hi := Int32.toInt_lt x
        have e1 : (x + (-1)).toInt = x.toInt - 1 := by rw [toInt_add] <;> rw [em] <;> omega
        have nd : ¬ s.b 39 x.toNatClampNeg = l := fun q => d (lgc_eq.mpr q)
        obtain ⟨p1, p2⟩ := f_hi n (x + (-1)) P (by omega) e'
        refine ⟨p1, ?_⟩
        rcases p2 with ⟨q1, q2⟩ | ⟨k, k1, k2, k3⟩
        · refine Or.inl ⟨q1, fun k h1 => ?_⟩
          by_cases z : (k : Int) = x.toInt
          · have : k = x.toNatClampNeg := by omega
            rw [this]
            exact nd
          · exact q2 k (by omega)
        · exact Or.inr ⟨k, by omega, k2, k3⟩
theorem nms_hi {d : Int32} {S : CS} {s : RS} (h : ENV d S s) : 2 ≤ (s.i 38).toInt ∧ (s.i 38).toInt < 128 := by
  have hi := i11_hi h
  have n2 := h.2.1.2.1
  omega
/-- a name is seen in both, at the same place, or in none -/
theorem y_find {N : Nat} {d : Int32} {S : CS} {s : RS} {l : Int64} {P : Int32 × CS} {Q : Int32 × RS} (h : ENV d S s) (e : f_X4_find N S l = some P) (g : f_X12_seenAs N s l = some Q) : P.2 = S ∧ Q.2 = s ∧ P.1 = Q.1 ∧ (P.1 = -1 ∨ ∃ k : Nat, P.1.toInt = (k : Int) ∧ (k : Int) < (s.i 38).toInt ∧ S.b 47 k = l ∧ s.b 39 k = l) ∧ (P.1 = -1 → ∀ k : Nat, (k : Int) < (s.i 38).toInt → ¬ s.b 39 k = l) := by
  have hn := nms_hi h
  obtain ⟨n1, n2, n3, n4⟩ := h.2.1
  have e' : f_X4_find_2 N N S l 0 = some P := e
  have g' : f_X12_seenAs_7 N N s l (s.i 38 - 1) = some Q := g
  have e1 : (1 : Int32).toInt = 1 := by decide
  have em : (-1 : Int32).toInt = -1 := by decide
  have es : (s.i 38 - 1).toInt = (s.i 38).toInt - 1 := by rw [toInt_sub] <;> rw [e1] <;> omega
  obtain ⟨a1, a2⟩ := f_lo N 0 P (by decide) (by decide) e'
  obtain ⟨b1, b2⟩ := f_hi N (s.i 38 - 1) Q (by omega) g'
  rw [n1] at a2
  rcases a2 with ⟨q1, q2⟩ | ⟨k, k1, k2, k3, k4⟩
  · have no : ∀ k : Nat, (k : Int) < (s.i 38).toInt → ¬ s.b 39 k = l := fun k hk q => q2 k (by rw [z_t0]; omega) hk (by omega) ((n3 k hk).1.trans q)
    rcases b2 with ⟨r1, -⟩ | ⟨j, j1, j2, j3⟩
    · exact ⟨a1, b1, q1.trans r1.symm, Or.inl q1, fun _ => no⟩
    · exact absurd j3 (no j (by omega))
  · have k5 : s.b 39 k = l := (n3 k k1).1.symm.trans k4
    rcases b2 with ⟨-, r2⟩ | ⟨j, j1, j2, j3⟩
    · exact absurd k5 (r2 k (by omega))
    · have jk : j = k := by
        rcases Nat.lt_trichotomy j k with z | z | z
        · exact absurd (j3.trans k5.symm) (n4 j k z k1)
        · exact z
        · exact absurd (k5.trans j3.symm) (n4 k j z (by omega))
      refine ⟨a1, b1, Int32.toInt_inj.mp (by rw [k3, j2, jk]), Or.inr ⟨k, k3, k1, k4, k5⟩, fun q => ?_⟩
      rw [q, em] at k3
      omega
/-! a sign that opens, one that closes -/
theorem TKR.kd {S R : CS} {s : RS} (h : TKR S s) (e44 : R.i 44 = S.i 44) (e42 : R.i 42 = S.i 42) (e43 : R.i 43 = S.i 43) (el : R.l = S.l) (e45 : R.i 45 = S.i 45) : TKR R s := ⟨by rw [e44]; exact h.1, by rw [e42]; exact h.2.1, by rw [e43]; exact h.2.2.1, by rw [e43]; exact h.2.2.2.1, fun q => by rw [e43] at q; rw [el]; exact h.2.2.2.2.1 q, fun q => by rw [e43] at q; rw [e45]; exact h.2.2.2.2.2 q⟩
/-- the number of open signs is another in both -/
theorem ENV.sg {d : Int32} {S : CS} {s : RS} {v w : Int32} (h : ENV d S s) (hvw : v = w) (h0 : 0 ≤ w.toInt) (h9 : w.toInt ≤ 20) (hs : SGS S (cnI S).toNat ≤ v.toInt) : ENV d (CS.setI S 34 v) (RS.setI s 19 w) := by
  obtain ⟨⟨h1, h2, h3, h4, h5, h6, h7, h8⟩, n, -, c, l, k, ⟨r1, r2, r3, r4, r5, r6, r7, r8, r9, r10, r11⟩⟩ := h
  exact ⟨⟨h1, h2, h3, h4, h5, h6, h7, h8⟩, n, ⟨hvw, h0, h9⟩, c, l, k, ⟨r1, r2, r3, r4, r5, r6, r7, r8.mv rfl rfl rfl rfl ⟨rfl, rfl, rfl⟩ (show SGS S (cnI S).toNat ≤ sgI (CS.setI S 34 v) from hs) (Int.le_refl _), r9, r10, r11⟩⟩
/-- what comes of a sign that opens -/
theorem y_open {N : Nat} (hN : 1000 ≤ N) {dl : Int32} {S : CS} {s : RS} {R : Unit × CS} {V : Int32 × RS} {c d : Int32} (h : ENV dl S s) (hc : tyR c) (hd : tm c = d) (h6 : ¬ d = 6) (h0 : ¬ c = 0) (e : f_X1_open N S c = some R) (g : f_X12_open N s d = some V) : (V.1 = 0 ∧ ¬ R.2.i 32 = 0 ∧ ¬ V.2.i 15 = 0) ∨ (V.1 = 1 ∧ S.i 43 = c ∧ ENV dl R.2 V.2 ∧ qj V.2 = qj s ∧ pj R.2 = pj S ∧ V.2.i 17 = s.i 17 + 1 ∧ (s.i 11).toInt + 1 ≤ (V.2.i 11).toInt ∧ V.2.i 20 = s.i 20 ∧ V.2.a 22 = s.a 22 ∧ R.2.i 22 = S.i 22 ∧ A18 S R.2 ∧ (V.2.i 19).toInt = (s.i 19).toInt + 1) := by
  have is := h.1.2.2.2.1.is hc hd
  have h15 := h.1.2.1
  have ho := h.2.2.1
  have e20 : (20 : Int32).toInt = 20 := by decide
  have s19 : (s.i 19 + 1).toInt = (s.i 19).toInt + 1 := ad1 ho.2.1 (by omega)
  unfold f_X1_open at e
  unfold f_X12_open f_X12_open_27 f_X12_open_38 f_X12_opens f_X12_opens_29 at g
  rw [if_pos h15] at g
  by_cases k : S.i 43 = c
  · have k' := is.mp k
    rw [e_fnd1 k, ob_some, if_neg n10] at e
    rw [if_pos k', y_can1 h15 (by rw [k']; exact h6), ob_some, if_neg n10] at g
    by_cases o : (s.i 19).toInt < 20
    · have c1 : S.i 34 < 20 := by rw [ho.1, Int32.lt_iff_toInt_lt]; omega
      have c2 : s.i 19 + 1 ≤ 20 := by rw [Int32.le_iff_toInt_le]; omega
      have c3 : (RS.setI s 19 (s.i 19 + 1)).i 15 = 0 := h15
      have e2 : (f_X9_advance N (CS.setI S 34 (S.i 34 + 1))).bind (fun p7 => some ((), p7.2)) = some R := (if_pos c1).symm.trans e
      rw [if_pos c2, if_pos c3, ob_some, if_neg n10] at g
      obtain ⟨p, ep, e2⟩ := hf_bind e2
      obtain ⟨q, gq, g⟩ := hf_bind g
      have hv : ENV dl (CS.setI S 34 (S.i 34 + 1)) (RS.setI s 19 (s.i 19 + 1)) := h.sg (by rw [ho.1]) (by omega) (by omega) (by
        have := h.ri.2.2.2.2.2.2
        unfold sgI at this
        rw [ho.1] at this ⊢
        omega)
      obtain ⟨a1, a2, a3, a4, a5, a6, a7, a8, a9, a10⟩ := hv.adv hN (fun z => h0 (k.symm.trans z)) ep gq
      rw [if_pos a1.1.2.1] at g
      cases e2
      cases g
      exact Or.inr ⟨rfl, k, a1, a2, a3, a4, a5, a6, a7, a8, a9, by rw [a10]; exact s19⟩
    · have c1 : ¬ S.i 34 < 20 := fun z => by
        have := lt_int z
        rw [ho.1] at this
        omega
      have c2 : ¬ s.i 19 + 1 ≤ 20 := fun z => by
        have := le_int z
        omega
      have e2 : (f_X1_fail N S 6 (S.i 44)).bind (fun p11 => some ((), p11.2)) = some R := (if_neg c1).symm.trans e
      obtain ⟨p, ep, e2⟩ := hf_bind e2
      cases e2
      rw [if_neg c2, e_fail, ob_some] at g
      have c3 : (RS.setI s 19 (s.i 19 + 1)).i 15 = 0 := h15
      rw [if_pos c3] at g
      have c4 : ¬ ((RS.setI (RS.setI s 19 (s.i 19 + 1)) 15 6).setI 16 (s.i 11)).i 15 = 0 := by
        show ¬ (6 : Int32) = 0
        decide
      rw [if_neg c4, ob_some, if_pos rfl, if_neg c4] at g
      cases g
      exact Or.inl ⟨rfl, y_fail (by decide) ep, c4⟩
  · have k' : ¬ s.i 10 = d := fun q => k (is.mpr q)
    rw [e_fnd0 k, ob_some, if_pos rfl] at e
    rw [if_neg k'] at g
    obtain ⟨p, ep, e⟩ := hf_bind e
    obtain ⟨q, gq, g⟩ := hf_bind g
    obtain ⟨q1, q2⟩ := y_can0 gq
    rw [if_pos q1, if_neg q2] at g
    cases e
    cases g
    exact Or.inl ⟨rfl, y_misp ep, q2⟩
/-- what comes of a sign that closes -/
theorem y_close {N : Nat} (hN : 1000 ≤ N) {dl : Int32} {S : CS} {s : RS} {R : Unit × CS} {V : Int32 × RS} {c d : Int32} (h : ENV dl S s) (h1 : SGS S (cnI S).toNat + 1 ≤ sgI S) (hc : tyR c) (hd : tm c = d) (h6 : ¬ d = 6) (h0 : ¬ c = 0) (e : f_X1_close N S c = some R) (g : f_X12_shut N s d = some V) : (V.1 = 0 ∧ ¬ R.2.i 32 = 0 ∧ ¬ V.2.i 15 = 0) ∨ (V.1 = 1 ∧ S.i 43 = c ∧ ENV dl R.2 V.2 ∧ qj V.2 = qj s ∧ pj R.2 = pj S ∧ V.2.i 17 = s.i 17 + 1 ∧ (s.i 11).toInt + 1 ≤ (V.2.i 11).toInt ∧ V.2.i 20 = s.i 20 ∧ V.2.a 22 = s.a 22 ∧ R.2.i 22 = S.i 22 ∧ A18 S R.2 ∧ (V.2.i 19).toInt = (s.i 19).toInt - 1) := by
  have is := h.1.2.2.2.1.is hc hd
  have h15 := h.1.2.1
  have ho := h.2.2.1
  have e1 : (1 : Int32).toInt = 1 := by decide
  unfold f_X1_close f_X1_close_22 at e
  unfold f_X12_shut f_X12_shut_18 f_X12_need f_X12_need_27 f_X12_need_31 at g
  rw [if_pos h15] at g
  by_cases k : S.i 43 = c
  · have k' := is.mp k
    rw [e_fnd1 k, ob_some, if_neg n10] at e
    rw [if_pos k', y_can1 h15 (by rw [k']; exact h6), ob_some, if_neg n10] at g
    obtain ⟨p, ep, e⟩ := hf_bind e
    obtain ⟨w, gw, g⟩ := hf_bind g
    obtain ⟨q, gq, gw⟩ := hf_bind gw
    obtain ⟨a1, a2, a3, a4, a5, a6, a7, a8, a9, a10⟩ := h.adv hN (fun z => h0 (k.symm.trans z)) ep gq
    rw [if_pos a1.1.2.1] at gw
    cases gw
    have g2 : (if (RS.setI q 19 (q.i 19 - 1)).i 15 = 0 then some ((1 : Int32), RS.setI q 19 (q.i 19 - 1)) else some (0, RS.setI q 19 (q.i 19 - 1))) = some V := (if_neg n10).symm.trans g
    rw [if_pos (show (RS.setI q 19 (q.i 19 - 1)).i 15 = 0 from a1.1.2.1)] at g2
    cases e
    cases g2
    have sg0 : 1 ≤ (s.i 19).toInt := by
      have := (BAS (s := S) (cnI S).toNat).2.2.2.1
      unfold sgI at h1
      rw [ho.1] at h1
      omega
    have s19 : (q.i 19 - 1).toInt = (s.i 19).toInt - 1 := by
      rw [a10, toInt_sub] <;> rw [e1] <;> omega
    have o2 := a1.2.2.1
    exact Or.inr ⟨rfl, k, a1.sg (by rw [o2.1]) (by omega) (by omega) (by
      rw [((CKX.of a3 a8 a9).sum h.ri).1, o2.1, s19]
      unfold sgI at h1
      rw [ho.1] at h1
      omega), a2, a3, a4, a5, a6, a7, a8, a9, s19⟩
  · have k' : ¬ s.i 10 = d := fun q => k (is.mpr q)
    rw [e_fnd0 k, ob_some, if_pos rfl] at e
    rw [if_neg k'] at g
    obtain ⟨p, ep, e⟩ := hf_bind e
    obtain ⟨w, gw, g⟩ := hf_bind g
    obtain ⟨q, gq, gw⟩ := hf_bind gw
    obtain ⟨q1, q2⟩ := y_can0 gq
    rw [if_pos q1, if_neg q2] at gw
    cases gw
    have g2 : (if q.2.i 15 = 0 then some ((1 : Int32), q.2) else some (0, q.2)) = some V := (if_pos rfl).symm.trans g
    rw [if_neg q2] at g2
    cases e
    cases g2
    exact Or.inl ⟨rfl, (show ¬ p.2.i 32 = 0 from y_misp ep), q2⟩
/-- a token on, by any method that lays nothing -/
theorem tok_cd {d : Int32} {S R : CS} {s u : RS} {d' : Int32} (h : ENV d S s) (v : ENV d' R u) (kp : pj R = pj S) (ke : pe R = pe S) (ke' : qe u = qe s) (q11 : (s.i 11).toInt + 1 ≤ (u.i 11).toInt) : CD1 (-1) (-1) S R ∧ (∀ a b : Int, CT7 a b S R) ∧ (∀ c : Int, CD2 c s u) ∧ R.i 20 = S.i 20 ∧ R.i 21 = S.i 21 ∧ u.i 20 = s.i 20 := by
  obtain ⟨-, -, -, -, -, -, -, -, -, -, -, -, -, i50, -, -, -, -, -, -, a48, a49, -, -, -, -, -, i21, -⟩ := pj_eq kp
  have e1 := h.p44.1
  have e2 := v.p44.1
  have l : (S.i 44).toInt + 1 ≤ (R.i 44).toInt := by rw [e1, e2]; exact q11
  exact ⟨CD1.pe (b := 1) ke i21 i50 a48 a49 l, fun a b => CT7.eq (pe_eq ke).2.2.2.1, fun c => CD2.qe ke', (pe_eq ke).1, i21, (qe_eq ke').1.1⟩
/-- one instruction in both, then a token on -/
theorem cde_one {N : Nat} (hN : 1000 ≤ N) {d : Int32} {S : CS} {s U v9 : RS} {o x op v k : Int32} {g : Nat} {p2 p6 : Unit × CS} {w : Int32 × RS} (hv : ENV d S s) (h3 : 1 ≤ phI s) (ha : f_X0_add N S o x = some p2) (hw : f_X12_emit N s op v = some w) (hv1 : ENV d p2.2 w.2) (nz : ¬ p2.2.i 43 = 0) (e2 : f_X9_advance N p2.2 = some p6) (hw2 : f_X12_next N w.2 = some v9) (step : ∀ (FC : Nat → Prop) (SF : CS) (nm : Nat → Nat → Prop) (X : Als) (c : List Ent) (h w1 g0 : Nat), PQX SF U (pcC S) (pcR s) → HC0 nm h c → h < 600 → NMG nm c S s → SF.a 15 (pcC S) = o → SF.a 16 (pcC S) = x → U.a 21 (pcR s) = op → U.a 22 (pcR s) = v → GU FC SF U nm X (pcC S + 1) (pcR s + 1) (h + 1) w1 g c → GU FC SF U nm X (pcC S) (pcR s) h (w1 + 1) g0 c) : CDE g U S s p6.2 (RS.setI v9 63 k) := by
  intro cr
  have q44 := hv.p44
  have q44' : (S.i 44).toInt = (s.i 11).toInt := by rw [q44.1]
  have p20 := hv.p20
  obtain ⟨d1, d2, ⟨d3, d3'⟩, d4, d5, d6⟩ := cd_add ha cr.1.1 (by have := cr.1.2; omega)
  obtain ⟨m1, m2, m3, m4, m5, m6⟩ := cd_emit hw p20.1 (by omega)
  obtain ⟨a1, a2, a3, a4, a5, a6, a7⟩ := adv_cd hN hv1 nz e2 hw2
  have pS : ((pcC S : Nat) : Int) = (S.i 20).toInt := Int.toNat_of_nonneg cr.1.1
  have ps : ((pcR s : Nat) : Int) = (s.i 20).toInt := Int.toNat_of_nonneg p20.1
  have pR : pcC p6.2 = pcC S + 1 := by
    unfold pcC
    rw [a4, d2]
    have := cr.1.1
    omega
  have pu : pcR (RS.setI v9 63 k) = pcR s + 1 := by
    unfold pcR
    rw [show (RS.setI v9 63 k).i 20 = v9.i 20 from rfl, a6, m3]
    have := p20.1
    omega
  refine ⟨(d1.tr a1).wk (by omega) (by omega), (CT7.eq d4).tr (a2 _ _), (m1.tr (a3 _)).tr (CD2.qe rfl), ?_⟩
  refine ⟨GPS.tt, SAT.tt _ _ _ _ ((m1.tr (a3 _)).tr (CD2.qe rfl)).1.2.2.2.2.1, ?_⟩
  intro FC SF nm X c h w1 W g0 ps fc fr ng hc hh ty hW hg z
  have f15 := fc.2.1 (pcC S) (by omega) (by rw [a4]; omega)
  have k15 := a1.2.1 (pcC S) (by omega)
  have u21 := fr.2.1 (pcR s) (by omega) (by show _ < (v9.i 20).toInt; rw [a6]; omega)
  have x21 := (a3 (w.2.i 20).toInt).2.1 (pcR s) (by omega)
  have fr1 : (v9.i 20).toInt ≤ (U.i 20).toInt := fr.1.2.1
  rw [a6] at fr1
  rw [pR, pu] at z
  rw [pR, show w1 + (pcC S + 1 - pcC S) = w1 + 1 by omega]
  exact step FC SF nm X c h w1 g0 ⟨by have := cr.1.2; omega, by omega, fr.1.2.2⟩ hc (by omega) ng (by rw [f15.1, k15.1]; exact d3) (by rw [f15.2, k15.2]; exact d3') (by rw [u21.1]; show v9.a 21 (pcR s) = op; rw [x21.1]; exact m4) (by rw [u21.2.1]; show v9.a 22 (pcR s) = v; rw [x21.2.1]; exact m5) z
