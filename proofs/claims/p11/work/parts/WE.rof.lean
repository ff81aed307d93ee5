/-! both readers: a row of letters and digits, its end -/
def RNE (N : Nat) (s : RS) : Option RS := (if ((s.i 12) - (s.i 11)) ≤ 8 then (f_X12_at N s (s.i 11)).bind fun p14 => (f_X12_at N p14.2 ((p14.2.i 11) + 1)).bind fun p16 => (if ((s.i 12) - (s.i 11)) = 2 then (if p14.1 = 109 then f_X12_readName_135 N (RS.setI p16.2 10 2) ((s.i 12) - (s.i 11)) p14.1 (p16.1 - 48) else (if p14.1 = 114 then f_X12_readName_135 N (RS.setI p16.2 10 2) ((s.i 12) - (s.i 11)) p14.1 (p16.1 - 48) else f_X12_readName_168 N (RS.setI p16.2 10 2) ((s.i 12) - (s.i 11)) p14.1 (p16.1 - 48))) else f_X12_readName_168 N (RS.setI p16.2 10 2) ((s.i 12) - (s.i 11)) p14.1 (p16.1 - 48)) else some (RS.setI s 10 6))
/-- the same, its bytes read -/
def RNB (N : Nat) (s : RS) (z c d : Int32) : Option RS := (if z = 2 then (if c = 109 then f_X12_readName_135 N (RS.setI s 10 2) z c d else (if c = 114 then f_X12_readName_135 N (RS.setI s 10 2) z c d else f_X12_readName_168 N (RS.setI s 10 2) z c d)) else f_X12_readName_168 N (RS.setI s 10 2) z c d)
theorem rne_b {N : Nat} {s : RS} (h0 : 0 ≤ s.i 11) (h1 : 0 ≤ s.i 11 + 1) (h9 : s.i 2 ≤ 900) (h8 : s.i 12 - s.i 11 ≤ 8) : RNE N s = RNB N s (s.i 12 - s.i 11) (bt s (s.i 11)) (bt s (s.i 11 + 1) - 48) := by
  unfold RNE RNB
  rw [if_pos h8, e_at h0 h9, ob_some]
  show Option.bind (f_X12_at N s (s.i 11 + 1)) _ = _
  rw [e_at h1 h9, ob_some]
theorem rnb_m {N : Nat} {s : RS} {d : Int32} (h : 0 ≤ d ∧ d ≤ 7) : RNB N s 2 109 d = some (RS.setI (RS.setI (RS.setI s 10 2) 10 3) 14 d) := by
  unfold RNB f_X12_readName_135 f_X12_readName_160
  refine (if_pos rfl).trans ((if_pos rfl).trans ?_)
  rw [e_in1 h, ob_some]
  exact (if_neg n10).trans (if_pos rfl)
theorem rnb_r {N : Nat} {s : RS} {d : Int32} (h : 0 ≤ d ∧ d ≤ 7) : RNB N s 2 114 d = some (RS.setI (RS.setI (RS.setI s 10 2) 10 4) 14 d) := by
  unfold RNB f_X12_readName_135 f_X12_readName_160
  refine (if_pos rfl).trans ((if_neg (by decide)).trans ((if_pos rfl).trans ?_))
  rw [e_in1 h, ob_some]
  exact (if_neg n10).trans (if_neg (by decide))
theorem rnb_e2 {N : Nat} {s : RS} {d : Int32} (h : 0 ≤ d ∧ d ≤ 9) : RNB N s 2 101 d = some (RS.setI (RS.setI (RS.setI s 10 2) 10 5) 14 d) := by
  unfold RNB f_X12_readName_168 f_X12_readName_220 f_X12_readName_254
  refine (if_pos rfl).trans ((if_neg (by decide)).trans ((if_neg (by decide)).trans ((if_pos rfl).trans ((if_pos rfl).trans ?_))))
  rw [e_in1 h, ob_some]
  exact (if_neg n10).trans (if_pos rfl)
theorem rnb_e3 {N : Nat} {s : RS} (h0 : 0 ≤ s.i 11 + 2) (h9 : s.i 2 ≤ 900) (h : 0 ≤ bt s (s.i 11 + 2) - 48 ∧ bt s (s.i 11 + 2) - 48 ≤ 1) : RNB N s 3 101 1 = some (RS.setI (RS.setI (RS.setI s 10 2) 10 5) 14 (10 + bt s (s.i 11 + 2) - 48)) := by
  unfold RNB f_X12_readName_168 f_X12_readName_189 f_X12_readName_220 f_X12_readName_254
  refine (if_neg (by decide)).trans ((if_pos rfl).trans ((if_neg (by decide)).trans ((if_pos rfl).trans ((if_pos rfl).trans ?_))))
  show Option.bind (f_X12_at N (RS.setI s 10 2) ((RS.setI s 10 2).i 11 + 2)) _ = _
  rw [e_at (σ := RS.setI s 10 2) (x := (RS.setI s 10 2).i 11 + 2) h0 h9, ob_some]
  show Option.bind (f_X12_in N (RS.setI s 10 2) (bt s (s.i 11 + 2) - 48) 0 1) _ = _
  rw [e_in1 h, ob_some]
  refine (if_neg n10).trans ((if_neg (by decide)).trans ?_)
  show Option.bind (f_X12_at N (RS.setI (RS.setI s 10 2) 10 5) (s.i 11 + 2)) _ = _
  rw [e_at (σ := RS.setI (RS.setI s 10 2) 10 5) h0 h9, ob_some]
  rfl
/-- none of these: a word, or a name -/
theorem rnb_o {N : Nat} {s : RS} {z c d : Int32} (h0 : 0 ≤ s.i 11 + 2) (h9 : s.i 2 ≤ 900) (hm : z = 2 → c = 109 ∨ c = 114 → ¬ (0 ≤ d ∧ d ≤ 7)) (he : c = 101 → z = 2 → ¬ (0 ≤ d ∧ d ≤ 9)) (h3 : c = 101 → z = 3 → d = 1 → ¬ (0 ≤ bt s (s.i 11 + 2) - 48 ∧ bt s (s.i 11 + 2) - 48 ≤ 1)) : RNB N s z c d = f_X12_readName_257 N (RS.setI s 10 2) := by
  have w168 : f_X12_readName_168 N (RS.setI s 10 2) z c d = f_X12_readName_257 N (RS.setI s 10 2) := by
    have w189 : c = 101 → f_X12_readName_189 N (RS.setI s 10 2) z d = f_X12_readName_257 N (RS.setI s 10 2) := fun hc => by
      unfold f_X12_readName_189
      refine ite_so (fun k3 => ?_) (fun _ => rfl)
      refine ite_so (fun k1 => ?_) (fun _ => rfl)
      show Option.bind (f_X12_at N (RS.setI s 10 2) ((RS.setI s 10 2).i 11 + 2)) _ = _
      rw [e_at (σ := RS.setI s 10 2) (x := (RS.setI s 10 2).i 11 + 2) h0 h9, ob_some]
      show Option.bind (f_X12_in N (RS.setI s 10 2) (bt s (s.i 11 + 2) - 48) 0 1) _ = _
      rw [e_in0 (h3 hc k3 k1), ob_some]
      exact if_pos rfl
    unfold f_X12_readName_168
    refine ite_so (fun hc => ?_) (fun _ => rfl)
    refine ite_so (fun k => ?_) (fun _ => w189 hc)
    rw [e_in0 (he hc k), ob_some]
    exact (if_pos rfl).trans (w189 hc)
  have w135 : z = 2 → c = 109 ∨ c = 114 → f_X12_readName_135 N (RS.setI s 10 2) z c d = f_X12_readName_257 N (RS.setI s 10 2) := fun k hc => by
    unfold f_X12_readName_135
    rw [e_in0 (hm k hc), ob_some]
    exact (if_pos rfl).trans w168
  unfold RNB
  exact ite_so (fun k => ite_so (fun hc => w135 k (Or.inl hc)) (fun _ => ite_so (fun hc => w135 k (Or.inr hc)) (fun _ => w168))) (fun _ => w168)
theorem z_of {z : Int32} {m : Nat} (h : z.toInt = (m : Int)) (v : Int32) (k : Nat) (hv : v.toInt = (k : Int)) : z = v ↔ m = k := ⟨fun q => by rw [q, hv] at h; omega, fun q => Int32.toInt_inj.mp (by rw [h, hv, q])⟩
/-- the end of a row: the same token in both -/
theorem y_end {N : Nat} {S : CS} {s : RS} {m : Nat} {R : Unit × CS} {u : RS} (hT : TPR S s) (hP : POS S s) (h44 : S.i 44 = s.i 11) (h0 : 0 ≤ (s.i 11).toInt) (hm : (s.i 12).toInt = (s.i 11).toInt + m) (m1 : 1 ≤ m) (hl : S.l = s.l) (hk : s.l = pk (s.a 1) (s.i 11).toNatClampNeg m) (hb : ∀ j : Nat, j < m → 48 ≤ (s.a 1 ((s.i 11).toNatClampNeg + j)).toInt ∧ (s.a 1 ((s.i 11).toNatClampNeg + j)).toInt ≤ 122) (hw : WDS s) (e : f_X9_takeRow_79 N S = some R) (g : RNE N s = some u) : TKR R.2 u := by
  obtain ⟨p1, p2, p3⟩ := hP
  obtain ⟨t1, t2, t3, t4⟩ := id hT
  have e900 : (900 : Int32).toInt = 900 := by decide
  have e1' : (1 : Int32).toInt = 1 := by decide
  have e2' : (2 : Int32).toInt = 2 := by decide
  have e3' : (3 : Int32).toInt = 3 := by decide
  have e8' : (8 : Int32).toInt = 8 := by decide
  have e48 : (48 : Int32).toInt = 48 := by decide
  have i2 : s.i 2 ≤ 900 := by rw [Int32.le_iff_toInt_le, e900]; exact t2.2
  have i11 : 0 ≤ s.i 11 := by rw [Int32.le_iff_toInt_le, z_t0]; exact h0
  have a1 : (s.i 11 + 1).toInt = (s.i 11).toInt + 1 := ad1 h0 (by omega)
  have a2 : (s.i 11 + 2).toInt = (s.i 11).toInt + 2 := by rw [toInt_add] <;> rw [e2'] <;> omega
  have j1 : 0 ≤ s.i 11 + 1 := by rw [Int32.le_iff_toInt_le, z_t0]; omega
  have j2 : 0 ≤ s.i 11 + 2 := by rw [Int32.le_iff_toInt_le, z_t0]; omega
  have ck := clampI h0
  have es : (s.i 12 - s.i 11).toInt = (m : Int) := by rw [toInt_sub] <;> omega
  have eS : S.i 42 - S.i 44 = s.i 12 - s.i 11 := by rw [p1, h44]
  have bj : ∀ (j : Nat) (x : Int32), x.toInt = (s.i 11).toInt + j → j < m → bt s x = s.a 1 ((s.i 11).toNatClampNeg + j) := fun j x hx hj => by
    unfold bt
    rw [if_neg (fun q => by have := le_int q; omega)]
    have := clampI (k := x) (by omega)
    rw [show x.toNatClampNeg = (s.i 11).toNatClampNeg + j by omega]
  unfold f_X9_takeRow_79 at e
  rw [eS] at e
  by_cases c : s.i 12 - s.i 11 ≤ 8
  · rw [if_pos c] at e
    rw [rne_b i11 j1 i2 c] at g
    generalize s.i 12 - s.i 11 = z at e g es
    obtain ⟨p, ep, e⟩ := hf_bind e
    cases e
    have z2 := z_of es 2 2 e2'
    have z3 := z_of es 3 3 e3'
    have c0 := bj 0 (s.i 11) (by omega) (by omega)
    have r0 := hb 0 (by omega)
    rw [Nat.add_zero] at c0 r0
    have ix : ∀ v : Int32, bt s (s.i 11) = v ↔ (s.a 1 (s.i 11).toNatClampNeg).toInt = v.toInt := fun v => by rw [c0]; exact ⟨fun q => by rw [q], fun q => Int32.toInt_inj.mp q⟩
    have x9 := ix 109
    have x4 := ix 114
    have x1 := ix 101
    have k9 : (109 : Int32).toInt = 109 := by decide
    have k4 : (114 : Int32).toInt = 114 := by decide
    have k1 : (101 : Int32).toInt = 101 := by decide
    rw [k9] at x9
    rw [k4] at x4
    rw [k1] at x1
    have dd : ∀ (x : Int32) (j : Nat), x.toInt = (s.i 11).toInt + j → j < m → (bt s x - 48).toInt = (s.a 1 ((s.i 11).toNatClampNeg + j)).toInt - 48 := fun x j hx hj => by
      have r := hb j hj
      rw [bj j x hx hj, toInt_sub] <;> rw [e48] <;> omega
    have d1 : 2 ≤ m → (bt s (s.i 11 + 1) - 48).toInt = (s.a 1 ((s.i 11).toNatClampNeg + 1)).toInt - 48 := fun q => dd _ 1 (by omega) (by omega)
    have d2 : 3 ≤ m → (bt s (s.i 11 + 2) - 48).toInt = (s.a 1 ((s.i 11).toNatClampNeg + 2)).toInt - 48 := fun q => dd _ 2 (by omega) (by omega)
    have l2 : m = 2 → s.l.toInt = (s.a 1 (s.i 11).toNatClampNeg).toInt * 256 + (s.a 1 ((s.i 11).toNatClampNeg + 1)).toInt := fun q => by
      rw [hk, q]
      exact pk_2 r0 (hb 1 (by omega))
    have l3 : m = 3 → s.l.toInt = (s.a 1 (s.i 11).toNatClampNeg).toInt * 65536 + (s.a 1 ((s.i 11).toNatClampNeg + 1)).toInt * 256 + (s.a 1 ((s.i 11).toNatClampNeg + 2)).toInt := fun q => by
      rw [hk, q]
      exact pk_3 r0 (hb 1 (by omega)) (hb 2 (by omega))
    have le_i : ∀ (a b : Int32), a ≤ b ↔ a.toInt ≤ b.toInt := fun a b => Int32.le_iff_toInt_le
    have e7' : (7 : Int32).toInt = 7 := by decide
    have e9' : (9 : Int32).toInt = 9 := by decide
    rcases y_rt N 0 p (by decide) (by decide) ep with ⟨k, -, k2, k3, k4', k5⟩ | ⟨nw, tl⟩
    · -- a word
      have lw : s.l = zRW k := by rw [← hl, ← k3, t4 k k2, hw k k2]
      obtain ⟨w1, w2, w3, w4⟩ := zRW_2 k k2
      rw [← lw] at w1 w2 w3 w4
      rw [rnb_o j2 i2 ?_ ?_ ?_] at g
      · unfold f_X12_readName_257 at g
        obtain ⟨⟨b1, b2, b3, b4⟩, b⟩ := y_rw N (RS.setI s 10 2) 0 u (by decide) (by decide) g
        rcases b with ⟨k', -, q2, q3, q4⟩ | ⟨q1, -⟩
        · have kk : k' = k := zRW_inj k' q2 k k2 (by rw [← hw k' q2, ← lw]; exact q3)
          rw [kk] at q4
          have tr : tyR p.1 := Or.inr (by omega)
          have nn : ∀ v : Int32, v.toInt < 200 → ¬ p.1 = v := fun v hv q => by rw [q] at k5; omega
          rw [k4']
          refine ⟨h44.trans b1.symm, p1.trans b2.symm, ?_, tr, fun q => absurd q (nn 2 (by decide)), fun q => ?_⟩
          · refine Int32.toInt_inj.mp ?_
            have := tm_int tr
            show (u.i 10).toInt = (tm p.1).toInt
            omega
          · rcases q with q | q | q | q
            · exact absurd q (nn 1 (by decide))
            · exact absurd q (nn 3 (by decide))
            · exact absurd q (nn 4 (by decide))
            · exact absurd q (nn 5 (by decide))
        · exfalso
          refine q1 k (by rw [z_t0]; omega) k2 ?_
          show s.b 9 k = s.l
          rw [hw k k2, lw]
      · intro q1 q2 q3
        have m2 := z2.mp q1
        have L := l2 m2
        have D := d1 (by omega)
        have u1 := (le_i _ _).mp q3.1
        have u2 := (le_i _ _).mp q3.2
        rw [z_t0] at u1
        rw [e7'] at u2
        rw [x9, x4] at q2
        omega
      · intro q1 q2 q3
        have m2 := z2.mp q2
        have L := l2 m2
        have D := d1 (by omega)
        have u1 := (le_i _ _).mp q3.1
        have u2 := (le_i _ _).mp q3.2
        rw [z_t0] at u1
        rw [e9'] at u2
        rw [x1] at q1
        omega
      · intro q1 q2 q3 q4
        have m3 := z3.mp q2
        have L := l3 m3
        have r1 := hb 1 (by omega)
        have r2 := hb 2 (by omega)
        rw [x1] at q1
        omega
    · -- no word
      have nw' : ∀ k : Nat, k < 25 → ¬ s.b 9 k = s.l := fun k hk2 q => nw k (by rw [z_t0]; omega) hk2 (by rw [hl, t4 k hk2]; exact q)
      have nam : ∀ (T : CS), p = (2, T) → T.i 42 = S.i 42 → T.i 44 = S.i 44 → T.l = S.l → RNB N s z (bt s (s.i 11)) (bt s (s.i 11 + 1) - 48) = f_X12_readName_257 N (RS.setI s 10 2) → TKR (CS.setI p.2 43 p.1) u := fun T hp h2 h4 h5 hg => by
        rw [hg] at g
        unfold f_X12_readName_257 at g
        obtain ⟨⟨b1, b2, b3, b4⟩, b⟩ := y_rw N (RS.setI s 10 2) 0 u (by decide) (by decide) g
        rw [hp]
        rcases b with ⟨k', -, q2, q3, q4⟩ | ⟨-, q2⟩
        · exact absurd q3 (nw' k' q2)
        · refine ⟨(h4.trans h44).trans b1.symm, (h2.trans p1).trans b2.symm, ?_, ty_2, fun _ => (h5.trans hl).trans b4.symm, fun q => absurd (show (2 : Int32) = 1 ∨ (2 : Int32) = 3 ∨ (2 : Int32) = 4 ∨ (2 : Int32) = 5 from q) (by decide)⟩
          rw [q2]
          exact tm_2.symm
      have spc : ∀ (t v w : Int32) (T : CS), p = (t, T) → T.i 42 = S.i 42 → T.i 44 = S.i 44 → T.i 45 = v → (t = 3 ∨ t = 4 ∨ t = 5) → v = w → RNB N s z (bt s (s.i 11)) (bt s (s.i 11 + 1) - 48) = some (RS.setI (RS.setI (RS.setI s 10 2) 10 t) 14 w) → TKR (CS.setI p.2 43 p.1) u := fun t v w T hp h2 h4 h5 ht hv hg => by
        rw [hg] at g
        cases g
        rw [hp]
        refine ⟨h4.trans h44, h2.trans p1, ?_, ?_, fun q => ?_, fun _ => h5.trans hv⟩
        · show t = tm t
          rcases ht with rfl | rfl | rfl <;> decide
        · show tyR t
          rcases ht with rfl | rfl | rfl <;> exact Or.inl ⟨by decide, by decide⟩
        · have q' : t = 2 := q
          rcases ht with rfl | rfl | rfl <;> exact absurd q' (by decide)
      by_cases m2 : m = 2
      · have zz : z = 2 := z2.mpr m2
        have r1 := hb 1 (by omega)
        have L : S.l.toInt = (s.a 1 (s.i 11).toNatClampNeg).toInt * 256 + (s.a 1 ((s.i 11).toNatClampNeg + 1)).toInt := by rw [hl]; exact l2 m2
        have D := d1 (by omega)
        rw [zz] at tl g nam spc
        by_cases dg : (s.a 1 ((s.i 11).toNatClampNeg + 1)).toInt ≤ 57
        · obtain ⟨v, x6, v1, v2, v3⟩ := rtl_2y (N := N) L r0 ⟨r1.1, dg⟩
          rw [v3] at tl
          obtain ⟨w1, w2, w3, w4, w5, w6⟩ := rt_171 (N := N) (S := CS.setI S 45 v) (x6 := x6) (v := v) (by omega) (ci_at _ _ _)
          have vv : v = bt s (s.i 11 + 1) - 48 := Int32.toInt_inj.mp (by rw [v1, D])
          have n42 : (CS.setI S 45 v).i 42 = S.i 42 := ci_ne _ _ _ (by decide)
          have n44 : (CS.setI S 45 v).i 44 = S.i 44 := ci_ne _ _ _ (by decide)
          have n45 : (CS.setI S 45 v).i 45 = v := ci_at _ _ _
          by_cases c1 : (s.a 1 (s.i 11).toNatClampNeg).toInt = 101
          · rw [w1 (by omega) (by omega)] at tl
            cases tl
            refine spc 5 v _ _ rfl n42 n44 n45 (by decide) vv ?_
            rw [x1.mpr c1]
            exact rnb_e2 ⟨by rw [le_i, z_t0]; omega, by rw [le_i, e9']; omega⟩
          · by_cases c8 : v.toInt < 8
            · by_cases cm : (s.a 1 (s.i 11).toNatClampNeg).toInt = 109
              · rw [w3 (by omega) c8] at tl
                cases tl
                refine spc 3 v _ _ rfl n42 n44 n45 (by decide) vv ?_
                rw [x9.mpr cm]
                exact rnb_m ⟨by rw [le_i, z_t0]; omega, by rw [le_i, e7']; omega⟩
              · by_cases cr : (s.a 1 (s.i 11).toNatClampNeg).toInt = 114
                · rw [w4 (by omega) c8] at tl
                  cases tl
                  refine spc 4 v _ _ rfl n42 n44 n45 (by decide) vv ?_
                  rw [x4.mpr cr]
                  exact rnb_r ⟨by rw [le_i, z_t0]; omega, by rw [le_i, e7']; omega⟩
                · rw [w6 (by omega) (by omega) (by omega)] at tl
                  cases tl
                  refine nam _ rfl n42 n44 rfl (rnb_o j2 i2 (fun _ q _ => ?_) (fun q _ _ => c1 (x1.mp q)) (fun q _ _ _ => c1 (x1.mp q)))
                  rw [x9, x4] at q
                  omega
            · rw [w5 (by omega) c8] at tl
              cases tl
              refine nam _ rfl n42 n44 rfl (rnb_o j2 i2 (fun _ _ q => ?_) (fun q _ _ => c1 (x1.mp q)) (fun q _ _ _ => c1 (x1.mp q)))
              have := (le_i _ _).mp q.2
              rw [e7'] at this
              omega
        · rw [rtl_2n L r0 r1 dg] at tl
          cases tl
          refine nam S rfl rfl rfl rfl (rnb_o j2 i2 (fun _ _ q => ?_) (fun _ _ q => ?_) (fun _ q => absurd q (by decide)))
          · have := (le_i _ _).mp q.2
            rw [e7'] at this
            omega
          · have := (le_i _ _).mp q.2
            rw [e9'] at this
            omega
      · by_cases m3 : m = 3
        · have zz : z = 3 := z3.mpr m3
          have r1 := hb 1 (by omega)
          have r2 := hb 2 (by omega)
          have L : S.l.toInt = (s.a 1 (s.i 11).toNatClampNeg).toInt * 65536 + (s.a 1 ((s.i 11).toNatClampNeg + 1)).toInt * 256 + (s.a 1 ((s.i 11).toNatClampNeg + 2)).toInt := by rw [hl]; exact l3 m3
          have D := d1 (by omega)
          have D2 := d2 (by omega)
          rw [zz] at tl g nam spc
          by_cases dg : (s.a 1 ((s.i 11).toNatClampNeg + 2)).toInt ≤ 57 ∧ (s.a 1 ((s.i 11).toNatClampNeg + 1)).toInt = 49
          · obtain ⟨v, x6, v1, v2, v3⟩ := rtl_3y (N := N) L r0 dg.2 ⟨r2.1, dg.1⟩
            rw [v3] at tl
            obtain ⟨w1, w2, w3, w4, w5, w6⟩ := rt_171 (N := N) (S := CS.setI S 45 v) (x6 := x6) (v := v) (by omega) (ci_at _ _ _)
            have n42 : (CS.setI S 45 v).i 42 = S.i 42 := ci_ne _ _ _ (by decide)
            have n44 : (CS.setI S 45 v).i 44 = S.i 44 := ci_ne _ _ _ (by decide)
            have n45 : (CS.setI S 45 v).i 45 = v := ci_at _ _ _
            by_cases c1 : (s.a 1 (s.i 11).toNatClampNeg).toInt = 101
            · by_cases c12 : v.toInt < 12
              · rw [w1 (by omega) c12] at tl
                cases tl
                have db : bt s (s.i 11 + 1) - 48 = 1 := Int32.toInt_inj.mp (by rw [D, e1']; omega)
                have e10 : (10 : Int32).toInt = 10 := by decide
                have b2' := bj 2 (s.i 11 + 2) (by omega) (by omega)
                have tb : (bt s (s.i 11 + 2)).toInt = (s.a 1 ((s.i 11).toNatClampNeg + 2)).toInt := by rw [b2']
                have s1 : (10 + bt s (s.i 11 + 2)).toInt = 10 + (bt s (s.i 11 + 2)).toInt := by rw [toInt_add] <;> rw [e10] <;> omega
                have s2 : (10 + bt s (s.i 11 + 2) - 48).toInt = 10 + (bt s (s.i 11 + 2)).toInt - 48 := by rw [toInt_sub] <;> rw [e48, s1] <;> omega
                refine spc 5 v (10 + bt s (s.i 11 + 2) - 48) _ rfl n42 n44 n45 (by decide) (Int32.toInt_inj.mp (by rw [v1, s2]; omega)) ?_
                rw [x1.mpr c1, db]
                exact rnb_e3 j2 i2 ⟨by rw [le_i, z_t0]; omega, by rw [le_i, e1']; omega⟩
              · rw [w2 (by omega) c12] at tl
                cases tl
                refine nam _ rfl n42 n44 rfl (rnb_o j2 i2 (fun q => absurd q (by decide)) (fun _ q => absurd q (by decide)) (fun _ _ _ q => ?_))
                have := (le_i _ _).mp q.2
                rw [e1'] at this
                omega
            · rw [w5 (by omega) (by omega)] at tl
              cases tl
              exact nam _ rfl n42 n44 rfl (rnb_o j2 i2 (fun q => absurd q (by decide)) (fun _ q => absurd q (by decide)) (fun q _ _ _ => c1 (x1.mp q)))
          · rw [rtl_3n L r0 r1 r2 dg] at tl
            cases tl
            refine nam S rfl rfl rfl rfl (rnb_o j2 i2 (fun q => absurd q (by decide)) (fun _ q => absurd q (by decide)) (fun _ _ q1 q2 => dg ⟨?_, ?_⟩))
            · have := (le_i _ _).mp q2.2
              rw [e1'] at this
              omega
            · rw [q1, e1'] at D
              omega
        · rw [rtl_o (fun q => m2 (z2.mp q)) (fun q => m3 (z3.mp q))] at tl
          cases tl
          exact nam S rfl rfl rfl rfl (rnb_o j2 i2 (fun q => absurd (z2.mp q) m2) (fun _ q => absurd (z2.mp q) m2) (fun _ q => absurd (z3.mp q) m3))
  · rw [if_neg c] at e
    unfold RNE at g
    rw [if_neg c] at g
    cases e
    cases g
    exact ⟨h44, p1, tm_6.symm, ty_6, fun q => absurd (show (6 : Int32) = 2 from q) (by decide), fun q => absurd (show (6 : Int32) = 1 ∨ (6 : Int32) = 3 ∨ (6 : Int32) = 4 ∨ (6 : Int32) = 5 from q) (by decide)⟩
