/-! the class's reading: numbers of cases -/
theorem q_has2 {N : Nat} {s : CS} {v : Int32} : ∀ (n : Nat) (x3 : Int32), ccI s - x3.toInt < n → ok (f_X0_hasCase_2 N (n + 1) s v x3) (fun R => R.2 = s ∧ (R.1 = 0 → ∀ i : Nat, x3.toInt ≤ (i : Int) → (i : Int) < ccI s → i < 320 → ¬ s.a 18 i = v))
  | n, x3, hn => by
    show ok (b_X0_hasCase_2 N (f_X0_hasCase_2 N n) s v x3) _
    unfold b_X0_hasCase_2
    have e1 : (1 : Int32).toInt = 1 := by decide
    refine ok_ite (fun c => ok_some ⟨rfl, fun _ i q1 q2 => ?_⟩) (fun c => ok_ite (fun _ => ok_some ⟨rfl, fun q => absurd (show (1 : Int32) = 0 from q) (by decide)⟩) (fun cv => ?_))
    · have := le_int c
      have q2 : (i : Int) < (s.i 22).toInt := q2
      omega
    have l : x3.toInt < ccI s := lt_int (Int32.not_le.mp c)
    have l' : x3.toInt < (s.i 22).toInt := l
    have b1 := Int32.toInt_lt (s.i 22)
    have b2 := Int32.le_toInt x3
    have es : (x3 + 1).toInt = x3.toInt + 1 := by rw [toInt_add] <;> rw [e1] <;> omega
    obtain ⟨n', rfl⟩ : ∃ n', n = n' + 1 := ⟨n - 1, by omega⟩
    refine ok_imp (q_has2 n' (x3 + 1) (by omega)) (fun R hR => ⟨hR.1, fun q i q1 q2 q3 => ?_⟩)
    by_cases e : (i : Int) = x3.toInt
    · intro z
      refine cv ?_
      unfold gAt
      have ib' : ib x3 320 := ⟨by omega, by omega⟩
      rw [if_pos ib']
      have cl := clampI ib'.1
      have ei : x3.toNatClampNeg = i := by omega
      rw [ei]; exact z
    · exact hR.2 q i (by omega) q2 q3
  termination_by n => n
theorem q_has {N : Nat} (hN : 10000000000 ≤ N) {s : CS} (x v : Int32) : ok (f_X0_hasCase N s x v) (fun R => R.2 = s ∧ (R.1 = 0 → ∀ i : Nat, x.toInt ≤ (i : Int) → (i : Int) < ccI s → i < 320 → ¬ s.a 18 i = v)) := by
  unfold f_X0_hasCase
  obtain ⟨N', rfl⟩ : ∃ N', N = N' + 1 := ⟨N - 1, by omega⟩
  have b1 := Int32.toInt_lt (s.i 22)
  have b2 := Int32.le_toInt x
  exact q_has2 N' x (by show (s.i 22).toInt - x.toInt < N'; omega)
/-- a case more -/
def ACS (s R : CS) (v t : Int32) : Prop := (R.hs = s.hs ∧ R.L = s.L ∧ R.k = s.k ∧ R.o = s.o ∧ R.ol = s.ol ∧ R.ot = s.ot ∧ R.r = s.r ∧ R.w = s.w ∧ R.b = s.b ∧ R.l = s.l) ∧ (∀ j : Nat, j ≠ 22 → R.i j = s.i j) ∧ R.i 22 = s.i 22 + 1 ∧ (∀ k : Nat, k ≠ 18 → k ≠ 19 → R.a k = s.a k) ∧ R.a 18 = gPut (s.a 18) 320 (s.i 22) v ∧ R.a 19 = gPut (s.a 19) 320 (s.i 22) t
theorem q_addCase (N : Nat) (s : CS) (v t : Int32) : ok (f_X0_addCase N s v t) (fun R => ACS s R.2 v t) := by
  unfold f_X0_addCase
  have e19 : CS.a (CS.putA s 18 (gPut (s.a 18) 320 (s.i 22) v)) 19 = s.a 19 := ca_ne _ _ _ (by decide)
  rw [e19]
  refine ok_some ⟨⟨?_, ?_, ?_, ?_, ?_, ?_, ?_, ?_, ?_, ?_⟩, fun j hj => ?_, ?_, fun k q1 q2 => ?_, ?_, ?_⟩
  · rw [chs_setI, chs_putA, chs_putA]
  · rw [cL_setI, cL_putA, cL_putA]
  · rw [ck_setI, ck_putA, ck_putA]
  · rw [co_setI, co_putA, co_putA]
  · rw [col_setI, col_putA, col_putA]
  · rw [cot_setI, cot_putA, cot_putA]
  · rw [cr_setI, cr_putA, cr_putA]
  · rw [cw_setI, cw_putA, cw_putA]
  · rw [cb_setI, cb_putA, cb_putA]
  · rw [cl_setI, cl_putA, cl_putA]
  · rw [ci_ne _ _ _ hj, ci_putA, ci_putA]
  · rw [ci_at]
  · rw [ca_setI, ca_ne _ _ _ q2, ca_ne _ _ _ q1]
  · rw [ca_setI, ca_ne _ _ _ (by decide), ca_put]
  · rw [ca_setI, ca_put]
theorem GW.acs {cD c : List Nat} {X : List (Nat × List Nat)} {P : List Nat} {lim : List Int} {s R : CS} {v t : Int32} (h : GW cD c X P lim s) (ha : ACS s R v t) (hb : 0 ≤ ccI s ∧ ccI s ≤ 1000) : GW cD c X P lim R := by
  have hl := h.lim
  obtain ⟨D, DT, KT, h1, h2, h3, h4, h5, ⟨n, n1, n2, n3⟩, h7, h8⟩ := h
  obtain ⟨⟨b1, b2, b3, b4, b5, b6, b7, b8, b9, b10⟩, b11, b12, b13, b14, b15⟩ := ha
  have etc : tcI R = tcI s := by unfold tcI; rw [b11 21 (by decide)]
  have esz : szI R = szI s := by unfold szI; rw [b11 20 (by decide)]
  have ecn : cnI R = cnI s := by unfold cnI; rw [b11 53 (by decide)]
  have enm : nmI R = nmI s := by unfold nmI; rw [b11 50 (by decide)]
  refine ⟨D, DT, KT, ?_, ?_, fun k q1 q2 q3 => ?_, by rw [esz]; exact h4, by rw [etc]; exact h5, ⟨n, by rw [ecn]; exact n1, n2, ?_⟩, by rw [enm, b13 49 (by decide) (by decide)]; exact h7, by rw [etc]; exact h8.1, ?_, h8.2.2.of ecn enm (fun i a _ e => by rw [b7] at e; exact ⟨e, by rw [b4]⟩)⟩
  · unfold CDT at *; rw [b13 15 (by decide) (by decide), b13 16 (by decide) (by decide), etc, esz]; exact h1
  · unfold TGS at *; rw [b13 17 (by decide) (by decide), etc, esz]; exact h2
  · rw [etc] at q1
    rw [b13 17 (by decide) (by decide)] at q3
    rcases h3 k q1 q2 q3 with z | z
    · exact Or.inl z
    · exact Or.inr (z.of (by omega) (fun i a _ e => ⟨by rw [b7]; exact e, by rw [b4]⟩))
  · refine n3.mono (by omega) (fun _ _ => ⟨rfl, Iff.rfl⟩) (fun k _ q => by rw [b13 17 (by decide) (by decide)]; exact q) (fun i _ => ⟨by rw [b7], fun a _ => ⟨by rw [b4], by rw [b5]⟩⟩) (fun m hm => ?_) (fun _ _ _ _ m _ => by rw [b13 49 (by decide) (by decide)]) n3.nr
    rw [b15]
    exact gPut_ne (by have : ccI s = (s.i 22).toInt := rfl; omega)
  · have e1 : (1 : Int32).toInt = 1 := by decide
    have hb' : 0 ≤ (s.i 22).toInt ∧ (s.i 22).toInt ≤ 1000 := hb
    have hl' : lmh lim ≤ (s.i 22).toInt := hl
    show lmh lim ≤ (R.i 22).toInt
    rw [b12, toInt_add] <;> rw [e1] <;> omega
/-- a case's number was read -/
def CNR (first : Int) (s R : CS) (t : Int32) : Prop := s.i 32 = 0 ∧ (plI s + 1 ≤ plI R ∧ eI s ≤ eI R) ∧ ccI R = ccI s + 1 ∧ R.i 34 = s.i 34 ∧ (R.i 38 = s.i 38 ∧ R.i 50 = s.i 50 ∧ R.i 53 = s.i 53 ∧ R.i 56 = s.i 56 ∧ R.i 36 = s.i 36) ∧ RSQ s R (cnI s).toNat ∧ (∀ n : Nat, (n : Int) < nmI s → R.a 49 n = s.a 49 n) ∧ (∀ i : Nat, (i : Int) < ccI s → R.a 18 i = s.a 18 i ∧ R.a 19 i = s.a 19 i) ∧ R.a 19 (ccI s).toNat = t ∧ (plI s + 2 ≤ plI R ∨ 0 ≤ (R.a 18 (ccI s).toNat).toInt ∧ (R.a 18 (ccI s).toNat).toInt ≤ 9) ∧ (∀ i : Nat, first ≤ (i : Int) → (i : Int) < ccI s → ¬ s.a 18 i = R.a 18 (ccI s).toNat)
theorem q_caseNumber {N : Nat} {H : HB} (hN : 10000000000 ≤ N) {x y : Int} {c : List Nat} {X : List (Nat × List Nat)} {P : List Nat} {lim : List Int} {s : CS} (hx : x ≤ 5000) (hy : y ≤ 95) (h : JJ H x y c X P lim s) (x1 x2 : Int32) (hcc : ∀ R : CS, CNR x1.toInt s R x2 → 3 * (ccI s + 1) ≤ plI R) : ok (f_X1_caseNumber N s x1 x2) (fun R => JJ H (x - 50) y c X P lim R.2 ∧ (R.2.i 32 = 0 → CNR x1.toInt s R.2 x2)) := by
  have hN1 : 1000 ≤ N := by omega
  unfold f_X1_caseNumber
  refine ok_bind (q_skip hN1 h.1 45) (fun p hp => ?_)
  have hp' : JJ H x y c X P lim p.2 ∧ SMR s p.2 ∧ (p.2.i 32 = 0 → s.i 32 = 0 ∧ plI s ≤ plI p.2 ∧ eI s ≤ eI p.2) ∧ (p.1 = 0 ∧ p.2 = s ∨ p.1 = 1 ∧ (p.2.i 32 = 0 → plI s + 1 ≤ plI p.2)) := by
    rcases hp with ⟨p1, p2, p3⟩ | ⟨p1, p2, p3⟩
    · rw [p2]
      exact ⟨h, SMR.rf s, fun q => ⟨q, Int.le_refl _, Int.le_refl _⟩, Or.inl ⟨p1, rfl⟩⟩
    · obtain ⟨j, e⟩ := h.tk p3 (fun _ => by rw [p2]; decide)
      exact ⟨j.w (by omega) (Int.le_refl _), p3.smr, fun q => ⟨(e q).1, by have := (e q).2.1.1; omega, (e q).2.1.2⟩, Or.inr ⟨p1, fun q => (e q).2.1.1⟩⟩
  obtain ⟨j1, s1, m1, d1⟩ := hp'
  refine ok_bind (q_found p.2 1) (fun q hq => ?_)
  obtain ⟨q1, q2⟩ := hq
  rw [q1]
  rcases q2 with ⟨q2, q3⟩ | ⟨q2, q3⟩
  · rw [if_pos q2]
    exact ok_bind (q_misp j1.1) (fun r hr => ok_some ⟨JJ.flt j1.1 hr, fun z => absurd z hr.2.2.2.1⟩)
  rw [q2, if_neg (by decide)]
  have nf : p.2.i 32 = 0 := by
    by_cases z : p.2.i 32 = 0
    · exact z
    · have := j1.1.2.2.2.2.1 z
      rw [q3] at this
      exact absurd this (by decide)
  obtain ⟨m1a, m1b, m1c⟩ := m1 nf
  have cc1 : ccI p.2 = ccI s := by unfold ccI; rw [s1.1.2.2.2.2.2.1]
  have cn1 : cnI p.2 = cnI s := by unfold cnI; rw [s1.1.2.2.2.1]
  obtain ⟨g1, n1⟩ := j1.2 nf
  have cc0 := n1.2.1
  have pl9 : plI p.2 ≤ 900 := by
    have a := j1.1.2.2.1.2.1
    have b := j1.1.2.2.1.1
    unfold plI
    omega
  have fin : ∀ v : Int32, ((plI s + 1 ≤ plI p.2) ∨ v = p.2.i 45) → ok (f_X1_caseNumber_44 N p.2 x1 x2 v) (fun R => JJ H (x - 50) y c X P lim R.2 ∧ (R.2.i 32 = 0 → CNR x1.toInt s R.2 x2)) := fun v hv => by
    unfold f_X1_caseNumber_44
    refine ok_bind (q_has hN x1 v) (fun a ha => ?_)
    rw [ha.1]
    refine ok_ite (fun c0 => ?_) (fun _ => ok_bind (q_failC j1.1 4 _ (by decide)) (fun r hr => ok_some ⟨JJ.flt j1.1 hr, fun z => absurd z hr.2.2.2.1⟩))
    have dis := ha.2 c0
    refine ok_bind (q_addCase N p.2 v x2) (fun b hb => ?_)
    have gb := g1.acs hb ⟨cc0.1, by have := cc0.2; omega⟩
    obtain ⟨⟨b1, b2, b3, b4, b5, b6, b7, b8, b9, b10⟩, b11, b12, b13, b14, b15⟩ := (show ACS p.2 b.2 v x2 from hb)
    have cb : CBS H b.2 := j1.1.of ⟨b1, b2, b3, b4, b5, b6, b7, b8, b9, b10⟩ (b13 0 (by decide) (by decide)) (fun j hj => b11 j (by omega)) (fun _ t t1 t2 => by
      have e : tcI b.2 = tcI p.2 := by unfold tcI; rw [b11 21 (by decide)]
      rw [e, b13 17 (by decide) (by decide)]
      exact ⟨t1, t2⟩)
    have e1 : (1 : Int32).toInt = 1 := by decide
    have ccb : ccI b.2 = ccI s + 1 := by
      rw [← cc1]
      have z0 : 0 ≤ (p.2.i 22).toInt := cc0.1
      have z1 : 3 * (p.2.i 22).toInt ≤ plI p.2 := cc0.2
      show (b.2.i 22).toInt = (p.2.i 22).toInt + 1
      rw [b12, toInt_add] <;> rw [e1] <;> omega
    have plb : plI b.2 = plI p.2 := by unfold plI; rw [b11 44 (by decide)]
    have eb : eI b.2 = eI p.2 := by unfold eI; rw [plb, b11 43 (by decide)]
    refine ok_bind (q_advC hN1 cb) (fun r hr => ok_some ?_)
    have gn := hr.gain cb.2.2.1
    have b43 : b.2.i 43 = 1 := (b11 43 (by decide)).trans q3
    have gn1 := gn.2.1 (by rw [b43]; decide)
    have b32 : b.2.i 32 = 0 := (b11 32 (by decide)).trans nf
    have r32 : r.2.i 32 = 0 := hr.f32.trans b32
    have tk := hr.1
    have ra : r.2.a = b.2.a := tk.1.2.2.2.2.2.2.2.2.2.2
    have ri : ∀ j : Nat, j ≠ 42 → j ≠ 43 → j ≠ 44 → j ≠ 45 → r.2.i j = b.2.i j := tk.2
    have ccr : ccI r.2 = ccI s + 1 := by rw [← ccb]; unfold ccI; rw [ri 22 (by decide) (by decide) (by decide) (by decide)]
    have ec : ((ccI s).toNat : Int) = (p.2.i 22).toInt := by
      rw [Int.toNat_of_nonneg (by rw [← cc1]; exact cc0.1), ← cc1]; rfl
    have c320 : (ccI s).toNat < 320 := by omega
    have a18 : r.2.a 18 (ccI s).toNat = v := by rw [ra, b14]; exact gPut_at ec c320
    have a19 : r.2.a 19 (ccI s).toNat = x2 := by rw [ra, b15]; exact gPut_at ec c320
    have rsq : RSQ s r.2 (cnI s).toNat := s1.2.1.tr (fun i _ => ⟨by rw [tk.1.2.2.2.2.2.2.2.1, b7], fun a _ => ⟨by rw [tk.1.2.2.2.1, b4], by rw [tk.1.2.2.2.2.1, b5]⟩⟩)
    have cnr : CNR x1.toInt s r.2 x2 := by
      refine ⟨m1a, ⟨by omega, by omega⟩, ccr, ?_, ⟨?_, ?_, ?_, ?_, ?_⟩, rsq, fun n hn => ?_, fun i hi => ⟨?_, ?_⟩, a19, ?_, fun i q1 q2 => ?_⟩
      · rw [ri 34 (by decide) (by decide) (by decide) (by decide), b11 34 (by decide)]; exact s1.1.1
      · rw [ri 38 (by decide) (by decide) (by decide) (by decide), b11 38 (by decide)]; exact s1.1.2.1
      · rw [ri 50 (by decide) (by decide) (by decide) (by decide), b11 50 (by decide)]; exact s1.1.2.2.1
      · rw [ri 53 (by decide) (by decide) (by decide) (by decide), b11 53 (by decide)]; exact s1.1.2.2.2.1
      · rw [ri 56 (by decide) (by decide) (by decide) (by decide), b11 56 (by decide)]; exact s1.1.2.2.2.2.1
      · rw [ri 36 (by decide) (by decide) (by decide) (by decide), b11 36 (by decide)]; exact s1.1.2.2.2.2.2.2
      · rw [ra, b13 49 (by decide) (by decide)]; exact s1.2.2.1 n hn
      · rw [ra, b14, gPut_ne (by omega)]; exact (s1.2.2.2 i hi).1
      · rw [ra, b15, gPut_ne (by omega)]; exact (s1.2.2.2 i hi).2
      · rcases hv with hv | hv
        · left; omega
        · by_cases c2 : nxI b.2 = plI b.2 + 1
          · right
            rw [a18, hv]
            have := cb.2.2.1.2.2.2.2.2.2.2.2 b43 c2
            rw [b11 45 (by decide)] at this
            exact this
          · left
            have l1 : plI b.2 + 1 ≤ nxI b.2 := cb.2.2.1.2.2.2.1 (by rw [b43]; decide)
            have l2 : nxI b.2 ≤ plI r.2 := hr.2.2.1
            omega
      · rw [a18, ← (s1.2.2.2 i q2).1]
        exact dis i q1 (by rw [cc1]; exact q2) (by omega)
    show JJ H (x - 50) y c X P lim r.2 ∧ (r.2.i 32 = 0 → CNR x1.toInt s r.2 x2)
    refine ⟨⟨tk.t9.cb cb hr.2.1 (fun z => absurd r32 z) (fun _ => b32), fun _ => ⟨gb.ck cb.1 tk.t9.ck, ?_⟩⟩, fun _ => cnr⟩
    have h3 := hcc r.2 cnr
    obtain ⟨i1, i2, i3, i4, i5⟩ := rsq.sums h.1.2.2.2.2.2.2.1.2.2
    obtain ⟨g0, n0⟩ := h.2 m1a
    have cnr' : cnI r.2 = cnI s := by unfold cnI; rw [cnr.2.2.2.2.1.2.2.1]
    have tcr : tcI r.2 = tcI p.2 := by unfold tcI; rw [ri 21 (by decide) (by decide) (by decide) (by decide), b11 21 (by decide)]
    have szr : szI r.2 = szI p.2 := by unfold szI; rw [ri 20 (by decide) (by decide) (by decide) (by decide), b11 20 (by decide)]
    have sgr : sgI r.2 = sgI s := by unfold sgI; rw [cnr.2.2.2.1]
    have dsr : dsI r.2 = dsI s := by unfold dsI; rw [cnr.2.2.2.2.1.1]
    have t1 := n1.1
    have z1 := n1.2.2.1
    rw [cn1, cc1] at z1
    refine ⟨by omega, ⟨by omega, by omega⟩, by omega, by rw [sgr]; exact n0.2.2.2.1, by rw [cnr']; exact n0.2.2.2.2.1.of rsq h.1.2.2.2.2.2.2.1.2.2, ?_, by rw [cnr', i2, sgr]; exact n0.2.2.2.2.2.2.1, by rw [dsr]; exact n0.2.2.2.2.2.2.2.1, ?_⟩
    · rw [cnr', i1]
      have := n0.2.2.2.2.2.1
      omega
    · have a9 := n1.2.2.2.2.2.2.2.2
      have e56 : r.2.i 56 = p.2.i 56 := by rw [ri 56 (by decide) (by decide) (by decide) (by decide), b11 56 (by decide)]
      have ern : cnI r.2 = cnI p.2 := by omega
      rw [e56, ern, tk.1.2.2.2.2.2.2.2.1, b7, tk.1.2.2.2.1, b4]
      exact a9
  rcases d1 with ⟨d1, d2⟩ | ⟨d1, d2⟩
  · rw [if_pos d1]; exact fin _ (Or.inr rfl)
  · rw [d1, if_neg (by decide)]; exact fin _ (Or.inl (d2 nf))
