/-! the class's reading: cases are laid -/
def ADS (s R : CS) : Prop := (R.hs = s.hs ∧ R.L = s.L ∧ R.k = s.k ∧ R.o = s.o ∧ R.ol = s.ol ∧ R.ot = s.ot ∧ R.r = s.r ∧ R.w = s.w ∧ R.b = s.b ∧ R.l = s.l) ∧ (∀ j : Nat, j ≠ 20 → j ≠ 22 → R.i j = s.i j) ∧ (∀ k : Nat, k ≠ 15 → k ≠ 16 → R.a k = s.a k)
theorem ADS.rf (s : CS) : ADS s s := ⟨⟨rfl, rfl, rfl, rfl, rfl, rfl, rfl, rfl, rfl, rfl⟩, fun _ _ _ => rfl, fun _ _ _ => rfl⟩
theorem ADS.tr {s R T : CS} (h : ADS s R) (g : ADS R T) : ADS s T := by
  obtain ⟨⟨a1, a2, a3, a4, a5, a6, a7, a8, a9, a10⟩, a11, a12⟩ := h
  obtain ⟨⟨b1, b2, b3, b4, b5, b6, b7, b8, b9, b10⟩, b11, b12⟩ := g
  exact ⟨⟨b1.trans a1, b2.trans a2, b3.trans a3, b4.trans a4, b5.trans a5, b6.trans a6, b7.trans a7, b8.trans a8, b9.trans a9, b10.trans a10⟩, fun j q1 q2 => (b11 j q1 q2).trans (a11 j q1 q2), fun k q1 q2 => (b12 k q1 q2).trans (a12 k q1 q2)⟩
theorem ADD.ads {s R : CS} {o x : Int32} (h : ADD s R o x) : ADS s R := ⟨h.1, fun j q1 _ => h.2.1 j q1, h.2.2.2.1⟩
theorem ADS.c22 (s : CS) (v : Int32) : ADS s (CS.setI s 22 v) := ⟨⟨chs_setI _ _ _, cL_setI _ _ _, ck_setI _ _ _, co_setI _ _ _, col_setI _ _ _, cot_setI _ _ _, cr_setI _ _ _, cw_setI _ _ _, cb_setI _ _ _, cl_setI _ _ _⟩, fun j _ q2 => ci_ne _ _ _ q2, fun k _ _ => by rw [ca_setI]⟩
/-- entries are forgotten -/
theorem JJ.c22 {H : HB} {x y : Int} {c : List Nat} {X : List (Nat × List Nat)} {P : List Nat} {lim : List Int} {s : CS} {v : Int32} (h : JJ H x y c X P lim s) (hv : s.i 32 = 0 → 0 ≤ v.toInt ∧ v.toInt ≤ ccI s ∧ lmh lim ≤ v.toInt) {x' : Int} (hx : s.i 32 = 0 → x - 4 * (ccI s - v.toInt) ≤ x') : JJ H x' y c X P lim (CS.setI s 22 v) := by
  obtain ⟨h1, h2⟩ := h
  obtain ⟨R, eR⟩ : ∃ R, R = CS.setI s 22 v := ⟨_, rfl⟩
  have a : ADS s R := by rw [eR]; exact ADS.c22 s v
  have e22 : R.i 22 = v := by rw [eR]; exact ci_at _ _ _
  have e20 : R.i 20 = s.i 20 := by rw [eR]; exact ci_ne _ _ _ (by decide)
  have ea : R.a = s.a := by rw [eR]; exact ca_setI _ _ _
  rw [← eR]
  clear eR
  obtain ⟨⟨b1, b2, b3, b4, b5, b6, b7, b8, b9, b10⟩, b11, -⟩ := a
  have bi : ∀ j : Nat, j ≠ 22 → R.i j = s.i j := fun j hj => by
    by_cases q : j = 20
    · rw [q]; exact e20
    · exact b11 j q hj
  refine ⟨h1.of ⟨b1, b2, b3, b4, b5, b6, b7, b8, b9, b10⟩ (by rw [ea]) (fun j hj => bi j (by omega)) (fun _ t t1 t2 => by
    have e : tcI R = tcI s := by unfold tcI; rw [bi 21 (by decide)]
    rw [e, ea]
    exact ⟨t1, t2⟩), fun q => ?_⟩
  have q' : s.i 32 = 0 := (bi 32 (by decide)).symm.trans q
  obtain ⟨g, n⟩ := h2 q'
  obtain ⟨v1, v2, v3⟩ := hv q'
  have hx := hx q'
  refine ⟨g.ck0 h1.1 ⟨⟨by rw [ea], by rw [ea], by rw [ea], by rw [ea], by rw [ea]⟩, ⟨bi 20 (by decide), bi 21 (by decide), bi 50 (by decide), bi 53 (by decide)⟩, by rw [b7], fun a _ => ⟨by rw [b4], by rw [b5]⟩⟩ (by unfold ccI; rw [e22]; exact v3), ?_⟩
  have nr := h1.2.2.2.2.2.2.1.2.2
  have rq : RSQ s R (cnI s).toNat := fun i _ => ⟨by rw [b7], fun a _ => ⟨by rw [b4], by rw [b5]⟩⟩
  obtain ⟨i1, i2, i3, i4, i5⟩ := rq.sums nr
  obtain ⟨c1, c2, c3, c4, c5, c6, c7, c8, c9⟩ := n
  have ecn : cnI R = cnI s := by unfold cnI; rw [bi 53 (by decide)]
  have ecc : ccI R = v.toInt := by unfold ccI; rw [e22]
  have eds : dsI R = dsI s := by unfold dsI; rw [bi 38 (by decide)]
  have esg : sgI R = sgI s := by unfold sgI; rw [bi 34 (by decide)]
  have epl : plI R = plI s := by unfold plI; rw [bi 44 (by decide)]
  have etc : tcI R = tcI s := by unfold tcI; rw [bi 21 (by decide)]
  have esz : szI R = szI s := by unfold szI; rw [bi 20 (by decide)]
  have ee : eI R = eI s := by unfold eI; rw [epl, bi 43 (by decide)]
  exact ⟨by omega, by omega, by omega, by rw [esg]; exact c4, by rw [ecn]; exact c5.of rq nr, by rw [ecn, i1, ee]; exact c6, by rw [ecn, i2, esg]; exact c7, by rw [eds]; exact c8, by rw [bi 56 (by decide), ecn, b7, b4]; exact c9⟩
theorem q_addCs {N : Nat} {H : HB} {x y : Int} {c : List Nat} {X : List (Nat × List Nat)} {P : List Nat} {lim : List Int} {s : CS} (hx : x ≤ 5000) (hy : y ≤ 95) (x1 x2 : Int32) (hT : s.i 32 = 0 → (0 ≤ x1.toInt ∧ x1.toInt ≤ ccI s ∧ lmh lim ≤ x1.toInt ∧ ccI s ≤ 300) ∧ (∀ i : Nat, x1.toInt ≤ (i : Int) → (i : Int) < ccI s → ∃ k : Nat, (s.a 19 i).toInt = (k : Int) ∧ (k, c) ∈ X) ∧ ∃ k : Nat, x2.toInt = (k : Int) ∧ (k, c) ∈ X) : ∀ (n : Nat) (σ : CS) (x3 : Int32), ccI s - x3.toInt < n → ADS s σ → σ.i 22 = s.i 22 → (s.i 32 = 0 → x1.toInt ≤ x3.toInt ∧ x3.toInt ≤ ccI s) → (∃ z : Int, z ≤ 6000 ∧ (s.i 32 = 0 → z = x + 2 * (x3.toInt - x1.toInt)) ∧ JJ H z y c X P lim σ) → ok (f_X0_addCases_2 N (n + 1) σ x1 x2 x3) (fun R => JJ H (x + 2) y c X P lim R.2 ∧ ADS s R.2 ∧ R.2.i 22 = x1)
  | n, σ, x3, hn, ha, h22, h3, ⟨z, z1, z2, hj⟩ => by
    show ok (b_X0_addCases_2 N (f_X0_addCases_2 N n) σ x1 x2 x3) _
    unfold b_X0_addCases_2
    have e1 : (1 : Int32).toInt = 1 := by decide
    have e32 : σ.i 32 = s.i 32 := ha.2.1 32 (by decide) (by decide)
    have ecc : ccI σ = ccI s := by unfold ccI; rw [h22]
    refine ok_ite (fun q => ?_) (fun q => ?_)
    · have l := le_int q
      have l' : ccI σ ≤ x3.toInt := l
      have j0 : JJ H x y c X P lim (CS.setI σ 22 x1) := hj.c22 (fun nf => by
        obtain ⟨t1, -⟩ := hT (e32 ▸ nf)
        omega) (fun nf => by
        have nf' : s.i 32 = 0 := e32 ▸ nf
        have := z2 nf'
        have := h3 nf'
        omega)
      have a0 : ADS s (CS.setI σ 22 x1) := ha.tr (ADS.c22 σ x1)
      have c0 : (CS.setI σ 22 x1).i 22 = x1 := ci_at _ _ _
      refine ok_bind (q_add N _ 6 0) (fun p hp => ?_)
      have j1 := j0.add hp (by omega) (by omega) (fun _ _ _ _ _ _ => IOK.fall (by decide))
      have a1 := a0.tr hp.ads
      have c1 : p.2.i 22 = x1 := (hp.2.1 22 (by decide)).trans c0
      refine ok_bind (q_add N _ 30 x2) (fun r hr => ok_some ⟨?_, a1.tr hr.ads, (hr.2.1 22 (by decide)).trans c1⟩)
      have j2 := j1.add hr (by omega) (by omega) (fun nf DT KT qX _ _ => by
        obtain ⟨-, -, k, k1, k2⟩ := hT ((a1.2.1 32 (by decide) (by decide)).symm.trans nf)
        exact IOK.jmp (by decide) k1 k2 qX)
      exact j2.w (by omega) (Int.le_refl _)
    · have l : x3.toInt < (σ.i 22).toInt := lt_int (Int32.not_le.mp q)
      have l' : x3.toInt < ccI s := by rw [← ecc]; exact l
      have b1 := Int32.toInt_lt (σ.i 22)
      have b2 := Int32.le_toInt x3
      have es : (x3 + 1).toInt = x3.toInt + 1 := by rw [toInt_add] <;> rw [e1] <;> omega
      obtain ⟨n', rfl⟩ : ∃ n', n = n' + 1 := ⟨n - 1, by omega⟩
      refine ok_bind (q_add N _ 0 _) (fun p hp => ?_)
      have j1 := hj.add hp (by omega) (by omega) (fun _ _ _ _ _ _ => IOK.fall (by decide))
      have a1 := ha.tr hp.ads
      have c1 : p.2.i 22 = s.i 22 := (hp.2.1 22 (by decide)).trans h22
      refine ok_bind (q_add N _ 34 _) (fun r hr => ?_)
      have j2 := j1.add hr (by omega) (by omega) (fun nf DT KT qX _ _ => by
        have nf' : s.i 32 = 0 := (a1.2.1 32 (by decide) (by decide)).symm.trans nf
        obtain ⟨t1, t2, -⟩ := hT nf'
        have t3 := h3 nf'
        obtain ⟨k, k1, k2⟩ := t2 x3.toInt.toNat (by omega) (by omega)
        have eg : gAt (p.2.a 19) 320 x3 = s.a 19 x3.toInt.toNat := by
          rw [a1.2.2 19 (by decide) (by decide)]
          unfold gAt
          have ib' : ib x3 320 := ⟨by omega, by omega⟩
          rw [if_pos ib']
          have cl := clampI ib'.1
          have ei : x3.toNatClampNeg = x3.toInt.toNat := by omega
          rw [ei]
        rw [eg]
        exact IOK.jmp (by decide) k1 k2 qX)
      have a2 := a1.tr hr.ads
      have c2 : r.2.i 22 = s.i 22 := (hr.2.1 22 (by decide)).trans c1
      refine q_addCs hx hy x1 x2 hT n' r.2 (x3 + 1) (by omega) a2 c2 (fun nf => by have := h3 nf; omega) ?_
      by_cases nf : s.i 32 = 0
      · have t1 := (hT nf).1
        have t2 := h3 nf
        have t3 := z2 nf
        exact ⟨z + 1 + 1, by omega, fun _ => by omega, j2⟩
      · exact ⟨x, by omega, fun w => absurd w nf, ⟨j2.1, fun w => absurd ((a2.2.1 32 (by decide) (by decide)).symm.trans w) nf⟩⟩
  termination_by n => n
theorem q_addCases {N : Nat} {H : HB} (hN : 10000000000 ≤ N) {x y : Int} {c : List Nat} {X : List (Nat × List Nat)} {P : List Nat} {lim : List Int} {s : CS} (hx : x ≤ 5000) (hy : y ≤ 95) (h : JJ H x y c X P lim s) (x1 x2 : Int32) (hT : s.i 32 = 0 → (0 ≤ x1.toInt ∧ x1.toInt ≤ ccI s ∧ lmh lim ≤ x1.toInt) ∧ (∀ i : Nat, x1.toInt ≤ (i : Int) → (i : Int) < ccI s → ∃ k : Nat, (s.a 19 i).toInt = (k : Int) ∧ (k, c) ∈ X) ∧ ∃ k : Nat, x2.toInt = (k : Int) ∧ (k, c) ∈ X) : ok (f_X0_addCases N s x1 x2) (fun R => JJ H (x + 2) y c X P lim R.2 ∧ ADS s R.2 ∧ R.2.i 22 = x1) := by
  unfold f_X0_addCases
  obtain ⟨N', rfl⟩ : ∃ N', N = N' + 1 := ⟨N - 1, by omega⟩
  have b1 := Int32.toInt_lt (s.i 22)
  have b2 := Int32.le_toInt x1
  refine q_addCs hx hy x1 x2 (fun nf => ?_) N' s x1 (by show (s.i 22).toInt - x1.toInt < N'; omega) (ADS.rf s) rfl (fun nf => ⟨Int.le_refl _, (hT nf).1.2.1⟩) ⟨x, by omega, fun _ => by omega, h⟩
  obtain ⟨t1, t2⟩ := hT nf
  refine ⟨⟨t1.1, t1.2.1, t1.2.2, ?_⟩, t2⟩
  have n1 := (h.2 nf).2.2.1
  have a := h.1.2.2.1.2.1
  have b := h.1.2.2.1.1
  have : plI s ≤ 900 := by unfold plI; omega
  omega
