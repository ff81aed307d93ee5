/-! the class's reading: conditions -/
def EC2 (H : HB) (k : Int) (E : CS → Option (Int32 × CS)) : Prop := ∀ (x y : Int) (c : List Nat) (X : List (Nat × List Nat)) (P : List Nat) (lim : List Int) (s : CS), x ≤ 3900 → y + 3 * k ≤ 90 ∧ 0 ≤ k → JJ H x y c X P lim s → (s.i 32 = 0 → 24 - sgI s ≤ k) → ok (E s) (fun R => (JJ H (x - 50) y c X P lim R.2 ∧ (R.2.i 32 = 0 → EXR s R.2)) ∧ bo R.1)
theorem GW.sub {cD c : List Nat} {X X' : List (Nat × List Nat)} {P : List Nat} {lim : List Int} {s : CS} (h : GW cD c X P lim s) (hX : ∀ q ∈ X', q ∈ X) : GW cD c X' P lim s := by
  obtain ⟨D, DT, KT, h1, h2, h3, h4, h5, h6⟩ := h
  exact ⟨D, DT, KT, h1, h2, h3, h4, fun q hq => h5 q (hX q hq), h6⟩
theorem JJ.sub {H : HB} {x y : Int} {c : List Nat} {X X' : List (Nat × List Nat)} {P : List Nat} {lim : List Int} {s : CS} (h : JJ H x y c X P lim s) (hX : ∀ q ∈ X', q ∈ X) : JJ H x y c X' P lim s := ⟨h.1, fun q => ⟨(h.2 q).1.sub hX, (h.2 q).2⟩⟩
theorem GW.tc0 {cD c : List Nat} {X : List (Nat × List Nat)} {P : List Nat} {lim : List Int} {s : CS} (h : GW cD c X P lim s) : 0 ≤ tcI s ∧ 0 ≤ szI s := by
  obtain ⟨D, DT, KT, h1, h2, h3, h4, h5, h6, h7, h8⟩ := h
  exact ⟨h8.1, h4.1⟩
/-- a target at the place's own context -/
theorem JJ.new {H : HB} {x y : Int} {c : List Nat} {X : List (Nat × List Nat)} {P : List Nat} {lim : List Int} {s R : CS} (h : JJ H x y c X P lim s) (hr : NTG s R) (hx : x ≤ 10000) (hy : y ≤ 100) (d : List Nat) : JJ H x (y + 1) c (((tcI s).toNat, d) :: X) ((tcI s).toNat :: P) lim R := by
  obtain ⟨h1, h2⟩ := h
  have sm := hr.smr
  obtain ⟨⟨b1, b2, b3, b4, b5, b6, b7, b8, b9, b10⟩, b11, b12, b13, b14⟩ := (show NTG s R from hr)
  refine ⟨hr.cb h1 (fun q => by
    have w := h2 q
    exact ⟨w.1.tc0.1, by have := (w.2.sz h1.2.2.1 h1.2.2.2.2.2.2.1.1 hx hy).2; omega⟩), fun q => ?_⟩
  have q' : s.i 32 = 0 := (b11 32 (by decide)).symm.trans q
  obtain ⟨g, n⟩ := h2 q'
  have sz := n.sz h1.2.2.1 h1.2.2.2.2.2.2.1.1 hx hy
  refine ⟨g.new hr (by omega) d, n.of h1.2.2.2.2.2.2.1.1 h1.2.2.2.2.2.2.1.2.2 sm (by rw [b7]) b4 ⟨b11 43 (by decide), b11 44 (by decide)⟩ ?_ ?_⟩
  · have : szI R = szI s := by unfold szI; rw [b11 20 (by decide)]
    omega
  · have e1 : (1 : Int32).toInt = 1 := by decide
    have t0 : 0 ≤ (s.i 21).toInt := g.tc0.1
    have t1 : (s.i 21).toInt ≤ 1010 := sz.2
    have : tcI R = tcI s + 1 := by
      show (R.i 21).toInt = (s.i 21).toInt + 1
      rw [b12, toInt_add] <;> rw [e1] <;> omega
    omega
theorem JJ.aim {H : HB} {x y : Int} {c : List Nat} {X : List (Nat × List Nat)} {P P' : List Nat} {lim : List Int} {s R : CS} {t : Int32} (h : JJ H x y c X P lim s) (ha : AIM s R t) (hx : x ≤ 10000) (hy : y ≤ 100) (hT : s.i 32 = 0 → ∃ k : Nat, t.toInt = (k : Int) ∧ (k, c) ∈ X) (hP : ∀ k ∈ P, k ∈ P' ∨ (k : Int) = t.toInt) : JJ H x y c X P' lim R := by
  obtain ⟨h1, h2⟩ := h
  have sm := ha.smr
  obtain ⟨⟨b1, b2, b3, b4, b5, b6, b7, b8, b9, b10⟩, b11, b13, b14⟩ := (show AIM s R t from ha)
  refine ⟨ha.cb h1 (fun q => (h2 q).1.tc0.2), fun q => ?_⟩
  have q' : s.i 32 = 0 := by rw [← b11]; exact q
  obtain ⟨g, n⟩ := h2 q'
  have sz := n.sz h1.2.2.1 h1.2.2.2.2.2.2.1.1 hx hy
  obtain ⟨k, k1, k2⟩ := hT q'
  refine ⟨g.aim ha (by omega) (fun DT KT z _ => ?_) hP, n.of h1.2.2.2.2.2.2.1.1 h1.2.2.2.2.2.2.1.2.2 sm (by rw [b7]) b4 ⟨by rw [b11], by rw [b11]⟩ ?_ ?_⟩
  · have y := z (k, c) k2
    have ek : t.toInt.toNat = k := by omega
    rw [ek]
    exact ⟨by omega, by have := y.1; show t.toInt < tcI s; omega, y.2.1⟩
  · have : szI R = szI s := by unfold szI; rw [b11]
    omega
  · have : tcI R = tcI s := by unfold tcI; rw [b11]
    omega
/-- a jump, or a jump on a condition, to a known target -/
theorem IOK.jmp {tc : Int} {DT : Nat → List Nat} {KT : Nat → Prop} {X : List (Nat × List Nat)} {o x : Int32} {c : List Nat} {k : Nat} (ho : 30 ≤ o.toInt ∧ o.toInt ≤ 35) (hx : x.toInt = (k : Int)) (hk : (k, c) ∈ X) (hX : ∀ q ∈ X, (q.1 : Int) < tc ∧ DT q.1 = q.2 ∧ ¬ KT q.1) : IOK tc DT KT o x c c := by
  have y := hX (k, c) hk
  have ek : x.toInt.toNat = k := by omega
  have tt : TTc tc DT KT x c := ⟨by omega, by have := y.1; omega, by rw [ek]; exact y.2.1, by rw [ek]; exact y.2.2⟩
  exact ⟨fun q => by omega, fun _ => tt, fun _ _ => ⟨tt, rfl⟩, fun q => by omega, fun q => by omega, fun q => by omega, fun q => by omega, fun q => by omega, fun q => by omega, fun q => by omega, fun q => by omega, fun q => by omega, by omega⟩
theorem NTG.f {s R : CS} (h : NTG s R) : R.i 32 = s.i 32 ∧ R.i 43 = s.i 43 ∧ plI R = plI s ∧ eI R = eI s := by
  have e : plI R = plI s := by unfold plI; rw [h.2.1 44 (by decide)]
  exact ⟨h.2.1 32 (by decide), h.2.1 43 (by decide), e, by unfold eI; rw [e, h.2.1 43 (by decide)]⟩
theorem AIM.f {s R : CS} {t : Int32} (h : AIM s R t) : R.i 32 = s.i 32 ∧ plI R = plI s ∧ eI R = eI s := by
  have e : plI R = plI s := by unfold plI; rw [h.2.1]
  exact ⟨by rw [h.2.1], e, by unfold eI; rw [e, h.2.1]⟩
/-- conjunctions and disjunctions: the loop -/
def LPC (H : HB) (x y : Int) (c : List Nat) (X : List (Nat × List Nat)) (P : List Nat) (lim : List Int) (s : CS) (t : Nat) (v : Int32) (σ : CS) : Prop := ((JJ H x (y + 1) c ((t, c) :: X) (t :: P) lim σ ∧ (σ.i 32 = 0 → σ.i 43 = v)) ∨ JJ H x y c ((t, c) :: X) (t :: P) lim σ) ∧ (σ.i 32 = 0 → EXR s σ)
theorem q_lp {N : Nat} {H : HB} (hN : 1000 ≤ N) {k : Int} {E : CS → Option (Int32 × CS)} (hE : EC2 H k E) {x y : Int} {c : List Nat} {X : List (Nat × List Nat)} {P : List Nat} {lim : List Int} {s σ : CS} {t : Nat} {x2 v o : Int32} (hx : x ≤ 3900) (hy : y + 3 * k ≤ 90 ∧ 0 ≤ k) (hv : 128 ≤ v.toInt ∧ v.toInt ≤ 135) (ho : 30 ≤ o.toInt ∧ o.toInt ≤ 35) (hk : s.i 32 = 0 → 24 - sgI s ≤ k) (h2 : x2.toInt = (t : Int)) (h : LPC H x y c X P lim s t v σ) {K : CS → Option (Int32 × CS)} (hK : ∀ R : CS, JJ H x y c ((t, c) :: X) (t :: P) lim R → (R.i 32 = 0 → EXR s R) → ok (K R) (fun R => (JJ H x y c X P lim R.2 ∧ (R.2.i 32 = 0 → EXR s R.2)) ∧ bo R.1)) : ok ((f_X1_skip N σ v).bind fun p19 => (if p19.1 = 0 then ((f_X0_aim N p19.2 x2).bind fun p15 => some ((0 : Int32), p15.2)) else (f_X0_add N p19.2 o x2).bind fun p24 => (E p24.2).bind fun p28 => K p28.2)) (fun R => (JJ H x y c X P lim R.2 ∧ (R.2.i 32 = 0 → EXR s R.2)) ∧ bo R.1) := by
  obtain ⟨hj, he⟩ := h
  have cb : CBS H σ := by
    rcases hj with z | z
    · exact z.1.1
    · exact z.1
  have jw : JJ H x (y + 1) c ((t, c) :: X) (t :: P) lim σ := by
    rcases hj with z | z
    · exact z.1
    · exact z.w (Int.le_refl _) (by omega)
  refine ok_bind (q_skip hN cb v) (fun p hp => ?_)
  rcases hp with ⟨p1, p2, p3⟩ | ⟨p1, p2, p3⟩
  · rw [if_pos p1, p2]
    refine ok_bind (q_aim N σ x2) (fun a ha => ok_some ⟨⟨?_, fun q => ?_⟩, Or.inl rfl⟩)
    · have jy : JJ H x y c ((t, c) :: X) (t :: P) lim σ := by
        rcases hj with z | z
        · exact ⟨z.1.1, fun q => absurd (z.2 q) p3⟩
        · exact z
      exact (jy.aim ha (by omega) (by omega) (fun _ => ⟨t, h2, List.mem_cons_self ..⟩) (fun k hk => by
        rcases List.mem_cons.mp hk with e | e
        · exact Or.inr (by rw [e, h2])
        · exact Or.inl e)).sub (fun q hq => List.mem_cons_of_mem _ hq)
    · have f := ha.f
      have ex := he (f.1.symm.trans q)
      exact ⟨ex.1, ⟨by rw [f.2.1]; exact ex.2.1.1, by rw [f.2.2]; exact ex.2.1.2⟩, ex.2.2.tr ha.smr⟩
  · rw [p1, if_neg (by decide)]
    have gn := p3.gain cb.2.2.1
    have lg := gn.2.2.2.2.2.1 (by rw [p2]; exact hv)
    have n0 : ¬ σ.i 43 = 0 := fun z => by rw [p2] at z; rw [z, z_t0] at hv; omega
    have j1 : JJ H (x - 100) y c ((t, c) :: X) (t :: P) lim p.2 := jw.adv p3 (fun _ => by omega)
    have e1 := (jw.tk p3 (fun _ => n0)).2
    refine ok_bind (q_add N p.2 o x2) (fun a ha => ?_)
    have j2 := j1.add ha (by omega) (by omega) (fun _ DT KT z _ _ => IOK.jmp ho h2 (List.mem_cons_self ..) z)
    have f := ha.f32
    have pl := ha.pl
    have e2 : a.2.i 32 = 0 → EXR σ a.2 := fun q => by
      have ex := e1 (f.1.symm.trans q)
      exact ⟨ex.1, ⟨by rw [pl.1]; exact ex.2.1.1, by rw [pl.2]; exact ex.2.1.2⟩, ex.2.2.tr ha.smr⟩
    refine ok_bind (hE (x - 100 + 1) y c _ _ lim a.2 (by omega) (by omega) j2 (fun q => by rw [(e2 q).sg, (he (e2 q).1).sg]; exact hk (he (e2 q).1).1)) (fun b hb => ?_)
    exact hK b.2 (hb.1.1.w (by omega) (Int.le_refl _)) (fun q => ((he (e2 (hb.1.2 q).1).1).tr (e2 (hb.1.2 q).1)).tr (hb.1.2 q))
theorem q_conj27 {N : Nat} {H : HB} (hN : 1000 ≤ N) {k : Int} {E1 : CS → Option (Unit × CS)} {E2 : CS → Option (Int32 × CS)} (hE : EC2 H k E2) {x y : Int} {c : List Nat} {X : List (Nat × List Nat)} {P : List Nat} {lim : List Int} {s : CS} {t : Nat} {x2 : Int32} (hx : x ≤ 3900) (hy : y + 3 * k ≤ 90 ∧ 0 ≤ k) (hk : s.i 32 = 0 → 24 - sgI s ≤ k) (h2 : x2.toInt = (t : Int)) : ∀ (n : Nat) (σ : CS) (x3 : Int32), 0 ≤ x3.toInt → x3.toInt ≤ 900 → 900 - x3.toInt < n → LPC H x y c X P lim s t 132 σ → (¬ x3.toInt = 0 → JJ H x y c ((t, c) :: X) (t :: P) lim σ) → ok (f_X1_conjunction_27 N E1 E2 n σ x2 x3) (fun R => (JJ H x y c X P lim R.2 ∧ (R.2.i 32 = 0 → EXR s R.2)) ∧ bo R.1)
  | 0, _, _, _, _, h, _, _ => by omega
  | n + 1, σ, x3, h0, h9, hn, hl, hj => by
    show ok (b_X1_conjunction_27 N E1 E2 (f_X1_conjunction_27 N E1 E2 n) σ x2 x3) _
    unfold b_X1_conjunction_27 f_X1_conjunction_65
    have e9 : (900 : Int32).toInt = 900 := by decide
    have e1 : (1 : Int32).toInt = 1 := by decide
    refine ok_ite (fun c9 => ?_) (fun c9 => ?_)
    · have l := le_int c9
      have jy := hj (by omega)
      refine ok_bind (q_aim N σ x2) (fun a ha => ok_some ⟨⟨?_, fun q => ?_⟩, Or.inl rfl⟩)
      · exact (jy.aim ha (by omega) (by omega) (fun _ => ⟨t, h2, List.mem_cons_self ..⟩) (fun k hk => by
          rcases List.mem_cons.mp hk with e | e
          · exact Or.inr (by rw [e, h2])
          · exact Or.inl e)).sub (fun q hq => List.mem_cons_of_mem _ hq)
      · have f := ha.f
        have ex := hl.2 (f.1.symm.trans q)
        exact ⟨ex.1, ⟨by rw [f.2.1]; exact ex.2.1.1, by rw [f.2.2]; exact ex.2.1.2⟩, ex.2.2.tr ha.smr⟩
    · have l : x3.toInt < 900 := by
        have := lt_int (Int32.not_le.mp c9)
        rw [e9] at this; exact this
      have es : (x3 + 1).toInt = x3.toInt + 1 := by rw [toInt_add] <;> rw [e1] <;> omega
      exact q_lp hN hE hx hy (by decide) (by decide) hk h2 hl (fun R hR hR2 => q_conj27 hN hE hx hy hk h2 n R (x3 + 1) (by omega) (by omega) (by omega) ⟨Or.inr hR, hR2⟩ (fun _ => hR))
theorem q_first {N : Nat} {H : HB} (hN : 1000 ≤ N) {k : Int} {E : CS → Option (Int32 × CS)} (hE : EC2 H k E) {v : Int32} {L : CS → Int32 → Option (Int32 × CS)} (hL : ∀ (x y : Int) (c : List Nat) (X : List (Nat × List Nat)) (P : List Nat) (lim : List Int) (s σ : CS) (t : Nat) (x2 : Int32), x ≤ 3900 → y + 3 * k ≤ 90 ∧ 0 ≤ k → (s.i 32 = 0 → 24 - sgI s ≤ k) → x2.toInt = (t : Int) → LPC H x y c X P lim s t v σ → ok (L σ x2) (fun R => (JJ H x y c X P lim R.2 ∧ (R.2.i 32 = 0 → EXR s R.2)) ∧ bo R.1)) {x y : Int} {c : List Nat} {X : List (Nat × List Nat)} {P : List Nat} {lim : List Int} {s : CS} (hx : x ≤ 3900) (hy : y + 3 * k ≤ 90 ∧ 0 ≤ k) (h : JJ H x y c X P lim s) (hk : s.i 32 = 0 → 24 - sgI s ≤ k) (hv : ¬ v = 0) : ok ((E s).bind fun p1 => (f_X1_found N p1.2 v).bind fun p5 => (if p5.1 = 0 then if p1.1 = 0 ∨ p1.1 = 1 then some (p1.1, p5.2) else none else (f_X0_newTarget N p5.2).bind fun p10 => L p10.2 p10.1)) (fun R => (JJ H (x - 50) y c X P lim R.2 ∧ (R.2.i 32 = 0 → EXR s R.2)) ∧ bo R.1) := by
  refine ok_bind (hE x y c X P lim s (by omega) (by omega) h hk) (fun p hp => ?_)
  obtain ⟨⟨j1, e1⟩, b1⟩ := hp
  refine ok_bind (q_found p.2 v) (fun q hq => ?_)
  obtain ⟨q1, q2⟩ := hq
  rw [q1]
  rcases q2 with ⟨q2, q3⟩ | ⟨q2, q3⟩
  · rw [if_pos q2]
    exact ok_chk b1 (ok_some ⟨⟨j1, e1⟩, b1⟩)
  rw [q2, if_neg (by decide)]
  have nf : p.2.i 32 = 0 := by
    by_cases z : p.2.i 32 = 0
    · exact z
    · have := j1.1.2.2.2.2.1 z
      rw [q3] at this
      exact absurd this hv
  refine ok_bind (q_newTarget N p.2) (fun t ht => ?_)
  obtain ⟨t1, t2⟩ := ht
  have f := t1.f
  have j2 := j1.new t1 (by omega) (by omega) c
  have tc := (j1.2 nf).1.tc0.1
  rw [t2]
  refine hL (x - 50) y c X P lim s t.2 (tcI p.2).toNat (p.2.i 21) (by omega) hy hk (by show tcI p.2 = _; omega) ⟨Or.inl ⟨j2, fun _ => by rw [f.2.1]; exact q3⟩, fun z => ?_⟩
  have ex := e1 nf
  exact ⟨ex.1, ⟨by rw [f.2.2.1]; exact ex.2.1.1, by rw [f.2.2.2]; exact ex.2.1.2⟩, ex.2.2.tr t1.smr⟩
theorem q_conjunction {N : Nat} {H : HB} (hN : 1000 ≤ N) {k : Int} {E1 : CS → Option (Unit × CS)} {E2 : CS → Option (Int32 × CS)} (hE : EC2 H k E2) : EC2 H k (f_X1_conjunction N E1 E2) := by
  intro x y c X P lim s hx hy h hk
  unfold f_X1_conjunction
  exact q_first hN hE (v := 132) (L := fun σ x2 => f_X1_conjunction_27 N E1 E2 N σ x2 0) (fun x y c X P lim s σ t x2 a1 a2 a3 a4 a5 => q_conj27 hN hE a1 a2 a3 a4 N σ 0 (by decide) (by decide) (by rw [z_t0]; omega) a5 (fun q => absurd z_t0 q)) hx hy h hk (by decide)
theorem q_cond27 {N : Nat} {H : HB} (hN : 1000 ≤ N) {k : Int} {E1 : CS → Option (Unit × CS)} {E2 : CS → Option (Int32 × CS)} (hE : EC2 H k (f_X1_conjunction N E1 E2)) {x y : Int} {c : List Nat} {X : List (Nat × List Nat)} {P : List Nat} {lim : List Int} {s : CS} {t : Nat} {x2 : Int32} (hx : x ≤ 3900) (hy : y + 3 * k ≤ 90 ∧ 0 ≤ k) (hk : s.i 32 = 0 → 24 - sgI s ≤ k) (h2 : x2.toInt = (t : Int)) : ∀ (n : Nat) (σ : CS) (x3 : Int32), 0 ≤ x3.toInt → x3.toInt ≤ 900 → 900 - x3.toInt < n → LPC H x y c X P lim s t 133 σ → (¬ x3.toInt = 0 → JJ H x y c ((t, c) :: X) (t :: P) lim σ) → ok (f_X1_condition_27 N E1 E2 n σ x2 x3) (fun R => (JJ H x y c X P lim R.2 ∧ (R.2.i 32 = 0 → EXR s R.2)) ∧ bo R.1)
  | 0, _, _, _, _, h, _, _ => by omega
  | n + 1, σ, x3, h0, h9, hn, hl, hj => by
    show ok (b_X1_condition_27 N E1 E2 (f_X1_condition_27 N E1 E2 n) σ x2 x3) _
    unfold b_X1_condition_27 f_X1_condition_65
    have e9 : (900 : Int32).toInt = 900 := by decide
    have e1 : (1 : Int32).toInt = 1 := by decide
    refine ok_ite (fun c9 => ?_) (fun c9 => ?_)
    · have l := le_int c9
      have jy := hj (by omega)
      refine ok_bind (q_aim N σ x2) (fun a ha => ok_some ⟨⟨?_, fun q => ?_⟩, Or.inl rfl⟩)
      · exact (jy.aim ha (by omega) (by omega) (fun _ => ⟨t, h2, List.mem_cons_self ..⟩) (fun k hk => by
          rcases List.mem_cons.mp hk with e | e
          · exact Or.inr (by rw [e, h2])
          · exact Or.inl e)).sub (fun q hq => List.mem_cons_of_mem _ hq)
      · have f := ha.f
        have ex := hl.2 (f.1.symm.trans q)
        exact ⟨ex.1, ⟨by rw [f.2.1]; exact ex.2.1.1, by rw [f.2.2]; exact ex.2.1.2⟩, ex.2.2.tr ha.smr⟩
    · have l : x3.toInt < 900 := by
        have := lt_int (Int32.not_le.mp c9)
        rw [e9] at this; exact this
      have es : (x3 + 1).toInt = x3.toInt + 1 := by rw [toInt_add] <;> rw [e1] <;> omega
      exact q_lp hN hE hx hy (by decide) (by decide) hk h2 hl (fun R hR hR2 => q_cond27 hN hE hx hy hk h2 n R (x3 + 1) (by omega) (by omega) (by omega) ⟨Or.inr hR, hR2⟩ (fun _ => hR))
theorem q_condition {N : Nat} {H : HB} (hN : 1000 ≤ N) {k : Int} {E1 : CS → Option (Unit × CS)} {E2 : CS → Option (Int32 × CS)} (hE : EC2 H k E2) : EC2 H k (f_X1_condition N E1 E2) := by
  intro x y c X P lim s hx hy h hk
  have hC := q_conjunction (E1 := E1) hN hE
  unfold f_X1_condition
  exact q_first hN hC (v := 133) (L := fun σ x2 => f_X1_condition_27 N E1 E2 N σ x2 0) (fun x y c X P lim s σ t x2 a1 a2 a3 a4 a5 => q_cond27 hN hC a1 a2 a3 a4 N σ 0 (by decide) (by decide) (by rw [z_t0]; omega) a5 (fun q => absurd z_t0 q)) hx hy h hk (by decide)
