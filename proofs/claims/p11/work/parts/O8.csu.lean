/-! the class's reading: sums and products -/
theorem JJ.w {H : HB} {x y x' y' : Int} {c : List Nat} {X : List (Nat × List Nat)} {P : List Nat} {lim : List Int} {s : CS} (h : JJ H x y c X P lim s) (hx : x ≤ x') (hy : y ≤ y') : JJ H x' y' c X P lim s := ⟨h.1, fun q => by
  obtain ⟨g, n⟩ := h.2 q
  refine ⟨g, ?_⟩
  unfold NB at *
  exact ⟨by omega, n.2.1, by omega, n.2.2.2⟩⟩
/-- a formula was read -/
def EXR (s R : CS) : Prop := s.i 32 = 0 ∧ (plI s + 1 ≤ plI R ∧ eI s ≤ eI R) ∧ SMR s R
theorem EXR.tr {s R T : CS} (h : EXR s R) (g : EXR R T) : EXR s T := ⟨h.1, ⟨by have := h.2.1.1; have := g.2.1.1; omega, by have := h.2.1.2; have := g.2.1.2; omega⟩, h.2.2.tr g.2.2⟩
theorem EXR.sg {s R : CS} (h : EXR s R) : sgI R = sgI s := by unfold sgI; rw [h.2.2.1.1]
/-- a method that reads a formula, with so much room for recursion -/
def EC (H : HB) (k : Int) (E : CS → Option (Unit × CS)) : Prop := ∀ (x y : Int) (c : List Nat) (X : List (Nat × List Nat)) (P : List Nat) (lim : List Int) (s : CS), x ≤ 3900 → y + 3 * k ≤ 90 ∧ 0 ≤ k → JJ H x y c X P lim s → (s.i 32 = 0 → 23 - sgI s ≤ k) → ok (E s) (fun R => JJ H (x - 50) y c X P lim R.2 ∧ (R.2.i 32 = 0 → EXR s R.2))
theorem ADV.f32 {s R : CS} (h : ADV s R) : R.i 32 = s.i 32 := h.1.2 32 (by decide) (by decide) (by decide) (by decide)
theorem ADD.f32 {s R : CS} {o x : Int32} (h : ADD s R o x) : R.i 32 = s.i 32 ∧ R.i 43 = s.i 43 ∧ R.i 44 = s.i 44 := ⟨h.2.1 32 (by decide), h.2.1 43 (by decide), h.2.1 44 (by decide)⟩
theorem ADD.pl {s R : CS} {o x : Int32} (h : ADD s R o x) : plI R = plI s ∧ eI R = eI s := by
  have q := h.f32
  have e : plI R = plI s := by unfold plI; rw [q.2.2]
  exact ⟨e, by unfold eI; rw [e, q.2.1]⟩
/-- a token whose type is known is taken -/
theorem JJ.tk {H : HB} {x y : Int} {c : List Nat} {X : List (Nat × List Nat)} {P : List Nat} {lim : List Int} {s R : CS} (h : JJ H x y c X P lim s) (ha : ADV s R) (h0 : s.i 32 = 0 → ¬ s.i 43 = 0) : JJ H (x - 100) y c X P lim R ∧ (R.i 32 = 0 → EXR s R) := by
  have gn := ha.gain h.1.2.2.1
  refine ⟨h.adv ha (fun q => ?_), fun q => ?_⟩
  · have := gn.2.1 (h0 q)
    omega
  · have q' := ha.f32.symm.trans q
    exact ⟨q', gn.2.1 (h0 q'), ha.smr⟩
theorem q_bin {N : Nat} {H : HB} (hN : 1000 ≤ N) {k : Int} {E : CS → Option (Unit × CS)} (hE : EC H k E) {x y : Int} {c : List Nat} {X : List (Nat × List Nat)} {P : List Nat} {lim : List Int} {s : CS} (hx : x ≤ 3900) (hy : y + 3 * k ≤ 90 ∧ 0 ≤ k) (h : JJ H x y c X P lim s) (h0 : s.i 32 = 0 → ¬ s.i 43 = 0) (hk : s.i 32 = 0 → 23 - sgI s ≤ k) (o : Int32) (ho : o.toInt < 30) {β : Type} {K : CS → Option β} {Q : β → Prop} (hK : ∀ R : CS, JJ H x y c X P lim R → (R.i 32 = 0 → EXR s R) → ok (K R) Q) : ok ((f_X9_advance N s).bind fun a => (E a.2).bind fun b => (f_X0_add N b.2 o 0).bind fun d => K d.2) Q := by
  refine ok_bind (q_advC hN h.1) (fun a ha => ?_)
  obtain ⟨j1, e1⟩ := h.tk ha h0
  refine ok_bind (hE (x - 100) y c X P lim a.2 (by omega) hy j1 (fun q => by rw [(e1 q).sg]; exact hk (e1 q).1)) (fun b hb => ?_)
  obtain ⟨j2, e2⟩ := hb
  refine ok_bind (q_add N b.2 o 0) (fun d hd => ?_)
  have j3 := j2.add hd (by omega) (by omega) (fun _ _ _ _ _ _ => IOK.fall (Or.inl ho))
  refine hK d.2 (j3.w (by omega) (Int.le_refl _)) (fun q => ?_)
  have q2 := hd.f32.1.symm.trans q
  have e := (e1 (e2 q2).1).tr (e2 q2)
  have pl := hd.pl
  exact ⟨e.1, ⟨by rw [pl.1]; exact e.2.1.1, by rw [pl.2]; exact e.2.1.2⟩, e.2.2.tr hd.smr⟩
theorem q_prod6 {N : Nat} {H : HB} (hN : 1000 ≤ N) {k : Int} {E1 : CS → Option (Unit × CS)} {E2 : CS → Option (Int32 × CS)} (hE : EC H k E1) {x y : Int} {c : List Nat} {X : List (Nat × List Nat)} {P : List Nat} {lim : List Int} {s : CS} (hx : x ≤ 3900) (hy : y + 3 * k ≤ 90 ∧ 0 ≤ k) (hk : s.i 32 = 0 → 23 - sgI s ≤ k) : ∀ (n : Nat) (σ : CS) (x1 : Int32), 0 ≤ x1.toInt → x1.toInt ≤ 900 → 900 - x1.toInt < n → JJ H x y c X P lim σ → (σ.i 32 = 0 → EXR s σ) → ok (f_X1_product_6 N E1 E2 n σ x1) (fun R => JJ H x y c X P lim R.2 ∧ (R.2.i 32 = 0 → EXR s R.2))
  | 0, _, _, _, _, h, _, _ => by omega
  | n + 1, σ, x1, h0, h9, hn, hj, he => by
    show ok (b_X1_product_6 N E1 E2 (f_X1_product_6 N E1 E2 n) σ x1) _
    unfold b_X1_product_6
    have e9 : (900 : Int32).toInt = 900 := by decide
    have e1 : (1 : Int32).toInt = 1 := by decide
    refine ok_ite (fun _ => ok_some ⟨hj, he⟩) (fun c9 => ?_)
    have l : x1.toInt < 900 := by
      have := lt_int (Int32.not_le.mp c9)
      rw [e9] at this; exact this
    have es : (x1 + 1).toInt = x1.toInt + 1 := by rw [toInt_add] <;> rw [e1] <;> omega
    have go : ∀ o : Int32, o.toInt < 30 → ¬ σ.i 43 = 0 → ok ((f_X9_advance N σ).bind fun a => (E1 a.2).bind fun b => (f_X0_add N b.2 o 0).bind fun d => f_X1_product_6 N E1 E2 n d.2 (x1 + 1)) (fun R => JJ H x y c X P lim R.2 ∧ (R.2.i 32 = 0 → EXR s R.2)) := fun o ho hz => q_bin hN hE hx hy hj (fun _ => hz) (fun q => by rw [(he q).sg]; exact hk (he q).1) o ho (fun R hR hR2 => q_prod6 hN hE hx hy hk n R (x1 + 1) (by omega) (by omega) (by omega) hR (fun q => (he (hR2 q).1).tr (hR2 q)))
    have three : ¬ σ.i 43 = 0 → ok ((f_X1_found N σ 42).bind fun p11 => (if p11.1 = 0 then (f_X1_found N p11.2 47).bind fun p16 => (if p16.1 = 0 then (f_X9_advance N p16.2).bind fun p21 => (E1 p21.2).bind fun p25 => (f_X0_add N p25.2 11 0).bind fun p29 => f_X1_product_6 N E1 E2 n p29.2 (x1 + 1) else (f_X9_advance N p16.2).bind fun p33 => (E1 p33.2).bind fun p37 => (f_X0_add N p37.2 10 0).bind fun p41 => f_X1_product_6 N E1 E2 n p41.2 (x1 + 1)) else (f_X9_advance N p11.2).bind fun p45 => (E1 p45.2).bind fun p49 => (f_X0_add N p49.2 9 0).bind fun p53 => f_X1_product_6 N E1 E2 n p53.2 (x1 + 1))) (fun R => JJ H x y c X P lim R.2 ∧ (R.2.i 32 = 0 → EXR s R.2)) := fun hz => by
      refine ok_bind (q_found σ 42) (fun p hp => ?_)
      rw [hp.1]
      refine ok_ite (fun _ => ok_bind (q_found σ 47) (fun p2 hp2 => ?_)) (fun _ => go 9 (by decide) hz)
      rw [hp2.1]
      exact ok_ite (fun _ => go 11 (by decide) hz) (fun _ => go 10 (by decide) hz)
    refine ok_bind (q_found σ 42) (fun p hp => ?_)
    obtain ⟨p1, p2⟩ := hp
    rw [p1]
    refine ok_ite (fun cz => ?_) (fun cz => ?_)
    · refine ok_bind (q_found σ 47) (fun q hq => ?_)
      obtain ⟨q1, q2⟩ := hq
      rw [q1]
      refine ok_ite (fun cy => ?_) (fun cy => ?_)
      · refine ok_bind (q_found σ 37) (fun r hr => ?_)
        obtain ⟨r1, r2⟩ := hr
        rw [r1]
        refine ok_ite (fun _ => ok_some ⟨hj, he⟩) (fun cx => three (fun z => ?_))
        rcases r2 with r2 | r2
        · exact cx r2.1
        · rw [z] at r2; exact absurd r2.2 (by decide)
      · refine three (fun z => ?_)
        rcases q2 with q2 | q2
        · exact cy q2.1
        · rw [z] at q2; exact absurd q2.2 (by decide)
    · refine three (fun z => ?_)
      rcases p2 with p2 | p2
      · exact cz p2.1
      · rw [z] at p2; exact absurd p2.2 (by decide)
theorem q_product {N : Nat} {H : HB} (hN : 1000 ≤ N) {k : Int} {E1 : CS → Option (Unit × CS)} {E2 : CS → Option (Int32 × CS)} (hE : EC H k E1) : EC H k (f_X1_product N E1 E2) := by
  intro x y c X P lim s hx hy h hk
  unfold f_X1_product
  refine ok_bind (hE x y c X P lim s hx hy h hk) (fun p hp => ?_)
  exact q_prod6 hN hE (by omega) hy hk N p.2 0 (by decide) (by decide) (by rw [z_t0]; omega) hp.1 hp.2
theorem q_expr6 {N : Nat} {H : HB} (hN : 1000 ≤ N) {k : Int} {E1 : CS → Option (Unit × CS)} {E2 : CS → Option (Int32 × CS)} (hE : EC H k (f_X1_product N E1 E2)) {x y : Int} {c : List Nat} {X : List (Nat × List Nat)} {P : List Nat} {lim : List Int} {s : CS} (hx : x ≤ 3900) (hy : y + 3 * k ≤ 90 ∧ 0 ≤ k) (hk : s.i 32 = 0 → 23 - sgI s ≤ k) : ∀ (n : Nat) (σ : CS) (x1 : Int32), 0 ≤ x1.toInt → x1.toInt ≤ 900 → 900 - x1.toInt < n → JJ H x y c X P lim σ → (σ.i 32 = 0 → EXR s σ) → ok (f_X1_expression_6 N E1 E2 n σ x1) (fun R => JJ H x y c X P lim R.2 ∧ (R.2.i 32 = 0 → EXR s R.2))
  | 0, _, _, _, _, h, _, _ => by omega
  | n + 1, σ, x1, h0, h9, hn, hj, he => by
    show ok (b_X1_expression_6 N E1 E2 (f_X1_expression_6 N E1 E2 n) σ x1) _
    unfold b_X1_expression_6
    have e9 : (900 : Int32).toInt = 900 := by decide
    have e1 : (1 : Int32).toInt = 1 := by decide
    refine ok_ite (fun _ => ok_some ⟨hj, he⟩) (fun c9 => ?_)
    have l : x1.toInt < 900 := by
      have := lt_int (Int32.not_le.mp c9)
      rw [e9] at this; exact this
    have es : (x1 + 1).toInt = x1.toInt + 1 := by rw [toInt_add] <;> rw [e1] <;> omega
    have go : ∀ o : Int32, o.toInt < 30 → ¬ σ.i 43 = 0 → ok ((f_X9_advance N σ).bind fun a => (f_X1_product N E1 E2 a.2).bind fun b => (f_X0_add N b.2 o 0).bind fun d => f_X1_expression_6 N E1 E2 n d.2 (x1 + 1)) (fun R => JJ H x y c X P lim R.2 ∧ (R.2.i 32 = 0 → EXR s R.2)) := fun o ho hz => q_bin hN hE hx hy hj (fun _ => hz) (fun q => by rw [(he q).sg]; exact hk (he q).1) o ho (fun R hR hR2 => q_expr6 hN hE hx hy hk n R (x1 + 1) (by omega) (by omega) (by omega) hR (fun q => (he (hR2 q).1).tr (hR2 q)))
    have two : ¬ σ.i 43 = 0 → ok ((f_X1_found N σ 43).bind fun p11 => (if p11.1 = 0 then (f_X9_advance N p11.2).bind fun p16 => (f_X1_product N E1 E2 p16.2).bind fun p20 => (f_X0_add N p20.2 8 0).bind fun p24 => f_X1_expression_6 N E1 E2 n p24.2 (x1 + 1) else (f_X9_advance N p11.2).bind fun p28 => (f_X1_product N E1 E2 p28.2).bind fun p32 => (f_X0_add N p32.2 7 0).bind fun p36 => f_X1_expression_6 N E1 E2 n p36.2 (x1 + 1))) (fun R => JJ H x y c X P lim R.2 ∧ (R.2.i 32 = 0 → EXR s R.2)) := fun hz => by
      refine ok_bind (q_found σ 43) (fun p hp => ?_)
      rw [hp.1]
      exact ok_ite (fun _ => go 8 (by decide) hz) (fun _ => go 7 (by decide) hz)
    refine ok_bind (q_found σ 43) (fun p hp => ?_)
    obtain ⟨p1, p2⟩ := hp
    rw [p1]
    refine ok_ite (fun cz => ?_) (fun cz => ?_)
    · refine ok_bind (q_found σ 45) (fun q hq => ?_)
      obtain ⟨q1, q2⟩ := hq
      rw [q1]
      refine ok_ite (fun _ => ok_some ⟨hj, he⟩) (fun cy => two (fun z => ?_))
      rcases q2 with q2 | q2
      · exact cy q2.1
      · rw [z] at q2; exact absurd q2.2 (by decide)
    · refine two (fun z => ?_)
      rcases p2 with p2 | p2
      · exact cz p2.1
      · rw [z] at p2; exact absurd p2.2 (by decide)
theorem q_expression {N : Nat} {H : HB} (hN : 1000 ≤ N) {k : Int} {E1 : CS → Option (Unit × CS)} {E2 : CS → Option (Int32 × CS)} (hE : EC H k E1) : EC H k (f_X1_expression N E1 E2) := by
  intro x y c X P lim s hx hy h hk
  unfold f_X1_expression
  have hp := q_product (E2 := E2) hN hE
  refine ok_bind (hp x y c X P lim s hx hy h hk) (fun p hp' => ?_)
  exact q_expr6 hN hp (by omega) hy hk N p.2 0 (by decide) (by decide) (by rw [z_t0]; omega) hp'.1 hp'.2
theorem q_comparing {N : Nat} {s : CS} (x : Int32) : ok (f_X1_comparing N s x) (fun R => R.2 = s ∧ (0 ≤ R.1 → R.1.toInt < 30 ∧ ¬ x = 0)) := by
  unfold f_X1_comparing
  have one : ∀ t v : Int32, x = t → (¬ t = 0 ∧ v.toInt < 30) → ok (some (v, s)) (fun R => R.2 = s ∧ (0 ≤ R.1 → R.1.toInt < 30 ∧ ¬ x = 0)) := fun t v e h => ok_some ⟨rfl, fun _ => ⟨h.2, by rw [e]; exact h.1⟩⟩
  exact ok_ite (fun e => one _ _ e (by decide)) (fun _ => ok_ite (fun e => one _ _ e (by decide)) (fun _ => ok_ite (fun e => one _ _ e (by decide)) (fun _ => ok_ite (fun e => one _ _ e (by decide)) (fun _ => ok_ite (fun e => one _ _ e (by decide)) (fun _ => ok_ite (fun e => one _ _ e (by decide)) (fun _ => ok_some ⟨rfl, fun q => absurd (show (0 : Int32) ≤ -1 from q) (by decide)⟩))))))
theorem q_comparison {N : Nat} {H : HB} (hN : 1000 ≤ N) {k : Int} {E1 : CS → Option (Unit × CS)} {E2 : CS → Option (Int32 × CS)} (hE : EC H k E1) : EC H k (f_X1_comparison N E1 E2) := by
  intro x y c X P lim s hx hy h hk
  unfold f_X1_comparison
  have hp := q_expression (E2 := E2) hN hE
  refine ok_bind (hp x y c X P lim s hx hy h hk) (fun p hp' => ?_)
  obtain ⟨j1, e1⟩ := hp'
  refine ok_bind (q_comparing _) (fun q hq => ?_)
  rw [hq.1]
  refine ok_ite (fun c0 => ?_) (fun _ => ok_bind (q_misp j1.1) (fun r hr => ok_some ⟨JJ.flt j1.1 hr, fun z => absurd z hr.2.2.2.1⟩))
  obtain ⟨o1, o2⟩ := hq.2 c0
  refine q_bin hN hp (by omega) hy j1 (fun _ => o2) (fun z => by rw [(e1 z).sg]; exact hk (e1 z).1) q.1 o1 (K := fun d => some ((), d)) (fun R hR hR2 => ok_some ⟨hR, fun z => (e1 (hR2 z).1).tr (hR2 z)⟩)
