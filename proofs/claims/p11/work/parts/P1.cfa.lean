/-! the class's reading: one, factor -/
/-- a word is read to an instruction that falls through -/
theorem q_at {N : Nat} {H : HB} (hN : 1000 ≤ N) {x y : Int} {c : List Nat} {X : List (Nat × List Nat)} {P : List Nat} {lim : List Int} {s : CS} (hx : x ≤ 3900) (hy : y ≤ 90) (h : JJ H x y c X P lim s) (h0 : s.i 32 = 0 → ¬ s.i 43 = 0) (o v : Int32) (ho : o.toInt < 30) {β : Type} {K : CS → Option β} {Q : β → Prop} (hK : ∀ R : CS, JJ H (x - 50) y c X P lim R → (R.i 32 = 0 → EXR s R) → ok (K R) Q) : ok ((f_X0_add N s o v).bind fun a => (f_X9_advance N a.2).bind fun b => K b.2) Q := by
  refine ok_bind (q_add N s o v) (fun a ha => ?_)
  have j1 := h.add ha (by omega) (by omega) (fun _ _ _ _ _ _ => IOK.fall (Or.inl ho))
  have f := ha.f32
  have pl := ha.pl
  refine ok_bind (q_advC hN j1.1) (fun b hb => ?_)
  obtain ⟨j2, e2⟩ := j1.tk hb (fun q => by rw [f.2.1]; exact h0 (f.1.symm.trans q))
  refine hK b.2 (j2.w (by omega) (Int.le_refl _)) (fun q => ?_)
  have ex := e2 q
  exact ⟨f.1.symm.trans ex.1, ⟨by rw [← pl.1]; exact ex.2.1.1, by rw [← pl.2]; exact ex.2.1.2⟩, ha.smr.tr ex.2.2⟩
/-- a sign before a formula: ! or - -/
theorem q_pre {N : Nat} {H : HB} (hN : 1000 ≤ N) {α : Type} {E : CS → Option (α × CS)} {x y : Int} {c : List Nat} {X : List (Nat × List Nat)} {P : List Nat} {lim : List Int} {s : CS} (hx : x ≤ 3900) (hy : y ≤ 90) (h : JJ H x y c X P lim s) (v o : Int32) (hv : ¬ v = 0) (ho : o.toInt < 30) (hE : ∀ R : CS, JJ H (x - 100) y c X P lim R → (R.i 32 = 0 → MOV 1 s R) → ok (E R) (fun T => JJ H (x - 150) y c X P lim T.2 ∧ (T.2.i 32 = 0 → EXR R T.2))) {β : Type} {K : CS → Option β} {Q : β → Prop} (hK : ∀ R : CS, JJ H (x - 50) y c X P lim R → (R.i 32 = 0 → EXR s R) → ok (K R) Q) : ok ((f_X1_open N s v).bind fun p => (if (p.2.i 32) = 0 then (E p.2).bind fun q => ((f_X0_add N (CS.setI q.2 34 ((q.2.i 34) - 1)) o 0).bind fun r => K r.2) else ((f_X0_add N (CS.setI p.2 34 ((p.2.i 34) - 1)) o 0).bind fun r => K r.2))) Q := by
  refine ok_bind (q_open hN h.1 v) (fun p hp => ?_)
  obtain ⟨j1, m1⟩ := h.op hv hp
  have tail : ∀ q : CS, JJ H (x - 100) y c X P lim q → (q.i 32 = 0 → MOV 1 s q) → ok ((f_X0_add N (CS.setI q 34 ((q.i 34) - 1)) o 0).bind fun r => K r.2) Q := fun q jq mq => by
    have d := jq.dn (fun z => by
      have a := mq z
      obtain ⟨g, n⟩ := h.2 a.1
      have ecn : cnI q = cnI s := by unfold cnI; rw [a.2.2.2.1.2.2.1]
      rw [ecn, (a.2.2.2.2.1.sums h.1.2.2.2.2.2.2.1.2.2).2.1, a.2.2.1]
      have := n.2.2.2.2.2.2.1
      have := n.2.2.2.1.1
      omega)
    refine ok_bind (q_add N _ o 0) (fun r hr => ?_)
    have j3 := d.1.add hr (by omega) (by omega) (fun _ _ _ _ _ _ => IOK.fall (Or.inl ho))
    have f := hr.f32
    have pl := hr.pl
    refine hK r.2 (j3.w (by omega) (Int.le_refl _)) (fun z => ?_)
    obtain ⟨d1, d2, d3, d4, d5⟩ := d.2 (f.1.symm.trans z)
    have a := mq d1
    refine MOV.ex ⟨a.1, ⟨by rw [pl.1, d2]; exact a.2.1.1, by rw [pl.2, d3]; exact a.2.1.2⟩, ?_, (a.2.2.2.tr d5).tr hr.smr.x⟩
    have e : sgI r.2 = sgI (CS.setI q 34 ((q.i 34) - 1)) := by unfold sgI; rw [hr.smr.1.1]
    rw [e, d4, a.2.2.1]
    omega
  refine ok_ite (fun _ => ok_bind (hE p.2 j1 m1) (fun q hq => ?_)) (fun _ => tail p.2 j1 m1)
  exact tail q.2 (hq.1.w (by omega) (Int.le_refl _)) (fun z => by
    have a := hq.2 z
    exact (m1 a.1).tr a.mv)
theorem q_one {N : Nat} {H : HB} (hN : 1000 ≤ N) {k : Int} {E1 : CS → Option (Unit × CS)} {E2 : CS → Option (Int32 × CS)} (hE : EC H k E1) (hE2 : EC2 H k E2) (hk0 : 0 ≤ k) : EC2 H (k + 1) (f_X1_one N E1 E2) := by
  intro x y c X P lim s hx hy h hk
  unfold f_X1_one f_X1_one_66
  have h0 : ∀ v : Int32, ¬ v = 0 → s.i 43 = v → s.i 32 = 0 → ¬ s.i 43 = 0 := fun v hv e _ => by rw [e]; exact hv
  refine ok_ite (fun c1 => ?_) (fun _ => ok_ite (fun c2 => ?_) (fun _ => ok_ite (fun c3 => ?_) (fun _ => ok_ite (fun c4 => ?_) (fun _ => ?_))))
  · exact q_pre hN hx (by omega) h 33 5 (by decide) (by decide) (fun R hR hM => ok_imp (hE2 (x - 100) y c X P lim R (by omega) (by omega) hR (fun q => by
      have a := hM q
      have := hk a.1
      rw [a.2.2.1]; omega)) (fun T hT => ⟨hT.1.1.w (by omega) (Int.le_refl _), hT.1.2⟩)) (K := fun r => some ((0 : Int32), r)) (fun R hR hR2 => ok_some ⟨⟨hR, hR2⟩, Or.inl rfl⟩)
  · exact q_br hN h 91 93 (by decide) (by decide) (B := bo) (fun R hR hM => ok_imp (q_condition hN hE2 (x - 100) y c X P lim R (by omega) (by omega) hR (fun q => by
      have a := hM q
      have := hk a.1
      rw [a.2.2.1]; omega)) (fun T hT => ⟨⟨hT.1.1.w (by omega) (Int.le_refl _), hT.1.2⟩, hT.2⟩)) (K := fun _ r => some ((0 : Int32), r)) (fun a R _ hR hR2 => ok_some ⟨⟨hR.w (by omega) (Int.le_refl _), hR2⟩, Or.inl rfl⟩)
  · exact q_at hN hx (by omega) h (h0 222 (by decide) c3) 0 1 (by decide) (K := fun r => some ((1 : Int32), r)) (fun R hR hR2 => ok_some ⟨⟨hR, hR2⟩, Or.inr rfl⟩)
  · exact q_at hN hx (by omega) h (h0 223 (by decide) c4) 0 0 (by decide) (K := fun r => some ((0 : Int32), r)) (fun R hR hR2 => ok_some ⟨⟨hR, hR2⟩, Or.inl rfl⟩)
  · refine ok_bind (q_comparison (E2 := E2) hN hE x y c X P lim s hx (by omega) h (fun q => by have := hk q; omega)) (fun p hp => ok_some ⟨hp, Or.inl rfl⟩)
theorem q_find2 {N : Nat} {s : CS} (n0 : 0 ≤ nmI s ∧ nmI s ≤ 128) (nm : Int64) : ∀ (n : Nat) (x3 : Int32), 0 ≤ x3.toInt → x3.toInt ≤ 128 → 128 - x3.toInt < n → ok (f_X4_find_2 N n s nm x3) (fun R => R.2 = s ∧ (0 ≤ R.1 → 0 ≤ R.1.toInt ∧ R.1.toInt < nmI s))
  | 0, _, _, _, h => by omega
  | n + 1, x3, h0, h1, hn => by
    show ok (b_X4_find_2 N (f_X4_find_2 N n) s nm x3) _
    unfold b_X4_find_2 f_X4_find_38
    have e1 : (1 : Int32).toInt = 1 := by decide
    have e128 : (128 : Int32).toInt = 128 := by decide
    have m1 : ¬ (0 : Int32) ≤ -1 := by decide
    refine ok_ite (fun _ => ok_some ⟨rfl, fun q => absurd q m1⟩) (fun ca => ok_ite (fun _ => ok_some ⟨rfl, fun q => absurd q m1⟩) (fun cb => ?_))
    have l1 : x3.toInt < nmI s := lt_int (Int32.not_le.mp ca)
    have es : (x3 + 1).toInt = x3.toInt + 1 := by rw [toInt_add] <;> rw [e1] <;> omega
    exact ok_chk ⟨h0, by omega⟩ (ok_ite (fun _ => ok_some ⟨rfl, fun _ => ⟨h0, l1⟩⟩) (fun _ => q_find2 n0 nm n (x3 + 1) (by omega) (by omega) (by omega)))
theorem q_find {N : Nat} (hN : 1000 ≤ N) {s : CS} (n0 : 0 ≤ nmI s ∧ nmI s ≤ 128) (nm : Int64) : ok (f_X4_find N s nm) (fun R => R.2 = s ∧ (0 ≤ R.1 → 0 ≤ R.1.toInt ∧ R.1.toInt < nmI s)) := q_find2 n0 nm N 0 (by decide) (by decide) (by rw [z_t0]; omega)
theorem q_loadName {N : Nat} {H : HB} (hN : 1000 ≤ N) {x y : Int} {c : List Nat} {X : List (Nat × List Nat)} {P : List Nat} {lim : List Int} {s : CS} (hx : x ≤ 3900) (hy : y ≤ 90) (h : JJ H x y c X P lim s) (h0 : s.i 32 = 0 → ¬ s.i 43 = 0) : ok (f_X1_loadName N s) (fun R => JJ H (x - 50) y c X P lim R.2 ∧ (R.2.i 32 = 0 → EXR s R.2)) := by
  unfold f_X1_loadName f_X4_cellOf
  refine ok_bind (q_find hN h.1.2.2.2.2.2.1 s.l) (fun p hp => ?_)
  rw [hp.1]
  refine ok_ite (fun _ => ?_) (fun _ => ok_bind (q_failC h.1 3 _ (by decide)) (fun q hq => ok_some ⟨JJ.flt h.1 hq, fun z => absurd z hq.2.2.2.1⟩))
  exact q_at hN hx (by omega) h h0 1 _ (by decide) (K := fun r => some ((), r)) (fun R hR hR2 => ok_some ⟨hR, hR2⟩)
/-- all of factor but the switch that answers -/
theorem q_factor {N : Nat} {H : HB} (hN : 1000 ≤ N) {k : Int} {E1 : CS → Option (Unit × CS)} {E2 : CS → Option (Int32 × CS)} (hE : EC H k E1) (hC : ∀ (x y : Int) (c : List Nat) (X : List (Nat × List Nat)) (P : List Nat) (lim : List Int) (s : CS), x ≤ 3900 → y + 3 * k ≤ 87 ∧ 0 ≤ k → JJ H x y c X P lim s → (s.i 32 = 0 → 23 - sgI s ≤ k + 1) → s.i 43 = 218 → s.i 32 = 0 → ok (f_X1_choice N E1 E2 s) (fun R => JJ H (x - 50) y c X P lim R.2 ∧ (R.2.i 32 = 0 → EXR s R.2))) (hk0 : 0 ≤ k) : EC H (k + 1) (f_X1_factor N E1 E2) := by
  intro x y c X P lim s hx hy h hk
  unfold f_X1_factor f_X1_negated f_X1_negated_17
  have h0 : ∀ v : Int32, ¬ v = 0 → s.i 43 = v → s.i 32 = 0 → ¬ s.i 43 = 0 := fun v hv e _ => by rw [e]; exact hv
  refine ok_ite (fun c1 => ?_) (fun _ => ok_ite (fun c2 => ?_) (fun _ => ok_ite (fun c3 => ?_) (fun _ => ok_ite (fun c4 => ?_) (fun _ => ok_ite (fun c5 => ?_) (fun _ => ?_)))))
  · exact q_at hN hx (by omega) h (h0 1 (by decide) c1) 0 _ (by decide) (K := fun r => some ((), r)) (fun R hR hR2 => ok_some ⟨hR, hR2⟩)
  · exact ok_bind (q_loadName hN hx (by omega) h (h0 2 (by decide) c2)) (fun p hp => ok_some hp)
  · exact q_br hN h 40 41 (by decide) (by decide) (B := fun _ => True) (fun R hR hM => ok_imp (q_expression (E2 := E2) hN hE (x - 100) y c X P lim R (by omega) (by omega) hR (fun q => by
      have a := hM q
      have := hk a.1
      rw [a.2.2.1]; omega)) (fun T hT => ⟨⟨hT.1.w (by omega) (Int.le_refl _), hT.2⟩, True.intro⟩)) (K := fun _ r => some ((), r)) (fun a R _ hR hR2 => ok_some ⟨hR.w (by omega) (Int.le_refl _), hR2⟩)
  · refine ok_bind (Q := fun R => JJ H (x - 50) y c X P lim R.2 ∧ (R.2.i 32 = 0 → EXR s R.2)) ?_ (fun p hp => ok_some hp)
    exact q_pre hN hx (by omega) h 45 4 (by decide) (by decide) (fun R hR hM => ok_imp (hE (x - 100) y c X P lim R (by omega) (by omega) hR (fun q => by
      have a := hM q
      have := hk a.1
      rw [a.2.2.1]; omega)) (fun T hT => ⟨hT.1.w (by omega) (Int.le_refl _), hT.2⟩)) (K := fun r => some ((), r)) (fun R hR hR2 => ok_some ⟨hR, hR2⟩)
  · have nf : s.i 32 = 0 := by
      by_cases z : s.i 32 = 0
      · exact z
      · have := h.1.2.2.2.2.1 z
        rw [c5] at this
        exact absurd this (by decide)
    exact ok_bind (hC x y c X P lim s hx (by omega) h hk c5 nf) (fun p hp => ok_some hp)
  · exact ok_bind (q_misp h.1) (fun p hp => ok_some ⟨JJ.flt h.1 hp, fun z => absurd z hp.2.2.2.1⟩)
