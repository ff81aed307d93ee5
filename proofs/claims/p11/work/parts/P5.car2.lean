/-! the class's reading: choices -/
theorem q_arm70 {N : Nat} {H : HB} (hN : 10000000000 ≤ N) {k : Int} {E1 : CS → Option (Unit × CS)} {E2 : CS → Option (Int32 × CS)} (hE : EC H k E1) (hB : ABC H k (f_X7_armBlock N E1 E2)) {x y : Int} {c : List Nat} {X : List (Nat × List Nat)} {P : List Nat} {lim : List Int} {s0 s : CS} {b : Nat} {x1 x3 x4 x5 : Int32} (hx : x ≤ 3900) (hy : y + 3 * k ≤ 87 ∧ 0 ≤ k) (h0 : S0F s0) (hk : 22 - sgI s0 ≤ k) (h1 : x1 = s0.i 22) (h3 : s.i 32 = 0 → ∃ m : Nat, x3.toInt = (m : Int) ∧ (m, c) ∈ X) (h4 : s.i 32 = 0 → x4.toInt = (b : Int) ∧ (b, c) ∈ X) : ∀ (n : Nat) (σ : CS) (x6 : Int32), 0 ≤ x6.toInt → x6.toInt ≤ 900 → 900 - x6.toInt < n → JJ H x y c X (b :: P) lim σ → (σ.i 32 = 0 → s.i 32 = 0 ∧ CHS c X s0 σ 11) → ok (f_X1_arm_70 N E1 E2 n σ x1 x3 x4 x5 x6) (fun R => (JJ H x y c X P lim R.2 ∧ (R.2.i 32 = 0 → s.i 32 = 0 ∧ CHS c X s0 R.2 8)) ∧ R.1 = x5)
  | 0, _, _, _, _, h, _, _ => by omega
  | n + 1, σ, x6, z0, z9, hn, hj, hc => by
    show ok (b_X1_arm_70 N E1 E2 (f_X1_arm_70 N E1 E2 n) σ x1 x3 x4 x5 x6) _
    unfold b_X1_arm_70
    have hN1 : 1000 ≤ N := by omega
    have e9 : (900 : Int32).toInt = 900 := by decide
    have e1 : (1 : Int32).toInt = 1 := by decide
    have out : ok (f_X1_arm_100 N E1 E2 σ x3 x4 x5) (fun R => (JJ H x y c X P lim R.2 ∧ (R.2.i 32 = 0 → s.i 32 = 0 ∧ CHS c X s0 R.2 8)) ∧ R.1 = x5) := ok_imp (q_arm100 hN1 hE hB hx hy h0 hk hj (fun q => h3 (hc q).1) (fun q => h4 (hc q).1) (fun q => (hc q).2.w (by omega) (fun _ h => h))) (fun R hR => ⟨⟨hR.1.1, fun q => ⟨(hc (hR.1.2 q).1).1, (hR.1.2 q).2⟩⟩, hR.2⟩)
    refine ok_ite (fun _ => out) (fun c9 => ?_)
    have l : x6.toInt < 900 := by
      have := lt_int (Int32.not_le.mp c9)
      rw [e9] at this; exact this
    have es : (x6 + 1).toInt = x6.toInt + 1 := by rw [toInt_add] <;> rw [e1] <;> omega
    refine ok_bind (q_skip hN1 hj.1 44) (fun p hp => ?_)
    rcases hp with ⟨p1, p2, p3⟩ | ⟨p1, p2, p3⟩
    · rw [if_pos p1, p2]; exact out
    rw [p1, if_neg (by decide)]
    obtain ⟨j, e⟩ := hj.tk p3 (fun _ => by rw [p2]; decide)
    have ch : p.2.i 32 = 0 → s.i 32 = 0 ∧ CHS c X s0 p.2 12 := fun q => by
      have ex := e q
      exact ⟨(hc ex.1).1, (hc ex.1).2.go ex.2.2 (d := 1) (by omega) ex.2.1.1 ex.2.1.2⟩
    have x1e : x1.toInt = ccI s0 := by rw [h1]; rfl
    refine ok_bind (q_caseNumber hN (by omega) (by omega) j x1 x4 (fun R hR => ?_)) (fun r hr => ?_)
    · have w := (ch hR.1).2
      have kd := (KD.le p.2 (ccI s0) (ccI p.2)).2
      have n3 := w.2.2.2.1.2.2
      have n4 := h0.2.2.2.2
      have n5 := hR.2.1.1
      omega
    refine q_arm70 hN hE hB hx hy h0 hk h1 h3 h4 n r.2 (x6 + 1) (by omega) (by omega) (by omega) (hr.1.w (by omega) (Int.le_refl _)) (fun q => ?_)
    have w := hr.2 q
    rw [x1e] at w
    have v := ch w.1
    exact ⟨v.1, v.2.val h0.2.2.2.1 w ⟨b, h4 v.1⟩⟩
/-- an arm -/
theorem q_arm {N : Nat} {H : HB} (hN : 10000000000 ≤ N) {k : Int} {E1 : CS → Option (Unit × CS)} {E2 : CS → Option (Int32 × CS)} (hE : EC H k E1) (hB : ABC H k (f_X7_armBlock N E1 E2)) {x y : Int} {c : List Nat} {X : List (Nat × List Nat)} {P : List Nat} {lim : List Int} {s0 s : CS} {x1 x2 x3 : Int32} (hx : x ≤ 3900) (hy : y + 3 * k ≤ 87 ∧ 0 ≤ k) (h0 : S0F s0) (hk : 22 - sgI s0 ≤ k) (h1 : x1 = s0.i 22) (h : JJ H x y c X P lim s) (nf : s.i 32 = 0) (ht : s.i 43 = 219 ∨ s.i 43 = 220) (h2 : x2.toInt < 0 ∨ ∃ m : Nat, x2.toInt = (m : Int) ∧ (m, c) ∈ X) (h3 : ∃ m : Nat, x3.toInt = (m : Int) ∧ (m, c) ∈ X) (hc : CHS c X s0 s 8) : ok (f_X1_arm N E1 E2 s x1 x2 x3) (fun R => ∃ X' : List (Nat × List Nat), (∀ q ∈ X, q ∈ X') ∧ JJ H x y c X' P lim R.2 ∧ (R.2.i 32 = 0 → CHS c X' s0 R.2 8 ∧ (R.1.toInt < 0 ∨ ∃ m : Nat, R.1.toInt = (m : Int) ∧ (m, c) ∈ X'))) := by
  have hN1 : 1000 ≤ N := by omega
  unfold f_X1_arm f_X1_arm_39
  refine ok_bind (q_newTarget N s) (fun p hp => ?_)
  obtain ⟨t1, t2⟩ := hp
  have f := t1.f
  have j2 := h.new t1 (by omega) (by omega) c
  have tc := (h.2 nf).1.tc0.1
  obtain ⟨b, hb⟩ : ∃ b, b = (tcI s).toNat := ⟨_, rfl⟩
  rw [← hb] at j2
  have e4 : p.1.toInt = (b : Int) := by rw [t2]; show tcI s = _; omega
  have pf : p.2.i 32 = 0 := f.1.trans nf
  have hX : ∀ q ∈ X, q ∈ (b, c) :: X := fun q hq => List.mem_cons_of_mem _ hq
  have ch : CHS c ((b, c) :: X) s0 p.2 8 := by
    have := hc.go t1.smr (d := 0) (by omega) (by rw [f.2.2.1]; omega) (by rw [f.2.2.2]; exact Int.le_refl _)
    exact this.w (by omega) hX
  have bX : (b, c) ∈ (b, c) :: X := List.mem_cons_self ..
  have h3' : ∃ m : Nat, x3.toInt = (m : Int) ∧ (m, c) ∈ (b, c) :: X := by
    obtain ⟨m, m1, m2⟩ := h3
    exact ⟨m, m1, hX _ m2⟩
  have pt : p.2.i 43 = 219 ∨ p.2.i 43 = 220 := by rw [f.2.1]; exact ht
  have x1e : x1.toInt = ccI s0 := by rw [h1]; rfl
  -- a word is taken
  have adv : ∀ q : CS, ADV p.2 q → JJ H (x - 100) y c ((b, c) :: X) (b :: P) lim q ∧ (q.i 32 = 0 → CHS c ((b, c) :: X) s0 q 9) ∧ (p.2.i 43 = 219 → q.i 32 = 0 → CHS c ((b, c) :: X) s0 q 12) := fun q hq => by
    have gn := hq.gain j2.1.2.2.1
    have w200 : 200 ≤ (p.2.i 43).toInt := by rcases pt with e | e <;> rw [e] <;> decide
    have g5 := gn.2.2.2.2.1 (Or.inl w200)
    have ee : eI p.2 = plI p.2 := by
      unfold eI
      rw [if_pos (Or.inr w200)]; omega
    refine ⟨j2.adv hq (fun _ => ⟨by omega, by omega⟩), fun _ => ?_, fun e _ => ?_⟩
    · have := ch.go hq.smr (d := 1) (by omega) (by omega) (by omega)
      exact this
    · have g7 := gn.2.2.2.2.2.2 (Or.inr e)
      have := ch.go hq.smr (d := 4) (by omega) (by omega) (by omega)
      exact this
  refine ok_bind (q_found p.2 220) (fun q hq => ?_)
  obtain ⟨q1, q2⟩ := hq
  rw [q1]
  rcases q2 with ⟨q2, q3⟩ | ⟨q2, q3⟩
  · rw [if_pos q2]
    have p9 : p.2.i 43 = 219 := pt.resolve_right q3
    refine ok_bind (q_advC hN1 j2.1) (fun a ha => ?_)
    obtain ⟨a1, -, a3⟩ := adv a.2 ha
    refine ok_bind (q_caseNumber hN (by omega) (by omega) a1 x1 p.1 (fun R hR => ?_)) (fun r hr => ?_)
    · have w := a3 p9 hR.1
      have kd := (KD.le a.2 (ccI s0) (ccI a.2)).2
      have n3 := w.2.2.2.1.2.2
      have n4 := h0.2.2.2.2
      have n5 := hR.2.1.1
      omega
    refine ok_imp (q_arm70 (s := s) hN hE hB (x := x - 150) (by omega) (by omega) h0 hk h1 (fun _ => h3') (fun _ => ⟨e4, bX⟩) N r.2 0 (by decide) (by decide) (by rw [z_t0]; omega) (hr.1.w (by omega) (Int.le_refl _)) (fun z => ?_)) (fun R hR => ⟨(b, c) :: X, hX, hR.1.1.w (by omega) (Int.le_refl _), fun z => ⟨(hR.1.2 z).2, ?_⟩⟩)
    · have w := hr.2 z
      rw [x1e] at w
      exact ⟨nf, (a3 p9 w.1).val h0.2.2.2.1 w ⟨b, e4, bX⟩⟩
    · rw [hR.2]
      rcases h2 with h2 | ⟨m, m1, m2⟩
      · exact Or.inl h2
      · exact Or.inr ⟨m, m1, hX _ m2⟩
  · rw [q2, if_neg (by decide)]
    have fin : ∀ u : CS, JJ H (x - 100) y c ((b, c) :: X) (b :: P) lim u → (u.i 32 = 0 → CHS c ((b, c) :: X) s0 u 8) → ok (f_X1_arm_100 N E1 E2 u x3 p.1 p.1) (fun R => ∃ X' : List (Nat × List Nat), (∀ q ∈ X, q ∈ X') ∧ JJ H x y c X' P lim R.2 ∧ (R.2.i 32 = 0 → CHS c X' s0 R.2 8 ∧ (R.1.toInt < 0 ∨ ∃ m : Nat, R.1.toInt = (m : Int) ∧ (m, c) ∈ X'))) := fun u hu hs =>
      ok_imp (q_arm100 hN1 hE hB (by omega) (by omega) h0 hk hu (fun _ => h3') (fun _ => ⟨e4, bX⟩) hs) (fun R hR => ⟨(b, c) :: X, hX, hR.1.1.w (by omega) (Int.le_refl _), fun z => ⟨(hR.1.2 z).2, Or.inr ⟨b, by rw [hR.2]; exact e4, bX⟩⟩⟩)
    refine ok_ite (fun _ => ?_) (fun _ => ?_)
    · refine ok_bind (q_advC hN1 j2.1) (fun a ha => ?_)
      obtain ⟨a1, a2, -⟩ := adv a.2 ha
      exact fin a.2 a1 (fun z => (a2 z).w (by omega) (fun _ h => h))
    · refine ok_bind (q_failC j2.1 4 _ (by decide)) (fun g hg => ?_)
      have jg : JJ H x y c ((b, c) :: X) (b :: P) lim g.2 := JJ.flt j2.1 hg
      refine ok_bind (q_advC hN1 jg.1) (fun a ha => ?_)
      have af : ¬ a.2.i 32 = 0 := fun z => hg.2.2.2.1 (ha.f32.symm.trans z)
      exact fin a.2 (jg.adv ha (fun z => absurd z hg.2.2.2.1)) (fun z => absurd z af)
