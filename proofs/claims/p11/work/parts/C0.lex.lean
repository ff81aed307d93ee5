/-! reading: the lexer's part of the state -/
def fr (s : RS) : Int := (s.i 11).toInt
def op (s : RS) : Int := (s.i 19).toInt
/-- the lexer stands well -/
def LXI (s : RS) : Prop := 0 ≤ s.i 11 ∧ s.i 11 ≤ s.i 12 ∧ s.i 12 ≤ s.i 2 ∧ s.i 2 ≤ 900 ∧ (s.i 10 = 0 ∧ s.i 11 = s.i 2 ∨ s.i 10 ≠ 0 ∧ s.i 11 < s.i 12) ∧ (s.i 10 = 3 ∨ s.i 10 = 4 → 0 ≤ s.i 14 ∧ s.i 14 ≤ 7) ∧ (s.i 10 = 5 → 0 ≤ s.i 14 ∧ s.i 14 ≤ 11) ∧ (410 ≤ s.i 10 → s.i 11 + 2 ≤ s.i 12) ∧ s.i 10 ≤ 434 ∧ WD s ∧ (s.i 10 = 5 → s.i 11 + 2 ≤ s.i 12)
/-- only the lexer's numbers change; opened stands for itself -/
def LX (s t : RS) : Prop := t.a = s.a ∧ t.b = s.b ∧ (∀ j : Nat, j < 10 ∨ 18 ≤ j → j ≠ 19 → t.i j = s.i j) ∧ LXI t ∧ (t.i 15 = 0 → s.i 15 = 0) ∧ fr s ≤ fr t
theorem LX.rf {s : RS} (h : LXI s) : LX s s := ⟨rfl, rfl, fun _ _ _ => rfl, h, id, Int.le_refl _⟩
theorem LX.tr {s t u : RS} (h1 : LX s t) (h2 : LX t u) : LX s u := ⟨h2.1.trans h1.1, h2.2.1.trans h1.2.1, fun j a b => (h2.2.2.1 j a b).trans (h1.2.2.1 j a b), h2.2.2.2.1, fun z => h1.2.2.2.2.1 (h2.2.2.2.2.1 z), Int.le_trans h1.2.2.2.2.2 h2.2.2.2.2.2⟩
theorem LXI.f0 {s : RS} (h : LXI s) : 0 ≤ fr s ∧ fr s ≤ 900 := by
  have h1 := le_int h.1
  rw [z_t0] at h1
  have h2 := le_int h.2.1
  have h3 := le_int h.2.2.1
  have h4 := le_int h.2.2.2.1
  have e9 : (900 : Int32).toInt = 900 := by decide
  unfold fr
  omega
/-- at least d bytes went -/
def CN (s t : RS) : Prop := t.i 17 = s.i 17 + 1 ∧ fr s + 1 ≤ fr t ∧ (410 ≤ s.i 10 ∨ s.i 10 = 5 → fr s + 2 ≤ fr t)
theorem p_nx {N : Nat} (hN : 1000 ≤ N) {σ : RS} (h : LXI σ) : ok (f_X12_next N σ) (fun R => LX σ R ∧ R.i 19 = σ.i 19 ∧ (¬ σ.i 15 = 0 → R = σ) ∧ (σ.i 15 = 0 → R.i 15 = 0 ∧ (¬ σ.i 10 = 0 → CN σ R))) := by
  obtain ⟨a1, a2, a3, a4, a5, a6, a7, a8, a9, a10, a11⟩ := id h
  have h12 : 0 ≤ σ.i 12 := by grind
  refine ok_imp (p_next hN σ h12 a3 a4 a10) (fun R hR => ?_)
  rcases hR with ⟨c, rfl⟩ | ⟨c, hT, hf⟩
  · exact ⟨LX.rf h, rfl, fun _ => rfl, fun z => absurd z c⟩
  · obtain ⟨⟨u1, u2, u3⟩, t1, t2, t3, t4, t5, t6, t7, t8, t9⟩ := hT
    have e2 : R.i 2 = σ.i 2 := u1 2 (by decide) (by decide) (by decide) (by decide)
    have hf' := le_int hf
    have a2' := le_int a2
    have i15 : R.i 15 = 0 := (u1 15 (by decide) (by decide) (by decide) (by decide)).trans c
    have hW : WD R := fun k hk => by have := a10 k hk; rw [show R.b = σ.b from u3]; exact this
    refine ⟨⟨u2, u3, fun j hj h19 => (u1 j (by omega) (by omega) (by omega) (by omega)).trans (if_neg (by omega)), ⟨t1, t2, t3, by rw [e2]; exact a4, t4, t5, t6, t7, t8, hW, t9⟩, fun _ => c, ?_⟩, (u1 19 (by decide) (by decide) (by decide) (by decide)), fun z => absurd c z, fun _ => ⟨i15, fun hz => ⟨u1 17 (by decide) (by decide) (by decide) (by decide), ?_, fun hk => ?_⟩⟩⟩
    · unfold fr; omega
    · unfold fr
      rcases a5 with a5 | a5
      · exact absurd a5.1 hz
      · have := lt_int a5.2; omega
    · unfold fr
      have h9 : σ.i 11 + 2 ≤ σ.i 12 := by
        rcases hk with hk | hk
        · exact a8 hk
        · exact a11 hk
      have h1 := le_int a1
      have h3 := le_int a3
      have h4 := le_int a4
      rw [z_t0] at h1
      have e9 : (900 : Int32).toInt = 900 := by decide
      have e2' : (2 : Int32).toInt = 2 := by decide
      have es : (σ.i 11 + 2).toInt = (σ.i 11).toInt + 2 := by rw [toInt_add] <;> rw [e2'] <;> omega
      have := le_int h9
      omega
theorem LX.flt {σ : RS} (h : LXI σ) (x y : Int32) (hx : ¬ x = 0) : LX σ ((σ.setI 15 x).setI 16 y) := ⟨rfl, rfl, fun j hj _ => (if_neg (by omega)).trans (if_neg (by omega)), h, fun z => absurd z hx, Int.le_refl _⟩
theorem p_fl {N : Nat} {σ : RS} (h : LXI σ) (x y : Int32) (hx : ¬ x = 0) : ok (f_X12_fail N σ x y) (fun R => LX σ R ∧ ¬ R.i 15 = 0 ∧ R.i 19 = σ.i 19) := by
  rw [e_fail]
  refine ok_some ?_
  by_cases c : σ.i 15 = 0
  · rw [if_pos c]; exact ⟨LX.flt h x y hx, hx, rfl⟩
  · rw [if_neg c]; exact ⟨LX.rf h, c, rfl⟩
/-- can: either a fault, or nothing -/
theorem p_cn {N : Nat} {σ : RS} (h : LXI σ) (x : Int32) : ok (f_X12_can N σ x) (fun R => LX σ R.2 ∧ R.2.i 19 = σ.i 19 ∧ ((R.1 = 0 ∧ ¬ R.2.i 15 = 0) ∨ (R.1 = 1 ∧ R.2 = σ ∧ σ.i 15 = 0 ∧ ¬ x = 0))) := by
  rw [e_can]
  refine ok_some ?_
  by_cases c : σ.i 15 = 0
  · rw [if_neg (fun z => z c)]
    by_cases d : x = 0 ∨ σ.i 10 = 6
    · rw [if_pos d]
      have hx : ¬ (if σ.i 10 = 6 then (1 : Int32) else 2) = 0 := by
        by_cases e : σ.i 10 = 6
        · rw [if_pos e]; decide
        · rw [if_neg e]; decide
      exact ⟨LX.flt h _ _ hx, rfl, Or.inl ⟨rfl, hx⟩⟩
    · rw [if_neg d]
      exact ⟨LX.rf h, rfl, Or.inr ⟨rfl, rfl, c, fun z => d (Or.inl z)⟩⟩
  · rw [if_pos c]
    exact ⟨LX.rf h, rfl, Or.inl ⟨rfl, c⟩⟩
theorem p_nd {N : Nat} (hN : 1000 ≤ N) {σ : RS} (h : LXI σ) (x : Int32) (hx : ¬ x = 0) : ok (f_X12_need N σ x) (fun R => LX σ R.2 ∧ R.2.i 19 = σ.i 19 ∧ (R.1 = 0 ∧ ¬ R.2.i 15 = 0 ∨ R.1 = 1 ∧ R.2.i 15 = 0) ∧ (R.2.i 15 = 0 → σ.i 10 = x ∧ CN σ R.2)) := by
  unfold f_X12_need f_X12_need_27 f_X12_need_31
  have z31 : ∀ R : RS, LX σ R → R.i 19 = σ.i 19 → (R.i 15 = 0 → σ.i 10 = x ∧ CN σ R) → ok (if R.i 15 = 0 then some ((1 : Int32), R) else some (0, R)) (fun R => LX σ R.2 ∧ R.2.i 19 = σ.i 19 ∧ (R.1 = 0 ∧ ¬ R.2.i 15 = 0 ∨ R.1 = 1 ∧ R.2.i 15 = 0) ∧ (R.2.i 15 = 0 → σ.i 10 = x ∧ CN σ R.2)) := fun R h1 h2 h3 => ok_ite (fun c => ok_some ⟨h1, h2, Or.inr ⟨rfl, c⟩, h3⟩) (fun c => ok_some ⟨h1, h2, Or.inl ⟨rfl, c⟩, h3⟩)
  refine ok_ite (fun c => ok_ite (fun c2 => ?_) (fun c2 => ?_)) (fun c => z31 σ (LX.rf h) rfl (fun z => absurd z c))
  · refine ok_bind (p_cn h 1) (fun p hp => ?_)
    obtain ⟨p1, p2, p3⟩ := hp
    rcases p3 with ⟨p3, p4⟩ | ⟨p3, p4, p5, p6⟩
    · rw [if_pos p3]; exact z31 _ p1 p2 (fun z => absurd z p4)
    · rw [if_neg (by rw [p3]; decide), p4]
      refine ok_bind (p_nx hN h) (fun q hq => ?_)
      obtain ⟨q1, q2, q3, q4⟩ := hq
      exact z31 _ q1 q2 (fun _ => ⟨c2, (q4 c).2 (by rw [c2]; exact hx)⟩)
  · refine ok_bind (p_cn h 0) (fun p hp => ?_)
    obtain ⟨p1, p2, p3⟩ := hp
    rcases p3 with ⟨p3, p4⟩ | ⟨p3, p4, p5, p6⟩
    · rw [if_pos p3]; exact z31 _ p1 p2 (fun z => absurd z p4)
    · exact absurd rfl p6
theorem LX.i19 {s t : RS} (h : LX s t) (v : Int32) : LX s (t.setI 19 v) := ⟨h.1, h.2.1, fun j a b => (if_neg b).trans (h.2.2.1 j a b), h.2.2.2.1, h.2.2.2.2.1, h.2.2.2.2.2⟩
theorem p_os {N : Nat} {σ : RS} (h : LXI σ) : ok (f_X12_opens N σ) (fun R => LX σ R.2 ∧ (R.1 = 0 ∧ ¬ R.2.i 15 = 0 ∨ R.1 = 1 ∧ R.2.i 15 = 0) ∧ (R.2.i 15 = 0 → R.2.i 19 = σ.i 19 + 1 ∧ σ.i 19 + 1 ≤ 20 ∧ R.2 = σ.setI 19 (σ.i 19 + 1))) := by
  unfold f_X12_opens f_X12_opens_29
  refine ok_ite (fun c => ?_) (fun c => ?_)
  · exact ok_ite (fun c2 => ok_some ⟨(LX.rf h).i19 _, Or.inr ⟨rfl, c2⟩, fun _ => ⟨rfl, c, rfl⟩⟩) (fun c2 => ok_some ⟨(LX.rf h).i19 _, Or.inl ⟨rfl, c2⟩, fun z => absurd z c2⟩)
  · refine ok_bind (p_fl (σ := σ.setI 19 (σ.i 19 + 1)) ((LX.rf h).i19 _).2.2.2.1 6 (σ.i 11) (by decide)) (fun p hp => ?_)
    obtain ⟨p1, p2, p3⟩ := hp
    have hX : LX σ p := ((LX.rf h).i19 _).tr p1
    exact ok_ite (fun c2 => absurd c2 p2) (fun c2 => ok_some ⟨hX, Or.inl ⟨rfl, c2⟩, fun z => absurd z p2⟩)
theorem p_op {N : Nat} (hN : 1000 ≤ N) {σ : RS} (h : LXI σ) (x : Int32) (hx : ¬ x = 0) : ok (f_X12_open N σ x) (fun R => LX σ R.2 ∧ (R.1 = 0 ∧ ¬ R.2.i 15 = 0 ∨ R.1 = 1 ∧ R.2.i 15 = 0) ∧ (R.2.i 15 = 0 → σ.i 10 = x ∧ CN σ R.2 ∧ R.2.i 19 = σ.i 19 + 1 ∧ σ.i 19 + 1 ≤ 20)) := by
  unfold f_X12_open f_X12_open_27 f_X12_open_38
  have z31 : ∀ R : RS, LX σ R → (R.i 15 = 0 → σ.i 10 = x ∧ CN σ R ∧ R.i 19 = σ.i 19 + 1 ∧ σ.i 19 + 1 ≤ 20) → ok (if R.i 15 = 0 then some ((1 : Int32), R) else some (0, R)) (fun R => LX σ R.2 ∧ (R.1 = 0 ∧ ¬ R.2.i 15 = 0 ∨ R.1 = 1 ∧ R.2.i 15 = 0) ∧ (R.2.i 15 = 0 → σ.i 10 = x ∧ CN σ R.2 ∧ R.2.i 19 = σ.i 19 + 1 ∧ σ.i 19 + 1 ≤ 20)) := fun R h1 h3 => ok_ite (fun c => ok_some ⟨h1, Or.inr ⟨rfl, c⟩, h3⟩) (fun c => ok_some ⟨h1, Or.inl ⟨rfl, c⟩, h3⟩)
  refine ok_ite (fun c => ok_ite (fun c2 => ?_) (fun c2 => ?_)) (fun c => z31 σ (LX.rf h) (fun z => absurd z c))
  · refine ok_bind (p_cn h 1) (fun p hp => ?_)
    obtain ⟨p1, p2, p3⟩ := hp
    rcases p3 with ⟨p3, p4⟩ | ⟨p3, p4, p5, p6⟩
    · rw [if_pos p3]; exact z31 _ p1 (fun z => absurd z p4)
    · rw [if_neg (by rw [p3]; decide), p4]
      refine ok_bind (p_os h) (fun q hq => ?_)
      obtain ⟨q1, q2, q3⟩ := hq
      rcases q2 with ⟨q2, q4⟩ | ⟨q2, q4⟩
      · rw [if_pos q2]; exact z31 _ q1 (fun z => absurd z q4)
      · rw [if_neg (by rw [q2]; decide)]
        obtain ⟨q5, q6, q7⟩ := q3 q4
        refine ok_bind (p_nx hN q1.2.2.2.1) (fun r hr => ?_)
        obtain ⟨r1, r2, r3, r4⟩ := hr
        refine z31 _ (q1.tr r1) (fun _ => ⟨c2, ?_, r2.trans q5, q6⟩)
        have ht : q.2.i 10 = σ.i 10 := by rw [q7]; rfl
        have hc := (r4 q4).2 (by rw [ht, c2]; exact hx)
        obtain ⟨d1, d2, d3⟩ := hc
        have e17 : q.2.i 17 = σ.i 17 := by rw [q7]; rfl
        have e11 : fr q.2 = fr σ := by rw [q7]; rfl
        rw [e17] at d1
        rw [e11] at d2 d3
        rw [ht] at d3
        exact ⟨d1, d2, d3⟩
  · refine ok_bind (p_cn h 0) (fun p hp => ?_)
    obtain ⟨p1, p2, p3⟩ := hp
    rcases p3 with ⟨p3, p4⟩ | ⟨p3, p4, p5, p6⟩
    · rw [if_pos p3]; exact z31 _ p1 (fun z => absurd z p4)
    · exact absurd rfl p6
theorem p_sh {N : Nat} (hN : 1000 ≤ N) {σ : RS} (h : LXI σ) (x : Int32) (hx : ¬ x = 0) : ok (f_X12_shut N σ x) (fun R => LX σ R.2 ∧ (R.1 = 0 ∧ ¬ R.2.i 15 = 0 ∨ R.1 = 1 ∧ R.2.i 15 = 0) ∧ (R.2.i 15 = 0 → σ.i 10 = x ∧ CN σ R.2 ∧ R.2.i 19 = σ.i 19 - 1)) := by
  unfold f_X12_shut f_X12_shut_18
  refine ok_bind (p_nd hN h x hx) (fun p hp => ?_)
  obtain ⟨p1, p2, p3, p4⟩ := hp
  refine ok_ite (fun c => ?_) (fun c => ?_)
  · rcases p3 with ⟨-, p3⟩ | ⟨p5, p3⟩
    · rw [if_neg p3]; exact ok_some ⟨p1, Or.inl ⟨rfl, p3⟩, fun z => absurd z p3⟩
    · rw [p5] at c; exact absurd c (by decide)
  · rcases p3 with ⟨p5, p3⟩ | ⟨p5, p3⟩
    · exact absurd p5 c
    · have h15 : (p.2.setI 19 (p.2.i 19 - 1)).i 15 = 0 := p3
      rw [if_pos h15]
      obtain ⟨q1, q2⟩ := p4 p3
      exact ok_some ⟨p1.i19 _, Or.inr ⟨rfl, p3⟩, fun _ => ⟨q1, q2, by show p.2.i 19 - 1 = _; rw [p2]⟩⟩
