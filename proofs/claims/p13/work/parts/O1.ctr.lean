section
/-! the class's tokens: one token -/
/-- so many letters and digits are taken -/
def TRI (s X : CS) (m : Nat) : Prop := TKC s X ∧ X.i 43 = s.i 43 ∧ X.i 44 = s.i 44 ∧ (X.i 42).toInt = (s.i 42).toInt + m ∧ (s.i 42).toInt + m ≤ (s.i 41).toInt ∧ (m = 0 → X.l = 0) ∧ (m = 1 → X.l = (BY s (s.i 42)).toInt64) ∧ (m = 2 → 0 ≤ X.l.toInt ∧ X.l.toInt < 65536) ∧ (m = 3 → X.l.toInt < 16777216)
theorem AB.r {s : CS} {x : Int32} (h : AB s x) : 48 ≤ (BY s x).toInt ∧ (BY s x).toInt ≤ 122 := by
  unfold AB isDg isLt at h; omega
theorem TRI.step {s X : CS} {m : Nat} {b : Int32} (h9 : (s.i 41).toInt ≤ 900) (h0 : 0 ≤ (s.i 42).toInt) (hf : AB s (s.i 42)) (h : TRI s X m) (hb : b = BY s (X.i 42)) (hab : AB s (X.i 42)) : TRI s (CS.setI (CS.setL X ((X.l <<< ((8 : Int32).toInt64 &&& 63)) ||| b.toInt64)) 42 ((X.i 42) + 1)) (m + 1) := by
  obtain ⟨a1, a2, a3, a4, a5, a6, a7, a8, a9⟩ := h
  have e1 : (1 : Int32).toInt = 1 := by decide
  have es : (X.i 42 + 1).toInt = (X.i 42).toInt + 1 := by rw [toInt_add] <;> rw [e1] <;> omega
  have rg := BY.dg (s := s) (x := X.i 42) hab
  refine ⟨(a1.l _).i 42 _ (by omega), ?_, ?_, ?_, by omega, fun q => by omega, fun q => ?_, fun q => ?_, fun q => ?_⟩
  · rw [ci_ne _ _ _ (by decide), ci_setL]; exact a2
  · rw [ci_ne _ _ _ (by decide), ci_setL]; exact a3
  · rw [ci_at, es, a4]; omega
  · have m0 : m = 0 := by omega
    rw [cl_setI]
    show (X.l <<< ((8 : Int32).toInt64 &&& 63)) ||| b.toInt64 = _
    rw [a6 m0]
    have ei : X.i 42 = s.i 42 := Int32.toInt_inj.mp (by rw [a4, m0]; omega)
    rw [hb, ei]
    have : (0 : Int64) <<< ((8 : Int32).toInt64 &&& 63) = 0 := by decide
    rw [this]
    exact Int64.zero_or
  · have m1 : m = 1 := by omega
    rw [cl_setI]
    show 0 ≤ ((X.l <<< ((8 : Int32).toInt64 &&& 63)) ||| b.toInt64).toInt ∧ ((X.l <<< ((8 : Int32).toInt64 &&& 63)) ||| b.toInt64).toInt < 65536
    rw [a7 m1, hb]
    have e6 : (65536 : Int64).toInt = 65536 := by decide
    have g := Int64.lt_iff_toInt_lt.mp (sh8_1 _ _ hf.r hab.r)
    rw [e6] at g
    have f := hf.r
    have ef : (BY s (s.i 42)).toInt64.toInt = (BY s (s.i 42)).toInt := Int32.toInt_toInt64 _
    exact ⟨(sh8_2 _ _ (by omega) hab.r).1, g⟩
  · have m2 : m = 2 := by omega
    rw [cl_setI]
    show ((X.l <<< ((8 : Int32).toInt64 &&& 63)) ||| b.toInt64).toInt < 16777216
    rw [hb]
    exact (sh8_2 _ _ (a8 m2) hab.r).2
/-- behind a token that is a row of letters and digits -/
def TOK9 (s R : CS) : Prop := TKC s R ∧ LC R ∧ R.i 44 = s.i 44 ∧ ¬ R.i 43 = 0
theorem q_tr79 {N : Nat} (hN : 1000 ≤ N) {s X : CS} {m : Nat} (hw : WDC s) (h9 : 0 ≤ (s.i 41).toInt ∧ (s.i 41).toInt ≤ 900) (h0 : 0 ≤ (s.i 42).toInt) (e44 : s.i 44 = s.i 42) (hl : isLt (BY s (s.i 42))) (h : TRI s X m) (hm : 1 ≤ m) (hx : ¬ AB s (X.i 42)) : ok (f_X9_takeRow_79 N X) (fun R => TOK9 s R.2) := by
  obtain ⟨a1, a2, a3, a4, a5, a6, a7, a8, a9⟩ := h
  have ez : (X.i 42 - X.i 44).toInt = (m : Int) := by
    rw [a3, e44, toInt_sub] <;> omega
  have e8 : (8 : Int32).toInt = 8 := by decide
  have fin : ∀ (Y : CS) (t : Int32), RTS X Y → (RTY X (X.i 42 - X.i 44) t ∨ t = 6) → TOK9 s (CS.setI Y 43 t) := fun Y t hY ht => by
    obtain ⟨y1, y2, y3, y4, y5⟩ := hY
    have tk : TKC s (CS.setI Y 43 t) := (a1.tr y1).i 43 t (by omega)
    have i41 : (CS.setI Y 43 t).i 41 = s.i 41 := tk.2 41 (by decide) (by decide) (by decide) (by decide)
    have i42 : (CS.setI Y 43 t).i 42 = X.i 42 := by rw [ci_ne _ _ _ (by decide)]; exact y3
    have i43 : (CS.setI Y 43 t).i 43 = t := ci_at _ _ _
    have i44 : (CS.setI Y 43 t).i 44 = s.i 42 := by rw [ci_ne _ _ _ (by decide), y5, a3, e44]
    have il : (CS.setI Y 43 t).l = X.l := by rw [cl_setI]; exact y2
    have by' : ∀ x : Int32, AB (CS.setI Y 43 t) x = AB s x := fun x => by unfold AB; rw [tk.by]
    have t0 : ¬ t = 0 := fun q => by
      rcases ht with (z | z | ⟨k, z1, z2, z3⟩) | z
      · rw [z] at q; exact absurd q (by decide)
      · rcases z.1 with y | y | y <;> rw [y] at q <;> exact absurd q (by decide)
      · rw [q, z_t0] at z2; omega
      · rw [z] at q; exact absurd q (by decide)
    have wl : ∀ k : Nat, k < 25 → X.b 40 k = X.l → 256 ≤ X.l ∧ (k = 18 ∨ k = 19 → 16777216 ≤ X.l) := fun k hk e => by
      have eb : X.b 40 = s.b 40 := by rw [a1.1.2.2.2.2.2.2.2.2.2.1]
      rw [← e, eb]
      exact ⟨hw.1 k hk, fun q => by
        rcases q with q | q
        · rw [q]; exact hw.2.1
        · rw [q]; exact hw.2.2⟩
    have l1 : m = 1 → X.l.toInt = (BY s (s.i 42)).toInt := fun q => by rw [a7 q]; exact Int32.toInt_toInt64 _
    have n1 : 256 ≤ X.l → 2 ≤ m := fun q => by
      by_cases c : m = 1
      · have := l1 c
        have q' := Int64.le_iff_toInt_le.mp q
        have e : (256 : Int64).toInt = 256 := by decide
        have := hl.2
        omega
      · omega
    generalize CS.setI Y 43 t = T at *
    refine ⟨tk, ⟨by rw [i41]; exact h9, ⟨by rw [i44]; exact h0, by rw [i44, i42]; omega, by rw [i42, i41]; omega⟩, fun q => absurd (i43.symm.trans q) t0, fun _ => by rw [i44, i42]; omega, ⟨fun _ => by rw [by', i44]; exact Or.inr hl, fun _ => by rw [by', i42]; exact hx⟩, fun q => ?_, fun q => ?_, fun q q2 => ?_, fun q => ?_⟩, by rw [i44]; exact e44.symm, fun q => t0 (i43.symm.trans q)⟩
    · rw [i43] at q
      rw [i44, i42]
      have m2 : 2 ≤ m := by
        rcases ht with (z | z | ⟨k, z1, z2, z3⟩) | z
        · have : (2 : Int32).toInt = 2 := by decide
          rw [z, this] at q; omega
        · rcases z.2 with y | y
          · have : (2 : Int32).toInt = 2 := by decide
            rw [y, this] at ez; omega
          · have : (3 : Int32).toInt = 3 := by decide
            rw [y, this] at ez; omega
        · exact n1 (wl k z1 z3).1
        · have : (6 : Int32).toInt = 6 := by decide
          rw [z, this] at q; omega
      omega
    · have q : t.toInt = 218 ∨ t.toInt = 219 := by
        rcases q with q | q
        · left; rw [← i43, q]; decide
        · right; rw [← i43, q]; decide
      rw [i44, i42]
      have m3 : 4 ≤ m := by
        rcases ht with (z | z | ⟨k, z1, z2, z3⟩) | z
        · rw [z] at q; exact absurd q (by decide)
        · rcases z.1 with y | y | y <;> rw [y] at q <;> exact absurd q (by decide)
        · have k18 : k = 18 ∨ k = 19 := by omega
          have w := wl k z1 z3
          have m2 := n1 w.1
          have g := Int64.le_iff_toInt_le.mp (w.2 k18)
          have e7 : (16777216 : Int64).toInt = 16777216 := by decide
          rw [e7] at g
          by_cases c : m = 2
          · have g2 := (a8 c).2
            omega
          · by_cases c3 : m = 3
            · have g2 := a9 c3
              omega
            · omega
        · rw [z] at q; exact absurd q (by decide)
      omega
    · rw [i44, i42] at q2
      rw [il, l1 (by omega)]
      exact hl
    · have q : t = 1 := i43.symm.trans q
      rcases ht with (z | z | ⟨k, z1, z2, z3⟩) | z
      · rw [z] at q; exact absurd q (by decide)
      · rcases z.1 with y | y | y <;> rw [y] at q <;> exact absurd q (by decide)
      · have : (1 : Int32).toInt = 1 := by decide
        rw [q, this] at z2; omega
      · rw [z] at q; exact absurd q (by decide)
  unfold f_X9_takeRow_79
  refine ok_ite (fun _ => ok_bind (q_rt hN _) (fun p hp => ok_some ?_)) (fun _ => ok_some ?_)
  · exact fin p.2 p.1 hp.1 (Or.inl hp.2)
  · exact fin X 6 (RTS.rf X) (Or.inr rfl)
theorem q_tr7 {N : Nat} (hN : 1000 ≤ N) {s : CS} (hw : WDC s) (h9 : 0 ≤ (s.i 41).toInt ∧ (s.i 41).toInt ≤ 900) (h0 : 0 ≤ (s.i 42).toInt) (e44 : s.i 44 = s.i 42) (hl : isLt (BY s (s.i 42))) : ∀ (n : Nat) (X : CS) (m : Nat) (x1 : Int32), TRI s X m → x1.toInt = (m : Int) → 900 - (m : Int) < n → ok (f_X9_takeRow_7 N n X x1) (fun R => TOK9 s R.2)
  | 0, X, m, x1, h, hx, hn => by
    have := h.2.2.2.2.1
    omega
  | n + 1, X, m, x1, h, hx, hn => by
    show ok (b_X9_takeRow_7 N (f_X9_takeRow_7 N n) X x1) _
    unfold b_X9_takeRow_7
    have e9 : (900 : Int32).toInt = 900 := by decide
    have e1 : (1 : Int32).toInt = 1 := by decide
    have tk := h.1
    have a4 := h.2.2.2.1
    have a5 := h.2.2.2.2.1
    have hf : AB s (s.i 42) := Or.inr hl
    have m1 : ¬ AB s (X.i 42) → 1 ≤ m := fun q => by
      by_cases c : m = 0
      · exfalso
        have : X.i 42 = s.i 42 := Int32.toInt_inj.mp (by rw [a4, c]; omega)
        rw [this] at q
        exact q hf
      · omega
    refine ok_ite (fun c => ?_) (fun c => ?_)
    · have := le_int c
      refine q_tr79 hN hw h9 h0 e44 hl h (by omega) (fun q => ?_)
      have := BY.dg q
      omega
    have l9 : x1.toInt < 900 := by
      have := lt_int (Int32.not_le.mp c)
      rw [e9] at this; exact this
    have es : (x1 + 1).toInt = x1.toInt + 1 := by rw [toInt_add] <;> rw [e1] <;> omega
    refine ok_bind (q_by _) (fun p7 h7 => ok_bind (q_dg _) (fun p11 h11 => ?_))
    rw [h7.1] at h11
    rw [h7.2, tk.by] at h11
    obtain ⟨d1, d2, d3⟩ := h11
    have nxt : ∀ (Y : CS) (b : Int32), Y = X → b = BY s (X.i 42) → AB s (X.i 42) → ok (f_X9_takeRow_7 N n (CS.setI (CS.setL Y ((Y.l <<< ((8 : Int32).toInt64 &&& 63)) ||| b.toInt64)) 42 ((Y.i 42) + 1)) (x1 + 1)) (fun R => TOK9 s R.2) := fun Y b hY hb hab => by
      rw [hY]
      exact q_tr7 hN hw h9 h0 e44 hl n _ (m + 1) (x1 + 1) (h.step h9.2 h0 hf hb hab) (by omega) (by omega)
    refine ok_ite (fun c11 => ?_) (fun c11 => ?_)
    · rw [d1]
      refine ok_bind (q_by _) (fun p20 h20 => ok_bind (q_lt _) (fun p24 h24 => ?_))
      rw [h20.1] at h24
      rw [h20.2, tk.by] at h24
      obtain ⟨g1, g2, g3⟩ := h24
      refine ok_ite (fun c24 => ?_) (fun c24 => ?_)
      · rw [g1]
        have na : ¬ AB s (X.i 42) := fun q => by
          rcases q with q | q
          · exact d3 c11 q
          · exact g3 c24 q
        exact q_tr79 hN hw h9 h0 e44 hl h (m1 na) na
      · rw [g1]
        refine ok_bind (q_by _) (fun p29 h29 => ?_)
        rw [h29.1]
        exact nxt X p29.1 rfl (by rw [h29.2, tk.by]) (Or.inr (g2 c24))
    · rw [d1]
      refine ok_bind (q_by _) (fun p16 h16 => ?_)
      rw [h16.1]
      exact nxt X p16.1 rfl (by rw [h16.2, tk.by]) (Or.inl (d2 c11))
theorem q_takeRow {N : Nat} (hN : 1000 ≤ N) {s : CS} (hw : WDC s) (h9 : 0 ≤ (s.i 41).toInt ∧ (s.i 41).toInt ≤ 900) (h0 : 0 ≤ (s.i 42).toInt) (e44 : s.i 44 = s.i 42) (hl : isLt (BY s (s.i 42))) : ok (f_X9_takeRow N s) (fun R => TOK9 s R.2) := by
  unfold f_X9_takeRow
  have rg := BY.dg (s := s) (x := s.i 42) (Or.inr hl)
  refine q_tr7 hN hw h9 h0 e44 hl N _ 0 0 ⟨(TKC.rf s).l 0, rfl, rfl, by show (s.i 42).toInt = _; omega, by omega, fun _ => rfl, fun q => by omega, fun q => by omega, fun q => by omega⟩ (by decide) (by omega)
/-- so many digits are taken -/
def TNI (s X : CS) (m : Nat) : Prop := TKC s X ∧ X.i 44 = s.i 44 ∧ (X.i 42).toInt = (s.i 42).toInt + m ∧ (s.i 42).toInt + m ≤ (s.i 41).toInt ∧ (m = 0 → X.i 45 = 0) ∧ (m = 1 → 0 ≤ (X.i 45).toInt ∧ (X.i 45).toInt ≤ 9)
theorem q_tn67 {N : Nat} {s X : CS} {m : Nat} (h9 : 0 ≤ (s.i 41).toInt ∧ (s.i 41).toInt ≤ 900) (h0 : 0 ≤ (s.i 42).toInt) (e44 : s.i 44 = s.i 42) (hl : isDg (BY s (s.i 42))) (h : TNI s X m) (hm : 1 ≤ m) : ok (f_X9_takeNumber_67 N X) (fun R => TOK9 s R.2) := by
  obtain ⟨a1, a3, a4, a5, a6, a7⟩ := h
  have fin : ∀ t : Int32, (t = 1 ∨ t = 6) → TOK9 s (CS.setI X 43 t) := fun t ht => by
    have tk : TKC s (CS.setI X 43 t) := a1.i 43 t (by omega)
    have i41 : (CS.setI X 43 t).i 41 = s.i 41 := tk.2 41 (by decide) (by decide) (by decide) (by decide)
    have i42 : (CS.setI X 43 t).i 42 = X.i 42 := ci_ne _ _ _ (by decide)
    have i43 : (CS.setI X 43 t).i 43 = t := ci_at _ _ _
    have i44 : (CS.setI X 43 t).i 44 = s.i 42 := by rw [ci_ne _ _ _ (by decide), a3, e44]
    have i45 : (CS.setI X 43 t).i 45 = X.i 45 := ci_ne _ _ _ (by decide)
    have by' : ∀ x : Int32, AB (CS.setI X 43 t) x = AB s x := fun x => by unfold AB; rw [tk.by]
    have t1 : (1 : Int32).toInt = 1 := by decide
    have t6 : (6 : Int32).toInt = 6 := by decide
    have tt : t.toInt = 1 ∨ t.toInt = 6 := by
      rcases ht with q | q
      · left; rw [q, t1]
      · right; rw [q, t6]
    have t0 : ¬ t = 0 := fun q => by rw [q, z_t0] at tt; omega
    generalize CS.setI X 43 t = T at *
    refine ⟨tk, ⟨by rw [i41]; exact h9, ⟨by rw [i44]; exact h0, by rw [i44, i42]; omega, by rw [i42, i41]; omega⟩, fun q => absurd (i43.symm.trans q) t0, fun _ => by rw [i44, i42]; omega, ⟨fun _ => by rw [by', i44]; exact Or.inl hl, fun q => ?_⟩, fun q => ?_, fun q => ?_, fun q => ?_, fun _ q2 => ?_⟩, by rw [i44]; exact e44.symm, fun q => t0 (i43.symm.trans q)⟩
    · unfold ALW at q; rw [i43] at q; omega
    · rw [i43] at q; omega
    · rw [i43] at q
      rcases ht with z | z <;> rw [z] at q <;> exact absurd q (by decide)
    · have q : t = 2 := i43.symm.trans q
      rcases ht with z | z <;> rw [z] at q <;> exact absurd q (by decide)
    · rw [i44, i42] at q2
      rw [i45]
      exact a7 (by omega)
  unfold f_X9_takeNumber_67
  exact ok_ite (fun _ => ok_some (fin 1 (Or.inl rfl))) (fun _ => ok_some (fin 6 (Or.inr rfl)))
theorem q_tn7 {N : Nat} {s : CS} (h9 : 0 ≤ (s.i 41).toInt ∧ (s.i 41).toInt ≤ 900) (h0 : 0 ≤ (s.i 42).toInt) (e44 : s.i 44 = s.i 42) (hl : isDg (BY s (s.i 42))) : ∀ (n : Nat) (X : CS) (m : Nat) (x1 : Int32), TNI s X m → x1.toInt = (m : Int) → 900 - (m : Int) < n → ok (f_X9_takeNumber_7 N n X x1) (fun R => TOK9 s R.2)
  | 0, X, m, x1, h, hx, hn => by
    have := h.2.2.2.1
    omega
  | n + 1, X, m, x1, h, hx, hn => by
    show ok (b_X9_takeNumber_7 N (f_X9_takeNumber_7 N n) X x1) _
    unfold b_X9_takeNumber_7
    have e9 : (900 : Int32).toInt = 900 := by decide
    have e1 : (1 : Int32).toInt = 1 := by decide
    have tk := h.1
    have a4 := h.2.2.1
    have a5 := h.2.2.2.1
    refine ok_ite (fun c => ?_) (fun c => ?_)
    · have := le_int c
      exact q_tn67 h9 h0 e44 hl h (by omega)
    have l9 : x1.toInt < 900 := by
      have := lt_int (Int32.not_le.mp c)
      rw [e9] at this; exact this
    have es : (x1 + 1).toInt = x1.toInt + 1 := by rw [toInt_add] <;> rw [e1] <;> omega
    refine ok_bind (q_by _) (fun p3 h3 => ok_bind (q_dg _) (fun p7 h7 => ?_))
    rw [h3.1] at h7
    rw [h3.2, tk.by] at h7
    obtain ⟨d1, d2, d3⟩ := h7
    refine ok_ite (fun c7 => ?_) (fun c7 => ?_)
    · rw [d1]
      refine q_tn67 h9 h0 e44 hl h ?_
      by_cases q : m = 0
      · exfalso
        have : X.i 42 = s.i 42 := Int32.toInt_inj.mp (by rw [a4, q]; omega)
        rw [this] at d3
        exact d3 c7 hl
      · omega
    · rw [d1]
      refine ok_bind (q_by _) (fun p12 h12 => ?_)
      rw [h12.1]
      have dg := d2 c7
      have rg := BY.dg (s := s) (x := X.i 42) (Or.inl dg)
      have es2 : (X.i 42 + 1).toInt = (X.i 42).toInt + 1 := by rw [toInt_add] <;> rw [e1] <;> omega
      refine q_tn7 h9 h0 e44 hl n _ (m + 1) (x1 + 1) ⟨(tk.i 45 _ (by omega)).i 42 _ (by omega), ?_, ?_, by omega, fun q => by omega, fun q => ?_⟩ (by omega) (by omega)
      · rw [ci_ne _ _ _ (by decide), ci_ne _ _ _ (by decide)]; exact h.2.1
      · rw [ci_at, es2, a4]; omega
      · have m0 : m = 0 := by omega
        rw [ci_ne _ _ _ (by decide), ci_at, h.2.2.2.2.1 m0, h12.2, tk.by]
        have ez : (0 : Int32) * 10 = 0 := by decide
        rw [ez]
        have e48 : (48 : Int32).toInt = 48 := by decide
        have ea : ((0 : Int32) + BY s (X.i 42)) = BY s (X.i 42) := Int32.zero_add _
        rw [ea, toInt_sub] <;> rw [e48] <;> have := dg.1 <;> have := dg.2 <;> omega
theorem q_takeNumber {N : Nat} (hN : 1000 ≤ N) {s : CS} (h9 : 0 ≤ (s.i 41).toInt ∧ (s.i 41).toInt ≤ 900) (h0 : 0 ≤ (s.i 42).toInt) (e44 : s.i 44 = s.i 42) (hl : isDg (BY s (s.i 42))) : ok (f_X9_takeNumber N s) (fun R => TOK9 s R.2) := by
  unfold f_X9_takeNumber
  have rg := BY.dg (s := s) (x := s.i 42) (Or.inl hl)
  refine q_tn7 h9 h0 e44 hl N _ 0 0 ⟨(TKC.rf s).i 45 0 (by omega), ci_ne _ _ _ (by decide), by rw [ci_ne _ _ _ (by decide)]; omega, by omega, fun _ => ci_at _ _ _, fun q => by omega⟩ (by decide) (by omega)
/-- a sign: its type is no row's and no number's -/
theorem q_longSign {N : Nat} {s : CS} (x y : Int32) : ok (f_X9_longSign N s x y) (fun R => R.2 = s ∧ (R.1 = 6 ∨ ((128 ≤ R.1.toInt ∧ R.1.toInt ≤ 135) ∧ ¬ y = -1))) := by
  unfold f_X9_longSign f_X9_longSign_73
  have six : ok (some ((6 : Int32), s)) (fun R => R.2 = s ∧ (R.1 = 6 ∨ ((128 ≤ R.1.toInt ∧ R.1.toInt ≤ 135) ∧ ¬ y = -1))) := ok_some ⟨rfl, Or.inl rfl⟩
  have big : ∀ t : Int32, (128 ≤ t.toInt ∧ t.toInt ≤ 135) → ¬ y = -1 → ok (some (t, s)) (fun R => R.2 = s ∧ (R.1 = 6 ∨ ((128 ≤ R.1.toInt ∧ R.1.toInt ≤ 135) ∧ ¬ y = -1))) := fun t q1 q2 => ok_some ⟨rfl, Or.inr ⟨q1, q2⟩⟩
  have l73 : ok (if x = y then (if x = 38 then some ((132 : Int32), s) else (if x = 124 then some (133, s) else (if x = 43 then some (135, s) else some (6, s)))) else some (6, s)) (fun R => R.2 = s ∧ (R.1 = 6 ∨ ((128 ≤ R.1.toInt ∧ R.1.toInt ≤ 135) ∧ ¬ y = -1))) := ok_ite (fun e => ok_ite (fun c => big 132 (by decide) (fun q => by rw [← e, c] at q; exact absurd q (by decide))) (fun _ => ok_ite (fun c => big 133 (by decide) (fun q => by rw [← e, c] at q; exact absurd q (by decide))) (fun _ => ok_ite (fun c => big 135 (by decide) (fun q => by rw [← e, c] at q; exact absurd q (by decide))) (fun _ => six)))) (fun _ => six)
  exact ok_ite (fun e => ok_ite (fun _ => big 128 (by decide) (fun q => by rw [e] at q; exact absurd q (by decide))) (fun _ => ok_ite (fun _ => big 129 (by decide) (fun q => by rw [e] at q; exact absurd q (by decide))) (fun _ => ok_ite (fun _ => big 130 (by decide) (fun q => by rw [e] at q; exact absurd q (by decide))) (fun _ => ok_ite (fun _ => big 131 (by decide) (fun q => by rw [e] at q; exact absurd q (by decide))) (fun _ => six))))) (fun _ => ok_ite (fun _ => ok_ite (fun e => big 134 (by decide) (fun q => by rw [e] at q; exact absurd q (by decide))) (fun _ => l73)) (fun _ => l73))
theorem q_isSign {N : Nat} {s : CS} (x : Int32) : ok (f_X9_isSign N s x) (fun R => R.2 = s ∧ (¬ R.1 = 0 → 33 ≤ x.toInt ∧ x.toInt ≤ 125)) := by
  unfold f_X9_isSign
  have one : ∀ v : Int32, x = v → (33 ≤ v.toInt ∧ v.toInt ≤ 125) → ok (some ((1 : Int32), s)) (fun R => R.2 = s ∧ (¬ R.1 = 0 → 33 ≤ x.toInt ∧ x.toInt ≤ 125)) := fun v e h => ok_some ⟨rfl, fun _ => by rw [e]; exact h⟩
  exact ok_ite (fun e => one _ e (by decide)) (fun _ => ok_ite (fun e => one _ e (by decide)) (fun _ => ok_ite (fun e => one _ e (by decide)) (fun _ => ok_ite (fun e => one _ e (by decide)) (fun _ => ok_ite (fun e => one _ e (by decide)) (fun _ => ok_ite (fun e => one _ e (by decide)) (fun _ => ok_ite (fun e => one _ e (by decide)) (fun _ => ok_ite (fun e => one _ e (by decide)) (fun _ => ok_ite (fun e => one _ e (by decide)) (fun _ => ok_ite (fun e => one _ e (by decide)) (fun _ => ok_ite (fun e => one _ e (by decide)) (fun _ => ok_ite (fun e => one _ e (by decide)) (fun _ => ok_ite (fun e => one _ e (by decide)) (fun _ => ok_ite (fun e => one _ e (by decide)) (fun _ => ok_ite (fun e => one _ e (by decide)) (fun _ => ok_ite (fun e => one _ e (by decide)) (fun _ => ok_ite (fun e => one _ e (by decide)) (fun _ => ok_ite (fun e => one _ e (by decide)) (fun _ => ok_ite (fun e => one _ e (by decide)) (fun _ => ok_some ⟨rfl, fun q => absurd rfl q⟩)))))))))))))))))))
end
section
/-! the class's tokens: advance, and what is asked of the token -/
theorem LC.sign {s T : CS} {t : Int32} {m : Int} (h9 : 0 ≤ (s.i 41).toInt ∧ (s.i 41).toInt ≤ 900) (h0 : 0 ≤ (s.i 42).toInt) (e44 : s.i 44 = s.i 42) (tk : TKC s T) (i43 : T.i 43 = t) (i44 : T.i 44 = s.i 44) (i42 : (T.i 42).toInt = (s.i 42).toInt + m) (hm : 1 ≤ m) (hi : (s.i 42).toInt + m ≤ (s.i 41).toInt) (ht : t.toInt = 6 ∨ (33 ≤ t.toInt ∧ t.toInt ≤ 125) ∨ (128 ≤ t.toInt ∧ t.toInt ≤ 135)) (h2 : 128 ≤ t.toInt → 2 ≤ m) : TOK9 s T := by
  have i41 : T.i 41 = s.i 41 := tk.2 41 (by decide) (by decide) (by decide) (by decide)
  have t0 : ¬ t = 0 := fun q => by rw [q, z_t0] at ht; omega
  have i44' : T.i 44 = s.i 42 := i44.trans e44
  have n1 : ∀ v : Int32, v.toInt < 6 ∨ 135 < v.toInt → ¬ T.i 43 = v := fun v hv q => by
    rw [i43] at q
    rw [q] at ht
    omega
  refine ⟨tk, ⟨by rw [i41]; exact h9, ⟨by rw [i44']; exact h0, by rw [i44', i42]; omega, by rw [i42, i41]; omega⟩, fun q => absurd (i43.symm.trans q) t0, fun _ => by rw [i44', i42]; omega, ⟨fun q => ?_, fun q => ?_⟩, fun q => ?_, fun q => q.elim (fun q => absurd q (n1 218 (by decide))) (fun q => absurd q (n1 219 (by decide))), fun q => absurd q (n1 2 (by decide)), fun q => absurd q (n1 1 (by decide))⟩, i44, fun q => t0 (i43.symm.trans q)⟩
  · unfold ALN at q; rw [i43] at q; omega
  · unfold ALW at q; rw [i43] at q; omega
  · rw [i43] at q
    rw [i44', i42]
    have := h2 (by omega)
    omega
theorem q_takeSign {N : Nat} {s : CS} (h9 : 0 ≤ (s.i 41).toInt ∧ (s.i 41).toInt ≤ 900) (h0 : 0 ≤ (s.i 42).toInt) (h1 : (s.i 42).toInt < (s.i 41).toInt) (e44 : s.i 44 = s.i 42) : ok (f_X9_takeSign N s) (fun R => TOK9 s R.2) := by
  unfold f_X9_takeSign
  have e1 : (1 : Int32).toInt = 1 := by decide
  have e2 : (2 : Int32).toInt = 2 := by decide
  have e6 : (6 : Int32).toInt = 6 := by decide
  have es1 : (s.i 42 + 1).toInt = (s.i 42).toInt + 1 := by rw [toInt_add] <;> rw [e1] <;> omega
  have es2 : (s.i 42 + 2).toInt = (s.i 42).toInt + 2 := by rw [toInt_add] <;> rw [e2] <;> omega
  refine ok_bind (q_by _) (fun p1 g1 => ok_bind (q_by _) (fun p5 g5 => ok_bind (q_longSign _ _) (fun p9 g9 => ?_)))
  rw [g1.1] at g5
  rw [g5.1] at g9
  obtain ⟨k1, k2⟩ := g9
  rw [k1]
  refine ok_ite (fun c => ?_) (fun c => ok_some ?_)
  · rw [c]
    have tk : TKC s (CS.setI (CS.setI s 43 6) 42 (s.i 42 + 1)) := ((TKC.rf s).i 43 6 (by omega)).i 42 _ (by omega)
    have t42 : (CS.setI (CS.setI s 43 6) 42 (s.i 42 + 1)).i 42 = s.i 42 + 1 := ci_at _ _ _
    have t43 : (CS.setI (CS.setI s 43 6) 42 (s.i 42 + 1)).i 43 = 6 := by rw [ci_ne _ _ _ (by decide), ci_at]
    have t44 : (CS.setI (CS.setI s 43 6) 42 (s.i 42 + 1)).i 44 = s.i 44 := by rw [ci_ne _ _ _ (by decide), ci_ne _ _ _ (by decide)]
    generalize CS.setI (CS.setI s 43 6) 42 (s.i 42 + 1) = Y at *
    refine ok_bind (q_isSign _) (fun p14 g14 => ?_)
    rw [g14.1]
    refine ok_ite (fun _ => ok_some ?_) (fun c14 => ok_some ?_)
    · exact LC.sign (m := 1) h9 h0 e44 tk t43 t44 (by rw [t42, es1]) (by omega) (by omega) (Or.inl e6) (fun q => by rw [e6] at q; omega)
    · have rg := g14.2 c14
      refine LC.sign (m := 1) h9 h0 e44 (tk.i 43 _ (by omega)) (ci_at _ _ _) (by rw [ci_ne _ _ _ (by decide)]; exact t44) (by rw [ci_ne _ _ _ (by decide), t42, es1]) (by omega) (by omega) (Or.inr (Or.inl rg)) (fun q => by omega)
  · have k3 := k2.resolve_left c
    have y1 : ¬ BY s (s.i 42 + 1) = -1 := fun q => k3.2 (by rw [g5.2]; exact q)
    have rg := BY.in y1
    refine LC.sign (m := 2) h9 h0 e44 (((TKC.rf s).i 43 _ (by omega)).i 42 _ (by omega)) (by rw [ci_ne _ _ _ (by decide), ci_at]) (by rw [ci_ne _ _ _ (by decide), ci_ne _ _ _ (by decide)]) (by rw [ci_at, es2]) (by omega) (by omega) (Or.inr (Or.inr k3.1)) (fun _ => by omega)
/-- one token on -/
def ADV (s R : CS) : Prop := TKC s R ∧ LC R ∧ (s.i 42).toInt ≤ (R.i 44).toInt ∧ (ALW (s.i 43) → ALN (R.i 43) → (s.i 42).toInt + 1 ≤ (R.i 44).toInt) ∧ (s.i 43 = 0 → R.i 43 = 0)
theorem q_adv51 {N : Nat} (hN : 1000 ≤ N) {s X : CS} {m : Nat} (hw : WDC s) (hl : LC s) (tk : TKC s X) (x42 : (X.i 42).toInt = (s.i 42).toInt + m) (hi : (s.i 42).toInt + m ≤ (s.i 41).toInt) : ok (f_X9_advance_51 N X) (fun R => ADV s R.2) := by
  have x41 : X.i 41 = s.i 41 := tk.2 41 (by decide) (by decide) (by decide) (by decide)
  have l2 := hl.2.1
  have fin : ∀ (Y R : CS), TKC s Y → Y.i 42 = X.i 42 → Y.i 44 = X.i 42 → TOK9 Y R → ADV s R := fun Y R hY h42 h44 hR => by
    obtain ⟨r1, r2, r3, r4⟩ := hR
    have e44 : (R.i 44).toInt = (s.i 42).toInt + m := by rw [r3, h44, x42]
    have tR := hY.tr r1
    refine ⟨tR, r2, by omega, fun q1 q2 => ?_, fun q => ?_⟩
    · by_cases c : m = 0
      · exfalso
        have ab := r2.2.2.2.2.1.1 q2
        have e : R.i 44 = s.i 42 := Int32.toInt_inj.mp (by rw [e44, c]; omega)
        rw [e] at ab
        have nb := hl.2.2.2.2.1.2 q1
        unfold AB at ab nb
        rw [tR.by] at ab
        exact nb ab
      · omega
    · exfalso
      have z := hl.2.2.1 q
      have z2 := r2.2.1
      have z3 := r2.2.2.2.1 r4
      have r41 : R.i 41 = s.i 41 := tR.2 41 (by decide) (by decide) (by decide) (by decide)
      rw [r41] at z2
      omega
  unfold f_X9_advance_51
  refine ok_ite (fun c => ?_) (fun c => ok_some ?_)
  · have lt := lt_int c
    rw [x41] at lt
    have tkY : TKC s (CS.setI X 44 (X.i 42)) := tk.i 44 _ (by omega)
    have y41 : (CS.setI X 44 (X.i 42)).i 41 = s.i 41 := tkY.2 41 (by decide) (by decide) (by decide) (by decide)
    have y42 : (CS.setI X 44 (X.i 42)).i 42 = X.i 42 := ci_ne _ _ _ (by decide)
    have y44 : (CS.setI X 44 (X.i 42)).i 44 = X.i 42 := ci_at _ _ _
    generalize CS.setI X 44 (X.i 42) = Y at *
    have h9 : 0 ≤ (Y.i 41).toInt ∧ (Y.i 41).toInt ≤ 900 := by rw [y41]; exact hl.1
    have h0 : 0 ≤ (Y.i 42).toInt := by rw [y42]; omega
    have e44 : Y.i 44 = Y.i 42 := y44.trans y42.symm
    have hwY : WDC Y := by unfold WDC at *; rw [tkY.1.2.2.2.2.2.2.2.2.2.1]; exact hw
    refine ok_bind (q_by _) (fun p3 g3 => ok_bind (q_dg _) (fun p7 g7 => ?_))
    rw [g3.1] at g7
    rw [g3.2] at g7
    obtain ⟨d1, d2, d3⟩ := g7
    rw [d1]
    rw [← y42] at d2 d3
    refine ok_ite (fun _ => ok_bind (q_by _) (fun p12 g12 => ok_bind (q_lt _) (fun p16 g16 => ?_))) (fun c7 => ok_bind (q_takeNumber hN h9 h0 e44 (d2 c7)) (fun p hp => ok_some (fin Y p.2 tkY y42 y44 hp)))
    rw [g12.1] at g16
    rw [g12.2] at g16
    obtain ⟨b1, b2, b3⟩ := g16
    rw [b1]
    exact ok_ite (fun _ => ok_bind (q_takeSign h9 h0 (by rw [y42, y41]; omega) e44) (fun p hp => ok_some (fin Y p.2 tkY y42 y44 hp))) (fun c16 => ok_bind (q_takeRow hN hwY h9 h0 e44 (b2 c16)) (fun p hp => ok_some (fin Y p.2 tkY y42 y44 hp)))
  · have ge : (s.i 41).toInt ≤ (X.i 42).toInt := by
      have := le_int (Int32.not_lt.mp c)
      rw [x41] at this; exact this
    have tkY : TKC s (CS.setI (CS.setI X 44 (X.i 42)) 43 0) := (tk.i 44 _ (by omega)).i 43 _ (by omega)
    have y41 : (CS.setI (CS.setI X 44 (X.i 42)) 43 0).i 41 = s.i 41 := tkY.2 41 (by decide) (by decide) (by decide) (by decide)
    have y42 : (CS.setI (CS.setI X 44 (X.i 42)) 43 0).i 42 = X.i 42 := by rw [ci_ne _ _ _ (by decide), ci_ne _ _ _ (by decide)]
    have y43 : (CS.setI (CS.setI X 44 (X.i 42)) 43 0).i 43 = 0 := ci_at _ _ _
    have y44 : (CS.setI (CS.setI X 44 (X.i 42)) 43 0).i 44 = X.i 42 := by rw [ci_ne _ _ _ (by decide), ci_at]
    generalize CS.setI (CS.setI X 44 (X.i 42)) 43 0 = Y at *
    have nt : ∀ v : Int32, ¬ v = 0 → ¬ Y.i 43 = v := fun v hv q => hv (q.symm.trans y43)
    refine ⟨tkY, ⟨by rw [y41]; exact hl.1, ⟨by rw [y44]; omega, by rw [y44, y42]; omega, by rw [y42, y41]; omega⟩, fun _ => by rw [y42, y41]; omega, fun q => absurd y43 q, ⟨fun q => ?_, fun q => ?_⟩, fun q => ?_, fun q => q.elim (fun q => absurd q (nt 218 (by decide))) (fun q => absurd q (nt 219 (by decide))), fun q => absurd q (nt 2 (by decide)), fun q => absurd q (nt 1 (by decide))⟩, by rw [y44]; omega, fun _ q => ?_, fun _ => y43⟩
    · unfold ALN at q; rw [y43, z_t0] at q; omega
    · unfold ALW at q; rw [y43, z_t0] at q; omega
    · rw [y43, z_t0] at q; omega
    · unfold ALN at q; rw [y43, z_t0] at q; omega
theorem q_adv2 {N : Nat} (hN : 1000 ≤ N) {s : CS} (hw : WDC s) (hl : LC s) : ∀ (n : Nat) (X : CS) (m : Nat) (x1 : Int32), TKC s X → (X.i 42).toInt = (s.i 42).toInt + m → (s.i 42).toInt + m ≤ (s.i 41).toInt → x1.toInt = (m : Int) → 900 - (m : Int) < n → ok (f_X9_advance_2 N n X x1) (fun R => ADV s R.2)
  | 0, X, m, x1, _, _, h, _, hn => by
    have := hl.1
    have := hl.2.1
    omega
  | n + 1, X, m, x1, tk, x42, hi, hx, hn => by
    show ok (b_X9_advance_2 N (f_X9_advance_2 N n) X x1) _
    unfold b_X9_advance_2
    have e9 : (900 : Int32).toInt = 900 := by decide
    have e1 : (1 : Int32).toInt = 1 := by decide
    have h9 := hl.1
    have l2 := hl.2.1
    refine ok_ite (fun _ => q_adv51 hN hw hl tk x42 hi) (fun c => ?_)
    have l9 : x1.toInt < 900 := by
      have := lt_int (Int32.not_le.mp c)
      rw [e9] at this; exact this
    have es : (x1 + 1).toInt = x1.toInt + 1 := by rw [toInt_add] <;> rw [e1] <;> omega
    have es2 : (X.i 42 + 1).toInt = (X.i 42).toInt + 1 := by rw [toInt_add] <;> rw [e1] <;> omega
    have go : ∀ b : Int32, BY X (X.i 42) = b → ¬ b = -1 → ok (f_X9_advance_2 N n (CS.setI X 42 ((X.i 42) + 1)) (x1 + 1)) (fun R => ADV s R.2) := fun b hb h1 => by
      have rg := BY.in (s := X) (x := X.i 42) (by rw [hb]; exact h1)
      have x41 : X.i 41 = s.i 41 := tk.2 41 (by decide) (by decide) (by decide) (by decide)
      rw [x41] at rg
      exact q_adv2 hN hw hl n _ (m + 1) (x1 + 1) (tk.i 42 _ (by omega)) (by rw [ci_at, es2, x42]; omega) (by omega) (by omega) (by omega)
    refine ok_bind (q_by _) (fun p g => ?_)
    rw [g.1]
    refine ok_ite (fun c1 => go 32 (by rw [← g.2]; exact c1) (by decide)) (fun _ => ok_bind (q_by _) (fun p2 g2 => ?_))
    rw [g2.1]
    exact ok_ite (fun c1 => go 10 (by rw [← g2.2]; exact c1) (by decide)) (fun _ => q_adv51 hN hw hl tk x42 hi)
theorem q_advance {N : Nat} (hN : 1000 ≤ N) {s : CS} (hw : WDC s) (hl : LC s) : ok (f_X9_advance N s) (fun R => ADV s R.2) := by
  have h9 := hl.1
  have l2 := hl.2.1
  exact q_adv2 hN hw hl N s 0 0 (TKC.rf s) (by omega) (by omega) (by decide) (by omega)
/-- a fault is told -/
def FLD (s R : CS) : Prop := (R.hs = s.hs ∧ R.L = s.L ∧ R.k = s.k ∧ R.o = s.o ∧ R.ol = s.ol ∧ R.ot = s.ot ∧ R.oa = s.oa ∧ R.r = s.r ∧ R.w = s.w ∧ R.b = s.b ∧ R.a = s.a ∧ R.l = s.l) ∧ (∀ j : Nat, j ≠ 32 → j ≠ 33 → j ≠ 42 → j ≠ 43 → R.i j = s.i j) ∧ LC R ∧ ¬ R.i 32 = 0 ∧ R.i 43 = 0
theorem q_fail {N : Nat} {s : CS} (hl : LC s) (hf : ¬ s.i 32 = 0 → s.i 43 = 0) (x y : Int32) (hx : ¬ x = 0) : ok (f_X1_fail N s x y) (fun R => FLD s R.2) := by
  unfold f_X1_fail f_X9_stop
  refine ok_ite (fun c => ok_some ?_) (fun c => ok_some ⟨⟨rfl, rfl, rfl, rfl, rfl, rfl, rfl, rfl, rfl, rfl, rfl, rfl⟩, fun _ _ _ _ _ => rfl, hl, c, hf c⟩)
  show FLD s (CS.setI (CS.setI (CS.setI (CS.setI s 32 x) 33 y) 42 ((CS.setI (CS.setI s 32 x) 33 y).i 41)) 43 0)
  have t41 : (CS.setI (CS.setI s 32 x) 33 y).i 41 = s.i 41 := by rw [ci_ne _ _ _ (by decide), ci_ne _ _ _ (by decide)]
  rw [t41]
  have ti : ∀ j : Nat, j ≠ 32 → j ≠ 33 → j ≠ 42 → j ≠ 43 → (CS.setI (CS.setI (CS.setI (CS.setI s 32 x) 33 y) 42 (s.i 41)) 43 0).i j = s.i j := fun j q1 q2 q3 q4 => by rw [ci_ne _ _ _ q4, ci_ne _ _ _ q3, ci_ne _ _ _ q2, ci_ne _ _ _ q1]
  have t32 : (CS.setI (CS.setI (CS.setI (CS.setI s 32 x) 33 y) 42 (s.i 41)) 43 0).i 32 = x := by rw [ci_ne _ _ _ (by decide), ci_ne _ _ _ (by decide), ci_ne _ _ _ (by decide), ci_at]
  have t42 : (CS.setI (CS.setI (CS.setI (CS.setI s 32 x) 33 y) 42 (s.i 41)) 43 0).i 42 = s.i 41 := by rw [ci_ne _ _ _ (by decide), ci_at]
  have t43 : (CS.setI (CS.setI (CS.setI (CS.setI s 32 x) 33 y) 42 (s.i 41)) 43 0).i 43 = 0 := ci_at _ _ _
  have q41 := ti 41 (by decide) (by decide) (by decide) (by decide)
  have q44 := ti 44 (by decide) (by decide) (by decide) (by decide)
  have base : (CS.setI (CS.setI (CS.setI (CS.setI s 32 x) 33 y) 42 (s.i 41)) 43 0).hs = s.hs ∧ (CS.setI (CS.setI (CS.setI (CS.setI s 32 x) 33 y) 42 (s.i 41)) 43 0).L = s.L ∧ (CS.setI (CS.setI (CS.setI (CS.setI s 32 x) 33 y) 42 (s.i 41)) 43 0).k = s.k ∧ (CS.setI (CS.setI (CS.setI (CS.setI s 32 x) 33 y) 42 (s.i 41)) 43 0).o = s.o ∧ (CS.setI (CS.setI (CS.setI (CS.setI s 32 x) 33 y) 42 (s.i 41)) 43 0).ol = s.ol ∧ (CS.setI (CS.setI (CS.setI (CS.setI s 32 x) 33 y) 42 (s.i 41)) 43 0).ot = s.ot ∧ (CS.setI (CS.setI (CS.setI (CS.setI s 32 x) 33 y) 42 (s.i 41)) 43 0).oa = s.oa ∧ (CS.setI (CS.setI (CS.setI (CS.setI s 32 x) 33 y) 42 (s.i 41)) 43 0).r = s.r ∧ (CS.setI (CS.setI (CS.setI (CS.setI s 32 x) 33 y) 42 (s.i 41)) 43 0).w = s.w ∧ (CS.setI (CS.setI (CS.setI (CS.setI s 32 x) 33 y) 42 (s.i 41)) 43 0).b = s.b ∧ (CS.setI (CS.setI (CS.setI (CS.setI s 32 x) 33 y) 42 (s.i 41)) 43 0).a = s.a ∧ (CS.setI (CS.setI (CS.setI (CS.setI s 32 x) 33 y) 42 (s.i 41)) 43 0).l = s.l := ⟨rfl, rfl, rfl, rfl, rfl, rfl, rfl, rfl, rfl, rfl, rfl, rfl⟩
  generalize CS.setI (CS.setI (CS.setI (CS.setI s 32 x) 33 y) 42 (s.i 41)) 43 0 = Y at *
  have h9 := hl.1
  have l2 := hl.2.1
  have nt : ∀ v : Int32, ¬ v = 0 → ¬ Y.i 43 = v := fun v hv q => hv (q.symm.trans t43)
  refine ⟨base, ti, ⟨by rw [q41]; exact h9, ⟨by rw [q44]; omega, by rw [q44, t42]; omega, by rw [t42, q41]; omega⟩, fun _ => by rw [t42, q41], fun q => absurd t43 q, ⟨fun q => ?_, fun q => ?_⟩, fun q => ?_, fun q => q.elim (fun q => absurd q (nt 218 (by decide))) (fun q => absurd q (nt 219 (by decide))), fun q => absurd q (nt 2 (by decide)), fun q => absurd q (nt 1 (by decide))⟩, by rw [t32]; exact hx, t43⟩
  · unfold ALN at q; rw [t43, z_t0] at q; omega
  · unfold ALW at q; rw [t43, z_t0] at q; omega
  · rw [t43, z_t0] at q; omega
end
section
/-! the class's reading: what stands while there is no fault -/
def tcI (s : CS) : Int := (s.i 21).toInt
def ccI (s : CS) : Int := (s.i 22).toInt
def plI (s : CS) : Int := (s.i 44).toInt
def nxI (s : CS) : Int := (s.i 42).toInt
def cnI (s : CS) : Int := (s.i 53).toInt
def sgI (s : CS) : Int := (s.i 34).toInt
def dsI (s : CS) : Int := (s.i 38).toInt
def nmI (s : CS) : Int := (s.i 50).toInt
noncomputable def eI (s : CS) : Int := plI s + (if (1 ≤ (s.i 43).toInt ∧ (s.i 43).toInt ≤ 5) ∨ 200 ≤ (s.i 43).toInt then 0 else 1)
theorem eI.al {s : CS} (h : ALN (s.i 43)) : eI s = plI s := by
  unfold ALN at h
  unfold eI
  rw [if_pos h]
  omega
theorem eI.sg {s : CS} (h : ¬ ALN (s.i 43)) : eI s = plI s + 1 := by
  unfold ALN at h
  unfold eI
  rw [if_neg h]
theorem eI.ge (s : CS) : plI s ≤ eI s ∧ eI s ≤ plI s + 1 := by
  by_cases h : ALN (s.i 43)
  · rw [eI.al h]; omega
  · rw [eI.sg h]; omega
/-- how far a token takes -/
theorem ADV.gain {s R : CS} (hl : LC s) (h : ADV s R) : plI s ≤ plI R ∧ (¬ s.i 43 = 0 → plI s + 1 ≤ plI R ∧ eI s ≤ eI R) ∧ (ALN (s.i 43) → plI s + 1 ≤ eI R) ∧ (s.i 43 = 2 → plI s + 2 ≤ eI R ∧ (¬ (97 ≤ s.l.toInt ∧ s.l.toInt ≤ 122) → plI s + 3 ≤ eI R)) ∧ ((200 ≤ (s.i 43).toInt ∨ (3 ≤ (s.i 43).toInt ∧ (s.i 43).toInt ≤ 5)) → plI s + 3 ≤ eI R ∧ plI s + 2 ≤ plI R ∧ (ALN (R.i 43) → plI s + 3 ≤ plI R)) ∧ ((128 ≤ (s.i 43).toInt ∧ (s.i 43).toInt ≤ 135) → plI s + 2 ≤ plI R ∧ eI s + 1 ≤ eI R) ∧ (s.i 43 = 218 ∨ s.i 43 = 219 → plI s + 4 ≤ plI R) := by
  obtain ⟨a1, a2, a3, a4, a5⟩ := h
  obtain ⟨b1, b2, b3, b4, b5, b6, b7, b8, b9⟩ := hl
  have a3 : nxI s ≤ plI R := a3
  have b2' : plI s ≤ nxI s := b2.2.1
  have g := eI.ge R
  have gs := eI.ge s
  have next : ALW (s.i 43) → nxI s + 1 ≤ eI R ∧ (ALN (R.i 43) → nxI s + 1 ≤ plI R) := fun q => by
    by_cases c : ALN (R.i 43)
    · have : nxI s + 1 ≤ plI R := a4 q c
      exact ⟨by omega, fun _ => this⟩
    · have := eI.sg c
      exact ⟨by omega, fun z => absurd z c⟩
  refine ⟨by omega, fun q => ?_, fun q => ?_, fun q => ?_, fun q => ?_, fun q => ?_, fun q => ?_⟩
  · have : plI s + 1 ≤ nxI s := b4 q
    refine ⟨by omega, ?_⟩
    omega
  · have n0 : ¬ s.i 43 = 0 := fun z => by unfold ALN at q; rw [z, z_t0] at q; omega
    have : plI s + 1 ≤ nxI s := b4 n0
    omega
  · have t2 : (2 : Int32).toInt = 2 := by decide
    have n0 : ¬ s.i 43 = 0 := fun z => by rw [q] at z; exact absurd z (by decide)
    have h1 : plI s + 1 ≤ nxI s := b4 n0
    have w : ALW (s.i 43) := Or.inl (by rw [q, t2]; omega)
    have h2 := (next w).1
    refine ⟨by omega, fun z => ?_⟩
    have : ¬ nxI s = plI s + 1 := fun y => z (b8 q y)
    omega
  · have w : ALW (s.i 43) := by unfold ALW; omega
    have h1 : plI s + 2 ≤ nxI s := b6 (by omega)
    have h2 := next w
    exact ⟨by omega, by omega, fun z => by have := h2.2 z; omega⟩
  · have h1 : plI s + 2 ≤ nxI s := b6 (Or.inr (Or.inr q))
    refine ⟨by omega, ?_⟩
    have na : ¬ ALN (s.i 43) := fun z => by unfold ALN at z; omega
    have := eI.sg na
    omega
  · have : plI s + 4 ≤ nxI s := b7 q
    omega
/-- a row's price in bytes -/
def cost (s : CS) (a : Nat) : Int := if s.o a 0 = 300 ∨ s.o a 0 = 301 then 0 else if s.o a 0 = 302 then 9 else if s.o a 0 = 303 ∧ 97 ≤ (s.ol a).toInt ∧ (s.ol a).toInt ≤ 122 then 2 else 3
/-- the signs that it keeps begun -/
def sgn (s : CS) (a : Nat) : Int := if s.o a 0 = 302 then 2 else if s.o a 0 = 301 ∨ s.o a 0 = 212 ∨ s.o a 0 = 218 ∨ s.o a 0 = 213 ∨ s.o a 0 = 215 ∨ s.o a 0 = 216 then 1 else 0
def rowA (s : CS) (i : Nat) : Nat := (s.r 51 i).getD 0
def WCS (s : CS) : Nat → Int
  | 0 => 0
  | n + 1 => WCS s n + cost s (rowA s n)
def SGS (s : CS) : Nat → Int
  | 0 => 0
  | n + 1 => SGS s n + sgn s (rowA s n)
def BLS (s : CS) : Nat → Int
  | 0 => 0
  | n + 1 => BLS s n + (if s.o (rowA s n) 0 = 301 then 1 else 0)
def AMS (s : CS) : Nat → Int
  | 0 => 0
  | n + 1 => AMS s n + (if s.o (rowA s n) 0 = 302 then 1 else 0)
/-- the labels of one letter since the last arm -/
def KLS (s : CS) : Nat → Nat → Bool
  | 0 => fun _ => false
  | n + 1 => if s.o (rowA s n) 0 = 302 then fun _ => false else if s.o (rowA s n) 0 = 303 ∧ 97 ≤ (s.ol (rowA s n)).toInt ∧ (s.ol (rowA s n)).toInt ≤ 122 then fun v => (v : Int) = (s.ol (rowA s n)).toInt - 97 || KLS s n v else KLS s n
def cnt (f : Nat → Bool) : Nat → Int
  | 0 => 0
  | n + 1 => cnt f n + (if f n = true then 1 else 0)
theorem cnt.le (f : Nat → Bool) : ∀ n : Nat, 0 ≤ cnt f n ∧ cnt f n ≤ n
  | 0 => by unfold cnt; omega
  | n + 1 => by
    have := cnt.le f n
    unfold cnt
    by_cases c : f n = true
    · rw [if_pos c]; omega
    · rw [if_neg c]; omega
theorem cnt.of {f g : Nat → Bool} : ∀ {n : Nat}, (∀ i : Nat, i < n → g i = f i) → cnt g n = cnt f n
  | 0, _ => rfl
  | n + 1, h => by
    unfold cnt
    rw [cnt.of (fun i hi => h i (by omega)), h n (by omega)]
theorem cnt.put {f g : Nat → Bool} {v : Nat} (hv : f v = false) (gv : g v = true) (hg : ∀ i : Nat, i ≠ v → g i = f i) : ∀ {n : Nat}, v < n → cnt g n = cnt f n + 1
  | 0, h => by omega
  | n + 1, h => by
    unfold cnt
    by_cases c : n = v
    · subst c
      rw [cnt.of (fun i hi => hg i (by omega)), gv, hv, if_pos rfl, if_neg (by decide)]
      omega
    · rw [cnt.put hv gv hg (n := n) (by omega), hg n c]
      omega
/-- rows that are the same -/
def RSQ (s R : CS) (n : Nat) : Prop := ∀ i : Nat, i < n → R.r 51 i = s.r 51 i ∧ ∀ a : Nat, s.r 51 i = some a → R.o a = s.o a ∧ R.ol a = s.ol a
theorem RSQ.lo {s R : CS} {n m : Nat} (h : RSQ s R n) (hm : m ≤ n) : RSQ s R m := fun i hi => h i (by omega)
theorem RSQ.rf (s : CS) (n : Nat) : RSQ s s n := fun _ _ => ⟨rfl, fun _ _ => ⟨rfl, rfl⟩⟩
theorem RSQ.tr {s R T : CS} {n : Nat} (h : RSQ s R n) (g : RSQ R T n) : RSQ s T n := fun i hi => ⟨(g i hi).1.trans (h i hi).1, fun a e => by
  have q := (h i hi).2 a e
  have q2 := (g i hi).2 a ((h i hi).1.trans e)
  exact ⟨q2.1.trans q.1, q2.2.trans q.2⟩⟩
/-- n rows are there -/
def NR (s : CS) (n : Nat) : Prop := ∀ i : Nat, i < n → ∃ a, s.r 51 i = some a
theorem RSQ.row {s R : CS} {n i : Nat} (h : RSQ s R n) (hn : NR s n) (hi : i < n) : rowA R i = rowA s i ∧ R.o (rowA s i) = s.o (rowA s i) ∧ R.ol (rowA s i) = s.ol (rowA s i) := by
  obtain ⟨a, e⟩ := hn i hi
  have q := h i hi
  have ea : rowA s i = a := by unfold rowA; rw [e]; rfl
  refine ⟨by unfold rowA; rw [q.1], ?_, ?_⟩
  · rw [ea]; exact (q.2 a e).1
  · rw [ea]; exact (q.2 a e).2
theorem RSQ.sums {s R : CS} : ∀ {n : Nat}, RSQ s R n → NR s n → WCS R n = WCS s n ∧ SGS R n = SGS s n ∧ BLS R n = BLS s n ∧ AMS R n = AMS s n ∧ KLS R n = KLS s n
  | 0, _, _ => ⟨rfl, rfl, rfl, rfl, rfl⟩
  | n + 1, h, hn => by
    obtain ⟨i1, i2, i3, i4, i5⟩ := RSQ.sums (h.lo (Nat.le_succ n)) (fun i hi => hn i (by omega))
    obtain ⟨r1, r2, r3⟩ := h.row hn (Nat.lt_succ_self n)
    refine ⟨?_, ?_, ?_, ?_, ?_⟩
    · unfold WCS cost; rw [i1, r1, r2, r3]
    · unfold SGS sgn; rw [i2, r1, r2]
    · unfold BLS; rw [i3, r1, r2]
    · unfold AMS; rw [i4, r1, r2]
    · unfold KLS; rw [i5, r1, r2, r3]
/-- so many rows can be paid -/
def IQ (s : CS) (n : Nat) : Prop := ∀ m : Nat, m ≤ n → 3 * (m : Int) ≤ WCS s m + 3 * BLS s m + 20 * AMS s m + cnt (KLS s m) 26 + 3
theorem IQ.of {s R : CS} {n : Nat} (h : IQ s n) (hs : RSQ s R n) (hn : NR s n) : IQ R n := fun m hm => by
  obtain ⟨i1, i2, i3, i4, i5⟩ := (hs.lo hm).sums (fun i hi => hn i (by omega))
  rw [i1, i3, i4, i5]
  exact h m hm
theorem BAS {s : CS} : ∀ n : Nat, BLS s n + 2 * AMS s n ≤ SGS s n ∧ 0 ≤ BLS s n ∧ 0 ≤ AMS s n ∧ 0 ≤ SGS s n ∧ 0 ≤ WCS s n
  | 0 => by unfold BLS AMS SGS WCS; omega
  | n + 1 => by
    obtain ⟨h1, h2, h3, h4, h5⟩ := BAS (s := s) n
    have e1 : (301 : Int32) ≠ 302 := by decide
    unfold BLS AMS SGS WCS sgn cost
    by_cases c2 : s.o (rowA s n) 0 = 302
    · rw [if_pos c2, if_pos c2, if_neg (by rw [c2]; decide), if_neg (by rw [c2]; decide), if_pos c2]
      omega
    · rw [if_neg c2, if_neg c2, if_neg c2]
      by_cases c1 : s.o (rowA s n) 0 = 301
      · rw [if_pos c1, if_pos (Or.inl c1), if_pos (Or.inr c1)]
        omega
      · rw [if_neg c1]
        have g1 : 0 ≤ (if s.o (rowA s n) 0 = 301 ∨ s.o (rowA s n) 0 = 212 ∨ s.o (rowA s n) 0 = 218 ∨ s.o (rowA s n) 0 = 213 ∨ s.o (rowA s n) 0 = 215 ∨ s.o (rowA s n) 0 = 216 then (1 : Int) else 0) := by
          by_cases q : s.o (rowA s n) 0 = 301 ∨ s.o (rowA s n) 0 = 212 ∨ s.o (rowA s n) 0 = 218 ∨ s.o (rowA s n) 0 = 213 ∨ s.o (rowA s n) 0 = 215 ∨ s.o (rowA s n) 0 = 216
          · rw [if_pos q]; omega
          · rw [if_neg q]; omega
        have g2 : 0 ≤ (if s.o (rowA s n) 0 = 300 ∨ s.o (rowA s n) 0 = 301 then (0 : Int) else if s.o (rowA s n) 0 = 303 ∧ 97 ≤ (s.ol (rowA s n)).toInt ∧ (s.ol (rowA s n)).toInt ≤ 122 then 2 else 3) := by
          by_cases q : s.o (rowA s n) 0 = 300 ∨ s.o (rowA s n) 0 = 301
          · rw [if_pos q]; omega
          · rw [if_neg q]
            by_cases q2 : s.o (rowA s n) 0 = 303 ∧ 97 ≤ (s.ol (rowA s n)).toInt ∧ (s.ol (rowA s n)).toInt ≤ 122
            · rw [if_pos q2]; omega
            · rw [if_neg q2]; omega
        omega
/-- the rows do not run out -/
theorem IQ.bound {s : CS} {n : Nat} (h : IQ s n) (hw : WCS s n ≤ 901) (hs : SGS s n ≤ 21) : n ≤ 380 := by
  have q := h n (Nat.le_refl _)
  have b := BAS (s := s) n
  have k := cnt.le (KLS s n) 26
  omega
end
section
/-! the class's reading: the code is typed while it grows -/
/-- a target that may be jumped to -/
def TTc (tc : Int) (DT : Nat → List Nat) (KT : Nat → Prop) (t : Int32) (d : List Nat) : Prop := 0 ≤ t.toInt ∧ t.toInt < tc ∧ DT t.toInt.toNat = d ∧ ¬ KT t.toInt.toNat
/-- the target of a try's finally -/
def KTc (tc : Int) (DT : Nat → List Nat) (KT : Nat → Prop) (t : Int32) (d : List Nat) : Prop := 0 ≤ t.toInt ∧ t.toInt < tc ∧ DT t.toInt.toNat = d ∧ KT t.toInt.toNat
def IOK (tc : Int) (DT : Nat → List Nat) (KT : Nat → Prop) (o x : Int32) (c c' : List Nat) : Prop :=
  (o.toInt < 30 → c' = c) ∧
  (o.toInt = 30 → TTc tc DT KT x c) ∧
  (31 ≤ o.toInt → o.toInt ≤ 35 → TTc tc DT KT x c ∧ c' = c) ∧
  (36 ≤ o.toInt → o.toInt < 50 → c' = c) ∧
  ((o.toInt = 51 ∨ o.toInt = 52 ∨ o.toInt = 55 ∨ o.toInt = 57) → c' = c) ∧
  (o.toInt = 53 → c' = 0 :: c) ∧
  (o.toInt = 54 → c' = 1 :: c ∧ TTc tc DT KT x (2 :: c) ∧ KTc tc DT KT (x + 1) (3 :: c)) ∧
  (o.toInt = 56 → TTc tc DT KT (x / 16) c ∧ c' = c) ∧
  (o.toInt = 58 → ∃ r, c = 2 :: r) ∧
  (o.toInt = 59 → ∃ r, c = 3 :: r) ∧
  (o.toInt = 60 ∨ o.toInt = 61 → ∃ g : Nat, (x - x / 32 * 32).toInt = (g : Int) ∧ g ≤ c.length ∧ TTc tc DT KT (x / 32) (c.drop (c.length - g))) ∧
  (o.toInt = 64 → AT2 c x) ∧
  o.toInt ≤ 64
def CDT (s : CS) (D DT : Nat → List Nat) (KT : Nat → Prop) : Prop := ∀ p : Nat, p < 1200 → (p : Int) < szI s → IOK (tcI s) DT KT (s.a 15 p) (s.a 16 p) (D p) (D (p + 1)) ∧ (D p).length ≤ 21
def TGS (s : CS) (D DT : Nat → List Nat) : Prop := ∀ t : Nat, (t : Int) < tcI s → (s.a 17 t).toInt = -1 ∨ (0 ≤ (s.a 17 t).toInt ∧ (s.a 17 t).toInt ≤ szI s ∧ D (s.a 17 t).toInt.toNat = DT t)
/-- what an begun row will aim -/
def OWS (s : CS) (a t : Nat) : Prop := (¬ s.o a 0 = 300 ∧ ¬ s.o a 0 = 301 ∧ ¬ s.o a 0 = 302 ∧ ¬ s.o a 0 = 203 ∧ (s.o a 9).toInt = (t : Int)) ∨ ((s.o a 0 = 203 ∨ s.o a 0 = 206 ∨ s.o a 0 = 218 ∨ s.o a 0 = 213 ∨ s.o a 0 = 215) ∧ (s.o a 10).toInt = (t : Int))
/-- an begun row will aim it -/
def OWN (s : CS) (t : Nat) : Prop := ∃ i a : Nat, (i : Int) < cnI s ∧ s.r 51 i = some a ∧ OWS s a t
def UNA (s : CS) (KT : Nat → Prop) (P : List Nat) : Prop := ∀ t : Nat, (t : Int) < tcI s → ¬ KT t → (s.a 17 t).toInt = -1 → t ∈ P ∨ OWN s t
/-- a name's frame: none, or one that is in its catches -/
def NMT (x : Int32) (c : List Nat) : Prop := x.toInt < 0 ∨ AT2 c x
/-- the entries that the rows up to here own -/
def lmh (L : List Int) : Int := L.headD 0
/-- an begun row: c0 around it, c in it -/
def ROW1 (s : CS) (DT : Nat → List Nat) (KT : Nat → Prop) (a : Nat) (c0 c : List Nat) (lim lim' : List Int) : Prop :=
  (s.o a 2).toInt = (c0.length : Int) ∧ (∀ n : Nat, (n : Int) < (s.o a 3).toInt → NMT (s.a 49 n) c0) ∧
  ((s.o a 0 = 300 ∨ s.o a 0 = 301) ∧ c = c0 ∧ lim' = lim ∨
   s.o a 0 = 302 ∧ c = c0 ∧ TTc (tcI s) DT KT (s.o a 9) c0 ∧ (∃ v : Int, lim = v :: v :: lim' ∧ lmh lim' ≤ v) ∨
   s.o a 0 = 203 ∧ c = c0 ∧ TTc (tcI s) DT KT (s.o a 10) c0 ∧ lim' = lim ∨
   (s.o a 0 = 204 ∨ s.o a 0 = 303) ∧ c = c0 ∧ TTc (tcI s) DT KT (s.o a 9) c0 ∧ lim' = lim ∨
   (s.o a 0 = 205 ∨ s.o a 0 = 207 ∨ s.o a 0 = 304) ∧ c = c0 ∧ TTc (tcI s) DT KT (s.o a 9) c0 ∧ TTc (tcI s) DT KT (s.o a 10) c0 ∧ lim' = lim ∨
   s.o a 0 = 206 ∧ c = c0 ∧ TTc (tcI s) DT KT (s.o a 9) c0 ∧ TTc (tcI s) DT KT (s.o a 10) c0 ∧ TTc (tcI s) DT KT (s.o a 11) c0 ∧ lim' = lim ∨
   s.o a 0 = 218 ∧ c = c0 ∧ TTc (tcI s) DT KT (s.o a 9) c0 ∧ TTc (tcI s) DT KT (s.o a 10) c0 ∧ ((s.o a 11).toInt < 0 ∨ TTc (tcI s) DT KT (s.o a 11) c0) ∧ (∃ (l : Int) (T : List Int), lim = l :: T ∧ lim' = (s.o a 13).toInt :: T ∧ (s.o a 13).toInt ≤ l ∧ (∀ i : Nat, (s.o a 13).toInt ≤ (i : Int) → (i : Int) < l → TTc (tcI s) DT KT (s.a 19 i) c0)) ∨
   s.o a 0 = 212 ∧ c = 0 :: c0 ∧ TTc (tcI s) DT KT (s.o a 9) c0 ∧ lim' = lim ∨
   s.o a 0 = 213 ∧ c = 1 :: c0 ∧ TTc (tcI s) DT KT (s.o a 9) c0 ∧ TTc (tcI s) DT KT (s.o a 10) (2 :: c0) ∧ KTc (tcI s) DT KT (s.o a 11) (3 :: c0) ∧ lim' = lim ∨
   s.o a 0 = 215 ∧ c = 2 :: c0 ∧ TTc (tcI s) DT KT (s.o a 9) c0 ∧ TTc (tcI s) DT KT (s.o a 10) (2 :: c0) ∧ KTc (tcI s) DT KT (s.o a 11) (3 :: c0) ∧ lim' = lim ∨
   s.o a 0 = 305 ∧ c = 2 :: c0 ∧ TTc (tcI s) DT KT (s.o a 9) c0 ∧ KTc (tcI s) DT KT (s.o a 11) (3 :: c0) ∧ lim' = lim ∨
   s.o a 0 = 216 ∧ c = 3 :: c0 ∧ TTc (tcI s) DT KT (s.o a 9) c0 ∧ lim' = lim)
/-- an arm's sign for its choice -/
def arx (s : CS) (a : Nat) : Int := if s.o a 0 = 302 then 1 else 0
theorem arx.nn (s : CS) (a : Nat) : 0 ≤ arx s a := by
  unfold arx
  by_cases q : s.o a 0 = 302
  · rw [if_pos q]; decide
  · rw [if_neg q]; decide
/-- the begun rows -/
def RCH (s : CS) (DT : Nat → List Nat) (KT : Nat → Prop) : Nat → List Nat → List Int → Prop
  | 0, c, lim => c = [] ∧ ∃ l : Int, lim = [l] ∧ 0 ≤ l
  | n + 1, c, lim => ∃ (a : Nat) (c0 : List Nat) (lim' : List Int), s.r 51 n = some a ∧ (c0.length : Int) ≤ SGS s n + arx s a ∧ ROW1 s DT KT a c0 c lim lim' ∧ RCH s DT KT n c0 lim'
/-- the rows' names rise -/
def NMB (s : CS) : Prop := ∀ i a : Nat, (i : Int) < cnI s → s.r 51 i = some a → (s.o a 3).toInt ≤ nmI s ∧ ∀ j b : Nat, i < j → (j : Int) < cnI s → s.r 51 j = some b → (s.o a 3).toInt ≤ (s.o b 3).toInt
theorem NMB.of {s R : CS} (h : NMB s) (hc : cnI R = cnI s) (hn : nmI R = nmI s) (hr : ∀ i a : Nat, (i : Int) < cnI s → R.r 51 i = some a → s.r 51 i = some a ∧ R.o a = s.o a) : NMB R := fun i a hi e => by
  rw [hc] at hi
  have q := hr i a hi e
  have z := h i a hi q.1
  rw [hn, q.2]
  refine ⟨z.1, fun j b y1 y2 y3 => ?_⟩
  rw [hc] at y2
  have w := hr j b y2 y3
  rw [w.2]
  exact z.2 j b y1 y2 w.1
/-- what stands while there is no fault: cD behind the code, c in the rows, X the targets that the running methods know, P those that they will aim -/
def GW (cD c : List Nat) (X : List (Nat × List Nat)) (P : List Nat) (lim : List Int) (s : CS) : Prop := ∃ (D DT : Nat → List Nat) (KT : Nat → Prop), CDT s D DT KT ∧ TGS s D DT ∧ UNA s KT P ∧ (0 ≤ szI s ∧ D (szI s).toNat = cD ∧ D 0 = []) ∧ (∀ q ∈ X, (q.1 : Int) < tcI s ∧ DT q.1 = q.2 ∧ ¬ KT q.1) ∧ (∃ n : Nat, (n : Int) = cnI s ∧ n ≤ 400 ∧ RCH s DT KT n c lim) ∧ (∀ n : Nat, (n : Int) < nmI s → NMT (s.a 49 n) c) ∧ 0 ≤ tcI s ∧ lmh lim ≤ ccI s ∧ NMB s
theorem TTc.mono {tc tc' : Int} {DT DT' : Nat → List Nat} {KT KT' : Nat → Prop} {t : Int32} {d : List Nat} (h : TTc tc DT KT t d) (ht : tc ≤ tc') (hd : ∀ k : Nat, (k : Int) < tc → DT' k = DT k ∧ (KT' k ↔ KT k)) : TTc tc' DT' KT' t d := by
  obtain ⟨h1, h2, h3, h4⟩ := h
  have q := hd t.toInt.toNat (by omega)
  exact ⟨h1, by omega, by rw [q.1]; exact h3, fun z => h4 (q.2.mp z)⟩
theorem KTc.mono {tc tc' : Int} {DT DT' : Nat → List Nat} {KT KT' : Nat → Prop} {t : Int32} {d : List Nat} (h : KTc tc DT KT t d) (ht : tc ≤ tc') (hd : ∀ k : Nat, (k : Int) < tc → DT' k = DT k ∧ (KT' k ↔ KT k)) : KTc tc' DT' KT' t d := by
  obtain ⟨h1, h2, h3, h4⟩ := h
  have q := hd t.toInt.toNat (by omega)
  exact ⟨h1, by omega, by rw [q.1]; exact h3, q.2.mpr h4⟩
theorem IOK.mono {tc tc' : Int} {DT DT' : Nat → List Nat} {KT KT' : Nat → Prop} {o x : Int32} {c c' : List Nat} (h : IOK tc DT KT o x c c') (ht : tc ≤ tc') (hd : ∀ k : Nat, (k : Int) < tc → DT' k = DT k ∧ (KT' k ↔ KT k)) : IOK tc' DT' KT' o x c c' := by
  obtain ⟨h1, h2, h3, h4, h5, h6, h7, h8, h9, h10, h11, h12, h13⟩ := h
  refine ⟨h1, fun q => (h2 q).mono ht hd, fun q r => ⟨((h3 q r).1).mono ht hd, (h3 q r).2⟩, h4, h5, h6, fun q => ⟨(h7 q).1, (h7 q).2.1.mono ht hd, (h7 q).2.2.mono ht hd⟩, fun q => ⟨(h8 q).1.mono ht hd, (h8 q).2⟩, h9, h10, fun q => ?_, h12, h13⟩
  obtain ⟨g, g1, g2, g3⟩ := h11 q
  exact ⟨g, g1, g2, g3.mono ht hd⟩
/-- what a row's typing looks at -/
def RW9 (s R : CS) (a : Nat) (lim : List Int) : Prop := R.o a = s.o a ∧ tcI s ≤ tcI R ∧ (∀ n : Nat, (n : Int) < (s.o a 3).toInt → R.a 49 n = s.a 49 n) ∧ (∀ i : Nat, (i : Int) < lmh lim → R.a 19 i = s.a 19 i) ∧ (∀ t : Nat, (t : Int) < tcI s → 0 ≤ (s.a 17 t).toInt → 0 ≤ (R.a 17 t).toInt)
theorem ROW1.mono {s R : CS} {DT DT' : Nat → List Nat} {KT KT' : Nat → Prop} {a : Nat} {c0 c : List Nat} {lim lim' : List Int} (h : ROW1 s DT KT a c0 c lim lim') (hr : RW9 s R a lim) (hd : ∀ k : Nat, (k : Int) < tcI s → DT' k = DT k ∧ (KT' k ↔ KT k)) : ROW1 R DT' KT' a c0 c lim lim' := by
  obtain ⟨e, ht, hn, hc, ha⟩ := hr
  obtain ⟨h1, h2, h3⟩ := h
  have tm : ∀ {t : Int32} {d : List Nat}, TTc (tcI s) DT KT t d → TTc (tcI R) DT' KT' t d := fun q => q.mono ht hd
  have km : ∀ {t : Int32} {d : List Nat}, KTc (tcI s) DT KT t d → KTc (tcI R) DT' KT' t d := fun q => q.mono ht hd
  refine ⟨by rw [e]; exact h1, fun n q => by rw [e] at q; rw [hn n q]; exact h2 n q, ?_⟩
  rw [e]
  rcases h3 with z | ⟨z1, z2, z3, z4⟩ | ⟨z1, z2, z3, z4⟩ | ⟨z1, z2, z3, z4⟩ | ⟨z1, z2, z3, z4, z5⟩ | ⟨z1, z2, z3, z4, z5, z6⟩ | ⟨z1, z2, z3, z4, z5, l, T, y1, y2, y3, y4⟩ | ⟨z1, z2, z3, z4⟩ | ⟨z1, z2, z3, z4, z5, z6⟩ | ⟨z1, z2, z3, z4, z5, z6⟩ | ⟨z1, z2, z3, z4, z5⟩ | ⟨z1, z2, z3, z4⟩
  · exact Or.inl z
  · exact Or.inr (Or.inl ⟨z1, z2, tm z3, z4⟩)
  · exact Or.inr (Or.inr (Or.inl ⟨z1, z2, tm z3, z4⟩))
  · exact Or.inr (Or.inr (Or.inr (Or.inl ⟨z1, z2, tm z3, z4⟩)))
  · exact Or.inr (Or.inr (Or.inr (Or.inr (Or.inl ⟨z1, z2, tm z3, tm z4, z5⟩))))
  · exact Or.inr (Or.inr (Or.inr (Or.inr (Or.inr (Or.inl ⟨z1, z2, tm z3, tm z4, tm z5, z6⟩)))))
  · refine Or.inr (Or.inr (Or.inr (Or.inr (Or.inr (Or.inr (Or.inl ⟨z1, z2, tm z3, tm z4, ?_, l, T, y1, y2, y3, fun i q1 q2 => ?_⟩))))))
    · rcases z5 with z5 | z5
      · exact Or.inl z5
      · exact Or.inr (tm z5)
    · rw [hc i (by rw [y1]; exact q2)]; exact tm (y4 i q1 q2)
  · exact Or.inr (Or.inr (Or.inr (Or.inr (Or.inr (Or.inr (Or.inr (Or.inl ⟨z1, z2, tm z3, z4⟩)))))))
  · exact Or.inr (Or.inr (Or.inr (Or.inr (Or.inr (Or.inr (Or.inr (Or.inr (Or.inl ⟨z1, z2, tm z3, tm z4, km z5, z6⟩))))))))
  · exact Or.inr (Or.inr (Or.inr (Or.inr (Or.inr (Or.inr (Or.inr (Or.inr (Or.inr (Or.inl ⟨z1, z2, tm z3, tm z4, km z5, z6⟩)))))))))
  · exact Or.inr (Or.inr (Or.inr (Or.inr (Or.inr (Or.inr (Or.inr (Or.inr (Or.inr (Or.inr (Or.inl ⟨z1, z2, tm z3, km z4, z5⟩))))))))))
  · exact Or.inr (Or.inr (Or.inr (Or.inr (Or.inr (Or.inr (Or.inr (Or.inr (Or.inr (Or.inr (Or.inr ⟨z1, z2, tm z3, z4⟩))))))))))
theorem ROW1.lim {s : CS} {DT : Nat → List Nat} {KT : Nat → Prop} {a : Nat} {c0 c : List Nat} {lim lim' : List Int} (h : ROW1 s DT KT a c0 c lim lim') : lmh lim' ≤ lmh lim := by
  obtain ⟨h1, h2, h3⟩ := h
  rcases h3 with ⟨z1, z2, e⟩ | ⟨z1, z2, z3, v, e1, e2⟩ | ⟨z1, z2, z3, e⟩ | ⟨z1, z2, z3, e⟩ | ⟨z1, z2, z3, z4, e⟩ | ⟨z1, z2, z3, z4, z5, e⟩ | ⟨z1, z2, z3, z4, z5, l, T, y1, y2, y3, y4⟩ | ⟨z1, z2, z3, e⟩ | ⟨z1, z2, z3, z4, z5, e⟩ | ⟨z1, z2, z3, z4, z5, e⟩ | ⟨z1, z2, z3, z4, e⟩ | ⟨z1, z2, z3, e⟩
  · rw [e]; exact Int.le_refl _
  · rw [e1]; exact e2
  · rw [e]; exact Int.le_refl _
  · rw [e]; exact Int.le_refl _
  · rw [e]; exact Int.le_refl _
  · rw [e]; exact Int.le_refl _
  · rw [y1, y2]; exact y3
  · rw [e]; exact Int.le_refl _
  · rw [e]; exact Int.le_refl _
  · rw [e]; exact Int.le_refl _
  · rw [e]; exact Int.le_refl _
  · rw [e]; exact Int.le_refl _
theorem RCH.mono {s R : CS} {DT DT' : Nat → List Nat} {KT KT' : Nat → Prop} (ht : tcI s ≤ tcI R) (hd : ∀ k : Nat, (k : Int) < tcI s → DT' k = DT k ∧ (KT' k ↔ KT k)) (ha : ∀ t : Nat, (t : Int) < tcI s → 0 ≤ (s.a 17 t).toInt → 0 ≤ (R.a 17 t).toInt) : ∀ {n : Nat} {c : List Nat} {lim : List Int}, RCH s DT KT n c lim → RSQ s R n → (∀ m : Nat, (m : Int) < lmh lim → R.a 19 m = s.a 19 m) → (∀ i a : Nat, i < n → s.r 51 i = some a → ∀ m : Nat, (m : Int) < (s.o a 3).toInt → R.a 49 m = s.a 49 m) → NR s n → RCH R DT' KT' n c lim
  | 0, _, _, h, _, _, _, _ => h
  | n + 1, c, lim, h, hs, hc, hn, nr => by
    obtain ⟨a, c0, lim', h1, h2, h3, h4⟩ := h
    have q := hs n (Nat.lt_succ_self n)
    have hl := h3.lim
    refine ⟨a, c0, lim', q.1.trans h1, ?_, h3.mono ⟨(q.2 a h1).1, ht, fun m hm => hn n a (Nat.lt_succ_self n) h1 m hm, hc, ha⟩ hd, RCH.mono ht hd ha h4 (hs.lo (Nat.le_succ n)) (fun m hm => hc m (by omega)) (fun i a' hi => hn i a' (by omega)) (fun i hi => nr i (by omega))⟩
    rw [((hs.lo (Nat.le_succ n)).sums (fun i hi => nr i (by omega))).2.1]
    have ax : arx R a = arx s a := by unfold arx; rw [(q.2 a h1).1]
    rw [ax]
    exact h2
theorem RCH.nr {s : CS} {DT : Nat → List Nat} {KT : Nat → Prop} : ∀ {n : Nat} {c : List Nat} {lim : List Int}, RCH s DT KT n c lim → NR s n
  | 0, _, _, _, i, hi => by omega
  | n + 1, _, _, ⟨a, c0, lim', h1, h2, h3, h4⟩, i, hi => by
    by_cases e : i = n
    · exact ⟨a, by rw [e]; exact h1⟩
    · exact RCH.nr h4 i (by omega)
end
section
/-! the class's reading: an instruction, a target, an aim -/
/-- code, rows and names are as they were -/
def CK0 (s R : CS) : Prop := (R.a 15 = s.a 15 ∧ R.a 16 = s.a 16 ∧ R.a 17 = s.a 17 ∧ R.a 19 = s.a 19 ∧ R.a 49 = s.a 49) ∧ (R.i 20 = s.i 20 ∧ R.i 21 = s.i 21 ∧ R.i 50 = s.i 50 ∧ R.i 53 = s.i 53) ∧ R.r 51 = s.r 51 ∧ (∀ a : Nat, oK s a 0 → R.o a = s.o a ∧ R.ol a = s.ol a)
theorem CK0.rf (s : CS) : CK0 s s := ⟨⟨rfl, rfl, rfl, rfl, rfl⟩, ⟨rfl, rfl, rfl, rfl⟩, rfl, fun _ _ => ⟨rfl, rfl⟩⟩
theorem CK0.rsq {s R : CS} (h : CK0 s R) (hr : REFS s) {n : Nat} (hn : n ≤ 400) : RSQ s R n := fun i hi => ⟨by rw [h.2.2.1], fun a e => h.2.2.2 a (hr.2.1 i a (by omega) e)⟩
theorem OWN.of {s R : CS} {t : Nat} (h : OWN s t) (hc : cnI s ≤ cnI R) (hs : ∀ i a : Nat, (i : Int) < cnI s → s.r 51 i = some a → R.r 51 i = some a ∧ R.o a = s.o a) : OWN R t := by
  obtain ⟨i, a, h1, h2, h3⟩ := h
  have q := hs i a h1 h2
  exact ⟨i, a, by omega, q.1, by unfold OWS at *; rw [q.2]; exact h3⟩
theorem GW.ck0 {cD c : List Nat} {X : List (Nat × List Nat)} {P : List Nat} {lim : List Int} {s R : CS} (h : GW cD c X P lim s) (hr : REFS s) (hk : CK0 s R) (hl : lmh lim ≤ ccI R) : GW cD c X P lim R := by
  obtain ⟨D, DT, KT, h1, h2, h3, h4, h5, ⟨n, n1, n2, n3⟩, h7, h8⟩ := h
  have rq := hk.rsq hr n2
  obtain ⟨⟨e1, e2, e3, e4, e5⟩, ⟨e6, e7, e8, e9⟩, e10, e11⟩ := hk
  have etc : tcI R = tcI s := by unfold tcI; rw [e7]
  have esz : szI R = szI s := by unfold szI; rw [e6]
  have ecn : cnI R = cnI s := by unfold cnI; rw [e9]
  have enm : nmI R = nmI s := by unfold nmI; rw [e8]
  refine ⟨D, DT, KT, ?_, ?_, fun t q1 q2 q3 => ?_, by rw [esz]; exact h4, by rw [etc]; exact h5, ⟨n, by rw [ecn]; exact n1, n2, ?_⟩, by rw [enm, e5]; exact h7, by rw [etc]; exact h8.1, hl, h8.2.2.of ecn enm (fun i a hi e => by rw [e10] at e; exact ⟨e, (e11 a (hr.2.1 i a (by omega) e)).1⟩)⟩
  · unfold CDT at *; rw [e1, e2, etc, esz]; exact h1
  · unfold TGS at *; rw [e3, etc, esz]; exact h2
  · rw [etc] at q1
    rw [e3] at q3
    rcases h3 t q1 q2 q3 with z | z
    · exact Or.inl z
    · exact Or.inr (z.of (by omega) (fun i a hi e => ⟨by rw [e10]; exact e, (e11 a (hr.2.1 i a (by omega) e)).1⟩))
  · exact n3.mono (by omega) (fun _ _ => ⟨rfl, Iff.rfl⟩) (fun t _ q => by rw [e3]; exact q) rq (fun m _ => by rw [e4]) (fun _ _ _ _ m _ => by rw [e5]) n3.nr
def CK (s R : CS) : Prop := CK0 s R ∧ R.i 22 = s.i 22
theorem CK.rf (s : CS) : CK s s := ⟨CK0.rf s, rfl⟩
theorem CK.rsq {s R : CS} (h : CK s R) (hr : REFS s) {n : Nat} (hn : n ≤ 400) : RSQ s R n := h.1.rsq hr hn
theorem GW.lim {cD c : List Nat} {X : List (Nat × List Nat)} {P : List Nat} {lim : List Int} {s : CS} (h : GW cD c X P lim s) : lmh lim ≤ ccI s := by
  obtain ⟨D, DT, KT, h1, h2, h3, h4, h5, h6, h7, h8⟩ := h
  exact h8.2.1
theorem GW.ck {cD c : List Nat} {X : List (Nat × List Nat)} {P : List Nat} {lim : List Int} {s R : CS} (h : GW cD c X P lim s) (hr : REFS s) (hk : CK s R) : GW cD c X P lim R := h.ck0 hr hk.1 (by unfold ccI; rw [hk.2]; exact h.lim)
/-- an instruction more -/
def ADD (s R : CS) (o x : Int32) : Prop := (R.hs = s.hs ∧ R.L = s.L ∧ R.k = s.k ∧ R.o = s.o ∧ R.ol = s.ol ∧ R.ot = s.ot ∧ R.r = s.r ∧ R.w = s.w ∧ R.b = s.b ∧ R.l = s.l) ∧ (∀ j : Nat, j ≠ 20 → R.i j = s.i j) ∧ R.i 20 = s.i 20 + 1 ∧ (∀ k : Nat, k ≠ 15 → k ≠ 16 → R.a k = s.a k) ∧ R.a 15 = gPut (s.a 15) 1200 (s.i 20) o ∧ R.a 16 = gPut (s.a 16) 1200 (s.i 20) x
theorem q_add (N : Nat) (s : CS) (o x : Int32) : ok (f_X0_add N s o x) (fun R => ADD s R.2 o x) := by
  unfold f_X0_add
  have e16 : CS.a (CS.putA s 15 (gPut (s.a 15) 1200 (s.i 20) o)) 16 = s.a 16 := ca_ne _ _ _ (by decide)
  rw [e16]
  refine ok_some ⟨⟨?_, ?_, ?_, ?_, ?_, ?_, ?_, ?_, ?_, ?_⟩, fun j hj => ?_, ?_, fun k q1 q2 => ?_, ?_, ?_⟩
  · rw [chs_setI, chs_putA, chs_putA]
  · rw [cL_setI, cL_putA, cL_putA]
  · rw [ck_setI, ck_putA, ck_putA]
  · rw [co_setI, co_putA, co_putA]
  · rw [col_setI, col_putA, col_putA]
  · rw [cot_setI, cot_putA, cot_putA]
  · rw [cr_setI, cr_putA, cr_putA]
  · rw [cw_setI, cw_putA, cw_putA]
  · rw [cb_setI, cb_putA, cb_putA]
  · rw [cl_setI, cl_putA, cl_putA]
  · rw [ci_ne _ _ _ hj, ci_putA, ci_putA]
  · rw [ci_at]
  · rw [ca_setI, ca_ne _ _ _ q2, ca_ne _ _ _ q1]
  · rw [ca_setI, ca_ne _ _ _ (by decide), ca_put]
  · rw [ca_setI, ca_put]
theorem gPut_ne {f : Nat → Int32} {n : Nat} {i v : Int32} {p : Nat} (h : (p : Int) ≠ i.toInt) : gPut f n i v p = f p := by
  unfold gPut
  by_cases c : ib i n
  · rw [if_pos c]
    have := clampI c.1
    exact if_neg (by omega)
  · rw [if_neg c]
theorem gPut_at {f : Nat → Int32} {n : Nat} {i v : Int32} {p : Nat} (h : (p : Int) = i.toInt) (hn : p < n) : gPut f n i v p = v := by
  unfold gPut
  have c : ib i n := ⟨by omega, by omega⟩
  rw [if_pos c]
  have := clampI c.1
  exact if_pos (by omega)
theorem GW.add {cD c c1 : List Nat} {X : List (Nat × List Nat)} {P : List Nat} {lim : List Int} {s R : CS} {o x : Int32} (h : GW cD c X P lim s) (hr : REFS s) (ha : ADD s R o x) (hs : szI s ≤ 1000000) (hl : cD.length ≤ 21) (hI : ∀ (DT : Nat → List Nat) (KT : Nat → Prop), (∀ q ∈ X, (q.1 : Int) < tcI s ∧ DT q.1 = q.2 ∧ ¬ KT q.1) → (∀ n : Nat, (n : Int) = cnI s → RCH s DT KT n c lim) → (∀ n : Nat, (n : Int) < nmI s → NMT (s.a 49 n) c) → IOK (tcI s) DT KT o x cD c1) : GW c1 c X P lim R := by
  obtain ⟨D, DT, KT, h1, h2, h3, h4, h5, ⟨n, n1, n2, n3⟩, h7, h8⟩ := h
  obtain ⟨⟨b1, b2, b3, b4, b5, b6, b7, b8, b9, b10⟩, b11, b12, b13, b14, b15⟩ := ha
  have e1 : (1 : Int32).toInt = 1 := by decide
  have h40 := h4.1
  have h40' : 0 ≤ (s.i 20).toInt := h40
  have hs' : (s.i 20).toInt ≤ 1000000 := hs
  have esz : szI R = szI s + 1 := by
    show (R.i 20).toInt = (s.i 20).toInt + 1
    rw [b12, toInt_add] <;> rw [e1] <;> omega
  have etc : tcI R = tcI s := by unfold tcI; rw [b11 21 (by decide)]
  have ecn : cnI R = cnI s := by unfold cnI; rw [b11 53 (by decide)]
  have enm : nmI R = nmI s := by unfold nmI; rw [b11 50 (by decide)]
  have eS : ((szI s).toNat : Int) = szI s := Int.toNat_of_nonneg h40
  have nn' : ∀ m : Nat, (m : Int) = cnI s → RCH s DT KT m c lim := fun m hm => by
    have e : m = n := by omega
    rw [e]
    exact n3
  have hio := hI DT KT h5 nn' h7
  refine ⟨fun p => if p = (szI s).toNat + 1 then c1 else D p, DT, KT, fun p p1 p2 => ?_, fun t q => ?_, fun t q1 q2 q3 => ?_, ⟨by omega, ?_, by show (if 0 = (szI s).toNat + 1 then c1 else D 0) = []; rw [if_neg (by omega)]; exact h4.2.2⟩, by rw [etc]; exact h5, ⟨n, by rw [ecn]; exact n1, n2, ?_⟩, by rw [enm, b13 49 (by decide) (by decide)]; exact h7, by rw [etc]; exact h8.1, by unfold ccI; rw [b11 22 (by decide)]; exact h8.2.1, h8.2.2.of ecn enm (fun i a _ e => by rw [b7] at e; exact ⟨e, by rw [b4]⟩)⟩
  · have np : p ≠ (szI s).toNat + 1 := by omega
    show IOK (tcI R) DT KT (R.a 15 p) (R.a 16 p) (if p = (szI s).toNat + 1 then c1 else D p) (if p + 1 = (szI s).toNat + 1 then c1 else D (p + 1)) ∧ (if p = (szI s).toNat + 1 then c1 else D p).length ≤ 21
    rw [if_neg np, etc, b14, b15]
    by_cases c9 : (p : Int) = szI s
    · have e' : p = (szI s).toNat := by omega
      rw [gPut_at c9 p1, gPut_at c9 p1, if_pos (by omega), e', h4.2.1]
      exact ⟨hio, hl⟩
    · rw [gPut_ne c9, gPut_ne c9, if_neg (by omega)]
      exact h1 p p1 (by omega)
  · rw [etc] at q
    rw [b13 17 (by decide) (by decide), esz]
    rcases h2 t q with z | ⟨z1, z2, z3⟩
    · exact Or.inl z
    · refine Or.inr ⟨z1, by omega, ?_⟩
      show (if (s.a 17 t).toInt.toNat = (szI s).toNat + 1 then c1 else D (s.a 17 t).toInt.toNat) = DT t
      rw [if_neg (by omega)]
      exact z3
  · rw [etc] at q1
    rw [b13 17 (by decide) (by decide)] at q3
    rcases h3 t q1 q2 q3 with z | z
    · exact Or.inl z
    · exact Or.inr (z.of (by omega) (fun i a _ e => ⟨by rw [b7]; exact e, by rw [b4]⟩))
  · show (if (szI R).toNat = (szI s).toNat + 1 then c1 else D (szI R).toNat) = c1
    rw [if_pos (by omega)]
  · exact n3.mono (by omega) (fun _ _ => ⟨rfl, Iff.rfl⟩) (fun t _ q => by rw [b13 17 (by decide) (by decide)]; exact q) (fun i _ => ⟨by rw [b7], fun a _ => ⟨by rw [b4], by rw [b5]⟩⟩) (fun m _ => by rw [b13 19 (by decide) (by decide)]) (fun _ _ _ _ m _ => by rw [b13 49 (by decide) (by decide)]) n3.nr
/-- a new target -/
def NTG (s R : CS) : Prop := (R.hs = s.hs ∧ R.L = s.L ∧ R.k = s.k ∧ R.o = s.o ∧ R.ol = s.ol ∧ R.ot = s.ot ∧ R.r = s.r ∧ R.w = s.w ∧ R.b = s.b ∧ R.l = s.l) ∧ (∀ j : Nat, j ≠ 21 → R.i j = s.i j) ∧ R.i 21 = s.i 21 + 1 ∧ (∀ k : Nat, k ≠ 17 → R.a k = s.a k) ∧ R.a 17 = gPut (s.a 17) 1024 (s.i 21) (-1)
theorem q_newTarget (N : Nat) (s : CS) : ok (f_X0_newTarget N s) (fun R => NTG s R.2 ∧ R.1 = s.i 21) := by
  unfold f_X0_newTarget
  refine ok_some ⟨⟨⟨?_, ?_, ?_, ?_, ?_, ?_, ?_, ?_, ?_, ?_⟩, fun j hj => ?_, ?_, fun k q1 => ?_, ?_⟩, Int32.add_sub_cancel ..⟩
  · rw [chs_setI, chs_putA]
  · rw [cL_setI, cL_putA]
  · rw [ck_setI, ck_putA]
  · rw [co_setI, co_putA]
  · rw [col_setI, col_putA]
  · rw [cot_setI, cot_putA]
  · rw [cr_setI, cr_putA]
  · rw [cw_setI, cw_putA]
  · rw [cb_setI, cb_putA]
  · rw [cl_setI, cl_putA]
  · rw [ci_ne _ _ _ hj, ci_putA]
  · rw [ci_at]
  · rw [ca_setI, ca_ne _ _ _ q1]
  · rw [ca_setI, ca_put]
theorem GW.tg {cD c : List Nat} {X : List (Nat × List Nat)} {P : List Nat} {lim : List Int} {s R : CS} (h : GW cD c X P lim s) (hr : NTG s R) (ht : tcI s ≤ 1020) (d : List Nat) (kf : Prop) : ∃ (D DT : Nat → List Nat) (KT : Nat → Prop), CDT R D DT KT ∧ TGS R D DT ∧ UNA R KT ((tcI s).toNat :: P) ∧ (0 ≤ szI R ∧ D (szI R).toNat = cD ∧ D 0 = []) ∧ (∀ q ∈ X, (q.1 : Int) < tcI R ∧ DT q.1 = q.2 ∧ ¬ KT q.1) ∧ (∃ n : Nat, (n : Int) = cnI R ∧ n ≤ 400 ∧ RCH R DT KT n c lim) ∧ (∀ n : Nat, (n : Int) < nmI R → NMT (R.a 49 n) c) ∧ (0 ≤ tcI R ∧ lmh lim ≤ ccI R ∧ NMB R) ∧ tcI R = tcI s + 1 ∧ DT (tcI s).toNat = d ∧ (KT (tcI s).toNat ↔ kf) := by
  obtain ⟨D, DT, KT, h1, h2, h3, h4, h5, ⟨n, n1, n2, n3⟩, h7, h8⟩ := h
  obtain ⟨⟨b1, b2, b3, b4, b5, b6, b7, b8, b9, b10⟩, b11, b12, b13, b14⟩ := hr
  have e1 : (1 : Int32).toInt = 1 := by decide
  have em : (-1 : Int32).toInt = -1 := by decide
  have h9 := h8.2
  have h8 := h8.1
  have h8' : 0 ≤ (s.i 21).toInt := h8
  have ht' : (s.i 21).toInt ≤ 1020 := ht
  have etc : tcI R = tcI s + 1 := by
    show (R.i 21).toInt = (s.i 21).toInt + 1
    rw [b12, toInt_add] <;> rw [e1] <;> omega
  have esz : szI R = szI s := by unfold szI; rw [b11 20 (by decide)]
  have ecn : cnI R = cnI s := by unfold cnI; rw [b11 53 (by decide)]
  have enm : nmI R = nmI s := by unfold nmI; rw [b11 50 (by decide)]
  have eT : ((tcI s).toNat : Int) = tcI s := Int.toNat_of_nonneg h8
  obtain ⟨DT', hD⟩ : ∃ DT' : Nat → List Nat, DT' = fun t => if t = (tcI s).toNat then d else DT t := ⟨_, rfl⟩
  obtain ⟨KT', hK⟩ : ∃ KT' : Nat → Prop, KT' = fun t => (t = (tcI s).toNat ∧ kf) ∨ (t ≠ (tcI s).toNat ∧ KT t) := ⟨_, rfl⟩
  have dn : ∀ t : Nat, t ≠ (tcI s).toNat → DT' t = DT t ∧ (KT' t ↔ KT t) := fun t q => by
    rw [hD, hK]
    refine ⟨if_neg q, ⟨fun z => ?_, fun z => Or.inr ⟨q, z⟩⟩⟩
    rcases z with z | z
    · exact absurd z.1 q
    · exact z.2
  have d0 : DT' (tcI s).toNat = d := by rw [hD]; exact if_pos rfl
  have k0 : KT' (tcI s).toNat ↔ kf := by
    rw [hK]
    exact ⟨fun z => by
      rcases z with z | z
      · exact z.2
      · exact absurd rfl z.1, fun z => Or.inl ⟨rfl, z⟩⟩
  clear hD hK
  have lo : ∀ k : Nat, (k : Int) < tcI s → DT' k = DT k ∧ (KT' k ↔ KT k) := fun k q => dn k (by omega)
  have a17n : ∀ t : Nat, (t : Int) ≠ tcI s → R.a 17 t = s.a 17 t := fun t q => by rw [b14]; exact gPut_ne q
  have a17t : R.a 17 (tcI s).toNat = -1 := by rw [b14]; exact gPut_at eT (by omega)
  refine ⟨D, DT', KT', fun p p1 p2 => ?_, fun t q => ?_, fun t q1 q2 q3 => ?_, by rw [esz]; exact h4, fun q hq => ?_, ⟨n, by rw [ecn]; exact n1, n2, ?_⟩, by rw [enm, b13 49 (by decide)]; exact h7, ⟨by omega, by unfold ccI; rw [b11 22 (by decide)]; exact h9.1, h9.2.of ecn enm (fun i a _ e => by rw [b7] at e; exact ⟨e, by rw [b4]⟩)⟩, etc, d0, k0⟩
  · rw [esz] at p2
    have z := h1 p p1 p2
    rw [b13 15 (by decide), b13 16 (by decide)]
    exact ⟨z.1.mono (by omega) lo, z.2⟩
  · by_cases e : t = (tcI s).toNat
    · left; rw [e, a17t]; exact em
    · rw [a17n t (by omega), esz, (dn t e).1]
      exact h2 t (by omega)
  · by_cases e : t = (tcI s).toNat
    · left; rw [e]; exact List.mem_cons_self ..
    · rw [a17n t (by omega)] at q3
      rcases h3 t (by omega) (fun z => q2 ((dn t e).2.mpr z)) q3 with z | z
      · exact Or.inl (List.mem_cons_of_mem _ z)
      · exact Or.inr (z.of (by omega) (fun i a _ e => ⟨by rw [b7]; exact e, by rw [b4]⟩))
  · obtain ⟨z1, z2, z3⟩ := h5 q hq
    have y := lo q.1 z1
    exact ⟨by omega, by rw [y.1]; exact z2, fun w => z3 (y.2.mp w)⟩
  · refine n3.mono (by omega) lo (fun t q0 q => ?_) (fun i _ => ⟨by rw [b7], fun a _ => ⟨by rw [b4], by rw [b5]⟩⟩) (fun m _ => by rw [b13 19 (by decide)]) (fun _ _ _ _ m _ => by rw [b13 49 (by decide)]) n3.nr
    rw [a17n t (by omega)]; exact q
theorem GW.new {cD c : List Nat} {X : List (Nat × List Nat)} {P : List Nat} {lim : List Int} {s R : CS} (h : GW cD c X P lim s) (hr : NTG s R) (ht : tcI s ≤ 1020) (d : List Nat) : GW cD c (((tcI s).toNat, d) :: X) ((tcI s).toNat :: P) lim R := by
  have h8 : 0 ≤ tcI s := by
    obtain ⟨D, DT, KT, h1, h2, h3, h4, h5, h6, h7, h8⟩ := h
    exact h8.1
  obtain ⟨D, DT, KT, h1, h2, h3, h4, h5, h6, h7, h8', h9, h10, h11⟩ := h.tg hr ht d False
  refine ⟨D, DT, KT, h1, h2, h3, h4, fun q hq => ?_, h6, h7, h8'⟩
  rcases List.mem_cons.mp hq with e | e
  · rw [e]
    exact ⟨by show ((tcI s).toNat : Int) < tcI R; omega, h10, fun z => h11.mp z⟩
  · exact h5 q e
/-- a target gets its place -/
def AIM (s R : CS) (t : Int32) : Prop := (R.hs = s.hs ∧ R.L = s.L ∧ R.k = s.k ∧ R.o = s.o ∧ R.ol = s.ol ∧ R.ot = s.ot ∧ R.r = s.r ∧ R.w = s.w ∧ R.b = s.b ∧ R.l = s.l) ∧ R.i = s.i ∧ (∀ k : Nat, k ≠ 17 → R.a k = s.a k) ∧ R.a 17 = gPut (s.a 17) 1024 t (s.i 20)
theorem q_aim (N : Nat) (s : CS) (t : Int32) : ok (f_X0_aim N s t) (fun R => AIM s R.2 t) := by
  unfold f_X0_aim
  exact ok_some ⟨⟨chs_putA .., cL_putA .., ck_putA .., co_putA .., col_putA .., cot_putA .., cr_putA .., cw_putA .., cb_putA .., cl_putA ..⟩, ci_putA .., fun k q => ca_ne _ _ _ q, ca_put ..⟩
theorem GW.aim {cD c : List Nat} {X : List (Nat × List Nat)} {P P' : List Nat} {lim : List Int} {s R : CS} {t : Int32} (h : GW cD c X P lim s) (ha : AIM s R t) (ht : tcI s ≤ 1024) (hT : ∀ (DT : Nat → List Nat) (KT : Nat → Prop), (∀ q ∈ X, (q.1 : Int) < tcI s ∧ DT q.1 = q.2 ∧ ¬ KT q.1) → (∀ n : Nat, (n : Int) = cnI s → RCH s DT KT n c lim) → 0 ≤ t.toInt ∧ t.toInt < tcI s ∧ DT t.toInt.toNat = cD) (hP : ∀ k ∈ P, k ∈ P' ∨ (k : Int) = t.toInt) : GW cD c X P' lim R := by
  obtain ⟨D, DT, KT, h1, h2, h3, h4, h5, ⟨n, n1, n2, n3⟩, h7, h8⟩ := h
  obtain ⟨⟨b1, b2, b3, b4, b5, b6, b7, b8, b9, b10⟩, b11, b13, b14⟩ := ha
  have nn' : ∀ m : Nat, (m : Int) = cnI s → RCH s DT KT m c lim := fun m hm => by
    have e : m = n := by omega
    rw [e]
    exact n3
  obtain ⟨t0, t1, t2⟩ := hT DT KT h5 nn'
  have etc : tcI R = tcI s := by unfold tcI; rw [b11]
  have esz : szI R = szI s := by unfold szI; rw [b11]
  have ecn : cnI R = cnI s := by unfold cnI; rw [b11]
  have enm : nmI R = nmI s := by unfold nmI; rw [b11]
  have a17n : ∀ k : Nat, (k : Int) ≠ t.toInt → R.a 17 k = s.a 17 k := fun k q => by rw [b14]; exact gPut_ne q
  have a17t : ∀ k : Nat, (k : Int) = t.toInt → R.a 17 k = s.i 20 := fun k q => by rw [b14]; exact gPut_at q (by omega)
  have h40 : 0 ≤ (s.i 20).toInt := h4.1
  refine ⟨D, DT, KT, fun p p1 p2 => ?_, fun k q => ?_, fun k q1 q2 q3 => ?_, by rw [esz]; exact h4, by rw [etc]; exact h5, ⟨n, by rw [ecn]; exact n1, n2, ?_⟩, by rw [enm, b13 49 (by decide)]; exact h7, by rw [etc]; exact h8.1, by unfold ccI; rw [b11]; exact h8.2.1, h8.2.2.of ecn enm (fun i a _ e => by rw [b7] at e; exact ⟨e, by rw [b4]⟩)⟩
  · rw [esz] at p2
    rw [b13 15 (by decide), b13 16 (by decide), etc]
    exact h1 p p1 p2
  · rw [etc] at q
    by_cases e : (k : Int) = t.toInt
    · rw [a17t k e, esz]
      have ek : k = t.toInt.toNat := by omega
      refine Or.inr ⟨h40, Int.le_refl _, ?_⟩
      rw [ek, t2]
      exact h4.2.1
    · rw [a17n k e, esz]; exact h2 k q
  · rw [etc] at q1
    by_cases e : (k : Int) = t.toInt
    · rw [a17t k e] at q3; omega
    · rw [a17n k e] at q3
      rcases h3 k q1 q2 q3 with z | z
      · rcases hP k z with y | y
        · exact Or.inl y
        · exact absurd y e
      · exact Or.inr (z.of (by omega) (fun i a _ e => ⟨by rw [b7]; exact e, by rw [b4]⟩))
  · refine n3.mono (by omega) (fun _ _ => ⟨rfl, Iff.rfl⟩) (fun k _ q => ?_) (fun i _ => ⟨by rw [b7], fun a _ => ⟨by rw [b4], by rw [b5]⟩⟩) (fun m _ => by rw [b13 19 (by decide)]) (fun _ _ _ _ m _ => by rw [b13 49 (by decide)]) n3.nr
    by_cases e : (k : Int) = t.toInt
    · rw [a17t k e]; exact h40
    · rw [a17n k e]; exact q
end
section
/-! the class's reading: what always stands, and the tokens in it -/
def bo (v : Int32) : Prop := v = 0 ∨ v = 1
/-- the room, and the rows that are made and stay -/
abbrev HB : Type := Nat × (Nat → Option Nat) × (Nat → Prop)
def ROOMB (H : HB) (s : CS) : Prop := ROOM H.1 s ∧ (∀ i a : Nat, H.2.1 i = some a → s.r 51 i = some a) ∧ (s.i 32 = 0 → ∀ t : Nat, H.2.2 t → (t : Int) < tcI s ∧ 0 ≤ (s.a 17 t).toInt)
/-- what stands with a fault and without -/
def CBS (H : HB) (s : CS) : Prop := REFS s ∧ ROOMB H s ∧ LC s ∧ WDC s ∧ (¬ s.i 32 = 0 → s.i 43 = 0) ∧ (0 ≤ nmI s ∧ nmI s ≤ 128) ∧ (0 ≤ cnI s ∧ cnI s ≤ 400 ∧ NR s (cnI s).toNat) ∧ (∀ i a : Nat, i < 400 → s.r 51 i = some a → (bo (s.o a 5) ∧ bo (s.o a 6) ∧ bo (s.o a 7) ∧ bo (s.o a 8)) ∧ (0 ≤ (s.o a 3).toInt ∧ (s.o a 3).toInt ≤ 128)) ∧ (bo (s.i 36) ∧ (bo (s.i 14) ∧ (s.i 13).toInt ≤ 12) ∧ bo (s.i 27))
/-- the numbers while there is no fault: a instructions and b targets are not paid yet -/
def NB (a b : Int) (c : List Nat) (s : CS) : Prop := tcI s ≤ eI s + b ∧ (0 ≤ ccI s ∧ 3 * ccI s ≤ plI s) ∧ szI s + 50 * cnI s + 4 * ccI s ≤ 100 * plI s + 100 + a ∧ (0 ≤ sgI s ∧ sgI s ≤ 20) ∧ IQ s (cnI s).toNat ∧ WCS s (cnI s).toNat ≤ eI s ∧ SGS s (cnI s).toNat ≤ sgI s ∧ ((c.length : Int) = dsI s ∧ c.length ≤ 21) ∧ (-1 ≤ (s.i 56).toInt ∧ (s.i 56).toInt < cnI s ∧ ∀ a : Nat, 0 ≤ (s.i 56).toInt → s.r 51 (s.i 56).toInt.toNat = some a → s.o a 0 = 302)
def JJ (H : HB) (a b : Int) (c : List Nat) (X : List (Nat × List Nat)) (P : List Nat) (lim : List Int) (s : CS) : Prop := CBS H s ∧ (s.i 32 = 0 → GW c c X P lim s ∧ NB a b c s)
/-- only tokens, signs and what the typing does not look at change -/
def TS9 (s R : CS) : Prop := (R.hs = s.hs ∧ R.L = s.L ∧ R.k = s.k ∧ R.o = s.o ∧ R.ol = s.ol ∧ R.ot = s.ot ∧ R.r = s.r ∧ R.w = s.w ∧ R.b = s.b ∧ R.a = s.a) ∧ (∀ j : Nat, ¬ (32 ≤ j ∧ j ≤ 34) → ¬ (42 ≤ j ∧ j ≤ 45) → R.i j = s.i j)
theorem TS9.rf (s : CS) : TS9 s s := ⟨⟨rfl, rfl, rfl, rfl, rfl, rfl, rfl, rfl, rfl, rfl⟩, fun _ _ _ => rfl⟩
theorem TS9.tr {s R T : CS} (h : TS9 s R) (g : TS9 R T) : TS9 s T := by
  obtain ⟨⟨a1, a2, a3, a4, a5, a6, a7, a8, a9, a10⟩, b⟩ := h
  obtain ⟨⟨c1, c2, c3, c4, c5, c6, c7, c8, c9, c10⟩, d⟩ := g
  exact ⟨⟨c1.trans a1, c2.trans a2, c3.trans a3, c4.trans a4, c5.trans a5, c6.trans a6, c7.trans a7, c8.trans a8, c9.trans a9, c10.trans a10⟩, fun j q1 q2 => (d j q1 q2).trans (b j q1 q2)⟩
theorem TKC.t9 {s R : CS} (h : TKC s R) : TS9 s R := ⟨⟨h.1.1, h.1.2.1, h.1.2.2.1, h.1.2.2.2.1, h.1.2.2.2.2.1, h.1.2.2.2.2.2.1, h.1.2.2.2.2.2.2.2.1, h.1.2.2.2.2.2.2.2.2.1, h.1.2.2.2.2.2.2.2.2.2.1, h.1.2.2.2.2.2.2.2.2.2.2⟩, fun j _ q => h.2 j (by omega) (by omega) (by omega) (by omega)⟩
theorem FLD.t9 {s R : CS} (h : FLD s R) : TS9 s R := ⟨⟨h.1.1, h.1.2.1, h.1.2.2.1, h.1.2.2.2.1, h.1.2.2.2.2.1, h.1.2.2.2.2.2.1, h.1.2.2.2.2.2.2.2.1, h.1.2.2.2.2.2.2.2.2.1, h.1.2.2.2.2.2.2.2.2.2.1, h.1.2.2.2.2.2.2.2.2.2.2.1⟩, fun j q1 q2 => h.2.1 j (by omega) (by omega) (by omega) (by omega)⟩
theorem TS9.i34 {s R : CS} (h : TS9 s R) (v : Int32) : TS9 s (CS.setI R 34 v) := ⟨h.1, fun j q1 q2 => (if_neg (by omega)).trans (h.2 j q1 q2)⟩
theorem TS9.ck {s R : CS} (h : TS9 s R) : CK s R := by
  obtain ⟨⟨a1, a2, a3, a4, a5, a6, a7, a8, a9, a10⟩, b⟩ := h
  exact ⟨⟨⟨by rw [a10], by rw [a10], by rw [a10], by rw [a10], by rw [a10]⟩, ⟨b 20 (by omega) (by omega), b 21 (by omega) (by omega), b 50 (by omega) (by omega), b 53 (by omega) (by omega)⟩, by rw [a7], fun a _ => ⟨by rw [a4], by rw [a5]⟩⟩, b 22 (by omega) (by omega)⟩
theorem TS9.cb {H : HB} {s R : CS} (h : TS9 s R) (hc : CBS H s) (hl : LC R) (hf : ¬ R.i 32 = 0 → R.i 43 = 0) (h32 : R.i 32 = 0 → s.i 32 = 0) : CBS H R := by
  obtain ⟨c1, c2, c3, c4, c5, c6, c7, c8, c9⟩ := hc
  obtain ⟨⟨a1, a2, a3, a4, a5, a6, a7, a8, a9, a10⟩, b⟩ := h
  have enm : nmI R = nmI s := by unfold nmI; rw [b 50 (by omega) (by omega)]
  have ecn : cnI R = cnI s := by unfold cnI; rw [b 53 (by omega) (by omega)]
  refine ⟨?_, ?_, hl, ?_, hf, by rw [enm]; exact c6, ?_, ?_, ?_⟩
  · unfold REFS inP oK at *; rw [a1, a2, a3, a6, a7, a8]; exact c1
  · have etc : tcI R = tcI s := by unfold tcI; rw [b 21 (by omega) (by omega)]
    refine ⟨by have := c2.1; unfold ROOM at *; rw [a1, a7]; exact this, by rw [a7]; exact c2.2.1, fun q => by rw [etc, a10]; exact c2.2.2 (h32 q)⟩
  · unfold WDC at *; rw [a9]; exact c4
  · unfold NR at *; rw [ecn, a7]; exact c7
  · rw [a7, a4]; exact c8
  · rw [b 36 (by omega) (by omega), b 14 (by omega) (by omega), b 13 (by omega) (by omega), b 27 (by omega) (by omega)]; exact c9
theorem TS9.nb {x y x' y' : Int} {c : List Nat} {s R : CS} (h : TS9 s R) (hn : NB x y c s) (hr : REFS s) (n0 : 0 ≤ cnI s ∧ cnI s ≤ 400) (nr : NR s (cnI s).toNat) (he : eI s ≤ eI R) (hp : plI s ≤ plI R) (hx : x + 100 * plI s ≤ x' + 100 * plI R) (hy : y + eI s ≤ y' + eI R) (hs : SGS s (cnI s).toNat ≤ sgI R ∧ 0 ≤ sgI R ∧ sgI R ≤ 20) : NB x' y' c R := by
  have rq := h.ck.rsq hr (n := (cnI s).toNat) (by omega)
  obtain ⟨i1, i2, i3, i4, i5⟩ := rq.sums nr
  obtain ⟨c1, c2, c3, c4, c5, c6, c7, c8, c9⟩ := hn
  obtain ⟨⟨a1, a2, a3, a4, a5, a6, a7, a8, a9, a10⟩, b⟩ := h
  have etc : tcI R = tcI s := by unfold tcI; rw [b 21 (by omega) (by omega)]
  have ecc : ccI R = ccI s := by unfold ccI; rw [b 22 (by omega) (by omega)]
  have esz : szI R = szI s := by unfold szI; rw [b 20 (by omega) (by omega)]
  have ecn : cnI R = cnI s := by unfold cnI; rw [b 53 (by omega) (by omega)]
  have eds : dsI R = dsI s := by unfold dsI; rw [b 38 (by omega) (by omega)]
  have e56 : R.i 56 = s.i 56 := b 56 (by omega) (by omega)
  refine ⟨by omega, by omega, by omega, ⟨hs.2.1, hs.2.2⟩, ?_, ?_, ?_, by rw [eds]; exact c8, ?_⟩
  · rw [ecn]; exact c5.of rq nr
  · rw [ecn, i1]; omega
  · rw [ecn, i2]; exact hs.1
  · rw [e56, ecn, a7, a4]; exact c9
/-- a token on, all else as it was -/
theorem JJ.adv {H : HB} {x y x' y' : Int} {c : List Nat} {X : List (Nat × List Nat)} {P : List Nat} {lim : List Int} {s R : CS} (h : JJ H x y c X P lim s) (ha : ADV s R) (hxy : s.i 32 = 0 → x + 100 * plI s ≤ x' + 100 * plI R ∧ y + eI s ≤ y' + eI R) : JJ H x' y' c X P lim R := by
  obtain ⟨h1, h2⟩ := h
  have t9 := ha.1.t9
  have e32 : R.i 32 = s.i 32 := ha.1.2 32 (by decide) (by decide) (by decide) (by decide)
  have cb := t9.cb h1 ha.2.1 (fun q => ha.2.2.2.2 (h1.2.2.2.2.1 (by rw [← e32]; exact q))) (fun q => e32.symm.trans q)
  refine ⟨cb, fun q => ?_⟩
  obtain ⟨g, n⟩ := h2 (e32.symm.trans q)
  have gn := ha.gain h1.2.2.1
  have e34 : sgI R = sgI s := by unfold sgI; rw [ha.1.2 34 (by decide) (by decide) (by decide) (by decide)]
  refine ⟨g.ck h1.1 t9.ck, t9.nb n h1.1 ⟨h1.2.2.2.2.2.2.1.1, h1.2.2.2.2.2.2.1.2.1⟩ h1.2.2.2.2.2.2.1.2.2 ?_ gn.1 (hxy (e32.symm.trans q)).1 (hxy (e32.symm.trans q)).2 (by rw [e34]; exact ⟨n.2.2.2.2.2.2.1, n.2.2.2.1⟩)⟩
  by_cases z : s.i 43 = 0
  · have z2 := ha.2.2.2.2 z
    have n1 : ¬ ALN (s.i 43) := fun y => by unfold ALN at y; rw [z, z_t0] at y; omega
    have n2 : ¬ ALN (R.i 43) := fun y => by unfold ALN at y; rw [z2, z_t0] at y; omega
    rw [eI.sg n1, eI.sg n2]
    have := gn.1
    omega
  · exact (gn.2.1 z).2
theorem JJ.flt {H : HB} {x y : Int} {c : List Nat} {X : List (Nat × List Nat)} {P : List Nat} {lim : List Int} {s R : CS} (h : CBS H s) (hf : FLD s R) : JJ H x y c X P lim R := ⟨hf.t9.cb h hf.2.2.1 (fun _ => hf.2.2.2.2) (fun q => absurd q hf.2.2.2.1), fun q => absurd q hf.2.2.2.1⟩
theorem q_found {N : Nat} (s : CS) (x : Int32) : ok (f_X1_found N s x) (fun R => R.2 = s ∧ ((R.1 = 0 ∧ ¬ s.i 43 = x) ∨ (R.1 = 1 ∧ s.i 43 = x))) := by
  unfold f_X1_found
  exact ok_ite (fun c => ok_some ⟨rfl, Or.inr ⟨rfl, c⟩⟩) (fun c => ok_some ⟨rfl, Or.inl ⟨rfl, c⟩⟩)
theorem q_misp {N : Nat} {H : HB} {s : CS} (h : CBS H s) : ok (f_X1_misplaced N s) (fun R => FLD s R.2) := by
  unfold f_X1_misplaced
  refine ok_bind (q_found s 6) (fun p hp => ?_)
  rw [hp.1]
  exact ok_ite (fun _ => ok_bind (q_fail h.2.2.1 h.2.2.2.2.1 _ _ (by decide)) (fun q hq => ok_some hq)) (fun _ => ok_bind (q_fail h.2.2.1 h.2.2.2.2.1 _ _ (by decide)) (fun q hq => ok_some hq))
theorem q_failC {N : Nat} {H : HB} {s : CS} (h : CBS H s) (x y : Int32) (hx : ¬ x = 0) : ok (f_X1_fail N s x y) (fun R => FLD s R.2) := q_fail h.2.2.1 h.2.2.2.2.1 x y hx
theorem q_advC {N : Nat} {H : HB} (hN : 1000 ≤ N) {s : CS} (h : CBS H s) : ok (f_X9_advance N s) (fun R => ADV s R.2) := q_advance hN h.2.2.2.1 h.2.2.1
theorem q_skip {N : Nat} {H : HB} (hN : 1000 ≤ N) {s : CS} (h : CBS H s) (x : Int32) : ok (f_X1_skip N s x) (fun R => (R.1 = 0 ∧ R.2 = s ∧ ¬ s.i 43 = x) ∨ (R.1 = 1 ∧ s.i 43 = x ∧ ADV s R.2)) := by
  unfold f_X1_skip f_X1_skip_17
  refine ok_bind (q_found s x) (fun p hp => ?_)
  obtain ⟨p1, p2⟩ := hp
  rcases p2 with ⟨q1, q2⟩ | ⟨q1, q2⟩
  · rw [if_pos q1, q1, p1]
    exact ok_chk (Or.inl rfl) (ok_some (Or.inl ⟨rfl, rfl, q2⟩))
  · rw [q1, p1, if_neg (by decide)]
    refine ok_bind (q_advC hN h) (fun q hq => ?_)
    exact ok_chk (Or.inr rfl) (ok_some (Or.inr ⟨rfl, q2, hq⟩))
theorem q_expect {N : Nat} {H : HB} (hN : 1000 ≤ N) {s : CS} (h : CBS H s) (x : Int32) : ok (f_X1_expect N s x) (fun R => FLD s R.2 ∨ (s.i 43 = x ∧ ADV s R.2)) := by
  unfold f_X1_expect
  refine ok_bind (q_found s x) (fun p hp => ?_)
  obtain ⟨p1, p2⟩ := hp
  rw [p1]
  rcases p2 with ⟨q1, q2⟩ | ⟨q1, q2⟩
  · rw [if_pos q1]
    exact ok_bind (q_misp h) (fun q hq => ok_some (Or.inl hq))
  · rw [q1, if_neg (by decide)]
    exact ok_bind (q_advC hN h) (fun q hq => ok_some (Or.inr ⟨q2, hq⟩))
/-- a sign is opened -/
theorem q_open {N : Nat} {H : HB} (hN : 1000 ≤ N) {s : CS} (h : CBS H s) (x : Int32) : ok (f_X1_open N s x) (fun R => FLD s R.2 ∨ (s.i 43 = x ∧ s.i 34 < 20 ∧ ADV (CS.setI s 34 (s.i 34 + 1)) R.2)) := by
  unfold f_X1_open
  refine ok_bind (q_found s x) (fun p hp => ?_)
  obtain ⟨p1, p2⟩ := hp
  rw [p1]
  rcases p2 with ⟨q1, q2⟩ | ⟨q1, q2⟩
  · rw [if_pos q1]
    exact ok_bind (q_misp h) (fun q hq => ok_some (Or.inl hq))
  · rw [q1, if_neg (by decide)]
    refine ok_ite (fun c => ?_) (fun _ => ok_bind (q_failC h 6 _ (by decide)) (fun q hq => ok_some (Or.inl hq)))
    have t9 : TS9 s (CS.setI s 34 (s.i 34 + 1)) := (TS9.rf s).i34 _
    have hl : LC (CS.setI s 34 (s.i 34 + 1)) := h.2.2.1
    have hw : WDC (CS.setI s 34 (s.i 34 + 1)) := h.2.2.2.1
    exact ok_bind (q_advance hN hw hl) (fun q hq => ok_some (Or.inr ⟨q2, c, hq⟩))
end
section
/-! the class's reading: what a formula leaves as it was -/
def SMR (s R : CS) : Prop := (R.i 34 = s.i 34 ∧ R.i 38 = s.i 38 ∧ R.i 50 = s.i 50 ∧ R.i 53 = s.i 53 ∧ R.i 56 = s.i 56 ∧ R.i 22 = s.i 22 ∧ R.i 36 = s.i 36) ∧ RSQ s R (cnI s).toNat ∧ (∀ n : Nat, (n : Int) < nmI s → R.a 49 n = s.a 49 n) ∧ (∀ i : Nat, (i : Int) < ccI s → R.a 18 i = s.a 18 i ∧ R.a 19 i = s.a 19 i)
theorem SMR.rf (s : CS) : SMR s s := ⟨⟨rfl, rfl, rfl, rfl, rfl, rfl, rfl⟩, RSQ.rf s _, fun _ _ => rfl, fun _ _ => ⟨rfl, rfl⟩⟩
theorem SMR.tr {s R T : CS} (h : SMR s R) (g : SMR R T) : SMR s T := by
  obtain ⟨⟨a1, a2, a3, a4, a5, a6, a7⟩, b, c, d⟩ := h
  obtain ⟨⟨e1, e2, e3, e4, e5, e6, e7⟩, f, g2, k⟩ := g
  have ecn : cnI R = cnI s := by unfold cnI; rw [a4]
  have enm : nmI R = nmI s := by unfold nmI; rw [a3]
  have ecc : ccI R = ccI s := by unfold ccI; rw [a6]
  rw [ecn] at f
  rw [enm] at g2
  rw [ecc] at k
  exact ⟨⟨e1.trans a1, e2.trans a2, e3.trans a3, e4.trans a4, e5.trans a5, e6.trans a6, e7.trans a7⟩, b.tr f, fun n hn => (g2 n hn).trans (c n hn), fun i hi => ⟨(k i hi).1.trans (d i hi).1, (k i hi).2.trans (d i hi).2⟩⟩
theorem TS9.smr {s R : CS} (h : TS9 s R) (e34 : R.i 34 = s.i 34) : SMR s R := by
  obtain ⟨⟨a1, a2, a3, a4, a5, a6, a7, a8, a9, a10⟩, b⟩ := h
  exact ⟨⟨e34, b 38 (by omega) (by omega), b 50 (by omega) (by omega), b 53 (by omega) (by omega), b 56 (by omega) (by omega), b 22 (by omega) (by omega), b 36 (by omega) (by omega)⟩, fun i _ => ⟨by rw [a7], fun a _ => ⟨by rw [a4], by rw [a5]⟩⟩, fun _ _ => by rw [a10], fun _ _ => by rw [a10]; exact ⟨rfl, rfl⟩⟩
theorem ADV.smr {s R : CS} (h : ADV s R) : SMR s R := h.1.t9.smr (h.1.2 34 (by decide) (by decide) (by decide) (by decide))
theorem ADD.smr {s R : CS} {o x : Int32} (h : ADD s R o x) : SMR s R := by
  obtain ⟨⟨b1, b2, b3, b4, b5, b6, b7, b8, b9, b10⟩, b11, b12, b13, b14, b15⟩ := h
  exact ⟨⟨b11 34 (by decide), b11 38 (by decide), b11 50 (by decide), b11 53 (by decide), b11 56 (by decide), b11 22 (by decide), b11 36 (by decide)⟩, fun i _ => ⟨by rw [b7], fun a _ => ⟨by rw [b4], by rw [b5]⟩⟩, fun _ _ => by rw [b13 49 (by decide) (by decide)], fun _ _ => by rw [b13 18 (by decide) (by decide), b13 19 (by decide) (by decide)]; exact ⟨rfl, rfl⟩⟩
theorem NTG.smr {s R : CS} (h : NTG s R) : SMR s R := by
  obtain ⟨⟨b1, b2, b3, b4, b5, b6, b7, b8, b9, b10⟩, b11, b12, b13, b14⟩ := h
  exact ⟨⟨b11 34 (by decide), b11 38 (by decide), b11 50 (by decide), b11 53 (by decide), b11 56 (by decide), b11 22 (by decide), b11 36 (by decide)⟩, fun i _ => ⟨by rw [b7], fun a _ => ⟨by rw [b4], by rw [b5]⟩⟩, fun _ _ => by rw [b13 49 (by decide)], fun _ _ => by rw [b13 18 (by decide), b13 19 (by decide)]; exact ⟨rfl, rfl⟩⟩
theorem AIM.smr {s R : CS} {t : Int32} (h : AIM s R t) : SMR s R := by
  obtain ⟨⟨b1, b2, b3, b4, b5, b6, b7, b8, b9, b10⟩, b11, b13, b14⟩ := h
  exact ⟨⟨by rw [b11], by rw [b11], by rw [b11], by rw [b11], by rw [b11], by rw [b11], by rw [b11]⟩, fun i _ => ⟨by rw [b7], fun a _ => ⟨by rw [b4], by rw [b5]⟩⟩, fun _ _ => by rw [b13 49 (by decide)], fun _ _ => by rw [b13 18 (by decide), b13 19 (by decide)]; exact ⟨rfl, rfl⟩⟩
/-- the base under changes of code only -/
theorem CBS.of {H : HB} {s R : CS} (h : CBS H s) (q : R.hs = s.hs ∧ R.L = s.L ∧ R.k = s.k ∧ R.o = s.o ∧ R.ol = s.ol ∧ R.ot = s.ot ∧ R.r = s.r ∧ R.w = s.w ∧ R.b = s.b ∧ R.l = s.l) (ha : R.a 0 = s.a 0) (hi : ∀ j : Nat, j = 13 ∨ j = 14 ∨ j = 27 ∨ j = 32 ∨ j = 36 ∨ (41 ≤ j ∧ j ≤ 45) ∨ j = 50 ∨ j = 53 → R.i j = s.i j) (hA : s.i 32 = 0 → ∀ t : Nat, (t : Int) < tcI s → 0 ≤ (s.a 17 t).toInt → (t : Int) < tcI R ∧ 0 ≤ (R.a 17 t).toInt) : CBS H R := by
  obtain ⟨c1, c2, c3, c4, c5, c6, c7, c8, c9⟩ := h
  obtain ⟨a1, a2, a3, a4, a5, a6, a7, a8, a9, a10⟩ := q
  have enm : nmI R = nmI s := by unfold nmI; rw [hi 50 (by omega)]
  have ecn : cnI R = cnI s := by unfold cnI; rw [hi 53 (by omega)]
  refine ⟨?_, ?_, ?_, ?_, ?_, by rw [enm]; exact c6, ?_, ?_, ?_⟩
  · unfold REFS inP oK at *; rw [a1, a2, a3, a6, a7, a8]; exact c1
  · refine ⟨by have := c2.1; unfold ROOM at *; rw [a1, a7]; exact this, by rw [a7]; exact c2.2.1, fun q t ht => ?_⟩
    rw [hi 32 (by omega)] at q
    have z := c2.2.2 q t ht
    exact hA q t z.1 z.2
  · unfold LC AB BY at *
    rw [ha, hi 41 (by omega), hi 42 (by omega), hi 43 (by omega), hi 44 (by omega), hi 45 (by omega), a10]
    exact c3
  · unfold WDC at *; rw [a9]; exact c4
  · rw [hi 32 (by omega), hi 43 (by omega)]; exact c5
  · unfold NR at *; rw [ecn, a7]; exact c7
  · rw [a7, a4]; exact c8
  · rw [hi 36 (by omega), hi 14 (by omega), hi 13 (by omega), hi 27 (by omega)]; exact c9
theorem ADD.cb {H : HB} {s R : CS} {o x : Int32} (h : ADD s R o x) (hc : CBS H s) : CBS H R := hc.of h.1 (h.2.2.2.1 0 (by decide) (by decide)) (fun j hj => h.2.1 j (by omega)) (fun _ t t1 t2 => by
  have e : tcI R = tcI s := by unfold tcI; rw [h.2.1 21 (by decide)]
  rw [e, h.2.2.2.1 17 (by decide) (by decide)]
  exact ⟨t1, t2⟩)
theorem NTG.cb {H : HB} {s R : CS} (h : NTG s R) (hc : CBS H s) (hb : s.i 32 = 0 → 0 ≤ tcI s ∧ tcI s ≤ 1020) : CBS H R := hc.of h.1 (h.2.2.2.1 0 (by decide)) (fun j hj => h.2.1 j (by omega)) (fun q t t1 t2 => by
  have e1 : (1 : Int32).toInt = 1 := by decide
  have b := hb q
  have b' : 0 ≤ (s.i 21).toInt ∧ (s.i 21).toInt ≤ 1020 := b
  have e : tcI R = tcI s + 1 := by
    show (R.i 21).toInt = (s.i 21).toInt + 1
    rw [h.2.2.1, toInt_add] <;> rw [e1] <;> omega
  have e17 : R.a 17 t = s.a 17 t := by
    rw [h.2.2.2.2]
    exact gPut_ne (by show (t : Int) ≠ tcI s; omega)
  rw [e, e17]
  exact ⟨by omega, t2⟩)
theorem AIM.cb {H : HB} {s R : CS} {t : Int32} (h : AIM s R t) (hc : CBS H s) (hb : s.i 32 = 0 → 0 ≤ szI s) : CBS H R := hc.of h.1 (h.2.2.1 0 (by decide)) (fun j hj => by rw [h.2.1]) (fun q k k1 k2 => by
  have e : tcI R = tcI s := by unfold tcI; rw [h.2.1]
  rw [e, h.2.2.2]
  refine ⟨k1, ?_⟩
  unfold gPut
  by_cases c : ib t 1024
  · rw [if_pos c]
    show 0 ≤ (if k = t.toNatClampNeg then s.i 20 else s.a 17 k).toInt
    by_cases c2 : k = t.toNatClampNeg
    · rw [if_pos c2]; exact hb q
    · rw [if_neg c2]; exact k2
  · rw [if_neg c]; exact k2)
/-- numbers under changes of code only -/
theorem NB.of {x y x' y' : Int} {c : List Nat} {s R : CS} (hn : NB x y c s) (n0 : 0 ≤ cnI s) (nr : NR s (cnI s).toNat) (hs : SMR s R) (hr : R.r 51 = s.r 51) (ho : R.o = s.o) (hi : R.i 43 = s.i 43 ∧ R.i 44 = s.i 44) (hx : szI R + x ≤ szI s + x') (hy : tcI R + y ≤ tcI s + y') : NB x' y' c R := by
  obtain ⟨⟨a1, a2, a3, a4, a5, a6, a7⟩, b, -, -⟩ := hs
  obtain ⟨c1, c2, c3, c4, c5, c6, c7, c8, c9⟩ := hn
  have ecn : cnI R = cnI s := by unfold cnI; rw [a4]
  have ecc : ccI R = ccI s := by unfold ccI; rw [a6]
  have eds : dsI R = dsI s := by unfold dsI; rw [a2]
  have esg : sgI R = sgI s := by unfold sgI; rw [a1]
  have epl : plI R = plI s := by unfold plI; rw [hi.2]
  have ee : eI R = eI s := by unfold eI; rw [epl, hi.1]
  obtain ⟨i1, i2, i3, i4, i5⟩ := b.sums nr
  refine ⟨by omega, by omega, by omega, by rw [esg]; exact c4, by rw [ecn]; exact c5.of b nr, by rw [ecn, i1, ee]; exact c6, by rw [ecn, i2, esg]; exact c7, by rw [eds]; exact c8, by rw [a5, ecn, hr, ho]; exact c9⟩
theorem NB.sz {x y : Int} {c : List Nat} {s : CS} (hn : NB x y c s) (hl : LC s) (n0 : 0 ≤ cnI s) (hx : x ≤ 10000) (hy : y ≤ 100) : szI s ≤ 200000 ∧ tcI s ≤ 1010 := by
  have h1 := hn.2.2.1
  have h2 := hn.1
  have h3 := hn.2.1.1
  have e := eI.ge s
  have p : plI s ≤ 900 := by
    have a := hl.2.1
    have b := hl.1
    unfold plI
    omega
  omega
/-- an instruction that falls through or jumps to what is known -/
theorem JJ.add {H : HB} {x y : Int} {c : List Nat} {X : List (Nat × List Nat)} {P : List Nat} {lim : List Int} {s R : CS} {o v : Int32} (h : JJ H x y c X P lim s) (ha : ADD s R o v) (hx : x ≤ 10000) (hy : y ≤ 100) (hI : s.i 32 = 0 → ∀ (DT : Nat → List Nat) (KT : Nat → Prop), (∀ q ∈ X, (q.1 : Int) < tcI s ∧ DT q.1 = q.2 ∧ ¬ KT q.1) → (∀ n : Nat, (n : Int) = cnI s → RCH s DT KT n c lim) → (∀ n : Nat, (n : Int) < nmI s → NMT (s.a 49 n) c) → IOK (tcI s) DT KT o v c c) : JJ H (x + 1) y c X P lim R := by
  obtain ⟨h1, h2⟩ := h
  have sm := ha.smr
  obtain ⟨⟨b1, b2, b3, b4, b5, b6, b7, b8, b9, b10⟩, b11, b12, b13, b14, b15⟩ := (show ADD s R o v from ha)
  refine ⟨ha.cb h1, fun q => ?_⟩
  have q' : s.i 32 = 0 := (b11 32 (by decide)).symm.trans q
  obtain ⟨g, n⟩ := h2 q'
  have sz := n.sz h1.2.2.1 h1.2.2.2.2.2.2.1.1 hx hy
  refine ⟨g.add h1.1 ha (by omega) n.2.2.2.2.2.2.2.1.2 (hI q'), n.of h1.2.2.2.2.2.2.1.1 h1.2.2.2.2.2.2.1.2.2 sm (by rw [b7]) b4 ⟨b11 43 (by decide), b11 44 (by decide)⟩ ?_ ?_⟩
  · obtain ⟨D, DT, KT, -, -, -, g4, -⟩ := g
    have e1 : (1 : Int32).toInt = 1 := by decide
    have g4' : 0 ≤ (s.i 20).toInt := g4.1
    have s0 : (s.i 20).toInt ≤ 200000 := sz.1
    have esz : szI R = szI s + 1 := by
      show (R.i 20).toInt = (s.i 20).toInt + 1
      rw [b12, toInt_add] <;> rw [e1] <;> omega
    omega
  · have : tcI R = tcI s := by unfold tcI; rw [b11 21 (by decide)]
    omega
/-- one that just falls through -/
theorem IOK.fall {tc : Int} {DT : Nat → List Nat} {KT : Nat → Prop} {o x : Int32} {c : List Nat} (h : o.toInt < 30 ∨ (36 ≤ o.toInt ∧ o.toInt < 50) ∨ o.toInt = 51 ∨ o.toInt = 52 ∨ o.toInt = 55 ∨ o.toInt = 57) : IOK tc DT KT o x c c := ⟨fun _ => rfl, fun q => by omega, fun q r => by omega, fun _ _ => rfl, fun _ => rfl, fun q => by omega, fun q => by omega, fun q => by omega, fun q => by omega, fun q => by omega, fun q => by omega, fun q => by omega, by omega⟩
end
section
/-! the class's reading: sums and products -/
theorem JJ.w {H : HB} {x y x' y' : Int} {c : List Nat} {X : List (Nat × List Nat)} {P : List Nat} {lim : List Int} {s : CS} (h : JJ H x y c X P lim s) (hx : x ≤ x') (hy : y ≤ y') : JJ H x' y' c X P lim s := ⟨h.1, fun q => by
  obtain ⟨g, n⟩ := h.2 q
  refine ⟨g, ?_⟩
  unfold NB at *
  exact ⟨by omega, n.2.1, by omega, n.2.2.2⟩⟩
/-- a formula was read -/
def EXR (s R : CS) : Prop := s.i 32 = 0 ∧ (plI s + 1 ≤ plI R ∧ eI s ≤ eI R) ∧ SMR s R
theorem EXR.tr {s R T : CS} (h : EXR s R) (g : EXR R T) : EXR s T := ⟨h.1, ⟨by have := h.2.1.1; have := g.2.1.1; omega, by have := h.2.1.2; have := g.2.1.2; omega⟩, h.2.2.tr g.2.2⟩
theorem EXR.sg {s R : CS} (h : EXR s R) : sgI R = sgI s := by unfold sgI; rw [h.2.2.1.1]
/-- a method that reads a formula, with so much room for recursion -/
def EC (H : HB) (k : Int) (E : CS → Option (Unit × CS)) : Prop := ∀ (x y : Int) (c : List Nat) (X : List (Nat × List Nat)) (P : List Nat) (lim : List Int) (s : CS), x ≤ 3900 → y + 3 * k ≤ 90 ∧ 0 ≤ k → JJ H x y c X P lim s → (s.i 32 = 0 → 23 - sgI s ≤ k) → ok (E s) (fun R => JJ H (x - 50) y c X P lim R.2 ∧ (R.2.i 32 = 0 → EXR s R.2))
theorem ADV.f32 {s R : CS} (h : ADV s R) : R.i 32 = s.i 32 := h.1.2 32 (by decide) (by decide) (by decide) (by decide)
theorem ADD.f32 {s R : CS} {o x : Int32} (h : ADD s R o x) : R.i 32 = s.i 32 ∧ R.i 43 = s.i 43 ∧ R.i 44 = s.i 44 := ⟨h.2.1 32 (by decide), h.2.1 43 (by decide), h.2.1 44 (by decide)⟩
theorem ADD.pl {s R : CS} {o x : Int32} (h : ADD s R o x) : plI R = plI s ∧ eI R = eI s := by
  have q := h.f32
  have e : plI R = plI s := by unfold plI; rw [q.2.2]
  exact ⟨e, by unfold eI; rw [e, q.2.1]⟩
/-- a token whose type is known is taken -/
theorem JJ.tk {H : HB} {x y : Int} {c : List Nat} {X : List (Nat × List Nat)} {P : List Nat} {lim : List Int} {s R : CS} (h : JJ H x y c X P lim s) (ha : ADV s R) (h0 : s.i 32 = 0 → ¬ s.i 43 = 0) : JJ H (x - 100) y c X P lim R ∧ (R.i 32 = 0 → EXR s R) := by
  have gn := ha.gain h.1.2.2.1
  refine ⟨h.adv ha (fun q => ?_), fun q => ?_⟩
  · have := gn.2.1 (h0 q)
    omega
  · have q' := ha.f32.symm.trans q
    exact ⟨q', gn.2.1 (h0 q'), ha.smr⟩
theorem q_bin {N : Nat} {H : HB} (hN : 1000 ≤ N) {k : Int} {E : CS → Option (Unit × CS)} (hE : EC H k E) {x y : Int} {c : List Nat} {X : List (Nat × List Nat)} {P : List Nat} {lim : List Int} {s : CS} (hx : x ≤ 3900) (hy : y + 3 * k ≤ 90 ∧ 0 ≤ k) (h : JJ H x y c X P lim s) (h0 : s.i 32 = 0 → ¬ s.i 43 = 0) (hk : s.i 32 = 0 → 23 - sgI s ≤ k) (o : Int32) (ho : o.toInt < 30) {β : Type} {K : CS → Option β} {Q : β → Prop} (hK : ∀ R : CS, JJ H x y c X P lim R → (R.i 32 = 0 → EXR s R) → ok (K R) Q) : ok ((f_X9_advance N s).bind fun a => (E a.2).bind fun b => (f_X0_add N b.2 o 0).bind fun d => K d.2) Q := by
  refine ok_bind (q_advC hN h.1) (fun a ha => ?_)
  obtain ⟨j1, e1⟩ := h.tk ha h0
  refine ok_bind (hE (x - 100) y c X P lim a.2 (by omega) hy j1 (fun q => by rw [(e1 q).sg]; exact hk (e1 q).1)) (fun b hb => ?_)
  obtain ⟨j2, e2⟩ := hb
  refine ok_bind (q_add N b.2 o 0) (fun d hd => ?_)
  have j3 := j2.add hd (by omega) (by omega) (fun _ _ _ _ _ _ => IOK.fall (Or.inl ho))
  refine hK d.2 (j3.w (by omega) (Int.le_refl _)) (fun q => ?_)
  have q2 := hd.f32.1.symm.trans q
  have e := (e1 (e2 q2).1).tr (e2 q2)
  have pl := hd.pl
  exact ⟨e.1, ⟨by rw [pl.1]; exact e.2.1.1, by rw [pl.2]; exact e.2.1.2⟩, e.2.2.tr hd.smr⟩
theorem q_prod6 {N : Nat} {H : HB} (hN : 1000 ≤ N) {k : Int} {E1 : CS → Option (Unit × CS)} {E2 : CS → Option (Int32 × CS)} (hE : EC H k E1) {x y : Int} {c : List Nat} {X : List (Nat × List Nat)} {P : List Nat} {lim : List Int} {s : CS} (hx : x ≤ 3900) (hy : y + 3 * k ≤ 90 ∧ 0 ≤ k) (hk : s.i 32 = 0 → 23 - sgI s ≤ k) : ∀ (n : Nat) (σ : CS) (x1 : Int32), 0 ≤ x1.toInt → x1.toInt ≤ 900 → 900 - x1.toInt < n → JJ H x y c X P lim σ → (σ.i 32 = 0 → EXR s σ) → ok (f_X1_product_6 N E1 E2 n σ x1) (fun R => JJ H x y c X P lim R.2 ∧ (R.2.i 32 = 0 → EXR s R.2))
  | 0, _, _, _, _, h, _, _ => by omega
  | n + 1, σ, x1, h0, h9, hn, hj, he => by
    show ok (b_X1_product_6 N E1 E2 (f_X1_product_6 N E1 E2 n) σ x1) _
    unfold b_X1_product_6
    have e9 : (900 : Int32).toInt = 900 := by decide
    have e1 : (1 : Int32).toInt = 1 := by decide
    refine ok_ite (fun _ => ok_some ⟨hj, he⟩) (fun c9 => ?_)
    have l : x1.toInt < 900 := by
      have := lt_int (Int32.not_le.mp c9)
      rw [e9] at this; exact this
    have es : (x1 + 1).toInt = x1.toInt + 1 := by rw [toInt_add] <;> rw [e1] <;> omega
    have go : ∀ o : Int32, o.toInt < 30 → ¬ σ.i 43 = 0 → ok ((f_X9_advance N σ).bind fun a => (E1 a.2).bind fun b => (f_X0_add N b.2 o 0).bind fun d => f_X1_product_6 N E1 E2 n d.2 (x1 + 1)) (fun R => JJ H x y c X P lim R.2 ∧ (R.2.i 32 = 0 → EXR s R.2)) := fun o ho hz => q_bin hN hE hx hy hj (fun _ => hz) (fun q => by rw [(he q).sg]; exact hk (he q).1) o ho (fun R hR hR2 => q_prod6 hN hE hx hy hk n R (x1 + 1) (by omega) (by omega) (by omega) hR (fun q => (he (hR2 q).1).tr (hR2 q)))
    have three : ¬ σ.i 43 = 0 → ok ((f_X1_found N σ 42).bind fun p11 => (if p11.1 = 0 then (f_X1_found N p11.2 47).bind fun p16 => (if p16.1 = 0 then (f_X9_advance N p16.2).bind fun p21 => (E1 p21.2).bind fun p25 => (f_X0_add N p25.2 11 0).bind fun p29 => f_X1_product_6 N E1 E2 n p29.2 (x1 + 1) else (f_X9_advance N p16.2).bind fun p33 => (E1 p33.2).bind fun p37 => (f_X0_add N p37.2 10 0).bind fun p41 => f_X1_product_6 N E1 E2 n p41.2 (x1 + 1)) else (f_X9_advance N p11.2).bind fun p45 => (E1 p45.2).bind fun p49 => (f_X0_add N p49.2 9 0).bind fun p53 => f_X1_product_6 N E1 E2 n p53.2 (x1 + 1))) (fun R => JJ H x y c X P lim R.2 ∧ (R.2.i 32 = 0 → EXR s R.2)) := fun hz => by
      refine ok_bind (q_found σ 42) (fun p hp => ?_)
      rw [hp.1]
      refine ok_ite (fun _ => ok_bind (q_found σ 47) (fun p2 hp2 => ?_)) (fun _ => go 9 (by decide) hz)
      rw [hp2.1]
      exact ok_ite (fun _ => go 11 (by decide) hz) (fun _ => go 10 (by decide) hz)
    refine ok_bind (q_found σ 42) (fun p hp => ?_)
    obtain ⟨p1, p2⟩ := hp
    rw [p1]
    refine ok_ite (fun cz => ?_) (fun cz => ?_)
    · refine ok_bind (q_found σ 47) (fun q hq => ?_)
      obtain ⟨q1, q2⟩ := hq
      rw [q1]
      refine ok_ite (fun cy => ?_) (fun cy => ?_)
      · refine ok_bind (q_found σ 37) (fun r hr => ?_)
        obtain ⟨r1, r2⟩ := hr
        rw [r1]
        refine ok_ite (fun _ => ok_some ⟨hj, he⟩) (fun cx => three (fun z => ?_))
        rcases r2 with r2 | r2
        · exact cx r2.1
        · rw [z] at r2; exact absurd r2.2 (by decide)
      · refine three (fun z => ?_)
        rcases q2 with q2 | q2
        · exact cy q2.1
        · rw [z] at q2; exact absurd q2.2 (by decide)
    · refine three (fun z => ?_)
      rcases p2 with p2 | p2
      · exact cz p2.1
      · rw [z] at p2; exact absurd p2.2 (by decide)
theorem q_product {N : Nat} {H : HB} (hN : 1000 ≤ N) {k : Int} {E1 : CS → Option (Unit × CS)} {E2 : CS → Option (Int32 × CS)} (hE : EC H k E1) : EC H k (f_X1_product N E1 E2) := by
  intro x y c X P lim s hx hy h hk
  unfold f_X1_product
  refine ok_bind (hE x y c X P lim s hx hy h hk) (fun p hp => ?_)
  exact q_prod6 hN hE (by omega) hy hk N p.2 0 (by decide) (by decide) (by rw [z_t0]; omega) hp.1 hp.2
theorem q_expr6 {N : Nat} {H : HB} (hN : 1000 ≤ N) {k : Int} {E1 : CS → Option (Unit × CS)} {E2 : CS → Option (Int32 × CS)} (hE : EC H k (f_X1_product N E1 E2)) {x y : Int} {c : List Nat} {X : List (Nat × List Nat)} {P : List Nat} {lim : List Int} {s : CS} (hx : x ≤ 3900) (hy : y + 3 * k ≤ 90 ∧ 0 ≤ k) (hk : s.i 32 = 0 → 23 - sgI s ≤ k) : ∀ (n : Nat) (σ : CS) (x1 : Int32), 0 ≤ x1.toInt → x1.toInt ≤ 900 → 900 - x1.toInt < n → JJ H x y c X P lim σ → (σ.i 32 = 0 → EXR s σ) → ok (f_X1_expression_6 N E1 E2 n σ x1) (fun R => JJ H x y c X P lim R.2 ∧ (R.2.i 32 = 0 → EXR s R.2))
  | 0, _, _, _, _, h, _, _ => by omega
  | n + 1, σ, x1, h0, h9, hn, hj, he => by
    show ok (b_X1_expression_6 N E1 E2 (f_X1_expression_6 N E1 E2 n) σ x1) _
    unfold b_X1_expression_6
    have e9 : (900 : Int32).toInt = 900 := by decide
    have e1 : (1 : Int32).toInt = 1 := by decide
    refine ok_ite (fun _ => ok_some ⟨hj, he⟩) (fun c9 => ?_)
    have l : x1.toInt < 900 := by
      have := lt_int (Int32.not_le.mp c9)
      rw [e9] at this; exact this
    have es : (x1 + 1).toInt = x1.toInt + 1 := by rw [toInt_add] <;> rw [e1] <;> omega
    have go : ∀ o : Int32, o.toInt < 30 → ¬ σ.i 43 = 0 → ok ((f_X9_advance N σ).bind fun a => (f_X1_product N E1 E2 a.2).bind fun b => (f_X0_add N b.2 o 0).bind fun d => f_X1_expression_6 N E1 E2 n d.2 (x1 + 1)) (fun R => JJ H x y c X P lim R.2 ∧ (R.2.i 32 = 0 → EXR s R.2)) := fun o ho hz => q_bin hN hE hx hy hj (fun _ => hz) (fun q => by rw [(he q).sg]; exact hk (he q).1) o ho (fun R hR hR2 => q_expr6 hN hE hx hy hk n R (x1 + 1) (by omega) (by omega) (by omega) hR (fun q => (he (hR2 q).1).tr (hR2 q)))
    have two : ¬ σ.i 43 = 0 → ok ((f_X1_found N σ 43).bind fun p11 => (if p11.1 = 0 then (f_X9_advance N p11.2).bind fun p16 => (f_X1_product N E1 E2 p16.2).bind fun p20 => (f_X0_add N p20.2 8 0).bind fun p24 => f_X1_expression_6 N E1 E2 n p24.2 (x1 + 1) else (f_X9_advance N p11.2).bind fun p28 => (f_X1_product N E1 E2 p28.2).bind fun p32 => (f_X0_add N p32.2 7 0).bind fun p36 => f_X1_expression_6 N E1 E2 n p36.2 (x1 + 1))) (fun R => JJ H x y c X P lim R.2 ∧ (R.2.i 32 = 0 → EXR s R.2)) := fun hz => by
      refine ok_bind (q_found σ 43) (fun p hp => ?_)
      rw [hp.1]
      exact ok_ite (fun _ => go 8 (by decide) hz) (fun _ => go 7 (by decide) hz)
    refine ok_bind (q_found σ 43) (fun p hp => ?_)
    obtain ⟨p1, p2⟩ := hp
    rw [p1]
    refine ok_ite (fun cz => ?_) (fun cz => ?_)
    · refine ok_bind (q_found σ 45) (fun q hq => ?_)
      obtain ⟨q1, q2⟩ := hq
      rw [q1]
      refine ok_ite (fun _ => ok_some ⟨hj, he⟩) (fun cy => two (fun z => ?_))
      rcases q2 with q2 | q2
      · exact cy q2.1
      · rw [z] at q2; exact absurd q2.2 (by decide)
    · refine two (fun z => ?_)
      rcases p2 with p2 | p2
      · exact cz p2.1
      · rw [z] at p2; exact absurd p2.2 (by decide)
theorem q_expression {N : Nat} {H : HB} (hN : 1000 ≤ N) {k : Int} {E1 : CS → Option (Unit × CS)} {E2 : CS → Option (Int32 × CS)} (hE : EC H k E1) : EC H k (f_X1_expression N E1 E2) := by
  intro x y c X P lim s hx hy h hk
  unfold f_X1_expression
  have hp := q_product (E2 := E2) hN hE
  refine ok_bind (hp x y c X P lim s hx hy h hk) (fun p hp' => ?_)
  exact q_expr6 hN hp (by omega) hy hk N p.2 0 (by decide) (by decide) (by rw [z_t0]; omega) hp'.1 hp'.2
theorem q_comparing {N : Nat} {s : CS} (x : Int32) : ok (f_X1_comparing N s x) (fun R => R.2 = s ∧ (0 ≤ R.1 → R.1.toInt < 30 ∧ ¬ x = 0)) := by
  unfold f_X1_comparing
  have one : ∀ t v : Int32, x = t → (¬ t = 0 ∧ v.toInt < 30) → ok (some (v, s)) (fun R => R.2 = s ∧ (0 ≤ R.1 → R.1.toInt < 30 ∧ ¬ x = 0)) := fun t v e h => ok_some ⟨rfl, fun _ => ⟨h.2, by rw [e]; exact h.1⟩⟩
  exact ok_ite (fun e => one _ _ e (by decide)) (fun _ => ok_ite (fun e => one _ _ e (by decide)) (fun _ => ok_ite (fun e => one _ _ e (by decide)) (fun _ => ok_ite (fun e => one _ _ e (by decide)) (fun _ => ok_ite (fun e => one _ _ e (by decide)) (fun _ => ok_ite (fun e => one _ _ e (by decide)) (fun _ => ok_some ⟨rfl, fun q => absurd (show (0 : Int32) ≤ -1 from q) (by decide)⟩))))))
theorem q_comparison {N : Nat} {H : HB} (hN : 1000 ≤ N) {k : Int} {E1 : CS → Option (Unit × CS)} {E2 : CS → Option (Int32 × CS)} (hE : EC H k E1) : EC H k (f_X1_comparison N E1 E2) := by
  intro x y c X P lim s hx hy h hk
  unfold f_X1_comparison
  have hp := q_expression (E2 := E2) hN hE
  refine ok_bind (hp x y c X P lim s hx hy h hk) (fun p hp' => ?_)
  obtain ⟨j1, e1⟩ := hp'
  refine ok_bind (q_comparing _) (fun q hq => ?_)
  rw [hq.1]
  refine ok_ite (fun c0 => ?_) (fun _ => ok_bind (q_misp j1.1) (fun r hr => ok_some ⟨JJ.flt j1.1 hr, fun z => absurd z hr.2.2.2.1⟩))
  obtain ⟨o1, o2⟩ := hq.2 c0
  refine q_bin hN hp (by omega) hy j1 (fun _ => o2) (fun z => by rw [(e1 z).sg]; exact hk (e1 z).1) q.1 o1 (K := fun d => some ((), d)) (fun R hR hR2 => ok_some ⟨hR, fun z => (e1 (hR2 z).1).tr (hR2 z)⟩)
end
section
/-! the class's reading: signs that are opened and closed -/
/-- as SMR, but for the number of begun signs -/
def SMX (s R : CS) : Prop := (R.i 38 = s.i 38 ∧ R.i 50 = s.i 50 ∧ R.i 53 = s.i 53 ∧ R.i 56 = s.i 56 ∧ R.i 22 = s.i 22 ∧ R.i 36 = s.i 36) ∧ RSQ s R (cnI s).toNat ∧ (∀ n : Nat, (n : Int) < nmI s → R.a 49 n = s.a 49 n) ∧ (∀ i : Nat, (i : Int) < ccI s → R.a 18 i = s.a 18 i ∧ R.a 19 i = s.a 19 i)
theorem SMR.x {s R : CS} (h : SMR s R) : SMX s R := ⟨h.1.2, h.2⟩
theorem SMX.r {s R : CS} (h : SMX s R) (e : R.i 34 = s.i 34) : SMR s R := ⟨⟨e, h.1⟩, h.2⟩
theorem SMX.tr {s R T : CS} (h : SMX s R) (g : SMX R T) : SMX s T := by
  obtain ⟨⟨a2, a3, a4, a5, a6, a7⟩, b, c, d⟩ := h
  obtain ⟨⟨e2, e3, e4, e5, e6, e7⟩, f, g2, k⟩ := g
  have ecn : cnI R = cnI s := by unfold cnI; rw [a4]
  have enm : nmI R = nmI s := by unfold nmI; rw [a3]
  have ecc : ccI R = ccI s := by unfold ccI; rw [a6]
  rw [ecn] at f
  rw [enm] at g2
  rw [ecc] at k
  exact ⟨⟨e2.trans a2, e3.trans a3, e4.trans a4, e5.trans a5, e6.trans a6, e7.trans a7⟩, b.tr f, fun n hn => (g2 n hn).trans (c n hn), fun i hi => ⟨(k i hi).1.trans (d i hi).1, (k i hi).2.trans (d i hi).2⟩⟩
theorem TS9.smx {s R : CS} (h : TS9 s R) : SMX s R := by
  obtain ⟨⟨a1, a2, a3, a4, a5, a6, a7, a8, a9, a10⟩, b⟩ := h
  exact ⟨⟨b 38 (by omega) (by omega), b 50 (by omega) (by omega), b 53 (by omega) (by omega), b 56 (by omega) (by omega), b 22 (by omega) (by omega), b 36 (by omega) (by omega)⟩, fun i _ => ⟨by rw [a7], fun a _ => ⟨by rw [a4], by rw [a5]⟩⟩, fun _ _ => by rw [a10], fun _ _ => by rw [a10]; exact ⟨rfl, rfl⟩⟩
/-- from one place to a later one, with d more signs begun -/
def MOV (d : Int) (s R : CS) : Prop := s.i 32 = 0 ∧ (plI s + 1 ≤ plI R ∧ eI s ≤ eI R) ∧ sgI R = sgI s + d ∧ SMX s R
theorem EXR.mv {s R : CS} (h : EXR s R) : MOV 0 s R := ⟨h.1, h.2.1, by rw [h.sg]; omega, h.2.2.x⟩
theorem MOV.tr {d e : Int} {s R T : CS} (h : MOV d s R) (g : MOV e R T) : MOV (d + e) s T := ⟨h.1, ⟨by have := h.2.1.1; have := g.2.1.1; omega, by have := h.2.1.2; have := g.2.1.2; omega⟩, by rw [g.2.2.1, h.2.2.1]; omega, h.2.2.2.tr g.2.2.2⟩
theorem MOV.ex {s R : CS} (h : MOV 0 s R) : EXR s R := ⟨h.1, h.2.1, h.2.2.2.r (Int32.toInt_inj.mp (by have := h.2.2.1; unfold sgI at this; omega))⟩
theorem i34_op {s : CS} (h0 : 0 ≤ sgI s) (h : s.i 34 < 20) : (s.i 34 + 1).toInt = sgI s + 1 ∧ sgI s + 1 ≤ 20 := by
  have e1 : (1 : Int32).toInt = 1 := by decide
  have e20 : (20 : Int32).toInt = 20 := by decide
  have l := lt_int h
  have h0 : 0 ≤ (s.i 34).toInt := h0
  refine ⟨?_, ?_⟩
  · show (s.i 34 + 1).toInt = (s.i 34).toInt + 1
    rw [toInt_add] <;> rw [e1] <;> omega
  · show (s.i 34).toInt + 1 ≤ 20
    omega
theorem JJ.op {H : HB} {x y : Int} {c : List Nat} {X : List (Nat × List Nat)} {P : List Nat} {lim : List Int} {s R : CS} {v : Int32} (h : JJ H x y c X P lim s) (hv : ¬ v = 0) (ho : FLD s R ∨ (s.i 43 = v ∧ s.i 34 < 20 ∧ ADV (CS.setI s 34 (s.i 34 + 1)) R)) : JJ H (x - 100) y c X P lim R ∧ (R.i 32 = 0 → MOV 1 s R) := by
  rcases ho with hf | ⟨h1, h2, h3⟩
  · exact ⟨JJ.flt h.1 hf, fun q => absurd q hf.2.2.2.1⟩
  have t9 : TS9 s (CS.setI s 34 (s.i 34 + 1)) := (TS9.rf s).i34 _
  have yi : ∀ j : Nat, j ≠ 34 → (CS.setI s 34 (s.i 34 + 1)).i j = s.i j := fun j q => ci_ne _ _ _ q
  have y34 : (CS.setI s 34 (s.i 34 + 1)).i 34 = s.i 34 + 1 := ci_at _ _ _
  have lY : LC (CS.setI s 34 (s.i 34 + 1)) := h.1.2.2.1
  generalize CS.setI s 34 (s.i 34 + 1) = Y at *
  have plY : plI Y = plI s := by unfold plI; rw [yi 44 (by decide)]
  have eY : eI Y = eI s := by unfold eI; rw [plY, yi 43 (by decide)]
  have jY : JJ H x y c X P lim Y := by
    refine ⟨t9.cb h.1 lY (by rw [yi 32 (by decide), yi 43 (by decide)]; exact h.1.2.2.2.2.1) (fun q => (yi 32 (by decide)).symm.trans q), fun q => ?_⟩
    obtain ⟨g, n⟩ := h.2 ((yi 32 (by decide)).symm.trans q)
    have sg := i34_op n.2.2.2.1.1 h2
    have esg : sgI Y = sgI s + 1 := by unfold sgI; rw [y34]; exact sg.1
    refine ⟨g.ck h.1.1 t9.ck, t9.nb n h.1.1 ⟨h.1.2.2.2.2.2.2.1.1, h.1.2.2.2.2.2.2.1.2.1⟩ h.1.2.2.2.2.2.2.1.2.2 (by omega) (by omega) (by omega) (by omega) ⟨?_, ?_, ?_⟩⟩
    · have := n.2.2.2.2.2.2.1; omega
    · have := n.2.2.2.1.1; omega
    · omega
  obtain ⟨j, e⟩ := jY.tk h3 (fun _ => by rw [yi 43 (by decide), h1]; exact hv)
  refine ⟨j, fun q => ?_⟩
  have ex := e q
  have q' : s.i 32 = 0 := (yi 32 (by decide)).symm.trans ex.1
  obtain ⟨g, n⟩ := h.2 q'
  have sg := i34_op n.2.2.2.1.1 h2
  refine ⟨q', ⟨by have := ex.2.1.1; omega, by have := ex.2.1.2; omega⟩, ?_, t9.smx.tr ex.2.2.x⟩
  rw [ex.sg]
  unfold sgI
  rw [y34]
  exact sg.1
/-- a sign less -/
theorem JJ.dn {H : HB} {x y : Int} {c : List Nat} {X : List (Nat × List Nat)} {P : List Nat} {lim : List Int} {s : CS} (h : JJ H x y c X P lim s) (hs : s.i 32 = 0 → SGS s (cnI s).toNat ≤ sgI s - 1 ∧ 0 ≤ sgI s - 1) : JJ H x y c X P lim (CS.setI s 34 (s.i 34 - 1)) ∧ ((CS.setI s 34 (s.i 34 - 1)).i 32 = 0 → s.i 32 = 0 ∧ plI (CS.setI s 34 (s.i 34 - 1)) = plI s ∧ eI (CS.setI s 34 (s.i 34 - 1)) = eI s ∧ sgI (CS.setI s 34 (s.i 34 - 1)) = sgI s - 1 ∧ SMX s (CS.setI s 34 (s.i 34 - 1))) := by
  have t9 : TS9 s (CS.setI s 34 (s.i 34 - 1)) := (TS9.rf s).i34 _
  have yi : ∀ j : Nat, j ≠ 34 → (CS.setI s 34 (s.i 34 - 1)).i j = s.i j := fun j q => ci_ne _ _ _ q
  have y34 : (CS.setI s 34 (s.i 34 - 1)).i 34 = s.i 34 - 1 := ci_at _ _ _
  have lY : LC (CS.setI s 34 (s.i 34 - 1)) := h.1.2.2.1
  generalize CS.setI s 34 (s.i 34 - 1) = Y at *
  have plY : plI Y = plI s := by unfold plI; rw [yi 44 (by decide)]
  have eY : eI Y = eI s := by unfold eI; rw [plY, yi 43 (by decide)]
  have e1 : (1 : Int32).toInt = 1 := by decide
  have esg : s.i 32 = 0 → sgI Y = sgI s - 1 := fun q => by
    have q1 := (hs q).2
    have n := (h.2 q).2.2.2.2.1.2
    have q1 : 0 ≤ (s.i 34).toInt - 1 := q1
    have n : (s.i 34).toInt ≤ 20 := n
    show (Y.i 34).toInt = (s.i 34).toInt - 1
    rw [y34, toInt_sub] <;> rw [e1] <;> omega
  refine ⟨⟨t9.cb h.1 lY (by rw [yi 32 (by decide), yi 43 (by decide)]; exact h.1.2.2.2.2.1) (fun q => (yi 32 (by decide)).symm.trans q), fun q => ?_⟩, fun q => ?_⟩
  · have q' := (yi 32 (by decide)).symm.trans q
    obtain ⟨g, n⟩ := h.2 q'
    have e := esg q'
    have s2 := hs q'
    have n3 := n.2.2.2.1.2
    exact ⟨g.ck h.1.1 t9.ck, t9.nb n h.1.1 ⟨h.1.2.2.2.2.2.2.1.1, h.1.2.2.2.2.2.2.1.2.1⟩ h.1.2.2.2.2.2.2.1.2.2 (by omega) (by omega) (by omega) (by omega) ⟨by omega, by omega, by omega⟩⟩
  · have q' := (yi 32 (by decide)).symm.trans q
    exact ⟨q', plY, eY, esg q', t9.smx⟩
/-- a sign is closed -/
theorem q_clos {N : Nat} {H : HB} (hN : 1000 ≤ N) {x y : Int} {c : List Nat} {X : List (Nat × List Nat)} {P : List Nat} {lim : List Int} {s : CS} (h : JJ H x y c X P lim s) (hs : s.i 32 = 0 → SGS s (cnI s).toNat ≤ sgI s - 1 ∧ 0 ≤ sgI s - 1) (v : Int32) (hv : ¬ v = 0) : ok (f_X1_close N s v) (fun R => JJ H (x - 100) y c X P lim R.2 ∧ (R.2.i 32 = 0 → MOV (-1) s R.2)) := by
  unfold f_X1_close f_X1_close_22
  have fin : ∀ V : CS, JJ H (x - 100) y c X P lim V → (V.i 32 = 0 → EXR s V) → ok (some ((), CS.setI V 34 ((V.i 34) - 1))) (fun R => JJ H (x - 100) y c X P lim R.2 ∧ (R.2.i 32 = 0 → MOV (-1) s R.2)) := fun V hV he => by
    have d := hV.dn (fun q => by
      have ex := he q
      have z := hs ex.1
      have ecn : cnI V = cnI s := by unfold cnI; rw [ex.2.2.1.2.2.2.1]
      rw [ex.sg, ecn, (ex.2.2.2.1.sums h.1.2.2.2.2.2.2.1.2.2).2.1]
      exact z)
    refine ok_some ⟨d.1, fun q => ?_⟩
    obtain ⟨d1, d2, d3, d4, d5⟩ := d.2 q
    have ex := he d1
    exact ⟨ex.1, ⟨by rw [d2]; exact ex.2.1.1, by rw [d3]; exact ex.2.1.2⟩, by rw [d4, ex.sg]; omega, ex.2.2.x.tr d5⟩
  refine ok_bind (q_found s v) (fun p hp => ?_)
  obtain ⟨p1, p2⟩ := hp
  rw [p1]
  rcases p2 with ⟨q1, q2⟩ | ⟨q1, q2⟩
  · rw [if_pos q1]
    exact ok_bind (q_misp h.1) (fun q hq => fin q.2 (JJ.flt h.1 hq) (fun z => absurd z hq.2.2.2.1))
  · rw [q1, if_neg (by decide)]
    refine ok_bind (q_advC hN h.1) (fun q hq => ?_)
    obtain ⟨j, e⟩ := h.tk hq (fun _ => by rw [q2]; exact hv)
    exact fin q.2 j e
/-- something between two signs -/
theorem q_br {N : Nat} {H : HB} (hN : 1000 ≤ N) {α : Type} {E : CS → Option (α × CS)} {B : α → Prop} {x y : Int} {c : List Nat} {X : List (Nat × List Nat)} {P : List Nat} {lim : List Int} {s : CS} (h : JJ H x y c X P lim s) (v w : Int32) (hv : ¬ v = 0) (hw : ¬ w = 0) (hE : ∀ R : CS, JJ H (x - 100) y c X P lim R → (R.i 32 = 0 → MOV 1 s R) → ok (E R) (fun T => (JJ H (x - 150) y c X P lim T.2 ∧ (T.2.i 32 = 0 → EXR R T.2)) ∧ B T.1)) {β : Type} {K : α → CS → Option β} {Q : β → Prop} (hK : ∀ (a : α) (R : CS), B a → JJ H (x - 250) y c X P lim R → (R.i 32 = 0 → EXR s R) → ok (K a R) Q) : ok ((f_X1_open N s v).bind fun p => (E p.2).bind fun q => (f_X1_close N q.2 w).bind fun r => K q.1 r.2) Q := by
  refine ok_bind (q_open hN h.1 v) (fun p hp => ?_)
  obtain ⟨j1, m1⟩ := h.op hv hp
  refine ok_bind (hE p.2 j1 m1) (fun q hq => ?_)
  obtain ⟨⟨j2, m2⟩, hB⟩ := hq
  have hs : q.2.i 32 = 0 → MOV 1 s q.2 := fun z => by
    have a := m2 z
    have b := (m1 a.1).tr a.mv
    exact b
  refine ok_bind (q_clos hN j2 (fun z => ?_) w hw) (fun r hr => ?_)
  · have a := hs z
    obtain ⟨g, n⟩ := h.2 a.1
    have ecn : cnI q.2 = cnI s := by unfold cnI; rw [a.2.2.2.1.2.2.1]
    rw [ecn, (a.2.2.2.2.1.sums h.1.2.2.2.2.2.2.1.2.2).2.1, a.2.2.1]
    have := n.2.2.2.2.2.2.1
    have := n.2.2.2.1.1
    omega
  · refine hK q.1 r.2 hB (hr.1.w (by omega) (Int.le_refl _)) (fun z => ?_)
    have a := hr.2 z
    have b := (hs a.1).tr a
    exact MOV.ex b
end
section
/-! the class's reading: conditions -/
def EC2 (H : HB) (k : Int) (E : CS → Option (Int32 × CS)) : Prop := ∀ (x y : Int) (c : List Nat) (X : List (Nat × List Nat)) (P : List Nat) (lim : List Int) (s : CS), x ≤ 3900 → y + 3 * k ≤ 90 ∧ 0 ≤ k → JJ H x y c X P lim s → (s.i 32 = 0 → 24 - sgI s ≤ k) → ok (E s) (fun R => (JJ H (x - 50) y c X P lim R.2 ∧ (R.2.i 32 = 0 → EXR s R.2)) ∧ bo R.1)
theorem GW.sub {cD c : List Nat} {X X' : List (Nat × List Nat)} {P : List Nat} {lim : List Int} {s : CS} (h : GW cD c X P lim s) (hX : ∀ q ∈ X', q ∈ X) : GW cD c X' P lim s := by
  obtain ⟨D, DT, KT, h1, h2, h3, h4, h5, h6⟩ := h
  exact ⟨D, DT, KT, h1, h2, h3, h4, fun q hq => h5 q (hX q hq), h6⟩
theorem JJ.sub {H : HB} {x y : Int} {c : List Nat} {X X' : List (Nat × List Nat)} {P : List Nat} {lim : List Int} {s : CS} (h : JJ H x y c X P lim s) (hX : ∀ q ∈ X', q ∈ X) : JJ H x y c X' P lim s := ⟨h.1, fun q => ⟨(h.2 q).1.sub hX, (h.2 q).2⟩⟩
theorem GW.tc0 {cD c : List Nat} {X : List (Nat × List Nat)} {P : List Nat} {lim : List Int} {s : CS} (h : GW cD c X P lim s) : 0 ≤ tcI s ∧ 0 ≤ szI s := by
  obtain ⟨D, DT, KT, h1, h2, h3, h4, h5, h6, h7, h8⟩ := h
  exact ⟨h8.1, h4.1⟩
/-- a target at the place's own context -/
theorem JJ.new {H : HB} {x y : Int} {c : List Nat} {X : List (Nat × List Nat)} {P : List Nat} {lim : List Int} {s R : CS} (h : JJ H x y c X P lim s) (hr : NTG s R) (hx : x ≤ 10000) (hy : y ≤ 100) (d : List Nat) : JJ H x (y + 1) c (((tcI s).toNat, d) :: X) ((tcI s).toNat :: P) lim R := by
  obtain ⟨h1, h2⟩ := h
  have sm := hr.smr
  obtain ⟨⟨b1, b2, b3, b4, b5, b6, b7, b8, b9, b10⟩, b11, b12, b13, b14⟩ := (show NTG s R from hr)
  refine ⟨hr.cb h1 (fun q => by
    have w := h2 q
    exact ⟨w.1.tc0.1, by have := (w.2.sz h1.2.2.1 h1.2.2.2.2.2.2.1.1 hx hy).2; omega⟩), fun q => ?_⟩
  have q' : s.i 32 = 0 := (b11 32 (by decide)).symm.trans q
  obtain ⟨g, n⟩ := h2 q'
  have sz := n.sz h1.2.2.1 h1.2.2.2.2.2.2.1.1 hx hy
  refine ⟨g.new hr (by omega) d, n.of h1.2.2.2.2.2.2.1.1 h1.2.2.2.2.2.2.1.2.2 sm (by rw [b7]) b4 ⟨b11 43 (by decide), b11 44 (by decide)⟩ ?_ ?_⟩
  · have : szI R = szI s := by unfold szI; rw [b11 20 (by decide)]
    omega
  · have e1 : (1 : Int32).toInt = 1 := by decide
    have t0 : 0 ≤ (s.i 21).toInt := g.tc0.1
    have t1 : (s.i 21).toInt ≤ 1010 := sz.2
    have : tcI R = tcI s + 1 := by
      show (R.i 21).toInt = (s.i 21).toInt + 1
      rw [b12, toInt_add] <;> rw [e1] <;> omega
    omega
theorem JJ.aim {H : HB} {x y : Int} {c : List Nat} {X : List (Nat × List Nat)} {P P' : List Nat} {lim : List Int} {s R : CS} {t : Int32} (h : JJ H x y c X P lim s) (ha : AIM s R t) (hx : x ≤ 10000) (hy : y ≤ 100) (hT : s.i 32 = 0 → ∃ k : Nat, t.toInt = (k : Int) ∧ (k, c) ∈ X) (hP : ∀ k ∈ P, k ∈ P' ∨ (k : Int) = t.toInt) : JJ H x y c X P' lim R := by
  obtain ⟨h1, h2⟩ := h
  have sm := ha.smr
  obtain ⟨⟨b1, b2, b3, b4, b5, b6, b7, b8, b9, b10⟩, b11, b13, b14⟩ := (show AIM s R t from ha)
  refine ⟨ha.cb h1 (fun q => (h2 q).1.tc0.2), fun q => ?_⟩
  have q' : s.i 32 = 0 := by rw [← b11]; exact q
  obtain ⟨g, n⟩ := h2 q'
  have sz := n.sz h1.2.2.1 h1.2.2.2.2.2.2.1.1 hx hy
  obtain ⟨k, k1, k2⟩ := hT q'
  refine ⟨g.aim ha (by omega) (fun DT KT z _ => ?_) hP, n.of h1.2.2.2.2.2.2.1.1 h1.2.2.2.2.2.2.1.2.2 sm (by rw [b7]) b4 ⟨by rw [b11], by rw [b11]⟩ ?_ ?_⟩
  · have y := z (k, c) k2
    have ek : t.toInt.toNat = k := by omega
    rw [ek]
    exact ⟨by omega, by have := y.1; show t.toInt < tcI s; omega, y.2.1⟩
  · have : szI R = szI s := by unfold szI; rw [b11]
    omega
  · have : tcI R = tcI s := by unfold tcI; rw [b11]
    omega
/-- a jump, or a jump on a condition, to a known target -/
theorem IOK.jmp {tc : Int} {DT : Nat → List Nat} {KT : Nat → Prop} {X : List (Nat × List Nat)} {o x : Int32} {c : List Nat} {k : Nat} (ho : 30 ≤ o.toInt ∧ o.toInt ≤ 35) (hx : x.toInt = (k : Int)) (hk : (k, c) ∈ X) (hX : ∀ q ∈ X, (q.1 : Int) < tc ∧ DT q.1 = q.2 ∧ ¬ KT q.1) : IOK tc DT KT o x c c := by
  have y := hX (k, c) hk
  have ek : x.toInt.toNat = k := by omega
  have tt : TTc tc DT KT x c := ⟨by omega, by have := y.1; omega, by rw [ek]; exact y.2.1, by rw [ek]; exact y.2.2⟩
  exact ⟨fun q => by omega, fun _ => tt, fun _ _ => ⟨tt, rfl⟩, fun q => by omega, fun q => by omega, fun q => by omega, fun q => by omega, fun q => by omega, fun q => by omega, fun q => by omega, fun q => by omega, fun q => by omega, by omega⟩
theorem NTG.f {s R : CS} (h : NTG s R) : R.i 32 = s.i 32 ∧ R.i 43 = s.i 43 ∧ plI R = plI s ∧ eI R = eI s := by
  have e : plI R = plI s := by unfold plI; rw [h.2.1 44 (by decide)]
  exact ⟨h.2.1 32 (by decide), h.2.1 43 (by decide), e, by unfold eI; rw [e, h.2.1 43 (by decide)]⟩
theorem AIM.f {s R : CS} {t : Int32} (h : AIM s R t) : R.i 32 = s.i 32 ∧ plI R = plI s ∧ eI R = eI s := by
  have e : plI R = plI s := by unfold plI; rw [h.2.1]
  exact ⟨by rw [h.2.1], e, by unfold eI; rw [e, h.2.1]⟩
/-- conjunctions and disjunctions: the loop -/
def LPC (H : HB) (x y : Int) (c : List Nat) (X : List (Nat × List Nat)) (P : List Nat) (lim : List Int) (s : CS) (t : Nat) (v : Int32) (σ : CS) : Prop := ((JJ H x (y + 1) c ((t, c) :: X) (t :: P) lim σ ∧ (σ.i 32 = 0 → σ.i 43 = v)) ∨ JJ H x y c ((t, c) :: X) (t :: P) lim σ) ∧ (σ.i 32 = 0 → EXR s σ)
theorem q_lp {N : Nat} {H : HB} (hN : 1000 ≤ N) {k : Int} {E : CS → Option (Int32 × CS)} (hE : EC2 H k E) {x y : Int} {c : List Nat} {X : List (Nat × List Nat)} {P : List Nat} {lim : List Int} {s σ : CS} {t : Nat} {x2 v o : Int32} (hx : x ≤ 3900) (hy : y + 3 * k ≤ 90 ∧ 0 ≤ k) (hv : 128 ≤ v.toInt ∧ v.toInt ≤ 135) (ho : 30 ≤ o.toInt ∧ o.toInt ≤ 35) (hk : s.i 32 = 0 → 24 - sgI s ≤ k) (h2 : x2.toInt = (t : Int)) (h : LPC H x y c X P lim s t v σ) {K : CS → Option (Int32 × CS)} (hK : ∀ R : CS, JJ H x y c ((t, c) :: X) (t :: P) lim R → (R.i 32 = 0 → EXR s R) → ok (K R) (fun R => (JJ H x y c X P lim R.2 ∧ (R.2.i 32 = 0 → EXR s R.2)) ∧ bo R.1)) : ok ((f_X1_skip N σ v).bind fun p19 => (if p19.1 = 0 then ((f_X0_aim N p19.2 x2).bind fun p15 => some ((0 : Int32), p15.2)) else (f_X0_add N p19.2 o x2).bind fun p24 => (E p24.2).bind fun p28 => K p28.2)) (fun R => (JJ H x y c X P lim R.2 ∧ (R.2.i 32 = 0 → EXR s R.2)) ∧ bo R.1) := by
  obtain ⟨hj, he⟩ := h
  have cb : CBS H σ := by
    rcases hj with z | z
    · exact z.1.1
    · exact z.1
  have jw : JJ H x (y + 1) c ((t, c) :: X) (t :: P) lim σ := by
    rcases hj with z | z
    · exact z.1
    · exact z.w (Int.le_refl _) (by omega)
  refine ok_bind (q_skip hN cb v) (fun p hp => ?_)
  rcases hp with ⟨p1, p2, p3⟩ | ⟨p1, p2, p3⟩
  · rw [if_pos p1, p2]
    refine ok_bind (q_aim N σ x2) (fun a ha => ok_some ⟨⟨?_, fun q => ?_⟩, Or.inl rfl⟩)
    · have jy : JJ H x y c ((t, c) :: X) (t :: P) lim σ := by
        rcases hj with z | z
        · exact ⟨z.1.1, fun q => absurd (z.2 q) p3⟩
        · exact z
      exact (jy.aim ha (by omega) (by omega) (fun _ => ⟨t, h2, List.mem_cons_self ..⟩) (fun k hk => by
        rcases List.mem_cons.mp hk with e | e
        · exact Or.inr (by rw [e, h2])
        · exact Or.inl e)).sub (fun q hq => List.mem_cons_of_mem _ hq)
    · have f := ha.f
      have ex := he (f.1.symm.trans q)
      exact ⟨ex.1, ⟨by rw [f.2.1]; exact ex.2.1.1, by rw [f.2.2]; exact ex.2.1.2⟩, ex.2.2.tr ha.smr⟩
  · rw [p1, if_neg (by decide)]
    have gn := p3.gain cb.2.2.1
    have lg := gn.2.2.2.2.2.1 (by rw [p2]; exact hv)
    have n0 : ¬ σ.i 43 = 0 := fun z => by rw [p2] at z; rw [z, z_t0] at hv; omega
    have j1 : JJ H (x - 100) y c ((t, c) :: X) (t :: P) lim p.2 := jw.adv p3 (fun _ => by omega)
    have e1 := (jw.tk p3 (fun _ => n0)).2
    refine ok_bind (q_add N p.2 o x2) (fun a ha => ?_)
    have j2 := j1.add ha (by omega) (by omega) (fun _ DT KT z _ _ => IOK.jmp ho h2 (List.mem_cons_self ..) z)
    have f := ha.f32
    have pl := ha.pl
    have e2 : a.2.i 32 = 0 → EXR σ a.2 := fun q => by
      have ex := e1 (f.1.symm.trans q)
      exact ⟨ex.1, ⟨by rw [pl.1]; exact ex.2.1.1, by rw [pl.2]; exact ex.2.1.2⟩, ex.2.2.tr ha.smr⟩
    refine ok_bind (hE (x - 100 + 1) y c _ _ lim a.2 (by omega) (by omega) j2 (fun q => by rw [(e2 q).sg, (he (e2 q).1).sg]; exact hk (he (e2 q).1).1)) (fun b hb => ?_)
    exact hK b.2 (hb.1.1.w (by omega) (Int.le_refl _)) (fun q => ((he (e2 (hb.1.2 q).1).1).tr (e2 (hb.1.2 q).1)).tr (hb.1.2 q))
theorem q_conj27 {N : Nat} {H : HB} (hN : 1000 ≤ N) {k : Int} {E1 : CS → Option (Unit × CS)} {E2 : CS → Option (Int32 × CS)} (hE : EC2 H k E2) {x y : Int} {c : List Nat} {X : List (Nat × List Nat)} {P : List Nat} {lim : List Int} {s : CS} {t : Nat} {x2 : Int32} (hx : x ≤ 3900) (hy : y + 3 * k ≤ 90 ∧ 0 ≤ k) (hk : s.i 32 = 0 → 24 - sgI s ≤ k) (h2 : x2.toInt = (t : Int)) : ∀ (n : Nat) (σ : CS) (x3 : Int32), 0 ≤ x3.toInt → x3.toInt ≤ 900 → 900 - x3.toInt < n → LPC H x y c X P lim s t 132 σ → (¬ x3.toInt = 0 → JJ H x y c ((t, c) :: X) (t :: P) lim σ) → ok (f_X1_conjunction_27 N E1 E2 n σ x2 x3) (fun R => (JJ H x y c X P lim R.2 ∧ (R.2.i 32 = 0 → EXR s R.2)) ∧ bo R.1)
  | 0, _, _, _, _, h, _, _ => by omega
  | n + 1, σ, x3, h0, h9, hn, hl, hj => by
    show ok (b_X1_conjunction_27 N E1 E2 (f_X1_conjunction_27 N E1 E2 n) σ x2 x3) _
    unfold b_X1_conjunction_27 f_X1_conjunction_65
    have e9 : (900 : Int32).toInt = 900 := by decide
    have e1 : (1 : Int32).toInt = 1 := by decide
    refine ok_ite (fun c9 => ?_) (fun c9 => ?_)
    · have l := le_int c9
      have jy := hj (by omega)
      refine ok_bind (q_aim N σ x2) (fun a ha => ok_some ⟨⟨?_, fun q => ?_⟩, Or.inl rfl⟩)
      · exact (jy.aim ha (by omega) (by omega) (fun _ => ⟨t, h2, List.mem_cons_self ..⟩) (fun k hk => by
          rcases List.mem_cons.mp hk with e | e
          · exact Or.inr (by rw [e, h2])
          · exact Or.inl e)).sub (fun q hq => List.mem_cons_of_mem _ hq)
      · have f := ha.f
        have ex := hl.2 (f.1.symm.trans q)
        exact ⟨ex.1, ⟨by rw [f.2.1]; exact ex.2.1.1, by rw [f.2.2]; exact ex.2.1.2⟩, ex.2.2.tr ha.smr⟩
    · have l : x3.toInt < 900 := by
        have := lt_int (Int32.not_le.mp c9)
        rw [e9] at this; exact this
      have es : (x3 + 1).toInt = x3.toInt + 1 := by rw [toInt_add] <;> rw [e1] <;> omega
      exact q_lp hN hE hx hy (by decide) (by decide) hk h2 hl (fun R hR hR2 => q_conj27 hN hE hx hy hk h2 n R (x3 + 1) (by omega) (by omega) (by omega) ⟨Or.inr hR, hR2⟩ (fun _ => hR))
theorem q_first {N : Nat} {H : HB} (hN : 1000 ≤ N) {k : Int} {E : CS → Option (Int32 × CS)} (hE : EC2 H k E) {v : Int32} {L : CS → Int32 → Option (Int32 × CS)} (hL : ∀ (x y : Int) (c : List Nat) (X : List (Nat × List Nat)) (P : List Nat) (lim : List Int) (s σ : CS) (t : Nat) (x2 : Int32), x ≤ 3900 → y + 3 * k ≤ 90 ∧ 0 ≤ k → (s.i 32 = 0 → 24 - sgI s ≤ k) → x2.toInt = (t : Int) → LPC H x y c X P lim s t v σ → ok (L σ x2) (fun R => (JJ H x y c X P lim R.2 ∧ (R.2.i 32 = 0 → EXR s R.2)) ∧ bo R.1)) {x y : Int} {c : List Nat} {X : List (Nat × List Nat)} {P : List Nat} {lim : List Int} {s : CS} (hx : x ≤ 3900) (hy : y + 3 * k ≤ 90 ∧ 0 ≤ k) (h : JJ H x y c X P lim s) (hk : s.i 32 = 0 → 24 - sgI s ≤ k) (hv : ¬ v = 0) : ok ((E s).bind fun p1 => (f_X1_found N p1.2 v).bind fun p5 => (if p5.1 = 0 then if p1.1 = 0 ∨ p1.1 = 1 then some (p1.1, p5.2) else none else (f_X0_newTarget N p5.2).bind fun p10 => L p10.2 p10.1)) (fun R => (JJ H (x - 50) y c X P lim R.2 ∧ (R.2.i 32 = 0 → EXR s R.2)) ∧ bo R.1) := by
  refine ok_bind (hE x y c X P lim s (by omega) (by omega) h hk) (fun p hp => ?_)
  obtain ⟨⟨j1, e1⟩, b1⟩ := hp
  refine ok_bind (q_found p.2 v) (fun q hq => ?_)
  obtain ⟨q1, q2⟩ := hq
  rw [q1]
  rcases q2 with ⟨q2, q3⟩ | ⟨q2, q3⟩
  · rw [if_pos q2]
    exact ok_chk b1 (ok_some ⟨⟨j1, e1⟩, b1⟩)
  rw [q2, if_neg (by decide)]
  have nf : p.2.i 32 = 0 := by
    by_cases z : p.2.i 32 = 0
    · exact z
    · have := j1.1.2.2.2.2.1 z
      rw [q3] at this
      exact absurd this hv
  refine ok_bind (q_newTarget N p.2) (fun t ht => ?_)
  obtain ⟨t1, t2⟩ := ht
  have f := t1.f
  have j2 := j1.new t1 (by omega) (by omega) c
  have tc := (j1.2 nf).1.tc0.1
  rw [t2]
  refine hL (x - 50) y c X P lim s t.2 (tcI p.2).toNat (p.2.i 21) (by omega) hy hk (by show tcI p.2 = _; omega) ⟨Or.inl ⟨j2, fun _ => by rw [f.2.1]; exact q3⟩, fun z => ?_⟩
  have ex := e1 nf
  exact ⟨ex.1, ⟨by rw [f.2.2.1]; exact ex.2.1.1, by rw [f.2.2.2]; exact ex.2.1.2⟩, ex.2.2.tr t1.smr⟩
theorem q_conjunction {N : Nat} {H : HB} (hN : 1000 ≤ N) {k : Int} {E1 : CS → Option (Unit × CS)} {E2 : CS → Option (Int32 × CS)} (hE : EC2 H k E2) : EC2 H k (f_X1_conjunction N E1 E2) := by
  intro x y c X P lim s hx hy h hk
  unfold f_X1_conjunction
  exact q_first hN hE (v := 132) (L := fun σ x2 => f_X1_conjunction_27 N E1 E2 N σ x2 0) (fun x y c X P lim s σ t x2 a1 a2 a3 a4 a5 => q_conj27 hN hE a1 a2 a3 a4 N σ 0 (by decide) (by decide) (by rw [z_t0]; omega) a5 (fun q => absurd z_t0 q)) hx hy h hk (by decide)
theorem q_cond27 {N : Nat} {H : HB} (hN : 1000 ≤ N) {k : Int} {E1 : CS → Option (Unit × CS)} {E2 : CS → Option (Int32 × CS)} (hE : EC2 H k (f_X1_conjunction N E1 E2)) {x y : Int} {c : List Nat} {X : List (Nat × List Nat)} {P : List Nat} {lim : List Int} {s : CS} {t : Nat} {x2 : Int32} (hx : x ≤ 3900) (hy : y + 3 * k ≤ 90 ∧ 0 ≤ k) (hk : s.i 32 = 0 → 24 - sgI s ≤ k) (h2 : x2.toInt = (t : Int)) : ∀ (n : Nat) (σ : CS) (x3 : Int32), 0 ≤ x3.toInt → x3.toInt ≤ 900 → 900 - x3.toInt < n → LPC H x y c X P lim s t 133 σ → (¬ x3.toInt = 0 → JJ H x y c ((t, c) :: X) (t :: P) lim σ) → ok (f_X1_condition_27 N E1 E2 n σ x2 x3) (fun R => (JJ H x y c X P lim R.2 ∧ (R.2.i 32 = 0 → EXR s R.2)) ∧ bo R.1)
  | 0, _, _, _, _, h, _, _ => by omega
  | n + 1, σ, x3, h0, h9, hn, hl, hj => by
    show ok (b_X1_condition_27 N E1 E2 (f_X1_condition_27 N E1 E2 n) σ x2 x3) _
    unfold b_X1_condition_27 f_X1_condition_65
    have e9 : (900 : Int32).toInt = 900 := by decide
    have e1 : (1 : Int32).toInt = 1 := by decide
    refine ok_ite (fun c9 => ?_) (fun c9 => ?_)
    · have l := le_int c9
      have jy := hj (by omega)
      refine ok_bind (q_aim N σ x2) (fun a ha => ok_some ⟨⟨?_, fun q => ?_⟩, Or.inl rfl⟩)
      · exact (jy.aim ha (by omega) (by omega) (fun _ => ⟨t, h2, List.mem_cons_self ..⟩) (fun k hk => by
          rcases List.mem_cons.mp hk with e | e
          · exact Or.inr (by rw [e, h2])
          · exact Or.inl e)).sub (fun q hq => List.mem_cons_of_mem _ hq)
      · have f := ha.f
        have ex := hl.2 (f.1.symm.trans q)
        exact ⟨ex.1, ⟨by rw [f.2.1]; exact ex.2.1.1, by rw [f.2.2]; exact ex.2.1.2⟩, ex.2.2.tr ha.smr⟩
    · have l : x3.toInt < 900 := by
        have := lt_int (Int32.not_le.mp c9)
        rw [e9] at this; exact this
      have es : (x3 + 1).toInt = x3.toInt + 1 := by rw [toInt_add] <;> rw [e1] <;> omega
      exact q_lp hN hE hx hy (by decide) (by decide) hk h2 hl (fun R hR hR2 => q_cond27 hN hE hx hy hk h2 n R (x3 + 1) (by omega) (by omega) (by omega) ⟨Or.inr hR, hR2⟩ (fun _ => hR))
theorem q_condition {N : Nat} {H : HB} (hN : 1000 ≤ N) {k : Int} {E1 : CS → Option (Unit × CS)} {E2 : CS → Option (Int32 × CS)} (hE : EC2 H k E2) : EC2 H k (f_X1_condition N E1 E2) := by
  intro x y c X P lim s hx hy h hk
  have hC := q_conjunction (E1 := E1) hN hE
  unfold f_X1_condition
  exact q_first hN hC (v := 133) (L := fun σ x2 => f_X1_condition_27 N E1 E2 N σ x2 0) (fun x y c X P lim s σ t x2 a1 a2 a3 a4 a5 => q_cond27 hN hC a1 a2 a3 a4 N σ 0 (by decide) (by decide) (by rw [z_t0]; omega) a5 (fun q => absurd z_t0 q)) hx hy h hk (by decide)
end
section
/-! the class's reading: one, factor -/
/-- a word is read to an instruction that falls through -/
theorem q_at {N : Nat} {H : HB} (hN : 1000 ≤ N) {x y : Int} {c : List Nat} {X : List (Nat × List Nat)} {P : List Nat} {lim : List Int} {s : CS} (hx : x ≤ 3900) (hy : y ≤ 90) (h : JJ H x y c X P lim s) (h0 : s.i 32 = 0 → ¬ s.i 43 = 0) (o v : Int32) (ho : o.toInt < 30) {β : Type} {K : CS → Option β} {Q : β → Prop} (hK : ∀ R : CS, JJ H (x - 50) y c X P lim R → (R.i 32 = 0 → EXR s R) → ok (K R) Q) : ok ((f_X0_add N s o v).bind fun a => (f_X9_advance N a.2).bind fun b => K b.2) Q := by
  refine ok_bind (q_add N s o v) (fun a ha => ?_)
  have j1 := h.add ha (by omega) (by omega) (fun _ _ _ _ _ _ => IOK.fall (Or.inl ho))
  have f := ha.f32
  have pl := ha.pl
  refine ok_bind (q_advC hN j1.1) (fun b hb => ?_)
  obtain ⟨j2, e2⟩ := j1.tk hb (fun q => by rw [f.2.1]; exact h0 (f.1.symm.trans q))
  refine hK b.2 (j2.w (by omega) (Int.le_refl _)) (fun q => ?_)
  have ex := e2 q
  exact ⟨f.1.symm.trans ex.1, ⟨by rw [← pl.1]; exact ex.2.1.1, by rw [← pl.2]; exact ex.2.1.2⟩, ha.smr.tr ex.2.2⟩
/-- a sign before a formula: ! or - -/
theorem q_pre {N : Nat} {H : HB} (hN : 1000 ≤ N) {α : Type} {E : CS → Option (α × CS)} {x y : Int} {c : List Nat} {X : List (Nat × List Nat)} {P : List Nat} {lim : List Int} {s : CS} (hx : x ≤ 3900) (hy : y ≤ 90) (h : JJ H x y c X P lim s) (v o : Int32) (hv : ¬ v = 0) (ho : o.toInt < 30) (hE : ∀ R : CS, JJ H (x - 100) y c X P lim R → (R.i 32 = 0 → MOV 1 s R) → ok (E R) (fun T => JJ H (x - 150) y c X P lim T.2 ∧ (T.2.i 32 = 0 → EXR R T.2))) {β : Type} {K : CS → Option β} {Q : β → Prop} (hK : ∀ R : CS, JJ H (x - 50) y c X P lim R → (R.i 32 = 0 → EXR s R) → ok (K R) Q) : ok ((f_X1_open N s v).bind fun p => (if (p.2.i 32) = 0 then (E p.2).bind fun q => ((f_X0_add N (CS.setI q.2 34 ((q.2.i 34) - 1)) o 0).bind fun r => K r.2) else ((f_X0_add N (CS.setI p.2 34 ((p.2.i 34) - 1)) o 0).bind fun r => K r.2))) Q := by
  refine ok_bind (q_open hN h.1 v) (fun p hp => ?_)
  obtain ⟨j1, m1⟩ := h.op hv hp
  have tail : ∀ q : CS, JJ H (x - 100) y c X P lim q → (q.i 32 = 0 → MOV 1 s q) → ok ((f_X0_add N (CS.setI q 34 ((q.i 34) - 1)) o 0).bind fun r => K r.2) Q := fun q jq mq => by
    have d := jq.dn (fun z => by
      have a := mq z
      obtain ⟨g, n⟩ := h.2 a.1
      have ecn : cnI q = cnI s := by unfold cnI; rw [a.2.2.2.1.2.2.1]
      rw [ecn, (a.2.2.2.2.1.sums h.1.2.2.2.2.2.2.1.2.2).2.1, a.2.2.1]
      have := n.2.2.2.2.2.2.1
      have := n.2.2.2.1.1
      omega)
    refine ok_bind (q_add N _ o 0) (fun r hr => ?_)
    have j3 := d.1.add hr (by omega) (by omega) (fun _ _ _ _ _ _ => IOK.fall (Or.inl ho))
    have f := hr.f32
    have pl := hr.pl
    refine hK r.2 (j3.w (by omega) (Int.le_refl _)) (fun z => ?_)
    obtain ⟨d1, d2, d3, d4, d5⟩ := d.2 (f.1.symm.trans z)
    have a := mq d1
    refine MOV.ex ⟨a.1, ⟨by rw [pl.1, d2]; exact a.2.1.1, by rw [pl.2, d3]; exact a.2.1.2⟩, ?_, (a.2.2.2.tr d5).tr hr.smr.x⟩
    have e : sgI r.2 = sgI (CS.setI q 34 ((q.i 34) - 1)) := by unfold sgI; rw [hr.smr.1.1]
    rw [e, d4, a.2.2.1]
    omega
  refine ok_ite (fun _ => ok_bind (hE p.2 j1 m1) (fun q hq => ?_)) (fun _ => tail p.2 j1 m1)
  exact tail q.2 (hq.1.w (by omega) (Int.le_refl _)) (fun z => by
    have a := hq.2 z
    exact (m1 a.1).tr a.mv)
theorem q_one {N : Nat} {H : HB} (hN : 1000 ≤ N) {k : Int} {E1 : CS → Option (Unit × CS)} {E2 : CS → Option (Int32 × CS)} (hE : EC H k E1) (hE2 : EC2 H k E2) (hk0 : 0 ≤ k) : EC2 H (k + 1) (f_X1_one N E1 E2) := by
  intro x y c X P lim s hx hy h hk
  unfold f_X1_one f_X1_one_66
  have h0 : ∀ v : Int32, ¬ v = 0 → s.i 43 = v → s.i 32 = 0 → ¬ s.i 43 = 0 := fun v hv e _ => by rw [e]; exact hv
  refine ok_ite (fun c1 => ?_) (fun _ => ok_ite (fun c2 => ?_) (fun _ => ok_ite (fun c3 => ?_) (fun _ => ok_ite (fun c4 => ?_) (fun _ => ?_))))
  · exact q_pre hN hx (by omega) h 33 5 (by decide) (by decide) (fun R hR hM => ok_imp (hE2 (x - 100) y c X P lim R (by omega) (by omega) hR (fun q => by
      have a := hM q
      have := hk a.1
      rw [a.2.2.1]; omega)) (fun T hT => ⟨hT.1.1.w (by omega) (Int.le_refl _), hT.1.2⟩)) (K := fun r => some ((0 : Int32), r)) (fun R hR hR2 => ok_some ⟨⟨hR, hR2⟩, Or.inl rfl⟩)
  · exact q_br hN h 91 93 (by decide) (by decide) (B := bo) (fun R hR hM => ok_imp (q_condition hN hE2 (x - 100) y c X P lim R (by omega) (by omega) hR (fun q => by
      have a := hM q
      have := hk a.1
      rw [a.2.2.1]; omega)) (fun T hT => ⟨⟨hT.1.1.w (by omega) (Int.le_refl _), hT.1.2⟩, hT.2⟩)) (K := fun _ r => some ((0 : Int32), r)) (fun a R _ hR hR2 => ok_some ⟨⟨hR.w (by omega) (Int.le_refl _), hR2⟩, Or.inl rfl⟩)
  · exact q_at hN hx (by omega) h (h0 222 (by decide) c3) 0 1 (by decide) (K := fun r => some ((1 : Int32), r)) (fun R hR hR2 => ok_some ⟨⟨hR, hR2⟩, Or.inr rfl⟩)
  · exact q_at hN hx (by omega) h (h0 223 (by decide) c4) 0 0 (by decide) (K := fun r => some ((0 : Int32), r)) (fun R hR hR2 => ok_some ⟨⟨hR, hR2⟩, Or.inl rfl⟩)
  · refine ok_bind (q_comparison (E2 := E2) hN hE x y c X P lim s hx (by omega) h (fun q => by have := hk q; omega)) (fun p hp => ok_some ⟨hp, Or.inl rfl⟩)
theorem q_find2 {N : Nat} {s : CS} (n0 : 0 ≤ nmI s ∧ nmI s ≤ 128) (nm : Int64) : ∀ (n : Nat) (x3 : Int32), 0 ≤ x3.toInt → x3.toInt ≤ 128 → 128 - x3.toInt < n → ok (f_X4_find_2 N n s nm x3) (fun R => R.2 = s ∧ (0 ≤ R.1 → 0 ≤ R.1.toInt ∧ R.1.toInt < nmI s))
  | 0, _, _, _, h => by omega
  | n + 1, x3, h0, h1, hn => by
    show ok (b_X4_find_2 N (f_X4_find_2 N n) s nm x3) _
    unfold b_X4_find_2 f_X4_find_38
    have e1 : (1 : Int32).toInt = 1 := by decide
    have e128 : (128 : Int32).toInt = 128 := by decide
    have m1 : ¬ (0 : Int32) ≤ -1 := by decide
    refine ok_ite (fun _ => ok_some ⟨rfl, fun q => absurd q m1⟩) (fun ca => ok_ite (fun _ => ok_some ⟨rfl, fun q => absurd q m1⟩) (fun cb => ?_))
    have l1 : x3.toInt < nmI s := lt_int (Int32.not_le.mp ca)
    have es : (x3 + 1).toInt = x3.toInt + 1 := by rw [toInt_add] <;> rw [e1] <;> omega
    exact ok_chk ⟨h0, by omega⟩ (ok_ite (fun _ => ok_some ⟨rfl, fun _ => ⟨h0, l1⟩⟩) (fun _ => q_find2 n0 nm n (x3 + 1) (by omega) (by omega) (by omega)))
theorem q_find {N : Nat} (hN : 1000 ≤ N) {s : CS} (n0 : 0 ≤ nmI s ∧ nmI s ≤ 128) (nm : Int64) : ok (f_X4_find N s nm) (fun R => R.2 = s ∧ (0 ≤ R.1 → 0 ≤ R.1.toInt ∧ R.1.toInt < nmI s)) := q_find2 n0 nm N 0 (by decide) (by decide) (by rw [z_t0]; omega)
theorem q_loadName {N : Nat} {H : HB} (hN : 1000 ≤ N) {x y : Int} {c : List Nat} {X : List (Nat × List Nat)} {P : List Nat} {lim : List Int} {s : CS} (hx : x ≤ 3900) (hy : y ≤ 90) (h : JJ H x y c X P lim s) (h0 : s.i 32 = 0 → ¬ s.i 43 = 0) : ok (f_X1_loadName N s) (fun R => JJ H (x - 50) y c X P lim R.2 ∧ (R.2.i 32 = 0 → EXR s R.2)) := by
  unfold f_X1_loadName f_X4_cellOf
  refine ok_bind (q_find hN h.1.2.2.2.2.2.1 s.l) (fun p hp => ?_)
  rw [hp.1]
  refine ok_ite (fun _ => ?_) (fun _ => ok_bind (q_failC h.1 3 _ (by decide)) (fun q hq => ok_some ⟨JJ.flt h.1 hq, fun z => absurd z hq.2.2.2.1⟩))
  exact q_at hN hx (by omega) h h0 1 _ (by decide) (K := fun r => some ((), r)) (fun R hR hR2 => ok_some ⟨hR, hR2⟩)
/-- all of factor but the switch that answers -/
theorem q_factor {N : Nat} {H : HB} (hN : 1000 ≤ N) {k : Int} {E1 : CS → Option (Unit × CS)} {E2 : CS → Option (Int32 × CS)} (hE : EC H k E1) (hC : ∀ (x y : Int) (c : List Nat) (X : List (Nat × List Nat)) (P : List Nat) (lim : List Int) (s : CS), x ≤ 3900 → y + 3 * k ≤ 87 ∧ 0 ≤ k → JJ H x y c X P lim s → (s.i 32 = 0 → 23 - sgI s ≤ k + 1) → s.i 43 = 218 → s.i 32 = 0 → ok (f_X1_choice N E1 E2 s) (fun R => JJ H (x - 50) y c X P lim R.2 ∧ (R.2.i 32 = 0 → EXR s R.2))) (hk0 : 0 ≤ k) : EC H (k + 1) (f_X1_factor N E1 E2) := by
  intro x y c X P lim s hx hy h hk
  unfold f_X1_factor f_X1_negated f_X1_negated_17
  have h0 : ∀ v : Int32, ¬ v = 0 → s.i 43 = v → s.i 32 = 0 → ¬ s.i 43 = 0 := fun v hv e _ => by rw [e]; exact hv
  refine ok_ite (fun c1 => ?_) (fun _ => ok_ite (fun c2 => ?_) (fun _ => ok_ite (fun c3 => ?_) (fun _ => ok_ite (fun c4 => ?_) (fun _ => ok_ite (fun c5 => ?_) (fun _ => ?_)))))
  · exact q_at hN hx (by omega) h (h0 1 (by decide) c1) 0 _ (by decide) (K := fun r => some ((), r)) (fun R hR hR2 => ok_some ⟨hR, hR2⟩)
  · exact ok_bind (q_loadName hN hx (by omega) h (h0 2 (by decide) c2)) (fun p hp => ok_some hp)
  · exact q_br hN h 40 41 (by decide) (by decide) (B := fun _ => True) (fun R hR hM => ok_imp (q_expression (E2 := E2) hN hE (x - 100) y c X P lim R (by omega) (by omega) hR (fun q => by
      have a := hM q
      have := hk a.1
      rw [a.2.2.1]; omega)) (fun T hT => ⟨⟨hT.1.w (by omega) (Int.le_refl _), hT.2⟩, True.intro⟩)) (K := fun _ r => some ((), r)) (fun a R _ hR hR2 => ok_some ⟨hR.w (by omega) (Int.le_refl _), hR2⟩)
  · refine ok_bind (Q := fun R => JJ H (x - 50) y c X P lim R.2 ∧ (R.2.i 32 = 0 → EXR s R.2)) ?_ (fun p hp => ok_some hp)
    exact q_pre hN hx (by omega) h 45 4 (by decide) (by decide) (fun R hR hM => ok_imp (hE (x - 100) y c X P lim R (by omega) (by omega) hR (fun q => by
      have a := hM q
      have := hk a.1
      rw [a.2.2.1]; omega)) (fun T hT => ⟨hT.1.w (by omega) (Int.le_refl _), hT.2⟩)) (K := fun r => some ((), r)) (fun R hR hR2 => ok_some ⟨hR, hR2⟩)
  · have nf : s.i 32 = 0 := by
      by_cases z : s.i 32 = 0
      · exact z
      · have := h.1.2.2.2.2.1 z
        rw [c5] at this
        exact absurd this (by decide)
    exact ok_bind (hC x y c X P lim s hx (by omega) h hk c5 nf) (fun p hp => ok_some hp)
  · exact ok_bind (q_misp h.1) (fun p hp => ok_some ⟨JJ.flt h.1 hp, fun z => absurd z hp.2.2.2.1⟩)
end
section
/-! the class's reading: numbers of cases -/
theorem q_has2 {N : Nat} {s : CS} {v : Int32} : ∀ (n : Nat) (x3 : Int32), ccI s - x3.toInt < n → ok (f_X0_hasCase_2 N (n + 1) s v x3) (fun R => R.2 = s ∧ (R.1 = 0 → ∀ i : Nat, x3.toInt ≤ (i : Int) → (i : Int) < ccI s → i < 320 → ¬ s.a 18 i = v))
  | n, x3, hn => by
    show ok (b_X0_hasCase_2 N (f_X0_hasCase_2 N n) s v x3) _
    unfold b_X0_hasCase_2
    have e1 : (1 : Int32).toInt = 1 := by decide
    refine ok_ite (fun c => ok_some ⟨rfl, fun _ i q1 q2 => ?_⟩) (fun c => ok_ite (fun _ => ok_some ⟨rfl, fun q => absurd (show (1 : Int32) = 0 from q) (by decide)⟩) (fun cv => ?_))
    · have := le_int c
      have q2 : (i : Int) < (s.i 22).toInt := q2
      omega
    have l : x3.toInt < ccI s := lt_int (Int32.not_le.mp c)
    have l' : x3.toInt < (s.i 22).toInt := l
    have b1 := Int32.toInt_lt (s.i 22)
    have b2 := Int32.le_toInt x3
    have es : (x3 + 1).toInt = x3.toInt + 1 := by rw [toInt_add] <;> rw [e1] <;> omega
    obtain ⟨n', rfl⟩ : ∃ n', n = n' + 1 := ⟨n - 1, by omega⟩
    refine ok_imp (q_has2 n' (x3 + 1) (by omega)) (fun R hR => ⟨hR.1, fun q i q1 q2 q3 => ?_⟩)
    by_cases e : (i : Int) = x3.toInt
    · intro z
      refine cv ?_
      unfold gAt
      have ib' : ib x3 320 := ⟨by omega, by omega⟩
      rw [if_pos ib']
      have cl := clampI ib'.1
      have ei : x3.toNatClampNeg = i := by omega
      rw [ei]; exact z
    · exact hR.2 q i (by omega) q2 q3
  termination_by n => n
theorem q_has {N : Nat} (hN : 10000000000 ≤ N) {s : CS} (x v : Int32) : ok (f_X0_hasCase N s x v) (fun R => R.2 = s ∧ (R.1 = 0 → ∀ i : Nat, x.toInt ≤ (i : Int) → (i : Int) < ccI s → i < 320 → ¬ s.a 18 i = v)) := by
  unfold f_X0_hasCase
  obtain ⟨N', rfl⟩ : ∃ N', N = N' + 1 := ⟨N - 1, by omega⟩
  have b1 := Int32.toInt_lt (s.i 22)
  have b2 := Int32.le_toInt x
  exact q_has2 N' x (by show (s.i 22).toInt - x.toInt < N'; omega)
/-- a case more -/
def ACS (s R : CS) (v t : Int32) : Prop := (R.hs = s.hs ∧ R.L = s.L ∧ R.k = s.k ∧ R.o = s.o ∧ R.ol = s.ol ∧ R.ot = s.ot ∧ R.r = s.r ∧ R.w = s.w ∧ R.b = s.b ∧ R.l = s.l) ∧ (∀ j : Nat, j ≠ 22 → R.i j = s.i j) ∧ R.i 22 = s.i 22 + 1 ∧ (∀ k : Nat, k ≠ 18 → k ≠ 19 → R.a k = s.a k) ∧ R.a 18 = gPut (s.a 18) 320 (s.i 22) v ∧ R.a 19 = gPut (s.a 19) 320 (s.i 22) t
theorem q_addCase (N : Nat) (s : CS) (v t : Int32) : ok (f_X0_addCase N s v t) (fun R => ACS s R.2 v t) := by
  unfold f_X0_addCase
  have e19 : CS.a (CS.putA s 18 (gPut (s.a 18) 320 (s.i 22) v)) 19 = s.a 19 := ca_ne _ _ _ (by decide)
  rw [e19]
  refine ok_some ⟨⟨?_, ?_, ?_, ?_, ?_, ?_, ?_, ?_, ?_, ?_⟩, fun j hj => ?_, ?_, fun k q1 q2 => ?_, ?_, ?_⟩
  · rw [chs_setI, chs_putA, chs_putA]
  · rw [cL_setI, cL_putA, cL_putA]
  · rw [ck_setI, ck_putA, ck_putA]
  · rw [co_setI, co_putA, co_putA]
  · rw [col_setI, col_putA, col_putA]
  · rw [cot_setI, cot_putA, cot_putA]
  · rw [cr_setI, cr_putA, cr_putA]
  · rw [cw_setI, cw_putA, cw_putA]
  · rw [cb_setI, cb_putA, cb_putA]
  · rw [cl_setI, cl_putA, cl_putA]
  · rw [ci_ne _ _ _ hj, ci_putA, ci_putA]
  · rw [ci_at]
  · rw [ca_setI, ca_ne _ _ _ q2, ca_ne _ _ _ q1]
  · rw [ca_setI, ca_ne _ _ _ (by decide), ca_put]
  · rw [ca_setI, ca_put]
theorem GW.acs {cD c : List Nat} {X : List (Nat × List Nat)} {P : List Nat} {lim : List Int} {s R : CS} {v t : Int32} (h : GW cD c X P lim s) (ha : ACS s R v t) (hb : 0 ≤ ccI s ∧ ccI s ≤ 1000) : GW cD c X P lim R := by
  have hl := h.lim
  obtain ⟨D, DT, KT, h1, h2, h3, h4, h5, ⟨n, n1, n2, n3⟩, h7, h8⟩ := h
  obtain ⟨⟨b1, b2, b3, b4, b5, b6, b7, b8, b9, b10⟩, b11, b12, b13, b14, b15⟩ := ha
  have etc : tcI R = tcI s := by unfold tcI; rw [b11 21 (by decide)]
  have esz : szI R = szI s := by unfold szI; rw [b11 20 (by decide)]
  have ecn : cnI R = cnI s := by unfold cnI; rw [b11 53 (by decide)]
  have enm : nmI R = nmI s := by unfold nmI; rw [b11 50 (by decide)]
  refine ⟨D, DT, KT, ?_, ?_, fun k q1 q2 q3 => ?_, by rw [esz]; exact h4, by rw [etc]; exact h5, ⟨n, by rw [ecn]; exact n1, n2, ?_⟩, by rw [enm, b13 49 (by decide) (by decide)]; exact h7, by rw [etc]; exact h8.1, ?_, h8.2.2.of ecn enm (fun i a _ e => by rw [b7] at e; exact ⟨e, by rw [b4]⟩)⟩
  · unfold CDT at *; rw [b13 15 (by decide) (by decide), b13 16 (by decide) (by decide), etc, esz]; exact h1
  · unfold TGS at *; rw [b13 17 (by decide) (by decide), etc, esz]; exact h2
  · rw [etc] at q1
    rw [b13 17 (by decide) (by decide)] at q3
    rcases h3 k q1 q2 q3 with z | z
    · exact Or.inl z
    · exact Or.inr (z.of (by omega) (fun i a _ e => ⟨by rw [b7]; exact e, by rw [b4]⟩))
  · refine n3.mono (by omega) (fun _ _ => ⟨rfl, Iff.rfl⟩) (fun k _ q => by rw [b13 17 (by decide) (by decide)]; exact q) (fun i _ => ⟨by rw [b7], fun a _ => ⟨by rw [b4], by rw [b5]⟩⟩) (fun m hm => ?_) (fun _ _ _ _ m _ => by rw [b13 49 (by decide) (by decide)]) n3.nr
    rw [b15]
    exact gPut_ne (by have : ccI s = (s.i 22).toInt := rfl; omega)
  · have e1 : (1 : Int32).toInt = 1 := by decide
    have hb' : 0 ≤ (s.i 22).toInt ∧ (s.i 22).toInt ≤ 1000 := hb
    have hl' : lmh lim ≤ (s.i 22).toInt := hl
    show lmh lim ≤ (R.i 22).toInt
    rw [b12, toInt_add] <;> rw [e1] <;> omega
/-- a case's number was read -/
def CNR (first : Int) (s R : CS) (t : Int32) : Prop := s.i 32 = 0 ∧ (plI s + 1 ≤ plI R ∧ eI s ≤ eI R) ∧ ccI R = ccI s + 1 ∧ R.i 34 = s.i 34 ∧ (R.i 38 = s.i 38 ∧ R.i 50 = s.i 50 ∧ R.i 53 = s.i 53 ∧ R.i 56 = s.i 56 ∧ R.i 36 = s.i 36) ∧ RSQ s R (cnI s).toNat ∧ (∀ n : Nat, (n : Int) < nmI s → R.a 49 n = s.a 49 n) ∧ (∀ i : Nat, (i : Int) < ccI s → R.a 18 i = s.a 18 i ∧ R.a 19 i = s.a 19 i) ∧ R.a 19 (ccI s).toNat = t ∧ (plI s + 2 ≤ plI R ∨ 0 ≤ (R.a 18 (ccI s).toNat).toInt ∧ (R.a 18 (ccI s).toNat).toInt ≤ 9) ∧ (∀ i : Nat, first ≤ (i : Int) → (i : Int) < ccI s → ¬ s.a 18 i = R.a 18 (ccI s).toNat)
theorem q_caseNumber {N : Nat} {H : HB} (hN : 10000000000 ≤ N) {x y : Int} {c : List Nat} {X : List (Nat × List Nat)} {P : List Nat} {lim : List Int} {s : CS} (hx : x ≤ 5000) (hy : y ≤ 95) (h : JJ H x y c X P lim s) (x1 x2 : Int32) (hcc : ∀ R : CS, CNR x1.toInt s R x2 → 3 * (ccI s + 1) ≤ plI R) : ok (f_X1_caseNumber N s x1 x2) (fun R => JJ H (x - 50) y c X P lim R.2 ∧ (R.2.i 32 = 0 → CNR x1.toInt s R.2 x2)) := by
  have hN1 : 1000 ≤ N := by omega
  unfold f_X1_caseNumber
  refine ok_bind (q_skip hN1 h.1 45) (fun p hp => ?_)
  have hp' : JJ H x y c X P lim p.2 ∧ SMR s p.2 ∧ (p.2.i 32 = 0 → s.i 32 = 0 ∧ plI s ≤ plI p.2 ∧ eI s ≤ eI p.2) ∧ (p.1 = 0 ∧ p.2 = s ∨ p.1 = 1 ∧ (p.2.i 32 = 0 → plI s + 1 ≤ plI p.2)) := by
    rcases hp with ⟨p1, p2, p3⟩ | ⟨p1, p2, p3⟩
    · rw [p2]
      exact ⟨h, SMR.rf s, fun q => ⟨q, Int.le_refl _, Int.le_refl _⟩, Or.inl ⟨p1, rfl⟩⟩
    · obtain ⟨j, e⟩ := h.tk p3 (fun _ => by rw [p2]; decide)
      exact ⟨j.w (by omega) (Int.le_refl _), p3.smr, fun q => ⟨(e q).1, by have := (e q).2.1.1; omega, (e q).2.1.2⟩, Or.inr ⟨p1, fun q => (e q).2.1.1⟩⟩
  obtain ⟨j1, s1, m1, d1⟩ := hp'
  refine ok_bind (q_found p.2 1) (fun q hq => ?_)
  obtain ⟨q1, q2⟩ := hq
  rw [q1]
  rcases q2 with ⟨q2, q3⟩ | ⟨q2, q3⟩
  · rw [if_pos q2]
    exact ok_bind (q_misp j1.1) (fun r hr => ok_some ⟨JJ.flt j1.1 hr, fun z => absurd z hr.2.2.2.1⟩)
  rw [q2, if_neg (by decide)]
  have nf : p.2.i 32 = 0 := by
    by_cases z : p.2.i 32 = 0
    · exact z
    · have := j1.1.2.2.2.2.1 z
      rw [q3] at this
      exact absurd this (by decide)
  obtain ⟨m1a, m1b, m1c⟩ := m1 nf
  have cc1 : ccI p.2 = ccI s := by unfold ccI; rw [s1.1.2.2.2.2.2.1]
  have cn1 : cnI p.2 = cnI s := by unfold cnI; rw [s1.1.2.2.2.1]
  obtain ⟨g1, n1⟩ := j1.2 nf
  have cc0 := n1.2.1
  have pl9 : plI p.2 ≤ 900 := by
    have a := j1.1.2.2.1.2.1
    have b := j1.1.2.2.1.1
    unfold plI
    omega
  have fin : ∀ v : Int32, ((plI s + 1 ≤ plI p.2) ∨ v = p.2.i 45) → ok (f_X1_caseNumber_44 N p.2 x1 x2 v) (fun R => JJ H (x - 50) y c X P lim R.2 ∧ (R.2.i 32 = 0 → CNR x1.toInt s R.2 x2)) := fun v hv => by
    unfold f_X1_caseNumber_44
    refine ok_bind (q_has hN x1 v) (fun a ha => ?_)
    rw [ha.1]
    refine ok_ite (fun c0 => ?_) (fun _ => ok_bind (q_failC j1.1 4 _ (by decide)) (fun r hr => ok_some ⟨JJ.flt j1.1 hr, fun z => absurd z hr.2.2.2.1⟩))
    have dis := ha.2 c0
    refine ok_bind (q_addCase N p.2 v x2) (fun b hb => ?_)
    have gb := g1.acs hb ⟨cc0.1, by have := cc0.2; omega⟩
    obtain ⟨⟨b1, b2, b3, b4, b5, b6, b7, b8, b9, b10⟩, b11, b12, b13, b14, b15⟩ := (show ACS p.2 b.2 v x2 from hb)
    have cb : CBS H b.2 := j1.1.of ⟨b1, b2, b3, b4, b5, b6, b7, b8, b9, b10⟩ (b13 0 (by decide) (by decide)) (fun j hj => b11 j (by omega)) (fun _ t t1 t2 => by
      have e : tcI b.2 = tcI p.2 := by unfold tcI; rw [b11 21 (by decide)]
      rw [e, b13 17 (by decide) (by decide)]
      exact ⟨t1, t2⟩)
    have e1 : (1 : Int32).toInt = 1 := by decide
    have ccb : ccI b.2 = ccI s + 1 := by
      rw [← cc1]
      have z0 : 0 ≤ (p.2.i 22).toInt := cc0.1
      have z1 : 3 * (p.2.i 22).toInt ≤ plI p.2 := cc0.2
      show (b.2.i 22).toInt = (p.2.i 22).toInt + 1
      rw [b12, toInt_add] <;> rw [e1] <;> omega
    have plb : plI b.2 = plI p.2 := by unfold plI; rw [b11 44 (by decide)]
    have eb : eI b.2 = eI p.2 := by unfold eI; rw [plb, b11 43 (by decide)]
    refine ok_bind (q_advC hN1 cb) (fun r hr => ok_some ?_)
    have gn := hr.gain cb.2.2.1
    have b43 : b.2.i 43 = 1 := (b11 43 (by decide)).trans q3
    have gn1 := gn.2.1 (by rw [b43]; decide)
    have b32 : b.2.i 32 = 0 := (b11 32 (by decide)).trans nf
    have r32 : r.2.i 32 = 0 := hr.f32.trans b32
    have tk := hr.1
    have ra : r.2.a = b.2.a := tk.1.2.2.2.2.2.2.2.2.2.2
    have ri : ∀ j : Nat, j ≠ 42 → j ≠ 43 → j ≠ 44 → j ≠ 45 → r.2.i j = b.2.i j := tk.2
    have ccr : ccI r.2 = ccI s + 1 := by rw [← ccb]; unfold ccI; rw [ri 22 (by decide) (by decide) (by decide) (by decide)]
    have ec : ((ccI s).toNat : Int) = (p.2.i 22).toInt := by
      rw [Int.toNat_of_nonneg (by rw [← cc1]; exact cc0.1), ← cc1]; rfl
    have c320 : (ccI s).toNat < 320 := by omega
    have a18 : r.2.a 18 (ccI s).toNat = v := by rw [ra, b14]; exact gPut_at ec c320
    have a19 : r.2.a 19 (ccI s).toNat = x2 := by rw [ra, b15]; exact gPut_at ec c320
    have rsq : RSQ s r.2 (cnI s).toNat := s1.2.1.tr (fun i _ => ⟨by rw [tk.1.2.2.2.2.2.2.2.1, b7], fun a _ => ⟨by rw [tk.1.2.2.2.1, b4], by rw [tk.1.2.2.2.2.1, b5]⟩⟩)
    have cnr : CNR x1.toInt s r.2 x2 := by
      refine ⟨m1a, ⟨by omega, by omega⟩, ccr, ?_, ⟨?_, ?_, ?_, ?_, ?_⟩, rsq, fun n hn => ?_, fun i hi => ⟨?_, ?_⟩, a19, ?_, fun i q1 q2 => ?_⟩
      · rw [ri 34 (by decide) (by decide) (by decide) (by decide), b11 34 (by decide)]; exact s1.1.1
      · rw [ri 38 (by decide) (by decide) (by decide) (by decide), b11 38 (by decide)]; exact s1.1.2.1
      · rw [ri 50 (by decide) (by decide) (by decide) (by decide), b11 50 (by decide)]; exact s1.1.2.2.1
      · rw [ri 53 (by decide) (by decide) (by decide) (by decide), b11 53 (by decide)]; exact s1.1.2.2.2.1
      · rw [ri 56 (by decide) (by decide) (by decide) (by decide), b11 56 (by decide)]; exact s1.1.2.2.2.2.1
      · rw [ri 36 (by decide) (by decide) (by decide) (by decide), b11 36 (by decide)]; exact s1.1.2.2.2.2.2.2
      · rw [ra, b13 49 (by decide) (by decide)]; exact s1.2.2.1 n hn
      · rw [ra, b14, gPut_ne (by omega)]; exact (s1.2.2.2 i hi).1
      · rw [ra, b15, gPut_ne (by omega)]; exact (s1.2.2.2 i hi).2
      · rcases hv with hv | hv
        · left; omega
        · by_cases c2 : nxI b.2 = plI b.2 + 1
          · right
            rw [a18, hv]
            have := cb.2.2.1.2.2.2.2.2.2.2.2 b43 c2
            rw [b11 45 (by decide)] at this
            exact this
          · left
            have l1 : plI b.2 + 1 ≤ nxI b.2 := cb.2.2.1.2.2.2.1 (by rw [b43]; decide)
            have l2 : nxI b.2 ≤ plI r.2 := hr.2.2.1
            omega
      · rw [a18, ← (s1.2.2.2 i q2).1]
        exact dis i q1 (by rw [cc1]; exact q2) (by omega)
    show JJ H (x - 50) y c X P lim r.2 ∧ (r.2.i 32 = 0 → CNR x1.toInt s r.2 x2)
    refine ⟨⟨tk.t9.cb cb hr.2.1 (fun z => absurd r32 z) (fun _ => b32), fun _ => ⟨gb.ck cb.1 tk.t9.ck, ?_⟩⟩, fun _ => cnr⟩
    have h3 := hcc r.2 cnr
    obtain ⟨i1, i2, i3, i4, i5⟩ := rsq.sums h.1.2.2.2.2.2.2.1.2.2
    obtain ⟨g0, n0⟩ := h.2 m1a
    have cnr' : cnI r.2 = cnI s := by unfold cnI; rw [cnr.2.2.2.2.1.2.2.1]
    have tcr : tcI r.2 = tcI p.2 := by unfold tcI; rw [ri 21 (by decide) (by decide) (by decide) (by decide), b11 21 (by decide)]
    have szr : szI r.2 = szI p.2 := by unfold szI; rw [ri 20 (by decide) (by decide) (by decide) (by decide), b11 20 (by decide)]
    have sgr : sgI r.2 = sgI s := by unfold sgI; rw [cnr.2.2.2.1]
    have dsr : dsI r.2 = dsI s := by unfold dsI; rw [cnr.2.2.2.2.1.1]
    have t1 := n1.1
    have z1 := n1.2.2.1
    rw [cn1, cc1] at z1
    refine ⟨by omega, ⟨by omega, by omega⟩, by omega, by rw [sgr]; exact n0.2.2.2.1, by rw [cnr']; exact n0.2.2.2.2.1.of rsq h.1.2.2.2.2.2.2.1.2.2, ?_, by rw [cnr', i2, sgr]; exact n0.2.2.2.2.2.2.1, by rw [dsr]; exact n0.2.2.2.2.2.2.2.1, ?_⟩
    · rw [cnr', i1]
      have := n0.2.2.2.2.2.1
      omega
    · have a9 := n1.2.2.2.2.2.2.2.2
      have e56 : r.2.i 56 = p.2.i 56 := by rw [ri 56 (by decide) (by decide) (by decide) (by decide), b11 56 (by decide)]
      have ern : cnI r.2 = cnI p.2 := by omega
      rw [e56, ern, tk.1.2.2.2.2.2.2.2.1, b7, tk.1.2.2.2.1, b4]
      exact a9
  rcases d1 with ⟨d1, d2⟩ | ⟨d1, d2⟩
  · rw [if_pos d1]; exact fin _ (Or.inr rfl)
  · rw [d1, if_neg (by decide)]; exact fin _ (Or.inl (d2 nf))
end
section
/-! the class's reading: cases are laid -/
def ADS (s R : CS) : Prop := (R.hs = s.hs ∧ R.L = s.L ∧ R.k = s.k ∧ R.o = s.o ∧ R.ol = s.ol ∧ R.ot = s.ot ∧ R.r = s.r ∧ R.w = s.w ∧ R.b = s.b ∧ R.l = s.l) ∧ (∀ j : Nat, j ≠ 20 → j ≠ 22 → R.i j = s.i j) ∧ (∀ k : Nat, k ≠ 15 → k ≠ 16 → R.a k = s.a k)
theorem ADS.rf (s : CS) : ADS s s := ⟨⟨rfl, rfl, rfl, rfl, rfl, rfl, rfl, rfl, rfl, rfl⟩, fun _ _ _ => rfl, fun _ _ _ => rfl⟩
theorem ADS.tr {s R T : CS} (h : ADS s R) (g : ADS R T) : ADS s T := by
  obtain ⟨⟨a1, a2, a3, a4, a5, a6, a7, a8, a9, a10⟩, a11, a12⟩ := h
  obtain ⟨⟨b1, b2, b3, b4, b5, b6, b7, b8, b9, b10⟩, b11, b12⟩ := g
  exact ⟨⟨b1.trans a1, b2.trans a2, b3.trans a3, b4.trans a4, b5.trans a5, b6.trans a6, b7.trans a7, b8.trans a8, b9.trans a9, b10.trans a10⟩, fun j q1 q2 => (b11 j q1 q2).trans (a11 j q1 q2), fun k q1 q2 => (b12 k q1 q2).trans (a12 k q1 q2)⟩
theorem ADD.ads {s R : CS} {o x : Int32} (h : ADD s R o x) : ADS s R := ⟨h.1, fun j q1 _ => h.2.1 j q1, h.2.2.2.1⟩
theorem ADS.c22 (s : CS) (v : Int32) : ADS s (CS.setI s 22 v) := ⟨⟨chs_setI _ _ _, cL_setI _ _ _, ck_setI _ _ _, co_setI _ _ _, col_setI _ _ _, cot_setI _ _ _, cr_setI _ _ _, cw_setI _ _ _, cb_setI _ _ _, cl_setI _ _ _⟩, fun j _ q2 => ci_ne _ _ _ q2, fun k _ _ => by rw [ca_setI]⟩
/-- entries are forgotten -/
theorem JJ.c22 {H : HB} {x y : Int} {c : List Nat} {X : List (Nat × List Nat)} {P : List Nat} {lim : List Int} {s : CS} {v : Int32} (h : JJ H x y c X P lim s) (hv : s.i 32 = 0 → 0 ≤ v.toInt ∧ v.toInt ≤ ccI s ∧ lmh lim ≤ v.toInt) {x' : Int} (hx : s.i 32 = 0 → x - 4 * (ccI s - v.toInt) ≤ x') : JJ H x' y c X P lim (CS.setI s 22 v) := by
  obtain ⟨h1, h2⟩ := h
  obtain ⟨R, eR⟩ : ∃ R, R = CS.setI s 22 v := ⟨_, rfl⟩
  have a : ADS s R := by rw [eR]; exact ADS.c22 s v
  have e22 : R.i 22 = v := by rw [eR]; exact ci_at _ _ _
  have e20 : R.i 20 = s.i 20 := by rw [eR]; exact ci_ne _ _ _ (by decide)
  have ea : R.a = s.a := by rw [eR]; exact ca_setI _ _ _
  rw [← eR]
  clear eR
  obtain ⟨⟨b1, b2, b3, b4, b5, b6, b7, b8, b9, b10⟩, b11, -⟩ := a
  have bi : ∀ j : Nat, j ≠ 22 → R.i j = s.i j := fun j hj => by
    by_cases q : j = 20
    · rw [q]; exact e20
    · exact b11 j q hj
  refine ⟨h1.of ⟨b1, b2, b3, b4, b5, b6, b7, b8, b9, b10⟩ (by rw [ea]) (fun j hj => bi j (by omega)) (fun _ t t1 t2 => by
    have e : tcI R = tcI s := by unfold tcI; rw [bi 21 (by decide)]
    rw [e, ea]
    exact ⟨t1, t2⟩), fun q => ?_⟩
  have q' : s.i 32 = 0 := (bi 32 (by decide)).symm.trans q
  obtain ⟨g, n⟩ := h2 q'
  obtain ⟨v1, v2, v3⟩ := hv q'
  have hx := hx q'
  refine ⟨g.ck0 h1.1 ⟨⟨by rw [ea], by rw [ea], by rw [ea], by rw [ea], by rw [ea]⟩, ⟨bi 20 (by decide), bi 21 (by decide), bi 50 (by decide), bi 53 (by decide)⟩, by rw [b7], fun a _ => ⟨by rw [b4], by rw [b5]⟩⟩ (by unfold ccI; rw [e22]; exact v3), ?_⟩
  have nr := h1.2.2.2.2.2.2.1.2.2
  have rq : RSQ s R (cnI s).toNat := fun i _ => ⟨by rw [b7], fun a _ => ⟨by rw [b4], by rw [b5]⟩⟩
  obtain ⟨i1, i2, i3, i4, i5⟩ := rq.sums nr
  obtain ⟨c1, c2, c3, c4, c5, c6, c7, c8, c9⟩ := n
  have ecn : cnI R = cnI s := by unfold cnI; rw [bi 53 (by decide)]
  have ecc : ccI R = v.toInt := by unfold ccI; rw [e22]
  have eds : dsI R = dsI s := by unfold dsI; rw [bi 38 (by decide)]
  have esg : sgI R = sgI s := by unfold sgI; rw [bi 34 (by decide)]
  have epl : plI R = plI s := by unfold plI; rw [bi 44 (by decide)]
  have etc : tcI R = tcI s := by unfold tcI; rw [bi 21 (by decide)]
  have esz : szI R = szI s := by unfold szI; rw [bi 20 (by decide)]
  have ee : eI R = eI s := by unfold eI; rw [epl, bi 43 (by decide)]
  exact ⟨by omega, by omega, by omega, by rw [esg]; exact c4, by rw [ecn]; exact c5.of rq nr, by rw [ecn, i1, ee]; exact c6, by rw [ecn, i2, esg]; exact c7, by rw [eds]; exact c8, by rw [bi 56 (by decide), ecn, b7, b4]; exact c9⟩
theorem q_addCs {N : Nat} {H : HB} {x y : Int} {c : List Nat} {X : List (Nat × List Nat)} {P : List Nat} {lim : List Int} {s : CS} (hx : x ≤ 5000) (hy : y ≤ 95) (x1 x2 : Int32) (hT : s.i 32 = 0 → (0 ≤ x1.toInt ∧ x1.toInt ≤ ccI s ∧ lmh lim ≤ x1.toInt ∧ ccI s ≤ 300) ∧ (∀ i : Nat, x1.toInt ≤ (i : Int) → (i : Int) < ccI s → ∃ k : Nat, (s.a 19 i).toInt = (k : Int) ∧ (k, c) ∈ X) ∧ ∃ k : Nat, x2.toInt = (k : Int) ∧ (k, c) ∈ X) : ∀ (n : Nat) (σ : CS) (x3 : Int32), ccI s - x3.toInt < n → ADS s σ → σ.i 22 = s.i 22 → (s.i 32 = 0 → x1.toInt ≤ x3.toInt ∧ x3.toInt ≤ ccI s) → (∃ z : Int, z ≤ 6000 ∧ (s.i 32 = 0 → z = x + 2 * (x3.toInt - x1.toInt)) ∧ JJ H z y c X P lim σ) → ok (f_X0_addCases_2 N (n + 1) σ x1 x2 x3) (fun R => JJ H (x + 2) y c X P lim R.2 ∧ ADS s R.2 ∧ R.2.i 22 = x1)
  | n, σ, x3, hn, ha, h22, h3, ⟨z, z1, z2, hj⟩ => by
    show ok (b_X0_addCases_2 N (f_X0_addCases_2 N n) σ x1 x2 x3) _
    unfold b_X0_addCases_2
    have e1 : (1 : Int32).toInt = 1 := by decide
    have e32 : σ.i 32 = s.i 32 := ha.2.1 32 (by decide) (by decide)
    have ecc : ccI σ = ccI s := by unfold ccI; rw [h22]
    refine ok_ite (fun q => ?_) (fun q => ?_)
    · have l := le_int q
      have l' : ccI σ ≤ x3.toInt := l
      have j0 : JJ H x y c X P lim (CS.setI σ 22 x1) := hj.c22 (fun nf => by
        obtain ⟨t1, -⟩ := hT (e32 ▸ nf)
        omega) (fun nf => by
        have nf' : s.i 32 = 0 := e32 ▸ nf
        have := z2 nf'
        have := h3 nf'
        omega)
      have a0 : ADS s (CS.setI σ 22 x1) := ha.tr (ADS.c22 σ x1)
      have c0 : (CS.setI σ 22 x1).i 22 = x1 := ci_at _ _ _
      refine ok_bind (q_add N _ 6 0) (fun p hp => ?_)
      have j1 := j0.add hp (by omega) (by omega) (fun _ _ _ _ _ _ => IOK.fall (by decide))
      have a1 := a0.tr hp.ads
      have c1 : p.2.i 22 = x1 := (hp.2.1 22 (by decide)).trans c0
      refine ok_bind (q_add N _ 30 x2) (fun r hr => ok_some ⟨?_, a1.tr hr.ads, (hr.2.1 22 (by decide)).trans c1⟩)
      have j2 := j1.add hr (by omega) (by omega) (fun nf DT KT qX _ _ => by
        obtain ⟨-, -, k, k1, k2⟩ := hT ((a1.2.1 32 (by decide) (by decide)).symm.trans nf)
        exact IOK.jmp (by decide) k1 k2 qX)
      exact j2.w (by omega) (Int.le_refl _)
    · have l : x3.toInt < (σ.i 22).toInt := lt_int (Int32.not_le.mp q)
      have l' : x3.toInt < ccI s := by rw [← ecc]; exact l
      have b1 := Int32.toInt_lt (σ.i 22)
      have b2 := Int32.le_toInt x3
      have es : (x3 + 1).toInt = x3.toInt + 1 := by rw [toInt_add] <;> rw [e1] <;> omega
      obtain ⟨n', rfl⟩ : ∃ n', n = n' + 1 := ⟨n - 1, by omega⟩
      refine ok_bind (q_add N _ 0 _) (fun p hp => ?_)
      have j1 := hj.add hp (by omega) (by omega) (fun _ _ _ _ _ _ => IOK.fall (by decide))
      have a1 := ha.tr hp.ads
      have c1 : p.2.i 22 = s.i 22 := (hp.2.1 22 (by decide)).trans h22
      refine ok_bind (q_add N _ 34 _) (fun r hr => ?_)
      have j2 := j1.add hr (by omega) (by omega) (fun nf DT KT qX _ _ => by
        have nf' : s.i 32 = 0 := (a1.2.1 32 (by decide) (by decide)).symm.trans nf
        obtain ⟨t1, t2, -⟩ := hT nf'
        have t3 := h3 nf'
        obtain ⟨k, k1, k2⟩ := t2 x3.toInt.toNat (by omega) (by omega)
        have eg : gAt (p.2.a 19) 320 x3 = s.a 19 x3.toInt.toNat := by
          rw [a1.2.2 19 (by decide) (by decide)]
          unfold gAt
          have ib' : ib x3 320 := ⟨by omega, by omega⟩
          rw [if_pos ib']
          have cl := clampI ib'.1
          have ei : x3.toNatClampNeg = x3.toInt.toNat := by omega
          rw [ei]
        rw [eg]
        exact IOK.jmp (by decide) k1 k2 qX)
      have a2 := a1.tr hr.ads
      have c2 : r.2.i 22 = s.i 22 := (hr.2.1 22 (by decide)).trans c1
      refine q_addCs hx hy x1 x2 hT n' r.2 (x3 + 1) (by omega) a2 c2 (fun nf => by have := h3 nf; omega) ?_
      by_cases nf : s.i 32 = 0
      · have t1 := (hT nf).1
        have t2 := h3 nf
        have t3 := z2 nf
        exact ⟨z + 1 + 1, by omega, fun _ => by omega, j2⟩
      · exact ⟨x, by omega, fun w => absurd w nf, ⟨j2.1, fun w => absurd ((a2.2.1 32 (by decide) (by decide)).symm.trans w) nf⟩⟩
  termination_by n => n
theorem q_addCases {N : Nat} {H : HB} (hN : 10000000000 ≤ N) {x y : Int} {c : List Nat} {X : List (Nat × List Nat)} {P : List Nat} {lim : List Int} {s : CS} (hx : x ≤ 5000) (hy : y ≤ 95) (h : JJ H x y c X P lim s) (x1 x2 : Int32) (hT : s.i 32 = 0 → (0 ≤ x1.toInt ∧ x1.toInt ≤ ccI s ∧ lmh lim ≤ x1.toInt) ∧ (∀ i : Nat, x1.toInt ≤ (i : Int) → (i : Int) < ccI s → ∃ k : Nat, (s.a 19 i).toInt = (k : Int) ∧ (k, c) ∈ X) ∧ ∃ k : Nat, x2.toInt = (k : Int) ∧ (k, c) ∈ X) : ok (f_X0_addCases N s x1 x2) (fun R => JJ H (x + 2) y c X P lim R.2 ∧ ADS s R.2 ∧ R.2.i 22 = x1) := by
  unfold f_X0_addCases
  obtain ⟨N', rfl⟩ : ∃ N', N = N' + 1 := ⟨N - 1, by omega⟩
  have b1 := Int32.toInt_lt (s.i 22)
  have b2 := Int32.le_toInt x1
  refine q_addCs hx hy x1 x2 (fun nf => ?_) N' s x1 (by show (s.i 22).toInt - x1.toInt < N'; omega) (ADS.rf s) rfl (fun nf => ⟨Int.le_refl _, (hT nf).1.2.1⟩) ⟨x, by omega, fun _ => by omega, h⟩
  obtain ⟨t1, t2⟩ := hT nf
  refine ⟨⟨t1.1, t1.2.1, t1.2.2, ?_⟩, t2⟩
  have n1 := (h.2 nf).2.2.1
  have a := h.1.2.2.1.2.1
  have b := h.1.2.2.1.1
  have : plI s ≤ 900 := by unfold plI; omega
  omega
end
section
/-! the class's reading: the arms of a choice -/
theorem cnt.mono {f g : Nat → Bool} : ∀ {n : Nat}, (∀ i : Nat, i < n → f i = true → g i = true) → cnt f n ≤ cnt g n
  | 0, _ => Int.le_refl _
  | n + 1, h => by
    have i := cnt.mono (n := n) (fun i hi => h i (by omega))
    unfold cnt
    by_cases c : f n = true
    · rw [if_pos c, if_pos (h n (by omega) c)]; omega
    · rw [if_neg c]
      by_cases d : g n = true
      · rw [if_pos d]; omega
      · rw [if_neg d]; omega
/-- how many of 0 to 9 stand among these cases -/
noncomputable def KDF (s : CS) (f m : Int) : Nat → Bool := fun d => @decide (∃ i : Nat, f ≤ (i : Int) ∧ (i : Int) < m ∧ (s.a 18 i).toInt = (d : Int)) (Classical.propDecidable _)
noncomputable def KD (s : CS) (f m : Int) : Int := cnt (KDF s f m) 10
theorem KDF.iff (s : CS) (f m : Int) (d : Nat) : KDF s f m d = true ↔ ∃ i : Nat, f ≤ (i : Int) ∧ (i : Int) < m ∧ (s.a 18 i).toInt = (d : Int) := by
  unfold KDF
  exact @decide_eq_true_iff _ (Classical.propDecidable _)
theorem KDF.eq {s R : CS} {f m : Int} (h : ∀ i : Nat, (i : Int) < m → R.a 18 i = s.a 18 i) (d : Nat) : KDF R f m d = KDF s f m d := by
  refine Bool.eq_iff_iff.mpr ((KDF.iff ..).trans (Iff.trans ⟨fun ⟨i, a, b, e⟩ => ⟨i, a, b, by rw [← h i b]; exact e⟩, fun ⟨i, a, b, e⟩ => ⟨i, a, b, by rw [h i b]; exact e⟩⟩ (KDF.iff ..).symm))
theorem KD.le (s : CS) (f m : Int) : 0 ≤ KD s f m ∧ KD s f m ≤ 10 := cnt.le _ 10
theorem KD.eq {s R : CS} {f m : Int} (h : ∀ i : Nat, (i : Int) < m → R.a 18 i = s.a 18 i) : KD R f m = KD s f m := cnt.of (fun d _ => KDF.eq h d)
theorem KD.up {s R : CS} {f m : Int} (h : ∀ i : Nat, (i : Int) < m → R.a 18 i = s.a 18 i) : KD s f m ≤ KD R f (m + 1) := cnt.mono (fun d _ q => by
  obtain ⟨i, a, b, e⟩ := (KDF.iff ..).mp q
  exact (KDF.iff ..).mpr ⟨i, a, by omega, by rw [h i b]; exact e⟩)
theorem KD.one {s R : CS} {f m : Int} (hm : 0 ≤ m) (hf : f ≤ m) (h : ∀ i : Nat, (i : Int) < m → R.a 18 i = s.a 18 i) (hv : 0 ≤ (R.a 18 m.toNat).toInt ∧ (R.a 18 m.toNat).toInt ≤ 9) (hd : ∀ i : Nat, f ≤ (i : Int) → (i : Int) < m → ¬ s.a 18 i = R.a 18 m.toNat) : KD R f (m + 1) = KD s f m + 1 := by
  have ev : (((R.a 18 m.toNat).toInt.toNat : Nat) : Int) = (R.a 18 m.toNat).toInt := Int.toNat_of_nonneg hv.1
  have em : ((m.toNat : Nat) : Int) = m := Int.toNat_of_nonneg hm
  refine cnt.put (v := (R.a 18 m.toNat).toInt.toNat) ?_ ?_ (fun d hd' => ?_) (by omega)
  · refine Bool.eq_false_iff.mpr (fun q => ?_)
    obtain ⟨i, a, b, e⟩ := (KDF.iff ..).mp q
    rw [ev] at e
    exact hd i a b (Int32.toInt_inj.mp e)
  · exact (KDF.iff ..).mpr ⟨m.toNat, by omega, by omega, ev.symm⟩
  · refine Bool.eq_iff_iff.mpr ((KDF.iff ..).trans (Iff.trans ⟨fun ⟨i, a, b, e⟩ => ?_, fun ⟨i, a, b, e⟩ => ⟨i, a, by omega, by rw [h i b]; exact e⟩⟩ (KDF.iff ..).symm))
    by_cases c : (i : Int) = m
    · have ei : i = m.toNat := by omega
      rw [ei] at e
      exact absurd (show d = _ by omega) hd'
    · exact ⟨i, a, by omega, by rw [← h i (by omega)]; exact e⟩
/-- what a choice keeps while cases are noted -/
def SMC (s R : CS) : Prop := (R.i 38 = s.i 38 ∧ R.i 50 = s.i 50 ∧ R.i 53 = s.i 53 ∧ R.i 56 = s.i 56 ∧ R.i 36 = s.i 36) ∧ RSQ s R (cnI s).toNat ∧ (∀ n : Nat, (n : Int) < nmI s → R.a 49 n = s.a 49 n) ∧ (∀ i : Nat, (i : Int) < ccI s → R.a 18 i = s.a 18 i ∧ R.a 19 i = s.a 19 i) ∧ ccI s ≤ ccI R
theorem SMX.smc {s R : CS} (h : SMX s R) : SMC s R := ⟨⟨h.1.1, h.1.2.1, h.1.2.2.1, h.1.2.2.2.1, h.1.2.2.2.2.2⟩, h.2.1, h.2.2.1, h.2.2.2, by unfold ccI; rw [h.1.2.2.2.2.1]; exact Int.le_refl _⟩
theorem CNR.smc {f : Int} {s R : CS} {t : Int32} (h : CNR f s R t) : SMC s R := ⟨h.2.2.2.2.1, h.2.2.2.2.2.1, h.2.2.2.2.2.2.1, h.2.2.2.2.2.2.2.1, by rw [h.2.2.1]; omega⟩
theorem SMC.tr {s R T : CS} (h : SMC s R) (g : SMC R T) : SMC s T := by
  obtain ⟨⟨a1, a2, a3, a4, a5⟩, a6, a7, a8, a9⟩ := h
  obtain ⟨⟨b1, b2, b3, b4, b5⟩, b6, b7, b8, b9⟩ := g
  have ecn : cnI R = cnI s := by unfold cnI; rw [a3]
  have enm : nmI R = nmI s := by unfold nmI; rw [a2]
  rw [ecn] at b6
  rw [enm] at b7
  exact ⟨⟨b1.trans a1, b2.trans a2, b3.trans a3, b4.trans a4, b5.trans a5⟩, a6.tr b6, fun n hn => (b7 n hn).trans (a7 n hn), fun i hi => ⟨(b8 i (by omega)).1.trans (a8 i hi).1, (b8 i (by omega)).2.trans (a8 i hi).2⟩, by omega⟩
/-- in a choice that began at s0 -/
def CHS (c : List Nat) (X : List (Nat × List Nat)) (s0 s : CS) (w : Int) : Prop := s0.i 32 = 0 ∧ sgI s = sgI s0 + 1 ∧ SMC s0 s ∧ (eI s0 + 8 ≤ plI s ∧ eI s0 ≤ eI s ∧ 3 * (ccI s - ccI s0) + plI s0 + w ≤ plI s + KD s (ccI s0) (ccI s)) ∧ (∀ i : Nat, ccI s0 ≤ (i : Int) → (i : Int) < ccI s → ∃ k : Nat, (s.a 19 i).toInt = (k : Int) ∧ (k, c) ∈ X)
theorem CHS.w {c : List Nat} {X X' : List (Nat × List Nat)} {s0 s : CS} {w w' : Int} (h : CHS c X s0 s w) (hw : w' ≤ w) (hX : ∀ q ∈ X, q ∈ X') : CHS c X' s0 s w' := by
  obtain ⟨a1, a2, a3, ⟨a4, a5, a6⟩, a7⟩ := h
  refine ⟨a1, a2, a3, ⟨a4, a5, by omega⟩, fun i q1 q2 => ?_⟩
  obtain ⟨k, k1, k2⟩ := a7 i q1 q2
  exact ⟨k, k1, hX _ k2⟩
theorem CHS.go {c : List Nat} {X : List (Nat × List Nat)} {s0 s T : CS} {w : Int} (h : CHS c X s0 s w) (sm : SMR s T) {d : Int} (hd : 0 ≤ d) (hp : plI s + d ≤ plI T) (he : eI s ≤ eI T) : CHS c X s0 T (w + d) := by
  obtain ⟨a1, a2, a3, ⟨a4, a5, a6⟩, a7⟩ := h
  have ecc : ccI T = ccI s := by unfold ccI; rw [sm.1.2.2.2.2.2.1]
  have esg : sgI T = sgI s := by unfold sgI; rw [sm.1.1]
  have ek : KD T (ccI s0) (ccI s) = KD s (ccI s0) (ccI s) := KD.eq (fun i hi => (sm.2.2.2 i hi).1)
  refine ⟨a1, by omega, a3.tr sm.x.smc, ⟨by omega, by omega, by rw [ecc, ek]; omega⟩, fun i q1 q2 => ?_⟩
  rw [ecc] at q2
  rw [(sm.2.2.2 i q2).2]
  exact a7 i q1 q2
theorem CHS.val {c : List Nat} {X : List (Nat × List Nat)} {s0 s T : CS} {t : Int32} (h : CHS c X s0 s 12) (h0 : 0 ≤ ccI s0) (g : CNR (ccI s0) s T t) (ht : ∃ k : Nat, t.toInt = (k : Int) ∧ (k, c) ∈ X) : CHS c X s0 T 11 := by
  obtain ⟨a1, a2, a3, ⟨a4, a5, a6⟩, a7⟩ := h
  have sm := g.smc
  obtain ⟨g1, ⟨g2, g3⟩, g4, g5, g6, g7, g8, g9, g10, g11, g12⟩ := g
  have le := a3.2.2.2.2
  have esg : sgI T = sgI s := by unfold sgI; rw [g5]
  have up := KD.up (f := ccI s0) (fun i hi => (g9 i hi).1)
  refine ⟨a1, by omega, a3.tr sm, ⟨by omega, by omega, ?_⟩, fun i q1 q2 => ?_⟩
  · rw [g4]
    rcases g11 with q | q
    · omega
    · have := KD.one (f := ccI s0) (by omega) le (fun i hi => (g9 i hi).1) q g12
      omega
  · by_cases e : (i : Int) < ccI s
    · rw [(g9 i e).2]; exact a7 i q1 e
    · have ei : i = (ccI s).toNat := by omega
      rw [ei, g10]; exact ht
theorem JJ.aimF {H : HB} {x y : Int} {c : List Nat} {X : List (Nat × List Nat)} {P P' : List Nat} {lim : List Int} {s R : CS} {t : Int32} (h : JJ H x y c X P lim s) (ha : AIM s R t) (hx : x ≤ 10000) (hy : y ≤ 100) (hT : s.i 32 = 0 → (∃ k : Nat, t.toInt = (k : Int) ∧ (k, c) ∈ X) ∧ ∀ k ∈ P, k ∈ P' ∨ (k : Int) = t.toInt) : JJ H x y c X P' lim R := by
  by_cases nf : s.i 32 = 0
  · exact h.aim ha hx (by omega) (fun q => (hT q).1) (hT nf).2
  · have j := h.aim (P' := P) ha hx (by omega) (fun q => absurd q nf) (fun k hk => Or.inl hk)
    exact ⟨j.1, fun q => absurd (ha.f.1.symm.trans q) nf⟩
/-- an arm that is a block -/
def ABC (H : HB) (k : Int) (B : CS → Int32 → Option (Unit × CS)) : Prop := ∀ (x y : Int) (c : List Nat) (X : List (Nat × List Nat)) (P : List Nat) (lim : List Int) (s : CS) (t : Int32), x ≤ 3900 → y + 3 * k ≤ 87 ∧ 0 ≤ k → JJ H x y c X P lim s → s.i 32 = 0 → s.i 43 = 123 → 23 - sgI s ≤ k → SGS s (cnI s).toNat ≤ sgI s - 1 → WCS s (cnI s).toNat + 10 ≤ eI s → (∃ m : Nat, t.toInt = (m : Int) ∧ (m, c) ∈ X) → ok (B s t) (fun R => JJ H (x - 50) y c X P lim R.2 ∧ (R.2.i 32 = 0 → EXR s R.2))
/-- what is known where a choice begins -/
def S0F (s : CS) : Prop := NR s (cnI s).toNat ∧ SGS s (cnI s).toNat ≤ sgI s ∧ WCS s (cnI s).toNat ≤ eI s ∧ 0 ≤ ccI s ∧ 3 * ccI s ≤ plI s
theorem q_arm100 {N : Nat} {H : HB} (hN : 1000 ≤ N) {k : Int} {E1 : CS → Option (Unit × CS)} {E2 : CS → Option (Int32 × CS)} (hE : EC H k E1) (hB : ABC H k (f_X7_armBlock N E1 E2)) {x y : Int} {c : List Nat} {X : List (Nat × List Nat)} {P : List Nat} {lim : List Int} {s0 σ : CS} {b : Nat} {x3 x4 x5 : Int32} (hx : x ≤ 3900) (hy : y + 3 * k ≤ 87 ∧ 0 ≤ k) (h0 : S0F s0) (hk : 22 - sgI s0 ≤ k) (h : JJ H x y c X (b :: P) lim σ) (h3 : σ.i 32 = 0 → ∃ m : Nat, x3.toInt = (m : Int) ∧ (m, c) ∈ X) (h4 : σ.i 32 = 0 → x4.toInt = (b : Int) ∧ (b, c) ∈ X) (hs : σ.i 32 = 0 → CHS c X s0 σ 8) : ok (f_X1_arm_100 N E1 E2 σ x3 x4 x5) (fun R => (JJ H x y c X P lim R.2 ∧ (R.2.i 32 = 0 → σ.i 32 = 0 ∧ CHS c X s0 R.2 8)) ∧ R.1 = x5) := by
  unfold f_X1_arm_100 f_X1_arm_153
  refine ok_bind (q_expect hN h.1 134) (fun p hp => ?_)
  have hp' : JJ H (x - 100) y c X (b :: P) lim p.2 ∧ (p.2.i 32 = 0 → σ.i 32 = 0 ∧ CHS c X s0 p.2 10 ∧ eI s0 + 10 ≤ plI p.2) := by
    rcases hp with hf | ⟨p1, p2⟩
    · exact ⟨JJ.flt h.1 hf, fun q => absurd q hf.2.2.2.1⟩
    · obtain ⟨j, e⟩ := h.tk p2 (fun _ => by rw [p1]; decide)
      refine ⟨j, fun q => ?_⟩
      have ex := e q
      have gn := (p2.gain h.1.2.2.1).2.2.2.2.2.1 (by rw [p1]; decide)
      have ch := hs ex.1
      exact ⟨ex.1, ch.go ex.2.2 (by omega) gn.1 ex.2.1.2, by have := ch.2.2.2.1.1; omega⟩
  obtain ⟨j1, s1⟩ := hp'
  refine ok_bind (q_aim N p.2 x4) (fun q hq => ?_)
  have j2 : JJ H (x - 100) y c X P lim q.2 := j1.aimF hq (by omega) (by omega) (fun nf => by
    have z := h4 (s1 nf).1
    refine ⟨⟨b, z⟩, fun m hm => ?_⟩
    rcases List.mem_cons.mp hm with e | e
    · right; rw [e]; exact z.1.symm
    · exact Or.inl e)
  have fq := hq.f
  have s2 : q.2.i 32 = 0 → σ.i 32 = 0 ∧ CHS c X s0 q.2 10 ∧ eI s0 + 10 ≤ plI q.2 := fun nf => by
    obtain ⟨z1, z2, z3⟩ := s1 (fq.1.symm.trans nf)
    refine ⟨z1, ?_, by rw [fq.2.1]; exact z3⟩
    have := z2.go hq.smr (d := 0) (by omega) (by rw [fq.2.1]; omega) (by rw [fq.2.2]; exact Int.le_refl _)
    exact this
  clear s1 j1 hp fq hq
  refine ok_bind (q_found q.2 123) (fun r hr => ?_)
  obtain ⟨r1, r2⟩ := hr
  rw [r1]
  rcases r2 with ⟨r2, r3⟩ | ⟨r2, r3⟩
  · rw [if_pos r2]
    refine ok_bind (q_expression (E2 := E2) hN hE (x - 100) y c X P lim q.2 (by omega) (by omega) j2 (fun nf => ?_)) (fun u hu => ?_)
    · have := (s2 nf).2.1.2.1; omega
    obtain ⟨j3, e3⟩ := hu
    refine ok_bind (q_expect hN j3.1 59) (fun v hv => ?_)
    have hv' : JJ H (x - 150) y c X P lim v.2 ∧ (v.2.i 32 = 0 → σ.i 32 = 0 ∧ CHS c X s0 v.2 8) := by
      rcases hv with hf | ⟨p1, p2⟩
      · exact ⟨JJ.flt j3.1 hf, fun q => absurd q hf.2.2.2.1⟩
      · obtain ⟨j, e⟩ := j3.tk p2 (fun _ => by rw [p1]; decide)
        refine ⟨j.w (by omega) (Int.le_refl _), fun z => ?_⟩
        have ex := e z
        have ex3 := e3 ex.1
        have ee := ex3.tr ex
        have w := s2 ex3.1
        exact ⟨w.1, (w.2.1.go ee.2.2 (d := 0) (by omega) (by have := ee.2.1.1; omega) ee.2.1.2).w (by omega) (fun _ h => h)⟩
    obtain ⟨j4, s4⟩ := hv'
    refine ok_bind (q_add N v.2 30 x3) (fun w hw => ok_some ⟨⟨?_, fun z => ?_⟩, rfl⟩)
    · exact (j4.add hw (by omega) (by omega) (fun nf DT KT qX _ _ => by
        obtain ⟨m, m1, m2⟩ := h3 (s4 nf).1
        exact IOK.jmp (by decide) m1 m2 qX)).w (by omega) (Int.le_refl _)
    · have z' := s4 (hw.f32.1.symm.trans z)
      refine ⟨z'.1, ?_⟩
      have := z'.2.go hw.smr (d := 0) (by omega) (by rw [hw.pl.1]; omega) (by rw [hw.pl.2]; exact Int.le_refl _)
      exact this
  · rw [r2, if_neg (by decide)]
    have nf : q.2.i 32 = 0 := by
      by_cases z : q.2.i 32 = 0
      · exact z
      · have := j2.1.2.2.2.2.1 z
        rw [r3] at this
        exact absurd this (by decide)
    obtain ⟨w1, w2, w3⟩ := s2 nf
    obtain ⟨f1, f2, f3, f4, f5⟩ := h0
    obtain ⟨i1, i2, i3, i4, i5⟩ := w2.2.2.1.2.1.sums f1
    have ecn : cnI q.2 = cnI s0 := by unfold cnI; rw [w2.2.2.1.1.2.2.1]
    have esg := w2.2.1
    have ge := eI.ge q.2
    refine ok_bind (hB (x - 100) y c X P lim q.2 x3 (by omega) (by omega) j2 nf r3 (by omega) (by rw [ecn, i2]; omega) (by rw [ecn, i1]; omega) (h3 w1)) (fun u hu => ok_some ⟨⟨hu.1.w (by omega) (Int.le_refl _), fun z => ⟨w1, ?_⟩⟩, rfl⟩)
    have ex := hu.2 z
    exact (w2.go ex.2.2 (d := 0) (by omega) (by have := ex.2.1.1; omega) ex.2.1.2).w (by omega) (fun _ h => h)
end
section
/-! the class's reading: choices -/
theorem q_arm70 {N : Nat} {H : HB} (hN : 10000000000 ≤ N) {k : Int} {E1 : CS → Option (Unit × CS)} {E2 : CS → Option (Int32 × CS)} (hE : EC H k E1) (hB : ABC H k (f_X7_armBlock N E1 E2)) {x y : Int} {c : List Nat} {X : List (Nat × List Nat)} {P : List Nat} {lim : List Int} {s0 s : CS} {b : Nat} {x1 x3 x4 x5 : Int32} (hx : x ≤ 3900) (hy : y + 3 * k ≤ 87 ∧ 0 ≤ k) (h0 : S0F s0) (hk : 22 - sgI s0 ≤ k) (h1 : x1 = s0.i 22) (h3 : s.i 32 = 0 → ∃ m : Nat, x3.toInt = (m : Int) ∧ (m, c) ∈ X) (h4 : s.i 32 = 0 → x4.toInt = (b : Int) ∧ (b, c) ∈ X) : ∀ (n : Nat) (σ : CS) (x6 : Int32), 0 ≤ x6.toInt → x6.toInt ≤ 900 → 900 - x6.toInt < n → JJ H x y c X (b :: P) lim σ → (σ.i 32 = 0 → s.i 32 = 0 ∧ CHS c X s0 σ 11) → ok (f_X1_arm_70 N E1 E2 n σ x1 x3 x4 x5 x6) (fun R => (JJ H x y c X P lim R.2 ∧ (R.2.i 32 = 0 → s.i 32 = 0 ∧ CHS c X s0 R.2 8)) ∧ R.1 = x5)
  | 0, _, _, _, _, h, _, _ => by omega
  | n + 1, σ, x6, z0, z9, hn, hj, hc => by
    show ok (b_X1_arm_70 N E1 E2 (f_X1_arm_70 N E1 E2 n) σ x1 x3 x4 x5 x6) _
    unfold b_X1_arm_70
    have hN1 : 1000 ≤ N := by omega
    have e9 : (900 : Int32).toInt = 900 := by decide
    have e1 : (1 : Int32).toInt = 1 := by decide
    have out : ok (f_X1_arm_100 N E1 E2 σ x3 x4 x5) (fun R => (JJ H x y c X P lim R.2 ∧ (R.2.i 32 = 0 → s.i 32 = 0 ∧ CHS c X s0 R.2 8)) ∧ R.1 = x5) := ok_imp (q_arm100 hN1 hE hB hx hy h0 hk hj (fun q => h3 (hc q).1) (fun q => h4 (hc q).1) (fun q => (hc q).2.w (by omega) (fun _ h => h))) (fun R hR => ⟨⟨hR.1.1, fun q => ⟨(hc (hR.1.2 q).1).1, (hR.1.2 q).2⟩⟩, hR.2⟩)
    refine ok_ite (fun _ => out) (fun c9 => ?_)
    have l : x6.toInt < 900 := by
      have := lt_int (Int32.not_le.mp c9)
      rw [e9] at this; exact this
    have es : (x6 + 1).toInt = x6.toInt + 1 := by rw [toInt_add] <;> rw [e1] <;> omega
    refine ok_bind (q_skip hN1 hj.1 44) (fun p hp => ?_)
    rcases hp with ⟨p1, p2, p3⟩ | ⟨p1, p2, p3⟩
    · rw [if_pos p1, p2]; exact out
    rw [p1, if_neg (by decide)]
    obtain ⟨j, e⟩ := hj.tk p3 (fun _ => by rw [p2]; decide)
    have ch : p.2.i 32 = 0 → s.i 32 = 0 ∧ CHS c X s0 p.2 12 := fun q => by
      have ex := e q
      exact ⟨(hc ex.1).1, (hc ex.1).2.go ex.2.2 (d := 1) (by omega) ex.2.1.1 ex.2.1.2⟩
    have x1e : x1.toInt = ccI s0 := by rw [h1]; rfl
    refine ok_bind (q_caseNumber hN (by omega) (by omega) j x1 x4 (fun R hR => ?_)) (fun r hr => ?_)
    · have w := (ch hR.1).2
      have kd := (KD.le p.2 (ccI s0) (ccI p.2)).2
      have n3 := w.2.2.2.1.2.2
      have n4 := h0.2.2.2.2
      have n5 := hR.2.1.1
      omega
    refine q_arm70 hN hE hB hx hy h0 hk h1 h3 h4 n r.2 (x6 + 1) (by omega) (by omega) (by omega) (hr.1.w (by omega) (Int.le_refl _)) (fun q => ?_)
    have w := hr.2 q
    rw [x1e] at w
    have v := ch w.1
    exact ⟨v.1, v.2.val h0.2.2.2.1 w ⟨b, h4 v.1⟩⟩
/-- an arm -/
theorem q_arm {N : Nat} {H : HB} (hN : 10000000000 ≤ N) {k : Int} {E1 : CS → Option (Unit × CS)} {E2 : CS → Option (Int32 × CS)} (hE : EC H k E1) (hB : ABC H k (f_X7_armBlock N E1 E2)) {x y : Int} {c : List Nat} {X : List (Nat × List Nat)} {P : List Nat} {lim : List Int} {s0 s : CS} {x1 x2 x3 : Int32} (hx : x ≤ 3900) (hy : y + 3 * k ≤ 87 ∧ 0 ≤ k) (h0 : S0F s0) (hk : 22 - sgI s0 ≤ k) (h1 : x1 = s0.i 22) (h : JJ H x y c X P lim s) (nf : s.i 32 = 0) (ht : s.i 43 = 219 ∨ s.i 43 = 220) (h2 : x2.toInt < 0 ∨ ∃ m : Nat, x2.toInt = (m : Int) ∧ (m, c) ∈ X) (h3 : ∃ m : Nat, x3.toInt = (m : Int) ∧ (m, c) ∈ X) (hc : CHS c X s0 s 8) : ok (f_X1_arm N E1 E2 s x1 x2 x3) (fun R => ∃ X' : List (Nat × List Nat), (∀ q ∈ X, q ∈ X') ∧ JJ H x y c X' P lim R.2 ∧ (R.2.i 32 = 0 → CHS c X' s0 R.2 8 ∧ (R.1.toInt < 0 ∨ ∃ m : Nat, R.1.toInt = (m : Int) ∧ (m, c) ∈ X'))) := by
  have hN1 : 1000 ≤ N := by omega
  unfold f_X1_arm f_X1_arm_39
  refine ok_bind (q_newTarget N s) (fun p hp => ?_)
  obtain ⟨t1, t2⟩ := hp
  have f := t1.f
  have j2 := h.new t1 (by omega) (by omega) c
  have tc := (h.2 nf).1.tc0.1
  obtain ⟨b, hb⟩ : ∃ b, b = (tcI s).toNat := ⟨_, rfl⟩
  rw [← hb] at j2
  have e4 : p.1.toInt = (b : Int) := by rw [t2]; show tcI s = _; omega
  have pf : p.2.i 32 = 0 := f.1.trans nf
  have hX : ∀ q ∈ X, q ∈ (b, c) :: X := fun q hq => List.mem_cons_of_mem _ hq
  have ch : CHS c ((b, c) :: X) s0 p.2 8 := by
    have := hc.go t1.smr (d := 0) (by omega) (by rw [f.2.2.1]; omega) (by rw [f.2.2.2]; exact Int.le_refl _)
    exact this.w (by omega) hX
  have bX : (b, c) ∈ (b, c) :: X := List.mem_cons_self ..
  have h3' : ∃ m : Nat, x3.toInt = (m : Int) ∧ (m, c) ∈ (b, c) :: X := by
    obtain ⟨m, m1, m2⟩ := h3
    exact ⟨m, m1, hX _ m2⟩
  have pt : p.2.i 43 = 219 ∨ p.2.i 43 = 220 := by rw [f.2.1]; exact ht
  have x1e : x1.toInt = ccI s0 := by rw [h1]; rfl
  -- a word is taken
  have adv : ∀ q : CS, ADV p.2 q → JJ H (x - 100) y c ((b, c) :: X) (b :: P) lim q ∧ (q.i 32 = 0 → CHS c ((b, c) :: X) s0 q 9) ∧ (p.2.i 43 = 219 → q.i 32 = 0 → CHS c ((b, c) :: X) s0 q 12) := fun q hq => by
    have gn := hq.gain j2.1.2.2.1
    have w200 : 200 ≤ (p.2.i 43).toInt := by rcases pt with e | e <;> rw [e] <;> decide
    have g5 := gn.2.2.2.2.1 (Or.inl w200)
    have ee : eI p.2 = plI p.2 := by
      unfold eI
      rw [if_pos (Or.inr w200)]; omega
    refine ⟨j2.adv hq (fun _ => ⟨by omega, by omega⟩), fun _ => ?_, fun e _ => ?_⟩
    · have := ch.go hq.smr (d := 1) (by omega) (by omega) (by omega)
      exact this
    · have g7 := gn.2.2.2.2.2.2 (Or.inr e)
      have := ch.go hq.smr (d := 4) (by omega) (by omega) (by omega)
      exact this
  refine ok_bind (q_found p.2 220) (fun q hq => ?_)
  obtain ⟨q1, q2⟩ := hq
  rw [q1]
  rcases q2 with ⟨q2, q3⟩ | ⟨q2, q3⟩
  · rw [if_pos q2]
    have p9 : p.2.i 43 = 219 := pt.resolve_right q3
    refine ok_bind (q_advC hN1 j2.1) (fun a ha => ?_)
    obtain ⟨a1, -, a3⟩ := adv a.2 ha
    refine ok_bind (q_caseNumber hN (by omega) (by omega) a1 x1 p.1 (fun R hR => ?_)) (fun r hr => ?_)
    · have w := a3 p9 hR.1
      have kd := (KD.le a.2 (ccI s0) (ccI a.2)).2
      have n3 := w.2.2.2.1.2.2
      have n4 := h0.2.2.2.2
      have n5 := hR.2.1.1
      omega
    refine ok_imp (q_arm70 (s := s) hN hE hB (x := x - 150) (by omega) (by omega) h0 hk h1 (fun _ => h3') (fun _ => ⟨e4, bX⟩) N r.2 0 (by decide) (by decide) (by rw [z_t0]; omega) (hr.1.w (by omega) (Int.le_refl _)) (fun z => ?_)) (fun R hR => ⟨(b, c) :: X, hX, hR.1.1.w (by omega) (Int.le_refl _), fun z => ⟨(hR.1.2 z).2, ?_⟩⟩)
    · have w := hr.2 z
      rw [x1e] at w
      exact ⟨nf, (a3 p9 w.1).val h0.2.2.2.1 w ⟨b, e4, bX⟩⟩
    · rw [hR.2]
      rcases h2 with h2 | ⟨m, m1, m2⟩
      · exact Or.inl h2
      · exact Or.inr ⟨m, m1, hX _ m2⟩
  · rw [q2, if_neg (by decide)]
    have fin : ∀ u : CS, JJ H (x - 100) y c ((b, c) :: X) (b :: P) lim u → (u.i 32 = 0 → CHS c ((b, c) :: X) s0 u 8) → ok (f_X1_arm_100 N E1 E2 u x3 p.1 p.1) (fun R => ∃ X' : List (Nat × List Nat), (∀ q ∈ X, q ∈ X') ∧ JJ H x y c X' P lim R.2 ∧ (R.2.i 32 = 0 → CHS c X' s0 R.2 8 ∧ (R.1.toInt < 0 ∨ ∃ m : Nat, R.1.toInt = (m : Int) ∧ (m, c) ∈ X'))) := fun u hu hs =>
      ok_imp (q_arm100 hN1 hE hB (by omega) (by omega) h0 hk hu (fun _ => h3') (fun _ => ⟨e4, bX⟩) hs) (fun R hR => ⟨(b, c) :: X, hX, hR.1.1.w (by omega) (Int.le_refl _), fun z => ⟨(hR.1.2 z).2, Or.inr ⟨b, by rw [hR.2]; exact e4, bX⟩⟩⟩)
    refine ok_ite (fun _ => ?_) (fun _ => ?_)
    · refine ok_bind (q_advC hN1 j2.1) (fun a ha => ?_)
      obtain ⟨a1, a2, -⟩ := adv a.2 ha
      exact fin a.2 a1 (fun z => (a2 z).w (by omega) (fun _ h => h))
    · refine ok_bind (q_failC j2.1 4 _ (by decide)) (fun g hg => ?_)
      have jg : JJ H x y c ((b, c) :: X) (b :: P) lim g.2 := JJ.flt j2.1 hg
      refine ok_bind (q_advC hN1 jg.1) (fun a ha => ?_)
      have af : ¬ a.2.i 32 = 0 := fun z => hg.2.2.2.1 (ha.f32.symm.trans z)
      exact fin a.2 (jg.adv ha (fun z => absurd z hg.2.2.2.1)) (fun z => absurd z af)
end
section
/-! the class's reading: a choice, whole -/
def CHX (c : List Nat) (X : List (Nat × List Nat)) (s0 s : CS) (d e : Nat) (x1 x2 x3 : Int32) : Prop := CHS c X s0 s 8 ∧ x3 = s0.i 22 ∧ (x1.toInt = (d : Int) ∧ (d, c) ∈ X) ∧ (x2.toInt = (e : Int) ∧ (e, c) ∈ X)
theorem q_ch122 {N : Nat} {H : HB} (hN : 10000000000 ≤ N) {E1 : CS → Option (Unit × CS)} {E2 : CS → Option (Int32 × CS)} {x y : Int} {c : List Nat} {X : List (Nat × List Nat)} {P : List Nat} {lim : List Int} {s0 σ : CS} {d e : Nat} {x1 x2 x3 x4 : Int32} (hx : x ≤ 3900) (hy : y ≤ 90) (h0 : S0F s0) (hz : 0 ≤ sgI s0) (hl : lmh lim ≤ ccI s0) (h : JJ H x y c X (d :: e :: P) lim σ) (hs : σ.i 32 = 0 → CHX c X s0 σ d e x1 x2 x3 ∧ ∃ m : Nat, x4.toInt = (m : Int) ∧ (m, c) ∈ X) : ok (f_X1_choice_122 N E1 E2 σ x1 x2 x3 x4) (fun R => JJ H (x - 98) y c X P lim R.2 ∧ (R.2.i 32 = 0 → EXR s0 R.2)) := by
  have hN1 : 1000 ≤ N := by omega
  unfold f_X1_choice_122
  refine ok_bind (q_clos hN1 h (fun nf => ?_) 125 (by decide)) (fun p hp => ?_)
  · obtain ⟨⟨w, -⟩, -⟩ := hs nf
    obtain ⟨i1, i2, i3, i4, i5⟩ := w.2.2.1.2.1.sums h0.1
    have ecn : cnI σ = cnI s0 := by unfold cnI; rw [w.2.2.1.1.2.2.1]
    have esg := w.2.1
    have := h0.2.1
    rw [ecn, i2]
    omega
  obtain ⟨j1, m1⟩ := hp
  refine ok_bind (q_aim N p.2 x1) (fun q hq => ?_)
  have fq := hq.f
  have j2 : JJ H (x - 100) y c X (e :: P) lim q.2 := j1.aimF hq (by omega) (by omega) (fun nf => by
    obtain ⟨⟨-, -, z, -⟩, -⟩ := hs (m1 nf).1
    refine ⟨⟨d, z⟩, fun m hm => ?_⟩
    rcases List.mem_cons.mp hm with e | e
    · right; rw [e]; exact z.1.symm
    · exact Or.inl e)
  have m2 : q.2.i 32 = 0 → MOV (-1) σ q.2 := fun nf => by
    have w := m1 (fq.1.symm.trans nf)
    refine ⟨w.1, ⟨by rw [fq.2.1]; exact w.2.1.1, by rw [fq.2.2]; exact w.2.1.2⟩, ?_, w.2.2.2.tr hq.smr.x⟩
    rw [← w.2.2.1]
    unfold sgI
    rw [hq.smr.1.1]
  clear m1 j1 fq hq
  refine ok_bind (q_addCases hN (by omega) (by omega) j2 x3 x4 (fun nf => ?_)) (fun r hr => ?_)
  · have w := m2 nf
    obtain ⟨⟨ch, e3, -, -⟩, z4⟩ := hs w.1
    have ecc : ccI q.2 = ccI σ := by unfold ccI; rw [w.2.2.2.1.2.2.2.2.1]
    have e3' : x3.toInt = ccI s0 := by rw [e3]; rfl
    have le := ch.2.2.1.2.2.2.2
    refine ⟨⟨by rw [e3']; exact h0.2.2.2.1, by omega, by omega⟩, fun i q1 q2 => ?_, z4⟩
    rw [ecc] at q2
    rw [(w.2.2.2.2.2.2 i q2).2]
    exact ch.2.2.2.2 i (by omega) q2
  obtain ⟨j3, a3, c3⟩ := hr
  refine ok_bind (q_aim N r.2 x2) (fun u hu => ok_some ?_)
  have r32 : r.2.i 32 = q.2.i 32 := a3.2.1 32 (by decide) (by decide)
  have fu := hu.f
  show JJ H (x - 98) y c X P lim u.2 ∧ (u.2.i 32 = 0 → EXR s0 u.2)
  refine ⟨(j3.aimF hu (by omega) (by omega) (fun nf => ?_)).w (by omega) (Int.le_refl _), fun nf => ?_⟩
  · obtain ⟨⟨-, -, -, z⟩, -⟩ := hs (m2 (r32.symm.trans nf)).1
    refine ⟨⟨e, z⟩, fun m hm => ?_⟩
    rcases List.mem_cons.mp hm with e | e
    · right; rw [e]; exact z.1.symm
    · exact Or.inl e
  · have w := m2 (r32.symm.trans (fu.1.symm.trans nf))
    obtain ⟨⟨ch, e3, -, -⟩, -⟩ := hs w.1
    obtain ⟨k1, k2, k3, ⟨k4, k5, k6⟩, k7⟩ := ch
    have sc := k3.tr w.2.2.2.smc
    obtain ⟨⟨s1, s2, s3, s4, s5⟩, s6, s7, s8, s9⟩ := sc
    have ui : ∀ j : Nat, j ≠ 20 → j ≠ 22 → u.2.i j = q.2.i j := fun j q1 q2 => by rw [hu.2.1]; exact a3.2.1 j q1 q2
    have ua : ∀ k : Nat, k ≠ 15 → k ≠ 16 → k ≠ 17 → u.2.a k = q.2.a k := fun k q1 q2 q3 => (hu.2.2.1 k q3).trans (a3.2.2 k q1 q2)
    have upl : plI u.2 = plI q.2 := by unfold plI; rw [ui 44 (by decide) (by decide)]
    have ue : eI u.2 = eI q.2 := by unfold eI; rw [upl, ui 43 (by decide) (by decide)]
    have w21 := w.2.1
    have g0 := eI.ge s0
    refine ⟨k1, ⟨by omega, by omega⟩, ⟨?_, (ui 38 (by decide) (by decide)).trans s1, (ui 50 (by decide) (by decide)).trans s2, (ui 53 (by decide) (by decide)).trans s3, (ui 56 (by decide) (by decide)).trans s4, ?_, (ui 36 (by decide) (by decide)).trans s5⟩, ?_, fun n hn => ?_, fun i hi => ?_⟩
    · rw [ui 34 (by decide) (by decide)]
      refine Int32.toInt_inj.mp ?_
      have : sgI q.2 = sgI σ + -1 := w.2.2.1
      show sgI q.2 = sgI s0
      omega
    · rw [hu.2.1, c3]; exact e3
    · refine s6.tr (fun i _ => ⟨?_, fun a _ => ⟨?_, ?_⟩⟩)
      · rw [hu.1.2.2.2.2.2.2.1, a3.1.2.2.2.2.2.2.1]
      · rw [hu.1.2.2.2.1, a3.1.2.2.2.1]
      · rw [hu.1.2.2.2.2.1, a3.1.2.2.2.2.1]
    · rw [ua 49 (by decide) (by decide) (by decide)]; exact s7 n hn
    · rw [ua 18 (by decide) (by decide) (by decide), ua 19 (by decide) (by decide) (by decide)]; exact s8 i hi
theorem q_ch113 {N : Nat} {H : HB} (hN : 10000000000 ≤ N) {E1 : CS → Option (Unit × CS)} {E2 : CS → Option (Int32 × CS)} {x y : Int} {c : List Nat} {X : List (Nat × List Nat)} {P : List Nat} {lim : List Int} {s0 σ : CS} {d e : Nat} {x1 x2 x3 x4 : Int32} (hx : x ≤ 3900) (hy : y ≤ 90) (h0 : S0F s0) (hz : 0 ≤ sgI s0) (hl : lmh lim ≤ ccI s0) (h : JJ H x y c X (d :: e :: P) lim σ) (hs : σ.i 32 = 0 → CHX c X s0 σ d e x1 x2 x3 ∧ (x4.toInt < 0 ∨ ∃ m : Nat, x4.toInt = (m : Int) ∧ (m, c) ∈ X)) : ok (f_X1_choice_113 N E1 E2 σ x1 x2 x3 x4) (fun R => JJ H (x - 98) y c X P lim R.2 ∧ (R.2.i 32 = 0 → EXR s0 R.2)) := by
  unfold f_X1_choice_113
  refine ok_ite (fun c4 => ?_) (fun c4 => ?_)
  · have l := le_int c4
    rw [z_t0] at l
    refine q_ch122 hN hx (by omega) h0 hz hl h (fun nf => ⟨(hs nf).1, ?_⟩)
    rcases (hs nf).2 with z | z
    · omega
    · exact z
  · refine ok_bind (q_misp h.1) (fun p hp => ?_)
    exact q_ch122 (d := d) (e := e) hN hx (by omega) h0 hz hl (JJ.flt h.1 hp) (fun nf => absurd nf hp.2.2.2.1)
theorem q_ch69 {N : Nat} {H : HB} (hN : 10000000000 ≤ N) {k : Int} {E1 : CS → Option (Unit × CS)} {E2 : CS → Option (Int32 × CS)} (hE : EC H k E1) (hB : ABC H k (f_X7_armBlock N E1 E2)) {x y : Int} {c : List Nat} {P : List Nat} {lim : List Int} {s0 : CS} {d e : Nat} {x1 x2 x3 : Int32} (hx : x ≤ 3900) (hy : y + 3 * k ≤ 87 ∧ 0 ≤ k) (h0 : S0F s0) (hz : 0 ≤ sgI s0) (hl : lmh lim ≤ ccI s0) (hk : 22 - sgI s0 ≤ k) : ∀ (n : Nat) (σ : CS) (x4 x5 : Int32) (X : List (Nat × List Nat)), 0 ≤ x5.toInt → x5.toInt ≤ 900 → 900 - x5.toInt < n → JJ H x y c X (d :: e :: P) lim σ → (σ.i 32 = 0 → CHX c X s0 σ d e x1 x2 x3 ∧ (x4.toInt < 0 ∨ ∃ m : Nat, x4.toInt = (m : Int) ∧ (m, c) ∈ X)) → ok (f_X1_choice_69 N E1 E2 n σ x1 x2 x3 x4 x5) (fun R => JJ H (x - 98) y c X P lim R.2 ∧ (R.2.i 32 = 0 → EXR s0 R.2))
  | 0, _, _, _, _, _, _, h, _, _ => by omega
  | n + 1, σ, x4, x5, X, z0, z9, hn, hj, hs => by
    show ok (b_X1_choice_69 N E1 E2 (f_X1_choice_69 N E1 E2 n) σ x1 x2 x3 x4 x5) _
    unfold b_X1_choice_69
    have e9 : (900 : Int32).toInt = 900 := by decide
    have e1 : (1 : Int32).toInt = 1 := by decide
    have out : ok (f_X1_choice_113 N E1 E2 σ x1 x2 x3 x4) (fun R => JJ H (x - 98) y c X P lim R.2 ∧ (R.2.i 32 = 0 → EXR s0 R.2)) := q_ch113 hN hx (by omega) h0 hz hl hj hs
    refine ok_ite (fun _ => out) (fun c9 => ?_)
    have l : x5.toInt < 900 := by
      have := lt_int (Int32.not_le.mp c9)
      rw [e9] at this; exact this
    have es : (x5 + 1).toInt = x5.toInt + 1 := by rw [toInt_add] <;> rw [e1] <;> omega
    have go : (σ.i 43 = 219 ∨ σ.i 43 = 220) → ok ((f_X1_arm N E1 E2 σ x3 x4 x2).bind fun p60 => f_X1_choice_69 N E1 E2 n p60.2 x1 x2 x3 p60.1 (x5 + 1)) (fun R => JJ H (x - 98) y c X P lim R.2 ∧ (R.2.i 32 = 0 → EXR s0 R.2)) := fun ht => by
      have nf : σ.i 32 = 0 := by
        by_cases z : σ.i 32 = 0
        · exact z
        · have := hj.1.2.2.2.2.1 z
          rcases ht with ht | ht <;> rw [ht] at this <;> exact absurd this (by decide)
      obtain ⟨⟨ch, t3, t1, t2⟩, t4⟩ := hs nf
      refine ok_bind (q_arm hN hE hB hx (by omega) h0 hk t3 hj nf ht t4 ⟨e, t2⟩ ch) (fun p hp => ?_)
      obtain ⟨X', hX, jp, sp⟩ := hp
      refine ok_imp (q_ch69 hN hE hB hx (by omega) h0 hz hl hk n p.2 p.1 (x5 + 1) X' (by omega) (by omega) (by omega) jp (fun z => ⟨⟨(sp z).1, t3, ⟨t1.1, hX _ t1.2⟩, ⟨t2.1, hX _ t2.2⟩⟩, (sp z).2⟩)) (fun R hR => ⟨hR.1.sub hX, hR.2⟩)
    refine ok_bind (q_found σ 219) (fun p hp => ?_)
    obtain ⟨p1, p2⟩ := hp
    rw [p1]
    rcases p2 with ⟨p2, p3⟩ | ⟨p2, p3⟩
    · rw [if_pos p2]
      refine ok_bind (q_found σ 220) (fun q hq => ?_)
      obtain ⟨q1, q2⟩ := hq
      rw [q1]
      rcases q2 with ⟨q2, q3⟩ | ⟨q2, q3⟩
      · rw [if_pos q2]; exact out
      · rw [q2, if_neg (by decide)]; exact go (Or.inr q3)
    · rw [p2, if_neg (by decide)]; exact go (Or.inl p3)
theorem q_choice {N : Nat} {H : HB} (hN : 10000000000 ≤ N) {k : Int} {E1 : CS → Option (Unit × CS)} {E2 : CS → Option (Int32 × CS)} (hE : EC H k E1) (hB : ABC H k (f_X7_armBlock N E1 E2)) (x y : Int) (c : List Nat) (X : List (Nat × List Nat)) (P : List Nat) (lim : List Int) (s : CS) (hx : x ≤ 3900) (hy : y + 3 * k ≤ 87 ∧ 0 ≤ k) (h : JJ H x y c X P lim s) (hk : s.i 32 = 0 → 23 - sgI s ≤ k + 1) (ht : s.i 43 = 218) (nf : s.i 32 = 0) : ok (f_X1_choice N E1 E2 s) (fun R => JJ H (x - 50) y c X P lim R.2 ∧ (R.2.i 32 = 0 → EXR s R.2)) := by
  have hN1 : 1000 ≤ N := by omega
  have hk := hk nf
  have nb := (h.2 nf).2
  have gw := (h.2 nf).1
  have s0f : S0F s := ⟨h.1.2.2.2.2.2.2.1.2.2, nb.2.2.2.2.2.2.1, nb.2.2.2.2.2.1, nb.2.1.1, nb.2.1.2⟩
  have es0 : eI s = plI s := by
    unfold eI
    rw [if_pos (Or.inr (by rw [ht]; decide))]; omega
  have sg0 := nb.2.2.2.1.1
  unfold f_X1_choice
  refine ok_bind (q_advC hN1 h.1) (fun a ha => ?_)
  have gn := ha.gain h.1.2.2.1
  have g7 := gn.2.2.2.2.2.2 (Or.inl ht)
  have ga := eI.ge a.2
  have ja : JJ H (x - 400) (y - 4) c X P lim a.2 := h.adv ha (fun _ => ⟨by omega, by omega⟩)
  have ea : a.2.i 32 = 0 → EXR s a.2 := (h.tk ha (fun _ => by rw [ht]; decide)).2
  refine ok_bind (q_open hN1 ja.1 40) (fun b hb => ?_)
  obtain ⟨jb, mb⟩ := ja.op (by decide) hb
  refine ok_bind (q_expression (E2 := E2) hN1 hE _ _ c X P lim b.2 (by omega) (by omega) jb (fun z => ?_)) (fun f hf => ?_)
  · have w := mb z
    have := w.2.2.1
    have := (ea w.1).sg
    omega
  obtain ⟨jf, ef⟩ := hf
  have mf : f.2.i 32 = 0 → MOV 1 s f.2 ∧ plI s + 6 ≤ plI f.2 := fun z => by
    have w1 := ef z
    have w2 := mb w1.1
    have w3 := ea w2.1
    refine ⟨?_, by have := w1.2.1.1; have := w2.2.1.1; omega⟩
    have := (w3.mv.tr w2).tr w1.mv
    exact this
  refine ok_bind (q_clos hN1 jf (fun z => ?_) 41 (by decide)) (fun g hg => ?_)
  · have w := (mf z).1
    obtain ⟨i1, i2, i3, i4, i5⟩ := w.2.2.2.2.1.sums s0f.1
    have ecn : cnI f.2 = cnI s := by unfold cnI; rw [w.2.2.2.1.2.2.1]
    have := w.2.2.1
    have := s0f.2.1
    rw [ecn, i2]
    omega
  obtain ⟨jg, mg⟩ := hg
  refine ok_bind (q_open hN1 jg.1 123) (fun o ho => ?_)
  obtain ⟨jo, mo⟩ := jg.op (by decide) ho
  have so : o.2.i 32 = 0 → MOV 1 s o.2 ∧ plI s + 8 ≤ plI o.2 := fun z => by
    have w1 := mo z
    have w2 := mg w1.1
    obtain ⟨w3, w4⟩ := mf w2.1
    refine ⟨?_, by have := w1.2.1.1; have := w2.2.1.1; omega⟩
    have := (w3.tr w2).tr w1
    exact this
  clear mg mf ef mb ea hb ho ha
  refine ok_bind (q_newTarget N o.2) (fun p hp => ?_)
  obtain ⟨t1, t2⟩ := hp
  have f1 := t1.f
  have j1 := jo.new t1 (by omega) (by omega) c
  obtain ⟨d, hd⟩ : ∃ d, d = (tcI o.2).toNat := ⟨_, rfl⟩
  rw [← hd] at j1
  refine ok_bind (q_newTarget N p.2) (fun q hq => ?_)
  obtain ⟨u1, u2⟩ := hq
  have f2 := u1.f
  have j2 := j1.new u1 (by omega) (by omega) c
  obtain ⟨e, he⟩ : ∃ e, e = (tcI p.2).toNat := ⟨_, rfl⟩
  rw [← he] at j2
  have nfo : q.2.i 32 = 0 → o.2.i 32 = 0 := fun z => f1.1.symm.trans (f2.1.symm.trans z)
  have ed : q.2.i 32 = 0 → p.1.toInt = (d : Int) := fun z => by
    have := (jo.2 (nfo z)).1.tc0.1
    rw [t2]; show tcI o.2 = _; omega
  have ee : q.2.i 32 = 0 → q.1.toInt = (e : Int) := fun z => by
    have := (j1.2 (f2.1.symm.trans z)).1.tc0.1
    rw [u2]; show tcI p.2 = _; omega
  have md : (d, c) ∈ (e, c) :: (d, c) :: X := List.mem_cons_of_mem _ (List.mem_cons_self ..)
  have me : (e, c) ∈ (e, c) :: (d, c) :: X := List.mem_cons_self ..
  refine ok_bind (q_add N q.2 30 p.1) (fun r hr => ?_)
  have j3 := j2.add hr (by omega) (by omega) (fun z DT KT qX _ _ => IOK.jmp (by decide) (ed z) md qX)
  have sr : SMR o.2 r.2 := (t1.smr.tr u1.smr).tr hr.smr
  have rpl : plI r.2 = plI o.2 := by rw [hr.pl.1, f2.2.2.1, f1.2.2.1]
  have rel : eI r.2 = eI o.2 := by rw [hr.pl.2, f2.2.2.2, f1.2.2.2]
  have jj : JJ H (x - 700) (y - 2) c ((e, c) :: (d, c) :: X) (d :: e :: P) lim r.2 := by
    have w := j3.w (x' := x - 700) (y' := y - 2) (by omega) (by omega)
    refine ⟨w.1, fun z => ⟨?_, (w.2 z).2⟩⟩
    obtain ⟨D, DT, KT, k1, k2, k3, k4⟩ := (w.2 z).1
    refine ⟨D, DT, KT, k1, k2, fun t a1 a2 a3 => ?_, k4⟩
    rcases k3 t a1 a2 a3 with y1 | y1
    · left
      rcases List.mem_cons.mp y1 with y2 | y2
      · rw [y2]; exact List.mem_cons_of_mem _ (List.mem_cons_self ..)
      · rcases List.mem_cons.mp y2 with y3 | y3
        · rw [y3]; exact List.mem_cons_self ..
        · exact List.mem_cons_of_mem _ (List.mem_cons_of_mem _ y3)
    · exact Or.inr y1
  refine ok_imp (q_ch69 (x3 := q.2.i 22) hN hE hB (by omega) (by omega) s0f sg0 gw.lim (by omega) N r.2 (-1) 0 _ (by decide) (by decide) (by rw [z_t0]; omega) jj (fun z => ⟨⟨?_, ?_, ⟨ed (hr.f32.1.symm.trans z), md⟩, ⟨ee (hr.f32.1.symm.trans z), me⟩⟩, Or.inl (by decide)⟩)) (fun R hR => ⟨(hR.1.sub (fun q hq => List.mem_cons_of_mem _ (List.mem_cons_of_mem _ hq))).w (by omega) (by omega), hR.2⟩)
  · obtain ⟨w, w8⟩ := so (nfo (hr.f32.1.symm.trans z))
    have sx := w.2.2.2.tr sr.x
    have ecc : ccI r.2 = ccI s := by unfold ccI; rw [sx.1.2.2.2.2.1]
    have esg : sgI r.2 = sgI o.2 := by unfold sgI; rw [sr.1.1]
    have w3 := w.2.2.1
    have w4 := w.2.1.2
    have kd := (KD.le r.2 (ccI s) (ccI r.2)).1
    exact ⟨nf, by omega, sx.smc, ⟨by omega, by omega, by omega⟩, fun i q1 q2 => by omega⟩
  · obtain ⟨w, -⟩ := so (nfo (hr.f32.1.symm.trans z))
    have := (t1.smr.tr u1.smr).1.2.2.2.2.2.1
    exact this.trans w.2.2.2.1.2.2.2.2.1
end
section
/-! the class's reading: a row more, a row less -/
/-- only one row's cell is other -/
def OUV (s R : CS) (a : Nat) (g : Nat → Int32) (l : Int64) : Prop := (R.hs = s.hs ∧ R.L = s.L ∧ R.k = s.k ∧ R.ot = s.ot ∧ R.r = s.r ∧ R.w = s.w ∧ R.b = s.b ∧ R.l = s.l ∧ R.a = s.a ∧ R.i = s.i) ∧ (∀ x : Nat, x ≠ a → R.o x = s.o x ∧ R.ol x = s.ol x) ∧ R.o a = g ∧ R.ol a = l
theorem OUV.rf (s : CS) (a : Nat) : OUV s s a (s.o a) (s.ol a) := ⟨⟨rfl, rfl, rfl, rfl, rfl, rfl, rfl, rfl, rfl, rfl⟩, fun _ _ => ⟨rfl, rfl⟩, rfl, rfl⟩
theorem OUV.o {s R : CS} {a : Nat} {g : Nat → Int32} {l : Int64} (h : OUV s R a g l) (k : Nat) (v : Int32) : OUV s (CS.setO R a k v) a (upd g k v) l := by
  obtain ⟨⟨a1, a2, a3, a4, a5, a6, a7, a8, a9, a10⟩, a11, a12, a13⟩ := h
  refine ⟨⟨(chs_setO ..).trans a1, (cL_setO ..).trans a2, (ck_setO ..).trans a3, (cot_setO ..).trans a4, (cr_setO ..).trans a5, (cw_setO ..).trans a6, (cb_setO ..).trans a7, (cl_setO ..).trans a8, (ca_setO ..).trans a9, (ci_setO ..).trans a10⟩, fun x hx => ⟨?_, ?_⟩, ?_, ?_⟩
  · exact (show (CS.setO R a k v).o x = R.o x from if_neg hx).trans (a11 x hx).1
  · rw [col_setO]; exact (a11 x hx).2
  · rw [← a12]; exact (if_pos rfl)
  · rw [col_setO]; exact a13
theorem OUV.l {s R : CS} {a : Nat} {g : Nat → Int32} {l : Int64} (h : OUV s R a g l) (v : Int64) : OUV s (CS.setOl R a v) a g v := by
  obtain ⟨⟨a1, a2, a3, a4, a5, a6, a7, a8, a9, a10⟩, a11, a12, a13⟩ := h
  refine ⟨⟨(chs_setOl ..).trans a1, (cL_setOl ..).trans a2, (ck_setOl ..).trans a3, (cot_setOl ..).trans a4, (cr_setOl ..).trans a5, (cw_setOl ..).trans a6, (cb_setOl ..).trans a7, (cl_setOl ..).trans a8, (ca_setOl ..).trans a9, (ci_setOl ..).trans a10⟩, fun x hx => ⟨?_, ?_⟩, ?_, ?_⟩
  · rw [co_setOl]; exact (a11 x hx).1
  · exact (show (CS.setOl R a v).ol x = R.ol x from if_neg hx).trans (a11 x hx).2
  · rw [co_setOl]; exact a12
  · exact if_pos rfl
/-- a new cell for a row -/
noncomputable def ONW (s : CS) (m : Nat) : CS := CS.setR (CS.new s 0) 51 m (some s.hs)
theorem ONW.in {H : Nat} {s : CS} (hr : REFS s) (hm : ROOM H s) {m : Nat} (h40 : m < 400) (hn : s.r 51 m = none) : REFS (ONW s m) ∧ ROOM H (ONW s m) ∧ ((ONW s m).i = s.i ∧ (ONW s m).a = s.a ∧ (ONW s m).b = s.b ∧ (ONW s m).l = s.l ∧ (ONW s m).w = s.w) ∧ (ONW s m).r 51 m = some s.hs ∧ (∀ j : Nat, j ≠ m → (ONW s m).r 51 j = s.r 51 j) ∧ (∀ x : Nat, x ≠ s.hs → (ONW s m).o x = s.o x ∧ (ONW s m).ol x = s.ol x) ∧ oK (ONW s m) s.hs 0 := by
  have vL : (ONW s m).L = s.L ++ [s.hs] := by unfold ONW; rw [cL_setR, cL_new]
  have vh : (ONW s m).hs = s.hs + 1 := by unfold ONW; rw [chs_setR, chs_new]
  have vk : (ONW s m).k = va_up s.k s.hs 0 := by unfold ONW; rw [ck_setR, ck_new]
  have v61 : (ONW s m).r 61 = s.r 61 := by unfold ONW; rw [cr_ne _ _ _ _ (by decide), cr_new]
  have v62 : (ONW s m).r 62 = s.r 62 := by unfold ONW; rw [cr_ne _ _ _ _ (by decide), cr_new]
  have v51 : (ONW s m).r 51 = va_up (s.r 51) m (some s.hs) := by unfold ONW; rw [cr_at, cr_new]
  have vi : (ONW s m).i = s.i := by unfold ONW; rw [ci_setR, ci_new]
  have va : (ONW s m).a = s.a := by unfold ONW; rw [ca_setR, ca_new]
  have vb : (ONW s m).b = s.b := by unfold ONW; rw [cb_setR, cb_new]
  have vl : (ONW s m).l = s.l := by unfold ONW; rw [cl_setR, cl_new]
  have vw : (ONW s m).w = s.w := by unfold ONW; rw [cw_setR, cw_new]
  have vo : ∀ x : Nat, x ≠ s.hs → (ONW s m).o x = s.o x ∧ (ONW s m).ol x = s.ol x ∧ (ONW s m).ot x = s.ot x := fun x hx => by
    unfold ONW; rw [co_setR, co_new _ _ hx, col_setR, col_new _ _ hx, cot_setR, cot_new _ _ hx]; exact ⟨rfl, rfl, rfl⟩
  generalize ONW s m = V at *
  obtain ⟨h1, h2, h3, h4, h5, h6, h7, h8, h9⟩ := hr
  have lt : ∀ {x t : Nat}, oK s x t → x < s.hs := fun {x t} hx => h1 x hx.1
  have okm : ∀ {x t : Nat}, oK s x t → oK V x t := fun {x t} hx => by
    refine ⟨by rw [vL]; exact List.mem_append_left _ hx.1, ?_⟩
    rw [vk]
    have := lt hx
    exact (if_neg (by omega)).trans hx.2
  have okn : oK V s.hs 0 := ⟨by rw [vL]; exact List.mem_append_right _ (List.mem_singleton.mpr rfl), by rw [vk]; exact if_pos rfl⟩
  have v51m : V.r 51 m = some s.hs := by rw [v51]; exact if_pos rfl
  have v51n : ∀ j : Nat, j ≠ m → V.r 51 j = s.r 51 j := fun j hj => by rw [v51]; exact if_neg hj
  refine ⟨⟨fun x hx => ?_, fun i a hi e => ?_, fun i j a hi hj e1 e2 => ?_, fun i a hi e => okm (h4 i a hi (by rw [← v61]; exact e)), by rw [v61]; exact h5, fun i a hi e => ?_, by rw [v62]; exact h7, fun i a b hi e1 e2 => ?_, fun b e => ?_⟩, ?_, ⟨vi, va, vb, vl, vw⟩, v51m, v51n, fun x hx => ⟨(vo x hx).1, (vo x hx).2.1⟩, okn⟩
  · rw [vL] at hx
    rw [vh]
    rcases List.mem_append.mp hx with hx | hx
    · have := h1 x hx; omega
    · have := List.mem_singleton.mp hx; omega
  · by_cases c : i = m
    · rw [c, v51m] at e; cases e; exact okn
    · rw [v51n i c] at e; exact okm (h2 i a hi e)
  · by_cases c : i = m
    · by_cases c' : j = m
      · omega
      · rw [c, v51m] at e1
        rw [v51n j c'] at e2
        cases e1
        have := lt (h2 j _ hj e2); omega
    · by_cases c' : j = m
      · rw [c', v51m] at e2
        rw [v51n i c] at e1
        cases e2
        have := lt (h2 i _ hi e1); omega
      · rw [v51n i c] at e1
        rw [v51n j c'] at e2
        exact h3 i j a hi hj e1 e2
  · have := h6 i a hi (by rw [← v62]; exact e)
    exact ⟨okm this.1, okm this.2.1, okm this.2.2⟩
  · rw [v61] at e1
    have ha := lt (h4 i a hi e1)
    rw [(vo a (by omega)).2.2] at e2
    unfold inP; rw [v62]; exact h8 i a b hi e1 e2
  · rw [vw] at e
    unfold inP; rw [v62]; exact h9 b e
  · unfold ROOM at *
    rw [vh, v51, v61, v62]
    have := nn.put (a := s.hs) hn (n := 400) h40
    omega
end
section
/-! the class's reading: a row is pushed -/
/-- a row a more, at place m -/
def PSH (s R : CS) (a m : Nat) (x1 x2 x3 : Int32) : Prop := (R.a = s.a ∧ R.b = s.b ∧ R.l = s.l) ∧ (∀ j : Nat, j ≠ 53 → j ≠ 54 → R.i j = s.i j) ∧ cnI R = (m : Int) + 1 ∧ R.r 51 m = some a ∧ (∀ j : Nat, j ≠ m → R.r 51 j = s.r 51 j) ∧ oK R a 0 ∧ (∀ i b : Nat, i < 400 → i ≠ m → s.r 51 i = some b → b ≠ a ∧ R.o b = s.o b ∧ R.ol b = s.ol b) ∧ (R.o a 0 = x1 ∧ R.o a 2 = x2 ∧ R.o a 3 = x3 ∧ R.ol a = 0) ∧ (R.o a 5 = 0 ∧ R.o a 6 = 0 ∧ R.o a 7 = 0 ∧ R.o a 8 = 0) ∧ (R.o a 9 = -1 ∧ R.o a 10 = -1 ∧ R.o a 11 = -1)
theorem q_psh48 {N : Nat} {s : CS} {x1 x2 x3 x4 : Int32} {a : Nat} (ha : oK s a 0) : ok (f_X6_push_48 N s x1 x2 x3 x4 a) (fun R => R.1 = some a ∧ (∃ g : Nat → Int32, OUV (CS.setI (CS.setI s 53 (x4 + 1)) 54 (s.i 54 + 1)) R.2 a g 0 ∧ (g 0 = x1 ∧ g 2 = x2 ∧ g 3 = x3) ∧ (g 5 = 0 ∧ g 6 = 0 ∧ g 7 = 0 ∧ g 8 = 0) ∧ (g 9 = -1 ∧ g 10 = -1 ∧ g 11 = -1))) := by
  unfold f_X6_push_48
  refine ok_chk ha (ok_some ⟨rfl, ?_⟩)
  generalize CS.setI (CS.setI s 53 (x4 + 1)) 54 (s.i 54 + 1) = B
  exact ⟨_, (((((((((((((((OUV.rf B a).o 0 x1).o 1 _).o 2 x2).o 3 x3).l 0).o 5 0).o 6 0).o 7 0).o 8 0).o 9 (-1)).o 10 (-1)).o 11 (-1)).o 12 0).o 14 _), ⟨rfl, rfl, rfl⟩, ⟨rfl, rfl, rfl, rfl⟩, ⟨rfl, rfl, rfl⟩⟩
theorem q_psh {N : Nat} {H : HB} {s : CS} (h : CBS H s) (x1 x2 x3 : Int32) (h3 : 0 ≤ x3.toInt ∧ x3.toInt ≤ 128) : ok (f_X6_push N s x1 x2 x3) (fun R => ∃ a m : Nat, R.1 = some a ∧ (m < 400 ∧ (cnI s ≤ 399 → (m : Int) = cnI s) ∧ (399 < cnI s → (m : Int) = 399)) ∧ CBS H R.2 ∧ PSH s R.2 a m x1 x2 x3) := by
  obtain ⟨c1, c2, c3, c4, c5, c6, ⟨c7, c7', c7''⟩, c8, c9⟩ := h
  unfold f_X6_push
  have e399 : (399 : Int32).toInt = 399 := by decide
  have e1 : (1 : Int32).toInt = 1 := by decide
  have cn0 : 0 ≤ (s.i 53).toInt := c7
  obtain ⟨q, hq⟩ : ∃ q : Int32, q = (if (399 : Int32) < (s.i 53) then (399 : Int32) else (s.i 53)) := ⟨_, rfl⟩
  have hq2 : (0 ≤ q.toInt ∧ q.toInt < 400) ∧ ((cnI s ≤ 399 → q.toInt = cnI s) ∧ (399 < cnI s → q.toInt = 399)) ∧ q.toInt ≤ cnI s := by
    by_cases c : (399 : Int32) < s.i 53
    · have l := lt_int c
      rw [e399] at l
      have l' : 399 < cnI s := l
      rw [hq, if_pos c, e399]
      exact ⟨by omega, ⟨fun z => by omega, fun _ => rfl⟩, by omega⟩
    · have l := le_int (Int32.not_lt.mp c)
      rw [e399] at l
      rw [hq, if_neg c]
      exact ⟨⟨cn0, by omega⟩, ⟨fun _ => rfl, fun z => by unfold cnI at z; omega⟩, Int.le_refl _⟩
  rw [← hq]
  clear hq
  obtain ⟨⟨q0, q4⟩, qe, qc⟩ := hq2
  have iq : ib q 400 := ⟨by omega, by omega⟩
  have cl := clampI q0
  obtain ⟨m, hm⟩ : ∃ m, m = q.toNatClampNeg := ⟨_, rfl⟩
  have em : (m : Int) = q.toInt := by rw [hm]; omega
  have m4 : m < 400 := by omega
  have eq1 : (q + 1).toInt = (m : Int) + 1 := by rw [toInt_add] <;> rw [e1] <;> omega
  rw [← hm]
  refine ok_chk iq ?_
  -- from a state whose row m is a
  have main : ∀ (V : CS) (a : Nat), REFS V → ROOMB H V → (V.i = s.i ∧ V.a = s.a ∧ V.b = s.b ∧ V.l = s.l) → V.r 51 m = some a → (∀ j : Nat, j ≠ m → V.r 51 j = s.r 51 j) → (∀ x : Nat, x ≠ a → oK s x 0 → V.o x = s.o x ∧ V.ol x = s.ol x) → oK V a 0 → ok (f_X6_push_48 N V x1 x2 x3 q a) (fun R => ∃ a m : Nat, R.1 = some a ∧ (m < 400 ∧ (cnI s ≤ 399 → (m : Int) = cnI s) ∧ (399 < cnI s → (m : Int) = 399)) ∧ CBS H R.2 ∧ PSH s R.2 a m x1 x2 x3) := fun V a rV mV vs vm vn vo oa => by
    refine ok_imp (q_psh48 oa) (fun R hR => ?_)
    obtain ⟨r1, g, hO, ⟨g0, g2, g3⟩, ⟨g5, g6, g7, g8⟩, ⟨g9, g10, g11⟩⟩ := hR
    obtain ⟨R, T⟩ := R
    obtain ⟨⟨b1, b2, b3, b4, b5, b6, b7, b8, b9, b10⟩, b11, b12, b13⟩ := hO
    obtain ⟨w1, w2, w3, w4⟩ := vs
    have Ti : ∀ j : Nat, j ≠ 53 → j ≠ 54 → T.i j = s.i j := fun j y1 y2 => by
      show T.i j = s.i j
      rw [show T.i = _ from b10, ci_ne _ _ _ y2, ci_ne _ _ _ y1, w1]
    have T53 : T.i 53 = q + 1 := by
      show T.i 53 = q + 1
      rw [show T.i = _ from b10, ci_ne _ _ _ (by decide), ci_at]
    have Ta : T.a = s.a := (show T.a = V.a from b9).trans w2
    have Tb : T.b = s.b := (show T.b = V.b from b7).trans w3
    have Tl : T.l = s.l := (show T.l = V.l from b8).trans w4
    have Tr : T.r = V.r := b5
    have Th : T.hs = V.hs := b1
    have TL : T.L = V.L := b2
    have Tk : T.k = V.k := b3
    have Tt : T.ot = V.ot := b4
    have Tw : T.w = V.w := b6
    have To : ∀ x : Nat, x ≠ a → T.o x = V.o x ∧ T.ol x = V.ol x := b11
    have Tg : T.o a = g := b12
    have Tgl : T.ol a = 0 := b13
    clear b1 b2 b3 b4 b5 b6 b7 b8 b9 b10 b11 b12 b13
    have rT : REFS T := by unfold REFS inP oK at *; rw [Th, TL, Tk, Tt, Tr, Tw]; exact rV
    have mT : ROOMB H T := by
      refine ⟨by have := mV.1; unfold ROOM at *; rw [Th, Tr]; exact this, by rw [Tr]; exact mV.2.1, fun q => ?_⟩
      have etc : tcI T = tcI V := by unfold tcI; rw [Ti 21 (by decide) (by decide), w1]
      rw [etc, Ta, ← w2]
      exact mV.2.2 (by rw [w1]; exact (Ti 32 (by decide) (by decide)).symm.trans q)
    have okT : oK T a 0 := by unfold oK at *; rw [TL, Tk]; exact oa
    have ecn : cnI T = (m : Int) + 1 := by unfold cnI; rw [T53]; exact eq1
    have Trm : T.r 51 m = some a := by rw [Tr]; exact vm
    have Trn : ∀ j : Nat, j ≠ m → T.r 51 j = s.r 51 j := fun j hj => by rw [Tr]; exact vn j hj
    have oth : ∀ i b : Nat, i < 400 → i ≠ m → s.r 51 i = some b → b ≠ a ∧ T.o b = s.o b ∧ T.ol b = s.ol b := fun i b hi hne e => by
      have nb : b ≠ a := fun z => hne (rT.2.2.1 i m a hi m4 (by rw [Trn i hne, e, z]) Trm)
      have o1 := To b nb
      have o2 := vo b nb (c1.2.1 i b hi e)
      exact ⟨nb, o1.1.trans o2.1, o1.2.trans o2.2⟩
    refine ⟨a, m, r1, ⟨m4, fun z => by have := qe.1 z; omega, fun z => by have := qe.2 z; omega⟩, ⟨rT, mT, ?_, ?_, ?_, ?_, ⟨?_, ?_, fun i hi => ?_⟩, fun i b hi e => ?_, ?_⟩, ⟨Ta, Tb, Tl⟩, Ti, ecn, Trm, Trn, okT, oth, ⟨by rw [Tg]; exact g0, by rw [Tg]; exact g2, by rw [Tg]; exact g3, Tgl⟩, ⟨by rw [Tg]; exact g5, by rw [Tg]; exact g6, by rw [Tg]; exact g7, by rw [Tg]; exact g8⟩, ⟨by rw [Tg]; exact g9, by rw [Tg]; exact g10, by rw [Tg]; exact g11⟩⟩
    · show LC T
      unfold LC AB BY at *
      rw [Ta, Ti 41 (by decide) (by decide), Ti 42 (by decide) (by decide), Ti 43 (by decide) (by decide), Ti 44 (by decide) (by decide), Ti 45 (by decide) (by decide), Tl]
      exact c3
    · show WDC T
      unfold WDC at *; rw [Tb]; exact c4
    · show ¬ T.i 32 = 0 → T.i 43 = 0
      rw [Ti 32 (by decide) (by decide), Ti 43 (by decide) (by decide)]; exact c5
    · show 0 ≤ nmI T ∧ nmI T ≤ 128
      unfold nmI at *; rw [Ti 50 (by decide) (by decide)]; exact c6
    · show 0 ≤ cnI T
      omega
    · show cnI T ≤ 400
      omega
    · have hi : i < (cnI T).toNat := hi
      show ∃ a, T.r 51 i = some a
      by_cases c : i = m
      · rw [c]; exact ⟨a, Trm⟩
      · rw [Trn i c]; exact c7'' i (by omega)
    · have e : T.r 51 i = some b := e
      show (bo (T.o b 5) ∧ bo (T.o b 6) ∧ bo (T.o b 7) ∧ bo (T.o b 8)) ∧ (0 ≤ (T.o b 3).toInt ∧ (T.o b 3).toInt ≤ 128)
      by_cases c : i = m
      · rw [c, Trm] at e
        cases e
        rw [Tg, g5, g6, g7, g8, g3]
        exact ⟨⟨Or.inl rfl, Or.inl rfl, Or.inl rfl, Or.inl rfl⟩, h3⟩
      · rw [Trn i c] at e
        have o := oth i b hi c e
        rw [o.2.1]
        exact c8 i b hi e
    · show bo (T.i 36) ∧ (bo (T.i 14) ∧ (T.i 13).toInt ≤ 12) ∧ bo (T.i 27)
      rw [Ti 36 (by decide) (by decide), Ti 14 (by decide) (by decide), Ti 13 (by decide) (by decide), Ti 27 (by decide) (by decide)]; exact c9
  cases hc : CS.r s 51 m with
  | some a => exact main s a c1 c2 ⟨rfl, rfl, rfl, rfl⟩ hc (fun _ _ => rfl) (fun _ _ _ => ⟨rfl, rfl⟩) (c1.2.1 m a m4 hc)
  | none =>
    show ok ((f_X5_init N (CS.new s 0) (CS.hs s)).bind fun p5 => if ib q 400 then if oK p5.2 (CS.hs s) 0 then f_X6_push_48 N (CS.setR p5.2 51 m (some (CS.hs s))) x1 x2 x3 q (CS.hs s) else none else none) _
    unfold f_X5_init
    show ok (if ib q 400 then if oK (CS.new s 0) (CS.hs s) 0 then f_X6_push_48 N (ONW s m) x1 x2 x3 q (CS.hs s) else none else none) _
    obtain ⟨i1, i2, ⟨i3, i4, i5, i6, i7⟩, i8, i9, i10, i11⟩ := ONW.in c1 c2.1 m4 hc
    refine ok_chk iq (ok_chk ⟨by rw [cL_new]; exact List.mem_append_right _ (List.mem_singleton.mpr rfl), by rw [ck_new]; exact if_pos rfl⟩ ?_)
    exact main (ONW s m) s.hs i1 ⟨i2, fun i a e => by
      have e2 := c2.2.1 i a e
      have ne : i ≠ m := fun z => by rw [z, hc] at e2; cases e2
      rw [i9 i ne]; exact e2, fun q => by
      have etc : tcI (ONW s m) = tcI s := by unfold tcI; rw [i3]
      rw [etc, i4]
      exact c2.2.2 (by rw [← i3]; exact q)⟩ ⟨i3, i4, i5, i6⟩ i8 i9 (fun x hx _ => i10 x hx) i11
end
section
/-! the class's reading: the price of a row more -/
theorem rowA.of {s : CS} {n a : Nat} (h : s.r 51 n = some a) : rowA s n = a := by unfold rowA; rw [h]; rfl
theorem RCH.len {s : CS} {DT : Nat → List Nat} {KT : Nat → Prop} {n : Nat} {c : List Nat} {lim : List Int} (h : RCH s DT KT n c lim) (ht : ∀ (m a : Nat), n = m + 1 → s.r 51 m = some a → ¬ s.o a 0 = 305) : (c.length : Int) ≤ SGS s n := by
  cases n with
  | zero =>
    have e : c = [] := h.1
    rw [e]
    show (0 : Int) ≤ 0
    omega
  | succ n =>
    obtain ⟨a, c0, lim', h1, h2, ⟨h3, h4, h5⟩, h6⟩ := h
    have ne := ht n a rfl h1
    have er := rowA.of h1
    show (c.length : Int) ≤ SGS s n + sgn s (rowA s n)
    rw [er]
    have sg0 : 0 ≤ sgn s a := by
      unfold sgn
      by_cases q : s.o a 0 = 302
      · rw [if_pos q]; decide
      · rw [if_neg q]
        by_cases q2 : s.o a 0 = 301 ∨ s.o a 0 = 212 ∨ s.o a 0 = 218 ∨ s.o a 0 = 213 ∨ s.o a 0 = 215 ∨ s.o a 0 = 216
        · rw [if_pos q2]; decide
        · rw [if_neg q2]; decide
    have ax : arx s a ≤ sgn s a := by
      unfold arx
      by_cases q : s.o a 0 = 302
      · rw [if_pos q]; unfold sgn; rw [if_pos q]; decide
      · rw [if_neg q]; exact sg0
    have ax0 : ¬ s.o a 0 = 302 → arx s a = 0 := fun q => by unfold arx; rw [if_neg q]
    have one : ∀ v : Int32, (v = 212 ∨ v = 213 ∨ v = 215 ∨ v = 216) → s.o a 0 = v → sgn s a = 1 := fun v hv e => by
      unfold sgn
      rw [e]
      rcases hv with z | z | z | z <;> rw [z] <;> rfl
    have cons : ∀ p : Nat, c = p :: c0 → sgn s a = 1 → (c.length : Int) ≤ SGS s n + sgn s a := fun p e q => by
      have q0 := ax0 (fun w => by unfold sgn at q; rw [if_pos w] at q; exact absurd q (by decide))
      rw [e, q]
      have : (p :: c0).length = c0.length + 1 := rfl
      omega
    rcases h5 with ⟨-, e, -⟩ | ⟨-, e, -⟩ | ⟨-, e, -⟩ | ⟨-, e, -⟩ | ⟨-, e, -⟩ | ⟨-, e, -⟩ | ⟨-, e, -⟩ | ⟨q, e, -⟩ | ⟨q, e, -⟩ | ⟨q, e, -⟩ | ⟨q, e, -⟩ | ⟨q, e, -⟩
    · rw [e]; omega
    · rw [e]; omega
    · rw [e]; omega
    · rw [e]; omega
    · rw [e]; omega
    · rw [e]; omega
    · rw [e]; omega
    · exact cons 0 e (one 212 (by decide) q)
    · exact cons 1 e (one 213 (by decide) q)
    · exact cons 2 e (one 215 (by decide) q)
    · exact absurd q ne
    · exact cons 3 e (one 216 (by decide) q)
theorem RSQ.put {s R : CS} {n a : Nat} (hs : RSQ s R n) (nr : NR s n) (ha : R.r 51 n = some a) : WCS R (n + 1) = WCS s n + cost R a ∧ SGS R (n + 1) = SGS s n + sgn R a ∧ BLS R (n + 1) = BLS s n + (if R.o a 0 = 301 then 1 else 0) ∧ AMS R (n + 1) = AMS s n + (if R.o a 0 = 302 then 1 else 0) ∧ KLS R (n + 1) = (if R.o a 0 = 302 then fun _ => false else if R.o a 0 = 303 ∧ 97 ≤ (R.ol a).toInt ∧ (R.ol a).toInt ≤ 122 then fun v : Nat => (v : Int) = (R.ol a).toInt - 97 || KLS s n v else KLS s n) := by
  obtain ⟨i1, i2, i3, i4, i5⟩ := hs.sums nr
  have er := rowA.of ha
  refine ⟨?_, ?_, ?_, ?_, ?_⟩
  · show WCS R n + cost R (rowA R n) = _
    rw [i1, er]
  · show SGS R n + sgn R (rowA R n) = _
    rw [i2, er]
  · show BLS R n + _ = _
    rw [i3, er]
  · show AMS R n + _ = _
    rw [i4, er]
  · show (if R.o (rowA R n) 0 = 302 then fun _ => false else if R.o (rowA R n) 0 = 303 ∧ 97 ≤ (R.ol (rowA R n)).toInt ∧ (R.ol (rowA R n)).toInt ≤ 122 then fun v : Nat => (v : Int) = (R.ol (rowA R n)).toInt - 97 || KLS R n v else KLS R n) = _
    rw [i5, er]
theorem IQ.put {s R : CS} {n a : Nat} (h : IQ s n) (hs : RSQ s R n) (nr : NR s n) (ha : R.r 51 n = some a) (hp : cnt (KLS s n) 26 + 3 ≤ cost R a + 3 * (if R.o a 0 = 301 then 1 else 0) + 20 * (if R.o a 0 = 302 then 1 else 0) + cnt (KLS R (n + 1)) 26) : IQ R (n + 1) := fun m hm => by
  by_cases c : m ≤ n
  · exact (h.of hs nr) m c
  · have e : m = n + 1 := by omega
    have h0 := h n (Nat.le_refl n)
    obtain ⟨p1, p2, p3, p4, p5⟩ := hs.put nr ha
    rw [e, p1, p3, p4]
    omega
/-- a row that is no block, arm or short label -/
theorem IQ.plain {s R : CS} {n a : Nat} (h : IQ s n) (hs : RSQ s R n) (nr : NR s n) (ha : R.r 51 n = some a) (h0 : ¬ R.o a 0 = 300 ∧ ¬ R.o a 0 = 301 ∧ ¬ R.o a 0 = 302 ∧ ¬ (R.o a 0 = 303 ∧ 97 ≤ (R.ol a).toInt ∧ (R.ol a).toInt ≤ 122)) : IQ R (n + 1) ∧ WCS R (n + 1) = WCS s n + 3 := by
  obtain ⟨p1, p2, p3, p4, p5⟩ := hs.put nr ha
  obtain ⟨q1, q2, q3, q4⟩ := h0
  have ec : cost R a = 3 := by
    unfold cost
    rw [if_neg (fun z => z.elim q1 q2), if_neg q3, if_neg q4]
  refine ⟨h.put hs nr ha ?_, by rw [p1, ec]⟩
  rw [p5, if_neg q3, if_neg q4, ec, if_neg q2, if_neg q3]
  omega
theorem IQ.block {s R : CS} {n a : Nat} (h : IQ s n) (hs : RSQ s R n) (nr : NR s n) (ha : R.r 51 n = some a) (h0 : R.o a 0 = 301) : IQ R (n + 1) ∧ WCS R (n + 1) = WCS s n := by
  obtain ⟨p1, p2, p3, p4, p5⟩ := hs.put nr ha
  have q3 : ¬ R.o a 0 = 302 := by rw [h0]; decide
  have q4 : ¬ (R.o a 0 = 303 ∧ 97 ≤ (R.ol a).toInt ∧ (R.ol a).toInt ≤ 122) := fun z => by
    have := z.1
    rw [h0] at this
    exact absurd this (by decide)
  have ec : cost R a = 0 := by
    unfold cost
    rw [if_pos (Or.inr h0)]
  refine ⟨h.put hs nr ha ?_, by rw [p1, ec]; omega⟩
  rw [p5, if_neg q3, if_neg q4, ec, if_pos h0, if_neg q3]
  omega
theorem IQ.arm {s R : CS} {n a : Nat} (h : IQ s n) (hs : RSQ s R n) (nr : NR s n) (ha : R.r 51 n = some a) (h0 : R.o a 0 = 302) : IQ R (n + 1) ∧ WCS R (n + 1) = WCS s n + 9 := by
  obtain ⟨p1, p2, p3, p4, p5⟩ := hs.put nr ha
  have q1 : ¬ (R.o a 0 = 300 ∨ R.o a 0 = 301) := by rw [h0]; decide
  have q2 : ¬ R.o a 0 = 301 := by rw [h0]; decide
  have ec : cost R a = 9 := by
    unfold cost
    rw [if_neg q1, if_pos h0]
  refine ⟨h.put hs nr ha ?_, by rw [p1, ec]⟩
  rw [ec, if_neg q2, if_pos h0]
  have l := (cnt.le (KLS s n) 26).2
  have l2 := (cnt.le (KLS R (n + 1)) 26).1
  omega
/-- a label of one letter that is new -/
theorem IQ.label {s R : CS} {n a : Nat} (h : IQ s n) (hs : RSQ s R n) (nr : NR s n) (ha : R.r 51 n = some a) (h0 : R.o a 0 = 303 ∧ 97 ≤ (R.ol a).toInt ∧ (R.ol a).toInt ≤ 122) (hn : KLS s n ((R.ol a).toInt - 97).toNat = false) : IQ R (n + 1) ∧ WCS R (n + 1) = WCS s n + 2 := by
  obtain ⟨p1, p2, p3, p4, p5⟩ := hs.put nr ha
  have q1 : ¬ (R.o a 0 = 300 ∨ R.o a 0 = 301) := by rw [h0.1]; decide
  have q2 : ¬ R.o a 0 = 301 := by rw [h0.1]; decide
  have q3 : ¬ R.o a 0 = 302 := by rw [h0.1]; decide
  have ec : cost R a = 2 := by
    unfold cost
    rw [if_neg q1, if_neg q3, if_pos h0]
  refine ⟨h.put hs nr ha ?_, by rw [p1, ec]⟩
  have ev : ((((R.ol a).toInt - 97).toNat : Nat) : Int) = (R.ol a).toInt - 97 := Int.toNat_of_nonneg (by omega)
  have k : cnt (KLS R (n + 1)) 26 = cnt (KLS s n) 26 + 1 := by
    refine cnt.put (v := ((R.ol a).toInt - 97).toNat) hn ?_ (fun i hi => ?_) (by omega)
    · rw [p5, if_neg q3, if_pos h0]
      show (decide (((((R.ol a).toInt - 97).toNat : Nat) : Int) = (R.ol a).toInt - 97) || _) = true
      rw [decide_eq_true ev]; rfl
    · rw [p5, if_neg q3, if_pos h0]
      show (decide ((i : Int) = (R.ol a).toInt - 97) || KLS s n i) = KLS s n i
      rw [decide_eq_false (by omega)]; rfl
  rw [k, ec, if_neg q2, if_neg q3]
  omega
end
section
/-! the class's reading: the rows with one more, with one less -/
/-- code, targets, cases and names are the same -/
def SCD (s R : CS) : Prop := (R.a 15 = s.a 15 ∧ R.a 16 = s.a 16 ∧ R.a 17 = s.a 17 ∧ R.a 19 = s.a 19 ∧ R.a 49 = s.a 49) ∧ (R.i 20 = s.i 20 ∧ R.i 21 = s.i 21 ∧ R.i 50 = s.i 50 ∧ R.i 22 = s.i 22)
theorem GW.row {cD c c' : List Nat} {X : List (Nat × List Nat)} {P P' : List Nat} {lim lim' : List Int} {s R : CS} {a m : Nat} (h : GW cD c X P lim s) (hm : (m : Int) = cnI s) (m4 : m < 400) (hs : SCD s R) (hc : cnI R = (m : Int) + 1) (ha : R.r 51 m = some a) (hr : RSQ s R m) (hl : (c.length : Int) ≤ SGS s m + arx R a) (hR : ∀ (DT : Nat → List Nat) (KT : Nat → Prop), (∀ q ∈ X, (q.1 : Int) < tcI s ∧ DT q.1 = q.2 ∧ ¬ KT q.1) → (∀ n : Nat, (n : Int) < nmI s → NMT (s.a 49 n) c) → ROW1 R DT KT a c c' lim' lim) (hP : ∀ k ∈ P, k ∈ P' ∨ OWS R a k) (hN : ∀ x : Int32, NMT x c → NMT x c') (hi : lmh lim' ≤ ccI s) (h30 : (R.o a 3).toInt ≤ nmI s ∧ ∀ j b : Nat, (j : Int) < cnI s → s.r 51 j = some b → (s.o b 3).toInt ≤ (R.o a 3).toInt) : GW cD c' X P' lim' R := by
  obtain ⟨D, DT, KT, h1, h2, h3, h4, h5, ⟨n, n1, n2, n3⟩, h7, h8⟩ := h
  obtain ⟨⟨e1, e2, e3, e4, e5⟩, ⟨e6, e7, e8, e9⟩⟩ := hs
  have en : n = m := by omega
  rw [en] at n3
  have etc : tcI R = tcI s := by unfold tcI; rw [e7]
  have esz : szI R = szI s := by unfold szI; rw [e6]
  have enm : nmI R = nmI s := by unfold nmI; rw [e8]
  have ecc : ccI R = ccI s := by unfold ccI; rw [e9]
  have nr := n3.nr
  refine ⟨D, DT, KT, ?_, ?_, fun t q1 q2 q3 => ?_, by rw [esz]; exact h4, by rw [etc]; exact h5, ⟨m + 1, by omega, by omega, a, c, lim, ha, ?_, hR DT KT h5 h7, ?_⟩, fun k hk => ?_, by rw [etc]; exact h8.1, by rw [ecc]; exact hi, fun i b hi' e => ?_⟩
  · unfold CDT at *; rw [e1, e2, etc, esz]; exact h1
  · unfold TGS at *; rw [e3, etc, esz]; exact h2
  · rw [etc] at q1
    rw [e3] at q3
    rcases h3 t q1 q2 q3 with z | z
    · rcases hP t z with w | w
      · exact Or.inl w
      · exact Or.inr ⟨m, a, by omega, ha, w⟩
    · exact Or.inr (z.of (by omega) (fun i b hi' e => by
        have q := hr i (by omega)
        exact ⟨q.1.trans e, (q.2 b e).1⟩))
  · rw [(hr.sums nr).2.1]; exact hl
  · exact n3.mono (by omega) (fun _ _ => ⟨rfl, Iff.rfl⟩) (fun t _ q => by rw [e3]; exact q) hr (fun k _ => by rw [e4]) (fun _ _ _ _ k _ => by rw [e5]) nr
  · rw [enm] at hk
    rw [e5]
    exact hN _ (h7 k hk)
  · have old : ∀ j d : Nat, j < m → R.r 51 j = some d → s.r 51 j = some d ∧ R.o d = s.o d := fun j d hj ej => by
      have q := hr j hj
      have z := q.1.symm.trans ej
      exact ⟨z, (q.2 d z).1⟩
    rw [enm]
    by_cases ci : i = m
    · rw [ci, ha] at e
      cases e
      exact ⟨h30.1, fun j d y1 y2 _ => by omega⟩
    · have q := old i b (by omega) e
      have z := h8.2.2 i b (by omega) q.1
      rw [q.2]
      refine ⟨z.1, fun j d y1 y2 y3 => ?_⟩
      by_cases cj : j = m
      · rw [cj, ha] at y3
        cases y3
        exact h30.2 i b (by omega) q.1
      · have w := old j d (by omega) y3
        rw [w.2]
        exact z.2 j d y1 (by omega) w.1
/-- the last row goes: what it would aim is aimed, or in P' -/
theorem GW.pop {cD c : List Nat} {X : List (Nat × List Nat)} {P P' : List Nat} {lim : List Int} {s R : CS} {m : Nat} (h : GW cD c X P lim s) (hm : (m : Int) + 1 = cnI s) (hs : SCD s R) (hc : cnI R = (m : Int)) (hr : RSQ s R m) (hP : ∀ k ∈ P, k ∈ P') (hO : ∀ a k : Nat, s.r 51 m = some a → (k : Int) < tcI s → (s.a 17 k).toInt = -1 → OWS s a k → k ∈ P') (hN : ∀ (c0 : List Nat) (lim0 : List Int) (a : Nat), s.r 51 m = some a → (∃ (DT : Nat → List Nat) (KT : Nat → Prop), ROW1 s DT KT a c0 c lim lim0) → ∀ n : Nat, (n : Int) < nmI s → NMT (s.a 49 n) c → NMT (s.a 49 n) c0) : ∃ (a : Nat) (c0 : List Nat) (lim0 : List Int), s.r 51 m = some a ∧ (∃ (DT : Nat → List Nat) (KT : Nat → Prop), ROW1 s DT KT a c0 c lim lim0 ∧ (∀ q ∈ X, (q.1 : Int) < tcI s ∧ DT q.1 = q.2 ∧ ¬ KT q.1)) ∧ lmh lim0 ≤ lmh lim ∧ GW cD c0 X P' lim0 R := by
  obtain ⟨D, DT, KT, h1, h2, h3, h4, h5, ⟨n, n1, n2, n3⟩, h7, h8⟩ := h
  obtain ⟨⟨e1, e2, e3, e4, e5⟩, ⟨e6, e7, e8, e9⟩⟩ := hs
  have en : n = m + 1 := by omega
  rw [en] at n3
  obtain ⟨a, c0, lim0, r1, r2, r3, r4⟩ := n3
  have etc : tcI R = tcI s := by unfold tcI; rw [e7]
  have esz : szI R = szI s := by unfold szI; rw [e6]
  have enm : nmI R = nmI s := by unfold nmI; rw [e8]
  have ecc : ccI R = ccI s := by unfold ccI; rw [e9]
  have ll := r3.lim
  refine ⟨a, c0, lim0, r1, ⟨DT, KT, r3, h5⟩, ll, D, DT, KT, ?_, ?_, fun t q1 q2 q3 => ?_, by rw [esz]; exact h4, by rw [etc]; exact h5, ⟨m, by omega, by omega, ?_⟩, fun k hk => ?_, by rw [etc]; exact h8.1, by rw [ecc]; have := h8.2.1; omega, fun i b hi' e => ?_⟩
  · unfold CDT at *; rw [e1, e2, etc, esz]; exact h1
  · unfold TGS at *; rw [e3, etc, esz]; exact h2
  · rw [etc] at q1
    rw [e3] at q3
    rcases h3 t q1 q2 q3 with z | ⟨i, b, z1, z2, z3⟩
    · exact Or.inl (hP t z)
    · by_cases ei : i = m
      · rw [ei] at z2
        exact Or.inl (hO b t z2 q1 q3 z3)
      · have q := hr i (by omega)
        exact Or.inr ⟨i, b, by omega, q.1.trans z2, by unfold OWS at *; rw [(q.2 b z2).1]; exact z3⟩
  · exact r4.mono (by omega) (fun _ _ => ⟨rfl, Iff.rfl⟩) (fun t _ q => by rw [e3]; exact q) hr (fun k _ => by rw [e4]) (fun _ _ _ _ k _ => by rw [e5]) r4.nr
  · rw [enm] at hk
    rw [e5]
    exact hN c0 lim0 a r1 ⟨DT, KT, r3⟩ k hk (h7 k hk)
  · have old : ∀ j d : Nat, j < m → R.r 51 j = some d → s.r 51 j = some d ∧ R.o d = s.o d := fun j d hj ej => by
      have q := hr j hj
      have z := q.1.symm.trans ej
      exact ⟨z, (q.2 d z).1⟩
    have q := old i b (by omega) e
    have z := h8.2.2 i b (by omega) q.1
    rw [enm, q.2]
    refine ⟨z.1, fun j d y1 y2 y3 => ?_⟩
    have w := old j d (by omega) y3
    rw [w.2]
    exact z.2 j d y1 (by omega) w.1
end
section
/-! the class's reading: a plain row more -/
theorem q_pop6 (N : Nat) (s : CS) (h : 1 ≤ cnI s ∧ cnI s ≤ 400) : ok (f_X6_pop N s) (fun R => R.2 = CS.setI s 53 (s.i 53 - 1) ∧ (s.i 53 - 1).toInt = cnI s - 1) := by
  unfold f_X6_pop
  have e1 : (1 : Int32).toInt = 1 := by decide
  have h' : 1 ≤ (s.i 53).toInt ∧ (s.i 53).toInt ≤ 400 := h
  have e : (s.i 53 - 1).toInt = cnI s - 1 := by
    show _ = (s.i 53).toInt - 1
    rw [toInt_sub] <;> rw [e1] <;> omega
  refine ok_some ⟨?_, e⟩
  show CS.setI s 53 (if 0 < s.i 53 - 1 then s.i 53 - 1 else 0) = _
  by_cases c : 0 < s.i 53 - 1
  · rw [if_pos c]
  · rw [if_neg c]
    have l := le_int (Int32.not_lt.mp c)
    rw [z_t0] at l
    have : s.i 53 - 1 = 0 := Int32.toInt_inj.mp (by rw [z_t0]; omega)
    rw [this]
end
section
/-! the class's reading: code, rows and depth apart -/
def JK (H : HB) (x y : Int) (cD c d : List Nat) (X : List (Nat × List Nat)) (P : List Nat) (lim : List Int) (s : CS) : Prop := CBS H s ∧ (s.i 32 = 0 → GW cD c X P lim s ∧ NB x y d s)
theorem JJ.k {H : HB} {x y : Int} {c : List Nat} {X : List (Nat × List Nat)} {P : List Nat} {lim : List Int} {s : CS} (h : JJ H x y c X P lim s) : JK H x y c c c X P lim s := h
theorem JK.j {H : HB} {x y : Int} {c : List Nat} {X : List (Nat × List Nat)} {P : List Nat} {lim : List Int} {s : CS} (h : JK H x y c c c X P lim s) : JJ H x y c X P lim s := h
theorem JK.w {H : HB} {x y x' y' : Int} {cD c d : List Nat} {X : List (Nat × List Nat)} {P : List Nat} {lim : List Int} {s : CS} (h : JK H x y cD c d X P lim s) (hx : x ≤ x') (hy : y ≤ y') : JK H x' y' cD c d X P lim s := ⟨h.1, fun q => by
  obtain ⟨g, n⟩ := h.2 q
  refine ⟨g, ?_⟩
  unfold NB at *
  exact ⟨by omega, n.2.1, by omega, n.2.2.2⟩⟩
theorem JK.flt {H : HB} {x y : Int} {cD c d : List Nat} {X : List (Nat × List Nat)} {P : List Nat} {lim : List Int} {s R : CS} (h : CBS H s) (hf : FLD s R) : JK H x y cD c d X P lim R := ⟨hf.t9.cb h hf.2.2.1 (fun _ => hf.2.2.2.2) (fun q => absurd q hf.2.2.2.1), fun q => absurd q hf.2.2.2.1⟩
theorem JK.adv {H : HB} {x y x' y' : Int} {cD c d : List Nat} {X : List (Nat × List Nat)} {P : List Nat} {lim : List Int} {s R : CS} (h : JK H x y cD c d X P lim s) (ha : ADV s R) (hxy : s.i 32 = 0 → x + 100 * plI s ≤ x' + 100 * plI R ∧ y + eI s ≤ y' + eI R) : JK H x' y' cD c d X P lim R := by
  obtain ⟨h1, h2⟩ := h
  have t9 := ha.1.t9
  have e32 : R.i 32 = s.i 32 := ha.1.2 32 (by decide) (by decide) (by decide) (by decide)
  have cb := t9.cb h1 ha.2.1 (fun q => ha.2.2.2.2 (h1.2.2.2.2.1 (by rw [← e32]; exact q))) (fun q => e32.symm.trans q)
  refine ⟨cb, fun q => ?_⟩
  obtain ⟨g, n⟩ := h2 (e32.symm.trans q)
  have gn := ha.gain h1.2.2.1
  have e34 : sgI R = sgI s := by unfold sgI; rw [ha.1.2 34 (by decide) (by decide) (by decide) (by decide)]
  refine ⟨g.ck h1.1 t9.ck, t9.nb n h1.1 ⟨h1.2.2.2.2.2.2.1.1, h1.2.2.2.2.2.2.1.2.1⟩ h1.2.2.2.2.2.2.1.2.2 ?_ gn.1 (hxy (e32.symm.trans q)).1 (hxy (e32.symm.trans q)).2 (by rw [e34]; exact ⟨n.2.2.2.2.2.2.1, n.2.2.2.1⟩)⟩
  by_cases z : s.i 43 = 0
  · have z2 := ha.2.2.2.2 z
    have n1 : ¬ ALN (s.i 43) := fun y => by unfold ALN at y; rw [z, z_t0] at y; omega
    have n2 : ¬ ALN (R.i 43) := fun y => by unfold ALN at y; rw [z2, z_t0] at y; omega
    rw [eI.sg n1, eI.sg n2]
    have := gn.1
    omega
  · exact (gn.2.1 z).2
theorem JK.add {H : HB} {x y : Int} {cD c d c1 : List Nat} {X : List (Nat × List Nat)} {P : List Nat} {lim : List Int} {s R : CS} {o v : Int32} (h : JK H x y cD c d X P lim s) (ha : ADD s R o v) (hx : x ≤ 10000) (hy : y ≤ 100) (hl : s.i 32 = 0 → cD.length ≤ 21) (hI : s.i 32 = 0 → ∀ (DT : Nat → List Nat) (KT : Nat → Prop), (∀ q ∈ X, (q.1 : Int) < tcI s ∧ DT q.1 = q.2 ∧ ¬ KT q.1) → (∀ n : Nat, (n : Int) = cnI s → RCH s DT KT n c lim) → (∀ n : Nat, (n : Int) < nmI s → NMT (s.a 49 n) c) → IOK (tcI s) DT KT o v cD c1) : JK H (x + 1) y c1 c d X P lim R := by
  obtain ⟨h1, h2⟩ := h
  have sm := ha.smr
  obtain ⟨⟨b1, b2, b3, b4, b5, b6, b7, b8, b9, b10⟩, b11, b12, b13, b14, b15⟩ := (show ADD s R o v from ha)
  refine ⟨ha.cb h1, fun q => ?_⟩
  have q' : s.i 32 = 0 := (b11 32 (by decide)).symm.trans q
  obtain ⟨g, n⟩ := h2 q'
  have sz := n.sz h1.2.2.1 h1.2.2.2.2.2.2.1.1 hx hy
  refine ⟨g.add h1.1 ha (by omega) (hl q') (hI q'), n.of h1.2.2.2.2.2.2.1.1 h1.2.2.2.2.2.2.1.2.2 sm (by rw [b7]) b4 ⟨b11 43 (by decide), b11 44 (by decide)⟩ ?_ ?_⟩
  · obtain ⟨D, DT, KT, -, -, -, g4, -⟩ := g
    have e1 : (1 : Int32).toInt = 1 := by decide
    have g4' : 0 ≤ (s.i 20).toInt := g4.1
    have s0 : (s.i 20).toInt ≤ 200000 := sz.1
    have esz : szI R = szI s + 1 := by
      show (R.i 20).toInt = (s.i 20).toInt + 1
      rw [b12, toInt_add] <;> rw [e1] <;> omega
    omega
  · have : tcI R = tcI s := by unfold tcI; rw [b11 21 (by decide)]
    omega
theorem JK.new {H : HB} {x y : Int} {cD c d : List Nat} {X : List (Nat × List Nat)} {P : List Nat} {lim : List Int} {s R : CS} (h : JK H x y cD c d X P lim s) (hr : NTG s R) (hx : x ≤ 10000) (hy : y ≤ 100) (t : List Nat) : JK H x (y + 1) cD c d (((tcI s).toNat, t) :: X) ((tcI s).toNat :: P) lim R := by
  obtain ⟨h1, h2⟩ := h
  have sm := hr.smr
  obtain ⟨⟨b1, b2, b3, b4, b5, b6, b7, b8, b9, b10⟩, b11, b12, b13, b14⟩ := (show NTG s R from hr)
  refine ⟨hr.cb h1 (fun q => by
    have w := h2 q
    exact ⟨w.1.tc0.1, by have := (w.2.sz h1.2.2.1 h1.2.2.2.2.2.2.1.1 hx hy).2; omega⟩), fun q => ?_⟩
  have q' : s.i 32 = 0 := (b11 32 (by decide)).symm.trans q
  obtain ⟨g, n⟩ := h2 q'
  have sz := n.sz h1.2.2.1 h1.2.2.2.2.2.2.1.1 hx hy
  refine ⟨g.new hr (by omega) t, n.of h1.2.2.2.2.2.2.1.1 h1.2.2.2.2.2.2.1.2.2 sm (by rw [b7]) b4 ⟨b11 43 (by decide), b11 44 (by decide)⟩ ?_ ?_⟩
  · have : szI R = szI s := by unfold szI; rw [b11 20 (by decide)]
    omega
  · have e1 : (1 : Int32).toInt = 1 := by decide
    have t0 : 0 ≤ (s.i 21).toInt := g.tc0.1
    have t1 : (s.i 21).toInt ≤ 1010 := sz.2
    have : tcI R = tcI s + 1 := by
      show (R.i 21).toInt = (s.i 21).toInt + 1
      rw [b12, toInt_add] <;> rw [e1] <;> omega
    omega
/-- a target is aimed: what is known of it may stand in X or in a row -/
theorem JK.aim {H : HB} {x y : Int} {cD c d : List Nat} {X : List (Nat × List Nat)} {P P' : List Nat} {lim : List Int} {s R : CS} {t : Int32} (h : JK H x y cD c d X P lim s) (ha : AIM s R t) (hx : x ≤ 10000) (hy : y ≤ 100) (hT : s.i 32 = 0 → ∀ (DT : Nat → List Nat) (KT : Nat → Prop), (∀ q ∈ X, (q.1 : Int) < tcI s ∧ DT q.1 = q.2 ∧ ¬ KT q.1) → (∀ n : Nat, (n : Int) = cnI s → RCH s DT KT n c lim) → 0 ≤ t.toInt ∧ t.toInt < tcI s ∧ DT t.toInt.toNat = cD) (hP : s.i 32 = 0 → ∀ k ∈ P, k ∈ P' ∨ (k : Int) = t.toInt) : JK H x y cD c d X P' lim R := by
  obtain ⟨h1, h2⟩ := h
  have sm := ha.smr
  obtain ⟨⟨b1, b2, b3, b4, b5, b6, b7, b8, b9, b10⟩, b11, b13, b14⟩ := (show AIM s R t from ha)
  refine ⟨ha.cb h1 (fun q => (h2 q).1.tc0.2), fun q => ?_⟩
  have q' : s.i 32 = 0 := by rw [← b11]; exact q
  obtain ⟨g, n⟩ := h2 q'
  have sz := n.sz h1.2.2.1 h1.2.2.2.2.2.2.1.1 hx hy
  refine ⟨g.aim ha (by omega) (hT q') (hP q'), n.of h1.2.2.2.2.2.2.1.1 h1.2.2.2.2.2.2.1.2.2 sm (by rw [b7]) b4 ⟨by rw [b11], by rw [b11]⟩ ?_ ?_⟩
  · have : szI R = szI s := by unfold szI; rw [b11]
    omega
  · have : tcI R = tcI s := by unfold tcI; rw [b11]
    omega
/-- more is known of a target -/
theorem JK.ext {H : HB} {x y : Int} {cD c d : List Nat} {X : List (Nat × List Nat)} {P : List Nat} {lim : List Int} {s : CS} (h : JK H x y cD c d X P lim s) (t : Int32) (b : List Nat) (hT : s.i 32 = 0 → ∀ (DT : Nat → List Nat) (KT : Nat → Prop), (∀ q ∈ X, (q.1 : Int) < tcI s ∧ DT q.1 = q.2 ∧ ¬ KT q.1) → (∀ n : Nat, (n : Int) = cnI s → RCH s DT KT n c lim) → TTc (tcI s) DT KT t b) : JK H x y cD c d ((t.toInt.toNat, b) :: X) P lim s := by
  refine ⟨h.1, fun q => ⟨?_, (h.2 q).2⟩⟩
  obtain ⟨D, DT, KT, h1, h2, h3, h4, h5, ⟨n, n1, n2, n3⟩, h7⟩ := (h.2 q).1
  have tt := hT q DT KT h5 (fun m hm => by
    have e : m = n := by omega
    rw [e]; exact n3)
  refine ⟨D, DT, KT, h1, h2, h3, h4, fun p hp => ?_, ⟨n, n1, n2, n3⟩, h7⟩
  rcases List.mem_cons.mp hp with e | e
  · rw [e]
    obtain ⟨t1, t2, t3, t4⟩ := tt
    exact ⟨by show (t.toInt.toNat : Int) < tcI s; omega, t3, t4⟩
  · exact h5 p e
theorem JK.sub {H : HB} {x y : Int} {cD c d : List Nat} {X X' : List (Nat × List Nat)} {P : List Nat} {lim : List Int} {s : CS} (h : JK H x y cD c d X P lim s) (hX : ∀ q ∈ X', q ∈ X) : JK H x y cD c d X' P lim s := ⟨h.1, fun q => ⟨(h.2 q).1.sub hX, (h.2 q).2⟩⟩
theorem JK.perm {H : HB} {x y : Int} {cD c d : List Nat} {X : List (Nat × List Nat)} {P P' : List Nat} {lim : List Int} {s : CS} (h : JK H x y cD c d X P lim s) (hP : s.i 32 = 0 → ∀ k ∈ P, k ∈ P') : JK H x y cD c d X P' lim s := by
  refine ⟨h.1, fun q => ⟨?_, (h.2 q).2⟩⟩
  obtain ⟨D, DT, KT, h1, h2, h3, h4⟩ := (h.2 q).1
  refine ⟨D, DT, KT, h1, h2, fun t a1 a2 a3 => ?_, h4⟩
  rcases h3 t a1 a2 a3 with z | z
  · exact Or.inl (hP q t z)
  · exact Or.inr z
/-- signs -/
theorem JK.op {H : HB} {x y : Int} {cD c d : List Nat} {X : List (Nat × List Nat)} {P : List Nat} {lim : List Int} {s R : CS} {v : Int32} (h : JK H x y cD c d X P lim s) (hv : ¬ v = 0) (ho : FLD s R ∨ (s.i 43 = v ∧ s.i 34 < 20 ∧ ADV (CS.setI s 34 (s.i 34 + 1)) R)) : JK H (x - 100) y cD c d X P lim R ∧ (R.i 32 = 0 → MOV 1 s R) := by
  rcases ho with hf | ⟨h1, h2, h3⟩
  · exact ⟨JK.flt h.1 hf, fun q => absurd q hf.2.2.2.1⟩
  have t9 : TS9 s (CS.setI s 34 (s.i 34 + 1)) := (TS9.rf s).i34 _
  have yi : ∀ j : Nat, j ≠ 34 → (CS.setI s 34 (s.i 34 + 1)).i j = s.i j := fun j q => ci_ne _ _ _ q
  have y34 : (CS.setI s 34 (s.i 34 + 1)).i 34 = s.i 34 + 1 := ci_at _ _ _
  have lY : LC (CS.setI s 34 (s.i 34 + 1)) := h.1.2.2.1
  generalize CS.setI s 34 (s.i 34 + 1) = Y at *
  have plY : plI Y = plI s := by unfold plI; rw [yi 44 (by decide)]
  have eY : eI Y = eI s := by unfold eI; rw [plY, yi 43 (by decide)]
  have cY : CBS H Y := t9.cb h.1 lY (by rw [yi 32 (by decide), yi 43 (by decide)]; exact h.1.2.2.2.2.1) (fun q => (yi 32 (by decide)).symm.trans q)
  have jY : JK H x y cD c d X P lim Y := by
    refine ⟨cY, fun q => ?_⟩
    obtain ⟨g, n⟩ := h.2 ((yi 32 (by decide)).symm.trans q)
    have sg := i34_op n.2.2.2.1.1 h2
    have esg : sgI Y = sgI s + 1 := by unfold sgI; rw [y34]; exact sg.1
    refine ⟨g.ck h.1.1 t9.ck, t9.nb n h.1.1 ⟨h.1.2.2.2.2.2.2.1.1, h.1.2.2.2.2.2.2.1.2.1⟩ h.1.2.2.2.2.2.2.1.2.2 (by omega) (by omega) (by omega) (by omega) ⟨?_, ?_, ?_⟩⟩
    · have := n.2.2.2.2.2.2.1; omega
    · have := n.2.2.2.1.1; omega
    · omega
  have gn := h3.gain cY.2.2.1
  have n0 : ¬ Y.i 43 = 0 := by rw [yi 43 (by decide), h1]; exact hv
  have g1 := gn.2.1 n0
  refine ⟨jY.adv h3 (fun _ => by omega), fun q => ?_⟩
  have q' : s.i 32 = 0 := (yi 32 (by decide)).symm.trans (h3.f32.symm.trans q)
  obtain ⟨g, n⟩ := h.2 q'
  have sg := i34_op n.2.2.2.1.1 h2
  refine ⟨q', ⟨by omega, by omega⟩, ?_, t9.smx.tr h3.smr.x⟩
  have e : sgI R = sgI Y := by unfold sgI; rw [h3.smr.1.1]
  rw [e]
  unfold sgI
  rw [y34]
  exact sg.1
theorem JK.dn {H : HB} {x y : Int} {cD c d : List Nat} {X : List (Nat × List Nat)} {P : List Nat} {lim : List Int} {s : CS} (h : JK H x y cD c d X P lim s) (hs : s.i 32 = 0 → SGS s (cnI s).toNat ≤ sgI s - 1 ∧ 0 ≤ sgI s - 1) : JK H x y cD c d X P lim (CS.setI s 34 (s.i 34 - 1)) ∧ ((CS.setI s 34 (s.i 34 - 1)).i 32 = 0 → s.i 32 = 0 ∧ plI (CS.setI s 34 (s.i 34 - 1)) = plI s ∧ eI (CS.setI s 34 (s.i 34 - 1)) = eI s ∧ sgI (CS.setI s 34 (s.i 34 - 1)) = sgI s - 1 ∧ SMX s (CS.setI s 34 (s.i 34 - 1))) := by
  have t9 : TS9 s (CS.setI s 34 (s.i 34 - 1)) := (TS9.rf s).i34 _
  have yi : ∀ j : Nat, j ≠ 34 → (CS.setI s 34 (s.i 34 - 1)).i j = s.i j := fun j q => ci_ne _ _ _ q
  have y34 : (CS.setI s 34 (s.i 34 - 1)).i 34 = s.i 34 - 1 := ci_at _ _ _
  have lY : LC (CS.setI s 34 (s.i 34 - 1)) := h.1.2.2.1
  generalize CS.setI s 34 (s.i 34 - 1) = Y at *
  have plY : plI Y = plI s := by unfold plI; rw [yi 44 (by decide)]
  have eY : eI Y = eI s := by unfold eI; rw [plY, yi 43 (by decide)]
  have e1 : (1 : Int32).toInt = 1 := by decide
  have esg : s.i 32 = 0 → sgI Y = sgI s - 1 := fun q => by
    have q1 := (hs q).2
    have n := (h.2 q).2.2.2.2.1.2
    have q1 : 0 ≤ (s.i 34).toInt - 1 := q1
    have n : (s.i 34).toInt ≤ 20 := n
    show (Y.i 34).toInt = (s.i 34).toInt - 1
    rw [y34, toInt_sub] <;> rw [e1] <;> omega
  refine ⟨⟨t9.cb h.1 lY (by rw [yi 32 (by decide), yi 43 (by decide)]; exact h.1.2.2.2.2.1) (fun q => (yi 32 (by decide)).symm.trans q), fun q => ?_⟩, fun q => ?_⟩
  · have q' := (yi 32 (by decide)).symm.trans q
    obtain ⟨g, n⟩ := h.2 q'
    have e := esg q'
    have s2 := hs q'
    have n3 := n.2.2.2.1.2
    exact ⟨g.ck h.1.1 t9.ck, t9.nb n h.1.1 ⟨h.1.2.2.2.2.2.2.1.1, h.1.2.2.2.2.2.2.1.2.1⟩ h.1.2.2.2.2.2.2.1.2.2 (by omega) (by omega) (by omega) (by omega) ⟨by omega, by omega, by omega⟩⟩
  · have q' := (yi 32 (by decide)).symm.trans q
    exact ⟨q', plY, eY, esg q', t9.smx⟩
theorem q_clsK {N : Nat} {H : HB} (hN : 1000 ≤ N) {x y : Int} {cD c d : List Nat} {X : List (Nat × List Nat)} {P : List Nat} {lim : List Int} {s : CS} (h : JK H x y cD c d X P lim s) (hs : s.i 32 = 0 → SGS s (cnI s).toNat ≤ sgI s - 1 ∧ 0 ≤ sgI s - 1) (v : Int32) (hv : ¬ v = 0) : ok (f_X1_close N s v) (fun R => JK H (x - 100) y cD c d X P lim R.2 ∧ (R.2.i 32 = 0 → MOV (-1) s R.2)) := by
  unfold f_X1_close f_X1_close_22
  have fin : ∀ V : CS, JK H (x - 100) y cD c d X P lim V → (V.i 32 = 0 → EXR s V) → ok (some ((), CS.setI V 34 ((V.i 34) - 1))) (fun R => JK H (x - 100) y cD c d X P lim R.2 ∧ (R.2.i 32 = 0 → MOV (-1) s R.2)) := fun V hV he => by
    have d := hV.dn (fun q => by
      have ex := he q
      have z := hs ex.1
      have ecn : cnI V = cnI s := by unfold cnI; rw [ex.2.2.1.2.2.2.1]
      rw [ex.sg, ecn, (ex.2.2.2.1.sums h.1.2.2.2.2.2.2.1.2.2).2.1]
      exact z)
    refine ok_some ⟨d.1, fun q => ?_⟩
    obtain ⟨d1, d2, d3, d4, d5⟩ := d.2 q
    have ex := he d1
    exact ⟨ex.1, ⟨by rw [d2]; exact ex.2.1.1, by rw [d3]; exact ex.2.1.2⟩, by rw [d4, ex.sg]; omega, ex.2.2.x.tr d5⟩
  refine ok_bind (q_found s v) (fun p hp => ?_)
  obtain ⟨p1, p2⟩ := hp
  rw [p1]
  rcases p2 with ⟨q1, q2⟩ | ⟨q1, q2⟩
  · rw [if_pos q1]
    exact ok_bind (q_misp h.1) (fun q hq => fin q.2 (JK.flt h.1 hq) (fun z => absurd z hq.2.2.2.1))
  · rw [q1, if_neg (by decide)]
    refine ok_bind (q_advC hN h.1) (fun q hq => ?_)
    have gn := hq.gain h.1.2.2.1
    have g1 := gn.2.1 (by rw [q2]; exact hv)
    exact fin q.2 (h.adv hq (fun _ => by omega)) (fun z => ⟨hq.f32.symm.trans z, g1, hq.smr⟩)
end
