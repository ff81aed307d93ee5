/-! the class's tokens: one token -/
/-- so many letters and digits are taken -/
def TRI (s X : CS) (m : Nat) : Prop := TKC s X ∧ X.i 43 = s.i 43 ∧ X.i 44 = s.i 44 ∧ (X.i 42).toInt = (s.i 42).toInt + m ∧ (s.i 42).toInt + m ≤ (s.i 41).toInt ∧ (m = 0 → X.l = 0) ∧ (m = 1 → X.l = (BY s (s.i 42)).toInt64) ∧ (m = 2 → 0 ≤ X.l.toInt ∧ X.l.toInt < 65536) ∧ (m = 3 → X.l.toInt < 16777216)
theorem AB.r {s : CS} {x : Int32} (h : AB s x) : 48 ≤ (BY s x).toInt ∧ (BY s x).toInt ≤ 122 := by
  unfold AB isDg isLt at h; omega
theorem TRI.step {s X : CS} {m : Nat} {b : Int32} (h9 : (s.i 41).toInt ≤ 900) (h0 : 0 ≤ (s.i 42).toInt) (hf : AB s (s.i 42)) (h : TRI s X m) (hb : b = BY s (X.i 42)) (hab : AB s (X.i 42)) : TRI s (CS.setI (CS.setL X ((X.l <<< ((8 : Int32).toInt64 &&& 63)) ||| b.toInt64)) 42 ((X.i 42) + 1)) (m + 1) := by
  obtain ⟨a1, a2, a3, a4, a5, a6, a7, a8, a9⟩ := h
  have e1 : (1 : Int32).toInt = 1 := by decide
  have es : (X.i 42 + 1).toInt = (X.i 42).toInt + 1 := by rw [toInt_add] <;> rw [e1] <;> omega
  have rg := BY.dg (s := s) (x := X.i 42) hab
  refine ⟨(a1.l _).i 42 _ (by omega), ?_, ?_, ?_, by omega, fun q => by omega, fun q => ?_, fun q => ?_, fun q => ?_⟩
  · rw [ci_ne _ _ _ (by decide), ci_setL]; exact a2
  · rw [ci_ne _ _ _ (by decide), ci_setL]; exact a3
  · rw [ci_at, es, a4]; omega
  · have m0 : m = 0 := by omega
    rw [cl_setI]
    show (X.l <<< ((8 : Int32).toInt64 &&& 63)) ||| b.toInt64 = _
    rw [a6 m0]
    have ei : X.i 42 = s.i 42 := Int32.toInt_inj.mp (by rw [a4, m0]; omega)
    rw [hb, ei]
    have : (0 : Int64) <<< ((8 : Int32).toInt64 &&& 63) = 0 := by decide
    rw [this]
    exact Int64.zero_or
  · have m1 : m = 1 := by omega
    rw [cl_setI]
    show 0 ≤ ((X.l <<< ((8 : Int32).toInt64 &&& 63)) ||| b.toInt64).toInt ∧ ((X.l <<< ((8 : Int32).toInt64 &&& 63)) ||| b.toInt64).toInt < 65536
    rw [a7 m1, hb]
    have e6 : (65536 : Int64).toInt = 65536 := by decide
    have g := Int64.lt_iff_toInt_lt.mp (sh8_1 _ _ hf.r hab.r)
    rw [e6] at g
    have f := hf.r
    have ef : (BY s (s.i 42)).toInt64.toInt = (BY s (s.i 42)).toInt := Int32.toInt_toInt64 _
    exact ⟨(sh8_2 _ _ (by omega) hab.r).1, g⟩
  · have m2 : m = 2 := by omega
    rw [cl_setI]
    show ((X.l <<< ((8 : Int32).toInt64 &&& 63)) ||| b.toInt64).toInt < 16777216
    rw [hb]
    exact (sh8_2 _ _ (a8 m2) hab.r).2
/-- behind a token that is a row of letters and digits -/
def TOK9 (s R : CS) : Prop := TKC s R ∧ LC R ∧ R.i 44 = s.i 44 ∧ ¬ R.i 43 = 0
theorem q_tr79 {N : Nat} (hN : 1000 ≤ N) {s X : CS} {m : Nat} (hw : WDC s) (h9 : 0 ≤ (s.i 41).toInt ∧ (s.i 41).toInt ≤ 900) (h0 : 0 ≤ (s.i 42).toInt) (e44 : s.i 44 = s.i 42) (hl : isLt (BY s (s.i 42))) (h : TRI s X m) (hm : 1 ≤ m) (hx : ¬ AB s (X.i 42)) : ok (f_X9_takeRow_79 N X) (fun R => TOK9 s R.2) := by
  obtain ⟨a1, a2, a3, a4, a5, a6, a7, a8, a9⟩ := h
  have ez : (X.i 42 - X.i 44).toInt = (m : Int) := by
    rw [a3, e44, toInt_sub] <;> omega
  have e8 : (8 : Int32).toInt = 8 := by decide
  have fin : ∀ (Y : CS) (t : Int32), RTS X Y → (RTY X (X.i 42 - X.i 44) t ∨ t = 6) → TOK9 s (CS.setI Y 43 t) := fun Y t hY ht => by
    obtain ⟨y1, y2, y3, y4, y5⟩ := hY
    have tk : TKC s (CS.setI Y 43 t) := (a1.tr y1).i 43 t (by omega)
    have i41 : (CS.setI Y 43 t).i 41 = s.i 41 := tk.2 41 (by decide) (by decide) (by decide) (by decide)
    have i42 : (CS.setI Y 43 t).i 42 = X.i 42 := by rw [ci_ne _ _ _ (by decide)]; exact y3
    have i43 : (CS.setI Y 43 t).i 43 = t := ci_at _ _ _
    have i44 : (CS.setI Y 43 t).i 44 = s.i 42 := by rw [ci_ne _ _ _ (by decide), y5, a3, e44]
    have il : (CS.setI Y 43 t).l = X.l := by rw [cl_setI]; exact y2
    have by' : ∀ x : Int32, AB (CS.setI Y 43 t) x = AB s x := fun x => by unfold AB; rw [tk.by]
    have t0 : ¬ t = 0 := fun q => by
      rcases ht with (z | z | ⟨k, z1, z2, z3⟩) | z
      · rw [z] at q; exact absurd q (by decide)
      · rcases z.1 with y | y | y <;> rw [y] at q <;> exact absurd q (by decide)
      · rw [q, z_t0] at z2; omega
      · rw [z] at q; exact absurd q (by decide)
    have wl : ∀ k : Nat, k < 25 → X.b 40 k = X.l → 256 ≤ X.l ∧ (k = 18 ∨ k = 19 → 16777216 ≤ X.l) := fun k hk e => by
      have eb : X.b 40 = s.b 40 := by rw [a1.1.2.2.2.2.2.2.2.2.2.1]
      rw [← e, eb]
      exact ⟨hw.1 k hk, fun q => by
        rcases q with q | q
        · rw [q]; exact hw.2.1
        · rw [q]; exact hw.2.2⟩
    have l1 : m = 1 → X.l.toInt = (BY s (s.i 42)).toInt := fun q => by rw [a7 q]; exact Int32.toInt_toInt64 _
    have n1 : 256 ≤ X.l → 2 ≤ m := fun q => by
      by_cases c : m = 1
      · have := l1 c
        have q' := Int64.le_iff_toInt_le.mp q
        have e : (256 : Int64).toInt = 256 := by decide
        have := hl.2
        omega
      · omega
    generalize CS.setI Y 43 t = T at *
    refine ⟨tk, ⟨by rw [i41]; exact h9, ⟨by rw [i44]; exact h0, by rw [i44, i42]; omega, by rw [i42, i41]; omega⟩, fun q => absurd (i43.symm.trans q) t0, fun _ => by rw [i44, i42]; omega, ⟨fun _ => by rw [by', i44]; exact Or.inr hl, fun _ => by rw [by', i42]; exact hx⟩, fun q => ?_, fun q => ?_, fun q q2 => ?_, fun q => ?_⟩, by rw [i44]; exact e44.symm, fun q => t0 (i43.symm.trans q)⟩
    · rw [i43] at q
      rw [i44, i42]
      have m2 : 2 ≤ m := by
        rcases ht with (z | z | ⟨k, z1, z2, z3⟩) | z
        · have : (2 : Int32).toInt = 2 := by decide
          rw [z, this] at q; omega
        · rcases z.2 with y | y
          · have : (2 : Int32).toInt = 2 := by decide
            rw [y, this] at ez; omega
          · have : (3 : Int32).toInt = 3 := by decide
            rw [y, this] at ez; omega
        · exact n1 (wl k z1 z3).1
        · have : (6 : Int32).toInt = 6 := by decide
          rw [z, this] at q; omega
      omega
    · have q : t.toInt = 218 ∨ t.toInt = 219 := by
        rcases q with q | q
        · left; rw [← i43, q]; decide
        · right; rw [← i43, q]; decide
      rw [i44, i42]
      have m3 : 4 ≤ m := by
        rcases ht with (z | z | ⟨k, z1, z2, z3⟩) | z
        · rw [z] at q; exact absurd q (by decide)
        · rcases z.1 with y | y | y <;> rw [y] at q <;> exact absurd q (by decide)
        · have k18 : k = 18 ∨ k = 19 := by omega
          have w := wl k z1 z3
          have m2 := n1 w.1
          have g := Int64.le_iff_toInt_le.mp (w.2 k18)
          have e7 : (16777216 : Int64).toInt = 16777216 := by decide
          rw [e7] at g
          by_cases c : m = 2
          · have g2 := (a8 c).2
            omega
          · by_cases c3 : m = 3
            · have g2 := a9 c3
              omega
            · omega
        · rw [z] at q; exact absurd q (by decide)
      omega
    · rw [i44, i42] at q2
      rw [il, l1 (by omega)]
      exact hl
    · have q : t = 1 := i43.symm.trans q
      rcases ht with (z | z | ⟨k, z1, z2, z3⟩) | z
      · rw [z] at q; exact absurd q (by decide)
      · rcases z.1 with y | y | y <;> rw [y] at q <;> exact absurd q (by decide)
      · have : (1 : Int32).toInt = 1 := by decide
        rw [q, this] at z2; omega
      · rw [z] at q; exact absurd q (by decide)
  unfold f_X9_takeRow_79
  refine ok_ite (fun _ => ok_bind (q_rt hN _) (fun p hp => ok_some ?_)) (fun _ => ok_some ?_)
  · exact fin p.2 p.1 hp.1 (Or.inl hp.2)
  · exact fin X 6 (RTS.rf X) (Or.inr rfl)
theorem q_tr7 {N : Nat} (hN : 1000 ≤ N) {s : CS} (hw : WDC s) (h9 : 0 ≤ (s.i 41).toInt ∧ (s.i 41).toInt ≤ 900) (h0 : 0 ≤ (s.i 42).toInt) (e44 : s.i 44 = s.i 42) (hl : isLt (BY s (s.i 42))) : ∀ (n : Nat) (X : CS) (m : Nat) (x1 : Int32), TRI s X m → x1.toInt = (m : Int) → 900 - (m : Int) < n → ok (f_X9_takeRow_7 N n X x1) (fun R => TOK9 s R.2)
  | 0, X, m, x1, h, hx, hn => by
    have := h.2.2.2.2.1
    omega
  | n + 1, X, m, x1, h, hx, hn => by
    show ok (b_X9_takeRow_7 N (f_X9_takeRow_7 N n) X x1) _
    unfold b_X9_takeRow_7
    have e9 : (900 : Int32).toInt = 900 := by decide
    have e1 : (1 : Int32).toInt = 1 := by decide
    have tk := h.1
    have a4 := h.2.2.2.1
    have a5 := h.2.2.2.2.1
    have hf : AB s (s.i 42) := Or.inr hl
    have m1 : ¬ AB s (X.i 42) → 1 ≤ m := fun q => by
      by_cases c : m = 0
      · exfalso
        have : X.i 42 = s.i 42 := Int32.toInt_inj.mp (by rw [a4, c]; omega)
        rw [this] at q
        exact q hf
      · omega
    refine ok_ite (fun c => ?_) (fun c => ?_)
    · have := le_int c
      refine q_tr79 hN hw h9 h0 e44 hl h (by omega) (fun q => ?_)
      have := BY.dg q
      omega
    have l9 : x1.toInt < 900 := by
      have := lt_int (Int32.not_le.mp c)
      rw [e9] at this; exact this
    have es : (x1 + 1).toInt = x1.toInt + 1 := by rw [toInt_add] <;> rw [e1] <;> omega
    refine ok_bind (q_by _) (fun p7 h7 => ok_bind (q_dg _) (fun p11 h11 => ?_))
    rw [h7.1] at h11
    rw [h7.2, tk.by] at h11
    obtain ⟨d1, d2, d3⟩ := h11
    have nxt : ∀ (Y : CS) (b : Int32), Y = X → b = BY s (X.i 42) → AB s (X.i 42) → ok (f_X9_takeRow_7 N n (CS.setI (CS.setL Y ((Y.l <<< ((8 : Int32).toInt64 &&& 63)) ||| b.toInt64)) 42 ((Y.i 42) + 1)) (x1 + 1)) (fun R => TOK9 s R.2) := fun Y b hY hb hab => by
      rw [hY]
      exact q_tr7 hN hw h9 h0 e44 hl n _ (m + 1) (x1 + 1) (h.step h9.2 h0 hf hb hab) (by omega) (by omega)
    refine ok_ite (fun c11 => ?_) (fun c11 => ?_)
    · rw [d1]
      refine ok_bind (q_by _) (fun p20 h20 => ok_bind (q_lt _) (fun p24 h24 => ?_))
      rw [h20.1] at h24
      rw [h20.2, tk.by] at h24
      obtain ⟨g1, g2, g3⟩ := h24
      refine ok_ite (fun c24 => ?_) (fun c24 => ?_)
      · rw [g1]
        have na : ¬ AB s (X.i 42) := fun q => by
          rcases q with q | q
          · exact d3 c11 q
          · exact g3 c24 q
        exact q_tr79 hN hw h9 h0 e44 hl h (m1 na) na
      · rw [g1]
        refine ok_bind (q_by _) (fun p29 h29 => ?_)
        rw [h29.1]
        exact nxt X p29.1 rfl (by rw [h29.2, tk.by]) (Or.inr (g2 c24))
    · rw [d1]
      refine ok_bind (q_by _) (fun p16 h16 => ?_)
      rw [h16.1]
      exact nxt X p16.1 rfl (by rw [h16.2, tk.by]) (Or.inl (d2 c11))
theorem q_takeRow {N : Nat} (hN : 1000 ≤ N) {s : CS} (hw : WDC s) (h9 : 0 ≤ (s.i 41).toInt ∧ (s.i 41).toInt ≤ 900) (h0 : 0 ≤ (s.i 42).toInt) (e44 : s.i 44 = s.i 42) (hl : isLt (BY s (s.i 42))) : ok (f_X9_takeRow N s) (fun R => TOK9 s R.2) := by
  unfold f_X9_takeRow
  have rg := BY.dg (s := s) (x := s.i 42) (Or.inr hl)
  refine q_tr7 hN hw h9 h0 e44 hl N _ 0 0 ⟨(TKC.rf s).l 0, rfl, rfl, by show (s.i 42).toInt = _; omega, by omega, fun _ => rfl, fun q => by omega, fun q => by omega, fun q => by omega⟩ (by decide) (by omega)
/-- so many digits are taken -/
def TNI (s X : CS) (m : Nat) : Prop := TKC s X ∧ X.i 44 = s.i 44 ∧ (X.i 42).toInt = (s.i 42).toInt + m ∧ (s.i 42).toInt + m ≤ (s.i 41).toInt ∧ (m = 0 → X.i 45 = 0) ∧ (m = 1 → 0 ≤ (X.i 45).toInt ∧ (X.i 45).toInt ≤ 9)
theorem q_tn67 {N : Nat} {s X : CS} {m : Nat} (h9 : 0 ≤ (s.i 41).toInt ∧ (s.i 41).toInt ≤ 900) (h0 : 0 ≤ (s.i 42).toInt) (e44 : s.i 44 = s.i 42) (hl : isDg (BY s (s.i 42))) (h : TNI s X m) (hm : 1 ≤ m) : ok (f_X9_takeNumber_67 N X) (fun R => TOK9 s R.2) := by
  obtain ⟨a1, a3, a4, a5, a6, a7⟩ := h
  have fin : ∀ t : Int32, (t = 1 ∨ t = 6) → TOK9 s (CS.setI X 43 t) := fun t ht => by
    have tk : TKC s (CS.setI X 43 t) := a1.i 43 t (by omega)
    have i41 : (CS.setI X 43 t).i 41 = s.i 41 := tk.2 41 (by decide) (by decide) (by decide) (by decide)
    have i42 : (CS.setI X 43 t).i 42 = X.i 42 := ci_ne _ _ _ (by decide)
    have i43 : (CS.setI X 43 t).i 43 = t := ci_at _ _ _
    have i44 : (CS.setI X 43 t).i 44 = s.i 42 := by rw [ci_ne _ _ _ (by decide), a3, e44]
    have i45 : (CS.setI X 43 t).i 45 = X.i 45 := ci_ne _ _ _ (by decide)
    have by' : ∀ x : Int32, AB (CS.setI X 43 t) x = AB s x := fun x => by unfold AB; rw [tk.by]
    have t1 : (1 : Int32).toInt = 1 := by decide
    have t6 : (6 : Int32).toInt = 6 := by decide
    have tt : t.toInt = 1 ∨ t.toInt = 6 := by
      rcases ht with q | q
      · left; rw [q, t1]
      · right; rw [q, t6]
    have t0 : ¬ t = 0 := fun q => by rw [q, z_t0] at tt; omega
    generalize CS.setI X 43 t = T at *
    refine ⟨tk, ⟨by rw [i41]; exact h9, ⟨by rw [i44]; exact h0, by rw [i44, i42]; omega, by rw [i42, i41]; omega⟩, fun q => absurd (i43.symm.trans q) t0, fun _ => by rw [i44, i42]; omega, ⟨fun _ => by rw [by', i44]; exact Or.inl hl, fun q => ?_⟩, fun q => ?_, fun q => ?_, fun q => ?_, fun _ q2 => ?_⟩, by rw [i44]; exact e44.symm, fun q => t0 (i43.symm.trans q)⟩
    · unfold ALW at q; rw [i43] at q; omega
    · rw [i43] at q; omega
    · rw [i43] at q
      rcases ht with z | z <;> rw [z] at q <;> exact absurd q (by decide)
    · have q : t = 2 := i43.symm.trans q
      rcases ht with z | z <;> rw [z] at q <;> exact absurd q (by decide)
    · rw [i44, i42] at q2
      rw [i45]
      exact a7 (by omega)
  unfold f_X9_takeNumber_67
  exact ok_ite (fun _ => ok_some (fin 1 (Or.inl rfl))) (fun _ => ok_some (fin 6 (Or.inr rfl)))
theorem q_tn7 {N : Nat} {s : CS} (h9 : 0 ≤ (s.i 41).toInt ∧ (s.i 41).toInt ≤ 900) (h0 : 0 ≤ (s.i 42).toInt) (e44 : s.i 44 = s.i 42) (hl : isDg (BY s (s.i 42))) : ∀ (n : Nat) (X : CS) (m : Nat) (x1 : Int32), TNI s X m → x1.toInt = (m : Int) → 900 - (m : Int) < n → ok (f_X9_takeNumber_7 N n X x1) (fun R => TOK9 s R.2)
  | 0, X, m, x1, h, hx, hn => by
    have := h.2.2.2.1
    omega
  | n + 1, X, m, x1, h, hx, hn => by
    show ok (b_X9_takeNumber_7 N (f_X9_takeNumber_7 N n) X x1) _
    unfold b_X9_takeNumber_7
    have e9 : (900 : Int32).toInt = 900 := by decide
    have e1 : (1 : Int32).toInt = 1 := by decide
    have tk := h.1
    have a4 := h.2.2.1
    have a5 := h.2.2.2.1
    refine ok_ite (fun c => ?_) (fun c => ?_)
    · have := le_int c
      exact q_tn67 h9 h0 e44 hl h (by omega)
    have l9 : x1.toInt < 900 := by
      have := lt_int (Int32.not_le.mp c)
      rw [e9] at this; exact this
    have es : (x1 + 1).toInt = x1.toInt + 1 := by rw [toInt_add] <;> rw [e1] <;> omega
    refine ok_bind (q_by _) (fun p3 h3 => ok_bind (q_dg _) (fun p7 h7 => ?_))
    rw [h3.1] at h7
    rw [h3.2, tk.by] at h7
    obtain ⟨d1, d2, d3⟩ := h7
    refine ok_ite (fun c7 => ?_) (fun c7 => ?_)
    · rw [d1]
      refine q_tn67 h9 h0 e44 hl h ?_
      by_cases q : m = 0
      · exfalso
        have : X.i 42 = s.i 42 := Int32.toInt_inj.mp (by rw [a4, q]; omega)
        rw [this] at d3
        exact d3 c7 hl
      · omega
    · rw [d1]
      refine ok_bind (q_by _) (fun p12 h12 => ?_)
      rw [h12.1]
      have dg := d2 c7
      have rg := BY.dg (s := s) (x := X.i 42) (Or.inl dg)
      have es2 : (X.i 42 + 1).toInt = (X.i 42).toInt + 1 := by rw [toInt_add] <;> rw [e1] <;> omega
      refine q_tn7 h9 h0 e44 hl n _ (m + 1) (x1 + 1) ⟨(tk.i 45 _ (by omega)).i 42 _ (by omega), ?_, ?_, by omega, fun q => by omega, fun q => ?_⟩ (by omega) (by omega)
      · rw [ci_ne _ _ _ (by decide), ci_ne _ _ _ (by decide)]; exact h.2.1
      · rw [ci_at, es2, a4]; omega
      · have m0 : m = 0 := by omega
        rw [ci_ne _ _ _ (by decide), ci_at, h.2.2.2.2.1 m0, h12.2, tk.by]
        have ez : (0 : Int32) * 10 = 0 := by decide
        rw [ez]
        have e48 : (48 : Int32).toInt = 48 := by decide
        have ea : ((0 : Int32) + BY s (X.i 42)) = BY s (X.i 42) := Int32.zero_add _
        rw [ea, toInt_sub] <;> rw [e48] <;> have := dg.1 <;> have := dg.2 <;> omega
theorem q_takeNumber {N : Nat} (hN : 1000 ≤ N) {s : CS} (h9 : 0 ≤ (s.i 41).toInt ∧ (s.i 41).toInt ≤ 900) (h0 : 0 ≤ (s.i 42).toInt) (e44 : s.i 44 = s.i 42) (hl : isDg (BY s (s.i 42))) : ok (f_X9_takeNumber N s) (fun R => TOK9 s R.2) := by
  unfold f_X9_takeNumber
  have rg := BY.dg (s := s) (x := s.i 42) (Or.inl hl)
  refine q_tn7 h9 h0 e44 hl N _ 0 0 ⟨(TKC.rf s).i 45 0 (by omega), ci_ne _ _ _ (by decide), by rw [ci_ne _ _ _ (by decide)]; omega, by omega, fun _ => ci_at _ _ _, fun q => by omega⟩ (by decide) (by omega)
/-- a sign: its type is no row's and no number's -/
theorem q_longSign {N : Nat} {s : CS} (x y : Int32) : ok (f_X9_longSign N s x y) (fun R => R.2 = s ∧ (R.1 = 6 ∨ ((128 ≤ R.1.toInt ∧ R.1.toInt ≤ 135) ∧ ¬ y = -1))) := by
  unfold f_X9_longSign f_X9_longSign_73
  have six : ok (some ((6 : Int32), s)) (fun R => R.2 = s ∧ (R.1 = 6 ∨ ((128 ≤ R.1.toInt ∧ R.1.toInt ≤ 135) ∧ ¬ y = -1))) := ok_some ⟨rfl, Or.inl rfl⟩
  have big : ∀ t : Int32, (128 ≤ t.toInt ∧ t.toInt ≤ 135) → ¬ y = -1 → ok (some (t, s)) (fun R => R.2 = s ∧ (R.1 = 6 ∨ ((128 ≤ R.1.toInt ∧ R.1.toInt ≤ 135) ∧ ¬ y = -1))) := fun t q1 q2 => ok_some ⟨rfl, Or.inr ⟨q1, q2⟩⟩
  have l73 : ok (if x = y then (if x = 38 then some ((132 : Int32), s) else (if x = 124 then some (133, s) else (if x = 43 then some (135, s) else some (6, s)))) else some (6, s)) (fun R => R.2 = s ∧ (R.1 = 6 ∨ ((128 ≤ R.1.toInt ∧ R.1.toInt ≤ 135) ∧ ¬ y = -1))) := ok_ite (fun e => ok_ite (fun c => big 132 (by decide) (fun q => by rw [← e, c] at q; exact absurd q (by decide))) (fun _ => ok_ite (fun c => big 133 (by decide) (fun q => by rw [← e, c] at q; exact absurd q (by decide))) (fun _ => ok_ite (fun c => big 135 (by decide) (fun q => by rw [← e, c] at q; exact absurd q (by decide))) (fun _ => six)))) (fun _ => six)
  exact ok_ite (fun e => ok_ite (fun _ => big 128 (by decide) (fun q => by rw [e] at q; exact absurd q (by decide))) (fun _ => ok_ite (fun _ => big 129 (by decide) (fun q => by rw [e] at q; exact absurd q (by decide))) (fun _ => ok_ite (fun _ => big 130 (by decide) (fun q => by rw [e] at q; exact absurd q (by decide))) (fun _ => ok_ite (fun _ => big 131 (by decide) (fun q => by rw [e] at q; exact absurd q (by decide))) (fun _ => six))))) (fun _ => ok_ite (fun _ => ok_ite (fun e => big 134 (by decide) (fun q => by rw [e] at q; exact absurd q (by decide))) (fun _ => l73)) (fun _ => l73))
theorem q_isSign {N : Nat} {s : CS} (x : Int32) : ok (f_X9_isSign N s x) (fun R => R.2 = s ∧ (¬ R.1 = 0 → 33 ≤ x.toInt ∧ x.toInt ≤ 125)) := by
  unfold f_X9_isSign
  have one : ∀ v : Int32, x = v → (33 ≤ v.toInt ∧ v.toInt ≤ 125) → ok (some ((1 : Int32), s)) (fun R => R.2 = s ∧ (¬ R.1 = 0 → 33 ≤ x.toInt ∧ x.toInt ≤ 125)) := fun v e h => ok_some ⟨rfl, fun _ => by rw [e]; exact h⟩
  exact ok_ite (fun e => one _ e (by decide)) (fun _ => ok_ite (fun e => one _ e (by decide)) (fun _ => ok_ite (fun e => one _ e (by decide)) (fun _ => ok_ite (fun e => one _ e (by decide)) (fun _ => ok_ite (fun e => one _ e (by decide)) (fun _ => ok_ite (fun e => one _ e (by decide)) (fun _ => ok_ite (fun e => one _ e (by decide)) (fun _ => ok_ite (fun e => one _ e (by decide)) (fun _ => ok_ite (fun e => one _ e (by decide)) (fun _ => ok_ite (fun e => one _ e (by decide)) (fun _ => ok_ite (fun e => one _ e (by decide)) (fun _ => ok_ite (fun e => one _ e (by decide)) (fun _ => ok_ite (fun e => one _ e (by decide)) (fun _ => ok_ite (fun e => one _ e (by decide)) (fun _ => ok_ite (fun e => one _ e (by decide)) (fun _ => ok_ite (fun e => one _ e (by decide)) (fun _ => ok_ite (fun e => one _ e (by decide)) (fun _ => ok_ite (fun e => one _ e (by decide)) (fun _ => ok_ite (fun e => one _ e (by decide)) (fun _ => ok_some ⟨rfl, fun q => absurd rfl q⟩)))))))))))))))))))
