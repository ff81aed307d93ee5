/-! the class's tokens -/
/-- the byte there; -1 behind the end -/
def BY (s : CS) (x : Int32) : Int32 := if ib x 900 ∧ x < s.i 41 then s.a 0 x.toNatClampNeg else -1
def isDg (b : Int32) : Prop := 48 ≤ b.toInt ∧ b.toInt ≤ 57
def isLt (b : Int32) : Prop := 97 ≤ b.toInt ∧ b.toInt ≤ 122
/-- only the tokens' numbers change -/
def TKC (s R : CS) : Prop := (R.hs = s.hs ∧ R.L = s.L ∧ R.k = s.k ∧ R.o = s.o ∧ R.ol = s.ol ∧ R.ot = s.ot ∧ R.oa = s.oa ∧ R.r = s.r ∧ R.w = s.w ∧ R.b = s.b ∧ R.a = s.a) ∧ (∀ j : Nat, j ≠ 42 → j ≠ 43 → j ≠ 44 → j ≠ 45 → R.i j = s.i j)
theorem TKC.rf (s : CS) : TKC s s := ⟨⟨rfl, rfl, rfl, rfl, rfl, rfl, rfl, rfl, rfl, rfl, rfl⟩, fun _ _ _ _ _ => rfl⟩
theorem TKC.tr {s R T : CS} (h : TKC s R) (g : TKC R T) : TKC s T := by
  obtain ⟨⟨a1, a2, a3, a4, a5, a6, a7, a8, a9, a10, a11⟩, b⟩ := h
  obtain ⟨⟨c1, c2, c3, c4, c5, c6, c7, c8, c9, c10, c11⟩, d⟩ := g
  exact ⟨⟨c1.trans a1, c2.trans a2, c3.trans a3, c4.trans a4, c5.trans a5, c6.trans a6, c7.trans a7, c8.trans a8, c9.trans a9, c10.trans a10, c11.trans a11⟩, fun j q1 q2 q3 q4 => (d j q1 q2 q3 q4).trans (b j q1 q2 q3 q4)⟩
theorem TKC.i {s R : CS} (h : TKC s R) (k : Nat) (v : Int32) (hk : k = 42 ∨ k = 43 ∨ k = 44 ∨ k = 45) : TKC s (CS.setI R k v) := ⟨h.1, fun j q1 q2 q3 q4 => (if_neg (by omega)).trans (h.2 j q1 q2 q3 q4)⟩
theorem TKC.l {s R : CS} (h : TKC s R) (v : Int64) : TKC s (CS.setL R v) := ⟨h.1, h.2⟩
theorem TKC.by {s R : CS} (h : TKC s R) (x : Int32) : BY R x = BY s x := by unfold BY; rw [h.1.2.2.2.2.2.2.2.2.2.2, h.2 41 (by decide) (by decide) (by decide) (by decide)]
theorem q_by {N : Nat} {s : CS} (x : Int32) : ok (f_X9_byteAt N s x) (fun R => R.2 = s ∧ R.1 = BY s x) := by
  unfold f_X9_byteAt f_X9_byteAt_30 BY
  have e9 : (900 : Int32).toInt = 900 := by decide
  refine ok_ite (fun c => ok_some ⟨rfl, ?_⟩) (fun c => ok_ite (fun c2 => ok_some ⟨rfl, ?_⟩) (fun c2 => ok_ite (fun c3 => ok_some ⟨rfl, ?_⟩) (fun c3 => ?_)))
  · rw [if_neg (fun q => by have := lt_int c; rw [z_t0] at this; have := q.1.1; omega)]
  · rw [if_neg (fun q => by have := le_int c2; have := lt_int q.2; omega)]
  · rw [if_neg (fun q => by have := le_int c3; have := q.1.2; omega)]
  · have h0 : 0 ≤ x.toInt := by have := le_int (Int32.not_lt.mp c); rw [z_t0] at this; exact this
    have h9 : x.toInt < 900 := by have := lt_int (Int32.not_le.mp c3); rw [e9] at this; exact this
    have hib : ib x 900 := ⟨h0, by omega⟩
    rw [if_pos hib]
    refine ok_some ⟨rfl, ?_⟩
    rw [if_pos ⟨hib, Int32.not_le.mp c2⟩]
theorem q_dg {N : Nat} {s : CS} (x : Int32) : ok (f_X9_isDigit N s x) (fun R => R.2 = s ∧ (¬ R.1 = 0 → isDg x) ∧ (R.1 = 0 → ¬ isDg x)) := by
  unfold f_X9_isDigit f_X9_isDigit_16
  have e1 : (48 : Int32).toInt = 48 := by decide
  have e2 : (57 : Int32).toInt = 57 := by decide
  refine ok_ite (fun c => ok_some ⟨rfl, fun q => absurd rfl q, fun _ q => ?_⟩) (fun c => ok_ite (fun c2 => ok_some ⟨rfl, fun q => absurd rfl q, fun _ q => ?_⟩) (fun c2 => ok_some ⟨rfl, fun _ => ?_, fun q => absurd (show (1 : Int32) = 0 from q) (by decide)⟩))
  · have := lt_int c; have := q.1; omega
  · have := lt_int c2; have := q.2; omega
  · have h1 := le_int (Int32.not_lt.mp c)
    have h2 := le_int (Int32.not_lt.mp c2)
    exact ⟨by omega, by omega⟩
theorem q_lt {N : Nat} {s : CS} (x : Int32) : ok (f_X9_isLetter N s x) (fun R => R.2 = s ∧ (¬ R.1 = 0 → isLt x) ∧ (R.1 = 0 → ¬ isLt x)) := by
  unfold f_X9_isLetter f_X9_isLetter_16
  have e1 : (97 : Int32).toInt = 97 := by decide
  have e2 : (122 : Int32).toInt = 122 := by decide
  refine ok_ite (fun c => ok_some ⟨rfl, fun q => absurd rfl q, fun _ q => ?_⟩) (fun c => ok_ite (fun c2 => ok_some ⟨rfl, fun q => absurd rfl q, fun _ q => ?_⟩) (fun c2 => ok_some ⟨rfl, fun _ => ?_, fun q => absurd (show (1 : Int32) = 0 from q) (by decide)⟩))
  · have := lt_int c; have := q.1; omega
  · have := lt_int c2; have := q.2; omega
  · have h1 := le_int (Int32.not_lt.mp c)
    have h2 := le_int (Int32.not_lt.mp c2)
    exact ⟨by omega, by omega⟩
theorem BY.in {s : CS} {x : Int32} (h : ¬ BY s x = -1) : 0 ≤ x.toInt ∧ x.toInt < 900 ∧ x.toInt < (s.i 41).toInt := by
  unfold BY at h
  by_cases c : ib x 900 ∧ x < s.i 41
  · exact ⟨c.1.1, by have := c.1.2; omega, lt_int c.2⟩
  · rw [if_neg c] at h; exact absurd rfl h
theorem BY.dg {s : CS} {x : Int32} (h : isDg (BY s x) ∨ isLt (BY s x)) : 0 ≤ x.toInt ∧ x.toInt < 900 ∧ x.toInt < (s.i 41).toInt := BY.in (fun e => by
  have e1 : (-1 : Int32).toInt = -1 := by decide
  rw [e] at h
  unfold isDg isLt at h
  rw [e1] at h
  omega)
/-- the shift of one more byte -/
theorem sh8_0 (b : Int32) (h : 0 ≤ b.toInt ∧ b.toInt < 256) : (((0 : Int64) <<< ((8 : Int32).toInt64 &&& 63)) ||| b.toInt64).toInt = b.toInt := by
  have e : ((0 : Int64) <<< ((8 : Int32).toInt64 &&& 63)) ||| b.toInt64 = b.toInt64 := by
    have : (0 : Int64) <<< ((8 : Int32).toInt64 &&& 63) = 0 := by decide
    rw [this]
    exact Int64.zero_or
  rw [e]
  exact Int32.toInt_toInt64 b
theorem sh8_k : ∀ i : Nat, i < 75 → ∀ j : Nat, j < 75 → ((Int64.ofNat (48 + i) <<< ((8 : Int32).toInt64 &&& 63)) ||| Int64.ofNat (48 + j)) < 65536 := by decide +kernel
theorem i64_nat {b : Int32} (h : 48 ≤ b.toInt ∧ b.toInt ≤ 122) : ∃ i : Nat, i < 75 ∧ b.toInt64 = Int64.ofNat (48 + i) := by
  refine ⟨(b.toInt - 48).toNat, by omega, ?_⟩
  refine Int64.toInt_inj.mp ?_
  rw [Int32.toInt_toInt64]
  have : ((Int64.ofNat (48 + (b.toInt - 48).toNat)).toInt : Int) = ((48 + (b.toInt - 48).toNat : Nat) : Int) := by
    rw [Int64.toInt_ofNat_of_lt (by omega)]
  omega
theorem sh8_1 (a b : Int32) (ha : 48 ≤ a.toInt ∧ a.toInt ≤ 122) (hb : 48 ≤ b.toInt ∧ b.toInt ≤ 122) : ((a.toInt64 <<< ((8 : Int32).toInt64 &&& 63)) ||| b.toInt64) < 65536 := by
  obtain ⟨i, i1, i2⟩ := i64_nat ha
  obtain ⟨j, j1, j2⟩ := i64_nat hb
  rw [i2, j2]
  exact sh8_k i i1 j j1
theorem sh8_2 (l : Int64) (b : Int32) (hl : 0 ≤ l.toInt ∧ l.toInt < 65536) (hb : 48 ≤ b.toInt ∧ b.toInt ≤ 122) : 0 ≤ ((l <<< ((8 : Int32).toInt64 &&& 63)) ||| b.toInt64).toInt ∧ ((l <<< ((8 : Int32).toInt64 &&& 63)) ||| b.toInt64).toInt < 16777216 := by
  have e8 : ((8 : Int32).toInt64 &&& 63) = 8 := by decide
  rw [e8]
  have nn : ∀ x : Int64, 0 ≤ x.toInt → (x.toBitVec.toNat : Int) = x.toInt := fun x hx => by
    have h1 : x.toInt = x.toBitVec.toInt := rfl
    have h2 := BitVec.toInt_eq_toNat_cond x.toBitVec
    have h3 := x.toBitVec.isLt
    rw [h1] at hx ⊢
    rw [h2] at hx ⊢
    by_cases c : 2 * x.toBitVec.toNat < 2 ^ 64
    · rw [if_pos c]
    · rw [if_neg c] at hx; omega
  have bn : ∀ x : Int64, x.toBitVec.toNat < 2 ^ 24 → 0 ≤ x.toInt ∧ x.toInt < 16777216 := fun x hx => by
    have h1 : x.toInt = x.toBitVec.toInt := rfl
    have h2 := BitVec.toInt_eq_toNat_cond x.toBitVec
    rw [h1, h2, if_pos (by omega)]
    omega
  have l1 := nn l hl.1
  have eb : b.toInt64.toInt = b.toInt := Int32.toInt_toInt64 _
  have b1 := nn b.toInt64 (by omega)
  refine bn _ ?_
  rw [Int64.toBitVec_or, BitVec.toNat_or]
  refine Nat.or_lt_two_pow ?_ (by omega)
  rw [Int64.toBitVec_shiftLeft]
  have e : ((8 : Int64).toBitVec.smod 64) = 8#64 := by decide
  rw [e]
  show (l.toBitVec <<< 8#64).toNat < 2 ^ 24
  rw [BitVec.shiftLeft_eq', BitVec.toNat_shiftLeft]
  have e2 : (8#64).toNat = 8 := by decide
  rw [e2, Nat.shiftLeft_eq]
  have := Nat.mod_le (l.toBitVec.toNat * 2 ^ 8) (2 ^ 64)
  omega
theorem lg_eq {x y : Int64} (h : lg_cmp x y = 0) : x = y := by
  unfold lg_cmp at h
  by_cases c : x > y
  · rw [if_pos c] at h; exact absurd h (by decide)
  · rw [if_neg c] at h
    by_cases d : x = y
    · exact d
    · rw [if_neg d] at h; exact absurd h (by decide)
/-- what a row of letters and digits is -/
def RTY (s : CS) (z t : Int32) : Prop := t = 2 ∨ ((t = 3 ∨ t = 4 ∨ t = 5) ∧ (z = 2 ∨ z = 3)) ∨ ∃ k : Nat, k < 25 ∧ t.toInt = 200 + (k : Int) ∧ s.b 40 k = s.l
def RTS (s R : CS) : Prop := TKC s R ∧ R.l = s.l ∧ R.i 42 = s.i 42 ∧ R.i 43 = s.i 43 ∧ R.i 44 = s.i 44
theorem RTS.rf (s : CS) : RTS s s := ⟨TKC.rf s, rfl, rfl, rfl, rfl⟩
theorem q_rt171 {N : Nat} {s X : CS} {z : Int32} {x6 : Int64} (hX : RTS s X) (hz : z = 2 ∨ z = 3) : ok (f_X9_rowType_171 N X x6) (fun R => RTS s R.2 ∧ RTY s z R.1) := by
  unfold f_X9_rowType_171
  have t2 : RTY s z 2 := Or.inl rfl
  have t3 : ∀ t : Int32, (t = 3 ∨ t = 4 ∨ t = 5) → RTY s z t := fun t q => Or.inr (Or.inl ⟨q, hz⟩)
  exact ok_ite (fun _ => ok_ite (fun _ => ok_some ⟨hX, t2⟩) (fun _ => ok_some ⟨hX, t3 5 (Or.inr (Or.inr rfl))⟩)) (fun _ => ok_ite (fun _ => ok_ite (fun _ => ok_some ⟨hX, t3 3 (Or.inl rfl)⟩) (fun _ => ok_ite (fun _ => ok_some ⟨hX, t3 4 (Or.inr (Or.inl rfl))⟩) (fun _ => ok_some ⟨hX, t2⟩))) (fun _ => ok_some ⟨hX, t2⟩))
theorem q_rt129 {N : Nat} {s : CS} {z x4 : Int32} {x2 : Int64} (hz : z = 2 ∨ z = 3) : ok (f_X9_rowType_129 N s x2 x4) (fun R => RTS s R.2 ∧ RTY s z R.1) := by
  have st : ∀ v : Int32, RTS s (CS.setI s 45 v) := fun v => ⟨(TKC.rf s).i 45 v (by omega), rfl, ci_ne _ _ _ (by decide), ci_ne _ _ _ (by decide), ci_ne _ _ _ (by decide)⟩
  have r153 : ∀ x6 : Int64, ok (f_X9_rowType_153 N s x2 x4 x6) (fun R => RTS s R.2 ∧ RTY s z R.1) := fun x6 => by
    unfold f_X9_rowType_153
    exact ok_ite (fun _ => q_rt171 (st _) hz) (fun _ => q_rt171 (st _) hz)
  unfold f_X9_rowType_129
  exact ok_ite (fun _ => r153 _) (fun _ => r153 _)
theorem q_rt73 {N : Nat} {s : CS} {z x4 : Int32} {x2 : Int64} (h4 : ¬ x4 = 0 → z = 2 ∨ z = 3) : ok (f_X9_rowType_73 N s z x2 x4) (fun R => RTS s R.2 ∧ RTY s z R.1) := by
  have r117 : ∀ x5 : Int32, (¬ x5 = 0 → z = 2 ∨ z = 3) → ok (f_X9_rowType_117 N s x2 x4 x5) (fun R => RTS s R.2 ∧ RTY s z R.1) := fun x5 h5 => by
    unfold f_X9_rowType_117
    exact ok_ite (fun _ => ok_ite (fun _ => ok_some ⟨RTS.rf s, Or.inl rfl⟩) (fun c => q_rt129 (h5 c))) (fun c => q_rt129 (h4 c))
  have r114 : ok (f_X9_rowType_114 N s x2 x4) (fun R => RTS s R.2 ∧ RTY s z R.1) := by
    unfold f_X9_rowType_114
    exact r117 0 (fun q => absurd rfl q)
  unfold f_X9_rowType_73
  exact ok_ite (fun c => ok_ite (fun _ => r114) (fun _ => ok_ite (fun _ => r114) (fun _ => ok_ite (fun _ => r117 1 (fun _ => Or.inr c)) (fun _ => r114)))) (fun _ => r114)
theorem q_rt2 {N : Nat} {s : CS} {z : Int32} : ∀ (n : Nat) (x2 : Int32), 0 ≤ x2.toInt → x2.toInt ≤ 25 → 25 - x2.toInt < n → ok (f_X9_rowType_2 N n s z x2) (fun R => RTS s R.2 ∧ RTY s z R.1)
  | 0, _, _, _, h => by omega
  | n + 1, x2, h0, h25, hn => by
    show ok (b_X9_rowType_2 N (f_X9_rowType_2 N n) s z x2) _
    unfold b_X9_rowType_2 f_X9_rowType_70
    have e25 : (25 : Int32).toInt = 25 := by decide
    have e1 : (1 : Int32).toInt = 1 := by decide
    have e200 : (200 : Int32).toInt = 200 := by decide
    have r0 : ∀ y : Int64, ok (f_X9_rowType_73 N s z y 0) (fun R => RTS s R.2 ∧ RTY s z R.1) := fun y => q_rt73 (fun q => absurd rfl q)
    refine ok_ite (fun _ => ok_ite (fun c => ok_ite (fun _ => r0 _) (fun _ => ok_ite (fun _ => r0 _) (fun _ => q_rt73 (fun _ => Or.inl c)))) (fun _ => r0 _)) (fun c => ?_)
    have l : x2.toInt < 25 := by
      have := lt_int (Int32.not_le.mp c)
      rw [e25] at this; exact this
    have es : (x2 + 1).toInt = x2.toInt + 1 := by rw [toInt_add] <;> rw [e1] <;> omega
    have ea : (200 + x2).toInt = 200 + x2.toInt := by rw [toInt_add] <;> rw [e200] <;> omega
    have cl := clampI h0
    refine ok_chk ⟨h0, by omega⟩ (ok_ite (fun q => ok_some ⟨RTS.rf s, Or.inr (Or.inr ⟨x2.toNatClampNeg, by omega, ?_, lg_eq q⟩)⟩) (fun _ => q_rt2 n (x2 + 1) (by omega) (by omega) (by omega)))
    show (200 + x2).toInt = _
    rw [ea, cl]
theorem q_rt {N : Nat} (hN : 1000 ≤ N) {s : CS} (z : Int32) : ok (f_X9_rowType N s z) (fun R => RTS s R.2 ∧ RTY s z R.1) := q_rt2 N 0 (by decide) (by decide) (by rw [z_t0]; omega)
def ALN (t : Int32) : Prop := (1 ≤ t.toInt ∧ t.toInt ≤ 5) ∨ 200 ≤ t.toInt
def ALW (t : Int32) : Prop := (2 ≤ t.toInt ∧ t.toInt ≤ 5) ∨ 200 ≤ t.toInt
def AB (s : CS) (x : Int32) : Prop := isDg (BY s x) ∨ isLt (BY s x)
/-- the tokens stand well -/
def LC (s : CS) : Prop := (0 ≤ (s.i 41).toInt ∧ (s.i 41).toInt ≤ 900) ∧ (0 ≤ (s.i 44).toInt ∧ (s.i 44).toInt ≤ (s.i 42).toInt ∧ (s.i 42).toInt ≤ (s.i 41).toInt) ∧ (s.i 43 = 0 → (s.i 42).toInt = (s.i 41).toInt) ∧ (¬ s.i 43 = 0 → (s.i 44).toInt + 1 ≤ (s.i 42).toInt) ∧ ((ALN (s.i 43) → AB s (s.i 44)) ∧ (ALW (s.i 43) → ¬ AB s (s.i 42))) ∧ ((200 ≤ (s.i 43).toInt ∨ (3 ≤ (s.i 43).toInt ∧ (s.i 43).toInt ≤ 5) ∨ (128 ≤ (s.i 43).toInt ∧ (s.i 43).toInt ≤ 135)) → (s.i 44).toInt + 2 ≤ (s.i 42).toInt) ∧ (s.i 43 = 218 ∨ s.i 43 = 219 → (s.i 44).toInt + 4 ≤ (s.i 42).toInt) ∧ (s.i 43 = 2 → (s.i 42).toInt = (s.i 44).toInt + 1 → 97 ≤ s.l.toInt ∧ s.l.toInt ≤ 122) ∧ (s.i 43 = 1 → (s.i 42).toInt = (s.i 44).toInt + 1 → 0 ≤ (s.i 45).toInt ∧ (s.i 45).toInt ≤ 9)
/-- the words are as long as they are -/
def WDC (s : CS) : Prop := (∀ k : Nat, k < 25 → 256 ≤ s.b 40 k) ∧ 16777216 ≤ s.b 40 18 ∧ 16777216 ≤ s.b 40 19
