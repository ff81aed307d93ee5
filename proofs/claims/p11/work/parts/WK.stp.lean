/-! the reference's loop, one step on -/
/-- a fault, or no frame: the loop is done -/
theorem rl_f {N n : Nat} {s U : RS} (h : f_X12_parse_10 N n s = some U) (h15 : ¬ s.i 15 = 0) : U = s := by
  cases n with
  | zero => cases h
  | succ m =>
    have h' : b_X12_parse_10 N (f_X12_parse_10 N m) s = some U := h
    unfold b_X12_parse_10 at h'
    by_cases c : s.i 63 < 0
    · rw [if_pos c] at h'
      cases h'
      rfl
    · rw [if_neg c, if_neg h15] at h'
      cases h'
      rfl
theorem rl_e {N n : Nat} {s U : RS} (h : f_X12_parse_10 N n s = some U) (ht : tpI s < 0) : U = s := by
  cases n with
  | zero => cases h
  | succ m =>
    have h' : b_X12_parse_10 N (f_X12_parse_10 N m) s = some U := h
    unfold b_X12_parse_10 at h'
    have c : s.i 63 < 0 := by
      rw [Int32.lt_iff_toInt_lt, z_t0]
      exact ht
    rw [if_pos c] at h'
    cases h'
    rfl
theorem rl_0 {N n : Nat} {s U : RS} {t : Nat} (h : f_X12_parse_10 N n s = some U) (ht : tpI s = t) (h15 : s.i 15 = 0) : (s.i 63).toNatClampNeg = t ∧ ib (s.i 63) 1000 ∧ ∃ m : Nat, n = m + 1 := by
  have h2 : (s.i 63).toInt = (t : Int) := ht
  have en : (s.i 63).toNatClampNeg = t := by
    show (s.i 63).toInt.toNat = t
    rw [h2]; exact Int.toNat_natCast _
  have h0 : ¬ s.i 63 < 0 := fun c => by
    have := lt_int c
    rw [z_t0] at this
    omega
  cases n with
  | zero => cases h
  | succ m =>
    have h' : b_X12_parse_10 N (f_X12_parse_10 N m) s = some U := h
    unfold b_X12_parse_10 at h'
    rw [if_neg h0, if_pos h15] at h'
    exact ⟨en, (hf_ite h').1, m, rfl⟩
theorem rl_1 {N n : Nat} {s U : RS} {t : Nat} (h : f_X12_parse_10 N n s = some U) (ht : tpI s = t) (h15 : s.i 15 = 0) (hK : s.a 64 t = 1) : ∃ (m : Nat) (V : RS), f_X12_list N s (s.i 63) = some V ∧ f_X12_parse_10 N m V = some U := by
  obtain ⟨en, hib, m, rfl⟩ := rl_0 h ht h15
  have h2 : (s.i 63).toInt = (t : Int) := ht
  have h0 : ¬ s.i 63 < 0 := fun c => by
    have := lt_int c
    rw [z_t0] at this
    omega
  have h' : b_X12_parse_10 N (f_X12_parse_10 N m) s = some U := h
  unfold b_X12_parse_10 at h'
  rw [if_neg h0, if_pos h15, if_pos hib, en] at h'
  rw [if_pos hK] at h'
  obtain ⟨V, g, h'⟩ := hf_bind h'
  exact ⟨m, V, g, h'⟩
theorem rl_2 {N n : Nat} {s U : RS} {t : Nat} (h : f_X12_parse_10 N n s = some U) (ht : tpI s = t) (h15 : s.i 15 = 0) (hK : s.a 64 t = 2) : ∃ (m : Nat) (V : RS), f_X12_stat N s (s.i 63) = some V ∧ f_X12_parse_10 N m V = some U := by
  obtain ⟨en, hib, m, rfl⟩ := rl_0 h ht h15
  have h2 : (s.i 63).toInt = (t : Int) := ht
  have h0 : ¬ s.i 63 < 0 := fun c => by
    have := lt_int c
    rw [z_t0] at this
    omega
  have h' : b_X12_parse_10 N (f_X12_parse_10 N m) s = some U := h
  unfold b_X12_parse_10 at h'
  rw [if_neg h0, if_pos h15, if_pos hib, en] at h'
  rw [if_neg (show ¬ s.a 64 t = 1 by rw [hK]; decide), if_pos hK] at h'
  obtain ⟨V, g, h'⟩ := hf_bind h'
  exact ⟨m, V, g, h'⟩
theorem rl_3 {N n : Nat} {s U : RS} {t : Nat} (h : f_X12_parse_10 N n s = some U) (ht : tpI s = t) (h15 : s.i 15 = 0) (hK : s.a 64 t = 3) : ∃ (m : Nat) (V : RS), f_X12_block N s (s.i 63) = some V ∧ f_X12_parse_10 N m V = some U := by
  obtain ⟨en, hib, m, rfl⟩ := rl_0 h ht h15
  have h2 : (s.i 63).toInt = (t : Int) := ht
  have h0 : ¬ s.i 63 < 0 := fun c => by
    have := lt_int c
    rw [z_t0] at this
    omega
  have h' : b_X12_parse_10 N (f_X12_parse_10 N m) s = some U := h
  unfold b_X12_parse_10 at h'
  rw [if_neg h0, if_pos h15, if_pos hib, en] at h'
  rw [if_neg (show ¬ s.a 64 t = 1 by rw [hK]; decide), if_neg (show ¬ s.a 64 t = 2 by rw [hK]; decide), if_pos hK] at h'
  obtain ⟨V, g, h'⟩ := hf_bind h'
  exact ⟨m, V, g, h'⟩
theorem rl_4 {N n : Nat} {s U : RS} {t : Nat} (h : f_X12_parse_10 N n s = some U) (ht : tpI s = t) (h15 : s.i 15 = 0) (hK : s.a 64 t = 4) : ∃ (m : Nat) (V : RS), f_X12_tell N s (s.i 63) = some V ∧ f_X12_parse_10 N m V = some U := by
  obtain ⟨en, hib, m, rfl⟩ := rl_0 h ht h15
  have h2 : (s.i 63).toInt = (t : Int) := ht
  have h0 : ¬ s.i 63 < 0 := fun c => by
    have := lt_int c
    rw [z_t0] at this
    omega
  have h' : b_X12_parse_10 N (f_X12_parse_10 N m) s = some U := h
  unfold b_X12_parse_10 at h'
  rw [if_neg h0, if_pos h15, if_pos hib, en] at h'
  rw [if_neg (show ¬ s.a 64 t = 1 by rw [hK]; decide), if_neg (show ¬ s.a 64 t = 2 by rw [hK]; decide), if_neg (show ¬ s.a 64 t = 3 by rw [hK]; decide), if_pos hK] at h'
  obtain ⟨V, g, h'⟩ := hf_bind h'
  exact ⟨m, V, g, h'⟩
theorem rl_5 {N n : Nat} {s U : RS} {t : Nat} (h : f_X12_parse_10 N n s = some U) (ht : tpI s = t) (h15 : s.i 15 = 0) (hK : s.a 64 t = 5) : ∃ (m : Nat) (V : RS), f_X12_named N s (s.i 63) = some V ∧ f_X12_parse_10 N m V = some U := by
  obtain ⟨en, hib, m, rfl⟩ := rl_0 h ht h15
  have h2 : (s.i 63).toInt = (t : Int) := ht
  have h0 : ¬ s.i 63 < 0 := fun c => by
    have := lt_int c
    rw [z_t0] at this
    omega
  have h' : b_X12_parse_10 N (f_X12_parse_10 N m) s = some U := h
  unfold b_X12_parse_10 at h'
  rw [if_neg h0, if_pos h15, if_pos hib, en] at h'
  rw [if_neg (show ¬ s.a 64 t = 1 by rw [hK]; decide), if_neg (show ¬ s.a 64 t = 2 by rw [hK]; decide), if_neg (show ¬ s.a 64 t = 3 by rw [hK]; decide), if_neg (show ¬ s.a 64 t = 4 by rw [hK]; decide), if_pos hK] at h'
  obtain ⟨V, g, h'⟩ := hf_bind h'
  exact ⟨m, V, g, h'⟩
theorem rl_6 {N n : Nat} {s U : RS} {t : Nat} (h : f_X12_parse_10 N n s = some U) (ht : tpI s = t) (h15 : s.i 15 = 0) (hK : s.a 64 t = 6) : ∃ (m : Nat) (V : RS), f_X12_ending N s (s.i 63) = some V ∧ f_X12_parse_10 N m V = some U := by
  obtain ⟨en, hib, m, rfl⟩ := rl_0 h ht h15
  have h2 : (s.i 63).toInt = (t : Int) := ht
  have h0 : ¬ s.i 63 < 0 := fun c => by
    have := lt_int c
    rw [z_t0] at this
    omega
  have h' : b_X12_parse_10 N (f_X12_parse_10 N m) s = some U := h
  unfold b_X12_parse_10 at h'
  rw [if_neg h0, if_pos h15, if_pos hib, en] at h'
  rw [if_neg (show ¬ s.a 64 t = 1 by rw [hK]; decide), if_neg (show ¬ s.a 64 t = 2 by rw [hK]; decide), if_neg (show ¬ s.a 64 t = 3 by rw [hK]; decide), if_neg (show ¬ s.a 64 t = 4 by rw [hK]; decide), if_neg (show ¬ s.a 64 t = 5 by rw [hK]; decide), if_pos hK] at h'
  obtain ⟨V, g, h'⟩ := hf_bind h'
  exact ⟨m, V, g, h'⟩
theorem rl_7 {N n : Nat} {s U : RS} {t : Nat} (h : f_X12_parse_10 N n s = some U) (ht : tpI s = t) (h15 : s.i 15 = 0) (hK : s.a 64 t = 7) : ∃ (m : Nat) (V : RS), f_X12_throwing N s (s.i 63) = some V ∧ f_X12_parse_10 N m V = some U := by
  obtain ⟨en, hib, m, rfl⟩ := rl_0 h ht h15
  have h2 : (s.i 63).toInt = (t : Int) := ht
  have h0 : ¬ s.i 63 < 0 := fun c => by
    have := lt_int c
    rw [z_t0] at this
    omega
  have h' : b_X12_parse_10 N (f_X12_parse_10 N m) s = some U := h
  unfold b_X12_parse_10 at h'
  rw [if_neg h0, if_pos h15, if_pos hib, en] at h'
  rw [if_neg (show ¬ s.a 64 t = 1 by rw [hK]; decide), if_neg (show ¬ s.a 64 t = 2 by rw [hK]; decide), if_neg (show ¬ s.a 64 t = 3 by rw [hK]; decide), if_neg (show ¬ s.a 64 t = 4 by rw [hK]; decide), if_neg (show ¬ s.a 64 t = 5 by rw [hK]; decide), if_neg (show ¬ s.a 64 t = 6 by rw [hK]; decide), if_pos hK] at h'
  obtain ⟨V, g, h'⟩ := hf_bind h'
  exact ⟨m, V, g, h'⟩
theorem rl_8 {N n : Nat} {s U : RS} {t : Nat} (h : f_X12_parse_10 N n s = some U) (ht : tpI s = t) (h15 : s.i 15 = 0) (hK : s.a 64 t = 8) : ∃ (m : Nat) (V : RS), f_X12_asserted N s (s.i 63) = some V ∧ f_X12_parse_10 N m V = some U := by
  obtain ⟨en, hib, m, rfl⟩ := rl_0 h ht h15
  have h2 : (s.i 63).toInt = (t : Int) := ht
  have h0 : ¬ s.i 63 < 0 := fun c => by
    have := lt_int c
    rw [z_t0] at this
    omega
  have h' : b_X12_parse_10 N (f_X12_parse_10 N m) s = some U := h
  unfold b_X12_parse_10 at h'
  rw [if_neg h0, if_pos h15, if_pos hib, en] at h'
  rw [if_neg (show ¬ s.a 64 t = 1 by rw [hK]; decide), if_neg (show ¬ s.a 64 t = 2 by rw [hK]; decide), if_neg (show ¬ s.a 64 t = 3 by rw [hK]; decide), if_neg (show ¬ s.a 64 t = 4 by rw [hK]; decide), if_neg (show ¬ s.a 64 t = 5 by rw [hK]; decide), if_neg (show ¬ s.a 64 t = 6 by rw [hK]; decide), if_neg (show ¬ s.a 64 t = 7 by rw [hK]; decide), if_pos hK] at h'
  obtain ⟨V, g, h'⟩ := hf_bind h'
  exact ⟨m, V, g, h'⟩
theorem rl_9 {N n : Nat} {s U : RS} {t : Nat} (h : f_X12_parse_10 N n s = some U) (ht : tpI s = t) (h15 : s.i 15 = 0) (hK : s.a 64 t = 9) : ∃ (m : Nat) (V : RS), f_X12_branch N s (s.i 63) = some V ∧ f_X12_parse_10 N m V = some U := by
  obtain ⟨en, hib, m, rfl⟩ := rl_0 h ht h15
  have h2 : (s.i 63).toInt = (t : Int) := ht
  have h0 : ¬ s.i 63 < 0 := fun c => by
    have := lt_int c
    rw [z_t0] at this
    omega
  have h' : b_X12_parse_10 N (f_X12_parse_10 N m) s = some U := h
  unfold b_X12_parse_10 at h'
  rw [if_neg h0, if_pos h15, if_pos hib, en] at h'
  rw [if_neg (show ¬ s.a 64 t = 1 by rw [hK]; decide), if_neg (show ¬ s.a 64 t = 2 by rw [hK]; decide), if_neg (show ¬ s.a 64 t = 3 by rw [hK]; decide), if_neg (show ¬ s.a 64 t = 4 by rw [hK]; decide), if_neg (show ¬ s.a 64 t = 5 by rw [hK]; decide), if_neg (show ¬ s.a 64 t = 6 by rw [hK]; decide), if_neg (show ¬ s.a 64 t = 7 by rw [hK]; decide), if_neg (show ¬ s.a 64 t = 8 by rw [hK]; decide), if_pos hK] at h'
  obtain ⟨V, g, h'⟩ := hf_bind h'
  exact ⟨m, V, g, h'⟩
theorem rl_10 {N n : Nat} {s U : RS} {t : Nat} (h : f_X12_parse_10 N n s = some U) (ht : tpI s = t) (h15 : s.i 15 = 0) (hK : s.a 64 t = 10) : ∃ (m : Nat) (V : RS), f_X12_whiles N s (s.i 63) = some V ∧ f_X12_parse_10 N m V = some U := by
  obtain ⟨en, hib, m, rfl⟩ := rl_0 h ht h15
  have h2 : (s.i 63).toInt = (t : Int) := ht
  have h0 : ¬ s.i 63 < 0 := fun c => by
    have := lt_int c
    rw [z_t0] at this
    omega
  have h' : b_X12_parse_10 N (f_X12_parse_10 N m) s = some U := h
  unfold b_X12_parse_10 at h'
  rw [if_neg h0, if_pos h15, if_pos hib, en] at h'
  rw [if_neg (show ¬ s.a 64 t = 1 by rw [hK]; decide), if_neg (show ¬ s.a 64 t = 2 by rw [hK]; decide), if_neg (show ¬ s.a 64 t = 3 by rw [hK]; decide), if_neg (show ¬ s.a 64 t = 4 by rw [hK]; decide), if_neg (show ¬ s.a 64 t = 5 by rw [hK]; decide), if_neg (show ¬ s.a 64 t = 6 by rw [hK]; decide), if_neg (show ¬ s.a 64 t = 7 by rw [hK]; decide), if_neg (show ¬ s.a 64 t = 8 by rw [hK]; decide), if_neg (show ¬ s.a 64 t = 9 by rw [hK]; decide), if_pos hK] at h'
  obtain ⟨V, g, h'⟩ := hf_bind h'
  exact ⟨m, V, g, h'⟩
theorem rl_11 {N n : Nat} {s U : RS} {t : Nat} (h : f_X12_parse_10 N n s = some U) (ht : tpI s = t) (h15 : s.i 15 = 0) (hK : s.a 64 t = 11) : ∃ (m : Nat) (V : RS), f_X12_repeats N s (s.i 63) = some V ∧ f_X12_parse_10 N m V = some U := by
  obtain ⟨en, hib, m, rfl⟩ := rl_0 h ht h15
  have h2 : (s.i 63).toInt = (t : Int) := ht
  have h0 : ¬ s.i 63 < 0 := fun c => by
    have := lt_int c
    rw [z_t0] at this
    omega
  have h' : b_X12_parse_10 N (f_X12_parse_10 N m) s = some U := h
  unfold b_X12_parse_10 at h'
  rw [if_neg h0, if_pos h15, if_pos hib, en] at h'
  rw [if_neg (show ¬ s.a 64 t = 1 by rw [hK]; decide), if_neg (show ¬ s.a 64 t = 2 by rw [hK]; decide), if_neg (show ¬ s.a 64 t = 3 by rw [hK]; decide), if_neg (show ¬ s.a 64 t = 4 by rw [hK]; decide), if_neg (show ¬ s.a 64 t = 5 by rw [hK]; decide), if_neg (show ¬ s.a 64 t = 6 by rw [hK]; decide), if_neg (show ¬ s.a 64 t = 7 by rw [hK]; decide), if_neg (show ¬ s.a 64 t = 8 by rw [hK]; decide), if_neg (show ¬ s.a 64 t = 9 by rw [hK]; decide), if_neg (show ¬ s.a 64 t = 10 by rw [hK]; decide), if_pos hK] at h'
  obtain ⟨V, g, h'⟩ := hf_bind h'
  exact ⟨m, V, g, h'⟩
theorem rl_12 {N n : Nat} {s U : RS} {t : Nat} (h : f_X12_parse_10 N n s = some U) (ht : tpI s = t) (h15 : s.i 15 = 0) (hK : s.a 64 t = 12) : ∃ (m : Nat) (V : RS), f_X12_fors N s (s.i 63) = some V ∧ f_X12_parse_10 N m V = some U := by
  obtain ⟨en, hib, m, rfl⟩ := rl_0 h ht h15
  have h2 : (s.i 63).toInt = (t : Int) := ht
  have h0 : ¬ s.i 63 < 0 := fun c => by
    have := lt_int c
    rw [z_t0] at this
    omega
  have h' : b_X12_parse_10 N (f_X12_parse_10 N m) s = some U := h
  unfold b_X12_parse_10 at h'
  rw [if_neg h0, if_pos h15, if_pos hib, en] at h'
  rw [if_neg (show ¬ s.a 64 t = 1 by rw [hK]; decide), if_neg (show ¬ s.a 64 t = 2 by rw [hK]; decide), if_neg (show ¬ s.a 64 t = 3 by rw [hK]; decide), if_neg (show ¬ s.a 64 t = 4 by rw [hK]; decide), if_neg (show ¬ s.a 64 t = 5 by rw [hK]; decide), if_neg (show ¬ s.a 64 t = 6 by rw [hK]; decide), if_neg (show ¬ s.a 64 t = 7 by rw [hK]; decide), if_neg (show ¬ s.a 64 t = 8 by rw [hK]; decide), if_neg (show ¬ s.a 64 t = 9 by rw [hK]; decide), if_neg (show ¬ s.a 64 t = 10 by rw [hK]; decide), if_neg (show ¬ s.a 64 t = 11 by rw [hK]; decide), if_pos hK] at h'
  obtain ⟨V, g, h'⟩ := hf_bind h'
  exact ⟨m, V, g, h'⟩
theorem rl_13 {N n : Nat} {s U : RS} {t : Nat} (h : f_X12_parse_10 N n s = some U) (ht : tpI s = t) (h15 : s.i 15 = 0) (hK : s.a 64 t = 13) : ∃ (m : Nat) (V : RS), f_X12_lock N s (s.i 63) = some V ∧ f_X12_parse_10 N m V = some U := by
  obtain ⟨en, hib, m, rfl⟩ := rl_0 h ht h15
  have h2 : (s.i 63).toInt = (t : Int) := ht
  have h0 : ¬ s.i 63 < 0 := fun c => by
    have := lt_int c
    rw [z_t0] at this
    omega
  have h' : b_X12_parse_10 N (f_X12_parse_10 N m) s = some U := h
  unfold b_X12_parse_10 at h'
  rw [if_neg h0, if_pos h15, if_pos hib, en] at h'
  rw [if_neg (show ¬ s.a 64 t = 1 by rw [hK]; decide), if_neg (show ¬ s.a 64 t = 2 by rw [hK]; decide), if_neg (show ¬ s.a 64 t = 3 by rw [hK]; decide), if_neg (show ¬ s.a 64 t = 4 by rw [hK]; decide), if_neg (show ¬ s.a 64 t = 5 by rw [hK]; decide), if_neg (show ¬ s.a 64 t = 6 by rw [hK]; decide), if_neg (show ¬ s.a 64 t = 7 by rw [hK]; decide), if_neg (show ¬ s.a 64 t = 8 by rw [hK]; decide), if_neg (show ¬ s.a 64 t = 9 by rw [hK]; decide), if_neg (show ¬ s.a 64 t = 10 by rw [hK]; decide), if_neg (show ¬ s.a 64 t = 11 by rw [hK]; decide), if_neg (show ¬ s.a 64 t = 12 by rw [hK]; decide), if_pos hK] at h'
  obtain ⟨V, g, h'⟩ := hf_bind h'
  exact ⟨m, V, g, h'⟩
theorem rl_14 {N n : Nat} {s U : RS} {t : Nat} (h : f_X12_parse_10 N n s = some U) (ht : tpI s = t) (h15 : s.i 15 = 0) (hK : s.a 64 t = 14) : ∃ (m : Nat) (V : RS), f_X12_groups N s (s.i 63) = some V ∧ f_X12_parse_10 N m V = some U := by
  obtain ⟨en, hib, m, rfl⟩ := rl_0 h ht h15
  have h2 : (s.i 63).toInt = (t : Int) := ht
  have h0 : ¬ s.i 63 < 0 := fun c => by
    have := lt_int c
    rw [z_t0] at this
    omega
  have h' : b_X12_parse_10 N (f_X12_parse_10 N m) s = some U := h
  unfold b_X12_parse_10 at h'
  rw [if_neg h0, if_pos h15, if_pos hib, en] at h'
  rw [if_neg (show ¬ s.a 64 t = 1 by rw [hK]; decide), if_neg (show ¬ s.a 64 t = 2 by rw [hK]; decide), if_neg (show ¬ s.a 64 t = 3 by rw [hK]; decide), if_neg (show ¬ s.a 64 t = 4 by rw [hK]; decide), if_neg (show ¬ s.a 64 t = 5 by rw [hK]; decide), if_neg (show ¬ s.a 64 t = 6 by rw [hK]; decide), if_neg (show ¬ s.a 64 t = 7 by rw [hK]; decide), if_neg (show ¬ s.a 64 t = 8 by rw [hK]; decide), if_neg (show ¬ s.a 64 t = 9 by rw [hK]; decide), if_neg (show ¬ s.a 64 t = 10 by rw [hK]; decide), if_neg (show ¬ s.a 64 t = 11 by rw [hK]; decide), if_neg (show ¬ s.a 64 t = 12 by rw [hK]; decide), if_neg (show ¬ s.a 64 t = 13 by rw [hK]; decide), if_pos hK] at h'
  obtain ⟨V, g, h'⟩ := hf_bind h'
  exact ⟨m, V, g, h'⟩
theorem rl_15 {N n : Nat} {s U : RS} {t : Nat} (h : f_X12_parse_10 N n s = some U) (ht : tpI s = t) (h15 : s.i 15 = 0) (hK : s.a 64 t = 15) : ∃ (m : Nat) (V : RS), f_X12_trying N s (s.i 63) = some V ∧ f_X12_parse_10 N m V = some U := by
  obtain ⟨en, hib, m, rfl⟩ := rl_0 h ht h15
  have h2 : (s.i 63).toInt = (t : Int) := ht
  have h0 : ¬ s.i 63 < 0 := fun c => by
    have := lt_int c
    rw [z_t0] at this
    omega
  have h' : b_X12_parse_10 N (f_X12_parse_10 N m) s = some U := h
  unfold b_X12_parse_10 at h'
  rw [if_neg h0, if_pos h15, if_pos hib, en] at h'
  rw [if_neg (show ¬ s.a 64 t = 1 by rw [hK]; decide), if_neg (show ¬ s.a 64 t = 2 by rw [hK]; decide), if_neg (show ¬ s.a 64 t = 3 by rw [hK]; decide), if_neg (show ¬ s.a 64 t = 4 by rw [hK]; decide), if_neg (show ¬ s.a 64 t = 5 by rw [hK]; decide), if_neg (show ¬ s.a 64 t = 6 by rw [hK]; decide), if_neg (show ¬ s.a 64 t = 7 by rw [hK]; decide), if_neg (show ¬ s.a 64 t = 8 by rw [hK]; decide), if_neg (show ¬ s.a 64 t = 9 by rw [hK]; decide), if_neg (show ¬ s.a 64 t = 10 by rw [hK]; decide), if_neg (show ¬ s.a 64 t = 11 by rw [hK]; decide), if_neg (show ¬ s.a 64 t = 12 by rw [hK]; decide), if_neg (show ¬ s.a 64 t = 13 by rw [hK]; decide), if_neg (show ¬ s.a 64 t = 14 by rw [hK]; decide), if_pos hK] at h'
  obtain ⟨V, g, h'⟩ := hf_bind h'
  exact ⟨m, V, g, h'⟩
theorem rl_18 {N n : Nat} {s U : RS} {t : Nat} (h : f_X12_parse_10 N n s = some U) (ht : tpI s = t) (h15 : s.i 15 = 0) (hK : s.a 64 t = 18) : ∃ (m : Nat) (V : RS), f_X12_factor N s (s.i 63) = some V ∧ f_X12_parse_10 N m V = some U := by
  obtain ⟨en, hib, m, rfl⟩ := rl_0 h ht h15
  have h2 : (s.i 63).toInt = (t : Int) := ht
  have h0 : ¬ s.i 63 < 0 := fun c => by
    have := lt_int c
    rw [z_t0] at this
    omega
  have h' : b_X12_parse_10 N (f_X12_parse_10 N m) s = some U := h
  unfold b_X12_parse_10 at h'
  rw [if_neg h0, if_pos h15, if_pos hib, en] at h'
  rw [if_neg (show ¬ s.a 64 t = 1 by rw [hK]; decide), if_neg (show ¬ s.a 64 t = 2 by rw [hK]; decide), if_neg (show ¬ s.a 64 t = 3 by rw [hK]; decide), if_neg (show ¬ s.a 64 t = 4 by rw [hK]; decide), if_neg (show ¬ s.a 64 t = 5 by rw [hK]; decide), if_neg (show ¬ s.a 64 t = 6 by rw [hK]; decide), if_neg (show ¬ s.a 64 t = 7 by rw [hK]; decide), if_neg (show ¬ s.a 64 t = 8 by rw [hK]; decide), if_neg (show ¬ s.a 64 t = 9 by rw [hK]; decide), if_neg (show ¬ s.a 64 t = 10 by rw [hK]; decide), if_neg (show ¬ s.a 64 t = 11 by rw [hK]; decide), if_neg (show ¬ s.a 64 t = 12 by rw [hK]; decide), if_neg (show ¬ s.a 64 t = 13 by rw [hK]; decide), if_neg (show ¬ s.a 64 t = 14 by rw [hK]; decide), if_neg (show ¬ s.a 64 t = 15 by rw [hK]; decide)] at h'
  obtain ⟨V, g, h'⟩ := hf_bind h'
  unfold f_X12_thing f_X12_thing_74 f_X12_thing_116 at g
  rw [if_pos hib, en] at g
  rw [if_neg (show ¬ s.a 64 t = 16 by rw [hK]; decide), if_neg (show ¬ s.a 64 t = 17 by rw [hK]; decide), if_pos hK, ob_id] at g
  exact ⟨m, V, g, h'⟩
theorem rl_19 {N n : Nat} {s U : RS} {t : Nat} (h : f_X12_parse_10 N n s = some U) (ht : tpI s = t) (h15 : s.i 15 = 0) (hK : s.a 64 t = 19) : ∃ (m : Nat) (V : RS), f_X12_arms N s (s.i 63) = some V ∧ f_X12_parse_10 N m V = some U := by
  obtain ⟨en, hib, m, rfl⟩ := rl_0 h ht h15
  have h2 : (s.i 63).toInt = (t : Int) := ht
  have h0 : ¬ s.i 63 < 0 := fun c => by
    have := lt_int c
    rw [z_t0] at this
    omega
  have h' : b_X12_parse_10 N (f_X12_parse_10 N m) s = some U := h
  unfold b_X12_parse_10 at h'
  rw [if_neg h0, if_pos h15, if_pos hib, en] at h'
  rw [if_neg (show ¬ s.a 64 t = 1 by rw [hK]; decide), if_neg (show ¬ s.a 64 t = 2 by rw [hK]; decide), if_neg (show ¬ s.a 64 t = 3 by rw [hK]; decide), if_neg (show ¬ s.a 64 t = 4 by rw [hK]; decide), if_neg (show ¬ s.a 64 t = 5 by rw [hK]; decide), if_neg (show ¬ s.a 64 t = 6 by rw [hK]; decide), if_neg (show ¬ s.a 64 t = 7 by rw [hK]; decide), if_neg (show ¬ s.a 64 t = 8 by rw [hK]; decide), if_neg (show ¬ s.a 64 t = 9 by rw [hK]; decide), if_neg (show ¬ s.a 64 t = 10 by rw [hK]; decide), if_neg (show ¬ s.a 64 t = 11 by rw [hK]; decide), if_neg (show ¬ s.a 64 t = 12 by rw [hK]; decide), if_neg (show ¬ s.a 64 t = 13 by rw [hK]; decide), if_neg (show ¬ s.a 64 t = 14 by rw [hK]; decide), if_neg (show ¬ s.a 64 t = 15 by rw [hK]; decide)] at h'
  obtain ⟨V, g, h'⟩ := hf_bind h'
  unfold f_X12_thing f_X12_thing_74 f_X12_thing_116 at g
  rw [if_pos hib, en] at g
  rw [if_neg (show ¬ s.a 64 t = 16 by rw [hK]; decide), if_neg (show ¬ s.a 64 t = 17 by rw [hK]; decide), if_neg (show ¬ s.a 64 t = 18 by rw [hK]; decide), if_pos hK, ob_id] at g
  exact ⟨m, V, g, h'⟩
theorem rl_20 {N n : Nat} {s U : RS} {t : Nat} (h : f_X12_parse_10 N n s = some U) (ht : tpI s = t) (h15 : s.i 15 = 0) (hK : s.a 64 t = 20) : ∃ (m : Nat) (V : RS), f_X12_both N s (s.i 63) 21 305 11 = some V ∧ f_X12_parse_10 N m V = some U := by
  obtain ⟨en, hib, m, rfl⟩ := rl_0 h ht h15
  have h2 : (s.i 63).toInt = (t : Int) := ht
  have h0 : ¬ s.i 63 < 0 := fun c => by
    have := lt_int c
    rw [z_t0] at this
    omega
  have h' : b_X12_parse_10 N (f_X12_parse_10 N m) s = some U := h
  unfold b_X12_parse_10 at h'
  rw [if_neg h0, if_pos h15, if_pos hib, en] at h'
  rw [if_neg (show ¬ s.a 64 t = 1 by rw [hK]; decide), if_neg (show ¬ s.a 64 t = 2 by rw [hK]; decide), if_neg (show ¬ s.a 64 t = 3 by rw [hK]; decide), if_neg (show ¬ s.a 64 t = 4 by rw [hK]; decide), if_neg (show ¬ s.a 64 t = 5 by rw [hK]; decide), if_neg (show ¬ s.a 64 t = 6 by rw [hK]; decide), if_neg (show ¬ s.a 64 t = 7 by rw [hK]; decide), if_neg (show ¬ s.a 64 t = 8 by rw [hK]; decide), if_neg (show ¬ s.a 64 t = 9 by rw [hK]; decide), if_neg (show ¬ s.a 64 t = 10 by rw [hK]; decide), if_neg (show ¬ s.a 64 t = 11 by rw [hK]; decide), if_neg (show ¬ s.a 64 t = 12 by rw [hK]; decide), if_neg (show ¬ s.a 64 t = 13 by rw [hK]; decide), if_neg (show ¬ s.a 64 t = 14 by rw [hK]; decide), if_neg (show ¬ s.a 64 t = 15 by rw [hK]; decide)] at h'
  obtain ⟨V, g, h'⟩ := hf_bind h'
  unfold f_X12_thing f_X12_thing_74 f_X12_thing_116 at g
  rw [if_pos hib, en] at g
  rw [if_neg (show ¬ s.a 64 t = 16 by rw [hK]; decide), if_neg (show ¬ s.a 64 t = 17 by rw [hK]; decide), if_neg (show ¬ s.a 64 t = 18 by rw [hK]; decide), if_neg (show ¬ s.a 64 t = 19 by rw [hK]; decide), if_pos hK, ob_id] at g
  exact ⟨m, V, g, h'⟩
theorem rl_21 {N n : Nat} {s U : RS} {t : Nat} (h : f_X12_parse_10 N n s = some U) (ht : tpI s = t) (h15 : s.i 15 = 0) (hK : s.a 64 t = 21) : ∃ (m : Nat) (V : RS), f_X12_both N s (s.i 63) 22 304 12 = some V ∧ f_X12_parse_10 N m V = some U := by
  obtain ⟨en, hib, m, rfl⟩ := rl_0 h ht h15
  have h2 : (s.i 63).toInt = (t : Int) := ht
  have h0 : ¬ s.i 63 < 0 := fun c => by
    have := lt_int c
    rw [z_t0] at this
    omega
  have h' : b_X12_parse_10 N (f_X12_parse_10 N m) s = some U := h
  unfold b_X12_parse_10 at h'
  rw [if_neg h0, if_pos h15, if_pos hib, en] at h'
  rw [if_neg (show ¬ s.a 64 t = 1 by rw [hK]; decide), if_neg (show ¬ s.a 64 t = 2 by rw [hK]; decide), if_neg (show ¬ s.a 64 t = 3 by rw [hK]; decide), if_neg (show ¬ s.a 64 t = 4 by rw [hK]; decide), if_neg (show ¬ s.a 64 t = 5 by rw [hK]; decide), if_neg (show ¬ s.a 64 t = 6 by rw [hK]; decide), if_neg (show ¬ s.a 64 t = 7 by rw [hK]; decide), if_neg (show ¬ s.a 64 t = 8 by rw [hK]; decide), if_neg (show ¬ s.a 64 t = 9 by rw [hK]; decide), if_neg (show ¬ s.a 64 t = 10 by rw [hK]; decide), if_neg (show ¬ s.a 64 t = 11 by rw [hK]; decide), if_neg (show ¬ s.a 64 t = 12 by rw [hK]; decide), if_neg (show ¬ s.a 64 t = 13 by rw [hK]; decide), if_neg (show ¬ s.a 64 t = 14 by rw [hK]; decide), if_neg (show ¬ s.a 64 t = 15 by rw [hK]; decide)] at h'
  obtain ⟨V, g, h'⟩ := hf_bind h'
  unfold f_X12_thing f_X12_thing_74 f_X12_thing_116 at g
  rw [if_pos hib, en] at g
  rw [if_neg (show ¬ s.a 64 t = 16 by rw [hK]; decide), if_neg (show ¬ s.a 64 t = 17 by rw [hK]; decide), if_neg (show ¬ s.a 64 t = 18 by rw [hK]; decide), if_neg (show ¬ s.a 64 t = 19 by rw [hK]; decide), if_neg (show ¬ s.a 64 t = 20 by rw [hK]; decide), if_pos hK, ob_id] at g
  exact ⟨m, V, g, h'⟩
theorem rl_22 {N n : Nat} {s U : RS} {t : Nat} (h : f_X12_parse_10 N n s = some U) (ht : tpI s = t) (h15 : s.i 15 = 0) (hK : s.a 64 t = 22) : ∃ (m : Nat) (V : RS), f_X12_one N s (s.i 63) = some V ∧ f_X12_parse_10 N m V = some U := by
  obtain ⟨en, hib, m, rfl⟩ := rl_0 h ht h15
  have h2 : (s.i 63).toInt = (t : Int) := ht
  have h0 : ¬ s.i 63 < 0 := fun c => by
    have := lt_int c
    rw [z_t0] at this
    omega
  have h' : b_X12_parse_10 N (f_X12_parse_10 N m) s = some U := h
  unfold b_X12_parse_10 at h'
  rw [if_neg h0, if_pos h15, if_pos hib, en] at h'
  rw [if_neg (show ¬ s.a 64 t = 1 by rw [hK]; decide), if_neg (show ¬ s.a 64 t = 2 by rw [hK]; decide), if_neg (show ¬ s.a 64 t = 3 by rw [hK]; decide), if_neg (show ¬ s.a 64 t = 4 by rw [hK]; decide), if_neg (show ¬ s.a 64 t = 5 by rw [hK]; decide), if_neg (show ¬ s.a 64 t = 6 by rw [hK]; decide), if_neg (show ¬ s.a 64 t = 7 by rw [hK]; decide), if_neg (show ¬ s.a 64 t = 8 by rw [hK]; decide), if_neg (show ¬ s.a 64 t = 9 by rw [hK]; decide), if_neg (show ¬ s.a 64 t = 10 by rw [hK]; decide), if_neg (show ¬ s.a 64 t = 11 by rw [hK]; decide), if_neg (show ¬ s.a 64 t = 12 by rw [hK]; decide), if_neg (show ¬ s.a 64 t = 13 by rw [hK]; decide), if_neg (show ¬ s.a 64 t = 14 by rw [hK]; decide), if_neg (show ¬ s.a 64 t = 15 by rw [hK]; decide)] at h'
  obtain ⟨V, g, h'⟩ := hf_bind h'
  unfold f_X12_thing f_X12_thing_74 f_X12_thing_116 at g
  rw [if_pos hib, en] at g
  rw [if_neg (show ¬ s.a 64 t = 16 by rw [hK]; decide), if_neg (show ¬ s.a 64 t = 17 by rw [hK]; decide), if_neg (show ¬ s.a 64 t = 18 by rw [hK]; decide), if_neg (show ¬ s.a 64 t = 19 by rw [hK]; decide), if_neg (show ¬ s.a 64 t = 20 by rw [hK]; decide), if_neg (show ¬ s.a 64 t = 21 by rw [hK]; decide), ob_id] at g
  exact ⟨m, V, g, h'⟩
theorem rl_16 {N n : Nat} {s U : RS} {t : Nat} (h : f_X12_parse_10 N n s = some U) (ht : tpI s = t) (h15 : s.i 15 = 0) (hK : s.a 64 t = 16) : ∃ (m : Nat) (V : RS), (((s.i 10 = 43 ∨ s.i 10 = 45) ∧ f_X12_sums N s (s.i 63) 17 1 = some V) ∨ (¬ (s.i 10 = 43 ∨ s.i 10 = 45) ∧ f_X12_sums N s (s.i 63) 17 0 = some V)) ∧ f_X12_parse_10 N m V = some U := by
  obtain ⟨en, hib, m, rfl⟩ := rl_0 h ht h15
  have h2 : (s.i 63).toInt = (t : Int) := ht
  have h0 : ¬ s.i 63 < 0 := fun c => by
    have := lt_int c
    rw [z_t0] at this
    omega
  have h' : b_X12_parse_10 N (f_X12_parse_10 N m) s = some U := h
  unfold b_X12_parse_10 at h'
  rw [if_neg h0, if_pos h15, if_pos hib, en] at h'
  rw [if_neg (show ¬ s.a 64 t = 1 by rw [hK]; decide), if_neg (show ¬ s.a 64 t = 2 by rw [hK]; decide), if_neg (show ¬ s.a 64 t = 3 by rw [hK]; decide), if_neg (show ¬ s.a 64 t = 4 by rw [hK]; decide), if_neg (show ¬ s.a 64 t = 5 by rw [hK]; decide), if_neg (show ¬ s.a 64 t = 6 by rw [hK]; decide), if_neg (show ¬ s.a 64 t = 7 by rw [hK]; decide), if_neg (show ¬ s.a 64 t = 8 by rw [hK]; decide), if_neg (show ¬ s.a 64 t = 9 by rw [hK]; decide), if_neg (show ¬ s.a 64 t = 10 by rw [hK]; decide), if_neg (show ¬ s.a 64 t = 11 by rw [hK]; decide), if_neg (show ¬ s.a 64 t = 12 by rw [hK]; decide), if_neg (show ¬ s.a 64 t = 13 by rw [hK]; decide), if_neg (show ¬ s.a 64 t = 14 by rw [hK]; decide), if_neg (show ¬ s.a 64 t = 15 by rw [hK]; decide)] at h'
  obtain ⟨V, g, h'⟩ := hf_bind h'
  unfold f_X12_thing f_X12_thing_74 f_X12_thing_116 at g
  rw [if_pos hib, en] at g
  rw [if_pos hK] at g
  by_cases c43 : s.i 10 = 43
  · rw [if_pos c43, ob_id] at g
    exact ⟨m, V, Or.inl ⟨Or.inl c43, g⟩, h'⟩
  rw [if_neg c43] at g
  by_cases c45 : s.i 10 = 45
  · rw [if_pos c45, ob_id] at g
    exact ⟨m, V, Or.inl ⟨Or.inr c45, g⟩, h'⟩
  rw [if_neg c45] at g
  rw [ob_id] at g
  exact ⟨m, V, Or.inr ⟨fun q => q.elim c43 c45, g⟩, h'⟩
theorem rl_17 {N n : Nat} {s U : RS} {t : Nat} (h : f_X12_parse_10 N n s = some U) (ht : tpI s = t) (h15 : s.i 15 = 0) (hK : s.a 64 t = 17) : ∃ (m : Nat) (V : RS), (((s.i 10 = 42 ∨ s.i 10 = 47 ∨ s.i 10 = 37) ∧ f_X12_sums N s (s.i 63) 18 1 = some V) ∨ (¬ (s.i 10 = 42 ∨ s.i 10 = 47 ∨ s.i 10 = 37) ∧ f_X12_sums N s (s.i 63) 18 0 = some V)) ∧ f_X12_parse_10 N m V = some U := by
  obtain ⟨en, hib, m, rfl⟩ := rl_0 h ht h15
  have h2 : (s.i 63).toInt = (t : Int) := ht
  have h0 : ¬ s.i 63 < 0 := fun c => by
    have := lt_int c
    rw [z_t0] at this
    omega
  have h' : b_X12_parse_10 N (f_X12_parse_10 N m) s = some U := h
  unfold b_X12_parse_10 at h'
  rw [if_neg h0, if_pos h15, if_pos hib, en] at h'
  rw [if_neg (show ¬ s.a 64 t = 1 by rw [hK]; decide), if_neg (show ¬ s.a 64 t = 2 by rw [hK]; decide), if_neg (show ¬ s.a 64 t = 3 by rw [hK]; decide), if_neg (show ¬ s.a 64 t = 4 by rw [hK]; decide), if_neg (show ¬ s.a 64 t = 5 by rw [hK]; decide), if_neg (show ¬ s.a 64 t = 6 by rw [hK]; decide), if_neg (show ¬ s.a 64 t = 7 by rw [hK]; decide), if_neg (show ¬ s.a 64 t = 8 by rw [hK]; decide), if_neg (show ¬ s.a 64 t = 9 by rw [hK]; decide), if_neg (show ¬ s.a 64 t = 10 by rw [hK]; decide), if_neg (show ¬ s.a 64 t = 11 by rw [hK]; decide), if_neg (show ¬ s.a 64 t = 12 by rw [hK]; decide), if_neg (show ¬ s.a 64 t = 13 by rw [hK]; decide), if_neg (show ¬ s.a 64 t = 14 by rw [hK]; decide), if_neg (show ¬ s.a 64 t = 15 by rw [hK]; decide)] at h'
  obtain ⟨V, g, h'⟩ := hf_bind h'
  unfold f_X12_thing f_X12_thing_74 f_X12_thing_116 at g
  rw [if_pos hib, en] at g
  rw [if_neg (show ¬ s.a 64 t = 16 by rw [hK]; decide), if_pos hK] at g
  by_cases c42 : s.i 10 = 42
  · rw [if_pos c42, ob_id] at g
    exact ⟨m, V, Or.inl ⟨Or.inl c42, g⟩, h'⟩
  rw [if_neg c42] at g
  by_cases c47 : s.i 10 = 47
  · rw [if_pos c47, ob_id] at g
    exact ⟨m, V, Or.inl ⟨Or.inr (Or.inl c47), g⟩, h'⟩
  rw [if_neg c47] at g
  by_cases c37 : s.i 10 = 37
  · rw [if_pos c37, ob_id] at g
    exact ⟨m, V, Or.inl ⟨Or.inr (Or.inr c37), g⟩, h'⟩
  rw [if_neg c37] at g
  rw [ob_id] at g
  exact ⟨m, V, Or.inr ⟨fun q => q.elim c42 (fun q => q.elim c47 c37), g⟩, h'⟩
