/-! both readers: a number of a switch is read -/
theorem ENV.re {d : Int32} {S R : CS} {s u : RS} (h : ENV d S s) (b : BT R u) (q2 : pj R = pj S) (c34 : R.i 34 = S.i 34) (j38 : u.i 38 = s.i 38) (j3 : u.i 3 = s.i 3) (j18 : u.i 18 = s.i 18) (j53 : u.i 53 = s.i 53) (j54 : u.i 54 = s.i 54) (j55 : u.i 55 = s.i 55) (x4 : u.a 4 = s.a 4) (x41 : u.a 41 = s.a 41) (y39 : u.b 39 = s.b 39) (e17 : (u.i 17).toInt = (s.i 17).toInt + 1) (e19 : u.i 19 = s.i 19) (e20 : u.i 20 = s.i 20) (f1 : (s.i 11).toInt + 1 ≤ (u.i 11).toInt) (c22 : 0 ≤ (R.i 22).toInt ∧ 3 * (R.i 22).toInt ≤ (u.i 11).toInt) (he : eI S ≤ eI R) (hw : WPI u) (hlb : LBW R) : ENV d R u := by
  obtain ⟨h1, ⟨n1, n2, n3, n4⟩, ⟨o1, o2, o3⟩, ⟨c1, c2, c3⟩, l1, ⟨m1, m2, m3, m4, m5⟩, ⟨r1, r2, r3, r4, r5, r6, r7, r8, r9, -⟩⟩ := h
  obtain ⟨-, -, -, -, i13, -, i24, i25, i26, -, -, i37, -, i50, -, -, -, -, -, a9, -, a49, -, -, -, -, eb, i21, -⟩ := pj_eq q2
  exact ⟨b, ⟨by rw [i50, j38]; exact n1, by rw [j38]; omega, fun k hk => by rw [j38] at hk; rw [eb, a49, y39, x41]; exact n3 k hk, fun j k hj hk => by rw [j38] at hk; rw [y39]; exact n4 j k hj hk⟩, ⟨by rw [c34, e19]; exact o1, by rw [e19]; exact o2, by rw [e19]; exact o3⟩, ⟨by rw [i24, j53]; exact c1, by rw [i26, j55]; exact c2, by rw [i25, j54]; exact c3⟩, by unfold LTE at *; rw [i37, j18]; exact l1, ⟨by rw [i13, j3]; exact m1, by rw [a9]; exact m2, fun k h1 h2 => by rw [j3] at h2; rw [a9, x4]; exact m3 k h1 h2, by rw [j3]; exact m4, fun k h1 h2 => by rw [j3] at h2; rw [x4]; exact m5 k h1 h2⟩, ⟨by rw [e20]; exact r1, by unfold phI at *; rw [e20, e17]; omega, by rw [e17]; omega, c22.1, c22.2, by rw [i21]; exact r6, by rw [i21]; omega, r8.kp q2 (by unfold sgI; rw [c34]; exact Int.le_refl _) he, (r9.kp q2 rfl).up (by omega), hw, hlb⟩⟩
/-- what a number read leaves -/
def CNR9 (d : Int32) (t : Nat) (f : Int32) (L : List Nat) (v : Int32) (S : CS) (s : RS) (R : CS) (u : RS) : Prop := ∃ e : Nat, (s.i 24).toInt = (e : Int) ∧ CSE R u f (L ++ [e]) ∧ chn u (u.a 22 (u.a 66 t).toNatClampNeg) (L ++ [e]) ∧ FQL u t (L ++ [e]) ∧ pj R = pj S ∧ (R.i 22).toInt = (S.i 22).toInt + 1 ∧ (∀ i : Nat, (i : Int) < (S.i 22).toInt → R.a 18 i = S.a 18 i) ∧ R.a 18 (S.i 22).toInt.toNat = v ∧ (¬ ∃ i : Nat, f.toInt ≤ (i : Int) ∧ (i : Int) < (S.i 22).toInt ∧ S.a 18 i = v) ∧ ((3 * ((S.i 22).toInt + 1) ≤ (u.i 11).toInt) → ENV d R u) ∧ (s.i 11).toInt + 1 ≤ (u.i 11).toInt ∧ (u.i 17).toInt = (s.i 17).toInt + 1 ∧ u.i 20 = s.i 20 ∧ u.i 19 = s.i 19 ∧ u.i 63 = s.i 63 ∧ (u.i 24).toInt = (s.i 24).toInt + 1 ∧ (∀ k : Nat, k ≠ 22 → k ≠ 25 → k ≠ 26 → k ≠ 27 → k ≠ 28 → k ≠ 67 → u.a k = s.a k) ∧ (∀ j : Nat, j ≠ t → u.a 67 j = s.a 67 j) ∧ (∀ i : Nat, i < e → u.a 25 i = s.a 25 i ∧ u.a 28 i = s.a 28 i) ∧ (∀ i : Nat, i < e → i ∉ L → u.a 27 i = s.a 27 i) ∧ (∀ i : Nat, ¬ i = (s.a 66 t).toNatClampNeg → u.a 22 i = s.a 22 i) ∧ (∀ k : Nat, k ≠ 10 → k ≠ 11 → k ≠ 12 → k ≠ 14 → k ≠ 17 → k ≠ 24 → u.i k = s.i k) ∧ u.b = s.b ∧ ((S.i 44).toInt + 1 < (S.i 42).toInt → (s.i 11).toInt + 1 < (u.i 11).toInt)
/-- what a number read lays: no code, a case with its target, an entry with its place -/
def CNC (tgt : Int32) (S : CS) (s : RS) (R : CS) (u : RS) : Prop := (R.i 20 = S.i 20 ∧ R.i 23 = S.i 23 ∧ R.i 38 = S.i 38 ∧ R.a 15 = S.a 15 ∧ R.a 16 = S.a 16 ∧ R.a 17 = S.a 17) ∧ (∀ i : Nat, (i : Int) < (S.i 22).toInt → R.a 19 i = S.a 19 i) ∧ R.a 19 (S.i 22).toInt.toNat = tgt ∧ ∃ e : Nat, (s.i 24).toInt = (e : Int) ∧ u.a 26 e = s.i 20 ∧ ∀ i : Nat, i < e → u.a 26 i = s.a 26 i
theorem CSE.add {S R : CS} {s u : RS} {f v : Int32} {L : List Nat} {e : Nat} (h : CSE S s f L) (h22 : (R.i 22).toInt = (S.i 22).toInt + 1) (h0 : 0 ≤ (S.i 22).toInt) (ha : ∀ i : Nat, (i : Int) < (S.i 22).toInt → R.a 18 i = S.a 18 i) (hv : R.a 18 (S.i 22).toInt.toNat = v) (hL : ∀ j ∈ L, j < e) (hl : ∀ i : Nat, i < e → u.a 25 i = s.a 25 i ∧ u.a 28 i = s.a 28 i) (h25 : u.a 25 e = v) (h28 : u.a 28 e = 0) : CSE R u f (L ++ [e]) := by
  obtain ⟨a1, a2, a3⟩ := h
  refine ⟨a1, by omega, fun w => ?_⟩
  constructor
  · intro ⟨i, i1, i2, i3⟩
    by_cases c : (i : Int) < (S.i 22).toInt
    · rw [ha i c] at i3
      obtain ⟨j, j1, j2, j3⟩ := (a3 w).mp ⟨i, i1, c, i3⟩
      refine ⟨j, List.mem_append_left _ j1, ?_, ?_⟩
      · rw [(hl j (hL j j1)).2]; exact j2
      · rw [(hl j (hL j j1)).1]; exact j3
    · have : i = (S.i 22).toInt.toNat := by omega
      rw [this, hv] at i3
      exact ⟨e, List.mem_append_right _ List.mem_cons_self, h28, by rw [h25]; exact i3⟩
  · intro ⟨j, j1, j2, j3⟩
    rcases List.mem_append.mp j1 with j1 | j1
    · rw [(hl j (hL j j1)).2] at j2
      rw [(hl j (hL j j1)).1] at j3
      obtain ⟨i, i1, i2, i3⟩ := (a3 w).mpr ⟨j, j1, j2, j3⟩
      exact ⟨i, i1, by omega, by rw [ha i i2]; exact i3⟩
    · rcases List.mem_cons.mp j1 with rfl | j1
      · rw [h25] at j3
        exact ⟨(S.i 22).toInt.toNat, by omega, by omega, by rw [hv]; exact j3⟩
      · exact absurd j1 List.not_mem_nil
