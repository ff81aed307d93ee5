/-! both readers: numbers and bytes -/
theorem CNX9.b11 {d : Int32} {t : Nat} {f : Int32} {L : List Nat} {S R : CS} {s u : RS} (h : CNX9 d t f L S s R u) : (s.i 11).toInt ≤ (u.i 11).toInt := by
  obtain ⟨S1, s1, v, h1, -, -, ⟨-, b11⟩, ⟨e, -, -, -, -, -, -, -, -, -, -, f1, -⟩, ln⟩ := h
  omega
theorem CNX9.qpj {d : Int32} {t : Nat} {f : Int32} {L : List Nat} {S R : CS} {s u : RS} (h : CNX9 d t f L S s R u) : pj R = pj S := by
  obtain ⟨S1, s1, v, h1, -, ⟨ep, -, -⟩, -, ⟨e, -, -, -, -, q5, -⟩, ln⟩ := h
  exact q5.trans ep
theorem CNX9.kd {d : Int32} {t : Nat} {f : Int32} {L : List Nat} {S R : CS} {s u : RS} (h : CNX9 d t f L S s R u) (h0 : 0 ≤ (S.i 22).toInt) (hf : f.toInt ≤ (S.i 22).toInt) (hk : 3 * (S.i 22).toInt + 11 ≤ (s.i 11).toInt + KD S f.toInt (S.i 22).toInt) : ENV d R u ∧ (R.i 22).toInt = (S.i 22).toInt + 1 ∧ 3 * (R.i 22).toInt + 10 ≤ (u.i 11).toInt + KD R f.toInt (R.i 22).toInt := by
  obtain ⟨S1, s1, v, h1, -, ⟨-, e22, e18⟩, ⟨-, b11⟩, ⟨e, -, -, -, -, -, q6, q7, q8, q9, q10, f1, -⟩, ln⟩ := h
  have k0 : KD S1 f.toInt (S.i 22).toInt = KD S f.toInt (S.i 22).toInt := KD.eq (fun i _ => by rw [e18])
  rw [e22] at q6 q7 q8 q9 q10
  have ku : KD S1 f.toInt (S.i 22).toInt ≤ KD R f.toInt ((S.i 22).toInt + 1) := KD.up q7
  have kl := KD.le R f.toInt ((S.i 22).toInt + 1)
  have kk : 3 * ((S.i 22).toInt + 1) + 10 ≤ (u.i 11).toInt + KD R f.toInt ((S.i 22).toInt + 1) := by
    rcases ln with z | z
    · omega
    · have ko : KD R f.toInt ((S.i 22).toInt + 1) = KD S1 f.toInt (S.i 22).toInt + 1 := KD.one h0 hf q7 (by rw [q8]; exact z) (fun i i1 i2 i3 => q9 ⟨i, i1, i2, by rw [i3, q8]⟩)
      omega
  exact ⟨q10 (by omega), q6, by rw [q6]; exact kk⟩
