/-! both readers: a number of a switch, whole -/
/-- the chain's last entry -/
def FQL (s : RS) (t : Nat) (L : List Nat) : Prop := (L = [] → (s.a 67 t).toInt < 0) ∧ (∀ (L0 : List Nat) (j : Nat), L = L0 ++ [j] → (s.a 67 t).toInt = (j : Int))
/-- one more at the end of a chain -/
theorem chn.snoc {s u : RS} {j e : Nat} (h24 : (u.i 24).toInt = (e : Int) + 1) (he : (s.i 24).toInt = (e : Int)) (hj : u.a 27 j = Int32.ofNat e) (hn : (u.a 27 e).toInt < 0) (h27 : ∀ i : Nat, i < e → i ≠ j → u.a 27 i = s.a 27 i) (h31 : e < 2 ^ 31) : ∀ (L : List Nat) (k : Int32), chn s k (L ++ [j]) → chn u k (L ++ [j] ++ [e])
  | [], k, h => by
    obtain ⟨h1, h2, -, -⟩ := h
    refine ⟨h1, by omega, fun i hi => ?_, ?_, by omega, fun i hi => absurd hi List.not_mem_nil, hn⟩
    · rcases List.mem_cons.mp hi with rfl | hi
      · omega
      · exact absurd hi List.not_mem_nil
    · rw [hj, Int32.toInt_ofNat_of_lt h31]
  | a :: L, k, h => by
    obtain ⟨h1, h2, h3, h4⟩ := h
    have aj : a < j := h3 j (List.mem_append_right _ List.mem_cons_self)
    refine ⟨h1, by omega, fun i hi => ?_, ?_⟩
    · rcases List.mem_append.mp hi with hi | hi
      · exact h3 i hi
      · rcases List.mem_cons.mp hi with rfl | hi
        · omega
        · exact absurd hi List.not_mem_nil
    · rw [h27 a (by omega) (by omega)]
      exact chn.snoc h24 he hj hn h27 h31 L _ h4
/-- what an entry does to the chain -/
theorem ENR.chain {s u : RS} {t : Nat} {v b : Int32} {L : List Nat} (h : ENR s t v b u) (hl : chn s (s.a 22 (s.a 66 t).toNatClampNeg) L) (hq : FQL s t L) : ∃ e : Nat, (s.i 24).toInt = (e : Int) ∧ chn u (u.a 22 (u.a 66 t).toNatClampNeg) (L ++ [e]) ∧ FQL u t (L ++ [e]) ∧ u.a 25 e = v ∧ u.a 28 e = b ∧ (∀ i : Nat, i < e → u.a 25 i = s.a 25 i ∧ u.a 28 i = s.a 28 i) ∧ (∀ i : Nat, i < e → i ∉ L → u.a 27 i = s.a 27 i) ∧ (∀ i : Nat, ¬ i = (s.a 66 t).toNatClampNeg → u.a 22 i = s.a 22 i) := by
  obtain ⟨h1, h2, h3, h4, h5, h6, h7, h8, -, -⟩ := h
  have ck := clampI h2.1
  have u66 : u.a 66 = s.a 66 := h7 66 (by decide) (by decide) (by decide) (by decide) (by decide) (by decide)
  have e24 : (u.i 24).toInt = (s.i 24).toInt + 1 := by rw [h1]; exact ad1 h2.1 (by omega)
  have fql : FQL u t (L ++ [(s.i 24).toNatClampNeg]) := by
    refine ⟨fun q => absurd q (by simp), fun L0 j q => ?_⟩
    have := List.append_inj_right' q rfl
    have ej : (s.i 24).toNatClampNeg = j := by simpa using this
    rw [h5, ← ej]
    show (if t = t then s.i 24 else s.a 67 t).toInt = _
    rw [if_pos rfl]
    omega
  have ue : u.a 25 (s.i 24).toNatClampNeg = v := by rw [h3]; exact if_pos rfl
  have ub : u.a 28 (s.i 24).toNatClampNeg = b := by rw [h4]; exact if_pos rfl
  have ul : ∀ i : Nat, i < (s.i 24).toNatClampNeg → u.a 25 i = s.a 25 i ∧ u.a 28 i = s.a 28 i := fun i hi => by
    rw [h3, h4]
    exact ⟨if_neg (by omega), if_neg (by omega)⟩
  have em : (-1 : Int32).toInt = -1 := by decide
  have e31 : (s.i 24).toNatClampNeg < 2 ^ 31 := by omega
  have eof : Int32.ofNat (s.i 24).toNatClampNeg = s.i 24 := by
    refine Int32.toInt_inj.mp ?_
    rw [Int32.toInt_ofNat_of_lt e31]
    omega
  rcases h6 with ⟨q1, q2, q3⟩ | ⟨q1, q2, q3, q4⟩
  · -- behind another one
    have nn : ¬ L = [] := fun z => by
      have := hq.1 z
      omega
    obtain ⟨L0, j, hj⟩ : ∃ L0 j, L = L0 ++ [j] := ⟨L.dropLast, L.getLast nn, (List.dropLast_concat_getLast nn).symm⟩
    have jq := hq.2 L0 j hj
    have ejq : (s.a 67 t).toNatClampNeg = j := by
      show (s.a 67 t).toInt.toNat = j
      rw [jq]
      exact Int.toNat_natCast _
    have jl := chn.lt L _ hl j (by rw [hj]; exact List.mem_append_right _ List.mem_cons_self)
    rw [ejq] at q2
    refine ⟨(s.i 24).toNatClampNeg, by omega, ?_, fql, ue, ub, ul, fun i hi hiL => ?_, fun i _ => by rw [q3]⟩
    · rw [q3, u66, hj]
      rw [hj] at hl
      refine chn.snoc (by omega) (by omega) ?_ ?_ (fun i hi hij => ?_) e31 L0 _ hl
      · rw [q2, eof]
        exact if_pos rfl
      · rw [q2]
        show (if (s.i 24).toNatClampNeg = j then s.i 24 else (if (s.i 24).toNatClampNeg = (s.i 24).toNatClampNeg then (-1 : Int32) else _)).toInt < 0
        rw [if_neg (by omega), if_pos rfl, em]
        omega
      · rw [q2]
        exact (if_neg hij).trans (if_neg (by omega))
    · rw [q2]
      exact (if_neg (fun z => hiL (by rw [z, hj]; exact List.mem_append_right _ List.mem_cons_self))).trans (if_neg (by omega))
  · -- the first one
    have nL : L = [] := by
      cases L with
      | nil => rfl
      | cons a L =>
        exfalso
        have nn : ¬ (a :: L) = [] := by simp
        have := hq.2 (a :: L).dropLast ((a :: L).getLast nn) (List.dropLast_concat_getLast nn).symm
        omega
    refine ⟨(s.i 24).toNatClampNeg, by omega, ?_, fql, ue, ub, ul, fun i hi _ => by rw [q2]; exact if_neg (by omega), fun i hi => by rw [q3]; exact if_neg hi⟩
    rw [nL, q3, u66]
    show chn u (if (s.a 66 t).toNatClampNeg = (s.a 66 t).toNatClampNeg then s.i 24 else _) [(s.i 24).toNatClampNeg]
    rw [if_pos rfl]
    refine ⟨by omega, by omega, fun i hi => absurd hi List.not_mem_nil, ?_⟩
    rw [q2]
    show (if (s.i 24).toNatClampNeg = (s.i 24).toNatClampNeg then (-1 : Int32) else _).toInt < 0
    rw [if_pos rfl, em]
    omega
