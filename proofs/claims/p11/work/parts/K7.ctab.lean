/-! reading: try: the tables behind a catch's head -/
/-- the caught name -/
def SEN (u U : RS) : Prop := seI U = seI u + 1 ∧ (∀ j : Nat, j ≠ (seI u).toNat → U.a 40 j = u.a 40 j ∧ U.a 41 j = u.a 41 j) ∧ gv U 40 (seI u).toNat = slI u ∧ U.a 41 (seI u).toNat = 1
theorem TAB.cat {id : Nat} {CL NL : List Nat} {u U : RS} (ht : TAB u) (h : CATR id CL NL u U) (hs : SEN u U) (hch : CACH U (gv U 30 id) (CL ++ NL)) (hne : NL ≠ []) (hCL : ∀ j ∈ CL, (j : Int) < caI u) (s0 : 0 ≤ seI u) (l0 : 0 ≤ slI u) (c0 : 0 ≤ caI u) (hr : U.i 75 = u.i 75) (h52 : U.i 52 = u.i 52) : TAB U := by
  obtain ⟨⟨a0, b1, b2, b3, b4⟩, a1, a2, a3, a4, a5, a6, a7, a8, a9⟩ := ht
  have ea : ∀ k : Nat, k < 64 → k ≠ 30 → ¬ (34 ≤ k ∧ k ≤ 37) → k ≠ 40 → k ≠ 41 → U.a k = u.a k := h.2.1
  have eg : ∀ (k i : Nat), k < 64 → k ≠ 30 → ¬ (34 ≤ k ∧ k ≤ 37) → k ≠ 40 → k ≠ 41 → gv U k i = gv u k i := fun k i p1 p2 p3 p4 p5 => gv_of (ea k p1 p2 p3 p4 p5) i
  have e2 : enI U = enI u := by unfold enI; rw [h.1 24 (by omega) (by omega) (by omega) (by omega) (by omega)]
  have e3 : trI U = trI u := by unfold trI; rw [h.1 29 (by omega) (by omega) (by omega) (by omega) (by omega)]
  have e4 := h.2.2.2.2.2.1
  have e6 := h.2.2.2.2.2.2.2.2
  have e7 := h.go
  have e8 : deI U = deI u := by unfold deI; rw [h52]
  have e9 : waI U = waI u := by unfold waI; rw [h.1 56 (by omega) (by omega) (by omega) (by omega) (by omega)]
  have e10 : peI U = peI u := by unfold peI; rw [h.1 59 (by omega) (by omega) (by omega) (by omega) (by omega)]
  have esn : ((seI u).toNat : Int) = seI u := Int.toNat_of_nonneg s0
  obtain ⟨hs1, hs2, hs3, hs4⟩ := hs
  have mem : ∀ j ∈ CL ++ NL, (j : Int) < caI U := fun j hj => by
    rcases List.mem_append.mp hj with q | q
    · have := hCL j q; omega
    · exact (h.2.2.2.2.2.2.1 j q).2
  have o36 : ∀ j : Nat, (j : Int) < caI u → gv U 36 j = gv u 36 j := fun j hj => by unfold gv; rw [h.2.2.2.1 36 j (by omega) (by omega) hj]
  refine ⟨⟨fun γ b hγ => ?_, DJ.of a0 b1 (by omega) (fun γ b M _ h1 _ => by rw [h.hd]; exact h.isch h1), fun p hp => ?_, fun w w' q1 q2 => ?_, fun p w q1 q2 q3 => ?_⟩, fun j hj => ?_, fun j hj => ?_, fun j hj => ?_, fun x hx => ?_, fun j hj => ?_, fun g hg => ?_, fun k hk => ?_, fun k hk => ?_, ?_⟩
  · obtain ⟨M, l1, l2⟩ := a0 γ b (by omega)
    exact ⟨M, by rw [h.hd]; exact h.isch l1, fun x hx => by have := l2 x hx; rw [h.cd]; exact this⟩
  · rw [e10] at hp; rw [e3, eg 62 p (by omega) (by omega) (by omega) (by omega) (by omega)]; exact b2 p hp
  · rw [e9] at q2; rw [eg 57 _ (by omega) (by omega) (by omega) (by omega) (by omega), eg 57 _ (by omega) (by omega) (by omega) (by omega) (by omega)]; exact b3 w w' q1 q2
  · rw [e10] at q1; rw [e9] at q2; rw [eg 62 _ (by omega) (by omega) (by omega) (by omega) (by omega), eg 57 _ (by omega) (by omega) (by omega) (by omega) (by omega)] at q3; rw [eg 60 _ (by omega) (by omega) (by omega) (by omega) (by omega), eg 58 _ (by omega) (by omega) (by omega) (by omega) (by omega)]; exact b4 p w q1 q2 q3
  · rw [e2] at hj ⊢; rw [eg 27 _ (by omega) (by omega) (by omega) (by omega) (by omega)]; exact a1 j hj
  · by_cases c : j ∈ CL ++ NL
    · rcases hch.nxt c with r | ⟨i, i1, i2, i3⟩
      · exact Or.inl r
      · have := mem i i1
        right; omega
    · have jl : (j : Int) < caI u := by
        by_cases q : (j : Int) < caI u
        · exact q
        · exact absurd (List.mem_append_right _ (h.2.2.2.2.2.2.2.1 j (by omega) hj).1) c
      have e37 : gv U 37 j = gv u 37 j := by unfold gv; rw [h.2.2.2.2.1 j jl (fun q => c (List.mem_append_left _ q))]
      rw [e37]
      have := a2 j jl
      omega
  · rw [e3] at hj
    by_cases c : j = id
    · rw [c]
      cases hL : CL ++ NL with
      | nil => rw [hL] at hch; have q : gv U 30 id < 0 := hch; omega
      | cons i L' =>
        rw [hL] at hch
        have q := hch.1
        have := mem i (by rw [hL]; exact List.mem_cons_self ..)
        omega
    · have e30 : gv U 30 j = gv u 30 j := by unfold gv; rw [h.2.2.1 j c]
      rw [e30]
      have := a3 j hj
      omega
  · by_cases c : x = (seI u).toNat
    · rw [c, hs3, e6, hs4]
      refine ⟨l0, by omega, ?_⟩
      constructor
      · intro _; decide
      · intro _
        obtain ⟨j, hj⟩ : ∃ j, j ∈ NL := by
          cases NL with
          | nil => exact absurd rfl hne
          | cons a _ => exact ⟨a, List.mem_cons_self ..⟩
        obtain ⟨j1, j2⟩ := h.2.2.2.2.2.2.1 j hj
        exact ⟨j, j2, (h.2.2.2.2.2.2.2.1 j j1 j2).2.2⟩
    · obtain ⟨y1, y2⟩ := hs2 x c
      have xl : (x : Int) < seI u := by omega
      have e40 : gv U 40 x = gv u 40 x := by unfold gv; rw [y1]
      obtain ⟨z1, z2, z3⟩ := a4 x xl
      rw [e40, y2, e6]
      refine ⟨z1, by omega, ?_⟩
      rw [← z3]
      constructor
      · rintro ⟨j, j1, j2⟩
        by_cases q : (j : Int) < caI u
        · exact ⟨j, q, by rw [← o36 j q]; exact j2⟩
        · have := (h.2.2.2.2.2.2.2.1 j (by omega) j1).2.2; omega
      · rintro ⟨j, j1, j2⟩
        exact ⟨j, by omega, by rw [o36 j j1]; exact j2⟩
  · rw [e6]
    by_cases q : (j : Int) < caI u
    · rw [o36 j q]; have := a5 j q; omega
    · have := (h.2.2.2.2.2.2.2.1 j (by omega) hj).2.2; omega
  · rw [e7] at hg; rw [e8, eg 47 _ (by omega) (by omega) (by omega) (by omega) (by omega)]; exact a6 g hg
  · rw [e10] at hk; rw [eg 60 _ (by omega) (by omega) (by omega) (by omega) (by omega), ea 61 (by omega) (by omega) (by omega) (by omega) (by omega)]; exact a7 k hk
  · rw [e9] at hk; rw [e3, e7, eg 57 _ (by omega) (by omega) (by omega) (by omega) (by omega), eg 58 _ (by omega) (by omega) (by omega) (by omega) (by omega)]; exact a8 k hk
  · rw [hr]; exact a9
theorem KP.cat {t id : Nat} {CL NL : List Nat} {s u U : RS} (hk : KP t s u) (h : CATR id CL NL u U) (hs : SEN u U) (hid : trI s ≤ (id : Int)) (hCL : ∀ j ∈ CL, caI s ≤ (j : Int)) (s0 : 0 ≤ seI u) (h1 : ∀ j : Nat, 76 ≤ j → U.i j = u.i j) (h18 : 0 ≤ u.i 18 → 0 ≤ U.i 18) (ha : ∀ k : Nat, 74 ≤ k → U.a k = u.a k) (hb : U.b 9 = u.b 9) (hf : ∀ k : Nat, 64 ≤ k → k ≤ 73 → bel k t u U) : KP t s U := by
  obtain ⟨⟨a1, a1'⟩, a2, a3, a4, a5, a6, a7, a8, a9, a10, a11⟩ := hk
  have ea : ∀ k : Nat, k < 64 → k ≠ 30 → ¬ (34 ≤ k ∧ k ≤ 37) → k ≠ 40 → k ≠ 41 → U.a k = u.a k := h.2.1
  have eb : ∀ (k : Nat) (n : Int), k < 64 → k ≠ 30 → ¬ (34 ≤ k ∧ k ≤ 37) → k ≠ 40 → k ≠ 41 → bel k n s U = bel k n s u := fun k n p1 p2 p3 p4 p5 => by unfold bel; rw [ea k p1 p2 p3 p4 p5]
  have e2 : enI U = enI u := by unfold enI; rw [h.1 24 (by omega) (by omega) (by omega) (by omega) (by omega)]
  have e3 : trI U = trI u := by unfold trI; rw [h.1 29 (by omega) (by omega) (by omega) (by omega) (by omega)]
  have e4 := h.2.2.2.2.2.1
  have e6 := h.2.2.2.2.2.2.2.2
  have e9 : waI U = waI u := by unfold waI; rw [h.1 56 (by omega) (by omega) (by omega) (by omega) (by omega)]
  have e10 : peI U = peI u := by unfold peI; rw [h.1 59 (by omega) (by omega) (by omega) (by omega) (by omega)]
  have esn : ((seI u).toNat : Int) = seI u := Int.toNat_of_nonneg s0
  have k5 := a5.1
  have k6 := a6.1
  refine ⟨⟨⟨fun j hj => ?_, fun k hk => ?_, hb.trans a1.2.2⟩, fun z => h18 (a1' z)⟩, ?_, ?_, ?_, ?_, ?_, ?_, fun γ b M hγ hI hM => ?_, ?_, ?_, fun k k1 k2 => (a11 k k1 k2).tr (hf k k1 k2) (by omega)⟩
  · rcases hj with hj | hj
    · exact (h.1 j (by omega) (by omega) (by omega) (by omega) (by omega)).trans (a1.1 j (Or.inl hj))
    · exact (h1 j hj).trans (a1.1 j (Or.inr hj))
  · rcases hk with hk | hk
    · exact (ea k (by omega) (by omega) (by omega) (by omega) (by omega)).trans (a1.2.1 k (Or.inl hk))
    · exact (ha k (by omega)).trans (a1.2.1 k (Or.inr hk))
  · unfold KC; rw [h.cd, eb 21 _ (by omega) (by omega) (by omega) (by omega) (by omega), eb 22 _ (by omega) (by omega) (by omega) (by omega) (by omega), eb 23 _ (by omega) (by omega) (by omega) (by omega) (by omega)]; exact a2
  · unfold KE; rw [e2, eb 25 _ (by omega) (by omega) (by omega) (by omega) (by omega), eb 26 _ (by omega) (by omega) (by omega) (by omega) (by omega), eb 27 _ (by omega) (by omega) (by omega) (by omega) (by omega), eb 28 _ (by omega) (by omega) (by omega) (by omega) (by omega)]; exact a3
  · unfold KT; rw [e3, eb 31 _ (by omega) (by omega) (by omega) (by omega) (by omega), eb 32 _ (by omega) (by omega) (by omega) (by omega) (by omega)]
    exact ⟨a4.1, fun j hj => (h.2.2.1 j (by omega)).trans (a4.2.1 j hj), a4.2.2⟩
  · refine ⟨by omega, fun j hj => (h.2.2.2.1 34 j (by omega) (by omega) (by omega)).trans (a5.2.1 j hj), fun j hj => (h.2.2.2.1 35 j (by omega) (by omega) (by omega)).trans (a5.2.2.1 j hj), fun j hj => (h.2.2.2.1 36 j (by omega) (by omega) (by omega)).trans (a5.2.2.2.1 j hj), fun j hj => (h.2.2.2.2.1 j (by omega) (fun q => by have := hCL j q; omega)).trans (a5.2.2.2.2.1 j hj), fun j j1 j2 => ?_⟩
    by_cases q : (j : Int) < caI u
    · have e : gv U 36 j = gv u 36 j := by unfold gv; rw [h.2.2.2.1 36 j (by omega) (by omega) q]
      rw [e]
      have := a5.2.2.2.2.2 j j1 q
      omega
    · have := (h.2.2.2.2.2.2.2.1 j (by omega) j2).2.2
      have := a6.2.1
      omega
  · exact ⟨by have := hs.1; omega, by have := a6.2.1; omega, fun j hj => ((hs.2.1 j (by omega)).1).trans (a6.2.2.1 j hj), fun j hj => ((hs.2.1 j (by omega)).2).trans (a6.2.2.2 j hj)⟩
  · unfold KG; rw [h.go, eb 44 _ (by omega) (by omega) (by omega) (by omega) (by omega), eb 47 _ (by omega) (by omega) (by omega) (by omega) (by omega), ea 50 (by omega) (by omega) (by omega) (by omega) (by omega), ea 51 (by omega) (by omega) (by omega) (by omega) (by omega), ea 46 (by omega) (by omega) (by omega) (by omega) (by omega)]; exact a7
  · obtain ⟨L1, c1, c2⟩ := a8 γ b M hγ hI hM
    exact ⟨L1, by rw [h.hd]; exact h.isch c1, by rw [h.cd]; exact c2⟩
  · unfold KW; rw [e9, eb 57 _ (by omega) (by omega) (by omega) (by omega) (by omega), eb 58 _ (by omega) (by omega) (by omega) (by omega) (by omega)]; exact a9
  · unfold KQ; rw [e10, eb 60 _ (by omega) (by omega) (by omega) (by omega) (by omega), eb 61 _ (by omega) (by omega) (by omega) (by omega) (by omega), eb 62 _ (by omega) (by omega) (by omega) (by omega) (by omega)]; exact a10
theorem PRL.cat {id : Nat} {CL NL : List Nat} {u U : RS} (hp : PRL u) (h : CATR id CL NL u U) : PRL U := by
  have ea : ∀ k : Nat, k < 64 → k ≠ 30 → ¬ (34 ≤ k ∧ k ≤ 37) → k ≠ 40 → k ≠ 41 → U.a k = u.a k := h.2.1
  have b44 : bel 44 (goI u) u U := fun j _ => by rw [ea 44 (by omega) (by omega) (by omega) (by omega) (by omega)]
  have b46 : bel 46 (goI u) u U := fun j _ => by rw [ea 46 (by omega) (by omega) (by omega) (by omega) (by omega)]
  refine ⟨fun γ a1 a2 a3 => ?_, fun γ a1 => hp.2 γ (a1.of h.go b44 b46)⟩
  have q1 := (ACC.of h.go b44 γ).mp a1
  have e : gv U 46 γ = gv u 46 γ := gv_of (ea 46 (by omega) (by omega) (by omega) (by omega) (by omega)) γ
  rw [e] at a3
  obtain ⟨c1, c2, c3⟩ := hp.1 γ q1 (by rw [← b44 γ q1.1]; exact a2) a3
  rw [e, h.go]
  exact ⟨c1, c2, by rw [b44 _ (by omega)]; exact c3⟩
