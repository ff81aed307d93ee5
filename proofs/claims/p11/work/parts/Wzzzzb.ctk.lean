/-! both readers: a catch's head, kind by kind -/
/-- the class since the guarded row -/
def CTC (a : Nat) (S P : CS) : Prop := (P.i 22 = S.i 22 ∧ P.i 38 = S.i 38 ∧ P.i 50 = S.i 50 ∧ P.i 53 = S.i 53 ∧ P.i 54 = S.i 54 ∧ P.i 55 = S.i 55 ∧ P.i 56 = S.i 56) ∧ (P.i 21).toInt = (S.i 21).toInt + 2 ∧ (P.r = S.r ∧ P.ol = S.ol ∧ (P.hs = S.hs ∧ P.L = S.L ∧ P.k = S.k)) ∧ (P.a 18 = S.a 18 ∧ P.a 52 = S.a 52) ∧ (∀ b : Nat, b ≠ a → P.o b = S.o b) ∧ (∀ k : Nat, k ≠ 0 → k ≠ 8 → k ≠ 10 → k ≠ 12 → P.o a k = S.o a k) ∧ P.o a 0 = 215 ∧ P.o a 8 = 1
theorem CTC.pj {a : Nat} {S P R : CS} (h : CTC a S P) (e : pj R = pj P) (e22 : R.i 22 = P.i 22) (e18 : R.a 18 = P.a 18) : CTC a S R := by
  obtain ⟨-, -, -, -, -, -, -, -, -, -, -, -, i38, i50, i53, i54, i55, i56, -, -, -, -, a52, er, eo, eol, -, i21, ehk⟩ := pj_eq e
  obtain ⟨⟨h1, h2, h3, h4, h5, h6, h7⟩, h8, ⟨h9, h10, h11⟩, ⟨h12, h13⟩, h14, h15, h16, h17⟩ := h
  refine ⟨⟨e22.trans h1, i38.trans h2, i50.trans h3, i53.trans h4, i54.trans h5, i55.trans h6, i56.trans h7⟩, by rw [i21]; exact h8, ⟨er.trans h9, eol.trans h10, by rw [ehk.1, ehk.2.1, ehk.2.2]; exact h11⟩, ⟨e18.trans h12, a52.trans h13⟩, fun b hb => by rw [eo]; exact h14 b hb, fun k k1 k2 k3 k4 => by rw [eo]; exact h15 k k1 k2 k3 k4, by rw [eo]; exact h16, by rw [eo]; exact h17⟩
theorem CTC.m {a : Nat} {S P : CS} {w : Int32} (h : CTC a S P) : CTC a S (CS.setO P a 12 w) := by
  obtain ⟨h1, h8, h9, h12, h14, h15, h16, h17⟩ := h
  exact ⟨h1, h8, h9, h12, fun b hb => (so_ne hb).trans (h14 b hb), fun k k1 k2 k3 k4 => (so_nk k4).trans (h15 k k1 k2 k3 k4), (so_nk (by decide)).trans h16, (so_nk (by decide)).trans h17⟩
/-- what the head leaves alone -/
def KEQ (s q : RS) : Prop := (q.i 2 = s.i 2 ∧ q.i 3 = s.i 3 ∧ q.i 8 = s.i 8 ∧ q.i 20 = s.i 20 ∧ q.i 24 = s.i 24 ∧ q.i 29 = s.i 29 ∧ q.i 38 = s.i 38 ∧ q.i 43 = s.i 43 ∧ q.i 56 = s.i 56 ∧ q.i 59 = s.i 59) ∧ (q.b 9 = s.b 9 ∧ q.b 39 = s.b 39 ∧ q.b 45 = s.b 45) ∧ ∀ k : Nat, (k = 1 ∨ k = 4 ∨ k = 22 ∨ k = 25 ∨ k = 27 ∨ k = 28 ∨ k = 40 ∨ k = 41 ∨ k = 44 ∨ k = 46 ∨ k = 47 ∨ k = 48 ∨ k = 49 ∨ k = 50 ∨ k = 51 ∨ k = 57 ∨ k = 58 ∨ k = 60 ∨ k = 61 ∨ k = 62) → q.a k = s.a k
theorem KEQ.tr {s q u : RS} (h : KEQ s q) (g : KEQ q u) : KEQ s u := by
  obtain ⟨⟨a0, a1, a2, a3, a4, a5, a6, a7, a8, a9⟩, ⟨b0, b1, b2⟩, c⟩ := h
  obtain ⟨⟨d0, d1, d2, d3, d4, d5, d6, d7, d8, d9⟩, ⟨f0, f1, f2⟩, g⟩ := g
  exact ⟨⟨d0.trans a0, d1.trans a1, d2.trans a2, d3.trans a3, d4.trans a4, d5.trans a5, d6.trans a6, d7.trans a7, d8.trans a8, d9.trans a9⟩, ⟨f0.trans b0, f1.trans b1, f2.trans b2⟩, fun k hk => (g k hk).trans (c k hk)⟩
theorem KEQ.qj {s u : RS} (e : qj u = qj s) (e20 : u.i 20 = s.i 20) (e22 : u.a 22 = s.a 22) : KEQ s u := by
  obtain ⟨i2, i3, i8, -, i24, i29, -, i38, -, i43, -, -, -, -, i56, i59, -⟩ := qj_eq e
  refine ⟨⟨i2, i3, i8, e20, i24, i29, i38, i43, i56, i59⟩, qj_b e, fun k hk => ?_⟩
  by_cases z : k = 22
  · rw [z]
    exact e22
  · exact qj_a e k (by omega)
def CTR (T id : Nat) (s q : RS) (Lk Lc : List Nat) : Prop := (tpI q = (T : Int) ∧ FRB T s q) ∧ (∀ k : Nat, 64 ≤ k → k ≤ 73 → k ≠ 71 → k ≠ 72 → q.a k T = s.a k T) ∧ q.a 71 T = s.i 38 ∧ KEQ s q ∧ (s.i 33).toInt ≤ (q.i 33).toInt ∧ (∀ j : Nat, j ≠ id → q.a 30 j = s.a 30 j) ∧ (∀ j : Nat, (j : Int) < (s.i 33).toInt → q.a 34 j = s.a 34 j ∧ ((j : Int) ≠ (s.a 72 T).toInt → q.a 37 j = s.a 37 j)) ∧ kch q (q.a 30 id) Lc ∧ ((Lc = [] → (q.a 72 T).toInt < 0) ∧ (∀ (L0 : List Nat) (j : Nat), Lc = L0 ++ [j] → (q.a 72 T).toInt = (j : Int))) ∧ (∀ j ∈ Lc, j ∈ Lk ∨ (s.i 33).toInt ≤ (j : Int)) ∧ (q.a 72 T = s.a 72 T ∨ (s.i 33).toInt ≤ (q.a 72 T).toInt)
theorem kch.eq {s u : RS} (h33 : u.i 33 = s.i 33) (h37 : u.a 37 = s.a 37) {L : List Nat} {k : Int32} (h : kch s k L) : kch u k L := kch.up (by rw [h33]; exact Int.le_refl _) (fun j _ => by rw [h37]) L k h
theorem CTR.qj {T id : Nat} {s q u : RS} {Lk Lc : List Nat} (h : CTR T id s q Lk Lc) (e : qj u = qj q) (e20 : u.i 20 = q.i 20) (e22 : u.a 22 = q.a 22) : CTR T id s u Lk Lc := by
  obtain ⟨⟨h1, h2⟩, h3, h4, h5, h6, h7, h8, h9, h10, h11, h12⟩ := h
  have f : FRB (T + 1) q u := FRB.of e
  have i33 : u.i 33 = q.i 33 := (qj_eq e).2.2.2.2.2.2.1
  have a30 := qj_a e 30 (by decide)
  have a34 := qj_a e 34 (by decide)
  have a37 := qj_a e 37 (by decide)
  refine ⟨⟨qj_63 e h1, h2.tr (f.mo (by omega))⟩, fun k k1 k2 k3 k4 => (f.all k k1 k2).trans (h3 k k1 k2 k3 k4), (f.all 71 (by decide) (by decide)).trans h4, h5.tr (KEQ.qj e e20 e22), by rw [i33]; exact h6, fun j hj => by rw [a30]; exact h7 j hj, fun j hj => by rw [a34, a37]; exact h8 j hj, by rw [a30]; exact h9.eq i33 a37, by rw [f.all 72 (by decide) (by decide)]; exact h10, h11, by rw [f.all 72 (by decide) (by decide)]; exact h12⟩
/-- the chain gets a kind at its end -/
theorem kch.ext {q u : RS} {n l : Nat} {x : Int32} (h33 : (q.i 33).toInt ≤ (u.i 33).toInt) (nx : x.toInt = (n : Int)) (nu : (n : Int) < (u.i 33).toInt) (hn : (u.a 37 n).toInt < 0) (hl : u.a 37 l = x) : ∀ (L0 : List Nat) (k : Int32), kch q k (L0 ++ [l]) → (∀ j ∈ L0, u.a 37 j = q.a 37 j) → (∀ j ∈ L0 ++ [l], j < n) → kch u k ((L0 ++ [l]) ++ [n])
  | [], k, h, _, lt => by
    have l0 := lt l List.mem_cons_self
    refine ⟨h.1, by have := h.2.1; omega, fun i hi => ?_, ?_⟩
    · rcases List.mem_cons.mp hi with z | z
      · omega
      · exact absurd z List.not_mem_nil
    · rw [hl]
      exact ⟨nx, nu, fun i hi => absurd hi List.not_mem_nil, hn⟩
  | j :: L0, k, h, e, lt => by
    obtain ⟨h1, h2, h3, h4⟩ := h
    refine ⟨h1, by omega, fun i hi => ?_, ?_⟩
    · rcases List.mem_append.mp hi with z | z
      · exact h3 i z
      · rcases List.mem_cons.mp z with z | z
        · have := lt j List.mem_cons_self
          omega
        · exact absurd z List.not_mem_nil
    · rw [e j List.mem_cons_self]
      exact kch.ext h33 nx nu hn hl L0 _ h4 (fun i hi => e i (List.mem_cons_of_mem _ hi)) (fun i hi => lt i (List.mem_cons_of_mem _ hi))
theorem kch.inc {s : RS} : ∀ (L0 : List Nat) (l : Nat) (k : Int32), kch s k (L0 ++ [l]) → ∀ j ∈ L0, j < l
  | [], _, _, _, j, hj => absurd hj List.not_mem_nil
  | i :: L0, l, k, h, j, hj => by
    obtain ⟨h1, h2, h3, h4⟩ := h
    rcases List.mem_cons.mp hj with z | z
    · rw [z]
      exact h3 l (List.mem_append_right _ List.mem_cons_self)
    · exact kch.inc L0 l _ h4 j z
theorem lst_end {α : Type} : ∀ L : List α, L = [] ∨ ∃ (L0 : List α) (l : α), L = L0 ++ [l]
  | [] => Or.inl rfl
  | a :: L => by
    rcases lst_end L with h | ⟨L0, l, h⟩
    · exact Or.inr ⟨[], a, by rw [h]; rfl⟩
    · exact Or.inr ⟨a :: L0, l, by rw [h]; rfl⟩
theorem lst_inj {α : Type} {L M : List α} {a b : α} (h : L ++ [a] = M ++ [b]) : a = b := by
  have z := congrArg List.reverse h
  rw [List.reverse_append, List.reverse_append] at z
  exact (List.cons.inj z).1
theorem rsI_a {r : RS} {k : Nat} {w : Int32} : (RS.setI r k w).a = r.a := rfl
/-- the tables' step: the kind is laid behind what was caught -/
theorem CTR.add {T id n : Nat} {s q v : RS} {Lk Lc : List Nat} {num : Int32} (h : CTR T id s q Lk Lc) (hn : (q.i 33).toInt = (n : Int)) (h400 : n < 400) (hv : (0 ≤ (q.a 72 T).toInt ∧ v = RS.setI (RS.setA (RS.setA (RS.setA (RS.setA q 34 n num) 37 n (-1)) 37 (q.a 72 T).toNatClampNeg (q.i 33)) 72 T (q.i 33)) 33 (q.i 33 + 1)) ∨ ((q.a 72 T).toInt < 0 ∧ v = RS.setI (RS.setA (RS.setA (RS.setA (RS.setA q 34 n num) 37 n (-1)) 30 id (q.i 33)) 72 T (q.i 33)) 33 (q.i 33 + 1))) : CTR T id s v Lk (Lc ++ [n]) ∧ (∀ j : Nat, j ≠ n → v.a 34 j = q.a 34 j) ∧ v.a 34 n = num ∧ (∀ k : Nat, k ≠ 30 → k ≠ 34 → k ≠ 37 → k ≠ 72 → v.a k = q.a k) ∧ (∀ k : Nat, k ≠ 33 → v.i k = q.i k) ∧ v.l = q.l ∧ v.b = q.b := by
  obtain ⟨⟨h1, h2⟩, h3, h4, h5, h6, h7, h8, h9, ⟨h10, h10b⟩, h11, h12⟩ := h
  have em : (-1 : Int32).toInt = -1 := by decide
  have vi : ∀ k : Nat, k ≠ 33 → v.i k = q.i k := fun k hk => by
    rcases hv with ⟨-, z⟩ | ⟨-, z⟩ <;> rw [z] <;> exact if_neg hk
  have v33 : v.i 33 = q.i 33 + 1 := by
    rcases hv with ⟨-, z⟩ | ⟨-, z⟩ <;> rw [z] <;> rfl
  have vl : v.l = q.l ∧ v.b = q.b := by
    rcases hv with ⟨-, z⟩ | ⟨-, z⟩ <;> rw [z] <;> exact ⟨rfl, rfl⟩
  have va : ∀ k : Nat, k ≠ 30 → k ≠ 34 → k ≠ 37 → k ≠ 72 → v.a k = q.a k := fun k k1 k2 k3 k4 => by
    rcases hv with ⟨-, z⟩ | ⟨-, z⟩ <;> rw [z, rsI_a, setA_nk k4]
    · rw [setA_nk k3, setA_nk k3, setA_nk k2]
    · rw [setA_nk k1, setA_nk k3, setA_nk k2]
  have v34 : ∀ j : Nat, j ≠ n → v.a 34 j = q.a 34 j := fun j hj => by
    rcases hv with ⟨-, z⟩ | ⟨-, z⟩ <;> rw [z, rsI_a, setA_nk (by decide)]
    · rw [setA_nk (by decide), setA_nk (by decide), setA_ne hj]
    · rw [setA_nk (by decide), setA_nk (by decide), setA_ne hj]
  have v34n : v.a 34 n = num := by
    rcases hv with ⟨-, z⟩ | ⟨-, z⟩ <;> rw [z, rsI_a, setA_nk (by decide)]
    · rw [setA_nk (by decide), setA_nk (by decide)]
      exact setA_at
    · rw [setA_nk (by decide), setA_nk (by decide)]
      exact setA_at
  have v72 : v.a 72 T = q.i 33 := by
    rcases hv with ⟨-, z⟩ | ⟨-, z⟩ <;> rw [z, rsI_a] <;> exact setA_at
  have v72' : ∀ j : Nat, j ≠ T → v.a 72 j = q.a 72 j := fun j hj => by
    rcases hv with ⟨-, z⟩ | ⟨-, z⟩ <;> rw [z, rsI_a, setA_ne hj]
    · rw [setA_nk (by decide), setA_nk (by decide), setA_nk (by decide)]
    · rw [setA_nk (by decide), setA_nk (by decide), setA_nk (by decide)]
  have t33 : (v.i 33).toInt = (n : Int) + 1 := by rw [v33, ad1 (by omega) (by omega), hn]
  have lt := kch.lt Lc _ h9
  -- the chain
  have chain : kch v (v.a 30 id) (Lc ++ [n]) ∧ (∀ j : Nat, j ≠ id → v.a 30 j = q.a 30 j) ∧ (∀ j : Nat, j ≠ n → (j : Int) ≠ (q.a 72 T).toInt → v.a 37 j = q.a 37 j) := by
    rcases hv with ⟨h0, z⟩ | ⟨h0, z⟩
    · have v30 : v.a 30 = q.a 30 := by
        rw [z, rsI_a, setA_nk (by decide), setA_nk (by decide), setA_nk (by decide), setA_nk (by decide)]
      obtain ⟨l, hl⟩ : ∃ l : Nat, l = (q.a 72 T).toNatClampNeg := ⟨_, rfl⟩
      have el : (q.a 72 T).toInt = (l : Int) := by
        rw [hl]
        show _ = (((q.a 72 T).toInt.toNat : Nat) : Int)
        omega
      rw [← hl] at z
      rcases lst_end Lc with e0 | ⟨L0, l', e0⟩
      · have := h10 e0
        omega
      · have e1 := h10b L0 l' e0
        have ell : l' = l := by omega
        rw [ell] at e0
        have ll := lt l (by rw [e0]; exact List.mem_append_right _ List.mem_cons_self)
        have v37l : v.a 37 l = q.i 33 := by
          rw [z, rsI_a, setA_nk (by decide)]
          exact setA_at
        have v37n : v.a 37 n = -1 := by
          rw [z, rsI_a, setA_nk (by decide), setA_ne (show n ≠ l by omega)]
          exact setA_at
        have v37 : ∀ j : Nat, j ≠ n → j ≠ l → v.a 37 j = q.a 37 j := fun j j1 j2 => by
          rw [z, rsI_a, setA_nk (by decide), setA_ne j2, setA_ne j1, setA_nk (by decide)]
        refine ⟨?_, fun j _ => by rw [v30], fun j j1 j2 => v37 j j1 (fun y => j2 (by rw [y]; exact el.symm))⟩
        rw [v30, e0]
        rw [e0] at h9
        have inc := kch.inc L0 l _ h9
        refine kch.ext (by omega) hn (by omega) (by rw [v37n, em]; omega) v37l L0 _ h9 (fun j hj => v37 j ?_ ?_) (fun j hj => ?_)
        · have := lt j (by rw [e0]; exact List.mem_append_left _ hj)
          omega
        · have := inc j hj
          omega
        · have := lt j (by rw [e0]; exact hj)
          omega
    · have e0 : Lc = [] := by
        rcases lst_end Lc with e0 | ⟨L0, l', e0⟩
        · exact e0
        · have := h10b L0 l' e0
          omega
      have v30 : v.a 30 id = q.i 33 := by
        rw [z, rsI_a, setA_nk (by decide)]
        exact setA_at
      have v37n : v.a 37 n = -1 := by
        rw [z, rsI_a, setA_nk (by decide), setA_nk (by decide)]
        exact setA_at
      refine ⟨?_, fun j hj => ?_, fun j j1 _ => ?_⟩
      · rw [e0, v30]
        exact ⟨hn, by omega, fun i hi => absurd hi List.not_mem_nil, show (v.a 37 n).toInt < 0 by rw [v37n, em]; omega⟩
      · rw [z, rsI_a, setA_nk (by decide), setA_ne hj, setA_nk (by decide), setA_nk (by decide)]
      · rw [z, rsI_a, setA_nk (by decide), setA_nk (by decide), setA_ne j1, setA_nk (by decide)]
  obtain ⟨c1, c2, c3⟩ := chain
  obtain ⟨⟨a0, a1, a2, a3, a4, a5, a6, a7, a8, a9⟩, ⟨b0, b1, b2⟩, cc⟩ := h5
  refine ⟨⟨⟨?_, h2.tr (fun j hj => ⟨by rw [va 64 (by decide) (by decide) (by decide) (by decide)], by rw [va 65 (by decide) (by decide) (by decide) (by decide)], by rw [va 66 (by decide) (by decide) (by decide) (by decide)], by rw [va 67 (by decide) (by decide) (by decide) (by decide)], by rw [va 68 (by decide) (by decide) (by decide) (by decide)], by rw [va 69 (by decide) (by decide) (by decide) (by decide)], by rw [va 70 (by decide) (by decide) (by decide) (by decide)], by rw [va 71 (by decide) (by decide) (by decide) (by decide)], v72' j (by omega), by rw [va 73 (by decide) (by decide) (by decide) (by decide)], by rw [vl.2]⟩)⟩, fun k k1 k2 k3 k4 => by rw [va k (by omega) (by omega) (by omega) k4]; exact h3 k k1 k2 k3 k4, by rw [va 71 (by decide) (by decide) (by decide) (by decide)]; exact h4, ⟨⟨(vi 2 (by decide)).trans a0, (vi 3 (by decide)).trans a1, (vi 8 (by decide)).trans a2, (vi 20 (by decide)).trans a3, (vi 24 (by decide)).trans a4, (vi 29 (by decide)).trans a5, (vi 38 (by decide)).trans a6, (vi 43 (by decide)).trans a7, (vi 56 (by decide)).trans a8, (vi 59 (by decide)).trans a9⟩, ⟨by rw [vl.2]; exact b0, by rw [vl.2]; exact b1, by rw [vl.2]; exact b2⟩, fun k hk => by rw [va k (by omega) (by omega) (by omega) (by omega)]; exact cc k hk⟩, by omega, fun j hj => (c2 j hj).trans (h7 j hj), fun j hj => ⟨?_, fun z => ?_⟩, c1, ⟨fun z => ?_, fun L0 j z => ?_⟩, fun j hj => ?_, Or.inr (by rw [v72]; omega)⟩, v34, v34n, va, vi, vl.1, vl.2⟩
  · show (v.i 63).toInt = _
    rw [vi 63 (by decide)]
    exact h1
  · rw [v34 j (by omega)]
    exact (h8 j hj).1
  · rw [c3 j (by omega) (fun y => ?_)]
    · exact (h8 j hj).2 z
    · rcases h12 with w | w
      · rw [w] at y
        exact z y
      · omega
  · have w := congrArg List.length z
    rw [List.length_append] at w
    simp at w
  · have w := lst_inj z
    rw [v72, hn, w]
  · rcases List.mem_append.mp hj with z | z
    · exact h11 j z
    · rcases List.mem_cons.mp z with z | z
      · rw [z]
        exact Or.inr (by omega)
      · exact absurd z List.not_mem_nil
