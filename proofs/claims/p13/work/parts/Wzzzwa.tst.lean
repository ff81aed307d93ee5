/-! both readers: a try on top -/
theorem kch.last {s : RS} : ∀ (L0 : List Nat) (j : Nat) (k : Int32), kch s k (L0 ++ [j]) → (s.a 37 j).toInt < 0
  | [], _, _, h => h.2.2.2
  | _ :: L0, j, _, h => kch.last L0 j _ h.2.2.2
theorem lst_cat : ∀ (L : List Nat), L = [] ∨ ∃ (L0 : List Nat) (j : Nat), L = L0 ++ [j]
  | [] => Or.inl rfl
  | a :: L => by
    rcases lst_cat L with e | ⟨L0, j, e⟩
    · exact Or.inr ⟨[], a, by rw [e]; rfl⟩
    · exact Or.inr ⟨a :: L0, j, by rw [e]; rfl⟩
/-- the last catch of a try: among those of its row -/
theorem STK.k72 {S : CS} {s : RS} : ∀ (L : List CEL) (m e k : Int), STK S s L m e k → ∀ y ∈ L, isTy (S.o y.2.1 0) → (s.a 72 (ceT y)).toInt < 0 ∨ (s.a 72 (ceT y)).toInt < k
  | [], _, _, _, _, _, hy, _ => absurd hy List.not_mem_nil
  | c :: L, m, e, k, h, y, hy, ty => by
    obtain ⟨m', e', k', h1, -, h3⟩ := h
    rcases List.mem_cons.mp hy with z | z
    · rw [z] at ty ⊢
      obtain ⟨-, M, -, -, ⟨l1, l2⟩, l3⟩ := h1.2.2.2.2.2.2 ty
      rcases lst_cat M with w | ⟨M0, j, w⟩
      · exact Or.inl (l1 w)
      · have z1 := l2 M0 j w
        have z2 := (l3 j (by rw [w]; exact List.mem_append_right _ List.mem_cons_self)).2
        exact Or.inr (by omega)
    · have kk : k' ≤ k := by
        by_cases c8 : isTy (S.o c.2.1 0)
        · exact (h1.2.2.2.2.2.2 c8).1
        · rw [h1.2.2.2.2.2.1 c8]
          exact Int.le_refl _
      rcases STK.k72 L m' e' k' h3 y z ty with w | w
      · exact Or.inl w
      · exact Or.inr (by omega)
/-- what is known of a try on top -/
theorem COR.tys {d : Int32} {B : CS} {b : RS} {t0 : Nat} {L : List CEL} {x : Int} {S : CS} {s σ0 : RS} {c1 c : CEL} (hC : COR d B b t0 (c1 :: c :: L) x S s) (tp : TOP S s c1) (bz : BAZ B b (c1 :: c :: L)) (ty : isTy (S.o c1.2.1 0)) (σi : (σ0.i 56).toInt = (ceW c1 : Int)) (σa : ∀ k : Nat, k ≠ 32 → σ0.a k = s.a k) : (∀ q ∈ vws S s (c :: L), isTyv q → ¬ q.2.1 66 = s.a 66 (ceT c1) ∧ 0 ≤ (q.2.1 66).toInt) ∧ (∀ q ∈ vws S s (c :: L), isTyv q → 0 ≤ (s.a 72 (ceT c1)).toInt → ¬ q.2.1 72 = s.a 72 (ceT c1)) ∧ ((b.i 29).toInt ≤ (s.a 66 (ceT c1)).toInt ∧ 0 ≤ (b.i 29).toInt) ∧ ((s.a 72 (ceT c1)).toInt < 0 → (s.a 30 (s.a 66 (ceT c1)).toNatClampNeg).toInt < 0) ∧ (0 ≤ (s.a 72 (ceT c1)).toInt → (s.a 37 (s.a 72 (ceT c1)).toNatClampNeg).toInt < 0) ∧ ∀ i : Nat, WTS σ0 i → ∀ r ∈ vws S s (c :: L), isGo r.v → (σ0.a 60 i).toInt = ((r.2.2.2 : Nat) : Int) → ∃ r3 ∈ vws S s (c :: L), isTyv r3 ∧ isWl r3.v ∧ σ0.a 57 ((σ0.i 56).toInt - 1).toNat = r3.2.1 66 ∧ r.2.2.1 < r3.2.2.1 := by
  obtain ⟨m', e', k', c1s, lkl, stl⟩ := id hC.2.1
  obtain ⟨lk, lw⟩ := lkl c rfl
  have jm := hC.2.2.1.2.2.2.2
  have ord := STK.ord (c :: L) c1 _ _ _ hC.2.1
  obtain ⟨kk, M, hk, -, ⟨l1, l2⟩, l3⟩ := c1s.2.2.2.2.2.2 ty
  have t1 := tp.1
  have n1 := lk.1
  obtain ⟨r1, r2, r3, r4, r5⟩ := BAZ.all hC.2.2.2.2.1 L c _ _ _ bz stl (by omega)
  have mem : ∀ q ∈ vws S s (c :: L), ∃ y ∈ c :: L, q = vw S s y := fun q hq => by
    obtain ⟨y, hy, e⟩ := List.mem_map.mp hq
    exact ⟨y, hy, e.symm⟩
  have b29 : 0 ≤ (b.i 29).toInt := hC.2.2.2.2.2.2.2.2.2.2.1
  refine ⟨fun q hq tq => ⟨fun z => ?_, ?_⟩, fun q hq tq z0 z => ?_, ⟨jm.1 c1 List.mem_cons_self ty, hC.2.2.2.2.2.2.2.2.2.2.1⟩, fun z => ?_, fun z => ?_, fun i hw r hr gr e60 => ?_⟩
  · obtain ⟨y, hy, e⟩ := mem q hq
    rw [e] at tq z
    rw [vw_at (k := 66) ⟨by decide, by decide⟩] at z
    have w := jm.2.1 y (List.mem_cons_of_mem _ hy) c1 List.mem_cons_self tq ty (ord y hy)
    rw [z] at w
    omega
  · obtain ⟨y, hy, e⟩ := mem q hq
    rw [e] at tq ⊢
    rw [vw_at (k := 66) ⟨by decide, by decide⟩]
    have := jm.1 y (List.mem_cons_of_mem _ hy) tq
    omega
  · obtain ⟨y, hy, e⟩ := mem q hq
    rw [e] at tq z
    rw [vw_at (k := 72) ⟨by decide, by decide⟩] at z
    rcases lst_cat M with w | ⟨M0, j, w⟩
    · have := l1 w
      omega
    · have z1 := l2 M0 j w
      have z2 := (l3 j (by rw [w]; exact List.mem_append_right _ List.mem_cons_self)).1
      rcases STK.k72 _ _ _ _ stl y hy tq with z3 | z3 <;> rw [z] at z3 <;> omega
  · rcases lst_cat M with w | ⟨M0, j, w⟩
    · rw [w] at hk
      exact hk
    · have z1 := l2 M0 j w
      omega
  · rcases lst_cat M with w | ⟨M0, j, w⟩
    · have := l1 w
      omega
    · have z1 := l2 M0 j w
      rw [w] at hk
      have ck := clampI z
      have ej : (s.a 72 (ceT c1)).toNatClampNeg = j := by omega
      rw [ej]
      exact kch.last M0 j _ hk
  · obtain ⟨y, hy, e⟩ := mem r hr
    obtain ⟨inj1, inj2⟩ := STK.inj (c :: L) _ _ _ stl
    have l5 := lk.2.2.2.1
    have e60' : (σ0.a 60 i).toInt = (ceG y : Int) := by rw [e60, e]; rfl
    obtain ⟨w1, w2⟩ := hw
    rw [e60', σa 58 (by decide)] at w2
    rcases WLT L c _ _ _ stl r3 with ⟨q, hq, q1, q2, -⟩ | ⟨-, q2, q3⟩
    · have ei : ((σ0.i 56).toInt - 1).toNat = ceW q := by omega
      obtain ⟨⟨t57, t58⟩, -⟩ := stl.ty q hq q1
      rw [ei, t58] at w2
      refine ⟨vw S s q, List.mem_map.mpr ⟨q, hq, rfl⟩, q1.ty, q1, ?_, ?_⟩
      · rw [ei, σa 57 (by decide), t57, vw_at (k := 66) ⟨by decide, by decide⟩]
      · rw [e]
        show y.1 < q.1
        by_cases c1' : y.1 < q.1
        · exact c1'
        · by_cases c2 : y.1 = q.1
          · rw [inj1 y hy q hq c2] at w2
            omega
          · have := (inj2 q hq y hy (by omega)).2.1
            omega
    · exfalso
      have tbw := hC.2.2.2.2.2.1.2.1.2.2.2.2.2.1
      have b56 : (b.i 56).toInt = (σ0.i 56).toInt := by omega
      have z1 := q3 (by omega)
      have z2 := (tbw ((b.i 56).toInt - 1).toNat (by omega)).2
      rw [b56] at z1 z2
      rw [z2] at w2
      have z3 := STK.glb L c _ _ _ stl r1 y hy
      omega
