/-! the class's reading: all turns -/
/-- so many limits as arms -/
theorem RCH.ams {s : CS} {DT : Nat → List Nat} {KT : Nat → Prop} : ∀ (n : Nat) (c : List Nat) (lim : List Int), RCH s DT KT n c lim → (lim.length : Int) = 1 + 2 * AMS s n
  | 0, _, _, ⟨_, l, e, h⟩ => by rw [e]; rfl
  | n + 1, c, lim, ⟨a, c0, lim', ea, _, r, hr⟩ => by
    have ih := RCH.ams n c0 lim' hr
    have er := rowA.of ea
    have e1 : AMS s (n + 1) = AMS s n + (if s.o a 0 = 302 then 1 else 0) := by
      show AMS s n + (if s.o (rowA s n) 0 = 302 then 1 else 0) = _
      rw [er]
    rw [e1]
    have no : ∀ w : Int32, s.o a 0 = w → ¬ w = 302 → lim' = lim → (lim.length : Int) = 1 + 2 * (AMS s n + (if s.o a 0 = 302 then 1 else 0)) := fun w e q f => by
      rw [if_neg (by rw [e]; exact q), ← f]; omega
    obtain ⟨-, -, r3⟩ := r
    rcases r3 with ⟨z1, z2, e⟩ | ⟨z1, z2, z3, w⟩ | ⟨z1, z2, z3, e⟩ | ⟨z1, z2, z3, e⟩ | ⟨z1, z2, z3, z4, e⟩ | ⟨z1, z2, z3, z4, z5, e⟩ | ⟨z1, z2, z3, z4, z5, w⟩ | ⟨z1, z2, z3, e⟩ | ⟨z1, z2, z3, z4, z5, e⟩ | ⟨z1, z2, z3, z4, z5, e⟩ | ⟨z1, z2, z3, z4, e⟩ | ⟨z1, z2, z3, e⟩
    · rcases z1 with z1 | z1
      · exact no _ z1 (by decide) e
      · exact no _ z1 (by decide) e
    · obtain ⟨v, v1, -⟩ := w
      rw [if_pos z1, v1]
      have : (v :: v :: lim').length = lim'.length + 2 := rfl
      omega
    · exact no _ z1 (by decide) e
    · rcases z1 with z1 | z1
      · exact no _ z1 (by decide) e
      · exact no _ z1 (by decide) e
    · rcases z1 with z1 | z1 | z1
      · exact no _ z1 (by decide) e
      · exact no _ z1 (by decide) e
      · exact no _ z1 (by decide) e
    · exact no _ z1 (by decide) e
    · obtain ⟨l, T, w1, w2, -⟩ := w
      rw [if_neg (by rw [z1]; decide)]
      have l1 : lim.length = T.length + 1 := by rw [w1]; rfl
      have l2 : lim'.length = T.length + 1 := by rw [w2]; rfl
      omega
    · exact no _ z1 (by decide) e
    · exact no _ z1 (by decide) e
    · exact no _ z1 (by decide) e
    · exact no _ z1 (by decide) e
    · exact no _ z1 (by decide) e
theorem AMS.mono {s : CS} (n : Nat) : ∀ j : Nat, AMS s n ≤ AMS s (n + j) ∧ SGS s n ≤ SGS s (n + j)
  | 0 => ⟨Int.le_refl _, Int.le_refl _⟩
  | j + 1 => by
    have ih := AMS.mono (s := s) n j
    have e1 : AMS s (n + (j + 1)) = AMS s (n + j) + (if s.o (rowA s (n + j)) 0 = 302 then 1 else 0) := rfl
    have e2 : SGS s (n + (j + 1)) = SGS s (n + j) + sgn s (rowA s (n + j)) := rfl
    have g1 : 0 ≤ (if s.o (rowA s (n + j)) 0 = 302 then (1 : Int) else 0) := by
      by_cases q : s.o (rowA s (n + j)) 0 = 302
      · rw [if_pos q]; decide
      · rw [if_neg q]; decide
    have g2 : 0 ≤ sgn s (rowA s (n + j)) := by
      unfold sgn
      by_cases q : s.o (rowA s (n + j)) 0 = 302
      · rw [if_pos q]; decide
      · rw [if_neg q]
        by_cases q2 : s.o (rowA s (n + j)) 0 = 301 ∨ s.o (rowA s (n + j)) 0 = 212 ∨ s.o (rowA s (n + j)) 0 = 218 ∨ s.o (rowA s (n + j)) 0 = 213 ∨ s.o (rowA s (n + j)) 0 = 215 ∨ s.o (rowA s (n + j)) 0 = 216
        · rw [if_pos q2]; decide
        · rw [if_neg q2]; decide
    omega
/-- only the row on top may be one behind a try, and then its names are gone -/
def G5 (n0 : Nat) (s : CS) : Prop := ∀ i a : Nat, n0 ≤ i → (i : Int) < cnI s → s.r 51 i = some a → s.o a 0 = 305 → (i : Int) + 1 = cnI s ∧ nmI s = (s.o a 3).toInt
theorem G5.of {n0 m : Nat} {σ R : CS} (g : G5 n0 σ) (t : TNR σ R) (hm : cnI σ = (m : Int) + 1) (nr : NR σ (m + 1)) (hA : cnI R = (m : Int) ∨ (∀ b : Nat, R.r 51 m = some b → R.o b 0 = 305 → cnI R = (m : Int) + 1 ∧ nmI R = (R.o b 3).toInt)) : G5 n0 R := fun i a i0 i1 ea e5 => by
  obtain ⟨-, -, -, ⟨-, -, w1, w2⟩, rq, -⟩ := t
  rw [show (cnI σ).toNat - 1 = m by omega] at rq
  by_cases c : i < m
  · exfalso
    have q := rq i c
    obtain ⟨b, eb⟩ := nr i (by omega)
    have ea' := q.1.symm.trans ea
    have := g i a i0 (by omega) ea' (by rw [← (q.2 a ea').1]; exact e5)
    omega
  · by_cases c2 : i = m
    · rw [c2] at ea
      rcases hA with z | z
      · omega
      · have := z a ea e5
        omega
    · exfalso
      have ei : i = (cnI σ).toNat := by omega
      rw [ei] at ea
      exact w2 (by omega) a ea e5
/-- what stands at every turn, since B: n0 rows stay, the row over them will end it -/
def TIV (H : HB) (x y : Int) (X : List (Nat × List Nat)) (P : List Nat) (T : List Int) (B : CS) (n0 : Nat) (b3 : Int) (σ : CS) : Prop := CBS H σ ∧ (σ.i 32 = 0 → (∃ c : List Nat, JJ H x y c X P (ccI σ :: T) σ) ∧ (plI B ≤ plI σ ∧ eI B ≤ eI σ) ∧ sgI σ - SGS σ (cnI σ).toNat = sgI B - SGS B (n0 + 1) ∧ (n0 : Int) < cnI σ ∧ RSQ B σ (n0 + 1) ∧ (∀ n : Nat, (n : Int) < b3 → σ.a 49 n = B.a 49 n) ∧ (∀ i : Nat, (i : Int) < lmh T → σ.a 18 i = B.a 18 i ∧ σ.a 19 i = B.a 19 i) ∧ σ.i 56 = B.i 56 ∧ G5 n0 σ)
theorem GW.geT {cD c : List Nat} {X : List (Nat × List Nat)} {P : List Nat} {l : Int} {T : List Int} {s : CS} (h : GW cD c X P (l :: T) s) : lmh T ≤ l ∧ 0 ≤ lmh T := by
  obtain ⟨D, DT, KT, -, -, -, -, -, ⟨n, -, -, n3⟩, -⟩ := h
  obtain ⟨l2, T2, e, e0, eT⟩ := RCH.ge n _ _ n3
  have q := List.cons.inj e
  rw [q.1, q.2]
  cases T2 with
  | nil => exact ⟨e0, Int.le_refl _⟩
  | cons v T3 =>
    have := eT v (List.mem_cons_self ..)
    exact ⟨this.2, this.1⟩
theorem TIV.step {H : HB} {x y : Int} {X : List (Nat × List Nat)} {P : List Nat} {T : List Int} {B : CS} {n0 : Nat} {b3 : Int} {σ R : CS} {a0 m : Nat} (h : TIV H x y X P T B n0 b3 σ) (nf : σ.i 32 = 0) (e0 : B.r 51 n0 = some a0) (e3 : (B.o a0 3).toInt = b3) (hm : cnI σ = (m : Int) + 1) (t : TRO H x y X P T σ m R) (hn : R.i 32 = 0 → (n0 : Int) < cnI R) (hq : R.i 32 = 0 → RSQ σ R (n0 + 1)) : TIV H x y X P T B n0 b3 R := by
  refine ⟨t.1.1, fun z => ?_⟩
  obtain ⟨⟨c, j⟩, ⟨b1, b1'⟩, b2, b4, b5, b6, b7, b8, b9⟩ := h.2 nf
  obtain ⟨jc, tn⟩ := t.1.2 z
  obtain ⟨g, n⟩ := j.2 nf
  have nr := h.1.2.2.2.2.2.2.1.2.2
  rw [show (cnI σ).toNat = m + 1 by omega] at nr
  have nm3 : b3 ≤ nmI σ := by
    have q := b5 n0 (by omega)
    obtain ⟨D, DT, KT, -, -, -, -, -, -, -, -, -, nmb⟩ := g
    have := (nmb n0 a0 b4 (q.1.trans e0)).1
    rw [(q.2 a0 e0).1, e3] at this
    exact this
  have lT := g.geT
  have t2 := tn.2.1
  refine ⟨jc, ⟨by omega, by omega⟩, by rw [tn.2.2.1]; exact b2, hn z, b5.tr (hq z), fun k hk => ?_, fun i hi => ?_, tn.2.2.2.2.2.2.2.trans b8, b9.of tn hm nr (t.2 z)⟩
  · rw [tn.2.2.2.2.2.1 k (by omega)]; exact b6 k hk
  · have w := tn.2.2.2.2.2.2.1 i (by omega)
    have w2 := b7 i hi
    exact ⟨w.1.trans w2.1, w.2.trans w2.2⟩
