/-! both machines: frames and records while other things change -/
/-- held by one of these frames -/
def HLB (s : CS) (c : List Ent) (b : Nat) : Prop := ∃ i f : Nat, i < frs c ∧ s.r 61 i = some f ∧ s.ot f = some b
theorem HLB.up {s : CS} {e : Ent} {c : List Ent} {b : Nat} (h : HLB s c b) : HLB s (e :: c) b := by
  obtain ⟨i, f, h1, h2, h3⟩ := h
  refine ⟨i, f, ?_, h2, h3⟩
  show i < frs c + (if e.k ≤ 3 then 1 else 0)
  omega
theorem frs_up {e : Ent} {c : List Ent} (h : e.k ≤ 3) : frs (e :: c) = frs c + 1 := by
  show frs c + (if e.k ≤ 3 then 1 else 0) = frs c + 1
  rw [if_pos h]
theorem frs_eq {e : Ent} {c : List Ent} (h : 3 < e.k) : frs (e :: c) = frs c := by
  show frs c + (if e.k ≤ 3 then 1 else 0) = frs c
  rw [if_neg (by omega)]
  rfl
theorem frs_le {e : Ent} {c : List Ent} : frs c ≤ frs (e :: c) := by
  show frs c ≤ frs c + (if e.k ≤ 3 then 1 else 0)
  omega
/-- what frames and records rest on is the same -/
def FEQ (s S : CS) (r R : RS) (mu nu : Nat → Nat) (c : List Ent) (m : Int) : Prop := (∀ i f : Nat, i < frs c → s.r 61 i = some f → S.r 61 i = some f ∧ S.o f = s.o f ∧ S.ot f = s.ot f) ∧ (∀ b : Nat, HLB s c b → TLV s r mu b → TLV S R nu b ∧ nu b = mu b ∧ R.a 87 (mu b) = r.a 87 (mu b)) ∧ (S.a 17 = s.a 17 ∧ R.a 21 = r.a 21 ∧ R.a 23 = r.a 23 ∧ R.a 31 = r.a 31 ∧ R.a 32 = r.a 32) ∧ (∀ j k : Nat, 100 ≤ j → j ≤ 109 → k < c.length → R.a j k = r.a j k) ∧ (∀ e ∈ c, (∀ k : Nat, cel e k → S.a 59 k = s.a 59 k) ∧ ∀ l : Nat, slo e l → R.a 84 l = r.a 84 l) ∧ ∀ j : Nat, (j : Int) < m → R.a 98 j = r.a 98 j
theorem FEQ.tl {s S : CS} {r R : RS} {mu nu : Nat → Nat} {e : Ent} {c : List Ent} {m m' : Int} (h : FEQ s S r R mu nu (e :: c) m) (hm : m' ≤ m) : FEQ s S r R mu nu c m' := by
  obtain ⟨h1, h2, h3, h4, h5, h6⟩ := h
  exact ⟨fun i f hi hf => h1 i f (Nat.lt_of_lt_of_le hi frs_le) hf, fun b hb => h2 b hb.up, h3, fun j k a b d => h4 j k a b (Nat.lt_succ_of_lt d), fun e' he => h5 e' (List.mem_cons_of_mem _ he), fun j hj => h6 j (by omega)⟩
theorem GL1.of {s S : CS} {r R : RS} {AL : Als} {c : List Ent} {h u : Nat} {T x d : Int32} (e17 : S.a 17 = s.a 17) (e21 : R.a 21 = r.a 21) (e31 : R.a 31 = r.a 31) (g : GL1 s r AL c h T x d u) : GL1 S R AL c h T x d u := by
  unfold GL1 FCA FCP cTg at *
  rw [e17, e21, e31]
  exact g
theorem GL2.of {s S : CS} {r R : RS} {AL : Als} {c : List Ent} {h u : Nat} {T d : Int32} (e17 : S.a 17 = s.a 17) (e21 : R.a 21 = r.a 21) (e31 : R.a 31 = r.a 31) (e23 : R.a 23 = r.a 23) (g : GL2 s r AL c h T d u) : GL2 S R AL c h T d u := by
  unfold GL2 FCA FCP cTg at *
  rw [e17, e21, e31, e23]
  exact g
theorem WYS.of {s S : CS} {r R : RS} {mu nu : Nat → Nat} {AL : Als} {c : List Ent} {h u : Nat} {way val T how x d value g : Int32} {t : Option Nat} (e17 : S.a 17 = s.a 17) (e21 : R.a 21 = r.a 21) (e31 : R.a 31 = r.a 31) (e23 : R.a 23 = r.a 23) (hb : ∀ b : Nat, t = some b → TLV s r mu b → TLV S R nu b ∧ nu b = mu b) (k : WYS s r mu AL c h u way val T t how x d value g) : WYS S R nu AL c h u way val T t how x d value g := by
  rcases k with ⟨a1, a2, a3⟩ | ⟨a1, a2, a3, a4⟩ | a | ⟨a1, a2, a3, b, a4, a5, a6⟩
  · exact Or.inl ⟨a1, a2, a3.of e17 e21 e31⟩
  · exact Or.inr (Or.inl ⟨a1, a2, a3, a4.of e17 e21 e31 e23⟩)
  · exact Or.inr (Or.inr (Or.inl a))
  · obtain ⟨z1, z2⟩ := hb b a4 a6
    exact Or.inr (Or.inr (Or.inr ⟨a1, a2, a3, b, a4, by rw [z2]; exact a5, z1⟩))
theorem FRA.of {s S : CS} {f : Nat} {c : List Ent} {ph : Int32} {h : Nat} (g : FRA s f c ph h) (e1 : S.r 61 (frs c) = some f) (e2 : S.o f = s.o f) : FRA S f c ph h := by
  unfold FRA at *
  rw [e2]
  exact ⟨e1, g.2⟩
theorem FRS.of {s S : CS} {r R : RS} {mu nu : Nat → Nat} {AL : Als} : ∀ {c : List Ent} {m : Int}, FRS s r mu AL c m → FEQ s S r R mu nu c m → FRS S R nu AL c m
  | [], _, h, _ => h
  | e :: c, m, ⟨h0, h⟩, q => by
    obtain ⟨q1, q2, ⟨q17, q21, q23, q31, q32⟩, q4, q5, q6⟩ := id q
    have hl : c.length < (e :: c).length := Nat.lt_succ_self _
    have ej : ∀ j : Nat, 100 ≤ j → j ≤ 109 → R.a j c.length = r.a j c.length := fun j h1 h2 => q4 j c.length h1 h2 hl
    have fr : e.k ≤ 3 → ∀ f : Nat, s.r 61 (frs c) = some f → S.r 61 (frs c) = some f ∧ S.o f = s.o f ∧ S.ot f = s.ot f := fun hk f hf => q1 (frs c) f (by rw [frs_up hk]; omega) hf
    have hb : e.k ≤ 3 → ∀ f b : Nat, s.r 61 (frs c) = some f → s.ot f = some b → HLB s (e :: c) b := fun hk f b h1 h2 => ⟨frs c, f, by rw [frs_up hk]; omega, h1, h2⟩
    refine ⟨by rw [ej 104 (by decide) (by decide)]; exact h0, ?_⟩
    rw [ej 100 (by decide) (by decide), ej 101 (by decide) (by decide), ej 102 (by decide) (by decide), ej 103 (by decide) (by decide)]
    rcases h with ⟨k0, a1, ⟨f, a2, a3⟩, a4⟩ | ⟨k1, a1, a2, ⟨f, a3, a4, a5, a6⟩, a7⟩ | ⟨k2, a1, a2, ⟨f, b, a3, a4, a5, a6, a7, a8⟩, a9⟩ | ⟨k3, a1, a2, ⟨f, a3, a4⟩, a5⟩ | ⟨k4, a1, m0, a2, a3⟩ | ⟨k5, a1, a2, a3⟩
    · obtain ⟨w1, w2, w3⟩ := fr (by omega) f a2.1
      exact Or.inl ⟨k0, a1, ⟨f, a2.of w1 w2, by rw [w2]; exact a3⟩, FRS.of a4 (q.tl (Int.le_refl _))⟩
    · obtain ⟨w1, w2, w3⟩ := fr (by omega) f a3.1
      exact Or.inr (Or.inl ⟨k1, a1, a2, ⟨f, a3.of w1 w2, by rw [w2]; exact a4, by rw [w2]; exact a5, a6⟩, FRS.of a7 (q.tl (Int.le_refl _))⟩)
    · obtain ⟨w1, w2, w3⟩ := fr (by omega) f a3.1
      obtain ⟨y1, y2, y3⟩ := q2 b (hb (by omega) f b a3.1 a5) a6
      obtain ⟨x1, x2⟩ := q5 e List.mem_cons_self
      refine Or.inr (Or.inr (Or.inl ⟨k2, a1, a2, ⟨f, b, a3.of w1 w2, by rw [w2]; exact a4, by rw [w3]; exact a5, y1, ?_, ?_⟩, FRS.of a9 (q.tl (Int.le_refl _))⟩))
      · rw [x2 e.w ⟨k2, rfl⟩, y2]
        exact a7
      · rw [x1 e.z (Or.inl ⟨k2, rfl⟩), y2, y3]
        exact a8
    · obtain ⟨w1, w2, w3⟩ := fr (by omega) f a3.1
      refine Or.inr (Or.inr (Or.inr (Or.inl ⟨k3, a1, a2, ⟨f, a3.of w1 w2, ?_⟩, FRS.of a5 (q.tl (Int.le_refl _))⟩)))
      unfold PNF
      rw [w2, w3, ej 105 (by decide) (by decide), ej 106 (by decide) (by decide), ej 107 (by decide) (by decide), ej 108 (by decide) (by decide), ej 109 (by decide) (by decide)]
      rcases a4 with a4 | a4
      · left
        unfold FCP cTg at *
        rw [q17, q21, q32]
        exact a4
      · exact Or.inr (fun fc => (a4 (by unfold FCP at *; rw [q21] at fc; exact fc)).of q17 q21 q31 q23 (fun b hb' t => by
          obtain ⟨y1, y2, -⟩ := q2 b (hb (by omega) f b a3.1 hb') t
          exact ⟨y1, y2⟩))
    · obtain ⟨x1, x2⟩ := q5 e List.mem_cons_self
      obtain ⟨i, b1, b2, b3, b4, b5, b6, b7, b8, b9⟩ := a2
      refine Or.inr (Or.inr (Or.inr (Or.inr (Or.inl ⟨k4, a1, m0, ⟨i, b1, b2, b3, ?_, ?_, ?_, ?_, ?_, fun j hj => ?_⟩, FRS.of a3 (q.tl (by omega))⟩))))
      · rw [ej 101 (by decide) (by decide)]; exact b4
      · rw [ej 102 (by decide) (by decide)]; exact b5
      · rw [ej 103 (by decide) (by decide)]; exact b6
      · rw [x1 e.x (Or.inr ⟨k4, by omega, by omega⟩)]; exact b7
      · rw [x1 (e.x + 1) (Or.inr ⟨k4, by omega, by omega⟩)]; exact b8
      · rw [x1 (e.x + 2 + j) (Or.inr ⟨k4, by omega, by omega⟩), q6 (m0.toNat + j) (by omega)]
        exact b9 j hj
    · exact Or.inr (Or.inr (Or.inr (Or.inr (Or.inr ⟨k5, a1, a2, FRS.of a3 (q.tl (Int.le_refl _))⟩))))
