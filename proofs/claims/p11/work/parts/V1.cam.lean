/-! the class's reading: an arm -/
/-- one frame more than signs, at most -/
theorem RCH.len1 {s : CS} {DT : Nat → List Nat} {KT : Nat → Prop} {n : Nat} {c : List Nat} {lim : List Int} (h : RCH s DT KT n c lim) : (c.length : Int) ≤ SGS s n + 1 := by
  by_cases q : ∃ m a : Nat, n = m + 1 ∧ s.r 51 m = some a ∧ s.o a 0 = 305
  · obtain ⟨m, a, e, ea, e5⟩ := q
    subst e
    obtain ⟨b, c0, L0, h1, h2, r, -⟩ := h
    have eb : b = a := Option.some.inj (h1.symm.trans ea)
    rw [eb] at r h2
    have ec := (r.cx.2.2.1 (Or.inr e5)).1
    have ax : arx s a = 0 := by unfold arx; rw [if_neg (by rw [e5]; decide)]
    have mo := (AMS.mono (s := s) m 1).2
    have : c.length = c0.length + 1 := by rw [ec]; rfl
    omega
  · have := h.len (fun m a e ea e5 => q ⟨m, a, e, ea, e5⟩)
    omega
theorem JK.len1 {H : HB} {x y : Int} {cD c d : List Nat} {X : List (Nat × List Nat)} {P : List Nat} {lim : List Int} {s : CS} (h : JK H x y cD c d X P lim s) (nf : s.i 32 = 0) : (c.length : Int) ≤ SGS s (cnI s).toNat + 1 := by
  obtain ⟨D, DT, KT, -, -, -, -, -, ⟨n, n1, -, n3⟩, -⟩ := (h.2 nf).1
  have e : (cnI s).toNat = n := by omega
  rw [e]
  exact n3.len1
/-- what a row's sort does to the context -/
def ctf (o : Int32) (c0 : List Nat) : List Nat := if o = 212 then 0 :: c0 else if o = 213 then 1 :: c0 else if o = 215 ∨ o = 305 then 2 :: c0 else if o = 216 then 3 :: c0 else c0
theorem ROW1.fn {s : CS} {DT : Nat → List Nat} {KT : Nat → Prop} {a : Nat} {c0 c : List Nat} {lim lim' : List Int} (r : ROW1 s DT KT a c0 c lim lim') : c = ctf (s.o a 0) c0 := by
  obtain ⟨r1, r2, r3⟩ := r
  rcases r3 with ⟨z1, z2, e⟩ | ⟨z1, z2, z3, z4⟩ | ⟨z1, z2, z3, e⟩ | ⟨z1, z2, z3, e⟩ | ⟨z1, z2, z3, z4, e⟩ | ⟨z1, z2, z3, z4, z5, e⟩ | ⟨z1, z2, z3, z4, z5, z6⟩ | ⟨z1, z2, z3, e⟩ | ⟨z1, z2, z3, z4, z5, e⟩ | ⟨z1, z2, z3, z4, z5, e⟩ | ⟨z1, z2, z3, z4, e⟩ | ⟨z1, z2, z3, e⟩
  · rcases z1 with z1 | z1 <;> rw [z1, z2] <;> rfl
  · rw [z1, z2]; rfl
  · rw [z1, z2]; rfl
  · rcases z1 with z1 | z1 <;> rw [z1, z2] <;> rfl
  · rcases z1 with z1 | z1 | z1 <;> rw [z1, z2] <;> rfl
  · rw [z1, z2]; rfl
  · rw [z1, z2]; rfl
  · rw [z1, z2]; rfl
  · rw [z1, z2]; rfl
  · rw [z1, z2]; rfl
  · rw [z1, z2]; rfl
  · rw [z1, z2]; rfl
/-- the rows tell the context -/
theorem RCH.uc {s R : CS} {DT DT' : Nat → List Nat} {KT KT' : Nat → Prop} : ∀ (n : Nat) (c c' : List Nat) (lim lim' : List Int), RCH s DT KT n c lim → RCH R DT' KT' n c' lim' → RSQ s R n → c' = c
  | 0, _, _, _, _, ⟨h, _⟩, ⟨g, _⟩, _ => by rw [h, g]
  | n + 1, c, c', lim, lim', ⟨a, c0, l0, ea, _, r, hr⟩, ⟨b, d0, m0, eb, _, q, hq⟩, rs => by
    have ih := RCH.uc n c0 d0 l0 m0 hr hq (rs.lo (by omega))
    have w := rs n (by omega)
    have e : b = a := by
      rw [w.1, ea] at eb
      exact (Option.some.inj eb).symm
    rw [r.fn, q.fn, ih, e, (w.2 a ea).1]
theorem JJ.uc {H H' : HB} {x y x' y' : Int} {c c' : List Nat} {X X' : List (Nat × List Nat)} {P P' : List Nat} {lim lim' : List Int} {s R : CS} (h : JJ H x y c X P lim s) (h' : JJ H' x' y' c' X' P' lim' R) (nf : s.i 32 = 0) (nf' : R.i 32 = 0) (e : cnI R = cnI s) (rs : RSQ s R (cnI s).toNat) : c' = c := by
  obtain ⟨D, DT, KT, -, -, -, -, -, ⟨n, n1, -, n3⟩, -⟩ := (h.2 nf).1
  obtain ⟨D', DT', KT', -, -, -, -, -, ⟨n', n1', -, n3'⟩, -⟩ := (h'.2 nf').1
  have en : n' = n := by omega
  rw [en] at n3'
  exact RCH.uc n c c' lim lim' n3 n3' (rs.lo (by omega))
/-- the state in which an arm's turns begin -/
noncomputable def armB (p : CS) (a : Nat) (t v : Int32) : CS := CS.setI (CS.setI (CS.setO (CS.setO p a 9 t) a 16 (p.i 56)) 56 v) 36 1
theorem armB.i (p : CS) (a : Nat) (t v : Int32) : ∀ j : Nat, j ≠ 36 → j ≠ 56 → (armB p a t v).i j = p.i j := fun j h1 h2 => by
  unfold armB
  rw [ci_ne _ _ _ h1, ci_ne _ _ _ h2]
  rfl
theorem armB.i56 (p : CS) (a : Nat) (t v : Int32) : (armB p a t v).i 56 = v := by
  unfold armB
  rw [ci_ne _ _ _ (by decide), ci_at]
theorem armB.f (p : CS) (a : Nat) (t v : Int32) : (armB p a t v).a = p.a ∧ (armB p a t v).r = p.r ∧ (∀ b k : Nat, oK p b k → oK (armB p a t v) b k) := ⟨rfl, rfl, fun _ _ h => h⟩
theorem armB.o (p : CS) (a : Nat) (t v : Int32) : (armB p a t v).o a = upd (upd (p.o a) 9 t) 16 (p.i 56) ∧ ∀ b : Nat, b ≠ a → (armB p a t v).o b = p.o b ∧ (armB p a t v).ol b = p.ol b := by
  have u := ((OUV.rf p a).o 9 t).o 16 (p.i 56)
  unfold armB
  rw [co_setI, co_setI, col_setI, col_setI]
  exact ⟨u.2.2.1, u.2.1⟩
theorem armB.cb {H : HB} {p : CS} (h : CBS H p) (a : Nat) (t v : Int32) : CBS H (armB p a t v) := by
  unfold armB
  have h1 := ((h.o a 9 t (fun q => by omega) (fun q => by omega)).o a 16 (p.i 56) (fun q => by omega) (fun q => by omega)).s56 v
  exact ((IRR.rf h1).i 36 1 (by unfold IRJ; omega) (fun _ => Or.inr rfl)).cb h1
