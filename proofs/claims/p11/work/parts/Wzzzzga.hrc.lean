/-! both readers: the rows of a catch -/
theorem lv16 {t g : Int32} (ht : NT5 t) (hg : 0 ≤ g.toInt ∧ g.toInt < 16) : (t * 16 + g) / 16 = t ∧ (t * 16 + g) - (t * 16 + g) / 16 * 16 = g := by
  obtain ⟨t0, t1⟩ := ht
  have e32 : (16 : Int32).toInt = 16 := by decide
  have m1 : (t * 16).toInt = t.toInt * 16 := by
    rw [Int32.toInt_mul, e32, Int.bmod_eq_of_le (by omega) (by omega)]
  have a1 : (t * 16 + g).toInt = t.toInt * 16 + g.toInt := by rw [toInt_add] <;> rw [m1] <;> omega
  have d1 : (t * 16 + g) / 16 = t := by
    refine Int32.toInt_inj.mp ?_
    rw [Int32.toInt_div, a1, e32, Int.tdiv_eq_ediv_of_nonneg (by omega), Int.bmod_eq_of_le (by omega) (by omega)]
    omega
  refine ⟨d1, Int32.toInt_inj.mp ?_⟩
  rw [d1, toInt_sub] <;> rw [a1, m1] <;> omega
/-- the rows of kinds, one behind the other -/
theorem hrw_cat {SF : CS} {U : RS} {AL : Als} {e : Ent} {c : List Ent} {W : Nat} {xb : Int32} {p0 n0 n' pb qb z l w : Nat} {L : List Int32} (mt : MTS SF xb p0 L) (h12 : ∀ y ∈ L, 0 ≤ y.toInt ∧ y.toInt < 12) (nx : NT5 xb) (h34 : ∀ (i : Nat) (x : Int32), L[i]? = some x → U.a 34 (n0 + i) = x) (h35 : ∀ i : Nat, i < L.length → (U.a 35 (n0 + i)).toInt = (qb : Int) ∧ (U.a 36 (n0 + i)).toInt = (l : Int)) (h37 : ∀ i : Nat, i + 1 < L.length → (U.a 37 (n0 + i)).toInt = ((n0 + i + 1 : Nat) : Int)) (ct : (cTg SF xb).toInt = (pb : Int)) (pl : pb < 1199) (c57 : SF.a 15 pb = 57 ∧ (SF.a 16 pb).toInt = (z : Int) ∧ z < 720) (al : AL (pb + 1) qb e.h w 0 ((2, e.h, e.x, e.y, z, l, e.u) :: c)) (wW : w ≤ W) (tl : ∀ i : Nat, i + 1 = L.length → HRW SF U AL e c W n' (p0 + L.length) (U.a 37 (n0 + i))) : ∀ (d i : Nat) (k : Int32), i + (d + 1) = L.length → k.toInt = ((n0 + i : Nat) : Int) → HRW SF U AL e c W (d + 1 + n') (p0 + i) k
  | 0, i, k, hi, hk => by
    have li : i < L.length := by omega
    obtain ⟨x, hx⟩ : ∃ x, L[i]? = some x := ⟨_, List.getElem?_eq_getElem li⟩
    obtain ⟨m1, m2, m3⟩ := mt i x hx
    have xm := h12 x (List.mem_of_getElem? hx)
    obtain ⟨v1, v2⟩ := lv16 nx (g := x) ⟨xm.1, by omega⟩
    have e9 : 0 + 1 + n' = n' + 1 := by omega
    rw [e9]
    refine ⟨m3, Or.inr (Or.inl ⟨m1, n0 + i, pb, qb, z, l, w, hk, ?_, ⟨?_, pl⟩, c57, h35 i li, ⟨al, wW⟩, ?_⟩)⟩
    · rw [m2, h34 i x hx]
      exact v2
    · rw [m2, v1]
      exact ct
    · have := tl i (by omega)
      have e8 : p0 + i + 1 = p0 + L.length := by omega
      rw [e8]
      exact this
  | d + 1, i, k, hi, hk => by
    have li : i < L.length := by omega
    obtain ⟨x, hx⟩ : ∃ x, L[i]? = some x := ⟨_, List.getElem?_eq_getElem li⟩
    obtain ⟨m1, m2, m3⟩ := mt i x hx
    have xm := h12 x (List.mem_of_getElem? hx)
    obtain ⟨v1, v2⟩ := lv16 nx (g := x) ⟨xm.1, by omega⟩
    have e9 : d + 1 + 1 + n' = (d + 1 + n') + 1 := by omega
    rw [e9]
    refine ⟨m3, Or.inr (Or.inl ⟨m1, n0 + i, pb, qb, z, l, w, hk, ?_, ⟨?_, pl⟩, c57, h35 i li, ⟨al, wW⟩, ?_⟩)⟩
    · rw [m2, h34 i x hx]
      exact v2
    · rw [m2, v1]
      exact ct
    · exact hrw_cat mt h12 nx h34 h35 h37 ct pl c57 al wW tl d (i + 1) _ (by omega) (by rw [h37 i (by omega)]; rfl)
/-- both classes: the same code so far -/
def AGCC (S T : CS) : Prop := (T.i 20 = S.i 20 ∧ T.i 21 = S.i 21 ∧ T.i 22 = S.i 22 ∧ T.i 44 = S.i 44) ∧ T.a 15 = S.a 15 ∧ T.a 16 = S.a 16 ∧ T.a 17 = S.a 17 ∧ T.a 19 = S.a 19
theorem ad_eq {N : Nat} {S : CS} {o x : Int32} {p : Unit × CS} (e : f_X0_add N S o x = some p) : p.2.i 20 = S.i 20 + 1 ∧ (∀ k : Nat, k ≠ 20 → p.2.i k = S.i k) ∧ p.2.a 15 = gPut (S.a 15) 1200 (S.i 20) o ∧ p.2.a 16 = gPut (S.a 16) 1200 (S.i 20) x ∧ (∀ k : Nat, k ≠ 15 → k ≠ 16 → p.2.a k = S.a k) ∧ p.2.o = S.o := by
  unfold f_X0_add at e
  cases e
  exact ⟨ci_at _ _ _, fun k hk => ci_ne _ _ _ hk, rfl, rfl, fun k h1 h2 => (if_neg h2).trans (if_neg h1), rfl⟩
theorem ai_eq {N : Nat} {S : CS} {x : Int32} {p : Unit × CS} (e : f_X0_aim N S x = some p) : p.2.i = S.i ∧ p.2.a 17 = gPut (S.a 17) 1024 x (S.i 20) ∧ (∀ k : Nat, k ≠ 17 → p.2.a k = S.a k) ∧ p.2.o = S.o := by
  unfold f_X0_aim at e
  cases e
  exact ⟨rfl, rfl, fun k h1 => if_neg h1, rfl⟩
theorem AGCC.add {N : Nat} {S T : CS} {o x : Int32} {p p' : Unit × CS} (h : AGCC S T) (e : f_X0_add N S o x = some p) (e' : f_X0_add N T o x = some p') : AGCC p.2 p'.2 := by
  obtain ⟨⟨h1, h2, h3, h4⟩, h5, h6, h7, h8⟩ := h
  obtain ⟨a1, a2, a3, a4, a5, -⟩ := ad_eq e
  obtain ⟨b1, b2, b3, b4, b5, -⟩ := ad_eq e'
  refine ⟨⟨by rw [a1, b1, h1], by rw [a2 21 (by decide), b2 21 (by decide), h2], by rw [a2 22 (by decide), b2 22 (by decide), h3], by rw [a2 44 (by decide), b2 44 (by decide), h4]⟩, by rw [a3, b3, h5, h1], by rw [a4, b4, h6, h1], by rw [a5 17 (by decide) (by decide), b5 17 (by decide) (by decide), h7], by rw [a5 19 (by decide) (by decide), b5 19 (by decide) (by decide), h8]⟩
theorem AGCC.aim {N : Nat} {S T : CS} {x : Int32} {p p' : Unit × CS} (h : AGCC S T) (e : f_X0_aim N S x = some p) (e' : f_X0_aim N T x = some p') : AGCC p.2 p'.2 := by
  obtain ⟨⟨h1, h2, h3, h4⟩, h5, h6, h7, h8⟩ := h
  obtain ⟨a1, a2, a3, -⟩ := ai_eq e
  obtain ⟨b1, b2, b3, -⟩ := ai_eq e'
  refine ⟨⟨by rw [a1, b1, h1], by rw [a1, b1, h2], by rw [a1, b1, h3], by rw [a1, b1, h4]⟩, by rw [a3 15 (by decide), b3 15 (by decide), h5], by rw [a3 16 (by decide), b3 16 (by decide), h6], by rw [a2, b2, h7, h1], by rw [a3 19 (by decide), b3 19 (by decide), h8]⟩
