/-! what a piece of reading lays: frames of both codes, and that the piece runs alike -/
def pcC (S : CS) : Nat := (S.i 20).toInt.toNat
def pcR (s : RS) : Nat := (s.i 20).toInt.toNat
/-- the class's code and targets are few -/
def CRB (S : CS) : Prop := (0 ≤ (S.i 20).toInt ∧ (S.i 20).toInt ≤ (S.i 44).toInt + 8) ∧ (0 ≤ (S.i 21).toInt ∧ (S.i 21).toInt ≤ (S.i 44).toInt + 8 ∧ 0 ≤ (S.i 23).toInt ∧ 2 * (S.i 23).toInt ≤ (S.i 44).toInt + 8)
/-- the class: what was laid stays; d = instructions, e = targets that no byte has paid -/
def CD1 (d e : Int) (S R : CS) : Prop := ((S.i 20).toInt ≤ (R.i 20).toInt ∧ (R.i 20).toInt + (S.i 44).toInt ≤ (S.i 20).toInt + (R.i 44).toInt + d ∧ (R.i 21).toInt + (S.i 44).toInt ≤ (S.i 21).toInt + (R.i 44).toInt + e) ∧ (∀ j : Nat, (j : Int) < (S.i 20).toInt → R.a 15 j = S.a 15 j ∧ R.a 16 j = S.a 16 j) ∧ (S.i 21).toInt ≤ (R.i 21).toInt ∧ (S.i 50).toInt ≤ (R.i 50).toInt ∧ (∀ k : Nat, (k : Int) < (S.i 50).toInt → R.a 48 k = S.a 48 k ∧ R.a 49 k = S.a 49 k) ∧ ((S.i 23).toInt ≤ (R.i 23).toInt ∧ 2 * (R.i 23).toInt + (S.i 44).toInt ≤ 2 * (S.i 23).toInt + (R.i 44).toInt + e) ∧ R.i 38 = S.i 38 ∧ (S.i 22).toInt ≤ (R.i 22).toInt ∧ ∀ k : Nat, (k : Int) < (S.i 22).toInt → R.a 19 k = S.a 19 k
/-- targets from a to b stay -/
def CT7 (a b : Int) (S R : CS) : Prop := ∀ k : Nat, a ≤ (k : Int) → (k : Int) < b → R.a 17 k = S.a 17 k
theorem CD1.rf (S : CS) : CD1 0 0 S S := ⟨⟨Int.le_refl _, by omega, by omega⟩, fun _ _ => ⟨rfl, rfl⟩, Int.le_refl _, Int.le_refl _, fun _ _ => ⟨rfl, rfl⟩, ⟨Int.le_refl _, by omega⟩, rfl, Int.le_refl _, fun _ _ => rfl⟩
theorem CD1.tr {a b a' b' : Int} {S R T : CS} (h : CD1 a a' S R) (g : CD1 b b' R T) : CD1 (a + b) (a' + b') S T := by
  obtain ⟨⟨h1, h2, h2'⟩, h3, h4, h5, h6, ⟨h7, h8⟩, h9, h10, h11⟩ := h
  obtain ⟨⟨g1, g2, g2'⟩, g3, g4, g5, g6, ⟨g7, g8⟩, g9, g10, g11⟩ := g
  refine ⟨⟨by omega, by omega, by omega⟩, fun j hj => ?_, by omega, by omega, fun k hk => ?_, ⟨by omega, by omega⟩, g9.trans h9, by omega, fun k hk => (g11 k (by omega)).trans (h11 k hk)⟩
  · have x := h3 j hj
    have y := g3 j (by omega)
    exact ⟨y.1.trans x.1, y.2.trans x.2⟩
  · have x := h6 k hk
    have y := g6 k (by omega)
    exact ⟨y.1.trans x.1, y.2.trans x.2⟩
theorem CD1.wk {a b a' b' : Int} {S R : CS} (h : CD1 a a' S R) (l : a ≤ b) (l' : a' ≤ b') : CD1 b b' S R := ⟨⟨h.1.1, by have := h.1.2; omega, by have := h.1.2; omega⟩, h.2.1, h.2.2.1, h.2.2.2.1, h.2.2.2.2.1, ⟨h.2.2.2.2.2.1.1, by have := h.2.2.2.2.2.1.2; omega⟩, h.2.2.2.2.2.2⟩
theorem CT7.rf (a b : Int) (S : CS) : CT7 a b S S := fun _ _ _ => rfl
theorem CT7.tr {a b : Int} {S R T : CS} (h : CT7 a b S R) (g : CT7 a b R T) : CT7 a b S T := fun k x y => (g k x y).trans (h k x y)
theorem CT7.wk {a b a' b' : Int} {S R : CS} (h : CT7 a b S R) (l : a ≤ a') (m : b' ≤ b) : CT7 a' b' S R := fun k x y => h k (by omega) (by omega)
theorem CT7.eq {a b : Int} {S R : CS} (h : R.a 17 = S.a 17) : CT7 a b S R := fun k _ _ => by rw [h]
/-- nothing laid -/
theorem CD1.pe {b : Int} {S R : CS} (h : pe R = pe S) (h21 : R.i 21 = S.i 21) (h50 : R.i 50 = S.i 50) (h48 : R.a 48 = S.a 48) (h49 : R.a 49 = S.a 49) (h44 : (S.i 44).toInt + b ≤ (R.i 44).toInt) : CD1 (-b) (-b) S R := by
  obtain ⟨e20, e15, e16, -, e23, e38, e22, e19⟩ := pe_eq h
  refine ⟨⟨by rw [e20]; exact Int.le_refl _, by rw [e20]; omega, by rw [h21]; omega⟩, fun j _ => ⟨by rw [e15], by rw [e16]⟩, by rw [h21]; exact Int.le_refl _, by rw [h50]; exact Int.le_refl _, fun k _ => ⟨by rw [h48], by rw [h49]⟩, ⟨by rw [e23]; exact Int.le_refl _, by rw [e23]; omega⟩, e38, by rw [e22]; exact Int.le_refl _, fun k _ => by rw [e19]⟩
theorem CRB.of {d e : Int} {S R : CS} (h : CRB S) (g : CD1 d e S R) (l : d ≤ 0) (m : e ≤ 0) : CRB R := by
  obtain ⟨⟨g1, g2, g3⟩, -, g4, -, -, ⟨g5, g6⟩, -⟩ := g
  obtain ⟨⟨h1, h2⟩, h3, h4, h5, h6⟩ := h
  exact ⟨⟨by omega, by omega⟩, by omega, by omega, by omega, by omega⟩
/-- an instruction more -/
theorem cd_add {N : Nat} {S : CS} {o x : Int32} {R : Unit × CS} (e : f_X0_add N S o x = some R) (h0 : 0 ≤ (S.i 20).toInt) (h1 : (S.i 20).toInt < 1200) : CD1 1 0 S R.2 ∧ (R.2.i 20).toInt = (S.i 20).toInt + 1 ∧ (R.2.a 15 (pcC S) = o ∧ R.2.a 16 (pcC S) = x) ∧ R.2.a 17 = S.a 17 ∧ R.2.i 21 = S.i 21 ∧ R.2.i 44 = S.i 44 := by
  unfold f_X0_add at e
  cases e
  have hib : ib (S.i 20) 1200 := ⟨h0, by omega⟩
  have e1 : (S.i 20 + 1).toInt = (S.i 20).toInt + 1 := ad1 h0 (by omega)
  have ck := clampI h0
  have p15 : ∀ k : Nat, gPut (S.a 15) 1200 (S.i 20) o k = if k = (S.i 20).toNatClampNeg then o else S.a 15 k := fun k => by
    unfold gPut
    rw [if_pos hib]
    rfl
  have p16 : ∀ k : Nat, gPut (S.a 16) 1200 (S.i 20) x k = if k = (S.i 20).toNatClampNeg then x else S.a 16 k := fun k => by
    unfold gPut
    rw [if_pos hib]
    rfl
  have pc : pcC S = (S.i 20).toNatClampNeg := rfl
  refine ⟨⟨⟨?_, ?_, ?_⟩, fun j hj => ⟨?_, ?_⟩, Int.le_refl _, Int.le_refl _, fun _ _ => ⟨rfl, rfl⟩, ⟨Int.le_refl _, (show 2 * (S.i 23).toInt + (S.i 44).toInt ≤ 2 * (S.i 23).toInt + (S.i 44).toInt + 0 by omega)⟩, rfl, Int.le_refl _, fun _ _ => rfl⟩, e1, ⟨?_, ?_⟩, rfl, rfl, rfl⟩
  · show (S.i 20).toInt ≤ (S.i 20 + 1).toInt
    omega
  · show (S.i 20 + 1).toInt + (S.i 44).toInt ≤ (S.i 20).toInt + (S.i 44).toInt + 1
    omega
  · show (S.i 21).toInt + (S.i 44).toInt ≤ (S.i 21).toInt + (S.i 44).toInt + 0
    omega
  · show gPut (S.a 15) 1200 (S.i 20) o j = S.a 15 j
    rw [p15, if_neg (by omega)]
  · show gPut (S.a 16) 1200 (S.i 20) x j = S.a 16 j
    rw [p16, if_neg (by omega)]
  · show gPut (S.a 15) 1200 (S.i 20) o (pcC S) = o
    rw [p15, if_pos pc]
  · show gPut (S.a 16) 1200 (S.i 20) x (pcC S) = x
    rw [p16, if_pos pc]
/-- a target more -/
theorem cd_nt {N : Nat} {S : CS} {w : Int32 × CS} (e : f_X0_newTarget N S = some w) (h0 : 0 ≤ (S.i 21).toInt) (h1 : (S.i 21).toInt < 1024) : CD1 0 1 S w.2 ∧ w.1 = S.i 21 ∧ (w.2.i 21).toInt = (S.i 21).toInt + 1 ∧ (∀ a : Int, CT7 a (S.i 21).toInt S w.2) ∧ w.2.a 15 = S.a 15 ∧ w.2.a 16 = S.a 16 ∧ w.2.i 20 = S.i 20 ∧ w.2.i 44 = S.i 44 := by
  unfold f_X0_newTarget at e
  cases e
  have hib : ib (S.i 21) 1024 := ⟨h0, by omega⟩
  have e1 : (S.i 21 + 1).toInt = (S.i 21).toInt + 1 := ad1 h0 (by omega)
  have ck := clampI h0
  refine ⟨⟨⟨Int.le_refl _, ?_, ?_⟩, fun _ _ => ⟨rfl, rfl⟩, ?_, Int.le_refl _, fun _ _ => ⟨rfl, rfl⟩, ⟨Int.le_refl _, (show 2 * (S.i 23).toInt + (S.i 44).toInt ≤ 2 * (S.i 23).toInt + (S.i 44).toInt + 1 by omega)⟩, rfl, Int.le_refl _, fun _ _ => rfl⟩, ?_, e1, fun a k _ hk => ?_, rfl, rfl, rfl, rfl⟩
  · show (S.i 20).toInt + (S.i 44).toInt ≤ (S.i 20).toInt + (S.i 44).toInt + 0
    omega
  · show (S.i 21 + 1).toInt + (S.i 44).toInt ≤ (S.i 21).toInt + (S.i 44).toInt + 1
    omega
  · show (S.i 21).toInt ≤ (S.i 21 + 1).toInt
    omega
  · show (S.i 21 + 1) - 1 = S.i 21
    exact Int32.add_sub_cancel _ _
  · show gPut (S.a 17) 1024 (S.i 21) (-1) k = S.a 17 k
    unfold gPut
    rw [if_pos hib]
    exact if_neg (by omega)
/-- a target is aimed -/
theorem cd_aim {N : Nat} {S : CS} {x : Int32} {R : Unit × CS} (e : f_X0_aim N S x = some R) (h0 : 0 ≤ x.toInt) (h1 : x.toInt < 1024) : CD1 0 0 S R.2 ∧ (∀ k : Nat, ¬ (k : Int) = x.toInt → R.2.a 17 k = S.a 17 k) ∧ cTg R.2 x = S.i 20 ∧ (R.2.a 15 = S.a 15 ∧ R.2.a 16 = S.a 16 ∧ R.2.i 20 = S.i 20 ∧ R.2.i 21 = S.i 21 ∧ R.2.i 44 = S.i 44) := by
  unfold f_X0_aim at e
  cases e
  have hib : ib x 1024 := ⟨h0, by omega⟩
  have ck := clampI h0
  refine ⟨⟨⟨Int.le_refl _, ?_, ?_⟩, fun _ _ => ⟨rfl, rfl⟩, Int.le_refl _, Int.le_refl _, fun _ _ => ⟨rfl, rfl⟩, ⟨Int.le_refl _, (show 2 * (S.i 23).toInt + (S.i 44).toInt ≤ 2 * (S.i 23).toInt + (S.i 44).toInt + 0 by omega)⟩, rfl, Int.le_refl _, fun _ _ => rfl⟩, fun k hk => ?_, ?_, ⟨rfl, rfl, rfl, rfl, rfl⟩⟩
  · show (S.i 20).toInt + (S.i 44).toInt ≤ (S.i 20).toInt + (S.i 44).toInt + 0
    omega
  · show (S.i 21).toInt + (S.i 44).toInt ≤ (S.i 21).toInt + (S.i 44).toInt + 0
    omega
  · show gPut (S.a 17) 1024 x (S.i 20) k = S.a 17 k
    unfold gPut
    rw [if_pos hib]
    exact if_neg (by omega)
  · show gAt (gPut (S.a 17) 1024 x (S.i 20)) 1024 x = S.i 20
    unfold gAt gPut
    rw [if_pos hib, if_pos hib]
    exact if_pos rfl
/-- the slots: no more than instructions -/
def SLO (s : RS) : Prop := 0 ≤ (s.i 42).toInt ∧ (s.i 42).toInt ≤ (s.i 20).toInt + 8
def SLC (s u : RS) : Prop := SLO s → (s.i 42).toInt ≤ (u.i 42).toInt ∧ SLO u
theorem SLC.tr {s u v : RS} (h : SLC s u) (g : SLC u v) : SLC s v := fun q => ⟨Int.le_trans (h q).1 (g (h q).2).1, (g (h q).2).2⟩
theorem SLC.eq {s u : RS} (h : u.i 42 = s.i 42) (l : (s.i 20).toInt ≤ (u.i 20).toInt) : SLC s u := fun q => ⟨by rw [h]; exact Int.le_refl _, by rw [h]; exact q.1, by rw [h]; exact Int.le_trans q.2 (by omega)⟩
/-- the reference: what was laid before c stays, the tables too -/
def CD2 (c : Int) (s u : RS) : Prop := ((s.i 20).toInt ≤ (u.i 20).toInt ∧ (s.i 24).toInt ≤ (u.i 24).toInt ∧ (s.i 29).toInt ≤ (u.i 29).toInt ∧ (s.i 33).toInt ≤ (u.i 33).toInt ∧ SLC s u ∧ u.i 52 = s.i 52) ∧ (∀ j : Nat, (j : Int) < c → u.a 21 j = s.a 21 j ∧ u.a 22 j = s.a 22 j ∧ u.a 23 j = s.a 23 j) ∧ (∀ j : Nat, (j : Int) < (s.i 24).toInt → u.a 25 j = s.a 25 j ∧ u.a 26 j = s.a 26 j ∧ u.a 27 j = s.a 27 j ∧ u.a 28 j = s.a 28 j) ∧ (∀ j : Nat, (j : Int) < (s.i 29).toInt → u.a 30 j = s.a 30 j ∧ u.a 31 j = s.a 31 j ∧ u.a 32 j = s.a 32 j) ∧ ∀ j : Nat, (j : Int) < (s.i 33).toInt → u.a 34 j = s.a 34 j ∧ u.a 35 j = s.a 35 j ∧ u.a 36 j = s.a 36 j ∧ u.a 37 j = s.a 37 j
theorem CD2.rf (c : Int) (s : RS) : CD2 c s s := ⟨⟨Int.le_refl _, Int.le_refl _, Int.le_refl _, Int.le_refl _, SLC.eq rfl (Int.le_refl _), rfl⟩, fun _ _ => ⟨rfl, rfl, rfl⟩, fun _ _ => ⟨rfl, rfl, rfl, rfl⟩, fun _ _ => ⟨rfl, rfl, rfl⟩, fun _ _ => ⟨rfl, rfl, rfl, rfl⟩⟩
theorem CD2.tr {c : Int} {s u v : RS} (h : CD2 c s u) (g : CD2 c u v) : CD2 c s v := by
  obtain ⟨⟨h1, h2, h3, h4, h9, h10⟩, h5, h6, h7, h8⟩ := h
  obtain ⟨⟨g1, g2, g3, g4, g9, g10⟩, g5, g6, g7, g8⟩ := g
  refine ⟨⟨by omega, by omega, by omega, by omega, h9.tr g9, g10.trans h10⟩, fun j hj => ?_, fun j hj => ?_, fun j hj => ?_, fun j hj => ?_⟩
  · have x := h5 j hj
    have y := g5 j hj
    exact ⟨y.1.trans x.1, y.2.1.trans x.2.1, y.2.2.trans x.2.2⟩
  · have x := h6 j hj
    have y := g6 j (by omega)
    exact ⟨y.1.trans x.1, y.2.1.trans x.2.1, y.2.2.1.trans x.2.2.1, y.2.2.2.trans x.2.2.2⟩
  · have x := h7 j hj
    have y := g7 j (by omega)
    exact ⟨y.1.trans x.1, y.2.1.trans x.2.1, y.2.2.trans x.2.2⟩
  · have x := h8 j hj
    have y := g8 j (by omega)
    exact ⟨y.1.trans x.1, y.2.1.trans x.2.1, y.2.2.1.trans x.2.2.1, y.2.2.2.trans x.2.2.2⟩
theorem CD2.wk {c c' : Int} {s u : RS} (h : CD2 c s u) (l : c' ≤ c) : CD2 c' s u := ⟨h.1, fun j hj => h.2.1 j (by omega), h.2.2⟩
theorem CD2.qe {c : Int} {s u : RS} (h : qe u = qe s) : CD2 c s u := by
  obtain ⟨⟨i1, i2, i3, i4, i5, i6⟩, a1, a2, a3, a4, a5, a6, a7, a8, a9, a10, a11, a12, a13, a14⟩ := qe_eq h
  exact ⟨⟨by rw [i1]; exact Int.le_refl _, by rw [i2]; exact Int.le_refl _, by rw [i3]; exact Int.le_refl _, by rw [i4]; exact Int.le_refl _, SLC.eq i5 (by rw [i1]; exact Int.le_refl _), i6⟩, fun j _ => ⟨by rw [a1], by rw [a2], by rw [a3]⟩, fun j _ => ⟨by rw [a4], by rw [a5], by rw [a6], by rw [a7]⟩, fun j _ => ⟨by rw [a8], by rw [a9], by rw [a10]⟩, fun j _ => ⟨by rw [a11], by rw [a12], by rw [a13], by rw [a14]⟩⟩
theorem cd_emit {N : Nat} {s : RS} {o x : Int32} {V : Int32 × RS} (e : f_X12_emit N s o x = some V) (h0 : 0 ≤ (s.i 20).toInt) (h1 : (s.i 20).toInt < 3000) : CD2 (s.i 20).toInt s V.2 ∧ V.1 = s.i 20 ∧ (V.2.i 20).toInt = (s.i 20).toInt + 1 ∧ (V.2.a 21 (pcR s) = o ∧ V.2.a 22 (pcR s) = x ∧ V.2.a 23 (pcR s) = 0) := by
  have e3 : (3000 : Int32).toInt = 3000 := by decide
  unfold f_X12_emit f_X12_emit_21 at e
  by_cases c : (3000 : Int32) ≤ s.i 20
  · have := le_int c
    omega
  rw [if_neg c] at e
  obtain ⟨hib, e⟩ := hf_ite e
  cases e
  have ck := clampI h0
  refine ⟨⟨⟨?_, Int.le_refl _, Int.le_refl _, Int.le_refl _, SLC.eq rfl ?_, rfl⟩, fun j hj => ⟨if_neg (by omega), if_neg (by omega), if_neg (by omega)⟩, fun _ _ => ⟨rfl, rfl, rfl, rfl⟩, fun _ _ => ⟨rfl, rfl, rfl⟩, fun _ _ => ⟨rfl, rfl, rfl, rfl⟩⟩, rfl, ?_, ⟨if_pos rfl, if_pos rfl, if_pos rfl⟩⟩
  · show (s.i 20).toInt ≤ (s.i 20 + 1).toInt
    rw [ad1 h0 (by omega)]
    omega
  · show (s.i 20).toInt ≤ (s.i 20 + 1).toInt
    rw [ad1 h0 (by omega)]
    omega
  · exact ad1 h0 (by omega)
