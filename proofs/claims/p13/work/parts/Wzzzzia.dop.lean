/-! both readers: a formula is read while sites wait for their aim -/
/-- the same, but that the sites of l are aimed at v -/
def pz (l : List Nat) (v : Int32) (x : RS) : RS := (x.i, x.l, (fun k => if k = 22 then (fun j => if j ∈ l then v else x.a 22 j) else x.a k), x.b)
theorem pz.i {l : List Nat} {v : Int32} {x : RS} : (pz l v x).i = x.i := rfl
theorem pz.a {l : List Nat} {v : Int32} {x : RS} {k : Nat} (h : k ≠ 22) : (pz l v x).a k = x.a k := if_neg h
theorem pz.t {l : List Nat} {v : Int32} {x : RS} : (pz l v x).a 22 = fun j => if j ∈ l then v else x.a 22 j := rfl
theorem pz.in {l : List Nat} {v : Int32} {x : RS} {j : Nat} (h : j ∈ l) : (pz l v x).a 22 j = v := if_pos h
theorem pz.ni {l : List Nat} {v : Int32} {x : RS} {j : Nat} (h : ¬ j ∈ l) : (pz l v x).a 22 j = x.a 22 j := if_neg h
theorem pz.qe {l : List Nat} {v : Int32} {x y : RS} (h : qe y = qe x) : qe (pz l v y) = qe (pz l v x) := by
  obtain ⟨⟨o1, o2, o3, o4, o5, o6⟩, o7, o8, o9, o10, o11, o12, o13, o14, o15, o16, o17, o18, o19, o20⟩ := qe_eq h
  show ((y.i 20, y.i 24, y.i 29, y.i 33, y.i 42, y.i 52), y.a 21, (fun j => if j ∈ l then v else y.a 22 j), y.a 23, y.a 25, y.a 26, y.a 27, y.a 28, y.a 30, y.a 31, y.a 32, y.a 34, y.a 35, y.a 36, y.a 37) = _
  rw [o1, o2, o3, o4, o5, o6, o7, o8, o9, o10, o11, o12, o13, o14, o15, o16, o17, o18, o19, o20]
  rfl
theorem pz.nmv {l : List Nat} {v : Int32} {x y : RS} (h : NMV x y) : NMV (pz l v x) (pz l v y) := ⟨h.1, fun j hj => by rw [pz.a (by decide), pz.a (by decide)]; exact h.2 j hj⟩
/-- an instruction is laid behind the sites -/
theorem em_pz {N : Nat} {l : List Nat} {v o x : Int32} {s : RS} {V : Int32 × RS} (h : f_X12_emit N s o x = some V) (h20 : 0 ≤ (s.i 20).toInt ∧ (s.i 20).toInt < 3000) (hl : ∀ j ∈ l, (j : Int) < (s.i 20).toInt) : ∃ V' : Int32 × RS, f_X12_emit N (pz l v s) o x = some V' ∧ V'.1 = V.1 ∧ V'.2.i = V.2.i ∧ V'.2.a = (pz l v V.2).a := by
  have c : ¬ (3000 : Int32) ≤ s.i 20 := fun z => by
    have := le_int z
    have e : (3000 : Int32).toInt = 3000 := by decide
    omega
  unfold f_X12_emit f_X12_emit_21 at h ⊢
  rw [if_neg c] at h
  rw [if_neg (show ¬ (3000 : Int32) ≤ (pz l v s).i 20 from c)]
  obtain ⟨hib, h⟩ := hf_ite h
  rw [if_pos (show ib ((pz l v s).i 20) 3000 from hib)]
  cases h
  refine ⟨_, rfl, rfl, rfl, ?_⟩
  funext k j
  have ck := clampI h20.1
  by_cases k2 : k = 22
  · subst k2
    show (if j = (s.i 20).toNatClampNeg then x else (if j ∈ l then v else s.a 22 j)) = (if j ∈ l then v else (if j = (s.i 20).toNatClampNeg then x else s.a 22 j))
    by_cases e : j = (s.i 20).toNatClampNeg
    · rw [if_pos e, if_neg (fun w => by have := hl j w; omega), if_pos e]
    · rw [if_neg e, if_neg e]
  · rw [pz.a k2]
    by_cases k3 : k = 23
    · subst k3
      rfl
    · by_cases k1 : k = 21
      · subst k1
        rfl
      · show (RS.setA (RS.setA (RS.setA (pz l v s) 21 _ o) 22 _ x) 23 _ 0).a k j = (RS.setA (RS.setA (RS.setA s 21 _ o) 22 _ x) 23 _ 0).a k j
        rw [setA_nk k3, setA_nk k2, setA_nk k1, setA_nk k3, setA_nk k2, setA_nk k1, pz.a k2]
/-- a step, while sites wait -/
theorem jsp_pz {l : List Nat} {v : Int32} {a e a1 e1 : Int} {U s0 : RS} {K K' : JKT} {S R : CS} {s u : RS} (x : JSP (-1) a e a1 e1 U s0 K K' S s R u) (hl : ∀ j ∈ l, (j : Int) < (s.i 20).toInt) : JSP (-1) a e a1 e1 U s0 K K' S (pz l v s) R (pz l v u) := fun rm => by
  obtain ⟨Ψ, x1, x2, x3, sat, xn, xk⟩ := x rm
  have nf : ∀ {nm : Nat → Nat → Prop} {c : List Ent} {Q : CS} {y : RS}, NMH nm c Q (pz l v y) → NMH nm c Q y := fun h => h
  have nb : ∀ {nm : Nat → Nat → Prop} {c : List Ent} {Q : CS} {y : RS}, NMH nm c Q y → NMH nm c Q (pz l v y) := fun h => h
  refine ⟨Ψ, x1, x2, ⟨x3.1, fun j hj => ⟨(x3.2.1 j hj).1, ?_, (x3.2.1 j hj).2.2⟩, x3.2.2⟩, sat, fun FC nm c psi fr ng => nb (xn FC nm c psi fr (nf ng)), fun FC SF nm X ω j Z psi fc fy ng hc hh ty tl hω k => xk FC SF nm X ω j Z psi fc ⟨fy.1, fun i i1 i2 => ⟨(fy.2.1 i i1 i2).1, fun w => ?_, (fy.2.1 i i1 i2).2.2⟩, fy.2.2⟩ ⟨nf ng.1, ng.2⟩ hc hh ty tl hω k⟩
  · by_cases w : j ∈ l
    · rw [pz.in w, pz.in w]
    · rw [pz.ni w, pz.ni w]
      exact (x3.2.1 j hj).2.1
  · have z := (fy.2.1 i i1 i2).2.1 w
    rw [pz.ni (fun q => by
      have := hl i q
      have i1' : (s.i 20).toInt ≤ (i : Int) := i1
      omega)] at z
    exact z
/-- whatever else is taken for good -/
def JAL (U : RS) (K : JKT) : JKT := fun FC SF nm X ω j Z => ∀ Y : Als, S01 (GU FC SF U nm X) (GU FC SF U nm Y) → K FC SF nm Y ω j Z
theorem jsp_al {K K' : JKT} {y a e a1 e1 : Int} {U s0 : RS} {S R : CS} {s u : RS} (x : JSP y a e a1 e1 U s0 K K' S s R u) : JSP y a e a1 e1 U s0 (JAL U K) (JAL U K') S s R u := fun rm => by
  obtain ⟨Ψ, x1, x2, x3, sat, xn, xk⟩ := x rm
  exact ⟨Ψ, x1, x2, x3, sat, xn, fun FC SF nm X ω j Z psi fc fy ng hc hh ty tl hω k Y sy => xk FC SF nm Y ω j Z psi fc fy ng hc hh (ty.m0 sy) tl hω (k Y sy)⟩
theorem nd_gain {N : Nat} (hN : 1000 ≤ N) {d : Int32} {S : CS} {s : RS} {R : Unit × CS} {V : Int32 × RS} {c c' : Int32} (ev : ENV d S s) (hc : tyR c) (hd : tm c = c') (h6 : ¬ c' = 6) (h0 : ¬ c = 0) (e : f_X1_expect N S c = some R) (g : f_X12_need N s c' = some V) (o : V.1 = 1) : (s.i 11).toInt + 1 ≤ (V.2.i 11).toInt := by
  rcases y_need hN ev hc hd h6 h0 e g with ⟨o1, -⟩ | ⟨-, -, -, -, -, -, o7, -⟩
  · rw [o] at o1
    exact absurd o1 (by decide)
  · exact o7
theorem kc_o {S R : CS} (h : pj R = pj S) : R.o = S.o := by
  obtain ⟨-, -, -, -, -, -, -, -, -, -, -, -, -, -, -, -, -, -, -, -, -, -, -, -, jo, -⟩ := pj_eq h
  exact jo
/-- a sign costs a byte -/
theorem CD1.by1 {S R : CS} (h : CD1 (-1) (-1) S R) (e : R.i 20 = S.i 20) : (S.i 44).toInt + 1 ≤ (R.i 44).toInt := by
  have z := h.1.2.1
  rw [e] at z
  omega
