/-! both readers: a catch's kinds with their code -/
/-- the reference lays a kind -/
def KST (T id : Nat) (num : Int32) (q v : RS) : Prop := ∃ (n : Nat) (v0 : RS), (q.i 33).toInt = (n : Int) ∧ n < 400 ∧ ((0 ≤ (q.a 72 T).toInt ∧ v0 = RS.setI (RS.setA (RS.setA (RS.setA (RS.setA q 34 n num) 37 n (-1)) 37 (q.a 72 T).toNatClampNeg (q.i 33)) 72 T (q.i 33)) 33 (q.i 33 + 1)) ∨ ((q.a 72 T).toInt < 0 ∧ v0 = RS.setI (RS.setA (RS.setA (RS.setA (RS.setA q 34 n num) 37 n (-1)) 30 id (q.i 33)) 72 T (q.i 33)) 33 (q.i 33 + 1))) ∧ qe v = qe v0 ∧ v.a 72 T = v0.a 72 T ∧ v.i 38 = q.i 38 ∧ v.a 40 = q.a 40
/-- the new catches so far: their kinds -/
def CTQ (n0 T id : Nat) (s q : RS) (L : List Int32) : Prop := ((L = [] → q.i 33 = s.i 33) ∧ (¬ L = [] → 0 ≤ (s.i 33).toInt ∧ (q.i 33).toInt = ((n0 + L.length : Nat) : Int))) ∧ ((q.i 20 = s.i 20 ∧ q.i 24 = s.i 24 ∧ q.i 29 = s.i 29 ∧ q.i 42 = s.i 42 ∧ q.i 52 = s.i 52 ∧ q.i 38 = s.i 38 ∧ q.a 40 = s.a 40) ∧ ∀ k : Nat, (k = 21 ∨ k = 22 ∨ k = 23 ∨ k = 25 ∨ k = 26 ∨ k = 27 ∨ k = 28 ∨ k = 31 ∨ k = 32 ∨ k = 35 ∨ k = 36) → q.a k = s.a k) ∧ (∀ j : Nat, ¬ j = id → q.a 30 j = s.a 30 j) ∧ (∀ j : Nat, j < n0 → q.a 34 j = s.a 34 j ∧ (¬ (j : Int) = (s.a 72 T).toInt → q.a 37 j = s.a 37 j)) ∧ (∀ (i : Nat) (x : Int32), L[i]? = some x → q.a 34 (n0 + i) = x) ∧ (L = [] → q.a 72 T = s.a 72 T ∧ q.a 30 id = s.a 30 id) ∧ (¬ L = [] → (q.a 72 T).toInt + 1 = ((n0 + L.length : Nat) : Int) ∧ ((s.a 72 T).toInt < 0 → (q.a 30 id).toInt = (n0 : Int)) ∧ (0 ≤ (s.a 72 T).toInt → q.a 30 id = s.a 30 id ∧ (q.a 37 (s.a 72 T).toNatClampNeg).toInt = (n0 : Int)) ∧ ∀ i : Nat, i + 1 < L.length → (q.a 37 (n0 + i)).toInt = ((n0 + i + 1 : Nat) : Int))
theorem CTQ.nil {n0 T id : Nat} {s q : RS} (e : qe q = qe s) (e72 : q.a 72 T = s.a 72 T) (e38 : q.i 38 = s.i 38) (e40 : q.a 40 = s.a 40) : CTQ n0 T id s q [] := by
  obtain ⟨⟨i20, i24, i29, i33, i42, i52⟩, a21, a22, a23, a25, a26, a27, a28, a30, a31, a32, a34, a35, a36, a37⟩ := qe_eq e
  refine ⟨⟨fun _ => i33, fun h => absurd rfl h⟩, ⟨⟨i20, i24, i29, i42, i52, e38, e40⟩, fun k hk => ?_⟩, fun j _ => by rw [a30], fun j _ => ⟨by rw [a34], fun _ => by rw [a37]⟩, fun i x h => (by cases h), fun _ => ⟨e72, by rw [a30]⟩, fun h => absurd rfl h⟩
  rcases hk with z | z | z | z | z | z | z | z | z | z | z <;> rw [z] <;> assumption
theorem CTQ.se {n0 T id : Nat} {s q w : RS} {L : List Int32} (h : CTQ n0 T id s q L) (e : qe w = qe q) (e72 : w.a 72 T = q.a 72 T) (e38 : w.i 38 = q.i 38) (e40 : w.a 40 = q.a 40) : CTQ n0 T id s w L := by
  obtain ⟨⟨i20, i24, i29, i33, i42, i52⟩, a21, a22, a23, a25, a26, a27, a28, a30, a31, a32, a34, a35, a36, a37⟩ := qe_eq e
  obtain ⟨h33, ⟨⟨h20, h24, h29, h42, h52, h38, h40⟩, hk⟩, h30, ho, hL, he, hn⟩ := h
  have ek : ∀ k : Nat, (k = 21 ∨ k = 22 ∨ k = 23 ∨ k = 25 ∨ k = 26 ∨ k = 27 ∨ k = 28 ∨ k = 31 ∨ k = 32 ∨ k = 35 ∨ k = 36) → w.a k = q.a k := fun k hk => by
    rcases hk with z | z | z | z | z | z | z | z | z | z | z <;> rw [z] <;> assumption
  refine ⟨by rw [i33]; exact h33, ⟨⟨i20.trans h20, i24.trans h24, i29.trans h29, i42.trans h42, i52.trans h52, e38.trans h38, e40.trans h40⟩, fun k k1 => (ek k k1).trans (hk k k1)⟩, by rw [a30]; exact h30, by rw [a34, a37]; exact ho, by rw [a34]; exact hL, by rw [a30, e72]; exact he, by rw [a30, a37, e72]; exact hn⟩
set_option maxHeartbeats 1000000 in
theorem CTQ.add {n0 T id : Nat} {s q v : RS} {L : List Int32} {num : Int32} (h : CTQ n0 T id s q L) (hs : KST T id num q v) (h0 : 0 ≤ (s.i 33).toInt → (s.i 33).toInt = (n0 : Int)) (h72 : (s.a 72 T).toInt < (n0 : Int)) : CTQ n0 T id s v (L ++ [num]) := by
  obtain ⟨n, v0, hn, n4, hv, qv, v72, v38, v40⟩ := hs
  obtain ⟨h33, ⟨⟨h20, h24, h29, h42, h52, h38, h40⟩, hk⟩, h30, ho, hL, he, hne⟩ := h
  have en : n = n0 + L.length ∧ 0 ≤ (s.i 33).toInt := by
    by_cases y : L = []
    · have z1 := h33.1 y
      rw [z1] at hn
      have := h0 (by omega)
      rw [y]
      show n = n0 + 0 ∧ _
      omega
    · have := h33.2 y
      omega
  obtain ⟨en, s33⟩ := en
  have f : (v0.i 33).toInt = (n : Int) + 1 ∧ (∀ k : Nat, k ≠ 33 → v0.i k = q.i k) ∧ (∀ k : Nat, k ≠ 30 → k ≠ 34 → k ≠ 37 → k ≠ 72 → v0.a k = q.a k) ∧ v0.a 34 n = num ∧ (∀ j : Nat, j ≠ n → v0.a 34 j = q.a 34 j) ∧ v0.a 72 T = q.i 33 ∧ (∀ j : Nat, ¬ j = id → v0.a 30 j = q.a 30 j) ∧ ((0 ≤ (q.a 72 T).toInt ∧ v0.a 30 id = q.a 30 id ∧ v0.a 37 (q.a 72 T).toNatClampNeg = q.i 33 ∧ ∀ j : Nat, j ≠ n → j ≠ (q.a 72 T).toNatClampNeg → v0.a 37 j = q.a 37 j) ∨ ((q.a 72 T).toInt < 0 ∧ v0.a 30 id = q.i 33 ∧ ∀ j : Nat, j ≠ n → v0.a 37 j = q.a 37 j)) := by
    rcases hv with ⟨c, e⟩ | ⟨c, e⟩ <;> rw [e]
    · refine ⟨?_, fun k hk => if_neg hk, fun k k1 k2 k3 k4 => ?_, ?_, fun j hj => ?_, ?_, fun j hj => ?_, Or.inl ⟨c, ?_, ?_, fun j j1 j2 => ?_⟩⟩
      · show (q.i 33 + 1).toInt = _
        rw [ad1 (by omega) (by omega), hn]
      · rw [rsI_a, setA_nk k4, setA_nk k3, setA_nk k3, setA_nk k2]
      · rw [rsI_a, setA_nk (by decide), setA_nk (by decide), setA_nk (by decide), setA_at]
      · rw [rsI_a, setA_nk (by decide), setA_nk (by decide), setA_nk (by decide), setA_ne hj]
      · rw [rsI_a, setA_at]
      · rw [rsI_a, setA_nk (by decide), setA_nk (by decide), setA_nk (by decide), setA_nk (by decide)]
      · rw [rsI_a, setA_nk (by decide), setA_nk (by decide), setA_nk (by decide), setA_nk (by decide)]
      · rw [rsI_a, setA_nk (by decide), setA_at]
      · rw [rsI_a, setA_nk (by decide), setA_ne j2, setA_ne j1, setA_nk (by decide)]
    · refine ⟨?_, fun k hk => if_neg hk, fun k k1 k2 k3 k4 => ?_, ?_, fun j hj => ?_, ?_, fun j hj => ?_, Or.inr ⟨c, ?_, fun j j1 => ?_⟩⟩
      · show (q.i 33 + 1).toInt = _
        rw [ad1 (by omega) (by omega), hn]
      · rw [rsI_a, setA_nk k4, setA_nk k1, setA_nk k3, setA_nk k2]
      · rw [rsI_a, setA_nk (by decide), setA_nk (by decide), setA_nk (by decide), setA_at]
      · rw [rsI_a, setA_nk (by decide), setA_nk (by decide), setA_nk (by decide), setA_ne hj]
      · rw [rsI_a, setA_at]
      · rw [rsI_a, setA_nk (by decide), setA_ne hj, setA_nk (by decide), setA_nk (by decide)]
      · rw [rsI_a, setA_nk (by decide), setA_at]
      · rw [rsI_a, setA_nk (by decide), setA_nk (by decide), setA_ne j1, setA_nk (by decide)]
  clear hv
  obtain ⟨f33, fi, fa, f34, f34', f72, f30, fc⟩ := f
  obtain ⟨⟨i20, i24, i29, i33, i42, i52⟩, a21, a22, a23, a25, a26, a27, a28, a30, a31, a32, a34, a35, a36, a37⟩ := qe_eq qv
  have ll : (L ++ [num]).length = L.length + 1 := by rw [List.length_append]; rfl
  have ek : ∀ k : Nat, (k = 21 ∨ k = 22 ∨ k = 23 ∨ k = 25 ∨ k = 26 ∨ k = 27 ∨ k = 28 ∨ k = 31 ∨ k = 32 ∨ k = 35 ∨ k = 36) → v.a k = v0.a k := fun k hk => by
    rcases hk with z | z | z | z | z | z | z | z | z | z | z <;> rw [z] <;> assumption
  have q72n : 0 ≤ (q.a 72 T).toInt → ((q.a 72 T).toNatClampNeg : Int) = (q.a 72 T).toInt := fun z => clampI z
  refine ⟨⟨fun z => absurd z (List.append_ne_nil_of_right_ne_nil _ (List.cons_ne_nil _ _)), fun _ => ⟨s33, by rw [i33, f33, ll]; omega⟩⟩, ⟨⟨i20.trans ((fi 20 (by decide)).trans h20), i24.trans ((fi 24 (by decide)).trans h24), i29.trans ((fi 29 (by decide)).trans h29), i42.trans ((fi 42 (by decide)).trans h42), i52.trans ((fi 52 (by decide)).trans h52), v38.trans h38, v40.trans h40⟩, fun k k1 => (ek k k1).trans ((fa k (by omega) (by omega) (by omega) (by omega)).trans (hk k k1))⟩, fun j hj => by rw [a30, f30 j hj]; exact h30 j hj, fun j hj => ⟨by rw [a34, f34' j (by omega)]; exact (ho j hj).1, fun z => ?_⟩, fun i x hx => ?_, fun z => ?_, fun _ => ⟨by rw [v72, f72, ll]; omega, fun z => ?_, fun z => ?_, fun i hi => ?_⟩⟩
  · rw [a37, ← (ho j hj).2 z]
    rcases fc with ⟨c, -, -, c4⟩ | ⟨-, -, c4⟩
    · refine c4 j (by omega) (fun w => ?_)
      have := q72n c
      by_cases y : L = []
      · rw [(he y).1] at this w
        omega
      · have := (hne y).1
        have : 0 < L.length := Nat.pos_of_ne_zero (fun z => y (List.eq_nil_of_length_eq_zero z))
        omega
    · exact c4 j (by omega)
  · rw [List.getElem?_append] at hx
    by_cases c : i < L.length
    · rw [if_pos c] at hx
      rw [a34, f34' _ (by omega)]
      exact hL i x hx
    · rw [if_neg c] at hx
      have hi : i - L.length = 0 := by
        by_cases y : i - L.length = 0
        · exact y
        · exfalso
          rw [List.getElem?_eq_none (show ([num] : List Int32).length ≤ i - L.length from by show 1 ≤ _; omega)] at hx
          cases hx
      rw [hi] at hx
      have hx' : some num = some x := hx
      cases hx'
      have e9 : n0 + i = n := by omega
      rw [a34, e9]
      exact f34
  · exact absurd z (List.append_ne_nil_of_right_ne_nil _ (List.cons_ne_nil _ _))
  · rw [a30]
    by_cases y : L = []
    · rcases fc with ⟨c, -⟩ | ⟨c, c2, -⟩
      · rw [(he y).1] at c
        omega
      · rw [c2, hn, en, y]
        rfl
    · rcases fc with ⟨c, c2, -⟩ | ⟨c, -⟩
      · rw [c2]
        exact (hne y).2.1 z
      · have := (hne y).1
        have : 0 < L.length := Nat.pos_of_ne_zero (fun z => y (List.eq_nil_of_length_eq_zero z))
        omega
  · rw [a30, a37]
    by_cases y : L = []
    · rcases fc with ⟨c, c2, c3, -⟩ | ⟨c, -⟩
      · rw [(he y).1] at c3
        refine ⟨c2.trans (he y).2, ?_⟩
        rw [c3, hn, en, y]
        rfl
      · rw [(he y).1] at c
        omega
    · have l0 : 0 < L.length := Nat.pos_of_ne_zero (fun z => y (List.eq_nil_of_length_eq_zero z))
      have y1 := (hne y).1
      rcases fc with ⟨c, c2, -, c4⟩ | ⟨c, -⟩
      · have z1 := q72n c
        have z2 := clampI z
        refine ⟨c2.trans ((hne y).2.2.1 z).1, ?_⟩
        rw [c4 _ (by omega) (by omega)]
        exact ((hne y).2.2.1 z).2
      · omega
  · rw [a37]
    rw [ll] at hi
    by_cases y : L = []
    · rw [y] at hi
      exact absurd hi (by show ¬ i + 1 < 0 + 1; omega)
    · have y1 := (hne y).1
      rcases fc with ⟨c, -, c3, c4⟩ | ⟨c, -⟩
      · have z1 := q72n c
        by_cases w : i + 1 < L.length
        · rw [c4 _ (by omega) (by omega)]
          exact (hne y).2.2.2 i w
        · have e9 : n0 + i = (q.a 72 T).toNatClampNeg := by omega
          rw [e9, c3, hn]
          omega
      · omega
/-- the class's rows of kinds -/
def MTS (SF : CS) (xb : Int32) (p0 : Nat) (L : List Int32) : Prop := ∀ (i : Nat) (x : Int32), L[i]? = some x → SF.a 15 (p0 + i) = 56 ∧ SF.a 16 (p0 + i) = xb * 16 + x ∧ p0 + i < 1200
def KM (xb : Int32) (p0 : Nat) (L : List Int32) (P : CS) (K : JKT) : JKT := fun FC SF nm X ω j Z => (MTS SF xb p0 L ∧ pcC P = p0 + L.length) ∧ K FC SF nm X ω j Z
theorem MTS.add {SF : CS} {xb x : Int32} {p0 : Nat} {L : List Int32} (h : MTS SF xb p0 L) (a : SF.a 15 (p0 + L.length) = 56) (b : SF.a 16 (p0 + L.length) = xb * 16 + x) (c : p0 + L.length < 1200) : MTS SF xb p0 (L ++ [x]) := fun i y hy => by
  rw [List.getElem?_append] at hy
  by_cases d : i < L.length
  · rw [if_pos d] at hy
    exact h i y hy
  · rw [if_neg d] at hy
    have hi : i - L.length = 0 := by
      by_cases w : i - L.length = 0
      · exact w
      · exfalso
        rw [List.getElem?_eq_none (show ([x] : List Int32).length ≤ i - L.length from by show 1 ≤ _; omega)] at hy
        cases hy
    rw [hi] at hy
    have hy' : some x = some y := hy
    cases hy'
    have e9 : i = L.length := by omega
    rw [e9]
    exact ⟨a, b, c⟩
/-- a kind, both -/
def KSP (N T id a : Nat) (xb : Int32) (P R : CS) (q v : RS) : Prop := ∃ (num w : Int32) (p pb : Unit × CS), (0 ≤ num.toInt ∧ num.toInt < 12) ∧ f_X0_add N (CS.setO P a 12 w) 56 (xb * 16 + num) = some p ∧ f_X9_advance N p.2 = some pb ∧ R = pb.2 ∧ KST T id num q v ∧ pj pb.2 = pj p.2 ∧ ((P.i 44).toInt ≤ 900 ∧ (P.i 44).toInt + 2 ≤ (R.i 44).toInt ∧ (q.i 11).toInt + 2 ≤ (v.i 11).toInt)
/-- a sign between kinds, both -/
def SSP (T : Nat) (P R : CS) (q w : RS) : Prop := (pe R = pe P ∧ pj R = pj P) ∧ (qe w = qe q ∧ w.a 72 T = q.a 72 T ∧ w.i 38 = q.i 38 ∧ w.a 40 = q.a 40) ∧ (P.i 44).toInt + 1 ≤ (R.i 44).toInt ∧ (q.i 11).toInt + 1 ≤ (w.i 11).toInt
/-- a catch's head up to its kinds, both -/
def HSP (N a T : Nat) (xb x10 : Int32) (S P : CS) (s q : RS) : Prop := ∃ (p1 p6 : Int32 × CS) (p11 p15 : Unit × CS), f_X0_newTarget N S = some p1 ∧ f_X0_newTarget N (CS.setO (CS.setO p1.2 a 0 215) a 8 1) = some p6 ∧ f_X9_advance N (CS.setO p6.2 a 10 p6.1) = some p11 ∧ f_X1_open N p11.2 40 = some p15 ∧ (P = p15.2 ∧ xb = p1.1 ∧ x10 = p6.1) ∧ (pj p11.2 = pj (CS.setO p6.2 a 10 p6.1) ∧ pj p15.2 = pj p11.2) ∧ ((S.i 44).toInt ≤ 900 ∧ (S.i 44).toInt + 2 ≤ (p11.2.i 44).toInt ∧ (p11.2.i 44).toInt + 1 ≤ (p15.2.i 44).toInt) ∧ (qe q = qe s ∧ q.a 72 T = s.a 72 T ∧ q.i 38 = s.i 38 ∧ q.a 40 = s.a 40) ∧ (s.i 11).toInt + 3 ≤ (q.i 11).toInt
theorem nt_sh {N : Nat} {S : CS} {D : Int32} {w : Int32 × CS} (e : f_X0_newTarget N S = some w) : f_X0_newTarget N (CS.setI S 38 D) = some (w.1, CS.setI w.2 38 D) := by
  unfold f_X0_newTarget at e ⊢
  cases e
  exact congrArg (fun z => some ((S.i 21 + 1 - 1 : Int32), z)) (csI_cm (S := CS.putA S 17 (gPut (S.a 17) 1024 (S.i 21) (-1))) (k := 38) (l := 21) (v := D) (w := S.i 21 + 1) (by decide))
theorem nt_fi {N : Nat} {S : CS} {w : Int32 × CS} (e : f_X0_newTarget N S = some w) : ∀ k : Nat, k ≠ 21 → w.2.i k = S.i k := by
  unfold f_X0_newTarget at e
  cases e
  exact fun k hk => ci_ne _ _ _ hk
theorem so_i {S : CS} {a k : Nat} {v : Int32} : (CS.setO S a k v).i = S.i := rfl
theorem JRG.so {A : JBA} {U : RS} {B : CS} {b : RS} {V0 W : List RVW} {s0 s : RS} {K : JKT} {a e : Int} {P : CS} {v w : Int32} {ac k : Nat} (h : JRG A U B b V0 s0 W K a e (CS.setI P 38 v) s) : JRG A U B b V0 s0 W K a e (CS.setI (CS.setO P ac k w) 38 v) s := h.drp (R := CS.setI (CS.setO P ac k w) 38 v) (u := s) rfl rfl rfl rfl rfl rfl (Int.le_refl _) rfl
section
variable {A : JBA} {U : RS} {B : CS} {b : RS} {V0 : List RVW} {r5 : RVW} {v E : Int32} {S P R : CS} {s q w : RS} {N ac T id n0 p0 : Nat} {x xb x10 : Int32}
/-- inside a catch's head -/
def CKJ (A : JBA) (U : RS) (B : CS) (b : RS) (V0 : List RVW) (r5 : RVW) (v E : Int32) (S : CS) (s : RS) (ac T id n0 p0 : Nat) (x xb x10 : Int32) (δ : Int) (P : CS) (q : RS) : Prop := ∃ L : List Int32, CTQ n0 T id s q L ∧ (∀ y ∈ L, 0 ≤ y.toInt ∧ y.toInt < 12) ∧ (s.i 11).toInt + δ + 3 * (L.length : Int) ≤ (q.i 11).toInt ∧ (δ = 2 → ¬ L = []) ∧ P.o ac 10 = x10 ∧ ∀ (s0 : RS) (m5 : Nat), JRG A U B b V0 s0 [r5] (K5 U r5 x p0 m5) (-1) 0 (CS.setI S 38 v) (RS.setI s 52 E) → JRG A U B b V0 s0 [tv x10, tv xb, r5] (KM xb p0 L P (K5 U r5 x p0 m5)) (-4) (-1) (CS.setI P 38 v) (RS.setI s 52 E) ∧ (CRQB B → pcC P = p0 + L.length)
theorem CKJ.hd (h : HSP N ac T xb x10 S P s q) (hp : pcC S = p0) : CKJ A U B b V0 r5 v E S s ac T id n0 p0 x xb x10 3 P q := by
  obtain ⟨p1, p6, p11, p15, e1, e6, e11, e15, ⟨hP, hb, h10⟩, ⟨j11, j15⟩, ⟨l9, l1, l2⟩, ⟨hq, h72, h38, h40⟩, hl⟩ := h
  refine ⟨[], CTQ.nil hq h72 h38 h40, fun _ hy => absurd hy List.not_mem_nil, by show _ + 3 + 3 * ((0 : Nat) : Int) ≤ _; omega, fun z => absurd z (by decide), ?_, fun s0 m5 j0 => ?_⟩
  · have o1 : p15.2.o = p11.2.o := (pj_eq j15).2.2.2.2.2.2.2.2.2.2.2.2.2.2.2.2.2.2.2.2.2.2.2.2.1
    have o2 : p11.2.o = (CS.setO p6.2 ac 10 p6.1).o := (pj_eq j11).2.2.2.2.2.2.2.2.2.2.2.2.2.2.2.2.2.2.2.2.2.2.2.2.1
    rw [hP, o1, o2, so_at, h10]
  · obtain ⟨-, -, -, -, -, -, -, -, -, -, -, -, -, bi50, -, -, -, -, -, -, ba48, ba49, -, -, -, -, -, bi21, -⟩ := pj_eq j11
    obtain ⟨-, -, -, -, -, -, -, -, -, -, -, -, -, oi50, -, -, -, -, -, -, oa48, oa49, -, -, -, -, -, oi21, -⟩ := pj_eq j15
    have n1 := nt_fi e1
    have n6 : ∀ k : Nat, k ≠ 21 → p6.2.i k = p1.2.i k := fun k hk => by rw [nt_fi e6 k hk, so_i, so_i]
    have j1 := j0.nt (nt_sh (D := v) e1) l9 (by omega)
    have j2 := (j1.so (ac := ac) (k := 0) (w := 215)).so (ac := ac) (k := 8) (w := 1)
    have j3 := j2.nt (nt_sh (D := v) e6) (by show ((CS.setO (CS.setO p1.2 ac 0 215) ac 8 1).i 44).toInt ≤ 900; rw [so_i, so_i, n1 44 (by decide)]; exact l9) (by omega)
    have j4 := j3.so (ac := ac) (k := 10) (w := p6.1)
    have j5 := j4.cek (R := CS.setI p11.2 38 v) 2 (pe.s38 (ke_X9_advance N _ p11 e11)) bi21 ba48 ba49 bi50 (by
      show ((CS.setO p6.2 ac 10 p6.1).i 44).toInt + 2 ≤ (p11.2.i 44).toInt
      rw [so_i, n6 44 (by decide), n1 44 (by decide)]
      exact l1)
    have j6 := j5.cek (R := CS.setI p15.2 38 v) 1 (pe.s38 (ke_X1_open N p11.2 40 p15 e15)) oi21 oa48 oa49 oi50 l2
    have pp : pcC P = p0 := by
      rw [hP, pcC.pe (ke_X1_open N p11.2 40 p15 e15), pcC.pe (ke_X9_advance N _ p11 e11), ← hp]
      unfold pcC
      rw [so_i, n6 20 (by decide), n1 20 (by decide)]
    rw [hP] at pp
    rw [hP, hb, h10]
    exact ⟨j6.imp (by omega) (by omega) (fun FC SF nm X ω j Z _ _ _ _ _ _ k => ⟨⟨fun i y hy => (by cases hy), by rw [pp]; rfl⟩, k⟩), fun _ => by rw [pp]; rfl⟩
theorem CKJ.sg (h : CKJ A U B b V0 r5 v E S s ac T id n0 p0 x xb x10 2 P q) (g : SSP T P R q w) : CKJ A U B b V0 r5 v E S s ac T id n0 p0 x xb x10 3 R w := by
  obtain ⟨L, h1, h2, h3, -, h4, h5⟩ := h
  obtain ⟨⟨g1, g2⟩, ⟨g3, g4, g5, g6⟩, g7, g8⟩ := g
  obtain ⟨-, -, -, -, -, -, -, -, -, -, -, -, -, bi50, -, -, -, -, -, -, ba48, ba49, -, -, bo, -, -, bi21, -⟩ := pj_eq g2
  refine ⟨L, h1.se g3 g4 g5 g6, h2, by omega, fun z => absurd z (by decide), by rw [bo]; exact h4, fun s0 m5 j0 => ?_⟩
  have j1 := (h5 s0 m5 j0).1.cek (R := CS.setI R 38 v) 1 (pe.s38 g1) bi21 ba48 ba49 bi50 g7
  exact ⟨j1.imp (by omega) (by omega) (fun FC SF nm X ω j Z _ _ _ _ _ _ k => ⟨⟨k.1.1, by rw [pcC.pe g1]; exact k.1.2⟩, k.2⟩), fun crB => by rw [pcC.pe g1]; exact (h5 s0 m5 j0).2 crB⟩
theorem CKJ.kd (h : CKJ A U B b V0 r5 v E S s ac T id n0 p0 x xb x10 3 P q) (g : KSP N T id ac xb P R q w) (h0 : 0 ≤ (s.i 33).toInt → (s.i 33).toInt = (n0 : Int)) (h72 : (s.a 72 T).toInt < (n0 : Int)) : CKJ A U B b V0 r5 v E S s ac T id n0 p0 x xb x10 2 R w := by
  obtain ⟨L, h1, h2, h3, -, h4, h5⟩ := h
  obtain ⟨num, o, p, pb, h12, ea, eb, hR, kst, pjb, ⟨l9, l44, l11⟩⟩ := g
  obtain ⟨-, -, -, -, -, -, -, -, -, -, -, -, -, bi50, -, -, -, -, -, -, ba48, ba49, -, -, bo, -, -, bi21, -⟩ := pj_eq pjb
  have pi : ∀ k : Nat, k ≠ 20 → p.2.i k = P.i k := by
    unfold f_X0_add at ea
    cases ea
    exact fun k hk => ci_ne _ _ _ hk
  have po : p.2.o = (CS.setO P ac 12 o).o := by
    unfold f_X0_add at ea
    cases ea
    rfl
  have ll : (L ++ [num]).length = L.length + 1 := by rw [List.length_append]; rfl
  refine ⟨L ++ [num], h1.add kst h0 h72, fun y hy => ?_, by rw [ll]; omega, fun _ => List.append_ne_nil_of_right_ne_nil _ (List.cons_ne_nil _ _), ?_, fun s0 m5 j0 => ?_⟩
  · rcases List.mem_append.mp hy with z | z
    · exact h2 y z
    · rw [List.mem_singleton.mp z]
      exact h12
  · rw [hR, bo, po, so_nk (by decide)]
    exact h4
  · have j1 := (h5 s0 m5 j0).1.so (ac := ac) (k := 12) (w := o)
    have j2 := j1.add (add_sh (D := v) ea) l9 (by omega)
    have j3 := j2.cek (R := CS.setI pb.2 38 v) 2 (pe.s38 (ke_X9_advance N p.2 pb eb)) bi21 ba48 ba49 bi50 (by
      show (p.2.i 44).toInt + 2 ≤ (pb.2.i 44).toInt
      rw [pi 44 (by decide), ← hR]
      exact l44)
    rw [hR]
    refine ⟨?_, fun crB => ?_⟩
    rotate_left
    · have z1 := (h5 s0 m5 j0).2 crB
      obtain ⟨b1, -⟩ := (h5 s0 m5 j0).1 crB
      have r1 := (crB.rms b1).1
      have r0 : 0 ≤ (P.i 20).toInt := r1.1
      have r2 : (P.i 20).toInt ≤ (P.i 44).toInt + 7 + -4 := r1.2
      have ck := clampI r0
      have p20 : p.2.i 20 = P.i 20 + 1 := by
        unfold f_X0_add at ea
        cases ea
        exact ci_at _ _ _
      rw [pcC.pe (ke_X9_advance N p.2 pb eb), ll]
      unfold pcC at z1 ⊢
      have z2 := ad1 r0 (by omega)
      have z3 := clampI (show 0 ≤ (P.i 20 + 1).toInt by omega)
      rw [p20]
      omega
    refine j3.imp (by omega) (by omega) (fun FC SF nm X ω j Z _ _ _ _ _ _ k => ?_)
    obtain ⟨⟨c1, c2, c3, c4⟩, ⟨k1, k2⟩, k3⟩ := k
    have pP : pcC (CS.setI (CS.setO P ac 12 o) 38 v) = pcC P := rfl
    rw [pP, k2] at c1 c2 c3 c4
    refine ⟨⟨k1.add c1 c2 c3, ?_⟩, k3⟩
    rw [pcC.pe (ke_X9_advance N p.2 pb eb), ll]
    exact c4
end
