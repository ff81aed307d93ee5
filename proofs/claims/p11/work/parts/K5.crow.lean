/-! reading: try: the rows of a catch -/
/-- the frame knows the last catch -/
def FC (u : RS) (t : Nat) (L : List Nat) : Prop := L = [] ∧ (u.a 72 t).toInt < 0 ∨ ∃ (M : List Nat) (j : Nat), L = M ++ [j] ∧ (u.a 72 t).toInt = (j : Int)
/-- rows NL laid since u -/
def CTL (t id : Nat) (CL NL : List Nat) (u σ : RS) : Prop := (LXI σ ∧ fr u ≤ fr σ ∧ σ.b = u.b) ∧ (∀ j : Nat, j < 10 ∨ 18 ≤ j → j ≠ 19 → j ≠ 33 → σ.i j = u.i j) ∧ (∀ k : Nat, k ≠ 30 → k ≠ 34 → k ≠ 37 → k ≠ 72 → σ.a k = u.a k) ∧ (∀ j : Nat, j ≠ id → σ.a 30 j = u.a 30 j) ∧ (∀ j : Nat, j ≠ t → σ.a 72 j = u.a 72 j) ∧ (∀ j : Nat, (j : Int) < caI u → σ.a 34 j = u.a 34 j) ∧ (∀ j : Nat, (j : Int) < caI u → j ∉ CL → σ.a 37 j = u.a 37 j) ∧ (caI u ≤ caI σ ∧ ∀ j : Nat, j ∈ NL ↔ caI u ≤ (j : Int) ∧ (j : Int) < caI σ) ∧ CACH σ (gv σ 30 id) (CL ++ NL) ∧ FC σ t (CL ++ NL)
/-- no fault so far -/
def CTG (u σ : RS) : Prop := σ.i 15 = 0 ∧ σ.i 19 = u.i 19 ∧ tkI u ≤ tkI σ ∧ tkI σ - tkI u ≤ fr σ - fr u ∧ 3 * (caI σ - caI u) ≤ fr σ - fr u + 1 ∧ 0 ≤ tkI σ ∧ tkI σ ≤ fr σ + 1
theorem CTL.lx {t id : Nat} {CL NL : List Nat} {u σ τ : RS} (h : CTL t id CL NL u σ) (x : LX σ τ) : CTL t id CL NL u τ := by
  obtain ⟨⟨a1, a2, a3⟩, b, c, d, e, f, g, ⟨h1, h2⟩, k, l⟩ := h
  have ec : caI τ = caI σ := x.tbl.ca
  have ef := x.2.2.2.2.2
  refine ⟨⟨x.2.2.2.1, by omega, x.2.1.trans a3⟩, fun j j1 j2 j3 => (x.2.2.1 j j1 j2).trans (b j j1 j2 j3), fun k' q1 q2 q3 q4 => by rw [x.1]; exact c k' q1 q2 q3 q4, fun j hj => by rw [x.1]; exact d j hj, fun j hj => by rw [x.1]; exact e j hj, fun j hj => by rw [x.1]; exact f j hj, fun j hj q => by rw [x.1]; exact g j hj q, ⟨by omega, fun j => by rw [ec]; exact h2 j⟩, ?_, ?_⟩
  · rw [x.tbl.g (by decide)]
    exact k.of (fun j _ => x.tbl.g (by decide) j)
  · unfold FC at l ⊢
    rw [x.1]; exact l
def ROWK (N : Nat) (K18 : RS → Int32 → Int32 → Int32 → Option (RS)) (σ : RS) (x1 x2 : Int32) : Option RS := if ib (σ.i 33) 400 then if ib x1 1000 then (if 0 ≤ (σ.a 72 ((x1 : Int32).toNatClampNeg)) then if ib (σ.a 72 ((x1 : Int32).toNatClampNeg)) 400 then (f_X12_next N (RS.setI (RS.setA (RS.setA (RS.setA (RS.setA σ 34 (((σ.i 33) : Int32).toNatClampNeg) (σ.i 14)) 37 (((σ.i 33) : Int32).toNatClampNeg) (-1)) 37 (((σ.a 72 ((x1 : Int32).toNatClampNeg)) : Int32).toNatClampNeg) (σ.i 33)) 72 ((x1 : Int32).toNatClampNeg) (σ.i 33)) 33 ((σ.i 33) + 1))).bind fun p41 => (if (p41.i 15) = 0 then (if (p41.i 10) = 124 then (f_X12_next N p41).bind fun p45 => K18 p45 x1 x2 1 else K18 p41 x1 x2 0) else K18 p41 x1 x2 0) else none else if ib (σ.a 66 ((x1 : Int32).toNatClampNeg)) 200 then (f_X12_next N (RS.setI (RS.setA (RS.setA (RS.setA (RS.setA σ 34 (((σ.i 33) : Int32).toNatClampNeg) (σ.i 14)) 37 (((σ.i 33) : Int32).toNatClampNeg) (-1)) 30 (((σ.a 66 ((x1 : Int32).toNatClampNeg)) : Int32).toNatClampNeg) (σ.i 33)) 72 ((x1 : Int32).toNatClampNeg) (σ.i 33)) 33 ((σ.i 33) + 1))).bind fun p48 => (if (p48.i 15) = 0 then (if (p48.i 10) = 124 then (f_X12_next N p48).bind fun p52 => K18 p52 x1 x2 1 else K18 p48 x1 x2 0) else K18 p48 x1 x2 0) else none) else none else none
theorem e_c82 {N : Nat} {K18 K : RS → Int32 → Int32 → Int32 → Option (RS)} {σ : RS} {x1 x2 x4 : Int32} : b_X12_catching_82 N K18 K σ x1 x2 x4 = (if x4 < 0 then ROWK N K18 σ x1 x2 else (if (σ.i 15) = 0 then if ib x4 400 then (f_X12_isUnder N σ (σ.i 14) (σ.a 34 ((x4 : Int32).toNatClampNeg))).bind fun p73 => (if p73.1 = 0 then K p73.2 x1 x2 (p73.2.a 37 ((x4 : Int32).toNatClampNeg)) else (f_X12_fail N p73.2 6 (p73.2.i 11)).bind fun p76 => K p76 x1 x2 (p76.a 37 ((x4 : Int32).toNatClampNeg))) else none else ROWK N K18 σ x1 x2)) := rfl
/-- one row more -/
theorem CTL.row {t id c : Nat} {CL NL : List Nat} {u σ Z : RS} (h : CTL t id CL NL u σ) (hc : (c : Int) = caI σ) (c4 : c < 400) (hCL : ∀ j ∈ CL, (j : Int) < caI u) (zi : ∀ j : Nat, j ≠ 33 → Z.i j = σ.i j) (z33 : caI Z = caI σ + 1) (zb : Z.b = σ.b) (za : ∀ k : Nat, k ≠ 30 → k ≠ 34 → k ≠ 37 → k ≠ 72 → Z.a k = σ.a k) (z30 : ∀ j : Nat, j ≠ id → Z.a 30 j = σ.a 30 j) (z72 : ∀ j : Nat, j ≠ t → Z.a 72 j = σ.a 72 j) (z72t : (Z.a 72 t).toInt = (c : Int)) (z34 : ∀ j : Nat, j ≠ c → Z.a 34 j = σ.a 34 j) (z37 : ∀ j : Nat, j ≠ c → j ∉ CL ++ NL → Z.a 37 j = σ.a 37 j) (zch : CACH Z (gv Z 30 id) (CL ++ NL ++ [c])) : CTL t id CL (NL ++ [c]) u Z := by
  obtain ⟨⟨a1, a2, a3⟩, b, c', d, e, f, g, ⟨h1, h2⟩, k, l⟩ := h
  have fZ : fr Z = fr σ := by unfold fr; rw [zi 11 (by decide)]
  refine ⟨⟨a1.of (zi 2 (by decide)) (zi 10 (by decide)) (zi 11 (by decide)) (zi 12 (by decide)) (zi 14 (by decide)) (by rw [zb]), by omega, zb.trans a3⟩, fun j j1 j2 j3 => (zi j j3).trans (b j j1 j2 j3), fun k' q1 q2 q3 q4 => (za k' q1 q2 q3 q4).trans (c' k' q1 q2 q3 q4), fun j hj => (z30 j hj).trans (d j hj), fun j hj => (z72 j hj).trans (e j hj), fun j hj => (z34 j (by omega)).trans (f j hj), fun j hj q => ?_, ⟨by omega, fun j => ?_⟩, ?_, ?_⟩
  · refine (z37 j (by omega) (fun y => ?_)).trans (g j hj q)
    rcases List.mem_append.mp y with y | y
    · exact q y
    · have := ((h2 j).mp y).1; omega
  · rw [List.mem_append]
    constructor
    · rintro (q | q)
      · have := (h2 j).mp q; omega
      · rcases List.mem_cons.mp q with q | q
        · omega
        · exact absurd q List.not_mem_nil
    · intro q
      by_cases y : j = c
      · right; rw [y]; exact List.mem_cons_self ..
      · left; exact (h2 j).mpr ⟨q.1, by omega⟩
  · rw [← List.append_assoc]; exact zch
  · right; exact ⟨CL ++ NL, c, by rw [List.append_assoc], z72t⟩
theorem CTG.row {u σ Z : RS} (h : CTG u σ) (zi : ∀ j : Nat, j ≠ 33 → Z.i j = σ.i j) : Z.i 15 = 0 ∧ Z.i 19 = u.i 19 ∧ tkI Z = tkI σ ∧ fr Z = fr σ := ⟨(zi 15 (by decide)).trans h.1, (zi 19 (by decide)).trans h.2.1, by unfold tkI; rw [zi 17 (by decide)], by unfold fr; rw [zi 11 (by decide)]⟩
/-- behind a row: the next tokens -/
theorem p_rown {N : Nat} (hN : 1000 ≤ N) {K18 : RS → Int32 → Int32 → Int32 → Option (RS)} {x1 x2 : Int32} {t id : Nat} {CL NL : List Nat} {u σ Z : RS} (hZ : CTL t id CL NL u Z) (zi : ∀ j : Nat, j ≠ 33 → Z.i j = σ.i j) (z33 : caI Z = caI σ + 1) : ∃ (p : RS) (x3 : Int32), ((f_X12_next N Z).bind fun p => (if (p.i 15) = 0 then (if (p.i 10) = 124 then (f_X12_next N p).bind fun p45 => K18 p45 x1 x2 1 else K18 p x1 x2 0) else K18 p x1 x2 0)) = K18 p x1 x2 x3 ∧ CTL t id CL NL u p ∧ (x3 = 0 ∨ x3 = 1) ∧ (¬ σ.i 15 = 0 → ¬ p.i 15 = 0) ∧ (CTG u σ → 3 * (caI σ - caI u) ≤ fr σ - fr u → σ.i 10 = 5 → CTG u p ∧ fr σ + 2 ≤ fr p ∧ (x3 = 1 → 3 * (caI p - caI u) ≤ fr p - fr u)) := by
  obtain ⟨p, ep, l1, l2, l3, l4⟩ := p_nx hN hZ.1.1
  rw [ep]
  have hp := hZ.lx l1
  have cp : caI p = caI Z := l1.tbl.ca
  have fZ : fr Z = fr σ := by unfold fr; rw [zi 11 (by decide)]
  have tZ : tkI Z = tkI σ := by unfold tkI; rw [zi 17 (by decide)]
  show ∃ (q : RS) (x3 : Int32), (if (p.i 15) = 0 then (if (p.i 10) = 124 then (f_X12_next N p).bind fun p45 => K18 p45 x1 x2 1 else K18 p x1 x2 0) else K18 p x1 x2 0) = K18 q x1 x2 x3 ∧ _
  have flt : ¬ σ.i 15 = 0 → ¬ p.i 15 = 0 := fun q y => q (by rw [← zi 15 (by decide)]; exact l1.2.2.2.2.1 y)
  have good : CTG u σ → 3 * (caI σ - caI u) ≤ fr σ - fr u → σ.i 10 = 5 → CTG u p ∧ fr σ + 2 ≤ fr p ∧ tkI p = tkI σ + 1 := fun h h3 h5 => by
    obtain ⟨g1, g2, g3, g4, g5, g6, g7⟩ := h
    obtain ⟨q1, q2⟩ := l4 ((zi 15 (by decide)).trans g1)
    have z10 : Z.i 10 = 5 := (zi 10 (by decide)).trans h5
    obtain ⟨n1, n2, n3⟩ := q2 (by rw [z10]; decide)
    have n3 := n3 (Or.inr z10)
    have hf := hZ.1.1.f0
    have tp : tkI p = tkI Z + 1 := tk_add n1 ⟨by omega, by omega⟩
    exact ⟨⟨q1, l2.trans ((zi 19 (by decide)).trans g2), by omega, by omega, by omega, by omega, by omega⟩, by omega, by omega⟩
  by_cases c15 : p.i 15 = 0
  case neg =>
    rw [if_neg c15]
    exact ⟨p, 0, rfl, hp, Or.inl rfl, fun _ => c15, fun a b c => absurd (good a b c).1.1 c15⟩
  rw [if_pos c15]
  by_cases c124 : p.i 10 = 124
  case neg =>
    rw [if_neg c124]
    exact ⟨p, 0, rfl, hp, Or.inl rfl, flt, fun a b c => ⟨(good a b c).1, (good a b c).2.1, fun q => absurd q (by decide)⟩⟩
  rw [if_pos c124]
  obtain ⟨q, eq, m1, m2, m3, m4⟩ := p_nx hN hp.1.1
  rw [eq]
  obtain ⟨q1, q2⟩ := m4 c15
  obtain ⟨n1, n2, n3⟩ := q2 (by rw [c124]; decide)
  refine ⟨q, 1, rfl, hp.lx m1, Or.inr rfl, fun a => absurd c15 (flt a), fun a b c => ?_⟩
  obtain ⟨⟨g1, g2, g3, g4, g5, g6, g7⟩, g8, g9⟩ := good a b c
  have cq : caI q = caI p := m1.tbl.ca
  have hf := hp.1.1.f0
  have tq : tkI q = tkI p + 1 := tk_add n1 ⟨by omega, by omega⟩
  exact ⟨⟨q1, m2.trans g2, by omega, by omega, by omega, by omega, by omega⟩, by omega, fun _ => by omega⟩
theorem p_rowk {N : Nat} (hN : 1000 ≤ N) {K18 : RS → Int32 → Int32 → Int32 → Option (RS)} {x1 x2 : Int32} {t id : Nat} {CL NL : List Nat} {u σ : RS} (h : CTL t id CL NL u σ) (ibx : ib x1 1000) (nx : x1.toNatClampNeg = t) (hid : (u.a 66 t).toInt = (id : Int)) (i2 : id < 200) (h0 : 0 ≤ caI u) (h4 : caI σ < 400) (hCL : ∀ j ∈ CL, (j : Int) < caI u) : ∃ (p : RS) (x3 : Int32) (NL' : List Nat), ROWK N K18 σ x1 x2 = K18 p x1 x2 x3 ∧ CTL t id CL NL' u p ∧ NL' ≠ [] ∧ (x3 = 0 ∨ x3 = 1) ∧ (¬ σ.i 15 = 0 → ¬ p.i 15 = 0) ∧ (CTG u σ → 3 * (caI σ - caI u) ≤ fr σ - fr u → σ.i 10 = 5 → CTG u p ∧ fr σ + 2 ≤ fr p ∧ (x3 = 1 → 3 * (caI p - caI u) ≤ fr p - fr u)) := by
  obtain ⟨c, hc⟩ : ∃ c : Nat, c = (caI σ).toNat := ⟨_, rfl⟩
  have hcu := h.2.2.2.2.2.2.2.1.1
  have ec : (c : Int) = caI σ := by rw [hc]; exact Int.toNat_of_nonneg (by omega)
  have n33 : (σ.i 33).toNatClampNeg = c := hc.symm
  have i33 : ib (σ.i 33) 400 := ⟨by show 0 ≤ caI σ; omega, h4⟩
  have e1 : (1 : Int32).toInt = 1 := by decide
  have m1 : (-1 : Int32).toInt = -1 := by decide
  have h33 : (σ.i 33).toInt = caI σ := rfl
  have x33 : (σ.i 33 + 1).toInt = caI σ + 1 := by rw [toInt_add] <;> rw [e1] <;> omega
  have s66 : (σ.a 66 t).toInt = (id : Int) := by rw [h.2.2.1 66 (by decide) (by decide) (by decide) (by decide)]; exact hid
  have hNL := h.2.2.2.2.2.2.2.1.2
  have mem : ∀ j ∈ CL ++ NL, (j : Int) < caI σ := fun j hj => by
    rcases List.mem_append.mp hj with q | q
    · have := hCL j q; omega
    · exact ((hNL j).mp q).2
  have hch := h.2.2.2.2.2.2.2.2.1
  obtain ⟨A, hA⟩ : ∃ A, A = (RS.setA (RS.setA σ 34 c (σ.i 14)) 37 c (-1)) := ⟨_, rfl⟩
  have iA : A.i = σ.i := by rw [hA]; rfl
  have bA : A.b = σ.b := by rw [hA]; rfl
  have aA : ∀ k : Nat, k ≠ 34 → k ≠ 37 → A.a k = σ.a k := fun k p q => by rw [hA, setA_nk q, setA_nk p]
  have A34 : ∀ j : Nat, j ≠ c → A.a 34 j = σ.a 34 j := fun j hj => by rw [hA, setA_nk (by decide), setA_ne hj]
  have A37 : ∀ j : Nat, j ≠ c → A.a 37 j = σ.a 37 j := fun j hj => by rw [hA, setA_ne hj, setA_nk (by decide)]
  have A37c : A.a 37 c = -1 := by rw [hA]; exact setA_at
  unfold ROWK
  rw [if_pos i33, if_pos ibx, nx, n33, ← hA]
  clear hA
  rcases h.2.2.2.2.2.2.2.2.2 with ⟨q1, q2⟩ | ⟨M, j, q1, q2⟩
  · have cn : ¬ (0 : Int32) ≤ σ.a 72 t := fun z => by
      have := Int32.le_iff_toInt_le.mp z
      rw [z_t0] at this
      omega
    rw [if_neg cn, if_pos (show ib (σ.a 66 t) 200 from ⟨by omega, by omega⟩), k_nat s66]
    obtain ⟨Z, hZ⟩ : ∃ Z, Z = RS.setI (RS.setA (RS.setA A 30 id (σ.i 33)) 72 t (σ.i 33)) 33 ((σ.i 33) + 1) := ⟨_, rfl⟩
    rw [← hZ]
    have zi : ∀ j : Nat, j ≠ 33 → Z.i j = σ.i j := fun j hj => by rw [hZ]; exact (if_neg hj).trans (by show A.i j = _; rw [iA])
    have z33 : caI Z = caI σ + 1 := by rw [hZ]; exact x33
    have zb : Z.b = σ.b := by rw [hZ]; exact bA
    have za : ∀ k : Nat, k ≠ 30 → k ≠ 72 → Z.a k = A.a k := fun k p q => by rw [hZ, setI_a, setA_nk q, setA_nk p]
    have z30 : ∀ j : Nat, j ≠ id → Z.a 30 j = σ.a 30 j := fun j hj => by rw [hZ, setI_a, setA_nk (by decide), setA_ne hj, aA 30 (by decide) (by decide)]
    have z30i : Z.a 30 id = σ.i 33 := by rw [hZ, setI_a, setA_nk (by decide)]; exact setA_at
    have z72 : ∀ j : Nat, j ≠ t → Z.a 72 j = σ.a 72 j := fun j hj => by rw [hZ, setI_a, setA_ne hj, setA_nk (by decide), aA 72 (by decide) (by decide)]
    have z72t : Z.a 72 t = σ.i 33 := by rw [hZ, setI_a]; exact setA_at
    clear hZ
    have z37c : gv Z 37 c = -1 := by unfold gv; rw [za 37 (by decide) (by decide), A37c]; exact m1
    have hZc : CTL t id CL (NL ++ [c]) u Z := h.row ec (by omega) hCL zi z33 zb (fun k p1 p2 p3 p4 => (za k p1 p4).trans (aA k p2 p3)) z30 z72 (by rw [z72t]; omega) (fun j hj => by rw [za 34 (by decide) (by decide)]; exact A34 j hj) (fun j hj _ => by rw [za 37 (by decide) (by decide)]; exact A37 j hj) (by
      rw [q1]
      show CACH Z (gv Z 30 id) (c :: [])
      refine ⟨?_, fun i hi => absurd hi List.not_mem_nil, ?_⟩
      · unfold gv; rw [z30i]; omega
      · show gv Z 37 c < 0
        rw [z37c]; decide)
    obtain ⟨p, x3, r1, r2, r3, r4, r5⟩ := p_rown hN (K18 := K18) (x1 := x1) (x2 := x2) hZc zi z33
    exact ⟨p, x3, NL ++ [c], r1, r2, by simp, r3, r4, r5⟩
  · have jm := mem j (by rw [q1]; exact List.mem_append_right _ (List.mem_cons_self ..))
    have cn : (0 : Int32) ≤ σ.a 72 t := Int32.le_iff_toInt_le.mpr (by rw [z_t0]; omega)
    rw [if_pos cn, if_pos (show ib (σ.a 72 t) 400 from ⟨by omega, by omega⟩), k_nat q2]
    obtain ⟨Z, hZ⟩ : ∃ Z, Z = RS.setI (RS.setA (RS.setA A 37 j (σ.i 33)) 72 t (σ.i 33)) 33 ((σ.i 33) + 1) := ⟨_, rfl⟩
    rw [← hZ]
    have zi : ∀ j : Nat, j ≠ 33 → Z.i j = σ.i j := fun j hj => by rw [hZ]; exact (if_neg hj).trans (by show A.i j = _; rw [iA])
    have z33 : caI Z = caI σ + 1 := by rw [hZ]; exact x33
    have zb : Z.b = σ.b := by rw [hZ]; exact bA
    have za : ∀ k : Nat, k ≠ 37 → k ≠ 72 → Z.a k = A.a k := fun k p q => by rw [hZ, setI_a, setA_nk q, setA_nk p]
    have z37 : ∀ i : Nat, i ≠ j → Z.a 37 i = A.a 37 i := fun i hi => by rw [hZ, setI_a, setA_nk (by decide), setA_ne hi]
    have z37j : Z.a 37 j = σ.i 33 := by rw [hZ, setI_a, setA_nk (by decide)]; exact setA_at
    have z72 : ∀ j : Nat, j ≠ t → Z.a 72 j = σ.a 72 j := fun j hj => by rw [hZ, setI_a, setA_ne hj, setA_nk (by decide), aA 72 (by decide) (by decide)]
    have z72t : Z.a 72 t = σ.i 33 := by rw [hZ, setI_a]; exact setA_at
    clear hZ
    have z37c : gv Z 37 c = -1 := by unfold gv; rw [z37 c (by omega), A37c]; exact m1
    have e30 : gv Z 30 id = gv σ 30 id := by unfold gv; rw [za 30 (by decide) (by decide), aA 30 (by decide) (by decide)]
    have inM : ∀ i ∈ M, i < j := by
      have nd : ∀ {M : List Nat} {x : Int}, CACH σ x (M ++ [j]) → ∀ i ∈ M, i < j := fun {M} => by
        induction M with
        | nil => intro x _ i hi; exact absurd hi List.not_mem_nil
        | cons m M ih =>
          intro x h i hi
          have h : CACH σ x (m :: (M ++ [j])) := h
          rcases List.mem_cons.mp hi with q | q
          · rw [q]; exact h.2.1 j (List.mem_append_right _ (List.mem_cons_self ..))
          · exact ih h.2.2 i q
      rw [q1] at hch
      exact nd hch
    have hZc : CTL t id CL (NL ++ [c]) u Z := h.row ec (by omega) hCL zi z33 zb (fun k p1 p2 p3 p4 => (za k p3 p4).trans (aA k p2 p3)) (fun i _ => by rw [za 30 (by decide) (by decide), aA 30 (by decide) (by decide)]) z72 (by rw [z72t]; omega) (fun i hi => by rw [za 34 (by decide) (by decide)]; exact A34 i hi) (fun i hi hn => by
      have : i ≠ j := fun q => hn (by rw [q1, q]; exact List.mem_append_right _ (List.mem_cons_self ..))
      rw [z37 i this]; exact A37 i hi) (by
      rw [e30, q1]
      rw [q1] at hch
      refine CACH.snoc hch (fun i hi => ?_) ?_ (by rw [z37c]; decide) (fun i hi => ?_) (by omega)
      · have := inM i hi
        have := mem i (by rw [q1]; exact List.mem_append_left _ hi)
        unfold gv; rw [z37 i (by omega), A37 i (by omega)]
      · unfold gv; rw [z37j]; omega
      · have := mem i (by rw [q1]; exact List.mem_append_left _ hi)
        omega)
    obtain ⟨p, x3, r1, r2, r3, r4, r5⟩ := p_rown hN (K18 := K18) (x1 := x1) (x2 := x2) hZc zi z33
    exact ⟨p, x3, NL ++ [c], r1, r2, by simp, r3, r4, r5⟩
