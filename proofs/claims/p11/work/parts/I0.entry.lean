/-! reading: the entries of a switch -/
/-- the chain of a switch's entries, in their order -/
def ENCH (u : RS) : Int → List Nat → Prop
  | x, [] => x < 0
  | x, j :: L => x = (j : Int) ∧ (∀ i ∈ L, j < i) ∧ ENCH u (gv u 27 j) L
theorem ENCH.of {s u : RS} : ∀ {L : List Nat} {x : Int}, ENCH s x L → (∀ j ∈ L, gv u 27 j = gv s 27 j) → ENCH u x L
  | [], _, h, _ => h
  | j :: L, _, ⟨h1, h2, h3⟩, hu => by
    refine ⟨h1, h2, ?_⟩
    rw [hu j (List.mem_cons_self ..)]
    exact ENCH.of h3 (fun i hi => hu i (List.mem_cons_of_mem _ hi))
theorem ENCH.snoc {s u : RS} {e j : Nat} : ∀ {M : List Nat} {x : Int}, ENCH s x (M ++ [j]) → (∀ i ∈ M, gv u 27 i = gv s 27 i) → gv u 27 j = (e : Int) → gv u 27 e < 0 → (∀ i ∈ M, i < e) → j < e → ENCH u x (M ++ [j] ++ [e])
  | [], x, h, hu, hj, he, hM, hlt => by
    have h : ENCH s x (j :: []) := h
    show ENCH u x (j :: e :: [])
    refine ⟨h.1, fun i hi => ?_, ?_⟩
    · rcases List.mem_cons.mp hi with q | q
      · rw [q]; exact hlt
      · exact absurd q List.not_mem_nil
    · rw [hj]
      exact ⟨rfl, fun i hi => absurd hi List.not_mem_nil, he⟩
  | m :: M, x, h, hu, hj, he, hM, hlt => by
    have h : ENCH s x (m :: (M ++ [j])) := h
    show ENCH u x (m :: (M ++ [j] ++ [e]))
    obtain ⟨h1, h2, h3⟩ := h
    refine ⟨h1, fun i hi => ?_, ?_⟩
    · rcases List.mem_append.mp hi with q | q
      · exact h2 i q
      · rcases List.mem_cons.mp q with q | q
        · rw [q]; exact hM m (List.mem_cons_self ..)
        · exact absurd q List.not_mem_nil
    · rw [hu m (List.mem_cons_self ..)]
      exact ENCH.snoc h3 (fun i hi => hu i (List.mem_cons_of_mem _ hi)) hj he (fun i hi => hM i (List.mem_cons_of_mem _ hi)) hlt
theorem ENCH.inn {W : RS} {j : Nat} : ∀ {n : Nat} {x : Int} {L : List Nat}, entryIn W j n x → ENCH W x L → j ∈ L
  | 0, _, _, h, _ => h.elim
  | n + 1, x, [], h, q => by
    have q : x < 0 := q
    have := h.1
    omega
  | n + 1, x, i :: L, h, q => by
    obtain ⟨h0, h1⟩ := h
    obtain ⟨q1, q2, q3⟩ := q
    rcases h1 with h1 | h1
    · have : j = i := by omega
      rw [this]; exact List.mem_cons_self ..
    · have e : x.toNat = i := by omega
      rw [e] at h1
      exact List.mem_cons_of_mem _ (ENCH.inn h1 q3)
theorem ENCH.mem {W : RS} {j : Nat} : ∀ {n : Nat} {x : Int} {L : List Nat}, ENCH W x L → j ∈ L → L.length ≤ n → entryIn W j n x
  | _, _, [], _, h, _ => absurd h List.not_mem_nil
  | 0, _, _ :: _, _, _, h => absurd h (Nat.not_succ_le_zero _)
  | n + 1, x, i :: L, q, h, hn => by
    obtain ⟨q1, q2, q3⟩ := q
    refine ⟨by omega, ?_⟩
    rcases List.mem_cons.mp h with h | h
    · left; rw [q1, h]
    · right
      have e : x.toNat = i := by omega
      rw [e]
      exact ENCH.mem q3 h (Nat.le_of_succ_le_succ hn)
theorem ENCH.nd {W : RS} : ∀ {L : List Nat} {x : Int}, ENCH W x L → ND L
  | [], _, _ => True.intro
  | i :: L, _, q => ⟨fun h => by have := q.2.1 i h; omega, ENCH.nd q.2.2⟩
theorem ENCH.nxt {W : RS} {j : Nat} : ∀ {L : List Nat} {x : Int}, ENCH W x L → j ∈ L → gv W 27 j < 0 ∨ ∃ i ∈ L, gv W 27 j = (i : Int) ∧ j < i
  | [], _, _, h => absurd h List.not_mem_nil
  | i :: [], _, q, h => by
    rcases List.mem_cons.mp h with h | h
    · subst h; exact Or.inl q.2.2
    · exact absurd h List.not_mem_nil
  | i :: m :: L, _, q, h => by
    rcases List.mem_cons.mp h with h | h
    · subst h
      have q3 : ENCH W (gv W 27 j) (m :: L) := q.2.2
      exact Or.inr ⟨m, List.mem_cons_of_mem _ (List.mem_cons_self ..), q3.1, q.2.1 m (List.mem_cons_self ..)⟩
    · rcases ENCH.nxt (L := m :: L) q.2.2 h with r | ⟨y, y1, y2, y3⟩
      · exact Or.inl r
      · exact Or.inr ⟨y, List.mem_cons_of_mem _ y1, y2, y3⟩
/-- the frame knows the chain's last -/
def FQ (u : RS) (t : Nat) (L : List Nat) : Prop := L = [] ∧ (u.a 67 t).toInt < 0 ∨ ∃ (M : List Nat) (j : Nat), L = M ++ [j] ∧ (u.a 67 t).toInt = (j : Int)
/-- an entry more -/
def ENT (t c0 : Nat) (L : List Nat) (y : Int32) (u U : RS) : Prop := (∀ j : Nat, j ≠ 24 → U.i j = u.i j) ∧ enI U = enI u + 1 ∧ U.b = u.b ∧ (∀ k : Nat, k ≠ 22 → ¬ (25 ≤ k ∧ k ≤ 28) → k ≠ 67 → U.a k = u.a k) ∧ (∀ j : Nat, j ≠ t → U.a 67 j = u.a 67 j) ∧ (U.a 67 t).toInt = enI u ∧ (∀ j : Nat, j ≠ c0 → U.a 22 j = u.a 22 j) ∧ (∀ k j : Nat, 25 ≤ k → k ≤ 28 → j ≠ (enI u).toNat → k ≠ 27 ∨ j ∉ L → U.a k j = u.a k j) ∧ U.a 26 (enI u).toNat = u.i 20 ∧ gv U 27 (enI u).toNat = -1 ∧ U.a 28 (enI u).toNat = y ∧ ENCH U (gv U 22 c0) (L ++ [(enI u).toNat])
theorem setI_a {s : RS} {j : Nat} {v : Int32} : (s.setI j v).a = s.a := rfl
theorem p_en {N : Nat} {u : RS} {t c0 : Nat} {L : List Nat} {x1 : Int32} (x2 x3 : Int32) (ibx : ib x1 1000) (nx : x1.toNatClampNeg = t) (h24 : 0 ≤ enI u) (h5 : enI u < 500) (h66 : (u.a 66 t).toInt = (c0 : Int)) (hc : c0 < 3000) (hq : FQ u t L) (hch : ENCH u (gv u 22 c0) L) (hL : ∀ j ∈ L, (j : Int) < enI u) : ∃ U, f_X12_entry N u x1 x2 x3 = some U ∧ ENT t c0 L (vp_nar .boolean x3) u U := by
  obtain ⟨e, he⟩ : ∃ e, e = (enI u).toNat := ⟨_, rfl⟩
  have ee : (e : Int) = enI u := by rw [he]; exact Int.toNat_of_nonneg h24
  have n24 : (u.i 24).toNatClampNeg = e := he.symm
  have i24 : ib (u.i 24) 500 := ⟨h24, h5⟩
  have n66 := k_nat h66
  have i66 : ib (u.a 66 t) 3000 := ⟨by omega, by omega⟩
  have m1 : (-1 : Int32).toInt = -1 := by decide
  have e1 : (1 : Int32).toInt = 1 := by decide
  have h24' : 0 ≤ (u.i 24).toInt := h24
  have h5' : (u.i 24).toInt < 500 := h5
  have ex24 : (u.i 24 + 1).toInt = (u.i 24).toInt + 1 := by rw [toInt_add] <;> rw [e1] <;> omega
  obtain ⟨A, hA⟩ : ∃ A, A = ((RS.setA u 25 e x2).setA 26 e (u.i 20)) := ⟨_, rfl⟩
  obtain ⟨B, hB⟩ : ∃ B, B = ((A.setA 27 e (-1)).setA 28 e (vp_nar .boolean x3)) := ⟨_, rfl⟩
  have iB : B.i = u.i := by rw [hB, hA]; rfl
  have bB : B.b = u.b := by rw [hB, hA]; rfl
  have aB : ∀ k : Nat, ¬ (25 ≤ k ∧ k ≤ 28) → B.a k = u.a k := fun k hk => by rw [hB, setA_nk (by omega), setA_nk (by omega), hA, setA_nk (by omega), setA_nk (by omega)]
  have jB : ∀ k j : Nat, j ≠ e → B.a k j = u.a k j := fun k j hj => by rw [hB, setA_ne hj, setA_ne hj, hA, setA_ne hj, setA_ne hj]
  have B26 : B.a 26 e = u.i 20 := by rw [hB, setA_nk (by decide), setA_nk (by decide), hA]; exact setA_at
  have B27 : B.a 27 e = -1 := by rw [hB, setA_nk (by decide)]; exact setA_at
  have B28 : B.a 28 e = vp_nar .boolean x3 := by rw [hB]; exact setA_at
  unfold f_X12_entry
  rw [if_pos i24, if_pos ibx, nx, n24, ← hA, ← hB]
  rcases hq with ⟨q1, q2⟩ | ⟨M, j, q1, q2⟩
  · subst q1
    have c : ¬ (0 : Int32) ≤ u.a 67 t := fun z => by
      have := Int32.le_iff_toInt_le.mp z
      rw [z_t0] at this
      omega
    rw [if_neg c, if_pos i66, n66]
    unfold f_X12_entry_85
    rw [if_pos ibx, nx]
    refine ⟨_, rfl, ?_⟩
    obtain ⟨D, hD⟩ : ∃ D, D = (B.setA 22 c0 (u.i 24)).setA 67 t ((B.setA 22 c0 (u.i 24)).i 24) := ⟨_, rfl⟩
    have iD : D.i = u.i := by rw [hD]; exact iB
    have d24 : (B.setA 22 c0 (u.i 24)).i 24 = u.i 24 := by show B.i 24 = _; rw [iB]
    rw [← hD]
    have aD : ∀ k : Nat, k ≠ 22 → k ≠ 67 → D.a k = B.a k := fun k h1 h2 => by rw [hD, setA_nk h2, setA_nk h1]
    have D67 : ∀ j : Nat, j ≠ t → D.a 67 j = B.a 67 j := fun j hj => by rw [hD, setA_ne hj, setA_nk (by decide)]
    have D67t : D.a 67 t = u.i 24 := by rw [hD, setA_at, d24]
    have D22 : ∀ j : Nat, j ≠ c0 → D.a 22 j = B.a 22 j := fun j hj => by rw [hD, setA_nk (by decide), setA_ne hj]
    have D22c : D.a 22 c0 = u.i 24 := by rw [hD, setA_nk (by decide), setA_at]
    have bD : D.b = u.b := by rw [hD]; exact bB
    rw [d24]
    clear hD
    unfold ENT
    rw [← he]
    refine ⟨fun j hj => (if_neg hj).trans (by rw [iD]), ex24, bD, fun k h1 h2 h3 => ?_, fun j hj => ?_, ?_, fun j hj => ?_, fun k j h1 h2 h3 _ => ?_, ?_, ?_, ?_, ?_⟩
    · rw [setI_a, aD k h1 h3]; exact aB k h2
    · rw [setI_a, D67 j hj, aB 67 (by omega)]
    · rw [setI_a, D67t]; rfl
    · rw [setI_a, D22 j hj, aB 22 (by omega)]
    · rw [setI_a, aD k (by omega) (by omega)]; exact jB k j h3
    · rw [setI_a, aD 26 (by decide) (by decide)]; exact B26
    · unfold gv; rw [setI_a, aD 27 (by decide) (by decide), B27]; exact m1
    · rw [setI_a, aD 28 (by decide) (by decide)]; exact B28
    · show ENCH _ _ (e :: [])
      refine ⟨?_, fun i hi => absurd hi List.not_mem_nil, ?_⟩
      · unfold gv; rw [setI_a, D22c]; exact ee.symm
      · show gv _ 27 e < 0
        unfold gv; rw [setI_a, aD 27 (by decide) (by decide), B27, m1]; decide
  · subst q1
    have jL : (j : Int) < enI u := hL j (List.mem_append_right _ (List.mem_cons_self ..))
    have c : (0 : Int32) ≤ u.a 67 t := Int32.le_iff_toInt_le.mpr (by rw [z_t0]; omega)
    have i67 : ib (u.a 67 t) 500 := ⟨by omega, by omega⟩
    have n67 := k_nat q2
    rw [if_pos c, if_pos i67, n67]
    unfold f_X12_entry_85
    rw [if_pos ibx, nx]
    refine ⟨_, rfl, ?_⟩
    obtain ⟨D, hD⟩ : ∃ D, D = (B.setA 27 j (u.i 24)).setA 67 t ((B.setA 27 j (u.i 24)).i 24) := ⟨_, rfl⟩
    have iD : D.i = u.i := by rw [hD]; exact iB
    have d24 : (B.setA 27 j (u.i 24)).i 24 = u.i 24 := by show B.i 24 = _; rw [iB]
    rw [← hD]
    have aD : ∀ k : Nat, k ≠ 27 → k ≠ 67 → D.a k = B.a k := fun k h1 h2 => by rw [hD, setA_nk h2, setA_nk h1]
    have D67 : ∀ j : Nat, j ≠ t → D.a 67 j = B.a 67 j := fun j hj => by rw [hD, setA_ne hj, setA_nk (by decide)]
    have D67t : D.a 67 t = u.i 24 := by rw [hD, setA_at, d24]
    have D27 : ∀ i : Nat, i ≠ j → D.a 27 i = B.a 27 i := fun i hi => by rw [hD, setA_nk (by decide), setA_ne hi]
    have D27j : D.a 27 j = u.i 24 := by rw [hD, setA_nk (by decide), setA_at]
    have bD : D.b = u.b := by rw [hD]; exact bB
    rw [d24]
    clear hD
    unfold ENT
    rw [← he]
    have ej : e ≠ j := by omega
    have D27e : D.a 27 e = -1 := by rw [D27 e ej]; exact B27
    have inM : ∀ i ∈ M, i ≠ j := fun i hi => by
      have nd : ∀ {M : List Nat} {x : Int}, ENCH u x (M ++ [j]) → ∀ i ∈ M, i < j := fun {M} => by
        induction M with
        | nil => intro x _ i hi; exact absurd hi List.not_mem_nil
        | cons m M ih =>
          intro x h i hi
          have h : ENCH u x (m :: (M ++ [j])) := h
          rcases List.mem_cons.mp hi with q | q
          · rw [q]; exact h.2.1 j (List.mem_append_right _ (List.mem_cons_self ..))
          · exact ih h.2.2 i q
      have := nd hch i hi
      omega
    refine ⟨fun i hi => (if_neg hi).trans (by rw [iD]), ex24, bD, fun k h1 h2 h3 => ?_, fun i hi => ?_, ?_, fun i hi => ?_, fun k i h1 h2 h3 h4 => ?_, ?_, ?_, ?_, ?_⟩
    · rw [setI_a, aD k (by omega) h3]; exact aB k h2
    · rw [setI_a, D67 i hi, aB 67 (by omega)]
    · rw [setI_a, D67t]; rfl
    · rw [setI_a, aD 22 (by decide) (by decide), aB 22 (by omega)]
    · by_cases c27 : k = 27
      · subst c27
        have : i ≠ j := fun q => by
          rcases h4 with h4 | h4
          · exact h4 rfl
          · exact h4 (by rw [q]; exact List.mem_append_right _ (List.mem_cons_self ..))
        rw [setI_a, D27 i this]; exact jB 27 i h3
      · rw [setI_a, aD k c27 (by omega)]; exact jB k i h3
    · rw [setI_a, aD 26 (by decide) (by decide)]; exact B26
    · unfold gv; rw [setI_a, D27e]; exact m1
    · rw [setI_a, aD 28 (by decide) (by decide)]; exact B28
    · have e22 : gv (D.setI 24 (u.i 24 + 1)) 22 c0 = gv u 22 c0 := by unfold gv; rw [setI_a, aD 22 (by decide) (by decide), aB 22 (by omega)]
      rw [e22]
      refine ENCH.snoc hch (fun i hi => ?_) ?_ ?_ (fun i hi => ?_) (by omega)
      · have := hL i (List.mem_append_left _ hi)
        unfold gv; rw [setI_a, D27 i (inM i hi), jB 27 i (by omega)]
      · unfold gv; rw [setI_a, D27j]; exact ee.symm
      · unfold gv; rw [setI_a, D27e, m1]; decide
      · have := hL i (List.mem_append_left _ hi)
        omega
theorem ENT.fq {t c0 : Nat} {L : List Nat} {y : Int32} {u U : RS} (h : ENT t c0 L y u U) (h0 : 0 ≤ enI u) : FQ U t (L ++ [(enI u).toNat]) := Or.inr ⟨L, _, rfl, by rw [h.2.2.2.2.2.1]; exact (Int.toNat_of_nonneg h0).symm⟩
theorem ENT.cd {t c0 : Nat} {L : List Nat} {y : Int32} {u U : RS} (h : ENT t c0 L y u U) : cdI U = cdI u := by unfold cdI; rw [h.1 20 (by decide)]
theorem ENT.go {t c0 : Nat} {L : List Nat} {y : Int32} {u U : RS} (h : ENT t c0 L y u U) : goI U = goI u := by unfold goI; rw [h.1 43 (by decide)]
theorem ENT.g {t c0 : Nat} {L : List Nat} {y : Int32} {u U : RS} (h : ENT t c0 L y u U) {k : Nat} (h1 : k ≠ 22) (h2 : ¬ (25 ≤ k ∧ k ≤ 28)) (h3 : k ≠ 67) (i : Nat) : gv U k i = gv u k i := gv_of (h.2.2.2.1 k h1 h2 h3) i
theorem ENT.isch {t c0 : Nat} {L : List Nat} {y : Int32} {u U : RS} (h : ENT t c0 L y u U) (hc : ¬ u.a 21 c0 = 36) {x : Int} {M : List Nat} (hi : ISCH u x M) : ISCH U x M := hi.of (fun z hz => ⟨by rw [h.2.2.2.1 21 (by decide) (by omega) (by decide)], h.2.2.2.2.2.2.1 z (fun q => hc (by rw [← q]; exact hi.op z hz))⟩)
theorem ENT.ischb {t c0 : Nat} {L : List Nat} {y : Int32} {u U : RS} (h : ENT t c0 L y u U) (hc : ¬ u.a 21 c0 = 36) {x : Int} {M : List Nat} (hi : ISCH U x M) : ISCH u x M := hi.of (fun z hz => ⟨by rw [h.2.2.2.1 21 (by decide) (by omega) (by decide)], (h.2.2.2.2.2.2.1 z (fun q => hc (by rw [← q, ← h.2.2.2.1 21 (by decide) (by omega) (by decide)]; exact hi.op z hz))).symm⟩)
theorem ENT.hd {t c0 : Nat} {L : List Nat} {y : Int32} {u U : RS} (h : ENT t c0 L y u U) (b : Bool) (γ : Nat) : hd U b γ = hd u b γ := by
  cases b
  · exact h.g (k := 49) (by decide) (by omega) (by decide) γ
  · exact h.g (k := 48) (by decide) (by omega) (by decide) γ
theorem ENT.opn {t c0 : Nat} {L : List Nat} {y : Int32} {u U : RS} (h : ENT t c0 L y u U) (hc : ¬ u.a 21 c0 = 36) {k : Nat} (ho : OPN U k) : OPN u k := by
  obtain ⟨γ, b, M, x1, x2, x3⟩ := ho
  rw [h.hd] at x2
  exact ⟨γ, b, M, by rw [← h.go]; exact x1, h.ischb hc x2, x3⟩
theorem KP.ent {t c0 : Nat} {L : List Nat} {y : Int32} {s u U : RS} (hk : KP t s u) (h : ENT t c0 L y u U) (hc : ¬ u.a 21 c0 = 36) (h0 : cdI s ≤ (c0 : Int)) (he0 : 0 ≤ enI s) (hL : ∀ j ∈ L, enI s ≤ (j : Int)) : KP t s U := by
  obtain ⟨⟨a1, a1'⟩, a2, a3, a4, a5, a6, a7, a8, a9, a10, a11⟩ := hk
  have eb : ∀ (k : Nat) (n : Int), k ≠ 22 → ¬ (25 ≤ k ∧ k ≤ 28) → k ≠ 67 → bel k n s U = bel k n s u := fun k n h1 h2 h3 => by unfold bel; rw [h.2.2.2.1 k h1 h2 h3]
  have e3 : trI U = trI u := by unfold trI; rw [h.1 29 (by decide)]
  have e4 : caI U = caI u := by unfold caI; rw [h.1 33 (by decide)]
  have e5 : seI U = seI u := by unfold seI; rw [h.1 38 (by decide)]
  have e6 : slI U = slI u := by unfold slI; rw [h.1 42 (by decide)]
  have e9 : waI U = waI u := by unfold waI; rw [h.1 56 (by decide)]
  have e10 : peI U = peI u := by unfold peI; rw [h.1 59 (by decide)]
  have een : ((enI u).toNat : Int) = enI u := Int.toNat_of_nonneg (by have := a3.1; omega)
  have ek : ∀ k : Nat, 25 ≤ k → k ≤ 28 → bel k (enI s) u U := fun k h1 h2 j hj => h.2.2.2.2.2.2.2.1 k j h1 h2 (by have := a3.1; omega) (Or.inr (fun q => by have := hL j q; omega))
  refine ⟨⟨⟨fun j hj => (h.1 j (by omega)).trans (a1.1 j hj), fun k hk => (h.2.2.2.1 k (by omega) (by omega) (by omega)).trans (a1.2.1 k hk), by rw [h.2.2.1]; exact a1.2.2⟩, fun z => by rw [h.1 18 (by decide)]; exact a1' z⟩, ?_, ?_, ?_, ?_, ?_, ?_, fun γ b M hγ hI hM => ?_, ?_, ?_, fun k k1 k2 j hj => ?_⟩
  · unfold KC
    rw [h.cd, eb 21 _ (by decide) (by omega) (by decide), eb 23 _ (by decide) (by omega) (by decide)]
    exact ⟨a2.1, a2.2.1, fun j hj => (h.2.2.2.2.2.2.1 j (by omega)).trans (a2.2.2.1 j hj), a2.2.2.2⟩
  · exact ⟨by rw [h.2.1]; have := a3.1; omega, a3.2.1.tr (ek 25 (by omega) (by omega)) (Int.le_refl _), a3.2.2.1.tr (ek 26 (by omega) (by omega)) (Int.le_refl _), a3.2.2.2.1.tr (ek 27 (by omega) (by omega)) (Int.le_refl _), a3.2.2.2.2.tr (ek 28 (by omega) (by omega)) (Int.le_refl _)⟩
  · unfold KT; rw [e3, eb 30 _ (by decide) (by omega) (by decide), eb 31 _ (by decide) (by omega) (by decide), eb 32 _ (by decide) (by omega) (by decide)]; exact a4
  · unfold KH; unfold gv; rw [e4, eb 34 _ (by decide) (by omega) (by decide), eb 35 _ (by decide) (by omega) (by decide), eb 36 _ (by decide) (by omega) (by decide), eb 37 _ (by decide) (by omega) (by decide), e6, h.2.2.2.1 36 (by decide) (by omega) (by decide)]; exact a5
  · unfold KS; rw [e5, e6, eb 40 _ (by decide) (by omega) (by decide), eb 41 _ (by decide) (by omega) (by decide)]; exact a6
  · unfold KG; rw [h.go, eb 44 _ (by decide) (by omega) (by decide), eb 47 _ (by decide) (by omega) (by decide), h.2.2.2.1 50 (by decide) (by omega) (by decide), h.2.2.2.1 51 (by decide) (by omega) (by decide), h.2.2.2.1 46 (by decide) (by omega) (by decide)]; exact a7
  · obtain ⟨L1, c1, c2⟩ := a8 γ b M hγ hI hM
    exact ⟨L1, by rw [h.hd]; exact h.isch hc c1, by rw [h.cd]; exact c2⟩
  · unfold KW; rw [e9, eb 57 _ (by decide) (by omega) (by decide), eb 58 _ (by decide) (by omega) (by decide)]; exact a9
  · unfold KQ; rw [e10, eb 60 _ (by decide) (by omega) (by decide), eb 61 _ (by decide) (by omega) (by decide), eb 62 _ (by decide) (by omega) (by decide)]; exact a10
  · by_cases c : k = 67
    · subst c
      rw [h.2.2.2.2.1 j (by omega)]
      exact a11 67 k1 k2 j hj
    · rw [h.2.2.2.1 k (by omega) (by omega) c]
      exact a11 k k1 k2 j hj
theorem TAB.ent {t c0 : Nat} {L : List Nat} {y : Int32} {u U : RS} (ht : TAB u) (h : ENT t c0 L y u U) (hc : ¬ u.a 21 c0 = 36) (he0 : 0 ≤ enI u) (hL : ∀ j ∈ L, (j : Int) < enI u) : TAB U := by
  obtain ⟨⟨a0, b1, b2, b3, b4⟩, a1, a2, a3, a4, a5, a6, a7, a8, a9⟩ := ht
  have eg : ∀ (k i : Nat), k ≠ 22 → ¬ (25 ≤ k ∧ k ≤ 28) → k ≠ 67 → gv U k i = gv u k i := fun k i h1 h2 h3 => h.g h1 h2 h3 i
  have e3 : trI U = trI u := by unfold trI; rw [h.1 29 (by decide)]
  have e4 : caI U = caI u := by unfold caI; rw [h.1 33 (by decide)]
  have e5 : seI U = seI u := by unfold seI; rw [h.1 38 (by decide)]
  have e6 : slI U = slI u := by unfold slI; rw [h.1 42 (by decide)]
  have e7 := h.go
  have e8 : deI U = deI u := by unfold deI; rw [h.1 52 (by decide)]
  have e9 : waI U = waI u := by unfold waI; rw [h.1 56 (by decide)]
  have e10 : peI U = peI u := by unfold peI; rw [h.1 59 (by decide)]
  have een : ((enI u).toNat : Int) = enI u := Int.toNat_of_nonneg he0
  refine ⟨⟨fun γ b hγ => ?_, DJ.of a0 b1 (by omega) (fun γ b M _ h1 _ => by rw [h.hd]; exact h.isch hc h1), fun p hp => ?_, fun w w' q1 q2 => ?_, fun p w q1 q2 q3 => ?_⟩, fun j hj => ?_, fun j hj => ?_, fun j hj => ?_, fun x hx => ?_, fun j hj => ?_, fun g hg => ?_, fun k hk => ?_, fun k hk => ?_, ?_⟩
  · obtain ⟨M, l1, l2⟩ := a0 γ b (by omega)
    exact ⟨M, by rw [h.hd]; exact h.isch hc l1, fun x hx => by have := l2 x hx; rw [h.cd]; exact this⟩
  · rw [e10] at hp; rw [e3, eg 62 p (by decide) (by omega) (by decide)]; exact b2 p hp
  · rw [e9] at q2; rw [eg 57 _ (by decide) (by omega) (by decide), eg 57 _ (by decide) (by omega) (by decide)]; exact b3 w w' q1 q2
  · rw [e10] at q1; rw [e9] at q2; rw [eg 62 _ (by decide) (by omega) (by decide), eg 57 _ (by decide) (by omega) (by decide)] at q3; rw [eg 60 _ (by decide) (by omega) (by decide), eg 58 _ (by decide) (by omega) (by decide)]; exact b4 p w q1 q2 q3
  · rw [h.2.1] at hj ⊢
    by_cases c : j = (enI u).toNat
    · left; subst c; rw [h.2.2.2.2.2.2.2.2.2.1]; decide
    by_cases cl : j ∈ L
    · rcases h.2.2.2.2.2.2.2.2.2.2.2.nxt (List.mem_append_left _ cl) with r | ⟨i, i1, i2, i3⟩
      · exact Or.inl r
      · right
        refine ⟨by omega, ?_⟩
        rcases List.mem_append.mp i1 with q | q
        · have := hL i q; omega
        · rcases List.mem_cons.mp q with q | q
          · omega
          · exact absurd q List.not_mem_nil
    · have e27 : gv U 27 j = gv u 27 j := by unfold gv; rw [h.2.2.2.2.2.2.2.1 27 j (by omega) (by omega) c (Or.inr cl)]
      rw [e27]
      have := a1 j (by omega)
      omega
  · rw [e4] at hj ⊢; rw [eg 37 _ (by decide) (by omega) (by decide)]; exact a2 j hj
  · rw [e3] at hj; rw [e4, eg 30 _ (by decide) (by omega) (by decide)]; exact a3 j hj
  · rw [e5] at hx
    rw [e6, e4, eg 40 _ (by decide) (by omega) (by decide), h.2.2.2.1 41 (by decide) (by omega) (by decide)]
    have := a4 x hx
    refine ⟨this.1, this.2.1, ?_⟩
    rw [← this.2.2]
    constructor
    · rintro ⟨j, j1, j2⟩; exact ⟨j, j1, by rw [← j2, eg 36 _ (by decide) (by omega) (by decide)]⟩
    · rintro ⟨j, j1, j2⟩; exact ⟨j, j1, by rw [← j2, eg 36 _ (by decide) (by omega) (by decide)]⟩
  · rw [e4] at hj; rw [e6, eg 36 _ (by decide) (by omega) (by decide)]; exact a5 j hj
  · rw [e7] at hg; rw [e8, eg 47 _ (by decide) (by omega) (by decide)]; exact a6 g hg
  · rw [e10] at hk; rw [eg 60 _ (by decide) (by omega) (by decide), h.2.2.2.1 61 (by decide) (by omega) (by decide)]; exact a7 k hk
  · rw [e9] at hk; rw [e3, e7, eg 57 _ (by decide) (by omega) (by decide), eg 58 _ (by decide) (by omega) (by decide)]; exact a8 k hk
  · rw [h.1 75 (by decide)]; exact a9
theorem op_of {u w : RS} (h : w.i 19 = u.i 19) : op w = op u := by unfold op; rw [h]
theorem INV.ent {t c0 : Nat} {L : List Nat} {y : Int32} {u U : RS} (hI : INV u) (h : ENT t c0 L y u U) (hc : ¬ u.a 21 c0 = 36) (hL : ∀ j ∈ L, (j : Int) < enI u) (h2 : 2 * (enI u + 1) ≤ fr u) : INV U := by
  obtain ⟨x1, x2, x3, x4, x5⟩ := hI
  have e1 := op_of (h.1 19 (by decide))
  have e3 : trI U = trI u := by unfold trI; rw [h.1 29 (by decide)]
  have e4 : caI U = caI u := by unfold caI; rw [h.1 33 (by decide)]
  have e5 : seI U = seI u := by unfold seI; rw [h.1 38 (by decide)]
  have e6 : slI U = slI u := by unfold slI; rw [h.1 42 (by decide)]
  have e8 : deI U = deI u := by unfold deI; rw [h.1 52 (by decide)]
  have e9 : waI U = waI u := by unfold waI; rw [h.1 56 (by decide)]
  have e10 : peI U = peI u := by unfold peI; rw [h.1 59 (by decide)]
  have e11 : fr U = fr u := by unfold fr; rw [h.1 11 (by decide)]
  have e12 : tkI U = tkI u := by unfold tkI; rw [h.1 17 (by decide)]
  have en0 := x5.2.2.1.1
  refine ⟨x1.of (h.1 2 (by decide)) (h.1 10 (by decide)) (h.1 11 (by decide)) (h.1 12 (by decide)) (h.1 14 (by decide)) (by rw [h.2.2.1]), RB.of (h.1 _ (by decide)) (h.1 _ (by decide)) (h.2.2.2.1 _ (by decide) (by omega) (by decide)) (h.2.2.2.1 _ (by decide) (by omega) (by decide)) (h.2.2.2.1 _ (by decide) (by omega) (by decide)) x2, (h.1 15 (by decide)).trans x3, x4.ent h hc en0 hL, ?_⟩
  unfold NUM at x5 ⊢
  rw [h.cd, h.2.1, e3, e4, e5, e6, h.go, e8, e9, e10, e11, e12, e1]
  omega
theorem STG.ent {t c0 : Nat} {L : List Nat} {y : Int32} {u U : RS} (h : ENT t c0 L y u U) (hc : ¬ u.a 21 c0 = 36) : STG u U := by
  have e9 : waI U = waI u := by unfold waI; rw [h.1 56 (by decide)]
  have e10 : peI U = peI u := by unfold peI; rw [h.1 59 (by decide)]
  have ea : ∀ (k j : Nat), k ≠ 22 → ¬ (25 ≤ k ∧ k ≤ 28) → k ≠ 67 → U.a k j = u.a k j := fun k j h1 h2 h3 => by rw [h.2.2.2.1 k h1 h2 h3]
  refine ⟨by rw [h.cd]; exact Int.le_refl _, by rw [h.go]; exact Int.le_refl _, fun γ _ => ⟨ea 44 γ (by decide) (by omega) (by decide), ea 47 γ (by decide) (by omega) (by decide), fun q => by rw [ea 50 γ (by decide) (by omega) (by decide)]; exact q, fun q => by rw [ea 51 γ (by decide) (by omega) (by decide)]; exact q⟩, fun γ b M hγ hI hM => ⟨[], by rw [h.hd]; exact h.isch hc hI, fun x hx => absurd hx List.not_mem_nil⟩, ⟨by rw [e10]; exact Int.le_refl _, fun j _ => ea 60 j (by decide) (by omega) (by decide), fun j _ => ea 61 j (by decide) (by omega) (by decide), fun j _ => ea 62 j (by decide) (by omega) (by decide)⟩, e9, fun j _ => ea 57 j (by decide) (by omega) (by decide)⟩
theorem PRL.ent {t c0 : Nat} {L : List Nat} {y : Int32} {u U : RS} (hp : PRL u) (h : ENT t c0 L y u U) : PRL U := by
  have b44 : bel 44 (goI u) u U := fun j _ => by rw [h.2.2.2.1 44 (by decide) (by omega) (by decide)]
  have b46 : bel 46 (goI u) u U := fun j _ => by rw [h.2.2.2.1 46 (by decide) (by omega) (by decide)]
  refine ⟨fun γ a1 a2 a3 => ?_, fun γ a1 => hp.2 γ (a1.of h.go b44 b46)⟩
  have q1 := (ACC.of h.go b44 γ).mp a1
  have e : gv U 46 γ = gv u 46 γ := h.g (by decide) (by omega) (by decide) γ
  rw [e] at a3
  obtain ⟨c1, c2, c3⟩ := hp.1 γ q1 (by rw [← b44 γ q1.1]; exact a2) a3
  rw [e, h.go]
  exact ⟨c1, c2, by rw [b44 _ (by omega)]; exact c3⟩
