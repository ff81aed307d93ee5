/-! reading: try: a catch's head -/
theorem p_c82 {N : Nat} (hN : 1000 ≤ N) {K18 : RS → Int32 → Int32 → Int32 → Option (RS)} {x1 x2 : Int32} : ∀ (n : Nat) (L : List Nat) (σ : RS) (x4 : Int32), LXI σ → RB σ → CACH σ x4.toInt L → (∀ j ∈ L, j < 400) → L.length < n → (σ.i 15 = 0 → σ.i 14 < σ.i 3) → ∃ σ', f_X12_catching_82 N K18 n σ x1 x2 x4 = ROWK N K18 σ' x1 x2 ∧ LX σ σ' ∧ (σ' = σ ∨ ¬ σ'.i 15 = 0)
  | 0, L, _, _, _, _, _, _, h, _ => by omega
  | n + 1, [], σ, x4, hl, hb, hch, _, _, _ => by
    show ∃ σ', b_X12_catching_82 N K18 (f_X12_catching_82 N K18 n) σ x1 x2 x4 = _ ∧ _
    rw [e_c82]
    have hch : x4.toInt < 0 := hch
    rw [if_pos (Int32.lt_iff_toInt_lt.mpr (by rw [z_t0]; exact hch))]
    exact ⟨σ, rfl, LX.rf hl, Or.inl rfl⟩
  | n + 1, j :: L, σ, x4, hl, hb, hch, h4, hn, h14 => by
    show ∃ σ', b_X12_catching_82 N K18 (f_X12_catching_82 N K18 n) σ x1 x2 x4 = _ ∧ _
    rw [e_c82]
    obtain ⟨q1, q2, q3⟩ := hch
    have j4 := h4 j (List.mem_cons_self ..)
    rw [if_neg (fun z => by have := Int32.lt_iff_toInt_lt.mp z; rw [z_t0] at this; omega)]
    by_cases c15 : σ.i 15 = 0
    case neg =>
      rw [if_neg c15]
      exact ⟨σ, rfl, LX.rf hl, Or.inl rfl⟩
    rw [if_pos c15, if_pos (show ib x4 400 from ⟨by omega, by omega⟩), k_nat q1]
    have hn' : L.length < n := Nat.lt_of_succ_lt_succ hn
    obtain ⟨⟨p1, p2⟩, ep, e2⟩ := p_isUnder (N := N) (by omega) σ (σ.i 14) (σ.a 34 j) hb (h14 c15)
    have e2 : p2 = σ := e2
    subst e2
    rw [ep]
    show ∃ σ', (if p1 = 0 then f_X12_catching_82 N K18 n p2 x1 x2 (p2.a 37 j) else (f_X12_fail N p2 6 (p2.i 11)).bind fun p76 => f_X12_catching_82 N K18 n p76 x1 x2 (p76.a 37 j)) = _ ∧ _
    by_cases c0 : p1 = 0
    · rw [if_pos c0]
      exact p_c82 hN n L p2 (p2.a 37 j) hl hb q3 (fun i hi => h4 i (List.mem_cons_of_mem _ hi)) hn' h14
    · rw [if_neg c0]
      obtain ⟨S, eS, r1, r2, r3⟩ := p_fl (N := N) hl 6 (p2.i 11) (by decide)
      rw [eS]
      obtain ⟨σ', es, k1, k2⟩ := p_c82 hN (K18 := K18) (x1 := x1) (x2 := x2) n L S (S.a 37 j) r1.2.2.2.1 (RB.of (r1.2.2.1 2 (by omega) (by omega)) (r1.2.2.1 3 (by omega) (by omega)) (by rw [r1.1]) (by rw [r1.1]) (by rw [r1.1]) hb) (by
        have e : gv S 37 j = gv p2 37 j := r1.tbl.g (by decide) j
        show CACH S (gv S 37 j) L
        rw [e]
        exact q3.of (fun i _ => r1.tbl.g (by decide) i)) (fun i hi => h4 i (List.mem_cons_of_mem _ hi)) hn' (fun q => absurd q r2)
      refine ⟨σ', es, r1.tr k1, Or.inr (fun q => ?_)⟩
      exact r2 (k1.2.2.2.2.1 q)
theorem p_c18f {N : Nat} {x1 x2 x3 : Int32} {σ : RS} {n : Nat} (hn : 1 ≤ n) (h : ¬ σ.i 15 = 0) : f_X12_catching_18 N n σ x1 x2 x3 = f_X12_catching_256 N σ x2 := by
  obtain ⟨m, rfl⟩ : ∃ m, n = m + 1 := ⟨n - 1, by omega⟩
  show b_X12_catching_18 N (f_X12_catching_18 N m) σ x1 x2 x3 = _
  unfold b_X12_catching_18
  by_cases c : x3 = 0
  · rw [if_pos c]
  · rw [if_neg c, if_neg h]
theorem p_c18 {N : Nat} (hN : 1000 ≤ N) {x1 x2 : Int32} {t id : Nat} {CL : List Nat} {u : RS} (hb : RB u) (ibx : ib x1 1000) (nx : x1.toNatClampNeg = t) (hid : (u.a 66 t).toInt = (id : Int)) (i2 : id < 200) (h0 : 0 ≤ caI u) (h3u : 3 * caI u ≤ fr u) (hCL : ∀ j ∈ CL, (j : Int) < caI u) : ∀ (n : Nat) (σ : RS) (x3 : Int32) (NL : List Nat), CTL t id CL NL u σ → (x3 = 0 ∨ x3 = 1) → (σ.i 15 = 0 → CTG u σ ∧ (x3 = 1 → 3 * (caI σ - caI u) ≤ fr σ - fr u)) → (x3 = 0 → NL ≠ []) → 902 - fr σ ≤ n → ∃ (σ' : RS) (NL' : List Nat), f_X12_catching_18 N n σ x1 x2 x3 = f_X12_catching_256 N σ' x2 ∧ CTL t id CL NL' u σ' ∧ (¬ σ'.i 15 = 0 ∨ CTG u σ' ∧ NL' ≠ [])
  | 0, σ, x3, NL, h, _, _, _, hn => by
    have := h.1.1.f0
    omega
  | n + 1, σ, x3, NL, h, hx, hg, hne, hn => by
    have hf := h.1.1.f0
    have push : ((n + 1 : Nat) : Int) = (n : Int) + 1 := by omega
    rw [push] at hn
    have n1 : 1 ≤ n := by omega
    by_cases c15 : σ.i 15 = 0
    case neg => exact ⟨σ, NL, p_c18f (by omega) c15, h, Or.inl c15⟩
    obtain ⟨g, g3⟩ := hg c15
    show ∃ (σ' : RS) (NL' : List Nat), b_X12_catching_18 N (f_X12_catching_18 N n) σ x1 x2 x3 = _ ∧ _
    unfold b_X12_catching_18
    by_cases c3 : x3 = 0
    · rw [if_pos c3]
      exact ⟨σ, NL, rfl, h, Or.inr ⟨g, hne c3⟩⟩
    have x31 : x3 = 1 := hx.resolve_left c3
    rw [if_neg c3, if_pos c15]
    have g5 := g.2.2.2.2.1
    have hbs : RB σ := RB.of (h.2.1 2 (by omega) (by omega) (by omega)) (h.2.1 3 (by omega) (by omega) (by omega)) (h.2.2.1 4 (by decide) (by decide) (by decide) (by decide)) (h.2.2.1 6 (by decide) (by decide) (by decide) (by decide)) (h.2.2.1 7 (by decide) (by decide) (by decide) (by decide)) hb
    have fu := h.1.2.1
    have s66 : ∀ τ : RS, LX σ τ → (τ.a 66 t).toInt = (id : Int) := fun τ x => by rw [x.1, h.2.2.1 66 (by decide) (by decide) (by decide) (by decide)]; exact hid
    have walk : ∀ τ : RS, LX σ τ → (τ.i 15 = 0 → τ = σ ∧ σ.i 10 = 5 ∧ σ.i 14 < σ.i 3) → ∃ (σ' : RS) (NL' : List Nat), (if ib x1 1000 then if ib (τ.a 66 ((x1 : Int32).toNatClampNeg)) 200 then f_X12_catching_82 N (f_X12_catching_18 N n) N τ x1 x2 (τ.a 30 (((τ.a 66 ((x1 : Int32).toNatClampNeg)) : Int32).toNatClampNeg)) else none else none : Option RS) = f_X12_catching_256 N σ' x2 ∧ CTL t id CL NL' u σ' ∧ (¬ σ'.i 15 = 0 ∨ CTG u σ' ∧ NL' ≠ []) := fun τ x hτ => by
      have cτ := h.lx x
      have caτ : caI τ = caI σ := x.tbl.ca
      have h66 := s66 τ x
      rw [if_pos ibx, nx, if_pos (show ib (τ.a 66 t) 200 from ⟨by omega, by omega⟩), k_nat h66]
      have mem : ∀ j ∈ CL ++ NL, j < 400 := fun j hj => by
        rcases List.mem_append.mp hj with q | q
        · have := hCL j q; omega
        · have := ((h.2.2.2.2.2.2.2.1.2 j).mp q).2; omega
      have hch := cτ.2.2.2.2.2.2.2.2.1
      have len : (CL ++ NL).length ≤ 400 := nd_len 400 _ hch.nd mem
      obtain ⟨σ', es, k1, k2⟩ := p_c82 hN (K18 := f_X12_catching_18 N n) (x1 := x1) (x2 := x2) N (CL ++ NL) τ (τ.a 30 id) cτ.1.1 (RB.of (x.2.2.1 2 (by omega) (by omega)) (x.2.2.1 3 (by omega) (by omega)) (by rw [x.1]) (by rw [x.1]) (by rw [x.1]) hbs) hch mem (by omega) (fun q => by
        obtain ⟨e, -, e2⟩ := hτ q
        rw [e]; exact e2)
      rw [es]
      have cσ' := cτ.lx k1
      have caσ : caI σ' = caI τ := k1.tbl.ca
      obtain ⟨p, x3', NL', r1, r2, r2', r3, r4, r5⟩ := p_rowk hN (K18 := f_X12_catching_18 N n) (x1 := x1) (x2 := x2) cσ' ibx nx hid i2 h0 (by omega) hCL
      rw [r1]
      by_cases cf : σ'.i 15 = 0
      · have t0 : τ.i 15 = 0 := k1.2.2.2.2.1 cf
        obtain ⟨e, e5, -⟩ := hτ t0
        have e' : σ' = τ := k2.resolve_right (fun q => q cf)
        rw [e', e] at r4 r5
        obtain ⟨w1, w2, w3⟩ := r5 g (g3 x31) e5
        exact p_c18 hN hb ibx nx hid i2 h0 h3u hCL n p x3' NL' r2 r3 (fun _ => ⟨w1, w3⟩) (fun _ => r2') (by omega)
      · have pf := r4 cf
        exact ⟨p, NL', p_c18f n1 pf, r2, Or.inl pf⟩
    by_cases c5 : σ.i 10 = 5
    · rw [if_pos c5, can1 c15 (by rw [c5]; decide)]
      show ∃ (σ' : RS) (NL' : List Nat), (if (1 : Int32) = 0 then f_X12_catching_18 N n σ x1 x2 x3 else (if (σ.i 14) < (σ.i 3) then if ib x1 1000 then if ib (σ.a 66 ((x1 : Int32).toNatClampNeg)) 200 then f_X12_catching_82 N (f_X12_catching_18 N n) N σ x1 x2 (σ.a 30 (((σ.a 66 ((x1 : Int32).toNatClampNeg)) : Int32).toNatClampNeg)) else none else none else (f_X12_fail N σ 3 (σ.i 11)).bind fun p88 => if ib x1 1000 then if ib (p88.a 66 ((x1 : Int32).toNatClampNeg)) 200 then f_X12_catching_82 N (f_X12_catching_18 N n) N p88 x1 x2 (p88.a 30 (((p88.a 66 ((x1 : Int32).toNatClampNeg)) : Int32).toNatClampNeg)) else none else none)) = _ ∧ _
      rw [if_neg (by decide)]
      by_cases c14 : σ.i 14 < σ.i 3
      · rw [if_pos c14]
        exact walk σ (LX.rf h.1.1) (fun _ => ⟨rfl, c5, c14⟩)
      · rw [if_neg c14]
        obtain ⟨S, eS, r1, r2, r3⟩ := p_fl (N := N) h.1.1 3 (σ.i 11) (by decide)
        rw [eS]
        exact walk S r1 (fun q => absurd q r2)
    · rw [if_neg c5]
      obtain ⟨R, eR, r1, r2⟩ := can0 (N := N) h.1.1 c15
      rw [eR]
      show ∃ (σ' : RS) (NL' : List Nat), (if (0 : Int32) = 0 then f_X12_catching_18 N n R x1 x2 x3 else (if (R.i 14) < (R.i 3) then if ib x1 1000 then if ib (R.a 66 ((x1 : Int32).toNatClampNeg)) 200 then f_X12_catching_82 N (f_X12_catching_18 N n) N R x1 x2 (R.a 30 (((R.a 66 ((x1 : Int32).toNatClampNeg)) : Int32).toNatClampNeg)) else none else none else (f_X12_fail N R 3 (R.i 11)).bind fun p78 => if ib x1 1000 then if ib (p78.a 66 ((x1 : Int32).toNatClampNeg)) 200 then f_X12_catching_82 N (f_X12_catching_18 N n) N p78 x1 x2 (p78.a 30 (((p78.a 66 ((x1 : Int32).toNatClampNeg)) : Int32).toNatClampNeg)) else none else none)) = _ ∧ _
      rw [if_pos rfl]
      exact ⟨R, NL, p_c18f n1 r2, h.lx r1, Or.inl r2⟩
/-- where the catch begins, which slot its name has -/
theorem p_323 {N : Nat} {x4 : Int32} {t : Nat} (h9 : t < 998) : ∀ (n : Nat) (σ : RS) (x5 : Int32), 0 ≤ x5.toInt → caI σ ≤ 400 → x5.toInt ≤ caI σ → caI σ - x5.toInt < n → tpI σ = t → ∃ U, f_X12_catching_323 N n σ x4 x5 = some (TH U t 3 3) ∧ U.i = σ.i ∧ U.b = σ.b ∧ (∀ k : Nat, k ≠ 35 → k ≠ 36 → U.a k = σ.a k) ∧ (∀ j : Nat, (j : Int) < x5.toInt ∨ caI σ ≤ (j : Int) → U.a 35 j = σ.a 35 j ∧ U.a 36 j = σ.a 36 j) ∧ (∀ j : Nat, x5.toInt ≤ j → (j : Int) < caI σ → U.a 35 j = σ.i 20 ∧ U.a 36 j = x4)
  | 0, σ, x5, h0, h4, hle, hn, ht => by omega
  | n + 1, σ, x5, h0, h4, hle, hn, ht => by
    show ∃ U, b_X12_catching_323 N (f_X12_catching_323 N n) σ x4 x5 = _ ∧ _
    unfold b_X12_catching_323
    by_cases c : σ.i 33 ≤ x5
    · rw [if_pos c, p_th 3 3 ht (by omega)]
      have c := Int32.le_iff_toInt_le.mp c
      have c : caI σ ≤ x5.toInt := c
      exact ⟨σ, rfl, rfl, rfl, fun _ _ _ => rfl, fun _ _ => ⟨rfl, rfl⟩, fun j j1 j2 => by omega⟩
    rw [if_neg c]
    have c : ¬ caI σ ≤ x5.toInt := fun q => c (Int32.le_iff_toInt_le.mpr q)
    obtain ⟨k, hk⟩ : ∃ k : Nat, x5.toInt = (k : Int) := ⟨x5.toInt.toNat, (Int.toNat_of_nonneg h0).symm⟩
    have e1 : (1 : Int32).toInt = 1 := by decide
    have ex : (x5 + 1).toInt = x5.toInt + 1 := by rw [toInt_add] <;> rw [e1] <;> omega
    rw [if_pos (show ib x5 400 from ⟨h0, by omega⟩), k_nat hk]
    obtain ⟨Z, hZ⟩ : ∃ Z, Z = RS.setA (RS.setA σ 35 k (σ.i 20)) 36 k x4 := ⟨_, rfl⟩
    have iZ : Z.i = σ.i := by rw [hZ]; rfl
    have bZ : Z.b = σ.b := by rw [hZ]; rfl
    have aZ : ∀ j : Nat, j ≠ 35 → j ≠ 36 → Z.a j = σ.a j := fun j p q => by rw [hZ, setA_nk q, setA_nk p]
    have z35 : ∀ j : Nat, j ≠ k → Z.a 35 j = σ.a 35 j ∧ Z.a 36 j = σ.a 36 j := fun j hj => ⟨by rw [hZ, setA_nk (by decide), setA_ne hj], by rw [hZ, setA_ne hj, setA_nk (by decide)]⟩
    have z35k : Z.a 35 k = σ.i 20 ∧ Z.a 36 k = x4 := ⟨by rw [hZ, setA_nk (by decide)]; exact setA_at, by rw [hZ]; exact setA_at⟩
    rw [← hZ]
    clear hZ
    have ec : caI Z = caI σ := by unfold caI; rw [iZ]
    obtain ⟨U, eU, u1, u2, u3, u4, u5⟩ := p_323 (N := N) (x4 := x4) h9 n Z (x5 + 1) (by omega) (by omega) (by omega) (by omega) (by unfold tpI at *; rw [iZ]; exact ht)
    refine ⟨U, eU, u1.trans iZ, u2.trans bZ, fun j p q => (u3 j p q).trans (aZ j p q), fun j hj => ?_, fun j j1 j2 => ?_⟩
    · obtain ⟨w1, w2⟩ := u4 j (by omega)
      obtain ⟨w3, w4⟩ := z35 j (by omega)
      exact ⟨w1.trans w3, w2.trans w4⟩
    · by_cases q : j = k
      · subst q
        obtain ⟨w1, w2⟩ := u4 j (by omega)
        exact ⟨w1.trans z35k.1, w2.trans z35k.2⟩
      · obtain ⟨w1, w2⟩ := u5 j (by omega) (by omega)
        exact ⟨w1.trans (by rw [iZ]), w2⟩
