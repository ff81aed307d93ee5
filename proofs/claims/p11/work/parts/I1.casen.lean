/-! reading: a case's number -/
theorem p_cn75 {N : Nat} {u : RS} {x1 x3 : Int32} : ∀ (n : Nat) (L : List Nat) (σ : RS) (x4 : Int32), LX u σ → (σ = u ∨ ¬ σ.i 15 = 0) → ENCH u x4.toInt L → (∀ j ∈ L, j < 500) → L.length < n → ∃ σ', f_X12_caseNumber_75 N n σ x1 x3 x4 = (if (σ'.i 15) = 0 then (f_X12_entry N σ' x1 x3 0).bind fun p13 => (f_X12_next N p13).bind fun p15 => f_X12_caseNumber_140 N p15 else f_X12_caseNumber_140 N σ') ∧ LX u σ' ∧ (σ' = u ∨ ¬ σ'.i 15 = 0)
  | 0, L, _, _, _, _, _, _, h => by omega
  | n + 1, [], σ, x4, hl, hs, hch, _, _ => by
    show ∃ σ', b_X12_caseNumber_75 N (f_X12_caseNumber_75 N n) σ x1 x3 x4 = _ ∧ _
    unfold b_X12_caseNumber_75
    have hch : x4.toInt < 0 := hch
    rw [if_pos (Int32.lt_iff_toInt_lt.mpr (by rw [z_t0]; exact hch))]
    exact ⟨σ, rfl, hl, hs⟩
  | n + 1, j :: L, σ, x4, hl, hs, hch, h5, hn => by
    show ∃ σ', b_X12_caseNumber_75 N (f_X12_caseNumber_75 N n) σ x1 x3 x4 = _ ∧ _
    unfold b_X12_caseNumber_75
    obtain ⟨q1, q2, q3⟩ := hch
    have j5 := h5 j (List.mem_cons_self ..)
    rw [if_neg (fun z => by have := Int32.lt_iff_toInt_lt.mp z; rw [z_t0] at this; omega), if_pos (show ib x4 500 from ⟨by omega, by omega⟩), k_nat q1]
    have hn' : L.length < n := Nat.lt_of_succ_lt_succ hn
    have go : ∀ τ : RS, LX u τ → (τ = u ∨ ¬ τ.i 15 = 0) → ∃ σ', f_X12_caseNumber_75 N n τ x1 x3 (τ.a 27 j) = (if (σ'.i 15) = 0 then (f_X12_entry N σ' x1 x3 0).bind fun p13 => (f_X12_next N p13).bind fun p15 => f_X12_caseNumber_140 N p15 else f_X12_caseNumber_140 N σ') ∧ LX u σ' ∧ (σ' = u ∨ ¬ σ'.i 15 = 0) := fun τ a b => p_cn75 n L τ (τ.a 27 j) a b (by rw [a.1]; exact q3) (fun i hi => h5 i (List.mem_cons_of_mem _ hi)) hn'
    by_cases c1 : σ.a 28 j = 0
    · rw [if_pos c1]
      by_cases c2 : σ.a 25 j = x3
      · rw [if_pos c2]
        obtain ⟨S, eS, r1, r2, r3⟩ := p_fl (N := N) hl.2.2.2.1 4 (σ.i 11) (by decide)
        rw [eS]
        exact go S (hl.tr r1) (Or.inr r2)
      · rw [if_neg c2]; exact go σ hl hs
    · rw [if_neg c1]; exact go σ hl hs
theorem CASEN {N : Nat} (hN : 1000 ≤ N) {w : RS} {t c0 : Nat} {L : List Nat} {x1 : Int32} (hI : INV w) (ibx : ib x1 1000) (nx : x1.toNatClampNeg = t) (h66 : (w.a 66 t).toInt = (c0 : Int)) (hc : c0 < 3000) (hq : FQ w t L) (hch : ENCH w (gv w 22 c0) L) (hL : ∀ j ∈ L, (j : Int) < enI w) (h36 : ¬ w.a 21 c0 = 36) (h2 : 2 * (enI w + 1) ≤ fr w) : ∃ p, f_X12_caseNumber N w x1 = some p ∧ (p.1 = 0 ∧ ¬ p.2.i 15 = 0 ∧ LX w p.2 ∨ p.1 = 1 ∧ ∃ u U, LX w u ∧ INV u ∧ u.i 19 = w.i 19 ∧ fr w ≤ fr u ∧ tkI w ≤ tkI u ∧ tkI u - tkI w ≤ fr u - fr w ∧ ENT t c0 L 0 u U ∧ LX U p.2 ∧ INV U ∧ INV p.2 ∧ p.2.i 19 = U.i 19 ∧ fr U + 1 ≤ fr p.2 ∧ tkI p.2 = tkI U + 1) := by
  have st : ∃ (u : RS) (x2 : Int32), f_X12_caseNumber N w x1 = f_X12_caseNumber_23 N u x1 x2 ∧ LX w u ∧ INV u ∧ u.i 19 = w.i 19 ∧ fr w ≤ fr u ∧ tkI w ≤ tkI u ∧ tkI u - tkI w ≤ fr u - fr w := by
    unfold f_X12_caseNumber f_X12_caseNumber_15
    by_cases c : w.i 10 = 45
    · rw [if_pos c, if_neg (by decide)]
      obtain ⟨u, eu, y1, y2, y3, y4, y5, y6, y7⟩ := NX hN hI (by rw [c]; decide)
      rw [eu]
      exact ⟨u, 1, rfl, y1, y4, y3, by omega, by omega, by omega⟩
    · rw [if_neg c, if_pos rfl]
      exact ⟨w, 0, rfl, LX.rf hI.1, hI, rfl, Int.le_refl _, Int.le_refl _, by omega⟩
  obtain ⟨u, x2, e, l1, iu, u19, f1, t1, t2⟩ := st
  rw [e]
  clear e
  unfold f_X12_caseNumber_23 f_X12_caseNumber_43
  have fu := iu.1.f0
  have nn := hI.2.2.2.2.2.2.1
  by_cases c : u.i 10 = 1
  case neg =>
    rw [if_neg c]
    obtain ⟨G, eG, g1, g2, hG⟩ := p_cn (N := N) iu.1 0
    rw [eG]
    rcases hG with ⟨g3, g4⟩ | ⟨g3, g4, g5, g6⟩
    · show ∃ p, (if G.1 = 0 then some ((0 : Int32), G.2) else f_X12_caseNumber_45 N G.2 x1 x2) = some p ∧ _
      rw [if_pos g3]
      exact ⟨_, rfl, Or.inl ⟨rfl, g4, l1.tr g1⟩⟩
    · exact absurd rfl g6
  rw [if_pos c]
  obtain ⟨G, eG, g1, g2, hG⟩ := p_cn (N := N) iu.1 1
  rw [eG]
  show ∃ p, (if G.1 = 0 then some ((0 : Int32), G.2) else f_X12_caseNumber_45 N G.2 x1 x2) = some p ∧ _
  rcases hG with ⟨g3, g4⟩ | ⟨g3, g4, g5, g6⟩
  · rw [if_pos g3]
    exact ⟨_, rfl, Or.inl ⟨rfl, g4, l1.tr g1⟩⟩
  rw [if_neg (by rw [g3]; decide), g4]
  clear eG g1 g2 g3 g4
  have e45 : ∃ x3, f_X12_caseNumber_45 N u x1 x2 = f_X12_caseNumber_62 N u x1 x3 := by
    unfold f_X12_caseNumber_45
    by_cases c2 : x2 = 0
    · rw [if_pos c2]; exact ⟨_, rfl⟩
    · rw [if_neg c2]; exact ⟨_, rfl⟩
  obtain ⟨x3, e3⟩ := e45
  rw [e3]
  unfold f_X12_caseNumber_62
  have ua : u.a = w.a := l1.1
  have uen : enI u = enI w := l1.tbl.en
  have h66u : (u.a 66 t).toInt = (c0 : Int) := by rw [ua]; exact h66
  have hchu : ENCH u (gv u 22 c0) L := by
    have : gv u 22 c0 = gv w 22 c0 := by unfold gv; rw [ua]
    rw [this]
    exact hch.of (fun j _ => by unfold gv; rw [ua])
  have hLu : ∀ j ∈ L, (j : Int) < enI u := fun j hj => by rw [uen]; exact hL j hj
  have fw := hI.1.f0
  rw [if_pos ibx, nx, if_pos (show ib (u.a 66 t) 3000 from ⟨by omega, by omega⟩), k_nat h66u]
  have len : L.length ≤ 500 := nd_len 500 L hch.nd (fun j hj => by have := hL j hj; omega)
  obtain ⟨σ', es, k1, k2⟩ := p_cn75 (N := N) (u := u) (x1 := x1) (x3 := x3) N L u (u.a 22 c0) (LX.rf iu.1) (Or.inl rfl) hchu (fun j hj => by have := hL j hj; omega) (by omega)
  rw [es]
  clear es
  by_cases c15 : σ'.i 15 = 0
  case neg =>
    rw [if_neg c15]
    unfold f_X12_caseNumber_140
    rw [if_neg c15]
    exact ⟨_, rfl, Or.inl ⟨rfl, c15, l1.tr k1⟩⟩
  rw [if_pos c15]
  rcases k2 with k2 | k2
  case inr => exact absurd c15 k2
  subst k2
  have hqu : FQ σ' t L := by unfold FQ at hq ⊢; rw [ua]; exact hq
  obtain ⟨U, eU, hU⟩ := p_en (N := N) (u := σ') (L := L) x3 0 ibx nx (by omega) (by omega) h66u hc hqu hchu hLu
  rw [eU]
  have h36u : ¬ σ'.a 21 c0 = 36 := by rw [ua]; exact h36
  have hUI : INV U := iu.ent hU h36u hLu (by omega)
  obtain ⟨R, eR, z1, z2, z3, z4, z5, z6, z7⟩ := NX hN hUI (by rw [hU.1 10 (by decide), c]; decide)
  show ∃ p, ((f_X12_next N U).bind fun p15 => f_X12_caseNumber_140 N p15) = some p ∧ _
  rw [eR]
  refine ⟨(1, R), ?_, Or.inr ⟨rfl, σ', U, l1, iu, u19, f1, t1, t2, hU, z1, hUI, z4, z3, z5, z6⟩⟩
  show f_X12_caseNumber_140 N R = _
  unfold f_X12_caseNumber_140
  rw [if_pos z2]
