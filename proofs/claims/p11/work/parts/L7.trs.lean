/-! reading: try: its resources -/
/-- the head so far: n resources, y says whether there is a with -/
def HL (t id : Nat) (s : RS) (n : Nat) (y : Int32) (σ : RS) : Prop := HST t id s σ ∧ LXI σ ∧ (σ.i 19 = s.i 19 ∧ σ.i 52 = s.i 52 + 1 ∧ σ.i 56 = s.i 56) ∧ cdI σ = cdI s + 2 + n ∧ (σ.a 21 (cdI s).toNat = 1 ∧ σ.a 21 (cdI s + 1).toNat = 31 ∧ (σ.a 22 (cdI s + 1).toNat).toInt = (id : Int)) ∧ gv σ 31 id = -1 ∧ (σ.a 57 = s.a 57 ∧ σ.a 58 = s.a 58) ∧ OPS n σ (cdI s + 2) ∧ (σ.a 64 t = 15 ∧ (σ.a 66 t).toInt = (id : Int) ∧ σ.a 67 t = y)
/-- its numbers while there is no fault -/
def HG (s : RS) (n : Nat) (σ : RS) : Prop := fr s + 2 + 2 * n ≤ fr σ ∧ (0 < n → fr s + 3 + 2 * n ≤ fr σ) ∧ tkI s + 1 ≤ tkI σ ∧ tkI σ - tkI s ≤ fr σ - fr s
theorem HST.lx {t id : Nat} {s σ τ : RS} (h : HST t id s σ) (x : LX σ τ) : HST t id s τ := by
  obtain ⟨a1, a2, a3, a4, a5, a6, a7, a8, a9, a10, a11⟩ := h
  have c : cdI τ = cdI σ := x.tbl.cd
  have tt : trI τ = trI σ := x.tbl.tt
  have d : deI τ = deI σ := x.de
  refine ⟨fun j q0 q1 q2 q3 q4 q5 q6 => (x.2.2.1 j q0 q1).trans (a1 j q0 q1 q2 q3 q4 q5 q6), by omega, by omega, by omega, ?_, ?_, ?_, ?_, ?_, ?_, by rw [x.2.1]; exact a11⟩
  · rw [x.1]; exact a5
  · rw [x.1]; exact a6
  · rw [x.1]; exact a7
  · unfold gv at *; rw [x.1]; exact a8
  · rw [x.1]; exact a9
  · rw [x.1]; exact a10
theorem OPS.eqa {σ τ : RS} : ∀ {n : Nat} {x : Int}, OPS n σ x → τ.a = σ.a → OPS n τ x
  | 0, _, _, _ => True.intro
  | n + 1, x, ⟨p1, p2, p3⟩, h => ⟨by unfold gv at *; rw [h]; exact p1, by unfold gv at *; rw [h]; exact p2, OPS.eqa p3 h⟩
theorem HL.lx {t id n : Nat} {s σ τ : RS} {y : Int32} (h : HL t id s n y σ) (x : LX σ τ) (h19 : τ.i 19 = σ.i 19) : HL t id s n y τ := by
  obtain ⟨a1, a2, ⟨a3, a4, a5⟩, a6, a7, a8, a9, a10, a11⟩ := h
  refine ⟨a1.lx x, x.2.2.2.1, ⟨h19.trans a3, (x.2.2.1 52 (by omega) (by omega)).trans a4, (x.2.2.1 56 (by omega) (by omega)).trans a5⟩, by rw [x.tbl.cd]; exact a6, by rw [x.1]; exact a7, by unfold gv at *; rw [x.1]; exact a8, by rw [x.1]; exact a9, a10.eqa x.1, by rw [x.1]; exact a11⟩
theorem OPS.snoc {σ : RS} : ∀ {n : Nat} {x : Int}, OPS n σ x → gv σ 21 (x + n).toNat = 32 → (0 ≤ gv σ 22 (x + n).toNat ∧ gv σ 22 (x + n).toNat < 8) → OPS (n + 1) σ x
  | 0, x, _, h1, h2 => by
    have e : x + ((0 : Nat) : Int) = x := by omega
    rw [e] at h1 h2
    exact ⟨h1, h2, True.intro⟩
  | n + 1, x, ⟨p1, p2, p3⟩, h1, h2 => by
    have e : x + ((n + 1 : Nat) : Int) = x + 1 + (n : Int) := by omega
    rw [e] at h1 h2
    exact ⟨p1, p2, OPS.snoc p3 h1 h2⟩
theorem HL.em {t id n : Nat} {s σ : RS} {y x : Int32} (h : HL t id s n y σ) (c0 : 0 ≤ cdI s) (c3 : cdI σ < 3000) (hx : 0 ≤ x.toInt ∧ x.toInt < 8) : HL t id s (n + 1) y (EM σ 32 x) := by
  obtain ⟨a1, a2, ⟨a3, a4, a5⟩, a6, a7, a8, a9, a10, a11⟩ := h
  obtain ⟨b1, b2, b3, b4, b5, b6, b7, b8, b9, b10, b11⟩ := a1
  have ec := EM.cd (u := σ) (o := 32) (x := x) (by omega) c3
  obtain ⟨E, hE⟩ : ∃ E, E = EM σ 32 x := ⟨_, rfl⟩
  have iE : ∀ j : Nat, j ≠ 20 → E.i j = σ.i j := fun j hj => by rw [hE]; exact EM.i hj
  have aE : ∀ k : Nat, k ≠ 21 → k ≠ 22 → k ≠ 23 → E.a k = σ.a k := fun k q1 q2 q3 => by rw [hE]; exact EM.a q1 q2 q3
  have loE : ∀ k j : Nat, j ≠ (cdI σ).toNat → E.a k j = σ.a k j := fun k j hj => by
    rw [hE]
    by_cases c1 : k = 21
    · rw [c1, EM.a21, if_neg hj]
    by_cases c2 : k = 22
    · rw [c2, EM.a22, if_neg hj]
    by_cases c3 : k = 23
    · rw [c3, EM.a23, if_neg hj]
    · rw [EM.a c1 c2 c3]
  have E21 : E.a 21 (cdI σ).toNat = 32 := by rw [hE, EM.a21, if_pos rfl]
  have E22 : E.a 22 (cdI σ).toNat = x := by rw [hE, EM.a22, if_pos rfl]
  have lE : LXI E := by rw [hE]; exact a2.em
  have bE : E.b = σ.b := by rw [hE]; rfl
  rw [← hE] at ec ⊢
  clear hE
  have tE : trI E = trI σ := by unfold trI; rw [iE 29 (by decide)]
  have dE : deI E = deI σ := by unfold deI; rw [iE 52 (by decide)]
  have e32 : (32 : Int32).toInt = 32 := by decide
  have opsE : OPS n E (cdI s + 2) := a10.of (by omega) (fun k k1 k2 _ => ⟨loE 21 k (by omega), loE 22 k (by omega)⟩)
  refine ⟨⟨fun j q0 q1 q2 q3 q4 q5 q6 => (iE j q2).trans (b1 j q0 q1 q2 q3 q4 q5 q6), by omega, by omega, by omega, fun k q1 q2 q3 q4 q5 q6 => (aE k (by omega) (by omega) (by omega)).trans (b5 k q1 q2 q3 q4 q5 q6), fun k j q1 q2 q3 => (loE k j (by omega)).trans (b6 k j q1 q2 q3), ?_, ?_, ?_, fun k j q1 q2 q3 => by rw [aE k (by omega) (by omega) (by omega)]; exact b10 k j q1 q2 q3, by rw [bE]; exact b11⟩, lE, ⟨(iE 19 (by decide)).trans a3, (iE 52 (by decide)).trans a4, (iE 56 (by decide)).trans a5⟩, by omega, ⟨by rw [loE 21 _ (by omega)]; exact a7.1, by rw [loE 21 _ (by omega)]; exact a7.2.1, by rw [loE 22 _ (by omega)]; exact a7.2.2⟩, ?_, ⟨by rw [aE 57 (by decide) (by decide) (by decide)]; exact a9.1, by rw [aE 58 (by decide) (by decide) (by decide)]; exact a9.2⟩, ?_, ?_⟩
  · rw [aE 30 (by decide) (by decide) (by decide), aE 31 (by decide) (by decide) (by decide)]; exact b7
  · rw [gv_of (aE 30 (by decide) (by decide) (by decide))]; exact b8
  · rw [aE 57 (by decide) (by decide) (by decide), aE 58 (by decide) (by decide) (by decide)]; exact b9
  · rw [gv_of (aE 31 (by decide) (by decide) (by decide))]; exact a8
  · refine opsE.snoc ?_ ?_
    · rw [← a6]; unfold gv; rw [E21]; exact e32
    · rw [← a6]; unfold gv; rw [E22]; exact hx
  · rw [aE 64 (by decide) (by decide) (by decide), aE 66 (by decide) (by decide) (by decide), aE 67 (by decide) (by decide) (by decide)]; exact a11
theorem bnd_some {α β : Type} (x : α) (f : α → Option β) : (some x).bind f = f x := rfl
theorem p_t140 {N : Nat} (hN : 1000 ≤ N) {t id : Nat} {s : RS} {y x1 : Int32} (hI : INV s) : ∀ (d : Nat) (σ : RS) (x2 : Int32) (n : Nat), HL t id s n y σ → (x2 = 0 ∨ x2 = 1) → (σ.i 15 = 0 → HG s n σ ∧ (x2 = 1 → (σ.i 10 = 424 ∨ σ.i 10 = 44) ∧ (n = 0 → σ.i 10 = 424)) ∧ (x2 = 0 → y = 1 → 1 ≤ n)) → 902 - fr σ ≤ d → ∃ (σ' : RS) (n' : Nat), f_X12_trying_140 N d σ x1 x2 = f_X12_trying_215 N σ' x1 ∧ HL t id s n' y σ' ∧ (σ'.i 15 = 0 → HG s n' σ' ∧ (y = 1 → 1 ≤ n'))
  | 0, σ, x2, n, h, _, _, hd => by
    have := h.2.1.f0
    omega
  | d + 1, σ, x2, n, h, hx, hg, hd => by
    have ih := p_t140 hN (y := y) (x1 := x1) (t := t) (id := id) hI d
    have fσ := h.2.1.f0
    have hs := hI.2.2.2.2
    have push : ((d + 1 : Nat) : Int) = (d : Int) + 1 := by omega
    rw [push] at hd
    have e0 : f_X12_trying_140 N (d + 1) σ x1 x2 = b_X12_trying_140 N (f_X12_trying_140 N d) σ x1 x2 := rfl
    rw [e0]
    clear e0
    unfold b_X12_trying_140
    by_cases c2 : x2 = 0
    · rw [if_pos c2]
      exact ⟨σ, n, rfl, h, fun q => ⟨(hg q).1, (hg q).2.2 c2⟩⟩
    rw [if_neg c2]
    have x21 : x2 = 1 := hx.resolve_left c2
    by_cases c15 : σ.i 15 = 0
    case neg =>
      rw [if_neg c15]
      exact ⟨σ, n, rfl, h, fun q => absurd q c15⟩
    rw [if_pos c15]
    obtain ⟨⟨g1, g2, g3, g4⟩, g5, -⟩ := hg c15
    obtain ⟨g5, g6⟩ := g5 x21
    have hz : ¬ σ.i 10 = 0 := by
      rcases g5 with q | q <;> rw [q] <;> decide
    obtain ⟨R, eR, x1', x2', x3', x4'⟩ := p_nx hN h.2.1
    obtain ⟨R15, rc⟩ := x4' c15
    obtain ⟨k1, k2, k3⟩ := rc hz
    rw [eR, bnd_some]
    have hR := h.lx x1' x2'
    have fR := hR.2.1.f0
    have tks : 0 ≤ tkI s ∧ tkI s ≤ fr s + 1 := hs.2.2.2.2.2.2.2.2.2.2.2
    have fs := hI.1.f0
    have tR : tkI R = tkI σ + 1 := tk_add k1 ⟨by omega, by omega⟩
    by_cases c4 : R.i 10 = 4
    · rw [if_pos c4, can1 R15 (by rw [c4]; decide), bnd_some]
      have cd3 : cdI R < 3000 := by have := hR.2.2.2.1; have := hs.2.1; omega
      have cd0 : 0 ≤ cdI R := by have := hR.2.2.2.1; have := hI.cd; omega
      rw [if_neg (show ¬ (1 : Int32) = 0 by decide), p_em 32 (R.i 14) cd0 cd3, bnd_some]
      have h14 := hR.2.1.2.2.2.2.2.1 (Or.inr c4)
      have e7 : (7 : Int32).toInt = 7 := by decide
      have l1 := le_int h14.1
      have l2 := le_int h14.2
      rw [z_t0] at l1
      rw [e7] at l2
      have hE := hR.em (x := R.i 14) hI.cd.1 cd3 ⟨l1, by omega⟩
      obtain ⟨T, eT, z1, z2, z3, z4⟩ := p_nx hN hE.2.1
      obtain ⟨T15, tc⟩ := z4 R15
      have E10 : (EM R 32 (R.i 14)).i 10 = 4 := c4
      obtain ⟨j1, j2, j3⟩ := tc (by rw [E10]; decide)
      rw [eT, bnd_some]
      have hT := hE.lx z1 z2
      have j2 : fr R + 1 ≤ fr T := j2
      have tT : tkI T = tkI R + 1 := tk_add (u := R) j1 ⟨by omega, by omega⟩
      have f5 : fr s + 3 + 2 * ((n + 1 : Nat) : Int) ≤ fr T := by
        by_cases q0 : n = 0
        · have := k3 (Or.inl (by rw [g6 q0]; decide))
          omega
        · have := g2 (by omega)
          omega
      have hgT : HG s (n + 1) T := ⟨by omega, fun _ => f5, by omega, by omega⟩
      rw [if_pos T15]
      by_cases c44 : T.i 10 = 44
      · rw [if_pos c44]
        exact ih T 1 (n + 1) hT (Or.inr rfl) (fun _ => ⟨hgT, fun _ => ⟨Or.inr c44, fun q => by omega⟩, fun q => absurd q (by decide)⟩) (by omega)
      · rw [if_neg c44]
        exact ih T 0 (n + 1) hT (Or.inl rfl) (fun _ => ⟨hgT, fun q => absurd q (by decide), fun _ _ => by omega⟩) (by omega)
    · rw [if_neg c4]
      obtain ⟨G, eG, y1, y2, y3⟩ := p_cn (N := N) hR.2.1 0
      rw [eG, bnd_some]
      rcases y3 with ⟨y3, y4⟩ | ⟨_, _, _, y6⟩
      · rw [if_pos y3, if_neg y4]
        have := y1.2.2.2.2.2
        exact ih G.2 0 n (hR.lx y1 y2) (Or.inl rfl) (fun q => absurd q y4) (by omega)
      · exact absurd rfl y6
