/-! reading: break and continue -/
theorem bk_cases (b : Bool) : bk b = 48 ∨ bk b = 49 := by cases b; exact Or.inr rfl; exact Or.inl rfl
theorem fg_cases (b : Bool) : fgB b = 50 ∨ fgB b = 51 := by cases b; exact Or.inr rfl; exact Or.inl rfl
theorem bk_inj {b b' : Bool} (h : bk b = bk b') : b = b' := by cases b <;> cases b' <;> first | rfl | exact absurd h (by decide)
def JV (σ : RS) (x1 x3 x4 : Int32) : Prop := 0 ≤ x4.toInt ∧ x4.toInt < goI σ ∧ NOARM σ x4.toNatClampNeg ∧ ¬ σ.a 44 x4.toNatClampNeg = 3 ∧ (x3 = 0 → σ.a 44 x4.toNatClampNeg = 0 ∨ (¬ x1 = 0 ∧ σ.a 44 x4.toNatClampNeg = 1)) ∧ (¬ x3 = 0 → σ.a 44 x4.toNatClampNeg = 2)
theorem p_j60 {N : Nat} {σ : RS} (x1 x2 x3 : Int32) (h4 : goI σ ≤ 460) : ∀ (n : Nat) (y g : Int32), -1 ≤ g.toInt → g.toInt < goI σ → g.toInt + 2 ≤ n → (JV σ x1 x3 y ∨ ¬ 0 ≤ y ∧ ∀ δ : Nat, g.toInt < δ → (δ : Int) < goI σ → ¬ σ.a 44 δ = 3) → ∃ x4, f_X12_jump_60 N n σ x1 x2 x3 y g = f_X12_jump_171 N σ x1 x2 x3 x4 ∧ (JV σ x1 x3 x4 ∨ ¬ 0 ≤ x4)
  | 0, y, g, h1, _, h3, _ => by omega
  | n + 1, y, g, h1, h2, h3, hy => by
    show ∃ x4, b_X12_jump_60 N (f_X12_jump_60 N n) σ x1 x2 x3 y g = _ ∧ _
    unfold b_X12_jump_60
    have stop : ∃ x4, f_X12_jump_171 N σ x1 x2 x3 y = f_X12_jump_171 N σ x1 x2 x3 x4 ∧ (JV σ x1 x3 x4 ∨ ¬ 0 ≤ x4) := ⟨y, rfl, by rcases hy with h | h; exact Or.inl h; exact Or.inr h.1⟩
    by_cases c : g < 0
    · rw [if_pos c]; exact stop
    rw [if_neg c]
    have h0 : 0 ≤ g.toInt := by
      have : ¬ g.toInt < (0 : Int32).toInt := fun z => c (Int32.lt_iff_toInt_lt.mpr z)
      rw [z_t0] at this
      omega
    have ci := clampI h0
    rw [if_pos (show ib g 460 from ⟨h0, by omega⟩)]
    by_cases c3 : σ.a 44 g.toNatClampNeg = 3
    · rw [if_pos c3]; exact stop
    rw [if_neg c3]
    by_cases cy : 0 ≤ y
    · rw [if_pos cy]; exact stop
    rw [if_neg cy]
    have hn : ∀ δ : Nat, g.toInt < δ → (δ : Int) < goI σ → ¬ σ.a 44 δ = 3 := by
      rcases hy with h | h
      · exact absurd (Int32.le_iff_toInt_le.mpr (by rw [z_t0]; exact h.1)) cy
      · exact h.2
    have e1 : (-1 : Int32).toInt = -1 := by decide
    have ek : (g + -1).toInt = g.toInt - 1 := by rw [toInt_add] <;> rw [e1] <;> omega
    have next : ∃ x4, f_X12_jump_60 N n σ x1 x2 x3 y (g + -1) = f_X12_jump_171 N σ x1 x2 x3 x4 ∧ (JV σ x1 x3 x4 ∨ ¬ 0 ≤ x4) := p_j60 x1 x2 x3 h4 n y (g + -1) (by omega) (by omega) (by omega) (Or.inr ⟨cy, fun δ d1 d2 => by
      by_cases e : δ = g.toNatClampNeg
      · subst e; exact c3
      · exact hn δ (by omega) d2⟩)
    have take : (x3 = 0 → σ.a 44 g.toNatClampNeg = 0 ∨ (¬ x1 = 0 ∧ σ.a 44 g.toNatClampNeg = 1)) → (¬ x3 = 0 → σ.a 44 g.toNatClampNeg = 2) → ∃ x4, f_X12_jump_60 N n σ x1 x2 x3 g (g + -1) = f_X12_jump_171 N σ x1 x2 x3 x4 ∧ (JV σ x1 x3 x4 ∨ ¬ 0 ≤ x4) := fun t1 t2 => p_j60 x1 x2 x3 h4 n g (g + -1) (by omega) (by omega) (by omega) (Or.inl ⟨h0, h2, fun δ d1 d2 => hn δ (by omega) d2, c3, t1, t2⟩)
    by_cases cx : x3 = 0
    · rw [if_pos cx]
      by_cases c0 : σ.a 44 g.toNatClampNeg = 0
      · rw [if_pos c0]; exact take (fun _ => Or.inl c0) (fun q => absurd cx q)
      rw [if_neg c0]
      by_cases cb : x1 = 0
      · rw [if_pos cb]; exact next
      rw [if_neg cb]
      by_cases c1 : σ.a 44 g.toNatClampNeg = 1
      · rw [if_pos c1]; exact take (fun _ => Or.inr ⟨cb, c1⟩) (fun q => absurd cx q)
      · rw [if_neg c1]; exact next
    · rw [if_neg cx]
      by_cases c2 : σ.a 44 g.toNatClampNeg = 2
      · rw [if_pos c2]
        by_cases cl : lg_cmp (σ.b 45 g.toNatClampNeg) σ.l = 0
        · rw [if_pos cl]; exact take (fun q => absurd q cx) (fun _ => c2)
        · rw [if_neg cl]; exact next
      · rw [if_neg c2]; exact next
/-- a jump is laid -/
def JQ (R q : RS) (γ : Nat) (b : Bool) : Prop := (∀ j : Nat, j ≠ 20 → q.i j = R.i j) ∧ cdI q = cdI R + 1 ∧ (∀ k : Nat, k ≠ 21 → k ≠ 22 → k ≠ 23 → k ≠ bk b → q.a k = R.a k) ∧ (∀ j : Nat, j ≠ (cdI R).toNat → q.a 21 j = R.a 21 j ∧ q.a 22 j = R.a 22 j ∧ q.a 23 j = R.a 23 j) ∧ q.a 21 (cdI R).toNat = 36 ∧ gv q 22 (cdI R).toNat = hd R b γ ∧ q.a 23 (cdI R).toNat = R.a 47 γ ∧ (∀ δ : Nat, δ ≠ γ → q.a (bk b) δ = R.a (bk b) δ) ∧ hd q b γ = cdI R ∧ q.b = R.b
theorem JQ.mk {R : RS} {γ : Nat} {b : Bool} (c0 : 0 ≤ cdI R) (c3 : cdI R < 3000) : JQ R (((EM R 36 (R.a (bk b) γ)).setA 23 (cdI R).toNat (R.a 47 γ)).setA (bk b) γ (R.i 20)) γ b := by
  have b1 : bk b ≠ 21 := by rcases bk_cases b with h | h <;> rw [h] <;> decide
  have b2 : bk b ≠ 22 := by rcases bk_cases b with h | h <;> rw [h] <;> decide
  have b3 : bk b ≠ 23 := by rcases bk_cases b with h | h <;> rw [h] <;> decide
  refine ⟨fun j hj => EM.i hj, EM.cd (o := 36) (x := R.a (bk b) γ) c0 c3, fun k h1 h2 h3 h4 => (setA_nk h4).trans ((setA_nk h3).trans (EM.a h1 h2 h3)), fun j hj => ⟨?_, ?_, ?_⟩, ?_, ?_, ?_, fun δ hδ => ?_, ?_, rfl⟩
  · rw [setA_nk b1.symm, setA_nk (by decide), EM.a21, if_neg hj]
  · rw [setA_nk b2.symm, setA_nk (by decide), EM.a22, if_neg hj]
  · rw [setA_nk b3.symm, setA_ne hj, EM.a23, if_neg hj]
  · rw [setA_nk b1.symm, setA_nk (by decide), EM.a21, if_pos rfl]
  · unfold gv
    rw [setA_nk b2.symm, setA_nk (by decide), EM.a22, if_pos rfl]
    rfl
  · rw [setA_nk b3.symm, setA_at]
  · rw [setA_ne hδ, setA_nk b3, EM.a b1 b2 b3]
  · unfold hd gv
    rw [setA_at]
    rfl
theorem JQ.oth {R q : RS} {γ : Nat} {b : Bool} (h : JQ R q γ b) {γ' : Nat} {b' : Bool} (hne : ¬ (γ' = γ ∧ b' = b)) : hd q b' γ' = hd R b' γ' := by
  obtain ⟨h1, h2, h3, h4, h5, h6, h7, h8, h9, h10⟩ := h
  unfold hd gv
  by_cases c : b' = b
  · subst c
    rw [h8 γ' (fun e => hne ⟨e, rfl⟩)]
  · have b1 : bk b' ≠ 21 := by rcases bk_cases b' with h | h <;> rw [h] <;> decide
    have b2 : bk b' ≠ 22 := by rcases bk_cases b' with h | h <;> rw [h] <;> decide
    have b3 : bk b' ≠ 23 := by rcases bk_cases b' with h | h <;> rw [h] <;> decide
    rw [h3 (bk b') b1 b2 b3 (fun e => c (bk_inj e))]
theorem JQ.is {R q : RS} {γ : Nat} {b : Bool} (h : JQ R q γ b) (c0 : 0 ≤ cdI R) {y : Int} {L : List Nat} (hI : ISCH R y L) (hL : ∀ x ∈ L, (x : Int) < cdI R) : ISCH q y L := hI.of (fun x hx => by
  have := hL x hx
  have := h.2.2.2.1 x (by omega)
  exact ⟨this.1, this.2.1⟩)
theorem JQ.me {R q : RS} {γ : Nat} {b : Bool} (h : JQ R q γ b) (c0 : 0 ≤ cdI R) {L : List Nat} (hI : ISCH R (hd R b γ) L) (hL : ∀ x ∈ L, (x : Int) < cdI R) : ISCH q (hd q b γ) ((cdI R).toNat :: L) := by
  have := h.is c0 hI hL
  rw [h.2.2.2.2.2.2.2.2.1]
  exact ⟨(Int.toNat_of_nonneg c0).symm, h.2.2.2.2.1, by rw [h.2.2.2.2.2.1]; exact this⟩
theorem JQ.kp {t : Nat} {s R q : RS} {γ : Nat} {b : Bool} (h : JQ R q γ b) (hk : KP t s R) (h0 : 0 ≤ cdI s) (hn : TN R) : KP t s q := by
  obtain ⟨⟨a1, a1'⟩, a2, a3, a4, a5, a6, a7, a8, a9, a10, a11⟩ := hk
  obtain ⟨h1, h2, h3, h4, h5, h6, h7, h8, h9, h10⟩ := id h
  have c0 : 0 ≤ cdI R := by have := a2.1; omega
  have ek : ((cdI R).toNat : Int) = cdI R := Int.toNat_of_nonneg c0
  have ea : ∀ k : Nat, k ≠ 21 → k ≠ 22 → k ≠ 23 → k ≠ 48 → k ≠ 49 → q.a k = R.a k := fun k e1 e2 e3 e4 e5 => h3 k e1 e2 e3 (by rcases bk_cases b with e | e <;> rw [e] <;> assumption)
  have cs := a2.1
  have eb : ∀ (k : Nat) (m : Int), k ≠ 21 → k ≠ 22 → k ≠ 23 → k ≠ 48 → k ≠ 49 → bel k m s q = bel k m s R := fun k m e1 e2 e3 e4 e5 => by unfold bel; rw [ea k e1 e2 e3 e4 e5]
  have en : enI q = enI R := by unfold enI; rw [h1 24 (by decide)]
  have et : trI q = trI R := by unfold trI; rw [h1 29 (by decide)]
  have ec : caI q = caI R := by unfold caI; rw [h1 33 (by decide)]
  have es : seI q = seI R := by unfold seI; rw [h1 38 (by decide)]
  have el : slI q = slI R := by unfold slI; rw [h1 42 (by decide)]
  have eg : goI q = goI R := by unfold goI; rw [h1 43 (by decide)]
  have ew : waI q = waI R := by unfold waI; rw [h1 56 (by decide)]
  have ep : peI q = peI R := by unfold peI; rw [h1 59 (by decide)]
  refine ⟨⟨⟨fun j hj => (h1 j (by omega)).trans (a1.1 j hj), fun k hk => (ea k (by omega) (by omega) (by omega) (by omega) (by omega)).trans (a1.2.1 k hk), by rw [h10]; exact a1.2.2⟩, fun z => by rw [h1 18 (by decide)]; exact a1' z⟩, ⟨by omega, fun j hj => (h4 j (by omega)).1.trans (a2.2.1 j hj), fun j hj => (h4 j (by omega)).2.1.trans (a2.2.2.1 j hj), fun j hj => (h4 j (by omega)).2.2.trans (a2.2.2.2 j hj)⟩, ?_, ?_, ?_, ?_, ?_, fun γ' b' L hγ hI hL => ?_, ?_, ?_, fun k k1 k2 => ?_⟩
  · unfold KE; rw [en, eb _ _ (by decide) (by decide) (by decide) (by decide) (by decide), eb _ _ (by decide) (by decide) (by decide) (by decide) (by decide), eb _ _ (by decide) (by decide) (by decide) (by decide) (by decide), eb _ _ (by decide) (by decide) (by decide) (by decide) (by decide)]; exact a3
  · unfold KT; rw [et, eb _ _ (by decide) (by decide) (by decide) (by decide) (by decide), eb _ _ (by decide) (by decide) (by decide) (by decide) (by decide), eb _ _ (by decide) (by decide) (by decide) (by decide) (by decide)]; exact a4
  · unfold KH; unfold gv; rw [ec, eb _ _ (by decide) (by decide) (by decide) (by decide) (by decide), eb _ _ (by decide) (by decide) (by decide) (by decide) (by decide), eb _ _ (by decide) (by decide) (by decide) (by decide) (by decide), eb _ _ (by decide) (by decide) (by decide) (by decide) (by decide), el, ea 36 (by decide) (by decide) (by decide) (by decide) (by decide)]; exact a5
  · unfold KS; rw [es, el, eb _ _ (by decide) (by decide) (by decide) (by decide) (by decide), eb _ _ (by decide) (by decide) (by decide) (by decide) (by decide)]; exact a6
  · unfold KG; rw [eg, eb _ _ (by decide) (by decide) (by decide) (by decide) (by decide), eb _ _ (by decide) (by decide) (by decide) (by decide) (by decide), ea 50 (by decide) (by decide) (by decide) (by decide) (by decide), ea 51 (by decide) (by decide) (by decide) (by decide) (by decide), ea 46 (by decide) (by decide) (by decide) (by decide) (by decide)]; exact a7
  · obtain ⟨L1, c1, c2⟩ := a8 γ' b' L hγ hI hL
    have hlt : ∀ x ∈ L1 ++ L, (x : Int) < cdI R := fun x hx => by
      rcases List.mem_append.mp hx with hx | hx
      · exact (c2 x hx).2
      · have := hL x hx; omega
    by_cases c : γ' = γ ∧ b' = b
    · obtain ⟨rfl, rfl⟩ := c
      refine ⟨(cdI R).toNat :: L1, h.me c0 c1 hlt, fun x hx => ?_⟩
      rcases List.mem_cons.mp hx with hx | hx
      · rw [hx]; omega
      · have := c2 x hx; omega
    · refine ⟨L1, by rw [h.oth c]; exact h.is c0 c1 hlt, fun x hx => by have := c2 x hx; omega⟩
  · unfold KW; rw [ew, eb _ _ (by decide) (by decide) (by decide) (by decide) (by decide), eb _ _ (by decide) (by decide) (by decide) (by decide) (by decide)]; exact a9
  · unfold KQ; rw [ep, eb _ _ (by decide) (by decide) (by decide) (by decide) (by decide), eb _ _ (by decide) (by decide) (by decide) (by decide) (by decide), eb _ _ (by decide) (by decide) (by decide) (by decide) (by decide)]; exact a10
  · rw [eb k _ (by omega) (by omega) (by omega) (by omega) (by omega)]; exact a11 k k1 k2
theorem JQ.tab {R q : RS} {γ : Nat} {b : Bool} (h : JQ R q γ b) (ht : TAB R) (c0 : 0 ≤ cdI R) (hγ : (γ : Int) < goI R) : TAB q := by
  obtain ⟨h1, h2, h3, h4, h5, h6, h7, h8, h9, h10⟩ := id h
  obtain ⟨⟨a0, b1, b2, b3, b4⟩, a1, a2, a3, a4, a5, a6, a7, a8, a9⟩ := ht
  have ea : ∀ k : Nat, k ≠ 21 → k ≠ 22 → k ≠ 23 → k ≠ 48 → k ≠ 49 → q.a k = R.a k := fun k e1 e2 e3 e4 e5 => h3 k e1 e2 e3 (by rcases bk_cases b with e | e <;> rw [e] <;> assumption)
  have eg' : ∀ (k i : Nat), k ≠ 21 → k ≠ 22 → k ≠ 23 → k ≠ 48 → k ≠ 49 → gv q k i = gv R k i := fun k i e1 e2 e3 e4 e5 => by unfold gv; rw [ea k e1 e2 e3 e4 e5]
  have ek : ((cdI R).toNat : Int) = cdI R := Int.toNat_of_nonneg c0
  have en : enI q = enI R := by unfold enI; rw [h1 24 (by decide)]
  have et : trI q = trI R := by unfold trI; rw [h1 29 (by decide)]
  have ec : caI q = caI R := by unfold caI; rw [h1 33 (by decide)]
  have es : seI q = seI R := by unfold seI; rw [h1 38 (by decide)]
  have el : slI q = slI R := by unfold slI; rw [h1 42 (by decide)]
  have eg : goI q = goI R := by unfold goI; rw [h1 43 (by decide)]
  have ed : deI q = deI R := by unfold deI; rw [h1 52 (by decide)]
  have ew : waI q = waI R := by unfold waI; rw [h1 56 (by decide)]
  have ep : peI q = peI R := by unfold peI; rw [h1 59 (by decide)]
  have ch : ∀ (γ' : Nat) (b' : Bool), (γ' : Int) < goI R → ∃ L, ISCH q (hd q b' γ') L ∧ (∀ x ∈ L, (x : Int) < cdI q) ∧ ∃ M, ISCH R (hd R b' γ') M ∧ (∀ x ∈ M, (x : Int) < cdI R) ∧ ((γ' = γ ∧ b' = b) ∧ L = (cdI R).toNat :: M ∨ ¬ (γ' = γ ∧ b' = b) ∧ L = M) := fun γ' b' hg => by
    obtain ⟨M, m1, m2⟩ := a0 γ' b' hg
    by_cases c : γ' = γ ∧ b' = b
    · refine ⟨(cdI R).toNat :: M, ?_, fun x hx => ?_, M, m1, m2, Or.inl ⟨c, rfl⟩⟩
      · obtain ⟨rfl, rfl⟩ := c
        exact h.me c0 m1 m2
      · rcases List.mem_cons.mp hx with hx | hx
        · rw [hx]; omega
        · have := m2 x hx; omega
    · exact ⟨M, by rw [h.oth c]; exact h.is c0 m1 m2, fun x hx => by have := m2 x hx; omega, M, m1, m2, Or.inr ⟨c, rfl⟩⟩
  refine ⟨⟨fun γ' b' hg => ?_, fun γ1 γ2 d1 d2 L1 L2 x g1 g2 i1 i2 x1 x2 => ?_, fun p hp => ?_, fun w w' q1 q2 => ?_, fun p w q1 q2 q3 => ?_⟩, fun j hj => ?_, fun j hj => ?_, fun j hj => ?_, fun x hx => ?_, fun j hj => ?_, fun g hg => ?_, fun k hk => ?_, fun k hk => ?_, ?_⟩
  · rw [eg] at hg
    obtain ⟨L, l1, l2, -⟩ := ch γ' b' hg
    exact ⟨L, l1, l2⟩
  · rw [eg] at g1 g2
    obtain ⟨M1, m1, m2, N1, n1, n2, n3⟩ := ch γ1 d1 g1
    obtain ⟨M2, m3, m4, N2, n4, n5, n6⟩ := ch γ2 d2 g2
    have e1 := ISCH.uniq i1 m1
    have e2 := ISCH.uniq i2 m3
    subst e1
    subst e2
    rcases n3 with ⟨p1, p2⟩ | ⟨p1, p2⟩
    · rcases n6 with ⟨p3, p4⟩ | ⟨p3, p4⟩
      · exact ⟨p1.1.trans p3.1.symm, p1.2.trans p3.2.symm⟩
      · subst p4
        rw [p2] at x1
        rcases List.mem_cons.mp x1 with e | e
        · have := n5 x x2; rw [e] at this; omega
        · exact b1 γ1 γ2 d1 d2 N1 _ x g1 g2 n1 n4 e x2
    · subst p2
      rcases n6 with ⟨p3, p4⟩ | ⟨p3, p4⟩
      · rw [p4] at x2
        rcases List.mem_cons.mp x2 with e | e
        · have := n2 x x1; rw [e] at this; omega
        · exact b1 γ1 γ2 d1 d2 _ N2 x g1 g2 n1 n4 x1 e
      · subst p4
        exact b1 γ1 γ2 d1 d2 _ _ x g1 g2 n1 n4 x1 x2
  · rw [ep] at hp; rw [et, eg' 62 p (by decide) (by decide) (by decide) (by decide) (by decide)]; exact b2 p hp
  · rw [ew] at q2; rw [eg' 57 _ (by decide) (by decide) (by decide) (by decide) (by decide), eg' 57 _ (by decide) (by decide) (by decide) (by decide) (by decide)]; exact b3 w w' q1 q2
  · rw [ep] at q1; rw [ew] at q2; rw [eg' 62 _ (by decide) (by decide) (by decide) (by decide) (by decide), eg' 57 _ (by decide) (by decide) (by decide) (by decide) (by decide)] at q3; rw [eg' 60 _ (by decide) (by decide) (by decide) (by decide) (by decide), eg' 58 _ (by decide) (by decide) (by decide) (by decide) (by decide)]; exact b4 p w q1 q2 q3
  · rw [en] at hj ⊢; rw [eg' 27 _ (by decide) (by decide) (by decide) (by decide) (by decide)]; exact a1 j hj
  · rw [ec] at hj ⊢; rw [eg' 37 _ (by decide) (by decide) (by decide) (by decide) (by decide)]; exact a2 j hj
  · rw [et] at hj; rw [ec, eg' 30 _ (by decide) (by decide) (by decide) (by decide) (by decide)]; exact a3 j hj
  · rw [es] at hx
    rw [el, ec, eg' 40 _ (by decide) (by decide) (by decide) (by decide) (by decide), ea 41 (by decide) (by decide) (by decide) (by decide) (by decide)]
    have := a4 x hx
    refine ⟨this.1, this.2.1, ?_⟩
    rw [← this.2.2]
    constructor
    · rintro ⟨j, j1, j2⟩; exact ⟨j, j1, by rw [← j2, eg' 36 _ (by decide) (by decide) (by decide) (by decide) (by decide)]⟩
    · rintro ⟨j, j1, j2⟩; exact ⟨j, j1, by rw [← j2, eg' 36 _ (by decide) (by decide) (by decide) (by decide) (by decide)]⟩
  · rw [ec] at hj; rw [el, eg' 36 _ (by decide) (by decide) (by decide) (by decide) (by decide)]; exact a5 j hj
  · rw [eg] at hg; rw [ed, eg' 47 _ (by decide) (by decide) (by decide) (by decide) (by decide)]; exact a6 g hg
  · rw [ep] at hk; rw [eg' 60 _ (by decide) (by decide) (by decide) (by decide) (by decide), ea 61 (by decide) (by decide) (by decide) (by decide) (by decide)]; exact a7 k hk
  · rw [ew] at hk; rw [et, eg, eg' 57 _ (by decide) (by decide) (by decide) (by decide) (by decide), eg' 58 _ (by decide) (by decide) (by decide) (by decide) (by decide)]; exact a8 k hk
  · rw [h1 75 (by decide)]; exact a9
