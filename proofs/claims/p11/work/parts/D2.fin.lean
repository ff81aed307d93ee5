/-! reading: patching a chain; the end of a statement that has a goal -/
def ND : List Nat → Prop
  | [] => True
  | x :: L => x ∉ L ∧ ND L
def rmv (m : Nat) : List Nat → List Nat
  | [] => []
  | x :: L => if x = m then rmv m L else x :: rmv m L
theorem rmv_mem {m : Nat} : ∀ {L : List Nat} {x : Nat}, x ∈ rmv m L → x ∈ L ∧ x ≠ m
  | [], x, h => absurd h List.not_mem_nil
  | y :: L, x, h => by
    unfold rmv at h
    by_cases c : y = m
    · rw [if_pos c] at h
      exact ⟨List.mem_cons_of_mem _ (rmv_mem h).1, (rmv_mem h).2⟩
    · rw [if_neg c] at h
      rcases List.mem_cons.mp h with e | h
      · subst e; exact ⟨List.mem_cons_self .., c⟩
      · exact ⟨List.mem_cons_of_mem _ (rmv_mem h).1, (rmv_mem h).2⟩
theorem rmv_nd {m : Nat} : ∀ {L : List Nat}, ND L → ND (rmv m L)
  | [], h => h
  | y :: L, h => by
    unfold rmv
    by_cases c : y = m
    · rw [if_pos c]; exact rmv_nd h.2
    · rw [if_neg c]; exact ⟨fun z => h.1 (rmv_mem z).1, rmv_nd h.2⟩
theorem rmv_le {m : Nat} : ∀ {L : List Nat}, m ∉ L → (rmv m L).length = L.length
  | [], _ => rfl
  | y :: L, h => by
    unfold rmv
    rw [if_neg (fun c => h (by rw [c]; exact List.mem_cons_self ..))]
    show (rmv m L).length + 1 = L.length + 1
    rw [rmv_le (fun z => h (List.mem_cons_of_mem _ z))]
theorem rmv_len {m : Nat} : ∀ {L : List Nat}, ND L → L.length ≤ (rmv m L).length + 1
  | [], _ => Nat.zero_le _
  | y :: L, h => by
    unfold rmv
    by_cases c : y = m
    · rw [if_pos c]
      subst c
      rw [rmv_le h.1]
      exact Nat.le_refl _
    · rw [if_neg c]
      show L.length + 1 ≤ (rmv m L).length + 1 + 1
      have := rmv_len (m := m) h.2
      omega
theorem nd_len : ∀ (m : Nat) (L : List Nat), ND L → (∀ x ∈ L, x < m) → L.length ≤ m
  | 0, [], _, _ => Nat.le_refl _
  | 0, x :: L, _, h => absurd (h x (List.mem_cons_self ..)) (Nat.not_lt_zero _)
  | m + 1, L, h1, h2 => by
    have := nd_len m (rmv m L) (rmv_nd h1) (fun x hx => by
      have a := rmv_mem hx
      have := h2 x a.1
      have := a.2
      omega)
    have := rmv_len (m := m) h1
    omega
theorem ISCH.suf {s : RS} : ∀ {L : List Nat} {h : Int} {y : Nat}, ISCH s h L → y ∈ L → ∃ A B, L = A ++ y :: B ∧ ISCH s y (y :: B)
  | [], _, y, _, hy => absurd hy List.not_mem_nil
  | x :: L, _, y, h, hy => by
    rcases List.mem_cons.mp hy with e | hy
    · subst e
      exact ⟨[], L, rfl, rfl, h.2⟩
    · obtain ⟨A, B, e, hI⟩ := ISCH.suf h.2.2 hy
      exact ⟨x :: A, B, by rw [e]; rfl, hI⟩
theorem ISCH.nin {s : RS} {h : Int} {x : Nat} {L : List Nat} (hI : ISCH s h (x :: L)) : x ∉ L := fun hx => by
  obtain ⟨A, B, e, h2⟩ := ISCH.suf hI.2.2 hx
  have h1 : ISCH s x (x :: L) := ⟨rfl, hI.2⟩
  have e2 := ISCH.uniq h1 h2
  have e3 : L = B := (List.cons.inj e2).2
  have l1 : L.length = A.length + (B.length + 1) := by
    have := congrArg List.length e
    rw [List.length_append] at this
    exact this
  rw [e3] at l1
  omega
theorem ISCH.nd {s : RS} : ∀ {L : List Nat} {h : Int}, ISCH s h L → ND L
  | [], _, _ => True.intro
  | _ :: _, _, h => ⟨h.nin, ISCH.nd h.2.2⟩
def PT (x : Int32) : List Nat → RS → RS
  | [], u => u
  | k :: L, u => PT x L (u.setA 22 k x)
theorem PT.eI {x : Int32} : ∀ {L : List Nat} {u : RS}, (PT x L u).i = u.i
  | [], _ => rfl
  | k :: L, u => (PT.eI (L := L) (u := u.setA 22 k x)).trans rfl
theorem PT.eB {x : Int32} : ∀ {L : List Nat} {u : RS}, (PT x L u).b = u.b
  | [], _ => rfl
  | k :: L, u => (PT.eB (L := L) (u := u.setA 22 k x)).trans rfl
theorem PT.eA {x : Int32} {k9 : Nat} (h : k9 ≠ 22) : ∀ {L : List Nat} {u : RS}, (PT x L u).a k9 = u.a k9
  | [], _ => rfl
  | k :: L, u => (PT.eA h (L := L) (u := u.setA 22 k x)).trans (if_neg h)
theorem PT.e22 {x : Int32} : ∀ {L : List Nat} {u : RS} (j : Nat), (PT x L u).a 22 j = if j ∈ L then x else u.a 22 j
  | [], u, j => (if_neg List.not_mem_nil).symm
  | k :: L, u, j => by
    show (PT x L (u.setA 22 k x)).a 22 j = _
    rw [PT.e22 (L := L) (u := u.setA 22 k x) j]
    by_cases c : j ∈ L
    · rw [if_pos c, if_pos (List.mem_cons_of_mem _ c)]
    · rw [if_neg c]
      by_cases d : j = k
      · subst d
        rw [if_pos (List.mem_cons_self ..)]
        exact setA_at
      · rw [if_neg (fun z => (List.mem_cons.mp z).elim d c)]
        exact setA_ne d
theorem p_ptl {N : Nat} (w : Int32) : ∀ (L : List Nat) (n : Nat) (σ : RS) (site : Int32), ISCH σ site.toInt L → (∀ x ∈ L, (x : Int) < 3000) → L.length < n → f_X12_patch_2 N n σ w site = some (PT w L σ)
  | [], 0, _, _, _, _, h => absurd h (Nat.not_lt_zero _)
  | _ :: _, 0, _, _, _, _, h => absurd h (Nat.not_lt_zero _)
  | [], n + 1, σ, site, hI, _, _ => by
    show b_X12_patch_2 N (f_X12_patch_2 N n) σ w site = _
    unfold b_X12_patch_2
    have h : site < 0 := by
      rw [Int32.lt_iff_toInt_lt, z_t0]; exact hI
    rw [if_pos h]
    rfl
  | x :: L, n + 1, σ, site, hI, hL, hn => by
    show b_X12_patch_2 N (f_X12_patch_2 N n) σ w site = _
    unfold b_X12_patch_2
    have hx := hL x (List.mem_cons_self ..)
    have e := hI.1
    have h : ¬ site < 0 := fun c => by
      have := lt_int c
      rw [z_t0] at this
      omega
    have en : site.toNatClampNeg = x := by
      show site.toInt.toNat = x
      rw [e]; exact Int.toNat_natCast _
    rw [if_neg h, if_pos (show ib site 3000 from ⟨by omega, by omega⟩), en]
    refine p_ptl w L n (σ.setA 22 x w) (σ.a 22 x) (ISCH.of hI.2.2 (fun y hy => ⟨rfl, setA_ne (fun c => hI.nin (by rw [← c]; exact hy))⟩)) (fun y hy => hL y (List.mem_cons_of_mem _ hy)) (by have : (x :: L).length = L.length + 1 := rfl; omega)
theorem p_pt {N : Nat} (hN : 4000 ≤ N) {σ : RS} {site w : Int32} {L : List Nat} (hI : ISCH σ site.toInt L) (hL : ∀ x ∈ L, (x : Int) < 3000) : f_X12_patch N σ site w = some (PT w L σ) := by
  unfold f_X12_patch
  have := nd_len 3000 L hI.nd (fun x hx => by have := hL x hx; omega)
  exact p_ptl w L N σ site hI hL (by omega)
def EQT (v W : RS) : Prop := (∀ k : Nat, (k < 21 ∨ 24 ≤ k) → (k < 64 ∨ 74 ≤ k) → W.a k = v.a k) ∧ W.b 9 = v.b 9 ∧ (∀ j : Nat, (j < 10 ∨ 20 < j) → j ≠ 38 → j ≠ 43 → ¬ (52 ≤ j ∧ j ≤ 55) → j ≠ 63 → j ≠ 75 → W.i j = v.i j)
def CHN (v W : RS) : Prop := ∀ (γ : Nat) (b : Bool) (L : List Nat) (x : Nat), (γ : Int) < goI W → ISCH v (hd v b γ) L → x ∈ L → W.a 21 x = v.a 21 x ∧ W.a 22 x = v.a 22 x
theorem EQT.en {v W : RS} (h : EQT v W) : enI W = enI v := by unfold enI; rw [h.2.2 24 (by omega) (by omega) (by omega) (by omega) (by omega) (by omega)]
theorem EQT.tt {v W : RS} (h : EQT v W) : trI W = trI v := by unfold trI; rw [h.2.2 29 (by omega) (by omega) (by omega) (by omega) (by omega) (by omega)]
theorem EQT.ca {v W : RS} (h : EQT v W) : caI W = caI v := by unfold caI; rw [h.2.2 33 (by omega) (by omega) (by omega) (by omega) (by omega) (by omega)]
theorem EQT.sl {v W : RS} (h : EQT v W) : slI W = slI v := by unfold slI; rw [h.2.2 42 (by omega) (by omega) (by omega) (by omega) (by omega) (by omega)]
theorem EQT.wa {v W : RS} (h : EQT v W) : waI W = waI v := by unfold waI; rw [h.2.2 56 (by omega) (by omega) (by omega) (by omega) (by omega) (by omega)]
theorem EQT.pe {v W : RS} (h : EQT v W) : peI W = peI v := by unfold peI; rw [h.2.2 59 (by omega) (by omega) (by omega) (by omega) (by omega) (by omega)]
theorem EQT.i3 {v W : RS} (h : EQT v W) : W.i 3 = v.i 3 := h.2.2 3 (by omega) (by omega) (by omega) (by omega) (by omega) (by omega)
theorem EQT.g {v W : RS} (h : EQT v W) {k : Nat} (h1 : 24 ≤ k) (h2 : k < 64) (i : Nat) : gv W k i = gv v k i := gv_of (h.1 k (Or.inr h1) (Or.inl h2)) i
theorem EQT.eHD {v W : RS} (h : EQT v W) (b : Bool) (γ : Nat) : hd W b γ = hd v b γ := by
  cases b
  · exact h.g (k := 49) (by decide) (by decide) γ
  · exact h.g (k := 48) (by decide) (by decide) γ
theorem CHN.eIS {v W : RS} (h : CHN v W) (he : EQT v W) {γ : Nat} {b : Bool} {L : List Nat} (hγ : (γ : Int) < goI W) (hI : ISCH v (hd v b γ) L) : ISCH W (hd W b γ) L := by
  rw [he.eHD]
  exact hI.of (fun x hx => h γ b L x hγ hI hx)
theorem TAB.fin {v W : RS} (h : TAB v) (he : EQT v W) (hc : CHN v W) (hcd : cdI v ≤ cdI W) (hgo : goI W ≤ goI v) (hse : seI W ≤ seI v) (h6 : ∀ γ : Nat, (γ : Int) < goI W → gv v 47 γ ≤ deI W) (h8 : ∀ w : Nat, (w : Int) < waI v → gv v 58 w ≤ goI W) (hr : W.i 75 = 0 ∨ W.i 75 = 1) : TAB W := by
  obtain ⟨⟨a0, b1, b2, b3, b4⟩, a1, a2, a3, a4, a5, a6, a7, a8, a9⟩ := h
  refine ⟨⟨fun γ b hγ => ?_, DJ.of a0 b1 hgo (fun γ b L hγ h1 _ => hc.eIS he hγ h1), ?_, ?_, ?_⟩, ?_, ?_, ?_, ?_, ?_, ?_, ?_, ?_, hr⟩
  · obtain ⟨L, l1, l2⟩ := a0 γ b (by omega)
    exact ⟨L, hc.eIS he hγ l1, fun x hx => by have := l2 x hx; omega⟩
  · intro p hp; rw [he.pe] at hp; rw [he.tt, he.g (by decide) (by decide)]; exact b2 p hp
  · intro w1 w2 h1 h2; rw [he.wa] at h2; rw [he.g (by decide) (by decide), he.g (by decide) (by decide)]; exact b3 w1 w2 h1 h2
  · intro p w1 h1 h2 h3; rw [he.pe] at h1; rw [he.wa] at h2; rw [he.g (by decide) (by decide), he.g (by decide) (by decide)] at h3; rw [he.g (by decide) (by decide), he.g (by decide) (by decide)]; exact b4 p w1 h1 h2 h3
  · intro j hj; rw [he.en] at hj ⊢; rw [he.g (by decide) (by decide)]; exact a1 j hj
  · intro j hj; rw [he.ca] at hj ⊢; rw [he.g (by decide) (by decide)]; exact a2 j hj
  · intro j hj; rw [he.tt] at hj; rw [he.ca, he.g (by decide) (by decide)]; exact a3 j hj
  · intro x hx
    rw [he.sl, he.ca, he.g (by decide) (by decide), he.1 41 (by decide) (by decide)]
    have := a4 x (by omega)
    refine ⟨this.1, this.2.1, ?_⟩
    rw [← this.2.2]
    constructor
    · rintro ⟨j, j1, j2⟩; exact ⟨j, j1, by rw [← j2, he.g (by decide) (by decide)]⟩
    · rintro ⟨j, j1, j2⟩; exact ⟨j, j1, by rw [← j2, he.g (by decide) (by decide)]⟩
  · intro j hj; rw [he.ca] at hj; rw [he.sl, he.g (by decide) (by decide)]; exact a5 j hj
  · intro γ hγ; rw [he.g (by decide) (by decide)]; exact ⟨(a6 γ (by omega)).1, h6 γ hγ⟩
  · intro k hk; rw [he.pe] at hk; rw [he.g (by decide) (by decide), he.1 61 (by decide) (by decide)]; exact a7 k hk
  · intro k hk
    rw [he.wa] at hk
    rw [he.tt, he.g (by decide) (by decide), he.g (by decide) (by decide)]
    have := a8 k hk
    exact ⟨this.1, this.2.1, this.2.2.1, h8 k hk⟩
theorem KP.fin {t : Nat} {s v W : RS} (h : KP t s v) (he : EQT v W) (hc : CHN v W) (hcd : cdI v ≤ cdI W) (hg1 : goI s ≤ goI W) (hse : seI s ≤ seI W) (h18 : 0 ≤ v.i 18 → 0 ≤ W.i 18) (hco : ∀ k : Nat, (k : Int) < cdI s → W.a 21 k = v.a 21 k ∧ W.a 22 k = v.a 22 k ∧ W.a 23 k = v.a 23 k) (hf : ∀ k : Nat, 64 ≤ k → k ≤ 73 → bel k t v W) : KP t s W := by
  obtain ⟨⟨a1, a1'⟩, a2, a3, a4, a5, a6, a7, a8, a9, a10, a11⟩ := h
  have eb : ∀ (k : Nat) (n : Int), 24 ≤ k → k < 64 → bel k n s W = bel k n s v := fun k n h1 h2 => by unfold bel; rw [he.1 k (Or.inr h1) (Or.inl h2)]
  refine ⟨⟨⟨fun j hj => (he.2.2 j (by omega) (by omega) (by omega) (by omega) (by omega) (by omega)).trans (a1.1 j hj), fun k hk => (he.1 k (by omega) (by omega)).trans (a1.2.1 k hk), he.2.1.trans a1.2.2⟩, fun z => h18 (a1' z)⟩, ⟨by have := a2.1; omega, fun j hj => (hco j hj).1.trans (a2.2.1 j hj), fun j hj => (hco j hj).2.1.trans (a2.2.2.1 j hj), fun j hj => (hco j hj).2.2.trans (a2.2.2.2 j hj)⟩, ?_, ?_, ?_, ?_, ?_, ?_, ?_, ?_, fun k k1 k2 => (a11 k k1 k2).tr (hf k k1 k2) (by omega)⟩
  · unfold KE; rw [he.en, eb _ _ (by decide) (by decide), eb _ _ (by decide) (by decide), eb _ _ (by decide) (by decide), eb _ _ (by decide) (by decide)]; exact a3
  · unfold KT; rw [he.tt, eb _ _ (by decide) (by decide), eb _ _ (by decide) (by decide), eb _ _ (by decide) (by decide)]; exact a4
  · unfold KH; unfold gv; rw [he.ca, eb _ _ (by decide) (by decide), eb _ _ (by decide) (by decide), eb _ _ (by decide) (by decide), eb _ _ (by decide) (by decide), he.sl, he.1 36 (by decide) (by decide)]; exact a5
  · unfold KS; rw [he.sl, eb _ _ (by decide) (by decide), eb _ _ (by decide) (by decide)]; exact ⟨hse, a6.2⟩
  · unfold KG; rw [eb _ _ (by decide) (by decide), eb _ _ (by decide) (by decide), he.1 50 (by decide) (by decide), he.1 51 (by decide) (by decide), he.1 46 (by decide) (by decide)]; exact ⟨hg1, a7.2⟩
  · intro γ b L hγ hI hL
    obtain ⟨L1, c1, c2⟩ := a8 γ b L hγ hI hL
    exact ⟨L1, hc.eIS he (by omega) c1, fun x hx => by have := c2 x hx; omega⟩
  · unfold KW; rw [he.wa, eb _ _ (by decide) (by decide), eb _ _ (by decide) (by decide)]; exact a9
  · unfold KQ; rw [he.pe, eb _ _ (by decide) (by decide), eb _ _ (by decide) (by decide), eb _ _ (by decide) (by decide)]; exact a10
theorem OPN.fin {v W : RS} (hn : TN v) (he : EQT v W) (hc : CHN v W) (hgo : goI W ≤ goI v) {k : Nat} (h : OPN W k) : OPN v k := by
  obtain ⟨γ, b, L, x1, x2, x3⟩ := h
  obtain ⟨M, m1, m2⟩ := hn γ b (by omega)
  have e := ISCH.uniq x2 (hc.eIS he x1 m1)
  subst e
  exact ⟨γ, b, _, by omega, m1, x3⟩
theorem LAT.fin {Z : Nat → Nat → Prop} {s1 u1 v W : RS} (h : LAT Z s1 u1 v) (he : EQT v W) (hc : CHN v W) (hn : TN v) (hcd : cdI v ≤ cdI W) (hgo : goI W ≤ goI v) (hco : ∀ k : Nat, cdI s1 ≤ k → (k : Int) < cdI u1 → W.a 21 k = v.a 21 k ∧ W.a 23 k = v.a 23 k ∧ (¬ OPN v k → W.a 22 k = v.a 22 k)) : LAT Z s1 u1 W := by
  obtain ⟨⟨a1, a2, a3, a4, a5, a6, a7, a8⟩, a9, a10, a11, a12, a13⟩ := h
  refine ⟨⟨by omega, by rw [he.en]; exact a2, by rw [he.tt]; exact a3, by rw [he.i3]; exact a4, fun k k1 k2 => ?_, fun k k1 k2 => ?_, fun k k1 k2 z => ?_, fun k k1 k2 => ?_⟩, fun k k1 k2 z => a9 k k1 k2 (OPN.fin hn he hc hgo z), by rw [he.ca]; exact a10, by rw [he.sl]; exact a11, fun j hj => by rw [he.g (by decide) (by decide)]; exact a12 j hj, fun j h1 h2 => by rw [he.ca] at h2; rw [he.g (by decide) (by decide)]; exact a13 j h1 h2⟩
  · obtain ⟨b1, b2⟩ := a5 k k1 k2
    obtain ⟨c1, c2, c3⟩ := hco k k1 k2
    exact ⟨c1.trans b1, fun z => ⟨c2.trans (b2 z).1, fun q => (c3 (fun y => q (a9 k k1 k2 y))).trans ((b2 z).2 q)⟩⟩
  · rw [he.1 26 (by decide) (by decide), he.1 27 (by decide) (by decide), he.1 28 (by decide) (by decide)]; exact a6 k k1 k2
  · rw [he.1 30 (by decide) (by decide), he.1 31 (by decide) (by decide), he.1 32 (by decide) (by decide)]; exact a7 k k1 k2 z
  · rw [he.1 35 (by decide) (by decide), he.1 36 (by decide) (by decide), he.1 37 (by decide) (by decide)]; exact a8 k k1 k2
theorem SITE.fin {s v W : RS} (he : EQT v W) (hc : CHN v W) {γ : Nat} {b : Bool} {k : Nat} (hγ : (γ : Int) < goI W) (h : SITE s v γ b k) : SITE s W γ b k := by
  obtain ⟨h1, L, h2, h3⟩ := h
  exact ⟨h1, L, hc.eIS he hγ h2, h3⟩
theorem ARV.fin {v W : RS} (he : EQT v W) {γ : Nat} {b : Bool} (h : ARV v γ b) : ARV W γ b := by
  rcases h with h | ⟨p, p1, p2, p3, p4, p5⟩
  · left
    cases b
    · show W.a 51 γ = 1; rw [he.1 51 (by decide) (by decide)]; exact h
    · show W.a 50 γ = 1; rw [he.1 50 (by decide) (by decide)]; exact h
  · refine Or.inr ⟨p, by rw [he.pe]; exact p1, by rw [he.g (by decide) (by decide)]; exact p2, by rw [he.1 61 (by decide) (by decide)]; exact p3, by rw [he.wa]; exact p4, by rw [he.wa, he.g (by decide) (by decide), he.g (by decide) (by decide)]; exact p5⟩
