/-! reading: try: what waits at its wall -/
def RSV (x1 x2 x3 : Int32) (σ R : RS) : Prop := R.i = σ.i ∧ R.b = σ.b ∧ (∀ k : Nat, k ≠ 50 → k ≠ 51 → k ≠ 62 → R.a k = σ.a k) ∧ (∀ γ : Nat, σ.a 50 γ = 1 → R.a 50 γ = 1) ∧ (∀ γ : Nat, σ.a 51 γ = 1 → R.a 51 γ = 1) ∧ (∀ p : Nat, ¬ σ.a 62 p = x1 → R.a 62 p = σ.a 62 p) ∧ (∀ p : Nat, (p : Int) < x3.toInt ∨ peI σ ≤ (p : Int) → R.a 62 p = σ.a 62 p) ∧ (∀ p : Nat, x3.toInt ≤ p → (p : Int) < peI σ → σ.a 62 p = x1 → R.a 62 p = -1 ∧ (x2 = 1 → R.a (if σ.a 61 p = 0 then 51 else 50) (gv σ 60 p).toNat = 1) ∨ x2 = 1 ∧ 0 < waI σ ∧ R.a 62 p = σ.a 57 (waI σ - 1).toNat ∧ gv σ 60 p < gv σ 58 (waI σ - 1).toNat)
theorem RSV.skip {x1 x2 x3 : Int32} {σ R : RS} (h : RSV x1 x2 (x3 + 1) σ R) (e : (x3 + 1).toInt = x3.toInt + 1) (n : Nat) (hn : x3.toInt = n) (hne : ¬ σ.a 62 n = x1) : RSV x1 x2 x3 σ R := by
  obtain ⟨h1, h2, h3, h4, h5, h6, h7, h8⟩ := h
  refine ⟨h1, h2, h3, h4, h5, h6, fun p hp => h7 p (by omega), fun p p1 p2 p3 => ?_⟩
  by_cases c : p = n
  · subst c; exact absurd p3 hne
  · exact h8 p (by omega) p2 p3
/-- one that waits is seen to -/
theorem RSV.one {x1 x2 x3 : Int32} {σ S R : RS} {n : Nat} {v : Int32} (h : RSV x1 x2 (x3 + 1) S R) (e : (x3 + 1).toInt = x3.toInt + 1) (hn : x3.toInt = n) (hp : (n : Int) < peI σ) (si : S.i = σ.i) (sb : S.b = σ.b) (sa : ∀ k : Nat, k ≠ 50 → k ≠ 51 → k ≠ 62 → S.a k = σ.a k) (s50 : ∀ γ : Nat, σ.a 50 γ = 1 → S.a 50 γ = 1) (s51 : ∀ γ : Nat, σ.a 51 γ = 1 → S.a 51 γ = 1) (s62 : ∀ p : Nat, p ≠ n → S.a 62 p = σ.a 62 p) (sn : S.a 62 n = v) (σn : σ.a 62 n = x1) (hv : v = -1 ∧ (x2 = 1 → S.a (if σ.a 61 n = 0 then 51 else 50) (gv σ 60 n).toNat = 1) ∨ x2 = 1 ∧ 0 < waI σ ∧ v = σ.a 57 (waI σ - 1).toNat ∧ gv σ 60 n < gv σ 58 (waI σ - 1).toNat) : RSV x1 x2 x3 σ R := by
  obtain ⟨h1, h2, h3, h4, h5, h6, h7, h8⟩ := h
  have ep : peI S = peI σ := by unfold peI; rw [si]
  have ew : waI S = waI σ := by unfold waI; rw [si]
  rw [ep] at h7 h8
  rw [ew] at h8
  refine ⟨h1.trans si, h2.trans sb, fun k a b c => (h3 k a b c).trans (sa k a b c), fun γ q => h4 γ (s50 γ q), fun γ q => h5 γ (s51 γ q), fun p hpn => ?_, fun p hp' => ?_, fun p p1 p2 p3 => ?_⟩
  · have : p ≠ n := fun q => hpn (by rw [q]; exact σn)
    rw [h6 p (by rw [s62 p this]; exact hpn), s62 p this]
  · have : p ≠ n := by omega
    rw [h7 p (by omega), s62 p this]
  · by_cases c : p = n
    · subst c
      have eR : R.a 62 p = v := (h7 p (by omega)).trans sn
      rcases hv with ⟨v1, v2⟩ | ⟨v1, v2, v3, v4⟩
      · refine Or.inl ⟨eR.trans v1, fun q => ?_⟩
        have := v2 q
        by_cases c0 : σ.a 61 p = 0
        · rw [if_pos c0] at this ⊢; exact h5 _ this
        · rw [if_neg c0] at this ⊢; exact h4 _ this
      · exact Or.inr ⟨v1, v2, eR.trans v3, v4⟩
    · have e60 : gv S 60 p = gv σ 60 p := gv_of (sa 60 (by decide) (by decide) (by decide)) p
      have e58 : gv S 58 (waI σ - 1).toNat = gv σ 58 (waI σ - 1).toNat := gv_of (sa 58 (by decide) (by decide) (by decide)) _
      have := h8 p (by omega) p2 (by rw [s62 p c]; exact p3)
      rw [sa 61 (by decide) (by decide) (by decide), sa 57 (by decide) (by decide) (by decide), e60, e58] at this
      exact this
theorem p_gs {N : Nat} {σ : RS} {x1 x2 : Int32} {g : Nat} (hx : x1.toInt = g) (h4 : g < 460) : ∃ S, f_X12_goes N σ x1 x2 = some S ∧ S.i = σ.i ∧ S.b = σ.b ∧ (∀ k : Nat, k ≠ 50 → k ≠ 51 → S.a k = σ.a k) ∧ (∀ γ : Nat, σ.a 50 γ = 1 → S.a 50 γ = 1) ∧ (∀ γ : Nat, σ.a 51 γ = 1 → S.a 51 γ = 1) ∧ S.a (if x2 = 0 then 51 else 50) g = 1 := by
  have ibx : ib x1 460 := ⟨by omega, by omega⟩
  have nx := k_nat hx
  unfold f_X12_goes
  by_cases c : x2 = 0
  · rw [if_pos c, if_pos ibx, nx, if_pos c]
    refine ⟨_, rfl, rfl, rfl, fun k _ h2 => setA_nk h2, fun γ q => (congrFun (setA_nk (by decide)) γ).trans q, fun γ q => ?_, setA_at⟩
    by_cases e : γ = g
    · rw [e]; exact setA_at
    · exact (setA_ne e).trans q
  · rw [if_neg c, if_pos ibx, nx, if_neg c]
    refine ⟨_, rfl, rfl, rfl, fun k h1 _ => setA_nk h1, fun γ q => ?_, fun γ q => (congrFun (setA_nk (by decide)) γ).trans q, setA_at⟩
    by_cases e : γ = g
    · rw [e]; exact setA_at
    · exact (setA_ne e).trans q
theorem p_rsl {N : Nat} {x1 x2 : Int32} (hx2 : x2 = 0 ∨ x2 = 1) : ∀ (n : Nat) (σ : RS) (x3 : Int32), 0 ≤ x3.toInt → peI σ ≤ 300 → 0 ≤ waI σ → waI σ ≤ 40 → (∀ p : Nat, (p : Int) < peI σ → 0 ≤ gv σ 60 p ∧ gv σ 60 p < 460) → x3.toInt ≤ 300 → 1 ≤ n → peI σ - x3.toInt < n → ∃ R, f_X12_resolve_2 N n σ x1 x2 x3 = some R ∧ RSV x1 x2 x3 σ R
  | 0, σ, x3, h0, hp, hw0, hw4, hg, h3, h1n, hn => by omega
  | n + 1, σ, x3, h0, hp, hw0, hw4, hg, h3, h1n, hn => by
    show ∃ R, b_X12_resolve_2 N (f_X12_resolve_2 N n) σ x1 x2 x3 = some R ∧ _
    unfold b_X12_resolve_2
    have e1 : (1 : Int32).toInt = 1 := by decide
    have ex : (x3 + 1).toInt = x3.toInt + 1 := by rw [toInt_add] <;> rw [e1] <;> omega
    by_cases c : σ.i 59 ≤ x3
    · rw [if_pos c]
      have c := Int32.le_iff_toInt_le.mp c
      have c : peI σ ≤ x3.toInt := c
      exact ⟨σ, rfl, rfl, rfl, fun _ _ _ _ => rfl, fun _ q => q, fun _ q => q, fun _ _ => rfl, fun _ _ => rfl, fun p p1 p2 _ => by omega⟩
    rw [if_neg c]
    have c : ¬ peI σ ≤ x3.toInt := fun q => c (Int32.le_iff_toInt_le.mpr q)
    obtain ⟨k, hk⟩ : ∃ k : Nat, x3.toInt = (k : Int) := ⟨x3.toInt.toNat, (Int.toNat_of_nonneg h0).symm⟩
    rw [if_pos (show ib x3 300 from ⟨h0, by omega⟩), k_nat hk]
    have g60 := hg k (by omega)
    have go : ∀ S : RS, S.i = σ.i → (∀ j : Nat, j ≠ 50 → j ≠ 51 → j ≠ 62 → S.a j = σ.a j) → ∃ R, f_X12_resolve_2 N n S x1 x2 (x3 + 1) = some R ∧ RSV x1 x2 (x3 + 1) S R := fun S si sa => by
      have ep : peI S = peI σ := by unfold peI; rw [si]
      have ew : waI S = waI σ := by unfold waI; rw [si]
      exact p_rsl hx2 n S (x3 + 1) (by omega) (by omega) (by omega) (by omega) (fun p hp' => by rw [gv_of (sa 60 (by decide) (by decide) (by decide)) p]; exact hg p (by omega)) (by omega) (by omega) (by omega)
    by_cases c62 : σ.a 62 k = x1
    case neg =>
      rw [if_neg c62]
      obtain ⟨R, eR, hR⟩ := go σ rfl (fun _ _ _ _ => rfl)
      exact ⟨R, eR, hR.skip ex k hk c62⟩
    rw [if_pos c62]
    have mark : x2 = 1 → ∃ R, ((f_X12_goes N (RS.setA σ 62 k (-1)) (σ.a 60 k) (σ.a 61 k)).bind fun p8 => f_X12_resolve_2 N n p8 x1 x2 (x3 + 1)) = some R ∧ RSV x1 x2 x3 σ R := fun _ => by
      have e60 : (σ.a 60 k).toInt = (((gv σ 60 k).toNat : Nat) : Int) := (Int.toNat_of_nonneg g60.1).symm
      obtain ⟨S, eS, s1, s2, s3, s4, s5, s6⟩ := p_gs (N := N) (σ := RS.setA σ 62 k (-1)) (x2 := σ.a 61 k) e60 (by omega)
      rw [eS]
      obtain ⟨R, eR, hR⟩ := go S s1 (fun j h1 h2 h3 => (s3 j h1 h2).trans (setA_nk h3))
      refine ⟨R, eR, hR.one (v := -1) ex hk (by omega) s1 s2 (fun j h1 h2 h3 => (s3 j h1 h2).trans (setA_nk h3)) (fun γ q => s4 γ ((congrFun (setA_nk (by decide)) γ).trans q)) (fun γ q => s5 γ ((congrFun (setA_nk (by decide)) γ).trans q)) (fun p hp' => by rw [s3 62 (by decide) (by decide)]; exact setA_ne hp') (by rw [s3 62 (by decide) (by decide)]; exact setA_at) c62 (Or.inl ⟨rfl, fun _ => s6⟩)⟩
    by_cases c2 : x2 = 0
    · rw [if_pos c2]
      obtain ⟨R, eR, hR⟩ := go (RS.setA σ 62 k (-1)) rfl (fun j _ _ h3 => setA_nk h3)
      refine ⟨R, eR, hR.one (v := -1) ex hk (by omega) rfl rfl (fun j _ _ h3 => setA_nk h3) (fun γ q => (congrFun (setA_nk (by decide)) γ).trans q) (fun γ q => (congrFun (setA_nk (by decide)) γ).trans q) (fun p hp' => setA_ne hp') setA_at c62 (Or.inl ⟨rfl, fun q => ?_⟩)⟩
      rw [c2] at q; exact absurd q (by decide)
    have x21 : x2 = 1 := hx2.resolve_left c2
    rw [if_neg c2]
    by_cases cw : σ.i 56 ≤ 0
    · rw [if_pos cw]; exact mark x21
    rw [if_neg cw]
    have cw : 0 < waI σ := by
      have : ¬ (σ.i 56).toInt ≤ (0 : Int32).toInt := fun q => cw (Int32.le_iff_toInt_le.mpr q)
      rw [z_t0] at this
      show 0 < (σ.i 56).toInt
      omega
    have ew1 : (σ.i 56 - 1).toInt = waI σ - 1 := by
      have hh : (σ.i 56).toInt = waI σ := rfl
      rw [toInt_sub] <;> rw [e1] <;> omega
    have nw : (σ.i 56 - 1).toNatClampNeg = (waI σ - 1).toNat := by
      show (σ.i 56 - 1).toInt.toNat = _
      rw [ew1]
    rw [if_pos (show ib (σ.i 56 - 1) 40 from ⟨by omega, by omega⟩), nw]
    by_cases c58 : σ.a 58 (waI σ - 1).toNat ≤ σ.a 60 k
    · rw [if_pos c58]; exact mark x21
    rw [if_neg c58]
    obtain ⟨R, eR, hR⟩ := go (RS.setA σ 62 k (σ.a 57 (waI σ - 1).toNat)) rfl (fun j _ _ h3 => setA_nk h3)
    refine ⟨R, eR, hR.one (v := σ.a 57 (waI σ - 1).toNat) ex hk (by omega) rfl rfl (fun j _ _ h3 => setA_nk h3) (fun γ q => (congrFun (setA_nk (by decide)) γ).trans q) (fun γ q => (congrFun (setA_nk (by decide)) γ).trans q) (fun p hp' => setA_ne hp') setA_at c62 (Or.inr ⟨x21, cw, rfl, ?_⟩)⟩
    have : ¬ gv σ 58 (waI σ - 1).toNat ≤ gv σ 60 k := fun q => c58 (Int32.le_iff_toInt_le.mpr q)
    omega
theorem p_rs {N : Nat} (hN : 1000 ≤ N) {σ : RS} {x1 x2 : Int32} (hx2 : x2 = 0 ∨ x2 = 1) (hp : 0 ≤ peI σ ∧ peI σ ≤ 300) (hw : 0 ≤ waI σ ∧ waI σ ≤ 40) (hg : ∀ p : Nat, (p : Int) < peI σ → 0 ≤ gv σ 60 p ∧ gv σ 60 p < 460) : ∃ R, f_X12_resolve N σ x1 x2 = some R ∧ RSV x1 x2 0 σ R := by
  unfold f_X12_resolve
  exact p_rsl hx2 N σ 0 (by decide) hp.2 hw.1 hw.2 hg (by rw [z_t0]; decide) (by omega) (by rw [z_t0]; omega)
