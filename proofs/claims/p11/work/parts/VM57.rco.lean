/-! the reference: what is laid stays (the first word of an instruction) -/
def KEC (s r : RS) : Prop := 0 ≤ (s.i 20).toInt → (s.i 20).toInt ≤ 3000 → ((s.i 20).toInt ≤ (r.i 20).toInt ∧ (r.i 20).toInt ≤ 3000) ∧ ∀ j : Nat, j < 2999 → (j : Int) < (s.i 20).toInt → r.a 21 j = s.a 21 j
theorem KEC.tr {s r u : RS} (h : KEC s r) (g : KEC r u) : KEC s u := fun a b => by
  obtain ⟨⟨h1, h2⟩, h3⟩ := h a b
  obtain ⟨⟨g1, g2⟩, g3⟩ := g (by omega) h2
  exact ⟨⟨by omega, g2⟩, fun j k l => (g3 j k (by omega)).trans (h3 j k l)⟩
theorem KEC.of {s r : RS} (a : r.i 20 = s.i 20) (b : r.a 21 = s.a 21) : KEC s r := fun x y => ⟨⟨by rw [a]; exact Int.le_refl _, by rw [a]; exact y⟩, fun j _ _ => by rw [b]⟩
def KRc {α : Type} (s : RS) (t : Option (α × RS)) : Prop := ∀ R, t = some R → KEC s R.2
def KVc (s : RS) (t : Option RS) : Prop := ∀ R, t = some R → KEC s R
theorem krc_some {α : Type} {s : RS} {r : α × RS} (h : KEC s r.2) : KRc s (some r) := fun R q => by
  cases q
  exact h
theorem kvc_some {s r : RS} (h : KEC s r) : KVc s (some r) := fun R q => by
  cases q
  exact h
theorem krc_none {α : Type} {s : RS} : KRc s (none : Option (α × RS)) := fun R q => by cases q
theorem kvc_none {s : RS} : KVc s (none : Option RS) := fun R q => by cases q
theorem krc_ite {α : Type} {s : RS} {c : Prop} [Decidable c] {x y : Option (α × RS)} (hx : KRc s x) (hy : KRc s y) : KRc s (if c then x else y) := by
  by_cases h : c
  · rw [if_pos h]; exact hx
  · rw [if_neg h]; exact hy
theorem kvc_ite {s : RS} {c : Prop} [Decidable c] {x y : Option RS} (hx : KVc s x) (hy : KVc s y) : KVc s (if c then x else y) := by
  by_cases h : c
  · rw [if_pos h]; exact hx
  · rw [if_neg h]; exact hy
theorem krc_st {α : Type} {s r : RS} {t : Option (α × RS)} (h : KEC s r) (g : KRc r t) : KRc s t := fun R q => h.tr (g R q)
theorem kvc_st {s r : RS} {t : Option RS} (h : KEC s r) (g : KVc r t) : KVc s t := fun R q => h.tr (g R q)
theorem krc_bind {α β : Type} {s : RS} {x : Option (α × RS)} {k : α × RS → Option (β × RS)} (hx : KRc s x) (hk : ∀ p : α × RS, KRc p.2 (k p)) : KRc s (x.bind k) := by
  intro R h
  obtain ⟨p, h1, h2⟩ := hf_bind h
  exact (hx p h1).tr (hk p R h2)
theorem krc_bindv {β : Type} {s : RS} {x : Option RS} {k : RS → Option (β × RS)} (hx : KVc s x) (hk : ∀ p : RS, KRc p (k p)) : KRc s (x.bind k) := by
  intro R h
  obtain ⟨p, h1, h2⟩ := hf_bind h
  exact (hx p h1).tr (hk p R h2)
theorem kvc_bind {α : Type} {s : RS} {x : Option (α × RS)} {k : α × RS → Option RS} (hx : KRc s x) (hk : ∀ p : α × RS, KVc p.2 (k p)) : KVc s (x.bind k) := by
  intro R h
  obtain ⟨p, h1, h2⟩ := hf_bind h
  exact (hx p h1).tr (hk p R h2)
theorem kvc_bindv {s : RS} {x : Option RS} {k : RS → Option RS} (hx : KVc s x) (hk : ∀ p : RS, KVc p (k p)) : KVc s (x.bind k) := by
  intro R h
  obtain ⟨p, h1, h2⟩ := hf_bind h
  exact (hx p h1).tr (hk p R h2)
theorem krc_f_X12_thrown (N : Nat) (σ : RS) : KRc σ (f_X12_thrown N σ) := by
  unfold f_X12_thrown
  exact (krc_some (KEC.of rfl rfl))
theorem krc_f_X12_in_14 (N : Nat) (σ : RS) : KRc σ (f_X12_in_14 N σ) := by
  unfold f_X12_in_14
  exact (krc_some (KEC.of rfl rfl))
theorem krc_f_X12_in (N : Nat) (σ : RS) (x0 : Int32) (x1 : Int32) (x2 : Int32) : KRc σ (f_X12_in N σ x0 x1 x2) := by
  unfold f_X12_in
  exact (krc_ite (krc_st (KEC.of rfl rfl) (krc_f_X12_in_14 N σ)) (krc_ite (krc_st (KEC.of rfl rfl) (krc_f_X12_in_14 N σ)) (krc_some (KEC.of rfl rfl))))
theorem krc_b_X12_feed_24 (N : Nat) (K : RS → Int32 → Int32 → Int32 → Int32 → Int32 → Int32 → Option (Int32 × RS)) (hK : ∀ (σ : RS) (y0 : Int32) (y1 : Int32) (y2 : Int32) (y3 : Int32) (y4 : Int32) (y5 : Int32), KRc σ (K σ y0 y1 y2 y3 y4 y5)) (σ : RS) (x1 : Int32) (x2 : Int32) (x3 : Int32) (x4 : Int32) (x5 : Int32) (x6 : Int32) : KRc σ (b_X12_feed_24 N K σ x1 x2 x3 x4 x5 x6) := by
  unfold b_X12_feed_24
  exact (krc_ite (krc_some (KEC.of rfl rfl)) (krc_ite (krc_ite (krc_ite (krc_ite (krc_ite (krc_st (KEC.of rfl rfl) (hK (RS.setA σ 1 ((((σ.i 2) + x6) : Int32).toNatClampNeg) ((x5 >>> ((24 - (8 * (x6 - x6 / 4 * 4))) &&& 31)) &&& 255)) x1 x2 x3 x4 x5 (x6 + 1))) krc_none) (krc_ite (krc_st (KEC.of rfl rfl) (hK (RS.setA σ 1 ((((σ.i 2) + x6) : Int32).toNatClampNeg) ((x4 >>> ((24 - (8 * (x6 - x6 / 4 * 4))) &&& 31)) &&& 255)) x1 x2 x3 x4 x5 (x6 + 1))) krc_none)) (krc_ite (krc_st (KEC.of rfl rfl) (hK (RS.setA σ 1 ((((σ.i 2) + x6) : Int32).toNatClampNeg) ((x3 >>> ((24 - (8 * (x6 - x6 / 4 * 4))) &&& 31)) &&& 255)) x1 x2 x3 x4 x5 (x6 + 1))) krc_none)) (krc_ite (krc_st (KEC.of rfl rfl) (hK (RS.setA σ 1 ((((σ.i 2) + x6) : Int32).toNatClampNeg) ((x2 >>> ((24 - (8 * (x6 - x6 / 4 * 4))) &&& 31)) &&& 255)) x1 x2 x3 x4 x5 (x6 + 1))) krc_none)) (krc_ite (krc_st (KEC.of rfl rfl) (hK (RS.setA σ 1 ((((σ.i 2) + x6) : Int32).toNatClampNeg) ((x1 >>> ((24 - (8 * (x6 - x6 / 4 * 4))) &&& 31)) &&& 255)) x1 x2 x3 x4 x5 (x6 + 1))) krc_none)))
theorem krc_f_X12_feed_24 (N : Nat) : ∀ (n : Nat) (σ : RS) (y0 : Int32) (y1 : Int32) (y2 : Int32) (y3 : Int32) (y4 : Int32) (y5 : Int32), KRc σ (f_X12_feed_24 N n σ y0 y1 y2 y3 y4 y5)
  | 0, _, _, _, _, _, _, _ => krc_none
  | n+1, σ, y0, y1, y2, y3, y4, y5 => krc_b_X12_feed_24 N (f_X12_feed_24 N n) (fun σ y0 y1 y2 y3 y4 y5 => krc_f_X12_feed_24 N n σ y0 y1 y2 y3 y4 y5) σ y0 y1 y2 y3 y4 y5
theorem krc_f_X12_feed (N : Nat) (σ : RS) (x1 : Int32) (x2 : Int32) (x3 : Int32) (x4 : Int32) (x5 : Int32) : KRc σ (f_X12_feed N σ x1 x2 x3 x4 x5) := by
  unfold f_X12_feed
  exact (krc_ite (krc_st (KEC.of rfl rfl) (krc_f_X12_feed_24 N N (RS.setI σ 0 0) x1 x2 x3 x4 x5 0)) (krc_some (KEC.of rfl rfl)))
theorem krc_f_X12_cut (N : Nat) (σ : RS) (x1 : Int32) : KRc σ (f_X12_cut N σ x1) := by
  unfold f_X12_cut
  exact (krc_bind (krc_st (KEC.of rfl rfl) (krc_f_X12_in N (RS.setI σ 0 0) x1 0 (σ.i 2))) (fun p1 => (krc_ite (krc_some (KEC.of rfl rfl)) (krc_some (KEC.of rfl rfl)))))
theorem krc_f_X12_kind (N : Nat) (σ : RS) (x1 : Int32) : KRc σ (f_X12_kind N σ x1) := by
  unfold f_X12_kind
  exact (krc_bind (krc_st (KEC.of rfl rfl) (krc_f_X12_in N (RS.setI σ 0 0) x1 0 ((σ.i 3) - 1))) (fun p1 => (krc_ite (krc_some (KEC.of rfl rfl)) (krc_ite (krc_some (KEC.of rfl rfl)) (krc_ite (krc_some (KEC.of rfl rfl)) krc_none)))))
theorem krc_f_X12_isUnder_21 (N : Nat) (σ : RS) (x2 : Int32) (x3 : Int32) : KRc σ (f_X12_isUnder_21 N σ x2 x3) := by
  unfold f_X12_isUnder_21
  exact (krc_ite (krc_some (KEC.of rfl rfl)) (krc_some (KEC.of rfl rfl)))
theorem krc_b_X12_isUnder_2 (N : Nat) (K : RS → Int32 → Int32 → Option (Int32 × RS)) (hK : ∀ (σ : RS) (y0 : Int32) (y1 : Int32), KRc σ (K σ y0 y1)) (σ : RS) (x2 : Int32) (x3 : Int32) : KRc σ (b_X12_isUnder_2 N K σ x2 x3) := by
  unfold b_X12_isUnder_2
  exact (krc_ite (krc_st (KEC.of rfl rfl) (krc_f_X12_isUnder_21 N σ x2 x3)) (krc_ite (krc_st (KEC.of rfl rfl) (krc_f_X12_isUnder_21 N σ x2 x3)) (krc_ite (krc_st (KEC.of rfl rfl) (hK σ x2 (σ.a 4 ((x3 : Int32).toNatClampNeg)))) krc_none)))
theorem krc_f_X12_isUnder_2 (N : Nat) : ∀ (n : Nat) (σ : RS) (y0 : Int32) (y1 : Int32), KRc σ (f_X12_isUnder_2 N n σ y0 y1)
  | 0, _, _, _ => krc_none
  | n+1, σ, y0, y1 => krc_b_X12_isUnder_2 N (f_X12_isUnder_2 N n) (fun σ y0 y1 => krc_f_X12_isUnder_2 N n σ y0 y1) σ y0 y1
theorem krc_f_X12_isUnder (N : Nat) (σ : RS) (x1 : Int32) (x2 : Int32) : KRc σ (f_X12_isUnder N σ x1 x2) := by
  unfold f_X12_isUnder
  exact (krc_st (KEC.of rfl rfl) (krc_f_X12_isUnder_2 N N σ x2 x1))
theorem krc_f_X12_under_33 (N : Nat) (σ : RS) : KRc σ (f_X12_under_33 N σ) := by
  unfold f_X12_under_33
  exact (krc_some (KEC.of rfl rfl))
theorem krc_f_X12_under (N : Nat) (σ : RS) (x1 : Int32) (x2 : Int32) : KRc σ (f_X12_under N σ x1 x2) := by
  unfold f_X12_under
  exact (krc_bind (krc_st (KEC.of rfl rfl) (krc_f_X12_in N (RS.setI σ 0 0) x1 0 ((σ.i 3) - 1))) (fun p1 => (krc_ite (krc_st (KEC.of rfl rfl) (krc_f_X12_under_33 N p1.2)) (krc_bind (krc_st (KEC.of rfl rfl) (krc_f_X12_in N p1.2 x2 0 ((p1.2.i 3) - 1))) (fun p4 => (krc_ite (krc_st (KEC.of rfl rfl) (krc_f_X12_under_33 N p4.2)) (krc_bind (krc_st (KEC.of rfl rfl) (krc_f_X12_isUnder N p4.2 x1 x2)) (fun p7 => (krc_ite (krc_some (KEC.of rfl rfl)) (krc_some (KEC.of rfl rfl)))))))))))
theorem krc_f_X12_resource_53 (N : Nat) (σ : RS) : KRc σ (f_X12_resource_53 N σ) := by
  unfold f_X12_resource_53
  exact (krc_some (KEC.of rfl rfl))
theorem krc_f_X12_resource_71 (N : Nat) (σ : RS) (x1 : Int32) (x3 : Int32) (x4 : Int32) : KRc σ (f_X12_resource_71 N σ x1 x3 x4) := by
  unfold f_X12_resource_71
  exact (krc_ite (krc_some (KEC.of rfl rfl)) krc_none)
theorem krc_f_X12_resource (N : Nat) (σ : RS) (x1 : Int32) (x2 : Int32) (x3 : Int32) (x4 : Int32) : KRc σ (f_X12_resource N σ x1 x2 x3 x4) := by
  unfold f_X12_resource
  exact (krc_bind (krc_st (KEC.of rfl rfl) (krc_f_X12_in N (RS.setI σ 0 0) x1 0 7)) (fun p1 => (krc_ite (krc_st (KEC.of rfl rfl) (krc_f_X12_resource_53 N p1.2)) (krc_bind (krc_st (KEC.of rfl rfl) (krc_f_X12_in N p1.2 x2 0 1)) (fun p4 => (krc_ite (krc_st (KEC.of rfl rfl) (krc_f_X12_resource_53 N p4.2)) (krc_bind (krc_st (KEC.of rfl rfl) (krc_f_X12_in N p4.2 x3 (-1) ((p4.2.i 3) - 1))) (fun p7 => (krc_ite (krc_st (KEC.of rfl rfl) (krc_f_X12_resource_53 N p7.2)) (krc_bind (krc_st (KEC.of rfl rfl) (krc_f_X12_in N p7.2 x4 (-1) ((p7.2.i 3) - 1))) (fun p10 => (krc_ite (krc_st (KEC.of rfl rfl) (krc_f_X12_resource_53 N p10.2)) (krc_ite (krc_ite (krc_st (KEC.of rfl rfl) (krc_f_X12_resource_71 N (RS.setA p10.2 5 ((x1 : Int32).toNatClampNeg) 1) x1 x3 x4)) krc_none) (krc_ite (krc_st (KEC.of rfl rfl) (krc_f_X12_resource_71 N (RS.setA p10.2 5 ((x1 : Int32).toNatClampNeg) 0) x1 x3 x4)) krc_none))))))))))))))
theorem krc_f_X12_asserts_18 (N : Nat) (σ : RS) (x1 : Int32) (x2 : Int32) : KRc σ (f_X12_asserts_18 N σ x1 x2) := by
  unfold f_X12_asserts_18
  exact (krc_ite (krc_some (KEC.of rfl rfl)) krc_none)
theorem krc_f_X12_asserts (N : Nat) (σ : RS) (x1 : Int32) : KRc σ (f_X12_asserts N σ x1) := by
  unfold f_X12_asserts
  exact (krc_ite (krc_st (KEC.of rfl rfl) (krc_f_X12_asserts_18 N (RS.setI σ 0 0) x1 0)) (krc_st (KEC.of rfl rfl) (krc_f_X12_asserts_18 N (RS.setI σ 0 0) x1 1)))
theorem krc_f_X12_at (N : Nat) (σ : RS) (x1 : Int32) : KRc σ (f_X12_at N σ x1) := by
  unfold f_X12_at
  exact (krc_ite (krc_some (KEC.of rfl rfl)) (krc_ite (krc_some (KEC.of rfl rfl)) krc_none))
theorem krc_f_X12_isLetter_16 (N : Nat) (σ : RS) : KRc σ (f_X12_isLetter_16 N σ) := by
  unfold f_X12_isLetter_16
  exact (krc_some (KEC.of rfl rfl))
theorem krc_f_X12_isLetter (N : Nat) (σ : RS) (x0 : Int32) : KRc σ (f_X12_isLetter N σ x0) := by
  unfold f_X12_isLetter
  exact (krc_ite (krc_st (KEC.of rfl rfl) (krc_f_X12_isLetter_16 N σ)) (krc_ite (krc_st (KEC.of rfl rfl) (krc_f_X12_isLetter_16 N σ)) (krc_some (KEC.of rfl rfl))))
theorem krc_f_X12_isDigit_16 (N : Nat) (σ : RS) : KRc σ (f_X12_isDigit_16 N σ) := by
  unfold f_X12_isDigit_16
  exact (krc_some (KEC.of rfl rfl))
theorem krc_f_X12_isDigit (N : Nat) (σ : RS) (x0 : Int32) : KRc σ (f_X12_isDigit N σ x0) := by
  unfold f_X12_isDigit
  exact (krc_ite (krc_st (KEC.of rfl rfl) (krc_f_X12_isDigit_16 N σ)) (krc_ite (krc_st (KEC.of rfl rfl) (krc_f_X12_isDigit_16 N σ)) (krc_some (KEC.of rfl rfl))))
theorem krc_b_X12_readName_260 (N : Nat) (K : RS → Int32 → Option (RS)) (hK : ∀ (σ : RS) (y0 : Int32), KVc σ (K σ y0)) (σ : RS) (x4 : Int32) : KVc σ (b_X12_readName_260 N K σ x4) := by
  unfold b_X12_readName_260
  exact (kvc_ite (kvc_some (KEC.of rfl rfl)) (kvc_ite (kvc_ite (kvc_st (KEC.of rfl rfl) (hK (RS.setI σ 10 (410 + x4)) (x4 + 1))) (kvc_st (KEC.of rfl rfl) (hK (RS.setI σ 10 (σ.i 10)) (x4 + 1)))) kvc_none))
theorem krc_f_X12_readName_260 (N : Nat) : ∀ (n : Nat) (σ : RS) (y0 : Int32), KVc σ (f_X12_readName_260 N n σ y0)
  | 0, _, _ => kvc_none
  | n+1, σ, y0 => krc_b_X12_readName_260 N (f_X12_readName_260 N n) (fun σ y0 => krc_f_X12_readName_260 N n σ y0) σ y0
theorem krc_f_X12_readName_257 (N : Nat) (σ : RS) : KVc σ (f_X12_readName_257 N σ) := by
  unfold f_X12_readName_257
  exact (kvc_st (KEC.of rfl rfl) (krc_f_X12_readName_260 N N σ 0))
theorem krc_f_X12_readName_254 (N : Nat) (σ : RS) : KVc σ (f_X12_readName_254 N σ) := by
  unfold f_X12_readName_254
  exact (kvc_some (KEC.of rfl rfl))
theorem krc_f_X12_readName_220 (N : Nat) (σ : RS) (x1 : Int32) (x3 : Int32) : KVc σ (f_X12_readName_220 N σ x1 x3) := by
  unfold f_X12_readName_220
  exact (kvc_ite (kvc_st (KEC.of rfl rfl) (krc_f_X12_readName_254 N (RS.setI (RS.setI σ 10 5) 14 x3))) (kvc_bind (krc_st (KEC.of rfl rfl) (krc_f_X12_at N (RS.setI σ 10 5) ((σ.i 11) + 2))) (fun p32 => (kvc_st (KEC.of rfl rfl) (krc_f_X12_readName_254 N (RS.setI p32.2 14 ((10 + p32.1) - 48)))))))
theorem krc_f_X12_readName_189 (N : Nat) (σ : RS) (x1 : Int32) (x3 : Int32) : KVc σ (f_X12_readName_189 N σ x1 x3) := by
  unfold f_X12_readName_189
  exact (kvc_ite (kvc_ite (kvc_bind (krc_st (KEC.of rfl rfl) (krc_f_X12_at N σ ((σ.i 11) + 2))) (fun p26 => (kvc_bind (krc_st (KEC.of rfl rfl) (krc_f_X12_in N p26.2 (p26.1 - 48) 0 1)) (fun p28 => (kvc_ite (kvc_st (KEC.of rfl rfl) (krc_f_X12_readName_257 N p28.2)) (kvc_st (KEC.of rfl rfl) (krc_f_X12_readName_220 N p28.2 x1 x3))))))) (kvc_st (KEC.of rfl rfl) (krc_f_X12_readName_257 N σ))) (kvc_st (KEC.of rfl rfl) (krc_f_X12_readName_257 N σ)))
theorem krc_f_X12_readName_168 (N : Nat) (σ : RS) (x1 : Int32) (x2 : Int32) (x3 : Int32) : KVc σ (f_X12_readName_168 N σ x1 x2 x3) := by
  unfold f_X12_readName_168
  exact (kvc_ite (kvc_ite (kvc_bind (krc_st (KEC.of rfl rfl) (krc_f_X12_in N σ x3 0 9)) (fun p34 => (kvc_ite (kvc_st (KEC.of rfl rfl) (krc_f_X12_readName_189 N p34.2 x1 x3)) (kvc_st (KEC.of rfl rfl) (krc_f_X12_readName_220 N p34.2 x1 x3))))) (kvc_st (KEC.of rfl rfl) (krc_f_X12_readName_189 N σ x1 x3))) (kvc_st (KEC.of rfl rfl) (krc_f_X12_readName_257 N σ)))
theorem krc_f_X12_readName_160 (N : Nat) (σ : RS) (x3 : Int32) : KVc σ (f_X12_readName_160 N σ x3) := by
  unfold f_X12_readName_160
  exact (kvc_some (KEC.of rfl rfl))
theorem krc_f_X12_readName_135 (N : Nat) (σ : RS) (x1 : Int32) (x2 : Int32) (x3 : Int32) : KVc σ (f_X12_readName_135 N σ x1 x2 x3) := by
  unfold f_X12_readName_135
  exact (kvc_bind (krc_st (KEC.of rfl rfl) (krc_f_X12_in N σ x3 0 7)) (fun p38 => (kvc_ite (kvc_st (KEC.of rfl rfl) (krc_f_X12_readName_168 N p38.2 x1 x2 x3)) (kvc_ite (kvc_st (KEC.of rfl rfl) (krc_f_X12_readName_160 N (RS.setI p38.2 10 3) x3)) (kvc_st (KEC.of rfl rfl) (krc_f_X12_readName_160 N (RS.setI p38.2 10 4) x3))))))
theorem krc_b_X12_readName_5 (N : Nat) (K : RS → Option (RS)) (hK : ∀ (σ : RS), KVc σ (K σ)) (σ : RS) : KVc σ (b_X12_readName_5 N K σ) := by
  unfold b_X12_readName_5
  exact (kvc_bind (krc_st (KEC.of rfl rfl) (krc_f_X12_at N σ (σ.i 12))) (fun p1 => (kvc_bind (krc_st (KEC.of rfl rfl) (krc_f_X12_isLetter N p1.2 p1.1)) (fun p3 => (kvc_ite (kvc_bind (krc_st (KEC.of rfl rfl) (krc_f_X12_at N p3.2 (p3.2.i 12))) (fun p8 => (kvc_bind (krc_st (KEC.of rfl rfl) (krc_f_X12_isDigit N p8.2 p8.1)) (fun p10 => (kvc_ite (kvc_ite (kvc_bind (krc_st (KEC.of rfl rfl) (krc_f_X12_at N p10.2 (p10.2.i 11))) (fun p14 => (kvc_bind (krc_st (KEC.of rfl rfl) (krc_f_X12_at N p14.2 ((p14.2.i 11) + 1))) (fun p16 => (kvc_ite (kvc_ite (kvc_st (KEC.of rfl rfl) (krc_f_X12_readName_135 N (RS.setI p16.2 10 2) ((p10.2.i 12) - (p10.2.i 11)) p14.1 (p16.1 - 48))) (kvc_ite (kvc_st (KEC.of rfl rfl) (krc_f_X12_readName_135 N (RS.setI p16.2 10 2) ((p10.2.i 12) - (p10.2.i 11)) p14.1 (p16.1 - 48))) (kvc_st (KEC.of rfl rfl) (krc_f_X12_readName_168 N (RS.setI p16.2 10 2) ((p10.2.i 12) - (p10.2.i 11)) p14.1 (p16.1 - 48))))) (kvc_st (KEC.of rfl rfl) (krc_f_X12_readName_168 N (RS.setI p16.2 10 2) ((p10.2.i 12) - (p10.2.i 11)) p14.1 (p16.1 - 48)))))))) (kvc_some (KEC.of rfl rfl))) (kvc_bind (krc_st (KEC.of rfl rfl) (krc_f_X12_at N p10.2 (p10.2.i 12))) (fun p43 => (kvc_st (KEC.of rfl rfl) (hK (RS.setI (RS.setL p43.2 ((p10.2.l <<< ((8 : Int32).toInt64 &&& 63)) ||| (p43.1 : Int32).toInt64)) 12 ((p43.2.i 12) + 1))))))))))) (kvc_bind (krc_st (KEC.of rfl rfl) (krc_f_X12_at N p3.2 (p3.2.i 12))) (fun p6 => (kvc_st (KEC.of rfl rfl) (hK (RS.setI (RS.setL p6.2 ((p3.2.l <<< ((8 : Int32).toInt64 &&& 63)) ||| (p6.1 : Int32).toInt64)) 12 ((p6.2.i 12) + 1)))))))))))
theorem krc_f_X12_readName_5 (N : Nat) : ∀ (n : Nat) (σ : RS), KVc σ (f_X12_readName_5 N n σ )
  | 0, _ => kvc_none
  | n+1, σ => krc_b_X12_readName_5 N (f_X12_readName_5 N n) (fun σ => krc_f_X12_readName_5 N n σ) σ
theorem krc_f_X12_readName (N : Nat) (σ : RS) : KVc σ (f_X12_readName N σ) := by
  unfold f_X12_readName
  exact (kvc_st (KEC.of rfl rfl) (krc_f_X12_readName_5 N N (RS.setL σ 0)))
theorem krc_f_X12_readSign_306 (N : Nat) (σ : RS) (x1 : Int32) (x4 : Int32) : KVc σ (f_X12_readSign_306 N σ x1 x4) := by
  unfold f_X12_readSign_306
  exact (kvc_ite (kvc_some (KEC.of rfl rfl)) (kvc_some (KEC.of rfl rfl)))
theorem krc_f_X12_readSign_299 (N : Nat) (σ : RS) (x1 : Int32) : KVc σ (f_X12_readSign_299 N σ x1) := by
  unfold f_X12_readSign_299
  exact (kvc_st (KEC.of rfl rfl) (krc_f_X12_readSign_306 N σ x1 1))
theorem krc_f_X12_readSign_165 (N : Nat) (σ : RS) (x1 : Int32) (x3 : Int32) : KVc σ (f_X12_readSign_165 N σ x1 x3) := by
  unfold f_X12_readSign_165
  exact (kvc_ite (kvc_ite (kvc_st (KEC.of rfl rfl) (krc_f_X12_readSign_299 N σ x1)) (kvc_ite (kvc_st (KEC.of rfl rfl) (krc_f_X12_readSign_299 N σ x1)) (kvc_ite (kvc_st (KEC.of rfl rfl) (krc_f_X12_readSign_299 N σ x1)) (kvc_ite (kvc_st (KEC.of rfl rfl) (krc_f_X12_readSign_299 N σ x1)) (kvc_ite (kvc_st (KEC.of rfl rfl) (krc_f_X12_readSign_299 N σ x1)) (kvc_ite (kvc_st (KEC.of rfl rfl) (krc_f_X12_readSign_299 N σ x1)) (kvc_ite (kvc_st (KEC.of rfl rfl) (krc_f_X12_readSign_299 N σ x1)) (kvc_ite (kvc_st (KEC.of rfl rfl) (krc_f_X12_readSign_299 N σ x1)) (kvc_ite (kvc_st (KEC.of rfl rfl) (krc_f_X12_readSign_299 N σ x1)) (kvc_ite (kvc_st (KEC.of rfl rfl) (krc_f_X12_readSign_299 N σ x1)) (kvc_ite (kvc_st (KEC.of rfl rfl) (krc_f_X12_readSign_299 N σ x1)) (kvc_ite (kvc_st (KEC.of rfl rfl) (krc_f_X12_readSign_299 N σ x1)) (kvc_ite (kvc_st (KEC.of rfl rfl) (krc_f_X12_readSign_299 N σ x1)) (kvc_ite (kvc_st (KEC.of rfl rfl) (krc_f_X12_readSign_299 N σ x1)) (kvc_ite (kvc_st (KEC.of rfl rfl) (krc_f_X12_readSign_299 N σ x1)) (kvc_ite (kvc_st (KEC.of rfl rfl) (krc_f_X12_readSign_299 N σ x1)) (kvc_ite (kvc_st (KEC.of rfl rfl) (krc_f_X12_readSign_299 N σ x1)) (kvc_ite (kvc_st (KEC.of rfl rfl) (krc_f_X12_readSign_299 N σ x1)) (kvc_ite (kvc_st (KEC.of rfl rfl) (krc_f_X12_readSign_299 N σ x1)) (kvc_st (KEC.of rfl rfl) (krc_f_X12_readSign_306 N σ x1 0))))))))))))))))))))) (kvc_some (KEC.of rfl rfl)))
theorem krc_f_X12_readSign_163 (N : Nat) (σ : RS) (x1 : Int32) : KVc σ (f_X12_readSign_163 N σ x1) := by
  unfold f_X12_readSign_163
  exact (kvc_st (KEC.of rfl rfl) (krc_f_X12_readSign_165 N σ x1 0))
theorem krc_f_X12_readSign_145 (N : Nat) (σ : RS) (x1 : Int32) (x2 : Int32) : KVc σ (f_X12_readSign_145 N σ x1 x2) := by
  unfold f_X12_readSign_145
  exact (kvc_ite (kvc_ite (kvc_st (KEC.of rfl rfl) (krc_f_X12_readSign_165 N σ x1 307)) (kvc_st (KEC.of rfl rfl) (krc_f_X12_readSign_163 N σ x1))) (kvc_st (KEC.of rfl rfl) (krc_f_X12_readSign_163 N σ x1)))
theorem krc_f_X12_readSign_127 (N : Nat) (σ : RS) (x1 : Int32) (x2 : Int32) : KVc σ (f_X12_readSign_127 N σ x1 x2) := by
  unfold f_X12_readSign_127
  exact (kvc_ite (kvc_ite (kvc_st (KEC.of rfl rfl) (krc_f_X12_readSign_165 N σ x1 306)) (kvc_st (KEC.of rfl rfl) (krc_f_X12_readSign_145 N σ x1 x2))) (kvc_st (KEC.of rfl rfl) (krc_f_X12_readSign_145 N σ x1 x2)))
theorem krc_f_X12_readSign_109 (N : Nat) (σ : RS) (x1 : Int32) (x2 : Int32) : KVc σ (f_X12_readSign_109 N σ x1 x2) := by
  unfold f_X12_readSign_109
  exact (kvc_ite (kvc_ite (kvc_st (KEC.of rfl rfl) (krc_f_X12_readSign_165 N σ x1 305)) (kvc_st (KEC.of rfl rfl) (krc_f_X12_readSign_127 N σ x1 x2))) (kvc_st (KEC.of rfl rfl) (krc_f_X12_readSign_127 N σ x1 x2)))
theorem krc_f_X12_readSign_91 (N : Nat) (σ : RS) (x1 : Int32) (x2 : Int32) : KVc σ (f_X12_readSign_91 N σ x1 x2) := by
  unfold f_X12_readSign_91
  exact (kvc_ite (kvc_ite (kvc_st (KEC.of rfl rfl) (krc_f_X12_readSign_165 N σ x1 304)) (kvc_st (KEC.of rfl rfl) (krc_f_X12_readSign_109 N σ x1 x2))) (kvc_st (KEC.of rfl rfl) (krc_f_X12_readSign_109 N σ x1 x2)))
theorem krc_f_X12_readSign_73 (N : Nat) (σ : RS) (x1 : Int32) (x2 : Int32) : KVc σ (f_X12_readSign_73 N σ x1 x2) := by
  unfold f_X12_readSign_73
  exact (kvc_ite (kvc_ite (kvc_st (KEC.of rfl rfl) (krc_f_X12_readSign_165 N σ x1 303)) (kvc_st (KEC.of rfl rfl) (krc_f_X12_readSign_91 N σ x1 x2))) (kvc_st (KEC.of rfl rfl) (krc_f_X12_readSign_91 N σ x1 x2)))
theorem krc_f_X12_readSign_55 (N : Nat) (σ : RS) (x1 : Int32) (x2 : Int32) : KVc σ (f_X12_readSign_55 N σ x1 x2) := by
  unfold f_X12_readSign_55
  exact (kvc_ite (kvc_ite (kvc_st (KEC.of rfl rfl) (krc_f_X12_readSign_165 N σ x1 302)) (kvc_st (KEC.of rfl rfl) (krc_f_X12_readSign_73 N σ x1 x2))) (kvc_st (KEC.of rfl rfl) (krc_f_X12_readSign_73 N σ x1 x2)))
theorem krc_f_X12_readSign_37 (N : Nat) (σ : RS) (x1 : Int32) (x2 : Int32) : KVc σ (f_X12_readSign_37 N σ x1 x2) := by
  unfold f_X12_readSign_37
  exact (kvc_ite (kvc_ite (kvc_st (KEC.of rfl rfl) (krc_f_X12_readSign_165 N σ x1 301)) (kvc_st (KEC.of rfl rfl) (krc_f_X12_readSign_55 N σ x1 x2))) (kvc_st (KEC.of rfl rfl) (krc_f_X12_readSign_55 N σ x1 x2)))
theorem krc_f_X12_readSign (N : Nat) (σ : RS) (x1 : Int32) : KVc σ (f_X12_readSign N σ x1) := by
  unfold f_X12_readSign
  exact (kvc_bind (krc_st (KEC.of rfl rfl) (krc_f_X12_at N (RS.setI σ 12 ((σ.i 12) + 1)) ((σ.i 12) + 1))) (fun p1 => (kvc_ite (kvc_ite (kvc_st (KEC.of rfl rfl) (krc_f_X12_readSign_165 N p1.2 x1 300)) (kvc_st (KEC.of rfl rfl) (krc_f_X12_readSign_37 N p1.2 x1 p1.1))) (kvc_st (KEC.of rfl rfl) (krc_f_X12_readSign_37 N p1.2 x1 p1.1)))))
theorem krc_f_X12_next_211 (N : Nat) (σ : RS) : KVc σ (f_X12_next_211 N σ) := by
  unfold f_X12_next_211
  exact (kvc_some (KEC.of rfl rfl))
theorem krc_b_X12_next_116 (N : Nat) (K : RS → Option (RS)) (hK : ∀ (σ : RS), KVc σ (K σ)) (σ : RS) : KVc σ (b_X12_next_116 N K σ) := by
  unfold b_X12_next_116
  exact (kvc_bind (krc_st (KEC.of rfl rfl) (krc_f_X12_at N σ (σ.i 12))) (fun p16 => (kvc_bind (krc_st (KEC.of rfl rfl) (krc_f_X12_isDigit N p16.2 p16.1)) (fun p18 => (kvc_ite (kvc_ite (kvc_st (KEC.of rfl rfl) (krc_f_X12_next_211 N (RS.setI p18.2 10 1))) (kvc_st (KEC.of rfl rfl) (krc_f_X12_next_211 N (RS.setI p18.2 10 6)))) (kvc_ite (kvc_st (KEC.of rfl rfl) (hK (RS.setI (RS.setI p18.2 14 (p18.2.i 14)) 12 ((p18.2.i 12) + 1)))) (kvc_bind (krc_st (KEC.of rfl rfl) (krc_f_X12_at N p18.2 (p18.2.i 12))) (fun p23 => (kvc_st (KEC.of rfl rfl) (hK (RS.setI (RS.setI p23.2 14 (((10 * (p18.2.i 14)) + p23.1) - 48)) 12 ((p23.2.i 12) + 1))))))))))))
theorem krc_f_X12_next_116 (N : Nat) : ∀ (n : Nat) (σ : RS), KVc σ (f_X12_next_116 N n σ )
  | 0, _ => kvc_none
  | n+1, σ => krc_b_X12_next_116 N (f_X12_next_116 N n) (fun σ => krc_f_X12_next_116 N n σ) σ
theorem krc_f_X12_next_68 (N : Nat) (σ : RS) : KVc σ (f_X12_next_68 N σ) := by
  unfold f_X12_next_68
  exact (kvc_bind (krc_st (KEC.of rfl rfl) (krc_f_X12_at N (RS.setI σ 11 (σ.i 12)) (σ.i 12))) (fun p3 => (kvc_ite (kvc_some (KEC.of rfl rfl)) (kvc_bind (krc_st (KEC.of rfl rfl) (krc_f_X12_isDigit N p3.2 p3.1)) (fun p6 => (kvc_ite (kvc_bind (krc_st (KEC.of rfl rfl) (krc_f_X12_isLetter N p6.2 p3.1)) (fun p9 => (kvc_ite (kvc_bindv (kvc_st (KEC.of rfl rfl) (krc_f_X12_readSign N p9.2 p3.1)) (fun p12 => (kvc_some (KEC.of rfl rfl)))) (kvc_bindv (kvc_st (KEC.of rfl rfl) (krc_f_X12_readName N p9.2)) (fun p14 => (kvc_some (KEC.of rfl rfl))))))) (kvc_st (KEC.of rfl rfl) (krc_f_X12_next_116 N N (RS.setI p6.2 14 0)))))))))
theorem krc_b_X12_next_18 (N : Nat) (K : RS → Option (RS)) (hK : ∀ (σ : RS), KVc σ (K σ)) (σ : RS) : KVc σ (b_X12_next_18 N K σ) := by
  unfold b_X12_next_18
  exact (kvc_ite (kvc_st (KEC.of rfl rfl) (krc_f_X12_next_68 N σ)) (kvc_bind (krc_st (KEC.of rfl rfl) (krc_f_X12_at N σ (σ.i 12))) (fun p25 => (kvc_ite (kvc_st (KEC.of rfl rfl) (hK (RS.setI p25.2 12 ((p25.2.i 12) + 1)))) (kvc_bind (krc_st (KEC.of rfl rfl) (krc_f_X12_at N p25.2 (p25.2.i 12))) (fun p28 => (kvc_ite (kvc_st (KEC.of rfl rfl) (hK (RS.setI p28.2 12 ((p28.2.i 12) + 1)))) (kvc_st (KEC.of rfl rfl) (krc_f_X12_next_68 N p28.2)))))))))
theorem krc_f_X12_next_18 (N : Nat) : ∀ (n : Nat) (σ : RS), KVc σ (f_X12_next_18 N n σ )
  | 0, _ => kvc_none
  | n+1, σ => krc_b_X12_next_18 N (f_X12_next_18 N n) (fun σ => krc_f_X12_next_18 N n σ) σ
theorem krc_f_X12_next (N : Nat) (σ : RS) : KVc σ (f_X12_next N σ) := by
  unfold f_X12_next
  exact (kvc_ite (kvc_st (KEC.of rfl rfl) (krc_f_X12_next_18 N N (RS.setI σ 17 ((σ.i 17) + 1)))) (kvc_some (KEC.of rfl rfl)))
theorem krc_f_X12_fail (N : Nat) (σ : RS) (x1 : Int32) (x2 : Int32) : KVc σ (f_X12_fail N σ x1 x2) := by
  unfold f_X12_fail
  exact (kvc_ite (kvc_some (KEC.of rfl rfl)) (kvc_some (KEC.of rfl rfl)))
theorem krc_f_X12_note (N : Nat) (σ : RS) (x1 : Int32) : KVc σ (f_X12_note N σ x1) := by
  unfold f_X12_note
  exact (kvc_ite (kvc_ite (kvc_some (KEC.of rfl rfl)) (kvc_some (KEC.of rfl rfl))) (kvc_some (KEC.of rfl rfl)))
theorem krc_f_X12_can_42 (N : Nat) (σ : RS) : KRc σ (f_X12_can_42 N σ) := by
  unfold f_X12_can_42
  exact (krc_ite (krc_some (KEC.of rfl rfl)) (krc_some (KEC.of rfl rfl)))
theorem krc_f_X12_can_20 (N : Nat) (σ : RS) : KRc σ (f_X12_can_20 N σ) := by
  unfold f_X12_can_20
  exact (krc_ite (krc_bindv (kvc_st (KEC.of rfl rfl) (krc_f_X12_fail N σ 1 (σ.i 11))) (fun p7 => (krc_st (KEC.of rfl rfl) (krc_f_X12_can_42 N p7)))) (krc_bindv (kvc_st (KEC.of rfl rfl) (krc_f_X12_fail N σ 2 (σ.i 11))) (fun p5 => (krc_st (KEC.of rfl rfl) (krc_f_X12_can_42 N p5)))))
theorem krc_f_X12_can (N : Nat) (σ : RS) (x1 : Int32) : KRc σ (f_X12_can N σ x1) := by
  unfold f_X12_can
  exact (krc_ite (krc_ite (krc_st (KEC.of rfl rfl) (krc_f_X12_can_20 N σ)) (krc_ite (krc_st (KEC.of rfl rfl) (krc_f_X12_can_20 N σ)) (krc_st (KEC.of rfl rfl) (krc_f_X12_can_42 N σ)))) (krc_st (KEC.of rfl rfl) (krc_f_X12_can_42 N σ)))
theorem krc_f_X12_need_31 (N : Nat) (σ : RS) : KRc σ (f_X12_need_31 N σ) := by
  unfold f_X12_need_31
  exact (krc_ite (krc_some (KEC.of rfl rfl)) (krc_some (KEC.of rfl rfl)))
theorem krc_f_X12_need_27 (N : Nat) (σ : RS) : KRc σ (f_X12_need_27 N σ) := by
  unfold f_X12_need_27
  exact (krc_bindv (kvc_st (KEC.of rfl rfl) (krc_f_X12_next N σ)) (fun p7 => (krc_st (KEC.of rfl rfl) (krc_f_X12_need_31 N p7))))
theorem krc_f_X12_need (N : Nat) (σ : RS) (x1 : Int32) : KRc σ (f_X12_need N σ x1) := by
  unfold f_X12_need
  exact (krc_ite (krc_ite (krc_bind (krc_st (KEC.of rfl rfl) (krc_f_X12_can N σ 1)) (fun p9 => (krc_ite (krc_st (KEC.of rfl rfl) (krc_f_X12_need_31 N p9.2)) (krc_st (KEC.of rfl rfl) (krc_f_X12_need_27 N p9.2))))) (krc_bind (krc_st (KEC.of rfl rfl) (krc_f_X12_can N σ 0)) (fun p4 => (krc_ite (krc_st (KEC.of rfl rfl) (krc_f_X12_need_31 N p4.2)) (krc_st (KEC.of rfl rfl) (krc_f_X12_need_27 N p4.2)))))) (krc_st (KEC.of rfl rfl) (krc_f_X12_need_31 N σ)))
theorem krc_f_X12_opens_29 (N : Nat) (σ : RS) : KRc σ (f_X12_opens_29 N σ) := by
  unfold f_X12_opens_29
  exact (krc_ite (krc_some (KEC.of rfl rfl)) (krc_some (KEC.of rfl rfl)))
theorem krc_f_X12_opens (N : Nat) (σ : RS) : KRc σ (f_X12_opens N σ) := by
  unfold f_X12_opens
  exact (krc_ite (krc_st (KEC.of rfl rfl) (krc_f_X12_opens_29 N (RS.setI σ 19 ((σ.i 19) + 1)))) (krc_bindv (kvc_st (KEC.of rfl rfl) (krc_f_X12_fail N (RS.setI σ 19 ((σ.i 19) + 1)) 6 (σ.i 11))) (fun p3 => (krc_st (KEC.of rfl rfl) (krc_f_X12_opens_29 N p3)))))
theorem krc_f_X12_open_38 (N : Nat) (σ : RS) : KRc σ (f_X12_open_38 N σ) := by
  unfold f_X12_open_38
  exact (krc_ite (krc_some (KEC.of rfl rfl)) (krc_some (KEC.of rfl rfl)))
theorem krc_f_X12_open_27 (N : Nat) (σ : RS) : KRc σ (f_X12_open_27 N σ) := by
  unfold f_X12_open_27
  exact (krc_bind (krc_st (KEC.of rfl rfl) (krc_f_X12_opens N σ)) (fun p7 => (krc_ite (krc_st (KEC.of rfl rfl) (krc_f_X12_open_38 N p7.2)) (krc_bindv (kvc_st (KEC.of rfl rfl) (krc_f_X12_next N p7.2)) (fun p10 => (krc_st (KEC.of rfl rfl) (krc_f_X12_open_38 N p10)))))))
theorem krc_f_X12_open (N : Nat) (σ : RS) (x1 : Int32) : KRc σ (f_X12_open N σ x1) := by
  unfold f_X12_open
  exact (krc_ite (krc_ite (krc_bind (krc_st (KEC.of rfl rfl) (krc_f_X12_can N σ 1)) (fun p12 => (krc_ite (krc_st (KEC.of rfl rfl) (krc_f_X12_open_38 N p12.2)) (krc_st (KEC.of rfl rfl) (krc_f_X12_open_27 N p12.2))))) (krc_bind (krc_st (KEC.of rfl rfl) (krc_f_X12_can N σ 0)) (fun p4 => (krc_ite (krc_st (KEC.of rfl rfl) (krc_f_X12_open_38 N p4.2)) (krc_st (KEC.of rfl rfl) (krc_f_X12_open_27 N p4.2)))))) (krc_st (KEC.of rfl rfl) (krc_f_X12_open_38 N σ)))
theorem krc_f_X12_shut_18 (N : Nat) (σ : RS) : KRc σ (f_X12_shut_18 N σ) := by
  unfold f_X12_shut_18
  exact (krc_ite (krc_some (KEC.of rfl rfl)) (krc_some (KEC.of rfl rfl)))
theorem krc_f_X12_shut (N : Nat) (σ : RS) (x1 : Int32) : KRc σ (f_X12_shut N σ x1) := by
  unfold f_X12_shut
  exact (krc_bind (krc_st (KEC.of rfl rfl) (krc_f_X12_need N σ x1)) (fun p1 => (krc_ite (krc_st (KEC.of rfl rfl) (krc_f_X12_shut_18 N p1.2)) (krc_st (KEC.of rfl rfl) (krc_f_X12_shut_18 N (RS.setI p1.2 19 ((p1.2.i 19) - 1)))))))
theorem krc_f_X12_emit (N : Nat) (σ : RS) (x1 : Int32) (x2 : Int32) : KRc σ (f_X12_emit N σ x1 x2) := by
  intro R e a b
  have e3 : (3000 : Int32).toInt = 3000 := by decide
  unfold f_X12_emit f_X12_emit_21 at e
  by_cases c : (3000 : Int32) ≤ σ.i 20
  · rw [if_pos c] at e
    obtain ⟨-, e⟩ := hf_ite e
    cases e
    have l := le_int c
    refine ⟨⟨?_, ?_⟩, fun j hj hk => ?_⟩
    · show (σ.i 20).toInt ≤ ((2999 : Int32) + 1).toInt
      have : ((2999 : Int32) + 1).toInt = 3000 := by decide
      omega
    · show ((2999 : Int32) + 1).toInt ≤ 3000
      decide
    · show upd (σ.a 21) _ x1 j = σ.a 21 j
      have z : ((2999 : Int32)).toNatClampNeg = 2999 := by decide
      exact if_neg (by rw [z]; omega)
  · rw [if_neg c] at e
    obtain ⟨hib, e⟩ := hf_ite e
    cases e
    have l := lt_int (Int32.not_le.mp c)
    have e1 : (1 : Int32).toInt = 1 := by decide
    have z : (σ.i 20 + 1).toInt = (σ.i 20).toInt + 1 := by rw [toInt_add] <;> rw [e1] <;> omega
    refine ⟨⟨?_, ?_⟩, fun j hj hk => ?_⟩
    · show (σ.i 20).toInt ≤ (σ.i 20 + 1).toInt
      omega
    · show (σ.i 20 + 1).toInt ≤ 3000
      omega
    · show upd (σ.a 21) _ x1 j = σ.a 21 j
      exact if_neg (by have := clampI hib.1; omega)
theorem krc_b_X12_seenAs_7 (N : Nat) (K : RS → Int64 → Int32 → Option (Int32 × RS)) (hK : ∀ (σ : RS) (y0 : Int64) (y1 : Int32), KRc σ (K σ y0 y1)) (σ : RS) (x1 : Int64) (x3 : Int32) : KRc σ (b_X12_seenAs_7 N K σ x1 x3) := by
  unfold b_X12_seenAs_7
  exact (krc_ite (krc_some (KEC.of rfl rfl)) (krc_ite (krc_ite (krc_some (KEC.of rfl rfl)) (krc_st (KEC.of rfl rfl) (hK σ x1 (x3 + (-1))))) krc_none))
theorem krc_f_X12_seenAs_7 (N : Nat) : ∀ (n : Nat) (σ : RS) (y0 : Int64) (y1 : Int32), KRc σ (f_X12_seenAs_7 N n σ y0 y1)
  | 0, _, _, _ => krc_none
  | n+1, σ, y0, y1 => krc_b_X12_seenAs_7 N (f_X12_seenAs_7 N n) (fun σ y0 y1 => krc_f_X12_seenAs_7 N n σ y0 y1) σ y0 y1
theorem krc_f_X12_seenAs (N : Nat) (σ : RS) (x1 : Int64) : KRc σ (f_X12_seenAs N σ x1) := by
  unfold f_X12_seenAs
  exact (krc_st (KEC.of rfl rfl) (krc_f_X12_seenAs_7 N N σ x1 ((σ.i 38) - 1)))
theorem krc_f_X12_see (N : Nat) (σ : RS) (x1 : Int64) (x3 : Int32) : KRc σ (f_X12_see N σ x1 x3) := by
  unfold f_X12_see
  exact (krc_ite (krc_some (KEC.of rfl rfl)) krc_none)
theorem krc_f_X12_goal (N : Nat) (σ : RS) (x1 : Int32) (x2 : Int64) : KRc σ (f_X12_goal N σ x1 x2) := by
  unfold f_X12_goal
  exact (krc_ite (krc_some (KEC.of rfl rfl)) krc_none)
theorem krc_f_X12_loopGoal_49 (N : Nat) (σ : RS) (x1 : Int32) : KRc σ (f_X12_loopGoal_49 N σ x1) := by
  unfold f_X12_loopGoal_49
  exact (krc_some (KEC.of rfl rfl))
theorem krc_b_X12_loopGoal_11 (N : Nat) (K : RS → Int32 → Int32 → Option (Int32 × RS)) (hK : ∀ (σ : RS) (y0 : Int32) (y1 : Int32), KRc σ (K σ y0 y1)) (σ : RS) (x1 : Int32) (x2 : Int32) : KRc σ (b_X12_loopGoal_11 N K σ x1 x2) := by
  unfold b_X12_loopGoal_11
  exact (krc_ite (krc_st (KEC.of rfl rfl) (krc_f_X12_loopGoal_49 N σ x1)) (krc_ite (krc_ite (krc_ite (krc_st (KEC.of rfl rfl) (hK (RS.setA σ 46 ((x2 : Int32).toNatClampNeg) x1) x1 (x2 + (-1)))) (krc_st (KEC.of rfl rfl) (krc_f_X12_loopGoal_49 N σ x1))) (krc_st (KEC.of rfl rfl) (krc_f_X12_loopGoal_49 N σ x1))) krc_none))
theorem krc_f_X12_loopGoal_11 (N : Nat) : ∀ (n : Nat) (σ : RS) (y0 : Int32) (y1 : Int32), KRc σ (f_X12_loopGoal_11 N n σ y0 y1)
  | 0, _, _, _ => krc_none
  | n+1, σ, y0, y1 => krc_b_X12_loopGoal_11 N (f_X12_loopGoal_11 N n) (fun σ y0 y1 => krc_f_X12_loopGoal_11 N n σ y0 y1) σ y0 y1
theorem krc_f_X12_loopGoal (N : Nat) (σ : RS) : KRc σ (f_X12_loopGoal N σ) := by
  unfold f_X12_loopGoal
  exact (krc_bind (krc_st (KEC.of rfl rfl) (krc_f_X12_goal N σ 0 0)) (fun p1 => (krc_st (KEC.of rfl rfl) (krc_f_X12_loopGoal_11 N N p1.2 p1.1 (p1.1 - 1)))))
theorem krc_b_X12_patch_2 (N : Nat) (K : RS → Int32 → Int32 → Option (RS)) (hK : ∀ (σ : RS) (y0 : Int32) (y1 : Int32), KVc σ (K σ y0 y1)) (σ : RS) (x2 : Int32) (x3 : Int32) : KVc σ (b_X12_patch_2 N K σ x2 x3) := by
  unfold b_X12_patch_2
  exact (kvc_ite (kvc_some (KEC.of rfl rfl)) (kvc_ite (kvc_st (KEC.of rfl rfl) (hK (RS.setA σ 22 ((x3 : Int32).toNatClampNeg) x2) x2 (σ.a 22 ((x3 : Int32).toNatClampNeg)))) kvc_none))
theorem krc_f_X12_patch_2 (N : Nat) : ∀ (n : Nat) (σ : RS) (y0 : Int32) (y1 : Int32), KVc σ (f_X12_patch_2 N n σ y0 y1)
  | 0, _, _, _ => kvc_none
  | n+1, σ, y0, y1 => krc_b_X12_patch_2 N (f_X12_patch_2 N n) (fun σ y0 y1 => krc_f_X12_patch_2 N n σ y0 y1) σ y0 y1
theorem krc_f_X12_patch (N : Nat) (σ : RS) (x1 : Int32) (x2 : Int32) : KVc σ (f_X12_patch N σ x1 x2) := by
  unfold f_X12_patch
  exact (kvc_st (KEC.of rfl rfl) (krc_f_X12_patch_2 N N σ x2 x1))
theorem krc_f_X12_goes (N : Nat) (σ : RS) (x1 : Int32) (x2 : Int32) : KVc σ (f_X12_goes N σ x1 x2) := by
  unfold f_X12_goes
  exact (kvc_ite (kvc_ite (kvc_some (KEC.of rfl rfl)) kvc_none) (kvc_ite (kvc_some (KEC.of rfl rfl)) kvc_none))
theorem krc_f_X12_pend_22 (N : Nat) (σ : RS) (x1 : Int32) (x2 : Int32) : KVc σ (f_X12_pend_22 N σ x1 x2) := by
  unfold f_X12_pend_22
  exact (kvc_bindv (kvc_st (KEC.of rfl rfl) (krc_f_X12_goes N σ x1 x2)) (fun p2 => (kvc_some (KEC.of rfl rfl))))
theorem krc_f_X12_pend (N : Nat) (σ : RS) (x1 : Int32) (x2 : Int32) : KVc σ (f_X12_pend N σ x1 x2) := by
  unfold f_X12_pend
  exact (kvc_ite (kvc_st (KEC.of rfl rfl) (krc_f_X12_pend_22 N σ x1 x2)) (kvc_ite (kvc_ite (kvc_ite (kvc_some (KEC.of rfl rfl)) kvc_none) (kvc_st (KEC.of rfl rfl) (krc_f_X12_pend_22 N σ x1 x2))) kvc_none))
theorem krc_b_X12_resolve_2 (N : Nat) (K : RS → Int32 → Int32 → Int32 → Option (RS)) (hK : ∀ (σ : RS) (y0 : Int32) (y1 : Int32) (y2 : Int32), KVc σ (K σ y0 y1 y2)) (σ : RS) (x1 : Int32) (x2 : Int32) (x3 : Int32) : KVc σ (b_X12_resolve_2 N K σ x1 x2 x3) := by
  unfold b_X12_resolve_2
  exact (kvc_ite (kvc_some (KEC.of rfl rfl)) (kvc_ite (kvc_ite (kvc_ite (kvc_st (KEC.of rfl rfl) (hK (RS.setA σ 62 ((x3 : Int32).toNatClampNeg) (-1)) x1 x2 (x3 + 1))) (kvc_ite (kvc_bindv (kvc_st (KEC.of rfl rfl) (krc_f_X12_goes N (RS.setA σ 62 ((x3 : Int32).toNatClampNeg) (-1)) (σ.a 60 ((x3 : Int32).toNatClampNeg)) (σ.a 61 ((x3 : Int32).toNatClampNeg)))) (fun p8 => (kvc_st (KEC.of rfl rfl) (hK p8 x1 x2 (x3 + 1))))) (kvc_ite (kvc_ite (kvc_bindv (kvc_st (KEC.of rfl rfl) (krc_f_X12_goes N (RS.setA σ 62 ((x3 : Int32).toNatClampNeg) (-1)) (σ.a 60 ((x3 : Int32).toNatClampNeg)) (σ.a 61 ((x3 : Int32).toNatClampNeg)))) (fun p13 => (kvc_st (KEC.of rfl rfl) (hK p13 x1 x2 (x3 + 1))))) (kvc_st (KEC.of rfl rfl) (hK (RS.setA σ 62 ((x3 : Int32).toNatClampNeg) (σ.a 57 ((((σ.i 56) - 1) : Int32).toNatClampNeg))) x1 x2 (x3 + 1)))) kvc_none))) (kvc_st (KEC.of rfl rfl) (hK σ x1 x2 (x3 + 1)))) kvc_none))
theorem krc_f_X12_resolve_2 (N : Nat) : ∀ (n : Nat) (σ : RS) (y0 : Int32) (y1 : Int32) (y2 : Int32), KVc σ (f_X12_resolve_2 N n σ y0 y1 y2)
  | 0, _, _, _, _ => kvc_none
  | n+1, σ, y0, y1, y2 => krc_b_X12_resolve_2 N (f_X12_resolve_2 N n) (fun σ y0 y1 y2 => krc_f_X12_resolve_2 N n σ y0 y1 y2) σ y0 y1 y2
theorem krc_f_X12_resolve (N : Nat) (σ : RS) (x1 : Int32) (x2 : Int32) : KVc σ (f_X12_resolve N σ x1 x2) := by
  unfold f_X12_resolve
  exact (kvc_st (KEC.of rfl rfl) (krc_f_X12_resolve_2 N N σ x1 x2 0))
theorem krc_f_X12_push (N : Nat) (σ : RS) (x1 : Int32) : KVc σ (f_X12_push N σ x1) := by
  unfold f_X12_push
  exact (kvc_ite (kvc_some (KEC.of rfl rfl)) kvc_none)
theorem krc_f_X12_then (N : Nat) (σ : RS) (x1 : Int32) (x2 : Int32) : KVc σ (f_X12_then N σ x1 x2) := by
  unfold f_X12_then
  exact (kvc_ite (kvc_bindv (kvc_st (KEC.of rfl rfl) (krc_f_X12_push N (RS.setA σ 65 (((σ.i 63) : Int32).toNatClampNeg) x1) x2)) (fun p2 => (kvc_some (KEC.of rfl rfl)))) kvc_none)
theorem krc_f_X12_body_32 (N : Nat) (σ : RS) (x1 : Int32) : KVc σ (f_X12_body_32 N σ x1) := by
  unfold f_X12_body_32
  exact (kvc_bindv (kvc_st (KEC.of rfl rfl) (krc_f_X12_then N σ x1 2)) (fun p5 => (kvc_some (KEC.of rfl rfl))))
theorem krc_f_X12_body (N : Nat) (σ : RS) (x1 : Int32) : KVc σ (f_X12_body N σ x1) := by
  unfold f_X12_body
  exact (kvc_ite (kvc_bind (krc_st (KEC.of rfl rfl) (krc_f_X12_can N σ 0)) (fun p2 => (kvc_ite (kvc_some (KEC.of rfl rfl)) (kvc_st (KEC.of rfl rfl) (krc_f_X12_body_32 N p2.2 x1))))) (kvc_ite (kvc_bind (krc_st (KEC.of rfl rfl) (krc_f_X12_can N σ 0)) (fun p8 => (kvc_ite (kvc_some (KEC.of rfl rfl)) (kvc_st (KEC.of rfl rfl) (krc_f_X12_body_32 N p8.2 x1))))) (kvc_bind (krc_st (KEC.of rfl rfl) (krc_f_X12_can N σ 1)) (fun p11 => (kvc_ite (kvc_some (KEC.of rfl rfl)) (kvc_st (KEC.of rfl rfl) (krc_f_X12_body_32 N p11.2 x1)))))))
theorem krc_f_X12_over (N : Nat) (σ : RS) (x1 : Int32) : KVc σ (f_X12_over N σ x1) := by
  unfold f_X12_over
  exact (kvc_ite (kvc_some (KEC.of rfl rfl)) kvc_none)
theorem krc_f_X12_list_73 (N : Nat) (σ : RS) (x1 : Int32) : KVc σ (f_X12_list_73 N σ x1) := by
  unfold f_X12_list_73
  exact (kvc_ite (kvc_ite (kvc_bindv (kvc_st (KEC.of rfl rfl) (krc_f_X12_over N σ 1)) (fun p9 => (kvc_some (KEC.of rfl rfl)))) (kvc_bindv (kvc_st (KEC.of rfl rfl) (krc_f_X12_over N σ 0)) (fun p7 => (kvc_some (KEC.of rfl rfl))))) kvc_none)
theorem krc_f_X12_list_110 (N : Nat) (σ : RS) : KVc σ (f_X12_list_110 N σ) := by
  unfold f_X12_list_110
  exact (kvc_bindv (kvc_st (KEC.of rfl rfl) (krc_f_X12_then N σ 1 2)) (fun p16 => (kvc_some (KEC.of rfl rfl))))
theorem krc_f_X12_list_37 (N : Nat) (σ : RS) (x1 : Int32) : KVc σ (f_X12_list_37 N σ x1) := by
  unfold f_X12_list_37
  exact (kvc_ite (kvc_st (KEC.of rfl rfl) (krc_f_X12_list_73 N σ x1)) (kvc_ite (kvc_st (KEC.of rfl rfl) (krc_f_X12_list_73 N σ x1)) (kvc_ite (kvc_st (KEC.of rfl rfl) (krc_f_X12_list_73 N σ x1)) (kvc_ite (kvc_st (KEC.of rfl rfl) (krc_f_X12_list_73 N σ x1)) (kvc_ite (kvc_ite (kvc_bindv (kvc_st (KEC.of rfl rfl) (krc_f_X12_note N σ (σ.i 11))) (fun p18 => (kvc_st (KEC.of rfl rfl) (krc_f_X12_list_110 N p18)))) (kvc_st (KEC.of rfl rfl) (krc_f_X12_list_110 N σ))) kvc_none)))))
theorem krc_f_X12_list (N : Nat) (σ : RS) (x1 : Int32) : KVc σ (f_X12_list N σ x1) := by
  unfold f_X12_list
  exact (kvc_ite (kvc_ite (kvc_st (KEC.of rfl rfl) (krc_f_X12_list_37 N (RS.setA σ 66 ((x1 : Int32).toNatClampNeg) 1) x1)) (kvc_ite (kvc_st (KEC.of rfl rfl) (krc_f_X12_list_37 N (RS.setA σ 66 ((x1 : Int32).toNatClampNeg) 0) x1)) (kvc_st (KEC.of rfl rfl) (krc_f_X12_list_37 N (RS.setA σ 66 ((x1 : Int32).toNatClampNeg) 1) x1)))) kvc_none)
theorem krc_f_X12_jump_317 (N : Nat) (σ : RS) : KVc σ (f_X12_jump_317 N σ) := by
  unfold f_X12_jump_317
  exact (kvc_bind (krc_st (KEC.of rfl rfl) (krc_f_X12_need N σ 59)) (fun p18 => (kvc_some (KEC.of rfl rfl))))
theorem krc_f_X12_jump_302 (N : Nat) (σ : RS) (x1 : Int32) (x3 : Int32) (x4 : Int32) : KVc σ (f_X12_jump_302 N σ x1 x3 x4) := by
  unfold f_X12_jump_302
  exact (kvc_bindv (kvc_st (KEC.of rfl rfl) (krc_f_X12_pend N σ x4 x1)) (fun p15 => (kvc_ite (kvc_st (KEC.of rfl rfl) (krc_f_X12_jump_317 N p15)) (kvc_bindv (kvc_st (KEC.of rfl rfl) (krc_f_X12_next N p15)) (fun p20 => (kvc_st (KEC.of rfl rfl) (krc_f_X12_jump_317 N p20)))))))
theorem krc_f_X12_jump_263 (N : Nat) (σ : RS) (x1 : Int32) (x3 : Int32) (x4 : Int32) (x5 : Int32) : KVc σ (f_X12_jump_263 N σ x1 x3 x4 x5) := by
  unfold f_X12_jump_263
  exact (kvc_ite (kvc_ite (kvc_ite (kvc_st (KEC.of rfl rfl) (krc_f_X12_jump_302 N (RS.setA (RS.setA σ 23 ((x5 : Int32).toNatClampNeg) (σ.a 47 ((x4 : Int32).toNatClampNeg))) 49 ((x4 : Int32).toNatClampNeg) x5) x1 x3 x4)) (kvc_st (KEC.of rfl rfl) (krc_f_X12_jump_302 N (RS.setA (RS.setA σ 23 ((x5 : Int32).toNatClampNeg) (σ.a 47 ((x4 : Int32).toNatClampNeg))) 48 ((x4 : Int32).toNatClampNeg) x5) x1 x3 x4))) kvc_none) kvc_none)
theorem krc_f_X12_jump_234 (N : Nat) (σ : RS) (x1 : Int32) (x3 : Int32) (x4 : Int32) : KVc σ (f_X12_jump_234 N σ x1 x3 x4) := by
  unfold f_X12_jump_234
  exact (kvc_ite (kvc_ite (kvc_bind (krc_st (KEC.of rfl rfl) (krc_f_X12_emit N σ 36 (σ.a 49 ((x4 : Int32).toNatClampNeg)))) (fun p10 => (kvc_st (KEC.of rfl rfl) (krc_f_X12_jump_263 N p10.2 x1 x3 x4 p10.1)))) kvc_none) (kvc_ite (kvc_bind (krc_st (KEC.of rfl rfl) (krc_f_X12_emit N σ 36 (σ.a 48 ((x4 : Int32).toNatClampNeg)))) (fun p23 => (kvc_st (KEC.of rfl rfl) (krc_f_X12_jump_263 N p23.2 x1 x3 x4 p23.1)))) kvc_none))
theorem krc_f_X12_jump_171 (N : Nat) (σ : RS) (x1 : Int32) (x2 : Int32) (x3 : Int32) (x4 : Int32) : KVc σ (f_X12_jump_171 N σ x1 x2 x3 x4) := by
  unfold f_X12_jump_171
  exact (kvc_ite (kvc_ite (kvc_st (KEC.of rfl rfl) (krc_f_X12_jump_234 N σ x1 x3 x4)) (kvc_ite (kvc_ite (kvc_ite (kvc_st (KEC.of rfl rfl) (krc_f_X12_jump_234 N σ x1 x3 (σ.a 46 ((x4 : Int32).toNatClampNeg)))) (kvc_bindv (kvc_st (KEC.of rfl rfl) (krc_f_X12_fail N σ 5 (σ.i 11))) (fun p28 => (kvc_some (KEC.of rfl rfl))))) kvc_none) (kvc_st (KEC.of rfl rfl) (krc_f_X12_jump_234 N σ x1 x3 x4)))) (kvc_ite (kvc_bindv (kvc_st (KEC.of rfl rfl) (krc_f_X12_fail N σ 5 x2)) (fun p32 => (kvc_some (KEC.of rfl rfl)))) (kvc_bindv (kvc_st (KEC.of rfl rfl) (krc_f_X12_fail N σ 3 (σ.i 11))) (fun p35 => (kvc_some (KEC.of rfl rfl))))))
theorem krc_b_X12_jump_60 (N : Nat) (K : RS → Int32 → Int32 → Int32 → Int32 → Int32 → Option (RS)) (hK : ∀ (σ : RS) (y0 : Int32) (y1 : Int32) (y2 : Int32) (y3 : Int32) (y4 : Int32), KVc σ (K σ y0 y1 y2 y3 y4)) (σ : RS) (x1 : Int32) (x2 : Int32) (x3 : Int32) (x4 : Int32) (x5 : Int32) : KVc σ (b_X12_jump_60 N K σ x1 x2 x3 x4 x5) := by
  unfold b_X12_jump_60
  exact (kvc_ite (kvc_st (KEC.of rfl rfl) (krc_f_X12_jump_171 N σ x1 x2 x3 x4)) (kvc_ite (kvc_ite (kvc_st (KEC.of rfl rfl) (krc_f_X12_jump_171 N σ x1 x2 x3 x4)) (kvc_ite (kvc_st (KEC.of rfl rfl) (krc_f_X12_jump_171 N σ x1 x2 x3 x4)) (kvc_ite (kvc_ite (kvc_st (KEC.of rfl rfl) (hK σ x1 x2 x3 x5 (x5 + (-1)))) (kvc_ite (kvc_st (KEC.of rfl rfl) (hK σ x1 x2 x3 x4 (x5 + (-1)))) (kvc_ite (kvc_st (KEC.of rfl rfl) (hK σ x1 x2 x3 x5 (x5 + (-1)))) (kvc_st (KEC.of rfl rfl) (hK σ x1 x2 x3 x4 (x5 + (-1))))))) (kvc_ite (kvc_ite (kvc_st (KEC.of rfl rfl) (hK σ x1 x2 x3 x5 (x5 + (-1)))) (kvc_st (KEC.of rfl rfl) (hK σ x1 x2 x3 x4 (x5 + (-1))))) (kvc_st (KEC.of rfl rfl) (hK σ x1 x2 x3 x4 (x5 + (-1)))))))) kvc_none))
theorem krc_f_X12_jump_60 (N : Nat) : ∀ (n : Nat) (σ : RS) (y0 : Int32) (y1 : Int32) (y2 : Int32) (y3 : Int32) (y4 : Int32), KVc σ (f_X12_jump_60 N n σ y0 y1 y2 y3 y4)
  | 0, _, _, _, _, _, _ => kvc_none
  | n+1, σ, y0, y1, y2, y3, y4 => krc_b_X12_jump_60 N (f_X12_jump_60 N n) (fun σ y0 y1 y2 y3 y4 => krc_f_X12_jump_60 N n σ y0 y1 y2 y3 y4) σ y0 y1 y2 y3 y4
theorem krc_f_X12_jump_49 (N : Nat) (σ : RS) (x1 : Int32) (x2 : Int32) (x3 : Int32) : KVc σ (f_X12_jump_49 N σ x1 x2 x3) := by
  unfold f_X12_jump_49
  exact (kvc_st (KEC.of rfl rfl) (krc_f_X12_jump_60 N N σ x1 x2 x3 (-1) ((σ.i 43) - 1)))
theorem krc_f_X12_jump_16 (N : Nat) (σ : RS) (x1 : Int32) : KVc σ (f_X12_jump_16 N σ x1) := by
  unfold f_X12_jump_16
  exact (kvc_bindv (kvc_st (KEC.of rfl rfl) (krc_f_X12_next N (RS.setI σ 55 ((σ.i 55) + 1)))) (fun p2 => (kvc_ite (kvc_st (KEC.of rfl rfl) (krc_f_X12_jump_49 N p2 x1 (σ.i 11) 1)) (kvc_st (KEC.of rfl rfl) (krc_f_X12_jump_49 N p2 x1 (σ.i 11) 0)))))
theorem krc_f_X12_jump (N : Nat) (σ : RS) : KVc σ (f_X12_jump N σ) := by
  unfold f_X12_jump
  exact (kvc_ite (kvc_st (KEC.of rfl rfl) (krc_f_X12_jump_16 N σ 1)) (kvc_st (KEC.of rfl rfl) (krc_f_X12_jump_16 N σ 0)))
theorem krc_f_X12_stat_309 (N : Nat) (σ : RS) : KVc σ (f_X12_stat_309 N σ) := by
  unfold f_X12_stat_309
  exact (kvc_bind (krc_st (KEC.of rfl rfl) (krc_f_X12_emit N σ 1 0)) (fun p10 => (kvc_ite (kvc_bindv (kvc_st (KEC.of rfl rfl) (krc_f_X12_next N p10.2)) (fun p17 => (kvc_bindv (kvc_st (KEC.of rfl rfl) (krc_f_X12_over N p17 1)) (fun p19 => (kvc_some (KEC.of rfl rfl)))))) (kvc_bindv (kvc_st (KEC.of rfl rfl) (krc_f_X12_jump N p10.2)) (fun p13 => (kvc_bindv (kvc_st (KEC.of rfl rfl) (krc_f_X12_over N p13 0)) (fun p15 => (kvc_some (KEC.of rfl rfl)))))))))
theorem krc_f_X12_stat_240 (N : Nat) (σ : RS) (x1 : Int32) : KVc σ (f_X12_stat_240 N σ x1) := by
  unfold f_X12_stat_240
  exact (kvc_ite (kvc_ite (kvc_ite (kvc_bind (krc_st (KEC.of rfl rfl) (krc_f_X12_can N σ 1)) (fun p7 => (kvc_ite (kvc_some (KEC.of rfl rfl)) (kvc_st (KEC.of rfl rfl) (krc_f_X12_stat_309 N p7.2))))) (kvc_ite (kvc_bind (krc_st (KEC.of rfl rfl) (krc_f_X12_can N σ 1)) (fun p22 => (kvc_ite (kvc_some (KEC.of rfl rfl)) (kvc_st (KEC.of rfl rfl) (krc_f_X12_stat_309 N p22.2))))) (kvc_ite (kvc_bind (krc_st (KEC.of rfl rfl) (krc_f_X12_can N σ 1)) (fun p29 => (kvc_ite (kvc_some (KEC.of rfl rfl)) (kvc_st (KEC.of rfl rfl) (krc_f_X12_stat_309 N p29.2))))) (kvc_bind (krc_st (KEC.of rfl rfl) (krc_f_X12_can N σ 0)) (fun p26 => (kvc_ite (kvc_some (KEC.of rfl rfl)) (kvc_st (KEC.of rfl rfl) (krc_f_X12_stat_309 N p26.2)))))))) (kvc_ite (kvc_some (KEC.of rfl rfl)) (kvc_bind (krc_st (KEC.of rfl rfl) (krc_f_X12_emit N σ 1 0)) (fun p33 => (kvc_some (KEC.of rfl rfl)))))) kvc_none)
theorem krc_f_X12_stat (N : Nat) (σ : RS) (x1 : Int32) : KVc σ (f_X12_stat N σ x1) := by
  unfold f_X12_stat
  exact (kvc_ite (kvc_ite (kvc_some (KEC.of rfl rfl)) kvc_none) (kvc_ite (kvc_ite (kvc_st (KEC.of rfl rfl) (krc_f_X12_stat_240 N (RS.setA (RS.setI σ 53 ((σ.i 53) + 1)) 64 ((x1 : Int32).toNatClampNeg) 4) x1)) kvc_none) (kvc_ite (kvc_ite (kvc_st (KEC.of rfl rfl) (krc_f_X12_stat_240 N (RS.setA (RS.setI σ 53 ((σ.i 53) + 1)) 64 ((x1 : Int32).toNatClampNeg) 4) x1)) kvc_none) (kvc_ite (kvc_ite (kvc_st (KEC.of rfl rfl) (krc_f_X12_stat_240 N (RS.setA (RS.setI σ 53 ((σ.i 53) + 1)) 64 ((x1 : Int32).toNatClampNeg) 5) x1)) kvc_none) (kvc_ite (kvc_ite (kvc_st (KEC.of rfl rfl) (krc_f_X12_stat_240 N (RS.setA (RS.setI σ 53 ((σ.i 53) + 1)) 64 ((x1 : Int32).toNatClampNeg) 6) x1)) kvc_none) (kvc_ite (kvc_ite (kvc_st (KEC.of rfl rfl) (krc_f_X12_stat_240 N (RS.setA (RS.setI σ 53 ((σ.i 53) + 1)) 64 ((x1 : Int32).toNatClampNeg) 6) x1)) kvc_none) (kvc_ite (kvc_ite (kvc_st (KEC.of rfl rfl) (krc_f_X12_stat_240 N (RS.setA (RS.setI σ 53 ((σ.i 53) + 1)) 64 ((x1 : Int32).toNatClampNeg) 6) x1)) kvc_none) (kvc_ite (kvc_ite (kvc_st (KEC.of rfl rfl) (krc_f_X12_stat_240 N (RS.setA (RS.setI σ 53 ((σ.i 53) + 1)) 64 ((x1 : Int32).toNatClampNeg) 7) x1)) kvc_none) (kvc_ite (kvc_ite (kvc_st (KEC.of rfl rfl) (krc_f_X12_stat_240 N (RS.setA (RS.setI σ 53 ((σ.i 53) + 1)) 64 ((x1 : Int32).toNatClampNeg) 8) x1)) kvc_none) (kvc_ite (kvc_ite (kvc_st (KEC.of rfl rfl) (krc_f_X12_stat_240 N (RS.setA (RS.setI σ 53 ((σ.i 53) + 1)) 64 ((x1 : Int32).toNatClampNeg) 9) x1)) kvc_none) (kvc_ite (kvc_ite (kvc_st (KEC.of rfl rfl) (krc_f_X12_stat_240 N (RS.setA (RS.setI σ 53 ((σ.i 53) + 1)) 64 ((x1 : Int32).toNatClampNeg) 10) x1)) kvc_none) (kvc_ite (kvc_ite (kvc_st (KEC.of rfl rfl) (krc_f_X12_stat_240 N (RS.setA (RS.setI σ 53 ((σ.i 53) + 1)) 64 ((x1 : Int32).toNatClampNeg) 11) x1)) kvc_none) (kvc_ite (kvc_ite (kvc_st (KEC.of rfl rfl) (krc_f_X12_stat_240 N (RS.setA (RS.setI σ 53 ((σ.i 53) + 1)) 64 ((x1 : Int32).toNatClampNeg) 12) x1)) kvc_none) (kvc_ite (kvc_ite (kvc_st (KEC.of rfl rfl) (krc_f_X12_stat_240 N (RS.setA (RS.setI σ 53 ((σ.i 53) + 1)) 64 ((x1 : Int32).toNatClampNeg) 13) x1)) kvc_none) (kvc_ite (kvc_ite (kvc_st (KEC.of rfl rfl) (krc_f_X12_stat_240 N (RS.setA (RS.setI σ 53 ((σ.i 53) + 1)) 64 ((x1 : Int32).toNatClampNeg) 14) x1)) kvc_none) (kvc_ite (kvc_ite (kvc_st (KEC.of rfl rfl) (krc_f_X12_stat_240 N (RS.setA (RS.setI σ 53 ((σ.i 53) + 1)) 64 ((x1 : Int32).toNatClampNeg) 15) x1)) kvc_none) (kvc_ite (kvc_st (KEC.of rfl rfl) (krc_f_X12_stat_240 N (RS.setA (RS.setI σ 53 ((σ.i 53) + 1)) 64 ((x1 : Int32).toNatClampNeg) 2) x1)) kvc_none)))))))))))))))))
theorem krc_f_X12_block (N : Nat) (σ : RS) (x1 : Int32) : KVc σ (f_X12_block N σ x1) := by
  unfold f_X12_block
  exact (kvc_ite (kvc_ite (kvc_bind (krc_st (KEC.of rfl rfl) (krc_f_X12_open N σ 123)) (fun p5 => (kvc_bindv (kvc_st (KEC.of rfl rfl) (krc_f_X12_then N (RS.setA p5.2 66 ((x1 : Int32).toNatClampNeg) (p5.2.i 38)) 1 1)) (fun p7 => (kvc_some (KEC.of rfl rfl)))))) (kvc_bind (krc_st (KEC.of rfl rfl) (krc_f_X12_shut N σ 125)) (fun p3 => (kvc_some (KEC.of rfl rfl))))) kvc_none)
theorem krc_f_X12_telling_22 (N : Nat) (σ : RS) (x1 : Int32) : KRc σ (f_X12_telling_22 N σ x1) := by
  unfold f_X12_telling_22
  exact (krc_bind (krc_st (KEC.of rfl rfl) (krc_f_X12_seenAs N σ σ.l)) (fun p5 => (krc_ite (krc_ite (krc_bindv (kvc_st (KEC.of rfl rfl) (krc_f_X12_next N (RS.setB (RS.setI p5.2 54 ((p5.2.i 54) + 1)) 74 ((x1 : Int32).toNatClampNeg) p5.2.l))) (fun p9 => (krc_some (KEC.of rfl rfl)))) krc_none) (krc_bindv (kvc_st (KEC.of rfl rfl) (krc_f_X12_fail N p5.2 4 (p5.2.i 11))) (fun p11 => (krc_some (KEC.of rfl rfl)))))))
theorem krc_f_X12_telling_20 (N : Nat) (σ : RS) : KRc σ (f_X12_telling_20 N σ) := by
  unfold f_X12_telling_20
  exact (krc_some (KEC.of rfl rfl))
theorem krc_f_X12_telling (N : Nat) (σ : RS) (x1 : Int32) : KRc σ (f_X12_telling N σ x1) := by
  unfold f_X12_telling
  exact (krc_ite (krc_bind (krc_st (KEC.of rfl rfl) (krc_f_X12_can N σ 1)) (fun p13 => (krc_ite (krc_st (KEC.of rfl rfl) (krc_f_X12_telling_20 N p13.2)) (krc_st (KEC.of rfl rfl) (krc_f_X12_telling_22 N p13.2 x1))))) (krc_bind (krc_st (KEC.of rfl rfl) (krc_f_X12_can N σ 0)) (fun p2 => (krc_ite (krc_st (KEC.of rfl rfl) (krc_f_X12_telling_20 N p2.2)) (krc_st (KEC.of rfl rfl) (krc_f_X12_telling_22 N p2.2 x1))))))
theorem krc_f_X12_tell (N : Nat) (σ : RS) (x1 : Int32) : KVc σ (f_X12_tell N σ x1) := by
  unfold f_X12_tell
  exact (kvc_ite (kvc_ite (kvc_bindv (kvc_st (KEC.of rfl rfl) (krc_f_X12_next N σ)) (fun p11 => (kvc_ite (kvc_bind (krc_st (KEC.of rfl rfl) (krc_f_X12_telling N p11 x1)) (fun p14 => (kvc_ite (kvc_some (KEC.of rfl rfl)) (kvc_bind (krc_st (KEC.of rfl rfl) (krc_f_X12_need N p14.2 61)) (fun p17 => (kvc_bindv (kvc_st (KEC.of rfl rfl) (krc_f_X12_then N p17.2 1 16)) (fun p19 => (kvc_some (KEC.of rfl rfl))))))))) (kvc_some (KEC.of rfl rfl))))) (kvc_bind (krc_st (KEC.of rfl rfl) (krc_f_X12_see N σ (σ.b 74 ((x1 : Int32).toNatClampNeg)) 0)) (fun p3 => (kvc_bind (krc_st (KEC.of rfl rfl) (krc_f_X12_emit N p3.2 5 p3.1)) (fun p5 => (kvc_bind (krc_st (KEC.of rfl rfl) (krc_f_X12_need N p5.2 59)) (fun p7 => (kvc_bindv (kvc_st (KEC.of rfl rfl) (krc_f_X12_over N p7.2 1)) (fun p9 => (kvc_some (KEC.of rfl rfl))))))))))) kvc_none)
theorem krc_f_X12_label_188 (N : Nat) (σ : RS) : KVc σ (f_X12_label_188 N σ) := by
  unfold f_X12_label_188
  exact (kvc_bindv (kvc_st (KEC.of rfl rfl) (krc_f_X12_body N σ 1)) (fun p10 => (kvc_some (KEC.of rfl rfl))))
theorem krc_f_X12_label_168 (N : Nat) (σ : RS) : KVc σ (f_X12_label_168 N σ) := by
  unfold f_X12_label_168
  exact (kvc_st (KEC.of rfl rfl) (krc_f_X12_label_188 N σ))
theorem krc_b_X12_label_125 (N : Nat) (K : RS → Int32 → Option (RS)) (hK : ∀ (σ : RS) (y0 : Int32), KVc σ (K σ y0)) (σ : RS) (x6 : Int32) : KVc σ (b_X12_label_125 N K σ x6) := by
  unfold b_X12_label_125
  exact (kvc_ite (kvc_st (KEC.of rfl rfl) (krc_f_X12_label_168 N σ)) (kvc_ite (kvc_ite (kvc_ite (kvc_st (KEC.of rfl rfl) (hK (RS.setA σ 46 ((x6 : Int32).toNatClampNeg) (-3)) (x6 + (-1)))) (kvc_st (KEC.of rfl rfl) (krc_f_X12_label_168 N σ))) (kvc_st (KEC.of rfl rfl) (krc_f_X12_label_168 N σ))) kvc_none))
theorem krc_f_X12_label_125 (N : Nat) : ∀ (n : Nat) (σ : RS) (y0 : Int32), KVc σ (f_X12_label_125 N n σ y0)
  | 0, _, _ => kvc_none
  | n+1, σ, y0 => krc_b_X12_label_125 N (f_X12_label_125 N n) (fun σ y0 => krc_f_X12_label_125 N n σ y0) σ y0
theorem krc_f_X12_label_110 (N : Nat) (σ : RS) (x5 : Int32) : KVc σ (f_X12_label_110 N σ x5) := by
  unfold f_X12_label_110
  exact (kvc_ite (kvc_st (KEC.of rfl rfl) (krc_f_X12_label_125 N N (RS.setA σ 46 ((x5 : Int32).toNatClampNeg) (-3)) (x5 - 1))) kvc_none)
theorem krc_f_X12_label_60 (N : Nat) (σ : RS) (x1 : Int32) (x2 : Int64) : KVc σ (f_X12_label_60 N σ x1 x2) := by
  unfold f_X12_label_60
  exact (kvc_bind (krc_st (KEC.of rfl rfl) (krc_f_X12_goal N σ 2 x2)) (fun p2 => (kvc_ite (kvc_bindv (kvc_st (KEC.of rfl rfl) (krc_f_X12_next N (RS.setA p2.2 66 ((x1 : Int32).toNatClampNeg) p2.1))) (fun p5 => (kvc_ite (kvc_st (KEC.of rfl rfl) (krc_f_X12_label_110 N p5 p2.1)) (kvc_ite (kvc_st (KEC.of rfl rfl) (krc_f_X12_label_110 N p5 p2.1)) (kvc_ite (kvc_st (KEC.of rfl rfl) (krc_f_X12_label_110 N p5 p2.1)) (kvc_ite (kvc_ite (kvc_st (KEC.of rfl rfl) (krc_f_X12_label_188 N (RS.setA p5 46 ((p2.1 : Int32).toNatClampNeg) (-2)))) kvc_none) (kvc_st (KEC.of rfl rfl) (krc_f_X12_label_188 N p5)))))))) kvc_none)))
theorem krc_b_X12_label_8 (N : Nat) (K : RS → Int32 → Int64 → Int32 → Int32 → Option (RS)) (hK : ∀ (σ : RS) (y0 : Int32) (y1 : Int64) (y2 : Int32) (y3 : Int32), KVc σ (K σ y0 y1 y2 y3)) (σ : RS) (x1 : Int32) (x2 : Int64) (x4 : Int32) (x5 : Int32) : KVc σ (b_X12_label_8 N K σ x1 x2 x4 x5) := by
  unfold b_X12_label_8
  exact (kvc_ite (kvc_st (KEC.of rfl rfl) (krc_f_X12_label_60 N σ x1 x2)) (kvc_ite (kvc_ite (kvc_st (KEC.of rfl rfl) (krc_f_X12_label_60 N σ x1 x2)) (kvc_ite (kvc_ite (kvc_bindv (kvc_st (KEC.of rfl rfl) (krc_f_X12_fail N σ 4 x4)) (fun p23 => (kvc_st (KEC.of rfl rfl) (hK p23 x1 x2 x4 (x5 + (-1)))))) (kvc_st (KEC.of rfl rfl) (hK σ x1 x2 x4 (x5 + (-1))))) (kvc_st (KEC.of rfl rfl) (hK σ x1 x2 x4 (x5 + (-1)))))) kvc_none))
theorem krc_f_X12_label_8 (N : Nat) : ∀ (n : Nat) (σ : RS) (y0 : Int32) (y1 : Int64) (y2 : Int32) (y3 : Int32), KVc σ (f_X12_label_8 N n σ y0 y1 y2 y3)
  | 0, _, _, _, _, _ => kvc_none
  | n+1, σ, y0, y1, y2, y3 => krc_b_X12_label_8 N (f_X12_label_8 N n) (fun σ y0 y1 y2 y3 => krc_f_X12_label_8 N n σ y0 y1 y2 y3) σ y0 y1 y2 y3
theorem krc_f_X12_label (N : Nat) (σ : RS) (x1 : Int32) (x2 : Int64) (x4 : Int32) : KVc σ (f_X12_label N σ x1 x2 x4) := by
  unfold f_X12_label
  exact (kvc_st (KEC.of rfl rfl) (krc_f_X12_label_8 N N σ x1 x2 x4 ((σ.i 43) - 1)))
theorem krc_f_X12_got_22 (N : Nat) (σ : RS) (x3 : Int32) : KRc σ (f_X12_got_22 N σ x3) := by
  unfold f_X12_got_22
  exact (krc_bindv (kvc_st (KEC.of rfl rfl) (krc_f_X12_fail N σ 3 x3)) (fun p4 => (krc_some (KEC.of rfl rfl))))
theorem krc_f_X12_got (N : Nat) (σ : RS) (x1 : Int64) (x3 : Int32) : KRc σ (f_X12_got N σ x1 x3) := by
  unfold f_X12_got
  exact (krc_bind (krc_st (KEC.of rfl rfl) (krc_f_X12_seenAs N σ x1)) (fun p1 => (krc_ite (krc_st (KEC.of rfl rfl) (krc_f_X12_got_22 N p1.2 x3)) (krc_ite (krc_ite (krc_some (KEC.of rfl rfl)) (krc_st (KEC.of rfl rfl) (krc_f_X12_got_22 N p1.2 x3))) krc_none))))
theorem krc_f_X12_named_207 (N : Nat) (σ : RS) (x1 : Int32) (x5 : Int32) (x6 : Int32) : KVc σ (f_X12_named_207 N σ x1 x5 x6) := by
  unfold f_X12_named_207
  exact (kvc_bindv (kvc_st (KEC.of rfl rfl) (krc_f_X12_next N σ)) (fun p17 => (kvc_ite (kvc_ite (kvc_bindv (kvc_st (KEC.of rfl rfl) (krc_f_X12_then N (RS.setA p17 66 ((x1 : Int32).toNatClampNeg) x5) 2 16)) (fun p21 => (kvc_some (KEC.of rfl rfl)))) kvc_none) (kvc_bind (krc_st (KEC.of rfl rfl) (krc_f_X12_emit N p17 6 x5)) (fun p23 => (kvc_bind (krc_st (KEC.of rfl rfl) (krc_f_X12_need N p23.2 59)) (fun p25 => (kvc_bindv (kvc_st (KEC.of rfl rfl) (krc_f_X12_over N p25.2 1)) (fun p27 => (kvc_some (KEC.of rfl rfl)))))))))))
theorem krc_f_X12_named_183 (N : Nat) (σ : RS) (x1 : Int32) (x5 : Int32) : KVc σ (f_X12_named_183 N σ x1 x5) := by
  unfold f_X12_named_183
  exact (kvc_bind (krc_st (KEC.of rfl rfl) (krc_f_X12_emit N σ 1 0)) (fun p14 => (kvc_ite (kvc_st (KEC.of rfl rfl) (krc_f_X12_named_207 N p14.2 x1 x5 1)) (kvc_st (KEC.of rfl rfl) (krc_f_X12_named_207 N p14.2 x1 x5 0)))))
theorem krc_f_X12_named (N : Nat) (σ : RS) (x1 : Int32) : KVc σ (f_X12_named N σ x1) := by
  unfold f_X12_named
  exact (kvc_ite (kvc_ite (kvc_ite (kvc_bindv (kvc_st (KEC.of rfl rfl) (krc_f_X12_patch N σ (σ.a 48 (((σ.a 66 ((x1 : Int32).toNatClampNeg)) : Int32).toNatClampNeg)) (σ.i 20))) (fun p45 => (kvc_ite (kvc_ite (kvc_bindv (kvc_st (KEC.of rfl rfl) (krc_f_X12_over N (RS.setI p45 43 ((p45.i 43) - 1)) 0)) (fun p51 => (kvc_some (KEC.of rfl rfl)))) (kvc_bindv (kvc_st (KEC.of rfl rfl) (krc_f_X12_over N (RS.setI p45 43 ((p45.i 43) - 1)) 1)) (fun p53 => (kvc_some (KEC.of rfl rfl))))) (kvc_bindv (kvc_st (KEC.of rfl rfl) (krc_f_X12_over N (RS.setI p45 43 ((p45.i 43) - 1)) 1)) (fun p48 => (kvc_some (KEC.of rfl rfl))))))) kvc_none) (kvc_ite (kvc_bind (krc_st (KEC.of rfl rfl) (krc_f_X12_emit N σ 5 (σ.a 66 ((x1 : Int32).toNatClampNeg)))) (fun p38 => (kvc_bind (krc_st (KEC.of rfl rfl) (krc_f_X12_need N p38.2 59)) (fun p40 => (kvc_bindv (kvc_st (KEC.of rfl rfl) (krc_f_X12_over N p40.2 1)) (fun p42 => (kvc_some (KEC.of rfl rfl)))))))) (kvc_bindv (kvc_st (KEC.of rfl rfl) (krc_f_X12_next N σ)) (fun p4 => (kvc_ite (kvc_bindv (kvc_st (KEC.of rfl rfl) (krc_f_X12_label N p4 x1 σ.l (σ.i 11))) (fun p36 => (kvc_some (KEC.of rfl rfl)))) (kvc_bind (krc_st (KEC.of rfl rfl) (krc_f_X12_got N p4 σ.l (σ.i 11))) (fun p7 => (kvc_ite (kvc_ite (kvc_bind (krc_st (KEC.of rfl rfl) (krc_f_X12_can N p7.2 1)) (fun p11 => (kvc_ite (kvc_some (KEC.of rfl rfl)) (kvc_st (KEC.of rfl rfl) (krc_f_X12_named_183 N p11.2 x1 p7.1))))) (kvc_ite (kvc_bind (krc_st (KEC.of rfl rfl) (krc_f_X12_can N p7.2 1)) (fun p33 => (kvc_ite (kvc_some (KEC.of rfl rfl)) (kvc_st (KEC.of rfl rfl) (krc_f_X12_named_183 N p33.2 x1 p7.1))))) (kvc_bind (krc_st (KEC.of rfl rfl) (krc_f_X12_can N p7.2 0)) (fun p30 => (kvc_ite (kvc_some (KEC.of rfl rfl)) (kvc_st (KEC.of rfl rfl) (krc_f_X12_named_183 N p30.2 x1 p7.1))))))) (kvc_some (KEC.of rfl rfl)))))))))) kvc_none)
theorem krc_b_X12_isInArms_2 (N : Nat) (K : RS → Int32 → Option (Int32 × RS)) (hK : ∀ (σ : RS) (y0 : Int32), KRc σ (K σ y0)) (σ : RS) (x1 : Int32) : KRc σ (b_X12_isInArms_2 N K σ x1) := by
  unfold b_X12_isInArms_2
  exact (krc_ite (krc_some (KEC.of rfl rfl)) (krc_ite (krc_ite (krc_some (KEC.of rfl rfl)) (krc_st (KEC.of rfl rfl) (hK σ (x1 + 1)))) krc_none))
theorem krc_f_X12_isInArms_2 (N : Nat) : ∀ (n : Nat) (σ : RS) (y0 : Int32), KRc σ (f_X12_isInArms_2 N n σ y0)
  | 0, _, _ => krc_none
  | n+1, σ, y0 => krc_b_X12_isInArms_2 N (f_X12_isInArms_2 N n) (fun σ y0 => krc_f_X12_isInArms_2 N n σ y0) σ y0
theorem krc_f_X12_isInArms (N : Nat) (σ : RS) : KRc σ (f_X12_isInArms N σ) := by
  unfold f_X12_isInArms
  exact (krc_st (KEC.of rfl rfl) (krc_f_X12_isInArms_2 N N σ 0))
theorem krc_b_X12_ending_119 (N : Nat) (K : RS → Int32 → Int32 → Int32 → Option (RS)) (hK : ∀ (σ : RS) (y0 : Int32) (y1 : Int32) (y2 : Int32), KVc σ (K σ y0 y1 y2)) (σ : RS) (x1 : Int32) (x2 : Int32) (x3 : Int32) : KVc σ (b_X12_ending_119 N K σ x1 x2 x3) := by
  unfold b_X12_ending_119
  exact (kvc_ite (kvc_bind (krc_st (KEC.of rfl rfl) (krc_f_X12_need N σ 59)) (fun p8 => (kvc_ite (kvc_ite (kvc_bindv (kvc_st (KEC.of rfl rfl) (krc_f_X12_over N p8.2 1)) (fun p14 => (kvc_some (KEC.of rfl rfl)))) (kvc_bindv (kvc_st (KEC.of rfl rfl) (krc_f_X12_over N p8.2 0)) (fun p12 => (kvc_some (KEC.of rfl rfl))))) kvc_none))) (kvc_ite (kvc_ite (kvc_ite (kvc_st (KEC.of rfl rfl) (hK (RS.setA σ 23 ((x2 : Int32).toNatClampNeg) (σ.a 47 ((x3 : Int32).toNatClampNeg))) x1 x2 (x3 + 1))) kvc_none) (kvc_ite (kvc_st (KEC.of rfl rfl) (hK (RS.setA σ 23 ((x2 : Int32).toNatClampNeg) (σ.a 23 ((x2 : Int32).toNatClampNeg))) x1 x2 (x3 + 1))) kvc_none)) kvc_none))
theorem krc_f_X12_ending_119 (N : Nat) : ∀ (n : Nat) (σ : RS) (y0 : Int32) (y1 : Int32) (y2 : Int32), KVc σ (f_X12_ending_119 N n σ y0 y1 y2)
  | 0, _, _, _, _ => kvc_none
  | n+1, σ, y0, y1, y2 => krc_b_X12_ending_119 N (f_X12_ending_119 N n) (fun σ y0 y1 y2 => krc_f_X12_ending_119 N n σ y0 y1 y2) σ y0 y1 y2
theorem krc_f_X12_ending_117 (N : Nat) (σ : RS) (x1 : Int32) (x2 : Int32) : KVc σ (f_X12_ending_117 N σ x1 x2) := by
  unfold f_X12_ending_117
  exact (kvc_st (KEC.of rfl rfl) (krc_f_X12_ending_119 N N σ x1 x2 0))
theorem krc_f_X12_ending_63 (N : Nat) (σ : RS) : KVc σ (f_X12_ending_63 N σ) := by
  unfold f_X12_ending_63
  exact (kvc_bindv (kvc_st (KEC.of rfl rfl) (krc_f_X12_next N σ)) (fun p26 => (kvc_bindv (kvc_st (KEC.of rfl rfl) (krc_f_X12_then N p26 1 16)) (fun p28 => (kvc_some (KEC.of rfl rfl))))))
theorem krc_f_X12_ending_53 (N : Nat) (σ : RS) : KVc σ (f_X12_ending_53 N σ) := by
  unfold f_X12_ending_53
  exact (kvc_bindv (kvc_st (KEC.of rfl rfl) (krc_f_X12_fail N σ 5 (σ.i 11))) (fun p33 => (kvc_some (KEC.of rfl rfl))))
theorem krc_f_X12_ending_36 (N : Nat) (σ : RS) : KVc σ (f_X12_ending_36 N σ) := by
  unfold f_X12_ending_36
  exact (kvc_ite (kvc_bind (krc_st (KEC.of rfl rfl) (krc_f_X12_isInArms N σ)) (fun p30 => (kvc_ite (kvc_st (KEC.of rfl rfl) (krc_f_X12_ending_53 N p30.2)) (kvc_st (KEC.of rfl rfl) (krc_f_X12_ending_63 N p30.2))))) (kvc_st (KEC.of rfl rfl) (krc_f_X12_ending_63 N σ)))
theorem krc_f_X12_ending (N : Nat) (σ : RS) (x1 : Int32) : KVc σ (f_X12_ending N σ x1) := by
  unfold f_X12_ending
  exact (kvc_ite (kvc_ite (kvc_ite (kvc_bind (krc_st (KEC.of rfl rfl) (krc_f_X12_isInArms N (RS.setA σ 66 ((x1 : Int32).toNatClampNeg) (σ.i 10)))) (fun p35 => (kvc_ite (kvc_st (KEC.of rfl rfl) (krc_f_X12_ending_36 N p35.2)) (kvc_st (KEC.of rfl rfl) (krc_f_X12_ending_53 N p35.2))))) (kvc_st (KEC.of rfl rfl) (krc_f_X12_ending_36 N (RS.setA σ 66 ((x1 : Int32).toNatClampNeg) (σ.i 10))))) (kvc_ite (kvc_bind (krc_st (KEC.of rfl rfl) (krc_f_X12_emit N σ 16 0)) (fun p22 => (kvc_st (KEC.of rfl rfl) (krc_f_X12_ending_117 N p22.2 x1 p22.1)))) (kvc_ite (kvc_bind (krc_st (KEC.of rfl rfl) (krc_f_X12_emit N σ 17 0)) (fun p20 => (kvc_st (KEC.of rfl rfl) (krc_f_X12_ending_117 N p20.2 x1 p20.1)))) (kvc_bind (krc_st (KEC.of rfl rfl) (krc_f_X12_emit N σ 18 0)) (fun p5 => (kvc_st (KEC.of rfl rfl) (krc_f_X12_ending_117 N p5.2 x1 p5.1))))))) kvc_none)
theorem krc_f_X12_throwing_142 (N : Nat) (σ : RS) : KVc σ (f_X12_throwing_142 N σ) := by
  unfold f_X12_throwing_142
  exact (kvc_bindv (kvc_st (KEC.of rfl rfl) (krc_f_X12_fail N σ 3 (σ.i 11))) (fun p13 => (kvc_some (KEC.of rfl rfl))))
theorem krc_f_X12_throwing_69 (N : Nat) (σ : RS) (x1 : Int32) : KVc σ (f_X12_throwing_69 N σ x1) := by
  unfold f_X12_throwing_69
  exact (kvc_ite (kvc_ite (kvc_ite (kvc_bindv (kvc_st (KEC.of rfl rfl) (krc_f_X12_next N (RS.setA σ 66 ((x1 : Int32).toNatClampNeg) (σ.i 14)))) (fun p27 => (kvc_bindv (kvc_st (KEC.of rfl rfl) (krc_f_X12_then N p27 1 16)) (fun p29 => (kvc_some (KEC.of rfl rfl)))))) kvc_none) (kvc_bindv (kvc_st (KEC.of rfl rfl) (krc_f_X12_fail N σ 3 (σ.i 11))) (fun p31 => (kvc_some (KEC.of rfl rfl))))) (kvc_bind (krc_st (KEC.of rfl rfl) (krc_f_X12_seenAs N σ σ.l)) (fun p10 => (kvc_ite (kvc_st (KEC.of rfl rfl) (krc_f_X12_throwing_142 N p10.2)) (kvc_ite (kvc_ite (kvc_st (KEC.of rfl rfl) (krc_f_X12_throwing_142 N p10.2)) (kvc_bind (krc_st (KEC.of rfl rfl) (krc_f_X12_emit N p10.2 21 (p10.2.a 40 ((p10.1 : Int32).toNatClampNeg)))) (fun p17 => (kvc_bindv (kvc_st (KEC.of rfl rfl) (krc_f_X12_next N p17.2)) (fun p19 => (kvc_bind (krc_st (KEC.of rfl rfl) (krc_f_X12_need N p19 59)) (fun p21 => (kvc_bindv (kvc_st (KEC.of rfl rfl) (krc_f_X12_over N p21.2 0)) (fun p23 => (kvc_some (KEC.of rfl rfl))))))))))) kvc_none)))))
theorem krc_f_X12_throwing (N : Nat) (σ : RS) (x1 : Int32) : KVc σ (f_X12_throwing N σ x1) := by
  unfold f_X12_throwing
  exact (kvc_ite (kvc_ite (kvc_bind (krc_st (KEC.of rfl rfl) (krc_f_X12_emit N σ 19 (σ.a 66 ((x1 : Int32).toNatClampNeg)))) (fun p40 => (kvc_bind (krc_st (KEC.of rfl rfl) (krc_f_X12_need N p40.2 59)) (fun p42 => (kvc_bindv (kvc_st (KEC.of rfl rfl) (krc_f_X12_over N p42.2 0)) (fun p44 => (kvc_some (KEC.of rfl rfl)))))))) (kvc_bindv (kvc_st (KEC.of rfl rfl) (krc_f_X12_next N σ)) (fun p3 => (kvc_ite (kvc_bind (krc_st (KEC.of rfl rfl) (krc_f_X12_can N p3 1)) (fun p6 => (kvc_ite (kvc_some (KEC.of rfl rfl)) (kvc_st (KEC.of rfl rfl) (krc_f_X12_throwing_69 N p6.2 x1))))) (kvc_ite (kvc_bind (krc_st (KEC.of rfl rfl) (krc_f_X12_can N p3 1)) (fun p37 => (kvc_ite (kvc_some (KEC.of rfl rfl)) (kvc_st (KEC.of rfl rfl) (krc_f_X12_throwing_69 N p37.2 x1))))) (kvc_bind (krc_st (KEC.of rfl rfl) (krc_f_X12_can N p3 0)) (fun p34 => (kvc_ite (kvc_some (KEC.of rfl rfl)) (kvc_st (KEC.of rfl rfl) (krc_f_X12_throwing_69 N p34.2 x1)))))))))) kvc_none)
theorem krc_f_X12_asserted (N : Nat) (σ : RS) (x1 : Int32) : KVc σ (f_X12_asserted N σ x1) := by
  unfold f_X12_asserted
  exact (kvc_ite (kvc_ite (kvc_bindv (kvc_st (KEC.of rfl rfl) (krc_f_X12_next N σ)) (fun p3 => (kvc_bind (krc_st (KEC.of rfl rfl) (krc_f_X12_emit N p3 22 0)) (fun p5 => (kvc_bindv (kvc_st (KEC.of rfl rfl) (krc_f_X12_then N (RS.setA p5.2 66 ((x1 : Int32).toNatClampNeg) p5.1) 1 20)) (fun p7 => (kvc_some (KEC.of rfl rfl)))))))) (kvc_ite (kvc_bind (krc_st (KEC.of rfl rfl) (krc_f_X12_emit N σ 14 0)) (fun p10 => (kvc_ite (kvc_bindv (kvc_st (KEC.of rfl rfl) (krc_f_X12_next N (RS.setA p10.2 67 ((x1 : Int32).toNatClampNeg) p10.1))) (fun p15 => (kvc_bindv (kvc_st (KEC.of rfl rfl) (krc_f_X12_then N p15 2 16)) (fun p17 => (kvc_some (KEC.of rfl rfl)))))) (kvc_bind (krc_st (KEC.of rfl rfl) (krc_f_X12_emit N (RS.setA p10.2 67 ((x1 : Int32).toNatClampNeg) p10.1) 2 0)) (fun p13 => (kvc_some (KEC.of rfl rfl))))))) (kvc_bind (krc_st (KEC.of rfl rfl) (krc_f_X12_emit N σ 19 3)) (fun p19 => (kvc_ite (kvc_ite (kvc_bind (krc_st (KEC.of rfl rfl) (krc_f_X12_need N (RS.setA (RS.setA p19.2 22 (((p19.2.a 66 ((x1 : Int32).toNatClampNeg)) : Int32).toNatClampNeg) (p19.2.i 20)) 22 (((p19.2.a 67 ((x1 : Int32).toNatClampNeg)) : Int32).toNatClampNeg) (p19.2.i 20)) 59)) (fun p23 => (kvc_bindv (kvc_st (KEC.of rfl rfl) (krc_f_X12_over N p23.2 1)) (fun p25 => (kvc_some (KEC.of rfl rfl)))))) kvc_none) kvc_none))))) kvc_none)
theorem krc_f_X12_branch_113 (N : Nat) (σ : RS) (x1 : Int32) : KVc σ (f_X12_branch_113 N σ x1) := by
  unfold f_X12_branch_113
  exact (kvc_bind (krc_st (KEC.of rfl rfl) (krc_f_X12_emit N σ 15 0)) (fun p24 => (kvc_ite (kvc_ite (kvc_bindv (kvc_st (KEC.of rfl rfl) (krc_f_X12_body N (RS.setA (RS.setA p24.2 68 ((x1 : Int32).toNatClampNeg) p24.1) 22 (((p24.2.a 66 ((x1 : Int32).toNatClampNeg)) : Int32).toNatClampNeg) (p24.2.i 20)) 3)) (fun p28 => (kvc_some (KEC.of rfl rfl)))) kvc_none) kvc_none)))
theorem krc_f_X12_branch (N : Nat) (σ : RS) (x1 : Int32) : KVc σ (f_X12_branch N σ x1) := by
  unfold f_X12_branch
  exact (kvc_ite (kvc_ite (kvc_bindv (kvc_st (KEC.of rfl rfl) (krc_f_X12_next N σ)) (fun p3 => (kvc_bind (krc_st (KEC.of rfl rfl) (krc_f_X12_open N p3 40)) (fun p5 => (kvc_bindv (kvc_st (KEC.of rfl rfl) (krc_f_X12_then N p5.2 1 20)) (fun p7 => (kvc_some (KEC.of rfl rfl)))))))) (kvc_ite (kvc_bind (krc_st (KEC.of rfl rfl) (krc_f_X12_shut N σ 41)) (fun p10 => (kvc_bind (krc_st (KEC.of rfl rfl) (krc_f_X12_emit N p10.2 13 0)) (fun p12 => (kvc_bindv (kvc_st (KEC.of rfl rfl) (krc_f_X12_body N (RS.setA p12.2 66 ((x1 : Int32).toNatClampNeg) p12.1) 2)) (fun p14 => (kvc_some (KEC.of rfl rfl)))))))) (kvc_ite (kvc_ite (kvc_bindv (kvc_st (KEC.of rfl rfl) (krc_f_X12_next N σ)) (fun p21 => (kvc_ite (kvc_st (KEC.of rfl rfl) (krc_f_X12_branch_113 N (RS.setA p21 67 ((x1 : Int32).toNatClampNeg) 0) x1)) (kvc_st (KEC.of rfl rfl) (krc_f_X12_branch_113 N (RS.setA p21 67 ((x1 : Int32).toNatClampNeg) 1) x1))))) (kvc_ite (kvc_bindv (kvc_st (KEC.of rfl rfl) (krc_f_X12_over N (RS.setA σ 22 (((σ.a 66 ((x1 : Int32).toNatClampNeg)) : Int32).toNatClampNeg) (σ.i 20)) 1)) (fun p19 => (kvc_some (KEC.of rfl rfl)))) kvc_none)) (kvc_ite (kvc_ite (kvc_ite (kvc_bindv (kvc_st (KEC.of rfl rfl) (krc_f_X12_over N (RS.setA σ 22 (((σ.a 68 ((x1 : Int32).toNatClampNeg)) : Int32).toNatClampNeg) (σ.i 20)) 1)) (fun p37 => (kvc_some (KEC.of rfl rfl)))) (kvc_bindv (kvc_st (KEC.of rfl rfl) (krc_f_X12_over N (RS.setA σ 22 (((σ.a 68 ((x1 : Int32).toNatClampNeg)) : Int32).toNatClampNeg) (σ.i 20)) 0)) (fun p35 => (kvc_some (KEC.of rfl rfl))))) (kvc_bindv (kvc_st (KEC.of rfl rfl) (krc_f_X12_over N (RS.setA σ 22 (((σ.a 68 ((x1 : Int32).toNatClampNeg)) : Int32).toNatClampNeg) (σ.i 20)) 1)) (fun p32 => (kvc_some (KEC.of rfl rfl))))) kvc_none)))) kvc_none)
theorem krc_f_X12_isJustTrue_18 (N : Nat) (σ : RS) : KRc σ (f_X12_isJustTrue_18 N σ) := by
  unfold f_X12_isJustTrue_18
  exact (krc_some (KEC.of rfl rfl))
theorem krc_f_X12_isJustTrue (N : Nat) (σ : RS) (x1 : Int32) : KRc σ (f_X12_isJustTrue N σ x1) := by
  unfold f_X12_isJustTrue
  exact (krc_ite (krc_st (KEC.of rfl rfl) (krc_f_X12_isJustTrue_18 N σ)) (krc_ite (krc_some (KEC.of rfl rfl)) (krc_st (KEC.of rfl rfl) (krc_f_X12_isJustTrue_18 N σ))))
theorem krc_f_X12_whiles_77 (N : Nat) (σ : RS) : KVc σ (f_X12_whiles_77 N σ) := by
  unfold f_X12_whiles_77
  exact (kvc_bindv (kvc_st (KEC.of rfl rfl) (krc_f_X12_then N σ 1 20)) (fun p8 => (kvc_some (KEC.of rfl rfl))))
theorem krc_f_X12_whiles_111 (N : Nat) (σ : RS) (x1 : Int32) : KVc σ (f_X12_whiles_111 N σ x1) := by
  unfold f_X12_whiles_111
  exact (kvc_bind (krc_st (KEC.of rfl rfl) (krc_f_X12_shut N σ 41)) (fun p14 => (kvc_bind (krc_st (KEC.of rfl rfl) (krc_f_X12_emit N p14.2 13 0)) (fun p16 => (kvc_ite (kvc_bind (krc_st (KEC.of rfl rfl) (krc_f_X12_emit N (RS.setA p16.2 67 ((x1 : Int32).toNatClampNeg) p16.1) 1 0)) (fun p19 => (kvc_bind (krc_st (KEC.of rfl rfl) (krc_f_X12_loopGoal N p19.2)) (fun p21 => (kvc_bindv (kvc_st (KEC.of rfl rfl) (krc_f_X12_body N (RS.setA p21.2 68 ((x1 : Int32).toNatClampNeg) p21.1) 2)) (fun p23 => (kvc_some (KEC.of rfl rfl)))))))) kvc_none)))))
theorem krc_f_X12_whiles (N : Nat) (σ : RS) (x1 : Int32) : KVc σ (f_X12_whiles N σ x1) := by
  unfold f_X12_whiles
  exact (kvc_ite (kvc_ite (kvc_bindv (kvc_st (KEC.of rfl rfl) (krc_f_X12_next N σ)) (fun p3 => (kvc_bind (krc_st (KEC.of rfl rfl) (krc_f_X12_open N (RS.setA p3 66 ((x1 : Int32).toNatClampNeg) (p3.i 20)) 40)) (fun p5 => (kvc_ite (kvc_st (KEC.of rfl rfl) (krc_f_X12_whiles_77 N (RS.setA p5.2 69 ((x1 : Int32).toNatClampNeg) (p5.2.i 17)))) (kvc_st (KEC.of rfl rfl) (krc_f_X12_whiles_77 N (RS.setA p5.2 69 ((x1 : Int32).toNatClampNeg) 0)))))))) (kvc_ite (kvc_bind (krc_st (KEC.of rfl rfl) (krc_f_X12_isJustTrue N σ (σ.a 69 ((x1 : Int32).toNatClampNeg)))) (fun p11 => (kvc_ite (kvc_st (KEC.of rfl rfl) (krc_f_X12_whiles_111 N (RS.setA p11.2 71 ((x1 : Int32).toNatClampNeg) 0) x1)) (kvc_st (KEC.of rfl rfl) (krc_f_X12_whiles_111 N (RS.setA p11.2 71 ((x1 : Int32).toNatClampNeg) 1) x1))))) (kvc_ite (kvc_bindv (kvc_st (KEC.of rfl rfl) (krc_f_X12_patch N σ (σ.a 49 (((σ.a 68 ((x1 : Int32).toNatClampNeg)) : Int32).toNatClampNeg)) (σ.a 66 ((x1 : Int32).toNatClampNeg)))) (fun p26 => (kvc_bind (krc_st (KEC.of rfl rfl) (krc_f_X12_emit N p26 15 (p26.a 66 ((x1 : Int32).toNatClampNeg)))) (fun p28 => (kvc_ite (kvc_bindv (kvc_st (KEC.of rfl rfl) (krc_f_X12_patch N (RS.setA p28.2 22 (((p28.2.a 67 ((x1 : Int32).toNatClampNeg)) : Int32).toNatClampNeg) (p28.2.i 20)) (p28.2.a 48 (((σ.a 68 ((x1 : Int32).toNatClampNeg)) : Int32).toNatClampNeg)) (p28.2.i 20))) (fun p31 => (kvc_ite (kvc_bindv (kvc_st (KEC.of rfl rfl) (krc_f_X12_over N (RS.setI p31 43 ((p31.i 43) - 1)) 1)) (fun p34 => (kvc_some (KEC.of rfl rfl)))) (kvc_ite (kvc_bindv (kvc_st (KEC.of rfl rfl) (krc_f_X12_over N (RS.setI p31 43 ((p31.i 43) - 1)) 0)) (fun p37 => (kvc_some (KEC.of rfl rfl)))) (kvc_bindv (kvc_st (KEC.of rfl rfl) (krc_f_X12_over N (RS.setI p31 43 ((p31.i 43) - 1)) 1)) (fun p39 => (kvc_some (KEC.of rfl rfl)))))))) kvc_none))))) kvc_none))) kvc_none)
theorem krc_f_X12_repeats_195 (N : Nat) (σ : RS) : KVc σ (f_X12_repeats_195 N σ) := by
  unfold f_X12_repeats_195
  exact (kvc_bindv (kvc_st (KEC.of rfl rfl) (krc_f_X12_then N σ 2 20)) (fun p26 => (kvc_some (KEC.of rfl rfl))))
theorem krc_f_X12_repeats_134 (N : Nat) (σ : RS) (x1 : Int32) (x2 : Int32) : KVc σ (f_X12_repeats_134 N σ x1 x2) := by
  unfold f_X12_repeats_134
  exact (kvc_ite (kvc_ite (kvc_bind (krc_st (KEC.of rfl rfl) (krc_f_X12_need N (RS.setI (RS.setA σ 70 ((x1 : Int32).toNatClampNeg) (σ.a 48 ((x2 : Int32).toNatClampNeg))) 43 ((σ.i 43) - 1)) 415)) (fun p21 => (kvc_bind (krc_st (KEC.of rfl rfl) (krc_f_X12_open N p21.2 40)) (fun p23 => (kvc_ite (kvc_st (KEC.of rfl rfl) (krc_f_X12_repeats_195 N (RS.setA p23.2 69 ((x1 : Int32).toNatClampNeg) (p23.2.i 17)))) (kvc_st (KEC.of rfl rfl) (krc_f_X12_repeats_195 N (RS.setA p23.2 69 ((x1 : Int32).toNatClampNeg) 0)))))))) kvc_none) kvc_none)
theorem krc_f_X12_repeats_114 (N : Nat) (σ : RS) (x1 : Int32) (x2 : Int32) : KVc σ (f_X12_repeats_114 N σ x1 x2) := by
  unfold f_X12_repeats_114
  exact (kvc_ite (kvc_ite (kvc_ite (kvc_st (KEC.of rfl rfl) (krc_f_X12_repeats_134 N (RS.setA σ 72 ((x1 : Int32).toNatClampNeg) 0) x1 x2)) kvc_none) (kvc_ite (kvc_st (KEC.of rfl rfl) (krc_f_X12_repeats_134 N (RS.setA σ 72 ((x1 : Int32).toNatClampNeg) 1) x1 x2)) kvc_none)) kvc_none)
theorem krc_f_X12_repeats (N : Nat) (σ : RS) (x1 : Int32) : KVc σ (f_X12_repeats N σ x1) := by
  unfold f_X12_repeats
  exact (kvc_ite (kvc_ite (kvc_bindv (kvc_st (KEC.of rfl rfl) (krc_f_X12_next N σ)) (fun p3 => (kvc_bind (krc_st (KEC.of rfl rfl) (krc_f_X12_emit N p3 1 0)) (fun p5 => (kvc_bind (krc_st (KEC.of rfl rfl) (krc_f_X12_loopGoal N (RS.setA p5.2 66 ((x1 : Int32).toNatClampNeg) p5.1))) (fun p7 => (kvc_bindv (kvc_st (KEC.of rfl rfl) (krc_f_X12_body N (RS.setA p7.2 68 ((x1 : Int32).toNatClampNeg) p7.1) 1)) (fun p9 => (kvc_some (KEC.of rfl rfl)))))))))) (kvc_ite (kvc_ite (kvc_bindv (kvc_st (KEC.of rfl rfl) (krc_f_X12_patch N σ (σ.a 49 (((σ.a 68 ((x1 : Int32).toNatClampNeg)) : Int32).toNatClampNeg)) (σ.i 20))) (fun p13 => (kvc_ite (kvc_ite (kvc_st (KEC.of rfl rfl) (krc_f_X12_repeats_114 N (RS.setA p13 67 ((x1 : Int32).toNatClampNeg) 0) x1 (σ.a 68 ((x1 : Int32).toNatClampNeg)))) (kvc_st (KEC.of rfl rfl) (krc_f_X12_repeats_114 N (RS.setA p13 67 ((x1 : Int32).toNatClampNeg) 1) x1 (σ.a 68 ((x1 : Int32).toNatClampNeg))))) (kvc_st (KEC.of rfl rfl) (krc_f_X12_repeats_114 N (RS.setA p13 67 ((x1 : Int32).toNatClampNeg) 1) x1 (σ.a 68 ((x1 : Int32).toNatClampNeg))))))) kvc_none) (kvc_bind (krc_st (KEC.of rfl rfl) (krc_f_X12_isJustTrue N σ (σ.a 69 ((x1 : Int32).toNatClampNeg)))) (fun p30 => (kvc_bind (krc_st (KEC.of rfl rfl) (krc_f_X12_shut N p30.2 41)) (fun p32 => (kvc_bind (krc_st (KEC.of rfl rfl) (krc_f_X12_need N p32.2 59)) (fun p34 => (kvc_bind (krc_st (KEC.of rfl rfl) (krc_f_X12_emit N p34.2 14 (p34.2.a 66 ((x1 : Int32).toNatClampNeg)))) (fun p36 => (kvc_bindv (kvc_st (KEC.of rfl rfl) (krc_f_X12_patch N p36.2 (p36.2.a 70 ((x1 : Int32).toNatClampNeg)) (p36.2.i 20))) (fun p38 => (kvc_ite (kvc_ite (kvc_bindv (kvc_st (KEC.of rfl rfl) (krc_f_X12_over N p38 1)) (fun p47 => (kvc_some (KEC.of rfl rfl)))) (kvc_ite (kvc_bindv (kvc_st (KEC.of rfl rfl) (krc_f_X12_over N p38 1)) (fun p52 => (kvc_some (KEC.of rfl rfl)))) (kvc_bindv (kvc_st (KEC.of rfl rfl) (krc_f_X12_over N p38 0)) (fun p50 => (kvc_some (KEC.of rfl rfl)))))) (kvc_ite (kvc_bindv (kvc_st (KEC.of rfl rfl) (krc_f_X12_over N p38 1)) (fun p44 => (kvc_some (KEC.of rfl rfl)))) (kvc_bindv (kvc_st (KEC.of rfl rfl) (krc_f_X12_over N p38 0)) (fun p42 => (kvc_some (KEC.of rfl rfl)))))))))))))))))) kvc_none)
theorem krc_f_X12_forHead_231 (N : Nat) (σ : RS) (x1 : Int32) : KVc σ (f_X12_forHead_231 N σ x1) := by
  unfold f_X12_forHead_231
  exact (kvc_ite (kvc_some (KEC.of rfl rfl)) kvc_none)
theorem krc_f_X12_forHead_196 (N : Nat) (σ : RS) : KVc σ (f_X12_forHead_196 N σ) := by
  unfold f_X12_forHead_196
  exact (kvc_bindv (kvc_st (KEC.of rfl rfl) (krc_f_X12_next N σ)) (fun p21 => (kvc_bindv (kvc_st (KEC.of rfl rfl) (krc_f_X12_then N p21 2 16)) (fun p23 => (kvc_some (KEC.of rfl rfl))))))
theorem krc_f_X12_forHead_142 (N : Nat) (σ : RS) : KVc σ (f_X12_forHead_142 N σ) := by
  unfold f_X12_forHead_142
  exact (kvc_some (KEC.of rfl rfl))
theorem krc_f_X12_forHead_76 (N : Nat) (σ : RS) (x1 : Int32) (x2 : Int32) : KVc σ (f_X12_forHead_76 N σ x1 x2) := by
  unfold f_X12_forHead_76
  exact (kvc_bindv (kvc_st (KEC.of rfl rfl) (krc_f_X12_next N σ)) (fun p38 => (kvc_ite (kvc_bindv (kvc_st (KEC.of rfl rfl) (krc_f_X12_then N p38 1 16)) (fun p50 => (kvc_st (KEC.of rfl rfl) (krc_f_X12_forHead_142 N p50)))) (kvc_ite (kvc_bindv (kvc_st (KEC.of rfl rfl) (krc_f_X12_next N p38)) (fun p45 => (kvc_bind (krc_st (KEC.of rfl rfl) (krc_f_X12_emit N p45 20 1)) (fun p47 => (kvc_ite (kvc_st (KEC.of rfl rfl) (krc_f_X12_forHead_142 N (RS.setA p47.2 65 ((x1 : Int32).toNatClampNeg) 12))) kvc_none))))) (kvc_ite (kvc_bindv (kvc_st (KEC.of rfl rfl) (krc_f_X12_then N (RS.setA p38 68 ((x1 : Int32).toNatClampNeg) 0) 10 16)) (fun p43 => (kvc_st (KEC.of rfl rfl) (krc_f_X12_forHead_142 N p43)))) kvc_none)))))
theorem krc_f_X12_forHead_61 (N : Nat) (σ : RS) (x1 : Int32) : KVc σ (f_X12_forHead_61 N σ x1) := by
  unfold f_X12_forHead_61
  exact (kvc_ite (kvc_st (KEC.of rfl rfl) (krc_f_X12_forHead_76 N σ x1 1)) (kvc_st (KEC.of rfl rfl) (krc_f_X12_forHead_76 N σ x1 0)))
theorem krc_f_X12_forHead (N : Nat) (σ : RS) (x1 : Int32) : KVc σ (f_X12_forHead N σ x1) := by
  unfold f_X12_forHead
  exact (kvc_ite (kvc_ite (kvc_bindv (kvc_st (KEC.of rfl rfl) (krc_f_X12_next N σ)) (fun p28 => (kvc_bind (krc_st (KEC.of rfl rfl) (krc_f_X12_telling N p28 x1)) (fun p30 => (kvc_ite (kvc_some (KEC.of rfl rfl)) (kvc_ite (kvc_bind (krc_st (KEC.of rfl rfl) (krc_f_X12_can N p30.2 1)) (fun p34 => (kvc_ite (kvc_some (KEC.of rfl rfl)) (kvc_st (KEC.of rfl rfl) (krc_f_X12_forHead_61 N p34.2 x1))))) (kvc_ite (kvc_bind (krc_st (KEC.of rfl rfl) (krc_f_X12_can N p30.2 1)) (fun p56 => (kvc_ite (kvc_some (KEC.of rfl rfl)) (kvc_st (KEC.of rfl rfl) (krc_f_X12_forHead_61 N p56.2 x1))))) (kvc_bind (krc_st (KEC.of rfl rfl) (krc_f_X12_can N p30.2 0)) (fun p53 => (kvc_ite (kvc_some (KEC.of rfl rfl)) (kvc_st (KEC.of rfl rfl) (krc_f_X12_forHead_61 N p53.2 x1)))))))))))) (kvc_ite (kvc_bind (krc_st (KEC.of rfl rfl) (krc_f_X12_got N σ σ.l (σ.i 11))) (fun p12 => (kvc_ite (kvc_bindv (kvc_st (KEC.of rfl rfl) (krc_f_X12_next N (RS.setA p12.2 66 ((x1 : Int32).toNatClampNeg) p12.1))) (fun p15 => (kvc_ite (kvc_bind (krc_st (KEC.of rfl rfl) (krc_f_X12_can N p15 1)) (fun p25 => (kvc_ite (kvc_some (KEC.of rfl rfl)) (kvc_st (KEC.of rfl rfl) (krc_f_X12_forHead_196 N p25.2))))) (kvc_bind (krc_st (KEC.of rfl rfl) (krc_f_X12_can N p15 0)) (fun p18 => (kvc_ite (kvc_some (KEC.of rfl rfl)) (kvc_st (KEC.of rfl rfl) (krc_f_X12_forHead_196 N p18.2)))))))) kvc_none))) (kvc_ite (kvc_bind (krc_st (KEC.of rfl rfl) (krc_f_X12_can N σ 1)) (fun p9 => (kvc_ite (kvc_some (KEC.of rfl rfl)) (kvc_st (KEC.of rfl rfl) (krc_f_X12_forHead_231 N p9.2 x1))))) (kvc_bind (krc_st (KEC.of rfl rfl) (krc_f_X12_can N σ 0)) (fun p5 => (kvc_ite (kvc_some (KEC.of rfl rfl)) (kvc_st (KEC.of rfl rfl) (krc_f_X12_forHead_231 N p5.2 x1)))))))) (kvc_some (KEC.of rfl rfl)))
theorem krc_f_X12_forBehind_59 (N : Nat) (σ : RS) (x1 : Int32) : KVc σ (f_X12_forBehind_59 N σ x1) := by
  unfold f_X12_forBehind_59
  exact (kvc_ite (kvc_some (KEC.of rfl rfl)) kvc_none)
theorem krc_f_X12_forBehind_159 (N : Nat) (σ : RS) (x1 : Int32) (x2 : Int32) : KVc σ (f_X12_forBehind_159 N σ x1 x2) := by
  unfold f_X12_forBehind_159
  exact (kvc_bindv (kvc_st (KEC.of rfl rfl) (krc_f_X12_next N σ)) (fun p25 => (kvc_ite (kvc_bindv (kvc_st (KEC.of rfl rfl) (krc_f_X12_then N p25 6 16)) (fun p28 => (kvc_some (KEC.of rfl rfl)))) (kvc_ite (kvc_bind (krc_st (KEC.of rfl rfl) (krc_f_X12_emit N p25 6 (p25.a 73 ((x1 : Int32).toNatClampNeg)))) (fun p31 => (kvc_some (KEC.of rfl rfl)))) kvc_none))))
theorem krc_f_X12_forBehind_143 (N : Nat) (σ : RS) (x1 : Int32) : KVc σ (f_X12_forBehind_143 N σ x1) := by
  unfold f_X12_forBehind_143
  exact (kvc_ite (kvc_st (KEC.of rfl rfl) (krc_f_X12_forBehind_159 N σ x1 1)) (kvc_st (KEC.of rfl rfl) (krc_f_X12_forBehind_159 N σ x1 0)))
theorem krc_f_X12_forBehind_89 (N : Nat) (σ : RS) (x1 : Int32) : KVc σ (f_X12_forBehind_89 N σ x1) := by
  unfold f_X12_forBehind_89
  exact (kvc_bind (krc_st (KEC.of rfl rfl) (krc_f_X12_got N σ σ.l (σ.i 11))) (fun p15 => (kvc_ite (kvc_bindv (kvc_st (KEC.of rfl rfl) (krc_f_X12_next N (RS.setA p15.2 73 ((x1 : Int32).toNatClampNeg) p15.1))) (fun p18 => (kvc_ite (kvc_bind (krc_st (KEC.of rfl rfl) (krc_f_X12_can N p18 1)) (fun p21 => (kvc_ite (kvc_some (KEC.of rfl rfl)) (kvc_st (KEC.of rfl rfl) (krc_f_X12_forBehind_143 N p21.2 x1))))) (kvc_ite (kvc_bind (krc_st (KEC.of rfl rfl) (krc_f_X12_can N p18 1)) (fun p37 => (kvc_ite (kvc_some (KEC.of rfl rfl)) (kvc_st (KEC.of rfl rfl) (krc_f_X12_forBehind_143 N p37.2 x1))))) (kvc_bind (krc_st (KEC.of rfl rfl) (krc_f_X12_can N p18 0)) (fun p34 => (kvc_ite (kvc_some (KEC.of rfl rfl)) (kvc_st (KEC.of rfl rfl) (krc_f_X12_forBehind_143 N p34.2 x1))))))))) kvc_none)))
theorem krc_f_X12_forBehind (N : Nat) (σ : RS) (x1 : Int32) : KVc σ (f_X12_forBehind N σ x1) := by
  unfold f_X12_forBehind
  exact (kvc_bind (krc_st (KEC.of rfl rfl) (krc_f_X12_need N σ 59)) (fun p1 => (kvc_bind (krc_st (KEC.of rfl rfl) (krc_f_X12_emit N p1.2 13 0)) (fun p3 => (kvc_ite (kvc_bind (krc_st (KEC.of rfl rfl) (krc_f_X12_emit N (RS.setA p3.2 67 ((x1 : Int32).toNatClampNeg) p3.1) 15 0)) (fun p6 => (kvc_ite (kvc_ite (kvc_st (KEC.of rfl rfl) (krc_f_X12_forBehind_59 N (RS.setA (RS.setA p6.2 68 ((x1 : Int32).toNatClampNeg) p6.1) 70 ((x1 : Int32).toNatClampNeg) (p6.2.i 20)) x1)) (kvc_ite (kvc_bind (krc_st (KEC.of rfl rfl) (krc_f_X12_can N (RS.setA (RS.setA p6.2 68 ((x1 : Int32).toNatClampNeg) p6.1) 70 ((x1 : Int32).toNatClampNeg) (p6.2.i 20)) 1)) (fun p40 => (kvc_ite (kvc_some (KEC.of rfl rfl)) (kvc_st (KEC.of rfl rfl) (krc_f_X12_forBehind_89 N p40.2 x1))))) (kvc_bind (krc_st (KEC.of rfl rfl) (krc_f_X12_can N (RS.setA (RS.setA p6.2 68 ((x1 : Int32).toNatClampNeg) p6.1) 70 ((x1 : Int32).toNatClampNeg) (p6.2.i 20)) 0)) (fun p12 => (kvc_ite (kvc_some (KEC.of rfl rfl)) (kvc_st (KEC.of rfl rfl) (krc_f_X12_forBehind_89 N p12.2 x1))))))) (kvc_st (KEC.of rfl rfl) (krc_f_X12_forBehind_59 N (RS.setA (RS.setA p6.2 68 ((x1 : Int32).toNatClampNeg) p6.1) 70 ((x1 : Int32).toNatClampNeg) (p6.2.i 20)) x1))))) kvc_none)))))
theorem krc_f_X12_rows (N : Nat) (σ : RS) (x1 : Int32) : KVc σ (f_X12_rows N σ x1) := by
  unfold f_X12_rows
  exact (kvc_ite (kvc_ite (kvc_ite (kvc_bindv (kvc_st (KEC.of rfl rfl) (krc_f_X12_next N (RS.setA σ 68 ((x1 : Int32).toNatClampNeg) ((σ.a 68 ((x1 : Int32).toNatClampNeg)) + 1)))) (fun p30 => (kvc_bindv (kvc_st (KEC.of rfl rfl) (krc_f_X12_then N p30 10 16)) (fun p32 => (kvc_some (KEC.of rfl rfl)))))) (kvc_bind (krc_st (KEC.of rfl rfl) (krc_f_X12_emit N (RS.setA σ 68 ((x1 : Int32).toNatClampNeg) ((σ.a 68 ((x1 : Int32).toNatClampNeg)) + 1)) 23 ((upd (σ.a 68) ((x1 : Int32).toNatClampNeg) ((σ.a 68 ((x1 : Int32).toNatClampNeg)) + 1)) ((x1 : Int32).toNatClampNeg)))) (fun p28 => (kvc_some (KEC.of rfl rfl))))) (kvc_ite (kvc_bind (krc_st (KEC.of rfl rfl) (krc_f_X12_see N σ (σ.b 74 ((x1 : Int32).toNatClampNeg)) 0)) (fun p16 => (kvc_bind (krc_st (KEC.of rfl rfl) (krc_f_X12_shut N p16.2 41)) (fun p18 => (kvc_bind (krc_st (KEC.of rfl rfl) (krc_f_X12_emit N (RS.setI p18.2 52 ((p18.2.i 52) + 1)) 24 0)) (fun p20 => (kvc_ite (kvc_bind (krc_st (KEC.of rfl rfl) (krc_f_X12_loopGoal N (RS.setA (RS.setA p20.2 66 ((x1 : Int32).toNatClampNeg) p20.1) 23 ((((upd (p20.2.a 66) ((x1 : Int32).toNatClampNeg) p20.1) ((x1 : Int32).toNatClampNeg)) : Int32).toNatClampNeg) p16.1))) (fun p23 => (kvc_bindv (kvc_st (KEC.of rfl rfl) (krc_f_X12_body N (RS.setA p23.2 73 ((x1 : Int32).toNatClampNeg) p23.1) 13)) (fun p25 => (kvc_some (KEC.of rfl rfl)))))) kvc_none))))))) (kvc_ite (kvc_bindv (kvc_st (KEC.of rfl rfl) (krc_f_X12_patch N σ (σ.a 49 (((σ.a 73 ((x1 : Int32).toNatClampNeg)) : Int32).toNatClampNeg)) (σ.a 66 ((x1 : Int32).toNatClampNeg)))) (fun p5 => (kvc_bind (krc_st (KEC.of rfl rfl) (krc_f_X12_emit N p5 15 (p5.a 66 ((x1 : Int32).toNatClampNeg)))) (fun p7 => (kvc_ite (kvc_bindv (kvc_st (KEC.of rfl rfl) (krc_f_X12_patch N (RS.setA p7.2 22 (((p7.2.a 66 ((x1 : Int32).toNatClampNeg)) : Int32).toNatClampNeg) (p7.2.i 20)) (p7.2.a 48 (((σ.a 73 ((x1 : Int32).toNatClampNeg)) : Int32).toNatClampNeg)) (p7.2.i 20))) (fun p10 => (kvc_bind (krc_st (KEC.of rfl rfl) (krc_f_X12_emit N p10 25 0)) (fun p12 => (kvc_bindv (kvc_st (KEC.of rfl rfl) (krc_f_X12_over N (RS.setI (RS.setI (RS.setI p12.2 52 ((p12.2.i 52) - 1)) 43 ((p12.2.i 43) - 1)) 38 (p12.2.a 71 ((x1 : Int32).toNatClampNeg))) 1)) (fun p14 => (kvc_some (KEC.of rfl rfl)))))))) kvc_none))))) kvc_none))) kvc_none)
theorem krc_f_X12_fors_195 (N : Nat) (σ : RS) (x1 : Int32) : KVc σ (f_X12_fors_195 N σ x1) := by
  unfold f_X12_fors_195
  exact (kvc_ite (kvc_bind (krc_st (KEC.of rfl rfl) (krc_f_X12_emit N σ 2 1)) (fun p26 => (kvc_ite (kvc_some (KEC.of rfl rfl)) kvc_none))) (kvc_bindv (kvc_st (KEC.of rfl rfl) (krc_f_X12_then N σ 4 20)) (fun p24 => (kvc_some (KEC.of rfl rfl)))))
theorem krc_f_X12_fors_175 (N : Nat) (σ : RS) (x1 : Int32) : KVc σ (f_X12_fors_175 N σ x1) := by
  unfold f_X12_fors_175
  exact (kvc_ite (kvc_ite (kvc_st (KEC.of rfl rfl) (krc_f_X12_fors_195 N (RS.setA σ 72 ((x1 : Int32).toNatClampNeg) 1) x1)) kvc_none) (kvc_ite (kvc_st (KEC.of rfl rfl) (krc_f_X12_fors_195 N (RS.setA σ 72 ((x1 : Int32).toNatClampNeg) 0) x1)) kvc_none))
theorem krc_f_X12_fors_255 (N : Nat) (σ : RS) (x1 : Int32) : KVc σ (f_X12_fors_255 N σ x1) := by
  unfold f_X12_fors_255
  exact (kvc_ite (kvc_some (KEC.of rfl rfl)) kvc_none)
theorem krc_f_X12_fors_469 (N : Nat) (σ : RS) : KVc σ (f_X12_fors_469 N σ) := by
  unfold f_X12_fors_469
  exact (kvc_some (KEC.of rfl rfl))
theorem krc_f_X12_fors (N : Nat) (σ : RS) (x1 : Int32) : KVc σ (f_X12_fors N σ x1) := by
  unfold f_X12_fors
  exact (kvc_ite (kvc_ite (kvc_bindv (kvc_st (KEC.of rfl rfl) (krc_f_X12_next N (RS.setA σ 71 ((x1 : Int32).toNatClampNeg) (σ.i 38)))) (fun p3 => (kvc_bind (krc_st (KEC.of rfl rfl) (krc_f_X12_open N p3 40)) (fun p5 => (kvc_bindv (kvc_st (KEC.of rfl rfl) (krc_f_X12_forHead N p5.2 x1)) (fun p7 => (kvc_some (KEC.of rfl rfl)))))))) (kvc_ite (kvc_bind (krc_st (KEC.of rfl rfl) (krc_f_X12_see N σ (σ.b 74 ((x1 : Int32).toNatClampNeg)) 0)) (fun p10 => (kvc_bind (krc_st (KEC.of rfl rfl) (krc_f_X12_emit N p10.2 5 p10.1)) (fun p12 => (kvc_some (KEC.of rfl rfl)))))) (kvc_ite (kvc_bind (krc_st (KEC.of rfl rfl) (krc_f_X12_emit N σ 5 (σ.a 66 ((x1 : Int32).toNatClampNeg)))) (fun p15 => (kvc_some (KEC.of rfl rfl)))) (kvc_ite (kvc_bind (krc_st (KEC.of rfl rfl) (krc_f_X12_need N σ 59)) (fun p18 => (kvc_ite (kvc_st (KEC.of rfl rfl) (krc_f_X12_fors_175 N (RS.setA (RS.setA p18.2 66 ((x1 : Int32).toNatClampNeg) (p18.2.i 20)) 69 ((x1 : Int32).toNatClampNeg) (p18.2.i 17)) x1)) (kvc_st (KEC.of rfl rfl) (krc_f_X12_fors_175 N (RS.setA (RS.setA p18.2 66 ((x1 : Int32).toNatClampNeg) (p18.2.i 20)) 69 ((x1 : Int32).toNatClampNeg) 0) x1))))) (kvc_ite (kvc_bind (krc_st (KEC.of rfl rfl) (krc_f_X12_isJustTrue N σ (σ.a 69 ((x1 : Int32).toNatClampNeg)))) (fun p31 => (kvc_ite (kvc_st (KEC.of rfl rfl) (krc_f_X12_fors_255 N (RS.setA p31.2 72 ((x1 : Int32).toNatClampNeg) 0) x1)) (kvc_st (KEC.of rfl rfl) (krc_f_X12_fors_255 N (RS.setA p31.2 72 ((x1 : Int32).toNatClampNeg) 1) x1))))) (kvc_ite (kvc_bindv (kvc_st (KEC.of rfl rfl) (krc_f_X12_forBehind N σ x1)) (fun p36 => (kvc_some (KEC.of rfl rfl)))) (kvc_ite (kvc_bind (krc_st (KEC.of rfl rfl) (krc_f_X12_emit N σ 5 (σ.a 73 ((x1 : Int32).toNatClampNeg)))) (fun p39 => (kvc_some (KEC.of rfl rfl)))) (kvc_ite (kvc_bind (krc_st (KEC.of rfl rfl) (krc_f_X12_emit N σ 15 (σ.a 66 ((x1 : Int32).toNatClampNeg)))) (fun p42 => (kvc_bind (krc_st (KEC.of rfl rfl) (krc_f_X12_shut N p42.2 41)) (fun p44 => (kvc_ite (kvc_bind (krc_st (KEC.of rfl rfl) (krc_f_X12_emit N (RS.setA p44.2 22 (((p44.2.a 68 ((x1 : Int32).toNatClampNeg)) : Int32).toNatClampNeg) (p44.2.i 20)) 1 0)) (fun p47 => (kvc_bind (krc_st (KEC.of rfl rfl) (krc_f_X12_loopGoal N p47.2)) (fun p49 => (kvc_bindv (kvc_st (KEC.of rfl rfl) (krc_f_X12_body N (RS.setA p49.2 73 ((x1 : Int32).toNatClampNeg) p49.1) 8)) (fun p51 => (kvc_some (KEC.of rfl rfl)))))))) kvc_none))))) (kvc_ite (kvc_ite (kvc_bindv (kvc_st (KEC.of rfl rfl) (krc_f_X12_patch N σ (σ.a 49 (((σ.a 73 ((x1 : Int32).toNatClampNeg)) : Int32).toNatClampNeg)) (σ.a 70 ((x1 : Int32).toNatClampNeg)))) (fun p55 => (kvc_bind (krc_st (KEC.of rfl rfl) (krc_f_X12_emit N p55 15 (p55.a 70 ((x1 : Int32).toNatClampNeg)))) (fun p57 => (kvc_ite (kvc_bindv (kvc_st (KEC.of rfl rfl) (krc_f_X12_patch N (RS.setA p57.2 22 (((p57.2.a 67 ((x1 : Int32).toNatClampNeg)) : Int32).toNatClampNeg) (p57.2.i 20)) (p57.2.a 48 (((σ.a 73 ((x1 : Int32).toNatClampNeg)) : Int32).toNatClampNeg)) (p57.2.i 20))) (fun p60 => (kvc_ite (kvc_bindv (kvc_st (KEC.of rfl rfl) (krc_f_X12_over N (RS.setI (RS.setI p60 43 ((p60.i 43) - 1)) 38 (p60.a 71 ((x1 : Int32).toNatClampNeg))) 1)) (fun p63 => (kvc_st (KEC.of rfl rfl) (krc_f_X12_fors_469 N p63)))) (kvc_ite (kvc_bindv (kvc_st (KEC.of rfl rfl) (krc_f_X12_over N (RS.setI (RS.setI p60 43 ((p60.i 43) - 1)) 38 (p60.a 71 ((x1 : Int32).toNatClampNeg))) 0)) (fun p66 => (kvc_st (KEC.of rfl rfl) (krc_f_X12_fors_469 N p66)))) (kvc_bindv (kvc_st (KEC.of rfl rfl) (krc_f_X12_over N (RS.setI (RS.setI p60 43 ((p60.i 43) - 1)) 38 (p60.a 71 ((x1 : Int32).toNatClampNeg))) 1)) (fun p68 => (kvc_st (KEC.of rfl rfl) (krc_f_X12_fors_469 N p68)))))))) kvc_none))))) kvc_none) (kvc_bindv (kvc_st (KEC.of rfl rfl) (krc_f_X12_rows N σ x1)) (fun p70 => (kvc_some (KEC.of rfl rfl))))))))))))) kvc_none)
theorem krc_f_X12_lock_94 (N : Nat) (σ : RS) : KVc σ (f_X12_lock_94 N σ) := by
  unfold f_X12_lock_94
  exact (kvc_bind (krc_st (KEC.of rfl rfl) (krc_f_X12_shut N σ 41)) (fun p13 => (kvc_bindv (kvc_st (KEC.of rfl rfl) (krc_f_X12_then N (RS.setI p13.2 52 ((p13.2.i 52) + 1)) 1 3)) (fun p15 => (kvc_some (KEC.of rfl rfl))))))
theorem krc_f_X12_lock_90 (N : Nat) (σ : RS) : KVc σ (f_X12_lock_90 N σ) := by
  unfold f_X12_lock_90
  exact (kvc_bindv (kvc_st (KEC.of rfl rfl) (krc_f_X12_next N σ)) (fun p21 => (kvc_st (KEC.of rfl rfl) (krc_f_X12_lock_94 N p21))))
theorem krc_f_X12_lock_50 (N : Nat) (σ : RS) : KVc σ (f_X12_lock_50 N σ) := by
  unfold f_X12_lock_50
  exact (kvc_ite (kvc_bind (krc_st (KEC.of rfl rfl) (krc_f_X12_emit N σ 20 1)) (fun p24 => (kvc_st (KEC.of rfl rfl) (krc_f_X12_lock_90 N p24.2)))) (kvc_bind (krc_st (KEC.of rfl rfl) (krc_f_X12_emit N σ 26 (σ.i 14))) (fun p19 => (kvc_st (KEC.of rfl rfl) (krc_f_X12_lock_90 N p19.2)))))
theorem krc_f_X12_lock (N : Nat) (σ : RS) (x1 : Int32) : KVc σ (f_X12_lock N σ x1) := by
  unfold f_X12_lock
  exact (kvc_ite (kvc_ite (kvc_bindv (kvc_st (KEC.of rfl rfl) (krc_f_X12_next N σ)) (fun p5 => (kvc_bind (krc_st (KEC.of rfl rfl) (krc_f_X12_open N p5 40)) (fun p7 => (kvc_ite (kvc_bind (krc_st (KEC.of rfl rfl) (krc_f_X12_can N p7.2 1)) (fun p10 => (kvc_ite (kvc_st (KEC.of rfl rfl) (krc_f_X12_lock_94 N p10.2)) (kvc_st (KEC.of rfl rfl) (krc_f_X12_lock_50 N p10.2))))) (kvc_ite (kvc_bind (krc_st (KEC.of rfl rfl) (krc_f_X12_can N p7.2 1)) (fun p30 => (kvc_ite (kvc_st (KEC.of rfl rfl) (krc_f_X12_lock_94 N p30.2)) (kvc_st (KEC.of rfl rfl) (krc_f_X12_lock_50 N p30.2))))) (kvc_bind (krc_st (KEC.of rfl rfl) (krc_f_X12_can N p7.2 0)) (fun p27 => (kvc_ite (kvc_st (KEC.of rfl rfl) (krc_f_X12_lock_94 N p27.2)) (kvc_st (KEC.of rfl rfl) (krc_f_X12_lock_50 N p27.2))))))))))) (kvc_bind (krc_st (KEC.of rfl rfl) (krc_f_X12_emit N σ 27 0)) (fun p3 => (kvc_some (KEC.of rfl rfl))))) kvc_none)
theorem krc_f_X12_entry_85 (N : Nat) (σ : RS) (x1 : Int32) : KVc σ (f_X12_entry_85 N σ x1) := by
  unfold f_X12_entry_85
  exact (kvc_ite (kvc_some (KEC.of rfl rfl)) kvc_none)
theorem krc_f_X12_entry (N : Nat) (σ : RS) (x1 : Int32) (x2 : Int32) (x3 : Int32) : KVc σ (f_X12_entry N σ x1 x2 x3) := by
  unfold f_X12_entry
  exact (kvc_ite (kvc_ite (kvc_ite (kvc_ite (kvc_st (KEC.of rfl rfl) (krc_f_X12_entry_85 N (RS.setA (RS.setA (RS.setA (RS.setA (RS.setA σ 25 (((σ.i 24) : Int32).toNatClampNeg) x2) 26 (((σ.i 24) : Int32).toNatClampNeg) (σ.i 20)) 27 (((σ.i 24) : Int32).toNatClampNeg) (-1)) 28 (((σ.i 24) : Int32).toNatClampNeg) (vp_nar .boolean x3)) 27 (((σ.a 67 ((x1 : Int32).toNatClampNeg)) : Int32).toNatClampNeg) (σ.i 24)) x1)) kvc_none) (kvc_ite (kvc_st (KEC.of rfl rfl) (krc_f_X12_entry_85 N (RS.setA (RS.setA (RS.setA (RS.setA (RS.setA σ 25 (((σ.i 24) : Int32).toNatClampNeg) x2) 26 (((σ.i 24) : Int32).toNatClampNeg) (σ.i 20)) 27 (((σ.i 24) : Int32).toNatClampNeg) (-1)) 28 (((σ.i 24) : Int32).toNatClampNeg) (vp_nar .boolean x3)) 22 (((σ.a 66 ((x1 : Int32).toNatClampNeg)) : Int32).toNatClampNeg) (σ.i 24)) x1)) kvc_none)) kvc_none) kvc_none)
theorem krc_f_X12_caseNumber_140 (N : Nat) (σ : RS) : KRc σ (f_X12_caseNumber_140 N σ) := by
  unfold f_X12_caseNumber_140
  exact (krc_ite (krc_some (KEC.of rfl rfl)) (krc_some (KEC.of rfl rfl)))
theorem krc_b_X12_caseNumber_75 (N : Nat) (K : RS → Int32 → Int32 → Int32 → Option (Int32 × RS)) (hK : ∀ (σ : RS) (y0 : Int32) (y1 : Int32) (y2 : Int32), KRc σ (K σ y0 y1 y2)) (σ : RS) (x1 : Int32) (x3 : Int32) (x4 : Int32) : KRc σ (b_X12_caseNumber_75 N K σ x1 x3 x4) := by
  unfold b_X12_caseNumber_75
  exact (krc_ite (krc_ite (krc_bindv (kvc_st (KEC.of rfl rfl) (krc_f_X12_entry N σ x1 x3 0)) (fun p13 => (krc_bindv (kvc_st (KEC.of rfl rfl) (krc_f_X12_next N p13)) (fun p15 => (krc_st (KEC.of rfl rfl) (krc_f_X12_caseNumber_140 N p15)))))) (krc_st (KEC.of rfl rfl) (krc_f_X12_caseNumber_140 N σ))) (krc_ite (krc_ite (krc_ite (krc_bindv (kvc_st (KEC.of rfl rfl) (krc_f_X12_fail N σ 4 (σ.i 11))) (fun p20 => (krc_st (KEC.of rfl rfl) (hK p20 x1 x3 (p20.a 27 ((x4 : Int32).toNatClampNeg)))))) (krc_st (KEC.of rfl rfl) (hK σ x1 x3 (σ.a 27 ((x4 : Int32).toNatClampNeg))))) (krc_st (KEC.of rfl rfl) (hK σ x1 x3 (σ.a 27 ((x4 : Int32).toNatClampNeg))))) krc_none))
theorem krc_f_X12_caseNumber_75 (N : Nat) : ∀ (n : Nat) (σ : RS) (y0 : Int32) (y1 : Int32) (y2 : Int32), KRc σ (f_X12_caseNumber_75 N n σ y0 y1 y2)
  | 0, _, _, _, _ => krc_none
  | n+1, σ, y0, y1, y2 => krc_b_X12_caseNumber_75 N (f_X12_caseNumber_75 N n) (fun σ y0 y1 y2 => krc_f_X12_caseNumber_75 N n σ y0 y1 y2) σ y0 y1 y2
theorem krc_f_X12_caseNumber_62 (N : Nat) (σ : RS) (x1 : Int32) (x3 : Int32) : KRc σ (f_X12_caseNumber_62 N σ x1 x3) := by
  unfold f_X12_caseNumber_62
  exact (krc_ite (krc_ite (krc_st (KEC.of rfl rfl) (krc_f_X12_caseNumber_75 N N σ x1 x3 (σ.a 22 (((σ.a 66 ((x1 : Int32).toNatClampNeg)) : Int32).toNatClampNeg)))) krc_none) krc_none)
theorem krc_f_X12_caseNumber_45 (N : Nat) (σ : RS) (x1 : Int32) (x2 : Int32) : KRc σ (f_X12_caseNumber_45 N σ x1 x2) := by
  unfold f_X12_caseNumber_45
  exact (krc_ite (krc_st (KEC.of rfl rfl) (krc_f_X12_caseNumber_62 N σ x1 (σ.i 14))) (krc_st (KEC.of rfl rfl) (krc_f_X12_caseNumber_62 N σ x1 (-(σ.i 14)))))
theorem krc_f_X12_caseNumber_43 (N : Nat) (σ : RS) : KRc σ (f_X12_caseNumber_43 N σ) := by
  unfold f_X12_caseNumber_43
  exact (krc_some (KEC.of rfl rfl))
theorem krc_f_X12_caseNumber_23 (N : Nat) (σ : RS) (x1 : Int32) (x2 : Int32) : KRc σ (f_X12_caseNumber_23 N σ x1 x2) := by
  unfold f_X12_caseNumber_23
  exact (krc_ite (krc_bind (krc_st (KEC.of rfl rfl) (krc_f_X12_can N σ 1)) (fun p22 => (krc_ite (krc_st (KEC.of rfl rfl) (krc_f_X12_caseNumber_43 N p22.2)) (krc_st (KEC.of rfl rfl) (krc_f_X12_caseNumber_45 N p22.2 x1 x2))))) (krc_bind (krc_st (KEC.of rfl rfl) (krc_f_X12_can N σ 0)) (fun p4 => (krc_ite (krc_st (KEC.of rfl rfl) (krc_f_X12_caseNumber_43 N p4.2)) (krc_st (KEC.of rfl rfl) (krc_f_X12_caseNumber_45 N p4.2 x1 x2))))))
theorem krc_f_X12_caseNumber_15 (N : Nat) (σ : RS) (x1 : Int32) (x2 : Int32) : KRc σ (f_X12_caseNumber_15 N σ x1 x2) := by
  unfold f_X12_caseNumber_15
  exact (krc_ite (krc_st (KEC.of rfl rfl) (krc_f_X12_caseNumber_23 N σ x1 x2)) (krc_bindv (kvc_st (KEC.of rfl rfl) (krc_f_X12_next N σ)) (fun p25 => (krc_st (KEC.of rfl rfl) (krc_f_X12_caseNumber_23 N p25 x1 x2)))))
theorem krc_f_X12_caseNumber (N : Nat) (σ : RS) (x1 : Int32) : KRc σ (f_X12_caseNumber N σ x1) := by
  unfold f_X12_caseNumber
  exact (krc_ite (krc_st (KEC.of rfl rfl) (krc_f_X12_caseNumber_15 N σ x1 1)) (krc_st (KEC.of rfl rfl) (krc_f_X12_caseNumber_15 N σ x1 0)))
theorem krc_f_X12_groups_335 (N : Nat) (σ : RS) : KVc σ (f_X12_groups_335 N σ) := by
  unfold f_X12_groups_335
  exact (kvc_some (KEC.of rfl rfl))
theorem krc_f_X12_groups_356 (N : Nat) (σ : RS) (x1 : Int32) : KVc σ (f_X12_groups_356 N σ x1) := by
  unfold f_X12_groups_356
  exact (kvc_ite (kvc_some (KEC.of rfl rfl)) kvc_none)
theorem krc_f_X12_groups (N : Nat) (σ : RS) (x1 : Int32) : KVc σ (f_X12_groups N σ x1) := by
  unfold f_X12_groups
  exact (kvc_ite (kvc_ite (kvc_bindv (kvc_st (KEC.of rfl rfl) (krc_f_X12_next N σ)) (fun p3 => (kvc_bind (krc_st (KEC.of rfl rfl) (krc_f_X12_open N p3 40)) (fun p5 => (kvc_bindv (kvc_st (KEC.of rfl rfl) (krc_f_X12_then N p5.2 1 16)) (fun p7 => (kvc_some (KEC.of rfl rfl)))))))) (kvc_ite (kvc_bind (krc_st (KEC.of rfl rfl) (krc_f_X12_shut N σ 41)) (fun p10 => (kvc_bind (krc_st (KEC.of rfl rfl) (krc_f_X12_emit N p10.2 28 (-1))) (fun p12 => (kvc_bind (krc_st (KEC.of rfl rfl) (krc_f_X12_goal N (RS.setA (RS.setA (RS.setA (RS.setA (RS.setA p12.2 66 ((x1 : Int32).toNatClampNeg) p12.1) 67 ((x1 : Int32).toNatClampNeg) (-1)) 68 ((x1 : Int32).toNatClampNeg) 0) 70 ((x1 : Int32).toNatClampNeg) 1) 71 ((x1 : Int32).toNatClampNeg) (p12.2.i 38)) 1 0)) (fun p14 => (kvc_bind (krc_st (KEC.of rfl rfl) (krc_f_X12_open N (RS.setA p14.2 72 ((x1 : Int32).toNatClampNeg) p14.1) 123)) (fun p16 => (kvc_some (KEC.of rfl rfl)))))))))) (kvc_ite (kvc_ite (kvc_bindv (kvc_st (KEC.of rfl rfl) (krc_f_X12_next N σ)) (fun p49 => (kvc_bind (krc_st (KEC.of rfl rfl) (krc_f_X12_caseNumber N p49 x1)) (fun p51 => (kvc_ite (kvc_some (KEC.of rfl rfl)) (kvc_bind (krc_st (KEC.of rfl rfl) (krc_f_X12_need N p51.2 58)) (fun p54 => (kvc_bindv (kvc_st (KEC.of rfl rfl) (krc_f_X12_then N p54.2 3 1)) (fun p56 => (kvc_some (KEC.of rfl rfl))))))))))) (kvc_ite (kvc_ite (kvc_bindv (kvc_st (KEC.of rfl rfl) (krc_f_X12_fail N σ 4 (σ.i 11))) (fun p47 => (kvc_some (KEC.of rfl rfl)))) (kvc_bindv (kvc_st (KEC.of rfl rfl) (krc_f_X12_entry N (RS.setA σ 68 ((x1 : Int32).toNatClampNeg) 1) x1 0 1)) (fun p39 => (kvc_bindv (kvc_st (KEC.of rfl rfl) (krc_f_X12_next N p39)) (fun p41 => (kvc_bind (krc_st (KEC.of rfl rfl) (krc_f_X12_need N p41 58)) (fun p43 => (kvc_bindv (kvc_st (KEC.of rfl rfl) (krc_f_X12_then N p43.2 3 1)) (fun p45 => (kvc_some (KEC.of rfl rfl))))))))))) (kvc_bind (krc_st (KEC.of rfl rfl) (krc_f_X12_shut N σ 125)) (fun p21 => (kvc_ite (kvc_ite (kvc_bindv (kvc_st (KEC.of rfl rfl) (krc_f_X12_patch N (RS.setA p21.2 23 (((p21.2.a 66 ((x1 : Int32).toNatClampNeg)) : Int32).toNatClampNeg) (p21.2.i 20)) (p21.2.a 48 (((p21.2.a 72 ((x1 : Int32).toNatClampNeg)) : Int32).toNatClampNeg)) (p21.2.i 20))) (fun p25 => (kvc_ite (kvc_bindv (kvc_st (KEC.of rfl rfl) (krc_f_X12_over N (RS.setI (RS.setI p25 43 ((p25.i 43) - 1)) 38 (p25.a 71 ((x1 : Int32).toNatClampNeg))) 1)) (fun p28 => (kvc_st (KEC.of rfl rfl) (krc_f_X12_groups_335 N p28)))) (kvc_ite (kvc_bindv (kvc_st (KEC.of rfl rfl) (krc_f_X12_over N (RS.setI (RS.setI p25 43 ((p25.i 43) - 1)) 38 (p25.a 71 ((x1 : Int32).toNatClampNeg))) 1)) (fun p31 => (kvc_st (KEC.of rfl rfl) (krc_f_X12_groups_335 N p31)))) (kvc_ite (kvc_bindv (kvc_st (KEC.of rfl rfl) (krc_f_X12_over N (RS.setI (RS.setI p25 43 ((p25.i 43) - 1)) 38 (p25.a 71 ((x1 : Int32).toNatClampNeg))) 0)) (fun p34 => (kvc_st (KEC.of rfl rfl) (krc_f_X12_groups_335 N p34)))) (kvc_bindv (kvc_st (KEC.of rfl rfl) (krc_f_X12_over N (RS.setI (RS.setI p25 43 ((p25.i 43) - 1)) 38 (p25.a 71 ((x1 : Int32).toNatClampNeg))) 1)) (fun p36 => (kvc_st (KEC.of rfl rfl) (krc_f_X12_groups_335 N p36))))))))) kvc_none) kvc_none))))) (kvc_ite (kvc_st (KEC.of rfl rfl) (krc_f_X12_groups_356 N (RS.setA σ 70 ((x1 : Int32).toNatClampNeg) 0) x1)) (kvc_st (KEC.of rfl rfl) (krc_f_X12_groups_356 N (RS.setA σ 70 ((x1 : Int32).toNatClampNeg) 1) x1)))))) kvc_none)
theorem krc_b_X12_catching_323 (N : Nat) (K : RS → Int32 → Int32 → Option (RS)) (hK : ∀ (σ : RS) (y0 : Int32) (y1 : Int32), KVc σ (K σ y0 y1)) (σ : RS) (x4 : Int32) (x5 : Int32) : KVc σ (b_X12_catching_323 N K σ x4 x5) := by
  unfold b_X12_catching_323
  exact (kvc_ite (kvc_bindv (kvc_st (KEC.of rfl rfl) (krc_f_X12_then N σ 3 3)) (fun p20 => (kvc_some (KEC.of rfl rfl)))) (kvc_ite (kvc_st (KEC.of rfl rfl) (hK (RS.setA (RS.setA σ 35 ((x5 : Int32).toNatClampNeg) (σ.i 20)) 36 ((x5 : Int32).toNatClampNeg) x4) x4 (x5 + 1))) kvc_none))
theorem krc_f_X12_catching_323 (N : Nat) : ∀ (n : Nat) (σ : RS) (y0 : Int32) (y1 : Int32), KVc σ (f_X12_catching_323 N n σ y0 y1)
  | 0, _, _, _ => kvc_none
  | n+1, σ, y0, y1 => krc_b_X12_catching_323 N (f_X12_catching_323 N n) (fun σ y0 y1 => krc_f_X12_catching_323 N n σ y0 y1) σ y0 y1
theorem krc_f_X12_catching_277 (N : Nat) (σ : RS) (x2 : Int32) : KVc σ (f_X12_catching_277 N σ x2) := by
  unfold f_X12_catching_277
  exact (kvc_bind (krc_st (KEC.of rfl rfl) (krc_f_X12_seenAs N σ σ.l)) (fun p10 => (kvc_ite (kvc_bind (krc_st (KEC.of rfl rfl) (krc_f_X12_see N p10.2 p10.2.l 1)) (fun p13 => (kvc_bindv (kvc_st (KEC.of rfl rfl) (krc_f_X12_next N p13.2)) (fun p15 => (kvc_bind (krc_st (KEC.of rfl rfl) (krc_f_X12_shut N p15 41)) (fun p17 => (kvc_st (KEC.of rfl rfl) (krc_f_X12_catching_323 N N p17.2 p13.1 x2)))))))) (kvc_bindv (kvc_st (KEC.of rfl rfl) (krc_f_X12_fail N p10.2 4 (p10.2.i 11))) (fun p23 => (kvc_some (KEC.of rfl rfl)))))))
theorem krc_f_X12_catching_256 (N : Nat) (σ : RS) (x2 : Int32) : KVc σ (f_X12_catching_256 N σ x2) := by
  unfold f_X12_catching_256
  exact (kvc_ite (kvc_bind (krc_st (KEC.of rfl rfl) (krc_f_X12_can N σ 1)) (fun p25 => (kvc_ite (kvc_some (KEC.of rfl rfl)) (kvc_st (KEC.of rfl rfl) (krc_f_X12_catching_277 N p25.2 x2))))) (kvc_bind (krc_st (KEC.of rfl rfl) (krc_f_X12_can N σ 0)) (fun p7 => (kvc_ite (kvc_some (KEC.of rfl rfl)) (kvc_st (KEC.of rfl rfl) (krc_f_X12_catching_277 N p7.2 x2))))))
theorem krc_b_X12_catching_82 (N : Nat) (K18 : RS → Int32 → Int32 → Int32 → Option (RS)) (hK18 : ∀ (σ : RS) (y0 : Int32) (y1 : Int32) (y2 : Int32), KVc σ (K18 σ y0 y1 y2)) (K : RS → Int32 → Int32 → Int32 → Option (RS)) (hK : ∀ (σ : RS) (y0 : Int32) (y1 : Int32) (y2 : Int32), KVc σ (K σ y0 y1 y2)) (σ : RS) (x1 : Int32) (x2 : Int32) (x4 : Int32) : KVc σ (b_X12_catching_82 N K18 K σ x1 x2 x4) := by
  unfold b_X12_catching_82
  exact (kvc_ite (kvc_ite (kvc_ite (kvc_ite (kvc_ite (kvc_bindv (kvc_st (KEC.of rfl rfl) (krc_f_X12_next N (RS.setI (RS.setA (RS.setA (RS.setA (RS.setA σ 34 (((σ.i 33) : Int32).toNatClampNeg) (σ.i 14)) 37 (((σ.i 33) : Int32).toNatClampNeg) (-1)) 37 (((σ.a 72 ((x1 : Int32).toNatClampNeg)) : Int32).toNatClampNeg) (σ.i 33)) 72 ((x1 : Int32).toNatClampNeg) (σ.i 33)) 33 ((σ.i 33) + 1)))) (fun p41 => (kvc_ite (kvc_ite (kvc_bindv (kvc_st (KEC.of rfl rfl) (krc_f_X12_next N p41)) (fun p45 => (kvc_st (KEC.of rfl rfl) (hK18 p45 x1 x2 1)))) (kvc_st (KEC.of rfl rfl) (hK18 p41 x1 x2 0))) (kvc_st (KEC.of rfl rfl) (hK18 p41 x1 x2 0))))) kvc_none) (kvc_ite (kvc_bindv (kvc_st (KEC.of rfl rfl) (krc_f_X12_next N (RS.setI (RS.setA (RS.setA (RS.setA (RS.setA σ 34 (((σ.i 33) : Int32).toNatClampNeg) (σ.i 14)) 37 (((σ.i 33) : Int32).toNatClampNeg) (-1)) 30 (((σ.a 66 ((x1 : Int32).toNatClampNeg)) : Int32).toNatClampNeg) (σ.i 33)) 72 ((x1 : Int32).toNatClampNeg) (σ.i 33)) 33 ((σ.i 33) + 1)))) (fun p48 => (kvc_ite (kvc_ite (kvc_bindv (kvc_st (KEC.of rfl rfl) (krc_f_X12_next N p48)) (fun p52 => (kvc_st (KEC.of rfl rfl) (hK18 p52 x1 x2 1)))) (kvc_st (KEC.of rfl rfl) (hK18 p48 x1 x2 0))) (kvc_st (KEC.of rfl rfl) (hK18 p48 x1 x2 0))))) kvc_none)) kvc_none) kvc_none) (kvc_ite (kvc_ite (kvc_bind (krc_st (KEC.of rfl rfl) (krc_f_X12_isUnder N σ (σ.i 14) (σ.a 34 ((x4 : Int32).toNatClampNeg)))) (fun p73 => (kvc_ite (kvc_st (KEC.of rfl rfl) (hK p73.2 x1 x2 (p73.2.a 37 ((x4 : Int32).toNatClampNeg)))) (kvc_bindv (kvc_st (KEC.of rfl rfl) (krc_f_X12_fail N p73.2 6 (p73.2.i 11))) (fun p76 => (kvc_st (KEC.of rfl rfl) (hK p76 x1 x2 (p76.a 37 ((x4 : Int32).toNatClampNeg))))))))) kvc_none) (kvc_ite (kvc_ite (kvc_ite (kvc_ite (kvc_bindv (kvc_st (KEC.of rfl rfl) (krc_f_X12_next N (RS.setI (RS.setA (RS.setA (RS.setA (RS.setA σ 34 (((σ.i 33) : Int32).toNatClampNeg) (σ.i 14)) 37 (((σ.i 33) : Int32).toNatClampNeg) (-1)) 37 (((σ.a 72 ((x1 : Int32).toNatClampNeg)) : Int32).toNatClampNeg) (σ.i 33)) 72 ((x1 : Int32).toNatClampNeg) (σ.i 33)) 33 ((σ.i 33) + 1)))) (fun p59 => (kvc_ite (kvc_ite (kvc_bindv (kvc_st (KEC.of rfl rfl) (krc_f_X12_next N p59)) (fun p63 => (kvc_st (KEC.of rfl rfl) (hK18 p63 x1 x2 1)))) (kvc_st (KEC.of rfl rfl) (hK18 p59 x1 x2 0))) (kvc_st (KEC.of rfl rfl) (hK18 p59 x1 x2 0))))) kvc_none) (kvc_ite (kvc_bindv (kvc_st (KEC.of rfl rfl) (krc_f_X12_next N (RS.setI (RS.setA (RS.setA (RS.setA (RS.setA σ 34 (((σ.i 33) : Int32).toNatClampNeg) (σ.i 14)) 37 (((σ.i 33) : Int32).toNatClampNeg) (-1)) 30 (((σ.a 66 ((x1 : Int32).toNatClampNeg)) : Int32).toNatClampNeg) (σ.i 33)) 72 ((x1 : Int32).toNatClampNeg) (σ.i 33)) 33 ((σ.i 33) + 1)))) (fun p66 => (kvc_ite (kvc_ite (kvc_bindv (kvc_st (KEC.of rfl rfl) (krc_f_X12_next N p66)) (fun p70 => (kvc_st (KEC.of rfl rfl) (hK18 p70 x1 x2 1)))) (kvc_st (KEC.of rfl rfl) (hK18 p66 x1 x2 0))) (kvc_st (KEC.of rfl rfl) (hK18 p66 x1 x2 0))))) kvc_none)) kvc_none) kvc_none)))
theorem krc_f_X12_catching_82 (N : Nat) (K18 : RS → Int32 → Int32 → Int32 → Option (RS)) (hK18 : ∀ (σ : RS) (w0 : Int32) (w1 : Int32) (w2 : Int32), KVc σ (K18 σ w0 w1 w2)) : ∀ (n : Nat) (σ : RS) (y0 : Int32) (y1 : Int32) (y2 : Int32), KVc σ (f_X12_catching_82 N K18 n σ y0 y1 y2)
  | 0, _, _, _, _ => kvc_none
  | n+1, σ, y0, y1, y2 => krc_b_X12_catching_82 N K18 hK18 (f_X12_catching_82 N K18 n) (fun σ y0 y1 y2 => krc_f_X12_catching_82 N K18 hK18 n σ y0 y1 y2) σ y0 y1 y2
theorem krc_b_X12_catching_18 (N : Nat) (K : RS → Int32 → Int32 → Int32 → Option (RS)) (hK : ∀ (σ : RS) (y0 : Int32) (y1 : Int32) (y2 : Int32), KVc σ (K σ y0 y1 y2)) (σ : RS) (x1 : Int32) (x2 : Int32) (x3 : Int32) : KVc σ (b_X12_catching_18 N K σ x1 x2 x3) := by
  unfold b_X12_catching_18
  exact (kvc_ite (kvc_st (KEC.of rfl rfl) (krc_f_X12_catching_256 N σ x2)) (kvc_ite (kvc_ite (kvc_bind (krc_st (KEC.of rfl rfl) (krc_f_X12_can N σ 1)) (fun p82 => (kvc_ite (kvc_st (KEC.of rfl rfl) (hK p82.2 x1 x2 x3)) (kvc_ite (kvc_ite (kvc_ite (kvc_st (KEC.of rfl rfl) (krc_f_X12_catching_82 N K hK N p82.2 x1 x2 (p82.2.a 30 (((p82.2.a 66 ((x1 : Int32).toNatClampNeg)) : Int32).toNatClampNeg)))) kvc_none) kvc_none) (kvc_bindv (kvc_st (KEC.of rfl rfl) (krc_f_X12_fail N p82.2 3 (p82.2.i 11))) (fun p88 => (kvc_ite (kvc_ite (kvc_st (KEC.of rfl rfl) (krc_f_X12_catching_82 N K hK N p88 x1 x2 (p88.a 30 (((p88.a 66 ((x1 : Int32).toNatClampNeg)) : Int32).toNatClampNeg)))) kvc_none) kvc_none))))))) (kvc_bind (krc_st (KEC.of rfl rfl) (krc_f_X12_can N σ 0)) (fun p30 => (kvc_ite (kvc_st (KEC.of rfl rfl) (hK p30.2 x1 x2 x3)) (kvc_ite (kvc_ite (kvc_ite (kvc_st (KEC.of rfl rfl) (krc_f_X12_catching_82 N K hK N p30.2 x1 x2 (p30.2.a 30 (((p30.2.a 66 ((x1 : Int32).toNatClampNeg)) : Int32).toNatClampNeg)))) kvc_none) kvc_none) (kvc_bindv (kvc_st (KEC.of rfl rfl) (krc_f_X12_fail N p30.2 3 (p30.2.i 11))) (fun p78 => (kvc_ite (kvc_ite (kvc_st (KEC.of rfl rfl) (krc_f_X12_catching_82 N K hK N p78 x1 x2 (p78.a 30 (((p78.a 66 ((x1 : Int32).toNatClampNeg)) : Int32).toNatClampNeg)))) kvc_none) kvc_none)))))))) (kvc_st (KEC.of rfl rfl) (krc_f_X12_catching_256 N σ x2))))
theorem krc_f_X12_catching_18 (N : Nat) : ∀ (n : Nat) (σ : RS) (y0 : Int32) (y1 : Int32) (y2 : Int32), KVc σ (f_X12_catching_18 N n σ y0 y1 y2)
  | 0, _, _, _, _ => kvc_none
  | n+1, σ, y0, y1, y2 => krc_b_X12_catching_18 N (f_X12_catching_18 N n) (fun σ y0 y1 y2 => krc_f_X12_catching_18 N n σ y0 y1 y2) σ y0 y1 y2
theorem krc_f_X12_catching (N : Nat) (σ : RS) (x1 : Int32) : KVc σ (f_X12_catching N σ x1) := by
  unfold f_X12_catching
  exact (kvc_bindv (kvc_st (KEC.of rfl rfl) (krc_f_X12_next N σ)) (fun p1 => (kvc_bind (krc_st (KEC.of rfl rfl) (krc_f_X12_open N p1 40)) (fun p3 => (kvc_st (KEC.of rfl rfl) (krc_f_X12_catching_18 N N p3.2 x1 (σ.i 33) 1))))))
theorem krc_f_X12_endTry (N : Nat) (σ : RS) (x1 : Int32) (x2 : Int32) : KVc σ (f_X12_endTry N σ x1 x2) := by
  unfold f_X12_endTry
  exact (kvc_ite (kvc_ite (kvc_bindv (kvc_st (KEC.of rfl rfl) (krc_f_X12_resolve N (RS.setA (RS.setI σ 52 ((σ.i 52) - 1)) 32 (((σ.a 66 ((x1 : Int32).toNatClampNeg)) : Int32).toNatClampNeg) (σ.i 20)) (σ.a 66 ((x1 : Int32).toNatClampNeg)) x2)) (fun p3 => (kvc_ite (kvc_bindv (kvc_st (KEC.of rfl rfl) (krc_f_X12_over N p3 0)) (fun p6 => (kvc_some (KEC.of rfl rfl)))) (kvc_ite (kvc_bindv (kvc_st (KEC.of rfl rfl) (krc_f_X12_over N p3 1)) (fun p11 => (kvc_some (KEC.of rfl rfl)))) (kvc_bindv (kvc_st (KEC.of rfl rfl) (krc_f_X12_over N p3 0)) (fun p9 => (kvc_some (KEC.of rfl rfl)))))))) kvc_none) kvc_none)
theorem krc_f_X12_trying_215 (N : Nat) (σ : RS) (x1 : Int32) : KVc σ (f_X12_trying_215 N σ x1) := by
  unfold f_X12_trying_215
  exact (kvc_ite (kvc_ite (kvc_bindv (kvc_st (KEC.of rfl rfl) (krc_f_X12_then N (RS.setA (RS.setI (RS.setA (RS.setA σ 57 (((σ.i 56) : Int32).toNatClampNeg) (σ.a 66 ((x1 : Int32).toNatClampNeg))) 58 (((σ.i 56) : Int32).toNatClampNeg) (σ.i 43)) 56 ((σ.i 56) + 1)) 72 ((x1 : Int32).toNatClampNeg) (-1)) 1 3)) (fun p13 => (kvc_some (KEC.of rfl rfl)))) kvc_none) kvc_none)
theorem krc_b_X12_trying_140 (N : Nat) (K : RS → Int32 → Int32 → Option (RS)) (hK : ∀ (σ : RS) (y0 : Int32) (y1 : Int32), KVc σ (K σ y0 y1)) (σ : RS) (x1 : Int32) (x2 : Int32) : KVc σ (b_X12_trying_140 N K σ x1 x2) := by
  unfold b_X12_trying_140
  exact (kvc_ite (kvc_st (KEC.of rfl rfl) (krc_f_X12_trying_215 N σ x1)) (kvc_ite (kvc_bindv (kvc_st (KEC.of rfl rfl) (krc_f_X12_next N σ)) (fun p16 => (kvc_ite (kvc_bind (krc_st (KEC.of rfl rfl) (krc_f_X12_can N p16 1)) (fun p30 => (kvc_ite (kvc_ite (kvc_ite (kvc_st (KEC.of rfl rfl) (hK p30.2 x1 1)) (kvc_st (KEC.of rfl rfl) (hK p30.2 x1 0))) (kvc_st (KEC.of rfl rfl) (hK p30.2 x1 0))) (kvc_bind (krc_st (KEC.of rfl rfl) (krc_f_X12_emit N p30.2 32 (p30.2.i 14))) (fun p35 => (kvc_bindv (kvc_st (KEC.of rfl rfl) (krc_f_X12_next N p35.2)) (fun p37 => (kvc_ite (kvc_ite (kvc_st (KEC.of rfl rfl) (hK p37 x1 1)) (kvc_st (KEC.of rfl rfl) (hK p37 x1 0))) (kvc_st (KEC.of rfl rfl) (hK p37 x1 0)))))))))) (kvc_bind (krc_st (KEC.of rfl rfl) (krc_f_X12_can N p16 0)) (fun p19 => (kvc_ite (kvc_ite (kvc_ite (kvc_st (KEC.of rfl rfl) (hK p19.2 x1 1)) (kvc_st (KEC.of rfl rfl) (hK p19.2 x1 0))) (kvc_st (KEC.of rfl rfl) (hK p19.2 x1 0))) (kvc_bind (krc_st (KEC.of rfl rfl) (krc_f_X12_emit N p19.2 32 (p19.2.i 14))) (fun p24 => (kvc_bindv (kvc_st (KEC.of rfl rfl) (krc_f_X12_next N p24.2)) (fun p26 => (kvc_ite (kvc_ite (kvc_st (KEC.of rfl rfl) (hK p26 x1 1)) (kvc_st (KEC.of rfl rfl) (hK p26 x1 0))) (kvc_st (KEC.of rfl rfl) (hK p26 x1 0))))))))))))) (kvc_st (KEC.of rfl rfl) (krc_f_X12_trying_215 N σ x1))))
theorem krc_f_X12_trying_140 (N : Nat) : ∀ (n : Nat) (σ : RS) (y0 : Int32) (y1 : Int32), KVc σ (f_X12_trying_140 N n σ y0 y1)
  | 0, _, _, _ => kvc_none
  | n+1, σ, y0, y1 => krc_b_X12_trying_140 N (f_X12_trying_140 N n) (fun σ y0 y1 => krc_f_X12_trying_140 N n σ y0 y1) σ y0 y1
theorem krc_f_X12_trying_124 (N : Nat) (σ : RS) (x1 : Int32) : KVc σ (f_X12_trying_124 N σ x1) := by
  unfold f_X12_trying_124
  exact (kvc_ite (kvc_st (KEC.of rfl rfl) (krc_f_X12_trying_140 N N σ x1 1)) (kvc_st (KEC.of rfl rfl) (krc_f_X12_trying_140 N N σ x1 0)))
theorem krc_f_X12_trying_287 (N : Nat) (σ : RS) (x1 : Int32) : KVc σ (f_X12_trying_287 N σ x1) := by
  unfold f_X12_trying_287
  exact (kvc_ite (kvc_bind (krc_st (KEC.of rfl rfl) (krc_f_X12_emit N σ 33 (σ.a 66 ((x1 : Int32).toNatClampNeg)))) (fun p44 => (kvc_some (KEC.of rfl rfl)))) kvc_none)
theorem krc_f_X12_trying_417 (N : Nat) (σ : RS) (x1 : Int32) : KVc σ (f_X12_trying_417 N σ x1) := by
  unfold f_X12_trying_417
  exact (kvc_bindv (kvc_st (KEC.of rfl rfl) (krc_f_X12_endTry N (RS.setI σ 56 ((σ.i 56) - 1)) x1 1)) (fun p53 => (kvc_some (KEC.of rfl rfl))))
theorem krc_f_X12_trying_464 (N : Nat) (σ : RS) (x1 : Int32) : KVc σ (f_X12_trying_464 N σ x1) := by
  unfold f_X12_trying_464
  exact (kvc_ite (kvc_bind (krc_st (KEC.of rfl rfl) (krc_f_X12_emit N σ 34 (σ.a 66 ((x1 : Int32).toNatClampNeg)))) (fun p72 => (kvc_some (KEC.of rfl rfl)))) kvc_none)
theorem krc_f_X12_trying (N : Nat) (σ : RS) (x1 : Int32) : KVc σ (f_X12_trying N σ x1) := by
  unfold f_X12_trying
  exact (kvc_ite (kvc_ite (kvc_bindv (kvc_st (KEC.of rfl rfl) (krc_f_X12_next N σ)) (fun p3 => (kvc_ite (kvc_bind (krc_st (KEC.of rfl rfl) (krc_f_X12_emit N (RS.setI (RS.setA (RS.setA (RS.setA p3 66 ((x1 : Int32).toNatClampNeg) (p3.i 29)) 30 (((p3.i 29) : Int32).toNatClampNeg) (-1)) 31 (((p3.i 29) : Int32).toNatClampNeg) (-1)) 29 ((p3.i 29) + 1)) 31 ((upd (p3.a 66) ((x1 : Int32).toNatClampNeg) (p3.i 29)) ((x1 : Int32).toNatClampNeg)))) (fun p6 => (kvc_ite (kvc_st (KEC.of rfl rfl) (krc_f_X12_trying_124 N (RS.setA (RS.setI p6.2 52 ((p6.2.i 52) + 1)) 67 ((x1 : Int32).toNatClampNeg) 1) x1)) (kvc_st (KEC.of rfl rfl) (krc_f_X12_trying_124 N (RS.setA (RS.setI p6.2 52 ((p6.2.i 52) + 1)) 67 ((x1 : Int32).toNatClampNeg) 0) x1))))) kvc_none))) (kvc_ite (kvc_ite (kvc_st (KEC.of rfl rfl) (krc_f_X12_trying_287 N (RS.setA σ 68 ((x1 : Int32).toNatClampNeg) 0) x1)) (kvc_st (KEC.of rfl rfl) (krc_f_X12_trying_287 N (RS.setA σ 68 ((x1 : Int32).toNatClampNeg) 1) x1))) (kvc_ite (kvc_ite (kvc_bindv (kvc_st (KEC.of rfl rfl) (krc_f_X12_catching N (RS.setA σ 71 ((x1 : Int32).toNatClampNeg) (σ.i 38)) x1)) (fun p67 => (kvc_some (KEC.of rfl rfl)))) (kvc_ite (kvc_bindv (kvc_st (KEC.of rfl rfl) (krc_f_X12_next N (RS.setI σ 56 ((σ.i 56) - 1)))) (fun p62 => (kvc_ite (kvc_bindv (kvc_st (KEC.of rfl rfl) (krc_f_X12_then N (RS.setA p62 31 (((p62.a 66 ((x1 : Int32).toNatClampNeg)) : Int32).toNatClampNeg) (p62.i 20)) 4 3)) (fun p65 => (kvc_some (KEC.of rfl rfl)))) kvc_none))) (kvc_ite (kvc_bind (krc_st (KEC.of rfl rfl) (krc_f_X12_can N σ 1)) (fun p50 => (kvc_ite (kvc_some (KEC.of rfl rfl)) (kvc_st (KEC.of rfl rfl) (krc_f_X12_trying_417 N p50.2 x1))))) (kvc_ite (kvc_bind (krc_st (KEC.of rfl rfl) (krc_f_X12_can N σ 0)) (fun p56 => (kvc_ite (kvc_some (KEC.of rfl rfl)) (kvc_st (KEC.of rfl rfl) (krc_f_X12_trying_417 N p56.2 x1))))) (kvc_bind (krc_st (KEC.of rfl rfl) (krc_f_X12_can N σ 1)) (fun p59 => (kvc_ite (kvc_some (KEC.of rfl rfl)) (kvc_st (KEC.of rfl rfl) (krc_f_X12_trying_417 N p59.2 x1))))))))) (kvc_ite (kvc_ite (kvc_ite (kvc_st (KEC.of rfl rfl) (krc_f_X12_trying_464 N (RS.setA σ 68 ((x1 : Int32).toNatClampNeg) 1) x1)) (kvc_st (KEC.of rfl rfl) (krc_f_X12_trying_464 N (RS.setA σ 68 ((x1 : Int32).toNatClampNeg) 0) x1))) (kvc_st (KEC.of rfl rfl) (krc_f_X12_trying_464 N (RS.setA σ 68 ((x1 : Int32).toNatClampNeg) 1) x1))) (kvc_bind (krc_st (KEC.of rfl rfl) (krc_f_X12_emit N σ 35 (σ.a 66 ((x1 : Int32).toNatClampNeg)))) (fun p75 => (kvc_bindv (kvc_st (KEC.of rfl rfl) (krc_f_X12_endTry N p75.2 x1 (p75.2.i 75))) (fun p77 => (kvc_some (KEC.of rfl rfl)))))))))) kvc_none)
theorem krc_f_X12_sums_39 (N : Nat) (σ : RS) (x1 : Int32) (x2 : Int32) (x3 : Int32) : KVc σ (f_X12_sums_39 N σ x1 x2 x3) := by
  unfold f_X12_sums_39
  exact (kvc_ite (kvc_some (KEC.of rfl rfl)) (kvc_ite (kvc_bindv (kvc_st (KEC.of rfl rfl) (krc_f_X12_next N (RS.setA σ 66 ((x1 : Int32).toNatClampNeg) (σ.i 10)))) (fun p6 => (kvc_bindv (kvc_st (KEC.of rfl rfl) (krc_f_X12_then N p6 2 x2)) (fun p8 => (kvc_some (KEC.of rfl rfl)))))) kvc_none))
theorem krc_f_X12_sums (N : Nat) (σ : RS) (x1 : Int32) (x2 : Int32) (x3 : Int32) : KVc σ (f_X12_sums N σ x1 x2 x3) := by
  unfold f_X12_sums
  exact (kvc_ite (kvc_ite (kvc_bindv (kvc_st (KEC.of rfl rfl) (krc_f_X12_then N σ 1 x2)) (fun p12 => (kvc_some (KEC.of rfl rfl)))) (kvc_ite (kvc_bind (krc_st (KEC.of rfl rfl) (krc_f_X12_emit N σ 8 (σ.a 66 ((x1 : Int32).toNatClampNeg)))) (fun p10 => (kvc_st (KEC.of rfl rfl) (krc_f_X12_sums_39 N p10.2 x1 x2 x3)))) (kvc_st (KEC.of rfl rfl) (krc_f_X12_sums_39 N σ x1 x2 x3)))) kvc_none)
theorem krc_f_X12_factor_215 (N : Nat) (σ : RS) : KVc σ (f_X12_factor_215 N σ) := by
  unfold f_X12_factor_215
  exact (kvc_bindv (kvc_st (KEC.of rfl rfl) (krc_f_X12_next N σ)) (fun p31 => (kvc_some (KEC.of rfl rfl))))
theorem krc_f_X12_factor_124 (N : Nat) (σ : RS) (x1 : Int32) : KVc σ (f_X12_factor_124 N σ x1) := by
  unfold f_X12_factor_124
  exact (kvc_ite (kvc_bind (krc_st (KEC.of rfl rfl) (krc_f_X12_emit N σ 2 (σ.i 14))) (fun p37 => (kvc_bindv (kvc_st (KEC.of rfl rfl) (krc_f_X12_next N p37.2)) (fun p39 => (kvc_some (KEC.of rfl rfl)))))) (kvc_ite (kvc_bind (krc_st (KEC.of rfl rfl) (krc_f_X12_seenAs N σ σ.l)) (fun p24 => (kvc_ite (kvc_ite (kvc_ite (kvc_bind (krc_st (KEC.of rfl rfl) (krc_f_X12_emit N p24.2 3 (p24.2.a 40 ((p24.1 : Int32).toNatClampNeg)))) (fun p29 => (kvc_st (KEC.of rfl rfl) (krc_f_X12_factor_215 N p29.2)))) (kvc_bind (krc_st (KEC.of rfl rfl) (krc_f_X12_emit N p24.2 4 (p24.2.a 40 ((p24.1 : Int32).toNatClampNeg)))) (fun p33 => (kvc_st (KEC.of rfl rfl) (krc_f_X12_factor_215 N p33.2))))) kvc_none) (kvc_bindv (kvc_st (KEC.of rfl rfl) (krc_f_X12_fail N p24.2 3 (p24.2.i 11))) (fun p35 => (kvc_some (KEC.of rfl rfl))))))) (kvc_ite (kvc_bind (krc_st (KEC.of rfl rfl) (krc_f_X12_opens N σ)) (fun p17 => (kvc_ite (kvc_some (KEC.of rfl rfl)) (kvc_bindv (kvc_st (KEC.of rfl rfl) (krc_f_X12_next N p17.2)) (fun p20 => (kvc_bindv (kvc_st (KEC.of rfl rfl) (krc_f_X12_then N p20 1 18)) (fun p22 => (kvc_some (KEC.of rfl rfl))))))))) (kvc_ite (kvc_bind (krc_st (KEC.of rfl rfl) (krc_f_X12_open N σ 40)) (fun p13 => (kvc_bindv (kvc_st (KEC.of rfl rfl) (krc_f_X12_then N p13.2 2 16)) (fun p15 => (kvc_some (KEC.of rfl rfl)))))) (kvc_ite (kvc_some (KEC.of rfl rfl)) kvc_none)))))
theorem krc_f_X12_factor (N : Nat) (σ : RS) (x1 : Int32) : KVc σ (f_X12_factor N σ x1) := by
  unfold f_X12_factor
  exact (kvc_ite (kvc_ite (kvc_bind (krc_st (KEC.of rfl rfl) (krc_f_X12_emit N (RS.setI σ 19 ((σ.i 19) - 1)) 7 0)) (fun p62 => (kvc_some (KEC.of rfl rfl)))) (kvc_ite (kvc_bind (krc_st (KEC.of rfl rfl) (krc_f_X12_shut N σ 41)) (fun p60 => (kvc_some (KEC.of rfl rfl)))) (kvc_ite (kvc_bind (krc_st (KEC.of rfl rfl) (krc_f_X12_can N σ 1)) (fun p5 => (kvc_ite (kvc_some (KEC.of rfl rfl)) (kvc_st (KEC.of rfl rfl) (krc_f_X12_factor_124 N p5.2 x1))))) (kvc_ite (kvc_bind (krc_st (KEC.of rfl rfl) (krc_f_X12_can N σ 1)) (fun p42 => (kvc_ite (kvc_some (KEC.of rfl rfl)) (kvc_st (KEC.of rfl rfl) (krc_f_X12_factor_124 N p42.2 x1))))) (kvc_ite (kvc_bind (krc_st (KEC.of rfl rfl) (krc_f_X12_can N σ 1)) (fun p46 => (kvc_ite (kvc_some (KEC.of rfl rfl)) (kvc_st (KEC.of rfl rfl) (krc_f_X12_factor_124 N p46.2 x1))))) (kvc_ite (kvc_bind (krc_st (KEC.of rfl rfl) (krc_f_X12_can N σ 1)) (fun p50 => (kvc_ite (kvc_some (KEC.of rfl rfl)) (kvc_st (KEC.of rfl rfl) (krc_f_X12_factor_124 N p50.2 x1))))) (kvc_ite (kvc_bind (krc_st (KEC.of rfl rfl) (krc_f_X12_can N σ 1)) (fun p57 => (kvc_ite (kvc_some (KEC.of rfl rfl)) (kvc_st (KEC.of rfl rfl) (krc_f_X12_factor_124 N p57.2 x1))))) (kvc_bind (krc_st (KEC.of rfl rfl) (krc_f_X12_can N σ 0)) (fun p54 => (kvc_ite (kvc_some (KEC.of rfl rfl)) (kvc_st (KEC.of rfl rfl) (krc_f_X12_factor_124 N p54.2 x1)))))))))))) kvc_none)
theorem krc_f_X12_arms_250 (N : Nat) (σ : RS) (x1 : Int32) : KVc σ (f_X12_arms_250 N σ x1) := by
  unfold f_X12_arms_250
  exact (kvc_bind (krc_st (KEC.of rfl rfl) (krc_f_X12_shut N σ 125)) (fun p25 => (kvc_ite (kvc_ite (kvc_some (KEC.of rfl rfl)) kvc_none) kvc_none)))
theorem krc_f_X12_arms_333 (N : Nat) (σ : RS) : KVc σ (f_X12_arms_333 N σ) := by
  unfold f_X12_arms_333
  exact (kvc_ite (kvc_bindv (kvc_st (KEC.of rfl rfl) (krc_f_X12_next N σ)) (fun p51 => (kvc_some (KEC.of rfl rfl)))) (kvc_some (KEC.of rfl rfl)))
theorem krc_f_X12_arms_400 (N : Nat) (σ : RS) : KVc σ (f_X12_arms_400 N σ) := by
  unfold f_X12_arms_400
  exact (kvc_bindv (kvc_st (KEC.of rfl rfl) (krc_f_X12_then N σ 7 16)) (fun p62 => (kvc_some (KEC.of rfl rfl))))
theorem krc_f_X12_arms_435 (N : Nat) (σ : RS) (x1 : Int32) : KVc σ (f_X12_arms_435 N σ x1) := by
  unfold f_X12_arms_435
  exact (kvc_bind (krc_st (KEC.of rfl rfl) (krc_f_X12_shut N σ 125)) (fun p71 => (kvc_ite (kvc_some (KEC.of rfl rfl)) kvc_none)))
theorem krc_f_X12_arms (N : Nat) (σ : RS) (x1 : Int32) : KVc σ (f_X12_arms N σ x1) := by
  unfold f_X12_arms
  exact (kvc_ite (kvc_ite (kvc_bindv (kvc_st (KEC.of rfl rfl) (krc_f_X12_next N σ)) (fun p3 => (kvc_bind (krc_st (KEC.of rfl rfl) (krc_f_X12_open N p3 40)) (fun p5 => (kvc_bindv (kvc_st (KEC.of rfl rfl) (krc_f_X12_then N p5.2 1 16)) (fun p7 => (kvc_some (KEC.of rfl rfl)))))))) (kvc_ite (kvc_bind (krc_st (KEC.of rfl rfl) (krc_f_X12_shut N σ 41)) (fun p10 => (kvc_bind (krc_st (KEC.of rfl rfl) (krc_f_X12_emit N p10.2 29 (-1))) (fun p12 => (kvc_bind (krc_st (KEC.of rfl rfl) (krc_f_X12_goal N (RS.setI (RS.setA (RS.setA (RS.setA p12.2 66 ((x1 : Int32).toNatClampNeg) p12.1) 67 ((x1 : Int32).toNatClampNeg) (-1)) 68 ((x1 : Int32).toNatClampNeg) 0) 52 ((p12.2.i 52) + 1)) 3 0)) (fun p14 => (kvc_bind (krc_st (KEC.of rfl rfl) (krc_f_X12_open N p14.2 123)) (fun p16 => (kvc_some (KEC.of rfl rfl)))))))))) (kvc_ite (kvc_ite (kvc_bindv (kvc_st (KEC.of rfl rfl) (krc_f_X12_next N σ)) (fun p43 => (kvc_some (KEC.of rfl rfl)))) (kvc_ite (kvc_ite (kvc_bindv (kvc_st (KEC.of rfl rfl) (krc_f_X12_fail N σ 4 (σ.i 11))) (fun p41 => (kvc_some (KEC.of rfl rfl)))) (kvc_bindv (kvc_st (KEC.of rfl rfl) (krc_f_X12_entry N (RS.setA σ 68 ((x1 : Int32).toNatClampNeg) 1) x1 0 1)) (fun p37 => (kvc_bindv (kvc_st (KEC.of rfl rfl) (krc_f_X12_next N p37)) (fun p39 => (kvc_some (KEC.of rfl rfl))))))) (kvc_ite (kvc_ite (kvc_bind (krc_st (KEC.of rfl rfl) (krc_f_X12_can N σ 1)) (fun p33 => (kvc_ite (kvc_some (KEC.of rfl rfl)) (kvc_st (KEC.of rfl rfl) (krc_f_X12_arms_250 N p33.2 x1))))) (kvc_bind (krc_st (KEC.of rfl rfl) (krc_f_X12_can N σ 0)) (fun p30 => (kvc_ite (kvc_some (KEC.of rfl rfl)) (kvc_st (KEC.of rfl rfl) (krc_f_X12_arms_250 N p30.2 x1)))))) (kvc_bind (krc_st (KEC.of rfl rfl) (krc_f_X12_can N σ 0)) (fun p22 => (kvc_ite (kvc_some (KEC.of rfl rfl)) (kvc_st (KEC.of rfl rfl) (krc_f_X12_arms_250 N p22.2 x1)))))))) (kvc_ite (kvc_bind (krc_st (KEC.of rfl rfl) (krc_f_X12_caseNumber N σ x1)) (fun p46 => (kvc_ite (kvc_some (KEC.of rfl rfl)) (kvc_ite (kvc_st (KEC.of rfl rfl) (krc_f_X12_arms_333 N (RS.setA p46.2 65 ((x1 : Int32).toNatClampNeg) 3))) (kvc_st (KEC.of rfl rfl) (krc_f_X12_arms_333 N (RS.setA p46.2 65 ((x1 : Int32).toNatClampNeg) 5))))))) (kvc_ite (kvc_bind (krc_st (KEC.of rfl rfl) (krc_f_X12_need N σ 59)) (fun p54 => (kvc_bind (krc_st (KEC.of rfl rfl) (krc_f_X12_emit N p54.2 30 0)) (fun p56 => (kvc_some (KEC.of rfl rfl)))))) (kvc_ite (kvc_bind (krc_st (KEC.of rfl rfl) (krc_f_X12_need N σ 306)) (fun p59 => (kvc_ite (kvc_ite (kvc_bind (krc_st (KEC.of rfl rfl) (krc_f_X12_open N p59.2 123)) (fun p65 => (kvc_bindv (kvc_st (KEC.of rfl rfl) (krc_f_X12_then N (RS.setA p65.2 71 ((x1 : Int32).toNatClampNeg) (p65.2.i 38)) 6 1)) (fun p67 => (kvc_some (KEC.of rfl rfl)))))) (kvc_st (KEC.of rfl rfl) (krc_f_X12_arms_400 N p59.2))) (kvc_st (KEC.of rfl rfl) (krc_f_X12_arms_400 N p59.2))))) (kvc_ite (kvc_ite (kvc_st (KEC.of rfl rfl) (krc_f_X12_arms_435 N σ x1)) (kvc_ite (kvc_bindv (kvc_st (KEC.of rfl rfl) (krc_f_X12_note N σ (σ.i 11))) (fun p75 => (kvc_st (KEC.of rfl rfl) (krc_f_X12_arms_435 N p75 x1)))) (kvc_st (KEC.of rfl rfl) (krc_f_X12_arms_435 N σ x1)))) (kvc_bind (krc_st (KEC.of rfl rfl) (krc_f_X12_need N σ 59)) (fun p77 => (kvc_bind (krc_st (KEC.of rfl rfl) (krc_f_X12_emit N p77.2 30 0)) (fun p79 => (kvc_some (KEC.of rfl rfl))))))))))))) kvc_none)
theorem krc_f_X12_both_41 (N : Nat) (σ : RS) (x1 : Int32) (x2 : Int32) (x3 : Int32) (x4 : Int32) : KVc σ (f_X12_both_41 N σ x1 x2 x3 x4) := by
  unfold f_X12_both_41
  exact (kvc_ite (kvc_bindv (kvc_st (KEC.of rfl rfl) (krc_f_X12_next N σ)) (fun p5 => (kvc_bind (krc_st (KEC.of rfl rfl) (krc_f_X12_emit N p5 x4 0)) (fun p7 => (kvc_ite (kvc_bindv (kvc_st (KEC.of rfl rfl) (krc_f_X12_then N (RS.setA p7.2 66 ((x1 : Int32).toNatClampNeg) p7.1) 2 x2)) (fun p10 => (kvc_some (KEC.of rfl rfl)))) kvc_none))))) (kvc_some (KEC.of rfl rfl)))
theorem krc_f_X12_both (N : Nat) (σ : RS) (x1 : Int32) (x2 : Int32) (x3 : Int32) (x4 : Int32) : KVc σ (f_X12_both N σ x1 x2 x3 x4) := by
  unfold f_X12_both
  exact (kvc_ite (kvc_ite (kvc_bindv (kvc_st (KEC.of rfl rfl) (krc_f_X12_then N σ 1 x2)) (fun p13 => (kvc_some (KEC.of rfl rfl)))) (kvc_ite (kvc_ite (kvc_st (KEC.of rfl rfl) (krc_f_X12_both_41 N (RS.setA σ 22 (((σ.a 66 ((x1 : Int32).toNatClampNeg)) : Int32).toNatClampNeg) (σ.i 20)) x1 x2 x3 x4)) kvc_none) (kvc_st (KEC.of rfl rfl) (krc_f_X12_both_41 N σ x1 x2 x3 x4)))) kvc_none)
theorem krc_f_X12_one_133 (N : Nat) (σ : RS) : KVc σ (f_X12_one_133 N σ) := by
  unfold f_X12_one_133
  exact (kvc_bindv (kvc_st (KEC.of rfl rfl) (krc_f_X12_next N σ)) (fun p9 => (kvc_some (KEC.of rfl rfl))))
theorem krc_f_X12_one_112 (N : Nat) (σ : RS) : KVc σ (f_X12_one_112 N σ) := by
  unfold f_X12_one_112
  exact (kvc_ite (kvc_bind (krc_st (KEC.of rfl rfl) (krc_f_X12_emit N σ 2 1)) (fun p11 => (kvc_st (KEC.of rfl rfl) (krc_f_X12_one_133 N p11.2)))) (kvc_bind (krc_st (KEC.of rfl rfl) (krc_f_X12_emit N σ 2 0)) (fun p7 => (kvc_st (KEC.of rfl rfl) (krc_f_X12_one_133 N p7.2)))))
theorem krc_f_X12_one_281 (N : Nat) (σ : RS) (x1 : Int32) : KVc σ (f_X12_one_281 N σ x1) := by
  unfold f_X12_one_281
  exact (kvc_ite (kvc_bindv (kvc_st (KEC.of rfl rfl) (krc_f_X12_next N (RS.setA σ 66 ((x1 : Int32).toNatClampNeg) (σ.i 10)))) (fun p39 => (kvc_bindv (kvc_st (KEC.of rfl rfl) (krc_f_X12_then N p39 4 16)) (fun p41 => (kvc_some (KEC.of rfl rfl)))))) kvc_none)
theorem krc_f_X12_one (N : Nat) (σ : RS) (x1 : Int32) : KVc σ (f_X12_one N σ x1) := by
  unfold f_X12_one
  exact (kvc_ite (kvc_ite (kvc_ite (kvc_bind (krc_st (KEC.of rfl rfl) (krc_f_X12_opens N σ)) (fun p20 => (kvc_ite (kvc_some (KEC.of rfl rfl)) (kvc_bindv (kvc_st (KEC.of rfl rfl) (krc_f_X12_next N p20.2)) (fun p23 => (kvc_bindv (kvc_st (KEC.of rfl rfl) (krc_f_X12_then N p23 1 22)) (fun p25 => (kvc_some (KEC.of rfl rfl))))))))) (kvc_ite (kvc_bind (krc_st (KEC.of rfl rfl) (krc_f_X12_open N σ 91)) (fun p16 => (kvc_bindv (kvc_st (KEC.of rfl rfl) (krc_f_X12_then N p16.2 2 20)) (fun p18 => (kvc_some (KEC.of rfl rfl)))))) (kvc_ite (kvc_st (KEC.of rfl rfl) (krc_f_X12_one_112 N σ)) (kvc_ite (kvc_st (KEC.of rfl rfl) (krc_f_X12_one_112 N σ)) (kvc_bindv (kvc_st (KEC.of rfl rfl) (krc_f_X12_then N σ 3 16)) (fun p14 => (kvc_some (KEC.of rfl rfl)))))))) (kvc_ite (kvc_bind (krc_st (KEC.of rfl rfl) (krc_f_X12_emit N (RS.setI σ 19 ((σ.i 19) - 1)) 10 0)) (fun p28 => (kvc_some (KEC.of rfl rfl)))) (kvc_ite (kvc_bind (krc_st (KEC.of rfl rfl) (krc_f_X12_shut N σ 93)) (fun p31 => (kvc_some (KEC.of rfl rfl)))) (kvc_ite (kvc_ite (kvc_bind (krc_st (KEC.of rfl rfl) (krc_f_X12_can N σ 1)) (fun p35 => (kvc_ite (kvc_some (KEC.of rfl rfl)) (kvc_st (KEC.of rfl rfl) (krc_f_X12_one_281 N p35.2 x1))))) (kvc_ite (kvc_bind (krc_st (KEC.of rfl rfl) (krc_f_X12_can N σ 1)) (fun p44 => (kvc_ite (kvc_some (KEC.of rfl rfl)) (kvc_st (KEC.of rfl rfl) (krc_f_X12_one_281 N p44.2 x1))))) (kvc_ite (kvc_bind (krc_st (KEC.of rfl rfl) (krc_f_X12_can N σ 1)) (fun p48 => (kvc_ite (kvc_some (KEC.of rfl rfl)) (kvc_st (KEC.of rfl rfl) (krc_f_X12_one_281 N p48.2 x1))))) (kvc_ite (kvc_bind (krc_st (KEC.of rfl rfl) (krc_f_X12_can N σ 1)) (fun p52 => (kvc_ite (kvc_some (KEC.of rfl rfl)) (kvc_st (KEC.of rfl rfl) (krc_f_X12_one_281 N p52.2 x1))))) (kvc_ite (kvc_bind (krc_st (KEC.of rfl rfl) (krc_f_X12_can N σ 1)) (fun p56 => (kvc_ite (kvc_some (KEC.of rfl rfl)) (kvc_st (KEC.of rfl rfl) (krc_f_X12_one_281 N p56.2 x1))))) (kvc_ite (kvc_bind (krc_st (KEC.of rfl rfl) (krc_f_X12_can N σ 1)) (fun p63 => (kvc_ite (kvc_some (KEC.of rfl rfl)) (kvc_st (KEC.of rfl rfl) (krc_f_X12_one_281 N p63.2 x1))))) (kvc_bind (krc_st (KEC.of rfl rfl) (krc_f_X12_can N σ 0)) (fun p60 => (kvc_ite (kvc_some (KEC.of rfl rfl)) (kvc_st (KEC.of rfl rfl) (krc_f_X12_one_281 N p60.2 x1))))))))))) (kvc_bind (krc_st (KEC.of rfl rfl) (krc_f_X12_emit N σ 9 (σ.a 66 ((x1 : Int32).toNatClampNeg)))) (fun p66 => (kvc_some (KEC.of rfl rfl)))))))) kvc_none)
theorem krc_f_X12_thing_74 (N : Nat) (σ : RS) : KVc σ (f_X12_thing_74 N σ) := by
  unfold f_X12_thing_74
  exact (kvc_some (KEC.of rfl rfl))
theorem krc_f_X12_thing_116 (N : Nat) (σ : RS) : KVc σ (f_X12_thing_116 N σ) := by
  unfold f_X12_thing_116
  exact (kvc_some (KEC.of rfl rfl))
theorem krc_f_X12_thing (N : Nat) (σ : RS) (x1 : Int32) : KVc σ (f_X12_thing N σ x1) := by
  unfold f_X12_thing
  exact (kvc_ite (kvc_ite (kvc_ite (kvc_bindv (kvc_st (KEC.of rfl rfl) (krc_f_X12_sums N σ x1 17 1)) (fun p4 => (kvc_st (KEC.of rfl rfl) (krc_f_X12_thing_74 N p4)))) (kvc_ite (kvc_bindv (kvc_st (KEC.of rfl rfl) (krc_f_X12_sums N σ x1 17 1)) (fun p9 => (kvc_st (KEC.of rfl rfl) (krc_f_X12_thing_74 N p9)))) (kvc_bindv (kvc_st (KEC.of rfl rfl) (krc_f_X12_sums N σ x1 17 0)) (fun p7 => (kvc_st (KEC.of rfl rfl) (krc_f_X12_thing_74 N p7)))))) (kvc_ite (kvc_ite (kvc_bindv (kvc_st (KEC.of rfl rfl) (krc_f_X12_sums N σ x1 18 1)) (fun p13 => (kvc_st (KEC.of rfl rfl) (krc_f_X12_thing_116 N p13)))) (kvc_ite (kvc_bindv (kvc_st (KEC.of rfl rfl) (krc_f_X12_sums N σ x1 18 1)) (fun p16 => (kvc_st (KEC.of rfl rfl) (krc_f_X12_thing_116 N p16)))) (kvc_ite (kvc_bindv (kvc_st (KEC.of rfl rfl) (krc_f_X12_sums N σ x1 18 1)) (fun p21 => (kvc_st (KEC.of rfl rfl) (krc_f_X12_thing_116 N p21)))) (kvc_bindv (kvc_st (KEC.of rfl rfl) (krc_f_X12_sums N σ x1 18 0)) (fun p19 => (kvc_st (KEC.of rfl rfl) (krc_f_X12_thing_116 N p19))))))) (kvc_ite (kvc_bindv (kvc_st (KEC.of rfl rfl) (krc_f_X12_factor N σ x1)) (fun p24 => (kvc_some (KEC.of rfl rfl)))) (kvc_ite (kvc_bindv (kvc_st (KEC.of rfl rfl) (krc_f_X12_arms N σ x1)) (fun p27 => (kvc_some (KEC.of rfl rfl)))) (kvc_ite (kvc_bindv (kvc_st (KEC.of rfl rfl) (krc_f_X12_both N σ x1 21 305 11)) (fun p30 => (kvc_some (KEC.of rfl rfl)))) (kvc_ite (kvc_bindv (kvc_st (KEC.of rfl rfl) (krc_f_X12_both N σ x1 22 304 12)) (fun p33 => (kvc_some (KEC.of rfl rfl)))) (kvc_bindv (kvc_st (KEC.of rfl rfl) (krc_f_X12_one N σ x1)) (fun p35 => (kvc_some (KEC.of rfl rfl)))))))))) kvc_none)
theorem krc_b_X12_parse_10 (N : Nat) (K : RS → Option (RS)) (hK : ∀ (σ : RS), KVc σ (K σ)) (σ : RS) : KVc σ (b_X12_parse_10 N K σ) := by
  unfold b_X12_parse_10
  exact (kvc_ite (kvc_some (KEC.of rfl rfl)) (kvc_ite (kvc_ite (kvc_ite (kvc_bindv (kvc_st (KEC.of rfl rfl) (krc_f_X12_list N σ (σ.i 63))) (fun p7 => (kvc_st (KEC.of rfl rfl) (hK p7)))) (kvc_ite (kvc_bindv (kvc_st (KEC.of rfl rfl) (krc_f_X12_stat N σ (σ.i 63))) (fun p10 => (kvc_st (KEC.of rfl rfl) (hK p10)))) (kvc_ite (kvc_bindv (kvc_st (KEC.of rfl rfl) (krc_f_X12_block N σ (σ.i 63))) (fun p13 => (kvc_st (KEC.of rfl rfl) (hK p13)))) (kvc_ite (kvc_bindv (kvc_st (KEC.of rfl rfl) (krc_f_X12_tell N σ (σ.i 63))) (fun p16 => (kvc_st (KEC.of rfl rfl) (hK p16)))) (kvc_ite (kvc_bindv (kvc_st (KEC.of rfl rfl) (krc_f_X12_named N σ (σ.i 63))) (fun p19 => (kvc_st (KEC.of rfl rfl) (hK p19)))) (kvc_ite (kvc_bindv (kvc_st (KEC.of rfl rfl) (krc_f_X12_ending N σ (σ.i 63))) (fun p22 => (kvc_st (KEC.of rfl rfl) (hK p22)))) (kvc_ite (kvc_bindv (kvc_st (KEC.of rfl rfl) (krc_f_X12_throwing N σ (σ.i 63))) (fun p25 => (kvc_st (KEC.of rfl rfl) (hK p25)))) (kvc_ite (kvc_bindv (kvc_st (KEC.of rfl rfl) (krc_f_X12_asserted N σ (σ.i 63))) (fun p28 => (kvc_st (KEC.of rfl rfl) (hK p28)))) (kvc_ite (kvc_bindv (kvc_st (KEC.of rfl rfl) (krc_f_X12_branch N σ (σ.i 63))) (fun p31 => (kvc_st (KEC.of rfl rfl) (hK p31)))) (kvc_ite (kvc_bindv (kvc_st (KEC.of rfl rfl) (krc_f_X12_whiles N σ (σ.i 63))) (fun p34 => (kvc_st (KEC.of rfl rfl) (hK p34)))) (kvc_ite (kvc_bindv (kvc_st (KEC.of rfl rfl) (krc_f_X12_repeats N σ (σ.i 63))) (fun p37 => (kvc_st (KEC.of rfl rfl) (hK p37)))) (kvc_ite (kvc_bindv (kvc_st (KEC.of rfl rfl) (krc_f_X12_fors N σ (σ.i 63))) (fun p40 => (kvc_st (KEC.of rfl rfl) (hK p40)))) (kvc_ite (kvc_bindv (kvc_st (KEC.of rfl rfl) (krc_f_X12_lock N σ (σ.i 63))) (fun p43 => (kvc_st (KEC.of rfl rfl) (hK p43)))) (kvc_ite (kvc_bindv (kvc_st (KEC.of rfl rfl) (krc_f_X12_groups N σ (σ.i 63))) (fun p46 => (kvc_st (KEC.of rfl rfl) (hK p46)))) (kvc_ite (kvc_bindv (kvc_st (KEC.of rfl rfl) (krc_f_X12_trying N σ (σ.i 63))) (fun p49 => (kvc_st (KEC.of rfl rfl) (hK p49)))) (kvc_bindv (kvc_st (KEC.of rfl rfl) (krc_f_X12_thing N σ (σ.i 63))) (fun p51 => (kvc_st (KEC.of rfl rfl) (hK p51))))))))))))))))))) kvc_none) (kvc_some (KEC.of rfl rfl))))
theorem krc_f_X12_parse_10 (N : Nat) : ∀ (n : Nat) (σ : RS), KVc σ (f_X12_parse_10 N n σ )
  | 0, _ => kvc_none
  | n+1, σ => krc_b_X12_parse_10 N (f_X12_parse_10 N n) (fun σ => krc_f_X12_parse_10 N n σ) σ
theorem krc_f_X12_parse (N : Nat) (σ : RS) : KVc σ (f_X12_parse N σ) := by
  unfold f_X12_parse
  exact (kvc_bindv (kvc_st (KEC.of rfl rfl) (krc_f_X12_push N (RS.setI σ 63 (-1)) 1)) (fun p1 => (kvc_st (KEC.of rfl rfl) (krc_f_X12_parse_10 N N p1))))
theorem krc_f_X12_read_199 (N : Nat) (σ : RS) : KRc σ (f_X12_read_199 N σ) := by
  unfold f_X12_read_199
  exact (krc_ite (krc_some (KEC.of rfl rfl)) (krc_some (KEC.of rfl rfl)))
theorem krc_f_X12_read_167 (N : Nat) (σ : RS) : KRc σ (f_X12_read_167 N σ) := by
  unfold f_X12_read_167
  exact (krc_ite (krc_ite (krc_st (KEC.of rfl rfl) (krc_f_X12_read_199 N (RS.setI (RS.setI (RS.setI σ 78 (σ.i 75)) 76 (σ.i 15)) 77 1))) (krc_st (KEC.of rfl rfl) (krc_f_X12_read_199 N (RS.setI (RS.setI (RS.setI σ 78 (σ.i 75)) 76 (σ.i 15)) 77 0)))) krc_none)
theorem krc_f_X12_read_138 (N : Nat) (σ : RS) : KRc σ (f_X12_read_138 N σ) := by
  unfold f_X12_read_138
  exact (krc_ite (krc_ite (krc_st (KEC.of rfl rfl) (krc_f_X12_read_167 N (RS.setI σ 2 0))) (krc_bindv (kvc_st (KEC.of rfl rfl) (krc_f_X12_fail N (RS.setI σ 2 0) 7 (σ.i 18))) (fun p17 => (krc_st (KEC.of rfl rfl) (krc_f_X12_read_167 N p17))))) (krc_st (KEC.of rfl rfl) (krc_f_X12_read_167 N (RS.setI σ 2 0))))
theorem krc_f_X12_fault (N : Nat) (σ : RS) : KRc σ (f_X12_fault N σ) := by
  unfold f_X12_fault
  exact (krc_some (KEC.of rfl rfl))
theorem krc_f_X12_program (N : Nat) (σ : RS) (x1 : Int32) : KRc σ (f_X12_program N σ x1) := by
  unfold f_X12_program
  exact (krc_bind (krc_st (KEC.of rfl rfl) (krc_f_X12_in N (RS.setI σ 0 0) x1 0 3)) (fun p1 => (krc_ite (krc_some (KEC.of rfl rfl)) (krc_ite (krc_some (KEC.of rfl rfl)) (krc_ite (krc_some (KEC.of rfl rfl)) (krc_ite (krc_ite (krc_some (KEC.of rfl rfl)) (krc_some (KEC.of rfl rfl))) (krc_ite (krc_some (KEC.of rfl rfl)) (krc_some (KEC.of rfl rfl)))))))))
theorem krc_f_X12_row (N : Nat) (σ : RS) (x1 : Int32) (x2 : Int32) : KVc σ (f_X12_row N σ x1 x2) := by
  unfold f_X12_row
  exact (kvc_ite (kvc_some (KEC.of rfl rfl)) (kvc_ite (kvc_some (KEC.of rfl rfl)) kvc_none))
theorem krc_f_X12_record (N : Nat) (σ : RS) (x1 : Int32) (x2 : Int32) (x3 : Int32) (x4 : Int32) : KRc σ (f_X12_record N σ x1 x2 x3 x4) := by
  unfold f_X12_record
  exact (krc_ite (krc_some (KEC.of rfl rfl)) krc_none)
theorem krc_f_X12_put (N : Nat) (σ : RS) (x1 : Int32) : KVc σ (f_X12_put N σ x1) := by
  unfold f_X12_put
  exact (kvc_ite (kvc_some (KEC.of rfl rfl)) kvc_none)
theorem krc_f_X12_take (N : Nat) (σ : RS) : KRc σ (f_X12_take N σ) := by
  unfold f_X12_take
  exact (krc_ite (krc_some (KEC.of rfl rfl)) krc_none)
theorem krc_f_X12_step (N : Nat) (σ : RS) : KVc σ (f_X12_step N σ) := by
  unfold f_X12_step
  exact (kvc_ite (kvc_some (KEC.of rfl rfl)) (kvc_some (KEC.of rfl rfl)))
theorem krc_f_X12_compute (N : Nat) (σ : RS) (x1 : Int32) (x2 : Int32) (x3 : Int32) : KRc σ (f_X12_compute N σ x1 x2 x3) := by
  unfold f_X12_compute
  exact (krc_ite (krc_ite krc_none (krc_some (KEC.of rfl rfl))) (krc_ite (krc_some (KEC.of rfl rfl)) (krc_ite (krc_some (KEC.of rfl rfl)) (krc_ite (krc_some (KEC.of rfl rfl)) (krc_ite (krc_ite krc_none (krc_some (KEC.of rfl rfl))) (krc_ite (krc_ite (krc_some (KEC.of rfl rfl)) (krc_some (KEC.of rfl rfl))) (krc_ite (krc_ite (krc_some (KEC.of rfl rfl)) (krc_some (KEC.of rfl rfl))) (krc_ite (krc_ite (krc_some (KEC.of rfl rfl)) (krc_some (KEC.of rfl rfl))) (krc_ite (krc_ite (krc_some (KEC.of rfl rfl)) (krc_some (KEC.of rfl rfl))) (krc_ite (krc_ite (krc_some (KEC.of rfl rfl)) (krc_some (KEC.of rfl rfl))) (krc_ite (krc_some (KEC.of rfl rfl)) (krc_some (KEC.of rfl rfl)))))))))))))
theorem krc_b_X12_caseOf_5 (N : Nat) (K : RS → Int32 → Int32 → Int32 → Option (Int32 × RS)) (hK : ∀ (σ : RS) (y0 : Int32) (y1 : Int32) (y2 : Int32), KRc σ (K σ y0 y1 y2)) (σ : RS) (x2 : Int32) (x3 : Int32) (x4 : Int32) : KRc σ (b_X12_caseOf_5 N K σ x2 x3 x4) := by
  unfold b_X12_caseOf_5
  exact (krc_ite (krc_some (KEC.of rfl rfl)) (krc_ite (krc_ite (krc_ite (krc_some (KEC.of rfl rfl)) (krc_st (KEC.of rfl rfl) (hK σ x2 x3 (σ.a 27 ((x4 : Int32).toNatClampNeg))))) (krc_st (KEC.of rfl rfl) (hK σ x2 x4 (σ.a 27 ((x4 : Int32).toNatClampNeg))))) krc_none))
theorem krc_f_X12_caseOf_5 (N : Nat) : ∀ (n : Nat) (σ : RS) (y0 : Int32) (y1 : Int32) (y2 : Int32), KRc σ (f_X12_caseOf_5 N n σ y0 y1 y2)
  | 0, _, _, _, _ => krc_none
  | n+1, σ, y0, y1, y2 => krc_b_X12_caseOf_5 N (f_X12_caseOf_5 N n) (fun σ y0 y1 y2 => krc_f_X12_caseOf_5 N n σ y0 y1 y2) σ y0 y1 y2
theorem krc_f_X12_caseOf (N : Nat) (σ : RS) (x1 : Int32) (x2 : Int32) : KRc σ (f_X12_caseOf N σ x1 x2) := by
  unfold f_X12_caseOf
  exact (krc_st (KEC.of rfl rfl) (krc_f_X12_caseOf_5 N N σ x2 (-1) x1))
theorem krc_b_X12_others_85 (N : Nat) (K : RS → Int32 → Int32 → Int32 → Option (RS)) (hK : ∀ (σ : RS) (y0 : Int32) (y1 : Int32) (y2 : Int32), KVc σ (K σ y0 y1 y2)) (σ : RS) (x2 : Int32) (x4 : Int32) (x5 : Int32) : KVc σ (b_X12_others_85 N K σ x2 x4 x5) := by
  unfold b_X12_others_85
  exact (kvc_ite (kvc_bind (krc_st (KEC.of rfl rfl) (krc_f_X12_record N (RS.setI σ 93 ((σ.i 93) - x2)) 2 x4 x4 (σ.i 97))) (fun p4 => (kvc_some (KEC.of rfl rfl)))) (kvc_ite (kvc_ite (kvc_st (KEC.of rfl rfl) (hK (RS.setI (RS.setA σ 98 (((σ.i 97) : Int32).toNatClampNeg) (σ.a 94 (((((σ.i 93) - x2) + x5) : Int32).toNatClampNeg))) 97 ((σ.i 97) + 1)) x2 x4 (x5 + 1))) kvc_none) kvc_none))
theorem krc_f_X12_others_85 (N : Nat) : ∀ (n : Nat) (σ : RS) (y0 : Int32) (y1 : Int32) (y2 : Int32), KVc σ (f_X12_others_85 N n σ y0 y1 y2)
  | 0, _, _, _, _ => kvc_none
  | n+1, σ, y0, y1, y2 => krc_b_X12_others_85 N (f_X12_others_85 N n) (fun σ y0 y1 y2 => krc_f_X12_others_85 N n σ y0 y1 y2) σ y0 y1 y2
theorem krc_f_X12_ends_242 (N : Nat) (σ : RS) : KVc σ (f_X12_ends_242 N σ) := by
  unfold f_X12_ends_242
  exact (kvc_some (KEC.of rfl rfl))
theorem krc_f_X12_ends_351 (N : Nat) (σ : RS) : KVc σ (f_X12_ends_351 N σ) := by
  unfold f_X12_ends_351
  exact (kvc_some (KEC.of rfl rfl))
theorem krc_b_X12_ran_168 (N : Nat) (K : RS → Int32 → Int32 → Option (Int32 × RS)) (hK : ∀ (σ : RS) (y0 : Int32) (y1 : Int32), KRc σ (K σ y0 y1)) (σ : RS) (x3 : Int32) (x4 : Int32) : KRc σ (b_X12_ran_168 N K σ x3 x4) := by
  unfold b_X12_ran_168
  exact (krc_ite (krc_some (KEC.of rfl rfl)) (krc_ite (krc_st (KEC.of rfl rfl) (hK σ (x3 + (σ.a 91 ((x4 : Int32).toNatClampNeg))) (x4 + 1))) krc_none))
theorem krc_f_X12_ran_168 (N : Nat) : ∀ (n : Nat) (σ : RS) (y0 : Int32) (y1 : Int32), KRc σ (f_X12_ran_168 N n σ y0 y1)
  | 0, _, _, _ => krc_none
  | n+1, σ, y0, y1 => krc_b_X12_ran_168 N (f_X12_ran_168 N n) (fun σ y0 y1 => krc_f_X12_ran_168 N n σ y0 y1) σ y0 y1
theorem krc_f_X12_ran_41 (N : Nat) (σ : RS) (x1 : Int32) (x2 : Int32) : KRc σ (f_X12_ran_41 N σ x1 x2) := by
  unfold f_X12_ran_41
  exact (krc_ite (krc_some (KEC.of rfl rfl)) (krc_ite (krc_some (KEC.of rfl rfl)) (krc_ite (krc_ite (krc_some (KEC.of rfl rfl)) (krc_some (KEC.of rfl rfl))) (krc_ite (krc_ite (krc_some (KEC.of rfl rfl)) (krc_ite (krc_some (KEC.of rfl rfl)) krc_none)) (krc_ite (krc_ite (krc_some (KEC.of rfl rfl)) (krc_ite (krc_some (KEC.of rfl rfl)) krc_none)) (krc_ite (krc_ite (krc_some (KEC.of rfl rfl)) (krc_ite (krc_some (KEC.of rfl rfl)) krc_none)) (krc_st (KEC.of rfl rfl) (krc_f_X12_ran_168 N N σ 0 0))))))))
theorem krc_f_X12_ran (N : Nat) (σ : RS) (x1 : Int32) : KRc σ (f_X12_ran N σ x1) := by
  unfold f_X12_ran
  exact (krc_bind (krc_st (KEC.of rfl rfl) (krc_f_X12_in N (RS.setI σ 0 0) x1 0 6)) (fun p1 => (krc_ite (krc_some (KEC.of rfl rfl)) (krc_ite (krc_some (KEC.of rfl rfl)) (krc_ite (krc_st (KEC.of rfl rfl) (krc_f_X12_ran_41 N p1.2 x1 1)) (krc_st (KEC.of rfl rfl) (krc_f_X12_ran_41 N p1.2 x1 0)))))))
theorem krc_f_X12_trace_35 (N : Nat) (σ : RS) : KRc σ (f_X12_trace_35 N σ) := by
  unfold f_X12_trace_35
  exact (krc_some (KEC.of rfl rfl))
theorem krc_f_X12_trace (N : Nat) (σ : RS) (x1 : Int32) (x2 : Int32) : KRc σ (f_X12_trace N σ x1 x2) := by
  unfold f_X12_trace
  exact (krc_ite (krc_st (KEC.of rfl rfl) (krc_f_X12_trace_35 N (RS.setI σ 0 0))) (krc_bind (krc_st (KEC.of rfl rfl) (krc_f_X12_in N (RS.setI σ 0 0) x1 0 ((σ.i 81) - 1))) (fun p2 => (krc_ite (krc_st (KEC.of rfl rfl) (krc_f_X12_trace_35 N p2.2)) (krc_bind (krc_st (KEC.of rfl rfl) (krc_f_X12_in N p2.2 x2 0 1)) (fun p5 => (krc_ite (krc_st (KEC.of rfl rfl) (krc_f_X12_trace_35 N p5.2)) (krc_ite (krc_ite (krc_some (KEC.of rfl rfl)) krc_none) (krc_ite (krc_some (KEC.of rfl rfl)) krc_none)))))))))
theorem krc_f_X12_suppressed_48 (N : Nat) (σ : RS) : KRc σ (f_X12_suppressed_48 N σ) := by
  unfold f_X12_suppressed_48
  exact (krc_some (KEC.of rfl rfl))
theorem krc_f_X12_suppressed (N : Nat) (σ : RS) (x1 : Int32) (x2 : Int32) : KRc σ (f_X12_suppressed N σ x1 x2) := by
  unfold f_X12_suppressed
  exact (krc_ite (krc_st (KEC.of rfl rfl) (krc_f_X12_suppressed_48 N (RS.setI σ 0 0))) (krc_ite (krc_ite (krc_bind (krc_st (KEC.of rfl rfl) (krc_f_X12_in N (RS.setI σ 0 0) x1 0 ((σ.a 88 (((σ.i 114) : Int32).toNatClampNeg)) - 1))) (fun p4 => (krc_ite (krc_st (KEC.of rfl rfl) (krc_f_X12_suppressed_48 N p4.2)) (krc_bind (krc_st (KEC.of rfl rfl) (krc_f_X12_in N p4.2 x2 0 1)) (fun p7 => (krc_ite (krc_st (KEC.of rfl rfl) (krc_f_X12_suppressed_48 N p7.2)) (krc_ite (krc_ite (krc_some (KEC.of rfl rfl)) krc_none) (krc_ite (krc_some (KEC.of rfl rfl)) krc_none)))))))) krc_none) (krc_st (KEC.of rfl rfl) (krc_f_X12_suppressed_48 N (RS.setI σ 0 0)))))
theorem krc_f_X12_rounds_13 (N : Nat) (σ : RS) : KRc σ (f_X12_rounds_13 N σ) := by
  unfold f_X12_rounds_13
  exact (krc_some (KEC.of rfl rfl))
theorem krc_f_X12_rounds (N : Nat) (σ : RS) (x1 : Int32) (x2 : Int32) : KRc σ (f_X12_rounds N σ x1 x2) := by
  unfold f_X12_rounds
  exact (krc_ite (krc_st (KEC.of rfl rfl) (krc_f_X12_rounds_13 N (RS.setI σ 0 0))) (krc_ite (krc_ite (krc_some (KEC.of rfl rfl)) (krc_ite krc_none (krc_ite (krc_some (KEC.of rfl rfl)) (krc_some (KEC.of rfl rfl))))) (krc_st (KEC.of rfl rfl) (krc_f_X12_rounds_13 N (RS.setI σ 0 0)))))
