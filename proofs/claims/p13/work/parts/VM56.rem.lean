section
/-! the reference: what lays nothing leaves the code alone -/
def QET : Type := (Int32 × Int32 × Int32 × Int32 × Int32 × Int32) × (Nat → Int32) × (Nat → Int32) × (Nat → Int32) × (Nat → Int32) × (Nat → Int32) × (Nat → Int32) × (Nat → Int32) × (Nat → Int32) × (Nat → Int32) × (Nat → Int32) × (Nat → Int32) × (Nat → Int32) × (Nat → Int32) × (Nat → Int32)
def qe (s : RS) : QET := ((RS.i s 20, RS.i s 24, RS.i s 29, RS.i s 33, RS.i s 42, RS.i s 52), RS.a s 21, RS.a s 22, RS.a s 23, RS.a s 25, RS.a s 26, RS.a s 27, RS.a s 28, RS.a s 30, RS.a s 31, RS.a s 32, RS.a s 34, RS.a s 35, RS.a s 36, RS.a s 37)
theorem qe_eq {s r : RS} (h : qe r = qe s) : (r.i 20 = s.i 20 ∧ r.i 24 = s.i 24 ∧ r.i 29 = s.i 29 ∧ r.i 33 = s.i 33 ∧ r.i 42 = s.i 42 ∧ r.i 52 = s.i 52) ∧ r.a 21 = s.a 21 ∧ r.a 22 = s.a 22 ∧ r.a 23 = s.a 23 ∧ r.a 25 = s.a 25 ∧ r.a 26 = s.a 26 ∧ r.a 27 = s.a 27 ∧ r.a 28 = s.a 28 ∧ r.a 30 = s.a 30 ∧ r.a 31 = s.a 31 ∧ r.a 32 = s.a 32 ∧ r.a 34 = s.a 34 ∧ r.a 35 = s.a 35 ∧ r.a 36 = s.a 36 ∧ r.a 37 = s.a 37 := by
  have i0 := congrArg (fun v : QET => v.1.1) h
  have i1 := congrArg (fun v : QET => v.1.2.1) h
  have i2 := congrArg (fun v : QET => v.1.2.2.1) h
  have i3 := congrArg (fun v : QET => v.1.2.2.2.1) h
  have i4 := congrArg (fun v : QET => v.1.2.2.2.2.1) h
  have i5 := congrArg (fun v : QET => v.1.2.2.2.2.2) h
  have a0 := congrArg (fun v : QET => v.2.1) h
  have a1 := congrArg (fun v : QET => v.2.2.1) h
  have a2 := congrArg (fun v : QET => v.2.2.2.1) h
  have a3 := congrArg (fun v : QET => v.2.2.2.2.1) h
  have a4 := congrArg (fun v : QET => v.2.2.2.2.2.1) h
  have a5 := congrArg (fun v : QET => v.2.2.2.2.2.2.1) h
  have a6 := congrArg (fun v : QET => v.2.2.2.2.2.2.2.1) h
  have a7 := congrArg (fun v : QET => v.2.2.2.2.2.2.2.2.1) h
  have a8 := congrArg (fun v : QET => v.2.2.2.2.2.2.2.2.2.1) h
  have a9 := congrArg (fun v : QET => v.2.2.2.2.2.2.2.2.2.2.1) h
  have a10 := congrArg (fun v : QET => v.2.2.2.2.2.2.2.2.2.2.2.1) h
  have a11 := congrArg (fun v : QET => v.2.2.2.2.2.2.2.2.2.2.2.2.1) h
  have a12 := congrArg (fun v : QET => v.2.2.2.2.2.2.2.2.2.2.2.2.2.1) h
  have a13 := congrArg (fun v : QET => v.2.2.2.2.2.2.2.2.2.2.2.2.2.2) h
  exact ⟨⟨i0, i1, i2, i3, i4, i5⟩, a0, a1, a2, a3, a4, a5, a6, a7, a8, a9, a10, a11, a12, a13⟩
def KER (s r : RS) : Prop := qe r = qe s
theorem KER.tr {s r u : RS} (h : KER s r) (g : KER r u) : KER s u := Eq.trans g h
def KRe {α : Type} (s : RS) (t : Option (α × RS)) : Prop := ∀ R, t = some R → KER s R.2
def KVe (s : RS) (t : Option RS) : Prop := ∀ R, t = some R → KER s R
theorem kre_some {α : Type} {s : RS} {r : α × RS} (h : KER s r.2) : KRe s (some r) := fun R q => by
  cases q
  exact h
theorem kve_some {s r : RS} (h : KER s r) : KVe s (some r) := fun R q => by
  cases q
  exact h
theorem kre_none {α : Type} {s : RS} : KRe s (none : Option (α × RS)) := fun R q => by cases q
theorem kve_none {s : RS} : KVe s (none : Option RS) := fun R q => by cases q
theorem kre_ite {α : Type} {s : RS} {c : Prop} [Decidable c] {x y : Option (α × RS)} (hx : KRe s x) (hy : KRe s y) : KRe s (if c then x else y) := by
  by_cases h : c
  · rw [if_pos h]; exact hx
  · rw [if_neg h]; exact hy
theorem kve_ite {s : RS} {c : Prop} [Decidable c] {x y : Option RS} (hx : KVe s x) (hy : KVe s y) : KVe s (if c then x else y) := by
  by_cases h : c
  · rw [if_pos h]; exact hx
  · rw [if_neg h]; exact hy
theorem kre_st {α : Type} {s r : RS} {t : Option (α × RS)} (h : KER s r) (g : KRe r t) : KRe s t := fun R q => h.tr (g R q)
theorem kve_st {s r : RS} {t : Option RS} (h : KER s r) (g : KVe r t) : KVe s t := fun R q => h.tr (g R q)
theorem kre_bind {α β : Type} {s : RS} {x : Option (α × RS)} {k : α × RS → Option (β × RS)} (hx : KRe s x) (hk : ∀ p : α × RS, KRe p.2 (k p)) : KRe s (x.bind k) := by
  intro R h
  obtain ⟨p, h1, h2⟩ := hf_bind h
  exact (hx p h1).tr (hk p R h2)
theorem kre_bindv {β : Type} {s : RS} {x : Option RS} {k : RS → Option (β × RS)} (hx : KVe s x) (hk : ∀ p : RS, KRe p (k p)) : KRe s (x.bind k) := by
  intro R h
  obtain ⟨p, h1, h2⟩ := hf_bind h
  exact (hx p h1).tr (hk p R h2)
theorem kve_bind {α : Type} {s : RS} {x : Option (α × RS)} {k : α × RS → Option RS} (hx : KRe s x) (hk : ∀ p : α × RS, KVe p.2 (k p)) : KVe s (x.bind k) := by
  intro R h
  obtain ⟨p, h1, h2⟩ := hf_bind h
  exact (hx p h1).tr (hk p R h2)
theorem kve_bindv {s : RS} {x : Option RS} {k : RS → Option RS} (hx : KVe s x) (hk : ∀ p : RS, KVe p (k p)) : KVe s (x.bind k) := by
  intro R h
  obtain ⟨p, h1, h2⟩ := hf_bind h
  exact (hx p h1).tr (hk p R h2)
theorem kre_f_X12_thrown (N : Nat) (σ : RS) : KRe σ (f_X12_thrown N σ) := by
  unfold f_X12_thrown
  exact (kre_some rfl)
theorem kre_f_X12_in_14 (N : Nat) (σ : RS) : KRe σ (f_X12_in_14 N σ) := by
  unfold f_X12_in_14
  exact (kre_some rfl)
theorem kre_f_X12_in (N : Nat) (σ : RS) (x0 : Int32) (x1 : Int32) (x2 : Int32) : KRe σ (f_X12_in N σ x0 x1 x2) := by
  unfold f_X12_in
  exact (kre_ite (kre_st rfl (kre_f_X12_in_14 N σ)) (kre_ite (kre_st rfl (kre_f_X12_in_14 N σ)) (kre_some rfl)))
theorem kre_b_X12_feed_24 (N : Nat) (K : RS → Int32 → Int32 → Int32 → Int32 → Int32 → Int32 → Option (Int32 × RS)) (hK : ∀ (σ : RS) (y0 : Int32) (y1 : Int32) (y2 : Int32) (y3 : Int32) (y4 : Int32) (y5 : Int32), KRe σ (K σ y0 y1 y2 y3 y4 y5)) (σ : RS) (x1 : Int32) (x2 : Int32) (x3 : Int32) (x4 : Int32) (x5 : Int32) (x6 : Int32) : KRe σ (b_X12_feed_24 N K σ x1 x2 x3 x4 x5 x6) := by
  unfold b_X12_feed_24
  exact (kre_ite (kre_some rfl) (kre_ite (kre_ite (kre_ite (kre_ite (kre_ite (kre_st rfl (hK (RS.setA σ 1 ((((σ.i 2) + x6) : Int32).toNatClampNeg) ((x5 >>> ((24 - (8 * (x6 - x6 / 4 * 4))) &&& 31)) &&& 255)) x1 x2 x3 x4 x5 (x6 + 1))) kre_none) (kre_ite (kre_st rfl (hK (RS.setA σ 1 ((((σ.i 2) + x6) : Int32).toNatClampNeg) ((x4 >>> ((24 - (8 * (x6 - x6 / 4 * 4))) &&& 31)) &&& 255)) x1 x2 x3 x4 x5 (x6 + 1))) kre_none)) (kre_ite (kre_st rfl (hK (RS.setA σ 1 ((((σ.i 2) + x6) : Int32).toNatClampNeg) ((x3 >>> ((24 - (8 * (x6 - x6 / 4 * 4))) &&& 31)) &&& 255)) x1 x2 x3 x4 x5 (x6 + 1))) kre_none)) (kre_ite (kre_st rfl (hK (RS.setA σ 1 ((((σ.i 2) + x6) : Int32).toNatClampNeg) ((x2 >>> ((24 - (8 * (x6 - x6 / 4 * 4))) &&& 31)) &&& 255)) x1 x2 x3 x4 x5 (x6 + 1))) kre_none)) (kre_ite (kre_st rfl (hK (RS.setA σ 1 ((((σ.i 2) + x6) : Int32).toNatClampNeg) ((x1 >>> ((24 - (8 * (x6 - x6 / 4 * 4))) &&& 31)) &&& 255)) x1 x2 x3 x4 x5 (x6 + 1))) kre_none)))
theorem kre_f_X12_feed_24 (N : Nat) : ∀ (n : Nat) (σ : RS) (y0 : Int32) (y1 : Int32) (y2 : Int32) (y3 : Int32) (y4 : Int32) (y5 : Int32), KRe σ (f_X12_feed_24 N n σ y0 y1 y2 y3 y4 y5)
  | 0, _, _, _, _, _, _, _ => kre_none
  | n+1, σ, y0, y1, y2, y3, y4, y5 => kre_b_X12_feed_24 N (f_X12_feed_24 N n) (fun σ y0 y1 y2 y3 y4 y5 => kre_f_X12_feed_24 N n σ y0 y1 y2 y3 y4 y5) σ y0 y1 y2 y3 y4 y5
theorem kre_f_X12_feed (N : Nat) (σ : RS) (x1 : Int32) (x2 : Int32) (x3 : Int32) (x4 : Int32) (x5 : Int32) : KRe σ (f_X12_feed N σ x1 x2 x3 x4 x5) := by
  unfold f_X12_feed
  exact (kre_ite (kre_st rfl (kre_f_X12_feed_24 N N (RS.setI σ 0 0) x1 x2 x3 x4 x5 0)) (kre_some rfl))
theorem kre_f_X12_cut (N : Nat) (σ : RS) (x1 : Int32) : KRe σ (f_X12_cut N σ x1) := by
  unfold f_X12_cut
  exact (kre_bind (kre_st rfl (kre_f_X12_in N (RS.setI σ 0 0) x1 0 (σ.i 2))) (fun p1 => (kre_ite (kre_some rfl) (kre_some rfl))))
theorem kre_f_X12_kind (N : Nat) (σ : RS) (x1 : Int32) : KRe σ (f_X12_kind N σ x1) := by
  unfold f_X12_kind
  exact (kre_bind (kre_st rfl (kre_f_X12_in N (RS.setI σ 0 0) x1 0 ((σ.i 3) - 1))) (fun p1 => (kre_ite (kre_some rfl) (kre_ite (kre_some rfl) (kre_ite (kre_some rfl) kre_none)))))
theorem kre_f_X12_isUnder_21 (N : Nat) (σ : RS) (x2 : Int32) (x3 : Int32) : KRe σ (f_X12_isUnder_21 N σ x2 x3) := by
  unfold f_X12_isUnder_21
  exact (kre_ite (kre_some rfl) (kre_some rfl))
theorem kre_b_X12_isUnder_2 (N : Nat) (K : RS → Int32 → Int32 → Option (Int32 × RS)) (hK : ∀ (σ : RS) (y0 : Int32) (y1 : Int32), KRe σ (K σ y0 y1)) (σ : RS) (x2 : Int32) (x3 : Int32) : KRe σ (b_X12_isUnder_2 N K σ x2 x3) := by
  unfold b_X12_isUnder_2
  exact (kre_ite (kre_st rfl (kre_f_X12_isUnder_21 N σ x2 x3)) (kre_ite (kre_st rfl (kre_f_X12_isUnder_21 N σ x2 x3)) (kre_ite (kre_st rfl (hK σ x2 (σ.a 4 ((x3 : Int32).toNatClampNeg)))) kre_none)))
theorem kre_f_X12_isUnder_2 (N : Nat) : ∀ (n : Nat) (σ : RS) (y0 : Int32) (y1 : Int32), KRe σ (f_X12_isUnder_2 N n σ y0 y1)
  | 0, _, _, _ => kre_none
  | n+1, σ, y0, y1 => kre_b_X12_isUnder_2 N (f_X12_isUnder_2 N n) (fun σ y0 y1 => kre_f_X12_isUnder_2 N n σ y0 y1) σ y0 y1
theorem kre_f_X12_isUnder (N : Nat) (σ : RS) (x1 : Int32) (x2 : Int32) : KRe σ (f_X12_isUnder N σ x1 x2) := by
  unfold f_X12_isUnder
  exact (kre_st rfl (kre_f_X12_isUnder_2 N N σ x2 x1))
theorem kre_f_X12_under_33 (N : Nat) (σ : RS) : KRe σ (f_X12_under_33 N σ) := by
  unfold f_X12_under_33
  exact (kre_some rfl)
theorem kre_f_X12_under (N : Nat) (σ : RS) (x1 : Int32) (x2 : Int32) : KRe σ (f_X12_under N σ x1 x2) := by
  unfold f_X12_under
  exact (kre_bind (kre_st rfl (kre_f_X12_in N (RS.setI σ 0 0) x1 0 ((σ.i 3) - 1))) (fun p1 => (kre_ite (kre_st rfl (kre_f_X12_under_33 N p1.2)) (kre_bind (kre_st rfl (kre_f_X12_in N p1.2 x2 0 ((p1.2.i 3) - 1))) (fun p4 => (kre_ite (kre_st rfl (kre_f_X12_under_33 N p4.2)) (kre_bind (kre_st rfl (kre_f_X12_isUnder N p4.2 x1 x2)) (fun p7 => (kre_ite (kre_some rfl) (kre_some rfl))))))))))
theorem kre_f_X12_resource_53 (N : Nat) (σ : RS) : KRe σ (f_X12_resource_53 N σ) := by
  unfold f_X12_resource_53
  exact (kre_some rfl)
theorem kre_f_X12_resource_71 (N : Nat) (σ : RS) (x1 : Int32) (x3 : Int32) (x4 : Int32) : KRe σ (f_X12_resource_71 N σ x1 x3 x4) := by
  unfold f_X12_resource_71
  exact (kre_ite (kre_some rfl) kre_none)
theorem kre_f_X12_resource (N : Nat) (σ : RS) (x1 : Int32) (x2 : Int32) (x3 : Int32) (x4 : Int32) : KRe σ (f_X12_resource N σ x1 x2 x3 x4) := by
  unfold f_X12_resource
  exact (kre_bind (kre_st rfl (kre_f_X12_in N (RS.setI σ 0 0) x1 0 7)) (fun p1 => (kre_ite (kre_st rfl (kre_f_X12_resource_53 N p1.2)) (kre_bind (kre_st rfl (kre_f_X12_in N p1.2 x2 0 1)) (fun p4 => (kre_ite (kre_st rfl (kre_f_X12_resource_53 N p4.2)) (kre_bind (kre_st rfl (kre_f_X12_in N p4.2 x3 (-1) ((p4.2.i 3) - 1))) (fun p7 => (kre_ite (kre_st rfl (kre_f_X12_resource_53 N p7.2)) (kre_bind (kre_st rfl (kre_f_X12_in N p7.2 x4 (-1) ((p7.2.i 3) - 1))) (fun p10 => (kre_ite (kre_st rfl (kre_f_X12_resource_53 N p10.2)) (kre_ite (kre_ite (kre_st rfl (kre_f_X12_resource_71 N (RS.setA p10.2 5 ((x1 : Int32).toNatClampNeg) 1) x1 x3 x4)) kre_none) (kre_ite (kre_st rfl (kre_f_X12_resource_71 N (RS.setA p10.2 5 ((x1 : Int32).toNatClampNeg) 0) x1 x3 x4)) kre_none))))))))))))))
theorem kre_f_X12_asserts_18 (N : Nat) (σ : RS) (x1 : Int32) (x2 : Int32) : KRe σ (f_X12_asserts_18 N σ x1 x2) := by
  unfold f_X12_asserts_18
  exact (kre_ite (kre_some rfl) kre_none)
theorem kre_f_X12_asserts (N : Nat) (σ : RS) (x1 : Int32) : KRe σ (f_X12_asserts N σ x1) := by
  unfold f_X12_asserts
  exact (kre_ite (kre_st rfl (kre_f_X12_asserts_18 N (RS.setI σ 0 0) x1 0)) (kre_st rfl (kre_f_X12_asserts_18 N (RS.setI σ 0 0) x1 1)))
theorem kre_f_X12_at (N : Nat) (σ : RS) (x1 : Int32) : KRe σ (f_X12_at N σ x1) := by
  unfold f_X12_at
  exact (kre_ite (kre_some rfl) (kre_ite (kre_some rfl) kre_none))
theorem kre_f_X12_isLetter_16 (N : Nat) (σ : RS) : KRe σ (f_X12_isLetter_16 N σ) := by
  unfold f_X12_isLetter_16
  exact (kre_some rfl)
theorem kre_f_X12_isLetter (N : Nat) (σ : RS) (x0 : Int32) : KRe σ (f_X12_isLetter N σ x0) := by
  unfold f_X12_isLetter
  exact (kre_ite (kre_st rfl (kre_f_X12_isLetter_16 N σ)) (kre_ite (kre_st rfl (kre_f_X12_isLetter_16 N σ)) (kre_some rfl)))
theorem kre_f_X12_isDigit_16 (N : Nat) (σ : RS) : KRe σ (f_X12_isDigit_16 N σ) := by
  unfold f_X12_isDigit_16
  exact (kre_some rfl)
theorem kre_f_X12_isDigit (N : Nat) (σ : RS) (x0 : Int32) : KRe σ (f_X12_isDigit N σ x0) := by
  unfold f_X12_isDigit
  exact (kre_ite (kre_st rfl (kre_f_X12_isDigit_16 N σ)) (kre_ite (kre_st rfl (kre_f_X12_isDigit_16 N σ)) (kre_some rfl)))
theorem kre_b_X12_readName_260 (N : Nat) (K : RS → Int32 → Option (RS)) (hK : ∀ (σ : RS) (y0 : Int32), KVe σ (K σ y0)) (σ : RS) (x4 : Int32) : KVe σ (b_X12_readName_260 N K σ x4) := by
  unfold b_X12_readName_260
  exact (kve_ite (kve_some rfl) (kve_ite (kve_ite (kve_st rfl (hK (RS.setI σ 10 (410 + x4)) (x4 + 1))) (kve_st rfl (hK (RS.setI σ 10 (σ.i 10)) (x4 + 1)))) kve_none))
theorem kre_f_X12_readName_260 (N : Nat) : ∀ (n : Nat) (σ : RS) (y0 : Int32), KVe σ (f_X12_readName_260 N n σ y0)
  | 0, _, _ => kve_none
  | n+1, σ, y0 => kre_b_X12_readName_260 N (f_X12_readName_260 N n) (fun σ y0 => kre_f_X12_readName_260 N n σ y0) σ y0
theorem kre_f_X12_readName_257 (N : Nat) (σ : RS) : KVe σ (f_X12_readName_257 N σ) := by
  unfold f_X12_readName_257
  exact (kve_st rfl (kre_f_X12_readName_260 N N σ 0))
theorem kre_f_X12_readName_254 (N : Nat) (σ : RS) : KVe σ (f_X12_readName_254 N σ) := by
  unfold f_X12_readName_254
  exact (kve_some rfl)
theorem kre_f_X12_readName_220 (N : Nat) (σ : RS) (x1 : Int32) (x3 : Int32) : KVe σ (f_X12_readName_220 N σ x1 x3) := by
  unfold f_X12_readName_220
  exact (kve_ite (kve_st rfl (kre_f_X12_readName_254 N (RS.setI (RS.setI σ 10 5) 14 x3))) (kve_bind (kre_st rfl (kre_f_X12_at N (RS.setI σ 10 5) ((σ.i 11) + 2))) (fun p32 => (kve_st rfl (kre_f_X12_readName_254 N (RS.setI p32.2 14 ((10 + p32.1) - 48)))))))
theorem kre_f_X12_readName_189 (N : Nat) (σ : RS) (x1 : Int32) (x3 : Int32) : KVe σ (f_X12_readName_189 N σ x1 x3) := by
  unfold f_X12_readName_189
  exact (kve_ite (kve_ite (kve_bind (kre_st rfl (kre_f_X12_at N σ ((σ.i 11) + 2))) (fun p26 => (kve_bind (kre_st rfl (kre_f_X12_in N p26.2 (p26.1 - 48) 0 1)) (fun p28 => (kve_ite (kve_st rfl (kre_f_X12_readName_257 N p28.2)) (kve_st rfl (kre_f_X12_readName_220 N p28.2 x1 x3))))))) (kve_st rfl (kre_f_X12_readName_257 N σ))) (kve_st rfl (kre_f_X12_readName_257 N σ)))
theorem kre_f_X12_readName_168 (N : Nat) (σ : RS) (x1 : Int32) (x2 : Int32) (x3 : Int32) : KVe σ (f_X12_readName_168 N σ x1 x2 x3) := by
  unfold f_X12_readName_168
  exact (kve_ite (kve_ite (kve_bind (kre_st rfl (kre_f_X12_in N σ x3 0 9)) (fun p34 => (kve_ite (kve_st rfl (kre_f_X12_readName_189 N p34.2 x1 x3)) (kve_st rfl (kre_f_X12_readName_220 N p34.2 x1 x3))))) (kve_st rfl (kre_f_X12_readName_189 N σ x1 x3))) (kve_st rfl (kre_f_X12_readName_257 N σ)))
theorem kre_f_X12_readName_160 (N : Nat) (σ : RS) (x3 : Int32) : KVe σ (f_X12_readName_160 N σ x3) := by
  unfold f_X12_readName_160
  exact (kve_some rfl)
theorem kre_f_X12_readName_135 (N : Nat) (σ : RS) (x1 : Int32) (x2 : Int32) (x3 : Int32) : KVe σ (f_X12_readName_135 N σ x1 x2 x3) := by
  unfold f_X12_readName_135
  exact (kve_bind (kre_st rfl (kre_f_X12_in N σ x3 0 7)) (fun p38 => (kve_ite (kve_st rfl (kre_f_X12_readName_168 N p38.2 x1 x2 x3)) (kve_ite (kve_st rfl (kre_f_X12_readName_160 N (RS.setI p38.2 10 3) x3)) (kve_st rfl (kre_f_X12_readName_160 N (RS.setI p38.2 10 4) x3))))))
theorem kre_b_X12_readName_5 (N : Nat) (K : RS → Option (RS)) (hK : ∀ (σ : RS), KVe σ (K σ)) (σ : RS) : KVe σ (b_X12_readName_5 N K σ) := by
  unfold b_X12_readName_5
  exact (kve_bind (kre_st rfl (kre_f_X12_at N σ (σ.i 12))) (fun p1 => (kve_bind (kre_st rfl (kre_f_X12_isLetter N p1.2 p1.1)) (fun p3 => (kve_ite (kve_bind (kre_st rfl (kre_f_X12_at N p3.2 (p3.2.i 12))) (fun p8 => (kve_bind (kre_st rfl (kre_f_X12_isDigit N p8.2 p8.1)) (fun p10 => (kve_ite (kve_ite (kve_bind (kre_st rfl (kre_f_X12_at N p10.2 (p10.2.i 11))) (fun p14 => (kve_bind (kre_st rfl (kre_f_X12_at N p14.2 ((p14.2.i 11) + 1))) (fun p16 => (kve_ite (kve_ite (kve_st rfl (kre_f_X12_readName_135 N (RS.setI p16.2 10 2) ((p10.2.i 12) - (p10.2.i 11)) p14.1 (p16.1 - 48))) (kve_ite (kve_st rfl (kre_f_X12_readName_135 N (RS.setI p16.2 10 2) ((p10.2.i 12) - (p10.2.i 11)) p14.1 (p16.1 - 48))) (kve_st rfl (kre_f_X12_readName_168 N (RS.setI p16.2 10 2) ((p10.2.i 12) - (p10.2.i 11)) p14.1 (p16.1 - 48))))) (kve_st rfl (kre_f_X12_readName_168 N (RS.setI p16.2 10 2) ((p10.2.i 12) - (p10.2.i 11)) p14.1 (p16.1 - 48)))))))) (kve_some rfl)) (kve_bind (kre_st rfl (kre_f_X12_at N p10.2 (p10.2.i 12))) (fun p43 => (kve_st rfl (hK (RS.setI (RS.setL p43.2 ((p10.2.l <<< ((8 : Int32).toInt64 &&& 63)) ||| (p43.1 : Int32).toInt64)) 12 ((p43.2.i 12) + 1))))))))))) (kve_bind (kre_st rfl (kre_f_X12_at N p3.2 (p3.2.i 12))) (fun p6 => (kve_st rfl (hK (RS.setI (RS.setL p6.2 ((p3.2.l <<< ((8 : Int32).toInt64 &&& 63)) ||| (p6.1 : Int32).toInt64)) 12 ((p6.2.i 12) + 1)))))))))))
theorem kre_f_X12_readName_5 (N : Nat) : ∀ (n : Nat) (σ : RS), KVe σ (f_X12_readName_5 N n σ )
  | 0, _ => kve_none
  | n+1, σ => kre_b_X12_readName_5 N (f_X12_readName_5 N n) (fun σ => kre_f_X12_readName_5 N n σ) σ
theorem kre_f_X12_readName (N : Nat) (σ : RS) : KVe σ (f_X12_readName N σ) := by
  unfold f_X12_readName
  exact (kve_st rfl (kre_f_X12_readName_5 N N (RS.setL σ 0)))
theorem kre_f_X12_readSign_306 (N : Nat) (σ : RS) (x1 : Int32) (x4 : Int32) : KVe σ (f_X12_readSign_306 N σ x1 x4) := by
  unfold f_X12_readSign_306
  exact (kve_ite (kve_some rfl) (kve_some rfl))
theorem kre_f_X12_readSign_299 (N : Nat) (σ : RS) (x1 : Int32) : KVe σ (f_X12_readSign_299 N σ x1) := by
  unfold f_X12_readSign_299
  exact (kve_st rfl (kre_f_X12_readSign_306 N σ x1 1))
theorem kre_f_X12_readSign_165 (N : Nat) (σ : RS) (x1 : Int32) (x3 : Int32) : KVe σ (f_X12_readSign_165 N σ x1 x3) := by
  unfold f_X12_readSign_165
  exact (kve_ite (kve_ite (kve_st rfl (kre_f_X12_readSign_299 N σ x1)) (kve_ite (kve_st rfl (kre_f_X12_readSign_299 N σ x1)) (kve_ite (kve_st rfl (kre_f_X12_readSign_299 N σ x1)) (kve_ite (kve_st rfl (kre_f_X12_readSign_299 N σ x1)) (kve_ite (kve_st rfl (kre_f_X12_readSign_299 N σ x1)) (kve_ite (kve_st rfl (kre_f_X12_readSign_299 N σ x1)) (kve_ite (kve_st rfl (kre_f_X12_readSign_299 N σ x1)) (kve_ite (kve_st rfl (kre_f_X12_readSign_299 N σ x1)) (kve_ite (kve_st rfl (kre_f_X12_readSign_299 N σ x1)) (kve_ite (kve_st rfl (kre_f_X12_readSign_299 N σ x1)) (kve_ite (kve_st rfl (kre_f_X12_readSign_299 N σ x1)) (kve_ite (kve_st rfl (kre_f_X12_readSign_299 N σ x1)) (kve_ite (kve_st rfl (kre_f_X12_readSign_299 N σ x1)) (kve_ite (kve_st rfl (kre_f_X12_readSign_299 N σ x1)) (kve_ite (kve_st rfl (kre_f_X12_readSign_299 N σ x1)) (kve_ite (kve_st rfl (kre_f_X12_readSign_299 N σ x1)) (kve_ite (kve_st rfl (kre_f_X12_readSign_299 N σ x1)) (kve_ite (kve_st rfl (kre_f_X12_readSign_299 N σ x1)) (kve_ite (kve_st rfl (kre_f_X12_readSign_299 N σ x1)) (kve_st rfl (kre_f_X12_readSign_306 N σ x1 0))))))))))))))))))))) (kve_some rfl))
theorem kre_f_X12_readSign_163 (N : Nat) (σ : RS) (x1 : Int32) : KVe σ (f_X12_readSign_163 N σ x1) := by
  unfold f_X12_readSign_163
  exact (kve_st rfl (kre_f_X12_readSign_165 N σ x1 0))
theorem kre_f_X12_readSign_145 (N : Nat) (σ : RS) (x1 : Int32) (x2 : Int32) : KVe σ (f_X12_readSign_145 N σ x1 x2) := by
  unfold f_X12_readSign_145
  exact (kve_ite (kve_ite (kve_st rfl (kre_f_X12_readSign_165 N σ x1 307)) (kve_st rfl (kre_f_X12_readSign_163 N σ x1))) (kve_st rfl (kre_f_X12_readSign_163 N σ x1)))
theorem kre_f_X12_readSign_127 (N : Nat) (σ : RS) (x1 : Int32) (x2 : Int32) : KVe σ (f_X12_readSign_127 N σ x1 x2) := by
  unfold f_X12_readSign_127
  exact (kve_ite (kve_ite (kve_st rfl (kre_f_X12_readSign_165 N σ x1 306)) (kve_st rfl (kre_f_X12_readSign_145 N σ x1 x2))) (kve_st rfl (kre_f_X12_readSign_145 N σ x1 x2)))
theorem kre_f_X12_readSign_109 (N : Nat) (σ : RS) (x1 : Int32) (x2 : Int32) : KVe σ (f_X12_readSign_109 N σ x1 x2) := by
  unfold f_X12_readSign_109
  exact (kve_ite (kve_ite (kve_st rfl (kre_f_X12_readSign_165 N σ x1 305)) (kve_st rfl (kre_f_X12_readSign_127 N σ x1 x2))) (kve_st rfl (kre_f_X12_readSign_127 N σ x1 x2)))
theorem kre_f_X12_readSign_91 (N : Nat) (σ : RS) (x1 : Int32) (x2 : Int32) : KVe σ (f_X12_readSign_91 N σ x1 x2) := by
  unfold f_X12_readSign_91
  exact (kve_ite (kve_ite (kve_st rfl (kre_f_X12_readSign_165 N σ x1 304)) (kve_st rfl (kre_f_X12_readSign_109 N σ x1 x2))) (kve_st rfl (kre_f_X12_readSign_109 N σ x1 x2)))
theorem kre_f_X12_readSign_73 (N : Nat) (σ : RS) (x1 : Int32) (x2 : Int32) : KVe σ (f_X12_readSign_73 N σ x1 x2) := by
  unfold f_X12_readSign_73
  exact (kve_ite (kve_ite (kve_st rfl (kre_f_X12_readSign_165 N σ x1 303)) (kve_st rfl (kre_f_X12_readSign_91 N σ x1 x2))) (kve_st rfl (kre_f_X12_readSign_91 N σ x1 x2)))
theorem kre_f_X12_readSign_55 (N : Nat) (σ : RS) (x1 : Int32) (x2 : Int32) : KVe σ (f_X12_readSign_55 N σ x1 x2) := by
  unfold f_X12_readSign_55
  exact (kve_ite (kve_ite (kve_st rfl (kre_f_X12_readSign_165 N σ x1 302)) (kve_st rfl (kre_f_X12_readSign_73 N σ x1 x2))) (kve_st rfl (kre_f_X12_readSign_73 N σ x1 x2)))
theorem kre_f_X12_readSign_37 (N : Nat) (σ : RS) (x1 : Int32) (x2 : Int32) : KVe σ (f_X12_readSign_37 N σ x1 x2) := by
  unfold f_X12_readSign_37
  exact (kve_ite (kve_ite (kve_st rfl (kre_f_X12_readSign_165 N σ x1 301)) (kve_st rfl (kre_f_X12_readSign_55 N σ x1 x2))) (kve_st rfl (kre_f_X12_readSign_55 N σ x1 x2)))
theorem kre_f_X12_readSign (N : Nat) (σ : RS) (x1 : Int32) : KVe σ (f_X12_readSign N σ x1) := by
  unfold f_X12_readSign
  exact (kve_bind (kre_st rfl (kre_f_X12_at N (RS.setI σ 12 ((σ.i 12) + 1)) ((σ.i 12) + 1))) (fun p1 => (kve_ite (kve_ite (kve_st rfl (kre_f_X12_readSign_165 N p1.2 x1 300)) (kve_st rfl (kre_f_X12_readSign_37 N p1.2 x1 p1.1))) (kve_st rfl (kre_f_X12_readSign_37 N p1.2 x1 p1.1)))))
theorem kre_f_X12_next_211 (N : Nat) (σ : RS) : KVe σ (f_X12_next_211 N σ) := by
  unfold f_X12_next_211
  exact (kve_some rfl)
theorem kre_b_X12_next_116 (N : Nat) (K : RS → Option (RS)) (hK : ∀ (σ : RS), KVe σ (K σ)) (σ : RS) : KVe σ (b_X12_next_116 N K σ) := by
  unfold b_X12_next_116
  exact (kve_bind (kre_st rfl (kre_f_X12_at N σ (σ.i 12))) (fun p16 => (kve_bind (kre_st rfl (kre_f_X12_isDigit N p16.2 p16.1)) (fun p18 => (kve_ite (kve_ite (kve_st rfl (kre_f_X12_next_211 N (RS.setI p18.2 10 1))) (kve_st rfl (kre_f_X12_next_211 N (RS.setI p18.2 10 6)))) (kve_ite (kve_st rfl (hK (RS.setI (RS.setI p18.2 14 (p18.2.i 14)) 12 ((p18.2.i 12) + 1)))) (kve_bind (kre_st rfl (kre_f_X12_at N p18.2 (p18.2.i 12))) (fun p23 => (kve_st rfl (hK (RS.setI (RS.setI p23.2 14 (((10 * (p18.2.i 14)) + p23.1) - 48)) 12 ((p23.2.i 12) + 1))))))))))))
theorem kre_f_X12_next_116 (N : Nat) : ∀ (n : Nat) (σ : RS), KVe σ (f_X12_next_116 N n σ )
  | 0, _ => kve_none
  | n+1, σ => kre_b_X12_next_116 N (f_X12_next_116 N n) (fun σ => kre_f_X12_next_116 N n σ) σ
theorem kre_f_X12_next_68 (N : Nat) (σ : RS) : KVe σ (f_X12_next_68 N σ) := by
  unfold f_X12_next_68
  exact (kve_bind (kre_st rfl (kre_f_X12_at N (RS.setI σ 11 (σ.i 12)) (σ.i 12))) (fun p3 => (kve_ite (kve_some rfl) (kve_bind (kre_st rfl (kre_f_X12_isDigit N p3.2 p3.1)) (fun p6 => (kve_ite (kve_bind (kre_st rfl (kre_f_X12_isLetter N p6.2 p3.1)) (fun p9 => (kve_ite (kve_bindv (kve_st rfl (kre_f_X12_readSign N p9.2 p3.1)) (fun p12 => (kve_some rfl))) (kve_bindv (kve_st rfl (kre_f_X12_readName N p9.2)) (fun p14 => (kve_some rfl)))))) (kve_st rfl (kre_f_X12_next_116 N N (RS.setI p6.2 14 0)))))))))
theorem kre_b_X12_next_18 (N : Nat) (K : RS → Option (RS)) (hK : ∀ (σ : RS), KVe σ (K σ)) (σ : RS) : KVe σ (b_X12_next_18 N K σ) := by
  unfold b_X12_next_18
  exact (kve_ite (kve_st rfl (kre_f_X12_next_68 N σ)) (kve_bind (kre_st rfl (kre_f_X12_at N σ (σ.i 12))) (fun p25 => (kve_ite (kve_st rfl (hK (RS.setI p25.2 12 ((p25.2.i 12) + 1)))) (kve_bind (kre_st rfl (kre_f_X12_at N p25.2 (p25.2.i 12))) (fun p28 => (kve_ite (kve_st rfl (hK (RS.setI p28.2 12 ((p28.2.i 12) + 1)))) (kve_st rfl (kre_f_X12_next_68 N p28.2)))))))))
theorem kre_f_X12_next_18 (N : Nat) : ∀ (n : Nat) (σ : RS), KVe σ (f_X12_next_18 N n σ )
  | 0, _ => kve_none
  | n+1, σ => kre_b_X12_next_18 N (f_X12_next_18 N n) (fun σ => kre_f_X12_next_18 N n σ) σ
theorem kre_f_X12_next (N : Nat) (σ : RS) : KVe σ (f_X12_next N σ) := by
  unfold f_X12_next
  exact (kve_ite (kve_st rfl (kre_f_X12_next_18 N N (RS.setI σ 17 ((σ.i 17) + 1)))) (kve_some rfl))
theorem kre_f_X12_fail (N : Nat) (σ : RS) (x1 : Int32) (x2 : Int32) : KVe σ (f_X12_fail N σ x1 x2) := by
  unfold f_X12_fail
  exact (kve_ite (kve_some rfl) (kve_some rfl))
theorem kre_f_X12_note (N : Nat) (σ : RS) (x1 : Int32) : KVe σ (f_X12_note N σ x1) := by
  unfold f_X12_note
  exact (kve_ite (kve_ite (kve_some rfl) (kve_some rfl)) (kve_some rfl))
theorem kre_f_X12_can_42 (N : Nat) (σ : RS) : KRe σ (f_X12_can_42 N σ) := by
  unfold f_X12_can_42
  exact (kre_ite (kre_some rfl) (kre_some rfl))
theorem kre_f_X12_can_20 (N : Nat) (σ : RS) : KRe σ (f_X12_can_20 N σ) := by
  unfold f_X12_can_20
  exact (kre_ite (kre_bindv (kve_st rfl (kre_f_X12_fail N σ 1 (σ.i 11))) (fun p7 => (kre_st rfl (kre_f_X12_can_42 N p7)))) (kre_bindv (kve_st rfl (kre_f_X12_fail N σ 2 (σ.i 11))) (fun p5 => (kre_st rfl (kre_f_X12_can_42 N p5)))))
theorem kre_f_X12_can (N : Nat) (σ : RS) (x1 : Int32) : KRe σ (f_X12_can N σ x1) := by
  unfold f_X12_can
  exact (kre_ite (kre_ite (kre_st rfl (kre_f_X12_can_20 N σ)) (kre_ite (kre_st rfl (kre_f_X12_can_20 N σ)) (kre_st rfl (kre_f_X12_can_42 N σ)))) (kre_st rfl (kre_f_X12_can_42 N σ)))
theorem kre_f_X12_need_31 (N : Nat) (σ : RS) : KRe σ (f_X12_need_31 N σ) := by
  unfold f_X12_need_31
  exact (kre_ite (kre_some rfl) (kre_some rfl))
theorem kre_f_X12_need_27 (N : Nat) (σ : RS) : KRe σ (f_X12_need_27 N σ) := by
  unfold f_X12_need_27
  exact (kre_bindv (kve_st rfl (kre_f_X12_next N σ)) (fun p7 => (kre_st rfl (kre_f_X12_need_31 N p7))))
theorem kre_f_X12_need (N : Nat) (σ : RS) (x1 : Int32) : KRe σ (f_X12_need N σ x1) := by
  unfold f_X12_need
  exact (kre_ite (kre_ite (kre_bind (kre_st rfl (kre_f_X12_can N σ 1)) (fun p9 => (kre_ite (kre_st rfl (kre_f_X12_need_31 N p9.2)) (kre_st rfl (kre_f_X12_need_27 N p9.2))))) (kre_bind (kre_st rfl (kre_f_X12_can N σ 0)) (fun p4 => (kre_ite (kre_st rfl (kre_f_X12_need_31 N p4.2)) (kre_st rfl (kre_f_X12_need_27 N p4.2)))))) (kre_st rfl (kre_f_X12_need_31 N σ)))
theorem kre_f_X12_opens_29 (N : Nat) (σ : RS) : KRe σ (f_X12_opens_29 N σ) := by
  unfold f_X12_opens_29
  exact (kre_ite (kre_some rfl) (kre_some rfl))
theorem kre_f_X12_opens (N : Nat) (σ : RS) : KRe σ (f_X12_opens N σ) := by
  unfold f_X12_opens
  exact (kre_ite (kre_st rfl (kre_f_X12_opens_29 N (RS.setI σ 19 ((σ.i 19) + 1)))) (kre_bindv (kve_st rfl (kre_f_X12_fail N (RS.setI σ 19 ((σ.i 19) + 1)) 6 (σ.i 11))) (fun p3 => (kre_st rfl (kre_f_X12_opens_29 N p3)))))
theorem kre_f_X12_open_38 (N : Nat) (σ : RS) : KRe σ (f_X12_open_38 N σ) := by
  unfold f_X12_open_38
  exact (kre_ite (kre_some rfl) (kre_some rfl))
theorem kre_f_X12_open_27 (N : Nat) (σ : RS) : KRe σ (f_X12_open_27 N σ) := by
  unfold f_X12_open_27
  exact (kre_bind (kre_st rfl (kre_f_X12_opens N σ)) (fun p7 => (kre_ite (kre_st rfl (kre_f_X12_open_38 N p7.2)) (kre_bindv (kve_st rfl (kre_f_X12_next N p7.2)) (fun p10 => (kre_st rfl (kre_f_X12_open_38 N p10)))))))
theorem kre_f_X12_open (N : Nat) (σ : RS) (x1 : Int32) : KRe σ (f_X12_open N σ x1) := by
  unfold f_X12_open
  exact (kre_ite (kre_ite (kre_bind (kre_st rfl (kre_f_X12_can N σ 1)) (fun p12 => (kre_ite (kre_st rfl (kre_f_X12_open_38 N p12.2)) (kre_st rfl (kre_f_X12_open_27 N p12.2))))) (kre_bind (kre_st rfl (kre_f_X12_can N σ 0)) (fun p4 => (kre_ite (kre_st rfl (kre_f_X12_open_38 N p4.2)) (kre_st rfl (kre_f_X12_open_27 N p4.2)))))) (kre_st rfl (kre_f_X12_open_38 N σ)))
theorem kre_f_X12_shut_18 (N : Nat) (σ : RS) : KRe σ (f_X12_shut_18 N σ) := by
  unfold f_X12_shut_18
  exact (kre_ite (kre_some rfl) (kre_some rfl))
theorem kre_f_X12_shut (N : Nat) (σ : RS) (x1 : Int32) : KRe σ (f_X12_shut N σ x1) := by
  unfold f_X12_shut
  exact (kre_bind (kre_st rfl (kre_f_X12_need N σ x1)) (fun p1 => (kre_ite (kre_st rfl (kre_f_X12_shut_18 N p1.2)) (kre_st rfl (kre_f_X12_shut_18 N (RS.setI p1.2 19 ((p1.2.i 19) - 1)))))))
theorem kre_b_X12_seenAs_7 (N : Nat) (K : RS → Int64 → Int32 → Option (Int32 × RS)) (hK : ∀ (σ : RS) (y0 : Int64) (y1 : Int32), KRe σ (K σ y0 y1)) (σ : RS) (x1 : Int64) (x3 : Int32) : KRe σ (b_X12_seenAs_7 N K σ x1 x3) := by
  unfold b_X12_seenAs_7
  exact (kre_ite (kre_some rfl) (kre_ite (kre_ite (kre_some rfl) (kre_st rfl (hK σ x1 (x3 + (-1))))) kre_none))
theorem kre_f_X12_seenAs_7 (N : Nat) : ∀ (n : Nat) (σ : RS) (y0 : Int64) (y1 : Int32), KRe σ (f_X12_seenAs_7 N n σ y0 y1)
  | 0, _, _, _ => kre_none
  | n+1, σ, y0, y1 => kre_b_X12_seenAs_7 N (f_X12_seenAs_7 N n) (fun σ y0 y1 => kre_f_X12_seenAs_7 N n σ y0 y1) σ y0 y1
theorem kre_f_X12_seenAs (N : Nat) (σ : RS) (x1 : Int64) : KRe σ (f_X12_seenAs N σ x1) := by
  unfold f_X12_seenAs
  exact (kre_st rfl (kre_f_X12_seenAs_7 N N σ x1 ((σ.i 38) - 1)))
theorem kre_f_X12_goal (N : Nat) (σ : RS) (x1 : Int32) (x2 : Int64) : KRe σ (f_X12_goal N σ x1 x2) := by
  unfold f_X12_goal
  exact (kre_ite (kre_some rfl) kre_none)
theorem kre_f_X12_loopGoal_49 (N : Nat) (σ : RS) (x1 : Int32) : KRe σ (f_X12_loopGoal_49 N σ x1) := by
  unfold f_X12_loopGoal_49
  exact (kre_some rfl)
theorem kre_b_X12_loopGoal_11 (N : Nat) (K : RS → Int32 → Int32 → Option (Int32 × RS)) (hK : ∀ (σ : RS) (y0 : Int32) (y1 : Int32), KRe σ (K σ y0 y1)) (σ : RS) (x1 : Int32) (x2 : Int32) : KRe σ (b_X12_loopGoal_11 N K σ x1 x2) := by
  unfold b_X12_loopGoal_11
  exact (kre_ite (kre_st rfl (kre_f_X12_loopGoal_49 N σ x1)) (kre_ite (kre_ite (kre_ite (kre_st rfl (hK (RS.setA σ 46 ((x2 : Int32).toNatClampNeg) x1) x1 (x2 + (-1)))) (kre_st rfl (kre_f_X12_loopGoal_49 N σ x1))) (kre_st rfl (kre_f_X12_loopGoal_49 N σ x1))) kre_none))
theorem kre_f_X12_loopGoal_11 (N : Nat) : ∀ (n : Nat) (σ : RS) (y0 : Int32) (y1 : Int32), KRe σ (f_X12_loopGoal_11 N n σ y0 y1)
  | 0, _, _, _ => kre_none
  | n+1, σ, y0, y1 => kre_b_X12_loopGoal_11 N (f_X12_loopGoal_11 N n) (fun σ y0 y1 => kre_f_X12_loopGoal_11 N n σ y0 y1) σ y0 y1
theorem kre_f_X12_loopGoal (N : Nat) (σ : RS) : KRe σ (f_X12_loopGoal N σ) := by
  unfold f_X12_loopGoal
  exact (kre_bind (kre_st rfl (kre_f_X12_goal N σ 0 0)) (fun p1 => (kre_st rfl (kre_f_X12_loopGoal_11 N N p1.2 p1.1 (p1.1 - 1)))))
theorem kre_f_X12_goes (N : Nat) (σ : RS) (x1 : Int32) (x2 : Int32) : KVe σ (f_X12_goes N σ x1 x2) := by
  unfold f_X12_goes
  exact (kve_ite (kve_ite (kve_some rfl) kve_none) (kve_ite (kve_some rfl) kve_none))
theorem kre_f_X12_pend_22 (N : Nat) (σ : RS) (x1 : Int32) (x2 : Int32) : KVe σ (f_X12_pend_22 N σ x1 x2) := by
  unfold f_X12_pend_22
  exact (kve_bindv (kve_st rfl (kre_f_X12_goes N σ x1 x2)) (fun p2 => (kve_some rfl)))
theorem kre_f_X12_pend (N : Nat) (σ : RS) (x1 : Int32) (x2 : Int32) : KVe σ (f_X12_pend N σ x1 x2) := by
  unfold f_X12_pend
  exact (kve_ite (kve_st rfl (kre_f_X12_pend_22 N σ x1 x2)) (kve_ite (kve_ite (kve_ite (kve_some rfl) kve_none) (kve_st rfl (kre_f_X12_pend_22 N σ x1 x2))) kve_none))
theorem kre_b_X12_resolve_2 (N : Nat) (K : RS → Int32 → Int32 → Int32 → Option (RS)) (hK : ∀ (σ : RS) (y0 : Int32) (y1 : Int32) (y2 : Int32), KVe σ (K σ y0 y1 y2)) (σ : RS) (x1 : Int32) (x2 : Int32) (x3 : Int32) : KVe σ (b_X12_resolve_2 N K σ x1 x2 x3) := by
  unfold b_X12_resolve_2
  exact (kve_ite (kve_some rfl) (kve_ite (kve_ite (kve_ite (kve_st rfl (hK (RS.setA σ 62 ((x3 : Int32).toNatClampNeg) (-1)) x1 x2 (x3 + 1))) (kve_ite (kve_bindv (kve_st rfl (kre_f_X12_goes N (RS.setA σ 62 ((x3 : Int32).toNatClampNeg) (-1)) (σ.a 60 ((x3 : Int32).toNatClampNeg)) (σ.a 61 ((x3 : Int32).toNatClampNeg)))) (fun p8 => (kve_st rfl (hK p8 x1 x2 (x3 + 1))))) (kve_ite (kve_ite (kve_bindv (kve_st rfl (kre_f_X12_goes N (RS.setA σ 62 ((x3 : Int32).toNatClampNeg) (-1)) (σ.a 60 ((x3 : Int32).toNatClampNeg)) (σ.a 61 ((x3 : Int32).toNatClampNeg)))) (fun p13 => (kve_st rfl (hK p13 x1 x2 (x3 + 1))))) (kve_st rfl (hK (RS.setA σ 62 ((x3 : Int32).toNatClampNeg) (σ.a 57 ((((σ.i 56) - 1) : Int32).toNatClampNeg))) x1 x2 (x3 + 1)))) kve_none))) (kve_st rfl (hK σ x1 x2 (x3 + 1)))) kve_none))
theorem kre_f_X12_resolve_2 (N : Nat) : ∀ (n : Nat) (σ : RS) (y0 : Int32) (y1 : Int32) (y2 : Int32), KVe σ (f_X12_resolve_2 N n σ y0 y1 y2)
  | 0, _, _, _, _ => kve_none
  | n+1, σ, y0, y1, y2 => kre_b_X12_resolve_2 N (f_X12_resolve_2 N n) (fun σ y0 y1 y2 => kre_f_X12_resolve_2 N n σ y0 y1 y2) σ y0 y1 y2
theorem kre_f_X12_resolve (N : Nat) (σ : RS) (x1 : Int32) (x2 : Int32) : KVe σ (f_X12_resolve N σ x1 x2) := by
  unfold f_X12_resolve
  exact (kve_st rfl (kre_f_X12_resolve_2 N N σ x1 x2 0))
theorem kre_f_X12_push (N : Nat) (σ : RS) (x1 : Int32) : KVe σ (f_X12_push N σ x1) := by
  unfold f_X12_push
  exact (kve_ite (kve_some rfl) kve_none)
theorem kre_f_X12_then (N : Nat) (σ : RS) (x1 : Int32) (x2 : Int32) : KVe σ (f_X12_then N σ x1 x2) := by
  unfold f_X12_then
  exact (kve_ite (kve_bindv (kve_st rfl (kre_f_X12_push N (RS.setA σ 65 (((σ.i 63) : Int32).toNatClampNeg) x1) x2)) (fun p2 => (kve_some rfl))) kve_none)
theorem kre_f_X12_body_32 (N : Nat) (σ : RS) (x1 : Int32) : KVe σ (f_X12_body_32 N σ x1) := by
  unfold f_X12_body_32
  exact (kve_bindv (kve_st rfl (kre_f_X12_then N σ x1 2)) (fun p5 => (kve_some rfl)))
theorem kre_f_X12_body (N : Nat) (σ : RS) (x1 : Int32) : KVe σ (f_X12_body N σ x1) := by
  unfold f_X12_body
  exact (kve_ite (kve_bind (kre_st rfl (kre_f_X12_can N σ 0)) (fun p2 => (kve_ite (kve_some rfl) (kve_st rfl (kre_f_X12_body_32 N p2.2 x1))))) (kve_ite (kve_bind (kre_st rfl (kre_f_X12_can N σ 0)) (fun p8 => (kve_ite (kve_some rfl) (kve_st rfl (kre_f_X12_body_32 N p8.2 x1))))) (kve_bind (kre_st rfl (kre_f_X12_can N σ 1)) (fun p11 => (kve_ite (kve_some rfl) (kve_st rfl (kre_f_X12_body_32 N p11.2 x1)))))))
theorem kre_f_X12_over (N : Nat) (σ : RS) (x1 : Int32) : KVe σ (f_X12_over N σ x1) := by
  unfold f_X12_over
  exact (kve_ite (kve_some rfl) kve_none)
theorem kre_f_X12_list_73 (N : Nat) (σ : RS) (x1 : Int32) : KVe σ (f_X12_list_73 N σ x1) := by
  unfold f_X12_list_73
  exact (kve_ite (kve_ite (kve_bindv (kve_st rfl (kre_f_X12_over N σ 1)) (fun p9 => (kve_some rfl))) (kve_bindv (kve_st rfl (kre_f_X12_over N σ 0)) (fun p7 => (kve_some rfl)))) kve_none)
theorem kre_f_X12_list_110 (N : Nat) (σ : RS) : KVe σ (f_X12_list_110 N σ) := by
  unfold f_X12_list_110
  exact (kve_bindv (kve_st rfl (kre_f_X12_then N σ 1 2)) (fun p16 => (kve_some rfl)))
theorem kre_f_X12_list_37 (N : Nat) (σ : RS) (x1 : Int32) : KVe σ (f_X12_list_37 N σ x1) := by
  unfold f_X12_list_37
  exact (kve_ite (kve_st rfl (kre_f_X12_list_73 N σ x1)) (kve_ite (kve_st rfl (kre_f_X12_list_73 N σ x1)) (kve_ite (kve_st rfl (kre_f_X12_list_73 N σ x1)) (kve_ite (kve_st rfl (kre_f_X12_list_73 N σ x1)) (kve_ite (kve_ite (kve_bindv (kve_st rfl (kre_f_X12_note N σ (σ.i 11))) (fun p18 => (kve_st rfl (kre_f_X12_list_110 N p18)))) (kve_st rfl (kre_f_X12_list_110 N σ))) kve_none)))))
theorem kre_f_X12_list (N : Nat) (σ : RS) (x1 : Int32) : KVe σ (f_X12_list N σ x1) := by
  unfold f_X12_list
  exact (kve_ite (kve_ite (kve_st rfl (kre_f_X12_list_37 N (RS.setA σ 66 ((x1 : Int32).toNatClampNeg) 1) x1)) (kve_ite (kve_st rfl (kre_f_X12_list_37 N (RS.setA σ 66 ((x1 : Int32).toNatClampNeg) 0) x1)) (kve_st rfl (kre_f_X12_list_37 N (RS.setA σ 66 ((x1 : Int32).toNatClampNeg) 1) x1)))) kve_none)
theorem kre_f_X12_jump_317 (N : Nat) (σ : RS) : KVe σ (f_X12_jump_317 N σ) := by
  unfold f_X12_jump_317
  exact (kve_bind (kre_st rfl (kre_f_X12_need N σ 59)) (fun p18 => (kve_some rfl)))
theorem kre_f_X12_jump_302 (N : Nat) (σ : RS) (x1 : Int32) (x3 : Int32) (x4 : Int32) : KVe σ (f_X12_jump_302 N σ x1 x3 x4) := by
  unfold f_X12_jump_302
  exact (kve_bindv (kve_st rfl (kre_f_X12_pend N σ x4 x1)) (fun p15 => (kve_ite (kve_st rfl (kre_f_X12_jump_317 N p15)) (kve_bindv (kve_st rfl (kre_f_X12_next N p15)) (fun p20 => (kve_st rfl (kre_f_X12_jump_317 N p20)))))))
theorem kre_f_X12_block (N : Nat) (σ : RS) (x1 : Int32) : KVe σ (f_X12_block N σ x1) := by
  unfold f_X12_block
  exact (kve_ite (kve_ite (kve_bind (kre_st rfl (kre_f_X12_open N σ 123)) (fun p5 => (kve_bindv (kve_st rfl (kre_f_X12_then N (RS.setA p5.2 66 ((x1 : Int32).toNatClampNeg) (p5.2.i 38)) 1 1)) (fun p7 => (kve_some rfl))))) (kve_bind (kre_st rfl (kre_f_X12_shut N σ 125)) (fun p3 => (kve_some rfl)))) kve_none)
theorem kre_f_X12_telling_22 (N : Nat) (σ : RS) (x1 : Int32) : KRe σ (f_X12_telling_22 N σ x1) := by
  unfold f_X12_telling_22
  exact (kre_bind (kre_st rfl (kre_f_X12_seenAs N σ σ.l)) (fun p5 => (kre_ite (kre_ite (kre_bindv (kve_st rfl (kre_f_X12_next N (RS.setB (RS.setI p5.2 54 ((p5.2.i 54) + 1)) 74 ((x1 : Int32).toNatClampNeg) p5.2.l))) (fun p9 => (kre_some rfl))) kre_none) (kre_bindv (kve_st rfl (kre_f_X12_fail N p5.2 4 (p5.2.i 11))) (fun p11 => (kre_some rfl))))))
theorem kre_f_X12_telling_20 (N : Nat) (σ : RS) : KRe σ (f_X12_telling_20 N σ) := by
  unfold f_X12_telling_20
  exact (kre_some rfl)
theorem kre_f_X12_telling (N : Nat) (σ : RS) (x1 : Int32) : KRe σ (f_X12_telling N σ x1) := by
  unfold f_X12_telling
  exact (kre_ite (kre_bind (kre_st rfl (kre_f_X12_can N σ 1)) (fun p13 => (kre_ite (kre_st rfl (kre_f_X12_telling_20 N p13.2)) (kre_st rfl (kre_f_X12_telling_22 N p13.2 x1))))) (kre_bind (kre_st rfl (kre_f_X12_can N σ 0)) (fun p2 => (kre_ite (kre_st rfl (kre_f_X12_telling_20 N p2.2)) (kre_st rfl (kre_f_X12_telling_22 N p2.2 x1))))))
theorem kre_f_X12_label_188 (N : Nat) (σ : RS) : KVe σ (f_X12_label_188 N σ) := by
  unfold f_X12_label_188
  exact (kve_bindv (kve_st rfl (kre_f_X12_body N σ 1)) (fun p10 => (kve_some rfl)))
theorem kre_f_X12_label_168 (N : Nat) (σ : RS) : KVe σ (f_X12_label_168 N σ) := by
  unfold f_X12_label_168
  exact (kve_st rfl (kre_f_X12_label_188 N σ))
theorem kre_b_X12_label_125 (N : Nat) (K : RS → Int32 → Option (RS)) (hK : ∀ (σ : RS) (y0 : Int32), KVe σ (K σ y0)) (σ : RS) (x6 : Int32) : KVe σ (b_X12_label_125 N K σ x6) := by
  unfold b_X12_label_125
  exact (kve_ite (kve_st rfl (kre_f_X12_label_168 N σ)) (kve_ite (kve_ite (kve_ite (kve_st rfl (hK (RS.setA σ 46 ((x6 : Int32).toNatClampNeg) (-3)) (x6 + (-1)))) (kve_st rfl (kre_f_X12_label_168 N σ))) (kve_st rfl (kre_f_X12_label_168 N σ))) kve_none))
theorem kre_f_X12_label_125 (N : Nat) : ∀ (n : Nat) (σ : RS) (y0 : Int32), KVe σ (f_X12_label_125 N n σ y0)
  | 0, _, _ => kve_none
  | n+1, σ, y0 => kre_b_X12_label_125 N (f_X12_label_125 N n) (fun σ y0 => kre_f_X12_label_125 N n σ y0) σ y0
theorem kre_f_X12_label_110 (N : Nat) (σ : RS) (x5 : Int32) : KVe σ (f_X12_label_110 N σ x5) := by
  unfold f_X12_label_110
  exact (kve_ite (kve_st rfl (kre_f_X12_label_125 N N (RS.setA σ 46 ((x5 : Int32).toNatClampNeg) (-3)) (x5 - 1))) kve_none)
theorem kre_f_X12_label_60 (N : Nat) (σ : RS) (x1 : Int32) (x2 : Int64) : KVe σ (f_X12_label_60 N σ x1 x2) := by
  unfold f_X12_label_60
  exact (kve_bind (kre_st rfl (kre_f_X12_goal N σ 2 x2)) (fun p2 => (kve_ite (kve_bindv (kve_st rfl (kre_f_X12_next N (RS.setA p2.2 66 ((x1 : Int32).toNatClampNeg) p2.1))) (fun p5 => (kve_ite (kve_st rfl (kre_f_X12_label_110 N p5 p2.1)) (kve_ite (kve_st rfl (kre_f_X12_label_110 N p5 p2.1)) (kve_ite (kve_st rfl (kre_f_X12_label_110 N p5 p2.1)) (kve_ite (kve_ite (kve_st rfl (kre_f_X12_label_188 N (RS.setA p5 46 ((p2.1 : Int32).toNatClampNeg) (-2)))) kve_none) (kve_st rfl (kre_f_X12_label_188 N p5)))))))) kve_none)))
theorem kre_b_X12_label_8 (N : Nat) (K : RS → Int32 → Int64 → Int32 → Int32 → Option (RS)) (hK : ∀ (σ : RS) (y0 : Int32) (y1 : Int64) (y2 : Int32) (y3 : Int32), KVe σ (K σ y0 y1 y2 y3)) (σ : RS) (x1 : Int32) (x2 : Int64) (x4 : Int32) (x5 : Int32) : KVe σ (b_X12_label_8 N K σ x1 x2 x4 x5) := by
  unfold b_X12_label_8
  exact (kve_ite (kve_st rfl (kre_f_X12_label_60 N σ x1 x2)) (kve_ite (kve_ite (kve_st rfl (kre_f_X12_label_60 N σ x1 x2)) (kve_ite (kve_ite (kve_bindv (kve_st rfl (kre_f_X12_fail N σ 4 x4)) (fun p23 => (kve_st rfl (hK p23 x1 x2 x4 (x5 + (-1)))))) (kve_st rfl (hK σ x1 x2 x4 (x5 + (-1))))) (kve_st rfl (hK σ x1 x2 x4 (x5 + (-1)))))) kve_none))
theorem kre_f_X12_label_8 (N : Nat) : ∀ (n : Nat) (σ : RS) (y0 : Int32) (y1 : Int64) (y2 : Int32) (y3 : Int32), KVe σ (f_X12_label_8 N n σ y0 y1 y2 y3)
  | 0, _, _, _, _, _ => kve_none
  | n+1, σ, y0, y1, y2, y3 => kre_b_X12_label_8 N (f_X12_label_8 N n) (fun σ y0 y1 y2 y3 => kre_f_X12_label_8 N n σ y0 y1 y2 y3) σ y0 y1 y2 y3
theorem kre_f_X12_label (N : Nat) (σ : RS) (x1 : Int32) (x2 : Int64) (x4 : Int32) : KVe σ (f_X12_label N σ x1 x2 x4) := by
  unfold f_X12_label
  exact (kve_st rfl (kre_f_X12_label_8 N N σ x1 x2 x4 ((σ.i 43) - 1)))
theorem kre_f_X12_got_22 (N : Nat) (σ : RS) (x3 : Int32) : KRe σ (f_X12_got_22 N σ x3) := by
  unfold f_X12_got_22
  exact (kre_bindv (kve_st rfl (kre_f_X12_fail N σ 3 x3)) (fun p4 => (kre_some rfl)))
theorem kre_f_X12_got (N : Nat) (σ : RS) (x1 : Int64) (x3 : Int32) : KRe σ (f_X12_got N σ x1 x3) := by
  unfold f_X12_got
  exact (kre_bind (kre_st rfl (kre_f_X12_seenAs N σ x1)) (fun p1 => (kre_ite (kre_st rfl (kre_f_X12_got_22 N p1.2 x3)) (kre_ite (kre_ite (kre_some rfl) (kre_st rfl (kre_f_X12_got_22 N p1.2 x3))) kre_none))))
theorem kre_b_X12_isInArms_2 (N : Nat) (K : RS → Int32 → Option (Int32 × RS)) (hK : ∀ (σ : RS) (y0 : Int32), KRe σ (K σ y0)) (σ : RS) (x1 : Int32) : KRe σ (b_X12_isInArms_2 N K σ x1) := by
  unfold b_X12_isInArms_2
  exact (kre_ite (kre_some rfl) (kre_ite (kre_ite (kre_some rfl) (kre_st rfl (hK σ (x1 + 1)))) kre_none))
theorem kre_f_X12_isInArms_2 (N : Nat) : ∀ (n : Nat) (σ : RS) (y0 : Int32), KRe σ (f_X12_isInArms_2 N n σ y0)
  | 0, _, _ => kre_none
  | n+1, σ, y0 => kre_b_X12_isInArms_2 N (f_X12_isInArms_2 N n) (fun σ y0 => kre_f_X12_isInArms_2 N n σ y0) σ y0
theorem kre_f_X12_isInArms (N : Nat) (σ : RS) : KRe σ (f_X12_isInArms N σ) := by
  unfold f_X12_isInArms
  exact (kre_st rfl (kre_f_X12_isInArms_2 N N σ 0))
theorem kre_f_X12_ending_63 (N : Nat) (σ : RS) : KVe σ (f_X12_ending_63 N σ) := by
  unfold f_X12_ending_63
  exact (kve_bindv (kve_st rfl (kre_f_X12_next N σ)) (fun p26 => (kve_bindv (kve_st rfl (kre_f_X12_then N p26 1 16)) (fun p28 => (kve_some rfl)))))
theorem kre_f_X12_ending_53 (N : Nat) (σ : RS) : KVe σ (f_X12_ending_53 N σ) := by
  unfold f_X12_ending_53
  exact (kve_bindv (kve_st rfl (kre_f_X12_fail N σ 5 (σ.i 11))) (fun p33 => (kve_some rfl)))
theorem kre_f_X12_ending_36 (N : Nat) (σ : RS) : KVe σ (f_X12_ending_36 N σ) := by
  unfold f_X12_ending_36
  exact (kve_ite (kve_bind (kre_st rfl (kre_f_X12_isInArms N σ)) (fun p30 => (kve_ite (kve_st rfl (kre_f_X12_ending_53 N p30.2)) (kve_st rfl (kre_f_X12_ending_63 N p30.2))))) (kve_st rfl (kre_f_X12_ending_63 N σ)))
theorem kre_f_X12_throwing_142 (N : Nat) (σ : RS) : KVe σ (f_X12_throwing_142 N σ) := by
  unfold f_X12_throwing_142
  exact (kve_bindv (kve_st rfl (kre_f_X12_fail N σ 3 (σ.i 11))) (fun p13 => (kve_some rfl)))
theorem kre_f_X12_isJustTrue_18 (N : Nat) (σ : RS) : KRe σ (f_X12_isJustTrue_18 N σ) := by
  unfold f_X12_isJustTrue_18
  exact (kre_some rfl)
theorem kre_f_X12_isJustTrue (N : Nat) (σ : RS) (x1 : Int32) : KRe σ (f_X12_isJustTrue N σ x1) := by
  unfold f_X12_isJustTrue
  exact (kre_ite (kre_st rfl (kre_f_X12_isJustTrue_18 N σ)) (kre_ite (kre_some rfl) (kre_st rfl (kre_f_X12_isJustTrue_18 N σ))))
theorem kre_f_X12_whiles_77 (N : Nat) (σ : RS) : KVe σ (f_X12_whiles_77 N σ) := by
  unfold f_X12_whiles_77
  exact (kve_bindv (kve_st rfl (kre_f_X12_then N σ 1 20)) (fun p8 => (kve_some rfl)))
theorem kre_f_X12_repeats_195 (N : Nat) (σ : RS) : KVe σ (f_X12_repeats_195 N σ) := by
  unfold f_X12_repeats_195
  exact (kve_bindv (kve_st rfl (kre_f_X12_then N σ 2 20)) (fun p26 => (kve_some rfl)))
theorem kre_f_X12_repeats_134 (N : Nat) (σ : RS) (x1 : Int32) (x2 : Int32) : KVe σ (f_X12_repeats_134 N σ x1 x2) := by
  unfold f_X12_repeats_134
  exact (kve_ite (kve_ite (kve_bind (kre_st rfl (kre_f_X12_need N (RS.setI (RS.setA σ 70 ((x1 : Int32).toNatClampNeg) (σ.a 48 ((x2 : Int32).toNatClampNeg))) 43 ((σ.i 43) - 1)) 415)) (fun p21 => (kve_bind (kre_st rfl (kre_f_X12_open N p21.2 40)) (fun p23 => (kve_ite (kve_st rfl (kre_f_X12_repeats_195 N (RS.setA p23.2 69 ((x1 : Int32).toNatClampNeg) (p23.2.i 17)))) (kve_st rfl (kre_f_X12_repeats_195 N (RS.setA p23.2 69 ((x1 : Int32).toNatClampNeg) 0)))))))) kve_none) kve_none)
theorem kre_f_X12_repeats_114 (N : Nat) (σ : RS) (x1 : Int32) (x2 : Int32) : KVe σ (f_X12_repeats_114 N σ x1 x2) := by
  unfold f_X12_repeats_114
  exact (kve_ite (kve_ite (kve_ite (kve_st rfl (kre_f_X12_repeats_134 N (RS.setA σ 72 ((x1 : Int32).toNatClampNeg) 0) x1 x2)) kve_none) (kve_ite (kve_st rfl (kre_f_X12_repeats_134 N (RS.setA σ 72 ((x1 : Int32).toNatClampNeg) 1) x1 x2)) kve_none)) kve_none)
theorem kre_f_X12_forHead_231 (N : Nat) (σ : RS) (x1 : Int32) : KVe σ (f_X12_forHead_231 N σ x1) := by
  unfold f_X12_forHead_231
  exact (kve_ite (kve_some rfl) kve_none)
theorem kre_f_X12_forHead_196 (N : Nat) (σ : RS) : KVe σ (f_X12_forHead_196 N σ) := by
  unfold f_X12_forHead_196
  exact (kve_bindv (kve_st rfl (kre_f_X12_next N σ)) (fun p21 => (kve_bindv (kve_st rfl (kre_f_X12_then N p21 2 16)) (fun p23 => (kve_some rfl)))))
theorem kre_f_X12_forHead_142 (N : Nat) (σ : RS) : KVe σ (f_X12_forHead_142 N σ) := by
  unfold f_X12_forHead_142
  exact (kve_some rfl)
theorem kre_f_X12_forBehind_59 (N : Nat) (σ : RS) (x1 : Int32) : KVe σ (f_X12_forBehind_59 N σ x1) := by
  unfold f_X12_forBehind_59
  exact (kve_ite (kve_some rfl) kve_none)
theorem kre_f_X12_fors_255 (N : Nat) (σ : RS) (x1 : Int32) : KVe σ (f_X12_fors_255 N σ x1) := by
  unfold f_X12_fors_255
  exact (kve_ite (kve_some rfl) kve_none)
theorem kre_f_X12_fors_469 (N : Nat) (σ : RS) : KVe σ (f_X12_fors_469 N σ) := by
  unfold f_X12_fors_469
  exact (kve_some rfl)
theorem kre_f_X12_caseNumber_140 (N : Nat) (σ : RS) : KRe σ (f_X12_caseNumber_140 N σ) := by
  unfold f_X12_caseNumber_140
  exact (kre_ite (kre_some rfl) (kre_some rfl))
theorem kre_f_X12_caseNumber_43 (N : Nat) (σ : RS) : KRe σ (f_X12_caseNumber_43 N σ) := by
  unfold f_X12_caseNumber_43
  exact (kre_some rfl)
theorem kre_f_X12_groups_335 (N : Nat) (σ : RS) : KVe σ (f_X12_groups_335 N σ) := by
  unfold f_X12_groups_335
  exact (kve_some rfl)
theorem kre_f_X12_groups_356 (N : Nat) (σ : RS) (x1 : Int32) : KVe σ (f_X12_groups_356 N σ x1) := by
  unfold f_X12_groups_356
  exact (kve_ite (kve_some rfl) kve_none)
theorem kre_f_X12_trying_215 (N : Nat) (σ : RS) (x1 : Int32) : KVe σ (f_X12_trying_215 N σ x1) := by
  unfold f_X12_trying_215
  exact (kve_ite (kve_ite (kve_bindv (kve_st rfl (kre_f_X12_then N (RS.setA (RS.setI (RS.setA (RS.setA σ 57 (((σ.i 56) : Int32).toNatClampNeg) (σ.a 66 ((x1 : Int32).toNatClampNeg))) 58 (((σ.i 56) : Int32).toNatClampNeg) (σ.i 43)) 56 ((σ.i 56) + 1)) 72 ((x1 : Int32).toNatClampNeg) (-1)) 1 3)) (fun p13 => (kve_some rfl))) kve_none) kve_none)
theorem kre_f_X12_sums_39 (N : Nat) (σ : RS) (x1 : Int32) (x2 : Int32) (x3 : Int32) : KVe σ (f_X12_sums_39 N σ x1 x2 x3) := by
  unfold f_X12_sums_39
  exact (kve_ite (kve_some rfl) (kve_ite (kve_bindv (kve_st rfl (kre_f_X12_next N (RS.setA σ 66 ((x1 : Int32).toNatClampNeg) (σ.i 10)))) (fun p6 => (kve_bindv (kve_st rfl (kre_f_X12_then N p6 2 x2)) (fun p8 => (kve_some rfl))))) kve_none))
theorem kre_f_X12_factor_215 (N : Nat) (σ : RS) : KVe σ (f_X12_factor_215 N σ) := by
  unfold f_X12_factor_215
  exact (kve_bindv (kve_st rfl (kre_f_X12_next N σ)) (fun p31 => (kve_some rfl)))
theorem kre_f_X12_arms_333 (N : Nat) (σ : RS) : KVe σ (f_X12_arms_333 N σ) := by
  unfold f_X12_arms_333
  exact (kve_ite (kve_bindv (kve_st rfl (kre_f_X12_next N σ)) (fun p51 => (kve_some rfl))) (kve_some rfl))
theorem kre_f_X12_arms_400 (N : Nat) (σ : RS) : KVe σ (f_X12_arms_400 N σ) := by
  unfold f_X12_arms_400
  exact (kve_bindv (kve_st rfl (kre_f_X12_then N σ 7 16)) (fun p62 => (kve_some rfl)))
theorem kre_f_X12_arms_435 (N : Nat) (σ : RS) (x1 : Int32) : KVe σ (f_X12_arms_435 N σ x1) := by
  unfold f_X12_arms_435
  exact (kve_bind (kre_st rfl (kre_f_X12_shut N σ 125)) (fun p71 => (kve_ite (kve_some rfl) kve_none)))
theorem kre_f_X12_one_133 (N : Nat) (σ : RS) : KVe σ (f_X12_one_133 N σ) := by
  unfold f_X12_one_133
  exact (kve_bindv (kve_st rfl (kre_f_X12_next N σ)) (fun p9 => (kve_some rfl)))
theorem kre_f_X12_one_281 (N : Nat) (σ : RS) (x1 : Int32) : KVe σ (f_X12_one_281 N σ x1) := by
  unfold f_X12_one_281
  exact (kve_ite (kve_bindv (kve_st rfl (kre_f_X12_next N (RS.setA σ 66 ((x1 : Int32).toNatClampNeg) (σ.i 10)))) (fun p39 => (kve_bindv (kve_st rfl (kre_f_X12_then N p39 4 16)) (fun p41 => (kve_some rfl))))) kve_none)
theorem kre_f_X12_thing_74 (N : Nat) (σ : RS) : KVe σ (f_X12_thing_74 N σ) := by
  unfold f_X12_thing_74
  exact (kve_some rfl)
theorem kre_f_X12_thing_116 (N : Nat) (σ : RS) : KVe σ (f_X12_thing_116 N σ) := by
  unfold f_X12_thing_116
  exact (kve_some rfl)
theorem kre_f_X12_read_199 (N : Nat) (σ : RS) : KRe σ (f_X12_read_199 N σ) := by
  unfold f_X12_read_199
  exact (kre_ite (kre_some rfl) (kre_some rfl))
theorem kre_f_X12_read_167 (N : Nat) (σ : RS) : KRe σ (f_X12_read_167 N σ) := by
  unfold f_X12_read_167
  exact (kre_ite (kre_ite (kre_st rfl (kre_f_X12_read_199 N (RS.setI (RS.setI (RS.setI σ 78 (σ.i 75)) 76 (σ.i 15)) 77 1))) (kre_st rfl (kre_f_X12_read_199 N (RS.setI (RS.setI (RS.setI σ 78 (σ.i 75)) 76 (σ.i 15)) 77 0)))) kre_none)
theorem kre_f_X12_read_138 (N : Nat) (σ : RS) : KRe σ (f_X12_read_138 N σ) := by
  unfold f_X12_read_138
  exact (kre_ite (kre_ite (kre_st rfl (kre_f_X12_read_167 N (RS.setI σ 2 0))) (kre_bindv (kve_st rfl (kre_f_X12_fail N (RS.setI σ 2 0) 7 (σ.i 18))) (fun p17 => (kre_st rfl (kre_f_X12_read_167 N p17))))) (kre_st rfl (kre_f_X12_read_167 N (RS.setI σ 2 0))))
theorem kre_f_X12_fault (N : Nat) (σ : RS) : KRe σ (f_X12_fault N σ) := by
  unfold f_X12_fault
  exact (kre_some rfl)
theorem kre_f_X12_program (N : Nat) (σ : RS) (x1 : Int32) : KRe σ (f_X12_program N σ x1) := by
  unfold f_X12_program
  exact (kre_bind (kre_st rfl (kre_f_X12_in N (RS.setI σ 0 0) x1 0 3)) (fun p1 => (kre_ite (kre_some rfl) (kre_ite (kre_some rfl) (kre_ite (kre_some rfl) (kre_ite (kre_ite (kre_some rfl) (kre_some rfl)) (kre_ite (kre_some rfl) (kre_some rfl))))))))
theorem kre_f_X12_row (N : Nat) (σ : RS) (x1 : Int32) (x2 : Int32) : KVe σ (f_X12_row N σ x1 x2) := by
  unfold f_X12_row
  exact (kve_ite (kve_some rfl) (kve_ite (kve_some rfl) kve_none))
theorem kre_f_X12_record (N : Nat) (σ : RS) (x1 : Int32) (x2 : Int32) (x3 : Int32) (x4 : Int32) : KRe σ (f_X12_record N σ x1 x2 x3 x4) := by
  unfold f_X12_record
  exact (kre_ite (kre_some rfl) kre_none)
theorem kre_f_X12_put (N : Nat) (σ : RS) (x1 : Int32) : KVe σ (f_X12_put N σ x1) := by
  unfold f_X12_put
  exact (kve_ite (kve_some rfl) kve_none)
theorem kre_f_X12_take (N : Nat) (σ : RS) : KRe σ (f_X12_take N σ) := by
  unfold f_X12_take
  exact (kre_ite (kre_some rfl) kre_none)
theorem kre_f_X12_step (N : Nat) (σ : RS) : KVe σ (f_X12_step N σ) := by
  unfold f_X12_step
  exact (kve_ite (kve_some rfl) (kve_some rfl))
theorem kre_f_X12_compute (N : Nat) (σ : RS) (x1 : Int32) (x2 : Int32) (x3 : Int32) : KRe σ (f_X12_compute N σ x1 x2 x3) := by
  unfold f_X12_compute
  exact (kre_ite (kre_ite kre_none (kre_some rfl)) (kre_ite (kre_some rfl) (kre_ite (kre_some rfl) (kre_ite (kre_some rfl) (kre_ite (kre_ite kre_none (kre_some rfl)) (kre_ite (kre_ite (kre_some rfl) (kre_some rfl)) (kre_ite (kre_ite (kre_some rfl) (kre_some rfl)) (kre_ite (kre_ite (kre_some rfl) (kre_some rfl)) (kre_ite (kre_ite (kre_some rfl) (kre_some rfl)) (kre_ite (kre_ite (kre_some rfl) (kre_some rfl)) (kre_ite (kre_some rfl) (kre_some rfl))))))))))))
theorem kre_b_X12_caseOf_5 (N : Nat) (K : RS → Int32 → Int32 → Int32 → Option (Int32 × RS)) (hK : ∀ (σ : RS) (y0 : Int32) (y1 : Int32) (y2 : Int32), KRe σ (K σ y0 y1 y2)) (σ : RS) (x2 : Int32) (x3 : Int32) (x4 : Int32) : KRe σ (b_X12_caseOf_5 N K σ x2 x3 x4) := by
  unfold b_X12_caseOf_5
  exact (kre_ite (kre_some rfl) (kre_ite (kre_ite (kre_ite (kre_some rfl) (kre_st rfl (hK σ x2 x3 (σ.a 27 ((x4 : Int32).toNatClampNeg))))) (kre_st rfl (hK σ x2 x4 (σ.a 27 ((x4 : Int32).toNatClampNeg))))) kre_none))
theorem kre_f_X12_caseOf_5 (N : Nat) : ∀ (n : Nat) (σ : RS) (y0 : Int32) (y1 : Int32) (y2 : Int32), KRe σ (f_X12_caseOf_5 N n σ y0 y1 y2)
  | 0, _, _, _, _ => kre_none
  | n+1, σ, y0, y1, y2 => kre_b_X12_caseOf_5 N (f_X12_caseOf_5 N n) (fun σ y0 y1 y2 => kre_f_X12_caseOf_5 N n σ y0 y1 y2) σ y0 y1 y2
theorem kre_f_X12_caseOf (N : Nat) (σ : RS) (x1 : Int32) (x2 : Int32) : KRe σ (f_X12_caseOf N σ x1 x2) := by
  unfold f_X12_caseOf
  exact (kre_st rfl (kre_f_X12_caseOf_5 N N σ x2 (-1) x1))
theorem kre_b_X12_others_85 (N : Nat) (K : RS → Int32 → Int32 → Int32 → Option (RS)) (hK : ∀ (σ : RS) (y0 : Int32) (y1 : Int32) (y2 : Int32), KVe σ (K σ y0 y1 y2)) (σ : RS) (x2 : Int32) (x4 : Int32) (x5 : Int32) : KVe σ (b_X12_others_85 N K σ x2 x4 x5) := by
  unfold b_X12_others_85
  exact (kve_ite (kve_bind (kre_st rfl (kre_f_X12_record N (RS.setI σ 93 ((σ.i 93) - x2)) 2 x4 x4 (σ.i 97))) (fun p4 => (kve_some rfl))) (kve_ite (kve_ite (kve_st rfl (hK (RS.setI (RS.setA σ 98 (((σ.i 97) : Int32).toNatClampNeg) (σ.a 94 (((((σ.i 93) - x2) + x5) : Int32).toNatClampNeg))) 97 ((σ.i 97) + 1)) x2 x4 (x5 + 1))) kve_none) kve_none))
theorem kre_f_X12_others_85 (N : Nat) : ∀ (n : Nat) (σ : RS) (y0 : Int32) (y1 : Int32) (y2 : Int32), KVe σ (f_X12_others_85 N n σ y0 y1 y2)
  | 0, _, _, _, _ => kve_none
  | n+1, σ, y0, y1, y2 => kre_b_X12_others_85 N (f_X12_others_85 N n) (fun σ y0 y1 y2 => kre_f_X12_others_85 N n σ y0 y1 y2) σ y0 y1 y2
theorem kre_f_X12_ends_242 (N : Nat) (σ : RS) : KVe σ (f_X12_ends_242 N σ) := by
  unfold f_X12_ends_242
  exact (kve_some rfl)
theorem kre_f_X12_ends_351 (N : Nat) (σ : RS) : KVe σ (f_X12_ends_351 N σ) := by
  unfold f_X12_ends_351
  exact (kve_some rfl)
theorem kre_b_X12_ran_168 (N : Nat) (K : RS → Int32 → Int32 → Option (Int32 × RS)) (hK : ∀ (σ : RS) (y0 : Int32) (y1 : Int32), KRe σ (K σ y0 y1)) (σ : RS) (x3 : Int32) (x4 : Int32) : KRe σ (b_X12_ran_168 N K σ x3 x4) := by
  unfold b_X12_ran_168
  exact (kre_ite (kre_some rfl) (kre_ite (kre_st rfl (hK σ (x3 + (σ.a 91 ((x4 : Int32).toNatClampNeg))) (x4 + 1))) kre_none))
theorem kre_f_X12_ran_168 (N : Nat) : ∀ (n : Nat) (σ : RS) (y0 : Int32) (y1 : Int32), KRe σ (f_X12_ran_168 N n σ y0 y1)
  | 0, _, _, _ => kre_none
  | n+1, σ, y0, y1 => kre_b_X12_ran_168 N (f_X12_ran_168 N n) (fun σ y0 y1 => kre_f_X12_ran_168 N n σ y0 y1) σ y0 y1
theorem kre_f_X12_ran_41 (N : Nat) (σ : RS) (x1 : Int32) (x2 : Int32) : KRe σ (f_X12_ran_41 N σ x1 x2) := by
  unfold f_X12_ran_41
  exact (kre_ite (kre_some rfl) (kre_ite (kre_some rfl) (kre_ite (kre_ite (kre_some rfl) (kre_some rfl)) (kre_ite (kre_ite (kre_some rfl) (kre_ite (kre_some rfl) kre_none)) (kre_ite (kre_ite (kre_some rfl) (kre_ite (kre_some rfl) kre_none)) (kre_ite (kre_ite (kre_some rfl) (kre_ite (kre_some rfl) kre_none)) (kre_st rfl (kre_f_X12_ran_168 N N σ 0 0))))))))
theorem kre_f_X12_ran (N : Nat) (σ : RS) (x1 : Int32) : KRe σ (f_X12_ran N σ x1) := by
  unfold f_X12_ran
  exact (kre_bind (kre_st rfl (kre_f_X12_in N (RS.setI σ 0 0) x1 0 6)) (fun p1 => (kre_ite (kre_some rfl) (kre_ite (kre_some rfl) (kre_ite (kre_st rfl (kre_f_X12_ran_41 N p1.2 x1 1)) (kre_st rfl (kre_f_X12_ran_41 N p1.2 x1 0)))))))
theorem kre_f_X12_trace_35 (N : Nat) (σ : RS) : KRe σ (f_X12_trace_35 N σ) := by
  unfold f_X12_trace_35
  exact (kre_some rfl)
theorem kre_f_X12_trace (N : Nat) (σ : RS) (x1 : Int32) (x2 : Int32) : KRe σ (f_X12_trace N σ x1 x2) := by
  unfold f_X12_trace
  exact (kre_ite (kre_st rfl (kre_f_X12_trace_35 N (RS.setI σ 0 0))) (kre_bind (kre_st rfl (kre_f_X12_in N (RS.setI σ 0 0) x1 0 ((σ.i 81) - 1))) (fun p2 => (kre_ite (kre_st rfl (kre_f_X12_trace_35 N p2.2)) (kre_bind (kre_st rfl (kre_f_X12_in N p2.2 x2 0 1)) (fun p5 => (kre_ite (kre_st rfl (kre_f_X12_trace_35 N p5.2)) (kre_ite (kre_ite (kre_some rfl) kre_none) (kre_ite (kre_some rfl) kre_none)))))))))
theorem kre_f_X12_suppressed_48 (N : Nat) (σ : RS) : KRe σ (f_X12_suppressed_48 N σ) := by
  unfold f_X12_suppressed_48
  exact (kre_some rfl)
theorem kre_f_X12_suppressed (N : Nat) (σ : RS) (x1 : Int32) (x2 : Int32) : KRe σ (f_X12_suppressed N σ x1 x2) := by
  unfold f_X12_suppressed
  exact (kre_ite (kre_st rfl (kre_f_X12_suppressed_48 N (RS.setI σ 0 0))) (kre_ite (kre_ite (kre_bind (kre_st rfl (kre_f_X12_in N (RS.setI σ 0 0) x1 0 ((σ.a 88 (((σ.i 114) : Int32).toNatClampNeg)) - 1))) (fun p4 => (kre_ite (kre_st rfl (kre_f_X12_suppressed_48 N p4.2)) (kre_bind (kre_st rfl (kre_f_X12_in N p4.2 x2 0 1)) (fun p7 => (kre_ite (kre_st rfl (kre_f_X12_suppressed_48 N p7.2)) (kre_ite (kre_ite (kre_some rfl) kre_none) (kre_ite (kre_some rfl) kre_none)))))))) kre_none) (kre_st rfl (kre_f_X12_suppressed_48 N (RS.setI σ 0 0)))))
theorem kre_f_X12_rounds_13 (N : Nat) (σ : RS) : KRe σ (f_X12_rounds_13 N σ) := by
  unfold f_X12_rounds_13
  exact (kre_some rfl)
theorem kre_f_X12_rounds (N : Nat) (σ : RS) (x1 : Int32) (x2 : Int32) : KRe σ (f_X12_rounds N σ x1 x2) := by
  unfold f_X12_rounds
  exact (kre_ite (kre_st rfl (kre_f_X12_rounds_13 N (RS.setI σ 0 0))) (kre_ite (kre_ite (kre_some rfl) (kre_ite kre_none (kre_ite (kre_some rfl) (kre_some rfl)))) (kre_st rfl (kre_f_X12_rounds_13 N (RS.setI σ 0 0)))))
end
section
/-! the reference: what is laid stays (the first word of an instruction) -/
def KEC (s r : RS) : Prop := 0 ≤ (s.i 20).toInt → (s.i 20).toInt ≤ 3000 → ((s.i 20).toInt ≤ (r.i 20).toInt ∧ (r.i 20).toInt ≤ 3000) ∧ ∀ j : Nat, j < 2999 → (j : Int) < (s.i 20).toInt → r.a 21 j = s.a 21 j
theorem KEC.tr {s r u : RS} (h : KEC s r) (g : KEC r u) : KEC s u := fun a b => by
  obtain ⟨⟨h1, h2⟩, h3⟩ := h a b
  obtain ⟨⟨g1, g2⟩, g3⟩ := g (by omega) h2
  exact ⟨⟨by omega, g2⟩, fun j k l => (g3 j k (by omega)).trans (h3 j k l)⟩
theorem KEC.of {s r : RS} (a : r.i 20 = s.i 20) (b : r.a 21 = s.a 21) : KEC s r := fun x y => ⟨⟨by rw [a]; exact Int.le_refl _, by rw [a]; exact y⟩, fun j _ _ => by rw [b]⟩
def KRc {α : Type} (s : RS) (t : Option (α × RS)) : Prop := ∀ R, t = some R → KEC s R.2
def KVc (s : RS) (t : Option RS) : Prop := ∀ R, t = some R → KEC s R
theorem krc_some {α : Type} {s : RS} {r : α × RS} (h : KEC s r.2) : KRc s (some r) := fun R q => by
  cases q
  exact h
theorem kvc_some {s r : RS} (h : KEC s r) : KVc s (some r) := fun R q => by
  cases q
  exact h
theorem krc_none {α : Type} {s : RS} : KRc s (none : Option (α × RS)) := fun R q => by cases q
theorem kvc_none {s : RS} : KVc s (none : Option RS) := fun R q => by cases q
theorem krc_ite {α : Type} {s : RS} {c : Prop} [Decidable c] {x y : Option (α × RS)} (hx : KRc s x) (hy : KRc s y) : KRc s (if c then x else y) := by
  by_cases h : c
  · rw [if_pos h]; exact hx
  · rw [if_neg h]; exact hy
theorem kvc_ite {s : RS} {c : Prop} [Decidable c] {x y : Option RS} (hx : KVc s x) (hy : KVc s y) : KVc s (if c then x else y) := by
  by_cases h : c
  · rw [if_pos h]; exact hx
  · rw [if_neg h]; exact hy
theorem krc_st {α : Type} {s r : RS} {t : Option (α × RS)} (h : KEC s r) (g : KRc r t) : KRc s t := fun R q => h.tr (g R q)
theorem kvc_st {s r : RS} {t : Option RS} (h : KEC s r) (g : KVc r t) : KVc s t := fun R q => h.tr (g R q)
theorem krc_bind {α β : Type} {s : RS} {x : Option (α × RS)} {k : α × RS → Option (β × RS)} (hx : KRc s x) (hk : ∀ p : α × RS, KRc p.2 (k p)) : KRc s (x.bind k) := by
  intro R h
  obtain ⟨p, h1, h2⟩ := hf_bind h
  exact (hx p h1).tr (hk p R h2)
theorem krc_bindv {β : Type} {s : RS} {x : Option RS} {k : RS → Option (β × RS)} (hx : KVc s x) (hk : ∀ p : RS, KRc p (k p)) : KRc s (x.bind k) := by
  intro R h
  obtain ⟨p, h1, h2⟩ := hf_bind h
  exact (hx p h1).tr (hk p R h2)
theorem kvc_bind {α : Type} {s : RS} {x : Option (α × RS)} {k : α × RS → Option RS} (hx : KRc s x) (hk : ∀ p : α × RS, KVc p.2 (k p)) : KVc s (x.bind k) := by
  intro R h
  obtain ⟨p, h1, h2⟩ := hf_bind h
  exact (hx p h1).tr (hk p R h2)
theorem kvc_bindv {s : RS} {x : Option RS} {k : RS → Option RS} (hx : KVc s x) (hk : ∀ p : RS, KVc p (k p)) : KVc s (x.bind k) := by
  intro R h
  obtain ⟨p, h1, h2⟩ := hf_bind h
  exact (hx p h1).tr (hk p R h2)
theorem krc_f_X12_thrown (N : Nat) (σ : RS) : KRc σ (f_X12_thrown N σ) := by
  unfold f_X12_thrown
  exact (krc_some (KEC.of rfl rfl))
theorem krc_f_X12_in_14 (N : Nat) (σ : RS) : KRc σ (f_X12_in_14 N σ) := by
  unfold f_X12_in_14
  exact (krc_some (KEC.of rfl rfl))
theorem krc_f_X12_in (N : Nat) (σ : RS) (x0 : Int32) (x1 : Int32) (x2 : Int32) : KRc σ (f_X12_in N σ x0 x1 x2) := by
  unfold f_X12_in
  exact (krc_ite (krc_st (KEC.of rfl rfl) (krc_f_X12_in_14 N σ)) (krc_ite (krc_st (KEC.of rfl rfl) (krc_f_X12_in_14 N σ)) (krc_some (KEC.of rfl rfl))))
theorem krc_b_X12_feed_24 (N : Nat) (K : RS → Int32 → Int32 → Int32 → Int32 → Int32 → Int32 → Option (Int32 × RS)) (hK : ∀ (σ : RS) (y0 : Int32) (y1 : Int32) (y2 : Int32) (y3 : Int32) (y4 : Int32) (y5 : Int32), KRc σ (K σ y0 y1 y2 y3 y4 y5)) (σ : RS) (x1 : Int32) (x2 : Int32) (x3 : Int32) (x4 : Int32) (x5 : Int32) (x6 : Int32) : KRc σ (b_X12_feed_24 N K σ x1 x2 x3 x4 x5 x6) := by
  unfold b_X12_feed_24
  exact (krc_ite (krc_some (KEC.of rfl rfl)) (krc_ite (krc_ite (krc_ite (krc_ite (krc_ite (krc_st (KEC.of rfl rfl) (hK (RS.setA σ 1 ((((σ.i 2) + x6) : Int32).toNatClampNeg) ((x5 >>> ((24 - (8 * (x6 - x6 / 4 * 4))) &&& 31)) &&& 255)) x1 x2 x3 x4 x5 (x6 + 1))) krc_none) (krc_ite (krc_st (KEC.of rfl rfl) (hK (RS.setA σ 1 ((((σ.i 2) + x6) : Int32).toNatClampNeg) ((x4 >>> ((24 - (8 * (x6 - x6 / 4 * 4))) &&& 31)) &&& 255)) x1 x2 x3 x4 x5 (x6 + 1))) krc_none)) (krc_ite (krc_st (KEC.of rfl rfl) (hK (RS.setA σ 1 ((((σ.i 2) + x6) : Int32).toNatClampNeg) ((x3 >>> ((24 - (8 * (x6 - x6 / 4 * 4))) &&& 31)) &&& 255)) x1 x2 x3 x4 x5 (x6 + 1))) krc_none)) (krc_ite (krc_st (KEC.of rfl rfl) (hK (RS.setA σ 1 ((((σ.i 2) + x6) : Int32).toNatClampNeg) ((x2 >>> ((24 - (8 * (x6 - x6 / 4 * 4))) &&& 31)) &&& 255)) x1 x2 x3 x4 x5 (x6 + 1))) krc_none)) (krc_ite (krc_st (KEC.of rfl rfl) (hK (RS.setA σ 1 ((((σ.i 2) + x6) : Int32).toNatClampNeg) ((x1 >>> ((24 - (8 * (x6 - x6 / 4 * 4))) &&& 31)) &&& 255)) x1 x2 x3 x4 x5 (x6 + 1))) krc_none)))
theorem krc_f_X12_feed_24 (N : Nat) : ∀ (n : Nat) (σ : RS) (y0 : Int32) (y1 : Int32) (y2 : Int32) (y3 : Int32) (y4 : Int32) (y5 : Int32), KRc σ (f_X12_feed_24 N n σ y0 y1 y2 y3 y4 y5)
  | 0, _, _, _, _, _, _, _ => krc_none
  | n+1, σ, y0, y1, y2, y3, y4, y5 => krc_b_X12_feed_24 N (f_X12_feed_24 N n) (fun σ y0 y1 y2 y3 y4 y5 => krc_f_X12_feed_24 N n σ y0 y1 y2 y3 y4 y5) σ y0 y1 y2 y3 y4 y5
theorem krc_f_X12_feed (N : Nat) (σ : RS) (x1 : Int32) (x2 : Int32) (x3 : Int32) (x4 : Int32) (x5 : Int32) : KRc σ (f_X12_feed N σ x1 x2 x3 x4 x5) := by
  unfold f_X12_feed
  exact (krc_ite (krc_st (KEC.of rfl rfl) (krc_f_X12_feed_24 N N (RS.setI σ 0 0) x1 x2 x3 x4 x5 0)) (krc_some (KEC.of rfl rfl)))
theorem krc_f_X12_cut (N : Nat) (σ : RS) (x1 : Int32) : KRc σ (f_X12_cut N σ x1) := by
  unfold f_X12_cut
  exact (krc_bind (krc_st (KEC.of rfl rfl) (krc_f_X12_in N (RS.setI σ 0 0) x1 0 (σ.i 2))) (fun p1 => (krc_ite (krc_some (KEC.of rfl rfl)) (krc_some (KEC.of rfl rfl)))))
theorem krc_f_X12_kind (N : Nat) (σ : RS) (x1 : Int32) : KRc σ (f_X12_kind N σ x1) := by
  unfold f_X12_kind
  exact (krc_bind (krc_st (KEC.of rfl rfl) (krc_f_X12_in N (RS.setI σ 0 0) x1 0 ((σ.i 3) - 1))) (fun p1 => (krc_ite (krc_some (KEC.of rfl rfl)) (krc_ite (krc_some (KEC.of rfl rfl)) (krc_ite (krc_some (KEC.of rfl rfl)) krc_none)))))
theorem krc_f_X12_isUnder_21 (N : Nat) (σ : RS) (x2 : Int32) (x3 : Int32) : KRc σ (f_X12_isUnder_21 N σ x2 x3) := by
  unfold f_X12_isUnder_21
  exact (krc_ite (krc_some (KEC.of rfl rfl)) (krc_some (KEC.of rfl rfl)))
theorem krc_b_X12_isUnder_2 (N : Nat) (K : RS → Int32 → Int32 → Option (Int32 × RS)) (hK : ∀ (σ : RS) (y0 : Int32) (y1 : Int32), KRc σ (K σ y0 y1)) (σ : RS) (x2 : Int32) (x3 : Int32) : KRc σ (b_X12_isUnder_2 N K σ x2 x3) := by
  unfold b_X12_isUnder_2
  exact (krc_ite (krc_st (KEC.of rfl rfl) (krc_f_X12_isUnder_21 N σ x2 x3)) (krc_ite (krc_st (KEC.of rfl rfl) (krc_f_X12_isUnder_21 N σ x2 x3)) (krc_ite (krc_st (KEC.of rfl rfl) (hK σ x2 (σ.a 4 ((x3 : Int32).toNatClampNeg)))) krc_none)))
theorem krc_f_X12_isUnder_2 (N : Nat) : ∀ (n : Nat) (σ : RS) (y0 : Int32) (y1 : Int32), KRc σ (f_X12_isUnder_2 N n σ y0 y1)
  | 0, _, _, _ => krc_none
  | n+1, σ, y0, y1 => krc_b_X12_isUnder_2 N (f_X12_isUnder_2 N n) (fun σ y0 y1 => krc_f_X12_isUnder_2 N n σ y0 y1) σ y0 y1
theorem krc_f_X12_isUnder (N : Nat) (σ : RS) (x1 : Int32) (x2 : Int32) : KRc σ (f_X12_isUnder N σ x1 x2) := by
  unfold f_X12_isUnder
  exact (krc_st (KEC.of rfl rfl) (krc_f_X12_isUnder_2 N N σ x2 x1))
theorem krc_f_X12_under_33 (N : Nat) (σ : RS) : KRc σ (f_X12_under_33 N σ) := by
  unfold f_X12_under_33
  exact (krc_some (KEC.of rfl rfl))
theorem krc_f_X12_under (N : Nat) (σ : RS) (x1 : Int32) (x2 : Int32) : KRc σ (f_X12_under N σ x1 x2) := by
  unfold f_X12_under
  exact (krc_bind (krc_st (KEC.of rfl rfl) (krc_f_X12_in N (RS.setI σ 0 0) x1 0 ((σ.i 3) - 1))) (fun p1 => (krc_ite (krc_st (KEC.of rfl rfl) (krc_f_X12_under_33 N p1.2)) (krc_bind (krc_st (KEC.of rfl rfl) (krc_f_X12_in N p1.2 x2 0 ((p1.2.i 3) - 1))) (fun p4 => (krc_ite (krc_st (KEC.of rfl rfl) (krc_f_X12_under_33 N p4.2)) (krc_bind (krc_st (KEC.of rfl rfl) (krc_f_X12_isUnder N p4.2 x1 x2)) (fun p7 => (krc_ite (krc_some (KEC.of rfl rfl)) (krc_some (KEC.of rfl rfl)))))))))))
theorem krc_f_X12_resource_53 (N : Nat) (σ : RS) : KRc σ (f_X12_resource_53 N σ) := by
  unfold f_X12_resource_53
  exact (krc_some (KEC.of rfl rfl))
theorem krc_f_X12_resource_71 (N : Nat) (σ : RS) (x1 : Int32) (x3 : Int32) (x4 : Int32) : KRc σ (f_X12_resource_71 N σ x1 x3 x4) := by
  unfold f_X12_resource_71
  exact (krc_ite (krc_some (KEC.of rfl rfl)) krc_none)
theorem krc_f_X12_resource (N : Nat) (σ : RS) (x1 : Int32) (x2 : Int32) (x3 : Int32) (x4 : Int32) : KRc σ (f_X12_resource N σ x1 x2 x3 x4) := by
  unfold f_X12_resource
  exact (krc_bind (krc_st (KEC.of rfl rfl) (krc_f_X12_in N (RS.setI σ 0 0) x1 0 7)) (fun p1 => (krc_ite (krc_st (KEC.of rfl rfl) (krc_f_X12_resource_53 N p1.2)) (krc_bind (krc_st (KEC.of rfl rfl) (krc_f_X12_in N p1.2 x2 0 1)) (fun p4 => (krc_ite (krc_st (KEC.of rfl rfl) (krc_f_X12_resource_53 N p4.2)) (krc_bind (krc_st (KEC.of rfl rfl) (krc_f_X12_in N p4.2 x3 (-1) ((p4.2.i 3) - 1))) (fun p7 => (krc_ite (krc_st (KEC.of rfl rfl) (krc_f_X12_resource_53 N p7.2)) (krc_bind (krc_st (KEC.of rfl rfl) (krc_f_X12_in N p7.2 x4 (-1) ((p7.2.i 3) - 1))) (fun p10 => (krc_ite (krc_st (KEC.of rfl rfl) (krc_f_X12_resource_53 N p10.2)) (krc_ite (krc_ite (krc_st (KEC.of rfl rfl) (krc_f_X12_resource_71 N (RS.setA p10.2 5 ((x1 : Int32).toNatClampNeg) 1) x1 x3 x4)) krc_none) (krc_ite (krc_st (KEC.of rfl rfl) (krc_f_X12_resource_71 N (RS.setA p10.2 5 ((x1 : Int32).toNatClampNeg) 0) x1 x3 x4)) krc_none))))))))))))))
theorem krc_f_X12_asserts_18 (N : Nat) (σ : RS) (x1 : Int32) (x2 : Int32) : KRc σ (f_X12_asserts_18 N σ x1 x2) := by
  unfold f_X12_asserts_18
  exact (krc_ite (krc_some (KEC.of rfl rfl)) krc_none)
theorem krc_f_X12_asserts (N : Nat) (σ : RS) (x1 : Int32) : KRc σ (f_X12_asserts N σ x1) := by
  unfold f_X12_asserts
  exact (krc_ite (krc_st (KEC.of rfl rfl) (krc_f_X12_asserts_18 N (RS.setI σ 0 0) x1 0)) (krc_st (KEC.of rfl rfl) (krc_f_X12_asserts_18 N (RS.setI σ 0 0) x1 1)))
theorem krc_f_X12_at (N : Nat) (σ : RS) (x1 : Int32) : KRc σ (f_X12_at N σ x1) := by
  unfold f_X12_at
  exact (krc_ite (krc_some (KEC.of rfl rfl)) (krc_ite (krc_some (KEC.of rfl rfl)) krc_none))
theorem krc_f_X12_isLetter_16 (N : Nat) (σ : RS) : KRc σ (f_X12_isLetter_16 N σ) := by
  unfold f_X12_isLetter_16
  exact (krc_some (KEC.of rfl rfl))
theorem krc_f_X12_isLetter (N : Nat) (σ : RS) (x0 : Int32) : KRc σ (f_X12_isLetter N σ x0) := by
  unfold f_X12_isLetter
  exact (krc_ite (krc_st (KEC.of rfl rfl) (krc_f_X12_isLetter_16 N σ)) (krc_ite (krc_st (KEC.of rfl rfl) (krc_f_X12_isLetter_16 N σ)) (krc_some (KEC.of rfl rfl))))
theorem krc_f_X12_isDigit_16 (N : Nat) (σ : RS) : KRc σ (f_X12_isDigit_16 N σ) := by
  unfold f_X12_isDigit_16
  exact (krc_some (KEC.of rfl rfl))
theorem krc_f_X12_isDigit (N : Nat) (σ : RS) (x0 : Int32) : KRc σ (f_X12_isDigit N σ x0) := by
  unfold f_X12_isDigit
  exact (krc_ite (krc_st (KEC.of rfl rfl) (krc_f_X12_isDigit_16 N σ)) (krc_ite (krc_st (KEC.of rfl rfl) (krc_f_X12_isDigit_16 N σ)) (krc_some (KEC.of rfl rfl))))
theorem krc_b_X12_readName_260 (N : Nat) (K : RS → Int32 → Option (RS)) (hK : ∀ (σ : RS) (y0 : Int32), KVc σ (K σ y0)) (σ : RS) (x4 : Int32) : KVc σ (b_X12_readName_260 N K σ x4) := by
  unfold b_X12_readName_260
  exact (kvc_ite (kvc_some (KEC.of rfl rfl)) (kvc_ite (kvc_ite (kvc_st (KEC.of rfl rfl) (hK (RS.setI σ 10 (410 + x4)) (x4 + 1))) (kvc_st (KEC.of rfl rfl) (hK (RS.setI σ 10 (σ.i 10)) (x4 + 1)))) kvc_none))
theorem krc_f_X12_readName_260 (N : Nat) : ∀ (n : Nat) (σ : RS) (y0 : Int32), KVc σ (f_X12_readName_260 N n σ y0)
  | 0, _, _ => kvc_none
  | n+1, σ, y0 => krc_b_X12_readName_260 N (f_X12_readName_260 N n) (fun σ y0 => krc_f_X12_readName_260 N n σ y0) σ y0
theorem krc_f_X12_readName_257 (N : Nat) (σ : RS) : KVc σ (f_X12_readName_257 N σ) := by
  unfold f_X12_readName_257
  exact (kvc_st (KEC.of rfl rfl) (krc_f_X12_readName_260 N N σ 0))
theorem krc_f_X12_readName_254 (N : Nat) (σ : RS) : KVc σ (f_X12_readName_254 N σ) := by
  unfold f_X12_readName_254
  exact (kvc_some (KEC.of rfl rfl))
theorem krc_f_X12_readName_220 (N : Nat) (σ : RS) (x1 : Int32) (x3 : Int32) : KVc σ (f_X12_readName_220 N σ x1 x3) := by
  unfold f_X12_readName_220
  exact (kvc_ite (kvc_st (KEC.of rfl rfl) (krc_f_X12_readName_254 N (RS.setI (RS.setI σ 10 5) 14 x3))) (kvc_bind (krc_st (KEC.of rfl rfl) (krc_f_X12_at N (RS.setI σ 10 5) ((σ.i 11) + 2))) (fun p32 => (kvc_st (KEC.of rfl rfl) (krc_f_X12_readName_254 N (RS.setI p32.2 14 ((10 + p32.1) - 48)))))))
theorem krc_f_X12_readName_189 (N : Nat) (σ : RS) (x1 : Int32) (x3 : Int32) : KVc σ (f_X12_readName_189 N σ x1 x3) := by
  unfold f_X12_readName_189
  exact (kvc_ite (kvc_ite (kvc_bind (krc_st (KEC.of rfl rfl) (krc_f_X12_at N σ ((σ.i 11) + 2))) (fun p26 => (kvc_bind (krc_st (KEC.of rfl rfl) (krc_f_X12_in N p26.2 (p26.1 - 48) 0 1)) (fun p28 => (kvc_ite (kvc_st (KEC.of rfl rfl) (krc_f_X12_readName_257 N p28.2)) (kvc_st (KEC.of rfl rfl) (krc_f_X12_readName_220 N p28.2 x1 x3))))))) (kvc_st (KEC.of rfl rfl) (krc_f_X12_readName_257 N σ))) (kvc_st (KEC.of rfl rfl) (krc_f_X12_readName_257 N σ)))
theorem krc_f_X12_readName_168 (N : Nat) (σ : RS) (x1 : Int32) (x2 : Int32) (x3 : Int32) : KVc σ (f_X12_readName_168 N σ x1 x2 x3) := by
  unfold f_X12_readName_168
  exact (kvc_ite (kvc_ite (kvc_bind (krc_st (KEC.of rfl rfl) (krc_f_X12_in N σ x3 0 9)) (fun p34 => (kvc_ite (kvc_st (KEC.of rfl rfl) (krc_f_X12_readName_189 N p34.2 x1 x3)) (kvc_st (KEC.of rfl rfl) (krc_f_X12_readName_220 N p34.2 x1 x3))))) (kvc_st (KEC.of rfl rfl) (krc_f_X12_readName_189 N σ x1 x3))) (kvc_st (KEC.of rfl rfl) (krc_f_X12_readName_257 N σ)))
theorem krc_f_X12_readName_160 (N : Nat) (σ : RS) (x3 : Int32) : KVc σ (f_X12_readName_160 N σ x3) := by
  unfold f_X12_readName_160
  exact (kvc_some (KEC.of rfl rfl))
theorem krc_f_X12_readName_135 (N : Nat) (σ : RS) (x1 : Int32) (x2 : Int32) (x3 : Int32) : KVc σ (f_X12_readName_135 N σ x1 x2 x3) := by
  unfold f_X12_readName_135
  exact (kvc_bind (krc_st (KEC.of rfl rfl) (krc_f_X12_in N σ x3 0 7)) (fun p38 => (kvc_ite (kvc_st (KEC.of rfl rfl) (krc_f_X12_readName_168 N p38.2 x1 x2 x3)) (kvc_ite (kvc_st (KEC.of rfl rfl) (krc_f_X12_readName_160 N (RS.setI p38.2 10 3) x3)) (kvc_st (KEC.of rfl rfl) (krc_f_X12_readName_160 N (RS.setI p38.2 10 4) x3))))))
theorem krc_b_X12_readName_5 (N : Nat) (K : RS → Option (RS)) (hK : ∀ (σ : RS), KVc σ (K σ)) (σ : RS) : KVc σ (b_X12_readName_5 N K σ) := by
  unfold b_X12_readName_5
  exact (kvc_bind (krc_st (KEC.of rfl rfl) (krc_f_X12_at N σ (σ.i 12))) (fun p1 => (kvc_bind (krc_st (KEC.of rfl rfl) (krc_f_X12_isLetter N p1.2 p1.1)) (fun p3 => (kvc_ite (kvc_bind (krc_st (KEC.of rfl rfl) (krc_f_X12_at N p3.2 (p3.2.i 12))) (fun p8 => (kvc_bind (krc_st (KEC.of rfl rfl) (krc_f_X12_isDigit N p8.2 p8.1)) (fun p10 => (kvc_ite (kvc_ite (kvc_bind (krc_st (KEC.of rfl rfl) (krc_f_X12_at N p10.2 (p10.2.i 11))) (fun p14 => (kvc_bind (krc_st (KEC.of rfl rfl) (krc_f_X12_at N p14.2 ((p14.2.i 11) + 1))) (fun p16 => (kvc_ite (kvc_ite (kvc_st (KEC.of rfl rfl) (krc_f_X12_readName_135 N (RS.setI p16.2 10 2) ((p10.2.i 12) - (p10.2.i 11)) p14.1 (p16.1 - 48))) (kvc_ite (kvc_st (KEC.of rfl rfl) (krc_f_X12_readName_135 N (RS.setI p16.2 10 2) ((p10.2.i 12) - (p10.2.i 11)) p14.1 (p16.1 - 48))) (kvc_st (KEC.of rfl rfl) (krc_f_X12_readName_168 N (RS.setI p16.2 10 2) ((p10.2.i 12) - (p10.2.i 11)) p14.1 (p16.1 - 48))))) (kvc_st (KEC.of rfl rfl) (krc_f_X12_readName_168 N (RS.setI p16.2 10 2) ((p10.2.i 12) - (p10.2.i 11)) p14.1 (p16.1 - 48)))))))) (kvc_some (KEC.of rfl rfl))) (kvc_bind (krc_st (KEC.of rfl rfl) (krc_f_X12_at N p10.2 (p10.2.i 12))) (fun p43 => (kvc_st (KEC.of rfl rfl) (hK (RS.setI (RS.setL p43.2 ((p10.2.l <<< ((8 : Int32).toInt64 &&& 63)) ||| (p43.1 : Int32).toInt64)) 12 ((p43.2.i 12) + 1))))))))))) (kvc_bind (krc_st (KEC.of rfl rfl) (krc_f_X12_at N p3.2 (p3.2.i 12))) (fun p6 => (kvc_st (KEC.of rfl rfl) (hK (RS.setI (RS.setL p6.2 ((p3.2.l <<< ((8 : Int32).toInt64 &&& 63)) ||| (p6.1 : Int32).toInt64)) 12 ((p6.2.i 12) + 1)))))))))))
theorem krc_f_X12_readName_5 (N : Nat) : ∀ (n : Nat) (σ : RS), KVc σ (f_X12_readName_5 N n σ )
  | 0, _ => kvc_none
  | n+1, σ => krc_b_X12_readName_5 N (f_X12_readName_5 N n) (fun σ => krc_f_X12_readName_5 N n σ) σ
theorem krc_f_X12_readName (N : Nat) (σ : RS) : KVc σ (f_X12_readName N σ) := by
  unfold f_X12_readName
  exact (kvc_st (KEC.of rfl rfl) (krc_f_X12_readName_5 N N (RS.setL σ 0)))
theorem krc_f_X12_readSign_306 (N : Nat) (σ : RS) (x1 : Int32) (x4 : Int32) : KVc σ (f_X12_readSign_306 N σ x1 x4) := by
  unfold f_X12_readSign_306
  exact (kvc_ite (kvc_some (KEC.of rfl rfl)) (kvc_some (KEC.of rfl rfl)))
theorem krc_f_X12_readSign_299 (N : Nat) (σ : RS) (x1 : Int32) : KVc σ (f_X12_readSign_299 N σ x1) := by
  unfold f_X12_readSign_299
  exact (kvc_st (KEC.of rfl rfl) (krc_f_X12_readSign_306 N σ x1 1))
theorem krc_f_X12_readSign_165 (N : Nat) (σ : RS) (x1 : Int32) (x3 : Int32) : KVc σ (f_X12_readSign_165 N σ x1 x3) := by
  unfold f_X12_readSign_165
  exact (kvc_ite (kvc_ite (kvc_st (KEC.of rfl rfl) (krc_f_X12_readSign_299 N σ x1)) (kvc_ite (kvc_st (KEC.of rfl rfl) (krc_f_X12_readSign_299 N σ x1)) (kvc_ite (kvc_st (KEC.of rfl rfl) (krc_f_X12_readSign_299 N σ x1)) (kvc_ite (kvc_st (KEC.of rfl rfl) (krc_f_X12_readSign_299 N σ x1)) (kvc_ite (kvc_st (KEC.of rfl rfl) (krc_f_X12_readSign_299 N σ x1)) (kvc_ite (kvc_st (KEC.of rfl rfl) (krc_f_X12_readSign_299 N σ x1)) (kvc_ite (kvc_st (KEC.of rfl rfl) (krc_f_X12_readSign_299 N σ x1)) (kvc_ite (kvc_st (KEC.of rfl rfl) (krc_f_X12_readSign_299 N σ x1)) (kvc_ite (kvc_st (KEC.of rfl rfl) (krc_f_X12_readSign_299 N σ x1)) (kvc_ite (kvc_st (KEC.of rfl rfl) (krc_f_X12_readSign_299 N σ x1)) (kvc_ite (kvc_st (KEC.of rfl rfl) (krc_f_X12_readSign_299 N σ x1)) (kvc_ite (kvc_st (KEC.of rfl rfl) (krc_f_X12_readSign_299 N σ x1)) (kvc_ite (kvc_st (KEC.of rfl rfl) (krc_f_X12_readSign_299 N σ x1)) (kvc_ite (kvc_st (KEC.of rfl rfl) (krc_f_X12_readSign_299 N σ x1)) (kvc_ite (kvc_st (KEC.of rfl rfl) (krc_f_X12_readSign_299 N σ x1)) (kvc_ite (kvc_st (KEC.of rfl rfl) (krc_f_X12_readSign_299 N σ x1)) (kvc_ite (kvc_st (KEC.of rfl rfl) (krc_f_X12_readSign_299 N σ x1)) (kvc_ite (kvc_st (KEC.of rfl rfl) (krc_f_X12_readSign_299 N σ x1)) (kvc_ite (kvc_st (KEC.of rfl rfl) (krc_f_X12_readSign_299 N σ x1)) (kvc_st (KEC.of rfl rfl) (krc_f_X12_readSign_306 N σ x1 0))))))))))))))))))))) (kvc_some (KEC.of rfl rfl)))
theorem krc_f_X12_readSign_163 (N : Nat) (σ : RS) (x1 : Int32) : KVc σ (f_X12_readSign_163 N σ x1) := by
  unfold f_X12_readSign_163
  exact (kvc_st (KEC.of rfl rfl) (krc_f_X12_readSign_165 N σ x1 0))
theorem krc_f_X12_readSign_145 (N : Nat) (σ : RS) (x1 : Int32) (x2 : Int32) : KVc σ (f_X12_readSign_145 N σ x1 x2) := by
  unfold f_X12_readSign_145
  exact (kvc_ite (kvc_ite (kvc_st (KEC.of rfl rfl) (krc_f_X12_readSign_165 N σ x1 307)) (kvc_st (KEC.of rfl rfl) (krc_f_X12_readSign_163 N σ x1))) (kvc_st (KEC.of rfl rfl) (krc_f_X12_readSign_163 N σ x1)))
theorem krc_f_X12_readSign_127 (N : Nat) (σ : RS) (x1 : Int32) (x2 : Int32) : KVc σ (f_X12_readSign_127 N σ x1 x2) := by
  unfold f_X12_readSign_127
  exact (kvc_ite (kvc_ite (kvc_st (KEC.of rfl rfl) (krc_f_X12_readSign_165 N σ x1 306)) (kvc_st (KEC.of rfl rfl) (krc_f_X12_readSign_145 N σ x1 x2))) (kvc_st (KEC.of rfl rfl) (krc_f_X12_readSign_145 N σ x1 x2)))
theorem krc_f_X12_readSign_109 (N : Nat) (σ : RS) (x1 : Int32) (x2 : Int32) : KVc σ (f_X12_readSign_109 N σ x1 x2) := by
  unfold f_X12_readSign_109
  exact (kvc_ite (kvc_ite (kvc_st (KEC.of rfl rfl) (krc_f_X12_readSign_165 N σ x1 305)) (kvc_st (KEC.of rfl rfl) (krc_f_X12_readSign_127 N σ x1 x2))) (kvc_st (KEC.of rfl rfl) (krc_f_X12_readSign_127 N σ x1 x2)))
theorem krc_f_X12_readSign_91 (N : Nat) (σ : RS) (x1 : Int32) (x2 : Int32) : KVc σ (f_X12_readSign_91 N σ x1 x2) := by
  unfold f_X12_readSign_91
  exact (kvc_ite (kvc_ite (kvc_st (KEC.of rfl rfl) (krc_f_X12_readSign_165 N σ x1 304)) (kvc_st (KEC.of rfl rfl) (krc_f_X12_readSign_109 N σ x1 x2))) (kvc_st (KEC.of rfl rfl) (krc_f_X12_readSign_109 N σ x1 x2)))
theorem krc_f_X12_readSign_73 (N : Nat) (σ : RS) (x1 : Int32) (x2 : Int32) : KVc σ (f_X12_readSign_73 N σ x1 x2) := by
  unfold f_X12_readSign_73
  exact (kvc_ite (kvc_ite (kvc_st (KEC.of rfl rfl) (krc_f_X12_readSign_165 N σ x1 303)) (kvc_st (KEC.of rfl rfl) (krc_f_X12_readSign_91 N σ x1 x2))) (kvc_st (KEC.of rfl rfl) (krc_f_X12_readSign_91 N σ x1 x2)))
theorem krc_f_X12_readSign_55 (N : Nat) (σ : RS) (x1 : Int32) (x2 : Int32) : KVc σ (f_X12_readSign_55 N σ x1 x2) := by
  unfold f_X12_readSign_55
  exact (kvc_ite (kvc_ite (kvc_st (KEC.of rfl rfl) (krc_f_X12_readSign_165 N σ x1 302)) (kvc_st (KEC.of rfl rfl) (krc_f_X12_readSign_73 N σ x1 x2))) (kvc_st (KEC.of rfl rfl) (krc_f_X12_readSign_73 N σ x1 x2)))
theorem krc_f_X12_readSign_37 (N : Nat) (σ : RS) (x1 : Int32) (x2 : Int32) : KVc σ (f_X12_readSign_37 N σ x1 x2) := by
  unfold f_X12_readSign_37
  exact (kvc_ite (kvc_ite (kvc_st (KEC.of rfl rfl) (krc_f_X12_readSign_165 N σ x1 301)) (kvc_st (KEC.of rfl rfl) (krc_f_X12_readSign_55 N σ x1 x2))) (kvc_st (KEC.of rfl rfl) (krc_f_X12_readSign_55 N σ x1 x2)))
theorem krc_f_X12_readSign (N : Nat) (σ : RS) (x1 : Int32) : KVc σ (f_X12_readSign N σ x1) := by
  unfold f_X12_readSign
  exact (kvc_bind (krc_st (KEC.of rfl rfl) (krc_f_X12_at N (RS.setI σ 12 ((σ.i 12) + 1)) ((σ.i 12) + 1))) (fun p1 => (kvc_ite (kvc_ite (kvc_st (KEC.of rfl rfl) (krc_f_X12_readSign_165 N p1.2 x1 300)) (kvc_st (KEC.of rfl rfl) (krc_f_X12_readSign_37 N p1.2 x1 p1.1))) (kvc_st (KEC.of rfl rfl) (krc_f_X12_readSign_37 N p1.2 x1 p1.1)))))
theorem krc_f_X12_next_211 (N : Nat) (σ : RS) : KVc σ (f_X12_next_211 N σ) := by
  unfold f_X12_next_211
  exact (kvc_some (KEC.of rfl rfl))
theorem krc_b_X12_next_116 (N : Nat) (K : RS → Option (RS)) (hK : ∀ (σ : RS), KVc σ (K σ)) (σ : RS) : KVc σ (b_X12_next_116 N K σ) := by
  unfold b_X12_next_116
  exact (kvc_bind (krc_st (KEC.of rfl rfl) (krc_f_X12_at N σ (σ.i 12))) (fun p16 => (kvc_bind (krc_st (KEC.of rfl rfl) (krc_f_X12_isDigit N p16.2 p16.1)) (fun p18 => (kvc_ite (kvc_ite (kvc_st (KEC.of rfl rfl) (krc_f_X12_next_211 N (RS.setI p18.2 10 1))) (kvc_st (KEC.of rfl rfl) (krc_f_X12_next_211 N (RS.setI p18.2 10 6)))) (kvc_ite (kvc_st (KEC.of rfl rfl) (hK (RS.setI (RS.setI p18.2 14 (p18.2.i 14)) 12 ((p18.2.i 12) + 1)))) (kvc_bind (krc_st (KEC.of rfl rfl) (krc_f_X12_at N p18.2 (p18.2.i 12))) (fun p23 => (kvc_st (KEC.of rfl rfl) (hK (RS.setI (RS.setI p23.2 14 (((10 * (p18.2.i 14)) + p23.1) - 48)) 12 ((p23.2.i 12) + 1))))))))))))
theorem krc_f_X12_next_116 (N : Nat) : ∀ (n : Nat) (σ : RS), KVc σ (f_X12_next_116 N n σ )
  | 0, _ => kvc_none
  | n+1, σ => krc_b_X12_next_116 N (f_X12_next_116 N n) (fun σ => krc_f_X12_next_116 N n σ) σ
theorem krc_f_X12_next_68 (N : Nat) (σ : RS) : KVc σ (f_X12_next_68 N σ) := by
  unfold f_X12_next_68
  exact (kvc_bind (krc_st (KEC.of rfl rfl) (krc_f_X12_at N (RS.setI σ 11 (σ.i 12)) (σ.i 12))) (fun p3 => (kvc_ite (kvc_some (KEC.of rfl rfl)) (kvc_bind (krc_st (KEC.of rfl rfl) (krc_f_X12_isDigit N p3.2 p3.1)) (fun p6 => (kvc_ite (kvc_bind (krc_st (KEC.of rfl rfl) (krc_f_X12_isLetter N p6.2 p3.1)) (fun p9 => (kvc_ite (kvc_bindv (kvc_st (KEC.of rfl rfl) (krc_f_X12_readSign N p9.2 p3.1)) (fun p12 => (kvc_some (KEC.of rfl rfl)))) (kvc_bindv (kvc_st (KEC.of rfl rfl) (krc_f_X12_readName N p9.2)) (fun p14 => (kvc_some (KEC.of rfl rfl))))))) (kvc_st (KEC.of rfl rfl) (krc_f_X12_next_116 N N (RS.setI p6.2 14 0)))))))))
theorem krc_b_X12_next_18 (N : Nat) (K : RS → Option (RS)) (hK : ∀ (σ : RS), KVc σ (K σ)) (σ : RS) : KVc σ (b_X12_next_18 N K σ) := by
  unfold b_X12_next_18
  exact (kvc_ite (kvc_st (KEC.of rfl rfl) (krc_f_X12_next_68 N σ)) (kvc_bind (krc_st (KEC.of rfl rfl) (krc_f_X12_at N σ (σ.i 12))) (fun p25 => (kvc_ite (kvc_st (KEC.of rfl rfl) (hK (RS.setI p25.2 12 ((p25.2.i 12) + 1)))) (kvc_bind (krc_st (KEC.of rfl rfl) (krc_f_X12_at N p25.2 (p25.2.i 12))) (fun p28 => (kvc_ite (kvc_st (KEC.of rfl rfl) (hK (RS.setI p28.2 12 ((p28.2.i 12) + 1)))) (kvc_st (KEC.of rfl rfl) (krc_f_X12_next_68 N p28.2)))))))))
theorem krc_f_X12_next_18 (N : Nat) : ∀ (n : Nat) (σ : RS), KVc σ (f_X12_next_18 N n σ )
  | 0, _ => kvc_none
  | n+1, σ => krc_b_X12_next_18 N (f_X12_next_18 N n) (fun σ => krc_f_X12_next_18 N n σ) σ
theorem krc_f_X12_next (N : Nat) (σ : RS) : KVc σ (f_X12_next N σ) := by
  unfold f_X12_next
  exact (kvc_ite (kvc_st (KEC.of rfl rfl) (krc_f_X12_next_18 N N (RS.setI σ 17 ((σ.i 17) + 1)))) (kvc_some (KEC.of rfl rfl)))
theorem krc_f_X12_fail (N : Nat) (σ : RS) (x1 : Int32) (x2 : Int32) : KVc σ (f_X12_fail N σ x1 x2) := by
  unfold f_X12_fail
  exact (kvc_ite (kvc_some (KEC.of rfl rfl)) (kvc_some (KEC.of rfl rfl)))
theorem krc_f_X12_note (N : Nat) (σ : RS) (x1 : Int32) : KVc σ (f_X12_note N σ x1) := by
  unfold f_X12_note
  exact (kvc_ite (kvc_ite (kvc_some (KEC.of rfl rfl)) (kvc_some (KEC.of rfl rfl))) (kvc_some (KEC.of rfl rfl)))
theorem krc_f_X12_can_42 (N : Nat) (σ : RS) : KRc σ (f_X12_can_42 N σ) := by
  unfold f_X12_can_42
  exact (krc_ite (krc_some (KEC.of rfl rfl)) (krc_some (KEC.of rfl rfl)))
theorem krc_f_X12_can_20 (N : Nat) (σ : RS) : KRc σ (f_X12_can_20 N σ) := by
  unfold f_X12_can_20
  exact (krc_ite (krc_bindv (kvc_st (KEC.of rfl rfl) (krc_f_X12_fail N σ 1 (σ.i 11))) (fun p7 => (krc_st (KEC.of rfl rfl) (krc_f_X12_can_42 N p7)))) (krc_bindv (kvc_st (KEC.of rfl rfl) (krc_f_X12_fail N σ 2 (σ.i 11))) (fun p5 => (krc_st (KEC.of rfl rfl) (krc_f_X12_can_42 N p5)))))
theorem krc_f_X12_can (N : Nat) (σ : RS) (x1 : Int32) : KRc σ (f_X12_can N σ x1) := by
  unfold f_X12_can
  exact (krc_ite (krc_ite (krc_st (KEC.of rfl rfl) (krc_f_X12_can_20 N σ)) (krc_ite (krc_st (KEC.of rfl rfl) (krc_f_X12_can_20 N σ)) (krc_st (KEC.of rfl rfl) (krc_f_X12_can_42 N σ)))) (krc_st (KEC.of rfl rfl) (krc_f_X12_can_42 N σ)))
theorem krc_f_X12_need_31 (N : Nat) (σ : RS) : KRc σ (f_X12_need_31 N σ) := by
  unfold f_X12_need_31
  exact (krc_ite (krc_some (KEC.of rfl rfl)) (krc_some (KEC.of rfl rfl)))
theorem krc_f_X12_need_27 (N : Nat) (σ : RS) : KRc σ (f_X12_need_27 N σ) := by
  unfold f_X12_need_27
  exact (krc_bindv (kvc_st (KEC.of rfl rfl) (krc_f_X12_next N σ)) (fun p7 => (krc_st (KEC.of rfl rfl) (krc_f_X12_need_31 N p7))))
theorem krc_f_X12_need (N : Nat) (σ : RS) (x1 : Int32) : KRc σ (f_X12_need N σ x1) := by
  unfold f_X12_need
  exact (krc_ite (krc_ite (krc_bind (krc_st (KEC.of rfl rfl) (krc_f_X12_can N σ 1)) (fun p9 => (krc_ite (krc_st (KEC.of rfl rfl) (krc_f_X12_need_31 N p9.2)) (krc_st (KEC.of rfl rfl) (krc_f_X12_need_27 N p9.2))))) (krc_bind (krc_st (KEC.of rfl rfl) (krc_f_X12_can N σ 0)) (fun p4 => (krc_ite (krc_st (KEC.of rfl rfl) (krc_f_X12_need_31 N p4.2)) (krc_st (KEC.of rfl rfl) (krc_f_X12_need_27 N p4.2)))))) (krc_st (KEC.of rfl rfl) (krc_f_X12_need_31 N σ)))
theorem krc_f_X12_opens_29 (N : Nat) (σ : RS) : KRc σ (f_X12_opens_29 N σ) := by
  unfold f_X12_opens_29
  exact (krc_ite (krc_some (KEC.of rfl rfl)) (krc_some (KEC.of rfl rfl)))
theorem krc_f_X12_opens (N : Nat) (σ : RS) : KRc σ (f_X12_opens N σ) := by
  unfold f_X12_opens
  exact (krc_ite (krc_st (KEC.of rfl rfl) (krc_f_X12_opens_29 N (RS.setI σ 19 ((σ.i 19) + 1)))) (krc_bindv (kvc_st (KEC.of rfl rfl) (krc_f_X12_fail N (RS.setI σ 19 ((σ.i 19) + 1)) 6 (σ.i 11))) (fun p3 => (krc_st (KEC.of rfl rfl) (krc_f_X12_opens_29 N p3)))))
theorem krc_f_X12_open_38 (N : Nat) (σ : RS) : KRc σ (f_X12_open_38 N σ) := by
  unfold f_X12_open_38
  exact (krc_ite (krc_some (KEC.of rfl rfl)) (krc_some (KEC.of rfl rfl)))
theorem krc_f_X12_open_27 (N : Nat) (σ : RS) : KRc σ (f_X12_open_27 N σ) := by
  unfold f_X12_open_27
  exact (krc_bind (krc_st (KEC.of rfl rfl) (krc_f_X12_opens N σ)) (fun p7 => (krc_ite (krc_st (KEC.of rfl rfl) (krc_f_X12_open_38 N p7.2)) (krc_bindv (kvc_st (KEC.of rfl rfl) (krc_f_X12_next N p7.2)) (fun p10 => (krc_st (KEC.of rfl rfl) (krc_f_X12_open_38 N p10)))))))
theorem krc_f_X12_open (N : Nat) (σ : RS) (x1 : Int32) : KRc σ (f_X12_open N σ x1) := by
  unfold f_X12_open
  exact (krc_ite (krc_ite (krc_bind (krc_st (KEC.of rfl rfl) (krc_f_X12_can N σ 1)) (fun p12 => (krc_ite (krc_st (KEC.of rfl rfl) (krc_f_X12_open_38 N p12.2)) (krc_st (KEC.of rfl rfl) (krc_f_X12_open_27 N p12.2))))) (krc_bind (krc_st (KEC.of rfl rfl) (krc_f_X12_can N σ 0)) (fun p4 => (krc_ite (krc_st (KEC.of rfl rfl) (krc_f_X12_open_38 N p4.2)) (krc_st (KEC.of rfl rfl) (krc_f_X12_open_27 N p4.2)))))) (krc_st (KEC.of rfl rfl) (krc_f_X12_open_38 N σ)))
theorem krc_f_X12_shut_18 (N : Nat) (σ : RS) : KRc σ (f_X12_shut_18 N σ) := by
  unfold f_X12_shut_18
  exact (krc_ite (krc_some (KEC.of rfl rfl)) (krc_some (KEC.of rfl rfl)))
theorem krc_f_X12_shut (N : Nat) (σ : RS) (x1 : Int32) : KRc σ (f_X12_shut N σ x1) := by
  unfold f_X12_shut
  exact (krc_bind (krc_st (KEC.of rfl rfl) (krc_f_X12_need N σ x1)) (fun p1 => (krc_ite (krc_st (KEC.of rfl rfl) (krc_f_X12_shut_18 N p1.2)) (krc_st (KEC.of rfl rfl) (krc_f_X12_shut_18 N (RS.setI p1.2 19 ((p1.2.i 19) - 1)))))))
theorem krc_f_X12_emit (N : Nat) (σ : RS) (x1 : Int32) (x2 : Int32) : KRc σ (f_X12_emit N σ x1 x2) := by
  intro R e a b
  have e3 : (3000 : Int32).toInt = 3000 := by decide
  unfold f_X12_emit f_X12_emit_21 at e
  by_cases c : (3000 : Int32) ≤ σ.i 20
  · rw [if_pos c] at e
    obtain ⟨-, e⟩ := hf_ite e
    cases e
    have l := le_int c
    refine ⟨⟨?_, ?_⟩, fun j hj hk => ?_⟩
    · show (σ.i 20).toInt ≤ ((2999 : Int32) + 1).toInt
      have : ((2999 : Int32) + 1).toInt = 3000 := by decide
      omega
    · show ((2999 : Int32) + 1).toInt ≤ 3000
      decide
    · show upd (σ.a 21) _ x1 j = σ.a 21 j
      have z : ((2999 : Int32)).toNatClampNeg = 2999 := by decide
      exact if_neg (by rw [z]; omega)
  · rw [if_neg c] at e
    obtain ⟨hib, e⟩ := hf_ite e
    cases e
    have l := lt_int (Int32.not_le.mp c)
    have e1 : (1 : Int32).toInt = 1 := by decide
    have z : (σ.i 20 + 1).toInt = (σ.i 20).toInt + 1 := by rw [toInt_add] <;> rw [e1] <;> omega
    refine ⟨⟨?_, ?_⟩, fun j hj hk => ?_⟩
    · show (σ.i 20).toInt ≤ (σ.i 20 + 1).toInt
      omega
    · show (σ.i 20 + 1).toInt ≤ 3000
      omega
    · show upd (σ.a 21) _ x1 j = σ.a 21 j
      exact if_neg (by have := clampI hib.1; omega)
theorem krc_b_X12_seenAs_7 (N : Nat) (K : RS → Int64 → Int32 → Option (Int32 × RS)) (hK : ∀ (σ : RS) (y0 : Int64) (y1 : Int32), KRc σ (K σ y0 y1)) (σ : RS) (x1 : Int64) (x3 : Int32) : KRc σ (b_X12_seenAs_7 N K σ x1 x3) := by
  unfold b_X12_seenAs_7
  exact (krc_ite (krc_some (KEC.of rfl rfl)) (krc_ite (krc_ite (krc_some (KEC.of rfl rfl)) (krc_st (KEC.of rfl rfl) (hK σ x1 (x3 + (-1))))) krc_none))
theorem krc_f_X12_seenAs_7 (N : Nat) : ∀ (n : Nat) (σ : RS) (y0 : Int64) (y1 : Int32), KRc σ (f_X12_seenAs_7 N n σ y0 y1)
  | 0, _, _, _ => krc_none
  | n+1, σ, y0, y1 => krc_b_X12_seenAs_7 N (f_X12_seenAs_7 N n) (fun σ y0 y1 => krc_f_X12_seenAs_7 N n σ y0 y1) σ y0 y1
theorem krc_f_X12_seenAs (N : Nat) (σ : RS) (x1 : Int64) : KRc σ (f_X12_seenAs N σ x1) := by
  unfold f_X12_seenAs
  exact (krc_st (KEC.of rfl rfl) (krc_f_X12_seenAs_7 N N σ x1 ((σ.i 38) - 1)))
theorem krc_f_X12_see (N : Nat) (σ : RS) (x1 : Int64) (x3 : Int32) : KRc σ (f_X12_see N σ x1 x3) := by
  unfold f_X12_see
  exact (krc_ite (krc_some (KEC.of rfl rfl)) krc_none)
theorem krc_f_X12_goal (N : Nat) (σ : RS) (x1 : Int32) (x2 : Int64) : KRc σ (f_X12_goal N σ x1 x2) := by
  unfold f_X12_goal
  exact (krc_ite (krc_some (KEC.of rfl rfl)) krc_none)
theorem krc_f_X12_loopGoal_49 (N : Nat) (σ : RS) (x1 : Int32) : KRc σ (f_X12_loopGoal_49 N σ x1) := by
  unfold f_X12_loopGoal_49
  exact (krc_some (KEC.of rfl rfl))
theorem krc_b_X12_loopGoal_11 (N : Nat) (K : RS → Int32 → Int32 → Option (Int32 × RS)) (hK : ∀ (σ : RS) (y0 : Int32) (y1 : Int32), KRc σ (K σ y0 y1)) (σ : RS) (x1 : Int32) (x2 : Int32) : KRc σ (b_X12_loopGoal_11 N K σ x1 x2) := by
  unfold b_X12_loopGoal_11
  exact (krc_ite (krc_st (KEC.of rfl rfl) (krc_f_X12_loopGoal_49 N σ x1)) (krc_ite (krc_ite (krc_ite (krc_st (KEC.of rfl rfl) (hK (RS.setA σ 46 ((x2 : Int32).toNatClampNeg) x1) x1 (x2 + (-1)))) (krc_st (KEC.of rfl rfl) (krc_f_X12_loopGoal_49 N σ x1))) (krc_st (KEC.of rfl rfl) (krc_f_X12_loopGoal_49 N σ x1))) krc_none))
theorem krc_f_X12_loopGoal_11 (N : Nat) : ∀ (n : Nat) (σ : RS) (y0 : Int32) (y1 : Int32), KRc σ (f_X12_loopGoal_11 N n σ y0 y1)
  | 0, _, _, _ => krc_none
  | n+1, σ, y0, y1 => krc_b_X12_loopGoal_11 N (f_X12_loopGoal_11 N n) (fun σ y0 y1 => krc_f_X12_loopGoal_11 N n σ y0 y1) σ y0 y1
theorem krc_f_X12_loopGoal (N : Nat) (σ : RS) : KRc σ (f_X12_loopGoal N σ) := by
  unfold f_X12_loopGoal
  exact (krc_bind (krc_st (KEC.of rfl rfl) (krc_f_X12_goal N σ 0 0)) (fun p1 => (krc_st (KEC.of rfl rfl) (krc_f_X12_loopGoal_11 N N p1.2 p1.1 (p1.1 - 1)))))
theorem krc_b_X12_patch_2 (N : Nat) (K : RS → Int32 → Int32 → Option (RS)) (hK : ∀ (σ : RS) (y0 : Int32) (y1 : Int32), KVc σ (K σ y0 y1)) (σ : RS) (x2 : Int32) (x3 : Int32) : KVc σ (b_X12_patch_2 N K σ x2 x3) := by
  unfold b_X12_patch_2
  exact (kvc_ite (kvc_some (KEC.of rfl rfl)) (kvc_ite (kvc_st (KEC.of rfl rfl) (hK (RS.setA σ 22 ((x3 : Int32).toNatClampNeg) x2) x2 (σ.a 22 ((x3 : Int32).toNatClampNeg)))) kvc_none))
theorem krc_f_X12_patch_2 (N : Nat) : ∀ (n : Nat) (σ : RS) (y0 : Int32) (y1 : Int32), KVc σ (f_X12_patch_2 N n σ y0 y1)
  | 0, _, _, _ => kvc_none
  | n+1, σ, y0, y1 => krc_b_X12_patch_2 N (f_X12_patch_2 N n) (fun σ y0 y1 => krc_f_X12_patch_2 N n σ y0 y1) σ y0 y1
theorem krc_f_X12_patch (N : Nat) (σ : RS) (x1 : Int32) (x2 : Int32) : KVc σ (f_X12_patch N σ x1 x2) := by
  unfold f_X12_patch
  exact (kvc_st (KEC.of rfl rfl) (krc_f_X12_patch_2 N N σ x2 x1))
theorem krc_f_X12_goes (N : Nat) (σ : RS) (x1 : Int32) (x2 : Int32) : KVc σ (f_X12_goes N σ x1 x2) := by
  unfold f_X12_goes
  exact (kvc_ite (kvc_ite (kvc_some (KEC.of rfl rfl)) kvc_none) (kvc_ite (kvc_some (KEC.of rfl rfl)) kvc_none))
theorem krc_f_X12_pend_22 (N : Nat) (σ : RS) (x1 : Int32) (x2 : Int32) : KVc σ (f_X12_pend_22 N σ x1 x2) := by
  unfold f_X12_pend_22
  exact (kvc_bindv (kvc_st (KEC.of rfl rfl) (krc_f_X12_goes N σ x1 x2)) (fun p2 => (kvc_some (KEC.of rfl rfl))))
theorem krc_f_X12_pend (N : Nat) (σ : RS) (x1 : Int32) (x2 : Int32) : KVc σ (f_X12_pend N σ x1 x2) := by
  unfold f_X12_pend
  exact (kvc_ite (kvc_st (KEC.of rfl rfl) (krc_f_X12_pend_22 N σ x1 x2)) (kvc_ite (kvc_ite (kvc_ite (kvc_some (KEC.of rfl rfl)) kvc_none) (kvc_st (KEC.of rfl rfl) (krc_f_X12_pend_22 N σ x1 x2))) kvc_none))
theorem krc_b_X12_resolve_2 (N : Nat) (K : RS → Int32 → Int32 → Int32 → Option (RS)) (hK : ∀ (σ : RS) (y0 : Int32) (y1 : Int32) (y2 : Int32), KVc σ (K σ y0 y1 y2)) (σ : RS) (x1 : Int32) (x2 : Int32) (x3 : Int32) : KVc σ (b_X12_resolve_2 N K σ x1 x2 x3) := by
  unfold b_X12_resolve_2
  exact (kvc_ite (kvc_some (KEC.of rfl rfl)) (kvc_ite (kvc_ite (kvc_ite (kvc_st (KEC.of rfl rfl) (hK (RS.setA σ 62 ((x3 : Int32).toNatClampNeg) (-1)) x1 x2 (x3 + 1))) (kvc_ite (kvc_bindv (kvc_st (KEC.of rfl rfl) (krc_f_X12_goes N (RS.setA σ 62 ((x3 : Int32).toNatClampNeg) (-1)) (σ.a 60 ((x3 : Int32).toNatClampNeg)) (σ.a 61 ((x3 : Int32).toNatClampNeg)))) (fun p8 => (kvc_st (KEC.of rfl rfl) (hK p8 x1 x2 (x3 + 1))))) (kvc_ite (kvc_ite (kvc_bindv (kvc_st (KEC.of rfl rfl) (krc_f_X12_goes N (RS.setA σ 62 ((x3 : Int32).toNatClampNeg) (-1)) (σ.a 60 ((x3 : Int32).toNatClampNeg)) (σ.a 61 ((x3 : Int32).toNatClampNeg)))) (fun p13 => (kvc_st (KEC.of rfl rfl) (hK p13 x1 x2 (x3 + 1))))) (kvc_st (KEC.of rfl rfl) (hK (RS.setA σ 62 ((x3 : Int32).toNatClampNeg) (σ.a 57 ((((σ.i 56) - 1) : Int32).toNatClampNeg))) x1 x2 (x3 + 1)))) kvc_none))) (kvc_st (KEC.of rfl rfl) (hK σ x1 x2 (x3 + 1)))) kvc_none))
theorem krc_f_X12_resolve_2 (N : Nat) : ∀ (n : Nat) (σ : RS) (y0 : Int32) (y1 : Int32) (y2 : Int32), KVc σ (f_X12_resolve_2 N n σ y0 y1 y2)
  | 0, _, _, _, _ => kvc_none
  | n+1, σ, y0, y1, y2 => krc_b_X12_resolve_2 N (f_X12_resolve_2 N n) (fun σ y0 y1 y2 => krc_f_X12_resolve_2 N n σ y0 y1 y2) σ y0 y1 y2
theorem krc_f_X12_resolve (N : Nat) (σ : RS) (x1 : Int32) (x2 : Int32) : KVc σ (f_X12_resolve N σ x1 x2) := by
  unfold f_X12_resolve
  exact (kvc_st (KEC.of rfl rfl) (krc_f_X12_resolve_2 N N σ x1 x2 0))
theorem krc_f_X12_push (N : Nat) (σ : RS) (x1 : Int32) : KVc σ (f_X12_push N σ x1) := by
  unfold f_X12_push
  exact (kvc_ite (kvc_some (KEC.of rfl rfl)) kvc_none)
theorem krc_f_X12_then (N : Nat) (σ : RS) (x1 : Int32) (x2 : Int32) : KVc σ (f_X12_then N σ x1 x2) := by
  unfold f_X12_then
  exact (kvc_ite (kvc_bindv (kvc_st (KEC.of rfl rfl) (krc_f_X12_push N (RS.setA σ 65 (((σ.i 63) : Int32).toNatClampNeg) x1) x2)) (fun p2 => (kvc_some (KEC.of rfl rfl)))) kvc_none)
theorem krc_f_X12_body_32 (N : Nat) (σ : RS) (x1 : Int32) : KVc σ (f_X12_body_32 N σ x1) := by
  unfold f_X12_body_32
  exact (kvc_bindv (kvc_st (KEC.of rfl rfl) (krc_f_X12_then N σ x1 2)) (fun p5 => (kvc_some (KEC.of rfl rfl))))
theorem krc_f_X12_body (N : Nat) (σ : RS) (x1 : Int32) : KVc σ (f_X12_body N σ x1) := by
  unfold f_X12_body
  exact (kvc_ite (kvc_bind (krc_st (KEC.of rfl rfl) (krc_f_X12_can N σ 0)) (fun p2 => (kvc_ite (kvc_some (KEC.of rfl rfl)) (kvc_st (KEC.of rfl rfl) (krc_f_X12_body_32 N p2.2 x1))))) (kvc_ite (kvc_bind (krc_st (KEC.of rfl rfl) (krc_f_X12_can N σ 0)) (fun p8 => (kvc_ite (kvc_some (KEC.of rfl rfl)) (kvc_st (KEC.of rfl rfl) (krc_f_X12_body_32 N p8.2 x1))))) (kvc_bind (krc_st (KEC.of rfl rfl) (krc_f_X12_can N σ 1)) (fun p11 => (kvc_ite (kvc_some (KEC.of rfl rfl)) (kvc_st (KEC.of rfl rfl) (krc_f_X12_body_32 N p11.2 x1)))))))
theorem krc_f_X12_over (N : Nat) (σ : RS) (x1 : Int32) : KVc σ (f_X12_over N σ x1) := by
  unfold f_X12_over
  exact (kvc_ite (kvc_some (KEC.of rfl rfl)) kvc_none)
theorem krc_f_X12_list_73 (N : Nat) (σ : RS) (x1 : Int32) : KVc σ (f_X12_list_73 N σ x1) := by
  unfold f_X12_list_73
  exact (kvc_ite (kvc_ite (kvc_bindv (kvc_st (KEC.of rfl rfl) (krc_f_X12_over N σ 1)) (fun p9 => (kvc_some (KEC.of rfl rfl)))) (kvc_bindv (kvc_st (KEC.of rfl rfl) (krc_f_X12_over N σ 0)) (fun p7 => (kvc_some (KEC.of rfl rfl))))) kvc_none)
theorem krc_f_X12_list_110 (N : Nat) (σ : RS) : KVc σ (f_X12_list_110 N σ) := by
  unfold f_X12_list_110
  exact (kvc_bindv (kvc_st (KEC.of rfl rfl) (krc_f_X12_then N σ 1 2)) (fun p16 => (kvc_some (KEC.of rfl rfl))))
theorem krc_f_X12_list_37 (N : Nat) (σ : RS) (x1 : Int32) : KVc σ (f_X12_list_37 N σ x1) := by
  unfold f_X12_list_37
  exact (kvc_ite (kvc_st (KEC.of rfl rfl) (krc_f_X12_list_73 N σ x1)) (kvc_ite (kvc_st (KEC.of rfl rfl) (krc_f_X12_list_73 N σ x1)) (kvc_ite (kvc_st (KEC.of rfl rfl) (krc_f_X12_list_73 N σ x1)) (kvc_ite (kvc_st (KEC.of rfl rfl) (krc_f_X12_list_73 N σ x1)) (kvc_ite (kvc_ite (kvc_bindv (kvc_st (KEC.of rfl rfl) (krc_f_X12_note N σ (σ.i 11))) (fun p18 => (kvc_st (KEC.of rfl rfl) (krc_f_X12_list_110 N p18)))) (kvc_st (KEC.of rfl rfl) (krc_f_X12_list_110 N σ))) kvc_none)))))
theorem krc_f_X12_list (N : Nat) (σ : RS) (x1 : Int32) : KVc σ (f_X12_list N σ x1) := by
  unfold f_X12_list
  exact (kvc_ite (kvc_ite (kvc_st (KEC.of rfl rfl) (krc_f_X12_list_37 N (RS.setA σ 66 ((x1 : Int32).toNatClampNeg) 1) x1)) (kvc_ite (kvc_st (KEC.of rfl rfl) (krc_f_X12_list_37 N (RS.setA σ 66 ((x1 : Int32).toNatClampNeg) 0) x1)) (kvc_st (KEC.of rfl rfl) (krc_f_X12_list_37 N (RS.setA σ 66 ((x1 : Int32).toNatClampNeg) 1) x1)))) kvc_none)
theorem krc_f_X12_jump_317 (N : Nat) (σ : RS) : KVc σ (f_X12_jump_317 N σ) := by
  unfold f_X12_jump_317
  exact (kvc_bind (krc_st (KEC.of rfl rfl) (krc_f_X12_need N σ 59)) (fun p18 => (kvc_some (KEC.of rfl rfl))))
theorem krc_f_X12_jump_302 (N : Nat) (σ : RS) (x1 : Int32) (x3 : Int32) (x4 : Int32) : KVc σ (f_X12_jump_302 N σ x1 x3 x4) := by
  unfold f_X12_jump_302
  exact (kvc_bindv (kvc_st (KEC.of rfl rfl) (krc_f_X12_pend N σ x4 x1)) (fun p15 => (kvc_ite (kvc_st (KEC.of rfl rfl) (krc_f_X12_jump_317 N p15)) (kvc_bindv (kvc_st (KEC.of rfl rfl) (krc_f_X12_next N p15)) (fun p20 => (kvc_st (KEC.of rfl rfl) (krc_f_X12_jump_317 N p20)))))))
theorem krc_f_X12_jump_263 (N : Nat) (σ : RS) (x1 : Int32) (x3 : Int32) (x4 : Int32) (x5 : Int32) : KVc σ (f_X12_jump_263 N σ x1 x3 x4 x5) := by
  unfold f_X12_jump_263
  exact (kvc_ite (kvc_ite (kvc_ite (kvc_st (KEC.of rfl rfl) (krc_f_X12_jump_302 N (RS.setA (RS.setA σ 23 ((x5 : Int32).toNatClampNeg) (σ.a 47 ((x4 : Int32).toNatClampNeg))) 49 ((x4 : Int32).toNatClampNeg) x5) x1 x3 x4)) (kvc_st (KEC.of rfl rfl) (krc_f_X12_jump_302 N (RS.setA (RS.setA σ 23 ((x5 : Int32).toNatClampNeg) (σ.a 47 ((x4 : Int32).toNatClampNeg))) 48 ((x4 : Int32).toNatClampNeg) x5) x1 x3 x4))) kvc_none) kvc_none)
theorem krc_f_X12_jump_234 (N : Nat) (σ : RS) (x1 : Int32) (x3 : Int32) (x4 : Int32) : KVc σ (f_X12_jump_234 N σ x1 x3 x4) := by
  unfold f_X12_jump_234
  exact (kvc_ite (kvc_ite (kvc_bind (krc_st (KEC.of rfl rfl) (krc_f_X12_emit N σ 36 (σ.a 49 ((x4 : Int32).toNatClampNeg)))) (fun p10 => (kvc_st (KEC.of rfl rfl) (krc_f_X12_jump_263 N p10.2 x1 x3 x4 p10.1)))) kvc_none) (kvc_ite (kvc_bind (krc_st (KEC.of rfl rfl) (krc_f_X12_emit N σ 36 (σ.a 48 ((x4 : Int32).toNatClampNeg)))) (fun p23 => (kvc_st (KEC.of rfl rfl) (krc_f_X12_jump_263 N p23.2 x1 x3 x4 p23.1)))) kvc_none))
theorem krc_f_X12_jump_171 (N : Nat) (σ : RS) (x1 : Int32) (x2 : Int32) (x3 : Int32) (x4 : Int32) : KVc σ (f_X12_jump_171 N σ x1 x2 x3 x4) := by
  unfold f_X12_jump_171
  exact (kvc_ite (kvc_ite (kvc_st (KEC.of rfl rfl) (krc_f_X12_jump_234 N σ x1 x3 x4)) (kvc_ite (kvc_ite (kvc_ite (kvc_st (KEC.of rfl rfl) (krc_f_X12_jump_234 N σ x1 x3 (σ.a 46 ((x4 : Int32).toNatClampNeg)))) (kvc_bindv (kvc_st (KEC.of rfl rfl) (krc_f_X12_fail N σ 5 (σ.i 11))) (fun p28 => (kvc_some (KEC.of rfl rfl))))) kvc_none) (kvc_st (KEC.of rfl rfl) (krc_f_X12_jump_234 N σ x1 x3 x4)))) (kvc_ite (kvc_bindv (kvc_st (KEC.of rfl rfl) (krc_f_X12_fail N σ 5 x2)) (fun p32 => (kvc_some (KEC.of rfl rfl)))) (kvc_bindv (kvc_st (KEC.of rfl rfl) (krc_f_X12_fail N σ 3 (σ.i 11))) (fun p35 => (kvc_some (KEC.of rfl rfl))))))
theorem krc_b_X12_jump_60 (N : Nat) (K : RS → Int32 → Int32 → Int32 → Int32 → Int32 → Option (RS)) (hK : ∀ (σ : RS) (y0 : Int32) (y1 : Int32) (y2 : Int32) (y3 : Int32) (y4 : Int32), KVc σ (K σ y0 y1 y2 y3 y4)) (σ : RS) (x1 : Int32) (x2 : Int32) (x3 : Int32) (x4 : Int32) (x5 : Int32) : KVc σ (b_X12_jump_60 N K σ x1 x2 x3 x4 x5) := by
  unfold b_X12_jump_60
  exact (kvc_ite (kvc_st (KEC.of rfl rfl) (krc_f_X12_jump_171 N σ x1 x2 x3 x4)) (kvc_ite (kvc_ite (kvc_st (KEC.of rfl rfl) (krc_f_X12_jump_171 N σ x1 x2 x3 x4)) (kvc_ite (kvc_st (KEC.of rfl rfl) (krc_f_X12_jump_171 N σ x1 x2 x3 x4)) (kvc_ite (kvc_ite (kvc_st (KEC.of rfl rfl) (hK σ x1 x2 x3 x5 (x5 + (-1)))) (kvc_ite (kvc_st (KEC.of rfl rfl) (hK σ x1 x2 x3 x4 (x5 + (-1)))) (kvc_ite (kvc_st (KEC.of rfl rfl) (hK σ x1 x2 x3 x5 (x5 + (-1)))) (kvc_st (KEC.of rfl rfl) (hK σ x1 x2 x3 x4 (x5 + (-1))))))) (kvc_ite (kvc_ite (kvc_st (KEC.of rfl rfl) (hK σ x1 x2 x3 x5 (x5 + (-1)))) (kvc_st (KEC.of rfl rfl) (hK σ x1 x2 x3 x4 (x5 + (-1))))) (kvc_st (KEC.of rfl rfl) (hK σ x1 x2 x3 x4 (x5 + (-1)))))))) kvc_none))
theorem krc_f_X12_jump_60 (N : Nat) : ∀ (n : Nat) (σ : RS) (y0 : Int32) (y1 : Int32) (y2 : Int32) (y3 : Int32) (y4 : Int32), KVc σ (f_X12_jump_60 N n σ y0 y1 y2 y3 y4)
  | 0, _, _, _, _, _, _ => kvc_none
  | n+1, σ, y0, y1, y2, y3, y4 => krc_b_X12_jump_60 N (f_X12_jump_60 N n) (fun σ y0 y1 y2 y3 y4 => krc_f_X12_jump_60 N n σ y0 y1 y2 y3 y4) σ y0 y1 y2 y3 y4
theorem krc_f_X12_jump_49 (N : Nat) (σ : RS) (x1 : Int32) (x2 : Int32) (x3 : Int32) : KVc σ (f_X12_jump_49 N σ x1 x2 x3) := by
  unfold f_X12_jump_49
  exact (kvc_st (KEC.of rfl rfl) (krc_f_X12_jump_60 N N σ x1 x2 x3 (-1) ((σ.i 43) - 1)))
theorem krc_f_X12_jump_16 (N : Nat) (σ : RS) (x1 : Int32) : KVc σ (f_X12_jump_16 N σ x1) := by
  unfold f_X12_jump_16
  exact (kvc_bindv (kvc_st (KEC.of rfl rfl) (krc_f_X12_next N (RS.setI σ 55 ((σ.i 55) + 1)))) (fun p2 => (kvc_ite (kvc_st (KEC.of rfl rfl) (krc_f_X12_jump_49 N p2 x1 (σ.i 11) 1)) (kvc_st (KEC.of rfl rfl) (krc_f_X12_jump_49 N p2 x1 (σ.i 11) 0)))))
theorem krc_f_X12_jump (N : Nat) (σ : RS) : KVc σ (f_X12_jump N σ) := by
  unfold f_X12_jump
  exact (kvc_ite (kvc_st (KEC.of rfl rfl) (krc_f_X12_jump_16 N σ 1)) (kvc_st (KEC.of rfl rfl) (krc_f_X12_jump_16 N σ 0)))
theorem krc_f_X12_stat_309 (N : Nat) (σ : RS) : KVc σ (f_X12_stat_309 N σ) := by
  unfold f_X12_stat_309
  exact (kvc_bind (krc_st (KEC.of rfl rfl) (krc_f_X12_emit N σ 1 0)) (fun p10 => (kvc_ite (kvc_bindv (kvc_st (KEC.of rfl rfl) (krc_f_X12_next N p10.2)) (fun p17 => (kvc_bindv (kvc_st (KEC.of rfl rfl) (krc_f_X12_over N p17 1)) (fun p19 => (kvc_some (KEC.of rfl rfl)))))) (kvc_bindv (kvc_st (KEC.of rfl rfl) (krc_f_X12_jump N p10.2)) (fun p13 => (kvc_bindv (kvc_st (KEC.of rfl rfl) (krc_f_X12_over N p13 0)) (fun p15 => (kvc_some (KEC.of rfl rfl)))))))))
theorem krc_f_X12_stat_240 (N : Nat) (σ : RS) (x1 : Int32) : KVc σ (f_X12_stat_240 N σ x1) := by
  unfold f_X12_stat_240
  exact (kvc_ite (kvc_ite (kvc_ite (kvc_bind (krc_st (KEC.of rfl rfl) (krc_f_X12_can N σ 1)) (fun p7 => (kvc_ite (kvc_some (KEC.of rfl rfl)) (kvc_st (KEC.of rfl rfl) (krc_f_X12_stat_309 N p7.2))))) (kvc_ite (kvc_bind (krc_st (KEC.of rfl rfl) (krc_f_X12_can N σ 1)) (fun p22 => (kvc_ite (kvc_some (KEC.of rfl rfl)) (kvc_st (KEC.of rfl rfl) (krc_f_X12_stat_309 N p22.2))))) (kvc_ite (kvc_bind (krc_st (KEC.of rfl rfl) (krc_f_X12_can N σ 1)) (fun p29 => (kvc_ite (kvc_some (KEC.of rfl rfl)) (kvc_st (KEC.of rfl rfl) (krc_f_X12_stat_309 N p29.2))))) (kvc_bind (krc_st (KEC.of rfl rfl) (krc_f_X12_can N σ 0)) (fun p26 => (kvc_ite (kvc_some (KEC.of rfl rfl)) (kvc_st (KEC.of rfl rfl) (krc_f_X12_stat_309 N p26.2)))))))) (kvc_ite (kvc_some (KEC.of rfl rfl)) (kvc_bind (krc_st (KEC.of rfl rfl) (krc_f_X12_emit N σ 1 0)) (fun p33 => (kvc_some (KEC.of rfl rfl)))))) kvc_none)
theorem krc_f_X12_stat (N : Nat) (σ : RS) (x1 : Int32) : KVc σ (f_X12_stat N σ x1) := by
  unfold f_X12_stat
  exact (kvc_ite (kvc_ite (kvc_some (KEC.of rfl rfl)) kvc_none) (kvc_ite (kvc_ite (kvc_st (KEC.of rfl rfl) (krc_f_X12_stat_240 N (RS.setA (RS.setI σ 53 ((σ.i 53) + 1)) 64 ((x1 : Int32).toNatClampNeg) 4) x1)) kvc_none) (kvc_ite (kvc_ite (kvc_st (KEC.of rfl rfl) (krc_f_X12_stat_240 N (RS.setA (RS.setI σ 53 ((σ.i 53) + 1)) 64 ((x1 : Int32).toNatClampNeg) 4) x1)) kvc_none) (kvc_ite (kvc_ite (kvc_st (KEC.of rfl rfl) (krc_f_X12_stat_240 N (RS.setA (RS.setI σ 53 ((σ.i 53) + 1)) 64 ((x1 : Int32).toNatClampNeg) 5) x1)) kvc_none) (kvc_ite (kvc_ite (kvc_st (KEC.of rfl rfl) (krc_f_X12_stat_240 N (RS.setA (RS.setI σ 53 ((σ.i 53) + 1)) 64 ((x1 : Int32).toNatClampNeg) 6) x1)) kvc_none) (kvc_ite (kvc_ite (kvc_st (KEC.of rfl rfl) (krc_f_X12_stat_240 N (RS.setA (RS.setI σ 53 ((σ.i 53) + 1)) 64 ((x1 : Int32).toNatClampNeg) 6) x1)) kvc_none) (kvc_ite (kvc_ite (kvc_st (KEC.of rfl rfl) (krc_f_X12_stat_240 N (RS.setA (RS.setI σ 53 ((σ.i 53) + 1)) 64 ((x1 : Int32).toNatClampNeg) 6) x1)) kvc_none) (kvc_ite (kvc_ite (kvc_st (KEC.of rfl rfl) (krc_f_X12_stat_240 N (RS.setA (RS.setI σ 53 ((σ.i 53) + 1)) 64 ((x1 : Int32).toNatClampNeg) 7) x1)) kvc_none) (kvc_ite (kvc_ite (kvc_st (KEC.of rfl rfl) (krc_f_X12_stat_240 N (RS.setA (RS.setI σ 53 ((σ.i 53) + 1)) 64 ((x1 : Int32).toNatClampNeg) 8) x1)) kvc_none) (kvc_ite (kvc_ite (kvc_st (KEC.of rfl rfl) (krc_f_X12_stat_240 N (RS.setA (RS.setI σ 53 ((σ.i 53) + 1)) 64 ((x1 : Int32).toNatClampNeg) 9) x1)) kvc_none) (kvc_ite (kvc_ite (kvc_st (KEC.of rfl rfl) (krc_f_X12_stat_240 N (RS.setA (RS.setI σ 53 ((σ.i 53) + 1)) 64 ((x1 : Int32).toNatClampNeg) 10) x1)) kvc_none) (kvc_ite (kvc_ite (kvc_st (KEC.of rfl rfl) (krc_f_X12_stat_240 N (RS.setA (RS.setI σ 53 ((σ.i 53) + 1)) 64 ((x1 : Int32).toNatClampNeg) 11) x1)) kvc_none) (kvc_ite (kvc_ite (kvc_st (KEC.of rfl rfl) (krc_f_X12_stat_240 N (RS.setA (RS.setI σ 53 ((σ.i 53) + 1)) 64 ((x1 : Int32).toNatClampNeg) 12) x1)) kvc_none) (kvc_ite (kvc_ite (kvc_st (KEC.of rfl rfl) (krc_f_X12_stat_240 N (RS.setA (RS.setI σ 53 ((σ.i 53) + 1)) 64 ((x1 : Int32).toNatClampNeg) 13) x1)) kvc_none) (kvc_ite (kvc_ite (kvc_st (KEC.of rfl rfl) (krc_f_X12_stat_240 N (RS.setA (RS.setI σ 53 ((σ.i 53) + 1)) 64 ((x1 : Int32).toNatClampNeg) 14) x1)) kvc_none) (kvc_ite (kvc_ite (kvc_st (KEC.of rfl rfl) (krc_f_X12_stat_240 N (RS.setA (RS.setI σ 53 ((σ.i 53) + 1)) 64 ((x1 : Int32).toNatClampNeg) 15) x1)) kvc_none) (kvc_ite (kvc_st (KEC.of rfl rfl) (krc_f_X12_stat_240 N (RS.setA (RS.setI σ 53 ((σ.i 53) + 1)) 64 ((x1 : Int32).toNatClampNeg) 2) x1)) kvc_none)))))))))))))))))
theorem krc_f_X12_block (N : Nat) (σ : RS) (x1 : Int32) : KVc σ (f_X12_block N σ x1) := by
  unfold f_X12_block
  exact (kvc_ite (kvc_ite (kvc_bind (krc_st (KEC.of rfl rfl) (krc_f_X12_open N σ 123)) (fun p5 => (kvc_bindv (kvc_st (KEC.of rfl rfl) (krc_f_X12_then N (RS.setA p5.2 66 ((x1 : Int32).toNatClampNeg) (p5.2.i 38)) 1 1)) (fun p7 => (kvc_some (KEC.of rfl rfl)))))) (kvc_bind (krc_st (KEC.of rfl rfl) (krc_f_X12_shut N σ 125)) (fun p3 => (kvc_some (KEC.of rfl rfl))))) kvc_none)
theorem krc_f_X12_telling_22 (N : Nat) (σ : RS) (x1 : Int32) : KRc σ (f_X12_telling_22 N σ x1) := by
  unfold f_X12_telling_22
  exact (krc_bind (krc_st (KEC.of rfl rfl) (krc_f_X12_seenAs N σ σ.l)) (fun p5 => (krc_ite (krc_ite (krc_bindv (kvc_st (KEC.of rfl rfl) (krc_f_X12_next N (RS.setB (RS.setI p5.2 54 ((p5.2.i 54) + 1)) 74 ((x1 : Int32).toNatClampNeg) p5.2.l))) (fun p9 => (krc_some (KEC.of rfl rfl)))) krc_none) (krc_bindv (kvc_st (KEC.of rfl rfl) (krc_f_X12_fail N p5.2 4 (p5.2.i 11))) (fun p11 => (krc_some (KEC.of rfl rfl)))))))
theorem krc_f_X12_telling_20 (N : Nat) (σ : RS) : KRc σ (f_X12_telling_20 N σ) := by
  unfold f_X12_telling_20
  exact (krc_some (KEC.of rfl rfl))
theorem krc_f_X12_telling (N : Nat) (σ : RS) (x1 : Int32) : KRc σ (f_X12_telling N σ x1) := by
  unfold f_X12_telling
  exact (krc_ite (krc_bind (krc_st (KEC.of rfl rfl) (krc_f_X12_can N σ 1)) (fun p13 => (krc_ite (krc_st (KEC.of rfl rfl) (krc_f_X12_telling_20 N p13.2)) (krc_st (KEC.of rfl rfl) (krc_f_X12_telling_22 N p13.2 x1))))) (krc_bind (krc_st (KEC.of rfl rfl) (krc_f_X12_can N σ 0)) (fun p2 => (krc_ite (krc_st (KEC.of rfl rfl) (krc_f_X12_telling_20 N p2.2)) (krc_st (KEC.of rfl rfl) (krc_f_X12_telling_22 N p2.2 x1))))))
theorem krc_f_X12_tell (N : Nat) (σ : RS) (x1 : Int32) : KVc σ (f_X12_tell N σ x1) := by
  unfold f_X12_tell
  exact (kvc_ite (kvc_ite (kvc_bindv (kvc_st (KEC.of rfl rfl) (krc_f_X12_next N σ)) (fun p11 => (kvc_ite (kvc_bind (krc_st (KEC.of rfl rfl) (krc_f_X12_telling N p11 x1)) (fun p14 => (kvc_ite (kvc_some (KEC.of rfl rfl)) (kvc_bind (krc_st (KEC.of rfl rfl) (krc_f_X12_need N p14.2 61)) (fun p17 => (kvc_bindv (kvc_st (KEC.of rfl rfl) (krc_f_X12_then N p17.2 1 16)) (fun p19 => (kvc_some (KEC.of rfl rfl))))))))) (kvc_some (KEC.of rfl rfl))))) (kvc_bind (krc_st (KEC.of rfl rfl) (krc_f_X12_see N σ (σ.b 74 ((x1 : Int32).toNatClampNeg)) 0)) (fun p3 => (kvc_bind (krc_st (KEC.of rfl rfl) (krc_f_X12_emit N p3.2 5 p3.1)) (fun p5 => (kvc_bind (krc_st (KEC.of rfl rfl) (krc_f_X12_need N p5.2 59)) (fun p7 => (kvc_bindv (kvc_st (KEC.of rfl rfl) (krc_f_X12_over N p7.2 1)) (fun p9 => (kvc_some (KEC.of rfl rfl))))))))))) kvc_none)
theorem krc_f_X12_label_188 (N : Nat) (σ : RS) : KVc σ (f_X12_label_188 N σ) := by
  unfold f_X12_label_188
  exact (kvc_bindv (kvc_st (KEC.of rfl rfl) (krc_f_X12_body N σ 1)) (fun p10 => (kvc_some (KEC.of rfl rfl))))
theorem krc_f_X12_label_168 (N : Nat) (σ : RS) : KVc σ (f_X12_label_168 N σ) := by
  unfold f_X12_label_168
  exact (kvc_st (KEC.of rfl rfl) (krc_f_X12_label_188 N σ))
theorem krc_b_X12_label_125 (N : Nat) (K : RS → Int32 → Option (RS)) (hK : ∀ (σ : RS) (y0 : Int32), KVc σ (K σ y0)) (σ : RS) (x6 : Int32) : KVc σ (b_X12_label_125 N K σ x6) := by
  unfold b_X12_label_125
  exact (kvc_ite (kvc_st (KEC.of rfl rfl) (krc_f_X12_label_168 N σ)) (kvc_ite (kvc_ite (kvc_ite (kvc_st (KEC.of rfl rfl) (hK (RS.setA σ 46 ((x6 : Int32).toNatClampNeg) (-3)) (x6 + (-1)))) (kvc_st (KEC.of rfl rfl) (krc_f_X12_label_168 N σ))) (kvc_st (KEC.of rfl rfl) (krc_f_X12_label_168 N σ))) kvc_none))
theorem krc_f_X12_label_125 (N : Nat) : ∀ (n : Nat) (σ : RS) (y0 : Int32), KVc σ (f_X12_label_125 N n σ y0)
  | 0, _, _ => kvc_none
  | n+1, σ, y0 => krc_b_X12_label_125 N (f_X12_label_125 N n) (fun σ y0 => krc_f_X12_label_125 N n σ y0) σ y0
theorem krc_f_X12_label_110 (N : Nat) (σ : RS) (x5 : Int32) : KVc σ (f_X12_label_110 N σ x5) := by
  unfold f_X12_label_110
  exact (kvc_ite (kvc_st (KEC.of rfl rfl) (krc_f_X12_label_125 N N (RS.setA σ 46 ((x5 : Int32).toNatClampNeg) (-3)) (x5 - 1))) kvc_none)
theorem krc_f_X12_label_60 (N : Nat) (σ : RS) (x1 : Int32) (x2 : Int64) : KVc σ (f_X12_label_60 N σ x1 x2) := by
  unfold f_X12_label_60
  exact (kvc_bind (krc_st (KEC.of rfl rfl) (krc_f_X12_goal N σ 2 x2)) (fun p2 => (kvc_ite (kvc_bindv (kvc_st (KEC.of rfl rfl) (krc_f_X12_next N (RS.setA p2.2 66 ((x1 : Int32).toNatClampNeg) p2.1))) (fun p5 => (kvc_ite (kvc_st (KEC.of rfl rfl) (krc_f_X12_label_110 N p5 p2.1)) (kvc_ite (kvc_st (KEC.of rfl rfl) (krc_f_X12_label_110 N p5 p2.1)) (kvc_ite (kvc_st (KEC.of rfl rfl) (krc_f_X12_label_110 N p5 p2.1)) (kvc_ite (kvc_ite (kvc_st (KEC.of rfl rfl) (krc_f_X12_label_188 N (RS.setA p5 46 ((p2.1 : Int32).toNatClampNeg) (-2)))) kvc_none) (kvc_st (KEC.of rfl rfl) (krc_f_X12_label_188 N p5)))))))) kvc_none)))
theorem krc_b_X12_label_8 (N : Nat) (K : RS → Int32 → Int64 → Int32 → Int32 → Option (RS)) (hK : ∀ (σ : RS) (y0 : Int32) (y1 : Int64) (y2 : Int32) (y3 : Int32), KVc σ (K σ y0 y1 y2 y3)) (σ : RS) (x1 : Int32) (x2 : Int64) (x4 : Int32) (x5 : Int32) : KVc σ (b_X12_label_8 N K σ x1 x2 x4 x5) := by
  unfold b_X12_label_8
  exact (kvc_ite (kvc_st (KEC.of rfl rfl) (krc_f_X12_label_60 N σ x1 x2)) (kvc_ite (kvc_ite (kvc_st (KEC.of rfl rfl) (krc_f_X12_label_60 N σ x1 x2)) (kvc_ite (kvc_ite (kvc_bindv (kvc_st (KEC.of rfl rfl) (krc_f_X12_fail N σ 4 x4)) (fun p23 => (kvc_st (KEC.of rfl rfl) (hK p23 x1 x2 x4 (x5 + (-1)))))) (kvc_st (KEC.of rfl rfl) (hK σ x1 x2 x4 (x5 + (-1))))) (kvc_st (KEC.of rfl rfl) (hK σ x1 x2 x4 (x5 + (-1)))))) kvc_none))
theorem krc_f_X12_label_8 (N : Nat) : ∀ (n : Nat) (σ : RS) (y0 : Int32) (y1 : Int64) (y2 : Int32) (y3 : Int32), KVc σ (f_X12_label_8 N n σ y0 y1 y2 y3)
  | 0, _, _, _, _, _ => kvc_none
  | n+1, σ, y0, y1, y2, y3 => krc_b_X12_label_8 N (f_X12_label_8 N n) (fun σ y0 y1 y2 y3 => krc_f_X12_label_8 N n σ y0 y1 y2 y3) σ y0 y1 y2 y3
theorem krc_f_X12_label (N : Nat) (σ : RS) (x1 : Int32) (x2 : Int64) (x4 : Int32) : KVc σ (f_X12_label N σ x1 x2 x4) := by
  unfold f_X12_label
  exact (kvc_st (KEC.of rfl rfl) (krc_f_X12_label_8 N N σ x1 x2 x4 ((σ.i 43) - 1)))
theorem krc_f_X12_got_22 (N : Nat) (σ : RS) (x3 : Int32) : KRc σ (f_X12_got_22 N σ x3) := by
  unfold f_X12_got_22
  exact (krc_bindv (kvc_st (KEC.of rfl rfl) (krc_f_X12_fail N σ 3 x3)) (fun p4 => (krc_some (KEC.of rfl rfl))))
theorem krc_f_X12_got (N : Nat) (σ : RS) (x1 : Int64) (x3 : Int32) : KRc σ (f_X12_got N σ x1 x3) := by
  unfold f_X12_got
  exact (krc_bind (krc_st (KEC.of rfl rfl) (krc_f_X12_seenAs N σ x1)) (fun p1 => (krc_ite (krc_st (KEC.of rfl rfl) (krc_f_X12_got_22 N p1.2 x3)) (krc_ite (krc_ite (krc_some (KEC.of rfl rfl)) (krc_st (KEC.of rfl rfl) (krc_f_X12_got_22 N p1.2 x3))) krc_none))))
theorem krc_f_X12_named_207 (N : Nat) (σ : RS) (x1 : Int32) (x5 : Int32) (x6 : Int32) : KVc σ (f_X12_named_207 N σ x1 x5 x6) := by
  unfold f_X12_named_207
  exact (kvc_bindv (kvc_st (KEC.of rfl rfl) (krc_f_X12_next N σ)) (fun p17 => (kvc_ite (kvc_ite (kvc_bindv (kvc_st (KEC.of rfl rfl) (krc_f_X12_then N (RS.setA p17 66 ((x1 : Int32).toNatClampNeg) x5) 2 16)) (fun p21 => (kvc_some (KEC.of rfl rfl)))) kvc_none) (kvc_bind (krc_st (KEC.of rfl rfl) (krc_f_X12_emit N p17 6 x5)) (fun p23 => (kvc_bind (krc_st (KEC.of rfl rfl) (krc_f_X12_need N p23.2 59)) (fun p25 => (kvc_bindv (kvc_st (KEC.of rfl rfl) (krc_f_X12_over N p25.2 1)) (fun p27 => (kvc_some (KEC.of rfl rfl)))))))))))
theorem krc_f_X12_named_183 (N : Nat) (σ : RS) (x1 : Int32) (x5 : Int32) : KVc σ (f_X12_named_183 N σ x1 x5) := by
  unfold f_X12_named_183
  exact (kvc_bind (krc_st (KEC.of rfl rfl) (krc_f_X12_emit N σ 1 0)) (fun p14 => (kvc_ite (kvc_st (KEC.of rfl rfl) (krc_f_X12_named_207 N p14.2 x1 x5 1)) (kvc_st (KEC.of rfl rfl) (krc_f_X12_named_207 N p14.2 x1 x5 0)))))
theorem krc_f_X12_named (N : Nat) (σ : RS) (x1 : Int32) : KVc σ (f_X12_named N σ x1) := by
  unfold f_X12_named
  exact (kvc_ite (kvc_ite (kvc_ite (kvc_bindv (kvc_st (KEC.of rfl rfl) (krc_f_X12_patch N σ (σ.a 48 (((σ.a 66 ((x1 : Int32).toNatClampNeg)) : Int32).toNatClampNeg)) (σ.i 20))) (fun p45 => (kvc_ite (kvc_ite (kvc_bindv (kvc_st (KEC.of rfl rfl) (krc_f_X12_over N (RS.setI p45 43 ((p45.i 43) - 1)) 0)) (fun p51 => (kvc_some (KEC.of rfl rfl)))) (kvc_bindv (kvc_st (KEC.of rfl rfl) (krc_f_X12_over N (RS.setI p45 43 ((p45.i 43) - 1)) 1)) (fun p53 => (kvc_some (KEC.of rfl rfl))))) (kvc_bindv (kvc_st (KEC.of rfl rfl) (krc_f_X12_over N (RS.setI p45 43 ((p45.i 43) - 1)) 1)) (fun p48 => (kvc_some (KEC.of rfl rfl))))))) kvc_none) (kvc_ite (kvc_bind (krc_st (KEC.of rfl rfl) (krc_f_X12_emit N σ 5 (σ.a 66 ((x1 : Int32).toNatClampNeg)))) (fun p38 => (kvc_bind (krc_st (KEC.of rfl rfl) (krc_f_X12_need N p38.2 59)) (fun p40 => (kvc_bindv (kvc_st (KEC.of rfl rfl) (krc_f_X12_over N p40.2 1)) (fun p42 => (kvc_some (KEC.of rfl rfl)))))))) (kvc_bindv (kvc_st (KEC.of rfl rfl) (krc_f_X12_next N σ)) (fun p4 => (kvc_ite (kvc_bindv (kvc_st (KEC.of rfl rfl) (krc_f_X12_label N p4 x1 σ.l (σ.i 11))) (fun p36 => (kvc_some (KEC.of rfl rfl)))) (kvc_bind (krc_st (KEC.of rfl rfl) (krc_f_X12_got N p4 σ.l (σ.i 11))) (fun p7 => (kvc_ite (kvc_ite (kvc_bind (krc_st (KEC.of rfl rfl) (krc_f_X12_can N p7.2 1)) (fun p11 => (kvc_ite (kvc_some (KEC.of rfl rfl)) (kvc_st (KEC.of rfl rfl) (krc_f_X12_named_183 N p11.2 x1 p7.1))))) (kvc_ite (kvc_bind (krc_st (KEC.of rfl rfl) (krc_f_X12_can N p7.2 1)) (fun p33 => (kvc_ite (kvc_some (KEC.of rfl rfl)) (kvc_st (KEC.of rfl rfl) (krc_f_X12_named_183 N p33.2 x1 p7.1))))) (kvc_bind (krc_st (KEC.of rfl rfl) (krc_f_X12_can N p7.2 0)) (fun p30 => (kvc_ite (kvc_some (KEC.of rfl rfl)) (kvc_st (KEC.of rfl rfl) (krc_f_X12_named_183 N p30.2 x1 p7.1))))))) (kvc_some (KEC.of rfl rfl)))))))))) kvc_none)
theorem krc_b_X12_isInArms_2 (N : Nat) (K : RS → Int32 → Option (Int32 × RS)) (hK : ∀ (σ : RS) (y0 : Int32), KRc σ (K σ y0)) (σ : RS) (x1 : Int32) : KRc σ (b_X12_isInArms_2 N K σ x1) := by
  unfold b_X12_isInArms_2
  exact (krc_ite (krc_some (KEC.of rfl rfl)) (krc_ite (krc_ite (krc_some (KEC.of rfl rfl)) (krc_st (KEC.of rfl rfl) (hK σ (x1 + 1)))) krc_none))
theorem krc_f_X12_isInArms_2 (N : Nat) : ∀ (n : Nat) (σ : RS) (y0 : Int32), KRc σ (f_X12_isInArms_2 N n σ y0)
  | 0, _, _ => krc_none
  | n+1, σ, y0 => krc_b_X12_isInArms_2 N (f_X12_isInArms_2 N n) (fun σ y0 => krc_f_X12_isInArms_2 N n σ y0) σ y0
theorem krc_f_X12_isInArms (N : Nat) (σ : RS) : KRc σ (f_X12_isInArms N σ) := by
  unfold f_X12_isInArms
  exact (krc_st (KEC.of rfl rfl) (krc_f_X12_isInArms_2 N N σ 0))
theorem krc_b_X12_ending_119 (N : Nat) (K : RS → Int32 → Int32 → Int32 → Option (RS)) (hK : ∀ (σ : RS) (y0 : Int32) (y1 : Int32) (y2 : Int32), KVc σ (K σ y0 y1 y2)) (σ : RS) (x1 : Int32) (x2 : Int32) (x3 : Int32) : KVc σ (b_X12_ending_119 N K σ x1 x2 x3) := by
  unfold b_X12_ending_119
  exact (kvc_ite (kvc_bind (krc_st (KEC.of rfl rfl) (krc_f_X12_need N σ 59)) (fun p8 => (kvc_ite (kvc_ite (kvc_bindv (kvc_st (KEC.of rfl rfl) (krc_f_X12_over N p8.2 1)) (fun p14 => (kvc_some (KEC.of rfl rfl)))) (kvc_bindv (kvc_st (KEC.of rfl rfl) (krc_f_X12_over N p8.2 0)) (fun p12 => (kvc_some (KEC.of rfl rfl))))) kvc_none))) (kvc_ite (kvc_ite (kvc_ite (kvc_st (KEC.of rfl rfl) (hK (RS.setA σ 23 ((x2 : Int32).toNatClampNeg) (σ.a 47 ((x3 : Int32).toNatClampNeg))) x1 x2 (x3 + 1))) kvc_none) (kvc_ite (kvc_st (KEC.of rfl rfl) (hK (RS.setA σ 23 ((x2 : Int32).toNatClampNeg) (σ.a 23 ((x2 : Int32).toNatClampNeg))) x1 x2 (x3 + 1))) kvc_none)) kvc_none))
theorem krc_f_X12_ending_119 (N : Nat) : ∀ (n : Nat) (σ : RS) (y0 : Int32) (y1 : Int32) (y2 : Int32), KVc σ (f_X12_ending_119 N n σ y0 y1 y2)
  | 0, _, _, _, _ => kvc_none
  | n+1, σ, y0, y1, y2 => krc_b_X12_ending_119 N (f_X12_ending_119 N n) (fun σ y0 y1 y2 => krc_f_X12_ending_119 N n σ y0 y1 y2) σ y0 y1 y2
theorem krc_f_X12_ending_117 (N : Nat) (σ : RS) (x1 : Int32) (x2 : Int32) : KVc σ (f_X12_ending_117 N σ x1 x2) := by
  unfold f_X12_ending_117
  exact (kvc_st (KEC.of rfl rfl) (krc_f_X12_ending_119 N N σ x1 x2 0))
theorem krc_f_X12_ending_63 (N : Nat) (σ : RS) : KVc σ (f_X12_ending_63 N σ) := by
  unfold f_X12_ending_63
  exact (kvc_bindv (kvc_st (KEC.of rfl rfl) (krc_f_X12_next N σ)) (fun p26 => (kvc_bindv (kvc_st (KEC.of rfl rfl) (krc_f_X12_then N p26 1 16)) (fun p28 => (kvc_some (KEC.of rfl rfl))))))
theorem krc_f_X12_ending_53 (N : Nat) (σ : RS) : KVc σ (f_X12_ending_53 N σ) := by
  unfold f_X12_ending_53
  exact (kvc_bindv (kvc_st (KEC.of rfl rfl) (krc_f_X12_fail N σ 5 (σ.i 11))) (fun p33 => (kvc_some (KEC.of rfl rfl))))
theorem krc_f_X12_ending_36 (N : Nat) (σ : RS) : KVc σ (f_X12_ending_36 N σ) := by
  unfold f_X12_ending_36
  exact (kvc_ite (kvc_bind (krc_st (KEC.of rfl rfl) (krc_f_X12_isInArms N σ)) (fun p30 => (kvc_ite (kvc_st (KEC.of rfl rfl) (krc_f_X12_ending_53 N p30.2)) (kvc_st (KEC.of rfl rfl) (krc_f_X12_ending_63 N p30.2))))) (kvc_st (KEC.of rfl rfl) (krc_f_X12_ending_63 N σ)))
theorem krc_f_X12_ending (N : Nat) (σ : RS) (x1 : Int32) : KVc σ (f_X12_ending N σ x1) := by
  unfold f_X12_ending
  exact (kvc_ite (kvc_ite (kvc_ite (kvc_bind (krc_st (KEC.of rfl rfl) (krc_f_X12_isInArms N (RS.setA σ 66 ((x1 : Int32).toNatClampNeg) (σ.i 10)))) (fun p35 => (kvc_ite (kvc_st (KEC.of rfl rfl) (krc_f_X12_ending_36 N p35.2)) (kvc_st (KEC.of rfl rfl) (krc_f_X12_ending_53 N p35.2))))) (kvc_st (KEC.of rfl rfl) (krc_f_X12_ending_36 N (RS.setA σ 66 ((x1 : Int32).toNatClampNeg) (σ.i 10))))) (kvc_ite (kvc_bind (krc_st (KEC.of rfl rfl) (krc_f_X12_emit N σ 16 0)) (fun p22 => (kvc_st (KEC.of rfl rfl) (krc_f_X12_ending_117 N p22.2 x1 p22.1)))) (kvc_ite (kvc_bind (krc_st (KEC.of rfl rfl) (krc_f_X12_emit N σ 17 0)) (fun p20 => (kvc_st (KEC.of rfl rfl) (krc_f_X12_ending_117 N p20.2 x1 p20.1)))) (kvc_bind (krc_st (KEC.of rfl rfl) (krc_f_X12_emit N σ 18 0)) (fun p5 => (kvc_st (KEC.of rfl rfl) (krc_f_X12_ending_117 N p5.2 x1 p5.1))))))) kvc_none)
theorem krc_f_X12_throwing_142 (N : Nat) (σ : RS) : KVc σ (f_X12_throwing_142 N σ) := by
  unfold f_X12_throwing_142
  exact (kvc_bindv (kvc_st (KEC.of rfl rfl) (krc_f_X12_fail N σ 3 (σ.i 11))) (fun p13 => (kvc_some (KEC.of rfl rfl))))
theorem krc_f_X12_throwing_69 (N : Nat) (σ : RS) (x1 : Int32) : KVc σ (f_X12_throwing_69 N σ x1) := by
  unfold f_X12_throwing_69
  exact (kvc_ite (kvc_ite (kvc_ite (kvc_bindv (kvc_st (KEC.of rfl rfl) (krc_f_X12_next N (RS.setA σ 66 ((x1 : Int32).toNatClampNeg) (σ.i 14)))) (fun p27 => (kvc_bindv (kvc_st (KEC.of rfl rfl) (krc_f_X12_then N p27 1 16)) (fun p29 => (kvc_some (KEC.of rfl rfl)))))) kvc_none) (kvc_bindv (kvc_st (KEC.of rfl rfl) (krc_f_X12_fail N σ 3 (σ.i 11))) (fun p31 => (kvc_some (KEC.of rfl rfl))))) (kvc_bind (krc_st (KEC.of rfl rfl) (krc_f_X12_seenAs N σ σ.l)) (fun p10 => (kvc_ite (kvc_st (KEC.of rfl rfl) (krc_f_X12_throwing_142 N p10.2)) (kvc_ite (kvc_ite (kvc_st (KEC.of rfl rfl) (krc_f_X12_throwing_142 N p10.2)) (kvc_bind (krc_st (KEC.of rfl rfl) (krc_f_X12_emit N p10.2 21 (p10.2.a 40 ((p10.1 : Int32).toNatClampNeg)))) (fun p17 => (kvc_bindv (kvc_st (KEC.of rfl rfl) (krc_f_X12_next N p17.2)) (fun p19 => (kvc_bind (krc_st (KEC.of rfl rfl) (krc_f_X12_need N p19 59)) (fun p21 => (kvc_bindv (kvc_st (KEC.of rfl rfl) (krc_f_X12_over N p21.2 0)) (fun p23 => (kvc_some (KEC.of rfl rfl))))))))))) kvc_none)))))
theorem krc_f_X12_throwing (N : Nat) (σ : RS) (x1 : Int32) : KVc σ (f_X12_throwing N σ x1) := by
  unfold f_X12_throwing
  exact (kvc_ite (kvc_ite (kvc_bind (krc_st (KEC.of rfl rfl) (krc_f_X12_emit N σ 19 (σ.a 66 ((x1 : Int32).toNatClampNeg)))) (fun p40 => (kvc_bind (krc_st (KEC.of rfl rfl) (krc_f_X12_need N p40.2 59)) (fun p42 => (kvc_bindv (kvc_st (KEC.of rfl rfl) (krc_f_X12_over N p42.2 0)) (fun p44 => (kvc_some (KEC.of rfl rfl)))))))) (kvc_bindv (kvc_st (KEC.of rfl rfl) (krc_f_X12_next N σ)) (fun p3 => (kvc_ite (kvc_bind (krc_st (KEC.of rfl rfl) (krc_f_X12_can N p3 1)) (fun p6 => (kvc_ite (kvc_some (KEC.of rfl rfl)) (kvc_st (KEC.of rfl rfl) (krc_f_X12_throwing_69 N p6.2 x1))))) (kvc_ite (kvc_bind (krc_st (KEC.of rfl rfl) (krc_f_X12_can N p3 1)) (fun p37 => (kvc_ite (kvc_some (KEC.of rfl rfl)) (kvc_st (KEC.of rfl rfl) (krc_f_X12_throwing_69 N p37.2 x1))))) (kvc_bind (krc_st (KEC.of rfl rfl) (krc_f_X12_can N p3 0)) (fun p34 => (kvc_ite (kvc_some (KEC.of rfl rfl)) (kvc_st (KEC.of rfl rfl) (krc_f_X12_throwing_69 N p34.2 x1)))))))))) kvc_none)
theorem krc_f_X12_asserted (N : Nat) (σ : RS) (x1 : Int32) : KVc σ (f_X12_asserted N σ x1) := by
  unfold f_X12_asserted
  exact (kvc_ite (kvc_ite (kvc_bindv (kvc_st (KEC.of rfl rfl) (krc_f_X12_next N σ)) (fun p3 => (kvc_bind (krc_st (KEC.of rfl rfl) (krc_f_X12_emit N p3 22 0)) (fun p5 => (kvc_bindv (kvc_st (KEC.of rfl rfl) (krc_f_X12_then N (RS.setA p5.2 66 ((x1 : Int32).toNatClampNeg) p5.1) 1 20)) (fun p7 => (kvc_some (KEC.of rfl rfl)))))))) (kvc_ite (kvc_bind (krc_st (KEC.of rfl rfl) (krc_f_X12_emit N σ 14 0)) (fun p10 => (kvc_ite (kvc_bindv (kvc_st (KEC.of rfl rfl) (krc_f_X12_next N (RS.setA p10.2 67 ((x1 : Int32).toNatClampNeg) p10.1))) (fun p15 => (kvc_bindv (kvc_st (KEC.of rfl rfl) (krc_f_X12_then N p15 2 16)) (fun p17 => (kvc_some (KEC.of rfl rfl)))))) (kvc_bind (krc_st (KEC.of rfl rfl) (krc_f_X12_emit N (RS.setA p10.2 67 ((x1 : Int32).toNatClampNeg) p10.1) 2 0)) (fun p13 => (kvc_some (KEC.of rfl rfl))))))) (kvc_bind (krc_st (KEC.of rfl rfl) (krc_f_X12_emit N σ 19 3)) (fun p19 => (kvc_ite (kvc_ite (kvc_bind (krc_st (KEC.of rfl rfl) (krc_f_X12_need N (RS.setA (RS.setA p19.2 22 (((p19.2.a 66 ((x1 : Int32).toNatClampNeg)) : Int32).toNatClampNeg) (p19.2.i 20)) 22 (((p19.2.a 67 ((x1 : Int32).toNatClampNeg)) : Int32).toNatClampNeg) (p19.2.i 20)) 59)) (fun p23 => (kvc_bindv (kvc_st (KEC.of rfl rfl) (krc_f_X12_over N p23.2 1)) (fun p25 => (kvc_some (KEC.of rfl rfl)))))) kvc_none) kvc_none))))) kvc_none)
theorem krc_f_X12_branch_113 (N : Nat) (σ : RS) (x1 : Int32) : KVc σ (f_X12_branch_113 N σ x1) := by
  unfold f_X12_branch_113
  exact (kvc_bind (krc_st (KEC.of rfl rfl) (krc_f_X12_emit N σ 15 0)) (fun p24 => (kvc_ite (kvc_ite (kvc_bindv (kvc_st (KEC.of rfl rfl) (krc_f_X12_body N (RS.setA (RS.setA p24.2 68 ((x1 : Int32).toNatClampNeg) p24.1) 22 (((p24.2.a 66 ((x1 : Int32).toNatClampNeg)) : Int32).toNatClampNeg) (p24.2.i 20)) 3)) (fun p28 => (kvc_some (KEC.of rfl rfl)))) kvc_none) kvc_none)))
theorem krc_f_X12_branch (N : Nat) (σ : RS) (x1 : Int32) : KVc σ (f_X12_branch N σ x1) := by
  unfold f_X12_branch
  exact (kvc_ite (kvc_ite (kvc_bindv (kvc_st (KEC.of rfl rfl) (krc_f_X12_next N σ)) (fun p3 => (kvc_bind (krc_st (KEC.of rfl rfl) (krc_f_X12_open N p3 40)) (fun p5 => (kvc_bindv (kvc_st (KEC.of rfl rfl) (krc_f_X12_then N p5.2 1 20)) (fun p7 => (kvc_some (KEC.of rfl rfl)))))))) (kvc_ite (kvc_bind (krc_st (KEC.of rfl rfl) (krc_f_X12_shut N σ 41)) (fun p10 => (kvc_bind (krc_st (KEC.of rfl rfl) (krc_f_X12_emit N p10.2 13 0)) (fun p12 => (kvc_bindv (kvc_st (KEC.of rfl rfl) (krc_f_X12_body N (RS.setA p12.2 66 ((x1 : Int32).toNatClampNeg) p12.1) 2)) (fun p14 => (kvc_some (KEC.of rfl rfl)))))))) (kvc_ite (kvc_ite (kvc_bindv (kvc_st (KEC.of rfl rfl) (krc_f_X12_next N σ)) (fun p21 => (kvc_ite (kvc_st (KEC.of rfl rfl) (krc_f_X12_branch_113 N (RS.setA p21 67 ((x1 : Int32).toNatClampNeg) 0) x1)) (kvc_st (KEC.of rfl rfl) (krc_f_X12_branch_113 N (RS.setA p21 67 ((x1 : Int32).toNatClampNeg) 1) x1))))) (kvc_ite (kvc_bindv (kvc_st (KEC.of rfl rfl) (krc_f_X12_over N (RS.setA σ 22 (((σ.a 66 ((x1 : Int32).toNatClampNeg)) : Int32).toNatClampNeg) (σ.i 20)) 1)) (fun p19 => (kvc_some (KEC.of rfl rfl)))) kvc_none)) (kvc_ite (kvc_ite (kvc_ite (kvc_bindv (kvc_st (KEC.of rfl rfl) (krc_f_X12_over N (RS.setA σ 22 (((σ.a 68 ((x1 : Int32).toNatClampNeg)) : Int32).toNatClampNeg) (σ.i 20)) 1)) (fun p37 => (kvc_some (KEC.of rfl rfl)))) (kvc_bindv (kvc_st (KEC.of rfl rfl) (krc_f_X12_over N (RS.setA σ 22 (((σ.a 68 ((x1 : Int32).toNatClampNeg)) : Int32).toNatClampNeg) (σ.i 20)) 0)) (fun p35 => (kvc_some (KEC.of rfl rfl))))) (kvc_bindv (kvc_st (KEC.of rfl rfl) (krc_f_X12_over N (RS.setA σ 22 (((σ.a 68 ((x1 : Int32).toNatClampNeg)) : Int32).toNatClampNeg) (σ.i 20)) 1)) (fun p32 => (kvc_some (KEC.of rfl rfl))))) kvc_none)))) kvc_none)
theorem krc_f_X12_isJustTrue_18 (N : Nat) (σ : RS) : KRc σ (f_X12_isJustTrue_18 N σ) := by
  unfold f_X12_isJustTrue_18
  exact (krc_some (KEC.of rfl rfl))
theorem krc_f_X12_isJustTrue (N : Nat) (σ : RS) (x1 : Int32) : KRc σ (f_X12_isJustTrue N σ x1) := by
  unfold f_X12_isJustTrue
  exact (krc_ite (krc_st (KEC.of rfl rfl) (krc_f_X12_isJustTrue_18 N σ)) (krc_ite (krc_some (KEC.of rfl rfl)) (krc_st (KEC.of rfl rfl) (krc_f_X12_isJustTrue_18 N σ))))
theorem krc_f_X12_whiles_77 (N : Nat) (σ : RS) : KVc σ (f_X12_whiles_77 N σ) := by
  unfold f_X12_whiles_77
  exact (kvc_bindv (kvc_st (KEC.of rfl rfl) (krc_f_X12_then N σ 1 20)) (fun p8 => (kvc_some (KEC.of rfl rfl))))
theorem krc_f_X12_whiles_111 (N : Nat) (σ : RS) (x1 : Int32) : KVc σ (f_X12_whiles_111 N σ x1) := by
  unfold f_X12_whiles_111
  exact (kvc_bind (krc_st (KEC.of rfl rfl) (krc_f_X12_shut N σ 41)) (fun p14 => (kvc_bind (krc_st (KEC.of rfl rfl) (krc_f_X12_emit N p14.2 13 0)) (fun p16 => (kvc_ite (kvc_bind (krc_st (KEC.of rfl rfl) (krc_f_X12_emit N (RS.setA p16.2 67 ((x1 : Int32).toNatClampNeg) p16.1) 1 0)) (fun p19 => (kvc_bind (krc_st (KEC.of rfl rfl) (krc_f_X12_loopGoal N p19.2)) (fun p21 => (kvc_bindv (kvc_st (KEC.of rfl rfl) (krc_f_X12_body N (RS.setA p21.2 68 ((x1 : Int32).toNatClampNeg) p21.1) 2)) (fun p23 => (kvc_some (KEC.of rfl rfl)))))))) kvc_none)))))
theorem krc_f_X12_whiles (N : Nat) (σ : RS) (x1 : Int32) : KVc σ (f_X12_whiles N σ x1) := by
  unfold f_X12_whiles
  exact (kvc_ite (kvc_ite (kvc_bindv (kvc_st (KEC.of rfl rfl) (krc_f_X12_next N σ)) (fun p3 => (kvc_bind (krc_st (KEC.of rfl rfl) (krc_f_X12_open N (RS.setA p3 66 ((x1 : Int32).toNatClampNeg) (p3.i 20)) 40)) (fun p5 => (kvc_ite (kvc_st (KEC.of rfl rfl) (krc_f_X12_whiles_77 N (RS.setA p5.2 69 ((x1 : Int32).toNatClampNeg) (p5.2.i 17)))) (kvc_st (KEC.of rfl rfl) (krc_f_X12_whiles_77 N (RS.setA p5.2 69 ((x1 : Int32).toNatClampNeg) 0)))))))) (kvc_ite (kvc_bind (krc_st (KEC.of rfl rfl) (krc_f_X12_isJustTrue N σ (σ.a 69 ((x1 : Int32).toNatClampNeg)))) (fun p11 => (kvc_ite (kvc_st (KEC.of rfl rfl) (krc_f_X12_whiles_111 N (RS.setA p11.2 71 ((x1 : Int32).toNatClampNeg) 0) x1)) (kvc_st (KEC.of rfl rfl) (krc_f_X12_whiles_111 N (RS.setA p11.2 71 ((x1 : Int32).toNatClampNeg) 1) x1))))) (kvc_ite (kvc_bindv (kvc_st (KEC.of rfl rfl) (krc_f_X12_patch N σ (σ.a 49 (((σ.a 68 ((x1 : Int32).toNatClampNeg)) : Int32).toNatClampNeg)) (σ.a 66 ((x1 : Int32).toNatClampNeg)))) (fun p26 => (kvc_bind (krc_st (KEC.of rfl rfl) (krc_f_X12_emit N p26 15 (p26.a 66 ((x1 : Int32).toNatClampNeg)))) (fun p28 => (kvc_ite (kvc_bindv (kvc_st (KEC.of rfl rfl) (krc_f_X12_patch N (RS.setA p28.2 22 (((p28.2.a 67 ((x1 : Int32).toNatClampNeg)) : Int32).toNatClampNeg) (p28.2.i 20)) (p28.2.a 48 (((σ.a 68 ((x1 : Int32).toNatClampNeg)) : Int32).toNatClampNeg)) (p28.2.i 20))) (fun p31 => (kvc_ite (kvc_bindv (kvc_st (KEC.of rfl rfl) (krc_f_X12_over N (RS.setI p31 43 ((p31.i 43) - 1)) 1)) (fun p34 => (kvc_some (KEC.of rfl rfl)))) (kvc_ite (kvc_bindv (kvc_st (KEC.of rfl rfl) (krc_f_X12_over N (RS.setI p31 43 ((p31.i 43) - 1)) 0)) (fun p37 => (kvc_some (KEC.of rfl rfl)))) (kvc_bindv (kvc_st (KEC.of rfl rfl) (krc_f_X12_over N (RS.setI p31 43 ((p31.i 43) - 1)) 1)) (fun p39 => (kvc_some (KEC.of rfl rfl)))))))) kvc_none))))) kvc_none))) kvc_none)
theorem krc_f_X12_repeats_195 (N : Nat) (σ : RS) : KVc σ (f_X12_repeats_195 N σ) := by
  unfold f_X12_repeats_195
  exact (kvc_bindv (kvc_st (KEC.of rfl rfl) (krc_f_X12_then N σ 2 20)) (fun p26 => (kvc_some (KEC.of rfl rfl))))
theorem krc_f_X12_repeats_134 (N : Nat) (σ : RS) (x1 : Int32) (x2 : Int32) : KVc σ (f_X12_repeats_134 N σ x1 x2) := by
  unfold f_X12_repeats_134
  exact (kvc_ite (kvc_ite (kvc_bind (krc_st (KEC.of rfl rfl) (krc_f_X12_need N (RS.setI (RS.setA σ 70 ((x1 : Int32).toNatClampNeg) (σ.a 48 ((x2 : Int32).toNatClampNeg))) 43 ((σ.i 43) - 1)) 415)) (fun p21 => (kvc_bind (krc_st (KEC.of rfl rfl) (krc_f_X12_open N p21.2 40)) (fun p23 => (kvc_ite (kvc_st (KEC.of rfl rfl) (krc_f_X12_repeats_195 N (RS.setA p23.2 69 ((x1 : Int32).toNatClampNeg) (p23.2.i 17)))) (kvc_st (KEC.of rfl rfl) (krc_f_X12_repeats_195 N (RS.setA p23.2 69 ((x1 : Int32).toNatClampNeg) 0)))))))) kvc_none) kvc_none)
theorem krc_f_X12_repeats_114 (N : Nat) (σ : RS) (x1 : Int32) (x2 : Int32) : KVc σ (f_X12_repeats_114 N σ x1 x2) := by
  unfold f_X12_repeats_114
  exact (kvc_ite (kvc_ite (kvc_ite (kvc_st (KEC.of rfl rfl) (krc_f_X12_repeats_134 N (RS.setA σ 72 ((x1 : Int32).toNatClampNeg) 0) x1 x2)) kvc_none) (kvc_ite (kvc_st (KEC.of rfl rfl) (krc_f_X12_repeats_134 N (RS.setA σ 72 ((x1 : Int32).toNatClampNeg) 1) x1 x2)) kvc_none)) kvc_none)
theorem krc_f_X12_repeats (N : Nat) (σ : RS) (x1 : Int32) : KVc σ (f_X12_repeats N σ x1) := by
  unfold f_X12_repeats
  exact (kvc_ite (kvc_ite (kvc_bindv (kvc_st (KEC.of rfl rfl) (krc_f_X12_next N σ)) (fun p3 => (kvc_bind (krc_st (KEC.of rfl rfl) (krc_f_X12_emit N p3 1 0)) (fun p5 => (kvc_bind (krc_st (KEC.of rfl rfl) (krc_f_X12_loopGoal N (RS.setA p5.2 66 ((x1 : Int32).toNatClampNeg) p5.1))) (fun p7 => (kvc_bindv (kvc_st (KEC.of rfl rfl) (krc_f_X12_body N (RS.setA p7.2 68 ((x1 : Int32).toNatClampNeg) p7.1) 1)) (fun p9 => (kvc_some (KEC.of rfl rfl)))))))))) (kvc_ite (kvc_ite (kvc_bindv (kvc_st (KEC.of rfl rfl) (krc_f_X12_patch N σ (σ.a 49 (((σ.a 68 ((x1 : Int32).toNatClampNeg)) : Int32).toNatClampNeg)) (σ.i 20))) (fun p13 => (kvc_ite (kvc_ite (kvc_st (KEC.of rfl rfl) (krc_f_X12_repeats_114 N (RS.setA p13 67 ((x1 : Int32).toNatClampNeg) 0) x1 (σ.a 68 ((x1 : Int32).toNatClampNeg)))) (kvc_st (KEC.of rfl rfl) (krc_f_X12_repeats_114 N (RS.setA p13 67 ((x1 : Int32).toNatClampNeg) 1) x1 (σ.a 68 ((x1 : Int32).toNatClampNeg))))) (kvc_st (KEC.of rfl rfl) (krc_f_X12_repeats_114 N (RS.setA p13 67 ((x1 : Int32).toNatClampNeg) 1) x1 (σ.a 68 ((x1 : Int32).toNatClampNeg))))))) kvc_none) (kvc_bind (krc_st (KEC.of rfl rfl) (krc_f_X12_isJustTrue N σ (σ.a 69 ((x1 : Int32).toNatClampNeg)))) (fun p30 => (kvc_bind (krc_st (KEC.of rfl rfl) (krc_f_X12_shut N p30.2 41)) (fun p32 => (kvc_bind (krc_st (KEC.of rfl rfl) (krc_f_X12_need N p32.2 59)) (fun p34 => (kvc_bind (krc_st (KEC.of rfl rfl) (krc_f_X12_emit N p34.2 14 (p34.2.a 66 ((x1 : Int32).toNatClampNeg)))) (fun p36 => (kvc_bindv (kvc_st (KEC.of rfl rfl) (krc_f_X12_patch N p36.2 (p36.2.a 70 ((x1 : Int32).toNatClampNeg)) (p36.2.i 20))) (fun p38 => (kvc_ite (kvc_ite (kvc_bindv (kvc_st (KEC.of rfl rfl) (krc_f_X12_over N p38 1)) (fun p47 => (kvc_some (KEC.of rfl rfl)))) (kvc_ite (kvc_bindv (kvc_st (KEC.of rfl rfl) (krc_f_X12_over N p38 1)) (fun p52 => (kvc_some (KEC.of rfl rfl)))) (kvc_bindv (kvc_st (KEC.of rfl rfl) (krc_f_X12_over N p38 0)) (fun p50 => (kvc_some (KEC.of rfl rfl)))))) (kvc_ite (kvc_bindv (kvc_st (KEC.of rfl rfl) (krc_f_X12_over N p38 1)) (fun p44 => (kvc_some (KEC.of rfl rfl)))) (kvc_bindv (kvc_st (KEC.of rfl rfl) (krc_f_X12_over N p38 0)) (fun p42 => (kvc_some (KEC.of rfl rfl)))))))))))))))))) kvc_none)
theorem krc_f_X12_forHead_231 (N : Nat) (σ : RS) (x1 : Int32) : KVc σ (f_X12_forHead_231 N σ x1) := by
  unfold f_X12_forHead_231
  exact (kvc_ite (kvc_some (KEC.of rfl rfl)) kvc_none)
theorem krc_f_X12_forHead_196 (N : Nat) (σ : RS) : KVc σ (f_X12_forHead_196 N σ) := by
  unfold f_X12_forHead_196
  exact (kvc_bindv (kvc_st (KEC.of rfl rfl) (krc_f_X12_next N σ)) (fun p21 => (kvc_bindv (kvc_st (KEC.of rfl rfl) (krc_f_X12_then N p21 2 16)) (fun p23 => (kvc_some (KEC.of rfl rfl))))))
theorem krc_f_X12_forHead_142 (N : Nat) (σ : RS) : KVc σ (f_X12_forHead_142 N σ) := by
  unfold f_X12_forHead_142
  exact (kvc_some (KEC.of rfl rfl))
theorem krc_f_X12_forHead_76 (N : Nat) (σ : RS) (x1 : Int32) (x2 : Int32) : KVc σ (f_X12_forHead_76 N σ x1 x2) := by
  unfold f_X12_forHead_76
  exact (kvc_bindv (kvc_st (KEC.of rfl rfl) (krc_f_X12_next N σ)) (fun p38 => (kvc_ite (kvc_bindv (kvc_st (KEC.of rfl rfl) (krc_f_X12_then N p38 1 16)) (fun p50 => (kvc_st (KEC.of rfl rfl) (krc_f_X12_forHead_142 N p50)))) (kvc_ite (kvc_bindv (kvc_st (KEC.of rfl rfl) (krc_f_X12_next N p38)) (fun p45 => (kvc_bind (krc_st (KEC.of rfl rfl) (krc_f_X12_emit N p45 20 1)) (fun p47 => (kvc_ite (kvc_st (KEC.of rfl rfl) (krc_f_X12_forHead_142 N (RS.setA p47.2 65 ((x1 : Int32).toNatClampNeg) 12))) kvc_none))))) (kvc_ite (kvc_bindv (kvc_st (KEC.of rfl rfl) (krc_f_X12_then N (RS.setA p38 68 ((x1 : Int32).toNatClampNeg) 0) 10 16)) (fun p43 => (kvc_st (KEC.of rfl rfl) (krc_f_X12_forHead_142 N p43)))) kvc_none)))))
theorem krc_f_X12_forHead_61 (N : Nat) (σ : RS) (x1 : Int32) : KVc σ (f_X12_forHead_61 N σ x1) := by
  unfold f_X12_forHead_61
  exact (kvc_ite (kvc_st (KEC.of rfl rfl) (krc_f_X12_forHead_76 N σ x1 1)) (kvc_st (KEC.of rfl rfl) (krc_f_X12_forHead_76 N σ x1 0)))
theorem krc_f_X12_forHead (N : Nat) (σ : RS) (x1 : Int32) : KVc σ (f_X12_forHead N σ x1) := by
  unfold f_X12_forHead
  exact (kvc_ite (kvc_ite (kvc_bindv (kvc_st (KEC.of rfl rfl) (krc_f_X12_next N σ)) (fun p28 => (kvc_bind (krc_st (KEC.of rfl rfl) (krc_f_X12_telling N p28 x1)) (fun p30 => (kvc_ite (kvc_some (KEC.of rfl rfl)) (kvc_ite (kvc_bind (krc_st (KEC.of rfl rfl) (krc_f_X12_can N p30.2 1)) (fun p34 => (kvc_ite (kvc_some (KEC.of rfl rfl)) (kvc_st (KEC.of rfl rfl) (krc_f_X12_forHead_61 N p34.2 x1))))) (kvc_ite (kvc_bind (krc_st (KEC.of rfl rfl) (krc_f_X12_can N p30.2 1)) (fun p56 => (kvc_ite (kvc_some (KEC.of rfl rfl)) (kvc_st (KEC.of rfl rfl) (krc_f_X12_forHead_61 N p56.2 x1))))) (kvc_bind (krc_st (KEC.of rfl rfl) (krc_f_X12_can N p30.2 0)) (fun p53 => (kvc_ite (kvc_some (KEC.of rfl rfl)) (kvc_st (KEC.of rfl rfl) (krc_f_X12_forHead_61 N p53.2 x1)))))))))))) (kvc_ite (kvc_bind (krc_st (KEC.of rfl rfl) (krc_f_X12_got N σ σ.l (σ.i 11))) (fun p12 => (kvc_ite (kvc_bindv (kvc_st (KEC.of rfl rfl) (krc_f_X12_next N (RS.setA p12.2 66 ((x1 : Int32).toNatClampNeg) p12.1))) (fun p15 => (kvc_ite (kvc_bind (krc_st (KEC.of rfl rfl) (krc_f_X12_can N p15 1)) (fun p25 => (kvc_ite (kvc_some (KEC.of rfl rfl)) (kvc_st (KEC.of rfl rfl) (krc_f_X12_forHead_196 N p25.2))))) (kvc_bind (krc_st (KEC.of rfl rfl) (krc_f_X12_can N p15 0)) (fun p18 => (kvc_ite (kvc_some (KEC.of rfl rfl)) (kvc_st (KEC.of rfl rfl) (krc_f_X12_forHead_196 N p18.2)))))))) kvc_none))) (kvc_ite (kvc_bind (krc_st (KEC.of rfl rfl) (krc_f_X12_can N σ 1)) (fun p9 => (kvc_ite (kvc_some (KEC.of rfl rfl)) (kvc_st (KEC.of rfl rfl) (krc_f_X12_forHead_231 N p9.2 x1))))) (kvc_bind (krc_st (KEC.of rfl rfl) (krc_f_X12_can N σ 0)) (fun p5 => (kvc_ite (kvc_some (KEC.of rfl rfl)) (kvc_st (KEC.of rfl rfl) (krc_f_X12_forHead_231 N p5.2 x1)))))))) (kvc_some (KEC.of rfl rfl)))
theorem krc_f_X12_forBehind_59 (N : Nat) (σ : RS) (x1 : Int32) : KVc σ (f_X12_forBehind_59 N σ x1) := by
  unfold f_X12_forBehind_59
  exact (kvc_ite (kvc_some (KEC.of rfl rfl)) kvc_none)
theorem krc_f_X12_forBehind_159 (N : Nat) (σ : RS) (x1 : Int32) (x2 : Int32) : KVc σ (f_X12_forBehind_159 N σ x1 x2) := by
  unfold f_X12_forBehind_159
  exact (kvc_bindv (kvc_st (KEC.of rfl rfl) (krc_f_X12_next N σ)) (fun p25 => (kvc_ite (kvc_bindv (kvc_st (KEC.of rfl rfl) (krc_f_X12_then N p25 6 16)) (fun p28 => (kvc_some (KEC.of rfl rfl)))) (kvc_ite (kvc_bind (krc_st (KEC.of rfl rfl) (krc_f_X12_emit N p25 6 (p25.a 73 ((x1 : Int32).toNatClampNeg)))) (fun p31 => (kvc_some (KEC.of rfl rfl)))) kvc_none))))
theorem krc_f_X12_forBehind_143 (N : Nat) (σ : RS) (x1 : Int32) : KVc σ (f_X12_forBehind_143 N σ x1) := by
  unfold f_X12_forBehind_143
  exact (kvc_ite (kvc_st (KEC.of rfl rfl) (krc_f_X12_forBehind_159 N σ x1 1)) (kvc_st (KEC.of rfl rfl) (krc_f_X12_forBehind_159 N σ x1 0)))
theorem krc_f_X12_forBehind_89 (N : Nat) (σ : RS) (x1 : Int32) : KVc σ (f_X12_forBehind_89 N σ x1) := by
  unfold f_X12_forBehind_89
  exact (kvc_bind (krc_st (KEC.of rfl rfl) (krc_f_X12_got N σ σ.l (σ.i 11))) (fun p15 => (kvc_ite (kvc_bindv (kvc_st (KEC.of rfl rfl) (krc_f_X12_next N (RS.setA p15.2 73 ((x1 : Int32).toNatClampNeg) p15.1))) (fun p18 => (kvc_ite (kvc_bind (krc_st (KEC.of rfl rfl) (krc_f_X12_can N p18 1)) (fun p21 => (kvc_ite (kvc_some (KEC.of rfl rfl)) (kvc_st (KEC.of rfl rfl) (krc_f_X12_forBehind_143 N p21.2 x1))))) (kvc_ite (kvc_bind (krc_st (KEC.of rfl rfl) (krc_f_X12_can N p18 1)) (fun p37 => (kvc_ite (kvc_some (KEC.of rfl rfl)) (kvc_st (KEC.of rfl rfl) (krc_f_X12_forBehind_143 N p37.2 x1))))) (kvc_bind (krc_st (KEC.of rfl rfl) (krc_f_X12_can N p18 0)) (fun p34 => (kvc_ite (kvc_some (KEC.of rfl rfl)) (kvc_st (KEC.of rfl rfl) (krc_f_X12_forBehind_143 N p34.2 x1))))))))) kvc_none)))
theorem krc_f_X12_forBehind (N : Nat) (σ : RS) (x1 : Int32) : KVc σ (f_X12_forBehind N σ x1) := by
  unfold f_X12_forBehind
  exact (kvc_bind (krc_st (KEC.of rfl rfl) (krc_f_X12_need N σ 59)) (fun p1 => (kvc_bind (krc_st (KEC.of rfl rfl) (krc_f_X12_emit N p1.2 13 0)) (fun p3 => (kvc_ite (kvc_bind (krc_st (KEC.of rfl rfl) (krc_f_X12_emit N (RS.setA p3.2 67 ((x1 : Int32).toNatClampNeg) p3.1) 15 0)) (fun p6 => (kvc_ite (kvc_ite (kvc_st (KEC.of rfl rfl) (krc_f_X12_forBehind_59 N (RS.setA (RS.setA p6.2 68 ((x1 : Int32).toNatClampNeg) p6.1) 70 ((x1 : Int32).toNatClampNeg) (p6.2.i 20)) x1)) (kvc_ite (kvc_bind (krc_st (KEC.of rfl rfl) (krc_f_X12_can N (RS.setA (RS.setA p6.2 68 ((x1 : Int32).toNatClampNeg) p6.1) 70 ((x1 : Int32).toNatClampNeg) (p6.2.i 20)) 1)) (fun p40 => (kvc_ite (kvc_some (KEC.of rfl rfl)) (kvc_st (KEC.of rfl rfl) (krc_f_X12_forBehind_89 N p40.2 x1))))) (kvc_bind (krc_st (KEC.of rfl rfl) (krc_f_X12_can N (RS.setA (RS.setA p6.2 68 ((x1 : Int32).toNatClampNeg) p6.1) 70 ((x1 : Int32).toNatClampNeg) (p6.2.i 20)) 0)) (fun p12 => (kvc_ite (kvc_some (KEC.of rfl rfl)) (kvc_st (KEC.of rfl rfl) (krc_f_X12_forBehind_89 N p12.2 x1))))))) (kvc_st (KEC.of rfl rfl) (krc_f_X12_forBehind_59 N (RS.setA (RS.setA p6.2 68 ((x1 : Int32).toNatClampNeg) p6.1) 70 ((x1 : Int32).toNatClampNeg) (p6.2.i 20)) x1))))) kvc_none)))))
theorem krc_f_X12_rows (N : Nat) (σ : RS) (x1 : Int32) : KVc σ (f_X12_rows N σ x1) := by
  unfold f_X12_rows
  exact (kvc_ite (kvc_ite (kvc_ite (kvc_bindv (kvc_st (KEC.of rfl rfl) (krc_f_X12_next N (RS.setA σ 68 ((x1 : Int32).toNatClampNeg) ((σ.a 68 ((x1 : Int32).toNatClampNeg)) + 1)))) (fun p30 => (kvc_bindv (kvc_st (KEC.of rfl rfl) (krc_f_X12_then N p30 10 16)) (fun p32 => (kvc_some (KEC.of rfl rfl)))))) (kvc_bind (krc_st (KEC.of rfl rfl) (krc_f_X12_emit N (RS.setA σ 68 ((x1 : Int32).toNatClampNeg) ((σ.a 68 ((x1 : Int32).toNatClampNeg)) + 1)) 23 ((upd (σ.a 68) ((x1 : Int32).toNatClampNeg) ((σ.a 68 ((x1 : Int32).toNatClampNeg)) + 1)) ((x1 : Int32).toNatClampNeg)))) (fun p28 => (kvc_some (KEC.of rfl rfl))))) (kvc_ite (kvc_bind (krc_st (KEC.of rfl rfl) (krc_f_X12_see N σ (σ.b 74 ((x1 : Int32).toNatClampNeg)) 0)) (fun p16 => (kvc_bind (krc_st (KEC.of rfl rfl) (krc_f_X12_shut N p16.2 41)) (fun p18 => (kvc_bind (krc_st (KEC.of rfl rfl) (krc_f_X12_emit N (RS.setI p18.2 52 ((p18.2.i 52) + 1)) 24 0)) (fun p20 => (kvc_ite (kvc_bind (krc_st (KEC.of rfl rfl) (krc_f_X12_loopGoal N (RS.setA (RS.setA p20.2 66 ((x1 : Int32).toNatClampNeg) p20.1) 23 ((((upd (p20.2.a 66) ((x1 : Int32).toNatClampNeg) p20.1) ((x1 : Int32).toNatClampNeg)) : Int32).toNatClampNeg) p16.1))) (fun p23 => (kvc_bindv (kvc_st (KEC.of rfl rfl) (krc_f_X12_body N (RS.setA p23.2 73 ((x1 : Int32).toNatClampNeg) p23.1) 13)) (fun p25 => (kvc_some (KEC.of rfl rfl)))))) kvc_none))))))) (kvc_ite (kvc_bindv (kvc_st (KEC.of rfl rfl) (krc_f_X12_patch N σ (σ.a 49 (((σ.a 73 ((x1 : Int32).toNatClampNeg)) : Int32).toNatClampNeg)) (σ.a 66 ((x1 : Int32).toNatClampNeg)))) (fun p5 => (kvc_bind (krc_st (KEC.of rfl rfl) (krc_f_X12_emit N p5 15 (p5.a 66 ((x1 : Int32).toNatClampNeg)))) (fun p7 => (kvc_ite (kvc_bindv (kvc_st (KEC.of rfl rfl) (krc_f_X12_patch N (RS.setA p7.2 22 (((p7.2.a 66 ((x1 : Int32).toNatClampNeg)) : Int32).toNatClampNeg) (p7.2.i 20)) (p7.2.a 48 (((σ.a 73 ((x1 : Int32).toNatClampNeg)) : Int32).toNatClampNeg)) (p7.2.i 20))) (fun p10 => (kvc_bind (krc_st (KEC.of rfl rfl) (krc_f_X12_emit N p10 25 0)) (fun p12 => (kvc_bindv (kvc_st (KEC.of rfl rfl) (krc_f_X12_over N (RS.setI (RS.setI (RS.setI p12.2 52 ((p12.2.i 52) - 1)) 43 ((p12.2.i 43) - 1)) 38 (p12.2.a 71 ((x1 : Int32).toNatClampNeg))) 1)) (fun p14 => (kvc_some (KEC.of rfl rfl)))))))) kvc_none))))) kvc_none))) kvc_none)
theorem krc_f_X12_fors_195 (N : Nat) (σ : RS) (x1 : Int32) : KVc σ (f_X12_fors_195 N σ x1) := by
  unfold f_X12_fors_195
  exact (kvc_ite (kvc_bind (krc_st (KEC.of rfl rfl) (krc_f_X12_emit N σ 2 1)) (fun p26 => (kvc_ite (kvc_some (KEC.of rfl rfl)) kvc_none))) (kvc_bindv (kvc_st (KEC.of rfl rfl) (krc_f_X12_then N σ 4 20)) (fun p24 => (kvc_some (KEC.of rfl rfl)))))
theorem krc_f_X12_fors_175 (N : Nat) (σ : RS) (x1 : Int32) : KVc σ (f_X12_fors_175 N σ x1) := by
  unfold f_X12_fors_175
  exact (kvc_ite (kvc_ite (kvc_st (KEC.of rfl rfl) (krc_f_X12_fors_195 N (RS.setA σ 72 ((x1 : Int32).toNatClampNeg) 1) x1)) kvc_none) (kvc_ite (kvc_st (KEC.of rfl rfl) (krc_f_X12_fors_195 N (RS.setA σ 72 ((x1 : Int32).toNatClampNeg) 0) x1)) kvc_none))
theorem krc_f_X12_fors_255 (N : Nat) (σ : RS) (x1 : Int32) : KVc σ (f_X12_fors_255 N σ x1) := by
  unfold f_X12_fors_255
  exact (kvc_ite (kvc_some (KEC.of rfl rfl)) kvc_none)
theorem krc_f_X12_fors_469 (N : Nat) (σ : RS) : KVc σ (f_X12_fors_469 N σ) := by
  unfold f_X12_fors_469
  exact (kvc_some (KEC.of rfl rfl))
theorem krc_f_X12_fors (N : Nat) (σ : RS) (x1 : Int32) : KVc σ (f_X12_fors N σ x1) := by
  unfold f_X12_fors
  exact (kvc_ite (kvc_ite (kvc_bindv (kvc_st (KEC.of rfl rfl) (krc_f_X12_next N (RS.setA σ 71 ((x1 : Int32).toNatClampNeg) (σ.i 38)))) (fun p3 => (kvc_bind (krc_st (KEC.of rfl rfl) (krc_f_X12_open N p3 40)) (fun p5 => (kvc_bindv (kvc_st (KEC.of rfl rfl) (krc_f_X12_forHead N p5.2 x1)) (fun p7 => (kvc_some (KEC.of rfl rfl)))))))) (kvc_ite (kvc_bind (krc_st (KEC.of rfl rfl) (krc_f_X12_see N σ (σ.b 74 ((x1 : Int32).toNatClampNeg)) 0)) (fun p10 => (kvc_bind (krc_st (KEC.of rfl rfl) (krc_f_X12_emit N p10.2 5 p10.1)) (fun p12 => (kvc_some (KEC.of rfl rfl)))))) (kvc_ite (kvc_bind (krc_st (KEC.of rfl rfl) (krc_f_X12_emit N σ 5 (σ.a 66 ((x1 : Int32).toNatClampNeg)))) (fun p15 => (kvc_some (KEC.of rfl rfl)))) (kvc_ite (kvc_bind (krc_st (KEC.of rfl rfl) (krc_f_X12_need N σ 59)) (fun p18 => (kvc_ite (kvc_st (KEC.of rfl rfl) (krc_f_X12_fors_175 N (RS.setA (RS.setA p18.2 66 ((x1 : Int32).toNatClampNeg) (p18.2.i 20)) 69 ((x1 : Int32).toNatClampNeg) (p18.2.i 17)) x1)) (kvc_st (KEC.of rfl rfl) (krc_f_X12_fors_175 N (RS.setA (RS.setA p18.2 66 ((x1 : Int32).toNatClampNeg) (p18.2.i 20)) 69 ((x1 : Int32).toNatClampNeg) 0) x1))))) (kvc_ite (kvc_bind (krc_st (KEC.of rfl rfl) (krc_f_X12_isJustTrue N σ (σ.a 69 ((x1 : Int32).toNatClampNeg)))) (fun p31 => (kvc_ite (kvc_st (KEC.of rfl rfl) (krc_f_X12_fors_255 N (RS.setA p31.2 72 ((x1 : Int32).toNatClampNeg) 0) x1)) (kvc_st (KEC.of rfl rfl) (krc_f_X12_fors_255 N (RS.setA p31.2 72 ((x1 : Int32).toNatClampNeg) 1) x1))))) (kvc_ite (kvc_bindv (kvc_st (KEC.of rfl rfl) (krc_f_X12_forBehind N σ x1)) (fun p36 => (kvc_some (KEC.of rfl rfl)))) (kvc_ite (kvc_bind (krc_st (KEC.of rfl rfl) (krc_f_X12_emit N σ 5 (σ.a 73 ((x1 : Int32).toNatClampNeg)))) (fun p39 => (kvc_some (KEC.of rfl rfl)))) (kvc_ite (kvc_bind (krc_st (KEC.of rfl rfl) (krc_f_X12_emit N σ 15 (σ.a 66 ((x1 : Int32).toNatClampNeg)))) (fun p42 => (kvc_bind (krc_st (KEC.of rfl rfl) (krc_f_X12_shut N p42.2 41)) (fun p44 => (kvc_ite (kvc_bind (krc_st (KEC.of rfl rfl) (krc_f_X12_emit N (RS.setA p44.2 22 (((p44.2.a 68 ((x1 : Int32).toNatClampNeg)) : Int32).toNatClampNeg) (p44.2.i 20)) 1 0)) (fun p47 => (kvc_bind (krc_st (KEC.of rfl rfl) (krc_f_X12_loopGoal N p47.2)) (fun p49 => (kvc_bindv (kvc_st (KEC.of rfl rfl) (krc_f_X12_body N (RS.setA p49.2 73 ((x1 : Int32).toNatClampNeg) p49.1) 8)) (fun p51 => (kvc_some (KEC.of rfl rfl)))))))) kvc_none))))) (kvc_ite (kvc_ite (kvc_bindv (kvc_st (KEC.of rfl rfl) (krc_f_X12_patch N σ (σ.a 49 (((σ.a 73 ((x1 : Int32).toNatClampNeg)) : Int32).toNatClampNeg)) (σ.a 70 ((x1 : Int32).toNatClampNeg)))) (fun p55 => (kvc_bind (krc_st (KEC.of rfl rfl) (krc_f_X12_emit N p55 15 (p55.a 70 ((x1 : Int32).toNatClampNeg)))) (fun p57 => (kvc_ite (kvc_bindv (kvc_st (KEC.of rfl rfl) (krc_f_X12_patch N (RS.setA p57.2 22 (((p57.2.a 67 ((x1 : Int32).toNatClampNeg)) : Int32).toNatClampNeg) (p57.2.i 20)) (p57.2.a 48 (((σ.a 73 ((x1 : Int32).toNatClampNeg)) : Int32).toNatClampNeg)) (p57.2.i 20))) (fun p60 => (kvc_ite (kvc_bindv (kvc_st (KEC.of rfl rfl) (krc_f_X12_over N (RS.setI (RS.setI p60 43 ((p60.i 43) - 1)) 38 (p60.a 71 ((x1 : Int32).toNatClampNeg))) 1)) (fun p63 => (kvc_st (KEC.of rfl rfl) (krc_f_X12_fors_469 N p63)))) (kvc_ite (kvc_bindv (kvc_st (KEC.of rfl rfl) (krc_f_X12_over N (RS.setI (RS.setI p60 43 ((p60.i 43) - 1)) 38 (p60.a 71 ((x1 : Int32).toNatClampNeg))) 0)) (fun p66 => (kvc_st (KEC.of rfl rfl) (krc_f_X12_fors_469 N p66)))) (kvc_bindv (kvc_st (KEC.of rfl rfl) (krc_f_X12_over N (RS.setI (RS.setI p60 43 ((p60.i 43) - 1)) 38 (p60.a 71 ((x1 : Int32).toNatClampNeg))) 1)) (fun p68 => (kvc_st (KEC.of rfl rfl) (krc_f_X12_fors_469 N p68)))))))) kvc_none))))) kvc_none) (kvc_bindv (kvc_st (KEC.of rfl rfl) (krc_f_X12_rows N σ x1)) (fun p70 => (kvc_some (KEC.of rfl rfl))))))))))))) kvc_none)
theorem krc_f_X12_lock_94 (N : Nat) (σ : RS) : KVc σ (f_X12_lock_94 N σ) := by
  unfold f_X12_lock_94
  exact (kvc_bind (krc_st (KEC.of rfl rfl) (krc_f_X12_shut N σ 41)) (fun p13 => (kvc_bindv (kvc_st (KEC.of rfl rfl) (krc_f_X12_then N (RS.setI p13.2 52 ((p13.2.i 52) + 1)) 1 3)) (fun p15 => (kvc_some (KEC.of rfl rfl))))))
theorem krc_f_X12_lock_90 (N : Nat) (σ : RS) : KVc σ (f_X12_lock_90 N σ) := by
  unfold f_X12_lock_90
  exact (kvc_bindv (kvc_st (KEC.of rfl rfl) (krc_f_X12_next N σ)) (fun p21 => (kvc_st (KEC.of rfl rfl) (krc_f_X12_lock_94 N p21))))
theorem krc_f_X12_lock_50 (N : Nat) (σ : RS) : KVc σ (f_X12_lock_50 N σ) := by
  unfold f_X12_lock_50
  exact (kvc_ite (kvc_bind (krc_st (KEC.of rfl rfl) (krc_f_X12_emit N σ 20 1)) (fun p24 => (kvc_st (KEC.of rfl rfl) (krc_f_X12_lock_90 N p24.2)))) (kvc_bind (krc_st (KEC.of rfl rfl) (krc_f_X12_emit N σ 26 (σ.i 14))) (fun p19 => (kvc_st (KEC.of rfl rfl) (krc_f_X12_lock_90 N p19.2)))))
theorem krc_f_X12_lock (N : Nat) (σ : RS) (x1 : Int32) : KVc σ (f_X12_lock N σ x1) := by
  unfold f_X12_lock
  exact (kvc_ite (kvc_ite (kvc_bindv (kvc_st (KEC.of rfl rfl) (krc_f_X12_next N σ)) (fun p5 => (kvc_bind (krc_st (KEC.of rfl rfl) (krc_f_X12_open N p5 40)) (fun p7 => (kvc_ite (kvc_bind (krc_st (KEC.of rfl rfl) (krc_f_X12_can N p7.2 1)) (fun p10 => (kvc_ite (kvc_st (KEC.of rfl rfl) (krc_f_X12_lock_94 N p10.2)) (kvc_st (KEC.of rfl rfl) (krc_f_X12_lock_50 N p10.2))))) (kvc_ite (kvc_bind (krc_st (KEC.of rfl rfl) (krc_f_X12_can N p7.2 1)) (fun p30 => (kvc_ite (kvc_st (KEC.of rfl rfl) (krc_f_X12_lock_94 N p30.2)) (kvc_st (KEC.of rfl rfl) (krc_f_X12_lock_50 N p30.2))))) (kvc_bind (krc_st (KEC.of rfl rfl) (krc_f_X12_can N p7.2 0)) (fun p27 => (kvc_ite (kvc_st (KEC.of rfl rfl) (krc_f_X12_lock_94 N p27.2)) (kvc_st (KEC.of rfl rfl) (krc_f_X12_lock_50 N p27.2))))))))))) (kvc_bind (krc_st (KEC.of rfl rfl) (krc_f_X12_emit N σ 27 0)) (fun p3 => (kvc_some (KEC.of rfl rfl))))) kvc_none)
theorem krc_f_X12_entry_85 (N : Nat) (σ : RS) (x1 : Int32) : KVc σ (f_X12_entry_85 N σ x1) := by
  unfold f_X12_entry_85
  exact (kvc_ite (kvc_some (KEC.of rfl rfl)) kvc_none)
theorem krc_f_X12_entry (N : Nat) (σ : RS) (x1 : Int32) (x2 : Int32) (x3 : Int32) : KVc σ (f_X12_entry N σ x1 x2 x3) := by
  unfold f_X12_entry
  exact (kvc_ite (kvc_ite (kvc_ite (kvc_ite (kvc_st (KEC.of rfl rfl) (krc_f_X12_entry_85 N (RS.setA (RS.setA (RS.setA (RS.setA (RS.setA σ 25 (((σ.i 24) : Int32).toNatClampNeg) x2) 26 (((σ.i 24) : Int32).toNatClampNeg) (σ.i 20)) 27 (((σ.i 24) : Int32).toNatClampNeg) (-1)) 28 (((σ.i 24) : Int32).toNatClampNeg) (vp_nar .boolean x3)) 27 (((σ.a 67 ((x1 : Int32).toNatClampNeg)) : Int32).toNatClampNeg) (σ.i 24)) x1)) kvc_none) (kvc_ite (kvc_st (KEC.of rfl rfl) (krc_f_X12_entry_85 N (RS.setA (RS.setA (RS.setA (RS.setA (RS.setA σ 25 (((σ.i 24) : Int32).toNatClampNeg) x2) 26 (((σ.i 24) : Int32).toNatClampNeg) (σ.i 20)) 27 (((σ.i 24) : Int32).toNatClampNeg) (-1)) 28 (((σ.i 24) : Int32).toNatClampNeg) (vp_nar .boolean x3)) 22 (((σ.a 66 ((x1 : Int32).toNatClampNeg)) : Int32).toNatClampNeg) (σ.i 24)) x1)) kvc_none)) kvc_none) kvc_none)
theorem krc_f_X12_caseNumber_140 (N : Nat) (σ : RS) : KRc σ (f_X12_caseNumber_140 N σ) := by
  unfold f_X12_caseNumber_140
  exact (krc_ite (krc_some (KEC.of rfl rfl)) (krc_some (KEC.of rfl rfl)))
theorem krc_b_X12_caseNumber_75 (N : Nat) (K : RS → Int32 → Int32 → Int32 → Option (Int32 × RS)) (hK : ∀ (σ : RS) (y0 : Int32) (y1 : Int32) (y2 : Int32), KRc σ (K σ y0 y1 y2)) (σ : RS) (x1 : Int32) (x3 : Int32) (x4 : Int32) : KRc σ (b_X12_caseNumber_75 N K σ x1 x3 x4) := by
  unfold b_X12_caseNumber_75
  exact (krc_ite (krc_ite (krc_bindv (kvc_st (KEC.of rfl rfl) (krc_f_X12_entry N σ x1 x3 0)) (fun p13 => (krc_bindv (kvc_st (KEC.of rfl rfl) (krc_f_X12_next N p13)) (fun p15 => (krc_st (KEC.of rfl rfl) (krc_f_X12_caseNumber_140 N p15)))))) (krc_st (KEC.of rfl rfl) (krc_f_X12_caseNumber_140 N σ))) (krc_ite (krc_ite (krc_ite (krc_bindv (kvc_st (KEC.of rfl rfl) (krc_f_X12_fail N σ 4 (σ.i 11))) (fun p20 => (krc_st (KEC.of rfl rfl) (hK p20 x1 x3 (p20.a 27 ((x4 : Int32).toNatClampNeg)))))) (krc_st (KEC.of rfl rfl) (hK σ x1 x3 (σ.a 27 ((x4 : Int32).toNatClampNeg))))) (krc_st (KEC.of rfl rfl) (hK σ x1 x3 (σ.a 27 ((x4 : Int32).toNatClampNeg))))) krc_none))
theorem krc_f_X12_caseNumber_75 (N : Nat) : ∀ (n : Nat) (σ : RS) (y0 : Int32) (y1 : Int32) (y2 : Int32), KRc σ (f_X12_caseNumber_75 N n σ y0 y1 y2)
  | 0, _, _, _, _ => krc_none
  | n+1, σ, y0, y1, y2 => krc_b_X12_caseNumber_75 N (f_X12_caseNumber_75 N n) (fun σ y0 y1 y2 => krc_f_X12_caseNumber_75 N n σ y0 y1 y2) σ y0 y1 y2
theorem krc_f_X12_caseNumber_62 (N : Nat) (σ : RS) (x1 : Int32) (x3 : Int32) : KRc σ (f_X12_caseNumber_62 N σ x1 x3) := by
  unfold f_X12_caseNumber_62
  exact (krc_ite (krc_ite (krc_st (KEC.of rfl rfl) (krc_f_X12_caseNumber_75 N N σ x1 x3 (σ.a 22 (((σ.a 66 ((x1 : Int32).toNatClampNeg)) : Int32).toNatClampNeg)))) krc_none) krc_none)
theorem krc_f_X12_caseNumber_45 (N : Nat) (σ : RS) (x1 : Int32) (x2 : Int32) : KRc σ (f_X12_caseNumber_45 N σ x1 x2) := by
  unfold f_X12_caseNumber_45
  exact (krc_ite (krc_st (KEC.of rfl rfl) (krc_f_X12_caseNumber_62 N σ x1 (σ.i 14))) (krc_st (KEC.of rfl rfl) (krc_f_X12_caseNumber_62 N σ x1 (-(σ.i 14)))))
theorem krc_f_X12_caseNumber_43 (N : Nat) (σ : RS) : KRc σ (f_X12_caseNumber_43 N σ) := by
  unfold f_X12_caseNumber_43
  exact (krc_some (KEC.of rfl rfl))
theorem krc_f_X12_caseNumber_23 (N : Nat) (σ : RS) (x1 : Int32) (x2 : Int32) : KRc σ (f_X12_caseNumber_23 N σ x1 x2) := by
  unfold f_X12_caseNumber_23
  exact (krc_ite (krc_bind (krc_st (KEC.of rfl rfl) (krc_f_X12_can N σ 1)) (fun p22 => (krc_ite (krc_st (KEC.of rfl rfl) (krc_f_X12_caseNumber_43 N p22.2)) (krc_st (KEC.of rfl rfl) (krc_f_X12_caseNumber_45 N p22.2 x1 x2))))) (krc_bind (krc_st (KEC.of rfl rfl) (krc_f_X12_can N σ 0)) (fun p4 => (krc_ite (krc_st (KEC.of rfl rfl) (krc_f_X12_caseNumber_43 N p4.2)) (krc_st (KEC.of rfl rfl) (krc_f_X12_caseNumber_45 N p4.2 x1 x2))))))
theorem krc_f_X12_caseNumber_15 (N : Nat) (σ : RS) (x1 : Int32) (x2 : Int32) : KRc σ (f_X12_caseNumber_15 N σ x1 x2) := by
  unfold f_X12_caseNumber_15
  exact (krc_ite (krc_st (KEC.of rfl rfl) (krc_f_X12_caseNumber_23 N σ x1 x2)) (krc_bindv (kvc_st (KEC.of rfl rfl) (krc_f_X12_next N σ)) (fun p25 => (krc_st (KEC.of rfl rfl) (krc_f_X12_caseNumber_23 N p25 x1 x2)))))
theorem krc_f_X12_caseNumber (N : Nat) (σ : RS) (x1 : Int32) : KRc σ (f_X12_caseNumber N σ x1) := by
  unfold f_X12_caseNumber
  exact (krc_ite (krc_st (KEC.of rfl rfl) (krc_f_X12_caseNumber_15 N σ x1 1)) (krc_st (KEC.of rfl rfl) (krc_f_X12_caseNumber_15 N σ x1 0)))
theorem krc_f_X12_groups_335 (N : Nat) (σ : RS) : KVc σ (f_X12_groups_335 N σ) := by
  unfold f_X12_groups_335
  exact (kvc_some (KEC.of rfl rfl))
theorem krc_f_X12_groups_356 (N : Nat) (σ : RS) (x1 : Int32) : KVc σ (f_X12_groups_356 N σ x1) := by
  unfold f_X12_groups_356
  exact (kvc_ite (kvc_some (KEC.of rfl rfl)) kvc_none)
theorem krc_f_X12_groups (N : Nat) (σ : RS) (x1 : Int32) : KVc σ (f_X12_groups N σ x1) := by
  unfold f_X12_groups
  exact (kvc_ite (kvc_ite (kvc_bindv (kvc_st (KEC.of rfl rfl) (krc_f_X12_next N σ)) (fun p3 => (kvc_bind (krc_st (KEC.of rfl rfl) (krc_f_X12_open N p3 40)) (fun p5 => (kvc_bindv (kvc_st (KEC.of rfl rfl) (krc_f_X12_then N p5.2 1 16)) (fun p7 => (kvc_some (KEC.of rfl rfl)))))))) (kvc_ite (kvc_bind (krc_st (KEC.of rfl rfl) (krc_f_X12_shut N σ 41)) (fun p10 => (kvc_bind (krc_st (KEC.of rfl rfl) (krc_f_X12_emit N p10.2 28 (-1))) (fun p12 => (kvc_bind (krc_st (KEC.of rfl rfl) (krc_f_X12_goal N (RS.setA (RS.setA (RS.setA (RS.setA (RS.setA p12.2 66 ((x1 : Int32).toNatClampNeg) p12.1) 67 ((x1 : Int32).toNatClampNeg) (-1)) 68 ((x1 : Int32).toNatClampNeg) 0) 70 ((x1 : Int32).toNatClampNeg) 1) 71 ((x1 : Int32).toNatClampNeg) (p12.2.i 38)) 1 0)) (fun p14 => (kvc_bind (krc_st (KEC.of rfl rfl) (krc_f_X12_open N (RS.setA p14.2 72 ((x1 : Int32).toNatClampNeg) p14.1) 123)) (fun p16 => (kvc_some (KEC.of rfl rfl)))))))))) (kvc_ite (kvc_ite (kvc_bindv (kvc_st (KEC.of rfl rfl) (krc_f_X12_next N σ)) (fun p49 => (kvc_bind (krc_st (KEC.of rfl rfl) (krc_f_X12_caseNumber N p49 x1)) (fun p51 => (kvc_ite (kvc_some (KEC.of rfl rfl)) (kvc_bind (krc_st (KEC.of rfl rfl) (krc_f_X12_need N p51.2 58)) (fun p54 => (kvc_bindv (kvc_st (KEC.of rfl rfl) (krc_f_X12_then N p54.2 3 1)) (fun p56 => (kvc_some (KEC.of rfl rfl))))))))))) (kvc_ite (kvc_ite (kvc_bindv (kvc_st (KEC.of rfl rfl) (krc_f_X12_fail N σ 4 (σ.i 11))) (fun p47 => (kvc_some (KEC.of rfl rfl)))) (kvc_bindv (kvc_st (KEC.of rfl rfl) (krc_f_X12_entry N (RS.setA σ 68 ((x1 : Int32).toNatClampNeg) 1) x1 0 1)) (fun p39 => (kvc_bindv (kvc_st (KEC.of rfl rfl) (krc_f_X12_next N p39)) (fun p41 => (kvc_bind (krc_st (KEC.of rfl rfl) (krc_f_X12_need N p41 58)) (fun p43 => (kvc_bindv (kvc_st (KEC.of rfl rfl) (krc_f_X12_then N p43.2 3 1)) (fun p45 => (kvc_some (KEC.of rfl rfl))))))))))) (kvc_bind (krc_st (KEC.of rfl rfl) (krc_f_X12_shut N σ 125)) (fun p21 => (kvc_ite (kvc_ite (kvc_bindv (kvc_st (KEC.of rfl rfl) (krc_f_X12_patch N (RS.setA p21.2 23 (((p21.2.a 66 ((x1 : Int32).toNatClampNeg)) : Int32).toNatClampNeg) (p21.2.i 20)) (p21.2.a 48 (((p21.2.a 72 ((x1 : Int32).toNatClampNeg)) : Int32).toNatClampNeg)) (p21.2.i 20))) (fun p25 => (kvc_ite (kvc_bindv (kvc_st (KEC.of rfl rfl) (krc_f_X12_over N (RS.setI (RS.setI p25 43 ((p25.i 43) - 1)) 38 (p25.a 71 ((x1 : Int32).toNatClampNeg))) 1)) (fun p28 => (kvc_st (KEC.of rfl rfl) (krc_f_X12_groups_335 N p28)))) (kvc_ite (kvc_bindv (kvc_st (KEC.of rfl rfl) (krc_f_X12_over N (RS.setI (RS.setI p25 43 ((p25.i 43) - 1)) 38 (p25.a 71 ((x1 : Int32).toNatClampNeg))) 1)) (fun p31 => (kvc_st (KEC.of rfl rfl) (krc_f_X12_groups_335 N p31)))) (kvc_ite (kvc_bindv (kvc_st (KEC.of rfl rfl) (krc_f_X12_over N (RS.setI (RS.setI p25 43 ((p25.i 43) - 1)) 38 (p25.a 71 ((x1 : Int32).toNatClampNeg))) 0)) (fun p34 => (kvc_st (KEC.of rfl rfl) (krc_f_X12_groups_335 N p34)))) (kvc_bindv (kvc_st (KEC.of rfl rfl) (krc_f_X12_over N (RS.setI (RS.setI p25 43 ((p25.i 43) - 1)) 38 (p25.a 71 ((x1 : Int32).toNatClampNeg))) 1)) (fun p36 => (kvc_st (KEC.of rfl rfl) (krc_f_X12_groups_335 N p36))))))))) kvc_none) kvc_none))))) (kvc_ite (kvc_st (KEC.of rfl rfl) (krc_f_X12_groups_356 N (RS.setA σ 70 ((x1 : Int32).toNatClampNeg) 0) x1)) (kvc_st (KEC.of rfl rfl) (krc_f_X12_groups_356 N (RS.setA σ 70 ((x1 : Int32).toNatClampNeg) 1) x1)))))) kvc_none)
theorem krc_b_X12_catching_323 (N : Nat) (K : RS → Int32 → Int32 → Option (RS)) (hK : ∀ (σ : RS) (y0 : Int32) (y1 : Int32), KVc σ (K σ y0 y1)) (σ : RS) (x4 : Int32) (x5 : Int32) : KVc σ (b_X12_catching_323 N K σ x4 x5) := by
  unfold b_X12_catching_323
  exact (kvc_ite (kvc_bindv (kvc_st (KEC.of rfl rfl) (krc_f_X12_then N σ 3 3)) (fun p20 => (kvc_some (KEC.of rfl rfl)))) (kvc_ite (kvc_st (KEC.of rfl rfl) (hK (RS.setA (RS.setA σ 35 ((x5 : Int32).toNatClampNeg) (σ.i 20)) 36 ((x5 : Int32).toNatClampNeg) x4) x4 (x5 + 1))) kvc_none))
theorem krc_f_X12_catching_323 (N : Nat) : ∀ (n : Nat) (σ : RS) (y0 : Int32) (y1 : Int32), KVc σ (f_X12_catching_323 N n σ y0 y1)
  | 0, _, _, _ => kvc_none
  | n+1, σ, y0, y1 => krc_b_X12_catching_323 N (f_X12_catching_323 N n) (fun σ y0 y1 => krc_f_X12_catching_323 N n σ y0 y1) σ y0 y1
theorem krc_f_X12_catching_277 (N : Nat) (σ : RS) (x2 : Int32) : KVc σ (f_X12_catching_277 N σ x2) := by
  unfold f_X12_catching_277
  exact (kvc_bind (krc_st (KEC.of rfl rfl) (krc_f_X12_seenAs N σ σ.l)) (fun p10 => (kvc_ite (kvc_bind (krc_st (KEC.of rfl rfl) (krc_f_X12_see N p10.2 p10.2.l 1)) (fun p13 => (kvc_bindv (kvc_st (KEC.of rfl rfl) (krc_f_X12_next N p13.2)) (fun p15 => (kvc_bind (krc_st (KEC.of rfl rfl) (krc_f_X12_shut N p15 41)) (fun p17 => (kvc_st (KEC.of rfl rfl) (krc_f_X12_catching_323 N N p17.2 p13.1 x2)))))))) (kvc_bindv (kvc_st (KEC.of rfl rfl) (krc_f_X12_fail N p10.2 4 (p10.2.i 11))) (fun p23 => (kvc_some (KEC.of rfl rfl)))))))
theorem krc_f_X12_catching_256 (N : Nat) (σ : RS) (x2 : Int32) : KVc σ (f_X12_catching_256 N σ x2) := by
  unfold f_X12_catching_256
  exact (kvc_ite (kvc_bind (krc_st (KEC.of rfl rfl) (krc_f_X12_can N σ 1)) (fun p25 => (kvc_ite (kvc_some (KEC.of rfl rfl)) (kvc_st (KEC.of rfl rfl) (krc_f_X12_catching_277 N p25.2 x2))))) (kvc_bind (krc_st (KEC.of rfl rfl) (krc_f_X12_can N σ 0)) (fun p7 => (kvc_ite (kvc_some (KEC.of rfl rfl)) (kvc_st (KEC.of rfl rfl) (krc_f_X12_catching_277 N p7.2 x2))))))
theorem krc_b_X12_catching_82 (N : Nat) (K18 : RS → Int32 → Int32 → Int32 → Option (RS)) (hK18 : ∀ (σ : RS) (y0 : Int32) (y1 : Int32) (y2 : Int32), KVc σ (K18 σ y0 y1 y2)) (K : RS → Int32 → Int32 → Int32 → Option (RS)) (hK : ∀ (σ : RS) (y0 : Int32) (y1 : Int32) (y2 : Int32), KVc σ (K σ y0 y1 y2)) (σ : RS) (x1 : Int32) (x2 : Int32) (x4 : Int32) : KVc σ (b_X12_catching_82 N K18 K σ x1 x2 x4) := by
  unfold b_X12_catching_82
  exact (kvc_ite (kvc_ite (kvc_ite (kvc_ite (kvc_ite (kvc_bindv (kvc_st (KEC.of rfl rfl) (krc_f_X12_next N (RS.setI (RS.setA (RS.setA (RS.setA (RS.setA σ 34 (((σ.i 33) : Int32).toNatClampNeg) (σ.i 14)) 37 (((σ.i 33) : Int32).toNatClampNeg) (-1)) 37 (((σ.a 72 ((x1 : Int32).toNatClampNeg)) : Int32).toNatClampNeg) (σ.i 33)) 72 ((x1 : Int32).toNatClampNeg) (σ.i 33)) 33 ((σ.i 33) + 1)))) (fun p41 => (kvc_ite (kvc_ite (kvc_bindv (kvc_st (KEC.of rfl rfl) (krc_f_X12_next N p41)) (fun p45 => (kvc_st (KEC.of rfl rfl) (hK18 p45 x1 x2 1)))) (kvc_st (KEC.of rfl rfl) (hK18 p41 x1 x2 0))) (kvc_st (KEC.of rfl rfl) (hK18 p41 x1 x2 0))))) kvc_none) (kvc_ite (kvc_bindv (kvc_st (KEC.of rfl rfl) (krc_f_X12_next N (RS.setI (RS.setA (RS.setA (RS.setA (RS.setA σ 34 (((σ.i 33) : Int32).toNatClampNeg) (σ.i 14)) 37 (((σ.i 33) : Int32).toNatClampNeg) (-1)) 30 (((σ.a 66 ((x1 : Int32).toNatClampNeg)) : Int32).toNatClampNeg) (σ.i 33)) 72 ((x1 : Int32).toNatClampNeg) (σ.i 33)) 33 ((σ.i 33) + 1)))) (fun p48 => (kvc_ite (kvc_ite (kvc_bindv (kvc_st (KEC.of rfl rfl) (krc_f_X12_next N p48)) (fun p52 => (kvc_st (KEC.of rfl rfl) (hK18 p52 x1 x2 1)))) (kvc_st (KEC.of rfl rfl) (hK18 p48 x1 x2 0))) (kvc_st (KEC.of rfl rfl) (hK18 p48 x1 x2 0))))) kvc_none)) kvc_none) kvc_none) (kvc_ite (kvc_ite (kvc_bind (krc_st (KEC.of rfl rfl) (krc_f_X12_isUnder N σ (σ.i 14) (σ.a 34 ((x4 : Int32).toNatClampNeg)))) (fun p73 => (kvc_ite (kvc_st (KEC.of rfl rfl) (hK p73.2 x1 x2 (p73.2.a 37 ((x4 : Int32).toNatClampNeg)))) (kvc_bindv (kvc_st (KEC.of rfl rfl) (krc_f_X12_fail N p73.2 6 (p73.2.i 11))) (fun p76 => (kvc_st (KEC.of rfl rfl) (hK p76 x1 x2 (p76.a 37 ((x4 : Int32).toNatClampNeg))))))))) kvc_none) (kvc_ite (kvc_ite (kvc_ite (kvc_ite (kvc_bindv (kvc_st (KEC.of rfl rfl) (krc_f_X12_next N (RS.setI (RS.setA (RS.setA (RS.setA (RS.setA σ 34 (((σ.i 33) : Int32).toNatClampNeg) (σ.i 14)) 37 (((σ.i 33) : Int32).toNatClampNeg) (-1)) 37 (((σ.a 72 ((x1 : Int32).toNatClampNeg)) : Int32).toNatClampNeg) (σ.i 33)) 72 ((x1 : Int32).toNatClampNeg) (σ.i 33)) 33 ((σ.i 33) + 1)))) (fun p59 => (kvc_ite (kvc_ite (kvc_bindv (kvc_st (KEC.of rfl rfl) (krc_f_X12_next N p59)) (fun p63 => (kvc_st (KEC.of rfl rfl) (hK18 p63 x1 x2 1)))) (kvc_st (KEC.of rfl rfl) (hK18 p59 x1 x2 0))) (kvc_st (KEC.of rfl rfl) (hK18 p59 x1 x2 0))))) kvc_none) (kvc_ite (kvc_bindv (kvc_st (KEC.of rfl rfl) (krc_f_X12_next N (RS.setI (RS.setA (RS.setA (RS.setA (RS.setA σ 34 (((σ.i 33) : Int32).toNatClampNeg) (σ.i 14)) 37 (((σ.i 33) : Int32).toNatClampNeg) (-1)) 30 (((σ.a 66 ((x1 : Int32).toNatClampNeg)) : Int32).toNatClampNeg) (σ.i 33)) 72 ((x1 : Int32).toNatClampNeg) (σ.i 33)) 33 ((σ.i 33) + 1)))) (fun p66 => (kvc_ite (kvc_ite (kvc_bindv (kvc_st (KEC.of rfl rfl) (krc_f_X12_next N p66)) (fun p70 => (kvc_st (KEC.of rfl rfl) (hK18 p70 x1 x2 1)))) (kvc_st (KEC.of rfl rfl) (hK18 p66 x1 x2 0))) (kvc_st (KEC.of rfl rfl) (hK18 p66 x1 x2 0))))) kvc_none)) kvc_none) kvc_none)))
theorem krc_f_X12_catching_82 (N : Nat) (K18 : RS → Int32 → Int32 → Int32 → Option (RS)) (hK18 : ∀ (σ : RS) (w0 : Int32) (w1 : Int32) (w2 : Int32), KVc σ (K18 σ w0 w1 w2)) : ∀ (n : Nat) (σ : RS) (y0 : Int32) (y1 : Int32) (y2 : Int32), KVc σ (f_X12_catching_82 N K18 n σ y0 y1 y2)
  | 0, _, _, _, _ => kvc_none
  | n+1, σ, y0, y1, y2 => krc_b_X12_catching_82 N K18 hK18 (f_X12_catching_82 N K18 n) (fun σ y0 y1 y2 => krc_f_X12_catching_82 N K18 hK18 n σ y0 y1 y2) σ y0 y1 y2
theorem krc_b_X12_catching_18 (N : Nat) (K : RS → Int32 → Int32 → Int32 → Option (RS)) (hK : ∀ (σ : RS) (y0 : Int32) (y1 : Int32) (y2 : Int32), KVc σ (K σ y0 y1 y2)) (σ : RS) (x1 : Int32) (x2 : Int32) (x3 : Int32) : KVc σ (b_X12_catching_18 N K σ x1 x2 x3) := by
  unfold b_X12_catching_18
  exact (kvc_ite (kvc_st (KEC.of rfl rfl) (krc_f_X12_catching_256 N σ x2)) (kvc_ite (kvc_ite (kvc_bind (krc_st (KEC.of rfl rfl) (krc_f_X12_can N σ 1)) (fun p82 => (kvc_ite (kvc_st (KEC.of rfl rfl) (hK p82.2 x1 x2 x3)) (kvc_ite (kvc_ite (kvc_ite (kvc_st (KEC.of rfl rfl) (krc_f_X12_catching_82 N K hK N p82.2 x1 x2 (p82.2.a 30 (((p82.2.a 66 ((x1 : Int32).toNatClampNeg)) : Int32).toNatClampNeg)))) kvc_none) kvc_none) (kvc_bindv (kvc_st (KEC.of rfl rfl) (krc_f_X12_fail N p82.2 3 (p82.2.i 11))) (fun p88 => (kvc_ite (kvc_ite (kvc_st (KEC.of rfl rfl) (krc_f_X12_catching_82 N K hK N p88 x1 x2 (p88.a 30 (((p88.a 66 ((x1 : Int32).toNatClampNeg)) : Int32).toNatClampNeg)))) kvc_none) kvc_none))))))) (kvc_bind (krc_st (KEC.of rfl rfl) (krc_f_X12_can N σ 0)) (fun p30 => (kvc_ite (kvc_st (KEC.of rfl rfl) (hK p30.2 x1 x2 x3)) (kvc_ite (kvc_ite (kvc_ite (kvc_st (KEC.of rfl rfl) (krc_f_X12_catching_82 N K hK N p30.2 x1 x2 (p30.2.a 30 (((p30.2.a 66 ((x1 : Int32).toNatClampNeg)) : Int32).toNatClampNeg)))) kvc_none) kvc_none) (kvc_bindv (kvc_st (KEC.of rfl rfl) (krc_f_X12_fail N p30.2 3 (p30.2.i 11))) (fun p78 => (kvc_ite (kvc_ite (kvc_st (KEC.of rfl rfl) (krc_f_X12_catching_82 N K hK N p78 x1 x2 (p78.a 30 (((p78.a 66 ((x1 : Int32).toNatClampNeg)) : Int32).toNatClampNeg)))) kvc_none) kvc_none)))))))) (kvc_st (KEC.of rfl rfl) (krc_f_X12_catching_256 N σ x2))))
theorem krc_f_X12_catching_18 (N : Nat) : ∀ (n : Nat) (σ : RS) (y0 : Int32) (y1 : Int32) (y2 : Int32), KVc σ (f_X12_catching_18 N n σ y0 y1 y2)
  | 0, _, _, _, _ => kvc_none
  | n+1, σ, y0, y1, y2 => krc_b_X12_catching_18 N (f_X12_catching_18 N n) (fun σ y0 y1 y2 => krc_f_X12_catching_18 N n σ y0 y1 y2) σ y0 y1 y2
theorem krc_f_X12_catching (N : Nat) (σ : RS) (x1 : Int32) : KVc σ (f_X12_catching N σ x1) := by
  unfold f_X12_catching
  exact (kvc_bindv (kvc_st (KEC.of rfl rfl) (krc_f_X12_next N σ)) (fun p1 => (kvc_bind (krc_st (KEC.of rfl rfl) (krc_f_X12_open N p1 40)) (fun p3 => (kvc_st (KEC.of rfl rfl) (krc_f_X12_catching_18 N N p3.2 x1 (σ.i 33) 1))))))
theorem krc_f_X12_endTry (N : Nat) (σ : RS) (x1 : Int32) (x2 : Int32) : KVc σ (f_X12_endTry N σ x1 x2) := by
  unfold f_X12_endTry
  exact (kvc_ite (kvc_ite (kvc_bindv (kvc_st (KEC.of rfl rfl) (krc_f_X12_resolve N (RS.setA (RS.setI σ 52 ((σ.i 52) - 1)) 32 (((σ.a 66 ((x1 : Int32).toNatClampNeg)) : Int32).toNatClampNeg) (σ.i 20)) (σ.a 66 ((x1 : Int32).toNatClampNeg)) x2)) (fun p3 => (kvc_ite (kvc_bindv (kvc_st (KEC.of rfl rfl) (krc_f_X12_over N p3 0)) (fun p6 => (kvc_some (KEC.of rfl rfl)))) (kvc_ite (kvc_bindv (kvc_st (KEC.of rfl rfl) (krc_f_X12_over N p3 1)) (fun p11 => (kvc_some (KEC.of rfl rfl)))) (kvc_bindv (kvc_st (KEC.of rfl rfl) (krc_f_X12_over N p3 0)) (fun p9 => (kvc_some (KEC.of rfl rfl)))))))) kvc_none) kvc_none)
theorem krc_f_X12_trying_215 (N : Nat) (σ : RS) (x1 : Int32) : KVc σ (f_X12_trying_215 N σ x1) := by
  unfold f_X12_trying_215
  exact (kvc_ite (kvc_ite (kvc_bindv (kvc_st (KEC.of rfl rfl) (krc_f_X12_then N (RS.setA (RS.setI (RS.setA (RS.setA σ 57 (((σ.i 56) : Int32).toNatClampNeg) (σ.a 66 ((x1 : Int32).toNatClampNeg))) 58 (((σ.i 56) : Int32).toNatClampNeg) (σ.i 43)) 56 ((σ.i 56) + 1)) 72 ((x1 : Int32).toNatClampNeg) (-1)) 1 3)) (fun p13 => (kvc_some (KEC.of rfl rfl)))) kvc_none) kvc_none)
theorem krc_b_X12_trying_140 (N : Nat) (K : RS → Int32 → Int32 → Option (RS)) (hK : ∀ (σ : RS) (y0 : Int32) (y1 : Int32), KVc σ (K σ y0 y1)) (σ : RS) (x1 : Int32) (x2 : Int32) : KVc σ (b_X12_trying_140 N K σ x1 x2) := by
  unfold b_X12_trying_140
  exact (kvc_ite (kvc_st (KEC.of rfl rfl) (krc_f_X12_trying_215 N σ x1)) (kvc_ite (kvc_bindv (kvc_st (KEC.of rfl rfl) (krc_f_X12_next N σ)) (fun p16 => (kvc_ite (kvc_bind (krc_st (KEC.of rfl rfl) (krc_f_X12_can N p16 1)) (fun p30 => (kvc_ite (kvc_ite (kvc_ite (kvc_st (KEC.of rfl rfl) (hK p30.2 x1 1)) (kvc_st (KEC.of rfl rfl) (hK p30.2 x1 0))) (kvc_st (KEC.of rfl rfl) (hK p30.2 x1 0))) (kvc_bind (krc_st (KEC.of rfl rfl) (krc_f_X12_emit N p30.2 32 (p30.2.i 14))) (fun p35 => (kvc_bindv (kvc_st (KEC.of rfl rfl) (krc_f_X12_next N p35.2)) (fun p37 => (kvc_ite (kvc_ite (kvc_st (KEC.of rfl rfl) (hK p37 x1 1)) (kvc_st (KEC.of rfl rfl) (hK p37 x1 0))) (kvc_st (KEC.of rfl rfl) (hK p37 x1 0)))))))))) (kvc_bind (krc_st (KEC.of rfl rfl) (krc_f_X12_can N p16 0)) (fun p19 => (kvc_ite (kvc_ite (kvc_ite (kvc_st (KEC.of rfl rfl) (hK p19.2 x1 1)) (kvc_st (KEC.of rfl rfl) (hK p19.2 x1 0))) (kvc_st (KEC.of rfl rfl) (hK p19.2 x1 0))) (kvc_bind (krc_st (KEC.of rfl rfl) (krc_f_X12_emit N p19.2 32 (p19.2.i 14))) (fun p24 => (kvc_bindv (kvc_st (KEC.of rfl rfl) (krc_f_X12_next N p24.2)) (fun p26 => (kvc_ite (kvc_ite (kvc_st (KEC.of rfl rfl) (hK p26 x1 1)) (kvc_st (KEC.of rfl rfl) (hK p26 x1 0))) (kvc_st (KEC.of rfl rfl) (hK p26 x1 0))))))))))))) (kvc_st (KEC.of rfl rfl) (krc_f_X12_trying_215 N σ x1))))
theorem krc_f_X12_trying_140 (N : Nat) : ∀ (n : Nat) (σ : RS) (y0 : Int32) (y1 : Int32), KVc σ (f_X12_trying_140 N n σ y0 y1)
  | 0, _, _, _ => kvc_none
  | n+1, σ, y0, y1 => krc_b_X12_trying_140 N (f_X12_trying_140 N n) (fun σ y0 y1 => krc_f_X12_trying_140 N n σ y0 y1) σ y0 y1
theorem krc_f_X12_trying_124 (N : Nat) (σ : RS) (x1 : Int32) : KVc σ (f_X12_trying_124 N σ x1) := by
  unfold f_X12_trying_124
  exact (kvc_ite (kvc_st (KEC.of rfl rfl) (krc_f_X12_trying_140 N N σ x1 1)) (kvc_st (KEC.of rfl rfl) (krc_f_X12_trying_140 N N σ x1 0)))
theorem krc_f_X12_trying_287 (N : Nat) (σ : RS) (x1 : Int32) : KVc σ (f_X12_trying_287 N σ x1) := by
  unfold f_X12_trying_287
  exact (kvc_ite (kvc_bind (krc_st (KEC.of rfl rfl) (krc_f_X12_emit N σ 33 (σ.a 66 ((x1 : Int32).toNatClampNeg)))) (fun p44 => (kvc_some (KEC.of rfl rfl)))) kvc_none)
theorem krc_f_X12_trying_417 (N : Nat) (σ : RS) (x1 : Int32) : KVc σ (f_X12_trying_417 N σ x1) := by
  unfold f_X12_trying_417
  exact (kvc_bindv (kvc_st (KEC.of rfl rfl) (krc_f_X12_endTry N (RS.setI σ 56 ((σ.i 56) - 1)) x1 1)) (fun p53 => (kvc_some (KEC.of rfl rfl))))
theorem krc_f_X12_trying_464 (N : Nat) (σ : RS) (x1 : Int32) : KVc σ (f_X12_trying_464 N σ x1) := by
  unfold f_X12_trying_464
  exact (kvc_ite (kvc_bind (krc_st (KEC.of rfl rfl) (krc_f_X12_emit N σ 34 (σ.a 66 ((x1 : Int32).toNatClampNeg)))) (fun p72 => (kvc_some (KEC.of rfl rfl)))) kvc_none)
theorem krc_f_X12_trying (N : Nat) (σ : RS) (x1 : Int32) : KVc σ (f_X12_trying N σ x1) := by
  unfold f_X12_trying
  exact (kvc_ite (kvc_ite (kvc_bindv (kvc_st (KEC.of rfl rfl) (krc_f_X12_next N σ)) (fun p3 => (kvc_ite (kvc_bind (krc_st (KEC.of rfl rfl) (krc_f_X12_emit N (RS.setI (RS.setA (RS.setA (RS.setA p3 66 ((x1 : Int32).toNatClampNeg) (p3.i 29)) 30 (((p3.i 29) : Int32).toNatClampNeg) (-1)) 31 (((p3.i 29) : Int32).toNatClampNeg) (-1)) 29 ((p3.i 29) + 1)) 31 ((upd (p3.a 66) ((x1 : Int32).toNatClampNeg) (p3.i 29)) ((x1 : Int32).toNatClampNeg)))) (fun p6 => (kvc_ite (kvc_st (KEC.of rfl rfl) (krc_f_X12_trying_124 N (RS.setA (RS.setI p6.2 52 ((p6.2.i 52) + 1)) 67 ((x1 : Int32).toNatClampNeg) 1) x1)) (kvc_st (KEC.of rfl rfl) (krc_f_X12_trying_124 N (RS.setA (RS.setI p6.2 52 ((p6.2.i 52) + 1)) 67 ((x1 : Int32).toNatClampNeg) 0) x1))))) kvc_none))) (kvc_ite (kvc_ite (kvc_st (KEC.of rfl rfl) (krc_f_X12_trying_287 N (RS.setA σ 68 ((x1 : Int32).toNatClampNeg) 0) x1)) (kvc_st (KEC.of rfl rfl) (krc_f_X12_trying_287 N (RS.setA σ 68 ((x1 : Int32).toNatClampNeg) 1) x1))) (kvc_ite (kvc_ite (kvc_bindv (kvc_st (KEC.of rfl rfl) (krc_f_X12_catching N (RS.setA σ 71 ((x1 : Int32).toNatClampNeg) (σ.i 38)) x1)) (fun p67 => (kvc_some (KEC.of rfl rfl)))) (kvc_ite (kvc_bindv (kvc_st (KEC.of rfl rfl) (krc_f_X12_next N (RS.setI σ 56 ((σ.i 56) - 1)))) (fun p62 => (kvc_ite (kvc_bindv (kvc_st (KEC.of rfl rfl) (krc_f_X12_then N (RS.setA p62 31 (((p62.a 66 ((x1 : Int32).toNatClampNeg)) : Int32).toNatClampNeg) (p62.i 20)) 4 3)) (fun p65 => (kvc_some (KEC.of rfl rfl)))) kvc_none))) (kvc_ite (kvc_bind (krc_st (KEC.of rfl rfl) (krc_f_X12_can N σ 1)) (fun p50 => (kvc_ite (kvc_some (KEC.of rfl rfl)) (kvc_st (KEC.of rfl rfl) (krc_f_X12_trying_417 N p50.2 x1))))) (kvc_ite (kvc_bind (krc_st (KEC.of rfl rfl) (krc_f_X12_can N σ 0)) (fun p56 => (kvc_ite (kvc_some (KEC.of rfl rfl)) (kvc_st (KEC.of rfl rfl) (krc_f_X12_trying_417 N p56.2 x1))))) (kvc_bind (krc_st (KEC.of rfl rfl) (krc_f_X12_can N σ 1)) (fun p59 => (kvc_ite (kvc_some (KEC.of rfl rfl)) (kvc_st (KEC.of rfl rfl) (krc_f_X12_trying_417 N p59.2 x1))))))))) (kvc_ite (kvc_ite (kvc_ite (kvc_st (KEC.of rfl rfl) (krc_f_X12_trying_464 N (RS.setA σ 68 ((x1 : Int32).toNatClampNeg) 1) x1)) (kvc_st (KEC.of rfl rfl) (krc_f_X12_trying_464 N (RS.setA σ 68 ((x1 : Int32).toNatClampNeg) 0) x1))) (kvc_st (KEC.of rfl rfl) (krc_f_X12_trying_464 N (RS.setA σ 68 ((x1 : Int32).toNatClampNeg) 1) x1))) (kvc_bind (krc_st (KEC.of rfl rfl) (krc_f_X12_emit N σ 35 (σ.a 66 ((x1 : Int32).toNatClampNeg)))) (fun p75 => (kvc_bindv (kvc_st (KEC.of rfl rfl) (krc_f_X12_endTry N p75.2 x1 (p75.2.i 75))) (fun p77 => (kvc_some (KEC.of rfl rfl)))))))))) kvc_none)
theorem krc_f_X12_sums_39 (N : Nat) (σ : RS) (x1 : Int32) (x2 : Int32) (x3 : Int32) : KVc σ (f_X12_sums_39 N σ x1 x2 x3) := by
  unfold f_X12_sums_39
  exact (kvc_ite (kvc_some (KEC.of rfl rfl)) (kvc_ite (kvc_bindv (kvc_st (KEC.of rfl rfl) (krc_f_X12_next N (RS.setA σ 66 ((x1 : Int32).toNatClampNeg) (σ.i 10)))) (fun p6 => (kvc_bindv (kvc_st (KEC.of rfl rfl) (krc_f_X12_then N p6 2 x2)) (fun p8 => (kvc_some (KEC.of rfl rfl)))))) kvc_none))
theorem krc_f_X12_sums (N : Nat) (σ : RS) (x1 : Int32) (x2 : Int32) (x3 : Int32) : KVc σ (f_X12_sums N σ x1 x2 x3) := by
  unfold f_X12_sums
  exact (kvc_ite (kvc_ite (kvc_bindv (kvc_st (KEC.of rfl rfl) (krc_f_X12_then N σ 1 x2)) (fun p12 => (kvc_some (KEC.of rfl rfl)))) (kvc_ite (kvc_bind (krc_st (KEC.of rfl rfl) (krc_f_X12_emit N σ 8 (σ.a 66 ((x1 : Int32).toNatClampNeg)))) (fun p10 => (kvc_st (KEC.of rfl rfl) (krc_f_X12_sums_39 N p10.2 x1 x2 x3)))) (kvc_st (KEC.of rfl rfl) (krc_f_X12_sums_39 N σ x1 x2 x3)))) kvc_none)
theorem krc_f_X12_factor_215 (N : Nat) (σ : RS) : KVc σ (f_X12_factor_215 N σ) := by
  unfold f_X12_factor_215
  exact (kvc_bindv (kvc_st (KEC.of rfl rfl) (krc_f_X12_next N σ)) (fun p31 => (kvc_some (KEC.of rfl rfl))))
theorem krc_f_X12_factor_124 (N : Nat) (σ : RS) (x1 : Int32) : KVc σ (f_X12_factor_124 N σ x1) := by
  unfold f_X12_factor_124
  exact (kvc_ite (kvc_bind (krc_st (KEC.of rfl rfl) (krc_f_X12_emit N σ 2 (σ.i 14))) (fun p37 => (kvc_bindv (kvc_st (KEC.of rfl rfl) (krc_f_X12_next N p37.2)) (fun p39 => (kvc_some (KEC.of rfl rfl)))))) (kvc_ite (kvc_bind (krc_st (KEC.of rfl rfl) (krc_f_X12_seenAs N σ σ.l)) (fun p24 => (kvc_ite (kvc_ite (kvc_ite (kvc_bind (krc_st (KEC.of rfl rfl) (krc_f_X12_emit N p24.2 3 (p24.2.a 40 ((p24.1 : Int32).toNatClampNeg)))) (fun p29 => (kvc_st (KEC.of rfl rfl) (krc_f_X12_factor_215 N p29.2)))) (kvc_bind (krc_st (KEC.of rfl rfl) (krc_f_X12_emit N p24.2 4 (p24.2.a 40 ((p24.1 : Int32).toNatClampNeg)))) (fun p33 => (kvc_st (KEC.of rfl rfl) (krc_f_X12_factor_215 N p33.2))))) kvc_none) (kvc_bindv (kvc_st (KEC.of rfl rfl) (krc_f_X12_fail N p24.2 3 (p24.2.i 11))) (fun p35 => (kvc_some (KEC.of rfl rfl))))))) (kvc_ite (kvc_bind (krc_st (KEC.of rfl rfl) (krc_f_X12_opens N σ)) (fun p17 => (kvc_ite (kvc_some (KEC.of rfl rfl)) (kvc_bindv (kvc_st (KEC.of rfl rfl) (krc_f_X12_next N p17.2)) (fun p20 => (kvc_bindv (kvc_st (KEC.of rfl rfl) (krc_f_X12_then N p20 1 18)) (fun p22 => (kvc_some (KEC.of rfl rfl))))))))) (kvc_ite (kvc_bind (krc_st (KEC.of rfl rfl) (krc_f_X12_open N σ 40)) (fun p13 => (kvc_bindv (kvc_st (KEC.of rfl rfl) (krc_f_X12_then N p13.2 2 16)) (fun p15 => (kvc_some (KEC.of rfl rfl)))))) (kvc_ite (kvc_some (KEC.of rfl rfl)) kvc_none)))))
theorem krc_f_X12_factor (N : Nat) (σ : RS) (x1 : Int32) : KVc σ (f_X12_factor N σ x1) := by
  unfold f_X12_factor
  exact (kvc_ite (kvc_ite (kvc_bind (krc_st (KEC.of rfl rfl) (krc_f_X12_emit N (RS.setI σ 19 ((σ.i 19) - 1)) 7 0)) (fun p62 => (kvc_some (KEC.of rfl rfl)))) (kvc_ite (kvc_bind (krc_st (KEC.of rfl rfl) (krc_f_X12_shut N σ 41)) (fun p60 => (kvc_some (KEC.of rfl rfl)))) (kvc_ite (kvc_bind (krc_st (KEC.of rfl rfl) (krc_f_X12_can N σ 1)) (fun p5 => (kvc_ite (kvc_some (KEC.of rfl rfl)) (kvc_st (KEC.of rfl rfl) (krc_f_X12_factor_124 N p5.2 x1))))) (kvc_ite (kvc_bind (krc_st (KEC.of rfl rfl) (krc_f_X12_can N σ 1)) (fun p42 => (kvc_ite (kvc_some (KEC.of rfl rfl)) (kvc_st (KEC.of rfl rfl) (krc_f_X12_factor_124 N p42.2 x1))))) (kvc_ite (kvc_bind (krc_st (KEC.of rfl rfl) (krc_f_X12_can N σ 1)) (fun p46 => (kvc_ite (kvc_some (KEC.of rfl rfl)) (kvc_st (KEC.of rfl rfl) (krc_f_X12_factor_124 N p46.2 x1))))) (kvc_ite (kvc_bind (krc_st (KEC.of rfl rfl) (krc_f_X12_can N σ 1)) (fun p50 => (kvc_ite (kvc_some (KEC.of rfl rfl)) (kvc_st (KEC.of rfl rfl) (krc_f_X12_factor_124 N p50.2 x1))))) (kvc_ite (kvc_bind (krc_st (KEC.of rfl rfl) (krc_f_X12_can N σ 1)) (fun p57 => (kvc_ite (kvc_some (KEC.of rfl rfl)) (kvc_st (KEC.of rfl rfl) (krc_f_X12_factor_124 N p57.2 x1))))) (kvc_bind (krc_st (KEC.of rfl rfl) (krc_f_X12_can N σ 0)) (fun p54 => (kvc_ite (kvc_some (KEC.of rfl rfl)) (kvc_st (KEC.of rfl rfl) (krc_f_X12_factor_124 N p54.2 x1)))))))))))) kvc_none)
theorem krc_f_X12_arms_250 (N : Nat) (σ : RS) (x1 : Int32) : KVc σ (f_X12_arms_250 N σ x1) := by
  unfold f_X12_arms_250
  exact (kvc_bind (krc_st (KEC.of rfl rfl) (krc_f_X12_shut N σ 125)) (fun p25 => (kvc_ite (kvc_ite (kvc_some (KEC.of rfl rfl)) kvc_none) kvc_none)))
theorem krc_f_X12_arms_333 (N : Nat) (σ : RS) : KVc σ (f_X12_arms_333 N σ) := by
  unfold f_X12_arms_333
  exact (kvc_ite (kvc_bindv (kvc_st (KEC.of rfl rfl) (krc_f_X12_next N σ)) (fun p51 => (kvc_some (KEC.of rfl rfl)))) (kvc_some (KEC.of rfl rfl)))
theorem krc_f_X12_arms_400 (N : Nat) (σ : RS) : KVc σ (f_X12_arms_400 N σ) := by
  unfold f_X12_arms_400
  exact (kvc_bindv (kvc_st (KEC.of rfl rfl) (krc_f_X12_then N σ 7 16)) (fun p62 => (kvc_some (KEC.of rfl rfl))))
theorem krc_f_X12_arms_435 (N : Nat) (σ : RS) (x1 : Int32) : KVc σ (f_X12_arms_435 N σ x1) := by
  unfold f_X12_arms_435
  exact (kvc_bind (krc_st (KEC.of rfl rfl) (krc_f_X12_shut N σ 125)) (fun p71 => (kvc_ite (kvc_some (KEC.of rfl rfl)) kvc_none)))
theorem krc_f_X12_arms (N : Nat) (σ : RS) (x1 : Int32) : KVc σ (f_X12_arms N σ x1) := by
  unfold f_X12_arms
  exact (kvc_ite (kvc_ite (kvc_bindv (kvc_st (KEC.of rfl rfl) (krc_f_X12_next N σ)) (fun p3 => (kvc_bind (krc_st (KEC.of rfl rfl) (krc_f_X12_open N p3 40)) (fun p5 => (kvc_bindv (kvc_st (KEC.of rfl rfl) (krc_f_X12_then N p5.2 1 16)) (fun p7 => (kvc_some (KEC.of rfl rfl)))))))) (kvc_ite (kvc_bind (krc_st (KEC.of rfl rfl) (krc_f_X12_shut N σ 41)) (fun p10 => (kvc_bind (krc_st (KEC.of rfl rfl) (krc_f_X12_emit N p10.2 29 (-1))) (fun p12 => (kvc_bind (krc_st (KEC.of rfl rfl) (krc_f_X12_goal N (RS.setI (RS.setA (RS.setA (RS.setA p12.2 66 ((x1 : Int32).toNatClampNeg) p12.1) 67 ((x1 : Int32).toNatClampNeg) (-1)) 68 ((x1 : Int32).toNatClampNeg) 0) 52 ((p12.2.i 52) + 1)) 3 0)) (fun p14 => (kvc_bind (krc_st (KEC.of rfl rfl) (krc_f_X12_open N p14.2 123)) (fun p16 => (kvc_some (KEC.of rfl rfl)))))))))) (kvc_ite (kvc_ite (kvc_bindv (kvc_st (KEC.of rfl rfl) (krc_f_X12_next N σ)) (fun p43 => (kvc_some (KEC.of rfl rfl)))) (kvc_ite (kvc_ite (kvc_bindv (kvc_st (KEC.of rfl rfl) (krc_f_X12_fail N σ 4 (σ.i 11))) (fun p41 => (kvc_some (KEC.of rfl rfl)))) (kvc_bindv (kvc_st (KEC.of rfl rfl) (krc_f_X12_entry N (RS.setA σ 68 ((x1 : Int32).toNatClampNeg) 1) x1 0 1)) (fun p37 => (kvc_bindv (kvc_st (KEC.of rfl rfl) (krc_f_X12_next N p37)) (fun p39 => (kvc_some (KEC.of rfl rfl))))))) (kvc_ite (kvc_ite (kvc_bind (krc_st (KEC.of rfl rfl) (krc_f_X12_can N σ 1)) (fun p33 => (kvc_ite (kvc_some (KEC.of rfl rfl)) (kvc_st (KEC.of rfl rfl) (krc_f_X12_arms_250 N p33.2 x1))))) (kvc_bind (krc_st (KEC.of rfl rfl) (krc_f_X12_can N σ 0)) (fun p30 => (kvc_ite (kvc_some (KEC.of rfl rfl)) (kvc_st (KEC.of rfl rfl) (krc_f_X12_arms_250 N p30.2 x1)))))) (kvc_bind (krc_st (KEC.of rfl rfl) (krc_f_X12_can N σ 0)) (fun p22 => (kvc_ite (kvc_some (KEC.of rfl rfl)) (kvc_st (KEC.of rfl rfl) (krc_f_X12_arms_250 N p22.2 x1)))))))) (kvc_ite (kvc_bind (krc_st (KEC.of rfl rfl) (krc_f_X12_caseNumber N σ x1)) (fun p46 => (kvc_ite (kvc_some (KEC.of rfl rfl)) (kvc_ite (kvc_st (KEC.of rfl rfl) (krc_f_X12_arms_333 N (RS.setA p46.2 65 ((x1 : Int32).toNatClampNeg) 3))) (kvc_st (KEC.of rfl rfl) (krc_f_X12_arms_333 N (RS.setA p46.2 65 ((x1 : Int32).toNatClampNeg) 5))))))) (kvc_ite (kvc_bind (krc_st (KEC.of rfl rfl) (krc_f_X12_need N σ 59)) (fun p54 => (kvc_bind (krc_st (KEC.of rfl rfl) (krc_f_X12_emit N p54.2 30 0)) (fun p56 => (kvc_some (KEC.of rfl rfl)))))) (kvc_ite (kvc_bind (krc_st (KEC.of rfl rfl) (krc_f_X12_need N σ 306)) (fun p59 => (kvc_ite (kvc_ite (kvc_bind (krc_st (KEC.of rfl rfl) (krc_f_X12_open N p59.2 123)) (fun p65 => (kvc_bindv (kvc_st (KEC.of rfl rfl) (krc_f_X12_then N (RS.setA p65.2 71 ((x1 : Int32).toNatClampNeg) (p65.2.i 38)) 6 1)) (fun p67 => (kvc_some (KEC.of rfl rfl)))))) (kvc_st (KEC.of rfl rfl) (krc_f_X12_arms_400 N p59.2))) (kvc_st (KEC.of rfl rfl) (krc_f_X12_arms_400 N p59.2))))) (kvc_ite (kvc_ite (kvc_st (KEC.of rfl rfl) (krc_f_X12_arms_435 N σ x1)) (kvc_ite (kvc_bindv (kvc_st (KEC.of rfl rfl) (krc_f_X12_note N σ (σ.i 11))) (fun p75 => (kvc_st (KEC.of rfl rfl) (krc_f_X12_arms_435 N p75 x1)))) (kvc_st (KEC.of rfl rfl) (krc_f_X12_arms_435 N σ x1)))) (kvc_bind (krc_st (KEC.of rfl rfl) (krc_f_X12_need N σ 59)) (fun p77 => (kvc_bind (krc_st (KEC.of rfl rfl) (krc_f_X12_emit N p77.2 30 0)) (fun p79 => (kvc_some (KEC.of rfl rfl))))))))))))) kvc_none)
theorem krc_f_X12_both_41 (N : Nat) (σ : RS) (x1 : Int32) (x2 : Int32) (x3 : Int32) (x4 : Int32) : KVc σ (f_X12_both_41 N σ x1 x2 x3 x4) := by
  unfold f_X12_both_41
  exact (kvc_ite (kvc_bindv (kvc_st (KEC.of rfl rfl) (krc_f_X12_next N σ)) (fun p5 => (kvc_bind (krc_st (KEC.of rfl rfl) (krc_f_X12_emit N p5 x4 0)) (fun p7 => (kvc_ite (kvc_bindv (kvc_st (KEC.of rfl rfl) (krc_f_X12_then N (RS.setA p7.2 66 ((x1 : Int32).toNatClampNeg) p7.1) 2 x2)) (fun p10 => (kvc_some (KEC.of rfl rfl)))) kvc_none))))) (kvc_some (KEC.of rfl rfl)))
theorem krc_f_X12_both (N : Nat) (σ : RS) (x1 : Int32) (x2 : Int32) (x3 : Int32) (x4 : Int32) : KVc σ (f_X12_both N σ x1 x2 x3 x4) := by
  unfold f_X12_both
  exact (kvc_ite (kvc_ite (kvc_bindv (kvc_st (KEC.of rfl rfl) (krc_f_X12_then N σ 1 x2)) (fun p13 => (kvc_some (KEC.of rfl rfl)))) (kvc_ite (kvc_ite (kvc_st (KEC.of rfl rfl) (krc_f_X12_both_41 N (RS.setA σ 22 (((σ.a 66 ((x1 : Int32).toNatClampNeg)) : Int32).toNatClampNeg) (σ.i 20)) x1 x2 x3 x4)) kvc_none) (kvc_st (KEC.of rfl rfl) (krc_f_X12_both_41 N σ x1 x2 x3 x4)))) kvc_none)
theorem krc_f_X12_one_133 (N : Nat) (σ : RS) : KVc σ (f_X12_one_133 N σ) := by
  unfold f_X12_one_133
  exact (kvc_bindv (kvc_st (KEC.of rfl rfl) (krc_f_X12_next N σ)) (fun p9 => (kvc_some (KEC.of rfl rfl))))
theorem krc_f_X12_one_112 (N : Nat) (σ : RS) : KVc σ (f_X12_one_112 N σ) := by
  unfold f_X12_one_112
  exact (kvc_ite (kvc_bind (krc_st (KEC.of rfl rfl) (krc_f_X12_emit N σ 2 1)) (fun p11 => (kvc_st (KEC.of rfl rfl) (krc_f_X12_one_133 N p11.2)))) (kvc_bind (krc_st (KEC.of rfl rfl) (krc_f_X12_emit N σ 2 0)) (fun p7 => (kvc_st (KEC.of rfl rfl) (krc_f_X12_one_133 N p7.2)))))
theorem krc_f_X12_one_281 (N : Nat) (σ : RS) (x1 : Int32) : KVc σ (f_X12_one_281 N σ x1) := by
  unfold f_X12_one_281
  exact (kvc_ite (kvc_bindv (kvc_st (KEC.of rfl rfl) (krc_f_X12_next N (RS.setA σ 66 ((x1 : Int32).toNatClampNeg) (σ.i 10)))) (fun p39 => (kvc_bindv (kvc_st (KEC.of rfl rfl) (krc_f_X12_then N p39 4 16)) (fun p41 => (kvc_some (KEC.of rfl rfl)))))) kvc_none)
theorem krc_f_X12_one (N : Nat) (σ : RS) (x1 : Int32) : KVc σ (f_X12_one N σ x1) := by
  unfold f_X12_one
  exact (kvc_ite (kvc_ite (kvc_ite (kvc_bind (krc_st (KEC.of rfl rfl) (krc_f_X12_opens N σ)) (fun p20 => (kvc_ite (kvc_some (KEC.of rfl rfl)) (kvc_bindv (kvc_st (KEC.of rfl rfl) (krc_f_X12_next N p20.2)) (fun p23 => (kvc_bindv (kvc_st (KEC.of rfl rfl) (krc_f_X12_then N p23 1 22)) (fun p25 => (kvc_some (KEC.of rfl rfl))))))))) (kvc_ite (kvc_bind (krc_st (KEC.of rfl rfl) (krc_f_X12_open N σ 91)) (fun p16 => (kvc_bindv (kvc_st (KEC.of rfl rfl) (krc_f_X12_then N p16.2 2 20)) (fun p18 => (kvc_some (KEC.of rfl rfl)))))) (kvc_ite (kvc_st (KEC.of rfl rfl) (krc_f_X12_one_112 N σ)) (kvc_ite (kvc_st (KEC.of rfl rfl) (krc_f_X12_one_112 N σ)) (kvc_bindv (kvc_st (KEC.of rfl rfl) (krc_f_X12_then N σ 3 16)) (fun p14 => (kvc_some (KEC.of rfl rfl)))))))) (kvc_ite (kvc_bind (krc_st (KEC.of rfl rfl) (krc_f_X12_emit N (RS.setI σ 19 ((σ.i 19) - 1)) 10 0)) (fun p28 => (kvc_some (KEC.of rfl rfl)))) (kvc_ite (kvc_bind (krc_st (KEC.of rfl rfl) (krc_f_X12_shut N σ 93)) (fun p31 => (kvc_some (KEC.of rfl rfl)))) (kvc_ite (kvc_ite (kvc_bind (krc_st (KEC.of rfl rfl) (krc_f_X12_can N σ 1)) (fun p35 => (kvc_ite (kvc_some (KEC.of rfl rfl)) (kvc_st (KEC.of rfl rfl) (krc_f_X12_one_281 N p35.2 x1))))) (kvc_ite (kvc_bind (krc_st (KEC.of rfl rfl) (krc_f_X12_can N σ 1)) (fun p44 => (kvc_ite (kvc_some (KEC.of rfl rfl)) (kvc_st (KEC.of rfl rfl) (krc_f_X12_one_281 N p44.2 x1))))) (kvc_ite (kvc_bind (krc_st (KEC.of rfl rfl) (krc_f_X12_can N σ 1)) (fun p48 => (kvc_ite (kvc_some (KEC.of rfl rfl)) (kvc_st (KEC.of rfl rfl) (krc_f_X12_one_281 N p48.2 x1))))) (kvc_ite (kvc_bind (krc_st (KEC.of rfl rfl) (krc_f_X12_can N σ 1)) (fun p52 => (kvc_ite (kvc_some (KEC.of rfl rfl)) (kvc_st (KEC.of rfl rfl) (krc_f_X12_one_281 N p52.2 x1))))) (kvc_ite (kvc_bind (krc_st (KEC.of rfl rfl) (krc_f_X12_can N σ 1)) (fun p56 => (kvc_ite (kvc_some (KEC.of rfl rfl)) (kvc_st (KEC.of rfl rfl) (krc_f_X12_one_281 N p56.2 x1))))) (kvc_ite (kvc_bind (krc_st (KEC.of rfl rfl) (krc_f_X12_can N σ 1)) (fun p63 => (kvc_ite (kvc_some (KEC.of rfl rfl)) (kvc_st (KEC.of rfl rfl) (krc_f_X12_one_281 N p63.2 x1))))) (kvc_bind (krc_st (KEC.of rfl rfl) (krc_f_X12_can N σ 0)) (fun p60 => (kvc_ite (kvc_some (KEC.of rfl rfl)) (kvc_st (KEC.of rfl rfl) (krc_f_X12_one_281 N p60.2 x1))))))))))) (kvc_bind (krc_st (KEC.of rfl rfl) (krc_f_X12_emit N σ 9 (σ.a 66 ((x1 : Int32).toNatClampNeg)))) (fun p66 => (kvc_some (KEC.of rfl rfl)))))))) kvc_none)
theorem krc_f_X12_thing_74 (N : Nat) (σ : RS) : KVc σ (f_X12_thing_74 N σ) := by
  unfold f_X12_thing_74
  exact (kvc_some (KEC.of rfl rfl))
theorem krc_f_X12_thing_116 (N : Nat) (σ : RS) : KVc σ (f_X12_thing_116 N σ) := by
  unfold f_X12_thing_116
  exact (kvc_some (KEC.of rfl rfl))
theorem krc_f_X12_thing (N : Nat) (σ : RS) (x1 : Int32) : KVc σ (f_X12_thing N σ x1) := by
  unfold f_X12_thing
  exact (kvc_ite (kvc_ite (kvc_ite (kvc_bindv (kvc_st (KEC.of rfl rfl) (krc_f_X12_sums N σ x1 17 1)) (fun p4 => (kvc_st (KEC.of rfl rfl) (krc_f_X12_thing_74 N p4)))) (kvc_ite (kvc_bindv (kvc_st (KEC.of rfl rfl) (krc_f_X12_sums N σ x1 17 1)) (fun p9 => (kvc_st (KEC.of rfl rfl) (krc_f_X12_thing_74 N p9)))) (kvc_bindv (kvc_st (KEC.of rfl rfl) (krc_f_X12_sums N σ x1 17 0)) (fun p7 => (kvc_st (KEC.of rfl rfl) (krc_f_X12_thing_74 N p7)))))) (kvc_ite (kvc_ite (kvc_bindv (kvc_st (KEC.of rfl rfl) (krc_f_X12_sums N σ x1 18 1)) (fun p13 => (kvc_st (KEC.of rfl rfl) (krc_f_X12_thing_116 N p13)))) (kvc_ite (kvc_bindv (kvc_st (KEC.of rfl rfl) (krc_f_X12_sums N σ x1 18 1)) (fun p16 => (kvc_st (KEC.of rfl rfl) (krc_f_X12_thing_116 N p16)))) (kvc_ite (kvc_bindv (kvc_st (KEC.of rfl rfl) (krc_f_X12_sums N σ x1 18 1)) (fun p21 => (kvc_st (KEC.of rfl rfl) (krc_f_X12_thing_116 N p21)))) (kvc_bindv (kvc_st (KEC.of rfl rfl) (krc_f_X12_sums N σ x1 18 0)) (fun p19 => (kvc_st (KEC.of rfl rfl) (krc_f_X12_thing_116 N p19))))))) (kvc_ite (kvc_bindv (kvc_st (KEC.of rfl rfl) (krc_f_X12_factor N σ x1)) (fun p24 => (kvc_some (KEC.of rfl rfl)))) (kvc_ite (kvc_bindv (kvc_st (KEC.of rfl rfl) (krc_f_X12_arms N σ x1)) (fun p27 => (kvc_some (KEC.of rfl rfl)))) (kvc_ite (kvc_bindv (kvc_st (KEC.of rfl rfl) (krc_f_X12_both N σ x1 21 305 11)) (fun p30 => (kvc_some (KEC.of rfl rfl)))) (kvc_ite (kvc_bindv (kvc_st (KEC.of rfl rfl) (krc_f_X12_both N σ x1 22 304 12)) (fun p33 => (kvc_some (KEC.of rfl rfl)))) (kvc_bindv (kvc_st (KEC.of rfl rfl) (krc_f_X12_one N σ x1)) (fun p35 => (kvc_some (KEC.of rfl rfl)))))))))) kvc_none)
theorem krc_b_X12_parse_10 (N : Nat) (K : RS → Option (RS)) (hK : ∀ (σ : RS), KVc σ (K σ)) (σ : RS) : KVc σ (b_X12_parse_10 N K σ) := by
  unfold b_X12_parse_10
  exact (kvc_ite (kvc_some (KEC.of rfl rfl)) (kvc_ite (kvc_ite (kvc_ite (kvc_bindv (kvc_st (KEC.of rfl rfl) (krc_f_X12_list N σ (σ.i 63))) (fun p7 => (kvc_st (KEC.of rfl rfl) (hK p7)))) (kvc_ite (kvc_bindv (kvc_st (KEC.of rfl rfl) (krc_f_X12_stat N σ (σ.i 63))) (fun p10 => (kvc_st (KEC.of rfl rfl) (hK p10)))) (kvc_ite (kvc_bindv (kvc_st (KEC.of rfl rfl) (krc_f_X12_block N σ (σ.i 63))) (fun p13 => (kvc_st (KEC.of rfl rfl) (hK p13)))) (kvc_ite (kvc_bindv (kvc_st (KEC.of rfl rfl) (krc_f_X12_tell N σ (σ.i 63))) (fun p16 => (kvc_st (KEC.of rfl rfl) (hK p16)))) (kvc_ite (kvc_bindv (kvc_st (KEC.of rfl rfl) (krc_f_X12_named N σ (σ.i 63))) (fun p19 => (kvc_st (KEC.of rfl rfl) (hK p19)))) (kvc_ite (kvc_bindv (kvc_st (KEC.of rfl rfl) (krc_f_X12_ending N σ (σ.i 63))) (fun p22 => (kvc_st (KEC.of rfl rfl) (hK p22)))) (kvc_ite (kvc_bindv (kvc_st (KEC.of rfl rfl) (krc_f_X12_throwing N σ (σ.i 63))) (fun p25 => (kvc_st (KEC.of rfl rfl) (hK p25)))) (kvc_ite (kvc_bindv (kvc_st (KEC.of rfl rfl) (krc_f_X12_asserted N σ (σ.i 63))) (fun p28 => (kvc_st (KEC.of rfl rfl) (hK p28)))) (kvc_ite (kvc_bindv (kvc_st (KEC.of rfl rfl) (krc_f_X12_branch N σ (σ.i 63))) (fun p31 => (kvc_st (KEC.of rfl rfl) (hK p31)))) (kvc_ite (kvc_bindv (kvc_st (KEC.of rfl rfl) (krc_f_X12_whiles N σ (σ.i 63))) (fun p34 => (kvc_st (KEC.of rfl rfl) (hK p34)))) (kvc_ite (kvc_bindv (kvc_st (KEC.of rfl rfl) (krc_f_X12_repeats N σ (σ.i 63))) (fun p37 => (kvc_st (KEC.of rfl rfl) (hK p37)))) (kvc_ite (kvc_bindv (kvc_st (KEC.of rfl rfl) (krc_f_X12_fors N σ (σ.i 63))) (fun p40 => (kvc_st (KEC.of rfl rfl) (hK p40)))) (kvc_ite (kvc_bindv (kvc_st (KEC.of rfl rfl) (krc_f_X12_lock N σ (σ.i 63))) (fun p43 => (kvc_st (KEC.of rfl rfl) (hK p43)))) (kvc_ite (kvc_bindv (kvc_st (KEC.of rfl rfl) (krc_f_X12_groups N σ (σ.i 63))) (fun p46 => (kvc_st (KEC.of rfl rfl) (hK p46)))) (kvc_ite (kvc_bindv (kvc_st (KEC.of rfl rfl) (krc_f_X12_trying N σ (σ.i 63))) (fun p49 => (kvc_st (KEC.of rfl rfl) (hK p49)))) (kvc_bindv (kvc_st (KEC.of rfl rfl) (krc_f_X12_thing N σ (σ.i 63))) (fun p51 => (kvc_st (KEC.of rfl rfl) (hK p51))))))))))))))))))) kvc_none) (kvc_some (KEC.of rfl rfl))))
theorem krc_f_X12_parse_10 (N : Nat) : ∀ (n : Nat) (σ : RS), KVc σ (f_X12_parse_10 N n σ )
  | 0, _ => kvc_none
  | n+1, σ => krc_b_X12_parse_10 N (f_X12_parse_10 N n) (fun σ => krc_f_X12_parse_10 N n σ) σ
theorem krc_f_X12_parse (N : Nat) (σ : RS) : KVc σ (f_X12_parse N σ) := by
  unfold f_X12_parse
  exact (kvc_bindv (kvc_st (KEC.of rfl rfl) (krc_f_X12_push N (RS.setI σ 63 (-1)) 1)) (fun p1 => (kvc_st (KEC.of rfl rfl) (krc_f_X12_parse_10 N N p1))))
theorem krc_f_X12_read_199 (N : Nat) (σ : RS) : KRc σ (f_X12_read_199 N σ) := by
  unfold f_X12_read_199
  exact (krc_ite (krc_some (KEC.of rfl rfl)) (krc_some (KEC.of rfl rfl)))
theorem krc_f_X12_read_167 (N : Nat) (σ : RS) : KRc σ (f_X12_read_167 N σ) := by
  unfold f_X12_read_167
  exact (krc_ite (krc_ite (krc_st (KEC.of rfl rfl) (krc_f_X12_read_199 N (RS.setI (RS.setI (RS.setI σ 78 (σ.i 75)) 76 (σ.i 15)) 77 1))) (krc_st (KEC.of rfl rfl) (krc_f_X12_read_199 N (RS.setI (RS.setI (RS.setI σ 78 (σ.i 75)) 76 (σ.i 15)) 77 0)))) krc_none)
theorem krc_f_X12_read_138 (N : Nat) (σ : RS) : KRc σ (f_X12_read_138 N σ) := by
  unfold f_X12_read_138
  exact (krc_ite (krc_ite (krc_st (KEC.of rfl rfl) (krc_f_X12_read_167 N (RS.setI σ 2 0))) (krc_bindv (kvc_st (KEC.of rfl rfl) (krc_f_X12_fail N (RS.setI σ 2 0) 7 (σ.i 18))) (fun p17 => (krc_st (KEC.of rfl rfl) (krc_f_X12_read_167 N p17))))) (krc_st (KEC.of rfl rfl) (krc_f_X12_read_167 N (RS.setI σ 2 0))))
theorem krc_f_X12_fault (N : Nat) (σ : RS) : KRc σ (f_X12_fault N σ) := by
  unfold f_X12_fault
  exact (krc_some (KEC.of rfl rfl))
theorem krc_f_X12_program (N : Nat) (σ : RS) (x1 : Int32) : KRc σ (f_X12_program N σ x1) := by
  unfold f_X12_program
  exact (krc_bind (krc_st (KEC.of rfl rfl) (krc_f_X12_in N (RS.setI σ 0 0) x1 0 3)) (fun p1 => (krc_ite (krc_some (KEC.of rfl rfl)) (krc_ite (krc_some (KEC.of rfl rfl)) (krc_ite (krc_some (KEC.of rfl rfl)) (krc_ite (krc_ite (krc_some (KEC.of rfl rfl)) (krc_some (KEC.of rfl rfl))) (krc_ite (krc_some (KEC.of rfl rfl)) (krc_some (KEC.of rfl rfl)))))))))
theorem krc_f_X12_row (N : Nat) (σ : RS) (x1 : Int32) (x2 : Int32) : KVc σ (f_X12_row N σ x1 x2) := by
  unfold f_X12_row
  exact (kvc_ite (kvc_some (KEC.of rfl rfl)) (kvc_ite (kvc_some (KEC.of rfl rfl)) kvc_none))
theorem krc_f_X12_record (N : Nat) (σ : RS) (x1 : Int32) (x2 : Int32) (x3 : Int32) (x4 : Int32) : KRc σ (f_X12_record N σ x1 x2 x3 x4) := by
  unfold f_X12_record
  exact (krc_ite (krc_some (KEC.of rfl rfl)) krc_none)
theorem krc_f_X12_put (N : Nat) (σ : RS) (x1 : Int32) : KVc σ (f_X12_put N σ x1) := by
  unfold f_X12_put
  exact (kvc_ite (kvc_some (KEC.of rfl rfl)) kvc_none)
theorem krc_f_X12_take (N : Nat) (σ : RS) : KRc σ (f_X12_take N σ) := by
  unfold f_X12_take
  exact (krc_ite (krc_some (KEC.of rfl rfl)) krc_none)
theorem krc_f_X12_step (N : Nat) (σ : RS) : KVc σ (f_X12_step N σ) := by
  unfold f_X12_step
  exact (kvc_ite (kvc_some (KEC.of rfl rfl)) (kvc_some (KEC.of rfl rfl)))
theorem krc_f_X12_compute (N : Nat) (σ : RS) (x1 : Int32) (x2 : Int32) (x3 : Int32) : KRc σ (f_X12_compute N σ x1 x2 x3) := by
  unfold f_X12_compute
  exact (krc_ite (krc_ite krc_none (krc_some (KEC.of rfl rfl))) (krc_ite (krc_some (KEC.of rfl rfl)) (krc_ite (krc_some (KEC.of rfl rfl)) (krc_ite (krc_some (KEC.of rfl rfl)) (krc_ite (krc_ite krc_none (krc_some (KEC.of rfl rfl))) (krc_ite (krc_ite (krc_some (KEC.of rfl rfl)) (krc_some (KEC.of rfl rfl))) (krc_ite (krc_ite (krc_some (KEC.of rfl rfl)) (krc_some (KEC.of rfl rfl))) (krc_ite (krc_ite (krc_some (KEC.of rfl rfl)) (krc_some (KEC.of rfl rfl))) (krc_ite (krc_ite (krc_some (KEC.of rfl rfl)) (krc_some (KEC.of rfl rfl))) (krc_ite (krc_ite (krc_some (KEC.of rfl rfl)) (krc_some (KEC.of rfl rfl))) (krc_ite (krc_some (KEC.of rfl rfl)) (krc_some (KEC.of rfl rfl)))))))))))))
theorem krc_b_X12_caseOf_5 (N : Nat) (K : RS → Int32 → Int32 → Int32 → Option (Int32 × RS)) (hK : ∀ (σ : RS) (y0 : Int32) (y1 : Int32) (y2 : Int32), KRc σ (K σ y0 y1 y2)) (σ : RS) (x2 : Int32) (x3 : Int32) (x4 : Int32) : KRc σ (b_X12_caseOf_5 N K σ x2 x3 x4) := by
  unfold b_X12_caseOf_5
  exact (krc_ite (krc_some (KEC.of rfl rfl)) (krc_ite (krc_ite (krc_ite (krc_some (KEC.of rfl rfl)) (krc_st (KEC.of rfl rfl) (hK σ x2 x3 (σ.a 27 ((x4 : Int32).toNatClampNeg))))) (krc_st (KEC.of rfl rfl) (hK σ x2 x4 (σ.a 27 ((x4 : Int32).toNatClampNeg))))) krc_none))
theorem krc_f_X12_caseOf_5 (N : Nat) : ∀ (n : Nat) (σ : RS) (y0 : Int32) (y1 : Int32) (y2 : Int32), KRc σ (f_X12_caseOf_5 N n σ y0 y1 y2)
  | 0, _, _, _, _ => krc_none
  | n+1, σ, y0, y1, y2 => krc_b_X12_caseOf_5 N (f_X12_caseOf_5 N n) (fun σ y0 y1 y2 => krc_f_X12_caseOf_5 N n σ y0 y1 y2) σ y0 y1 y2
theorem krc_f_X12_caseOf (N : Nat) (σ : RS) (x1 : Int32) (x2 : Int32) : KRc σ (f_X12_caseOf N σ x1 x2) := by
  unfold f_X12_caseOf
  exact (krc_st (KEC.of rfl rfl) (krc_f_X12_caseOf_5 N N σ x2 (-1) x1))
theorem krc_b_X12_others_85 (N : Nat) (K : RS → Int32 → Int32 → Int32 → Option (RS)) (hK : ∀ (σ : RS) (y0 : Int32) (y1 : Int32) (y2 : Int32), KVc σ (K σ y0 y1 y2)) (σ : RS) (x2 : Int32) (x4 : Int32) (x5 : Int32) : KVc σ (b_X12_others_85 N K σ x2 x4 x5) := by
  unfold b_X12_others_85
  exact (kvc_ite (kvc_bind (krc_st (KEC.of rfl rfl) (krc_f_X12_record N (RS.setI σ 93 ((σ.i 93) - x2)) 2 x4 x4 (σ.i 97))) (fun p4 => (kvc_some (KEC.of rfl rfl)))) (kvc_ite (kvc_ite (kvc_st (KEC.of rfl rfl) (hK (RS.setI (RS.setA σ 98 (((σ.i 97) : Int32).toNatClampNeg) (σ.a 94 (((((σ.i 93) - x2) + x5) : Int32).toNatClampNeg))) 97 ((σ.i 97) + 1)) x2 x4 (x5 + 1))) kvc_none) kvc_none))
theorem krc_f_X12_others_85 (N : Nat) : ∀ (n : Nat) (σ : RS) (y0 : Int32) (y1 : Int32) (y2 : Int32), KVc σ (f_X12_others_85 N n σ y0 y1 y2)
  | 0, _, _, _, _ => kvc_none
  | n+1, σ, y0, y1, y2 => krc_b_X12_others_85 N (f_X12_others_85 N n) (fun σ y0 y1 y2 => krc_f_X12_others_85 N n σ y0 y1 y2) σ y0 y1 y2
theorem krc_f_X12_ends_242 (N : Nat) (σ : RS) : KVc σ (f_X12_ends_242 N σ) := by
  unfold f_X12_ends_242
  exact (kvc_some (KEC.of rfl rfl))
theorem krc_f_X12_ends_351 (N : Nat) (σ : RS) : KVc σ (f_X12_ends_351 N σ) := by
  unfold f_X12_ends_351
  exact (kvc_some (KEC.of rfl rfl))
theorem krc_b_X12_ran_168 (N : Nat) (K : RS → Int32 → Int32 → Option (Int32 × RS)) (hK : ∀ (σ : RS) (y0 : Int32) (y1 : Int32), KRc σ (K σ y0 y1)) (σ : RS) (x3 : Int32) (x4 : Int32) : KRc σ (b_X12_ran_168 N K σ x3 x4) := by
  unfold b_X12_ran_168
  exact (krc_ite (krc_some (KEC.of rfl rfl)) (krc_ite (krc_st (KEC.of rfl rfl) (hK σ (x3 + (σ.a 91 ((x4 : Int32).toNatClampNeg))) (x4 + 1))) krc_none))
theorem krc_f_X12_ran_168 (N : Nat) : ∀ (n : Nat) (σ : RS) (y0 : Int32) (y1 : Int32), KRc σ (f_X12_ran_168 N n σ y0 y1)
  | 0, _, _, _ => krc_none
  | n+1, σ, y0, y1 => krc_b_X12_ran_168 N (f_X12_ran_168 N n) (fun σ y0 y1 => krc_f_X12_ran_168 N n σ y0 y1) σ y0 y1
theorem krc_f_X12_ran_41 (N : Nat) (σ : RS) (x1 : Int32) (x2 : Int32) : KRc σ (f_X12_ran_41 N σ x1 x2) := by
  unfold f_X12_ran_41
  exact (krc_ite (krc_some (KEC.of rfl rfl)) (krc_ite (krc_some (KEC.of rfl rfl)) (krc_ite (krc_ite (krc_some (KEC.of rfl rfl)) (krc_some (KEC.of rfl rfl))) (krc_ite (krc_ite (krc_some (KEC.of rfl rfl)) (krc_ite (krc_some (KEC.of rfl rfl)) krc_none)) (krc_ite (krc_ite (krc_some (KEC.of rfl rfl)) (krc_ite (krc_some (KEC.of rfl rfl)) krc_none)) (krc_ite (krc_ite (krc_some (KEC.of rfl rfl)) (krc_ite (krc_some (KEC.of rfl rfl)) krc_none)) (krc_st (KEC.of rfl rfl) (krc_f_X12_ran_168 N N σ 0 0))))))))
theorem krc_f_X12_ran (N : Nat) (σ : RS) (x1 : Int32) : KRc σ (f_X12_ran N σ x1) := by
  unfold f_X12_ran
  exact (krc_bind (krc_st (KEC.of rfl rfl) (krc_f_X12_in N (RS.setI σ 0 0) x1 0 6)) (fun p1 => (krc_ite (krc_some (KEC.of rfl rfl)) (krc_ite (krc_some (KEC.of rfl rfl)) (krc_ite (krc_st (KEC.of rfl rfl) (krc_f_X12_ran_41 N p1.2 x1 1)) (krc_st (KEC.of rfl rfl) (krc_f_X12_ran_41 N p1.2 x1 0)))))))
theorem krc_f_X12_trace_35 (N : Nat) (σ : RS) : KRc σ (f_X12_trace_35 N σ) := by
  unfold f_X12_trace_35
  exact (krc_some (KEC.of rfl rfl))
theorem krc_f_X12_trace (N : Nat) (σ : RS) (x1 : Int32) (x2 : Int32) : KRc σ (f_X12_trace N σ x1 x2) := by
  unfold f_X12_trace
  exact (krc_ite (krc_st (KEC.of rfl rfl) (krc_f_X12_trace_35 N (RS.setI σ 0 0))) (krc_bind (krc_st (KEC.of rfl rfl) (krc_f_X12_in N (RS.setI σ 0 0) x1 0 ((σ.i 81) - 1))) (fun p2 => (krc_ite (krc_st (KEC.of rfl rfl) (krc_f_X12_trace_35 N p2.2)) (krc_bind (krc_st (KEC.of rfl rfl) (krc_f_X12_in N p2.2 x2 0 1)) (fun p5 => (krc_ite (krc_st (KEC.of rfl rfl) (krc_f_X12_trace_35 N p5.2)) (krc_ite (krc_ite (krc_some (KEC.of rfl rfl)) krc_none) (krc_ite (krc_some (KEC.of rfl rfl)) krc_none)))))))))
theorem krc_f_X12_suppressed_48 (N : Nat) (σ : RS) : KRc σ (f_X12_suppressed_48 N σ) := by
  unfold f_X12_suppressed_48
  exact (krc_some (KEC.of rfl rfl))
theorem krc_f_X12_suppressed (N : Nat) (σ : RS) (x1 : Int32) (x2 : Int32) : KRc σ (f_X12_suppressed N σ x1 x2) := by
  unfold f_X12_suppressed
  exact (krc_ite (krc_st (KEC.of rfl rfl) (krc_f_X12_suppressed_48 N (RS.setI σ 0 0))) (krc_ite (krc_ite (krc_bind (krc_st (KEC.of rfl rfl) (krc_f_X12_in N (RS.setI σ 0 0) x1 0 ((σ.a 88 (((σ.i 114) : Int32).toNatClampNeg)) - 1))) (fun p4 => (krc_ite (krc_st (KEC.of rfl rfl) (krc_f_X12_suppressed_48 N p4.2)) (krc_bind (krc_st (KEC.of rfl rfl) (krc_f_X12_in N p4.2 x2 0 1)) (fun p7 => (krc_ite (krc_st (KEC.of rfl rfl) (krc_f_X12_suppressed_48 N p7.2)) (krc_ite (krc_ite (krc_some (KEC.of rfl rfl)) krc_none) (krc_ite (krc_some (KEC.of rfl rfl)) krc_none)))))))) krc_none) (krc_st (KEC.of rfl rfl) (krc_f_X12_suppressed_48 N (RS.setI σ 0 0)))))
theorem krc_f_X12_rounds_13 (N : Nat) (σ : RS) : KRc σ (f_X12_rounds_13 N σ) := by
  unfold f_X12_rounds_13
  exact (krc_some (KEC.of rfl rfl))
theorem krc_f_X12_rounds (N : Nat) (σ : RS) (x1 : Int32) (x2 : Int32) : KRc σ (f_X12_rounds N σ x1 x2) := by
  unfold f_X12_rounds
  exact (krc_ite (krc_st (KEC.of rfl rfl) (krc_f_X12_rounds_13 N (RS.setI σ 0 0))) (krc_ite (krc_ite (krc_some (KEC.of rfl rfl)) (krc_ite krc_none (krc_ite (krc_some (KEC.of rfl rfl)) (krc_some (KEC.of rfl rfl))))) (krc_st (KEC.of rfl rfl) (krc_f_X12_rounds_13 N (RS.setI σ 0 0)))))
end
section
/-! what a piece of reading lays: frames of both codes, and that the piece runs alike -/
def pcC (S : CS) : Nat := (S.i 20).toInt.toNat
def pcR (s : RS) : Nat := (s.i 20).toInt.toNat
/-- the class's code and targets are few -/
def CRB (S : CS) : Prop := (0 ≤ (S.i 20).toInt ∧ (S.i 20).toInt ≤ (S.i 44).toInt + 8) ∧ (0 ≤ (S.i 21).toInt ∧ (S.i 21).toInt ≤ (S.i 44).toInt + 8 ∧ 0 ≤ (S.i 23).toInt ∧ 2 * (S.i 23).toInt ≤ (S.i 44).toInt + 8)
/-- the class: what was laid stays; d = instructions, e = targets that no byte has paid -/
def CD1 (d e : Int) (S R : CS) : Prop := ((S.i 20).toInt ≤ (R.i 20).toInt ∧ (R.i 20).toInt + (S.i 44).toInt ≤ (S.i 20).toInt + (R.i 44).toInt + d ∧ (R.i 21).toInt + (S.i 44).toInt ≤ (S.i 21).toInt + (R.i 44).toInt + e) ∧ (∀ j : Nat, (j : Int) < (S.i 20).toInt → R.a 15 j = S.a 15 j ∧ R.a 16 j = S.a 16 j) ∧ (S.i 21).toInt ≤ (R.i 21).toInt ∧ (S.i 50).toInt ≤ (R.i 50).toInt ∧ (∀ k : Nat, (k : Int) < (S.i 50).toInt → R.a 48 k = S.a 48 k ∧ R.a 49 k = S.a 49 k) ∧ ((S.i 23).toInt ≤ (R.i 23).toInt ∧ 2 * (R.i 23).toInt + (S.i 44).toInt ≤ 2 * (S.i 23).toInt + (R.i 44).toInt + e) ∧ R.i 38 = S.i 38 ∧ (S.i 22).toInt ≤ (R.i 22).toInt ∧ ∀ k : Nat, (k : Int) < (S.i 22).toInt → R.a 19 k = S.a 19 k
/-- targets from a to b stay -/
def CT7 (a b : Int) (S R : CS) : Prop := ∀ k : Nat, a ≤ (k : Int) → (k : Int) < b → R.a 17 k = S.a 17 k
theorem CD1.rf (S : CS) : CD1 0 0 S S := ⟨⟨Int.le_refl _, by omega, by omega⟩, fun _ _ => ⟨rfl, rfl⟩, Int.le_refl _, Int.le_refl _, fun _ _ => ⟨rfl, rfl⟩, ⟨Int.le_refl _, by omega⟩, rfl, Int.le_refl _, fun _ _ => rfl⟩
theorem CD1.tr {a b a' b' : Int} {S R T : CS} (h : CD1 a a' S R) (g : CD1 b b' R T) : CD1 (a + b) (a' + b') S T := by
  obtain ⟨⟨h1, h2, h2'⟩, h3, h4, h5, h6, ⟨h7, h8⟩, h9, h10, h11⟩ := h
  obtain ⟨⟨g1, g2, g2'⟩, g3, g4, g5, g6, ⟨g7, g8⟩, g9, g10, g11⟩ := g
  refine ⟨⟨by omega, by omega, by omega⟩, fun j hj => ?_, by omega, by omega, fun k hk => ?_, ⟨by omega, by omega⟩, g9.trans h9, by omega, fun k hk => (g11 k (by omega)).trans (h11 k hk)⟩
  · have x := h3 j hj
    have y := g3 j (by omega)
    exact ⟨y.1.trans x.1, y.2.trans x.2⟩
  · have x := h6 k hk
    have y := g6 k (by omega)
    exact ⟨y.1.trans x.1, y.2.trans x.2⟩
theorem CD1.wk {a b a' b' : Int} {S R : CS} (h : CD1 a a' S R) (l : a ≤ b) (l' : a' ≤ b') : CD1 b b' S R := ⟨⟨h.1.1, by have := h.1.2; omega, by have := h.1.2; omega⟩, h.2.1, h.2.2.1, h.2.2.2.1, h.2.2.2.2.1, ⟨h.2.2.2.2.2.1.1, by have := h.2.2.2.2.2.1.2; omega⟩, h.2.2.2.2.2.2⟩
theorem CT7.rf (a b : Int) (S : CS) : CT7 a b S S := fun _ _ _ => rfl
theorem CT7.tr {a b : Int} {S R T : CS} (h : CT7 a b S R) (g : CT7 a b R T) : CT7 a b S T := fun k x y => (g k x y).trans (h k x y)
theorem CT7.wk {a b a' b' : Int} {S R : CS} (h : CT7 a b S R) (l : a ≤ a') (m : b' ≤ b) : CT7 a' b' S R := fun k x y => h k (by omega) (by omega)
theorem CT7.eq {a b : Int} {S R : CS} (h : R.a 17 = S.a 17) : CT7 a b S R := fun k _ _ => by rw [h]
/-- nothing laid -/
theorem CD1.pe {b : Int} {S R : CS} (h : pe R = pe S) (h21 : R.i 21 = S.i 21) (h50 : R.i 50 = S.i 50) (h48 : R.a 48 = S.a 48) (h49 : R.a 49 = S.a 49) (h44 : (S.i 44).toInt + b ≤ (R.i 44).toInt) : CD1 (-b) (-b) S R := by
  obtain ⟨e20, e15, e16, -, e23, e38, e22, e19⟩ := pe_eq h
  refine ⟨⟨by rw [e20]; exact Int.le_refl _, by rw [e20]; omega, by rw [h21]; omega⟩, fun j _ => ⟨by rw [e15], by rw [e16]⟩, by rw [h21]; exact Int.le_refl _, by rw [h50]; exact Int.le_refl _, fun k _ => ⟨by rw [h48], by rw [h49]⟩, ⟨by rw [e23]; exact Int.le_refl _, by rw [e23]; omega⟩, e38, by rw [e22]; exact Int.le_refl _, fun k _ => by rw [e19]⟩
theorem CRB.of {d e : Int} {S R : CS} (h : CRB S) (g : CD1 d e S R) (l : d ≤ 0) (m : e ≤ 0) : CRB R := by
  obtain ⟨⟨g1, g2, g3⟩, -, g4, -, -, ⟨g5, g6⟩, -⟩ := g
  obtain ⟨⟨h1, h2⟩, h3, h4, h5, h6⟩ := h
  exact ⟨⟨by omega, by omega⟩, by omega, by omega, by omega, by omega⟩
/-- an instruction more -/
theorem cd_add {N : Nat} {S : CS} {o x : Int32} {R : Unit × CS} (e : f_X0_add N S o x = some R) (h0 : 0 ≤ (S.i 20).toInt) (h1 : (S.i 20).toInt < 1200) : CD1 1 0 S R.2 ∧ (R.2.i 20).toInt = (S.i 20).toInt + 1 ∧ (R.2.a 15 (pcC S) = o ∧ R.2.a 16 (pcC S) = x) ∧ R.2.a 17 = S.a 17 ∧ R.2.i 21 = S.i 21 ∧ R.2.i 44 = S.i 44 := by
  unfold f_X0_add at e
  cases e
  have hib : ib (S.i 20) 1200 := ⟨h0, by omega⟩
  have e1 : (S.i 20 + 1).toInt = (S.i 20).toInt + 1 := ad1 h0 (by omega)
  have ck := clampI h0
  have p15 : ∀ k : Nat, gPut (S.a 15) 1200 (S.i 20) o k = if k = (S.i 20).toNatClampNeg then o else S.a 15 k := fun k => by
    unfold gPut
    rw [if_pos hib]
    rfl
  have p16 : ∀ k : Nat, gPut (S.a 16) 1200 (S.i 20) x k = if k = (S.i 20).toNatClampNeg then x else S.a 16 k := fun k => by
    unfold gPut
    rw [if_pos hib]
    rfl
  have pc : pcC S = (S.i 20).toNatClampNeg := rfl
  refine ⟨⟨⟨?_, ?_, ?_⟩, fun j hj => ⟨?_, ?_⟩, Int.le_refl _, Int.le_refl _, fun _ _ => ⟨rfl, rfl⟩, ⟨Int.le_refl _, (show 2 * (S.i 23).toInt + (S.i 44).toInt ≤ 2 * (S.i 23).toInt + (S.i 44).toInt + 0 by omega)⟩, rfl, Int.le_refl _, fun _ _ => rfl⟩, e1, ⟨?_, ?_⟩, rfl, rfl, rfl⟩
  · show (S.i 20).toInt ≤ (S.i 20 + 1).toInt
    omega
  · show (S.i 20 + 1).toInt + (S.i 44).toInt ≤ (S.i 20).toInt + (S.i 44).toInt + 1
    omega
  · show (S.i 21).toInt + (S.i 44).toInt ≤ (S.i 21).toInt + (S.i 44).toInt + 0
    omega
  · show gPut (S.a 15) 1200 (S.i 20) o j = S.a 15 j
    rw [p15, if_neg (by omega)]
  · show gPut (S.a 16) 1200 (S.i 20) x j = S.a 16 j
    rw [p16, if_neg (by omega)]
  · show gPut (S.a 15) 1200 (S.i 20) o (pcC S) = o
    rw [p15, if_pos pc]
  · show gPut (S.a 16) 1200 (S.i 20) x (pcC S) = x
    rw [p16, if_pos pc]
/-- a target more -/
theorem cd_nt {N : Nat} {S : CS} {w : Int32 × CS} (e : f_X0_newTarget N S = some w) (h0 : 0 ≤ (S.i 21).toInt) (h1 : (S.i 21).toInt < 1024) : CD1 0 1 S w.2 ∧ w.1 = S.i 21 ∧ (w.2.i 21).toInt = (S.i 21).toInt + 1 ∧ (∀ a : Int, CT7 a (S.i 21).toInt S w.2) ∧ w.2.a 15 = S.a 15 ∧ w.2.a 16 = S.a 16 ∧ w.2.i 20 = S.i 20 ∧ w.2.i 44 = S.i 44 := by
  unfold f_X0_newTarget at e
  cases e
  have hib : ib (S.i 21) 1024 := ⟨h0, by omega⟩
  have e1 : (S.i 21 + 1).toInt = (S.i 21).toInt + 1 := ad1 h0 (by omega)
  have ck := clampI h0
  refine ⟨⟨⟨Int.le_refl _, ?_, ?_⟩, fun _ _ => ⟨rfl, rfl⟩, ?_, Int.le_refl _, fun _ _ => ⟨rfl, rfl⟩, ⟨Int.le_refl _, (show 2 * (S.i 23).toInt + (S.i 44).toInt ≤ 2 * (S.i 23).toInt + (S.i 44).toInt + 1 by omega)⟩, rfl, Int.le_refl _, fun _ _ => rfl⟩, ?_, e1, fun a k _ hk => ?_, rfl, rfl, rfl, rfl⟩
  · show (S.i 20).toInt + (S.i 44).toInt ≤ (S.i 20).toInt + (S.i 44).toInt + 0
    omega
  · show (S.i 21 + 1).toInt + (S.i 44).toInt ≤ (S.i 21).toInt + (S.i 44).toInt + 1
    omega
  · show (S.i 21).toInt ≤ (S.i 21 + 1).toInt
    omega
  · show (S.i 21 + 1) - 1 = S.i 21
    exact Int32.add_sub_cancel _ _
  · show gPut (S.a 17) 1024 (S.i 21) (-1) k = S.a 17 k
    unfold gPut
    rw [if_pos hib]
    exact if_neg (by omega)
/-- a target is aimed -/
theorem cd_aim {N : Nat} {S : CS} {x : Int32} {R : Unit × CS} (e : f_X0_aim N S x = some R) (h0 : 0 ≤ x.toInt) (h1 : x.toInt < 1024) : CD1 0 0 S R.2 ∧ (∀ k : Nat, ¬ (k : Int) = x.toInt → R.2.a 17 k = S.a 17 k) ∧ cTg R.2 x = S.i 20 ∧ (R.2.a 15 = S.a 15 ∧ R.2.a 16 = S.a 16 ∧ R.2.i 20 = S.i 20 ∧ R.2.i 21 = S.i 21 ∧ R.2.i 44 = S.i 44) := by
  unfold f_X0_aim at e
  cases e
  have hib : ib x 1024 := ⟨h0, by omega⟩
  have ck := clampI h0
  refine ⟨⟨⟨Int.le_refl _, ?_, ?_⟩, fun _ _ => ⟨rfl, rfl⟩, Int.le_refl _, Int.le_refl _, fun _ _ => ⟨rfl, rfl⟩, ⟨Int.le_refl _, (show 2 * (S.i 23).toInt + (S.i 44).toInt ≤ 2 * (S.i 23).toInt + (S.i 44).toInt + 0 by omega)⟩, rfl, Int.le_refl _, fun _ _ => rfl⟩, fun k hk => ?_, ?_, ⟨rfl, rfl, rfl, rfl, rfl⟩⟩
  · show (S.i 20).toInt + (S.i 44).toInt ≤ (S.i 20).toInt + (S.i 44).toInt + 0
    omega
  · show (S.i 21).toInt + (S.i 44).toInt ≤ (S.i 21).toInt + (S.i 44).toInt + 0
    omega
  · show gPut (S.a 17) 1024 x (S.i 20) k = S.a 17 k
    unfold gPut
    rw [if_pos hib]
    exact if_neg (by omega)
  · show gAt (gPut (S.a 17) 1024 x (S.i 20)) 1024 x = S.i 20
    unfold gAt gPut
    rw [if_pos hib, if_pos hib]
    exact if_pos rfl
/-- the slots: no more than instructions -/
def SLO (s : RS) : Prop := 0 ≤ (s.i 42).toInt ∧ (s.i 42).toInt ≤ (s.i 20).toInt + 8
def SLC (s u : RS) : Prop := SLO s → (s.i 42).toInt ≤ (u.i 42).toInt ∧ SLO u
theorem SLC.tr {s u v : RS} (h : SLC s u) (g : SLC u v) : SLC s v := fun q => ⟨Int.le_trans (h q).1 (g (h q).2).1, (g (h q).2).2⟩
theorem SLC.eq {s u : RS} (h : u.i 42 = s.i 42) (l : (s.i 20).toInt ≤ (u.i 20).toInt) : SLC s u := fun q => ⟨by rw [h]; exact Int.le_refl _, by rw [h]; exact q.1, by rw [h]; exact Int.le_trans q.2 (by omega)⟩
/-- the reference: what was laid before c stays, the tables too -/
def CD2 (c : Int) (s u : RS) : Prop := ((s.i 20).toInt ≤ (u.i 20).toInt ∧ (s.i 24).toInt ≤ (u.i 24).toInt ∧ (s.i 29).toInt ≤ (u.i 29).toInt ∧ (s.i 33).toInt ≤ (u.i 33).toInt ∧ SLC s u ∧ u.i 52 = s.i 52) ∧ (∀ j : Nat, (j : Int) < c → u.a 21 j = s.a 21 j ∧ u.a 22 j = s.a 22 j ∧ u.a 23 j = s.a 23 j) ∧ (∀ j : Nat, (j : Int) < (s.i 24).toInt → u.a 25 j = s.a 25 j ∧ u.a 26 j = s.a 26 j ∧ u.a 27 j = s.a 27 j ∧ u.a 28 j = s.a 28 j) ∧ (∀ j : Nat, (j : Int) < (s.i 29).toInt → u.a 30 j = s.a 30 j ∧ u.a 31 j = s.a 31 j ∧ u.a 32 j = s.a 32 j) ∧ ∀ j : Nat, (j : Int) < (s.i 33).toInt → u.a 34 j = s.a 34 j ∧ u.a 35 j = s.a 35 j ∧ u.a 36 j = s.a 36 j ∧ u.a 37 j = s.a 37 j
theorem CD2.rf (c : Int) (s : RS) : CD2 c s s := ⟨⟨Int.le_refl _, Int.le_refl _, Int.le_refl _, Int.le_refl _, SLC.eq rfl (Int.le_refl _), rfl⟩, fun _ _ => ⟨rfl, rfl, rfl⟩, fun _ _ => ⟨rfl, rfl, rfl, rfl⟩, fun _ _ => ⟨rfl, rfl, rfl⟩, fun _ _ => ⟨rfl, rfl, rfl, rfl⟩⟩
theorem CD2.tr {c : Int} {s u v : RS} (h : CD2 c s u) (g : CD2 c u v) : CD2 c s v := by
  obtain ⟨⟨h1, h2, h3, h4, h9, h10⟩, h5, h6, h7, h8⟩ := h
  obtain ⟨⟨g1, g2, g3, g4, g9, g10⟩, g5, g6, g7, g8⟩ := g
  refine ⟨⟨by omega, by omega, by omega, by omega, h9.tr g9, g10.trans h10⟩, fun j hj => ?_, fun j hj => ?_, fun j hj => ?_, fun j hj => ?_⟩
  · have x := h5 j hj
    have y := g5 j hj
    exact ⟨y.1.trans x.1, y.2.1.trans x.2.1, y.2.2.trans x.2.2⟩
  · have x := h6 j hj
    have y := g6 j (by omega)
    exact ⟨y.1.trans x.1, y.2.1.trans x.2.1, y.2.2.1.trans x.2.2.1, y.2.2.2.trans x.2.2.2⟩
  · have x := h7 j hj
    have y := g7 j (by omega)
    exact ⟨y.1.trans x.1, y.2.1.trans x.2.1, y.2.2.trans x.2.2⟩
  · have x := h8 j hj
    have y := g8 j (by omega)
    exact ⟨y.1.trans x.1, y.2.1.trans x.2.1, y.2.2.1.trans x.2.2.1, y.2.2.2.trans x.2.2.2⟩
theorem CD2.wk {c c' : Int} {s u : RS} (h : CD2 c s u) (l : c' ≤ c) : CD2 c' s u := ⟨h.1, fun j hj => h.2.1 j (by omega), h.2.2⟩
theorem CD2.qe {c : Int} {s u : RS} (h : qe u = qe s) : CD2 c s u := by
  obtain ⟨⟨i1, i2, i3, i4, i5, i6⟩, a1, a2, a3, a4, a5, a6, a7, a8, a9, a10, a11, a12, a13, a14⟩ := qe_eq h
  exact ⟨⟨by rw [i1]; exact Int.le_refl _, by rw [i2]; exact Int.le_refl _, by rw [i3]; exact Int.le_refl _, by rw [i4]; exact Int.le_refl _, SLC.eq i5 (by rw [i1]; exact Int.le_refl _), i6⟩, fun j _ => ⟨by rw [a1], by rw [a2], by rw [a3]⟩, fun j _ => ⟨by rw [a4], by rw [a5], by rw [a6], by rw [a7]⟩, fun j _ => ⟨by rw [a8], by rw [a9], by rw [a10]⟩, fun j _ => ⟨by rw [a11], by rw [a12], by rw [a13], by rw [a14]⟩⟩
theorem cd_emit {N : Nat} {s : RS} {o x : Int32} {V : Int32 × RS} (e : f_X12_emit N s o x = some V) (h0 : 0 ≤ (s.i 20).toInt) (h1 : (s.i 20).toInt < 3000) : CD2 (s.i 20).toInt s V.2 ∧ V.1 = s.i 20 ∧ (V.2.i 20).toInt = (s.i 20).toInt + 1 ∧ (V.2.a 21 (pcR s) = o ∧ V.2.a 22 (pcR s) = x ∧ V.2.a 23 (pcR s) = 0) := by
  have e3 : (3000 : Int32).toInt = 3000 := by decide
  unfold f_X12_emit f_X12_emit_21 at e
  by_cases c : (3000 : Int32) ≤ s.i 20
  · have := le_int c
    omega
  rw [if_neg c] at e
  obtain ⟨hib, e⟩ := hf_ite e
  cases e
  have ck := clampI h0
  refine ⟨⟨⟨?_, Int.le_refl _, Int.le_refl _, Int.le_refl _, SLC.eq rfl ?_, rfl⟩, fun j hj => ⟨if_neg (by omega), if_neg (by omega), if_neg (by omega)⟩, fun _ _ => ⟨rfl, rfl, rfl, rfl⟩, fun _ _ => ⟨rfl, rfl, rfl⟩, fun _ _ => ⟨rfl, rfl, rfl, rfl⟩⟩, rfl, ?_, ⟨if_pos rfl, if_pos rfl, if_pos rfl⟩⟩
  · show (s.i 20).toInt ≤ (s.i 20 + 1).toInt
    rw [ad1 h0 (by omega)]
    omega
  · show (s.i 20).toInt ≤ (s.i 20 + 1).toInt
    rw [ad1 h0 (by omega)]
    omega
  · exact ad1 h0 (by omega)
end
section
/-! a piece of both codes, and that it runs alike -/
/-- the class at the end has what was laid from S to R -/
def FGC (S R SF : CS) : Prop := (0 ≤ (S.i 20).toInt ∧ (R.i 20).toInt ≤ 1200) ∧ (∀ j : Nat, (S.i 20).toInt ≤ (j : Int) → (j : Int) < (R.i 20).toInt → SF.a 15 j = R.a 15 j ∧ SF.a 16 j = R.a 16 j) ∧ ∀ k : Nat, (S.i 21).toInt ≤ (k : Int) → (k : Int) < (R.i 21).toInt → (0 ≤ (R.a 17 k).toInt ∨ (k : Int) + 1 < (R.i 21).toInt) → SF.a 17 k = R.a 17 k
/-- the reference at the end has what was laid from s to u -/
def FGR (s u U : RS) : Prop := (0 ≤ (s.i 20).toInt ∧ (u.i 20).toInt ≤ (U.i 20).toInt ∧ (U.i 20).toInt ≤ 3000) ∧ (∀ j : Nat, (s.i 20).toInt ≤ (j : Int) → (j : Int) < (u.i 20).toInt → U.a 21 j = u.a 21 j ∧ U.a 22 j = u.a 22 j ∧ U.a 23 j = u.a 23 j) ∧ (∀ j : Nat, (s.i 24).toInt ≤ (j : Int) → (j : Int) < (u.i 24).toInt → U.a 25 j = u.a 25 j ∧ U.a 26 j = u.a 26 j ∧ U.a 27 j = u.a 27 j ∧ U.a 28 j = u.a 28 j) ∧ (∀ j : Nat, (s.i 29).toInt ≤ (j : Int) → (j : Int) < (u.i 29).toInt → U.a 30 j = u.a 30 j ∧ U.a 31 j = u.a 31 j ∧ U.a 32 j = u.a 32 j) ∧ ∀ j : Nat, (s.i 33).toInt ≤ (j : Int) → (j : Int) < (u.i 33).toInt → U.a 34 j = u.a 34 j ∧ U.a 35 j = u.a 35 j ∧ U.a 36 j = u.a 36 j ∧ U.a 37 j = u.a 37 j
theorem FGC.sub {S R SF P Q : CS} {a b a' b' : Int} (h : FGC S R SF) (x : CD1 a a' S P) (y : CD1 b b' Q R) (t : CT7 (P.i 21).toInt (Q.i 21).toInt Q R) : FGC P Q SF := by
  obtain ⟨⟨h1, h2⟩, h3, h4⟩ := h
  obtain ⟨⟨x1, -⟩, -, x3, -⟩ := x
  obtain ⟨⟨y1, -⟩, y2, y3, -⟩ := y
  refine ⟨⟨by omega, by omega⟩, fun j j1 j2 => ?_, fun k k1 k2 k3 => ?_⟩
  · have u := h3 j (by omega) (by omega)
    have v := y2 j j2
    exact ⟨u.1.trans v.1, u.2.trans v.2⟩
  · exact (h4 k (by omega) (by omega) (k3.elim (fun q => Or.inl (by rw [t k k1 k2]; exact q)) (fun q => Or.inr (by omega)))).trans (t k k1 k2)
/-- what is laid between p and q stays to u -/
def CD3 (p q u : RS) : Prop := ∀ j : Nat, (p.i 20).toInt ≤ (j : Int) → (j : Int) < (q.i 20).toInt → u.a 21 j = q.a 21 j ∧ u.a 22 j = q.a 22 j ∧ u.a 23 j = q.a 23 j
theorem CD2.c3 {c : Int} {p q u : RS} (h : CD2 c q u) (l : (q.i 20).toInt ≤ c) : CD3 p q u := fun j _ hj => h.2.1 j (by omega)
theorem FGR.sub {s u U p q : RS} {c c' : Int} (h : FGR s u U) (x : CD2 c s p) (y : CD2 c' q u) (z : CD3 p q u) : FGR p q U := by
  obtain ⟨⟨h1, h2, h3⟩, h4, h5, h6, h7⟩ := h
  obtain ⟨⟨x1, x2, x3, x4, -⟩, -⟩ := x
  obtain ⟨⟨y1, y2, y3, y4, -⟩, -, y5, y6, y7⟩ := y
  refine ⟨⟨by omega, by omega, h3⟩, fun j j1 j2 => ?_, fun j j1 j2 => ?_, fun j j1 j2 => ?_, fun j j1 j2 => ?_⟩
  · have u1 := h4 j (by omega) (by omega)
    have v := z j j1 j2
    exact ⟨u1.1.trans v.1, u1.2.1.trans v.2.1, u1.2.2.trans v.2.2⟩
  · have u1 := h5 j (by omega) (by omega)
    have v := y5 j j2
    exact ⟨u1.1.trans v.1, u1.2.1.trans v.2.1, u1.2.2.1.trans v.2.2.1, u1.2.2.2.trans v.2.2.2⟩
  · have u1 := h6 j (by omega) (by omega)
    have v := y6 j j2
    exact ⟨u1.1.trans v.1, u1.2.1.trans v.2.1, u1.2.2.trans v.2.2⟩
  · have u1 := h7 j (by omega) (by omega)
    have v := y7 j j2
    exact ⟨u1.1.trans v.1, u1.2.1.trans v.2.1, u1.2.2.1.trans v.2.2.1, u1.2.2.2.trans v.2.2.2⟩
/-- cells and slots that entries keep lie below the counts -/
def NCB (c : List Ent) (S : CS) (s : RS) : Prop := SLO s ∧ ∀ e ∈ c, (∀ k : Nat, cel e k → (k : Int) < (S.i 23).toInt) ∧ ∀ l : Nat, slo e l → (l : Int) < (s.i 42).toInt
/-- the names: cells beside slots, or caught in a catch that is open -/
def NM4 (nm : Nat → Nat → Prop) (c : List Ent) (S : CS) (s : RS) : Prop := (∀ k : Nat, (k : Int) < (s.i 38).toInt → ((S.a 49 k).toInt < 0 → ∃ a b : Nat, (S.a 48 k).toInt = (a : Int) ∧ (s.a 40 k).toInt = (b : Int) ∧ nm a b) ∧ (0 ≤ (S.a 49 k).toInt → ∃ (c1 : List Ent) (e : Ent) (c0 : List Ent), c = c1 ++ e :: c0 ∧ e.k = 2 ∧ (S.a 48 k).toInt = (e.z : Int) ∧ (s.a 40 k).toInt = (e.w : Int) ∧ (S.a 49 k).toInt = (frs c0 : Int))) ∧ (frs c : Int) = (S.i 38).toInt ∧ (c.length : Int) = (s.i 52).toInt ∧ (frs c : Int) ≤ (s.i 19).toInt
def NMG (nm : Nat → Nat → Prop) (c : List Ent) (S : CS) (s : RS) : Prop := (∀ k : Nat, (k : Int) < (s.i 38).toInt → ((S.a 49 k).toInt < 0 → ∃ a b : Nat, (S.a 48 k).toInt = (a : Int) ∧ (s.a 40 k).toInt = (b : Int) ∧ nm a b) ∧ (0 ≤ (S.a 49 k).toInt → ∃ (c1 : List Ent) (e : Ent) (c0 : List Ent), c = c1 ++ e :: c0 ∧ e.k = 2 ∧ (S.a 48 k).toInt = (e.z : Int) ∧ (s.a 40 k).toInt = (e.w : Int) ∧ (S.a 49 k).toInt = (frs c0 : Int))) ∧ (frs c : Int) = (S.i 38).toInt ∧ (c.length : Int) = (s.i 52).toInt ∧ (frs c : Int) ≤ (s.i 19).toInt ∧ NCB c S s
theorem NMG.o {nm : Nat → Nat → Prop} {c : List Ent} {S : CS} {s : RS} (h : NMG nm c S s) : NM4 nm c S s := ⟨h.1, h.2.1, h.2.2.1, h.2.2.2.1⟩
theorem NM4.g {nm : Nat → Nat → Prop} {c : List Ent} {S : CS} {s : RS} (h : NM4 nm c S s) (g : NCB c S s) : NMG nm c S s := ⟨h.1, h.2.1, h.2.2.1, h.2.2.2, g⟩
theorem NCB.mv {c : List Ent} {S P : CS} {s q : RS} (h : NCB c S s) (x : (S.i 23).toInt ≤ (P.i 23).toInt) (y : SLC s q) : NCB c P q := ⟨(y h.1).2, fun e he => ⟨fun k hk => by have := (h.2 e he).1 k hk; omega, fun l hl => by have := (h.2 e he).2 l hl; have := (y h.1).1; omega⟩⟩
/-- what the entries cost in bytes -/
def msr (c : List Ent) : Nat := c.length + 3 * ops c
theorem msr_arm {h q : Nat} {c : List Ent} : msr ((5, h, q, 0, 0, 0, 0) :: c) = msr c + 1 := by
  show (c.length + 1) + 3 * (ops c + 0) = c.length + 3 * ops c + 1
  omega
theorem msr_len (c : List Ent) : c.length ≤ msr c := Nat.le_add_right _ _
theorem NM4.mv {nm : Nat → Nat → Prop} {c : List Ent} {S P : CS} {s q : RS} {d e : Int} (h : NM4 nm c S s) (n : S.i 50 = s.i 38) (x : CD1 d e S P) {c' : Int} (y : CD2 c' s q) (e38 : q.i 38 = s.i 38) (a40 : ∀ j : Nat, (j : Int) < (s.i 38).toInt → q.a 40 j = s.a 40 j) (l19 : (s.i 19).toInt ≤ (q.i 19).toInt) : NM4 nm c P q := by
  refine ⟨fun k hk => ?_, by rw [x.2.2.2.2.2.2.1]; exact h.2.1, by rw [y.1.2.2.2.2.2]; exact h.2.2.1, Int.le_trans h.2.2.2 l19⟩
  rw [e38] at hk
  obtain ⟨x1, x2⟩ := x.2.2.2.2.1 k (by rw [n]; exact hk)
  rw [x1, x2, a40 k hk]
  exact h.1 k hk
theorem NMG.mv {nm : Nat → Nat → Prop} {c : List Ent} {S P : CS} {s q : RS} {d e : Int} (h : NMG nm c S s) (n : S.i 50 = s.i 38) (x : CD1 d e S P) {c' : Int} (y : CD2 c' s q) (e38 : q.i 38 = s.i 38) (a40 : ∀ j : Nat, (j : Int) < (s.i 38).toInt → q.a 40 j = s.a 40 j) (l19 : (s.i 19).toInt ≤ (q.i 19).toInt) : NMG nm c P q := (h.o.mv n x y e38 a40 l19).g (h.2.2.2.2.mv x.2.2.2.2.2.1.1 y.1.2.2.2.2.1)
/-- what is chosen for the tries and names between, and what it must be -/
def GHA (F : Nat → Prop) (M : Nat → Nat → Prop) (FC : Nat → Prop) (nm : Nat → Nat → Prop) (S : CS) (s : RS) (R : CS) (u : RS) : Prop := (∀ y : Nat, (s.i 29).toInt ≤ (y : Int) → (y : Int) < (u.i 29).toInt → (FC y ↔ F y)) ∧ ∀ k l : Nat, ((S.i 23).toInt ≤ (k : Int) ∧ (k : Int) < (R.i 23).toInt) ∨ ((s.i 42).toInt ≤ (l : Int) ∧ (l : Int) < (u.i 42).toInt) → (nm k l ↔ M k l)
def GHM (M : Nat → Nat → Prop) (S : CS) (s : RS) (R : CS) (u : RS) : Prop := (∀ k l : Nat, M k l → ((S.i 23).toInt ≤ (k : Int) ∧ (k : Int) < (R.i 23).toInt) ∧ (s.i 42).toInt ≤ (l : Int) ∧ (l : Int) < (u.i 42).toInt) ∧ ∀ c l c' l' : Nat, M c l → M c' l' → (c = c' ↔ l = l')
def GPS : Type := (Nat → Prop) → (Nat → Nat → Prop) → Prop
def SAT (Ψ : GPS) (S : CS) (s : RS) (R : CS) (u : RS) : Prop := SLO s → SLO u ∧ ∃ (F : Nat → Prop) (M : Nat → Nat → Prop), GHM M S s R u ∧ ∀ (FC : Nat → Prop) (nm : Nat → Nat → Prop), GHA F M FC nm S s R u → Ψ FC nm
def GPS.tt : GPS := fun _ _ => True
def GPS.an (A B : GPS) : GPS := fun FC nm => A FC nm ∧ B FC nm
/-- the counts do not fall -/
def MNO (S : CS) (s : RS) (R : CS) (u : RS) : Prop := (S.i 23).toInt ≤ (R.i 23).toInt ∧ SLC s u ∧ (s.i 29).toInt ≤ (u.i 29).toInt
theorem MNO.of {d e c : Int} {S R : CS} {s u : RS} (x : CD1 d e S R) (y : CD2 c s u) : MNO S s R u := ⟨x.2.2.2.2.2.1.1, y.1.2.2.2.2.1, y.1.2.2.1⟩
theorem SAT.tt (S : CS) (s : RS) (R : CS) (u : RS) (c : SLC s u) : SAT GPS.tt S s R u := fun sl => ⟨(c sl).2, fun _ => True, fun _ _ => False, ⟨fun _ _ z => z.elim, fun _ _ _ _ z => z.elim⟩, fun _ _ _ => True.intro⟩
theorem SAT.wd {Ψ : GPS} {S P Q R : CS} {s p q u : RS} (h : SAT Ψ P p Q q) (a : MNO S s P p) (b : MNO Q q R u) : SAT Ψ S s R u := by
  intro sl
  obtain ⟨a1, a2, a3⟩ := a
  obtain ⟨b1, b2, b3⟩ := b
  obtain ⟨a2, slp⟩ := a2 sl
  obtain ⟨slq, F, M, ⟨m1, m2⟩, h⟩ := h slp
  obtain ⟨b2, slu⟩ := b2 slq
  refine ⟨slu, F, M, ⟨fun k l z => ?_, m2⟩, fun FC nm g => h FC nm ⟨fun y y1 y2 => g.1 y (by omega) (by omega), fun k l z => g.2 k l ?_⟩⟩
  · have := m1 k l z
    omega
  · omega
theorem SAT.an {A B : GPS} {S P R : CS} {s p u : RS} (h : SAT A S s P p) (g : SAT B P p R u) (a : MNO S s P p) (b : MNO P p R u) : SAT (GPS.an A B) S s R u := by
  intro sl
  obtain ⟨a1, a2, a3⟩ := a
  obtain ⟨b1, b2, b3⟩ := b
  obtain ⟨a2, -⟩ := a2 sl
  obtain ⟨slp, F, M, ⟨m1, m2⟩, h⟩ := h sl
  obtain ⟨slu, G, L, ⟨l1, l2⟩, g⟩ := g slp
  obtain ⟨b2, -⟩ := b2 slp
  refine ⟨slu, fun y => ((y : Int) < (p.i 29).toInt ∧ F y) ∨ (¬ (y : Int) < (p.i 29).toInt ∧ G y), fun k l => M k l ∨ L k l, ⟨fun k l z => ?_, fun c l c' l' z z' => ?_⟩, fun FC nm w => ⟨h FC nm ⟨fun y y1 y2 => ?_, fun k l z => ?_⟩, g FC nm ⟨fun y y1 y2 => ?_, fun k l z => ?_⟩⟩⟩
  · rcases z with z | z
    · have := m1 k l z
      omega
    · have := l1 k l z
      omega
  · rcases z with z | z <;> rcases z' with z' | z'
    · exact m2 c l c' l' z z'
    · have x := m1 c l z
      have y := l1 c' l' z'
      exact ⟨fun e => by omega, fun e => by omega⟩
    · have x := l1 c l z
      have y := m1 c' l' z'
      exact ⟨fun e => by omega, fun e => by omega⟩
    · exact l2 c l c' l' z z'
  · rw [w.1 y y1 (by omega)]
    exact ⟨fun e => e.elim (fun e => e.2) (fun e => absurd y2 e.1), fun e => Or.inl ⟨y2, e⟩⟩
  · rw [w.2 k l (by omega)]
    exact ⟨fun e => e.elim id (fun e => by have := l1 k l e; omega), Or.inl⟩
  · rw [w.1 y (by omega) y2]
    exact ⟨fun e => e.elim (fun e => by omega) (fun e => e.2), fun e => Or.inr ⟨by omega, e⟩⟩
  · rw [w.2 k l (by omega)]
    exact ⟨fun e => e.elim (fun e => by have := m1 k l e; omega) id, Or.inr⟩
/-- from S, s to R, u: what is good behind it (n values more) is good before it (m values more) -/
def RNZ0 (Ψ : GPS) (m n : Nat) (G : Nat → Prop) (g : Nat) (U : RS) (S : CS) (s : RS) (R : CS) (u : RS) : Prop := ∀ (FC : Nat → Prop) (SF : CS) (nm : Nat → Nat → Prop) (X : Als) (c : List Ent) (h w W g0 : Nat), Ψ FC nm → FGC S R SF → FGR s u U → NMG nm c S s → HC0 nm h c → ((2 * h + m + msr c : Nat) : Int) ≤ (s.i 11).toInt → TYC SF U (GU FC SF U nm X) W c → W + 1 ≤ w → G g0 → GU FC SF U nm X (pcC R) (pcR u) (h + n) w g c → GU FC SF U nm X (pcC S) (pcR s) (h + m) (w + (pcC R - pcC S)) g0 c
def RNY (m n : Nat) (G : Nat → Prop) (g : Nat) (U : RS) (S : CS) (s : RS) (R : CS) (u : RS) : Prop := ∃ Ψ : GPS, SAT Ψ S s R u ∧ RNZ0 Ψ m n G g U S s R u
/-- a formula: one value more -/
def CDE (g : Nat) (U : RS) (S : CS) (s : RS) (R : CS) (u : RS) : Prop := CRB S → CD1 0 (-1) S R ∧ CT7 0 (S.i 21).toInt S R ∧ CD2 (s.i 20).toInt s u ∧ RNY 0 1 (fun _ => True) g U S s R u
end
section
theorem dX0_init_0 : decode cX0_init 0 = .ok (.aload_n 0, 1) := by decide +kernel
theorem dX0_init_1 : decode cX0_init 1 = .ok (.invokespecial 3, 3) := by decide +kernel
theorem dX0_init_4 : decode cX0_init 4 = .ok (.aload_n 0, 1) := by decide +kernel
theorem dX0_init_5 : decode cX0_init 5 = .ok (.sipush 1200, 3) := by decide +kernel
theorem dX0_init_8 : decode cX0_init 8 = .ok (.newarray .int, 2) := by decide +kernel
theorem dX0_init_10 : decode cX0_init 10 = .ok (.putfield 9, 3) := by decide +kernel
theorem dX0_init_13 : decode cX0_init 13 = .ok (.aload_n 0, 1) := by decide +kernel
theorem dX0_init_14 : decode cX0_init 14 = .ok (.sipush 1200, 3) := by decide +kernel
theorem dX0_init_17 : decode cX0_init 17 = .ok (.newarray .int, 2) := by decide +kernel
theorem dX0_init_19 : decode cX0_init 19 = .ok (.putfield 15, 3) := by decide +kernel
theorem dX0_init_22 : decode cX0_init 22 = .ok (.aload_n 0, 1) := by decide +kernel
theorem dX0_init_23 : decode cX0_init 23 = .ok (.sipush 1024, 3) := by decide +kernel
theorem dX0_init_26 : decode cX0_init 26 = .ok (.newarray .int, 2) := by decide +kernel
theorem dX0_init_28 : decode cX0_init 28 = .ok (.putfield 18, 3) := by decide +kernel
theorem dX0_init_31 : decode cX0_init 31 = .ok (.aload_n 0, 1) := by decide +kernel
theorem dX0_init_32 : decode cX0_init 32 = .ok (.sipush 320, 3) := by decide +kernel
theorem dX0_init_35 : decode cX0_init 35 = .ok (.newarray .int, 2) := by decide +kernel
theorem dX0_init_37 : decode cX0_init 37 = .ok (.putfield 21, 3) := by decide +kernel
theorem dX0_init_40 : decode cX0_init 40 = .ok (.aload_n 0, 1) := by decide +kernel
theorem dX0_init_41 : decode cX0_init 41 = .ok (.sipush 320, 3) := by decide +kernel
theorem dX0_init_44 : decode cX0_init 44 = .ok (.newarray .int, 2) := by decide +kernel
theorem dX0_init_46 : decode cX0_init 46 = .ok (.putfield 24, 3) := by decide +kernel
theorem dX0_init_49 : decode cX0_init 49 = .ok (.return_, 1) := by decide +kernel
theorem dX1_init_0 : decode cX1_init 0 = .ok (.aload_n 0, 1) := by decide +kernel
theorem dX1_init_1 : decode cX1_init 1 = .ok (.invokespecial 3, 3) := by decide +kernel
theorem dX1_init_4 : decode cX1_init 4 = .ok (.aload_n 0, 1) := by decide +kernel
theorem dX1_init_5 : decode cX1_init 5 = .ok (.new 9, 3) := by decide +kernel
theorem dX1_init_8 : decode cX1_init 8 = .ok (.dup, 1) := by decide +kernel
theorem dX1_init_9 : decode cX1_init 9 = .ok (.invokespecial 11, 3) := by decide +kernel
theorem dX1_init_12 : decode cX1_init 12 = .ok (.putfield 12, 3) := by decide +kernel
theorem dX1_init_15 : decode cX1_init 15 = .ok (.aload_n 0, 1) := by decide +kernel
theorem dX1_init_16 : decode cX1_init 16 = .ok (.aload_n 1, 1) := by decide +kernel
theorem dX1_init_17 : decode cX1_init 17 = .ok (.putfield 18, 3) := by decide +kernel
theorem dX1_init_20 : decode cX1_init 20 = .ok (.aload_n 0, 1) := by decide +kernel
theorem dX1_init_21 : decode cX1_init 21 = .ok (.aload_n 2, 1) := by decide +kernel
theorem dX1_init_22 : decode cX1_init 22 = .ok (.putfield 22, 3) := by decide +kernel
theorem dX1_init_25 : decode cX1_init 25 = .ok (.aload_n 0, 1) := by decide +kernel
theorem dX1_init_26 : decode cX1_init 26 = .ok (.aload_n 3, 1) := by decide +kernel
theorem dX1_init_27 : decode cX1_init 27 = .ok (.putfield 26, 3) := by decide +kernel
theorem dX1_init_30 : decode cX1_init 30 = .ok (.return_, 1) := by decide +kernel
theorem dX3_init_0 : decode cX3_init 0 = .ok (.aload_n 0, 1) := by decide +kernel
theorem dX3_init_1 : decode cX3_init 1 = .ok (.invokespecial 3, 3) := by decide +kernel
theorem dX3_init_4 : decode cX3_init 4 = .ok (.aload_n 0, 1) := by decide +kernel
theorem dX3_init_5 : decode cX3_init 5 = .ok (.sipush 720, 3) := by decide +kernel
theorem dX3_init_8 : decode cX3_init 8 = .ok (.newarray .int, 2) := by decide +kernel
theorem dX3_init_10 : decode cX3_init 10 = .ok (.putfield 9, 3) := by decide +kernel
theorem dX3_init_13 : decode cX3_init 13 = .ok (.aload_n 0, 1) := by decide +kernel
theorem dX3_init_14 : decode cX3_init 14 = .ok (.sipush 600, 3) := by decide +kernel
theorem dX3_init_17 : decode cX3_init 17 = .ok (.newarray .int, 2) := by decide +kernel
theorem dX3_init_19 : decode cX3_init 19 = .ok (.putfield 15, 3) := by decide +kernel
theorem dX3_init_22 : decode cX3_init 22 = .ok (.aload_n 0, 1) := by decide +kernel
theorem dX3_init_23 : decode cX3_init 23 = .ok (.bipush 24, 2) := by decide +kernel
theorem dX3_init_25 : decode cX3_init 25 = .ok (.anewarray 18, 3) := by decide +kernel
theorem dX3_init_28 : decode cX3_init 28 = .ok (.putfield 20, 3) := by decide +kernel
theorem dX3_init_31 : decode cX3_init 31 = .ok (.aload_n 0, 1) := by decide +kernel
theorem dX3_init_32 : decode cX3_init 32 = .ok (.bipush 24, 2) := by decide +kernel
theorem dX3_init_34 : decode cX3_init 34 = .ok (.anewarray 24, 3) := by decide +kernel
theorem dX3_init_37 : decode cX3_init 37 = .ok (.putfield 26, 3) := by decide +kernel
theorem dX3_init_40 : decode cX3_init 40 = .ok (.aload_n 0, 1) := by decide +kernel
theorem dX3_init_41 : decode cX3_init 41 = .ok (.sipush 320, 3) := by decide +kernel
theorem dX3_init_44 : decode cX3_init 44 = .ok (.newarray .int, 2) := by decide +kernel
theorem dX3_init_46 : decode cX3_init 46 = .ok (.putfield 30, 3) := by decide +kernel
theorem dX3_init_49 : decode cX3_init 49 = .ok (.aload_n 0, 1) := by decide +kernel
theorem dX3_init_50 : decode cX3_init 50 = .ok (.sipush 400, 3) := by decide +kernel
theorem dX3_init_53 : decode cX3_init 53 = .ok (.newarray .int, 2) := by decide +kernel
theorem dX3_init_55 : decode cX3_init 55 = .ok (.putfield 33, 3) := by decide +kernel
theorem dX3_init_58 : decode cX3_init 58 = .ok (.aload_n 0, 1) := by decide +kernel
theorem dX3_init_59 : decode cX3_init 59 = .ok (.aload_n 1, 1) := by decide +kernel
theorem dX3_init_60 : decode cX3_init 60 = .ok (.putfield 36, 3) := by decide +kernel
theorem dX3_init_63 : decode cX3_init 63 = .ok (.aload_n 0, 1) := by decide +kernel
theorem dX3_init_64 : decode cX3_init 64 = .ok (.aload_n 2, 1) := by decide +kernel
theorem dX3_init_65 : decode cX3_init 65 = .ok (.putfield 40, 3) := by decide +kernel
theorem dX3_init_68 : decode cX3_init 68 = .ok (.return_, 1) := by decide +kernel
theorem dX4_init_0 : decode cX4_init 0 = .ok (.aload_n 0, 1) := by decide +kernel
theorem dX4_init_1 : decode cX4_init 1 = .ok (.invokespecial 1, 3) := by decide +kernel
theorem dX4_init_4 : decode cX4_init 4 = .ok (.aload_n 0, 1) := by decide +kernel
theorem dX4_init_5 : decode cX4_init 5 = .ok (.sipush 128, 3) := by decide +kernel
theorem dX4_init_8 : decode cX4_init 8 = .ok (.newarray .long, 2) := by decide +kernel
theorem dX4_init_10 : decode cX4_init 10 = .ok (.putfield 7, 3) := by decide +kernel
theorem dX4_init_13 : decode cX4_init 13 = .ok (.aload_n 0, 1) := by decide +kernel
theorem dX4_init_14 : decode cX4_init 14 = .ok (.sipush 128, 3) := by decide +kernel
theorem dX4_init_17 : decode cX4_init 17 = .ok (.newarray .int, 2) := by decide +kernel
theorem dX4_init_19 : decode cX4_init 19 = .ok (.putfield 13, 3) := by decide +kernel
theorem dX4_init_22 : decode cX4_init 22 = .ok (.aload_n 0, 1) := by decide +kernel
theorem dX4_init_23 : decode cX4_init 23 = .ok (.sipush 128, 3) := by decide +kernel
theorem dX4_init_26 : decode cX4_init 26 = .ok (.newarray .int, 2) := by decide +kernel
theorem dX4_init_28 : decode cX4_init 28 = .ok (.putfield 17, 3) := by decide +kernel
theorem dX4_init_31 : decode cX4_init 31 = .ok (.return_, 1) := by decide +kernel
theorem dX6_init_0 : decode cX6_init 0 = .ok (.aload_n 0, 1) := by decide +kernel
theorem dX6_init_1 : decode cX6_init 1 = .ok (.invokespecial 3, 3) := by decide +kernel
theorem dX6_init_4 : decode cX6_init 4 = .ok (.aload_n 0, 1) := by decide +kernel
theorem dX6_init_5 : decode cX6_init 5 = .ok (.sipush 400, 3) := by decide +kernel
theorem dX6_init_8 : decode cX6_init 8 = .ok (.anewarray 9, 3) := by decide +kernel
theorem dX6_init_11 : decode cX6_init 11 = .ok (.putfield 11, 3) := by decide +kernel
theorem dX6_init_14 : decode cX6_init 14 = .ok (.aload_n 0, 1) := by decide +kernel
theorem dX6_init_15 : decode cX6_init 15 = .ok (.sipush 160, 3) := by decide +kernel
theorem dX6_init_18 : decode cX6_init 18 = .ok (.newarray .int, 2) := by decide +kernel
theorem dX6_init_20 : decode cX6_init 20 = .ok (.putfield 17, 3) := by decide +kernel
theorem dX6_init_23 : decode cX6_init 23 = .ok (.return_, 1) := by decide +kernel
theorem dX7_init_0 : decode cX7_init 0 = .ok (.aload_n 0, 1) := by decide +kernel
theorem dX7_init_1 : decode cX7_init 1 = .ok (.aload_n 1, 1) := by decide +kernel
theorem dX7_init_2 : decode cX7_init 2 = .ok (.aload_n 2, 1) := by decide +kernel
theorem dX7_init_3 : decode cX7_init 3 = .ok (.aload_n 3, 1) := by decide +kernel
theorem dX7_init_4 : decode cX7_init 4 = .ok (.invokespecial 3, 3) := by decide +kernel
theorem dX7_init_7 : decode cX7_init 7 = .ok (.aload_n 0, 1) := by decide +kernel
theorem dX7_init_8 : decode cX7_init 8 = .ok (.new 9, 3) := by decide +kernel
theorem dX7_init_11 : decode cX7_init 11 = .ok (.dup, 1) := by decide +kernel
theorem dX7_init_12 : decode cX7_init 12 = .ok (.invokespecial 11, 3) := by decide +kernel
theorem dX7_init_15 : decode cX7_init 15 = .ok (.putfield 14, 3) := by decide +kernel
theorem dX7_init_18 : decode cX7_init 18 = .ok (.return_, 1) := by decide +kernel
theorem dX9_init_0 : decode cX9_init 0 = .ok (.aload_n 0, 1) := by decide +kernel
theorem dX9_init_1 : decode cX9_init 1 = .ok (.invokespecial 3, 3) := by decide +kernel
theorem dX9_init_4 : decode cX9_init 4 = .ok (.aload_n 0, 1) := by decide +kernel
theorem dX9_init_5 : decode cX9_init 5 = .ok (.bipush 25, 2) := by decide +kernel
theorem dX9_init_7 : decode cX9_init 7 = .ok (.newarray .long, 2) := by decide +kernel
theorem dX9_init_9 : decode cX9_init 9 = .ok (.putfield 9, 3) := by decide +kernel
theorem dX9_init_12 : decode cX9_init 12 = .ok (.aload_n 0, 1) := by decide +kernel
theorem dX9_init_13 : decode cX9_init 13 = .ok (.aload_n 1, 1) := by decide +kernel
theorem dX9_init_14 : decode cX9_init 14 = .ok (.putfield 15, 3) := by decide +kernel
theorem dX9_init_17 : decode cX9_init 17 = .ok (.iconst 0, 1) := by decide +kernel
theorem dX9_init_18 : decode cX9_init 18 = .ok (.istore_n 2, 1) := by decide +kernel
theorem dX9_init_19 : decode cX9_init 19 = .ok (.iconst 0, 1) := by decide +kernel
theorem dX9_init_20 : decode cX9_init 20 = .ok (.istore_n 3, 1) := by decide +kernel
theorem dX9_init_21 : decode cX9_init 21 = .ok (.iload_n 3, 1) := by decide +kernel
theorem dX9_init_22 : decode cX9_init 22 = .ok (.ldc 19, 2) := by decide +kernel
theorem dX9_init_24 : decode cX9_init 24 = .ok (.invokevirtual 21, 3) := by decide +kernel
theorem dX9_init_27 : decode cX9_init 27 = .ok (.if_icmp .ge 55, 3) := by decide +kernel
theorem dX9_init_30 : decode cX9_init 30 = .ok (.ldc 19, 2) := by decide +kernel
theorem dX9_init_32 : decode cX9_init 32 = .ok (.iload_n 3, 1) := by decide +kernel
theorem dX9_init_33 : decode cX9_init 33 = .ok (.invokevirtual 27, 3) := by decide +kernel
theorem dX9_init_36 : decode cX9_init 36 = .ok (.bipush 32, 2) := by decide +kernel
theorem dX9_init_38 : decode cX9_init 38 = .ok (.if_icmp .ne 9, 3) := by decide +kernel
theorem dX9_init_41 : decode cX9_init 41 = .ok (.iinc 2 1, 3) := by decide +kernel
theorem dX9_init_44 : decode cX9_init 44 = .ok (.goto 32, 3) := by decide +kernel
theorem dX9_init_47 : decode cX9_init 47 = .ok (.iload_n 2, 1) := by decide +kernel
theorem dX9_init_48 : decode cX9_init 48 = .ok (.bipush 25, 2) := by decide +kernel
theorem dX9_init_50 : decode cX9_init 50 = .ok (.if_icmp .ge 26, 3) := by decide +kernel
theorem dX9_init_53 : decode cX9_init 53 = .ok (.aload_n 0, 1) := by decide +kernel
theorem dX9_init_54 : decode cX9_init 54 = .ok (.getfield 9, 3) := by decide +kernel
theorem dX9_init_57 : decode cX9_init 57 = .ok (.iload_n 2, 1) := by decide +kernel
theorem dX9_init_58 : decode cX9_init 58 = .ok (.aload_n 0, 1) := by decide +kernel
theorem dX9_init_59 : decode cX9_init 59 = .ok (.getfield 9, 3) := by decide +kernel
theorem dX9_init_62 : decode cX9_init 62 = .ok (.iload_n 2, 1) := by decide +kernel
theorem dX9_init_63 : decode cX9_init 63 = .ok (.laload, 1) := by decide +kernel
theorem dX9_init_64 : decode cX9_init 64 = .ok (.bipush 8, 2) := by decide +kernel
theorem dX9_init_66 : decode cX9_init 66 = .ok (.lshl, 1) := by decide +kernel
theorem dX9_init_67 : decode cX9_init 67 = .ok (.ldc 19, 2) := by decide +kernel
theorem dX9_init_69 : decode cX9_init 69 = .ok (.iload_n 3, 1) := by decide +kernel
theorem dX9_init_70 : decode cX9_init 70 = .ok (.invokevirtual 27, 3) := by decide +kernel
theorem dX9_init_73 : decode cX9_init 73 = .ok (.i2l, 1) := by decide +kernel
theorem dX9_init_74 : decode cX9_init 74 = .ok (.lor, 1) := by decide +kernel
theorem dX9_init_75 : decode cX9_init 75 = .ok (.lastore, 1) := by decide +kernel
theorem dX9_init_76 : decode cX9_init 76 = .ok (.iinc 3 1, 3) := by decide +kernel
theorem dX9_init_79 : decode cX9_init 79 = .ok (.goto (-58), 3) := by decide +kernel
theorem dX9_init_82 : decode cX9_init 82 = .ok (.return_, 1) := by decide +kernel
theorem dX10_init_0 : decode cX10_init 0 = .ok (.aload_n 0, 1) := by decide +kernel
theorem dX10_init_1 : decode cX10_init 1 = .ok (.invokespecial 3, 3) := by decide +kernel
theorem dX10_init_4 : decode cX10_init 4 = .ok (.aload_n 0, 1) := by decide +kernel
theorem dX10_init_5 : decode cX10_init 5 = .ok (.bipush 12, 2) := by decide +kernel
theorem dX10_init_7 : decode cX10_init 7 = .ok (.newarray .int, 2) := by decide +kernel
theorem dX10_init_9 : decode cX10_init 9 = .ok (.putfield 9, 3) := by decide +kernel
theorem dX10_init_12 : decode cX10_init 12 = .ok (.aload_n 0, 1) := by decide +kernel
theorem dX10_init_13 : decode cX10_init 13 = .ok (.bipush 8, 2) := by decide +kernel
theorem dX10_init_15 : decode cX10_init 15 = .ok (.newarray .int, 2) := by decide +kernel
theorem dX10_init_17 : decode cX10_init 17 = .ok (.putfield 15, 3) := by decide +kernel
theorem dX10_init_20 : decode cX10_init 20 = .ok (.aload_n 0, 1) := by decide +kernel
theorem dX10_init_21 : decode cX10_init 21 = .ok (.bipush 8, 2) := by decide +kernel
theorem dX10_init_23 : decode cX10_init 23 = .ok (.newarray .int, 2) := by decide +kernel
theorem dX10_init_25 : decode cX10_init 25 = .ok (.putfield 18, 3) := by decide +kernel
theorem dX10_init_28 : decode cX10_init 28 = .ok (.aload_n 0, 1) := by decide +kernel
theorem dX10_init_29 : decode cX10_init 29 = .ok (.bipush 8, 2) := by decide +kernel
theorem dX10_init_31 : decode cX10_init 31 = .ok (.newarray .int, 2) := by decide +kernel
theorem dX10_init_33 : decode cX10_init 33 = .ok (.putfield 21, 3) := by decide +kernel
theorem dX10_init_36 : decode cX10_init 36 = .ok (.aload_n 0, 1) := by decide +kernel
theorem dX10_init_37 : decode cX10_init 37 = .ok (.iconst 4, 1) := by decide +kernel
theorem dX10_init_38 : decode cX10_init 38 = .ok (.putfield 24, 3) := by decide +kernel
theorem dX10_init_41 : decode cX10_init 41 = .ok (.aload_n 0, 1) := by decide +kernel
theorem dX10_init_42 : decode cX10_init 42 = .ok (.getfield 9, 3) := by decide +kernel
theorem dX10_init_45 : decode cX10_init 45 = .ok (.iconst 0, 1) := by decide +kernel
theorem dX10_init_46 : decode cX10_init 46 = .ok (.iconst (-1), 1) := by decide +kernel
theorem dX10_init_47 : decode cX10_init 47 = .ok (.iastore, 1) := by decide +kernel
theorem dX10_init_48 : decode cX10_init 48 = .ok (.iconst 0, 1) := by decide +kernel
theorem dX10_init_49 : decode cX10_init 49 = .ok (.istore_n 1, 1) := by decide +kernel
theorem dX10_init_50 : decode cX10_init 50 = .ok (.iload_n 1, 1) := by decide +kernel
theorem dX10_init_51 : decode cX10_init 51 = .ok (.bipush 8, 2) := by decide +kernel
theorem dX10_init_53 : decode cX10_init 53 = .ok (.if_icmp .ge 23, 3) := by decide +kernel
theorem dX10_init_56 : decode cX10_init 56 = .ok (.aload_n 0, 1) := by decide +kernel
theorem dX10_init_57 : decode cX10_init 57 = .ok (.getfield 18, 3) := by decide +kernel
theorem dX10_init_60 : decode cX10_init 60 = .ok (.iload_n 1, 1) := by decide +kernel
theorem dX10_init_61 : decode cX10_init 61 = .ok (.iconst (-1), 1) := by decide +kernel
theorem dX10_init_62 : decode cX10_init 62 = .ok (.iastore, 1) := by decide +kernel
theorem dX10_init_63 : decode cX10_init 63 = .ok (.aload_n 0, 1) := by decide +kernel
theorem dX10_init_64 : decode cX10_init 64 = .ok (.getfield 21, 3) := by decide +kernel
theorem dX10_init_67 : decode cX10_init 67 = .ok (.iload_n 1, 1) := by decide +kernel
theorem dX10_init_68 : decode cX10_init 68 = .ok (.iconst (-1), 1) := by decide +kernel
theorem dX10_init_69 : decode cX10_init 69 = .ok (.iastore, 1) := by decide +kernel
theorem dX10_init_70 : decode cX10_init 70 = .ok (.iinc 1 1, 3) := by decide +kernel
theorem dX10_init_73 : decode cX10_init 73 = .ok (.goto (-23), 3) := by decide +kernel
theorem dX10_init_76 : decode cX10_init 76 = .ok (.return_, 1) := by decide +kernel
theorem dX11_init_0 : decode cX11_init 0 = .ok (.aload_n 0, 1) := by decide +kernel
theorem dX11_init_1 : decode cX11_init 1 = .ok (.invokespecial 1, 3) := by decide +kernel
theorem dX11_init_4 : decode cX11_init 4 = .ok (.aload_n 0, 1) := by decide +kernel
theorem dX11_init_5 : decode cX11_init 5 = .ok (.sipush 900, 3) := by decide +kernel
theorem dX11_init_8 : decode cX11_init 8 = .ok (.newarray .int, 2) := by decide +kernel
theorem dX11_init_10 : decode cX11_init 10 = .ok (.putfield 9, 3) := by decide +kernel
theorem dX11_init_13 : decode cX11_init 13 = .ok (.aload_n 0, 1) := by decide +kernel
theorem dX11_init_14 : decode cX11_init 14 = .ok (.new 13, 3) := by decide +kernel
theorem dX11_init_17 : decode cX11_init 17 = .ok (.dup, 1) := by decide +kernel
theorem dX11_init_18 : decode cX11_init 18 = .ok (.invokespecial 15, 3) := by decide +kernel
theorem dX11_init_21 : decode cX11_init 21 = .ok (.putfield 16, 3) := by decide +kernel
theorem dX11_init_24 : decode cX11_init 24 = .ok (.aload_n 0, 1) := by decide +kernel
theorem dX11_init_25 : decode cX11_init 25 = .ok (.new 20, 3) := by decide +kernel
theorem dX11_init_28 : decode cX11_init 28 = .ok (.dup, 1) := by decide +kernel
theorem dX11_init_29 : decode cX11_init 29 = .ok (.invokespecial 22, 3) := by decide +kernel
theorem dX11_init_32 : decode cX11_init 32 = .ok (.putfield 23, 3) := by decide +kernel
theorem dX11_init_35 : decode cX11_init 35 = .ok (.aload_n 0, 1) := by decide +kernel
theorem dX11_init_36 : decode cX11_init 36 = .ok (.new 27, 3) := by decide +kernel
theorem dX11_init_39 : decode cX11_init 39 = .ok (.dup, 1) := by decide +kernel
theorem dX11_init_40 : decode cX11_init 40 = .ok (.new 29, 3) := by decide +kernel
theorem dX11_init_43 : decode cX11_init 43 = .ok (.dup, 1) := by decide +kernel
theorem dX11_init_44 : decode cX11_init 44 = .ok (.aload_n 0, 1) := by decide +kernel
theorem dX11_init_45 : decode cX11_init 45 = .ok (.getfield 9, 3) := by decide +kernel
theorem dX11_init_48 : decode cX11_init 48 = .ok (.invokespecial 31, 3) := by decide +kernel
theorem dX11_init_51 : decode cX11_init 51 = .ok (.aload_n 0, 1) := by decide +kernel
theorem dX11_init_52 : decode cX11_init 52 = .ok (.getfield 23, 3) := by decide +kernel
theorem dX11_init_55 : decode cX11_init 55 = .ok (.aload_n 0, 1) := by decide +kernel
theorem dX11_init_56 : decode cX11_init 56 = .ok (.getfield 16, 3) := by decide +kernel
theorem dX11_init_59 : decode cX11_init 59 = .ok (.invokespecial 34, 3) := by decide +kernel
theorem dX11_init_62 : decode cX11_init 62 = .ok (.putfield 37, 3) := by decide +kernel
theorem dX11_init_65 : decode cX11_init 65 = .ok (.aload_n 0, 1) := by decide +kernel
theorem dX11_init_66 : decode cX11_init 66 = .ok (.new 41, 3) := by decide +kernel
theorem dX11_init_69 : decode cX11_init 69 = .ok (.dup, 1) := by decide +kernel
theorem dX11_init_70 : decode cX11_init 70 = .ok (.aload_n 0, 1) := by decide +kernel
theorem dX11_init_71 : decode cX11_init 71 = .ok (.getfield 16, 3) := by decide +kernel
theorem dX11_init_74 : decode cX11_init 74 = .ok (.aload_n 0, 1) := by decide +kernel
theorem dX11_init_75 : decode cX11_init 75 = .ok (.getfield 23, 3) := by decide +kernel
theorem dX11_init_78 : decode cX11_init 78 = .ok (.invokespecial 43, 3) := by decide +kernel
theorem dX11_init_81 : decode cX11_init 81 = .ok (.putfield 46, 3) := by decide +kernel
theorem dX11_init_84 : decode cX11_init 84 = .ok (.return_, 1) := by decide +kernel
theorem dX11_rounds_0 : decode cX11_rounds 0 = .ok (.iload_n 1, 1) := by decide +kernel
theorem dX11_rounds_1 : decode cX11_rounds 1 = .ok (.ifCond .lt 7, 3) := by decide +kernel
theorem dX11_rounds_4 : decode cX11_rounds 4 = .ok (.iload_n 2, 1) := by decide +kernel
theorem dX11_rounds_5 : decode cX11_rounds 5 = .ok (.ifCond .ge 5, 3) := by decide +kernel
theorem dX11_rounds_8 : decode cX11_rounds 8 = .ok (.iconst (-1), 1) := by decide +kernel
theorem dX11_rounds_9 : decode cX11_rounds 9 = .ok (.ireturn, 1) := by decide +kernel
theorem dX11_rounds_10 : decode cX11_rounds 10 = .ok (.iload_n 2, 1) := by decide +kernel
theorem dX11_rounds_11 : decode cX11_rounds 11 = .ok (.ifCond .ne 11, 3) := by decide +kernel
theorem dX11_rounds_14 : decode cX11_rounds 14 = .ok (.new 148, 3) := by decide +kernel
theorem dX11_rounds_17 : decode cX11_rounds 17 = .ok (.dup, 1) := by decide +kernel
theorem dX11_rounds_18 : decode cX11_rounds 18 = .ok (.invokespecial 150, 3) := by decide +kernel
theorem dX11_rounds_21 : decode cX11_rounds 21 = .ok (.athrow, 1) := by decide +kernel
theorem dX11_rounds_22 : decode cX11_rounds 22 = .ok (.iload_n 1, 1) := by decide +kernel
theorem dX11_rounds_23 : decode cX11_rounds 23 = .ok (.iload_n 2, 1) := by decide +kernel
theorem dX11_rounds_24 : decode cX11_rounds 24 = .ok (.idiv, 1) := by decide +kernel
theorem dX11_rounds_25 : decode cX11_rounds 25 = .ok (.iload_n 1, 1) := by decide +kernel
theorem dX11_rounds_26 : decode cX11_rounds 26 = .ok (.iload_n 2, 1) := by decide +kernel
theorem dX11_rounds_27 : decode cX11_rounds 27 = .ok (.irem, 1) := by decide +kernel
theorem dX11_rounds_28 : decode cX11_rounds 28 = .ok (.ifCond .ne 7, 3) := by decide +kernel
theorem dX11_rounds_31 : decode cX11_rounds 31 = .ok (.iconst 0, 1) := by decide +kernel
theorem dX11_rounds_32 : decode cX11_rounds 32 = .ok (.goto 4, 3) := by decide +kernel
theorem dX11_rounds_35 : decode cX11_rounds 35 = .ok (.iconst 1, 1) := by decide +kernel
theorem dX11_rounds_36 : decode cX11_rounds 36 = .ok (.iadd, 1) := by decide +kernel
theorem dX11_rounds_37 : decode cX11_rounds 37 = .ok (.ireturn, 1) := by decide +kernel
theorem dX12_init_0 : decode cX12_init 0 = .ok (.aload_n 0, 1) := by decide +kernel
theorem dX12_init_1 : decode cX12_init 1 = .ok (.invokespecial 1, 3) := by decide +kernel
theorem dX12_init_4 : decode cX12_init 4 = .ok (.aload_n 0, 1) := by decide +kernel
theorem dX12_init_5 : decode cX12_init 5 = .ok (.sipush 900, 3) := by decide +kernel
theorem dX12_init_8 : decode cX12_init 8 = .ok (.newarray .int, 2) := by decide +kernel
theorem dX12_init_10 : decode cX12_init 10 = .ok (.putfield 7, 3) := by decide +kernel
theorem dX12_init_13 : decode cX12_init 13 = .ok (.aload_n 0, 1) := by decide +kernel
theorem dX12_init_14 : decode cX12_init 14 = .ok (.iconst 4, 1) := by decide +kernel
theorem dX12_init_15 : decode cX12_init 15 = .ok (.putfield 13, 3) := by decide +kernel
theorem dX12_init_18 : decode cX12_init 18 = .ok (.aload_n 0, 1) := by decide +kernel
theorem dX12_init_19 : decode cX12_init 19 = .ok (.bipush 12, 2) := by decide +kernel
theorem dX12_init_21 : decode cX12_init 21 = .ok (.newarray .int, 2) := by decide +kernel
theorem dX12_init_23 : decode cX12_init 23 = .ok (.putfield 17, 3) := by decide +kernel
theorem dX12_init_26 : decode cX12_init 26 = .ok (.aload_n 0, 1) := by decide +kernel
theorem dX12_init_27 : decode cX12_init 27 = .ok (.bipush 8, 2) := by decide +kernel
theorem dX12_init_29 : decode cX12_init 29 = .ok (.newarray .boolean, 2) := by decide +kernel
theorem dX12_init_31 : decode cX12_init 31 = .ok (.putfield 20, 3) := by decide +kernel
theorem dX12_init_34 : decode cX12_init 34 = .ok (.aload_n 0, 1) := by decide +kernel
theorem dX12_init_35 : decode cX12_init 35 = .ok (.bipush 8, 2) := by decide +kernel
theorem dX12_init_37 : decode cX12_init 37 = .ok (.newarray .int, 2) := by decide +kernel
theorem dX12_init_39 : decode cX12_init 39 = .ok (.putfield 24, 3) := by decide +kernel
theorem dX12_init_42 : decode cX12_init 42 = .ok (.aload_n 0, 1) := by decide +kernel
theorem dX12_init_43 : decode cX12_init 43 = .ok (.bipush 8, 2) := by decide +kernel
theorem dX12_init_45 : decode cX12_init 45 = .ok (.newarray .int, 2) := by decide +kernel
theorem dX12_init_47 : decode cX12_init 47 = .ok (.putfield 27, 3) := by decide +kernel
theorem dX12_init_50 : decode cX12_init 50 = .ok (.aload_n 0, 1) := by decide +kernel
theorem dX12_init_51 : decode cX12_init 51 = .ok (.bipush 25, 2) := by decide +kernel
theorem dX12_init_53 : decode cX12_init 53 = .ok (.newarray .long, 2) := by decide +kernel
theorem dX12_init_55 : decode cX12_init 55 = .ok (.dup, 1) := by decide +kernel
theorem dX12_init_56 : decode cX12_init 56 = .ok (.iconst 0, 1) := by decide +kernel
theorem dX12_init_57 : decode cX12_init 57 = .ok (.ldc2_w 30, 3) := by decide +kernel
theorem dX12_init_60 : decode cX12_init 60 = .ok (.lastore, 1) := by decide +kernel
theorem dX12_init_61 : decode cX12_init 61 = .ok (.dup, 1) := by decide +kernel
theorem dX12_init_62 : decode cX12_init 62 = .ok (.iconst 1, 1) := by decide +kernel
theorem dX12_init_63 : decode cX12_init 63 = .ok (.ldc2_w 32, 3) := by decide +kernel
theorem dX12_init_66 : decode cX12_init 66 = .ok (.lastore, 1) := by decide +kernel
theorem dX12_init_67 : decode cX12_init 67 = .ok (.dup, 1) := by decide +kernel
theorem dX12_init_68 : decode cX12_init 68 = .ok (.iconst 2, 1) := by decide +kernel
theorem dX12_init_69 : decode cX12_init 69 = .ok (.ldc2_w 34, 3) := by decide +kernel
theorem dX12_init_72 : decode cX12_init 72 = .ok (.lastore, 1) := by decide +kernel
theorem dX12_init_73 : decode cX12_init 73 = .ok (.dup, 1) := by decide +kernel
theorem dX12_init_74 : decode cX12_init 74 = .ok (.iconst 3, 1) := by decide +kernel
theorem dX12_init_75 : decode cX12_init 75 = .ok (.ldc2_w 36, 3) := by decide +kernel
theorem dX12_init_78 : decode cX12_init 78 = .ok (.lastore, 1) := by decide +kernel
theorem dX12_init_79 : decode cX12_init 79 = .ok (.dup, 1) := by decide +kernel
theorem dX12_init_80 : decode cX12_init 80 = .ok (.iconst 4, 1) := by decide +kernel
theorem dX12_init_81 : decode cX12_init 81 = .ok (.ldc2_w 38, 3) := by decide +kernel
theorem dX12_init_84 : decode cX12_init 84 = .ok (.lastore, 1) := by decide +kernel
theorem dX12_init_85 : decode cX12_init 85 = .ok (.dup, 1) := by decide +kernel
theorem dX12_init_86 : decode cX12_init 86 = .ok (.iconst 5, 1) := by decide +kernel
theorem dX12_init_87 : decode cX12_init 87 = .ok (.ldc2_w 40, 3) := by decide +kernel
theorem dX12_init_90 : decode cX12_init 90 = .ok (.lastore, 1) := by decide +kernel
theorem dX12_init_91 : decode cX12_init 91 = .ok (.dup, 1) := by decide +kernel
theorem dX12_init_92 : decode cX12_init 92 = .ok (.bipush 6, 2) := by decide +kernel
theorem dX12_init_94 : decode cX12_init 94 = .ok (.ldc2_w 42, 3) := by decide +kernel
theorem dX12_init_97 : decode cX12_init 97 = .ok (.lastore, 1) := by decide +kernel
theorem dX12_init_98 : decode cX12_init 98 = .ok (.dup, 1) := by decide +kernel
theorem dX12_init_99 : decode cX12_init 99 = .ok (.bipush 7, 2) := by decide +kernel
theorem dX12_init_101 : decode cX12_init 101 = .ok (.ldc2_w 44, 3) := by decide +kernel
theorem dX12_init_104 : decode cX12_init 104 = .ok (.lastore, 1) := by decide +kernel
theorem dX12_init_105 : decode cX12_init 105 = .ok (.dup, 1) := by decide +kernel
theorem dX12_init_106 : decode cX12_init 106 = .ok (.bipush 8, 2) := by decide +kernel
theorem dX12_init_108 : decode cX12_init 108 = .ok (.ldc2_w 46, 3) := by decide +kernel
theorem dX12_init_111 : decode cX12_init 111 = .ok (.lastore, 1) := by decide +kernel
theorem dX12_init_112 : decode cX12_init 112 = .ok (.dup, 1) := by decide +kernel
theorem dX12_init_113 : decode cX12_init 113 = .ok (.bipush 9, 2) := by decide +kernel
theorem dX12_init_115 : decode cX12_init 115 = .ok (.ldc2_w 48, 3) := by decide +kernel
theorem dX12_init_118 : decode cX12_init 118 = .ok (.lastore, 1) := by decide +kernel
theorem dX12_init_119 : decode cX12_init 119 = .ok (.dup, 1) := by decide +kernel
theorem dX12_init_120 : decode cX12_init 120 = .ok (.bipush 10, 2) := by decide +kernel
theorem dX12_init_122 : decode cX12_init 122 = .ok (.ldc2_w 50, 3) := by decide +kernel
theorem dX12_init_125 : decode cX12_init 125 = .ok (.lastore, 1) := by decide +kernel
theorem dX12_init_126 : decode cX12_init 126 = .ok (.dup, 1) := by decide +kernel
theorem dX12_init_127 : decode cX12_init 127 = .ok (.bipush 11, 2) := by decide +kernel
theorem dX12_init_129 : decode cX12_init 129 = .ok (.ldc2_w 52, 3) := by decide +kernel
theorem dX12_init_132 : decode cX12_init 132 = .ok (.lastore, 1) := by decide +kernel
theorem dX12_init_133 : decode cX12_init 133 = .ok (.dup, 1) := by decide +kernel
theorem dX12_init_134 : decode cX12_init 134 = .ok (.bipush 12, 2) := by decide +kernel
theorem dX12_init_136 : decode cX12_init 136 = .ok (.ldc2_w 54, 3) := by decide +kernel
theorem dX12_init_139 : decode cX12_init 139 = .ok (.lastore, 1) := by decide +kernel
theorem dX12_init_140 : decode cX12_init 140 = .ok (.dup, 1) := by decide +kernel
theorem dX12_init_141 : decode cX12_init 141 = .ok (.bipush 13, 2) := by decide +kernel
theorem dX12_init_143 : decode cX12_init 143 = .ok (.ldc2_w 56, 3) := by decide +kernel
theorem dX12_init_146 : decode cX12_init 146 = .ok (.lastore, 1) := by decide +kernel
theorem dX12_init_147 : decode cX12_init 147 = .ok (.dup, 1) := by decide +kernel
theorem dX12_init_148 : decode cX12_init 148 = .ok (.bipush 14, 2) := by decide +kernel
theorem dX12_init_150 : decode cX12_init 150 = .ok (.ldc2_w 58, 3) := by decide +kernel
theorem dX12_init_153 : decode cX12_init 153 = .ok (.lastore, 1) := by decide +kernel
theorem dX12_init_154 : decode cX12_init 154 = .ok (.dup, 1) := by decide +kernel
theorem dX12_init_155 : decode cX12_init 155 = .ok (.bipush 15, 2) := by decide +kernel
theorem dX12_init_157 : decode cX12_init 157 = .ok (.ldc2_w 60, 3) := by decide +kernel
theorem dX12_init_160 : decode cX12_init 160 = .ok (.lastore, 1) := by decide +kernel
theorem dX12_init_161 : decode cX12_init 161 = .ok (.dup, 1) := by decide +kernel
theorem dX12_init_162 : decode cX12_init 162 = .ok (.bipush 16, 2) := by decide +kernel
theorem dX12_init_164 : decode cX12_init 164 = .ok (.ldc2_w 62, 3) := by decide +kernel
theorem dX12_init_167 : decode cX12_init 167 = .ok (.lastore, 1) := by decide +kernel
theorem dX12_init_168 : decode cX12_init 168 = .ok (.dup, 1) := by decide +kernel
theorem dX12_init_169 : decode cX12_init 169 = .ok (.bipush 17, 2) := by decide +kernel
theorem dX12_init_171 : decode cX12_init 171 = .ok (.ldc2_w 64, 3) := by decide +kernel
theorem dX12_init_174 : decode cX12_init 174 = .ok (.lastore, 1) := by decide +kernel
theorem dX12_init_175 : decode cX12_init 175 = .ok (.dup, 1) := by decide +kernel
theorem dX12_init_176 : decode cX12_init 176 = .ok (.bipush 18, 2) := by decide +kernel
theorem dX12_init_178 : decode cX12_init 178 = .ok (.ldc2_w 66, 3) := by decide +kernel
theorem dX12_init_181 : decode cX12_init 181 = .ok (.lastore, 1) := by decide +kernel
theorem dX12_init_182 : decode cX12_init 182 = .ok (.dup, 1) := by decide +kernel
theorem dX12_init_183 : decode cX12_init 183 = .ok (.bipush 19, 2) := by decide +kernel
theorem dX12_init_185 : decode cX12_init 185 = .ok (.ldc2_w 68, 3) := by decide +kernel
theorem dX12_init_188 : decode cX12_init 188 = .ok (.lastore, 1) := by decide +kernel
theorem dX12_init_189 : decode cX12_init 189 = .ok (.dup, 1) := by decide +kernel
theorem dX12_init_190 : decode cX12_init 190 = .ok (.bipush 20, 2) := by decide +kernel
theorem dX12_init_192 : decode cX12_init 192 = .ok (.ldc2_w 70, 3) := by decide +kernel
theorem dX12_init_195 : decode cX12_init 195 = .ok (.lastore, 1) := by decide +kernel
theorem dX12_init_196 : decode cX12_init 196 = .ok (.dup, 1) := by decide +kernel
theorem dX12_init_197 : decode cX12_init 197 = .ok (.bipush 21, 2) := by decide +kernel
theorem dX12_init_199 : decode cX12_init 199 = .ok (.ldc2_w 72, 3) := by decide +kernel
theorem dX12_init_202 : decode cX12_init 202 = .ok (.lastore, 1) := by decide +kernel
theorem dX12_init_203 : decode cX12_init 203 = .ok (.dup, 1) := by decide +kernel
theorem dX12_init_204 : decode cX12_init 204 = .ok (.bipush 22, 2) := by decide +kernel
theorem dX12_init_206 : decode cX12_init 206 = .ok (.ldc2_w 74, 3) := by decide +kernel
theorem dX12_init_209 : decode cX12_init 209 = .ok (.lastore, 1) := by decide +kernel
theorem dX12_init_210 : decode cX12_init 210 = .ok (.dup, 1) := by decide +kernel
theorem dX12_init_211 : decode cX12_init 211 = .ok (.bipush 23, 2) := by decide +kernel
theorem dX12_init_213 : decode cX12_init 213 = .ok (.ldc2_w 76, 3) := by decide +kernel
theorem dX12_init_216 : decode cX12_init 216 = .ok (.lastore, 1) := by decide +kernel
theorem dX12_init_217 : decode cX12_init 217 = .ok (.dup, 1) := by decide +kernel
theorem dX12_init_218 : decode cX12_init 218 = .ok (.bipush 24, 2) := by decide +kernel
theorem dX12_init_220 : decode cX12_init 220 = .ok (.ldc2_w 78, 3) := by decide +kernel
theorem dX12_init_223 : decode cX12_init 223 = .ok (.lastore, 1) := by decide +kernel
theorem dX12_init_224 : decode cX12_init 224 = .ok (.putfield 80, 3) := by decide +kernel
theorem dX12_init_227 : decode cX12_init 227 = .ok (.aload_n 0, 1) := by decide +kernel
theorem dX12_init_228 : decode cX12_init 228 = .ok (.sipush 3000, 3) := by decide +kernel
theorem dX12_init_231 : decode cX12_init 231 = .ok (.newarray .int, 2) := by decide +kernel
theorem dX12_init_233 : decode cX12_init 233 = .ok (.putfield 84, 3) := by decide +kernel
theorem dX12_init_236 : decode cX12_init 236 = .ok (.aload_n 0, 1) := by decide +kernel
theorem dX12_init_237 : decode cX12_init 237 = .ok (.sipush 3000, 3) := by decide +kernel
theorem dX12_init_240 : decode cX12_init 240 = .ok (.newarray .int, 2) := by decide +kernel
theorem dX12_init_242 : decode cX12_init 242 = .ok (.putfield 87, 3) := by decide +kernel
theorem dX12_init_245 : decode cX12_init 245 = .ok (.aload_n 0, 1) := by decide +kernel
theorem dX12_init_246 : decode cX12_init 246 = .ok (.sipush 3000, 3) := by decide +kernel
theorem dX12_init_249 : decode cX12_init 249 = .ok (.newarray .int, 2) := by decide +kernel
theorem dX12_init_251 : decode cX12_init 251 = .ok (.putfield 90, 3) := by decide +kernel
theorem dX12_init_254 : decode cX12_init 254 = .ok (.aload_n 0, 1) := by decide +kernel
theorem dX12_init_255 : decode cX12_init 255 = .ok (.sipush 500, 3) := by decide +kernel
theorem dX12_init_258 : decode cX12_init 258 = .ok (.newarray .int, 2) := by decide +kernel
theorem dX12_init_260 : decode cX12_init 260 = .ok (.putfield 93, 3) := by decide +kernel
theorem dX12_init_263 : decode cX12_init 263 = .ok (.aload_n 0, 1) := by decide +kernel
theorem dX12_init_264 : decode cX12_init 264 = .ok (.sipush 500, 3) := by decide +kernel
theorem dX12_init_267 : decode cX12_init 267 = .ok (.newarray .int, 2) := by decide +kernel
theorem dX12_init_269 : decode cX12_init 269 = .ok (.putfield 96, 3) := by decide +kernel
theorem dX12_init_272 : decode cX12_init 272 = .ok (.aload_n 0, 1) := by decide +kernel
theorem dX12_init_273 : decode cX12_init 273 = .ok (.sipush 500, 3) := by decide +kernel
theorem dX12_init_276 : decode cX12_init 276 = .ok (.newarray .int, 2) := by decide +kernel
theorem dX12_init_278 : decode cX12_init 278 = .ok (.putfield 99, 3) := by decide +kernel
theorem dX12_init_281 : decode cX12_init 281 = .ok (.aload_n 0, 1) := by decide +kernel
theorem dX12_init_282 : decode cX12_init 282 = .ok (.sipush 500, 3) := by decide +kernel
theorem dX12_init_285 : decode cX12_init 285 = .ok (.newarray .boolean, 2) := by decide +kernel
theorem dX12_init_287 : decode cX12_init 287 = .ok (.putfield 102, 3) := by decide +kernel
theorem dX12_init_290 : decode cX12_init 290 = .ok (.aload_n 0, 1) := by decide +kernel
theorem dX12_init_291 : decode cX12_init 291 = .ok (.sipush 200, 3) := by decide +kernel
theorem dX12_init_294 : decode cX12_init 294 = .ok (.newarray .int, 2) := by decide +kernel
theorem dX12_init_296 : decode cX12_init 296 = .ok (.putfield 105, 3) := by decide +kernel
theorem dX12_init_299 : decode cX12_init 299 = .ok (.aload_n 0, 1) := by decide +kernel
theorem dX12_init_300 : decode cX12_init 300 = .ok (.sipush 200, 3) := by decide +kernel
theorem dX12_init_303 : decode cX12_init 303 = .ok (.newarray .int, 2) := by decide +kernel
theorem dX12_init_305 : decode cX12_init 305 = .ok (.putfield 108, 3) := by decide +kernel
theorem dX12_init_308 : decode cX12_init 308 = .ok (.aload_n 0, 1) := by decide +kernel
theorem dX12_init_309 : decode cX12_init 309 = .ok (.sipush 200, 3) := by decide +kernel
theorem dX12_init_312 : decode cX12_init 312 = .ok (.newarray .int, 2) := by decide +kernel
theorem dX12_init_314 : decode cX12_init 314 = .ok (.putfield 111, 3) := by decide +kernel
theorem dX12_init_317 : decode cX12_init 317 = .ok (.aload_n 0, 1) := by decide +kernel
theorem dX12_init_318 : decode cX12_init 318 = .ok (.sipush 400, 3) := by decide +kernel
theorem dX12_init_321 : decode cX12_init 321 = .ok (.newarray .int, 2) := by decide +kernel
theorem dX12_init_323 : decode cX12_init 323 = .ok (.putfield 114, 3) := by decide +kernel
theorem dX12_init_326 : decode cX12_init 326 = .ok (.aload_n 0, 1) := by decide +kernel
theorem dX12_init_327 : decode cX12_init 327 = .ok (.sipush 400, 3) := by decide +kernel
theorem dX12_init_330 : decode cX12_init 330 = .ok (.newarray .int, 2) := by decide +kernel
theorem dX12_init_332 : decode cX12_init 332 = .ok (.putfield 117, 3) := by decide +kernel
theorem dX12_init_335 : decode cX12_init 335 = .ok (.aload_n 0, 1) := by decide +kernel
theorem dX12_init_336 : decode cX12_init 336 = .ok (.sipush 400, 3) := by decide +kernel
theorem dX12_init_339 : decode cX12_init 339 = .ok (.newarray .int, 2) := by decide +kernel
theorem dX12_init_341 : decode cX12_init 341 = .ok (.putfield 120, 3) := by decide +kernel
theorem dX12_init_344 : decode cX12_init 344 = .ok (.aload_n 0, 1) := by decide +kernel
theorem dX12_init_345 : decode cX12_init 345 = .ok (.sipush 400, 3) := by decide +kernel
theorem dX12_init_348 : decode cX12_init 348 = .ok (.newarray .int, 2) := by decide +kernel
theorem dX12_init_350 : decode cX12_init 350 = .ok (.putfield 123, 3) := by decide +kernel
theorem dX12_init_353 : decode cX12_init 353 = .ok (.aload_n 0, 1) := by decide +kernel
theorem dX12_init_354 : decode cX12_init 354 = .ok (.sipush 460, 3) := by decide +kernel
end
