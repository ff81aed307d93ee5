/-! the reference: what lays nothing leaves the code alone -/
def QET : Type := (Int32 × Int32 × Int32 × Int32 × Int32 × Int32) × (Nat → Int32) × (Nat → Int32) × (Nat → Int32) × (Nat → Int32) × (Nat → Int32) × (Nat → Int32) × (Nat → Int32) × (Nat → Int32) × (Nat → Int32) × (Nat → Int32) × (Nat → Int32) × (Nat → Int32) × (Nat → Int32) × (Nat → Int32)
def qe (s : RS) : QET := ((RS.i s 20, RS.i s 24, RS.i s 29, RS.i s 33, RS.i s 42, RS.i s 52), RS.a s 21, RS.a s 22, RS.a s 23, RS.a s 25, RS.a s 26, RS.a s 27, RS.a s 28, RS.a s 30, RS.a s 31, RS.a s 32, RS.a s 34, RS.a s 35, RS.a s 36, RS.a s 37)
theorem qe_eq {s r : RS} (h : qe r = qe s) : (r.i 20 = s.i 20 ∧ r.i 24 = s.i 24 ∧ r.i 29 = s.i 29 ∧ r.i 33 = s.i 33 ∧ r.i 42 = s.i 42 ∧ r.i 52 = s.i 52) ∧ r.a 21 = s.a 21 ∧ r.a 22 = s.a 22 ∧ r.a 23 = s.a 23 ∧ r.a 25 = s.a 25 ∧ r.a 26 = s.a 26 ∧ r.a 27 = s.a 27 ∧ r.a 28 = s.a 28 ∧ r.a 30 = s.a 30 ∧ r.a 31 = s.a 31 ∧ r.a 32 = s.a 32 ∧ r.a 34 = s.a 34 ∧ r.a 35 = s.a 35 ∧ r.a 36 = s.a 36 ∧ r.a 37 = s.a 37 := by
  have i0 := congrArg (fun v : QET => v.1.1) h
  have i1 := congrArg (fun v : QET => v.1.2.1) h
  have i2 := congrArg (fun v : QET => v.1.2.2.1) h
  have i3 := congrArg (fun v : QET => v.1.2.2.2.1) h
  have i4 := congrArg (fun v : QET => v.1.2.2.2.2.1) h
  have i5 := congrArg (fun v : QET => v.1.2.2.2.2.2) h
  have a0 := congrArg (fun v : QET => v.2.1) h
  have a1 := congrArg (fun v : QET => v.2.2.1) h
  have a2 := congrArg (fun v : QET => v.2.2.2.1) h
  have a3 := congrArg (fun v : QET => v.2.2.2.2.1) h
  have a4 := congrArg (fun v : QET => v.2.2.2.2.2.1) h
  have a5 := congrArg (fun v : QET => v.2.2.2.2.2.2.1) h
  have a6 := congrArg (fun v : QET => v.2.2.2.2.2.2.2.1) h
  have a7 := congrArg (fun v : QET => v.2.2.2.2.2.2.2.2.1) h
  have a8 := congrArg (fun v : QET => v.2.2.2.2.2.2.2.2.2.1) h
  have a9 := congrArg (fun v : QET => v.2.2.2.2.2.2.2.2.2.2.1) h
  have a10 := congrArg (fun v : QET => v.2.2.2.2.2.2.2.2.2.2.2.1) h
  have a11 := congrArg (fun v : QET => v.2.2.2.2.2.2.2.2.2.2.2.2.1) h
  have a12 := congrArg (fun v : QET => v.2.2.2.2.2.2.2.2.2.2.2.2.2.1) h
  have a13 := congrArg (fun v : QET => v.2.2.2.2.2.2.2.2.2.2.2.2.2.2) h
  exact ⟨⟨i0, i1, i2, i3, i4, i5⟩, a0, a1, a2, a3, a4, a5, a6, a7, a8, a9, a10, a11, a12, a13⟩
def KER (s r : RS) : Prop := qe r = qe s
theorem KER.tr {s r u : RS} (h : KER s r) (g : KER r u) : KER s u := Eq.trans g h
def KRe {α : Type} (s : RS) (t : Option (α × RS)) : Prop := ∀ R, t = some R → KER s R.2
def KVe (s : RS) (t : Option RS) : Prop := ∀ R, t = some R → KER s R
theorem kre_some {α : Type} {s : RS} {r : α × RS} (h : KER s r.2) : KRe s (some r) := fun R q => by
  cases q
  exact h
theorem kve_some {s r : RS} (h : KER s r) : KVe s (some r) := fun R q => by
  cases q
  exact h
theorem kre_none {α : Type} {s : RS} : KRe s (none : Option (α × RS)) := fun R q => by cases q
theorem kve_none {s : RS} : KVe s (none : Option RS) := fun R q => by cases q
theorem kre_ite {α : Type} {s : RS} {c : Prop} [Decidable c] {x y : Option (α × RS)} (hx : KRe s x) (hy : KRe s y) : KRe s (if c then x else y) := by
  by_cases h : c
  · rw [if_pos h]; exact hx
  · rw [if_neg h]; exact hy
theorem kve_ite {s : RS} {c : Prop} [Decidable c] {x y : Option RS} (hx : KVe s x) (hy : KVe s y) : KVe s (if c then x else y) := by
  by_cases h : c
  · rw [if_pos h]; exact hx
  · rw [if_neg h]; exact hy
theorem kre_st {α : Type} {s r : RS} {t : Option (α × RS)} (h : KER s r) (g : KRe r t) : KRe s t := fun R q => h.tr (g R q)
theorem kve_st {s r : RS} {t : Option RS} (h : KER s r) (g : KVe r t) : KVe s t := fun R q => h.tr (g R q)
theorem kre_bind {α β : Type} {s : RS} {x : Option (α × RS)} {k : α × RS → Option (β × RS)} (hx : KRe s x) (hk : ∀ p : α × RS, KRe p.2 (k p)) : KRe s (x.bind k) := by
  intro R h
  obtain ⟨p, h1, h2⟩ := hf_bind h
  exact (hx p h1).tr (hk p R h2)
theorem kre_bindv {β : Type} {s : RS} {x : Option RS} {k : RS → Option (β × RS)} (hx : KVe s x) (hk : ∀ p : RS, KRe p (k p)) : KRe s (x.bind k) := by
  intro R h
  obtain ⟨p, h1, h2⟩ := hf_bind h
  exact (hx p h1).tr (hk p R h2)
theorem kve_bind {α : Type} {s : RS} {x : Option (α × RS)} {k : α × RS → Option RS} (hx : KRe s x) (hk : ∀ p : α × RS, KVe p.2 (k p)) : KVe s (x.bind k) := by
  intro R h
  obtain ⟨p, h1, h2⟩ := hf_bind h
  exact (hx p h1).tr (hk p R h2)
theorem kve_bindv {s : RS} {x : Option RS} {k : RS → Option RS} (hx : KVe s x) (hk : ∀ p : RS, KVe p (k p)) : KVe s (x.bind k) := by
  intro R h
  obtain ⟨p, h1, h2⟩ := hf_bind h
  exact (hx p h1).tr (hk p R h2)
theorem kre_f_X12_thrown (N : Nat) (σ : RS) : KRe σ (f_X12_thrown N σ) := by
  unfold f_X12_thrown
  exact (kre_some rfl)
theorem kre_f_X12_in_14 (N : Nat) (σ : RS) : KRe σ (f_X12_in_14 N σ) := by
  unfold f_X12_in_14
  exact (kre_some rfl)
theorem kre_f_X12_in (N : Nat) (σ : RS) (x0 : Int32) (x1 : Int32) (x2 : Int32) : KRe σ (f_X12_in N σ x0 x1 x2) := by
  unfold f_X12_in
  exact (kre_ite (kre_st rfl (kre_f_X12_in_14 N σ)) (kre_ite (kre_st rfl (kre_f_X12_in_14 N σ)) (kre_some rfl)))
theorem kre_b_X12_feed_24 (N : Nat) (K : RS → Int32 → Int32 → Int32 → Int32 → Int32 → Int32 → Option (Int32 × RS)) (hK : ∀ (σ : RS) (y0 : Int32) (y1 : Int32) (y2 : Int32) (y3 : Int32) (y4 : Int32) (y5 : Int32), KRe σ (K σ y0 y1 y2 y3 y4 y5)) (σ : RS) (x1 : Int32) (x2 : Int32) (x3 : Int32) (x4 : Int32) (x5 : Int32) (x6 : Int32) : KRe σ (b_X12_feed_24 N K σ x1 x2 x3 x4 x5 x6) := by
  unfold b_X12_feed_24
  exact (kre_ite (kre_some rfl) (kre_ite (kre_ite (kre_ite (kre_ite (kre_ite (kre_st rfl (hK (RS.setA σ 1 ((((σ.i 2) + x6) : Int32).toNatClampNeg) ((x5 >>> ((24 - (8 * (x6 - x6 / 4 * 4))) &&& 31)) &&& 255)) x1 x2 x3 x4 x5 (x6 + 1))) kre_none) (kre_ite (kre_st rfl (hK (RS.setA σ 1 ((((σ.i 2) + x6) : Int32).toNatClampNeg) ((x4 >>> ((24 - (8 * (x6 - x6 / 4 * 4))) &&& 31)) &&& 255)) x1 x2 x3 x4 x5 (x6 + 1))) kre_none)) (kre_ite (kre_st rfl (hK (RS.setA σ 1 ((((σ.i 2) + x6) : Int32).toNatClampNeg) ((x3 >>> ((24 - (8 * (x6 - x6 / 4 * 4))) &&& 31)) &&& 255)) x1 x2 x3 x4 x5 (x6 + 1))) kre_none)) (kre_ite (kre_st rfl (hK (RS.setA σ 1 ((((σ.i 2) + x6) : Int32).toNatClampNeg) ((x2 >>> ((24 - (8 * (x6 - x6 / 4 * 4))) &&& 31)) &&& 255)) x1 x2 x3 x4 x5 (x6 + 1))) kre_none)) (kre_ite (kre_st rfl (hK (RS.setA σ 1 ((((σ.i 2) + x6) : Int32).toNatClampNeg) ((x1 >>> ((24 - (8 * (x6 - x6 / 4 * 4))) &&& 31)) &&& 255)) x1 x2 x3 x4 x5 (x6 + 1))) kre_none)))
theorem kre_f_X12_feed_24 (N : Nat) : ∀ (n : Nat) (σ : RS) (y0 : Int32) (y1 : Int32) (y2 : Int32) (y3 : Int32) (y4 : Int32) (y5 : Int32), KRe σ (f_X12_feed_24 N n σ y0 y1 y2 y3 y4 y5)
  | 0, _, _, _, _, _, _, _ => kre_none
  | n+1, σ, y0, y1, y2, y3, y4, y5 => kre_b_X12_feed_24 N (f_X12_feed_24 N n) (fun σ y0 y1 y2 y3 y4 y5 => kre_f_X12_feed_24 N n σ y0 y1 y2 y3 y4 y5) σ y0 y1 y2 y3 y4 y5
theorem kre_f_X12_feed (N : Nat) (σ : RS) (x1 : Int32) (x2 : Int32) (x3 : Int32) (x4 : Int32) (x5 : Int32) : KRe σ (f_X12_feed N σ x1 x2 x3 x4 x5) := by
  unfold f_X12_feed
  exact (kre_ite (kre_st rfl (kre_f_X12_feed_24 N N (RS.setI σ 0 0) x1 x2 x3 x4 x5 0)) (kre_some rfl))
theorem kre_f_X12_cut (N : Nat) (σ : RS) (x1 : Int32) : KRe σ (f_X12_cut N σ x1) := by
  unfold f_X12_cut
  exact (kre_bind (kre_st rfl (kre_f_X12_in N (RS.setI σ 0 0) x1 0 (σ.i 2))) (fun p1 => (kre_ite (kre_some rfl) (kre_some rfl))))
theorem kre_f_X12_kind (N : Nat) (σ : RS) (x1 : Int32) : KRe σ (f_X12_kind N σ x1) := by
  unfold f_X12_kind
  exact (kre_bind (kre_st rfl (kre_f_X12_in N (RS.setI σ 0 0) x1 0 ((σ.i 3) - 1))) (fun p1 => (kre_ite (kre_some rfl) (kre_ite (kre_some rfl) (kre_ite (kre_some rfl) kre_none)))))
theorem kre_f_X12_isUnder_21 (N : Nat) (σ : RS) (x2 : Int32) (x3 : Int32) : KRe σ (f_X12_isUnder_21 N σ x2 x3) := by
  unfold f_X12_isUnder_21
  exact (kre_ite (kre_some rfl) (kre_some rfl))
theorem kre_b_X12_isUnder_2 (N : Nat) (K : RS → Int32 → Int32 → Option (Int32 × RS)) (hK : ∀ (σ : RS) (y0 : Int32) (y1 : Int32), KRe σ (K σ y0 y1)) (σ : RS) (x2 : Int32) (x3 : Int32) : KRe σ (b_X12_isUnder_2 N K σ x2 x3) := by
  unfold b_X12_isUnder_2
  exact (kre_ite (kre_st rfl (kre_f_X12_isUnder_21 N σ x2 x3)) (kre_ite (kre_st rfl (kre_f_X12_isUnder_21 N σ x2 x3)) (kre_ite (kre_st rfl (hK σ x2 (σ.a 4 ((x3 : Int32).toNatClampNeg)))) kre_none)))
theorem kre_f_X12_isUnder_2 (N : Nat) : ∀ (n : Nat) (σ : RS) (y0 : Int32) (y1 : Int32), KRe σ (f_X12_isUnder_2 N n σ y0 y1)
  | 0, _, _, _ => kre_none
  | n+1, σ, y0, y1 => kre_b_X12_isUnder_2 N (f_X12_isUnder_2 N n) (fun σ y0 y1 => kre_f_X12_isUnder_2 N n σ y0 y1) σ y0 y1
theorem kre_f_X12_isUnder (N : Nat) (σ : RS) (x1 : Int32) (x2 : Int32) : KRe σ (f_X12_isUnder N σ x1 x2) := by
  unfold f_X12_isUnder
  exact (kre_st rfl (kre_f_X12_isUnder_2 N N σ x2 x1))
theorem kre_f_X12_under_33 (N : Nat) (σ : RS) : KRe σ (f_X12_under_33 N σ) := by
  unfold f_X12_under_33
  exact (kre_some rfl)
theorem kre_f_X12_under (N : Nat) (σ : RS) (x1 : Int32) (x2 : Int32) : KRe σ (f_X12_under N σ x1 x2) := by
  unfold f_X12_under
  exact (kre_bind (kre_st rfl (kre_f_X12_in N (RS.setI σ 0 0) x1 0 ((σ.i 3) - 1))) (fun p1 => (kre_ite (kre_st rfl (kre_f_X12_under_33 N p1.2)) (kre_bind (kre_st rfl (kre_f_X12_in N p1.2 x2 0 ((p1.2.i 3) - 1))) (fun p4 => (kre_ite (kre_st rfl (kre_f_X12_under_33 N p4.2)) (kre_bind (kre_st rfl (kre_f_X12_isUnder N p4.2 x1 x2)) (fun p7 => (kre_ite (kre_some rfl) (kre_some rfl))))))))))
theorem kre_f_X12_resource_53 (N : Nat) (σ : RS) : KRe σ (f_X12_resource_53 N σ) := by
  unfold f_X12_resource_53
  exact (kre_some rfl)
theorem kre_f_X12_resource_71 (N : Nat) (σ : RS) (x1 : Int32) (x3 : Int32) (x4 : Int32) : KRe σ (f_X12_resource_71 N σ x1 x3 x4) := by
  unfold f_X12_resource_71
  exact (kre_ite (kre_some rfl) kre_none)
theorem kre_f_X12_resource (N : Nat) (σ : RS) (x1 : Int32) (x2 : Int32) (x3 : Int32) (x4 : Int32) : KRe σ (f_X12_resource N σ x1 x2 x3 x4) := by
  unfold f_X12_resource
  exact (kre_bind (kre_st rfl (kre_f_X12_in N (RS.setI σ 0 0) x1 0 7)) (fun p1 => (kre_ite (kre_st rfl (kre_f_X12_resource_53 N p1.2)) (kre_bind (kre_st rfl (kre_f_X12_in N p1.2 x2 0 1)) (fun p4 => (kre_ite (kre_st rfl (kre_f_X12_resource_53 N p4.2)) (kre_bind (kre_st rfl (kre_f_X12_in N p4.2 x3 (-1) ((p4.2.i 3) - 1))) (fun p7 => (kre_ite (kre_st rfl (kre_f_X12_resource_53 N p7.2)) (kre_bind (kre_st rfl (kre_f_X12_in N p7.2 x4 (-1) ((p7.2.i 3) - 1))) (fun p10 => (kre_ite (kre_st rfl (kre_f_X12_resource_53 N p10.2)) (kre_ite (kre_ite (kre_st rfl (kre_f_X12_resource_71 N (RS.setA p10.2 5 ((x1 : Int32).toNatClampNeg) 1) x1 x3 x4)) kre_none) (kre_ite (kre_st rfl (kre_f_X12_resource_71 N (RS.setA p10.2 5 ((x1 : Int32).toNatClampNeg) 0) x1 x3 x4)) kre_none))))))))))))))
theorem kre_f_X12_asserts_18 (N : Nat) (σ : RS) (x1 : Int32) (x2 : Int32) : KRe σ (f_X12_asserts_18 N σ x1 x2) := by
  unfold f_X12_asserts_18
  exact (kre_ite (kre_some rfl) kre_none)
theorem kre_f_X12_asserts (N : Nat) (σ : RS) (x1 : Int32) : KRe σ (f_X12_asserts N σ x1) := by
  unfold f_X12_asserts
  exact (kre_ite (kre_st rfl (kre_f_X12_asserts_18 N (RS.setI σ 0 0) x1 0)) (kre_st rfl (kre_f_X12_asserts_18 N (RS.setI σ 0 0) x1 1)))
theorem kre_f_X12_at (N : Nat) (σ : RS) (x1 : Int32) : KRe σ (f_X12_at N σ x1) := by
  unfold f_X12_at
  exact (kre_ite (kre_some rfl) (kre_ite (kre_some rfl) kre_none))
theorem kre_f_X12_isLetter_16 (N : Nat) (σ : RS) : KRe σ (f_X12_isLetter_16 N σ) := by
  unfold f_X12_isLetter_16
  exact (kre_some rfl)
theorem kre_f_X12_isLetter (N : Nat) (σ : RS) (x0 : Int32) : KRe σ (f_X12_isLetter N σ x0) := by
  unfold f_X12_isLetter
  exact (kre_ite (kre_st rfl (kre_f_X12_isLetter_16 N σ)) (kre_ite (kre_st rfl (kre_f_X12_isLetter_16 N σ)) (kre_some rfl)))
theorem kre_f_X12_isDigit_16 (N : Nat) (σ : RS) : KRe σ (f_X12_isDigit_16 N σ) := by
  unfold f_X12_isDigit_16
  exact (kre_some rfl)
theorem kre_f_X12_isDigit (N : Nat) (σ : RS) (x0 : Int32) : KRe σ (f_X12_isDigit N σ x0) := by
  unfold f_X12_isDigit
  exact (kre_ite (kre_st rfl (kre_f_X12_isDigit_16 N σ)) (kre_ite (kre_st rfl (kre_f_X12_isDigit_16 N σ)) (kre_some rfl)))
theorem kre_b_X12_readName_260 (N : Nat) (K : RS → Int32 → Option (RS)) (hK : ∀ (σ : RS) (y0 : Int32), KVe σ (K σ y0)) (σ : RS) (x4 : Int32) : KVe σ (b_X12_readName_260 N K σ x4) := by
  unfold b_X12_readName_260
  exact (kve_ite (kve_some rfl) (kve_ite (kve_ite (kve_st rfl (hK (RS.setI σ 10 (410 + x4)) (x4 + 1))) (kve_st rfl (hK (RS.setI σ 10 (σ.i 10)) (x4 + 1)))) kve_none))
theorem kre_f_X12_readName_260 (N : Nat) : ∀ (n : Nat) (σ : RS) (y0 : Int32), KVe σ (f_X12_readName_260 N n σ y0)
  | 0, _, _ => kve_none
  | n+1, σ, y0 => kre_b_X12_readName_260 N (f_X12_readName_260 N n) (fun σ y0 => kre_f_X12_readName_260 N n σ y0) σ y0
theorem kre_f_X12_readName_257 (N : Nat) (σ : RS) : KVe σ (f_X12_readName_257 N σ) := by
  unfold f_X12_readName_257
  exact (kve_st rfl (kre_f_X12_readName_260 N N σ 0))
theorem kre_f_X12_readName_254 (N : Nat) (σ : RS) : KVe σ (f_X12_readName_254 N σ) := by
  unfold f_X12_readName_254
  exact (kve_some rfl)
theorem kre_f_X12_readName_220 (N : Nat) (σ : RS) (x1 : Int32) (x3 : Int32) : KVe σ (f_X12_readName_220 N σ x1 x3) := by
  unfold f_X12_readName_220
  exact (kve_ite (kve_st rfl (kre_f_X12_readName_254 N (RS.setI (RS.setI σ 10 5) 14 x3))) (kve_bind (kre_st rfl (kre_f_X12_at N (RS.setI σ 10 5) ((σ.i 11) + 2))) (fun p32 => (kve_st rfl (kre_f_X12_readName_254 N (RS.setI p32.2 14 ((10 + p32.1) - 48)))))))
theorem kre_f_X12_readName_189 (N : Nat) (σ : RS) (x1 : Int32) (x3 : Int32) : KVe σ (f_X12_readName_189 N σ x1 x3) := by
  unfold f_X12_readName_189
  exact (kve_ite (kve_ite (kve_bind (kre_st rfl (kre_f_X12_at N σ ((σ.i 11) + 2))) (fun p26 => (kve_bind (kre_st rfl (kre_f_X12_in N p26.2 (p26.1 - 48) 0 1)) (fun p28 => (kve_ite (kve_st rfl (kre_f_X12_readName_257 N p28.2)) (kve_st rfl (kre_f_X12_readName_220 N p28.2 x1 x3))))))) (kve_st rfl (kre_f_X12_readName_257 N σ))) (kve_st rfl (kre_f_X12_readName_257 N σ)))
theorem kre_f_X12_readName_168 (N : Nat) (σ : RS) (x1 : Int32) (x2 : Int32) (x3 : Int32) : KVe σ (f_X12_readName_168 N σ x1 x2 x3) := by
  unfold f_X12_readName_168
  exact (kve_ite (kve_ite (kve_bind (kre_st rfl (kre_f_X12_in N σ x3 0 9)) (fun p34 => (kve_ite (kve_st rfl (kre_f_X12_readName_189 N p34.2 x1 x3)) (kve_st rfl (kre_f_X12_readName_220 N p34.2 x1 x3))))) (kve_st rfl (kre_f_X12_readName_189 N σ x1 x3))) (kve_st rfl (kre_f_X12_readName_257 N σ)))
theorem kre_f_X12_readName_160 (N : Nat) (σ : RS) (x3 : Int32) : KVe σ (f_X12_readName_160 N σ x3) := by
  unfold f_X12_readName_160
  exact (kve_some rfl)
theorem kre_f_X12_readName_135 (N : Nat) (σ : RS) (x1 : Int32) (x2 : Int32) (x3 : Int32) : KVe σ (f_X12_readName_135 N σ x1 x2 x3) := by
  unfold f_X12_readName_135
  exact (kve_bind (kre_st rfl (kre_f_X12_in N σ x3 0 7)) (fun p38 => (kve_ite (kve_st rfl (kre_f_X12_readName_168 N p38.2 x1 x2 x3)) (kve_ite (kve_st rfl (kre_f_X12_readName_160 N (RS.setI p38.2 10 3) x3)) (kve_st rfl (kre_f_X12_readName_160 N (RS.setI p38.2 10 4) x3))))))
theorem kre_b_X12_readName_5 (N : Nat) (K : RS → Option (RS)) (hK : ∀ (σ : RS), KVe σ (K σ)) (σ : RS) : KVe σ (b_X12_readName_5 N K σ) := by
  unfold b_X12_readName_5
  exact (kve_bind (kre_st rfl (kre_f_X12_at N σ (σ.i 12))) (fun p1 => (kve_bind (kre_st rfl (kre_f_X12_isLetter N p1.2 p1.1)) (fun p3 => (kve_ite (kve_bind (kre_st rfl (kre_f_X12_at N p3.2 (p3.2.i 12))) (fun p8 => (kve_bind (kre_st rfl (kre_f_X12_isDigit N p8.2 p8.1)) (fun p10 => (kve_ite (kve_ite (kve_bind (kre_st rfl (kre_f_X12_at N p10.2 (p10.2.i 11))) (fun p14 => (kve_bind (kre_st rfl (kre_f_X12_at N p14.2 ((p14.2.i 11) + 1))) (fun p16 => (kve_ite (kve_ite (kve_st rfl (kre_f_X12_readName_135 N (RS.setI p16.2 10 2) ((p10.2.i 12) - (p10.2.i 11)) p14.1 (p16.1 - 48))) (kve_ite (kve_st rfl (kre_f_X12_readName_135 N (RS.setI p16.2 10 2) ((p10.2.i 12) - (p10.2.i 11)) p14.1 (p16.1 - 48))) (kve_st rfl (kre_f_X12_readName_168 N (RS.setI p16.2 10 2) ((p10.2.i 12) - (p10.2.i 11)) p14.1 (p16.1 - 48))))) (kve_st rfl (kre_f_X12_readName_168 N (RS.setI p16.2 10 2) ((p10.2.i 12) - (p10.2.i 11)) p14.1 (p16.1 - 48)))))))) (kve_some rfl)) (kve_bind (kre_st rfl (kre_f_X12_at N p10.2 (p10.2.i 12))) (fun p43 => (kve_st rfl (hK (RS.setI (RS.setL p43.2 ((p10.2.l <<< ((8 : Int32).toInt64 &&& 63)) ||| (p43.1 : Int32).toInt64)) 12 ((p43.2.i 12) + 1))))))))))) (kve_bind (kre_st rfl (kre_f_X12_at N p3.2 (p3.2.i 12))) (fun p6 => (kve_st rfl (hK (RS.setI (RS.setL p6.2 ((p3.2.l <<< ((8 : Int32).toInt64 &&& 63)) ||| (p6.1 : Int32).toInt64)) 12 ((p6.2.i 12) + 1)))))))))))
theorem kre_f_X12_readName_5 (N : Nat) : ∀ (n : Nat) (σ : RS), KVe σ (f_X12_readName_5 N n σ )
  | 0, _ => kve_none
  | n+1, σ => kre_b_X12_readName_5 N (f_X12_readName_5 N n) (fun σ => kre_f_X12_readName_5 N n σ) σ
theorem kre_f_X12_readName (N : Nat) (σ : RS) : KVe σ (f_X12_readName N σ) := by
  unfold f_X12_readName
  exact (kve_st rfl (kre_f_X12_readName_5 N N (RS.setL σ 0)))
theorem kre_f_X12_readSign_306 (N : Nat) (σ : RS) (x1 : Int32) (x4 : Int32) : KVe σ (f_X12_readSign_306 N σ x1 x4) := by
  unfold f_X12_readSign_306
  exact (kve_ite (kve_some rfl) (kve_some rfl))
theorem kre_f_X12_readSign_299 (N : Nat) (σ : RS) (x1 : Int32) : KVe σ (f_X12_readSign_299 N σ x1) := by
  unfold f_X12_readSign_299
  exact (kve_st rfl (kre_f_X12_readSign_306 N σ x1 1))
theorem kre_f_X12_readSign_165 (N : Nat) (σ : RS) (x1 : Int32) (x3 : Int32) : KVe σ (f_X12_readSign_165 N σ x1 x3) := by
  unfold f_X12_readSign_165
  exact (kve_ite (kve_ite (kve_st rfl (kre_f_X12_readSign_299 N σ x1)) (kve_ite (kve_st rfl (kre_f_X12_readSign_299 N σ x1)) (kve_ite (kve_st rfl (kre_f_X12_readSign_299 N σ x1)) (kve_ite (kve_st rfl (kre_f_X12_readSign_299 N σ x1)) (kve_ite (kve_st rfl (kre_f_X12_readSign_299 N σ x1)) (kve_ite (kve_st rfl (kre_f_X12_readSign_299 N σ x1)) (kve_ite (kve_st rfl (kre_f_X12_readSign_299 N σ x1)) (kve_ite (kve_st rfl (kre_f_X12_readSign_299 N σ x1)) (kve_ite (kve_st rfl (kre_f_X12_readSign_299 N σ x1)) (kve_ite (kve_st rfl (kre_f_X12_readSign_299 N σ x1)) (kve_ite (kve_st rfl (kre_f_X12_readSign_299 N σ x1)) (kve_ite (kve_st rfl (kre_f_X12_readSign_299 N σ x1)) (kve_ite (kve_st rfl (kre_f_X12_readSign_299 N σ x1)) (kve_ite (kve_st rfl (kre_f_X12_readSign_299 N σ x1)) (kve_ite (kve_st rfl (kre_f_X12_readSign_299 N σ x1)) (kve_ite (kve_st rfl (kre_f_X12_readSign_299 N σ x1)) (kve_ite (kve_st rfl (kre_f_X12_readSign_299 N σ x1)) (kve_ite (kve_st rfl (kre_f_X12_readSign_299 N σ x1)) (kve_ite (kve_st rfl (kre_f_X12_readSign_299 N σ x1)) (kve_st rfl (kre_f_X12_readSign_306 N σ x1 0))))))))))))))))))))) (kve_some rfl))
theorem kre_f_X12_readSign_163 (N : Nat) (σ : RS) (x1 : Int32) : KVe σ (f_X12_readSign_163 N σ x1) := by
  unfold f_X12_readSign_163
  exact (kve_st rfl (kre_f_X12_readSign_165 N σ x1 0))
theorem kre_f_X12_readSign_145 (N : Nat) (σ : RS) (x1 : Int32) (x2 : Int32) : KVe σ (f_X12_readSign_145 N σ x1 x2) := by
  unfold f_X12_readSign_145
  exact (kve_ite (kve_ite (kve_st rfl (kre_f_X12_readSign_165 N σ x1 307)) (kve_st rfl (kre_f_X12_readSign_163 N σ x1))) (kve_st rfl (kre_f_X12_readSign_163 N σ x1)))
theorem kre_f_X12_readSign_127 (N : Nat) (σ : RS) (x1 : Int32) (x2 : Int32) : KVe σ (f_X12_readSign_127 N σ x1 x2) := by
  unfold f_X12_readSign_127
  exact (kve_ite (kve_ite (kve_st rfl (kre_f_X12_readSign_165 N σ x1 306)) (kve_st rfl (kre_f_X12_readSign_145 N σ x1 x2))) (kve_st rfl (kre_f_X12_readSign_145 N σ x1 x2)))
theorem kre_f_X12_readSign_109 (N : Nat) (σ : RS) (x1 : Int32) (x2 : Int32) : KVe σ (f_X12_readSign_109 N σ x1 x2) := by
  unfold f_X12_readSign_109
  exact (kve_ite (kve_ite (kve_st rfl (kre_f_X12_readSign_165 N σ x1 305)) (kve_st rfl (kre_f_X12_readSign_127 N σ x1 x2))) (kve_st rfl (kre_f_X12_readSign_127 N σ x1 x2)))
theorem kre_f_X12_readSign_91 (N : Nat) (σ : RS) (x1 : Int32) (x2 : Int32) : KVe σ (f_X12_readSign_91 N σ x1 x2) := by
  unfold f_X12_readSign_91
  exact (kve_ite (kve_ite (kve_st rfl (kre_f_X12_readSign_165 N σ x1 304)) (kve_st rfl (kre_f_X12_readSign_109 N σ x1 x2))) (kve_st rfl (kre_f_X12_readSign_109 N σ x1 x2)))
theorem kre_f_X12_readSign_73 (N : Nat) (σ : RS) (x1 : Int32) (x2 : Int32) : KVe σ (f_X12_readSign_73 N σ x1 x2) := by
  unfold f_X12_readSign_73
  exact (kve_ite (kve_ite (kve_st rfl (kre_f_X12_readSign_165 N σ x1 303)) (kve_st rfl (kre_f_X12_readSign_91 N σ x1 x2))) (kve_st rfl (kre_f_X12_readSign_91 N σ x1 x2)))
theorem kre_f_X12_readSign_55 (N : Nat) (σ : RS) (x1 : Int32) (x2 : Int32) : KVe σ (f_X12_readSign_55 N σ x1 x2) := by
  unfold f_X12_readSign_55
  exact (kve_ite (kve_ite (kve_st rfl (kre_f_X12_readSign_165 N σ x1 302)) (kve_st rfl (kre_f_X12_readSign_73 N σ x1 x2))) (kve_st rfl (kre_f_X12_readSign_73 N σ x1 x2)))
theorem kre_f_X12_readSign_37 (N : Nat) (σ : RS) (x1 : Int32) (x2 : Int32) : KVe σ (f_X12_readSign_37 N σ x1 x2) := by
  unfold f_X12_readSign_37
  exact (kve_ite (kve_ite (kve_st rfl (kre_f_X12_readSign_165 N σ x1 301)) (kve_st rfl (kre_f_X12_readSign_55 N σ x1 x2))) (kve_st rfl (kre_f_X12_readSign_55 N σ x1 x2)))
theorem kre_f_X12_readSign (N : Nat) (σ : RS) (x1 : Int32) : KVe σ (f_X12_readSign N σ x1) := by
  unfold f_X12_readSign
  exact (kve_bind (kre_st rfl (kre_f_X12_at N (RS.setI σ 12 ((σ.i 12) + 1)) ((σ.i 12) + 1))) (fun p1 => (kve_ite (kve_ite (kve_st rfl (kre_f_X12_readSign_165 N p1.2 x1 300)) (kve_st rfl (kre_f_X12_readSign_37 N p1.2 x1 p1.1))) (kve_st rfl (kre_f_X12_readSign_37 N p1.2 x1 p1.1)))))
theorem kre_f_X12_next_211 (N : Nat) (σ : RS) : KVe σ (f_X12_next_211 N σ) := by
  unfold f_X12_next_211
  exact (kve_some rfl)
theorem kre_b_X12_next_116 (N : Nat) (K : RS → Option (RS)) (hK : ∀ (σ : RS), KVe σ (K σ)) (σ : RS) : KVe σ (b_X12_next_116 N K σ) := by
  unfold b_X12_next_116
  exact (kve_bind (kre_st rfl (kre_f_X12_at N σ (σ.i 12))) (fun p16 => (kve_bind (kre_st rfl (kre_f_X12_isDigit N p16.2 p16.1)) (fun p18 => (kve_ite (kve_ite (kve_st rfl (kre_f_X12_next_211 N (RS.setI p18.2 10 1))) (kve_st rfl (kre_f_X12_next_211 N (RS.setI p18.2 10 6)))) (kve_ite (kve_st rfl (hK (RS.setI (RS.setI p18.2 14 (p18.2.i 14)) 12 ((p18.2.i 12) + 1)))) (kve_bind (kre_st rfl (kre_f_X12_at N p18.2 (p18.2.i 12))) (fun p23 => (kve_st rfl (hK (RS.setI (RS.setI p23.2 14 (((10 * (p18.2.i 14)) + p23.1) - 48)) 12 ((p23.2.i 12) + 1))))))))))))
theorem kre_f_X12_next_116 (N : Nat) : ∀ (n : Nat) (σ : RS), KVe σ (f_X12_next_116 N n σ )
  | 0, _ => kve_none
  | n+1, σ => kre_b_X12_next_116 N (f_X12_next_116 N n) (fun σ => kre_f_X12_next_116 N n σ) σ
theorem kre_f_X12_next_68 (N : Nat) (σ : RS) : KVe σ (f_X12_next_68 N σ) := by
  unfold f_X12_next_68
  exact (kve_bind (kre_st rfl (kre_f_X12_at N (RS.setI σ 11 (σ.i 12)) (σ.i 12))) (fun p3 => (kve_ite (kve_some rfl) (kve_bind (kre_st rfl (kre_f_X12_isDigit N p3.2 p3.1)) (fun p6 => (kve_ite (kve_bind (kre_st rfl (kre_f_X12_isLetter N p6.2 p3.1)) (fun p9 => (kve_ite (kve_bindv (kve_st rfl (kre_f_X12_readSign N p9.2 p3.1)) (fun p12 => (kve_some rfl))) (kve_bindv (kve_st rfl (kre_f_X12_readName N p9.2)) (fun p14 => (kve_some rfl)))))) (kve_st rfl (kre_f_X12_next_116 N N (RS.setI p6.2 14 0)))))))))
theorem kre_b_X12_next_18 (N : Nat) (K : RS → Option (RS)) (hK : ∀ (σ : RS), KVe σ (K σ)) (σ : RS) : KVe σ (b_X12_next_18 N K σ) := by
  unfold b_X12_next_18
  exact (kve_ite (kve_st rfl (kre_f_X12_next_68 N σ)) (kve_bind (kre_st rfl (kre_f_X12_at N σ (σ.i 12))) (fun p25 => (kve_ite (kve_st rfl (hK (RS.setI p25.2 12 ((p25.2.i 12) + 1)))) (kve_bind (kre_st rfl (kre_f_X12_at N p25.2 (p25.2.i 12))) (fun p28 => (kve_ite (kve_st rfl (hK (RS.setI p28.2 12 ((p28.2.i 12) + 1)))) (kve_st rfl (kre_f_X12_next_68 N p28.2)))))))))
theorem kre_f_X12_next_18 (N : Nat) : ∀ (n : Nat) (σ : RS), KVe σ (f_X12_next_18 N n σ )
  | 0, _ => kve_none
  | n+1, σ => kre_b_X12_next_18 N (f_X12_next_18 N n) (fun σ => kre_f_X12_next_18 N n σ) σ
theorem kre_f_X12_next (N : Nat) (σ : RS) : KVe σ (f_X12_next N σ) := by
  unfold f_X12_next
  exact (kve_ite (kve_st rfl (kre_f_X12_next_18 N N (RS.setI σ 17 ((σ.i 17) + 1)))) (kve_some rfl))
theorem kre_f_X12_fail (N : Nat) (σ : RS) (x1 : Int32) (x2 : Int32) : KVe σ (f_X12_fail N σ x1 x2) := by
  unfold f_X12_fail
  exact (kve_ite (kve_some rfl) (kve_some rfl))
theorem kre_f_X12_note (N : Nat) (σ : RS) (x1 : Int32) : KVe σ (f_X12_note N σ x1) := by
  unfold f_X12_note
  exact (kve_ite (kve_ite (kve_some rfl) (kve_some rfl)) (kve_some rfl))
theorem kre_f_X12_can_42 (N : Nat) (σ : RS) : KRe σ (f_X12_can_42 N σ) := by
  unfold f_X12_can_42
  exact (kre_ite (kre_some rfl) (kre_some rfl))
theorem kre_f_X12_can_20 (N : Nat) (σ : RS) : KRe σ (f_X12_can_20 N σ) := by
  unfold f_X12_can_20
  exact (kre_ite (kre_bindv (kve_st rfl (kre_f_X12_fail N σ 1 (σ.i 11))) (fun p7 => (kre_st rfl (kre_f_X12_can_42 N p7)))) (kre_bindv (kve_st rfl (kre_f_X12_fail N σ 2 (σ.i 11))) (fun p5 => (kre_st rfl (kre_f_X12_can_42 N p5)))))
theorem kre_f_X12_can (N : Nat) (σ : RS) (x1 : Int32) : KRe σ (f_X12_can N σ x1) := by
  unfold f_X12_can
  exact (kre_ite (kre_ite (kre_st rfl (kre_f_X12_can_20 N σ)) (kre_ite (kre_st rfl (kre_f_X12_can_20 N σ)) (kre_st rfl (kre_f_X12_can_42 N σ)))) (kre_st rfl (kre_f_X12_can_42 N σ)))
theorem kre_f_X12_need_31 (N : Nat) (σ : RS) : KRe σ (f_X12_need_31 N σ) := by
  unfold f_X12_need_31
  exact (kre_ite (kre_some rfl) (kre_some rfl))
theorem kre_f_X12_need_27 (N : Nat) (σ : RS) : KRe σ (f_X12_need_27 N σ) := by
  unfold f_X12_need_27
  exact (kre_bindv (kve_st rfl (kre_f_X12_next N σ)) (fun p7 => (kre_st rfl (kre_f_X12_need_31 N p7))))
theorem kre_f_X12_need (N : Nat) (σ : RS) (x1 : Int32) : KRe σ (f_X12_need N σ x1) := by
  unfold f_X12_need
  exact (kre_ite (kre_ite (kre_bind (kre_st rfl (kre_f_X12_can N σ 1)) (fun p9 => (kre_ite (kre_st rfl (kre_f_X12_need_31 N p9.2)) (kre_st rfl (kre_f_X12_need_27 N p9.2))))) (kre_bind (kre_st rfl (kre_f_X12_can N σ 0)) (fun p4 => (kre_ite (kre_st rfl (kre_f_X12_need_31 N p4.2)) (kre_st rfl (kre_f_X12_need_27 N p4.2)))))) (kre_st rfl (kre_f_X12_need_31 N σ)))
theorem kre_f_X12_opens_29 (N : Nat) (σ : RS) : KRe σ (f_X12_opens_29 N σ) := by
  unfold f_X12_opens_29
  exact (kre_ite (kre_some rfl) (kre_some rfl))
theorem kre_f_X12_opens (N : Nat) (σ : RS) : KRe σ (f_X12_opens N σ) := by
  unfold f_X12_opens
  exact (kre_ite (kre_st rfl (kre_f_X12_opens_29 N (RS.setI σ 19 ((σ.i 19) + 1)))) (kre_bindv (kve_st rfl (kre_f_X12_fail N (RS.setI σ 19 ((σ.i 19) + 1)) 6 (σ.i 11))) (fun p3 => (kre_st rfl (kre_f_X12_opens_29 N p3)))))
theorem kre_f_X12_open_38 (N : Nat) (σ : RS) : KRe σ (f_X12_open_38 N σ) := by
  unfold f_X12_open_38
  exact (kre_ite (kre_some rfl) (kre_some rfl))
theorem kre_f_X12_open_27 (N : Nat) (σ : RS) : KRe σ (f_X12_open_27 N σ) := by
  unfold f_X12_open_27
  exact (kre_bind (kre_st rfl (kre_f_X12_opens N σ)) (fun p7 => (kre_ite (kre_st rfl (kre_f_X12_open_38 N p7.2)) (kre_bindv (kve_st rfl (kre_f_X12_next N p7.2)) (fun p10 => (kre_st rfl (kre_f_X12_open_38 N p10)))))))
theorem kre_f_X12_open (N : Nat) (σ : RS) (x1 : Int32) : KRe σ (f_X12_open N σ x1) := by
  unfold f_X12_open
  exact (kre_ite (kre_ite (kre_bind (kre_st rfl (kre_f_X12_can N σ 1)) (fun p12 => (kre_ite (kre_st rfl (kre_f_X12_open_38 N p12.2)) (kre_st rfl (kre_f_X12_open_27 N p12.2))))) (kre_bind (kre_st rfl (kre_f_X12_can N σ 0)) (fun p4 => (kre_ite (kre_st rfl (kre_f_X12_open_38 N p4.2)) (kre_st rfl (kre_f_X12_open_27 N p4.2)))))) (kre_st rfl (kre_f_X12_open_38 N σ)))
theorem kre_f_X12_shut_18 (N : Nat) (σ : RS) : KRe σ (f_X12_shut_18 N σ) := by
  unfold f_X12_shut_18
  exact (kre_ite (kre_some rfl) (kre_some rfl))
theorem kre_f_X12_shut (N : Nat) (σ : RS) (x1 : Int32) : KRe σ (f_X12_shut N σ x1) := by
  unfold f_X12_shut
  exact (kre_bind (kre_st rfl (kre_f_X12_need N σ x1)) (fun p1 => (kre_ite (kre_st rfl (kre_f_X12_shut_18 N p1.2)) (kre_st rfl (kre_f_X12_shut_18 N (RS.setI p1.2 19 ((p1.2.i 19) - 1)))))))
theorem kre_b_X12_seenAs_7 (N : Nat) (K : RS → Int64 → Int32 → Option (Int32 × RS)) (hK : ∀ (σ : RS) (y0 : Int64) (y1 : Int32), KRe σ (K σ y0 y1)) (σ : RS) (x1 : Int64) (x3 : Int32) : KRe σ (b_X12_seenAs_7 N K σ x1 x3) := by
  unfold b_X12_seenAs_7
  exact (kre_ite (kre_some rfl) (kre_ite (kre_ite (kre_some rfl) (kre_st rfl (hK σ x1 (x3 + (-1))))) kre_none))
theorem kre_f_X12_seenAs_7 (N : Nat) : ∀ (n : Nat) (σ : RS) (y0 : Int64) (y1 : Int32), KRe σ (f_X12_seenAs_7 N n σ y0 y1)
  | 0, _, _, _ => kre_none
  | n+1, σ, y0, y1 => kre_b_X12_seenAs_7 N (f_X12_seenAs_7 N n) (fun σ y0 y1 => kre_f_X12_seenAs_7 N n σ y0 y1) σ y0 y1
theorem kre_f_X12_seenAs (N : Nat) (σ : RS) (x1 : Int64) : KRe σ (f_X12_seenAs N σ x1) := by
  unfold f_X12_seenAs
  exact (kre_st rfl (kre_f_X12_seenAs_7 N N σ x1 ((σ.i 38) - 1)))
theorem kre_f_X12_goal (N : Nat) (σ : RS) (x1 : Int32) (x2 : Int64) : KRe σ (f_X12_goal N σ x1 x2) := by
  unfold f_X12_goal
  exact (kre_ite (kre_some rfl) kre_none)
theorem kre_f_X12_loopGoal_49 (N : Nat) (σ : RS) (x1 : Int32) : KRe σ (f_X12_loopGoal_49 N σ x1) := by
  unfold f_X12_loopGoal_49
  exact (kre_some rfl)
theorem kre_b_X12_loopGoal_11 (N : Nat) (K : RS → Int32 → Int32 → Option (Int32 × RS)) (hK : ∀ (σ : RS) (y0 : Int32) (y1 : Int32), KRe σ (K σ y0 y1)) (σ : RS) (x1 : Int32) (x2 : Int32) : KRe σ (b_X12_loopGoal_11 N K σ x1 x2) := by
  unfold b_X12_loopGoal_11
  exact (kre_ite (kre_st rfl (kre_f_X12_loopGoal_49 N σ x1)) (kre_ite (kre_ite (kre_ite (kre_st rfl (hK (RS.setA σ 46 ((x2 : Int32).toNatClampNeg) x1) x1 (x2 + (-1)))) (kre_st rfl (kre_f_X12_loopGoal_49 N σ x1))) (kre_st rfl (kre_f_X12_loopGoal_49 N σ x1))) kre_none))
theorem kre_f_X12_loopGoal_11 (N : Nat) : ∀ (n : Nat) (σ : RS) (y0 : Int32) (y1 : Int32), KRe σ (f_X12_loopGoal_11 N n σ y0 y1)
  | 0, _, _, _ => kre_none
  | n+1, σ, y0, y1 => kre_b_X12_loopGoal_11 N (f_X12_loopGoal_11 N n) (fun σ y0 y1 => kre_f_X12_loopGoal_11 N n σ y0 y1) σ y0 y1
theorem kre_f_X12_loopGoal (N : Nat) (σ : RS) : KRe σ (f_X12_loopGoal N σ) := by
  unfold f_X12_loopGoal
  exact (kre_bind (kre_st rfl (kre_f_X12_goal N σ 0 0)) (fun p1 => (kre_st rfl (kre_f_X12_loopGoal_11 N N p1.2 p1.1 (p1.1 - 1)))))
theorem kre_f_X12_goes (N : Nat) (σ : RS) (x1 : Int32) (x2 : Int32) : KVe σ (f_X12_goes N σ x1 x2) := by
  unfold f_X12_goes
  exact (kve_ite (kve_ite (kve_some rfl) kve_none) (kve_ite (kve_some rfl) kve_none))
theorem kre_f_X12_pend_22 (N : Nat) (σ : RS) (x1 : Int32) (x2 : Int32) : KVe σ (f_X12_pend_22 N σ x1 x2) := by
  unfold f_X12_pend_22
  exact (kve_bindv (kve_st rfl (kre_f_X12_goes N σ x1 x2)) (fun p2 => (kve_some rfl)))
theorem kre_f_X12_pend (N : Nat) (σ : RS) (x1 : Int32) (x2 : Int32) : KVe σ (f_X12_pend N σ x1 x2) := by
  unfold f_X12_pend
  exact (kve_ite (kve_st rfl (kre_f_X12_pend_22 N σ x1 x2)) (kve_ite (kve_ite (kve_ite (kve_some rfl) kve_none) (kve_st rfl (kre_f_X12_pend_22 N σ x1 x2))) kve_none))
theorem kre_b_X12_resolve_2 (N : Nat) (K : RS → Int32 → Int32 → Int32 → Option (RS)) (hK : ∀ (σ : RS) (y0 : Int32) (y1 : Int32) (y2 : Int32), KVe σ (K σ y0 y1 y2)) (σ : RS) (x1 : Int32) (x2 : Int32) (x3 : Int32) : KVe σ (b_X12_resolve_2 N K σ x1 x2 x3) := by
  unfold b_X12_resolve_2
  exact (kve_ite (kve_some rfl) (kve_ite (kve_ite (kve_ite (kve_st rfl (hK (RS.setA σ 62 ((x3 : Int32).toNatClampNeg) (-1)) x1 x2 (x3 + 1))) (kve_ite (kve_bindv (kve_st rfl (kre_f_X12_goes N (RS.setA σ 62 ((x3 : Int32).toNatClampNeg) (-1)) (σ.a 60 ((x3 : Int32).toNatClampNeg)) (σ.a 61 ((x3 : Int32).toNatClampNeg)))) (fun p8 => (kve_st rfl (hK p8 x1 x2 (x3 + 1))))) (kve_ite (kve_ite (kve_bindv (kve_st rfl (kre_f_X12_goes N (RS.setA σ 62 ((x3 : Int32).toNatClampNeg) (-1)) (σ.a 60 ((x3 : Int32).toNatClampNeg)) (σ.a 61 ((x3 : Int32).toNatClampNeg)))) (fun p13 => (kve_st rfl (hK p13 x1 x2 (x3 + 1))))) (kve_st rfl (hK (RS.setA σ 62 ((x3 : Int32).toNatClampNeg) (σ.a 57 ((((σ.i 56) - 1) : Int32).toNatClampNeg))) x1 x2 (x3 + 1)))) kve_none))) (kve_st rfl (hK σ x1 x2 (x3 + 1)))) kve_none))
theorem kre_f_X12_resolve_2 (N : Nat) : ∀ (n : Nat) (σ : RS) (y0 : Int32) (y1 : Int32) (y2 : Int32), KVe σ (f_X12_resolve_2 N n σ y0 y1 y2)
  | 0, _, _, _, _ => kve_none
  | n+1, σ, y0, y1, y2 => kre_b_X12_resolve_2 N (f_X12_resolve_2 N n) (fun σ y0 y1 y2 => kre_f_X12_resolve_2 N n σ y0 y1 y2) σ y0 y1 y2
theorem kre_f_X12_resolve (N : Nat) (σ : RS) (x1 : Int32) (x2 : Int32) : KVe σ (f_X12_resolve N σ x1 x2) := by
  unfold f_X12_resolve
  exact (kve_st rfl (kre_f_X12_resolve_2 N N σ x1 x2 0))
theorem kre_f_X12_push (N : Nat) (σ : RS) (x1 : Int32) : KVe σ (f_X12_push N σ x1) := by
  unfold f_X12_push
  exact (kve_ite (kve_some rfl) kve_none)
theorem kre_f_X12_then (N : Nat) (σ : RS) (x1 : Int32) (x2 : Int32) : KVe σ (f_X12_then N σ x1 x2) := by
  unfold f_X12_then
  exact (kve_ite (kve_bindv (kve_st rfl (kre_f_X12_push N (RS.setA σ 65 (((σ.i 63) : Int32).toNatClampNeg) x1) x2)) (fun p2 => (kve_some rfl))) kve_none)
theorem kre_f_X12_body_32 (N : Nat) (σ : RS) (x1 : Int32) : KVe σ (f_X12_body_32 N σ x1) := by
  unfold f_X12_body_32
  exact (kve_bindv (kve_st rfl (kre_f_X12_then N σ x1 2)) (fun p5 => (kve_some rfl)))
theorem kre_f_X12_body (N : Nat) (σ : RS) (x1 : Int32) : KVe σ (f_X12_body N σ x1) := by
  unfold f_X12_body
  exact (kve_ite (kve_bind (kre_st rfl (kre_f_X12_can N σ 0)) (fun p2 => (kve_ite (kve_some rfl) (kve_st rfl (kre_f_X12_body_32 N p2.2 x1))))) (kve_ite (kve_bind (kre_st rfl (kre_f_X12_can N σ 0)) (fun p8 => (kve_ite (kve_some rfl) (kve_st rfl (kre_f_X12_body_32 N p8.2 x1))))) (kve_bind (kre_st rfl (kre_f_X12_can N σ 1)) (fun p11 => (kve_ite (kve_some rfl) (kve_st rfl (kre_f_X12_body_32 N p11.2 x1)))))))
theorem kre_f_X12_over (N : Nat) (σ : RS) (x1 : Int32) : KVe σ (f_X12_over N σ x1) := by
  unfold f_X12_over
  exact (kve_ite (kve_some rfl) kve_none)
theorem kre_f_X12_list_73 (N : Nat) (σ : RS) (x1 : Int32) : KVe σ (f_X12_list_73 N σ x1) := by
  unfold f_X12_list_73
  exact (kve_ite (kve_ite (kve_bindv (kve_st rfl (kre_f_X12_over N σ 1)) (fun p9 => (kve_some rfl))) (kve_bindv (kve_st rfl (kre_f_X12_over N σ 0)) (fun p7 => (kve_some rfl)))) kve_none)
theorem kre_f_X12_list_110 (N : Nat) (σ : RS) : KVe σ (f_X12_list_110 N σ) := by
  unfold f_X12_list_110
  exact (kve_bindv (kve_st rfl (kre_f_X12_then N σ 1 2)) (fun p16 => (kve_some rfl)))
theorem kre_f_X12_list_37 (N : Nat) (σ : RS) (x1 : Int32) : KVe σ (f_X12_list_37 N σ x1) := by
  unfold f_X12_list_37
  exact (kve_ite (kve_st rfl (kre_f_X12_list_73 N σ x1)) (kve_ite (kve_st rfl (kre_f_X12_list_73 N σ x1)) (kve_ite (kve_st rfl (kre_f_X12_list_73 N σ x1)) (kve_ite (kve_st rfl (kre_f_X12_list_73 N σ x1)) (kve_ite (kve_ite (kve_bindv (kve_st rfl (kre_f_X12_note N σ (σ.i 11))) (fun p18 => (kve_st rfl (kre_f_X12_list_110 N p18)))) (kve_st rfl (kre_f_X12_list_110 N σ))) kve_none)))))
theorem kre_f_X12_list (N : Nat) (σ : RS) (x1 : Int32) : KVe σ (f_X12_list N σ x1) := by
  unfold f_X12_list
  exact (kve_ite (kve_ite (kve_st rfl (kre_f_X12_list_37 N (RS.setA σ 66 ((x1 : Int32).toNatClampNeg) 1) x1)) (kve_ite (kve_st rfl (kre_f_X12_list_37 N (RS.setA σ 66 ((x1 : Int32).toNatClampNeg) 0) x1)) (kve_st rfl (kre_f_X12_list_37 N (RS.setA σ 66 ((x1 : Int32).toNatClampNeg) 1) x1)))) kve_none)
theorem kre_f_X12_jump_317 (N : Nat) (σ : RS) : KVe σ (f_X12_jump_317 N σ) := by
  unfold f_X12_jump_317
  exact (kve_bind (kre_st rfl (kre_f_X12_need N σ 59)) (fun p18 => (kve_some rfl)))
theorem kre_f_X12_jump_302 (N : Nat) (σ : RS) (x1 : Int32) (x3 : Int32) (x4 : Int32) : KVe σ (f_X12_jump_302 N σ x1 x3 x4) := by
  unfold f_X12_jump_302
  exact (kve_bindv (kve_st rfl (kre_f_X12_pend N σ x4 x1)) (fun p15 => (kve_ite (kve_st rfl (kre_f_X12_jump_317 N p15)) (kve_bindv (kve_st rfl (kre_f_X12_next N p15)) (fun p20 => (kve_st rfl (kre_f_X12_jump_317 N p20)))))))
theorem kre_f_X12_block (N : Nat) (σ : RS) (x1 : Int32) : KVe σ (f_X12_block N σ x1) := by
  unfold f_X12_block
  exact (kve_ite (kve_ite (kve_bind (kre_st rfl (kre_f_X12_open N σ 123)) (fun p5 => (kve_bindv (kve_st rfl (kre_f_X12_then N (RS.setA p5.2 66 ((x1 : Int32).toNatClampNeg) (p5.2.i 38)) 1 1)) (fun p7 => (kve_some rfl))))) (kve_bind (kre_st rfl (kre_f_X12_shut N σ 125)) (fun p3 => (kve_some rfl)))) kve_none)
theorem kre_f_X12_telling_22 (N : Nat) (σ : RS) (x1 : Int32) : KRe σ (f_X12_telling_22 N σ x1) := by
  unfold f_X12_telling_22
  exact (kre_bind (kre_st rfl (kre_f_X12_seenAs N σ σ.l)) (fun p5 => (kre_ite (kre_ite (kre_bindv (kve_st rfl (kre_f_X12_next N (RS.setB (RS.setI p5.2 54 ((p5.2.i 54) + 1)) 74 ((x1 : Int32).toNatClampNeg) p5.2.l))) (fun p9 => (kre_some rfl))) kre_none) (kre_bindv (kve_st rfl (kre_f_X12_fail N p5.2 4 (p5.2.i 11))) (fun p11 => (kre_some rfl))))))
theorem kre_f_X12_telling_20 (N : Nat) (σ : RS) : KRe σ (f_X12_telling_20 N σ) := by
  unfold f_X12_telling_20
  exact (kre_some rfl)
theorem kre_f_X12_telling (N : Nat) (σ : RS) (x1 : Int32) : KRe σ (f_X12_telling N σ x1) := by
  unfold f_X12_telling
  exact (kre_ite (kre_bind (kre_st rfl (kre_f_X12_can N σ 1)) (fun p13 => (kre_ite (kre_st rfl (kre_f_X12_telling_20 N p13.2)) (kre_st rfl (kre_f_X12_telling_22 N p13.2 x1))))) (kre_bind (kre_st rfl (kre_f_X12_can N σ 0)) (fun p2 => (kre_ite (kre_st rfl (kre_f_X12_telling_20 N p2.2)) (kre_st rfl (kre_f_X12_telling_22 N p2.2 x1))))))
theorem kre_f_X12_label_188 (N : Nat) (σ : RS) : KVe σ (f_X12_label_188 N σ) := by
  unfold f_X12_label_188
  exact (kve_bindv (kve_st rfl (kre_f_X12_body N σ 1)) (fun p10 => (kve_some rfl)))
theorem kre_f_X12_label_168 (N : Nat) (σ : RS) : KVe σ (f_X12_label_168 N σ) := by
  unfold f_X12_label_168
  exact (kve_st rfl (kre_f_X12_label_188 N σ))
theorem kre_b_X12_label_125 (N : Nat) (K : RS → Int32 → Option (RS)) (hK : ∀ (σ : RS) (y0 : Int32), KVe σ (K σ y0)) (σ : RS) (x6 : Int32) : KVe σ (b_X12_label_125 N K σ x6) := by
  unfold b_X12_label_125
  exact (kve_ite (kve_st rfl (kre_f_X12_label_168 N σ)) (kve_ite (kve_ite (kve_ite (kve_st rfl (hK (RS.setA σ 46 ((x6 : Int32).toNatClampNeg) (-3)) (x6 + (-1)))) (kve_st rfl (kre_f_X12_label_168 N σ))) (kve_st rfl (kre_f_X12_label_168 N σ))) kve_none))
theorem kre_f_X12_label_125 (N : Nat) : ∀ (n : Nat) (σ : RS) (y0 : Int32), KVe σ (f_X12_label_125 N n σ y0)
  | 0, _, _ => kve_none
  | n+1, σ, y0 => kre_b_X12_label_125 N (f_X12_label_125 N n) (fun σ y0 => kre_f_X12_label_125 N n σ y0) σ y0
theorem kre_f_X12_label_110 (N : Nat) (σ : RS) (x5 : Int32) : KVe σ (f_X12_label_110 N σ x5) := by
  unfold f_X12_label_110
  exact (kve_ite (kve_st rfl (kre_f_X12_label_125 N N (RS.setA σ 46 ((x5 : Int32).toNatClampNeg) (-3)) (x5 - 1))) kve_none)
theorem kre_f_X12_label_60 (N : Nat) (σ : RS) (x1 : Int32) (x2 : Int64) : KVe σ (f_X12_label_60 N σ x1 x2) := by
  unfold f_X12_label_60
  exact (kve_bind (kre_st rfl (kre_f_X12_goal N σ 2 x2)) (fun p2 => (kve_ite (kve_bindv (kve_st rfl (kre_f_X12_next N (RS.setA p2.2 66 ((x1 : Int32).toNatClampNeg) p2.1))) (fun p5 => (kve_ite (kve_st rfl (kre_f_X12_label_110 N p5 p2.1)) (kve_ite (kve_st rfl (kre_f_X12_label_110 N p5 p2.1)) (kve_ite (kve_st rfl (kre_f_X12_label_110 N p5 p2.1)) (kve_ite (kve_ite (kve_st rfl (kre_f_X12_label_188 N (RS.setA p5 46 ((p2.1 : Int32).toNatClampNeg) (-2)))) kve_none) (kve_st rfl (kre_f_X12_label_188 N p5)))))))) kve_none)))
theorem kre_b_X12_label_8 (N : Nat) (K : RS → Int32 → Int64 → Int32 → Int32 → Option (RS)) (hK : ∀ (σ : RS) (y0 : Int32) (y1 : Int64) (y2 : Int32) (y3 : Int32), KVe σ (K σ y0 y1 y2 y3)) (σ : RS) (x1 : Int32) (x2 : Int64) (x4 : Int32) (x5 : Int32) : KVe σ (b_X12_label_8 N K σ x1 x2 x4 x5) := by
  unfold b_X12_label_8
  exact (kve_ite (kve_st rfl (kre_f_X12_label_60 N σ x1 x2)) (kve_ite (kve_ite (kve_st rfl (kre_f_X12_label_60 N σ x1 x2)) (kve_ite (kve_ite (kve_bindv (kve_st rfl (kre_f_X12_fail N σ 4 x4)) (fun p23 => (kve_st rfl (hK p23 x1 x2 x4 (x5 + (-1)))))) (kve_st rfl (hK σ x1 x2 x4 (x5 + (-1))))) (kve_st rfl (hK σ x1 x2 x4 (x5 + (-1)))))) kve_none))
theorem kre_f_X12_label_8 (N : Nat) : ∀ (n : Nat) (σ : RS) (y0 : Int32) (y1 : Int64) (y2 : Int32) (y3 : Int32), KVe σ (f_X12_label_8 N n σ y0 y1 y2 y3)
  | 0, _, _, _, _, _ => kve_none
  | n+1, σ, y0, y1, y2, y3 => kre_b_X12_label_8 N (f_X12_label_8 N n) (fun σ y0 y1 y2 y3 => kre_f_X12_label_8 N n σ y0 y1 y2 y3) σ y0 y1 y2 y3
theorem kre_f_X12_label (N : Nat) (σ : RS) (x1 : Int32) (x2 : Int64) (x4 : Int32) : KVe σ (f_X12_label N σ x1 x2 x4) := by
  unfold f_X12_label
  exact (kve_st rfl (kre_f_X12_label_8 N N σ x1 x2 x4 ((σ.i 43) - 1)))
theorem kre_f_X12_got_22 (N : Nat) (σ : RS) (x3 : Int32) : KRe σ (f_X12_got_22 N σ x3) := by
  unfold f_X12_got_22
  exact (kre_bindv (kve_st rfl (kre_f_X12_fail N σ 3 x3)) (fun p4 => (kre_some rfl)))
theorem kre_f_X12_got (N : Nat) (σ : RS) (x1 : Int64) (x3 : Int32) : KRe σ (f_X12_got N σ x1 x3) := by
  unfold f_X12_got
  exact (kre_bind (kre_st rfl (kre_f_X12_seenAs N σ x1)) (fun p1 => (kre_ite (kre_st rfl (kre_f_X12_got_22 N p1.2 x3)) (kre_ite (kre_ite (kre_some rfl) (kre_st rfl (kre_f_X12_got_22 N p1.2 x3))) kre_none))))
theorem kre_b_X12_isInArms_2 (N : Nat) (K : RS → Int32 → Option (Int32 × RS)) (hK : ∀ (σ : RS) (y0 : Int32), KRe σ (K σ y0)) (σ : RS) (x1 : Int32) : KRe σ (b_X12_isInArms_2 N K σ x1) := by
  unfold b_X12_isInArms_2
  exact (kre_ite (kre_some rfl) (kre_ite (kre_ite (kre_some rfl) (kre_st rfl (hK σ (x1 + 1)))) kre_none))
theorem kre_f_X12_isInArms_2 (N : Nat) : ∀ (n : Nat) (σ : RS) (y0 : Int32), KRe σ (f_X12_isInArms_2 N n σ y0)
  | 0, _, _ => kre_none
  | n+1, σ, y0 => kre_b_X12_isInArms_2 N (f_X12_isInArms_2 N n) (fun σ y0 => kre_f_X12_isInArms_2 N n σ y0) σ y0
theorem kre_f_X12_isInArms (N : Nat) (σ : RS) : KRe σ (f_X12_isInArms N σ) := by
  unfold f_X12_isInArms
  exact (kre_st rfl (kre_f_X12_isInArms_2 N N σ 0))
theorem kre_f_X12_ending_63 (N : Nat) (σ : RS) : KVe σ (f_X12_ending_63 N σ) := by
  unfold f_X12_ending_63
  exact (kve_bindv (kve_st rfl (kre_f_X12_next N σ)) (fun p26 => (kve_bindv (kve_st rfl (kre_f_X12_then N p26 1 16)) (fun p28 => (kve_some rfl)))))
theorem kre_f_X12_ending_53 (N : Nat) (σ : RS) : KVe σ (f_X12_ending_53 N σ) := by
  unfold f_X12_ending_53
  exact (kve_bindv (kve_st rfl (kre_f_X12_fail N σ 5 (σ.i 11))) (fun p33 => (kve_some rfl)))
theorem kre_f_X12_ending_36 (N : Nat) (σ : RS) : KVe σ (f_X12_ending_36 N σ) := by
  unfold f_X12_ending_36
  exact (kve_ite (kve_bind (kre_st rfl (kre_f_X12_isInArms N σ)) (fun p30 => (kve_ite (kve_st rfl (kre_f_X12_ending_53 N p30.2)) (kve_st rfl (kre_f_X12_ending_63 N p30.2))))) (kve_st rfl (kre_f_X12_ending_63 N σ)))
theorem kre_f_X12_throwing_142 (N : Nat) (σ : RS) : KVe σ (f_X12_throwing_142 N σ) := by
  unfold f_X12_throwing_142
  exact (kve_bindv (kve_st rfl (kre_f_X12_fail N σ 3 (σ.i 11))) (fun p13 => (kve_some rfl)))
theorem kre_f_X12_isJustTrue_18 (N : Nat) (σ : RS) : KRe σ (f_X12_isJustTrue_18 N σ) := by
  unfold f_X12_isJustTrue_18
  exact (kre_some rfl)
theorem kre_f_X12_isJustTrue (N : Nat) (σ : RS) (x1 : Int32) : KRe σ (f_X12_isJustTrue N σ x1) := by
  unfold f_X12_isJustTrue
  exact (kre_ite (kre_st rfl (kre_f_X12_isJustTrue_18 N σ)) (kre_ite (kre_some rfl) (kre_st rfl (kre_f_X12_isJustTrue_18 N σ))))
theorem kre_f_X12_whiles_77 (N : Nat) (σ : RS) : KVe σ (f_X12_whiles_77 N σ) := by
  unfold f_X12_whiles_77
  exact (kve_bindv (kve_st rfl (kre_f_X12_then N σ 1 20)) (fun p8 => (kve_some rfl)))
theorem kre_f_X12_repeats_195 (N : Nat) (σ : RS) : KVe σ (f_X12_repeats_195 N σ) := by
  unfold f_X12_repeats_195
  exact (kve_bindv (kve_st rfl (kre_f_X12_then N σ 2 20)) (fun p26 => (kve_some rfl)))
theorem kre_f_X12_repeats_134 (N : Nat) (σ : RS) (x1 : Int32) (x2 : Int32) : KVe σ (f_X12_repeats_134 N σ x1 x2) := by
  unfold f_X12_repeats_134
  exact (kve_ite (kve_ite (kve_bind (kre_st rfl (kre_f_X12_need N (RS.setI (RS.setA σ 70 ((x1 : Int32).toNatClampNeg) (σ.a 48 ((x2 : Int32).toNatClampNeg))) 43 ((σ.i 43) - 1)) 415)) (fun p21 => (kve_bind (kre_st rfl (kre_f_X12_open N p21.2 40)) (fun p23 => (kve_ite (kve_st rfl (kre_f_X12_repeats_195 N (RS.setA p23.2 69 ((x1 : Int32).toNatClampNeg) (p23.2.i 17)))) (kve_st rfl (kre_f_X12_repeats_195 N (RS.setA p23.2 69 ((x1 : Int32).toNatClampNeg) 0)))))))) kve_none) kve_none)
theorem kre_f_X12_repeats_114 (N : Nat) (σ : RS) (x1 : Int32) (x2 : Int32) : KVe σ (f_X12_repeats_114 N σ x1 x2) := by
  unfold f_X12_repeats_114
  exact (kve_ite (kve_ite (kve_ite (kve_st rfl (kre_f_X12_repeats_134 N (RS.setA σ 72 ((x1 : Int32).toNatClampNeg) 0) x1 x2)) kve_none) (kve_ite (kve_st rfl (kre_f_X12_repeats_134 N (RS.setA σ 72 ((x1 : Int32).toNatClampNeg) 1) x1 x2)) kve_none)) kve_none)
theorem kre_f_X12_forHead_231 (N : Nat) (σ : RS) (x1 : Int32) : KVe σ (f_X12_forHead_231 N σ x1) := by
  unfold f_X12_forHead_231
  exact (kve_ite (kve_some rfl) kve_none)
theorem kre_f_X12_forHead_196 (N : Nat) (σ : RS) : KVe σ (f_X12_forHead_196 N σ) := by
  unfold f_X12_forHead_196
  exact (kve_bindv (kve_st rfl (kre_f_X12_next N σ)) (fun p21 => (kve_bindv (kve_st rfl (kre_f_X12_then N p21 2 16)) (fun p23 => (kve_some rfl)))))
theorem kre_f_X12_forHead_142 (N : Nat) (σ : RS) : KVe σ (f_X12_forHead_142 N σ) := by
  unfold f_X12_forHead_142
  exact (kve_some rfl)
theorem kre_f_X12_forBehind_59 (N : Nat) (σ : RS) (x1 : Int32) : KVe σ (f_X12_forBehind_59 N σ x1) := by
  unfold f_X12_forBehind_59
  exact (kve_ite (kve_some rfl) kve_none)
theorem kre_f_X12_fors_255 (N : Nat) (σ : RS) (x1 : Int32) : KVe σ (f_X12_fors_255 N σ x1) := by
  unfold f_X12_fors_255
  exact (kve_ite (kve_some rfl) kve_none)
theorem kre_f_X12_fors_469 (N : Nat) (σ : RS) : KVe σ (f_X12_fors_469 N σ) := by
  unfold f_X12_fors_469
  exact (kve_some rfl)
theorem kre_f_X12_caseNumber_140 (N : Nat) (σ : RS) : KRe σ (f_X12_caseNumber_140 N σ) := by
  unfold f_X12_caseNumber_140
  exact (kre_ite (kre_some rfl) (kre_some rfl))
theorem kre_f_X12_caseNumber_43 (N : Nat) (σ : RS) : KRe σ (f_X12_caseNumber_43 N σ) := by
  unfold f_X12_caseNumber_43
  exact (kre_some rfl)
theorem kre_f_X12_groups_335 (N : Nat) (σ : RS) : KVe σ (f_X12_groups_335 N σ) := by
  unfold f_X12_groups_335
  exact (kve_some rfl)
theorem kre_f_X12_groups_356 (N : Nat) (σ : RS) (x1 : Int32) : KVe σ (f_X12_groups_356 N σ x1) := by
  unfold f_X12_groups_356
  exact (kve_ite (kve_some rfl) kve_none)
theorem kre_f_X12_trying_215 (N : Nat) (σ : RS) (x1 : Int32) : KVe σ (f_X12_trying_215 N σ x1) := by
  unfold f_X12_trying_215
  exact (kve_ite (kve_ite (kve_bindv (kve_st rfl (kre_f_X12_then N (RS.setA (RS.setI (RS.setA (RS.setA σ 57 (((σ.i 56) : Int32).toNatClampNeg) (σ.a 66 ((x1 : Int32).toNatClampNeg))) 58 (((σ.i 56) : Int32).toNatClampNeg) (σ.i 43)) 56 ((σ.i 56) + 1)) 72 ((x1 : Int32).toNatClampNeg) (-1)) 1 3)) (fun p13 => (kve_some rfl))) kve_none) kve_none)
theorem kre_f_X12_sums_39 (N : Nat) (σ : RS) (x1 : Int32) (x2 : Int32) (x3 : Int32) : KVe σ (f_X12_sums_39 N σ x1 x2 x3) := by
  unfold f_X12_sums_39
  exact (kve_ite (kve_some rfl) (kve_ite (kve_bindv (kve_st rfl (kre_f_X12_next N (RS.setA σ 66 ((x1 : Int32).toNatClampNeg) (σ.i 10)))) (fun p6 => (kve_bindv (kve_st rfl (kre_f_X12_then N p6 2 x2)) (fun p8 => (kve_some rfl))))) kve_none))
theorem kre_f_X12_factor_215 (N : Nat) (σ : RS) : KVe σ (f_X12_factor_215 N σ) := by
  unfold f_X12_factor_215
  exact (kve_bindv (kve_st rfl (kre_f_X12_next N σ)) (fun p31 => (kve_some rfl)))
theorem kre_f_X12_arms_333 (N : Nat) (σ : RS) : KVe σ (f_X12_arms_333 N σ) := by
  unfold f_X12_arms_333
  exact (kve_ite (kve_bindv (kve_st rfl (kre_f_X12_next N σ)) (fun p51 => (kve_some rfl))) (kve_some rfl))
theorem kre_f_X12_arms_400 (N : Nat) (σ : RS) : KVe σ (f_X12_arms_400 N σ) := by
  unfold f_X12_arms_400
  exact (kve_bindv (kve_st rfl (kre_f_X12_then N σ 7 16)) (fun p62 => (kve_some rfl)))
theorem kre_f_X12_arms_435 (N : Nat) (σ : RS) (x1 : Int32) : KVe σ (f_X12_arms_435 N σ x1) := by
  unfold f_X12_arms_435
  exact (kve_bind (kre_st rfl (kre_f_X12_shut N σ 125)) (fun p71 => (kve_ite (kve_some rfl) kve_none)))
theorem kre_f_X12_one_133 (N : Nat) (σ : RS) : KVe σ (f_X12_one_133 N σ) := by
  unfold f_X12_one_133
  exact (kve_bindv (kve_st rfl (kre_f_X12_next N σ)) (fun p9 => (kve_some rfl)))
theorem kre_f_X12_one_281 (N : Nat) (σ : RS) (x1 : Int32) : KVe σ (f_X12_one_281 N σ x1) := by
  unfold f_X12_one_281
  exact (kve_ite (kve_bindv (kve_st rfl (kre_f_X12_next N (RS.setA σ 66 ((x1 : Int32).toNatClampNeg) (σ.i 10)))) (fun p39 => (kve_bindv (kve_st rfl (kre_f_X12_then N p39 4 16)) (fun p41 => (kve_some rfl))))) kve_none)
theorem kre_f_X12_thing_74 (N : Nat) (σ : RS) : KVe σ (f_X12_thing_74 N σ) := by
  unfold f_X12_thing_74
  exact (kve_some rfl)
theorem kre_f_X12_thing_116 (N : Nat) (σ : RS) : KVe σ (f_X12_thing_116 N σ) := by
  unfold f_X12_thing_116
  exact (kve_some rfl)
theorem kre_f_X12_read_199 (N : Nat) (σ : RS) : KRe σ (f_X12_read_199 N σ) := by
  unfold f_X12_read_199
  exact (kre_ite (kre_some rfl) (kre_some rfl))
theorem kre_f_X12_read_167 (N : Nat) (σ : RS) : KRe σ (f_X12_read_167 N σ) := by
  unfold f_X12_read_167
  exact (kre_ite (kre_ite (kre_st rfl (kre_f_X12_read_199 N (RS.setI (RS.setI (RS.setI σ 78 (σ.i 75)) 76 (σ.i 15)) 77 1))) (kre_st rfl (kre_f_X12_read_199 N (RS.setI (RS.setI (RS.setI σ 78 (σ.i 75)) 76 (σ.i 15)) 77 0)))) kre_none)
theorem kre_f_X12_read_138 (N : Nat) (σ : RS) : KRe σ (f_X12_read_138 N σ) := by
  unfold f_X12_read_138
  exact (kre_ite (kre_ite (kre_st rfl (kre_f_X12_read_167 N (RS.setI σ 2 0))) (kre_bindv (kve_st rfl (kre_f_X12_fail N (RS.setI σ 2 0) 7 (σ.i 18))) (fun p17 => (kre_st rfl (kre_f_X12_read_167 N p17))))) (kre_st rfl (kre_f_X12_read_167 N (RS.setI σ 2 0))))
theorem kre_f_X12_fault (N : Nat) (σ : RS) : KRe σ (f_X12_fault N σ) := by
  unfold f_X12_fault
  exact (kre_some rfl)
theorem kre_f_X12_program (N : Nat) (σ : RS) (x1 : Int32) : KRe σ (f_X12_program N σ x1) := by
  unfold f_X12_program
  exact (kre_bind (kre_st rfl (kre_f_X12_in N (RS.setI σ 0 0) x1 0 3)) (fun p1 => (kre_ite (kre_some rfl) (kre_ite (kre_some rfl) (kre_ite (kre_some rfl) (kre_ite (kre_ite (kre_some rfl) (kre_some rfl)) (kre_ite (kre_some rfl) (kre_some rfl))))))))
theorem kre_f_X12_row (N : Nat) (σ : RS) (x1 : Int32) (x2 : Int32) : KVe σ (f_X12_row N σ x1 x2) := by
  unfold f_X12_row
  exact (kve_ite (kve_some rfl) (kve_ite (kve_some rfl) kve_none))
theorem kre_f_X12_record (N : Nat) (σ : RS) (x1 : Int32) (x2 : Int32) (x3 : Int32) (x4 : Int32) : KRe σ (f_X12_record N σ x1 x2 x3 x4) := by
  unfold f_X12_record
  exact (kre_ite (kre_some rfl) kre_none)
theorem kre_f_X12_put (N : Nat) (σ : RS) (x1 : Int32) : KVe σ (f_X12_put N σ x1) := by
  unfold f_X12_put
  exact (kve_ite (kve_some rfl) kve_none)
theorem kre_f_X12_take (N : Nat) (σ : RS) : KRe σ (f_X12_take N σ) := by
  unfold f_X12_take
  exact (kre_ite (kre_some rfl) kre_none)
theorem kre_f_X12_step (N : Nat) (σ : RS) : KVe σ (f_X12_step N σ) := by
  unfold f_X12_step
  exact (kve_ite (kve_some rfl) (kve_some rfl))
theorem kre_f_X12_compute (N : Nat) (σ : RS) (x1 : Int32) (x2 : Int32) (x3 : Int32) : KRe σ (f_X12_compute N σ x1 x2 x3) := by
  unfold f_X12_compute
  exact (kre_ite (kre_ite kre_none (kre_some rfl)) (kre_ite (kre_some rfl) (kre_ite (kre_some rfl) (kre_ite (kre_some rfl) (kre_ite (kre_ite kre_none (kre_some rfl)) (kre_ite (kre_ite (kre_some rfl) (kre_some rfl)) (kre_ite (kre_ite (kre_some rfl) (kre_some rfl)) (kre_ite (kre_ite (kre_some rfl) (kre_some rfl)) (kre_ite (kre_ite (kre_some rfl) (kre_some rfl)) (kre_ite (kre_ite (kre_some rfl) (kre_some rfl)) (kre_ite (kre_some rfl) (kre_some rfl))))))))))))
theorem kre_b_X12_caseOf_5 (N : Nat) (K : RS → Int32 → Int32 → Int32 → Option (Int32 × RS)) (hK : ∀ (σ : RS) (y0 : Int32) (y1 : Int32) (y2 : Int32), KRe σ (K σ y0 y1 y2)) (σ : RS) (x2 : Int32) (x3 : Int32) (x4 : Int32) : KRe σ (b_X12_caseOf_5 N K σ x2 x3 x4) := by
  unfold b_X12_caseOf_5
  exact (kre_ite (kre_some rfl) (kre_ite (kre_ite (kre_ite (kre_some rfl) (kre_st rfl (hK σ x2 x3 (σ.a 27 ((x4 : Int32).toNatClampNeg))))) (kre_st rfl (hK σ x2 x4 (σ.a 27 ((x4 : Int32).toNatClampNeg))))) kre_none))
theorem kre_f_X12_caseOf_5 (N : Nat) : ∀ (n : Nat) (σ : RS) (y0 : Int32) (y1 : Int32) (y2 : Int32), KRe σ (f_X12_caseOf_5 N n σ y0 y1 y2)
  | 0, _, _, _, _ => kre_none
  | n+1, σ, y0, y1, y2 => kre_b_X12_caseOf_5 N (f_X12_caseOf_5 N n) (fun σ y0 y1 y2 => kre_f_X12_caseOf_5 N n σ y0 y1 y2) σ y0 y1 y2
theorem kre_f_X12_caseOf (N : Nat) (σ : RS) (x1 : Int32) (x2 : Int32) : KRe σ (f_X12_caseOf N σ x1 x2) := by
  unfold f_X12_caseOf
  exact (kre_st rfl (kre_f_X12_caseOf_5 N N σ x2 (-1) x1))
theorem kre_b_X12_others_85 (N : Nat) (K : RS → Int32 → Int32 → Int32 → Option (RS)) (hK : ∀ (σ : RS) (y0 : Int32) (y1 : Int32) (y2 : Int32), KVe σ (K σ y0 y1 y2)) (σ : RS) (x2 : Int32) (x4 : Int32) (x5 : Int32) : KVe σ (b_X12_others_85 N K σ x2 x4 x5) := by
  unfold b_X12_others_85
  exact (kve_ite (kve_bind (kre_st rfl (kre_f_X12_record N (RS.setI σ 93 ((σ.i 93) - x2)) 2 x4 x4 (σ.i 97))) (fun p4 => (kve_some rfl))) (kve_ite (kve_ite (kve_st rfl (hK (RS.setI (RS.setA σ 98 (((σ.i 97) : Int32).toNatClampNeg) (σ.a 94 (((((σ.i 93) - x2) + x5) : Int32).toNatClampNeg))) 97 ((σ.i 97) + 1)) x2 x4 (x5 + 1))) kve_none) kve_none))
theorem kre_f_X12_others_85 (N : Nat) : ∀ (n : Nat) (σ : RS) (y0 : Int32) (y1 : Int32) (y2 : Int32), KVe σ (f_X12_others_85 N n σ y0 y1 y2)
  | 0, _, _, _, _ => kve_none
  | n+1, σ, y0, y1, y2 => kre_b_X12_others_85 N (f_X12_others_85 N n) (fun σ y0 y1 y2 => kre_f_X12_others_85 N n σ y0 y1 y2) σ y0 y1 y2
theorem kre_f_X12_ends_242 (N : Nat) (σ : RS) : KVe σ (f_X12_ends_242 N σ) := by
  unfold f_X12_ends_242
  exact (kve_some rfl)
theorem kre_f_X12_ends_351 (N : Nat) (σ : RS) : KVe σ (f_X12_ends_351 N σ) := by
  unfold f_X12_ends_351
  exact (kve_some rfl)
theorem kre_b_X12_ran_168 (N : Nat) (K : RS → Int32 → Int32 → Option (Int32 × RS)) (hK : ∀ (σ : RS) (y0 : Int32) (y1 : Int32), KRe σ (K σ y0 y1)) (σ : RS) (x3 : Int32) (x4 : Int32) : KRe σ (b_X12_ran_168 N K σ x3 x4) := by
  unfold b_X12_ran_168
  exact (kre_ite (kre_some rfl) (kre_ite (kre_st rfl (hK σ (x3 + (σ.a 91 ((x4 : Int32).toNatClampNeg))) (x4 + 1))) kre_none))
theorem kre_f_X12_ran_168 (N : Nat) : ∀ (n : Nat) (σ : RS) (y0 : Int32) (y1 : Int32), KRe σ (f_X12_ran_168 N n σ y0 y1)
  | 0, _, _, _ => kre_none
  | n+1, σ, y0, y1 => kre_b_X12_ran_168 N (f_X12_ran_168 N n) (fun σ y0 y1 => kre_f_X12_ran_168 N n σ y0 y1) σ y0 y1
theorem kre_f_X12_ran_41 (N : Nat) (σ : RS) (x1 : Int32) (x2 : Int32) : KRe σ (f_X12_ran_41 N σ x1 x2) := by
  unfold f_X12_ran_41
  exact (kre_ite (kre_some rfl) (kre_ite (kre_some rfl) (kre_ite (kre_ite (kre_some rfl) (kre_some rfl)) (kre_ite (kre_ite (kre_some rfl) (kre_ite (kre_some rfl) kre_none)) (kre_ite (kre_ite (kre_some rfl) (kre_ite (kre_some rfl) kre_none)) (kre_ite (kre_ite (kre_some rfl) (kre_ite (kre_some rfl) kre_none)) (kre_st rfl (kre_f_X12_ran_168 N N σ 0 0))))))))
theorem kre_f_X12_ran (N : Nat) (σ : RS) (x1 : Int32) : KRe σ (f_X12_ran N σ x1) := by
  unfold f_X12_ran
  exact (kre_bind (kre_st rfl (kre_f_X12_in N (RS.setI σ 0 0) x1 0 6)) (fun p1 => (kre_ite (kre_some rfl) (kre_ite (kre_some rfl) (kre_ite (kre_st rfl (kre_f_X12_ran_41 N p1.2 x1 1)) (kre_st rfl (kre_f_X12_ran_41 N p1.2 x1 0)))))))
theorem kre_f_X12_trace_35 (N : Nat) (σ : RS) : KRe σ (f_X12_trace_35 N σ) := by
  unfold f_X12_trace_35
  exact (kre_some rfl)
theorem kre_f_X12_trace (N : Nat) (σ : RS) (x1 : Int32) (x2 : Int32) : KRe σ (f_X12_trace N σ x1 x2) := by
  unfold f_X12_trace
  exact (kre_ite (kre_st rfl (kre_f_X12_trace_35 N (RS.setI σ 0 0))) (kre_bind (kre_st rfl (kre_f_X12_in N (RS.setI σ 0 0) x1 0 ((σ.i 81) - 1))) (fun p2 => (kre_ite (kre_st rfl (kre_f_X12_trace_35 N p2.2)) (kre_bind (kre_st rfl (kre_f_X12_in N p2.2 x2 0 1)) (fun p5 => (kre_ite (kre_st rfl (kre_f_X12_trace_35 N p5.2)) (kre_ite (kre_ite (kre_some rfl) kre_none) (kre_ite (kre_some rfl) kre_none)))))))))
theorem kre_f_X12_suppressed_48 (N : Nat) (σ : RS) : KRe σ (f_X12_suppressed_48 N σ) := by
  unfold f_X12_suppressed_48
  exact (kre_some rfl)
theorem kre_f_X12_suppressed (N : Nat) (σ : RS) (x1 : Int32) (x2 : Int32) : KRe σ (f_X12_suppressed N σ x1 x2) := by
  unfold f_X12_suppressed
  exact (kre_ite (kre_st rfl (kre_f_X12_suppressed_48 N (RS.setI σ 0 0))) (kre_ite (kre_ite (kre_bind (kre_st rfl (kre_f_X12_in N (RS.setI σ 0 0) x1 0 ((σ.a 88 (((σ.i 114) : Int32).toNatClampNeg)) - 1))) (fun p4 => (kre_ite (kre_st rfl (kre_f_X12_suppressed_48 N p4.2)) (kre_bind (kre_st rfl (kre_f_X12_in N p4.2 x2 0 1)) (fun p7 => (kre_ite (kre_st rfl (kre_f_X12_suppressed_48 N p7.2)) (kre_ite (kre_ite (kre_some rfl) kre_none) (kre_ite (kre_some rfl) kre_none)))))))) kre_none) (kre_st rfl (kre_f_X12_suppressed_48 N (RS.setI σ 0 0)))))
theorem kre_f_X12_rounds_13 (N : Nat) (σ : RS) : KRe σ (f_X12_rounds_13 N σ) := by
  unfold f_X12_rounds_13
  exact (kre_some rfl)
theorem kre_f_X12_rounds (N : Nat) (σ : RS) (x1 : Int32) (x2 : Int32) : KRe σ (f_X12_rounds N σ x1 x2) := by
  unfold f_X12_rounds
  exact (kre_ite (kre_st rfl (kre_f_X12_rounds_13 N (RS.setI σ 0 0))) (kre_ite (kre_ite (kre_some rfl) (kre_ite kre_none (kre_ite (kre_some rfl) (kre_some rfl)))) (kre_st rfl (kre_f_X12_rounds_13 N (RS.setI σ 0 0)))))
