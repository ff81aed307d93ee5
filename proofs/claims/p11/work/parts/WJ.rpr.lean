/-! the reference: what the small methods leave alone -/
def QJT : Type := (Int32 × Int32 × Int32 × Int32 × Int32 × Int32 × Int32 × Int32 × Int32 × Int32 × Int32 × Int32 × Int32 × Int32 × Int32 × Int32 × Int32 × Int32) × ((Nat → Int32) × (Nat → Int32) × (Nat → Int32) × (Nat → Int32) × (Nat → Int32) × (Nat → Int32) × (Nat → Int32) × (Nat → Int32) × (Nat → Int32) × (Nat → Int32) × (Nat → Int32) × (Nat → Int32) × (Nat → Int32) × (Nat → Int32) × (Nat → Int32) × (Nat → Int32) × (Nat → Int32) × (Nat → Int32) × (Nat → Int32) × (Nat → Int32) × (Nat → Int32) × (Nat → Int32) × (Nat → Int32) × (Nat → Int32) × (Nat → Int32) × (Nat → Int32) × (Nat → Int32) × (Nat → Int32) × (Nat → Int32) × (Nat → Int32) × (Nat → Int32) × (Nat → Int32) × (Nat → Int32)) × ((Nat → Int64) × (Nat → Int64) × (Nat → Int64) × (Nat → Int64))
def qj (s : RS) : QJT := ((RS.i s 2, RS.i s 3, RS.i s 8, RS.i s 18, RS.i s 24, RS.i s 29, RS.i s 33, RS.i s 38, RS.i s 42, RS.i s 43, RS.i s 52, RS.i s 53, RS.i s 54, RS.i s 55, RS.i s 56, RS.i s 59, RS.i s 63, RS.i s 75), (RS.a s 1, RS.a s 4, RS.a s 25, RS.a s 26, RS.a s 27, RS.a s 28, RS.a s 30, RS.a s 34, RS.a s 37, RS.a s 40, RS.a s 41, RS.a s 44, RS.a s 46, RS.a s 47, RS.a s 48, RS.a s 49, RS.a s 50, RS.a s 51, RS.a s 57, RS.a s 58, RS.a s 60, RS.a s 61, RS.a s 62, RS.a s 64, RS.a s 65, RS.a s 66, RS.a s 67, RS.a s 68, RS.a s 69, RS.a s 70, RS.a s 71, RS.a s 72, RS.a s 73), (RS.b s 9, RS.b s 39, RS.b s 45, RS.b s 74))
def KQR (s r : RS) : Prop := qj r = qj s
theorem KQR.tr {s r u : RS} (h : KQR s r) (g : KQR r u) : KQR s u := Eq.trans g h
def KRq {α : Type} (s : RS) (t : Option (α × RS)) : Prop := ∀ R, t = some R → KQR s R.2
def KVq (s : RS) (t : Option RS) : Prop := ∀ R, t = some R → KQR s R
theorem krq_some {α : Type} {s : RS} {r : α × RS} (h : KQR s r.2) : KRq s (some r) := fun R q => by
  cases q
  exact h
theorem kvq_some {s r : RS} (h : KQR s r) : KVq s (some r) := fun R q => by
  cases q
  exact h
theorem krq_none {α : Type} {s : RS} : KRq s (none : Option (α × RS)) := fun R q => by cases q
theorem kvq_none {s : RS} : KVq s (none : Option RS) := fun R q => by cases q
theorem krq_ite {α : Type} {s : RS} {c : Prop} [Decidable c] {x y : Option (α × RS)} (hx : KRq s x) (hy : KRq s y) : KRq s (if c then x else y) := by
  by_cases h : c
  · rw [if_pos h]; exact hx
  · rw [if_neg h]; exact hy
theorem kvq_ite {s : RS} {c : Prop} [Decidable c] {x y : Option RS} (hx : KVq s x) (hy : KVq s y) : KVq s (if c then x else y) := by
  by_cases h : c
  · rw [if_pos h]; exact hx
  · rw [if_neg h]; exact hy
theorem krq_st {α : Type} {s r : RS} {t : Option (α × RS)} (h : KQR s r) (g : KRq r t) : KRq s t := fun R q => h.tr (g R q)
theorem kvq_st {s r : RS} {t : Option RS} (h : KQR s r) (g : KVq r t) : KVq s t := fun R q => h.tr (g R q)
theorem krq_bind {α β : Type} {s : RS} {x : Option (α × RS)} {k : α × RS → Option (β × RS)} (hx : KRq s x) (hk : ∀ p : α × RS, KRq p.2 (k p)) : KRq s (x.bind k) := by
  intro R h
  obtain ⟨p, h1, h2⟩ := hf_bind h
  exact (hx p h1).tr (hk p R h2)
theorem krq_bindv {β : Type} {s : RS} {x : Option RS} {k : RS → Option (β × RS)} (hx : KVq s x) (hk : ∀ p : RS, KRq p (k p)) : KRq s (x.bind k) := by
  intro R h
  obtain ⟨p, h1, h2⟩ := hf_bind h
  exact (hx p h1).tr (hk p R h2)
theorem kvq_bind {α : Type} {s : RS} {x : Option (α × RS)} {k : α × RS → Option RS} (hx : KRq s x) (hk : ∀ p : α × RS, KVq p.2 (k p)) : KVq s (x.bind k) := by
  intro R h
  obtain ⟨p, h1, h2⟩ := hf_bind h
  exact (hx p h1).tr (hk p R h2)
theorem kvq_bindv {s : RS} {x : Option RS} {k : RS → Option RS} (hx : KVq s x) (hk : ∀ p : RS, KVq p (k p)) : KVq s (x.bind k) := by
  intro R h
  obtain ⟨p, h1, h2⟩ := hf_bind h
  exact (hx p h1).tr (hk p R h2)
theorem krq_f_X12_in_14 (N : Nat) (σ : RS) : KRq σ (f_X12_in_14 N σ) := by
  unfold f_X12_in_14
  exact (krq_some rfl)
theorem krq_f_X12_in (N : Nat) (σ : RS) (x0 : Int32) (x1 : Int32) (x2 : Int32) : KRq σ (f_X12_in N σ x0 x1 x2) := by
  unfold f_X12_in
  exact (krq_ite (krq_st rfl (krq_f_X12_in_14 N σ)) (krq_ite (krq_st rfl (krq_f_X12_in_14 N σ)) (krq_some rfl)))
theorem krq_f_X12_isUnder_21 (N : Nat) (σ : RS) (x2 : Int32) (x3 : Int32) : KRq σ (f_X12_isUnder_21 N σ x2 x3) := by
  unfold f_X12_isUnder_21
  exact (krq_ite (krq_some rfl) (krq_some rfl))
theorem krq_b_X12_isUnder_2 (N : Nat) (K : RS → Int32 → Int32 → Option (Int32 × RS)) (hK : ∀ (σ : RS) (y0 : Int32) (y1 : Int32), KRq σ (K σ y0 y1)) (σ : RS) (x2 : Int32) (x3 : Int32) : KRq σ (b_X12_isUnder_2 N K σ x2 x3) := by
  unfold b_X12_isUnder_2
  exact (krq_ite (krq_st rfl (krq_f_X12_isUnder_21 N σ x2 x3)) (krq_ite (krq_st rfl (krq_f_X12_isUnder_21 N σ x2 x3)) (krq_ite (krq_st rfl (hK σ x2 (σ.a 4 ((x3 : Int32).toNatClampNeg)))) krq_none)))
theorem krq_f_X12_isUnder_2 (N : Nat) : ∀ (n : Nat) (σ : RS) (y0 : Int32) (y1 : Int32), KRq σ (f_X12_isUnder_2 N n σ y0 y1)
  | 0, _, _, _ => krq_none
  | n+1, σ, y0, y1 => krq_b_X12_isUnder_2 N (f_X12_isUnder_2 N n) (fun σ y0 y1 => krq_f_X12_isUnder_2 N n σ y0 y1) σ y0 y1
theorem krq_f_X12_isUnder (N : Nat) (σ : RS) (x1 : Int32) (x2 : Int32) : KRq σ (f_X12_isUnder N σ x1 x2) := by
  unfold f_X12_isUnder
  exact (krq_st rfl (krq_f_X12_isUnder_2 N N σ x2 x1))
theorem krq_f_X12_at (N : Nat) (σ : RS) (x1 : Int32) : KRq σ (f_X12_at N σ x1) := by
  unfold f_X12_at
  exact (krq_ite (krq_some rfl) (krq_ite (krq_some rfl) krq_none))
theorem krq_f_X12_isLetter_16 (N : Nat) (σ : RS) : KRq σ (f_X12_isLetter_16 N σ) := by
  unfold f_X12_isLetter_16
  exact (krq_some rfl)
theorem krq_f_X12_isLetter (N : Nat) (σ : RS) (x0 : Int32) : KRq σ (f_X12_isLetter N σ x0) := by
  unfold f_X12_isLetter
  exact (krq_ite (krq_st rfl (krq_f_X12_isLetter_16 N σ)) (krq_ite (krq_st rfl (krq_f_X12_isLetter_16 N σ)) (krq_some rfl)))
theorem krq_f_X12_isDigit_16 (N : Nat) (σ : RS) : KRq σ (f_X12_isDigit_16 N σ) := by
  unfold f_X12_isDigit_16
  exact (krq_some rfl)
theorem krq_f_X12_isDigit (N : Nat) (σ : RS) (x0 : Int32) : KRq σ (f_X12_isDigit N σ x0) := by
  unfold f_X12_isDigit
  exact (krq_ite (krq_st rfl (krq_f_X12_isDigit_16 N σ)) (krq_ite (krq_st rfl (krq_f_X12_isDigit_16 N σ)) (krq_some rfl)))
theorem krq_b_X12_readName_260 (N : Nat) (K : RS → Int32 → Option (RS)) (hK : ∀ (σ : RS) (y0 : Int32), KVq σ (K σ y0)) (σ : RS) (x4 : Int32) : KVq σ (b_X12_readName_260 N K σ x4) := by
  unfold b_X12_readName_260
  exact (kvq_ite (kvq_some rfl) (kvq_ite (kvq_ite (kvq_st rfl (hK (RS.setI σ 10 (410 + x4)) (x4 + 1))) (kvq_st rfl (hK (RS.setI σ 10 (σ.i 10)) (x4 + 1)))) kvq_none))
theorem krq_f_X12_readName_260 (N : Nat) : ∀ (n : Nat) (σ : RS) (y0 : Int32), KVq σ (f_X12_readName_260 N n σ y0)
  | 0, _, _ => kvq_none
  | n+1, σ, y0 => krq_b_X12_readName_260 N (f_X12_readName_260 N n) (fun σ y0 => krq_f_X12_readName_260 N n σ y0) σ y0
theorem krq_f_X12_readName_257 (N : Nat) (σ : RS) : KVq σ (f_X12_readName_257 N σ) := by
  unfold f_X12_readName_257
  exact (kvq_st rfl (krq_f_X12_readName_260 N N σ 0))
theorem krq_f_X12_readName_254 (N : Nat) (σ : RS) : KVq σ (f_X12_readName_254 N σ) := by
  unfold f_X12_readName_254
  exact (kvq_some rfl)
theorem krq_f_X12_readName_220 (N : Nat) (σ : RS) (x1 : Int32) (x3 : Int32) : KVq σ (f_X12_readName_220 N σ x1 x3) := by
  unfold f_X12_readName_220
  exact (kvq_ite (kvq_st rfl (krq_f_X12_readName_254 N (RS.setI (RS.setI σ 10 5) 14 x3))) (kvq_bind (krq_st rfl (krq_f_X12_at N (RS.setI σ 10 5) ((σ.i 11) + 2))) (fun p32 => (kvq_st rfl (krq_f_X12_readName_254 N (RS.setI p32.2 14 ((10 + p32.1) - 48)))))))
theorem krq_f_X12_readName_189 (N : Nat) (σ : RS) (x1 : Int32) (x3 : Int32) : KVq σ (f_X12_readName_189 N σ x1 x3) := by
  unfold f_X12_readName_189
  exact (kvq_ite (kvq_ite (kvq_bind (krq_st rfl (krq_f_X12_at N σ ((σ.i 11) + 2))) (fun p26 => (kvq_bind (krq_st rfl (krq_f_X12_in N p26.2 (p26.1 - 48) 0 1)) (fun p28 => (kvq_ite (kvq_st rfl (krq_f_X12_readName_257 N p28.2)) (kvq_st rfl (krq_f_X12_readName_220 N p28.2 x1 x3))))))) (kvq_st rfl (krq_f_X12_readName_257 N σ))) (kvq_st rfl (krq_f_X12_readName_257 N σ)))
theorem krq_f_X12_readName_168 (N : Nat) (σ : RS) (x1 : Int32) (x2 : Int32) (x3 : Int32) : KVq σ (f_X12_readName_168 N σ x1 x2 x3) := by
  unfold f_X12_readName_168
  exact (kvq_ite (kvq_ite (kvq_bind (krq_st rfl (krq_f_X12_in N σ x3 0 9)) (fun p34 => (kvq_ite (kvq_st rfl (krq_f_X12_readName_189 N p34.2 x1 x3)) (kvq_st rfl (krq_f_X12_readName_220 N p34.2 x1 x3))))) (kvq_st rfl (krq_f_X12_readName_189 N σ x1 x3))) (kvq_st rfl (krq_f_X12_readName_257 N σ)))
theorem krq_f_X12_readName_160 (N : Nat) (σ : RS) (x3 : Int32) : KVq σ (f_X12_readName_160 N σ x3) := by
  unfold f_X12_readName_160
  exact (kvq_some rfl)
theorem krq_f_X12_readName_135 (N : Nat) (σ : RS) (x1 : Int32) (x2 : Int32) (x3 : Int32) : KVq σ (f_X12_readName_135 N σ x1 x2 x3) := by
  unfold f_X12_readName_135
  exact (kvq_bind (krq_st rfl (krq_f_X12_in N σ x3 0 7)) (fun p38 => (kvq_ite (kvq_st rfl (krq_f_X12_readName_168 N p38.2 x1 x2 x3)) (kvq_ite (kvq_st rfl (krq_f_X12_readName_160 N (RS.setI p38.2 10 3) x3)) (kvq_st rfl (krq_f_X12_readName_160 N (RS.setI p38.2 10 4) x3))))))
theorem krq_b_X12_readName_5 (N : Nat) (K : RS → Option (RS)) (hK : ∀ (σ : RS), KVq σ (K σ)) (σ : RS) : KVq σ (b_X12_readName_5 N K σ) := by
  unfold b_X12_readName_5
  exact (kvq_bind (krq_st rfl (krq_f_X12_at N σ (σ.i 12))) (fun p1 => (kvq_bind (krq_st rfl (krq_f_X12_isLetter N p1.2 p1.1)) (fun p3 => (kvq_ite (kvq_bind (krq_st rfl (krq_f_X12_at N p3.2 (p3.2.i 12))) (fun p8 => (kvq_bind (krq_st rfl (krq_f_X12_isDigit N p8.2 p8.1)) (fun p10 => (kvq_ite (kvq_ite (kvq_bind (krq_st rfl (krq_f_X12_at N p10.2 (p10.2.i 11))) (fun p14 => (kvq_bind (krq_st rfl (krq_f_X12_at N p14.2 ((p14.2.i 11) + 1))) (fun p16 => (kvq_ite (kvq_ite (kvq_st rfl (krq_f_X12_readName_135 N (RS.setI p16.2 10 2) ((p10.2.i 12) - (p10.2.i 11)) p14.1 (p16.1 - 48))) (kvq_ite (kvq_st rfl (krq_f_X12_readName_135 N (RS.setI p16.2 10 2) ((p10.2.i 12) - (p10.2.i 11)) p14.1 (p16.1 - 48))) (kvq_st rfl (krq_f_X12_readName_168 N (RS.setI p16.2 10 2) ((p10.2.i 12) - (p10.2.i 11)) p14.1 (p16.1 - 48))))) (kvq_st rfl (krq_f_X12_readName_168 N (RS.setI p16.2 10 2) ((p10.2.i 12) - (p10.2.i 11)) p14.1 (p16.1 - 48)))))))) (kvq_some rfl)) (kvq_bind (krq_st rfl (krq_f_X12_at N p10.2 (p10.2.i 12))) (fun p43 => (kvq_st rfl (hK (RS.setI (RS.setL p43.2 ((p10.2.l <<< ((8 : Int32).toInt64 &&& 63)) ||| (p43.1 : Int32).toInt64)) 12 ((p43.2.i 12) + 1))))))))))) (kvq_bind (krq_st rfl (krq_f_X12_at N p3.2 (p3.2.i 12))) (fun p6 => (kvq_st rfl (hK (RS.setI (RS.setL p6.2 ((p3.2.l <<< ((8 : Int32).toInt64 &&& 63)) ||| (p6.1 : Int32).toInt64)) 12 ((p6.2.i 12) + 1)))))))))))
theorem krq_f_X12_readName_5 (N : Nat) : ∀ (n : Nat) (σ : RS), KVq σ (f_X12_readName_5 N n σ )
  | 0, _ => kvq_none
  | n+1, σ => krq_b_X12_readName_5 N (f_X12_readName_5 N n) (fun σ => krq_f_X12_readName_5 N n σ) σ
theorem krq_f_X12_readName (N : Nat) (σ : RS) : KVq σ (f_X12_readName N σ) := by
  unfold f_X12_readName
  exact (kvq_st rfl (krq_f_X12_readName_5 N N (RS.setL σ 0)))
theorem krq_f_X12_readSign_306 (N : Nat) (σ : RS) (x1 : Int32) (x4 : Int32) : KVq σ (f_X12_readSign_306 N σ x1 x4) := by
  unfold f_X12_readSign_306
  exact (kvq_ite (kvq_some rfl) (kvq_some rfl))
theorem krq_f_X12_readSign_299 (N : Nat) (σ : RS) (x1 : Int32) : KVq σ (f_X12_readSign_299 N σ x1) := by
  unfold f_X12_readSign_299
  exact (kvq_st rfl (krq_f_X12_readSign_306 N σ x1 1))
theorem krq_f_X12_readSign_165 (N : Nat) (σ : RS) (x1 : Int32) (x3 : Int32) : KVq σ (f_X12_readSign_165 N σ x1 x3) := by
  unfold f_X12_readSign_165
  exact (kvq_ite (kvq_ite (kvq_st rfl (krq_f_X12_readSign_299 N σ x1)) (kvq_ite (kvq_st rfl (krq_f_X12_readSign_299 N σ x1)) (kvq_ite (kvq_st rfl (krq_f_X12_readSign_299 N σ x1)) (kvq_ite (kvq_st rfl (krq_f_X12_readSign_299 N σ x1)) (kvq_ite (kvq_st rfl (krq_f_X12_readSign_299 N σ x1)) (kvq_ite (kvq_st rfl (krq_f_X12_readSign_299 N σ x1)) (kvq_ite (kvq_st rfl (krq_f_X12_readSign_299 N σ x1)) (kvq_ite (kvq_st rfl (krq_f_X12_readSign_299 N σ x1)) (kvq_ite (kvq_st rfl (krq_f_X12_readSign_299 N σ x1)) (kvq_ite (kvq_st rfl (krq_f_X12_readSign_299 N σ x1)) (kvq_ite (kvq_st rfl (krq_f_X12_readSign_299 N σ x1)) (kvq_ite (kvq_st rfl (krq_f_X12_readSign_299 N σ x1)) (kvq_ite (kvq_st rfl (krq_f_X12_readSign_299 N σ x1)) (kvq_ite (kvq_st rfl (krq_f_X12_readSign_299 N σ x1)) (kvq_ite (kvq_st rfl (krq_f_X12_readSign_299 N σ x1)) (kvq_ite (kvq_st rfl (krq_f_X12_readSign_299 N σ x1)) (kvq_ite (kvq_st rfl (krq_f_X12_readSign_299 N σ x1)) (kvq_ite (kvq_st rfl (krq_f_X12_readSign_299 N σ x1)) (kvq_ite (kvq_st rfl (krq_f_X12_readSign_299 N σ x1)) (kvq_st rfl (krq_f_X12_readSign_306 N σ x1 0))))))))))))))))))))) (kvq_some rfl))
theorem krq_f_X12_readSign_163 (N : Nat) (σ : RS) (x1 : Int32) : KVq σ (f_X12_readSign_163 N σ x1) := by
  unfold f_X12_readSign_163
  exact (kvq_st rfl (krq_f_X12_readSign_165 N σ x1 0))
theorem krq_f_X12_readSign_145 (N : Nat) (σ : RS) (x1 : Int32) (x2 : Int32) : KVq σ (f_X12_readSign_145 N σ x1 x2) := by
  unfold f_X12_readSign_145
  exact (kvq_ite (kvq_ite (kvq_st rfl (krq_f_X12_readSign_165 N σ x1 307)) (kvq_st rfl (krq_f_X12_readSign_163 N σ x1))) (kvq_st rfl (krq_f_X12_readSign_163 N σ x1)))
theorem krq_f_X12_readSign_127 (N : Nat) (σ : RS) (x1 : Int32) (x2 : Int32) : KVq σ (f_X12_readSign_127 N σ x1 x2) := by
  unfold f_X12_readSign_127
  exact (kvq_ite (kvq_ite (kvq_st rfl (krq_f_X12_readSign_165 N σ x1 306)) (kvq_st rfl (krq_f_X12_readSign_145 N σ x1 x2))) (kvq_st rfl (krq_f_X12_readSign_145 N σ x1 x2)))
theorem krq_f_X12_readSign_109 (N : Nat) (σ : RS) (x1 : Int32) (x2 : Int32) : KVq σ (f_X12_readSign_109 N σ x1 x2) := by
  unfold f_X12_readSign_109
  exact (kvq_ite (kvq_ite (kvq_st rfl (krq_f_X12_readSign_165 N σ x1 305)) (kvq_st rfl (krq_f_X12_readSign_127 N σ x1 x2))) (kvq_st rfl (krq_f_X12_readSign_127 N σ x1 x2)))
theorem krq_f_X12_readSign_91 (N : Nat) (σ : RS) (x1 : Int32) (x2 : Int32) : KVq σ (f_X12_readSign_91 N σ x1 x2) := by
  unfold f_X12_readSign_91
  exact (kvq_ite (kvq_ite (kvq_st rfl (krq_f_X12_readSign_165 N σ x1 304)) (kvq_st rfl (krq_f_X12_readSign_109 N σ x1 x2))) (kvq_st rfl (krq_f_X12_readSign_109 N σ x1 x2)))
theorem krq_f_X12_readSign_73 (N : Nat) (σ : RS) (x1 : Int32) (x2 : Int32) : KVq σ (f_X12_readSign_73 N σ x1 x2) := by
  unfold f_X12_readSign_73
  exact (kvq_ite (kvq_ite (kvq_st rfl (krq_f_X12_readSign_165 N σ x1 303)) (kvq_st rfl (krq_f_X12_readSign_91 N σ x1 x2))) (kvq_st rfl (krq_f_X12_readSign_91 N σ x1 x2)))
theorem krq_f_X12_readSign_55 (N : Nat) (σ : RS) (x1 : Int32) (x2 : Int32) : KVq σ (f_X12_readSign_55 N σ x1 x2) := by
  unfold f_X12_readSign_55
  exact (kvq_ite (kvq_ite (kvq_st rfl (krq_f_X12_readSign_165 N σ x1 302)) (kvq_st rfl (krq_f_X12_readSign_73 N σ x1 x2))) (kvq_st rfl (krq_f_X12_readSign_73 N σ x1 x2)))
theorem krq_f_X12_readSign_37 (N : Nat) (σ : RS) (x1 : Int32) (x2 : Int32) : KVq σ (f_X12_readSign_37 N σ x1 x2) := by
  unfold f_X12_readSign_37
  exact (kvq_ite (kvq_ite (kvq_st rfl (krq_f_X12_readSign_165 N σ x1 301)) (kvq_st rfl (krq_f_X12_readSign_55 N σ x1 x2))) (kvq_st rfl (krq_f_X12_readSign_55 N σ x1 x2)))
theorem krq_f_X12_readSign (N : Nat) (σ : RS) (x1 : Int32) : KVq σ (f_X12_readSign N σ x1) := by
  unfold f_X12_readSign
  exact (kvq_bind (krq_st rfl (krq_f_X12_at N (RS.setI σ 12 ((σ.i 12) + 1)) ((σ.i 12) + 1))) (fun p1 => (kvq_ite (kvq_ite (kvq_st rfl (krq_f_X12_readSign_165 N p1.2 x1 300)) (kvq_st rfl (krq_f_X12_readSign_37 N p1.2 x1 p1.1))) (kvq_st rfl (krq_f_X12_readSign_37 N p1.2 x1 p1.1)))))
theorem krq_f_X12_next_211 (N : Nat) (σ : RS) : KVq σ (f_X12_next_211 N σ) := by
  unfold f_X12_next_211
  exact (kvq_some rfl)
theorem krq_b_X12_next_116 (N : Nat) (K : RS → Option (RS)) (hK : ∀ (σ : RS), KVq σ (K σ)) (σ : RS) : KVq σ (b_X12_next_116 N K σ) := by
  unfold b_X12_next_116
  exact (kvq_bind (krq_st rfl (krq_f_X12_at N σ (σ.i 12))) (fun p16 => (kvq_bind (krq_st rfl (krq_f_X12_isDigit N p16.2 p16.1)) (fun p18 => (kvq_ite (kvq_ite (kvq_st rfl (krq_f_X12_next_211 N (RS.setI p18.2 10 1))) (kvq_st rfl (krq_f_X12_next_211 N (RS.setI p18.2 10 6)))) (kvq_ite (kvq_st rfl (hK (RS.setI (RS.setI p18.2 14 (p18.2.i 14)) 12 ((p18.2.i 12) + 1)))) (kvq_bind (krq_st rfl (krq_f_X12_at N p18.2 (p18.2.i 12))) (fun p23 => (kvq_st rfl (hK (RS.setI (RS.setI p23.2 14 (((10 * (p18.2.i 14)) + p23.1) - 48)) 12 ((p23.2.i 12) + 1))))))))))))
theorem krq_f_X12_next_116 (N : Nat) : ∀ (n : Nat) (σ : RS), KVq σ (f_X12_next_116 N n σ )
  | 0, _ => kvq_none
  | n+1, σ => krq_b_X12_next_116 N (f_X12_next_116 N n) (fun σ => krq_f_X12_next_116 N n σ) σ
theorem krq_f_X12_next_68 (N : Nat) (σ : RS) : KVq σ (f_X12_next_68 N σ) := by
  unfold f_X12_next_68
  exact (kvq_bind (krq_st rfl (krq_f_X12_at N (RS.setI σ 11 (σ.i 12)) (σ.i 12))) (fun p3 => (kvq_ite (kvq_some rfl) (kvq_bind (krq_st rfl (krq_f_X12_isDigit N p3.2 p3.1)) (fun p6 => (kvq_ite (kvq_bind (krq_st rfl (krq_f_X12_isLetter N p6.2 p3.1)) (fun p9 => (kvq_ite (kvq_bindv (kvq_st rfl (krq_f_X12_readSign N p9.2 p3.1)) (fun p12 => (kvq_some rfl))) (kvq_bindv (kvq_st rfl (krq_f_X12_readName N p9.2)) (fun p14 => (kvq_some rfl)))))) (kvq_st rfl (krq_f_X12_next_116 N N (RS.setI p6.2 14 0)))))))))
theorem krq_b_X12_next_18 (N : Nat) (K : RS → Option (RS)) (hK : ∀ (σ : RS), KVq σ (K σ)) (σ : RS) : KVq σ (b_X12_next_18 N K σ) := by
  unfold b_X12_next_18
  exact (kvq_ite (kvq_st rfl (krq_f_X12_next_68 N σ)) (kvq_bind (krq_st rfl (krq_f_X12_at N σ (σ.i 12))) (fun p25 => (kvq_ite (kvq_st rfl (hK (RS.setI p25.2 12 ((p25.2.i 12) + 1)))) (kvq_bind (krq_st rfl (krq_f_X12_at N p25.2 (p25.2.i 12))) (fun p28 => (kvq_ite (kvq_st rfl (hK (RS.setI p28.2 12 ((p28.2.i 12) + 1)))) (kvq_st rfl (krq_f_X12_next_68 N p28.2)))))))))
theorem krq_f_X12_next_18 (N : Nat) : ∀ (n : Nat) (σ : RS), KVq σ (f_X12_next_18 N n σ )
  | 0, _ => kvq_none
  | n+1, σ => krq_b_X12_next_18 N (f_X12_next_18 N n) (fun σ => krq_f_X12_next_18 N n σ) σ
theorem krq_f_X12_next (N : Nat) (σ : RS) : KVq σ (f_X12_next N σ) := by
  unfold f_X12_next
  exact (kvq_ite (kvq_st rfl (krq_f_X12_next_18 N N (RS.setI σ 17 ((σ.i 17) + 1)))) (kvq_some rfl))
theorem krq_f_X12_fail (N : Nat) (σ : RS) (x1 : Int32) (x2 : Int32) : KVq σ (f_X12_fail N σ x1 x2) := by
  unfold f_X12_fail
  exact (kvq_ite (kvq_some rfl) (kvq_some rfl))
theorem krq_f_X12_can_42 (N : Nat) (σ : RS) : KRq σ (f_X12_can_42 N σ) := by
  unfold f_X12_can_42
  exact (krq_ite (krq_some rfl) (krq_some rfl))
theorem krq_f_X12_can_20 (N : Nat) (σ : RS) : KRq σ (f_X12_can_20 N σ) := by
  unfold f_X12_can_20
  exact (krq_ite (krq_bindv (kvq_st rfl (krq_f_X12_fail N σ 1 (σ.i 11))) (fun p7 => (krq_st rfl (krq_f_X12_can_42 N p7)))) (krq_bindv (kvq_st rfl (krq_f_X12_fail N σ 2 (σ.i 11))) (fun p5 => (krq_st rfl (krq_f_X12_can_42 N p5)))))
theorem krq_f_X12_can (N : Nat) (σ : RS) (x1 : Int32) : KRq σ (f_X12_can N σ x1) := by
  unfold f_X12_can
  exact (krq_ite (krq_ite (krq_st rfl (krq_f_X12_can_20 N σ)) (krq_ite (krq_st rfl (krq_f_X12_can_20 N σ)) (krq_st rfl (krq_f_X12_can_42 N σ)))) (krq_st rfl (krq_f_X12_can_42 N σ)))
theorem krq_f_X12_need_31 (N : Nat) (σ : RS) : KRq σ (f_X12_need_31 N σ) := by
  unfold f_X12_need_31
  exact (krq_ite (krq_some rfl) (krq_some rfl))
theorem krq_f_X12_need_27 (N : Nat) (σ : RS) : KRq σ (f_X12_need_27 N σ) := by
  unfold f_X12_need_27
  exact (krq_bindv (kvq_st rfl (krq_f_X12_next N σ)) (fun p7 => (krq_st rfl (krq_f_X12_need_31 N p7))))
theorem krq_f_X12_need (N : Nat) (σ : RS) (x1 : Int32) : KRq σ (f_X12_need N σ x1) := by
  unfold f_X12_need
  exact (krq_ite (krq_ite (krq_bind (krq_st rfl (krq_f_X12_can N σ 1)) (fun p9 => (krq_ite (krq_st rfl (krq_f_X12_need_31 N p9.2)) (krq_st rfl (krq_f_X12_need_27 N p9.2))))) (krq_bind (krq_st rfl (krq_f_X12_can N σ 0)) (fun p4 => (krq_ite (krq_st rfl (krq_f_X12_need_31 N p4.2)) (krq_st rfl (krq_f_X12_need_27 N p4.2)))))) (krq_st rfl (krq_f_X12_need_31 N σ)))
theorem krq_f_X12_opens_29 (N : Nat) (σ : RS) : KRq σ (f_X12_opens_29 N σ) := by
  unfold f_X12_opens_29
  exact (krq_ite (krq_some rfl) (krq_some rfl))
theorem krq_f_X12_opens (N : Nat) (σ : RS) : KRq σ (f_X12_opens N σ) := by
  unfold f_X12_opens
  exact (krq_ite (krq_st rfl (krq_f_X12_opens_29 N (RS.setI σ 19 ((σ.i 19) + 1)))) (krq_bindv (kvq_st rfl (krq_f_X12_fail N (RS.setI σ 19 ((σ.i 19) + 1)) 6 (σ.i 11))) (fun p3 => (krq_st rfl (krq_f_X12_opens_29 N p3)))))
theorem krq_f_X12_open_38 (N : Nat) (σ : RS) : KRq σ (f_X12_open_38 N σ) := by
  unfold f_X12_open_38
  exact (krq_ite (krq_some rfl) (krq_some rfl))
theorem krq_f_X12_open_27 (N : Nat) (σ : RS) : KRq σ (f_X12_open_27 N σ) := by
  unfold f_X12_open_27
  exact (krq_bind (krq_st rfl (krq_f_X12_opens N σ)) (fun p7 => (krq_ite (krq_st rfl (krq_f_X12_open_38 N p7.2)) (krq_bindv (kvq_st rfl (krq_f_X12_next N p7.2)) (fun p10 => (krq_st rfl (krq_f_X12_open_38 N p10)))))))
theorem krq_f_X12_open (N : Nat) (σ : RS) (x1 : Int32) : KRq σ (f_X12_open N σ x1) := by
  unfold f_X12_open
  exact (krq_ite (krq_ite (krq_bind (krq_st rfl (krq_f_X12_can N σ 1)) (fun p12 => (krq_ite (krq_st rfl (krq_f_X12_open_38 N p12.2)) (krq_st rfl (krq_f_X12_open_27 N p12.2))))) (krq_bind (krq_st rfl (krq_f_X12_can N σ 0)) (fun p4 => (krq_ite (krq_st rfl (krq_f_X12_open_38 N p4.2)) (krq_st rfl (krq_f_X12_open_27 N p4.2)))))) (krq_st rfl (krq_f_X12_open_38 N σ)))
theorem krq_f_X12_shut_18 (N : Nat) (σ : RS) : KRq σ (f_X12_shut_18 N σ) := by
  unfold f_X12_shut_18
  exact (krq_ite (krq_some rfl) (krq_some rfl))
theorem krq_f_X12_shut (N : Nat) (σ : RS) (x1 : Int32) : KRq σ (f_X12_shut N σ x1) := by
  unfold f_X12_shut
  exact (krq_bind (krq_st rfl (krq_f_X12_need N σ x1)) (fun p1 => (krq_ite (krq_st rfl (krq_f_X12_shut_18 N p1.2)) (krq_st rfl (krq_f_X12_shut_18 N (RS.setI p1.2 19 ((p1.2.i 19) - 1)))))))
theorem krq_f_X12_emit_21 (N : Nat) (σ : RS) (x1 : Int32) (x2 : Int32) (x3 : Int32) : KRq σ (f_X12_emit_21 N σ x1 x2 x3) := by
  unfold f_X12_emit_21
  exact (krq_ite (krq_some rfl) krq_none)
theorem krq_f_X12_emit (N : Nat) (σ : RS) (x1 : Int32) (x2 : Int32) : KRq σ (f_X12_emit N σ x1 x2) := by
  unfold f_X12_emit
  exact (krq_ite (krq_st rfl (krq_f_X12_emit_21 N σ x1 x2 2999)) (krq_st rfl (krq_f_X12_emit_21 N σ x1 x2 (σ.i 20))))
theorem krq_b_X12_seenAs_7 (N : Nat) (K : RS → Int64 → Int32 → Option (Int32 × RS)) (hK : ∀ (σ : RS) (y0 : Int64) (y1 : Int32), KRq σ (K σ y0 y1)) (σ : RS) (x1 : Int64) (x3 : Int32) : KRq σ (b_X12_seenAs_7 N K σ x1 x3) := by
  unfold b_X12_seenAs_7
  exact (krq_ite (krq_some rfl) (krq_ite (krq_ite (krq_some rfl) (krq_st rfl (hK σ x1 (x3 + (-1))))) krq_none))
theorem krq_f_X12_seenAs_7 (N : Nat) : ∀ (n : Nat) (σ : RS) (y0 : Int64) (y1 : Int32), KRq σ (f_X12_seenAs_7 N n σ y0 y1)
  | 0, _, _, _ => krq_none
  | n+1, σ, y0, y1 => krq_b_X12_seenAs_7 N (f_X12_seenAs_7 N n) (fun σ y0 y1 => krq_f_X12_seenAs_7 N n σ y0 y1) σ y0 y1
theorem krq_f_X12_seenAs (N : Nat) (σ : RS) (x1 : Int64) : KRq σ (f_X12_seenAs N σ x1) := by
  unfold f_X12_seenAs
  exact (krq_st rfl (krq_f_X12_seenAs_7 N N σ x1 ((σ.i 38) - 1)))
