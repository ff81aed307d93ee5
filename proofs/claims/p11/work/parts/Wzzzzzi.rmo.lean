/-! the reference: what its reading leaves alone -/
def pRw (s : RS) : Nat → Int64 := s.b 9
def KS9 (s r : RS) : Prop := pRw r = pRw s
theorem KS9.tr {s r u : RS} (h : KS9 s r) (g : KS9 r u) : KS9 s u := Eq.trans g h
def KR9 {α : Type} (s : RS) (t : Option (α × RS)) : Prop := ∀ R, t = some R → KS9 s R.2
def KV9 (s : RS) (t : Option RS) : Prop := ∀ R, t = some R → KS9 s R
theorem kr9_some {α : Type} {s : RS} {r : α × RS} (h : KS9 s r.2) : KR9 s (some r) := fun R q => by
  cases q
  exact h
theorem kv9_some {s r : RS} (h : KS9 s r) : KV9 s (some r) := fun R q => by
  cases q
  exact h
theorem kr9_none {α : Type} {s : RS} : KR9 s (none : Option (α × RS)) := fun R q => by cases q
theorem kv9_none {s : RS} : KV9 s (none : Option RS) := fun R q => by cases q
theorem kr9_ite {α : Type} {s : RS} {c : Prop} [Decidable c] {x y : Option (α × RS)} (hx : KR9 s x) (hy : KR9 s y) : KR9 s (if c then x else y) := by
  by_cases h : c
  · rw [if_pos h]; exact hx
  · rw [if_neg h]; exact hy
theorem kv9_ite {s : RS} {c : Prop} [Decidable c] {x y : Option RS} (hx : KV9 s x) (hy : KV9 s y) : KV9 s (if c then x else y) := by
  by_cases h : c
  · rw [if_pos h]; exact hx
  · rw [if_neg h]; exact hy
theorem kr9_st {α : Type} {s r : RS} {t : Option (α × RS)} (h : KS9 s r) (g : KR9 r t) : KR9 s t := fun R q => h.tr (g R q)
theorem kv9_st {s r : RS} {t : Option RS} (h : KS9 s r) (g : KV9 r t) : KV9 s t := fun R q => h.tr (g R q)
theorem kr9_bind {α β : Type} {s : RS} {x : Option (α × RS)} {k : α × RS → Option (β × RS)} (hx : KR9 s x) (hk : ∀ p : α × RS, KR9 p.2 (k p)) : KR9 s (x.bind k) := by
  intro R h
  obtain ⟨p, h1, h2⟩ := hf_bind h
  exact (hx p h1).tr (hk p R h2)
theorem kr9_bindv {β : Type} {s : RS} {x : Option RS} {k : RS → Option (β × RS)} (hx : KV9 s x) (hk : ∀ p : RS, KR9 p (k p)) : KR9 s (x.bind k) := by
  intro R h
  obtain ⟨p, h1, h2⟩ := hf_bind h
  exact (hx p h1).tr (hk p R h2)
theorem kv9_bind {α : Type} {s : RS} {x : Option (α × RS)} {k : α × RS → Option RS} (hx : KR9 s x) (hk : ∀ p : α × RS, KV9 p.2 (k p)) : KV9 s (x.bind k) := by
  intro R h
  obtain ⟨p, h1, h2⟩ := hf_bind h
  exact (hx p h1).tr (hk p R h2)
theorem kv9_bindv {s : RS} {x : Option RS} {k : RS → Option RS} (hx : KV9 s x) (hk : ∀ p : RS, KV9 p (k p)) : KV9 s (x.bind k) := by
  intro R h
  obtain ⟨p, h1, h2⟩ := hf_bind h
  exact (hx p h1).tr (hk p R h2)
theorem kr9_f_X12_thrown (N : Nat) (σ : RS) : KR9 σ (f_X12_thrown N σ) := by
  unfold f_X12_thrown
  exact (kr9_some rfl)
theorem kr9_f_X12_in_14 (N : Nat) (σ : RS) : KR9 σ (f_X12_in_14 N σ) := by
  unfold f_X12_in_14
  exact (kr9_some rfl)
theorem kr9_f_X12_in (N : Nat) (σ : RS) (x0 : Int32) (x1 : Int32) (x2 : Int32) : KR9 σ (f_X12_in N σ x0 x1 x2) := by
  unfold f_X12_in
  exact (kr9_ite (kr9_st rfl (kr9_f_X12_in_14 N σ)) (kr9_ite (kr9_st rfl (kr9_f_X12_in_14 N σ)) (kr9_some rfl)))
theorem kr9_f_X12_isUnder_21 (N : Nat) (σ : RS) (x2 : Int32) (x3 : Int32) : KR9 σ (f_X12_isUnder_21 N σ x2 x3) := by
  unfold f_X12_isUnder_21
  exact (kr9_ite (kr9_some rfl) (kr9_some rfl))
theorem kr9_b_X12_isUnder_2 (N : Nat) (K : RS → Int32 → Int32 → Option (Int32 × RS)) (hK : ∀ (σ : RS) (y0 : Int32) (y1 : Int32), KR9 σ (K σ y0 y1)) (σ : RS) (x2 : Int32) (x3 : Int32) : KR9 σ (b_X12_isUnder_2 N K σ x2 x3) := by
  unfold b_X12_isUnder_2
  exact (kr9_ite (kr9_st rfl (kr9_f_X12_isUnder_21 N σ x2 x3)) (kr9_ite (kr9_st rfl (kr9_f_X12_isUnder_21 N σ x2 x3)) (kr9_ite (kr9_st rfl (hK σ x2 (σ.a 4 ((x3 : Int32).toNatClampNeg)))) kr9_none)))
theorem kr9_f_X12_isUnder_2 (N : Nat) : ∀ (n : Nat) (σ : RS) (y0 : Int32) (y1 : Int32), KR9 σ (f_X12_isUnder_2 N n σ y0 y1)
  | 0, _, _, _ => kr9_none
  | n+1, σ, y0, y1 => kr9_b_X12_isUnder_2 N (f_X12_isUnder_2 N n) (fun σ y0 y1 => kr9_f_X12_isUnder_2 N n σ y0 y1) σ y0 y1
theorem kr9_f_X12_isUnder (N : Nat) (σ : RS) (x1 : Int32) (x2 : Int32) : KR9 σ (f_X12_isUnder N σ x1 x2) := by
  unfold f_X12_isUnder
  exact (kr9_st rfl (kr9_f_X12_isUnder_2 N N σ x2 x1))
theorem kr9_f_X12_under_33 (N : Nat) (σ : RS) : KR9 σ (f_X12_under_33 N σ) := by
  unfold f_X12_under_33
  exact (kr9_some rfl)
theorem kr9_f_X12_under (N : Nat) (σ : RS) (x1 : Int32) (x2 : Int32) : KR9 σ (f_X12_under N σ x1 x2) := by
  unfold f_X12_under
  exact (kr9_bind (kr9_st rfl (kr9_f_X12_in N (RS.setI σ 0 0) x1 0 ((σ.i 3) - 1))) (fun p1 => (kr9_ite (kr9_st rfl (kr9_f_X12_under_33 N p1.2)) (kr9_bind (kr9_st rfl (kr9_f_X12_in N p1.2 x2 0 ((p1.2.i 3) - 1))) (fun p4 => (kr9_ite (kr9_st rfl (kr9_f_X12_under_33 N p4.2)) (kr9_bind (kr9_st rfl (kr9_f_X12_isUnder N p4.2 x1 x2)) (fun p7 => (kr9_ite (kr9_some rfl) (kr9_some rfl))))))))))
theorem kr9_f_X12_resource_53 (N : Nat) (σ : RS) : KR9 σ (f_X12_resource_53 N σ) := by
  unfold f_X12_resource_53
  exact (kr9_some rfl)
theorem kr9_f_X12_resource_71 (N : Nat) (σ : RS) (x1 : Int32) (x3 : Int32) (x4 : Int32) : KR9 σ (f_X12_resource_71 N σ x1 x3 x4) := by
  unfold f_X12_resource_71
  exact (kr9_ite (kr9_some rfl) kr9_none)
theorem kr9_f_X12_resource (N : Nat) (σ : RS) (x1 : Int32) (x2 : Int32) (x3 : Int32) (x4 : Int32) : KR9 σ (f_X12_resource N σ x1 x2 x3 x4) := by
  unfold f_X12_resource
  exact (kr9_bind (kr9_st rfl (kr9_f_X12_in N (RS.setI σ 0 0) x1 0 7)) (fun p1 => (kr9_ite (kr9_st rfl (kr9_f_X12_resource_53 N p1.2)) (kr9_bind (kr9_st rfl (kr9_f_X12_in N p1.2 x2 0 1)) (fun p4 => (kr9_ite (kr9_st rfl (kr9_f_X12_resource_53 N p4.2)) (kr9_bind (kr9_st rfl (kr9_f_X12_in N p4.2 x3 (-1) ((p4.2.i 3) - 1))) (fun p7 => (kr9_ite (kr9_st rfl (kr9_f_X12_resource_53 N p7.2)) (kr9_bind (kr9_st rfl (kr9_f_X12_in N p7.2 x4 (-1) ((p7.2.i 3) - 1))) (fun p10 => (kr9_ite (kr9_st rfl (kr9_f_X12_resource_53 N p10.2)) (kr9_ite (kr9_ite (kr9_st rfl (kr9_f_X12_resource_71 N (RS.setA p10.2 5 ((x1 : Int32).toNatClampNeg) 1) x1 x3 x4)) kr9_none) (kr9_ite (kr9_st rfl (kr9_f_X12_resource_71 N (RS.setA p10.2 5 ((x1 : Int32).toNatClampNeg) 0) x1 x3 x4)) kr9_none))))))))))))))
theorem kr9_f_X12_at (N : Nat) (σ : RS) (x1 : Int32) : KR9 σ (f_X12_at N σ x1) := by
  unfold f_X12_at
  exact (kr9_ite (kr9_some rfl) (kr9_ite (kr9_some rfl) kr9_none))
theorem kr9_f_X12_isLetter_16 (N : Nat) (σ : RS) : KR9 σ (f_X12_isLetter_16 N σ) := by
  unfold f_X12_isLetter_16
  exact (kr9_some rfl)
theorem kr9_f_X12_isLetter (N : Nat) (σ : RS) (x0 : Int32) : KR9 σ (f_X12_isLetter N σ x0) := by
  unfold f_X12_isLetter
  exact (kr9_ite (kr9_st rfl (kr9_f_X12_isLetter_16 N σ)) (kr9_ite (kr9_st rfl (kr9_f_X12_isLetter_16 N σ)) (kr9_some rfl)))
theorem kr9_f_X12_isDigit_16 (N : Nat) (σ : RS) : KR9 σ (f_X12_isDigit_16 N σ) := by
  unfold f_X12_isDigit_16
  exact (kr9_some rfl)
theorem kr9_f_X12_isDigit (N : Nat) (σ : RS) (x0 : Int32) : KR9 σ (f_X12_isDigit N σ x0) := by
  unfold f_X12_isDigit
  exact (kr9_ite (kr9_st rfl (kr9_f_X12_isDigit_16 N σ)) (kr9_ite (kr9_st rfl (kr9_f_X12_isDigit_16 N σ)) (kr9_some rfl)))
theorem kr9_b_X12_readName_260 (N : Nat) (K : RS → Int32 → Option (RS)) (hK : ∀ (σ : RS) (y0 : Int32), KV9 σ (K σ y0)) (σ : RS) (x4 : Int32) : KV9 σ (b_X12_readName_260 N K σ x4) := by
  unfold b_X12_readName_260
  exact (kv9_ite (kv9_some rfl) (kv9_ite (kv9_ite (kv9_st rfl (hK (RS.setI σ 10 (410 + x4)) (x4 + 1))) (kv9_st rfl (hK (RS.setI σ 10 (σ.i 10)) (x4 + 1)))) kv9_none))
theorem kr9_f_X12_readName_260 (N : Nat) : ∀ (n : Nat) (σ : RS) (y0 : Int32), KV9 σ (f_X12_readName_260 N n σ y0)
  | 0, _, _ => kv9_none
  | n+1, σ, y0 => kr9_b_X12_readName_260 N (f_X12_readName_260 N n) (fun σ y0 => kr9_f_X12_readName_260 N n σ y0) σ y0
theorem kr9_f_X12_readName_257 (N : Nat) (σ : RS) : KV9 σ (f_X12_readName_257 N σ) := by
  unfold f_X12_readName_257
  exact (kv9_st rfl (kr9_f_X12_readName_260 N N σ 0))
theorem kr9_f_X12_readName_254 (N : Nat) (σ : RS) : KV9 σ (f_X12_readName_254 N σ) := by
  unfold f_X12_readName_254
  exact (kv9_some rfl)
theorem kr9_f_X12_readName_220 (N : Nat) (σ : RS) (x1 : Int32) (x3 : Int32) : KV9 σ (f_X12_readName_220 N σ x1 x3) := by
  unfold f_X12_readName_220
  exact (kv9_ite (kv9_st rfl (kr9_f_X12_readName_254 N (RS.setI (RS.setI σ 10 5) 14 x3))) (kv9_bind (kr9_st rfl (kr9_f_X12_at N (RS.setI σ 10 5) ((σ.i 11) + 2))) (fun p32 => (kv9_st rfl (kr9_f_X12_readName_254 N (RS.setI p32.2 14 ((10 + p32.1) - 48)))))))
theorem kr9_f_X12_readName_189 (N : Nat) (σ : RS) (x1 : Int32) (x3 : Int32) : KV9 σ (f_X12_readName_189 N σ x1 x3) := by
  unfold f_X12_readName_189
  exact (kv9_ite (kv9_ite (kv9_bind (kr9_st rfl (kr9_f_X12_at N σ ((σ.i 11) + 2))) (fun p26 => (kv9_bind (kr9_st rfl (kr9_f_X12_in N p26.2 (p26.1 - 48) 0 1)) (fun p28 => (kv9_ite (kv9_st rfl (kr9_f_X12_readName_257 N p28.2)) (kv9_st rfl (kr9_f_X12_readName_220 N p28.2 x1 x3))))))) (kv9_st rfl (kr9_f_X12_readName_257 N σ))) (kv9_st rfl (kr9_f_X12_readName_257 N σ)))
theorem kr9_f_X12_readName_168 (N : Nat) (σ : RS) (x1 : Int32) (x2 : Int32) (x3 : Int32) : KV9 σ (f_X12_readName_168 N σ x1 x2 x3) := by
  unfold f_X12_readName_168
  exact (kv9_ite (kv9_ite (kv9_bind (kr9_st rfl (kr9_f_X12_in N σ x3 0 9)) (fun p34 => (kv9_ite (kv9_st rfl (kr9_f_X12_readName_189 N p34.2 x1 x3)) (kv9_st rfl (kr9_f_X12_readName_220 N p34.2 x1 x3))))) (kv9_st rfl (kr9_f_X12_readName_189 N σ x1 x3))) (kv9_st rfl (kr9_f_X12_readName_257 N σ)))
theorem kr9_f_X12_readName_160 (N : Nat) (σ : RS) (x3 : Int32) : KV9 σ (f_X12_readName_160 N σ x3) := by
  unfold f_X12_readName_160
  exact (kv9_some rfl)
theorem kr9_f_X12_readName_135 (N : Nat) (σ : RS) (x1 : Int32) (x2 : Int32) (x3 : Int32) : KV9 σ (f_X12_readName_135 N σ x1 x2 x3) := by
  unfold f_X12_readName_135
  exact (kv9_bind (kr9_st rfl (kr9_f_X12_in N σ x3 0 7)) (fun p38 => (kv9_ite (kv9_st rfl (kr9_f_X12_readName_168 N p38.2 x1 x2 x3)) (kv9_ite (kv9_st rfl (kr9_f_X12_readName_160 N (RS.setI p38.2 10 3) x3)) (kv9_st rfl (kr9_f_X12_readName_160 N (RS.setI p38.2 10 4) x3))))))
theorem kr9_b_X12_readName_5 (N : Nat) (K : RS → Option (RS)) (hK : ∀ (σ : RS), KV9 σ (K σ)) (σ : RS) : KV9 σ (b_X12_readName_5 N K σ) := by
  unfold b_X12_readName_5
  exact (kv9_bind (kr9_st rfl (kr9_f_X12_at N σ (σ.i 12))) (fun p1 => (kv9_bind (kr9_st rfl (kr9_f_X12_isLetter N p1.2 p1.1)) (fun p3 => (kv9_ite (kv9_bind (kr9_st rfl (kr9_f_X12_at N p3.2 (p3.2.i 12))) (fun p8 => (kv9_bind (kr9_st rfl (kr9_f_X12_isDigit N p8.2 p8.1)) (fun p10 => (kv9_ite (kv9_ite (kv9_bind (kr9_st rfl (kr9_f_X12_at N p10.2 (p10.2.i 11))) (fun p14 => (kv9_bind (kr9_st rfl (kr9_f_X12_at N p14.2 ((p14.2.i 11) + 1))) (fun p16 => (kv9_ite (kv9_ite (kv9_st rfl (kr9_f_X12_readName_135 N (RS.setI p16.2 10 2) ((p10.2.i 12) - (p10.2.i 11)) p14.1 (p16.1 - 48))) (kv9_ite (kv9_st rfl (kr9_f_X12_readName_135 N (RS.setI p16.2 10 2) ((p10.2.i 12) - (p10.2.i 11)) p14.1 (p16.1 - 48))) (kv9_st rfl (kr9_f_X12_readName_168 N (RS.setI p16.2 10 2) ((p10.2.i 12) - (p10.2.i 11)) p14.1 (p16.1 - 48))))) (kv9_st rfl (kr9_f_X12_readName_168 N (RS.setI p16.2 10 2) ((p10.2.i 12) - (p10.2.i 11)) p14.1 (p16.1 - 48)))))))) (kv9_some rfl)) (kv9_bind (kr9_st rfl (kr9_f_X12_at N p10.2 (p10.2.i 12))) (fun p43 => (kv9_st rfl (hK (RS.setI (RS.setL p43.2 ((p10.2.l <<< ((8 : Int32).toInt64 &&& 63)) ||| (p43.1 : Int32).toInt64)) 12 ((p43.2.i 12) + 1))))))))))) (kv9_bind (kr9_st rfl (kr9_f_X12_at N p3.2 (p3.2.i 12))) (fun p6 => (kv9_st rfl (hK (RS.setI (RS.setL p6.2 ((p3.2.l <<< ((8 : Int32).toInt64 &&& 63)) ||| (p6.1 : Int32).toInt64)) 12 ((p6.2.i 12) + 1)))))))))))
theorem kr9_f_X12_readName_5 (N : Nat) : ∀ (n : Nat) (σ : RS), KV9 σ (f_X12_readName_5 N n σ )
  | 0, _ => kv9_none
  | n+1, σ => kr9_b_X12_readName_5 N (f_X12_readName_5 N n) (fun σ => kr9_f_X12_readName_5 N n σ) σ
theorem kr9_f_X12_readName (N : Nat) (σ : RS) : KV9 σ (f_X12_readName N σ) := by
  unfold f_X12_readName
  exact (kv9_st rfl (kr9_f_X12_readName_5 N N (RS.setL σ 0)))
theorem kr9_f_X12_readSign_306 (N : Nat) (σ : RS) (x1 : Int32) (x4 : Int32) : KV9 σ (f_X12_readSign_306 N σ x1 x4) := by
  unfold f_X12_readSign_306
  exact (kv9_ite (kv9_some rfl) (kv9_some rfl))
theorem kr9_f_X12_readSign_299 (N : Nat) (σ : RS) (x1 : Int32) : KV9 σ (f_X12_readSign_299 N σ x1) := by
  unfold f_X12_readSign_299
  exact (kv9_st rfl (kr9_f_X12_readSign_306 N σ x1 1))
theorem kr9_f_X12_readSign_165 (N : Nat) (σ : RS) (x1 : Int32) (x3 : Int32) : KV9 σ (f_X12_readSign_165 N σ x1 x3) := by
  unfold f_X12_readSign_165
  exact (kv9_ite (kv9_ite (kv9_st rfl (kr9_f_X12_readSign_299 N σ x1)) (kv9_ite (kv9_st rfl (kr9_f_X12_readSign_299 N σ x1)) (kv9_ite (kv9_st rfl (kr9_f_X12_readSign_299 N σ x1)) (kv9_ite (kv9_st rfl (kr9_f_X12_readSign_299 N σ x1)) (kv9_ite (kv9_st rfl (kr9_f_X12_readSign_299 N σ x1)) (kv9_ite (kv9_st rfl (kr9_f_X12_readSign_299 N σ x1)) (kv9_ite (kv9_st rfl (kr9_f_X12_readSign_299 N σ x1)) (kv9_ite (kv9_st rfl (kr9_f_X12_readSign_299 N σ x1)) (kv9_ite (kv9_st rfl (kr9_f_X12_readSign_299 N σ x1)) (kv9_ite (kv9_st rfl (kr9_f_X12_readSign_299 N σ x1)) (kv9_ite (kv9_st rfl (kr9_f_X12_readSign_299 N σ x1)) (kv9_ite (kv9_st rfl (kr9_f_X12_readSign_299 N σ x1)) (kv9_ite (kv9_st rfl (kr9_f_X12_readSign_299 N σ x1)) (kv9_ite (kv9_st rfl (kr9_f_X12_readSign_299 N σ x1)) (kv9_ite (kv9_st rfl (kr9_f_X12_readSign_299 N σ x1)) (kv9_ite (kv9_st rfl (kr9_f_X12_readSign_299 N σ x1)) (kv9_ite (kv9_st rfl (kr9_f_X12_readSign_299 N σ x1)) (kv9_ite (kv9_st rfl (kr9_f_X12_readSign_299 N σ x1)) (kv9_ite (kv9_st rfl (kr9_f_X12_readSign_299 N σ x1)) (kv9_st rfl (kr9_f_X12_readSign_306 N σ x1 0))))))))))))))))))))) (kv9_some rfl))
theorem kr9_f_X12_readSign_163 (N : Nat) (σ : RS) (x1 : Int32) : KV9 σ (f_X12_readSign_163 N σ x1) := by
  unfold f_X12_readSign_163
  exact (kv9_st rfl (kr9_f_X12_readSign_165 N σ x1 0))
theorem kr9_f_X12_readSign_145 (N : Nat) (σ : RS) (x1 : Int32) (x2 : Int32) : KV9 σ (f_X12_readSign_145 N σ x1 x2) := by
  unfold f_X12_readSign_145
  exact (kv9_ite (kv9_ite (kv9_st rfl (kr9_f_X12_readSign_165 N σ x1 307)) (kv9_st rfl (kr9_f_X12_readSign_163 N σ x1))) (kv9_st rfl (kr9_f_X12_readSign_163 N σ x1)))
theorem kr9_f_X12_readSign_127 (N : Nat) (σ : RS) (x1 : Int32) (x2 : Int32) : KV9 σ (f_X12_readSign_127 N σ x1 x2) := by
  unfold f_X12_readSign_127
  exact (kv9_ite (kv9_ite (kv9_st rfl (kr9_f_X12_readSign_165 N σ x1 306)) (kv9_st rfl (kr9_f_X12_readSign_145 N σ x1 x2))) (kv9_st rfl (kr9_f_X12_readSign_145 N σ x1 x2)))
theorem kr9_f_X12_readSign_109 (N : Nat) (σ : RS) (x1 : Int32) (x2 : Int32) : KV9 σ (f_X12_readSign_109 N σ x1 x2) := by
  unfold f_X12_readSign_109
  exact (kv9_ite (kv9_ite (kv9_st rfl (kr9_f_X12_readSign_165 N σ x1 305)) (kv9_st rfl (kr9_f_X12_readSign_127 N σ x1 x2))) (kv9_st rfl (kr9_f_X12_readSign_127 N σ x1 x2)))
theorem kr9_f_X12_readSign_91 (N : Nat) (σ : RS) (x1 : Int32) (x2 : Int32) : KV9 σ (f_X12_readSign_91 N σ x1 x2) := by
  unfold f_X12_readSign_91
  exact (kv9_ite (kv9_ite (kv9_st rfl (kr9_f_X12_readSign_165 N σ x1 304)) (kv9_st rfl (kr9_f_X12_readSign_109 N σ x1 x2))) (kv9_st rfl (kr9_f_X12_readSign_109 N σ x1 x2)))
theorem kr9_f_X12_readSign_73 (N : Nat) (σ : RS) (x1 : Int32) (x2 : Int32) : KV9 σ (f_X12_readSign_73 N σ x1 x2) := by
  unfold f_X12_readSign_73
  exact (kv9_ite (kv9_ite (kv9_st rfl (kr9_f_X12_readSign_165 N σ x1 303)) (kv9_st rfl (kr9_f_X12_readSign_91 N σ x1 x2))) (kv9_st rfl (kr9_f_X12_readSign_91 N σ x1 x2)))
theorem kr9_f_X12_readSign_55 (N : Nat) (σ : RS) (x1 : Int32) (x2 : Int32) : KV9 σ (f_X12_readSign_55 N σ x1 x2) := by
  unfold f_X12_readSign_55
  exact (kv9_ite (kv9_ite (kv9_st rfl (kr9_f_X12_readSign_165 N σ x1 302)) (kv9_st rfl (kr9_f_X12_readSign_73 N σ x1 x2))) (kv9_st rfl (kr9_f_X12_readSign_73 N σ x1 x2)))
theorem kr9_f_X12_readSign_37 (N : Nat) (σ : RS) (x1 : Int32) (x2 : Int32) : KV9 σ (f_X12_readSign_37 N σ x1 x2) := by
  unfold f_X12_readSign_37
  exact (kv9_ite (kv9_ite (kv9_st rfl (kr9_f_X12_readSign_165 N σ x1 301)) (kv9_st rfl (kr9_f_X12_readSign_55 N σ x1 x2))) (kv9_st rfl (kr9_f_X12_readSign_55 N σ x1 x2)))
theorem kr9_f_X12_readSign (N : Nat) (σ : RS) (x1 : Int32) : KV9 σ (f_X12_readSign N σ x1) := by
  unfold f_X12_readSign
  exact (kv9_bind (kr9_st rfl (kr9_f_X12_at N (RS.setI σ 12 ((σ.i 12) + 1)) ((σ.i 12) + 1))) (fun p1 => (kv9_ite (kv9_ite (kv9_st rfl (kr9_f_X12_readSign_165 N p1.2 x1 300)) (kv9_st rfl (kr9_f_X12_readSign_37 N p1.2 x1 p1.1))) (kv9_st rfl (kr9_f_X12_readSign_37 N p1.2 x1 p1.1)))))
theorem kr9_f_X12_next_211 (N : Nat) (σ : RS) : KV9 σ (f_X12_next_211 N σ) := by
  unfold f_X12_next_211
  exact (kv9_some rfl)
theorem kr9_b_X12_next_116 (N : Nat) (K : RS → Option (RS)) (hK : ∀ (σ : RS), KV9 σ (K σ)) (σ : RS) : KV9 σ (b_X12_next_116 N K σ) := by
  unfold b_X12_next_116
  exact (kv9_bind (kr9_st rfl (kr9_f_X12_at N σ (σ.i 12))) (fun p16 => (kv9_bind (kr9_st rfl (kr9_f_X12_isDigit N p16.2 p16.1)) (fun p18 => (kv9_ite (kv9_ite (kv9_st rfl (kr9_f_X12_next_211 N (RS.setI p18.2 10 1))) (kv9_st rfl (kr9_f_X12_next_211 N (RS.setI p18.2 10 6)))) (kv9_ite (kv9_st rfl (hK (RS.setI (RS.setI p18.2 14 (p18.2.i 14)) 12 ((p18.2.i 12) + 1)))) (kv9_bind (kr9_st rfl (kr9_f_X12_at N p18.2 (p18.2.i 12))) (fun p23 => (kv9_st rfl (hK (RS.setI (RS.setI p23.2 14 (((10 * (p18.2.i 14)) + p23.1) - 48)) 12 ((p23.2.i 12) + 1))))))))))))
theorem kr9_f_X12_next_116 (N : Nat) : ∀ (n : Nat) (σ : RS), KV9 σ (f_X12_next_116 N n σ )
  | 0, _ => kv9_none
  | n+1, σ => kr9_b_X12_next_116 N (f_X12_next_116 N n) (fun σ => kr9_f_X12_next_116 N n σ) σ
theorem kr9_f_X12_next_68 (N : Nat) (σ : RS) : KV9 σ (f_X12_next_68 N σ) := by
  unfold f_X12_next_68
  exact (kv9_bind (kr9_st rfl (kr9_f_X12_at N (RS.setI σ 11 (σ.i 12)) (σ.i 12))) (fun p3 => (kv9_ite (kv9_some rfl) (kv9_bind (kr9_st rfl (kr9_f_X12_isDigit N p3.2 p3.1)) (fun p6 => (kv9_ite (kv9_bind (kr9_st rfl (kr9_f_X12_isLetter N p6.2 p3.1)) (fun p9 => (kv9_ite (kv9_bindv (kv9_st rfl (kr9_f_X12_readSign N p9.2 p3.1)) (fun p12 => (kv9_some rfl))) (kv9_bindv (kv9_st rfl (kr9_f_X12_readName N p9.2)) (fun p14 => (kv9_some rfl)))))) (kv9_st rfl (kr9_f_X12_next_116 N N (RS.setI p6.2 14 0)))))))))
theorem kr9_b_X12_next_18 (N : Nat) (K : RS → Option (RS)) (hK : ∀ (σ : RS), KV9 σ (K σ)) (σ : RS) : KV9 σ (b_X12_next_18 N K σ) := by
  unfold b_X12_next_18
  exact (kv9_ite (kv9_st rfl (kr9_f_X12_next_68 N σ)) (kv9_bind (kr9_st rfl (kr9_f_X12_at N σ (σ.i 12))) (fun p25 => (kv9_ite (kv9_st rfl (hK (RS.setI p25.2 12 ((p25.2.i 12) + 1)))) (kv9_bind (kr9_st rfl (kr9_f_X12_at N p25.2 (p25.2.i 12))) (fun p28 => (kv9_ite (kv9_st rfl (hK (RS.setI p28.2 12 ((p28.2.i 12) + 1)))) (kv9_st rfl (kr9_f_X12_next_68 N p28.2)))))))))
theorem kr9_f_X12_next_18 (N : Nat) : ∀ (n : Nat) (σ : RS), KV9 σ (f_X12_next_18 N n σ )
  | 0, _ => kv9_none
  | n+1, σ => kr9_b_X12_next_18 N (f_X12_next_18 N n) (fun σ => kr9_f_X12_next_18 N n σ) σ
theorem kr9_f_X12_next (N : Nat) (σ : RS) : KV9 σ (f_X12_next N σ) := by
  unfold f_X12_next
  exact (kv9_ite (kv9_st rfl (kr9_f_X12_next_18 N N (RS.setI σ 17 ((σ.i 17) + 1)))) (kv9_some rfl))
theorem kr9_f_X12_fail (N : Nat) (σ : RS) (x1 : Int32) (x2 : Int32) : KV9 σ (f_X12_fail N σ x1 x2) := by
  unfold f_X12_fail
  exact (kv9_ite (kv9_some rfl) (kv9_some rfl))
theorem kr9_f_X12_note (N : Nat) (σ : RS) (x1 : Int32) : KV9 σ (f_X12_note N σ x1) := by
  unfold f_X12_note
  exact (kv9_ite (kv9_ite (kv9_some rfl) (kv9_some rfl)) (kv9_some rfl))
theorem kr9_f_X12_can_42 (N : Nat) (σ : RS) : KR9 σ (f_X12_can_42 N σ) := by
  unfold f_X12_can_42
  exact (kr9_ite (kr9_some rfl) (kr9_some rfl))
theorem kr9_f_X12_can_20 (N : Nat) (σ : RS) : KR9 σ (f_X12_can_20 N σ) := by
  unfold f_X12_can_20
  exact (kr9_ite (kr9_bindv (kv9_st rfl (kr9_f_X12_fail N σ 1 (σ.i 11))) (fun p7 => (kr9_st rfl (kr9_f_X12_can_42 N p7)))) (kr9_bindv (kv9_st rfl (kr9_f_X12_fail N σ 2 (σ.i 11))) (fun p5 => (kr9_st rfl (kr9_f_X12_can_42 N p5)))))
theorem kr9_f_X12_can (N : Nat) (σ : RS) (x1 : Int32) : KR9 σ (f_X12_can N σ x1) := by
  unfold f_X12_can
  exact (kr9_ite (kr9_ite (kr9_st rfl (kr9_f_X12_can_20 N σ)) (kr9_ite (kr9_st rfl (kr9_f_X12_can_20 N σ)) (kr9_st rfl (kr9_f_X12_can_42 N σ)))) (kr9_st rfl (kr9_f_X12_can_42 N σ)))
theorem kr9_f_X12_need_31 (N : Nat) (σ : RS) : KR9 σ (f_X12_need_31 N σ) := by
  unfold f_X12_need_31
  exact (kr9_ite (kr9_some rfl) (kr9_some rfl))
theorem kr9_f_X12_need_27 (N : Nat) (σ : RS) : KR9 σ (f_X12_need_27 N σ) := by
  unfold f_X12_need_27
  exact (kr9_bindv (kv9_st rfl (kr9_f_X12_next N σ)) (fun p7 => (kr9_st rfl (kr9_f_X12_need_31 N p7))))
theorem kr9_f_X12_need (N : Nat) (σ : RS) (x1 : Int32) : KR9 σ (f_X12_need N σ x1) := by
  unfold f_X12_need
  exact (kr9_ite (kr9_ite (kr9_bind (kr9_st rfl (kr9_f_X12_can N σ 1)) (fun p9 => (kr9_ite (kr9_st rfl (kr9_f_X12_need_31 N p9.2)) (kr9_st rfl (kr9_f_X12_need_27 N p9.2))))) (kr9_bind (kr9_st rfl (kr9_f_X12_can N σ 0)) (fun p4 => (kr9_ite (kr9_st rfl (kr9_f_X12_need_31 N p4.2)) (kr9_st rfl (kr9_f_X12_need_27 N p4.2)))))) (kr9_st rfl (kr9_f_X12_need_31 N σ)))
theorem kr9_f_X12_opens_29 (N : Nat) (σ : RS) : KR9 σ (f_X12_opens_29 N σ) := by
  unfold f_X12_opens_29
  exact (kr9_ite (kr9_some rfl) (kr9_some rfl))
theorem kr9_f_X12_opens (N : Nat) (σ : RS) : KR9 σ (f_X12_opens N σ) := by
  unfold f_X12_opens
  exact (kr9_ite (kr9_st rfl (kr9_f_X12_opens_29 N (RS.setI σ 19 ((σ.i 19) + 1)))) (kr9_bindv (kv9_st rfl (kr9_f_X12_fail N (RS.setI σ 19 ((σ.i 19) + 1)) 6 (σ.i 11))) (fun p3 => (kr9_st rfl (kr9_f_X12_opens_29 N p3)))))
theorem kr9_f_X12_open_38 (N : Nat) (σ : RS) : KR9 σ (f_X12_open_38 N σ) := by
  unfold f_X12_open_38
  exact (kr9_ite (kr9_some rfl) (kr9_some rfl))
theorem kr9_f_X12_open_27 (N : Nat) (σ : RS) : KR9 σ (f_X12_open_27 N σ) := by
  unfold f_X12_open_27
  exact (kr9_bind (kr9_st rfl (kr9_f_X12_opens N σ)) (fun p7 => (kr9_ite (kr9_st rfl (kr9_f_X12_open_38 N p7.2)) (kr9_bindv (kv9_st rfl (kr9_f_X12_next N p7.2)) (fun p10 => (kr9_st rfl (kr9_f_X12_open_38 N p10)))))))
theorem kr9_f_X12_open (N : Nat) (σ : RS) (x1 : Int32) : KR9 σ (f_X12_open N σ x1) := by
  unfold f_X12_open
  exact (kr9_ite (kr9_ite (kr9_bind (kr9_st rfl (kr9_f_X12_can N σ 1)) (fun p12 => (kr9_ite (kr9_st rfl (kr9_f_X12_open_38 N p12.2)) (kr9_st rfl (kr9_f_X12_open_27 N p12.2))))) (kr9_bind (kr9_st rfl (kr9_f_X12_can N σ 0)) (fun p4 => (kr9_ite (kr9_st rfl (kr9_f_X12_open_38 N p4.2)) (kr9_st rfl (kr9_f_X12_open_27 N p4.2)))))) (kr9_st rfl (kr9_f_X12_open_38 N σ)))
theorem kr9_f_X12_shut_18 (N : Nat) (σ : RS) : KR9 σ (f_X12_shut_18 N σ) := by
  unfold f_X12_shut_18
  exact (kr9_ite (kr9_some rfl) (kr9_some rfl))
theorem kr9_f_X12_shut (N : Nat) (σ : RS) (x1 : Int32) : KR9 σ (f_X12_shut N σ x1) := by
  unfold f_X12_shut
  exact (kr9_bind (kr9_st rfl (kr9_f_X12_need N σ x1)) (fun p1 => (kr9_ite (kr9_st rfl (kr9_f_X12_shut_18 N p1.2)) (kr9_st rfl (kr9_f_X12_shut_18 N (RS.setI p1.2 19 ((p1.2.i 19) - 1)))))))
theorem kr9_f_X12_emit_21 (N : Nat) (σ : RS) (x1 : Int32) (x2 : Int32) (x3 : Int32) : KR9 σ (f_X12_emit_21 N σ x1 x2 x3) := by
  unfold f_X12_emit_21
  exact (kr9_ite (kr9_some rfl) kr9_none)
theorem kr9_f_X12_emit (N : Nat) (σ : RS) (x1 : Int32) (x2 : Int32) : KR9 σ (f_X12_emit N σ x1 x2) := by
  unfold f_X12_emit
  exact (kr9_ite (kr9_st rfl (kr9_f_X12_emit_21 N σ x1 x2 2999)) (kr9_st rfl (kr9_f_X12_emit_21 N σ x1 x2 (σ.i 20))))
theorem kr9_b_X12_seenAs_7 (N : Nat) (K : RS → Int64 → Int32 → Option (Int32 × RS)) (hK : ∀ (σ : RS) (y0 : Int64) (y1 : Int32), KR9 σ (K σ y0 y1)) (σ : RS) (x1 : Int64) (x3 : Int32) : KR9 σ (b_X12_seenAs_7 N K σ x1 x3) := by
  unfold b_X12_seenAs_7
  exact (kr9_ite (kr9_some rfl) (kr9_ite (kr9_ite (kr9_some rfl) (kr9_st rfl (hK σ x1 (x3 + (-1))))) kr9_none))
theorem kr9_f_X12_seenAs_7 (N : Nat) : ∀ (n : Nat) (σ : RS) (y0 : Int64) (y1 : Int32), KR9 σ (f_X12_seenAs_7 N n σ y0 y1)
  | 0, _, _, _ => kr9_none
  | n+1, σ, y0, y1 => kr9_b_X12_seenAs_7 N (f_X12_seenAs_7 N n) (fun σ y0 y1 => kr9_f_X12_seenAs_7 N n σ y0 y1) σ y0 y1
theorem kr9_f_X12_seenAs (N : Nat) (σ : RS) (x1 : Int64) : KR9 σ (f_X12_seenAs N σ x1) := by
  unfold f_X12_seenAs
  exact (kr9_st rfl (kr9_f_X12_seenAs_7 N N σ x1 ((σ.i 38) - 1)))
theorem kr9_f_X12_see (N : Nat) (σ : RS) (x1 : Int64) (x3 : Int32) : KR9 σ (f_X12_see N σ x1 x3) := by
  unfold f_X12_see
  exact (kr9_ite (kr9_some rfl) kr9_none)
theorem kr9_f_X12_goal (N : Nat) (σ : RS) (x1 : Int32) (x2 : Int64) : KR9 σ (f_X12_goal N σ x1 x2) := by
  unfold f_X12_goal
  exact (kr9_ite (kr9_some rfl) kr9_none)
theorem kr9_f_X12_loopGoal_49 (N : Nat) (σ : RS) (x1 : Int32) : KR9 σ (f_X12_loopGoal_49 N σ x1) := by
  unfold f_X12_loopGoal_49
  exact (kr9_some rfl)
theorem kr9_b_X12_loopGoal_11 (N : Nat) (K : RS → Int32 → Int32 → Option (Int32 × RS)) (hK : ∀ (σ : RS) (y0 : Int32) (y1 : Int32), KR9 σ (K σ y0 y1)) (σ : RS) (x1 : Int32) (x2 : Int32) : KR9 σ (b_X12_loopGoal_11 N K σ x1 x2) := by
  unfold b_X12_loopGoal_11
  exact (kr9_ite (kr9_st rfl (kr9_f_X12_loopGoal_49 N σ x1)) (kr9_ite (kr9_ite (kr9_ite (kr9_st rfl (hK (RS.setA σ 46 ((x2 : Int32).toNatClampNeg) x1) x1 (x2 + (-1)))) (kr9_st rfl (kr9_f_X12_loopGoal_49 N σ x1))) (kr9_st rfl (kr9_f_X12_loopGoal_49 N σ x1))) kr9_none))
theorem kr9_f_X12_loopGoal_11 (N : Nat) : ∀ (n : Nat) (σ : RS) (y0 : Int32) (y1 : Int32), KR9 σ (f_X12_loopGoal_11 N n σ y0 y1)
  | 0, _, _, _ => kr9_none
  | n+1, σ, y0, y1 => kr9_b_X12_loopGoal_11 N (f_X12_loopGoal_11 N n) (fun σ y0 y1 => kr9_f_X12_loopGoal_11 N n σ y0 y1) σ y0 y1
theorem kr9_f_X12_loopGoal (N : Nat) (σ : RS) : KR9 σ (f_X12_loopGoal N σ) := by
  unfold f_X12_loopGoal
  exact (kr9_bind (kr9_st rfl (kr9_f_X12_goal N σ 0 0)) (fun p1 => (kr9_st rfl (kr9_f_X12_loopGoal_11 N N p1.2 p1.1 (p1.1 - 1)))))
theorem kr9_b_X12_patch_2 (N : Nat) (K : RS → Int32 → Int32 → Option (RS)) (hK : ∀ (σ : RS) (y0 : Int32) (y1 : Int32), KV9 σ (K σ y0 y1)) (σ : RS) (x2 : Int32) (x3 : Int32) : KV9 σ (b_X12_patch_2 N K σ x2 x3) := by
  unfold b_X12_patch_2
  exact (kv9_ite (kv9_some rfl) (kv9_ite (kv9_st rfl (hK (RS.setA σ 22 ((x3 : Int32).toNatClampNeg) x2) x2 (σ.a 22 ((x3 : Int32).toNatClampNeg)))) kv9_none))
theorem kr9_f_X12_patch_2 (N : Nat) : ∀ (n : Nat) (σ : RS) (y0 : Int32) (y1 : Int32), KV9 σ (f_X12_patch_2 N n σ y0 y1)
  | 0, _, _, _ => kv9_none
  | n+1, σ, y0, y1 => kr9_b_X12_patch_2 N (f_X12_patch_2 N n) (fun σ y0 y1 => kr9_f_X12_patch_2 N n σ y0 y1) σ y0 y1
theorem kr9_f_X12_patch (N : Nat) (σ : RS) (x1 : Int32) (x2 : Int32) : KV9 σ (f_X12_patch N σ x1 x2) := by
  unfold f_X12_patch
  exact (kv9_st rfl (kr9_f_X12_patch_2 N N σ x2 x1))
theorem kr9_f_X12_goes (N : Nat) (σ : RS) (x1 : Int32) (x2 : Int32) : KV9 σ (f_X12_goes N σ x1 x2) := by
  unfold f_X12_goes
  exact (kv9_ite (kv9_ite (kv9_some rfl) kv9_none) (kv9_ite (kv9_some rfl) kv9_none))
theorem kr9_f_X12_pend_22 (N : Nat) (σ : RS) (x1 : Int32) (x2 : Int32) : KV9 σ (f_X12_pend_22 N σ x1 x2) := by
  unfold f_X12_pend_22
  exact (kv9_bindv (kv9_st rfl (kr9_f_X12_goes N σ x1 x2)) (fun p2 => (kv9_some rfl)))
theorem kr9_f_X12_pend (N : Nat) (σ : RS) (x1 : Int32) (x2 : Int32) : KV9 σ (f_X12_pend N σ x1 x2) := by
  unfold f_X12_pend
  exact (kv9_ite (kv9_st rfl (kr9_f_X12_pend_22 N σ x1 x2)) (kv9_ite (kv9_ite (kv9_ite (kv9_some rfl) kv9_none) (kv9_st rfl (kr9_f_X12_pend_22 N σ x1 x2))) kv9_none))
theorem kr9_b_X12_resolve_2 (N : Nat) (K : RS → Int32 → Int32 → Int32 → Option (RS)) (hK : ∀ (σ : RS) (y0 : Int32) (y1 : Int32) (y2 : Int32), KV9 σ (K σ y0 y1 y2)) (σ : RS) (x1 : Int32) (x2 : Int32) (x3 : Int32) : KV9 σ (b_X12_resolve_2 N K σ x1 x2 x3) := by
  unfold b_X12_resolve_2
  exact (kv9_ite (kv9_some rfl) (kv9_ite (kv9_ite (kv9_ite (kv9_st rfl (hK (RS.setA σ 62 ((x3 : Int32).toNatClampNeg) (-1)) x1 x2 (x3 + 1))) (kv9_ite (kv9_bindv (kv9_st rfl (kr9_f_X12_goes N (RS.setA σ 62 ((x3 : Int32).toNatClampNeg) (-1)) (σ.a 60 ((x3 : Int32).toNatClampNeg)) (σ.a 61 ((x3 : Int32).toNatClampNeg)))) (fun p8 => (kv9_st rfl (hK p8 x1 x2 (x3 + 1))))) (kv9_ite (kv9_ite (kv9_bindv (kv9_st rfl (kr9_f_X12_goes N (RS.setA σ 62 ((x3 : Int32).toNatClampNeg) (-1)) (σ.a 60 ((x3 : Int32).toNatClampNeg)) (σ.a 61 ((x3 : Int32).toNatClampNeg)))) (fun p13 => (kv9_st rfl (hK p13 x1 x2 (x3 + 1))))) (kv9_st rfl (hK (RS.setA σ 62 ((x3 : Int32).toNatClampNeg) (σ.a 57 ((((σ.i 56) - 1) : Int32).toNatClampNeg))) x1 x2 (x3 + 1)))) kv9_none))) (kv9_st rfl (hK σ x1 x2 (x3 + 1)))) kv9_none))
theorem kr9_f_X12_resolve_2 (N : Nat) : ∀ (n : Nat) (σ : RS) (y0 : Int32) (y1 : Int32) (y2 : Int32), KV9 σ (f_X12_resolve_2 N n σ y0 y1 y2)
  | 0, _, _, _, _ => kv9_none
  | n+1, σ, y0, y1, y2 => kr9_b_X12_resolve_2 N (f_X12_resolve_2 N n) (fun σ y0 y1 y2 => kr9_f_X12_resolve_2 N n σ y0 y1 y2) σ y0 y1 y2
theorem kr9_f_X12_resolve (N : Nat) (σ : RS) (x1 : Int32) (x2 : Int32) : KV9 σ (f_X12_resolve N σ x1 x2) := by
  unfold f_X12_resolve
  exact (kv9_st rfl (kr9_f_X12_resolve_2 N N σ x1 x2 0))
theorem kr9_f_X12_push (N : Nat) (σ : RS) (x1 : Int32) : KV9 σ (f_X12_push N σ x1) := by
  unfold f_X12_push
  exact (kv9_ite (kv9_some rfl) kv9_none)
theorem kr9_f_X12_then (N : Nat) (σ : RS) (x1 : Int32) (x2 : Int32) : KV9 σ (f_X12_then N σ x1 x2) := by
  unfold f_X12_then
  exact (kv9_ite (kv9_bindv (kv9_st rfl (kr9_f_X12_push N (RS.setA σ 65 (((σ.i 63) : Int32).toNatClampNeg) x1) x2)) (fun p2 => (kv9_some rfl))) kv9_none)
theorem kr9_f_X12_body_32 (N : Nat) (σ : RS) (x1 : Int32) : KV9 σ (f_X12_body_32 N σ x1) := by
  unfold f_X12_body_32
  exact (kv9_bindv (kv9_st rfl (kr9_f_X12_then N σ x1 2)) (fun p5 => (kv9_some rfl)))
theorem kr9_f_X12_body (N : Nat) (σ : RS) (x1 : Int32) : KV9 σ (f_X12_body N σ x1) := by
  unfold f_X12_body
  exact (kv9_ite (kv9_bind (kr9_st rfl (kr9_f_X12_can N σ 0)) (fun p2 => (kv9_ite (kv9_some rfl) (kv9_st rfl (kr9_f_X12_body_32 N p2.2 x1))))) (kv9_ite (kv9_bind (kr9_st rfl (kr9_f_X12_can N σ 0)) (fun p8 => (kv9_ite (kv9_some rfl) (kv9_st rfl (kr9_f_X12_body_32 N p8.2 x1))))) (kv9_bind (kr9_st rfl (kr9_f_X12_can N σ 1)) (fun p11 => (kv9_ite (kv9_some rfl) (kv9_st rfl (kr9_f_X12_body_32 N p11.2 x1)))))))
theorem kr9_f_X12_over (N : Nat) (σ : RS) (x1 : Int32) : KV9 σ (f_X12_over N σ x1) := by
  unfold f_X12_over
  exact (kv9_ite (kv9_some rfl) kv9_none)
theorem kr9_f_X12_list_73 (N : Nat) (σ : RS) (x1 : Int32) : KV9 σ (f_X12_list_73 N σ x1) := by
  unfold f_X12_list_73
  exact (kv9_ite (kv9_ite (kv9_bindv (kv9_st rfl (kr9_f_X12_over N σ 1)) (fun p9 => (kv9_some rfl))) (kv9_bindv (kv9_st rfl (kr9_f_X12_over N σ 0)) (fun p7 => (kv9_some rfl)))) kv9_none)
theorem kr9_f_X12_list_110 (N : Nat) (σ : RS) : KV9 σ (f_X12_list_110 N σ) := by
  unfold f_X12_list_110
  exact (kv9_bindv (kv9_st rfl (kr9_f_X12_then N σ 1 2)) (fun p16 => (kv9_some rfl)))
theorem kr9_f_X12_list_37 (N : Nat) (σ : RS) (x1 : Int32) : KV9 σ (f_X12_list_37 N σ x1) := by
  unfold f_X12_list_37
  exact (kv9_ite (kv9_st rfl (kr9_f_X12_list_73 N σ x1)) (kv9_ite (kv9_st rfl (kr9_f_X12_list_73 N σ x1)) (kv9_ite (kv9_st rfl (kr9_f_X12_list_73 N σ x1)) (kv9_ite (kv9_st rfl (kr9_f_X12_list_73 N σ x1)) (kv9_ite (kv9_ite (kv9_bindv (kv9_st rfl (kr9_f_X12_note N σ (σ.i 11))) (fun p18 => (kv9_st rfl (kr9_f_X12_list_110 N p18)))) (kv9_st rfl (kr9_f_X12_list_110 N σ))) kv9_none)))))
theorem kr9_f_X12_list (N : Nat) (σ : RS) (x1 : Int32) : KV9 σ (f_X12_list N σ x1) := by
  unfold f_X12_list
  exact (kv9_ite (kv9_ite (kv9_st rfl (kr9_f_X12_list_37 N (RS.setA σ 66 ((x1 : Int32).toNatClampNeg) 1) x1)) (kv9_ite (kv9_st rfl (kr9_f_X12_list_37 N (RS.setA σ 66 ((x1 : Int32).toNatClampNeg) 0) x1)) (kv9_st rfl (kr9_f_X12_list_37 N (RS.setA σ 66 ((x1 : Int32).toNatClampNeg) 1) x1)))) kv9_none)
theorem kr9_f_X12_jump_317 (N : Nat) (σ : RS) : KV9 σ (f_X12_jump_317 N σ) := by
  unfold f_X12_jump_317
  exact (kv9_bind (kr9_st rfl (kr9_f_X12_need N σ 59)) (fun p18 => (kv9_some rfl)))
theorem kr9_f_X12_jump_302 (N : Nat) (σ : RS) (x1 : Int32) (x3 : Int32) (x4 : Int32) : KV9 σ (f_X12_jump_302 N σ x1 x3 x4) := by
  unfold f_X12_jump_302
  exact (kv9_bindv (kv9_st rfl (kr9_f_X12_pend N σ x4 x1)) (fun p15 => (kv9_ite (kv9_st rfl (kr9_f_X12_jump_317 N p15)) (kv9_bindv (kv9_st rfl (kr9_f_X12_next N p15)) (fun p20 => (kv9_st rfl (kr9_f_X12_jump_317 N p20)))))))
theorem kr9_f_X12_jump_263 (N : Nat) (σ : RS) (x1 : Int32) (x3 : Int32) (x4 : Int32) (x5 : Int32) : KV9 σ (f_X12_jump_263 N σ x1 x3 x4 x5) := by
  unfold f_X12_jump_263
  exact (kv9_ite (kv9_ite (kv9_ite (kv9_st rfl (kr9_f_X12_jump_302 N (RS.setA (RS.setA σ 23 ((x5 : Int32).toNatClampNeg) (σ.a 47 ((x4 : Int32).toNatClampNeg))) 49 ((x4 : Int32).toNatClampNeg) x5) x1 x3 x4)) (kv9_st rfl (kr9_f_X12_jump_302 N (RS.setA (RS.setA σ 23 ((x5 : Int32).toNatClampNeg) (σ.a 47 ((x4 : Int32).toNatClampNeg))) 48 ((x4 : Int32).toNatClampNeg) x5) x1 x3 x4))) kv9_none) kv9_none)
theorem kr9_f_X12_jump_234 (N : Nat) (σ : RS) (x1 : Int32) (x3 : Int32) (x4 : Int32) : KV9 σ (f_X12_jump_234 N σ x1 x3 x4) := by
  unfold f_X12_jump_234
  exact (kv9_ite (kv9_ite (kv9_bind (kr9_st rfl (kr9_f_X12_emit N σ 36 (σ.a 49 ((x4 : Int32).toNatClampNeg)))) (fun p10 => (kv9_st rfl (kr9_f_X12_jump_263 N p10.2 x1 x3 x4 p10.1)))) kv9_none) (kv9_ite (kv9_bind (kr9_st rfl (kr9_f_X12_emit N σ 36 (σ.a 48 ((x4 : Int32).toNatClampNeg)))) (fun p23 => (kv9_st rfl (kr9_f_X12_jump_263 N p23.2 x1 x3 x4 p23.1)))) kv9_none))
theorem kr9_f_X12_jump_171 (N : Nat) (σ : RS) (x1 : Int32) (x2 : Int32) (x3 : Int32) (x4 : Int32) : KV9 σ (f_X12_jump_171 N σ x1 x2 x3 x4) := by
  unfold f_X12_jump_171
  exact (kv9_ite (kv9_ite (kv9_st rfl (kr9_f_X12_jump_234 N σ x1 x3 x4)) (kv9_ite (kv9_ite (kv9_ite (kv9_st rfl (kr9_f_X12_jump_234 N σ x1 x3 (σ.a 46 ((x4 : Int32).toNatClampNeg)))) (kv9_bindv (kv9_st rfl (kr9_f_X12_fail N σ 5 (σ.i 11))) (fun p28 => (kv9_some rfl)))) kv9_none) (kv9_st rfl (kr9_f_X12_jump_234 N σ x1 x3 x4)))) (kv9_ite (kv9_bindv (kv9_st rfl (kr9_f_X12_fail N σ 5 x2)) (fun p32 => (kv9_some rfl))) (kv9_bindv (kv9_st rfl (kr9_f_X12_fail N σ 3 (σ.i 11))) (fun p35 => (kv9_some rfl)))))
theorem kr9_b_X12_jump_60 (N : Nat) (K : RS → Int32 → Int32 → Int32 → Int32 → Int32 → Option (RS)) (hK : ∀ (σ : RS) (y0 : Int32) (y1 : Int32) (y2 : Int32) (y3 : Int32) (y4 : Int32), KV9 σ (K σ y0 y1 y2 y3 y4)) (σ : RS) (x1 : Int32) (x2 : Int32) (x3 : Int32) (x4 : Int32) (x5 : Int32) : KV9 σ (b_X12_jump_60 N K σ x1 x2 x3 x4 x5) := by
  unfold b_X12_jump_60
  exact (kv9_ite (kv9_st rfl (kr9_f_X12_jump_171 N σ x1 x2 x3 x4)) (kv9_ite (kv9_ite (kv9_st rfl (kr9_f_X12_jump_171 N σ x1 x2 x3 x4)) (kv9_ite (kv9_st rfl (kr9_f_X12_jump_171 N σ x1 x2 x3 x4)) (kv9_ite (kv9_ite (kv9_st rfl (hK σ x1 x2 x3 x5 (x5 + (-1)))) (kv9_ite (kv9_st rfl (hK σ x1 x2 x3 x4 (x5 + (-1)))) (kv9_ite (kv9_st rfl (hK σ x1 x2 x3 x5 (x5 + (-1)))) (kv9_st rfl (hK σ x1 x2 x3 x4 (x5 + (-1))))))) (kv9_ite (kv9_ite (kv9_st rfl (hK σ x1 x2 x3 x5 (x5 + (-1)))) (kv9_st rfl (hK σ x1 x2 x3 x4 (x5 + (-1))))) (kv9_st rfl (hK σ x1 x2 x3 x4 (x5 + (-1)))))))) kv9_none))
theorem kr9_f_X12_jump_60 (N : Nat) : ∀ (n : Nat) (σ : RS) (y0 : Int32) (y1 : Int32) (y2 : Int32) (y3 : Int32) (y4 : Int32), KV9 σ (f_X12_jump_60 N n σ y0 y1 y2 y3 y4)
  | 0, _, _, _, _, _, _ => kv9_none
  | n+1, σ, y0, y1, y2, y3, y4 => kr9_b_X12_jump_60 N (f_X12_jump_60 N n) (fun σ y0 y1 y2 y3 y4 => kr9_f_X12_jump_60 N n σ y0 y1 y2 y3 y4) σ y0 y1 y2 y3 y4
theorem kr9_f_X12_jump_49 (N : Nat) (σ : RS) (x1 : Int32) (x2 : Int32) (x3 : Int32) : KV9 σ (f_X12_jump_49 N σ x1 x2 x3) := by
  unfold f_X12_jump_49
  exact (kv9_st rfl (kr9_f_X12_jump_60 N N σ x1 x2 x3 (-1) ((σ.i 43) - 1)))
theorem kr9_f_X12_jump_16 (N : Nat) (σ : RS) (x1 : Int32) : KV9 σ (f_X12_jump_16 N σ x1) := by
  unfold f_X12_jump_16
  exact (kv9_bindv (kv9_st rfl (kr9_f_X12_next N (RS.setI σ 55 ((σ.i 55) + 1)))) (fun p2 => (kv9_ite (kv9_st rfl (kr9_f_X12_jump_49 N p2 x1 (σ.i 11) 1)) (kv9_st rfl (kr9_f_X12_jump_49 N p2 x1 (σ.i 11) 0)))))
theorem kr9_f_X12_jump (N : Nat) (σ : RS) : KV9 σ (f_X12_jump N σ) := by
  unfold f_X12_jump
  exact (kv9_ite (kv9_st rfl (kr9_f_X12_jump_16 N σ 1)) (kv9_st rfl (kr9_f_X12_jump_16 N σ 0)))
theorem kr9_f_X12_stat_309 (N : Nat) (σ : RS) : KV9 σ (f_X12_stat_309 N σ) := by
  unfold f_X12_stat_309
  exact (kv9_bind (kr9_st rfl (kr9_f_X12_emit N σ 1 0)) (fun p10 => (kv9_ite (kv9_bindv (kv9_st rfl (kr9_f_X12_next N p10.2)) (fun p17 => (kv9_bindv (kv9_st rfl (kr9_f_X12_over N p17 1)) (fun p19 => (kv9_some rfl))))) (kv9_bindv (kv9_st rfl (kr9_f_X12_jump N p10.2)) (fun p13 => (kv9_bindv (kv9_st rfl (kr9_f_X12_over N p13 0)) (fun p15 => (kv9_some rfl))))))))
theorem kr9_f_X12_stat_240 (N : Nat) (σ : RS) (x1 : Int32) : KV9 σ (f_X12_stat_240 N σ x1) := by
  unfold f_X12_stat_240
  exact (kv9_ite (kv9_ite (kv9_ite (kv9_bind (kr9_st rfl (kr9_f_X12_can N σ 1)) (fun p7 => (kv9_ite (kv9_some rfl) (kv9_st rfl (kr9_f_X12_stat_309 N p7.2))))) (kv9_ite (kv9_bind (kr9_st rfl (kr9_f_X12_can N σ 1)) (fun p22 => (kv9_ite (kv9_some rfl) (kv9_st rfl (kr9_f_X12_stat_309 N p22.2))))) (kv9_ite (kv9_bind (kr9_st rfl (kr9_f_X12_can N σ 1)) (fun p29 => (kv9_ite (kv9_some rfl) (kv9_st rfl (kr9_f_X12_stat_309 N p29.2))))) (kv9_bind (kr9_st rfl (kr9_f_X12_can N σ 0)) (fun p26 => (kv9_ite (kv9_some rfl) (kv9_st rfl (kr9_f_X12_stat_309 N p26.2)))))))) (kv9_ite (kv9_some rfl) (kv9_bind (kr9_st rfl (kr9_f_X12_emit N σ 1 0)) (fun p33 => (kv9_some rfl))))) kv9_none)
theorem kr9_f_X12_stat (N : Nat) (σ : RS) (x1 : Int32) : KV9 σ (f_X12_stat N σ x1) := by
  unfold f_X12_stat
  exact (kv9_ite (kv9_ite (kv9_some rfl) kv9_none) (kv9_ite (kv9_ite (kv9_st rfl (kr9_f_X12_stat_240 N (RS.setA (RS.setI σ 53 ((σ.i 53) + 1)) 64 ((x1 : Int32).toNatClampNeg) 4) x1)) kv9_none) (kv9_ite (kv9_ite (kv9_st rfl (kr9_f_X12_stat_240 N (RS.setA (RS.setI σ 53 ((σ.i 53) + 1)) 64 ((x1 : Int32).toNatClampNeg) 4) x1)) kv9_none) (kv9_ite (kv9_ite (kv9_st rfl (kr9_f_X12_stat_240 N (RS.setA (RS.setI σ 53 ((σ.i 53) + 1)) 64 ((x1 : Int32).toNatClampNeg) 5) x1)) kv9_none) (kv9_ite (kv9_ite (kv9_st rfl (kr9_f_X12_stat_240 N (RS.setA (RS.setI σ 53 ((σ.i 53) + 1)) 64 ((x1 : Int32).toNatClampNeg) 6) x1)) kv9_none) (kv9_ite (kv9_ite (kv9_st rfl (kr9_f_X12_stat_240 N (RS.setA (RS.setI σ 53 ((σ.i 53) + 1)) 64 ((x1 : Int32).toNatClampNeg) 6) x1)) kv9_none) (kv9_ite (kv9_ite (kv9_st rfl (kr9_f_X12_stat_240 N (RS.setA (RS.setI σ 53 ((σ.i 53) + 1)) 64 ((x1 : Int32).toNatClampNeg) 6) x1)) kv9_none) (kv9_ite (kv9_ite (kv9_st rfl (kr9_f_X12_stat_240 N (RS.setA (RS.setI σ 53 ((σ.i 53) + 1)) 64 ((x1 : Int32).toNatClampNeg) 7) x1)) kv9_none) (kv9_ite (kv9_ite (kv9_st rfl (kr9_f_X12_stat_240 N (RS.setA (RS.setI σ 53 ((σ.i 53) + 1)) 64 ((x1 : Int32).toNatClampNeg) 8) x1)) kv9_none) (kv9_ite (kv9_ite (kv9_st rfl (kr9_f_X12_stat_240 N (RS.setA (RS.setI σ 53 ((σ.i 53) + 1)) 64 ((x1 : Int32).toNatClampNeg) 9) x1)) kv9_none) (kv9_ite (kv9_ite (kv9_st rfl (kr9_f_X12_stat_240 N (RS.setA (RS.setI σ 53 ((σ.i 53) + 1)) 64 ((x1 : Int32).toNatClampNeg) 10) x1)) kv9_none) (kv9_ite (kv9_ite (kv9_st rfl (kr9_f_X12_stat_240 N (RS.setA (RS.setI σ 53 ((σ.i 53) + 1)) 64 ((x1 : Int32).toNatClampNeg) 11) x1)) kv9_none) (kv9_ite (kv9_ite (kv9_st rfl (kr9_f_X12_stat_240 N (RS.setA (RS.setI σ 53 ((σ.i 53) + 1)) 64 ((x1 : Int32).toNatClampNeg) 12) x1)) kv9_none) (kv9_ite (kv9_ite (kv9_st rfl (kr9_f_X12_stat_240 N (RS.setA (RS.setI σ 53 ((σ.i 53) + 1)) 64 ((x1 : Int32).toNatClampNeg) 13) x1)) kv9_none) (kv9_ite (kv9_ite (kv9_st rfl (kr9_f_X12_stat_240 N (RS.setA (RS.setI σ 53 ((σ.i 53) + 1)) 64 ((x1 : Int32).toNatClampNeg) 14) x1)) kv9_none) (kv9_ite (kv9_ite (kv9_st rfl (kr9_f_X12_stat_240 N (RS.setA (RS.setI σ 53 ((σ.i 53) + 1)) 64 ((x1 : Int32).toNatClampNeg) 15) x1)) kv9_none) (kv9_ite (kv9_st rfl (kr9_f_X12_stat_240 N (RS.setA (RS.setI σ 53 ((σ.i 53) + 1)) 64 ((x1 : Int32).toNatClampNeg) 2) x1)) kv9_none)))))))))))))))))
theorem kr9_f_X12_block (N : Nat) (σ : RS) (x1 : Int32) : KV9 σ (f_X12_block N σ x1) := by
  unfold f_X12_block
  exact (kv9_ite (kv9_ite (kv9_bind (kr9_st rfl (kr9_f_X12_open N σ 123)) (fun p5 => (kv9_bindv (kv9_st rfl (kr9_f_X12_then N (RS.setA p5.2 66 ((x1 : Int32).toNatClampNeg) (p5.2.i 38)) 1 1)) (fun p7 => (kv9_some rfl))))) (kv9_bind (kr9_st rfl (kr9_f_X12_shut N σ 125)) (fun p3 => (kv9_some rfl)))) kv9_none)
theorem kr9_f_X12_telling_22 (N : Nat) (σ : RS) (x1 : Int32) : KR9 σ (f_X12_telling_22 N σ x1) := by
  unfold f_X12_telling_22
  exact (kr9_bind (kr9_st rfl (kr9_f_X12_seenAs N σ σ.l)) (fun p5 => (kr9_ite (kr9_ite (kr9_bindv (kv9_st rfl (kr9_f_X12_next N (RS.setB (RS.setI p5.2 54 ((p5.2.i 54) + 1)) 74 ((x1 : Int32).toNatClampNeg) p5.2.l))) (fun p9 => (kr9_some rfl))) kr9_none) (kr9_bindv (kv9_st rfl (kr9_f_X12_fail N p5.2 4 (p5.2.i 11))) (fun p11 => (kr9_some rfl))))))
theorem kr9_f_X12_telling_20 (N : Nat) (σ : RS) : KR9 σ (f_X12_telling_20 N σ) := by
  unfold f_X12_telling_20
  exact (kr9_some rfl)
theorem kr9_f_X12_telling (N : Nat) (σ : RS) (x1 : Int32) : KR9 σ (f_X12_telling N σ x1) := by
  unfold f_X12_telling
  exact (kr9_ite (kr9_bind (kr9_st rfl (kr9_f_X12_can N σ 1)) (fun p13 => (kr9_ite (kr9_st rfl (kr9_f_X12_telling_20 N p13.2)) (kr9_st rfl (kr9_f_X12_telling_22 N p13.2 x1))))) (kr9_bind (kr9_st rfl (kr9_f_X12_can N σ 0)) (fun p2 => (kr9_ite (kr9_st rfl (kr9_f_X12_telling_20 N p2.2)) (kr9_st rfl (kr9_f_X12_telling_22 N p2.2 x1))))))
theorem kr9_f_X12_tell (N : Nat) (σ : RS) (x1 : Int32) : KV9 σ (f_X12_tell N σ x1) := by
  unfold f_X12_tell
  exact (kv9_ite (kv9_ite (kv9_bindv (kv9_st rfl (kr9_f_X12_next N σ)) (fun p11 => (kv9_ite (kv9_bind (kr9_st rfl (kr9_f_X12_telling N p11 x1)) (fun p14 => (kv9_ite (kv9_some rfl) (kv9_bind (kr9_st rfl (kr9_f_X12_need N p14.2 61)) (fun p17 => (kv9_bindv (kv9_st rfl (kr9_f_X12_then N p17.2 1 16)) (fun p19 => (kv9_some rfl)))))))) (kv9_some rfl)))) (kv9_bind (kr9_st rfl (kr9_f_X12_see N σ (σ.b 74 ((x1 : Int32).toNatClampNeg)) 0)) (fun p3 => (kv9_bind (kr9_st rfl (kr9_f_X12_emit N p3.2 5 p3.1)) (fun p5 => (kv9_bind (kr9_st rfl (kr9_f_X12_need N p5.2 59)) (fun p7 => (kv9_bindv (kv9_st rfl (kr9_f_X12_over N p7.2 1)) (fun p9 => (kv9_some rfl)))))))))) kv9_none)
theorem kr9_f_X12_label_188 (N : Nat) (σ : RS) : KV9 σ (f_X12_label_188 N σ) := by
  unfold f_X12_label_188
  exact (kv9_bindv (kv9_st rfl (kr9_f_X12_body N σ 1)) (fun p10 => (kv9_some rfl)))
theorem kr9_f_X12_label_168 (N : Nat) (σ : RS) : KV9 σ (f_X12_label_168 N σ) := by
  unfold f_X12_label_168
  exact (kv9_st rfl (kr9_f_X12_label_188 N σ))
theorem kr9_b_X12_label_125 (N : Nat) (K : RS → Int32 → Option (RS)) (hK : ∀ (σ : RS) (y0 : Int32), KV9 σ (K σ y0)) (σ : RS) (x6 : Int32) : KV9 σ (b_X12_label_125 N K σ x6) := by
  unfold b_X12_label_125
  exact (kv9_ite (kv9_st rfl (kr9_f_X12_label_168 N σ)) (kv9_ite (kv9_ite (kv9_ite (kv9_st rfl (hK (RS.setA σ 46 ((x6 : Int32).toNatClampNeg) (-3)) (x6 + (-1)))) (kv9_st rfl (kr9_f_X12_label_168 N σ))) (kv9_st rfl (kr9_f_X12_label_168 N σ))) kv9_none))
theorem kr9_f_X12_label_125 (N : Nat) : ∀ (n : Nat) (σ : RS) (y0 : Int32), KV9 σ (f_X12_label_125 N n σ y0)
  | 0, _, _ => kv9_none
  | n+1, σ, y0 => kr9_b_X12_label_125 N (f_X12_label_125 N n) (fun σ y0 => kr9_f_X12_label_125 N n σ y0) σ y0
theorem kr9_f_X12_label_110 (N : Nat) (σ : RS) (x5 : Int32) : KV9 σ (f_X12_label_110 N σ x5) := by
  unfold f_X12_label_110
  exact (kv9_ite (kv9_st rfl (kr9_f_X12_label_125 N N (RS.setA σ 46 ((x5 : Int32).toNatClampNeg) (-3)) (x5 - 1))) kv9_none)
theorem kr9_f_X12_label_60 (N : Nat) (σ : RS) (x1 : Int32) (x2 : Int64) : KV9 σ (f_X12_label_60 N σ x1 x2) := by
  unfold f_X12_label_60
  exact (kv9_bind (kr9_st rfl (kr9_f_X12_goal N σ 2 x2)) (fun p2 => (kv9_ite (kv9_bindv (kv9_st rfl (kr9_f_X12_next N (RS.setA p2.2 66 ((x1 : Int32).toNatClampNeg) p2.1))) (fun p5 => (kv9_ite (kv9_st rfl (kr9_f_X12_label_110 N p5 p2.1)) (kv9_ite (kv9_st rfl (kr9_f_X12_label_110 N p5 p2.1)) (kv9_ite (kv9_st rfl (kr9_f_X12_label_110 N p5 p2.1)) (kv9_ite (kv9_ite (kv9_st rfl (kr9_f_X12_label_188 N (RS.setA p5 46 ((p2.1 : Int32).toNatClampNeg) (-2)))) kv9_none) (kv9_st rfl (kr9_f_X12_label_188 N p5)))))))) kv9_none)))
theorem kr9_b_X12_label_8 (N : Nat) (K : RS → Int32 → Int64 → Int32 → Int32 → Option (RS)) (hK : ∀ (σ : RS) (y0 : Int32) (y1 : Int64) (y2 : Int32) (y3 : Int32), KV9 σ (K σ y0 y1 y2 y3)) (σ : RS) (x1 : Int32) (x2 : Int64) (x4 : Int32) (x5 : Int32) : KV9 σ (b_X12_label_8 N K σ x1 x2 x4 x5) := by
  unfold b_X12_label_8
  exact (kv9_ite (kv9_st rfl (kr9_f_X12_label_60 N σ x1 x2)) (kv9_ite (kv9_ite (kv9_st rfl (kr9_f_X12_label_60 N σ x1 x2)) (kv9_ite (kv9_ite (kv9_bindv (kv9_st rfl (kr9_f_X12_fail N σ 4 x4)) (fun p23 => (kv9_st rfl (hK p23 x1 x2 x4 (x5 + (-1)))))) (kv9_st rfl (hK σ x1 x2 x4 (x5 + (-1))))) (kv9_st rfl (hK σ x1 x2 x4 (x5 + (-1)))))) kv9_none))
theorem kr9_f_X12_label_8 (N : Nat) : ∀ (n : Nat) (σ : RS) (y0 : Int32) (y1 : Int64) (y2 : Int32) (y3 : Int32), KV9 σ (f_X12_label_8 N n σ y0 y1 y2 y3)
  | 0, _, _, _, _, _ => kv9_none
  | n+1, σ, y0, y1, y2, y3 => kr9_b_X12_label_8 N (f_X12_label_8 N n) (fun σ y0 y1 y2 y3 => kr9_f_X12_label_8 N n σ y0 y1 y2 y3) σ y0 y1 y2 y3
theorem kr9_f_X12_label (N : Nat) (σ : RS) (x1 : Int32) (x2 : Int64) (x4 : Int32) : KV9 σ (f_X12_label N σ x1 x2 x4) := by
  unfold f_X12_label
  exact (kv9_st rfl (kr9_f_X12_label_8 N N σ x1 x2 x4 ((σ.i 43) - 1)))
theorem kr9_f_X12_got_22 (N : Nat) (σ : RS) (x3 : Int32) : KR9 σ (f_X12_got_22 N σ x3) := by
  unfold f_X12_got_22
  exact (kr9_bindv (kv9_st rfl (kr9_f_X12_fail N σ 3 x3)) (fun p4 => (kr9_some rfl)))
theorem kr9_f_X12_got (N : Nat) (σ : RS) (x1 : Int64) (x3 : Int32) : KR9 σ (f_X12_got N σ x1 x3) := by
  unfold f_X12_got
  exact (kr9_bind (kr9_st rfl (kr9_f_X12_seenAs N σ x1)) (fun p1 => (kr9_ite (kr9_st rfl (kr9_f_X12_got_22 N p1.2 x3)) (kr9_ite (kr9_ite (kr9_some rfl) (kr9_st rfl (kr9_f_X12_got_22 N p1.2 x3))) kr9_none))))
theorem kr9_f_X12_named_207 (N : Nat) (σ : RS) (x1 : Int32) (x5 : Int32) (x6 : Int32) : KV9 σ (f_X12_named_207 N σ x1 x5 x6) := by
  unfold f_X12_named_207
  exact (kv9_bindv (kv9_st rfl (kr9_f_X12_next N σ)) (fun p17 => (kv9_ite (kv9_ite (kv9_bindv (kv9_st rfl (kr9_f_X12_then N (RS.setA p17 66 ((x1 : Int32).toNatClampNeg) x5) 2 16)) (fun p21 => (kv9_some rfl))) kv9_none) (kv9_bind (kr9_st rfl (kr9_f_X12_emit N p17 6 x5)) (fun p23 => (kv9_bind (kr9_st rfl (kr9_f_X12_need N p23.2 59)) (fun p25 => (kv9_bindv (kv9_st rfl (kr9_f_X12_over N p25.2 1)) (fun p27 => (kv9_some rfl))))))))))
theorem kr9_f_X12_named_183 (N : Nat) (σ : RS) (x1 : Int32) (x5 : Int32) : KV9 σ (f_X12_named_183 N σ x1 x5) := by
  unfold f_X12_named_183
  exact (kv9_bind (kr9_st rfl (kr9_f_X12_emit N σ 1 0)) (fun p14 => (kv9_ite (kv9_st rfl (kr9_f_X12_named_207 N p14.2 x1 x5 1)) (kv9_st rfl (kr9_f_X12_named_207 N p14.2 x1 x5 0)))))
theorem kr9_f_X12_named (N : Nat) (σ : RS) (x1 : Int32) : KV9 σ (f_X12_named N σ x1) := by
  unfold f_X12_named
  exact (kv9_ite (kv9_ite (kv9_ite (kv9_bindv (kv9_st rfl (kr9_f_X12_patch N σ (σ.a 48 (((σ.a 66 ((x1 : Int32).toNatClampNeg)) : Int32).toNatClampNeg)) (σ.i 20))) (fun p45 => (kv9_ite (kv9_ite (kv9_bindv (kv9_st rfl (kr9_f_X12_over N (RS.setI p45 43 ((p45.i 43) - 1)) 0)) (fun p51 => (kv9_some rfl))) (kv9_bindv (kv9_st rfl (kr9_f_X12_over N (RS.setI p45 43 ((p45.i 43) - 1)) 1)) (fun p53 => (kv9_some rfl)))) (kv9_bindv (kv9_st rfl (kr9_f_X12_over N (RS.setI p45 43 ((p45.i 43) - 1)) 1)) (fun p48 => (kv9_some rfl)))))) kv9_none) (kv9_ite (kv9_bind (kr9_st rfl (kr9_f_X12_emit N σ 5 (σ.a 66 ((x1 : Int32).toNatClampNeg)))) (fun p38 => (kv9_bind (kr9_st rfl (kr9_f_X12_need N p38.2 59)) (fun p40 => (kv9_bindv (kv9_st rfl (kr9_f_X12_over N p40.2 1)) (fun p42 => (kv9_some rfl))))))) (kv9_bindv (kv9_st rfl (kr9_f_X12_next N σ)) (fun p4 => (kv9_ite (kv9_bindv (kv9_st rfl (kr9_f_X12_label N p4 x1 σ.l (σ.i 11))) (fun p36 => (kv9_some rfl))) (kv9_bind (kr9_st rfl (kr9_f_X12_got N p4 σ.l (σ.i 11))) (fun p7 => (kv9_ite (kv9_ite (kv9_bind (kr9_st rfl (kr9_f_X12_can N p7.2 1)) (fun p11 => (kv9_ite (kv9_some rfl) (kv9_st rfl (kr9_f_X12_named_183 N p11.2 x1 p7.1))))) (kv9_ite (kv9_bind (kr9_st rfl (kr9_f_X12_can N p7.2 1)) (fun p33 => (kv9_ite (kv9_some rfl) (kv9_st rfl (kr9_f_X12_named_183 N p33.2 x1 p7.1))))) (kv9_bind (kr9_st rfl (kr9_f_X12_can N p7.2 0)) (fun p30 => (kv9_ite (kv9_some rfl) (kv9_st rfl (kr9_f_X12_named_183 N p30.2 x1 p7.1))))))) (kv9_some rfl))))))))) kv9_none)
theorem kr9_b_X12_isInArms_2 (N : Nat) (K : RS → Int32 → Option (Int32 × RS)) (hK : ∀ (σ : RS) (y0 : Int32), KR9 σ (K σ y0)) (σ : RS) (x1 : Int32) : KR9 σ (b_X12_isInArms_2 N K σ x1) := by
  unfold b_X12_isInArms_2
  exact (kr9_ite (kr9_some rfl) (kr9_ite (kr9_ite (kr9_some rfl) (kr9_st rfl (hK σ (x1 + 1)))) kr9_none))
theorem kr9_f_X12_isInArms_2 (N : Nat) : ∀ (n : Nat) (σ : RS) (y0 : Int32), KR9 σ (f_X12_isInArms_2 N n σ y0)
  | 0, _, _ => kr9_none
  | n+1, σ, y0 => kr9_b_X12_isInArms_2 N (f_X12_isInArms_2 N n) (fun σ y0 => kr9_f_X12_isInArms_2 N n σ y0) σ y0
theorem kr9_f_X12_isInArms (N : Nat) (σ : RS) : KR9 σ (f_X12_isInArms N σ) := by
  unfold f_X12_isInArms
  exact (kr9_st rfl (kr9_f_X12_isInArms_2 N N σ 0))
theorem kr9_b_X12_ending_119 (N : Nat) (K : RS → Int32 → Int32 → Int32 → Option (RS)) (hK : ∀ (σ : RS) (y0 : Int32) (y1 : Int32) (y2 : Int32), KV9 σ (K σ y0 y1 y2)) (σ : RS) (x1 : Int32) (x2 : Int32) (x3 : Int32) : KV9 σ (b_X12_ending_119 N K σ x1 x2 x3) := by
  unfold b_X12_ending_119
  exact (kv9_ite (kv9_bind (kr9_st rfl (kr9_f_X12_need N σ 59)) (fun p8 => (kv9_ite (kv9_ite (kv9_bindv (kv9_st rfl (kr9_f_X12_over N p8.2 1)) (fun p14 => (kv9_some rfl))) (kv9_bindv (kv9_st rfl (kr9_f_X12_over N p8.2 0)) (fun p12 => (kv9_some rfl)))) kv9_none))) (kv9_ite (kv9_ite (kv9_ite (kv9_st rfl (hK (RS.setA σ 23 ((x2 : Int32).toNatClampNeg) (σ.a 47 ((x3 : Int32).toNatClampNeg))) x1 x2 (x3 + 1))) kv9_none) (kv9_ite (kv9_st rfl (hK (RS.setA σ 23 ((x2 : Int32).toNatClampNeg) (σ.a 23 ((x2 : Int32).toNatClampNeg))) x1 x2 (x3 + 1))) kv9_none)) kv9_none))
theorem kr9_f_X12_ending_119 (N : Nat) : ∀ (n : Nat) (σ : RS) (y0 : Int32) (y1 : Int32) (y2 : Int32), KV9 σ (f_X12_ending_119 N n σ y0 y1 y2)
  | 0, _, _, _, _ => kv9_none
  | n+1, σ, y0, y1, y2 => kr9_b_X12_ending_119 N (f_X12_ending_119 N n) (fun σ y0 y1 y2 => kr9_f_X12_ending_119 N n σ y0 y1 y2) σ y0 y1 y2
theorem kr9_f_X12_ending_117 (N : Nat) (σ : RS) (x1 : Int32) (x2 : Int32) : KV9 σ (f_X12_ending_117 N σ x1 x2) := by
  unfold f_X12_ending_117
  exact (kv9_st rfl (kr9_f_X12_ending_119 N N σ x1 x2 0))
theorem kr9_f_X12_ending_63 (N : Nat) (σ : RS) : KV9 σ (f_X12_ending_63 N σ) := by
  unfold f_X12_ending_63
  exact (kv9_bindv (kv9_st rfl (kr9_f_X12_next N σ)) (fun p26 => (kv9_bindv (kv9_st rfl (kr9_f_X12_then N p26 1 16)) (fun p28 => (kv9_some rfl)))))
theorem kr9_f_X12_ending_53 (N : Nat) (σ : RS) : KV9 σ (f_X12_ending_53 N σ) := by
  unfold f_X12_ending_53
  exact (kv9_bindv (kv9_st rfl (kr9_f_X12_fail N σ 5 (σ.i 11))) (fun p33 => (kv9_some rfl)))
theorem kr9_f_X12_ending_36 (N : Nat) (σ : RS) : KV9 σ (f_X12_ending_36 N σ) := by
  unfold f_X12_ending_36
  exact (kv9_ite (kv9_bind (kr9_st rfl (kr9_f_X12_isInArms N σ)) (fun p30 => (kv9_ite (kv9_st rfl (kr9_f_X12_ending_53 N p30.2)) (kv9_st rfl (kr9_f_X12_ending_63 N p30.2))))) (kv9_st rfl (kr9_f_X12_ending_63 N σ)))
theorem kr9_f_X12_ending (N : Nat) (σ : RS) (x1 : Int32) : KV9 σ (f_X12_ending N σ x1) := by
  unfold f_X12_ending
  exact (kv9_ite (kv9_ite (kv9_ite (kv9_bind (kr9_st rfl (kr9_f_X12_isInArms N (RS.setA σ 66 ((x1 : Int32).toNatClampNeg) (σ.i 10)))) (fun p35 => (kv9_ite (kv9_st rfl (kr9_f_X12_ending_36 N p35.2)) (kv9_st rfl (kr9_f_X12_ending_53 N p35.2))))) (kv9_st rfl (kr9_f_X12_ending_36 N (RS.setA σ 66 ((x1 : Int32).toNatClampNeg) (σ.i 10))))) (kv9_ite (kv9_bind (kr9_st rfl (kr9_f_X12_emit N σ 16 0)) (fun p22 => (kv9_st rfl (kr9_f_X12_ending_117 N p22.2 x1 p22.1)))) (kv9_ite (kv9_bind (kr9_st rfl (kr9_f_X12_emit N σ 17 0)) (fun p20 => (kv9_st rfl (kr9_f_X12_ending_117 N p20.2 x1 p20.1)))) (kv9_bind (kr9_st rfl (kr9_f_X12_emit N σ 18 0)) (fun p5 => (kv9_st rfl (kr9_f_X12_ending_117 N p5.2 x1 p5.1))))))) kv9_none)
theorem kr9_f_X12_throwing_142 (N : Nat) (σ : RS) : KV9 σ (f_X12_throwing_142 N σ) := by
  unfold f_X12_throwing_142
  exact (kv9_bindv (kv9_st rfl (kr9_f_X12_fail N σ 3 (σ.i 11))) (fun p13 => (kv9_some rfl)))
theorem kr9_f_X12_throwing_69 (N : Nat) (σ : RS) (x1 : Int32) : KV9 σ (f_X12_throwing_69 N σ x1) := by
  unfold f_X12_throwing_69
  exact (kv9_ite (kv9_ite (kv9_ite (kv9_bindv (kv9_st rfl (kr9_f_X12_next N (RS.setA σ 66 ((x1 : Int32).toNatClampNeg) (σ.i 14)))) (fun p27 => (kv9_bindv (kv9_st rfl (kr9_f_X12_then N p27 1 16)) (fun p29 => (kv9_some rfl))))) kv9_none) (kv9_bindv (kv9_st rfl (kr9_f_X12_fail N σ 3 (σ.i 11))) (fun p31 => (kv9_some rfl)))) (kv9_bind (kr9_st rfl (kr9_f_X12_seenAs N σ σ.l)) (fun p10 => (kv9_ite (kv9_st rfl (kr9_f_X12_throwing_142 N p10.2)) (kv9_ite (kv9_ite (kv9_st rfl (kr9_f_X12_throwing_142 N p10.2)) (kv9_bind (kr9_st rfl (kr9_f_X12_emit N p10.2 21 (p10.2.a 40 ((p10.1 : Int32).toNatClampNeg)))) (fun p17 => (kv9_bindv (kv9_st rfl (kr9_f_X12_next N p17.2)) (fun p19 => (kv9_bind (kr9_st rfl (kr9_f_X12_need N p19 59)) (fun p21 => (kv9_bindv (kv9_st rfl (kr9_f_X12_over N p21.2 0)) (fun p23 => (kv9_some rfl)))))))))) kv9_none)))))
theorem kr9_f_X12_throwing (N : Nat) (σ : RS) (x1 : Int32) : KV9 σ (f_X12_throwing N σ x1) := by
  unfold f_X12_throwing
  exact (kv9_ite (kv9_ite (kv9_bind (kr9_st rfl (kr9_f_X12_emit N σ 19 (σ.a 66 ((x1 : Int32).toNatClampNeg)))) (fun p40 => (kv9_bind (kr9_st rfl (kr9_f_X12_need N p40.2 59)) (fun p42 => (kv9_bindv (kv9_st rfl (kr9_f_X12_over N p42.2 0)) (fun p44 => (kv9_some rfl))))))) (kv9_bindv (kv9_st rfl (kr9_f_X12_next N σ)) (fun p3 => (kv9_ite (kv9_bind (kr9_st rfl (kr9_f_X12_can N p3 1)) (fun p6 => (kv9_ite (kv9_some rfl) (kv9_st rfl (kr9_f_X12_throwing_69 N p6.2 x1))))) (kv9_ite (kv9_bind (kr9_st rfl (kr9_f_X12_can N p3 1)) (fun p37 => (kv9_ite (kv9_some rfl) (kv9_st rfl (kr9_f_X12_throwing_69 N p37.2 x1))))) (kv9_bind (kr9_st rfl (kr9_f_X12_can N p3 0)) (fun p34 => (kv9_ite (kv9_some rfl) (kv9_st rfl (kr9_f_X12_throwing_69 N p34.2 x1)))))))))) kv9_none)
theorem kr9_f_X12_asserted (N : Nat) (σ : RS) (x1 : Int32) : KV9 σ (f_X12_asserted N σ x1) := by
  unfold f_X12_asserted
  exact (kv9_ite (kv9_ite (kv9_bindv (kv9_st rfl (kr9_f_X12_next N σ)) (fun p3 => (kv9_bind (kr9_st rfl (kr9_f_X12_emit N p3 22 0)) (fun p5 => (kv9_bindv (kv9_st rfl (kr9_f_X12_then N (RS.setA p5.2 66 ((x1 : Int32).toNatClampNeg) p5.1) 1 20)) (fun p7 => (kv9_some rfl))))))) (kv9_ite (kv9_bind (kr9_st rfl (kr9_f_X12_emit N σ 14 0)) (fun p10 => (kv9_ite (kv9_bindv (kv9_st rfl (kr9_f_X12_next N (RS.setA p10.2 67 ((x1 : Int32).toNatClampNeg) p10.1))) (fun p15 => (kv9_bindv (kv9_st rfl (kr9_f_X12_then N p15 2 16)) (fun p17 => (kv9_some rfl))))) (kv9_bind (kr9_st rfl (kr9_f_X12_emit N (RS.setA p10.2 67 ((x1 : Int32).toNatClampNeg) p10.1) 2 0)) (fun p13 => (kv9_some rfl)))))) (kv9_bind (kr9_st rfl (kr9_f_X12_emit N σ 19 3)) (fun p19 => (kv9_ite (kv9_ite (kv9_bind (kr9_st rfl (kr9_f_X12_need N (RS.setA (RS.setA p19.2 22 (((p19.2.a 66 ((x1 : Int32).toNatClampNeg)) : Int32).toNatClampNeg) (p19.2.i 20)) 22 (((p19.2.a 67 ((x1 : Int32).toNatClampNeg)) : Int32).toNatClampNeg) (p19.2.i 20)) 59)) (fun p23 => (kv9_bindv (kv9_st rfl (kr9_f_X12_over N p23.2 1)) (fun p25 => (kv9_some rfl))))) kv9_none) kv9_none))))) kv9_none)
theorem kr9_f_X12_branch_113 (N : Nat) (σ : RS) (x1 : Int32) : KV9 σ (f_X12_branch_113 N σ x1) := by
  unfold f_X12_branch_113
  exact (kv9_bind (kr9_st rfl (kr9_f_X12_emit N σ 15 0)) (fun p24 => (kv9_ite (kv9_ite (kv9_bindv (kv9_st rfl (kr9_f_X12_body N (RS.setA (RS.setA p24.2 68 ((x1 : Int32).toNatClampNeg) p24.1) 22 (((p24.2.a 66 ((x1 : Int32).toNatClampNeg)) : Int32).toNatClampNeg) (p24.2.i 20)) 3)) (fun p28 => (kv9_some rfl))) kv9_none) kv9_none)))
theorem kr9_f_X12_branch (N : Nat) (σ : RS) (x1 : Int32) : KV9 σ (f_X12_branch N σ x1) := by
  unfold f_X12_branch
  exact (kv9_ite (kv9_ite (kv9_bindv (kv9_st rfl (kr9_f_X12_next N σ)) (fun p3 => (kv9_bind (kr9_st rfl (kr9_f_X12_open N p3 40)) (fun p5 => (kv9_bindv (kv9_st rfl (kr9_f_X12_then N p5.2 1 20)) (fun p7 => (kv9_some rfl))))))) (kv9_ite (kv9_bind (kr9_st rfl (kr9_f_X12_shut N σ 41)) (fun p10 => (kv9_bind (kr9_st rfl (kr9_f_X12_emit N p10.2 13 0)) (fun p12 => (kv9_bindv (kv9_st rfl (kr9_f_X12_body N (RS.setA p12.2 66 ((x1 : Int32).toNatClampNeg) p12.1) 2)) (fun p14 => (kv9_some rfl))))))) (kv9_ite (kv9_ite (kv9_bindv (kv9_st rfl (kr9_f_X12_next N σ)) (fun p21 => (kv9_ite (kv9_st rfl (kr9_f_X12_branch_113 N (RS.setA p21 67 ((x1 : Int32).toNatClampNeg) 0) x1)) (kv9_st rfl (kr9_f_X12_branch_113 N (RS.setA p21 67 ((x1 : Int32).toNatClampNeg) 1) x1))))) (kv9_ite (kv9_bindv (kv9_st rfl (kr9_f_X12_over N (RS.setA σ 22 (((σ.a 66 ((x1 : Int32).toNatClampNeg)) : Int32).toNatClampNeg) (σ.i 20)) 1)) (fun p19 => (kv9_some rfl))) kv9_none)) (kv9_ite (kv9_ite (kv9_ite (kv9_bindv (kv9_st rfl (kr9_f_X12_over N (RS.setA σ 22 (((σ.a 68 ((x1 : Int32).toNatClampNeg)) : Int32).toNatClampNeg) (σ.i 20)) 1)) (fun p37 => (kv9_some rfl))) (kv9_bindv (kv9_st rfl (kr9_f_X12_over N (RS.setA σ 22 (((σ.a 68 ((x1 : Int32).toNatClampNeg)) : Int32).toNatClampNeg) (σ.i 20)) 0)) (fun p35 => (kv9_some rfl)))) (kv9_bindv (kv9_st rfl (kr9_f_X12_over N (RS.setA σ 22 (((σ.a 68 ((x1 : Int32).toNatClampNeg)) : Int32).toNatClampNeg) (σ.i 20)) 1)) (fun p32 => (kv9_some rfl)))) kv9_none)))) kv9_none)
theorem kr9_f_X12_isJustTrue_18 (N : Nat) (σ : RS) : KR9 σ (f_X12_isJustTrue_18 N σ) := by
  unfold f_X12_isJustTrue_18
  exact (kr9_some rfl)
theorem kr9_f_X12_isJustTrue (N : Nat) (σ : RS) (x1 : Int32) : KR9 σ (f_X12_isJustTrue N σ x1) := by
  unfold f_X12_isJustTrue
  exact (kr9_ite (kr9_st rfl (kr9_f_X12_isJustTrue_18 N σ)) (kr9_ite (kr9_some rfl) (kr9_st rfl (kr9_f_X12_isJustTrue_18 N σ))))
theorem kr9_f_X12_whiles_77 (N : Nat) (σ : RS) : KV9 σ (f_X12_whiles_77 N σ) := by
  unfold f_X12_whiles_77
  exact (kv9_bindv (kv9_st rfl (kr9_f_X12_then N σ 1 20)) (fun p8 => (kv9_some rfl)))
theorem kr9_f_X12_whiles_111 (N : Nat) (σ : RS) (x1 : Int32) : KV9 σ (f_X12_whiles_111 N σ x1) := by
  unfold f_X12_whiles_111
  exact (kv9_bind (kr9_st rfl (kr9_f_X12_shut N σ 41)) (fun p14 => (kv9_bind (kr9_st rfl (kr9_f_X12_emit N p14.2 13 0)) (fun p16 => (kv9_ite (kv9_bind (kr9_st rfl (kr9_f_X12_emit N (RS.setA p16.2 67 ((x1 : Int32).toNatClampNeg) p16.1) 1 0)) (fun p19 => (kv9_bind (kr9_st rfl (kr9_f_X12_loopGoal N p19.2)) (fun p21 => (kv9_bindv (kv9_st rfl (kr9_f_X12_body N (RS.setA p21.2 68 ((x1 : Int32).toNatClampNeg) p21.1) 2)) (fun p23 => (kv9_some rfl))))))) kv9_none)))))
theorem kr9_f_X12_whiles (N : Nat) (σ : RS) (x1 : Int32) : KV9 σ (f_X12_whiles N σ x1) := by
  unfold f_X12_whiles
  exact (kv9_ite (kv9_ite (kv9_bindv (kv9_st rfl (kr9_f_X12_next N σ)) (fun p3 => (kv9_bind (kr9_st rfl (kr9_f_X12_open N (RS.setA p3 66 ((x1 : Int32).toNatClampNeg) (p3.i 20)) 40)) (fun p5 => (kv9_ite (kv9_st rfl (kr9_f_X12_whiles_77 N (RS.setA p5.2 69 ((x1 : Int32).toNatClampNeg) (p5.2.i 17)))) (kv9_st rfl (kr9_f_X12_whiles_77 N (RS.setA p5.2 69 ((x1 : Int32).toNatClampNeg) 0)))))))) (kv9_ite (kv9_bind (kr9_st rfl (kr9_f_X12_isJustTrue N σ (σ.a 69 ((x1 : Int32).toNatClampNeg)))) (fun p11 => (kv9_ite (kv9_st rfl (kr9_f_X12_whiles_111 N (RS.setA p11.2 71 ((x1 : Int32).toNatClampNeg) 0) x1)) (kv9_st rfl (kr9_f_X12_whiles_111 N (RS.setA p11.2 71 ((x1 : Int32).toNatClampNeg) 1) x1))))) (kv9_ite (kv9_bindv (kv9_st rfl (kr9_f_X12_patch N σ (σ.a 49 (((σ.a 68 ((x1 : Int32).toNatClampNeg)) : Int32).toNatClampNeg)) (σ.a 66 ((x1 : Int32).toNatClampNeg)))) (fun p26 => (kv9_bind (kr9_st rfl (kr9_f_X12_emit N p26 15 (p26.a 66 ((x1 : Int32).toNatClampNeg)))) (fun p28 => (kv9_ite (kv9_bindv (kv9_st rfl (kr9_f_X12_patch N (RS.setA p28.2 22 (((p28.2.a 67 ((x1 : Int32).toNatClampNeg)) : Int32).toNatClampNeg) (p28.2.i 20)) (p28.2.a 48 (((σ.a 68 ((x1 : Int32).toNatClampNeg)) : Int32).toNatClampNeg)) (p28.2.i 20))) (fun p31 => (kv9_ite (kv9_bindv (kv9_st rfl (kr9_f_X12_over N (RS.setI p31 43 ((p31.i 43) - 1)) 1)) (fun p34 => (kv9_some rfl))) (kv9_ite (kv9_bindv (kv9_st rfl (kr9_f_X12_over N (RS.setI p31 43 ((p31.i 43) - 1)) 0)) (fun p37 => (kv9_some rfl))) (kv9_bindv (kv9_st rfl (kr9_f_X12_over N (RS.setI p31 43 ((p31.i 43) - 1)) 1)) (fun p39 => (kv9_some rfl))))))) kv9_none))))) kv9_none))) kv9_none)
theorem kr9_f_X12_repeats_195 (N : Nat) (σ : RS) : KV9 σ (f_X12_repeats_195 N σ) := by
  unfold f_X12_repeats_195
  exact (kv9_bindv (kv9_st rfl (kr9_f_X12_then N σ 2 20)) (fun p26 => (kv9_some rfl)))
theorem kr9_f_X12_repeats_134 (N : Nat) (σ : RS) (x1 : Int32) (x2 : Int32) : KV9 σ (f_X12_repeats_134 N σ x1 x2) := by
  unfold f_X12_repeats_134
  exact (kv9_ite (kv9_ite (kv9_bind (kr9_st rfl (kr9_f_X12_need N (RS.setI (RS.setA σ 70 ((x1 : Int32).toNatClampNeg) (σ.a 48 ((x2 : Int32).toNatClampNeg))) 43 ((σ.i 43) - 1)) 415)) (fun p21 => (kv9_bind (kr9_st rfl (kr9_f_X12_open N p21.2 40)) (fun p23 => (kv9_ite (kv9_st rfl (kr9_f_X12_repeats_195 N (RS.setA p23.2 69 ((x1 : Int32).toNatClampNeg) (p23.2.i 17)))) (kv9_st rfl (kr9_f_X12_repeats_195 N (RS.setA p23.2 69 ((x1 : Int32).toNatClampNeg) 0)))))))) kv9_none) kv9_none)
theorem kr9_f_X12_repeats_114 (N : Nat) (σ : RS) (x1 : Int32) (x2 : Int32) : KV9 σ (f_X12_repeats_114 N σ x1 x2) := by
  unfold f_X12_repeats_114
  exact (kv9_ite (kv9_ite (kv9_ite (kv9_st rfl (kr9_f_X12_repeats_134 N (RS.setA σ 72 ((x1 : Int32).toNatClampNeg) 0) x1 x2)) kv9_none) (kv9_ite (kv9_st rfl (kr9_f_X12_repeats_134 N (RS.setA σ 72 ((x1 : Int32).toNatClampNeg) 1) x1 x2)) kv9_none)) kv9_none)
theorem kr9_f_X12_repeats (N : Nat) (σ : RS) (x1 : Int32) : KV9 σ (f_X12_repeats N σ x1) := by
  unfold f_X12_repeats
  exact (kv9_ite (kv9_ite (kv9_bindv (kv9_st rfl (kr9_f_X12_next N σ)) (fun p3 => (kv9_bind (kr9_st rfl (kr9_f_X12_emit N p3 1 0)) (fun p5 => (kv9_bind (kr9_st rfl (kr9_f_X12_loopGoal N (RS.setA p5.2 66 ((x1 : Int32).toNatClampNeg) p5.1))) (fun p7 => (kv9_bindv (kv9_st rfl (kr9_f_X12_body N (RS.setA p7.2 68 ((x1 : Int32).toNatClampNeg) p7.1) 1)) (fun p9 => (kv9_some rfl))))))))) (kv9_ite (kv9_ite (kv9_bindv (kv9_st rfl (kr9_f_X12_patch N σ (σ.a 49 (((σ.a 68 ((x1 : Int32).toNatClampNeg)) : Int32).toNatClampNeg)) (σ.i 20))) (fun p13 => (kv9_ite (kv9_ite (kv9_st rfl (kr9_f_X12_repeats_114 N (RS.setA p13 67 ((x1 : Int32).toNatClampNeg) 0) x1 (σ.a 68 ((x1 : Int32).toNatClampNeg)))) (kv9_st rfl (kr9_f_X12_repeats_114 N (RS.setA p13 67 ((x1 : Int32).toNatClampNeg) 1) x1 (σ.a 68 ((x1 : Int32).toNatClampNeg))))) (kv9_st rfl (kr9_f_X12_repeats_114 N (RS.setA p13 67 ((x1 : Int32).toNatClampNeg) 1) x1 (σ.a 68 ((x1 : Int32).toNatClampNeg))))))) kv9_none) (kv9_bind (kr9_st rfl (kr9_f_X12_isJustTrue N σ (σ.a 69 ((x1 : Int32).toNatClampNeg)))) (fun p30 => (kv9_bind (kr9_st rfl (kr9_f_X12_shut N p30.2 41)) (fun p32 => (kv9_bind (kr9_st rfl (kr9_f_X12_need N p32.2 59)) (fun p34 => (kv9_bind (kr9_st rfl (kr9_f_X12_emit N p34.2 14 (p34.2.a 66 ((x1 : Int32).toNatClampNeg)))) (fun p36 => (kv9_bindv (kv9_st rfl (kr9_f_X12_patch N p36.2 (p36.2.a 70 ((x1 : Int32).toNatClampNeg)) (p36.2.i 20))) (fun p38 => (kv9_ite (kv9_ite (kv9_bindv (kv9_st rfl (kr9_f_X12_over N p38 1)) (fun p47 => (kv9_some rfl))) (kv9_ite (kv9_bindv (kv9_st rfl (kr9_f_X12_over N p38 1)) (fun p52 => (kv9_some rfl))) (kv9_bindv (kv9_st rfl (kr9_f_X12_over N p38 0)) (fun p50 => (kv9_some rfl))))) (kv9_ite (kv9_bindv (kv9_st rfl (kr9_f_X12_over N p38 1)) (fun p44 => (kv9_some rfl))) (kv9_bindv (kv9_st rfl (kr9_f_X12_over N p38 0)) (fun p42 => (kv9_some rfl))))))))))))))))) kv9_none)
theorem kr9_f_X12_forHead_231 (N : Nat) (σ : RS) (x1 : Int32) : KV9 σ (f_X12_forHead_231 N σ x1) := by
  unfold f_X12_forHead_231
  exact (kv9_ite (kv9_some rfl) kv9_none)
theorem kr9_f_X12_forHead_196 (N : Nat) (σ : RS) : KV9 σ (f_X12_forHead_196 N σ) := by
  unfold f_X12_forHead_196
  exact (kv9_bindv (kv9_st rfl (kr9_f_X12_next N σ)) (fun p21 => (kv9_bindv (kv9_st rfl (kr9_f_X12_then N p21 2 16)) (fun p23 => (kv9_some rfl)))))
theorem kr9_f_X12_forHead_142 (N : Nat) (σ : RS) : KV9 σ (f_X12_forHead_142 N σ) := by
  unfold f_X12_forHead_142
  exact (kv9_some rfl)
theorem kr9_f_X12_forHead_76 (N : Nat) (σ : RS) (x1 : Int32) (x2 : Int32) : KV9 σ (f_X12_forHead_76 N σ x1 x2) := by
  unfold f_X12_forHead_76
  exact (kv9_bindv (kv9_st rfl (kr9_f_X12_next N σ)) (fun p38 => (kv9_ite (kv9_bindv (kv9_st rfl (kr9_f_X12_then N p38 1 16)) (fun p50 => (kv9_st rfl (kr9_f_X12_forHead_142 N p50)))) (kv9_ite (kv9_bindv (kv9_st rfl (kr9_f_X12_next N p38)) (fun p45 => (kv9_bind (kr9_st rfl (kr9_f_X12_emit N p45 20 1)) (fun p47 => (kv9_ite (kv9_st rfl (kr9_f_X12_forHead_142 N (RS.setA p47.2 65 ((x1 : Int32).toNatClampNeg) 12))) kv9_none))))) (kv9_ite (kv9_bindv (kv9_st rfl (kr9_f_X12_then N (RS.setA p38 68 ((x1 : Int32).toNatClampNeg) 0) 10 16)) (fun p43 => (kv9_st rfl (kr9_f_X12_forHead_142 N p43)))) kv9_none)))))
theorem kr9_f_X12_forHead_61 (N : Nat) (σ : RS) (x1 : Int32) : KV9 σ (f_X12_forHead_61 N σ x1) := by
  unfold f_X12_forHead_61
  exact (kv9_ite (kv9_st rfl (kr9_f_X12_forHead_76 N σ x1 1)) (kv9_st rfl (kr9_f_X12_forHead_76 N σ x1 0)))
theorem kr9_f_X12_forHead (N : Nat) (σ : RS) (x1 : Int32) : KV9 σ (f_X12_forHead N σ x1) := by
  unfold f_X12_forHead
  exact (kv9_ite (kv9_ite (kv9_bindv (kv9_st rfl (kr9_f_X12_next N σ)) (fun p28 => (kv9_bind (kr9_st rfl (kr9_f_X12_telling N p28 x1)) (fun p30 => (kv9_ite (kv9_some rfl) (kv9_ite (kv9_bind (kr9_st rfl (kr9_f_X12_can N p30.2 1)) (fun p34 => (kv9_ite (kv9_some rfl) (kv9_st rfl (kr9_f_X12_forHead_61 N p34.2 x1))))) (kv9_ite (kv9_bind (kr9_st rfl (kr9_f_X12_can N p30.2 1)) (fun p56 => (kv9_ite (kv9_some rfl) (kv9_st rfl (kr9_f_X12_forHead_61 N p56.2 x1))))) (kv9_bind (kr9_st rfl (kr9_f_X12_can N p30.2 0)) (fun p53 => (kv9_ite (kv9_some rfl) (kv9_st rfl (kr9_f_X12_forHead_61 N p53.2 x1)))))))))))) (kv9_ite (kv9_bind (kr9_st rfl (kr9_f_X12_got N σ σ.l (σ.i 11))) (fun p12 => (kv9_ite (kv9_bindv (kv9_st rfl (kr9_f_X12_next N (RS.setA p12.2 66 ((x1 : Int32).toNatClampNeg) p12.1))) (fun p15 => (kv9_ite (kv9_bind (kr9_st rfl (kr9_f_X12_can N p15 1)) (fun p25 => (kv9_ite (kv9_some rfl) (kv9_st rfl (kr9_f_X12_forHead_196 N p25.2))))) (kv9_bind (kr9_st rfl (kr9_f_X12_can N p15 0)) (fun p18 => (kv9_ite (kv9_some rfl) (kv9_st rfl (kr9_f_X12_forHead_196 N p18.2)))))))) kv9_none))) (kv9_ite (kv9_bind (kr9_st rfl (kr9_f_X12_can N σ 1)) (fun p9 => (kv9_ite (kv9_some rfl) (kv9_st rfl (kr9_f_X12_forHead_231 N p9.2 x1))))) (kv9_bind (kr9_st rfl (kr9_f_X12_can N σ 0)) (fun p5 => (kv9_ite (kv9_some rfl) (kv9_st rfl (kr9_f_X12_forHead_231 N p5.2 x1)))))))) (kv9_some rfl))
theorem kr9_f_X12_forBehind_59 (N : Nat) (σ : RS) (x1 : Int32) : KV9 σ (f_X12_forBehind_59 N σ x1) := by
  unfold f_X12_forBehind_59
  exact (kv9_ite (kv9_some rfl) kv9_none)
theorem kr9_f_X12_forBehind_159 (N : Nat) (σ : RS) (x1 : Int32) (x2 : Int32) : KV9 σ (f_X12_forBehind_159 N σ x1 x2) := by
  unfold f_X12_forBehind_159
  exact (kv9_bindv (kv9_st rfl (kr9_f_X12_next N σ)) (fun p25 => (kv9_ite (kv9_bindv (kv9_st rfl (kr9_f_X12_then N p25 6 16)) (fun p28 => (kv9_some rfl))) (kv9_ite (kv9_bind (kr9_st rfl (kr9_f_X12_emit N p25 6 (p25.a 73 ((x1 : Int32).toNatClampNeg)))) (fun p31 => (kv9_some rfl))) kv9_none))))
theorem kr9_f_X12_forBehind_143 (N : Nat) (σ : RS) (x1 : Int32) : KV9 σ (f_X12_forBehind_143 N σ x1) := by
  unfold f_X12_forBehind_143
  exact (kv9_ite (kv9_st rfl (kr9_f_X12_forBehind_159 N σ x1 1)) (kv9_st rfl (kr9_f_X12_forBehind_159 N σ x1 0)))
theorem kr9_f_X12_forBehind_89 (N : Nat) (σ : RS) (x1 : Int32) : KV9 σ (f_X12_forBehind_89 N σ x1) := by
  unfold f_X12_forBehind_89
  exact (kv9_bind (kr9_st rfl (kr9_f_X12_got N σ σ.l (σ.i 11))) (fun p15 => (kv9_ite (kv9_bindv (kv9_st rfl (kr9_f_X12_next N (RS.setA p15.2 73 ((x1 : Int32).toNatClampNeg) p15.1))) (fun p18 => (kv9_ite (kv9_bind (kr9_st rfl (kr9_f_X12_can N p18 1)) (fun p21 => (kv9_ite (kv9_some rfl) (kv9_st rfl (kr9_f_X12_forBehind_143 N p21.2 x1))))) (kv9_ite (kv9_bind (kr9_st rfl (kr9_f_X12_can N p18 1)) (fun p37 => (kv9_ite (kv9_some rfl) (kv9_st rfl (kr9_f_X12_forBehind_143 N p37.2 x1))))) (kv9_bind (kr9_st rfl (kr9_f_X12_can N p18 0)) (fun p34 => (kv9_ite (kv9_some rfl) (kv9_st rfl (kr9_f_X12_forBehind_143 N p34.2 x1))))))))) kv9_none)))
theorem kr9_f_X12_forBehind (N : Nat) (σ : RS) (x1 : Int32) : KV9 σ (f_X12_forBehind N σ x1) := by
  unfold f_X12_forBehind
  exact (kv9_bind (kr9_st rfl (kr9_f_X12_need N σ 59)) (fun p1 => (kv9_bind (kr9_st rfl (kr9_f_X12_emit N p1.2 13 0)) (fun p3 => (kv9_ite (kv9_bind (kr9_st rfl (kr9_f_X12_emit N (RS.setA p3.2 67 ((x1 : Int32).toNatClampNeg) p3.1) 15 0)) (fun p6 => (kv9_ite (kv9_ite (kv9_st rfl (kr9_f_X12_forBehind_59 N (RS.setA (RS.setA p6.2 68 ((x1 : Int32).toNatClampNeg) p6.1) 70 ((x1 : Int32).toNatClampNeg) (p6.2.i 20)) x1)) (kv9_ite (kv9_bind (kr9_st rfl (kr9_f_X12_can N (RS.setA (RS.setA p6.2 68 ((x1 : Int32).toNatClampNeg) p6.1) 70 ((x1 : Int32).toNatClampNeg) (p6.2.i 20)) 1)) (fun p40 => (kv9_ite (kv9_some rfl) (kv9_st rfl (kr9_f_X12_forBehind_89 N p40.2 x1))))) (kv9_bind (kr9_st rfl (kr9_f_X12_can N (RS.setA (RS.setA p6.2 68 ((x1 : Int32).toNatClampNeg) p6.1) 70 ((x1 : Int32).toNatClampNeg) (p6.2.i 20)) 0)) (fun p12 => (kv9_ite (kv9_some rfl) (kv9_st rfl (kr9_f_X12_forBehind_89 N p12.2 x1))))))) (kv9_st rfl (kr9_f_X12_forBehind_59 N (RS.setA (RS.setA p6.2 68 ((x1 : Int32).toNatClampNeg) p6.1) 70 ((x1 : Int32).toNatClampNeg) (p6.2.i 20)) x1))))) kv9_none)))))
theorem kr9_f_X12_rows (N : Nat) (σ : RS) (x1 : Int32) : KV9 σ (f_X12_rows N σ x1) := by
  unfold f_X12_rows
  exact (kv9_ite (kv9_ite (kv9_ite (kv9_bindv (kv9_st rfl (kr9_f_X12_next N (RS.setA σ 68 ((x1 : Int32).toNatClampNeg) ((σ.a 68 ((x1 : Int32).toNatClampNeg)) + 1)))) (fun p30 => (kv9_bindv (kv9_st rfl (kr9_f_X12_then N p30 10 16)) (fun p32 => (kv9_some rfl))))) (kv9_bind (kr9_st rfl (kr9_f_X12_emit N (RS.setA σ 68 ((x1 : Int32).toNatClampNeg) ((σ.a 68 ((x1 : Int32).toNatClampNeg)) + 1)) 23 ((upd (σ.a 68) ((x1 : Int32).toNatClampNeg) ((σ.a 68 ((x1 : Int32).toNatClampNeg)) + 1)) ((x1 : Int32).toNatClampNeg)))) (fun p28 => (kv9_some rfl)))) (kv9_ite (kv9_bind (kr9_st rfl (kr9_f_X12_see N σ (σ.b 74 ((x1 : Int32).toNatClampNeg)) 0)) (fun p16 => (kv9_bind (kr9_st rfl (kr9_f_X12_shut N p16.2 41)) (fun p18 => (kv9_bind (kr9_st rfl (kr9_f_X12_emit N (RS.setI p18.2 52 ((p18.2.i 52) + 1)) 24 0)) (fun p20 => (kv9_ite (kv9_bind (kr9_st rfl (kr9_f_X12_loopGoal N (RS.setA (RS.setA p20.2 66 ((x1 : Int32).toNatClampNeg) p20.1) 23 ((((upd (p20.2.a 66) ((x1 : Int32).toNatClampNeg) p20.1) ((x1 : Int32).toNatClampNeg)) : Int32).toNatClampNeg) p16.1))) (fun p23 => (kv9_bindv (kv9_st rfl (kr9_f_X12_body N (RS.setA p23.2 73 ((x1 : Int32).toNatClampNeg) p23.1) 13)) (fun p25 => (kv9_some rfl))))) kv9_none))))))) (kv9_ite (kv9_bindv (kv9_st rfl (kr9_f_X12_patch N σ (σ.a 49 (((σ.a 73 ((x1 : Int32).toNatClampNeg)) : Int32).toNatClampNeg)) (σ.a 66 ((x1 : Int32).toNatClampNeg)))) (fun p5 => (kv9_bind (kr9_st rfl (kr9_f_X12_emit N p5 15 (p5.a 66 ((x1 : Int32).toNatClampNeg)))) (fun p7 => (kv9_ite (kv9_bindv (kv9_st rfl (kr9_f_X12_patch N (RS.setA p7.2 22 (((p7.2.a 66 ((x1 : Int32).toNatClampNeg)) : Int32).toNatClampNeg) (p7.2.i 20)) (p7.2.a 48 (((σ.a 73 ((x1 : Int32).toNatClampNeg)) : Int32).toNatClampNeg)) (p7.2.i 20))) (fun p10 => (kv9_bind (kr9_st rfl (kr9_f_X12_emit N p10 25 0)) (fun p12 => (kv9_bindv (kv9_st rfl (kr9_f_X12_over N (RS.setI (RS.setI (RS.setI p12.2 52 ((p12.2.i 52) - 1)) 43 ((p12.2.i 43) - 1)) 38 (p12.2.a 71 ((x1 : Int32).toNatClampNeg))) 1)) (fun p14 => (kv9_some rfl))))))) kv9_none))))) kv9_none))) kv9_none)
theorem kr9_f_X12_fors_195 (N : Nat) (σ : RS) (x1 : Int32) : KV9 σ (f_X12_fors_195 N σ x1) := by
  unfold f_X12_fors_195
  exact (kv9_ite (kv9_bind (kr9_st rfl (kr9_f_X12_emit N σ 2 1)) (fun p26 => (kv9_ite (kv9_some rfl) kv9_none))) (kv9_bindv (kv9_st rfl (kr9_f_X12_then N σ 4 20)) (fun p24 => (kv9_some rfl))))
theorem kr9_f_X12_fors_175 (N : Nat) (σ : RS) (x1 : Int32) : KV9 σ (f_X12_fors_175 N σ x1) := by
  unfold f_X12_fors_175
  exact (kv9_ite (kv9_ite (kv9_st rfl (kr9_f_X12_fors_195 N (RS.setA σ 72 ((x1 : Int32).toNatClampNeg) 1) x1)) kv9_none) (kv9_ite (kv9_st rfl (kr9_f_X12_fors_195 N (RS.setA σ 72 ((x1 : Int32).toNatClampNeg) 0) x1)) kv9_none))
theorem kr9_f_X12_fors_255 (N : Nat) (σ : RS) (x1 : Int32) : KV9 σ (f_X12_fors_255 N σ x1) := by
  unfold f_X12_fors_255
  exact (kv9_ite (kv9_some rfl) kv9_none)
theorem kr9_f_X12_fors_469 (N : Nat) (σ : RS) : KV9 σ (f_X12_fors_469 N σ) := by
  unfold f_X12_fors_469
  exact (kv9_some rfl)
theorem kr9_f_X12_fors (N : Nat) (σ : RS) (x1 : Int32) : KV9 σ (f_X12_fors N σ x1) := by
  unfold f_X12_fors
  exact (kv9_ite (kv9_ite (kv9_bindv (kv9_st rfl (kr9_f_X12_next N (RS.setA σ 71 ((x1 : Int32).toNatClampNeg) (σ.i 38)))) (fun p3 => (kv9_bind (kr9_st rfl (kr9_f_X12_open N p3 40)) (fun p5 => (kv9_bindv (kv9_st rfl (kr9_f_X12_forHead N p5.2 x1)) (fun p7 => (kv9_some rfl))))))) (kv9_ite (kv9_bind (kr9_st rfl (kr9_f_X12_see N σ (σ.b 74 ((x1 : Int32).toNatClampNeg)) 0)) (fun p10 => (kv9_bind (kr9_st rfl (kr9_f_X12_emit N p10.2 5 p10.1)) (fun p12 => (kv9_some rfl))))) (kv9_ite (kv9_bind (kr9_st rfl (kr9_f_X12_emit N σ 5 (σ.a 66 ((x1 : Int32).toNatClampNeg)))) (fun p15 => (kv9_some rfl))) (kv9_ite (kv9_bind (kr9_st rfl (kr9_f_X12_need N σ 59)) (fun p18 => (kv9_ite (kv9_st rfl (kr9_f_X12_fors_175 N (RS.setA (RS.setA p18.2 66 ((x1 : Int32).toNatClampNeg) (p18.2.i 20)) 69 ((x1 : Int32).toNatClampNeg) (p18.2.i 17)) x1)) (kv9_st rfl (kr9_f_X12_fors_175 N (RS.setA (RS.setA p18.2 66 ((x1 : Int32).toNatClampNeg) (p18.2.i 20)) 69 ((x1 : Int32).toNatClampNeg) 0) x1))))) (kv9_ite (kv9_bind (kr9_st rfl (kr9_f_X12_isJustTrue N σ (σ.a 69 ((x1 : Int32).toNatClampNeg)))) (fun p31 => (kv9_ite (kv9_st rfl (kr9_f_X12_fors_255 N (RS.setA p31.2 72 ((x1 : Int32).toNatClampNeg) 0) x1)) (kv9_st rfl (kr9_f_X12_fors_255 N (RS.setA p31.2 72 ((x1 : Int32).toNatClampNeg) 1) x1))))) (kv9_ite (kv9_bindv (kv9_st rfl (kr9_f_X12_forBehind N σ x1)) (fun p36 => (kv9_some rfl))) (kv9_ite (kv9_bind (kr9_st rfl (kr9_f_X12_emit N σ 5 (σ.a 73 ((x1 : Int32).toNatClampNeg)))) (fun p39 => (kv9_some rfl))) (kv9_ite (kv9_bind (kr9_st rfl (kr9_f_X12_emit N σ 15 (σ.a 66 ((x1 : Int32).toNatClampNeg)))) (fun p42 => (kv9_bind (kr9_st rfl (kr9_f_X12_shut N p42.2 41)) (fun p44 => (kv9_ite (kv9_bind (kr9_st rfl (kr9_f_X12_emit N (RS.setA p44.2 22 (((p44.2.a 68 ((x1 : Int32).toNatClampNeg)) : Int32).toNatClampNeg) (p44.2.i 20)) 1 0)) (fun p47 => (kv9_bind (kr9_st rfl (kr9_f_X12_loopGoal N p47.2)) (fun p49 => (kv9_bindv (kv9_st rfl (kr9_f_X12_body N (RS.setA p49.2 73 ((x1 : Int32).toNatClampNeg) p49.1) 8)) (fun p51 => (kv9_some rfl))))))) kv9_none))))) (kv9_ite (kv9_ite (kv9_bindv (kv9_st rfl (kr9_f_X12_patch N σ (σ.a 49 (((σ.a 73 ((x1 : Int32).toNatClampNeg)) : Int32).toNatClampNeg)) (σ.a 70 ((x1 : Int32).toNatClampNeg)))) (fun p55 => (kv9_bind (kr9_st rfl (kr9_f_X12_emit N p55 15 (p55.a 70 ((x1 : Int32).toNatClampNeg)))) (fun p57 => (kv9_ite (kv9_bindv (kv9_st rfl (kr9_f_X12_patch N (RS.setA p57.2 22 (((p57.2.a 67 ((x1 : Int32).toNatClampNeg)) : Int32).toNatClampNeg) (p57.2.i 20)) (p57.2.a 48 (((σ.a 73 ((x1 : Int32).toNatClampNeg)) : Int32).toNatClampNeg)) (p57.2.i 20))) (fun p60 => (kv9_ite (kv9_bindv (kv9_st rfl (kr9_f_X12_over N (RS.setI (RS.setI p60 43 ((p60.i 43) - 1)) 38 (p60.a 71 ((x1 : Int32).toNatClampNeg))) 1)) (fun p63 => (kv9_st rfl (kr9_f_X12_fors_469 N p63)))) (kv9_ite (kv9_bindv (kv9_st rfl (kr9_f_X12_over N (RS.setI (RS.setI p60 43 ((p60.i 43) - 1)) 38 (p60.a 71 ((x1 : Int32).toNatClampNeg))) 0)) (fun p66 => (kv9_st rfl (kr9_f_X12_fors_469 N p66)))) (kv9_bindv (kv9_st rfl (kr9_f_X12_over N (RS.setI (RS.setI p60 43 ((p60.i 43) - 1)) 38 (p60.a 71 ((x1 : Int32).toNatClampNeg))) 1)) (fun p68 => (kv9_st rfl (kr9_f_X12_fors_469 N p68)))))))) kv9_none))))) kv9_none) (kv9_bindv (kv9_st rfl (kr9_f_X12_rows N σ x1)) (fun p70 => (kv9_some rfl)))))))))))) kv9_none)
theorem kr9_f_X12_lock_94 (N : Nat) (σ : RS) : KV9 σ (f_X12_lock_94 N σ) := by
  unfold f_X12_lock_94
  exact (kv9_bind (kr9_st rfl (kr9_f_X12_shut N σ 41)) (fun p13 => (kv9_bindv (kv9_st rfl (kr9_f_X12_then N (RS.setI p13.2 52 ((p13.2.i 52) + 1)) 1 3)) (fun p15 => (kv9_some rfl)))))
theorem kr9_f_X12_lock_90 (N : Nat) (σ : RS) : KV9 σ (f_X12_lock_90 N σ) := by
  unfold f_X12_lock_90
  exact (kv9_bindv (kv9_st rfl (kr9_f_X12_next N σ)) (fun p21 => (kv9_st rfl (kr9_f_X12_lock_94 N p21))))
theorem kr9_f_X12_lock_50 (N : Nat) (σ : RS) : KV9 σ (f_X12_lock_50 N σ) := by
  unfold f_X12_lock_50
  exact (kv9_ite (kv9_bind (kr9_st rfl (kr9_f_X12_emit N σ 20 1)) (fun p24 => (kv9_st rfl (kr9_f_X12_lock_90 N p24.2)))) (kv9_bind (kr9_st rfl (kr9_f_X12_emit N σ 26 (σ.i 14))) (fun p19 => (kv9_st rfl (kr9_f_X12_lock_90 N p19.2)))))
theorem kr9_f_X12_lock (N : Nat) (σ : RS) (x1 : Int32) : KV9 σ (f_X12_lock N σ x1) := by
  unfold f_X12_lock
  exact (kv9_ite (kv9_ite (kv9_bindv (kv9_st rfl (kr9_f_X12_next N σ)) (fun p5 => (kv9_bind (kr9_st rfl (kr9_f_X12_open N p5 40)) (fun p7 => (kv9_ite (kv9_bind (kr9_st rfl (kr9_f_X12_can N p7.2 1)) (fun p10 => (kv9_ite (kv9_st rfl (kr9_f_X12_lock_94 N p10.2)) (kv9_st rfl (kr9_f_X12_lock_50 N p10.2))))) (kv9_ite (kv9_bind (kr9_st rfl (kr9_f_X12_can N p7.2 1)) (fun p30 => (kv9_ite (kv9_st rfl (kr9_f_X12_lock_94 N p30.2)) (kv9_st rfl (kr9_f_X12_lock_50 N p30.2))))) (kv9_bind (kr9_st rfl (kr9_f_X12_can N p7.2 0)) (fun p27 => (kv9_ite (kv9_st rfl (kr9_f_X12_lock_94 N p27.2)) (kv9_st rfl (kr9_f_X12_lock_50 N p27.2))))))))))) (kv9_bind (kr9_st rfl (kr9_f_X12_emit N σ 27 0)) (fun p3 => (kv9_some rfl)))) kv9_none)
theorem kr9_f_X12_entry_85 (N : Nat) (σ : RS) (x1 : Int32) : KV9 σ (f_X12_entry_85 N σ x1) := by
  unfold f_X12_entry_85
  exact (kv9_ite (kv9_some rfl) kv9_none)
theorem kr9_f_X12_entry (N : Nat) (σ : RS) (x1 : Int32) (x2 : Int32) (x3 : Int32) : KV9 σ (f_X12_entry N σ x1 x2 x3) := by
  unfold f_X12_entry
  exact (kv9_ite (kv9_ite (kv9_ite (kv9_ite (kv9_st rfl (kr9_f_X12_entry_85 N (RS.setA (RS.setA (RS.setA (RS.setA (RS.setA σ 25 (((σ.i 24) : Int32).toNatClampNeg) x2) 26 (((σ.i 24) : Int32).toNatClampNeg) (σ.i 20)) 27 (((σ.i 24) : Int32).toNatClampNeg) (-1)) 28 (((σ.i 24) : Int32).toNatClampNeg) (vp_nar .boolean x3)) 27 (((σ.a 67 ((x1 : Int32).toNatClampNeg)) : Int32).toNatClampNeg) (σ.i 24)) x1)) kv9_none) (kv9_ite (kv9_st rfl (kr9_f_X12_entry_85 N (RS.setA (RS.setA (RS.setA (RS.setA (RS.setA σ 25 (((σ.i 24) : Int32).toNatClampNeg) x2) 26 (((σ.i 24) : Int32).toNatClampNeg) (σ.i 20)) 27 (((σ.i 24) : Int32).toNatClampNeg) (-1)) 28 (((σ.i 24) : Int32).toNatClampNeg) (vp_nar .boolean x3)) 22 (((σ.a 66 ((x1 : Int32).toNatClampNeg)) : Int32).toNatClampNeg) (σ.i 24)) x1)) kv9_none)) kv9_none) kv9_none)
theorem kr9_f_X12_caseNumber_140 (N : Nat) (σ : RS) : KR9 σ (f_X12_caseNumber_140 N σ) := by
  unfold f_X12_caseNumber_140
  exact (kr9_ite (kr9_some rfl) (kr9_some rfl))
theorem kr9_b_X12_caseNumber_75 (N : Nat) (K : RS → Int32 → Int32 → Int32 → Option (Int32 × RS)) (hK : ∀ (σ : RS) (y0 : Int32) (y1 : Int32) (y2 : Int32), KR9 σ (K σ y0 y1 y2)) (σ : RS) (x1 : Int32) (x3 : Int32) (x4 : Int32) : KR9 σ (b_X12_caseNumber_75 N K σ x1 x3 x4) := by
  unfold b_X12_caseNumber_75
  exact (kr9_ite (kr9_ite (kr9_bindv (kv9_st rfl (kr9_f_X12_entry N σ x1 x3 0)) (fun p13 => (kr9_bindv (kv9_st rfl (kr9_f_X12_next N p13)) (fun p15 => (kr9_st rfl (kr9_f_X12_caseNumber_140 N p15)))))) (kr9_st rfl (kr9_f_X12_caseNumber_140 N σ))) (kr9_ite (kr9_ite (kr9_ite (kr9_bindv (kv9_st rfl (kr9_f_X12_fail N σ 4 (σ.i 11))) (fun p20 => (kr9_st rfl (hK p20 x1 x3 (p20.a 27 ((x4 : Int32).toNatClampNeg)))))) (kr9_st rfl (hK σ x1 x3 (σ.a 27 ((x4 : Int32).toNatClampNeg))))) (kr9_st rfl (hK σ x1 x3 (σ.a 27 ((x4 : Int32).toNatClampNeg))))) kr9_none))
theorem kr9_f_X12_caseNumber_75 (N : Nat) : ∀ (n : Nat) (σ : RS) (y0 : Int32) (y1 : Int32) (y2 : Int32), KR9 σ (f_X12_caseNumber_75 N n σ y0 y1 y2)
  | 0, _, _, _, _ => kr9_none
  | n+1, σ, y0, y1, y2 => kr9_b_X12_caseNumber_75 N (f_X12_caseNumber_75 N n) (fun σ y0 y1 y2 => kr9_f_X12_caseNumber_75 N n σ y0 y1 y2) σ y0 y1 y2
theorem kr9_f_X12_caseNumber_62 (N : Nat) (σ : RS) (x1 : Int32) (x3 : Int32) : KR9 σ (f_X12_caseNumber_62 N σ x1 x3) := by
  unfold f_X12_caseNumber_62
  exact (kr9_ite (kr9_ite (kr9_st rfl (kr9_f_X12_caseNumber_75 N N σ x1 x3 (σ.a 22 (((σ.a 66 ((x1 : Int32).toNatClampNeg)) : Int32).toNatClampNeg)))) kr9_none) kr9_none)
theorem kr9_f_X12_caseNumber_45 (N : Nat) (σ : RS) (x1 : Int32) (x2 : Int32) : KR9 σ (f_X12_caseNumber_45 N σ x1 x2) := by
  unfold f_X12_caseNumber_45
  exact (kr9_ite (kr9_st rfl (kr9_f_X12_caseNumber_62 N σ x1 (σ.i 14))) (kr9_st rfl (kr9_f_X12_caseNumber_62 N σ x1 (-(σ.i 14)))))
theorem kr9_f_X12_caseNumber_43 (N : Nat) (σ : RS) : KR9 σ (f_X12_caseNumber_43 N σ) := by
  unfold f_X12_caseNumber_43
  exact (kr9_some rfl)
theorem kr9_f_X12_caseNumber_23 (N : Nat) (σ : RS) (x1 : Int32) (x2 : Int32) : KR9 σ (f_X12_caseNumber_23 N σ x1 x2) := by
  unfold f_X12_caseNumber_23
  exact (kr9_ite (kr9_bind (kr9_st rfl (kr9_f_X12_can N σ 1)) (fun p22 => (kr9_ite (kr9_st rfl (kr9_f_X12_caseNumber_43 N p22.2)) (kr9_st rfl (kr9_f_X12_caseNumber_45 N p22.2 x1 x2))))) (kr9_bind (kr9_st rfl (kr9_f_X12_can N σ 0)) (fun p4 => (kr9_ite (kr9_st rfl (kr9_f_X12_caseNumber_43 N p4.2)) (kr9_st rfl (kr9_f_X12_caseNumber_45 N p4.2 x1 x2))))))
theorem kr9_f_X12_caseNumber_15 (N : Nat) (σ : RS) (x1 : Int32) (x2 : Int32) : KR9 σ (f_X12_caseNumber_15 N σ x1 x2) := by
  unfold f_X12_caseNumber_15
  exact (kr9_ite (kr9_st rfl (kr9_f_X12_caseNumber_23 N σ x1 x2)) (kr9_bindv (kv9_st rfl (kr9_f_X12_next N σ)) (fun p25 => (kr9_st rfl (kr9_f_X12_caseNumber_23 N p25 x1 x2)))))
theorem kr9_f_X12_caseNumber (N : Nat) (σ : RS) (x1 : Int32) : KR9 σ (f_X12_caseNumber N σ x1) := by
  unfold f_X12_caseNumber
  exact (kr9_ite (kr9_st rfl (kr9_f_X12_caseNumber_15 N σ x1 1)) (kr9_st rfl (kr9_f_X12_caseNumber_15 N σ x1 0)))
theorem kr9_f_X12_groups_335 (N : Nat) (σ : RS) : KV9 σ (f_X12_groups_335 N σ) := by
  unfold f_X12_groups_335
  exact (kv9_some rfl)
theorem kr9_f_X12_groups_356 (N : Nat) (σ : RS) (x1 : Int32) : KV9 σ (f_X12_groups_356 N σ x1) := by
  unfold f_X12_groups_356
  exact (kv9_ite (kv9_some rfl) kv9_none)
theorem kr9_f_X12_groups (N : Nat) (σ : RS) (x1 : Int32) : KV9 σ (f_X12_groups N σ x1) := by
  unfold f_X12_groups
  exact (kv9_ite (kv9_ite (kv9_bindv (kv9_st rfl (kr9_f_X12_next N σ)) (fun p3 => (kv9_bind (kr9_st rfl (kr9_f_X12_open N p3 40)) (fun p5 => (kv9_bindv (kv9_st rfl (kr9_f_X12_then N p5.2 1 16)) (fun p7 => (kv9_some rfl))))))) (kv9_ite (kv9_bind (kr9_st rfl (kr9_f_X12_shut N σ 41)) (fun p10 => (kv9_bind (kr9_st rfl (kr9_f_X12_emit N p10.2 28 (-1))) (fun p12 => (kv9_bind (kr9_st rfl (kr9_f_X12_goal N (RS.setA (RS.setA (RS.setA (RS.setA (RS.setA p12.2 66 ((x1 : Int32).toNatClampNeg) p12.1) 67 ((x1 : Int32).toNatClampNeg) (-1)) 68 ((x1 : Int32).toNatClampNeg) 0) 70 ((x1 : Int32).toNatClampNeg) 1) 71 ((x1 : Int32).toNatClampNeg) (p12.2.i 38)) 1 0)) (fun p14 => (kv9_bind (kr9_st rfl (kr9_f_X12_open N (RS.setA p14.2 72 ((x1 : Int32).toNatClampNeg) p14.1) 123)) (fun p16 => (kv9_some rfl))))))))) (kv9_ite (kv9_ite (kv9_bindv (kv9_st rfl (kr9_f_X12_next N σ)) (fun p49 => (kv9_bind (kr9_st rfl (kr9_f_X12_caseNumber N p49 x1)) (fun p51 => (kv9_ite (kv9_some rfl) (kv9_bind (kr9_st rfl (kr9_f_X12_need N p51.2 58)) (fun p54 => (kv9_bindv (kv9_st rfl (kr9_f_X12_then N p54.2 3 1)) (fun p56 => (kv9_some rfl)))))))))) (kv9_ite (kv9_ite (kv9_bindv (kv9_st rfl (kr9_f_X12_fail N σ 4 (σ.i 11))) (fun p47 => (kv9_some rfl))) (kv9_bindv (kv9_st rfl (kr9_f_X12_entry N (RS.setA σ 68 ((x1 : Int32).toNatClampNeg) 1) x1 0 1)) (fun p39 => (kv9_bindv (kv9_st rfl (kr9_f_X12_next N p39)) (fun p41 => (kv9_bind (kr9_st rfl (kr9_f_X12_need N p41 58)) (fun p43 => (kv9_bindv (kv9_st rfl (kr9_f_X12_then N p43.2 3 1)) (fun p45 => (kv9_some rfl)))))))))) (kv9_bind (kr9_st rfl (kr9_f_X12_shut N σ 125)) (fun p21 => (kv9_ite (kv9_ite (kv9_bindv (kv9_st rfl (kr9_f_X12_patch N (RS.setA p21.2 23 (((p21.2.a 66 ((x1 : Int32).toNatClampNeg)) : Int32).toNatClampNeg) (p21.2.i 20)) (p21.2.a 48 (((p21.2.a 72 ((x1 : Int32).toNatClampNeg)) : Int32).toNatClampNeg)) (p21.2.i 20))) (fun p25 => (kv9_ite (kv9_bindv (kv9_st rfl (kr9_f_X12_over N (RS.setI (RS.setI p25 43 ((p25.i 43) - 1)) 38 (p25.a 71 ((x1 : Int32).toNatClampNeg))) 1)) (fun p28 => (kv9_st rfl (kr9_f_X12_groups_335 N p28)))) (kv9_ite (kv9_bindv (kv9_st rfl (kr9_f_X12_over N (RS.setI (RS.setI p25 43 ((p25.i 43) - 1)) 38 (p25.a 71 ((x1 : Int32).toNatClampNeg))) 1)) (fun p31 => (kv9_st rfl (kr9_f_X12_groups_335 N p31)))) (kv9_ite (kv9_bindv (kv9_st rfl (kr9_f_X12_over N (RS.setI (RS.setI p25 43 ((p25.i 43) - 1)) 38 (p25.a 71 ((x1 : Int32).toNatClampNeg))) 0)) (fun p34 => (kv9_st rfl (kr9_f_X12_groups_335 N p34)))) (kv9_bindv (kv9_st rfl (kr9_f_X12_over N (RS.setI (RS.setI p25 43 ((p25.i 43) - 1)) 38 (p25.a 71 ((x1 : Int32).toNatClampNeg))) 1)) (fun p36 => (kv9_st rfl (kr9_f_X12_groups_335 N p36))))))))) kv9_none) kv9_none))))) (kv9_ite (kv9_st rfl (kr9_f_X12_groups_356 N (RS.setA σ 70 ((x1 : Int32).toNatClampNeg) 0) x1)) (kv9_st rfl (kr9_f_X12_groups_356 N (RS.setA σ 70 ((x1 : Int32).toNatClampNeg) 1) x1)))))) kv9_none)
theorem kr9_b_X12_catching_323 (N : Nat) (K : RS → Int32 → Int32 → Option (RS)) (hK : ∀ (σ : RS) (y0 : Int32) (y1 : Int32), KV9 σ (K σ y0 y1)) (σ : RS) (x4 : Int32) (x5 : Int32) : KV9 σ (b_X12_catching_323 N K σ x4 x5) := by
  unfold b_X12_catching_323
  exact (kv9_ite (kv9_bindv (kv9_st rfl (kr9_f_X12_then N σ 3 3)) (fun p20 => (kv9_some rfl))) (kv9_ite (kv9_st rfl (hK (RS.setA (RS.setA σ 35 ((x5 : Int32).toNatClampNeg) (σ.i 20)) 36 ((x5 : Int32).toNatClampNeg) x4) x4 (x5 + 1))) kv9_none))
theorem kr9_f_X12_catching_323 (N : Nat) : ∀ (n : Nat) (σ : RS) (y0 : Int32) (y1 : Int32), KV9 σ (f_X12_catching_323 N n σ y0 y1)
  | 0, _, _, _ => kv9_none
  | n+1, σ, y0, y1 => kr9_b_X12_catching_323 N (f_X12_catching_323 N n) (fun σ y0 y1 => kr9_f_X12_catching_323 N n σ y0 y1) σ y0 y1
theorem kr9_f_X12_catching_277 (N : Nat) (σ : RS) (x2 : Int32) : KV9 σ (f_X12_catching_277 N σ x2) := by
  unfold f_X12_catching_277
  exact (kv9_bind (kr9_st rfl (kr9_f_X12_seenAs N σ σ.l)) (fun p10 => (kv9_ite (kv9_bind (kr9_st rfl (kr9_f_X12_see N p10.2 p10.2.l 1)) (fun p13 => (kv9_bindv (kv9_st rfl (kr9_f_X12_next N p13.2)) (fun p15 => (kv9_bind (kr9_st rfl (kr9_f_X12_shut N p15 41)) (fun p17 => (kv9_st rfl (kr9_f_X12_catching_323 N N p17.2 p13.1 x2)))))))) (kv9_bindv (kv9_st rfl (kr9_f_X12_fail N p10.2 4 (p10.2.i 11))) (fun p23 => (kv9_some rfl))))))
theorem kr9_f_X12_catching_256 (N : Nat) (σ : RS) (x2 : Int32) : KV9 σ (f_X12_catching_256 N σ x2) := by
  unfold f_X12_catching_256
  exact (kv9_ite (kv9_bind (kr9_st rfl (kr9_f_X12_can N σ 1)) (fun p25 => (kv9_ite (kv9_some rfl) (kv9_st rfl (kr9_f_X12_catching_277 N p25.2 x2))))) (kv9_bind (kr9_st rfl (kr9_f_X12_can N σ 0)) (fun p7 => (kv9_ite (kv9_some rfl) (kv9_st rfl (kr9_f_X12_catching_277 N p7.2 x2))))))
theorem kr9_b_X12_catching_82 (N : Nat) (K18 : RS → Int32 → Int32 → Int32 → Option (RS)) (hK18 : ∀ (σ : RS) (y0 : Int32) (y1 : Int32) (y2 : Int32), KV9 σ (K18 σ y0 y1 y2)) (K : RS → Int32 → Int32 → Int32 → Option (RS)) (hK : ∀ (σ : RS) (y0 : Int32) (y1 : Int32) (y2 : Int32), KV9 σ (K σ y0 y1 y2)) (σ : RS) (x1 : Int32) (x2 : Int32) (x4 : Int32) : KV9 σ (b_X12_catching_82 N K18 K σ x1 x2 x4) := by
  unfold b_X12_catching_82
  exact (kv9_ite (kv9_ite (kv9_ite (kv9_ite (kv9_ite (kv9_bindv (kv9_st rfl (kr9_f_X12_next N (RS.setI (RS.setA (RS.setA (RS.setA (RS.setA σ 34 (((σ.i 33) : Int32).toNatClampNeg) (σ.i 14)) 37 (((σ.i 33) : Int32).toNatClampNeg) (-1)) 37 (((σ.a 72 ((x1 : Int32).toNatClampNeg)) : Int32).toNatClampNeg) (σ.i 33)) 72 ((x1 : Int32).toNatClampNeg) (σ.i 33)) 33 ((σ.i 33) + 1)))) (fun p41 => (kv9_ite (kv9_ite (kv9_bindv (kv9_st rfl (kr9_f_X12_next N p41)) (fun p45 => (kv9_st rfl (hK18 p45 x1 x2 1)))) (kv9_st rfl (hK18 p41 x1 x2 0))) (kv9_st rfl (hK18 p41 x1 x2 0))))) kv9_none) (kv9_ite (kv9_bindv (kv9_st rfl (kr9_f_X12_next N (RS.setI (RS.setA (RS.setA (RS.setA (RS.setA σ 34 (((σ.i 33) : Int32).toNatClampNeg) (σ.i 14)) 37 (((σ.i 33) : Int32).toNatClampNeg) (-1)) 30 (((σ.a 66 ((x1 : Int32).toNatClampNeg)) : Int32).toNatClampNeg) (σ.i 33)) 72 ((x1 : Int32).toNatClampNeg) (σ.i 33)) 33 ((σ.i 33) + 1)))) (fun p48 => (kv9_ite (kv9_ite (kv9_bindv (kv9_st rfl (kr9_f_X12_next N p48)) (fun p52 => (kv9_st rfl (hK18 p52 x1 x2 1)))) (kv9_st rfl (hK18 p48 x1 x2 0))) (kv9_st rfl (hK18 p48 x1 x2 0))))) kv9_none)) kv9_none) kv9_none) (kv9_ite (kv9_ite (kv9_bind (kr9_st rfl (kr9_f_X12_isUnder N σ (σ.i 14) (σ.a 34 ((x4 : Int32).toNatClampNeg)))) (fun p73 => (kv9_ite (kv9_st rfl (hK p73.2 x1 x2 (p73.2.a 37 ((x4 : Int32).toNatClampNeg)))) (kv9_bindv (kv9_st rfl (kr9_f_X12_fail N p73.2 6 (p73.2.i 11))) (fun p76 => (kv9_st rfl (hK p76 x1 x2 (p76.a 37 ((x4 : Int32).toNatClampNeg))))))))) kv9_none) (kv9_ite (kv9_ite (kv9_ite (kv9_ite (kv9_bindv (kv9_st rfl (kr9_f_X12_next N (RS.setI (RS.setA (RS.setA (RS.setA (RS.setA σ 34 (((σ.i 33) : Int32).toNatClampNeg) (σ.i 14)) 37 (((σ.i 33) : Int32).toNatClampNeg) (-1)) 37 (((σ.a 72 ((x1 : Int32).toNatClampNeg)) : Int32).toNatClampNeg) (σ.i 33)) 72 ((x1 : Int32).toNatClampNeg) (σ.i 33)) 33 ((σ.i 33) + 1)))) (fun p59 => (kv9_ite (kv9_ite (kv9_bindv (kv9_st rfl (kr9_f_X12_next N p59)) (fun p63 => (kv9_st rfl (hK18 p63 x1 x2 1)))) (kv9_st rfl (hK18 p59 x1 x2 0))) (kv9_st rfl (hK18 p59 x1 x2 0))))) kv9_none) (kv9_ite (kv9_bindv (kv9_st rfl (kr9_f_X12_next N (RS.setI (RS.setA (RS.setA (RS.setA (RS.setA σ 34 (((σ.i 33) : Int32).toNatClampNeg) (σ.i 14)) 37 (((σ.i 33) : Int32).toNatClampNeg) (-1)) 30 (((σ.a 66 ((x1 : Int32).toNatClampNeg)) : Int32).toNatClampNeg) (σ.i 33)) 72 ((x1 : Int32).toNatClampNeg) (σ.i 33)) 33 ((σ.i 33) + 1)))) (fun p66 => (kv9_ite (kv9_ite (kv9_bindv (kv9_st rfl (kr9_f_X12_next N p66)) (fun p70 => (kv9_st rfl (hK18 p70 x1 x2 1)))) (kv9_st rfl (hK18 p66 x1 x2 0))) (kv9_st rfl (hK18 p66 x1 x2 0))))) kv9_none)) kv9_none) kv9_none)))
theorem kr9_f_X12_catching_82 (N : Nat) (K18 : RS → Int32 → Int32 → Int32 → Option (RS)) (hK18 : ∀ (σ : RS) (w0 : Int32) (w1 : Int32) (w2 : Int32), KV9 σ (K18 σ w0 w1 w2)) : ∀ (n : Nat) (σ : RS) (y0 : Int32) (y1 : Int32) (y2 : Int32), KV9 σ (f_X12_catching_82 N K18 n σ y0 y1 y2)
  | 0, _, _, _, _ => kv9_none
  | n+1, σ, y0, y1, y2 => kr9_b_X12_catching_82 N K18 hK18 (f_X12_catching_82 N K18 n) (fun σ y0 y1 y2 => kr9_f_X12_catching_82 N K18 hK18 n σ y0 y1 y2) σ y0 y1 y2
theorem kr9_b_X12_catching_18 (N : Nat) (K : RS → Int32 → Int32 → Int32 → Option (RS)) (hK : ∀ (σ : RS) (y0 : Int32) (y1 : Int32) (y2 : Int32), KV9 σ (K σ y0 y1 y2)) (σ : RS) (x1 : Int32) (x2 : Int32) (x3 : Int32) : KV9 σ (b_X12_catching_18 N K σ x1 x2 x3) := by
  unfold b_X12_catching_18
  exact (kv9_ite (kv9_st rfl (kr9_f_X12_catching_256 N σ x2)) (kv9_ite (kv9_ite (kv9_bind (kr9_st rfl (kr9_f_X12_can N σ 1)) (fun p82 => (kv9_ite (kv9_st rfl (hK p82.2 x1 x2 x3)) (kv9_ite (kv9_ite (kv9_ite (kv9_st rfl (kr9_f_X12_catching_82 N K hK N p82.2 x1 x2 (p82.2.a 30 (((p82.2.a 66 ((x1 : Int32).toNatClampNeg)) : Int32).toNatClampNeg)))) kv9_none) kv9_none) (kv9_bindv (kv9_st rfl (kr9_f_X12_fail N p82.2 3 (p82.2.i 11))) (fun p88 => (kv9_ite (kv9_ite (kv9_st rfl (kr9_f_X12_catching_82 N K hK N p88 x1 x2 (p88.a 30 (((p88.a 66 ((x1 : Int32).toNatClampNeg)) : Int32).toNatClampNeg)))) kv9_none) kv9_none))))))) (kv9_bind (kr9_st rfl (kr9_f_X12_can N σ 0)) (fun p30 => (kv9_ite (kv9_st rfl (hK p30.2 x1 x2 x3)) (kv9_ite (kv9_ite (kv9_ite (kv9_st rfl (kr9_f_X12_catching_82 N K hK N p30.2 x1 x2 (p30.2.a 30 (((p30.2.a 66 ((x1 : Int32).toNatClampNeg)) : Int32).toNatClampNeg)))) kv9_none) kv9_none) (kv9_bindv (kv9_st rfl (kr9_f_X12_fail N p30.2 3 (p30.2.i 11))) (fun p78 => (kv9_ite (kv9_ite (kv9_st rfl (kr9_f_X12_catching_82 N K hK N p78 x1 x2 (p78.a 30 (((p78.a 66 ((x1 : Int32).toNatClampNeg)) : Int32).toNatClampNeg)))) kv9_none) kv9_none)))))))) (kv9_st rfl (kr9_f_X12_catching_256 N σ x2))))
theorem kr9_f_X12_catching_18 (N : Nat) : ∀ (n : Nat) (σ : RS) (y0 : Int32) (y1 : Int32) (y2 : Int32), KV9 σ (f_X12_catching_18 N n σ y0 y1 y2)
  | 0, _, _, _, _ => kv9_none
  | n+1, σ, y0, y1, y2 => kr9_b_X12_catching_18 N (f_X12_catching_18 N n) (fun σ y0 y1 y2 => kr9_f_X12_catching_18 N n σ y0 y1 y2) σ y0 y1 y2
theorem kr9_f_X12_catching (N : Nat) (σ : RS) (x1 : Int32) : KV9 σ (f_X12_catching N σ x1) := by
  unfold f_X12_catching
  exact (kv9_bindv (kv9_st rfl (kr9_f_X12_next N σ)) (fun p1 => (kv9_bind (kr9_st rfl (kr9_f_X12_open N p1 40)) (fun p3 => (kv9_st rfl (kr9_f_X12_catching_18 N N p3.2 x1 (σ.i 33) 1))))))
theorem kr9_f_X12_endTry (N : Nat) (σ : RS) (x1 : Int32) (x2 : Int32) : KV9 σ (f_X12_endTry N σ x1 x2) := by
  unfold f_X12_endTry
  exact (kv9_ite (kv9_ite (kv9_bindv (kv9_st rfl (kr9_f_X12_resolve N (RS.setA (RS.setI σ 52 ((σ.i 52) - 1)) 32 (((σ.a 66 ((x1 : Int32).toNatClampNeg)) : Int32).toNatClampNeg) (σ.i 20)) (σ.a 66 ((x1 : Int32).toNatClampNeg)) x2)) (fun p3 => (kv9_ite (kv9_bindv (kv9_st rfl (kr9_f_X12_over N p3 0)) (fun p6 => (kv9_some rfl))) (kv9_ite (kv9_bindv (kv9_st rfl (kr9_f_X12_over N p3 1)) (fun p11 => (kv9_some rfl))) (kv9_bindv (kv9_st rfl (kr9_f_X12_over N p3 0)) (fun p9 => (kv9_some rfl))))))) kv9_none) kv9_none)
theorem kr9_f_X12_trying_215 (N : Nat) (σ : RS) (x1 : Int32) : KV9 σ (f_X12_trying_215 N σ x1) := by
  unfold f_X12_trying_215
  exact (kv9_ite (kv9_ite (kv9_bindv (kv9_st rfl (kr9_f_X12_then N (RS.setA (RS.setI (RS.setA (RS.setA σ 57 (((σ.i 56) : Int32).toNatClampNeg) (σ.a 66 ((x1 : Int32).toNatClampNeg))) 58 (((σ.i 56) : Int32).toNatClampNeg) (σ.i 43)) 56 ((σ.i 56) + 1)) 72 ((x1 : Int32).toNatClampNeg) (-1)) 1 3)) (fun p13 => (kv9_some rfl))) kv9_none) kv9_none)
theorem kr9_b_X12_trying_140 (N : Nat) (K : RS → Int32 → Int32 → Option (RS)) (hK : ∀ (σ : RS) (y0 : Int32) (y1 : Int32), KV9 σ (K σ y0 y1)) (σ : RS) (x1 : Int32) (x2 : Int32) : KV9 σ (b_X12_trying_140 N K σ x1 x2) := by
  unfold b_X12_trying_140
  exact (kv9_ite (kv9_st rfl (kr9_f_X12_trying_215 N σ x1)) (kv9_ite (kv9_bindv (kv9_st rfl (kr9_f_X12_next N σ)) (fun p16 => (kv9_ite (kv9_bind (kr9_st rfl (kr9_f_X12_can N p16 1)) (fun p30 => (kv9_ite (kv9_ite (kv9_ite (kv9_st rfl (hK p30.2 x1 1)) (kv9_st rfl (hK p30.2 x1 0))) (kv9_st rfl (hK p30.2 x1 0))) (kv9_bind (kr9_st rfl (kr9_f_X12_emit N p30.2 32 (p30.2.i 14))) (fun p35 => (kv9_bindv (kv9_st rfl (kr9_f_X12_next N p35.2)) (fun p37 => (kv9_ite (kv9_ite (kv9_st rfl (hK p37 x1 1)) (kv9_st rfl (hK p37 x1 0))) (kv9_st rfl (hK p37 x1 0)))))))))) (kv9_bind (kr9_st rfl (kr9_f_X12_can N p16 0)) (fun p19 => (kv9_ite (kv9_ite (kv9_ite (kv9_st rfl (hK p19.2 x1 1)) (kv9_st rfl (hK p19.2 x1 0))) (kv9_st rfl (hK p19.2 x1 0))) (kv9_bind (kr9_st rfl (kr9_f_X12_emit N p19.2 32 (p19.2.i 14))) (fun p24 => (kv9_bindv (kv9_st rfl (kr9_f_X12_next N p24.2)) (fun p26 => (kv9_ite (kv9_ite (kv9_st rfl (hK p26 x1 1)) (kv9_st rfl (hK p26 x1 0))) (kv9_st rfl (hK p26 x1 0))))))))))))) (kv9_st rfl (kr9_f_X12_trying_215 N σ x1))))
theorem kr9_f_X12_trying_140 (N : Nat) : ∀ (n : Nat) (σ : RS) (y0 : Int32) (y1 : Int32), KV9 σ (f_X12_trying_140 N n σ y0 y1)
  | 0, _, _, _ => kv9_none
  | n+1, σ, y0, y1 => kr9_b_X12_trying_140 N (f_X12_trying_140 N n) (fun σ y0 y1 => kr9_f_X12_trying_140 N n σ y0 y1) σ y0 y1
theorem kr9_f_X12_trying_124 (N : Nat) (σ : RS) (x1 : Int32) : KV9 σ (f_X12_trying_124 N σ x1) := by
  unfold f_X12_trying_124
  exact (kv9_ite (kv9_st rfl (kr9_f_X12_trying_140 N N σ x1 1)) (kv9_st rfl (kr9_f_X12_trying_140 N N σ x1 0)))
theorem kr9_f_X12_trying_287 (N : Nat) (σ : RS) (x1 : Int32) : KV9 σ (f_X12_trying_287 N σ x1) := by
  unfold f_X12_trying_287
  exact (kv9_ite (kv9_bind (kr9_st rfl (kr9_f_X12_emit N σ 33 (σ.a 66 ((x1 : Int32).toNatClampNeg)))) (fun p44 => (kv9_some rfl))) kv9_none)
theorem kr9_f_X12_trying_417 (N : Nat) (σ : RS) (x1 : Int32) : KV9 σ (f_X12_trying_417 N σ x1) := by
  unfold f_X12_trying_417
  exact (kv9_bindv (kv9_st rfl (kr9_f_X12_endTry N (RS.setI σ 56 ((σ.i 56) - 1)) x1 1)) (fun p53 => (kv9_some rfl)))
theorem kr9_f_X12_trying_464 (N : Nat) (σ : RS) (x1 : Int32) : KV9 σ (f_X12_trying_464 N σ x1) := by
  unfold f_X12_trying_464
  exact (kv9_ite (kv9_bind (kr9_st rfl (kr9_f_X12_emit N σ 34 (σ.a 66 ((x1 : Int32).toNatClampNeg)))) (fun p72 => (kv9_some rfl))) kv9_none)
theorem kr9_f_X12_trying (N : Nat) (σ : RS) (x1 : Int32) : KV9 σ (f_X12_trying N σ x1) := by
  unfold f_X12_trying
  exact (kv9_ite (kv9_ite (kv9_bindv (kv9_st rfl (kr9_f_X12_next N σ)) (fun p3 => (kv9_ite (kv9_bind (kr9_st rfl (kr9_f_X12_emit N (RS.setI (RS.setA (RS.setA (RS.setA p3 66 ((x1 : Int32).toNatClampNeg) (p3.i 29)) 30 (((p3.i 29) : Int32).toNatClampNeg) (-1)) 31 (((p3.i 29) : Int32).toNatClampNeg) (-1)) 29 ((p3.i 29) + 1)) 31 ((upd (p3.a 66) ((x1 : Int32).toNatClampNeg) (p3.i 29)) ((x1 : Int32).toNatClampNeg)))) (fun p6 => (kv9_ite (kv9_st rfl (kr9_f_X12_trying_124 N (RS.setA (RS.setI p6.2 52 ((p6.2.i 52) + 1)) 67 ((x1 : Int32).toNatClampNeg) 1) x1)) (kv9_st rfl (kr9_f_X12_trying_124 N (RS.setA (RS.setI p6.2 52 ((p6.2.i 52) + 1)) 67 ((x1 : Int32).toNatClampNeg) 0) x1))))) kv9_none))) (kv9_ite (kv9_ite (kv9_st rfl (kr9_f_X12_trying_287 N (RS.setA σ 68 ((x1 : Int32).toNatClampNeg) 0) x1)) (kv9_st rfl (kr9_f_X12_trying_287 N (RS.setA σ 68 ((x1 : Int32).toNatClampNeg) 1) x1))) (kv9_ite (kv9_ite (kv9_bindv (kv9_st rfl (kr9_f_X12_catching N (RS.setA σ 71 ((x1 : Int32).toNatClampNeg) (σ.i 38)) x1)) (fun p67 => (kv9_some rfl))) (kv9_ite (kv9_bindv (kv9_st rfl (kr9_f_X12_next N (RS.setI σ 56 ((σ.i 56) - 1)))) (fun p62 => (kv9_ite (kv9_bindv (kv9_st rfl (kr9_f_X12_then N (RS.setA p62 31 (((p62.a 66 ((x1 : Int32).toNatClampNeg)) : Int32).toNatClampNeg) (p62.i 20)) 4 3)) (fun p65 => (kv9_some rfl))) kv9_none))) (kv9_ite (kv9_bind (kr9_st rfl (kr9_f_X12_can N σ 1)) (fun p50 => (kv9_ite (kv9_some rfl) (kv9_st rfl (kr9_f_X12_trying_417 N p50.2 x1))))) (kv9_ite (kv9_bind (kr9_st rfl (kr9_f_X12_can N σ 0)) (fun p56 => (kv9_ite (kv9_some rfl) (kv9_st rfl (kr9_f_X12_trying_417 N p56.2 x1))))) (kv9_bind (kr9_st rfl (kr9_f_X12_can N σ 1)) (fun p59 => (kv9_ite (kv9_some rfl) (kv9_st rfl (kr9_f_X12_trying_417 N p59.2 x1))))))))) (kv9_ite (kv9_ite (kv9_ite (kv9_st rfl (kr9_f_X12_trying_464 N (RS.setA σ 68 ((x1 : Int32).toNatClampNeg) 1) x1)) (kv9_st rfl (kr9_f_X12_trying_464 N (RS.setA σ 68 ((x1 : Int32).toNatClampNeg) 0) x1))) (kv9_st rfl (kr9_f_X12_trying_464 N (RS.setA σ 68 ((x1 : Int32).toNatClampNeg) 1) x1))) (kv9_bind (kr9_st rfl (kr9_f_X12_emit N σ 35 (σ.a 66 ((x1 : Int32).toNatClampNeg)))) (fun p75 => (kv9_bindv (kv9_st rfl (kr9_f_X12_endTry N p75.2 x1 (p75.2.i 75))) (fun p77 => (kv9_some rfl))))))))) kv9_none)
theorem kr9_f_X12_sums_39 (N : Nat) (σ : RS) (x1 : Int32) (x2 : Int32) (x3 : Int32) : KV9 σ (f_X12_sums_39 N σ x1 x2 x3) := by
  unfold f_X12_sums_39
  exact (kv9_ite (kv9_some rfl) (kv9_ite (kv9_bindv (kv9_st rfl (kr9_f_X12_next N (RS.setA σ 66 ((x1 : Int32).toNatClampNeg) (σ.i 10)))) (fun p6 => (kv9_bindv (kv9_st rfl (kr9_f_X12_then N p6 2 x2)) (fun p8 => (kv9_some rfl))))) kv9_none))
theorem kr9_f_X12_sums (N : Nat) (σ : RS) (x1 : Int32) (x2 : Int32) (x3 : Int32) : KV9 σ (f_X12_sums N σ x1 x2 x3) := by
  unfold f_X12_sums
  exact (kv9_ite (kv9_ite (kv9_bindv (kv9_st rfl (kr9_f_X12_then N σ 1 x2)) (fun p12 => (kv9_some rfl))) (kv9_ite (kv9_bind (kr9_st rfl (kr9_f_X12_emit N σ 8 (σ.a 66 ((x1 : Int32).toNatClampNeg)))) (fun p10 => (kv9_st rfl (kr9_f_X12_sums_39 N p10.2 x1 x2 x3)))) (kv9_st rfl (kr9_f_X12_sums_39 N σ x1 x2 x3)))) kv9_none)
theorem kr9_f_X12_factor_215 (N : Nat) (σ : RS) : KV9 σ (f_X12_factor_215 N σ) := by
  unfold f_X12_factor_215
  exact (kv9_bindv (kv9_st rfl (kr9_f_X12_next N σ)) (fun p31 => (kv9_some rfl)))
theorem kr9_f_X12_factor_124 (N : Nat) (σ : RS) (x1 : Int32) : KV9 σ (f_X12_factor_124 N σ x1) := by
  unfold f_X12_factor_124
  exact (kv9_ite (kv9_bind (kr9_st rfl (kr9_f_X12_emit N σ 2 (σ.i 14))) (fun p37 => (kv9_bindv (kv9_st rfl (kr9_f_X12_next N p37.2)) (fun p39 => (kv9_some rfl))))) (kv9_ite (kv9_bind (kr9_st rfl (kr9_f_X12_seenAs N σ σ.l)) (fun p24 => (kv9_ite (kv9_ite (kv9_ite (kv9_bind (kr9_st rfl (kr9_f_X12_emit N p24.2 3 (p24.2.a 40 ((p24.1 : Int32).toNatClampNeg)))) (fun p29 => (kv9_st rfl (kr9_f_X12_factor_215 N p29.2)))) (kv9_bind (kr9_st rfl (kr9_f_X12_emit N p24.2 4 (p24.2.a 40 ((p24.1 : Int32).toNatClampNeg)))) (fun p33 => (kv9_st rfl (kr9_f_X12_factor_215 N p33.2))))) kv9_none) (kv9_bindv (kv9_st rfl (kr9_f_X12_fail N p24.2 3 (p24.2.i 11))) (fun p35 => (kv9_some rfl)))))) (kv9_ite (kv9_bind (kr9_st rfl (kr9_f_X12_opens N σ)) (fun p17 => (kv9_ite (kv9_some rfl) (kv9_bindv (kv9_st rfl (kr9_f_X12_next N p17.2)) (fun p20 => (kv9_bindv (kv9_st rfl (kr9_f_X12_then N p20 1 18)) (fun p22 => (kv9_some rfl)))))))) (kv9_ite (kv9_bind (kr9_st rfl (kr9_f_X12_open N σ 40)) (fun p13 => (kv9_bindv (kv9_st rfl (kr9_f_X12_then N p13.2 2 16)) (fun p15 => (kv9_some rfl))))) (kv9_ite (kv9_some rfl) kv9_none)))))
theorem kr9_f_X12_factor (N : Nat) (σ : RS) (x1 : Int32) : KV9 σ (f_X12_factor N σ x1) := by
  unfold f_X12_factor
  exact (kv9_ite (kv9_ite (kv9_bind (kr9_st rfl (kr9_f_X12_emit N (RS.setI σ 19 ((σ.i 19) - 1)) 7 0)) (fun p62 => (kv9_some rfl))) (kv9_ite (kv9_bind (kr9_st rfl (kr9_f_X12_shut N σ 41)) (fun p60 => (kv9_some rfl))) (kv9_ite (kv9_bind (kr9_st rfl (kr9_f_X12_can N σ 1)) (fun p5 => (kv9_ite (kv9_some rfl) (kv9_st rfl (kr9_f_X12_factor_124 N p5.2 x1))))) (kv9_ite (kv9_bind (kr9_st rfl (kr9_f_X12_can N σ 1)) (fun p42 => (kv9_ite (kv9_some rfl) (kv9_st rfl (kr9_f_X12_factor_124 N p42.2 x1))))) (kv9_ite (kv9_bind (kr9_st rfl (kr9_f_X12_can N σ 1)) (fun p46 => (kv9_ite (kv9_some rfl) (kv9_st rfl (kr9_f_X12_factor_124 N p46.2 x1))))) (kv9_ite (kv9_bind (kr9_st rfl (kr9_f_X12_can N σ 1)) (fun p50 => (kv9_ite (kv9_some rfl) (kv9_st rfl (kr9_f_X12_factor_124 N p50.2 x1))))) (kv9_ite (kv9_bind (kr9_st rfl (kr9_f_X12_can N σ 1)) (fun p57 => (kv9_ite (kv9_some rfl) (kv9_st rfl (kr9_f_X12_factor_124 N p57.2 x1))))) (kv9_bind (kr9_st rfl (kr9_f_X12_can N σ 0)) (fun p54 => (kv9_ite (kv9_some rfl) (kv9_st rfl (kr9_f_X12_factor_124 N p54.2 x1)))))))))))) kv9_none)
theorem kr9_f_X12_arms_250 (N : Nat) (σ : RS) (x1 : Int32) : KV9 σ (f_X12_arms_250 N σ x1) := by
  unfold f_X12_arms_250
  exact (kv9_bind (kr9_st rfl (kr9_f_X12_shut N σ 125)) (fun p25 => (kv9_ite (kv9_ite (kv9_some rfl) kv9_none) kv9_none)))
theorem kr9_f_X12_arms_333 (N : Nat) (σ : RS) : KV9 σ (f_X12_arms_333 N σ) := by
  unfold f_X12_arms_333
  exact (kv9_ite (kv9_bindv (kv9_st rfl (kr9_f_X12_next N σ)) (fun p51 => (kv9_some rfl))) (kv9_some rfl))
theorem kr9_f_X12_arms_400 (N : Nat) (σ : RS) : KV9 σ (f_X12_arms_400 N σ) := by
  unfold f_X12_arms_400
  exact (kv9_bindv (kv9_st rfl (kr9_f_X12_then N σ 7 16)) (fun p62 => (kv9_some rfl)))
theorem kr9_f_X12_arms_435 (N : Nat) (σ : RS) (x1 : Int32) : KV9 σ (f_X12_arms_435 N σ x1) := by
  unfold f_X12_arms_435
  exact (kv9_bind (kr9_st rfl (kr9_f_X12_shut N σ 125)) (fun p71 => (kv9_ite (kv9_some rfl) kv9_none)))
theorem kr9_f_X12_arms (N : Nat) (σ : RS) (x1 : Int32) : KV9 σ (f_X12_arms N σ x1) := by
  unfold f_X12_arms
  exact (kv9_ite (kv9_ite (kv9_bindv (kv9_st rfl (kr9_f_X12_next N σ)) (fun p3 => (kv9_bind (kr9_st rfl (kr9_f_X12_open N p3 40)) (fun p5 => (kv9_bindv (kv9_st rfl (kr9_f_X12_then N p5.2 1 16)) (fun p7 => (kv9_some rfl))))))) (kv9_ite (kv9_bind (kr9_st rfl (kr9_f_X12_shut N σ 41)) (fun p10 => (kv9_bind (kr9_st rfl (kr9_f_X12_emit N p10.2 29 (-1))) (fun p12 => (kv9_bind (kr9_st rfl (kr9_f_X12_goal N (RS.setI (RS.setA (RS.setA (RS.setA p12.2 66 ((x1 : Int32).toNatClampNeg) p12.1) 67 ((x1 : Int32).toNatClampNeg) (-1)) 68 ((x1 : Int32).toNatClampNeg) 0) 52 ((p12.2.i 52) + 1)) 3 0)) (fun p14 => (kv9_bind (kr9_st rfl (kr9_f_X12_open N p14.2 123)) (fun p16 => (kv9_some rfl))))))))) (kv9_ite (kv9_ite (kv9_bindv (kv9_st rfl (kr9_f_X12_next N σ)) (fun p43 => (kv9_some rfl))) (kv9_ite (kv9_ite (kv9_bindv (kv9_st rfl (kr9_f_X12_fail N σ 4 (σ.i 11))) (fun p41 => (kv9_some rfl))) (kv9_bindv (kv9_st rfl (kr9_f_X12_entry N (RS.setA σ 68 ((x1 : Int32).toNatClampNeg) 1) x1 0 1)) (fun p37 => (kv9_bindv (kv9_st rfl (kr9_f_X12_next N p37)) (fun p39 => (kv9_some rfl)))))) (kv9_ite (kv9_ite (kv9_bind (kr9_st rfl (kr9_f_X12_can N σ 1)) (fun p33 => (kv9_ite (kv9_some rfl) (kv9_st rfl (kr9_f_X12_arms_250 N p33.2 x1))))) (kv9_bind (kr9_st rfl (kr9_f_X12_can N σ 0)) (fun p30 => (kv9_ite (kv9_some rfl) (kv9_st rfl (kr9_f_X12_arms_250 N p30.2 x1)))))) (kv9_bind (kr9_st rfl (kr9_f_X12_can N σ 0)) (fun p22 => (kv9_ite (kv9_some rfl) (kv9_st rfl (kr9_f_X12_arms_250 N p22.2 x1)))))))) (kv9_ite (kv9_bind (kr9_st rfl (kr9_f_X12_caseNumber N σ x1)) (fun p46 => (kv9_ite (kv9_some rfl) (kv9_ite (kv9_st rfl (kr9_f_X12_arms_333 N (RS.setA p46.2 65 ((x1 : Int32).toNatClampNeg) 3))) (kv9_st rfl (kr9_f_X12_arms_333 N (RS.setA p46.2 65 ((x1 : Int32).toNatClampNeg) 5))))))) (kv9_ite (kv9_bind (kr9_st rfl (kr9_f_X12_need N σ 59)) (fun p54 => (kv9_bind (kr9_st rfl (kr9_f_X12_emit N p54.2 30 0)) (fun p56 => (kv9_some rfl))))) (kv9_ite (kv9_bind (kr9_st rfl (kr9_f_X12_need N σ 306)) (fun p59 => (kv9_ite (kv9_ite (kv9_bind (kr9_st rfl (kr9_f_X12_open N p59.2 123)) (fun p65 => (kv9_bindv (kv9_st rfl (kr9_f_X12_then N (RS.setA p65.2 71 ((x1 : Int32).toNatClampNeg) (p65.2.i 38)) 6 1)) (fun p67 => (kv9_some rfl))))) (kv9_st rfl (kr9_f_X12_arms_400 N p59.2))) (kv9_st rfl (kr9_f_X12_arms_400 N p59.2))))) (kv9_ite (kv9_ite (kv9_st rfl (kr9_f_X12_arms_435 N σ x1)) (kv9_ite (kv9_bindv (kv9_st rfl (kr9_f_X12_note N σ (σ.i 11))) (fun p75 => (kv9_st rfl (kr9_f_X12_arms_435 N p75 x1)))) (kv9_st rfl (kr9_f_X12_arms_435 N σ x1)))) (kv9_bind (kr9_st rfl (kr9_f_X12_need N σ 59)) (fun p77 => (kv9_bind (kr9_st rfl (kr9_f_X12_emit N p77.2 30 0)) (fun p79 => (kv9_some rfl)))))))))))) kv9_none)
theorem kr9_f_X12_both_41 (N : Nat) (σ : RS) (x1 : Int32) (x2 : Int32) (x3 : Int32) (x4 : Int32) : KV9 σ (f_X12_both_41 N σ x1 x2 x3 x4) := by
  unfold f_X12_both_41
  exact (kv9_ite (kv9_bindv (kv9_st rfl (kr9_f_X12_next N σ)) (fun p5 => (kv9_bind (kr9_st rfl (kr9_f_X12_emit N p5 x4 0)) (fun p7 => (kv9_ite (kv9_bindv (kv9_st rfl (kr9_f_X12_then N (RS.setA p7.2 66 ((x1 : Int32).toNatClampNeg) p7.1) 2 x2)) (fun p10 => (kv9_some rfl))) kv9_none))))) (kv9_some rfl))
theorem kr9_f_X12_both (N : Nat) (σ : RS) (x1 : Int32) (x2 : Int32) (x3 : Int32) (x4 : Int32) : KV9 σ (f_X12_both N σ x1 x2 x3 x4) := by
  unfold f_X12_both
  exact (kv9_ite (kv9_ite (kv9_bindv (kv9_st rfl (kr9_f_X12_then N σ 1 x2)) (fun p13 => (kv9_some rfl))) (kv9_ite (kv9_ite (kv9_st rfl (kr9_f_X12_both_41 N (RS.setA σ 22 (((σ.a 66 ((x1 : Int32).toNatClampNeg)) : Int32).toNatClampNeg) (σ.i 20)) x1 x2 x3 x4)) kv9_none) (kv9_st rfl (kr9_f_X12_both_41 N σ x1 x2 x3 x4)))) kv9_none)
theorem kr9_f_X12_one_133 (N : Nat) (σ : RS) : KV9 σ (f_X12_one_133 N σ) := by
  unfold f_X12_one_133
  exact (kv9_bindv (kv9_st rfl (kr9_f_X12_next N σ)) (fun p9 => (kv9_some rfl)))
theorem kr9_f_X12_one_112 (N : Nat) (σ : RS) : KV9 σ (f_X12_one_112 N σ) := by
  unfold f_X12_one_112
  exact (kv9_ite (kv9_bind (kr9_st rfl (kr9_f_X12_emit N σ 2 1)) (fun p11 => (kv9_st rfl (kr9_f_X12_one_133 N p11.2)))) (kv9_bind (kr9_st rfl (kr9_f_X12_emit N σ 2 0)) (fun p7 => (kv9_st rfl (kr9_f_X12_one_133 N p7.2)))))
theorem kr9_f_X12_one_281 (N : Nat) (σ : RS) (x1 : Int32) : KV9 σ (f_X12_one_281 N σ x1) := by
  unfold f_X12_one_281
  exact (kv9_ite (kv9_bindv (kv9_st rfl (kr9_f_X12_next N (RS.setA σ 66 ((x1 : Int32).toNatClampNeg) (σ.i 10)))) (fun p39 => (kv9_bindv (kv9_st rfl (kr9_f_X12_then N p39 4 16)) (fun p41 => (kv9_some rfl))))) kv9_none)
theorem kr9_f_X12_one (N : Nat) (σ : RS) (x1 : Int32) : KV9 σ (f_X12_one N σ x1) := by
  unfold f_X12_one
  exact (kv9_ite (kv9_ite (kv9_ite (kv9_bind (kr9_st rfl (kr9_f_X12_opens N σ)) (fun p20 => (kv9_ite (kv9_some rfl) (kv9_bindv (kv9_st rfl (kr9_f_X12_next N p20.2)) (fun p23 => (kv9_bindv (kv9_st rfl (kr9_f_X12_then N p23 1 22)) (fun p25 => (kv9_some rfl)))))))) (kv9_ite (kv9_bind (kr9_st rfl (kr9_f_X12_open N σ 91)) (fun p16 => (kv9_bindv (kv9_st rfl (kr9_f_X12_then N p16.2 2 20)) (fun p18 => (kv9_some rfl))))) (kv9_ite (kv9_st rfl (kr9_f_X12_one_112 N σ)) (kv9_ite (kv9_st rfl (kr9_f_X12_one_112 N σ)) (kv9_bindv (kv9_st rfl (kr9_f_X12_then N σ 3 16)) (fun p14 => (kv9_some rfl))))))) (kv9_ite (kv9_bind (kr9_st rfl (kr9_f_X12_emit N (RS.setI σ 19 ((σ.i 19) - 1)) 10 0)) (fun p28 => (kv9_some rfl))) (kv9_ite (kv9_bind (kr9_st rfl (kr9_f_X12_shut N σ 93)) (fun p31 => (kv9_some rfl))) (kv9_ite (kv9_ite (kv9_bind (kr9_st rfl (kr9_f_X12_can N σ 1)) (fun p35 => (kv9_ite (kv9_some rfl) (kv9_st rfl (kr9_f_X12_one_281 N p35.2 x1))))) (kv9_ite (kv9_bind (kr9_st rfl (kr9_f_X12_can N σ 1)) (fun p44 => (kv9_ite (kv9_some rfl) (kv9_st rfl (kr9_f_X12_one_281 N p44.2 x1))))) (kv9_ite (kv9_bind (kr9_st rfl (kr9_f_X12_can N σ 1)) (fun p48 => (kv9_ite (kv9_some rfl) (kv9_st rfl (kr9_f_X12_one_281 N p48.2 x1))))) (kv9_ite (kv9_bind (kr9_st rfl (kr9_f_X12_can N σ 1)) (fun p52 => (kv9_ite (kv9_some rfl) (kv9_st rfl (kr9_f_X12_one_281 N p52.2 x1))))) (kv9_ite (kv9_bind (kr9_st rfl (kr9_f_X12_can N σ 1)) (fun p56 => (kv9_ite (kv9_some rfl) (kv9_st rfl (kr9_f_X12_one_281 N p56.2 x1))))) (kv9_ite (kv9_bind (kr9_st rfl (kr9_f_X12_can N σ 1)) (fun p63 => (kv9_ite (kv9_some rfl) (kv9_st rfl (kr9_f_X12_one_281 N p63.2 x1))))) (kv9_bind (kr9_st rfl (kr9_f_X12_can N σ 0)) (fun p60 => (kv9_ite (kv9_some rfl) (kv9_st rfl (kr9_f_X12_one_281 N p60.2 x1))))))))))) (kv9_bind (kr9_st rfl (kr9_f_X12_emit N σ 9 (σ.a 66 ((x1 : Int32).toNatClampNeg)))) (fun p66 => (kv9_some rfl))))))) kv9_none)
theorem kr9_f_X12_thing_74 (N : Nat) (σ : RS) : KV9 σ (f_X12_thing_74 N σ) := by
  unfold f_X12_thing_74
  exact (kv9_some rfl)
theorem kr9_f_X12_thing_116 (N : Nat) (σ : RS) : KV9 σ (f_X12_thing_116 N σ) := by
  unfold f_X12_thing_116
  exact (kv9_some rfl)
theorem kr9_f_X12_thing (N : Nat) (σ : RS) (x1 : Int32) : KV9 σ (f_X12_thing N σ x1) := by
  unfold f_X12_thing
  exact (kv9_ite (kv9_ite (kv9_ite (kv9_bindv (kv9_st rfl (kr9_f_X12_sums N σ x1 17 1)) (fun p4 => (kv9_st rfl (kr9_f_X12_thing_74 N p4)))) (kv9_ite (kv9_bindv (kv9_st rfl (kr9_f_X12_sums N σ x1 17 1)) (fun p9 => (kv9_st rfl (kr9_f_X12_thing_74 N p9)))) (kv9_bindv (kv9_st rfl (kr9_f_X12_sums N σ x1 17 0)) (fun p7 => (kv9_st rfl (kr9_f_X12_thing_74 N p7)))))) (kv9_ite (kv9_ite (kv9_bindv (kv9_st rfl (kr9_f_X12_sums N σ x1 18 1)) (fun p13 => (kv9_st rfl (kr9_f_X12_thing_116 N p13)))) (kv9_ite (kv9_bindv (kv9_st rfl (kr9_f_X12_sums N σ x1 18 1)) (fun p16 => (kv9_st rfl (kr9_f_X12_thing_116 N p16)))) (kv9_ite (kv9_bindv (kv9_st rfl (kr9_f_X12_sums N σ x1 18 1)) (fun p21 => (kv9_st rfl (kr9_f_X12_thing_116 N p21)))) (kv9_bindv (kv9_st rfl (kr9_f_X12_sums N σ x1 18 0)) (fun p19 => (kv9_st rfl (kr9_f_X12_thing_116 N p19))))))) (kv9_ite (kv9_bindv (kv9_st rfl (kr9_f_X12_factor N σ x1)) (fun p24 => (kv9_some rfl))) (kv9_ite (kv9_bindv (kv9_st rfl (kr9_f_X12_arms N σ x1)) (fun p27 => (kv9_some rfl))) (kv9_ite (kv9_bindv (kv9_st rfl (kr9_f_X12_both N σ x1 21 305 11)) (fun p30 => (kv9_some rfl))) (kv9_ite (kv9_bindv (kv9_st rfl (kr9_f_X12_both N σ x1 22 304 12)) (fun p33 => (kv9_some rfl))) (kv9_bindv (kv9_st rfl (kr9_f_X12_one N σ x1)) (fun p35 => (kv9_some rfl))))))))) kv9_none)
theorem kr9_b_X12_parse_10 (N : Nat) (K : RS → Option (RS)) (hK : ∀ (σ : RS), KV9 σ (K σ)) (σ : RS) : KV9 σ (b_X12_parse_10 N K σ) := by
  unfold b_X12_parse_10
  exact (kv9_ite (kv9_some rfl) (kv9_ite (kv9_ite (kv9_ite (kv9_bindv (kv9_st rfl (kr9_f_X12_list N σ (σ.i 63))) (fun p7 => (kv9_st rfl (hK p7)))) (kv9_ite (kv9_bindv (kv9_st rfl (kr9_f_X12_stat N σ (σ.i 63))) (fun p10 => (kv9_st rfl (hK p10)))) (kv9_ite (kv9_bindv (kv9_st rfl (kr9_f_X12_block N σ (σ.i 63))) (fun p13 => (kv9_st rfl (hK p13)))) (kv9_ite (kv9_bindv (kv9_st rfl (kr9_f_X12_tell N σ (σ.i 63))) (fun p16 => (kv9_st rfl (hK p16)))) (kv9_ite (kv9_bindv (kv9_st rfl (kr9_f_X12_named N σ (σ.i 63))) (fun p19 => (kv9_st rfl (hK p19)))) (kv9_ite (kv9_bindv (kv9_st rfl (kr9_f_X12_ending N σ (σ.i 63))) (fun p22 => (kv9_st rfl (hK p22)))) (kv9_ite (kv9_bindv (kv9_st rfl (kr9_f_X12_throwing N σ (σ.i 63))) (fun p25 => (kv9_st rfl (hK p25)))) (kv9_ite (kv9_bindv (kv9_st rfl (kr9_f_X12_asserted N σ (σ.i 63))) (fun p28 => (kv9_st rfl (hK p28)))) (kv9_ite (kv9_bindv (kv9_st rfl (kr9_f_X12_branch N σ (σ.i 63))) (fun p31 => (kv9_st rfl (hK p31)))) (kv9_ite (kv9_bindv (kv9_st rfl (kr9_f_X12_whiles N σ (σ.i 63))) (fun p34 => (kv9_st rfl (hK p34)))) (kv9_ite (kv9_bindv (kv9_st rfl (kr9_f_X12_repeats N σ (σ.i 63))) (fun p37 => (kv9_st rfl (hK p37)))) (kv9_ite (kv9_bindv (kv9_st rfl (kr9_f_X12_fors N σ (σ.i 63))) (fun p40 => (kv9_st rfl (hK p40)))) (kv9_ite (kv9_bindv (kv9_st rfl (kr9_f_X12_lock N σ (σ.i 63))) (fun p43 => (kv9_st rfl (hK p43)))) (kv9_ite (kv9_bindv (kv9_st rfl (kr9_f_X12_groups N σ (σ.i 63))) (fun p46 => (kv9_st rfl (hK p46)))) (kv9_ite (kv9_bindv (kv9_st rfl (kr9_f_X12_trying N σ (σ.i 63))) (fun p49 => (kv9_st rfl (hK p49)))) (kv9_bindv (kv9_st rfl (kr9_f_X12_thing N σ (σ.i 63))) (fun p51 => (kv9_st rfl (hK p51))))))))))))))))))) kv9_none) (kv9_some rfl)))
theorem kr9_f_X12_parse_10 (N : Nat) : ∀ (n : Nat) (σ : RS), KV9 σ (f_X12_parse_10 N n σ )
  | 0, _ => kv9_none
  | n+1, σ => kr9_b_X12_parse_10 N (f_X12_parse_10 N n) (fun σ => kr9_f_X12_parse_10 N n σ) σ
theorem kr9_f_X12_parse (N : Nat) (σ : RS) : KV9 σ (f_X12_parse N σ) := by
  unfold f_X12_parse
  exact (kv9_bindv (kv9_st rfl (kr9_f_X12_push N (RS.setI σ 63 (-1)) 1)) (fun p1 => (kv9_st rfl (kr9_f_X12_parse_10 N N p1))))
theorem kr9_f_X12_fault (N : Nat) (σ : RS) : KR9 σ (f_X12_fault N σ) := by
  unfold f_X12_fault
  exact (kr9_some rfl)
theorem kr9_f_X12_program (N : Nat) (σ : RS) (x1 : Int32) : KR9 σ (f_X12_program N σ x1) := by
  unfold f_X12_program
  exact (kr9_bind (kr9_st rfl (kr9_f_X12_in N (RS.setI σ 0 0) x1 0 3)) (fun p1 => (kr9_ite (kr9_some rfl) (kr9_ite (kr9_some rfl) (kr9_ite (kr9_some rfl) (kr9_ite (kr9_ite (kr9_some rfl) (kr9_some rfl)) (kr9_ite (kr9_some rfl) (kr9_some rfl))))))))
theorem kr9_f_X12_row (N : Nat) (σ : RS) (x1 : Int32) (x2 : Int32) : KV9 σ (f_X12_row N σ x1 x2) := by
  unfold f_X12_row
  exact (kv9_ite (kv9_some rfl) (kv9_ite (kv9_some rfl) kv9_none))
theorem kr9_f_X12_record (N : Nat) (σ : RS) (x1 : Int32) (x2 : Int32) (x3 : Int32) (x4 : Int32) : KR9 σ (f_X12_record N σ x1 x2 x3 x4) := by
  unfold f_X12_record
  exact (kr9_ite (kr9_some rfl) kr9_none)
theorem kr9_f_X12_put (N : Nat) (σ : RS) (x1 : Int32) : KV9 σ (f_X12_put N σ x1) := by
  unfold f_X12_put
  exact (kv9_ite (kv9_some rfl) kv9_none)
theorem kr9_f_X12_take (N : Nat) (σ : RS) : KR9 σ (f_X12_take N σ) := by
  unfold f_X12_take
  exact (kr9_ite (kr9_some rfl) kr9_none)
theorem kr9_f_X12_raise_24 (N : Nat) (σ : RS) (x1 : Int32) (x2 : Int32) : KV9 σ (f_X12_raise_24 N σ x1 x2) := by
  unfold f_X12_raise_24
  exact (kv9_ite (kv9_some rfl) kv9_none)
theorem kr9_f_X12_raise (N : Nat) (σ : RS) (x1 : Int32) (x2 : Int32) : KV9 σ (f_X12_raise N σ x1 x2) := by
  unfold f_X12_raise
  exact (kv9_ite (kv9_st rfl (kr9_f_X12_raise_24 N (RS.setI σ 114 3199) x1 x2)) (kv9_st rfl (kr9_f_X12_raise_24 N (RS.setI σ 114 (σ.i 85)) x1 x2)))
theorem kr9_b_X12_closeAll_0 (N : Nat) (K : RS → Int32 → Option (RS)) (hK : ∀ (σ : RS) (y0 : Int32), KV9 σ (K σ y0)) (σ : RS) (x1 : Int32) : KV9 σ (b_X12_closeAll_0 N K σ x1) := by
  unfold b_X12_closeAll_0
  exact (kv9_ite (kv9_ite (kv9_some rfl) (kv9_ite (kv9_bindv (kv9_st rfl (kr9_f_X12_row N (RS.setI σ 95 ((σ.i 95) - 1)) 2 (σ.a 96 ((((σ.i 95) - 1) : Int32).toNatClampNeg)))) (fun p4 => (kv9_ite (kv9_ite (kv9_st rfl (hK p4 x1)) (kv9_ite (kv9_ite (kv9_ite (kv9_st rfl (hK p4 x1)) (kv9_ite (kv9_st rfl (hK (RS.setA (RS.setA (RS.setA p4 89 ((((8 * (p4.i 114)) + (p4.a 88 (((p4.i 114) : Int32).toNatClampNeg))) : Int32).toNatClampNeg) ((p4.a 7 (((σ.a 96 ((((σ.i 95) - 1) : Int32).toNatClampNeg)) : Int32).toNatClampNeg)) - 1)) 90 ((((8 * (p4.i 114)) + (p4.a 88 (((p4.i 114) : Int32).toNatClampNeg))) : Int32).toNatClampNeg) (σ.a 96 ((((σ.i 95) - 1) : Int32).toNatClampNeg))) 88 (((p4.i 114) : Int32).toNatClampNeg) ((p4.a 88 (((p4.i 114) : Int32).toNatClampNeg)) + 1)) x1)) kv9_none)) kv9_none) (kv9_bindv (kv9_st rfl (kr9_f_X12_raise N p4 ((p4.a 7 (((σ.a 96 ((((σ.i 95) - 1) : Int32).toNatClampNeg)) : Int32).toNatClampNeg)) - 1) (σ.a 96 ((((σ.i 95) - 1) : Int32).toNatClampNeg)))) (fun p14 => (kv9_st rfl (hK p14 x1)))))) kv9_none))) kv9_none)) kv9_none)
theorem kr9_f_X12_closeAll_0 (N : Nat) : ∀ (n : Nat) (σ : RS) (y0 : Int32), KV9 σ (f_X12_closeAll_0 N n σ y0)
  | 0, _, _ => kv9_none
  | n+1, σ, y0 => kr9_b_X12_closeAll_0 N (f_X12_closeAll_0 N n) (fun σ y0 => kr9_f_X12_closeAll_0 N n σ y0) σ y0
theorem kr9_f_X12_closeAll (N : Nat) (σ : RS) (x1 : Int32) : KV9 σ (f_X12_closeAll N σ x1) := by
  unfold f_X12_closeAll
  exact (kv9_st rfl (kr9_f_X12_closeAll_0 N N σ x1))
theorem kr9_f_X12_finals (N : Nat) (σ : RS) (x1 : Int32) : KR9 σ (f_X12_finals N σ x1) := by
  unfold f_X12_finals
  exact (kr9_ite (kr9_ite (kr9_ite (kr9_some rfl) (kr9_some rfl)) kr9_none) kr9_none)
theorem kr9_b_X12_isCaught_12 (N : Nat) (K : RS → Int32 → Int32 → Option (Int32 × RS)) (hK : ∀ (σ : RS) (y0 : Int32) (y1 : Int32), KR9 σ (K σ y0 y1)) (σ : RS) (x1 : Int32) (x2 : Int32) : KR9 σ (b_X12_isCaught_12 N K σ x1 x2) := by
  unfold b_X12_isCaught_12
  exact (kr9_ite (kr9_some rfl) (kr9_ite (kr9_ite (kr9_bind (kr9_st rfl (kr9_f_X12_isUnder N σ (σ.a 86 (((σ.i 114) : Int32).toNatClampNeg)) (σ.a 34 ((x2 : Int32).toNatClampNeg)))) (fun p6 => (kr9_ite (kr9_st rfl (hK p6.2 x1 (p6.2.a 37 ((x2 : Int32).toNatClampNeg)))) (kr9_ite (kr9_ite (kr9_some rfl) kr9_none) kr9_none)))) kr9_none) kr9_none))
theorem kr9_f_X12_isCaught_12 (N : Nat) : ∀ (n : Nat) (σ : RS) (y0 : Int32) (y1 : Int32), KR9 σ (f_X12_isCaught_12 N n σ y0 y1)
  | 0, _, _, _ => kr9_none
  | n+1, σ, y0, y1 => kr9_b_X12_isCaught_12 N (f_X12_isCaught_12 N n) (fun σ y0 y1 => kr9_f_X12_isCaught_12 N n σ y0 y1) σ y0 y1
theorem kr9_f_X12_isCaught (N : Nat) (σ : RS) (x1 : Int32) : KR9 σ (f_X12_isCaught N σ x1) := by
  unfold f_X12_isCaught
  exact (kr9_ite (kr9_ite (kr9_st rfl (kr9_f_X12_isCaught_12 N N σ x1 (σ.a 30 (((σ.a 101 ((x1 : Int32).toNatClampNeg)) : Int32).toNatClampNeg)))) kr9_none) kr9_none)
theorem kr9_b_X12_leave_0 (N : Nat) (K : RS → Option (RS)) (hK : ∀ (σ : RS), KV9 σ (K σ)) (σ : RS) : KV9 σ (b_X12_leave_0 N K σ) := by
  unfold b_X12_leave_0
  exact (kv9_ite (kv9_ite (kv9_some rfl) (kv9_ite (kv9_ite (kv9_bindv (kv9_st rfl (kr9_f_X12_row N σ 4 (σ.a 101 ((((σ.i 99) - 1) : Int32).toNatClampNeg)))) (fun p27 => (kv9_ite (kv9_st rfl (hK (RS.setI (RS.setA p27 91 (((p27.a 101 ((((σ.i 99) - 1) : Int32).toNatClampNeg)) : Int32).toNatClampNeg) ((p27.a 91 (((p27.a 101 ((((σ.i 99) - 1) : Int32).toNatClampNeg)) : Int32).toNatClampNeg)) - 1)) 99 ((p27.i 99) - 1)))) kv9_none))) (kv9_ite (kv9_st rfl (hK (RS.setI (RS.setI σ 97 (σ.a 101 ((((σ.i 99) - 1) : Int32).toNatClampNeg))) 99 ((σ.i 99) - 1)))) (kv9_ite (kv9_ite (kv9_bindv (kv9_st rfl (kr9_f_X12_closeAll N σ ((σ.i 99) - 1))) (fun p13 => (kv9_ite (kv9_bind (kr9_st rfl (kr9_f_X12_isCaught N p13 ((σ.i 99) - 1))) (fun p20 => (kv9_ite (kv9_ite (kv9_st rfl (hK (RS.setI p20.2 99 ((p20.2.i 99) - 1)))) (kv9_bind (kr9_st rfl (kr9_f_X12_finals N p20.2 ((σ.i 99) - 1))) (fun p24 => (kv9_ite (kv9_st rfl (hK (RS.setI p24.2 99 ((p24.2.i 99) - 1)))) (kv9_some rfl))))) (kv9_some rfl)))) (kv9_ite (kv9_st rfl (hK (RS.setI p13 99 ((p13.i 99) - 1)))) (kv9_bind (kr9_st rfl (kr9_f_X12_finals N p13 ((σ.i 99) - 1))) (fun p17 => (kv9_ite (kv9_st rfl (hK (RS.setI p17.2 99 ((p17.2.i 99) - 1)))) (kv9_some rfl)))))))) (kv9_ite (kv9_st rfl (hK (RS.setI σ 99 ((σ.i 99) - 1)))) (kv9_bind (kr9_st rfl (kr9_f_X12_finals N σ ((σ.i 99) - 1))) (fun p10 => (kv9_ite (kv9_st rfl (hK (RS.setI p10.2 99 ((p10.2.i 99) - 1)))) (kv9_some rfl)))))) (kv9_st rfl (hK (RS.setI σ 99 ((σ.i 99) - 1))))))) kv9_none)) (kv9_ite (kv9_ite (kv9_ite (kv9_bindv (kv9_st rfl (kr9_f_X12_put N (RS.setI (RS.setI σ 99 ((σ.i 99) - 1)) 93 (σ.a 104 ((((σ.i 99) - 1) : Int32).toNatClampNeg))) (σ.i 113))) (fun p64 => (kv9_ite (kv9_ite (kv9_some rfl) kv9_none) kv9_none))) kv9_none) (kv9_ite (kv9_ite (kv9_bindv (kv9_st rfl (kr9_f_X12_row N σ 4 (σ.a 101 ((((σ.i 99) - 1) : Int32).toNatClampNeg)))) (fun p91 => (kv9_ite (kv9_st rfl (hK (RS.setI (RS.setA p91 91 (((p91.a 101 ((((σ.i 99) - 1) : Int32).toNatClampNeg)) : Int32).toNatClampNeg) ((p91.a 91 (((p91.a 101 ((((σ.i 99) - 1) : Int32).toNatClampNeg)) : Int32).toNatClampNeg)) - 1)) 99 ((p91.i 99) - 1)))) kv9_none))) (kv9_ite (kv9_st rfl (hK (RS.setI (RS.setI σ 97 (σ.a 101 ((((σ.i 99) - 1) : Int32).toNatClampNeg))) 99 ((σ.i 99) - 1)))) (kv9_ite (kv9_ite (kv9_bindv (kv9_st rfl (kr9_f_X12_closeAll N σ ((σ.i 99) - 1))) (fun p77 => (kv9_ite (kv9_bind (kr9_st rfl (kr9_f_X12_isCaught N p77 ((σ.i 99) - 1))) (fun p84 => (kv9_ite (kv9_ite (kv9_st rfl (hK (RS.setI p84.2 99 ((p84.2.i 99) - 1)))) (kv9_bind (kr9_st rfl (kr9_f_X12_finals N p84.2 ((σ.i 99) - 1))) (fun p88 => (kv9_ite (kv9_st rfl (hK (RS.setI p88.2 99 ((p88.2.i 99) - 1)))) (kv9_some rfl))))) (kv9_some rfl)))) (kv9_ite (kv9_st rfl (hK (RS.setI p77 99 ((p77.i 99) - 1)))) (kv9_bind (kr9_st rfl (kr9_f_X12_finals N p77 ((σ.i 99) - 1))) (fun p81 => (kv9_ite (kv9_st rfl (hK (RS.setI p81.2 99 ((p81.2.i 99) - 1)))) (kv9_some rfl)))))))) (kv9_ite (kv9_st rfl (hK (RS.setI σ 99 ((σ.i 99) - 1)))) (kv9_bind (kr9_st rfl (kr9_f_X12_finals N σ ((σ.i 99) - 1))) (fun p74 => (kv9_ite (kv9_st rfl (hK (RS.setI p74.2 99 ((p74.2.i 99) - 1)))) (kv9_some rfl)))))) (kv9_st rfl (hK (RS.setI σ 99 ((σ.i 99) - 1))))))) kv9_none)) (kv9_ite (kv9_some rfl) (kv9_ite (kv9_ite (kv9_bindv (kv9_st rfl (kr9_f_X12_row N σ 4 (σ.a 101 ((((σ.i 99) - 1) : Int32).toNatClampNeg)))) (fun p57 => (kv9_ite (kv9_st rfl (hK (RS.setI (RS.setA p57 91 (((p57.a 101 ((((σ.i 99) - 1) : Int32).toNatClampNeg)) : Int32).toNatClampNeg) ((p57.a 91 (((p57.a 101 ((((σ.i 99) - 1) : Int32).toNatClampNeg)) : Int32).toNatClampNeg)) - 1)) 99 ((p57.i 99) - 1)))) kv9_none))) (kv9_ite (kv9_st rfl (hK (RS.setI (RS.setI σ 97 (σ.a 101 ((((σ.i 99) - 1) : Int32).toNatClampNeg))) 99 ((σ.i 99) - 1)))) (kv9_ite (kv9_ite (kv9_bindv (kv9_st rfl (kr9_f_X12_closeAll N σ ((σ.i 99) - 1))) (fun p43 => (kv9_ite (kv9_bind (kr9_st rfl (kr9_f_X12_isCaught N p43 ((σ.i 99) - 1))) (fun p50 => (kv9_ite (kv9_ite (kv9_st rfl (hK (RS.setI p50.2 99 ((p50.2.i 99) - 1)))) (kv9_bind (kr9_st rfl (kr9_f_X12_finals N p50.2 ((σ.i 99) - 1))) (fun p54 => (kv9_ite (kv9_st rfl (hK (RS.setI p54.2 99 ((p54.2.i 99) - 1)))) (kv9_some rfl))))) (kv9_some rfl)))) (kv9_ite (kv9_st rfl (hK (RS.setI p43 99 ((p43.i 99) - 1)))) (kv9_bind (kr9_st rfl (kr9_f_X12_finals N p43 ((σ.i 99) - 1))) (fun p47 => (kv9_ite (kv9_st rfl (hK (RS.setI p47.2 99 ((p47.2.i 99) - 1)))) (kv9_some rfl)))))))) (kv9_ite (kv9_st rfl (hK (RS.setI σ 99 ((σ.i 99) - 1)))) (kv9_bind (kr9_st rfl (kr9_f_X12_finals N σ ((σ.i 99) - 1))) (fun p40 => (kv9_ite (kv9_st rfl (hK (RS.setI p40.2 99 ((p40.2.i 99) - 1)))) (kv9_some rfl)))))) (kv9_st rfl (hK (RS.setI σ 99 ((σ.i 99) - 1))))))) kv9_none))))
theorem kr9_f_X12_leave_0 (N : Nat) : ∀ (n : Nat) (σ : RS), KV9 σ (f_X12_leave_0 N n σ )
  | 0, _ => kv9_none
  | n+1, σ => kr9_b_X12_leave_0 N (f_X12_leave_0 N n) (fun σ => kr9_f_X12_leave_0 N n σ) σ
theorem kr9_f_X12_leave (N : Nat) (σ : RS) : KV9 σ (f_X12_leave N σ) := by
  unfold f_X12_leave
  exact (kv9_st rfl (kr9_f_X12_leave_0 N N σ))
theorem kr9_f_X12_step (N : Nat) (σ : RS) : KV9 σ (f_X12_step N σ) := by
  unfold f_X12_step
  exact (kv9_ite (kv9_some rfl) (kv9_some rfl))
theorem kr9_f_X12_compute (N : Nat) (σ : RS) (x1 : Int32) (x2 : Int32) (x3 : Int32) : KR9 σ (f_X12_compute N σ x1 x2 x3) := by
  unfold f_X12_compute
  exact (kr9_ite (kr9_ite kr9_none (kr9_some rfl)) (kr9_ite (kr9_some rfl) (kr9_ite (kr9_some rfl) (kr9_ite (kr9_some rfl) (kr9_ite (kr9_ite kr9_none (kr9_some rfl)) (kr9_ite (kr9_ite (kr9_some rfl) (kr9_some rfl)) (kr9_ite (kr9_ite (kr9_some rfl) (kr9_some rfl)) (kr9_ite (kr9_ite (kr9_some rfl) (kr9_some rfl)) (kr9_ite (kr9_ite (kr9_some rfl) (kr9_some rfl)) (kr9_ite (kr9_ite (kr9_some rfl) (kr9_some rfl)) (kr9_ite (kr9_some rfl) (kr9_some rfl))))))))))))
theorem kr9_b_X12_caseOf_5 (N : Nat) (K : RS → Int32 → Int32 → Int32 → Option (Int32 × RS)) (hK : ∀ (σ : RS) (y0 : Int32) (y1 : Int32) (y2 : Int32), KR9 σ (K σ y0 y1 y2)) (σ : RS) (x2 : Int32) (x3 : Int32) (x4 : Int32) : KR9 σ (b_X12_caseOf_5 N K σ x2 x3 x4) := by
  unfold b_X12_caseOf_5
  exact (kr9_ite (kr9_some rfl) (kr9_ite (kr9_ite (kr9_ite (kr9_some rfl) (kr9_st rfl (hK σ x2 x3 (σ.a 27 ((x4 : Int32).toNatClampNeg))))) (kr9_st rfl (hK σ x2 x4 (σ.a 27 ((x4 : Int32).toNatClampNeg))))) kr9_none))
theorem kr9_f_X12_caseOf_5 (N : Nat) : ∀ (n : Nat) (σ : RS) (y0 : Int32) (y1 : Int32) (y2 : Int32), KR9 σ (f_X12_caseOf_5 N n σ y0 y1 y2)
  | 0, _, _, _, _ => kr9_none
  | n+1, σ, y0, y1, y2 => kr9_b_X12_caseOf_5 N (f_X12_caseOf_5 N n) (fun σ y0 y1 y2 => kr9_f_X12_caseOf_5 N n σ y0 y1 y2) σ y0 y1 y2
theorem kr9_f_X12_caseOf (N : Nat) (σ : RS) (x1 : Int32) (x2 : Int32) : KR9 σ (f_X12_caseOf N σ x1 x2) := by
  unfold f_X12_caseOf
  exact (kr9_st rfl (kr9_f_X12_caseOf_5 N N σ x2 (-1) x1))
theorem kr9_f_X12_goOn (N : Nat) (σ : RS) (x1 : Int32) : KV9 σ (f_X12_goOn N σ x1) := by
  unfold f_X12_goOn
  exact (kv9_bind (kr9_st rfl (kr9_f_X12_finals N σ x1)) (fun p1 => (kv9_ite (kv9_ite (kv9_ite (kv9_some rfl) kv9_none) kv9_none) (kv9_some rfl))))
theorem kr9_b_X12_others_85 (N : Nat) (K : RS → Int32 → Int32 → Int32 → Option (RS)) (hK : ∀ (σ : RS) (y0 : Int32) (y1 : Int32) (y2 : Int32), KV9 σ (K σ y0 y1 y2)) (σ : RS) (x2 : Int32) (x4 : Int32) (x5 : Int32) : KV9 σ (b_X12_others_85 N K σ x2 x4 x5) := by
  unfold b_X12_others_85
  exact (kv9_ite (kv9_bind (kr9_st rfl (kr9_f_X12_record N (RS.setI σ 93 ((σ.i 93) - x2)) 2 x4 x4 (σ.i 97))) (fun p4 => (kv9_some rfl))) (kv9_ite (kv9_ite (kv9_st rfl (hK (RS.setI (RS.setA σ 98 (((σ.i 97) : Int32).toNatClampNeg) (σ.a 94 (((((σ.i 93) - x2) + x5) : Int32).toNatClampNeg))) 97 ((σ.i 97) + 1)) x2 x4 (x5 + 1))) kv9_none) kv9_none))
theorem kr9_f_X12_others_85 (N : Nat) : ∀ (n : Nat) (σ : RS) (y0 : Int32) (y1 : Int32) (y2 : Int32), KV9 σ (f_X12_others_85 N n σ y0 y1 y2)
  | 0, _, _, _, _ => kv9_none
  | n+1, σ, y0, y1, y2 => kr9_b_X12_others_85 N (f_X12_others_85 N n) (fun σ y0 y1 y2 => kr9_f_X12_others_85 N n σ y0 y1 y2) σ y0 y1 y2
theorem kr9_f_X12_others (N : Nat) (σ : RS) (x1 : Int32) (x2 : Int32) : KV9 σ (f_X12_others N σ x1 x2) := by
  unfold f_X12_others
  exact (kv9_ite (kv9_ite (kv9_st rfl (kr9_f_X12_others_85 N N σ x2 (σ.i 97) 0)) (kv9_ite (kv9_ite (kv9_ite (kv9_some rfl) (kv9_bindv (kv9_st rfl (kr9_f_X12_step N σ)) (fun p11 => (kv9_ite (kv9_ite (kv9_some rfl) kv9_none) kv9_none)))) kv9_none) (kv9_ite (kv9_ite (kv9_some rfl) kv9_none) (kv9_ite (kv9_ite (kv9_ite (kv9_some rfl) (kv9_bindv (kv9_st rfl (kr9_f_X12_leave N (RS.setI (RS.setI (RS.setI (RS.setI (RS.setI (RS.setI σ 110 (σ.a 105 ((((σ.i 99) - 1) : Int32).toNatClampNeg))) 111 (σ.a 106 ((((σ.i 99) - 1) : Int32).toNatClampNeg))) 112 (σ.a 107 ((((σ.i 99) - 1) : Int32).toNatClampNeg))) 113 (σ.a 108 ((((σ.i 99) - 1) : Int32).toNatClampNeg))) 114 (σ.a 109 ((((σ.i 99) - 1) : Int32).toNatClampNeg))) 99 ((σ.i 99) - 1)))) (fun p20 => (kv9_some rfl)))) kv9_none) (kv9_ite (kv9_ite (kv9_ite (kv9_some rfl) (kv9_bindv (kv9_st rfl (kr9_f_X12_leave N (RS.setI (RS.setI (RS.setI (RS.setI (RS.setI (RS.setI σ 110 (σ.a 105 ((((σ.i 99) - 1) : Int32).toNatClampNeg))) 111 (σ.a 106 ((((σ.i 99) - 1) : Int32).toNatClampNeg))) 112 (σ.a 107 ((((σ.i 99) - 1) : Int32).toNatClampNeg))) 113 (σ.a 108 ((((σ.i 99) - 1) : Int32).toNatClampNeg))) 114 (σ.a 109 ((((σ.i 99) - 1) : Int32).toNatClampNeg))) 99 ((σ.i 99) - 1)))) (fun p25 => (kv9_some rfl)))) kv9_none) (kv9_ite (kv9_ite (kv9_ite (kv9_some rfl) (kv9_bindv (kv9_st rfl (kr9_f_X12_leave N (RS.setI (RS.setI (RS.setI (RS.setI (RS.setI (RS.setI σ 110 (σ.a 105 ((((σ.i 99) - 1) : Int32).toNatClampNeg))) 111 (σ.a 106 ((((σ.i 99) - 1) : Int32).toNatClampNeg))) 112 (σ.a 107 ((((σ.i 99) - 1) : Int32).toNatClampNeg))) 113 (σ.a 108 ((((σ.i 99) - 1) : Int32).toNatClampNeg))) 114 (σ.a 109 ((((σ.i 99) - 1) : Int32).toNatClampNeg))) 99 ((σ.i 99) - 1)))) (fun p30 => (kv9_some rfl)))) kv9_none) (kv9_ite (kv9_ite (kv9_ite (kv9_some rfl) (kv9_bindv (kv9_st rfl (kr9_f_X12_leave N (RS.setI (RS.setI (RS.setI (RS.setI (RS.setI (RS.setI σ 110 (σ.a 105 ((((σ.i 99) - 1) : Int32).toNatClampNeg))) 111 (σ.a 106 ((((σ.i 99) - 1) : Int32).toNatClampNeg))) 112 (σ.a 107 ((((σ.i 99) - 1) : Int32).toNatClampNeg))) 113 (σ.a 108 ((((σ.i 99) - 1) : Int32).toNatClampNeg))) 114 (σ.a 109 ((((σ.i 99) - 1) : Int32).toNatClampNeg))) 99 ((σ.i 99) - 1)))) (fun p35 => (kv9_some rfl)))) kv9_none) (kv9_ite (kv9_ite (kv9_ite (kv9_some rfl) (kv9_bindv (kv9_st rfl (kr9_f_X12_leave N (RS.setI (RS.setI (RS.setI (RS.setI (RS.setI (RS.setI σ 110 (σ.a 105 ((((σ.i 99) - 1) : Int32).toNatClampNeg))) 111 (σ.a 106 ((((σ.i 99) - 1) : Int32).toNatClampNeg))) 112 (σ.a 107 ((((σ.i 99) - 1) : Int32).toNatClampNeg))) 113 (σ.a 108 ((((σ.i 99) - 1) : Int32).toNatClampNeg))) 114 (σ.a 109 ((((σ.i 99) - 1) : Int32).toNatClampNeg))) 99 ((σ.i 99) - 1)))) (fun p40 => (kv9_some rfl)))) kv9_none) (kv9_ite (kv9_bind (kr9_st rfl (kr9_f_X12_record N σ 4 x2 0 (σ.i 95))) (fun p43 => (kv9_some rfl))) (kv9_ite (kv9_ite (kv9_ite (kv9_ite (kv9_bindv (kv9_st rfl (kr9_f_X12_row N σ 1 x2)) (fun p49 => (kv9_ite (kv9_some rfl) kv9_none))) (kv9_some rfl)) (kv9_bindv (kv9_st rfl (kr9_f_X12_raise N σ ((σ.a 6 ((x2 : Int32).toNatClampNeg)) - 1) x2)) (fun p52 => (kv9_bindv (kv9_st rfl (kr9_f_X12_leave N p52)) (fun p54 => (kv9_some rfl)))))) kv9_none) (kv9_ite (kv9_bindv (kv9_st rfl (kr9_f_X12_closeAll N (RS.setI σ 110 0) ((σ.i 99) - 1))) (fun p57 => (kv9_ite (kv9_bindv (kv9_st rfl (kr9_f_X12_leave N p57)) (fun p62 => (kv9_some rfl))) (kv9_bindv (kv9_st rfl (kr9_f_X12_goOn N p57 ((σ.i 99) - 1))) (fun p60 => (kv9_some rfl)))))) (kv9_ite (kv9_bindv (kv9_st rfl (kr9_f_X12_goOn N (RS.setI σ 110 0) ((σ.i 99) - 1))) (fun p65 => (kv9_some rfl))) (kv9_ite (kv9_ite (kv9_some rfl) (kv9_bindv (kv9_st rfl (kr9_f_X12_leave N (RS.setI (RS.setI (RS.setI (RS.setI (RS.setI (RS.setI σ 110 (σ.a 105 ((((σ.i 99) - 1) : Int32).toNatClampNeg))) 111 (σ.a 106 ((((σ.i 99) - 1) : Int32).toNatClampNeg))) 112 (σ.a 107 ((((σ.i 99) - 1) : Int32).toNatClampNeg))) 113 (σ.a 108 ((((σ.i 99) - 1) : Int32).toNatClampNeg))) 114 (σ.a 109 ((((σ.i 99) - 1) : Int32).toNatClampNeg))) 99 ((σ.i 99) - 1)))) (fun p69 => (kv9_some rfl)))) kv9_none))))))))))))) kv9_none)
theorem kr9_f_X12_ends_128 (N : Nat) (σ : RS) (x1 : Int32) : KV9 σ (f_X12_ends_128 N σ x1) := by
  unfold f_X12_ends_128
  exact (kv9_ite (kv9_bindv (kv9_st rfl (kr9_f_X12_leave N (RS.setI σ 112 (σ.a 23 ((x1 : Int32).toNatClampNeg))))) (fun p7 => (kv9_some rfl))) kv9_none)
theorem kr9_f_X12_ends_242 (N : Nat) (σ : RS) : KV9 σ (f_X12_ends_242 N σ) := by
  unfold f_X12_ends_242
  exact (kv9_some rfl)
theorem kr9_f_X12_ends_351 (N : Nat) (σ : RS) : KV9 σ (f_X12_ends_351 N σ) := by
  unfold f_X12_ends_351
  exact (kv9_some rfl)
theorem kr9_f_X12_ends (N : Nat) (σ : RS) (x1 : Int32) (x2 : Int32) : KV9 σ (f_X12_ends N σ x1 x2) := by
  unfold f_X12_ends
  exact (kv9_ite (kv9_ite (kv9_bind (kr9_st rfl (kr9_f_X12_take N σ)) (fun p3 => (kv9_ite (kv9_st rfl (kr9_f_X12_ends_128 N (RS.setI (RS.setI p3.2 113 p3.1) 110 2) x1)) (kv9_st rfl (kr9_f_X12_ends_128 N (RS.setI (RS.setI p3.2 113 p3.1) 110 4) x1))))) (kv9_ite (kv9_bind (kr9_st rfl (kr9_f_X12_take N σ)) (fun p10 => (kv9_ite (kv9_st rfl (kr9_f_X12_ends_128 N (RS.setI (RS.setI p10.2 113 p10.1) 110 2) x1)) (kv9_st rfl (kr9_f_X12_ends_128 N (RS.setI (RS.setI p10.2 113 p10.1) 110 4) x1))))) (kv9_ite (kv9_bind (kr9_st rfl (kr9_f_X12_take N σ)) (fun p14 => (kv9_bindv (kv9_st rfl (kr9_f_X12_raise N p14.2 x2 p14.1)) (fun p16 => (kv9_bindv (kv9_st rfl (kr9_f_X12_leave N p16)) (fun p18 => (kv9_some rfl))))))) (kv9_ite (kv9_bindv (kv9_st rfl (kr9_f_X12_raise N σ x2 0)) (fun p21 => (kv9_bindv (kv9_st rfl (kr9_f_X12_leave N p21)) (fun p23 => (kv9_some rfl))))) (kv9_ite (kv9_ite (kv9_bindv (kv9_st rfl (kr9_f_X12_leave N (RS.setI (RS.setI σ 114 (σ.a 84 ((x2 : Int32).toNatClampNeg))) 110 3))) (fun p27 => (kv9_some rfl))) kv9_none) (kv9_ite (kv9_ite (kv9_st rfl (kr9_f_X12_ends_242 N (RS.setI σ 92 x2))) (kv9_st rfl (kr9_f_X12_ends_242 N (RS.setI σ 92 (σ.i 92))))) (kv9_ite (kv9_bindv (kv9_st rfl (kr9_f_X12_others N σ x1 x2)) (fun p32 => (kv9_some rfl))) (kv9_ite (kv9_bindv (kv9_st rfl (kr9_f_X12_others N σ x1 x2)) (fun p35 => (kv9_some rfl))) (kv9_ite (kv9_bindv (kv9_st rfl (kr9_f_X12_others N σ x1 x2)) (fun p38 => (kv9_some rfl))) (kv9_ite (kv9_bindv (kv9_st rfl (kr9_f_X12_row N σ 3 x2)) (fun p41 => (kv9_ite (kv9_bind (kr9_st rfl (kr9_f_X12_record N (RS.setA p41 91 ((x2 : Int32).toNatClampNeg) ((p41.a 91 ((x2 : Int32).toNatClampNeg)) + 1)) 1 x2 0 0)) (fun p44 => (kv9_some rfl))) kv9_none))) (kv9_ite (kv9_ite (kv9_bindv (kv9_st rfl (kr9_f_X12_row N (RS.setI σ 99 ((σ.i 99) - 1)) 4 (σ.a 101 ((((σ.i 99) - 1) : Int32).toNatClampNeg)))) (fun p48 => (kv9_ite (kv9_ite (kv9_some rfl) kv9_none) kv9_none))) kv9_none) (kv9_ite (kv9_bind (kr9_st rfl (kr9_f_X12_take N σ)) (fun p53 => (kv9_bind (kr9_st rfl (kr9_f_X12_caseOf N p53.2 x2 p53.1)) (fun p55 => (kv9_ite (kv9_ite (kv9_st rfl (kr9_f_X12_ends_351 N (RS.setI p55.2 92 (p55.2.a 26 ((p55.1 : Int32).toNatClampNeg))))) kv9_none) (kv9_st rfl (kr9_f_X12_ends_351 N (RS.setI p55.2 92 (p55.2.a 23 ((x1 : Int32).toNatClampNeg)))))))))) (kv9_ite (kv9_bind (kr9_st rfl (kr9_f_X12_take N σ)) (fun p60 => (kv9_bind (kr9_st rfl (kr9_f_X12_caseOf N p60.2 x2 p60.1)) (fun p62 => (kv9_bind (kr9_st rfl (kr9_f_X12_record N p62.2 3 x1 0 0)) (fun p64 => (kv9_ite (kv9_some rfl) kv9_none))))))) (kv9_ite (kv9_ite (kv9_ite (kv9_some rfl) kv9_none) kv9_none) (kv9_ite (kv9_bindv (kv9_st rfl (kr9_f_X12_others N σ x1 x2)) (fun p71 => (kv9_some rfl))) (kv9_ite (kv9_bindv (kv9_st rfl (kr9_f_X12_others N σ x1 x2)) (fun p74 => (kv9_some rfl))) (kv9_ite (kv9_bindv (kv9_st rfl (kr9_f_X12_others N σ x1 x2)) (fun p77 => (kv9_some rfl))) (kv9_ite (kv9_bindv (kv9_st rfl (kr9_f_X12_others N σ x1 x2)) (fun p80 => (kv9_some rfl))) (kv9_ite (kv9_bindv (kv9_st rfl (kr9_f_X12_others N σ x1 x2)) (fun p83 => (kv9_some rfl))) (kv9_ite (kv9_bindv (kv9_st rfl (kr9_f_X12_leave N (RS.setI (RS.setI (RS.setI σ 110 1) 111 x2) 112 (σ.a 23 ((x1 : Int32).toNatClampNeg))))) (fun p86 => (kv9_some rfl))) (kv9_bindv (kv9_st rfl (kr9_f_X12_others N σ x1 x2)) (fun p88 => (kv9_some rfl))))))))))))))))))))))) kv9_none)
theorem kr9_f_X12_act_229 (N : Nat) (σ : RS) (x2 : Int32) (x3 : Int32) (x4 : Int32) : KV9 σ (f_X12_act_229 N σ x2 x3 x4) := by
  unfold f_X12_act_229
  exact (kv9_bind (kr9_st rfl (kr9_f_X12_compute N σ x2 x4 x3)) (fun p35 => (kv9_bindv (kv9_st rfl (kr9_f_X12_put N p35.2 p35.1)) (fun p37 => (kv9_some rfl)))))
theorem kr9_f_X12_act_212 (N : Nat) (σ : RS) (x2 : Int32) (x3 : Int32) (x4 : Int32) : KV9 σ (f_X12_act_212 N σ x2 x3 x4) := by
  unfold f_X12_act_212
  exact (kv9_ite (kv9_bindv (kv9_st rfl (kr9_f_X12_raise N σ 2 0)) (fun p39 => (kv9_bindv (kv9_st rfl (kr9_f_X12_leave N p39)) (fun p41 => (kv9_some rfl))))) (kv9_st rfl (kr9_f_X12_act_229 N σ x2 x3 x4)))
theorem kr9_f_X12_act_290 (N : Nat) (σ : RS) : KV9 σ (f_X12_act_290 N σ) := by
  unfold f_X12_act_290
  exact (kv9_some rfl)
theorem kr9_f_X12_act_282 (N : Nat) (σ : RS) (x2 : Int32) : KV9 σ (f_X12_act_282 N σ x2) := by
  unfold f_X12_act_282
  exact (kv9_some rfl)
theorem kr9_f_X12_act_322 (N : Nat) (σ : RS) : KV9 σ (f_X12_act_322 N σ) := by
  unfold f_X12_act_322
  exact (kv9_some rfl)
theorem kr9_f_X12_act_344 (N : Nat) (σ : RS) : KV9 σ (f_X12_act_344 N σ) := by
  unfold f_X12_act_344
  exact (kv9_some rfl)
theorem kr9_f_X12_act (N : Nat) (σ : RS) (x1 : Int32) : KV9 σ (f_X12_act N σ x1) := by
  unfold f_X12_act
  exact (kv9_ite (kv9_ite (kv9_bindv (kv9_st rfl (kr9_f_X12_step N σ)) (fun p3 => (kv9_some rfl))) (kv9_ite (kv9_bindv (kv9_st rfl (kr9_f_X12_put N σ (σ.a 22 ((x1 : Int32).toNatClampNeg)))) (fun p6 => (kv9_some rfl))) (kv9_ite (kv9_ite (kv9_bindv (kv9_st rfl (kr9_f_X12_put N σ (σ.a 84 (((σ.a 22 ((x1 : Int32).toNatClampNeg)) : Int32).toNatClampNeg)))) (fun p10 => (kv9_some rfl))) kv9_none) (kv9_ite (kv9_ite (kv9_ite (kv9_bindv (kv9_st rfl (kr9_f_X12_put N σ (σ.a 87 (((σ.a 84 (((σ.a 22 ((x1 : Int32).toNatClampNeg)) : Int32).toNatClampNeg)) : Int32).toNatClampNeg)))) (fun p15 => (kv9_some rfl))) kv9_none) kv9_none) (kv9_ite (kv9_bind (kr9_st rfl (kr9_f_X12_take N σ)) (fun p18 => (kv9_ite (kv9_some rfl) kv9_none))) (kv9_ite (kv9_ite (kv9_some rfl) kv9_none) (kv9_ite (kv9_bind (kr9_st rfl (kr9_f_X12_take N σ)) (fun p24 => (kv9_bindv (kv9_st rfl (kr9_f_X12_put N p24.2 (-p24.1))) (fun p26 => (kv9_some rfl))))) (kv9_ite (kv9_bind (kr9_st rfl (kr9_f_X12_take N σ)) (fun p29 => (kv9_bind (kr9_st rfl (kr9_f_X12_take N p29.2)) (fun p31 => (kv9_ite (kv9_st rfl (kr9_f_X12_act_212 N p31.2 (σ.a 22 ((x1 : Int32).toNatClampNeg)) p29.1 p31.1)) (kv9_ite (kv9_st rfl (kr9_f_X12_act_212 N p31.2 (σ.a 22 ((x1 : Int32).toNatClampNeg)) p29.1 p31.1)) (kv9_st rfl (kr9_f_X12_act_229 N p31.2 (σ.a 22 ((x1 : Int32).toNatClampNeg)) p29.1 p31.1)))))))) (kv9_ite (kv9_bind (kr9_st rfl (kr9_f_X12_take N σ)) (fun p45 => (kv9_bind (kr9_st rfl (kr9_f_X12_take N p45.2)) (fun p47 => (kv9_ite (kv9_st rfl (kr9_f_X12_act_212 N p47.2 (σ.a 22 ((x1 : Int32).toNatClampNeg)) p45.1 p47.1)) (kv9_ite (kv9_st rfl (kr9_f_X12_act_212 N p47.2 (σ.a 22 ((x1 : Int32).toNatClampNeg)) p45.1 p47.1)) (kv9_st rfl (kr9_f_X12_act_229 N p47.2 (σ.a 22 ((x1 : Int32).toNatClampNeg)) p45.1 p47.1)))))))) (kv9_ite (kv9_bind (kr9_st rfl (kr9_f_X12_take N σ)) (fun p52 => (kv9_bindv (kv9_st rfl (kr9_f_X12_put N p52.2 (1 - p52.1))) (fun p54 => (kv9_some rfl))))) (kv9_ite (kv9_ite (kv9_ite (kv9_st rfl (kr9_f_X12_act_290 N σ)) (kv9_st rfl (kr9_f_X12_act_282 N σ (σ.a 22 ((x1 : Int32).toNatClampNeg))))) kv9_none) (kv9_ite (kv9_ite (kv9_ite (kv9_st rfl (kr9_f_X12_act_282 N σ (σ.a 22 ((x1 : Int32).toNatClampNeg)))) (kv9_st rfl (kr9_f_X12_act_290 N σ))) kv9_none) (kv9_ite (kv9_bind (kr9_st rfl (kr9_f_X12_take N σ)) (fun p67 => (kv9_ite (kv9_st rfl (kr9_f_X12_act_322 N (RS.setI p67.2 92 (σ.a 22 ((x1 : Int32).toNatClampNeg))))) (kv9_st rfl (kr9_f_X12_act_322 N (RS.setI p67.2 92 (p67.2.i 92))))))) (kv9_ite (kv9_bind (kr9_st rfl (kr9_f_X12_take N σ)) (fun p71 => (kv9_ite (kv9_st rfl (kr9_f_X12_act_344 N (RS.setI p71.2 92 (p71.2.i 92)))) (kv9_st rfl (kr9_f_X12_act_344 N (RS.setI p71.2 92 (σ.a 22 ((x1 : Int32).toNatClampNeg)))))))) (kv9_ite (kv9_some rfl) (kv9_ite (kv9_bind (kr9_st rfl (kr9_f_X12_take N σ)) (fun p76 => (kv9_bindv (kv9_st rfl (kr9_f_X12_row N p76.2 0 p76.1)) (fun p78 => (kv9_some rfl))))) (kv9_bindv (kv9_st rfl (kr9_f_X12_ends N σ x1 (σ.a 22 ((x1 : Int32).toNatClampNeg)))) (fun p80 => (kv9_some rfl))))))))))))))))))) kv9_none)
theorem kr9_f_X12_run_163 (N : Nat) (σ : RS) : KR9 σ (f_X12_run_163 N σ) := by
  unfold f_X12_run_163
  exact (kr9_ite (kr9_some rfl) (kr9_ite (kr9_some rfl) (kr9_ite (kr9_some rfl) (kr9_some rfl))))
theorem kr9_b_X12_run_122 (N : Nat) (K : RS → Option (Int32 × RS)) (hK : ∀ (σ : RS), KR9 σ (K σ)) (σ : RS) : KR9 σ (b_X12_run_122 N K σ) := by
  unfold b_X12_run_122
  exact (kr9_ite (kr9_st rfl (kr9_f_X12_run_163 N σ)) (kr9_ite (kr9_st rfl (kr9_f_X12_run_163 N σ)) (kr9_bindv (kv9_st rfl (kr9_f_X12_act N (RS.setI σ 92 ((σ.i 92) + 1)) (σ.i 92))) (fun p9 => (kr9_st rfl (hK p9))))))
theorem kr9_f_X12_run_122 (N : Nat) : ∀ (n : Nat) (σ : RS), KR9 σ (f_X12_run_122 N n σ )
  | 0, _ => kr9_none
  | n+1, σ => kr9_b_X12_run_122 N (f_X12_run_122 N n) (fun σ => kr9_f_X12_run_122 N n σ) σ
theorem kr9_b_X12_run_39 (N : Nat) (K : RS → Int32 → Int32 → Int32 → Option (Int32 × RS)) (hK : ∀ (σ : RS) (y0 : Int32) (y1 : Int32) (y2 : Int32), KR9 σ (K σ y0 y1 y2)) (σ : RS) (x1 : Int32) (x2 : Int32) (x3 : Int32) : KR9 σ (b_X12_run_39 N K σ x1 x2 x3) := by
  unfold b_X12_run_39
  exact (kr9_ite (kr9_st rfl (kr9_f_X12_run_122 N N (RS.setI (RS.setI (RS.setI (RS.setI (RS.setI (RS.setI (RS.setI (RS.setI (RS.setI (RS.setI (RS.setA (RS.setA σ 84 ((0 : Int32).toNatClampNeg) x1) 84 ((1 : Int32).toNatClampNeg) x2) 80 0) 81 0) 85 0) 95 0) 97 0) 99 0) 93 0) 79 1) 115 0) 92 0))) (kr9_ite (kr9_st rfl (hK (RS.setA σ 91 ((x3 : Int32).toNatClampNeg) 0) x1 x2 (x3 + 1))) kr9_none))
theorem kr9_f_X12_run_39 (N : Nat) : ∀ (n : Nat) (σ : RS) (y0 : Int32) (y1 : Int32) (y2 : Int32), KR9 σ (f_X12_run_39 N n σ y0 y1 y2)
  | 0, _, _, _, _ => kr9_none
  | n+1, σ, y0, y1, y2 => kr9_b_X12_run_39 N (f_X12_run_39 N n) (fun σ y0 y1 y2 => kr9_f_X12_run_39 N n σ y0 y1 y2) σ y0 y1 y2
theorem kr9_b_X12_run_17 (N : Nat) (K : RS → Int32 → Int32 → Int32 → Option (Int32 × RS)) (hK : ∀ (σ : RS) (y0 : Int32) (y1 : Int32) (y2 : Int32), KR9 σ (K σ y0 y1 y2)) (σ : RS) (x1 : Int32) (x2 : Int32) (x3 : Int32) : KR9 σ (b_X12_run_17 N K σ x1 x2 x3) := by
  unfold b_X12_run_17
  exact (kr9_ite (kr9_st rfl (kr9_f_X12_run_39 N N σ x1 x2 0)) (kr9_ite (kr9_st rfl (hK (RS.setA σ 84 ((x3 : Int32).toNatClampNeg) 0) x1 x2 (x3 + 1))) kr9_none))
theorem kr9_f_X12_run_17 (N : Nat) : ∀ (n : Nat) (σ : RS) (y0 : Int32) (y1 : Int32) (y2 : Int32), KR9 σ (f_X12_run_17 N n σ y0 y1 y2)
  | 0, _, _, _, _ => kr9_none
  | n+1, σ, y0, y1, y2 => kr9_b_X12_run_17 N (f_X12_run_17 N n) (fun σ y0 y1 y2 => kr9_f_X12_run_17 N n σ y0 y1 y2) σ y0 y1 y2
theorem kr9_f_X12_run (N : Nat) (σ : RS) (x1 : Int32) (x2 : Int32) : KR9 σ (f_X12_run N σ x1 x2) := by
  unfold f_X12_run
  exact (kr9_ite (kr9_some rfl) (kr9_st rfl (kr9_f_X12_run_17 N N (RS.setI σ 0 0) x1 x2 0)))
theorem kr9_b_X12_ran_168 (N : Nat) (K : RS → Int32 → Int32 → Option (Int32 × RS)) (hK : ∀ (σ : RS) (y0 : Int32) (y1 : Int32), KR9 σ (K σ y0 y1)) (σ : RS) (x3 : Int32) (x4 : Int32) : KR9 σ (b_X12_ran_168 N K σ x3 x4) := by
  unfold b_X12_ran_168
  exact (kr9_ite (kr9_some rfl) (kr9_ite (kr9_st rfl (hK σ (x3 + (σ.a 91 ((x4 : Int32).toNatClampNeg))) (x4 + 1))) kr9_none))
theorem kr9_f_X12_ran_168 (N : Nat) : ∀ (n : Nat) (σ : RS) (y0 : Int32) (y1 : Int32), KR9 σ (f_X12_ran_168 N n σ y0 y1)
  | 0, _, _, _ => kr9_none
  | n+1, σ, y0, y1 => kr9_b_X12_ran_168 N (f_X12_ran_168 N n) (fun σ y0 y1 => kr9_f_X12_ran_168 N n σ y0 y1) σ y0 y1
theorem kr9_f_X12_ran_41 (N : Nat) (σ : RS) (x1 : Int32) (x2 : Int32) : KR9 σ (f_X12_ran_41 N σ x1 x2) := by
  unfold f_X12_ran_41
  exact (kr9_ite (kr9_some rfl) (kr9_ite (kr9_some rfl) (kr9_ite (kr9_ite (kr9_some rfl) (kr9_some rfl)) (kr9_ite (kr9_ite (kr9_some rfl) (kr9_ite (kr9_some rfl) kr9_none)) (kr9_ite (kr9_ite (kr9_some rfl) (kr9_ite (kr9_some rfl) kr9_none)) (kr9_ite (kr9_ite (kr9_some rfl) (kr9_ite (kr9_some rfl) kr9_none)) (kr9_st rfl (kr9_f_X12_ran_168 N N σ 0 0))))))))
theorem kr9_f_X12_ran (N : Nat) (σ : RS) (x1 : Int32) : KR9 σ (f_X12_ran N σ x1) := by
  unfold f_X12_ran
  exact (kr9_bind (kr9_st rfl (kr9_f_X12_in N (RS.setI σ 0 0) x1 0 6)) (fun p1 => (kr9_ite (kr9_some rfl) (kr9_ite (kr9_some rfl) (kr9_ite (kr9_st rfl (kr9_f_X12_ran_41 N p1.2 x1 1)) (kr9_st rfl (kr9_f_X12_ran_41 N p1.2 x1 0)))))))
theorem kr9_f_X12_trace_35 (N : Nat) (σ : RS) : KR9 σ (f_X12_trace_35 N σ) := by
  unfold f_X12_trace_35
  exact (kr9_some rfl)
theorem kr9_f_X12_trace (N : Nat) (σ : RS) (x1 : Int32) (x2 : Int32) : KR9 σ (f_X12_trace N σ x1 x2) := by
  unfold f_X12_trace
  exact (kr9_ite (kr9_st rfl (kr9_f_X12_trace_35 N (RS.setI σ 0 0))) (kr9_bind (kr9_st rfl (kr9_f_X12_in N (RS.setI σ 0 0) x1 0 ((σ.i 81) - 1))) (fun p2 => (kr9_ite (kr9_st rfl (kr9_f_X12_trace_35 N p2.2)) (kr9_bind (kr9_st rfl (kr9_f_X12_in N p2.2 x2 0 1)) (fun p5 => (kr9_ite (kr9_st rfl (kr9_f_X12_trace_35 N p5.2)) (kr9_ite (kr9_ite (kr9_some rfl) kr9_none) (kr9_ite (kr9_some rfl) kr9_none)))))))))
theorem kr9_f_X12_suppressed_48 (N : Nat) (σ : RS) : KR9 σ (f_X12_suppressed_48 N σ) := by
  unfold f_X12_suppressed_48
  exact (kr9_some rfl)
theorem kr9_f_X12_suppressed (N : Nat) (σ : RS) (x1 : Int32) (x2 : Int32) : KR9 σ (f_X12_suppressed N σ x1 x2) := by
  unfold f_X12_suppressed
  exact (kr9_ite (kr9_st rfl (kr9_f_X12_suppressed_48 N (RS.setI σ 0 0))) (kr9_ite (kr9_ite (kr9_bind (kr9_st rfl (kr9_f_X12_in N (RS.setI σ 0 0) x1 0 ((σ.a 88 (((σ.i 114) : Int32).toNatClampNeg)) - 1))) (fun p4 => (kr9_ite (kr9_st rfl (kr9_f_X12_suppressed_48 N p4.2)) (kr9_bind (kr9_st rfl (kr9_f_X12_in N p4.2 x2 0 1)) (fun p7 => (kr9_ite (kr9_st rfl (kr9_f_X12_suppressed_48 N p7.2)) (kr9_ite (kr9_ite (kr9_some rfl) kr9_none) (kr9_ite (kr9_some rfl) kr9_none)))))))) kr9_none) (kr9_st rfl (kr9_f_X12_suppressed_48 N (RS.setI σ 0 0)))))
theorem kr9_f_X12_rounds_13 (N : Nat) (σ : RS) : KR9 σ (f_X12_rounds_13 N σ) := by
  unfold f_X12_rounds_13
  exact (kr9_some rfl)
theorem kr9_f_X12_rounds (N : Nat) (σ : RS) (x1 : Int32) (x2 : Int32) : KR9 σ (f_X12_rounds N σ x1 x2) := by
  unfold f_X12_rounds
  exact (kr9_ite (kr9_st rfl (kr9_f_X12_rounds_13 N (RS.setI σ 0 0))) (kr9_ite (kr9_ite (kr9_some rfl) (kr9_ite kr9_none (kr9_ite (kr9_some rfl) (kr9_some rfl)))) (kr9_st rfl (kr9_f_X12_rounds_13 N (RS.setI σ 0 0)))))
/-! the reference: what its reading leaves alone -/
def pRc (s : RS) : Int32 × Int32 × Int32 × Int32 × Int32 × (Nat → Int32) := (s.i 53, s.i 54, s.i 55, s.i 77, s.i 78, s.a 1)
def KS7 (s r : RS) : Prop := pRc r = pRc s
theorem KS7.tr {s r u : RS} (h : KS7 s r) (g : KS7 r u) : KS7 s u := Eq.trans g h
def KR7 {α : Type} (s : RS) (t : Option (α × RS)) : Prop := ∀ R, t = some R → KS7 s R.2
def KV7 (s : RS) (t : Option RS) : Prop := ∀ R, t = some R → KS7 s R
theorem kr7_some {α : Type} {s : RS} {r : α × RS} (h : KS7 s r.2) : KR7 s (some r) := fun R q => by
  cases q
  exact h
theorem kv7_some {s r : RS} (h : KS7 s r) : KV7 s (some r) := fun R q => by
  cases q
  exact h
theorem kr7_none {α : Type} {s : RS} : KR7 s (none : Option (α × RS)) := fun R q => by cases q
theorem kv7_none {s : RS} : KV7 s (none : Option RS) := fun R q => by cases q
theorem kr7_ite {α : Type} {s : RS} {c : Prop} [Decidable c] {x y : Option (α × RS)} (hx : KR7 s x) (hy : KR7 s y) : KR7 s (if c then x else y) := by
  by_cases h : c
  · rw [if_pos h]; exact hx
  · rw [if_neg h]; exact hy
theorem kv7_ite {s : RS} {c : Prop} [Decidable c] {x y : Option RS} (hx : KV7 s x) (hy : KV7 s y) : KV7 s (if c then x else y) := by
  by_cases h : c
  · rw [if_pos h]; exact hx
  · rw [if_neg h]; exact hy
theorem kr7_st {α : Type} {s r : RS} {t : Option (α × RS)} (h : KS7 s r) (g : KR7 r t) : KR7 s t := fun R q => h.tr (g R q)
theorem kv7_st {s r : RS} {t : Option RS} (h : KS7 s r) (g : KV7 r t) : KV7 s t := fun R q => h.tr (g R q)
theorem kr7_bind {α β : Type} {s : RS} {x : Option (α × RS)} {k : α × RS → Option (β × RS)} (hx : KR7 s x) (hk : ∀ p : α × RS, KR7 p.2 (k p)) : KR7 s (x.bind k) := by
  intro R h
  obtain ⟨p, h1, h2⟩ := hf_bind h
  exact (hx p h1).tr (hk p R h2)
theorem kr7_bindv {β : Type} {s : RS} {x : Option RS} {k : RS → Option (β × RS)} (hx : KV7 s x) (hk : ∀ p : RS, KR7 p (k p)) : KR7 s (x.bind k) := by
  intro R h
  obtain ⟨p, h1, h2⟩ := hf_bind h
  exact (hx p h1).tr (hk p R h2)
theorem kv7_bind {α : Type} {s : RS} {x : Option (α × RS)} {k : α × RS → Option RS} (hx : KR7 s x) (hk : ∀ p : α × RS, KV7 p.2 (k p)) : KV7 s (x.bind k) := by
  intro R h
  obtain ⟨p, h1, h2⟩ := hf_bind h
  exact (hx p h1).tr (hk p R h2)
theorem kv7_bindv {s : RS} {x : Option RS} {k : RS → Option RS} (hx : KV7 s x) (hk : ∀ p : RS, KV7 p (k p)) : KV7 s (x.bind k) := by
  intro R h
  obtain ⟨p, h1, h2⟩ := hf_bind h
  exact (hx p h1).tr (hk p R h2)
theorem kr7_f_X12_thrown (N : Nat) (σ : RS) : KR7 σ (f_X12_thrown N σ) := by
  unfold f_X12_thrown
  exact (kr7_some rfl)
theorem kr7_f_X12_in_14 (N : Nat) (σ : RS) : KR7 σ (f_X12_in_14 N σ) := by
  unfold f_X12_in_14
  exact (kr7_some rfl)
theorem kr7_f_X12_in (N : Nat) (σ : RS) (x0 : Int32) (x1 : Int32) (x2 : Int32) : KR7 σ (f_X12_in N σ x0 x1 x2) := by
  unfold f_X12_in
  exact (kr7_ite (kr7_st rfl (kr7_f_X12_in_14 N σ)) (kr7_ite (kr7_st rfl (kr7_f_X12_in_14 N σ)) (kr7_some rfl)))
theorem kr7_f_X12_isUnder_21 (N : Nat) (σ : RS) (x2 : Int32) (x3 : Int32) : KR7 σ (f_X12_isUnder_21 N σ x2 x3) := by
  unfold f_X12_isUnder_21
  exact (kr7_ite (kr7_some rfl) (kr7_some rfl))
theorem kr7_b_X12_isUnder_2 (N : Nat) (K : RS → Int32 → Int32 → Option (Int32 × RS)) (hK : ∀ (σ : RS) (y0 : Int32) (y1 : Int32), KR7 σ (K σ y0 y1)) (σ : RS) (x2 : Int32) (x3 : Int32) : KR7 σ (b_X12_isUnder_2 N K σ x2 x3) := by
  unfold b_X12_isUnder_2
  exact (kr7_ite (kr7_st rfl (kr7_f_X12_isUnder_21 N σ x2 x3)) (kr7_ite (kr7_st rfl (kr7_f_X12_isUnder_21 N σ x2 x3)) (kr7_ite (kr7_st rfl (hK σ x2 (σ.a 4 ((x3 : Int32).toNatClampNeg)))) kr7_none)))
theorem kr7_f_X12_isUnder_2 (N : Nat) : ∀ (n : Nat) (σ : RS) (y0 : Int32) (y1 : Int32), KR7 σ (f_X12_isUnder_2 N n σ y0 y1)
  | 0, _, _, _ => kr7_none
  | n+1, σ, y0, y1 => kr7_b_X12_isUnder_2 N (f_X12_isUnder_2 N n) (fun σ y0 y1 => kr7_f_X12_isUnder_2 N n σ y0 y1) σ y0 y1
theorem kr7_f_X12_isUnder (N : Nat) (σ : RS) (x1 : Int32) (x2 : Int32) : KR7 σ (f_X12_isUnder N σ x1 x2) := by
  unfold f_X12_isUnder
  exact (kr7_st rfl (kr7_f_X12_isUnder_2 N N σ x2 x1))
theorem kr7_f_X12_under_33 (N : Nat) (σ : RS) : KR7 σ (f_X12_under_33 N σ) := by
  unfold f_X12_under_33
  exact (kr7_some rfl)
theorem kr7_f_X12_under (N : Nat) (σ : RS) (x1 : Int32) (x2 : Int32) : KR7 σ (f_X12_under N σ x1 x2) := by
  unfold f_X12_under
  exact (kr7_bind (kr7_st rfl (kr7_f_X12_in N (RS.setI σ 0 0) x1 0 ((σ.i 3) - 1))) (fun p1 => (kr7_ite (kr7_st rfl (kr7_f_X12_under_33 N p1.2)) (kr7_bind (kr7_st rfl (kr7_f_X12_in N p1.2 x2 0 ((p1.2.i 3) - 1))) (fun p4 => (kr7_ite (kr7_st rfl (kr7_f_X12_under_33 N p4.2)) (kr7_bind (kr7_st rfl (kr7_f_X12_isUnder N p4.2 x1 x2)) (fun p7 => (kr7_ite (kr7_some rfl) (kr7_some rfl))))))))))
theorem kr7_f_X12_resource_53 (N : Nat) (σ : RS) : KR7 σ (f_X12_resource_53 N σ) := by
  unfold f_X12_resource_53
  exact (kr7_some rfl)
theorem kr7_f_X12_resource_71 (N : Nat) (σ : RS) (x1 : Int32) (x3 : Int32) (x4 : Int32) : KR7 σ (f_X12_resource_71 N σ x1 x3 x4) := by
  unfold f_X12_resource_71
  exact (kr7_ite (kr7_some rfl) kr7_none)
theorem kr7_f_X12_resource (N : Nat) (σ : RS) (x1 : Int32) (x2 : Int32) (x3 : Int32) (x4 : Int32) : KR7 σ (f_X12_resource N σ x1 x2 x3 x4) := by
  unfold f_X12_resource
  exact (kr7_bind (kr7_st rfl (kr7_f_X12_in N (RS.setI σ 0 0) x1 0 7)) (fun p1 => (kr7_ite (kr7_st rfl (kr7_f_X12_resource_53 N p1.2)) (kr7_bind (kr7_st rfl (kr7_f_X12_in N p1.2 x2 0 1)) (fun p4 => (kr7_ite (kr7_st rfl (kr7_f_X12_resource_53 N p4.2)) (kr7_bind (kr7_st rfl (kr7_f_X12_in N p4.2 x3 (-1) ((p4.2.i 3) - 1))) (fun p7 => (kr7_ite (kr7_st rfl (kr7_f_X12_resource_53 N p7.2)) (kr7_bind (kr7_st rfl (kr7_f_X12_in N p7.2 x4 (-1) ((p7.2.i 3) - 1))) (fun p10 => (kr7_ite (kr7_st rfl (kr7_f_X12_resource_53 N p10.2)) (kr7_ite (kr7_ite (kr7_st rfl (kr7_f_X12_resource_71 N (RS.setA p10.2 5 ((x1 : Int32).toNatClampNeg) 1) x1 x3 x4)) kr7_none) (kr7_ite (kr7_st rfl (kr7_f_X12_resource_71 N (RS.setA p10.2 5 ((x1 : Int32).toNatClampNeg) 0) x1 x3 x4)) kr7_none))))))))))))))
theorem kr7_f_X12_fault (N : Nat) (σ : RS) : KR7 σ (f_X12_fault N σ) := by
  unfold f_X12_fault
  exact (kr7_some rfl)
theorem kr7_f_X12_program (N : Nat) (σ : RS) (x1 : Int32) : KR7 σ (f_X12_program N σ x1) := by
  unfold f_X12_program
  exact (kr7_bind (kr7_st rfl (kr7_f_X12_in N (RS.setI σ 0 0) x1 0 3)) (fun p1 => (kr7_ite (kr7_some rfl) (kr7_ite (kr7_some rfl) (kr7_ite (kr7_some rfl) (kr7_ite (kr7_ite (kr7_some rfl) (kr7_some rfl)) (kr7_ite (kr7_some rfl) (kr7_some rfl))))))))
theorem kr7_f_X12_row (N : Nat) (σ : RS) (x1 : Int32) (x2 : Int32) : KV7 σ (f_X12_row N σ x1 x2) := by
  unfold f_X12_row
  exact (kv7_ite (kv7_some rfl) (kv7_ite (kv7_some rfl) kv7_none))
theorem kr7_f_X12_record (N : Nat) (σ : RS) (x1 : Int32) (x2 : Int32) (x3 : Int32) (x4 : Int32) : KR7 σ (f_X12_record N σ x1 x2 x3 x4) := by
  unfold f_X12_record
  exact (kr7_ite (kr7_some rfl) kr7_none)
theorem kr7_f_X12_put (N : Nat) (σ : RS) (x1 : Int32) : KV7 σ (f_X12_put N σ x1) := by
  unfold f_X12_put
  exact (kv7_ite (kv7_some rfl) kv7_none)
theorem kr7_f_X12_take (N : Nat) (σ : RS) : KR7 σ (f_X12_take N σ) := by
  unfold f_X12_take
  exact (kr7_ite (kr7_some rfl) kr7_none)
theorem kr7_f_X12_raise_24 (N : Nat) (σ : RS) (x1 : Int32) (x2 : Int32) : KV7 σ (f_X12_raise_24 N σ x1 x2) := by
  unfold f_X12_raise_24
  exact (kv7_ite (kv7_some rfl) kv7_none)
theorem kr7_f_X12_raise (N : Nat) (σ : RS) (x1 : Int32) (x2 : Int32) : KV7 σ (f_X12_raise N σ x1 x2) := by
  unfold f_X12_raise
  exact (kv7_ite (kv7_st rfl (kr7_f_X12_raise_24 N (RS.setI σ 114 3199) x1 x2)) (kv7_st rfl (kr7_f_X12_raise_24 N (RS.setI σ 114 (σ.i 85)) x1 x2)))
theorem kr7_b_X12_closeAll_0 (N : Nat) (K : RS → Int32 → Option (RS)) (hK : ∀ (σ : RS) (y0 : Int32), KV7 σ (K σ y0)) (σ : RS) (x1 : Int32) : KV7 σ (b_X12_closeAll_0 N K σ x1) := by
  unfold b_X12_closeAll_0
  exact (kv7_ite (kv7_ite (kv7_some rfl) (kv7_ite (kv7_bindv (kv7_st rfl (kr7_f_X12_row N (RS.setI σ 95 ((σ.i 95) - 1)) 2 (σ.a 96 ((((σ.i 95) - 1) : Int32).toNatClampNeg)))) (fun p4 => (kv7_ite (kv7_ite (kv7_st rfl (hK p4 x1)) (kv7_ite (kv7_ite (kv7_ite (kv7_st rfl (hK p4 x1)) (kv7_ite (kv7_st rfl (hK (RS.setA (RS.setA (RS.setA p4 89 ((((8 * (p4.i 114)) + (p4.a 88 (((p4.i 114) : Int32).toNatClampNeg))) : Int32).toNatClampNeg) ((p4.a 7 (((σ.a 96 ((((σ.i 95) - 1) : Int32).toNatClampNeg)) : Int32).toNatClampNeg)) - 1)) 90 ((((8 * (p4.i 114)) + (p4.a 88 (((p4.i 114) : Int32).toNatClampNeg))) : Int32).toNatClampNeg) (σ.a 96 ((((σ.i 95) - 1) : Int32).toNatClampNeg))) 88 (((p4.i 114) : Int32).toNatClampNeg) ((p4.a 88 (((p4.i 114) : Int32).toNatClampNeg)) + 1)) x1)) kv7_none)) kv7_none) (kv7_bindv (kv7_st rfl (kr7_f_X12_raise N p4 ((p4.a 7 (((σ.a 96 ((((σ.i 95) - 1) : Int32).toNatClampNeg)) : Int32).toNatClampNeg)) - 1) (σ.a 96 ((((σ.i 95) - 1) : Int32).toNatClampNeg)))) (fun p14 => (kv7_st rfl (hK p14 x1)))))) kv7_none))) kv7_none)) kv7_none)
theorem kr7_f_X12_closeAll_0 (N : Nat) : ∀ (n : Nat) (σ : RS) (y0 : Int32), KV7 σ (f_X12_closeAll_0 N n σ y0)
  | 0, _, _ => kv7_none
  | n+1, σ, y0 => kr7_b_X12_closeAll_0 N (f_X12_closeAll_0 N n) (fun σ y0 => kr7_f_X12_closeAll_0 N n σ y0) σ y0
theorem kr7_f_X12_closeAll (N : Nat) (σ : RS) (x1 : Int32) : KV7 σ (f_X12_closeAll N σ x1) := by
  unfold f_X12_closeAll
  exact (kv7_st rfl (kr7_f_X12_closeAll_0 N N σ x1))
theorem kr7_f_X12_finals (N : Nat) (σ : RS) (x1 : Int32) : KR7 σ (f_X12_finals N σ x1) := by
  unfold f_X12_finals
  exact (kr7_ite (kr7_ite (kr7_ite (kr7_some rfl) (kr7_some rfl)) kr7_none) kr7_none)
theorem kr7_b_X12_isCaught_12 (N : Nat) (K : RS → Int32 → Int32 → Option (Int32 × RS)) (hK : ∀ (σ : RS) (y0 : Int32) (y1 : Int32), KR7 σ (K σ y0 y1)) (σ : RS) (x1 : Int32) (x2 : Int32) : KR7 σ (b_X12_isCaught_12 N K σ x1 x2) := by
  unfold b_X12_isCaught_12
  exact (kr7_ite (kr7_some rfl) (kr7_ite (kr7_ite (kr7_bind (kr7_st rfl (kr7_f_X12_isUnder N σ (σ.a 86 (((σ.i 114) : Int32).toNatClampNeg)) (σ.a 34 ((x2 : Int32).toNatClampNeg)))) (fun p6 => (kr7_ite (kr7_st rfl (hK p6.2 x1 (p6.2.a 37 ((x2 : Int32).toNatClampNeg)))) (kr7_ite (kr7_ite (kr7_some rfl) kr7_none) kr7_none)))) kr7_none) kr7_none))
theorem kr7_f_X12_isCaught_12 (N : Nat) : ∀ (n : Nat) (σ : RS) (y0 : Int32) (y1 : Int32), KR7 σ (f_X12_isCaught_12 N n σ y0 y1)
  | 0, _, _, _ => kr7_none
  | n+1, σ, y0, y1 => kr7_b_X12_isCaught_12 N (f_X12_isCaught_12 N n) (fun σ y0 y1 => kr7_f_X12_isCaught_12 N n σ y0 y1) σ y0 y1
theorem kr7_f_X12_isCaught (N : Nat) (σ : RS) (x1 : Int32) : KR7 σ (f_X12_isCaught N σ x1) := by
  unfold f_X12_isCaught
  exact (kr7_ite (kr7_ite (kr7_st rfl (kr7_f_X12_isCaught_12 N N σ x1 (σ.a 30 (((σ.a 101 ((x1 : Int32).toNatClampNeg)) : Int32).toNatClampNeg)))) kr7_none) kr7_none)
theorem kr7_b_X12_leave_0 (N : Nat) (K : RS → Option (RS)) (hK : ∀ (σ : RS), KV7 σ (K σ)) (σ : RS) : KV7 σ (b_X12_leave_0 N K σ) := by
  unfold b_X12_leave_0
  exact (kv7_ite (kv7_ite (kv7_some rfl) (kv7_ite (kv7_ite (kv7_bindv (kv7_st rfl (kr7_f_X12_row N σ 4 (σ.a 101 ((((σ.i 99) - 1) : Int32).toNatClampNeg)))) (fun p27 => (kv7_ite (kv7_st rfl (hK (RS.setI (RS.setA p27 91 (((p27.a 101 ((((σ.i 99) - 1) : Int32).toNatClampNeg)) : Int32).toNatClampNeg) ((p27.a 91 (((p27.a 101 ((((σ.i 99) - 1) : Int32).toNatClampNeg)) : Int32).toNatClampNeg)) - 1)) 99 ((p27.i 99) - 1)))) kv7_none))) (kv7_ite (kv7_st rfl (hK (RS.setI (RS.setI σ 97 (σ.a 101 ((((σ.i 99) - 1) : Int32).toNatClampNeg))) 99 ((σ.i 99) - 1)))) (kv7_ite (kv7_ite (kv7_bindv (kv7_st rfl (kr7_f_X12_closeAll N σ ((σ.i 99) - 1))) (fun p13 => (kv7_ite (kv7_bind (kr7_st rfl (kr7_f_X12_isCaught N p13 ((σ.i 99) - 1))) (fun p20 => (kv7_ite (kv7_ite (kv7_st rfl (hK (RS.setI p20.2 99 ((p20.2.i 99) - 1)))) (kv7_bind (kr7_st rfl (kr7_f_X12_finals N p20.2 ((σ.i 99) - 1))) (fun p24 => (kv7_ite (kv7_st rfl (hK (RS.setI p24.2 99 ((p24.2.i 99) - 1)))) (kv7_some rfl))))) (kv7_some rfl)))) (kv7_ite (kv7_st rfl (hK (RS.setI p13 99 ((p13.i 99) - 1)))) (kv7_bind (kr7_st rfl (kr7_f_X12_finals N p13 ((σ.i 99) - 1))) (fun p17 => (kv7_ite (kv7_st rfl (hK (RS.setI p17.2 99 ((p17.2.i 99) - 1)))) (kv7_some rfl)))))))) (kv7_ite (kv7_st rfl (hK (RS.setI σ 99 ((σ.i 99) - 1)))) (kv7_bind (kr7_st rfl (kr7_f_X12_finals N σ ((σ.i 99) - 1))) (fun p10 => (kv7_ite (kv7_st rfl (hK (RS.setI p10.2 99 ((p10.2.i 99) - 1)))) (kv7_some rfl)))))) (kv7_st rfl (hK (RS.setI σ 99 ((σ.i 99) - 1))))))) kv7_none)) (kv7_ite (kv7_ite (kv7_ite (kv7_bindv (kv7_st rfl (kr7_f_X12_put N (RS.setI (RS.setI σ 99 ((σ.i 99) - 1)) 93 (σ.a 104 ((((σ.i 99) - 1) : Int32).toNatClampNeg))) (σ.i 113))) (fun p64 => (kv7_ite (kv7_ite (kv7_some rfl) kv7_none) kv7_none))) kv7_none) (kv7_ite (kv7_ite (kv7_bindv (kv7_st rfl (kr7_f_X12_row N σ 4 (σ.a 101 ((((σ.i 99) - 1) : Int32).toNatClampNeg)))) (fun p91 => (kv7_ite (kv7_st rfl (hK (RS.setI (RS.setA p91 91 (((p91.a 101 ((((σ.i 99) - 1) : Int32).toNatClampNeg)) : Int32).toNatClampNeg) ((p91.a 91 (((p91.a 101 ((((σ.i 99) - 1) : Int32).toNatClampNeg)) : Int32).toNatClampNeg)) - 1)) 99 ((p91.i 99) - 1)))) kv7_none))) (kv7_ite (kv7_st rfl (hK (RS.setI (RS.setI σ 97 (σ.a 101 ((((σ.i 99) - 1) : Int32).toNatClampNeg))) 99 ((σ.i 99) - 1)))) (kv7_ite (kv7_ite (kv7_bindv (kv7_st rfl (kr7_f_X12_closeAll N σ ((σ.i 99) - 1))) (fun p77 => (kv7_ite (kv7_bind (kr7_st rfl (kr7_f_X12_isCaught N p77 ((σ.i 99) - 1))) (fun p84 => (kv7_ite (kv7_ite (kv7_st rfl (hK (RS.setI p84.2 99 ((p84.2.i 99) - 1)))) (kv7_bind (kr7_st rfl (kr7_f_X12_finals N p84.2 ((σ.i 99) - 1))) (fun p88 => (kv7_ite (kv7_st rfl (hK (RS.setI p88.2 99 ((p88.2.i 99) - 1)))) (kv7_some rfl))))) (kv7_some rfl)))) (kv7_ite (kv7_st rfl (hK (RS.setI p77 99 ((p77.i 99) - 1)))) (kv7_bind (kr7_st rfl (kr7_f_X12_finals N p77 ((σ.i 99) - 1))) (fun p81 => (kv7_ite (kv7_st rfl (hK (RS.setI p81.2 99 ((p81.2.i 99) - 1)))) (kv7_some rfl)))))))) (kv7_ite (kv7_st rfl (hK (RS.setI σ 99 ((σ.i 99) - 1)))) (kv7_bind (kr7_st rfl (kr7_f_X12_finals N σ ((σ.i 99) - 1))) (fun p74 => (kv7_ite (kv7_st rfl (hK (RS.setI p74.2 99 ((p74.2.i 99) - 1)))) (kv7_some rfl)))))) (kv7_st rfl (hK (RS.setI σ 99 ((σ.i 99) - 1))))))) kv7_none)) (kv7_ite (kv7_some rfl) (kv7_ite (kv7_ite (kv7_bindv (kv7_st rfl (kr7_f_X12_row N σ 4 (σ.a 101 ((((σ.i 99) - 1) : Int32).toNatClampNeg)))) (fun p57 => (kv7_ite (kv7_st rfl (hK (RS.setI (RS.setA p57 91 (((p57.a 101 ((((σ.i 99) - 1) : Int32).toNatClampNeg)) : Int32).toNatClampNeg) ((p57.a 91 (((p57.a 101 ((((σ.i 99) - 1) : Int32).toNatClampNeg)) : Int32).toNatClampNeg)) - 1)) 99 ((p57.i 99) - 1)))) kv7_none))) (kv7_ite (kv7_st rfl (hK (RS.setI (RS.setI σ 97 (σ.a 101 ((((σ.i 99) - 1) : Int32).toNatClampNeg))) 99 ((σ.i 99) - 1)))) (kv7_ite (kv7_ite (kv7_bindv (kv7_st rfl (kr7_f_X12_closeAll N σ ((σ.i 99) - 1))) (fun p43 => (kv7_ite (kv7_bind (kr7_st rfl (kr7_f_X12_isCaught N p43 ((σ.i 99) - 1))) (fun p50 => (kv7_ite (kv7_ite (kv7_st rfl (hK (RS.setI p50.2 99 ((p50.2.i 99) - 1)))) (kv7_bind (kr7_st rfl (kr7_f_X12_finals N p50.2 ((σ.i 99) - 1))) (fun p54 => (kv7_ite (kv7_st rfl (hK (RS.setI p54.2 99 ((p54.2.i 99) - 1)))) (kv7_some rfl))))) (kv7_some rfl)))) (kv7_ite (kv7_st rfl (hK (RS.setI p43 99 ((p43.i 99) - 1)))) (kv7_bind (kr7_st rfl (kr7_f_X12_finals N p43 ((σ.i 99) - 1))) (fun p47 => (kv7_ite (kv7_st rfl (hK (RS.setI p47.2 99 ((p47.2.i 99) - 1)))) (kv7_some rfl)))))))) (kv7_ite (kv7_st rfl (hK (RS.setI σ 99 ((σ.i 99) - 1)))) (kv7_bind (kr7_st rfl (kr7_f_X12_finals N σ ((σ.i 99) - 1))) (fun p40 => (kv7_ite (kv7_st rfl (hK (RS.setI p40.2 99 ((p40.2.i 99) - 1)))) (kv7_some rfl)))))) (kv7_st rfl (hK (RS.setI σ 99 ((σ.i 99) - 1))))))) kv7_none))))
theorem kr7_f_X12_leave_0 (N : Nat) : ∀ (n : Nat) (σ : RS), KV7 σ (f_X12_leave_0 N n σ )
  | 0, _ => kv7_none
  | n+1, σ => kr7_b_X12_leave_0 N (f_X12_leave_0 N n) (fun σ => kr7_f_X12_leave_0 N n σ) σ
theorem kr7_f_X12_leave (N : Nat) (σ : RS) : KV7 σ (f_X12_leave N σ) := by
  unfold f_X12_leave
  exact (kv7_st rfl (kr7_f_X12_leave_0 N N σ))
theorem kr7_f_X12_step (N : Nat) (σ : RS) : KV7 σ (f_X12_step N σ) := by
  unfold f_X12_step
  exact (kv7_ite (kv7_some rfl) (kv7_some rfl))
theorem kr7_f_X12_compute (N : Nat) (σ : RS) (x1 : Int32) (x2 : Int32) (x3 : Int32) : KR7 σ (f_X12_compute N σ x1 x2 x3) := by
  unfold f_X12_compute
  exact (kr7_ite (kr7_ite kr7_none (kr7_some rfl)) (kr7_ite (kr7_some rfl) (kr7_ite (kr7_some rfl) (kr7_ite (kr7_some rfl) (kr7_ite (kr7_ite kr7_none (kr7_some rfl)) (kr7_ite (kr7_ite (kr7_some rfl) (kr7_some rfl)) (kr7_ite (kr7_ite (kr7_some rfl) (kr7_some rfl)) (kr7_ite (kr7_ite (kr7_some rfl) (kr7_some rfl)) (kr7_ite (kr7_ite (kr7_some rfl) (kr7_some rfl)) (kr7_ite (kr7_ite (kr7_some rfl) (kr7_some rfl)) (kr7_ite (kr7_some rfl) (kr7_some rfl))))))))))))
theorem kr7_b_X12_caseOf_5 (N : Nat) (K : RS → Int32 → Int32 → Int32 → Option (Int32 × RS)) (hK : ∀ (σ : RS) (y0 : Int32) (y1 : Int32) (y2 : Int32), KR7 σ (K σ y0 y1 y2)) (σ : RS) (x2 : Int32) (x3 : Int32) (x4 : Int32) : KR7 σ (b_X12_caseOf_5 N K σ x2 x3 x4) := by
  unfold b_X12_caseOf_5
  exact (kr7_ite (kr7_some rfl) (kr7_ite (kr7_ite (kr7_ite (kr7_some rfl) (kr7_st rfl (hK σ x2 x3 (σ.a 27 ((x4 : Int32).toNatClampNeg))))) (kr7_st rfl (hK σ x2 x4 (σ.a 27 ((x4 : Int32).toNatClampNeg))))) kr7_none))
theorem kr7_f_X12_caseOf_5 (N : Nat) : ∀ (n : Nat) (σ : RS) (y0 : Int32) (y1 : Int32) (y2 : Int32), KR7 σ (f_X12_caseOf_5 N n σ y0 y1 y2)
  | 0, _, _, _, _ => kr7_none
  | n+1, σ, y0, y1, y2 => kr7_b_X12_caseOf_5 N (f_X12_caseOf_5 N n) (fun σ y0 y1 y2 => kr7_f_X12_caseOf_5 N n σ y0 y1 y2) σ y0 y1 y2
theorem kr7_f_X12_caseOf (N : Nat) (σ : RS) (x1 : Int32) (x2 : Int32) : KR7 σ (f_X12_caseOf N σ x1 x2) := by
  unfold f_X12_caseOf
  exact (kr7_st rfl (kr7_f_X12_caseOf_5 N N σ x2 (-1) x1))
theorem kr7_f_X12_goOn (N : Nat) (σ : RS) (x1 : Int32) : KV7 σ (f_X12_goOn N σ x1) := by
  unfold f_X12_goOn
  exact (kv7_bind (kr7_st rfl (kr7_f_X12_finals N σ x1)) (fun p1 => (kv7_ite (kv7_ite (kv7_ite (kv7_some rfl) kv7_none) kv7_none) (kv7_some rfl))))
theorem kr7_b_X12_others_85 (N : Nat) (K : RS → Int32 → Int32 → Int32 → Option (RS)) (hK : ∀ (σ : RS) (y0 : Int32) (y1 : Int32) (y2 : Int32), KV7 σ (K σ y0 y1 y2)) (σ : RS) (x2 : Int32) (x4 : Int32) (x5 : Int32) : KV7 σ (b_X12_others_85 N K σ x2 x4 x5) := by
  unfold b_X12_others_85
  exact (kv7_ite (kv7_bind (kr7_st rfl (kr7_f_X12_record N (RS.setI σ 93 ((σ.i 93) - x2)) 2 x4 x4 (σ.i 97))) (fun p4 => (kv7_some rfl))) (kv7_ite (kv7_ite (kv7_st rfl (hK (RS.setI (RS.setA σ 98 (((σ.i 97) : Int32).toNatClampNeg) (σ.a 94 (((((σ.i 93) - x2) + x5) : Int32).toNatClampNeg))) 97 ((σ.i 97) + 1)) x2 x4 (x5 + 1))) kv7_none) kv7_none))
theorem kr7_f_X12_others_85 (N : Nat) : ∀ (n : Nat) (σ : RS) (y0 : Int32) (y1 : Int32) (y2 : Int32), KV7 σ (f_X12_others_85 N n σ y0 y1 y2)
  | 0, _, _, _, _ => kv7_none
  | n+1, σ, y0, y1, y2 => kr7_b_X12_others_85 N (f_X12_others_85 N n) (fun σ y0 y1 y2 => kr7_f_X12_others_85 N n σ y0 y1 y2) σ y0 y1 y2
theorem kr7_f_X12_others (N : Nat) (σ : RS) (x1 : Int32) (x2 : Int32) : KV7 σ (f_X12_others N σ x1 x2) := by
  unfold f_X12_others
  exact (kv7_ite (kv7_ite (kv7_st rfl (kr7_f_X12_others_85 N N σ x2 (σ.i 97) 0)) (kv7_ite (kv7_ite (kv7_ite (kv7_some rfl) (kv7_bindv (kv7_st rfl (kr7_f_X12_step N σ)) (fun p11 => (kv7_ite (kv7_ite (kv7_some rfl) kv7_none) kv7_none)))) kv7_none) (kv7_ite (kv7_ite (kv7_some rfl) kv7_none) (kv7_ite (kv7_ite (kv7_ite (kv7_some rfl) (kv7_bindv (kv7_st rfl (kr7_f_X12_leave N (RS.setI (RS.setI (RS.setI (RS.setI (RS.setI (RS.setI σ 110 (σ.a 105 ((((σ.i 99) - 1) : Int32).toNatClampNeg))) 111 (σ.a 106 ((((σ.i 99) - 1) : Int32).toNatClampNeg))) 112 (σ.a 107 ((((σ.i 99) - 1) : Int32).toNatClampNeg))) 113 (σ.a 108 ((((σ.i 99) - 1) : Int32).toNatClampNeg))) 114 (σ.a 109 ((((σ.i 99) - 1) : Int32).toNatClampNeg))) 99 ((σ.i 99) - 1)))) (fun p20 => (kv7_some rfl)))) kv7_none) (kv7_ite (kv7_ite (kv7_ite (kv7_some rfl) (kv7_bindv (kv7_st rfl (kr7_f_X12_leave N (RS.setI (RS.setI (RS.setI (RS.setI (RS.setI (RS.setI σ 110 (σ.a 105 ((((σ.i 99) - 1) : Int32).toNatClampNeg))) 111 (σ.a 106 ((((σ.i 99) - 1) : Int32).toNatClampNeg))) 112 (σ.a 107 ((((σ.i 99) - 1) : Int32).toNatClampNeg))) 113 (σ.a 108 ((((σ.i 99) - 1) : Int32).toNatClampNeg))) 114 (σ.a 109 ((((σ.i 99) - 1) : Int32).toNatClampNeg))) 99 ((σ.i 99) - 1)))) (fun p25 => (kv7_some rfl)))) kv7_none) (kv7_ite (kv7_ite (kv7_ite (kv7_some rfl) (kv7_bindv (kv7_st rfl (kr7_f_X12_leave N (RS.setI (RS.setI (RS.setI (RS.setI (RS.setI (RS.setI σ 110 (σ.a 105 ((((σ.i 99) - 1) : Int32).toNatClampNeg))) 111 (σ.a 106 ((((σ.i 99) - 1) : Int32).toNatClampNeg))) 112 (σ.a 107 ((((σ.i 99) - 1) : Int32).toNatClampNeg))) 113 (σ.a 108 ((((σ.i 99) - 1) : Int32).toNatClampNeg))) 114 (σ.a 109 ((((σ.i 99) - 1) : Int32).toNatClampNeg))) 99 ((σ.i 99) - 1)))) (fun p30 => (kv7_some rfl)))) kv7_none) (kv7_ite (kv7_ite (kv7_ite (kv7_some rfl) (kv7_bindv (kv7_st rfl (kr7_f_X12_leave N (RS.setI (RS.setI (RS.setI (RS.setI (RS.setI (RS.setI σ 110 (σ.a 105 ((((σ.i 99) - 1) : Int32).toNatClampNeg))) 111 (σ.a 106 ((((σ.i 99) - 1) : Int32).toNatClampNeg))) 112 (σ.a 107 ((((σ.i 99) - 1) : Int32).toNatClampNeg))) 113 (σ.a 108 ((((σ.i 99) - 1) : Int32).toNatClampNeg))) 114 (σ.a 109 ((((σ.i 99) - 1) : Int32).toNatClampNeg))) 99 ((σ.i 99) - 1)))) (fun p35 => (kv7_some rfl)))) kv7_none) (kv7_ite (kv7_ite (kv7_ite (kv7_some rfl) (kv7_bindv (kv7_st rfl (kr7_f_X12_leave N (RS.setI (RS.setI (RS.setI (RS.setI (RS.setI (RS.setI σ 110 (σ.a 105 ((((σ.i 99) - 1) : Int32).toNatClampNeg))) 111 (σ.a 106 ((((σ.i 99) - 1) : Int32).toNatClampNeg))) 112 (σ.a 107 ((((σ.i 99) - 1) : Int32).toNatClampNeg))) 113 (σ.a 108 ((((σ.i 99) - 1) : Int32).toNatClampNeg))) 114 (σ.a 109 ((((σ.i 99) - 1) : Int32).toNatClampNeg))) 99 ((σ.i 99) - 1)))) (fun p40 => (kv7_some rfl)))) kv7_none) (kv7_ite (kv7_bind (kr7_st rfl (kr7_f_X12_record N σ 4 x2 0 (σ.i 95))) (fun p43 => (kv7_some rfl))) (kv7_ite (kv7_ite (kv7_ite (kv7_ite (kv7_bindv (kv7_st rfl (kr7_f_X12_row N σ 1 x2)) (fun p49 => (kv7_ite (kv7_some rfl) kv7_none))) (kv7_some rfl)) (kv7_bindv (kv7_st rfl (kr7_f_X12_raise N σ ((σ.a 6 ((x2 : Int32).toNatClampNeg)) - 1) x2)) (fun p52 => (kv7_bindv (kv7_st rfl (kr7_f_X12_leave N p52)) (fun p54 => (kv7_some rfl)))))) kv7_none) (kv7_ite (kv7_bindv (kv7_st rfl (kr7_f_X12_closeAll N (RS.setI σ 110 0) ((σ.i 99) - 1))) (fun p57 => (kv7_ite (kv7_bindv (kv7_st rfl (kr7_f_X12_leave N p57)) (fun p62 => (kv7_some rfl))) (kv7_bindv (kv7_st rfl (kr7_f_X12_goOn N p57 ((σ.i 99) - 1))) (fun p60 => (kv7_some rfl)))))) (kv7_ite (kv7_bindv (kv7_st rfl (kr7_f_X12_goOn N (RS.setI σ 110 0) ((σ.i 99) - 1))) (fun p65 => (kv7_some rfl))) (kv7_ite (kv7_ite (kv7_some rfl) (kv7_bindv (kv7_st rfl (kr7_f_X12_leave N (RS.setI (RS.setI (RS.setI (RS.setI (RS.setI (RS.setI σ 110 (σ.a 105 ((((σ.i 99) - 1) : Int32).toNatClampNeg))) 111 (σ.a 106 ((((σ.i 99) - 1) : Int32).toNatClampNeg))) 112 (σ.a 107 ((((σ.i 99) - 1) : Int32).toNatClampNeg))) 113 (σ.a 108 ((((σ.i 99) - 1) : Int32).toNatClampNeg))) 114 (σ.a 109 ((((σ.i 99) - 1) : Int32).toNatClampNeg))) 99 ((σ.i 99) - 1)))) (fun p69 => (kv7_some rfl)))) kv7_none))))))))))))) kv7_none)
theorem kr7_f_X12_ends_128 (N : Nat) (σ : RS) (x1 : Int32) : KV7 σ (f_X12_ends_128 N σ x1) := by
  unfold f_X12_ends_128
  exact (kv7_ite (kv7_bindv (kv7_st rfl (kr7_f_X12_leave N (RS.setI σ 112 (σ.a 23 ((x1 : Int32).toNatClampNeg))))) (fun p7 => (kv7_some rfl))) kv7_none)
theorem kr7_f_X12_ends_242 (N : Nat) (σ : RS) : KV7 σ (f_X12_ends_242 N σ) := by
  unfold f_X12_ends_242
  exact (kv7_some rfl)
theorem kr7_f_X12_ends_351 (N : Nat) (σ : RS) : KV7 σ (f_X12_ends_351 N σ) := by
  unfold f_X12_ends_351
  exact (kv7_some rfl)
theorem kr7_f_X12_ends (N : Nat) (σ : RS) (x1 : Int32) (x2 : Int32) : KV7 σ (f_X12_ends N σ x1 x2) := by
  unfold f_X12_ends
  exact (kv7_ite (kv7_ite (kv7_bind (kr7_st rfl (kr7_f_X12_take N σ)) (fun p3 => (kv7_ite (kv7_st rfl (kr7_f_X12_ends_128 N (RS.setI (RS.setI p3.2 113 p3.1) 110 2) x1)) (kv7_st rfl (kr7_f_X12_ends_128 N (RS.setI (RS.setI p3.2 113 p3.1) 110 4) x1))))) (kv7_ite (kv7_bind (kr7_st rfl (kr7_f_X12_take N σ)) (fun p10 => (kv7_ite (kv7_st rfl (kr7_f_X12_ends_128 N (RS.setI (RS.setI p10.2 113 p10.1) 110 2) x1)) (kv7_st rfl (kr7_f_X12_ends_128 N (RS.setI (RS.setI p10.2 113 p10.1) 110 4) x1))))) (kv7_ite (kv7_bind (kr7_st rfl (kr7_f_X12_take N σ)) (fun p14 => (kv7_bindv (kv7_st rfl (kr7_f_X12_raise N p14.2 x2 p14.1)) (fun p16 => (kv7_bindv (kv7_st rfl (kr7_f_X12_leave N p16)) (fun p18 => (kv7_some rfl))))))) (kv7_ite (kv7_bindv (kv7_st rfl (kr7_f_X12_raise N σ x2 0)) (fun p21 => (kv7_bindv (kv7_st rfl (kr7_f_X12_leave N p21)) (fun p23 => (kv7_some rfl))))) (kv7_ite (kv7_ite (kv7_bindv (kv7_st rfl (kr7_f_X12_leave N (RS.setI (RS.setI σ 114 (σ.a 84 ((x2 : Int32).toNatClampNeg))) 110 3))) (fun p27 => (kv7_some rfl))) kv7_none) (kv7_ite (kv7_ite (kv7_st rfl (kr7_f_X12_ends_242 N (RS.setI σ 92 x2))) (kv7_st rfl (kr7_f_X12_ends_242 N (RS.setI σ 92 (σ.i 92))))) (kv7_ite (kv7_bindv (kv7_st rfl (kr7_f_X12_others N σ x1 x2)) (fun p32 => (kv7_some rfl))) (kv7_ite (kv7_bindv (kv7_st rfl (kr7_f_X12_others N σ x1 x2)) (fun p35 => (kv7_some rfl))) (kv7_ite (kv7_bindv (kv7_st rfl (kr7_f_X12_others N σ x1 x2)) (fun p38 => (kv7_some rfl))) (kv7_ite (kv7_bindv (kv7_st rfl (kr7_f_X12_row N σ 3 x2)) (fun p41 => (kv7_ite (kv7_bind (kr7_st rfl (kr7_f_X12_record N (RS.setA p41 91 ((x2 : Int32).toNatClampNeg) ((p41.a 91 ((x2 : Int32).toNatClampNeg)) + 1)) 1 x2 0 0)) (fun p44 => (kv7_some rfl))) kv7_none))) (kv7_ite (kv7_ite (kv7_bindv (kv7_st rfl (kr7_f_X12_row N (RS.setI σ 99 ((σ.i 99) - 1)) 4 (σ.a 101 ((((σ.i 99) - 1) : Int32).toNatClampNeg)))) (fun p48 => (kv7_ite (kv7_ite (kv7_some rfl) kv7_none) kv7_none))) kv7_none) (kv7_ite (kv7_bind (kr7_st rfl (kr7_f_X12_take N σ)) (fun p53 => (kv7_bind (kr7_st rfl (kr7_f_X12_caseOf N p53.2 x2 p53.1)) (fun p55 => (kv7_ite (kv7_ite (kv7_st rfl (kr7_f_X12_ends_351 N (RS.setI p55.2 92 (p55.2.a 26 ((p55.1 : Int32).toNatClampNeg))))) kv7_none) (kv7_st rfl (kr7_f_X12_ends_351 N (RS.setI p55.2 92 (p55.2.a 23 ((x1 : Int32).toNatClampNeg)))))))))) (kv7_ite (kv7_bind (kr7_st rfl (kr7_f_X12_take N σ)) (fun p60 => (kv7_bind (kr7_st rfl (kr7_f_X12_caseOf N p60.2 x2 p60.1)) (fun p62 => (kv7_bind (kr7_st rfl (kr7_f_X12_record N p62.2 3 x1 0 0)) (fun p64 => (kv7_ite (kv7_some rfl) kv7_none))))))) (kv7_ite (kv7_ite (kv7_ite (kv7_some rfl) kv7_none) kv7_none) (kv7_ite (kv7_bindv (kv7_st rfl (kr7_f_X12_others N σ x1 x2)) (fun p71 => (kv7_some rfl))) (kv7_ite (kv7_bindv (kv7_st rfl (kr7_f_X12_others N σ x1 x2)) (fun p74 => (kv7_some rfl))) (kv7_ite (kv7_bindv (kv7_st rfl (kr7_f_X12_others N σ x1 x2)) (fun p77 => (kv7_some rfl))) (kv7_ite (kv7_bindv (kv7_st rfl (kr7_f_X12_others N σ x1 x2)) (fun p80 => (kv7_some rfl))) (kv7_ite (kv7_bindv (kv7_st rfl (kr7_f_X12_others N σ x1 x2)) (fun p83 => (kv7_some rfl))) (kv7_ite (kv7_bindv (kv7_st rfl (kr7_f_X12_leave N (RS.setI (RS.setI (RS.setI σ 110 1) 111 x2) 112 (σ.a 23 ((x1 : Int32).toNatClampNeg))))) (fun p86 => (kv7_some rfl))) (kv7_bindv (kv7_st rfl (kr7_f_X12_others N σ x1 x2)) (fun p88 => (kv7_some rfl))))))))))))))))))))))) kv7_none)
theorem kr7_f_X12_act_229 (N : Nat) (σ : RS) (x2 : Int32) (x3 : Int32) (x4 : Int32) : KV7 σ (f_X12_act_229 N σ x2 x3 x4) := by
  unfold f_X12_act_229
  exact (kv7_bind (kr7_st rfl (kr7_f_X12_compute N σ x2 x4 x3)) (fun p35 => (kv7_bindv (kv7_st rfl (kr7_f_X12_put N p35.2 p35.1)) (fun p37 => (kv7_some rfl)))))
theorem kr7_f_X12_act_212 (N : Nat) (σ : RS) (x2 : Int32) (x3 : Int32) (x4 : Int32) : KV7 σ (f_X12_act_212 N σ x2 x3 x4) := by
  unfold f_X12_act_212
  exact (kv7_ite (kv7_bindv (kv7_st rfl (kr7_f_X12_raise N σ 2 0)) (fun p39 => (kv7_bindv (kv7_st rfl (kr7_f_X12_leave N p39)) (fun p41 => (kv7_some rfl))))) (kv7_st rfl (kr7_f_X12_act_229 N σ x2 x3 x4)))
theorem kr7_f_X12_act_290 (N : Nat) (σ : RS) : KV7 σ (f_X12_act_290 N σ) := by
  unfold f_X12_act_290
  exact (kv7_some rfl)
theorem kr7_f_X12_act_282 (N : Nat) (σ : RS) (x2 : Int32) : KV7 σ (f_X12_act_282 N σ x2) := by
  unfold f_X12_act_282
  exact (kv7_some rfl)
theorem kr7_f_X12_act_322 (N : Nat) (σ : RS) : KV7 σ (f_X12_act_322 N σ) := by
  unfold f_X12_act_322
  exact (kv7_some rfl)
theorem kr7_f_X12_act_344 (N : Nat) (σ : RS) : KV7 σ (f_X12_act_344 N σ) := by
  unfold f_X12_act_344
  exact (kv7_some rfl)
theorem kr7_f_X12_act (N : Nat) (σ : RS) (x1 : Int32) : KV7 σ (f_X12_act N σ x1) := by
  unfold f_X12_act
  exact (kv7_ite (kv7_ite (kv7_bindv (kv7_st rfl (kr7_f_X12_step N σ)) (fun p3 => (kv7_some rfl))) (kv7_ite (kv7_bindv (kv7_st rfl (kr7_f_X12_put N σ (σ.a 22 ((x1 : Int32).toNatClampNeg)))) (fun p6 => (kv7_some rfl))) (kv7_ite (kv7_ite (kv7_bindv (kv7_st rfl (kr7_f_X12_put N σ (σ.a 84 (((σ.a 22 ((x1 : Int32).toNatClampNeg)) : Int32).toNatClampNeg)))) (fun p10 => (kv7_some rfl))) kv7_none) (kv7_ite (kv7_ite (kv7_ite (kv7_bindv (kv7_st rfl (kr7_f_X12_put N σ (σ.a 87 (((σ.a 84 (((σ.a 22 ((x1 : Int32).toNatClampNeg)) : Int32).toNatClampNeg)) : Int32).toNatClampNeg)))) (fun p15 => (kv7_some rfl))) kv7_none) kv7_none) (kv7_ite (kv7_bind (kr7_st rfl (kr7_f_X12_take N σ)) (fun p18 => (kv7_ite (kv7_some rfl) kv7_none))) (kv7_ite (kv7_ite (kv7_some rfl) kv7_none) (kv7_ite (kv7_bind (kr7_st rfl (kr7_f_X12_take N σ)) (fun p24 => (kv7_bindv (kv7_st rfl (kr7_f_X12_put N p24.2 (-p24.1))) (fun p26 => (kv7_some rfl))))) (kv7_ite (kv7_bind (kr7_st rfl (kr7_f_X12_take N σ)) (fun p29 => (kv7_bind (kr7_st rfl (kr7_f_X12_take N p29.2)) (fun p31 => (kv7_ite (kv7_st rfl (kr7_f_X12_act_212 N p31.2 (σ.a 22 ((x1 : Int32).toNatClampNeg)) p29.1 p31.1)) (kv7_ite (kv7_st rfl (kr7_f_X12_act_212 N p31.2 (σ.a 22 ((x1 : Int32).toNatClampNeg)) p29.1 p31.1)) (kv7_st rfl (kr7_f_X12_act_229 N p31.2 (σ.a 22 ((x1 : Int32).toNatClampNeg)) p29.1 p31.1)))))))) (kv7_ite (kv7_bind (kr7_st rfl (kr7_f_X12_take N σ)) (fun p45 => (kv7_bind (kr7_st rfl (kr7_f_X12_take N p45.2)) (fun p47 => (kv7_ite (kv7_st rfl (kr7_f_X12_act_212 N p47.2 (σ.a 22 ((x1 : Int32).toNatClampNeg)) p45.1 p47.1)) (kv7_ite (kv7_st rfl (kr7_f_X12_act_212 N p47.2 (σ.a 22 ((x1 : Int32).toNatClampNeg)) p45.1 p47.1)) (kv7_st rfl (kr7_f_X12_act_229 N p47.2 (σ.a 22 ((x1 : Int32).toNatClampNeg)) p45.1 p47.1)))))))) (kv7_ite (kv7_bind (kr7_st rfl (kr7_f_X12_take N σ)) (fun p52 => (kv7_bindv (kv7_st rfl (kr7_f_X12_put N p52.2 (1 - p52.1))) (fun p54 => (kv7_some rfl))))) (kv7_ite (kv7_ite (kv7_ite (kv7_st rfl (kr7_f_X12_act_290 N σ)) (kv7_st rfl (kr7_f_X12_act_282 N σ (σ.a 22 ((x1 : Int32).toNatClampNeg))))) kv7_none) (kv7_ite (kv7_ite (kv7_ite (kv7_st rfl (kr7_f_X12_act_282 N σ (σ.a 22 ((x1 : Int32).toNatClampNeg)))) (kv7_st rfl (kr7_f_X12_act_290 N σ))) kv7_none) (kv7_ite (kv7_bind (kr7_st rfl (kr7_f_X12_take N σ)) (fun p67 => (kv7_ite (kv7_st rfl (kr7_f_X12_act_322 N (RS.setI p67.2 92 (σ.a 22 ((x1 : Int32).toNatClampNeg))))) (kv7_st rfl (kr7_f_X12_act_322 N (RS.setI p67.2 92 (p67.2.i 92))))))) (kv7_ite (kv7_bind (kr7_st rfl (kr7_f_X12_take N σ)) (fun p71 => (kv7_ite (kv7_st rfl (kr7_f_X12_act_344 N (RS.setI p71.2 92 (p71.2.i 92)))) (kv7_st rfl (kr7_f_X12_act_344 N (RS.setI p71.2 92 (σ.a 22 ((x1 : Int32).toNatClampNeg)))))))) (kv7_ite (kv7_some rfl) (kv7_ite (kv7_bind (kr7_st rfl (kr7_f_X12_take N σ)) (fun p76 => (kv7_bindv (kv7_st rfl (kr7_f_X12_row N p76.2 0 p76.1)) (fun p78 => (kv7_some rfl))))) (kv7_bindv (kv7_st rfl (kr7_f_X12_ends N σ x1 (σ.a 22 ((x1 : Int32).toNatClampNeg)))) (fun p80 => (kv7_some rfl))))))))))))))))))) kv7_none)
theorem kr7_f_X12_run_163 (N : Nat) (σ : RS) : KR7 σ (f_X12_run_163 N σ) := by
  unfold f_X12_run_163
  exact (kr7_ite (kr7_some rfl) (kr7_ite (kr7_some rfl) (kr7_ite (kr7_some rfl) (kr7_some rfl))))
theorem kr7_b_X12_run_122 (N : Nat) (K : RS → Option (Int32 × RS)) (hK : ∀ (σ : RS), KR7 σ (K σ)) (σ : RS) : KR7 σ (b_X12_run_122 N K σ) := by
  unfold b_X12_run_122
  exact (kr7_ite (kr7_st rfl (kr7_f_X12_run_163 N σ)) (kr7_ite (kr7_st rfl (kr7_f_X12_run_163 N σ)) (kr7_bindv (kv7_st rfl (kr7_f_X12_act N (RS.setI σ 92 ((σ.i 92) + 1)) (σ.i 92))) (fun p9 => (kr7_st rfl (hK p9))))))
theorem kr7_f_X12_run_122 (N : Nat) : ∀ (n : Nat) (σ : RS), KR7 σ (f_X12_run_122 N n σ )
  | 0, _ => kr7_none
  | n+1, σ => kr7_b_X12_run_122 N (f_X12_run_122 N n) (fun σ => kr7_f_X12_run_122 N n σ) σ
theorem kr7_b_X12_run_39 (N : Nat) (K : RS → Int32 → Int32 → Int32 → Option (Int32 × RS)) (hK : ∀ (σ : RS) (y0 : Int32) (y1 : Int32) (y2 : Int32), KR7 σ (K σ y0 y1 y2)) (σ : RS) (x1 : Int32) (x2 : Int32) (x3 : Int32) : KR7 σ (b_X12_run_39 N K σ x1 x2 x3) := by
  unfold b_X12_run_39
  exact (kr7_ite (kr7_st rfl (kr7_f_X12_run_122 N N (RS.setI (RS.setI (RS.setI (RS.setI (RS.setI (RS.setI (RS.setI (RS.setI (RS.setI (RS.setI (RS.setA (RS.setA σ 84 ((0 : Int32).toNatClampNeg) x1) 84 ((1 : Int32).toNatClampNeg) x2) 80 0) 81 0) 85 0) 95 0) 97 0) 99 0) 93 0) 79 1) 115 0) 92 0))) (kr7_ite (kr7_st rfl (hK (RS.setA σ 91 ((x3 : Int32).toNatClampNeg) 0) x1 x2 (x3 + 1))) kr7_none))
theorem kr7_f_X12_run_39 (N : Nat) : ∀ (n : Nat) (σ : RS) (y0 : Int32) (y1 : Int32) (y2 : Int32), KR7 σ (f_X12_run_39 N n σ y0 y1 y2)
  | 0, _, _, _, _ => kr7_none
  | n+1, σ, y0, y1, y2 => kr7_b_X12_run_39 N (f_X12_run_39 N n) (fun σ y0 y1 y2 => kr7_f_X12_run_39 N n σ y0 y1 y2) σ y0 y1 y2
theorem kr7_b_X12_run_17 (N : Nat) (K : RS → Int32 → Int32 → Int32 → Option (Int32 × RS)) (hK : ∀ (σ : RS) (y0 : Int32) (y1 : Int32) (y2 : Int32), KR7 σ (K σ y0 y1 y2)) (σ : RS) (x1 : Int32) (x2 : Int32) (x3 : Int32) : KR7 σ (b_X12_run_17 N K σ x1 x2 x3) := by
  unfold b_X12_run_17
  exact (kr7_ite (kr7_st rfl (kr7_f_X12_run_39 N N σ x1 x2 0)) (kr7_ite (kr7_st rfl (hK (RS.setA σ 84 ((x3 : Int32).toNatClampNeg) 0) x1 x2 (x3 + 1))) kr7_none))
theorem kr7_f_X12_run_17 (N : Nat) : ∀ (n : Nat) (σ : RS) (y0 : Int32) (y1 : Int32) (y2 : Int32), KR7 σ (f_X12_run_17 N n σ y0 y1 y2)
  | 0, _, _, _, _ => kr7_none
  | n+1, σ, y0, y1, y2 => kr7_b_X12_run_17 N (f_X12_run_17 N n) (fun σ y0 y1 y2 => kr7_f_X12_run_17 N n σ y0 y1 y2) σ y0 y1 y2
theorem kr7_f_X12_run (N : Nat) (σ : RS) (x1 : Int32) (x2 : Int32) : KR7 σ (f_X12_run N σ x1 x2) := by
  unfold f_X12_run
  exact (kr7_ite (kr7_some rfl) (kr7_st rfl (kr7_f_X12_run_17 N N (RS.setI σ 0 0) x1 x2 0)))
theorem kr7_b_X12_ran_168 (N : Nat) (K : RS → Int32 → Int32 → Option (Int32 × RS)) (hK : ∀ (σ : RS) (y0 : Int32) (y1 : Int32), KR7 σ (K σ y0 y1)) (σ : RS) (x3 : Int32) (x4 : Int32) : KR7 σ (b_X12_ran_168 N K σ x3 x4) := by
  unfold b_X12_ran_168
  exact (kr7_ite (kr7_some rfl) (kr7_ite (kr7_st rfl (hK σ (x3 + (σ.a 91 ((x4 : Int32).toNatClampNeg))) (x4 + 1))) kr7_none))
theorem kr7_f_X12_ran_168 (N : Nat) : ∀ (n : Nat) (σ : RS) (y0 : Int32) (y1 : Int32), KR7 σ (f_X12_ran_168 N n σ y0 y1)
  | 0, _, _, _ => kr7_none
  | n+1, σ, y0, y1 => kr7_b_X12_ran_168 N (f_X12_ran_168 N n) (fun σ y0 y1 => kr7_f_X12_ran_168 N n σ y0 y1) σ y0 y1
theorem kr7_f_X12_ran_41 (N : Nat) (σ : RS) (x1 : Int32) (x2 : Int32) : KR7 σ (f_X12_ran_41 N σ x1 x2) := by
  unfold f_X12_ran_41
  exact (kr7_ite (kr7_some rfl) (kr7_ite (kr7_some rfl) (kr7_ite (kr7_ite (kr7_some rfl) (kr7_some rfl)) (kr7_ite (kr7_ite (kr7_some rfl) (kr7_ite (kr7_some rfl) kr7_none)) (kr7_ite (kr7_ite (kr7_some rfl) (kr7_ite (kr7_some rfl) kr7_none)) (kr7_ite (kr7_ite (kr7_some rfl) (kr7_ite (kr7_some rfl) kr7_none)) (kr7_st rfl (kr7_f_X12_ran_168 N N σ 0 0))))))))
theorem kr7_f_X12_ran (N : Nat) (σ : RS) (x1 : Int32) : KR7 σ (f_X12_ran N σ x1) := by
  unfold f_X12_ran
  exact (kr7_bind (kr7_st rfl (kr7_f_X12_in N (RS.setI σ 0 0) x1 0 6)) (fun p1 => (kr7_ite (kr7_some rfl) (kr7_ite (kr7_some rfl) (kr7_ite (kr7_st rfl (kr7_f_X12_ran_41 N p1.2 x1 1)) (kr7_st rfl (kr7_f_X12_ran_41 N p1.2 x1 0)))))))
theorem kr7_f_X12_trace_35 (N : Nat) (σ : RS) : KR7 σ (f_X12_trace_35 N σ) := by
  unfold f_X12_trace_35
  exact (kr7_some rfl)
theorem kr7_f_X12_trace (N : Nat) (σ : RS) (x1 : Int32) (x2 : Int32) : KR7 σ (f_X12_trace N σ x1 x2) := by
  unfold f_X12_trace
  exact (kr7_ite (kr7_st rfl (kr7_f_X12_trace_35 N (RS.setI σ 0 0))) (kr7_bind (kr7_st rfl (kr7_f_X12_in N (RS.setI σ 0 0) x1 0 ((σ.i 81) - 1))) (fun p2 => (kr7_ite (kr7_st rfl (kr7_f_X12_trace_35 N p2.2)) (kr7_bind (kr7_st rfl (kr7_f_X12_in N p2.2 x2 0 1)) (fun p5 => (kr7_ite (kr7_st rfl (kr7_f_X12_trace_35 N p5.2)) (kr7_ite (kr7_ite (kr7_some rfl) kr7_none) (kr7_ite (kr7_some rfl) kr7_none)))))))))
theorem kr7_f_X12_suppressed_48 (N : Nat) (σ : RS) : KR7 σ (f_X12_suppressed_48 N σ) := by
  unfold f_X12_suppressed_48
  exact (kr7_some rfl)
theorem kr7_f_X12_suppressed (N : Nat) (σ : RS) (x1 : Int32) (x2 : Int32) : KR7 σ (f_X12_suppressed N σ x1 x2) := by
  unfold f_X12_suppressed
  exact (kr7_ite (kr7_st rfl (kr7_f_X12_suppressed_48 N (RS.setI σ 0 0))) (kr7_ite (kr7_ite (kr7_bind (kr7_st rfl (kr7_f_X12_in N (RS.setI σ 0 0) x1 0 ((σ.a 88 (((σ.i 114) : Int32).toNatClampNeg)) - 1))) (fun p4 => (kr7_ite (kr7_st rfl (kr7_f_X12_suppressed_48 N p4.2)) (kr7_bind (kr7_st rfl (kr7_f_X12_in N p4.2 x2 0 1)) (fun p7 => (kr7_ite (kr7_st rfl (kr7_f_X12_suppressed_48 N p7.2)) (kr7_ite (kr7_ite (kr7_some rfl) kr7_none) (kr7_ite (kr7_some rfl) kr7_none)))))))) kr7_none) (kr7_st rfl (kr7_f_X12_suppressed_48 N (RS.setI σ 0 0)))))
theorem kr7_f_X12_rounds_13 (N : Nat) (σ : RS) : KR7 σ (f_X12_rounds_13 N σ) := by
  unfold f_X12_rounds_13
  exact (kr7_some rfl)
theorem kr7_f_X12_rounds (N : Nat) (σ : RS) (x1 : Int32) (x2 : Int32) : KR7 σ (f_X12_rounds N σ x1 x2) := by
  unfold f_X12_rounds
  exact (kr7_ite (kr7_st rfl (kr7_f_X12_rounds_13 N (RS.setI σ 0 0))) (kr7_ite (kr7_ite (kr7_some rfl) (kr7_ite kr7_none (kr7_ite (kr7_some rfl) (kr7_some rfl)))) (kr7_st rfl (kr7_f_X12_rounds_13 N (RS.setI σ 0 0)))))
