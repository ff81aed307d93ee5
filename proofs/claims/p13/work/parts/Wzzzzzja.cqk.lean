section
/-! the code: what the calls leave -/
abbrev QLT : Type := (Nat → Int32) × (Nat → Int32) × (Nat → Int32) × Int32
/-! the class: what the plain calls leave -/
def pQl (s : CS) : QLT := (CS.a s 15, CS.a s 16, CS.a s 17, CS.i s 23)
def Kql {α : Type} (v : QLT) (t : Option (α × CS)) : Prop := ∀ R, t = some R → pQl R.2 = v
theorem kql_some {α : Type} {v : QLT} {r : α × CS} (h : pQl r.2 = v) : Kql v (some r) := fun R q => by
  cases q
  exact h
theorem kql_none {α : Type} {v : QLT} : Kql v (none : Option (α × CS)) := fun R q => by cases q
theorem kql_ite {α : Type} {v : QLT} {c : Prop} [Decidable c] {x y : Option (α × CS)} (hx : Kql v x) (hy : Kql v y) : Kql v (if c then x else y) := by
  by_cases h : c
  · rw [if_pos h]; exact hx
  · rw [if_neg h]; exact hy
theorem kql_bind {α β : Type} {v : QLT} {x : Option (α × CS)} {g : α × CS → Option (β × CS)} (hx : Kql v x) (hk : ∀ p : α × CS, Kql (pQl p.2) (g p)) : Kql v (x.bind g) := by
  intro R h
  obtain ⟨p, h1, h2⟩ := hf_bind h
  exact (hk p R h2).trans (hx p h1)
theorem kql_oc {α β : Type} {v : QLT} {r : Option α} {x : Option (β × CS)} {g : α → Option (β × CS)} (hx : Kql v x) (hf : ∀ a, Kql v (g a)) : Kql v (oCase r x g) := by
  cases r with
  | none => exact hx
  | some a => exact hf a
theorem kql_le {α : Type} {v w : QLT} {t : Option (α × CS)} (h : v = w) (ht : Kql v t) : Kql w t := by rw [← h]; exact ht
theorem kQ_X10_isKind_16 (N : Nat) (σ : CS) : Kql (pQl σ) (f_X10_isKind_16 N σ ) := by
  unfold f_X10_isKind_16
  exact (kql_some (rfl))
theorem kQ_X10_isKind (N : Nat) (σ : CS) (x1 : Int32) : Kql (pQl σ) (f_X10_isKind N σ x1) := by
  unfold f_X10_isKind
  exact (kql_ite (kQ_X10_isKind_16 N σ) (kql_ite (kQ_X10_isKind_16 N σ) (kql_some (rfl))))
theorem kQ_X10_isUnder_38 (N : Nat) (σ : CS) : Kql (pQl σ) (f_X10_isUnder_38 N σ ) := by
  unfold f_X10_isUnder_38
  exact (kql_some (rfl))
theorem kQb_X10_isUnder_5 (N : Nat) (K : CS → Int32 → Int32 → Int32 → Option (Int32 × CS)) (hMK : ∀ (σ : CS) (x2 : Int32) (x3 : Int32) (x4 : Int32), Kql (pQl σ) (K σ x2 x3 x4)) (σ : CS) (x2 : Int32) (x3 : Int32) (x4 : Int32) : Kql (pQl σ) (b_X10_isUnder_5 N K σ x2 x3 x4) := by
  unfold b_X10_isUnder_5
  exact (kql_ite (kQ_X10_isUnder_38 N σ) (kql_ite (kQ_X10_isUnder_38 N σ) (kql_ite (kql_some (rfl)) (hMK σ x2 (gAt (σ.a 9) 12 x3) (x4 + 1)))))
theorem kQ_X10_isUnder_5 (N : Nat) : ∀ (n : Nat) (σ : CS) (x2 : Int32) (x3 : Int32) (x4 : Int32), Kql (pQl σ) (f_X10_isUnder_5 N n σ x2 x3 x4)
  | 0, _, _, _, _ => kql_none
  | n+1, σ, x2, x3, x4 => kQb_X10_isUnder_5 N (f_X10_isUnder_5 N n) (fun σ x2 x3 x4 => kQ_X10_isUnder_5 N n σ x2 x3 x4) σ x2 x3 x4
theorem kQ_X10_isUnder (N : Nat) (σ : CS) (x1 : Int32) (x2 : Int32) : Kql (pQl σ) (f_X10_isUnder N σ x1 x2) := by
  unfold f_X10_isUnder
  exact (kQ_X10_isUnder_5 N N σ x2 x1 0)
theorem kQ_X3_lastThrown (N : Nat) (σ : CS) : Kql (pQl σ) (f_X3_lastThrown N σ) := by
  unfold f_X3_lastThrown
  exact (kql_ite (kql_oc (kql_some (rfl)) (fun a3 => (kql_some (rfl)))) (kql_some (rfl)))
theorem kQ_X3_answer (N : Nat) (σ : CS) (x1 : Int32) : Kql (pQl σ) (f_X3_answer N σ x1) := by
  unfold f_X3_answer
  exact (kql_bind (kQ_X3_lastThrown N σ) (fun p1 => (kql_oc (kql_ite (kql_some (rfl)) (kql_ite (kql_some (rfl)) (kql_ite (kql_ite (kql_some (rfl)) (kql_some (rfl))) (kql_ite (kql_some (rfl)) (kql_ite (kql_some (rfl)) (kql_ite (kql_some (rfl)) (kql_some (rfl)))))))) (fun a6 => (kql_ite (kql_some (rfl)) (kql_ite (kql_some (rfl)) (kql_ite (kql_ite (kql_some (rfl)) (kql_some (rfl))) (kql_ite (kql_ite (kql_some (rfl)) kql_none) (kql_ite (kql_ite (kql_some (rfl)) kql_none) (kql_ite (kql_ite (kql_some (rfl)) kql_none) (kql_some (rfl))))))))))))
theorem kQ_X10_isFull (N : Nat) (σ : CS) : Kql (pQl σ) (f_X10_isFull N σ) := by
  unfold f_X10_isFull
  exact (kql_ite (kql_some (rfl)) (kql_some (rfl)))
theorem kQ_X10_addKind (N : Nat) (σ : CS) (x1 : Int32) : Kql (pQl σ) (f_X10_addKind N σ x1) := by
  unfold f_X10_addKind
  exact (kql_some (rfl))
theorem kQ_X10_tellResource (N : Nat) (σ : CS) (x1 : Int32) (x2 : Int32) (x3 : Int32) (x4 : Int32) : Kql (pQl σ) (f_X10_tellResource N σ x1 x2 x3 x4) := by
  unfold f_X10_tellResource
  exact (kql_some (rfl))
theorem kQ_X11_cut_12 (N : Nat) (σ : CS) : Kql (pQl σ) (f_X11_cut_12 N σ ) := by
  unfold f_X11_cut_12
  exact (kql_some (rfl))
theorem kQ_X11_cut (N : Nat) (σ : CS) (x1 : Int32) : Kql (pQl σ) (f_X11_cut N σ x1) := by
  unfold f_X11_cut
  exact (kql_ite (kQ_X11_cut_12 N σ) (kql_ite (kql_some (rfl)) (kQ_X11_cut_12 N σ)))
theorem kQ_X11_kind (N : Nat) (σ : CS) (x1 : Int32) : Kql (pQl σ) (f_X11_kind N σ x1) := by
  unfold f_X11_kind
  exact (kql_bind (kQ_X10_isKind N σ x1) (fun p1 => (kql_ite (kql_some (rfl)) (kql_bind (kQ_X10_isFull N p1.2) (fun p6 => (kql_ite (kql_bind (kQ_X10_addKind N p6.2 x1) (fun p11 => (kql_some (rfl)))) (kql_some (rfl))))))))
theorem kQ_X11_isKindOrNothing_16 (N : Nat) (σ : CS) : Kql (pQl σ) (f_X11_isKindOrNothing_16 N σ ) := by
  unfold f_X11_isKindOrNothing_16
  exact (kql_some (rfl))
theorem kQ_X11_isKindOrNothing (N : Nat) (σ : CS) (x1 : Int32) : Kql (pQl σ) (f_X11_isKindOrNothing N σ x1) := by
  unfold f_X11_isKindOrNothing
  exact (kql_ite (kQ_X11_isKindOrNothing_16 N σ) (kql_bind (kQ_X10_isKind N σ x1) (fun p2 => (kql_ite (kql_some (rfl)) (kQ_X11_isKindOrNothing_16 N p2.2)))))
theorem kQ_X11_resource_19 (N : Nat) (σ : CS) : Kql (pQl σ) (f_X11_resource_19 N σ ) := by
  unfold f_X11_resource_19
  exact (kql_some (rfl))
theorem kQ_X11_resource_38 (N : Nat) (σ : CS) : Kql (pQl σ) (f_X11_resource_38 N σ ) := by
  unfold f_X11_resource_38
  exact (kql_some (rfl))
theorem kQ_X11_resource (N : Nat) (σ : CS) (x1 : Int32) (x2 : Int32) (x3 : Int32) (x4 : Int32) : Kql (pQl σ) (f_X11_resource N σ x1 x2 x3 x4) := by
  unfold f_X11_resource
  exact (kql_ite (kQ_X11_resource_19 N σ) (kql_ite (kQ_X11_resource_19 N σ) (kql_ite (kQ_X11_resource_19 N σ) (kql_ite (kql_bind (kQ_X11_isKindOrNothing N σ x3) (fun p5 => (kql_ite (kQ_X11_resource_38 N p5.2) (kql_bind (kQ_X11_isKindOrNothing N p5.2 x4) (fun p10 => (kql_ite (kQ_X11_resource_38 N p10.2) (kql_bind (kQ_X10_tellResource N p10.2 x1 x2 x3 x4) (fun p15 => (kql_some (rfl)))))))))) (kQ_X11_resource_19 N σ)))))
theorem kQ_X11_asserts_16 (N : Nat) (σ : CS) (x1 : Int32) (x2 : Int32) : Kql (pQl σ) (f_X11_asserts_16 N σ x1 x2) := by
  unfold f_X11_asserts_16
  exact (kql_ite (kql_some (rfl)) kql_none)
theorem kQ_X11_asserts (N : Nat) (σ : CS) (x1 : Int32) : Kql (pQl σ) (f_X11_asserts N σ x1) := by
  unfold f_X11_asserts
  exact (kql_ite (kQ_X11_asserts_16 N σ x1 0) (kQ_X11_asserts_16 N σ x1 1))
theorem kQ_X11_fault (N : Nat) (σ : CS) : Kql (pQl σ) (f_X11_fault N σ) := by
  unfold f_X11_fault
  exact (kql_some (rfl))
theorem kQ_X11_program_9 (N : Nat) (σ : CS) : Kql (pQl σ) (f_X11_program_9 N σ ) := by
  unfold f_X11_program_9
  exact (kql_some (rfl))
theorem kQ_X11_program (N : Nat) (σ : CS) (x1 : Int32) : Kql (pQl σ) (f_X11_program N σ x1) := by
  unfold f_X11_program
  exact (kql_ite (kQ_X11_program_9 N σ) (kql_ite (kql_ite (kql_some (rfl)) (kql_ite (kql_some (rfl)) (kql_ite (kql_ite (kql_some (rfl)) (kql_some (rfl))) (kql_ite (kql_some (rfl)) (kql_some (rfl)))))) (kQ_X11_program_9 N σ)))
theorem kQ_X11_ran_10 (N : Nat) (σ : CS) : Kql (pQl σ) (f_X11_ran_10 N σ ) := by
  unfold f_X11_ran_10
  exact (kql_some (rfl))
theorem kQ_X11_ran (N : Nat) (σ : CS) (x1 : Int32) : Kql (pQl σ) (f_X11_ran N σ x1) := by
  unfold f_X11_ran
  exact (kql_ite (kQ_X11_ran_10 N σ) (kql_ite (kql_ite (kql_some (rfl)) (kql_bind (kQ_X3_answer N σ x1) (fun p4 => (kql_some (rfl))))) (kQ_X11_ran_10 N σ)))
theorem kQ_X11_trace_31 (N : Nat) (σ : CS) : Kql (pQl σ) (f_X11_trace_31 N σ ) := by
  unfold f_X11_trace_31
  exact (kql_some (rfl))
theorem kQ_X11_trace (N : Nat) (σ : CS) (x1 : Int32) (x2 : Int32) : Kql (pQl σ) (f_X11_trace N σ x1 x2) := by
  unfold f_X11_trace
  exact (kql_ite (kQ_X11_trace_31 N σ) (kql_ite (kQ_X11_trace_31 N σ) (kql_ite (kQ_X11_trace_31 N σ) (kql_ite (kQ_X11_trace_31 N σ) (kql_ite (kql_some (rfl)) (kQ_X11_trace_31 N σ))))))
theorem kQ_X11_suppressed_44 (N : Nat) (σ : CS) : Kql (pQl σ) (f_X11_suppressed_44 N σ ) := by
  unfold f_X11_suppressed_44
  exact (kql_some (rfl))
theorem kQ_X11_suppressed_19 (N : Nat) (σ : CS) (x1 : Int32) (x2 : Int32) (x3 : Option Nat) : Kql (pQl σ) (f_X11_suppressed_19 N σ x1 x2 x3) := by
  unfold f_X11_suppressed_19
  exact (kql_oc (kQ_X11_suppressed_44 N σ) (fun a3 => (kql_ite (kQ_X11_suppressed_44 N σ) (kql_ite (kql_ite (kQ_X11_suppressed_44 N σ) (kql_ite (kQ_X11_suppressed_44 N σ) (kql_ite (kql_ite (kql_ite (kql_some (rfl)) kql_none) (kql_ite (kql_some (rfl)) kql_none)) (kQ_X11_suppressed_44 N σ)))) kql_none))))
theorem kQ_X11_suppressed (N : Nat) (σ : CS) (x1 : Int32) (x2 : Int32) : Kql (pQl σ) (f_X11_suppressed N σ x1 x2) := by
  unfold f_X11_suppressed
  exact (kql_ite (kQ_X11_suppressed_19 N σ x1 x2 none) (kql_bind (kQ_X3_lastThrown N σ) (fun p16 => (kql_oc (kQ_X11_suppressed_19 N p16.2 x1 x2 none) (fun a21 => (kQ_X11_suppressed_19 N p16.2 x1 x2 (some a21)))))))
theorem kQ_X11_under_22 (N : Nat) (σ : CS) : Kql (pQl σ) (f_X11_under_22 N σ ) := by
  unfold f_X11_under_22
  exact (kql_some (rfl))
theorem kQ_X11_under (N : Nat) (σ : CS) (x1 : Int32) (x2 : Int32) : Kql (pQl σ) (f_X11_under N σ x1 x2) := by
  unfold f_X11_under
  exact (kql_bind (kQ_X10_isKind N σ x1) (fun p1 => (kql_ite (kQ_X11_under_22 N p1.2) (kql_bind (kQ_X10_isKind N p1.2 x2) (fun p6 => (kql_ite (kQ_X11_under_22 N p6.2) (kql_bind (kQ_X10_isUnder N p6.2 x1 x2) (fun p11 => (kql_ite (kql_some (rfl)) (kql_some (rfl)))))))))))
abbrev RQT : Type := Int32 × Int32 × (Nat → Int32) × (Nat → Int32) × (Nat → Int32) × (Nat → Int32) × (Nat → Int32) × (Nat → Int32) × (Nat → Int32) × (Nat → Int32) × (Nat → Int32) × (Nat → Int32) × (Nat → Int32) × (Nat → Int32) × (Nat → Int32) × (Nat → Int32) × (Nat → Int32) × (Nat → Int32) × (Nat → Int32)
def pRq (s : RS) : RQT := (s.i 18, s.i 20, s.a 21, s.a 22, s.a 23, s.a 24, s.a 25, s.a 26, s.a 27, s.a 28, s.a 29, s.a 30, s.a 31, s.a 32, s.a 33, s.a 34, s.a 35, s.a 36, s.a 37)
def KSc5 (s r : RS) : Prop := pRq r = pRq s
theorem KSc5.tr {s r u : RS} (h : KSc5 s r) (g : KSc5 r u) : KSc5 s u := Eq.trans g h
def KRc5 {α : Type} (s : RS) (t : Option (α × RS)) : Prop := ∀ R, t = some R → KSc5 s R.2
def KVc5 (s : RS) (t : Option RS) : Prop := ∀ R, t = some R → KSc5 s R
theorem krc5_some {α : Type} {s : RS} {r : α × RS} (h : KSc5 s r.2) : KRc5 s (some r) := fun R q => by
  cases q
  exact h
theorem kvc5_some {s r : RS} (h : KSc5 s r) : KVc5 s (some r) := fun R q => by
  cases q
  exact h
theorem krc5_none {α : Type} {s : RS} : KRc5 s (none : Option (α × RS)) := fun R q => by cases q
theorem kvc5_none {s : RS} : KVc5 s (none : Option RS) := fun R q => by cases q
theorem krc5_ite {α : Type} {s : RS} {c : Prop} [Decidable c] {x y : Option (α × RS)} (hx : KRc5 s x) (hy : KRc5 s y) : KRc5 s (if c then x else y) := by
  by_cases h : c
  · rw [if_pos h]; exact hx
  · rw [if_neg h]; exact hy
theorem kvc5_ite {s : RS} {c : Prop} [Decidable c] {x y : Option RS} (hx : KVc5 s x) (hy : KVc5 s y) : KVc5 s (if c then x else y) := by
  by_cases h : c
  · rw [if_pos h]; exact hx
  · rw [if_neg h]; exact hy
theorem krc5_st {α : Type} {s r : RS} {t : Option (α × RS)} (h : KSc5 s r) (g : KRc5 r t) : KRc5 s t := fun R q => h.tr (g R q)
theorem kvc5_st {s r : RS} {t : Option RS} (h : KSc5 s r) (g : KVc5 r t) : KVc5 s t := fun R q => h.tr (g R q)
theorem krc5_bind {α β : Type} {s : RS} {x : Option (α × RS)} {k : α × RS → Option (β × RS)} (hx : KRc5 s x) (hk : ∀ p : α × RS, KRc5 p.2 (k p)) : KRc5 s (x.bind k) := by
  intro R h
  obtain ⟨p, h1, h2⟩ := hf_bind h
  exact (hx p h1).tr (hk p R h2)
theorem krc5_bindv {β : Type} {s : RS} {x : Option RS} {k : RS → Option (β × RS)} (hx : KVc5 s x) (hk : ∀ p : RS, KRc5 p (k p)) : KRc5 s (x.bind k) := by
  intro R h
  obtain ⟨p, h1, h2⟩ := hf_bind h
  exact (hx p h1).tr (hk p R h2)
theorem kvc5_bind {α : Type} {s : RS} {x : Option (α × RS)} {k : α × RS → Option RS} (hx : KRc5 s x) (hk : ∀ p : α × RS, KVc5 p.2 (k p)) : KVc5 s (x.bind k) := by
  intro R h
  obtain ⟨p, h1, h2⟩ := hf_bind h
  exact (hx p h1).tr (hk p R h2)
theorem kvc5_bindv {s : RS} {x : Option RS} {k : RS → Option RS} (hx : KVc5 s x) (hk : ∀ p : RS, KVc5 p (k p)) : KVc5 s (x.bind k) := by
  intro R h
  obtain ⟨p, h1, h2⟩ := hf_bind h
  exact (hx p h1).tr (hk p R h2)
theorem krc5_f_X12_in_14 (N : Nat) (σ : RS) : KRc5 σ (f_X12_in_14 N σ) := by
  unfold f_X12_in_14
  exact (krc5_some rfl)
theorem krc5_f_X12_in (N : Nat) (σ : RS) (x0 : Int32) (x1 : Int32) (x2 : Int32) : KRc5 σ (f_X12_in N σ x0 x1 x2) := by
  unfold f_X12_in
  exact (krc5_ite (krc5_st rfl (krc5_f_X12_in_14 N σ)) (krc5_ite (krc5_st rfl (krc5_f_X12_in_14 N σ)) (krc5_some rfl)))
theorem krc5_f_X12_isUnder_21 (N : Nat) (σ : RS) (x2 : Int32) (x3 : Int32) : KRc5 σ (f_X12_isUnder_21 N σ x2 x3) := by
  unfold f_X12_isUnder_21
  exact (krc5_ite (krc5_some rfl) (krc5_some rfl))
theorem krc5_b_X12_isUnder_2 (N : Nat) (K : RS → Int32 → Int32 → Option (Int32 × RS)) (hK : ∀ (σ : RS) (y0 : Int32) (y1 : Int32), KRc5 σ (K σ y0 y1)) (σ : RS) (x2 : Int32) (x3 : Int32) : KRc5 σ (b_X12_isUnder_2 N K σ x2 x3) := by
  unfold b_X12_isUnder_2
  exact (krc5_ite (krc5_st rfl (krc5_f_X12_isUnder_21 N σ x2 x3)) (krc5_ite (krc5_st rfl (krc5_f_X12_isUnder_21 N σ x2 x3)) (krc5_ite (krc5_st rfl (hK σ x2 (σ.a 4 ((x3 : Int32).toNatClampNeg)))) krc5_none)))
theorem krc5_f_X12_isUnder_2 (N : Nat) : ∀ (n : Nat) (σ : RS) (y0 : Int32) (y1 : Int32), KRc5 σ (f_X12_isUnder_2 N n σ y0 y1)
  | 0, _, _, _ => krc5_none
  | n+1, σ, y0, y1 => krc5_b_X12_isUnder_2 N (f_X12_isUnder_2 N n) (fun σ y0 y1 => krc5_f_X12_isUnder_2 N n σ y0 y1) σ y0 y1
theorem krc5_f_X12_isUnder (N : Nat) (σ : RS) (x1 : Int32) (x2 : Int32) : KRc5 σ (f_X12_isUnder N σ x1 x2) := by
  unfold f_X12_isUnder
  exact (krc5_st rfl (krc5_f_X12_isUnder_2 N N σ x2 x1))
theorem krc5_f_X12_under_33 (N : Nat) (σ : RS) : KRc5 σ (f_X12_under_33 N σ) := by
  unfold f_X12_under_33
  exact (krc5_some rfl)
theorem krc5_f_X12_under (N : Nat) (σ : RS) (x1 : Int32) (x2 : Int32) : KRc5 σ (f_X12_under N σ x1 x2) := by
  unfold f_X12_under
  exact (krc5_bind (krc5_st rfl (krc5_f_X12_in N (RS.setI σ 0 0) x1 0 ((σ.i 3) - 1))) (fun p1 => (krc5_ite (krc5_st rfl (krc5_f_X12_under_33 N p1.2)) (krc5_bind (krc5_st rfl (krc5_f_X12_in N p1.2 x2 0 ((p1.2.i 3) - 1))) (fun p4 => (krc5_ite (krc5_st rfl (krc5_f_X12_under_33 N p4.2)) (krc5_bind (krc5_st rfl (krc5_f_X12_isUnder N p4.2 x1 x2)) (fun p7 => (krc5_ite (krc5_some rfl) (krc5_some rfl))))))))))
theorem krc5_f_X12_resource_53 (N : Nat) (σ : RS) : KRc5 σ (f_X12_resource_53 N σ) := by
  unfold f_X12_resource_53
  exact (krc5_some rfl)
theorem krc5_f_X12_resource_71 (N : Nat) (σ : RS) (x1 : Int32) (x3 : Int32) (x4 : Int32) : KRc5 σ (f_X12_resource_71 N σ x1 x3 x4) := by
  unfold f_X12_resource_71
  exact (krc5_ite (krc5_some rfl) krc5_none)
theorem krc5_f_X12_resource (N : Nat) (σ : RS) (x1 : Int32) (x2 : Int32) (x3 : Int32) (x4 : Int32) : KRc5 σ (f_X12_resource N σ x1 x2 x3 x4) := by
  unfold f_X12_resource
  exact (krc5_bind (krc5_st rfl (krc5_f_X12_in N (RS.setI σ 0 0) x1 0 7)) (fun p1 => (krc5_ite (krc5_st rfl (krc5_f_X12_resource_53 N p1.2)) (krc5_bind (krc5_st rfl (krc5_f_X12_in N p1.2 x2 0 1)) (fun p4 => (krc5_ite (krc5_st rfl (krc5_f_X12_resource_53 N p4.2)) (krc5_bind (krc5_st rfl (krc5_f_X12_in N p4.2 x3 (-1) ((p4.2.i 3) - 1))) (fun p7 => (krc5_ite (krc5_st rfl (krc5_f_X12_resource_53 N p7.2)) (krc5_bind (krc5_st rfl (krc5_f_X12_in N p7.2 x4 (-1) ((p7.2.i 3) - 1))) (fun p10 => (krc5_ite (krc5_st rfl (krc5_f_X12_resource_53 N p10.2)) (krc5_ite (krc5_ite (krc5_st rfl (krc5_f_X12_resource_71 N (RS.setA p10.2 5 ((x1 : Int32).toNatClampNeg) 1) x1 x3 x4)) krc5_none) (krc5_ite (krc5_st rfl (krc5_f_X12_resource_71 N (RS.setA p10.2 5 ((x1 : Int32).toNatClampNeg) 0) x1 x3 x4)) krc5_none))))))))))))))
theorem krc5_f_X12_fault (N : Nat) (σ : RS) : KRc5 σ (f_X12_fault N σ) := by
  unfold f_X12_fault
  exact (krc5_some rfl)
theorem krc5_f_X12_program (N : Nat) (σ : RS) (x1 : Int32) : KRc5 σ (f_X12_program N σ x1) := by
  unfold f_X12_program
  exact (krc5_bind (krc5_st rfl (krc5_f_X12_in N (RS.setI σ 0 0) x1 0 3)) (fun p1 => (krc5_ite (krc5_some rfl) (krc5_ite (krc5_some rfl) (krc5_ite (krc5_some rfl) (krc5_ite (krc5_ite (krc5_some rfl) (krc5_some rfl)) (krc5_ite (krc5_some rfl) (krc5_some rfl))))))))
theorem krc5_f_X12_row (N : Nat) (σ : RS) (x1 : Int32) (x2 : Int32) : KVc5 σ (f_X12_row N σ x1 x2) := by
  unfold f_X12_row
  exact (kvc5_ite (kvc5_some rfl) (kvc5_ite (kvc5_some rfl) kvc5_none))
theorem krc5_f_X12_record (N : Nat) (σ : RS) (x1 : Int32) (x2 : Int32) (x3 : Int32) (x4 : Int32) : KRc5 σ (f_X12_record N σ x1 x2 x3 x4) := by
  unfold f_X12_record
  exact (krc5_ite (krc5_some rfl) krc5_none)
theorem krc5_f_X12_put (N : Nat) (σ : RS) (x1 : Int32) : KVc5 σ (f_X12_put N σ x1) := by
  unfold f_X12_put
  exact (kvc5_ite (kvc5_some rfl) kvc5_none)
theorem krc5_f_X12_take (N : Nat) (σ : RS) : KRc5 σ (f_X12_take N σ) := by
  unfold f_X12_take
  exact (krc5_ite (krc5_some rfl) krc5_none)
theorem krc5_f_X12_raise_24 (N : Nat) (σ : RS) (x1 : Int32) (x2 : Int32) : KVc5 σ (f_X12_raise_24 N σ x1 x2) := by
  unfold f_X12_raise_24
  exact (kvc5_ite (kvc5_some rfl) kvc5_none)
theorem krc5_f_X12_raise (N : Nat) (σ : RS) (x1 : Int32) (x2 : Int32) : KVc5 σ (f_X12_raise N σ x1 x2) := by
  unfold f_X12_raise
  exact (kvc5_ite (kvc5_st rfl (krc5_f_X12_raise_24 N (RS.setI σ 114 3199) x1 x2)) (kvc5_st rfl (krc5_f_X12_raise_24 N (RS.setI σ 114 (σ.i 85)) x1 x2)))
theorem krc5_b_X12_closeAll_0 (N : Nat) (K : RS → Int32 → Option (RS)) (hK : ∀ (σ : RS) (y0 : Int32), KVc5 σ (K σ y0)) (σ : RS) (x1 : Int32) : KVc5 σ (b_X12_closeAll_0 N K σ x1) := by
  unfold b_X12_closeAll_0
  exact (kvc5_ite (kvc5_ite (kvc5_some rfl) (kvc5_ite (kvc5_bindv (kvc5_st rfl (krc5_f_X12_row N (RS.setI σ 95 ((σ.i 95) - 1)) 2 (σ.a 96 ((((σ.i 95) - 1) : Int32).toNatClampNeg)))) (fun p4 => (kvc5_ite (kvc5_ite (kvc5_st rfl (hK p4 x1)) (kvc5_ite (kvc5_ite (kvc5_ite (kvc5_st rfl (hK p4 x1)) (kvc5_ite (kvc5_st rfl (hK (RS.setA (RS.setA (RS.setA p4 89 ((((8 * (p4.i 114)) + (p4.a 88 (((p4.i 114) : Int32).toNatClampNeg))) : Int32).toNatClampNeg) ((p4.a 7 (((σ.a 96 ((((σ.i 95) - 1) : Int32).toNatClampNeg)) : Int32).toNatClampNeg)) - 1)) 90 ((((8 * (p4.i 114)) + (p4.a 88 (((p4.i 114) : Int32).toNatClampNeg))) : Int32).toNatClampNeg) (σ.a 96 ((((σ.i 95) - 1) : Int32).toNatClampNeg))) 88 (((p4.i 114) : Int32).toNatClampNeg) ((p4.a 88 (((p4.i 114) : Int32).toNatClampNeg)) + 1)) x1)) kvc5_none)) kvc5_none) (kvc5_bindv (kvc5_st rfl (krc5_f_X12_raise N p4 ((p4.a 7 (((σ.a 96 ((((σ.i 95) - 1) : Int32).toNatClampNeg)) : Int32).toNatClampNeg)) - 1) (σ.a 96 ((((σ.i 95) - 1) : Int32).toNatClampNeg)))) (fun p14 => (kvc5_st rfl (hK p14 x1)))))) kvc5_none))) kvc5_none)) kvc5_none)
theorem krc5_f_X12_closeAll_0 (N : Nat) : ∀ (n : Nat) (σ : RS) (y0 : Int32), KVc5 σ (f_X12_closeAll_0 N n σ y0)
  | 0, _, _ => kvc5_none
  | n+1, σ, y0 => krc5_b_X12_closeAll_0 N (f_X12_closeAll_0 N n) (fun σ y0 => krc5_f_X12_closeAll_0 N n σ y0) σ y0
theorem krc5_f_X12_closeAll (N : Nat) (σ : RS) (x1 : Int32) : KVc5 σ (f_X12_closeAll N σ x1) := by
  unfold f_X12_closeAll
  exact (kvc5_st rfl (krc5_f_X12_closeAll_0 N N σ x1))
theorem krc5_f_X12_finals (N : Nat) (σ : RS) (x1 : Int32) : KRc5 σ (f_X12_finals N σ x1) := by
  unfold f_X12_finals
  exact (krc5_ite (krc5_ite (krc5_ite (krc5_some rfl) (krc5_some rfl)) krc5_none) krc5_none)
theorem krc5_b_X12_isCaught_12 (N : Nat) (K : RS → Int32 → Int32 → Option (Int32 × RS)) (hK : ∀ (σ : RS) (y0 : Int32) (y1 : Int32), KRc5 σ (K σ y0 y1)) (σ : RS) (x1 : Int32) (x2 : Int32) : KRc5 σ (b_X12_isCaught_12 N K σ x1 x2) := by
  unfold b_X12_isCaught_12
  exact (krc5_ite (krc5_some rfl) (krc5_ite (krc5_ite (krc5_bind (krc5_st rfl (krc5_f_X12_isUnder N σ (σ.a 86 (((σ.i 114) : Int32).toNatClampNeg)) (σ.a 34 ((x2 : Int32).toNatClampNeg)))) (fun p6 => (krc5_ite (krc5_st rfl (hK p6.2 x1 (p6.2.a 37 ((x2 : Int32).toNatClampNeg)))) (krc5_ite (krc5_ite (krc5_some rfl) krc5_none) krc5_none)))) krc5_none) krc5_none))
theorem krc5_f_X12_isCaught_12 (N : Nat) : ∀ (n : Nat) (σ : RS) (y0 : Int32) (y1 : Int32), KRc5 σ (f_X12_isCaught_12 N n σ y0 y1)
  | 0, _, _, _ => krc5_none
  | n+1, σ, y0, y1 => krc5_b_X12_isCaught_12 N (f_X12_isCaught_12 N n) (fun σ y0 y1 => krc5_f_X12_isCaught_12 N n σ y0 y1) σ y0 y1
theorem krc5_f_X12_isCaught (N : Nat) (σ : RS) (x1 : Int32) : KRc5 σ (f_X12_isCaught N σ x1) := by
  unfold f_X12_isCaught
  exact (krc5_ite (krc5_ite (krc5_st rfl (krc5_f_X12_isCaught_12 N N σ x1 (σ.a 30 (((σ.a 101 ((x1 : Int32).toNatClampNeg)) : Int32).toNatClampNeg)))) krc5_none) krc5_none)
theorem krc5_b_X12_leave_0 (N : Nat) (K : RS → Option (RS)) (hK : ∀ (σ : RS), KVc5 σ (K σ)) (σ : RS) : KVc5 σ (b_X12_leave_0 N K σ) := by
  unfold b_X12_leave_0
  exact (kvc5_ite (kvc5_ite (kvc5_some rfl) (kvc5_ite (kvc5_ite (kvc5_bindv (kvc5_st rfl (krc5_f_X12_row N σ 4 (σ.a 101 ((((σ.i 99) - 1) : Int32).toNatClampNeg)))) (fun p27 => (kvc5_ite (kvc5_st rfl (hK (RS.setI (RS.setA p27 91 (((p27.a 101 ((((σ.i 99) - 1) : Int32).toNatClampNeg)) : Int32).toNatClampNeg) ((p27.a 91 (((p27.a 101 ((((σ.i 99) - 1) : Int32).toNatClampNeg)) : Int32).toNatClampNeg)) - 1)) 99 ((p27.i 99) - 1)))) kvc5_none))) (kvc5_ite (kvc5_st rfl (hK (RS.setI (RS.setI σ 97 (σ.a 101 ((((σ.i 99) - 1) : Int32).toNatClampNeg))) 99 ((σ.i 99) - 1)))) (kvc5_ite (kvc5_ite (kvc5_bindv (kvc5_st rfl (krc5_f_X12_closeAll N σ ((σ.i 99) - 1))) (fun p13 => (kvc5_ite (kvc5_bind (krc5_st rfl (krc5_f_X12_isCaught N p13 ((σ.i 99) - 1))) (fun p20 => (kvc5_ite (kvc5_ite (kvc5_st rfl (hK (RS.setI p20.2 99 ((p20.2.i 99) - 1)))) (kvc5_bind (krc5_st rfl (krc5_f_X12_finals N p20.2 ((σ.i 99) - 1))) (fun p24 => (kvc5_ite (kvc5_st rfl (hK (RS.setI p24.2 99 ((p24.2.i 99) - 1)))) (kvc5_some rfl))))) (kvc5_some rfl)))) (kvc5_ite (kvc5_st rfl (hK (RS.setI p13 99 ((p13.i 99) - 1)))) (kvc5_bind (krc5_st rfl (krc5_f_X12_finals N p13 ((σ.i 99) - 1))) (fun p17 => (kvc5_ite (kvc5_st rfl (hK (RS.setI p17.2 99 ((p17.2.i 99) - 1)))) (kvc5_some rfl)))))))) (kvc5_ite (kvc5_st rfl (hK (RS.setI σ 99 ((σ.i 99) - 1)))) (kvc5_bind (krc5_st rfl (krc5_f_X12_finals N σ ((σ.i 99) - 1))) (fun p10 => (kvc5_ite (kvc5_st rfl (hK (RS.setI p10.2 99 ((p10.2.i 99) - 1)))) (kvc5_some rfl)))))) (kvc5_st rfl (hK (RS.setI σ 99 ((σ.i 99) - 1))))))) kvc5_none)) (kvc5_ite (kvc5_ite (kvc5_ite (kvc5_bindv (kvc5_st rfl (krc5_f_X12_put N (RS.setI (RS.setI σ 99 ((σ.i 99) - 1)) 93 (σ.a 104 ((((σ.i 99) - 1) : Int32).toNatClampNeg))) (σ.i 113))) (fun p64 => (kvc5_ite (kvc5_ite (kvc5_some rfl) kvc5_none) kvc5_none))) kvc5_none) (kvc5_ite (kvc5_ite (kvc5_bindv (kvc5_st rfl (krc5_f_X12_row N σ 4 (σ.a 101 ((((σ.i 99) - 1) : Int32).toNatClampNeg)))) (fun p91 => (kvc5_ite (kvc5_st rfl (hK (RS.setI (RS.setA p91 91 (((p91.a 101 ((((σ.i 99) - 1) : Int32).toNatClampNeg)) : Int32).toNatClampNeg) ((p91.a 91 (((p91.a 101 ((((σ.i 99) - 1) : Int32).toNatClampNeg)) : Int32).toNatClampNeg)) - 1)) 99 ((p91.i 99) - 1)))) kvc5_none))) (kvc5_ite (kvc5_st rfl (hK (RS.setI (RS.setI σ 97 (σ.a 101 ((((σ.i 99) - 1) : Int32).toNatClampNeg))) 99 ((σ.i 99) - 1)))) (kvc5_ite (kvc5_ite (kvc5_bindv (kvc5_st rfl (krc5_f_X12_closeAll N σ ((σ.i 99) - 1))) (fun p77 => (kvc5_ite (kvc5_bind (krc5_st rfl (krc5_f_X12_isCaught N p77 ((σ.i 99) - 1))) (fun p84 => (kvc5_ite (kvc5_ite (kvc5_st rfl (hK (RS.setI p84.2 99 ((p84.2.i 99) - 1)))) (kvc5_bind (krc5_st rfl (krc5_f_X12_finals N p84.2 ((σ.i 99) - 1))) (fun p88 => (kvc5_ite (kvc5_st rfl (hK (RS.setI p88.2 99 ((p88.2.i 99) - 1)))) (kvc5_some rfl))))) (kvc5_some rfl)))) (kvc5_ite (kvc5_st rfl (hK (RS.setI p77 99 ((p77.i 99) - 1)))) (kvc5_bind (krc5_st rfl (krc5_f_X12_finals N p77 ((σ.i 99) - 1))) (fun p81 => (kvc5_ite (kvc5_st rfl (hK (RS.setI p81.2 99 ((p81.2.i 99) - 1)))) (kvc5_some rfl)))))))) (kvc5_ite (kvc5_st rfl (hK (RS.setI σ 99 ((σ.i 99) - 1)))) (kvc5_bind (krc5_st rfl (krc5_f_X12_finals N σ ((σ.i 99) - 1))) (fun p74 => (kvc5_ite (kvc5_st rfl (hK (RS.setI p74.2 99 ((p74.2.i 99) - 1)))) (kvc5_some rfl)))))) (kvc5_st rfl (hK (RS.setI σ 99 ((σ.i 99) - 1))))))) kvc5_none)) (kvc5_ite (kvc5_some rfl) (kvc5_ite (kvc5_ite (kvc5_bindv (kvc5_st rfl (krc5_f_X12_row N σ 4 (σ.a 101 ((((σ.i 99) - 1) : Int32).toNatClampNeg)))) (fun p57 => (kvc5_ite (kvc5_st rfl (hK (RS.setI (RS.setA p57 91 (((p57.a 101 ((((σ.i 99) - 1) : Int32).toNatClampNeg)) : Int32).toNatClampNeg) ((p57.a 91 (((p57.a 101 ((((σ.i 99) - 1) : Int32).toNatClampNeg)) : Int32).toNatClampNeg)) - 1)) 99 ((p57.i 99) - 1)))) kvc5_none))) (kvc5_ite (kvc5_st rfl (hK (RS.setI (RS.setI σ 97 (σ.a 101 ((((σ.i 99) - 1) : Int32).toNatClampNeg))) 99 ((σ.i 99) - 1)))) (kvc5_ite (kvc5_ite (kvc5_bindv (kvc5_st rfl (krc5_f_X12_closeAll N σ ((σ.i 99) - 1))) (fun p43 => (kvc5_ite (kvc5_bind (krc5_st rfl (krc5_f_X12_isCaught N p43 ((σ.i 99) - 1))) (fun p50 => (kvc5_ite (kvc5_ite (kvc5_st rfl (hK (RS.setI p50.2 99 ((p50.2.i 99) - 1)))) (kvc5_bind (krc5_st rfl (krc5_f_X12_finals N p50.2 ((σ.i 99) - 1))) (fun p54 => (kvc5_ite (kvc5_st rfl (hK (RS.setI p54.2 99 ((p54.2.i 99) - 1)))) (kvc5_some rfl))))) (kvc5_some rfl)))) (kvc5_ite (kvc5_st rfl (hK (RS.setI p43 99 ((p43.i 99) - 1)))) (kvc5_bind (krc5_st rfl (krc5_f_X12_finals N p43 ((σ.i 99) - 1))) (fun p47 => (kvc5_ite (kvc5_st rfl (hK (RS.setI p47.2 99 ((p47.2.i 99) - 1)))) (kvc5_some rfl)))))))) (kvc5_ite (kvc5_st rfl (hK (RS.setI σ 99 ((σ.i 99) - 1)))) (kvc5_bind (krc5_st rfl (krc5_f_X12_finals N σ ((σ.i 99) - 1))) (fun p40 => (kvc5_ite (kvc5_st rfl (hK (RS.setI p40.2 99 ((p40.2.i 99) - 1)))) (kvc5_some rfl)))))) (kvc5_st rfl (hK (RS.setI σ 99 ((σ.i 99) - 1))))))) kvc5_none))))
theorem krc5_f_X12_leave_0 (N : Nat) : ∀ (n : Nat) (σ : RS), KVc5 σ (f_X12_leave_0 N n σ )
  | 0, _ => kvc5_none
  | n+1, σ => krc5_b_X12_leave_0 N (f_X12_leave_0 N n) (fun σ => krc5_f_X12_leave_0 N n σ) σ
theorem krc5_f_X12_leave (N : Nat) (σ : RS) : KVc5 σ (f_X12_leave N σ) := by
  unfold f_X12_leave
  exact (kvc5_st rfl (krc5_f_X12_leave_0 N N σ))
theorem krc5_f_X12_step (N : Nat) (σ : RS) : KVc5 σ (f_X12_step N σ) := by
  unfold f_X12_step
  exact (kvc5_ite (kvc5_some rfl) (kvc5_some rfl))
theorem krc5_f_X12_compute (N : Nat) (σ : RS) (x1 : Int32) (x2 : Int32) (x3 : Int32) : KRc5 σ (f_X12_compute N σ x1 x2 x3) := by
  unfold f_X12_compute
  exact (krc5_ite (krc5_ite krc5_none (krc5_some rfl)) (krc5_ite (krc5_some rfl) (krc5_ite (krc5_some rfl) (krc5_ite (krc5_some rfl) (krc5_ite (krc5_ite krc5_none (krc5_some rfl)) (krc5_ite (krc5_ite (krc5_some rfl) (krc5_some rfl)) (krc5_ite (krc5_ite (krc5_some rfl) (krc5_some rfl)) (krc5_ite (krc5_ite (krc5_some rfl) (krc5_some rfl)) (krc5_ite (krc5_ite (krc5_some rfl) (krc5_some rfl)) (krc5_ite (krc5_ite (krc5_some rfl) (krc5_some rfl)) (krc5_ite (krc5_some rfl) (krc5_some rfl))))))))))))
theorem krc5_b_X12_caseOf_5 (N : Nat) (K : RS → Int32 → Int32 → Int32 → Option (Int32 × RS)) (hK : ∀ (σ : RS) (y0 : Int32) (y1 : Int32) (y2 : Int32), KRc5 σ (K σ y0 y1 y2)) (σ : RS) (x2 : Int32) (x3 : Int32) (x4 : Int32) : KRc5 σ (b_X12_caseOf_5 N K σ x2 x3 x4) := by
  unfold b_X12_caseOf_5
  exact (krc5_ite (krc5_some rfl) (krc5_ite (krc5_ite (krc5_ite (krc5_some rfl) (krc5_st rfl (hK σ x2 x3 (σ.a 27 ((x4 : Int32).toNatClampNeg))))) (krc5_st rfl (hK σ x2 x4 (σ.a 27 ((x4 : Int32).toNatClampNeg))))) krc5_none))
theorem krc5_f_X12_caseOf_5 (N : Nat) : ∀ (n : Nat) (σ : RS) (y0 : Int32) (y1 : Int32) (y2 : Int32), KRc5 σ (f_X12_caseOf_5 N n σ y0 y1 y2)
  | 0, _, _, _, _ => krc5_none
  | n+1, σ, y0, y1, y2 => krc5_b_X12_caseOf_5 N (f_X12_caseOf_5 N n) (fun σ y0 y1 y2 => krc5_f_X12_caseOf_5 N n σ y0 y1 y2) σ y0 y1 y2
theorem krc5_f_X12_caseOf (N : Nat) (σ : RS) (x1 : Int32) (x2 : Int32) : KRc5 σ (f_X12_caseOf N σ x1 x2) := by
  unfold f_X12_caseOf
  exact (krc5_st rfl (krc5_f_X12_caseOf_5 N N σ x2 (-1) x1))
theorem krc5_f_X12_goOn (N : Nat) (σ : RS) (x1 : Int32) : KVc5 σ (f_X12_goOn N σ x1) := by
  unfold f_X12_goOn
  exact (kvc5_bind (krc5_st rfl (krc5_f_X12_finals N σ x1)) (fun p1 => (kvc5_ite (kvc5_ite (kvc5_ite (kvc5_some rfl) kvc5_none) kvc5_none) (kvc5_some rfl))))
theorem krc5_b_X12_others_85 (N : Nat) (K : RS → Int32 → Int32 → Int32 → Option (RS)) (hK : ∀ (σ : RS) (y0 : Int32) (y1 : Int32) (y2 : Int32), KVc5 σ (K σ y0 y1 y2)) (σ : RS) (x2 : Int32) (x4 : Int32) (x5 : Int32) : KVc5 σ (b_X12_others_85 N K σ x2 x4 x5) := by
  unfold b_X12_others_85
  exact (kvc5_ite (kvc5_bind (krc5_st rfl (krc5_f_X12_record N (RS.setI σ 93 ((σ.i 93) - x2)) 2 x4 x4 (σ.i 97))) (fun p4 => (kvc5_some rfl))) (kvc5_ite (kvc5_ite (kvc5_st rfl (hK (RS.setI (RS.setA σ 98 (((σ.i 97) : Int32).toNatClampNeg) (σ.a 94 (((((σ.i 93) - x2) + x5) : Int32).toNatClampNeg))) 97 ((σ.i 97) + 1)) x2 x4 (x5 + 1))) kvc5_none) kvc5_none))
theorem krc5_f_X12_others_85 (N : Nat) : ∀ (n : Nat) (σ : RS) (y0 : Int32) (y1 : Int32) (y2 : Int32), KVc5 σ (f_X12_others_85 N n σ y0 y1 y2)
  | 0, _, _, _, _ => kvc5_none
  | n+1, σ, y0, y1, y2 => krc5_b_X12_others_85 N (f_X12_others_85 N n) (fun σ y0 y1 y2 => krc5_f_X12_others_85 N n σ y0 y1 y2) σ y0 y1 y2
theorem krc5_f_X12_others (N : Nat) (σ : RS) (x1 : Int32) (x2 : Int32) : KVc5 σ (f_X12_others N σ x1 x2) := by
  unfold f_X12_others
  exact (kvc5_ite (kvc5_ite (kvc5_st rfl (krc5_f_X12_others_85 N N σ x2 (σ.i 97) 0)) (kvc5_ite (kvc5_ite (kvc5_ite (kvc5_some rfl) (kvc5_bindv (kvc5_st rfl (krc5_f_X12_step N σ)) (fun p11 => (kvc5_ite (kvc5_ite (kvc5_some rfl) kvc5_none) kvc5_none)))) kvc5_none) (kvc5_ite (kvc5_ite (kvc5_some rfl) kvc5_none) (kvc5_ite (kvc5_ite (kvc5_ite (kvc5_some rfl) (kvc5_bindv (kvc5_st rfl (krc5_f_X12_leave N (RS.setI (RS.setI (RS.setI (RS.setI (RS.setI (RS.setI σ 110 (σ.a 105 ((((σ.i 99) - 1) : Int32).toNatClampNeg))) 111 (σ.a 106 ((((σ.i 99) - 1) : Int32).toNatClampNeg))) 112 (σ.a 107 ((((σ.i 99) - 1) : Int32).toNatClampNeg))) 113 (σ.a 108 ((((σ.i 99) - 1) : Int32).toNatClampNeg))) 114 (σ.a 109 ((((σ.i 99) - 1) : Int32).toNatClampNeg))) 99 ((σ.i 99) - 1)))) (fun p20 => (kvc5_some rfl)))) kvc5_none) (kvc5_ite (kvc5_ite (kvc5_ite (kvc5_some rfl) (kvc5_bindv (kvc5_st rfl (krc5_f_X12_leave N (RS.setI (RS.setI (RS.setI (RS.setI (RS.setI (RS.setI σ 110 (σ.a 105 ((((σ.i 99) - 1) : Int32).toNatClampNeg))) 111 (σ.a 106 ((((σ.i 99) - 1) : Int32).toNatClampNeg))) 112 (σ.a 107 ((((σ.i 99) - 1) : Int32).toNatClampNeg))) 113 (σ.a 108 ((((σ.i 99) - 1) : Int32).toNatClampNeg))) 114 (σ.a 109 ((((σ.i 99) - 1) : Int32).toNatClampNeg))) 99 ((σ.i 99) - 1)))) (fun p25 => (kvc5_some rfl)))) kvc5_none) (kvc5_ite (kvc5_ite (kvc5_ite (kvc5_some rfl) (kvc5_bindv (kvc5_st rfl (krc5_f_X12_leave N (RS.setI (RS.setI (RS.setI (RS.setI (RS.setI (RS.setI σ 110 (σ.a 105 ((((σ.i 99) - 1) : Int32).toNatClampNeg))) 111 (σ.a 106 ((((σ.i 99) - 1) : Int32).toNatClampNeg))) 112 (σ.a 107 ((((σ.i 99) - 1) : Int32).toNatClampNeg))) 113 (σ.a 108 ((((σ.i 99) - 1) : Int32).toNatClampNeg))) 114 (σ.a 109 ((((σ.i 99) - 1) : Int32).toNatClampNeg))) 99 ((σ.i 99) - 1)))) (fun p30 => (kvc5_some rfl)))) kvc5_none) (kvc5_ite (kvc5_ite (kvc5_ite (kvc5_some rfl) (kvc5_bindv (kvc5_st rfl (krc5_f_X12_leave N (RS.setI (RS.setI (RS.setI (RS.setI (RS.setI (RS.setI σ 110 (σ.a 105 ((((σ.i 99) - 1) : Int32).toNatClampNeg))) 111 (σ.a 106 ((((σ.i 99) - 1) : Int32).toNatClampNeg))) 112 (σ.a 107 ((((σ.i 99) - 1) : Int32).toNatClampNeg))) 113 (σ.a 108 ((((σ.i 99) - 1) : Int32).toNatClampNeg))) 114 (σ.a 109 ((((σ.i 99) - 1) : Int32).toNatClampNeg))) 99 ((σ.i 99) - 1)))) (fun p35 => (kvc5_some rfl)))) kvc5_none) (kvc5_ite (kvc5_ite (kvc5_ite (kvc5_some rfl) (kvc5_bindv (kvc5_st rfl (krc5_f_X12_leave N (RS.setI (RS.setI (RS.setI (RS.setI (RS.setI (RS.setI σ 110 (σ.a 105 ((((σ.i 99) - 1) : Int32).toNatClampNeg))) 111 (σ.a 106 ((((σ.i 99) - 1) : Int32).toNatClampNeg))) 112 (σ.a 107 ((((σ.i 99) - 1) : Int32).toNatClampNeg))) 113 (σ.a 108 ((((σ.i 99) - 1) : Int32).toNatClampNeg))) 114 (σ.a 109 ((((σ.i 99) - 1) : Int32).toNatClampNeg))) 99 ((σ.i 99) - 1)))) (fun p40 => (kvc5_some rfl)))) kvc5_none) (kvc5_ite (kvc5_bind (krc5_st rfl (krc5_f_X12_record N σ 4 x2 0 (σ.i 95))) (fun p43 => (kvc5_some rfl))) (kvc5_ite (kvc5_ite (kvc5_ite (kvc5_ite (kvc5_bindv (kvc5_st rfl (krc5_f_X12_row N σ 1 x2)) (fun p49 => (kvc5_ite (kvc5_some rfl) kvc5_none))) (kvc5_some rfl)) (kvc5_bindv (kvc5_st rfl (krc5_f_X12_raise N σ ((σ.a 6 ((x2 : Int32).toNatClampNeg)) - 1) x2)) (fun p52 => (kvc5_bindv (kvc5_st rfl (krc5_f_X12_leave N p52)) (fun p54 => (kvc5_some rfl)))))) kvc5_none) (kvc5_ite (kvc5_bindv (kvc5_st rfl (krc5_f_X12_closeAll N (RS.setI σ 110 0) ((σ.i 99) - 1))) (fun p57 => (kvc5_ite (kvc5_bindv (kvc5_st rfl (krc5_f_X12_leave N p57)) (fun p62 => (kvc5_some rfl))) (kvc5_bindv (kvc5_st rfl (krc5_f_X12_goOn N p57 ((σ.i 99) - 1))) (fun p60 => (kvc5_some rfl)))))) (kvc5_ite (kvc5_bindv (kvc5_st rfl (krc5_f_X12_goOn N (RS.setI σ 110 0) ((σ.i 99) - 1))) (fun p65 => (kvc5_some rfl))) (kvc5_ite (kvc5_ite (kvc5_some rfl) (kvc5_bindv (kvc5_st rfl (krc5_f_X12_leave N (RS.setI (RS.setI (RS.setI (RS.setI (RS.setI (RS.setI σ 110 (σ.a 105 ((((σ.i 99) - 1) : Int32).toNatClampNeg))) 111 (σ.a 106 ((((σ.i 99) - 1) : Int32).toNatClampNeg))) 112 (σ.a 107 ((((σ.i 99) - 1) : Int32).toNatClampNeg))) 113 (σ.a 108 ((((σ.i 99) - 1) : Int32).toNatClampNeg))) 114 (σ.a 109 ((((σ.i 99) - 1) : Int32).toNatClampNeg))) 99 ((σ.i 99) - 1)))) (fun p69 => (kvc5_some rfl)))) kvc5_none))))))))))))) kvc5_none)
theorem krc5_f_X12_ends_128 (N : Nat) (σ : RS) (x1 : Int32) : KVc5 σ (f_X12_ends_128 N σ x1) := by
  unfold f_X12_ends_128
  exact (kvc5_ite (kvc5_bindv (kvc5_st rfl (krc5_f_X12_leave N (RS.setI σ 112 (σ.a 23 ((x1 : Int32).toNatClampNeg))))) (fun p7 => (kvc5_some rfl))) kvc5_none)
theorem krc5_f_X12_ends_242 (N : Nat) (σ : RS) : KVc5 σ (f_X12_ends_242 N σ) := by
  unfold f_X12_ends_242
  exact (kvc5_some rfl)
theorem krc5_f_X12_ends_351 (N : Nat) (σ : RS) : KVc5 σ (f_X12_ends_351 N σ) := by
  unfold f_X12_ends_351
  exact (kvc5_some rfl)
theorem krc5_f_X12_ends (N : Nat) (σ : RS) (x1 : Int32) (x2 : Int32) : KVc5 σ (f_X12_ends N σ x1 x2) := by
  unfold f_X12_ends
  exact (kvc5_ite (kvc5_ite (kvc5_bind (krc5_st rfl (krc5_f_X12_take N σ)) (fun p3 => (kvc5_ite (kvc5_st rfl (krc5_f_X12_ends_128 N (RS.setI (RS.setI p3.2 113 p3.1) 110 2) x1)) (kvc5_st rfl (krc5_f_X12_ends_128 N (RS.setI (RS.setI p3.2 113 p3.1) 110 4) x1))))) (kvc5_ite (kvc5_bind (krc5_st rfl (krc5_f_X12_take N σ)) (fun p10 => (kvc5_ite (kvc5_st rfl (krc5_f_X12_ends_128 N (RS.setI (RS.setI p10.2 113 p10.1) 110 2) x1)) (kvc5_st rfl (krc5_f_X12_ends_128 N (RS.setI (RS.setI p10.2 113 p10.1) 110 4) x1))))) (kvc5_ite (kvc5_bind (krc5_st rfl (krc5_f_X12_take N σ)) (fun p14 => (kvc5_bindv (kvc5_st rfl (krc5_f_X12_raise N p14.2 x2 p14.1)) (fun p16 => (kvc5_bindv (kvc5_st rfl (krc5_f_X12_leave N p16)) (fun p18 => (kvc5_some rfl))))))) (kvc5_ite (kvc5_bindv (kvc5_st rfl (krc5_f_X12_raise N σ x2 0)) (fun p21 => (kvc5_bindv (kvc5_st rfl (krc5_f_X12_leave N p21)) (fun p23 => (kvc5_some rfl))))) (kvc5_ite (kvc5_ite (kvc5_bindv (kvc5_st rfl (krc5_f_X12_leave N (RS.setI (RS.setI σ 114 (σ.a 84 ((x2 : Int32).toNatClampNeg))) 110 3))) (fun p27 => (kvc5_some rfl))) kvc5_none) (kvc5_ite (kvc5_ite (kvc5_st rfl (krc5_f_X12_ends_242 N (RS.setI σ 92 x2))) (kvc5_st rfl (krc5_f_X12_ends_242 N (RS.setI σ 92 (σ.i 92))))) (kvc5_ite (kvc5_bindv (kvc5_st rfl (krc5_f_X12_others N σ x1 x2)) (fun p32 => (kvc5_some rfl))) (kvc5_ite (kvc5_bindv (kvc5_st rfl (krc5_f_X12_others N σ x1 x2)) (fun p35 => (kvc5_some rfl))) (kvc5_ite (kvc5_bindv (kvc5_st rfl (krc5_f_X12_others N σ x1 x2)) (fun p38 => (kvc5_some rfl))) (kvc5_ite (kvc5_bindv (kvc5_st rfl (krc5_f_X12_row N σ 3 x2)) (fun p41 => (kvc5_ite (kvc5_bind (krc5_st rfl (krc5_f_X12_record N (RS.setA p41 91 ((x2 : Int32).toNatClampNeg) ((p41.a 91 ((x2 : Int32).toNatClampNeg)) + 1)) 1 x2 0 0)) (fun p44 => (kvc5_some rfl))) kvc5_none))) (kvc5_ite (kvc5_ite (kvc5_bindv (kvc5_st rfl (krc5_f_X12_row N (RS.setI σ 99 ((σ.i 99) - 1)) 4 (σ.a 101 ((((σ.i 99) - 1) : Int32).toNatClampNeg)))) (fun p48 => (kvc5_ite (kvc5_ite (kvc5_some rfl) kvc5_none) kvc5_none))) kvc5_none) (kvc5_ite (kvc5_bind (krc5_st rfl (krc5_f_X12_take N σ)) (fun p53 => (kvc5_bind (krc5_st rfl (krc5_f_X12_caseOf N p53.2 x2 p53.1)) (fun p55 => (kvc5_ite (kvc5_ite (kvc5_st rfl (krc5_f_X12_ends_351 N (RS.setI p55.2 92 (p55.2.a 26 ((p55.1 : Int32).toNatClampNeg))))) kvc5_none) (kvc5_st rfl (krc5_f_X12_ends_351 N (RS.setI p55.2 92 (p55.2.a 23 ((x1 : Int32).toNatClampNeg)))))))))) (kvc5_ite (kvc5_bind (krc5_st rfl (krc5_f_X12_take N σ)) (fun p60 => (kvc5_bind (krc5_st rfl (krc5_f_X12_caseOf N p60.2 x2 p60.1)) (fun p62 => (kvc5_bind (krc5_st rfl (krc5_f_X12_record N p62.2 3 x1 0 0)) (fun p64 => (kvc5_ite (kvc5_some rfl) kvc5_none))))))) (kvc5_ite (kvc5_ite (kvc5_ite (kvc5_some rfl) kvc5_none) kvc5_none) (kvc5_ite (kvc5_bindv (kvc5_st rfl (krc5_f_X12_others N σ x1 x2)) (fun p71 => (kvc5_some rfl))) (kvc5_ite (kvc5_bindv (kvc5_st rfl (krc5_f_X12_others N σ x1 x2)) (fun p74 => (kvc5_some rfl))) (kvc5_ite (kvc5_bindv (kvc5_st rfl (krc5_f_X12_others N σ x1 x2)) (fun p77 => (kvc5_some rfl))) (kvc5_ite (kvc5_bindv (kvc5_st rfl (krc5_f_X12_others N σ x1 x2)) (fun p80 => (kvc5_some rfl))) (kvc5_ite (kvc5_bindv (kvc5_st rfl (krc5_f_X12_others N σ x1 x2)) (fun p83 => (kvc5_some rfl))) (kvc5_ite (kvc5_bindv (kvc5_st rfl (krc5_f_X12_leave N (RS.setI (RS.setI (RS.setI σ 110 1) 111 x2) 112 (σ.a 23 ((x1 : Int32).toNatClampNeg))))) (fun p86 => (kvc5_some rfl))) (kvc5_bindv (kvc5_st rfl (krc5_f_X12_others N σ x1 x2)) (fun p88 => (kvc5_some rfl))))))))))))))))))))))) kvc5_none)
theorem krc5_f_X12_act_229 (N : Nat) (σ : RS) (x2 : Int32) (x3 : Int32) (x4 : Int32) : KVc5 σ (f_X12_act_229 N σ x2 x3 x4) := by
  unfold f_X12_act_229
  exact (kvc5_bind (krc5_st rfl (krc5_f_X12_compute N σ x2 x4 x3)) (fun p35 => (kvc5_bindv (kvc5_st rfl (krc5_f_X12_put N p35.2 p35.1)) (fun p37 => (kvc5_some rfl)))))
theorem krc5_f_X12_act_212 (N : Nat) (σ : RS) (x2 : Int32) (x3 : Int32) (x4 : Int32) : KVc5 σ (f_X12_act_212 N σ x2 x3 x4) := by
  unfold f_X12_act_212
  exact (kvc5_ite (kvc5_bindv (kvc5_st rfl (krc5_f_X12_raise N σ 2 0)) (fun p39 => (kvc5_bindv (kvc5_st rfl (krc5_f_X12_leave N p39)) (fun p41 => (kvc5_some rfl))))) (kvc5_st rfl (krc5_f_X12_act_229 N σ x2 x3 x4)))
theorem krc5_f_X12_act_290 (N : Nat) (σ : RS) : KVc5 σ (f_X12_act_290 N σ) := by
  unfold f_X12_act_290
  exact (kvc5_some rfl)
theorem krc5_f_X12_act_282 (N : Nat) (σ : RS) (x2 : Int32) : KVc5 σ (f_X12_act_282 N σ x2) := by
  unfold f_X12_act_282
  exact (kvc5_some rfl)
theorem krc5_f_X12_act_322 (N : Nat) (σ : RS) : KVc5 σ (f_X12_act_322 N σ) := by
  unfold f_X12_act_322
  exact (kvc5_some rfl)
theorem krc5_f_X12_act_344 (N : Nat) (σ : RS) : KVc5 σ (f_X12_act_344 N σ) := by
  unfold f_X12_act_344
  exact (kvc5_some rfl)
theorem krc5_f_X12_act (N : Nat) (σ : RS) (x1 : Int32) : KVc5 σ (f_X12_act N σ x1) := by
  unfold f_X12_act
  exact (kvc5_ite (kvc5_ite (kvc5_bindv (kvc5_st rfl (krc5_f_X12_step N σ)) (fun p3 => (kvc5_some rfl))) (kvc5_ite (kvc5_bindv (kvc5_st rfl (krc5_f_X12_put N σ (σ.a 22 ((x1 : Int32).toNatClampNeg)))) (fun p6 => (kvc5_some rfl))) (kvc5_ite (kvc5_ite (kvc5_bindv (kvc5_st rfl (krc5_f_X12_put N σ (σ.a 84 (((σ.a 22 ((x1 : Int32).toNatClampNeg)) : Int32).toNatClampNeg)))) (fun p10 => (kvc5_some rfl))) kvc5_none) (kvc5_ite (kvc5_ite (kvc5_ite (kvc5_bindv (kvc5_st rfl (krc5_f_X12_put N σ (σ.a 87 (((σ.a 84 (((σ.a 22 ((x1 : Int32).toNatClampNeg)) : Int32).toNatClampNeg)) : Int32).toNatClampNeg)))) (fun p15 => (kvc5_some rfl))) kvc5_none) kvc5_none) (kvc5_ite (kvc5_bind (krc5_st rfl (krc5_f_X12_take N σ)) (fun p18 => (kvc5_ite (kvc5_some rfl) kvc5_none))) (kvc5_ite (kvc5_ite (kvc5_some rfl) kvc5_none) (kvc5_ite (kvc5_bind (krc5_st rfl (krc5_f_X12_take N σ)) (fun p24 => (kvc5_bindv (kvc5_st rfl (krc5_f_X12_put N p24.2 (-p24.1))) (fun p26 => (kvc5_some rfl))))) (kvc5_ite (kvc5_bind (krc5_st rfl (krc5_f_X12_take N σ)) (fun p29 => (kvc5_bind (krc5_st rfl (krc5_f_X12_take N p29.2)) (fun p31 => (kvc5_ite (kvc5_st rfl (krc5_f_X12_act_212 N p31.2 (σ.a 22 ((x1 : Int32).toNatClampNeg)) p29.1 p31.1)) (kvc5_ite (kvc5_st rfl (krc5_f_X12_act_212 N p31.2 (σ.a 22 ((x1 : Int32).toNatClampNeg)) p29.1 p31.1)) (kvc5_st rfl (krc5_f_X12_act_229 N p31.2 (σ.a 22 ((x1 : Int32).toNatClampNeg)) p29.1 p31.1)))))))) (kvc5_ite (kvc5_bind (krc5_st rfl (krc5_f_X12_take N σ)) (fun p45 => (kvc5_bind (krc5_st rfl (krc5_f_X12_take N p45.2)) (fun p47 => (kvc5_ite (kvc5_st rfl (krc5_f_X12_act_212 N p47.2 (σ.a 22 ((x1 : Int32).toNatClampNeg)) p45.1 p47.1)) (kvc5_ite (kvc5_st rfl (krc5_f_X12_act_212 N p47.2 (σ.a 22 ((x1 : Int32).toNatClampNeg)) p45.1 p47.1)) (kvc5_st rfl (krc5_f_X12_act_229 N p47.2 (σ.a 22 ((x1 : Int32).toNatClampNeg)) p45.1 p47.1)))))))) (kvc5_ite (kvc5_bind (krc5_st rfl (krc5_f_X12_take N σ)) (fun p52 => (kvc5_bindv (kvc5_st rfl (krc5_f_X12_put N p52.2 (1 - p52.1))) (fun p54 => (kvc5_some rfl))))) (kvc5_ite (kvc5_ite (kvc5_ite (kvc5_st rfl (krc5_f_X12_act_290 N σ)) (kvc5_st rfl (krc5_f_X12_act_282 N σ (σ.a 22 ((x1 : Int32).toNatClampNeg))))) kvc5_none) (kvc5_ite (kvc5_ite (kvc5_ite (kvc5_st rfl (krc5_f_X12_act_282 N σ (σ.a 22 ((x1 : Int32).toNatClampNeg)))) (kvc5_st rfl (krc5_f_X12_act_290 N σ))) kvc5_none) (kvc5_ite (kvc5_bind (krc5_st rfl (krc5_f_X12_take N σ)) (fun p67 => (kvc5_ite (kvc5_st rfl (krc5_f_X12_act_322 N (RS.setI p67.2 92 (σ.a 22 ((x1 : Int32).toNatClampNeg))))) (kvc5_st rfl (krc5_f_X12_act_322 N (RS.setI p67.2 92 (p67.2.i 92))))))) (kvc5_ite (kvc5_bind (krc5_st rfl (krc5_f_X12_take N σ)) (fun p71 => (kvc5_ite (kvc5_st rfl (krc5_f_X12_act_344 N (RS.setI p71.2 92 (p71.2.i 92)))) (kvc5_st rfl (krc5_f_X12_act_344 N (RS.setI p71.2 92 (σ.a 22 ((x1 : Int32).toNatClampNeg)))))))) (kvc5_ite (kvc5_some rfl) (kvc5_ite (kvc5_bind (krc5_st rfl (krc5_f_X12_take N σ)) (fun p76 => (kvc5_bindv (kvc5_st rfl (krc5_f_X12_row N p76.2 0 p76.1)) (fun p78 => (kvc5_some rfl))))) (kvc5_bindv (kvc5_st rfl (krc5_f_X12_ends N σ x1 (σ.a 22 ((x1 : Int32).toNatClampNeg)))) (fun p80 => (kvc5_some rfl))))))))))))))))))) kvc5_none)
theorem krc5_f_X12_run_163 (N : Nat) (σ : RS) : KRc5 σ (f_X12_run_163 N σ) := by
  unfold f_X12_run_163
  exact (krc5_ite (krc5_some rfl) (krc5_ite (krc5_some rfl) (krc5_ite (krc5_some rfl) (krc5_some rfl))))
theorem krc5_b_X12_run_122 (N : Nat) (K : RS → Option (Int32 × RS)) (hK : ∀ (σ : RS), KRc5 σ (K σ)) (σ : RS) : KRc5 σ (b_X12_run_122 N K σ) := by
  unfold b_X12_run_122
  exact (krc5_ite (krc5_st rfl (krc5_f_X12_run_163 N σ)) (krc5_ite (krc5_st rfl (krc5_f_X12_run_163 N σ)) (krc5_bindv (kvc5_st rfl (krc5_f_X12_act N (RS.setI σ 92 ((σ.i 92) + 1)) (σ.i 92))) (fun p9 => (krc5_st rfl (hK p9))))))
theorem krc5_f_X12_run_122 (N : Nat) : ∀ (n : Nat) (σ : RS), KRc5 σ (f_X12_run_122 N n σ )
  | 0, _ => krc5_none
  | n+1, σ => krc5_b_X12_run_122 N (f_X12_run_122 N n) (fun σ => krc5_f_X12_run_122 N n σ) σ
theorem krc5_b_X12_run_39 (N : Nat) (K : RS → Int32 → Int32 → Int32 → Option (Int32 × RS)) (hK : ∀ (σ : RS) (y0 : Int32) (y1 : Int32) (y2 : Int32), KRc5 σ (K σ y0 y1 y2)) (σ : RS) (x1 : Int32) (x2 : Int32) (x3 : Int32) : KRc5 σ (b_X12_run_39 N K σ x1 x2 x3) := by
  unfold b_X12_run_39
  exact (krc5_ite (krc5_st rfl (krc5_f_X12_run_122 N N (RS.setI (RS.setI (RS.setI (RS.setI (RS.setI (RS.setI (RS.setI (RS.setI (RS.setI (RS.setI (RS.setA (RS.setA σ 84 ((0 : Int32).toNatClampNeg) x1) 84 ((1 : Int32).toNatClampNeg) x2) 80 0) 81 0) 85 0) 95 0) 97 0) 99 0) 93 0) 79 1) 115 0) 92 0))) (krc5_ite (krc5_st rfl (hK (RS.setA σ 91 ((x3 : Int32).toNatClampNeg) 0) x1 x2 (x3 + 1))) krc5_none))
theorem krc5_f_X12_run_39 (N : Nat) : ∀ (n : Nat) (σ : RS) (y0 : Int32) (y1 : Int32) (y2 : Int32), KRc5 σ (f_X12_run_39 N n σ y0 y1 y2)
  | 0, _, _, _, _ => krc5_none
  | n+1, σ, y0, y1, y2 => krc5_b_X12_run_39 N (f_X12_run_39 N n) (fun σ y0 y1 y2 => krc5_f_X12_run_39 N n σ y0 y1 y2) σ y0 y1 y2
theorem krc5_b_X12_run_17 (N : Nat) (K : RS → Int32 → Int32 → Int32 → Option (Int32 × RS)) (hK : ∀ (σ : RS) (y0 : Int32) (y1 : Int32) (y2 : Int32), KRc5 σ (K σ y0 y1 y2)) (σ : RS) (x1 : Int32) (x2 : Int32) (x3 : Int32) : KRc5 σ (b_X12_run_17 N K σ x1 x2 x3) := by
  unfold b_X12_run_17
  exact (krc5_ite (krc5_st rfl (krc5_f_X12_run_39 N N σ x1 x2 0)) (krc5_ite (krc5_st rfl (hK (RS.setA σ 84 ((x3 : Int32).toNatClampNeg) 0) x1 x2 (x3 + 1))) krc5_none))
theorem krc5_f_X12_run_17 (N : Nat) : ∀ (n : Nat) (σ : RS) (y0 : Int32) (y1 : Int32) (y2 : Int32), KRc5 σ (f_X12_run_17 N n σ y0 y1 y2)
  | 0, _, _, _, _ => krc5_none
  | n+1, σ, y0, y1, y2 => krc5_b_X12_run_17 N (f_X12_run_17 N n) (fun σ y0 y1 y2 => krc5_f_X12_run_17 N n σ y0 y1 y2) σ y0 y1 y2
theorem krc5_f_X12_run (N : Nat) (σ : RS) (x1 : Int32) (x2 : Int32) : KRc5 σ (f_X12_run N σ x1 x2) := by
  unfold f_X12_run
  exact (krc5_ite (krc5_some rfl) (krc5_st rfl (krc5_f_X12_run_17 N N (RS.setI σ 0 0) x1 x2 0)))
theorem krc5_b_X12_ran_168 (N : Nat) (K : RS → Int32 → Int32 → Option (Int32 × RS)) (hK : ∀ (σ : RS) (y0 : Int32) (y1 : Int32), KRc5 σ (K σ y0 y1)) (σ : RS) (x3 : Int32) (x4 : Int32) : KRc5 σ (b_X12_ran_168 N K σ x3 x4) := by
  unfold b_X12_ran_168
  exact (krc5_ite (krc5_some rfl) (krc5_ite (krc5_st rfl (hK σ (x3 + (σ.a 91 ((x4 : Int32).toNatClampNeg))) (x4 + 1))) krc5_none))
theorem krc5_f_X12_ran_168 (N : Nat) : ∀ (n : Nat) (σ : RS) (y0 : Int32) (y1 : Int32), KRc5 σ (f_X12_ran_168 N n σ y0 y1)
  | 0, _, _, _ => krc5_none
  | n+1, σ, y0, y1 => krc5_b_X12_ran_168 N (f_X12_ran_168 N n) (fun σ y0 y1 => krc5_f_X12_ran_168 N n σ y0 y1) σ y0 y1
theorem krc5_f_X12_ran_41 (N : Nat) (σ : RS) (x1 : Int32) (x2 : Int32) : KRc5 σ (f_X12_ran_41 N σ x1 x2) := by
  unfold f_X12_ran_41
  exact (krc5_ite (krc5_some rfl) (krc5_ite (krc5_some rfl) (krc5_ite (krc5_ite (krc5_some rfl) (krc5_some rfl)) (krc5_ite (krc5_ite (krc5_some rfl) (krc5_ite (krc5_some rfl) krc5_none)) (krc5_ite (krc5_ite (krc5_some rfl) (krc5_ite (krc5_some rfl) krc5_none)) (krc5_ite (krc5_ite (krc5_some rfl) (krc5_ite (krc5_some rfl) krc5_none)) (krc5_st rfl (krc5_f_X12_ran_168 N N σ 0 0))))))))
theorem krc5_f_X12_ran (N : Nat) (σ : RS) (x1 : Int32) : KRc5 σ (f_X12_ran N σ x1) := by
  unfold f_X12_ran
  exact (krc5_bind (krc5_st rfl (krc5_f_X12_in N (RS.setI σ 0 0) x1 0 6)) (fun p1 => (krc5_ite (krc5_some rfl) (krc5_ite (krc5_some rfl) (krc5_ite (krc5_st rfl (krc5_f_X12_ran_41 N p1.2 x1 1)) (krc5_st rfl (krc5_f_X12_ran_41 N p1.2 x1 0)))))))
theorem krc5_f_X12_trace_35 (N : Nat) (σ : RS) : KRc5 σ (f_X12_trace_35 N σ) := by
  unfold f_X12_trace_35
  exact (krc5_some rfl)
theorem krc5_f_X12_trace (N : Nat) (σ : RS) (x1 : Int32) (x2 : Int32) : KRc5 σ (f_X12_trace N σ x1 x2) := by
  unfold f_X12_trace
  exact (krc5_ite (krc5_st rfl (krc5_f_X12_trace_35 N (RS.setI σ 0 0))) (krc5_bind (krc5_st rfl (krc5_f_X12_in N (RS.setI σ 0 0) x1 0 ((σ.i 81) - 1))) (fun p2 => (krc5_ite (krc5_st rfl (krc5_f_X12_trace_35 N p2.2)) (krc5_bind (krc5_st rfl (krc5_f_X12_in N p2.2 x2 0 1)) (fun p5 => (krc5_ite (krc5_st rfl (krc5_f_X12_trace_35 N p5.2)) (krc5_ite (krc5_ite (krc5_some rfl) krc5_none) (krc5_ite (krc5_some rfl) krc5_none)))))))))
theorem krc5_f_X12_suppressed_48 (N : Nat) (σ : RS) : KRc5 σ (f_X12_suppressed_48 N σ) := by
  unfold f_X12_suppressed_48
  exact (krc5_some rfl)
theorem krc5_f_X12_suppressed (N : Nat) (σ : RS) (x1 : Int32) (x2 : Int32) : KRc5 σ (f_X12_suppressed N σ x1 x2) := by
  unfold f_X12_suppressed
  exact (krc5_ite (krc5_st rfl (krc5_f_X12_suppressed_48 N (RS.setI σ 0 0))) (krc5_ite (krc5_ite (krc5_bind (krc5_st rfl (krc5_f_X12_in N (RS.setI σ 0 0) x1 0 ((σ.a 88 (((σ.i 114) : Int32).toNatClampNeg)) - 1))) (fun p4 => (krc5_ite (krc5_st rfl (krc5_f_X12_suppressed_48 N p4.2)) (krc5_bind (krc5_st rfl (krc5_f_X12_in N p4.2 x2 0 1)) (fun p7 => (krc5_ite (krc5_st rfl (krc5_f_X12_suppressed_48 N p7.2)) (krc5_ite (krc5_ite (krc5_some rfl) krc5_none) (krc5_ite (krc5_some rfl) krc5_none)))))))) krc5_none) (krc5_st rfl (krc5_f_X12_suppressed_48 N (RS.setI σ 0 0)))))
theorem krc5_f_X12_rounds_13 (N : Nat) (σ : RS) : KRc5 σ (f_X12_rounds_13 N σ) := by
  unfold f_X12_rounds_13
  exact (krc5_some rfl)
theorem krc5_f_X12_rounds (N : Nat) (σ : RS) (x1 : Int32) (x2 : Int32) : KRc5 σ (f_X12_rounds N σ x1 x2) := by
  unfold f_X12_rounds
  exact (krc5_ite (krc5_st rfl (krc5_f_X12_rounds_13 N (RS.setI σ 0 0))) (krc5_ite (krc5_ite (krc5_some rfl) (krc5_ite krc5_none (krc5_ite (krc5_some rfl) (krc5_some rfl)))) (krc5_st rfl (krc5_f_X12_rounds_13 N (RS.setI σ 0 0)))))
end
section
/-! what was told of resources, and what a run left: what the calls leave -/
abbrev SCT : Type := (Nat → Int32) × (Nat → Int32) × (Nat → Int32) × Int32
def pSc (s : CS) : SCT := (CS.a s 10, CS.a s 11, CS.a s 12, CS.i s 8)
def Ksc {α : Type} (v : SCT) (t : Option (α × CS)) : Prop := ∀ R, t = some R → pSc R.2 = v
theorem ksc_some {α : Type} {v : SCT} {r : α × CS} (h : pSc r.2 = v) : Ksc v (some r) := fun R q => by
  cases q
  exact h
theorem ksc_none {α : Type} {v : SCT} : Ksc v (none : Option (α × CS)) := fun R q => by cases q
theorem ksc_ite {α : Type} {v : SCT} {c : Prop} [Decidable c] {x y : Option (α × CS)} (hx : Ksc v x) (hy : Ksc v y) : Ksc v (if c then x else y) := by
  by_cases h : c
  · rw [if_pos h]; exact hx
  · rw [if_neg h]; exact hy
theorem ksc_bind {α β : Type} {v : SCT} {x : Option (α × CS)} {g : α × CS → Option (β × CS)} (hx : Ksc v x) (hk : ∀ p : α × CS, Ksc (pSc p.2) (g p)) : Ksc v (x.bind g) := by
  intro R h
  obtain ⟨p, h1, h2⟩ := hf_bind h
  exact (hk p R h2).trans (hx p h1)
theorem ksc_oc {α β : Type} {v : SCT} {r : Option α} {x : Option (β × CS)} {g : α → Option (β × CS)} (hx : Ksc v x) (hf : ∀ a, Ksc v (g a)) : Ksc v (oCase r x g) := by
  cases r with
  | none => exact hx
  | some a => exact hf a
theorem ksc_le {α : Type} {v w : SCT} {t : Option (α × CS)} (h : v = w) (ht : Ksc v t) : Ksc w t := by rw [← h]; exact ht
theorem kS_X0_clear (N : Nat) (σ : CS) : Ksc (pSc σ) (f_X0_clear N σ) := by
  unfold f_X0_clear
  exact (ksc_some (rfl))
theorem kS_X0_add (N : Nat) (σ : CS) (x1 : Int32) (x2 : Int32) : Ksc (pSc σ) (f_X0_add N σ x1 x2) := by
  unfold f_X0_add
  exact (ksc_some (rfl))
theorem kS_X0_newTarget (N : Nat) (σ : CS) : Ksc (pSc σ) (f_X0_newTarget N σ) := by
  unfold f_X0_newTarget
  exact (ksc_some (rfl))
theorem kS_X0_aim (N : Nat) (σ : CS) (x1 : Int32) : Ksc (pSc σ) (f_X0_aim N σ x1) := by
  unfold f_X0_aim
  exact (ksc_some (rfl))
theorem kS_X0_newCells (N : Nat) (σ : CS) (x1 : Int32) : Ksc (pSc σ) (f_X0_newCells N σ x1) := by
  unfold f_X0_newCells
  exact (ksc_some (rfl))
theorem kSb_X0_hasCase_2 (N : Nat) (K : CS → Int32 → Int32 → Option (Int32 × CS)) (hMK : ∀ (σ : CS) (x2 : Int32) (x3 : Int32), Ksc (pSc σ) (K σ x2 x3)) (σ : CS) (x2 : Int32) (x3 : Int32) : Ksc (pSc σ) (b_X0_hasCase_2 N K σ x2 x3) := by
  unfold b_X0_hasCase_2
  exact (ksc_ite (ksc_some (rfl)) (ksc_ite (ksc_some (rfl)) (hMK σ x2 (x3 + 1))))
theorem kS_X0_hasCase_2 (N : Nat) : ∀ (n : Nat) (σ : CS) (x2 : Int32) (x3 : Int32), Ksc (pSc σ) (f_X0_hasCase_2 N n σ x2 x3)
  | 0, _, _, _ => ksc_none
  | n+1, σ, x2, x3 => kSb_X0_hasCase_2 N (f_X0_hasCase_2 N n) (fun σ x2 x3 => kS_X0_hasCase_2 N n σ x2 x3) σ x2 x3
theorem kS_X0_hasCase (N : Nat) (σ : CS) (x1 : Int32) (x2 : Int32) : Ksc (pSc σ) (f_X0_hasCase N σ x1 x2) := by
  unfold f_X0_hasCase
  exact (kS_X0_hasCase_2 N N σ x2 x1)
theorem kS_X0_addCase (N : Nat) (σ : CS) (x1 : Int32) (x2 : Int32) : Ksc (pSc σ) (f_X0_addCase N σ x1 x2) := by
  unfold f_X0_addCase
  exact (ksc_some (rfl))
theorem kSb_X0_addCases_2 (N : Nat) (K : CS → Int32 → Int32 → Int32 → Option (Unit × CS)) (hMK : ∀ (σ : CS) (x1 : Int32) (x2 : Int32) (x3 : Int32), Ksc (pSc σ) (K σ x1 x2 x3)) (σ : CS) (x1 : Int32) (x2 : Int32) (x3 : Int32) : Ksc (pSc σ) (b_X0_addCases_2 N K σ x1 x2 x3) := by
  unfold b_X0_addCases_2
  exact (ksc_ite (ksc_bind (kS_X0_add N (CS.setI σ 22 x1) 6 0) (fun p2 => (ksc_bind (kS_X0_add N p2.2 30 x2) (fun p6 => (ksc_some (rfl)))))) (ksc_bind (kS_X0_add N σ 0 (gAt (σ.a 18) 320 x3)) (fun p11 => (ksc_bind (kS_X0_add N p11.2 34 (gAt (p11.2.a 19) 320 x3)) (fun p16 => (hMK p16.2 x1 x2 (x3 + 1)))))))
theorem kS_X0_addCases_2 (N : Nat) : ∀ (n : Nat) (σ : CS) (x1 : Int32) (x2 : Int32) (x3 : Int32), Ksc (pSc σ) (f_X0_addCases_2 N n σ x1 x2 x3)
  | 0, _, _, _, _ => ksc_none
  | n+1, σ, x1, x2, x3 => kSb_X0_addCases_2 N (f_X0_addCases_2 N n) (fun σ x1 x2 x3 => kS_X0_addCases_2 N n σ x1 x2 x3) σ x1 x2 x3
theorem kS_X0_addCases (N : Nat) (σ : CS) (x1 : Int32) (x2 : Int32) : Ksc (pSc σ) (f_X0_addCases N σ x1 x2) := by
  unfold f_X0_addCases
  exact (kS_X0_addCases_2 N N σ x1 x2 x1)
theorem kS_X9_stop (N : Nat) (σ : CS) : Ksc (pSc σ) (f_X9_stop N σ) := by
  unfold f_X9_stop
  exact (ksc_some (rfl))
theorem kS_X1_fail (N : Nat) (σ : CS) (x1 : Int32) (x2 : Int32) : Ksc (pSc σ) (f_X1_fail N σ x1 x2) := by
  unfold f_X1_fail
  exact (ksc_ite (ksc_bind (kS_X9_stop N (CS.setI (CS.setI σ 32 x1) 33 x2)) (fun p2 => (ksc_some (rfl)))) (ksc_some (rfl)))
theorem kS_X1_found (N : Nat) (σ : CS) (x1 : Int32) : Ksc (pSc σ) (f_X1_found N σ x1) := by
  unfold f_X1_found
  exact (ksc_ite (ksc_some (rfl)) (ksc_some (rfl)))
theorem kS_X1_misplaced (N : Nat) (σ : CS) : Ksc (pSc σ) (f_X1_misplaced N σ) := by
  unfold f_X1_misplaced
  exact (ksc_bind (kS_X1_found N σ 6) (fun p1 => (ksc_ite (ksc_bind (kS_X1_fail N p1.2 2 (p1.2.i 44)) (fun p6 => (ksc_some (rfl)))) (ksc_bind (kS_X1_fail N p1.2 1 (p1.2.i 44)) (fun p10 => (ksc_some (rfl)))))))
theorem kS_X9_byteAt_30 (N : Nat) (σ : CS) : Ksc (pSc σ) (f_X9_byteAt_30 N σ ) := by
  unfold f_X9_byteAt_30
  exact (ksc_some (rfl))
theorem kS_X9_byteAt (N : Nat) (σ : CS) (x1 : Int32) : Ksc (pSc σ) (f_X9_byteAt N σ x1) := by
  unfold f_X9_byteAt
  exact (ksc_ite (kS_X9_byteAt_30 N σ) (ksc_ite (kS_X9_byteAt_30 N σ) (ksc_ite (kS_X9_byteAt_30 N σ) (ksc_ite (ksc_some (rfl)) ksc_none))))
theorem kS_X9_isDigit_16 (N : Nat) (σ : CS) : Ksc (pSc σ) (f_X9_isDigit_16 N σ ) := by
  unfold f_X9_isDigit_16
  exact (ksc_some (rfl))
theorem kS_X9_isDigit (N : Nat) (σ : CS) (x0 : Int32) : Ksc (pSc σ) (f_X9_isDigit N σ x0) := by
  unfold f_X9_isDigit
  exact (ksc_ite (kS_X9_isDigit_16 N σ) (ksc_ite (kS_X9_isDigit_16 N σ) (ksc_some (rfl))))
theorem kS_X9_takeNumber_67 (N : Nat) (σ : CS) : Ksc (pSc σ) (f_X9_takeNumber_67 N σ ) := by
  unfold f_X9_takeNumber_67
  exact (ksc_ite (ksc_some (rfl)) (ksc_some (rfl)))
theorem kSb_X9_takeNumber_7 (N : Nat) (K : CS → Int32 → Option (Unit × CS)) (hMK : ∀ (σ : CS) (x1 : Int32), Ksc (pSc σ) (K σ x1)) (σ : CS) (x1 : Int32) : Ksc (pSc σ) (b_X9_takeNumber_7 N K σ x1) := by
  unfold b_X9_takeNumber_7
  exact (ksc_ite (kS_X9_takeNumber_67 N σ) (ksc_bind (kS_X9_byteAt N σ (σ.i 42)) (fun p3 => (ksc_bind (kS_X9_isDigit N p3.2 p3.1) (fun p7 => (ksc_ite (kS_X9_takeNumber_67 N p7.2) (ksc_bind (kS_X9_byteAt N p7.2 (p7.2.i 42)) (fun p12 => (hMK (CS.setI (CS.setI p12.2 45 ((((p7.2.i 45) * 10) + p12.1) - 48)) 42 ((p12.2.i 42) + 1)) (x1 + 1))))))))))
theorem kS_X9_takeNumber_7 (N : Nat) : ∀ (n : Nat) (σ : CS) (x1 : Int32), Ksc (pSc σ) (f_X9_takeNumber_7 N n σ x1)
  | 0, _, _ => ksc_none
  | n+1, σ, x1 => kSb_X9_takeNumber_7 N (f_X9_takeNumber_7 N n) (fun σ x1 => kS_X9_takeNumber_7 N n σ x1) σ x1
theorem kS_X9_takeNumber (N : Nat) (σ : CS) : Ksc (pSc σ) (f_X9_takeNumber N σ) := by
  unfold f_X9_takeNumber
  exact (kS_X9_takeNumber_7 N N (CS.setI σ 45 0) 0)
theorem kS_X9_isLetter_16 (N : Nat) (σ : CS) : Ksc (pSc σ) (f_X9_isLetter_16 N σ ) := by
  unfold f_X9_isLetter_16
  exact (ksc_some (rfl))
theorem kS_X9_isLetter (N : Nat) (σ : CS) (x0 : Int32) : Ksc (pSc σ) (f_X9_isLetter N σ x0) := by
  unfold f_X9_isLetter
  exact (ksc_ite (kS_X9_isLetter_16 N σ) (ksc_ite (kS_X9_isLetter_16 N σ) (ksc_some (rfl))))
theorem kS_X9_rowType_171 (N : Nat) (σ : CS) (x6 : Int64) : Ksc (pSc σ) (f_X9_rowType_171 N σ x6) := by
  unfold f_X9_rowType_171
  exact (ksc_ite (ksc_ite (ksc_some (rfl)) (ksc_some (rfl))) (ksc_ite (ksc_ite (ksc_some (rfl)) (ksc_ite (ksc_some (rfl)) (ksc_some (rfl)))) (ksc_some (rfl))))
theorem kS_X9_rowType_153 (N : Nat) (σ : CS) (x2 : Int64) (x4 : Int32) (x6 : Int64) : Ksc (pSc σ) (f_X9_rowType_153 N σ x2 x4 x6) := by
  unfold f_X9_rowType_153
  exact (ksc_ite (kS_X9_rowType_171 N (CS.setI σ 45 (((x2 : Int64).toInt32) + 10)) x6) (kS_X9_rowType_171 N (CS.setI σ 45 (((x2 : Int64).toInt32) + 0)) x6))
theorem kS_X9_rowType_129 (N : Nat) (σ : CS) (x2 : Int64) (x4 : Int32) : Ksc (pSc σ) (f_X9_rowType_129 N σ x2 x4) := by
  unfold f_X9_rowType_129
  exact (ksc_ite (kS_X9_rowType_153 N σ x2 x4 (σ.l >>> ((16 : Int32).toInt64 &&& 63))) (kS_X9_rowType_153 N σ x2 x4 (σ.l >>> ((8 : Int32).toInt64 &&& 63))))
theorem kS_X9_rowType_117 (N : Nat) (σ : CS) (x2 : Int64) (x4 : Int32) (x5 : Int32) : Ksc (pSc σ) (f_X9_rowType_117 N σ x2 x4 x5) := by
  unfold f_X9_rowType_117
  exact (ksc_ite (ksc_ite (ksc_some (rfl)) (kS_X9_rowType_129 N σ x2 x4)) (kS_X9_rowType_129 N σ x2 x4))
theorem kS_X9_rowType_114 (N : Nat) (σ : CS) (x2 : Int64) (x4 : Int32) : Ksc (pSc σ) (f_X9_rowType_114 N σ x2 x4) := by
  unfold f_X9_rowType_114
  exact (kS_X9_rowType_117 N σ x2 x4 0)
theorem kS_X9_rowType_73 (N : Nat) (σ : CS) (x1 : Int32) (x2 : Int64) (x4 : Int32) : Ksc (pSc σ) (f_X9_rowType_73 N σ x1 x2 x4) := by
  unfold f_X9_rowType_73
  exact (ksc_ite (ksc_ite (kS_X9_rowType_114 N σ x2 x4) (ksc_ite (kS_X9_rowType_114 N σ x2 x4) (ksc_ite (kS_X9_rowType_117 N σ x2 x4 1) (kS_X9_rowType_114 N σ x2 x4)))) (kS_X9_rowType_114 N σ x2 x4))
theorem kS_X9_rowType_70 (N : Nat) (σ : CS) (x1 : Int32) (x2 : Int64) : Ksc (pSc σ) (f_X9_rowType_70 N σ x1 x2) := by
  unfold f_X9_rowType_70
  exact (kS_X9_rowType_73 N σ x1 x2 0)
theorem kSb_X9_rowType_2 (N : Nat) (K : CS → Int32 → Int32 → Option (Int32 × CS)) (hMK : ∀ (σ : CS) (x1 : Int32) (x2 : Int32), Ksc (pSc σ) (K σ x1 x2)) (σ : CS) (x1 : Int32) (x2 : Int32) : Ksc (pSc σ) (b_X9_rowType_2 N K σ x1 x2) := by
  unfold b_X9_rowType_2
  exact (ksc_ite (ksc_ite (ksc_ite (kS_X9_rowType_70 N σ x1 ((σ.l &&& 255) - 48)) (ksc_ite (kS_X9_rowType_70 N σ x1 ((σ.l &&& 255) - 48)) (kS_X9_rowType_73 N σ x1 ((σ.l &&& 255) - 48) 1))) (kS_X9_rowType_70 N σ x1 ((σ.l &&& 255) - 48))) (ksc_ite (ksc_ite (ksc_some (rfl)) (hMK σ x1 (x2 + 1))) ksc_none))
theorem kS_X9_rowType_2 (N : Nat) : ∀ (n : Nat) (σ : CS) (x1 : Int32) (x2 : Int32), Ksc (pSc σ) (f_X9_rowType_2 N n σ x1 x2)
  | 0, _, _, _ => ksc_none
  | n+1, σ, x1, x2 => kSb_X9_rowType_2 N (f_X9_rowType_2 N n) (fun σ x1 x2 => kS_X9_rowType_2 N n σ x1 x2) σ x1 x2
theorem kS_X9_rowType (N : Nat) (σ : CS) (x1 : Int32) : Ksc (pSc σ) (f_X9_rowType N σ x1) := by
  unfold f_X9_rowType
  exact (kS_X9_rowType_2 N N σ x1 0)
theorem kS_X9_takeRow_79 (N : Nat) (σ : CS) : Ksc (pSc σ) (f_X9_takeRow_79 N σ ) := by
  unfold f_X9_takeRow_79
  exact (ksc_ite (ksc_bind (kS_X9_rowType N σ ((σ.i 42) - (σ.i 44))) (fun p3 => (ksc_some (rfl)))) (ksc_some (rfl)))
theorem kSb_X9_takeRow_7 (N : Nat) (K : CS → Int32 → Option (Unit × CS)) (hMK : ∀ (σ : CS) (x1 : Int32), Ksc (pSc σ) (K σ x1)) (σ : CS) (x1 : Int32) : Ksc (pSc σ) (b_X9_takeRow_7 N K σ x1) := by
  unfold b_X9_takeRow_7
  exact (ksc_ite (kS_X9_takeRow_79 N σ) (ksc_bind (kS_X9_byteAt N σ (σ.i 42)) (fun p7 => (ksc_bind (kS_X9_isDigit N p7.2 p7.1) (fun p11 => (ksc_ite (ksc_bind (kS_X9_byteAt N p11.2 (p11.2.i 42)) (fun p20 => (ksc_bind (kS_X9_isLetter N p20.2 p20.1) (fun p24 => (ksc_ite (kS_X9_takeRow_79 N p24.2) (ksc_bind (kS_X9_byteAt N p24.2 (p24.2.i 42)) (fun p29 => (hMK (CS.setI (CS.setL p29.2 ((p24.2.l <<< ((8 : Int32).toInt64 &&& 63)) ||| (p29.1 : Int32).toInt64)) 42 ((p29.2.i 42) + 1)) (x1 + 1))))))))) (ksc_bind (kS_X9_byteAt N p11.2 (p11.2.i 42)) (fun p16 => (hMK (CS.setI (CS.setL p16.2 ((p11.2.l <<< ((8 : Int32).toInt64 &&& 63)) ||| (p16.1 : Int32).toInt64)) 42 ((p16.2.i 42) + 1)) (x1 + 1))))))))))
theorem kS_X9_takeRow_7 (N : Nat) : ∀ (n : Nat) (σ : CS) (x1 : Int32), Ksc (pSc σ) (f_X9_takeRow_7 N n σ x1)
  | 0, _, _ => ksc_none
  | n+1, σ, x1 => kSb_X9_takeRow_7 N (f_X9_takeRow_7 N n) (fun σ x1 => kS_X9_takeRow_7 N n σ x1) σ x1
theorem kS_X9_takeRow (N : Nat) (σ : CS) : Ksc (pSc σ) (f_X9_takeRow N σ) := by
  unfold f_X9_takeRow
  exact (kS_X9_takeRow_7 N N (CS.setL σ 0) 0)
theorem kS_X9_longSign_73 (N : Nat) (σ : CS) (x0 : Int32) (x1 : Int32) : Ksc (pSc σ) (f_X9_longSign_73 N σ x0 x1) := by
  unfold f_X9_longSign_73
  exact (ksc_ite (ksc_ite (ksc_some (rfl)) (ksc_ite (ksc_some (rfl)) (ksc_ite (ksc_some (rfl)) (ksc_some (rfl))))) (ksc_some (rfl)))
theorem kS_X9_longSign (N : Nat) (σ : CS) (x0 : Int32) (x1 : Int32) : Ksc (pSc σ) (f_X9_longSign N σ x0 x1) := by
  unfold f_X9_longSign
  exact (ksc_ite (ksc_ite (ksc_some (rfl)) (ksc_ite (ksc_some (rfl)) (ksc_ite (ksc_some (rfl)) (ksc_ite (ksc_some (rfl)) (ksc_some (rfl)))))) (ksc_ite (ksc_ite (ksc_some (rfl)) (kS_X9_longSign_73 N σ x0 x1)) (kS_X9_longSign_73 N σ x0 x1)))
theorem kS_X9_isSign (N : Nat) (σ : CS) (x0 : Int32) : Ksc (pSc σ) (f_X9_isSign N σ x0) := by
  unfold f_X9_isSign
  exact (ksc_ite (ksc_some (rfl)) (ksc_ite (ksc_some (rfl)) (ksc_ite (ksc_some (rfl)) (ksc_ite (ksc_some (rfl)) (ksc_ite (ksc_some (rfl)) (ksc_ite (ksc_some (rfl)) (ksc_ite (ksc_some (rfl)) (ksc_ite (ksc_some (rfl)) (ksc_ite (ksc_some (rfl)) (ksc_ite (ksc_some (rfl)) (ksc_ite (ksc_some (rfl)) (ksc_ite (ksc_some (rfl)) (ksc_ite (ksc_some (rfl)) (ksc_ite (ksc_some (rfl)) (ksc_ite (ksc_some (rfl)) (ksc_ite (ksc_some (rfl)) (ksc_ite (ksc_some (rfl)) (ksc_ite (ksc_some (rfl)) (ksc_ite (ksc_some (rfl)) (ksc_some (rfl)))))))))))))))))))))
theorem kS_X9_takeSign (N : Nat) (σ : CS) : Ksc (pSc σ) (f_X9_takeSign N σ) := by
  unfold f_X9_takeSign
  exact (ksc_bind (kS_X9_byteAt N σ (σ.i 42)) (fun p1 => (ksc_bind (kS_X9_byteAt N p1.2 ((p1.2.i 42) + 1)) (fun p5 => (ksc_bind (kS_X9_longSign N p5.2 p1.1 p5.1) (fun p9 => (ksc_ite (ksc_bind (kS_X9_isSign N (CS.setI (CS.setI p9.2 43 p9.1) 42 ((p9.2.i 42) + 1)) p1.1) (fun p14 => (ksc_ite (ksc_some (rfl)) (ksc_some (rfl))))) (ksc_some (rfl)))))))))
theorem kS_X9_advance_51 (N : Nat) (σ : CS) : Ksc (pSc σ) (f_X9_advance_51 N σ ) := by
  unfold f_X9_advance_51
  exact (ksc_ite (ksc_bind (kS_X9_byteAt N (CS.setI σ 44 (σ.i 42)) (σ.i 42)) (fun p3 => (ksc_bind (kS_X9_isDigit N p3.2 p3.1) (fun p7 => (ksc_ite (ksc_bind (kS_X9_byteAt N p7.2 (p7.2.i 42)) (fun p12 => (ksc_bind (kS_X9_isLetter N p12.2 p12.1) (fun p16 => (ksc_ite (ksc_bind (kS_X9_takeSign N p16.2) (fun p21 => (ksc_some (rfl)))) (ksc_bind (kS_X9_takeRow N p16.2) (fun p25 => (ksc_some (rfl))))))))) (ksc_bind (kS_X9_takeNumber N p7.2) (fun p29 => (ksc_some (rfl))))))))) (ksc_some (rfl)))
theorem kSb_X9_advance_2 (N : Nat) (K : CS → Int32 → Option (Unit × CS)) (hMK : ∀ (σ : CS) (x1 : Int32), Ksc (pSc σ) (K σ x1)) (σ : CS) (x1 : Int32) : Ksc (pSc σ) (b_X9_advance_2 N K σ x1) := by
  unfold b_X9_advance_2
  exact (ksc_ite (kS_X9_advance_51 N σ) (ksc_bind (kS_X9_byteAt N σ (σ.i 42)) (fun p33 => (ksc_ite (hMK (CS.setI p33.2 42 ((p33.2.i 42) + 1)) (x1 + 1)) (ksc_bind (kS_X9_byteAt N p33.2 (p33.2.i 42)) (fun p38 => (ksc_ite (hMK (CS.setI p38.2 42 ((p38.2.i 42) + 1)) (x1 + 1)) (kS_X9_advance_51 N p38.2))))))))
theorem kS_X9_advance_2 (N : Nat) : ∀ (n : Nat) (σ : CS) (x1 : Int32), Ksc (pSc σ) (f_X9_advance_2 N n σ x1)
  | 0, _, _ => ksc_none
  | n+1, σ, x1 => kSb_X9_advance_2 N (f_X9_advance_2 N n) (fun σ x1 => kS_X9_advance_2 N n σ x1) σ x1
theorem kS_X9_advance (N : Nat) (σ : CS) : Ksc (pSc σ) (f_X9_advance N σ) := by
  unfold f_X9_advance
  exact (kS_X9_advance_2 N N σ 0)
theorem kS_X1_skip_17 (N : Nat) (σ : CS) (x2 : Int32) : Ksc (pSc σ) (f_X1_skip_17 N σ x2) := by
  unfold f_X1_skip_17
  exact (ksc_ite (ksc_some (rfl)) ksc_none)
theorem kS_X1_skip (N : Nat) (σ : CS) (x1 : Int32) : Ksc (pSc σ) (f_X1_skip N σ x1) := by
  unfold f_X1_skip
  exact (ksc_bind (kS_X1_found N σ x1) (fun p1 => (ksc_ite (kS_X1_skip_17 N p1.2 p1.1) (ksc_bind (kS_X9_advance N p1.2) (fun p7 => (kS_X1_skip_17 N p7.2 p1.1))))))
theorem kS_X1_expect (N : Nat) (σ : CS) (x1 : Int32) : Ksc (pSc σ) (f_X1_expect N σ x1) := by
  unfold f_X1_expect
  exact (ksc_bind (kS_X1_found N σ x1) (fun p1 => (ksc_ite (ksc_bind (kS_X1_misplaced N p1.2) (fun p6 => (ksc_some (rfl)))) (ksc_bind (kS_X9_advance N p1.2) (fun p10 => (ksc_some (rfl)))))))
theorem kS_X1_open (N : Nat) (σ : CS) (x1 : Int32) : Ksc (pSc σ) (f_X1_open N σ x1) := by
  unfold f_X1_open
  exact (ksc_bind (kS_X1_found N σ x1) (fun p1 => (ksc_ite (ksc_bind (kS_X1_misplaced N p1.2) (fun p15 => (ksc_some (rfl)))) (ksc_ite (ksc_bind (kS_X9_advance N (CS.setI p1.2 34 ((p1.2.i 34) + 1))) (fun p7 => (ksc_some (rfl)))) (ksc_bind (kS_X1_fail N p1.2 6 (p1.2.i 44)) (fun p11 => (ksc_some (rfl))))))))
theorem kS_X1_close_22 (N : Nat) (σ : CS) : Ksc (pSc σ) (f_X1_close_22 N σ ) := by
  unfold f_X1_close_22
  exact (ksc_some (rfl))
theorem kS_X1_close (N : Nat) (σ : CS) (x1 : Int32) : Ksc (pSc σ) (f_X1_close N σ x1) := by
  unfold f_X1_close
  exact (ksc_bind (kS_X1_found N σ x1) (fun p1 => (ksc_ite (ksc_bind (kS_X1_misplaced N p1.2) (fun p6 => (kS_X1_close_22 N p6.2))) (ksc_bind (kS_X9_advance N p1.2) (fun p10 => (kS_X1_close_22 N p10.2))))))
theorem kSb_X1_product_6 (N : Nat) (E1 : CS → Option (Unit × CS)) (E2 : CS → Option (Int32 × CS)) (hm1 : ∀ σ, Ksc (pSc σ) (E1 σ)) (hm2 : ∀ σ, Ksc (pSc σ) (E2 σ)) (K : CS → Int32 → Option (Unit × CS)) (hMK : ∀ (σ : CS) (x1 : Int32), Ksc (pSc σ) (K σ x1)) (σ : CS) (x1 : Int32) : Ksc (pSc σ) (b_X1_product_6 N E1 E2 K σ x1) := by
  unfold b_X1_product_6
  exact (ksc_ite (ksc_some (rfl)) (ksc_bind (kS_X1_found N σ 42) (fun p6 => (ksc_ite (ksc_bind (kS_X1_found N p6.2 47) (fun p57 => (ksc_ite (ksc_bind (kS_X1_found N p57.2 37) (fun p108 => (ksc_ite (ksc_some (rfl)) (ksc_bind (kS_X1_found N p108.2 42) (fun p113 => (ksc_ite (ksc_bind (kS_X1_found N p113.2 47) (fun p118 => (ksc_ite (ksc_bind (kS_X9_advance N p118.2) (fun p123 => (ksc_bind (hm1 p123.2) (fun p127 => (ksc_bind (kS_X0_add N p127.2 11 0) (fun p131 => (hMK p131.2 (x1 + 1)))))))) (ksc_bind (kS_X9_advance N p118.2) (fun p135 => (ksc_bind (hm1 p135.2) (fun p139 => (ksc_bind (kS_X0_add N p139.2 10 0) (fun p143 => (hMK p143.2 (x1 + 1))))))))))) (ksc_bind (kS_X9_advance N p113.2) (fun p147 => (ksc_bind (hm1 p147.2) (fun p151 => (ksc_bind (kS_X0_add N p151.2 9 0) (fun p155 => (hMK p155.2 (x1 + 1)))))))))))))) (ksc_bind (kS_X1_found N p57.2 42) (fun p62 => (ksc_ite (ksc_bind (kS_X1_found N p62.2 47) (fun p67 => (ksc_ite (ksc_bind (kS_X9_advance N p67.2) (fun p72 => (ksc_bind (hm1 p72.2) (fun p76 => (ksc_bind (kS_X0_add N p76.2 11 0) (fun p80 => (hMK p80.2 (x1 + 1)))))))) (ksc_bind (kS_X9_advance N p67.2) (fun p84 => (ksc_bind (hm1 p84.2) (fun p88 => (ksc_bind (kS_X0_add N p88.2 10 0) (fun p92 => (hMK p92.2 (x1 + 1))))))))))) (ksc_bind (kS_X9_advance N p62.2) (fun p96 => (ksc_bind (hm1 p96.2) (fun p100 => (ksc_bind (kS_X0_add N p100.2 9 0) (fun p104 => (hMK p104.2 (x1 + 1)))))))))))))) (ksc_bind (kS_X1_found N p6.2 42) (fun p11 => (ksc_ite (ksc_bind (kS_X1_found N p11.2 47) (fun p16 => (ksc_ite (ksc_bind (kS_X9_advance N p16.2) (fun p21 => (ksc_bind (hm1 p21.2) (fun p25 => (ksc_bind (kS_X0_add N p25.2 11 0) (fun p29 => (hMK p29.2 (x1 + 1)))))))) (ksc_bind (kS_X9_advance N p16.2) (fun p33 => (ksc_bind (hm1 p33.2) (fun p37 => (ksc_bind (kS_X0_add N p37.2 10 0) (fun p41 => (hMK p41.2 (x1 + 1))))))))))) (ksc_bind (kS_X9_advance N p11.2) (fun p45 => (ksc_bind (hm1 p45.2) (fun p49 => (ksc_bind (kS_X0_add N p49.2 9 0) (fun p53 => (hMK p53.2 (x1 + 1)))))))))))))))
theorem kS_X1_product_6 (N : Nat) (E1 : CS → Option (Unit × CS)) (E2 : CS → Option (Int32 × CS)) (hm1 : ∀ σ, Ksc (pSc σ) (E1 σ)) (hm2 : ∀ σ, Ksc (pSc σ) (E2 σ)) : ∀ (n : Nat) (σ : CS) (x1 : Int32), Ksc (pSc σ) (f_X1_product_6 N E1 E2 n σ x1)
  | 0, _, _ => ksc_none
  | n+1, σ, x1 => kSb_X1_product_6 N E1 E2 hm1 hm2 (f_X1_product_6 N E1 E2 n) (fun σ x1 => kS_X1_product_6 N E1 E2 hm1 hm2 n σ x1) σ x1
theorem kS_X1_product (N : Nat) (E1 : CS → Option (Unit × CS)) (E2 : CS → Option (Int32 × CS)) (hm1 : ∀ σ, Ksc (pSc σ) (E1 σ)) (hm2 : ∀ σ, Ksc (pSc σ) (E2 σ)) (σ : CS) : Ksc (pSc σ) (f_X1_product N E1 E2 σ) := by
  unfold f_X1_product
  exact (ksc_bind (hm1 σ) (fun p1 => (kS_X1_product_6 N E1 E2 hm1 hm2 N p1.2 0)))
theorem kSb_X1_expression_6 (N : Nat) (E1 : CS → Option (Unit × CS)) (E2 : CS → Option (Int32 × CS)) (hm1 : ∀ σ, Ksc (pSc σ) (E1 σ)) (hm2 : ∀ σ, Ksc (pSc σ) (E2 σ)) (K : CS → Int32 → Option (Unit × CS)) (hMK : ∀ (σ : CS) (x1 : Int32), Ksc (pSc σ) (K σ x1)) (σ : CS) (x1 : Int32) : Ksc (pSc σ) (b_X1_expression_6 N E1 E2 K σ x1) := by
  unfold b_X1_expression_6
  exact (ksc_ite (ksc_some (rfl)) (ksc_bind (kS_X1_found N σ 43) (fun p6 => (ksc_ite (ksc_bind (kS_X1_found N p6.2 45) (fun p40 => (ksc_ite (ksc_some (rfl)) (ksc_bind (kS_X1_found N p40.2 43) (fun p45 => (ksc_ite (ksc_bind (kS_X9_advance N p45.2) (fun p50 => (ksc_bind (kS_X1_product N E1 E2 hm1 hm2 p50.2) (fun p54 => (ksc_bind (kS_X0_add N p54.2 8 0) (fun p58 => (hMK p58.2 (x1 + 1)))))))) (ksc_bind (kS_X9_advance N p45.2) (fun p62 => (ksc_bind (kS_X1_product N E1 E2 hm1 hm2 p62.2) (fun p66 => (ksc_bind (kS_X0_add N p66.2 7 0) (fun p70 => (hMK p70.2 (x1 + 1)))))))))))))) (ksc_bind (kS_X1_found N p6.2 43) (fun p11 => (ksc_ite (ksc_bind (kS_X9_advance N p11.2) (fun p16 => (ksc_bind (kS_X1_product N E1 E2 hm1 hm2 p16.2) (fun p20 => (ksc_bind (kS_X0_add N p20.2 8 0) (fun p24 => (hMK p24.2 (x1 + 1)))))))) (ksc_bind (kS_X9_advance N p11.2) (fun p28 => (ksc_bind (kS_X1_product N E1 E2 hm1 hm2 p28.2) (fun p32 => (ksc_bind (kS_X0_add N p32.2 7 0) (fun p36 => (hMK p36.2 (x1 + 1)))))))))))))))
theorem kS_X1_expression_6 (N : Nat) (E1 : CS → Option (Unit × CS)) (E2 : CS → Option (Int32 × CS)) (hm1 : ∀ σ, Ksc (pSc σ) (E1 σ)) (hm2 : ∀ σ, Ksc (pSc σ) (E2 σ)) : ∀ (n : Nat) (σ : CS) (x1 : Int32), Ksc (pSc σ) (f_X1_expression_6 N E1 E2 n σ x1)
  | 0, _, _ => ksc_none
  | n+1, σ, x1 => kSb_X1_expression_6 N E1 E2 hm1 hm2 (f_X1_expression_6 N E1 E2 n) (fun σ x1 => kS_X1_expression_6 N E1 E2 hm1 hm2 n σ x1) σ x1
theorem kS_X1_expression (N : Nat) (E1 : CS → Option (Unit × CS)) (E2 : CS → Option (Int32 × CS)) (hm1 : ∀ σ, Ksc (pSc σ) (E1 σ)) (hm2 : ∀ σ, Ksc (pSc σ) (E2 σ)) (σ : CS) : Ksc (pSc σ) (f_X1_expression N E1 E2 σ) := by
  unfold f_X1_expression
  exact (ksc_bind (kS_X1_product N E1 E2 hm1 hm2 σ) (fun p1 => (kS_X1_expression_6 N E1 E2 hm1 hm2 N p1.2 0)))
theorem kS_X4_find_38 (N : Nat) (σ : CS) : Ksc (pSc σ) (f_X4_find_38 N σ ) := by
  unfold f_X4_find_38
  exact (ksc_some (rfl))
theorem kSb_X4_find_2 (N : Nat) (K : CS → Int64 → Int32 → Option (Int32 × CS)) (hMK : ∀ (σ : CS) (x1 : Int64) (x3 : Int32), Ksc (pSc σ) (K σ x1 x3)) (σ : CS) (x1 : Int64) (x3 : Int32) : Ksc (pSc σ) (b_X4_find_2 N K σ x1 x3) := by
  unfold b_X4_find_2
  exact (ksc_ite (kS_X4_find_38 N σ) (ksc_ite (kS_X4_find_38 N σ) (ksc_ite (ksc_ite (ksc_some (rfl)) (hMK σ x1 (x3 + 1))) ksc_none)))
theorem kS_X4_find_2 (N : Nat) : ∀ (n : Nat) (σ : CS) (x1 : Int64) (x3 : Int32), Ksc (pSc σ) (f_X4_find_2 N n σ x1 x3)
  | 0, _, _, _ => ksc_none
  | n+1, σ, x1, x3 => kSb_X4_find_2 N (f_X4_find_2 N n) (fun σ x1 x3 => kS_X4_find_2 N n σ x1 x3) σ x1 x3
theorem kS_X4_find (N : Nat) (σ : CS) (x1 : Int64) : Ksc (pSc σ) (f_X4_find N σ x1) := by
  unfold f_X4_find
  exact (kS_X4_find_2 N N σ x1 0)
theorem kS_X4_cellOf (N : Nat) (σ : CS) (x1 : Int32) : Ksc (pSc σ) (f_X4_cellOf N σ x1) := by
  unfold f_X4_cellOf
  exact (ksc_some (rfl))
theorem kS_X1_loadName (N : Nat) (σ : CS) : Ksc (pSc σ) (f_X1_loadName N σ) := by
  unfold f_X1_loadName
  exact (ksc_bind (kS_X4_find N σ σ.l) (fun p1 => (ksc_ite (ksc_bind (kS_X4_cellOf N p1.2 p1.1) (fun p6 => (ksc_bind (kS_X0_add N p6.2 1 p6.1) (fun p10 => (ksc_bind (kS_X9_advance N p10.2) (fun p14 => (ksc_some (rfl)))))))) (ksc_bind (kS_X1_fail N p1.2 3 (p1.2.i 44)) (fun p18 => (ksc_some (rfl)))))))
theorem kS_X1_negated_17 (N : Nat) (E1 : CS → Option (Unit × CS)) (E2 : CS → Option (Int32 × CS)) (hm1 : ∀ σ, Ksc (pSc σ) (E1 σ)) (hm2 : ∀ σ, Ksc (pSc σ) (E2 σ)) (σ : CS) : Ksc (pSc σ) (f_X1_negated_17 N E1 E2 σ ) := by
  unfold f_X1_negated_17
  exact (ksc_bind (kS_X0_add N (CS.setI σ 34 ((σ.i 34) - 1)) 4 0) (fun p6 => (ksc_some (rfl))))
theorem kS_X1_negated (N : Nat) (E1 : CS → Option (Unit × CS)) (E2 : CS → Option (Int32 × CS)) (hm1 : ∀ σ, Ksc (pSc σ) (E1 σ)) (hm2 : ∀ σ, Ksc (pSc σ) (E2 σ)) (σ : CS) : Ksc (pSc σ) (f_X1_negated N E1 E2 σ) := by
  unfold f_X1_negated
  exact (ksc_bind (kS_X1_open N σ 45) (fun p1 => (ksc_ite (ksc_bind (hm1 p1.2) (fun p10 => (kS_X1_negated_17 N E1 E2 hm1 hm2 p10.2))) (kS_X1_negated_17 N E1 E2 hm1 hm2 p1.2))))
theorem kS_X1_caseNumber_44 (N : Nat) (σ : CS) (x1 : Int32) (x2 : Int32) (x4 : Int32) : Ksc (pSc σ) (f_X1_caseNumber_44 N σ x1 x2 x4) := by
  unfold f_X1_caseNumber_44
  exact (ksc_bind (kS_X0_hasCase N σ x1 x4) (fun p11 => (ksc_ite (ksc_bind (kS_X0_addCase N p11.2 x4 x2) (fun p16 => (ksc_bind (kS_X9_advance N p16.2) (fun p20 => (ksc_some (rfl)))))) (ksc_bind (kS_X1_fail N p11.2 4 (p11.2.i 44)) (fun p24 => (ksc_some (rfl)))))))
theorem kS_X1_caseNumber (N : Nat) (σ : CS) (x1 : Int32) (x2 : Int32) : Ksc (pSc σ) (f_X1_caseNumber N σ x1 x2) := by
  unfold f_X1_caseNumber
  exact (ksc_bind (kS_X1_skip N σ 45) (fun p1 => (ksc_bind (kS_X1_found N p1.2 1) (fun p5 => (ksc_ite (ksc_bind (kS_X1_misplaced N p5.2) (fun p28 => (ksc_some (rfl)))) (ksc_ite (kS_X1_caseNumber_44 N p5.2 x1 x2 (p5.2.i 45)) (kS_X1_caseNumber_44 N p5.2 x1 x2 (-(p5.2.i 45)))))))))
theorem kS_X5_init (N : Nat) (σ : CS) (x0 : Nat) : Ksc (pSc σ) (f_X5_init N σ x0) := by
  unfold f_X5_init
  exact (ksc_some (rfl))
theorem kS_X6_push_48 (N : Nat) (σ : CS) (x1 : Int32) (x2 : Int32) (x3 : Int32) (x4 : Int32) (x5 : Nat) : Ksc (pSc σ) (f_X6_push_48 N σ x1 x2 x3 x4 x5) := by
  unfold f_X6_push_48
  exact (ksc_ite (ksc_some (rfl)) ksc_none)
theorem kS_X6_push (N : Nat) (σ : CS) (x1 : Int32) (x2 : Int32) (x3 : Int32) : Ksc (pSc σ) (f_X6_push N σ x1 x2 x3) := by
  unfold f_X6_push
  exact (ksc_ite (ksc_oc (ksc_le (rfl) (ksc_bind (kS_X5_init N (CS.new σ 0) (CS.hs σ)) (fun p5 => (ksc_ite (ksc_ite (kS_X6_push_48 N (CS.setR p5.2 51 (((if (399 : Int32) < (σ.i 53) then (399 : Int32) else (σ.i 53)) : Int32).toNatClampNeg) (some (CS.hs σ))) x1 x2 x3 (if (399 : Int32) < (σ.i 53) then (399 : Int32) else (σ.i 53)) (CS.hs σ)) ksc_none) ksc_none)))) (fun a3 => (kS_X6_push_48 N σ x1 x2 x3 (if (399 : Int32) < (σ.i 53) then (399 : Int32) else (σ.i 53)) a3))) ksc_none)
theorem kS_X6_row_30 (N : Nat) (σ : CS) : Ksc (pSc σ) (f_X6_row_30 N σ ) := by
  unfold f_X6_row_30
  exact (ksc_some (rfl))
theorem kS_X6_row (N : Nat) (σ : CS) (x1 : Int32) : Ksc (pSc σ) (f_X6_row N σ x1) := by
  unfold f_X6_row
  exact (ksc_ite (kS_X6_row_30 N σ) (ksc_ite (kS_X6_row_30 N σ) (ksc_ite (kS_X6_row_30 N σ) (ksc_ite (ksc_oc (ksc_some (rfl)) (fun a6 => (ksc_some (rfl)))) ksc_none))))
theorem kS_X5_isLoop_40 (N : Nat) (σ : CS) : Ksc (pSc σ) (f_X5_isLoop_40 N σ ) := by
  unfold f_X5_isLoop_40
  exact (ksc_some (rfl))
theorem kS_X5_isLoop (N : Nat) (σ : CS) (x0 : Nat) : Ksc (pSc σ) (f_X5_isLoop N σ x0) := by
  unfold f_X5_isLoop
  exact (ksc_ite (ksc_ite (kS_X5_isLoop_40 N σ) (ksc_ite (kS_X5_isLoop_40 N σ) (ksc_ite (kS_X5_isLoop_40 N σ) (ksc_ite (kS_X5_isLoop_40 N σ) (ksc_some (rfl)))))) ksc_none)
theorem kS_X5_hasOneBody_37 (N : Nat) (σ : CS) : Ksc (pSc σ) (f_X5_hasOneBody_37 N σ ) := by
  unfold f_X5_hasOneBody_37
  exact (ksc_some (rfl))
theorem kS_X5_hasOneBody (N : Nat) (σ : CS) (x0 : Nat) : Ksc (pSc σ) (f_X5_hasOneBody N σ x0) := by
  unfold f_X5_hasOneBody
  exact (ksc_ite (ksc_bind (kS_X5_isLoop N σ x0) (fun p3 => (ksc_ite (ksc_ite (ksc_ite (kS_X5_hasOneBody_37 N p3.2) (ksc_ite (kS_X5_hasOneBody_37 N p3.2) (ksc_ite (kS_X5_hasOneBody_37 N p3.2) (ksc_some (rfl))))) ksc_none) (kS_X5_hasOneBody_37 N p3.2)))) ksc_none)
theorem kS_X6_pop (N : Nat) (σ : CS) : Ksc (pSc σ) (f_X6_pop N σ) := by
  unfold f_X6_pop
  exact (ksc_some (rfl))
theorem kS_X7_endIf (N : Nat) (σ : CS) (x1 : Nat) : Ksc (pSc σ) (f_X7_endIf N σ x1) := by
  unfold f_X7_endIf
  exact (ksc_bind (kS_X1_skip N σ 204) (fun p1 => (ksc_ite (ksc_ite (ksc_bind (kS_X0_aim N p1.2 (CS.o p1.2 x1 10)) (fun p23 => (ksc_bind (kS_X6_pop N (CS.setI p23.2 36 1)) (fun p27 => (ksc_some (rfl)))))) ksc_none) (ksc_ite (ksc_ite (ksc_bind (kS_X0_newTarget N (CS.setO (CS.setO (CS.setO p1.2 x1 0 204) x1 5 0) x1 6 (p1.2.i 36))) (fun p8 => (ksc_ite (ksc_bind (kS_X0_add N (CS.setO p8.2 x1 9 p8.1) 30 (CS.o (CS.setO p8.2 x1 9 p8.1) x1 9)) (fun p13 => (ksc_ite (ksc_bind (kS_X0_aim N p13.2 (CS.o p13.2 x1 10)) (fun p18 => (ksc_some (rfl)))) ksc_none))) ksc_none))) ksc_none) ksc_none))))
theorem kS_X6_jumpTo (N : Nat) (σ : CS) (x0 : Nat) (x1 : Int32) : Ksc (pSc σ) (f_X6_jumpTo N σ x0 x1) := by
  unfold f_X6_jumpTo
  exact (ksc_ite (ksc_ite (ksc_some (rfl)) (ksc_some (rfl))) ksc_none)
theorem kSb_X6_isGoneTo_5 (N : Nat) (K : CS → Nat → Int32 → Int32 → Option (Int32 × CS)) (hMK : ∀ (σ : CS) (x1 : Nat) (x2 : Int32) (x3 : Int32), Ksc (pSc σ) (K σ x1 x2 x3)) (σ : CS) (x1 : Nat) (x2 : Int32) (x3 : Int32) : Ksc (pSc σ) (b_X6_isGoneTo_5 N K σ x1 x2 x3) := by
  unfold b_X6_isGoneTo_5
  exact (ksc_ite (ksc_some (rfl)) (ksc_bind (kS_X6_jumpTo N σ x1 x2) (fun p4 => (ksc_ite (ksc_some (rfl)) (hMK p4.2 x1 x2 (x3 + 1))))))
theorem kS_X6_isGoneTo_5 (N : Nat) : ∀ (n : Nat) (σ : CS) (x1 : Nat) (x2 : Int32) (x3 : Int32), Ksc (pSc σ) (f_X6_isGoneTo_5 N n σ x1 x2 x3)
  | 0, _, _, _, _ => ksc_none
  | n+1, σ, x1, x2, x3 => kSb_X6_isGoneTo_5 N (f_X6_isGoneTo_5 N n) (fun σ x1 x2 x3 => kS_X6_isGoneTo_5 N n σ x1 x2 x3) σ x1 x2 x3
theorem kS_X6_isGoneTo (N : Nat) (σ : CS) (x1 : Nat) (x2 : Int32) : Ksc (pSc σ) (f_X6_isGoneTo N σ x1 x2) := by
  unfold f_X6_isGoneTo
  exact (ksc_ite (kS_X6_isGoneTo_5 N N σ x1 x2 (CS.o σ x1 14)) ksc_none)
theorem kS_X1_conjunction_65 (N : Nat) (E1 : CS → Option (Unit × CS)) (E2 : CS → Option (Int32 × CS)) (hm1 : ∀ σ, Ksc (pSc σ) (E1 σ)) (hm2 : ∀ σ, Ksc (pSc σ) (E2 σ)) (σ : CS) (x2 : Int32) : Ksc (pSc σ) (f_X1_conjunction_65 N E1 E2 σ x2) := by
  unfold f_X1_conjunction_65
  exact (ksc_bind (kS_X0_aim N σ x2) (fun p15 => (ksc_some (rfl))))
theorem kSb_X1_conjunction_27 (N : Nat) (E1 : CS → Option (Unit × CS)) (E2 : CS → Option (Int32 × CS)) (hm1 : ∀ σ, Ksc (pSc σ) (E1 σ)) (hm2 : ∀ σ, Ksc (pSc σ) (E2 σ)) (K : CS → Int32 → Int32 → Option (Int32 × CS)) (hMK : ∀ (σ : CS) (x2 : Int32) (x3 : Int32), Ksc (pSc σ) (K σ x2 x3)) (σ : CS) (x2 : Int32) (x3 : Int32) : Ksc (pSc σ) (b_X1_conjunction_27 N E1 E2 K σ x2 x3) := by
  unfold b_X1_conjunction_27
  exact (ksc_ite (kS_X1_conjunction_65 N E1 E2 hm1 hm2 σ x2) (ksc_bind (kS_X1_skip N σ 132) (fun p19 => (ksc_ite (kS_X1_conjunction_65 N E1 E2 hm1 hm2 p19.2 x2) (ksc_bind (kS_X0_add N p19.2 32 x2) (fun p24 => (ksc_bind (hm2 p24.2) (fun p28 => (hMK p28.2 x2 (x3 + 1))))))))))
theorem kS_X1_conjunction_27 (N : Nat) (E1 : CS → Option (Unit × CS)) (E2 : CS → Option (Int32 × CS)) (hm1 : ∀ σ, Ksc (pSc σ) (E1 σ)) (hm2 : ∀ σ, Ksc (pSc σ) (E2 σ)) : ∀ (n : Nat) (σ : CS) (x2 : Int32) (x3 : Int32), Ksc (pSc σ) (f_X1_conjunction_27 N E1 E2 n σ x2 x3)
  | 0, _, _, _ => ksc_none
  | n+1, σ, x2, x3 => kSb_X1_conjunction_27 N E1 E2 hm1 hm2 (f_X1_conjunction_27 N E1 E2 n) (fun σ x2 x3 => kS_X1_conjunction_27 N E1 E2 hm1 hm2 n σ x2 x3) σ x2 x3
theorem kS_X1_conjunction (N : Nat) (E1 : CS → Option (Unit × CS)) (E2 : CS → Option (Int32 × CS)) (hm1 : ∀ σ, Ksc (pSc σ) (E1 σ)) (hm2 : ∀ σ, Ksc (pSc σ) (E2 σ)) (σ : CS) : Ksc (pSc σ) (f_X1_conjunction N E1 E2 σ) := by
  unfold f_X1_conjunction
  exact (ksc_bind (hm2 σ) (fun p1 => (ksc_bind (kS_X1_found N p1.2 132) (fun p5 => (ksc_ite (ksc_ite (ksc_some (rfl)) ksc_none) (ksc_bind (kS_X0_newTarget N p5.2) (fun p10 => (kS_X1_conjunction_27 N E1 E2 hm1 hm2 N p10.2 p10.1 0))))))))
theorem kS_X1_condition_65 (N : Nat) (E1 : CS → Option (Unit × CS)) (E2 : CS → Option (Int32 × CS)) (hm1 : ∀ σ, Ksc (pSc σ) (E1 σ)) (hm2 : ∀ σ, Ksc (pSc σ) (E2 σ)) (σ : CS) (x2 : Int32) : Ksc (pSc σ) (f_X1_condition_65 N E1 E2 σ x2) := by
  unfold f_X1_condition_65
  exact (ksc_bind (kS_X0_aim N σ x2) (fun p15 => (ksc_some (rfl))))
theorem kSb_X1_condition_27 (N : Nat) (E1 : CS → Option (Unit × CS)) (E2 : CS → Option (Int32 × CS)) (hm1 : ∀ σ, Ksc (pSc σ) (E1 σ)) (hm2 : ∀ σ, Ksc (pSc σ) (E2 σ)) (K : CS → Int32 → Int32 → Option (Int32 × CS)) (hMK : ∀ (σ : CS) (x2 : Int32) (x3 : Int32), Ksc (pSc σ) (K σ x2 x3)) (σ : CS) (x2 : Int32) (x3 : Int32) : Ksc (pSc σ) (b_X1_condition_27 N E1 E2 K σ x2 x3) := by
  unfold b_X1_condition_27
  exact (ksc_ite (kS_X1_condition_65 N E1 E2 hm1 hm2 σ x2) (ksc_bind (kS_X1_skip N σ 133) (fun p19 => (ksc_ite (kS_X1_condition_65 N E1 E2 hm1 hm2 p19.2 x2) (ksc_bind (kS_X0_add N p19.2 33 x2) (fun p24 => (ksc_bind (kS_X1_conjunction N E1 E2 hm1 hm2 p24.2) (fun p28 => (hMK p28.2 x2 (x3 + 1))))))))))
theorem kS_X1_condition_27 (N : Nat) (E1 : CS → Option (Unit × CS)) (E2 : CS → Option (Int32 × CS)) (hm1 : ∀ σ, Ksc (pSc σ) (E1 σ)) (hm2 : ∀ σ, Ksc (pSc σ) (E2 σ)) : ∀ (n : Nat) (σ : CS) (x2 : Int32) (x3 : Int32), Ksc (pSc σ) (f_X1_condition_27 N E1 E2 n σ x2 x3)
  | 0, _, _, _ => ksc_none
  | n+1, σ, x2, x3 => kSb_X1_condition_27 N E1 E2 hm1 hm2 (f_X1_condition_27 N E1 E2 n) (fun σ x2 x3 => kS_X1_condition_27 N E1 E2 hm1 hm2 n σ x2 x3) σ x2 x3
theorem kS_X1_condition (N : Nat) (E1 : CS → Option (Unit × CS)) (E2 : CS → Option (Int32 × CS)) (hm1 : ∀ σ, Ksc (pSc σ) (E1 σ)) (hm2 : ∀ σ, Ksc (pSc σ) (E2 σ)) (σ : CS) : Ksc (pSc σ) (f_X1_condition N E1 E2 σ) := by
  unfold f_X1_condition
  exact (ksc_bind (kS_X1_conjunction N E1 E2 hm1 hm2 σ) (fun p1 => (ksc_bind (kS_X1_found N p1.2 133) (fun p5 => (ksc_ite (ksc_ite (ksc_some (rfl)) ksc_none) (ksc_bind (kS_X0_newTarget N p5.2) (fun p10 => (kS_X1_condition_27 N E1 E2 hm1 hm2 N p10.2 p10.1 0))))))))
theorem kS_X7_conditionInside (N : Nat) (E1 : CS → Option (Unit × CS)) (E2 : CS → Option (Int32 × CS)) (hm1 : ∀ σ, Ksc (pSc σ) (E1 σ)) (hm2 : ∀ σ, Ksc (pSc σ) (E2 σ)) (σ : CS) : Ksc (pSc σ) (f_X7_conditionInside N E1 E2 σ) := by
  unfold f_X7_conditionInside
  exact (ksc_bind (kS_X1_open N σ 40) (fun p1 => (ksc_bind (kS_X1_condition N E1 E2 hm1 hm2 p1.2) (fun p5 => (ksc_bind (kS_X1_close N p5.2 41) (fun p9 => (ksc_ite (ksc_some (rfl)) ksc_none)))))))
theorem kS_X7_endDo_25 (N : Nat) (E1 : CS → Option (Unit × CS)) (E2 : CS → Option (Int32 × CS)) (hm1 : ∀ σ, Ksc (pSc σ) (E1 σ)) (hm2 : ∀ σ, Ksc (pSc σ) (E2 σ)) (σ : CS) (x1 : Nat) (x2 : Int32) : Ksc (pSc σ) (f_X7_endDo_25 N E1 E2 σ x1 x2) := by
  unfold f_X7_endDo_25
  exact (ksc_bind (kS_X1_expect N σ 205) (fun p2 => (ksc_ite (ksc_bind (kS_X0_aim N p2.2 (CS.o p2.2 x1 10)) (fun p7 => (ksc_bind (kS_X7_conditionInside N E1 E2 hm1 hm2 p7.2) (fun p11 => (ksc_bind (kS_X1_expect N p11.2 59) (fun p15 => (ksc_ite (ksc_bind (kS_X0_add N p15.2 31 (CS.o p15.2 x1 9)) (fun p20 => (ksc_ite (ksc_bind (kS_X0_add N p20.2 30 (CS.o p20.2 x1 11)) (fun p25 => (ksc_ite (ksc_bind (kS_X0_aim N p25.2 (CS.o p25.2 x1 9)) (fun p30 => (ksc_ite (ksc_bind (kS_X6_isGoneTo N p30.2 x1 0) (fun p35 => (ksc_ite (ksc_some (rfl)) (ksc_some (rfl))))) (ksc_ite (ksc_some (rfl)) (ksc_bind (kS_X6_isGoneTo N p30.2 x1 0) (fun p41 => (ksc_ite (ksc_some (rfl)) (ksc_some (rfl))))))))) ksc_none))) ksc_none))) ksc_none))))))) ksc_none)))
theorem kS_X7_endDo_19 (N : Nat) (E1 : CS → Option (Unit × CS)) (E2 : CS → Option (Int32 × CS)) (hm1 : ∀ σ, Ksc (pSc σ) (E1 σ)) (hm2 : ∀ σ, Ksc (pSc σ) (E2 σ)) (σ : CS) (x1 : Nat) : Ksc (pSc σ) (f_X7_endDo_19 N E1 E2 σ x1) := by
  unfold f_X7_endDo_19
  exact (kS_X7_endDo_25 N E1 E2 hm1 hm2 σ x1 1)
theorem kS_X7_endDo (N : Nat) (E1 : CS → Option (Unit × CS)) (E2 : CS → Option (Int32 × CS)) (hm1 : ∀ σ, Ksc (pSc σ) (E1 σ)) (hm2 : ∀ σ, Ksc (pSc σ) (E2 σ)) (σ : CS) (x1 : Nat) : Ksc (pSc σ) (f_X7_endDo N E1 E2 σ x1) := by
  unfold f_X7_endDo
  exact (ksc_ite (ksc_bind (kS_X6_isGoneTo N σ x1 1) (fun p46 => (ksc_ite (kS_X7_endDo_25 N E1 E2 hm1 hm2 p46.2 x1 0) (kS_X7_endDo_19 N E1 E2 hm1 hm2 p46.2 x1)))) (kS_X7_endDo_19 N E1 E2 hm1 hm2 σ x1))
theorem kS_X7_endBody_193 (N : Nat) (E1 : CS → Option (Unit × CS)) (E2 : CS → Option (Int32 × CS)) (hm1 : ∀ σ, Ksc (pSc σ) (E1 σ)) (hm2 : ∀ σ, Ksc (pSc σ) (E2 σ)) (σ : CS) (x1 : Nat) : Ksc (pSc σ) (f_X7_endBody_193 N E1 E2 σ x1) := by
  unfold f_X7_endBody_193
  exact (ksc_ite (ksc_bind (kS_X6_pop N (CS.setI σ 50 (CS.o σ x1 3))) (fun p14 => (ksc_some (rfl)))) ksc_none)
theorem kS_X7_endBody_88 (N : Nat) (E1 : CS → Option (Unit × CS)) (E2 : CS → Option (Int32 × CS)) (hm1 : ∀ σ, Ksc (pSc σ) (E1 σ)) (hm2 : ∀ σ, Ksc (pSc σ) (E2 σ)) (σ : CS) (x1 : Nat) : Ksc (pSc σ) (f_X7_endBody_88 N E1 E2 σ x1) := by
  unfold f_X7_endBody_88
  exact (kS_X7_endBody_193 N E1 E2 hm1 hm2 σ x1)
theorem kS_X7_endBody_130 (N : Nat) (E1 : CS → Option (Unit × CS)) (E2 : CS → Option (Int32 × CS)) (hm1 : ∀ σ, Ksc (pSc σ) (E1 σ)) (hm2 : ∀ σ, Ksc (pSc σ) (E2 σ)) (σ : CS) (x1 : Nat) : Ksc (pSc σ) (f_X7_endBody_130 N E1 E2 σ x1) := by
  unfold f_X7_endBody_130
  exact (kS_X7_endBody_193 N E1 E2 hm1 hm2 σ x1)
theorem kS_X7_endBody (N : Nat) (E1 : CS → Option (Unit × CS)) (E2 : CS → Option (Int32 × CS)) (hm1 : ∀ σ, Ksc (pSc σ) (E1 σ)) (hm2 : ∀ σ, Ksc (pSc σ) (E2 σ)) (σ : CS) (x1 : Nat) : Ksc (pSc σ) (f_X7_endBody N E1 E2 σ x1) := by
  unfold f_X7_endBody
  exact (ksc_ite (ksc_ite (ksc_bind (kS_X7_endIf N σ x1) (fun p3 => (ksc_some (rfl)))) (ksc_ite (ksc_bind (kS_X0_aim N σ (CS.o σ x1 9)) (fun p8 => (ksc_ite (ksc_ite (ksc_ite (kS_X7_endBody_88 N E1 E2 hm1 hm2 (CS.setI p8.2 36 0) x1) (kS_X7_endBody_88 N E1 E2 hm1 hm2 (CS.setI p8.2 36 1) x1)) ksc_none) (kS_X7_endBody_88 N E1 E2 hm1 hm2 (CS.setI p8.2 36 1) x1)))) (ksc_ite (ksc_bind (kS_X7_endDo N E1 E2 hm1 hm2 σ x1) (fun p21 => (kS_X7_endBody_193 N E1 E2 hm1 hm2 p21.2 x1))) (ksc_ite (ksc_bind (kS_X0_aim N σ (CS.o σ x1 9)) (fun p26 => (ksc_ite (ksc_bind (kS_X6_isGoneTo N p26.2 x1 0) (fun p31 => (ksc_ite (kS_X7_endBody_130 N E1 E2 hm1 hm2 (CS.setI p31.2 36 0) x1) (kS_X7_endBody_130 N E1 E2 hm1 hm2 (CS.setI p31.2 36 1) x1)))) (kS_X7_endBody_130 N E1 E2 hm1 hm2 (CS.setI p26.2 36 1) x1)))) (ksc_bind (kS_X0_add N σ 30 (CS.o σ x1 10)) (fun p36 => (ksc_ite (ksc_bind (kS_X0_aim N p36.2 (CS.o p36.2 x1 9)) (fun p41 => (ksc_ite (ksc_ite (kS_X7_endBody_193 N E1 E2 hm1 hm2 (CS.setI p41.2 36 1) x1) (ksc_bind (kS_X6_isGoneTo N p41.2 x1 0) (fun p47 => (ksc_ite (kS_X7_endBody_193 N E1 E2 hm1 hm2 (CS.setI p47.2 36 0) x1) (kS_X7_endBody_193 N E1 E2 hm1 hm2 (CS.setI p47.2 36 1) x1))))) ksc_none))) ksc_none))))))) ksc_none)
theorem kS_X7_notReached (N : Nat) (σ : CS) (x1 : Int32) : Ksc (pSc σ) (f_X7_notReached N σ x1) := by
  unfold f_X7_notReached
  exact (ksc_ite (ksc_some (rfl)) (ksc_some (rfl)))
theorem kS_X4_isCaught (N : Nat) (σ : CS) (x1 : Int32) : Ksc (pSc σ) (f_X4_isCaught N σ x1) := by
  unfold f_X4_isCaught
  exact (ksc_ite (ksc_some (rfl)) (ksc_some (rfl)))
theorem kS_X7_change_63 (N : Nat) (E1 : CS → Option (Unit × CS)) (E2 : CS → Option (Int32 × CS)) (hm1 : ∀ σ, Ksc (pSc σ) (E1 σ)) (hm2 : ∀ σ, Ksc (pSc σ) (E2 σ)) (σ : CS) (x3 : Int32) : Ksc (pSc σ) (f_X7_change_63 N E1 E2 σ x3) := by
  unfold f_X7_change_63
  exact (ksc_bind (kS_X1_fail N σ 3 x3) (fun p11 => (ksc_some (rfl))))
theorem kS_X7_change_72 (N : Nat) (E1 : CS → Option (Unit × CS)) (E2 : CS → Option (Int32 × CS)) (hm1 : ∀ σ, Ksc (pSc σ) (E1 σ)) (hm2 : ∀ σ, Ksc (pSc σ) (E2 σ)) (σ : CS) (x5 : Int32) (x6 : Int32) : Ksc (pSc σ) (f_X7_change_72 N E1 E2 σ x5 x6) := by
  unfold f_X7_change_72
  exact (ksc_ite (ksc_bind (kS_X1_misplaced N σ) (fun p46 => (ksc_some (rfl)))) (ksc_bind (kS_X1_skip N σ 135) (fun p17 => (ksc_ite (ksc_bind (kS_X9_advance N p17.2) (fun p22 => (ksc_bind (kS_X1_expression N E1 E2 hm1 hm2 p22.2) (fun p26 => (ksc_bind (kS_X4_cellOf N p26.2 x5) (fun p30 => (ksc_bind (kS_X0_add N p30.2 2 p30.1) (fun p34 => (ksc_some (rfl)))))))))) (ksc_bind (kS_X4_cellOf N p17.2 x5) (fun p38 => (ksc_bind (kS_X0_add N p38.2 3 p38.1) (fun p42 => (ksc_some (rfl))))))))))
theorem kS_X7_change_41 (N : Nat) (E1 : CS → Option (Unit × CS)) (E2 : CS → Option (Int32 × CS)) (hm1 : ∀ σ, Ksc (pSc σ) (E1 σ)) (hm2 : ∀ σ, Ksc (pSc σ) (E2 σ)) (σ : CS) (x3 : Int32) (x5 : Int32) (x6 : Int32) : Ksc (pSc σ) (f_X7_change_41 N E1 E2 σ x3 x5 x6) := by
  unfold f_X7_change_41
  exact (ksc_ite (kS_X7_change_63 N E1 E2 hm1 hm2 σ x3) (ksc_ite (kS_X7_change_72 N E1 E2 hm1 hm2 σ x5 x6) (ksc_bind (kS_X4_isCaught N σ x5) (fun p50 => (ksc_ite (kS_X7_change_72 N E1 E2 hm1 hm2 p50.2 x5 x6) (kS_X7_change_63 N E1 E2 hm1 hm2 p50.2 x3))))))
theorem kS_X7_change_34 (N : Nat) (E1 : CS → Option (Unit × CS)) (E2 : CS → Option (Int32 × CS)) (hm1 : ∀ σ, Ksc (pSc σ) (E1 σ)) (hm2 : ∀ σ, Ksc (pSc σ) (E2 σ)) (σ : CS) (x3 : Int32) (x5 : Int32) : Ksc (pSc σ) (f_X7_change_34 N E1 E2 σ x3 x5) := by
  unfold f_X7_change_34
  exact (kS_X7_change_41 N E1 E2 hm1 hm2 σ x3 x5 1)
theorem kS_X7_change_38 (N : Nat) (E1 : CS → Option (Unit × CS)) (E2 : CS → Option (Int32 × CS)) (hm1 : ∀ σ, Ksc (pSc σ) (E1 σ)) (hm2 : ∀ σ, Ksc (pSc σ) (E2 σ)) (σ : CS) (x3 : Int32) (x5 : Int32) : Ksc (pSc σ) (f_X7_change_38 N E1 E2 σ x3 x5) := by
  unfold f_X7_change_38
  exact (kS_X7_change_41 N E1 E2 hm1 hm2 σ x3 x5 0)
theorem kS_X7_change (N : Nat) (E1 : CS → Option (Unit × CS)) (E2 : CS → Option (Int32 × CS)) (hm1 : ∀ σ, Ksc (pSc σ) (E1 σ)) (hm2 : ∀ σ, Ksc (pSc σ) (E2 σ)) (σ : CS) (x1 : Int64) (x3 : Int32) (x4 : Int32) : Ksc (pSc σ) (f_X7_change N E1 E2 σ x1 x3 x4) := by
  unfold f_X7_change
  exact (ksc_bind (kS_X4_find N σ x1) (fun p1 => (ksc_bind (kS_X1_found N p1.2 61) (fun p5 => (ksc_ite (ksc_ite (kS_X7_change_38 N E1 E2 hm1 hm2 p5.2 x3 p1.1) (ksc_bind (kS_X1_found N p5.2 135) (fun p56 => (ksc_ite (kS_X7_change_38 N E1 E2 hm1 hm2 p56.2 x3 p1.1) (kS_X7_change_34 N E1 E2 hm1 hm2 p56.2 x3 p1.1))))) (kS_X7_change_34 N E1 E2 hm1 hm2 p5.2 x3 p1.1))))))
theorem kSb_X6_labelled_7 (N : Nat) (K : CS → Int64 → Int32 → Option (Int32 × CS)) (hMK : ∀ (σ : CS) (x1 : Int64) (x3 : Int32), Ksc (pSc σ) (K σ x1 x3)) (σ : CS) (x1 : Int64) (x3 : Int32) : Ksc (pSc σ) (b_X6_labelled_7 N K σ x1 x3) := by
  unfold b_X6_labelled_7
  exact (ksc_ite (ksc_some (rfl)) (ksc_bind (kS_X6_row N σ x3) (fun p2 => (ksc_oc (hMK p2.2 x1 (x3 + (-1))) (fun a7 => (ksc_ite (ksc_ite (ksc_ite (ksc_some (rfl)) (hMK p2.2 x1 (x3 + (-1)))) (hMK p2.2 x1 (x3 + (-1)))) ksc_none))))))
theorem kS_X6_labelled_7 (N : Nat) : ∀ (n : Nat) (σ : CS) (x1 : Int64) (x3 : Int32), Ksc (pSc σ) (f_X6_labelled_7 N n σ x1 x3)
  | 0, _, _, _ => ksc_none
  | n+1, σ, x1, x3 => kSb_X6_labelled_7 N (f_X6_labelled_7 N n) (fun σ x1 x3 => kS_X6_labelled_7 N n σ x1 x3) σ x1 x3
theorem kS_X6_labelled (N : Nat) (σ : CS) (x1 : Int64) : Ksc (pSc σ) (f_X6_labelled N σ x1) := by
  unfold f_X6_labelled
  exact (kS_X6_labelled_7 N N σ x1 ((σ.i 53) - 1))
theorem kS_X7_named_73 (N : Nat) (E1 : CS → Option (Unit × CS)) (E2 : CS → Option (Int32 × CS)) (hm1 : ∀ σ, Ksc (pSc σ) (E1 σ)) (hm2 : ∀ σ, Ksc (pSc σ) (E2 σ)) (σ : CS) (x1 : Int64) : Ksc (pSc σ) (f_X7_named_73 N E1 E2 σ x1) := by
  unfold f_X7_named_73
  exact (ksc_bind (kS_X9_advance N σ) (fun p15 => (ksc_bind (kS_X6_push N p15.2 303 (p15.2.i 38) (p15.2.i 50)) (fun p19 => (ksc_oc ksc_none (fun a24 => (ksc_ite (ksc_bind (kS_X0_newTarget N (CS.setOl p19.2 a24 x1)) (fun p26 => (ksc_ite (ksc_some (rfl)) ksc_none))) ksc_none)))))))
theorem kS_X7_named (N : Nat) (E1 : CS → Option (Unit × CS)) (E2 : CS → Option (Int32 × CS)) (hm1 : ∀ σ, Ksc (pSc σ) (E1 σ)) (hm2 : ∀ σ, Ksc (pSc σ) (E2 σ)) (σ : CS) : Ksc (pSc σ) (f_X7_named N E1 E2 σ) := by
  unfold f_X7_named
  exact (ksc_bind (kS_X9_advance N σ) (fun p1 => (ksc_bind (kS_X1_found N p1.2 58) (fun p5 => (ksc_ite (ksc_bind (kS_X0_add N p5.2 51 0) (fun p35 => (ksc_bind (kS_X7_change N E1 E2 hm1 hm2 p35.2 σ.l (σ.i 44) 1) (fun p39 => (ksc_bind (kS_X1_expect N p39.2 59) (fun p43 => (ksc_some (rfl)))))))) (ksc_bind (kS_X6_labelled N p5.2 σ.l) (fun p10 => (ksc_ite (kS_X7_named_73 N E1 E2 hm1 hm2 p10.2 σ.l) (ksc_bind (kS_X1_fail N p10.2 4 (σ.i 44)) (fun p31 => (kS_X7_named_73 N E1 E2 hm1 hm2 p31.2 σ.l)))))))))))
theorem kS_X7_newName_56 (N : Nat) (σ : CS) (x1 : Int64) : Ksc (pSc σ) (f_X7_newName_56 N σ x1) := by
  unfold f_X7_newName_56
  exact (ksc_some (rfl))
theorem kS_X7_newName (N : Nat) (σ : CS) : Ksc (pSc σ) (f_X7_newName N σ) := by
  unfold f_X7_newName
  exact (ksc_bind (kS_X1_found N σ 2) (fun p1 => (ksc_ite (ksc_bind (kS_X1_misplaced N p1.2) (fun p19 => (kS_X7_newName_56 N p19.2 σ.l))) (ksc_bind (kS_X4_find N p1.2 σ.l) (fun p6 => (ksc_ite (ksc_bind (kS_X9_advance N p6.2) (fun p11 => (kS_X7_newName_56 N p11.2 σ.l))) (ksc_bind (kS_X1_fail N p6.2 4 (p6.2.i 44)) (fun p15 => (kS_X7_newName_56 N p15.2 σ.l)))))))))
theorem kS_X4_add (N : Nat) (σ : CS) (x1 : Int64) (x3 : Int32) (x4 : Int32) : Ksc (pSc σ) (f_X4_add N σ x1 x3 x4) := by
  unfold f_X4_add
  exact (ksc_ite (ksc_some (rfl)) (ksc_ite (ksc_some (rfl)) ksc_none))
theorem kS_X7_tell (N : Nat) (σ : CS) (x1 : Int64) : Ksc (pSc σ) (f_X7_tell N σ x1) := by
  unfold f_X7_tell
  exact (ksc_bind (kS_X0_newCells N σ 1) (fun p1 => (ksc_bind (kS_X4_add N p1.2 x1 p1.1 (-1)) (fun p5 => (ksc_some (rfl))))))
theorem kS_X7_define (N : Nat) (E1 : CS → Option (Unit × CS)) (E2 : CS → Option (Int32 × CS)) (hm1 : ∀ σ, Ksc (pSc σ) (E1 σ)) (hm2 : ∀ σ, Ksc (pSc σ) (E2 σ)) (σ : CS) (x1 : Int64) : Ksc (pSc σ) (f_X7_define N E1 E2 σ x1) := by
  unfold f_X7_define
  exact (ksc_bind (kS_X1_expect N σ 61) (fun p1 => (ksc_bind (kS_X1_expression N E1 E2 hm1 hm2 p1.2) (fun p5 => (ksc_bind (kS_X7_tell N p5.2 x1) (fun p9 => (ksc_bind (kS_X0_add N p9.2 2 p9.1) (fun p13 => (ksc_some (rfl))))))))))
theorem kS_X6_loopBehind_47 (N : Nat) (σ : CS) : Ksc (pSc σ) (f_X6_loopBehind_47 N σ ) := by
  unfold f_X6_loopBehind_47
  exact (ksc_some (rfl))
theorem kS_X6_loopBehind_32 (N : Nat) (σ : CS) (x2 : Int32) (x3 : Option Nat) : Ksc (pSc σ) (f_X6_loopBehind_32 N σ x2 x3) := by
  unfold f_X6_loopBehind_32
  exact (ksc_oc (kS_X6_loopBehind_47 N σ) (fun a9 => (ksc_ite (ksc_bind (kS_X5_isLoop N σ a9) (fun p12 => (ksc_ite (kS_X6_loopBehind_47 N p12.2) (ksc_some (rfl))))) ksc_none)))
theorem kSb_X6_loopBehind_4 (N : Nat) (K : CS → Int32 → Option (Int32 × CS)) (hMK : ∀ (σ : CS) (x2 : Int32), Ksc (pSc σ) (K σ x2)) (σ : CS) (x2 : Int32) : Ksc (pSc σ) (b_X6_loopBehind_4 N K σ x2) := by
  unfold b_X6_loopBehind_4
  exact (ksc_ite (ksc_some (rfl)) (ksc_bind (kS_X6_row N σ x2) (fun p2 => (ksc_oc (kS_X6_loopBehind_32 N p2.2 x2 none) (fun a7 => (ksc_ite (ksc_ite (hMK p2.2 (x2 + 1)) (kS_X6_loopBehind_32 N p2.2 x2 (some a7))) ksc_none))))))
theorem kS_X6_loopBehind_4 (N : Nat) : ∀ (n : Nat) (σ : CS) (x2 : Int32), Ksc (pSc σ) (f_X6_loopBehind_4 N n σ x2)
  | 0, _, _ => ksc_none
  | n+1, σ, x2 => kSb_X6_loopBehind_4 N (f_X6_loopBehind_4 N n) (fun σ x2 => kS_X6_loopBehind_4 N n σ x2) σ x2
theorem kS_X6_loopBehind (N : Nat) (σ : CS) (x1 : Int32) : Ksc (pSc σ) (f_X6_loopBehind N σ x1) := by
  unfold f_X6_loopBehind
  exact (kS_X6_loopBehind_4 N N σ (x1 + 1))
theorem kS_X7_labelTarget_63 (N : Nat) (σ : CS) (x2 : Int32) : Ksc (pSc σ) (f_X7_labelTarget_63 N σ x2) := by
  unfold f_X7_labelTarget_63
  exact (ksc_bind (kS_X9_advance N σ) (fun p7 => (ksc_some (rfl))))
theorem kS_X7_labelTarget (N : Nat) (σ : CS) (x1 : Int32) : Ksc (pSc σ) (f_X7_labelTarget N σ x1) := by
  unfold f_X7_labelTarget
  exact (ksc_bind (kS_X6_labelled N σ σ.l) (fun p1 => (ksc_ite (ksc_ite (kS_X7_labelTarget_63 N p1.2 p1.1) (ksc_bind (kS_X6_loopBehind N p1.2 p1.1) (fun p11 => (ksc_ite (kS_X7_labelTarget_63 N p11.2 p11.1) (ksc_bind (kS_X1_fail N p11.2 5 (p11.2.i 44)) (fun p16 => (kS_X7_labelTarget_63 N p16.2 p11.1))))))) (ksc_bind (kS_X1_fail N p1.2 3 (p1.2.i 44)) (fun p20 => (kS_X7_labelTarget_63 N p20.2 p1.1))))))
theorem kS_X6_nearest_46 (N : Nat) (σ : CS) (x2 : Int32) : Ksc (pSc σ) (f_X6_nearest_46 N σ x2) := by
  unfold f_X6_nearest_46
  exact (ksc_some (rfl))
theorem kSb_X6_nearest_7 (N : Nat) (K : CS → Int32 → Int32 → Option (Int32 × CS)) (hMK : ∀ (σ : CS) (x1 : Int32) (x2 : Int32), Ksc (pSc σ) (K σ x1 x2)) (σ : CS) (x1 : Int32) (x2 : Int32) : Ksc (pSc σ) (b_X6_nearest_7 N K σ x1 x2) := by
  unfold b_X6_nearest_7
  exact (ksc_ite (ksc_some (rfl)) (ksc_bind (kS_X6_row N σ x2) (fun p2 => (ksc_oc (hMK p2.2 x1 (x2 + (-1))) (fun a7 => (ksc_ite (ksc_bind (kS_X5_isLoop N p2.2 a7) (fun p10 => (ksc_ite (ksc_ite (ksc_ite (ksc_ite (kS_X6_nearest_46 N p10.2 x2) (hMK p10.2 x1 (x2 + (-1)))) ksc_none) (hMK p10.2 x1 (x2 + (-1)))) (kS_X6_nearest_46 N p10.2 x2)))) ksc_none))))))
theorem kS_X6_nearest_7 (N : Nat) : ∀ (n : Nat) (σ : CS) (x1 : Int32) (x2 : Int32), Ksc (pSc σ) (f_X6_nearest_7 N n σ x1 x2)
  | 0, _, _, _ => ksc_none
  | n+1, σ, x1, x2 => kSb_X6_nearest_7 N (f_X6_nearest_7 N n) (fun σ x1 x2 => kS_X6_nearest_7 N n σ x1 x2) σ x1 x2
theorem kS_X6_nearest (N : Nat) (σ : CS) (x1 : Int32) : Ksc (pSc σ) (f_X6_nearest N σ x1) := by
  unfold f_X6_nearest
  exact (kS_X6_nearest_7 N N σ x1 ((σ.i 53) - 1))
theorem kS_X6_addJump (N : Nat) (σ : CS) (x1 : Nat) (x2 : Int32) : Ksc (pSc σ) (f_X6_addJump N σ x1 x2) := by
  unfold f_X6_addJump
  exact (ksc_bind (kS_X6_jumpTo N σ x1 x2) (fun p1 => (ksc_some (rfl))))
theorem kS_X7_leave (N : Nat) (σ : CS) (x1 : Int32) (x2 : Int32) : Ksc (pSc σ) (f_X7_leave N σ x1 x2) := by
  unfold f_X7_leave
  exact (ksc_ite (ksc_bind (kS_X0_add N σ 30 x1) (fun p6 => (ksc_some (rfl)))) (ksc_bind (kS_X0_add N σ 60 ((x1 * 32) + x2)) (fun p2 => (ksc_some (rfl)))))
theorem kS_X7_jump_129 (N : Nat) (σ : CS) : Ksc (pSc σ) (f_X7_jump_129 N σ ) := by
  unfold f_X7_jump_129
  exact (ksc_some (rfl))
theorem kS_X7_jump_72 (N : Nat) (σ : CS) (x1 : Int32) (x3 : Int32) : Ksc (pSc σ) (f_X7_jump_72 N σ x1 x3) := by
  unfold f_X7_jump_72
  exact (ksc_bind (kS_X1_expect N σ 59) (fun p19 => (ksc_bind (kS_X6_row N p19.2 x3) (fun p23 => (ksc_oc (kS_X7_jump_129 N p23.2) (fun a28 => (ksc_bind (kS_X6_addJump N p23.2 a28 x1) (fun p29 => (ksc_ite (ksc_ite (ksc_bind (kS_X7_leave N p29.2 (CS.o p29.2 a28 9) (CS.o p29.2 a28 2)) (fun p35 => (kS_X7_jump_129 N p35.2))) ksc_none) (ksc_ite (ksc_bind (kS_X7_leave N p29.2 (CS.o p29.2 a28 10) (CS.o p29.2 a28 2)) (fun p40 => (kS_X7_jump_129 N p40.2))) ksc_none))))))))))
theorem kS_X7_jump (N : Nat) (σ : CS) : Ksc (pSc σ) (f_X7_jump N σ) := by
  unfold f_X7_jump
  exact (ksc_bind (kS_X1_found N σ 209) (fun p1 => (ksc_bind (kS_X9_advance N (CS.setI p1.2 26 ((p1.2.i 26) + 1))) (fun p5 => (ksc_bind (kS_X1_found N p5.2 2) (fun p9 => (ksc_ite (ksc_bind (kS_X6_nearest N p9.2 p1.1) (fun p14 => (ksc_ite (kS_X7_jump_72 N p14.2 p1.1 p14.1) (ksc_bind (kS_X1_fail N p14.2 5 (p1.2.i 44)) (fun p44 => (kS_X7_jump_72 N p44.2 p1.1 p14.1)))))) (ksc_bind (kS_X7_labelTarget N p9.2 p1.1) (fun p48 => (kS_X7_jump_72 N p48.2 p1.1 p48.1))))))))))
theorem kS_X7_giveBack_22 (N : Nat) (E1 : CS → Option (Unit × CS)) (E2 : CS → Option (Int32 × CS)) (hm1 : ∀ σ, Ksc (pSc σ) (E1 σ)) (hm2 : ∀ σ, Ksc (pSc σ) (E2 σ)) (σ : CS) : Ksc (pSc σ) (f_X7_giveBack_22 N E1 E2 σ ) := by
  unfold f_X7_giveBack_22
  exact (ksc_bind (kS_X9_advance N σ) (fun p2 => (ksc_bind (kS_X1_expression N E1 E2 hm1 hm2 p2.2) (fun p6 => (ksc_bind (kS_X0_add N p6.2 62 0) (fun p10 => (ksc_bind (kS_X1_expect N p10.2 59) (fun p14 => (ksc_some (rfl))))))))))
theorem kS_X7_giveBack (N : Nat) (E1 : CS → Option (Unit × CS)) (E2 : CS → Option (Int32 × CS)) (hm1 : ∀ σ, Ksc (pSc σ) (E1 σ)) (hm2 : ∀ σ, Ksc (pSc σ) (E2 σ)) (σ : CS) : Ksc (pSc σ) (f_X7_giveBack N E1 E2 σ) := by
  unfold f_X7_giveBack
  exact (ksc_ite (kS_X7_giveBack_22 N E1 E2 hm1 hm2 σ) (ksc_bind (kS_X1_fail N σ 5 (σ.i 44)) (fun p18 => (kS_X7_giveBack_22 N E1 E2 hm1 hm2 p18.2))))
theorem kS_X7_yieldValue (N : Nat) (E1 : CS → Option (Unit × CS)) (E2 : CS → Option (Int32 × CS)) (hm1 : ∀ σ, Ksc (pSc σ) (E1 σ)) (hm2 : ∀ σ, Ksc (pSc σ) (E2 σ)) (σ : CS) : Ksc (pSc σ) (f_X7_yieldValue N E1 E2 σ) := by
  unfold f_X7_yieldValue
  exact (ksc_bind (kS_X6_row N σ (σ.i 56)) (fun p1 => (ksc_oc (ksc_bind (kS_X1_fail N p1.2 5 (p1.2.i 44)) (fun p7 => (ksc_some (rfl)))) (fun a6 => (ksc_bind (kS_X9_advance N p1.2) (fun p11 => (ksc_bind (kS_X1_expression N E1 E2 hm1 hm2 p11.2) (fun p15 => (ksc_ite (ksc_bind (kS_X0_add N p15.2 61 (((CS.o p15.2 a6 9) * 32) + (CS.o p15.2 a6 2))) (fun p20 => (ksc_bind (kS_X1_expect N p20.2 59) (fun p24 => (ksc_some (rfl)))))) ksc_none)))))))))
theorem kS_X10_isKind_16 (N : Nat) (σ : CS) : Ksc (pSc σ) (f_X10_isKind_16 N σ ) := by
  unfold f_X10_isKind_16
  exact (ksc_some (rfl))
theorem kS_X10_isKind (N : Nat) (σ : CS) (x1 : Int32) : Ksc (pSc σ) (f_X10_isKind N σ x1) := by
  unfold f_X10_isKind
  exact (ksc_ite (kS_X10_isKind_16 N σ) (ksc_ite (kS_X10_isKind_16 N σ) (ksc_some (rfl))))
theorem kS_X4_frameOf (N : Nat) (σ : CS) (x1 : Int32) : Ksc (pSc σ) (f_X4_frameOf N σ x1) := by
  unfold f_X4_frameOf
  exact (ksc_some (rfl))
theorem kS_X7_throwOne_152 (N : Nat) (E1 : CS → Option (Unit × CS)) (E2 : CS → Option (Int32 × CS)) (hm1 : ∀ σ, Ksc (pSc σ) (E1 σ)) (hm2 : ∀ σ, Ksc (pSc σ) (E2 σ)) (σ : CS) : Ksc (pSc σ) (f_X7_throwOne_152 N E1 E2 σ ) := by
  unfold f_X7_throwOne_152
  exact (ksc_bind (kS_X1_expect N σ 59) (fun p19 => (ksc_some (rfl))))
theorem kS_X7_throwOne_108 (N : Nat) (E1 : CS → Option (Unit × CS)) (E2 : CS → Option (Int32 × CS)) (hm1 : ∀ σ, Ksc (pSc σ) (E1 σ)) (hm2 : ∀ σ, Ksc (pSc σ) (E2 σ)) (σ : CS) : Ksc (pSc σ) (f_X7_throwOne_108 N E1 E2 σ ) := by
  unfold f_X7_throwOne_108
  exact (ksc_bind (kS_X1_fail N σ 3 (σ.i 44)) (fun p28 => (ksc_some (rfl))))
theorem kS_X7_throwOne_46 (N : Nat) (E1 : CS → Option (Unit × CS)) (E2 : CS → Option (Int32 × CS)) (hm1 : ∀ σ, Ksc (pSc σ) (E1 σ)) (hm2 : ∀ σ, Ksc (pSc σ) (E2 σ)) (σ : CS) (x1 : Int32) : Ksc (pSc σ) (f_X7_throwOne_46 N E1 E2 σ x1) := by
  unfold f_X7_throwOne_46
  exact (ksc_bind (kS_X9_advance N σ) (fun p54 => (ksc_bind (kS_X1_expression N E1 E2 hm1 hm2 p54.2) (fun p58 => (ksc_bind (kS_X0_add N p58.2 63 x1) (fun p62 => (kS_X7_throwOne_152 N E1 E2 hm1 hm2 p62.2)))))))
theorem kS_X7_throwOne (N : Nat) (E1 : CS → Option (Unit × CS)) (E2 : CS → Option (Int32 × CS)) (hm1 : ∀ σ, Ksc (pSc σ) (E1 σ)) (hm2 : ∀ σ, Ksc (pSc σ) (E2 σ)) (σ : CS) : Ksc (pSc σ) (f_X7_throwOne N E1 E2 σ) := by
  unfold f_X7_throwOne
  exact (ksc_bind (kS_X9_advance N σ) (fun p1 => (ksc_bind (kS_X1_found N p1.2 5) (fun p5 => (ksc_ite (ksc_bind (kS_X1_found N p5.2 2) (fun p10 => (ksc_ite (ksc_bind (kS_X1_misplaced N p10.2) (fun p15 => (kS_X7_throwOne_152 N E1 E2 hm1 hm2 p15.2))) (ksc_bind (kS_X4_find N p10.2 p10.2.l) (fun p23 => (ksc_ite (kS_X7_throwOne_108 N E1 E2 hm1 hm2 p23.2) (ksc_bind (kS_X4_isCaught N p23.2 p23.1) (fun p32 => (ksc_ite (kS_X7_throwOne_108 N E1 E2 hm1 hm2 p32.2) (ksc_bind (kS_X4_frameOf N p32.2 p23.1) (fun p37 => (ksc_bind (kS_X0_add N p37.2 64 p37.1) (fun p41 => (ksc_bind (kS_X9_advance N p41.2) (fun p45 => (kS_X7_throwOne_152 N E1 E2 hm1 hm2 p45.2)))))))))))))))) (ksc_bind (kS_X10_isKind N p5.2 (p5.2.i 45)) (fun p49 => (ksc_ite (ksc_bind (kS_X1_fail N p49.2 3 (p49.2.i 44)) (fun p66 => (kS_X7_throwOne_46 N E1 E2 hm1 hm2 p66.2 (p5.2.i 45)))) (kS_X7_throwOne_46 N E1 E2 hm1 hm2 p49.2 (p5.2.i 45))))))))))
theorem kS_X7_claim_74 (N : Nat) (E1 : CS → Option (Unit × CS)) (E2 : CS → Option (Int32 × CS)) (hm1 : ∀ σ, Ksc (pSc σ) (E1 σ)) (hm2 : ∀ σ, Ksc (pSc σ) (E2 σ)) (σ : CS) (x1 : Int32) : Ksc (pSc σ) (f_X7_claim_74 N E1 E2 σ x1) := by
  unfold f_X7_claim_74
  exact (ksc_bind (kS_X0_add N σ 63 3) (fun p34 => (ksc_bind (kS_X0_aim N p34.2 x1) (fun p38 => (ksc_bind (kS_X1_expect N p38.2 59) (fun p42 => (ksc_some (rfl))))))))
theorem kS_X7_claim (N : Nat) (E1 : CS → Option (Unit × CS)) (E2 : CS → Option (Int32 × CS)) (hm1 : ∀ σ, Ksc (pSc σ) (E1 σ)) (hm2 : ∀ σ, Ksc (pSc σ) (E2 σ)) (σ : CS) : Ksc (pSc σ) (f_X7_claim N E1 E2 σ) := by
  unfold f_X7_claim
  exact (ksc_bind (kS_X0_newTarget N σ) (fun p1 => (ksc_bind (kS_X9_advance N p1.2) (fun p5 => (ksc_bind (kS_X0_add N p5.2 35 p1.1) (fun p9 => (ksc_bind (kS_X1_condition N E1 E2 hm1 hm2 p9.2) (fun p13 => (ksc_bind (kS_X0_add N p13.2 5 0) (fun p17 => (ksc_bind (kS_X0_add N p17.2 31 p1.1) (fun p21 => (ksc_bind (kS_X1_skip N p21.2 58) (fun p25 => (ksc_ite (ksc_bind (kS_X0_add N p25.2 0 0) (fun p30 => (kS_X7_claim_74 N E1 E2 hm1 hm2 p30.2 p1.1))) (ksc_bind (kS_X1_expression N E1 E2 hm1 hm2 p25.2) (fun p46 => (kS_X7_claim_74 N E1 E2 hm1 hm2 p46.2 p1.1))))))))))))))))))
theorem kS_X7_beginIf (N : Nat) (E1 : CS → Option (Unit × CS)) (E2 : CS → Option (Int32 × CS)) (hm1 : ∀ σ, Ksc (pSc σ) (E1 σ)) (hm2 : ∀ σ, Ksc (pSc σ) (E2 σ)) (σ : CS) : Ksc (pSc σ) (f_X7_beginIf N E1 E2 σ) := by
  unfold f_X7_beginIf
  exact (ksc_bind (kS_X0_newTarget N σ) (fun p1 => (ksc_bind (kS_X9_advance N p1.2) (fun p5 => (ksc_bind (kS_X7_conditionInside N E1 E2 hm1 hm2 p5.2) (fun p9 => (ksc_bind (kS_X0_add N p9.2 31 p1.1) (fun p13 => (ksc_bind (kS_X6_push N p13.2 203 (p13.2.i 38) (p13.2.i 50)) (fun p17 => (ksc_oc ksc_none (fun a22 => (ksc_ite (ksc_some (rfl)) ksc_none)))))))))))))
theorem kS_X7_pushLoop (N : Nat) (σ : CS) (x1 : Int32) (x2 : Int32) (x3 : Int32) : Ksc (pSc σ) (f_X7_pushLoop N σ x1 x2 x3) := by
  unfold f_X7_pushLoop
  exact (ksc_bind (kS_X6_push N σ x1 (σ.i 38) (σ.i 50)) (fun p1 => (ksc_oc ksc_none (fun a6 => (ksc_ite (ksc_some (rfl)) ksc_none)))))
theorem kS_X7_beginWhile (N : Nat) (E1 : CS → Option (Unit × CS)) (E2 : CS → Option (Int32 × CS)) (hm1 : ∀ σ, Ksc (pSc σ) (E1 σ)) (hm2 : ∀ σ, Ksc (pSc σ) (E2 σ)) (σ : CS) : Ksc (pSc σ) (f_X7_beginWhile N E1 E2 σ) := by
  unfold f_X7_beginWhile
  exact (ksc_bind (kS_X0_newTarget N σ) (fun p1 => (ksc_bind (kS_X0_newTarget N p1.2) (fun p5 => (ksc_bind (kS_X9_advance N p5.2) (fun p9 => (ksc_bind (kS_X0_aim N p9.2 p1.1) (fun p13 => (ksc_bind (kS_X7_conditionInside N E1 E2 hm1 hm2 p13.2) (fun p17 => (ksc_bind (kS_X0_add N p17.2 31 p5.1) (fun p21 => (ksc_bind (kS_X0_add N p21.2 51 0) (fun p25 => (ksc_bind (kS_X7_pushLoop N p25.2 205 p1.1 p5.1) (fun p29 => (ksc_oc ksc_none (fun a34 => (ksc_ite (ksc_ite (ksc_some (rfl)) ksc_none) ksc_none)))))))))))))))))))
theorem kS_X7_beginDo (N : Nat) (σ : CS) : Ksc (pSc σ) (f_X7_beginDo N σ) := by
  unfold f_X7_beginDo
  exact (ksc_bind (kS_X0_newTarget N σ) (fun p1 => (ksc_bind (kS_X0_newTarget N p1.2) (fun p5 => (ksc_bind (kS_X7_pushLoop N p5.2 206 p1.1 p5.1) (fun p9 => (ksc_oc (ksc_bind (kS_X0_newTarget N p9.2) (fun p15 => ksc_none)) (fun a14 => (ksc_bind (kS_X0_newTarget N p9.2) (fun p19 => (ksc_ite (ksc_bind (kS_X9_advance N (CS.setO p19.2 a14 11 p19.1)) (fun p24 => (ksc_ite (ksc_bind (kS_X0_aim N p24.2 (CS.o p24.2 a14 11)) (fun p29 => (ksc_bind (kS_X0_add N p29.2 51 0) (fun p33 => (ksc_some (rfl)))))) ksc_none))) ksc_none)))))))))))
theorem kS_X7_throwNull (N : Nat) (σ : CS) : Ksc (pSc σ) (f_X7_throwNull N σ) := by
  unfold f_X7_throwNull
  exact (ksc_bind (kS_X0_add N σ 0 0) (fun p1 => (ksc_bind (kS_X0_add N p1.2 63 1) (fun p5 => (ksc_some (rfl))))))
theorem kS_X7_rowValues_60 (N : Nat) (E1 : CS → Option (Unit × CS)) (E2 : CS → Option (Int32 × CS)) (hm1 : ∀ σ, Ksc (pSc σ) (E1 σ)) (hm2 : ∀ σ, Ksc (pSc σ) (E2 σ)) (σ : CS) (x1 : Int32) : Ksc (pSc σ) (f_X7_rowValues_60 N E1 E2 σ x1) := by
  unfold f_X7_rowValues_60
  exact (ksc_bind (kS_X0_newCells N σ (2 + x1)) (fun p11 => (ksc_bind (kS_X0_add N p11.2 0 x1) (fun p15 => (ksc_bind (kS_X0_add N p15.2 36 p11.1) (fun p19 => (ksc_some (rfl))))))))
theorem kSb_X7_rowValues_31 (N : Nat) (E1 : CS → Option (Unit × CS)) (E2 : CS → Option (Int32 × CS)) (hm1 : ∀ σ, Ksc (pSc σ) (E1 σ)) (hm2 : ∀ σ, Ksc (pSc σ) (E2 σ)) (K : CS → Int32 → Int32 → Option (Int32 × CS)) (hMK : ∀ (σ : CS) (x1 : Int32) (x2 : Int32), Ksc (pSc σ) (K σ x1 x2)) (σ : CS) (x1 : Int32) (x2 : Int32) : Ksc (pSc σ) (b_X7_rowValues_31 N E1 E2 K σ x1 x2) := by
  unfold b_X7_rowValues_31
  exact (ksc_ite (kS_X7_rowValues_60 N E1 E2 hm1 hm2 σ x1) (ksc_bind (kS_X1_skip N σ 44) (fun p23 => (ksc_ite (kS_X7_rowValues_60 N E1 E2 hm1 hm2 p23.2 x1) (ksc_bind (kS_X1_expression N E1 E2 hm1 hm2 p23.2) (fun p28 => (hMK p28.2 (x1 + 1) (x2 + 1))))))))
theorem kS_X7_rowValues_31 (N : Nat) (E1 : CS → Option (Unit × CS)) (E2 : CS → Option (Int32 × CS)) (hm1 : ∀ σ, Ksc (pSc σ) (E1 σ)) (hm2 : ∀ σ, Ksc (pSc σ) (E2 σ)) : ∀ (n : Nat) (σ : CS) (x1 : Int32) (x2 : Int32), Ksc (pSc σ) (f_X7_rowValues_31 N E1 E2 n σ x1 x2)
  | 0, _, _, _ => ksc_none
  | n+1, σ, x1, x2 => kSb_X7_rowValues_31 N E1 E2 hm1 hm2 (f_X7_rowValues_31 N E1 E2 n) (fun σ x1 x2 => kS_X7_rowValues_31 N E1 E2 hm1 hm2 n σ x1 x2) σ x1 x2
theorem kS_X7_rowValues (N : Nat) (E1 : CS → Option (Unit × CS)) (E2 : CS → Option (Int32 × CS)) (hm1 : ∀ σ, Ksc (pSc σ) (E1 σ)) (hm2 : ∀ σ, Ksc (pSc σ) (E2 σ)) (σ : CS) : Ksc (pSc σ) (f_X7_rowValues N E1 E2 σ) := by
  unfold f_X7_rowValues
  exact (ksc_bind (kS_X1_skip N σ 224) (fun p1 => (ksc_ite (ksc_bind (kS_X1_expression N E1 E2 hm1 hm2 p1.2) (fun p6 => (kS_X7_rowValues_31 N E1 E2 hm1 hm2 N p6.2 1 0))) (ksc_bind (kS_X7_throwNull N p1.2) (fun p32 => (ksc_bind (kS_X0_newCells N p32.2 2) (fun p36 => (ksc_some (rfl)))))))))
theorem kS_X7_rowHead (N : Nat) (E1 : CS → Option (Unit × CS)) (E2 : CS → Option (Int32 × CS)) (hm1 : ∀ σ, Ksc (pSc σ) (E1 σ)) (hm2 : ∀ σ, Ksc (pSc σ) (E2 σ)) (σ : CS) (x1 : Int64) : Ksc (pSc σ) (f_X7_rowHead N E1 E2 σ x1) := by
  unfold f_X7_rowHead
  exact (ksc_bind (kS_X0_newTarget N σ) (fun p1 => (ksc_bind (kS_X0_newTarget N p1.2) (fun p5 => (ksc_bind (kS_X9_advance N p5.2) (fun p9 => (ksc_bind (kS_X7_rowValues N E1 E2 hm1 hm2 p9.2) (fun p13 => (ksc_bind (kS_X1_close N p13.2 41) (fun p17 => (ksc_bind (kS_X0_aim N p17.2 p1.1) (fun p21 => (ksc_bind (kS_X0_add N p21.2 37 p13.1) (fun p25 => (ksc_bind (kS_X0_add N p25.2 31 p5.1) (fun p29 => (ksc_bind (kS_X0_add N p29.2 51 0) (fun p33 => (ksc_bind (kS_X0_add N p33.2 38 p13.1) (fun p37 => (ksc_bind (kS_X7_tell N p37.2 x1) (fun p41 => (ksc_bind (kS_X0_add N p41.2 2 p41.1) (fun p45 => (ksc_bind (kS_X7_pushLoop N p45.2 304 p1.1 p5.1) (fun p49 => (ksc_oc (ksc_some (rfl)) (fun a54 => (ksc_some (rfl))))))))))))))))))))))))))))))
theorem kS_X7_changeHere (N : Nat) (E1 : CS → Option (Unit × CS)) (E2 : CS → Option (Int32 × CS)) (hm1 : ∀ σ, Ksc (pSc σ) (E1 σ)) (hm2 : ∀ σ, Ksc (pSc σ) (E2 σ)) (σ : CS) (x1 : Int32) : Ksc (pSc σ) (f_X7_changeHere N E1 E2 σ x1) := by
  unfold f_X7_changeHere
  exact (ksc_bind (kS_X9_advance N σ) (fun p1 => (ksc_bind (kS_X7_change N E1 E2 hm1 hm2 p1.2 σ.l (σ.i 44) x1) (fun p5 => (ksc_some (rfl))))))
theorem kS_X7_forHead_113 (N : Nat) (E1 : CS → Option (Unit × CS)) (E2 : CS → Option (Int32 × CS)) (hm1 : ∀ σ, Ksc (pSc σ) (E1 σ)) (hm2 : ∀ σ, Ksc (pSc σ) (E2 σ)) (σ : CS) (x1 : Int32) (x2 : Int32) (x3 : Int32) (x4 : Int32) (x5 : Int32) : Ksc (pSc σ) (f_X7_forHead_113 N E1 E2 σ x1 x2 x3 x4 x5) := by
  unfold f_X7_forHead_113
  exact (ksc_bind (kS_X1_close N σ 41) (fun p47 => (ksc_bind (kS_X0_add N p47.2 30 x1) (fun p51 => (ksc_bind (kS_X0_aim N p51.2 x3) (fun p55 => (ksc_bind (kS_X0_add N p55.2 51 0) (fun p59 => (ksc_bind (kS_X7_pushLoop N p59.2 207 x2 x4) (fun p63 => (ksc_oc ksc_none (fun a68 => (ksc_ite (ksc_ite (ksc_some (rfl)) ksc_none) ksc_none)))))))))))))
theorem kS_X7_forHead_76 (N : Nat) (E1 : CS → Option (Unit × CS)) (E2 : CS → Option (Int32 × CS)) (hm1 : ∀ σ, Ksc (pSc σ) (E1 σ)) (hm2 : ∀ σ, Ksc (pSc σ) (E2 σ)) (σ : CS) (x1 : Int32) (x2 : Int32) (x3 : Int32) (x4 : Int32) (x5 : Int32) : Ksc (pSc σ) (f_X7_forHead_76 N E1 E2 σ x1 x2 x3 x4 x5) := by
  unfold f_X7_forHead_76
  exact (ksc_bind (kS_X0_add N σ 30 x3) (fun p30 => (ksc_bind (kS_X1_expect N p30.2 59) (fun p34 => (ksc_bind (kS_X0_aim N p34.2 x2) (fun p38 => (ksc_bind (kS_X1_found N p38.2 2) (fun p42 => (ksc_ite (kS_X7_forHead_113 N E1 E2 hm1 hm2 p42.2 x1 x2 x3 x4 x5) (ksc_bind (kS_X7_changeHere N E1 E2 hm1 hm2 p42.2 1) (fun p71 => (kS_X7_forHead_113 N E1 E2 hm1 hm2 p71.2 x1 x2 x3 x4 x5))))))))))))
theorem kS_X7_forHead (N : Nat) (E1 : CS → Option (Unit × CS)) (E2 : CS → Option (Int32 × CS)) (hm1 : ∀ σ, Ksc (pSc σ) (E1 σ)) (hm2 : ∀ σ, Ksc (pSc σ) (E2 σ)) (σ : CS) : Ksc (pSc σ) (f_X7_forHead N E1 E2 σ) := by
  unfold f_X7_forHead
  exact (ksc_bind (kS_X0_newTarget N σ) (fun p1 => (ksc_bind (kS_X0_newTarget N p1.2) (fun p5 => (ksc_bind (kS_X0_newTarget N p5.2) (fun p9 => (ksc_bind (kS_X0_newTarget N p9.2) (fun p13 => (ksc_bind (kS_X1_expect N p13.2 59) (fun p17 => (ksc_bind (kS_X0_aim N p17.2 p1.1) (fun p21 => (ksc_bind (kS_X1_found N p21.2 59) (fun p25 => (ksc_ite (ksc_bind (kS_X1_condition N E1 E2 hm1 hm2 p25.2) (fun p75 => (ksc_bind (kS_X0_add N p75.2 31 p13.1) (fun p79 => (kS_X7_forHead_76 N E1 E2 hm1 hm2 p79.2 p1.1 p5.1 p9.1 p13.1 p75.1))))) (kS_X7_forHead_76 N E1 E2 hm1 hm2 p25.2 p1.1 p5.1 p9.1 p13.1 1))))))))))))))))
theorem kS_X7_beginFor_85 (N : Nat) (E1 : CS → Option (Unit × CS)) (E2 : CS → Option (Int32 × CS)) (hm1 : ∀ σ, Ksc (pSc σ) (E1 σ)) (hm2 : ∀ σ, Ksc (pSc σ) (E2 σ)) (σ : CS) (x1 : Int32) (x2 : Option Nat) : Ksc (pSc σ) (f_X7_beginFor_85 N E1 E2 σ x1 x2) := by
  unfold f_X7_beginFor_85
  exact (ksc_oc ksc_none (fun a26 => (ksc_ite (ksc_some (rfl)) ksc_none)))
theorem kS_X7_beginFor_80 (N : Nat) (E1 : CS → Option (Unit × CS)) (E2 : CS → Option (Int32 × CS)) (hm1 : ∀ σ, Ksc (pSc σ) (E1 σ)) (hm2 : ∀ σ, Ksc (pSc σ) (E2 σ)) (σ : CS) (x1 : Int32) : Ksc (pSc σ) (f_X7_beginFor_80 N E1 E2 σ x1) := by
  unfold f_X7_beginFor_80
  exact (ksc_bind (kS_X7_forHead N E1 E2 hm1 hm2 σ) (fun p19 => (ksc_oc (kS_X7_beginFor_85 N E1 E2 hm1 hm2 p19.2 x1 none) (fun a24 => (kS_X7_beginFor_85 N E1 E2 hm1 hm2 p19.2 x1 (some a24))))))
theorem kS_X7_beginFor_64 (N : Nat) (E1 : CS → Option (Unit × CS)) (E2 : CS → Option (Int32 × CS)) (hm1 : ∀ σ, Ksc (pSc σ) (E1 σ)) (hm2 : ∀ σ, Ksc (pSc σ) (E2 σ)) (σ : CS) (x1 : Int32) (x2 : Option Nat) : Ksc (pSc σ) (f_X7_beginFor_64 N E1 E2 σ x1 x2) := by
  unfold f_X7_beginFor_64
  exact (kS_X7_beginFor_85 N E1 E2 hm1 hm2 σ x1 x2)
theorem kS_X7_beginFor (N : Nat) (E1 : CS → Option (Unit × CS)) (E2 : CS → Option (Int32 × CS)) (hm1 : ∀ σ, Ksc (pSc σ) (E1 σ)) (hm2 : ∀ σ, Ksc (pSc σ) (E2 σ)) (σ : CS) : Ksc (pSc σ) (f_X7_beginFor N E1 E2 σ) := by
  unfold f_X7_beginFor
  exact (ksc_bind (kS_X9_advance N σ) (fun p1 => (ksc_bind (kS_X1_open N p1.2 40) (fun p5 => (ksc_bind (kS_X1_skip N p5.2 200) (fun p9 => (ksc_ite (ksc_bind (kS_X1_found N p9.2 2) (fun p14 => (ksc_ite (kS_X7_beginFor_80 N E1 E2 hm1 hm2 p14.2 (σ.i 50)) (ksc_bind (kS_X7_changeHere N E1 E2 hm1 hm2 p14.2 0) (fun p28 => (kS_X7_beginFor_80 N E1 E2 hm1 hm2 p28.2 (σ.i 50))))))) (ksc_bind (kS_X7_newName N p9.2) (fun p32 => (ksc_bind (kS_X1_found N p32.2 58) (fun p36 => (ksc_ite (ksc_bind (kS_X7_define N E1 E2 hm1 hm2 p36.2 p32.1) (fun p41 => (ksc_bind (kS_X7_forHead N E1 E2 hm1 hm2 p41.2) (fun p45 => (ksc_oc (kS_X7_beginFor_64 N E1 E2 hm1 hm2 p45.2 (σ.i 50) none) (fun a50 => (kS_X7_beginFor_64 N E1 E2 hm1 hm2 p45.2 (σ.i 50) (some a50)))))))) (ksc_bind (kS_X7_rowHead N E1 E2 hm1 hm2 p36.2 p32.1) (fun p51 => (ksc_oc (kS_X7_beginFor_64 N E1 E2 hm1 hm2 p51.2 (σ.i 50) none) (fun a56 => (kS_X7_beginFor_64 N E1 E2 hm1 hm2 p51.2 (σ.i 50) (some a56))))))))))))))))))
theorem kS_X7_beginLock_58 (N : Nat) (σ : CS) : Ksc (pSc σ) (f_X7_beginLock_58 N σ ) := by
  unfold f_X7_beginLock_58
  exact (ksc_bind (kS_X1_close N σ 41) (fun p22 => (ksc_bind (kS_X1_open N p22.2 123) (fun p26 => (ksc_bind (kS_X6_push N p26.2 212 (p26.2.i 38) (p26.2.i 50)) (fun p30 => (ksc_oc (ksc_bind (kS_X0_newTarget N p30.2) (fun p36 => ksc_none)) (fun a35 => (ksc_bind (kS_X0_newTarget N p30.2) (fun p40 => (ksc_ite (ksc_some (rfl)) ksc_none)))))))))))
theorem kS_X7_beginLock (N : Nat) (σ : CS) : Ksc (pSc σ) (f_X7_beginLock N σ) := by
  unfold f_X7_beginLock
  exact (ksc_bind (kS_X9_advance N σ) (fun p1 => (ksc_bind (kS_X1_open N p1.2 40) (fun p5 => (ksc_bind (kS_X1_found N p5.2 3) (fun p9 => (ksc_ite (ksc_bind (kS_X1_expect N p9.2 224) (fun p14 => (ksc_bind (kS_X7_throwNull N p14.2) (fun p18 => (kS_X7_beginLock_58 N p18.2))))) (ksc_bind (kS_X0_add N p9.2 53 (p9.2.i 45)) (fun p45 => (ksc_bind (kS_X9_advance N p45.2) (fun p49 => (kS_X7_beginLock_58 N p49.2))))))))))))
theorem kS_X7_beginSwitch (N : Nat) (E1 : CS → Option (Unit × CS)) (E2 : CS → Option (Int32 × CS)) (hm1 : ∀ σ, Ksc (pSc σ) (E1 σ)) (hm2 : ∀ σ, Ksc (pSc σ) (E2 σ)) (σ : CS) : Ksc (pSc σ) (f_X7_beginSwitch N E1 E2 σ) := by
  unfold f_X7_beginSwitch
  exact (ksc_bind (kS_X9_advance N σ) (fun p1 => (ksc_bind (kS_X1_open N p1.2 40) (fun p5 => (ksc_bind (kS_X1_expression N E1 E2 hm1 hm2 p5.2) (fun p9 => (ksc_bind (kS_X1_close N p9.2 41) (fun p13 => (ksc_bind (kS_X1_open N p13.2 123) (fun p17 => (ksc_bind (kS_X6_push N p17.2 218 (p17.2.i 38) (p17.2.i 50)) (fun p21 => (ksc_oc (ksc_bind (kS_X0_newTarget N p21.2) (fun p27 => ksc_none)) (fun a26 => (ksc_bind (kS_X0_newTarget N p21.2) (fun p31 => (ksc_ite (ksc_bind (kS_X0_newTarget N (CS.setO p31.2 a26 10 p31.1)) (fun p36 => (ksc_ite (ksc_bind (kS_X0_add N (CS.setO (CS.setO p36.2 a26 9 p36.1) a26 13 (p36.2.i 22)) 30 (CS.o (CS.setO (CS.setO p36.2 a26 9 p36.1) a26 13 (p36.2.i 22)) a26 10)) (fun p41 => (ksc_some (rfl)))) ksc_none))) ksc_none)))))))))))))))))
theorem kS_X7_openResource (N : Nat) (σ : CS) : Ksc (pSc σ) (f_X7_openResource N σ) := by
  unfold f_X7_openResource
  exact (ksc_bind (kS_X1_found N σ 4) (fun p1 => (ksc_ite (ksc_bind (kS_X1_misplaced N p1.2) (fun p14 => (ksc_some (rfl)))) (ksc_bind (kS_X0_add N p1.2 55 (p1.2.i 45)) (fun p6 => (ksc_bind (kS_X9_advance N p6.2) (fun p10 => (ksc_some (rfl)))))))))
theorem kS_X7_beginTry_132 (N : Nat) (σ : CS) : Ksc (pSc σ) (f_X7_beginTry_132 N σ ) := by
  unfold f_X7_beginTry_132
  exact (ksc_bind (kS_X1_open N σ 123) (fun p40 => (ksc_some (rfl))))
theorem kSb_X7_beginTry_106 (N : Nat) (K : CS → Int32 → Option (Unit × CS)) (hMK : ∀ (σ : CS) (x2 : Int32), Ksc (pSc σ) (K σ x2)) (σ : CS) (x2 : Int32) : Ksc (pSc σ) (b_X7_beginTry_106 N K σ x2) := by
  unfold b_X7_beginTry_106
  exact (ksc_ite (kS_X7_beginTry_132 N σ) (ksc_bind (kS_X1_skip N σ 44) (fun p50 => (ksc_ite (kS_X7_beginTry_132 N p50.2) (ksc_bind (kS_X7_openResource N p50.2) (fun p55 => (hMK p55.2 (x2 + 1))))))))
theorem kS_X7_beginTry_106 (N : Nat) : ∀ (n : Nat) (σ : CS) (x2 : Int32), Ksc (pSc σ) (f_X7_beginTry_106 N n σ x2)
  | 0, _, _ => ksc_none
  | n+1, σ, x2 => kSb_X7_beginTry_106 N (f_X7_beginTry_106 N n) (fun σ x2 => kS_X7_beginTry_106 N n σ x2) σ x2
theorem kS_X7_beginTry (N : Nat) (σ : CS) : Ksc (pSc σ) (f_X7_beginTry N σ) := by
  unfold f_X7_beginTry
  exact (ksc_bind (kS_X6_push N σ 213 (σ.i 38) (σ.i 50)) (fun p1 => (ksc_oc (ksc_bind (kS_X0_newTarget N p1.2) (fun p7 => ksc_none)) (fun a6 => (ksc_bind (kS_X0_newTarget N p1.2) (fun p11 => (ksc_ite (ksc_bind (kS_X0_newTarget N (CS.setO p11.2 a6 10 p11.1)) (fun p16 => (ksc_ite (ksc_bind (kS_X0_newTarget N (CS.setO p16.2 a6 11 p16.1)) (fun p21 => (ksc_ite (ksc_bind (kS_X9_advance N (CS.setO p21.2 a6 9 p21.1)) (fun p26 => (ksc_ite (ksc_bind (kS_X0_add N p26.2 54 (CS.o p26.2 a6 10)) (fun p31 => (ksc_bind (kS_X1_skip N (CS.setI p31.2 38 ((p31.2.i 38) + 1)) 214) (fun p35 => (ksc_ite (kS_X7_beginTry_132 N p35.2) (ksc_ite (ksc_bind (kS_X7_openResource N (CS.setO p35.2 a6 8 1)) (fun p45 => (kS_X7_beginTry_106 N N p45.2 0))) ksc_none)))))) ksc_none))) ksc_none))) ksc_none))) ksc_none)))))))
theorem kS_X7_compound (N : Nat) (E1 : CS → Option (Unit × CS)) (E2 : CS → Option (Int32 × CS)) (hm1 : ∀ σ, Ksc (pSc σ) (E1 σ)) (hm2 : ∀ σ, Ksc (pSc σ) (E2 σ)) (σ : CS) : Ksc (pSc σ) (f_X7_compound N E1 E2 σ) := by
  unfold f_X7_compound
  exact (ksc_ite (ksc_bind (kS_X7_beginIf N E1 E2 hm1 hm2 σ) (fun p2 => (ksc_some (rfl)))) (ksc_ite (ksc_bind (kS_X1_misplaced N σ) (fun p7 => (ksc_some (rfl)))) (ksc_ite (ksc_bind (kS_X7_beginWhile N E1 E2 hm1 hm2 σ) (fun p12 => (ksc_some (rfl)))) (ksc_ite (ksc_bind (kS_X7_beginDo N σ) (fun p17 => (ksc_some (rfl)))) (ksc_ite (ksc_bind (kS_X7_beginFor N E1 E2 hm1 hm2 σ) (fun p22 => (ksc_some (rfl)))) (ksc_ite (ksc_bind (kS_X1_misplaced N σ) (fun p27 => (ksc_some (rfl)))) (ksc_ite (ksc_bind (kS_X1_misplaced N σ) (fun p32 => (ksc_some (rfl)))) (ksc_ite (ksc_bind (kS_X1_misplaced N σ) (fun p37 => (ksc_some (rfl)))) (ksc_ite (ksc_bind (kS_X1_misplaced N σ) (fun p42 => (ksc_some (rfl)))) (ksc_ite (ksc_bind (kS_X7_beginLock N σ) (fun p47 => (ksc_some (rfl)))) (ksc_ite (ksc_bind (kS_X7_beginTry N σ) (fun p52 => (ksc_some (rfl)))) (ksc_ite (ksc_bind (kS_X1_misplaced N σ) (fun p57 => (ksc_some (rfl)))) (ksc_ite (ksc_bind (kS_X1_misplaced N σ) (fun p62 => (ksc_some (rfl)))) (ksc_ite (ksc_bind (kS_X1_misplaced N σ) (fun p67 => (ksc_some (rfl)))) (ksc_ite (ksc_bind (kS_X1_misplaced N σ) (fun p72 => (ksc_some (rfl)))) (ksc_ite (ksc_bind (kS_X7_beginSwitch N E1 E2 hm1 hm2 σ) (fun p77 => (ksc_some (rfl)))) (ksc_bind (kS_X1_misplaced N σ) (fun p81 => (ksc_some (rfl))))))))))))))))))))
theorem kS_X7_plain (N : Nat) (E1 : CS → Option (Unit × CS)) (E2 : CS → Option (Int32 × CS)) (hm1 : ∀ σ, Ksc (pSc σ) (E1 σ)) (hm2 : ∀ σ, Ksc (pSc σ) (E2 σ)) (σ : CS) : Ksc (pSc σ) (f_X7_plain N E1 E2 σ) := by
  unfold f_X7_plain
  exact (ksc_ite (ksc_bind (kS_X9_advance N σ) (fun p2 => (ksc_some (rfl)))) (ksc_ite (ksc_bind (kS_X9_advance N σ) (fun p7 => (ksc_bind (kS_X7_newName N p7.2) (fun p11 => (ksc_bind (kS_X7_define N E1 E2 hm1 hm2 p11.2 p11.1) (fun p15 => (ksc_bind (kS_X1_expect N p15.2 59) (fun p19 => (ksc_some (rfl)))))))))) (ksc_ite (ksc_bind (kS_X9_advance N σ) (fun p24 => (ksc_bind (kS_X7_newName N p24.2) (fun p28 => (ksc_bind (kS_X7_define N E1 E2 hm1 hm2 p28.2 p28.1) (fun p32 => (ksc_bind (kS_X1_expect N p32.2 59) (fun p36 => (ksc_some (rfl)))))))))) (ksc_ite (ksc_bind (kS_X9_advance N σ) (fun p41 => (ksc_bind (kS_X1_expression N E1 E2 hm1 hm2 p41.2) (fun p45 => (ksc_bind (kS_X0_add N p45.2 52 0) (fun p49 => (ksc_bind (kS_X1_expect N p49.2 59) (fun p53 => (ksc_some (rfl)))))))))) (ksc_ite (ksc_bind (kS_X7_jump N σ) (fun p58 => (ksc_some (rfl)))) (ksc_ite (ksc_bind (kS_X7_jump N σ) (fun p63 => (ksc_some (rfl)))) (ksc_ite (ksc_bind (kS_X7_giveBack N E1 E2 hm1 hm2 σ) (fun p68 => (ksc_some (rfl)))) (ksc_ite (ksc_bind (kS_X7_throwOne N E1 E2 hm1 hm2 σ) (fun p73 => (ksc_some (rfl)))) (ksc_ite (ksc_bind (kS_X7_claim N E1 E2 hm1 hm2 σ) (fun p78 => (ksc_some (rfl)))) (ksc_ite (ksc_bind (kS_X7_yieldValue N E1 E2 hm1 hm2 σ) (fun p83 => (ksc_some (rfl)))) (ksc_bind (kS_X7_compound N E1 E2 hm1 hm2 σ) (fun p87 => (ksc_some (rfl))))))))))))))
theorem kS_X7_statement_122 (N : Nat) (E1 : CS → Option (Unit × CS)) (E2 : CS → Option (Int32 × CS)) (hm1 : ∀ σ, Ksc (pSc σ) (E1 σ)) (hm2 : ∀ σ, Ksc (pSc σ) (E2 σ)) (σ : CS) : Ksc (pSc σ) (f_X7_statement_122 N E1 E2 σ ) := by
  unfold f_X7_statement_122
  exact (ksc_bind (kS_X0_add N σ 51 0) (fun p13 => (ksc_bind (kS_X7_plain N E1 E2 hm1 hm2 p13.2) (fun p17 => (ksc_some (rfl))))))
theorem kS_X7_statement_115 (N : Nat) (E1 : CS → Option (Unit × CS)) (E2 : CS → Option (Int32 × CS)) (hm1 : ∀ σ, Ksc (pSc σ) (E1 σ)) (hm2 : ∀ σ, Ksc (pSc σ) (E2 σ)) (σ : CS) : Ksc (pSc σ) (f_X7_statement_115 N E1 E2 σ ) := by
  unfold f_X7_statement_115
  exact (ksc_bind (kS_X1_misplaced N σ) (fun p26 => (ksc_some (rfl))))
theorem kS_X7_statement_18 (N : Nat) (E1 : CS → Option (Unit × CS)) (E2 : CS → Option (Int32 × CS)) (hm1 : ∀ σ, Ksc (pSc σ) (E1 σ)) (hm2 : ∀ σ, Ksc (pSc σ) (E2 σ)) (σ : CS) (x1 : Int32) : Ksc (pSc σ) (f_X7_statement_18 N E1 E2 σ x1) := by
  unfold f_X7_statement_18
  exact (ksc_bind (kS_X1_found N (CS.setI (CS.setI σ 36 1) 24 ((σ.i 24) + 1)) 2) (fun p2 => (ksc_ite (ksc_bind (kS_X1_found N p2.2 123) (fun p7 => (ksc_ite (ksc_ite (kS_X7_statement_122 N E1 E2 hm1 hm2 p7.2) (ksc_bind (kS_X1_found N p7.2 200) (fun p21 => (ksc_ite (ksc_bind (kS_X1_found N p21.2 201) (fun p30 => (ksc_ite (kS_X7_statement_122 N E1 E2 hm1 hm2 p30.2) (kS_X7_statement_115 N E1 E2 hm1 hm2 p30.2)))) (kS_X7_statement_115 N E1 E2 hm1 hm2 p21.2))))) (ksc_bind (kS_X1_open N p7.2 123) (fun p35 => (ksc_bind (kS_X6_push N p35.2 301 (p35.2.i 38) (p35.2.i 50)) (fun p39 => (ksc_oc (ksc_some (rfl)) (fun a44 => (ksc_some (rfl))))))))))) (ksc_bind (kS_X7_named N E1 E2 hm1 hm2 p2.2) (fun p45 => (ksc_some (rfl)))))))
theorem kS_X7_statement (N : Nat) (E1 : CS → Option (Unit × CS)) (E2 : CS → Option (Int32 × CS)) (hm1 : ∀ σ, Ksc (pSc σ) (E1 σ)) (hm2 : ∀ σ, Ksc (pSc σ) (E2 σ)) (σ : CS) (x1 : Int32) : Ksc (pSc σ) (f_X7_statement N E1 E2 σ x1) := by
  unfold f_X7_statement
  exact (ksc_ite (ksc_bind (kS_X7_notReached N σ (σ.i 44)) (fun p49 => (kS_X7_statement_18 N E1 E2 hm1 hm2 p49.2 x1))) (kS_X7_statement_18 N E1 E2 hm1 hm2 σ x1))
theorem kS_X7_bodyTurn (N : Nat) (E1 : CS → Option (Unit × CS)) (E2 : CS → Option (Int32 × CS)) (hm1 : ∀ σ, Ksc (pSc σ) (E1 σ)) (hm2 : ∀ σ, Ksc (pSc σ) (E2 σ)) (σ : CS) (x1 : Nat) : Ksc (pSc σ) (f_X7_bodyTurn N E1 E2 σ x1) := by
  unfold f_X7_bodyTurn
  exact (ksc_ite (ksc_ite (ksc_bind (kS_X7_statement N E1 E2 hm1 hm2 (CS.setO σ x1 5 1) 1) (fun p3 => (ksc_some (rfl)))) (ksc_bind (kS_X7_endBody N E1 E2 hm1 hm2 σ x1) (fun p7 => (ksc_some (rfl))))) ksc_none)
theorem kS_X10_isUnder_38 (N : Nat) (σ : CS) : Ksc (pSc σ) (f_X10_isUnder_38 N σ ) := by
  unfold f_X10_isUnder_38
  exact (ksc_some (rfl))
theorem kSb_X10_isUnder_5 (N : Nat) (K : CS → Int32 → Int32 → Int32 → Option (Int32 × CS)) (hMK : ∀ (σ : CS) (x2 : Int32) (x3 : Int32) (x4 : Int32), Ksc (pSc σ) (K σ x2 x3 x4)) (σ : CS) (x2 : Int32) (x3 : Int32) (x4 : Int32) : Ksc (pSc σ) (b_X10_isUnder_5 N K σ x2 x3 x4) := by
  unfold b_X10_isUnder_5
  exact (ksc_ite (kS_X10_isUnder_38 N σ) (ksc_ite (kS_X10_isUnder_38 N σ) (ksc_ite (ksc_some (rfl)) (hMK σ x2 (gAt (σ.a 9) 12 x3) (x4 + 1)))))
theorem kS_X10_isUnder_5 (N : Nat) : ∀ (n : Nat) (σ : CS) (x2 : Int32) (x3 : Int32) (x4 : Int32), Ksc (pSc σ) (f_X10_isUnder_5 N n σ x2 x3 x4)
  | 0, _, _, _, _ => ksc_none
  | n+1, σ, x2, x3, x4 => kSb_X10_isUnder_5 N (f_X10_isUnder_5 N n) (fun σ x2 x3 x4 => kS_X10_isUnder_5 N n σ x2 x3 x4) σ x2 x3 x4
theorem kS_X10_isUnder (N : Nat) (σ : CS) (x1 : Int32) (x2 : Int32) : Ksc (pSc σ) (f_X10_isUnder N σ x1 x2) := by
  unfold f_X10_isUnder
  exact (kS_X10_isUnder_5 N N σ x2 x1 0)
theorem kSb_X7_caughtKind_47 (N : Nat) (K : CS → Nat → Int32 → Int32 → Int32 → Option (Unit × CS)) (hMK : ∀ (σ : CS) (x1 : Nat) (x2 : Int32) (x3 : Int32) (x4 : Int32), Ksc (pSc σ) (K σ x1 x2 x3 x4)) (σ : CS) (x1 : Nat) (x2 : Int32) (x3 : Int32) (x4 : Int32) : Ksc (pSc σ) (b_X7_caughtKind_47 N K σ x1 x2 x3 x4) := by
  unfold b_X7_caughtKind_47
  exact (ksc_ite (ksc_ite (ksc_bind (kS_X0_add N (CS.setO σ x1 12 ((CS.o σ x1 12) ||| ((1 : Int32) <<< (x3 &&& 31)))) 56 ((x2 * 16) + x3)) (fun p13 => (ksc_bind (kS_X9_advance N p13.2) (fun p17 => (ksc_some (rfl)))))) ksc_none) (ksc_ite (ksc_ite (ksc_bind (kS_X10_isUnder N σ x3 x4) (fun p23 => (ksc_ite (hMK p23.2 x1 x2 x3 (x4 + 1)) (ksc_bind (kS_X1_fail N p23.2 6 (p23.2.i 44)) (fun p28 => (hMK p28.2 x1 x2 x3 (x4 + 1))))))) (hMK σ x1 x2 x3 (x4 + 1))) ksc_none))
theorem kS_X7_caughtKind_47 (N : Nat) : ∀ (n : Nat) (σ : CS) (x1 : Nat) (x2 : Int32) (x3 : Int32) (x4 : Int32), Ksc (pSc σ) (f_X7_caughtKind_47 N n σ x1 x2 x3 x4)
  | 0, _, _, _, _, _ => ksc_none
  | n+1, σ, x1, x2, x3, x4 => kSb_X7_caughtKind_47 N (f_X7_caughtKind_47 N n) (fun σ x1 x2 x3 x4 => kS_X7_caughtKind_47 N n σ x1 x2 x3 x4) σ x1 x2 x3 x4
theorem kS_X7_caughtKind_44 (N : Nat) (σ : CS) (x1 : Nat) (x2 : Int32) (x3 : Int32) : Ksc (pSc σ) (f_X7_caughtKind_44 N σ x1 x2 x3) := by
  unfold f_X7_caughtKind_44
  exact (kS_X7_caughtKind_47 N N σ x1 x2 x3 0)
theorem kS_X7_caughtKind (N : Nat) (σ : CS) (x1 : Nat) (x2 : Int32) : Ksc (pSc σ) (f_X7_caughtKind N σ x1 x2) := by
  unfold f_X7_caughtKind
  exact (ksc_bind (kS_X1_found N σ 5) (fun p1 => (ksc_ite (ksc_bind (kS_X1_misplaced N p1.2) (fun p36 => (ksc_some (rfl)))) (ksc_bind (kS_X10_isKind N p1.2 (p1.2.i 45)) (fun p6 => (ksc_ite (ksc_bind (kS_X1_fail N p6.2 3 (p6.2.i 44)) (fun p32 => (kS_X7_caughtKind_44 N p32.2 x1 x2 (p1.2.i 45)))) (kS_X7_caughtKind_44 N p6.2 x1 x2 (p1.2.i 45))))))))
theorem kS_X7_beginCatch_80 (N : Nat) (σ : CS) (x1 : Nat) (x2 : Int32) : Ksc (pSc σ) (f_X7_beginCatch_80 N σ x1 x2) := by
  unfold f_X7_beginCatch_80
  exact (ksc_bind (kS_X0_newCells N σ 1) (fun p24 => (ksc_bind (kS_X7_newName N p24.2) (fun p28 => (ksc_bind (kS_X4_add N p28.2 p28.1 p24.1 ((p28.2.i 38) - 1)) (fun p32 => (ksc_bind (kS_X1_close N p32.2 41) (fun p36 => (ksc_bind (kS_X1_open N p36.2 123) (fun p40 => (ksc_ite (ksc_bind (kS_X0_add N p40.2 30 (CS.o p40.2 x1 10)) (fun p45 => (ksc_bind (kS_X0_aim N p45.2 x2) (fun p49 => (ksc_bind (kS_X0_add N p49.2 57 p24.1) (fun p53 => (ksc_some (rfl)))))))) ksc_none)))))))))))
theorem kSb_X7_beginCatch_52 (N : Nat) (K : CS → Nat → Int32 → Int32 → Option (Unit × CS)) (hMK : ∀ (σ : CS) (x1 : Nat) (x2 : Int32) (x3 : Int32), Ksc (pSc σ) (K σ x1 x2 x3)) (σ : CS) (x1 : Nat) (x2 : Int32) (x3 : Int32) : Ksc (pSc σ) (b_X7_beginCatch_52 N K σ x1 x2 x3) := by
  unfold b_X7_beginCatch_52
  exact (ksc_ite (kS_X7_beginCatch_80 N σ x1 x2) (ksc_bind (kS_X1_skip N σ 124) (fun p57 => (ksc_ite (kS_X7_beginCatch_80 N p57.2 x1 x2) (ksc_bind (kS_X7_caughtKind N p57.2 x1 x2) (fun p62 => (hMK p62.2 x1 x2 (x3 + 1))))))))
theorem kS_X7_beginCatch_52 (N : Nat) : ∀ (n : Nat) (σ : CS) (x1 : Nat) (x2 : Int32) (x3 : Int32), Ksc (pSc σ) (f_X7_beginCatch_52 N n σ x1 x2 x3)
  | 0, _, _, _, _ => ksc_none
  | n+1, σ, x1, x2, x3 => kSb_X7_beginCatch_52 N (f_X7_beginCatch_52 N n) (fun σ x1 x2 x3 => kS_X7_beginCatch_52 N n σ x1 x2 x3) σ x1 x2 x3
theorem kS_X7_beginCatch (N : Nat) (σ : CS) (x1 : Nat) : Ksc (pSc σ) (f_X7_beginCatch N σ x1) := by
  unfold f_X7_beginCatch
  exact (ksc_bind (kS_X0_newTarget N σ) (fun p1 => (ksc_ite (ksc_bind (kS_X0_newTarget N (CS.setO (CS.setO p1.2 x1 0 215) x1 8 1)) (fun p6 => (ksc_ite (ksc_bind (kS_X9_advance N (CS.setO p6.2 x1 10 p6.1)) (fun p11 => (ksc_bind (kS_X1_open N p11.2 40) (fun p15 => (ksc_bind (kS_X7_caughtKind N p15.2 x1 p1.1) (fun p19 => (kS_X7_beginCatch_52 N N p19.2 x1 p1.1 0))))))) ksc_none))) ksc_none)))
theorem kS_X7_beginFinally (N : Nat) (σ : CS) (x1 : Nat) : Ksc (pSc σ) (f_X7_beginFinally N σ x1) := by
  unfold f_X7_beginFinally
  exact (ksc_ite (ksc_bind (kS_X9_advance N (CS.setO (CS.setO σ x1 0 216) x1 15 (σ.i 55))) (fun p2 => (ksc_bind (kS_X1_open N p2.2 123) (fun p6 => (ksc_bind (kS_X0_add N p6.2 58 0) (fun p10 => (ksc_ite (ksc_bind (kS_X0_aim N p10.2 (CS.o p10.2 x1 11)) (fun p15 => (ksc_some (rfl)))) ksc_none))))))) ksc_none)
theorem kS_X7_endLock (N : Nat) (σ : CS) (x1 : Nat) : Ksc (pSc σ) (f_X7_endLock N σ x1) := by
  unfold f_X7_endLock
  exact (ksc_ite (ksc_bind (kS_X7_leave N σ (CS.o σ x1 9) (CS.o σ x1 2)) (fun p2 => (ksc_ite (ksc_bind (kS_X0_aim N p2.2 (CS.o p2.2 x1 9)) (fun p7 => (ksc_bind (kS_X6_pop N (CS.setI p7.2 38 ((p7.2.i 38) - 1))) (fun p11 => (ksc_some (rfl)))))) ksc_none))) ksc_none)
theorem kS_X7_endSwitch_99 (N : Nat) (σ : CS) : Ksc (pSc σ) (f_X7_endSwitch_99 N σ ) := by
  unfold f_X7_endSwitch_99
  exact (ksc_bind (kS_X6_pop N σ) (fun p23 => (ksc_some (rfl))))
theorem kS_X7_endSwitch_53 (N : Nat) (σ : CS) (x1 : Nat) : Ksc (pSc σ) (f_X7_endSwitch_53 N σ x1) := by
  unfold f_X7_endSwitch_53
  exact (ksc_ite (ksc_bind (kS_X0_aim N σ (CS.o σ x1 9)) (fun p18 => (ksc_ite (ksc_ite (ksc_ite (kS_X7_endSwitch_99 N (CS.setI p18.2 36 1)) (ksc_bind (kS_X6_isGoneTo N p18.2 x1 0) (fun p29 => (ksc_ite (kS_X7_endSwitch_99 N (CS.setI p29.2 36 0)) (kS_X7_endSwitch_99 N (CS.setI p29.2 36 1)))))) ksc_none) (kS_X7_endSwitch_99 N (CS.setI p18.2 36 1))))) ksc_none)
theorem kS_X7_endSwitch (N : Nat) (σ : CS) (x1 : Nat) : Ksc (pSc σ) (f_X7_endSwitch N σ x1) := by
  unfold f_X7_endSwitch
  exact (ksc_ite (ksc_bind (kS_X0_add N σ 30 (CS.o σ x1 9)) (fun p2 => (ksc_ite (ksc_bind (kS_X0_aim N p2.2 (CS.o p2.2 x1 10)) (fun p7 => (ksc_ite (ksc_ite (ksc_bind (kS_X0_addCases N p7.2 (CS.o p7.2 x1 13) (CS.o p7.2 x1 9)) (fun p13 => (kS_X7_endSwitch_53 N p13.2 x1))) (ksc_bind (kS_X0_addCases N p7.2 (CS.o p7.2 x1 13) (CS.o p7.2 x1 11)) (fun p34 => (kS_X7_endSwitch_53 N p34.2 x1)))) ksc_none))) ksc_none))) ksc_none)
theorem kS_X7_endGuarded_66 (N : Nat) (σ : CS) (x1 : Nat) : Ksc (pSc σ) (f_X7_endGuarded_66 N σ x1) := by
  unfold f_X7_endGuarded_66
  exact (ksc_ite (ksc_some (rfl)) ksc_none)
theorem kS_X7_endGuarded_46 (N : Nat) (σ : CS) (x1 : Nat) : Ksc (pSc σ) (f_X7_endGuarded_46 N σ x1) := by
  unfold f_X7_endGuarded_46
  exact (ksc_bind (kS_X1_found N σ 215) (fun p13 => (ksc_ite (ksc_bind (kS_X1_found N p13.2 216) (fun p19 => (ksc_ite (ksc_ite (ksc_ite (ksc_bind (kS_X1_misplaced N p19.2) (fun p26 => (ksc_some (rfl)))) (ksc_bind (kS_X0_add N p19.2 58 0) (fun p30 => (ksc_ite (ksc_bind (kS_X0_aim N p30.2 (CS.o p30.2 x1 9)) (fun p35 => (ksc_ite (ksc_ite (ksc_bind (kS_X6_pop N (CS.setI (CS.setI p35.2 36 (CS.o p35.2 x1 6)) 38 ((p35.2.i 38) - 1))) (fun p41 => (ksc_some (rfl)))) ksc_none) ksc_none))) ksc_none)))) ksc_none) (kS_X7_endGuarded_66 N p19.2 x1)))) (kS_X7_endGuarded_66 N p13.2 x1))))
theorem kS_X7_endGuarded (N : Nat) (σ : CS) (x1 : Nat) : Ksc (pSc σ) (f_X7_endGuarded N σ x1) := by
  unfold f_X7_endGuarded
  exact (ksc_ite (ksc_bind (kS_X7_leave N σ (CS.o σ x1 9) (CS.o σ x1 2)) (fun p2 => (ksc_ite (ksc_bind (kS_X0_aim N p2.2 (CS.o p2.2 x1 10)) (fun p7 => (ksc_ite (ksc_ite (ksc_ite (kS_X7_endGuarded_46 N (CS.setO p7.2 x1 6 0) x1) (kS_X7_endGuarded_46 N (CS.setO p7.2 x1 6 1) x1)) (kS_X7_endGuarded_46 N (CS.setO p7.2 x1 6 1) x1)) ksc_none))) ksc_none))) ksc_none)
theorem kSb_X6_loseJumps_2 (N : Nat) (K : CS → Int32 → Int32 → Option (Unit × CS)) (hMK : ∀ (σ : CS) (x2 : Int32) (x3 : Int32), Ksc (pSc σ) (K σ x2 x3)) (σ : CS) (x2 : Int32) (x3 : Int32) : Ksc (pSc σ) (b_X6_loseJumps_2 N K σ x2 x3) := by
  unfold b_X6_loseJumps_2
  exact (ksc_ite (ksc_some (rfl)) (hMK (CS.putA σ 52 (gPut (σ.a 52) 160 x3 0)) x2 (x3 + 1)))
theorem kS_X6_loseJumps_2 (N : Nat) : ∀ (n : Nat) (σ : CS) (x2 : Int32) (x3 : Int32), Ksc (pSc σ) (f_X6_loseJumps_2 N n σ x2 x3)
  | 0, _, _, _ => ksc_none
  | n+1, σ, x2, x3 => kSb_X6_loseJumps_2 N (f_X6_loseJumps_2 N n) (fun σ x2 x3 => kS_X6_loseJumps_2 N n σ x2 x3) σ x2 x3
theorem kS_X6_loseJumps (N : Nat) (σ : CS) (x1 : Int32) (x2 : Int32) : Ksc (pSc σ) (f_X6_loseJumps N σ x1 x2) := by
  unfold f_X6_loseJumps
  exact (kS_X6_loseJumps_2 N N σ x2 x1)
theorem kS_X7_endFinally_66 (N : Nat) (σ : CS) : Ksc (pSc σ) (f_X7_endFinally_66 N σ ) := by
  unfold f_X7_endFinally_66
  exact (ksc_bind (kS_X6_pop N (CS.setI σ 38 ((σ.i 38) - 1))) (fun p12 => (ksc_some (rfl))))
theorem kS_X7_endFinally_43 (N : Nat) (σ : CS) (x1 : Nat) : Ksc (pSc σ) (f_X7_endFinally_43 N σ x1) := by
  unfold f_X7_endFinally_43
  exact (ksc_ite (kS_X7_endFinally_66 N (CS.setI σ 36 0)) (ksc_ite (ksc_ite (kS_X7_endFinally_66 N (CS.setI σ 36 0)) (kS_X7_endFinally_66 N (CS.setI σ 36 1))) ksc_none))
theorem kS_X7_endFinally (N : Nat) (σ : CS) (x1 : Nat) : Ksc (pSc σ) (f_X7_endFinally N σ x1) := by
  unfold f_X7_endFinally
  exact (ksc_bind (kS_X0_add N σ 59 0) (fun p1 => (ksc_ite (ksc_bind (kS_X0_aim N p1.2 (CS.o p1.2 x1 9)) (fun p6 => (ksc_ite (ksc_ite (ksc_bind (kS_X6_loseJumps N p6.2 (CS.o p6.2 x1 14) (CS.o p6.2 x1 15)) (fun p19 => (kS_X7_endFinally_43 N p19.2 x1))) ksc_none) (kS_X7_endFinally_43 N p6.2 x1)))) ksc_none)))
theorem kS_X7_endList_72 (N : Nat) (σ : CS) (x1 : Nat) : Ksc (pSc σ) (f_X7_endList_72 N σ x1) := by
  unfold f_X7_endList_72
  exact (ksc_bind (kS_X1_close N σ 125) (fun p4 => (ksc_ite (ksc_ite (ksc_bind (kS_X7_endLock N (CS.setI p4.2 50 (CS.o p4.2 x1 3)) x1) (fun p10 => (ksc_some (rfl)))) (ksc_ite (ksc_bind (kS_X7_endGuarded N (CS.setI p4.2 50 (CS.o p4.2 x1 3)) x1) (fun p15 => (ksc_some (rfl)))) (ksc_ite (ksc_bind (kS_X6_pop N (CS.setI p4.2 50 (CS.o p4.2 x1 3))) (fun p20 => (ksc_some (rfl)))) (ksc_ite (ksc_bind (kS_X7_endGuarded N (CS.setI p4.2 50 (CS.o p4.2 x1 3)) x1) (fun p25 => (ksc_some (rfl)))) (ksc_ite (ksc_bind (kS_X7_endFinally N (CS.setI p4.2 50 (CS.o p4.2 x1 3)) x1) (fun p30 => (ksc_some (rfl)))) (ksc_ite (ksc_bind (kS_X6_pop N (CS.setI p4.2 50 (CS.o p4.2 x1 3))) (fun p35 => (ksc_some (rfl)))) (ksc_ite (ksc_bind (kS_X7_endSwitch N (CS.setI p4.2 50 (CS.o p4.2 x1 3)) x1) (fun p40 => (ksc_some (rfl)))) (ksc_bind (kS_X6_pop N (CS.setI p4.2 50 (CS.o p4.2 x1 3))) (fun p44 => (ksc_some (rfl))))))))))) ksc_none)))
theorem kS_X7_endList (N : Nat) (σ : CS) (x1 : Nat) : Ksc (pSc σ) (f_X7_endList N σ x1) := by
  unfold f_X7_endList
  exact (ksc_ite (ksc_ite (ksc_bind (kS_X1_expect N σ 0) (fun p53 => (ksc_ite (ksc_bind (kS_X0_add N (CS.setI p53.2 27 (p53.2.i 36)) 50 0) (fun p58 => (ksc_bind (kS_X6_pop N p58.2) (fun p62 => (ksc_some (rfl)))))) ksc_none))) (ksc_ite (ksc_ite (kS_X7_endList_72 N σ x1) (ksc_bind (kS_X7_notReached N σ (σ.i 44)) (fun p49 => (kS_X7_endList_72 N p49.2 x1)))) (kS_X7_endList_72 N σ x1))) ksc_none)
theorem kS_X7_groupTurn_87 (N : Nat) (E1 : CS → Option (Unit × CS)) (E2 : CS → Option (Int32 × CS)) (hm1 : ∀ σ, Ksc (pSc σ) (E1 σ)) (hm2 : ∀ σ, Ksc (pSc σ) (E2 σ)) (σ : CS) (x1 : Nat) (x2 : Int32) : Ksc (pSc σ) (f_X7_groupTurn_87 N E1 E2 σ x1 x2) := by
  unfold f_X7_groupTurn_87
  exact (ksc_bind (kS_X1_expect N σ 58) (fun p21 => (ksc_bind (kS_X0_aim N p21.2 x2) (fun p25 => (ksc_ite (ksc_some (rfl)) ksc_none)))))
theorem kS_X7_groupTurn_59 (N : Nat) (E1 : CS → Option (Unit × CS)) (E2 : CS → Option (Int32 × CS)) (hm1 : ∀ σ, Ksc (pSc σ) (E1 σ)) (hm2 : ∀ σ, Ksc (pSc σ) (E2 σ)) (σ : CS) (x1 : Nat) (x2 : Int32) (x3 : Int32) : Ksc (pSc σ) (f_X7_groupTurn_59 N E1 E2 σ x1 x2 x3) := by
  unfold f_X7_groupTurn_59
  exact (ksc_bind (kS_X9_advance N σ) (fun p15 => (ksc_ite (ksc_ite (kS_X7_groupTurn_87 N E1 E2 hm1 hm2 (CS.setO p15.2 x1 11 x2) x1 x2) ksc_none) (ksc_ite (ksc_bind (kS_X1_caseNumber N p15.2 (CS.o p15.2 x1 13) x2) (fun p31 => (kS_X7_groupTurn_87 N E1 E2 hm1 hm2 p31.2 x1 x2))) ksc_none))))
theorem kS_X7_groupTurn_20 (N : Nat) (E1 : CS → Option (Unit × CS)) (E2 : CS → Option (Int32 × CS)) (hm1 : ∀ σ, Ksc (pSc σ) (E1 σ)) (hm2 : ∀ σ, Ksc (pSc σ) (E2 σ)) (σ : CS) (x1 : Nat) : Ksc (pSc σ) (f_X7_groupTurn_20 N E1 E2 σ x1) := by
  unfold f_X7_groupTurn_20
  exact (ksc_bind (kS_X0_newTarget N σ) (fun p6 => (ksc_bind (kS_X1_found N p6.2 219) (fun p10 => (ksc_ite (ksc_ite (ksc_ite (kS_X7_groupTurn_59 N E1 E2 hm1 hm2 p10.2 x1 p6.1 p10.1) (ksc_bind (kS_X1_fail N p10.2 4 (p10.2.i 44)) (fun p37 => (kS_X7_groupTurn_59 N E1 E2 hm1 hm2 p37.2 x1 p6.1 p10.1)))) ksc_none) (kS_X7_groupTurn_59 N E1 E2 hm1 hm2 p10.2 x1 p6.1 p10.1))))))
theorem kS_X7_groupTurn (N : Nat) (E1 : CS → Option (Unit × CS)) (E2 : CS → Option (Int32 × CS)) (hm1 : ∀ σ, Ksc (pSc σ) (E1 σ)) (hm2 : ∀ σ, Ksc (pSc σ) (E2 σ)) (σ : CS) (x1 : Nat) : Ksc (pSc σ) (f_X7_groupTurn N E1 E2 σ x1) := by
  unfold f_X7_groupTurn
  exact (ksc_bind (kS_X1_found N σ 219) (fun p1 => (ksc_ite (ksc_bind (kS_X1_found N p1.2 220) (fun p41 => (ksc_ite (ksc_ite (ksc_ite (ksc_bind (kS_X1_misplaced N p41.2) (fun p48 => (ksc_some (rfl)))) (ksc_bind (kS_X7_statement N E1 E2 hm1 hm2 p41.2 0) (fun p52 => (ksc_some (rfl))))) ksc_none) (kS_X7_groupTurn_20 N E1 E2 hm1 hm2 p41.2 x1)))) (kS_X7_groupTurn_20 N E1 E2 hm1 hm2 p1.2 x1))))
theorem kSb_X7_turns_2 (N : Nat) (E1 : CS → Option (Unit × CS)) (E2 : CS → Option (Int32 × CS)) (hm1 : ∀ σ, Ksc (pSc σ) (E1 σ)) (hm2 : ∀ σ, Ksc (pSc σ) (E2 σ)) (K : CS → Int32 → Int32 → Option (Unit × CS)) (hMK : ∀ (σ : CS) (x1 : Int32) (x2 : Int32), Ksc (pSc σ) (K σ x1 x2)) (σ : CS) (x1 : Int32) (x2 : Int32) : Ksc (pSc σ) (b_X7_turns_2 N E1 E2 K σ x1 x2) := by
  unfold b_X7_turns_2
  exact (ksc_ite (ksc_ite ksc_none (ksc_some (rfl))) (ksc_ite (ksc_ite (ksc_some (rfl)) (ksc_bind (kS_X6_row N σ ((σ.i 53) - 1)) (fun p4 => (ksc_oc (ksc_some (rfl)) (fun a9 => (ksc_ite (ksc_bind (kS_X5_hasOneBody N p4.2 a9) (fun p12 => (ksc_ite (ksc_ite (ksc_ite (ksc_bind (kS_X1_found N p12.2 215) (fun p47 => (ksc_ite (ksc_ite (ksc_ite (ksc_bind (kS_X7_beginFinally N p47.2 a9) (fun p82 => (hMK p82.2 x1 (x2 + 1)))) (ksc_bind (kS_X1_found N p47.2 125) (fun p54 => (ksc_ite (ksc_bind (kS_X1_found N p54.2 0) (fun p63 => (ksc_ite (ksc_ite (ksc_ite (ksc_bind (kS_X7_groupTurn N E1 E2 hm1 hm2 p63.2 a9) (fun p74 => (hMK p74.2 x1 (x2 + 1)))) (ksc_bind (kS_X7_statement N E1 E2 hm1 hm2 p63.2 0) (fun p70 => (hMK p70.2 x1 (x2 + 1))))) ksc_none) (ksc_bind (kS_X7_endList N p63.2 a9) (fun p78 => (hMK p78.2 x1 (x2 + 1))))))) (ksc_bind (kS_X7_endList N p54.2 a9) (fun p59 => (hMK p59.2 x1 (x2 + 1)))))))) ksc_none) (ksc_bind (kS_X7_beginCatch N p47.2 a9) (fun p86 => (hMK p86.2 x1 (x2 + 1))))))) (ksc_bind (kS_X1_found N p12.2 125) (fun p19 => (ksc_ite (ksc_bind (kS_X1_found N p19.2 0) (fun p28 => (ksc_ite (ksc_ite (ksc_ite (ksc_bind (kS_X7_groupTurn N E1 E2 hm1 hm2 p28.2 a9) (fun p39 => (hMK p39.2 x1 (x2 + 1)))) (ksc_bind (kS_X7_statement N E1 E2 hm1 hm2 p28.2 0) (fun p35 => (hMK p35.2 x1 (x2 + 1))))) ksc_none) (ksc_bind (kS_X7_endList N p28.2 a9) (fun p43 => (hMK p43.2 x1 (x2 + 1))))))) (ksc_bind (kS_X7_endList N p19.2 a9) (fun p24 => (hMK p24.2 x1 (x2 + 1)))))))) ksc_none) (ksc_bind (kS_X7_bodyTurn N E1 E2 hm1 hm2 p12.2 a9) (fun p90 => (hMK p90.2 x1 (x2 + 1))))))) ksc_none)))))) (ksc_some (rfl))))
theorem kS_X7_turns_2 (N : Nat) (E1 : CS → Option (Unit × CS)) (E2 : CS → Option (Int32 × CS)) (hm1 : ∀ σ, Ksc (pSc σ) (E1 σ)) (hm2 : ∀ σ, Ksc (pSc σ) (E2 σ)) : ∀ (n : Nat) (σ : CS) (x1 : Int32) (x2 : Int32), Ksc (pSc σ) (f_X7_turns_2 N E1 E2 n σ x1 x2)
  | 0, _, _, _ => ksc_none
  | n+1, σ, x1, x2 => kSb_X7_turns_2 N E1 E2 hm1 hm2 (f_X7_turns_2 N E1 E2 n) (fun σ x1 x2 => kS_X7_turns_2 N E1 E2 hm1 hm2 n σ x1 x2) σ x1 x2
theorem kS_X7_turns (N : Nat) (E1 : CS → Option (Unit × CS)) (E2 : CS → Option (Int32 × CS)) (hm1 : ∀ σ, Ksc (pSc σ) (E1 σ)) (hm2 : ∀ σ, Ksc (pSc σ) (E2 σ)) (σ : CS) (x1 : Int32) : Ksc (pSc σ) (f_X7_turns N E1 E2 σ x1) := by
  unfold f_X7_turns
  exact (kS_X7_turns_2 N E1 E2 hm1 hm2 N σ x1 0)
theorem kS_X7_armBlock (N : Nat) (E1 : CS → Option (Unit × CS)) (E2 : CS → Option (Int32 × CS)) (hm1 : ∀ σ, Ksc (pSc σ) (E1 σ)) (hm2 : ∀ σ, Ksc (pSc σ) (E2 σ)) (σ : CS) (x1 : Int32) : Ksc (pSc σ) (f_X7_armBlock N E1 E2 σ x1) := by
  unfold f_X7_armBlock
  exact (ksc_bind (kS_X1_open N σ 123) (fun p1 => (ksc_bind (kS_X6_push N p1.2 302 (p1.2.i 38) (p1.2.i 50)) (fun p5 => (ksc_oc ksc_none (fun a10 => (ksc_ite (ksc_bind (kS_X7_turns N E1 E2 hm1 hm2 (CS.setI (CS.setI (CS.setO (CS.setO p5.2 a10 9 x1) a10 16 (p5.2.i 56)) 56 (σ.i 53)) 36 1) (σ.i 53)) (fun p12 => (ksc_ite (ksc_ite (ksc_some (rfl)) ksc_none) ksc_none))) ksc_none)))))))
theorem kS_X1_arm_153 (N : Nat) (E1 : CS → Option (Unit × CS)) (E2 : CS → Option (Int32 × CS)) (hm1 : ∀ σ, Ksc (pSc σ) (E1 σ)) (hm2 : ∀ σ, Ksc (pSc σ) (E2 σ)) (σ : CS) (x5 : Int32) : Ksc (pSc σ) (f_X1_arm_153 N E1 E2 σ x5) := by
  unfold f_X1_arm_153
  exact (ksc_some (rfl))
theorem kS_X1_arm_100 (N : Nat) (E1 : CS → Option (Unit × CS)) (E2 : CS → Option (Int32 × CS)) (hm1 : ∀ σ, Ksc (pSc σ) (E1 σ)) (hm2 : ∀ σ, Ksc (pSc σ) (E2 σ)) (σ : CS) (x3 : Int32) (x4 : Int32) (x5 : Int32) : Ksc (pSc σ) (f_X1_arm_100 N E1 E2 σ x3 x4 x5) := by
  unfold f_X1_arm_100
  exact (ksc_bind (kS_X1_expect N σ 134) (fun p19 => (ksc_bind (kS_X0_aim N p19.2 x4) (fun p23 => (ksc_bind (kS_X1_found N p23.2 123) (fun p27 => (ksc_ite (ksc_bind (kS_X1_expression N E1 E2 hm1 hm2 p27.2) (fun p32 => (ksc_bind (kS_X1_expect N p32.2 59) (fun p36 => (ksc_bind (kS_X0_add N p36.2 30 x3) (fun p40 => (kS_X1_arm_153 N E1 E2 hm1 hm2 p40.2 x5))))))) (ksc_bind (kS_X7_armBlock N E1 E2 hm1 hm2 p27.2 x3) (fun p44 => (kS_X1_arm_153 N E1 E2 hm1 hm2 p44.2 x5))))))))))
theorem kSb_X1_arm_70 (N : Nat) (E1 : CS → Option (Unit × CS)) (E2 : CS → Option (Int32 × CS)) (hm1 : ∀ σ, Ksc (pSc σ) (E1 σ)) (hm2 : ∀ σ, Ksc (pSc σ) (E2 σ)) (K : CS → Int32 → Int32 → Int32 → Int32 → Int32 → Option (Int32 × CS)) (hMK : ∀ (σ : CS) (x1 : Int32) (x3 : Int32) (x4 : Int32) (x5 : Int32) (x6 : Int32), Ksc (pSc σ) (K σ x1 x3 x4 x5 x6)) (σ : CS) (x1 : Int32) (x3 : Int32) (x4 : Int32) (x5 : Int32) (x6 : Int32) : Ksc (pSc σ) (b_X1_arm_70 N E1 E2 K σ x1 x3 x4 x5 x6) := by
  unfold b_X1_arm_70
  exact (ksc_ite (kS_X1_arm_100 N E1 E2 hm1 hm2 σ x3 x4 x5) (ksc_bind (kS_X1_skip N σ 44) (fun p48 => (ksc_ite (kS_X1_arm_100 N E1 E2 hm1 hm2 p48.2 x3 x4 x5) (ksc_bind (kS_X1_caseNumber N p48.2 x1 x4) (fun p53 => (hMK p53.2 x1 x3 x4 x5 (x6 + 1))))))))
theorem kS_X1_arm_70 (N : Nat) (E1 : CS → Option (Unit × CS)) (E2 : CS → Option (Int32 × CS)) (hm1 : ∀ σ, Ksc (pSc σ) (E1 σ)) (hm2 : ∀ σ, Ksc (pSc σ) (E2 σ)) : ∀ (n : Nat) (σ : CS) (x1 : Int32) (x3 : Int32) (x4 : Int32) (x5 : Int32) (x6 : Int32), Ksc (pSc σ) (f_X1_arm_70 N E1 E2 n σ x1 x3 x4 x5 x6)
  | 0, _, _, _, _, _, _ => ksc_none
  | n+1, σ, x1, x3, x4, x5, x6 => kSb_X1_arm_70 N E1 E2 hm1 hm2 (f_X1_arm_70 N E1 E2 n) (fun σ x1 x3 x4 x5 x6 => kS_X1_arm_70 N E1 E2 hm1 hm2 n σ x1 x3 x4 x5 x6) σ x1 x3 x4 x5 x6
theorem kS_X1_arm_39 (N : Nat) (E1 : CS → Option (Unit × CS)) (E2 : CS → Option (Int32 × CS)) (hm1 : ∀ σ, Ksc (pSc σ) (E1 σ)) (hm2 : ∀ σ, Ksc (pSc σ) (E2 σ)) (σ : CS) (x3 : Int32) (x4 : Int32) : Ksc (pSc σ) (f_X1_arm_39 N E1 E2 σ x3 x4) := by
  unfold f_X1_arm_39
  exact (ksc_bind (kS_X9_advance N σ) (fun p58 => (kS_X1_arm_100 N E1 E2 hm1 hm2 p58.2 x3 x4 x4)))
theorem kS_X1_arm (N : Nat) (E1 : CS → Option (Unit × CS)) (E2 : CS → Option (Int32 × CS)) (hm1 : ∀ σ, Ksc (pSc σ) (E1 σ)) (hm2 : ∀ σ, Ksc (pSc σ) (E2 σ)) (σ : CS) (x1 : Int32) (x2 : Int32) (x3 : Int32) : Ksc (pSc σ) (f_X1_arm N E1 E2 σ x1 x2 x3) := by
  unfold f_X1_arm
  exact (ksc_bind (kS_X0_newTarget N σ) (fun p1 => (ksc_bind (kS_X1_found N p1.2 220) (fun p5 => (ksc_ite (ksc_bind (kS_X9_advance N p5.2) (fun p10 => (ksc_bind (kS_X1_caseNumber N p10.2 x1 p1.1) (fun p14 => (kS_X1_arm_70 N E1 E2 hm1 hm2 N p14.2 x1 x3 p1.1 x2 0))))) (ksc_ite (kS_X1_arm_39 N E1 E2 hm1 hm2 p5.2 x3 p1.1) (ksc_bind (kS_X1_fail N p5.2 4 (p5.2.i 44)) (fun p62 => (kS_X1_arm_39 N E1 E2 hm1 hm2 p62.2 x3 p1.1)))))))))
theorem kS_X1_choice_122 (N : Nat) (E1 : CS → Option (Unit × CS)) (E2 : CS → Option (Int32 × CS)) (hm1 : ∀ σ, Ksc (pSc σ) (E1 σ)) (hm2 : ∀ σ, Ksc (pSc σ) (E2 σ)) (σ : CS) (x1 : Int32) (x2 : Int32) (x3 : Int32) (x4 : Int32) : Ksc (pSc σ) (f_X1_choice_122 N E1 E2 σ x1 x2 x3 x4) := by
  unfold f_X1_choice_122
  exact (ksc_bind (kS_X1_close N σ 125) (fun p35 => (ksc_bind (kS_X0_aim N p35.2 x1) (fun p39 => (ksc_bind (kS_X0_addCases N p39.2 x3 x4) (fun p43 => (ksc_bind (kS_X0_aim N p43.2 x2) (fun p47 => (ksc_some (rfl))))))))))
theorem kS_X1_choice_113 (N : Nat) (E1 : CS → Option (Unit × CS)) (E2 : CS → Option (Int32 × CS)) (hm1 : ∀ σ, Ksc (pSc σ) (E1 σ)) (hm2 : ∀ σ, Ksc (pSc σ) (E2 σ)) (σ : CS) (x1 : Int32) (x2 : Int32) (x3 : Int32) (x4 : Int32) : Ksc (pSc σ) (f_X1_choice_113 N E1 E2 σ x1 x2 x3 x4) := by
  unfold f_X1_choice_113
  exact (ksc_ite (kS_X1_choice_122 N E1 E2 hm1 hm2 σ x1 x2 x3 x4) (ksc_bind (kS_X1_misplaced N σ) (fun p51 => (kS_X1_choice_122 N E1 E2 hm1 hm2 p51.2 x1 x2 x3 x4))))
theorem kSb_X1_choice_69 (N : Nat) (E1 : CS → Option (Unit × CS)) (E2 : CS → Option (Int32 × CS)) (hm1 : ∀ σ, Ksc (pSc σ) (E1 σ)) (hm2 : ∀ σ, Ksc (pSc σ) (E2 σ)) (K : CS → Int32 → Int32 → Int32 → Int32 → Int32 → Option (Unit × CS)) (hMK : ∀ (σ : CS) (x1 : Int32) (x2 : Int32) (x3 : Int32) (x4 : Int32) (x5 : Int32), Ksc (pSc σ) (K σ x1 x2 x3 x4 x5)) (σ : CS) (x1 : Int32) (x2 : Int32) (x3 : Int32) (x4 : Int32) (x5 : Int32) : Ksc (pSc σ) (b_X1_choice_69 N E1 E2 K σ x1 x2 x3 x4 x5) := by
  unfold b_X1_choice_69
  exact (ksc_ite (kS_X1_choice_113 N E1 E2 hm1 hm2 σ x1 x2 x3 x4) (ksc_bind (kS_X1_found N σ 219) (fun p55 => (ksc_ite (ksc_bind (kS_X1_found N p55.2 220) (fun p64 => (ksc_ite (kS_X1_choice_113 N E1 E2 hm1 hm2 p64.2 x1 x2 x3 x4) (ksc_bind (kS_X1_arm N E1 E2 hm1 hm2 p64.2 x3 x4 x2) (fun p69 => (hMK p69.2 x1 x2 x3 p69.1 (x5 + 1))))))) (ksc_bind (kS_X1_arm N E1 E2 hm1 hm2 p55.2 x3 x4 x2) (fun p60 => (hMK p60.2 x1 x2 x3 p60.1 (x5 + 1))))))))
theorem kS_X1_choice_69 (N : Nat) (E1 : CS → Option (Unit × CS)) (E2 : CS → Option (Int32 × CS)) (hm1 : ∀ σ, Ksc (pSc σ) (E1 σ)) (hm2 : ∀ σ, Ksc (pSc σ) (E2 σ)) : ∀ (n : Nat) (σ : CS) (x1 : Int32) (x2 : Int32) (x3 : Int32) (x4 : Int32) (x5 : Int32), Ksc (pSc σ) (f_X1_choice_69 N E1 E2 n σ x1 x2 x3 x4 x5)
  | 0, _, _, _, _, _, _ => ksc_none
  | n+1, σ, x1, x2, x3, x4, x5 => kSb_X1_choice_69 N E1 E2 hm1 hm2 (f_X1_choice_69 N E1 E2 n) (fun σ x1 x2 x3 x4 x5 => kS_X1_choice_69 N E1 E2 hm1 hm2 n σ x1 x2 x3 x4 x5) σ x1 x2 x3 x4 x5
theorem kS_X1_choice (N : Nat) (E1 : CS → Option (Unit × CS)) (E2 : CS → Option (Int32 × CS)) (hm1 : ∀ σ, Ksc (pSc σ) (E1 σ)) (hm2 : ∀ σ, Ksc (pSc σ) (E2 σ)) (σ : CS) : Ksc (pSc σ) (f_X1_choice N E1 E2 σ) := by
  unfold f_X1_choice
  exact (ksc_bind (kS_X9_advance N σ) (fun p1 => (ksc_bind (kS_X1_open N p1.2 40) (fun p5 => (ksc_bind (kS_X1_expression N E1 E2 hm1 hm2 p5.2) (fun p9 => (ksc_bind (kS_X1_close N p9.2 41) (fun p13 => (ksc_bind (kS_X1_open N p13.2 123) (fun p17 => (ksc_bind (kS_X0_newTarget N p17.2) (fun p21 => (ksc_bind (kS_X0_newTarget N p21.2) (fun p25 => (ksc_bind (kS_X0_add N p25.2 30 p21.1) (fun p29 => (kS_X1_choice_69 N E1 E2 hm1 hm2 N p29.2 p21.1 p25.1 (p25.2.i 22) (-1) 0)))))))))))))))))
theorem kS_X1_factor (N : Nat) (E1 : CS → Option (Unit × CS)) (E2 : CS → Option (Int32 × CS)) (hm1 : ∀ σ, Ksc (pSc σ) (E1 σ)) (hm2 : ∀ σ, Ksc (pSc σ) (E2 σ)) (σ : CS) : Ksc (pSc σ) (f_X1_factor N E1 E2 σ) := by
  unfold f_X1_factor
  exact (ksc_ite (ksc_bind (kS_X0_add N σ 0 (σ.i 45)) (fun p2 => (ksc_bind (kS_X9_advance N p2.2) (fun p6 => (ksc_some (rfl)))))) (ksc_ite (ksc_bind (kS_X1_loadName N σ) (fun p11 => (ksc_some (rfl)))) (ksc_ite (ksc_bind (kS_X1_open N σ 40) (fun p16 => (ksc_bind (kS_X1_expression N E1 E2 hm1 hm2 p16.2) (fun p20 => (ksc_bind (kS_X1_close N p20.2 41) (fun p24 => (ksc_some (rfl)))))))) (ksc_ite (ksc_bind (kS_X1_negated N E1 E2 hm1 hm2 σ) (fun p29 => (ksc_some (rfl)))) (ksc_ite (ksc_bind (kS_X1_choice N E1 E2 hm1 hm2 σ) (fun p34 => (ksc_some (rfl)))) (ksc_bind (kS_X1_misplaced N σ) (fun p38 => (ksc_some (rfl)))))))))
theorem kS_X1_comparing (N : Nat) (σ : CS) (x0 : Int32) : Ksc (pSc σ) (f_X1_comparing N σ x0) := by
  unfold f_X1_comparing
  exact (ksc_ite (ksc_some (rfl)) (ksc_ite (ksc_some (rfl)) (ksc_ite (ksc_some (rfl)) (ksc_ite (ksc_some (rfl)) (ksc_ite (ksc_some (rfl)) (ksc_ite (ksc_some (rfl)) (ksc_some (rfl))))))))
theorem kS_X1_comparison (N : Nat) (E1 : CS → Option (Unit × CS)) (E2 : CS → Option (Int32 × CS)) (hm1 : ∀ σ, Ksc (pSc σ) (E1 σ)) (hm2 : ∀ σ, Ksc (pSc σ) (E2 σ)) (σ : CS) : Ksc (pSc σ) (f_X1_comparison N E1 E2 σ) := by
  unfold f_X1_comparison
  exact (ksc_bind (kS_X1_expression N E1 E2 hm1 hm2 σ) (fun p1 => (ksc_bind (kS_X1_comparing N p1.2 (p1.2.i 43)) (fun p5 => (ksc_ite (ksc_bind (kS_X9_advance N p5.2) (fun p10 => (ksc_bind (kS_X1_expression N E1 E2 hm1 hm2 p10.2) (fun p14 => (ksc_bind (kS_X0_add N p14.2 p5.1 0) (fun p18 => (ksc_some (rfl)))))))) (ksc_bind (kS_X1_misplaced N p5.2) (fun p22 => (ksc_some (rfl)))))))))
theorem kS_X1_one_66 (N : Nat) (E1 : CS → Option (Unit × CS)) (E2 : CS → Option (Int32 × CS)) (hm1 : ∀ σ, Ksc (pSc σ) (E1 σ)) (hm2 : ∀ σ, Ksc (pSc σ) (E2 σ)) (σ : CS) : Ksc (pSc σ) (f_X1_one_66 N E1 E2 σ ) := by
  unfold f_X1_one_66
  exact (ksc_bind (kS_X0_add N (CS.setI σ 34 ((σ.i 34) - 1)) 5 0) (fun p7 => (ksc_some (rfl))))
theorem kS_X1_one (N : Nat) (E1 : CS → Option (Unit × CS)) (E2 : CS → Option (Int32 × CS)) (hm1 : ∀ σ, Ksc (pSc σ) (E1 σ)) (hm2 : ∀ σ, Ksc (pSc σ) (E2 σ)) (σ : CS) : Ksc (pSc σ) (f_X1_one N E1 E2 σ) := by
  unfold f_X1_one
  exact (ksc_ite (ksc_bind (kS_X1_open N σ 33) (fun p2 => (ksc_ite (ksc_bind (hm2 p2.2) (fun p11 => (kS_X1_one_66 N E1 E2 hm1 hm2 p11.2))) (kS_X1_one_66 N E1 E2 hm1 hm2 p2.2)))) (ksc_ite (ksc_bind (kS_X1_open N σ 91) (fun p16 => (ksc_bind (kS_X1_condition N E1 E2 hm1 hm2 p16.2) (fun p20 => (ksc_bind (kS_X1_close N p20.2 93) (fun p24 => (ksc_some (rfl)))))))) (ksc_ite (ksc_bind (kS_X0_add N σ 0 1) (fun p29 => (ksc_bind (kS_X9_advance N p29.2) (fun p33 => (ksc_some (rfl)))))) (ksc_ite (ksc_bind (kS_X0_add N σ 0 0) (fun p38 => (ksc_bind (kS_X9_advance N p38.2) (fun p42 => (ksc_some (rfl)))))) (ksc_bind (kS_X1_comparison N E1 E2 hm1 hm2 σ) (fun p46 => (ksc_some (rfl))))))))
theorem kS_X3_lastThrown (N : Nat) (σ : CS) : Ksc (pSc σ) (f_X3_lastThrown N σ) := by
  unfold f_X3_lastThrown
  exact (ksc_ite (ksc_oc (ksc_some (rfl)) (fun a3 => (ksc_some (rfl)))) (ksc_some (rfl)))
theorem kS_X3_answer (N : Nat) (σ : CS) (x1 : Int32) : Ksc (pSc σ) (f_X3_answer N σ x1) := by
  unfold f_X3_answer
  exact (ksc_bind (kS_X3_lastThrown N σ) (fun p1 => (ksc_oc (ksc_ite (ksc_some (rfl)) (ksc_ite (ksc_some (rfl)) (ksc_ite (ksc_ite (ksc_some (rfl)) (ksc_some (rfl))) (ksc_ite (ksc_some (rfl)) (ksc_ite (ksc_some (rfl)) (ksc_ite (ksc_some (rfl)) (ksc_some (rfl)))))))) (fun a6 => (ksc_ite (ksc_some (rfl)) (ksc_ite (ksc_some (rfl)) (ksc_ite (ksc_ite (ksc_some (rfl)) (ksc_some (rfl))) (ksc_ite (ksc_ite (ksc_some (rfl)) ksc_none) (ksc_ite (ksc_ite (ksc_some (rfl)) ksc_none) (ksc_ite (ksc_ite (ksc_some (rfl)) ksc_none) (ksc_some (rfl))))))))))))
theorem kS_X6_clear (N : Nat) (σ : CS) : Ksc (pSc σ) (f_X6_clear N σ) := by
  unfold f_X6_clear
  exact (ksc_some (rfl))
theorem kS_X9_start (N : Nat) (σ : CS) (x1 : Int32) : Ksc (pSc σ) (f_X9_start N σ x1) := by
  unfold f_X9_start
  exact (ksc_bind (kS_X9_advance N (CS.setI (CS.setI σ 41 x1) 42 0)) (fun p1 => (ksc_some (rfl))))
theorem kS_X7_translate_139 (N : Nat) (E1 : CS → Option (Unit × CS)) (E2 : CS → Option (Int32 × CS)) (hm1 : ∀ σ, Ksc (pSc σ) (E1 σ)) (hm2 : ∀ σ, Ksc (pSc σ) (E2 σ)) (σ : CS) : Ksc (pSc σ) (f_X7_translate_139 N E1 E2 σ ) := by
  unfold f_X7_translate_139
  exact (ksc_some (rfl))
theorem kS_X7_translate (N : Nat) (E1 : CS → Option (Unit × CS)) (E2 : CS → Option (Int32 × CS)) (hm1 : ∀ σ, Ksc (pSc σ) (E1 σ)) (hm2 : ∀ σ, Ksc (pSc σ) (E2 σ)) (σ : CS) (x1 : Int32) : Ksc (pSc σ) (f_X7_translate N E1 E2 σ x1) := by
  unfold f_X7_translate
  exact (ksc_bind (kS_X0_clear N σ) (fun p1 => (ksc_bind (kS_X0_newCells N (CS.setI p1.2 50 0) 1) (fun p5 => (ksc_bind (kS_X4_add N p5.2 97 p5.1 (-1)) (fun p9 => (ksc_bind (kS_X0_newCells N p9.2 1) (fun p13 => (ksc_bind (kS_X4_add N p13.2 98 p13.1 (-1)) (fun p17 => (ksc_bind (kS_X6_clear N p17.2) (fun p21 => (ksc_bind (kS_X9_start N (CS.setI (CS.setI (CS.setI (CS.setI (CS.setI (CS.setI p21.2 32 0) 33 0) 34 0) 36 1) 37 (-1)) 38 0) x1) (fun p25 => (ksc_bind (kS_X6_push N p25.2 300 0 (p25.2.i 50)) (fun p29 => (ksc_oc (ksc_bind (kS_X7_turns N E1 E2 hm1 hm2 p29.2 0) (fun p35 => (ksc_ite (kS_X7_translate_139 N E1 E2 hm1 hm2 p35.2) (ksc_bind (kS_X1_fail N p35.2 7 (p35.2.i 37)) (fun p40 => (kS_X7_translate_139 N E1 E2 hm1 hm2 p40.2)))))) (fun a34 => (ksc_bind (kS_X7_turns N E1 E2 hm1 hm2 p29.2 0) (fun p44 => (ksc_ite (kS_X7_translate_139 N E1 E2 hm1 hm2 p44.2) (ksc_bind (kS_X1_fail N p44.2 7 (p44.2.i 37)) (fun p49 => (kS_X7_translate_139 N E1 E2 hm1 hm2 p49.2))))))))))))))))))))))))
theorem kS_X10_isFull (N : Nat) (σ : CS) : Ksc (pSc σ) (f_X10_isFull N σ) := by
  unfold f_X10_isFull
  exact (ksc_ite (ksc_some (rfl)) (ksc_some (rfl)))
theorem kS_X10_addKind (N : Nat) (σ : CS) (x1 : Int32) : Ksc (pSc σ) (f_X10_addKind N σ x1) := by
  unfold f_X10_addKind
  exact (ksc_some (rfl))
theorem kSb_X11_addBytes_3 (N : Nat) (K : CS → Int32 → Int32 → Option (Unit × CS)) (hMK : ∀ (σ : CS) (x1 : Int32) (x2 : Int32), Ksc (pSc σ) (K σ x1 x2)) (σ : CS) (x1 : Int32) (x2 : Int32) : Ksc (pSc σ) (b_X11_addBytes_3 N K σ x1 x2) := by
  unfold b_X11_addBytes_3
  exact (ksc_ite (ksc_some (rfl)) (hMK (CS.setI (CS.putA σ 0 (gPut (σ.a 0) 900 (σ.i 5) (((x1 : Int32).toUInt32 >>> ((x2 : Int32).toUInt32 &&& Int32.toUInt32 31)).toInt32 &&& 255))) 5 ((σ.i 5) + 1)) x1 (x2 + (-8))))
theorem kS_X11_addBytes_3 (N : Nat) : ∀ (n : Nat) (σ : CS) (x1 : Int32) (x2 : Int32), Ksc (pSc σ) (f_X11_addBytes_3 N n σ x1 x2)
  | 0, _, _, _ => ksc_none
  | n+1, σ, x1, x2 => kSb_X11_addBytes_3 N (f_X11_addBytes_3 N n) (fun σ x1 x2 => kS_X11_addBytes_3 N n σ x1 x2) σ x1 x2
theorem kS_X11_addBytes (N : Nat) (σ : CS) (x1 : Int32) : Ksc (pSc σ) (f_X11_addBytes N σ x1) := by
  unfold f_X11_addBytes
  exact (kS_X11_addBytes_3 N N σ x1 24)
theorem kS_X11_feed (N : Nat) (σ : CS) (x1 : Int32) (x2 : Int32) (x3 : Int32) (x4 : Int32) (x5 : Int32) : Ksc (pSc σ) (f_X11_feed N σ x1 x2 x3 x4 x5) := by
  unfold f_X11_feed
  exact (ksc_ite (ksc_bind (kS_X11_addBytes N σ x1) (fun p2 => (ksc_bind (kS_X11_addBytes N p2.2 x2) (fun p6 => (ksc_bind (kS_X11_addBytes N p6.2 x3) (fun p10 => (ksc_bind (kS_X11_addBytes N p10.2 x4) (fun p14 => (ksc_bind (kS_X11_addBytes N p14.2 x5) (fun p18 => (ksc_some (rfl)))))))))))) (ksc_some (rfl)))
theorem kS_X11_cut_12 (N : Nat) (σ : CS) : Ksc (pSc σ) (f_X11_cut_12 N σ ) := by
  unfold f_X11_cut_12
  exact (ksc_some (rfl))
theorem kS_X11_cut (N : Nat) (σ : CS) (x1 : Int32) : Ksc (pSc σ) (f_X11_cut N σ x1) := by
  unfold f_X11_cut
  exact (ksc_ite (kS_X11_cut_12 N σ) (ksc_ite (ksc_some (rfl)) (kS_X11_cut_12 N σ)))
theorem kS_X11_kind (N : Nat) (σ : CS) (x1 : Int32) : Ksc (pSc σ) (f_X11_kind N σ x1) := by
  unfold f_X11_kind
  exact (ksc_bind (kS_X10_isKind N σ x1) (fun p1 => (ksc_ite (ksc_some (rfl)) (ksc_bind (kS_X10_isFull N p1.2) (fun p6 => (ksc_ite (ksc_bind (kS_X10_addKind N p6.2 x1) (fun p11 => (ksc_some (rfl)))) (ksc_some (rfl))))))))
theorem kS_X11_asserts_16 (N : Nat) (σ : CS) (x1 : Int32) (x2 : Int32) : Ksc (pSc σ) (f_X11_asserts_16 N σ x1 x2) := by
  unfold f_X11_asserts_16
  exact (ksc_ite (ksc_some (rfl)) ksc_none)
theorem kS_X11_asserts (N : Nat) (σ : CS) (x1 : Int32) : Ksc (pSc σ) (f_X11_asserts N σ x1) := by
  unfold f_X11_asserts
  exact (ksc_ite (kS_X11_asserts_16 N σ x1 0) (kS_X11_asserts_16 N σ x1 1))
theorem kS_X11_fault (N : Nat) (σ : CS) : Ksc (pSc σ) (f_X11_fault N σ) := by
  unfold f_X11_fault
  exact (ksc_some (rfl))
theorem kS_X11_program_9 (N : Nat) (σ : CS) : Ksc (pSc σ) (f_X11_program_9 N σ ) := by
  unfold f_X11_program_9
  exact (ksc_some (rfl))
theorem kS_X11_program (N : Nat) (σ : CS) (x1 : Int32) : Ksc (pSc σ) (f_X11_program N σ x1) := by
  unfold f_X11_program
  exact (ksc_ite (kS_X11_program_9 N σ) (ksc_ite (ksc_ite (ksc_some (rfl)) (ksc_ite (ksc_some (rfl)) (ksc_ite (ksc_ite (ksc_some (rfl)) (ksc_some (rfl))) (ksc_ite (ksc_some (rfl)) (ksc_some (rfl)))))) (kS_X11_program_9 N σ)))
theorem kS_X11_ran_10 (N : Nat) (σ : CS) : Ksc (pSc σ) (f_X11_ran_10 N σ ) := by
  unfold f_X11_ran_10
  exact (ksc_some (rfl))
theorem kS_X11_ran (N : Nat) (σ : CS) (x1 : Int32) : Ksc (pSc σ) (f_X11_ran N σ x1) := by
  unfold f_X11_ran
  exact (ksc_ite (kS_X11_ran_10 N σ) (ksc_ite (ksc_ite (ksc_some (rfl)) (ksc_bind (kS_X3_answer N σ x1) (fun p4 => (ksc_some (rfl))))) (kS_X11_ran_10 N σ)))
theorem kS_X11_trace_31 (N : Nat) (σ : CS) : Ksc (pSc σ) (f_X11_trace_31 N σ ) := by
  unfold f_X11_trace_31
  exact (ksc_some (rfl))
theorem kS_X11_trace (N : Nat) (σ : CS) (x1 : Int32) (x2 : Int32) : Ksc (pSc σ) (f_X11_trace N σ x1 x2) := by
  unfold f_X11_trace
  exact (ksc_ite (kS_X11_trace_31 N σ) (ksc_ite (kS_X11_trace_31 N σ) (ksc_ite (kS_X11_trace_31 N σ) (ksc_ite (kS_X11_trace_31 N σ) (ksc_ite (ksc_some (rfl)) (kS_X11_trace_31 N σ))))))
theorem kS_X11_suppressed_44 (N : Nat) (σ : CS) : Ksc (pSc σ) (f_X11_suppressed_44 N σ ) := by
  unfold f_X11_suppressed_44
  exact (ksc_some (rfl))
theorem kS_X11_suppressed_19 (N : Nat) (σ : CS) (x1 : Int32) (x2 : Int32) (x3 : Option Nat) : Ksc (pSc σ) (f_X11_suppressed_19 N σ x1 x2 x3) := by
  unfold f_X11_suppressed_19
  exact (ksc_oc (kS_X11_suppressed_44 N σ) (fun a3 => (ksc_ite (kS_X11_suppressed_44 N σ) (ksc_ite (ksc_ite (kS_X11_suppressed_44 N σ) (ksc_ite (kS_X11_suppressed_44 N σ) (ksc_ite (ksc_ite (ksc_ite (ksc_some (rfl)) ksc_none) (ksc_ite (ksc_some (rfl)) ksc_none)) (kS_X11_suppressed_44 N σ)))) ksc_none))))
theorem kS_X11_suppressed (N : Nat) (σ : CS) (x1 : Int32) (x2 : Int32) : Ksc (pSc σ) (f_X11_suppressed N σ x1 x2) := by
  unfold f_X11_suppressed
  exact (ksc_ite (kS_X11_suppressed_19 N σ x1 x2 none) (ksc_bind (kS_X3_lastThrown N σ) (fun p16 => (ksc_oc (kS_X11_suppressed_19 N p16.2 x1 x2 none) (fun a21 => (kS_X11_suppressed_19 N p16.2 x1 x2 (some a21)))))))
theorem kS_X11_under_22 (N : Nat) (σ : CS) : Ksc (pSc σ) (f_X11_under_22 N σ ) := by
  unfold f_X11_under_22
  exact (ksc_some (rfl))
theorem kS_X11_under (N : Nat) (σ : CS) (x1 : Int32) (x2 : Int32) : Ksc (pSc σ) (f_X11_under N σ x1 x2) := by
  unfold f_X11_under
  exact (ksc_bind (kS_X10_isKind N σ x1) (fun p1 => (ksc_ite (kS_X11_under_22 N p1.2) (ksc_bind (kS_X10_isKind N p1.2 x2) (fun p6 => (ksc_ite (kS_X11_under_22 N p6.2) (ksc_bind (kS_X10_isUnder N p6.2 x1 x2) (fun p11 => (ksc_ite (ksc_some (rfl)) (ksc_some (rfl)))))))))))
theorem kSEE (N : Nat) : ∀ d : Nat, (∀ σ, Ksc (pSc σ) ((fEE N d).1 σ)) ∧ (∀ σ, Ksc (pSc σ) ((fEE N d).2 σ))
  | 0 => ⟨fun _ => ksc_none, fun _ => ksc_none⟩
  | d+1 => ⟨fun σ => kS_X1_factor N _ _ (kSEE N d).1 (kSEE N d).2 σ, fun σ => kS_X1_one N _ _ (kSEE N d).1 (kSEE N d).2 σ⟩
abbrev NLT : Type := (Nat → Int32) × (Nat → Int32) × (Nat → Int32) × Int32 × Int32 × Int32 × Int32 × Int32 × Int32 × Int32 × (Nat → Int32) × Option Nat × (Nat → Nat → Int32) × (Nat → Nat → Int32)
def pNl (s : CS) : NLT := (CS.a s 15, CS.a s 16, CS.a s 17, CS.i s 23, CS.i s 8, CS.i s 69, CS.i s 70, CS.i s 71, CS.i s 72, CS.i s 74, CS.a s 64, CS.w s, CS.o s, CS.oa s)
def Knl {α : Type} (v : NLT) (t : Option (α × CS)) : Prop := ∀ R, t = some R → pNl R.2 = v
theorem knl_some {α : Type} {v : NLT} {r : α × CS} (h : pNl r.2 = v) : Knl v (some r) := fun R q => by
  cases q
  exact h
theorem knl_none {α : Type} {v : NLT} : Knl v (none : Option (α × CS)) := fun R q => by cases q
theorem knl_ite {α : Type} {v : NLT} {c : Prop} [Decidable c] {x y : Option (α × CS)} (hx : Knl v x) (hy : Knl v y) : Knl v (if c then x else y) := by
  by_cases h : c
  · rw [if_pos h]; exact hx
  · rw [if_neg h]; exact hy
theorem knl_bind {α β : Type} {v : NLT} {x : Option (α × CS)} {g : α × CS → Option (β × CS)} (hx : Knl v x) (hk : ∀ p : α × CS, Knl (pNl p.2) (g p)) : Knl v (x.bind g) := by
  intro R h
  obtain ⟨p, h1, h2⟩ := hf_bind h
  exact (hk p R h2).trans (hx p h1)
theorem knl_oc {α β : Type} {v : NLT} {r : Option α} {x : Option (β × CS)} {g : α → Option (β × CS)} (hx : Knl v x) (hf : ∀ a, Knl v (g a)) : Knl v (oCase r x g) := by
  cases r with
  | none => exact hx
  | some a => exact hf a
theorem knl_le {α : Type} {v w : NLT} {t : Option (α × CS)} (h : v = w) (ht : Knl v t) : Knl w t := by rw [← h]; exact ht
theorem kN_X10_isKind_16 (N : Nat) (σ : CS) : Knl (pNl σ) (f_X10_isKind_16 N σ ) := by
  unfold f_X10_isKind_16
  exact (knl_some (rfl))
theorem kN_X10_isKind (N : Nat) (σ : CS) (x1 : Int32) : Knl (pNl σ) (f_X10_isKind N σ x1) := by
  unfold f_X10_isKind
  exact (knl_ite (kN_X10_isKind_16 N σ) (knl_ite (kN_X10_isKind_16 N σ) (knl_some (rfl))))
theorem kN_X10_isUnder_38 (N : Nat) (σ : CS) : Knl (pNl σ) (f_X10_isUnder_38 N σ ) := by
  unfold f_X10_isUnder_38
  exact (knl_some (rfl))
theorem kNb_X10_isUnder_5 (N : Nat) (K : CS → Int32 → Int32 → Int32 → Option (Int32 × CS)) (hMK : ∀ (σ : CS) (x2 : Int32) (x3 : Int32) (x4 : Int32), Knl (pNl σ) (K σ x2 x3 x4)) (σ : CS) (x2 : Int32) (x3 : Int32) (x4 : Int32) : Knl (pNl σ) (b_X10_isUnder_5 N K σ x2 x3 x4) := by
  unfold b_X10_isUnder_5
  exact (knl_ite (kN_X10_isUnder_38 N σ) (knl_ite (kN_X10_isUnder_38 N σ) (knl_ite (knl_some (rfl)) (hMK σ x2 (gAt (σ.a 9) 12 x3) (x4 + 1)))))
theorem kN_X10_isUnder_5 (N : Nat) : ∀ (n : Nat) (σ : CS) (x2 : Int32) (x3 : Int32) (x4 : Int32), Knl (pNl σ) (f_X10_isUnder_5 N n σ x2 x3 x4)
  | 0, _, _, _, _ => knl_none
  | n+1, σ, x2, x3, x4 => kNb_X10_isUnder_5 N (f_X10_isUnder_5 N n) (fun σ x2 x3 x4 => kN_X10_isUnder_5 N n σ x2 x3 x4) σ x2 x3 x4
theorem kN_X10_isUnder (N : Nat) (σ : CS) (x1 : Int32) (x2 : Int32) : Knl (pNl σ) (f_X10_isUnder N σ x1 x2) := by
  unfold f_X10_isUnder
  exact (kN_X10_isUnder_5 N N σ x2 x1 0)
theorem kN_X3_lastThrown (N : Nat) (σ : CS) : Knl (pNl σ) (f_X3_lastThrown N σ) := by
  unfold f_X3_lastThrown
  exact (knl_ite (knl_oc (knl_some (rfl)) (fun a3 => (knl_some (rfl)))) (knl_some (rfl)))
theorem kN_X3_answer (N : Nat) (σ : CS) (x1 : Int32) : Knl (pNl σ) (f_X3_answer N σ x1) := by
  unfold f_X3_answer
  exact (knl_bind (kN_X3_lastThrown N σ) (fun p1 => (knl_oc (knl_ite (knl_some (rfl)) (knl_ite (knl_some (rfl)) (knl_ite (knl_ite (knl_some (rfl)) (knl_some (rfl))) (knl_ite (knl_some (rfl)) (knl_ite (knl_some (rfl)) (knl_ite (knl_some (rfl)) (knl_some (rfl)))))))) (fun a6 => (knl_ite (knl_some (rfl)) (knl_ite (knl_some (rfl)) (knl_ite (knl_ite (knl_some (rfl)) (knl_some (rfl))) (knl_ite (knl_ite (knl_some (rfl)) knl_none) (knl_ite (knl_ite (knl_some (rfl)) knl_none) (knl_ite (knl_ite (knl_some (rfl)) knl_none) (knl_some (rfl))))))))))))
theorem kN_X10_isFull (N : Nat) (σ : CS) : Knl (pNl σ) (f_X10_isFull N σ) := by
  unfold f_X10_isFull
  exact (knl_ite (knl_some (rfl)) (knl_some (rfl)))
theorem kN_X10_addKind (N : Nat) (σ : CS) (x1 : Int32) : Knl (pNl σ) (f_X10_addKind N σ x1) := by
  unfold f_X10_addKind
  exact (knl_some (rfl))
theorem kN_X10_tellResource (N : Nat) (σ : CS) (x1 : Int32) (x2 : Int32) (x3 : Int32) (x4 : Int32) : Knl (pNl σ) (f_X10_tellResource N σ x1 x2 x3 x4) := by
  unfold f_X10_tellResource
  exact (knl_some (rfl))
theorem kNb_X11_addBytes_3 (N : Nat) (K : CS → Int32 → Int32 → Option (Unit × CS)) (hMK : ∀ (σ : CS) (x1 : Int32) (x2 : Int32), Knl (pNl σ) (K σ x1 x2)) (σ : CS) (x1 : Int32) (x2 : Int32) : Knl (pNl σ) (b_X11_addBytes_3 N K σ x1 x2) := by
  unfold b_X11_addBytes_3
  exact (knl_ite (knl_some (rfl)) (hMK (CS.setI (CS.putA σ 0 (gPut (σ.a 0) 900 (σ.i 5) (((x1 : Int32).toUInt32 >>> ((x2 : Int32).toUInt32 &&& Int32.toUInt32 31)).toInt32 &&& 255))) 5 ((σ.i 5) + 1)) x1 (x2 + (-8))))
theorem kN_X11_addBytes_3 (N : Nat) : ∀ (n : Nat) (σ : CS) (x1 : Int32) (x2 : Int32), Knl (pNl σ) (f_X11_addBytes_3 N n σ x1 x2)
  | 0, _, _, _ => knl_none
  | n+1, σ, x1, x2 => kNb_X11_addBytes_3 N (f_X11_addBytes_3 N n) (fun σ x1 x2 => kN_X11_addBytes_3 N n σ x1 x2) σ x1 x2
theorem kN_X11_addBytes (N : Nat) (σ : CS) (x1 : Int32) : Knl (pNl σ) (f_X11_addBytes N σ x1) := by
  unfold f_X11_addBytes
  exact (kN_X11_addBytes_3 N N σ x1 24)
theorem kN_X11_feed (N : Nat) (σ : CS) (x1 : Int32) (x2 : Int32) (x3 : Int32) (x4 : Int32) (x5 : Int32) : Knl (pNl σ) (f_X11_feed N σ x1 x2 x3 x4 x5) := by
  unfold f_X11_feed
  exact (knl_ite (knl_bind (kN_X11_addBytes N σ x1) (fun p2 => (knl_bind (kN_X11_addBytes N p2.2 x2) (fun p6 => (knl_bind (kN_X11_addBytes N p6.2 x3) (fun p10 => (knl_bind (kN_X11_addBytes N p10.2 x4) (fun p14 => (knl_bind (kN_X11_addBytes N p14.2 x5) (fun p18 => (knl_some (rfl)))))))))))) (knl_some (rfl)))
theorem kN_X11_cut_12 (N : Nat) (σ : CS) : Knl (pNl σ) (f_X11_cut_12 N σ ) := by
  unfold f_X11_cut_12
  exact (knl_some (rfl))
theorem kN_X11_cut (N : Nat) (σ : CS) (x1 : Int32) : Knl (pNl σ) (f_X11_cut N σ x1) := by
  unfold f_X11_cut
  exact (knl_ite (kN_X11_cut_12 N σ) (knl_ite (knl_some (rfl)) (kN_X11_cut_12 N σ)))
theorem kN_X11_kind (N : Nat) (σ : CS) (x1 : Int32) : Knl (pNl σ) (f_X11_kind N σ x1) := by
  unfold f_X11_kind
  exact (knl_bind (kN_X10_isKind N σ x1) (fun p1 => (knl_ite (knl_some (rfl)) (knl_bind (kN_X10_isFull N p1.2) (fun p6 => (knl_ite (knl_bind (kN_X10_addKind N p6.2 x1) (fun p11 => (knl_some (rfl)))) (knl_some (rfl))))))))
theorem kN_X11_isKindOrNothing_16 (N : Nat) (σ : CS) : Knl (pNl σ) (f_X11_isKindOrNothing_16 N σ ) := by
  unfold f_X11_isKindOrNothing_16
  exact (knl_some (rfl))
theorem kN_X11_isKindOrNothing (N : Nat) (σ : CS) (x1 : Int32) : Knl (pNl σ) (f_X11_isKindOrNothing N σ x1) := by
  unfold f_X11_isKindOrNothing
  exact (knl_ite (kN_X11_isKindOrNothing_16 N σ) (knl_bind (kN_X10_isKind N σ x1) (fun p2 => (knl_ite (knl_some (rfl)) (kN_X11_isKindOrNothing_16 N p2.2)))))
theorem kN_X11_resource_19 (N : Nat) (σ : CS) : Knl (pNl σ) (f_X11_resource_19 N σ ) := by
  unfold f_X11_resource_19
  exact (knl_some (rfl))
theorem kN_X11_resource_38 (N : Nat) (σ : CS) : Knl (pNl σ) (f_X11_resource_38 N σ ) := by
  unfold f_X11_resource_38
  exact (knl_some (rfl))
theorem kN_X11_resource (N : Nat) (σ : CS) (x1 : Int32) (x2 : Int32) (x3 : Int32) (x4 : Int32) : Knl (pNl σ) (f_X11_resource N σ x1 x2 x3 x4) := by
  unfold f_X11_resource
  exact (knl_ite (kN_X11_resource_19 N σ) (knl_ite (kN_X11_resource_19 N σ) (knl_ite (kN_X11_resource_19 N σ) (knl_ite (knl_bind (kN_X11_isKindOrNothing N σ x3) (fun p5 => (knl_ite (kN_X11_resource_38 N p5.2) (knl_bind (kN_X11_isKindOrNothing N p5.2 x4) (fun p10 => (knl_ite (kN_X11_resource_38 N p10.2) (knl_bind (kN_X10_tellResource N p10.2 x1 x2 x3 x4) (fun p15 => (knl_some (rfl)))))))))) (kN_X11_resource_19 N σ)))))
theorem kN_X11_asserts_16 (N : Nat) (σ : CS) (x1 : Int32) (x2 : Int32) : Knl (pNl σ) (f_X11_asserts_16 N σ x1 x2) := by
  unfold f_X11_asserts_16
  exact (knl_ite (knl_some (rfl)) knl_none)
theorem kN_X11_asserts (N : Nat) (σ : CS) (x1 : Int32) : Knl (pNl σ) (f_X11_asserts N σ x1) := by
  unfold f_X11_asserts
  exact (knl_ite (kN_X11_asserts_16 N σ x1 0) (kN_X11_asserts_16 N σ x1 1))
theorem kN_X11_fault (N : Nat) (σ : CS) : Knl (pNl σ) (f_X11_fault N σ) := by
  unfold f_X11_fault
  exact (knl_some (rfl))
theorem kN_X11_program_9 (N : Nat) (σ : CS) : Knl (pNl σ) (f_X11_program_9 N σ ) := by
  unfold f_X11_program_9
  exact (knl_some (rfl))
theorem kN_X11_program (N : Nat) (σ : CS) (x1 : Int32) : Knl (pNl σ) (f_X11_program N σ x1) := by
  unfold f_X11_program
  exact (knl_ite (kN_X11_program_9 N σ) (knl_ite (knl_ite (knl_some (rfl)) (knl_ite (knl_some (rfl)) (knl_ite (knl_ite (knl_some (rfl)) (knl_some (rfl))) (knl_ite (knl_some (rfl)) (knl_some (rfl)))))) (kN_X11_program_9 N σ)))
theorem kN_X11_ran_10 (N : Nat) (σ : CS) : Knl (pNl σ) (f_X11_ran_10 N σ ) := by
  unfold f_X11_ran_10
  exact (knl_some (rfl))
theorem kN_X11_ran (N : Nat) (σ : CS) (x1 : Int32) : Knl (pNl σ) (f_X11_ran N σ x1) := by
  unfold f_X11_ran
  exact (knl_ite (kN_X11_ran_10 N σ) (knl_ite (knl_ite (knl_some (rfl)) (knl_bind (kN_X3_answer N σ x1) (fun p4 => (knl_some (rfl))))) (kN_X11_ran_10 N σ)))
theorem kN_X11_trace_31 (N : Nat) (σ : CS) : Knl (pNl σ) (f_X11_trace_31 N σ ) := by
  unfold f_X11_trace_31
  exact (knl_some (rfl))
theorem kN_X11_trace (N : Nat) (σ : CS) (x1 : Int32) (x2 : Int32) : Knl (pNl σ) (f_X11_trace N σ x1 x2) := by
  unfold f_X11_trace
  exact (knl_ite (kN_X11_trace_31 N σ) (knl_ite (kN_X11_trace_31 N σ) (knl_ite (kN_X11_trace_31 N σ) (knl_ite (kN_X11_trace_31 N σ) (knl_ite (knl_some (rfl)) (kN_X11_trace_31 N σ))))))
theorem kN_X11_suppressed_44 (N : Nat) (σ : CS) : Knl (pNl σ) (f_X11_suppressed_44 N σ ) := by
  unfold f_X11_suppressed_44
  exact (knl_some (rfl))
theorem kN_X11_suppressed_19 (N : Nat) (σ : CS) (x1 : Int32) (x2 : Int32) (x3 : Option Nat) : Knl (pNl σ) (f_X11_suppressed_19 N σ x1 x2 x3) := by
  unfold f_X11_suppressed_19
  exact (knl_oc (kN_X11_suppressed_44 N σ) (fun a3 => (knl_ite (kN_X11_suppressed_44 N σ) (knl_ite (knl_ite (kN_X11_suppressed_44 N σ) (knl_ite (kN_X11_suppressed_44 N σ) (knl_ite (knl_ite (knl_ite (knl_some (rfl)) knl_none) (knl_ite (knl_some (rfl)) knl_none)) (kN_X11_suppressed_44 N σ)))) knl_none))))
theorem kN_X11_suppressed (N : Nat) (σ : CS) (x1 : Int32) (x2 : Int32) : Knl (pNl σ) (f_X11_suppressed N σ x1 x2) := by
  unfold f_X11_suppressed
  exact (knl_ite (kN_X11_suppressed_19 N σ x1 x2 none) (knl_bind (kN_X3_lastThrown N σ) (fun p16 => (knl_oc (kN_X11_suppressed_19 N p16.2 x1 x2 none) (fun a21 => (kN_X11_suppressed_19 N p16.2 x1 x2 (some a21)))))))
theorem kN_X11_under_22 (N : Nat) (σ : CS) : Knl (pNl σ) (f_X11_under_22 N σ ) := by
  unfold f_X11_under_22
  exact (knl_some (rfl))
theorem kN_X11_under (N : Nat) (σ : CS) (x1 : Int32) (x2 : Int32) : Knl (pNl σ) (f_X11_under N σ x1 x2) := by
  unfold f_X11_under
  exact (knl_bind (kN_X10_isKind N σ x1) (fun p1 => (knl_ite (kN_X11_under_22 N p1.2) (knl_bind (kN_X10_isKind N p1.2 x2) (fun p6 => (knl_ite (kN_X11_under_22 N p6.2) (knl_bind (kN_X10_isUnder N p6.2 x1 x2) (fun p11 => (knl_ite (knl_some (rfl)) (knl_some (rfl)))))))))))
abbrev RST : Type := (Nat → Int32) × (Nat → Int32) × (Nat → Int32) × Int32
def pRs (s : RS) : RST := (s.a 5, s.a 6, s.a 7, s.i 79)
def KSs6 (s r : RS) : Prop := pRs r = pRs s
theorem KSs6.tr {s r u : RS} (h : KSs6 s r) (g : KSs6 r u) : KSs6 s u := Eq.trans g h
def KRs6 {α : Type} (s : RS) (t : Option (α × RS)) : Prop := ∀ R, t = some R → KSs6 s R.2
def KVs6 (s : RS) (t : Option RS) : Prop := ∀ R, t = some R → KSs6 s R
theorem krs6_some {α : Type} {s : RS} {r : α × RS} (h : KSs6 s r.2) : KRs6 s (some r) := fun R q => by
  cases q
  exact h
theorem kvs6_some {s r : RS} (h : KSs6 s r) : KVs6 s (some r) := fun R q => by
  cases q
  exact h
theorem krs6_none {α : Type} {s : RS} : KRs6 s (none : Option (α × RS)) := fun R q => by cases q
theorem kvs6_none {s : RS} : KVs6 s (none : Option RS) := fun R q => by cases q
theorem krs6_ite {α : Type} {s : RS} {c : Prop} [Decidable c] {x y : Option (α × RS)} (hx : KRs6 s x) (hy : KRs6 s y) : KRs6 s (if c then x else y) := by
  by_cases h : c
  · rw [if_pos h]; exact hx
  · rw [if_neg h]; exact hy
theorem kvs6_ite {s : RS} {c : Prop} [Decidable c] {x y : Option RS} (hx : KVs6 s x) (hy : KVs6 s y) : KVs6 s (if c then x else y) := by
  by_cases h : c
  · rw [if_pos h]; exact hx
  · rw [if_neg h]; exact hy
theorem krs6_st {α : Type} {s r : RS} {t : Option (α × RS)} (h : KSs6 s r) (g : KRs6 r t) : KRs6 s t := fun R q => h.tr (g R q)
theorem kvs6_st {s r : RS} {t : Option RS} (h : KSs6 s r) (g : KVs6 r t) : KVs6 s t := fun R q => h.tr (g R q)
theorem krs6_bind {α β : Type} {s : RS} {x : Option (α × RS)} {k : α × RS → Option (β × RS)} (hx : KRs6 s x) (hk : ∀ p : α × RS, KRs6 p.2 (k p)) : KRs6 s (x.bind k) := by
  intro R h
  obtain ⟨p, h1, h2⟩ := hf_bind h
  exact (hx p h1).tr (hk p R h2)
theorem krs6_bindv {β : Type} {s : RS} {x : Option RS} {k : RS → Option (β × RS)} (hx : KVs6 s x) (hk : ∀ p : RS, KRs6 p (k p)) : KRs6 s (x.bind k) := by
  intro R h
  obtain ⟨p, h1, h2⟩ := hf_bind h
  exact (hx p h1).tr (hk p R h2)
theorem kvs6_bind {α : Type} {s : RS} {x : Option (α × RS)} {k : α × RS → Option RS} (hx : KRs6 s x) (hk : ∀ p : α × RS, KVs6 p.2 (k p)) : KVs6 s (x.bind k) := by
  intro R h
  obtain ⟨p, h1, h2⟩ := hf_bind h
  exact (hx p h1).tr (hk p R h2)
theorem kvs6_bindv {s : RS} {x : Option RS} {k : RS → Option RS} (hx : KVs6 s x) (hk : ∀ p : RS, KVs6 p (k p)) : KVs6 s (x.bind k) := by
  intro R h
  obtain ⟨p, h1, h2⟩ := hf_bind h
  exact (hx p h1).tr (hk p R h2)
theorem krs6_f_X12_in_14 (N : Nat) (σ : RS) : KRs6 σ (f_X12_in_14 N σ) := by
  unfold f_X12_in_14
  exact (krs6_some rfl)
theorem krs6_f_X12_in (N : Nat) (σ : RS) (x0 : Int32) (x1 : Int32) (x2 : Int32) : KRs6 σ (f_X12_in N σ x0 x1 x2) := by
  unfold f_X12_in
  exact (krs6_ite (krs6_st rfl (krs6_f_X12_in_14 N σ)) (krs6_ite (krs6_st rfl (krs6_f_X12_in_14 N σ)) (krs6_some rfl)))
theorem krs6_f_X12_isUnder_21 (N : Nat) (σ : RS) (x2 : Int32) (x3 : Int32) : KRs6 σ (f_X12_isUnder_21 N σ x2 x3) := by
  unfold f_X12_isUnder_21
  exact (krs6_ite (krs6_some rfl) (krs6_some rfl))
theorem krs6_b_X12_isUnder_2 (N : Nat) (K : RS → Int32 → Int32 → Option (Int32 × RS)) (hK : ∀ (σ : RS) (y0 : Int32) (y1 : Int32), KRs6 σ (K σ y0 y1)) (σ : RS) (x2 : Int32) (x3 : Int32) : KRs6 σ (b_X12_isUnder_2 N K σ x2 x3) := by
  unfold b_X12_isUnder_2
  exact (krs6_ite (krs6_st rfl (krs6_f_X12_isUnder_21 N σ x2 x3)) (krs6_ite (krs6_st rfl (krs6_f_X12_isUnder_21 N σ x2 x3)) (krs6_ite (krs6_st rfl (hK σ x2 (σ.a 4 ((x3 : Int32).toNatClampNeg)))) krs6_none)))
theorem krs6_f_X12_isUnder_2 (N : Nat) : ∀ (n : Nat) (σ : RS) (y0 : Int32) (y1 : Int32), KRs6 σ (f_X12_isUnder_2 N n σ y0 y1)
  | 0, _, _, _ => krs6_none
  | n+1, σ, y0, y1 => krs6_b_X12_isUnder_2 N (f_X12_isUnder_2 N n) (fun σ y0 y1 => krs6_f_X12_isUnder_2 N n σ y0 y1) σ y0 y1
theorem krs6_f_X12_isUnder (N : Nat) (σ : RS) (x1 : Int32) (x2 : Int32) : KRs6 σ (f_X12_isUnder N σ x1 x2) := by
  unfold f_X12_isUnder
  exact (krs6_st rfl (krs6_f_X12_isUnder_2 N N σ x2 x1))
theorem krs6_f_X12_under_33 (N : Nat) (σ : RS) : KRs6 σ (f_X12_under_33 N σ) := by
  unfold f_X12_under_33
  exact (krs6_some rfl)
theorem krs6_f_X12_under (N : Nat) (σ : RS) (x1 : Int32) (x2 : Int32) : KRs6 σ (f_X12_under N σ x1 x2) := by
  unfold f_X12_under
  exact (krs6_bind (krs6_st rfl (krs6_f_X12_in N (RS.setI σ 0 0) x1 0 ((σ.i 3) - 1))) (fun p1 => (krs6_ite (krs6_st rfl (krs6_f_X12_under_33 N p1.2)) (krs6_bind (krs6_st rfl (krs6_f_X12_in N p1.2 x2 0 ((p1.2.i 3) - 1))) (fun p4 => (krs6_ite (krs6_st rfl (krs6_f_X12_under_33 N p4.2)) (krs6_bind (krs6_st rfl (krs6_f_X12_isUnder N p4.2 x1 x2)) (fun p7 => (krs6_ite (krs6_some rfl) (krs6_some rfl))))))))))
theorem krs6_f_X12_at (N : Nat) (σ : RS) (x1 : Int32) : KRs6 σ (f_X12_at N σ x1) := by
  unfold f_X12_at
  exact (krs6_ite (krs6_some rfl) (krs6_ite (krs6_some rfl) krs6_none))
theorem krs6_f_X12_isLetter_16 (N : Nat) (σ : RS) : KRs6 σ (f_X12_isLetter_16 N σ) := by
  unfold f_X12_isLetter_16
  exact (krs6_some rfl)
theorem krs6_f_X12_isLetter (N : Nat) (σ : RS) (x0 : Int32) : KRs6 σ (f_X12_isLetter N σ x0) := by
  unfold f_X12_isLetter
  exact (krs6_ite (krs6_st rfl (krs6_f_X12_isLetter_16 N σ)) (krs6_ite (krs6_st rfl (krs6_f_X12_isLetter_16 N σ)) (krs6_some rfl)))
theorem krs6_f_X12_isDigit_16 (N : Nat) (σ : RS) : KRs6 σ (f_X12_isDigit_16 N σ) := by
  unfold f_X12_isDigit_16
  exact (krs6_some rfl)
theorem krs6_f_X12_isDigit (N : Nat) (σ : RS) (x0 : Int32) : KRs6 σ (f_X12_isDigit N σ x0) := by
  unfold f_X12_isDigit
  exact (krs6_ite (krs6_st rfl (krs6_f_X12_isDigit_16 N σ)) (krs6_ite (krs6_st rfl (krs6_f_X12_isDigit_16 N σ)) (krs6_some rfl)))
theorem krs6_b_X12_readName_260 (N : Nat) (K : RS → Int32 → Option (RS)) (hK : ∀ (σ : RS) (y0 : Int32), KVs6 σ (K σ y0)) (σ : RS) (x4 : Int32) : KVs6 σ (b_X12_readName_260 N K σ x4) := by
  unfold b_X12_readName_260
  exact (kvs6_ite (kvs6_some rfl) (kvs6_ite (kvs6_ite (kvs6_st rfl (hK (RS.setI σ 10 (410 + x4)) (x4 + 1))) (kvs6_st rfl (hK (RS.setI σ 10 (σ.i 10)) (x4 + 1)))) kvs6_none))
theorem krs6_f_X12_readName_260 (N : Nat) : ∀ (n : Nat) (σ : RS) (y0 : Int32), KVs6 σ (f_X12_readName_260 N n σ y0)
  | 0, _, _ => kvs6_none
  | n+1, σ, y0 => krs6_b_X12_readName_260 N (f_X12_readName_260 N n) (fun σ y0 => krs6_f_X12_readName_260 N n σ y0) σ y0
theorem krs6_f_X12_readName_257 (N : Nat) (σ : RS) : KVs6 σ (f_X12_readName_257 N σ) := by
  unfold f_X12_readName_257
  exact (kvs6_st rfl (krs6_f_X12_readName_260 N N σ 0))
theorem krs6_f_X12_readName_254 (N : Nat) (σ : RS) : KVs6 σ (f_X12_readName_254 N σ) := by
  unfold f_X12_readName_254
  exact (kvs6_some rfl)
theorem krs6_f_X12_readName_220 (N : Nat) (σ : RS) (x1 : Int32) (x3 : Int32) : KVs6 σ (f_X12_readName_220 N σ x1 x3) := by
  unfold f_X12_readName_220
  exact (kvs6_ite (kvs6_st rfl (krs6_f_X12_readName_254 N (RS.setI (RS.setI σ 10 5) 14 x3))) (kvs6_bind (krs6_st rfl (krs6_f_X12_at N (RS.setI σ 10 5) ((σ.i 11) + 2))) (fun p32 => (kvs6_st rfl (krs6_f_X12_readName_254 N (RS.setI p32.2 14 ((10 + p32.1) - 48)))))))
theorem krs6_f_X12_readName_189 (N : Nat) (σ : RS) (x1 : Int32) (x3 : Int32) : KVs6 σ (f_X12_readName_189 N σ x1 x3) := by
  unfold f_X12_readName_189
  exact (kvs6_ite (kvs6_ite (kvs6_bind (krs6_st rfl (krs6_f_X12_at N σ ((σ.i 11) + 2))) (fun p26 => (kvs6_bind (krs6_st rfl (krs6_f_X12_in N p26.2 (p26.1 - 48) 0 1)) (fun p28 => (kvs6_ite (kvs6_st rfl (krs6_f_X12_readName_257 N p28.2)) (kvs6_st rfl (krs6_f_X12_readName_220 N p28.2 x1 x3))))))) (kvs6_st rfl (krs6_f_X12_readName_257 N σ))) (kvs6_st rfl (krs6_f_X12_readName_257 N σ)))
theorem krs6_f_X12_readName_168 (N : Nat) (σ : RS) (x1 : Int32) (x2 : Int32) (x3 : Int32) : KVs6 σ (f_X12_readName_168 N σ x1 x2 x3) := by
  unfold f_X12_readName_168
  exact (kvs6_ite (kvs6_ite (kvs6_bind (krs6_st rfl (krs6_f_X12_in N σ x3 0 9)) (fun p34 => (kvs6_ite (kvs6_st rfl (krs6_f_X12_readName_189 N p34.2 x1 x3)) (kvs6_st rfl (krs6_f_X12_readName_220 N p34.2 x1 x3))))) (kvs6_st rfl (krs6_f_X12_readName_189 N σ x1 x3))) (kvs6_st rfl (krs6_f_X12_readName_257 N σ)))
theorem krs6_f_X12_readName_160 (N : Nat) (σ : RS) (x3 : Int32) : KVs6 σ (f_X12_readName_160 N σ x3) := by
  unfold f_X12_readName_160
  exact (kvs6_some rfl)
theorem krs6_f_X12_readName_135 (N : Nat) (σ : RS) (x1 : Int32) (x2 : Int32) (x3 : Int32) : KVs6 σ (f_X12_readName_135 N σ x1 x2 x3) := by
  unfold f_X12_readName_135
  exact (kvs6_bind (krs6_st rfl (krs6_f_X12_in N σ x3 0 7)) (fun p38 => (kvs6_ite (kvs6_st rfl (krs6_f_X12_readName_168 N p38.2 x1 x2 x3)) (kvs6_ite (kvs6_st rfl (krs6_f_X12_readName_160 N (RS.setI p38.2 10 3) x3)) (kvs6_st rfl (krs6_f_X12_readName_160 N (RS.setI p38.2 10 4) x3))))))
theorem krs6_b_X12_readName_5 (N : Nat) (K : RS → Option (RS)) (hK : ∀ (σ : RS), KVs6 σ (K σ)) (σ : RS) : KVs6 σ (b_X12_readName_5 N K σ) := by
  unfold b_X12_readName_5
  exact (kvs6_bind (krs6_st rfl (krs6_f_X12_at N σ (σ.i 12))) (fun p1 => (kvs6_bind (krs6_st rfl (krs6_f_X12_isLetter N p1.2 p1.1)) (fun p3 => (kvs6_ite (kvs6_bind (krs6_st rfl (krs6_f_X12_at N p3.2 (p3.2.i 12))) (fun p8 => (kvs6_bind (krs6_st rfl (krs6_f_X12_isDigit N p8.2 p8.1)) (fun p10 => (kvs6_ite (kvs6_ite (kvs6_bind (krs6_st rfl (krs6_f_X12_at N p10.2 (p10.2.i 11))) (fun p14 => (kvs6_bind (krs6_st rfl (krs6_f_X12_at N p14.2 ((p14.2.i 11) + 1))) (fun p16 => (kvs6_ite (kvs6_ite (kvs6_st rfl (krs6_f_X12_readName_135 N (RS.setI p16.2 10 2) ((p10.2.i 12) - (p10.2.i 11)) p14.1 (p16.1 - 48))) (kvs6_ite (kvs6_st rfl (krs6_f_X12_readName_135 N (RS.setI p16.2 10 2) ((p10.2.i 12) - (p10.2.i 11)) p14.1 (p16.1 - 48))) (kvs6_st rfl (krs6_f_X12_readName_168 N (RS.setI p16.2 10 2) ((p10.2.i 12) - (p10.2.i 11)) p14.1 (p16.1 - 48))))) (kvs6_st rfl (krs6_f_X12_readName_168 N (RS.setI p16.2 10 2) ((p10.2.i 12) - (p10.2.i 11)) p14.1 (p16.1 - 48)))))))) (kvs6_some rfl)) (kvs6_bind (krs6_st rfl (krs6_f_X12_at N p10.2 (p10.2.i 12))) (fun p43 => (kvs6_st rfl (hK (RS.setI (RS.setL p43.2 ((p10.2.l <<< ((8 : Int32).toInt64 &&& 63)) ||| (p43.1 : Int32).toInt64)) 12 ((p43.2.i 12) + 1))))))))))) (kvs6_bind (krs6_st rfl (krs6_f_X12_at N p3.2 (p3.2.i 12))) (fun p6 => (kvs6_st rfl (hK (RS.setI (RS.setL p6.2 ((p3.2.l <<< ((8 : Int32).toInt64 &&& 63)) ||| (p6.1 : Int32).toInt64)) 12 ((p6.2.i 12) + 1)))))))))))
theorem krs6_f_X12_readName_5 (N : Nat) : ∀ (n : Nat) (σ : RS), KVs6 σ (f_X12_readName_5 N n σ )
  | 0, _ => kvs6_none
  | n+1, σ => krs6_b_X12_readName_5 N (f_X12_readName_5 N n) (fun σ => krs6_f_X12_readName_5 N n σ) σ
theorem krs6_f_X12_readName (N : Nat) (σ : RS) : KVs6 σ (f_X12_readName N σ) := by
  unfold f_X12_readName
  exact (kvs6_st rfl (krs6_f_X12_readName_5 N N (RS.setL σ 0)))
theorem krs6_f_X12_readSign_306 (N : Nat) (σ : RS) (x1 : Int32) (x4 : Int32) : KVs6 σ (f_X12_readSign_306 N σ x1 x4) := by
  unfold f_X12_readSign_306
  exact (kvs6_ite (kvs6_some rfl) (kvs6_some rfl))
theorem krs6_f_X12_readSign_299 (N : Nat) (σ : RS) (x1 : Int32) : KVs6 σ (f_X12_readSign_299 N σ x1) := by
  unfold f_X12_readSign_299
  exact (kvs6_st rfl (krs6_f_X12_readSign_306 N σ x1 1))
theorem krs6_f_X12_readSign_165 (N : Nat) (σ : RS) (x1 : Int32) (x3 : Int32) : KVs6 σ (f_X12_readSign_165 N σ x1 x3) := by
  unfold f_X12_readSign_165
  exact (kvs6_ite (kvs6_ite (kvs6_st rfl (krs6_f_X12_readSign_299 N σ x1)) (kvs6_ite (kvs6_st rfl (krs6_f_X12_readSign_299 N σ x1)) (kvs6_ite (kvs6_st rfl (krs6_f_X12_readSign_299 N σ x1)) (kvs6_ite (kvs6_st rfl (krs6_f_X12_readSign_299 N σ x1)) (kvs6_ite (kvs6_st rfl (krs6_f_X12_readSign_299 N σ x1)) (kvs6_ite (kvs6_st rfl (krs6_f_X12_readSign_299 N σ x1)) (kvs6_ite (kvs6_st rfl (krs6_f_X12_readSign_299 N σ x1)) (kvs6_ite (kvs6_st rfl (krs6_f_X12_readSign_299 N σ x1)) (kvs6_ite (kvs6_st rfl (krs6_f_X12_readSign_299 N σ x1)) (kvs6_ite (kvs6_st rfl (krs6_f_X12_readSign_299 N σ x1)) (kvs6_ite (kvs6_st rfl (krs6_f_X12_readSign_299 N σ x1)) (kvs6_ite (kvs6_st rfl (krs6_f_X12_readSign_299 N σ x1)) (kvs6_ite (kvs6_st rfl (krs6_f_X12_readSign_299 N σ x1)) (kvs6_ite (kvs6_st rfl (krs6_f_X12_readSign_299 N σ x1)) (kvs6_ite (kvs6_st rfl (krs6_f_X12_readSign_299 N σ x1)) (kvs6_ite (kvs6_st rfl (krs6_f_X12_readSign_299 N σ x1)) (kvs6_ite (kvs6_st rfl (krs6_f_X12_readSign_299 N σ x1)) (kvs6_ite (kvs6_st rfl (krs6_f_X12_readSign_299 N σ x1)) (kvs6_ite (kvs6_st rfl (krs6_f_X12_readSign_299 N σ x1)) (kvs6_st rfl (krs6_f_X12_readSign_306 N σ x1 0))))))))))))))))))))) (kvs6_some rfl))
theorem krs6_f_X12_readSign_163 (N : Nat) (σ : RS) (x1 : Int32) : KVs6 σ (f_X12_readSign_163 N σ x1) := by
  unfold f_X12_readSign_163
  exact (kvs6_st rfl (krs6_f_X12_readSign_165 N σ x1 0))
theorem krs6_f_X12_readSign_145 (N : Nat) (σ : RS) (x1 : Int32) (x2 : Int32) : KVs6 σ (f_X12_readSign_145 N σ x1 x2) := by
  unfold f_X12_readSign_145
  exact (kvs6_ite (kvs6_ite (kvs6_st rfl (krs6_f_X12_readSign_165 N σ x1 307)) (kvs6_st rfl (krs6_f_X12_readSign_163 N σ x1))) (kvs6_st rfl (krs6_f_X12_readSign_163 N σ x1)))
theorem krs6_f_X12_readSign_127 (N : Nat) (σ : RS) (x1 : Int32) (x2 : Int32) : KVs6 σ (f_X12_readSign_127 N σ x1 x2) := by
  unfold f_X12_readSign_127
  exact (kvs6_ite (kvs6_ite (kvs6_st rfl (krs6_f_X12_readSign_165 N σ x1 306)) (kvs6_st rfl (krs6_f_X12_readSign_145 N σ x1 x2))) (kvs6_st rfl (krs6_f_X12_readSign_145 N σ x1 x2)))
theorem krs6_f_X12_readSign_109 (N : Nat) (σ : RS) (x1 : Int32) (x2 : Int32) : KVs6 σ (f_X12_readSign_109 N σ x1 x2) := by
  unfold f_X12_readSign_109
  exact (kvs6_ite (kvs6_ite (kvs6_st rfl (krs6_f_X12_readSign_165 N σ x1 305)) (kvs6_st rfl (krs6_f_X12_readSign_127 N σ x1 x2))) (kvs6_st rfl (krs6_f_X12_readSign_127 N σ x1 x2)))
theorem krs6_f_X12_readSign_91 (N : Nat) (σ : RS) (x1 : Int32) (x2 : Int32) : KVs6 σ (f_X12_readSign_91 N σ x1 x2) := by
  unfold f_X12_readSign_91
  exact (kvs6_ite (kvs6_ite (kvs6_st rfl (krs6_f_X12_readSign_165 N σ x1 304)) (kvs6_st rfl (krs6_f_X12_readSign_109 N σ x1 x2))) (kvs6_st rfl (krs6_f_X12_readSign_109 N σ x1 x2)))
theorem krs6_f_X12_readSign_73 (N : Nat) (σ : RS) (x1 : Int32) (x2 : Int32) : KVs6 σ (f_X12_readSign_73 N σ x1 x2) := by
  unfold f_X12_readSign_73
  exact (kvs6_ite (kvs6_ite (kvs6_st rfl (krs6_f_X12_readSign_165 N σ x1 303)) (kvs6_st rfl (krs6_f_X12_readSign_91 N σ x1 x2))) (kvs6_st rfl (krs6_f_X12_readSign_91 N σ x1 x2)))
theorem krs6_f_X12_readSign_55 (N : Nat) (σ : RS) (x1 : Int32) (x2 : Int32) : KVs6 σ (f_X12_readSign_55 N σ x1 x2) := by
  unfold f_X12_readSign_55
  exact (kvs6_ite (kvs6_ite (kvs6_st rfl (krs6_f_X12_readSign_165 N σ x1 302)) (kvs6_st rfl (krs6_f_X12_readSign_73 N σ x1 x2))) (kvs6_st rfl (krs6_f_X12_readSign_73 N σ x1 x2)))
theorem krs6_f_X12_readSign_37 (N : Nat) (σ : RS) (x1 : Int32) (x2 : Int32) : KVs6 σ (f_X12_readSign_37 N σ x1 x2) := by
  unfold f_X12_readSign_37
  exact (kvs6_ite (kvs6_ite (kvs6_st rfl (krs6_f_X12_readSign_165 N σ x1 301)) (kvs6_st rfl (krs6_f_X12_readSign_55 N σ x1 x2))) (kvs6_st rfl (krs6_f_X12_readSign_55 N σ x1 x2)))
theorem krs6_f_X12_readSign (N : Nat) (σ : RS) (x1 : Int32) : KVs6 σ (f_X12_readSign N σ x1) := by
  unfold f_X12_readSign
  exact (kvs6_bind (krs6_st rfl (krs6_f_X12_at N (RS.setI σ 12 ((σ.i 12) + 1)) ((σ.i 12) + 1))) (fun p1 => (kvs6_ite (kvs6_ite (kvs6_st rfl (krs6_f_X12_readSign_165 N p1.2 x1 300)) (kvs6_st rfl (krs6_f_X12_readSign_37 N p1.2 x1 p1.1))) (kvs6_st rfl (krs6_f_X12_readSign_37 N p1.2 x1 p1.1)))))
theorem krs6_f_X12_next_211 (N : Nat) (σ : RS) : KVs6 σ (f_X12_next_211 N σ) := by
  unfold f_X12_next_211
  exact (kvs6_some rfl)
theorem krs6_b_X12_next_116 (N : Nat) (K : RS → Option (RS)) (hK : ∀ (σ : RS), KVs6 σ (K σ)) (σ : RS) : KVs6 σ (b_X12_next_116 N K σ) := by
  unfold b_X12_next_116
  exact (kvs6_bind (krs6_st rfl (krs6_f_X12_at N σ (σ.i 12))) (fun p16 => (kvs6_bind (krs6_st rfl (krs6_f_X12_isDigit N p16.2 p16.1)) (fun p18 => (kvs6_ite (kvs6_ite (kvs6_st rfl (krs6_f_X12_next_211 N (RS.setI p18.2 10 1))) (kvs6_st rfl (krs6_f_X12_next_211 N (RS.setI p18.2 10 6)))) (kvs6_ite (kvs6_st rfl (hK (RS.setI (RS.setI p18.2 14 (p18.2.i 14)) 12 ((p18.2.i 12) + 1)))) (kvs6_bind (krs6_st rfl (krs6_f_X12_at N p18.2 (p18.2.i 12))) (fun p23 => (kvs6_st rfl (hK (RS.setI (RS.setI p23.2 14 (((10 * (p18.2.i 14)) + p23.1) - 48)) 12 ((p23.2.i 12) + 1))))))))))))
theorem krs6_f_X12_next_116 (N : Nat) : ∀ (n : Nat) (σ : RS), KVs6 σ (f_X12_next_116 N n σ )
  | 0, _ => kvs6_none
  | n+1, σ => krs6_b_X12_next_116 N (f_X12_next_116 N n) (fun σ => krs6_f_X12_next_116 N n σ) σ
theorem krs6_f_X12_next_68 (N : Nat) (σ : RS) : KVs6 σ (f_X12_next_68 N σ) := by
  unfold f_X12_next_68
  exact (kvs6_bind (krs6_st rfl (krs6_f_X12_at N (RS.setI σ 11 (σ.i 12)) (σ.i 12))) (fun p3 => (kvs6_ite (kvs6_some rfl) (kvs6_bind (krs6_st rfl (krs6_f_X12_isDigit N p3.2 p3.1)) (fun p6 => (kvs6_ite (kvs6_bind (krs6_st rfl (krs6_f_X12_isLetter N p6.2 p3.1)) (fun p9 => (kvs6_ite (kvs6_bindv (kvs6_st rfl (krs6_f_X12_readSign N p9.2 p3.1)) (fun p12 => (kvs6_some rfl))) (kvs6_bindv (kvs6_st rfl (krs6_f_X12_readName N p9.2)) (fun p14 => (kvs6_some rfl)))))) (kvs6_st rfl (krs6_f_X12_next_116 N N (RS.setI p6.2 14 0)))))))))
theorem krs6_b_X12_next_18 (N : Nat) (K : RS → Option (RS)) (hK : ∀ (σ : RS), KVs6 σ (K σ)) (σ : RS) : KVs6 σ (b_X12_next_18 N K σ) := by
  unfold b_X12_next_18
  exact (kvs6_ite (kvs6_st rfl (krs6_f_X12_next_68 N σ)) (kvs6_bind (krs6_st rfl (krs6_f_X12_at N σ (σ.i 12))) (fun p25 => (kvs6_ite (kvs6_st rfl (hK (RS.setI p25.2 12 ((p25.2.i 12) + 1)))) (kvs6_bind (krs6_st rfl (krs6_f_X12_at N p25.2 (p25.2.i 12))) (fun p28 => (kvs6_ite (kvs6_st rfl (hK (RS.setI p28.2 12 ((p28.2.i 12) + 1)))) (kvs6_st rfl (krs6_f_X12_next_68 N p28.2)))))))))
theorem krs6_f_X12_next_18 (N : Nat) : ∀ (n : Nat) (σ : RS), KVs6 σ (f_X12_next_18 N n σ )
  | 0, _ => kvs6_none
  | n+1, σ => krs6_b_X12_next_18 N (f_X12_next_18 N n) (fun σ => krs6_f_X12_next_18 N n σ) σ
theorem krs6_f_X12_next (N : Nat) (σ : RS) : KVs6 σ (f_X12_next N σ) := by
  unfold f_X12_next
  exact (kvs6_ite (kvs6_st rfl (krs6_f_X12_next_18 N N (RS.setI σ 17 ((σ.i 17) + 1)))) (kvs6_some rfl))
theorem krs6_f_X12_fail (N : Nat) (σ : RS) (x1 : Int32) (x2 : Int32) : KVs6 σ (f_X12_fail N σ x1 x2) := by
  unfold f_X12_fail
  exact (kvs6_ite (kvs6_some rfl) (kvs6_some rfl))
theorem krs6_f_X12_note (N : Nat) (σ : RS) (x1 : Int32) : KVs6 σ (f_X12_note N σ x1) := by
  unfold f_X12_note
  exact (kvs6_ite (kvs6_ite (kvs6_some rfl) (kvs6_some rfl)) (kvs6_some rfl))
theorem krs6_f_X12_can_42 (N : Nat) (σ : RS) : KRs6 σ (f_X12_can_42 N σ) := by
  unfold f_X12_can_42
  exact (krs6_ite (krs6_some rfl) (krs6_some rfl))
theorem krs6_f_X12_can_20 (N : Nat) (σ : RS) : KRs6 σ (f_X12_can_20 N σ) := by
  unfold f_X12_can_20
  exact (krs6_ite (krs6_bindv (kvs6_st rfl (krs6_f_X12_fail N σ 1 (σ.i 11))) (fun p7 => (krs6_st rfl (krs6_f_X12_can_42 N p7)))) (krs6_bindv (kvs6_st rfl (krs6_f_X12_fail N σ 2 (σ.i 11))) (fun p5 => (krs6_st rfl (krs6_f_X12_can_42 N p5)))))
theorem krs6_f_X12_can (N : Nat) (σ : RS) (x1 : Int32) : KRs6 σ (f_X12_can N σ x1) := by
  unfold f_X12_can
  exact (krs6_ite (krs6_ite (krs6_st rfl (krs6_f_X12_can_20 N σ)) (krs6_ite (krs6_st rfl (krs6_f_X12_can_20 N σ)) (krs6_st rfl (krs6_f_X12_can_42 N σ)))) (krs6_st rfl (krs6_f_X12_can_42 N σ)))
theorem krs6_f_X12_need_31 (N : Nat) (σ : RS) : KRs6 σ (f_X12_need_31 N σ) := by
  unfold f_X12_need_31
  exact (krs6_ite (krs6_some rfl) (krs6_some rfl))
theorem krs6_f_X12_need_27 (N : Nat) (σ : RS) : KRs6 σ (f_X12_need_27 N σ) := by
  unfold f_X12_need_27
  exact (krs6_bindv (kvs6_st rfl (krs6_f_X12_next N σ)) (fun p7 => (krs6_st rfl (krs6_f_X12_need_31 N p7))))
theorem krs6_f_X12_need (N : Nat) (σ : RS) (x1 : Int32) : KRs6 σ (f_X12_need N σ x1) := by
  unfold f_X12_need
  exact (krs6_ite (krs6_ite (krs6_bind (krs6_st rfl (krs6_f_X12_can N σ 1)) (fun p9 => (krs6_ite (krs6_st rfl (krs6_f_X12_need_31 N p9.2)) (krs6_st rfl (krs6_f_X12_need_27 N p9.2))))) (krs6_bind (krs6_st rfl (krs6_f_X12_can N σ 0)) (fun p4 => (krs6_ite (krs6_st rfl (krs6_f_X12_need_31 N p4.2)) (krs6_st rfl (krs6_f_X12_need_27 N p4.2)))))) (krs6_st rfl (krs6_f_X12_need_31 N σ)))
theorem krs6_f_X12_opens_29 (N : Nat) (σ : RS) : KRs6 σ (f_X12_opens_29 N σ) := by
  unfold f_X12_opens_29
  exact (krs6_ite (krs6_some rfl) (krs6_some rfl))
theorem krs6_f_X12_opens (N : Nat) (σ : RS) : KRs6 σ (f_X12_opens N σ) := by
  unfold f_X12_opens
  exact (krs6_ite (krs6_st rfl (krs6_f_X12_opens_29 N (RS.setI σ 19 ((σ.i 19) + 1)))) (krs6_bindv (kvs6_st rfl (krs6_f_X12_fail N (RS.setI σ 19 ((σ.i 19) + 1)) 6 (σ.i 11))) (fun p3 => (krs6_st rfl (krs6_f_X12_opens_29 N p3)))))
theorem krs6_f_X12_open_38 (N : Nat) (σ : RS) : KRs6 σ (f_X12_open_38 N σ) := by
  unfold f_X12_open_38
  exact (krs6_ite (krs6_some rfl) (krs6_some rfl))
theorem krs6_f_X12_open_27 (N : Nat) (σ : RS) : KRs6 σ (f_X12_open_27 N σ) := by
  unfold f_X12_open_27
  exact (krs6_bind (krs6_st rfl (krs6_f_X12_opens N σ)) (fun p7 => (krs6_ite (krs6_st rfl (krs6_f_X12_open_38 N p7.2)) (krs6_bindv (kvs6_st rfl (krs6_f_X12_next N p7.2)) (fun p10 => (krs6_st rfl (krs6_f_X12_open_38 N p10)))))))
theorem krs6_f_X12_open (N : Nat) (σ : RS) (x1 : Int32) : KRs6 σ (f_X12_open N σ x1) := by
  unfold f_X12_open
  exact (krs6_ite (krs6_ite (krs6_bind (krs6_st rfl (krs6_f_X12_can N σ 1)) (fun p12 => (krs6_ite (krs6_st rfl (krs6_f_X12_open_38 N p12.2)) (krs6_st rfl (krs6_f_X12_open_27 N p12.2))))) (krs6_bind (krs6_st rfl (krs6_f_X12_can N σ 0)) (fun p4 => (krs6_ite (krs6_st rfl (krs6_f_X12_open_38 N p4.2)) (krs6_st rfl (krs6_f_X12_open_27 N p4.2)))))) (krs6_st rfl (krs6_f_X12_open_38 N σ)))
theorem krs6_f_X12_shut_18 (N : Nat) (σ : RS) : KRs6 σ (f_X12_shut_18 N σ) := by
  unfold f_X12_shut_18
  exact (krs6_ite (krs6_some rfl) (krs6_some rfl))
theorem krs6_f_X12_shut (N : Nat) (σ : RS) (x1 : Int32) : KRs6 σ (f_X12_shut N σ x1) := by
  unfold f_X12_shut
  exact (krs6_bind (krs6_st rfl (krs6_f_X12_need N σ x1)) (fun p1 => (krs6_ite (krs6_st rfl (krs6_f_X12_shut_18 N p1.2)) (krs6_st rfl (krs6_f_X12_shut_18 N (RS.setI p1.2 19 ((p1.2.i 19) - 1)))))))
theorem krs6_f_X12_emit_21 (N : Nat) (σ : RS) (x1 : Int32) (x2 : Int32) (x3 : Int32) : KRs6 σ (f_X12_emit_21 N σ x1 x2 x3) := by
  unfold f_X12_emit_21
  exact (krs6_ite (krs6_some rfl) krs6_none)
theorem krs6_f_X12_emit (N : Nat) (σ : RS) (x1 : Int32) (x2 : Int32) : KRs6 σ (f_X12_emit N σ x1 x2) := by
  unfold f_X12_emit
  exact (krs6_ite (krs6_st rfl (krs6_f_X12_emit_21 N σ x1 x2 2999)) (krs6_st rfl (krs6_f_X12_emit_21 N σ x1 x2 (σ.i 20))))
theorem krs6_b_X12_seenAs_7 (N : Nat) (K : RS → Int64 → Int32 → Option (Int32 × RS)) (hK : ∀ (σ : RS) (y0 : Int64) (y1 : Int32), KRs6 σ (K σ y0 y1)) (σ : RS) (x1 : Int64) (x3 : Int32) : KRs6 σ (b_X12_seenAs_7 N K σ x1 x3) := by
  unfold b_X12_seenAs_7
  exact (krs6_ite (krs6_some rfl) (krs6_ite (krs6_ite (krs6_some rfl) (krs6_st rfl (hK σ x1 (x3 + (-1))))) krs6_none))
theorem krs6_f_X12_seenAs_7 (N : Nat) : ∀ (n : Nat) (σ : RS) (y0 : Int64) (y1 : Int32), KRs6 σ (f_X12_seenAs_7 N n σ y0 y1)
  | 0, _, _, _ => krs6_none
  | n+1, σ, y0, y1 => krs6_b_X12_seenAs_7 N (f_X12_seenAs_7 N n) (fun σ y0 y1 => krs6_f_X12_seenAs_7 N n σ y0 y1) σ y0 y1
theorem krs6_f_X12_seenAs (N : Nat) (σ : RS) (x1 : Int64) : KRs6 σ (f_X12_seenAs N σ x1) := by
  unfold f_X12_seenAs
  exact (krs6_st rfl (krs6_f_X12_seenAs_7 N N σ x1 ((σ.i 38) - 1)))
theorem krs6_f_X12_see (N : Nat) (σ : RS) (x1 : Int64) (x3 : Int32) : KRs6 σ (f_X12_see N σ x1 x3) := by
  unfold f_X12_see
  exact (krs6_ite (krs6_some rfl) krs6_none)
theorem krs6_f_X12_goal (N : Nat) (σ : RS) (x1 : Int32) (x2 : Int64) : KRs6 σ (f_X12_goal N σ x1 x2) := by
  unfold f_X12_goal
  exact (krs6_ite (krs6_some rfl) krs6_none)
theorem krs6_f_X12_loopGoal_49 (N : Nat) (σ : RS) (x1 : Int32) : KRs6 σ (f_X12_loopGoal_49 N σ x1) := by
  unfold f_X12_loopGoal_49
  exact (krs6_some rfl)
theorem krs6_b_X12_loopGoal_11 (N : Nat) (K : RS → Int32 → Int32 → Option (Int32 × RS)) (hK : ∀ (σ : RS) (y0 : Int32) (y1 : Int32), KRs6 σ (K σ y0 y1)) (σ : RS) (x1 : Int32) (x2 : Int32) : KRs6 σ (b_X12_loopGoal_11 N K σ x1 x2) := by
  unfold b_X12_loopGoal_11
  exact (krs6_ite (krs6_st rfl (krs6_f_X12_loopGoal_49 N σ x1)) (krs6_ite (krs6_ite (krs6_ite (krs6_st rfl (hK (RS.setA σ 46 ((x2 : Int32).toNatClampNeg) x1) x1 (x2 + (-1)))) (krs6_st rfl (krs6_f_X12_loopGoal_49 N σ x1))) (krs6_st rfl (krs6_f_X12_loopGoal_49 N σ x1))) krs6_none))
theorem krs6_f_X12_loopGoal_11 (N : Nat) : ∀ (n : Nat) (σ : RS) (y0 : Int32) (y1 : Int32), KRs6 σ (f_X12_loopGoal_11 N n σ y0 y1)
  | 0, _, _, _ => krs6_none
  | n+1, σ, y0, y1 => krs6_b_X12_loopGoal_11 N (f_X12_loopGoal_11 N n) (fun σ y0 y1 => krs6_f_X12_loopGoal_11 N n σ y0 y1) σ y0 y1
theorem krs6_f_X12_loopGoal (N : Nat) (σ : RS) : KRs6 σ (f_X12_loopGoal N σ) := by
  unfold f_X12_loopGoal
  exact (krs6_bind (krs6_st rfl (krs6_f_X12_goal N σ 0 0)) (fun p1 => (krs6_st rfl (krs6_f_X12_loopGoal_11 N N p1.2 p1.1 (p1.1 - 1)))))
theorem krs6_b_X12_patch_2 (N : Nat) (K : RS → Int32 → Int32 → Option (RS)) (hK : ∀ (σ : RS) (y0 : Int32) (y1 : Int32), KVs6 σ (K σ y0 y1)) (σ : RS) (x2 : Int32) (x3 : Int32) : KVs6 σ (b_X12_patch_2 N K σ x2 x3) := by
  unfold b_X12_patch_2
  exact (kvs6_ite (kvs6_some rfl) (kvs6_ite (kvs6_st rfl (hK (RS.setA σ 22 ((x3 : Int32).toNatClampNeg) x2) x2 (σ.a 22 ((x3 : Int32).toNatClampNeg)))) kvs6_none))
theorem krs6_f_X12_patch_2 (N : Nat) : ∀ (n : Nat) (σ : RS) (y0 : Int32) (y1 : Int32), KVs6 σ (f_X12_patch_2 N n σ y0 y1)
  | 0, _, _, _ => kvs6_none
  | n+1, σ, y0, y1 => krs6_b_X12_patch_2 N (f_X12_patch_2 N n) (fun σ y0 y1 => krs6_f_X12_patch_2 N n σ y0 y1) σ y0 y1
theorem krs6_f_X12_patch (N : Nat) (σ : RS) (x1 : Int32) (x2 : Int32) : KVs6 σ (f_X12_patch N σ x1 x2) := by
  unfold f_X12_patch
  exact (kvs6_st rfl (krs6_f_X12_patch_2 N N σ x2 x1))
theorem krs6_f_X12_goes (N : Nat) (σ : RS) (x1 : Int32) (x2 : Int32) : KVs6 σ (f_X12_goes N σ x1 x2) := by
  unfold f_X12_goes
  exact (kvs6_ite (kvs6_ite (kvs6_some rfl) kvs6_none) (kvs6_ite (kvs6_some rfl) kvs6_none))
theorem krs6_f_X12_pend_22 (N : Nat) (σ : RS) (x1 : Int32) (x2 : Int32) : KVs6 σ (f_X12_pend_22 N σ x1 x2) := by
  unfold f_X12_pend_22
  exact (kvs6_bindv (kvs6_st rfl (krs6_f_X12_goes N σ x1 x2)) (fun p2 => (kvs6_some rfl)))
theorem krs6_f_X12_pend (N : Nat) (σ : RS) (x1 : Int32) (x2 : Int32) : KVs6 σ (f_X12_pend N σ x1 x2) := by
  unfold f_X12_pend
  exact (kvs6_ite (kvs6_st rfl (krs6_f_X12_pend_22 N σ x1 x2)) (kvs6_ite (kvs6_ite (kvs6_ite (kvs6_some rfl) kvs6_none) (kvs6_st rfl (krs6_f_X12_pend_22 N σ x1 x2))) kvs6_none))
theorem krs6_b_X12_resolve_2 (N : Nat) (K : RS → Int32 → Int32 → Int32 → Option (RS)) (hK : ∀ (σ : RS) (y0 : Int32) (y1 : Int32) (y2 : Int32), KVs6 σ (K σ y0 y1 y2)) (σ : RS) (x1 : Int32) (x2 : Int32) (x3 : Int32) : KVs6 σ (b_X12_resolve_2 N K σ x1 x2 x3) := by
  unfold b_X12_resolve_2
  exact (kvs6_ite (kvs6_some rfl) (kvs6_ite (kvs6_ite (kvs6_ite (kvs6_st rfl (hK (RS.setA σ 62 ((x3 : Int32).toNatClampNeg) (-1)) x1 x2 (x3 + 1))) (kvs6_ite (kvs6_bindv (kvs6_st rfl (krs6_f_X12_goes N (RS.setA σ 62 ((x3 : Int32).toNatClampNeg) (-1)) (σ.a 60 ((x3 : Int32).toNatClampNeg)) (σ.a 61 ((x3 : Int32).toNatClampNeg)))) (fun p8 => (kvs6_st rfl (hK p8 x1 x2 (x3 + 1))))) (kvs6_ite (kvs6_ite (kvs6_bindv (kvs6_st rfl (krs6_f_X12_goes N (RS.setA σ 62 ((x3 : Int32).toNatClampNeg) (-1)) (σ.a 60 ((x3 : Int32).toNatClampNeg)) (σ.a 61 ((x3 : Int32).toNatClampNeg)))) (fun p13 => (kvs6_st rfl (hK p13 x1 x2 (x3 + 1))))) (kvs6_st rfl (hK (RS.setA σ 62 ((x3 : Int32).toNatClampNeg) (σ.a 57 ((((σ.i 56) - 1) : Int32).toNatClampNeg))) x1 x2 (x3 + 1)))) kvs6_none))) (kvs6_st rfl (hK σ x1 x2 (x3 + 1)))) kvs6_none))
theorem krs6_f_X12_resolve_2 (N : Nat) : ∀ (n : Nat) (σ : RS) (y0 : Int32) (y1 : Int32) (y2 : Int32), KVs6 σ (f_X12_resolve_2 N n σ y0 y1 y2)
  | 0, _, _, _, _ => kvs6_none
  | n+1, σ, y0, y1, y2 => krs6_b_X12_resolve_2 N (f_X12_resolve_2 N n) (fun σ y0 y1 y2 => krs6_f_X12_resolve_2 N n σ y0 y1 y2) σ y0 y1 y2
theorem krs6_f_X12_resolve (N : Nat) (σ : RS) (x1 : Int32) (x2 : Int32) : KVs6 σ (f_X12_resolve N σ x1 x2) := by
  unfold f_X12_resolve
  exact (kvs6_st rfl (krs6_f_X12_resolve_2 N N σ x1 x2 0))
theorem krs6_f_X12_push (N : Nat) (σ : RS) (x1 : Int32) : KVs6 σ (f_X12_push N σ x1) := by
  unfold f_X12_push
  exact (kvs6_ite (kvs6_some rfl) kvs6_none)
theorem krs6_f_X12_then (N : Nat) (σ : RS) (x1 : Int32) (x2 : Int32) : KVs6 σ (f_X12_then N σ x1 x2) := by
  unfold f_X12_then
  exact (kvs6_ite (kvs6_bindv (kvs6_st rfl (krs6_f_X12_push N (RS.setA σ 65 (((σ.i 63) : Int32).toNatClampNeg) x1) x2)) (fun p2 => (kvs6_some rfl))) kvs6_none)
theorem krs6_f_X12_body_32 (N : Nat) (σ : RS) (x1 : Int32) : KVs6 σ (f_X12_body_32 N σ x1) := by
  unfold f_X12_body_32
  exact (kvs6_bindv (kvs6_st rfl (krs6_f_X12_then N σ x1 2)) (fun p5 => (kvs6_some rfl)))
theorem krs6_f_X12_body (N : Nat) (σ : RS) (x1 : Int32) : KVs6 σ (f_X12_body N σ x1) := by
  unfold f_X12_body
  exact (kvs6_ite (kvs6_bind (krs6_st rfl (krs6_f_X12_can N σ 0)) (fun p2 => (kvs6_ite (kvs6_some rfl) (kvs6_st rfl (krs6_f_X12_body_32 N p2.2 x1))))) (kvs6_ite (kvs6_bind (krs6_st rfl (krs6_f_X12_can N σ 0)) (fun p8 => (kvs6_ite (kvs6_some rfl) (kvs6_st rfl (krs6_f_X12_body_32 N p8.2 x1))))) (kvs6_bind (krs6_st rfl (krs6_f_X12_can N σ 1)) (fun p11 => (kvs6_ite (kvs6_some rfl) (kvs6_st rfl (krs6_f_X12_body_32 N p11.2 x1)))))))
theorem krs6_f_X12_over (N : Nat) (σ : RS) (x1 : Int32) : KVs6 σ (f_X12_over N σ x1) := by
  unfold f_X12_over
  exact (kvs6_ite (kvs6_some rfl) kvs6_none)
theorem krs6_f_X12_list_73 (N : Nat) (σ : RS) (x1 : Int32) : KVs6 σ (f_X12_list_73 N σ x1) := by
  unfold f_X12_list_73
  exact (kvs6_ite (kvs6_ite (kvs6_bindv (kvs6_st rfl (krs6_f_X12_over N σ 1)) (fun p9 => (kvs6_some rfl))) (kvs6_bindv (kvs6_st rfl (krs6_f_X12_over N σ 0)) (fun p7 => (kvs6_some rfl)))) kvs6_none)
theorem krs6_f_X12_list_110 (N : Nat) (σ : RS) : KVs6 σ (f_X12_list_110 N σ) := by
  unfold f_X12_list_110
  exact (kvs6_bindv (kvs6_st rfl (krs6_f_X12_then N σ 1 2)) (fun p16 => (kvs6_some rfl)))
theorem krs6_f_X12_list_37 (N : Nat) (σ : RS) (x1 : Int32) : KVs6 σ (f_X12_list_37 N σ x1) := by
  unfold f_X12_list_37
  exact (kvs6_ite (kvs6_st rfl (krs6_f_X12_list_73 N σ x1)) (kvs6_ite (kvs6_st rfl (krs6_f_X12_list_73 N σ x1)) (kvs6_ite (kvs6_st rfl (krs6_f_X12_list_73 N σ x1)) (kvs6_ite (kvs6_st rfl (krs6_f_X12_list_73 N σ x1)) (kvs6_ite (kvs6_ite (kvs6_bindv (kvs6_st rfl (krs6_f_X12_note N σ (σ.i 11))) (fun p18 => (kvs6_st rfl (krs6_f_X12_list_110 N p18)))) (kvs6_st rfl (krs6_f_X12_list_110 N σ))) kvs6_none)))))
theorem krs6_f_X12_list (N : Nat) (σ : RS) (x1 : Int32) : KVs6 σ (f_X12_list N σ x1) := by
  unfold f_X12_list
  exact (kvs6_ite (kvs6_ite (kvs6_st rfl (krs6_f_X12_list_37 N (RS.setA σ 66 ((x1 : Int32).toNatClampNeg) 1) x1)) (kvs6_ite (kvs6_st rfl (krs6_f_X12_list_37 N (RS.setA σ 66 ((x1 : Int32).toNatClampNeg) 0) x1)) (kvs6_st rfl (krs6_f_X12_list_37 N (RS.setA σ 66 ((x1 : Int32).toNatClampNeg) 1) x1)))) kvs6_none)
theorem krs6_f_X12_jump_317 (N : Nat) (σ : RS) : KVs6 σ (f_X12_jump_317 N σ) := by
  unfold f_X12_jump_317
  exact (kvs6_bind (krs6_st rfl (krs6_f_X12_need N σ 59)) (fun p18 => (kvs6_some rfl)))
theorem krs6_f_X12_jump_302 (N : Nat) (σ : RS) (x1 : Int32) (x3 : Int32) (x4 : Int32) : KVs6 σ (f_X12_jump_302 N σ x1 x3 x4) := by
  unfold f_X12_jump_302
  exact (kvs6_bindv (kvs6_st rfl (krs6_f_X12_pend N σ x4 x1)) (fun p15 => (kvs6_ite (kvs6_st rfl (krs6_f_X12_jump_317 N p15)) (kvs6_bindv (kvs6_st rfl (krs6_f_X12_next N p15)) (fun p20 => (kvs6_st rfl (krs6_f_X12_jump_317 N p20)))))))
theorem krs6_f_X12_jump_263 (N : Nat) (σ : RS) (x1 : Int32) (x3 : Int32) (x4 : Int32) (x5 : Int32) : KVs6 σ (f_X12_jump_263 N σ x1 x3 x4 x5) := by
  unfold f_X12_jump_263
  exact (kvs6_ite (kvs6_ite (kvs6_ite (kvs6_st rfl (krs6_f_X12_jump_302 N (RS.setA (RS.setA σ 23 ((x5 : Int32).toNatClampNeg) (σ.a 47 ((x4 : Int32).toNatClampNeg))) 49 ((x4 : Int32).toNatClampNeg) x5) x1 x3 x4)) (kvs6_st rfl (krs6_f_X12_jump_302 N (RS.setA (RS.setA σ 23 ((x5 : Int32).toNatClampNeg) (σ.a 47 ((x4 : Int32).toNatClampNeg))) 48 ((x4 : Int32).toNatClampNeg) x5) x1 x3 x4))) kvs6_none) kvs6_none)
theorem krs6_f_X12_jump_234 (N : Nat) (σ : RS) (x1 : Int32) (x3 : Int32) (x4 : Int32) : KVs6 σ (f_X12_jump_234 N σ x1 x3 x4) := by
  unfold f_X12_jump_234
  exact (kvs6_ite (kvs6_ite (kvs6_bind (krs6_st rfl (krs6_f_X12_emit N σ 36 (σ.a 49 ((x4 : Int32).toNatClampNeg)))) (fun p10 => (kvs6_st rfl (krs6_f_X12_jump_263 N p10.2 x1 x3 x4 p10.1)))) kvs6_none) (kvs6_ite (kvs6_bind (krs6_st rfl (krs6_f_X12_emit N σ 36 (σ.a 48 ((x4 : Int32).toNatClampNeg)))) (fun p23 => (kvs6_st rfl (krs6_f_X12_jump_263 N p23.2 x1 x3 x4 p23.1)))) kvs6_none))
theorem krs6_f_X12_jump_171 (N : Nat) (σ : RS) (x1 : Int32) (x2 : Int32) (x3 : Int32) (x4 : Int32) : KVs6 σ (f_X12_jump_171 N σ x1 x2 x3 x4) := by
  unfold f_X12_jump_171
  exact (kvs6_ite (kvs6_ite (kvs6_st rfl (krs6_f_X12_jump_234 N σ x1 x3 x4)) (kvs6_ite (kvs6_ite (kvs6_ite (kvs6_st rfl (krs6_f_X12_jump_234 N σ x1 x3 (σ.a 46 ((x4 : Int32).toNatClampNeg)))) (kvs6_bindv (kvs6_st rfl (krs6_f_X12_fail N σ 5 (σ.i 11))) (fun p28 => (kvs6_some rfl)))) kvs6_none) (kvs6_st rfl (krs6_f_X12_jump_234 N σ x1 x3 x4)))) (kvs6_ite (kvs6_bindv (kvs6_st rfl (krs6_f_X12_fail N σ 5 x2)) (fun p32 => (kvs6_some rfl))) (kvs6_bindv (kvs6_st rfl (krs6_f_X12_fail N σ 3 (σ.i 11))) (fun p35 => (kvs6_some rfl)))))
theorem krs6_b_X12_jump_60 (N : Nat) (K : RS → Int32 → Int32 → Int32 → Int32 → Int32 → Option (RS)) (hK : ∀ (σ : RS) (y0 : Int32) (y1 : Int32) (y2 : Int32) (y3 : Int32) (y4 : Int32), KVs6 σ (K σ y0 y1 y2 y3 y4)) (σ : RS) (x1 : Int32) (x2 : Int32) (x3 : Int32) (x4 : Int32) (x5 : Int32) : KVs6 σ (b_X12_jump_60 N K σ x1 x2 x3 x4 x5) := by
  unfold b_X12_jump_60
  exact (kvs6_ite (kvs6_st rfl (krs6_f_X12_jump_171 N σ x1 x2 x3 x4)) (kvs6_ite (kvs6_ite (kvs6_st rfl (krs6_f_X12_jump_171 N σ x1 x2 x3 x4)) (kvs6_ite (kvs6_st rfl (krs6_f_X12_jump_171 N σ x1 x2 x3 x4)) (kvs6_ite (kvs6_ite (kvs6_st rfl (hK σ x1 x2 x3 x5 (x5 + (-1)))) (kvs6_ite (kvs6_st rfl (hK σ x1 x2 x3 x4 (x5 + (-1)))) (kvs6_ite (kvs6_st rfl (hK σ x1 x2 x3 x5 (x5 + (-1)))) (kvs6_st rfl (hK σ x1 x2 x3 x4 (x5 + (-1))))))) (kvs6_ite (kvs6_ite (kvs6_st rfl (hK σ x1 x2 x3 x5 (x5 + (-1)))) (kvs6_st rfl (hK σ x1 x2 x3 x4 (x5 + (-1))))) (kvs6_st rfl (hK σ x1 x2 x3 x4 (x5 + (-1)))))))) kvs6_none))
theorem krs6_f_X12_jump_60 (N : Nat) : ∀ (n : Nat) (σ : RS) (y0 : Int32) (y1 : Int32) (y2 : Int32) (y3 : Int32) (y4 : Int32), KVs6 σ (f_X12_jump_60 N n σ y0 y1 y2 y3 y4)
  | 0, _, _, _, _, _, _ => kvs6_none
  | n+1, σ, y0, y1, y2, y3, y4 => krs6_b_X12_jump_60 N (f_X12_jump_60 N n) (fun σ y0 y1 y2 y3 y4 => krs6_f_X12_jump_60 N n σ y0 y1 y2 y3 y4) σ y0 y1 y2 y3 y4
theorem krs6_f_X12_jump_49 (N : Nat) (σ : RS) (x1 : Int32) (x2 : Int32) (x3 : Int32) : KVs6 σ (f_X12_jump_49 N σ x1 x2 x3) := by
  unfold f_X12_jump_49
  exact (kvs6_st rfl (krs6_f_X12_jump_60 N N σ x1 x2 x3 (-1) ((σ.i 43) - 1)))
theorem krs6_f_X12_jump_16 (N : Nat) (σ : RS) (x1 : Int32) : KVs6 σ (f_X12_jump_16 N σ x1) := by
  unfold f_X12_jump_16
  exact (kvs6_bindv (kvs6_st rfl (krs6_f_X12_next N (RS.setI σ 55 ((σ.i 55) + 1)))) (fun p2 => (kvs6_ite (kvs6_st rfl (krs6_f_X12_jump_49 N p2 x1 (σ.i 11) 1)) (kvs6_st rfl (krs6_f_X12_jump_49 N p2 x1 (σ.i 11) 0)))))
theorem krs6_f_X12_jump (N : Nat) (σ : RS) : KVs6 σ (f_X12_jump N σ) := by
  unfold f_X12_jump
  exact (kvs6_ite (kvs6_st rfl (krs6_f_X12_jump_16 N σ 1)) (kvs6_st rfl (krs6_f_X12_jump_16 N σ 0)))
theorem krs6_f_X12_stat_309 (N : Nat) (σ : RS) : KVs6 σ (f_X12_stat_309 N σ) := by
  unfold f_X12_stat_309
  exact (kvs6_bind (krs6_st rfl (krs6_f_X12_emit N σ 1 0)) (fun p10 => (kvs6_ite (kvs6_bindv (kvs6_st rfl (krs6_f_X12_next N p10.2)) (fun p17 => (kvs6_bindv (kvs6_st rfl (krs6_f_X12_over N p17 1)) (fun p19 => (kvs6_some rfl))))) (kvs6_bindv (kvs6_st rfl (krs6_f_X12_jump N p10.2)) (fun p13 => (kvs6_bindv (kvs6_st rfl (krs6_f_X12_over N p13 0)) (fun p15 => (kvs6_some rfl))))))))
theorem krs6_f_X12_stat_240 (N : Nat) (σ : RS) (x1 : Int32) : KVs6 σ (f_X12_stat_240 N σ x1) := by
  unfold f_X12_stat_240
  exact (kvs6_ite (kvs6_ite (kvs6_ite (kvs6_bind (krs6_st rfl (krs6_f_X12_can N σ 1)) (fun p7 => (kvs6_ite (kvs6_some rfl) (kvs6_st rfl (krs6_f_X12_stat_309 N p7.2))))) (kvs6_ite (kvs6_bind (krs6_st rfl (krs6_f_X12_can N σ 1)) (fun p22 => (kvs6_ite (kvs6_some rfl) (kvs6_st rfl (krs6_f_X12_stat_309 N p22.2))))) (kvs6_ite (kvs6_bind (krs6_st rfl (krs6_f_X12_can N σ 1)) (fun p29 => (kvs6_ite (kvs6_some rfl) (kvs6_st rfl (krs6_f_X12_stat_309 N p29.2))))) (kvs6_bind (krs6_st rfl (krs6_f_X12_can N σ 0)) (fun p26 => (kvs6_ite (kvs6_some rfl) (kvs6_st rfl (krs6_f_X12_stat_309 N p26.2)))))))) (kvs6_ite (kvs6_some rfl) (kvs6_bind (krs6_st rfl (krs6_f_X12_emit N σ 1 0)) (fun p33 => (kvs6_some rfl))))) kvs6_none)
theorem krs6_f_X12_stat (N : Nat) (σ : RS) (x1 : Int32) : KVs6 σ (f_X12_stat N σ x1) := by
  unfold f_X12_stat
  exact (kvs6_ite (kvs6_ite (kvs6_some rfl) kvs6_none) (kvs6_ite (kvs6_ite (kvs6_st rfl (krs6_f_X12_stat_240 N (RS.setA (RS.setI σ 53 ((σ.i 53) + 1)) 64 ((x1 : Int32).toNatClampNeg) 4) x1)) kvs6_none) (kvs6_ite (kvs6_ite (kvs6_st rfl (krs6_f_X12_stat_240 N (RS.setA (RS.setI σ 53 ((σ.i 53) + 1)) 64 ((x1 : Int32).toNatClampNeg) 4) x1)) kvs6_none) (kvs6_ite (kvs6_ite (kvs6_st rfl (krs6_f_X12_stat_240 N (RS.setA (RS.setI σ 53 ((σ.i 53) + 1)) 64 ((x1 : Int32).toNatClampNeg) 5) x1)) kvs6_none) (kvs6_ite (kvs6_ite (kvs6_st rfl (krs6_f_X12_stat_240 N (RS.setA (RS.setI σ 53 ((σ.i 53) + 1)) 64 ((x1 : Int32).toNatClampNeg) 6) x1)) kvs6_none) (kvs6_ite (kvs6_ite (kvs6_st rfl (krs6_f_X12_stat_240 N (RS.setA (RS.setI σ 53 ((σ.i 53) + 1)) 64 ((x1 : Int32).toNatClampNeg) 6) x1)) kvs6_none) (kvs6_ite (kvs6_ite (kvs6_st rfl (krs6_f_X12_stat_240 N (RS.setA (RS.setI σ 53 ((σ.i 53) + 1)) 64 ((x1 : Int32).toNatClampNeg) 6) x1)) kvs6_none) (kvs6_ite (kvs6_ite (kvs6_st rfl (krs6_f_X12_stat_240 N (RS.setA (RS.setI σ 53 ((σ.i 53) + 1)) 64 ((x1 : Int32).toNatClampNeg) 7) x1)) kvs6_none) (kvs6_ite (kvs6_ite (kvs6_st rfl (krs6_f_X12_stat_240 N (RS.setA (RS.setI σ 53 ((σ.i 53) + 1)) 64 ((x1 : Int32).toNatClampNeg) 8) x1)) kvs6_none) (kvs6_ite (kvs6_ite (kvs6_st rfl (krs6_f_X12_stat_240 N (RS.setA (RS.setI σ 53 ((σ.i 53) + 1)) 64 ((x1 : Int32).toNatClampNeg) 9) x1)) kvs6_none) (kvs6_ite (kvs6_ite (kvs6_st rfl (krs6_f_X12_stat_240 N (RS.setA (RS.setI σ 53 ((σ.i 53) + 1)) 64 ((x1 : Int32).toNatClampNeg) 10) x1)) kvs6_none) (kvs6_ite (kvs6_ite (kvs6_st rfl (krs6_f_X12_stat_240 N (RS.setA (RS.setI σ 53 ((σ.i 53) + 1)) 64 ((x1 : Int32).toNatClampNeg) 11) x1)) kvs6_none) (kvs6_ite (kvs6_ite (kvs6_st rfl (krs6_f_X12_stat_240 N (RS.setA (RS.setI σ 53 ((σ.i 53) + 1)) 64 ((x1 : Int32).toNatClampNeg) 12) x1)) kvs6_none) (kvs6_ite (kvs6_ite (kvs6_st rfl (krs6_f_X12_stat_240 N (RS.setA (RS.setI σ 53 ((σ.i 53) + 1)) 64 ((x1 : Int32).toNatClampNeg) 13) x1)) kvs6_none) (kvs6_ite (kvs6_ite (kvs6_st rfl (krs6_f_X12_stat_240 N (RS.setA (RS.setI σ 53 ((σ.i 53) + 1)) 64 ((x1 : Int32).toNatClampNeg) 14) x1)) kvs6_none) (kvs6_ite (kvs6_ite (kvs6_st rfl (krs6_f_X12_stat_240 N (RS.setA (RS.setI σ 53 ((σ.i 53) + 1)) 64 ((x1 : Int32).toNatClampNeg) 15) x1)) kvs6_none) (kvs6_ite (kvs6_st rfl (krs6_f_X12_stat_240 N (RS.setA (RS.setI σ 53 ((σ.i 53) + 1)) 64 ((x1 : Int32).toNatClampNeg) 2) x1)) kvs6_none)))))))))))))))))
theorem krs6_f_X12_block (N : Nat) (σ : RS) (x1 : Int32) : KVs6 σ (f_X12_block N σ x1) := by
  unfold f_X12_block
  exact (kvs6_ite (kvs6_ite (kvs6_bind (krs6_st rfl (krs6_f_X12_open N σ 123)) (fun p5 => (kvs6_bindv (kvs6_st rfl (krs6_f_X12_then N (RS.setA p5.2 66 ((x1 : Int32).toNatClampNeg) (p5.2.i 38)) 1 1)) (fun p7 => (kvs6_some rfl))))) (kvs6_bind (krs6_st rfl (krs6_f_X12_shut N σ 125)) (fun p3 => (kvs6_some rfl)))) kvs6_none)
theorem krs6_f_X12_telling_22 (N : Nat) (σ : RS) (x1 : Int32) : KRs6 σ (f_X12_telling_22 N σ x1) := by
  unfold f_X12_telling_22
  exact (krs6_bind (krs6_st rfl (krs6_f_X12_seenAs N σ σ.l)) (fun p5 => (krs6_ite (krs6_ite (krs6_bindv (kvs6_st rfl (krs6_f_X12_next N (RS.setB (RS.setI p5.2 54 ((p5.2.i 54) + 1)) 74 ((x1 : Int32).toNatClampNeg) p5.2.l))) (fun p9 => (krs6_some rfl))) krs6_none) (krs6_bindv (kvs6_st rfl (krs6_f_X12_fail N p5.2 4 (p5.2.i 11))) (fun p11 => (krs6_some rfl))))))
theorem krs6_f_X12_telling_20 (N : Nat) (σ : RS) : KRs6 σ (f_X12_telling_20 N σ) := by
  unfold f_X12_telling_20
  exact (krs6_some rfl)
theorem krs6_f_X12_telling (N : Nat) (σ : RS) (x1 : Int32) : KRs6 σ (f_X12_telling N σ x1) := by
  unfold f_X12_telling
  exact (krs6_ite (krs6_bind (krs6_st rfl (krs6_f_X12_can N σ 1)) (fun p13 => (krs6_ite (krs6_st rfl (krs6_f_X12_telling_20 N p13.2)) (krs6_st rfl (krs6_f_X12_telling_22 N p13.2 x1))))) (krs6_bind (krs6_st rfl (krs6_f_X12_can N σ 0)) (fun p2 => (krs6_ite (krs6_st rfl (krs6_f_X12_telling_20 N p2.2)) (krs6_st rfl (krs6_f_X12_telling_22 N p2.2 x1))))))
theorem krs6_f_X12_tell (N : Nat) (σ : RS) (x1 : Int32) : KVs6 σ (f_X12_tell N σ x1) := by
  unfold f_X12_tell
  exact (kvs6_ite (kvs6_ite (kvs6_bindv (kvs6_st rfl (krs6_f_X12_next N σ)) (fun p11 => (kvs6_ite (kvs6_bind (krs6_st rfl (krs6_f_X12_telling N p11 x1)) (fun p14 => (kvs6_ite (kvs6_some rfl) (kvs6_bind (krs6_st rfl (krs6_f_X12_need N p14.2 61)) (fun p17 => (kvs6_bindv (kvs6_st rfl (krs6_f_X12_then N p17.2 1 16)) (fun p19 => (kvs6_some rfl)))))))) (kvs6_some rfl)))) (kvs6_bind (krs6_st rfl (krs6_f_X12_see N σ (σ.b 74 ((x1 : Int32).toNatClampNeg)) 0)) (fun p3 => (kvs6_bind (krs6_st rfl (krs6_f_X12_emit N p3.2 5 p3.1)) (fun p5 => (kvs6_bind (krs6_st rfl (krs6_f_X12_need N p5.2 59)) (fun p7 => (kvs6_bindv (kvs6_st rfl (krs6_f_X12_over N p7.2 1)) (fun p9 => (kvs6_some rfl)))))))))) kvs6_none)
theorem krs6_f_X12_label_188 (N : Nat) (σ : RS) : KVs6 σ (f_X12_label_188 N σ) := by
  unfold f_X12_label_188
  exact (kvs6_bindv (kvs6_st rfl (krs6_f_X12_body N σ 1)) (fun p10 => (kvs6_some rfl)))
theorem krs6_f_X12_label_168 (N : Nat) (σ : RS) : KVs6 σ (f_X12_label_168 N σ) := by
  unfold f_X12_label_168
  exact (kvs6_st rfl (krs6_f_X12_label_188 N σ))
theorem krs6_b_X12_label_125 (N : Nat) (K : RS → Int32 → Option (RS)) (hK : ∀ (σ : RS) (y0 : Int32), KVs6 σ (K σ y0)) (σ : RS) (x6 : Int32) : KVs6 σ (b_X12_label_125 N K σ x6) := by
  unfold b_X12_label_125
  exact (kvs6_ite (kvs6_st rfl (krs6_f_X12_label_168 N σ)) (kvs6_ite (kvs6_ite (kvs6_ite (kvs6_st rfl (hK (RS.setA σ 46 ((x6 : Int32).toNatClampNeg) (-3)) (x6 + (-1)))) (kvs6_st rfl (krs6_f_X12_label_168 N σ))) (kvs6_st rfl (krs6_f_X12_label_168 N σ))) kvs6_none))
theorem krs6_f_X12_label_125 (N : Nat) : ∀ (n : Nat) (σ : RS) (y0 : Int32), KVs6 σ (f_X12_label_125 N n σ y0)
  | 0, _, _ => kvs6_none
  | n+1, σ, y0 => krs6_b_X12_label_125 N (f_X12_label_125 N n) (fun σ y0 => krs6_f_X12_label_125 N n σ y0) σ y0
theorem krs6_f_X12_label_110 (N : Nat) (σ : RS) (x5 : Int32) : KVs6 σ (f_X12_label_110 N σ x5) := by
  unfold f_X12_label_110
  exact (kvs6_ite (kvs6_st rfl (krs6_f_X12_label_125 N N (RS.setA σ 46 ((x5 : Int32).toNatClampNeg) (-3)) (x5 - 1))) kvs6_none)
theorem krs6_f_X12_label_60 (N : Nat) (σ : RS) (x1 : Int32) (x2 : Int64) : KVs6 σ (f_X12_label_60 N σ x1 x2) := by
  unfold f_X12_label_60
  exact (kvs6_bind (krs6_st rfl (krs6_f_X12_goal N σ 2 x2)) (fun p2 => (kvs6_ite (kvs6_bindv (kvs6_st rfl (krs6_f_X12_next N (RS.setA p2.2 66 ((x1 : Int32).toNatClampNeg) p2.1))) (fun p5 => (kvs6_ite (kvs6_st rfl (krs6_f_X12_label_110 N p5 p2.1)) (kvs6_ite (kvs6_st rfl (krs6_f_X12_label_110 N p5 p2.1)) (kvs6_ite (kvs6_st rfl (krs6_f_X12_label_110 N p5 p2.1)) (kvs6_ite (kvs6_ite (kvs6_st rfl (krs6_f_X12_label_188 N (RS.setA p5 46 ((p2.1 : Int32).toNatClampNeg) (-2)))) kvs6_none) (kvs6_st rfl (krs6_f_X12_label_188 N p5)))))))) kvs6_none)))
theorem krs6_b_X12_label_8 (N : Nat) (K : RS → Int32 → Int64 → Int32 → Int32 → Option (RS)) (hK : ∀ (σ : RS) (y0 : Int32) (y1 : Int64) (y2 : Int32) (y3 : Int32), KVs6 σ (K σ y0 y1 y2 y3)) (σ : RS) (x1 : Int32) (x2 : Int64) (x4 : Int32) (x5 : Int32) : KVs6 σ (b_X12_label_8 N K σ x1 x2 x4 x5) := by
  unfold b_X12_label_8
  exact (kvs6_ite (kvs6_st rfl (krs6_f_X12_label_60 N σ x1 x2)) (kvs6_ite (kvs6_ite (kvs6_st rfl (krs6_f_X12_label_60 N σ x1 x2)) (kvs6_ite (kvs6_ite (kvs6_bindv (kvs6_st rfl (krs6_f_X12_fail N σ 4 x4)) (fun p23 => (kvs6_st rfl (hK p23 x1 x2 x4 (x5 + (-1)))))) (kvs6_st rfl (hK σ x1 x2 x4 (x5 + (-1))))) (kvs6_st rfl (hK σ x1 x2 x4 (x5 + (-1)))))) kvs6_none))
theorem krs6_f_X12_label_8 (N : Nat) : ∀ (n : Nat) (σ : RS) (y0 : Int32) (y1 : Int64) (y2 : Int32) (y3 : Int32), KVs6 σ (f_X12_label_8 N n σ y0 y1 y2 y3)
  | 0, _, _, _, _, _ => kvs6_none
  | n+1, σ, y0, y1, y2, y3 => krs6_b_X12_label_8 N (f_X12_label_8 N n) (fun σ y0 y1 y2 y3 => krs6_f_X12_label_8 N n σ y0 y1 y2 y3) σ y0 y1 y2 y3
theorem krs6_f_X12_label (N : Nat) (σ : RS) (x1 : Int32) (x2 : Int64) (x4 : Int32) : KVs6 σ (f_X12_label N σ x1 x2 x4) := by
  unfold f_X12_label
  exact (kvs6_st rfl (krs6_f_X12_label_8 N N σ x1 x2 x4 ((σ.i 43) - 1)))
theorem krs6_f_X12_got_22 (N : Nat) (σ : RS) (x3 : Int32) : KRs6 σ (f_X12_got_22 N σ x3) := by
  unfold f_X12_got_22
  exact (krs6_bindv (kvs6_st rfl (krs6_f_X12_fail N σ 3 x3)) (fun p4 => (krs6_some rfl)))
theorem krs6_f_X12_got (N : Nat) (σ : RS) (x1 : Int64) (x3 : Int32) : KRs6 σ (f_X12_got N σ x1 x3) := by
  unfold f_X12_got
  exact (krs6_bind (krs6_st rfl (krs6_f_X12_seenAs N σ x1)) (fun p1 => (krs6_ite (krs6_st rfl (krs6_f_X12_got_22 N p1.2 x3)) (krs6_ite (krs6_ite (krs6_some rfl) (krs6_st rfl (krs6_f_X12_got_22 N p1.2 x3))) krs6_none))))
theorem krs6_f_X12_named_207 (N : Nat) (σ : RS) (x1 : Int32) (x5 : Int32) (x6 : Int32) : KVs6 σ (f_X12_named_207 N σ x1 x5 x6) := by
  unfold f_X12_named_207
  exact (kvs6_bindv (kvs6_st rfl (krs6_f_X12_next N σ)) (fun p17 => (kvs6_ite (kvs6_ite (kvs6_bindv (kvs6_st rfl (krs6_f_X12_then N (RS.setA p17 66 ((x1 : Int32).toNatClampNeg) x5) 2 16)) (fun p21 => (kvs6_some rfl))) kvs6_none) (kvs6_bind (krs6_st rfl (krs6_f_X12_emit N p17 6 x5)) (fun p23 => (kvs6_bind (krs6_st rfl (krs6_f_X12_need N p23.2 59)) (fun p25 => (kvs6_bindv (kvs6_st rfl (krs6_f_X12_over N p25.2 1)) (fun p27 => (kvs6_some rfl))))))))))
theorem krs6_f_X12_named_183 (N : Nat) (σ : RS) (x1 : Int32) (x5 : Int32) : KVs6 σ (f_X12_named_183 N σ x1 x5) := by
  unfold f_X12_named_183
  exact (kvs6_bind (krs6_st rfl (krs6_f_X12_emit N σ 1 0)) (fun p14 => (kvs6_ite (kvs6_st rfl (krs6_f_X12_named_207 N p14.2 x1 x5 1)) (kvs6_st rfl (krs6_f_X12_named_207 N p14.2 x1 x5 0)))))
theorem krs6_f_X12_named (N : Nat) (σ : RS) (x1 : Int32) : KVs6 σ (f_X12_named N σ x1) := by
  unfold f_X12_named
  exact (kvs6_ite (kvs6_ite (kvs6_ite (kvs6_bindv (kvs6_st rfl (krs6_f_X12_patch N σ (σ.a 48 (((σ.a 66 ((x1 : Int32).toNatClampNeg)) : Int32).toNatClampNeg)) (σ.i 20))) (fun p45 => (kvs6_ite (kvs6_ite (kvs6_bindv (kvs6_st rfl (krs6_f_X12_over N (RS.setI p45 43 ((p45.i 43) - 1)) 0)) (fun p51 => (kvs6_some rfl))) (kvs6_bindv (kvs6_st rfl (krs6_f_X12_over N (RS.setI p45 43 ((p45.i 43) - 1)) 1)) (fun p53 => (kvs6_some rfl)))) (kvs6_bindv (kvs6_st rfl (krs6_f_X12_over N (RS.setI p45 43 ((p45.i 43) - 1)) 1)) (fun p48 => (kvs6_some rfl)))))) kvs6_none) (kvs6_ite (kvs6_bind (krs6_st rfl (krs6_f_X12_emit N σ 5 (σ.a 66 ((x1 : Int32).toNatClampNeg)))) (fun p38 => (kvs6_bind (krs6_st rfl (krs6_f_X12_need N p38.2 59)) (fun p40 => (kvs6_bindv (kvs6_st rfl (krs6_f_X12_over N p40.2 1)) (fun p42 => (kvs6_some rfl))))))) (kvs6_bindv (kvs6_st rfl (krs6_f_X12_next N σ)) (fun p4 => (kvs6_ite (kvs6_bindv (kvs6_st rfl (krs6_f_X12_label N p4 x1 σ.l (σ.i 11))) (fun p36 => (kvs6_some rfl))) (kvs6_bind (krs6_st rfl (krs6_f_X12_got N p4 σ.l (σ.i 11))) (fun p7 => (kvs6_ite (kvs6_ite (kvs6_bind (krs6_st rfl (krs6_f_X12_can N p7.2 1)) (fun p11 => (kvs6_ite (kvs6_some rfl) (kvs6_st rfl (krs6_f_X12_named_183 N p11.2 x1 p7.1))))) (kvs6_ite (kvs6_bind (krs6_st rfl (krs6_f_X12_can N p7.2 1)) (fun p33 => (kvs6_ite (kvs6_some rfl) (kvs6_st rfl (krs6_f_X12_named_183 N p33.2 x1 p7.1))))) (kvs6_bind (krs6_st rfl (krs6_f_X12_can N p7.2 0)) (fun p30 => (kvs6_ite (kvs6_some rfl) (kvs6_st rfl (krs6_f_X12_named_183 N p30.2 x1 p7.1))))))) (kvs6_some rfl))))))))) kvs6_none)
theorem krs6_b_X12_isInArms_2 (N : Nat) (K : RS → Int32 → Option (Int32 × RS)) (hK : ∀ (σ : RS) (y0 : Int32), KRs6 σ (K σ y0)) (σ : RS) (x1 : Int32) : KRs6 σ (b_X12_isInArms_2 N K σ x1) := by
  unfold b_X12_isInArms_2
  exact (krs6_ite (krs6_some rfl) (krs6_ite (krs6_ite (krs6_some rfl) (krs6_st rfl (hK σ (x1 + 1)))) krs6_none))
theorem krs6_f_X12_isInArms_2 (N : Nat) : ∀ (n : Nat) (σ : RS) (y0 : Int32), KRs6 σ (f_X12_isInArms_2 N n σ y0)
  | 0, _, _ => krs6_none
  | n+1, σ, y0 => krs6_b_X12_isInArms_2 N (f_X12_isInArms_2 N n) (fun σ y0 => krs6_f_X12_isInArms_2 N n σ y0) σ y0
theorem krs6_f_X12_isInArms (N : Nat) (σ : RS) : KRs6 σ (f_X12_isInArms N σ) := by
  unfold f_X12_isInArms
  exact (krs6_st rfl (krs6_f_X12_isInArms_2 N N σ 0))
theorem krs6_b_X12_ending_119 (N : Nat) (K : RS → Int32 → Int32 → Int32 → Option (RS)) (hK : ∀ (σ : RS) (y0 : Int32) (y1 : Int32) (y2 : Int32), KVs6 σ (K σ y0 y1 y2)) (σ : RS) (x1 : Int32) (x2 : Int32) (x3 : Int32) : KVs6 σ (b_X12_ending_119 N K σ x1 x2 x3) := by
  unfold b_X12_ending_119
  exact (kvs6_ite (kvs6_bind (krs6_st rfl (krs6_f_X12_need N σ 59)) (fun p8 => (kvs6_ite (kvs6_ite (kvs6_bindv (kvs6_st rfl (krs6_f_X12_over N p8.2 1)) (fun p14 => (kvs6_some rfl))) (kvs6_bindv (kvs6_st rfl (krs6_f_X12_over N p8.2 0)) (fun p12 => (kvs6_some rfl)))) kvs6_none))) (kvs6_ite (kvs6_ite (kvs6_ite (kvs6_st rfl (hK (RS.setA σ 23 ((x2 : Int32).toNatClampNeg) (σ.a 47 ((x3 : Int32).toNatClampNeg))) x1 x2 (x3 + 1))) kvs6_none) (kvs6_ite (kvs6_st rfl (hK (RS.setA σ 23 ((x2 : Int32).toNatClampNeg) (σ.a 23 ((x2 : Int32).toNatClampNeg))) x1 x2 (x3 + 1))) kvs6_none)) kvs6_none))
theorem krs6_f_X12_ending_119 (N : Nat) : ∀ (n : Nat) (σ : RS) (y0 : Int32) (y1 : Int32) (y2 : Int32), KVs6 σ (f_X12_ending_119 N n σ y0 y1 y2)
  | 0, _, _, _, _ => kvs6_none
  | n+1, σ, y0, y1, y2 => krs6_b_X12_ending_119 N (f_X12_ending_119 N n) (fun σ y0 y1 y2 => krs6_f_X12_ending_119 N n σ y0 y1 y2) σ y0 y1 y2
theorem krs6_f_X12_ending_117 (N : Nat) (σ : RS) (x1 : Int32) (x2 : Int32) : KVs6 σ (f_X12_ending_117 N σ x1 x2) := by
  unfold f_X12_ending_117
  exact (kvs6_st rfl (krs6_f_X12_ending_119 N N σ x1 x2 0))
theorem krs6_f_X12_ending_63 (N : Nat) (σ : RS) : KVs6 σ (f_X12_ending_63 N σ) := by
  unfold f_X12_ending_63
  exact (kvs6_bindv (kvs6_st rfl (krs6_f_X12_next N σ)) (fun p26 => (kvs6_bindv (kvs6_st rfl (krs6_f_X12_then N p26 1 16)) (fun p28 => (kvs6_some rfl)))))
theorem krs6_f_X12_ending_53 (N : Nat) (σ : RS) : KVs6 σ (f_X12_ending_53 N σ) := by
  unfold f_X12_ending_53
  exact (kvs6_bindv (kvs6_st rfl (krs6_f_X12_fail N σ 5 (σ.i 11))) (fun p33 => (kvs6_some rfl)))
theorem krs6_f_X12_ending_36 (N : Nat) (σ : RS) : KVs6 σ (f_X12_ending_36 N σ) := by
  unfold f_X12_ending_36
  exact (kvs6_ite (kvs6_bind (krs6_st rfl (krs6_f_X12_isInArms N σ)) (fun p30 => (kvs6_ite (kvs6_st rfl (krs6_f_X12_ending_53 N p30.2)) (kvs6_st rfl (krs6_f_X12_ending_63 N p30.2))))) (kvs6_st rfl (krs6_f_X12_ending_63 N σ)))
theorem krs6_f_X12_ending (N : Nat) (σ : RS) (x1 : Int32) : KVs6 σ (f_X12_ending N σ x1) := by
  unfold f_X12_ending
  exact (kvs6_ite (kvs6_ite (kvs6_ite (kvs6_bind (krs6_st rfl (krs6_f_X12_isInArms N (RS.setA σ 66 ((x1 : Int32).toNatClampNeg) (σ.i 10)))) (fun p35 => (kvs6_ite (kvs6_st rfl (krs6_f_X12_ending_36 N p35.2)) (kvs6_st rfl (krs6_f_X12_ending_53 N p35.2))))) (kvs6_st rfl (krs6_f_X12_ending_36 N (RS.setA σ 66 ((x1 : Int32).toNatClampNeg) (σ.i 10))))) (kvs6_ite (kvs6_bind (krs6_st rfl (krs6_f_X12_emit N σ 16 0)) (fun p22 => (kvs6_st rfl (krs6_f_X12_ending_117 N p22.2 x1 p22.1)))) (kvs6_ite (kvs6_bind (krs6_st rfl (krs6_f_X12_emit N σ 17 0)) (fun p20 => (kvs6_st rfl (krs6_f_X12_ending_117 N p20.2 x1 p20.1)))) (kvs6_bind (krs6_st rfl (krs6_f_X12_emit N σ 18 0)) (fun p5 => (kvs6_st rfl (krs6_f_X12_ending_117 N p5.2 x1 p5.1))))))) kvs6_none)
theorem krs6_f_X12_throwing_142 (N : Nat) (σ : RS) : KVs6 σ (f_X12_throwing_142 N σ) := by
  unfold f_X12_throwing_142
  exact (kvs6_bindv (kvs6_st rfl (krs6_f_X12_fail N σ 3 (σ.i 11))) (fun p13 => (kvs6_some rfl)))
theorem krs6_f_X12_throwing_69 (N : Nat) (σ : RS) (x1 : Int32) : KVs6 σ (f_X12_throwing_69 N σ x1) := by
  unfold f_X12_throwing_69
  exact (kvs6_ite (kvs6_ite (kvs6_ite (kvs6_bindv (kvs6_st rfl (krs6_f_X12_next N (RS.setA σ 66 ((x1 : Int32).toNatClampNeg) (σ.i 14)))) (fun p27 => (kvs6_bindv (kvs6_st rfl (krs6_f_X12_then N p27 1 16)) (fun p29 => (kvs6_some rfl))))) kvs6_none) (kvs6_bindv (kvs6_st rfl (krs6_f_X12_fail N σ 3 (σ.i 11))) (fun p31 => (kvs6_some rfl)))) (kvs6_bind (krs6_st rfl (krs6_f_X12_seenAs N σ σ.l)) (fun p10 => (kvs6_ite (kvs6_st rfl (krs6_f_X12_throwing_142 N p10.2)) (kvs6_ite (kvs6_ite (kvs6_st rfl (krs6_f_X12_throwing_142 N p10.2)) (kvs6_bind (krs6_st rfl (krs6_f_X12_emit N p10.2 21 (p10.2.a 40 ((p10.1 : Int32).toNatClampNeg)))) (fun p17 => (kvs6_bindv (kvs6_st rfl (krs6_f_X12_next N p17.2)) (fun p19 => (kvs6_bind (krs6_st rfl (krs6_f_X12_need N p19 59)) (fun p21 => (kvs6_bindv (kvs6_st rfl (krs6_f_X12_over N p21.2 0)) (fun p23 => (kvs6_some rfl)))))))))) kvs6_none)))))
theorem krs6_f_X12_throwing (N : Nat) (σ : RS) (x1 : Int32) : KVs6 σ (f_X12_throwing N σ x1) := by
  unfold f_X12_throwing
  exact (kvs6_ite (kvs6_ite (kvs6_bind (krs6_st rfl (krs6_f_X12_emit N σ 19 (σ.a 66 ((x1 : Int32).toNatClampNeg)))) (fun p40 => (kvs6_bind (krs6_st rfl (krs6_f_X12_need N p40.2 59)) (fun p42 => (kvs6_bindv (kvs6_st rfl (krs6_f_X12_over N p42.2 0)) (fun p44 => (kvs6_some rfl))))))) (kvs6_bindv (kvs6_st rfl (krs6_f_X12_next N σ)) (fun p3 => (kvs6_ite (kvs6_bind (krs6_st rfl (krs6_f_X12_can N p3 1)) (fun p6 => (kvs6_ite (kvs6_some rfl) (kvs6_st rfl (krs6_f_X12_throwing_69 N p6.2 x1))))) (kvs6_ite (kvs6_bind (krs6_st rfl (krs6_f_X12_can N p3 1)) (fun p37 => (kvs6_ite (kvs6_some rfl) (kvs6_st rfl (krs6_f_X12_throwing_69 N p37.2 x1))))) (kvs6_bind (krs6_st rfl (krs6_f_X12_can N p3 0)) (fun p34 => (kvs6_ite (kvs6_some rfl) (kvs6_st rfl (krs6_f_X12_throwing_69 N p34.2 x1)))))))))) kvs6_none)
theorem krs6_f_X12_asserted (N : Nat) (σ : RS) (x1 : Int32) : KVs6 σ (f_X12_asserted N σ x1) := by
  unfold f_X12_asserted
  exact (kvs6_ite (kvs6_ite (kvs6_bindv (kvs6_st rfl (krs6_f_X12_next N σ)) (fun p3 => (kvs6_bind (krs6_st rfl (krs6_f_X12_emit N p3 22 0)) (fun p5 => (kvs6_bindv (kvs6_st rfl (krs6_f_X12_then N (RS.setA p5.2 66 ((x1 : Int32).toNatClampNeg) p5.1) 1 20)) (fun p7 => (kvs6_some rfl))))))) (kvs6_ite (kvs6_bind (krs6_st rfl (krs6_f_X12_emit N σ 14 0)) (fun p10 => (kvs6_ite (kvs6_bindv (kvs6_st rfl (krs6_f_X12_next N (RS.setA p10.2 67 ((x1 : Int32).toNatClampNeg) p10.1))) (fun p15 => (kvs6_bindv (kvs6_st rfl (krs6_f_X12_then N p15 2 16)) (fun p17 => (kvs6_some rfl))))) (kvs6_bind (krs6_st rfl (krs6_f_X12_emit N (RS.setA p10.2 67 ((x1 : Int32).toNatClampNeg) p10.1) 2 0)) (fun p13 => (kvs6_some rfl)))))) (kvs6_bind (krs6_st rfl (krs6_f_X12_emit N σ 19 3)) (fun p19 => (kvs6_ite (kvs6_ite (kvs6_bind (krs6_st rfl (krs6_f_X12_need N (RS.setA (RS.setA p19.2 22 (((p19.2.a 66 ((x1 : Int32).toNatClampNeg)) : Int32).toNatClampNeg) (p19.2.i 20)) 22 (((p19.2.a 67 ((x1 : Int32).toNatClampNeg)) : Int32).toNatClampNeg) (p19.2.i 20)) 59)) (fun p23 => (kvs6_bindv (kvs6_st rfl (krs6_f_X12_over N p23.2 1)) (fun p25 => (kvs6_some rfl))))) kvs6_none) kvs6_none))))) kvs6_none)
theorem krs6_f_X12_branch_113 (N : Nat) (σ : RS) (x1 : Int32) : KVs6 σ (f_X12_branch_113 N σ x1) := by
  unfold f_X12_branch_113
  exact (kvs6_bind (krs6_st rfl (krs6_f_X12_emit N σ 15 0)) (fun p24 => (kvs6_ite (kvs6_ite (kvs6_bindv (kvs6_st rfl (krs6_f_X12_body N (RS.setA (RS.setA p24.2 68 ((x1 : Int32).toNatClampNeg) p24.1) 22 (((p24.2.a 66 ((x1 : Int32).toNatClampNeg)) : Int32).toNatClampNeg) (p24.2.i 20)) 3)) (fun p28 => (kvs6_some rfl))) kvs6_none) kvs6_none)))
theorem krs6_f_X12_branch (N : Nat) (σ : RS) (x1 : Int32) : KVs6 σ (f_X12_branch N σ x1) := by
  unfold f_X12_branch
  exact (kvs6_ite (kvs6_ite (kvs6_bindv (kvs6_st rfl (krs6_f_X12_next N σ)) (fun p3 => (kvs6_bind (krs6_st rfl (krs6_f_X12_open N p3 40)) (fun p5 => (kvs6_bindv (kvs6_st rfl (krs6_f_X12_then N p5.2 1 20)) (fun p7 => (kvs6_some rfl))))))) (kvs6_ite (kvs6_bind (krs6_st rfl (krs6_f_X12_shut N σ 41)) (fun p10 => (kvs6_bind (krs6_st rfl (krs6_f_X12_emit N p10.2 13 0)) (fun p12 => (kvs6_bindv (kvs6_st rfl (krs6_f_X12_body N (RS.setA p12.2 66 ((x1 : Int32).toNatClampNeg) p12.1) 2)) (fun p14 => (kvs6_some rfl))))))) (kvs6_ite (kvs6_ite (kvs6_bindv (kvs6_st rfl (krs6_f_X12_next N σ)) (fun p21 => (kvs6_ite (kvs6_st rfl (krs6_f_X12_branch_113 N (RS.setA p21 67 ((x1 : Int32).toNatClampNeg) 0) x1)) (kvs6_st rfl (krs6_f_X12_branch_113 N (RS.setA p21 67 ((x1 : Int32).toNatClampNeg) 1) x1))))) (kvs6_ite (kvs6_bindv (kvs6_st rfl (krs6_f_X12_over N (RS.setA σ 22 (((σ.a 66 ((x1 : Int32).toNatClampNeg)) : Int32).toNatClampNeg) (σ.i 20)) 1)) (fun p19 => (kvs6_some rfl))) kvs6_none)) (kvs6_ite (kvs6_ite (kvs6_ite (kvs6_bindv (kvs6_st rfl (krs6_f_X12_over N (RS.setA σ 22 (((σ.a 68 ((x1 : Int32).toNatClampNeg)) : Int32).toNatClampNeg) (σ.i 20)) 1)) (fun p37 => (kvs6_some rfl))) (kvs6_bindv (kvs6_st rfl (krs6_f_X12_over N (RS.setA σ 22 (((σ.a 68 ((x1 : Int32).toNatClampNeg)) : Int32).toNatClampNeg) (σ.i 20)) 0)) (fun p35 => (kvs6_some rfl)))) (kvs6_bindv (kvs6_st rfl (krs6_f_X12_over N (RS.setA σ 22 (((σ.a 68 ((x1 : Int32).toNatClampNeg)) : Int32).toNatClampNeg) (σ.i 20)) 1)) (fun p32 => (kvs6_some rfl)))) kvs6_none)))) kvs6_none)
theorem krs6_f_X12_isJustTrue_18 (N : Nat) (σ : RS) : KRs6 σ (f_X12_isJustTrue_18 N σ) := by
  unfold f_X12_isJustTrue_18
  exact (krs6_some rfl)
theorem krs6_f_X12_isJustTrue (N : Nat) (σ : RS) (x1 : Int32) : KRs6 σ (f_X12_isJustTrue N σ x1) := by
  unfold f_X12_isJustTrue
  exact (krs6_ite (krs6_st rfl (krs6_f_X12_isJustTrue_18 N σ)) (krs6_ite (krs6_some rfl) (krs6_st rfl (krs6_f_X12_isJustTrue_18 N σ))))
theorem krs6_f_X12_whiles_77 (N : Nat) (σ : RS) : KVs6 σ (f_X12_whiles_77 N σ) := by
  unfold f_X12_whiles_77
  exact (kvs6_bindv (kvs6_st rfl (krs6_f_X12_then N σ 1 20)) (fun p8 => (kvs6_some rfl)))
theorem krs6_f_X12_whiles_111 (N : Nat) (σ : RS) (x1 : Int32) : KVs6 σ (f_X12_whiles_111 N σ x1) := by
  unfold f_X12_whiles_111
  exact (kvs6_bind (krs6_st rfl (krs6_f_X12_shut N σ 41)) (fun p14 => (kvs6_bind (krs6_st rfl (krs6_f_X12_emit N p14.2 13 0)) (fun p16 => (kvs6_ite (kvs6_bind (krs6_st rfl (krs6_f_X12_emit N (RS.setA p16.2 67 ((x1 : Int32).toNatClampNeg) p16.1) 1 0)) (fun p19 => (kvs6_bind (krs6_st rfl (krs6_f_X12_loopGoal N p19.2)) (fun p21 => (kvs6_bindv (kvs6_st rfl (krs6_f_X12_body N (RS.setA p21.2 68 ((x1 : Int32).toNatClampNeg) p21.1) 2)) (fun p23 => (kvs6_some rfl))))))) kvs6_none)))))
theorem krs6_f_X12_whiles (N : Nat) (σ : RS) (x1 : Int32) : KVs6 σ (f_X12_whiles N σ x1) := by
  unfold f_X12_whiles
  exact (kvs6_ite (kvs6_ite (kvs6_bindv (kvs6_st rfl (krs6_f_X12_next N σ)) (fun p3 => (kvs6_bind (krs6_st rfl (krs6_f_X12_open N (RS.setA p3 66 ((x1 : Int32).toNatClampNeg) (p3.i 20)) 40)) (fun p5 => (kvs6_ite (kvs6_st rfl (krs6_f_X12_whiles_77 N (RS.setA p5.2 69 ((x1 : Int32).toNatClampNeg) (p5.2.i 17)))) (kvs6_st rfl (krs6_f_X12_whiles_77 N (RS.setA p5.2 69 ((x1 : Int32).toNatClampNeg) 0)))))))) (kvs6_ite (kvs6_bind (krs6_st rfl (krs6_f_X12_isJustTrue N σ (σ.a 69 ((x1 : Int32).toNatClampNeg)))) (fun p11 => (kvs6_ite (kvs6_st rfl (krs6_f_X12_whiles_111 N (RS.setA p11.2 71 ((x1 : Int32).toNatClampNeg) 0) x1)) (kvs6_st rfl (krs6_f_X12_whiles_111 N (RS.setA p11.2 71 ((x1 : Int32).toNatClampNeg) 1) x1))))) (kvs6_ite (kvs6_bindv (kvs6_st rfl (krs6_f_X12_patch N σ (σ.a 49 (((σ.a 68 ((x1 : Int32).toNatClampNeg)) : Int32).toNatClampNeg)) (σ.a 66 ((x1 : Int32).toNatClampNeg)))) (fun p26 => (kvs6_bind (krs6_st rfl (krs6_f_X12_emit N p26 15 (p26.a 66 ((x1 : Int32).toNatClampNeg)))) (fun p28 => (kvs6_ite (kvs6_bindv (kvs6_st rfl (krs6_f_X12_patch N (RS.setA p28.2 22 (((p28.2.a 67 ((x1 : Int32).toNatClampNeg)) : Int32).toNatClampNeg) (p28.2.i 20)) (p28.2.a 48 (((σ.a 68 ((x1 : Int32).toNatClampNeg)) : Int32).toNatClampNeg)) (p28.2.i 20))) (fun p31 => (kvs6_ite (kvs6_bindv (kvs6_st rfl (krs6_f_X12_over N (RS.setI p31 43 ((p31.i 43) - 1)) 1)) (fun p34 => (kvs6_some rfl))) (kvs6_ite (kvs6_bindv (kvs6_st rfl (krs6_f_X12_over N (RS.setI p31 43 ((p31.i 43) - 1)) 0)) (fun p37 => (kvs6_some rfl))) (kvs6_bindv (kvs6_st rfl (krs6_f_X12_over N (RS.setI p31 43 ((p31.i 43) - 1)) 1)) (fun p39 => (kvs6_some rfl))))))) kvs6_none))))) kvs6_none))) kvs6_none)
theorem krs6_f_X12_repeats_195 (N : Nat) (σ : RS) : KVs6 σ (f_X12_repeats_195 N σ) := by
  unfold f_X12_repeats_195
  exact (kvs6_bindv (kvs6_st rfl (krs6_f_X12_then N σ 2 20)) (fun p26 => (kvs6_some rfl)))
theorem krs6_f_X12_repeats_134 (N : Nat) (σ : RS) (x1 : Int32) (x2 : Int32) : KVs6 σ (f_X12_repeats_134 N σ x1 x2) := by
  unfold f_X12_repeats_134
  exact (kvs6_ite (kvs6_ite (kvs6_bind (krs6_st rfl (krs6_f_X12_need N (RS.setI (RS.setA σ 70 ((x1 : Int32).toNatClampNeg) (σ.a 48 ((x2 : Int32).toNatClampNeg))) 43 ((σ.i 43) - 1)) 415)) (fun p21 => (kvs6_bind (krs6_st rfl (krs6_f_X12_open N p21.2 40)) (fun p23 => (kvs6_ite (kvs6_st rfl (krs6_f_X12_repeats_195 N (RS.setA p23.2 69 ((x1 : Int32).toNatClampNeg) (p23.2.i 17)))) (kvs6_st rfl (krs6_f_X12_repeats_195 N (RS.setA p23.2 69 ((x1 : Int32).toNatClampNeg) 0)))))))) kvs6_none) kvs6_none)
theorem krs6_f_X12_repeats_114 (N : Nat) (σ : RS) (x1 : Int32) (x2 : Int32) : KVs6 σ (f_X12_repeats_114 N σ x1 x2) := by
  unfold f_X12_repeats_114
  exact (kvs6_ite (kvs6_ite (kvs6_ite (kvs6_st rfl (krs6_f_X12_repeats_134 N (RS.setA σ 72 ((x1 : Int32).toNatClampNeg) 0) x1 x2)) kvs6_none) (kvs6_ite (kvs6_st rfl (krs6_f_X12_repeats_134 N (RS.setA σ 72 ((x1 : Int32).toNatClampNeg) 1) x1 x2)) kvs6_none)) kvs6_none)
theorem krs6_f_X12_repeats (N : Nat) (σ : RS) (x1 : Int32) : KVs6 σ (f_X12_repeats N σ x1) := by
  unfold f_X12_repeats
  exact (kvs6_ite (kvs6_ite (kvs6_bindv (kvs6_st rfl (krs6_f_X12_next N σ)) (fun p3 => (kvs6_bind (krs6_st rfl (krs6_f_X12_emit N p3 1 0)) (fun p5 => (kvs6_bind (krs6_st rfl (krs6_f_X12_loopGoal N (RS.setA p5.2 66 ((x1 : Int32).toNatClampNeg) p5.1))) (fun p7 => (kvs6_bindv (kvs6_st rfl (krs6_f_X12_body N (RS.setA p7.2 68 ((x1 : Int32).toNatClampNeg) p7.1) 1)) (fun p9 => (kvs6_some rfl))))))))) (kvs6_ite (kvs6_ite (kvs6_bindv (kvs6_st rfl (krs6_f_X12_patch N σ (σ.a 49 (((σ.a 68 ((x1 : Int32).toNatClampNeg)) : Int32).toNatClampNeg)) (σ.i 20))) (fun p13 => (kvs6_ite (kvs6_ite (kvs6_st rfl (krs6_f_X12_repeats_114 N (RS.setA p13 67 ((x1 : Int32).toNatClampNeg) 0) x1 (σ.a 68 ((x1 : Int32).toNatClampNeg)))) (kvs6_st rfl (krs6_f_X12_repeats_114 N (RS.setA p13 67 ((x1 : Int32).toNatClampNeg) 1) x1 (σ.a 68 ((x1 : Int32).toNatClampNeg))))) (kvs6_st rfl (krs6_f_X12_repeats_114 N (RS.setA p13 67 ((x1 : Int32).toNatClampNeg) 1) x1 (σ.a 68 ((x1 : Int32).toNatClampNeg))))))) kvs6_none) (kvs6_bind (krs6_st rfl (krs6_f_X12_isJustTrue N σ (σ.a 69 ((x1 : Int32).toNatClampNeg)))) (fun p30 => (kvs6_bind (krs6_st rfl (krs6_f_X12_shut N p30.2 41)) (fun p32 => (kvs6_bind (krs6_st rfl (krs6_f_X12_need N p32.2 59)) (fun p34 => (kvs6_bind (krs6_st rfl (krs6_f_X12_emit N p34.2 14 (p34.2.a 66 ((x1 : Int32).toNatClampNeg)))) (fun p36 => (kvs6_bindv (kvs6_st rfl (krs6_f_X12_patch N p36.2 (p36.2.a 70 ((x1 : Int32).toNatClampNeg)) (p36.2.i 20))) (fun p38 => (kvs6_ite (kvs6_ite (kvs6_bindv (kvs6_st rfl (krs6_f_X12_over N p38 1)) (fun p47 => (kvs6_some rfl))) (kvs6_ite (kvs6_bindv (kvs6_st rfl (krs6_f_X12_over N p38 1)) (fun p52 => (kvs6_some rfl))) (kvs6_bindv (kvs6_st rfl (krs6_f_X12_over N p38 0)) (fun p50 => (kvs6_some rfl))))) (kvs6_ite (kvs6_bindv (kvs6_st rfl (krs6_f_X12_over N p38 1)) (fun p44 => (kvs6_some rfl))) (kvs6_bindv (kvs6_st rfl (krs6_f_X12_over N p38 0)) (fun p42 => (kvs6_some rfl))))))))))))))))) kvs6_none)
theorem krs6_f_X12_forHead_231 (N : Nat) (σ : RS) (x1 : Int32) : KVs6 σ (f_X12_forHead_231 N σ x1) := by
  unfold f_X12_forHead_231
  exact (kvs6_ite (kvs6_some rfl) kvs6_none)
theorem krs6_f_X12_forHead_196 (N : Nat) (σ : RS) : KVs6 σ (f_X12_forHead_196 N σ) := by
  unfold f_X12_forHead_196
  exact (kvs6_bindv (kvs6_st rfl (krs6_f_X12_next N σ)) (fun p21 => (kvs6_bindv (kvs6_st rfl (krs6_f_X12_then N p21 2 16)) (fun p23 => (kvs6_some rfl)))))
theorem krs6_f_X12_forHead_142 (N : Nat) (σ : RS) : KVs6 σ (f_X12_forHead_142 N σ) := by
  unfold f_X12_forHead_142
  exact (kvs6_some rfl)
theorem krs6_f_X12_forHead_76 (N : Nat) (σ : RS) (x1 : Int32) (x2 : Int32) : KVs6 σ (f_X12_forHead_76 N σ x1 x2) := by
  unfold f_X12_forHead_76
  exact (kvs6_bindv (kvs6_st rfl (krs6_f_X12_next N σ)) (fun p38 => (kvs6_ite (kvs6_bindv (kvs6_st rfl (krs6_f_X12_then N p38 1 16)) (fun p50 => (kvs6_st rfl (krs6_f_X12_forHead_142 N p50)))) (kvs6_ite (kvs6_bindv (kvs6_st rfl (krs6_f_X12_next N p38)) (fun p45 => (kvs6_bind (krs6_st rfl (krs6_f_X12_emit N p45 20 1)) (fun p47 => (kvs6_ite (kvs6_st rfl (krs6_f_X12_forHead_142 N (RS.setA p47.2 65 ((x1 : Int32).toNatClampNeg) 12))) kvs6_none))))) (kvs6_ite (kvs6_bindv (kvs6_st rfl (krs6_f_X12_then N (RS.setA p38 68 ((x1 : Int32).toNatClampNeg) 0) 10 16)) (fun p43 => (kvs6_st rfl (krs6_f_X12_forHead_142 N p43)))) kvs6_none)))))
theorem krs6_f_X12_forHead_61 (N : Nat) (σ : RS) (x1 : Int32) : KVs6 σ (f_X12_forHead_61 N σ x1) := by
  unfold f_X12_forHead_61
  exact (kvs6_ite (kvs6_st rfl (krs6_f_X12_forHead_76 N σ x1 1)) (kvs6_st rfl (krs6_f_X12_forHead_76 N σ x1 0)))
theorem krs6_f_X12_forHead (N : Nat) (σ : RS) (x1 : Int32) : KVs6 σ (f_X12_forHead N σ x1) := by
  unfold f_X12_forHead
  exact (kvs6_ite (kvs6_ite (kvs6_bindv (kvs6_st rfl (krs6_f_X12_next N σ)) (fun p28 => (kvs6_bind (krs6_st rfl (krs6_f_X12_telling N p28 x1)) (fun p30 => (kvs6_ite (kvs6_some rfl) (kvs6_ite (kvs6_bind (krs6_st rfl (krs6_f_X12_can N p30.2 1)) (fun p34 => (kvs6_ite (kvs6_some rfl) (kvs6_st rfl (krs6_f_X12_forHead_61 N p34.2 x1))))) (kvs6_ite (kvs6_bind (krs6_st rfl (krs6_f_X12_can N p30.2 1)) (fun p56 => (kvs6_ite (kvs6_some rfl) (kvs6_st rfl (krs6_f_X12_forHead_61 N p56.2 x1))))) (kvs6_bind (krs6_st rfl (krs6_f_X12_can N p30.2 0)) (fun p53 => (kvs6_ite (kvs6_some rfl) (kvs6_st rfl (krs6_f_X12_forHead_61 N p53.2 x1)))))))))))) (kvs6_ite (kvs6_bind (krs6_st rfl (krs6_f_X12_got N σ σ.l (σ.i 11))) (fun p12 => (kvs6_ite (kvs6_bindv (kvs6_st rfl (krs6_f_X12_next N (RS.setA p12.2 66 ((x1 : Int32).toNatClampNeg) p12.1))) (fun p15 => (kvs6_ite (kvs6_bind (krs6_st rfl (krs6_f_X12_can N p15 1)) (fun p25 => (kvs6_ite (kvs6_some rfl) (kvs6_st rfl (krs6_f_X12_forHead_196 N p25.2))))) (kvs6_bind (krs6_st rfl (krs6_f_X12_can N p15 0)) (fun p18 => (kvs6_ite (kvs6_some rfl) (kvs6_st rfl (krs6_f_X12_forHead_196 N p18.2)))))))) kvs6_none))) (kvs6_ite (kvs6_bind (krs6_st rfl (krs6_f_X12_can N σ 1)) (fun p9 => (kvs6_ite (kvs6_some rfl) (kvs6_st rfl (krs6_f_X12_forHead_231 N p9.2 x1))))) (kvs6_bind (krs6_st rfl (krs6_f_X12_can N σ 0)) (fun p5 => (kvs6_ite (kvs6_some rfl) (kvs6_st rfl (krs6_f_X12_forHead_231 N p5.2 x1)))))))) (kvs6_some rfl))
theorem krs6_f_X12_forBehind_59 (N : Nat) (σ : RS) (x1 : Int32) : KVs6 σ (f_X12_forBehind_59 N σ x1) := by
  unfold f_X12_forBehind_59
  exact (kvs6_ite (kvs6_some rfl) kvs6_none)
theorem krs6_f_X12_forBehind_159 (N : Nat) (σ : RS) (x1 : Int32) (x2 : Int32) : KVs6 σ (f_X12_forBehind_159 N σ x1 x2) := by
  unfold f_X12_forBehind_159
  exact (kvs6_bindv (kvs6_st rfl (krs6_f_X12_next N σ)) (fun p25 => (kvs6_ite (kvs6_bindv (kvs6_st rfl (krs6_f_X12_then N p25 6 16)) (fun p28 => (kvs6_some rfl))) (kvs6_ite (kvs6_bind (krs6_st rfl (krs6_f_X12_emit N p25 6 (p25.a 73 ((x1 : Int32).toNatClampNeg)))) (fun p31 => (kvs6_some rfl))) kvs6_none))))
theorem krs6_f_X12_forBehind_143 (N : Nat) (σ : RS) (x1 : Int32) : KVs6 σ (f_X12_forBehind_143 N σ x1) := by
  unfold f_X12_forBehind_143
  exact (kvs6_ite (kvs6_st rfl (krs6_f_X12_forBehind_159 N σ x1 1)) (kvs6_st rfl (krs6_f_X12_forBehind_159 N σ x1 0)))
theorem krs6_f_X12_forBehind_89 (N : Nat) (σ : RS) (x1 : Int32) : KVs6 σ (f_X12_forBehind_89 N σ x1) := by
  unfold f_X12_forBehind_89
  exact (kvs6_bind (krs6_st rfl (krs6_f_X12_got N σ σ.l (σ.i 11))) (fun p15 => (kvs6_ite (kvs6_bindv (kvs6_st rfl (krs6_f_X12_next N (RS.setA p15.2 73 ((x1 : Int32).toNatClampNeg) p15.1))) (fun p18 => (kvs6_ite (kvs6_bind (krs6_st rfl (krs6_f_X12_can N p18 1)) (fun p21 => (kvs6_ite (kvs6_some rfl) (kvs6_st rfl (krs6_f_X12_forBehind_143 N p21.2 x1))))) (kvs6_ite (kvs6_bind (krs6_st rfl (krs6_f_X12_can N p18 1)) (fun p37 => (kvs6_ite (kvs6_some rfl) (kvs6_st rfl (krs6_f_X12_forBehind_143 N p37.2 x1))))) (kvs6_bind (krs6_st rfl (krs6_f_X12_can N p18 0)) (fun p34 => (kvs6_ite (kvs6_some rfl) (kvs6_st rfl (krs6_f_X12_forBehind_143 N p34.2 x1))))))))) kvs6_none)))
theorem krs6_f_X12_forBehind (N : Nat) (σ : RS) (x1 : Int32) : KVs6 σ (f_X12_forBehind N σ x1) := by
  unfold f_X12_forBehind
  exact (kvs6_bind (krs6_st rfl (krs6_f_X12_need N σ 59)) (fun p1 => (kvs6_bind (krs6_st rfl (krs6_f_X12_emit N p1.2 13 0)) (fun p3 => (kvs6_ite (kvs6_bind (krs6_st rfl (krs6_f_X12_emit N (RS.setA p3.2 67 ((x1 : Int32).toNatClampNeg) p3.1) 15 0)) (fun p6 => (kvs6_ite (kvs6_ite (kvs6_st rfl (krs6_f_X12_forBehind_59 N (RS.setA (RS.setA p6.2 68 ((x1 : Int32).toNatClampNeg) p6.1) 70 ((x1 : Int32).toNatClampNeg) (p6.2.i 20)) x1)) (kvs6_ite (kvs6_bind (krs6_st rfl (krs6_f_X12_can N (RS.setA (RS.setA p6.2 68 ((x1 : Int32).toNatClampNeg) p6.1) 70 ((x1 : Int32).toNatClampNeg) (p6.2.i 20)) 1)) (fun p40 => (kvs6_ite (kvs6_some rfl) (kvs6_st rfl (krs6_f_X12_forBehind_89 N p40.2 x1))))) (kvs6_bind (krs6_st rfl (krs6_f_X12_can N (RS.setA (RS.setA p6.2 68 ((x1 : Int32).toNatClampNeg) p6.1) 70 ((x1 : Int32).toNatClampNeg) (p6.2.i 20)) 0)) (fun p12 => (kvs6_ite (kvs6_some rfl) (kvs6_st rfl (krs6_f_X12_forBehind_89 N p12.2 x1))))))) (kvs6_st rfl (krs6_f_X12_forBehind_59 N (RS.setA (RS.setA p6.2 68 ((x1 : Int32).toNatClampNeg) p6.1) 70 ((x1 : Int32).toNatClampNeg) (p6.2.i 20)) x1))))) kvs6_none)))))
theorem krs6_f_X12_rows (N : Nat) (σ : RS) (x1 : Int32) : KVs6 σ (f_X12_rows N σ x1) := by
  unfold f_X12_rows
  exact (kvs6_ite (kvs6_ite (kvs6_ite (kvs6_bindv (kvs6_st rfl (krs6_f_X12_next N (RS.setA σ 68 ((x1 : Int32).toNatClampNeg) ((σ.a 68 ((x1 : Int32).toNatClampNeg)) + 1)))) (fun p30 => (kvs6_bindv (kvs6_st rfl (krs6_f_X12_then N p30 10 16)) (fun p32 => (kvs6_some rfl))))) (kvs6_bind (krs6_st rfl (krs6_f_X12_emit N (RS.setA σ 68 ((x1 : Int32).toNatClampNeg) ((σ.a 68 ((x1 : Int32).toNatClampNeg)) + 1)) 23 ((upd (σ.a 68) ((x1 : Int32).toNatClampNeg) ((σ.a 68 ((x1 : Int32).toNatClampNeg)) + 1)) ((x1 : Int32).toNatClampNeg)))) (fun p28 => (kvs6_some rfl)))) (kvs6_ite (kvs6_bind (krs6_st rfl (krs6_f_X12_see N σ (σ.b 74 ((x1 : Int32).toNatClampNeg)) 0)) (fun p16 => (kvs6_bind (krs6_st rfl (krs6_f_X12_shut N p16.2 41)) (fun p18 => (kvs6_bind (krs6_st rfl (krs6_f_X12_emit N (RS.setI p18.2 52 ((p18.2.i 52) + 1)) 24 0)) (fun p20 => (kvs6_ite (kvs6_bind (krs6_st rfl (krs6_f_X12_loopGoal N (RS.setA (RS.setA p20.2 66 ((x1 : Int32).toNatClampNeg) p20.1) 23 ((((upd (p20.2.a 66) ((x1 : Int32).toNatClampNeg) p20.1) ((x1 : Int32).toNatClampNeg)) : Int32).toNatClampNeg) p16.1))) (fun p23 => (kvs6_bindv (kvs6_st rfl (krs6_f_X12_body N (RS.setA p23.2 73 ((x1 : Int32).toNatClampNeg) p23.1) 13)) (fun p25 => (kvs6_some rfl))))) kvs6_none))))))) (kvs6_ite (kvs6_bindv (kvs6_st rfl (krs6_f_X12_patch N σ (σ.a 49 (((σ.a 73 ((x1 : Int32).toNatClampNeg)) : Int32).toNatClampNeg)) (σ.a 66 ((x1 : Int32).toNatClampNeg)))) (fun p5 => (kvs6_bind (krs6_st rfl (krs6_f_X12_emit N p5 15 (p5.a 66 ((x1 : Int32).toNatClampNeg)))) (fun p7 => (kvs6_ite (kvs6_bindv (kvs6_st rfl (krs6_f_X12_patch N (RS.setA p7.2 22 (((p7.2.a 66 ((x1 : Int32).toNatClampNeg)) : Int32).toNatClampNeg) (p7.2.i 20)) (p7.2.a 48 (((σ.a 73 ((x1 : Int32).toNatClampNeg)) : Int32).toNatClampNeg)) (p7.2.i 20))) (fun p10 => (kvs6_bind (krs6_st rfl (krs6_f_X12_emit N p10 25 0)) (fun p12 => (kvs6_bindv (kvs6_st rfl (krs6_f_X12_over N (RS.setI (RS.setI (RS.setI p12.2 52 ((p12.2.i 52) - 1)) 43 ((p12.2.i 43) - 1)) 38 (p12.2.a 71 ((x1 : Int32).toNatClampNeg))) 1)) (fun p14 => (kvs6_some rfl))))))) kvs6_none))))) kvs6_none))) kvs6_none)
theorem krs6_f_X12_fors_195 (N : Nat) (σ : RS) (x1 : Int32) : KVs6 σ (f_X12_fors_195 N σ x1) := by
  unfold f_X12_fors_195
  exact (kvs6_ite (kvs6_bind (krs6_st rfl (krs6_f_X12_emit N σ 2 1)) (fun p26 => (kvs6_ite (kvs6_some rfl) kvs6_none))) (kvs6_bindv (kvs6_st rfl (krs6_f_X12_then N σ 4 20)) (fun p24 => (kvs6_some rfl))))
theorem krs6_f_X12_fors_175 (N : Nat) (σ : RS) (x1 : Int32) : KVs6 σ (f_X12_fors_175 N σ x1) := by
  unfold f_X12_fors_175
  exact (kvs6_ite (kvs6_ite (kvs6_st rfl (krs6_f_X12_fors_195 N (RS.setA σ 72 ((x1 : Int32).toNatClampNeg) 1) x1)) kvs6_none) (kvs6_ite (kvs6_st rfl (krs6_f_X12_fors_195 N (RS.setA σ 72 ((x1 : Int32).toNatClampNeg) 0) x1)) kvs6_none))
theorem krs6_f_X12_fors_255 (N : Nat) (σ : RS) (x1 : Int32) : KVs6 σ (f_X12_fors_255 N σ x1) := by
  unfold f_X12_fors_255
  exact (kvs6_ite (kvs6_some rfl) kvs6_none)
theorem krs6_f_X12_fors_469 (N : Nat) (σ : RS) : KVs6 σ (f_X12_fors_469 N σ) := by
  unfold f_X12_fors_469
  exact (kvs6_some rfl)
theorem krs6_f_X12_fors (N : Nat) (σ : RS) (x1 : Int32) : KVs6 σ (f_X12_fors N σ x1) := by
  unfold f_X12_fors
  exact (kvs6_ite (kvs6_ite (kvs6_bindv (kvs6_st rfl (krs6_f_X12_next N (RS.setA σ 71 ((x1 : Int32).toNatClampNeg) (σ.i 38)))) (fun p3 => (kvs6_bind (krs6_st rfl (krs6_f_X12_open N p3 40)) (fun p5 => (kvs6_bindv (kvs6_st rfl (krs6_f_X12_forHead N p5.2 x1)) (fun p7 => (kvs6_some rfl))))))) (kvs6_ite (kvs6_bind (krs6_st rfl (krs6_f_X12_see N σ (σ.b 74 ((x1 : Int32).toNatClampNeg)) 0)) (fun p10 => (kvs6_bind (krs6_st rfl (krs6_f_X12_emit N p10.2 5 p10.1)) (fun p12 => (kvs6_some rfl))))) (kvs6_ite (kvs6_bind (krs6_st rfl (krs6_f_X12_emit N σ 5 (σ.a 66 ((x1 : Int32).toNatClampNeg)))) (fun p15 => (kvs6_some rfl))) (kvs6_ite (kvs6_bind (krs6_st rfl (krs6_f_X12_need N σ 59)) (fun p18 => (kvs6_ite (kvs6_st rfl (krs6_f_X12_fors_175 N (RS.setA (RS.setA p18.2 66 ((x1 : Int32).toNatClampNeg) (p18.2.i 20)) 69 ((x1 : Int32).toNatClampNeg) (p18.2.i 17)) x1)) (kvs6_st rfl (krs6_f_X12_fors_175 N (RS.setA (RS.setA p18.2 66 ((x1 : Int32).toNatClampNeg) (p18.2.i 20)) 69 ((x1 : Int32).toNatClampNeg) 0) x1))))) (kvs6_ite (kvs6_bind (krs6_st rfl (krs6_f_X12_isJustTrue N σ (σ.a 69 ((x1 : Int32).toNatClampNeg)))) (fun p31 => (kvs6_ite (kvs6_st rfl (krs6_f_X12_fors_255 N (RS.setA p31.2 72 ((x1 : Int32).toNatClampNeg) 0) x1)) (kvs6_st rfl (krs6_f_X12_fors_255 N (RS.setA p31.2 72 ((x1 : Int32).toNatClampNeg) 1) x1))))) (kvs6_ite (kvs6_bindv (kvs6_st rfl (krs6_f_X12_forBehind N σ x1)) (fun p36 => (kvs6_some rfl))) (kvs6_ite (kvs6_bind (krs6_st rfl (krs6_f_X12_emit N σ 5 (σ.a 73 ((x1 : Int32).toNatClampNeg)))) (fun p39 => (kvs6_some rfl))) (kvs6_ite (kvs6_bind (krs6_st rfl (krs6_f_X12_emit N σ 15 (σ.a 66 ((x1 : Int32).toNatClampNeg)))) (fun p42 => (kvs6_bind (krs6_st rfl (krs6_f_X12_shut N p42.2 41)) (fun p44 => (kvs6_ite (kvs6_bind (krs6_st rfl (krs6_f_X12_emit N (RS.setA p44.2 22 (((p44.2.a 68 ((x1 : Int32).toNatClampNeg)) : Int32).toNatClampNeg) (p44.2.i 20)) 1 0)) (fun p47 => (kvs6_bind (krs6_st rfl (krs6_f_X12_loopGoal N p47.2)) (fun p49 => (kvs6_bindv (kvs6_st rfl (krs6_f_X12_body N (RS.setA p49.2 73 ((x1 : Int32).toNatClampNeg) p49.1) 8)) (fun p51 => (kvs6_some rfl))))))) kvs6_none))))) (kvs6_ite (kvs6_ite (kvs6_bindv (kvs6_st rfl (krs6_f_X12_patch N σ (σ.a 49 (((σ.a 73 ((x1 : Int32).toNatClampNeg)) : Int32).toNatClampNeg)) (σ.a 70 ((x1 : Int32).toNatClampNeg)))) (fun p55 => (kvs6_bind (krs6_st rfl (krs6_f_X12_emit N p55 15 (p55.a 70 ((x1 : Int32).toNatClampNeg)))) (fun p57 => (kvs6_ite (kvs6_bindv (kvs6_st rfl (krs6_f_X12_patch N (RS.setA p57.2 22 (((p57.2.a 67 ((x1 : Int32).toNatClampNeg)) : Int32).toNatClampNeg) (p57.2.i 20)) (p57.2.a 48 (((σ.a 73 ((x1 : Int32).toNatClampNeg)) : Int32).toNatClampNeg)) (p57.2.i 20))) (fun p60 => (kvs6_ite (kvs6_bindv (kvs6_st rfl (krs6_f_X12_over N (RS.setI (RS.setI p60 43 ((p60.i 43) - 1)) 38 (p60.a 71 ((x1 : Int32).toNatClampNeg))) 1)) (fun p63 => (kvs6_st rfl (krs6_f_X12_fors_469 N p63)))) (kvs6_ite (kvs6_bindv (kvs6_st rfl (krs6_f_X12_over N (RS.setI (RS.setI p60 43 ((p60.i 43) - 1)) 38 (p60.a 71 ((x1 : Int32).toNatClampNeg))) 0)) (fun p66 => (kvs6_st rfl (krs6_f_X12_fors_469 N p66)))) (kvs6_bindv (kvs6_st rfl (krs6_f_X12_over N (RS.setI (RS.setI p60 43 ((p60.i 43) - 1)) 38 (p60.a 71 ((x1 : Int32).toNatClampNeg))) 1)) (fun p68 => (kvs6_st rfl (krs6_f_X12_fors_469 N p68)))))))) kvs6_none))))) kvs6_none) (kvs6_bindv (kvs6_st rfl (krs6_f_X12_rows N σ x1)) (fun p70 => (kvs6_some rfl)))))))))))) kvs6_none)
theorem krs6_f_X12_lock_94 (N : Nat) (σ : RS) : KVs6 σ (f_X12_lock_94 N σ) := by
  unfold f_X12_lock_94
  exact (kvs6_bind (krs6_st rfl (krs6_f_X12_shut N σ 41)) (fun p13 => (kvs6_bindv (kvs6_st rfl (krs6_f_X12_then N (RS.setI p13.2 52 ((p13.2.i 52) + 1)) 1 3)) (fun p15 => (kvs6_some rfl)))))
theorem krs6_f_X12_lock_90 (N : Nat) (σ : RS) : KVs6 σ (f_X12_lock_90 N σ) := by
  unfold f_X12_lock_90
  exact (kvs6_bindv (kvs6_st rfl (krs6_f_X12_next N σ)) (fun p21 => (kvs6_st rfl (krs6_f_X12_lock_94 N p21))))
theorem krs6_f_X12_lock_50 (N : Nat) (σ : RS) : KVs6 σ (f_X12_lock_50 N σ) := by
  unfold f_X12_lock_50
  exact (kvs6_ite (kvs6_bind (krs6_st rfl (krs6_f_X12_emit N σ 20 1)) (fun p24 => (kvs6_st rfl (krs6_f_X12_lock_90 N p24.2)))) (kvs6_bind (krs6_st rfl (krs6_f_X12_emit N σ 26 (σ.i 14))) (fun p19 => (kvs6_st rfl (krs6_f_X12_lock_90 N p19.2)))))
theorem krs6_f_X12_lock (N : Nat) (σ : RS) (x1 : Int32) : KVs6 σ (f_X12_lock N σ x1) := by
  unfold f_X12_lock
  exact (kvs6_ite (kvs6_ite (kvs6_bindv (kvs6_st rfl (krs6_f_X12_next N σ)) (fun p5 => (kvs6_bind (krs6_st rfl (krs6_f_X12_open N p5 40)) (fun p7 => (kvs6_ite (kvs6_bind (krs6_st rfl (krs6_f_X12_can N p7.2 1)) (fun p10 => (kvs6_ite (kvs6_st rfl (krs6_f_X12_lock_94 N p10.2)) (kvs6_st rfl (krs6_f_X12_lock_50 N p10.2))))) (kvs6_ite (kvs6_bind (krs6_st rfl (krs6_f_X12_can N p7.2 1)) (fun p30 => (kvs6_ite (kvs6_st rfl (krs6_f_X12_lock_94 N p30.2)) (kvs6_st rfl (krs6_f_X12_lock_50 N p30.2))))) (kvs6_bind (krs6_st rfl (krs6_f_X12_can N p7.2 0)) (fun p27 => (kvs6_ite (kvs6_st rfl (krs6_f_X12_lock_94 N p27.2)) (kvs6_st rfl (krs6_f_X12_lock_50 N p27.2))))))))))) (kvs6_bind (krs6_st rfl (krs6_f_X12_emit N σ 27 0)) (fun p3 => (kvs6_some rfl)))) kvs6_none)
theorem krs6_f_X12_entry_85 (N : Nat) (σ : RS) (x1 : Int32) : KVs6 σ (f_X12_entry_85 N σ x1) := by
  unfold f_X12_entry_85
  exact (kvs6_ite (kvs6_some rfl) kvs6_none)
theorem krs6_f_X12_entry (N : Nat) (σ : RS) (x1 : Int32) (x2 : Int32) (x3 : Int32) : KVs6 σ (f_X12_entry N σ x1 x2 x3) := by
  unfold f_X12_entry
  exact (kvs6_ite (kvs6_ite (kvs6_ite (kvs6_ite (kvs6_st rfl (krs6_f_X12_entry_85 N (RS.setA (RS.setA (RS.setA (RS.setA (RS.setA σ 25 (((σ.i 24) : Int32).toNatClampNeg) x2) 26 (((σ.i 24) : Int32).toNatClampNeg) (σ.i 20)) 27 (((σ.i 24) : Int32).toNatClampNeg) (-1)) 28 (((σ.i 24) : Int32).toNatClampNeg) (vp_nar .boolean x3)) 27 (((σ.a 67 ((x1 : Int32).toNatClampNeg)) : Int32).toNatClampNeg) (σ.i 24)) x1)) kvs6_none) (kvs6_ite (kvs6_st rfl (krs6_f_X12_entry_85 N (RS.setA (RS.setA (RS.setA (RS.setA (RS.setA σ 25 (((σ.i 24) : Int32).toNatClampNeg) x2) 26 (((σ.i 24) : Int32).toNatClampNeg) (σ.i 20)) 27 (((σ.i 24) : Int32).toNatClampNeg) (-1)) 28 (((σ.i 24) : Int32).toNatClampNeg) (vp_nar .boolean x3)) 22 (((σ.a 66 ((x1 : Int32).toNatClampNeg)) : Int32).toNatClampNeg) (σ.i 24)) x1)) kvs6_none)) kvs6_none) kvs6_none)
theorem krs6_f_X12_caseNumber_140 (N : Nat) (σ : RS) : KRs6 σ (f_X12_caseNumber_140 N σ) := by
  unfold f_X12_caseNumber_140
  exact (krs6_ite (krs6_some rfl) (krs6_some rfl))
theorem krs6_b_X12_caseNumber_75 (N : Nat) (K : RS → Int32 → Int32 → Int32 → Option (Int32 × RS)) (hK : ∀ (σ : RS) (y0 : Int32) (y1 : Int32) (y2 : Int32), KRs6 σ (K σ y0 y1 y2)) (σ : RS) (x1 : Int32) (x3 : Int32) (x4 : Int32) : KRs6 σ (b_X12_caseNumber_75 N K σ x1 x3 x4) := by
  unfold b_X12_caseNumber_75
  exact (krs6_ite (krs6_ite (krs6_bindv (kvs6_st rfl (krs6_f_X12_entry N σ x1 x3 0)) (fun p13 => (krs6_bindv (kvs6_st rfl (krs6_f_X12_next N p13)) (fun p15 => (krs6_st rfl (krs6_f_X12_caseNumber_140 N p15)))))) (krs6_st rfl (krs6_f_X12_caseNumber_140 N σ))) (krs6_ite (krs6_ite (krs6_ite (krs6_bindv (kvs6_st rfl (krs6_f_X12_fail N σ 4 (σ.i 11))) (fun p20 => (krs6_st rfl (hK p20 x1 x3 (p20.a 27 ((x4 : Int32).toNatClampNeg)))))) (krs6_st rfl (hK σ x1 x3 (σ.a 27 ((x4 : Int32).toNatClampNeg))))) (krs6_st rfl (hK σ x1 x3 (σ.a 27 ((x4 : Int32).toNatClampNeg))))) krs6_none))
theorem krs6_f_X12_caseNumber_75 (N : Nat) : ∀ (n : Nat) (σ : RS) (y0 : Int32) (y1 : Int32) (y2 : Int32), KRs6 σ (f_X12_caseNumber_75 N n σ y0 y1 y2)
  | 0, _, _, _, _ => krs6_none
  | n+1, σ, y0, y1, y2 => krs6_b_X12_caseNumber_75 N (f_X12_caseNumber_75 N n) (fun σ y0 y1 y2 => krs6_f_X12_caseNumber_75 N n σ y0 y1 y2) σ y0 y1 y2
theorem krs6_f_X12_caseNumber_62 (N : Nat) (σ : RS) (x1 : Int32) (x3 : Int32) : KRs6 σ (f_X12_caseNumber_62 N σ x1 x3) := by
  unfold f_X12_caseNumber_62
  exact (krs6_ite (krs6_ite (krs6_st rfl (krs6_f_X12_caseNumber_75 N N σ x1 x3 (σ.a 22 (((σ.a 66 ((x1 : Int32).toNatClampNeg)) : Int32).toNatClampNeg)))) krs6_none) krs6_none)
theorem krs6_f_X12_caseNumber_45 (N : Nat) (σ : RS) (x1 : Int32) (x2 : Int32) : KRs6 σ (f_X12_caseNumber_45 N σ x1 x2) := by
  unfold f_X12_caseNumber_45
  exact (krs6_ite (krs6_st rfl (krs6_f_X12_caseNumber_62 N σ x1 (σ.i 14))) (krs6_st rfl (krs6_f_X12_caseNumber_62 N σ x1 (-(σ.i 14)))))
theorem krs6_f_X12_caseNumber_43 (N : Nat) (σ : RS) : KRs6 σ (f_X12_caseNumber_43 N σ) := by
  unfold f_X12_caseNumber_43
  exact (krs6_some rfl)
theorem krs6_f_X12_caseNumber_23 (N : Nat) (σ : RS) (x1 : Int32) (x2 : Int32) : KRs6 σ (f_X12_caseNumber_23 N σ x1 x2) := by
  unfold f_X12_caseNumber_23
  exact (krs6_ite (krs6_bind (krs6_st rfl (krs6_f_X12_can N σ 1)) (fun p22 => (krs6_ite (krs6_st rfl (krs6_f_X12_caseNumber_43 N p22.2)) (krs6_st rfl (krs6_f_X12_caseNumber_45 N p22.2 x1 x2))))) (krs6_bind (krs6_st rfl (krs6_f_X12_can N σ 0)) (fun p4 => (krs6_ite (krs6_st rfl (krs6_f_X12_caseNumber_43 N p4.2)) (krs6_st rfl (krs6_f_X12_caseNumber_45 N p4.2 x1 x2))))))
theorem krs6_f_X12_caseNumber_15 (N : Nat) (σ : RS) (x1 : Int32) (x2 : Int32) : KRs6 σ (f_X12_caseNumber_15 N σ x1 x2) := by
  unfold f_X12_caseNumber_15
  exact (krs6_ite (krs6_st rfl (krs6_f_X12_caseNumber_23 N σ x1 x2)) (krs6_bindv (kvs6_st rfl (krs6_f_X12_next N σ)) (fun p25 => (krs6_st rfl (krs6_f_X12_caseNumber_23 N p25 x1 x2)))))
theorem krs6_f_X12_caseNumber (N : Nat) (σ : RS) (x1 : Int32) : KRs6 σ (f_X12_caseNumber N σ x1) := by
  unfold f_X12_caseNumber
  exact (krs6_ite (krs6_st rfl (krs6_f_X12_caseNumber_15 N σ x1 1)) (krs6_st rfl (krs6_f_X12_caseNumber_15 N σ x1 0)))
theorem krs6_f_X12_groups_335 (N : Nat) (σ : RS) : KVs6 σ (f_X12_groups_335 N σ) := by
  unfold f_X12_groups_335
  exact (kvs6_some rfl)
theorem krs6_f_X12_groups_356 (N : Nat) (σ : RS) (x1 : Int32) : KVs6 σ (f_X12_groups_356 N σ x1) := by
  unfold f_X12_groups_356
  exact (kvs6_ite (kvs6_some rfl) kvs6_none)
theorem krs6_f_X12_groups (N : Nat) (σ : RS) (x1 : Int32) : KVs6 σ (f_X12_groups N σ x1) := by
  unfold f_X12_groups
  exact (kvs6_ite (kvs6_ite (kvs6_bindv (kvs6_st rfl (krs6_f_X12_next N σ)) (fun p3 => (kvs6_bind (krs6_st rfl (krs6_f_X12_open N p3 40)) (fun p5 => (kvs6_bindv (kvs6_st rfl (krs6_f_X12_then N p5.2 1 16)) (fun p7 => (kvs6_some rfl))))))) (kvs6_ite (kvs6_bind (krs6_st rfl (krs6_f_X12_shut N σ 41)) (fun p10 => (kvs6_bind (krs6_st rfl (krs6_f_X12_emit N p10.2 28 (-1))) (fun p12 => (kvs6_bind (krs6_st rfl (krs6_f_X12_goal N (RS.setA (RS.setA (RS.setA (RS.setA (RS.setA p12.2 66 ((x1 : Int32).toNatClampNeg) p12.1) 67 ((x1 : Int32).toNatClampNeg) (-1)) 68 ((x1 : Int32).toNatClampNeg) 0) 70 ((x1 : Int32).toNatClampNeg) 1) 71 ((x1 : Int32).toNatClampNeg) (p12.2.i 38)) 1 0)) (fun p14 => (kvs6_bind (krs6_st rfl (krs6_f_X12_open N (RS.setA p14.2 72 ((x1 : Int32).toNatClampNeg) p14.1) 123)) (fun p16 => (kvs6_some rfl))))))))) (kvs6_ite (kvs6_ite (kvs6_bindv (kvs6_st rfl (krs6_f_X12_next N σ)) (fun p49 => (kvs6_bind (krs6_st rfl (krs6_f_X12_caseNumber N p49 x1)) (fun p51 => (kvs6_ite (kvs6_some rfl) (kvs6_bind (krs6_st rfl (krs6_f_X12_need N p51.2 58)) (fun p54 => (kvs6_bindv (kvs6_st rfl (krs6_f_X12_then N p54.2 3 1)) (fun p56 => (kvs6_some rfl)))))))))) (kvs6_ite (kvs6_ite (kvs6_bindv (kvs6_st rfl (krs6_f_X12_fail N σ 4 (σ.i 11))) (fun p47 => (kvs6_some rfl))) (kvs6_bindv (kvs6_st rfl (krs6_f_X12_entry N (RS.setA σ 68 ((x1 : Int32).toNatClampNeg) 1) x1 0 1)) (fun p39 => (kvs6_bindv (kvs6_st rfl (krs6_f_X12_next N p39)) (fun p41 => (kvs6_bind (krs6_st rfl (krs6_f_X12_need N p41 58)) (fun p43 => (kvs6_bindv (kvs6_st rfl (krs6_f_X12_then N p43.2 3 1)) (fun p45 => (kvs6_some rfl)))))))))) (kvs6_bind (krs6_st rfl (krs6_f_X12_shut N σ 125)) (fun p21 => (kvs6_ite (kvs6_ite (kvs6_bindv (kvs6_st rfl (krs6_f_X12_patch N (RS.setA p21.2 23 (((p21.2.a 66 ((x1 : Int32).toNatClampNeg)) : Int32).toNatClampNeg) (p21.2.i 20)) (p21.2.a 48 (((p21.2.a 72 ((x1 : Int32).toNatClampNeg)) : Int32).toNatClampNeg)) (p21.2.i 20))) (fun p25 => (kvs6_ite (kvs6_bindv (kvs6_st rfl (krs6_f_X12_over N (RS.setI (RS.setI p25 43 ((p25.i 43) - 1)) 38 (p25.a 71 ((x1 : Int32).toNatClampNeg))) 1)) (fun p28 => (kvs6_st rfl (krs6_f_X12_groups_335 N p28)))) (kvs6_ite (kvs6_bindv (kvs6_st rfl (krs6_f_X12_over N (RS.setI (RS.setI p25 43 ((p25.i 43) - 1)) 38 (p25.a 71 ((x1 : Int32).toNatClampNeg))) 1)) (fun p31 => (kvs6_st rfl (krs6_f_X12_groups_335 N p31)))) (kvs6_ite (kvs6_bindv (kvs6_st rfl (krs6_f_X12_over N (RS.setI (RS.setI p25 43 ((p25.i 43) - 1)) 38 (p25.a 71 ((x1 : Int32).toNatClampNeg))) 0)) (fun p34 => (kvs6_st rfl (krs6_f_X12_groups_335 N p34)))) (kvs6_bindv (kvs6_st rfl (krs6_f_X12_over N (RS.setI (RS.setI p25 43 ((p25.i 43) - 1)) 38 (p25.a 71 ((x1 : Int32).toNatClampNeg))) 1)) (fun p36 => (kvs6_st rfl (krs6_f_X12_groups_335 N p36))))))))) kvs6_none) kvs6_none))))) (kvs6_ite (kvs6_st rfl (krs6_f_X12_groups_356 N (RS.setA σ 70 ((x1 : Int32).toNatClampNeg) 0) x1)) (kvs6_st rfl (krs6_f_X12_groups_356 N (RS.setA σ 70 ((x1 : Int32).toNatClampNeg) 1) x1)))))) kvs6_none)
theorem krs6_b_X12_catching_323 (N : Nat) (K : RS → Int32 → Int32 → Option (RS)) (hK : ∀ (σ : RS) (y0 : Int32) (y1 : Int32), KVs6 σ (K σ y0 y1)) (σ : RS) (x4 : Int32) (x5 : Int32) : KVs6 σ (b_X12_catching_323 N K σ x4 x5) := by
  unfold b_X12_catching_323
  exact (kvs6_ite (kvs6_bindv (kvs6_st rfl (krs6_f_X12_then N σ 3 3)) (fun p20 => (kvs6_some rfl))) (kvs6_ite (kvs6_st rfl (hK (RS.setA (RS.setA σ 35 ((x5 : Int32).toNatClampNeg) (σ.i 20)) 36 ((x5 : Int32).toNatClampNeg) x4) x4 (x5 + 1))) kvs6_none))
theorem krs6_f_X12_catching_323 (N : Nat) : ∀ (n : Nat) (σ : RS) (y0 : Int32) (y1 : Int32), KVs6 σ (f_X12_catching_323 N n σ y0 y1)
  | 0, _, _, _ => kvs6_none
  | n+1, σ, y0, y1 => krs6_b_X12_catching_323 N (f_X12_catching_323 N n) (fun σ y0 y1 => krs6_f_X12_catching_323 N n σ y0 y1) σ y0 y1
theorem krs6_f_X12_catching_277 (N : Nat) (σ : RS) (x2 : Int32) : KVs6 σ (f_X12_catching_277 N σ x2) := by
  unfold f_X12_catching_277
  exact (kvs6_bind (krs6_st rfl (krs6_f_X12_seenAs N σ σ.l)) (fun p10 => (kvs6_ite (kvs6_bind (krs6_st rfl (krs6_f_X12_see N p10.2 p10.2.l 1)) (fun p13 => (kvs6_bindv (kvs6_st rfl (krs6_f_X12_next N p13.2)) (fun p15 => (kvs6_bind (krs6_st rfl (krs6_f_X12_shut N p15 41)) (fun p17 => (kvs6_st rfl (krs6_f_X12_catching_323 N N p17.2 p13.1 x2)))))))) (kvs6_bindv (kvs6_st rfl (krs6_f_X12_fail N p10.2 4 (p10.2.i 11))) (fun p23 => (kvs6_some rfl))))))
theorem krs6_f_X12_catching_256 (N : Nat) (σ : RS) (x2 : Int32) : KVs6 σ (f_X12_catching_256 N σ x2) := by
  unfold f_X12_catching_256
  exact (kvs6_ite (kvs6_bind (krs6_st rfl (krs6_f_X12_can N σ 1)) (fun p25 => (kvs6_ite (kvs6_some rfl) (kvs6_st rfl (krs6_f_X12_catching_277 N p25.2 x2))))) (kvs6_bind (krs6_st rfl (krs6_f_X12_can N σ 0)) (fun p7 => (kvs6_ite (kvs6_some rfl) (kvs6_st rfl (krs6_f_X12_catching_277 N p7.2 x2))))))
theorem krs6_b_X12_catching_82 (N : Nat) (K18 : RS → Int32 → Int32 → Int32 → Option (RS)) (hK18 : ∀ (σ : RS) (y0 : Int32) (y1 : Int32) (y2 : Int32), KVs6 σ (K18 σ y0 y1 y2)) (K : RS → Int32 → Int32 → Int32 → Option (RS)) (hK : ∀ (σ : RS) (y0 : Int32) (y1 : Int32) (y2 : Int32), KVs6 σ (K σ y0 y1 y2)) (σ : RS) (x1 : Int32) (x2 : Int32) (x4 : Int32) : KVs6 σ (b_X12_catching_82 N K18 K σ x1 x2 x4) := by
  unfold b_X12_catching_82
  exact (kvs6_ite (kvs6_ite (kvs6_ite (kvs6_ite (kvs6_ite (kvs6_bindv (kvs6_st rfl (krs6_f_X12_next N (RS.setI (RS.setA (RS.setA (RS.setA (RS.setA σ 34 (((σ.i 33) : Int32).toNatClampNeg) (σ.i 14)) 37 (((σ.i 33) : Int32).toNatClampNeg) (-1)) 37 (((σ.a 72 ((x1 : Int32).toNatClampNeg)) : Int32).toNatClampNeg) (σ.i 33)) 72 ((x1 : Int32).toNatClampNeg) (σ.i 33)) 33 ((σ.i 33) + 1)))) (fun p41 => (kvs6_ite (kvs6_ite (kvs6_bindv (kvs6_st rfl (krs6_f_X12_next N p41)) (fun p45 => (kvs6_st rfl (hK18 p45 x1 x2 1)))) (kvs6_st rfl (hK18 p41 x1 x2 0))) (kvs6_st rfl (hK18 p41 x1 x2 0))))) kvs6_none) (kvs6_ite (kvs6_bindv (kvs6_st rfl (krs6_f_X12_next N (RS.setI (RS.setA (RS.setA (RS.setA (RS.setA σ 34 (((σ.i 33) : Int32).toNatClampNeg) (σ.i 14)) 37 (((σ.i 33) : Int32).toNatClampNeg) (-1)) 30 (((σ.a 66 ((x1 : Int32).toNatClampNeg)) : Int32).toNatClampNeg) (σ.i 33)) 72 ((x1 : Int32).toNatClampNeg) (σ.i 33)) 33 ((σ.i 33) + 1)))) (fun p48 => (kvs6_ite (kvs6_ite (kvs6_bindv (kvs6_st rfl (krs6_f_X12_next N p48)) (fun p52 => (kvs6_st rfl (hK18 p52 x1 x2 1)))) (kvs6_st rfl (hK18 p48 x1 x2 0))) (kvs6_st rfl (hK18 p48 x1 x2 0))))) kvs6_none)) kvs6_none) kvs6_none) (kvs6_ite (kvs6_ite (kvs6_bind (krs6_st rfl (krs6_f_X12_isUnder N σ (σ.i 14) (σ.a 34 ((x4 : Int32).toNatClampNeg)))) (fun p73 => (kvs6_ite (kvs6_st rfl (hK p73.2 x1 x2 (p73.2.a 37 ((x4 : Int32).toNatClampNeg)))) (kvs6_bindv (kvs6_st rfl (krs6_f_X12_fail N p73.2 6 (p73.2.i 11))) (fun p76 => (kvs6_st rfl (hK p76 x1 x2 (p76.a 37 ((x4 : Int32).toNatClampNeg))))))))) kvs6_none) (kvs6_ite (kvs6_ite (kvs6_ite (kvs6_ite (kvs6_bindv (kvs6_st rfl (krs6_f_X12_next N (RS.setI (RS.setA (RS.setA (RS.setA (RS.setA σ 34 (((σ.i 33) : Int32).toNatClampNeg) (σ.i 14)) 37 (((σ.i 33) : Int32).toNatClampNeg) (-1)) 37 (((σ.a 72 ((x1 : Int32).toNatClampNeg)) : Int32).toNatClampNeg) (σ.i 33)) 72 ((x1 : Int32).toNatClampNeg) (σ.i 33)) 33 ((σ.i 33) + 1)))) (fun p59 => (kvs6_ite (kvs6_ite (kvs6_bindv (kvs6_st rfl (krs6_f_X12_next N p59)) (fun p63 => (kvs6_st rfl (hK18 p63 x1 x2 1)))) (kvs6_st rfl (hK18 p59 x1 x2 0))) (kvs6_st rfl (hK18 p59 x1 x2 0))))) kvs6_none) (kvs6_ite (kvs6_bindv (kvs6_st rfl (krs6_f_X12_next N (RS.setI (RS.setA (RS.setA (RS.setA (RS.setA σ 34 (((σ.i 33) : Int32).toNatClampNeg) (σ.i 14)) 37 (((σ.i 33) : Int32).toNatClampNeg) (-1)) 30 (((σ.a 66 ((x1 : Int32).toNatClampNeg)) : Int32).toNatClampNeg) (σ.i 33)) 72 ((x1 : Int32).toNatClampNeg) (σ.i 33)) 33 ((σ.i 33) + 1)))) (fun p66 => (kvs6_ite (kvs6_ite (kvs6_bindv (kvs6_st rfl (krs6_f_X12_next N p66)) (fun p70 => (kvs6_st rfl (hK18 p70 x1 x2 1)))) (kvs6_st rfl (hK18 p66 x1 x2 0))) (kvs6_st rfl (hK18 p66 x1 x2 0))))) kvs6_none)) kvs6_none) kvs6_none)))
theorem krs6_f_X12_catching_82 (N : Nat) (K18 : RS → Int32 → Int32 → Int32 → Option (RS)) (hK18 : ∀ (σ : RS) (w0 : Int32) (w1 : Int32) (w2 : Int32), KVs6 σ (K18 σ w0 w1 w2)) : ∀ (n : Nat) (σ : RS) (y0 : Int32) (y1 : Int32) (y2 : Int32), KVs6 σ (f_X12_catching_82 N K18 n σ y0 y1 y2)
  | 0, _, _, _, _ => kvs6_none
  | n+1, σ, y0, y1, y2 => krs6_b_X12_catching_82 N K18 hK18 (f_X12_catching_82 N K18 n) (fun σ y0 y1 y2 => krs6_f_X12_catching_82 N K18 hK18 n σ y0 y1 y2) σ y0 y1 y2
theorem krs6_b_X12_catching_18 (N : Nat) (K : RS → Int32 → Int32 → Int32 → Option (RS)) (hK : ∀ (σ : RS) (y0 : Int32) (y1 : Int32) (y2 : Int32), KVs6 σ (K σ y0 y1 y2)) (σ : RS) (x1 : Int32) (x2 : Int32) (x3 : Int32) : KVs6 σ (b_X12_catching_18 N K σ x1 x2 x3) := by
  unfold b_X12_catching_18
  exact (kvs6_ite (kvs6_st rfl (krs6_f_X12_catching_256 N σ x2)) (kvs6_ite (kvs6_ite (kvs6_bind (krs6_st rfl (krs6_f_X12_can N σ 1)) (fun p82 => (kvs6_ite (kvs6_st rfl (hK p82.2 x1 x2 x3)) (kvs6_ite (kvs6_ite (kvs6_ite (kvs6_st rfl (krs6_f_X12_catching_82 N K hK N p82.2 x1 x2 (p82.2.a 30 (((p82.2.a 66 ((x1 : Int32).toNatClampNeg)) : Int32).toNatClampNeg)))) kvs6_none) kvs6_none) (kvs6_bindv (kvs6_st rfl (krs6_f_X12_fail N p82.2 3 (p82.2.i 11))) (fun p88 => (kvs6_ite (kvs6_ite (kvs6_st rfl (krs6_f_X12_catching_82 N K hK N p88 x1 x2 (p88.a 30 (((p88.a 66 ((x1 : Int32).toNatClampNeg)) : Int32).toNatClampNeg)))) kvs6_none) kvs6_none))))))) (kvs6_bind (krs6_st rfl (krs6_f_X12_can N σ 0)) (fun p30 => (kvs6_ite (kvs6_st rfl (hK p30.2 x1 x2 x3)) (kvs6_ite (kvs6_ite (kvs6_ite (kvs6_st rfl (krs6_f_X12_catching_82 N K hK N p30.2 x1 x2 (p30.2.a 30 (((p30.2.a 66 ((x1 : Int32).toNatClampNeg)) : Int32).toNatClampNeg)))) kvs6_none) kvs6_none) (kvs6_bindv (kvs6_st rfl (krs6_f_X12_fail N p30.2 3 (p30.2.i 11))) (fun p78 => (kvs6_ite (kvs6_ite (kvs6_st rfl (krs6_f_X12_catching_82 N K hK N p78 x1 x2 (p78.a 30 (((p78.a 66 ((x1 : Int32).toNatClampNeg)) : Int32).toNatClampNeg)))) kvs6_none) kvs6_none)))))))) (kvs6_st rfl (krs6_f_X12_catching_256 N σ x2))))
theorem krs6_f_X12_catching_18 (N : Nat) : ∀ (n : Nat) (σ : RS) (y0 : Int32) (y1 : Int32) (y2 : Int32), KVs6 σ (f_X12_catching_18 N n σ y0 y1 y2)
  | 0, _, _, _, _ => kvs6_none
  | n+1, σ, y0, y1, y2 => krs6_b_X12_catching_18 N (f_X12_catching_18 N n) (fun σ y0 y1 y2 => krs6_f_X12_catching_18 N n σ y0 y1 y2) σ y0 y1 y2
theorem krs6_f_X12_catching (N : Nat) (σ : RS) (x1 : Int32) : KVs6 σ (f_X12_catching N σ x1) := by
  unfold f_X12_catching
  exact (kvs6_bindv (kvs6_st rfl (krs6_f_X12_next N σ)) (fun p1 => (kvs6_bind (krs6_st rfl (krs6_f_X12_open N p1 40)) (fun p3 => (kvs6_st rfl (krs6_f_X12_catching_18 N N p3.2 x1 (σ.i 33) 1))))))
theorem krs6_f_X12_endTry (N : Nat) (σ : RS) (x1 : Int32) (x2 : Int32) : KVs6 σ (f_X12_endTry N σ x1 x2) := by
  unfold f_X12_endTry
  exact (kvs6_ite (kvs6_ite (kvs6_bindv (kvs6_st rfl (krs6_f_X12_resolve N (RS.setA (RS.setI σ 52 ((σ.i 52) - 1)) 32 (((σ.a 66 ((x1 : Int32).toNatClampNeg)) : Int32).toNatClampNeg) (σ.i 20)) (σ.a 66 ((x1 : Int32).toNatClampNeg)) x2)) (fun p3 => (kvs6_ite (kvs6_bindv (kvs6_st rfl (krs6_f_X12_over N p3 0)) (fun p6 => (kvs6_some rfl))) (kvs6_ite (kvs6_bindv (kvs6_st rfl (krs6_f_X12_over N p3 1)) (fun p11 => (kvs6_some rfl))) (kvs6_bindv (kvs6_st rfl (krs6_f_X12_over N p3 0)) (fun p9 => (kvs6_some rfl))))))) kvs6_none) kvs6_none)
theorem krs6_f_X12_trying_215 (N : Nat) (σ : RS) (x1 : Int32) : KVs6 σ (f_X12_trying_215 N σ x1) := by
  unfold f_X12_trying_215
  exact (kvs6_ite (kvs6_ite (kvs6_bindv (kvs6_st rfl (krs6_f_X12_then N (RS.setA (RS.setI (RS.setA (RS.setA σ 57 (((σ.i 56) : Int32).toNatClampNeg) (σ.a 66 ((x1 : Int32).toNatClampNeg))) 58 (((σ.i 56) : Int32).toNatClampNeg) (σ.i 43)) 56 ((σ.i 56) + 1)) 72 ((x1 : Int32).toNatClampNeg) (-1)) 1 3)) (fun p13 => (kvs6_some rfl))) kvs6_none) kvs6_none)
theorem krs6_b_X12_trying_140 (N : Nat) (K : RS → Int32 → Int32 → Option (RS)) (hK : ∀ (σ : RS) (y0 : Int32) (y1 : Int32), KVs6 σ (K σ y0 y1)) (σ : RS) (x1 : Int32) (x2 : Int32) : KVs6 σ (b_X12_trying_140 N K σ x1 x2) := by
  unfold b_X12_trying_140
  exact (kvs6_ite (kvs6_st rfl (krs6_f_X12_trying_215 N σ x1)) (kvs6_ite (kvs6_bindv (kvs6_st rfl (krs6_f_X12_next N σ)) (fun p16 => (kvs6_ite (kvs6_bind (krs6_st rfl (krs6_f_X12_can N p16 1)) (fun p30 => (kvs6_ite (kvs6_ite (kvs6_ite (kvs6_st rfl (hK p30.2 x1 1)) (kvs6_st rfl (hK p30.2 x1 0))) (kvs6_st rfl (hK p30.2 x1 0))) (kvs6_bind (krs6_st rfl (krs6_f_X12_emit N p30.2 32 (p30.2.i 14))) (fun p35 => (kvs6_bindv (kvs6_st rfl (krs6_f_X12_next N p35.2)) (fun p37 => (kvs6_ite (kvs6_ite (kvs6_st rfl (hK p37 x1 1)) (kvs6_st rfl (hK p37 x1 0))) (kvs6_st rfl (hK p37 x1 0)))))))))) (kvs6_bind (krs6_st rfl (krs6_f_X12_can N p16 0)) (fun p19 => (kvs6_ite (kvs6_ite (kvs6_ite (kvs6_st rfl (hK p19.2 x1 1)) (kvs6_st rfl (hK p19.2 x1 0))) (kvs6_st rfl (hK p19.2 x1 0))) (kvs6_bind (krs6_st rfl (krs6_f_X12_emit N p19.2 32 (p19.2.i 14))) (fun p24 => (kvs6_bindv (kvs6_st rfl (krs6_f_X12_next N p24.2)) (fun p26 => (kvs6_ite (kvs6_ite (kvs6_st rfl (hK p26 x1 1)) (kvs6_st rfl (hK p26 x1 0))) (kvs6_st rfl (hK p26 x1 0))))))))))))) (kvs6_st rfl (krs6_f_X12_trying_215 N σ x1))))
theorem krs6_f_X12_trying_140 (N : Nat) : ∀ (n : Nat) (σ : RS) (y0 : Int32) (y1 : Int32), KVs6 σ (f_X12_trying_140 N n σ y0 y1)
  | 0, _, _, _ => kvs6_none
  | n+1, σ, y0, y1 => krs6_b_X12_trying_140 N (f_X12_trying_140 N n) (fun σ y0 y1 => krs6_f_X12_trying_140 N n σ y0 y1) σ y0 y1
theorem krs6_f_X12_trying_124 (N : Nat) (σ : RS) (x1 : Int32) : KVs6 σ (f_X12_trying_124 N σ x1) := by
  unfold f_X12_trying_124
  exact (kvs6_ite (kvs6_st rfl (krs6_f_X12_trying_140 N N σ x1 1)) (kvs6_st rfl (krs6_f_X12_trying_140 N N σ x1 0)))
theorem krs6_f_X12_trying_287 (N : Nat) (σ : RS) (x1 : Int32) : KVs6 σ (f_X12_trying_287 N σ x1) := by
  unfold f_X12_trying_287
  exact (kvs6_ite (kvs6_bind (krs6_st rfl (krs6_f_X12_emit N σ 33 (σ.a 66 ((x1 : Int32).toNatClampNeg)))) (fun p44 => (kvs6_some rfl))) kvs6_none)
theorem krs6_f_X12_trying_417 (N : Nat) (σ : RS) (x1 : Int32) : KVs6 σ (f_X12_trying_417 N σ x1) := by
  unfold f_X12_trying_417
  exact (kvs6_bindv (kvs6_st rfl (krs6_f_X12_endTry N (RS.setI σ 56 ((σ.i 56) - 1)) x1 1)) (fun p53 => (kvs6_some rfl)))
theorem krs6_f_X12_trying_464 (N : Nat) (σ : RS) (x1 : Int32) : KVs6 σ (f_X12_trying_464 N σ x1) := by
  unfold f_X12_trying_464
  exact (kvs6_ite (kvs6_bind (krs6_st rfl (krs6_f_X12_emit N σ 34 (σ.a 66 ((x1 : Int32).toNatClampNeg)))) (fun p72 => (kvs6_some rfl))) kvs6_none)
theorem krs6_f_X12_trying (N : Nat) (σ : RS) (x1 : Int32) : KVs6 σ (f_X12_trying N σ x1) := by
  unfold f_X12_trying
  exact (kvs6_ite (kvs6_ite (kvs6_bindv (kvs6_st rfl (krs6_f_X12_next N σ)) (fun p3 => (kvs6_ite (kvs6_bind (krs6_st rfl (krs6_f_X12_emit N (RS.setI (RS.setA (RS.setA (RS.setA p3 66 ((x1 : Int32).toNatClampNeg) (p3.i 29)) 30 (((p3.i 29) : Int32).toNatClampNeg) (-1)) 31 (((p3.i 29) : Int32).toNatClampNeg) (-1)) 29 ((p3.i 29) + 1)) 31 ((upd (p3.a 66) ((x1 : Int32).toNatClampNeg) (p3.i 29)) ((x1 : Int32).toNatClampNeg)))) (fun p6 => (kvs6_ite (kvs6_st rfl (krs6_f_X12_trying_124 N (RS.setA (RS.setI p6.2 52 ((p6.2.i 52) + 1)) 67 ((x1 : Int32).toNatClampNeg) 1) x1)) (kvs6_st rfl (krs6_f_X12_trying_124 N (RS.setA (RS.setI p6.2 52 ((p6.2.i 52) + 1)) 67 ((x1 : Int32).toNatClampNeg) 0) x1))))) kvs6_none))) (kvs6_ite (kvs6_ite (kvs6_st rfl (krs6_f_X12_trying_287 N (RS.setA σ 68 ((x1 : Int32).toNatClampNeg) 0) x1)) (kvs6_st rfl (krs6_f_X12_trying_287 N (RS.setA σ 68 ((x1 : Int32).toNatClampNeg) 1) x1))) (kvs6_ite (kvs6_ite (kvs6_bindv (kvs6_st rfl (krs6_f_X12_catching N (RS.setA σ 71 ((x1 : Int32).toNatClampNeg) (σ.i 38)) x1)) (fun p67 => (kvs6_some rfl))) (kvs6_ite (kvs6_bindv (kvs6_st rfl (krs6_f_X12_next N (RS.setI σ 56 ((σ.i 56) - 1)))) (fun p62 => (kvs6_ite (kvs6_bindv (kvs6_st rfl (krs6_f_X12_then N (RS.setA p62 31 (((p62.a 66 ((x1 : Int32).toNatClampNeg)) : Int32).toNatClampNeg) (p62.i 20)) 4 3)) (fun p65 => (kvs6_some rfl))) kvs6_none))) (kvs6_ite (kvs6_bind (krs6_st rfl (krs6_f_X12_can N σ 1)) (fun p50 => (kvs6_ite (kvs6_some rfl) (kvs6_st rfl (krs6_f_X12_trying_417 N p50.2 x1))))) (kvs6_ite (kvs6_bind (krs6_st rfl (krs6_f_X12_can N σ 0)) (fun p56 => (kvs6_ite (kvs6_some rfl) (kvs6_st rfl (krs6_f_X12_trying_417 N p56.2 x1))))) (kvs6_bind (krs6_st rfl (krs6_f_X12_can N σ 1)) (fun p59 => (kvs6_ite (kvs6_some rfl) (kvs6_st rfl (krs6_f_X12_trying_417 N p59.2 x1))))))))) (kvs6_ite (kvs6_ite (kvs6_ite (kvs6_st rfl (krs6_f_X12_trying_464 N (RS.setA σ 68 ((x1 : Int32).toNatClampNeg) 1) x1)) (kvs6_st rfl (krs6_f_X12_trying_464 N (RS.setA σ 68 ((x1 : Int32).toNatClampNeg) 0) x1))) (kvs6_st rfl (krs6_f_X12_trying_464 N (RS.setA σ 68 ((x1 : Int32).toNatClampNeg) 1) x1))) (kvs6_bind (krs6_st rfl (krs6_f_X12_emit N σ 35 (σ.a 66 ((x1 : Int32).toNatClampNeg)))) (fun p75 => (kvs6_bindv (kvs6_st rfl (krs6_f_X12_endTry N p75.2 x1 (p75.2.i 75))) (fun p77 => (kvs6_some rfl))))))))) kvs6_none)
theorem krs6_f_X12_sums_39 (N : Nat) (σ : RS) (x1 : Int32) (x2 : Int32) (x3 : Int32) : KVs6 σ (f_X12_sums_39 N σ x1 x2 x3) := by
  unfold f_X12_sums_39
  exact (kvs6_ite (kvs6_some rfl) (kvs6_ite (kvs6_bindv (kvs6_st rfl (krs6_f_X12_next N (RS.setA σ 66 ((x1 : Int32).toNatClampNeg) (σ.i 10)))) (fun p6 => (kvs6_bindv (kvs6_st rfl (krs6_f_X12_then N p6 2 x2)) (fun p8 => (kvs6_some rfl))))) kvs6_none))
theorem krs6_f_X12_sums (N : Nat) (σ : RS) (x1 : Int32) (x2 : Int32) (x3 : Int32) : KVs6 σ (f_X12_sums N σ x1 x2 x3) := by
  unfold f_X12_sums
  exact (kvs6_ite (kvs6_ite (kvs6_bindv (kvs6_st rfl (krs6_f_X12_then N σ 1 x2)) (fun p12 => (kvs6_some rfl))) (kvs6_ite (kvs6_bind (krs6_st rfl (krs6_f_X12_emit N σ 8 (σ.a 66 ((x1 : Int32).toNatClampNeg)))) (fun p10 => (kvs6_st rfl (krs6_f_X12_sums_39 N p10.2 x1 x2 x3)))) (kvs6_st rfl (krs6_f_X12_sums_39 N σ x1 x2 x3)))) kvs6_none)
theorem krs6_f_X12_factor_215 (N : Nat) (σ : RS) : KVs6 σ (f_X12_factor_215 N σ) := by
  unfold f_X12_factor_215
  exact (kvs6_bindv (kvs6_st rfl (krs6_f_X12_next N σ)) (fun p31 => (kvs6_some rfl)))
theorem krs6_f_X12_factor_124 (N : Nat) (σ : RS) (x1 : Int32) : KVs6 σ (f_X12_factor_124 N σ x1) := by
  unfold f_X12_factor_124
  exact (kvs6_ite (kvs6_bind (krs6_st rfl (krs6_f_X12_emit N σ 2 (σ.i 14))) (fun p37 => (kvs6_bindv (kvs6_st rfl (krs6_f_X12_next N p37.2)) (fun p39 => (kvs6_some rfl))))) (kvs6_ite (kvs6_bind (krs6_st rfl (krs6_f_X12_seenAs N σ σ.l)) (fun p24 => (kvs6_ite (kvs6_ite (kvs6_ite (kvs6_bind (krs6_st rfl (krs6_f_X12_emit N p24.2 3 (p24.2.a 40 ((p24.1 : Int32).toNatClampNeg)))) (fun p29 => (kvs6_st rfl (krs6_f_X12_factor_215 N p29.2)))) (kvs6_bind (krs6_st rfl (krs6_f_X12_emit N p24.2 4 (p24.2.a 40 ((p24.1 : Int32).toNatClampNeg)))) (fun p33 => (kvs6_st rfl (krs6_f_X12_factor_215 N p33.2))))) kvs6_none) (kvs6_bindv (kvs6_st rfl (krs6_f_X12_fail N p24.2 3 (p24.2.i 11))) (fun p35 => (kvs6_some rfl)))))) (kvs6_ite (kvs6_bind (krs6_st rfl (krs6_f_X12_opens N σ)) (fun p17 => (kvs6_ite (kvs6_some rfl) (kvs6_bindv (kvs6_st rfl (krs6_f_X12_next N p17.2)) (fun p20 => (kvs6_bindv (kvs6_st rfl (krs6_f_X12_then N p20 1 18)) (fun p22 => (kvs6_some rfl)))))))) (kvs6_ite (kvs6_bind (krs6_st rfl (krs6_f_X12_open N σ 40)) (fun p13 => (kvs6_bindv (kvs6_st rfl (krs6_f_X12_then N p13.2 2 16)) (fun p15 => (kvs6_some rfl))))) (kvs6_ite (kvs6_some rfl) kvs6_none)))))
theorem krs6_f_X12_factor (N : Nat) (σ : RS) (x1 : Int32) : KVs6 σ (f_X12_factor N σ x1) := by
  unfold f_X12_factor
  exact (kvs6_ite (kvs6_ite (kvs6_bind (krs6_st rfl (krs6_f_X12_emit N (RS.setI σ 19 ((σ.i 19) - 1)) 7 0)) (fun p62 => (kvs6_some rfl))) (kvs6_ite (kvs6_bind (krs6_st rfl (krs6_f_X12_shut N σ 41)) (fun p60 => (kvs6_some rfl))) (kvs6_ite (kvs6_bind (krs6_st rfl (krs6_f_X12_can N σ 1)) (fun p5 => (kvs6_ite (kvs6_some rfl) (kvs6_st rfl (krs6_f_X12_factor_124 N p5.2 x1))))) (kvs6_ite (kvs6_bind (krs6_st rfl (krs6_f_X12_can N σ 1)) (fun p42 => (kvs6_ite (kvs6_some rfl) (kvs6_st rfl (krs6_f_X12_factor_124 N p42.2 x1))))) (kvs6_ite (kvs6_bind (krs6_st rfl (krs6_f_X12_can N σ 1)) (fun p46 => (kvs6_ite (kvs6_some rfl) (kvs6_st rfl (krs6_f_X12_factor_124 N p46.2 x1))))) (kvs6_ite (kvs6_bind (krs6_st rfl (krs6_f_X12_can N σ 1)) (fun p50 => (kvs6_ite (kvs6_some rfl) (kvs6_st rfl (krs6_f_X12_factor_124 N p50.2 x1))))) (kvs6_ite (kvs6_bind (krs6_st rfl (krs6_f_X12_can N σ 1)) (fun p57 => (kvs6_ite (kvs6_some rfl) (kvs6_st rfl (krs6_f_X12_factor_124 N p57.2 x1))))) (kvs6_bind (krs6_st rfl (krs6_f_X12_can N σ 0)) (fun p54 => (kvs6_ite (kvs6_some rfl) (kvs6_st rfl (krs6_f_X12_factor_124 N p54.2 x1)))))))))))) kvs6_none)
theorem krs6_f_X12_arms_250 (N : Nat) (σ : RS) (x1 : Int32) : KVs6 σ (f_X12_arms_250 N σ x1) := by
  unfold f_X12_arms_250
  exact (kvs6_bind (krs6_st rfl (krs6_f_X12_shut N σ 125)) (fun p25 => (kvs6_ite (kvs6_ite (kvs6_some rfl) kvs6_none) kvs6_none)))
theorem krs6_f_X12_arms_333 (N : Nat) (σ : RS) : KVs6 σ (f_X12_arms_333 N σ) := by
  unfold f_X12_arms_333
  exact (kvs6_ite (kvs6_bindv (kvs6_st rfl (krs6_f_X12_next N σ)) (fun p51 => (kvs6_some rfl))) (kvs6_some rfl))
theorem krs6_f_X12_arms_400 (N : Nat) (σ : RS) : KVs6 σ (f_X12_arms_400 N σ) := by
  unfold f_X12_arms_400
  exact (kvs6_bindv (kvs6_st rfl (krs6_f_X12_then N σ 7 16)) (fun p62 => (kvs6_some rfl)))
theorem krs6_f_X12_arms_435 (N : Nat) (σ : RS) (x1 : Int32) : KVs6 σ (f_X12_arms_435 N σ x1) := by
  unfold f_X12_arms_435
  exact (kvs6_bind (krs6_st rfl (krs6_f_X12_shut N σ 125)) (fun p71 => (kvs6_ite (kvs6_some rfl) kvs6_none)))
theorem krs6_f_X12_arms (N : Nat) (σ : RS) (x1 : Int32) : KVs6 σ (f_X12_arms N σ x1) := by
  unfold f_X12_arms
  exact (kvs6_ite (kvs6_ite (kvs6_bindv (kvs6_st rfl (krs6_f_X12_next N σ)) (fun p3 => (kvs6_bind (krs6_st rfl (krs6_f_X12_open N p3 40)) (fun p5 => (kvs6_bindv (kvs6_st rfl (krs6_f_X12_then N p5.2 1 16)) (fun p7 => (kvs6_some rfl))))))) (kvs6_ite (kvs6_bind (krs6_st rfl (krs6_f_X12_shut N σ 41)) (fun p10 => (kvs6_bind (krs6_st rfl (krs6_f_X12_emit N p10.2 29 (-1))) (fun p12 => (kvs6_bind (krs6_st rfl (krs6_f_X12_goal N (RS.setI (RS.setA (RS.setA (RS.setA p12.2 66 ((x1 : Int32).toNatClampNeg) p12.1) 67 ((x1 : Int32).toNatClampNeg) (-1)) 68 ((x1 : Int32).toNatClampNeg) 0) 52 ((p12.2.i 52) + 1)) 3 0)) (fun p14 => (kvs6_bind (krs6_st rfl (krs6_f_X12_open N p14.2 123)) (fun p16 => (kvs6_some rfl))))))))) (kvs6_ite (kvs6_ite (kvs6_bindv (kvs6_st rfl (krs6_f_X12_next N σ)) (fun p43 => (kvs6_some rfl))) (kvs6_ite (kvs6_ite (kvs6_bindv (kvs6_st rfl (krs6_f_X12_fail N σ 4 (σ.i 11))) (fun p41 => (kvs6_some rfl))) (kvs6_bindv (kvs6_st rfl (krs6_f_X12_entry N (RS.setA σ 68 ((x1 : Int32).toNatClampNeg) 1) x1 0 1)) (fun p37 => (kvs6_bindv (kvs6_st rfl (krs6_f_X12_next N p37)) (fun p39 => (kvs6_some rfl)))))) (kvs6_ite (kvs6_ite (kvs6_bind (krs6_st rfl (krs6_f_X12_can N σ 1)) (fun p33 => (kvs6_ite (kvs6_some rfl) (kvs6_st rfl (krs6_f_X12_arms_250 N p33.2 x1))))) (kvs6_bind (krs6_st rfl (krs6_f_X12_can N σ 0)) (fun p30 => (kvs6_ite (kvs6_some rfl) (kvs6_st rfl (krs6_f_X12_arms_250 N p30.2 x1)))))) (kvs6_bind (krs6_st rfl (krs6_f_X12_can N σ 0)) (fun p22 => (kvs6_ite (kvs6_some rfl) (kvs6_st rfl (krs6_f_X12_arms_250 N p22.2 x1)))))))) (kvs6_ite (kvs6_bind (krs6_st rfl (krs6_f_X12_caseNumber N σ x1)) (fun p46 => (kvs6_ite (kvs6_some rfl) (kvs6_ite (kvs6_st rfl (krs6_f_X12_arms_333 N (RS.setA p46.2 65 ((x1 : Int32).toNatClampNeg) 3))) (kvs6_st rfl (krs6_f_X12_arms_333 N (RS.setA p46.2 65 ((x1 : Int32).toNatClampNeg) 5))))))) (kvs6_ite (kvs6_bind (krs6_st rfl (krs6_f_X12_need N σ 59)) (fun p54 => (kvs6_bind (krs6_st rfl (krs6_f_X12_emit N p54.2 30 0)) (fun p56 => (kvs6_some rfl))))) (kvs6_ite (kvs6_bind (krs6_st rfl (krs6_f_X12_need N σ 306)) (fun p59 => (kvs6_ite (kvs6_ite (kvs6_bind (krs6_st rfl (krs6_f_X12_open N p59.2 123)) (fun p65 => (kvs6_bindv (kvs6_st rfl (krs6_f_X12_then N (RS.setA p65.2 71 ((x1 : Int32).toNatClampNeg) (p65.2.i 38)) 6 1)) (fun p67 => (kvs6_some rfl))))) (kvs6_st rfl (krs6_f_X12_arms_400 N p59.2))) (kvs6_st rfl (krs6_f_X12_arms_400 N p59.2))))) (kvs6_ite (kvs6_ite (kvs6_st rfl (krs6_f_X12_arms_435 N σ x1)) (kvs6_ite (kvs6_bindv (kvs6_st rfl (krs6_f_X12_note N σ (σ.i 11))) (fun p75 => (kvs6_st rfl (krs6_f_X12_arms_435 N p75 x1)))) (kvs6_st rfl (krs6_f_X12_arms_435 N σ x1)))) (kvs6_bind (krs6_st rfl (krs6_f_X12_need N σ 59)) (fun p77 => (kvs6_bind (krs6_st rfl (krs6_f_X12_emit N p77.2 30 0)) (fun p79 => (kvs6_some rfl)))))))))))) kvs6_none)
theorem krs6_f_X12_both_41 (N : Nat) (σ : RS) (x1 : Int32) (x2 : Int32) (x3 : Int32) (x4 : Int32) : KVs6 σ (f_X12_both_41 N σ x1 x2 x3 x4) := by
  unfold f_X12_both_41
  exact (kvs6_ite (kvs6_bindv (kvs6_st rfl (krs6_f_X12_next N σ)) (fun p5 => (kvs6_bind (krs6_st rfl (krs6_f_X12_emit N p5 x4 0)) (fun p7 => (kvs6_ite (kvs6_bindv (kvs6_st rfl (krs6_f_X12_then N (RS.setA p7.2 66 ((x1 : Int32).toNatClampNeg) p7.1) 2 x2)) (fun p10 => (kvs6_some rfl))) kvs6_none))))) (kvs6_some rfl))
theorem krs6_f_X12_both (N : Nat) (σ : RS) (x1 : Int32) (x2 : Int32) (x3 : Int32) (x4 : Int32) : KVs6 σ (f_X12_both N σ x1 x2 x3 x4) := by
  unfold f_X12_both
  exact (kvs6_ite (kvs6_ite (kvs6_bindv (kvs6_st rfl (krs6_f_X12_then N σ 1 x2)) (fun p13 => (kvs6_some rfl))) (kvs6_ite (kvs6_ite (kvs6_st rfl (krs6_f_X12_both_41 N (RS.setA σ 22 (((σ.a 66 ((x1 : Int32).toNatClampNeg)) : Int32).toNatClampNeg) (σ.i 20)) x1 x2 x3 x4)) kvs6_none) (kvs6_st rfl (krs6_f_X12_both_41 N σ x1 x2 x3 x4)))) kvs6_none)
theorem krs6_f_X12_one_133 (N : Nat) (σ : RS) : KVs6 σ (f_X12_one_133 N σ) := by
  unfold f_X12_one_133
  exact (kvs6_bindv (kvs6_st rfl (krs6_f_X12_next N σ)) (fun p9 => (kvs6_some rfl)))
theorem krs6_f_X12_one_112 (N : Nat) (σ : RS) : KVs6 σ (f_X12_one_112 N σ) := by
  unfold f_X12_one_112
  exact (kvs6_ite (kvs6_bind (krs6_st rfl (krs6_f_X12_emit N σ 2 1)) (fun p11 => (kvs6_st rfl (krs6_f_X12_one_133 N p11.2)))) (kvs6_bind (krs6_st rfl (krs6_f_X12_emit N σ 2 0)) (fun p7 => (kvs6_st rfl (krs6_f_X12_one_133 N p7.2)))))
theorem krs6_f_X12_one_281 (N : Nat) (σ : RS) (x1 : Int32) : KVs6 σ (f_X12_one_281 N σ x1) := by
  unfold f_X12_one_281
  exact (kvs6_ite (kvs6_bindv (kvs6_st rfl (krs6_f_X12_next N (RS.setA σ 66 ((x1 : Int32).toNatClampNeg) (σ.i 10)))) (fun p39 => (kvs6_bindv (kvs6_st rfl (krs6_f_X12_then N p39 4 16)) (fun p41 => (kvs6_some rfl))))) kvs6_none)
theorem krs6_f_X12_one (N : Nat) (σ : RS) (x1 : Int32) : KVs6 σ (f_X12_one N σ x1) := by
  unfold f_X12_one
  exact (kvs6_ite (kvs6_ite (kvs6_ite (kvs6_bind (krs6_st rfl (krs6_f_X12_opens N σ)) (fun p20 => (kvs6_ite (kvs6_some rfl) (kvs6_bindv (kvs6_st rfl (krs6_f_X12_next N p20.2)) (fun p23 => (kvs6_bindv (kvs6_st rfl (krs6_f_X12_then N p23 1 22)) (fun p25 => (kvs6_some rfl)))))))) (kvs6_ite (kvs6_bind (krs6_st rfl (krs6_f_X12_open N σ 91)) (fun p16 => (kvs6_bindv (kvs6_st rfl (krs6_f_X12_then N p16.2 2 20)) (fun p18 => (kvs6_some rfl))))) (kvs6_ite (kvs6_st rfl (krs6_f_X12_one_112 N σ)) (kvs6_ite (kvs6_st rfl (krs6_f_X12_one_112 N σ)) (kvs6_bindv (kvs6_st rfl (krs6_f_X12_then N σ 3 16)) (fun p14 => (kvs6_some rfl))))))) (kvs6_ite (kvs6_bind (krs6_st rfl (krs6_f_X12_emit N (RS.setI σ 19 ((σ.i 19) - 1)) 10 0)) (fun p28 => (kvs6_some rfl))) (kvs6_ite (kvs6_bind (krs6_st rfl (krs6_f_X12_shut N σ 93)) (fun p31 => (kvs6_some rfl))) (kvs6_ite (kvs6_ite (kvs6_bind (krs6_st rfl (krs6_f_X12_can N σ 1)) (fun p35 => (kvs6_ite (kvs6_some rfl) (kvs6_st rfl (krs6_f_X12_one_281 N p35.2 x1))))) (kvs6_ite (kvs6_bind (krs6_st rfl (krs6_f_X12_can N σ 1)) (fun p44 => (kvs6_ite (kvs6_some rfl) (kvs6_st rfl (krs6_f_X12_one_281 N p44.2 x1))))) (kvs6_ite (kvs6_bind (krs6_st rfl (krs6_f_X12_can N σ 1)) (fun p48 => (kvs6_ite (kvs6_some rfl) (kvs6_st rfl (krs6_f_X12_one_281 N p48.2 x1))))) (kvs6_ite (kvs6_bind (krs6_st rfl (krs6_f_X12_can N σ 1)) (fun p52 => (kvs6_ite (kvs6_some rfl) (kvs6_st rfl (krs6_f_X12_one_281 N p52.2 x1))))) (kvs6_ite (kvs6_bind (krs6_st rfl (krs6_f_X12_can N σ 1)) (fun p56 => (kvs6_ite (kvs6_some rfl) (kvs6_st rfl (krs6_f_X12_one_281 N p56.2 x1))))) (kvs6_ite (kvs6_bind (krs6_st rfl (krs6_f_X12_can N σ 1)) (fun p63 => (kvs6_ite (kvs6_some rfl) (kvs6_st rfl (krs6_f_X12_one_281 N p63.2 x1))))) (kvs6_bind (krs6_st rfl (krs6_f_X12_can N σ 0)) (fun p60 => (kvs6_ite (kvs6_some rfl) (kvs6_st rfl (krs6_f_X12_one_281 N p60.2 x1))))))))))) (kvs6_bind (krs6_st rfl (krs6_f_X12_emit N σ 9 (σ.a 66 ((x1 : Int32).toNatClampNeg)))) (fun p66 => (kvs6_some rfl))))))) kvs6_none)
theorem krs6_f_X12_thing_74 (N : Nat) (σ : RS) : KVs6 σ (f_X12_thing_74 N σ) := by
  unfold f_X12_thing_74
  exact (kvs6_some rfl)
theorem krs6_f_X12_thing_116 (N : Nat) (σ : RS) : KVs6 σ (f_X12_thing_116 N σ) := by
  unfold f_X12_thing_116
  exact (kvs6_some rfl)
theorem krs6_f_X12_thing (N : Nat) (σ : RS) (x1 : Int32) : KVs6 σ (f_X12_thing N σ x1) := by
  unfold f_X12_thing
  exact (kvs6_ite (kvs6_ite (kvs6_ite (kvs6_bindv (kvs6_st rfl (krs6_f_X12_sums N σ x1 17 1)) (fun p4 => (kvs6_st rfl (krs6_f_X12_thing_74 N p4)))) (kvs6_ite (kvs6_bindv (kvs6_st rfl (krs6_f_X12_sums N σ x1 17 1)) (fun p9 => (kvs6_st rfl (krs6_f_X12_thing_74 N p9)))) (kvs6_bindv (kvs6_st rfl (krs6_f_X12_sums N σ x1 17 0)) (fun p7 => (kvs6_st rfl (krs6_f_X12_thing_74 N p7)))))) (kvs6_ite (kvs6_ite (kvs6_bindv (kvs6_st rfl (krs6_f_X12_sums N σ x1 18 1)) (fun p13 => (kvs6_st rfl (krs6_f_X12_thing_116 N p13)))) (kvs6_ite (kvs6_bindv (kvs6_st rfl (krs6_f_X12_sums N σ x1 18 1)) (fun p16 => (kvs6_st rfl (krs6_f_X12_thing_116 N p16)))) (kvs6_ite (kvs6_bindv (kvs6_st rfl (krs6_f_X12_sums N σ x1 18 1)) (fun p21 => (kvs6_st rfl (krs6_f_X12_thing_116 N p21)))) (kvs6_bindv (kvs6_st rfl (krs6_f_X12_sums N σ x1 18 0)) (fun p19 => (kvs6_st rfl (krs6_f_X12_thing_116 N p19))))))) (kvs6_ite (kvs6_bindv (kvs6_st rfl (krs6_f_X12_factor N σ x1)) (fun p24 => (kvs6_some rfl))) (kvs6_ite (kvs6_bindv (kvs6_st rfl (krs6_f_X12_arms N σ x1)) (fun p27 => (kvs6_some rfl))) (kvs6_ite (kvs6_bindv (kvs6_st rfl (krs6_f_X12_both N σ x1 21 305 11)) (fun p30 => (kvs6_some rfl))) (kvs6_ite (kvs6_bindv (kvs6_st rfl (krs6_f_X12_both N σ x1 22 304 12)) (fun p33 => (kvs6_some rfl))) (kvs6_bindv (kvs6_st rfl (krs6_f_X12_one N σ x1)) (fun p35 => (kvs6_some rfl))))))))) kvs6_none)
theorem krs6_b_X12_parse_10 (N : Nat) (K : RS → Option (RS)) (hK : ∀ (σ : RS), KVs6 σ (K σ)) (σ : RS) : KVs6 σ (b_X12_parse_10 N K σ) := by
  unfold b_X12_parse_10
  exact (kvs6_ite (kvs6_some rfl) (kvs6_ite (kvs6_ite (kvs6_ite (kvs6_bindv (kvs6_st rfl (krs6_f_X12_list N σ (σ.i 63))) (fun p7 => (kvs6_st rfl (hK p7)))) (kvs6_ite (kvs6_bindv (kvs6_st rfl (krs6_f_X12_stat N σ (σ.i 63))) (fun p10 => (kvs6_st rfl (hK p10)))) (kvs6_ite (kvs6_bindv (kvs6_st rfl (krs6_f_X12_block N σ (σ.i 63))) (fun p13 => (kvs6_st rfl (hK p13)))) (kvs6_ite (kvs6_bindv (kvs6_st rfl (krs6_f_X12_tell N σ (σ.i 63))) (fun p16 => (kvs6_st rfl (hK p16)))) (kvs6_ite (kvs6_bindv (kvs6_st rfl (krs6_f_X12_named N σ (σ.i 63))) (fun p19 => (kvs6_st rfl (hK p19)))) (kvs6_ite (kvs6_bindv (kvs6_st rfl (krs6_f_X12_ending N σ (σ.i 63))) (fun p22 => (kvs6_st rfl (hK p22)))) (kvs6_ite (kvs6_bindv (kvs6_st rfl (krs6_f_X12_throwing N σ (σ.i 63))) (fun p25 => (kvs6_st rfl (hK p25)))) (kvs6_ite (kvs6_bindv (kvs6_st rfl (krs6_f_X12_asserted N σ (σ.i 63))) (fun p28 => (kvs6_st rfl (hK p28)))) (kvs6_ite (kvs6_bindv (kvs6_st rfl (krs6_f_X12_branch N σ (σ.i 63))) (fun p31 => (kvs6_st rfl (hK p31)))) (kvs6_ite (kvs6_bindv (kvs6_st rfl (krs6_f_X12_whiles N σ (σ.i 63))) (fun p34 => (kvs6_st rfl (hK p34)))) (kvs6_ite (kvs6_bindv (kvs6_st rfl (krs6_f_X12_repeats N σ (σ.i 63))) (fun p37 => (kvs6_st rfl (hK p37)))) (kvs6_ite (kvs6_bindv (kvs6_st rfl (krs6_f_X12_fors N σ (σ.i 63))) (fun p40 => (kvs6_st rfl (hK p40)))) (kvs6_ite (kvs6_bindv (kvs6_st rfl (krs6_f_X12_lock N σ (σ.i 63))) (fun p43 => (kvs6_st rfl (hK p43)))) (kvs6_ite (kvs6_bindv (kvs6_st rfl (krs6_f_X12_groups N σ (σ.i 63))) (fun p46 => (kvs6_st rfl (hK p46)))) (kvs6_ite (kvs6_bindv (kvs6_st rfl (krs6_f_X12_trying N σ (σ.i 63))) (fun p49 => (kvs6_st rfl (hK p49)))) (kvs6_bindv (kvs6_st rfl (krs6_f_X12_thing N σ (σ.i 63))) (fun p51 => (kvs6_st rfl (hK p51))))))))))))))))))) kvs6_none) (kvs6_some rfl)))
theorem krs6_f_X12_parse_10 (N : Nat) : ∀ (n : Nat) (σ : RS), KVs6 σ (f_X12_parse_10 N n σ )
  | 0, _ => kvs6_none
  | n+1, σ => krs6_b_X12_parse_10 N (f_X12_parse_10 N n) (fun σ => krs6_f_X12_parse_10 N n σ) σ
theorem krs6_f_X12_fault (N : Nat) (σ : RS) : KRs6 σ (f_X12_fault N σ) := by
  unfold f_X12_fault
  exact (krs6_some rfl)
theorem krs6_f_X12_program (N : Nat) (σ : RS) (x1 : Int32) : KRs6 σ (f_X12_program N σ x1) := by
  unfold f_X12_program
  exact (krs6_bind (krs6_st rfl (krs6_f_X12_in N (RS.setI σ 0 0) x1 0 3)) (fun p1 => (krs6_ite (krs6_some rfl) (krs6_ite (krs6_some rfl) (krs6_ite (krs6_some rfl) (krs6_ite (krs6_ite (krs6_some rfl) (krs6_some rfl)) (krs6_ite (krs6_some rfl) (krs6_some rfl))))))))
theorem krs6_f_X12_row (N : Nat) (σ : RS) (x1 : Int32) (x2 : Int32) : KVs6 σ (f_X12_row N σ x1 x2) := by
  unfold f_X12_row
  exact (kvs6_ite (kvs6_some rfl) (kvs6_ite (kvs6_some rfl) kvs6_none))
theorem krs6_f_X12_record (N : Nat) (σ : RS) (x1 : Int32) (x2 : Int32) (x3 : Int32) (x4 : Int32) : KRs6 σ (f_X12_record N σ x1 x2 x3 x4) := by
  unfold f_X12_record
  exact (krs6_ite (krs6_some rfl) krs6_none)
theorem krs6_f_X12_put (N : Nat) (σ : RS) (x1 : Int32) : KVs6 σ (f_X12_put N σ x1) := by
  unfold f_X12_put
  exact (kvs6_ite (kvs6_some rfl) kvs6_none)
theorem krs6_f_X12_take (N : Nat) (σ : RS) : KRs6 σ (f_X12_take N σ) := by
  unfold f_X12_take
  exact (krs6_ite (krs6_some rfl) krs6_none)
theorem krs6_f_X12_raise_24 (N : Nat) (σ : RS) (x1 : Int32) (x2 : Int32) : KVs6 σ (f_X12_raise_24 N σ x1 x2) := by
  unfold f_X12_raise_24
  exact (kvs6_ite (kvs6_some rfl) kvs6_none)
theorem krs6_f_X12_raise (N : Nat) (σ : RS) (x1 : Int32) (x2 : Int32) : KVs6 σ (f_X12_raise N σ x1 x2) := by
  unfold f_X12_raise
  exact (kvs6_ite (kvs6_st rfl (krs6_f_X12_raise_24 N (RS.setI σ 114 3199) x1 x2)) (kvs6_st rfl (krs6_f_X12_raise_24 N (RS.setI σ 114 (σ.i 85)) x1 x2)))
theorem krs6_b_X12_closeAll_0 (N : Nat) (K : RS → Int32 → Option (RS)) (hK : ∀ (σ : RS) (y0 : Int32), KVs6 σ (K σ y0)) (σ : RS) (x1 : Int32) : KVs6 σ (b_X12_closeAll_0 N K σ x1) := by
  unfold b_X12_closeAll_0
  exact (kvs6_ite (kvs6_ite (kvs6_some rfl) (kvs6_ite (kvs6_bindv (kvs6_st rfl (krs6_f_X12_row N (RS.setI σ 95 ((σ.i 95) - 1)) 2 (σ.a 96 ((((σ.i 95) - 1) : Int32).toNatClampNeg)))) (fun p4 => (kvs6_ite (kvs6_ite (kvs6_st rfl (hK p4 x1)) (kvs6_ite (kvs6_ite (kvs6_ite (kvs6_st rfl (hK p4 x1)) (kvs6_ite (kvs6_st rfl (hK (RS.setA (RS.setA (RS.setA p4 89 ((((8 * (p4.i 114)) + (p4.a 88 (((p4.i 114) : Int32).toNatClampNeg))) : Int32).toNatClampNeg) ((p4.a 7 (((σ.a 96 ((((σ.i 95) - 1) : Int32).toNatClampNeg)) : Int32).toNatClampNeg)) - 1)) 90 ((((8 * (p4.i 114)) + (p4.a 88 (((p4.i 114) : Int32).toNatClampNeg))) : Int32).toNatClampNeg) (σ.a 96 ((((σ.i 95) - 1) : Int32).toNatClampNeg))) 88 (((p4.i 114) : Int32).toNatClampNeg) ((p4.a 88 (((p4.i 114) : Int32).toNatClampNeg)) + 1)) x1)) kvs6_none)) kvs6_none) (kvs6_bindv (kvs6_st rfl (krs6_f_X12_raise N p4 ((p4.a 7 (((σ.a 96 ((((σ.i 95) - 1) : Int32).toNatClampNeg)) : Int32).toNatClampNeg)) - 1) (σ.a 96 ((((σ.i 95) - 1) : Int32).toNatClampNeg)))) (fun p14 => (kvs6_st rfl (hK p14 x1)))))) kvs6_none))) kvs6_none)) kvs6_none)
theorem krs6_f_X12_closeAll_0 (N : Nat) : ∀ (n : Nat) (σ : RS) (y0 : Int32), KVs6 σ (f_X12_closeAll_0 N n σ y0)
  | 0, _, _ => kvs6_none
  | n+1, σ, y0 => krs6_b_X12_closeAll_0 N (f_X12_closeAll_0 N n) (fun σ y0 => krs6_f_X12_closeAll_0 N n σ y0) σ y0
theorem krs6_f_X12_closeAll (N : Nat) (σ : RS) (x1 : Int32) : KVs6 σ (f_X12_closeAll N σ x1) := by
  unfold f_X12_closeAll
  exact (kvs6_st rfl (krs6_f_X12_closeAll_0 N N σ x1))
theorem krs6_f_X12_finals (N : Nat) (σ : RS) (x1 : Int32) : KRs6 σ (f_X12_finals N σ x1) := by
  unfold f_X12_finals
  exact (krs6_ite (krs6_ite (krs6_ite (krs6_some rfl) (krs6_some rfl)) krs6_none) krs6_none)
theorem krs6_b_X12_isCaught_12 (N : Nat) (K : RS → Int32 → Int32 → Option (Int32 × RS)) (hK : ∀ (σ : RS) (y0 : Int32) (y1 : Int32), KRs6 σ (K σ y0 y1)) (σ : RS) (x1 : Int32) (x2 : Int32) : KRs6 σ (b_X12_isCaught_12 N K σ x1 x2) := by
  unfold b_X12_isCaught_12
  exact (krs6_ite (krs6_some rfl) (krs6_ite (krs6_ite (krs6_bind (krs6_st rfl (krs6_f_X12_isUnder N σ (σ.a 86 (((σ.i 114) : Int32).toNatClampNeg)) (σ.a 34 ((x2 : Int32).toNatClampNeg)))) (fun p6 => (krs6_ite (krs6_st rfl (hK p6.2 x1 (p6.2.a 37 ((x2 : Int32).toNatClampNeg)))) (krs6_ite (krs6_ite (krs6_some rfl) krs6_none) krs6_none)))) krs6_none) krs6_none))
theorem krs6_f_X12_isCaught_12 (N : Nat) : ∀ (n : Nat) (σ : RS) (y0 : Int32) (y1 : Int32), KRs6 σ (f_X12_isCaught_12 N n σ y0 y1)
  | 0, _, _, _ => krs6_none
  | n+1, σ, y0, y1 => krs6_b_X12_isCaught_12 N (f_X12_isCaught_12 N n) (fun σ y0 y1 => krs6_f_X12_isCaught_12 N n σ y0 y1) σ y0 y1
theorem krs6_f_X12_isCaught (N : Nat) (σ : RS) (x1 : Int32) : KRs6 σ (f_X12_isCaught N σ x1) := by
  unfold f_X12_isCaught
  exact (krs6_ite (krs6_ite (krs6_st rfl (krs6_f_X12_isCaught_12 N N σ x1 (σ.a 30 (((σ.a 101 ((x1 : Int32).toNatClampNeg)) : Int32).toNatClampNeg)))) krs6_none) krs6_none)
theorem krs6_b_X12_leave_0 (N : Nat) (K : RS → Option (RS)) (hK : ∀ (σ : RS), KVs6 σ (K σ)) (σ : RS) : KVs6 σ (b_X12_leave_0 N K σ) := by
  unfold b_X12_leave_0
  exact (kvs6_ite (kvs6_ite (kvs6_some rfl) (kvs6_ite (kvs6_ite (kvs6_bindv (kvs6_st rfl (krs6_f_X12_row N σ 4 (σ.a 101 ((((σ.i 99) - 1) : Int32).toNatClampNeg)))) (fun p27 => (kvs6_ite (kvs6_st rfl (hK (RS.setI (RS.setA p27 91 (((p27.a 101 ((((σ.i 99) - 1) : Int32).toNatClampNeg)) : Int32).toNatClampNeg) ((p27.a 91 (((p27.a 101 ((((σ.i 99) - 1) : Int32).toNatClampNeg)) : Int32).toNatClampNeg)) - 1)) 99 ((p27.i 99) - 1)))) kvs6_none))) (kvs6_ite (kvs6_st rfl (hK (RS.setI (RS.setI σ 97 (σ.a 101 ((((σ.i 99) - 1) : Int32).toNatClampNeg))) 99 ((σ.i 99) - 1)))) (kvs6_ite (kvs6_ite (kvs6_bindv (kvs6_st rfl (krs6_f_X12_closeAll N σ ((σ.i 99) - 1))) (fun p13 => (kvs6_ite (kvs6_bind (krs6_st rfl (krs6_f_X12_isCaught N p13 ((σ.i 99) - 1))) (fun p20 => (kvs6_ite (kvs6_ite (kvs6_st rfl (hK (RS.setI p20.2 99 ((p20.2.i 99) - 1)))) (kvs6_bind (krs6_st rfl (krs6_f_X12_finals N p20.2 ((σ.i 99) - 1))) (fun p24 => (kvs6_ite (kvs6_st rfl (hK (RS.setI p24.2 99 ((p24.2.i 99) - 1)))) (kvs6_some rfl))))) (kvs6_some rfl)))) (kvs6_ite (kvs6_st rfl (hK (RS.setI p13 99 ((p13.i 99) - 1)))) (kvs6_bind (krs6_st rfl (krs6_f_X12_finals N p13 ((σ.i 99) - 1))) (fun p17 => (kvs6_ite (kvs6_st rfl (hK (RS.setI p17.2 99 ((p17.2.i 99) - 1)))) (kvs6_some rfl)))))))) (kvs6_ite (kvs6_st rfl (hK (RS.setI σ 99 ((σ.i 99) - 1)))) (kvs6_bind (krs6_st rfl (krs6_f_X12_finals N σ ((σ.i 99) - 1))) (fun p10 => (kvs6_ite (kvs6_st rfl (hK (RS.setI p10.2 99 ((p10.2.i 99) - 1)))) (kvs6_some rfl)))))) (kvs6_st rfl (hK (RS.setI σ 99 ((σ.i 99) - 1))))))) kvs6_none)) (kvs6_ite (kvs6_ite (kvs6_ite (kvs6_bindv (kvs6_st rfl (krs6_f_X12_put N (RS.setI (RS.setI σ 99 ((σ.i 99) - 1)) 93 (σ.a 104 ((((σ.i 99) - 1) : Int32).toNatClampNeg))) (σ.i 113))) (fun p64 => (kvs6_ite (kvs6_ite (kvs6_some rfl) kvs6_none) kvs6_none))) kvs6_none) (kvs6_ite (kvs6_ite (kvs6_bindv (kvs6_st rfl (krs6_f_X12_row N σ 4 (σ.a 101 ((((σ.i 99) - 1) : Int32).toNatClampNeg)))) (fun p91 => (kvs6_ite (kvs6_st rfl (hK (RS.setI (RS.setA p91 91 (((p91.a 101 ((((σ.i 99) - 1) : Int32).toNatClampNeg)) : Int32).toNatClampNeg) ((p91.a 91 (((p91.a 101 ((((σ.i 99) - 1) : Int32).toNatClampNeg)) : Int32).toNatClampNeg)) - 1)) 99 ((p91.i 99) - 1)))) kvs6_none))) (kvs6_ite (kvs6_st rfl (hK (RS.setI (RS.setI σ 97 (σ.a 101 ((((σ.i 99) - 1) : Int32).toNatClampNeg))) 99 ((σ.i 99) - 1)))) (kvs6_ite (kvs6_ite (kvs6_bindv (kvs6_st rfl (krs6_f_X12_closeAll N σ ((σ.i 99) - 1))) (fun p77 => (kvs6_ite (kvs6_bind (krs6_st rfl (krs6_f_X12_isCaught N p77 ((σ.i 99) - 1))) (fun p84 => (kvs6_ite (kvs6_ite (kvs6_st rfl (hK (RS.setI p84.2 99 ((p84.2.i 99) - 1)))) (kvs6_bind (krs6_st rfl (krs6_f_X12_finals N p84.2 ((σ.i 99) - 1))) (fun p88 => (kvs6_ite (kvs6_st rfl (hK (RS.setI p88.2 99 ((p88.2.i 99) - 1)))) (kvs6_some rfl))))) (kvs6_some rfl)))) (kvs6_ite (kvs6_st rfl (hK (RS.setI p77 99 ((p77.i 99) - 1)))) (kvs6_bind (krs6_st rfl (krs6_f_X12_finals N p77 ((σ.i 99) - 1))) (fun p81 => (kvs6_ite (kvs6_st rfl (hK (RS.setI p81.2 99 ((p81.2.i 99) - 1)))) (kvs6_some rfl)))))))) (kvs6_ite (kvs6_st rfl (hK (RS.setI σ 99 ((σ.i 99) - 1)))) (kvs6_bind (krs6_st rfl (krs6_f_X12_finals N σ ((σ.i 99) - 1))) (fun p74 => (kvs6_ite (kvs6_st rfl (hK (RS.setI p74.2 99 ((p74.2.i 99) - 1)))) (kvs6_some rfl)))))) (kvs6_st rfl (hK (RS.setI σ 99 ((σ.i 99) - 1))))))) kvs6_none)) (kvs6_ite (kvs6_some rfl) (kvs6_ite (kvs6_ite (kvs6_bindv (kvs6_st rfl (krs6_f_X12_row N σ 4 (σ.a 101 ((((σ.i 99) - 1) : Int32).toNatClampNeg)))) (fun p57 => (kvs6_ite (kvs6_st rfl (hK (RS.setI (RS.setA p57 91 (((p57.a 101 ((((σ.i 99) - 1) : Int32).toNatClampNeg)) : Int32).toNatClampNeg) ((p57.a 91 (((p57.a 101 ((((σ.i 99) - 1) : Int32).toNatClampNeg)) : Int32).toNatClampNeg)) - 1)) 99 ((p57.i 99) - 1)))) kvs6_none))) (kvs6_ite (kvs6_st rfl (hK (RS.setI (RS.setI σ 97 (σ.a 101 ((((σ.i 99) - 1) : Int32).toNatClampNeg))) 99 ((σ.i 99) - 1)))) (kvs6_ite (kvs6_ite (kvs6_bindv (kvs6_st rfl (krs6_f_X12_closeAll N σ ((σ.i 99) - 1))) (fun p43 => (kvs6_ite (kvs6_bind (krs6_st rfl (krs6_f_X12_isCaught N p43 ((σ.i 99) - 1))) (fun p50 => (kvs6_ite (kvs6_ite (kvs6_st rfl (hK (RS.setI p50.2 99 ((p50.2.i 99) - 1)))) (kvs6_bind (krs6_st rfl (krs6_f_X12_finals N p50.2 ((σ.i 99) - 1))) (fun p54 => (kvs6_ite (kvs6_st rfl (hK (RS.setI p54.2 99 ((p54.2.i 99) - 1)))) (kvs6_some rfl))))) (kvs6_some rfl)))) (kvs6_ite (kvs6_st rfl (hK (RS.setI p43 99 ((p43.i 99) - 1)))) (kvs6_bind (krs6_st rfl (krs6_f_X12_finals N p43 ((σ.i 99) - 1))) (fun p47 => (kvs6_ite (kvs6_st rfl (hK (RS.setI p47.2 99 ((p47.2.i 99) - 1)))) (kvs6_some rfl)))))))) (kvs6_ite (kvs6_st rfl (hK (RS.setI σ 99 ((σ.i 99) - 1)))) (kvs6_bind (krs6_st rfl (krs6_f_X12_finals N σ ((σ.i 99) - 1))) (fun p40 => (kvs6_ite (kvs6_st rfl (hK (RS.setI p40.2 99 ((p40.2.i 99) - 1)))) (kvs6_some rfl)))))) (kvs6_st rfl (hK (RS.setI σ 99 ((σ.i 99) - 1))))))) kvs6_none))))
theorem krs6_f_X12_leave_0 (N : Nat) : ∀ (n : Nat) (σ : RS), KVs6 σ (f_X12_leave_0 N n σ )
  | 0, _ => kvs6_none
  | n+1, σ => krs6_b_X12_leave_0 N (f_X12_leave_0 N n) (fun σ => krs6_f_X12_leave_0 N n σ) σ
theorem krs6_f_X12_leave (N : Nat) (σ : RS) : KVs6 σ (f_X12_leave N σ) := by
  unfold f_X12_leave
  exact (kvs6_st rfl (krs6_f_X12_leave_0 N N σ))
theorem krs6_f_X12_step (N : Nat) (σ : RS) : KVs6 σ (f_X12_step N σ) := by
  unfold f_X12_step
  exact (kvs6_ite (kvs6_some rfl) (kvs6_some rfl))
theorem krs6_f_X12_compute (N : Nat) (σ : RS) (x1 : Int32) (x2 : Int32) (x3 : Int32) : KRs6 σ (f_X12_compute N σ x1 x2 x3) := by
  unfold f_X12_compute
  exact (krs6_ite (krs6_ite krs6_none (krs6_some rfl)) (krs6_ite (krs6_some rfl) (krs6_ite (krs6_some rfl) (krs6_ite (krs6_some rfl) (krs6_ite (krs6_ite krs6_none (krs6_some rfl)) (krs6_ite (krs6_ite (krs6_some rfl) (krs6_some rfl)) (krs6_ite (krs6_ite (krs6_some rfl) (krs6_some rfl)) (krs6_ite (krs6_ite (krs6_some rfl) (krs6_some rfl)) (krs6_ite (krs6_ite (krs6_some rfl) (krs6_some rfl)) (krs6_ite (krs6_ite (krs6_some rfl) (krs6_some rfl)) (krs6_ite (krs6_some rfl) (krs6_some rfl))))))))))))
theorem krs6_b_X12_caseOf_5 (N : Nat) (K : RS → Int32 → Int32 → Int32 → Option (Int32 × RS)) (hK : ∀ (σ : RS) (y0 : Int32) (y1 : Int32) (y2 : Int32), KRs6 σ (K σ y0 y1 y2)) (σ : RS) (x2 : Int32) (x3 : Int32) (x4 : Int32) : KRs6 σ (b_X12_caseOf_5 N K σ x2 x3 x4) := by
  unfold b_X12_caseOf_5
  exact (krs6_ite (krs6_some rfl) (krs6_ite (krs6_ite (krs6_ite (krs6_some rfl) (krs6_st rfl (hK σ x2 x3 (σ.a 27 ((x4 : Int32).toNatClampNeg))))) (krs6_st rfl (hK σ x2 x4 (σ.a 27 ((x4 : Int32).toNatClampNeg))))) krs6_none))
theorem krs6_f_X12_caseOf_5 (N : Nat) : ∀ (n : Nat) (σ : RS) (y0 : Int32) (y1 : Int32) (y2 : Int32), KRs6 σ (f_X12_caseOf_5 N n σ y0 y1 y2)
  | 0, _, _, _, _ => krs6_none
  | n+1, σ, y0, y1, y2 => krs6_b_X12_caseOf_5 N (f_X12_caseOf_5 N n) (fun σ y0 y1 y2 => krs6_f_X12_caseOf_5 N n σ y0 y1 y2) σ y0 y1 y2
theorem krs6_f_X12_caseOf (N : Nat) (σ : RS) (x1 : Int32) (x2 : Int32) : KRs6 σ (f_X12_caseOf N σ x1 x2) := by
  unfold f_X12_caseOf
  exact (krs6_st rfl (krs6_f_X12_caseOf_5 N N σ x2 (-1) x1))
theorem krs6_f_X12_goOn (N : Nat) (σ : RS) (x1 : Int32) : KVs6 σ (f_X12_goOn N σ x1) := by
  unfold f_X12_goOn
  exact (kvs6_bind (krs6_st rfl (krs6_f_X12_finals N σ x1)) (fun p1 => (kvs6_ite (kvs6_ite (kvs6_ite (kvs6_some rfl) kvs6_none) kvs6_none) (kvs6_some rfl))))
theorem krs6_b_X12_others_85 (N : Nat) (K : RS → Int32 → Int32 → Int32 → Option (RS)) (hK : ∀ (σ : RS) (y0 : Int32) (y1 : Int32) (y2 : Int32), KVs6 σ (K σ y0 y1 y2)) (σ : RS) (x2 : Int32) (x4 : Int32) (x5 : Int32) : KVs6 σ (b_X12_others_85 N K σ x2 x4 x5) := by
  unfold b_X12_others_85
  exact (kvs6_ite (kvs6_bind (krs6_st rfl (krs6_f_X12_record N (RS.setI σ 93 ((σ.i 93) - x2)) 2 x4 x4 (σ.i 97))) (fun p4 => (kvs6_some rfl))) (kvs6_ite (kvs6_ite (kvs6_st rfl (hK (RS.setI (RS.setA σ 98 (((σ.i 97) : Int32).toNatClampNeg) (σ.a 94 (((((σ.i 93) - x2) + x5) : Int32).toNatClampNeg))) 97 ((σ.i 97) + 1)) x2 x4 (x5 + 1))) kvs6_none) kvs6_none))
theorem krs6_f_X12_others_85 (N : Nat) : ∀ (n : Nat) (σ : RS) (y0 : Int32) (y1 : Int32) (y2 : Int32), KVs6 σ (f_X12_others_85 N n σ y0 y1 y2)
  | 0, _, _, _, _ => kvs6_none
  | n+1, σ, y0, y1, y2 => krs6_b_X12_others_85 N (f_X12_others_85 N n) (fun σ y0 y1 y2 => krs6_f_X12_others_85 N n σ y0 y1 y2) σ y0 y1 y2
theorem krs6_f_X12_others (N : Nat) (σ : RS) (x1 : Int32) (x2 : Int32) : KVs6 σ (f_X12_others N σ x1 x2) := by
  unfold f_X12_others
  exact (kvs6_ite (kvs6_ite (kvs6_st rfl (krs6_f_X12_others_85 N N σ x2 (σ.i 97) 0)) (kvs6_ite (kvs6_ite (kvs6_ite (kvs6_some rfl) (kvs6_bindv (kvs6_st rfl (krs6_f_X12_step N σ)) (fun p11 => (kvs6_ite (kvs6_ite (kvs6_some rfl) kvs6_none) kvs6_none)))) kvs6_none) (kvs6_ite (kvs6_ite (kvs6_some rfl) kvs6_none) (kvs6_ite (kvs6_ite (kvs6_ite (kvs6_some rfl) (kvs6_bindv (kvs6_st rfl (krs6_f_X12_leave N (RS.setI (RS.setI (RS.setI (RS.setI (RS.setI (RS.setI σ 110 (σ.a 105 ((((σ.i 99) - 1) : Int32).toNatClampNeg))) 111 (σ.a 106 ((((σ.i 99) - 1) : Int32).toNatClampNeg))) 112 (σ.a 107 ((((σ.i 99) - 1) : Int32).toNatClampNeg))) 113 (σ.a 108 ((((σ.i 99) - 1) : Int32).toNatClampNeg))) 114 (σ.a 109 ((((σ.i 99) - 1) : Int32).toNatClampNeg))) 99 ((σ.i 99) - 1)))) (fun p20 => (kvs6_some rfl)))) kvs6_none) (kvs6_ite (kvs6_ite (kvs6_ite (kvs6_some rfl) (kvs6_bindv (kvs6_st rfl (krs6_f_X12_leave N (RS.setI (RS.setI (RS.setI (RS.setI (RS.setI (RS.setI σ 110 (σ.a 105 ((((σ.i 99) - 1) : Int32).toNatClampNeg))) 111 (σ.a 106 ((((σ.i 99) - 1) : Int32).toNatClampNeg))) 112 (σ.a 107 ((((σ.i 99) - 1) : Int32).toNatClampNeg))) 113 (σ.a 108 ((((σ.i 99) - 1) : Int32).toNatClampNeg))) 114 (σ.a 109 ((((σ.i 99) - 1) : Int32).toNatClampNeg))) 99 ((σ.i 99) - 1)))) (fun p25 => (kvs6_some rfl)))) kvs6_none) (kvs6_ite (kvs6_ite (kvs6_ite (kvs6_some rfl) (kvs6_bindv (kvs6_st rfl (krs6_f_X12_leave N (RS.setI (RS.setI (RS.setI (RS.setI (RS.setI (RS.setI σ 110 (σ.a 105 ((((σ.i 99) - 1) : Int32).toNatClampNeg))) 111 (σ.a 106 ((((σ.i 99) - 1) : Int32).toNatClampNeg))) 112 (σ.a 107 ((((σ.i 99) - 1) : Int32).toNatClampNeg))) 113 (σ.a 108 ((((σ.i 99) - 1) : Int32).toNatClampNeg))) 114 (σ.a 109 ((((σ.i 99) - 1) : Int32).toNatClampNeg))) 99 ((σ.i 99) - 1)))) (fun p30 => (kvs6_some rfl)))) kvs6_none) (kvs6_ite (kvs6_ite (kvs6_ite (kvs6_some rfl) (kvs6_bindv (kvs6_st rfl (krs6_f_X12_leave N (RS.setI (RS.setI (RS.setI (RS.setI (RS.setI (RS.setI σ 110 (σ.a 105 ((((σ.i 99) - 1) : Int32).toNatClampNeg))) 111 (σ.a 106 ((((σ.i 99) - 1) : Int32).toNatClampNeg))) 112 (σ.a 107 ((((σ.i 99) - 1) : Int32).toNatClampNeg))) 113 (σ.a 108 ((((σ.i 99) - 1) : Int32).toNatClampNeg))) 114 (σ.a 109 ((((σ.i 99) - 1) : Int32).toNatClampNeg))) 99 ((σ.i 99) - 1)))) (fun p35 => (kvs6_some rfl)))) kvs6_none) (kvs6_ite (kvs6_ite (kvs6_ite (kvs6_some rfl) (kvs6_bindv (kvs6_st rfl (krs6_f_X12_leave N (RS.setI (RS.setI (RS.setI (RS.setI (RS.setI (RS.setI σ 110 (σ.a 105 ((((σ.i 99) - 1) : Int32).toNatClampNeg))) 111 (σ.a 106 ((((σ.i 99) - 1) : Int32).toNatClampNeg))) 112 (σ.a 107 ((((σ.i 99) - 1) : Int32).toNatClampNeg))) 113 (σ.a 108 ((((σ.i 99) - 1) : Int32).toNatClampNeg))) 114 (σ.a 109 ((((σ.i 99) - 1) : Int32).toNatClampNeg))) 99 ((σ.i 99) - 1)))) (fun p40 => (kvs6_some rfl)))) kvs6_none) (kvs6_ite (kvs6_bind (krs6_st rfl (krs6_f_X12_record N σ 4 x2 0 (σ.i 95))) (fun p43 => (kvs6_some rfl))) (kvs6_ite (kvs6_ite (kvs6_ite (kvs6_ite (kvs6_bindv (kvs6_st rfl (krs6_f_X12_row N σ 1 x2)) (fun p49 => (kvs6_ite (kvs6_some rfl) kvs6_none))) (kvs6_some rfl)) (kvs6_bindv (kvs6_st rfl (krs6_f_X12_raise N σ ((σ.a 6 ((x2 : Int32).toNatClampNeg)) - 1) x2)) (fun p52 => (kvs6_bindv (kvs6_st rfl (krs6_f_X12_leave N p52)) (fun p54 => (kvs6_some rfl)))))) kvs6_none) (kvs6_ite (kvs6_bindv (kvs6_st rfl (krs6_f_X12_closeAll N (RS.setI σ 110 0) ((σ.i 99) - 1))) (fun p57 => (kvs6_ite (kvs6_bindv (kvs6_st rfl (krs6_f_X12_leave N p57)) (fun p62 => (kvs6_some rfl))) (kvs6_bindv (kvs6_st rfl (krs6_f_X12_goOn N p57 ((σ.i 99) - 1))) (fun p60 => (kvs6_some rfl)))))) (kvs6_ite (kvs6_bindv (kvs6_st rfl (krs6_f_X12_goOn N (RS.setI σ 110 0) ((σ.i 99) - 1))) (fun p65 => (kvs6_some rfl))) (kvs6_ite (kvs6_ite (kvs6_some rfl) (kvs6_bindv (kvs6_st rfl (krs6_f_X12_leave N (RS.setI (RS.setI (RS.setI (RS.setI (RS.setI (RS.setI σ 110 (σ.a 105 ((((σ.i 99) - 1) : Int32).toNatClampNeg))) 111 (σ.a 106 ((((σ.i 99) - 1) : Int32).toNatClampNeg))) 112 (σ.a 107 ((((σ.i 99) - 1) : Int32).toNatClampNeg))) 113 (σ.a 108 ((((σ.i 99) - 1) : Int32).toNatClampNeg))) 114 (σ.a 109 ((((σ.i 99) - 1) : Int32).toNatClampNeg))) 99 ((σ.i 99) - 1)))) (fun p69 => (kvs6_some rfl)))) kvs6_none))))))))))))) kvs6_none)
theorem krs6_f_X12_ends_128 (N : Nat) (σ : RS) (x1 : Int32) : KVs6 σ (f_X12_ends_128 N σ x1) := by
  unfold f_X12_ends_128
  exact (kvs6_ite (kvs6_bindv (kvs6_st rfl (krs6_f_X12_leave N (RS.setI σ 112 (σ.a 23 ((x1 : Int32).toNatClampNeg))))) (fun p7 => (kvs6_some rfl))) kvs6_none)
theorem krs6_f_X12_ends_242 (N : Nat) (σ : RS) : KVs6 σ (f_X12_ends_242 N σ) := by
  unfold f_X12_ends_242
  exact (kvs6_some rfl)
theorem krs6_f_X12_ends_351 (N : Nat) (σ : RS) : KVs6 σ (f_X12_ends_351 N σ) := by
  unfold f_X12_ends_351
  exact (kvs6_some rfl)
theorem krs6_f_X12_ends (N : Nat) (σ : RS) (x1 : Int32) (x2 : Int32) : KVs6 σ (f_X12_ends N σ x1 x2) := by
  unfold f_X12_ends
  exact (kvs6_ite (kvs6_ite (kvs6_bind (krs6_st rfl (krs6_f_X12_take N σ)) (fun p3 => (kvs6_ite (kvs6_st rfl (krs6_f_X12_ends_128 N (RS.setI (RS.setI p3.2 113 p3.1) 110 2) x1)) (kvs6_st rfl (krs6_f_X12_ends_128 N (RS.setI (RS.setI p3.2 113 p3.1) 110 4) x1))))) (kvs6_ite (kvs6_bind (krs6_st rfl (krs6_f_X12_take N σ)) (fun p10 => (kvs6_ite (kvs6_st rfl (krs6_f_X12_ends_128 N (RS.setI (RS.setI p10.2 113 p10.1) 110 2) x1)) (kvs6_st rfl (krs6_f_X12_ends_128 N (RS.setI (RS.setI p10.2 113 p10.1) 110 4) x1))))) (kvs6_ite (kvs6_bind (krs6_st rfl (krs6_f_X12_take N σ)) (fun p14 => (kvs6_bindv (kvs6_st rfl (krs6_f_X12_raise N p14.2 x2 p14.1)) (fun p16 => (kvs6_bindv (kvs6_st rfl (krs6_f_X12_leave N p16)) (fun p18 => (kvs6_some rfl))))))) (kvs6_ite (kvs6_bindv (kvs6_st rfl (krs6_f_X12_raise N σ x2 0)) (fun p21 => (kvs6_bindv (kvs6_st rfl (krs6_f_X12_leave N p21)) (fun p23 => (kvs6_some rfl))))) (kvs6_ite (kvs6_ite (kvs6_bindv (kvs6_st rfl (krs6_f_X12_leave N (RS.setI (RS.setI σ 114 (σ.a 84 ((x2 : Int32).toNatClampNeg))) 110 3))) (fun p27 => (kvs6_some rfl))) kvs6_none) (kvs6_ite (kvs6_ite (kvs6_st rfl (krs6_f_X12_ends_242 N (RS.setI σ 92 x2))) (kvs6_st rfl (krs6_f_X12_ends_242 N (RS.setI σ 92 (σ.i 92))))) (kvs6_ite (kvs6_bindv (kvs6_st rfl (krs6_f_X12_others N σ x1 x2)) (fun p32 => (kvs6_some rfl))) (kvs6_ite (kvs6_bindv (kvs6_st rfl (krs6_f_X12_others N σ x1 x2)) (fun p35 => (kvs6_some rfl))) (kvs6_ite (kvs6_bindv (kvs6_st rfl (krs6_f_X12_others N σ x1 x2)) (fun p38 => (kvs6_some rfl))) (kvs6_ite (kvs6_bindv (kvs6_st rfl (krs6_f_X12_row N σ 3 x2)) (fun p41 => (kvs6_ite (kvs6_bind (krs6_st rfl (krs6_f_X12_record N (RS.setA p41 91 ((x2 : Int32).toNatClampNeg) ((p41.a 91 ((x2 : Int32).toNatClampNeg)) + 1)) 1 x2 0 0)) (fun p44 => (kvs6_some rfl))) kvs6_none))) (kvs6_ite (kvs6_ite (kvs6_bindv (kvs6_st rfl (krs6_f_X12_row N (RS.setI σ 99 ((σ.i 99) - 1)) 4 (σ.a 101 ((((σ.i 99) - 1) : Int32).toNatClampNeg)))) (fun p48 => (kvs6_ite (kvs6_ite (kvs6_some rfl) kvs6_none) kvs6_none))) kvs6_none) (kvs6_ite (kvs6_bind (krs6_st rfl (krs6_f_X12_take N σ)) (fun p53 => (kvs6_bind (krs6_st rfl (krs6_f_X12_caseOf N p53.2 x2 p53.1)) (fun p55 => (kvs6_ite (kvs6_ite (kvs6_st rfl (krs6_f_X12_ends_351 N (RS.setI p55.2 92 (p55.2.a 26 ((p55.1 : Int32).toNatClampNeg))))) kvs6_none) (kvs6_st rfl (krs6_f_X12_ends_351 N (RS.setI p55.2 92 (p55.2.a 23 ((x1 : Int32).toNatClampNeg)))))))))) (kvs6_ite (kvs6_bind (krs6_st rfl (krs6_f_X12_take N σ)) (fun p60 => (kvs6_bind (krs6_st rfl (krs6_f_X12_caseOf N p60.2 x2 p60.1)) (fun p62 => (kvs6_bind (krs6_st rfl (krs6_f_X12_record N p62.2 3 x1 0 0)) (fun p64 => (kvs6_ite (kvs6_some rfl) kvs6_none))))))) (kvs6_ite (kvs6_ite (kvs6_ite (kvs6_some rfl) kvs6_none) kvs6_none) (kvs6_ite (kvs6_bindv (kvs6_st rfl (krs6_f_X12_others N σ x1 x2)) (fun p71 => (kvs6_some rfl))) (kvs6_ite (kvs6_bindv (kvs6_st rfl (krs6_f_X12_others N σ x1 x2)) (fun p74 => (kvs6_some rfl))) (kvs6_ite (kvs6_bindv (kvs6_st rfl (krs6_f_X12_others N σ x1 x2)) (fun p77 => (kvs6_some rfl))) (kvs6_ite (kvs6_bindv (kvs6_st rfl (krs6_f_X12_others N σ x1 x2)) (fun p80 => (kvs6_some rfl))) (kvs6_ite (kvs6_bindv (kvs6_st rfl (krs6_f_X12_others N σ x1 x2)) (fun p83 => (kvs6_some rfl))) (kvs6_ite (kvs6_bindv (kvs6_st rfl (krs6_f_X12_leave N (RS.setI (RS.setI (RS.setI σ 110 1) 111 x2) 112 (σ.a 23 ((x1 : Int32).toNatClampNeg))))) (fun p86 => (kvs6_some rfl))) (kvs6_bindv (kvs6_st rfl (krs6_f_X12_others N σ x1 x2)) (fun p88 => (kvs6_some rfl))))))))))))))))))))))) kvs6_none)
theorem krs6_f_X12_act_229 (N : Nat) (σ : RS) (x2 : Int32) (x3 : Int32) (x4 : Int32) : KVs6 σ (f_X12_act_229 N σ x2 x3 x4) := by
  unfold f_X12_act_229
  exact (kvs6_bind (krs6_st rfl (krs6_f_X12_compute N σ x2 x4 x3)) (fun p35 => (kvs6_bindv (kvs6_st rfl (krs6_f_X12_put N p35.2 p35.1)) (fun p37 => (kvs6_some rfl)))))
theorem krs6_f_X12_act_212 (N : Nat) (σ : RS) (x2 : Int32) (x3 : Int32) (x4 : Int32) : KVs6 σ (f_X12_act_212 N σ x2 x3 x4) := by
  unfold f_X12_act_212
  exact (kvs6_ite (kvs6_bindv (kvs6_st rfl (krs6_f_X12_raise N σ 2 0)) (fun p39 => (kvs6_bindv (kvs6_st rfl (krs6_f_X12_leave N p39)) (fun p41 => (kvs6_some rfl))))) (kvs6_st rfl (krs6_f_X12_act_229 N σ x2 x3 x4)))
theorem krs6_f_X12_act_290 (N : Nat) (σ : RS) : KVs6 σ (f_X12_act_290 N σ) := by
  unfold f_X12_act_290
  exact (kvs6_some rfl)
theorem krs6_f_X12_act_282 (N : Nat) (σ : RS) (x2 : Int32) : KVs6 σ (f_X12_act_282 N σ x2) := by
  unfold f_X12_act_282
  exact (kvs6_some rfl)
theorem krs6_f_X12_act_322 (N : Nat) (σ : RS) : KVs6 σ (f_X12_act_322 N σ) := by
  unfold f_X12_act_322
  exact (kvs6_some rfl)
theorem krs6_f_X12_act_344 (N : Nat) (σ : RS) : KVs6 σ (f_X12_act_344 N σ) := by
  unfold f_X12_act_344
  exact (kvs6_some rfl)
theorem krs6_f_X12_act (N : Nat) (σ : RS) (x1 : Int32) : KVs6 σ (f_X12_act N σ x1) := by
  unfold f_X12_act
  exact (kvs6_ite (kvs6_ite (kvs6_bindv (kvs6_st rfl (krs6_f_X12_step N σ)) (fun p3 => (kvs6_some rfl))) (kvs6_ite (kvs6_bindv (kvs6_st rfl (krs6_f_X12_put N σ (σ.a 22 ((x1 : Int32).toNatClampNeg)))) (fun p6 => (kvs6_some rfl))) (kvs6_ite (kvs6_ite (kvs6_bindv (kvs6_st rfl (krs6_f_X12_put N σ (σ.a 84 (((σ.a 22 ((x1 : Int32).toNatClampNeg)) : Int32).toNatClampNeg)))) (fun p10 => (kvs6_some rfl))) kvs6_none) (kvs6_ite (kvs6_ite (kvs6_ite (kvs6_bindv (kvs6_st rfl (krs6_f_X12_put N σ (σ.a 87 (((σ.a 84 (((σ.a 22 ((x1 : Int32).toNatClampNeg)) : Int32).toNatClampNeg)) : Int32).toNatClampNeg)))) (fun p15 => (kvs6_some rfl))) kvs6_none) kvs6_none) (kvs6_ite (kvs6_bind (krs6_st rfl (krs6_f_X12_take N σ)) (fun p18 => (kvs6_ite (kvs6_some rfl) kvs6_none))) (kvs6_ite (kvs6_ite (kvs6_some rfl) kvs6_none) (kvs6_ite (kvs6_bind (krs6_st rfl (krs6_f_X12_take N σ)) (fun p24 => (kvs6_bindv (kvs6_st rfl (krs6_f_X12_put N p24.2 (-p24.1))) (fun p26 => (kvs6_some rfl))))) (kvs6_ite (kvs6_bind (krs6_st rfl (krs6_f_X12_take N σ)) (fun p29 => (kvs6_bind (krs6_st rfl (krs6_f_X12_take N p29.2)) (fun p31 => (kvs6_ite (kvs6_st rfl (krs6_f_X12_act_212 N p31.2 (σ.a 22 ((x1 : Int32).toNatClampNeg)) p29.1 p31.1)) (kvs6_ite (kvs6_st rfl (krs6_f_X12_act_212 N p31.2 (σ.a 22 ((x1 : Int32).toNatClampNeg)) p29.1 p31.1)) (kvs6_st rfl (krs6_f_X12_act_229 N p31.2 (σ.a 22 ((x1 : Int32).toNatClampNeg)) p29.1 p31.1)))))))) (kvs6_ite (kvs6_bind (krs6_st rfl (krs6_f_X12_take N σ)) (fun p45 => (kvs6_bind (krs6_st rfl (krs6_f_X12_take N p45.2)) (fun p47 => (kvs6_ite (kvs6_st rfl (krs6_f_X12_act_212 N p47.2 (σ.a 22 ((x1 : Int32).toNatClampNeg)) p45.1 p47.1)) (kvs6_ite (kvs6_st rfl (krs6_f_X12_act_212 N p47.2 (σ.a 22 ((x1 : Int32).toNatClampNeg)) p45.1 p47.1)) (kvs6_st rfl (krs6_f_X12_act_229 N p47.2 (σ.a 22 ((x1 : Int32).toNatClampNeg)) p45.1 p47.1)))))))) (kvs6_ite (kvs6_bind (krs6_st rfl (krs6_f_X12_take N σ)) (fun p52 => (kvs6_bindv (kvs6_st rfl (krs6_f_X12_put N p52.2 (1 - p52.1))) (fun p54 => (kvs6_some rfl))))) (kvs6_ite (kvs6_ite (kvs6_ite (kvs6_st rfl (krs6_f_X12_act_290 N σ)) (kvs6_st rfl (krs6_f_X12_act_282 N σ (σ.a 22 ((x1 : Int32).toNatClampNeg))))) kvs6_none) (kvs6_ite (kvs6_ite (kvs6_ite (kvs6_st rfl (krs6_f_X12_act_282 N σ (σ.a 22 ((x1 : Int32).toNatClampNeg)))) (kvs6_st rfl (krs6_f_X12_act_290 N σ))) kvs6_none) (kvs6_ite (kvs6_bind (krs6_st rfl (krs6_f_X12_take N σ)) (fun p67 => (kvs6_ite (kvs6_st rfl (krs6_f_X12_act_322 N (RS.setI p67.2 92 (σ.a 22 ((x1 : Int32).toNatClampNeg))))) (kvs6_st rfl (krs6_f_X12_act_322 N (RS.setI p67.2 92 (p67.2.i 92))))))) (kvs6_ite (kvs6_bind (krs6_st rfl (krs6_f_X12_take N σ)) (fun p71 => (kvs6_ite (kvs6_st rfl (krs6_f_X12_act_344 N (RS.setI p71.2 92 (p71.2.i 92)))) (kvs6_st rfl (krs6_f_X12_act_344 N (RS.setI p71.2 92 (σ.a 22 ((x1 : Int32).toNatClampNeg)))))))) (kvs6_ite (kvs6_some rfl) (kvs6_ite (kvs6_bind (krs6_st rfl (krs6_f_X12_take N σ)) (fun p76 => (kvs6_bindv (kvs6_st rfl (krs6_f_X12_row N p76.2 0 p76.1)) (fun p78 => (kvs6_some rfl))))) (kvs6_bindv (kvs6_st rfl (krs6_f_X12_ends N σ x1 (σ.a 22 ((x1 : Int32).toNatClampNeg)))) (fun p80 => (kvs6_some rfl))))))))))))))))))) kvs6_none)
theorem krs6_f_X12_run_163 (N : Nat) (σ : RS) : KRs6 σ (f_X12_run_163 N σ) := by
  unfold f_X12_run_163
  exact (krs6_ite (krs6_some rfl) (krs6_ite (krs6_some rfl) (krs6_ite (krs6_some rfl) (krs6_some rfl))))
theorem krs6_b_X12_run_122 (N : Nat) (K : RS → Option (Int32 × RS)) (hK : ∀ (σ : RS), KRs6 σ (K σ)) (σ : RS) : KRs6 σ (b_X12_run_122 N K σ) := by
  unfold b_X12_run_122
  exact (krs6_ite (krs6_st rfl (krs6_f_X12_run_163 N σ)) (krs6_ite (krs6_st rfl (krs6_f_X12_run_163 N σ)) (krs6_bindv (kvs6_st rfl (krs6_f_X12_act N (RS.setI σ 92 ((σ.i 92) + 1)) (σ.i 92))) (fun p9 => (krs6_st rfl (hK p9))))))
theorem krs6_f_X12_run_122 (N : Nat) : ∀ (n : Nat) (σ : RS), KRs6 σ (f_X12_run_122 N n σ )
  | 0, _ => krs6_none
  | n+1, σ => krs6_b_X12_run_122 N (f_X12_run_122 N n) (fun σ => krs6_f_X12_run_122 N n σ) σ
theorem krs6_b_X12_ran_168 (N : Nat) (K : RS → Int32 → Int32 → Option (Int32 × RS)) (hK : ∀ (σ : RS) (y0 : Int32) (y1 : Int32), KRs6 σ (K σ y0 y1)) (σ : RS) (x3 : Int32) (x4 : Int32) : KRs6 σ (b_X12_ran_168 N K σ x3 x4) := by
  unfold b_X12_ran_168
  exact (krs6_ite (krs6_some rfl) (krs6_ite (krs6_st rfl (hK σ (x3 + (σ.a 91 ((x4 : Int32).toNatClampNeg))) (x4 + 1))) krs6_none))
theorem krs6_f_X12_ran_168 (N : Nat) : ∀ (n : Nat) (σ : RS) (y0 : Int32) (y1 : Int32), KRs6 σ (f_X12_ran_168 N n σ y0 y1)
  | 0, _, _, _ => krs6_none
  | n+1, σ, y0, y1 => krs6_b_X12_ran_168 N (f_X12_ran_168 N n) (fun σ y0 y1 => krs6_f_X12_ran_168 N n σ y0 y1) σ y0 y1
theorem krs6_f_X12_ran_41 (N : Nat) (σ : RS) (x1 : Int32) (x2 : Int32) : KRs6 σ (f_X12_ran_41 N σ x1 x2) := by
  unfold f_X12_ran_41
  exact (krs6_ite (krs6_some rfl) (krs6_ite (krs6_some rfl) (krs6_ite (krs6_ite (krs6_some rfl) (krs6_some rfl)) (krs6_ite (krs6_ite (krs6_some rfl) (krs6_ite (krs6_some rfl) krs6_none)) (krs6_ite (krs6_ite (krs6_some rfl) (krs6_ite (krs6_some rfl) krs6_none)) (krs6_ite (krs6_ite (krs6_some rfl) (krs6_ite (krs6_some rfl) krs6_none)) (krs6_st rfl (krs6_f_X12_ran_168 N N σ 0 0))))))))
theorem krs6_f_X12_ran (N : Nat) (σ : RS) (x1 : Int32) : KRs6 σ (f_X12_ran N σ x1) := by
  unfold f_X12_ran
  exact (krs6_bind (krs6_st rfl (krs6_f_X12_in N (RS.setI σ 0 0) x1 0 6)) (fun p1 => (krs6_ite (krs6_some rfl) (krs6_ite (krs6_some rfl) (krs6_ite (krs6_st rfl (krs6_f_X12_ran_41 N p1.2 x1 1)) (krs6_st rfl (krs6_f_X12_ran_41 N p1.2 x1 0)))))))
theorem krs6_f_X12_trace_35 (N : Nat) (σ : RS) : KRs6 σ (f_X12_trace_35 N σ) := by
  unfold f_X12_trace_35
  exact (krs6_some rfl)
theorem krs6_f_X12_trace (N : Nat) (σ : RS) (x1 : Int32) (x2 : Int32) : KRs6 σ (f_X12_trace N σ x1 x2) := by
  unfold f_X12_trace
  exact (krs6_ite (krs6_st rfl (krs6_f_X12_trace_35 N (RS.setI σ 0 0))) (krs6_bind (krs6_st rfl (krs6_f_X12_in N (RS.setI σ 0 0) x1 0 ((σ.i 81) - 1))) (fun p2 => (krs6_ite (krs6_st rfl (krs6_f_X12_trace_35 N p2.2)) (krs6_bind (krs6_st rfl (krs6_f_X12_in N p2.2 x2 0 1)) (fun p5 => (krs6_ite (krs6_st rfl (krs6_f_X12_trace_35 N p5.2)) (krs6_ite (krs6_ite (krs6_some rfl) krs6_none) (krs6_ite (krs6_some rfl) krs6_none)))))))))
theorem krs6_f_X12_suppressed_48 (N : Nat) (σ : RS) : KRs6 σ (f_X12_suppressed_48 N σ) := by
  unfold f_X12_suppressed_48
  exact (krs6_some rfl)
theorem krs6_f_X12_suppressed (N : Nat) (σ : RS) (x1 : Int32) (x2 : Int32) : KRs6 σ (f_X12_suppressed N σ x1 x2) := by
  unfold f_X12_suppressed
  exact (krs6_ite (krs6_st rfl (krs6_f_X12_suppressed_48 N (RS.setI σ 0 0))) (krs6_ite (krs6_ite (krs6_bind (krs6_st rfl (krs6_f_X12_in N (RS.setI σ 0 0) x1 0 ((σ.a 88 (((σ.i 114) : Int32).toNatClampNeg)) - 1))) (fun p4 => (krs6_ite (krs6_st rfl (krs6_f_X12_suppressed_48 N p4.2)) (krs6_bind (krs6_st rfl (krs6_f_X12_in N p4.2 x2 0 1)) (fun p7 => (krs6_ite (krs6_st rfl (krs6_f_X12_suppressed_48 N p7.2)) (krs6_ite (krs6_ite (krs6_some rfl) krs6_none) (krs6_ite (krs6_some rfl) krs6_none)))))))) krs6_none) (krs6_st rfl (krs6_f_X12_suppressed_48 N (RS.setI σ 0 0)))))
theorem krs6_f_X12_rounds_13 (N : Nat) (σ : RS) : KRs6 σ (f_X12_rounds_13 N σ) := by
  unfold f_X12_rounds_13
  exact (krs6_some rfl)
theorem krs6_f_X12_rounds (N : Nat) (σ : RS) (x1 : Int32) (x2 : Int32) : KRs6 σ (f_X12_rounds N σ x1 x2) := by
  unfold f_X12_rounds
  exact (krs6_ite (krs6_st rfl (krs6_f_X12_rounds_13 N (RS.setI σ 0 0))) (krs6_ite (krs6_ite (krs6_some rfl) (krs6_ite krs6_none (krs6_ite (krs6_some rfl) (krs6_some rfl)))) (krs6_st rfl (krs6_f_X12_rounds_13 N (RS.setI σ 0 0)))))
abbrev RNT : Type := Int32 × Int32 × Int32 × Int32 × Int32 × Int32 × (Nat → Int32) × (Nat → Int32) × (Nat → Int32) × (Nat → Int32) × (Nat → Int32) × (Nat → Int32) × (Nat → Int32) × (Nat → Int32)
def pRn (s : RS) : RNT := (s.i 79, s.i 80, s.i 81, s.i 113, s.i 114, s.i 115, s.a 82, s.a 83, s.a 86, s.a 87, s.a 88, s.a 89, s.a 90, s.a 91)
def KSn6 (s r : RS) : Prop := pRn r = pRn s
theorem KSn6.tr {s r u : RS} (h : KSn6 s r) (g : KSn6 r u) : KSn6 s u := Eq.trans g h
def KRn6 {α : Type} (s : RS) (t : Option (α × RS)) : Prop := ∀ R, t = some R → KSn6 s R.2
def KVn6 (s : RS) (t : Option RS) : Prop := ∀ R, t = some R → KSn6 s R
theorem krn6_some {α : Type} {s : RS} {r : α × RS} (h : KSn6 s r.2) : KRn6 s (some r) := fun R q => by
  cases q
  exact h
theorem kvn6_some {s r : RS} (h : KSn6 s r) : KVn6 s (some r) := fun R q => by
  cases q
  exact h
theorem krn6_none {α : Type} {s : RS} : KRn6 s (none : Option (α × RS)) := fun R q => by cases q
theorem kvn6_none {s : RS} : KVn6 s (none : Option RS) := fun R q => by cases q
theorem krn6_ite {α : Type} {s : RS} {c : Prop} [Decidable c] {x y : Option (α × RS)} (hx : KRn6 s x) (hy : KRn6 s y) : KRn6 s (if c then x else y) := by
  by_cases h : c
  · rw [if_pos h]; exact hx
  · rw [if_neg h]; exact hy
theorem kvn6_ite {s : RS} {c : Prop} [Decidable c] {x y : Option RS} (hx : KVn6 s x) (hy : KVn6 s y) : KVn6 s (if c then x else y) := by
  by_cases h : c
  · rw [if_pos h]; exact hx
  · rw [if_neg h]; exact hy
theorem krn6_st {α : Type} {s r : RS} {t : Option (α × RS)} (h : KSn6 s r) (g : KRn6 r t) : KRn6 s t := fun R q => h.tr (g R q)
theorem kvn6_st {s r : RS} {t : Option RS} (h : KSn6 s r) (g : KVn6 r t) : KVn6 s t := fun R q => h.tr (g R q)
theorem krn6_bind {α β : Type} {s : RS} {x : Option (α × RS)} {k : α × RS → Option (β × RS)} (hx : KRn6 s x) (hk : ∀ p : α × RS, KRn6 p.2 (k p)) : KRn6 s (x.bind k) := by
  intro R h
  obtain ⟨p, h1, h2⟩ := hf_bind h
  exact (hx p h1).tr (hk p R h2)
theorem krn6_bindv {β : Type} {s : RS} {x : Option RS} {k : RS → Option (β × RS)} (hx : KVn6 s x) (hk : ∀ p : RS, KRn6 p (k p)) : KRn6 s (x.bind k) := by
  intro R h
  obtain ⟨p, h1, h2⟩ := hf_bind h
  exact (hx p h1).tr (hk p R h2)
theorem kvn6_bind {α : Type} {s : RS} {x : Option (α × RS)} {k : α × RS → Option RS} (hx : KRn6 s x) (hk : ∀ p : α × RS, KVn6 p.2 (k p)) : KVn6 s (x.bind k) := by
  intro R h
  obtain ⟨p, h1, h2⟩ := hf_bind h
  exact (hx p h1).tr (hk p R h2)
theorem kvn6_bindv {s : RS} {x : Option RS} {k : RS → Option RS} (hx : KVn6 s x) (hk : ∀ p : RS, KVn6 p (k p)) : KVn6 s (x.bind k) := by
  intro R h
  obtain ⟨p, h1, h2⟩ := hf_bind h
  exact (hx p h1).tr (hk p R h2)
theorem krn6_f_X12_in_14 (N : Nat) (σ : RS) : KRn6 σ (f_X12_in_14 N σ) := by
  unfold f_X12_in_14
  exact (krn6_some rfl)
theorem krn6_f_X12_in (N : Nat) (σ : RS) (x0 : Int32) (x1 : Int32) (x2 : Int32) : KRn6 σ (f_X12_in N σ x0 x1 x2) := by
  unfold f_X12_in
  exact (krn6_ite (krn6_st rfl (krn6_f_X12_in_14 N σ)) (krn6_ite (krn6_st rfl (krn6_f_X12_in_14 N σ)) (krn6_some rfl)))
theorem krn6_f_X12_isUnder_21 (N : Nat) (σ : RS) (x2 : Int32) (x3 : Int32) : KRn6 σ (f_X12_isUnder_21 N σ x2 x3) := by
  unfold f_X12_isUnder_21
  exact (krn6_ite (krn6_some rfl) (krn6_some rfl))
theorem krn6_b_X12_isUnder_2 (N : Nat) (K : RS → Int32 → Int32 → Option (Int32 × RS)) (hK : ∀ (σ : RS) (y0 : Int32) (y1 : Int32), KRn6 σ (K σ y0 y1)) (σ : RS) (x2 : Int32) (x3 : Int32) : KRn6 σ (b_X12_isUnder_2 N K σ x2 x3) := by
  unfold b_X12_isUnder_2
  exact (krn6_ite (krn6_st rfl (krn6_f_X12_isUnder_21 N σ x2 x3)) (krn6_ite (krn6_st rfl (krn6_f_X12_isUnder_21 N σ x2 x3)) (krn6_ite (krn6_st rfl (hK σ x2 (σ.a 4 ((x3 : Int32).toNatClampNeg)))) krn6_none)))
theorem krn6_f_X12_isUnder_2 (N : Nat) : ∀ (n : Nat) (σ : RS) (y0 : Int32) (y1 : Int32), KRn6 σ (f_X12_isUnder_2 N n σ y0 y1)
  | 0, _, _, _ => krn6_none
  | n+1, σ, y0, y1 => krn6_b_X12_isUnder_2 N (f_X12_isUnder_2 N n) (fun σ y0 y1 => krn6_f_X12_isUnder_2 N n σ y0 y1) σ y0 y1
theorem krn6_f_X12_isUnder (N : Nat) (σ : RS) (x1 : Int32) (x2 : Int32) : KRn6 σ (f_X12_isUnder N σ x1 x2) := by
  unfold f_X12_isUnder
  exact (krn6_st rfl (krn6_f_X12_isUnder_2 N N σ x2 x1))
theorem krn6_f_X12_under_33 (N : Nat) (σ : RS) : KRn6 σ (f_X12_under_33 N σ) := by
  unfold f_X12_under_33
  exact (krn6_some rfl)
theorem krn6_f_X12_under (N : Nat) (σ : RS) (x1 : Int32) (x2 : Int32) : KRn6 σ (f_X12_under N σ x1 x2) := by
  unfold f_X12_under
  exact (krn6_bind (krn6_st rfl (krn6_f_X12_in N (RS.setI σ 0 0) x1 0 ((σ.i 3) - 1))) (fun p1 => (krn6_ite (krn6_st rfl (krn6_f_X12_under_33 N p1.2)) (krn6_bind (krn6_st rfl (krn6_f_X12_in N p1.2 x2 0 ((p1.2.i 3) - 1))) (fun p4 => (krn6_ite (krn6_st rfl (krn6_f_X12_under_33 N p4.2)) (krn6_bind (krn6_st rfl (krn6_f_X12_isUnder N p4.2 x1 x2)) (fun p7 => (krn6_ite (krn6_some rfl) (krn6_some rfl))))))))))
theorem krn6_f_X12_resource_53 (N : Nat) (σ : RS) : KRn6 σ (f_X12_resource_53 N σ) := by
  unfold f_X12_resource_53
  exact (krn6_some rfl)
theorem krn6_f_X12_resource_71 (N : Nat) (σ : RS) (x1 : Int32) (x3 : Int32) (x4 : Int32) : KRn6 σ (f_X12_resource_71 N σ x1 x3 x4) := by
  unfold f_X12_resource_71
  exact (krn6_ite (krn6_some rfl) krn6_none)
theorem krn6_f_X12_resource (N : Nat) (σ : RS) (x1 : Int32) (x2 : Int32) (x3 : Int32) (x4 : Int32) : KRn6 σ (f_X12_resource N σ x1 x2 x3 x4) := by
  unfold f_X12_resource
  exact (krn6_bind (krn6_st rfl (krn6_f_X12_in N (RS.setI σ 0 0) x1 0 7)) (fun p1 => (krn6_ite (krn6_st rfl (krn6_f_X12_resource_53 N p1.2)) (krn6_bind (krn6_st rfl (krn6_f_X12_in N p1.2 x2 0 1)) (fun p4 => (krn6_ite (krn6_st rfl (krn6_f_X12_resource_53 N p4.2)) (krn6_bind (krn6_st rfl (krn6_f_X12_in N p4.2 x3 (-1) ((p4.2.i 3) - 1))) (fun p7 => (krn6_ite (krn6_st rfl (krn6_f_X12_resource_53 N p7.2)) (krn6_bind (krn6_st rfl (krn6_f_X12_in N p7.2 x4 (-1) ((p7.2.i 3) - 1))) (fun p10 => (krn6_ite (krn6_st rfl (krn6_f_X12_resource_53 N p10.2)) (krn6_ite (krn6_ite (krn6_st rfl (krn6_f_X12_resource_71 N (RS.setA p10.2 5 ((x1 : Int32).toNatClampNeg) 1) x1 x3 x4)) krn6_none) (krn6_ite (krn6_st rfl (krn6_f_X12_resource_71 N (RS.setA p10.2 5 ((x1 : Int32).toNatClampNeg) 0) x1 x3 x4)) krn6_none))))))))))))))
theorem krn6_f_X12_fault (N : Nat) (σ : RS) : KRn6 σ (f_X12_fault N σ) := by
  unfold f_X12_fault
  exact (krn6_some rfl)
theorem krn6_f_X12_program (N : Nat) (σ : RS) (x1 : Int32) : KRn6 σ (f_X12_program N σ x1) := by
  unfold f_X12_program
  exact (krn6_bind (krn6_st rfl (krn6_f_X12_in N (RS.setI σ 0 0) x1 0 3)) (fun p1 => (krn6_ite (krn6_some rfl) (krn6_ite (krn6_some rfl) (krn6_ite (krn6_some rfl) (krn6_ite (krn6_ite (krn6_some rfl) (krn6_some rfl)) (krn6_ite (krn6_some rfl) (krn6_some rfl))))))))
theorem krn6_b_X12_ran_168 (N : Nat) (K : RS → Int32 → Int32 → Option (Int32 × RS)) (hK : ∀ (σ : RS) (y0 : Int32) (y1 : Int32), KRn6 σ (K σ y0 y1)) (σ : RS) (x3 : Int32) (x4 : Int32) : KRn6 σ (b_X12_ran_168 N K σ x3 x4) := by
  unfold b_X12_ran_168
  exact (krn6_ite (krn6_some rfl) (krn6_ite (krn6_st rfl (hK σ (x3 + (σ.a 91 ((x4 : Int32).toNatClampNeg))) (x4 + 1))) krn6_none))
theorem krn6_f_X12_ran_168 (N : Nat) : ∀ (n : Nat) (σ : RS) (y0 : Int32) (y1 : Int32), KRn6 σ (f_X12_ran_168 N n σ y0 y1)
  | 0, _, _, _ => krn6_none
  | n+1, σ, y0, y1 => krn6_b_X12_ran_168 N (f_X12_ran_168 N n) (fun σ y0 y1 => krn6_f_X12_ran_168 N n σ y0 y1) σ y0 y1
theorem krn6_f_X12_ran_41 (N : Nat) (σ : RS) (x1 : Int32) (x2 : Int32) : KRn6 σ (f_X12_ran_41 N σ x1 x2) := by
  unfold f_X12_ran_41
  exact (krn6_ite (krn6_some rfl) (krn6_ite (krn6_some rfl) (krn6_ite (krn6_ite (krn6_some rfl) (krn6_some rfl)) (krn6_ite (krn6_ite (krn6_some rfl) (krn6_ite (krn6_some rfl) krn6_none)) (krn6_ite (krn6_ite (krn6_some rfl) (krn6_ite (krn6_some rfl) krn6_none)) (krn6_ite (krn6_ite (krn6_some rfl) (krn6_ite (krn6_some rfl) krn6_none)) (krn6_st rfl (krn6_f_X12_ran_168 N N σ 0 0))))))))
theorem krn6_f_X12_ran (N : Nat) (σ : RS) (x1 : Int32) : KRn6 σ (f_X12_ran N σ x1) := by
  unfold f_X12_ran
  exact (krn6_bind (krn6_st rfl (krn6_f_X12_in N (RS.setI σ 0 0) x1 0 6)) (fun p1 => (krn6_ite (krn6_some rfl) (krn6_ite (krn6_some rfl) (krn6_ite (krn6_st rfl (krn6_f_X12_ran_41 N p1.2 x1 1)) (krn6_st rfl (krn6_f_X12_ran_41 N p1.2 x1 0)))))))
theorem krn6_f_X12_trace_35 (N : Nat) (σ : RS) : KRn6 σ (f_X12_trace_35 N σ) := by
  unfold f_X12_trace_35
  exact (krn6_some rfl)
theorem krn6_f_X12_trace (N : Nat) (σ : RS) (x1 : Int32) (x2 : Int32) : KRn6 σ (f_X12_trace N σ x1 x2) := by
  unfold f_X12_trace
  exact (krn6_ite (krn6_st rfl (krn6_f_X12_trace_35 N (RS.setI σ 0 0))) (krn6_bind (krn6_st rfl (krn6_f_X12_in N (RS.setI σ 0 0) x1 0 ((σ.i 81) - 1))) (fun p2 => (krn6_ite (krn6_st rfl (krn6_f_X12_trace_35 N p2.2)) (krn6_bind (krn6_st rfl (krn6_f_X12_in N p2.2 x2 0 1)) (fun p5 => (krn6_ite (krn6_st rfl (krn6_f_X12_trace_35 N p5.2)) (krn6_ite (krn6_ite (krn6_some rfl) krn6_none) (krn6_ite (krn6_some rfl) krn6_none)))))))))
theorem krn6_f_X12_suppressed_48 (N : Nat) (σ : RS) : KRn6 σ (f_X12_suppressed_48 N σ) := by
  unfold f_X12_suppressed_48
  exact (krn6_some rfl)
theorem krn6_f_X12_suppressed (N : Nat) (σ : RS) (x1 : Int32) (x2 : Int32) : KRn6 σ (f_X12_suppressed N σ x1 x2) := by
  unfold f_X12_suppressed
  exact (krn6_ite (krn6_st rfl (krn6_f_X12_suppressed_48 N (RS.setI σ 0 0))) (krn6_ite (krn6_ite (krn6_bind (krn6_st rfl (krn6_f_X12_in N (RS.setI σ 0 0) x1 0 ((σ.a 88 (((σ.i 114) : Int32).toNatClampNeg)) - 1))) (fun p4 => (krn6_ite (krn6_st rfl (krn6_f_X12_suppressed_48 N p4.2)) (krn6_bind (krn6_st rfl (krn6_f_X12_in N p4.2 x2 0 1)) (fun p7 => (krn6_ite (krn6_st rfl (krn6_f_X12_suppressed_48 N p7.2)) (krn6_ite (krn6_ite (krn6_some rfl) krn6_none) (krn6_ite (krn6_some rfl) krn6_none)))))))) krn6_none) (krn6_st rfl (krn6_f_X12_suppressed_48 N (RS.setI σ 0 0)))))
theorem krn6_f_X12_rounds_13 (N : Nat) (σ : RS) : KRn6 σ (f_X12_rounds_13 N σ) := by
  unfold f_X12_rounds_13
  exact (krn6_some rfl)
theorem krn6_f_X12_rounds (N : Nat) (σ : RS) (x1 : Int32) (x2 : Int32) : KRn6 σ (f_X12_rounds N σ x1 x2) := by
  unfold f_X12_rounds
  exact (krn6_ite (krn6_st rfl (krn6_f_X12_rounds_13 N (RS.setI σ 0 0))) (krn6_ite (krn6_ite (krn6_some rfl) (krn6_ite krn6_none (krn6_ite (krn6_some rfl) (krn6_some rfl)))) (krn6_st rfl (krn6_f_X12_rounds_13 N (RS.setI σ 0 0)))))
end
section
/-! both: what was told, what was read, its code, and what a run left stand side by side -/
def TLP (s : CS) (r : RS) : Prop := TXB s r ∧ PRG s r ∧ (¬ r.i 77 = 0 → CDX s r) ∧ RSC s r ∧ RNA s r
theorem CDX.cg {s S : CS} {r R : RS} (c : CDX s r) (h : CGE s S r R) (e : S.i 23 = s.i 23) : CDX S R := by
  obtain ⟨nm, AL, c1, c2, c3, c4⟩ := c
  refine ⟨nm, AL, CODW.cg h c1, c2, c3, ?_⟩
  rw [e]
  exact c4
theorem hS_eq {r R : RS} (h : R.a 91 = r.a 91) : ∀ n : Nat, hS R n = hS r n
  | 0 => rfl
  | n + 1 => by
    show hS R n + R.a 91 n = hS r n + r.a 91 n
    rw [h, hS_eq h n]
theorem RSC.of {s S : CS} {r R : RS} (h : RSC s r) (hs : pSc S = pSc s) (rs : pRs R = pRs r) : RSC S R := by
  have a1 : S.a 10 = s.a 10 := congrArg (fun z => z.1) hs
  have a2 : S.a 11 = s.a 11 := congrArg (fun z => z.2.1) hs
  have a3 : S.a 12 = s.a 12 := congrArg (fun z => z.2.2.1) hs
  have b1 : R.a 5 = r.a 5 := congrArg (fun z => z.1) rs
  have b2 : R.a 6 = r.a 6 := congrArg (fun z => z.2.1) rs
  have b3 : R.a 7 = r.a 7 := congrArg (fun z => z.2.2.1) rs
  intro k hk
  rw [a1, a2, a3, b1, b2, b3]
  exact h k hk
theorem RNA.of {s S : CS} {r R : RS} (h : RNA s r) (hn : pNl S = pNl s) (rn : pRn R = pRn r) : RNA S R := by
  have c8 : S.i 8 = s.i 8 := congrArg (fun z => z.2.2.2.2.1) hn
  have c69 : S.i 69 = s.i 69 := congrArg (fun z => z.2.2.2.2.2.1) hn
  have c70 : S.i 70 = s.i 70 := congrArg (fun z => z.2.2.2.2.2.2.1) hn
  have c71 : S.i 71 = s.i 71 := congrArg (fun z => z.2.2.2.2.2.2.2.1) hn
  have c72 : S.i 72 = s.i 72 := congrArg (fun z => z.2.2.2.2.2.2.2.2.1) hn
  have c74 : S.i 74 = s.i 74 := congrArg (fun z => z.2.2.2.2.2.2.2.2.2.1) hn
  have c64 : S.a 64 = s.a 64 := congrArg (fun z => z.2.2.2.2.2.2.2.2.2.2.1) hn
  have cw : S.w = s.w := congrArg (fun z => z.2.2.2.2.2.2.2.2.2.2.2.1) hn
  have co : S.o = s.o := congrArg (fun z => z.2.2.2.2.2.2.2.2.2.2.2.2.1) hn
  have ca : S.oa = s.oa := congrArg (fun z => z.2.2.2.2.2.2.2.2.2.2.2.2.2) hn
  have d79 : R.i 79 = r.i 79 := congrArg (fun z => z.1) rn
  have d80 : R.i 80 = r.i 80 := congrArg (fun z => z.2.1) rn
  have d81 : R.i 81 = r.i 81 := congrArg (fun z => z.2.2.1) rn
  have d113 : R.i 113 = r.i 113 := congrArg (fun z => z.2.2.2.1) rn
  have d114 : R.i 114 = r.i 114 := congrArg (fun z => z.2.2.2.2.1) rn
  have d115 : R.i 115 = r.i 115 := congrArg (fun z => z.2.2.2.2.2.1) rn
  have d82 : R.a 82 = r.a 82 := congrArg (fun z => z.2.2.2.2.2.2.1) rn
  have d83 : R.a 83 = r.a 83 := congrArg (fun z => z.2.2.2.2.2.2.2.1) rn
  have d86 : R.a 86 = r.a 86 := congrArg (fun z => z.2.2.2.2.2.2.2.2.1) rn
  have d87 : R.a 87 = r.a 87 := congrArg (fun z => z.2.2.2.2.2.2.2.2.2.1) rn
  have d88 : R.a 88 = r.a 88 := congrArg (fun z => z.2.2.2.2.2.2.2.2.2.2.1) rn
  have d89 : R.a 89 = r.a 89 := congrArg (fun z => z.2.2.2.2.2.2.2.2.2.2.2.1) rn
  have d90 : R.a 90 = r.a 90 := congrArg (fun z => z.2.2.2.2.2.2.2.2.2.2.2.2.1) rn
  have d91 : R.a 91 = r.a 91 := congrArg (fun z => z.2.2.2.2.2.2.2.2.2.2.2.2.2) rn
  unfold RNA RNZ THG at *
  simp only [c8, c69, c70, c71, c72, c74, c64, cw, co, ca, d79, d80, d81, d113, d114, d115, d82, d83, d86, d87, d88, d89, d90, hS_eq d91 8]
  exact h
theorem rq_a {r R : RS} (h : pRq R = pRq r) : ∀ k : Nat, 21 ≤ k → k ≤ 37 → R.a k = r.a k := by
  have e21 : R.a 21 = r.a 21 := congrArg (fun z => z.2.2.1) h
  have e22 : R.a 22 = r.a 22 := congrArg (fun z => z.2.2.2.1) h
  have e23 : R.a 23 = r.a 23 := congrArg (fun z => z.2.2.2.2.1) h
  have e24 : R.a 24 = r.a 24 := congrArg (fun z => z.2.2.2.2.2.1) h
  have e25 : R.a 25 = r.a 25 := congrArg (fun z => z.2.2.2.2.2.2.1) h
  have e26 : R.a 26 = r.a 26 := congrArg (fun z => z.2.2.2.2.2.2.2.1) h
  have e27 : R.a 27 = r.a 27 := congrArg (fun z => z.2.2.2.2.2.2.2.2.1) h
  have e28 : R.a 28 = r.a 28 := congrArg (fun z => z.2.2.2.2.2.2.2.2.2.1) h
  have e29 : R.a 29 = r.a 29 := congrArg (fun z => z.2.2.2.2.2.2.2.2.2.2.1) h
  have e30 : R.a 30 = r.a 30 := congrArg (fun z => z.2.2.2.2.2.2.2.2.2.2.2.1) h
  have e31 : R.a 31 = r.a 31 := congrArg (fun z => z.2.2.2.2.2.2.2.2.2.2.2.2.1) h
  have e32 : R.a 32 = r.a 32 := congrArg (fun z => z.2.2.2.2.2.2.2.2.2.2.2.2.2.1) h
  have e33 : R.a 33 = r.a 33 := congrArg (fun z => z.2.2.2.2.2.2.2.2.2.2.2.2.2.2.1) h
  have e34 : R.a 34 = r.a 34 := congrArg (fun z => z.2.2.2.2.2.2.2.2.2.2.2.2.2.2.2.1) h
  have e35 : R.a 35 = r.a 35 := congrArg (fun z => z.2.2.2.2.2.2.2.2.2.2.2.2.2.2.2.2.1) h
  have e36 : R.a 36 = r.a 36 := congrArg (fun z => z.2.2.2.2.2.2.2.2.2.2.2.2.2.2.2.2.2.1) h
  have e37 : R.a 37 = r.a 37 := congrArg (fun z => z.2.2.2.2.2.2.2.2.2.2.2.2.2.2.2.2.2.2) h
  intro k h1 h2
  obtain ⟨m, rfl⟩ : ∃ m : Nat, k = 21 + m := ⟨k - 21, by omega⟩
  match m, h2 with
  | 0, _ => exact e21
  | 1, _ => exact e22
  | 2, _ => exact e23
  | 3, _ => exact e24
  | 4, _ => exact e25
  | 5, _ => exact e26
  | 6, _ => exact e27
  | 7, _ => exact e28
  | 8, _ => exact e29
  | 9, _ => exact e30
  | 10, _ => exact e31
  | 11, _ => exact e32
  | 12, _ => exact e33
  | 13, _ => exact e34
  | 14, _ => exact e35
  | 15, _ => exact e36
  | 16, _ => exact e37
  | m + 17, q => exact absurd q (by omega)
theorem TLP.of {s S : CS} {r R : RS} (h : TLP s r) (ht : TLD S R) (hp : pCl S = pCl s) (hb : pWd S = pWd s) (rp : pRc R = pRc r) (rb : pRw R = pRw r) (i2 : (R.i 2).toInt ≤ (r.i 2).toInt) (hq : pQl S = pQl s) (rq : pRq R = pRq r) (i3 : (r.i 3).toInt ≤ (R.i 3).toInt) (hs : RSC S R) (ha : RNA S R) : TLP S R := by
  obtain ⟨⟨-, h2, h3, h4⟩, h5, h6, -, -⟩ := h
  have c7 : S.i 7 = s.i 7 := congrArg (fun z => z.1) hp
  have c24 : S.i 24 = s.i 24 := congrArg (fun z => z.2.1) hp
  have c25 : S.i 25 = s.i 25 := congrArg (fun z => z.2.2.1) hp
  have c26 : S.i 26 = s.i 26 := congrArg (fun z => z.2.2.2.1) hp
  have c27 : S.i 27 = s.i 27 := congrArg (fun z => z.2.2.2.2.1) hp
  have ca : S.a 0 = s.a 0 := congrArg (fun z => z.2.2.2.2.2) hp
  have d53 : R.i 53 = r.i 53 := congrArg (fun z => z.1) rp
  have d54 : R.i 54 = r.i 54 := congrArg (fun z => z.2.1) rp
  have d55 : R.i 55 = r.i 55 := congrArg (fun z => z.2.2.1) rp
  have d77 : R.i 77 = r.i 77 := congrArg (fun z => z.2.2.2.1) rp
  have d78 : R.i 78 = r.i 78 := congrArg (fun z => z.2.2.2.2.1) rp
  have da : R.a 1 = r.a 1 := congrArg (fun z => z.2.2.2.2.2) rp
  refine ⟨⟨ht, fun k hk => ?_, fun k hk => ?_, fun k hk => ?_⟩, ?_, fun z => ?_, hs, ha⟩
  · rw [ca, da]
    exact h2 k (by omega)
  · exact (congrFun hb k).trans (h3 k hk)
  · exact (congrFun rb k).trans (h4 k hk)
  · unfold PRG at *
    rw [c7, c24, c25, c26, c27, d53, d54, d55, d77, d78]
    exact h5
  · refine (h6 (fun w => z (d77.trans w))).cg ⟨⟨congrArg (fun z => z.1) hq, congrArg (fun z => z.2.1) hq, congrArg (fun z => z.2.2.1) hq⟩, rq_a rq, i3, congrArg (fun z => z.1) rq, congrArg (fun z => z.2.1) rq⟩ (congrArg (fun z => z.2.2.2) hq)
theorem i2_le {r R : RS} (h : R.i 2 = r.i 2) : (R.i 2).toInt ≤ (r.i 2).toInt := by
  rw [h]
  exact Int.le_refl _
theorem i3_le {r R : RS} (h : R.i 3 = r.i 3) : (r.i 3).toInt ≤ (R.i 3).toInt := by
  rw [h]
  exact Int.le_refl _
theorem ql_nl {s S : CS} (h : pNl S = pNl s) : pQl S = pQl s := by
  have a1 : S.a 15 = s.a 15 := congrArg (fun z => z.1) h
  have a2 : S.a 16 = s.a 16 := congrArg (fun z => z.2.1) h
  have a3 : S.a 17 = s.a 17 := congrArg (fun z => z.2.2.1) h
  have a4 : S.i 23 = s.i 23 := congrArg (fun z => z.2.2.2.1) h
  unfold pQl
  rw [a1, a2, a3, a4]
theorem u_fault {N : Nat} {s : CS} {r : RS} {T : Int32 × CS} {U : Int32 × RS} (h : TLP s r) (e : f_X11_fault N s = some T) (g : f_X12_fault N r = some U) : TLP T.2 U.2 :=
  h.of (t_fault h.1.1 e g) (kC_X11_fault N s T e) (kW_X11_fault N s T e) (kr7_f_X12_fault N r U g) (kr9_f_X12_fault N r U g) (i2_le (kr_f_X12_fault N r U g).2.2.2) (ql_nl (kN_X11_fault N s T e)) (krc5_f_X12_fault N r U g) (i3_le (kr_f_X12_fault N r U g).1) (h.2.2.2.1.of (kS_X11_fault N s T e) (krs6_f_X12_fault N r U g)) (h.2.2.2.2.of (kN_X11_fault N s T e) (krn6_f_X12_fault N r U g))
theorem u_ran {N : Nat} {s : CS} {r : RS} {T : Int32 × CS} {U : Int32 × RS} (h : TLP s r) (x1 : Int32) (e : f_X11_ran N s x1 = some T) (g : f_X12_ran N r x1 = some U) : TLP T.2 U.2 :=
  h.of (t_ran h.1.1 x1 e g) (kC_X11_ran N s x1 T e) (kW_X11_ran N s x1 T e) (kr7_f_X12_ran N r x1 U g) (kr9_f_X12_ran N r x1 U g) (i2_le (kr_f_X12_ran N r x1 U g).2.2.2) (ql_nl (kN_X11_ran N s x1 T e)) (krc5_f_X12_ran N r x1 U g) (i3_le (kr_f_X12_ran N r x1 U g).1) (h.2.2.2.1.of (kS_X11_ran N s x1 T e) (krs6_f_X12_ran N r x1 U g)) (h.2.2.2.2.of (kN_X11_ran N s x1 T e) (krn6_f_X12_ran N r x1 U g))
theorem u_trace {N : Nat} {s : CS} {r : RS} {T : Int32 × CS} {U : Int32 × RS} (h : TLP s r) (x1 x2 : Int32) (e : f_X11_trace N s x1 x2 = some T) (g : f_X12_trace N r x1 x2 = some U) : TLP T.2 U.2 :=
  h.of (t_trace h.1.1 x1 x2 e g) (kC_X11_trace N s x1 x2 T e) (kW_X11_trace N s x1 x2 T e) (kr7_f_X12_trace N r x1 x2 U g) (kr9_f_X12_trace N r x1 x2 U g) (i2_le (kr_f_X12_trace N r x1 x2 U g).2.2.2) (ql_nl (kN_X11_trace N s x1 x2 T e)) (krc5_f_X12_trace N r x1 x2 U g) (i3_le (kr_f_X12_trace N r x1 x2 U g).1) (h.2.2.2.1.of (kS_X11_trace N s x1 x2 T e) (krs6_f_X12_trace N r x1 x2 U g)) (h.2.2.2.2.of (kN_X11_trace N s x1 x2 T e) (krn6_f_X12_trace N r x1 x2 U g))
theorem u_suppressed {N : Nat} {s : CS} {r : RS} {T : Int32 × CS} {U : Int32 × RS} (h : TLP s r) (x1 x2 : Int32) (e : f_X11_suppressed N s x1 x2 = some T) (g : f_X12_suppressed N r x1 x2 = some U) : TLP T.2 U.2 :=
  h.of (t_suppressed h.1.1 x1 x2 e g) (kC_X11_suppressed N s x1 x2 T e) (kW_X11_suppressed N s x1 x2 T e) (kr7_f_X12_suppressed N r x1 x2 U g) (kr9_f_X12_suppressed N r x1 x2 U g) (i2_le (kr_f_X12_suppressed N r x1 x2 U g).2.2.2) (ql_nl (kN_X11_suppressed N s x1 x2 T e)) (krc5_f_X12_suppressed N r x1 x2 U g) (i3_le (kr_f_X12_suppressed N r x1 x2 U g).1) (h.2.2.2.1.of (kS_X11_suppressed N s x1 x2 T e) (krs6_f_X12_suppressed N r x1 x2 U g)) (h.2.2.2.2.of (kN_X11_suppressed N s x1 x2 T e) (krn6_f_X12_suppressed N r x1 x2 U g))
theorem u_resource {N : Nat} {s : CS} {r : RS} {T : Int32 × CS} {U : Int32 × RS} (hr : RB r) (h : TLP s r) (x1 x2 x3 x4 : Int32) (e : f_X11_resource N s x1 x2 x3 x4 = some T) (g : f_X12_resource N r x1 x2 x3 x4 = some U) : TLP T.2 U.2 ∧ T.1 = U.1 :=
  ⟨h.of (t_resource hr h.1.1 x1 x2 x3 x4 e g).1 (kC_X11_resource N s x1 x2 x3 x4 T e) (kW_X11_resource N s x1 x2 x3 x4 T e) (kr7_f_X12_resource N r x1 x2 x3 x4 U g) (kr9_f_X12_resource N r x1 x2 x3 x4 U g) (i2_le (kr_f_X12_resource N r x1 x2 x3 x4 U g).2.2.2) (ql_nl (kN_X11_resource N s x1 x2 x3 x4 T e)) (krc5_f_X12_resource N r x1 x2 x3 x4 U g) (i3_le (kr_f_X12_resource N r x1 x2 x3 x4 U g).1) (w_resource hr h.1.1 h.2.2.2.1 x1 x2 x3 x4 e g) (h.2.2.2.2.of (kN_X11_resource N s x1 x2 x3 x4 T e) (krn6_f_X12_resource N r x1 x2 x3 x4 U g)), (t_resource hr h.1.1 x1 x2 x3 x4 e g).2⟩
theorem u_cut {N : Nat} {s : CS} {r : RS} {T : Int32 × CS} {U : Int32 × RS} (h : TLP s r) (x1 : Int32) (e : f_X11_cut N s x1 = some T) (g : f_X12_cut N r x1 = some U) : TLP T.2 U.2 ∧ T.1 = U.1 := by
  have t := t_cut h.1.1 x1 e g
  have gx : pRc U.2 = pRc r ∧ pRw U.2 = pRw r ∧ (U.2.i 2).toInt ≤ (r.i 2).toInt ∧ pRq U.2 = pRq r ∧ pRs U.2 = pRs r ∧ pRn U.2 = pRn r ∧ U.2.i 3 = r.i 3 := by
    by_cases c : 0 ≤ x1 ∧ x1 ≤ r.i 2
    · have g' : f_X12_cut N r x1 = some (r.i 2 - x1, RS.setI (RS.setI r 0 0) 2 x1) := by
        unfold f_X12_cut
        rw [e_in1 c, ob_some]
        exact if_neg n10
      rw [← Option.some.inj (g'.symm.trans g)]
      exact ⟨rfl, rfl, le_int c.2, rfl, rfl, rfl, rfl⟩
    · have g' : f_X12_cut N r x1 = some (-1, RS.setI r 0 0) := by
        unfold f_X12_cut
        rw [e_in0 c, ob_some]
        exact if_pos rfl
      rw [← Option.some.inj (g'.symm.trans g)]
      exact ⟨rfl, rfl, Int.le_refl _, rfl, rfl, rfl, rfl⟩
  obtain ⟨g1, g2, g3, g4, g5, g6, g7⟩ := gx
  exact ⟨h.of t.1 (kC_X11_cut N s x1 T e) (kW_X11_cut N s x1 T e) g1 g2 g3 (ql_nl (kN_X11_cut N s x1 T e)) g4 (i3_le g7) (h.2.2.2.1.of (kS_X11_cut N s x1 T e) g5) (h.2.2.2.2.of (kN_X11_cut N s x1 T e) g6), t.2⟩
theorem u_kind {N : Nat} {s : CS} {r : RS} {T : Int32 × CS} {U : Int32 × RS} (hr : RB r) (h : TLP s r) (x1 : Int32) (e : f_X11_kind N s x1 = some T) (g : f_X12_kind N r x1 = some U) : TLP T.2 U.2 ∧ T.1 = U.1 := by
  have t := t_kind hr h.1.1 x1 e g
  have gx : pRc U.2 = pRc r ∧ pRw U.2 = pRw r ∧ U.2.i 2 = r.i 2 ∧ pRq U.2 = pRq r ∧ pRs U.2 = pRs r ∧ pRn U.2 = pRn r ∧ (r.i 3).toInt ≤ (U.2.i 3).toInt := by
    unfold f_X12_kind at g
    by_cases c : 0 ≤ x1 ∧ x1 ≤ r.i 3 - 1
    · rw [e_in1 c, ob_some] at g
      have g' : (if r.i 3 = 12 then some ((-2 : Int32), RS.setI r 0 0) else if ib (r.i 3) 12 then some (((r.i 3) + 1) - 1, RS.setI (RS.setA (RS.setI r 0 0) 4 (r.i 3).toNatClampNeg x1) 3 (r.i 3 + 1)) else none) = some U := (if_neg n10).symm.trans g
      by_cases d : r.i 3 = 12
      · rw [if_pos d] at g'
        rw [← Option.some.inj g']
        exact ⟨rfl, rfl, rfl, rfl, rfl, rfl, Int.le_refl _⟩
      · rw [if_neg d] at g'
        obtain ⟨-, g'⟩ := hf_ite g'
        rw [← Option.some.inj g']
        have r3 := hr.2.1
        have l1 := le_int r3.1
        have l2 := le_int r3.2
        have e4 : (4 : Int32).toInt = 4 := by decide
        have e12 : (12 : Int32).toInt = 12 := by decide
        have e1 : (1 : Int32).toInt = 1 := by decide
        refine ⟨rfl, rfl, rfl, rfl, rfl, rfl, ?_⟩
        show (r.i 3).toInt ≤ (r.i 3 + 1).toInt
        rw [toInt_add] <;> omega
    · rw [e_in0 c, ob_some] at g
      have g' : some ((-1 : Int32), RS.setI r 0 0) = some U := (if_pos rfl).symm.trans g
      rw [← Option.some.inj g']
      exact ⟨rfl, rfl, rfl, rfl, rfl, rfl, Int.le_refl _⟩
  obtain ⟨g1, g2, g3, g4, g5, g6, g7⟩ := gx
  exact ⟨h.of t.1 (kC_X11_kind N s x1 T e) (kW_X11_kind N s x1 T e) g1 g2 (i2_le g3) (ql_nl (kN_X11_kind N s x1 T e)) g4 g7 (h.2.2.2.1.of (kS_X11_kind N s x1 T e) g5) (h.2.2.2.2.of (kN_X11_kind N s x1 T e) g6), t.2⟩
theorem u_asserts {N : Nat} {s : CS} {r : RS} {T : Int32 × CS} {U : Int32 × RS} (h : TLP s r) (x1 : Int32) (e : f_X11_asserts N s x1 = some T) (g : f_X12_asserts N r x1 = some U) : TLP T.2 U.2 ∧ T.1 = U.1 := by
  have t := t_asserts h.1.1 x1 e g
  have gx : pRc U.2 = pRc r ∧ pRw U.2 = pRw r ∧ U.2.i 2 = r.i 2 ∧ pRq U.2 = pRq r ∧ pRs U.2 = pRs r ∧ pRn U.2 = pRn r ∧ (r.i 3).toInt ≤ (U.2.i 3).toInt := by
    unfold f_X12_asserts f_X12_asserts_18 at g
    by_cases c : r.i 8 = 0
    · rw [if_pos c] at g
      obtain ⟨-, g⟩ := hf_ite g
      rw [← Option.some.inj g]
      exact ⟨rfl, rfl, rfl, rfl, rfl, rfl, Int.le_refl _⟩
    · rw [if_neg c] at g
      obtain ⟨-, g⟩ := hf_ite g
      rw [← Option.some.inj g]
      exact ⟨rfl, rfl, rfl, rfl, rfl, rfl, Int.le_refl _⟩
  obtain ⟨g1, g2, g3, g4, g5, g6, g7⟩ := gx
  exact ⟨h.of t.1 (kC_X11_asserts N s x1 T e) (kW_X11_asserts N s x1 T e) g1 g2 (i2_le g3) (ql_nl (kN_X11_asserts N s x1 T e)) g4 g7 (h.2.2.2.1.of (kS_X11_asserts N s x1 T e) g5) (h.2.2.2.2.of (kN_X11_asserts N s x1 T e) g6), t.2⟩
theorem rn_rs {N : Nat} {r : RS} {x1 x2 : Int32} {U : Int32 × RS} (h77 : ¬ r.i 77 = 0) (g : f_X12_run N r x1 x2 = some U) : pRs U.2 = (r.a 5, r.a 6, r.a 7, 1) := by
  unfold f_X12_run at g
  rw [if_neg h77] at g
  obtain ⟨X, g1, -, g3, -⟩ := rz_17 N (RS.setI r 0 0) 0 (by decide) (fun k hk => by rw [z_t0] at hk; omega) g
  obtain ⟨Z, z1, -, z3, -⟩ := rz_39 N X 0 (by decide) (fun k hk => by rw [z_t0] at hk; omega) g1
  obtain ⟨A, hA⟩ : ∃ A, A = RS.setI (RS.setI (RS.setI (RS.setI (RS.setI (RS.setI (RS.setI (RS.setI (RS.setI (RS.setI (RS.setA (RS.setA Z 84 0 x1) 84 1 x2) 80 0) 81 0) 85 0) 95 0) 97 0) 99 0) 93 0) 79 1) 115 0) 92 0 := ⟨_, rfl⟩
  rw [← hA] at z1
  have kA : pRs A = (Z.a 5, Z.a 6, Z.a 7, 1) := by
    rw [hA]
    rfl
  clear hA
  rw [z3 5 (by decide), z3 6 (by decide), z3 7 (by decide), g3 5 (by decide), g3 6 (by decide), g3 7 (by decide)] at kA
  exact Eq.trans (krs6_f_X12_run_122 N N A U z1) kA
theorem u_run {N : Nat} (hN : 10000000000 ≤ N) {h0 : Nat} {s : CS} {r : RS} {T : Int32 × CS} {U : Int32 × RS} (hc : CIV h0 s) (hr : RB r) (h : TLP s r) (x1 x2 : Int32) (e : f_X11_run N s x1 x2 = some T) (g : f_X12_run N r x1 x2 = some U) : TLP T.2 U.2 ∧ T.1 = U.1 := by
  have t := t_run hN hc h.1.1 x1 x2 e g
  rcases h.2.1 with ⟨z1, z2⟩ | ⟨⟨z1, z2⟩, -⟩
  · unfold f_X11_run at e
    rw [if_pos z1] at e
    unfold f_X12_run at g
    rw [if_pos z2] at g
    rw [← Option.some.inj e, ← Option.some.inj g] at t ⊢
    exact ⟨h.of t rfl rfl rfl rfl (Int.le_refl _) rfl rfl (Int.le_refl _) (h.2.2.2.1.of rfl rfl) (h.2.2.2.2.of rfl rfl), rfl⟩
  · have k7 := kr7_f_X12_run N r x1 x2 U g
    have k9 := kr9_f_X12_run N r x1 x2 U g
    have kk := kr_f_X12_run N r x1 x2 U g
    have kq := krc5_f_X12_run N r x1 x2 U g
    have ks := rn_rs z2 g
    unfold f_X11_run at e
    rw [if_neg z1] at e
    obtain ⟨Y, hY⟩ : ∃ Y, Y = CS.setI s 8 1 := ⟨_, rfl⟩
    have f2 : ∀ j : Nat, j ≠ 8 → Y.i j = s.i j := fun j hj => by rw [hY]; exact ci_ne _ _ _ hj
    have f8 : Y.i 8 = 1 := by rw [hY]; exact ci_at _ _ _
    have fa : Y.a = s.a := by rw [hY]; rfl
    have fb : Y.b = s.b := by rw [hY]; rfl
    have cY : CIV h0 Y := by
      refine hc.of (by rw [hY]; exact HSM.i _ _ _) ⟨by rw [f2 14 (by decide)]; exact hc.2.2.2.2.1.1, by rw [f2 13 (by decide)]; exact hc.2.2.2.2.1.2⟩ (by rw [f2 5 (by decide)]; exact hc.2.2.2.2.2.1) (f2 7 (by decide)) ⟨by rw [hY]; rfl, by rw [hY]; rfl, by rw [hY]; rfl, f2 20 (by decide)⟩
    rw [← hY] at e
    clear hY
    obtain ⟨P, eP, e⟩ := hf_bind e
    have eT : T = (P.1, P.2) := (Option.some.inj e).symm
    obtain ⟨D, hD⟩ := cY.2.2.2.2.2.2 (by rw [f2 7 (by decide)]; exact z1)
    obtain ⟨r1, r2, m1, m2, m3, m4, m5, m6⟩ := ok_at (q_perform hN cY.1 cY.2.1 hD x1 x2) eP
    have cd : CDX Y (RS.setI r 0 0) := (h.2.2.1 z2).cg ⟨⟨by rw [fa], by rw [fa], by rw [fa]⟩, fun _ _ _ => rfl, Int.le_refl _, rfl, rfl⟩ (f2 23 (by decide))
    obtain ⟨nm, AL, c1, c2, c3, c4⟩ := cd
    have tl : TLR Y (RS.setI r 0 0) := by
      refine ⟨fun k hk => ?_, ⟨?_, ?_, ?_, ?_, fun k h1 h2 => ?_⟩, hr⟩
      · rw [fa]
        exact h.2.2.2.1 k hk
      · rw [f2 5 (by decide)]
        exact h.1.1.1
      · rw [f2 13 (by decide)]
        exact h.1.1.2.1
      · rw [f2 14 (by decide)]
        exact h.1.1.2.2.1
      · rw [fa]
        exact h.1.1.2.2.2.1
      · rw [fa]
        exact h.1.1.2.2.2.2 k h1 h2
    obtain ⟨nz, an⟩ := rn_both hN cY.1 cY.2.1 hD c1 tl c2 c3 c4 z2 eP g
    rw [eT] at t ⊢
    refine ⟨h.of t ?_ ?_ k7 k9 (i2_le kk.2.2.2) ?_ kq (i3_le kk.1) ?_ (Or.inr ⟨⟨?_, ?_⟩, nz⟩), an⟩
    · show (P.2.i 7, P.2.i 24, P.2.i 25, P.2.i 26, P.2.i 27, P.2.a 0) = (s.i 7, s.i 24, s.i 25, s.i 26, s.i 27, s.a 0)
      rw [m1 7 (by decide), m1 24 (by decide), m1 25 (by decide), m1 26 (by decide), m1 27 (by decide), m2 0 (by decide), f2 7 (by decide), f2 24 (by decide), f2 25 (by decide), f2 26 (by decide), f2 27 (by decide), fa]
    · show P.2.b 40 = s.b 40
      rw [m3, fb]
    · show (P.2.a 15, P.2.a 16, P.2.a 17, P.2.i 23) = (s.a 15, s.a 16, s.a 17, s.i 23)
      rw [m2 15 (by decide), m2 16 (by decide), m2 17 (by decide), m1 23 (by decide), f2 23 (by decide), fa]
    · intro k hk
      have b1 : U.2.a 5 = r.a 5 := congrArg (fun z => z.1) ks
      have b2 : U.2.a 6 = r.a 6 := congrArg (fun z => z.2.1) ks
      have b3 : U.2.a 7 = r.a 7 := congrArg (fun z => z.2.2.1) ks
      show P.2.a 10 k = U.2.a 5 k ∧ P.2.a 11 k + 1 = U.2.a 6 k ∧ P.2.a 12 k + 1 = U.2.a 7 k
      rw [m2 10 (by decide), m2 11 (by decide), m2 12 (by decide), fa, b1, b2, b3]
      exact h.2.2.2.1 k hk
    · show ¬ P.2.i 8 = 0
      rw [m1 8 (by decide), f8]
      decide
    · have b4 : U.2.i 79 = 1 := congrArg (fun z => z.2.2.2) ks
      rw [b4]
      decide
theorem rd_167b {N : Nat} {s : RS} {U : Int32 × RS} (g : f_X12_read_167 N s = some U) : U.2.b = s.b := by
  unfold f_X12_read_167 f_X12_read_199 at g
  obtain ⟨-, g⟩ := hf_ite g
  have go : ∀ (X : RS) (v : Int32), X.b = s.b → (if X.i 15 = 0 then some (X.i 53, RS.setI (RS.setI X 79 0) 81 0) else some ((-10) - X.i 16, RS.setI (RS.setI X 79 0) 81 0)) = some U → U.2.b = s.b := fun X _ hX q => by
    by_cases c : X.i 15 = 0
    · rw [if_pos c] at q
      rw [← Option.some.inj q]
      exact hX
    · rw [if_neg c] at q
      rw [← Option.some.inj q]
      exact hX
  by_cases c : s.i 15 = 0
  · rw [if_pos c] at g
    exact go (RS.setI (RS.setI (RS.setI s 78 (s.i 75)) 76 (s.i 15)) 77 1) 0 rfl g
  · rw [if_neg c] at g
    exact go (RS.setI (RS.setI (RS.setI s 78 (s.i 75)) 76 (s.i 15)) 77 0) 0 rfl g
theorem rd_b9 {N : Nat} {r : RS} {U : Int32 × RS} (g : f_X12_read N r = some U) : U.2.b 9 = r.b 9 := by
  obtain ⟨Y, q, V, p7, rz, gq, gV, g7, g, -⟩ := rd_open g
  have k1 : pRw q = pRw Y := kr9_f_X12_next N Y q gq
  have k2 : pRw V = pRw (RS.setI q 63 (-1)) := kr9_f_X12_push N _ 1 V gV
  have k3 : pRw p7 = pRw V := kr9_f_X12_parse_10 N N V p7 g7
  have k4 : p7.b 9 = r.b 9 := ((k3.trans k2).trans k1).trans rz.1.2.2.2.2.2
  have fin : ∀ (w : Int32 × RS), pRw w.2 = pRw p7 → f_X12_read_138 N w.2 = some U → U.2.b 9 = r.b 9 := fun w hw gw => by
    have hw' : w.2.b 9 = r.b 9 := Eq.trans hw k4
    unfold f_X12_read_138 at gw
    by_cases c : w.2.i 15 = 0
    · rw [if_pos c] at gw
      by_cases d : w.2.i 18 < 0
      · rw [if_pos d] at gw
        exact (congrFun (rd_167b gw) 9).trans hw'
      · rw [if_neg d] at gw
        obtain ⟨v, gv, gw⟩ := hf_bind gw
        have k5 : pRw v = pRw (RS.setI w.2 2 0) := kr9_f_X12_fail N _ _ _ v gv
        exact (congrFun (rd_167b gw) 9).trans (Eq.trans k5 hw')
    · rw [if_neg c] at gw
      exact (congrFun (rd_167b gw) 9).trans hw'
  by_cases c : p7.i 10 = 0
  · rw [if_pos c] at g
    obtain ⟨w, gw, g⟩ := hf_bind g
    exact fin w (kr9_f_X12_can N _ _ w gw) g
  · rw [if_neg c] at g
    obtain ⟨w, gw, g⟩ := hf_bind g
    exact fin w (kr9_f_X12_can N _ _ w gw) g
theorem rd_167z {N : Nat} {s : RS} {U : Int32 × RS} (g : f_X12_read_167 N s = some U) : U.2.i 79 = 0 := by
  unfold f_X12_read_167 f_X12_read_199 at g
  obtain ⟨-, g⟩ := hf_ite g
  have go : ∀ X : RS, (if X.i 15 = 0 then some (X.i 53, RS.setI (RS.setI X 79 0) 81 0) else some ((-10) - X.i 16, RS.setI (RS.setI X 79 0) 81 0)) = some U → U.2.i 79 = 0 := fun X q => by
    by_cases c : X.i 15 = 0
    · rw [if_pos c] at q
      rw [← Option.some.inj q]
      rfl
    · rw [if_neg c] at q
      rw [← Option.some.inj q]
      rfl
  by_cases c : s.i 15 = 0
  · rw [if_pos c] at g
    exact go (RS.setI (RS.setI (RS.setI s 78 (s.i 75)) 76 (s.i 15)) 77 1) g
  · rw [if_neg c] at g
    exact go (RS.setI (RS.setI (RS.setI s 78 (s.i 75)) 76 (s.i 15)) 77 0) g
theorem rd_138s {N : Nat} {s : RS} {U : Int32 × RS} (g : f_X12_read_138 N s = some U) : (U.2.a 5 = s.a 5 ∧ U.2.a 6 = s.a 6 ∧ U.2.a 7 = s.a 7) ∧ U.2.i 79 = 0 := by
  have go : ∀ X : RS, f_X12_read_167 N X = some U → X.a 5 = s.a 5 ∧ X.a 6 = s.a 6 ∧ X.a 7 = s.a 7 → (U.2.a 5 = s.a 5 ∧ U.2.a 6 = s.a 6 ∧ U.2.a 7 = s.a 7) ∧ U.2.i 79 = 0 := fun X q hX => by
    have a := (rd_167a q).1
    rw [a]
    exact ⟨hX, rd_167z q⟩
  unfold f_X12_read_138 at g
  by_cases c : s.i 15 = 0
  · rw [if_pos c] at g
    by_cases d : s.i 18 < 0
    · rw [if_pos d] at g
      exact go _ g ⟨rfl, rfl, rfl⟩
    · rw [if_neg d] at g
      obtain ⟨v, gv, g⟩ := hf_bind g
      have k5 : pRs v = pRs (RS.setI s 2 0) := krs6_f_X12_fail N _ _ _ v gv
      exact go v g ⟨congrArg (fun z => z.1) k5, congrArg (fun z => z.2.1) k5, congrArg (fun z => z.2.2.1) k5⟩
  · rw [if_neg c] at g
    exact go _ g ⟨rfl, rfl, rfl⟩
/-- the reference's read: what was told of resources stays, no run any more -/
theorem rd_rs {N : Nat} {r : RS} {U : Int32 × RS} (g : f_X12_read N r = some U) : (U.2.a 5 = r.a 5 ∧ U.2.a 6 = r.a 6 ∧ U.2.a 7 = r.a 7) ∧ U.2.i 79 = 0 := by
  unfold f_X12_read at g
  obtain ⟨A, hA⟩ : ∃ A, A = RS.setI (RS.setI (RS.setI (RS.setI (RS.setI (RS.setI (RS.setI (RS.setI (RS.setI r 0 0) 38 0) 42 0) 43 0) 19 0) 53 0) 54 0) 55 0) 20 0 := ⟨_, rfl⟩
  have kA : KSs6 r A := by rw [hA]; exact rfl
  rw [← hA] at g
  clear hA
  obtain ⟨B, hB⟩ : ∃ B, B = RS.setI (RS.setI (RS.setI (RS.setI (RS.setI (RS.setI (RS.setI (RS.setI (RS.setI (RS.setI A 24 0) 29 0) 33 0) 56 0) 59 0) 52 0) 12 0) 15 0) 18 (-1)) 17 0 := ⟨_, rfl⟩
  have kB : KSs6 A B := by rw [hB]; exact rfl
  rw [← hB] at g
  clear hB
  obtain ⟨p1, g1, g⟩ := hf_bind g
  obtain ⟨p3, g3, g⟩ := hf_bind g
  obtain ⟨p5, g5, g⟩ := hf_bind g
  obtain ⟨p7, g7, g⟩ := hf_bind g
  unfold f_X12_parse at g7
  obtain ⟨V, gV, g7⟩ := hf_bind g7
  have kq : KSs6 p5 (RS.setI p5 63 (-1)) := rfl
  have k7 : KSs6 r p7 := ((((((kA.tr kB).tr (krs6_f_X12_see N _ _ _ p1 g1)).tr (krs6_f_X12_see N _ _ _ p3 g3)).tr (krs6_f_X12_next N _ p5 g5)).tr kq).tr (krs6_f_X12_push N _ _ V gV)).tr (krs6_f_X12_parse_10 N _ _ p7 g7)
  have fin : ∀ (p : Int32 × RS), KSs6 p7 p.2 → f_X12_read_138 N p.2 = some U → (U.2.a 5 = r.a 5 ∧ U.2.a 6 = r.a 6 ∧ U.2.a 7 = r.a 7) ∧ U.2.i 79 = 0 := fun p kp gp => by
    obtain ⟨⟨b1, b2, b3⟩, b4⟩ := rd_138s gp
    have k8 : pRs p.2 = pRs r := k7.tr kp
    exact ⟨⟨b1.trans (congrArg (fun z => z.1) k8), b2.trans (congrArg (fun z => z.2.1) k8), b3.trans (congrArg (fun z => z.2.2.1) k8)⟩, b4⟩
  by_cases c : p7.i 10 = 0
  · rw [if_pos c] at g
    obtain ⟨p, g9, g⟩ := hf_bind g
    exact fin p (krs6_f_X12_can N _ _ p g9) g
  · rw [if_neg c] at g
    obtain ⟨p, g9, g⟩ := hf_bind g
    exact fin p (krs6_f_X12_can N _ _ p g9) g
/-- the class's read: what was told of resources stays, no run any more -/
theorem rd_sc {N : Nat} {s : CS} {T : Int32 × CS} (e : f_X11_read N (fEE N 23).1 (fEE N 23).2 s = some T) : (T.2.a 10 = s.a 10 ∧ T.2.a 11 = s.a 11 ∧ T.2.a 12 = s.a 12) ∧ T.2.i 8 = 0 := by
  unfold f_X11_read at e
  obtain ⟨p1, e1, e⟩ := hf_bind e
  have k1 : pSc p1.2 = pSc (CS.setI (CS.setI s 5 0) 8 0) := kS_X7_translate N _ _ (kSEE N 23).1 (kSEE N 23).2 _ _ p1 e1
  have k2 : pSc p1.2 = (s.a 10, s.a 11, s.a 12, 0) := k1
  have a1 : p1.2.a 10 = s.a 10 := congrArg (fun z => z.1) k2
  have a2 : p1.2.a 11 = s.a 11 := congrArg (fun z => z.2.1) k2
  have a3 : p1.2.a 12 = s.a 12 := congrArg (fun z => z.2.2.1) k2
  have a4 : p1.2.i 8 = 0 := congrArg (fun z => z.2.2.2) k2
  have go : ∀ X : CS, f_X11_read_43 N (fEE N 23).1 (fEE N 23).2 X = some T → X.a = p1.2.a → X.i 8 = p1.2.i 8 → (T.2.a 10 = s.a 10 ∧ T.2.a 11 = s.a 11 ∧ T.2.a 12 = s.a 12) ∧ T.2.i 8 = 0 := fun X q xa x8 => by
    unfold f_X11_read_43 at q
    by_cases c : X.i 7 = 0
    · rw [if_pos c] at q
      rw [← Option.some.inj q]
      exact ⟨⟨by rw [xa]; exact a1, by rw [xa]; exact a2, by rw [xa]; exact a3⟩, x8.trans a4⟩
    · rw [if_neg c] at q
      rw [← Option.some.inj q]
      exact ⟨⟨by rw [xa]; exact a1, by rw [xa]; exact a2, by rw [xa]; exact a3⟩, x8.trans a4⟩
  have n6 : ∀ v w : Int32, (CS.setI (CS.setI p1.2 6 v) 7 w).i 8 = p1.2.i 8 := fun v w => by
    rw [ci_ne _ _ _ (by decide), ci_ne _ _ _ (by decide)]
  by_cases c : p1.1 = 0
  · rw [if_pos c] at e
    exact go _ e rfl (n6 _ _)
  · rw [if_neg c] at e
    exact go _ e rfl (n6 _ _)
theorem u_read {N : Nat} (hN : 40000 ≤ N) {h0 : Nat} {s : CS} {r : RS} {T : Int32 × CS} {U : Int32 × RS} (hc : CIV h0 s) (hr : RI r) (h : TLP s r) (e : f_X11_read N (fEE N 23).1 (fEE N 23).2 s = some T) (g : f_X12_read N r = some U) : TLP T.2 U.2 := by
  have rd := rd_both (Nat.le_trans (by decide) hN) hc hr.1 h.1 e g
  obtain ⟨⟨s1, s2, s3⟩, s4⟩ := rd_sc e
  obtain ⟨⟨q1, q2, q3⟩, q4⟩ := rd_rs g
  refine ⟨⟨t_read h.1.1 e g, fun k hk => ?_, fun k hk => ?_, fun k hk => ?_⟩, rd.1, fun z => ?_, fun k hk => ?_, Or.inl ⟨s4, q4⟩⟩
  · rw [(kz_read g).2.2.2, z_t0] at hk
    omega
  · exact (congrFun (kW_X11_read N _ _ (kWEE N 23).1 (kWEE N 23).2 s T e) k).trans (h.1.2.2.1 k hk)
  · exact (congrFun (rd_b9 g) k).trans (h.1.2.2.2 k hk)
  · have nz : ¬ T.2.i 7 = 0 := by
      rcases rd.1 with ⟨-, y⟩ | ⟨⟨y, -⟩, -⟩
      · exact absurd y z
      · exact y
    obtain ⟨s0, r0, cd, ⟨ta, ti⟩, ua, ui⟩ := rd.2 nz (ok_at (rd_slt hN hr) g z)
    refine cd.cg ⟨⟨by rw [ta], by rw [ta], by rw [ta]⟩, fun k _ _ => by rw [ua], ?_, ui 18 (by decide) (by omega), ui 20 (by decide) (by omega)⟩ (ti 23 (by decide) (by decide))
    rw [ui 3 (by decide) (by omega)]
    exact Int.le_refl _
  · rw [s1, s2, s3, q1, q2, q3]
    exact h.2.2.2.1 k hk
theorem fd_refa {N : Nat} {x1 x2 x3 x4 x5 : Int32} : ∀ (n : Nat) (r : RS) (k : Int32) (U : Int32 × RS), f_X12_feed_24 N n r x1 x2 x3 x4 x5 k = some U → pRq U.2 = pRq r ∧ pRs U.2 = pRs r ∧ pRn U.2 = pRn r ∧ U.2.i 3 = r.i 3
  | 0, _, _, _, g => by cases g
  | n + 1, r, k, U, g => by
    have g' : b_X12_feed_24 N (f_X12_feed_24 N n) r x1 x2 x3 x4 x5 k = some U := g
    unfold b_X12_feed_24 at g'
    have go : ∀ (j : Nat) (v w : Int32), f_X12_feed_24 N n (RS.setA r 1 j v) x1 x2 x3 x4 x5 w = some U → pRq U.2 = pRq r ∧ pRs U.2 = pRs r ∧ pRn U.2 = pRn r ∧ U.2.i 3 = r.i 3 := fun j v w q => by
      obtain ⟨a1, a2, a3, a4⟩ := fd_refa n _ w U q
      have b1 : pRq (RS.setA r 1 j v) = pRq r := rfl
      have b2 : pRs (RS.setA r 1 j v) = pRs r := rfl
      have b3 : pRn (RS.setA r 1 j v) = pRn r := rfl
      exact ⟨a1.trans b1, a2.trans b2, a3.trans b3, a4⟩
    by_cases c : (20 : Int32) ≤ k
    · rw [if_pos c] at g'
      rw [← Option.some.inj g']
      exact ⟨rfl, rfl, rfl, rfl⟩
    rw [if_neg c] at g'
    by_cases c4 : (4 : Int32) ≤ k
    · rw [if_pos c4] at g'
      by_cases c8 : (8 : Int32) ≤ k
      · rw [if_pos c8] at g'
        by_cases c12 : (12 : Int32) ≤ k
        · rw [if_pos c12] at g'
          by_cases c16 : (16 : Int32) ≤ k
          · rw [if_pos c16] at g'
            exact go _ _ _ (hf_ite g').2
          · rw [if_neg c16] at g'
            exact go _ _ _ (hf_ite g').2
        · rw [if_neg c12] at g'
          exact go _ _ _ (hf_ite g').2
      · rw [if_neg c8] at g'
        exact go _ _ _ (hf_ite g').2
    · rw [if_neg c4] at g'
      exact go _ _ _ (hf_ite g').2
theorem u_feed {N : Nat} (hN : 1000 ≤ N) {h0 : Nat} {s : CS} {r : RS} {T : Int32 × CS} {U : Int32 × RS} (hc : CIV h0 s) (h : TLP s r) (x1 x2 x3 x4 x5 : Int32) (e : f_X11_feed N s x1 x2 x3 x4 x5 = some T) (g : f_X12_feed N r x1 x2 x3 x4 x5 = some U) : TLP T.2 U.2 ∧ T.1 = U.1 := by
  have t := t_feed hN hc h.1.1 x1 x2 x3 x4 x5 e g
  refine ⟨?_, t.2⟩
  have kw := kW_X11_feed N s x1 x2 x3 x4 x5 T e
  have h5 := hc.2.2.2.2.2.1
  have e20 : (20 : Int32).toInt = 20 := by decide
  have e9 : (900 : Int32).toInt = 900 := by decide
  have e5 : (s.i 5 + 20).toInt = (s.i 5).toInt + 20 := by rw [toInt_add] <;> rw [e20] <;> omega
  have s5 := h.1.1.1
  by_cases c : s.i 5 + 20 ≤ 900
  · have l := le_int c
    rw [e5, e9] at l
    obtain ⟨p, hp⟩ : ∃ p : Nat, (s.i 5).toInt = (p : Int) := ⟨(s.i 5).toInt.toNat, by omega⟩
    obtain ⟨c1, c2⟩ := fd_cls hp (by omega) e
    unfold f_X12_feed at g
    rw [if_pos (show r.i 2 + 20 ≤ 900 by rw [← s5]; exact c)] at g
    have hp2 : ((RS.setI r 0 0).i 2).toInt = (p : Int) := by
      show (r.i 2).toInt = _
      rw [← s5]
      exact hp
    obtain ⟨d1, d2, d3⟩ := fd_ref (p := p) (by omega) N 0 (RS.setI r 0 0) U (by omega) hp2 g
    obtain ⟨w1, w2, w3, w4⟩ := fd_refa N (RS.setI r 0 0) 0 U g
    have u2 : (U.2.i 2).toInt = (p : Int) + 20 := by
      have z := t.1.1
      rw [← z]
      have w := (ok_at (y_feed hN hc x1 x2 x3 x4 x5) e).1 c
      rw [w.2, e5, hp]
    have kn := kN_X11_feed N s x1 x2 x3 x4 x5 T e
    have ks := kS_X11_feed N s x1 x2 x3 x4 x5 T e
    obtain ⟨⟨-, h2, h3, h4⟩, hP, hC, hS1, hA1⟩ := h
    have v1 : pRq U.2 = pRq r := w1
    have v2 : pRs U.2 = pRs r := w2
    have v3 : pRn U.2 = pRn r := w3
    have d77 : U.2.i 77 = r.i 77 := (d1 77 (by decide)).trans (ri_ne (by decide))
    refine ⟨⟨t.1, fun k hk => ?_, fun k hk => ?_, fun k hk => ?_⟩, ?_, fun z => (hC (fun w => z (d77.trans w))).cg ⟨⟨congrArg (fun z => z.1) kn, congrArg (fun z => z.2.1) kn, congrArg (fun z => z.2.2.1) kn⟩, rq_a v1, i3_le w4, congrArg (fun z => z.1) v1, congrArg (fun z => z.2.1) v1⟩ (congrArg (fun z => z.2.2.2.1) kn), hS1.of ks v2, hA1.of kn v3⟩
    · rw [c2 k, d3 k]
      by_cases w : p ≤ k ∧ k < p + 20
      · rw [if_pos w, if_pos (by omega)]
        exact b_eq _ _ (by omega)
      · rw [if_neg w, if_neg (by omega)]
        refine h2 k ?_
        rw [← s5, hp]
        omega
    · exact (congrFun kw k).trans (h3 k hk)
    · rw [d2]
      exact h4 k hk
    · have ri : ∀ j : Nat, j ≠ 0 → j ≠ 2 → U.2.i j = r.i j := fun j a1 a2 => (d1 j a2).trans (ri_ne a1)
      unfold PRG at *
      rw [c1 7 (by decide), c1 24 (by decide), c1 25 (by decide), c1 26 (by decide), c1 27 (by decide), ri 53 (by decide) (by decide), ri 54 (by decide) (by decide), ri 55 (by decide) (by decide), ri 77 (by decide) (by decide), ri 78 (by decide) (by decide)]
      exact hP
  · unfold f_X11_feed at e
    rw [if_neg c] at e
    unfold f_X12_feed at g
    rw [if_neg (show ¬ r.i 2 + 20 ≤ 900 by rw [← s5]; exact c)] at g
    refine h.of t.1 ?_ kw ?_ ?_ ?_ ?_ ?_ ?_ (h.2.2.2.1.of ?_ ?_) (h.2.2.2.2.of ?_ ?_)
    · rw [← Option.some.inj e]
    · rw [← Option.some.inj g]
      rfl
    · rw [← Option.some.inj g]
      rfl
    · rw [← Option.some.inj g]
      exact Int.le_refl _
    · rw [← Option.some.inj e]
    · rw [← Option.some.inj g]
      rfl
    · rw [← Option.some.inj g]
      exact Int.le_refl _
    · rw [← Option.some.inj e]
    · rw [← Option.some.inj g]
      rfl
    · rw [← Option.some.inj e]
    · rw [← Option.some.inj g]
      rfl
/-- what program answers -/
theorem u_program {N : Nat} {s : CS} {r : RS} {T : Int32 × CS} {U : Int32 × RS} (h : TLP s r) (x1 : Int32) (e : f_X11_program N s x1 = some T) (g : f_X12_program N r x1 = some U) : TLP T.2 U.2 ∧ T.1 = U.1 := by
  refine ⟨h.of (t_program h.1.1 x1 e g) (kC_X11_program N s x1 T e) (kW_X11_program N s x1 T e) (kr7_f_X12_program N r x1 U g) (kr9_f_X12_program N r x1 U g) (i2_le (kr_f_X12_program N r x1 U g).2.2.2) (ql_nl (kN_X11_program N s x1 T e)) (krc5_f_X12_program N r x1 U g) (i3_le (kr_f_X12_program N r x1 U g).1) (h.2.2.2.1.of (kS_X11_program N s x1 T e) (krs6_f_X12_program N r x1 U g)) (h.2.2.2.2.of (kN_X11_program N s x1 T e) (krn6_f_X12_program N r x1 U g)), ?_⟩
  obtain ⟨-, hp, -⟩ := h
  unfold f_X11_program f_X11_program_9 at e
  unfold f_X12_program at g
  by_cases c : 0 ≤ x1 ∧ x1 ≤ 3
  · rw [if_neg (Int32.not_lt.mpr c.1), if_pos c.2] at e
    rw [e_in1 c, ob_some] at g
    have g' : (if r.i 77 = 0 then some ((-3 : Int32), RS.setI r 0 0) else (if x1 = 0 then some (r.i 53, RS.setI r 0 0) else (if x1 = 1 then (if r.i 78 = 0 then some (0, RS.setI r 0 0) else some (1, RS.setI r 0 0)) else (if x1 = 2 then some (r.i 54, RS.setI r 0 0) else some (r.i 55, RS.setI r 0 0))))) = some U := (if_neg n10).symm.trans g
    rcases hp with ⟨z1, z2⟩ | ⟨⟨z1, z2⟩, q1, q2, q3, q4⟩
    · rw [if_pos z1] at e
      rw [if_pos z2] at g'
      rw [← Option.some.inj e, ← Option.some.inj g']
    · rw [if_neg z1] at e
      rw [if_neg z2] at g'
      by_cases x0 : x1 = 0
      · rw [if_pos x0] at e g'
        rw [← Option.some.inj e, ← Option.some.inj g']
        exact q1
      · rw [if_neg x0] at e g'
        by_cases x1' : x1 = 1
        · rw [if_pos x1'] at e g'
          by_cases y : s.i 27 = 0
          · rw [if_pos y] at e
            rw [if_pos (q4.mp y)] at g'
            rw [← Option.some.inj e, ← Option.some.inj g']
          · rw [if_neg y] at e
            rw [if_neg (fun w => y (q4.mpr w))] at g'
            rw [← Option.some.inj e, ← Option.some.inj g']
        · rw [if_neg x1'] at e g'
          by_cases x2 : x1 = 2
          · rw [if_pos x2] at e g'
            rw [← Option.some.inj e, ← Option.some.inj g']
            exact q2
          · rw [if_neg x2] at e g'
            rw [← Option.some.inj e, ← Option.some.inj g']
            exact q3
  · rw [e_in0 c, ob_some] at g
    have g' : some ((-1 : Int32), RS.setI r 0 0) = some U := (if_pos rfl).symm.trans g
    have e' : some ((-1 : Int32), s) = some T := by
      by_cases d : x1 < 0
      · rw [if_pos d] at e
        exact e
      · rw [if_neg d, if_neg (fun q => c ⟨Int32.not_lt.mp d, q⟩)] at e
        exact e
    rw [← Option.some.inj e', ← Option.some.inj g']
theorem u_under {N : Nat} (hN : 1000 ≤ N) {s : CS} {r : RS} {T : Int32 × CS} {U : Int32 × RS} (hr : RB r) (h : TLP s r) (x1 x2 : Int32) (e : f_X11_under N s x1 x2 = some T) (g : f_X12_under N r x1 x2 = some U) : TLP T.2 U.2 ∧ T.1 = U.1 :=
  ⟨h.of (t_under hN hr h.1.1 x1 x2 e g).1 (kC_X11_under N s x1 x2 T e) (kW_X11_under N s x1 x2 T e) (kr7_f_X12_under N r x1 x2 U g) (kr9_f_X12_under N r x1 x2 U g) (i2_le (kr_f_X12_under N r x1 x2 U g).2.2.2) (ql_nl (kN_X11_under N s x1 x2 T e)) (krc5_f_X12_under N r x1 x2 U g) (i3_le (kr_f_X12_under N r x1 x2 U g).1) (h.2.2.2.1.of (kS_X11_under N s x1 x2 T e) (krs6_f_X12_under N r x1 x2 U g)) (h.2.2.2.2.of (kN_X11_under N s x1 x2 T e) (krn6_f_X12_under N r x1 x2 U g)), (t_under hN hr h.1.1 x1 x2 e g).2⟩
theorem u_rounds {N : Nat} {s : CS} {r : RS} {U : Int32 × RS} (h : TLP s r) (x1 x2 : Int32) (g : f_X12_rounds N r x1 x2 = some U) : TLP s U.2 :=
  h.of (h.1.1.of rfl rfl rfl rfl (kr_f_X12_rounds N r x1 x2 U g)) rfl rfl (kr7_f_X12_rounds N r x1 x2 U g) (kr9_f_X12_rounds N r x1 x2 U g) (i2_le (kr_f_X12_rounds N r x1 x2 U g).2.2.2) rfl (krc5_f_X12_rounds N r x1 x2 U g) (i3_le (kr_f_X12_rounds N r x1 x2 U g).1) (h.2.2.2.1.of rfl (krs6_f_X12_rounds N r x1 x2 U g)) (h.2.2.2.2.of rfl (krn6_f_X12_rounds N r x1 x2 U g))
end
