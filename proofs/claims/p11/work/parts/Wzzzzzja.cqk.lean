/-! the code: what the calls leave -/
abbrev QLT : Type := (Nat → Int32) × (Nat → Int32) × (Nat → Int32) × Int32
/-! the class: what the plain calls leave -/
def pQl (s : CS) : QLT := (CS.a s 15, CS.a s 16, CS.a s 17, CS.i s 23)
def Kql {α : Type} (v : QLT) (t : Option (α × CS)) : Prop := ∀ R, t = some R → pQl R.2 = v
theorem kql_some {α : Type} {v : QLT} {r : α × CS} (h : pQl r.2 = v) : Kql v (some r) := fun R q => by
  cases q
  exact h
theorem kql_none {α : Type} {v : QLT} : Kql v (none : Option (α × CS)) := fun R q => by cases q
theorem kql_ite {α : Type} {v : QLT} {c : Prop} [Decidable c] {x y : Option (α × CS)} (hx : Kql v x) (hy : Kql v y) : Kql v (if c then x else y) := by
  by_cases h : c
  · rw [if_pos h]; exact hx
  · rw [if_neg h]; exact hy
theorem kql_bind {α β : Type} {v : QLT} {x : Option (α × CS)} {g : α × CS → Option (β × CS)} (hx : Kql v x) (hk : ∀ p : α × CS, Kql (pQl p.2) (g p)) : Kql v (x.bind g) := by
  intro R h
  obtain ⟨p, h1, h2⟩ := hf_bind h
  exact (hk p R h2).trans (hx p h1)
theorem kql_oc {α β : Type} {v : QLT} {r : Option α} {x : Option (β × CS)} {g : α → Option (β × CS)} (hx : Kql v x) (hf : ∀ a, Kql v (g a)) : Kql v (oCase r x g) := by
  cases r with
  | none => exact hx
  | some a => exact hf a
theorem kql_le {α : Type} {v w : QLT} {t : Option (α × CS)} (h : v = w) (ht : Kql v t) : Kql w t := by rw [← h]; exact ht
theorem kQ_X10_isKind_16 (N : Nat) (σ : CS) : Kql (pQl σ) (f_X10_isKind_16 N σ ) := by
  unfold f_X10_isKind_16
  exact (kql_some (rfl))
theorem kQ_X10_isKind (N : Nat) (σ : CS) (x1 : Int32) : Kql (pQl σ) (f_X10_isKind N σ x1) := by
  unfold f_X10_isKind
  exact (kql_ite (kQ_X10_isKind_16 N σ) (kql_ite (kQ_X10_isKind_16 N σ) (kql_some (rfl))))
theorem kQ_X10_isUnder_38 (N : Nat) (σ : CS) : Kql (pQl σ) (f_X10_isUnder_38 N σ ) := by
  unfold f_X10_isUnder_38
  exact (kql_some (rfl))
theorem kQb_X10_isUnder_5 (N : Nat) (K : CS → Int32 → Int32 → Int32 → Option (Int32 × CS)) (hMK : ∀ (σ : CS) (x2 : Int32) (x3 : Int32) (x4 : Int32), Kql (pQl σ) (K σ x2 x3 x4)) (σ : CS) (x2 : Int32) (x3 : Int32) (x4 : Int32) : Kql (pQl σ) (b_X10_isUnder_5 N K σ x2 x3 x4) := by
  unfold b_X10_isUnder_5
  exact (kql_ite (kQ_X10_isUnder_38 N σ) (kql_ite (kQ_X10_isUnder_38 N σ) (kql_ite (kql_some (rfl)) (hMK σ x2 (gAt (σ.a 9) 12 x3) (x4 + 1)))))
theorem kQ_X10_isUnder_5 (N : Nat) : ∀ (n : Nat) (σ : CS) (x2 : Int32) (x3 : Int32) (x4 : Int32), Kql (pQl σ) (f_X10_isUnder_5 N n σ x2 x3 x4)
  | 0, _, _, _, _ => kql_none
  | n+1, σ, x2, x3, x4 => kQb_X10_isUnder_5 N (f_X10_isUnder_5 N n) (fun σ x2 x3 x4 => kQ_X10_isUnder_5 N n σ x2 x3 x4) σ x2 x3 x4
theorem kQ_X10_isUnder (N : Nat) (σ : CS) (x1 : Int32) (x2 : Int32) : Kql (pQl σ) (f_X10_isUnder N σ x1 x2) := by
  unfold f_X10_isUnder
  exact (kQ_X10_isUnder_5 N N σ x2 x1 0)
theorem kQ_X3_lastThrown (N : Nat) (σ : CS) : Kql (pQl σ) (f_X3_lastThrown N σ) := by
  unfold f_X3_lastThrown
  exact (kql_ite (kql_oc (kql_some (rfl)) (fun a3 => (kql_some (rfl)))) (kql_some (rfl)))
theorem kQ_X3_answer (N : Nat) (σ : CS) (x1 : Int32) : Kql (pQl σ) (f_X3_answer N σ x1) := by
  unfold f_X3_answer
  exact (kql_bind (kQ_X3_lastThrown N σ) (fun p1 => (kql_oc (kql_ite (kql_some (rfl)) (kql_ite (kql_some (rfl)) (kql_ite (kql_ite (kql_some (rfl)) (kql_some (rfl))) (kql_ite (kql_some (rfl)) (kql_ite (kql_some (rfl)) (kql_ite (kql_some (rfl)) (kql_some (rfl)))))))) (fun a6 => (kql_ite (kql_some (rfl)) (kql_ite (kql_some (rfl)) (kql_ite (kql_ite (kql_some (rfl)) (kql_some (rfl))) (kql_ite (kql_ite (kql_some (rfl)) kql_none) (kql_ite (kql_ite (kql_some (rfl)) kql_none) (kql_ite (kql_ite (kql_some (rfl)) kql_none) (kql_some (rfl))))))))))))
theorem kQ_X10_isFull (N : Nat) (σ : CS) : Kql (pQl σ) (f_X10_isFull N σ) := by
  unfold f_X10_isFull
  exact (kql_ite (kql_some (rfl)) (kql_some (rfl)))
theorem kQ_X10_addKind (N : Nat) (σ : CS) (x1 : Int32) : Kql (pQl σ) (f_X10_addKind N σ x1) := by
  unfold f_X10_addKind
  exact (kql_some (rfl))
theorem kQ_X10_tellResource (N : Nat) (σ : CS) (x1 : Int32) (x2 : Int32) (x3 : Int32) (x4 : Int32) : Kql (pQl σ) (f_X10_tellResource N σ x1 x2 x3 x4) := by
  unfold f_X10_tellResource
  exact (kql_some (rfl))
theorem kQ_X11_cut_12 (N : Nat) (σ : CS) : Kql (pQl σ) (f_X11_cut_12 N σ ) := by
  unfold f_X11_cut_12
  exact (kql_some (rfl))
theorem kQ_X11_cut (N : Nat) (σ : CS) (x1 : Int32) : Kql (pQl σ) (f_X11_cut N σ x1) := by
  unfold f_X11_cut
  exact (kql_ite (kQ_X11_cut_12 N σ) (kql_ite (kql_some (rfl)) (kQ_X11_cut_12 N σ)))
theorem kQ_X11_kind (N : Nat) (σ : CS) (x1 : Int32) : Kql (pQl σ) (f_X11_kind N σ x1) := by
  unfold f_X11_kind
  exact (kql_bind (kQ_X10_isKind N σ x1) (fun p1 => (kql_ite (kql_some (rfl)) (kql_bind (kQ_X10_isFull N p1.2) (fun p6 => (kql_ite (kql_bind (kQ_X10_addKind N p6.2 x1) (fun p11 => (kql_some (rfl)))) (kql_some (rfl))))))))
theorem kQ_X11_isKindOrNothing_16 (N : Nat) (σ : CS) : Kql (pQl σ) (f_X11_isKindOrNothing_16 N σ ) := by
  unfold f_X11_isKindOrNothing_16
  exact (kql_some (rfl))
theorem kQ_X11_isKindOrNothing (N : Nat) (σ : CS) (x1 : Int32) : Kql (pQl σ) (f_X11_isKindOrNothing N σ x1) := by
  unfold f_X11_isKindOrNothing
  exact (kql_ite (kQ_X11_isKindOrNothing_16 N σ) (kql_bind (kQ_X10_isKind N σ x1) (fun p2 => (kql_ite (kql_some (rfl)) (kQ_X11_isKindOrNothing_16 N p2.2)))))
theorem kQ_X11_resource_19 (N : Nat) (σ : CS) : Kql (pQl σ) (f_X11_resource_19 N σ ) := by
  unfold f_X11_resource_19
  exact (kql_some (rfl))
theorem kQ_X11_resource_38 (N : Nat) (σ : CS) : Kql (pQl σ) (f_X11_resource_38 N σ ) := by
  unfold f_X11_resource_38
  exact (kql_some (rfl))
theorem kQ_X11_resource (N : Nat) (σ : CS) (x1 : Int32) (x2 : Int32) (x3 : Int32) (x4 : Int32) : Kql (pQl σ) (f_X11_resource N σ x1 x2 x3 x4) := by
  unfold f_X11_resource
  exact (kql_ite (kQ_X11_resource_19 N σ) (kql_ite (kQ_X11_resource_19 N σ) (kql_ite (kQ_X11_resource_19 N σ) (kql_ite (kql_bind (kQ_X11_isKindOrNothing N σ x3) (fun p5 => (kql_ite (kQ_X11_resource_38 N p5.2) (kql_bind (kQ_X11_isKindOrNothing N p5.2 x4) (fun p10 => (kql_ite (kQ_X11_resource_38 N p10.2) (kql_bind (kQ_X10_tellResource N p10.2 x1 x2 x3 x4) (fun p15 => (kql_some (rfl)))))))))) (kQ_X11_resource_19 N σ)))))
theorem kQ_X11_asserts_16 (N : Nat) (σ : CS) (x1 : Int32) (x2 : Int32) : Kql (pQl σ) (f_X11_asserts_16 N σ x1 x2) := by
  unfold f_X11_asserts_16
  exact (kql_ite (kql_some (rfl)) kql_none)
theorem kQ_X11_asserts (N : Nat) (σ : CS) (x1 : Int32) : Kql (pQl σ) (f_X11_asserts N σ x1) := by
  unfold f_X11_asserts
  exact (kql_ite (kQ_X11_asserts_16 N σ x1 0) (kQ_X11_asserts_16 N σ x1 1))
theorem kQ_X11_fault (N : Nat) (σ : CS) : Kql (pQl σ) (f_X11_fault N σ) := by
  unfold f_X11_fault
  exact (kql_some (rfl))
theorem kQ_X11_program_9 (N : Nat) (σ : CS) : Kql (pQl σ) (f_X11_program_9 N σ ) := by
  unfold f_X11_program_9
  exact (kql_some (rfl))
theorem kQ_X11_program (N : Nat) (σ : CS) (x1 : Int32) : Kql (pQl σ) (f_X11_program N σ x1) := by
  unfold f_X11_program
  exact (kql_ite (kQ_X11_program_9 N σ) (kql_ite (kql_ite (kql_some (rfl)) (kql_ite (kql_some (rfl)) (kql_ite (kql_ite (kql_some (rfl)) (kql_some (rfl))) (kql_ite (kql_some (rfl)) (kql_some (rfl)))))) (kQ_X11_program_9 N σ)))
theorem kQ_X11_ran_10 (N : Nat) (σ : CS) : Kql (pQl σ) (f_X11_ran_10 N σ ) := by
  unfold f_X11_ran_10
  exact (kql_some (rfl))
theorem kQ_X11_ran (N : Nat) (σ : CS) (x1 : Int32) : Kql (pQl σ) (f_X11_ran N σ x1) := by
  unfold f_X11_ran
  exact (kql_ite (kQ_X11_ran_10 N σ) (kql_ite (kql_ite (kql_some (rfl)) (kql_bind (kQ_X3_answer N σ x1) (fun p4 => (kql_some (rfl))))) (kQ_X11_ran_10 N σ)))
theorem kQ_X11_trace_31 (N : Nat) (σ : CS) : Kql (pQl σ) (f_X11_trace_31 N σ ) := by
  unfold f_X11_trace_31
  exact (kql_some (rfl))
theorem kQ_X11_trace (N : Nat) (σ : CS) (x1 : Int32) (x2 : Int32) : Kql (pQl σ) (f_X11_trace N σ x1 x2) := by
  unfold f_X11_trace
  exact (kql_ite (kQ_X11_trace_31 N σ) (kql_ite (kQ_X11_trace_31 N σ) (kql_ite (kQ_X11_trace_31 N σ) (kql_ite (kQ_X11_trace_31 N σ) (kql_ite (kql_some (rfl)) (kQ_X11_trace_31 N σ))))))
theorem kQ_X11_suppressed_44 (N : Nat) (σ : CS) : Kql (pQl σ) (f_X11_suppressed_44 N σ ) := by
  unfold f_X11_suppressed_44
  exact (kql_some (rfl))
theorem kQ_X11_suppressed_19 (N : Nat) (σ : CS) (x1 : Int32) (x2 : Int32) (x3 : Option Nat) : Kql (pQl σ) (f_X11_suppressed_19 N σ x1 x2 x3) := by
  unfold f_X11_suppressed_19
  exact (kql_oc (kQ_X11_suppressed_44 N σ) (fun a3 => (kql_ite (kQ_X11_suppressed_44 N σ) (kql_ite (kql_ite (kQ_X11_suppressed_44 N σ) (kql_ite (kQ_X11_suppressed_44 N σ) (kql_ite (kql_ite (kql_ite (kql_some (rfl)) kql_none) (kql_ite (kql_some (rfl)) kql_none)) (kQ_X11_suppressed_44 N σ)))) kql_none))))
theorem kQ_X11_suppressed (N : Nat) (σ : CS) (x1 : Int32) (x2 : Int32) : Kql (pQl σ) (f_X11_suppressed N σ x1 x2) := by
  unfold f_X11_suppressed
  exact (kql_ite (kQ_X11_suppressed_19 N σ x1 x2 none) (kql_bind (kQ_X3_lastThrown N σ) (fun p16 => (kql_oc (kQ_X11_suppressed_19 N p16.2 x1 x2 none) (fun a21 => (kQ_X11_suppressed_19 N p16.2 x1 x2 (some a21)))))))
theorem kQ_X11_under_22 (N : Nat) (σ : CS) : Kql (pQl σ) (f_X11_under_22 N σ ) := by
  unfold f_X11_under_22
  exact (kql_some (rfl))
theorem kQ_X11_under (N : Nat) (σ : CS) (x1 : Int32) (x2 : Int32) : Kql (pQl σ) (f_X11_under N σ x1 x2) := by
  unfold f_X11_under
  exact (kql_bind (kQ_X10_isKind N σ x1) (fun p1 => (kql_ite (kQ_X11_under_22 N p1.2) (kql_bind (kQ_X10_isKind N p1.2 x2) (fun p6 => (kql_ite (kQ_X11_under_22 N p6.2) (kql_bind (kQ_X10_isUnder N p6.2 x1 x2) (fun p11 => (kql_ite (kql_some (rfl)) (kql_some (rfl)))))))))))
abbrev RQT : Type := Int32 × Int32 × (Nat → Int32) × (Nat → Int32) × (Nat → Int32) × (Nat → Int32) × (Nat → Int32) × (Nat → Int32) × (Nat → Int32) × (Nat → Int32) × (Nat → Int32) × (Nat → Int32) × (Nat → Int32) × (Nat → Int32) × (Nat → Int32) × (Nat → Int32) × (Nat → Int32) × (Nat → Int32) × (Nat → Int32)
def pRq (s : RS) : RQT := (s.i 18, s.i 20, s.a 21, s.a 22, s.a 23, s.a 24, s.a 25, s.a 26, s.a 27, s.a 28, s.a 29, s.a 30, s.a 31, s.a 32, s.a 33, s.a 34, s.a 35, s.a 36, s.a 37)
def KSc5 (s r : RS) : Prop := pRq r = pRq s
theorem KSc5.tr {s r u : RS} (h : KSc5 s r) (g : KSc5 r u) : KSc5 s u := Eq.trans g h
def KRc5 {α : Type} (s : RS) (t : Option (α × RS)) : Prop := ∀ R, t = some R → KSc5 s R.2
def KVc5 (s : RS) (t : Option RS) : Prop := ∀ R, t = some R → KSc5 s R
theorem krc5_some {α : Type} {s : RS} {r : α × RS} (h : KSc5 s r.2) : KRc5 s (some r) := fun R q => by
  cases q
  exact h
theorem kvc5_some {s r : RS} (h : KSc5 s r) : KVc5 s (some r) := fun R q => by
  cases q
  exact h
theorem krc5_none {α : Type} {s : RS} : KRc5 s (none : Option (α × RS)) := fun R q => by cases q
theorem kvc5_none {s : RS} : KVc5 s (none : Option RS) := fun R q => by cases q
theorem krc5_ite {α : Type} {s : RS} {c : Prop} [Decidable c] {x y : Option (α × RS)} (hx : KRc5 s x) (hy : KRc5 s y) : KRc5 s (if c then x else y) := by
  by_cases h : c
  · rw [if_pos h]; exact hx
  · rw [if_neg h]; exact hy
theorem kvc5_ite {s : RS} {c : Prop} [Decidable c] {x y : Option RS} (hx : KVc5 s x) (hy : KVc5 s y) : KVc5 s (if c then x else y) := by
  by_cases h : c
  · rw [if_pos h]; exact hx
  · rw [if_neg h]; exact hy
theorem krc5_st {α : Type} {s r : RS} {t : Option (α × RS)} (h : KSc5 s r) (g : KRc5 r t) : KRc5 s t := fun R q => h.tr (g R q)
theorem kvc5_st {s r : RS} {t : Option RS} (h : KSc5 s r) (g : KVc5 r t) : KVc5 s t := fun R q => h.tr (g R q)
theorem krc5_bind {α β : Type} {s : RS} {x : Option (α × RS)} {k : α × RS → Option (β × RS)} (hx : KRc5 s x) (hk : ∀ p : α × RS, KRc5 p.2 (k p)) : KRc5 s (x.bind k) := by
  intro R h
  obtain ⟨p, h1, h2⟩ := hf_bind h
  exact (hx p h1).tr (hk p R h2)
theorem krc5_bindv {β : Type} {s : RS} {x : Option RS} {k : RS → Option (β × RS)} (hx : KVc5 s x) (hk : ∀ p : RS, KRc5 p (k p)) : KRc5 s (x.bind k) := by
  intro R h
  obtain ⟨p, h1, h2⟩ := hf_bind h
  exact (hx p h1).tr (hk p R h2)
theorem kvc5_bind {α : Type} {s : RS} {x : Option (α × RS)} {k : α × RS → Option RS} (hx : KRc5 s x) (hk : ∀ p : α × RS, KVc5 p.2 (k p)) : KVc5 s (x.bind k) := by
  intro R h
  obtain ⟨p, h1, h2⟩ := hf_bind h
  exact (hx p h1).tr (hk p R h2)
theorem kvc5_bindv {s : RS} {x : Option RS} {k : RS → Option RS} (hx : KVc5 s x) (hk : ∀ p : RS, KVc5 p (k p)) : KVc5 s (x.bind k) := by
  intro R h
  obtain ⟨p, h1, h2⟩ := hf_bind h
  exact (hx p h1).tr (hk p R h2)
theorem krc5_f_X12_in_14 (N : Nat) (σ : RS) : KRc5 σ (f_X12_in_14 N σ) := by
  unfold f_X12_in_14
  exact (krc5_some rfl)
theorem krc5_f_X12_in (N : Nat) (σ : RS) (x0 : Int32) (x1 : Int32) (x2 : Int32) : KRc5 σ (f_X12_in N σ x0 x1 x2) := by
  unfold f_X12_in
  exact (krc5_ite (krc5_st rfl (krc5_f_X12_in_14 N σ)) (krc5_ite (krc5_st rfl (krc5_f_X12_in_14 N σ)) (krc5_some rfl)))
theorem krc5_f_X12_isUnder_21 (N : Nat) (σ : RS) (x2 : Int32) (x3 : Int32) : KRc5 σ (f_X12_isUnder_21 N σ x2 x3) := by
  unfold f_X12_isUnder_21
  exact (krc5_ite (krc5_some rfl) (krc5_some rfl))
theorem krc5_b_X12_isUnder_2 (N : Nat) (K : RS → Int32 → Int32 → Option (Int32 × RS)) (hK : ∀ (σ : RS) (y0 : Int32) (y1 : Int32), KRc5 σ (K σ y0 y1)) (σ : RS) (x2 : Int32) (x3 : Int32) : KRc5 σ (b_X12_isUnder_2 N K σ x2 x3) := by
  unfold b_X12_isUnder_2
  exact (krc5_ite (krc5_st rfl (krc5_f_X12_isUnder_21 N σ x2 x3)) (krc5_ite (krc5_st rfl (krc5_f_X12_isUnder_21 N σ x2 x3)) (krc5_ite (krc5_st rfl (hK σ x2 (σ.a 4 ((x3 : Int32).toNatClampNeg)))) krc5_none)))
theorem krc5_f_X12_isUnder_2 (N : Nat) : ∀ (n : Nat) (σ : RS) (y0 : Int32) (y1 : Int32), KRc5 σ (f_X12_isUnder_2 N n σ y0 y1)
  | 0, _, _, _ => krc5_none
  | n+1, σ, y0, y1 => krc5_b_X12_isUnder_2 N (f_X12_isUnder_2 N n) (fun σ y0 y1 => krc5_f_X12_isUnder_2 N n σ y0 y1) σ y0 y1
theorem krc5_f_X12_isUnder (N : Nat) (σ : RS) (x1 : Int32) (x2 : Int32) : KRc5 σ (f_X12_isUnder N σ x1 x2) := by
  unfold f_X12_isUnder
  exact (krc5_st rfl (krc5_f_X12_isUnder_2 N N σ x2 x1))
theorem krc5_f_X12_under_33 (N : Nat) (σ : RS) : KRc5 σ (f_X12_under_33 N σ) := by
  unfold f_X12_under_33
  exact (krc5_some rfl)
theorem krc5_f_X12_under (N : Nat) (σ : RS) (x1 : Int32) (x2 : Int32) : KRc5 σ (f_X12_under N σ x1 x2) := by
  unfold f_X12_under
  exact (krc5_bind (krc5_st rfl (krc5_f_X12_in N (RS.setI σ 0 0) x1 0 ((σ.i 3) - 1))) (fun p1 => (krc5_ite (krc5_st rfl (krc5_f_X12_under_33 N p1.2)) (krc5_bind (krc5_st rfl (krc5_f_X12_in N p1.2 x2 0 ((p1.2.i 3) - 1))) (fun p4 => (krc5_ite (krc5_st rfl (krc5_f_X12_under_33 N p4.2)) (krc5_bind (krc5_st rfl (krc5_f_X12_isUnder N p4.2 x1 x2)) (fun p7 => (krc5_ite (krc5_some rfl) (krc5_some rfl))))))))))
theorem krc5_f_X12_resource_53 (N : Nat) (σ : RS) : KRc5 σ (f_X12_resource_53 N σ) := by
  unfold f_X12_resource_53
  exact (krc5_some rfl)
theorem krc5_f_X12_resource_71 (N : Nat) (σ : RS) (x1 : Int32) (x3 : Int32) (x4 : Int32) : KRc5 σ (f_X12_resource_71 N σ x1 x3 x4) := by
  unfold f_X12_resource_71
  exact (krc5_ite (krc5_some rfl) krc5_none)
theorem krc5_f_X12_resource (N : Nat) (σ : RS) (x1 : Int32) (x2 : Int32) (x3 : Int32) (x4 : Int32) : KRc5 σ (f_X12_resource N σ x1 x2 x3 x4) := by
  unfold f_X12_resource
  exact (krc5_bind (krc5_st rfl (krc5_f_X12_in N (RS.setI σ 0 0) x1 0 7)) (fun p1 => (krc5_ite (krc5_st rfl (krc5_f_X12_resource_53 N p1.2)) (krc5_bind (krc5_st rfl (krc5_f_X12_in N p1.2 x2 0 1)) (fun p4 => (krc5_ite (krc5_st rfl (krc5_f_X12_resource_53 N p4.2)) (krc5_bind (krc5_st rfl (krc5_f_X12_in N p4.2 x3 (-1) ((p4.2.i 3) - 1))) (fun p7 => (krc5_ite (krc5_st rfl (krc5_f_X12_resource_53 N p7.2)) (krc5_bind (krc5_st rfl (krc5_f_X12_in N p7.2 x4 (-1) ((p7.2.i 3) - 1))) (fun p10 => (krc5_ite (krc5_st rfl (krc5_f_X12_resource_53 N p10.2)) (krc5_ite (krc5_ite (krc5_st rfl (krc5_f_X12_resource_71 N (RS.setA p10.2 5 ((x1 : Int32).toNatClampNeg) 1) x1 x3 x4)) krc5_none) (krc5_ite (krc5_st rfl (krc5_f_X12_resource_71 N (RS.setA p10.2 5 ((x1 : Int32).toNatClampNeg) 0) x1 x3 x4)) krc5_none))))))))))))))
theorem krc5_f_X12_fault (N : Nat) (σ : RS) : KRc5 σ (f_X12_fault N σ) := by
  unfold f_X12_fault
  exact (krc5_some rfl)
theorem krc5_f_X12_program (N : Nat) (σ : RS) (x1 : Int32) : KRc5 σ (f_X12_program N σ x1) := by
  unfold f_X12_program
  exact (krc5_bind (krc5_st rfl (krc5_f_X12_in N (RS.setI σ 0 0) x1 0 3)) (fun p1 => (krc5_ite (krc5_some rfl) (krc5_ite (krc5_some rfl) (krc5_ite (krc5_some rfl) (krc5_ite (krc5_ite (krc5_some rfl) (krc5_some rfl)) (krc5_ite (krc5_some rfl) (krc5_some rfl))))))))
theorem krc5_f_X12_row (N : Nat) (σ : RS) (x1 : Int32) (x2 : Int32) : KVc5 σ (f_X12_row N σ x1 x2) := by
  unfold f_X12_row
  exact (kvc5_ite (kvc5_some rfl) (kvc5_ite (kvc5_some rfl) kvc5_none))
theorem krc5_f_X12_record (N : Nat) (σ : RS) (x1 : Int32) (x2 : Int32) (x3 : Int32) (x4 : Int32) : KRc5 σ (f_X12_record N σ x1 x2 x3 x4) := by
  unfold f_X12_record
  exact (krc5_ite (krc5_some rfl) krc5_none)
theorem krc5_f_X12_put (N : Nat) (σ : RS) (x1 : Int32) : KVc5 σ (f_X12_put N σ x1) := by
  unfold f_X12_put
  exact (kvc5_ite (kvc5_some rfl) kvc5_none)
theorem krc5_f_X12_take (N : Nat) (σ : RS) : KRc5 σ (f_X12_take N σ) := by
  unfold f_X12_take
  exact (krc5_ite (krc5_some rfl) krc5_none)
theorem krc5_f_X12_raise_24 (N : Nat) (σ : RS) (x1 : Int32) (x2 : Int32) : KVc5 σ (f_X12_raise_24 N σ x1 x2) := by
  unfold f_X12_raise_24
  exact (kvc5_ite (kvc5_some rfl) kvc5_none)
theorem krc5_f_X12_raise (N : Nat) (σ : RS) (x1 : Int32) (x2 : Int32) : KVc5 σ (f_X12_raise N σ x1 x2) := by
  unfold f_X12_raise
  exact (kvc5_ite (kvc5_st rfl (krc5_f_X12_raise_24 N (RS.setI σ 114 3199) x1 x2)) (kvc5_st rfl (krc5_f_X12_raise_24 N (RS.setI σ 114 (σ.i 85)) x1 x2)))
theorem krc5_b_X12_closeAll_0 (N : Nat) (K : RS → Int32 → Option (RS)) (hK : ∀ (σ : RS) (y0 : Int32), KVc5 σ (K σ y0)) (σ : RS) (x1 : Int32) : KVc5 σ (b_X12_closeAll_0 N K σ x1) := by
  unfold b_X12_closeAll_0
  exact (kvc5_ite (kvc5_ite (kvc5_some rfl) (kvc5_ite (kvc5_bindv (kvc5_st rfl (krc5_f_X12_row N (RS.setI σ 95 ((σ.i 95) - 1)) 2 (σ.a 96 ((((σ.i 95) - 1) : Int32).toNatClampNeg)))) (fun p4 => (kvc5_ite (kvc5_ite (kvc5_st rfl (hK p4 x1)) (kvc5_ite (kvc5_ite (kvc5_ite (kvc5_st rfl (hK p4 x1)) (kvc5_ite (kvc5_st rfl (hK (RS.setA (RS.setA (RS.setA p4 89 ((((8 * (p4.i 114)) + (p4.a 88 (((p4.i 114) : Int32).toNatClampNeg))) : Int32).toNatClampNeg) ((p4.a 7 (((σ.a 96 ((((σ.i 95) - 1) : Int32).toNatClampNeg)) : Int32).toNatClampNeg)) - 1)) 90 ((((8 * (p4.i 114)) + (p4.a 88 (((p4.i 114) : Int32).toNatClampNeg))) : Int32).toNatClampNeg) (σ.a 96 ((((σ.i 95) - 1) : Int32).toNatClampNeg))) 88 (((p4.i 114) : Int32).toNatClampNeg) ((p4.a 88 (((p4.i 114) : Int32).toNatClampNeg)) + 1)) x1)) kvc5_none)) kvc5_none) (kvc5_bindv (kvc5_st rfl (krc5_f_X12_raise N p4 ((p4.a 7 (((σ.a 96 ((((σ.i 95) - 1) : Int32).toNatClampNeg)) : Int32).toNatClampNeg)) - 1) (σ.a 96 ((((σ.i 95) - 1) : Int32).toNatClampNeg)))) (fun p14 => (kvc5_st rfl (hK p14 x1)))))) kvc5_none))) kvc5_none)) kvc5_none)
theorem krc5_f_X12_closeAll_0 (N : Nat) : ∀ (n : Nat) (σ : RS) (y0 : Int32), KVc5 σ (f_X12_closeAll_0 N n σ y0)
  | 0, _, _ => kvc5_none
  | n+1, σ, y0 => krc5_b_X12_closeAll_0 N (f_X12_closeAll_0 N n) (fun σ y0 => krc5_f_X12_closeAll_0 N n σ y0) σ y0
theorem krc5_f_X12_closeAll (N : Nat) (σ : RS) (x1 : Int32) : KVc5 σ (f_X12_closeAll N σ x1) := by
  unfold f_X12_closeAll
  exact (kvc5_st rfl (krc5_f_X12_closeAll_0 N N σ x1))
theorem krc5_f_X12_finals (N : Nat) (σ : RS) (x1 : Int32) : KRc5 σ (f_X12_finals N σ x1) := by
  unfold f_X12_finals
  exact (krc5_ite (krc5_ite (krc5_ite (krc5_some rfl) (krc5_some rfl)) krc5_none) krc5_none)
theorem krc5_b_X12_isCaught_12 (N : Nat) (K : RS → Int32 → Int32 → Option (Int32 × RS)) (hK : ∀ (σ : RS) (y0 : Int32) (y1 : Int32), KRc5 σ (K σ y0 y1)) (σ : RS) (x1 : Int32) (x2 : Int32) : KRc5 σ (b_X12_isCaught_12 N K σ x1 x2) := by
  unfold b_X12_isCaught_12
  exact (krc5_ite (krc5_some rfl) (krc5_ite (krc5_ite (krc5_bind (krc5_st rfl (krc5_f_X12_isUnder N σ (σ.a 86 (((σ.i 114) : Int32).toNatClampNeg)) (σ.a 34 ((x2 : Int32).toNatClampNeg)))) (fun p6 => (krc5_ite (krc5_st rfl (hK p6.2 x1 (p6.2.a 37 ((x2 : Int32).toNatClampNeg)))) (krc5_ite (krc5_ite (krc5_some rfl) krc5_none) krc5_none)))) krc5_none) krc5_none))
theorem krc5_f_X12_isCaught_12 (N : Nat) : ∀ (n : Nat) (σ : RS) (y0 : Int32) (y1 : Int32), KRc5 σ (f_X12_isCaught_12 N n σ y0 y1)
  | 0, _, _, _ => krc5_none
  | n+1, σ, y0, y1 => krc5_b_X12_isCaught_12 N (f_X12_isCaught_12 N n) (fun σ y0 y1 => krc5_f_X12_isCaught_12 N n σ y0 y1) σ y0 y1
theorem krc5_f_X12_isCaught (N : Nat) (σ : RS) (x1 : Int32) : KRc5 σ (f_X12_isCaught N σ x1) := by
  unfold f_X12_isCaught
  exact (krc5_ite (krc5_ite (krc5_st rfl (krc5_f_X12_isCaught_12 N N σ x1 (σ.a 30 (((σ.a 101 ((x1 : Int32).toNatClampNeg)) : Int32).toNatClampNeg)))) krc5_none) krc5_none)
theorem krc5_b_X12_leave_0 (N : Nat) (K : RS → Option (RS)) (hK : ∀ (σ : RS), KVc5 σ (K σ)) (σ : RS) : KVc5 σ (b_X12_leave_0 N K σ) := by
  unfold b_X12_leave_0
  exact (kvc5_ite (kvc5_ite (kvc5_some rfl) (kvc5_ite (kvc5_ite (kvc5_bindv (kvc5_st rfl (krc5_f_X12_row N σ 4 (σ.a 101 ((((σ.i 99) - 1) : Int32).toNatClampNeg)))) (fun p27 => (kvc5_ite (kvc5_st rfl (hK (RS.setI (RS.setA p27 91 (((p27.a 101 ((((σ.i 99) - 1) : Int32).toNatClampNeg)) : Int32).toNatClampNeg) ((p27.a 91 (((p27.a 101 ((((σ.i 99) - 1) : Int32).toNatClampNeg)) : Int32).toNatClampNeg)) - 1)) 99 ((p27.i 99) - 1)))) kvc5_none))) (kvc5_ite (kvc5_st rfl (hK (RS.setI (RS.setI σ 97 (σ.a 101 ((((σ.i 99) - 1) : Int32).toNatClampNeg))) 99 ((σ.i 99) - 1)))) (kvc5_ite (kvc5_ite (kvc5_bindv (kvc5_st rfl (krc5_f_X12_closeAll N σ ((σ.i 99) - 1))) (fun p13 => (kvc5_ite (kvc5_bind (krc5_st rfl (krc5_f_X12_isCaught N p13 ((σ.i 99) - 1))) (fun p20 => (kvc5_ite (kvc5_ite (kvc5_st rfl (hK (RS.setI p20.2 99 ((p20.2.i 99) - 1)))) (kvc5_bind (krc5_st rfl (krc5_f_X12_finals N p20.2 ((σ.i 99) - 1))) (fun p24 => (kvc5_ite (kvc5_st rfl (hK (RS.setI p24.2 99 ((p24.2.i 99) - 1)))) (kvc5_some rfl))))) (kvc5_some rfl)))) (kvc5_ite (kvc5_st rfl (hK (RS.setI p13 99 ((p13.i 99) - 1)))) (kvc5_bind (krc5_st rfl (krc5_f_X12_finals N p13 ((σ.i 99) - 1))) (fun p17 => (kvc5_ite (kvc5_st rfl (hK (RS.setI p17.2 99 ((p17.2.i 99) - 1)))) (kvc5_some rfl)))))))) (kvc5_ite (kvc5_st rfl (hK (RS.setI σ 99 ((σ.i 99) - 1)))) (kvc5_bind (krc5_st rfl (krc5_f_X12_finals N σ ((σ.i 99) - 1))) (fun p10 => (kvc5_ite (kvc5_st rfl (hK (RS.setI p10.2 99 ((p10.2.i 99) - 1)))) (kvc5_some rfl)))))) (kvc5_st rfl (hK (RS.setI σ 99 ((σ.i 99) - 1))))))) kvc5_none)) (kvc5_ite (kvc5_ite (kvc5_ite (kvc5_bindv (kvc5_st rfl (krc5_f_X12_put N (RS.setI (RS.setI σ 99 ((σ.i 99) - 1)) 93 (σ.a 104 ((((σ.i 99) - 1) : Int32).toNatClampNeg))) (σ.i 113))) (fun p64 => (kvc5_ite (kvc5_ite (kvc5_some rfl) kvc5_none) kvc5_none))) kvc5_none) (kvc5_ite (kvc5_ite (kvc5_bindv (kvc5_st rfl (krc5_f_X12_row N σ 4 (σ.a 101 ((((σ.i 99) - 1) : Int32).toNatClampNeg)))) (fun p91 => (kvc5_ite (kvc5_st rfl (hK (RS.setI (RS.setA p91 91 (((p91.a 101 ((((σ.i 99) - 1) : Int32).toNatClampNeg)) : Int32).toNatClampNeg) ((p91.a 91 (((p91.a 101 ((((σ.i 99) - 1) : Int32).toNatClampNeg)) : Int32).toNatClampNeg)) - 1)) 99 ((p91.i 99) - 1)))) kvc5_none))) (kvc5_ite (kvc5_st rfl (hK (RS.setI (RS.setI σ 97 (σ.a 101 ((((σ.i 99) - 1) : Int32).toNatClampNeg))) 99 ((σ.i 99) - 1)))) (kvc5_ite (kvc5_ite (kvc5_bindv (kvc5_st rfl (krc5_f_X12_closeAll N σ ((σ.i 99) - 1))) (fun p77 => (kvc5_ite (kvc5_bind (krc5_st rfl (krc5_f_X12_isCaught N p77 ((σ.i 99) - 1))) (fun p84 => (kvc5_ite (kvc5_ite (kvc5_st rfl (hK (RS.setI p84.2 99 ((p84.2.i 99) - 1)))) (kvc5_bind (krc5_st rfl (krc5_f_X12_finals N p84.2 ((σ.i 99) - 1))) (fun p88 => (kvc5_ite (kvc5_st rfl (hK (RS.setI p88.2 99 ((p88.2.i 99) - 1)))) (kvc5_some rfl))))) (kvc5_some rfl)))) (kvc5_ite (kvc5_st rfl (hK (RS.setI p77 99 ((p77.i 99) - 1)))) (kvc5_bind (krc5_st rfl (krc5_f_X12_finals N p77 ((σ.i 99) - 1))) (fun p81 => (kvc5_ite (kvc5_st rfl (hK (RS.setI p81.2 99 ((p81.2.i 99) - 1)))) (kvc5_some rfl)))))))) (kvc5_ite (kvc5_st rfl (hK (RS.setI σ 99 ((σ.i 99) - 1)))) (kvc5_bind (krc5_st rfl (krc5_f_X12_finals N σ ((σ.i 99) - 1))) (fun p74 => (kvc5_ite (kvc5_st rfl (hK (RS.setI p74.2 99 ((p74.2.i 99) - 1)))) (kvc5_some rfl)))))) (kvc5_st rfl (hK (RS.setI σ 99 ((σ.i 99) - 1))))))) kvc5_none)) (kvc5_ite (kvc5_some rfl) (kvc5_ite (kvc5_ite (kvc5_bindv (kvc5_st rfl (krc5_f_X12_row N σ 4 (σ.a 101 ((((σ.i 99) - 1) : Int32).toNatClampNeg)))) (fun p57 => (kvc5_ite (kvc5_st rfl (hK (RS.setI (RS.setA p57 91 (((p57.a 101 ((((σ.i 99) - 1) : Int32).toNatClampNeg)) : Int32).toNatClampNeg) ((p57.a 91 (((p57.a 101 ((((σ.i 99) - 1) : Int32).toNatClampNeg)) : Int32).toNatClampNeg)) - 1)) 99 ((p57.i 99) - 1)))) kvc5_none))) (kvc5_ite (kvc5_st rfl (hK (RS.setI (RS.setI σ 97 (σ.a 101 ((((σ.i 99) - 1) : Int32).toNatClampNeg))) 99 ((σ.i 99) - 1)))) (kvc5_ite (kvc5_ite (kvc5_bindv (kvc5_st rfl (krc5_f_X12_closeAll N σ ((σ.i 99) - 1))) (fun p43 => (kvc5_ite (kvc5_bind (krc5_st rfl (krc5_f_X12_isCaught N p43 ((σ.i 99) - 1))) (fun p50 => (kvc5_ite (kvc5_ite (kvc5_st rfl (hK (RS.setI p50.2 99 ((p50.2.i 99) - 1)))) (kvc5_bind (krc5_st rfl (krc5_f_X12_finals N p50.2 ((σ.i 99) - 1))) (fun p54 => (kvc5_ite (kvc5_st rfl (hK (RS.setI p54.2 99 ((p54.2.i 99) - 1)))) (kvc5_some rfl))))) (kvc5_some rfl)))) (kvc5_ite (kvc5_st rfl (hK (RS.setI p43 99 ((p43.i 99) - 1)))) (kvc5_bind (krc5_st rfl (krc5_f_X12_finals N p43 ((σ.i 99) - 1))) (fun p47 => (kvc5_ite (kvc5_st rfl (hK (RS.setI p47.2 99 ((p47.2.i 99) - 1)))) (kvc5_some rfl)))))))) (kvc5_ite (kvc5_st rfl (hK (RS.setI σ 99 ((σ.i 99) - 1)))) (kvc5_bind (krc5_st rfl (krc5_f_X12_finals N σ ((σ.i 99) - 1))) (fun p40 => (kvc5_ite (kvc5_st rfl (hK (RS.setI p40.2 99 ((p40.2.i 99) - 1)))) (kvc5_some rfl)))))) (kvc5_st rfl (hK (RS.setI σ 99 ((σ.i 99) - 1))))))) kvc5_none))))
theorem krc5_f_X12_leave_0 (N : Nat) : ∀ (n : Nat) (σ : RS), KVc5 σ (f_X12_leave_0 N n σ )
  | 0, _ => kvc5_none
  | n+1, σ => krc5_b_X12_leave_0 N (f_X12_leave_0 N n) (fun σ => krc5_f_X12_leave_0 N n σ) σ
theorem krc5_f_X12_leave (N : Nat) (σ : RS) : KVc5 σ (f_X12_leave N σ) := by
  unfold f_X12_leave
  exact (kvc5_st rfl (krc5_f_X12_leave_0 N N σ))
theorem krc5_f_X12_step (N : Nat) (σ : RS) : KVc5 σ (f_X12_step N σ) := by
  unfold f_X12_step
  exact (kvc5_ite (kvc5_some rfl) (kvc5_some rfl))
theorem krc5_f_X12_compute (N : Nat) (σ : RS) (x1 : Int32) (x2 : Int32) (x3 : Int32) : KRc5 σ (f_X12_compute N σ x1 x2 x3) := by
  unfold f_X12_compute
  exact (krc5_ite (krc5_ite krc5_none (krc5_some rfl)) (krc5_ite (krc5_some rfl) (krc5_ite (krc5_some rfl) (krc5_ite (krc5_some rfl) (krc5_ite (krc5_ite krc5_none (krc5_some rfl)) (krc5_ite (krc5_ite (krc5_some rfl) (krc5_some rfl)) (krc5_ite (krc5_ite (krc5_some rfl) (krc5_some rfl)) (krc5_ite (krc5_ite (krc5_some rfl) (krc5_some rfl)) (krc5_ite (krc5_ite (krc5_some rfl) (krc5_some rfl)) (krc5_ite (krc5_ite (krc5_some rfl) (krc5_some rfl)) (krc5_ite (krc5_some rfl) (krc5_some rfl))))))))))))
theorem krc5_b_X12_caseOf_5 (N : Nat) (K : RS → Int32 → Int32 → Int32 → Option (Int32 × RS)) (hK : ∀ (σ : RS) (y0 : Int32) (y1 : Int32) (y2 : Int32), KRc5 σ (K σ y0 y1 y2)) (σ : RS) (x2 : Int32) (x3 : Int32) (x4 : Int32) : KRc5 σ (b_X12_caseOf_5 N K σ x2 x3 x4) := by
  unfold b_X12_caseOf_5
  exact (krc5_ite (krc5_some rfl) (krc5_ite (krc5_ite (krc5_ite (krc5_some rfl) (krc5_st rfl (hK σ x2 x3 (σ.a 27 ((x4 : Int32).toNatClampNeg))))) (krc5_st rfl (hK σ x2 x4 (σ.a 27 ((x4 : Int32).toNatClampNeg))))) krc5_none))
theorem krc5_f_X12_caseOf_5 (N : Nat) : ∀ (n : Nat) (σ : RS) (y0 : Int32) (y1 : Int32) (y2 : Int32), KRc5 σ (f_X12_caseOf_5 N n σ y0 y1 y2)
  | 0, _, _, _, _ => krc5_none
  | n+1, σ, y0, y1, y2 => krc5_b_X12_caseOf_5 N (f_X12_caseOf_5 N n) (fun σ y0 y1 y2 => krc5_f_X12_caseOf_5 N n σ y0 y1 y2) σ y0 y1 y2
theorem krc5_f_X12_caseOf (N : Nat) (σ : RS) (x1 : Int32) (x2 : Int32) : KRc5 σ (f_X12_caseOf N σ x1 x2) := by
  unfold f_X12_caseOf
  exact (krc5_st rfl (krc5_f_X12_caseOf_5 N N σ x2 (-1) x1))
theorem krc5_f_X12_goOn (N : Nat) (σ : RS) (x1 : Int32) : KVc5 σ (f_X12_goOn N σ x1) := by
  unfold f_X12_goOn
  exact (kvc5_bind (krc5_st rfl (krc5_f_X12_finals N σ x1)) (fun p1 => (kvc5_ite (kvc5_ite (kvc5_ite (kvc5_some rfl) kvc5_none) kvc5_none) (kvc5_some rfl))))
theorem krc5_b_X12_others_85 (N : Nat) (K : RS → Int32 → Int32 → Int32 → Option (RS)) (hK : ∀ (σ : RS) (y0 : Int32) (y1 : Int32) (y2 : Int32), KVc5 σ (K σ y0 y1 y2)) (σ : RS) (x2 : Int32) (x4 : Int32) (x5 : Int32) : KVc5 σ (b_X12_others_85 N K σ x2 x4 x5) := by
  unfold b_X12_others_85
  exact (kvc5_ite (kvc5_bind (krc5_st rfl (krc5_f_X12_record N (RS.setI σ 93 ((σ.i 93) - x2)) 2 x4 x4 (σ.i 97))) (fun p4 => (kvc5_some rfl))) (kvc5_ite (kvc5_ite (kvc5_st rfl (hK (RS.setI (RS.setA σ 98 (((σ.i 97) : Int32).toNatClampNeg) (σ.a 94 (((((σ.i 93) - x2) + x5) : Int32).toNatClampNeg))) 97 ((σ.i 97) + 1)) x2 x4 (x5 + 1))) kvc5_none) kvc5_none))
theorem krc5_f_X12_others_85 (N : Nat) : ∀ (n : Nat) (σ : RS) (y0 : Int32) (y1 : Int32) (y2 : Int32), KVc5 σ (f_X12_others_85 N n σ y0 y1 y2)
  | 0, _, _, _, _ => kvc5_none
  | n+1, σ, y0, y1, y2 => krc5_b_X12_others_85 N (f_X12_others_85 N n) (fun σ y0 y1 y2 => krc5_f_X12_others_85 N n σ y0 y1 y2) σ y0 y1 y2
theorem krc5_f_X12_others (N : Nat) (σ : RS) (x1 : Int32) (x2 : Int32) : KVc5 σ (f_X12_others N σ x1 x2) := by
  unfold f_X12_others
  exact (kvc5_ite (kvc5_ite (kvc5_st rfl (krc5_f_X12_others_85 N N σ x2 (σ.i 97) 0)) (kvc5_ite (kvc5_ite (kvc5_ite (kvc5_some rfl) (kvc5_bindv (kvc5_st rfl (krc5_f_X12_step N σ)) (fun p11 => (kvc5_ite (kvc5_ite (kvc5_some rfl) kvc5_none) kvc5_none)))) kvc5_none) (kvc5_ite (kvc5_ite (kvc5_some rfl) kvc5_none) (kvc5_ite (kvc5_ite (kvc5_ite (kvc5_some rfl) (kvc5_bindv (kvc5_st rfl (krc5_f_X12_leave N (RS.setI (RS.setI (RS.setI (RS.setI (RS.setI (RS.setI σ 110 (σ.a 105 ((((σ.i 99) - 1) : Int32).toNatClampNeg))) 111 (σ.a 106 ((((σ.i 99) - 1) : Int32).toNatClampNeg))) 112 (σ.a 107 ((((σ.i 99) - 1) : Int32).toNatClampNeg))) 113 (σ.a 108 ((((σ.i 99) - 1) : Int32).toNatClampNeg))) 114 (σ.a 109 ((((σ.i 99) - 1) : Int32).toNatClampNeg))) 99 ((σ.i 99) - 1)))) (fun p20 => (kvc5_some rfl)))) kvc5_none) (kvc5_ite (kvc5_ite (kvc5_ite (kvc5_some rfl) (kvc5_bindv (kvc5_st rfl (krc5_f_X12_leave N (RS.setI (RS.setI (RS.setI (RS.setI (RS.setI (RS.setI σ 110 (σ.a 105 ((((σ.i 99) - 1) : Int32).toNatClampNeg))) 111 (σ.a 106 ((((σ.i 99) - 1) : Int32).toNatClampNeg))) 112 (σ.a 107 ((((σ.i 99) - 1) : Int32).toNatClampNeg))) 113 (σ.a 108 ((((σ.i 99) - 1) : Int32).toNatClampNeg))) 114 (σ.a 109 ((((σ.i 99) - 1) : Int32).toNatClampNeg))) 99 ((σ.i 99) - 1)))) (fun p25 => (kvc5_some rfl)))) kvc5_none) (kvc5_ite (kvc5_ite (kvc5_ite (kvc5_some rfl) (kvc5_bindv (kvc5_st rfl (krc5_f_X12_leave N (RS.setI (RS.setI (RS.setI (RS.setI (RS.setI (RS.setI σ 110 (σ.a 105 ((((σ.i 99) - 1) : Int32).toNatClampNeg))) 111 (σ.a 106 ((((σ.i 99) - 1) : Int32).toNatClampNeg))) 112 (σ.a 107 ((((σ.i 99) - 1) : Int32).toNatClampNeg))) 113 (σ.a 108 ((((σ.i 99) - 1) : Int32).toNatClampNeg))) 114 (σ.a 109 ((((σ.i 99) - 1) : Int32).toNatClampNeg))) 99 ((σ.i 99) - 1)))) (fun p30 => (kvc5_some rfl)))) kvc5_none) (kvc5_ite (kvc5_ite (kvc5_ite (kvc5_some rfl) (kvc5_bindv (kvc5_st rfl (krc5_f_X12_leave N (RS.setI (RS.setI (RS.setI (RS.setI (RS.setI (RS.setI σ 110 (σ.a 105 ((((σ.i 99) - 1) : Int32).toNatClampNeg))) 111 (σ.a 106 ((((σ.i 99) - 1) : Int32).toNatClampNeg))) 112 (σ.a 107 ((((σ.i 99) - 1) : Int32).toNatClampNeg))) 113 (σ.a 108 ((((σ.i 99) - 1) : Int32).toNatClampNeg))) 114 (σ.a 109 ((((σ.i 99) - 1) : Int32).toNatClampNeg))) 99 ((σ.i 99) - 1)))) (fun p35 => (kvc5_some rfl)))) kvc5_none) (kvc5_ite (kvc5_ite (kvc5_ite (kvc5_some rfl) (kvc5_bindv (kvc5_st rfl (krc5_f_X12_leave N (RS.setI (RS.setI (RS.setI (RS.setI (RS.setI (RS.setI σ 110 (σ.a 105 ((((σ.i 99) - 1) : Int32).toNatClampNeg))) 111 (σ.a 106 ((((σ.i 99) - 1) : Int32).toNatClampNeg))) 112 (σ.a 107 ((((σ.i 99) - 1) : Int32).toNatClampNeg))) 113 (σ.a 108 ((((σ.i 99) - 1) : Int32).toNatClampNeg))) 114 (σ.a 109 ((((σ.i 99) - 1) : Int32).toNatClampNeg))) 99 ((σ.i 99) - 1)))) (fun p40 => (kvc5_some rfl)))) kvc5_none) (kvc5_ite (kvc5_bind (krc5_st rfl (krc5_f_X12_record N σ 4 x2 0 (σ.i 95))) (fun p43 => (kvc5_some rfl))) (kvc5_ite (kvc5_ite (kvc5_ite (kvc5_ite (kvc5_bindv (kvc5_st rfl (krc5_f_X12_row N σ 1 x2)) (fun p49 => (kvc5_ite (kvc5_some rfl) kvc5_none))) (kvc5_some rfl)) (kvc5_bindv (kvc5_st rfl (krc5_f_X12_raise N σ ((σ.a 6 ((x2 : Int32).toNatClampNeg)) - 1) x2)) (fun p52 => (kvc5_bindv (kvc5_st rfl (krc5_f_X12_leave N p52)) (fun p54 => (kvc5_some rfl)))))) kvc5_none) (kvc5_ite (kvc5_bindv (kvc5_st rfl (krc5_f_X12_closeAll N (RS.setI σ 110 0) ((σ.i 99) - 1))) (fun p57 => (kvc5_ite (kvc5_bindv (kvc5_st rfl (krc5_f_X12_leave N p57)) (fun p62 => (kvc5_some rfl))) (kvc5_bindv (kvc5_st rfl (krc5_f_X12_goOn N p57 ((σ.i 99) - 1))) (fun p60 => (kvc5_some rfl)))))) (kvc5_ite (kvc5_bindv (kvc5_st rfl (krc5_f_X12_goOn N (RS.setI σ 110 0) ((σ.i 99) - 1))) (fun p65 => (kvc5_some rfl))) (kvc5_ite (kvc5_ite (kvc5_some rfl) (kvc5_bindv (kvc5_st rfl (krc5_f_X12_leave N (RS.setI (RS.setI (RS.setI (RS.setI (RS.setI (RS.setI σ 110 (σ.a 105 ((((σ.i 99) - 1) : Int32).toNatClampNeg))) 111 (σ.a 106 ((((σ.i 99) - 1) : Int32).toNatClampNeg))) 112 (σ.a 107 ((((σ.i 99) - 1) : Int32).toNatClampNeg))) 113 (σ.a 108 ((((σ.i 99) - 1) : Int32).toNatClampNeg))) 114 (σ.a 109 ((((σ.i 99) - 1) : Int32).toNatClampNeg))) 99 ((σ.i 99) - 1)))) (fun p69 => (kvc5_some rfl)))) kvc5_none))))))))))))) kvc5_none)
theorem krc5_f_X12_ends_128 (N : Nat) (σ : RS) (x1 : Int32) : KVc5 σ (f_X12_ends_128 N σ x1) := by
  unfold f_X12_ends_128
  exact (kvc5_ite (kvc5_bindv (kvc5_st rfl (krc5_f_X12_leave N (RS.setI σ 112 (σ.a 23 ((x1 : Int32).toNatClampNeg))))) (fun p7 => (kvc5_some rfl))) kvc5_none)
theorem krc5_f_X12_ends_242 (N : Nat) (σ : RS) : KVc5 σ (f_X12_ends_242 N σ) := by
  unfold f_X12_ends_242
  exact (kvc5_some rfl)
theorem krc5_f_X12_ends_351 (N : Nat) (σ : RS) : KVc5 σ (f_X12_ends_351 N σ) := by
  unfold f_X12_ends_351
  exact (kvc5_some rfl)
theorem krc5_f_X12_ends (N : Nat) (σ : RS) (x1 : Int32) (x2 : Int32) : KVc5 σ (f_X12_ends N σ x1 x2) := by
  unfold f_X12_ends
  exact (kvc5_ite (kvc5_ite (kvc5_bind (krc5_st rfl (krc5_f_X12_take N σ)) (fun p3 => (kvc5_ite (kvc5_st rfl (krc5_f_X12_ends_128 N (RS.setI (RS.setI p3.2 113 p3.1) 110 2) x1)) (kvc5_st rfl (krc5_f_X12_ends_128 N (RS.setI (RS.setI p3.2 113 p3.1) 110 4) x1))))) (kvc5_ite (kvc5_bind (krc5_st rfl (krc5_f_X12_take N σ)) (fun p10 => (kvc5_ite (kvc5_st rfl (krc5_f_X12_ends_128 N (RS.setI (RS.setI p10.2 113 p10.1) 110 2) x1)) (kvc5_st rfl (krc5_f_X12_ends_128 N (RS.setI (RS.setI p10.2 113 p10.1) 110 4) x1))))) (kvc5_ite (kvc5_bind (krc5_st rfl (krc5_f_X12_take N σ)) (fun p14 => (kvc5_bindv (kvc5_st rfl (krc5_f_X12_raise N p14.2 x2 p14.1)) (fun p16 => (kvc5_bindv (kvc5_st rfl (krc5_f_X12_leave N p16)) (fun p18 => (kvc5_some rfl))))))) (kvc5_ite (kvc5_bindv (kvc5_st rfl (krc5_f_X12_raise N σ x2 0)) (fun p21 => (kvc5_bindv (kvc5_st rfl (krc5_f_X12_leave N p21)) (fun p23 => (kvc5_some rfl))))) (kvc5_ite (kvc5_ite (kvc5_bindv (kvc5_st rfl (krc5_f_X12_leave N (RS.setI (RS.setI σ 114 (σ.a 84 ((x2 : Int32).toNatClampNeg))) 110 3))) (fun p27 => (kvc5_some rfl))) kvc5_none) (kvc5_ite (kvc5_ite (kvc5_st rfl (krc5_f_X12_ends_242 N (RS.setI σ 92 x2))) (kvc5_st rfl (krc5_f_X12_ends_242 N (RS.setI σ 92 (σ.i 92))))) (kvc5_ite (kvc5_bindv (kvc5_st rfl (krc5_f_X12_others N σ x1 x2)) (fun p32 => (kvc5_some rfl))) (kvc5_ite (kvc5_bindv (kvc5_st rfl (krc5_f_X12_others N σ x1 x2)) (fun p35 => (kvc5_some rfl))) (kvc5_ite (kvc5_bindv (kvc5_st rfl (krc5_f_X12_others N σ x1 x2)) (fun p38 => (kvc5_some rfl))) (kvc5_ite (kvc5_bindv (kvc5_st rfl (krc5_f_X12_row N σ 3 x2)) (fun p41 => (kvc5_ite (kvc5_bind (krc5_st rfl (krc5_f_X12_record N (RS.setA p41 91 ((x2 : Int32).toNatClampNeg) ((p41.a 91 ((x2 : Int32).toNatClampNeg)) + 1)) 1 x2 0 0)) (fun p44 => (kvc5_some rfl))) kvc5_none))) (kvc5_ite (kvc5_ite (kvc5_bindv (kvc5_st rfl (krc5_f_X12_row N (RS.setI σ 99 ((σ.i 99) - 1)) 4 (σ.a 101 ((((σ.i 99) - 1) : Int32).toNatClampNeg)))) (fun p48 => (kvc5_ite (kvc5_ite (kvc5_some rfl) kvc5_none) kvc5_none))) kvc5_none) (kvc5_ite (kvc5_bind (krc5_st rfl (krc5_f_X12_take N σ)) (fun p53 => (kvc5_bind (krc5_st rfl (krc5_f_X12_caseOf N p53.2 x2 p53.1)) (fun p55 => (kvc5_ite (kvc5_ite (kvc5_st rfl (krc5_f_X12_ends_351 N (RS.setI p55.2 92 (p55.2.a 26 ((p55.1 : Int32).toNatClampNeg))))) kvc5_none) (kvc5_st rfl (krc5_f_X12_ends_351 N (RS.setI p55.2 92 (p55.2.a 23 ((x1 : Int32).toNatClampNeg)))))))))) (kvc5_ite (kvc5_bind (krc5_st rfl (krc5_f_X12_take N σ)) (fun p60 => (kvc5_bind (krc5_st rfl (krc5_f_X12_caseOf N p60.2 x2 p60.1)) (fun p62 => (kvc5_bind (krc5_st rfl (krc5_f_X12_record N p62.2 3 x1 0 0)) (fun p64 => (kvc5_ite (kvc5_some rfl) kvc5_none))))))) (kvc5_ite (kvc5_ite (kvc5_ite (kvc5_some rfl) kvc5_none) kvc5_none) (kvc5_ite (kvc5_bindv (kvc5_st rfl (krc5_f_X12_others N σ x1 x2)) (fun p71 => (kvc5_some rfl))) (kvc5_ite (kvc5_bindv (kvc5_st rfl (krc5_f_X12_others N σ x1 x2)) (fun p74 => (kvc5_some rfl))) (kvc5_ite (kvc5_bindv (kvc5_st rfl (krc5_f_X12_others N σ x1 x2)) (fun p77 => (kvc5_some rfl))) (kvc5_ite (kvc5_bindv (kvc5_st rfl (krc5_f_X12_others N σ x1 x2)) (fun p80 => (kvc5_some rfl))) (kvc5_ite (kvc5_bindv (kvc5_st rfl (krc5_f_X12_others N σ x1 x2)) (fun p83 => (kvc5_some rfl))) (kvc5_ite (kvc5_bindv (kvc5_st rfl (krc5_f_X12_leave N (RS.setI (RS.setI (RS.setI σ 110 1) 111 x2) 112 (σ.a 23 ((x1 : Int32).toNatClampNeg))))) (fun p86 => (kvc5_some rfl))) (kvc5_bindv (kvc5_st rfl (krc5_f_X12_others N σ x1 x2)) (fun p88 => (kvc5_some rfl))))))))))))))))))))))) kvc5_none)
theorem krc5_f_X12_act_229 (N : Nat) (σ : RS) (x2 : Int32) (x3 : Int32) (x4 : Int32) : KVc5 σ (f_X12_act_229 N σ x2 x3 x4) := by
  unfold f_X12_act_229
  exact (kvc5_bind (krc5_st rfl (krc5_f_X12_compute N σ x2 x4 x3)) (fun p35 => (kvc5_bindv (kvc5_st rfl (krc5_f_X12_put N p35.2 p35.1)) (fun p37 => (kvc5_some rfl)))))
theorem krc5_f_X12_act_212 (N : Nat) (σ : RS) (x2 : Int32) (x3 : Int32) (x4 : Int32) : KVc5 σ (f_X12_act_212 N σ x2 x3 x4) := by
  unfold f_X12_act_212
  exact (kvc5_ite (kvc5_bindv (kvc5_st rfl (krc5_f_X12_raise N σ 2 0)) (fun p39 => (kvc5_bindv (kvc5_st rfl (krc5_f_X12_leave N p39)) (fun p41 => (kvc5_some rfl))))) (kvc5_st rfl (krc5_f_X12_act_229 N σ x2 x3 x4)))
theorem krc5_f_X12_act_290 (N : Nat) (σ : RS) : KVc5 σ (f_X12_act_290 N σ) := by
  unfold f_X12_act_290
  exact (kvc5_some rfl)
theorem krc5_f_X12_act_282 (N : Nat) (σ : RS) (x2 : Int32) : KVc5 σ (f_X12_act_282 N σ x2) := by
  unfold f_X12_act_282
  exact (kvc5_some rfl)
theorem krc5_f_X12_act_322 (N : Nat) (σ : RS) : KVc5 σ (f_X12_act_322 N σ) := by
  unfold f_X12_act_322
  exact (kvc5_some rfl)
theorem krc5_f_X12_act_344 (N : Nat) (σ : RS) : KVc5 σ (f_X12_act_344 N σ) := by
  unfold f_X12_act_344
  exact (kvc5_some rfl)
theorem krc5_f_X12_act (N : Nat) (σ : RS) (x1 : Int32) : KVc5 σ (f_X12_act N σ x1) := by
  unfold f_X12_act
  exact (kvc5_ite (kvc5_ite (kvc5_bindv (kvc5_st rfl (krc5_f_X12_step N σ)) (fun p3 => (kvc5_some rfl))) (kvc5_ite (kvc5_bindv (kvc5_st rfl (krc5_f_X12_put N σ (σ.a 22 ((x1 : Int32).toNatClampNeg)))) (fun p6 => (kvc5_some rfl))) (kvc5_ite (kvc5_ite (kvc5_bindv (kvc5_st rfl (krc5_f_X12_put N σ (σ.a 84 (((σ.a 22 ((x1 : Int32).toNatClampNeg)) : Int32).toNatClampNeg)))) (fun p10 => (kvc5_some rfl))) kvc5_none) (kvc5_ite (kvc5_ite (kvc5_ite (kvc5_bindv (kvc5_st rfl (krc5_f_X12_put N σ (σ.a 87 (((σ.a 84 (((σ.a 22 ((x1 : Int32).toNatClampNeg)) : Int32).toNatClampNeg)) : Int32).toNatClampNeg)))) (fun p15 => (kvc5_some rfl))) kvc5_none) kvc5_none) (kvc5_ite (kvc5_bind (krc5_st rfl (krc5_f_X12_take N σ)) (fun p18 => (kvc5_ite (kvc5_some rfl) kvc5_none))) (kvc5_ite (kvc5_ite (kvc5_some rfl) kvc5_none) (kvc5_ite (kvc5_bind (krc5_st rfl (krc5_f_X12_take N σ)) (fun p24 => (kvc5_bindv (kvc5_st rfl (krc5_f_X12_put N p24.2 (-p24.1))) (fun p26 => (kvc5_some rfl))))) (kvc5_ite (kvc5_bind (krc5_st rfl (krc5_f_X12_take N σ)) (fun p29 => (kvc5_bind (krc5_st rfl (krc5_f_X12_take N p29.2)) (fun p31 => (kvc5_ite (kvc5_st rfl (krc5_f_X12_act_212 N p31.2 (σ.a 22 ((x1 : Int32).toNatClampNeg)) p29.1 p31.1)) (kvc5_ite (kvc5_st rfl (krc5_f_X12_act_212 N p31.2 (σ.a 22 ((x1 : Int32).toNatClampNeg)) p29.1 p31.1)) (kvc5_st rfl (krc5_f_X12_act_229 N p31.2 (σ.a 22 ((x1 : Int32).toNatClampNeg)) p29.1 p31.1)))))))) (kvc5_ite (kvc5_bind (krc5_st rfl (krc5_f_X12_take N σ)) (fun p45 => (kvc5_bind (krc5_st rfl (krc5_f_X12_take N p45.2)) (fun p47 => (kvc5_ite (kvc5_st rfl (krc5_f_X12_act_212 N p47.2 (σ.a 22 ((x1 : Int32).toNatClampNeg)) p45.1 p47.1)) (kvc5_ite (kvc5_st rfl (krc5_f_X12_act_212 N p47.2 (σ.a 22 ((x1 : Int32).toNatClampNeg)) p45.1 p47.1)) (kvc5_st rfl (krc5_f_X12_act_229 N p47.2 (σ.a 22 ((x1 : Int32).toNatClampNeg)) p45.1 p47.1)))))))) (kvc5_ite (kvc5_bind (krc5_st rfl (krc5_f_X12_take N σ)) (fun p52 => (kvc5_bindv (kvc5_st rfl (krc5_f_X12_put N p52.2 (1 - p52.1))) (fun p54 => (kvc5_some rfl))))) (kvc5_ite (kvc5_ite (kvc5_ite (kvc5_st rfl (krc5_f_X12_act_290 N σ)) (kvc5_st rfl (krc5_f_X12_act_282 N σ (σ.a 22 ((x1 : Int32).toNatClampNeg))))) kvc5_none) (kvc5_ite (kvc5_ite (kvc5_ite (kvc5_st rfl (krc5_f_X12_act_282 N σ (σ.a 22 ((x1 : Int32).toNatClampNeg)))) (kvc5_st rfl (krc5_f_X12_act_290 N σ))) kvc5_none) (kvc5_ite (kvc5_bind (krc5_st rfl (krc5_f_X12_take N σ)) (fun p67 => (kvc5_ite (kvc5_st rfl (krc5_f_X12_act_322 N (RS.setI p67.2 92 (σ.a 22 ((x1 : Int32).toNatClampNeg))))) (kvc5_st rfl (krc5_f_X12_act_322 N (RS.setI p67.2 92 (p67.2.i 92))))))) (kvc5_ite (kvc5_bind (krc5_st rfl (krc5_f_X12_take N σ)) (fun p71 => (kvc5_ite (kvc5_st rfl (krc5_f_X12_act_344 N (RS.setI p71.2 92 (p71.2.i 92)))) (kvc5_st rfl (krc5_f_X12_act_344 N (RS.setI p71.2 92 (σ.a 22 ((x1 : Int32).toNatClampNeg)))))))) (kvc5_ite (kvc5_some rfl) (kvc5_ite (kvc5_bind (krc5_st rfl (krc5_f_X12_take N σ)) (fun p76 => (kvc5_bindv (kvc5_st rfl (krc5_f_X12_row N p76.2 0 p76.1)) (fun p78 => (kvc5_some rfl))))) (kvc5_bindv (kvc5_st rfl (krc5_f_X12_ends N σ x1 (σ.a 22 ((x1 : Int32).toNatClampNeg)))) (fun p80 => (kvc5_some rfl))))))))))))))))))) kvc5_none)
theorem krc5_f_X12_run_163 (N : Nat) (σ : RS) : KRc5 σ (f_X12_run_163 N σ) := by
  unfold f_X12_run_163
  exact (krc5_ite (krc5_some rfl) (krc5_ite (krc5_some rfl) (krc5_ite (krc5_some rfl) (krc5_some rfl))))
theorem krc5_b_X12_run_122 (N : Nat) (K : RS → Option (Int32 × RS)) (hK : ∀ (σ : RS), KRc5 σ (K σ)) (σ : RS) : KRc5 σ (b_X12_run_122 N K σ) := by
  unfold b_X12_run_122
  exact (krc5_ite (krc5_st rfl (krc5_f_X12_run_163 N σ)) (krc5_ite (krc5_st rfl (krc5_f_X12_run_163 N σ)) (krc5_bindv (kvc5_st rfl (krc5_f_X12_act N (RS.setI σ 92 ((σ.i 92) + 1)) (σ.i 92))) (fun p9 => (krc5_st rfl (hK p9))))))
theorem krc5_f_X12_run_122 (N : Nat) : ∀ (n : Nat) (σ : RS), KRc5 σ (f_X12_run_122 N n σ )
  | 0, _ => krc5_none
  | n+1, σ => krc5_b_X12_run_122 N (f_X12_run_122 N n) (fun σ => krc5_f_X12_run_122 N n σ) σ
theorem krc5_b_X12_run_39 (N : Nat) (K : RS → Int32 → Int32 → Int32 → Option (Int32 × RS)) (hK : ∀ (σ : RS) (y0 : Int32) (y1 : Int32) (y2 : Int32), KRc5 σ (K σ y0 y1 y2)) (σ : RS) (x1 : Int32) (x2 : Int32) (x3 : Int32) : KRc5 σ (b_X12_run_39 N K σ x1 x2 x3) := by
  unfold b_X12_run_39
  exact (krc5_ite (krc5_st rfl (krc5_f_X12_run_122 N N (RS.setI (RS.setI (RS.setI (RS.setI (RS.setI (RS.setI (RS.setI (RS.setI (RS.setI (RS.setI (RS.setA (RS.setA σ 84 ((0 : Int32).toNatClampNeg) x1) 84 ((1 : Int32).toNatClampNeg) x2) 80 0) 81 0) 85 0) 95 0) 97 0) 99 0) 93 0) 79 1) 115 0) 92 0))) (krc5_ite (krc5_st rfl (hK (RS.setA σ 91 ((x3 : Int32).toNatClampNeg) 0) x1 x2 (x3 + 1))) krc5_none))
theorem krc5_f_X12_run_39 (N : Nat) : ∀ (n : Nat) (σ : RS) (y0 : Int32) (y1 : Int32) (y2 : Int32), KRc5 σ (f_X12_run_39 N n σ y0 y1 y2)
  | 0, _, _, _, _ => krc5_none
  | n+1, σ, y0, y1, y2 => krc5_b_X12_run_39 N (f_X12_run_39 N n) (fun σ y0 y1 y2 => krc5_f_X12_run_39 N n σ y0 y1 y2) σ y0 y1 y2
theorem krc5_b_X12_run_17 (N : Nat) (K : RS → Int32 → Int32 → Int32 → Option (Int32 × RS)) (hK : ∀ (σ : RS) (y0 : Int32) (y1 : Int32) (y2 : Int32), KRc5 σ (K σ y0 y1 y2)) (σ : RS) (x1 : Int32) (x2 : Int32) (x3 : Int32) : KRc5 σ (b_X12_run_17 N K σ x1 x2 x3) := by
  unfold b_X12_run_17
  exact (krc5_ite (krc5_st rfl (krc5_f_X12_run_39 N N σ x1 x2 0)) (krc5_ite (krc5_st rfl (hK (RS.setA σ 84 ((x3 : Int32).toNatClampNeg) 0) x1 x2 (x3 + 1))) krc5_none))
theorem krc5_f_X12_run_17 (N : Nat) : ∀ (n : Nat) (σ : RS) (y0 : Int32) (y1 : Int32) (y2 : Int32), KRc5 σ (f_X12_run_17 N n σ y0 y1 y2)
  | 0, _, _, _, _ => krc5_none
  | n+1, σ, y0, y1, y2 => krc5_b_X12_run_17 N (f_X12_run_17 N n) (fun σ y0 y1 y2 => krc5_f_X12_run_17 N n σ y0 y1 y2) σ y0 y1 y2
theorem krc5_f_X12_run (N : Nat) (σ : RS) (x1 : Int32) (x2 : Int32) : KRc5 σ (f_X12_run N σ x1 x2) := by
  unfold f_X12_run
  exact (krc5_ite (krc5_some rfl) (krc5_st rfl (krc5_f_X12_run_17 N N (RS.setI σ 0 0) x1 x2 0)))
theorem krc5_b_X12_ran_168 (N : Nat) (K : RS → Int32 → Int32 → Option (Int32 × RS)) (hK : ∀ (σ : RS) (y0 : Int32) (y1 : Int32), KRc5 σ (K σ y0 y1)) (σ : RS) (x3 : Int32) (x4 : Int32) : KRc5 σ (b_X12_ran_168 N K σ x3 x4) := by
  unfold b_X12_ran_168
  exact (krc5_ite (krc5_some rfl) (krc5_ite (krc5_st rfl (hK σ (x3 + (σ.a 91 ((x4 : Int32).toNatClampNeg))) (x4 + 1))) krc5_none))
theorem krc5_f_X12_ran_168 (N : Nat) : ∀ (n : Nat) (σ : RS) (y0 : Int32) (y1 : Int32), KRc5 σ (f_X12_ran_168 N n σ y0 y1)
  | 0, _, _, _ => krc5_none
  | n+1, σ, y0, y1 => krc5_b_X12_ran_168 N (f_X12_ran_168 N n) (fun σ y0 y1 => krc5_f_X12_ran_168 N n σ y0 y1) σ y0 y1
theorem krc5_f_X12_ran_41 (N : Nat) (σ : RS) (x1 : Int32) (x2 : Int32) : KRc5 σ (f_X12_ran_41 N σ x1 x2) := by
  unfold f_X12_ran_41
  exact (krc5_ite (krc5_some rfl) (krc5_ite (krc5_some rfl) (krc5_ite (krc5_ite (krc5_some rfl) (krc5_some rfl)) (krc5_ite (krc5_ite (krc5_some rfl) (krc5_ite (krc5_some rfl) krc5_none)) (krc5_ite (krc5_ite (krc5_some rfl) (krc5_ite (krc5_some rfl) krc5_none)) (krc5_ite (krc5_ite (krc5_some rfl) (krc5_ite (krc5_some rfl) krc5_none)) (krc5_st rfl (krc5_f_X12_ran_168 N N σ 0 0))))))))
theorem krc5_f_X12_ran (N : Nat) (σ : RS) (x1 : Int32) : KRc5 σ (f_X12_ran N σ x1) := by
  unfold f_X12_ran
  exact (krc5_bind (krc5_st rfl (krc5_f_X12_in N (RS.setI σ 0 0) x1 0 6)) (fun p1 => (krc5_ite (krc5_some rfl) (krc5_ite (krc5_some rfl) (krc5_ite (krc5_st rfl (krc5_f_X12_ran_41 N p1.2 x1 1)) (krc5_st rfl (krc5_f_X12_ran_41 N p1.2 x1 0)))))))
theorem krc5_f_X12_trace_35 (N : Nat) (σ : RS) : KRc5 σ (f_X12_trace_35 N σ) := by
  unfold f_X12_trace_35
  exact (krc5_some rfl)
theorem krc5_f_X12_trace (N : Nat) (σ : RS) (x1 : Int32) (x2 : Int32) : KRc5 σ (f_X12_trace N σ x1 x2) := by
  unfold f_X12_trace
  exact (krc5_ite (krc5_st rfl (krc5_f_X12_trace_35 N (RS.setI σ 0 0))) (krc5_bind (krc5_st rfl (krc5_f_X12_in N (RS.setI σ 0 0) x1 0 ((σ.i 81) - 1))) (fun p2 => (krc5_ite (krc5_st rfl (krc5_f_X12_trace_35 N p2.2)) (krc5_bind (krc5_st rfl (krc5_f_X12_in N p2.2 x2 0 1)) (fun p5 => (krc5_ite (krc5_st rfl (krc5_f_X12_trace_35 N p5.2)) (krc5_ite (krc5_ite (krc5_some rfl) krc5_none) (krc5_ite (krc5_some rfl) krc5_none)))))))))
theorem krc5_f_X12_suppressed_48 (N : Nat) (σ : RS) : KRc5 σ (f_X12_suppressed_48 N σ) := by
  unfold f_X12_suppressed_48
  exact (krc5_some rfl)
theorem krc5_f_X12_suppressed (N : Nat) (σ : RS) (x1 : Int32) (x2 : Int32) : KRc5 σ (f_X12_suppressed N σ x1 x2) := by
  unfold f_X12_suppressed
  exact (krc5_ite (krc5_st rfl (krc5_f_X12_suppressed_48 N (RS.setI σ 0 0))) (krc5_ite (krc5_ite (krc5_bind (krc5_st rfl (krc5_f_X12_in N (RS.setI σ 0 0) x1 0 ((σ.a 88 (((σ.i 114) : Int32).toNatClampNeg)) - 1))) (fun p4 => (krc5_ite (krc5_st rfl (krc5_f_X12_suppressed_48 N p4.2)) (krc5_bind (krc5_st rfl (krc5_f_X12_in N p4.2 x2 0 1)) (fun p7 => (krc5_ite (krc5_st rfl (krc5_f_X12_suppressed_48 N p7.2)) (krc5_ite (krc5_ite (krc5_some rfl) krc5_none) (krc5_ite (krc5_some rfl) krc5_none)))))))) krc5_none) (krc5_st rfl (krc5_f_X12_suppressed_48 N (RS.setI σ 0 0)))))
theorem krc5_f_X12_rounds_13 (N : Nat) (σ : RS) : KRc5 σ (f_X12_rounds_13 N σ) := by
  unfold f_X12_rounds_13
  exact (krc5_some rfl)
theorem krc5_f_X12_rounds (N : Nat) (σ : RS) (x1 : Int32) (x2 : Int32) : KRc5 σ (f_X12_rounds N σ x1 x2) := by
  unfold f_X12_rounds
  exact (krc5_ite (krc5_st rfl (krc5_f_X12_rounds_13 N (RS.setI σ 0 0))) (krc5_ite (krc5_ite (krc5_some rfl) (krc5_ite krc5_none (krc5_ite (krc5_some rfl) (krc5_some rfl)))) (krc5_st rfl (krc5_f_X12_rounds_13 N (RS.setI σ 0 0)))))
