/-! the typing stands where the tables stand -/
def EQW (s t : RS) : Prop := (t.i 20 = s.i 20 ∧ t.i 24 = s.i 24 ∧ t.i 29 = s.i 29 ∧ t.i 33 = s.i 33 ∧ t.i 3 = s.i 3) ∧ ∀ k : Nat, 20 < k → k < 38 → t.a k = s.a k
theorem EQW.g {s t : RS} (h : EQW s t) (k : Nat) (h1 : 20 < k) (h2 : k < 38) : gv t k = gv s k := by
  funext i; unfold gv; rw [h.2 k h1 h2]
theorem EQW.cd {s t : RS} (h : EQW s t) : cdI t = cdI s := by unfold cdI; rw [h.1.1]
theorem EQW.fl {s t : RS} (h : EQW s t) : FL t = FL s := by
  funext g v kk x hh o rs; unfold FL; rw [h.cd]
theorem EQW.fs {s t : RS} (h : EQW s t) : FS t = FS s := by
  funext g x hh o rs; unfold FS; rw [h.cd]
theorem EQW.fp {s t : RS} (h : EQW s t) : FP t = FP s := by
  funext g k v y hh o rs; unfold FP; rw [h.cd]
theorem EQW.ar {s t : RS} (h : EQW s t) (g : Gh) (d : Nat) : ∀ rs : List Rec, arr t g d rs = arr s g d rs
  | [] => rfl
  | r :: rs => by
    show (rs.length + 1 ≤ d ∨ ((r.k = 4 → r.p < 2 → 0 ≤ gv t 31 r.a → r.ps = true) ∧ arr t g d rs)) = (rs.length + 1 ≤ d ∨ ((r.k = 4 → r.p < 2 → 0 ≤ gv s 31 r.a → r.ps = true) ∧ arr s g d rs))
    rw [h.g 31 (by decide) (by decide), EQW.ar h g d rs]
theorem EQW.lv {s t : RS} (h : EQW s t) (d hh v : Nat) (x : Int) : ∀ rs : List Rec, lvA t d hh v x rs = lvA s d hh v x rs
  | [] => rfl
  | r :: rs => by
    show (rs.length + 1 ≤ d ∨ (r.k ≠ 3 ∧ (r.k = 4 → r.h = hh ∧ (v < r.v ∨ v ≤ r.v ∧ gv t 32 r.a ≤ x)) ∧ lvA t d hh v x rs)) = (rs.length + 1 ≤ d ∨ (r.k ≠ 3 ∧ (r.k = 4 → r.h = hh ∧ (v < r.v ∨ v ≤ r.v ∧ gv s 32 r.a ≤ x)) ∧ lvA s d hh v x rs))
    rw [h.g 32 (by decide) (by decide), EQW.lv h d hh v x rs]
theorem EQW.ca {s t : RS} (h : EQW s t) (j : Nat) : ∀ (n : Nat) (k : Int), catchIn t j n k = catchIn s j n k
  | 0, _ => rfl
  | n + 1, k => by
    show (0 ≤ k ∧ (k = (j : Int) ∨ catchIn t j n (gv t 37 k.toNat))) = (0 ≤ k ∧ (k = (j : Int) ∨ catchIn s j n (gv s 37 k.toNat)))
    rw [h.g 37 (by decide) (by decide), EQW.ca h j n]
theorem EQW.en {s t : RS} (h : EQW s t) (j : Nat) : ∀ (n : Nat) (k : Int), entryIn t j n k = entryIn s j n k
  | 0, _ => rfl
  | n + 1, k => by
    show (0 ≤ k ∧ (k = (j : Int) ∨ entryIn t j n (gv t 27 k.toNat))) = (0 ≤ k ∧ (k = (j : Int) ∨ entryIn s j n (gv s 27 k.toNat)))
    rw [h.g 27 (by decide) (by decide), EQW.en h j n]
theorem EQW.jm {s t : RS} (h : EQW s t) : JMP t = JMP s := by
  funext g v kk x d hh o rs
  unfold JMP
  have e1 : ∀ v', lvA t d hh v' x rs = lvA s d hh v' x rs := fun v' => h.lv d hh v' x rs
  have e2 : arr t g d rs = arr s g d rs := h.ar g d rs
  rw [e2, h.cd]
  simp only [e1]
theorem EQW.rc {s t : RS} (h : EQW s t) (g : Gh) (k v : Nat) (r : Rec) (rs : List Rec) : recOK t g k v r rs = recOK s g k v r rs := by
  unfold recOK
  have e1 : ∀ j, catchIn t j 400 (gv s 30 r.a) = catchIn s j 400 (gv s 30 r.a) := fun j => h.ca j 400 _
  rw [h.fl, h.cd, h.g 23 (by decide) (by decide), h.g 30 (by decide) (by decide), h.g 31 (by decide) (by decide), h.g 32 (by decide) (by decide), h.g 35 (by decide) (by decide), h.g 36 (by decide) (by decide), h.1.2.2.1]
  simp only [e1]
theorem EQW.rcs {s t : RS} (h : EQW s t) (g : Gh) (k v : Nat) : ∀ rs : List Rec, recsOK t g k v rs = recsOK s g k v rs
  | [] => rfl
  | r :: rs => by
    show (recOK t g k v r rs ∧ recsOK t g k v rs) = (recOK s g k v r rs ∧ recsOK s g k v rs)
    rw [h.rc, EQW.rcs h g k v rs]
theorem EQW.et {s t : RS} (h : EQW s t) : endT t = endT s := by
  funext g k v r rs
  unfold endT
  rw [h.fl, h.g 31 (by decide) (by decide), h.g 32 (by decide) (by decide)]
theorem EQW.ok {s t : RS} (h : EQW s t) (g : Gh) (k : Nat) (c : Ctx) : OKI t g k c = OKI s g k c := by
  have e1 : entryIn t = entryIn s := by funext j n x; exact h.en j n x
  unfold OKI
  rw [h.fl, h.fs, h.fp, h.jm, h.et, e1, h.g 21 (by decide) (by decide), h.g 22 (by decide) (by decide), h.g 23 (by decide) (by decide), h.g 26 (by decide) (by decide), h.g 28 (by decide) (by decide), h.1.2.1, h.1.2.2.1, h.1.2.2.2.2]
theorem WT.eqw {s t : RS} {g : Gh} (h : WT s g) (e : EQW s t) : WT t g := by
  unfold WT at h ⊢
  rw [e.cd, e.1.2.1, e.1.2.2.1, e.1.2.2.2.1, e.g 37 (by decide) (by decide), e.g 30 (by decide) (by decide), e.g 27 (by decide) (by decide)]
  simp only [e.ok, e.rcs]
  exact h
theorem en_i3 (s : RS) (v : Int32) (j : Nat) : ∀ (n : Nat) (k : Int), entryIn (s.setI 3 v) j n k = entryIn s j n k
  | 0, _ => rfl
  | n + 1, k => by
    show (0 ≤ k ∧ (k = (j : Int) ∨ entryIn (s.setI 3 v) j n (gv s 27 k.toNat))) = (0 ≤ k ∧ (k = (j : Int) ∨ entryIn s j n (gv s 27 k.toNat)))
    rw [en_i3 s v j n]
theorem ca_i3 (s : RS) (v : Int32) (j : Nat) : ∀ (n : Nat) (k : Int), catchIn (s.setI 3 v) j n k = catchIn s j n k
  | 0, _ => rfl
  | n + 1, k => by
    show (0 ≤ k ∧ (k = (j : Int) ∨ catchIn (s.setI 3 v) j n (gv s 37 k.toNat))) = (0 ≤ k ∧ (k = (j : Int) ∨ catchIn s j n (gv s 37 k.toNat)))
    rw [ca_i3 s v j n]
theorem ar_i3 (s : RS) (v : Int32) (g : Gh) (d : Nat) : ∀ rs : List Rec, arr (s.setI 3 v) g d rs = arr s g d rs
  | [] => rfl
  | r :: rs => by
    show (rs.length + 1 ≤ d ∨ ((r.k = 4 → r.p < 2 → 0 ≤ gv s 31 r.a → r.ps = true) ∧ arr (s.setI 3 v) g d rs)) = (rs.length + 1 ≤ d ∨ ((r.k = 4 → r.p < 2 → 0 ≤ gv s 31 r.a → r.ps = true) ∧ arr s g d rs))
    rw [ar_i3 s v g d rs]
theorem lv_i3 (s : RS) (w : Int32) (d hh v : Nat) (x : Int) : ∀ rs : List Rec, lvA (s.setI 3 w) d hh v x rs = lvA s d hh v x rs
  | [] => rfl
  | r :: rs => by
    show (rs.length + 1 ≤ d ∨ (r.k ≠ 3 ∧ (r.k = 4 → r.h = hh ∧ (v < r.v ∨ v ≤ r.v ∧ gv s 32 r.a ≤ x)) ∧ lvA (s.setI 3 w) d hh v x rs)) = (rs.length + 1 ≤ d ∨ (r.k ≠ 3 ∧ (r.k = 4 → r.h = hh ∧ (v < r.v ∨ v ≤ r.v ∧ gv s 32 r.a ≤ x)) ∧ lvA s d hh v x rs))
    rw [lv_i3 s w d hh v x rs]
theorem rc_i3 (s : RS) (w : Int32) (g : Gh) (k v : Nat) (r : Rec) (rs : List Rec) : recOK (s.setI 3 w) g k v r rs = recOK s g k v r rs := by
  unfold recOK
  simp only [ca_i3]
  rfl
theorem rcs_i3 (s : RS) (w : Int32) (g : Gh) (k v : Nat) : ∀ rs : List Rec, recsOK (s.setI 3 w) g k v rs = recsOK s g k v rs
  | [] => rfl
  | r :: rs => by
    show (recOK (s.setI 3 w) g k v r rs ∧ recsOK (s.setI 3 w) g k v rs) = (recOK s g k v r rs ∧ recsOK s g k v rs)
    rw [rc_i3, rcs_i3 s w g k v rs]
theorem OKI.i3 {s : RS} {g : Gh} {k : Nat} {c : Ctx} (v : Int32) (hv : (s.i 3).toInt ≤ v.toInt) (h : OKI s g k c) : OKI (s.setI 3 v) g k c := by
  unfold OKI at h ⊢
  have e : gv (s.setI 3 v) 21 k = gv s 21 k := rfl
  have en : entryIn (s.setI 3 v) = entryIn s := by funext j n x; exact en_i3 s v j n x
  have jm : JMP (s.setI 3 v) = JMP s := by
    funext g v' kk x d hh o rs
    unfold JMP
    simp only [lv_i3, ar_i3]
    rfl
  rw [e, en, jm]
  split at h <;> first | exact h | exact ⟨h.1, Int.lt_of_lt_of_le h.2 hv⟩ | exact Int.lt_of_lt_of_le h hv | exact h.elim
theorem WT.i3 {s : RS} {g : Gh} (v : Int32) (hv : (s.i 3).toInt ≤ v.toInt) (h : WT s g) : WT (s.setI 3 v) g := by
  obtain ⟨h1, h2, h3, h4, h5, h6, h7, h8, h9, h10, h11⟩ := h
  refine ⟨h1, h2, h3, h4, h5, h6, h7, h8, fun k c q1 q2 => ?_, h10, h11⟩
  obtain ⟨a1, a2, a3⟩ := h9 k c q1 q2
  exact ⟨a1.i3 v hv, by rw [rcs_i3]; exact a2, a3⟩
theorem WT.rk {s t : RS} {g : Gh} (h : WT s g) (e : RK s t) : WT t g := by
  have hv := le_int e.2.2.2.2
  refine (h.i3 (t.i 3) hv).eqw ⟨⟨?_, ?_, ?_, ?_, rfl⟩, fun k k1 k2 => ?_⟩
  · exact e.1 20 (by decide) (by decide) (by decide) (by decide)
  · exact e.1 24 (by decide) (by decide) (by decide) (by decide)
  · exact e.1 29 (by decide) (by decide) (by decide) (by decide)
  · exact e.1 33 (by decide) (by decide) (by decide) (by decide)
  · exact e.2.1 k (by omega) (by omega) (by omega) (by omega) (by omega)
