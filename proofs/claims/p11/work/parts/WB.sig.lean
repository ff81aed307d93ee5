/-! both readers: signs -/
def LS2 (c d : Int32) : Int32 := if c = d then (if c = 38 then 132 else if c = 124 then 133 else if c = 43 then 135 else 6) else 6
def LSG (c d : Int32) : Int32 := if d = 61 then (if c = 60 then 128 else if c = 62 then 129 else if c = 61 then 130 else if c = 33 then 131 else 6) else if c = 45 then (if d = 62 then 134 else LS2 c d) else LS2 c d
def TWO (c d : Int32) : Int32 := if c = 60 ∧ d = 61 then 300 else if c = 62 ∧ d = 61 then 301 else if c = 61 ∧ d = 61 then 302 else if c = 33 ∧ d = 61 then 303 else if c = 38 ∧ d = 38 then 304 else if c = 124 ∧ d = 124 then 305 else if c = 45 ∧ d = 62 then 306 else if c = 43 ∧ d = 43 then 307 else 0
theorem so_ite {α β : Type} {c : Prop} [Decidable c] (x y : α) (s : β) : (if c then some (x, s) else some (y, s)) = some (if c then x else y, s) := by
  by_cases h : c
  · rw [if_pos h, if_pos h]
  · rw [if_neg h, if_neg h]
theorem e_long2 {N : Nat} {S : CS} {c d : Int32} : f_X9_longSign_73 N S c d = some (LS2 c d, S) := by
  unfold f_X9_longSign_73 LS2
  rw [so_ite, so_ite, so_ite, so_ite]
theorem e_long {N : Nat} {S : CS} {c d : Int32} : f_X9_longSign N S c d = some (LSG c d, S) := by
  unfold f_X9_longSign LSG
  rw [e_long2, so_ite, so_ite, so_ite, so_ite, so_ite, so_ite, so_ite]

/-- a sign of two bytes, or none: the same in both -/
def lsR (c d d' : Int32) : Prop := (TWO c d' = 0 ∧ LSG c d = 6) ∨ (TWO c d' = tm (LSG c d) ∧ tyR (LSG c d) ∧ ¬ LSG c d = 6 ∧ 0 < TWO c d')
theorem ls_none {c d d' : Int32} (n1 : ¬ d = 61) (n2 : ¬ d = 62) (n3 : ¬ d = 38) (n4 : ¬ d = 124) (n5 : ¬ d = 43) (m1 : ¬ d' = 61) (m2 : ¬ d' = 62) (m3 : ¬ d' = 38) (m4 : ¬ d' = 124) (m5 : ¬ d' = 43) : lsR c d d' := by
  refine Or.inl ⟨?_, ?_⟩
  · unfold TWO
    rw [if_neg (fun q => m1 q.2), if_neg (fun q => m1 q.2), if_neg (fun q => m1 q.2), if_neg (fun q => m1 q.2), if_neg (fun q => m3 q.2), if_neg (fun q => m4 q.2), if_neg (fun q => m2 q.2), if_neg (fun q => m5 q.2)]
  · have w : LS2 c d = 6 := by
      unfold LS2
      by_cases h : c = d
      · rw [if_pos h, if_neg (fun q => n3 (h.symm.trans q)), if_neg (fun q => n4 (h.symm.trans q)), if_neg (fun q => n5 (h.symm.trans q))]
      · rw [if_neg h]
    unfold LSG
    rw [if_neg n1, if_neg n2, w]
    by_cases h : c = 45
    · rw [if_pos h]
    · rw [if_neg h]
theorem ls_61 {c : Int32} : lsR c 61 61 := by
  by_cases h60 : c = 60
  · subst h60
    exact Or.inr ⟨by decide, Or.inl ⟨by decide, by decide⟩, by decide, by decide⟩
  by_cases h62 : c = 62
  · subst h62
    exact Or.inr ⟨by decide, Or.inl ⟨by decide, by decide⟩, by decide, by decide⟩
  by_cases h61 : c = 61
  · subst h61
    exact Or.inr ⟨by decide, Or.inl ⟨by decide, by decide⟩, by decide, by decide⟩
  by_cases h33 : c = 33
  · subst h33
    exact Or.inr ⟨by decide, Or.inl ⟨by decide, by decide⟩, by decide, by decide⟩
  refine Or.inl ⟨?_, ?_⟩
  · unfold TWO
    rw [if_neg (fun q => h60 q.1), if_neg (fun q => h62 q.1), if_neg (fun q => h61 q.1), if_neg (fun q => h33 q.1), if_neg (fun q => absurd q.2 (by decide)), if_neg (fun q => absurd q.2 (by decide)), if_neg (fun q => absurd q.2 (by decide)), if_neg (fun q => absurd q.2 (by decide))]
  · unfold LSG
    rw [if_pos rfl, if_neg h60, if_neg h62, if_neg h61, if_neg h33]
theorem ls_62 {c : Int32} : lsR c 62 62 := by
  by_cases h45 : c = 45
  · subst h45
    exact Or.inr ⟨by decide, Or.inl ⟨by decide, by decide⟩, by decide, by decide⟩
  refine Or.inl ⟨?_, ?_⟩
  · unfold TWO
    rw [if_neg (fun q => absurd q.2 (by decide)), if_neg (fun q => absurd q.2 (by decide)), if_neg (fun q => absurd q.2 (by decide)), if_neg (fun q => absurd q.2 (by decide)), if_neg (fun q => absurd q.2 (by decide)), if_neg (fun q => absurd q.2 (by decide)), if_neg (fun q => h45 q.1), if_neg (fun q => absurd q.2 (by decide))]
  · unfold LSG
    have w : LS2 c 62 = 6 := by
      unfold LS2
      by_cases h : c = 62
      · rw [if_pos h, if_neg (fun q => absurd (h.symm.trans q) (by decide)), if_neg (fun q => absurd (h.symm.trans q) (by decide)), if_neg (fun q => absurd (h.symm.trans q) (by decide))]
      · rw [if_neg h]
    rw [if_neg (by decide), if_neg h45, w]
theorem ls_38 {c : Int32} : lsR c 38 38 := by
  by_cases h38 : c = 38
  · subst h38
    exact Or.inr ⟨by decide, Or.inl ⟨by decide, by decide⟩, by decide, by decide⟩
  refine Or.inl ⟨?_, ?_⟩
  · unfold TWO
    rw [if_neg (fun q => absurd q.2 (by decide)), if_neg (fun q => absurd q.2 (by decide)), if_neg (fun q => absurd q.2 (by decide)), if_neg (fun q => absurd q.2 (by decide)), if_neg (fun q => h38 q.1), if_neg (fun q => absurd q.2 (by decide)), if_neg (fun q => absurd q.2 (by decide)), if_neg (fun q => absurd q.2 (by decide))]
  · unfold LSG
    have w : LS2 c 38 = 6 := by
      unfold LS2
      by_cases h : c = 38
      · exact absurd h h38
      · rw [if_neg h]
    rw [if_neg (by decide), w]
    by_cases h : c = 45
    · rw [if_pos h, if_neg (by decide)]
    · rw [if_neg h]
theorem ls_124 {c : Int32} : lsR c 124 124 := by
  by_cases h124 : c = 124
  · subst h124
    exact Or.inr ⟨by decide, Or.inl ⟨by decide, by decide⟩, by decide, by decide⟩
  refine Or.inl ⟨?_, ?_⟩
  · unfold TWO
    rw [if_neg (fun q => absurd q.2 (by decide)), if_neg (fun q => absurd q.2 (by decide)), if_neg (fun q => absurd q.2 (by decide)), if_neg (fun q => absurd q.2 (by decide)), if_neg (fun q => absurd q.2 (by decide)), if_neg (fun q => h124 q.1), if_neg (fun q => absurd q.2 (by decide)), if_neg (fun q => absurd q.2 (by decide))]
  · unfold LSG
    have w : LS2 c 124 = 6 := by
      unfold LS2
      by_cases h : c = 124
      · exact absurd h h124
      · rw [if_neg h]
    rw [if_neg (by decide), w]
    by_cases h : c = 45
    · rw [if_pos h, if_neg (by decide)]
    · rw [if_neg h]
theorem ls_43 {c : Int32} : lsR c 43 43 := by
  by_cases h43 : c = 43
  · subst h43
    exact Or.inr ⟨by decide, Or.inl ⟨by decide, by decide⟩, by decide, by decide⟩
  refine Or.inl ⟨?_, ?_⟩
  · unfold TWO
    rw [if_neg (fun q => absurd q.2 (by decide)), if_neg (fun q => absurd q.2 (by decide)), if_neg (fun q => absurd q.2 (by decide)), if_neg (fun q => absurd q.2 (by decide)), if_neg (fun q => absurd q.2 (by decide)), if_neg (fun q => absurd q.2 (by decide)), if_neg (fun q => absurd q.2 (by decide)), if_neg (fun q => h43 q.1)]
  · unfold LSG
    have w : LS2 c 43 = 6 := by
      unfold LS2
      by_cases h : c = 43
      · exact absurd h h43
      · rw [if_neg h]
    rw [if_neg (by decide), w]
    by_cases h : c = 45
    · rw [if_pos h, if_neg (by decide)]
    · rw [if_neg h]
theorem ls_all {c d d' : Int32} (h : ∀ v : Int32, ¬ v = -1 ∧ ¬ v = 0 → (d = v ↔ d' = v)) : lsR c d d' := by
  by_cases a61 : d = 61
  · have b := (h 61 (by decide)).mp a61
    rw [a61, b]
    exact ls_61
  have b61 : ¬ d' = 61 := fun q => a61 ((h 61 (by decide)).mpr q)
  by_cases a62 : d = 62
  · have b := (h 62 (by decide)).mp a62
    rw [a62, b]
    exact ls_62
  have b62 : ¬ d' = 62 := fun q => a62 ((h 62 (by decide)).mpr q)
  by_cases a38 : d = 38
  · have b := (h 38 (by decide)).mp a38
    rw [a38, b]
    exact ls_38
  have b38 : ¬ d' = 38 := fun q => a38 ((h 38 (by decide)).mpr q)
  by_cases a124 : d = 124
  · have b := (h 124 (by decide)).mp a124
    rw [a124, b]
    exact ls_124
  have b124 : ¬ d' = 124 := fun q => a124 ((h 124 (by decide)).mpr q)
  by_cases a43 : d = 43
  · have b := (h 43 (by decide)).mp a43
    rw [a43, b]
    exact ls_43
  have b43 : ¬ d' = 43 := fun q => a43 ((h 43 (by decide)).mpr q)
  exact ls_none a61 a62 a38 a124 a43 b61 b62 b38 b124 b43
def bg (v : Int32) : Prop := v = 6 ∨ 128 ≤ v.toInt
theorem bg_ite {c : Prop} [Decidable c] {x y : Int32} (hx : bg x) (hy : bg y) : bg (if c then x else y) := by
  by_cases h : c
  · rw [if_pos h]; exact hx
  · rw [if_neg h]; exact hy
theorem ls_bg (c d : Int32) : bg (LSG c d) := by
  have b6 : bg 6 := Or.inl rfl
  have w : bg (LS2 c d) := bg_ite (bg_ite (Or.inr (by decide)) (bg_ite (Or.inr (by decide)) (bg_ite (Or.inr (by decide)) b6))) b6
  exact bg_ite (bg_ite (Or.inr (by decide)) (bg_ite (Or.inr (by decide)) (bg_ite (Or.inr (by decide)) (bg_ite (Or.inr (by decide)) b6)))) (bg_ite (bg_ite (Or.inr (by decide)) w) w)
def sgL : List Int32 := [33, 37, 40, 41, 42, 43, 44, 45, 47, 58, 59, 60, 61, 62, 91, 93, 123, 124, 125]
theorem ite_so {α : Type} {c : Prop} [Decidable c] {x y z : α} (h1 : c → x = z) (h2 : ¬ c → y = z) : (if c then x else y) = z := by
  by_cases h : c
  · rw [if_pos h]; exact h1 h
  · rw [if_neg h]; exact h2 h
theorem e_sg1 {N : Nat} {S : CS} {c : Int32} (h : c ∈ sgL) : f_X9_isSign N S c = some (1, S) := by
  unfold f_X9_isSign
  refine ite_so (fun _ => rfl) (fun g33 => ?_)
  refine ite_so (fun _ => rfl) (fun g37 => ?_)
  refine ite_so (fun _ => rfl) (fun g40 => ?_)
  refine ite_so (fun _ => rfl) (fun g41 => ?_)
  refine ite_so (fun _ => rfl) (fun g42 => ?_)
  refine ite_so (fun _ => rfl) (fun g43 => ?_)
  refine ite_so (fun _ => rfl) (fun g44 => ?_)
  refine ite_so (fun _ => rfl) (fun g45 => ?_)
  refine ite_so (fun _ => rfl) (fun g47 => ?_)
  refine ite_so (fun _ => rfl) (fun g58 => ?_)
  refine ite_so (fun _ => rfl) (fun g59 => ?_)
  refine ite_so (fun _ => rfl) (fun g60 => ?_)
  refine ite_so (fun _ => rfl) (fun g61 => ?_)
  refine ite_so (fun _ => rfl) (fun g62 => ?_)
  refine ite_so (fun _ => rfl) (fun g91 => ?_)
  refine ite_so (fun _ => rfl) (fun g93 => ?_)
  refine ite_so (fun _ => rfl) (fun g123 => ?_)
  refine ite_so (fun _ => rfl) (fun g124 => ?_)
  refine ite_so (fun _ => rfl) (fun g125 => ?_)
  exfalso
  unfold sgL at h
  simp only [List.mem_cons, List.not_mem_nil, or_false] at h
  rcases h with h | h | h | h | h | h | h | h | h | h | h | h | h | h | h | h | h | h | h
  · exact g33 h
  · exact g37 h
  · exact g40 h
  · exact g41 h
  · exact g42 h
  · exact g43 h
  · exact g44 h
  · exact g45 h
  · exact g47 h
  · exact g58 h
  · exact g59 h
  · exact g60 h
  · exact g61 h
  · exact g62 h
  · exact g91 h
  · exact g93 h
  · exact g123 h
  · exact g124 h
  · exact g125 h
theorem e_sg0 {N : Nat} {S : CS} {c : Int32} (h : ¬ c ∈ sgL) : f_X9_isSign N S c = some (0, S) := by
  have n : ∀ v : Int32, v ∈ sgL → ¬ c = v := fun v hv q => h (by rw [q]; exact hv)
  unfold f_X9_isSign
  rw [if_neg (n 33 (by decide)), if_neg (n 37 (by decide)), if_neg (n 40 (by decide)), if_neg (n 41 (by decide)), if_neg (n 42 (by decide)), if_neg (n 43 (by decide)), if_neg (n 44 (by decide)), if_neg (n 45 (by decide)), if_neg (n 47 (by decide)), if_neg (n 58 (by decide)), if_neg (n 59 (by decide)), if_neg (n 60 (by decide)), if_neg (n 61 (by decide)), if_neg (n 62 (by decide)), if_neg (n 91 (by decide)), if_neg (n 93 (by decide)), if_neg (n 123 (by decide)), if_neg (n 124 (by decide)), if_neg (n 125 (by decide))]
theorem r_sg1 {N : Nat} {s : RS} {c : Int32} (h : c ∈ sgL) : f_X12_readSign_165 N s c 0 = some (RS.setI s 10 c) := by
  unfold f_X12_readSign_165 f_X12_readSign_299 f_X12_readSign_306
  refine (if_pos (by decide)).trans ?_
  refine ite_so (fun _ => if_neg n10) (fun g123 => ?_)
  refine ite_so (fun _ => if_neg n10) (fun g125 => ?_)
  refine ite_so (fun _ => if_neg n10) (fun g40 => ?_)
  refine ite_so (fun _ => if_neg n10) (fun g41 => ?_)
  refine ite_so (fun _ => if_neg n10) (fun g91 => ?_)
  refine ite_so (fun _ => if_neg n10) (fun g93 => ?_)
  refine ite_so (fun _ => if_neg n10) (fun g59 => ?_)
  refine ite_so (fun _ => if_neg n10) (fun g58 => ?_)
  refine ite_so (fun _ => if_neg n10) (fun g44 => ?_)
  refine ite_so (fun _ => if_neg n10) (fun g61 => ?_)
  refine ite_so (fun _ => if_neg n10) (fun g43 => ?_)
  refine ite_so (fun _ => if_neg n10) (fun g45 => ?_)
  refine ite_so (fun _ => if_neg n10) (fun g42 => ?_)
  refine ite_so (fun _ => if_neg n10) (fun g47 => ?_)
  refine ite_so (fun _ => if_neg n10) (fun g37 => ?_)
  refine ite_so (fun _ => if_neg n10) (fun g60 => ?_)
  refine ite_so (fun _ => if_neg n10) (fun g62 => ?_)
  refine ite_so (fun _ => if_neg n10) (fun g33 => ?_)
  refine ite_so (fun _ => if_neg n10) (fun g124 => ?_)
  exfalso
  unfold sgL at h
  simp only [List.mem_cons, List.not_mem_nil, or_false] at h
  rcases h with h | h | h | h | h | h | h | h | h | h | h | h | h | h | h | h | h | h | h
  · exact g33 h
  · exact g37 h
  · exact g40 h
  · exact g41 h
  · exact g42 h
  · exact g43 h
  · exact g44 h
  · exact g45 h
  · exact g47 h
  · exact g58 h
  · exact g59 h
  · exact g60 h
  · exact g61 h
  · exact g62 h
  · exact g91 h
  · exact g93 h
  · exact g123 h
  · exact g124 h
  · exact g125 h
theorem r_sg0 {N : Nat} {s : RS} {c : Int32} (h : ¬ c ∈ sgL) : f_X12_readSign_165 N s c 0 = some (RS.setI s 10 6) := by
  have n : ∀ v : Int32, v ∈ sgL → ¬ c = v := fun v hv q => h (by rw [q]; exact hv)
  unfold f_X12_readSign_165 f_X12_readSign_306
  rw [if_pos (by decide), if_neg (n 123 (by decide)), if_neg (n 125 (by decide)), if_neg (n 40 (by decide)), if_neg (n 41 (by decide)), if_neg (n 91 (by decide)), if_neg (n 93 (by decide)), if_neg (n 59 (by decide)), if_neg (n 58 (by decide)), if_neg (n 44 (by decide)), if_neg (n 61 (by decide)), if_neg (n 43 (by decide)), if_neg (n 45 (by decide)), if_neg (n 42 (by decide)), if_neg (n 47 (by decide)), if_neg (n 37 (by decide)), if_neg (n 60 (by decide)), if_neg (n 62 (by decide)), if_neg (n 33 (by decide)), if_neg (n 124 (by decide))]
  exact if_pos rfl
theorem r_two {N : Nat} {s : RS} {c t : Int32} (h : 0 < t) : f_X12_readSign_165 N s c t = some (RS.setI (RS.setI s 12 (s.i 12 + 1)) 10 t) := by
  unfold f_X12_readSign_165
  exact if_neg (Int32.not_le.mpr h)
theorem e_readSign {N : Nat} {s : RS} {c : Int32} (h0 : 0 ≤ s.i 12 + 1) (h9 : s.i 2 ≤ 900) : f_X12_readSign N s c = f_X12_readSign_165 N (RS.setI s 12 (s.i 12 + 1)) c (TWO c (bt s (s.i 12 + 1))) := by
  have eb : bt (RS.setI s 12 (s.i 12 + 1)) (s.i 12 + 1) = bt s (s.i 12 + 1) := rfl
  unfold f_X12_readSign f_X12_readSign_37 f_X12_readSign_55 f_X12_readSign_73 f_X12_readSign_91 f_X12_readSign_109 f_X12_readSign_127 f_X12_readSign_145 f_X12_readSign_163 TWO
  rw [e_at (σ := RS.setI s 12 (s.i 12 + 1)) h0 h9, ob_some, eb]
  generalize bt s (s.i 12 + 1) = d
  refine ite_so (fun g => ?_) (fun g60 => ?_)
  · refine ite_so (fun k => ?_) (fun k => ?_)
    · rw [if_pos ⟨g, k⟩]
    · subst g
      rw [if_neg (by decide), if_neg (by decide), if_neg (by decide), if_neg (by decide), if_neg (by decide), if_neg (by decide), if_neg (by decide)]
      rw [if_neg (fun q => k q.2), if_neg (fun q => absurd q.1 (by decide)), if_neg (fun q => absurd q.1 (by decide)), if_neg (fun q => absurd q.1 (by decide)), if_neg (fun q => absurd q.1 (by decide)), if_neg (fun q => absurd q.1 (by decide)), if_neg (fun q => absurd q.1 (by decide)), if_neg (fun q => absurd q.1 (by decide))]
  refine ite_so (fun g => ?_) (fun g62 => ?_)
  · refine ite_so (fun k => ?_) (fun k => ?_)
    · rw [if_neg (fun q => g60 q.1), if_pos ⟨g, k⟩]
    · subst g
      rw [if_neg (by decide), if_neg (by decide), if_neg (by decide), if_neg (by decide), if_neg (by decide), if_neg (by decide)]
      rw [if_neg (fun q => g60 q.1), if_neg (fun q => k q.2), if_neg (fun q => absurd q.1 (by decide)), if_neg (fun q => absurd q.1 (by decide)), if_neg (fun q => absurd q.1 (by decide)), if_neg (fun q => absurd q.1 (by decide)), if_neg (fun q => absurd q.1 (by decide)), if_neg (fun q => absurd q.1 (by decide))]
  refine ite_so (fun g => ?_) (fun g61 => ?_)
  · refine ite_so (fun k => ?_) (fun k => ?_)
    · rw [if_neg (fun q => g60 q.1), if_neg (fun q => g62 q.1), if_pos ⟨g, k⟩]
    · subst g
      rw [if_neg (by decide), if_neg (by decide), if_neg (by decide), if_neg (by decide), if_neg (by decide)]
      rw [if_neg (fun q => g60 q.1), if_neg (fun q => g62 q.1), if_neg (fun q => k q.2), if_neg (fun q => absurd q.1 (by decide)), if_neg (fun q => absurd q.1 (by decide)), if_neg (fun q => absurd q.1 (by decide)), if_neg (fun q => absurd q.1 (by decide)), if_neg (fun q => absurd q.1 (by decide))]
  refine ite_so (fun g => ?_) (fun g33 => ?_)
  · refine ite_so (fun k => ?_) (fun k => ?_)
    · rw [if_neg (fun q => g60 q.1), if_neg (fun q => g62 q.1), if_neg (fun q => g61 q.1), if_pos ⟨g, k⟩]
    · subst g
      rw [if_neg (by decide), if_neg (by decide), if_neg (by decide), if_neg (by decide)]
      rw [if_neg (fun q => g60 q.1), if_neg (fun q => g62 q.1), if_neg (fun q => g61 q.1), if_neg (fun q => k q.2), if_neg (fun q => absurd q.1 (by decide)), if_neg (fun q => absurd q.1 (by decide)), if_neg (fun q => absurd q.1 (by decide)), if_neg (fun q => absurd q.1 (by decide))]
  refine ite_so (fun g => ?_) (fun g38 => ?_)
  · refine ite_so (fun k => ?_) (fun k => ?_)
    · rw [if_neg (fun q => g60 q.1), if_neg (fun q => g62 q.1), if_neg (fun q => g61 q.1), if_neg (fun q => g33 q.1), if_pos ⟨g, k⟩]
    · subst g
      rw [if_neg (by decide), if_neg (by decide), if_neg (by decide)]
      rw [if_neg (fun q => g60 q.1), if_neg (fun q => g62 q.1), if_neg (fun q => g61 q.1), if_neg (fun q => g33 q.1), if_neg (fun q => k q.2), if_neg (fun q => absurd q.1 (by decide)), if_neg (fun q => absurd q.1 (by decide)), if_neg (fun q => absurd q.1 (by decide))]
  refine ite_so (fun g => ?_) (fun g124 => ?_)
  · refine ite_so (fun k => ?_) (fun k => ?_)
    · rw [if_neg (fun q => g60 q.1), if_neg (fun q => g62 q.1), if_neg (fun q => g61 q.1), if_neg (fun q => g33 q.1), if_neg (fun q => g38 q.1), if_pos ⟨g, k⟩]
    · subst g
      rw [if_neg (by decide), if_neg (by decide)]
      rw [if_neg (fun q => g60 q.1), if_neg (fun q => g62 q.1), if_neg (fun q => g61 q.1), if_neg (fun q => g33 q.1), if_neg (fun q => g38 q.1), if_neg (fun q => k q.2), if_neg (fun q => absurd q.1 (by decide)), if_neg (fun q => absurd q.1 (by decide))]
  refine ite_so (fun g => ?_) (fun g45 => ?_)
  · refine ite_so (fun k => ?_) (fun k => ?_)
    · rw [if_neg (fun q => g60 q.1), if_neg (fun q => g62 q.1), if_neg (fun q => g61 q.1), if_neg (fun q => g33 q.1), if_neg (fun q => g38 q.1), if_neg (fun q => g124 q.1), if_pos ⟨g, k⟩]
    · subst g
      rw [if_neg (by decide)]
      rw [if_neg (fun q => g60 q.1), if_neg (fun q => g62 q.1), if_neg (fun q => g61 q.1), if_neg (fun q => g33 q.1), if_neg (fun q => g38 q.1), if_neg (fun q => g124 q.1), if_neg (fun q => k q.2), if_neg (fun q => absurd q.1 (by decide))]
  refine ite_so (fun g => ?_) (fun g43 => ?_)
  · refine ite_so (fun k => ?_) (fun k => ?_)
    · rw [if_neg (fun q => g60 q.1), if_neg (fun q => g62 q.1), if_neg (fun q => g61 q.1), if_neg (fun q => g33 q.1), if_neg (fun q => g38 q.1), if_neg (fun q => g124 q.1), if_neg (fun q => g45 q.1), if_pos ⟨g, k⟩]
    · subst g
      rw [if_neg (fun q => g60 q.1), if_neg (fun q => g62 q.1), if_neg (fun q => g61 q.1), if_neg (fun q => g33 q.1), if_neg (fun q => g38 q.1), if_neg (fun q => g124 q.1), if_neg (fun q => g45 q.1), if_neg (fun q => k q.2)]
  rw [if_neg (fun q => g60 q.1), if_neg (fun q => g62 q.1), if_neg (fun q => g61 q.1), if_neg (fun q => g33 q.1), if_neg (fun q => g38 q.1), if_neg (fun q => g124 q.1), if_neg (fun q => g45 q.1), if_neg (fun q => g43 q.1)]
theorem ite_or {P : Int32 → Prop} {c : Prop} [Decidable c] {x y : Int32} (h1 : c → P x) (h2 : ¬ c → P y) : P (if c then x else y) := by
  by_cases h : c
  · rw [if_pos h]; exact h1 h
  · rw [if_neg h]; exact h2 h
/-- a sign: the same in both -/
theorem y_sign {N : Nat} {S : CS} {s : RS} {c : Int32} {R : Unit × CS} {u : RS} (hT : TPR S s) (hP : POS S s) (hlt : (s.i 12).toInt < (s.i 2).toInt) (h44 : S.i 44 = s.i 11) (hc : c = bt s (s.i 12)) (e : f_X9_takeSign N S = some R) (g : f_X12_readSign N s c = some u) : TKR R.2 u := by
  obtain ⟨p1, p2, p3⟩ := hP
  obtain ⟨t1, t2, t3, t4⟩ := id hT
  have e12 : (s.i 12 + 1).toInt = (s.i 12).toInt + 1 := ad1 p2 (by omega)
  have e900 : (900 : Int32).toInt = 900 := by decide
  have i2 : s.i 2 ≤ 900 := by rw [Int32.le_iff_toInt_le, e900]; exact t2.2
  have ec : BY S (S.i 42) = c := by rw [p1, hc]; exact by_lo hT p2 hlt
  rw [e_readSign (by rw [Int32.le_iff_toInt_le, z_t0]; omega) i2] at g
  unfold f_X9_takeSign at e
  rw [e_by, ob_some, e_by, ob_some, e_long, ob_some, ec] at e
  have hd : ∀ v : Int32, ¬ v = -1 ∧ ¬ v = 0 → (BY S (S.i 42 + 1) = v ↔ bt s (s.i 12 + 1) = v) := fun v hv => by
    rw [p1]
    exact by_eq hT (by omega) hv
  rcases ls_all (c := c) hd with ⟨w1, w2⟩ | ⟨w1, w2, w3, w4⟩
  · rw [w1] at g
    rw [w2, if_pos rfl] at e
    by_cases k : c ∈ sgL
    · rw [r_sg1 k] at g
      rw [e_sg1 k, ob_some, if_neg n10] at e
      cases e
      cases g
      have r : tyR c := by
        have q : ∀ v : Int32, v ∈ sgL → (33 ≤ v.toInt ∧ v.toInt ≤ 125) := by decide
        have := q c k
        exact Or.inl ⟨by omega, by omega⟩
      have l : c.toInt < 128 := by
        have q : ∀ v : Int32, v ∈ sgL → v.toInt < 128 := by decide
        exact q c k
      have nn : ∀ v : Int32, v.toInt < 33 → ¬ c = v := fun v hv q => by
        have w : ∀ v : Int32, v ∈ sgL → 33 ≤ v.toInt := by decide
        have := w c k
        rw [q] at this
        omega
      refine ⟨h44, ?_, ?_, r, fun q => absurd q (nn 2 (by decide)), fun q => ?_⟩
      · show S.i 42 + 1 = s.i 12 + 1
        rw [p1]
      · show c = tm c
        unfold tm
        rw [if_pos l]
      · rcases q with q | q | q | q
        · exact absurd q (nn 1 (by decide))
        · exact absurd q (nn 3 (by decide))
        · exact absurd q (nn 4 (by decide))
        · exact absurd q (nn 5 (by decide))
    · rw [r_sg0 k] at g
      rw [e_sg0 k, ob_some, if_pos rfl] at e
      cases e
      cases g
      refine ⟨h44, ?_, tm_6.symm, ty_6, fun q => absurd (show (6 : Int32) = 2 from q) (by decide), fun q => absurd (show (6 : Int32) = 1 ∨ (6 : Int32) = 3 ∨ (6 : Int32) = 4 ∨ (6 : Int32) = 5 from q) (by decide)⟩
      show S.i 42 + 1 = s.i 12 + 1
      rw [p1]
  · rw [r_two w4] at g
    rw [if_neg w3] at e
    cases e
    cases g
    have big : 128 ≤ (LSG c (BY S (S.i 42 + 1))).toInt := by
      have a := tm_int w2
      have b := lt_int w4
      rw [z_t0, w1] at b
      exact (ls_bg c (BY S (S.i 42 + 1))).resolve_left w3
    have nn : ∀ v : Int32, v.toInt < 128 → ¬ LSG c (BY S (S.i 42 + 1)) = v := fun v hv q => by
      rw [q] at big
      omega
    refine ⟨h44, ?_, w1, w2, fun q => absurd q (nn 2 (by decide)), fun q => ?_⟩
    · show S.i 42 + 2 = s.i 12 + 1 + 1
      rw [p1, Int32.add_assoc]
      rfl
    · rcases q with q | q | q | q
      · exact absurd q (nn 1 (by decide))
      · exact absurd q (nn 3 (by decide))
      · exact absurd q (nn 4 (by decide))
      · exact absurd q (nn 5 (by decide))
