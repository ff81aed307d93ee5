/-! both readers: what is asked of a token -/
/-- both stand at the same token, and none has a fault -/
def BT (S : CS) (s : RS) : Prop := S.i 32 = 0 ∧ s.i 15 = 0 ∧ TPR S s ∧ TKR S s ∧ (0 ≤ (s.i 12).toInt ∧ (s.i 12).toInt ≤ (s.i 2).toInt) ∧ WDS s ∧ LC S ∧ WDC S
theorem BT.pos {S : CS} {s : RS} (h : BT S s) : POS S s := ⟨h.2.2.2.1.2.1, h.2.2.2.2.1⟩
theorem zRW_lo : ∀ k : Nat, k < 25 → 256 ≤ zRW k := by decide +kernel
theorem WDS.wd {s : RS} (h : WDS s) : WD s := fun k hk => by
  rw [h k hk]
  exact zRW_lo k hk
/-- one token on -/
theorem y_adv {N : Nat} (hN : 1000 ≤ N) {S : CS} {s : RS} {R : Unit × CS} {u : RS} (h : BT S s) (e : f_X9_advance N S = some R) (g : f_X12_next N s = some u) : BT R.2 u ∧ ADV S R.2 ∧ TU (s.setI 17 (s.i 17 + 1)) u ∧ (s.i 12).toInt ≤ (u.i 11).toInt := by
  have hP := h.pos
  obtain ⟨h1, h2, h3, h4, h5, h6, h7, h8⟩ := h
  have e900 : (900 : Int32).toInt = 900 := by decide
  have hk := y_next h3 hP h6 h2 e g
  have a := ok_at (q_advance hN h8 h7) e
  have b := ok_at (p_next hN s (by rw [Int32.le_iff_toInt_le, z_t0]; exact h5.1) (by rw [Int32.le_iff_toInt_le]; exact h5.2) (by rw [Int32.le_iff_toInt_le, e900]; exact h3.2.1.2) h6.wd) g
  rcases b with ⟨b, -⟩ | ⟨-, b, b9⟩
  · exact absurd h2 b
  obtain ⟨u1, u2, u3, u4, -⟩ := b
  have h3' : TPR S (s.setI 17 (s.i 17 + 1)) := h3
  have tk := a.1
  refine ⟨⟨?_, ?_, h3'.of tk u1, hk, ⟨?_, ?_⟩, ?_, a.2.1, ?_⟩, a, u1, le_int b9⟩
  · rw [tk.2 32 (by decide) (by decide) (by decide) (by decide)]; exact h1
  · rw [u1.1 15 (by decide) (by decide) (by decide) (by decide)]; exact h2
  · have q1 := le_int u2
    have q2 := le_int u3
    rw [z_t0] at q1
    omega
  · exact le_int u4
  · intro k hk2
    rw [u1.2.2]
    exact h6 k hk2
  · unfold WDC at *
    rw [tk.1.2.2.2.2.2.2.2.2.2.1]
    exact h8
theorem e_fnd1 {N : Nat} {S : CS} {x : Int32} (h : S.i 43 = x) : f_X1_found N S x = some (1, S) := by
  unfold f_X1_found
  exact if_pos h
theorem e_fnd0 {N : Nat} {S : CS} {x : Int32} (h : ¬ S.i 43 = x) : f_X1_found N S x = some (0, S) := by
  unfold f_X1_found
  exact if_neg h
/-- a fault of the class -/
theorem y_fail {N : Nat} {S : CS} {x p : Int32} {R : Unit × CS} (hx : ¬ x = 0) (e : f_X1_fail N S x p = some R) : ¬ R.2.i 32 = 0 := by
  unfold f_X1_fail f_X9_stop at e
  by_cases c : S.i 32 = 0
  · rw [if_pos c, ob_some] at e
    cases e
    exact hx
  · rw [if_neg c] at e
    cases e
    exact c
theorem y_misp {N : Nat} {S : CS} {R : Unit × CS} (e : f_X1_misplaced N S = some R) : ¬ R.2.i 32 = 0 := by
  unfold f_X1_misplaced at e
  obtain ⟨p, ep, e⟩ := hf_bind e
  by_cases c : p.1 = 0
  · rw [if_pos c] at e
    obtain ⟨q, eq, e⟩ := hf_bind e
    cases e
    exact y_fail (by decide) eq
  · rw [if_neg c] at e
    obtain ⟨q, eq, e⟩ := hf_bind e
    cases e
    exact y_fail (by decide) eq
/-- the reference: asked in vain -/
theorem y_can0 {N : Nat} {s : RS} {V : Int32 × RS} (g : f_X12_can N s 0 = some V) : V.1 = 0 ∧ ¬ V.2.i 15 = 0 := by
  rw [e_can] at g
  by_cases c : s.i 15 = 0
  · rw [if_neg (fun q => q c), if_pos (Or.inl rfl)] at g
    cases g
    refine ⟨rfl, ?_⟩
    show ¬ (if s.i 10 = 6 then (1 : Int32) else 2) = 0
    exact ite_or (P := fun v => ¬ v = 0) (fun _ => by decide) (fun _ => by decide)
  · rw [if_pos c] at g
    cases g
    exact ⟨rfl, c⟩
theorem y_can1 {N : Nat} {s : RS} (h : s.i 15 = 0) (h6 : ¬ s.i 10 = 6) : f_X12_can N s 1 = some (1, s) := by
  rw [e_can, if_neg (fun q => q h), if_neg (fun q => q.elim (fun z => n10 z) h6)]
theorem y_can6 {N : Nat} {s : RS} {x : Int32} {V : Int32 × RS} (h6 : s.i 10 = 6) (g : f_X12_can N s x = some V) : V.1 = 0 ∧ ¬ V.2.i 15 = 0 := by
  rw [e_can] at g
  by_cases c : s.i 15 = 0
  · rw [if_neg (fun q => q c), if_pos (Or.inr h6), if_pos h6] at g
    cases g
    exact ⟨rfl, by show ¬ (1 : Int32) = 0; decide⟩
  · rw [if_pos c] at g
    cases g
    exact ⟨rfl, c⟩
/-- what comes of it: one token on in both, or a fault in both -/
def NXT (S : CS) (s : RS) (R : CS) (u : RS) : Prop := BT R u ∧ ADV S R ∧ TU (s.setI 17 (s.i 17 + 1)) u ∧ (s.i 12).toInt ≤ (u.i 11).toInt
theorem y_expect {N : Nat} (hN : 1000 ≤ N) {S : CS} {s : RS} {R : Unit × CS} {V : Int32 × RS} {c d : Int32} (h : BT S s) (hc : tyR c) (hd : tm c = d) (h6 : ¬ d = 6) (e : f_X1_expect N S c = some R) (g : f_X12_need N s d = some V) : (V.1 = 1 ∧ S.i 43 = c ∧ NXT S s R.2 V.2) ∨ (V.1 = 0 ∧ ¬ R.2.i 32 = 0 ∧ ¬ V.2.i 15 = 0) := by
  have is := h.2.2.2.1.is hc hd
  have h15 := h.2.1
  unfold f_X1_expect at e
  unfold f_X12_need f_X12_need_27 f_X12_need_31 at g
  rw [if_pos h15] at g
  by_cases k : S.i 43 = c
  · have k' := is.mp k
    rw [e_fnd1 k, ob_some, if_neg n10] at e
    rw [if_pos k', y_can1 h15 (by rw [k']; exact h6), ob_some, if_neg n10] at g
    obtain ⟨p, ep, e⟩ := hf_bind e
    obtain ⟨q, gq, g⟩ := hf_bind g
    have nx := y_adv hN h ep gq
    rw [if_pos nx.1.2.1] at g
    cases e
    cases g
    exact Or.inl ⟨rfl, k, nx⟩
  · have k' : ¬ s.i 10 = d := fun q => k (is.mpr q)
    rw [e_fnd0 k, ob_some, if_pos rfl] at e
    rw [if_neg k'] at g
    obtain ⟨p, ep, e⟩ := hf_bind e
    obtain ⟨q, gq, g⟩ := hf_bind g
    obtain ⟨q1, q2⟩ := y_can0 gq
    rw [if_pos q1, if_neg q2] at g
    cases e
    cases g
    exact Or.inr ⟨rfl, y_misp ep, q2⟩
