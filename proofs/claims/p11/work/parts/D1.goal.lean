/-! reading: goals, chains, the end of a statement that has a goal -/
theorem setA_ne {s : RS} {k k' g j : Nat} {v : Int32} (hj : j ≠ g) : (s.setA k' g v).a k j = s.a k j := by
  show (if k = k' then upd (s.a k') g v else s.a k) j = s.a k j
  by_cases c : k = k'
  · subst c
    rw [if_pos rfl]
    exact if_neg hj
  · rw [if_neg c]
theorem setA_at {s : RS} {k g : Nat} {v : Int32} : (s.setA k g v).a k g = v := by
  show (if k = k then upd (s.a k) g v else s.a k) g = v
  rw [if_pos rfl]
  exact if_pos rfl
theorem setA_nk {s : RS} {k k' j : Nat} {v : Int32} (h : k ≠ k') : (s.setA k' j v).a k = s.a k := if_neg h
def GO (u : RS) (w : Int32) (n : Int64) : RS := RS.setI (RS.setA (RS.setA (RS.setA (RS.setA (RS.setA (RS.setA (RS.setB (RS.setA u 44 ((u.i 43).toNatClampNeg) w) 45 ((u.i 43).toNatClampNeg) n) 46 ((u.i 43).toNatClampNeg) (-1)) 47 ((u.i 43).toNatClampNeg) (u.i 52)) 48 ((u.i 43).toNatClampNeg) (-1)) 49 ((u.i 43).toNatClampNeg) (-1)) 50 ((u.i 43).toNatClampNeg) 0) 51 ((u.i 43).toNatClampNeg) 0) 43 (u.i 43 + 1)
theorem gN {u : RS} (h : 0 ≤ goI u) : (((u.i 43).toNatClampNeg : Nat) : Int) = goI u := Int.toNat_of_nonneg h
theorem p_go {N : Nat} {u : RS} (w : Int32) (n : Int64) (h0 : 0 ≤ goI u) (h4 : goI u < 460) : f_X12_goal N u w n = some (u.i 43, GO u w n) := by
  unfold f_X12_goal
  rw [if_pos (show ib (u.i 43) 460 from ⟨h0, h4⟩), Int32.add_sub_cancel]
  rfl
theorem GO.eI {u : RS} {w : Int32} {n : Int64} {j : Nat} (hj : j ≠ 43) : (GO u w n).i j = u.i j := if_neg hj
theorem GO.eGO {u : RS} {w : Int32} {n : Int64} (h0 : 0 ≤ goI u) (h4 : goI u < 460) : goI (GO u w n) = goI u + 1 := by
  have e1 : (1 : Int32).toInt = 1 := by decide
  have h0 : 0 ≤ (u.i 43).toInt := h0
  have h4 : (u.i 43).toInt < 460 := h4
  show (u.i 43 + 1).toInt = (u.i 43).toInt + 1
  rw [toInt_add] <;> rw [e1] <;> omega
theorem GO.eA {u : RS} {w : Int32} {n : Int64} {k : Nat} (h : k < 44 ∨ k = 45 ∨ 51 < k) : (GO u w n).a k = u.a k := (if_neg (by omega)).trans ((if_neg (by omega)).trans ((if_neg (by omega)).trans ((if_neg (by omega)).trans ((if_neg (by omega)).trans ((if_neg (by omega)).trans (if_neg (by omega)))))))
theorem GO.lo {u : RS} {w : Int32} {n : Int64} {k j : Nat} (hj : j ≠ (u.i 43).toNatClampNeg) : (GO u w n).a k j = u.a k j := (setA_ne hj).trans ((setA_ne hj).trans ((setA_ne hj).trans ((setA_ne hj).trans ((setA_ne hj).trans ((setA_ne hj).trans (setA_ne hj))))))
theorem GO.a51 {u : RS} {w : Int32} {n : Int64} : (GO u w n).a 51 (u.i 43).toNatClampNeg = 0 := setA_at
theorem GO.a50 {u : RS} {w : Int32} {n : Int64} : (GO u w n).a 50 (u.i 43).toNatClampNeg = 0 := (congrFun (setA_nk (by decide)) _).trans setA_at
theorem GO.a49 {u : RS} {w : Int32} {n : Int64} : (GO u w n).a 49 (u.i 43).toNatClampNeg = -1 := (congrFun (setA_nk (by decide)) _).trans ((congrFun (setA_nk (by decide)) _).trans setA_at)
theorem GO.a48 {u : RS} {w : Int32} {n : Int64} : (GO u w n).a 48 (u.i 43).toNatClampNeg = -1 := (congrFun (setA_nk (by decide)) _).trans ((congrFun (setA_nk (by decide)) _).trans ((congrFun (setA_nk (by decide)) _).trans setA_at))
theorem GO.a47 {u : RS} {w : Int32} {n : Int64} : (GO u w n).a 47 (u.i 43).toNatClampNeg = u.i 52 := (congrFun (setA_nk (by decide)) _).trans ((congrFun (setA_nk (by decide)) _).trans ((congrFun (setA_nk (by decide)) _).trans ((congrFun (setA_nk (by decide)) _).trans setA_at)))
theorem GO.a46 {u : RS} {w : Int32} {n : Int64} : (GO u w n).a 46 (u.i 43).toNatClampNeg = -1 := (congrFun (setA_nk (by decide)) _).trans ((congrFun (setA_nk (by decide)) _).trans ((congrFun (setA_nk (by decide)) _).trans ((congrFun (setA_nk (by decide)) _).trans ((congrFun (setA_nk (by decide)) _).trans setA_at))))
theorem GO.a44 {u : RS} {w : Int32} {n : Int64} : (GO u w n).a 44 (u.i 43).toNatClampNeg = w := (congrFun (setA_nk (by decide)) _).trans ((congrFun (setA_nk (by decide)) _).trans ((congrFun (setA_nk (by decide)) _).trans ((congrFun (setA_nk (by decide)) _).trans ((congrFun (setA_nk (by decide)) _).trans ((congrFun (setA_nk (by decide)) _).trans (show (u.setA 44 (u.i 43).toNatClampNeg w).a 44 (u.i 43).toNatClampNeg = w from setA_at))))))
theorem GO.eHD {u : RS} {w : Int32} {n : Int64} {b : Bool} {γ : Nat} (hj : γ ≠ (u.i 43).toNatClampNeg) : hd (GO u w n) b γ = hd u b γ := by
  unfold hd gv
  rw [GO.lo hj]
theorem GO.eHD0 {u : RS} {w : Int32} {n : Int64} {b : Bool} : hd (GO u w n) b (u.i 43).toNatClampNeg = -1 := by
  unfold hd gv
  cases b
  · show ((GO u w n).a 49 _).toInt = -1
    rw [GO.a49]; decide
  · show ((GO u w n).a 48 _).toInt = -1
    rw [GO.a48]; decide
theorem GO.eIS {u : RS} {w : Int32} {n : Int64} {x : Int} {L : List Nat} (h : ISCH u x L) : ISCH (GO u w n) x L := h.of (fun y _ => ⟨congrFun (GO.eA (by omega)) y, congrFun (GO.eA (by omega)) y⟩)
theorem KP.go {t : Nat} {s u : RS} {w : Int32} {n : Int64} (h : KP t s u) (h0 : 0 ≤ goI s) (h4 : goI u < 460) : KP t s (GO u w n) := by
  obtain ⟨⟨a1, a1'⟩, a2, a3, a4, a5, a6, a7, a8, a9, a10, a11⟩ := h
  have hg := a7.1
  have ne : ∀ γ : Nat, (γ : Int) < goI s → γ ≠ (u.i 43).toNatClampNeg := fun γ hγ e => by
    have := gN (u := u) (by omega)
    rw [← e] at this
    omega
  have eg := GO.eGO (u := u) (w := w) (n := n) (by omega) h4
  refine ⟨⟨⟨fun j hj => (GO.eI (by omega)).trans (a1.1 j hj), fun k hk => (GO.eA (by omega)).trans (a1.2.1 k hk), a1.2.2⟩, a1'⟩, a2, a3, a4, a5, a6, ⟨by omega, fun γ hγ => (GO.lo (ne γ hγ)).trans (a7.2.1 γ hγ), fun γ hγ => (GO.lo (ne γ hγ)).trans (a7.2.2.1 γ hγ), fun γ hγ q => (GO.lo (ne γ hγ)).trans (a7.2.2.2.1 γ hγ q), fun γ hγ q => (GO.lo (ne γ hγ)).trans (a7.2.2.2.2.1 γ hγ q), fun γ hγ => ?_⟩, fun γ b L hγ hI hL => ?_, a9, a10, fun k k1 k2 j hj => (congrFun (GO.eA (by omega)) j).trans (a11 k k1 k2 j hj)⟩
  · rw [GO.lo (ne γ hγ)]
    exact a7.2.2.2.2.2 γ hγ
  · obtain ⟨L1, c1, c2⟩ := a8 γ b L hγ hI hL
    exact ⟨L1, by rw [GO.eHD (ne γ hγ)]; exact GO.eIS c1, c2⟩
theorem TAB.go {u : RS} {w : Int32} {n : Int64} (h : TAB u) (h0 : 0 ≤ goI u) (h4 : goI u < 460) (hd0 : 0 ≤ deI u) : TAB (GO u w n) := by
  obtain ⟨⟨a0, b1, b2, b3, b4⟩, a1, a2, a3, a4, a5, a6, a7, a8, a9⟩ := h
  have eg := GO.eGO (u := u) (w := w) (n := n) h0 h4
  have gn := gN h0
  have cs : ∀ γ : Nat, (γ : Int) < goI (GO u w n) → γ = (u.i 43).toNatClampNeg ∨ (γ : Int) < goI u ∧ γ ≠ (u.i 43).toNatClampNeg := fun γ hγ => by
    by_cases c : γ = (u.i 43).toNatClampNeg
    · exact Or.inl c
    · exact Or.inr ⟨by omega, c⟩
  have tn : TN (GO u w n) := fun γ b hγ => by
    rcases cs γ hγ with c | ⟨c1, c2⟩
    · subst c
      exact ⟨[], by rw [GO.eHD0]; show (-1 : Int) < 0; omega, fun x hx => absurd hx List.not_mem_nil⟩
    · obtain ⟨L, l1, l2⟩ := a0 γ b c1
      exact ⟨L, by rw [GO.eHD c2]; exact GO.eIS l1, l2⟩
  refine ⟨⟨tn, ?_, b2, b3, b4⟩, a1, a2, a3, a4, a5, ?_, a7, ?_, a9⟩
  · intro γ γ' b b' L L' x h1 h2 h3 h4 h5 h6
    have em : ∀ (γ : Nat) (b : Bool) (L : List Nat), γ = (u.i 43).toNatClampNeg → ISCH (GO u w n) (hd (GO u w n) b γ) L → L = [] := fun γ b L e hI => by
      subst e
      rw [GO.eHD0] at hI
      exact ISCH.uniq hI (show (-1 : Int) < 0 by omega)
    rcases cs γ h1 with c | ⟨c1, c2⟩
    · rw [em γ b L c h3] at h5; exact absurd h5 List.not_mem_nil
    · rcases cs γ' h2 with c | ⟨c3, c4⟩
      · rw [em γ' b' L' c h4] at h6; exact absurd h6 List.not_mem_nil
      · rw [GO.eHD c2] at h3
        rw [GO.eHD c4] at h4
        have back : ∀ (y : Int) (M : List Nat), ISCH (GO u w n) y M → ISCH u y M := fun y M hM => hM.of (fun z _ => ⟨(congrFun (GO.eA (by omega)) z).symm, (congrFun (GO.eA (by omega)) z).symm⟩)
        exact b1 γ γ' b b' L L' x c1 c3 (back _ _ h3) (back _ _ h4) h5 h6
  · intro γ hγ
    unfold gv
    rcases cs γ hγ with c | ⟨c1, c2⟩
    · subst c
      rw [GO.a47]
      exact ⟨hd0, Int.le_refl _⟩
    · rw [GO.lo c2]
      exact a6 γ c1
  · intro k hk
    have := a8 k hk
    refine ⟨this.1, this.2.1, this.2.2.1, ?_⟩
    rw [eg]
    have := this.2.2.2
    show gv u 58 k ≤ goI u + 1
    omega
theorem p_lgl {N : Nat} (x1 : Int32) : ∀ (n : Nat) (σ : RS) (h : Int32), -1 ≤ h.toInt → h.toInt < 460 → h.toInt + 2 ≤ n → ok (f_X12_loopGoal_11 N n σ x1 h) (fun p => p.1 = x1 ∧ p.2.i = σ.i ∧ p.2.b = σ.b ∧ (∀ k : Nat, k ≠ 46 → p.2.a k = σ.a k) ∧ (∀ γ : Nat, p.2.a 46 γ = σ.a 46 γ ∨ (γ : Int) ≤ h.toInt ∧ p.2.a 46 γ = x1 ∧ ∀ δ : Nat, γ ≤ δ → (δ : Int) ≤ h.toInt → σ.a 44 δ = 2 ∧ σ.a 46 δ = -3) ∧ (∀ γ : Nat, (γ : Int) ≤ h.toInt → (∀ δ : Nat, γ ≤ δ → (δ : Int) ≤ h.toInt → σ.a 44 δ = 2 ∧ σ.a 46 δ = -3) → p.2.a 46 γ = x1))
  | 0, σ, h, h1, _, h3 => by omega
  | n + 1, σ, h, h1, h2, h3 => by
    show ok (b_X12_loopGoal_11 N (f_X12_loopGoal_11 N n) σ x1 h) _
    unfold b_X12_loopGoal_11 f_X12_loopGoal_49
    have stop : ∀ (hs : ∀ γ : Nat, (γ : Int) ≤ h.toInt → ¬ ∀ δ : Nat, γ ≤ δ → (δ : Int) ≤ h.toInt → σ.a 44 δ = 2 ∧ σ.a 46 δ = -3), ok (some (x1, σ)) (fun p => p.1 = x1 ∧ p.2.i = σ.i ∧ p.2.b = σ.b ∧ (∀ k : Nat, k ≠ 46 → p.2.a k = σ.a k) ∧ (∀ γ : Nat, p.2.a 46 γ = σ.a 46 γ ∨ (γ : Int) ≤ h.toInt ∧ p.2.a 46 γ = x1 ∧ ∀ δ : Nat, γ ≤ δ → (δ : Int) ≤ h.toInt → σ.a 44 δ = 2 ∧ σ.a 46 δ = -3) ∧ (∀ γ : Nat, (γ : Int) ≤ h.toInt → (∀ δ : Nat, γ ≤ δ → (δ : Int) ≤ h.toInt → σ.a 44 δ = 2 ∧ σ.a 46 δ = -3) → p.2.a 46 γ = x1)) := fun hs => ok_some ⟨rfl, rfl, rfl, fun _ _ => rfl, fun γ => Or.inl rfl, fun γ q1 q2 => absurd q2 (hs γ q1)⟩
    refine ok_ite (fun c => stop (fun γ q => ?_)) (fun c => ?_)
    · have := lt_int c
      rw [z_t0] at this
      omega
    have h0 : 0 ≤ h.toInt := by
      have : ¬ h.toInt < (0 : Int32).toInt := fun z => c (Int32.lt_iff_toInt_lt.mpr z)
      rw [z_t0] at this
      omega
    have ci := clampI h0
    refine ok_chk ⟨h0, by omega⟩ (ok_ite (fun c1 => ok_ite (fun c2 => ?_) (fun c2 => stop (fun γ q1 q2 => c2 (q2 _ (by omega) (by omega)).2))) (fun c1 => stop (fun γ q1 q2 => c1 (q2 _ (by omega) (by omega)).1)))
    have e1 : (-1 : Int32).toInt = -1 := by decide
    have ek : (h + -1).toInt = h.toInt - 1 := by rw [toInt_add] <;> rw [e1] <;> omega
    refine ok_imp (p_lgl x1 n (σ.setA 46 h.toNatClampNeg x1) (h + -1) (by omega) (by omega) (by omega)) (fun p hp => ?_)
    obtain ⟨q1, q2, q3, q4, q5, q6⟩ := hp
    have ne : ∀ δ : Nat, (δ : Int) ≤ (h + -1).toInt → (σ.setA 46 h.toNatClampNeg x1).a 46 δ = σ.a 46 δ := fun δ hδ => setA_ne (by omega)
    refine ⟨q1, q2, q3, fun k hk => (q4 k hk).trans (setA_nk hk), fun γ => ?_, fun γ g1 g2 => ?_⟩
    · by_cases cg : γ = h.toNatClampNeg
      · right
        subst cg
        refine ⟨by omega, ?_, fun δ d1 d2 => ?_⟩
        · rcases q5 h.toNatClampNeg with q | q
          · rw [q]; exact setA_at
          · have := q.1; omega
        · have : δ = h.toNatClampNeg := by omega
          subst this
          exact ⟨c1, c2⟩
      · rcases q5 γ with q | ⟨r1, r2, r3⟩
        · left
          rw [q]; exact setA_ne cg
        · right
          refine ⟨by omega, r2, fun δ d1 d2 => ?_⟩
          by_cases cd : δ = h.toNatClampNeg
          · subst cd; exact ⟨c1, c2⟩
          · have := r3 δ d1 (by omega)
            rw [ne δ (by omega)] at this
            exact this
    · by_cases cg : γ = h.toNatClampNeg
      · subst cg
        rcases q5 h.toNatClampNeg with q | q
        · rw [q]; exact setA_at
        · exact q.2.1
      · exact q6 γ (by omega) (fun δ d1 d2 => by
          have := g2 δ d1 (by omega)
          rw [ne δ (by omega)]
          exact this)
/-- a loop's goal -/
def LGR (u v : RS) : Prop := v.i = (GO u 0 0).i ∧ v.b = (GO u 0 0).b ∧ (∀ k : Nat, k ≠ 46 → v.a k = (GO u 0 0).a k) ∧ (∀ γ : Nat, v.a 46 γ = (GO u 0 0).a 46 γ ∨ (γ : Int) < goI u ∧ v.a 46 γ = u.i 43 ∧ ∀ δ : Nat, γ ≤ δ → (δ : Int) < goI u → u.a 44 δ = 2 ∧ u.a 46 δ = -3) ∧ (∀ γ : Nat, (γ : Int) < goI u → (∀ δ : Nat, γ ≤ δ → (δ : Int) < goI u → u.a 44 δ = 2 ∧ u.a 46 δ = -3) → v.a 46 γ = u.i 43)
theorem p_lg {N : Nat} (hN : 1000 ≤ N) {u : RS} (h0 : 0 ≤ goI u) (h4 : goI u < 460) : ∃ v, f_X12_loopGoal N u = some (u.i 43, v) ∧ LGR u v := by
  unfold f_X12_loopGoal
  rw [p_go 0 0 h0 h4]
  have e1 : (1 : Int32).toInt = 1 := by decide
  have h0' : 0 ≤ (u.i 43).toInt := h0
  have h4' : (u.i 43).toInt < 460 := h4
  have ek : (u.i 43 - 1).toInt = goI u - 1 := by
    show _ = (u.i 43).toInt - 1
    rw [toInt_sub] <;> rw [e1] <;> omega
  obtain ⟨p, ep, q1, q2, q3, q4, q5, q6⟩ := p_lgl (N := N) (u.i 43) N (GO u 0 0) (u.i 43 - 1) (by omega) (by omega) (by omega)
  have gn := gN h0
  have lo : ∀ (k δ : Nat), (δ : Int) < goI u → (GO u 0 0).a k δ = u.a k δ := fun k δ hδ => GO.lo (by omega)
  refine ⟨p.2, ?_, q2, q3, q4, fun γ => ?_, fun γ g1 g2 => ?_⟩
  · show f_X12_loopGoal_11 N N (GO u 0 0) (u.i 43) (u.i 43 - 1) = _
    rw [ep, ← q1]
  · rcases q5 γ with q | ⟨r1, r2, r3⟩
    · exact Or.inl q
    · refine Or.inr ⟨by omega, r2, fun δ d1 d2 => ?_⟩
      have := r3 δ d1 (by omega)
      rw [lo 44 δ d2, lo 46 δ d2] at this
      exact this
  · refine q6 γ (by omega) (fun δ d1 d2 => ?_)
    rw [lo 44 δ (by omega), lo 46 δ (by omega)]
    exact g2 δ d1 (by omega)
