/-! the reference's machine: what each instruction does -/
def rPu (r : RS) (v : Int32) : RS := RS.setI (RS.setA r 94 (r.i 93).toNatClampNeg v) 93 (r.i 93 + 1)
def rPo (r : RS) : RS := RS.setI r 93 (r.i 93 - 1)
def rTp (r : RS) : Int32 := r.a 94 (r.i 93 - 1).toNatClampNeg
theorem e_rPu {N : Nat} {r V : RS} {v : Int32} (h : f_X12_put N r v = some V) : V = rPu r v := by
  unfold f_X12_put at h
  exact (Option.some.inj (hf_ite h).2).symm
theorem e_rPo {N : Nat} {r : RS} {W : Int32 × RS} (h : f_X12_take N r = some W) : W = (rTp r, rPo r) := by
  unfold f_X12_take at h
  exact (Option.some.inj (hf_ite h).2).symm
/-- one turn of its loop -/
theorem rn_one {N n : Nat} {r : RS} {U : Int32 × RS} (h0 : 0 ≤ (r.i 92).toInt) (h1 : (r.i 92).toInt < (r.i 20).toInt) (g : f_X12_run_122 N (n + 1) r = some U) : ∃ V : RS, f_X12_act N (RS.setI r 92 (r.i 92 + 1)) (r.i 92) = some V ∧ f_X12_run_122 N n V = some U := by
  have g' : b_X12_run_122 N (f_X12_run_122 N n) r = some U := g
  unfold b_X12_run_122 at g'
  rw [if_neg (fun q => by
    have := lt_int q
    rw [z_t0] at this
    omega), if_neg (fun q => by
    have := le_int q
    omega)] at g'
  exact hf_bind g'
theorem rn_end {N n : Nat} {r : RS} {U : Int32 × RS} (h : (r.i 92).toInt < 0 ∨ (r.i 20).toInt ≤ (r.i 92).toInt) (g : f_X12_run_122 N n r = some U) : f_X12_run_163 N r = some U := by
  cases n with
  | zero => cases g
  | succ n =>
    have g' : b_X12_run_122 N (f_X12_run_122 N n) r = some U := g
    unfold b_X12_run_122 at g'
    by_cases c : r.i 92 < 0
    · rw [if_pos c] at g'
      exact g'
    · rw [if_neg c, if_pos (Int32.le_iff_toInt_le.mpr (h.resolve_left (fun q => c (Int32.lt_iff_toInt_lt.mpr (by rw [z_t0]; exact q)))))] at g'
      exact g'
theorem xa_1 {N : Nat} {r V : RS} {x : Int32} (h : r.a 21 x.toNatClampNeg = 1) (g : f_X12_act N r x = some V) : f_X12_step N r = some V := by
  unfold f_X12_act at g
  obtain ⟨-, g⟩ := hf_ite g
  rw [h] at g
  rw [if_pos rfl] at g
  rw [ob_id] at g
  exact g
theorem xa_2 {N : Nat} {r V : RS} {x : Int32} (h : r.a 21 x.toNatClampNeg = 2) (g : f_X12_act N r x = some V) : V = rPu r (r.a 22 x.toNatClampNeg) := by
  unfold f_X12_act at g
  obtain ⟨-, g⟩ := hf_ite g
  rw [h] at g
  rw [if_neg (by decide), if_pos rfl] at g
  rw [ob_id] at g
  exact e_rPu g
theorem xa_3 {N : Nat} {r V : RS} {x : Int32} (h : r.a 21 x.toNatClampNeg = 3) (g : f_X12_act N r x = some V) : V = rPu r (r.a 84 (r.a 22 x.toNatClampNeg).toNatClampNeg) := by
  unfold f_X12_act at g
  obtain ⟨-, g⟩ := hf_ite g
  rw [h] at g
  rw [if_neg (by decide), if_neg (by decide), if_pos rfl] at g
  obtain ⟨-, g⟩ := hf_ite g
  rw [ob_id] at g
  exact e_rPu g
theorem xa_4 {N : Nat} {r V : RS} {x : Int32} (h : r.a 21 x.toNatClampNeg = 4) (g : f_X12_act N r x = some V) : V = rPu r (r.a 87 (r.a 84 (r.a 22 x.toNatClampNeg).toNatClampNeg).toNatClampNeg) := by
  unfold f_X12_act at g
  obtain ⟨-, g⟩ := hf_ite g
  rw [h] at g
  rw [if_neg (by decide), if_neg (by decide), if_neg (by decide), if_pos rfl] at g
  obtain ⟨-, g⟩ := hf_ite g
  obtain ⟨-, g⟩ := hf_ite g
  rw [ob_id] at g
  exact e_rPu g
theorem xa_5 {N : Nat} {r V : RS} {x : Int32} (h : r.a 21 x.toNatClampNeg = 5) (g : f_X12_act N r x = some V) : V = RS.setA (rPo r) 84 (r.a 22 x.toNatClampNeg).toNatClampNeg (rTp r) := by
  unfold f_X12_act at g
  obtain ⟨-, g⟩ := hf_ite g
  rw [h] at g
  rw [if_neg (by decide), if_neg (by decide), if_neg (by decide), if_neg (by decide), if_pos rfl] at g
  obtain ⟨w, gw, g⟩ := hf_bind g
  obtain ⟨-, g⟩ := hf_ite g
  rw [e_rPo gw] at g
  exact (Option.some.inj g).symm
theorem xa_6 {N : Nat} {r V : RS} {x : Int32} (h : r.a 21 x.toNatClampNeg = 6) (g : f_X12_act N r x = some V) : V = RS.setA r 84 (r.a 22 x.toNatClampNeg).toNatClampNeg (r.a 84 (r.a 22 x.toNatClampNeg).toNatClampNeg + 1) := by
  unfold f_X12_act at g
  obtain ⟨-, g⟩ := hf_ite g
  rw [h] at g
  rw [if_neg (by decide), if_neg (by decide), if_neg (by decide), if_neg (by decide), if_neg (by decide), if_pos rfl] at g
  obtain ⟨-, g⟩ := hf_ite g
  exact (Option.some.inj g).symm
theorem xa_7 {N : Nat} {r V : RS} {x : Int32} (h : r.a 21 x.toNatClampNeg = 7) (g : f_X12_act N r x = some V) : V = rPu (rPo r) (-(rTp r)) := by
  unfold f_X12_act at g
  obtain ⟨-, g⟩ := hf_ite g
  rw [h] at g
  rw [if_neg (by decide), if_neg (by decide), if_neg (by decide), if_neg (by decide), if_neg (by decide), if_neg (by decide), if_pos rfl] at g
  obtain ⟨w, gw, g⟩ := hf_bind g
  rw [e_rPo gw, ob_id] at g
  exact e_rPu g
theorem xa_10 {N : Nat} {r V : RS} {x : Int32} (h : r.a 21 x.toNatClampNeg = 10) (g : f_X12_act N r x = some V) : V = rPu (rPo r) (1 - rTp r) := by
  unfold f_X12_act at g
  obtain ⟨-, g⟩ := hf_ite g
  rw [h] at g
  rw [if_neg (by decide), if_neg (by decide), if_neg (by decide), if_neg (by decide), if_neg (by decide), if_neg (by decide), if_neg (by decide), if_neg (by decide), if_neg (by decide), if_pos rfl] at g
  obtain ⟨w, gw, g⟩ := hf_bind g
  rw [e_rPo gw, ob_id] at g
  exact e_rPu g
theorem xa_11 {N : Nat} {r V : RS} {x : Int32} (h : r.a 21 x.toNatClampNeg = 11) (g : f_X12_act N r x = some V) : V = if rTp r = 0 then rPo r else RS.setI r 92 (r.a 22 x.toNatClampNeg) := by
  unfold f_X12_act at g
  obtain ⟨-, g⟩ := hf_ite g
  rw [h] at g
  rw [if_neg (by decide), if_neg (by decide), if_neg (by decide), if_neg (by decide), if_neg (by decide), if_neg (by decide), if_neg (by decide), if_neg (by decide), if_neg (by decide), if_neg (by decide), if_pos rfl] at g
  obtain ⟨-, g⟩ := hf_ite g
  unfold f_X12_act_290 f_X12_act_282 at g
  by_cases c : rTp r = 0
  · rw [if_pos c]
    exact (Option.some.inj ((if_pos c).symm.trans g)).symm
  · rw [if_neg c]
    exact (Option.some.inj ((if_neg c).symm.trans g)).symm
theorem xa_12 {N : Nat} {r V : RS} {x : Int32} (h : r.a 21 x.toNatClampNeg = 12) (g : f_X12_act N r x = some V) : V = if rTp r = 0 then RS.setI r 92 (r.a 22 x.toNatClampNeg) else rPo r := by
  unfold f_X12_act at g
  obtain ⟨-, g⟩ := hf_ite g
  rw [h] at g
  rw [if_neg (by decide), if_neg (by decide), if_neg (by decide), if_neg (by decide), if_neg (by decide), if_neg (by decide), if_neg (by decide), if_neg (by decide), if_neg (by decide), if_neg (by decide), if_neg (by decide), if_pos rfl] at g
  obtain ⟨-, g⟩ := hf_ite g
  unfold f_X12_act_290 f_X12_act_282 at g
  by_cases c : rTp r = 0
  · rw [if_pos c]
    exact (Option.some.inj ((if_pos c).symm.trans g)).symm
  · rw [if_neg c]
    exact (Option.some.inj ((if_neg c).symm.trans g)).symm
theorem xa_13 {N : Nat} {r V : RS} {x : Int32} (h : r.a 21 x.toNatClampNeg = 13) (g : f_X12_act N r x = some V) : V = if rTp r = 0 then RS.setI (rPo r) 92 (r.a 22 x.toNatClampNeg) else RS.setI (rPo r) 92 (r.i 92) := by
  unfold f_X12_act at g
  obtain ⟨-, g⟩ := hf_ite g
  rw [h] at g
  rw [if_neg (by decide), if_neg (by decide), if_neg (by decide), if_neg (by decide), if_neg (by decide), if_neg (by decide), if_neg (by decide), if_neg (by decide), if_neg (by decide), if_neg (by decide), if_neg (by decide), if_neg (by decide), if_pos rfl] at g
  obtain ⟨w, gw, g⟩ := hf_bind g
  rw [e_rPo gw] at g
  unfold f_X12_act_322 at g
  by_cases c : rTp r = 0
  · rw [if_pos c]
    exact (Option.some.inj ((if_pos c).symm.trans g)).symm
  · rw [if_neg c]
    exact (Option.some.inj ((if_neg c).symm.trans g)).symm
theorem xa_14 {N : Nat} {r V : RS} {x : Int32} (h : r.a 21 x.toNatClampNeg = 14) (g : f_X12_act N r x = some V) : V = if rTp r = 0 then RS.setI (rPo r) 92 (r.i 92) else RS.setI (rPo r) 92 (r.a 22 x.toNatClampNeg) := by
  unfold f_X12_act at g
  obtain ⟨-, g⟩ := hf_ite g
  rw [h] at g
  rw [if_neg (by decide), if_neg (by decide), if_neg (by decide), if_neg (by decide), if_neg (by decide), if_neg (by decide), if_neg (by decide), if_neg (by decide), if_neg (by decide), if_neg (by decide), if_neg (by decide), if_neg (by decide), if_neg (by decide), if_pos rfl] at g
  obtain ⟨w, gw, g⟩ := hf_bind g
  rw [e_rPo gw] at g
  unfold f_X12_act_344 at g
  by_cases c : rTp r = 0
  · rw [if_pos c]
    exact (Option.some.inj ((if_pos c).symm.trans g)).symm
  · rw [if_neg c]
    exact (Option.some.inj ((if_neg c).symm.trans g)).symm
theorem xa_15 {N : Nat} {r V : RS} {x : Int32} (h : r.a 21 x.toNatClampNeg = 15) (g : f_X12_act N r x = some V) : V = RS.setI r 92 (r.a 22 x.toNatClampNeg) := by
  unfold f_X12_act at g
  obtain ⟨-, g⟩ := hf_ite g
  rw [h] at g
  rw [if_neg (by decide), if_neg (by decide), if_neg (by decide), if_neg (by decide), if_neg (by decide), if_neg (by decide), if_neg (by decide), if_neg (by decide), if_neg (by decide), if_neg (by decide), if_neg (by decide), if_neg (by decide), if_neg (by decide), if_neg (by decide), if_pos rfl] at g
  exact (Option.some.inj g).symm
theorem xa_16 {N : Nat} {r V : RS} {x : Int32} (h : r.a 21 x.toNatClampNeg = 16) (g : f_X12_act N r x = some V) : f_X12_row N (rPo r) 0 (rTp r) = some V := by
  unfold f_X12_act at g
  obtain ⟨-, g⟩ := hf_ite g
  rw [h] at g
  rw [if_neg (by decide), if_neg (by decide), if_neg (by decide), if_neg (by decide), if_neg (by decide), if_neg (by decide), if_neg (by decide), if_neg (by decide), if_neg (by decide), if_neg (by decide), if_neg (by decide), if_neg (by decide), if_neg (by decide), if_neg (by decide), if_neg (by decide), if_pos rfl] at g
  obtain ⟨w, gw, g⟩ := hf_bind g
  rw [e_rPo gw, ob_id] at g
  exact g
theorem xa_ends {N : Nat} {r V : RS} {x : Int32} (h : 16 < (r.a 21 x.toNatClampNeg).toInt) (g : f_X12_act N r x = some V) : f_X12_ends N r x (r.a 22 x.toNatClampNeg) = some V := by
  have n : ∀ v : Int32, v.toInt ≤ 16 → ¬ r.a 21 x.toNatClampNeg = v := fun v hv e => by
    rw [e] at h
    omega
  unfold f_X12_act at g
  obtain ⟨-, g⟩ := hf_ite g
  rw [if_neg (n 1 (by decide)), if_neg (n 2 (by decide)), if_neg (n 3 (by decide)), if_neg (n 4 (by decide)), if_neg (n 5 (by decide)), if_neg (n 6 (by decide)), if_neg (n 7 (by decide)), if_neg (n 8 (by decide)), if_neg (n 9 (by decide)), if_neg (n 10 (by decide)), if_neg (n 11 (by decide)), if_neg (n 12 (by decide)), if_neg (n 13 (by decide)), if_neg (n 14 (by decide)), if_neg (n 15 (by decide)), if_neg (n 16 (by decide)), ob_id] at g
  exact g
theorem xa_19 {N : Nat} {r V : RS} {x : Int32} (h : r.a 21 x.toNatClampNeg = 19) (g0 : f_X12_act N r x = some V) : ∃ W : RS, f_X12_raise N (rPo r) (r.a 22 x.toNatClampNeg) (rTp r) = some W ∧ f_X12_leave N W = some V := by
  have g := xa_ends (by rw [h]; decide) g0
  unfold f_X12_ends at g
  obtain ⟨-, g⟩ := hf_ite g
  rw [h] at g
  rw [if_neg (by decide), if_neg (by decide), if_pos rfl] at g
  obtain ⟨w, gw, g⟩ := hf_bind g
  rw [e_rPo gw] at g
  obtain ⟨u, gu, g⟩ := hf_bind g
  rw [ob_id] at g
  exact ⟨u, gu, g⟩
theorem xa_20 {N : Nat} {r V : RS} {x : Int32} (h : r.a 21 x.toNatClampNeg = 20) (g0 : f_X12_act N r x = some V) : ∃ W : RS, f_X12_raise N r (r.a 22 x.toNatClampNeg) 0 = some W ∧ f_X12_leave N W = some V := by
  have g := xa_ends (by rw [h]; decide) g0
  unfold f_X12_ends at g
  obtain ⟨-, g⟩ := hf_ite g
  rw [h] at g
  rw [if_neg (by decide), if_neg (by decide), if_neg (by decide), if_pos rfl] at g
  obtain ⟨u, gu, g⟩ := hf_bind g
  rw [ob_id] at g
  exact ⟨u, gu, g⟩
theorem xa_21 {N : Nat} {r V : RS} {x : Int32} (h : r.a 21 x.toNatClampNeg = 21) (g0 : f_X12_act N r x = some V) : f_X12_leave N (RS.setI (RS.setI r 114 (r.a 84 (r.a 22 x.toNatClampNeg).toNatClampNeg)) 110 3) = some V := by
  have g := xa_ends (by rw [h]; decide) g0
  unfold f_X12_ends at g
  obtain ⟨-, g⟩ := hf_ite g
  rw [h] at g
  rw [if_neg (by decide), if_neg (by decide), if_neg (by decide), if_neg (by decide), if_pos rfl] at g
  obtain ⟨-, g⟩ := hf_ite g
  rw [ob_id] at g
  exact g
theorem xa_22 {N : Nat} {r V : RS} {x : Int32} (h : r.a 21 x.toNatClampNeg = 22) (g0 : f_X12_act N r x = some V) : V = if r.i 8 = 0 then RS.setI r 92 (r.a 22 x.toNatClampNeg) else RS.setI r 92 (r.i 92) := by
  have g := xa_ends (by rw [h]; decide) g0
  unfold f_X12_ends at g
  obtain ⟨-, g⟩ := hf_ite g
  rw [h] at g
  rw [if_neg (by decide), if_neg (by decide), if_neg (by decide), if_neg (by decide), if_neg (by decide), if_pos rfl] at g
  unfold f_X12_ends_242 at g
  by_cases c : r.i 8 = 0
  · rw [if_pos c] at g ⊢
    exact (Option.some.inj g).symm
  · rw [if_neg c] at g ⊢
    exact (Option.some.inj g).symm
theorem xa_36 {N : Nat} {r V : RS} {x : Int32} (h : r.a 21 x.toNatClampNeg = 36) (g0 : f_X12_act N r x = some V) : f_X12_leave N (RS.setI (RS.setI (RS.setI r 110 1) 111 (r.a 22 x.toNatClampNeg)) 112 (r.a 23 x.toNatClampNeg)) = some V := by
  have g := xa_ends (by rw [h]; decide) g0
  unfold f_X12_ends at g
  obtain ⟨-, g⟩ := hf_ite g
  rw [h] at g
  rw [if_neg (by decide), if_neg (by decide), if_neg (by decide), if_neg (by decide), if_neg (by decide), if_neg (by decide), if_neg (by decide), if_neg (by decide), if_neg (by decide), if_neg (by decide), if_neg (by decide), if_neg (by decide), if_neg (by decide), if_neg (by decide), if_neg (by decide), if_neg (by decide), if_neg (by decide), if_neg (by decide), if_neg (by decide), if_pos rfl] at g
  rw [ob_id] at g
  exact g
