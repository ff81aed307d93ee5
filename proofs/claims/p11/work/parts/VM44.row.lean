/-! both machines: jumps that leave no frame; a row of values -/
theorem rows_eq {r : RS} {c0 : List Ent} : ∀ {c1 : List Ent}, (∀ e ∈ c1, 3 < e.k) → frs (c1 ++ c0) = frs c0 ∧ ops (c1 ++ c0) = ops c0 ∧ tps (c1 ++ c0) = tps c0 ∧ fps (c1 ++ c0) = fps c0 ∧ ∀ o : Int, RCO r (c1 ++ c0) o → RCO r c0 o
  | [], _ => ⟨rfl, rfl, rfl, rfl, fun _ h => h⟩
  | e :: c1, h => by
    have hk := h e List.mem_cons_self
    obtain ⟨i1, i2, i3, i4, i5⟩ := rows_eq (r := r) (c0 := c0) (c1 := c1) (fun a ha => h a (List.mem_cons_of_mem _ ha))
    refine ⟨?_, ?_, ?_, ?_, fun o g => i5 o (g.2 (by omega))⟩
    · show frs (c1 ++ c0) + (if e.k ≤ 3 then 1 else 0) = frs c0
      rw [if_neg (by omega), i1]
      rfl
    · show ops (c1 ++ c0) + (if e.k = 1 then e.z else 0) = ops c0
      rw [if_neg (by omega), i2]
      rfl
    · show tps (c1 ++ c0) + (if e.k = 1 then 2 else if e.k = 2 then 1 else 0) = tps c0
      rw [if_neg (by omega), if_neg (by omega), i3]
      rfl
    · show fps (c1 ++ c0) + (if e.k = 0 then 2 else if e.k = 1 then 1460 else if e.k = 2 then 1154 else if e.k = 3 then 1152 else 0) = fps c0
      rw [if_neg (by omega), if_neg (by omega), if_neg (by omega), if_neg (by omega), i4]
      rfl
theorem lv_rows {N : Nat} {s : CS} {mu : Nat → Nat} {AL : Als} {c0 : List Ent} : ∀ (c1 : List Ent) (n0 : Nat) (r V : RS), (∀ e ∈ c1, 3 < e.k) → FRS s r mu AL (c1 ++ c0) (r.i 97).toInt → (r.i 99).toInt = ((c1 ++ c0).length : Int) → r.i 110 = 1 → (r.i 112).toInt = (c0.length : Int) → f_X12_leave_0 N n0 r = some V → V.i 92 = r.i 111 ∧ (V.i 99).toInt = (c0.length : Int) ∧ FRS s V mu AL c0 (V.i 97).toInt ∧ (∀ j : Nat, j ≠ 92 → j ≠ 97 → j ≠ 99 → V.i j = r.i j) ∧ V.a = r.a := by
  intro c1
  induction c1 with
  | nil =>
    intro n0 r V _ fr h99 h110 h112 g
    cases n0 with
    | zero => cases g
    | succ n0 =>
      have h99' : (r.i 99).toInt = (c0.length : Int) := h99
      have eV := lv_g1 h110 (by rw [Int32.le_iff_toInt_le]; omega) g
      rw [eV]
      refine ⟨ri_at, by rw [ri_ne (by decide)]; exact h99, ?_, fun j a _ _ => ri_ne a, rfl⟩
      rw [ri_ne (by decide)]
      exact FRS.of (nu := mu) fr (FEQ.ri (by decide) (by decide))
  | cons a c1 ih =>
    intro n0 r V hk fr h99 h110 h112 g
    cases n0 with
    | zero => cases g
    | succ n0 =>
      have el : ((a :: c1 ++ c0).length : Int) = ((c1 ++ c0).length : Int) + 1 := by
        show (((c1 ++ c0).length + 1 : Nat) : Int) = _
        omega
      have ll : (c1 ++ c0).length = c1.length + c0.length := List.length_append
      have g1 := lv_ng (Or.inl ⟨Or.inl h110, fun q => by have := le_int q; omega⟩) g
      have ka := hk a List.mem_cons_self
      obtain ⟨x1, x2⟩ := idx1 (r := r) (k := (c1 ++ c0).length) (by rw [h99, el]; omega)
      obtain ⟨-, fr⟩ := fr
      have go : ∀ R : RS, R.a = r.a → (∀ j : Nat, j ≠ 97 → j ≠ 99 → R.i j = r.i j) → (R.i 99).toInt = ((c1 ++ c0).length : Int) → FRS s r mu AL (c1 ++ c0) (R.i 97).toInt → f_X12_leave_0 N n0 R = some V → V.i 92 = r.i 111 ∧ (V.i 99).toInt = (c0.length : Int) ∧ FRS s V mu AL c0 (V.i 97).toInt ∧ (∀ j : Nat, j ≠ 92 → j ≠ 97 → j ≠ 99 → V.i j = r.i j) ∧ V.a = r.a := fun R ra ri r99 rfr rg => by
        have sm : SAM s s r R := ⟨fun _ _ _ _ => rfl, fun _ _ => rfl, ⟨rfl, rfl, rfl, rfl, rfl⟩, fun j _ q1 q2 => ri j q1 q2, fun k _ _ _ => by rw [ra]⟩
        obtain ⟨i1, i2, i3, i4, i5⟩ := ih n0 R V (fun z hz => hk z (List.mem_cons_of_mem _ hz)) (rfr.of sm.feq) r99 (by rw [ri 110 (by decide) (by decide)]; exact h110) (by rw [ri 112 (by decide) (by decide)]; exact h112) rg
        exact ⟨i1.trans (ri 111 (by decide) (by decide)), i2, i3, fun j a b d => (i4 j a b d).trans (ri j b d), i5.trans ra⟩
      rcases fr with ⟨k0, -⟩ | ⟨k0, -⟩ | ⟨k0, -⟩ | ⟨k0, -⟩ | ⟨k4, a1, m0, a2, a3⟩ | ⟨k5, a1, a2, a3⟩
      · omega
      · omega
      · omega
      · omega
      · obtain ⟨i, b1, b2, b3, b4, -⟩ := a2
        exact go (RS.setI (RS.setI r 97 (r.a 101 (c1 ++ c0).length)) 99 (r.i 99 - 1)) rfl (fun j q1 q2 => by rw [ri_ne q2, ri_ne q1]) (by rw [ri_at]; exact x1) (by rw [ri_ne (by decide), ri_at, show (r.a 101 (c1 ++ c0).length).toInt = m0 from b4]; exact a3) (lv_r2 x2 a1 g1)
      · exact go (RS.setI r 99 (r.i 99 - 1)) rfl (fun j q1 q2 => by rw [ri_ne q2]) (by rw [ri_at]; exact x1) (by rw [ri_ne (by decide)]; exact a3) (lv_r3 x2 a1 g1)
/-- GOTO against GO: no frame is left -/
def UGo3 (s0 : CS) (r0 : RS) (AL : Als) (p q h w : Nat) (c : List Ent) : Prop := s0.a 15 p = 30 ∧ r0.a 21 q = 36 ∧ ∃ c1 c0 : List Ent, c = c1 ++ c0 ∧ (∀ e ∈ c1, 3 < e.k) ∧ (r0.a 23 q).toInt = (c0.length : Int) ∧ JX s0 AL (s0.a 16 p) (r0.a 22 q) h w 1 0 c0
theorem u_go3 {N H n : Nat} (hN : 10000000000 ≤ N) {D : Nat → List Nat} {T : Int32 × CS} {s0 : CS} {r0 : RS} {nm : Nat → Nat → Prop} {AL : Als} {s : CS} {r : RS} {mu : Nat → Nat} {h p q w g : Nat} {c : List Ent} {x : Int32} {U : Int32 × RS} (hct : HCT nm AL) (pt : PTX N H D T s0 r0 nm AL s r mu h p q w g c x) (hq : (q : Int) < (r0.i 20).toInt) (u : UGo3 s0 r0 AL p q h w c) (e : f_X12_run_122 N n r = some U) : NXTW N H D T s0 r0 nm AL n U := by
  obtain ⟨y1, y2, c1, c0, ec, hk, y3, p', q', w', ⟨y4, y5⟩, y6, y7⟩ := u
  obtain ⟨m, S, V, hn, ⟨e1, e2, e3, e4⟩, ⟨v1, v2, v3⟩, ⟨o1, o2⟩, oc, ⟨hp, hq3⟩, x1⟩ := pt_tick hN hct pt hq (by omega) e
  have rf := pt.2.1
  have h21 : r.a 21 q = r0.a 21 q := by rw [rf.2 21 (by decide)]
  have h22 : r.a 22 q = r0.a 22 q := by rw [rf.2 22 (by decide)]
  have h23 : r.a 23 q = r0.a 23 q := by rw [rf.2 23 (by decide)]
  have mc := pt.2.2.1.1
  obtain ⟨-, ck, -⟩ := hct _ _ _ _ _ _ pt.2.2.2.2.1
  obtain ⟨t1, t2, t3⟩ := un_nx mc (by omega) (by omega)
  have dy := pt.2.2.1.2.1.ex ck t2 t3
  have tr := pt.2.2.1.2.2.ex t2 t3
  have gn := gcr_nn (g := g)
  have gn' := gpo_nn (g := g)
  have b6 := pt.2.2.2.2.2
  have lv := xa_36 (r := rNx r) (by rw [mc.clq]; exact h21.trans y2) v1
  rw [mc.clq] at lv
  obtain ⟨W, hW⟩ : ∃ W, W = RS.setI (RS.setI (RS.setI (rNx r) 110 1) 111 ((rNx r).a 22 q)) 112 ((rNx r).a 23 q) := ⟨_, rfl⟩
  rw [← hW] at lv
  have eS : S = CS.setI (cNx s) 66 (cTg s (cAr s)) := xi_30 (o1.trans y1) e1
  have exW : EXB nm S W mu AL h c (-(gcr g)) := (t1.exb dy tr).wpl (by
    rw [eS, hW]
    exact ⟨fun j a _ _ _ => ci_ne _ _ _ a, rfl, ⟨rfl, rfl, rfl, rfl⟩, fun j _ a => by rw [ri_ne (by omega), ri_ne (by omega), ri_ne (by omega)], rfl⟩)
  have W110 : W.i 110 = 1 := by rw [hW, ri_ne (by decide), ri_ne (by decide), ri_at]
  have W111 : W.i 111 = r0.a 22 q := by
    rw [hW, ri_ne (by decide), ri_at]
    exact h22
  have W112 : W.i 112 = r0.a 23 q := by
    rw [hW, ri_at]
    exact h23
  have W80 : W.i 80 = r.i 80 := by rw [hW, ri_ne (by decide), ri_ne (by decide), ri_ne (by decide), rNx_i (by decide)]
  clear hW
  rw [ec] at exW b6
  obtain ⟨x72, ⟨xv, xm, xn⟩, ⟨⟨d1, ⟨d2, d2'⟩, d3, ⟨d4, d5⟩, d6, d7⟩, ⟨q1, q2, q3, q4, q5, q6⟩⟩, xt⟩ := exW
  obtain ⟨k1, k2, k3, k4, k5⟩ := rows_eq (r := W) (c0 := c0) hk
  rw [k4] at b6
  rw [k1] at d2
  rw [k2] at q3 q4
  rw [k3] at d5
  obtain ⟨g1, g2, g3, g4, g5⟩ := lv_rows c1 N W V hk d1 d2' W110 (by rw [W112]; exact y3) lv
  have v80 : V.i 80 = r.i 80 := (g4 80 (by decide) (by decide) (by decide)).trans W80
  have i85 := g4 85 (by decide) (by decide) (by decide)
  have i95 := g4 95 (by decide) (by decide) (by decide)
  have ex : EXB nm S V mu AL h c0 0 := by
    refine ⟨x72, ⟨xv.of rfl rfl (g4 93 (by decide) (by decide) (by decide)) (by rw [g5]), xm.of rfl rfl rfl (g4 80 (by decide) (by decide) (by decide)) (g4 81 (by decide) (by decide) (by decide)) (by rw [g5]) (by rw [g5]), by rw [g5]; exact xn⟩, ⟨⟨g3, ⟨d2, g2⟩, d3.trans (hS_of (by rw [g5]) 8).symm, ⟨by rw [i85]; exact d4, by rw [i85, g4 80 (by decide) (by decide) (by decide)]; omega⟩, ?_, (g4 115 (by decide) (by decide) (by decide)).trans d7⟩, ⟨by rw [i95]; exact q1, by rw [i95]; exact q2, by rw [i95]; exact q3, q4, by rw [i95, g5]; exact q5, by rw [i95]; exact (k5 _ q6).of (fun k _ => by rw [g5])⟩⟩, xt.of (fun _ _ => rfl) (fun _ _ => rfl) ⟨fun j hj => g4 j (by omega) (by omega) (by omega), fun k _ => by rw [g5]⟩⟩
    unfold MUI at *
    rw [i85]
    exact d6
  refine Or.inl ⟨m, S, V, mu, h, p', q', w', 0, c0, x + 1, by omega, ⟨e3 x72, v3, ex.syn (by rw [eS, ci_ne _ _ _ (by decide)]; exact t1.1.1.2) (by rw [eS, ci_at, oc, o2]; exact y4) (by rw [g1, W111]; exact y5), BTP.no (by decide), y7, ?_⟩, v2⟩
  rw [v80, x1]
  show x.toInt + 1 + (fps c0 : Int) + w' + 0 ≤ _
  omega
/-- the class fills a row of cells -/
theorem xi_36 {N : Nat} {s : CS} {R : Unit × CS} (h : cOp s = 36) (e : f_X3_instruction N s = some R) : f_X3_fillRow N (cNx s) (cAr s) = some R := by
  have z := xi_ste (by rw [h]; decide) (by rw [h]; decide) (by rw [h]; decide) e
  rw [h] at z
  unfold f_X3_steer at z
  rw [if_neg (by decide), if_neg (by decide), if_neg (by decide), if_neg (by decide), if_neg (by decide), if_neg (by decide), if_pos rfl] at z
  exact ob_un z
theorem fill_c {N b : Nat} {x1 : Int32} (hb : x1.toInt = (b : Int)) : ∀ (k m : Nat) (s : CS) (x3 : Int32) (h : Nat) (R : Unit × CS), x3.toInt = (k : Int) - 1 → (s.i 65).toInt = (h : Int) + k → h + k ≤ 600 → b + 2 + k ≤ 720 → f_X3_fillRow_29 N m s x1 x3 = some R → (∀ j : Nat, j ≠ 65 → R.2.i j = s.i j) ∧ (R.2.i 65).toInt = (h : Int) ∧ (∀ j : Nat, j ≠ 59 → R.2.a j = s.a j) ∧ (R.2.r = s.r ∧ R.2.w = s.w ∧ R.2.o = s.o ∧ R.2.ot = s.ot ∧ R.2.oa = s.oa) ∧ (∀ j : Nat, j < k → R.2.a 59 (b + 2 + j) = s.a 60 (h + j)) ∧ ∀ j : Nat, j < b + 2 ∨ b + 2 + k ≤ j → R.2.a 59 j = s.a 59 j := by
  intro k
  induction k with
  | zero =>
    intro m s x3 h R hx h65 h6 h7 e
    cases m with
    | zero => cases e
    | succ m =>
      have e' : b_X3_fillRow_29 N (f_X3_fillRow_29 N m) s x1 x3 = some R := e
      unfold b_X3_fillRow_29 at e'
      rw [if_pos (by rw [Int32.lt_iff_toInt_lt, z_t0]; omega)] at e'
      rw [← Option.some.inj e']
      exact ⟨fun _ _ => rfl, by show (s.i 65).toInt = (h : Int); omega, fun _ _ => rfl, ⟨rfl, rfl, rfl, rfl, rfl⟩, fun j hj => absurd hj (Nat.not_lt_zero j), fun _ _ => rfl⟩
  | succ k ih =>
    intro m s x3 h R hx h65 h6 h7 e
    cases m with
    | zero => cases e
    | succ m =>
      have e' : b_X3_fillRow_29 N (f_X3_fillRow_29 N m) s x1 x3 = some R := e
      unfold b_X3_fillRow_29 at e'
      rw [if_neg (by rw [Int32.lt_iff_toInt_lt, z_t0]; omega), e_cPo, ob_some] at e'
      have em : ((-1 : Int32)).toInt = -1 := by decide
      have e2 : (2 : Int32).toInt = 2 := by decide
      have a1 : (x1 + 2).toInt = (b : Int) + 2 := by rw [toInt_add] <;> rw [e2] <;> omega
      have a2 : (x1 + 2 + x3).toInt = ((b + 2 + k : Nat) : Int) := by rw [toInt_add] <;> rw [a1] <;> omega
      have ct : cTp s = s.a 60 (h + k) := cTp_at (h := h + k) (by omega) (by omega)
      have gp : gPut ((cPo s).a 59) 720 (x1 + 2 + x3) (cTp s) = upd (s.a 59) (b + 2 + k) (s.a 60 (h + k)) := by
        unfold gPut
        rw [if_pos ⟨by omega, by omega⟩, cl_nat a2, ct]
        rfl
      have e3 : f_X3_fillRow_29 N m (CS.putA (cPo s) 59 (upd (s.a 59) (b + 2 + k) (s.a 60 (h + k)))) x1 (x3 + -1) = some R := by
        rw [← gp]
        exact e'
      obtain ⟨Y, hY⟩ : ∃ Y, Y = CS.putA (cPo s) 59 (upd (s.a 59) (b + 2 + k) (s.a 60 (h + k))) := ⟨_, rfl⟩
      rw [← hY] at e3
      have Yi : ∀ j : Nat, j ≠ 65 → Y.i j = s.i j := fun j a => by
        rw [hY]
        exact cPo_i a
      have Y65 : (Y.i 65).toInt = (h : Int) + k := by
        rw [hY]
        show ((CS.setI s 65 (s.i 65 - 1)).i 65).toInt = _
        rw [ci_at]
        exact sub_n1 (c := h + k) (by omega)
      have Ya : ∀ j : Nat, j ≠ 59 → Y.a j = s.a j := fun j a => by
        rw [hY, cpA_ne a]
        rfl
      have Y59 : ∀ j : Nat, Y.a 59 j = if j = b + 2 + k then s.a 60 (h + k) else s.a 59 j := fun j => by
        rw [hY]
        rfl
      have Yr : Y.r = s.r ∧ Y.w = s.w ∧ Y.o = s.o ∧ Y.ot = s.ot ∧ Y.oa = s.oa := by
        rw [hY]
        exact ⟨rfl, rfl, rfl, rfl, rfl⟩
      clear hY
      obtain ⟨i1, i2, i3, ⟨i4, i5, i6, i7, i8⟩, i9, i10⟩ := ih m Y (x3 + -1) h R (by rw [toInt_add] <;> rw [em] <;> omega) Y65 (by omega) (by omega) e3
      obtain ⟨r1, r2, r3, r4, r5⟩ := Yr
      refine ⟨fun j a => (i1 j a).trans (Yi j a), i2, fun j a => (i3 j a).trans (Ya j a), ⟨i4.trans r1, i5.trans r2, i6.trans r3, i7.trans r4, i8.trans r5⟩, fun j hj => ?_, fun j hj => ?_⟩
      · by_cases z : j = k
        · rw [z, i10 (b + 2 + k) (by omega), Y59, if_pos rfl]
        · rw [i9 j (by omega), Ya 60 (by decide)]
      · rw [i10 j (by omega), Y59, if_neg (by omega)]
/-- the reference: values wait -/
theorem wait_r {N : Nat} {x2 x4 : Int32} {cnt h m0 : Nat} (h2 : x2.toInt = (cnt : Int)) (h6 : h + cnt ≤ 600) : ∀ (d n : Nat) (r V : RS) (x5 : Int32) (j : Nat), j + d = cnt → x5.toInt = (j : Int) → (r.i 93).toInt = (h : Int) + cnt → (r.i 97).toInt = (m0 : Int) + j → f_X12_others_85 N n r x2 x4 x5 = some V → ∃ (R : RS) (P : Int32 × RS), f_X12_record N (RS.setI R 93 (R.i 93 - x2)) 2 x4 x4 (R.i 97) = some P ∧ V = P.2 ∧ (∀ i : Nat, i ≠ 97 → R.i i = r.i i) ∧ (R.i 97).toInt = (m0 : Int) + cnt ∧ (∀ k : Nat, k ≠ 98 → R.a k = r.a k) ∧ (∀ i : Nat, i < m0 + j → R.a 98 i = r.a 98 i) ∧ ∀ i : Nat, j ≤ i → i < cnt → R.a 98 (m0 + i) = r.a 94 (h + i) := by
  intro d
  induction d with
  | zero =>
    intro n r V x5 j hj h5 h93 h97 g
    cases n with
    | zero => cases g
    | succ n =>
      have g' : b_X12_others_85 N (f_X12_others_85 N n) r x2 x4 x5 = some V := g
      unfold b_X12_others_85 at g'
      rw [if_pos (by rw [Int32.le_iff_toInt_le]; omega)] at g'
      obtain ⟨P, p1, p2⟩ := hf_bind g'
      exact ⟨r, P, p1, (Option.some.inj p2).symm, fun _ _ => rfl, by omega, fun _ _ => rfl, fun _ _ => rfl, fun i h1 h3 => by omega⟩
  | succ d ih =>
    intro n r V x5 j hj h5 h93 h97 g
    cases n with
    | zero => cases g
    | succ n =>
      have g' : b_X12_others_85 N (f_X12_others_85 N n) r x2 x4 x5 = some V := g
      unfold b_X12_others_85 at g'
      rw [if_neg (by rw [Int32.le_iff_toInt_le]; omega)] at g'
      obtain ⟨-, g1⟩ := hf_ite g'
      obtain ⟨i46, g2⟩ := hf_ite g1
      have l46 : m0 + j < 460 := by
        have := i46.2
        omega
      have a1 : (r.i 93 - x2).toInt = (h : Int) := by rw [toInt_sub] <;> rw [h2] <;> omega
      have a2 : (r.i 93 - x2 + x5).toInt = ((h + j : Nat) : Int) := by rw [toInt_add] <;> rw [a1] <;> omega
      have a3 : (r.i 97).toInt = ((m0 + j : Nat) : Int) := by omega
      rw [cl_nat a2, cl_nat a3] at g2
      obtain ⟨Y, hY⟩ : ∃ Y, Y = RS.setI (RS.setA r 98 (m0 + j) (r.a 94 (h + j))) 97 (r.i 97 + 1) := ⟨_, rfl⟩
      rw [← hY] at g2
      have Yi : ∀ i : Nat, i ≠ 97 → Y.i i = r.i i := fun i a => by
        rw [hY, ri_ne a]
        rfl
      have Y97 : (Y.i 97).toInt = (m0 : Int) + (j + 1 : Nat) := by
        rw [hY, ri_at, ad1 (by omega) (by omega), h97]
        omega
      have Ya : ∀ k : Nat, k ≠ 98 → Y.a k = r.a k := fun k a => by
        rw [hY]
        exact setA_nk (s := r) a
      have Y98 : ∀ i : Nat, Y.a 98 i = if i = m0 + j then r.a 94 (h + j) else r.a 98 i := fun i => by
        rw [hY]
        show (RS.setA r 98 (m0 + j) (r.a 94 (h + j))).a 98 i = _
        by_cases z : i = m0 + j
        · rw [z, setA_at, if_pos rfl]
        · rw [setA_ne z, if_neg z]
      clear hY
      obtain ⟨R, P, r1, r2, r3, r4, r5, r6, r7⟩ := ih n Y V (x5 + 1) (j + 1) (by omega) (by rw [ad1 (by omega) (by omega), h5]; omega) (by rw [Yi 93 (by decide)]; exact h93) Y97 g2
      refine ⟨R, P, r1, r2, fun i a => (r3 i a).trans (Yi i a), r4, fun k a => (r5 k a).trans (Ya k a), fun i hi => ?_, fun i h1 h3 => ?_⟩
      · rw [r6 i (by omega), Y98, if_neg (by omega)]
      · by_cases z : i = j
        · rw [z, r6 (m0 + j) (by omega), Y98, if_pos rfl]
        · rw [r7 i (by omega) h3, Ya 94 (by decide)]
