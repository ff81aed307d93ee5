/-! both machines: a whole run -/
def UNI (s0 : CS) (r0 : RS) (nm : Nat → Nat → Prop) (AL : Als) (p q h w g : Nat) (c : List Ent) : Prop := (UEnd s0 p q w r0 ∨ UCgo s0 AL p q h w c) ∨ ((q : Int) < (r0.i 20).toInt ∧ (UPush s0 r0 AL p q h w c ∨ ULoad s0 r0 nm AL p q h w c ∨ UStor s0 r0 nm AL p q h w c ∨ UNeg s0 r0 AL p q h w g c ∨ UAri s0 r0 AL p q h w c ∨ UCau s0 r0 AL p q h w c ∨ UKep s0 r0 AL p q h w g c ∨ UJmp s0 r0 AL p q h w c ∨ UJz s0 r0 AL p q h w g c ∨ UOut s0 r0 AL p q h w c ∨ UJnf s0 r0 AL p q h w g c ∨ UJnb s0 r0 AL p q h w g c ∨ UAsr s0 r0 AL p q h w c ∨ URet s0 r0 AL p q h w c ∨ UGo s0 r0 AL p q h w c ∨ URai s0 r0 AL p q h w c ∨ URa0 s0 r0 AL p q h w c ∨ UDiv s0 r0 AL p q h w c ∨ UStp s0 r0 AL p q h w c ∨ UFor s0 r0 AL p q h w c ∨ UAga s0 r0 AL p q h w c ∨ UTak s0 r0 AL p q h w g c ∨ UTry s0 r0 AL p q h w g c ∨ UOpe s0 r0 AL p q h w c ∨ UEnc s0 r0 AL p q h w c ∨ UEnb s0 r0 AL p q h w c ∨ UEnf s0 r0 AL p q h w c ∨ URel s0 r0 AL p q w h c ∨ UAre s0 r0 AL p q h w c ∨ URwp r0 AL p q h w c ∨ UGo3 s0 r0 AL p q h w c ∨ URow s0 r0 AL p q h w c ∨ URwn s0 r0 nm AL p q h w c ∨ UCho s0 r0 AL p q h w c ∨ URkp r0 AL p q h w g c))
/-- both codes belong together -/
def CODW (s0 : CS) (r0 : RS) (nm : Nat → Nat → Prop) (AL : Als) : Prop := HCT nm AL ∧ NMP nm ∧ (∀ (p q h w g : Nat) (c : List Ent), AL p q h w g c → UNI s0 r0 nm AL p q h w g c) ∧ ∃ w : Nat, w ≤ 10000 ∧ AL 0 0 0 w 0 []
theorem u_any {N H n : Nat} (hN : 10000000000 ≤ N) {D : Nat → List Nat} {T : Int32 × CS} {s0 : CS} {r0 : RS} {nm : Nat → Nat → Prop} {AL : Als} {s : CS} {r : RS} {mu : Nat → Nat} {h p q w g : Nat} {c : List Ent} {x : Int32} {U : Int32 × RS} (cod : CODW s0 r0 nm AL) (pt : PTX N H D T s0 r0 nm AL s r mu h p q w g c x) (e : f_X12_run_122 N n r = some U) : NXTW N H D T s0 r0 nm AL n U ∨ ∃ (S : CS) (p' w' : Nat) (x' : Int32), w' < w ∧ PTX N H D T s0 r0 nm AL S r mu h p' q w' 0 c x' := by
  obtain ⟨hct, nn, un, -⟩ := cod
  rcases un _ _ _ _ _ _ pt.2.2.2.2.1 with (u | u) | ⟨hq, u⟩
  · exact Or.inl (u_end hN hct pt u e)
  · exact Or.inr (u_cgo hN hct pt u)
  refine Or.inl ?_
  rcases u with u | u | u | u | u | u | u | u | u | u | u | u | u | u | u | u | u | u | u | u | u | u | u | u | u | u | u | u | u | u | u | u | u | u | u
  · exact u_push hN hct pt hq u e
  · exact u_load hN hct nn pt hq u e
  · exact u_stor hN hct nn pt hq u e
  · exact u_neg hN hct pt hq u e
  · exact u_ari hN hct pt hq u e
  · exact u_cau hN hct pt hq u e
  · exact u_kep hN hct pt hq u e
  · exact u_jmp hN hct pt hq u e
  · exact u_jz hN hct pt hq u e
  · exact u_out hN hct pt hq u e
  · exact u_jnf hN hct pt hq u e
  · exact u_jnb hN hct pt hq u e
  · exact u_asr hN hct pt hq u e
  · exact u_ret hN hct pt hq u e
  · exact u_go hN hct pt hq u e
  · exact u_rai hN hct pt hq u e
  · exact u_ra0 hN hct pt hq u e
  · exact u_div hN hct pt hq u e
  · exact u_stp hN hct pt hq u e
  · exact u_for hN hct pt hq u e
  · exact u_aga hN hct pt hq u e
  · exact u_tak hN hct pt hq u e
  · exact u_try hN hct pt hq u e
  · exact u_ope hN hct pt hq u e
  · exact u_enc hN hct pt hq u e
  · exact u_enb hN hct pt hq u e
  · exact u_enf hN hct pt hq u e
  · exact u_rel hN hct pt hq u e
  · exact u_are hN hct pt hq u e
  · exact u_rwp hct pt hq u e
  · exact u_go3 hN hct pt hq u e
  · exact u_row hN hct pt hq u e
  · exact u_rwn hN hct nn pt hq u e
  · exact u_cho hN hct pt hq u e
  · exact u_rkp hct pt hq u e
theorem sim {N H : Nat} (hN : 10000000000 ≤ N) {D : Nat → List Nat} {T : Int32 × CS} {s0 : CS} {r0 : RS} {nm : Nat → Nat → Prop} {AL : Als} {U : Int32 × RS} (cod : CODW s0 r0 nm AL) : ∀ (b n : Nat), n < b → ∀ (s : CS) (r : RS) (mu : Nat → Nat) (h p q w g : Nat) (c : List Ent) (x : Int32), PTX N H D T s0 r0 nm AL s r mu h p q w g c x → f_X12_run_122 N n r = some U → FIE T U := by
  intro b
  induction b with
  | zero =>
    intro n hn
    omega
  | succ b ih =>
    intro n hn
    have one : ∀ (k : Nat) (s : CS) (r : RS) (mu : Nat → Nat) (h p q w g : Nat) (c : List Ent) (x : Int32), w ≤ k → PTX N H D T s0 r0 nm AL s r mu h p q w g c x → f_X12_run_122 N n r = some U → FIE T U := by
      intro k
      induction k with
      | zero =>
        intro s r mu h p q w g c x hk pt e
        rcases u_any hN cod pt e with (⟨m, s', r', mu', h', p', q', w', g', c', x', hm, pt', e'⟩ | z) | ⟨S, p', w', x', l, -⟩
        · exact ih m (by omega) s' r' mu' h' p' q' w' g' c' x' pt' e'
        · exact z
        · omega
      | succ k ik =>
        intro s r mu h p q w g c x hk pt e
        rcases u_any hN cod pt e with (⟨m, s', r', mu', h', p', q', w', g', c', x', hm, pt', e'⟩ | z) | ⟨S, p', w', x', l, pt'⟩
        · exact ih m (by omega) s' r' mu' h' p' q' w' g' c' x' pt' e'
        · exact z
        · exact ik S r mu h p' q w' 0 c x' (by omega) pt' e
    intro s r mu h p q w g c x pt e
    exact one w s r mu h p q w g c x (Nat.le_refl _) pt e
/-- the class begins: cells are 0 -/
theorem pf_zero {N : Nat} {s : CS} {x1 x2 : Int32} {T : Int32 × CS} : ∀ (n : Nat) (X : CS) (x3 : Int32), 0 ≤ x3.toInt → PV s X → (∀ k : Nat, (k : Int) < x3.toInt → X.a 59 k = 0) → (∀ j : Nat, j ≠ 59 → X.a j = s.a j) → X.i = s.i → f_X3_perform_2 N n X x1 x2 x3 = some T → ∃ Y : CS, f_X3_perform_35 N Y x1 x2 = some T ∧ PV s Y ∧ (∀ k : Nat, k < 720 → (k : Int) < (s.i 23).toInt → Y.a 59 k = 0) ∧ (∀ j : Nat, j ≠ 59 → Y.a j = s.a j) ∧ Y.i = s.i := by
  intro n
  induction n with
  | zero =>
    intro X x3 _ _ _ _ _ e
    cases e
  | succ n ih =>
    intro X x3 h0 pv hz ha hi e
    have e' : b_X3_perform_2 N (f_X3_perform_2 N n) X x1 x2 x3 = some T := e
    unfold b_X3_perform_2 at e'
    have e7 : (720 : Int32).toInt = 720 := by decide
    by_cases c1 : X.i 23 ≤ x3
    · rw [if_pos c1] at e'
      have l := le_int c1
      rw [hi] at l
      exact ⟨X, e', pv, fun k _ hk => hz k (by omega), ha, hi⟩
    · rw [if_neg c1] at e'
      by_cases c2 : (720 : Int32) ≤ x3
      · rw [if_pos c2] at e'
        have l := le_int c2
        exact ⟨X, e', pv, fun k hk _ => hz k (by omega), ha, hi⟩
      · rw [if_neg c2] at e'
        have l := lt_int (Int32.not_le.mp c2)
        obtain ⟨-, e2⟩ := hf_ite e'
        obtain ⟨k3, hk3⟩ : ∃ k3 : Nat, x3.toInt = (k3 : Int) := ⟨x3.toInt.toNat, by omega⟩
        rw [cl_nat hk3] at e2
        have a59 : ∀ k : Nat, (CS.setA X 59 k3 0).a 59 k = if k = k3 then 0 else X.a 59 k := fun k => rfl
        refine ih (CS.setA X 59 k3 0) (x3 + 1) (by rw [ad1 h0 (by omega)]; omega) (pv.A 59 _ _ (by decide)) (fun k hk => ?_) (fun j hj => ?_) hi e2
        · rw [ad1 h0 (by omega)] at hk
          rw [a59]
          by_cases z : k = k3
          · rw [if_pos z]
          · rw [if_neg z]
            exact hz k (by omega)
        · exact (if_neg hj : (CS.setA X 59 k3 0).a j = X.a j).trans (ha j hj)
theorem pf_start {N H : Nat} {D : Nat → List Nat} {s Y : CS} {x1 x2 : Int32} {T : Int32 × CS} (hr : REFS s) (hm : ROOM H s) (hw : WTC s D) (pv : PV s Y) (ha : ∀ j : Nat, j ≠ 59 → Y.a j = s.a j) (hi : Y.i = s.i) (e : f_X3_perform_35 N Y x1 x2 = some T) : ∃ S : CS, CRN N H D T s S 0 ∧ ((S.i 65 = 0 ∧ S.i 66 = 0 ∧ S.i 67 = 0 ∧ S.i 68 = 0 ∧ S.i 69 = 0 ∧ S.i 70 = 0 ∧ S.i 71 = 0) ∧ S.i 72 = -1 ∧ S.i 73 = 0) ∧ (∀ j : Nat, j < 59 → S.i j = s.i j) ∧ (∀ j : Nat, j ≠ 59 → S.a j = s.a j) ∧ (S.a 59 0 = x1 ∧ S.a 59 1 = x2 ∧ ∀ k : Nat, 2 ≤ k → S.a 59 k = Y.a 59 k) := by
  unfold f_X3_perform_35 at e
  obtain ⟨A, hA⟩ : ∃ A, A = CS.putA (CS.putA Y 59 (gPut (Y.a 59) 720 0 x1)) 59 (gPut (CS.a (CS.putA Y 59 (gPut (Y.a 59) 720 0 x1)) 59) 720 1 x2) := ⟨_, rfl⟩
  have pA : PV s A := by rw [hA]; exact pv.tr (((PV.rf Y).a 59 _ (by decide)).a 59 _ (by decide))
  have Ai : A.i = s.i := by
    rw [hA]
    exact hi
  have Aa : ∀ j : Nat, j ≠ 59 → A.a j = s.a j := fun j hj => by
    rw [hA, cpA_ne hj, cpA_ne hj]
    exact ha j hj
  have e1 : (1 : Int32).toInt = ((1 : Nat) : Int) := by decide
  have e0 : (0 : Int32).toInt = ((0 : Nat) : Int) := by decide
  have A59 : ∀ k : Nat, A.a 59 k = if k = 1 then x2 else if k = 0 then x1 else Y.a 59 k := fun k => by
    rw [hA]
    show gPut (gPut (Y.a 59) 720 0 x1) 720 1 x2 k = _
    unfold gPut
    rw [if_pos ⟨by decide, by decide⟩, if_pos ⟨by decide, by decide⟩, cl_nat e1, cl_nat e0]
    rfl
  rw [← hA] at e
  clear hA
  obtain ⟨B, hB⟩ : ∃ B, B = CS.setI (CS.setW (CS.setI (CS.setI (CS.setI (CS.setI (CS.setI (CS.setI (CS.setI (CS.setI (CS.setI A 65 0) 66 0) 67 0) 68 0) 69 0) 70 0) 71 0) 73 0) 74 0) none) 72 (-1) := ⟨_, rfl⟩
  rw [← hB] at e
  have ti : ∀ j : Nat, j < 65 ∨ j = 75 → B.i j = A.i j := fun j q => by rw [hB, ci_ne _ _ _ (by omega), ci_setW, ci_ne _ _ _ (by omega), ci_ne _ _ _ (by omega), ci_ne _ _ _ (by omega), ci_ne _ _ _ (by omega), ci_ne _ _ _ (by omega), ci_ne _ _ _ (by omega), ci_ne _ _ _ (by omega), ci_ne _ _ _ (by omega), ci_ne _ _ _ (by omega)]
  have t65 : B.i 65 = 0 := by rw [hB, ci_ne _ _ _ (by decide), ci_setW, ci_ne _ _ _ (by decide), ci_ne _ _ _ (by decide), ci_ne _ _ _ (by decide), ci_ne _ _ _ (by decide), ci_ne _ _ _ (by decide), ci_ne _ _ _ (by decide), ci_ne _ _ _ (by decide), ci_ne _ _ _ (by decide), ci_at]
  have t66 : B.i 66 = 0 := by rw [hB, ci_ne _ _ _ (by decide), ci_setW, ci_ne _ _ _ (by decide), ci_ne _ _ _ (by decide), ci_ne _ _ _ (by decide), ci_ne _ _ _ (by decide), ci_ne _ _ _ (by decide), ci_ne _ _ _ (by decide), ci_ne _ _ _ (by decide), ci_at]
  have t67 : B.i 67 = 0 := by rw [hB, ci_ne _ _ _ (by decide), ci_setW, ci_ne _ _ _ (by decide), ci_ne _ _ _ (by decide), ci_ne _ _ _ (by decide), ci_ne _ _ _ (by decide), ci_ne _ _ _ (by decide), ci_ne _ _ _ (by decide), ci_at]
  have t68 : B.i 68 = 0 := by rw [hB, ci_ne _ _ _ (by decide), ci_setW, ci_ne _ _ _ (by decide), ci_ne _ _ _ (by decide), ci_ne _ _ _ (by decide), ci_ne _ _ _ (by decide), ci_ne _ _ _ (by decide), ci_at]
  have t69 : B.i 69 = 0 := by rw [hB, ci_ne _ _ _ (by decide), ci_setW, ci_ne _ _ _ (by decide), ci_ne _ _ _ (by decide), ci_ne _ _ _ (by decide), ci_ne _ _ _ (by decide), ci_at]
  have t70 : B.i 70 = 0 := by rw [hB, ci_ne _ _ _ (by decide), ci_setW, ci_ne _ _ _ (by decide), ci_ne _ _ _ (by decide), ci_ne _ _ _ (by decide), ci_at]
  have t71 : B.i 71 = 0 := by rw [hB, ci_ne _ _ _ (by decide), ci_setW, ci_ne _ _ _ (by decide), ci_ne _ _ _ (by decide), ci_at]
  have t73 : B.i 73 = 0 := by rw [hB, ci_ne _ _ _ (by decide), ci_setW, ci_ne _ _ _ (by decide), ci_at]
  have t72 : B.i 72 = -1 := by rw [hB, ci_at]
  have tw : B.w = none := by rw [hB, cw_setI, cw_at]
  have base : B.hs = A.hs ∧ B.L = A.L ∧ B.k = A.k ∧ B.o = A.o ∧ B.ol = A.ol ∧ B.ot = A.ot ∧ B.r = A.r ∧ B.b = A.b ∧ B.l = A.l ∧ B.a = A.a := by
    rw [hB]
    refine ⟨?_, ?_, ?_, ?_, ?_, ?_, ?_, ?_, ?_, ?_⟩
    · rw [chs_setI, chs_setW, chs_setI, chs_setI, chs_setI, chs_setI, chs_setI, chs_setI, chs_setI, chs_setI, chs_setI]
    · rw [cL_setI, cL_setW, cL_setI, cL_setI, cL_setI, cL_setI, cL_setI, cL_setI, cL_setI, cL_setI, cL_setI]
    · rw [ck_setI, ck_setW, ck_setI, ck_setI, ck_setI, ck_setI, ck_setI, ck_setI, ck_setI, ck_setI, ck_setI]
    · rw [co_setI, co_setW, co_setI, co_setI, co_setI, co_setI, co_setI, co_setI, co_setI, co_setI, co_setI]
    · rw [col_setI, col_setW, col_setI, col_setI, col_setI, col_setI, col_setI, col_setI, col_setI, col_setI, col_setI]
    · rw [cot_setI, cot_setW, cot_setI, cot_setI, cot_setI, cot_setI, cot_setI, cot_setI, cot_setI, cot_setI, cot_setI]
    · rw [cr_setI, cr_setW, cr_setI, cr_setI, cr_setI, cr_setI, cr_setI, cr_setI, cr_setI, cr_setI, cr_setI]
    · rw [cb_setI, cb_setW, cb_setI, cb_setI, cb_setI, cb_setI, cb_setI, cb_setI, cb_setI, cb_setI, cb_setI]
    · rw [cl_setI, cl_setW, cl_setI, cl_setI, cl_setI, cl_setI, cl_setI, cl_setI, cl_setI, cl_setI, cl_setI]
    · rw [ca_setI, ca_setW, ca_setI, ca_setI, ca_setI, ca_setI, ca_setI, ca_setI, ca_setI, ca_setI, ca_setI]
  clear hB
  obtain ⟨b1, b2, b3, b4, b5, b6, b7, b9, b10, b11⟩ := base
  have ok' : ∀ {x t : Nat}, oK B x t = oK A x t := fun {x t} => by unfold oK; rw [b2, b3]
  have mr : MR A B := ⟨fun j hj => ti j (by omega), fun _ _ => by rw [b11], b9, b10, by rw [b7], fun x hx => ⟨by rw [ok']; exact hx, by rw [b4], by rw [b5]⟩⟩
  have rA := pA.refs hr
  have rT : REFS B := ⟨by rw [b1, b2]; exact rA.1, fun i x hi e => by rw [ok']; exact rA.2.1 i x hi (by rw [← b7]; exact e), by rw [b7]; exact rA.2.2.1, fun i x hi e => by rw [ok']; exact rA.2.2.2.1 i x hi (by rw [← b7]; exact e), by rw [b7]; exact rA.2.2.2.2.1, fun i x hi e => by rw [ok', ok', ok']; exact rA.2.2.2.2.2.1 i x hi (by rw [← b7]; exact e), by rw [b7]; exact rA.2.2.2.2.2.2.1, by unfold inP; rw [b6, b7]; exact rA.2.2.2.2.2.2.2.1, fun b q => by rw [tw] at q; cases q⟩
  have mT : ROOM H B := by
    have := pA.room hm
    unfold ROOM at *; rw [b1, b7]; exact this
  have ceq := pA.ceq.tr mr.ceq
  have wT := ceq.wt hw
  have mi : MI H B D (0 : Int32).toInt := by
    refine ⟨rT, mT, wT, by rw [t68]; decide, [], ?_, by show (0 : Nat) ≤ 22; omega, True.intro, Or.inl ⟨t73, True.intro, ?_⟩⟩
    · unfold dpI; rw [t67]; decide
    · unfold ONP
      rw [t66, z_t0]
      exact ⟨by omega, by omega, Or.inr ⟨wT.1, wT.2.1⟩⟩
  refine ⟨B, ⟨mi, pA.mr.tr mr, ⟨by decide, by decide⟩, N, e⟩, ⟨⟨t65, t66, t67, t68, t69, t70, t71⟩, t72, t73⟩, fun j hj => by rw [ti j (by omega), Ai], fun j hj => by rw [b11]; exact Aa j hj, ?_, ?_, fun k hk => ?_⟩
  · rw [b11, A59, if_neg (by decide), if_pos rfl]
  · rw [b11, A59, if_pos rfl]
  · rw [b11, A59, if_neg (by omega), if_neg (by omega)]
