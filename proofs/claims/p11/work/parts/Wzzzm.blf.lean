/-! both readers: the text ends inside a block -/
theorem e72_flt {N a : Nat} {S : CS} {R : Unit × CS} (k : ¬ S.i 43 = 125) (e : f_X7_endList_72 N S a = some R) : ¬ R.2.i 32 = 0 := by
  unfold f_X7_endList_72 at e
  obtain ⟨p4, e4, e⟩ := hf_bind e
  have z4 : ¬ p4.2.i 32 = 0 := by
    unfold f_X1_close f_X1_close_22 at e4
    rw [e_fnd0 k, ob_some, if_pos rfl] at e4
    obtain ⟨p, ep, e4⟩ := hf_bind e4
    rw [← Option.some.inj e4]
    exact (show ¬ p.2.i 32 = 0 from y_misp ep)
  obtain ⟨-, e⟩ := hf_ite e
  obtain ⟨X, hX⟩ : ∃ X, X = CS.setI p4.2 50 (p4.2.o a 3) := ⟨_, rfl⟩
  have zX : ¬ X.i 32 = 0 := by
    rw [hX]
    exact z4
  rw [← hX] at e
  clear hX
  by_cases c1 : X.o a 0 = 212
  · rw [if_pos c1] at e
    rw [kF_X7_endLock N X a R (ob_un e) zX]
    exact zX
  rw [if_neg c1] at e
  by_cases c2 : X.o a 0 = 213
  · rw [if_pos c2] at e
    rw [kF_X7_endGuarded N X a R (ob_un e) zX]
    exact zX
  rw [if_neg c2] at e
  by_cases c3 : X.o a 0 = 214
  · rw [if_pos c3] at e
    rw [kF_X6_pop N X R (ob_un e) zX]
    exact zX
  rw [if_neg c3] at e
  by_cases c4 : X.o a 0 = 215
  · rw [if_pos c4] at e
    rw [kF_X7_endGuarded N X a R (ob_un e) zX]
    exact zX
  rw [if_neg c4] at e
  by_cases c5 : X.o a 0 = 216
  · rw [if_pos c5] at e
    rw [kF_X7_endFinally N X a R (ob_un e) zX]
    exact zX
  rw [if_neg c5] at e
  by_cases c6 : X.o a 0 = 217
  · rw [if_pos c6] at e
    rw [kF_X6_pop N X R (ob_un e) zX]
    exact zX
  rw [if_neg c6] at e
  by_cases c7 : X.o a 0 = 218
  · rw [if_pos c7] at e
    rw [kF_X7_endSwitch N X a R (ob_un e) zX]
    exact zX
  rw [if_neg c7] at e
  rw [kF_X6_pop N X R (ob_un e) zX]
  exact zX
/-- the reference: BLOCK wants its sign -/
theorem bl_flt {N : Nat} {d : Int32} {S : CS} {s U : RS} {n t : Nat} (hv : ENV d S s) (ht : tpI s = (t : Int)) (h64 : s.a 64 t = 3) (h65 : s.a 65 t = 1) (k : ¬ S.i 43 = 125) (g : f_X12_parse_10 N n s = some U) : ¬ U.i 15 = 0 := by
  have is := tk_is hv (a := 125) (b := 125) (Or.inl ⟨by decide, by decide⟩) (by decide)
  have k' : ¬ s.i 10 = 125 := fun q => k (is.mpr q)
  have h15 := hv.1.2.1
  obtain ⟨m2, V, hV, g2⟩ := rl_3 g ht h15 h64
  unfold f_X12_block at hV
  obtain ⟨-, hV⟩ := hf_ite hV
  rw [tp_nat ht, if_neg (by rw [h65]; decide)] at hV
  obtain ⟨p3, hsh, hV⟩ := hf_bind hV
  have z3 : ¬ p3.2.i 15 = 0 := by
    unfold f_X12_shut f_X12_shut_18 f_X12_need f_X12_need_27 f_X12_need_31 at hsh
    rw [if_pos h15, if_neg k'] at hsh
    obtain ⟨w, gw, hsh⟩ := hf_bind hsh
    obtain ⟨q, gq, gw⟩ := hf_bind gw
    obtain ⟨q1, q2⟩ := y_can0 gq
    rw [if_pos q1, if_neg q2] at gw
    cases gw
    have g2 : (if q.2.i 15 = 0 then some ((1 : Int32), q.2) else some (0, q.2)) = some p3 := (if_pos rfl).symm.trans hsh
    rw [if_neg q2] at g2
    rw [← Option.some.inj g2]
    exact q2
  refine u_flt g2 ?_
  rw [← Option.some.inj hV]
  exact z3
/-- both fault -/
theorem en_blkF {N : Nat} {d : Int32} {B : CS} {b : RS} {t0 n : Nat} {L : List CEL} {x : Int} {S : CS} {s U : RS} {c1 : CEL} {R : Unit × CS} (hC : COR d B b t0 (c1 :: L) x S s) (hM : MLI c1 S s) (h36 : S.i 36 = 0 ∨ S.i 36 = 1) (h301 : S.o c1.2.1 0 = 301) (k0 : S.i 43 = 0) (e : f_X7_endList N S c1.2.1 = some R) (g : f_X12_parse_10 N n s = some U) : ¬ R.2.i 32 = 0 ∧ ¬ U.i 15 = 0 := by
  obtain ⟨no1, n305, ts, h64, hmode, -⟩ := hM
  have wd : wid (S.o c1.2.1 0) = 2 := by rw [h301]; rfl
  have ix : ceT c1 + wid (S.o c1.2.1 0) - 1 = ceT c1 + 1 := by omega
  rw [ix] at h64 hmode
  have ts' : tpI s = ((ceT c1 + 1 : Nat) : Int) := by rw [ts, wd]; omega
  have hv := hC.1
  have k10 := (tk_is hv (a := 0) (b := 0) (Or.inl ⟨by decide, by decide⟩) (by decide)).mp k0
  obtain ⟨m1, e1, k1, m2, e2, k2, cst⟩ := STK.mem _ _ _ _ hC.2.1 c1 List.mem_cons_self
  obtain ⟨⟨f1, f2, f3⟩, f4⟩ := cst.2.2.1.2.1 h301
  have n125 : ¬ S.i 43 = 125 := by rw [k0]; decide
  obtain ⟨m0, V0, g0, n1, n2, n3, -⟩ := y_lend hv ts' h64 hmode h36 (Or.inr (Or.inr (Or.inr k10))) g
  have fT := n3 (ceT c1) (by omega)
  refine ⟨?_, bl_flt n1 (by rw [n2]; omega) (fT.1.trans f1) (fT.2.1.trans f2) n125 g0⟩
  unfold f_X7_endList at e
  obtain ⟨-, e⟩ := hf_ite e
  rw [if_neg (by rw [h301]; decide), if_neg (by rw [h301]; decide)] at e
  exact e72_flt n125 e
