/-! both readers: case and default where no switch is on top -/
theorem li_flt {N : Nat} {d : Int32} {B : CS} {b : RS} {t0 n : Nat} {L : List CEL} {x : Int} {S : CS} {s U : RS} {c1 : CEL} (hC : COR d B b t0 (c1 :: L) x S s) (hM : MLI c1 S s) (h36 : S.i 36 = 0 ∨ S.i 36 = 1) (hs : S.o c1.2.1 0 = 301 ∨ S.o c1.2.1 0 = 212 ∨ S.o c1.2.1 0 = 213 ∨ S.o c1.2.1 0 = 215 ∨ S.o c1.2.1 0 = 216) (k : S.i 43 = 219 ∨ S.i 43 = 220) (g : f_X12_parse_10 N n s = some U) : ¬ U.i 15 = 0 := by
  obtain ⟨no1, n305, ts, h64, hmode, -⟩ := hM
  have hv := hC.1
  obtain ⟨m1, e1, k1, m2, e2, k2, cst⟩ := STK.mem _ _ _ _ hC.2.1 c1 List.mem_cons_self
  have fb : ∃ tb : Nat, ceT c1 + wid (S.o c1.2.1 0) - 1 = tb + 1 ∧ s.a 64 tb = 3 ∧ s.a 65 tb = 1 := by
    have r := cst.2.2.1
    rcases hs with z | z | z | z | z
    · have wd : wid (S.o c1.2.1 0) = 2 := by rw [z]; rfl
      have y := (r.2.1 z).1
      exact ⟨ceT c1, by omega, y.1, y.2.1⟩
    · have wd : wid (S.o c1.2.1 0) = 3 := by rw [z]; rfl
      have y := (r.2.2.2.2.2.2.2.2.2.2.1 z).2.2.1
      exact ⟨ceT c1 + 1, by omega, y.1, y.2.1⟩
    · have wd : wid (S.o c1.2.1 0) = 3 := by rw [z]; rfl
      have y := ((r.2.2.2.2.2.2.2.2.2.2.2.2 (Or.inl z)).2.1 z).2.1.1
      exact ⟨ceT c1 + 1, by omega, y.1, y.2.1⟩
    · have wd : wid (S.o c1.2.1 0) = 3 := by rw [z]; rfl
      have y := ((r.2.2.2.2.2.2.2.2.2.2.2.2 (Or.inr (Or.inl z))).2.2.1 z).2.1
      exact ⟨ceT c1 + 1, by omega, y.1, y.2.1⟩
    · have wd : wid (S.o c1.2.1 0) = 3 := by rw [z]; rfl
      have y := ((r.2.2.2.2.2.2.2.2.2.2.2.2 (Or.inr (Or.inr (Or.inr z)))).2.2.2.2.1 z).2.1.1
      exact ⟨ceT c1 + 1, by omega, y.1, y.2.1⟩
  obtain ⟨tb, et, fb1, fb2⟩ := fb
  rw [et] at h64 hmode
  have ts' : tpI s = ((tb + 1 : Nat) : Int) := by
    rw [ts]
    omega
  have k9 := tk_is hv (a := 219) (b := 429) (Or.inr ⟨by decide, by decide⟩) (by decide)
  have k0 := tk_is hv (a := 220) (b := 430) (Or.inr ⟨by decide, by decide⟩) (by decide)
  have h10 : s.i 10 = 125 ∨ s.i 10 = 429 ∨ s.i 10 = 430 ∨ s.i 10 = 0 := by
    rcases k with z | z
    · exact Or.inr (Or.inl (k9.mp z))
    · exact Or.inr (Or.inr (Or.inl (k0.mp z)))
  have n125 : ¬ S.i 43 = 125 := by rcases k with z | z <;> rw [z] <;> decide
  obtain ⟨m0, V0, g0, n1, n2, n3, -⟩ := y_lend hv ts' h64 hmode h36 h10 g
  have fT := n3 tb (by omega)
  exact bl_flt n1 (t := tb) (by rw [n2]; omega) (fT.1.trans fb1) (fT.2.1.trans fb2) n125 g0
/-- the reference's switch wants case, default or its end -/
theorem sw_flt {N : Nat} {d : Int32} {S : CS} {V U : RS} {T m : Nat} (ev : ENV d S V) (tV : tpI V = (T : Int)) (v64 : V.a 64 T = 14) (v65 : V.a 65 T = 2) (n125 : ¬ V.i 10 = 125) (n429 : ¬ V.i 10 = 429) (n430 : ¬ V.i 10 = 430) (g0 : f_X12_parse_10 N m V = some U) : ¬ U.i 15 = 0 := by
  have h15 := ev.1.2.1
  obtain ⟨m2, V2, hV, g2⟩ := rl_14 g0 tV h15 v64
  unfold f_X12_groups at hV
  obtain ⟨-, hV⟩ := hf_ite hV
  rw [tp_nat tV, v65, if_neg (by decide), if_neg (by decide), if_pos rfl, if_neg n429, if_neg n430] at hV
  obtain ⟨p3, hsh, hV⟩ := hf_bind hV
  have z3 : ¬ p3.2.i 15 = 0 := by
    unfold f_X12_shut f_X12_shut_18 f_X12_need f_X12_need_27 f_X12_need_31 at hsh
    rw [if_pos h15, if_neg n125] at hsh
    obtain ⟨w, gw, hsh⟩ := hf_bind hsh
    obtain ⟨q, gq, gw⟩ := hf_bind gw
    obtain ⟨q1, q2⟩ := y_can0 gq
    rw [if_pos q1, if_neg q2] at gw
    cases gw
    have g2 : (if q.2.i 15 = 0 then some ((1 : Int32), q.2) else some (0, q.2)) = some p3 := (if_pos rfl).symm.trans hsh
    rw [if_neg q2] at g2
    rw [← Option.some.inj g2]
    exact q2
  refine u_flt g2 ?_
  obtain ⟨-, hV⟩ := hf_ite hV
  obtain ⟨-, hV⟩ := hf_ite hV
  obtain ⟨p25, hp, hV⟩ := hf_bind hV
  have z25 : ¬ p25.i 15 = 0 := krf_f_X12_patch N _ _ _ p25 hp z3
  have ov : ∀ (y W : RS) (w : Int32), ¬ y.i 15 = 0 → ((f_X12_over N y w).bind fun p => f_X12_groups_335 N p) = some W → ¬ W.i 15 = 0 := fun y W w hy h => by
    obtain ⟨p, hp, h⟩ := hf_bind h
    have h' : some p = some W := h
    rw [← Option.some.inj h']
    exact krf_f_X12_over N y w p hp hy
  by_cases c1' : p25.a 70 T = 1
  · rw [if_pos c1'] at hV
    exact ov _ _ _ (show ¬ (RS.setI (RS.setI p25 43 (p25.i 43 - 1)) 38 (p25.a 71 T)).i 15 = 0 from z25) hV
  · rw [if_neg c1'] at hV
    by_cases c2 : p25.a 68 T = 0
    · rw [if_pos c2] at hV
      exact ov _ _ _ (show ¬ (RS.setI (RS.setI p25 43 (p25.i 43 - 1)) 38 (p25.a 71 T)).i 15 = 0 from z25) hV
    · rw [if_neg c2] at hV
      split at hV
      · exact ov _ _ _ (show ¬ (RS.setI (RS.setI p25 43 (p25.i 43 - 1)) 38 (p25.a 71 T)).i 15 = 0 from z25) hV
      · exact ov _ _ _ (show ¬ (RS.setI (RS.setI p25 43 (p25.i 43 - 1)) 38 (p25.a 71 T)).i 15 = 0 from z25) hV
