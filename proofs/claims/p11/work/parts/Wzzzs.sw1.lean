/-! both readers: a switch, its groups' step -/
/-- the reference stands at the switch's own frame, between two groups -/
def SWV (d : Int32) (T : Nat) (S : CS) (s V : RS) : Prop := ENV d S V ∧ tpI V = (T : Int) ∧ FRB T s V ∧ TBK s V ∧ (V.a 64 T = 14 ∧ V.a 65 T = 2 ∧ V.a 66 T = s.a 66 T ∧ V.a 67 T = s.a 67 T ∧ V.a 68 T = s.a 68 T ∧ V.a 70 T = S.i 36 ∧ V.a 71 T = s.a 71 T ∧ V.a 72 T = s.a 72 T) ∧ (phI V = phI s ∧ V.i 10 = s.i 10 ∧ V.i 11 = s.i 11 ∧ V.i 17 = s.i 17 ∧ V.i 19 = s.i 19 ∧ (∀ k : Nat, k ≠ 63 → k ≠ 75 → V.i k = s.i k) ∧ (∀ k : Nat, ¬ (64 ≤ k ∧ k ≤ 73) → V.a k = s.a k) ∧ V.b = s.b)
theorem sw_1 {N : Nat} {d : Int32} {B : CS} {b : RS} {t0 n : Nat} {L : List CEL} {x : Int} {S : CS} {s U : RS} {c1 : CEL} (hC : COR d B b t0 (c1 :: L) x S s) (hM : MLI c1 S s ∨ MSW c1 S s) (h36 : S.i 36 = 0 ∨ S.i 36 = 1) (h218 : S.o c1.2.1 0 = 218) (h10 : s.i 10 = 125 ∨ s.i 10 = 429 ∨ s.i 10 = 430 ∨ s.i 10 = 0) (g : f_X12_parse_10 N n s = some U) : ∃ (m : Nat) (V : RS), f_X12_parse_10 N m V = some U ∧ SWV d (ceT c1) S s V := by
  have hv := hC.1
  obtain ⟨m1, e1, k1, m2, e2, k2, cst⟩ := STK.mem _ _ _ _ hC.2.1 c1 List.mem_cons_self
  obtain ⟨f1, f2, f3, f4, f5, f6⟩ := cst.2.2.1.2.2.2.2.2.2.2.2.2.2.2.1 h218
  rcases hM with hM | hM
  · obtain ⟨no1, n305, ts, h64, hmode, h65⟩ := hM
    have wd : wid (S.o c1.2.1 0) = 2 := by rw [h218]; rfl
    have ix : ceT c1 + wid (S.o c1.2.1 0) - 1 = ceT c1 + 1 := by omega
    rw [ix] at h64 hmode
    have ts' : tpI s = ((ceT c1 + 1 : Nat) : Int) := by rw [ts, wd]; omega
    obtain ⟨m0, V0, g0, n1, n2, n3, n4, n5, n6, n7, n8, n9, n10'⟩ := y_lend hv ts' h64 hmode h36 h10 g
    have fT := fun k h1 h2 => n3.all k h1 h2
    have tV : tpI V0 = (ceT c1 : Int) := by rw [n2]; omega
    obtain ⟨m2, V, hV, g2⟩ := rl_14 g0 tV n1.1.2.1 ((fT 64 (by decide) (by decide)).trans f1)
    unfold f_X12_groups at hV
    obtain ⟨hib, hV⟩ := hf_ite hV
    have z65 : V0.a 65 (ceT c1) = 3 := (fT 65 (by decide) (by decide)).trans (h65 h218).1
    rw [tp_nat tV, z65, if_neg (by decide), if_neg (by decide), if_neg (by decide)] at hV
    have key : ∀ w : Int32, w = S.i 36 → f_X12_groups_356 N (RS.setA V0 70 (ceT c1) w) (V0.i 63) = some V → SWV d (ceT c1) S s V := fun w hw h => by
      unfold f_X12_groups_356 at h
      obtain ⟨-, h⟩ := hf_ite h
      rw [tp_nat tV] at h
      have e := (Option.some.inj h).symm
      have V70 : ∀ k : Nat, 64 ≤ k → k ≤ 73 → k ≠ 65 → k ≠ 70 → V.a k (ceT c1) = s.a k (ceT c1) := fun k h1 h2 h3 h4 => by
        rw [e, setA_nk h3, setA_nk h4]
        exact fT k h1 h2
      refine ⟨by rw [e]; exact setA_env (Or.inr ⟨by decide, by decide⟩) (setA_env (Or.inr ⟨by decide, by decide⟩) n1), by rw [e]; exact tV, by rw [e]; exact ((n3.mo (by omega)).tr (setA_frb (Or.inr ⟨by decide, by decide, Nat.le_refl _⟩))).tr (setA_frb (Or.inr ⟨by decide, by decide, Nat.le_refl _⟩)), by rw [e]; exact (n4.tr (setA_tbk ⟨by decide, by decide⟩)).tr (setA_tbk ⟨by decide, by decide⟩), ⟨(V70 64 (by decide) (by decide) (by decide) (by decide)).trans f1, by rw [e]; exact setA_at, V70 66 (by decide) (by decide) (by decide) (by decide), V70 67 (by decide) (by decide) (by decide) (by decide), V70 68 (by decide) (by decide) (by decide) (by decide), ?_, V70 71 (by decide) (by decide) (by decide) (by decide), V70 72 (by decide) (by decide) (by decide) (by decide)⟩, by rw [← n6, e]; rfl, by rw [e]; exact n7, by rw [e]; exact n8, by rw [e]; exact n9, by rw [e]; exact n10'.1, fun k h1 h2 => by rw [e]; exact n10'.2.2.1 k h1 h2, fun k hk => by rw [e, setA_nk (by omega), setA_nk (by omega)]; exact n10'.2.2.2.1 k (by omega), by rw [e]; exact n10'.2.2.2.2⟩
      rw [e, setA_nk (by decide), setA_at]
      exact hw
    refine ⟨m2, V, g2, ?_⟩
    rcases h36 with z | z
    · rw [if_pos (n5.trans z)] at hV
      exact key 0 z.symm hV
    · rw [if_neg (by rw [n5, z]; decide)] at hV
      exact key 1 z.symm hV
  · obtain ⟨-, h65, ts, h70, -⟩ := hM
    exact ⟨n, s, g, hv, ts, FRB.rf _ _, TBK.rf _, ⟨f1, h65, rfl, rfl, rfl, h70, rfl, rfl⟩, rfl, rfl, rfl, rfl, rfl, fun _ _ _ => rfl, fun _ _ => rfl, rfl⟩
/-- the text ends inside a switch -/
theorem en_swF {N : Nat} {d : Int32} {B : CS} {b : RS} {t0 n : Nat} {L : List CEL} {x : Int} {S : CS} {s U : RS} {c1 : CEL} {R : Unit × CS} (hC : COR d B b t0 (c1 :: L) x S s) (hM : MLI c1 S s ∨ MSW c1 S s) (h36 : S.i 36 = 0 ∨ S.i 36 = 1) (h218 : S.o c1.2.1 0 = 218) (k0 : S.i 43 = 0) (e : f_X7_endList N S c1.2.1 = some R) (g : f_X12_parse_10 N n s = some U) : ¬ R.2.i 32 = 0 ∧ ¬ U.i 15 = 0 := by
  have hv := hC.1
  have k10 := (tk_is hv (a := 0) (b := 0) (Or.inl ⟨by decide, by decide⟩) (by decide)).mp k0
  have n125 : ¬ S.i 43 = 125 := by rw [k0]; decide
  refine ⟨?_, ?_⟩
  · unfold f_X7_endList at e
    obtain ⟨-, e⟩ := hf_ite e
    rw [if_neg (by rw [h218]; decide), if_neg (by rw [h218]; decide)] at e
    exact e72_flt n125 e
  · obtain ⟨m, V, g0, ev, tV, fr, tk, ⟨v64, v65, -⟩, -, v10, -⟩ := sw_1 hC hM h36 h218 (Or.inr (Or.inr (Or.inr k10))) g
    have h15 := ev.1.2.1
    obtain ⟨m2, V2, hV, g2⟩ := rl_14 g0 tV h15 v64
    unfold f_X12_groups at hV
    obtain ⟨-, hV⟩ := hf_ite hV
    rw [tp_nat tV, v65, if_neg (by decide), if_neg (by decide), if_pos rfl, if_neg (by rw [v10, k10]; decide), if_neg (by rw [v10, k10]; decide)] at hV
    obtain ⟨p3, hsh, hV⟩ := hf_bind hV
    have z3 : ¬ p3.2.i 15 = 0 := by
      unfold f_X12_shut f_X12_shut_18 f_X12_need f_X12_need_27 f_X12_need_31 at hsh
      rw [if_pos h15, if_neg (by rw [v10, k10]; decide)] at hsh
      obtain ⟨w, gw, hsh⟩ := hf_bind hsh
      obtain ⟨q, gq, gw⟩ := hf_bind gw
      obtain ⟨q1, q2⟩ := y_can0 gq
      rw [if_pos q1, if_neg q2] at gw
      cases gw
      have g2 : (if q.2.i 15 = 0 then some ((1 : Int32), q.2) else some (0, q.2)) = some p3 := (if_pos rfl).symm.trans hsh
      rw [if_neg q2] at g2
      rw [← Option.some.inj g2]
      exact q2
    refine u_flt g2 ?_
    obtain ⟨-, hV⟩ := hf_ite hV
    obtain ⟨-, hV⟩ := hf_ite hV
    obtain ⟨p25, hp, hV⟩ := hf_bind hV
    have z25 : ¬ p25.i 15 = 0 := krf_f_X12_patch N _ _ _ p25 hp z3
    have ov : ∀ (y W : RS) (w : Int32), ¬ y.i 15 = 0 → ((f_X12_over N y w).bind fun p => f_X12_groups_335 N p) = some W → ¬ W.i 15 = 0 := fun y W w hy h => by
      obtain ⟨p, hp, h⟩ := hf_bind h
      have h' : some p = some W := h
      rw [← Option.some.inj h']
      exact krf_f_X12_over N y w p hp hy
    by_cases c1' : p25.a 70 (ceT c1) = 1
    · rw [if_pos c1'] at hV
      exact ov _ _ _ (show ¬ (RS.setI (RS.setI p25 43 (p25.i 43 - 1)) 38 (p25.a 71 (ceT c1))).i 15 = 0 from z25) hV
    · rw [if_neg c1'] at hV
      by_cases c2 : p25.a 68 (ceT c1) = 0
      · rw [if_pos c2] at hV
        exact ov _ _ _ (show ¬ (RS.setI (RS.setI p25 43 (p25.i 43 - 1)) 38 (p25.a 71 (ceT c1))).i 15 = 0 from z25) hV
      · rw [if_neg c2] at hV
        split at hV
        · exact ov _ _ _ (show ¬ (RS.setI (RS.setI p25 43 (p25.i 43 - 1)) 38 (p25.a 71 (ceT c1))).i 15 = 0 from z25) hV
        · exact ov _ _ _ (show ¬ (RS.setI (RS.setI p25 43 (p25.i 43 - 1)) 38 (p25.a 71 (ceT c1))).i 15 = 0 from z25) hV
/-- the text ends inside a lock, a try, a catch or a finally -/
theorem en_bkF {N : Nat} {d : Int32} {B : CS} {b : RS} {t0 n : Nat} {L : List CEL} {x : Int} {S : CS} {s U : RS} {c1 : CEL} {R : Unit × CS} (hC : COR d B b t0 (c1 :: L) x S s) (hM : MLI c1 S s) (h36 : S.i 36 = 0 ∨ S.i 36 = 1) (hs : S.o c1.2.1 0 = 212 ∨ S.o c1.2.1 0 = 213 ∨ S.o c1.2.1 0 = 215 ∨ S.o c1.2.1 0 = 216) (k0 : S.i 43 = 0) (e : f_X7_endList N S c1.2.1 = some R) (g : f_X12_parse_10 N n s = some U) : ¬ R.2.i 32 = 0 ∧ ¬ U.i 15 = 0 := by
  obtain ⟨no1, n305, ts, h64, hmode, -⟩ := hM
  have wd : wid (S.o c1.2.1 0) = 3 := by
    rcases hs with z | z | z | z <;> rw [z] <;> rfl
  have ix : ceT c1 + wid (S.o c1.2.1 0) - 1 = ceT c1 + 2 := by omega
  rw [ix] at h64 hmode
  have ts' : tpI s = ((ceT c1 + 2 : Nat) : Int) := by rw [ts, wd]; omega
  have hv := hC.1
  have k10 := (tk_is hv (a := 0) (b := 0) (Or.inl ⟨by decide, by decide⟩) (by decide)).mp k0
  obtain ⟨m1, e1, k1, m2, e2, k2, cst⟩ := STK.mem _ _ _ _ hC.2.1 c1 List.mem_cons_self
  have fb : s.a 64 (ceT c1 + 1) = 3 ∧ s.a 65 (ceT c1 + 1) = 1 := by
    have r := cst.2.2.1
    rcases hs with z | z | z | z
    · have y := (r.2.2.2.2.2.2.2.2.2.2.1 z).2.2.1
      exact ⟨y.1, y.2.1⟩
    · have y := ((r.2.2.2.2.2.2.2.2.2.2.2.2 (Or.inl z)).2.1 z).2.1.1
      exact ⟨y.1, y.2.1⟩
    · have y := ((r.2.2.2.2.2.2.2.2.2.2.2.2 (Or.inr (Or.inl z))).2.2.1 z).2.1
      exact ⟨y.1, y.2.1⟩
    · have y := ((r.2.2.2.2.2.2.2.2.2.2.2.2 (Or.inr (Or.inr (Or.inr z)))).2.2.2.2.1 z).2.1.1
      exact ⟨y.1, y.2.1⟩
  have n125 : ¬ S.i 43 = 125 := by rw [k0]; decide
  obtain ⟨m0, V0, g0, n1, n2, n3, -⟩ := y_lend hv ts' h64 hmode h36 (Or.inr (Or.inr (Or.inr k10))) g
  have fT := n3 (ceT c1 + 1) (by omega)
  refine ⟨?_, bl_flt n1 (t := ceT c1 + 1) (by rw [n2]; omega) (fT.1.trans fb.1) (fT.2.1.trans fb.2) n125 g0⟩
  unfold f_X7_endList at e
  obtain ⟨-, e⟩ := hf_ite e
  rw [if_neg (by rcases hs with z | z | z | z <;> rw [z] <;> decide), if_neg (by rcases hs with z | z | z | z <;> rw [z] <;> decide)] at e
  exact e72_flt n125 e
