/-! both readers: for, from its head's end -/
set_option maxHeartbeats 4000000 in
theorem fo_seven {N : Nat} (hN : 1000 ≤ N) {E1 : CS → Option (Unit × CS)} {E2 : CS → Option (Int32 × CS)} {d : Int32} {B : CS} {b : RS} {t0 T n : Nat} {L : List CEL} {x : Int} {S P : CS} {s q U : RS} {c : CEL} {W : Option Nat × CS} {R : Unit × CS} {x1 x2 x3 x4 x5 : Int32} (hC : COR d B b t0 (c :: L) x S s) (q1 : TOP S s c) (q2 : LOW S s c) (q3 : T = ceT c + wid (S.o c.2.1 0)) (hT : t0 ≤ T) (hm : NMC c S) (hx : S.o c.2.1 0 = 303 → x = -3) (hB : BOT b S (c :: L)) (w : WAZ d T 4 8 1 (-4) 4 S s P q) (k64 : q.a 64 T = 12) (k65 : q.a 65 T = 7) (k71 : q.a 71 T = S.i 50) (k72 : q.a 72 T = x5) (k67 : (s.i 20).toInt ≤ (q.a 67 T).toInt ∧ (q.a 67 T).toInt < (q.i 20).toInt) (k68 : (s.i 20).toInt ≤ (q.a 68 T).toInt) (e : f_X7_forHead_113 N E1 E2 P x1 x2 x3 x4 x5 = some W) (e2 : f_X7_beginFor_85 N E1 E2 W.2 (S.i 50) W.1 = some R) (g : f_X12_parse_10 N n q = some U) : (¬ R.2.i 32 = 0 ∧ ¬ U.i 15 = 0) ∨ DMD d B R.2 U ∨ ∃ (m : Nat) (u : RS), f_X12_parse_10 N m u = some U ∧ NEW d B b t0 c L R.2 u := by
  have hv := hC.1
  -- the class, taken apart
  unfold f_X7_forHead_113 at e
  obtain ⟨p47, e47, e⟩ := hf_bind e
  obtain ⟨p51, e51, e⟩ := hf_bind e
  obtain ⟨p55, e55, e⟩ := hf_bind e
  obtain ⟨p59, e59, e⟩ := hf_bind e
  obtain ⟨p63, e63, e⟩ := hf_bind e
  obtain ⟨pp, a, epp, ra, hp63⟩ := pl_in e63
  rw [hp63] at e
  have e' : (if x5 = 0 ∨ x5 = 1 then if oK (CS.setO (CS.setO pp.2 a 10 x2) a 9 x4) a 0 then some ((some a), CS.setO (CS.setO (CS.setO pp.2 a 10 x2) a 9 x4) a 7 x5) else none else none) = some W := e
  obtain ⟨-, e'⟩ := hf_ite e'
  obtain ⟨-, e'⟩ := hf_ite e'
  cases e'
  have e2' : (if oK (CS.setO (CS.setO (CS.setO pp.2 a 10 x2) a 9 x4) a 7 x5) a 0 then some ((), CS.setO (CS.setO (CS.setO (CS.setO pp.2 a 10 x2) a 9 x4) a 7 x5) a 3 (S.i 50)) else none) = some R := e2
  obtain ⟨-, e2'⟩ := hf_ite e2'
  cases e2'
  have f47 : ¬ p47.2.i 32 = 0 → ¬ pp.2.i 32 = 0 := fun z => by
    have z1 : ¬ p51.2.i 32 = 0 := by rw [fst_add e51]; exact z
    have z2 : ¬ p55.2.i 32 = 0 := by rw [kF_X0_aim N p51.2 x3 p55 e55 z1]; exact z1
    have z3 : ¬ p59.2.i 32 = 0 := by rw [fst_add e59]; exact z2
    rw [kF_X6_push N p59.2 207 _ _ pp epp z3]
    exact z3
  show (¬ pp.2.i 32 = 0 ∧ ¬ U.i 15 = 0) ∨ DMD d B (CS.setO (CS.setO (CS.setO (CS.setO pp.2 a 10 x2) a 9 x4) a 7 x5) a 3 (S.i 50)) U ∨ ∃ (m : Nat) (u : RS), f_X12_parse_10 N m u = some U ∧ NEW d B b t0 c L (CS.setO (CS.setO (CS.setO (CS.setO pp.2 a 10 x2) a 9 x4) a 7 x5) a 3 (S.i 50)) u
  -- the reference
  obtain ⟨m2, V, hV, g2⟩ := rl_12 g w.2.1 w.1.1.2.1 k64
  unfold f_X12_fors at hV
  obtain ⟨-, hV⟩ := hf_ite hV
  rw [tp_nat w.2.1, if_neg (show ¬ q.a 65 T = 0 by rw [k65]; decide), if_neg (show ¬ q.a 65 T = 1 by rw [k65]; decide), if_neg (show ¬ q.a 65 T = 2 by rw [k65]; decide), if_neg (show ¬ q.a 65 T = 3 by rw [k65]; decide), if_neg (show ¬ q.a 65 T = 4 by rw [k65]; decide), if_neg (show ¬ q.a 65 T = 5 by rw [k65]; decide), if_neg (show ¬ q.a 65 T = 6 by rw [k65]; decide), if_pos k65] at hV
  obtain ⟨em, hem, hV⟩ := hf_bind hV
  obtain ⟨sh, hsh, hV⟩ := hf_bind hV
  obtain ⟨hib, hV⟩ := hf_ite hV
  obtain ⟨em2, hem2, hV⟩ := hf_bind hV
  obtain ⟨G, hG, hV⟩ := hf_bind hV
  rw [ob_id] at hV
  have lo := w.lo
  have ph0 := hv.2.2.2.2.2.2.2.1
  obtain ⟨w1, f1, e20, n20, -⟩ := w.em (by omega) hem
  rcases w1.cl hN hv (by omega) (c := 41) (e := 41) (Or.inl ⟨by decide, by decide⟩) (by decide) (by decide) (by decide) e47 hsh with ⟨o1, o2, o3⟩ | ⟨o1, w2, f2, sh20⟩
  · refine Or.inl ⟨f47 o2, u_flt g2 (krf_f_X12_body N _ 8 V hV ?_)⟩
    show ¬ G.2.i 15 = 0
    exact krf_f_X12_loopGoal N em2.2 G hG (krf_f_X12_emit N _ 1 0 em2 hem2 o3)
  obtain ⟨ft1, -⟩ := FRB.ft (T := T) f1
  obtain ⟨ft2, -⟩ := FRB.ft (T := T) f2
  have ft12 := ft1.tr ft2
  have c68 := clampI hib.1
  rw [ft12.2.2.2.1] at c68 hib hem2
  have w3 := w2.s22 (j := (q.a 68 T).toNatClampNeg) (v := sh.2.i 20) (by omega)
  have lo3 := w3.lo
  obtain ⟨w4, f4, e20', n20', -⟩ := w3.em (by omega) hem2
  obtain ⟨ft4, -⟩ := FRB.ft (T := T) f4
  have fq : FT T q em2.2 := ft12.tr ((show FT T sh.2 (RS.setA sh.2 22 (q.a 68 T).toNatClampNeg (sh.2.i 20)) from ⟨rfl, rfl, rfl, rfl, rfl, rfl, rfl, rfl, rfl⟩).tr ft4)
  have w5 : WAZ d T 5 9 0 (-6) 5 S s p59.2 em2.2 := (((w4.ad e51).ai e55).ad e59).nu (by omega) (by omega) (by omega) (by omega) (by omega)
  have s20 : (q.i 20).toInt ≤ (em2.2.i 20).toInt := by
    have z1 : (em.2.i 20).toInt ≤ (sh.2.i 20).toInt := by
      rw [sh20]
      exact Int.le_refl _
    have z2 : ((RS.setA sh.2 22 (q.a 68 T).toNatClampNeg (sh.2.i 20)).i 20) = sh.2.i 20 := rfl
    rw [z2] at n20'
    omega
  -- the class's row
  have lo5 := w5.lo
  have q54 := hC.2.2.2.2.2.2.2.2.1.2.2
  have t21 := hC.2.2.2.2.2.2.2.2.1.1
  have sgP := w5.sg hv
  obtain ⟨a', m, ra', psr, evR, sq⟩ := w5.1.row (v := 207) ⟨by decide, by decide, by decide, by decide⟩ (w5.pay hv (by omega)) (by rw [if_neg (by decide), if_neg (by decide)]; exact sgP) (by omega) epp
  have ea : a' = a := by
    rw [ra] at ra'
    cases ra'
    rfl
  rw [ea] at psr sq
  have f0x := psr.2.2.2.2.2.2.2.2.2.1
  have sqX := (((sq.so (k := 10) (w := x2) ⟨by decide, by decide, by decide, by decide⟩).so (k := 9) (w := x4) ⟨by decide, by decide, by decide, by decide⟩).so (k := 7) (w := x5) ⟨by decide, by decide, by decide, by decide⟩).so3 (w := S.i 50)
  have evX : ENV d (CS.setO (CS.setO (CS.setO (CS.setO pp.2 a 10 x2) a 9 x4) a 7 x5) a 3 (S.i 50)) em2.2 := (((evR.so (by decide)).so (by decide)).so (by decide)).so (by decide)
  have o5X : (CS.setO (CS.setO (CS.setO (CS.setO pp.2 a 10 x2) a 9 x4) a 7 x5) a 3 (S.i 50)).o a 5 = 0 := ((so_nk (by decide)).trans ((so_nk (by decide)).trans ((so_nk (by decide)).trans (so_nk (by decide))))).trans f0x.1
  have o7X : (CS.setO (CS.setO (CS.setO (CS.setO pp.2 a 10 x2) a 9 x4) a 7 x5) a 3 (S.i 50)).o a 7 = x5 := (so_nk (by decide)).trans so_at
  have x38 : (CS.setO (CS.setO (CS.setO (CS.setO pp.2 a 10 x2) a 9 x4) a 7 x5) a 3 (S.i 50)).i 38 = p59.2.i 38 := psr.2.1 38 (by decide) (by decide)
  have x21' : (CS.setO (CS.setO (CS.setO (CS.setO pp.2 a 10 x2) a 9 x4) a 7 x5) a 3 (S.i 50)).i 21 = p59.2.i 21 := psr.2.1 21 (by decide) (by decide)
  obtain ⟨X, hX⟩ : ∃ X, X = CS.setO (CS.setO (CS.setO (CS.setO pp.2 a 10 x2) a 9 x4) a 7 x5) a 3 (S.i 50) := ⟨_, rfl⟩
  rw [← hX] at evX sqX o5X o7X x38 x21' ⊢
  clear hX
  obtain ⟨-, ⟨r53, r54, -, -⟩, ⟨r50, -, -⟩, -, ⟨g0, -, g3', -⟩, -⟩ := id sqX
  refine Or.inr (lp_tail hC q1 q2 q3 hT hm hx hB w5 (by omega) (Or.inr (Or.inr (Or.inl rfl))) sqX g3' x38 o5X (fun z => by rcases z with z | z <;> exact absurd z (by decide)) (FRB.rf T _) (TBK.rf _).t9 w5.2.1 evX hG (Or.inr rfl) hV g2 ⟨Int.le_refl _, ?_, Int.le_refl _, by have := w5.2.2.2.2.2.2.1.2.2.2; omega⟩ (by rw [x21']; omega) (by rw [r54]; omega) ⟨rfl, rfl, rfl, rfl⟩ (fun u g w hu h1 h2 h3 => ?_) (fun u c1 k h1 h2 hu h3 => ?_))
  · show phI s + 1 ≤ phI em2.2
    omega
  · exact RFR.m207 g0 ⟨(hu 64 (by decide) (by decide) (by decide) (by decide)).trans (fq.1.trans k64), h1, h2, (hu 71 (by decide) (by decide) (by decide) (by decide)).trans (fq.2.2.2.2.2.2.1.trans (k71.trans g3'.symm)), (hu 72 (by decide) (by decide) (by decide) (by decide)).trans (fq.2.2.2.2.2.2.2.1.trans (k72.trans o7X.symm)), h3⟩
  · have hk : k = (q.a 67 T).toInt := by
      unfold PLF at h3
      rw [h1, g0, h2] at h3
      rcases h3 with ⟨z | z, -⟩ | ⟨z, -⟩ | ⟨-, z⟩
      · exact absurd z (by decide)
      · exact absurd z (by decide)
      · exact absurd z (by decide)
      · rw [z, hu 67 (by decide) (by decide) (by decide) (by decide), fq.2.2.1]
    omega
