/-! both readers: ends of for -/
theorem e_193 {N n a : Nat} {E1 : CS → Option (Unit × CS)} {E2 : CS → Option (Int32 × CS)} {S : CS} {v : Int32} {R : Unit × CS} (h53 : (S.i 53).toInt = (n : Int) + 2) (e : f_X7_endBody_193 N E1 E2 (CS.setI S 36 v) a = some R) : (∀ k : Nat, k ≠ 36 → k ≠ 50 → k ≠ 53 → R.2.i k = S.i k) ∧ R.2.i 50 = S.o a 3 ∧ (R.2.i 53).toInt = (n : Int) + 1 ∧ R.2.i 36 = v ∧ (R.2.r = S.r ∧ R.2.o = S.o ∧ R.2.ol = S.ol ∧ R.2.a = S.a ∧ R.2.b = S.b ∧ R.2.l = S.l ∧ (R.2.hs = S.hs ∧ R.2.L = S.L ∧ R.2.k = S.k)) := by
  unfold f_X7_endBody_193 at e
  obtain ⟨-, e⟩ := hf_ite e
  obtain ⟨p14, e14z, e⟩ := hf_bind e
  have e14 : f_X6_pop N (CS.setI (CS.setI S 36 v) 50 (S.o a 3)) = some p14 := e14z
  have i53 : (CS.setI (CS.setI S 36 v) 50 (S.o a 3)).i 53 = S.i 53 := by
    rw [ci_ne _ _ _ (by decide), ci_ne _ _ _ (by decide)]
  obtain ⟨p1, p2⟩ := e_pop (n := n) (by rw [i53]; omega) e14
  have eR : R.2 = CS.setI (CS.setI (CS.setI S 36 v) 50 (S.o a 3)) 53 (S.i 53 - 1) := by
    rw [← Option.some.inj e, ← i53]
    exact p1
  rw [i53] at p2
  rw [eR]
  refine ⟨fun k h1 h2 h3 => ?_, ?_, ?_, ?_, ⟨rfl, rfl, rfl, rfl, rfl, rfl, rfl, rfl, rfl⟩⟩
  · rw [ci_ne _ _ _ h3, ci_ne _ _ _ h2, ci_ne _ _ _ h1]
  · rw [ci_ne _ _ _ (by decide), ci_at]
  · rw [ci_at]
    exact p2
  · rw [ci_ne _ _ _ (by decide), ci_ne _ _ _ (by decide), ci_at]
theorem FRB.all {T : Nat} {s u : RS} (h : FRB (T + 1) s u) : ∀ k : Nat, 64 ≤ k → k ≤ 73 → u.a k T = s.a k T := fun k h1 h2 => by
  obtain ⟨f0, f1, f2, f3, f4, f5, f6, f7, f8, f9, -⟩ := h T (by omega)
  have hk : k = 64 ∨ k = 65 ∨ k = 66 ∨ k = 67 ∨ k = 68 ∨ k = 69 ∨ k = 70 ∨ k = 71 ∨ k = 72 ∨ k = 73 := by omega
  rcases hk with h | h | h | h | h | h | h | h | h | h <;> rw [h]
  · exact f0
  · exact f1
  · exact f2
  · exact f3
  · exact f4
  · exact f5
  · exact f6
  · exact f7
  · exact f8
  · exact f9
set_option maxHeartbeats 2000000 in
/-- a loop's two chains are aimed, its jump back is laid -/
theorem lp_pt {N : Nat} {d : Int32} {B : CS} {b : RS} {t0 pf : Nat} {L : List CEL} {x : Int} {S : CS} {s s1 q : RS} {y : Int32 × RS} {c1 c : CEL} {w1 w2 w3 op : Int32} (hC : COR d B b t0 (c1 :: c :: L) x S s) (tp : TOP S s c1) (ts : tpI s = (ceT c1 : Int)) (hT : t0 ≤ ceT c1) (go : isGo (S.o c1.2.1 0)) (nt : ¬ isTy (S.o c1.2.1 0)) (ns : ¬ S.o c1.2.1 0 = 218) (nd : nDp (S.o c1.2.1 0) = 0) (ng : nSg (S.o c1.2.1 0) = 0) (hd1 : 1 ≤ dbt (S.o c1.2.1 0)) (hpf : pf = 66 ∨ pf = 67) (pl : PLF S s c1 (s.a pf (ceT c1)).toInt) (hp1 : f_X12_patch N s (s.a 49 (ceG c1)) w1 = some s1) (hy : f_X12_emit N s1 op w2 = some y) (hp2 : f_X12_patch N (RS.setA y.2 22 (y.2.a pf (ceT c1)).toNatClampNeg (y.2.i 20)) (y.2.a 48 (ceG c1)) w3 = some q) : COR d B b t0 (c :: L) (-9) S q ∧ (LNK S c1 c ∧ LOW S q c ∧ TOP S q c1 ∧ tpI q = (ceT c1 : Int)) ∧ (∀ k : Nat, 64 ≤ k → k ≤ 73 → q.a k (ceT c1) = s.a k (ceT c1)) ∧ (q.a 50 (ceG c1) = s.a 50 (ceG c1) ∧ q.a 44 (ceG c1) = s.a 44 (ceG c1)) ∧ (q.i 43 = s.i 43 ∧ q.i 38 = s.i 38) ∧ phI b + PDM S (c :: L) + dbt (S.o c1.2.1 0) ≤ phI q + 1 := by
  have pb : 64 ≤ pf ∧ pf ≤ 73 := by omega
  obtain ⟨hD, inj, ord, lk, lw⟩ := hC.drop nt ns nd ng
  have ph := hC.2.2.2.2.2.2.1.2.1
  have phe : PDM S (c1 :: c :: L) = dbt (S.o c1.2.1 0) + PDM S (c :: L) := rfl
  have pd0 := (PDM.ge S (c :: L)).1
  obtain ⟨-, b30, b0, col, hc⟩ := id hC.2.2.2.2.2.2.2.2.2.2
  obtain ⟨hx48, hx49⟩ := hc.2.2.1 c1 List.mem_cons_self go
  have e22a := pt_in (F := fun k => col k = some (ceG c1, false)) (κ := (ceG c1, false)) hc (fun k hk => hk) hx49 hp1
  obtain ⟨hE1, hc1⟩ := hD.e22 (hc.drop inj) (e22a.mono (fun k hk => (hc.fre b0).1 k false hk))
  have t1 : tpI s1 = (ceT c1 : Int) := by
    show (s1.i 63).toInt = _
    rw [e22a.1]
    exact ts
  have ph1 : phI s1 = phI s := by
    unfold phI
    rw [e22a.1]
  obtain ⟨n1, n2, n3, n4, n5, n6, n7, n8, n9, n19, -⟩ := y_emit hE1.1 t1 (by omega) hy
  have hin1 : INL S s1 (ceT c1) (c :: L) := by
    have z := STK.inl L c _ _ _ hE1.2.1 (by have := tp.1; have := lk.1; omega) (by rw [e22a.1]; have := tp.2.1; have := lk.2.2.1; omega) (by rw [e22a.1]; have := tp.2.2; have := lk.2.2.2.1; omega)
    rw [← lk.2.1] at z
    exact z
  have hE2 := hE1.mv3 hin1 hT n1 (n3 _) n4 ⟨by rw [n8]; exact Int.le_refl _, by omega, by rw [n9]; exact Int.le_refl _, by rw [n19]⟩
  have hc2 := hc1.mv b0 hin1 (CKZ.rf S) (n3 _) n4.1.r n4.2
  have fr : ∀ k : Nat, 64 ≤ k → k ≤ 73 → y.2.a k (ceT c1) = s.a k (ceT c1) := fun k h1 h2 => by
    rw [(n3 (ceT c1 + 1)).all k h1 h2, e22a.2.2.2.1 k (by omega)]
  have y67 := fr pf pb.1 pb.2
  have e66 : ∀ z ∈ c :: L, y.2.a 66 (ceT z) = s.a 66 (ceT z) := fun z hz => by
    have a := (hin1 z hz).2.2.1
    have b := wid1 (S.o z.2.1 0)
    rw [(n3 (ceT c1) (ceT z) (by omega)).2.2.1, e22a.2.2.2.1 66 (by decide)]
  rw [y67] at hp2
  have f67 : FRE S y.2 (c :: L) (cdr (ceG c1) col) (b.i 20).toInt (s.a pf (ceT c1)).toNatClampNeg := ((hc.fre b0).2 _ pl).mv e66
  obtain ⟨s3, hs3⟩ : ∃ s3, s3 = RS.setA y.2 22 (s.a pf (ceT c1)).toNatClampNeg (y.2.i 20) := ⟨_, rfl⟩
  have e22b : E22 (FRE S y.2 (c :: L) (cdr (ceG c1) col) (b.i 20).toInt) y.2 s3 := by
    rw [hs3]
    exact E22.set f67
  have a22 : ∀ k : Nat, k ≠ (s.a pf (ceT c1)).toNatClampNeg → s3.a 22 k = y.2.a 22 k := fun k hk => by
    rw [hs3]
    exact setA_ne hk
  rw [← hs3] at hp2
  clear hs3
  obtain ⟨hE3, hc3⟩ := hE2.e22 hc2 e22b
  have e663 : ∀ z ∈ c :: L, s3.a 66 (ceT z) = s.a 66 (ceT z) := fun z hz => by
    rw [e22b.2.2.2.1 66 (by decide)]
    exact e66 z hz
  have n67 := (hc.2.2.2.2.2.2 c1 List.mem_cons_self _ pl).2.2.1
  have gi : (ceG c1 : Int) < (s1.i 43).toInt := by
    rw [e22a.1]
    have := tp.2.1
    have := nGo1 go
    omega
  have y48 : y.2.a 48 (ceG c1) = s.a 48 (ceG c1) ∧ y.2.a 50 (ceG c1) = s.a 50 (ceG c1) ∧ y.2.a 44 (ceG c1) = s.a 44 (ceG c1) := by
    have z := n4.1.r.2.1 (ceG c1) gi
    rw [z.2.2.2.2.2.2.1, z.2.2.2.2.1, z.1, e22a.2.2.2.1 48 (by decide), e22a.2.2.2.1 50 (by decide), e22a.2.2.2.1 44 (by decide)]
    exact ⟨rfl, rfl, rfl⟩
  rw [y48.1] at hp2
  have e22c : E22 (FRE S s3 (c :: L) (cdr (ceG c1) col) (b.i 20).toInt) s3 q := by
    refine pt_e22 (κ := (ceG c1, true)) (col := col) (fun k hk => ((hc.fre b0).1 k true hk).mv e663) N (s.i 20).toInt.toNat s3 q w3 (s.a 48 (ceG c1)) (fun k hk _ => ?_) ?_ hp2
    · have k20 := (hc.1 k _ hk).2
      have nk : k ≠ (s.a pf (ceT c1)).toNatClampNeg := fun z => by
        have z2 : col k = none := by
          rw [z]
          exact n67
        rw [z2] at hk
        cases hk
      rw [a22 k nk, n4.2.2 k (by rw [e22a.1]; exact k20), e22a.2.2.2.2 k (fun z => by
        have z' : col k = some (ceG c1, false) := z
        rw [hk] at z'
        have z2 : true = false := congrArg Prod.snd (Option.some.inj z')
        exact absurd z2 (by decide))]
      exact hc.2.1 k _ hk
    · rcases hx48 with z | ⟨j, j1, j2⟩
      · exact Or.inl z
      · have := (hc.1 j _ j2).2
        exact Or.inr ⟨j, j1, by omega, j2⟩
  obtain ⟨hE4, -⟩ := hE3.e22 hc3 e22c
  have qi : q.i = y.2.i := e22c.1.trans e22b.1
  have qa : ∀ k : Nat, k ≠ 22 → q.a k = y.2.a k := fun k hk => (e22c.2.2.2.1 k hk).trans (e22b.2.2.2.1 k hk)
  have q43 : q.i 43 = s.i 43 := by
    rw [qi, n4.1.1.2.2.2.2.1, e22a.1]
  have q38 : q.i 38 = s.i 38 := by
    rw [qi, n4.1.1.2.2.2.1, e22a.1]
  have q56 : q.i 56 = s.i 56 := by
    rw [qi, n4.1.1.2.2.2.2.2.2.1, e22a.1]
  have phq : phI q = phI y.2 := by
    unfold phI
    rw [qi]
  refine ⟨hE4, ⟨lk, (((lw.e22 e22a).mv rfl (n3 (ceT c1)) (by rw [lk.2.1]; exact Nat.le_refl _)).e22 e22b).e22 e22c, ⟨tp.1, by rw [q43]; exact tp.2.1, by rw [q56]; exact tp.2.2⟩, ?_⟩, fun k h1 h2 => ?_, ⟨?_, ?_⟩, ⟨q43, q38⟩, by omega⟩
  · show (q.i 63).toInt = _
    rw [qi]
    exact n2
  · rw [qa k (by omega)]
    exact fr k h1 h2
  · rw [qa 50 (by decide)]
    exact y48.2.1
  · rw [qa 44 (by decide)]
    exact y48.2.2
set_option maxHeartbeats 2000000 in
theorem en_for {N : Nat} {E1 : CS → Option (Unit × CS)} {E2 : CS → Option (Int32 × CS)} {d : Int32} {B : CS} {b : RS} {t0 n : Nat} {L : List CEL} {x : Int} {S : CS} {s U : RS} {c1 c : CEL} {R : Unit × CS} {Aj : JBA} (mA : JBM U Aj) (hC : COR d B b t0 (c1 :: c :: L) x S s) (tp : TOP S s c1) (hM : MEN c1 S s) (h207 : S.o c1.2.1 0 = 207) (bz : BAZ B b (c1 :: c :: L)) (hT : t0 ≤ ceT c1) (e : f_X7_endBody N E1 E2 S c1.2.1 = some R) (g : f_X12_parse_10 N n s = some U) : ∃ (m : Nat) (u : RS), f_X12_parse_10 N m u = some U ∧ POPD d B b t0 c L R.2 u ∧ JTR Aj U B b (c1 :: c :: L) S s (vws R.2 u (c :: L)) R.2 u := by
  obtain ⟨one, o5, ts, h75, hm⟩ := hM
  obtain ⟨m1, e1, k1, m2, e2, k2, cst⟩ := STK.mem _ _ _ _ hC.2.1 c1 List.mem_cons_self
  obtain ⟨f1, f2, f3, f4, f5, f6⟩ := cst.2.2.1.2.2.2.2.2.2.2.2.1 h207
  have hv := hC.1
  have go : isGo (S.o c1.2.1 0) := Or.inr (Or.inr (Or.inr (Or.inr (Or.inl h207))))
  obtain ⟨m2, V, hV, g2⟩ := rl_12 g ts hv.1.2.1 f1
  unfold f_X12_fors at hV
  obtain ⟨hib, hV⟩ := hf_ite hV
  have t9 : ceT c1 < 1000 := by
    have h2 : (s.i 63).toInt = (ceT c1 : Int) := ts
    have := hib.2
    omega
  have g73 : (s.a 73 (ceT c1)).toNatClampNeg = ceG c1 := by
    show (s.a 73 (ceT c1)).toInt.toNat = ceG c1
    omega
  rw [tp_nat ts, f2, if_neg (by decide), if_neg (by decide), if_neg (by decide), if_neg (by decide), if_neg (by decide), if_neg (by decide), if_neg (by decide), if_neg (by decide), if_pos rfl, g73] at hV
  obtain ⟨-, hV⟩ := hf_ite hV
  obtain ⟨s1, hp1, hV⟩ := hf_bind hV
  obtain ⟨y, hy, hV⟩ := hf_bind hV
  obtain ⟨-, hV⟩ := hf_ite hV
  obtain ⟨q, hp2, hV⟩ := hf_bind hV
  obtain ⟨hE, ⟨lk, lwq, tpq, tq⟩, frm, ⟨q50, q44⟩, ⟨q43, q38⟩, -⟩ := lp_pt (pf := 67) hC tp ts hT go (by rw [h207]; unfold isTy; decide) (by rw [h207]; decide) (by rw [h207]; rfl) (by rw [h207]; rfl) (by rw [h207]; decide) (Or.inr rfl) (Or.inr (Or.inr ⟨Or.inr h207, rfl⟩)) hp1 hy hp2
  have q72 : q.a 72 (ceT c1) = S.o c1.2.1 7 := (frm 72 (by decide) (by decide)).trans f5
  have q71 : q.a 71 (ceT c1) = S.o c1.2.1 3 := (frm 71 (by decide) (by decide)).trans f4
  -- the class
  unfold f_X7_endBody at e
  obtain ⟨-, e⟩ := hf_ite e
  rw [if_neg (by rw [h207]; decide), if_neg (by rw [h207]; decide), if_neg (by rw [h207]; decide), if_neg (by rw [h207]; decide)] at e
  obtain ⟨p36, e36, e⟩ := hf_bind e
  obtain ⟨-, e⟩ := hf_ite e
  obtain ⟨p41, e41, e⟩ := hf_bind e
  obtain ⟨-, e⟩ := hf_ite e
  obtain ⟨a1, a2, -, -⟩ := y_add hv e36
  obtain ⟨b1, b2, -, -⟩ := y_aim a1 e41
  obtain ⟨a1q, -, -, -⟩ := y_add hE.1 e36
  obtain ⟨b1q, -, -, -⟩ := y_aim a1q e41
  have ck := a2.tr b2
  have hin0 := hC.inl tp (T := ceT c1 + wid (S.o c1.2.1 0)) rfl
  have hCp := hC.cx hin0 (by omega) b1 ck
  have eo : ∀ z ∈ c1 :: c :: L, p41.2.o z.2.1 = S.o z.2.1 := fun z hz => (hin0.o ck.z z hz).1
  have eo1 := eo c1 List.mem_cons_self
  have eoc := eo c (List.mem_cons_of_mem _ List.mem_cons_self)
  have fin : ∃ v : Int32, (v = 0 ∨ v = 1) ∧ (S.o c1.2.1 7 = 0 → v = 1) ∧ (s.a 50 (ceG c1) = 1 → v = 1) ∧ f_X12_over N (RS.setI (RS.setI q 43 (q.i 43 - 1)) 38 (q.a 71 (ceT c1))) v = some V ∧ f_X7_endBody_193 N E1 E2 (CS.setI p41.2 36 v) c1.2.1 = some R := by
    have f469 : ∀ r : RS, f_X12_fors_469 N r = some r := fun r => rfl
    rw [q72, q50] at hV
    rw [eo1] at e
    by_cases z : S.o c1.2.1 7 = 0
    · rw [if_pos z] at hV e
      obtain ⟨r, hr, hV⟩ := hf_bind hV
      rw [f469] at hV
      rw [Option.some.inj hV] at hr
      exact ⟨1, Or.inr rfl, fun _ => rfl, fun _ => rfl, hr, e⟩
    · rw [if_neg z] at hV e
      obtain ⟨p47, e47, e⟩ := hf_bind e
      obtain ⟨y1, y2⟩ := y_gone hCp (by rw [eo1]; exact go) (Or.inl ⟨rfl, rfl⟩) e47
      have y3 : p47.1 = s.a 50 (ceG c1) := y2.trans (if_pos rfl)
      rw [y1, y3] at e
      by_cases k : s.a 50 (ceG c1) = 0
      · rw [if_pos k] at hV e
        obtain ⟨r, hr, hV⟩ := hf_bind hV
        rw [f469] at hV
        rw [Option.some.inj hV] at hr
        exact ⟨0, Or.inl rfl, fun y => absurd y z, fun y => by rw [k] at y; exact absurd y (by decide), hr, e⟩
      · rw [if_neg k] at hV e
        obtain ⟨r, hr, hV⟩ := hf_bind hV
        rw [f469] at hV
        rw [Option.some.inj hV] at hr
        exact ⟨1, Or.inr rfl, fun _ => rfl, fun _ => rfl, hr, e⟩
  obtain ⟨v, hv1, va, vf, ho, e193⟩ := fin
  have g43 : (q.i 43 - 1).toInt = (q.i 43).toInt - 1 := by
    have e1 : (1 : Int32).toInt = 1 := by decide
    have hi := Int32.toInt_lt (q.i 43)
    have := tpq.2.1
    rw [toInt_sub] <;> rw [e1] <;> omega
  have hinq : INL S q (ceT c1) (c :: L) := by
    have z := STK.inl L c _ _ _ hE.2.1 (by have := tp.1; have := lk.1; omega) (by have := tpq.2.1; have := lk.2.2.1; omega) (by have := tpq.2.2; have := lk.2.2.2.1; omega)
    rw [← lk.2.1] at z
    exact z
  have hEp := hE.cx hinq hT b1q ck
  have tpp : TOP p41.2 q c1 := ⟨by rw [ck.1.2.2.2.2.1]; exact tp.1, by rw [eo1]; exact tpq.2.1, by rw [eo1]; exact tpq.2.2⟩
  have lkp : LNK p41.2 c1 c := by
    unfold LNK at *
    rw [eo1, eoc]
    exact lk
  have lwp : LOW p41.2 q c := by
    unfold LOW at *
    rw [eoc]
    exact lwq
  obtain ⟨X1, X2, X3, X4, X5⟩ := e_193 (n := c.1) (by rw [ck.1.2.2.2.2.1]; have := tp.1; have := lk.1; omega) e193
  have ob := hC.2.2.2.2.2.2.2.1.2
  have ord := STK.ord (c :: L) c1 _ _ _ hC.2.1
  have i50 : p41.2.i 50 = S.i 50 := ck.1.2.2.2.1
  refine ⟨m2, V, g2, (pop_core hEp tpp lkp lwp bz hT t9 tq (by rw [eo1, h207]; rfl) (fun _ => by rw [q44, f6]; decide) hv1 ho ⟨fun k h1 h2 _ => (if_neg h1).trans (if_neg h2), rfl, rfl, rfl⟩ (by rw [eo1]; exact q71) (by rw [eo1, nGo1 go]; exact g43) (by rw [eo1, i50]; exact ob.1 c1 List.mem_cons_self) (fun z hz => by rw [eo1, eo z (List.mem_cons_of_mem _ hz)]; exact ob.2.1 z (List.mem_cons_of_mem _ hz) c1 List.mem_cons_self (ord z hz)) X1 X2 X3 X4 X5).1, fun _ jw => ?_⟩
  -- the code
  have q71' : q.a 71 (ceT c1) = S.o c1.2.1 3 := q71
  obtain ⟨-, b30, b0, col, hc⟩ := id hC.2.2.2.2.2.2.2.2.2.2
  have ph := hC.2.2.2.2.2.2.1.2.1
  have phe : PDM S (c1 :: c :: L) = 1 + PDM S (c :: L) := by
    show dbt (S.o c1.2.1 0) + PDM S (c :: L) = _
    rw [h207]
    rfl
  have pd0 := (PDM.ge S (c :: L)).1
  have e22a := pt_in (F := fun k => col k = some (ceG c1, false)) (κ := (ceG c1, false)) hc (fun k hk => hk) (hc.2.2.1 c1 List.mem_cons_self go).2 hp1
  have s70 : s1.a 70 (ceT c1) = s.a 70 (ceT c1) := by rw [e22a.2.2.2.1 70 (by decide)]
  rw [s70] at hy
  have eo36 := (hin0.o a2.z c1 List.mem_cons_self).1
  rw [eo36] at e41
  obtain ⟨u, ee, e22, he2, j1, ⟨q20, qi', qa'⟩, p43⟩ := lp_code (hp := 70) mA hC (Or.inr h207) jw (by omega) hp1 hy hp2 e36 e41
  have hr0 : (vw S s c1).v = 207 := h207
  have gis := hC.gis
  have t43 := tp.2.1
  have o3le := (ob.1 c1 List.mem_cons_self).2
  obtain ⟨jr, oR, aV⟩ := j1.pop1 (n := c.1) (q' := RS.setI (RS.setI q 43 (q.i 43 - 1)) 38 (q.a 71 (ceT c1))) (by omega) (by rw [p43]; exact he2) (by rw [ck.1.2.2.2.2.1]; have := tp.1; have := lk.1; omega) e193 ⟨fun k h1 h2 => (if_neg h1).trans (if_neg h2), rfl⟩ (by
    show (q.a 71 (ceT c1)).toInt ≤ (q.i 38).toInt
    rw [q71', q38, ← hv.2.1.1]
    exact o3le) ho (fun y hy gy => by
    have := gis y hy gy
    show ((y.2.2.2 : Nat) : Int) < (q.i 43 - 1).toInt
    rw [g43, q43]
    have := nGo1 go
    omega) (fun k k1 k2 => by rw [qa' k (by omega), e22.2 k (by omega)]) (by rw [qi' 59 (by decide), e22.1]) (by rw [qi' 11 (by decide), e22.1]; exact Int.le_refl _) (by rw [qi' 19 (by decide), e22.1]; exact Int.le_refl _) (fun FC SF nm X ω j Z hω r12 hcc k cur => by
    obtain ⟨⟨ct, pq, ⟨s1', s2'⟩, ⟨u1', u2'⟩, pe1, pe2⟩, ⟨st, hd, rp, -⟩, G', -, hY, hX⟩ := k
    have p20 := hv.p20
    have p12 := pq.1
    have pS : (s.i 20 + 1).toInt = ((pcR s + 1 : Nat) : Int) := by
      have z1 : (s.i 20).toInt = ((pcR s : Nat) : Int) := (Int.toNat_of_nonneg p20.1).symm
      rw [ad1 p20.1 (by omega)]
      omega
    have r70 : (vw S s c1).2.1 70 = s.a 70 (ceT c1) := (vw_at (k := 70) ⟨by decide, by decide⟩)
    have r67 : (vw S s c1).2.1 67 = s.a 67 (ceT c1) := (vw_at (k := 67) ⟨by decide, by decide⟩)
    obtain ⟨p0, c0, l0, -⟩ := hd (S.o c1.2.1 10) (Or.inl ⟨Or.inr (Or.inl hr0), rfl⟩)
    have q70 := (rp go).2 hr0
    rw [r70] at q70
    have cq : (s.a 70 (ceT c1)).toInt = (((s.a 70 (ceT c1)).toInt.toNat : Nat) : Int) := (Int.toNat_of_nonneg q70).symm
    have nty : ¬ isTy (vw S s c1).v := fun z => by
      rw [hr0] at z
      rcases z with z | z | z | z <;> exact absurd z (by decide)
    have en : ∀ (h l : Nat), jen G' ω (vw S s c1) h l = [] := fun h l => jen.no (by rw [hr0]; decide) nty (by rw [hr0]; decide)
    have bk : jbk G' ω (vw S s c1) j = j := if_neg (by rw [hr0]; decide)
    have cn : jcn G' ω (vw S s c1) j = j.up 2528 := if_pos (by rw [hr0]; decide)
    rw [pe1, pe2] at cur
    refine lop_fin (jh := j.up 1264) c0 l0 cq hY hX (fun Y h => by rw [← r70]; exact h.2.2.1 hr0) (fun Y sy hed => ⟨⟨fun z => absurd (hr0.symm.trans z) (by decide), fun z => absurd (hr0.symm.trans z) (by decide), fun z => absurd (hr0.symm.trans z) (by decide), fun z => absurd (hr0.symm.trans z) (by decide), fun _ => ⟨fun f0 => ?_, ⟨_, _, c0, by rw [r70]; exact cq, l0, hed⟩⟩, fun z => absurd (hr0.symm.trans z) (by decide), fun z => absurd (hr0.symm.trans z) (by decide), fun z => absurd z nty, fun _ => noc.gl⟩, fun _ => ⟨fun fl => ?_, fun _ _ => ?_⟩, fun h1 => ?_⟩)
    · have pl7 := (hc.2.2.2.2.2.2 c1 List.mem_cons_self (s.a 67 (ceT c1)).toInt (Or.inr (Or.inr ⟨Or.inr h207, rfl⟩))).1
      have e9 := st (s.a 67 (ceT c1)).toNatClampNeg (Or.inr (Or.inr (Or.inl ⟨Or.inr hr0, by
        rw [r67]
        exact clampI (by omega)⟩)))
      refine ⟨_, _, ct, ?_, sy _ _ _ _ _ _ (Nat.zero_le _) (cur (va f0)).1⟩
      rw [r67, e9]
      exact pS
    · rw [bk]
      exact ⟨_, _, ct, pS, sy _ _ _ _ _ _ (Nat.zero_le _) (cur (vf fl)).1⟩
    · rw [cn]
      refine ⟨_, _, c0, cq, ?_⟩
      have z := hed.1
      rw [show ω + (j.up 1264).l + 1264 - p0 = ω + (j.up 2528).l - p0 by (show ω + (j.l + 1264) + 1264 - p0 = ω + (j.l + 2528) - p0; omega)] at z
      exact z
    · have jl : jlv (vw S s c1).v = 3792 := by rw [hr0]; rfl
      rw [en, jl]
      have hl : (j.up 1264).l = j.l + 1264 := rfl
      have z : ∀ g : Nat, GU FC SF U nm Y (pcC S) (pcR s) j.h (ω + (j.l + 3792) - pcC S) g j.c := fun g => gi_UJmp (pq.hc hcc) pq.2.1 ⟨s1', u1', p0, _, _, ⟨by rw [s2']; exact c0, by rw [u2']; exact cq⟩, by rw [hl]; omega, hed.1⟩
      exact ⟨z 0, z 1⟩)
  rw [clo_veq (hC.drop (by rw [h207]; unfold isTy; decide) (by rw [h207]; decide) (by rw [h207]; rfl) (by rw [h207]; rfl)).1 tp lk (fun j _ => by rw [aV, qa' 40 (by omega)]) (fun y hy => by rw [oR]; exact (hin0.o ck.z y (List.mem_cons_of_mem _ hy)).1) (fun k t h1 h2 _ => by rw [aV, qa' k (by omega)])]
  exact jr
