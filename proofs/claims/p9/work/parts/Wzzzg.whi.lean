/-! both readers: a while's end -/
theorem E22.mono {F G : Nat → Prop} {s u : RS} (h : E22 F s u) (m : ∀ k : Nat, F k → G k) : E22 G s u := ⟨h.1, h.2.1, h.2.2.1, h.2.2.2.1, fun j hj => h.2.2.2.2 j (fun z => hj (m j z))⟩
theorem FRE.mv {S : CS} {s u : RS} {L : List CEL} {col : Nat → Option (Nat × Bool)} {b20 : Int} {k : Nat} (h : FRE S s L col b20 k) (e : ∀ q ∈ L, u.a 66 (ceT q) = s.a 66 (ceT q)) : FRE S u L col b20 k := ⟨h.1, h.2.1, fun q hq t => by
  rw [e q hq]
  exact h.2.2 q hq t⟩
theorem CKZ.rf (S : CS) : CKZ S S := (CKX.rf S).z
/-- as COR.mv, but instructions may be fewer -/
theorem COR.mv3 {d : Int32} {B : CS} {b : RS} {t0 T : Nat} {L : List CEL} {x : Int} {S : CS} {s u : RS} (h : COR d B b t0 L x S s) (hin : INL S s T L) (hT : t0 ≤ T) (ev : ENV d S u) (f : FRB T s u) (tk : TBK s u) (q : (s.i 11).toInt ≤ (u.i 11).toInt ∧ phI b + PDM S L ≤ phI u ∧ (s.i 17).toInt ≤ (u.i 17).toInt ∧ (u.i 19).toInt = (s.i 19).toInt) : COR d B b t0 L x S u := by
  obtain ⟨t1, t2, t3, t4, t5, t6, t7, t8, t9, t10⟩ := tk.1.1
  have tbb := h.2.2.2.2.2.1.2.1
  have tb := tk.1.r
  have n8 := h.2.2.2.2.2.2.2.2.1.2.1
  refine h.mv2 hin hT ev f tb tk.2 ⟨t1, t2, t3, t8, t9, t10⟩ (CKZ.rf S) rfl rfl (fun y hy => (h.2.2.2.2.2.2.2.1.2.1 y hy).2) h.2.2.2.2.1.2.2.1 (by rw [t4]; exact tbb.1) (by rw [t5]; exact tbb.2.1) (by rw [t7]; exact tbb.2.2.1) ?_ ⟨Int.le_refl _, Int.le_refl _, Int.le_refl _⟩ q (by rw [t4]; omega)
  obtain ⟨⟨a1, a2⟩, a3⟩ := h.2.2.2.2.2.2.2.2.2.1
  unfold IAR
  rw [t5]
  refine ⟨⟨fun z => ?_, fun z => ?_⟩, a3⟩
  · obtain ⟨g, g1, g2⟩ := a1 z
    exact ⟨g, g1, (tb.2.1 g g1).1.trans g2⟩
  · obtain ⟨g, g1, g2⟩ := z
    exact a2 ⟨g, g1, (tb.2.1 g g1).1.symm.trans g2⟩
set_option maxHeartbeats 2000000 in
theorem en_while {N : Nat} {E1 : CS → Option (Unit × CS)} {E2 : CS → Option (Int32 × CS)} {d : Int32} {B : CS} {b : RS} {t0 n : Nat} {L : List CEL} {x : Int} {S : CS} {s U : RS} {c1 c : CEL} {R : Unit × CS} (hC : COR d B b t0 (c1 :: c :: L) x S s) (tp : TOP S s c1) (hM : MEN c1 S s) (h205 : S.o c1.2.1 0 = 205) (bz : BAZ B b (c1 :: c :: L)) (hT : t0 ≤ ceT c1) (e : f_X7_endBody N E1 E2 S c1.2.1 = some R) (g : f_X12_parse_10 N n s = some U) : ∃ (m : Nat) (u : RS), f_X12_parse_10 N m u = some U ∧ POPD d B b t0 c L R.2 u := by
  obtain ⟨one, o5, ts, h75, hm⟩ := hM
  obtain ⟨m1, e1, k1, m2, e2, k2, cst⟩ := STK.mem _ _ _ _ hC.2.1 c1 List.mem_cons_self
  obtain ⟨f1, f2, f3, f4, f5⟩ := cst.2.2.1.2.2.2.2.2.2.1 h205
  have hv := hC.1
  have go : isGo (S.o c1.2.1 0) := Or.inr (Or.inr (Or.inl h205))
  obtain ⟨m2, V, hV, g2⟩ := rl_10 g ts hv.1.2.1 f1
  unfold f_X12_whiles at hV
  obtain ⟨hib, hV⟩ := hf_ite hV
  have t9 : ceT c1 < 1000 := by
    have h2 : (s.i 63).toInt = (ceT c1 : Int) := ts
    have := hib.2
    omega
  have g68 : (s.a 68 (ceT c1)).toNatClampNeg = ceG c1 := by
    show (s.a 68 (ceT c1)).toInt.toNat = ceG c1
    omega
  rw [tp_nat ts, f2, if_neg (by decide), if_neg (by decide), g68] at hV
  obtain ⟨-, hV⟩ := hf_ite hV
  obtain ⟨s1, hp1, hV⟩ := hf_bind hV
  obtain ⟨y, hy, hV⟩ := hf_bind hV
  obtain ⟨-, hV⟩ := hf_ite hV
  obtain ⟨q, hp2, hV⟩ := hf_bind hV
  -- the row goes
  obtain ⟨hD, inj, ord, lk, lw⟩ := hC.drop (by rw [h205]; unfold isTy; decide) (by rw [h205]; decide) (by rw [h205]; rfl) (by rw [h205]; rfl)
  have ph := hC.2.2.2.2.2.2.1.2.1
  have phe : PDM S (c1 :: c :: L) = 1 + PDM S (c :: L) := by
    show dbt (S.o c1.2.1 0) + PDM S (c :: L) = _
    rw [h205]
    rfl
  have pd0 := (PDM.ge S (c :: L)).1
  obtain ⟨-, b30, b0, col, hc⟩ := id hC.2.2.2.2.2.2.2.2.2.2
  obtain ⟨hx48, hx49⟩ := hc.2.2.1 c1 List.mem_cons_self go
  have e22a := pt_in (F := fun k => col k = some (ceG c1, false)) (κ := (ceG c1, false)) hc (fun k hk => hk) hx49 hp1
  obtain ⟨hE1, hc1⟩ := hD.e22 (hc.drop inj) (e22a.mono (fun k hk => (hc.fre b0).1 k false hk))
  have t1 : tpI s1 = (ceT c1 : Int) := by
    show (s1.i 63).toInt = _
    rw [e22a.1]
    exact ts
  have ph1 : phI s1 = phI s := by
    unfold phI
    rw [e22a.1]
  obtain ⟨n1, n2, n3, n4, n5, n6, n7, n8, n9, n19, -⟩ := y_emit hE1.1 t1 (by omega) hy
  have hin0 := hC.inl tp (T := ceT c1 + wid (S.o c1.2.1 0)) rfl
  have hin1 : INL S s1 (ceT c1) (c :: L) := by
    have z := STK.inl L c _ _ _ hE1.2.1 (by have := tp.1; have := lk.1; omega) (by rw [e22a.1]; have := tp.2.1; have := lk.2.2.1; omega) (by rw [e22a.1]; have := tp.2.2; have := lk.2.2.2.1; omega)
    rw [← lk.2.1] at z
    exact z
  have hE2 := hE1.mv3 hin1 hT n1 (n3 _) n4 ⟨by rw [n8]; exact Int.le_refl _, by omega, by rw [n9]; exact Int.le_refl _, by rw [n19]⟩
  have hc2 := hc1.mv b0 hin1 (CKZ.rf S) (n3 _) n4.1.r n4.2
  have fr := n3 (ceT c1 + 1) (ceT c1) (by omega)
  have y67 : y.2.a 67 (ceT c1) = s.a 67 (ceT c1) := by
    rw [fr.2.2.2.1, e22a.2.2.2.1 67 (by decide)]
  have pl : PLF S s c1 (s.a 67 (ceT c1)).toInt := Or.inr (Or.inr ⟨Or.inl h205, rfl⟩)
  have e66 : ∀ z ∈ c :: L, y.2.a 66 (ceT z) = s.a 66 (ceT z) := fun z hz => by
    have a := (hin1 z hz).2.2.1
    have b := wid1 (S.o z.2.1 0)
    rw [(n3 (ceT c1) (ceT z) (by omega)).2.2.1, e22a.2.2.2.1 66 (by decide)]
  rw [y67] at hp2
  have f67 : FRE S y.2 (c :: L) (cdr (ceG c1) col) (b.i 20).toInt (s.a 67 (ceT c1)).toNatClampNeg := ((hc.fre b0).2 _ pl).mv e66
  obtain ⟨s3, hs3⟩ : ∃ s3, s3 = RS.setA y.2 22 (s.a 67 (ceT c1)).toNatClampNeg (y.2.i 20) := ⟨_, rfl⟩
  have e22b : E22 (FRE S y.2 (c :: L) (cdr (ceG c1) col) (b.i 20).toInt) y.2 s3 := by
    rw [hs3]
    exact E22.set f67
  have a22 : ∀ k : Nat, k ≠ (s.a 67 (ceT c1)).toNatClampNeg → s3.a 22 k = y.2.a 22 k := fun k hk => by
    rw [hs3]
    exact setA_ne hk
  rw [← hs3] at hp2
  clear hs3
  obtain ⟨hE3, hc3⟩ := hE2.e22 hc2 e22b
  have e663 : ∀ z ∈ c :: L, s3.a 66 (ceT z) = s.a 66 (ceT z) := fun z hz => by
    rw [e22b.2.2.2.1 66 (by decide)]
    exact e66 z hz
  have n67 := (hc.2.2.2.2.2.2 c1 List.mem_cons_self _ pl).2.2.1
  have gi : (ceG c1 : Int) < (s1.i 43).toInt := by
    rw [e22a.1]
    have := tp.2.1
    have := nGo1 go
    omega
  have y48 : y.2.a 48 (ceG c1) = s.a 48 (ceG c1) ∧ y.2.a 50 (ceG c1) = s.a 50 (ceG c1) ∧ y.2.a 44 (ceG c1) = s.a 44 (ceG c1) := by
    have z := n4.1.r.2.1 (ceG c1) gi
    rw [z.2.2.2.2.2.2.1, z.2.2.2.2.1, z.1, e22a.2.2.2.1 48 (by decide), e22a.2.2.2.1 50 (by decide), e22a.2.2.2.1 44 (by decide)]
    exact ⟨rfl, rfl, rfl⟩
  rw [y48.1] at hp2
  have e22c : E22 (FRE S s3 (c :: L) (cdr (ceG c1) col) (b.i 20).toInt) s3 q := by
    refine pt_e22 (κ := (ceG c1, true)) (col := col) (fun k hk => ((hc.fre b0).1 k true hk).mv e663) N (s.i 20).toInt.toNat s3 q (y.2.i 20) (s.a 48 (ceG c1)) (fun k hk _ => ?_) ?_ hp2
    · have k20 := (hc.1 k _ hk).2
      have nk : k ≠ (s.a 67 (ceT c1)).toNatClampNeg := fun z => by
        have z2 : col k = none := by
          rw [z]
          exact n67
        rw [z2] at hk
        cases hk
      rw [a22 k nk, n4.2.2 k (by rw [e22a.1]; exact k20), e22a.2.2.2.2 k (fun z => by
        have z' : col k = some (ceG c1, false) := z
        rw [hk] at z'
        have z2 : true = false := congrArg Prod.snd (Option.some.inj z')
        exact absurd z2 (by decide))]
      exact hc.2.1 k _ hk
    · rcases hx48 with z | ⟨j, j1, j2⟩
      · exact Or.inl z
      · have := (hc.1 j _ j2).2
        exact Or.inr ⟨j, j1, by omega, j2⟩
  obtain ⟨hE4, -⟩ := hE3.e22 hc3 e22c
  have qi : q.i = y.2.i := e22c.1.trans e22b.1
  have qa : ∀ k : Nat, k ≠ 22 → q.a k = y.2.a k := fun k hk => (e22c.2.2.2.1 k hk).trans (e22b.2.2.2.1 k hk)
  have q71 : q.a 71 (ceT c1) = S.o c1.2.1 7 := by
    rw [qa 71 (by decide), fr.2.2.2.2.2.2.2.1, e22a.2.2.2.1 71 (by decide)]
    exact f4
  have q50 : q.a 50 (ceG c1) = s.a 50 (ceG c1) := by
    rw [qa 50 (by decide)]
    exact y48.2.1
  have q43 : q.i 43 = s.i 43 := by
    rw [qi, n4.1.1.2.2.2.2.1, e22a.1]
  have q56 : q.i 56 = s.i 56 := by
    rw [qi, n4.1.1.2.2.2.2.2.2.1, e22a.1]
  -- the class
  unfold f_X7_endBody at e
  obtain ⟨-, e⟩ := hf_ite e
  rw [if_neg (by rw [h205]; decide), if_neg (by rw [h205]; decide), if_neg (by rw [h205]; decide), if_neg (by rw [h205]; decide)] at e
  obtain ⟨p36, e36, e⟩ := hf_bind e
  obtain ⟨-, e⟩ := hf_ite e
  obtain ⟨p41, e41, e⟩ := hf_bind e
  obtain ⟨-, e⟩ := hf_ite e
  obtain ⟨a1, a2, -, -⟩ := y_add hv e36
  obtain ⟨b1, b2, -, -⟩ := y_aim a1 e41
  obtain ⟨a1q, -, -, -⟩ := y_add hE4.1 e36
  obtain ⟨b1q, -, -, -⟩ := y_aim a1q e41
  have ck := a2.tr b2
  have hCp := hC.cx hin0 (by omega) b1 ck
  have eo1 := (hin0.o ck.z c1 List.mem_cons_self).1
  have fin : ∃ v : Int32, (v = 0 ∨ v = 1) ∧ f_X12_over N (RS.setI q 43 (q.i 43 - 1)) v = some V ∧ f_X7_endBody_193 N E1 E2 (CS.setI p41.2 36 v) c1.2.1 = some R := by
    rw [q71, q50] at hV
    rw [eo1] at e
    by_cases z : S.o c1.2.1 7 = 0
    · rw [if_pos z] at hV e
      rw [ob_id] at hV
      exact ⟨1, Or.inr rfl, hV, e⟩
    · rw [if_neg z] at hV e
      obtain ⟨p47, e47, e⟩ := hf_bind e
      obtain ⟨y1, y2⟩ := y_gone hCp (by rw [eo1]; exact go) (Or.inl ⟨rfl, rfl⟩) e47
      have y3 : p47.1 = s.a 50 (ceG c1) := y2.trans (if_pos rfl)
      rw [y1, y3] at e
      by_cases k : s.a 50 (ceG c1) = 0
      · rw [if_pos k] at hV e
        rw [ob_id] at hV
        exact ⟨0, Or.inl rfl, hV, e⟩
      · rw [if_neg k] at hV e
        rw [ob_id] at hV
        exact ⟨1, Or.inr rfl, hV, e⟩
  obtain ⟨v, hv1, ho, e193⟩ := fin
  have g43 : (q.i 43 - 1).toInt = (q.i 43).toInt - 1 := by
    have e1 : (1 : Int32).toInt = 1 := by decide
    have hi := Int32.toInt_lt (q.i 43)
    have := tp.2.1
    rw [← q43] at this
    rw [toInt_sub] <;> rw [e1] <;> omega
  have tpq : TOP S q c1 := ⟨tp.1, by rw [q43]; exact tp.2.1, by rw [q56]; exact tp.2.2⟩
  have lwq : LOW S q c := (((lw.e22 e22a).mv rfl (n3 (ceT c1)) (by rw [lk.2.1]; exact Nat.le_refl _)).e22 e22b).e22 e22c
  exact ⟨m2, V, g2, en_pop hE4 eo1 tpq (by show (q.i 63).toInt = _; rw [qi]; exact n2) hm one (by rw [h205]; decide) (by rw [h205]; decide) (fun _ => by rw [qa 44 (by decide), y48.2.2, f5]; decide) bz hT t9 lk lwq b1q ck hv1 ho ⟨fun k hk => if_neg hk, rfl, rfl, rfl⟩ (by rw [nGo1 go]; exact g43) e193⟩
