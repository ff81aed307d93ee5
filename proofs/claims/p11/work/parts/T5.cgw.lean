/-! the class's reading: a try's block or a catch's ends, whole -/
theorem q_endGrd {N : Nat} {H : HB} {x y : Int} {c : List Nat} {X : List (Nat × List Nat)} {P : List Nat} {T : List Int} {σ : CS} {a m : Nat} {s' s : CS} (hx : x ≤ 4000) (hy : y ≤ 90) (hσ : JJ H (x + 100) y c X P (ccI σ :: T) σ) (ht : TUR σ a m) (hs : σ.o a 0 = 213 ∨ σ.o a 0 = 215) (h : ECL H x y c X P T σ a m s' s) : ok (f_X7_endGuarded N s a) (fun R => TNQ H (x + 5) y X P T σ R.2 ∧ (R.2.i 32 = 0 → cnI R.2 = (m : Int) ∨ (nmI R.2 = (R.2.o a 3).toInt ∧ cnI R.2 = (m : Int) + 1))) := by
  obtain ⟨nf, hm, ea, nr, m4⟩ := (show TUR σ a m from ht)
  obtain ⟨DT0, KT0, c0, lim0, r0⟩ := hσ.row ht
  obtain ⟨ph, ec⟩ : ∃ ph : Nat, c = ph :: c0 := by
    rcases hs with e | e
    · exact ⟨1, (r0.cx.2.1 e).1⟩
    · exact ⟨2, (r0.cx.2.2.1 (Or.inl e)).1⟩
  have nb := (hσ.2 nf).2
  have em : (cnI σ).toNat = m + 1 := by omega
  have sg := nb.2.2.2.2.2.2.1
  rw [em] at sg
  have ds := hσ.ds nf
  have hcl : ∀ (s : CS) (DT : Nat → List Nat) (KT : Nat → Prop) (c0' : List Nat) (lim lim0 : List Int), s.o a 0 = σ.o a 0 → ROW1 s DT KT a c0' c lim lim0 → c0' = c0 ∧ lim0 = lim := fun s DT KT c0' lim lim0 e r => by
    rcases hs with q | q
    · have w := r.cx.2.1 (by rw [e]; exact q)
      rw [ec] at w
      exact ⟨(List.cons.inj w.1).2.symm, w.2⟩
    · have w := r.cx.2.2.1 (Or.inl (by rw [e]; exact q))
      rw [ec] at w
      exact ⟨(List.cons.inj w.1).2.symm, w.2⟩
  have sx : sgn σ a = 1 := by
    unfold sgn
    rcases hs with e | e <;> rw [e] <;> rfl
  -- the row's targets, wherever it stands as it stood
  have rT : ∀ (u : CS), (∀ j : Nat, j ≠ 6 → u.o a j = σ.o a j) → u.r 51 m = some a → cnI u = (m : Int) + 1 → ∀ (DT : Nat → List Nat) (KT : Nat → Prop), (∀ n : Nat, (n : Int) = cnI u → RCH (shs u) DT KT n c (ccI σ :: T)) → TTc (tcI u) DT KT (u.o a 9) c0 ∧ (u.o a 2).toInt = (c0.length : Int) ∧ TTc (tcI u) DT KT (u.o a 10) (2 :: c0) := fun u uo ur uc DT KT qR => by
    obtain ⟨c0', L0, r⟩ := (qR (m + 1) (by omega)).top (show (shs u).r 51 m = some a from ur)
    have so : (shs u).o a 0 = σ.o a 0 := uo 0 (by decide)
    have e := (hcl (shs u) DT KT c0' _ L0 so r).1
    have etc : tcI (shs u) = tcI u := by unfold tcI; rw [shs.i u 21 (by decide)]
    have sv : (shs u).o a 0 = 213 ∨ (shs u).o a 0 = 215 := by rw [so]; exact hs
    have t9 := r.cx.2.2.2.2.1 (by rcases sv with q | q; exact Or.inr (Or.inl q); exact Or.inr (Or.inr (Or.inl q)))
    have t10 := r.cx.2.2.2.2.2.1 sv
    have t2 := r.1
    rw [e] at t9 t10 t2
    rw [etc] at t9 t10
    exact ⟨t9, t2, t10⟩
  unfold f_X7_endGuarded
  refine ok_chk (h.1.1.1.2.1 m a m4 h.2.1) ?_
  refine ok_bind (q_lv N s (s.o a 9) (s.o a 2)) (fun p hp => ?_)
  obtain ⟨o, v, ha, hov⟩ := hp
  have oS : s.i 32 = 0 → ∀ j : Nat, j ≠ 6 → s.o a j = σ.o a j := fun z j _ => by rw [h.o z]
  have j1 := h.1.add (c1 := 2 :: c0) ha (by omega) (by omega) (fun _ => ds.2) (fun z DT KT _ qR => by
    have w := rT s (oS z) h.2.1 (h.2.2 z).2.2.2.2.2.2 DT KT qR
    refine IOK.lv (t := s.o a 9) (g := s.o a 2) (r := [ph]) ?_ w.1 w.2.1 ec ds.2 (by have := (h.1.tb z (by omega) (by omega)).1; omega)
    rcases hov with ⟨e1, e2, e3⟩ | e
    · refine Or.inl ⟨e1, e2, ?_⟩
      rw [e3, (h.2.2 z).2.2.2.2.1]
      exact ds.1
    · exact Or.inr e)
  have po : p.2.o = s.o := ha.1.2.2.2.1
  have pr : p.2.r 51 m = some a := by rw [ha.1.2.2.2.2.2.2.1]; exact h.2.1
  have p32 := ha.f32.1
  have pc : p.2.i 32 = 0 → cnI p.2 = (m : Int) + 1 := fun z => by rw [← (h.2.2 (p32.symm.trans z)).2.2.2.2.2.2]; unfold cnI; rw [ha.2.1 53 (by decide)]
  refine ok_chk (j1.1.1.2.1 m a m4 pr) ?_
  refine ok_bind (q_aim N p.2 (p.2.o a 10)) (fun q hq => ?_)
  have j2 : JSH H (x + 1) y (2 :: c0) c c X P (ccI σ :: T) q.2 := j1.aim hq (by omega) (by omega) (fun z DT KT _ qR => by
    have w := (rT p.2 (by rw [po]; exact oS (p32.symm.trans z)) pr (pc z) DT KT qR).2.2
    exact ⟨w.1, w.2.1, w.2.2.1⟩) (fun _ k hk => Or.inl hk)
  have qr : q.2.r 51 m = some a := by rw [hq.1.2.2.2.2.2.2.1]; exact pr
  have qo : q.2.o = s.o := hq.1.2.2.2.1.trans po
  have q32 : q.2.i 32 = s.i 32 := hq.f.1.trans p32
  have qc : q.2.i 32 = 0 → cnI q.2 = (m : Int) + 1 := fun z => by rw [← pc (hq.f.1.symm.trans z)]; unfold cnI; rw [hq.2.1]
  have q10 : q.2.i 32 = 0 → ∀ k : Nat, (k : Int) = (s.o a 10).toInt → (k : Int) < tcI q.2 → ¬ (q.2.a 17 k).toInt = -1 := fun z k k1 k2 => by
    have z1 := hq.f.1.symm.trans z
    have tb := j1.tb z1 (by omega) (by omega)
    have etc : tcI q.2 = tcI p.2 := by unfold tcI; rw [hq.2.1]
    exact hq.at (by rw [po]; exact k1) (by omega) tb.2
  refine ok_chk (j2.1.1.2.1 m a m4 qr) ?_
  have q38 : q.2.i 38 = s.i 38 := by rw [hq.2.1, ha.2.1 38 (by decide)]
  have q50 : nmI q.2 = nmI s := by unfold nmI; rw [hq.2.1, ha.2.1 50 (by decide)]
  have q22 : q.2.i 22 = s.i 22 := by rw [hq.2.1, ha.2.1 22 (by decide)]
  -- behind the note whether it can end
  have main : ∀ w : Int32, bo w → ok (f_X7_endGuarded_46 N (CS.setO q.2 a 6 w) a) (fun R => TNQ H (x + 5) y X P T σ R.2 ∧ (R.2.i 32 = 0 → cnI R.2 = (m : Int) ∨ (nmI R.2 = (R.2.o a 3).toInt ∧ cnI R.2 = (m : Int) + 1))) := fun w hw => by
    have j3 := j2.fld qr m4 qc 6 w (by omega) (fun _ => hw)
    have ou := (OUV.rf q.2 a).o 6 w
    have t2 := ou.t2 j2.1.1 m4 qr
    have uo : ∀ j : Nat, j ≠ 6 → (CS.setO q.2 a 6 w).o a j = s.o a j := fun j hj => by
      rw [show (CS.setO q.2 a 6 w).o a = upd (q.2.o a) 6 w from ou.2.2.1, qo]
      exact if_neg hj
    have u6 : bo ((CS.setO q.2 a 6 w).o a 6) := by
      rw [show (CS.setO q.2 a 6 w).o a = upd (q.2.o a) 6 w from ou.2.2.1]
      exact hw
    have ui : (CS.setO q.2 a 6 w).i = q.2.i := ci_setO ..
    have ua : (CS.setO q.2 a 6 w).a = q.2.a := ca_setO ..
    have ur : (CS.setO q.2 a 6 w).r 51 m = some a := qr
    generalize CS.setO q.2 a 6 w = u at *
    have u32 : u.i 32 = s.i 32 := by rw [ui]; exact q32
    have uc : u.i 32 = 0 → cnI u = (m : Int) + 1 := fun z => by rw [← qc (by rw [← ui]; exact z)]; unfold cnI; rw [ui]
    have utc : tcI u = tcI q.2 := by unfold tcI; rw [ui]
    have tl : s.i 32 = 0 → TL2 m s' u := fun z => (((h.2.2 z).2.1.tr ha.tle).tr hq.tle).t2 m |>.tr t2
    have oU : s.i 32 = 0 → ∀ j : Nat, j ≠ 6 → u.o a j = σ.o a j := fun z j hj => by rw [uo j hj]; exact oS z j hj
    -- a catch or finally follows
    have grd : ok (f_X7_endGuarded_66 N u a) (fun R => TNQ H (x + 5) y X P T σ R.2 ∧ (R.2.i 32 = 0 → cnI R.2 = (m : Int) ∨ (nmI R.2 = (R.2.o a 3).toInt ∧ cnI R.2 = (m : Int) + 1))) := by
      unfold f_X7_endGuarded_66
      refine ok_chk (j3.1.1.2.1 m a m4 ur) (ok_some ?_)
      have j4 := j3.grd (ph := ph) ec ur m4 uc (fun z => by
        have e := oU (u32.symm.trans z) 0 (by decide)
        rw [e]; exact hs) (fun z => by
        have z1 := u32.symm.trans z
        rw [ui, q38, (h.2.2 z1).2.2.2.2.1]
        exact ds) (fun z k k1 k2 => by
        rw [ua]
        exact q10 (by rw [← ui]; exact z) k (by rw [← uo 10 (by decide)]; exact k1) (by omega))
      have ou5 := (OUV.rf u a).o 0 305
      have t25 := ou5.t2 j3.1.1 m4 ur
      have v0 : (CS.setO u a 0 305).o a 0 = 305 := by rw [show (CS.setO u a 0 305).o a = upd (u.o a) 0 305 from ou5.2.2.1]; rfl
      have v3 : (CS.setO u a 0 305).o a 3 = u.o a 3 := by rw [show (CS.setO u a 0 305).o a = upd (u.o a) 0 305 from ou5.2.2.1]; rfl
      have vi : (CS.setO u a 0 305).i = u.i := ci_setO ..
      have vr : (CS.setO u a 0 305).r 51 m = some a := ur
      show TNQ H (x + 5) y X P T σ (CS.setO u a 0 305) ∧ _
      generalize CS.setO u a 0 305 = V at *
      have trn : V.i 32 = 0 → TNR σ V := fun z => by
        have z1 : s.i 32 = 0 := u32.symm.trans (by rw [← vi]; exact z)
        exact (h.2.2 z1).1.trn2 (by omega) (by omega) hm ea vr nr ((tl z1).tr t25) (by rw [sx]; unfold sgn; rw [v0]; rfl)
      refine ⟨⟨j4.1, fun z => ⟨⟨2 :: c0, ?_⟩, trn z⟩⟩, fun z => Or.inr ?_⟩
      · have z1 : s.i 32 = 0 := u32.symm.trans (by rw [← vi]; exact z)
        have ecc : ccI V = ccI σ := by unfold ccI; rw [vi, ui, q22, (h.2.2 z1).2.2.2.1]
        rw [ecc]
        refine (JK.j (j4.un (fun _ => ?_))).w (by omega) (by omega)
        have e3 := (trn z).2.2.1
        rw [em] at e3
        have sR : sgI V = sgI σ + -1 := by
          rw [← (h.2.2 z1).1.2.2.1]
          have w := ((tl z1).tr t25).2.2.2.1
          unfold sgI
          rw [w]
        have bas := (BAS (s := V) (cnI V).toNat).2.2.2.1
        have := nb.2.2.2.1.2
        omega
      · have z1 : s.i 32 = 0 := u32.symm.trans (by rw [← vi]; exact z)
        show nmI V = (V.o a 3).toInt ∧ cnI V = (m : Int) + 1
        have e : nmI V = nmI s := by rw [← q50]; unfold nmI; rw [vi, ui]
        refine ⟨?_, ?_⟩
        · rw [e, v3, uo 3 (by decide)]
          exact (h.2.2 z1).2.2.2.2.2.1
        · rw [← uc (by rw [← vi]; exact z)]; unfold cnI; rw [vi]
    unfold f_X7_endGuarded_46
    refine ok_bind (q_found u 215) (fun f hf => ?_)
    rw [hf.1]
    refine ok_ite (fun _ => ?_) (fun _ => grd)
    refine ok_bind (q_found u 216) (fun f hf => ?_)
    rw [hf.1]
    refine ok_ite (fun _ => ?_) (fun _ => grd)
    refine ok_chk (j3.1.1.2.1 m a m4 ur) (ok_ite (fun _ => ok_bind (q_misp j3.1) (fun f hf => ok_some ⟨TNQ.flt j3.1 hf, fun z => absurd z hf.2.2.2.1⟩)) (fun _ => ?_))
    -- the try is whole
    refine ok_bind (q_add N u 58 0) (fun d hd => ?_)
    have j4 := j3.add (c1 := c0) hd (by omega) (by omega) (fun _ => by have := ds.2; rw [ec] at this; exact this) (fun z DT KT _ _ => ⟨fun q => absurd q (by decide), fun q => absurd q (by decide), fun _ q => absurd q (by decide), fun _ q => absurd q (by decide), fun q => absurd q (by decide), fun q => absurd q (by decide), fun q => absurd q (by decide), fun q => absurd q (by decide), fun _ => ⟨c0, rfl⟩, fun q => absurd q (by decide), fun q => absurd q (by decide), fun q => absurd q (by decide), by decide⟩)
    have dO : d.2.o = u.o := hd.1.2.2.2.1
    have dr : d.2.r 51 m = some a := by rw [hd.1.2.2.2.2.2.2.1]; exact ur
    have d32 := hd.f32.1
    refine ok_chk (j4.1.1.2.1 m a m4 dr) ?_
    refine ok_bind (q_aim N d.2 (d.2.o a 9)) (fun e he => ?_)
    have j5 : JSH H (x + 1 + 1) y c0 c c X P (ccI σ :: T) e.2 := j4.aim he (by omega) (by omega) (fun z DT KT _ qR => by
      have z1 := d32.symm.trans z
      have w := (rT d.2 (by rw [dO]; exact oU (u32.symm.trans z1)) dr (by rw [← uc z1]; unfold cnI; rw [hd.2.1 53 (by decide)]) DT KT qR).1
      exact ⟨w.1, w.2.1, w.2.2.1⟩) (fun _ k hk => Or.inl hk)
    have eO : e.2.o = u.o := he.1.2.2.2.1.trans dO
    have er : e.2.r 51 m = some a := by rw [he.1.2.2.2.2.2.2.1]; exact dr
    refine ok_chk (j5.1.1.2.1 m a m4 er) (ok_chk (by rw [eO]; exact u6) ?_)
    have ir := (IRR.rf j5.1).i 36 (e.2.o a 6) (by unfold IRJ; omega) (fun _ => by rw [eO]; exact u6)
    have i38 : (CS.setI e.2 36 (e.2.o a 6)).i 38 = e.2.i 38 := ci_ne _ _ _ (by decide)
    rw [← i38]
    have j6 := j5.irr ir
    have fr : (CS.setI e.2 36 (e.2.o a 6)).r 51 m = some a := er
    generalize CS.setI e.2 36 (e.2.o a 6) = F at *
    have F32 : F.i 32 = s.i 32 := by rw [ir.f.1, he.f.1, d32, u32]
    refine ok_imp (q_endFrm (c0 := c0) (ph := ph) (s' := s') ⟨sg, nb.2.2.2.1.2⟩ ht (Or.inr (Or.inr hs)) ec hcl j6 fr (fun z => ?_) (fun _ => ds.2)) (fun R hR => ⟨hR.1.w (by omega) (Int.le_refl _), fun z => Or.inl (hR.2 z)⟩)
    · have z1 : s.i 32 = 0 := F32.symm.trans z
      have w := h.2.2 z1
      have Fi : ∀ j : Nat, ¬ IRJ j → j ≠ 20 → F.i j = q.2.i j := fun j k1 k2 => by rw [ir.2.1 j k1, he.2.1, hd.2.1 j k2, ui]
      have Fo : F.o = u.o := by rw [ir.1.2.2.2.1, eO]
      refine ⟨w.1, (tl z1).tr (((hd.tle.tr he.tle).tr ir.tle).t2 m), by rw [Fo]; exact oU z1 0 (by decide), ?_, ?_, ?_, fun k k1 k2 => ?_⟩
      · rw [Fi 22 (by unfold IRJ; omega) (by decide), q22]; exact w.2.2.2.1
      · rw [Fi 38 (by unfold IRJ; omega) (by decide), q38, w.2.2.2.2.1]; exact ds.1
      · have e : nmI F = nmI s := by rw [← q50]; unfold nmI; rw [Fi 50 (by unfold IRJ; omega) (by decide)]
        rw [e, Fo, uo 3 (by decide)]; exact w.2.2.2.2.2.1
      · have zq : q.2.i 32 = 0 := q32.trans z1
        have zd : d.2.i 32 = 0 := d32.trans (u32.trans z1)
        have tb := j4.tb zd (by omega) (by omega)
        have tF : tcI F = tcI q.2 := by unfold tcI; rw [Fi 21 (by unfold IRJ; omega) (by decide)]
        have tD : tcI d.2 = tcI q.2 := by rw [← utc]; unfold tcI; rw [hd.2.1 21 (by decide)]
        rw [ir.2.2.1 17 (by decide)]
        rw [Fo] at k1
        by_cases e9 : (k : Int) = (d.2.o a 9).toInt
        · exact he.at e9 (by omega) tb.2
        · rcases k1 with k1 | ⟨-, k1⟩
          · exact absurd (by rw [dO]; exact k1) e9
          · rw [he.2.2.2, gPut_ne e9, hd.2.2.2.1 17 (by decide) (by decide), ua]
            exact q10 zq k (by rw [← uo 10 (by decide)]; exact k1) (by omega)
  refine ok_ite (fun _ => ok_ite (fun _ => main 0 (Or.inl rfl)) (fun _ => main 1 (Or.inr rfl))) (fun _ => main 1 (Or.inr rfl))
