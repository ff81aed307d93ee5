/-! the class's reading: blocks, locks, finallys end -/
theorem ECL.w {H : HB} {x y x' y' : Int} {c : List Nat} {X : List (Nat × List Nat)} {P : List Nat} {T : List Int} {σ : CS} {a m : Nat} {s' s : CS} (h : ECL H x y c X P T σ a m s' s) (hx : x ≤ x') (hy : y ≤ y') : ECL H x' y' c X P T σ a m s' s := ⟨h.1.w hx hy, h.2⟩
theorem q_endBlk {N : Nat} {H : HB} {x y : Int} {c : List Nat} {X : List (Nat × List Nat)} {P : List Nat} {T : List Int} {σ : CS} {a m : Nat} {s' s : CS} (hσ : JJ H (x + 100) y c X P (ccI σ :: T) σ) (ht : TUR σ a m) (hs : σ.o a 0 = 301) (h : ECL H x y c X P T σ a m s' s) : ok ((f_X6_pop N s).bind fun p27 => some ((), p27.2)) (fun R => TNQ H (x - 50) y X P T σ R.2 ∧ (R.2.i 32 = 0 → cnI R.2 = (m : Int))) := by
  have nb := (hσ.2 ht.1).2
  have em : (cnI σ).toNat = m + 1 := by have := ht.2.1; omega
  have sg := nb.2.2.2.2.2.2.1
  rw [em] at sg
  refine q_popE (p := 1) (g := 0) (s' := s') h.1 ht (by unfold sgn; rw [hs]; rfl) (by rw [hs]; decide) h.2.1 (Or.inr ⟨sg, nb.2.2.2.1.2⟩) (fun z => ?_) (by omega) (by omega)
  have w := h.2.2 z
  have eo := h.o z
  have ecc : ccI s = ccI σ := by unfold ccI; rw [w.2.2.2.1]
  refine ⟨w.1, w.2.1.t2 m, by rw [eo], fun DT KT c0 lim0 r => ?_, Or.inl w.2.2.2.2.2.1, fun k _ _ k3 => ?_⟩
  · rw [ecc]
    exact r.pl (Or.inr (Or.inr (by show s.o a 0 = 301; rw [eo]; exact hs)))
  · exfalso
    unfold OWS at k3
    rw [eo, hs] at k3
    rcases k3 with k3 | k3
    · exact k3.2.1 rfl
    · exact absurd k3.1 (by decide)
/-- a row with a frame goes: its exit was aimed -/
theorem q_endFrm {N : Nat} {H : HB} {x y : Int} {c c0 : List Nat} {X : List (Nat × List Nat)} {P : List Nat} {T : List Int} {σ : CS} {a m ph : Nat} {s' s : CS} (hσ : SGS σ (m + 1) ≤ sgI σ ∧ sgI σ ≤ 20) (ht : TUR σ a m) (hs : σ.o a 0 = 212 ∨ σ.o a 0 = 216 ∨ σ.o a 0 = 213 ∨ σ.o a 0 = 215) (hc : c = ph :: c0) (hcl : ∀ (s : CS) (DT : Nat → List Nat) (KT : Nat → Prop) (c0' : List Nat) (lim lim0 : List Int), s.o a 0 = σ.o a 0 → ROW1 s DT KT a c0' c lim lim0 → c0' = c0 ∧ lim0 = lim) (h : JSH H x y c0 c c X P (ccI σ :: T) s) (ea : s.r 51 m = some a) (hx : s.i 32 = 0 → MDL 1 0 (-1) σ s' ∧ TL2 m s' s ∧ s.o a 0 = σ.o a 0 ∧ s.i 22 = σ.i 22 ∧ (s.i 38).toInt = (c.length : Int) ∧ nmI s = (s.o a 3).toInt ∧ (∀ k : Nat, ((k : Int) = (s.o a 9).toInt ∨ (σ.o a 0 = 213 ∨ σ.o a 0 = 215) ∧ (k : Int) = (s.o a 10).toInt) → (k : Int) < tcI s → ¬ (s.a 17 k).toInt = -1)) (hl : s.i 32 = 0 → c.length ≤ 21) : ok ((f_X6_pop N (CS.setI s 38 ((s.i 38) - 1))).bind fun p27 => some ((), p27.2)) (fun R => TNQ H (x - 50) y X P T σ R.2 ∧ (R.2.i 32 = 0 → cnI R.2 = (m : Int))) := by
  have e1 : (1 : Int32).toInt = 1 := by decide
  have jd := h.d38 (d' := c0) (s.i 38 - 1) (fun z => by
    have w := (hx z).2.2.2.2.1
    have l := hl z
    rw [hc] at w l
    have lc : (ph :: c0).length = c0.length + 1 := rfl
    rw [lc] at w l
    refine ⟨?_, by omega⟩
    rw [toInt_sub] <;> rw [e1] <;> omega)
  have n2 : ¬ σ.o a 0 = 302 := by rcases hs with e | e | e | e <;> rw [e] <;> decide
  refine q_popE (p := 1) (g := 0) (s' := s') jd ht (by unfold sgn; rcases hs with e | e | e | e <;> rw [e] <;> rfl) n2 (by rw [cr_setI]; exact ea) (Or.inr hσ) (fun z => ?_) (by omega) (by omega)
  have z1 := (ci_ne _ _ _ (by decide)).symm.trans z
  have w := hx z1
  have eo : s.o a 0 = σ.o a 0 := w.2.2.1
  have ecc : ccI (CS.setI s 38 (s.i 38 - 1)) = ccI σ := by unfold ccI; rw [ci_ne _ _ _ (by decide), w.2.2.2.1]
  have enm : nmI (CS.setI s 38 (s.i 38 - 1)) = nmI s := by unfold nmI; rw [ci_ne _ _ _ (by decide)]
  refine ⟨w.1, w.2.1.tr (((TLE.rf s).i38 _).t2 m), by rw [co_setI, eo], fun DT KT c0' lim0 r => ?_, Or.inl (by rw [enm, co_setI]; exact w.2.2.2.2.2.1), fun k k1 k2 k3 => ?_⟩
  · rw [ecc]
    exact hcl _ DT KT c0' _ lim0 (by show s.o a 0 = σ.o a 0; rw [eo]) r
  · exfalso
    have k3' : OWS s a k := k3
    unfold OWS at k3'
    have tc : tcI (CS.setI s 38 (s.i 38 - 1)) = tcI s := by unfold tcI; rw [ci_ne _ _ _ (by decide)]
    rcases k3' with k4 | k4
    · exact w.2.2.2.2.2.2 k (Or.inl k4.2.2.2.2.symm) (by omega) k2
    · rw [eo] at k4
      rcases hs with e | e | e | e
      · rw [e] at k4; exact absurd k4.1 (by decide)
      · rw [e] at k4; exact absurd k4.1 (by decide)
      · exact w.2.2.2.2.2.2 k (Or.inr ⟨Or.inl e, k4.2.symm⟩) (by omega) k2
      · exact w.2.2.2.2.2.2 k (Or.inr ⟨Or.inr e, k4.2.symm⟩) (by omega) k2
theorem q_endLock {N : Nat} {H : HB} {x y : Int} {c : List Nat} {X : List (Nat × List Nat)} {P : List Nat} {T : List Int} {σ : CS} {a m : Nat} {s' s : CS} (hx : x ≤ 4000) (hy : y ≤ 90) (hσ : JJ H (x + 100) y c X P (ccI σ :: T) σ) (ht : TUR σ a m) (hs : σ.o a 0 = 212) (h : ECL H x y c X P T σ a m s' s) : ok (f_X7_endLock N s a) (fun R => TNQ H (x - 20) y X P T σ R.2 ∧ (R.2.i 32 = 0 → cnI R.2 = (m : Int))) := by
  obtain ⟨nf, hm, ea, nr, m4⟩ := (show TUR σ a m from ht)
  obtain ⟨DT0, KT0, c0, lim0, r0⟩ := hσ.row ht
  have ec := (r0.cx.1 hs).1
  have nb := (hσ.2 nf).2
  have em : (cnI σ).toNat = m + 1 := by omega
  have sg := nb.2.2.2.2.2.2.1
  rw [em] at sg
  have ds := hσ.ds nf
  have hcl : ∀ (s : CS) (DT : Nat → List Nat) (KT : Nat → Prop) (c0' : List Nat) (lim lim0 : List Int), s.o a 0 = σ.o a 0 → ROW1 s DT KT a c0' c lim lim0 → c0' = c0 ∧ lim0 = lim := fun s DT KT c0' lim lim0 e r => by
    have w := r.cx.1 (by rw [e]; exact hs)
    rw [ec] at w
    exact ⟨(List.cons.inj w.1).2.symm, w.2⟩
  unfold f_X7_endLock
  refine ok_chk (h.1.1.1.2.1 m a m4 h.2.1) ?_
  have tcb : s.i 32 = 0 → tcI s ≤ 1010 := fun z => by
    have w := h.1.2.2 ((shs.i s 32 (by decide)).trans z)
    have := (w.2.sz h.1.2.1.2.2.1 h.1.2.1.2.2.2.2.2.2.1.1 (by omega) (by omega)).2
    unfold tcI at *
    rw [shs.i s 21 (by decide)] at this
    exact this
  have r9 : ∀ (u : CS), u.o = s.o → u.r 51 m = some a → cnI u = (m : Int) + 1 → s.i 32 = 0 → ∀ (DT : Nat → List Nat) (KT : Nat → Prop), (∀ n : Nat, (n : Int) = cnI u → RCH (shs u) DT KT n c (ccI σ :: T)) → TTc (tcI u) DT KT (u.o a 9) c0 ∧ (u.o a 2).toInt = (c0.length : Int) := fun u uo ur uc z DT KT qR => by
    obtain ⟨c0', L0, r⟩ := (qR (m + 1) (by omega)).top (show (shs u).r 51 m = some a from ur)
    have so : (shs u).o a 0 = 212 := by show u.o a 0 = 212; rw [uo, h.o z]; exact hs
    have e := (hcl (shs u) DT KT c0' _ L0 (by rw [so, hs]) r).1
    have t9 := r.cx.2.2.2.2.1 (Or.inl so)
    rw [e] at t9
    have t2 := r.1
    rw [e] at t2
    refine ⟨?_, t2⟩
    have etc : tcI (shs u) = tcI u := by unfold tcI; rw [shs.i u 21 (by decide)]
    rw [etc] at t9
    exact t9
  refine ok_bind (q_lv N s (s.o a 9) (s.o a 2)) (fun p hp => ?_)
  obtain ⟨o, v, ha, hov⟩ := hp
  have j1 := h.1.add (c1 := c0) ha (by omega) (by omega) (fun _ => ds.2) (fun z DT KT _ qR => by
    have w := r9 s rfl h.2.1 (h.2.2 z).2.2.2.2.2.2 z DT KT qR
    refine IOK.lv (t := s.o a 9) (g := s.o a 2) (r := [0]) ?_ w.1 w.2 ec ds.2 (by have := tcb z; omega)
    rcases hov with ⟨e1, e2, e3⟩ | e
    · refine Or.inl ⟨e1, e2, ?_⟩
      rw [e3, (h.2.2 z).2.2.2.2.1]
      exact ds.1
    · exact Or.inr e)
  have po : p.2.o = s.o := ha.1.2.2.2.1
  have pr : p.2.r 51 m = some a := by rw [ha.1.2.2.2.2.2.2.1]; exact h.2.1
  have p32 := ha.f32.1
  refine ok_chk (j1.1.1.2.1 m a m4 pr) ?_
  refine ok_bind (q_aim N p.2 (p.2.o a 9)) (fun q hq => ?_)
  have j2 : JSH H (x + 1) y c0 c c X P (ccI σ :: T) q.2 := j1.aim hq (by omega) (by omega) (fun z DT KT _ qR => by
    have z1 := p32.symm.trans z
    have w := (r9 p.2 po pr (by rw [← (h.2.2 z1).2.2.2.2.2.2]; unfold cnI; rw [ha.2.1 53 (by decide)]) z1 DT KT qR).1
    exact ⟨w.1, w.2.1, w.2.2.1⟩) (fun _ k hk => Or.inl hk)
  refine ok_imp (q_endFrm (c0 := c0) (ph := 0) (s' := s') ⟨sg, nb.2.2.2.1.2⟩ ht (Or.inl hs) ec hcl j2 (by rw [hq.1.2.2.2.2.2.2.1]; exact pr) (fun z => ?_) (fun _ => ds.2)) (fun R hR => ⟨hR.1.w (by omega) (Int.le_refl _), hR.2⟩)
  have z1 := hq.f.1.symm.trans z
  have z2 := p32.symm.trans z1
  have w := h.2.2 z2
  have i38 : q.2.i 38 = s.i 38 := by rw [hq.2.1, ha.2.1 38 (by decide)]
  have s0 : 0 ≤ szI p.2 := by
    have w := (j1.2.2 ((shs.i p.2 32 (by decide)).trans z1)).1.tc0.2
    exact w
  have etc : tcI q.2 = tcI s := by unfold tcI; rw [hq.2.1, ha.2.1 21 (by decide)]
  refine ⟨w.1, ((w.2.1.tr ha.tle).tr hq.tle).t2 m, by rw [hq.1.2.2.2.1, po, h.o z2], ?_, ?_, ?_, fun k k1 k2 => ?_⟩
  · rw [hq.2.1, ha.2.1 22 (by decide)]; exact w.2.2.2.1
  · rw [i38, w.2.2.2.2.1]; exact ds.1
  · have e : nmI q.2 = nmI s := by unfold nmI; rw [hq.2.1, ha.2.1 50 (by decide)]
    rw [e, hq.1.2.2.2.1, po]; exact w.2.2.2.2.2.1
  · have k1' : (k : Int) = (q.2.o a 9).toInt := by
      rcases k1 with k1 | k1
      · exact k1
      · rw [hs] at k1; exact absurd k1.1 (by decide)
    rw [hq.1.2.2.2.1] at k1'
    exact hq.at k1' (by have := tcb z2; omega) s0
theorem q_endFin {N : Nat} {H : HB} (hN : 10000000000 ≤ N) {x y : Int} {c : List Nat} {X : List (Nat × List Nat)} {P : List Nat} {T : List Int} {σ : CS} {a m : Nat} {s' s : CS} (hx : x ≤ 4000) (hy : y ≤ 90) (hσ : JJ H (x + 100) y c X P (ccI σ :: T) σ) (ht : TUR σ a m) (hs : σ.o a 0 = 216) (h : ECL H x y c X P T σ a m s' s) : ok (f_X7_endFinally N s a) (fun R => TNQ H (x - 20) y X P T σ R.2 ∧ (R.2.i 32 = 0 → cnI R.2 = (m : Int))) := by
  obtain ⟨nf, hm, ea, nr, m4⟩ := (show TUR σ a m from ht)
  obtain ⟨DT0, KT0, c0, lim0, r0⟩ := hσ.row ht
  have ec := (r0.cx.2.2.2.1 hs).1
  have nb := (hσ.2 nf).2
  have em : (cnI σ).toNat = m + 1 := by omega
  have sg := nb.2.2.2.2.2.2.1
  rw [em] at sg
  have ds := hσ.ds nf
  have hcl : ∀ (s : CS) (DT : Nat → List Nat) (KT : Nat → Prop) (c0' : List Nat) (lim lim0 : List Int), s.o a 0 = σ.o a 0 → ROW1 s DT KT a c0' c lim lim0 → c0' = c0 ∧ lim0 = lim := fun s DT KT c0' lim lim0 e r => by
    have w := r.cx.2.2.2.1 (by rw [e]; exact hs)
    rw [ec] at w
    exact ⟨(List.cons.inj w.1).2.symm, w.2⟩
  have tcb : s.i 32 = 0 → tcI s ≤ 1010 := fun z => by
    have w := h.1.2.2 ((shs.i s 32 (by decide)).trans z)
    have := (w.2.sz h.1.2.1.2.2.1 h.1.2.1.2.2.2.2.2.2.1.1 (by omega) (by omega)).2
    unfold tcI at *
    rw [shs.i s 21 (by decide)] at this
    exact this
  unfold f_X7_endFinally
  refine ok_bind (q_add N s 59 0) (fun p ha => ?_)
  have j1 := h.1.add (c1 := c0) ha (by omega) (by omega) (fun _ => ds.2) (fun z DT KT _ qR => by
    exact ⟨fun q => absurd q (by decide), fun q => absurd q (by decide), fun _ q => absurd q (by decide), fun _ q => absurd q (by decide), fun q => absurd q (by decide), fun q => absurd q (by decide), fun q => absurd q (by decide), fun q => absurd q (by decide), fun q => absurd q (by decide), fun _ => ⟨c0, ec⟩, fun q => absurd q (by decide), fun q => absurd q (by decide), by decide⟩)
  have po : p.2.o = s.o := ha.1.2.2.2.1
  have pr : p.2.r 51 m = some a := by rw [ha.1.2.2.2.2.2.2.1]; exact h.2.1
  have p32 := ha.f32.1
  refine ok_chk (j1.1.1.2.1 m a m4 pr) ?_
  refine ok_bind (q_aim N p.2 (p.2.o a 9)) (fun q hq => ?_)
  have j2 : JSH H (x + 1) y c0 c c X P (ccI σ :: T) q.2 := j1.aim hq (by omega) (by omega) (fun z DT KT _ qR => by
    have z1 := p32.symm.trans z
    have pc : cnI p.2 = (m : Int) + 1 := by rw [← (h.2.2 z1).2.2.2.2.2.2]; unfold cnI; rw [ha.2.1 53 (by decide)]
    obtain ⟨c0', L0, r⟩ := (qR (m + 1) (by omega)).top (show (shs p.2).r 51 m = some a from pr)
    have so : (shs p.2).o a 0 = 216 := by show p.2.o a 0 = 216; rw [po, h.o z1]; exact hs
    have e := (hcl (shs p.2) DT KT c0' _ L0 (by rw [so, hs]) r).1
    have t9 := r.cx.2.2.2.2.1 (Or.inr (Or.inr (Or.inr (Or.inr so))))
    rw [e] at t9
    have etc : tcI (shs p.2) = tcI p.2 := by unfold tcI; rw [shs.i p.2 21 (by decide)]
    rw [etc] at t9
    exact ⟨t9.1, t9.2.1, t9.2.2.1⟩) (fun _ k hk => Or.inl hk)
  have qr : q.2.r 51 m = some a := by rw [hq.1.2.2.2.2.2.2.1]; exact pr
  -- what is left: alive, the depth, the row
  have fin : ∀ u : CS, IRR q.2 u → ok (f_X7_endFinally_66 N u) (fun R => TNQ H (x - 20) y X P T σ R.2 ∧ (R.2.i 32 = 0 → cnI R.2 = (m : Int))) := fun u hu => by
    unfold f_X7_endFinally_66
    refine ok_imp (q_endFrm (c0 := c0) (ph := 3) (s' := s') ⟨sg, nb.2.2.2.1.2⟩ ht (Or.inr (Or.inl hs)) ec hcl (j2.irr hu) (by rw [hu.1.2.2.2.2.2.2.1]; exact qr) (fun z => ?_) (fun _ => ds.2)) (fun R hR => ⟨hR.1.w (by omega) (Int.le_refl _), hR.2⟩)
    have z0 := hu.f.1.symm.trans z
    have z1 := hq.f.1.symm.trans z0
    have z2 := p32.symm.trans z1
    have w := h.2.2 z2
    have ui : ∀ j : Nat, ¬ IRJ j → j ≠ 20 → u.i j = s.i j := fun j j1 j2 => by rw [hu.2.1 j j1, hq.2.1, ha.2.1 j j2]
    have uo : u.o = s.o := by rw [hu.1.2.2.2.1, hq.1.2.2.2.1, po]
    have s0 : 0 ≤ szI p.2 := by
      have w := (j1.2.2 ((shs.i p.2 32 (by decide)).trans z1)).1.tc0.2
      exact w
    have etc : tcI u = tcI s := by unfold tcI; rw [ui 21 (by unfold IRJ; omega) (by decide)]
    refine ⟨w.1, (((w.2.1.tr ha.tle).tr hq.tle).tr hu.tle).t2 m, by rw [uo, h.o z2], ?_, ?_, ?_, fun k k1 k2 => ?_⟩
    · rw [ui 22 (by unfold IRJ; omega) (by decide)]; exact w.2.2.2.1
    · rw [ui 38 (by unfold IRJ; omega) (by decide), w.2.2.2.2.1]; exact ds.1
    · have e : nmI u = nmI s := by unfold nmI; rw [ui 50 (by unfold IRJ; omega) (by decide)]
      rw [e, uo]; exact w.2.2.2.2.2.1
    · have k1' : (k : Int) = (u.o a 9).toInt := by
        rcases k1 with k1 | k1
        · exact k1
        · rw [hs] at k1; exact absurd k1.1 (by decide)
      rw [hu.2.2.1 17 (by decide)]
      rw [uo, ← po] at k1'
      exact hq.at k1' (by have := tcb z2; omega) s0
  have e43 : ∀ u : CS, IRR q.2 u → ok (f_X7_endFinally_43 N u a) (fun R => TNQ H (x - 20) y X P T σ R.2 ∧ (R.2.i 32 = 0 → cnI R.2 = (m : Int))) := fun u hu => by
    unfold f_X7_endFinally_43
    have cu := (j2.irr hu).1
    have ur : u.r 51 m = some a := by rw [hu.1.2.2.2.2.2.2.1]; exact qr
    have s0 := fin _ (hu.i 36 0 (by unfold IRJ; omega) (fun _ => Or.inl rfl))
    have s1 := fin _ (hu.i 36 1 (by unfold IRJ; omega) (fun _ => Or.inr rfl))
    exact ok_ite (fun _ => s0) (fun _ => ok_chk (cu.1.2.1 m a m4 ur) (ok_ite (fun _ => s0) (fun _ => s1)))
  refine ok_ite (fun _ => ok_chk (j2.1.1.2.1 m a m4 qr) (ok_bind (q_lose hN j2.1 _ _) (fun w hw => e43 w.2 hw))) (fun _ => e43 q.2 (IRR.rf j2.1))
