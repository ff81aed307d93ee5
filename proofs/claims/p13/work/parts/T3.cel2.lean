section
/-! the class's reading: blocks, locks, finallys end -/
theorem ECL.w {H : HB} {x y x' y' : Int} {c : List Nat} {X : List (Nat × List Nat)} {P : List Nat} {T : List Int} {σ : CS} {a m : Nat} {s' s : CS} (h : ECL H x y c X P T σ a m s' s) (hx : x ≤ x') (hy : y ≤ y') : ECL H x' y' c X P T σ a m s' s := ⟨h.1.w hx hy, h.2⟩
theorem q_endBlk {N : Nat} {H : HB} {x y : Int} {c : List Nat} {X : List (Nat × List Nat)} {P : List Nat} {T : List Int} {σ : CS} {a m : Nat} {s' s : CS} (hσ : JJ H (x + 100) y c X P (ccI σ :: T) σ) (ht : TUR σ a m) (hs : σ.o a 0 = 301) (h : ECL H x y c X P T σ a m s' s) : ok ((f_X6_pop N s).bind fun p27 => some ((), p27.2)) (fun R => TNQ H (x - 50) y X P T σ R.2 ∧ (R.2.i 32 = 0 → cnI R.2 = (m : Int))) := by
  have nb := (hσ.2 ht.1).2
  have em : (cnI σ).toNat = m + 1 := by have := ht.2.1; omega
  have sg := nb.2.2.2.2.2.2.1
  rw [em] at sg
  refine q_popE (p := 1) (g := 0) (s' := s') h.1 ht (by unfold sgn; rw [hs]; rfl) (by rw [hs]; decide) h.2.1 (Or.inr ⟨sg, nb.2.2.2.1.2⟩) (fun z => ?_) (by omega) (by omega)
  have w := h.2.2 z
  have eo := h.o z
  have ecc : ccI s = ccI σ := by unfold ccI; rw [w.2.2.2.1]
  refine ⟨w.1, w.2.1.t2 m, by rw [eo], fun DT KT c0 lim0 r => ?_, Or.inl w.2.2.2.2.2.1, fun k _ _ k3 => ?_⟩
  · rw [ecc]
    exact r.pl (Or.inr (Or.inr (by show s.o a 0 = 301; rw [eo]; exact hs)))
  · exfalso
    unfold OWS at k3
    rw [eo, hs] at k3
    rcases k3 with k3 | k3
    · exact k3.2.1 rfl
    · exact absurd k3.1 (by decide)
/-- a row with a frame goes: its exit was aimed -/
theorem q_endFrm {N : Nat} {H : HB} {x y : Int} {c c0 : List Nat} {X : List (Nat × List Nat)} {P : List Nat} {T : List Int} {σ : CS} {a m ph : Nat} {s' s : CS} (hσ : SGS σ (m + 1) ≤ sgI σ ∧ sgI σ ≤ 20) (ht : TUR σ a m) (hs : σ.o a 0 = 212 ∨ σ.o a 0 = 216 ∨ σ.o a 0 = 213 ∨ σ.o a 0 = 215) (hc : c = ph :: c0) (hcl : ∀ (s : CS) (DT : Nat → List Nat) (KT : Nat → Prop) (c0' : List Nat) (lim lim0 : List Int), s.o a 0 = σ.o a 0 → ROW1 s DT KT a c0' c lim lim0 → c0' = c0 ∧ lim0 = lim) (h : JSH H x y c0 c c X P (ccI σ :: T) s) (ea : s.r 51 m = some a) (hx : s.i 32 = 0 → MDL 1 0 (-1) σ s' ∧ TL2 m s' s ∧ s.o a 0 = σ.o a 0 ∧ s.i 22 = σ.i 22 ∧ (s.i 38).toInt = (c.length : Int) ∧ nmI s = (s.o a 3).toInt ∧ (∀ k : Nat, ((k : Int) = (s.o a 9).toInt ∨ (σ.o a 0 = 213 ∨ σ.o a 0 = 215) ∧ (k : Int) = (s.o a 10).toInt) → (k : Int) < tcI s → ¬ (s.a 17 k).toInt = -1)) (hl : s.i 32 = 0 → c.length ≤ 21) : ok ((f_X6_pop N (CS.setI s 38 ((s.i 38) - 1))).bind fun p27 => some ((), p27.2)) (fun R => TNQ H (x - 50) y X P T σ R.2 ∧ (R.2.i 32 = 0 → cnI R.2 = (m : Int))) := by
  have e1 : (1 : Int32).toInt = 1 := by decide
  have jd := h.d38 (d' := c0) (s.i 38 - 1) (fun z => by
    have w := (hx z).2.2.2.2.1
    have l := hl z
    rw [hc] at w l
    have lc : (ph :: c0).length = c0.length + 1 := rfl
    rw [lc] at w l
    refine ⟨?_, by omega⟩
    rw [toInt_sub] <;> rw [e1] <;> omega)
  have n2 : ¬ σ.o a 0 = 302 := by rcases hs with e | e | e | e <;> rw [e] <;> decide
  refine q_popE (p := 1) (g := 0) (s' := s') jd ht (by unfold sgn; rcases hs with e | e | e | e <;> rw [e] <;> rfl) n2 (by rw [cr_setI]; exact ea) (Or.inr hσ) (fun z => ?_) (by omega) (by omega)
  have z1 := (ci_ne _ _ _ (by decide)).symm.trans z
  have w := hx z1
  have eo : s.o a 0 = σ.o a 0 := w.2.2.1
  have ecc : ccI (CS.setI s 38 (s.i 38 - 1)) = ccI σ := by unfold ccI; rw [ci_ne _ _ _ (by decide), w.2.2.2.1]
  have enm : nmI (CS.setI s 38 (s.i 38 - 1)) = nmI s := by unfold nmI; rw [ci_ne _ _ _ (by decide)]
  refine ⟨w.1, w.2.1.tr (((TLE.rf s).i38 _).t2 m), by rw [co_setI, eo], fun DT KT c0' lim0 r => ?_, Or.inl (by rw [enm, co_setI]; exact w.2.2.2.2.2.1), fun k k1 k2 k3 => ?_⟩
  · rw [ecc]
    exact hcl _ DT KT c0' _ lim0 (by show s.o a 0 = σ.o a 0; rw [eo]) r
  · exfalso
    have k3' : OWS s a k := k3
    unfold OWS at k3'
    have tc : tcI (CS.setI s 38 (s.i 38 - 1)) = tcI s := by unfold tcI; rw [ci_ne _ _ _ (by decide)]
    rcases k3' with k4 | k4
    · exact w.2.2.2.2.2.2 k (Or.inl k4.2.2.2.2.symm) (by omega) k2
    · rw [eo] at k4
      rcases hs with e | e | e | e
      · rw [e] at k4; exact absurd k4.1 (by decide)
      · rw [e] at k4; exact absurd k4.1 (by decide)
      · exact w.2.2.2.2.2.2 k (Or.inr ⟨Or.inl e, k4.2.symm⟩) (by omega) k2
      · exact w.2.2.2.2.2.2 k (Or.inr ⟨Or.inr e, k4.2.symm⟩) (by omega) k2
theorem q_endLock {N : Nat} {H : HB} {x y : Int} {c : List Nat} {X : List (Nat × List Nat)} {P : List Nat} {T : List Int} {σ : CS} {a m : Nat} {s' s : CS} (hx : x ≤ 4000) (hy : y ≤ 90) (hσ : JJ H (x + 100) y c X P (ccI σ :: T) σ) (ht : TUR σ a m) (hs : σ.o a 0 = 212) (h : ECL H x y c X P T σ a m s' s) : ok (f_X7_endLock N s a) (fun R => TNQ H (x - 20) y X P T σ R.2 ∧ (R.2.i 32 = 0 → cnI R.2 = (m : Int))) := by
  obtain ⟨nf, hm, ea, nr, m4⟩ := (show TUR σ a m from ht)
  obtain ⟨DT0, KT0, c0, lim0, r0⟩ := hσ.row ht
  have ec := (r0.cx.1 hs).1
  have nb := (hσ.2 nf).2
  have em : (cnI σ).toNat = m + 1 := by omega
  have sg := nb.2.2.2.2.2.2.1
  rw [em] at sg
  have ds := hσ.ds nf
  have hcl : ∀ (s : CS) (DT : Nat → List Nat) (KT : Nat → Prop) (c0' : List Nat) (lim lim0 : List Int), s.o a 0 = σ.o a 0 → ROW1 s DT KT a c0' c lim lim0 → c0' = c0 ∧ lim0 = lim := fun s DT KT c0' lim lim0 e r => by
    have w := r.cx.1 (by rw [e]; exact hs)
    rw [ec] at w
    exact ⟨(List.cons.inj w.1).2.symm, w.2⟩
  unfold f_X7_endLock
  refine ok_chk (h.1.1.1.2.1 m a m4 h.2.1) ?_
  have tcb : s.i 32 = 0 → tcI s ≤ 1010 := fun z => by
    have w := h.1.2.2 ((shs.i s 32 (by decide)).trans z)
    have := (w.2.sz h.1.2.1.2.2.1 h.1.2.1.2.2.2.2.2.2.1.1 (by omega) (by omega)).2
    unfold tcI at *
    rw [shs.i s 21 (by decide)] at this
    exact this
  have r9 : ∀ (u : CS), u.o = s.o → u.r 51 m = some a → cnI u = (m : Int) + 1 → s.i 32 = 0 → ∀ (DT : Nat → List Nat) (KT : Nat → Prop), (∀ n : Nat, (n : Int) = cnI u → RCH (shs u) DT KT n c (ccI σ :: T)) → TTc (tcI u) DT KT (u.o a 9) c0 ∧ (u.o a 2).toInt = (c0.length : Int) := fun u uo ur uc z DT KT qR => by
    obtain ⟨c0', L0, r⟩ := (qR (m + 1) (by omega)).top (show (shs u).r 51 m = some a from ur)
    have so : (shs u).o a 0 = 212 := by show u.o a 0 = 212; rw [uo, h.o z]; exact hs
    have e := (hcl (shs u) DT KT c0' _ L0 (by rw [so, hs]) r).1
    have t9 := r.cx.2.2.2.2.1 (Or.inl so)
    rw [e] at t9
    have t2 := r.1
    rw [e] at t2
    refine ⟨?_, t2⟩
    have etc : tcI (shs u) = tcI u := by unfold tcI; rw [shs.i u 21 (by decide)]
    rw [etc] at t9
    exact t9
  refine ok_bind (q_lv N s (s.o a 9) (s.o a 2)) (fun p hp => ?_)
  obtain ⟨o, v, ha, hov⟩ := hp
  have j1 := h.1.add (c1 := c0) ha (by omega) (by omega) (fun _ => ds.2) (fun z DT KT _ qR => by
    have w := r9 s rfl h.2.1 (h.2.2 z).2.2.2.2.2.2 z DT KT qR
    refine IOK.lv (t := s.o a 9) (g := s.o a 2) (r := [0]) ?_ w.1 w.2 ec ds.2 (by have := tcb z; omega)
    rcases hov with ⟨e1, e2, e3⟩ | e
    · refine Or.inl ⟨e1, e2, ?_⟩
      rw [e3, (h.2.2 z).2.2.2.2.1]
      exact ds.1
    · exact Or.inr e)
  have po : p.2.o = s.o := ha.1.2.2.2.1
  have pr : p.2.r 51 m = some a := by rw [ha.1.2.2.2.2.2.2.1]; exact h.2.1
  have p32 := ha.f32.1
  refine ok_chk (j1.1.1.2.1 m a m4 pr) ?_
  refine ok_bind (q_aim N p.2 (p.2.o a 9)) (fun q hq => ?_)
  have j2 : JSH H (x + 1) y c0 c c X P (ccI σ :: T) q.2 := j1.aim hq (by omega) (by omega) (fun z DT KT _ qR => by
    have z1 := p32.symm.trans z
    have w := (r9 p.2 po pr (by rw [← (h.2.2 z1).2.2.2.2.2.2]; unfold cnI; rw [ha.2.1 53 (by decide)]) z1 DT KT qR).1
    exact ⟨w.1, w.2.1, w.2.2.1⟩) (fun _ k hk => Or.inl hk)
  refine ok_imp (q_endFrm (c0 := c0) (ph := 0) (s' := s') ⟨sg, nb.2.2.2.1.2⟩ ht (Or.inl hs) ec hcl j2 (by rw [hq.1.2.2.2.2.2.2.1]; exact pr) (fun z => ?_) (fun _ => ds.2)) (fun R hR => ⟨hR.1.w (by omega) (Int.le_refl _), hR.2⟩)
  have z1 := hq.f.1.symm.trans z
  have z2 := p32.symm.trans z1
  have w := h.2.2 z2
  have i38 : q.2.i 38 = s.i 38 := by rw [hq.2.1, ha.2.1 38 (by decide)]
  have s0 : 0 ≤ szI p.2 := by
    have w := (j1.2.2 ((shs.i p.2 32 (by decide)).trans z1)).1.tc0.2
    exact w
  have etc : tcI q.2 = tcI s := by unfold tcI; rw [hq.2.1, ha.2.1 21 (by decide)]
  refine ⟨w.1, ((w.2.1.tr ha.tle).tr hq.tle).t2 m, by rw [hq.1.2.2.2.1, po, h.o z2], ?_, ?_, ?_, fun k k1 k2 => ?_⟩
  · rw [hq.2.1, ha.2.1 22 (by decide)]; exact w.2.2.2.1
  · rw [i38, w.2.2.2.2.1]; exact ds.1
  · have e : nmI q.2 = nmI s := by unfold nmI; rw [hq.2.1, ha.2.1 50 (by decide)]
    rw [e, hq.1.2.2.2.1, po]; exact w.2.2.2.2.2.1
  · have k1' : (k : Int) = (q.2.o a 9).toInt := by
      rcases k1 with k1 | k1
      · exact k1
      · rw [hs] at k1; exact absurd k1.1 (by decide)
    rw [hq.1.2.2.2.1] at k1'
    exact hq.at k1' (by have := tcb z2; omega) s0
theorem q_endFin {N : Nat} {H : HB} (hN : 10000000000 ≤ N) {x y : Int} {c : List Nat} {X : List (Nat × List Nat)} {P : List Nat} {T : List Int} {σ : CS} {a m : Nat} {s' s : CS} (hx : x ≤ 4000) (hy : y ≤ 90) (hσ : JJ H (x + 100) y c X P (ccI σ :: T) σ) (ht : TUR σ a m) (hs : σ.o a 0 = 216) (h : ECL H x y c X P T σ a m s' s) : ok (f_X7_endFinally N s a) (fun R => TNQ H (x - 20) y X P T σ R.2 ∧ (R.2.i 32 = 0 → cnI R.2 = (m : Int))) := by
  obtain ⟨nf, hm, ea, nr, m4⟩ := (show TUR σ a m from ht)
  obtain ⟨DT0, KT0, c0, lim0, r0⟩ := hσ.row ht
  have ec := (r0.cx.2.2.2.1 hs).1
  have nb := (hσ.2 nf).2
  have em : (cnI σ).toNat = m + 1 := by omega
  have sg := nb.2.2.2.2.2.2.1
  rw [em] at sg
  have ds := hσ.ds nf
  have hcl : ∀ (s : CS) (DT : Nat → List Nat) (KT : Nat → Prop) (c0' : List Nat) (lim lim0 : List Int), s.o a 0 = σ.o a 0 → ROW1 s DT KT a c0' c lim lim0 → c0' = c0 ∧ lim0 = lim := fun s DT KT c0' lim lim0 e r => by
    have w := r.cx.2.2.2.1 (by rw [e]; exact hs)
    rw [ec] at w
    exact ⟨(List.cons.inj w.1).2.symm, w.2⟩
  have tcb : s.i 32 = 0 → tcI s ≤ 1010 := fun z => by
    have w := h.1.2.2 ((shs.i s 32 (by decide)).trans z)
    have := (w.2.sz h.1.2.1.2.2.1 h.1.2.1.2.2.2.2.2.2.1.1 (by omega) (by omega)).2
    unfold tcI at *
    rw [shs.i s 21 (by decide)] at this
    exact this
  unfold f_X7_endFinally
  refine ok_bind (q_add N s 59 0) (fun p ha => ?_)
  have j1 := h.1.add (c1 := c0) ha (by omega) (by omega) (fun _ => ds.2) (fun z DT KT _ qR => by
    exact ⟨fun q => absurd q (by decide), fun q => absurd q (by decide), fun _ q => absurd q (by decide), fun _ q => absurd q (by decide), fun q => absurd q (by decide), fun q => absurd q (by decide), fun q => absurd q (by decide), fun q => absurd q (by decide), fun q => absurd q (by decide), fun _ => ⟨c0, ec⟩, fun q => absurd q (by decide), fun q => absurd q (by decide), by decide⟩)
  have po : p.2.o = s.o := ha.1.2.2.2.1
  have pr : p.2.r 51 m = some a := by rw [ha.1.2.2.2.2.2.2.1]; exact h.2.1
  have p32 := ha.f32.1
  refine ok_chk (j1.1.1.2.1 m a m4 pr) ?_
  refine ok_bind (q_aim N p.2 (p.2.o a 9)) (fun q hq => ?_)
  have j2 : JSH H (x + 1) y c0 c c X P (ccI σ :: T) q.2 := j1.aim hq (by omega) (by omega) (fun z DT KT _ qR => by
    have z1 := p32.symm.trans z
    have pc : cnI p.2 = (m : Int) + 1 := by rw [← (h.2.2 z1).2.2.2.2.2.2]; unfold cnI; rw [ha.2.1 53 (by decide)]
    obtain ⟨c0', L0, r⟩ := (qR (m + 1) (by omega)).top (show (shs p.2).r 51 m = some a from pr)
    have so : (shs p.2).o a 0 = 216 := by show p.2.o a 0 = 216; rw [po, h.o z1]; exact hs
    have e := (hcl (shs p.2) DT KT c0' _ L0 (by rw [so, hs]) r).1
    have t9 := r.cx.2.2.2.2.1 (Or.inr (Or.inr (Or.inr (Or.inr so))))
    rw [e] at t9
    have etc : tcI (shs p.2) = tcI p.2 := by unfold tcI; rw [shs.i p.2 21 (by decide)]
    rw [etc] at t9
    exact ⟨t9.1, t9.2.1, t9.2.2.1⟩) (fun _ k hk => Or.inl hk)
  have qr : q.2.r 51 m = some a := by rw [hq.1.2.2.2.2.2.2.1]; exact pr
  -- what is left: alive, the depth, the row
  have fin : ∀ u : CS, IRR q.2 u → ok (f_X7_endFinally_66 N u) (fun R => TNQ H (x - 20) y X P T σ R.2 ∧ (R.2.i 32 = 0 → cnI R.2 = (m : Int))) := fun u hu => by
    unfold f_X7_endFinally_66
    refine ok_imp (q_endFrm (c0 := c0) (ph := 3) (s' := s') ⟨sg, nb.2.2.2.1.2⟩ ht (Or.inr (Or.inl hs)) ec hcl (j2.irr hu) (by rw [hu.1.2.2.2.2.2.2.1]; exact qr) (fun z => ?_) (fun _ => ds.2)) (fun R hR => ⟨hR.1.w (by omega) (Int.le_refl _), hR.2⟩)
    have z0 := hu.f.1.symm.trans z
    have z1 := hq.f.1.symm.trans z0
    have z2 := p32.symm.trans z1
    have w := h.2.2 z2
    have ui : ∀ j : Nat, ¬ IRJ j → j ≠ 20 → u.i j = s.i j := fun j j1 j2 => by rw [hu.2.1 j j1, hq.2.1, ha.2.1 j j2]
    have uo : u.o = s.o := by rw [hu.1.2.2.2.1, hq.1.2.2.2.1, po]
    have s0 : 0 ≤ szI p.2 := by
      have w := (j1.2.2 ((shs.i p.2 32 (by decide)).trans z1)).1.tc0.2
      exact w
    have etc : tcI u = tcI s := by unfold tcI; rw [ui 21 (by unfold IRJ; omega) (by decide)]
    refine ⟨w.1, (((w.2.1.tr ha.tle).tr hq.tle).tr hu.tle).t2 m, by rw [uo, h.o z2], ?_, ?_, ?_, fun k k1 k2 => ?_⟩
    · rw [ui 22 (by unfold IRJ; omega) (by decide)]; exact w.2.2.2.1
    · rw [ui 38 (by unfold IRJ; omega) (by decide), w.2.2.2.2.1]; exact ds.1
    · have e : nmI u = nmI s := by unfold nmI; rw [ui 50 (by unfold IRJ; omega) (by decide)]
      rw [e, uo]; exact w.2.2.2.2.2.1
    · have k1' : (k : Int) = (u.o a 9).toInt := by
        rcases k1 with k1 | k1
        · exact k1
        · rw [hs] at k1; exact absurd k1.1 (by decide)
      rw [hu.2.2.1 17 (by decide)]
      rw [uo, ← po] at k1'
      exact hq.at k1' (by have := tcb z2; omega) s0
  have e43 : ∀ u : CS, IRR q.2 u → ok (f_X7_endFinally_43 N u a) (fun R => TNQ H (x - 20) y X P T σ R.2 ∧ (R.2.i 32 = 0 → cnI R.2 = (m : Int))) := fun u hu => by
    unfold f_X7_endFinally_43
    have cu := (j2.irr hu).1
    have ur : u.r 51 m = some a := by rw [hu.1.2.2.2.2.2.2.1]; exact qr
    have s0 := fin _ (hu.i 36 0 (by unfold IRJ; omega) (fun _ => Or.inl rfl))
    have s1 := fin _ (hu.i 36 1 (by unfold IRJ; omega) (fun _ => Or.inr rfl))
    exact ok_ite (fun _ => s0) (fun _ => ok_chk (cu.1.2.1 m a m4 ur) (ok_ite (fun _ => s0) (fun _ => s1)))
  refine ok_ite (fun _ => ok_chk (j2.1.1.2.1 m a m4 qr) (ok_bind (q_lose hN j2.1 _ _) (fun w hw => e43 w.2 hw))) (fun _ => e43 q.2 (IRR.rf j2.1))
end
section
/-! the class's reading: a try's block or a catch's ends -/
theorem NMT.two {p : Nat} {c0 : List Nat} {x : Int32} (h : NMT x (p :: c0)) : NMT x (2 :: c0) := by
  rcases h with h | ⟨i, h1, h2, r, q, h3, h4⟩
  · exact Or.inl h
  · right
    cases r with
    | nil =>
      have w := List.cons.inj h3
      exact ⟨i, h1, h2, [], q, by rw [w.2]; rfl, h4⟩
    | cons b r' =>
      have w := List.cons.inj h3
      exact ⟨i, h1, h2, 2 :: r', q, by rw [w.2]; rfl, h4⟩
theorem JSH.fld {H : HB} {x y : Int} {cD c d : List Nat} {X : List (Nat × List Nat)} {P : List Nat} {lim : List Int} {s : CS} {a m : Nat} (h : JSH H x y cD c d X P lim s) (ea : s.r 51 m = some a) (m4 : m < 400) (hm : s.i 32 = 0 → cnI s = (m : Int) + 1) (k : Nat) (w : Int32) (hk : k = 1 ∨ k = 4 ∨ (5 ≤ k ∧ k ≤ 8) ∨ k = 12 ∨ k = 14 ∨ k = 15 ∨ k = 16) (hb : (5 ≤ k ∧ k ≤ 8) → bo w) : JSH H x y cD c d X P lim (CS.setO s a k w) := ⟨h.1.o a k w hb (by omega), h.2.fld (a := a) (m := m) ea m4 (fun q => by
  have := hm ((shs.i s 32 (by decide)).symm.trans q)
  rw [← this]; unfold cnI; rw [shs.i s 53 (by decide)]) k w hk hb⟩
theorem JSH.tb {H : HB} {x y : Int} {cD c d : List Nat} {X : List (Nat × List Nat)} {P : List Nat} {lim : List Int} {s : CS} (h : JSH H x y cD c d X P lim s) (z : s.i 32 = 0) (hx : x ≤ 10000) (hy : y ≤ 100) : tcI s ≤ 1010 ∧ 0 ≤ szI s := by
  have w := h.2.2 ((shs.i s 32 (by decide)).trans z)
  have t := (w.2.sz h.2.1.2.2.1 h.2.1.2.2.2.2.2.2.1.1 hx hy).2
  have u := w.1.tc0.2
  unfold tcI szI at *
  rw [shs.i s 21 (by decide)] at t
  rw [shs.i s 20 (by decide)] at u
  exact ⟨t, u⟩
/-- the row becomes one between two blocks of a try -/
theorem JSH.grd {H : HB} {x y : Int} {c c0 d : List Nat} {ph : Nat} {X : List (Nat × List Nat)} {P : List Nat} {lim : List Int} {s : CS} {a m : Nat} (h : JSH H x y (2 :: c0) c d X P lim s) (hc : c = ph :: c0) (ea : s.r 51 m = some a) (m4 : m < 400) (hm : s.i 32 = 0 → cnI s = (m : Int) + 1) (hs : s.i 32 = 0 → s.o a 0 = 213 ∨ s.o a 0 = 215) (hd : s.i 32 = 0 → (s.i 38).toInt = (c.length : Int) ∧ c.length ≤ 21) (h10 : s.i 32 = 0 → ∀ k : Nat, (k : Int) = (s.o a 10).toInt → (k : Int) < tcI s → ¬ (s.a 17 k).toInt = -1) : JSH H x y (2 :: c0) (2 :: c0) (2 :: c0) X P lim (CS.setO s a 0 305) := by
  have cb := h.1.o a 0 305 (by omega) (by omega)
  refine ⟨cb, ?_⟩
  have ev : shs (CS.setO s a 0 305) = CS.setO (shs s) a 0 305 := rfl
  rw [ev]
  have cS : cnI (shs s) = cnI s := by unfold cnI; rw [shs.i s 53 (by decide)]
  have S0 : ∀ z : (shs s).i 32 = 0, s.i 32 = 0 := fun z => (shs.i s 32 (by decide)).symm.trans z
  have ou := (OUV.rf (shs s) a).o 0 305
  have ea' : (shs s).r 51 m = some a := ea
  have cbS := h.2.1.o a 0 305 (by omega) (by omega)
  have rq : RSQ (shs s) (CS.setO (shs s) a 0 305) m := fun i hi => ⟨by rw [cr_setO], fun b eb => ou.2.1 b (fun z => by
    rw [z] at eb
    have := h.2.1.1.2.2.1 i m a (by omega) m4 eb ea'
    omega)⟩
  have o0 : (CS.setO (shs s) a 0 305).o a 0 = 305 := by rw [show (CS.setO (shs s) a 0 305).o a = upd ((shs s).o a) 0 305 from ou.2.2.1]; rfl
  have oj : ∀ j : Nat, j ≠ 0 → (CS.setO (shs s) a 0 305).o a j = (shs s).o a j := fun j hj => by
    rw [show (CS.setO (shs s) a 0 305).o a = upd ((shs s).o a) 0 305 from ou.2.2.1]
    exact if_neg hj
  have so : (shs s).o = s.o := rfl
  have sa : (shs s).a = s.a := rfl
  have i0 : (CS.setO (shs s) a 0 305).i = (shs s).i := ci_setO ..
  have a0 : (CS.setO (shs s) a 0 305).a = (shs s).a := ca_setO ..
  have r0 : (CS.setO (shs s) a 0 305).r = (shs s).r := cr_setO ..
  have l0 : (CS.setO (shs s) a 0 305).ol = (shs s).ol := col_setO ..
  have tS : tcI (shs s) = tcI s := by unfold tcI; rw [shs.i s 21 (by decide)]
  have dS : dsI (shs s) = (s.i 38).toInt := by unfold dsI; rw [shs.i s 38 (by decide)]
  have jK := h.2
  have gS := shs.sg s
  generalize shs s = S at *
  generalize CS.setO S a 0 305 = R at *
  refine jK.top cbS (by rw [i0]) ea' (by rw [r0]; exact ea') (fun z => ⟨by rw [cS]; exact hm (S0 z), ⟨⟨by rw [a0], by rw [a0], by rw [a0], by rw [a0], by rw [a0]⟩, by rw [i0], by rw [i0], by rw [i0], by rw [i0]⟩, rq, ⟨by rw [i0], by rw [i0], by rw [i0], by rw [i0], by rw [i0]⟩, by rw [l0], oj 3 (by decide)⟩) (fun z => ?_) (fun z => Or.inr ?_) (fun z => ?_) (fun z DT KT c0' lim0 _ r => ?_) (fun _ k hk => Or.inl hk) (fun z k k1 k2 k3 => Or.inr ?_) (fun _ n _ w => ?_) (fun z => (jK.2 z).1.lim)
  · have w := hd (S0 z)
    rw [hc] at w
    have e : dsI R = dsI S := by unfold dsI; rw [i0]
    rw [e, dS]
    exact ⟨w.1.symm, w.2⟩
  · rw [o0, so]
    refine ⟨by decide, ?_⟩
    rcases hs (S0 z) with e | e <;> rw [e] <;> decide
  · have w := (jK.2 z).2.2.2.2.2.2.2.1
    have em : (cnI S).toNat = m + 1 := by rw [cS]; have := hm (S0 z); omega
    rw [em] at w
    have nrn : NR S m := fun i hi => jK.1.2.2.2.2.2.2.1.2.2 i (by omega)
    have i2 := (rq.sums nrn).2.1
    have e1 : SGS R (m + 1) = SGS S m + sgn R a := by
      show SGS R m + sgn R (rowA R m) = _
      rw [i2, rowA.of (show R.r 51 m = some a by rw [r0]; exact ea')]
    have e2 : SGS S (m + 1) = SGS S m + sgn S a := by
      show SGS S m + sgn S (rowA S m) = _
      rw [rowA.of ea']
    have g0 : sgn R a = 0 := by unfold sgn; rw [o0]; rfl
    have g1 := (sgn.ge S a).1
    omega
  · have e0 : S.o a 0 = 213 ∨ S.o a 0 = 215 := by rw [so]; exact hs (S0 z)
    have cx := r.cx
    have e : c0' = c0 ∧ lim0 = lim := by
      rcases e0 with e | e
      · have w := cx.2.1 e
        rw [hc] at w
        exact ⟨(List.cons.inj w.1).2.symm, w.2⟩
      · have w := cx.2.2.1 (Or.inl e)
        rw [hc] at w
        exact ⟨(List.cons.inj w.1).2.symm, w.2⟩
    have t9 := cx.2.2.2.2.1 (by rcases e0 with e | e; exact Or.inr (Or.inl e); exact Or.inr (Or.inr (Or.inl e)))
    have t11 := cx.2.2.2.2.2.2 (by rcases e0 with e | e; exact Or.inl e; exact Or.inr (Or.inl e))
    obtain ⟨r1, r2, -⟩ := r
    have etR : tcI R = tcI S := by unfold tcI; rw [i0]
    refine ⟨by rw [oj 2 (by decide)]; exact r1, by rw [oj 3 (by decide), a0]; exact r2, Or.inr (Or.inr (Or.inr (Or.inr (Or.inr (Or.inr (Or.inr (Or.inr (Or.inr (Or.inr (Or.inl ⟨o0, ?_, ?_, ?_, e.2⟩))))))))))⟩
    · rw [e.1]
    · rw [oj 9 (by decide), etR]; exact t9
    · rw [oj 11 (by decide), etR]; exact t11
  · unfold OWS at k2 ⊢
    rw [o0, oj 9 (by decide)]
    rcases k2 with w | w
    · exact Or.inl ⟨by decide, by decide, by decide, by decide, w.2.2.2.2⟩
    · exfalso
      rw [so] at w
      exact h10 (S0 z) k w.2.symm (by omega) (by rw [← sa]; exact k3)
  · rw [hc] at w
    exact w.two
/-- as MDL.trn, with the row's names gone -/
theorem MDL.trn2 {p g d : Int} {σ s R : CS} {a m : Nat} (h : MDL p g d σ s) (hp : 1 ≤ p) (hg : 0 ≤ g) (hm : cnI σ = (m : Int) + 1) (ea : σ.r 51 m = some a) (eR : R.r 51 m = some a) (nr : NR σ (m + 1)) (tl : TL2 m s R) (hsg : sgn R a = sgn σ a + d) : TNR σ R := by
  obtain ⟨a0, ⟨a1, a2⟩, a3, ⟨a5, a6⟩, a9, a10, a11, a12, a13⟩ := h
  obtain ⟨⟨t1, t2⟩, ⟨t4, t5, t6⟩, t7, t8, t9, t10, t11, t12⟩ := tl
  have ecn : cnI R = cnI σ := by unfold cnI; rw [t11, a5]
  have em : (cnI σ).toNat = m + 1 := by omega
  have e1 : (cnI σ).toNat - 1 = m := by omega
  rw [e1] at a9
  have rr := a9.tr t2
  have epl : plI R = plI s := by unfold plI; rw [t10]
  have ee : eI R = eI s := by unfold eI; rw [epl, t9]
  have esg : sgI R = sgI s := by unfold sgI; rw [t8]
  obtain ⟨i1, i2, i3, i4, i5⟩ := rr.sums (fun i hi => nr i (by omega))
  have sw : SGS σ (m + 1) = SGS σ m + sgn σ a := by
    show SGS σ m + sgn σ (rowA σ m) = _
    rw [rowA.of ea]
  have sR : SGS R (m + 1) = SGS σ m + sgn R a := by
    show SGS R m + sgn R (rowA R m) = _
    rw [rowA.of eR, i2]
  refine ⟨a0, ⟨by omega, by omega, by omega⟩, ?_, ⟨by omega, by omega, by omega, fun q => absurd q (by omega)⟩, by rw [e1]; exact rr, fun n hn => by rw [t6]; exact a10 n hn, fun i hi => by rw [t4, t5]; exact a11 i hi, t12.trans a6⟩
  rw [ecn, em, sR, sw]
  omega
end
section
/-! the class's reading: a try's block or a catch's ends, whole -/
theorem q_endGrd {N : Nat} {H : HB} {x y : Int} {c : List Nat} {X : List (Nat × List Nat)} {P : List Nat} {T : List Int} {σ : CS} {a m : Nat} {s' s : CS} (hx : x ≤ 4000) (hy : y ≤ 90) (hσ : JJ H (x + 100) y c X P (ccI σ :: T) σ) (ht : TUR σ a m) (hs : σ.o a 0 = 213 ∨ σ.o a 0 = 215) (h : ECL H x y c X P T σ a m s' s) : ok (f_X7_endGuarded N s a) (fun R => TNQ H (x + 5) y X P T σ R.2 ∧ (R.2.i 32 = 0 → cnI R.2 = (m : Int) ∨ (nmI R.2 = (R.2.o a 3).toInt ∧ cnI R.2 = (m : Int) + 1))) := by
  obtain ⟨nf, hm, ea, nr, m4⟩ := (show TUR σ a m from ht)
  obtain ⟨DT0, KT0, c0, lim0, r0⟩ := hσ.row ht
  obtain ⟨ph, ec⟩ : ∃ ph : Nat, c = ph :: c0 := by
    rcases hs with e | e
    · exact ⟨1, (r0.cx.2.1 e).1⟩
    · exact ⟨2, (r0.cx.2.2.1 (Or.inl e)).1⟩
  have nb := (hσ.2 nf).2
  have em : (cnI σ).toNat = m + 1 := by omega
  have sg := nb.2.2.2.2.2.2.1
  rw [em] at sg
  have ds := hσ.ds nf
  have hcl : ∀ (s : CS) (DT : Nat → List Nat) (KT : Nat → Prop) (c0' : List Nat) (lim lim0 : List Int), s.o a 0 = σ.o a 0 → ROW1 s DT KT a c0' c lim lim0 → c0' = c0 ∧ lim0 = lim := fun s DT KT c0' lim lim0 e r => by
    rcases hs with q | q
    · have w := r.cx.2.1 (by rw [e]; exact q)
      rw [ec] at w
      exact ⟨(List.cons.inj w.1).2.symm, w.2⟩
    · have w := r.cx.2.2.1 (Or.inl (by rw [e]; exact q))
      rw [ec] at w
      exact ⟨(List.cons.inj w.1).2.symm, w.2⟩
  have sx : sgn σ a = 1 := by
    unfold sgn
    rcases hs with e | e <;> rw [e] <;> rfl
  -- the row's targets, wherever it stands as it stood
  have rT : ∀ (u : CS), (∀ j : Nat, j ≠ 6 → u.o a j = σ.o a j) → u.r 51 m = some a → cnI u = (m : Int) + 1 → ∀ (DT : Nat → List Nat) (KT : Nat → Prop), (∀ n : Nat, (n : Int) = cnI u → RCH (shs u) DT KT n c (ccI σ :: T)) → TTc (tcI u) DT KT (u.o a 9) c0 ∧ (u.o a 2).toInt = (c0.length : Int) ∧ TTc (tcI u) DT KT (u.o a 10) (2 :: c0) := fun u uo ur uc DT KT qR => by
    obtain ⟨c0', L0, r⟩ := (qR (m + 1) (by omega)).top (show (shs u).r 51 m = some a from ur)
    have so : (shs u).o a 0 = σ.o a 0 := uo 0 (by decide)
    have e := (hcl (shs u) DT KT c0' _ L0 so r).1
    have etc : tcI (shs u) = tcI u := by unfold tcI; rw [shs.i u 21 (by decide)]
    have sv : (shs u).o a 0 = 213 ∨ (shs u).o a 0 = 215 := by rw [so]; exact hs
    have t9 := r.cx.2.2.2.2.1 (by rcases sv with q | q; exact Or.inr (Or.inl q); exact Or.inr (Or.inr (Or.inl q)))
    have t10 := r.cx.2.2.2.2.2.1 sv
    have t2 := r.1
    rw [e] at t9 t10 t2
    rw [etc] at t9 t10
    exact ⟨t9, t2, t10⟩
  unfold f_X7_endGuarded
  refine ok_chk (h.1.1.1.2.1 m a m4 h.2.1) ?_
  refine ok_bind (q_lv N s (s.o a 9) (s.o a 2)) (fun p hp => ?_)
  obtain ⟨o, v, ha, hov⟩ := hp
  have oS : s.i 32 = 0 → ∀ j : Nat, j ≠ 6 → s.o a j = σ.o a j := fun z j _ => by rw [h.o z]
  have j1 := h.1.add (c1 := 2 :: c0) ha (by omega) (by omega) (fun _ => ds.2) (fun z DT KT _ qR => by
    have w := rT s (oS z) h.2.1 (h.2.2 z).2.2.2.2.2.2 DT KT qR
    refine IOK.lv (t := s.o a 9) (g := s.o a 2) (r := [ph]) ?_ w.1 w.2.1 ec ds.2 (by have := (h.1.tb z (by omega) (by omega)).1; omega)
    rcases hov with ⟨e1, e2, e3⟩ | e
    · refine Or.inl ⟨e1, e2, ?_⟩
      rw [e3, (h.2.2 z).2.2.2.2.1]
      exact ds.1
    · exact Or.inr e)
  have po : p.2.o = s.o := ha.1.2.2.2.1
  have pr : p.2.r 51 m = some a := by rw [ha.1.2.2.2.2.2.2.1]; exact h.2.1
  have p32 := ha.f32.1
  have pc : p.2.i 32 = 0 → cnI p.2 = (m : Int) + 1 := fun z => by rw [← (h.2.2 (p32.symm.trans z)).2.2.2.2.2.2]; unfold cnI; rw [ha.2.1 53 (by decide)]
  refine ok_chk (j1.1.1.2.1 m a m4 pr) ?_
  refine ok_bind (q_aim N p.2 (p.2.o a 10)) (fun q hq => ?_)
  have j2 : JSH H (x + 1) y (2 :: c0) c c X P (ccI σ :: T) q.2 := j1.aim hq (by omega) (by omega) (fun z DT KT _ qR => by
    have w := (rT p.2 (by rw [po]; exact oS (p32.symm.trans z)) pr (pc z) DT KT qR).2.2
    exact ⟨w.1, w.2.1, w.2.2.1⟩) (fun _ k hk => Or.inl hk)
  have qr : q.2.r 51 m = some a := by rw [hq.1.2.2.2.2.2.2.1]; exact pr
  have qo : q.2.o = s.o := hq.1.2.2.2.1.trans po
  have q32 : q.2.i 32 = s.i 32 := hq.f.1.trans p32
  have qc : q.2.i 32 = 0 → cnI q.2 = (m : Int) + 1 := fun z => by rw [← pc (hq.f.1.symm.trans z)]; unfold cnI; rw [hq.2.1]
  have q10 : q.2.i 32 = 0 → ∀ k : Nat, (k : Int) = (s.o a 10).toInt → (k : Int) < tcI q.2 → ¬ (q.2.a 17 k).toInt = -1 := fun z k k1 k2 => by
    have z1 := hq.f.1.symm.trans z
    have tb := j1.tb z1 (by omega) (by omega)
    have etc : tcI q.2 = tcI p.2 := by unfold tcI; rw [hq.2.1]
    exact hq.at (by rw [po]; exact k1) (by omega) tb.2
  refine ok_chk (j2.1.1.2.1 m a m4 qr) ?_
  have q38 : q.2.i 38 = s.i 38 := by rw [hq.2.1, ha.2.1 38 (by decide)]
  have q50 : nmI q.2 = nmI s := by unfold nmI; rw [hq.2.1, ha.2.1 50 (by decide)]
  have q22 : q.2.i 22 = s.i 22 := by rw [hq.2.1, ha.2.1 22 (by decide)]
  -- behind the note whether it can end
  have main : ∀ w : Int32, bo w → ok (f_X7_endGuarded_46 N (CS.setO q.2 a 6 w) a) (fun R => TNQ H (x + 5) y X P T σ R.2 ∧ (R.2.i 32 = 0 → cnI R.2 = (m : Int) ∨ (nmI R.2 = (R.2.o a 3).toInt ∧ cnI R.2 = (m : Int) + 1))) := fun w hw => by
    have j3 := j2.fld qr m4 qc 6 w (by omega) (fun _ => hw)
    have ou := (OUV.rf q.2 a).o 6 w
    have t2 := ou.t2 j2.1.1 m4 qr
    have uo : ∀ j : Nat, j ≠ 6 → (CS.setO q.2 a 6 w).o a j = s.o a j := fun j hj => by
      rw [show (CS.setO q.2 a 6 w).o a = upd (q.2.o a) 6 w from ou.2.2.1, qo]
      exact if_neg hj
    have u6 : bo ((CS.setO q.2 a 6 w).o a 6) := by
      rw [show (CS.setO q.2 a 6 w).o a = upd (q.2.o a) 6 w from ou.2.2.1]
      exact hw
    have ui : (CS.setO q.2 a 6 w).i = q.2.i := ci_setO ..
    have ua : (CS.setO q.2 a 6 w).a = q.2.a := ca_setO ..
    have ur : (CS.setO q.2 a 6 w).r 51 m = some a := qr
    generalize CS.setO q.2 a 6 w = u at *
    have u32 : u.i 32 = s.i 32 := by rw [ui]; exact q32
    have uc : u.i 32 = 0 → cnI u = (m : Int) + 1 := fun z => by rw [← qc (by rw [← ui]; exact z)]; unfold cnI; rw [ui]
    have utc : tcI u = tcI q.2 := by unfold tcI; rw [ui]
    have tl : s.i 32 = 0 → TL2 m s' u := fun z => (((h.2.2 z).2.1.tr ha.tle).tr hq.tle).t2 m |>.tr t2
    have oU : s.i 32 = 0 → ∀ j : Nat, j ≠ 6 → u.o a j = σ.o a j := fun z j hj => by rw [uo j hj]; exact oS z j hj
    -- a catch or finally follows
    have grd : ok (f_X7_endGuarded_66 N u a) (fun R => TNQ H (x + 5) y X P T σ R.2 ∧ (R.2.i 32 = 0 → cnI R.2 = (m : Int) ∨ (nmI R.2 = (R.2.o a 3).toInt ∧ cnI R.2 = (m : Int) + 1))) := by
      unfold f_X7_endGuarded_66
      refine ok_chk (j3.1.1.2.1 m a m4 ur) (ok_some ?_)
      have j4 := j3.grd (ph := ph) ec ur m4 uc (fun z => by
        have e := oU (u32.symm.trans z) 0 (by decide)
        rw [e]; exact hs) (fun z => by
        have z1 := u32.symm.trans z
        rw [ui, q38, (h.2.2 z1).2.2.2.2.1]
        exact ds) (fun z k k1 k2 => by
        rw [ua]
        exact q10 (by rw [← ui]; exact z) k (by rw [← uo 10 (by decide)]; exact k1) (by omega))
      have ou5 := (OUV.rf u a).o 0 305
      have t25 := ou5.t2 j3.1.1 m4 ur
      have v0 : (CS.setO u a 0 305).o a 0 = 305 := by rw [show (CS.setO u a 0 305).o a = upd (u.o a) 0 305 from ou5.2.2.1]; rfl
      have v3 : (CS.setO u a 0 305).o a 3 = u.o a 3 := by rw [show (CS.setO u a 0 305).o a = upd (u.o a) 0 305 from ou5.2.2.1]; rfl
      have vi : (CS.setO u a 0 305).i = u.i := ci_setO ..
      have vr : (CS.setO u a 0 305).r 51 m = some a := ur
      show TNQ H (x + 5) y X P T σ (CS.setO u a 0 305) ∧ _
      generalize CS.setO u a 0 305 = V at *
      have trn : V.i 32 = 0 → TNR σ V := fun z => by
        have z1 : s.i 32 = 0 := u32.symm.trans (by rw [← vi]; exact z)
        exact (h.2.2 z1).1.trn2 (by omega) (by omega) hm ea vr nr ((tl z1).tr t25) (by rw [sx]; unfold sgn; rw [v0]; rfl)
      refine ⟨⟨j4.1, fun z => ⟨⟨2 :: c0, ?_⟩, trn z⟩⟩, fun z => Or.inr ?_⟩
      · have z1 : s.i 32 = 0 := u32.symm.trans (by rw [← vi]; exact z)
        have ecc : ccI V = ccI σ := by unfold ccI; rw [vi, ui, q22, (h.2.2 z1).2.2.2.1]
        rw [ecc]
        refine (JK.j (j4.un (fun _ => ?_))).w (by omega) (by omega)
        have e3 := (trn z).2.2.1
        rw [em] at e3
        have sR : sgI V = sgI σ + -1 := by
          rw [← (h.2.2 z1).1.2.2.1]
          have w := ((tl z1).tr t25).2.2.2.1
          unfold sgI
          rw [w]
        have bas := (BAS (s := V) (cnI V).toNat).2.2.2.1
        have := nb.2.2.2.1.2
        omega
      · have z1 : s.i 32 = 0 := u32.symm.trans (by rw [← vi]; exact z)
        show nmI V = (V.o a 3).toInt ∧ cnI V = (m : Int) + 1
        have e : nmI V = nmI s := by rw [← q50]; unfold nmI; rw [vi, ui]
        refine ⟨?_, ?_⟩
        · rw [e, v3, uo 3 (by decide)]
          exact (h.2.2 z1).2.2.2.2.2.1
        · rw [← uc (by rw [← vi]; exact z)]; unfold cnI; rw [vi]
    unfold f_X7_endGuarded_46
    refine ok_bind (q_found u 215) (fun f hf => ?_)
    rw [hf.1]
    refine ok_ite (fun _ => ?_) (fun _ => grd)
    refine ok_bind (q_found u 216) (fun f hf => ?_)
    rw [hf.1]
    refine ok_ite (fun _ => ?_) (fun _ => grd)
    refine ok_chk (j3.1.1.2.1 m a m4 ur) (ok_ite (fun _ => ok_bind (q_misp j3.1) (fun f hf => ok_some ⟨TNQ.flt j3.1 hf, fun z => absurd z hf.2.2.2.1⟩)) (fun _ => ?_))
    -- the try is whole
    refine ok_bind (q_add N u 58 0) (fun d hd => ?_)
    have j4 := j3.add (c1 := c0) hd (by omega) (by omega) (fun _ => by have := ds.2; rw [ec] at this; exact this) (fun z DT KT _ _ => ⟨fun q => absurd q (by decide), fun q => absurd q (by decide), fun _ q => absurd q (by decide), fun _ q => absurd q (by decide), fun q => absurd q (by decide), fun q => absurd q (by decide), fun q => absurd q (by decide), fun q => absurd q (by decide), fun _ => ⟨c0, rfl⟩, fun q => absurd q (by decide), fun q => absurd q (by decide), fun q => absurd q (by decide), by decide⟩)
    have dO : d.2.o = u.o := hd.1.2.2.2.1
    have dr : d.2.r 51 m = some a := by rw [hd.1.2.2.2.2.2.2.1]; exact ur
    have d32 := hd.f32.1
    refine ok_chk (j4.1.1.2.1 m a m4 dr) ?_
    refine ok_bind (q_aim N d.2 (d.2.o a 9)) (fun e he => ?_)
    have j5 : JSH H (x + 1 + 1) y c0 c c X P (ccI σ :: T) e.2 := j4.aim he (by omega) (by omega) (fun z DT KT _ qR => by
      have z1 := d32.symm.trans z
      have w := (rT d.2 (by rw [dO]; exact oU (u32.symm.trans z1)) dr (by rw [← uc z1]; unfold cnI; rw [hd.2.1 53 (by decide)]) DT KT qR).1
      exact ⟨w.1, w.2.1, w.2.2.1⟩) (fun _ k hk => Or.inl hk)
    have eO : e.2.o = u.o := he.1.2.2.2.1.trans dO
    have er : e.2.r 51 m = some a := by rw [he.1.2.2.2.2.2.2.1]; exact dr
    refine ok_chk (j5.1.1.2.1 m a m4 er) (ok_chk (by rw [eO]; exact u6) ?_)
    have ir := (IRR.rf j5.1).i 36 (e.2.o a 6) (by unfold IRJ; omega) (fun _ => by rw [eO]; exact u6)
    have i38 : (CS.setI e.2 36 (e.2.o a 6)).i 38 = e.2.i 38 := ci_ne _ _ _ (by decide)
    rw [← i38]
    have j6 := j5.irr ir
    have fr : (CS.setI e.2 36 (e.2.o a 6)).r 51 m = some a := er
    generalize CS.setI e.2 36 (e.2.o a 6) = F at *
    have F32 : F.i 32 = s.i 32 := by rw [ir.f.1, he.f.1, d32, u32]
    refine ok_imp (q_endFrm (c0 := c0) (ph := ph) (s' := s') ⟨sg, nb.2.2.2.1.2⟩ ht (Or.inr (Or.inr hs)) ec hcl j6 fr (fun z => ?_) (fun _ => ds.2)) (fun R hR => ⟨hR.1.w (by omega) (Int.le_refl _), fun z => Or.inl (hR.2 z)⟩)
    · have z1 : s.i 32 = 0 := F32.symm.trans z
      have w := h.2.2 z1
      have Fi : ∀ j : Nat, ¬ IRJ j → j ≠ 20 → F.i j = q.2.i j := fun j k1 k2 => by rw [ir.2.1 j k1, he.2.1, hd.2.1 j k2, ui]
      have Fo : F.o = u.o := by rw [ir.1.2.2.2.1, eO]
      refine ⟨w.1, (tl z1).tr (((hd.tle.tr he.tle).tr ir.tle).t2 m), by rw [Fo]; exact oU z1 0 (by decide), ?_, ?_, ?_, fun k k1 k2 => ?_⟩
      · rw [Fi 22 (by unfold IRJ; omega) (by decide), q22]; exact w.2.2.2.1
      · rw [Fi 38 (by unfold IRJ; omega) (by decide), q38, w.2.2.2.2.1]; exact ds.1
      · have e : nmI F = nmI s := by rw [← q50]; unfold nmI; rw [Fi 50 (by unfold IRJ; omega) (by decide)]
        rw [e, Fo, uo 3 (by decide)]; exact w.2.2.2.2.2.1
      · have zq : q.2.i 32 = 0 := q32.trans z1
        have zd : d.2.i 32 = 0 := d32.trans (u32.trans z1)
        have tb := j4.tb zd (by omega) (by omega)
        have tF : tcI F = tcI q.2 := by unfold tcI; rw [Fi 21 (by unfold IRJ; omega) (by decide)]
        have tD : tcI d.2 = tcI q.2 := by rw [← utc]; unfold tcI; rw [hd.2.1 21 (by decide)]
        rw [ir.2.2.1 17 (by decide)]
        rw [Fo] at k1
        by_cases e9 : (k : Int) = (d.2.o a 9).toInt
        · exact he.at e9 (by omega) tb.2
        · rcases k1 with k1 | ⟨-, k1⟩
          · exact absurd (by rw [dO]; exact k1) e9
          · rw [he.2.2.2, gPut_ne e9, hd.2.2.2.1 17 (by decide) (by decide), ua]
            exact q10 zq k (by rw [← uo 10 (by decide)]; exact k1) (by omega)
  refine ok_ite (fun _ => ok_ite (fun _ => main 0 (Or.inl rfl)) (fun _ => main 1 (Or.inr rfl))) (fun _ => main 1 (Or.inr rfl))
end
section
/-! the class's reading: with a row as it was -/
noncomputable def wO (s : CS) (a : Nat) (g : Nat → Int32) (l : Int64) : CS := some (s.hs, s.i, s.l, s.a, s.b, s.r, s.w, s.L, s.k, va_up s.o a g, va_up s.ol a l, s.ot, s.oa)
theorem wO.o {s : CS} {a : Nat} {g : Nat → Int32} {l : Int64} : (wO s a g l).o = va_up s.o a g := rfl
theorem wO.ol {s : CS} {a : Nat} {g : Nat → Int32} {l : Int64} : (wO s a g l).ol = va_up s.ol a l := rfl
theorem ADV.wo {s R : CS} (h : ADV s R) (a : Nat) (g : Nat → Int32) (l : Int64) : ADV (wO s a g l) (wO R a g l) := by
  obtain ⟨⟨⟨b1, b2, b3, b4, b5, b6, b7, b8, b9, b10, b11⟩, b⟩, h2⟩ := h
  exact ⟨⟨⟨b1, b2, b3, by rw [wO.o, wO.o, b4], by rw [wO.ol, wO.ol, b5], b6, b7, b8, b9, b10, b11⟩, b⟩, h2⟩
theorem FLD.wo {s R : CS} (h : FLD s R) (a : Nat) (g : Nat → Int32) (l : Int64) : FLD (wO s a g l) (wO R a g l) := by
  obtain ⟨⟨b1, b2, b3, b4, b5, b6, b7, b8, b9, b10, b11, b12⟩, b⟩ := h
  exact ⟨⟨b1, b2, b3, by rw [wO.o, wO.o, b4], by rw [wO.ol, wO.ol, b5], b6, b7, b8, b9, b10, b11, b12⟩, b⟩
theorem ADD.wo {s R : CS} {o x : Int32} (h : ADD s R o x) (a : Nat) (g : Nat → Int32) (l : Int64) : ADD (wO s a g l) (wO R a g l) o x := by
  obtain ⟨⟨b1, b2, b3, b4, b5, b6, b7, b8, b9, b10⟩, b⟩ := h
  exact ⟨⟨b1, b2, b3, by rw [wO.o, wO.o, b4], by rw [wO.ol, wO.ol, b5], b6, b7, b8, b9, b10⟩, b⟩
theorem AIM.wo {s R : CS} {t : Int32} (h : AIM s R t) (a : Nat) (g : Nat → Int32) (l : Int64) : AIM (wO s a g l) (wO R a g l) t := by
  obtain ⟨⟨b1, b2, b3, b4, b5, b6, b7, b8, b9, b10⟩, b⟩ := h
  exact ⟨⟨b1, b2, b3, by rw [wO.o, wO.o, b4], by rw [wO.ol, wO.ol, b5], b6, b7, b8, b9, b10⟩, b⟩
theorem NTG.wo {s R : CS} (h : NTG s R) (a : Nat) (g : Nat → Int32) (l : Int64) : NTG (wO s a g l) (wO R a g l) := by
  obtain ⟨⟨b1, b2, b3, b4, b5, b6, b7, b8, b9, b10⟩, b⟩ := h
  exact ⟨⟨b1, b2, b3, by rw [wO.o, wO.o, b4], by rw [wO.ol, wO.ol, b5], b6, b7, b8, b9, b10⟩, b⟩
theorem IRR.wo {s R : CS} (h : IRR s R) (a : Nat) (g : Nat → Int32) (l : Int64) : IRR (wO s a g l) (wO R a g l) := by
  obtain ⟨⟨b1, b2, b3, b4, b5, b6, b7, b8, b9, b10⟩, b⟩ := h
  exact ⟨⟨b1, b2, b3, by rw [wO.o, wO.o, b4], by rw [wO.ol, wO.ol, b5], b6, b7, b8, b9, b10⟩, b⟩
theorem NAD.wo {s R : CS} {v : Int32} (h : NAD s R v) (a : Nat) (g : Nat → Int32) (l : Int64) : NAD (wO s a g l) (wO R a g l) v := by
  obtain ⟨⟨b1, b2, b3, b4, b5, b6, b7, b8, b9, b10⟩, b⟩ := h
  exact ⟨⟨b1, b2, b3, by rw [wO.o, wO.o, b4], by rw [wO.ol, wO.ol, b5], b6, b7, b8, b9, b10⟩, b⟩
theorem wO.set (s : CS) (a k : Nat) (v : Int32) (g : Nat → Int32) (l : Int64) : wO (CS.setO s a k v) a g l = wO s a g l := by
  have : va_up (va_up s.o a (upd (s.o a) k v)) a g = va_up s.o a g := by
    funext n
    show (if n = a then g else if n = a then upd (s.o a) k v else s.o n) = (if n = a then g else s.o n)
    by_cases q : n = a
    · rw [if_pos q, if_pos q]
    · rw [if_neg q, if_neg q, if_neg q]
  show some (s.hs, s.i, s.l, s.a, s.b, s.r, s.w, s.L, s.k, va_up (va_up s.o a (upd (s.o a) k v)) a g, va_up s.ol a l, s.ot, s.oa) = _
  rw [this]
  rfl
theorem va_self {α : Type} (f : Nat → α) (a : Nat) : va_up f a (f a) = f := by
  funext n
  show (if n = a then f a else f n) = f n
  by_cases q : n = a
  · rw [if_pos q, q]
  · rw [if_neg q]
/-- the state s, and the row a at m as it stood with g and l -/
def GHS (H : HB) (x y : Int) (cD c d : List Nat) (X : List (Nat × List Nat)) (P : List Nat) (lim : List Int) (σ : CS) (p e0 e : Int) (g : Nat → Int32) (l : Int64) (a m : Nat) (s : CS) : Prop := CBS H s ∧ (s.r 51 m = some a ∧ m < 400) ∧ JK H x y cD c d X P lim (wO s a g l) ∧ (s.i 32 = 0 → SX p e0 e σ (wO s a g l))
theorem GHS.w {H : HB} {x y x' y' : Int} {cD c d : List Nat} {X : List (Nat × List Nat)} {P : List Nat} {lim : List Int} {σ : CS} {p e0 e p' e0' : Int} {g : Nat → Int32} {l : Int64} {a m : Nat} {s : CS} (h : GHS H x y cD c d X P lim σ p e0 e g l a m s) (hx : x ≤ x') (hy : y ≤ y') (hp : p' ≤ p) (he : e0' ≤ e0) : GHS H x' y' cD c d X P lim σ p' e0' e g l a m s := ⟨h.1, h.2.1, h.2.2.1.w hx hy, fun z => (h.2.2.2 z).w hp he rfl⟩
theorem GHS.rf {H : HB} {x y : Int} {c : List Nat} {X : List (Nat × List Nat)} {P : List Nat} {lim : List Int} {σ : CS} {a m : Nat} (h : JJ H x y c X P lim σ) (ea : σ.r 51 m = some a) (m4 : m < 400) : GHS H x y c c c X P lim σ 0 0 0 (σ.o a) (σ.ol a) a m σ := by
  have ir : IRR σ (wO σ a (σ.o a) (σ.ol a)) := by
    refine ⟨⟨rfl, rfl, rfl, by rw [wO.o, va_self], by rw [wO.ol, va_self], rfl, rfl, rfl, rfl, rfl⟩, fun _ _ => rfl, fun _ _ => rfl, h.1.2.2.2.2.2.2.2.2.1, h.1.2.2.2.2.2.2.2.2.2.2⟩
  exact ⟨h.1, ⟨ea, m4⟩, h.k.irr ir, fun z => ir.sx z⟩
theorem GHS.set {H : HB} {x y : Int} {cD c d : List Nat} {X : List (Nat × List Nat)} {P : List Nat} {lim : List Int} {σ : CS} {p e0 e : Int} {g : Nat → Int32} {l : Int64} {a m : Nat} {s : CS} (h : GHS H x y cD c d X P lim σ p e0 e g l a m s) (k : Nat) (v : Int32) (hb : (5 ≤ k ∧ k ≤ 8) → bo v) (h3 : k ≠ 3) : GHS H x y cD c d X P lim σ p e0 e g l a m (CS.setO s a k v) := ⟨h.1.o a k v hb (fun z => absurd z h3), h.2.1, by rw [wO.set]; exact h.2.2.1, by rw [wO.set]; exact h.2.2.2⟩
theorem GHS.adv {H : HB} {x y x' y' : Int} {cD c d : List Nat} {X : List (Nat × List Nat)} {P : List Nat} {lim : List Int} {σ : CS} {p e0 e p' e0' : Int} {g : Nat → Int32} {l : Int64} {a m : Nat} {s R : CS} (h : GHS H x y cD c d X P lim σ p e0 e g l a m s) (ha : ADV s R) (hxy : s.i 32 = 0 → x + 100 * plI s ≤ x' + 100 * plI R ∧ y + eI s ≤ y' + eI R) (hpg : s.i 32 = 0 → plI s + p' ≤ plI R ∧ eI s + e0' ≤ eI R) : GHS H x' y' cD c d X P lim σ (p + p') (e0 + e0') e g l a m R := by
  obtain ⟨h1, ⟨h2, h3⟩, h4, h5⟩ := h
  have e32 := ha.f32
  refine ⟨ha.1.t9.cb h1 ha.2.1 (fun q => ha.2.2.2.2 (h1.2.2.2.2.1 (by rw [← e32]; exact q))) (fun q => e32.symm.trans q), ⟨by rw [ha.1.1.2.2.2.2.2.2.2.1]; exact h2, h3⟩, h4.adv (ha.wo a g l) hxy, fun z => ?_⟩
  have z1 := e32.symm.trans z
  exact ((h5 z1).tr ((ha.wo a g l).smr.sx z1 (hpg z1))).w (Int.le_refl _) (Int.le_refl _) (by omega)
theorem GHS.add {H : HB} {x y : Int} {cD c d c1 : List Nat} {X : List (Nat × List Nat)} {P : List Nat} {lim : List Int} {σ : CS} {p e0 e : Int} {g : Nat → Int32} {l : Int64} {a m : Nat} {s R : CS} {o v : Int32} (h : GHS H x y cD c d X P lim σ p e0 e g l a m s) (ha : ADD s R o v) (hx : x ≤ 10000) (hy : y ≤ 100) (hl : s.i 32 = 0 → cD.length ≤ 21) (hI : s.i 32 = 0 → ∀ (DT : Nat → List Nat) (KT : Nat → Prop), (∀ q ∈ X, (q.1 : Int) < tcI s ∧ DT q.1 = q.2 ∧ ¬ KT q.1) → IOK (tcI s) DT KT o v cD c1) : GHS H (x + 1) y c1 c d X P lim σ p e0 e g l a m R := by
  obtain ⟨h1, ⟨h2, h3⟩, h4, h5⟩ := h
  refine ⟨ha.cb h1, ⟨by rw [ha.1.2.2.2.2.2.2.1]; exact h2, h3⟩, h4.add (ha.wo a g l) hx hy hl (fun z DT KT z1 _ _ => hI z DT KT z1), fun z => ?_⟩
  have z1 := ha.f32.1.symm.trans z
  exact ((h5 z1).tr ((ha.wo a g l).sx z1)).w (by omega) (by omega) (by omega)
theorem GHS.aim {H : HB} {x y : Int} {cD c d : List Nat} {X : List (Nat × List Nat)} {P P' : List Nat} {lim : List Int} {σ : CS} {p e0 e : Int} {g : Nat → Int32} {l : Int64} {a m : Nat} {s R : CS} {t : Int32} (h : GHS H x y cD c d X P lim σ p e0 e g l a m s) (ha : AIM s R t) (hx : x ≤ 10000) (hy : y ≤ 100) (hT : s.i 32 = 0 → ∀ (DT : Nat → List Nat) (KT : Nat → Prop), (∀ q ∈ X, (q.1 : Int) < tcI s ∧ DT q.1 = q.2 ∧ ¬ KT q.1) → (∀ n : Nat, (n : Int) = cnI s → RCH (wO s a g l) DT KT n c lim) → 0 ≤ t.toInt ∧ t.toInt < tcI s ∧ DT t.toInt.toNat = cD) (hP : s.i 32 = 0 → ∀ k ∈ P, k ∈ P' ∨ (k : Int) = t.toInt) : GHS H x y cD c d X P' lim σ p e0 e g l a m R := by
  obtain ⟨h1, ⟨h2, h3⟩, h4, h5⟩ := h
  refine ⟨ha.cb h1 (fun q => (h4.2 q).1.tc0.2), ⟨by rw [ha.1.2.2.2.2.2.2.1]; exact h2, h3⟩, h4.aim (ha.wo a g l) hx hy hT hP, fun z => ?_⟩
  have z1 := ha.f.1.symm.trans z
  exact ((h5 z1).tr ((ha.wo a g l).sx z1)).w (by omega) (by omega) (by omega)
theorem GHS.new {H : HB} {x y : Int} {cD c d : List Nat} {X : List (Nat × List Nat)} {P : List Nat} {lim : List Int} {σ : CS} {p e0 e : Int} {g : Nat → Int32} {l : Int64} {a m : Nat} {s R : CS} (h : GHS H x y cD c d X P lim σ p e0 e g l a m s) (hr : NTG s R) (hx : x ≤ 10000) (hy : y ≤ 100) (t : List Nat) : GHS H x (y + 1) cD c d (((tcI s).toNat, t) :: X) ((tcI s).toNat :: P) lim σ p e0 e g l a m R := by
  obtain ⟨h1, ⟨h2, h3⟩, h4, h5⟩ := h
  refine ⟨hr.cb h1 (fun q => ⟨(h4.2 q).1.tc0.1, Int.le_trans ((h4.2 q).2.sz h4.1.2.2.1 h4.1.2.2.2.2.2.2.1.1 hx hy).2 (by omega)⟩), ⟨by rw [hr.1.2.2.2.2.2.2.1]; exact h2, h3⟩, h4.new (hr.wo a g l) hx hy t, fun z => ?_⟩
  have z1 := hr.f.1.symm.trans z
  exact ((h5 z1).tr ((hr.wo a g l).sx z1)).w (by omega) (by omega) (by omega)
theorem GHS.irr {H : HB} {x y : Int} {cD c d : List Nat} {X : List (Nat × List Nat)} {P : List Nat} {lim : List Int} {σ : CS} {p e0 e : Int} {g : Nat → Int32} {l : Int64} {a m : Nat} {s R : CS} (h : GHS H x y cD c d X P lim σ p e0 e g l a m s) (hi : IRR s R) : GHS H x y cD c d X P lim σ p e0 e g l a m R := by
  obtain ⟨h1, ⟨h2, h3⟩, h4, h5⟩ := h
  refine ⟨hi.cb h1, ⟨by rw [hi.1.2.2.2.2.2.2.1]; exact h2, h3⟩, h4.irr (hi.wo a g l), fun z => ?_⟩
  have z1 := hi.f.1.symm.trans z
  exact ((h5 z1).tr ((hi.wo a g l).sx z1)).w (by omega) (by omega) (by omega)
theorem GHS.nad {H : HB} {x y : Int} {cD c d : List Nat} {X : List (Nat × List Nat)} {P : List Nat} {lim : List Int} {σ : CS} {p e0 e : Int} {g : Nat → Int32} {l : Int64} {a m : Nat} {s R : CS} {v : Int32} (h : GHS H x y cD c d X P lim σ p e0 e g l a m s) (hn : NAD s R v) (hv : s.i 32 = 0 → NMT v c) : GHS H x y cD c d X P lim σ p e0 e g l a m R := by
  obtain ⟨h1, ⟨h2, h3⟩, h4, h5⟩ := h
  refine ⟨hn.cb h1, ⟨by rw [hn.1.2.2.2.2.2.2.1]; exact h2, h3⟩, h4.nad (hn.wo a g l) hv, fun z => ?_⟩
  have z1 := hn.f.1.symm.trans z
  exact ((h5 z1).tr ((hn.wo a g l).sx z1)).w (by omega) (by omega) (by omega)
theorem GHS.flt {H : HB} {x y : Int} {cD c d : List Nat} {X : List (Nat × List Nat)} {P : List Nat} {lim : List Int} {σ : CS} {p e0 e : Int} {g : Nat → Int32} {l : Int64} {a m : Nat} {s R : CS} (h1 : CBS H s) (hg : CBS H (wO s a g l)) (h2 : s.r 51 m = some a ∧ m < 400) (hf : FLD s R) : GHS H x y cD c d X P lim σ p e0 e g l a m R := ⟨hf.t9.cb h1 hf.2.2.1 (fun _ => hf.2.2.2.2) (fun q => absurd q hf.2.2.2.1), ⟨by rw [hf.1.2.2.2.2.2.2.2.1]; exact h2.1, h2.2⟩, JK.flt hg (hf.wo a g l), fun z => absurd z hf.2.2.2.1⟩
theorem GHS.op {H : HB} {x y : Int} {cD c d : List Nat} {X : List (Nat × List Nat)} {P : List Nat} {lim : List Int} {σ : CS} {p e0 e : Int} {g : Nat → Int32} {l : Int64} {a m : Nat} {s R : CS} {v : Int32} (h : GHS H x y cD c d X P lim σ p e0 e g l a m s) (hv : ¬ v = 0) (ho : FLD s R ∨ (s.i 43 = v ∧ s.i 34 < 20 ∧ ADV (CS.setI s 34 (s.i 34 + 1)) R)) : GHS H (x - 100) y cD c d X P lim σ (p + 1) e0 (e + 1) g l a m R := by
  have ho' : FLD (wO s a g l) (wO R a g l) ∨ ((wO s a g l).i 43 = v ∧ (wO s a g l).i 34 < 20 ∧ ADV (CS.setI (wO s a g l) 34 ((wO s a g l).i 34 + 1)) (wO R a g l)) := by
    rcases ho with q | ⟨q1, q2, q3⟩
    · exact Or.inl (q.wo a g l)
    · exact Or.inr ⟨q1, q2, q3.wo a g l⟩
  obtain ⟨h1, ⟨h2, h3⟩, h4, h5⟩ := h
  obtain ⟨j, mv⟩ := h4.op hv ho'
  have cr : CBS H R ∧ R.r = s.r := by
    rcases ho with q | ⟨q1, q2, q3⟩
    · exact ⟨q.t9.cb h1 q.2.2.1 (fun _ => q.2.2.2.2) (fun z => absurd z q.2.2.2.1), q.1.2.2.2.2.2.2.2.1⟩
    · have c1 := h1.s34 (s.i 34 + 1)
      have e32 := q3.f32
      exact ⟨q3.1.t9.cb c1 q3.2.1 (fun z => q3.2.2.2.2 (c1.2.2.2.2.1 (by rw [← e32]; exact z))) (fun z => e32.symm.trans z), q3.1.1.2.2.2.2.2.2.2.1⟩
  refine ⟨cr.1, ⟨by rw [cr.2]; exact h2, h3⟩, j, fun z => ?_⟩
  have w := mv z
  exact ((h5 w.1).tr w.sx).w (by omega) (by omega) (by omega)
theorem GHS.cl {N : Nat} {H : HB} (hN : 1000 ≤ N) {x y : Int} {cD c d : List Nat} {X : List (Nat × List Nat)} {P : List Nat} {lim : List Int} {σ : CS} {p e0 e : Int} {g : Nat → Int32} {l : Int64} {a m : Nat} {s : CS} (h : GHS H x y cD c d X P lim σ p e0 e g l a m s) (v : Int32) (hv : ¬ v = 0) (hs : SGS σ (cnI σ).toNat ≤ sgI σ ∧ 0 ≤ sgI σ ∧ NR σ (cnI σ).toNat) (he : 1 ≤ e) : ok (f_X1_close N s v) (fun R => GHS H (x - 100) y cD c d X P lim σ (p + 1) e0 (e - 1) g l a m R.2 ∧ R.2.o = s.o ∧ R.2.ol = s.ol) := by
  obtain ⟨h1, ⟨h2, h3⟩, h4, h5⟩ := h
  unfold f_X1_close f_X1_close_22
  refine ok_bind (q_found s v) (fun q hq => ?_)
  obtain ⟨q1, q2⟩ := hq
  rw [q1]
  have fin : ∀ (V : CS) (p1 : Int), p + 1 ≤ p1 ∨ ¬ V.i 32 = 0 → GHS H (x - 100) y cD c d X P lim σ p1 e0 e g l a m V → (V.o = s.o ∧ V.ol = s.ol) → ok (some ((), CS.setI V 34 ((V.i 34) - 1))) (fun R => GHS H (x - 100) y cD c d X P lim σ (p + 1) e0 (e - 1) g l a m R.2 ∧ R.2.o = s.o ∧ R.2.ol = s.ol) := fun V p1 hp1 hV hVo => by
    obtain ⟨k1, ⟨k2, k3⟩, k4, k5⟩ := hV
    have d := k4.dn (fun z => by
      have sx := k5 z
      have ecn : cnI (wO V a g l) = cnI σ := by unfold cnI; rw [sx.2.2.2.1.2.1]
      have i2 := (sx.2.2.2.2.2.1.sums hs.2.2).2.1
      rw [ecn, i2, sx.2.2.1]
      have := hs.1
      have := hs.2.1
      omega)
    refine ok_some ⟨⟨k1.s34 _, ⟨k2, k3⟩, d.1, fun z => ?_⟩, hVo⟩
    have z1 : V.i 32 = 0 := (ci_ne _ _ _ (by decide)).symm.trans z
    obtain ⟨d1, d2, d3, d4, d5⟩ := d.2 z
    have pp : p + 1 ≤ p1 := by
      rcases hp1 with w | w
      · exact w
      · exact absurd z1 w
    exact ((k5 z1).tr (d5.sx (p := 0) (g := 0) (d := -1) z1 (by omega) (by rw [d4]; omega))).w (by omega) (by omega) (by omega)
  rcases q2 with ⟨q2, q3⟩ | ⟨q2, q3⟩
  · rw [if_pos q2]
    exact ok_bind (q_misp h1) (fun r hr => fin r.2 p (Or.inr hr.2.2.2.1) (GHS.flt h1 h4.1 ⟨h2, h3⟩ hr) ⟨hr.1.2.2.2.1, hr.1.2.2.2.2.1⟩)
  · rw [q2, if_neg (by decide)]
    refine ok_bind (q_advC hN h1) (fun r hr => ?_)
    have tk := hr.tk1 h1.2.2.1 (by rw [q3]; exact hv)
    refine fin r.2 (p + 1) (Or.inl (Int.le_refl _)) ?_ ⟨hr.1.1.2.2.2.1, hr.1.1.2.2.2.2.1⟩
    exact (GHS.adv (p' := 1) (e0' := 0) ⟨h1, ⟨h2, h3⟩, h4, h5⟩ hr (fun _ => by omega) (fun _ => by omega)).w (Int.le_refl _) (Int.le_refl _) (Int.le_refl _) (by omega)
end
