/-! the class's reading: a switch ends, whole -/
theorem RCH.ge {s : CS} {DT : Nat → List Nat} {KT : Nat → Prop} : ∀ (n : Nat) (c : List Nat) (lim : List Int), RCH s DT KT n c lim → ∃ (l : Int) (T : List Int), lim = l :: T ∧ 0 ≤ l ∧ ∀ v ∈ T, 0 ≤ v ∧ v ≤ l
  | 0, _, _, ⟨_, l, e, h⟩ => ⟨l, [], e, h, fun v hv => absurd hv (List.not_mem_nil)⟩
  | n + 1, c, lim, ⟨a, c0, lim', _, _, r, hr⟩ => by
    obtain ⟨l, T, e, h0, hT⟩ := RCH.ge n c0 lim' hr
    have same : lim' = lim → ∃ (l : Int) (T : List Int), lim = l :: T ∧ 0 ≤ l ∧ ∀ v ∈ T, 0 ≤ v ∧ v ≤ l := fun q => ⟨l, T, q.symm.trans e, h0, hT⟩
    obtain ⟨-, -, r3⟩ := r
    rcases r3 with ⟨z1, z2, e⟩ | ⟨z1, z2, z3, w⟩ | ⟨z1, z2, z3, e⟩ | ⟨z1, z2, z3, e⟩ | ⟨z1, z2, z3, z4, e⟩ | ⟨z1, z2, z3, z4, z5, e⟩ | ⟨z1, z2, z3, z4, z5, w⟩ | ⟨z1, z2, z3, e⟩ | ⟨z1, z2, z3, z4, z5, e⟩ | ⟨z1, z2, z3, z4, z5, e⟩ | ⟨z1, z2, z3, z4, e⟩ | ⟨z1, z2, z3, e⟩
    · exact same e
    · obtain ⟨v, v1, v2⟩ := w
      have v2' : l ≤ v := by rw [e] at v2; exact v2
      refine ⟨v, v :: lim', v1, by omega, fun u hu => ?_⟩
      rcases List.mem_cons.mp hu with q | q
      · omega
      · rw [e] at q
        rcases List.mem_cons.mp q with q | q
        · omega
        · have := hT u q; omega
    · exact same e
    · exact same e
    · exact same e
    · exact same e
    · obtain ⟨l2, T2, w1, w2, w3, -⟩ := w
      rw [e] at w2
      have q := List.cons.inj w2
      refine ⟨l2, T2, w1, by omega, fun u hu => ?_⟩
      rw [← q.2] at hu
      have := hT u hu
      omega
    · exact same e
    · exact same e
    · exact same e
    · exact same e
    · exact same e
theorem ADS.tle {s R : CS} (h : ADS s R) : TLE s R := ⟨⟨h.1.2.2.2.2.2.2.1, h.1.2.2.2.1, h.1.2.2.2.2.1⟩, ⟨h.2.2 18 (by decide) (by decide), h.2.2 19 (by decide) (by decide), h.2.2 49 (by decide) (by decide)⟩, h.2.1 32 (by decide) (by decide), h.2.1 34 (by decide) (by decide), h.2.1 43 (by decide) (by decide), h.2.1 44 (by decide) (by decide), h.2.1 53 (by decide) (by decide), h.2.1 56 (by decide) (by decide)⟩
theorem q_endSw {N : Nat} {H : HB} (hN : 10000000000 ≤ N) {x y : Int} {c : List Nat} {X : List (Nat × List Nat)} {P : List Nat} {T : List Int} {σ : CS} {a m : Nat} {s' s : CS} (hx : x ≤ 4000) (hy : y ≤ 90) (hσ : JJ H (x + 100) y c X P (ccI σ :: T) σ) (ht : TUR σ a m) (hs : σ.o a 0 = 218) (h : ECL H x y c X P T σ a m s' s) : ok (f_X7_endSwitch N s a) (fun R => TNQ H (x - 20) y X P T σ R.2 ∧ (R.2.i 32 = 0 → cnI R.2 = (m : Int))) := by
  obtain ⟨nf, hm, ea, nr, m4⟩ := (show TUR σ a m from ht)
  have nb := (hσ.2 nf).2
  have em : (cnI σ).toNat = m + 1 := by omega
  have sg := nb.2.2.2.2.2.2.1
  rw [em] at sg
  have ds := hσ.ds nf
  have n3 := nb.2.1
  -- the row as it stands
  obtain ⟨x2, hx2⟩ : ∃ x2 : Int32, x2 = if σ.o a 11 < 0 then σ.o a 9 else σ.o a 11 := ⟨_, rfl⟩
  obtain ⟨L, hL⟩ : ∃ L : List Int32, L = σ.o a 9 :: σ.o a 10 :: x2 :: ((List.range 320).filter (fun i : Nat => decide ((σ.o a 13).toInt ≤ (i : Int) ∧ (i : Int) < ccI σ))).map (fun i : Nat => s.a 19 i) := ⟨_, rfl⟩
  have e0 : (0 : Int32).toInt = 0 := by decide
  have a19 : s.i 32 = 0 → ∀ i : Nat, (i : Int) < ccI σ → s.a 19 i = σ.a 19 i := fun z i hi => by
    have w := h.2.2 z
    rw [w.2.1.2.1.2.1]
    exact (w.1.2.2.2.2.2.2.1 i hi).2
  have roww : ∀ (u : CS) (DT : Nat → List Nat) (KT : Nat → Prop), u.o = σ.o → u.r 51 m = some a → RCH u DT KT (m + 1) c (ccI σ :: T) → (TTc (tcI u) DT KT (σ.o a 9) c ∧ TTc (tcI u) DT KT (σ.o a 10) c ∧ TTc (tcI u) DT KT x2 c) ∧ (0 ≤ (σ.o a 13).toInt ∧ (σ.o a 13).toInt ≤ ccI σ) ∧ ∀ i : Nat, (σ.o a 13).toInt ≤ (i : Int) → (i : Int) < ccI σ → TTc (tcI u) DT KT (u.a 19 i) c := fun u DT KT uo ur q => by
    obtain ⟨a', c0, L0, q1, -, r, q4⟩ := q
    have ea' : a' = a := Option.some.inj (q1.symm.trans ur)
    rw [ea'] at r
    have so : u.o a 0 = 218 := by rw [uo]; exact hs
    obtain ⟨w1, w2, w3, w4, l, T0, w5, w6, w7, w8⟩ := r.sw so
    rw [w1]
    rw [uo] at w2 w3 w4 w6 w7 w8
    have e := List.cons.inj w5
    rw [← e.1] at w7 w8
    obtain ⟨l2, T2, g1, g2, -⟩ := RCH.ge m c0 L0 q4
    rw [w6] at g1
    have g3 := (List.cons.inj g1).1
    refine ⟨⟨w2, w3, ?_⟩, ⟨by omega, w7⟩, w8⟩
    rw [hx2]
    by_cases z : σ.o a 11 < 0
    · rw [if_pos z]; exact w2
    · rw [if_neg z]
      have := le_int (Int32.not_lt.mp z)
      rw [e0] at this
      exact w4.resolve_left (by omega)
  obtain ⟨D0, DT0, KT0, -, -, -, -, -, ⟨k0, k1, k2, k3⟩, -⟩ := (hσ.2 nf).1
  have ek : k0 = m + 1 := by omega
  rw [ek] at k3
  obtain ⟨⟨f9, f10, f2⟩, f13, f19⟩ := roww σ DT0 KT0 rfl ea k3
  have cS : cnI (shs s) = cnI s := by unfold cnI; rw [shs.i s 53 (by decide)]
  have tS : tcI (shs s) = tcI s := by unfold tcI; rw [shs.i s 21 (by decide)]
  have h1 : JSH H x y c c c (L.map (fun t => (t.toInt.toNat, c)) ++ X) P (ccI σ :: T) s := h.1.exts c L (fun z DT KT qR t hu => by
    have w := h.2.2 z
    have q := roww (shs s) DT KT (h.o z) h.2.1 (qR (m + 1) (by have := w.2.2.2.2.2.2; omega))
    rw [tS] at q
    rw [hL] at hu
    rcases List.mem_cons.mp hu with e | hu
    · rw [e]; exact q.1.1
    rcases List.mem_cons.mp hu with e | hu
    · rw [e]; exact q.1.2.1
    rcases List.mem_cons.mp hu with e | hu
    · rw [e]; exact q.1.2.2
    obtain ⟨i, i1, i2⟩ := List.mem_map.mp hu
    have i3 := of_decide_eq_true (List.mem_filter.mp i1).2
    rw [← i2]
    exact q.2.2 i i3.1 i3.2)
  have hX : ∀ q ∈ X, q ∈ L.map (fun t => (t.toInt.toNat, c)) ++ X := fun q hq => List.mem_append_right _ hq
  have inL : ∀ t ∈ L, (t.toInt.toNat, c) ∈ L.map (fun t => (t.toInt.toNat, c)) ++ X := fun t q => List.mem_append_left _ (List.mem_map.mpr ⟨t, q, rfl⟩)
  have in9 := inL (σ.o a 9) (by rw [hL]; exact List.mem_cons_self ..)
  have in10 := inL (σ.o a 10) (by rw [hL]; exact List.mem_cons_of_mem _ (List.mem_cons_self ..))
  have in2 := inL x2 (by rw [hL]; exact List.mem_cons_of_mem _ (List.mem_cons_of_mem _ (List.mem_cons_self ..)))
  have cc300 : ccI σ ≤ 300 := by
    have a := hσ.1.2.2.1.2.1
    have b := hσ.1.2.2.1.1
    have : plI σ ≤ 900 := by unfold plI; omega
    omega
  have in19 : s.i 32 = 0 → ∀ i : Nat, (σ.o a 13).toInt ≤ (i : Int) → (i : Int) < ccI σ → ∃ k : Nat, (s.a 19 i).toInt = (k : Int) ∧ (k, c) ∈ L.map (fun t => (t.toInt.toNat, c)) ++ X := fun z i i1 i2 => by
    refine ⟨(s.a 19 i).toInt.toNat, ?_, inL _ ?_⟩
    · rw [a19 z i i2]
      have := (f19 i i1 i2).1
      omega
    · rw [hL]
      refine List.mem_cons_of_mem _ (List.mem_cons_of_mem _ (List.mem_cons_of_mem _ (List.mem_map.mpr ⟨i, List.mem_filter.mpr ⟨List.mem_range.mpr (by omega), decide_eq_true ⟨i1, i2⟩⟩, rfl⟩)))
  have ccS : s.i 32 = 0 → ccI s = ccI σ := fun z => by unfold ccI; rw [(h.2.2 z).2.2.2.1]
  have h2 : JSH H x y c c c (L.map (fun t => (t.toInt.toNat, c)) ++ X) P ((σ.o a 13).toInt :: T) s := ⟨h1.1, by
    have nz : (shs s).i 32 = 0 → s.i 32 = 0 := fun q => (shs.i s 32 (by decide)).symm.trans q
    refine h1.2.lims (a := a) (m := m) h.2.1 (fun q => by rw [cS]; exact (h.2.2 (nz q)).2.2.2.2.2.2) (fun q => ?_) (fun q => ⟨?_, ?_⟩) (fun q i i1 i2 => by omega)
    · show s.o a 0 = 218
      rw [h.o (nz q)]; exact hs
    · show (s.o a 13).toInt ≤ _
      rw [h.o (nz q)]; exact Int.le_refl _
    · have : ccI (shs s) = ccI s := by unfold ccI; rw [shs.i s 22 (by decide)]
      rw [this, ccS (nz q)]; exact f13.2⟩
  generalize L.map (fun t => (t.toInt.toNat, c)) ++ X = X1 at *
  have tcb : s.i 32 = 0 → tcI s ≤ 1010 := fun z => by
    have w := h.1.2.2 ((shs.i s 32 (by decide)).trans z)
    have := (w.2.sz h.1.2.1.2.2.1 h.1.2.1.2.2.2.2.2.2.1.1 (by omega) (by omega)).2
    rw [tS] at this
    exact this
  have g9 : (σ.o a 9).toInt = ((σ.o a 9).toInt.toNat : Int) := by have := f9.1; omega
  have g10 : (σ.o a 10).toInt = ((σ.o a 10).toInt.toNat : Int) := by have := f10.1; omega
  have g2 : x2.toInt = (x2.toInt.toNat : Int) := by have := f2.1; omega
  unfold f_X7_endSwitch
  refine ok_chk (h.1.1.1.2.1 m a m4 h.2.1) ?_
  refine ok_bind (q_add N s 30 (s.o a 9)) (fun p ha => ?_)
  have j1 := h2.add (c1 := c) ha (by omega) (by omega) (fun _ => ds.2) (fun z DT KT qX _ => by
    rw [h.o z]
    exact IOK.jmp (by decide) g9 in9 qX)
  have po : p.2.o = s.o := ha.1.2.2.2.1
  have pr : p.2.r 51 m = some a := by rw [ha.1.2.2.2.2.2.2.1]; exact h.2.1
  have p32 := ha.f32.1
  refine ok_chk (j1.1.1.2.1 m a m4 pr) ?_
  refine ok_bind (q_aim N p.2 (p.2.o a 10)) (fun q hq => ?_)
  have j2 : JSH H (x + 1) y c c c X1 P ((σ.o a 13).toInt :: T) q.2 := j1.aim hq (by omega) (by omega) (fun z DT KT qX _ => by
    rw [po, h.o (p32.symm.trans z)]
    have w := TTc.x qX g10 in10
    exact ⟨w.1, w.2.1, w.2.2.1⟩) (fun _ k hk => Or.inl hk)
  have qo : q.2.o = s.o := hq.1.2.2.2.1.trans po
  have qr : q.2.r 51 m = some a := by rw [hq.1.2.2.2.2.2.2.1]; exact pr
  have q32 : q.2.i 32 = s.i 32 := hq.f.1.trans p32
  have qtc : tcI q.2 = tcI s := by unfold tcI; rw [hq.2.1, ha.2.1 21 (by decide)]
  have qcc : ccI q.2 = ccI s := by unfold ccI; rw [hq.2.1, ha.2.1 22 (by decide)]
  have qtl : TLE s q.2 := ha.tle.tr hq.tle
  have sz0 : ∀ u : CS, (∃ z : Int, JSH H z y c c c X1 P ((σ.o a 13).toInt :: T) u) → u.i 32 = 0 → 0 ≤ szI u := fun u ju z => by
    obtain ⟨_, ju⟩ := ju
    have w := (ju.2.2 ((shs.i u 32 (by decide)).trans z)).1.tc0.2
    exact w
  refine ok_chk (j2.1.1.2.1 m a m4 qr) ?_
  have body : ∀ v : Int32, (q.2.i 32 = 0 → v.toInt = (x2.toInt.toNat : Int)) → ok ((f_X0_addCases N q.2 (q.2.o a 13) v).bind fun p13 => f_X7_endSwitch_53 N p13.2 a) (fun R => TNQ H (x - 20) y X P T σ R.2 ∧ (R.2.i 32 = 0 → cnI R.2 = (m : Int))) := fun v hv => by
    refine ok_bind (q_addCasesE hN (by omega) (by omega) ds.2 j2 _ v (fun z => ?_)) (fun r hr => ?_)
    · have z' := q32.symm.trans z
      rw [qo, h.o z', qcc, ccS z', qtl.2.1.2.1]
      exact ⟨⟨f13.1, f13.2, Int.le_refl _⟩, in19 z', x2.toInt.toNat, hv z, in2⟩
    obtain ⟨j3, ad, e22⟩ := hr
    have ro : r.2.o = s.o := ad.1.2.2.2.1.trans qo
    have rr : r.2.r 51 m = some a := by rw [ad.1.2.2.2.2.2.2.1]; exact qr
    have r32 : r.2.i 32 = s.i 32 := (ad.2.1 32 (by decide) (by decide)).trans q32
    unfold f_X7_endSwitch_53
    refine ok_chk (j3.1.1.2.1 m a m4 rr) ?_
    refine ok_bind (q_aim N r.2 (r.2.o a 9)) (fun f hf => ?_)
    have j4 : JSH H (x + 1 + 2) y c c c X1 P ((σ.o a 13).toInt :: T) f.2 := j3.aim hf (by omega) (by omega) (fun z DT KT qX _ => by
      rw [ro, h.o (r32.symm.trans z)]
      have w := TTc.x qX g9 in9
      exact ⟨w.1, w.2.1, w.2.2.1⟩) (fun _ k hk => Or.inl hk)
    have fo : f.2.o = s.o := hf.1.2.2.2.1.trans ro
    have fr : f.2.r 51 m = some a := by rw [hf.1.2.2.2.2.2.2.1]; exact rr
    have f32 : f.2.i 32 = s.i 32 := hf.f.1.trans r32
    have fin : ∀ u : CS, IRR f.2 u → ok (f_X7_endSwitch_99 N u) (fun R => TNQ H (x - 20) y X P T σ R.2 ∧ (R.2.i 32 = 0 → cnI R.2 = (m : Int))) := fun u hu => by
      unfold f_X7_endSwitch_99
      have uo : u.o = s.o := hu.1.2.2.2.1.trans fo
      have u22 : u.i 22 = q.2.o a 13 := (hu.2.1 22 (by unfold IRJ; omega)).trans (by rw [hf.2.1]; exact e22)
      refine ok_imp (q_popE (p := 1) (g := 0) (s' := s') (T := T) (j4.irr hu) ht (by unfold sgn; rw [hs]; rfl) (by rw [hs]; decide) (by rw [hu.1.2.2.2.2.2.2.1]; exact fr) (Or.inr ⟨sg, nb.2.2.2.1.2⟩) (fun z => ?_) (by omega) (by omega)) (fun R hR => ⟨⟨hR.1.1, fun v => ?_⟩, hR.2⟩)
      · have z1 := f32.symm.trans (hu.f.1.symm.trans z)
        have w := h.2.2 z1
        have eo := h.o z1
        have ui : ∀ j : Nat, ¬ IRJ j → j ≠ 20 → j ≠ 22 → u.i j = s.i j := fun j j1 j2 j3 => by rw [hu.2.1 j j1, hf.2.1, ad.2.1 j j2 j3, hq.2.1, ha.2.1 j j2]
        have ecc : ccI u = (σ.o a 13).toInt := by unfold ccI; rw [u22, qo, eo]
        have etc : tcI u = tcI s := by unfold tcI; rw [ui 21 (by unfold IRJ; omega) (by decide) (by decide)]
        have zp := p32.trans z1
        have zr := r32.trans z1
        have tb := tcb z1
        have su := sz0 p.2 ⟨_, j1⟩ zp
        have sr := sz0 r.2 ⟨_, j3⟩ zr
        refine ⟨w.1, ((((w.2.1.tr qtl).tr ad.tle).tr hf.tle).tr hu.tle).t2 m, by rw [uo, eo], fun DT KT c0 lim0 r => ?_, Or.inl ?_, fun k k1 k2 k3 => ?_⟩
        · have so : (shs u).o a 0 = 218 := by show u.o a 0 = 218; rw [uo, eo]; exact hs
          obtain ⟨w1, -, -, -, l, T0, w5, w6, -⟩ := r.sw so
          have w6' : lim0 = (u.o a 13).toInt :: T0 := w6
          rw [ecc, w6', uo, eo, (List.cons.inj w5).2]
          exact ⟨w1.symm, rfl⟩
        · have e : nmI u = nmI s := by unfold nmI; rw [ui 50 (by unfold IRJ; omega) (by decide) (by decide)]
          rw [e, uo]; exact w.2.2.2.2.2.1
        · exfalso
          rw [hu.2.2.1 17 (by decide)] at k2
          have k3' : OWS u a k := k3
          unfold OWS at k3'
          rcases k3' with k4 | k4
          · have k5 := k4.2.2.2.2
            rw [uo, ← ro] at k5
            exact hf.at k5.symm (by omega) sr k2
          · have k5 := k4.2
            rw [uo, ← po] at k5
            refine hf.kp sr ?_ k2
            rw [ad.2.2 17 (by decide) (by decide)]
            exact hq.at k5.symm (by omega) su
      · obtain ⟨⟨c', jc⟩, tn⟩ := hR.1.2 v
        exact ⟨⟨c', (jc.sub hX).w (by omega) (Int.le_refl _)⟩, tn⟩
    have s0 := fun u hu => fin _ (IRR.i (R := u) hu 36 0 (by unfold IRJ; omega) (fun _ => Or.inl rfl))
    have s1 := fun u hu => fin _ (IRR.i (R := u) hu 36 1 (by unfold IRJ; omega) (fun _ => Or.inr rfl))
    have cf := j4.1.1.2.1 m a m4 fr
    refine ok_ite (fun _ => ok_chk cf (ok_ite (fun _ => s1 _ (IRR.rf j4.1)) (fun _ => ?_))) (fun _ => s1 _ (IRR.rf j4.1))
    refine ok_bind (q_gone hN cf 0) (fun g hg => ?_)
    rw [hg]
    exact ok_ite (fun _ => s0 _ (IRR.rf j4.1)) (fun _ => s1 _ (IRR.rf j4.1))
  refine ok_ite (fun c1 => body _ (fun z => ?_)) (fun c1 => body _ (fun z => ?_))
  · have z' := q32.symm.trans z
    rw [qo, h.o z'] at c1 ⊢
    rw [if_pos c1] at hx2
    rw [← hx2]; exact g2
  · have z' := q32.symm.trans z
    rw [qo, h.o z'] at c1 ⊢
    rw [if_neg c1] at hx2
    rw [← hx2]; exact g2
