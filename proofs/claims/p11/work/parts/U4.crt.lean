/-! the class's reading: the whole ends -/
theorem tg_at {s : CS} {t : Int32} (h0 : 0 ≤ t.toInt) (h1 : t.toInt < 1024) : tg s t = s.a 17 t.toInt.toNat := by
  unfold tg gAt
  have ib' : ib t 1024 := ⟨h0, by omega⟩
  rw [if_pos ib']
  have cl := clampI ib'.1
  have ei : t.toNatClampNeg = t.toInt.toNat := by omega
  rw [ei]
/-- the code is whole: all that is aimed at is there -/
theorem wtc_of {c : List Nat} {X : List (Nat × List Nat)} {lim : List Int} {s R : CS} {v : Int32} (g : GW c c X [] lim s) (ha : ADD s R 50 v) (hO : ∀ t : Nat, ¬ OWN s t) (hsz : szI s ≤ 200000) (htc : tcI s ≤ 1020) (hl : c.length ≤ 21) : ∃ D, WTC R D := by
  obtain ⟨D, DT, KT, h1, h2, h3, ⟨h4, h5, h6⟩, -⟩ := g
  obtain ⟨-, b11, b12, b13, b14, b15⟩ := ha
  have e1 : (1 : Int32).toInt = 1 := by decide
  have h4' : 0 ≤ (s.i 20).toInt := h4
  have hsz' : (s.i 20).toInt ≤ 200000 := hsz
  have esz : szI R = szI s + 1 := by
    show (R.i 20).toInt = (s.i 20).toInt + 1
    rw [b12, toInt_add] <;> rw [e1] <;> omega
  have a17 : R.a 17 = s.a 17 := b13 17 (by decide) (by decide)
  have etg : ∀ t : Int32, tg R t = tg s t := fun t => by unfold tg; rw [a17]
  -- a target that may be jumped to
  have vt : ∀ (t : Int32) (d : List Nat), TTc (tcI s) DT KT t d → VT R D t d := fun t d w => by
    obtain ⟨w1, w2, w3, w4⟩ := w
    unfold VT VN
    rw [etg, tg_at w1 (by omega)]
    have tt := h2 t.toInt.toNat (by omega)
    rcases tt with tt | tt
    · rcases h3 t.toInt.toNat (by omega) w4 tt with q | q
      · exact absurd q (List.not_mem_nil)
      · exact absurd q (hO _)
    · exact ⟨tt.1, by omega, Or.inr ⟨by omega, by rw [tt.2.2]; exact w3⟩⟩
  have vk : ∀ (t : Int32) (d : List Nat), KTc (tcI s) DT KT t d → 0 ≤ (tg R t).toInt → VT R D t d := fun t d w w0 => by
    obtain ⟨w1, w2, w3, w4⟩ := w
    rw [etg] at w0
    unfold VT VN
    rw [etg]
    rw [tg_at w1 (by omega)] at w0 ⊢
    have tt := h2 t.toInt.toNat (by omega)
    rcases tt with tt | tt
    · omega
    · exact ⟨tt.1, by omega, Or.inr ⟨by omega, by rw [tt.2.2]; exact w3⟩⟩
  refine ⟨D, by omega, h6, fun p p1 p2 => ?_⟩
  by_cases q : (p : Int) = szI s
  · have q' : (p : Int) = (s.i 20).toInt := q
    have eo : R.a 15 p = 50 := by rw [b14]; exact gPut_at q' p1
    have e5 : (50 : Int32).toInt = 50 := by decide
    have ep : p = (szI s).toNat := by omega
    refine ⟨?_, by rw [ep, h5]; exact hl⟩
    unfold INS
    rw [eo, e5]
    exact ⟨fun z => by omega, fun z => by omega, fun z1 z2 => by omega, fun z1 z2 => by omega, fun z => by omega, fun z => by omega, fun z => by omega, fun z => by omega, fun z => by omega, fun z => by omega, fun z => by omega, fun z => by omega, by omega⟩
  · have q1 : (p : Int) ≠ (s.i 20).toInt := q
    have eo : R.a 15 p = s.a 15 p := by rw [b14]; exact gPut_ne q1
    have ex : R.a 16 p = s.a 16 p := by rw [b15]; exact gPut_ne q1
    obtain ⟨ii, il⟩ := h1 p p1 (by omega)
    refine ⟨?_, il⟩
    have nx : ∀ d : List Nat, D (p + 1) = d → VN R D ((p : Int) + 1) d := fun d e => ⟨by omega, by omega, Or.inr ⟨by omega, by
      have : ((p : Int) + 1).toNat = p + 1 := by omega
      rw [this]; exact e⟩⟩
    unfold INS
    rw [eo, ex]
    obtain ⟨i1, i2, i3, i4, i5, i6, i7, i8, i9, i10, i11, i12, i13⟩ := ii
    refine ⟨fun z => nx _ (i1 z), fun z => vt _ _ (i2 z), fun z1 z2 => ⟨vt _ _ (i3 z1 z2).1, nx _ (i3 z1 z2).2⟩, fun z1 z2 => nx _ (i4 z1 z2), fun z => nx _ (i5 z), fun z => nx _ (i6 z), fun z => ⟨nx _ (i7 z).1, vt _ _ (i7 z).2.1, fun w => vk _ _ (i7 z).2.2 w⟩, fun z => ⟨vt _ _ (i8 z).1, nx _ (i8 z).2⟩, i9, i10, fun z => ?_, i12, i13⟩
    obtain ⟨g, g1, g2, g3⟩ := i11 z
    exact ⟨g, g1, g2, vt _ _ g3⟩
theorem q_endRoot {N : Nat} {H : HB} (hN : 1000 ≤ N) {x y : Int} {c : List Nat} {X : List (Nat × List Nat)} {P : List Nat} {T : List Int} {σ : CS} {a m : Nat} (hx : x ≤ 4000) (hy : y ≤ 90) (h : JJ H x y c X P (ccI σ :: T) σ) (ht : TUR σ a m) (hs : σ.o a 0 = 300) : ok (f_X7_endList N σ a) (fun R => TNQ H x y X P T σ R.2 ∧ (R.2.i 32 = 0 → cnI R.2 = (m : Int) ∧ (m = 0 → P = [] → ∃ D, WTC R.2 D))) := by
  obtain ⟨nf, hm, ea, nr, m4⟩ := (show TUR σ a m from ht)
  unfold f_X7_endList
  refine ok_chk (h.1.1.2.1 m a m4 ea) ?_
  rw [if_pos hs]
  refine ok_bind (q_expect hN h.1 0) (fun p hp => ?_)
  have hp' : JJ H x y c X P (ccI σ :: T) p.2 ∧ (p.2.r = σ.r ∧ p.2.o = σ.o) ∧ (p.2.i 32 = 0 → SX 0 0 0 σ p.2) := by
    rcases hp with hf | ⟨q1, q2⟩
    · exact ⟨JJ.flt h.1 hf, ⟨hf.1.2.2.2.2.2.2.2.1, hf.1.2.2.2.1⟩, fun z => absurd z hf.2.2.2.1⟩
    · have mo := q2.mono h.1.2.2.1
      exact ⟨h.adv q2 (fun _ => by omega), ⟨q2.1.1.2.2.2.2.2.2.2.1, q2.1.1.2.2.2.1⟩, fun z => q2.smr.sx nf (by omega)⟩
  obtain ⟨j1, ⟨pr, po⟩, x1⟩ := hp'
  refine ok_ite (fun c1 => ?_) (fun c1 => absurd j1.1.2.2.2.2.2.2.2.2.1 c1)
  have ir := (IRR.rf j1.1).i 27 (p.2.i 36) (by unfold IRJ; omega) (fun _ => c1)
  have j2 := (j1.k.irr ir).j
  generalize CS.setI p.2 27 (p.2.i 36) = W at *
  refine ok_bind (q_add N W 50 0) (fun q ha => ?_)
  have j3 := j2.add ha (by omega) (by omega) (fun _ DT KT _ _ _ => ⟨fun q => absurd q (by decide), fun q => absurd q (by decide), fun _ q => absurd q (by decide), fun _ q => absurd q (by decide), fun q => absurd q (by decide), fun q => absurd q (by decide), fun q => absurd q (by decide), fun q => absurd q (by decide), fun q => absurd q (by decide), fun q => absurd q (by decide), fun q => absurd q (by decide), fun q => absurd q (by decide), by decide⟩)
  have qr : q.2.r = σ.r := ha.1.2.2.2.2.2.2.1.trans (ir.1.2.2.2.2.2.2.1.trans pr)
  have qo : q.2.o = σ.o := ha.1.2.2.2.1.trans (ir.1.2.2.2.1.trans po)
  have q32 : q.2.i 32 = 0 → W.i 32 = 0 ∧ SX 0 0 0 σ q.2 := fun z => by
    have z1 := ha.f32.1.symm.trans z
    have z2 := ir.f.1.symm.trans z1
    exact ⟨z1, (((x1 z2).tr (ir.sx z2)).tr (ha.sx z1)).w (by omega) (by omega) (by omega)⟩
  refine ok_bind (q_popC N j3.1) (fun R hR => ok_some ?_)
  obtain ⟨r1, r2, r3⟩ := hR
  show TNQ H x y X P T σ R.2 ∧ (R.2.i 32 = 0 → cnI R.2 = (m : Int) ∧ (m = 0 → P = [] → ∃ D, WTC R.2 D))
  have hcn : q.2.i 32 = 0 → cnI q.2 = (m : Int) + 1 := fun z => by
    rw [← hm]; unfold cnI; rw [(q32 z).2.2.2.2.1.2.1]
  refine ⟨⟨r1, fun z => ?_⟩, fun z => ?_⟩
  · have zq := r3.symm.trans z
    have cq := hcn zq
    obtain ⟨eR, cR⟩ := r2 (by omega)
    have sx := (q32 zq).2
    have n9 := (j3.2 zq).2.2.2.2.2.2.2.2.2
    have h56 : (q.2.i 56).toInt < (m : Int) := by
      by_cases w : (q.2.i 56).toInt = (m : Int)
      · exfalso
        have e2 := n9.2.2 a (by omega) (by rw [show (q.2.i 56).toInt.toNat = m by omega, qr]; exact ea)
        rw [qo, hs] at e2
        exact absurd e2 (by decide)
      · have := n9.2.1; omega
    have jr := j3.k.pop (cc := c) (ll := ccI σ :: T) zq r1 cq (by rw [qr]; exact ea) eR (by omega) (fun k k1 k2 k3 => by
      exfalso
      unfold OWS at k3
      rw [qo, hs] at k3
      rcases k3 with k3 | k3
      · exact k3.1 rfl
      · exact absurd k3.1 (by decide)) (fun DT KT c0 lim0 z => z.pl (Or.inr (Or.inl (by rw [qo]; exact hs)))) (fun _ _ => Or.inr rfl) h56 (j3.2 zq).1.lim
    have Ri : ∀ j : Nat, j ≠ 53 → R.2.i j = q.2.i j := fun j k1 => by rw [eR, ci_ne _ _ _ k1]
    have ecc : ccI R.2 = ccI σ := by unfold ccI; rw [Ri 22 (by decide), sx.2.2.2.1.2.2.2]
    rw [ecc]
    refine ⟨⟨c, (JK.j jr).w (by omega) (Int.le_refl _)⟩, sx.mid.pop (by omega) (by omega) hm ea nr ?_ (fun j hj => Ri j (by omega)) (by rw [eR, ca_setI]; exact ⟨rfl, rfl, rfl⟩) (fun i _ => ⟨by rw [eR, cr_setI], fun b _ => ⟨by rw [eR, co_setI], by rw [eR, col_setI]⟩⟩) (by omega)⟩
    unfold sgn
    rw [hs]; rfl
  · have zq := r3.symm.trans z
    have cq := hcn zq
    obtain ⟨eR, cR⟩ := r2 (by omega)
    refine ⟨by omega, fun m0 hP => ?_⟩
    have zW := (q32 zq).1
    obtain ⟨gW, nW⟩ := j2.2 zW
    rw [hP] at gW
    have szb := nW.sz j2.1.2.2.1 j2.1.2.2.2.2.2.2.1.1 (by omega) (by omega)
    obtain ⟨D, w⟩ := wtc_of gW ha (fun t ⟨i, b, i1, i2, i3⟩ => by
      have cW : cnI W = (m : Int) + 1 := by rw [← cq]; unfold cnI; rw [ha.2.1 53 (by decide)]
      have Wr : W.r = σ.r := ir.1.2.2.2.2.2.2.1.trans pr
      have Wo : W.o = σ.o := ir.1.2.2.2.1.trans po
      have ei : i = m := by omega
      rw [ei, Wr, ea] at i2
      have eb := Option.some.inj i2
      unfold OWS at i3
      rw [Wo, ← eb, hs] at i3
      rcases i3 with i3 | i3
      · exact i3.1 rfl
      · exact absurd i3.1 (by decide)) szb.1 (by omega) nW.2.2.2.2.2.2.2.1.2
    refine ⟨D, CEQ.wt (s := q.2) ⟨?_, ?_, ?_, ?_⟩ w⟩
    · rw [eR, ca_setI]
    · rw [eR, ca_setI]
    · rw [eR, ca_setI]
    · rw [eR, ci_ne _ _ _ (by decide)]
