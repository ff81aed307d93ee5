/-! the class's reading: bodies end, whole -/
theorem ROW1.b9 {s : CS} {DT : Nat → List Nat} {KT : Nat → Prop} {a : Nat} {c0 c : List Nat} {lim lim' : List Int} (r : ROW1 s DT KT a c0 c lim lim') (hs : isB1 (s.o a 0)) (h3 : ¬ s.o a 0 = 203) : TTc (tcI s) DT KT (s.o a 9) c := by
  have pl := r.pl (Or.inl hs)
  obtain ⟨r1, r2, r3⟩ := r
  rw [pl.1] at r3
  unfold isB1 at hs
  have no : ∀ w : Int32, s.o a 0 = w → ¬ (w = 203 ∨ w = 204 ∨ w = 205 ∨ w = 206 ∨ w = 207 ∨ w = 303 ∨ w = 304) → TTc (tcI s) DT KT (s.o a 9) c := fun w e n => absurd (by rw [← e]; exact hs) n
  rcases r3 with ⟨z1, z2, e⟩ | ⟨z1, z2, z3, -⟩ | ⟨z1, z2, z3, e⟩ | ⟨z1, z2, z3, e⟩ | ⟨z1, z2, z3, z4, e⟩ | ⟨z1, z2, z3, z4, z5, e⟩ | ⟨z1, z2, z3, -⟩ | ⟨z1, z2, z3, e⟩ | ⟨z1, z2, z3, -⟩ | ⟨z1, z2, z3, -⟩ | ⟨z1, z2, z3, -⟩ | ⟨z1, z2, z3, e⟩
  · rcases z1 with z1 | z1
    · exact no _ z1 (by decide)
    · exact no _ z1 (by decide)
  · exact z3
  · exact absurd z1 h3
  · exact z3
  · exact z3
  · exact z3
  · exact z3
  · exact z3
  · exact no _ z1 (by decide)
  · exact no _ z1 (by decide)
  · exact no _ z1 (by decide)
  · exact z3
theorem ROW1.do11 {s : CS} {DT : Nat → List Nat} {KT : Nat → Prop} {a : Nat} {c0 c : List Nat} {lim lim' : List Int} (r : ROW1 s DT KT a c0 c lim lim') (hs : s.o a 0 = 206) : TTc (tcI s) DT KT (s.o a 11) c ∧ TTc (tcI s) DT KT (s.o a 10) c := by
  have pl := r.pl (Or.inl (Or.inr (Or.inr (Or.inr (Or.inl hs)))))
  have t10 := r.e10 (Or.inr (Or.inl hs))
  rw [pl.1] at t10
  obtain ⟨r1, r2, r3⟩ := r
  rw [pl.1] at r3
  refine ⟨?_, t10⟩
  have no : ∀ w : Int32, s.o a 0 = w → ¬ w = 206 → TTc (tcI s) DT KT (s.o a 11) c := fun w e n => absurd (e.symm.trans hs) n
  rcases r3 with ⟨z1, z2, e⟩ | ⟨z1, z2, z3, -⟩ | ⟨z1, z2, z3, e⟩ | ⟨z1, z2, z3, e⟩ | ⟨z1, z2, z3, z4, e⟩ | ⟨z1, z2, z3, z4, z5, e⟩ | ⟨z1, z2, z3, -⟩ | ⟨z1, z2, z3, e⟩ | ⟨z1, z2, z3, -⟩ | ⟨z1, z2, z3, -⟩ | ⟨z1, z2, z3, -⟩ | ⟨z1, z2, z3, e⟩
  · rcases z1 with z1 | z1
    · exact no _ z1 (by decide)
    · exact no _ z1 (by decide)
  · exact no _ z1 (by decide)
  · exact no _ z1 (by decide)
  · rcases z1 with z1 | z1
    · exact no _ z1 (by decide)
    · exact no _ z1 (by decide)
  · rcases z1 with z1 | z1 | z1
    · exact no _ z1 (by decide)
    · exact no _ z1 (by decide)
    · exact no _ z1 (by decide)
  · exact z5
  · exact no _ z1 (by decide)
  · exact no _ z1 (by decide)
  · exact no _ z1 (by decide)
  · exact no _ z1 (by decide)
  · exact no _ z1 (by decide)
  · exact no _ z1 (by decide)
/-- where a body's end stands: all that the row owns is aimed -/
def EBS (H : HB) (x y : Int) (c : List Nat) (X : List (Nat × List Nat)) (P : List Nat) (T : List Int) (σ : CS) (a m : Nat) (s : CS) : Prop := JJ H x y c X P (ccI σ :: T) s ∧ s.r 51 m = some a ∧ (s.i 32 = 0 → MDL 0 0 0 σ s ∧ s.i 22 = σ.i 22 ∧ s.o a 0 = σ.o a 0 ∧ ∀ k : Nat, (k : Int) < tcI s → (s.a 17 k).toInt = -1 → OWS s a k → k ∈ P)
theorem EBS.irr {H : HB} {x y : Int} {c : List Nat} {X : List (Nat × List Nat)} {P : List Nat} {T : List Int} {σ s R : CS} {a m : Nat} (h : EBS H x y c X P T σ a m s) (hi : IRR s R) : EBS H x y c X P T σ a m R := by
  obtain ⟨h1, h2, h3⟩ := h
  refine ⟨h1.irr hi, by rw [hi.1.2.2.2.2.2.2.1]; exact h2, fun z => ?_⟩
  have z1 := hi.f.1.symm.trans z
  obtain ⟨w1, w2, w3, w4⟩ := h3 z1
  have etc : tcI R = tcI s := by unfold tcI; rw [hi.2.1 21 (by unfold IRJ; omega)]
  refine ⟨(w1.tr (hi.sx z1).mid).w (by omega) (by omega) (by omega), (hi.2.1 22 (by unfold IRJ; omega)).trans w2, by rw [hi.1.2.2.2.1]; exact w3, fun k k1 k2 k3 => w4 k (by omega) (by rw [← hi.2.2.1 17 (by decide)]; exact k2) (by unfold OWS at *; rw [hi.1.2.2.2.1] at k3; exact k3)⟩
theorem EBS.end {N : Nat} {H : HB} {E1 : CS → Option (Unit × CS)} {E2 : CS → Option (Int32 × CS)} {x y : Int} {c : List Nat} {X : List (Nat × List Nat)} {P : List Nat} {T : List Int} {σ s : CS} {a m : Nat} (h : EBS H x y c X P T σ a m s) (ht : TUR σ a m) (hs : isB1 (σ.o a 0)) (v : Int32) (hv : bo v) : ok (f_X7_endBody_193 N E1 E2 (CS.setI s 36 v) a) (fun R => TNQ H (x - 50) y X P T σ R.2 ∧ (R.2.i 32 = 0 → cnI R.2 = (m : Int))) := by
  obtain ⟨h1, h2, h3⟩ := h.irr ((IRR.rf h.1.1).i 36 v (by unfold IRJ; omega) (fun _ => hv))
  exact q_eb193 (p := 0) (g := 0) h1 h2 ht.2.2.2.2 ⟨ht.2.1, ht.2.2.1, ht.2.2.2.1, hs⟩ (fun z => ⟨(h3 z).1, (h3 z).2.1, (h3 z).2.2.1⟩) (by omega) (by omega) (fun z => (h3 z).2.2.2)
/-- the row's exit is aimed -/
theorem EBS.aim9 {H : HB} {x y : Int} {c : List Nat} {X : List (Nat × List Nat)} {P : List Nat} {T : List Int} {σ s R : CS} {a m : Nat} (hx : x ≤ 5000) (hy : y ≤ 95) (h : JJ H x y c X P (ccI σ :: T) s) (ht : TUR σ a m) (hs : isB1 (σ.o a 0)) (h3 : ¬ σ.o a 0 = 203) (hr : s.r 51 m = some a) (hm : s.i 32 = 0 → MDL 0 0 0 σ s ∧ s.i 22 = σ.i 22 ∧ s.o a 0 = σ.o a 0) (h10 : s.i 32 = 0 → σ.o a 0 = 206 → ∀ k : Nat, (k : Int) = (s.o a 10).toInt → (k : Int) < tcI s → 0 ≤ (s.a 17 k).toInt) (ha : AIM s R (s.o a 9)) : EBS H x y c X P T σ a m R := by
  have sort : s.i 32 = 0 → isB1 (s.o a 0) ∧ ¬ s.o a 0 = 203 := fun z => by rw [(hm z).2.2]; exact ⟨hs, h3⟩
  have cn : s.i 32 = 0 → cnI s = (m : Int) + 1 := fun z => by rw [← ht.2.1]; unfold cnI; rw [(hm z).1.2.2.2.1.1]
  refine ⟨JK.j (h.k.aim ha (by omega) (by omega) (fun z DT KT _ qR => ?_) (fun _ k hk => Or.inl hk)), by rw [ha.1.2.2.2.2.2.2.1]; exact hr, fun z => ?_⟩
  · obtain ⟨c0, L0, r⟩ := (qR (m + 1) (by have := cn z; omega)).top hr
    have w := r.b9 (sort z).1 (sort z).2
    exact ⟨w.1, w.2.1, w.2.2.1⟩
  · have z1 := ha.f.1.symm.trans z
    obtain ⟨w1, w2, w3⟩ := hm z1
    have sz := (h.2 z1).2.sz h.1.2.2.1 h.1.2.2.2.2.2.2.1.1 (by omega) (by omega)
    have s0 := (h.2 z1).1.tc0.2
    have etc : tcI R = tcI s := by unfold tcI; rw [ha.2.1]
    refine ⟨(w1.tr (ha.sx z1).mid).w (by omega) (by omega) (by omega), by rw [ha.2.1]; exact w2, by rw [ha.1.2.2.2.1]; exact w3, fun k k1 k2 k3 => ?_⟩
    exfalso
    unfold OWS at k3
    rw [ha.1.2.2.2.1] at k3
    rcases k3 with k3 | k3
    · exact ha.at k3.2.2.2.2.symm (by omega) s0 k2
    · by_cases e9 : (k : Int) = (s.o a 9).toInt
      · exact ha.at e9 (by omega) s0 k2
      · have e17 : R.a 17 k = s.a 17 k := by rw [ha.2.2.2]; exact gPut_ne e9
        rw [e17] at k2
        have so := (sort z1)
        rcases k3.1 with e | e | e | e | e
        · exact so.2 e
        · have := h10 z1 (by rw [← w3]; exact e) k k3.2.symm (by omega)
          omega
        · have := so.1; rw [e] at this; exact absurd this (by unfold isB1; decide)
        · have := so.1; rw [e] at this; exact absurd this (by unfold isB1; decide)
        · have := so.1; rw [e] at this; exact absurd this (by unfold isB1; decide)
theorem q_do25 {N : Nat} {H : HB} (hN : 10000000000 ≤ N) {k : Int} {E1 : CS → Option (Unit × CS)} {E2 : CS → Option (Int32 × CS)} (hE2 : ∀ b, EC2 (H.1, b) k E2) {x y : Int} {c : List Nat} {X : List (Nat × List Nat)} {P : List Nat} {T : List Int} {σ : CS} {a m : Nat} (hx : x ≤ 4000) (hy : y + 3 * k ≤ 87 ∧ 0 ≤ k) (h : JJ H x y c X P (ccI σ :: T) σ) (ht : TUR σ a m) (hs : σ.o a 0 = 206) (hk : 24 - sgI σ ≤ k) (x2 : Int32) : ok (f_X7_endDo_25 N E1 E2 σ a x2) (fun R => EBS H (x - 300) y c X P T σ a m R.2) := by
  have hN1 : 1000 ≤ N := by omega
  obtain ⟨nf, hm, ea, nr, m4⟩ := (show TUR σ a m from ht)
  have b1 : isB1 (σ.o a 0) := Or.inr (Or.inr (Or.inr (Or.inl hs)))
  unfold f_X7_endDo_25
  refine ok_bind (q_expect hN1 h.1 205) (fun p hp => ?_)
  have hp' : JJ H (x - 100) y c X P (ccI σ :: T) p.2 ∧ (p.2.r = σ.r ∧ p.2.o = σ.o) ∧ (p.2.i 32 = 0 → SX 1 0 0 σ p.2) := by
    rcases hp with hf | ⟨q1, q2⟩
    · exact ⟨JJ.flt h.1 hf, ⟨hf.1.2.2.2.2.2.2.2.1, hf.1.2.2.2.1⟩, fun q => absurd q hf.2.2.2.1⟩
    · obtain ⟨j, e⟩ := h.tk q2 (fun _ => by rw [q1]; decide)
      exact ⟨j, ⟨q2.1.1.2.2.2.2.2.2.2.1, q2.1.1.2.2.2.1⟩, fun q => (e q).sx⟩
  obtain ⟨jp, ⟨pr, po⟩, xp⟩ := hp'
  generalize p.2 = u at *
  have ur : u.r 51 m = some a := by rw [pr]; exact ea
  refine ok_chk (jp.1.1.2.1 m a m4 ur) ?_
  have t206 : ∀ (s : CS), s.o = σ.o → s.r 51 m = some a → ∀ (DT : Nat → List Nat) (KT : Nat → Prop), cnI s = (m : Int) + 1 → (∀ n : Nat, (n : Int) = cnI s → RCH s DT KT n c (ccI σ :: T)) → TTc (tcI s) DT KT (s.o a 11) c ∧ TTc (tcI s) DT KT (s.o a 10) c := fun s e1 e2 DT KT e3 qR => by
    obtain ⟨c0, L0, r⟩ := (qR (m + 1) (by omega)).top e2
    exact r.do11 (by rw [e1]; exact hs)
  have ucn : u.i 32 = 0 → cnI u = (m : Int) + 1 := fun z => by rw [← hm]; unfold cnI; rw [(xp z).2.2.2.1.2.1]
  refine ok_bind (q_aim N u (u.o a 10)) (fun q hq => ?_)
  have jq : JJ H (x - 100) y c X P (ccI σ :: T) q.2 := JK.j (jp.k.aim hq (by omega) (by omega) (fun z DT KT _ qR => by
    have w := (t206 u po ur DT KT (ucn z) qR).2
    exact ⟨w.1, w.2.1, w.2.2.1⟩) (fun _ k hk => Or.inl hk))
  have qr : q.2.r 51 m = some a := by rw [hq.1.2.2.2.2.2.2.1]; exact ur
  have qo : q.2.o = σ.o := hq.1.2.2.2.1.trans po
  have xq : q.2.i 32 = 0 → SX 1 0 0 σ q.2 := fun z => ((xp (hq.f.1.symm.trans z)).tr (hq.sx (hq.f.1.symm.trans z))).w (by omega) (by omega) (by omega)
  have aq : q.2.i 32 = 0 → ∀ k : Nat, (k : Int) = (σ.o a 10).toInt → (k : Int) < tcI q.2 → 0 ≤ (q.2.a 17 k).toInt := fun z k k1 k2 => by
    have z1 := hq.f.1.symm.trans z
    have s0 : 0 ≤ (u.i 20).toInt := (jp.2 z1).1.tc0.2
    have sz := ((jp.2 z1).2.sz jp.1.2.2.1 jp.1.2.2.2.2.2.2.1.1 (by omega) (by omega)).2
    have etc : tcI q.2 = tcI u := by unfold tcI; rw [hq.2.1]
    rw [hq.2.2.2, gPut_at (by rw [po]; exact k1) (by omega)]
    exact s0
  refine ok_bind (q_cin (E1 := E1) hN1 (hE2 (rbB q.2)) (by omega) (by omega) jq.rb (fun z => by have := (xq z).2.2.1; omega)) (fun r hr => ?_)
  obtain ⟨⟨jr', er⟩, br⟩ := hr
  have st := jr'.1.st (s := q.2) m4 qr
  have jr := jr'.bk jq.1 (fun z => (er z).1)
  have xr : r.2.i 32 = 0 → SX 1 0 0 σ r.2 := fun z => ((xq (er z).1).tr (er z).sx).w (by omega) (by omega) (by omega)
  have ro : r.2.i 32 = 0 → r.2.o a = σ.o a := fun z => ((xr z).2.2.2.2.2.1 m (by omega)).2 a ea |>.1
  have ar : r.2.i 32 = 0 → ∀ k : Nat, (k : Int) = (σ.o a 10).toInt → 0 ≤ (k : Int) → (k : Int) < tcI q.2 → (k : Int) < tcI r.2 ∧ 0 ≤ (r.2.a 17 k).toInt := fun z k k1 _ k2 => jr'.1.2.1.2.2 z k ⟨(er z).1, k2, aq (er z).1 k k1 k2⟩
  have tq : q.2.i 32 = 0 → 0 ≤ (σ.o a 10).toInt ∧ (σ.o a 10).toInt < tcI q.2 := fun z => by
    obtain ⟨D, DT, KT, -, -, -, -, -, ⟨k, k1, k2, k3⟩, -⟩ := (jq.2 z).1
    have qcn : cnI q.2 = (m : Int) + 1 := by rw [← hm]; unfold cnI; rw [(xq z).2.2.2.1.2.1]
    have ek : k = m + 1 := by omega
    rw [ek] at k3
    obtain ⟨c0, L0, w⟩ := k3.top qr
    have w2 := (w.do11 (by rw [qo]; exact hs)).2
    rw [qo] at w2
    exact ⟨w2.1, w2.2.1⟩
  refine ok_bind (q_expect hN1 jr.1 59) (fun b hb => ?_)
  have hb' : JJ H (x - 100 - 250 - 100) y c X P (ccI σ :: T) b.2 ∧ (b.2.r = r.2.r ∧ b.2.o = r.2.o ∧ b.2.a = r.2.a ∧ b.2.i 21 = r.2.i 21) ∧ (b.2.i 32 = 0 → r.2.i 32 = 0 ∧ SX 1 0 0 σ b.2) := by
    rcases hb with hf | ⟨q1, q2⟩
    · exact ⟨JJ.flt jr.1 hf, ⟨hf.1.2.2.2.2.2.2.2.1, hf.1.2.2.2.1, hf.1.2.2.2.2.2.2.2.2.2.2.1, hf.2.1 21 (by decide) (by decide) (by decide) (by decide)⟩, fun q => absurd q hf.2.2.2.1⟩
    · obtain ⟨j, e⟩ := jr.tk q2 (fun _ => by rw [q1]; decide)
      exact ⟨j, ⟨q2.1.1.2.2.2.2.2.2.2.1, q2.1.1.2.2.2.1, q2.1.1.2.2.2.2.2.2.2.2.2.2, q2.1.2 21 (by decide) (by decide) (by decide) (by decide)⟩, fun q => ⟨(e q).1, ((xr (e q).1).tr (e q).sx).w (by omega) (by omega) (by omega)⟩⟩
  obtain ⟨jb, ⟨brr, bo', ba, b21⟩, xb⟩ := hb'
  generalize b.2 = B at *
  have Br : B.r 51 m = some a := by rw [brr]; exact st.1
  have Bo : B.i 32 = 0 → B.o a = σ.o a := fun z => by rw [bo']; exact ro (xb z).1
  have Bc : B.i 32 = 0 → cnI B = (m : Int) + 1 := fun z => by rw [← hm]; unfold cnI; rw [(xb z).2.2.2.2.1.2.1]
  have Ba : B.i 32 = 0 → ∀ k : Nat, (k : Int) = (σ.o a 10).toInt → 0 ≤ (B.a 17 k).toInt := fun z k k1 => by
    have z1 := (xb z).1
    have w := tq (er z1).1
    rw [ba]
    exact (ar z1 k k1 (by omega) (by omega)).2
  clear ar aq
  refine ok_chk (jb.1.1.2.1 m a m4 Br) ?_
  refine ok_bind (q_add N B 31 (B.o a 9)) (fun d hd => ?_)
  have jd := jb.add hd (by omega) (by omega) (fun z DT KT _ qR _ => by
    obtain ⟨c0, L0, w⟩ := (qR (m + 1) (by have := Bc z; omega)).top Br
    have e0 : B.o a 0 = 206 := by rw [Bo z]; exact hs
    have tt := w.b9 (by rw [e0]; unfold isB1; decide) (by rw [e0]; decide)
    exact ⟨fun q => absurd q (by decide), fun q => absurd q (by decide), fun _ _ => ⟨tt, rfl⟩, fun q => absurd q (by decide), fun q => absurd q (by decide), fun q => absurd q (by decide), fun q => absurd q (by decide), fun q => absurd q (by decide), fun q => absurd q (by decide), fun q => absurd q (by decide), fun q => absurd q (by decide), fun q => absurd q (by decide), by decide⟩)
  have dr : d.2.r 51 m = some a := by rw [hd.1.2.2.2.2.2.2.1]; exact Br
  have dO : d.2.o = B.o := hd.1.2.2.2.1
  have d32 := hd.f32.1
  have dc : d.2.i 32 = 0 → cnI d.2 = (m : Int) + 1 := fun z => by rw [← Bc (d32.symm.trans z)]; unfold cnI; rw [hd.2.1 53 (by decide)]
  refine ok_chk (jd.1.1.2.1 m a m4 dr) ?_
  refine ok_bind (q_add N d.2 30 (d.2.o a 11)) (fun f hf => ?_)
  have jf := jd.add hf (by omega) (by omega) (fun z DT KT _ qR _ => by
    obtain ⟨c0, L0, w⟩ := (qR (m + 1) (by have := dc z; omega)).top dr
    have e0 : d.2.o a 0 = 206 := by rw [dO, Bo (d32.symm.trans z)]; exact hs
    have tt := (w.do11 e0).1
    exact ⟨fun q => absurd q (by decide), fun _ => tt, fun q => absurd q (by decide), fun q => absurd q (by decide), fun q => absurd q (by decide), fun q => absurd q (by decide), fun q => absurd q (by decide), fun q => absurd q (by decide), fun q => absurd q (by decide), fun q => absurd q (by decide), fun q => absurd q (by decide), fun q => absurd q (by decide), by decide⟩)
  have fr : f.2.r 51 m = some a := by rw [hf.1.2.2.2.2.2.2.1]; exact dr
  have f32 := hf.f32.1
  have fO : f.2.o = B.o := hf.1.2.2.2.1.trans dO
  refine ok_chk (jf.1.1.2.1 m a m4 fr) ?_
  refine ok_bind (q_aim N f.2 (f.2.o a 9)) (fun e he => ?_)
  have eb : EBS H (x - 300) y c X P T σ a m e.2 := by
    refine EBS.aim9 (s := f.2) (by omega) (by omega) (jf.w (by omega) (Int.le_refl _)) ht b1 (by rw [hs]; decide) fr (fun z => ?_) (fun z _ k k1 k2 => ?_) he
    · have z1 := f32.symm.trans z
      have z2 := d32.symm.trans z1
      have sB := (xb z2).2
      have sf : SX 1 0 0 σ f.2 := ((sB.tr (hd.sx z2)).tr (hf.sx z1)).w (by omega) (by omega) (by omega)
      exact ⟨sf.mid.w (by omega) (by omega) (by omega), sf.2.2.2.1.2.2.2, by rw [fO, Bo z2]⟩
    · have z1 := f32.symm.trans z
      have z2 := d32.symm.trans z1
      rw [hf.2.2.2.1 17 (by decide) (by decide), hd.2.2.2.1 17 (by decide) (by decide)]
      exact Ba z2 k (by rw [k1, fO, Bo z2])
  have ok5 := eb.1.1.1.2.1 m a m4 eb.2.1
  have fin : ∀ (u : CS) (v : Int32), u = e.2 → bo v → ok (some ((), CS.setI u 36 v)) (fun R => EBS H (x - 300) y c X P T σ a m R.2) := fun u v eu hv => by
    rw [eu]
    exact ok_some (eb.irr ((IRR.rf eb.1.1).i 36 v (by unfold IRJ; omega) (fun _ => hv)))
  refine ok_ite (fun _ => ?_) (fun _ => ok_ite (fun _ => fin e.2 1 rfl (Or.inr rfl)) (fun _ => ?_))
  · exact ok_bind (q_gone hN ok5 0) (fun w hw => ok_ite (fun _ => fin w.2 0 hw (Or.inl rfl)) (fun _ => fin w.2 1 hw (Or.inr rfl)))
  · exact ok_bind (q_gone hN ok5 0) (fun w hw => ok_ite (fun _ => fin w.2 0 hw (Or.inl rfl)) (fun _ => fin w.2 1 hw (Or.inr rfl)))
theorem q_endDo {N : Nat} {H : HB} (hN : 10000000000 ≤ N) {k : Int} {E1 : CS → Option (Unit × CS)} {E2 : CS → Option (Int32 × CS)} (hE2 : ∀ b, EC2 (H.1, b) k E2) {x y : Int} {c : List Nat} {X : List (Nat × List Nat)} {P : List Nat} {T : List Int} {σ : CS} {a m : Nat} (hx : x ≤ 4000) (hy : y + 3 * k ≤ 87 ∧ 0 ≤ k) (h : JJ H x y c X P (ccI σ :: T) σ) (ht : TUR σ a m) (hs : σ.o a 0 = 206) (hk : 24 - sgI σ ≤ k) : ok (f_X7_endDo N E1 E2 σ a) (fun R => EBS H (x - 300) y c X P T σ a m R.2) := by
  unfold f_X7_endDo f_X7_endDo_19
  have ok5 := h.1.1.2.1 m a ht.2.2.2.2 ht.2.2.1
  refine ok_ite (fun _ => ?_) (fun _ => q_do25 hN hE2 hx (by omega) h ht hs hk 1)
  refine ok_bind (q_gone hN ok5 1) (fun w hw => ?_)
  rw [hw]
  exact ok_ite (fun _ => q_do25 hN hE2 hx (by omega) h ht hs hk 0) (fun _ => q_do25 hN hE2 hx (by omega) h ht hs hk 1)
theorem TNQ.w {H : HB} {x y x' y' : Int} {X : List (Nat × List Nat)} {P : List Nat} {T : List Int} {s R : CS} (h : TNQ H x y X P T s R) (hx : x ≤ x') (hy : y ≤ y') : TNQ H x' y' X P T s R := ⟨h.1, fun q => by
  obtain ⟨⟨c', w⟩, w2⟩ := h.2 q
  exact ⟨⟨c', w.w hx hy⟩, w2⟩⟩
theorem q_endBody {N : Nat} {H : HB} (hN : 10000000000 ≤ N) {k : Int} {E1 : CS → Option (Unit × CS)} {E2 : CS → Option (Int32 × CS)} (hE2 : ∀ b, EC2 (H.1, b) k E2) {x y : Int} {c : List Nat} {X : List (Nat × List Nat)} {P : List Nat} {T : List Int} {σ : CS} {a m : Nat} (hx : x ≤ 4000) (hy : y + 3 * k ≤ 87 ∧ 0 ≤ k) (h : JJ H x y c X P (ccI σ :: T) σ) (ht : TUR σ a m) (hb : isB1 (σ.o a 0)) (hk : 24 - sgI σ ≤ k) : ok (f_X7_endBody N E1 E2 σ a) (fun R => TNQ H x y X P T σ R.2 ∧ (R.2.i 32 = 0 → cnI R.2 = (m : Int) ∨ R.2.o a 0 = 204)) := by
  obtain ⟨nf, hm, ea, nr, m4⟩ := (show TUR σ a m from ht)
  have hN1 : 1000 ≤ N := by omega
  have ok5 := h.1.1.2.1 m a m4 ea
  unfold f_X7_endBody f_X7_endBody_88 f_X7_endBody_130
  have self : MDL 0 0 0 σ σ := (SX.rf nf).mid
  have aim0 : ¬ σ.o a 0 = 203 → ¬ σ.o a 0 = 206 → ∀ R : CS, AIM σ R (σ.o a 9) → EBS H x y c X P T σ a m R := fun n3 n6 R hR => EBS.aim9 (by omega) (by omega) h ht hb n3 ea (fun _ => ⟨self, rfl, rfl⟩) (fun _ e => absurd e n6) hR
  have fin : ∀ (s : CS) (v : Int32), EBS H (x + 1) y c X P T σ a m s → bo v → ok (f_X7_endBody_193 N E1 E2 (CS.setI s 36 v) a) (fun R => TNQ H x y X P T σ R.2 ∧ (R.2.i 32 = 0 → cnI R.2 = (m : Int) ∨ R.2.o a 0 = 204)) := fun s v hs hv => ok_imp (hs.end ht hb v hv) (fun R hR => ⟨hR.1.w (by omega) (Int.le_refl _), fun z => Or.inl (hR.2 z)⟩)
  refine ok_chk ok5 (ok_ite (fun e => ok_bind (q_endIf hN1 hx (by omega) h ht e) (fun p hp => ok_some hp)) (fun e3 => ok_ite (fun e => ?_) (fun e4 => ok_ite (fun e => ?_) (fun e6 => ok_ite (fun e => ?_) (fun e303 => ?_)))))
  · refine ok_bind (q_aim N σ _) (fun p hp => ?_)
    have eb := aim0 e3 (by rw [e]; decide) p.2 hp
    have eb1 : EBS H (x + 1) y c X P T σ a m p.2 := ⟨eb.1.w (by omega) (Int.le_refl _), eb.2⟩
    refine ok_ite (fun _ => ok_chk (eb.1.1.1.2.1 m a m4 eb.2.1) (ok_ite (fun _ => fin p.2 0 eb1 (Or.inl rfl)) (fun _ => fin p.2 1 eb1 (Or.inr rfl)))) (fun _ => fin p.2 1 eb1 (Or.inr rfl))
  · refine ok_bind (q_endDo hN hE2 hx (by omega) h ht e hk) (fun p hp => ?_)
    obtain ⟨h1, h2, h3⟩ := hp
    exact ok_imp (q_eb193 (p := 0) (g := 0) h1 h2 m4 ⟨hm, ea, nr, hb⟩ (fun z => ⟨(h3 z).1, (h3 z).2.1, (h3 z).2.2.1⟩) (by omega) (by omega) (fun z => (h3 z).2.2.2)) (fun R hR => ⟨hR.1.w (by omega) (Int.le_refl _), fun z => Or.inl (hR.2 z)⟩)
  · refine ok_bind (q_aim N σ _) (fun p hp => ?_)
    have eb := aim0 e3 e6 p.2 hp
    have eb1 : EBS H (x + 1) y c X P T σ a m p.2 := ⟨eb.1.w (by omega) (Int.le_refl _), eb.2⟩
    refine ok_ite (fun _ => ok_bind (q_gone hN (eb.1.1.1.2.1 m a m4 eb.2.1) 0) (fun w hw => ?_)) (fun _ => fin p.2 1 eb1 (Or.inr rfl))
    rw [hw]
    exact ok_ite (fun _ => fin p.2 0 eb1 (Or.inl rfl)) (fun _ => fin p.2 1 eb1 (Or.inr rfl))
  · have lp : isLp (σ.o a 0) := by
      unfold isB1 at hb
      rcases hb with w | w | w | w | w | w | w
      · exact absurd w e3
      · exact absurd w e4
      · exact Or.inl w
      · exact absurd w e6
      · exact Or.inr (Or.inr (Or.inl w))
      · exact absurd w e303
      · exact Or.inr (Or.inr (Or.inr w))
    refine ok_bind (q_add N σ 30 (σ.o a 10)) (fun d hd => ?_)
    have jd := h.add hd (by omega) (by omega) (fun z DT KT _ qR _ => by
      obtain ⟨c0, L0, w⟩ := (qR (m + 1) (by omega)).top ea
      have tt := w.e10 lp
      rw [(w.pl (Or.inl hb)).1] at tt
      exact ⟨fun q => absurd q (by decide), fun _ => tt, fun q => absurd q (by decide), fun q => absurd q (by decide), fun q => absurd q (by decide), fun q => absurd q (by decide), fun q => absurd q (by decide), fun q => absurd q (by decide), fun q => absurd q (by decide), fun q => absurd q (by decide), fun q => absurd q (by decide), fun q => absurd q (by decide), by decide⟩)
    have dr : d.2.r 51 m = some a := by rw [hd.1.2.2.2.2.2.2.1]; exact ea
    have dO : d.2.o = σ.o := hd.1.2.2.2.1
    refine ok_chk (jd.1.1.2.1 m a m4 dr) ?_
    refine ok_bind (q_aim N d.2 _) (fun f hf => ?_)
    have eb : EBS H (x + 1) y c X P T σ a m f.2 := EBS.aim9 (by omega) (by omega) jd ht hb e3 dr (fun z => ⟨(hd.sx nf).mid, (hd.sx nf).2.2.2.1.2.2.2, by rw [dO]⟩) (fun _ e => absurd e e6) hf
    refine ok_chk (eb.1.1.1.2.1 m a m4 eb.2.1) (ok_ite (fun _ => fin f.2 1 eb (Or.inr rfl)) (fun _ => ok_bind (q_gone hN (eb.1.1.1.2.1 m a m4 eb.2.1) 0) (fun w hw => ?_)))
    rw [hw]
    exact ok_ite (fun _ => fin f.2 0 eb (Or.inl rfl)) (fun _ => fin f.2 1 eb (Or.inr rfl))
