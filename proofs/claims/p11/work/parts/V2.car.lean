/-! the class's reading: an arm, whole -/
/-- what an arm's turns leave -/
def ARQ (s R : CS) : Prop := (plI s + 1 ≤ plI R ∧ eI s ≤ eI R) ∧ (R.i 34 = s.i 34 ∧ R.i 38 = s.i 38 ∧ R.i 50 = s.i 50 ∧ R.i 53 = s.i 53 ∧ R.i 22 = s.i 22) ∧ RSQ s R (cnI s).toNat ∧ (∀ n : Nat, (n : Int) < nmI s → R.a 49 n = s.a 49 n) ∧ (∀ i : Nat, (i : Int) < ccI s → R.a 18 i = s.a 18 i ∧ R.a 19 i = s.a 19 i)
theorem ARQ.ex {s R : CS} (h : ARQ s R) (nf : s.i 32 = 0) : EXR s (CS.setI (CS.setI R 56 (s.i 56)) 36 (s.i 36)) := by
  obtain ⟨⟨h1, h2⟩, ⟨i34, i38, i50, i53, i22⟩, rq, nm, cs⟩ := h
  have yi : ∀ j : Nat, j ≠ 36 → j ≠ 56 → (CS.setI (CS.setI R 56 (s.i 56)) 36 (s.i 36)).i j = R.i j := fun j q1 q2 => (ci_ne _ _ _ q1).trans (ci_ne _ _ _ q2)
  have y36 : (CS.setI (CS.setI R 56 (s.i 56)) 36 (s.i 36)).i 36 = s.i 36 := ci_at _ _ _
  have y56 : (CS.setI (CS.setI R 56 (s.i 56)) 36 (s.i 36)).i 56 = s.i 56 := (ci_ne _ _ _ (by decide)).trans (ci_at _ _ _)
  have ya : (CS.setI (CS.setI R 56 (s.i 56)) 36 (s.i 36)).a = R.a := rfl
  have yr : (CS.setI (CS.setI R 56 (s.i 56)) 36 (s.i 36)).r = R.r := rfl
  have yo : (CS.setI (CS.setI R 56 (s.i 56)) 36 (s.i 36)).o = R.o := rfl
  have yl : (CS.setI (CS.setI R 56 (s.i 56)) 36 (s.i 36)).ol = R.ol := rfl
  generalize CS.setI (CS.setI R 56 (s.i 56)) 36 (s.i 36) = Y at *
  have epl : plI Y = plI R := by unfold plI; rw [yi 44 (by decide) (by decide)]
  have ee : eI Y = eI R := by unfold eI; rw [epl, yi 43 (by decide) (by decide)]
  refine ⟨nf, ⟨by omega, by omega⟩, ⟨(yi 34 (by decide) (by decide)).trans i34, (yi 38 (by decide) (by decide)).trans i38, (yi 50 (by decide) (by decide)).trans i50, (yi 53 (by decide) (by decide)).trans i53, y56, (yi 22 (by decide) (by decide)).trans i22, y36⟩, ?_, by rw [ya]; exact nm, by rw [ya]; exact cs⟩
  exact rq.tr (fun i _ => ⟨by rw [yr], fun b _ => ⟨by rw [yo], by rw [yl]⟩⟩)
/-- the end of an arm's turns -/
theorem q_armEnd {N : Nat} {H : HB} (hN : 1000 ≤ N) {x y : Int} {c c' : List Nat} {X : List (Nat × List Nat)} {P : List Nat} {lim : List Int} {s B σ : CS} {a m : Nat} {H0 : HB} {x0 : Int} (h0 : JJ H0 x0 y c X P lim s) (nf : s.i 32 = 0) (em : cnI s = (m : Int)) (rB : RSQ s B m) (sgB : sgI B = sgI s + 1) (plB : plI s + 1 ≤ plI B ∧ eI s ≤ eI B) (nrB : NR B (m + 1)) (oB : B.o a 0 = 302 ∧ B.o a 3 = s.i 50 ∧ B.o a 16 = s.i 56) (a49 : ∀ n : Nat, (n : Int) < nmI s → B.a 49 n = s.a 49 n) (a18 : ∀ i : Nat, (i : Int) < ccI s → B.a 18 i = s.a 18 i ∧ B.a 19 i = s.a 19 i) (h : JJ H x y c' X P (ccI σ :: ccI s :: lim) σ) (ti : TIV H x y X P (ccI s :: lim) B m (nmI s) σ) (ht : TUR σ a m) (eo : σ.o a = B.o a) : ok (f_X7_endList N σ a) (fun R => (CBS H R.2 ∧ (R.2.i 32 = 0 → JJ H (x - 150) y c X P lim (CS.setI R.2 56 (s.i 56)) ∧ R.2.o a 16 = s.i 56 ∧ ARQ s R.2)) ∧ (R.2.i 32 = 0 → cnI R.2 = (m : Int))) := by
  obtain ⟨nfσ, hm, eaσ, nr, m4⟩ := (show TUR σ a m from ht)
  obtain ⟨-, ⟨t1, t1'⟩, t2, t3, t4, t5, t6, t7, t8⟩ := ti.2 nfσ
  have n9 := (h0.2 nf).2.2.2.2.2.2.2.2.2
  have rσ : RSQ s σ m := rB.tr (t4.lo (by omega))
  have lT : lmh (ccI s :: lim) = ccI s := rfl
  refine ok_imp (q_endArm hN h ht (by rw [eo]; exact oB.1) (s.i 56) ⟨n9.1, by have := n9.2.1; omega, fun b b0 eb => ?_⟩) (fun R hR => ?_)
  · have lt : (s.i 56).toInt.toNat < m := by have := n9.2.1; omega
    have w := rσ _ lt
    have z := w.1.symm.trans eb
    rw [(w.2 b z).1]
    exact n9.2.2 b b0 z
  · refine ⟨⟨hR.1, fun q => ?_⟩, fun q => ?_⟩
    · obtain ⟨l, l1, l2, l3⟩ := hR.2 q
      obtain ⟨b0, ⟨b1, b1'⟩, ⟨b2, b2'⟩, b3, b4, b5, b6, b7, b8, b9⟩ := l3
      obtain ⟨ecc, el⟩ := List.cons.inj l1
      rw [← el] at l2
      have rR : RSQ s R.2 m := rσ.tr b3
      have em' : (cnI s).toNat = m := by omega
      have qY : (CS.setI R.2 56 (s.i 56)).i 32 = 0 := (ci_ne _ _ _ (by decide)).trans q
      have cY : cnI (CS.setI R.2 56 (s.i 56)) = cnI s := by
        rw [em, ← b2']; unfold cnI; rw [ci_ne _ _ _ (by decide)]
      have uc : c' = c := h0.uc l2 nf qY cY (by
        rw [em']
        exact rR.tr (fun i _ => ⟨rfl, fun b _ => ⟨rfl, rfl⟩⟩))
      rw [uc] at l2 h
      have sg := (t4.sums nrB).2.1
      have cσ : (cnI σ).toNat = m + 1 := by omega
      rw [cσ, sg] at t2
      have nm : nmI s ≤ nmI σ := by
        obtain ⟨D, DT, KT, -, -, -, -, -, -, -, -, -, nmb⟩ := (h.2 nfσ).1
        have := (nmb m a (by omega) eaσ).1
        rw [eo, oB.2.1] at this
        exact this
      refine ⟨l2, by rw [b9, eo]; exact oB.2.2, ⟨by omega, by omega⟩, ⟨?_, ?_, by rw [b8, eo]; exact oB.2.1, ?_, ?_⟩, by rw [em']; exact rR, fun n hn => ?_, fun i hi => ?_⟩
      · refine Int32.toInt_inj.mp ?_
        have : sgI R.2 = sgI s := by omega
        exact this
      · rw [b7]
        refine Int32.toInt_inj.mp ?_
        rw [(h.ds nfσ).1, (h0.ds nf).1]
      · refine Int32.toInt_inj.mp ?_
        have : cnI R.2 = cnI s := by omega
        exact this
      · rw [b6]
        refine Int32.toInt_inj.mp ?_
        exact ecc.symm
      · rw [b4 n (by omega), t5 n hn]; exact a49 n hn
      · have w1 := b5 i (by omega)
        have w2 := t6 i (by rw [lT]; exact hi)
        have w3 := a18 i hi
        exact ⟨w1.1.trans (w2.1.trans w3.1), w1.2.trans (w2.2.trans w3.2)⟩
    · obtain ⟨l, l1, l2, l3⟩ := hR.2 q
      exact l3.2.2.1.2
/-- the state in which an arm's turns begin keeps all -/
theorem armB.jk {H : HB} {x y : Int} {c : List Nat} {X : List (Nat × List Nat)} {P : List Nat} {lim : List Int} {s p : CS} {v t : Int32} {m a : Nat} (h0 : JJ H (x + 100) y c X P lim s) (nf : p.i 32 = 0) (px : PRX H x y c c c X P lim v m a s 1 0 1 p) (o : p.o a 0 = 302 ∧ p.o a 2 = s.i 38 ∧ p.o a 3 = s.i 50) (i50 : p.i 50 = s.i 50) (hg : SGS s (cnI s).toNat ≤ sgI s - 1) (hw : WCS s (cnI s).toNat + 10 ≤ eI s) (ht : ∃ k : Nat, t.toInt = (k : Int) ∧ (k, c) ∈ X) : JJ H (x + 50) y c X P (ccI s :: ccI s :: lim) (armB p a t (s.i 53)) ∧ cnI s = (m : Int) ∧ RSQ s (armB p a t (s.i 53)) m ∧ (sgI (armB p a t (s.i 53)) = sgI s + 1 ∧ plI s + 1 ≤ plI (armB p a t (s.i 53)) ∧ eI s ≤ eI (armB p a t (s.i 53))) ∧ (cnI (armB p a t (s.i 53)) = (m : Int) + 1 ∧ ccI (armB p a t (s.i 53)) = ccI s) ∧ ((∀ n : Nat, (n : Int) < nmI s → (armB p a t (s.i 53)).a 49 n = s.a 49 n) ∧ (∀ i : Nat, (i : Int) < ccI s → (armB p a t (s.i 53)).a 18 i = s.a 18 i ∧ (armB p a t (s.i 53)).a 19 i = s.a 19 i)) ∧ p.i 56 = s.i 56 := by
  obtain ⟨⟨k1, ⟨k2, k3, m4, k5, k6⟩, k7, jV⟩, hsx⟩ := px
  have sx := hsx nf
  obtain ⟨vm, cm⟩ := k7 nf
  have nfs := sx.1
  have cb := armB.cb k1 a t (s.i 53)
  have bi := armB.i p a t (s.i 53)
  have b56 := armB.i56 p a t (s.i 53)
  obtain ⟨ba, br, -⟩ := armB.f p a t (s.i 53)
  obtain ⟨boa, bob⟩ := armB.o p a t (s.i 53)
  generalize armB p a t (s.i 53) = B at *
  have Vi : ∀ j : Nat, j ≠ 53 → (CS.setI p 53 v).i j = p.i j := fun j hj => ci_ne _ _ _ hj
  have V53 : cnI (CS.setI p 53 v) = (m : Int) := by unfold cnI; rw [ci_at]; exact vm
  have Va : (CS.setI p 53 v).a = p.a := ca_setI ..
  have Vr : (CS.setI p 53 v).r = p.r := cr_setI ..
  have Vo : (CS.setI p 53 v).o = p.o := co_setI ..
  have Vol : (CS.setI p 53 v).ol = p.ol := col_setI ..
  generalize CS.setI p 53 v = V at *
  obtain ⟨-, ⟨s1, s1'⟩, s2, ⟨s3, s4, s5, s6⟩, s7, s8, s9, s10⟩ := sx
  have es : cnI s = (m : Int) := by rw [← V53]; unfold cnI; rw [s4]
  have em : (cnI s).toNat = m := by omega
  have emV : (cnI V).toNat = m := by omega
  rw [em] at s8 hg hw
  have nfV : V.i 32 = 0 := (Vi 32 (by decide)).trans nf
  have nrV : NR V m := by
    have := jV.1.2.2.2.2.2.2.1.2.2
    rw [emV] at this
    exact this
  have nrS : NR s m := by
    have := h0.1.2.2.2.2.2.2.1.2.2
    rw [em] at this
    exact this
  have hr : RSQ V B m := fun i hi => by
    refine ⟨by rw [br, Vr], fun b eb => ?_⟩
    rw [Vr] at eb
    have ne : b ≠ a := fun z => by
      rw [z] at eb
      have := k1.1.2.2.1 i m a (by omega) m4 eb k3
      omega
    rw [(bob b ne).1, (bob b ne).2, Vo, Vol]
    exact ⟨rfl, rfl⟩
  have o0 : B.o a 0 = 302 := by rw [boa]; exact o.1
  have o2 : B.o a 2 = s.i 38 := by rw [boa]; exact o.2.1
  have o3 : B.o a 3 = s.i 50 := by rw [boa]; exact o.2.2
  have o9 : B.o a 9 = t := by rw [boa]; rfl
  have ha : B.r 51 m = some a := by rw [br]; exact k3
  have n := (jV.2 nfV).2
  have ax : arx B a = 1 := by unfold arx; rw [if_pos o0]
  have len := jV.len1 nfV
  rw [emV] at len
  have etc : tcI B = tcI V := by unfold tcI; rw [bi 21 (by decide) (by decide), Vi 21 (by decide)]
  have enm : nmI V = nmI s := by unfold nmI; rw [Vi 50 (by decide), i50]
  have ecc : ccI V = ccI s := by unfold ccI; rw [s6]
  have lms : lmh lim ≤ ccI s := by
    obtain ⟨D, DT, KT, -, -, -, -, -, -, -, -, g9, -⟩ := (h0.2 nfs).1
    exact g9
  have iq := n.2.2.2.2.1
  rw [emV] at iq
  obtain ⟨q1, q2⟩ := iq.arm hr nrV ha o0
  obtain ⟨p1, p2, p3, p4, p5⟩ := hr.put nrV ha
  obtain ⟨u1, u2, u3, u4, u5⟩ := s8.sums nrS
  have sgB : sgn B a = 2 := by unfold sgn; rw [o0]; rfl
  have dsB : dsI B = dsI V := by unfold dsI; rw [bi 38 (by decide) (by decide), Vi 38 (by decide)]
  have cnB : cnI B = (m : Int) + 1 := by unfold cnI; rw [bi 53 (by decide) (by decide)]; exact cm
  have jB := jV.row (c' := c) (d' := c) (P' := P) (lim' := ccI s :: ccI s :: lim) (R := B) nfV cb V53.symm m4 ⟨⟨by rw [ba, Va], by rw [ba, Va], by rw [ba, Va], by rw [ba, Va], by rw [ba, Va]⟩, by rw [bi 20 (by decide) (by decide), Vi 20 (by decide)], by rw [bi 21 (by decide) (by decide), Vi 21 (by decide)], by rw [bi 50 (by decide) (by decide), Vi 50 (by decide)], by rw [bi 22 (by decide) (by decide), Vi 22 (by decide)]⟩ cnB ha hr (by omega) (fun DT KT qX qN => ⟨by rw [o2, (h0.ds nfs).1], fun j hj => by
      rw [ba, ← Va]
      refine qN j ?_
      rw [o3] at hj
      rw [enm]; exact hj, Or.inr (Or.inl ⟨o0, rfl, ?_, ccI s, rfl, lms⟩)⟩) (fun k hk => Or.inl hk) (fun _ z => z) (by rw [ecc]; exact Int.le_refl _) ⟨by rw [o3, enm]; exact Int.le_refl _, fun j b hj eb => ?_⟩ ⟨by rw [bi 34 (by decide) (by decide), Vi 34 (by decide)], by rw [bi 43 (by decide) (by decide), Vi 43 (by decide)], by rw [bi 44 (by decide) (by decide), Vi 44 (by decide)]⟩ (by rw [dsB]; exact n.2.2.2.2.2.2.2.1) q1 (by omega) (by omega) (Or.inr ⟨by rw [b56]; exact es, o0⟩)
  · have plB : plI B = plI V := by unfold plI; rw [bi 44 (by decide) (by decide), Vi 44 (by decide)]
    have eB : eI B = eI V := by unfold eI; rw [plB, bi 43 (by decide) (by decide), Vi 43 (by decide)]
    have sB : sgI B = sgI V := by unfold sgI; rw [bi 34 (by decide) (by decide), Vi 34 (by decide)]
    have cB : ccI B = ccI V := by unfold ccI; rw [bi 22 (by decide) (by decide), Vi 22 (by decide)]
    refine ⟨jB.j, es, s8.tr hr, ⟨by omega, by omega, by omega⟩, ⟨cnB, by omega⟩, ⟨fun j hj => ?_, fun j hj => ?_⟩, by rw [← Vi 56 (by decide)]; exact s5⟩
    · rw [ba, ← Va]; exact s9 j hj
    · rw [ba, ← Va]; exact s10 j hj
  · obtain ⟨k, e1, e2⟩ := ht
    rw [o9, etc]
    exact TTc.x qX e1 e2
  · obtain ⟨D, DT, KT, -, -, -, -, -, -, -, -, -, nmb⟩ := (jV.2 nfV).1
    have := (nmb j b hj eb).1
    rw [o3]
    rw [enm] at this
    exact this
