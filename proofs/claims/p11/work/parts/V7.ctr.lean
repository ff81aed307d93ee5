/-! the class's reading: whole -/
theorem ok_assc {α β γ : Type} {x : Option α} {f : α → Option β} {g : β → Option γ} {P : γ → Prop} (h : ok ((x.bind f).bind g) P) : ok (x.bind fun p => (f p).bind g) P := by
  rw [Option.bind_assoc] at h
  exact h
def b0B : (Nat → Option Nat) × (Nat → Prop) := (fun _ => none, fun _ => False)
theorem STZ.jj {h : Nat} {s R : CS} (hc : CIV h s) (hs : STZ s R) : JJ (h, b0B) 0 0 [] [] [] [0] R := by
  obtain ⟨c1, c2, c3, c4, ⟨c5, c6⟩, -, -⟩ := hc
  obtain ⟨s1, ⟨s2, s3⟩, ⟨s4, s5, s6, s7, s8⟩, ⟨s9, s10, s11, s12, s13, s14⟩, s15, s16⟩ := hs
  have ecn : cnI R = 0 := by unfold cnI; rw [s9]; exact z_t0
  have etc : tcI R = 0 := by unfold tcI; rw [s5]; exact z_t0
  have ecc : ccI R = 0 := by unfold ccI; rw [s6]; exact z_t0
  have esz : szI R = 0 := by unfold szI; rw [s4]; exact z_t0
  have esg : sgI R = 0 := by unfold sgI; rw [s12]; exact z_t0
  have eds : dsI R = 0 := by unfold dsI; rw [s14]; exact z_t0
  have enm : nmI R = 2 := s8
  have m1 : (-1 : Int32).toInt = -1 := by decide
  have cb : CBS (h, b0B) R := by
    refine ⟨s1.refs c1, ⟨s1.room c2, fun i a e => (by cases e), fun _ t ht => ht.elim⟩, s16, s1.wd c3, fun q => absurd s11 q, by rw [enm]; omega, ⟨by rw [ecn]; omega, by rw [ecn]; omega, fun i hi => by rw [ecn] at hi; exact absurd hi (by omega)⟩, ?_, Or.inr s13, ⟨by rw [s3]; exact c5, by rw [s2]; exact c6⟩, Or.inl s7⟩
    intro i a hi e
    obtain ⟨⟨a1, a2, a3, a4, a5, a6, a7, a8⟩, -⟩ := s1
    rw [a7] at e
    rw [a4]
    exact c4 i a hi e
  have pl := cb.pl
  have eg := eI.ge R
  refine ⟨cb, fun _ => ⟨⟨fun _ => [], fun _ => [], fun _ => False, fun p _ hp => by rw [esz] at hp; omega, fun t ht => by rw [etc] at ht; omega, fun t ht => by rw [etc] at ht; omega, ⟨by rw [esz]; omega, rfl, rfl⟩, fun q hq => (by cases hq), ⟨0, by rw [ecn]; rfl, by omega, rfl, 0, rfl, by omega⟩, fun n hn => ?_, by rw [etc]; omega, by rw [ecc]; exact Int.le_refl _, fun i a hi => by rw [ecn] at hi; omega⟩, ?_⟩⟩
  · rw [enm] at hn
    left
    rw [s15 n hn, m1]
    omega
  · have e0 : (cnI R).toNat = 0 := by rw [ecn]; rfl
    refine ⟨by omega, ⟨by omega, by omega⟩, by omega, by omega, ?_, ?_, ?_, ⟨by rw [eds]; rfl, by decide⟩, ?_⟩
    · rw [e0]
      intro m hm
      have em : m = 0 := by omega
      rw [em]
      have := (cnt.le (KLS R 0) 26).1
      show (3 : Int) * ((0 : Nat) : Int) ≤ 0 + 3 * 0 + 20 * 0 + cnt (KLS R 0) 26 + 3
      omega
    · rw [e0]
      show (0 : Int) ≤ eI R
      omega
    · rw [e0]
      show (0 : Int) ≤ sgI R
      omega
    · rw [s10, m1, ecn]
      refine ⟨by omega, by omega, fun a q => by omega⟩
theorem IQ.root {s R : CS} {n a : Nat} (h : IQ s n) (hn : n = 0) (ha : R.r 51 n = some a) (h0 : R.o a 0 = 300) : IQ R (n + 1) ∧ WCS R (n + 1) = 0 := by
  subst hn
  have er := rowA.of ha
  have w1 : WCS R 1 = 0 := by
    show WCS R 0 + cost R (rowA R 0) = 0
    rw [er]
    unfold cost
    rw [if_pos (Or.inl h0)]
    rfl
  refine ⟨fun m hm => ?_, w1⟩
  by_cases c : m = 0
  · rw [c]
    have := (cnt.le (KLS R 0) 26).1
    show (3 : Int) * ((0 : Nat) : Int) ≤ 0 + 3 * 0 + 20 * 0 + cnt (KLS R 0) 26 + 3
    omega
  · have em : m = 1 := by omega
    rw [em, w1]
    have b := (BAS (s := R) 1)
    have k := (cnt.le (KLS R 1) 26).1
    omega
/-- the whole text is one row -/
theorem STZ.row {h : Nat} {s R p : CS} {v : Int32} {m a : Nat} (hc : CIV h s) (hs : STZ s R) (px : PRX (h, b0B) 0 0 [] [] [] [] [] [0] v m a R 0 0 0 p) (o0 : p.o a 0 = 300) (o2 : p.o a 2 = 0) (o3 : p.o a 3 = R.i 50) (i50 : p.i 50 = R.i 50) (nf : p.i 32 = 0) : m = 0 ∧ cnI p = 1 ∧ ccI p = 0 ∧ sgI p = 0 ∧ JJ (h, b0B) 50 0 [] [] [] [0] p := by
  have jR := hs.jj hc
  obtain ⟨s1, ⟨s2, s3⟩, ⟨s4, s5, s6, s7, s8⟩, ⟨s9, s10, s11, s12, s13, s14⟩, s15, s16⟩ := hs
  obtain ⟨⟨k1, ⟨k2, k3, m4, k5, k6⟩, k7, jV⟩, hsx⟩ := px
  have sx := hsx nf
  obtain ⟨vm, cm⟩ := k7 nf
  have Vi : ∀ j : Nat, j ≠ 53 → (CS.setI p 53 v).i j = p.i j := fun j hj => ci_ne _ _ _ hj
  have V53 : cnI (CS.setI p 53 v) = (m : Int) := by unfold cnI; rw [ci_at]; exact vm
  have Va : (CS.setI p 53 v).a = p.a := ca_setI ..
  have Vr : (CS.setI p 53 v).r = p.r := cr_setI ..
  have Vo : (CS.setI p 53 v).o = p.o := co_setI ..
  have Vol : (CS.setI p 53 v).ol = p.ol := col_setI ..
  generalize CS.setI p 53 v = V at *
  obtain ⟨-, ⟨t1, t1'⟩, t2, ⟨t3, t4, t5, t6⟩, t7, t8, t9, t10⟩ := sx
  have ecR : cnI R = 0 := by unfold cnI; rw [s9]; exact z_t0
  have m0 : (m : Int) = 0 := by rw [← V53, ← ecR]; unfold cnI; rw [t4]
  have em : m = 0 := by omega
  have sgR : sgI R = 0 := by unfold sgI; rw [s12]; exact z_t0
  have ecc : ccI V = 0 := by unfold ccI; rw [t6, s6]; exact z_t0
  have enm : nmI V = nmI R := by unfold nmI; rw [Vi 50 (by decide), i50]
  have nfV : V.i 32 = 0 := (Vi 32 (by decide)).trans nf
  have n := (jV.2 nfV).2
  have iq := n.2.2.2.2.1
  rw [show (cnI V).toNat = m by omega] at iq
  obtain ⟨q1, q2⟩ := iq.root em k3 o0
  have etc : tcI p = tcI V := by unfold tcI; rw [Vi 21 (by decide)]
  have dsV : dsI V = 0 := by unfold dsI; rw [t3, s14]; exact z_t0
  have dsp : dsI p = dsI V := by unfold dsI; rw [Vi 38 (by decide)]
  have sgV : sgI p = sgI V := by unfold sgI; rw [Vi 34 (by decide)]
  have ccp : ccI p = ccI V := by unfold ccI; rw [Vi 22 (by decide)]
  have plV := jV.1.pl
  have eV := eI.ge V
  have er := rowA.of k3
  have sg1 : SGS p (m + 1) = 0 := by
    rw [em] at er ⊢
    show SGS p 0 + sgn p (rowA p 0) = 0
    rw [er]
    unfold sgn
    rw [o0]
    rfl
  have bas : 0 ≤ SGS V m := (BAS (s := V) m).2.2.2.1
  have jp := jV.row (c' := []) (d' := []) (P' := []) (lim' := [0]) (R := p) nfV k1 V53.symm m4 ⟨⟨by rw [Va], by rw [Va], by rw [Va], by rw [Va], by rw [Va]⟩, by rw [Vi 20 (by decide)], by rw [Vi 21 (by decide)], by rw [Vi 50 (by decide)], by rw [Vi 22 (by decide)]⟩ cm k3 (fun i hi => by omega) (by have := arx.nn p a; show (0 : Int) ≤ _; omega) (fun DT KT qX qN => ⟨by rw [o2, z_t0]; rfl, fun j hj => by
      rw [← Va]
      refine qN j ?_
      rw [o3] at hj
      rw [enm]; exact hj, Or.inl ⟨Or.inl o0, rfl, rfl⟩⟩) (fun k hk => (by cases hk)) (fun _ z => z) (by rw [ecc]; exact Int.le_refl _) ⟨by rw [o3, enm]; exact Int.le_refl _, fun j b hj eb => by omega⟩ ⟨(Vi 34 (by decide)).symm, (Vi 43 (by decide)).symm, (Vi 44 (by decide)).symm⟩ ⟨by rw [dsp, dsV]; rfl, by decide⟩ q1 (by rw [q2]; omega) (by rw [sg1]; omega) (Or.inl (Vi 56 (by decide)).symm)
  exact ⟨em, by omega, by omega, by omega, JK.j (jp.w (by omega) (Int.le_refl _))⟩
theorem q_transTail {N : Nat} (E1 : CS → Option (Unit × CS)) (E2 : CS → Option (Int32 × CS)) {H : HB} {R : CS} (h1 : CBS H R) (h2 : R.i 32 = 0 → ∃ D, WTC R D) : ok (if (R.i 37) < 0 then f_X7_translate_139 N E1 E2 R else (f_X1_fail N R 7 (R.i 37)).bind fun p40 => f_X7_translate_139 N E1 E2 p40.2) (fun T => T.1 = T.2.i 32 ∧ CBS H T.2 ∧ (T.2.i 32 = 0 → ∃ D, WTC T.2 D)) := by
  unfold f_X7_translate_139
  refine ok_ite (fun _ => ok_some ⟨rfl, h1, h2⟩) (fun _ => ok_bind (q_failC h1 7 (R.i 37) (by decide)) (fun p hp => ok_some ⟨rfl, ?_, fun q => absurd q hp.2.2.2.1⟩))
  exact (JJ.flt (x := 0) (y := 0) (c := []) (X := []) (P := []) (lim := []) h1 hp).1
/-- a whole text is read -/
theorem q_translate {N : Nat} (hN : 10000000000 ≤ N) {h : Nat} {s : CS} (hc : CIV h s) (x1 : Int32) (hx : 0 ≤ x1.toInt ∧ x1.toInt ≤ 900) : ok (f_X7_translate N (fEE N 23).1 (fEE N 23).2 s x1) (fun T => T.1 = T.2.i 32 ∧ CBS (h, b0B) T.2 ∧ (T.2.i 32 = 0 → ∃ D, WTC T.2 D)) := by
  have top := q_top23 hN h
  generalize (fEE N 23).1 = E1 at *
  generalize (fEE N 23).2 = E2 at *
  have hN1 : 1000 ≤ N := by omega
  have wd := hc.2.2.1
  unfold f_X7_translate
  refine ok_bind (PZ.b N) (fun p1 z1 => ok_bind (z1.nc N 1) (fun p5 z5 => ok_bind (z5.ad (by omega) N 97 p5.1) (fun p9 z9 => ok_bind (z9.nc N 1) (fun p13 z13 => ok_bind (z13.ad (by omega) N 98 p13.1) (fun p17 z17 => ?_)))))
  clear z1 z5 z9 z13
  have z2 : PZ s p17.2 2 := z17
  refine ok_assc ?_
  refine ok_bind (PZ.st hN1 z2 wd x1 hx) (fun p25 sta => ?_)
  clear z17 z2
  have jR := sta.jj hc
  have nfR : p25.2.i 32 = 0 := sta.2.2.2.1.2.2.1
  refine ok_bind (PRX.of (s0 := p25.2) jR.k (fun q => SX.rf q) 300 0 (p25.2.i 50) jR.1.nm) (fun p hp => ?_)
  obtain ⟨v, a, m, r1, px, ⟨o0, o2, o3, ol⟩, -, pi, pa⟩ := hp
  have nf : p.2.i 32 = 0 := (pi 32 (by decide) (by decide)).trans nfR
  obtain ⟨em, ecn, ecc, esg, jp⟩ := sta.row hc px o0 o2 o3 (pi 50 (by decide) (by decide)) nf
  subst em
  rw [r1]
  show ok ((f_X7_turns_2 N E1 E2 N p.2 0 0).bind fun p44 => (if (p44.2.i 37) < 0 then f_X7_translate_139 N E1 E2 p44.2 else (f_X1_fail N p44.2 7 (p44.2.i 37)).bind fun p49 => f_X7_translate_139 N E1 E2 p49.2)) _
  refine ok_bind (Q := fun w => CBS (h, b0B) w.2 ∧ (w.2.i 32 = 0 → ∃ D, WTC w.2 D)) ?_ (fun w hw => q_transTail E1 E2 hw.1 hw.2)
  have ra := px.1.2.1.2.1
  have nrB : NR p.2 1 := by
    have := jp.1.2.2.2.2.2.2.1.2.2
    rw [ecn] at this
    exact this
  have jp' : JJ (h, b0B) 50 0 [] [] [] (ccI p.2 :: []) p.2 := by rw [ecc]; exact jp
  have ams : ((([] : List Int).length : Nat) : Int) = 2 * AMS p.2 1 := by
    have e : AMS p.2 1 = 0 := by
      show AMS p.2 0 + (if p.2.o (rowA p.2 0) 0 = 302 then 1 else 0) = 0
      rw [rowA.of ra, o0]
      rfl
    rw [e]; rfl
  have ti : TIV (h, b0B) 50 0 [] [] [] p.2 0 (p.2.o a 3).toInt p.2 := ⟨jp.1, fun _ => ⟨⟨[], jp'⟩, ⟨Int.le_refl _, Int.le_refl _⟩, by rw [show (cnI p.2).toNat = 0 + 1 by omega], by omega, RSQ.rf _ _, fun _ _ => rfl, fun _ _ => ⟨rfl, rfl⟩, rfl, fun i b i0 i1 eb e5 => by
    have ei : i = 0 := by omega
    rw [ei, ra] at eb
    cases eb
    rw [o0] at e5
    exact absurd e5 (by decide)⟩⟩
  have bp := jp.1.pl
  have e0 : (0 : Int32).toInt = 0 := by decide
  refine q_turns2 (H := (h, b0B)) (k := 24) hN (fun b => (top b).1) (fun b => (top b).2) (by omega) (by omega) ⟨nf, nrB⟩ ra rfl (Or.inl o0) ams (by omega) (by omega) (by rw [e0]; rfl) (Q := fun R => CBS (h, b0B) R ∧ (R.i 32 = 0 → ∃ D, WTC R D)) (fun R c1 c2 => ⟨c1, fun q => absurd q c2⟩) (fun σ c' jσ tσ uσ oσ => ?_) N p.2 0 (by rw [e0]; omega) (by omega) (fun _ => by rw [e0]; omega) ti
  refine ok_imp (q_endRoot hN1 (by omega) (by omega) jσ uσ (by rw [oσ]; exact o0)) (fun R hR => ⟨⟨hR.1.1, fun q => (hR.2 q).2 rfl rfl⟩, fun q => (hR.2 q).1⟩)
