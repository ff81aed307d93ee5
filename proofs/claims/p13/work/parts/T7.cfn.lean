/-! the class's reading: a finally begins -/
theorem ADV.mono {s R : CS} (h : ADV s R) (hl : LC s) : plI s ≤ plI R ∧ eI s ≤ eI R := by
  have gn := h.gain hl
  by_cases z : s.i 43 = 0
  · have z2 := h.2.2.2.2 z
    have n1 : ¬ ALN (s.i 43) := fun y => by unfold ALN at y; rw [z, z_t0] at y; omega
    have n2 : ¬ ALN (R.i 43) := fun y => by unfold ALN at y; rw [z2, z_t0] at y; omega
    rw [eI.sg n1, eI.sg n2]
    have := gn.1
    omega
  · exact ⟨gn.1, (gn.2.1 z).2⟩
/-- the row's change is told -/
theorem GHS.end {H : HB} {x y : Int} {c c' d : List Nat} {X X' : List (Nat × List Nat)} {P P' : List Nat} {T : List Int} {σ : CS} {p e0 e : Int} {a m : Nat} {F : CS} (h : GHS H x y c' c d X P (ccI σ :: T) σ p e0 e (σ.o a) (σ.ol a) a m F) (ht : TUR σ a m) (hσ : SGS σ (m + 1) ≤ sgI σ) (hp : 1 ≤ p) (h0 : 0 ≤ e0) (hX : ∀ q ∈ X', q ∈ X) (hF : F.i 32 = 0 → F.ol a = σ.ol a ∧ F.o a 3 = σ.o a 3 ∧ (¬ F.o a 0 = 300 ∧ ¬ F.o a 0 = 301 ∧ ¬ F.o a 0 = 302 ∧ ¬ F.o a 0 = 303) ∧ (¬ σ.o a 0 = 300 ∧ ¬ σ.o a 0 = 301 ∧ ¬ σ.o a 0 = 302 ∧ ¬ σ.o a 0 = 303) ∧ sgn F a = sgn σ a + e) (hd : F.i 32 = 0 → (c'.length : Int) = (F.i 38).toInt ∧ c'.length ≤ 21) (hR : F.i 32 = 0 → ∀ (DT : Nat → List Nat) (KT : Nat → Prop) (c0 : List Nat) (lim0 : List Int), (∀ q ∈ X, (q.1 : Int) < tcI F ∧ DT q.1 = q.2 ∧ ¬ KT q.1) → ROW1 (wO F a (σ.o a) (σ.ol a)) DT KT a c0 c (ccI σ :: T) lim0 → ROW1 F DT KT a c0 c' (ccI σ :: T) lim0) (hP : F.i 32 = 0 → ∀ k ∈ P, k ∈ P' ∨ OWS F a k) (hO : F.i 32 = 0 → ∀ k : Nat, OWS σ a k → k ∈ P' ∨ OWS F a k) (hN : F.i 32 = 0 → ∀ n : Nat, (n : Int) < nmI F → NMT (F.a 49 n) c → NMT (F.a 49 n) c') : TNQ H x y X' P' T σ F := by
  obtain ⟨nf, hm, ea, nr, m4⟩ := ht
  obtain ⟨h1, ⟨h2, h3⟩, h4, h5⟩ := h
  refine ⟨h1, fun z => ?_⟩
  have sx := h5 z
  obtain ⟨f1, f2, f3, f4, f5⟩ := hF z
  obtain ⟨V, hV⟩ : ∃ V, V = wO F a (σ.o a) (σ.ol a) := ⟨_, rfl⟩
  have Vi : V.i = F.i := by rw [hV]; rfl
  have Va : V.a = F.a := by rw [hV]; rfl
  have Vr : V.r = F.r := by rw [hV]; rfl
  have Voa : V.o a = σ.o a := by rw [hV, wO.o]; exact if_pos rfl
  have Vla : V.ol a = σ.ol a := by rw [hV, wO.ol]; exact if_pos rfl
  have Vob : ∀ b : Nat, b ≠ a → V.o b = F.o b ∧ V.ol b = F.ol b := fun b hb => by rw [hV, wO.o, wO.ol]; exact ⟨if_neg hb, if_neg hb⟩
  rw [← hV] at h4 sx
  have hR' := hR z
  rw [← hV] at hR'
  clear hV
  have eaV : V.r 51 m = some a := by rw [Vr]; exact h2
  have cV : cnI V = (m : Int) + 1 := by rw [← hm]; unfold cnI; rw [sx.2.2.2.1.2.1]
  have rq : RSQ V F m := fun i hi => ⟨by rw [Vr], fun b eb => by
    have ne : b ≠ a := fun q => by
      rw [q] at eb
      have := h4.1.1.2.2.1 i m a (by omega) m4 eb eaV
      omega
    exact ⟨(Vob b ne).1.symm, (Vob b ne).2.symm⟩⟩
  have tl : TL2 m V F := ⟨⟨by rw [Vr], rq⟩, ⟨by rw [Va], by rw [Va], by rw [Va]⟩, by rw [Vi], by rw [Vi], by rw [Vi], by rw [Vi], by rw [Vi], by rw [Vi]⟩
  have trn : TNR σ F := sx.mid.trn2 hp h0 hm ea h2 nr tl f5
  have ecc : ccI F = ccI σ := by
    have : F.i 22 = σ.i 22 := by rw [← Vi]; exact sx.2.2.2.1.2.2.2
    unfold ccI; rw [this]
  rw [ecc]
  refine ⟨⟨c', JK.j (JK.sub ?_ hX)⟩, trn⟩
  have zV : V.i 32 = 0 := by rw [Vi]; exact z
  have emσ : (cnI σ).toNat = m + 1 := by omega
  have cF : cnI F = (m : Int) + 1 := by rw [← cV]; unfold cnI; rw [Vi]
  refine h4.top h1 (by rw [Vi]) eaV h2 (fun _ => ⟨cV, ⟨⟨by rw [Va], by rw [Va], by rw [Va], by rw [Va], by rw [Va]⟩, by rw [Vi], by rw [Vi], by rw [Vi], by rw [Vi]⟩, rq, ⟨by rw [Vi], by rw [Vi], by rw [Vi], by rw [Vi], by rw [Vi]⟩, by rw [Vla]; exact f1, by rw [Voa]; exact f2⟩) (fun _ => hd z) (fun _ => Or.inr ⟨f3, by rw [Voa]; exact f4⟩) (fun _ => ?_) (fun _ DT KT c0 lim0 qX r => hR' DT KT c0 lim0 (by
    have et : tcI F = tcI V := by unfold tcI; rw [Vi]
    rw [et]; exact qX) r) (fun _ => hP z) (fun _ k _ k2 _ => hO z k (by unfold OWS at *; rw [Voa] at k2; exact k2)) (fun _ n hn w => by
    rw [Va] at w ⊢
    exact hN z n (by unfold nmI at *; rw [← Vi]; exact hn) w) (fun q => (h4.2 q).1.lim)
  have e3 := trn.2.2.1
  have emF : (cnI F).toNat = m + 1 := by omega
  rw [emF, emσ] at e3
  have sV : sgI V = sgI F := by unfold sgI; rw [Vi]
  omega
theorem q_beginFin {N : Nat} {H : HB} (hN : 1000 ≤ N) {x y : Int} {c : List Nat} {X : List (Nat × List Nat)} {P : List Nat} {T : List Int} {σ : CS} {a m : Nat} (hx : x ≤ 4000) (hy : y ≤ 90) (h : JJ H x y c X P (ccI σ :: T) σ) (ht : TUR σ a m) (hs : σ.o a 0 = 305) (hnm : nmI σ = (σ.o a 3).toInt) : ok (f_X7_beginFinally N σ a) (fun R => TNQ H x y X P T σ R.2 ∧ (R.2.i 32 = 0 → R.2.o a 0 = 216)) := by
  obtain ⟨nf, hm, ea, nr, m4⟩ := (show TUR σ a m from ht)
  obtain ⟨D0, DT0, KT0, -, -, -, -, -, ⟨k0, k1, k2, k3⟩, -⟩ := (h.2 nf).1
  have ek : k0 = m + 1 := by omega
  rw [ek] at k3
  obtain ⟨c0, lim0, r0⟩ := k3.top ea
  have ec := (r0.cx.2.2.1 (Or.inr hs)).1
  have nmc := r0.2.1
  have nb := (h.2 nf).2
  have em : (cnI σ).toNat = m + 1 := by omega
  have sg := nb.2.2.2.2.2.2.1
  rw [em] at sg
  have ds := h.ds nf
  have hcl : ∀ (s : CS) (DT : Nat → List Nat) (KT : Nat → Prop) (c0' : List Nat) (lim lim0 : List Int), s.o a 0 = 305 → ROW1 s DT KT a c0' c lim lim0 → c0' = c0 ∧ lim0 = lim := fun s DT KT c0' lim lim0 e r => by
    have w := r.cx.2.2.1 (Or.inr e)
    rw [ec] at w
    exact ⟨(List.cons.inj w.1).2.symm, w.2⟩
  unfold f_X7_beginFinally
  refine ok_chk (h.1.1.2.1 m a m4 ea) ?_
  have g0 := ((GHS.rf h ea m4).set 0 216 (by omega) (by decide)).set 15 (σ.i 55) (by omega) (by decide)
  have ou := ((OUV.rf σ a).o 0 216).o 15 (σ.i 55)
  have Bo : (CS.setO (CS.setO σ a 0 216) a 15 (σ.i 55)).o a = upd (upd (σ.o a) 0 216) 15 (σ.i 55) := ou.2.2.1
  have Bl : (CS.setO (CS.setO σ a 0 216) a 15 (σ.i 55)).ol a = σ.ol a := ou.2.2.2
  have Bi : (CS.setO (CS.setO σ a 0 216) a 15 (σ.i 55)).i = σ.i := ou.1.2.2.2.2.2.2.2.2.2
  generalize CS.setO (CS.setO σ a 0 216) a 15 (σ.i 55) = B at *
  refine ok_bind (q_advC hN g0.1) (fun p hp => ?_)
  have mo := hp.mono g0.1.2.2.1
  have g1 := g0.adv (x' := x) (y' := y) (p' := 0) (e0' := 0) hp (fun _ => by omega) (fun _ => by omega)
  refine ok_bind (q_open hN g1.1 123) (fun q hq => ?_)
  have g2 := g1.op (by decide) hq
  have qfo : q.2.o = p.2.o ∧ q.2.ol = p.2.ol := by
    rcases hq with hf | ⟨-, -, ha⟩
    · exact ⟨hf.1.2.2.2.1, hf.1.2.2.2.2.1⟩
    · exact ⟨ha.1.1.2.2.2.1, ha.1.1.2.2.2.2.1⟩
  have q50 : q.2.i 50 = σ.i 50 := by
    have pp : p.2.i 50 = σ.i 50 := by rw [hp.1.2 50 (by decide) (by decide) (by decide) (by decide), Bi]
    rcases hq with hf | ⟨-, -, ha⟩
    · rw [hf.2.1 50 (by decide) (by decide) (by decide) (by decide)]; exact pp
    · rw [ha.1.2 50 (by decide) (by decide) (by decide) (by decide), ci_ne _ _ _ (by decide)]; exact pp
  have qo : q.2.o a = upd (upd (σ.o a) 0 216) 15 (σ.i 55) := by rw [qfo.1, hp.1.1.2.2.2.1, Bo]
  have qol : q.2.ol a = σ.ol a := by rw [qfo.2, hp.1.1.2.2.2.2.1, Bl]
  refine ok_bind (q_add N q.2 58 0) (fun r hr => ?_)
  have g3 := g2.add (c1 := 3 :: c0) hr (by omega) (by omega) (fun _ => ds.2) (fun _ DT KT _ => ⟨fun q => absurd q (by decide), fun q => absurd q (by decide), fun _ q => absurd q (by decide), fun _ q => absurd q (by decide), fun q => absurd q (by decide), fun q => absurd q (by decide), fun q => absurd q (by decide), fun q => absurd q (by decide), fun _ => ⟨c0, ec⟩, fun q => absurd q (by decide), fun q => absurd q (by decide), fun q => absurd q (by decide), by decide⟩)
  have ro : r.2.o a = upd (upd (σ.o a) 0 216) 15 (σ.i 55) := by rw [hr.1.2.2.2.1]; exact qo
  have rol : r.2.ol a = σ.ol a := by rw [hr.1.2.2.2.2.1]; exact qol
  refine ok_chk (g3.1.1.2.1 m a m4 g3.2.1.1) ?_
  have r11 : r.2.o a 11 = σ.o a 11 := by rw [ro]; rfl
  rw [r11]
  refine ok_bind (q_aim N r.2 (σ.o a 11)) (fun e he => ok_some ?_)
  have g4 := g3.aim (P' := P) he (by omega) (by omega) (fun z DT KT _ qR => by
    have sx := g3.2.2.2 z
    have cn : cnI r.2 = (m : Int) + 1 := by
      have : cnI (wO r.2 a (σ.o a) (σ.ol a)) = cnI σ := by unfold cnI; rw [sx.2.2.2.1.2.1]
      rw [← hm, ← this]; rfl
    obtain ⟨c0', L0, w⟩ := (qR (m + 1) (by omega)).top (show (wO r.2 a (σ.o a) (σ.ol a)).r 51 m = some a from g3.2.1.1)
    have woa : (wO r.2 a (σ.o a) (σ.ol a)).o a = σ.o a := by rw [wO.o]; exact if_pos rfl
    have so : (wO r.2 a (σ.o a) (σ.ol a)).o a 0 = 305 := by rw [woa]; exact hs
    have e := (hcl _ DT KT c0' _ L0 so w).1
    have t := w.cx.2.2.2.2.2.2 (Or.inr (Or.inr so))
    rw [e, woa] at t
    exact ⟨t.1, t.2.1, t.2.2.1⟩) (fun _ k hk => Or.inl hk)
  have ir := (IRR.rf g4.1).i 36 1 (by unfold IRJ; omega) (fun _ => Or.inr rfl)
  have g5 := g4.irr ir
  have fo : (CS.setI e.2 36 1).o a = upd (upd (σ.o a) 0 216) 15 (σ.i 55) := by rw [co_setI, he.1.2.2.2.1]; exact ro
  have f50 : (CS.setI e.2 36 1).i 50 = σ.i 50 := by rw [ci_ne _ _ _ (by decide), he.2.1, hr.2.1 50 (by decide)]; exact q50
  have fl : (CS.setI e.2 36 1).ol a = σ.ol a := by rw [col_setI, he.1.2.2.2.2.1]; exact rol
  show TNQ H x y X P T σ (CS.setI e.2 36 1) ∧ ((CS.setI e.2 36 1).i 32 = 0 → (CS.setI e.2 36 1).o a 0 = 216)
  generalize CS.setI e.2 36 1 = F at *
  have F0 : F.o a 0 = 216 := by rw [fo]; rfl
  have Fj : ∀ j : Nat, j ≠ 0 → j ≠ 15 → F.o a j = σ.o a j := fun j k1 k2 => by
    rw [fo]
    exact (if_neg k2).trans (if_neg k1)
  refine ⟨?_, fun _ => F0⟩
  have g6 := g5.w (x' := x) (y' := y) (p' := 1) (e0' := 0) (by omega) (by omega) (by omega) (by omega)
  refine GHS.end g6 ht sg (by omega) (by omega) (fun _ z => z) (fun z => ⟨fl, Fj 3 (by decide) (by decide), by rw [F0]; decide, by rw [hs]; decide, by unfold sgn; rw [F0, hs]; rfl⟩) (fun z => ?_) (fun z DT KT c0' lim0 _ w => ?_) (fun _ k hk => Or.inl hk) (fun _ k w => Or.inr ?_) (fun z n hn _ => ?_)
  · have sx := g5.2.2.2 z
    have : F.i 38 = σ.i 38 := sx.2.2.2.1.1
    have l := ds
    rw [ec] at l
    rw [this]
    exact ⟨l.1.symm, l.2⟩
  · have woa : (wO F a (σ.o a) (σ.ol a)).o a = σ.o a := by rw [wO.o]; exact if_pos rfl
    have so : (wO F a (σ.o a) (σ.ol a)).o a 0 = 305 := by rw [woa]; exact hs
    have e := hcl _ DT KT c0' _ lim0 so w
    have t9 := w.cx.2.2.2.2.1 (Or.inr (Or.inr (Or.inr (Or.inl so))))
    obtain ⟨w1, w2, -⟩ := w
    rw [woa] at t9 w1 w2
    have w2' : ∀ n : Nat, (n : Int) < (σ.o a 3).toInt → NMT (F.a 49 n) c0' := w2
    have t9' : TTc (tcI F) DT KT (σ.o a 9) c0' := t9
    refine ⟨by rw [Fj 2 (by decide) (by decide)]; exact w1, by rw [Fj 3 (by decide) (by decide)]; exact w2', Or.inr (Or.inr (Or.inr (Or.inr (Or.inr (Or.inr (Or.inr (Or.inr (Or.inr (Or.inr (Or.inr ⟨F0, by rw [e.1], ?_, e.2⟩))))))))))⟩
    rw [Fj 9 (by decide) (by decide)]; exact t9'
  · unfold OWS at w ⊢
    rw [F0, Fj 9 (by decide) (by decide)]
    rw [hs] at w
    rcases w with w | w
    · exact Or.inl ⟨by decide, by decide, by decide, by decide, w.2.2.2.2⟩
    · exact absurd w.1 (by decide)
  · have sx := g5.2.2.2 z
    have n1 : (n : Int) < nmI σ := by
      have e : nmI F = nmI σ := by unfold nmI; rw [f50]
      omega
    have e49 : F.a 49 n = σ.a 49 n := sx.2.2.2.2.2.2.1 n n1
    rw [e49]
    exact (nmc n (by omega)).cons 3
