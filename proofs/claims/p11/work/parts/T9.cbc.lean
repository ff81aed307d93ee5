/-! the class's reading: a catch begins, whole -/
theorem q_newNameG {N : Nat} {H : HB} (hN : 1000 ≤ N) {x y : Int} {c : List Nat} {X : List (Nat × List Nat)} {P : List Nat} {lim : List Int} {σ : CS} {p e0 e : Int} {a m : Nat} {t : Int32} {s : CS} (h : GHC H x y c X P lim σ p e0 e a m t s) : ok (f_X7_newName N s) (fun R => GHC H (x - 100) y c X P lim σ p e0 e a m t R.2) := by
  unfold f_X7_newName f_X7_newName_56
  refine ok_bind (q_found s 2) (fun q hq => ?_)
  obtain ⟨p1, p2⟩ := hq
  rw [p1]
  rcases p2 with ⟨p2, p3⟩ | ⟨p2, p3⟩
  · rw [if_pos p2]
    exact ok_bind (q_misp h.1.1) (fun f hf => ok_some (h.cp (GHS.flt h.1.1 h.1.2.2.1.1 h.1.2.1 hf) ⟨hf.1.2.2.2.1, hf.1.2.2.2.2.1⟩))
  · rw [p2, if_neg (by decide)]
    refine ok_bind (q_find hN h.1.1.2.2.2.2.2.1 s.l) (fun f hf => ?_)
    rw [hf.1]
    refine ok_ite (fun _ => ok_bind (q_advC hN h.1.1) (fun r hr => ok_some ?_)) (fun _ => ok_bind (q_failC h.1.1 4 _ (by decide)) (fun r hr => ok_some (h.cp (GHS.flt h.1.1 h.1.2.2.1.1 h.1.2.1 hr) ⟨hr.1.2.2.2.1, hr.1.2.2.2.2.1⟩)))
    have tk := hr.tk1 h.1.1.2.2.1 (by rw [p3]; decide)
    exact h.cp ((h.1.adv (x' := x - 100) (y' := y) (p' := 0) (e0' := 0) hr (fun _ => by omega) (fun _ => by omega)).w (Int.le_refl _) (Int.le_refl _) (by omega) (by omega)) ⟨hr.1.1.2.2.2.1, hr.1.1.2.2.2.2.1⟩
theorem q_bc80 {N : Nat} {H : HB} (hN : 1000 ≤ N) {x y : Int} {c c0 : List Nat} {X X0 : List (Nat × List Nat)} {P : List Nat} {T : List Int} {σ : CS} {p : Int} {a m b k : Nat} {t x2 : Int32} {s : CS} (hx : x ≤ 4500) (hy : y ≤ 92) (ht : TUR σ a m) (hs : σ.o a 0 = 305) (hσ : SGS σ (m + 1) ≤ sgI σ ∧ 0 ≤ sgI σ) (ec : c = 2 :: c0) (hcl : ∀ (s : CS) (DT : Nat → List Nat) (KT : Nat → Prop) (c0' : List Nat) (lim lim0 : List Int), s.o a 0 = 305 → ROW1 s DT KT a c0' c lim lim0 → c0' = c0 ∧ lim0 = lim) (hd : (σ.i 38).toInt = (c.length : Int) ∧ c.length ≤ 21) (hp : 1 ≤ p) (hb : x2.toInt = (b : Int) ∧ (b, c) ∈ X) (hk : t.toInt = (k : Int) ∧ (k, c) ∈ X) (hX : ∀ q ∈ X0, q ∈ X) (h : GHC H x y c X (k :: b :: P) (ccI σ :: T) σ p 0 1 a m t s) : ok (f_X7_beginCatch_80 N s a x2) (fun R => TNQ H (x - 200) y X0 P T σ R.2 ∧ (R.2.i 32 = 0 → R.2.o a 0 = 215)) := by
  obtain ⟨nf, hm, ea, nr, m4⟩ := (show TUR σ a m from ht)
  have emσ : (cnI σ).toNat = m + 1 := by omega
  unfold f_X7_beginCatch_80 f_X0_newCells
  refine ok_bind (Q := fun w => w.2 = CS.setI s 23 (s.i 23 + 1)) (ok_some rfl) (fun w hw => ?_)
  rw [hw]
  have ir := (IRR.rf h.1.1).i 23 (s.i 23 + 1) (by unfold IRJ; omega) (by omega)
  have h1 := h.cp (h.1.irr ir) ⟨ir.1.2.2.2.1, ir.1.2.2.2.2.1⟩
  generalize CS.setI s 23 (s.i 23 + 1) = s1 at *
  refine ok_bind (q_newNameG hN h1) (fun q h2 => ?_)
  refine ok_bind (q_nad h2.1.1.2.2.2.2.2.1 q.1 w.1 (q.2.i 38 - 1)) (fun r hr => ?_)
  have e1 : (1 : Int32).toInt = 1 := by decide
  have h3 := h2.cp (h2.1.nad hr (fun z => by
    have i38 : q.2.i 38 = σ.i 38 := (h2.1.2.2.2 z).2.2.2.1.1
    right
    have lc : c.length = c0.length + 1 := by rw [ec]; rfl
    refine ⟨c0.length, ?_, by rw [lc]; omega, [], c0, ec, rfl⟩
    rw [i38, toInt_sub] <;> rw [e1] <;> omega)) ⟨hr.1.2.2.2.1, hr.1.2.2.2.2.1⟩
  refine ok_bind (h3.1.cl hN 41 (by decide) ⟨by rw [emσ]; exact hσ.1, hσ.2, by rw [emσ]; exact nr⟩ (by omega)) (fun u hu => ?_)
  have h4 := h3.cp hu.1 hu.2
  refine ok_bind (q_open hN h4.1.1 123) (fun v hv => ?_)
  have vo : v.2.o = u.2.o ∧ v.2.ol = u.2.ol := by
    rcases hv with hf | ⟨-, -, ha⟩
    · exact ⟨hf.1.2.2.2.1, hf.1.2.2.2.2.1⟩
    · exact ⟨ha.1.1.2.2.2.1, ha.1.1.2.2.2.2.1⟩
  have h5 := h4.cp (h4.1.op (by decide) hv) vo
  refine ok_chk (h5.1.1.1.2.1 m a m4 h5.1.2.1.1) ?_
  rw [h5.2.2.2.1]
  refine ok_bind (q_add N v.2 30 t) (fun d hd' => ?_)
  have h6 := h5.cp (h5.1.add (c1 := c) hd' (by omega) (by omega) (fun _ => hd.2) (fun _ DT KT qX => IOK.jmp (by decide) hk.1 hk.2 qX)) ⟨hd'.1.2.2.2.1, hd'.1.2.2.2.2.1⟩
  refine ok_bind (q_aim N d.2 x2) (fun f hf => ?_)
  have h7 := h6.cp (h6.1.aim (P' := k :: P) hf (by omega) (by omega) (fun _ DT KT qX _ => by
    have w := TTc.x qX hb.1 hb.2
    exact ⟨w.1, w.2.1, w.2.2.1⟩) (fun _ j hj => by
    rcases List.mem_cons.mp hj with e | e
    · left; rw [e]; exact List.mem_cons_self ..
    · rcases List.mem_cons.mp e with e | e
      · right; rw [e]; exact hb.1.symm
      · left; exact List.mem_cons_of_mem _ e)) ⟨hf.1.2.2.2.1, hf.1.2.2.2.2.1⟩
  refine ok_bind (q_add N f.2 57 w.1) (fun g hg => ok_some ?_)
  have h8 := h7.cp (h7.1.add (c1 := c) hg (by omega) (by omega) (fun _ => hd.2) (fun _ _ _ _ => IOK.fall (by decide))) ⟨hg.1.2.2.2.1, hg.1.2.2.2.2.1⟩
  have ir2 := (IRR.rf h8.1.1).i 36 1 (by unfold IRJ; omega) (fun _ => Or.inr rfl)
  have h9 := h8.cp (h8.1.irr ir2) ⟨ir2.1.2.2.2.1, ir2.1.2.2.2.2.1⟩
  show TNQ H (x - 200) y X0 P T σ (CS.setI g.2 36 1) ∧ ((CS.setI g.2 36 1).i 32 = 0 → (CS.setI g.2 36 1).o a 0 = 215)
  generalize CS.setI g.2 36 1 = F at *
  obtain ⟨gF, fl, F0, F10, Fj⟩ := h9
  refine ⟨?_, fun _ => F0⟩
  have g6 := gF.w (x' := x - 200) (y' := y) (p' := 1) (e0' := 0) (by omega) (by omega) (by omega) (by omega)
  refine GHS.end g6 ht hσ.1 (by omega) (by omega) hX (fun z => ⟨fl, Fj 3 (by omega), by rw [F0]; decide, by rw [hs]; decide, by unfold sgn; rw [F0, hs]; rfl⟩) (fun z => ?_) (fun z DT KT c0' lim0 qX w => ?_) (fun _ j hj => ?_) (fun _ j w => Or.inr ?_) (fun _ _ _ w => w)
  · have : F.i 38 = σ.i 38 := (gF.2.2.2 z).2.2.2.1.1
    rw [this]
    exact ⟨hd.1.symm, hd.2⟩
  · have woa : (wO F a (σ.o a) (σ.ol a)).o a = σ.o a := by rw [wO.o]; exact if_pos rfl
    have so : (wO F a (σ.o a) (σ.ol a)).o a 0 = 305 := by rw [woa]; exact hs
    have e := hcl _ DT KT c0' _ lim0 so w
    have t9 := w.cx.2.2.2.2.1 (Or.inr (Or.inr (Or.inr (Or.inl so))))
    have t11 := w.cx.2.2.2.2.2.2 (Or.inr (Or.inr so))
    obtain ⟨w1, w2, -⟩ := w
    rw [woa] at t9 w1 w2 t11
    have w2' : ∀ n : Nat, (n : Int) < (σ.o a 3).toInt → NMT (F.a 49 n) c0' := w2
    have t9' : TTc (tcI F) DT KT (σ.o a 9) c0' := t9
    have t11' : KTc (tcI F) DT KT (σ.o a 11) (3 :: c0') := t11
    refine ⟨by rw [Fj 2 (by omega)]; exact w1, by rw [Fj 3 (by omega)]; exact w2', Or.inr (Or.inr (Or.inr (Or.inr (Or.inr (Or.inr (Or.inr (Or.inr (Or.inr (Or.inl ⟨F0, by rw [e.1]; exact ec, ?_, ?_, ?_, e.2⟩)))))))))⟩
    · rw [Fj 9 (by omega)]; exact t9'
    · rw [F10, e.1, ← ec]; exact TTc.x qX hk.1 hk.2
    · rw [Fj 11 (by omega)]; exact t11'
  · rcases List.mem_cons.mp hj with e | e
    · right; right
      rw [F0, F10, e]
      exact ⟨by decide, hk.1⟩
    · exact Or.inl e
  · unfold OWS at w ⊢
    rw [F0, Fj 9 (by omega)]
    rw [hs] at w
    rcases w with w | w
    · exact Or.inl ⟨by decide, by decide, by decide, by decide, w.2.2.2.2⟩
    · exact absurd w.1 (by decide)
theorem GHC.w {H : HB} {x y x' y' : Int} {c : List Nat} {X : List (Nat × List Nat)} {P : List Nat} {lim : List Int} {σ : CS} {p e0 e p' e0' : Int} {a m : Nat} {t : Int32} {s : CS} (h : GHC H x y c X P lim σ p e0 e a m t s) (hx : x ≤ x') (hy : y ≤ y') (hp : p' ≤ p) (he : e0' ≤ e0) : GHC H x' y' c X P lim σ p' e0' e a m t s := ⟨h.1.w hx hy hp he, h.2⟩
theorem q_bc52 {N : Nat} {H : HB} (hN : 1000 ≤ N) {x y : Int} {c c0 : List Nat} {X X0 : List (Nat × List Nat)} {P : List Nat} {T : List Int} {σ : CS} {p : Int} {a m b k : Nat} {t x2 : Int32} (hx : x ≤ 4500) (hy : y ≤ 92) (ht : TUR σ a m) (hs : σ.o a 0 = 305) (hσ : SGS σ (m + 1) ≤ sgI σ ∧ 0 ≤ sgI σ) (ec : c = 2 :: c0) (hcl : ∀ (s : CS) (DT : Nat → List Nat) (KT : Nat → Prop) (c0' : List Nat) (lim lim0 : List Int), s.o a 0 = 305 → ROW1 s DT KT a c0' c lim lim0 → c0' = c0 ∧ lim0 = lim) (hd : (σ.i 38).toInt = (c.length : Int) ∧ c.length ≤ 21) (hp : 1 ≤ p) (hb : x2.toInt = (b : Int) ∧ (b, c) ∈ X ∧ b ≤ 2000) (hk : t.toInt = (k : Int) ∧ (k, c) ∈ X) (hX : ∀ q ∈ X0, q ∈ X) : ∀ (n : Nat) (s : CS) (x3 : Int32), 0 ≤ x3.toInt → x3.toInt ≤ 900 → 900 - x3.toInt < n → GHC H x y c X (k :: b :: P) (ccI σ :: T) σ p 0 1 a m t s → ok (f_X7_beginCatch_52 N n s a x2 x3) (fun R => TNQ H (x - 200) y X0 P T σ R.2 ∧ (R.2.i 32 = 0 → R.2.o a 0 = 215))
  | 0, _, _, _, _, h, _ => by omega
  | n + 1, s, x3, z0, z9, hn, h => by
    show ok (b_X7_beginCatch_52 N (f_X7_beginCatch_52 N n) s a x2 x3) _
    unfold b_X7_beginCatch_52
    have e9 : (900 : Int32).toInt = 900 := by decide
    have e1 : (1 : Int32).toInt = 1 := by decide
    have out : ok (f_X7_beginCatch_80 N s a x2) (fun R => TNQ H (x - 200) y X0 P T σ R.2 ∧ (R.2.i 32 = 0 → R.2.o a 0 = 215)) := q_bc80 hN hx hy ht hs hσ ec hcl hd hp ⟨hb.1, hb.2.1⟩ hk hX h
    refine ok_ite (fun _ => out) (fun c9 => ?_)
    have l : x3.toInt < 900 := by
      have := lt_int (Int32.not_le.mp c9)
      rw [e9] at this; exact this
    have es : (x3 + 1).toInt = x3.toInt + 1 := by rw [toInt_add] <;> rw [e1] <;> omega
    refine ok_bind (q_skip hN h.1.1 124) (fun q hq => ?_)
    rcases hq with ⟨q1, q2, q3⟩ | ⟨q1, q2, q3⟩
    · rw [if_pos q1, q2]; exact out
    · rw [q1, if_neg (by decide)]
      have mo := q3.mono h.1.1.2.2.1
      have h1 := h.cp (h.1.adv (x' := x) (y' := y) (p' := 0) (e0' := 0) q3 (fun _ => by omega) (fun _ => by omega)) ⟨q3.1.1.2.2.2.1, q3.1.1.2.2.2.2.1⟩
      refine ok_bind (q_caughtKind hN (by omega) (by omega) hd.2 hb h1) (fun r hr => ?_)
      exact q_bc52 hN hx hy ht hs hσ ec hcl hd hp hb hk hX n r.2 (x3 + 1) (by omega) (by omega) (by omega) (hr.w (by omega) (Int.le_refl _) (by omega) (by omega))
theorem q_beginCatch {N : Nat} {H : HB} (hN : 1000 ≤ N) {x y : Int} {c : List Nat} {X : List (Nat × List Nat)} {P : List Nat} {T : List Int} {σ : CS} {a m : Nat} (hx : x ≤ 4000) (hy : y ≤ 90) (h : JJ H x y c X P (ccI σ :: T) σ) (ht : TUR σ a m) (hs : σ.o a 0 = 305) (htk : σ.i 43 = 215) : ok (f_X7_beginCatch N σ a) (fun R => TNQ H x y X P T σ R.2 ∧ (R.2.i 32 = 0 → R.2.o a 0 = 215)) := by
  obtain ⟨nf, hm, ea, nr, m4⟩ := (show TUR σ a m from ht)
  obtain ⟨DT0, KT0, c0, lim0, r0⟩ := h.row ht
  have ec := (r0.cx.2.2.1 (Or.inr hs)).1
  have nb := (h.2 nf).2
  have em : (cnI σ).toNat = m + 1 := by omega
  have sg := nb.2.2.2.2.2.2.1
  rw [em] at sg
  have ds := h.ds nf
  have hcl : ∀ (s : CS) (DT : Nat → List Nat) (KT : Nat → Prop) (c0' : List Nat) (lim lim0 : List Int), s.o a 0 = 305 → ROW1 s DT KT a c0' c lim lim0 → c0' = c0 ∧ lim0 = lim := fun s DT KT c0' lim lim0 e r => by
    have w := r.cx.2.2.1 (Or.inr e)
    rw [ec] at w
    exact ⟨(List.cons.inj w.1).2.symm, w.2⟩
  have tc0 : 0 ≤ tcI σ ∧ tcI σ ≤ 1010 := ⟨(h.2 nf).1.tc0.1, (nb.sz h.1.2.2.1 h.1.2.2.2.2.2.2.1.1 (by omega) (by omega)).2⟩
  unfold f_X7_beginCatch
  refine ok_bind (q_newTarget N σ) (fun p hp => ?_)
  obtain ⟨p1, p2⟩ := hp
  have g1 := (GHS.rf h ea m4).new p1 (by omega) (by omega) c
  have eb : p.1.toInt = ((tcI σ).toNat : Int) := by rw [p2]; show tcI σ = _; omega
  obtain ⟨b, hb⟩ : ∃ b, b = (tcI σ).toNat := ⟨_, rfl⟩
  rw [← hb] at g1 eb
  obtain ⟨tn, -, -⟩ := p1.n (by omega)
  refine ok_chk (g1.1.1.2.1 m a m4 g1.2.1.1) ?_
  have g2 := (g1.set 0 215 (by omega) (by decide)).set 8 1 (fun _ => Or.inr rfl) (by decide)
  have ou := ((OUV.rf p.2 a).o 0 215).o 8 1
  have po : p.2.o = σ.o := p1.1.2.2.2.1
  have pol : p.2.ol = σ.ol := p1.1.2.2.2.2.1
  have Wo : (CS.setO (CS.setO p.2 a 0 215) a 8 1).o a = upd (upd (σ.o a) 0 215) 8 1 := by
    have := ou.2.2.1
    rw [po] at this
    exact this
  have Wl : (CS.setO (CS.setO p.2 a 0 215) a 8 1).ol a = σ.ol a := by
    have := ou.2.2.2
    rw [pol] at this
    exact this
  have Wi : (CS.setO (CS.setO p.2 a 0 215) a 8 1).i = p.2.i := ou.1.2.2.2.2.2.2.2.2.2
  generalize CS.setO (CS.setO p.2 a 0 215) a 8 1 = W at *
  have tW : tcI W = tcI σ + 1 := by rw [← tn]; unfold tcI; rw [Wi]
  refine ok_bind (q_newTarget N W) (fun q hq => ?_)
  obtain ⟨q1, q2⟩ := hq
  have g3 := g2.new q1 (by omega) (by omega) c
  have ek : q.1.toInt = ((tcI W).toNat : Int) := by rw [q2]; show tcI W = _; omega
  obtain ⟨k, hk⟩ : ∃ k, k = (tcI W).toNat := ⟨_, rfl⟩
  rw [← hk] at g3 ek
  refine ok_chk (g3.1.1.2.1 m a m4 g3.2.1.1) ?_
  have g4 := g3.set 10 q.1 (by omega) (by decide)
  have ou2 := (OUV.rf q.2 a).o 10 q.1
  have Bo : (CS.setO q.2 a 10 q.1).o a = upd (upd (upd (σ.o a) 0 215) 8 1) 10 q.1 := by
    have := ou2.2.2.1
    rw [q1.1.2.2.2.1, Wo] at this
    exact this
  have Bl : (CS.setO q.2 a 10 q.1).ol a = σ.ol a := by
    have := ou2.2.2.2
    rw [q1.1.2.2.2.2.1, Wl] at this
    exact this
  have Bi : (CS.setO q.2 a 10 q.1).i = q.2.i := ci_setO ..
  generalize CS.setO q.2 a 10 q.1 = B at *
  have B43 : B.i 43 = 215 := by rw [Bi, q1.2.1 43 (by decide), Wi, p1.2.1 43 (by decide)]; exact htk
  have hB : GHC H x (y + 1 + 1) c ((k, c) :: (b, c) :: X) (k :: b :: P) (ccI σ :: T) σ 0 0 0 a m q.1 B := ⟨g4, Bl, by rw [Bo]; rfl, by rw [Bo]; rfl, fun j hj => by
    rw [Bo]
    exact (if_neg (by omega)).trans ((if_neg (by omega)).trans (if_neg (by omega)))⟩
  refine ok_bind (q_advC hN hB.1.1) (fun r hr => ?_)
  have wd := hr.wd hB.1.1.2.2.1 (Or.inl (by rw [B43]; decide))
  have h1 := hB.cp (hB.1.adv (x' := x - 200) (y' := y - 1) (p' := 2) (e0' := 3) hr (fun _ => by omega) (fun _ => wd)) ⟨hr.1.1.2.2.2.1, hr.1.1.2.2.2.2.1⟩
  refine ok_bind (q_open hN h1.1.1 40) (fun v hv => ?_)
  have vo : v.2.o = r.2.o ∧ v.2.ol = r.2.ol := by
    rcases hv with hf | ⟨-, -, ha⟩
    · exact ⟨hf.1.2.2.2.1, hf.1.2.2.2.2.1⟩
    · exact ⟨ha.1.1.2.2.2.1, ha.1.1.2.2.2.2.1⟩
  have h2 := h1.cp (h1.1.op (by decide) hv) vo
  have mb : (b, c) ∈ (k, c) :: (b, c) :: X := List.mem_cons_of_mem _ (List.mem_cons_self ..)
  have mk : (k, c) ∈ (k, c) :: (b, c) :: X := List.mem_cons_self ..
  refine ok_bind (q_caughtKind hN (by omega) (by omega) ds.2 ⟨eb, mb, by omega⟩ h2) (fun f hf => ?_)
  have h3 := hf.w (x' := x - 200) (y' := y) (p' := 1) (e0' := 0) (by omega) (by omega) (by omega) (by omega)
  exact ok_imp (q_bc52 (X0 := X) (P := P) (T := T) hN (by omega) (by omega) ht hs ⟨sg, nb.2.2.2.1.1⟩ ec hcl ds (by omega) ⟨eb, mb, by omega⟩ ⟨ek, mk⟩ (fun _ z => List.mem_cons_of_mem _ (List.mem_cons_of_mem _ z)) N f.2 0 (by decide) (by decide) (by rw [z_t0]; omega) h3) (fun R hR => ⟨hR.1.w (by omega) (Int.le_refl _), hR.2⟩)
