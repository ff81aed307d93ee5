section
/-! the class's reading: lock, switch -/
theorem IOK.lock {tc : Int} {DT : Nat → List Nat} {KT : Nat → Prop} {x : Int32} {c : List Nat} : IOK tc DT KT 53 x c (0 :: c) := ⟨fun q => absurd q (by decide), fun q => absurd q (by decide), fun _ q => absurd q (by decide), fun _ q => absurd q (by decide), fun q => absurd q (by decide), fun _ => rfl, fun q => absurd q (by decide), fun q => absurd q (by decide), fun q => absurd q (by decide), fun q => absurd q (by decide), fun q => absurd q (by decide), fun q => absurd q (by decide), by decide⟩
theorem q_lock58 {N : Nat} {H : HB} (hN : 1000 ≤ N) {x y : Int} {c : List Nat} {X : List (Nat × List Nat)} {P : List Nat} {lim : List Int} {s0 s : CS} (hx : x ≤ 4000) (hy : y ≤ 90) (h : JK H x y (0 :: c) c c X P lim s) (h0 : S0G s0) (hs : s.i 32 = 0 → SX 3 3 1 s0 s) : ok (f_X7_beginLock_58 N s) (fun R => STQ H (x - 20) (y + 1) X P lim s0 R.2) := by
  unfold f_X7_beginLock_58
  refine ok_bind (q_clsK hN h (fun z => ?_) 41 (by decide)) (fun p hp => ?_)
  · have sx := hs z
    have ecn : cnI s = cnI s0 := by unfold cnI; rw [sx.2.2.2.1.2.1]
    obtain ⟨i1, i2, i3, i4, i5⟩ := sx.2.2.2.2.2.1.sums h0.2.1
    have := sx.2.2.1
    have := h0.2.2.2.2.1.2
    have := h0.2.2.2.2.2.2.2.2
    rw [ecn, i2]
    omega
  obtain ⟨j1, m1⟩ := hp
  refine ok_bind (q_open hN j1.1 123) (fun q hq => ?_)
  obtain ⟨j2, m2⟩ := j1.op (by decide) hq
  have x2 : q.2.i 32 = 0 → SX 3 3 1 s0 q.2 := fun z => (((hs (m1 (m2 z).1).1).tr (m1 (m2 z).1).sx).tr (m2 z).sx).w (by omega) (by omega) (by omega)
  refine ok_bind (PRX.of (N := N) j2 x2 212 _ _ j2.1.nm) (fun w hw => ?_)
  obtain ⟨v, a, m, r1, px, ⟨o0, o2, o3, ol⟩, ⟨o9, o10, o11⟩, ri, ra⟩ := hw
  rw [r1]
  show ok ((f_X0_newTarget N w.2).bind fun p40 => if oK p40.2 a 0 then some ((), CS.setI (CS.setO p40.2 a 9 p40.1) 38 ((p40.2.i 38) + 1)) else none) _
  refine ok_bind (q_newTarget N w.2) (fun n hn => ?_)
  obtain ⟨n1, n2⟩ := hn
  obtain ⟨pn, pno, pnl⟩ := px.new n1 (by omega) (by omega) c
  have en : w.2.i 32 = 0 → n.1.toInt = ((tcI w.2).toNat : Int) := fun z => px.tc z n2
  obtain ⟨b, hb'⟩ : ∃ b, b = (tcI w.2).toNat := ⟨_, rfl⟩
  rw [← hb'] at pn en
  refine ok_chk pn.1.2.1.1 (ok_some ?_)
  have ou := (OUV.rf n.2 a).o 9 n.1
  have cT := pn.1.1.o a 9 n.1 (by omega) (by omega)
  have py := pn.cel ou cT
  have To : (CS.setO n.2 a 9 n.1).o a = upd (w.2.o a) 9 n.1 := by
    have := ou.2.2.1
    rw [pno] at this
    exact this
  have Ti : ∀ j : Nat, j ≠ 21 → (CS.setO n.2 a 9 n.1).i j = w.2.i j := fun j hj => by
    rw [show (CS.setO n.2 a 9 n.1).i = n.2.i from ou.1.2.2.2.2.2.2.2.2.2, n1.2.1 j hj]
  have Tn : (CS.setO n.2 a 9 n.1).i 38 = n.2.i 38 := by rw [show (CS.setO n.2 a 9 n.1).i = n.2.i from ou.1.2.2.2.2.2.2.2.2.2]
  show STQ H (x - 20) (y + 1) X P lim s0 (CS.setI (CS.setO n.2 a 9 n.1) 38 (n.2.i 38 + 1))
  rw [← Tn]
  generalize CS.setO n.2 a 9 n.1 = T at *
  have nU : T.i 32 = 0 → w.2.i 32 = 0 := fun z => by rw [Ti 32 (by decide)] at z; exact z
  have T0 : T.o a 0 = 212 := by rw [To]; exact o0
  have T2 : T.o a 2 = T.i 38 := by rw [To, Ti 38 (by decide)]; exact o2.trans (ri 38 (by decide) (by decide)).symm
  have T3 : T.o a 3 = T.i 50 := by rw [To, Ti 50 (by decide)]; exact o3.trans (ri 50 (by decide) (by decide)).symm
  have T9 : T.o a 9 = n.1 := by rw [To]; rfl
  refine (PRX.in (κ := 3) (X' := X) py h0 rfl (by rw [T0]; decide) (fun _ z => List.mem_cons_of_mem _ z) (fun nf DT KT qX qN => ⟨?_, qN, ?_⟩) (fun nf k hk => ?_) (fun nf => py.lm nf) (fun nf => ?_) ?_ (by omega) (by omega) (by omega) (fun nf V v1 v2 v3 => ?_)).w (by omega) (by omega)
  · rw [T2]; exact (py.ds nf).1
  · refine Or.inr (Or.inr (Or.inr (Or.inr (Or.inr (Or.inr (Or.inr (Or.inl ⟨T0, rfl, ?_, rfl⟩)))))))
    rw [T9]; exact TTc.x qX (en (nU nf)) (List.mem_cons_self ..)
  · rcases List.mem_cons.mp hk with e | e
    · right; left
      rw [T0, T9, e]
      exact ⟨by decide, by decide, by decide, by decide, en (nU nf)⟩
    · exact Or.inl e
  · rw [T3]
    exact ⟨py.nm nf, Int.le_refl _⟩
  · unfold sgn; rw [T0]; rfl
  · exact v1.pl v2 v3 (by rw [cr_setI]; exact py.1.2.1.2.1) (v := 212) (by rw [co_setI]; exact T0) (by decide)
theorem q_beginLock {N : Nat} {H : HB} (hN : 1000 ≤ N) {x y : Int} {c : List Nat} {X : List (Nat × List Nat)} {P : List Nat} {lim : List Int} {s : CS} (hx : x ≤ 4000) (hy : y ≤ 90) (h : JJ H x y c X P lim s) (h0 : S0G s) (ht : s.i 43 = 212) : ok (f_X7_beginLock N s) (fun R => STQ H (x - 20) y X P lim s R.2) := by
  unfold f_X7_beginLock
  have nf := h0.1
  refine ok_bind (q_advC hN h.1) (fun p hp => ?_)
  obtain ⟨j1, e1⟩ := h.word hp (fun _ => by rw [ht]; decide)
  refine ok_bind (q_open hN j1.1 40) (fun q hq => ?_)
  obtain ⟨j2, m2⟩ := j1.op (by decide) hq
  have x2 : q.2.i 32 = 0 → SX 3 3 1 s q.2 := fun z => ((e1 (m2 z).1).tr (m2 z).sx).w (by omega) (by omega) (by omega)
  refine ok_bind (q_found q.2 3) (fun r hr => ?_)
  obtain ⟨r1, r2⟩ := hr
  rw [r1]
  rcases r2 with ⟨r2, r3⟩ | ⟨r2, r3⟩
  · rw [if_pos r2]
    refine ok_bind (q_expJ hN j2 224 (by decide)) (fun u hu => ?_)
    obtain ⟨j3, e3⟩ := hu
    refine ok_bind (q_throwNull (N := N) (c1 := 0 :: c) (by omega) (by omega) j3.k (fun z => (j3.ds z).2)) (fun v hv => ?_)
    obtain ⟨j4, e4, -⟩ := hv
    exact ok_imp (q_lock58 hN (by omega) (by omega) j4 h0 (fun z => (((x2 (e3 (e4 z).1).1).tr (e3 (e4 z).1).sx).tr (e4 z)).w (by omega) (by omega) (by omega))) (fun T hT => hT.w (by omega) (by omega))
  · rw [r2, if_neg (by decide)]
    refine ok_bind (q_add N q.2 53 _) (fun u hu => ?_)
    have j3 := j2.k.add (c1 := 0 :: c) hu (by omega) (by omega) (fun z => (j2.ds z).2) (fun _ _ _ _ _ _ => IOK.lock)
    refine ok_bind (q_advC hN j3.1) (fun v hv => ?_)
    have f := hu.f32
    have tk := hv.tk1 j3.1.2.2.1 (by rw [f.2.1, r3]; decide)
    have j4 : JK H (x - 300) (y - 3) (0 :: c) c c X P lim v.2 := j3.adv hv (fun _ => by omega)
    refine ok_imp (q_lock58 hN (by omega) (by omega) j4 h0 (fun z => ?_)) (fun T hT => hT.w (by omega) (by omega))
    have z1 := hv.f32.symm.trans z
    have z2 := f.1.symm.trans z1
    exact (((x2 z2).tr (hu.sx z2)).tr (hv.smr.sx (p := 1) (g := 0) z1 (by omega))).w (by omega) (by omega) (by omega)
theorem q_beginSwitch {N : Nat} {H : HB} (hN : 1000 ≤ N) {k : Int} {E1 : CS → Option (Unit × CS)} {E2 : CS → Option (Int32 × CS)} (hE : EC H k E1) {x y : Int} {c : List Nat} {X : List (Nat × List Nat)} {P : List Nat} {T : List Int} {s : CS} (hx : x ≤ 4000) (hy : y + 3 * k ≤ 87 ∧ 0 ≤ k) (h : JJ H x y c X P (ccI s :: T) s) (h0 : S0G s) (hk : 24 - sgI s ≤ k) (ht : s.i 43 = 218) : ok (f_X7_beginSwitch N E1 E2 s) (fun R => STQ H (x - 20) y X P (ccI s :: T) s R.2) := by
  unfold f_X7_beginSwitch
  have nf := h0.1
  refine ok_bind (q_advC hN h.1) (fun p hp => ?_)
  obtain ⟨j1, e1⟩ := h.word hp (fun _ => by rw [ht]; decide)
  refine ok_bind (q_open hN j1.1 40) (fun q hq => ?_)
  obtain ⟨j2, m2⟩ := j1.op (by decide) hq
  have x2 : q.2.i 32 = 0 → SX 3 3 1 s q.2 := fun z => ((e1 (m2 z).1).tr (m2 z).sx).w (by omega) (by omega) (by omega)
  refine ok_bind (q_expression (E2 := E2) hN hE _ _ c X P _ q.2 (by omega) (by omega) j2 (fun z => by have := (x2 z).2.2.1; omega)) (fun r hr => ?_)
  obtain ⟨j3, e3⟩ := hr
  have x3 : r.2.i 32 = 0 → SX 3 3 1 s r.2 := fun z => ((x2 (e3 z).1).tr (e3 z).sx).w (by omega) (by omega) (by omega)
  refine ok_bind (q_clos hN j3 (fun z => ?_) 41 (by decide)) (fun u hu => ?_)
  · have sx := x3 z
    have ecn : cnI r.2 = cnI s := by unfold cnI; rw [sx.2.2.2.1.2.1]
    obtain ⟨i1, i2, i3, i4, i5⟩ := sx.2.2.2.2.2.1.sums h0.2.1
    have := sx.2.2.1
    have := h0.2.2.2.2.1.2
    have := h0.2.2.2.2.2.2.2.2
    rw [ecn, i2]
    omega
  obtain ⟨j4, m4⟩ := hu
  refine ok_bind (q_open hN j4.1 123) (fun b hb => ?_)
  obtain ⟨j5, m5⟩ := j4.op (by decide) hb
  have x5 : b.2.i 32 = 0 → SX 3 3 1 s b.2 := fun z => (((x3 (m4 (m5 z).1).1).tr (m4 (m5 z).1).sx).tr (m5 z).sx).w (by omega) (by omega) (by omega)
  refine ok_bind (PRX.of (N := N) j5.k x5 218 _ _ j5.1.nm) (fun w hw => ?_)
  obtain ⟨v, a, m, r1, px, ⟨o0, o2, o3, ol⟩, ⟨o9, o10, o11⟩, ri, ra⟩ := hw
  rw [r1]
  show ok ((f_X0_newTarget N w.2).bind fun p31 => if oK p31.2 a 0 then (f_X0_newTarget N (CS.setO p31.2 a 10 p31.1)).bind fun p36 => if oK p36.2 a 0 then (f_X0_add N (CS.setO (CS.setO p36.2 a 9 p36.1) a 13 (p36.2.i 22)) 30 (CS.o (CS.setO (CS.setO p36.2 a 9 p36.1) a 13 (p36.2.i 22)) a 10)).bind fun p41 => some ((), p41.2) else none else none) _
  refine ok_bind (q_newTarget N w.2) (fun n hn => ?_)
  obtain ⟨n1, n2⟩ := hn
  obtain ⟨pn, pno, pnl⟩ := px.new n1 (by omega) (by omega) c
  have en : w.2.i 32 = 0 → n.1.toInt = ((tcI w.2).toNat : Int) := fun z => px.tc z n2
  obtain ⟨t, ht'⟩ : ∃ t, t = (tcI w.2).toNat := ⟨_, rfl⟩
  rw [← ht'] at pn en
  refine ok_chk pn.1.2.1.1 ?_
  have ou := (OUV.rf n.2 a).o 10 n.1
  have cA := pn.1.1.o a 10 n.1 (by omega) (by omega)
  have pA := pn.cel ou cA
  have Ao : (CS.setO n.2 a 10 n.1).o a = upd (w.2.o a) 10 n.1 := by
    have := ou.2.2.1
    rw [pno] at this
    exact this
  have Ai : ∀ j : Nat, j ≠ 21 → (CS.setO n.2 a 10 n.1).i j = w.2.i j := fun j hj => by
    rw [show (CS.setO n.2 a 10 n.1).i = n.2.i from ou.1.2.2.2.2.2.2.2.2.2, n1.2.1 j hj]
  generalize CS.setO n.2 a 10 n.1 = A at *
  refine ok_bind (q_newTarget N A) (fun d hd => ?_)
  obtain ⟨d1, d2⟩ := hd
  obtain ⟨pd, pdo, pdl⟩ := pA.new d1 (by omega) (by omega) c
  have ed : A.i 32 = 0 → d.1.toInt = ((tcI A).toNat : Int) := fun z => pA.tc z d2
  obtain ⟨u', hu'⟩ : ∃ u, u = (tcI A).toNat := ⟨_, rfl⟩
  rw [← hu'] at pd ed
  refine ok_chk pd.1.2.1.1 ?_
  have ou2 := ((OUV.rf d.2 a).o 9 d.1).o 13 (d.2.i 22)
  have cB := (pd.1.1.o a 9 d.1 (by omega) (by omega)).o a 13 (d.2.i 22) (by omega) (by omega)
  have pB := pd.cel ou2 cB
  have Bo : (CS.setO (CS.setO d.2 a 9 d.1) a 13 (d.2.i 22)).o a = upd (upd (upd (w.2.o a) 10 n.1) 9 d.1) 13 (d.2.i 22) := by
    have := ou2.2.2.1
    rw [pdo, Ao] at this
    exact this
  have Bi : (CS.setO (CS.setO d.2 a 9 d.1) a 13 (d.2.i 22)).i = d.2.i := ou2.1.2.2.2.2.2.2.2.2.2
  generalize CS.setO (CS.setO d.2 a 9 d.1) a 13 (d.2.i 22) = B at *
  have B10 : B.o a 10 = n.1 := by rw [Bo]; rfl
  rw [B10]
  have nB : B.i 32 = 0 → A.i 32 = 0 ∧ w.2.i 32 = 0 := fun z => by
    rw [Bi, d1.2.1 32 (by decide)] at z
    exact ⟨z, (Ai 32 (by decide)).symm.trans z⟩
  have mu : (u', c) ∈ (u', c) :: (t, c) :: X := List.mem_cons_self ..
  have mt : (t, c) ∈ (u', c) :: (t, c) :: X := List.mem_cons_of_mem _ (List.mem_cons_self ..)
  refine ok_bind (q_add N B 30 n.1) (fun f hf => ok_some ?_)
  obtain ⟨py, pyo, pyl⟩ := pB.add (c1 := c) hf (by omega) (by omega) (fun z => (pB.ds z).2) (fun z DT KT qX => IOK.jmp (by decide) (en (nB z).2) mt qX)
  show STQ H (x - 20) y X P (ccI s :: T) s f.2
  have Fo : f.2.o a = upd (upd (upd (w.2.o a) 10 n.1) 9 d.1) 13 (d.2.i 22) := by rw [pyo, Bo]
  have Fi : ∀ j : Nat, j ≠ 20 → j ≠ 21 → f.2.i j = w.2.i j := fun j j1 j2 => by rw [hf.2.1 j j1, Bi, d1.2.1 j j2, Ai j j2]
  have nF : f.2.i 32 = 0 → A.i 32 = 0 ∧ w.2.i 32 = 0 := fun z => nB (hf.f32.1.symm.trans z)
  have F0 : f.2.o a 0 = 218 := by rw [Fo]; exact o0
  have F9 : f.2.o a 9 = d.1 := by rw [Fo]; rfl
  have F10 : f.2.o a 10 = n.1 := by rw [Fo]; rfl
  have F11 : f.2.o a 11 = -1 := by rw [Fo]; exact o11
  have F13 : f.2.o a 13 = f.2.i 22 := by
    rw [Fo, hf.2.1 22 (by decide), Bi]; rfl
  have F2 : f.2.o a 2 = f.2.i 38 := by rw [Fo, Fi 38 (by decide) (by decide)]; exact o2.trans (ri 38 (by decide) (by decide)).symm
  have F3 : f.2.o a 3 = f.2.i 50 := by rw [Fo, Fi 50 (by decide) (by decide)]; exact o3.trans (ri 50 (by decide) (by decide)).symm
  have ecc : f.2.i 32 = 0 → (f.2.o a 13).toInt = ccI s := fun z => by
    rw [F13]
    have w1 := (py.2 z).2.2.2.1.2.2.2
    have w2 : f.2.i 22 = s.i 22 := w1
    rw [w2]; rfl
  refine (PRX.end (κ := 3) (X' := X) py h0 (by rw [F0]; decide) (fun _ z => List.mem_cons_of_mem _ (List.mem_cons_of_mem _ z)) (fun nf DT KT qX qN => ⟨?_, qN, ?_⟩) (fun nf k hk => ?_) (fun nf => py.lm nf) (fun nf => ?_) ?_ (by omega) (by omega) (by omega) (fun nf V v1 v2 v3 => ?_)).w (by omega) (by omega)
  · rw [F2]; exact (py.ds nf).1
  · refine Or.inr (Or.inr (Or.inr (Or.inr (Or.inr (Or.inr (Or.inl ⟨F0, rfl, ?_, ?_, Or.inl ?_, ccI s, T, rfl, ?_, ?_, ?_⟩))))))
    · rw [F9]; exact TTc.x qX (ed (nF nf).1) mu
    · rw [F10]; exact TTc.x qX (en (nF nf).2) mt
    · rw [F11]; decide
    · rw [ecc nf]
    · rw [ecc nf]; exact Int.le_refl _
    · intro i q1 q2
      rw [ecc nf] at q1
      omega
  · rcases List.mem_cons.mp hk with e | e
    · right; left
      rw [F0, F9, e]
      exact ⟨by decide, by decide, by decide, by decide, ed (nF nf).1⟩
    · rcases List.mem_cons.mp e with e | e
      · right; right
        rw [F0, F10, e]
        exact ⟨by decide, en (nF nf).2⟩
      · exact Or.inl e
  · rw [F3]
    exact ⟨py.nm nf, Int.le_refl _⟩
  · unfold sgn; rw [F0]; rfl
  · exact v1.pl v2 v3 py.1.2.1.2.1 F0 (by decide)
end
section
/-! the class's reading: the innermost row changes -/
theorem GW.top {cD c c' : List Nat} {X : List (Nat × List Nat)} {P P' : List Nat} {lim lim1 : List Int} {s R : CS} {a m : Nat} (h : GW cD c X P lim s) (hm : cnI s = (m : Int) + 1) (hs : SCD s R) (hc : cnI R = cnI s) (ea : s.r 51 m = some a) (eR : R.r 51 m = some a) (hr : RSQ s R m) (hR : ∀ (DT : Nat → List Nat) (KT : Nat → Prop) (c0 : List Nat) (lim0 : List Int), (∀ q ∈ X, (q.1 : Int) < tcI s ∧ DT q.1 = q.2 ∧ ¬ KT q.1) → ROW1 s DT KT a c0 c lim lim0 → ROW1 R DT KT a c0 c' lim1 lim0) (hP : ∀ k ∈ P, k ∈ P' ∨ OWS R a k) (hO : ∀ k : Nat, (k : Int) < tcI s → OWS s a k → (s.a 17 k).toInt = -1 → k ∈ P' ∨ OWS R a k) (hN : ∀ n : Nat, (n : Int) < nmI s → NMT (s.a 49 n) c → NMT (s.a 49 n) c') (hi : lmh lim1 ≤ ccI s) (h3 : R.o a 3 = s.o a 3) (hax : arx R a = arx s a) : GW cD c' X P' lim1 R := by
  obtain ⟨D, DT, KT, h1, h2, h3', h4, h5, ⟨n, n1, n2, n3⟩, h7, h8, h9, h10⟩ := h
  obtain ⟨⟨e1, e2, e3, e4, e5⟩, ⟨e6, e7, e8, e9⟩⟩ := hs
  have en : n = m + 1 := by omega
  rw [en] at n3
  obtain ⟨b, c0, lim0, r1, r2, r3, r4⟩ := n3
  rw [ea] at r1
  cases r1
  have etc : tcI R = tcI s := by unfold tcI; rw [e7]
  have esz : szI R = szI s := by unfold szI; rw [e6]
  have enm : nmI R = nmI s := by unfold nmI; rw [e8]
  have ecc : ccI R = ccI s := by unfold ccI; rw [e9]
  have nr := r4.nr
  refine ⟨D, DT, KT, ?_, ?_, fun t q1 q2 q3 => ?_, by rw [esz]; exact h4, by rw [etc]; exact h5, ⟨m + 1, by omega, by omega, a, c0, lim0, eR, ?_, hR DT KT c0 lim0 h5 r3, ?_⟩, fun k hk => ?_, by rw [etc]; exact h8, by rw [ecc]; exact hi, fun i d hi' e => ?_⟩
  · unfold CDT at *; rw [e1, e2, etc, esz]; exact h1
  · unfold TGS at *; rw [e3, etc, esz]; exact h2
  · rw [etc] at q1
    rw [e3] at q3
    rcases h3' t q1 q2 q3 with z | ⟨i, d, z1, z2, z3⟩
    · rcases hP t z with w | w
      · exact Or.inl w
      · exact Or.inr ⟨m, a, by omega, eR, w⟩
    · by_cases ei : i = m
      · rw [ei, ea] at z2
        cases z2
        rcases hO t q1 z3 q3 with w | w
        · exact Or.inl w
        · exact Or.inr ⟨m, a, by omega, eR, w⟩
      · have q := hr i (by omega)
        exact Or.inr ⟨i, d, by omega, q.1.trans z2, by unfold OWS at *; rw [(q.2 d z2).1]; exact z3⟩
  · rw [(hr.sums nr).2.1, hax]
    exact r2
  · exact r4.mono (by omega) (fun _ _ => ⟨rfl, Iff.rfl⟩) (fun t _ q => by rw [e3]; exact q) hr (fun k _ => by rw [e4]) (fun _ _ _ _ k _ => by rw [e5]) nr
  · rw [enm] at hk
    rw [e5]
    exact hN k hk (h7 k hk)
  · have old : ∀ j d : Nat, (j : Int) < cnI s → R.r 51 j = some d → s.r 51 j = some d ∧ R.o d 3 = s.o d 3 := fun j d hj ej => by
      by_cases cj : j = m
      · rw [cj, eR] at ej
        cases ej
        rw [cj]
        exact ⟨ea, h3⟩
      · have q := hr j (by omega)
        have z := q.1.symm.trans ej
        exact ⟨z, by rw [(q.2 d z).1]⟩
    rw [hc] at hi'
    have q := old i d hi' e
    have z := h10 i d hi' q.1
    rw [enm, q.2]
    refine ⟨z.1, fun j b' y1 y2 y3 => ?_⟩
    rw [hc] at y2
    have w := old j b' y2 y3
    rw [w.2]
    exact z.2 j b' y1 y2 w.1
theorem NB.top {x y : Int} {d d' : List Nat} {s R : CS} {a m : Nat} (hn : NB x y d s) (hm : cnI s = (m : Int) + 1) (ea : s.r 51 m = some a) (eR : R.r 51 m = some a) (hr : RSQ s R m) (nr : NR s m) (hi : R.i 20 = s.i 20 ∧ R.i 21 = s.i 21 ∧ R.i 22 = s.i 22 ∧ R.i 34 = s.i 34 ∧ R.i 43 = s.i 43 ∧ R.i 44 = s.i 44 ∧ R.i 53 = s.i 53 ∧ R.i 56 = s.i 56) (hd : (d'.length : Int) = dsI R ∧ d'.length ≤ 21) (hl : R.ol a = s.ol a) (hs : R.o a 0 = s.o a 0 ∨ ((¬ R.o a 0 = 300 ∧ ¬ R.o a 0 = 301 ∧ ¬ R.o a 0 = 302 ∧ ¬ R.o a 0 = 303) ∧ (¬ s.o a 0 = 300 ∧ ¬ s.o a 0 = 301 ∧ ¬ s.o a 0 = 302 ∧ ¬ s.o a 0 = 303))) (hg : SGS R (m + 1) ≤ sgI s) : NB x y d' R := by
  obtain ⟨f1, f2, f3, f4, f5, f6, f7, f8⟩ := hi
  have ecn : cnI R = cnI s := by unfold cnI; rw [f7]
  have etc : tcI R = tcI s := by unfold tcI; rw [f2]
  have ecc : ccI R = ccI s := by unfold ccI; rw [f3]
  have esz : szI R = szI s := by unfold szI; rw [f1]
  have esg : sgI R = sgI s := by unfold sgI; rw [f4]
  have epl : plI R = plI s := by unfold plI; rw [f6]
  have ee : eI R = eI s := by unfold eI; rw [epl, f5]
  obtain ⟨c1, c2, c3, c4, c5, c6, c7, c8, c9⟩ := hn
  have em : (cnI s).toNat = m + 1 := by omega
  rw [em] at c5 c6 c7
  obtain ⟨i1, i2, i3, i4, i5⟩ := hr.sums nr
  have es := rowA.of ea
  have er := rowA.of eR
  have cst : cost R a = cost s a := by
    unfold cost
    rcases hs with e | ⟨⟨u1, u2, u3, u4⟩, w1, w2, w3, w4⟩
    · rw [e, hl]
    · rw [if_neg (fun z => z.elim u1 u2), if_neg u3, if_neg (fun z => u4 z.1), if_neg (fun z => z.elim w1 w2), if_neg w3, if_neg (fun z => w4 z.1)]
  have wc : WCS R (m + 1) = WCS s (m + 1) := by
    show WCS R m + cost R (rowA R m) = WCS s m + cost s (rowA s m)
    rw [i1, es, er, cst]
  have bl : BLS R (m + 1) = BLS s (m + 1) := by
    show BLS R m + (if R.o (rowA R m) 0 = 301 then 1 else 0) = BLS s m + (if s.o (rowA s m) 0 = 301 then 1 else 0)
    rw [i3, es, er]
    rcases hs with e | ⟨⟨u1, u2, u3, u4⟩, w1, w2, w3, w4⟩
    · rw [e]
    · rw [if_neg u2, if_neg w2]
  have am : AMS R (m + 1) = AMS s (m + 1) := by
    show AMS R m + (if R.o (rowA R m) 0 = 302 then 1 else 0) = AMS s m + (if s.o (rowA s m) 0 = 302 then 1 else 0)
    rw [i4, es, er]
    rcases hs with e | ⟨⟨u1, u2, u3, u4⟩, w1, w2, w3, w4⟩
    · rw [e]
    · rw [if_neg u3, if_neg w3]
  have kl : KLS R (m + 1) = KLS s (m + 1) := by
    unfold KLS
    rw [i5, es, er, hl]
    rcases hs with e | ⟨⟨u1, u2, u3, u4⟩, w1, w2, w3, w4⟩
    · rw [e]
    · rw [if_neg u3, if_neg (fun z => u4 z.1), if_neg w3, if_neg (fun z => w4 z.1)]
  have iq : IQ R (m + 1) := fun k hk => by
    by_cases ck : k ≤ m
    · exact (IQ.of (fun j hj => c5 j (by omega)) hr nr) k ck
    · have e : k = m + 1 := by omega
      rw [e, wc, bl, am, kl]
      exact c5 (m + 1) (Nat.le_refl _)
  refine ⟨by omega, by omega, by omega, by omega, by rw [ecn, em]; exact iq, by rw [ecn, em, wc, ee]; exact c6, by rw [ecn, em, esg]; exact hg, hd, ?_⟩
  rw [f8, ecn]
  refine ⟨c9.1, c9.2.1, fun b q1 q2 => ?_⟩
  by_cases z : (s.i 56).toInt.toNat = m
  · rw [z, eR] at q2
    cases q2
    have w := c9.2.2 a q1 (by rw [z]; exact ea)
    rcases hs with e | ⟨-, w1, w2, w3, w4⟩
    · rw [e]; exact w
    · exact absurd w w3
  · have lt : (s.i 56).toInt.toNat < m := by have := c9.2.1; omega
    have q := hr _ lt
    have w := q.1.symm.trans q2
    rw [(q.2 b w).1]
    exact c9.2.2 b q1 w
theorem JK.top {H : HB} {x y : Int} {cD c c' d d' : List Nat} {X : List (Nat × List Nat)} {P P' : List Nat} {lim lim1 : List Int} {s R : CS} {a m : Nat} (h : JK H x y cD c d X P lim s) (hb : CBS H R) (h32 : R.i 32 = s.i 32) (ea : s.r 51 m = some a) (eR : R.r 51 m = some a) (hx : s.i 32 = 0 → cnI s = (m : Int) + 1 ∧ SCD s R ∧ RSQ s R m ∧ (R.i 34 = s.i 34 ∧ R.i 43 = s.i 43 ∧ R.i 44 = s.i 44 ∧ R.i 53 = s.i 53 ∧ R.i 56 = s.i 56) ∧ R.ol a = s.ol a ∧ R.o a 3 = s.o a 3) (hd : s.i 32 = 0 → (d'.length : Int) = dsI R ∧ d'.length ≤ 21) (hs : s.i 32 = 0 → R.o a 0 = s.o a 0 ∨ ((¬ R.o a 0 = 300 ∧ ¬ R.o a 0 = 301 ∧ ¬ R.o a 0 = 302 ∧ ¬ R.o a 0 = 303) ∧ (¬ s.o a 0 = 300 ∧ ¬ s.o a 0 = 301 ∧ ¬ s.o a 0 = 302 ∧ ¬ s.o a 0 = 303))) (hg : s.i 32 = 0 → SGS R (m + 1) ≤ sgI s) (hR : s.i 32 = 0 → ∀ (DT : Nat → List Nat) (KT : Nat → Prop) (c0 : List Nat) (lim0 : List Int), (∀ q ∈ X, (q.1 : Int) < tcI s ∧ DT q.1 = q.2 ∧ ¬ KT q.1) → ROW1 s DT KT a c0 c lim lim0 → ROW1 R DT KT a c0 c' lim1 lim0) (hP : s.i 32 = 0 → ∀ k ∈ P, k ∈ P' ∨ OWS R a k) (hO : s.i 32 = 0 → ∀ k : Nat, (k : Int) < tcI s → OWS s a k → (s.a 17 k).toInt = -1 → k ∈ P' ∨ OWS R a k) (hN : s.i 32 = 0 → ∀ n : Nat, (n : Int) < nmI s → NMT (s.a 49 n) c → NMT (s.a 49 n) c') (hi : s.i 32 = 0 → lmh lim1 ≤ ccI s) : JK H x y cD c' d' X P' lim1 R := by
  refine ⟨hb, fun q => ?_⟩
  have q' := h32.symm.trans q
  obtain ⟨g, n⟩ := h.2 q'
  obtain ⟨cm, scd, rq, ⟨f1, f2, f3, f4, f5⟩, ol, o3⟩ := hx q'
  have nr : NR s m := fun i hi => h.1.2.2.2.2.2.2.1.2.2 i (by omega)
  exact ⟨g.top cm scd (by unfold cnI; rw [f4]) ea eR rq (hR q') (hP q') (hO q') (hN q') (hi q') o3 (by
    unfold arx
    rcases hs q' with w | ⟨w1, w2⟩
    · rw [w]
    · rw [if_neg w1.2.2.1, if_neg w2.2.2.1]), n.top cm ea eR rq nr ⟨scd.2.1, scd.2.2.1, scd.2.2.2.2, f1, f2, f3, f4, f5⟩ (hd q') ol (hs q') (hg q')⟩
/-- the fields that a row's typing looks at -/
theorem ROW1.fl {s R : CS} {DT : Nat → List Nat} {KT : Nat → Prop} {a : Nat} {c0 c : List Nat} {lim lim' : List Int} (h : ROW1 s DT KT a c0 c lim lim') (ho : ∀ j : Nat, j = 0 ∨ j = 2 ∨ j = 3 ∨ j = 9 ∨ j = 10 ∨ j = 11 ∨ j = 13 → R.o a j = s.o a j) (ht : tcI R = tcI s) (h49 : R.a 49 = s.a 49) (h19 : R.a 19 = s.a 19) : ROW1 R DT KT a c0 c lim lim' := by
  unfold ROW1 at *
  rw [ho 0 (by omega), ho 2 (by omega), ho 3 (by omega), ho 9 (by omega), ho 10 (by omega), ho 11 (by omega), ho 13 (by omega), ht, h49, h19]
  exact h
/-- a field that nothing looks at, in the innermost row -/
theorem JK.fld {H : HB} {x y : Int} {cD c d : List Nat} {X : List (Nat × List Nat)} {P : List Nat} {lim : List Int} {s : CS} {a m : Nat} (h : JK H x y cD c d X P lim s) (ea : s.r 51 m = some a) (m4 : m < 400) (hm : s.i 32 = 0 → cnI s = (m : Int) + 1) (k : Nat) (w : Int32) (hk : k = 1 ∨ k = 4 ∨ (5 ≤ k ∧ k ≤ 8) ∨ k = 12 ∨ k = 14 ∨ k = 15 ∨ k = 16) (hb : (5 ≤ k ∧ k ≤ 8) → bo w) : JK H x y cD c d X P lim (CS.setO s a k w) := by
  have cb := h.1.o a k w hb (by omega)
  have ou := (OUV.rf s a).o k w
  have oj : ∀ j : Nat, j ≠ k → (CS.setO s a k w).o a j = s.o a j := fun j hj => by
    rw [show (CS.setO s a k w).o a = upd (s.o a) k w from ou.2.2.1]
    exact if_neg hj
  have ok2 : ∀ t : Nat, OWS s a t → OWS (CS.setO s a k w) a t := fun t q => by
    unfold OWS at *
    rw [oj 0 (by omega), oj 9 (by omega), oj 10 (by omega)]
    exact q
  have rq : RSQ s (CS.setO s a k w) m := fun i hi => ⟨by rw [cr_setO], fun b eb => by
    have ne : b ≠ a := fun z => by
      rw [z] at eb
      have := h.1.1.2.2.1 i m a (by omega) m4 eb ea
      omega
    exact ou.2.1 b ne⟩
  have i0 : (CS.setO s a k w).i = s.i := ci_setO ..
  have a0 : (CS.setO s a k w).a = s.a := ca_setO ..
  have r0 : (CS.setO s a k w).r = s.r := cr_setO ..
  have l0 : (CS.setO s a k w).ol = s.ol := col_setO ..
  generalize CS.setO s a k w = R at *
  refine h.top cb (by rw [i0]) ea (by rw [r0]; exact ea) (fun q => ⟨hm q, ⟨⟨by rw [a0], by rw [a0], by rw [a0], by rw [a0], by rw [a0]⟩, by rw [i0], by rw [i0], by rw [i0], by rw [i0]⟩, rq, ⟨by rw [i0], by rw [i0], by rw [i0], by rw [i0], by rw [i0]⟩, by rw [l0], oj 3 (by omega)⟩) (fun q => ?_) (fun q => Or.inl (oj 0 (by omega))) (fun q => ?_) (fun q DT KT c0 lim0 _ z => z.fl (fun j hj => oj j (by omega)) (by unfold tcI; rw [i0]) (by rw [a0]) (by rw [a0])) (fun q k hk => Or.inl hk) (fun q t _ z _ => Or.inr (ok2 t z)) (fun q n _ z => z) (fun q => (h.2 q).1.lim)
  · have n := (h.2 q).2.2.2.2.2.2.2.2.1
    unfold dsI at *
    rw [i0]
    exact n
  · have n := (h.2 q).2.2.2.2.2.2.2.1
    have em : (cnI s).toNat = m + 1 := by have := hm q; omega
    rw [em] at n
    have nr : NR s m := fun i hi => h.1.2.2.2.2.2.2.1.2.2 i (by omega)
    have i2 := (rq.sums nr).2.1
    have er := rowA.of (show R.r 51 m = some a by rw [r0]; exact ea)
    have es := rowA.of ea
    have e : SGS R (m + 1) = SGS s (m + 1) := by
      show SGS R m + sgn R (rowA R m) = SGS s m + sgn s (rowA s m)
      rw [i2, er, es]
      unfold sgn
      rw [oj 0 (by omega)]
    rw [e]
    exact n
end
section
/-! the class's reading: a try begins -/
theorem GW.try {c : List Nat} {X : List (Nat × List Nat)} {P : List Nat} {lim : List Int} {s T : CS} {a m : Nat} (h : GW c c X P lim s) (hl : c.length ≤ 21) (hlen : (c.length : Int) ≤ SGS s m) (hm : (m : Int) = cnI s) (m4 : m < 400) (hc : cnI T = (m : Int) + 1) (ea : T.r 51 m = some a) (hr : RSQ s T m) (a15 : T.a 15 = gPut (s.a 15) 1200 (s.i 20) 54) (a16 : T.a 16 = gPut (s.a 16) 1200 (s.i 20) (T.o a 10)) (h20 : szI T = szI s + 1) (h21 : tcI T = tcI s + 3) (a17o : ∀ k : Nat, (k : Int) < tcI s → T.a 17 k = s.a 17 k) (a17n : ∀ k : Nat, tcI s ≤ (k : Int) → (k : Int) < tcI s + 3 → (T.a 17 k).toInt = -1) (h19 : T.a 19 = s.a 19) (h49 : T.a 49 = s.a 49) (h22 : T.i 22 = s.i 22) (h50 : T.i 50 = s.i 50) (o0 : T.o a 0 = 213) (o2 : (T.o a 2).toInt = (c.length : Int)) (o3 : (T.o a 3).toInt = nmI s) (o10 : (T.o a 10).toInt = tcI s) (o11 : (T.o a 11).toInt = tcI s + 1) (o9 : (T.o a 9).toInt = tcI s + 2) (htc : tcI s ≤ 1010) : GW (1 :: c) (1 :: c) X P lim T := by
  obtain ⟨D, DT, KT, h1, h2, h3, h4, h5, ⟨n, n1, n2, n3⟩, h7, h8, h9, h10⟩ := h
  have en : n = m := by omega
  rw [en] at n3
  have h40 := h4.1
  have eS : ((szI s).toNat : Int) = szI s := Int.toNat_of_nonneg h40
  have eT : ((tcI s).toNat : Int) = tcI s := Int.toNat_of_nonneg h8
  obtain ⟨N0, hN0⟩ : ∃ N0, N0 = (tcI s).toNat := ⟨_, rfl⟩
  rw [← hN0] at eT
  obtain ⟨DT', hD⟩ : ∃ DT' : Nat → List Nat, DT' = fun t => if t = N0 then 2 :: c else if t = N0 + 1 then 3 :: c else if t = N0 + 2 then c else DT t := ⟨_, rfl⟩
  obtain ⟨KT', hK⟩ : ∃ KT' : Nat → Prop, KT' = fun t => t = N0 + 1 ∨ (t < N0 ∧ KT t) := ⟨_, rfl⟩
  have lo : ∀ k : Nat, (k : Int) < tcI s → DT' k = DT k ∧ (KT' k ↔ KT k) := fun k q => by
    rw [hD, hK]
    refine ⟨?_, ⟨fun z => ?_, fun z => Or.inr ⟨by omega, z⟩⟩⟩
    · show (if k = N0 then 2 :: c else if k = N0 + 1 then 3 :: c else if k = N0 + 2 then c else DT k) = DT k
      rw [if_neg (by omega), if_neg (by omega), if_neg (by omega)]
    · rcases z with z | z
      · omega
      · exact z.2
  have d0 : DT' N0 = 2 :: c := by rw [hD]; exact if_pos rfl
  have d1 : DT' (N0 + 1) = 3 :: c := by
    rw [hD]
    show (if N0 + 1 = N0 then 2 :: c else if N0 + 1 = N0 + 1 then 3 :: c else if N0 + 1 = N0 + 2 then c else DT (N0 + 1)) = 3 :: c
    rw [if_neg (by omega), if_pos rfl]
  have d2 : DT' (N0 + 2) = c := by
    rw [hD]
    show (if N0 + 2 = N0 then 2 :: c else if N0 + 2 = N0 + 1 then 3 :: c else if N0 + 2 = N0 + 2 then c else DT (N0 + 2)) = c
    rw [if_neg (by omega), if_neg (by omega), if_pos rfl]
  have k0 : ¬ KT' N0 := by rw [hK]; rintro (z | z) <;> omega
  have k1 : KT' (N0 + 1) := by rw [hK]; exact Or.inl rfl
  have k2 : ¬ KT' (N0 + 2) := by rw [hK]; rintro (z | z) <;> omega
  clear hD hK
  have t10 : TTc (tcI T) DT' KT' (T.o a 10) (2 :: c) := by
    have e : (T.o a 10).toInt.toNat = N0 := by omega
    exact ⟨by omega, by omega, by rw [e]; exact d0, by rw [e]; exact k0⟩
  have t9 : TTc (tcI T) DT' KT' (T.o a 9) c := by
    have e : (T.o a 9).toInt.toNat = N0 + 2 := by omega
    exact ⟨by omega, by omega, by rw [e]; exact d2, by rw [e]; exact k2⟩
  have t11 : KTc (tcI T) DT' KT' (T.o a 11) (3 :: c) := by
    have e : (T.o a 11).toInt.toNat = N0 + 1 := by omega
    exact ⟨by omega, by omega, by rw [e]; exact d1, by rw [e]; exact k1⟩
  have e1 : (1 : Int32).toInt = 1 := by decide
  have x11 : (T.o a 10 + 1).toInt = tcI s + 1 := by rw [toInt_add] <;> rw [e1] <;> omega
  have tx : KTc (tcI T) DT' KT' (T.o a 10 + 1) (3 :: c) := by
    have e : (T.o a 10 + 1).toInt.toNat = N0 + 1 := by omega
    exact ⟨by omega, by omega, by rw [e]; exact d1, by rw [e]; exact k1⟩
  have ecc : ccI T = ccI s := by unfold ccI; rw [h22]
  have enm : nmI T = nmI s := by unfold nmI; rw [h50]
  have nr := n3.nr
  refine ⟨fun p => if p = (szI s).toNat + 1 then 1 :: c else D p, DT', KT', fun p p1 p2 => ?_, fun t q => ?_, fun t q1 q2 q3 => ?_, ⟨by omega, ?_, ?_⟩, fun q hq => ?_, ⟨m + 1, by omega, by omega, a, c, lim, ea, ?_, ⟨o2, fun k hk => ?_, ?_⟩, ?_⟩, fun k hk => ?_, by omega, by rw [ecc]; exact h9, fun i b hi' e => ?_⟩
  · have np : p ≠ (szI s).toNat + 1 := by omega
    show IOK (tcI T) DT' KT' (T.a 15 p) (T.a 16 p) (if p = (szI s).toNat + 1 then 1 :: c else D p) (if p + 1 = (szI s).toNat + 1 then 1 :: c else D (p + 1)) ∧ (if p = (szI s).toNat + 1 then 1 :: c else D p).length ≤ 21
    rw [if_neg np, a15, a16]
    by_cases c9 : (p : Int) = szI s
    · have e' : p = (szI s).toNat := by omega
      rw [gPut_at c9 p1, gPut_at c9 p1, if_pos (by omega), e', h4.2.1]
      refine ⟨⟨fun q => absurd q (by decide), fun q => absurd q (by decide), fun _ q => absurd q (by decide), fun _ q => absurd q (by decide), fun q => absurd q (by decide), fun q => absurd q (by decide), fun _ => ⟨rfl, t10, tx⟩, fun q => absurd q (by decide), fun q => absurd q (by decide), fun q => absurd q (by decide), fun q => absurd q (by decide), fun q => absurd q (by decide), by decide⟩, hl⟩
    · rw [gPut_ne c9, gPut_ne c9, if_neg (by omega)]
      have z := h1 p p1 (by omega)
      exact ⟨z.1.mono (by omega) lo, z.2⟩
  · by_cases c3 : (t : Int) < tcI s
    · rw [a17o t c3, h20, (lo t c3).1]
      rcases h2 t c3 with z | ⟨z1, z2, z3⟩
      · exact Or.inl z
      · refine Or.inr ⟨z1, by omega, ?_⟩
        show (if (s.a 17 t).toInt.toNat = (szI s).toNat + 1 then 1 :: c else D (s.a 17 t).toInt.toNat) = DT t
        rw [if_neg (by omega)]
        exact z3
    · exact Or.inl (a17n t (by omega) (by omega))
  · by_cases c3 : (t : Int) < tcI s
    · rw [a17o t c3] at q3
      rcases h3 t c3 (fun z => q2 ((lo t c3).2.mpr z)) q3 with z | z
      · exact Or.inl z
      · exact Or.inr (z.of (by omega) (fun i b hi e => by
          have w := hr i (by omega)
          exact ⟨w.1.trans e, (w.2 b e).1⟩))
    · refine Or.inr ⟨m, a, by omega, ea, ?_⟩
      by_cases c4 : t = N0
      · right
        rw [o0]
        exact ⟨by decide, by omega⟩
      · by_cases c5 : t = N0 + 1
        · exact absurd (by rw [c5]; exact k1) q2
        · left
          rw [o0]
          exact ⟨by decide, by decide, by decide, by decide, by omega⟩
  · show (if (szI T).toNat = (szI s).toNat + 1 then 1 :: c else D (szI T).toNat) = 1 :: c
    rw [if_pos (by omega)]
  · show (if 0 = (szI s).toNat + 1 then 1 :: c else D 0) = []
    rw [if_neg (by omega)]; exact h4.2.2
  · obtain ⟨z1, z2, z3⟩ := h5 q hq
    have y := lo q.1 z1
    exact ⟨by omega, by rw [y.1]; exact z2, fun w => z3 (y.2.mp w)⟩
  · rw [(hr.sums nr).2.1]
    have := arx.nn T a
    omega
  · rw [h49]; exact h7 k (by omega)
  · exact Or.inr (Or.inr (Or.inr (Or.inr (Or.inr (Or.inr (Or.inr (Or.inr (Or.inl ⟨o0, rfl, t9, t10, t11, rfl⟩))))))))
  · exact n3.mono (by omega) lo (fun t q0 q => by rw [a17o t q0]; exact q) hr (fun k _ => by rw [h19]) (fun _ _ _ _ k _ => by rw [h49]) nr
  · rw [enm] at hk
    rw [h49]
    exact (h7 k hk).cons 1
  · have old : ∀ j d : Nat, j < m → T.r 51 j = some d → s.r 51 j = some d ∧ T.o d = s.o d := fun j d hj ej => by
      have q := hr j hj
      have z := q.1.symm.trans ej
      exact ⟨z, (q.2 d z).1⟩
    rw [enm]
    by_cases ci : i = m
    · rw [ci, ea] at e
      cases e
      exact ⟨by omega, fun j d y1 y2 _ => by omega⟩
    · have q := old i b (by omega) e
      have z := h10 i b (by omega) q.1
      rw [q.2]
      refine ⟨z.1, fun j d y1 y2 y3 => ?_⟩
      by_cases cj : j = m
      · rw [cj, ea] at y3
        cases y3
        have := z.1
        omega
      · have w := old j d (by omega) y3
        rw [w.2]
        exact z.2 j d y1 (by omega) w.1
theorem NB.row {x y e : Int} {d d' : List Nat} {s R : CS} {a m : Nat} (h : NB x y d s) (hm : (m : Int) = cnI s) (hc : cnI R = (m : Int) + 1) (ha : R.r 51 m = some a) (hr : RSQ s R m) (h1 : tcI R = tcI s ∧ ccI R = ccI s ∧ szI R ≤ szI s + e ∧ plI R = plI s ∧ eI R = eI s) (hsg : SGS R (m + 1) ≤ sgI R ∧ 0 ≤ sgI R ∧ sgI R ≤ 20) (hd : (d'.length : Int) = dsI R ∧ d'.length ≤ 21) (hq : IQ R (m + 1)) (hw : WCS R (m + 1) ≤ eI s) (h56 : R.i 56 = s.i 56) : NB (x + 50 + e) y d' R := by
  obtain ⟨c1, c2, c3, c4, c5, c6, c7, c8, c9⟩ := h
  obtain ⟨f1, f2, f3, f4, f5⟩ := h1
  have ecn : (cnI R).toNat = m + 1 := by omega
  refine ⟨by omega, by omega, by omega, ⟨hsg.2.1, hsg.2.2⟩, by rw [ecn]; exact hq, by rw [ecn, f5]; exact hw, by rw [ecn]; exact hsg.1, hd, ?_⟩
  rw [h56]
  refine ⟨c9.1, by omega, fun b q1 q2 => ?_⟩
  have lt : (s.i 56).toInt.toNat < m := by have := c9.2.1; omega
  have q := hr _ lt
  have z : s.r 51 (s.i 56).toInt.toNat = some b := q.1.symm.trans q2
  rw [(q.2 b z).1]
  exact c9.2.2 b q1 z
/-- with one more sign begun than there is -/
noncomputable def vir (s : CS) : CS := CS.setI s 34 (s.i 34 + 1)
def JW (H : HB) (x y : Int) (c : List Nat) (X : List (Nat × List Nat)) (P : List Nat) (lim : List Int) (s0 : CS) (a m : Nat) (s : CS) : Prop := CBS H s ∧ (s.r 51 m = some a ∧ m < 400) ∧ (s.i 34 < 20 → JJ H x y c X P lim (vir s) ∧ (s.i 32 = 0 → cnI s = (m : Int) + 1 ∧ (m : Int) = cnI s0 ∧ SRL s0 (vir s)))
theorem vir.i (s : CS) (j : Nat) (hj : j ≠ 34) : (vir s).i j = s.i j := ci_ne _ _ _ hj
theorem SX.srl2 {p g : Int} {s T R : CS} (h : SRL s T) (k : SX p g 0 T R) (hp : 0 ≤ p) (hg : 0 ≤ g) (nr : NR T (cnI T).toNat) : SRL s R := by
  obtain ⟨a0, a1, a2, a3, a4, a5, a6, a7, a8, a9, h5⟩ := h
  obtain ⟨b0, ⟨b1, b2⟩, b3, ⟨b4, b5, b6, b7⟩, b8, b9, b10, b11⟩ := k
  have ecn : cnI R = cnI T := by unfold cnI; rw [b5]
  have ecc : ccI T = ccI s := by unfold ccI; rw [a8]
  obtain ⟨i1, i2, i3, i4, i5⟩ := b9.sums nr
  refine ⟨a0, ⟨by omega, by omega⟩, by rw [ecn, i2]; omega, by omega, a4.tr (b9.lo (by omega)), fun n hn => (b10 n (by omega)).trans (a5 n hn), fun i hi => ?_, b6.trans a7, b7.trans a8, by omega, fun y z b eb => ?_⟩
  case refine_2 =>
    have w := b9 (cnI s).toNat (by omega)
    have e := w.1.symm.trans eb
    rw [(w.2 b e).1]
    exact h5 y (by omega) b e
  have w := b11 i (by omega)
  exact ⟨w.1.trans (a6 i hi).1, w.2.trans (a6 i hi).2⟩
theorem vir.adv {s R : CS} (h : ADV s R) : ADV (vir s) (vir R) := by
  have e34 : R.i 34 = s.i 34 := h.1.2 34 (by decide) (by decide) (by decide) (by decide)
  obtain ⟨⟨b, b1⟩, h2, h3, h4, h5⟩ := h
  unfold vir
  rw [e34]
  refine ⟨⟨b, fun j q1 q2 q3 q4 => ?_⟩, h2, ?_, ?_, ?_⟩
  · by_cases q : j = 34
    · rw [q, ci_at, ci_at]
    · rw [ci_ne _ _ _ q, ci_ne _ _ _ q]; exact b1 j q1 q2 q3 q4
  · rw [ci_ne _ _ _ (by decide), ci_ne _ _ _ (by decide)]; exact h3
  · rw [ci_ne _ _ _ (by decide), ci_ne _ _ _ (by decide), ci_ne _ _ _ (by decide), ci_ne _ _ _ (by decide)]; exact h4
  · rw [ci_ne _ _ _ (by decide), ci_ne _ _ _ (by decide)]; exact h5
theorem vir.add {s R : CS} {o x : Int32} (h : ADD s R o x) : ADD (vir s) (vir R) o x := by
  have e34 : R.i 34 = s.i 34 := h.2.1 34 (by decide)
  obtain ⟨b, b11, b12, b13, b14, b15⟩ := h
  unfold vir
  rw [e34]
  refine ⟨b, fun j hj => ?_, ?_, b13, ?_, ?_⟩
  · by_cases q : j = 34
    · rw [q, ci_at, ci_at]
    · rw [ci_ne _ _ _ q, ci_ne _ _ _ q]; exact b11 j hj
  · rw [ci_ne _ _ _ (by decide), ci_ne _ _ _ (by decide)]; exact b12
  · rw [ca_setI, ca_setI, ci_ne _ _ _ (by decide)]; exact b14
  · rw [ca_setI, ca_setI, ci_ne _ _ _ (by decide)]; exact b15
theorem JW.w {H : HB} {x y x' y' : Int} {c : List Nat} {X : List (Nat × List Nat)} {P : List Nat} {lim : List Int} {s0 s : CS} {a m : Nat} (h : JW H x y c X P lim s0 a m s) (hx : x ≤ x') (hy : y ≤ y') : JW H x' y' c X P lim s0 a m s := ⟨h.1, h.2.1, fun q => ⟨(h.2.2 q).1.w hx hy, (h.2.2 q).2⟩⟩
theorem JW.flt {H : HB} {x y : Int} {c : List Nat} {X : List (Nat × List Nat)} {P : List Nat} {lim : List Int} {s0 s R : CS} {a m : Nat} (h : CBS H s) (hm : s.r 51 m = some a ∧ m < 400) (hf : FLD s R) : JW H x y c X P lim s0 a m R := by
  have cb := hf.t9.cb h hf.2.2.1 (fun _ => hf.2.2.2.2) (fun q => absurd q hf.2.2.2.1)
  have nf := hf.2.2.2.1
  refine ⟨cb, ⟨by rw [hf.1.2.2.2.2.2.2.2.1]; exact hm.1, hm.2⟩, fun _ => ⟨⟨((TS9.rf R).i34 _).cb cb cb.2.2.1 (fun _ => ?_) (fun q => (ci_ne _ _ _ (by decide)).symm.trans q), fun q => ?_⟩, fun q => absurd q nf⟩⟩
  · rw [ci_ne _ _ _ (by decide)]; exact hf.2.2.2.2
  · exact absurd ((vir.i R 32 (by decide)).symm.trans q) nf
theorem JW.adv {H : HB} {x y : Int} {c : List Nat} {X : List (Nat × List Nat)} {P : List Nat} {lim : List Int} {s0 s R : CS} {a m : Nat} (h : JW H x y c X P lim s0 a m s) (ha : ADV s R) (h0 : s.i 32 = 0 → ¬ s.i 43 = 0) : JW H (x - 100) y c X P lim s0 a m R := by
  obtain ⟨h1, ⟨h2, h3⟩, h4⟩ := h
  have va := vir.adv ha
  have e32 := ha.f32
  have e34 : R.i 34 = s.i 34 := ha.1.2 34 (by decide) (by decide) (by decide) (by decide)
  have e53 : R.i 53 = s.i 53 := ha.1.2 53 (by decide) (by decide) (by decide) (by decide)
  refine ⟨ha.1.t9.cb h1 ha.2.1 (fun q => ha.2.2.2.2 (h1.2.2.2.2.1 (by rw [← e32]; exact q))) (fun q => e32.symm.trans q), ⟨by rw [ha.1.1.2.2.2.2.2.2.2.1]; exact h2, h3⟩, fun q => ?_⟩
  obtain ⟨j, k⟩ := h4 (by rw [← e34]; exact q)
  obtain ⟨j2, e2⟩ := j.tk va (fun z => by rw [vir.i s 43 (by decide)]; exact h0 ((vir.i s 32 (by decide)).symm.trans z))
  refine ⟨j2, fun z => ?_⟩
  have z1 := e32.symm.trans z
  obtain ⟨k1, k2, k3⟩ := k z1
  exact ⟨by rw [← k1]; unfold cnI; rw [e53], k2, SX.srl2 k3 (e2 ((vir.i R 32 (by decide)).trans z)).sx (by omega) (by omega) j.1.2.2.2.2.2.2.1.2.2⟩
theorem JW.add {H : HB} {x y : Int} {c : List Nat} {X : List (Nat × List Nat)} {P : List Nat} {lim : List Int} {s0 s R : CS} {a m : Nat} {o v : Int32} (h : JW H x y c X P lim s0 a m s) (ha : ADD s R o v) (hx : x ≤ 10000) (hy : y ≤ 100) (ho : o.toInt < 30 ∨ (36 ≤ o.toInt ∧ o.toInt < 50) ∨ o.toInt = 51 ∨ o.toInt = 52 ∨ o.toInt = 55 ∨ o.toInt = 57) : JW H (x + 1) y c X P lim s0 a m R := by
  obtain ⟨h1, ⟨h2, h3⟩, h4⟩ := h
  have va := vir.add ha
  have e34 : R.i 34 = s.i 34 := ha.2.1 34 (by decide)
  have e53 : R.i 53 = s.i 53 := ha.2.1 53 (by decide)
  have e32 := ha.f32.1
  refine ⟨ha.cb h1, ⟨by rw [ha.1.2.2.2.2.2.2.1]; exact h2, h3⟩, fun q => ?_⟩
  obtain ⟨j, k⟩ := h4 (by rw [← e34]; exact q)
  refine ⟨j.add va hx hy (fun _ _ _ _ _ _ => IOK.fall ho), fun z => ?_⟩
  have z1 := e32.symm.trans z
  obtain ⟨k1, k2, k3⟩ := k z1
  exact ⟨by rw [← k1]; unfold cnI; rw [e53], k2, SX.srl2 k3 (va.sx ((vir.i s 32 (by decide)).trans z1)) (by omega) (by omega) j.1.2.2.2.2.2.2.1.2.2⟩
end
section
/-! the class's reading: a try's resources -/
theorem SRL.fld {s T : CS} {a m : Nat} (h : SRL s T) (hm : (m : Int) = cnI s) (hc : cnI T = (m : Int) + 1) (ea : T.r 51 m = some a) (m4 : m < 400) (hr : REFS T) (nr : NR T (m + 1)) (k : Nat) (w : Int32) (hk : k ≠ 0) : SRL s (CS.setO T a k w) := by
  obtain ⟨a0, a1, a2, a3, a4, a5, a6, a7, a8, a9, h5⟩ := h
  have ou := (OUV.rf T a).o k w
  have em : (cnI s).toNat = m := by omega
  have rq : RSQ T (CS.setO T a k w) m := fun i hi => ⟨by rw [cr_setO], fun b eb => by
    have ne : b ≠ a := fun z => by
      rw [z] at eb
      have := hr.2.2.1 i m a (by omega) m4 eb ea
      omega
    exact ou.2.1 b ne⟩
  have o0 : (CS.setO T a k w).o a 0 = T.o a 0 := by
    rw [show (CS.setO T a k w).o a = upd (T.o a) k w from ou.2.2.1]
    exact if_neg (fun z => hk z.symm)
  have cm : (cnI T).toNat = m + 1 := by omega
  have sg : SGS (CS.setO T a k w) (m + 1) = SGS T (m + 1) := by
    show SGS (CS.setO T a k w) m + sgn (CS.setO T a k w) (rowA (CS.setO T a k w) m) = SGS T m + sgn T (rowA T m)
    rw [(rq.sums (fun i hi => nr i (by omega))).2.1, rowA.of (show (CS.setO T a k w).r 51 m = some a from ea), rowA.of ea]
    unfold sgn
    rw [o0]
  have i0 : (CS.setO T a k w).i = T.i := ci_setO ..
  have rr : (CS.setO T a k w).r = T.r := cr_setO ..
  have a0' : (CS.setO T a k w).a = T.a := ca_setO ..
  generalize CS.setO T a k w = R at *
  have ecn : cnI R = cnI T := by unfold cnI; rw [i0]
  have epl : plI R = plI T := by unfold plI; rw [i0]
  have ee : eI R = eI T := by unfold eI; rw [epl, i0]
  have esg : sgI R = sgI T := by unfold sgI; rw [i0]
  have enm : nmI R = nmI T := by unfold nmI; rw [i0]
  refine ⟨a0, by rw [epl, ee]; exact a1, ?_, by rw [ecn]; exact a3, ?_, by rw [a0']; exact a5, by rw [a0']; exact a6, by rw [i0]; exact a7, by rw [i0]; exact a8, by rw [enm]; exact a9, fun y _ b eb => ?_⟩
  · rw [esg, ecn, cm, sg, ← cm]; exact a2
  · rw [em] at a4 ⊢
    exact a4.tr rq
  · rw [em, rr] at eb
    rw [em] at h5
    rw [ea] at eb
    cases eb
    rw [o0]
    exact h5 y (by omega) a ea
theorem JW.fld8 {H : HB} {x y : Int} {c : List Nat} {X : List (Nat × List Nat)} {P : List Nat} {lim : List Int} {s0 s : CS} {a m : Nat} (h : JW H x y c X P lim s0 a m s) : JW H x y c X P lim s0 a m (CS.setO s a 8 1) := by
  obtain ⟨h1, ⟨h2, h3⟩, h4⟩ := h
  refine ⟨h1.o a 8 1 (fun _ => Or.inr rfl) (by omega), ⟨h2, h3⟩, fun q => ?_⟩
  obtain ⟨j, k⟩ := h4 q
  have ev : vir (CS.setO s a 8 1) = CS.setO (vir s) a 8 1 := rfl
  rw [ev]
  have cV : cnI (vir s) = cnI s := by unfold cnI; rw [vir.i s 53 (by decide)]
  refine ⟨JK.j (j.k.fld (a := a) (m := m) h2 h3 (fun z => ?_) 8 1 (by omega) (fun _ => Or.inr rfl)), fun z => ?_⟩
  · rw [cV]; exact (k ((vir.i s 32 (by decide)).symm.trans z)).1
  · obtain ⟨k1, k2, k3⟩ := k z
    refine ⟨k1, k2, k3.fld k2 (by rw [cV]; exact k1) h2 h3 j.1.1 ?_ 8 1 (by decide)⟩
    have := j.1.2.2.2.2.2.2.1.2.2
    rw [cV, k1] at this
    exact this
theorem q_JWopen {N : Nat} {H : HB} (hN : 1000 ≤ N) {x y : Int} {c : List Nat} {X : List (Nat × List Nat)} {P : List Nat} {lim : List Int} {s0 s : CS} {a m : Nat} (h : JW H x y c X P lim s0 a m s) : ok (f_X7_beginTry_132 N s) (fun R => STQ H (x - 100) y X P lim s0 R.2) := by
  unfold f_X7_beginTry_132
  refine ok_bind (q_open hN h.1 123) (fun p hp => ok_some ?_)
  rcases hp with hf | ⟨p1, p2, p3⟩
  · exact STQ.flt h.1 hf
  · obtain ⟨j, k⟩ := h.2.2 p2
    have p3' : ADV (vir s) p.2 := p3
    obtain ⟨j2, e2⟩ := j.tk p3' (fun _ => by rw [vir.i s 43 (by decide), p1]; decide)
    refine ⟨j2.1, fun z => ⟨⟨c, j2⟩, ?_⟩⟩
    have z1 := (vir.i s 32 (by decide)).symm.trans (e2 z).1
    exact SX.srl2 (k z1).2.2 (e2 z).sx (by omega) (by omega) j.1.2.2.2.2.2.2.1.2.2
theorem q_openRes {N : Nat} {H : HB} (hN : 1000 ≤ N) {x y : Int} {c : List Nat} {X : List (Nat × List Nat)} {P : List Nat} {lim : List Int} {s0 s : CS} {a m : Nat} (hx : x ≤ 5000) (hy : y ≤ 95) (h : JW H x y c X P lim s0 a m s) : ok (f_X7_openResource N s) (fun R => JW H x y c X P lim s0 a m R.2) := by
  unfold f_X7_openResource
  refine ok_bind (q_found s 4) (fun p hp => ?_)
  obtain ⟨p1, p2⟩ := hp
  rw [p1]
  rcases p2 with ⟨p2, p3⟩ | ⟨p2, p3⟩
  · rw [if_pos p2]
    exact ok_bind (q_misp h.1) (fun q hq => ok_some (JW.flt h.1 h.2.1 hq))
  · rw [p2, if_neg (by decide)]
    refine ok_bind (q_add N s 55 _) (fun q hq => ?_)
    have j1 := h.add hq (by omega) (by omega) (by decide)
    refine ok_bind (q_advC hN j1.1) (fun r hr => ok_some ?_)
    exact (j1.adv hr (fun _ => by rw [hq.f32.2.1, p3]; decide)).w (by omega) (Int.le_refl _)
theorem q_try106 {N : Nat} {H : HB} (hN : 1000 ≤ N) {x y : Int} {c : List Nat} {X : List (Nat × List Nat)} {P : List Nat} {lim : List Int} {s0 : CS} {a m : Nat} (hx : x ≤ 5000) (hy : y ≤ 95) : ∀ (n : Nat) (σ : CS) (x2 : Int32), 0 ≤ x2.toInt → x2.toInt ≤ 900 → 900 - x2.toInt < n → JW H x y c X P lim s0 a m σ → ok (f_X7_beginTry_106 N n σ x2) (fun R => STQ H (x - 100) y X P lim s0 R.2)
  | 0, _, _, _, _, h, _ => by omega
  | n + 1, σ, x2, h0, h9, hn, hj => by
    show ok (b_X7_beginTry_106 N (f_X7_beginTry_106 N n) σ x2) _
    unfold b_X7_beginTry_106
    have e9 : (900 : Int32).toInt = 900 := by decide
    have e1 : (1 : Int32).toInt = 1 := by decide
    refine ok_ite (fun _ => q_JWopen hN hj) (fun c9 => ?_)
    have l : x2.toInt < 900 := by
      have := lt_int (Int32.not_le.mp c9)
      rw [e9] at this; exact this
    have es : (x2 + 1).toInt = x2.toInt + 1 := by rw [toInt_add] <;> rw [e1] <;> omega
    refine ok_bind (q_skip hN hj.1 44) (fun p hp => ?_)
    rcases hp with ⟨p1, p2, p3⟩ | ⟨p1, p2, p3⟩
    · rw [if_pos p1, p2]; exact q_JWopen hN hj
    · rw [p1, if_neg (by decide)]
      have j1 := hj.adv p3 (fun _ => by rw [p2]; decide)
      refine ok_bind (q_openRes hN (by omega) hy j1) (fun q hq => ?_)
      exact q_try106 hN hx hy n q.2 (x2 + 1) (by omega) (by omega) (by omega) (hq.w (by omega) (Int.le_refl _))
end
section
/-! the class's reading: try, whole -/
theorem NTG.n {s R : CS} (h : NTG s R) (h0 : 0 ≤ tcI s ∧ tcI s ≤ 1020) : tcI R = tcI s + 1 ∧ (∀ k : Nat, (k : Int) ≠ tcI s → R.a 17 k = s.a 17 k) ∧ (∀ k : Nat, (k : Int) = tcI s → R.a 17 k = -1) := by
  obtain ⟨b, b11, b12, b13, b14⟩ := h
  have e1 : (1 : Int32).toInt = 1 := by decide
  have h0' : 0 ≤ (s.i 21).toInt ∧ (s.i 21).toInt ≤ 1020 := h0
  refine ⟨?_, fun k hk => by rw [b14]; exact gPut_ne hk, fun k hk => by rw [b14]; exact gPut_at hk (by omega)⟩
  show (R.i 21).toInt = (s.i 21).toInt + 1
  rw [b12, toInt_add] <;> rw [e1] <;> omega
theorem q_beginTry {N : Nat} {H : HB} (hN : 1000 ≤ N) {x y : Int} {c : List Nat} {X : List (Nat × List Nat)} {P : List Nat} {lim : List Int} {s : CS} (hx : x ≤ 4000) (hy : y ≤ 90) (h : JJ H x y c X P lim s) (h0 : S0G s) (ht : s.i 43 = 213) : ok (f_X7_beginTry N s) (fun R => STQ H (x - 20) y X P lim s R.2) := by
  unfold f_X7_beginTry
  have nf := h0.1
  refine ok_bind (PRX.of (N := N) h.k (fun z => SX.rf z) 213 _ _ h.1.nm) (fun w hw => ?_)
  obtain ⟨v, a, m, r1, px, ⟨o0, o2, o3, ol⟩, ⟨o9, o10, o11⟩, ri, ra⟩ := hw
  rw [r1]
  have nfw : w.2.i 32 = 0 := (ri 32 (by decide) (by decide)).trans nf
  show ok ((f_X0_newTarget N w.2).bind fun p11 => if oK p11.2 a 0 then (f_X0_newTarget N (CS.setO p11.2 a 10 p11.1)).bind fun p16 => if oK p16.2 a 0 then (f_X0_newTarget N (CS.setO p16.2 a 11 p16.1)).bind fun p21 => if oK p21.2 a 0 then (f_X9_advance N (CS.setO p21.2 a 9 p21.1)).bind fun p26 => if oK p26.2 a 0 then (f_X0_add N p26.2 54 (CS.o p26.2 a 10)).bind fun p31 => (f_X1_skip N (CS.setI p31.2 38 ((p31.2.i 38) + 1)) 214).bind fun p35 => (if p35.1 = 0 then f_X7_beginTry_132 N p35.2 else if oK p35.2 a 0 then (f_X7_openResource N (CS.setO p35.2 a 8 1)).bind fun p45 => f_X7_beginTry_106 N N p45.2 0 else none) else none else none else none else none) _
  have tcw : 0 ≤ tcI w.2 ∧ tcI w.2 ≤ 1010 := by
    have q := px.1.2.2.2.2 ((ci_ne _ _ _ (by decide)).trans nfw)
    have t1 : 0 ≤ tcI w.2 := q.1.tc0.1
    have t2 := (q.2.sz px.1.2.2.2.1.2.2.1 px.1.2.2.2.1.2.2.2.2.2.2.1.1 (by omega) (by omega)).2
    exact ⟨t1, t2⟩
  -- the first target
  refine ok_bind (q_newTarget N w.2) (fun n hn => ?_)
  obtain ⟨n1, n2⟩ := hn
  obtain ⟨pn, pno, pnl⟩ := px.new n1 (by omega) (by omega) (2 :: c)
  obtain ⟨tn, an1, an2⟩ := n1.n (by omega)
  refine ok_chk pn.1.2.1.1 ?_
  have ouA := (OUV.rf n.2 a).o 10 n.1
  have pA := pn.cel ouA (pn.1.1.o a 10 n.1 (by omega) (by omega))
  have Ao : (CS.setO n.2 a 10 n.1).o a = upd (w.2.o a) 10 n.1 := by
    have := ouA.2.2.1
    rw [pno] at this
    exact this
  have Ab : ∀ b : Nat, b ≠ a → (CS.setO n.2 a 10 n.1).o b = w.2.o b ∧ (CS.setO n.2 a 10 n.1).ol b = w.2.ol b := fun b hb => by
    have := ouA.2.1 b hb
    rw [pno, pnl] at this
    exact this
  have Ai : (CS.setO n.2 a 10 n.1).i = n.2.i := ci_setO ..
  have Aa : (CS.setO n.2 a 10 n.1).a = n.2.a := ca_setO ..
  have Ar : (CS.setO n.2 a 10 n.1).r = w.2.r := (cr_setO ..).trans n1.1.2.2.2.2.2.2.1
  generalize CS.setO n.2 a 10 n.1 = A at *
  have tA : tcI A = tcI w.2 + 1 := by rw [← tn]; unfold tcI; rw [Ai]
  -- the second
  refine ok_bind (q_newTarget N A) (fun d hd => ?_)
  obtain ⟨d1, d2⟩ := hd
  obtain ⟨pd, pdo, pdl⟩ := pA.new d1 (by omega) (by omega) (3 :: c)
  obtain ⟨td, ad1, ad2⟩ := d1.n (by omega)
  refine ok_chk pd.1.2.1.1 ?_
  have ouB := (OUV.rf d.2 a).o 11 d.1
  have pB := pd.cel ouB (pd.1.1.o a 11 d.1 (by omega) (by omega))
  have Bo : (CS.setO d.2 a 11 d.1).o a = upd (upd (w.2.o a) 10 n.1) 11 d.1 := by
    have := ouB.2.2.1
    rw [pdo, Ao] at this
    exact this
  have Bb : ∀ b : Nat, b ≠ a → (CS.setO d.2 a 11 d.1).o b = w.2.o b ∧ (CS.setO d.2 a 11 d.1).ol b = w.2.ol b := fun b hb => by
    have := ouB.2.1 b hb
    rw [pdo, pdl, (Ab b hb).1, (Ab b hb).2] at this
    exact this
  have Bi : (CS.setO d.2 a 11 d.1).i = d.2.i := ci_setO ..
  have Ba : (CS.setO d.2 a 11 d.1).a = d.2.a := ca_setO ..
  have Br : (CS.setO d.2 a 11 d.1).r = w.2.r := (cr_setO ..).trans (d1.1.2.2.2.2.2.2.1.trans Ar)
  generalize CS.setO d.2 a 11 d.1 = B at *
  have tB : tcI B = tcI w.2 + 2 := by
    have : tcI B = tcI d.2 := by unfold tcI; rw [Bi]
    omega
  -- the third
  refine ok_bind (q_newTarget N B) (fun e he => ?_)
  obtain ⟨e1, e2⟩ := he
  obtain ⟨pe, peo, pel⟩ := pB.new e1 (by omega) (by omega) c
  obtain ⟨te, ae1, ae2⟩ := e1.n (by omega)
  refine ok_chk pe.1.2.1.1 ?_
  have ouC := (OUV.rf e.2 a).o 9 e.1
  have pC := pe.cel ouC (pe.1.1.o a 9 e.1 (by omega) (by omega))
  have Co : (CS.setO e.2 a 9 e.1).o a = upd (upd (upd (w.2.o a) 10 n.1) 11 d.1) 9 e.1 := by
    have := ouC.2.2.1
    rw [peo, Bo] at this
    exact this
  have Cb : ∀ b : Nat, b ≠ a → (CS.setO e.2 a 9 e.1).o b = w.2.o b ∧ (CS.setO e.2 a 9 e.1).ol b = w.2.ol b := fun b hb => by
    have := ouC.2.1 b hb
    rw [peo, pel, (Bb b hb).1, (Bb b hb).2] at this
    exact this
  have Ci : (CS.setO e.2 a 9 e.1).i = e.2.i := ci_setO ..
  have Ca : (CS.setO e.2 a 9 e.1).a = e.2.a := ca_setO ..
  have Cr : (CS.setO e.2 a 9 e.1).r = w.2.r := (cr_setO ..).trans (e1.1.2.2.2.2.2.2.1.trans Br)
  generalize CS.setO e.2 a 9 e.1 = C at *
  have tC : tcI C = tcI w.2 + 3 := by
    have : tcI C = tcI e.2 := by unfold tcI; rw [Ci]
    omega
  have Cw : ∀ j : Nat, j ≠ 21 → C.i j = w.2.i j := fun j hj => by rw [Ci, e1.2.1 j hj, Bi, d1.2.1 j hj, Ai, n1.2.1 j hj]
  have Cwa : ∀ k : Nat, k ≠ 17 → C.a k = w.2.a k := fun k hk => by rw [Ca, e1.2.2.2.1 k hk, Ba, d1.2.2.2.1 k hk, Aa, n1.2.2.2.1 k hk]
  have C17o : ∀ k : Nat, (k : Int) < tcI w.2 → C.a 17 k = w.2.a 17 k := fun k hk => by rw [Ca, ae1 k (by omega), Ba, ad1 k (by omega), Aa, an1 k (by omega)]
  have em1 : (-1 : Int32).toInt = -1 := by decide
  have C17n : ∀ k : Nat, tcI w.2 ≤ (k : Int) → (k : Int) < tcI w.2 + 3 → (C.a 17 k).toInt = -1 := fun k k1 k2 => by
    by_cases z2 : (k : Int) = tcI w.2 + 2
    · rw [Ca, ae2 k (by omega)]; exact em1
    · by_cases z1 : (k : Int) = tcI w.2 + 1
      · rw [Ca, ae1 k (by omega), Ba, ad2 k (by omega)]; exact em1
      · rw [Ca, ae1 k (by omega), Ba, ad1 k (by omega), Aa, an2 k (by omega)]; exact em1
  have en : n.1.toInt = tcI w.2 := by rw [n2]; rfl
  have ed : d.1.toInt = tcI w.2 + 1 := by rw [d2]; exact tA
  have ee : e.1.toInt = tcI w.2 + 2 := by rw [e2]; exact tB
  clear ae1 ae2 ad1 ad2 an1 an2 Ab Bb ouA ouB ouC
  refine ok_bind (q_advC hN pC.1.1) (fun q hq => ?_)
  have wd := hq.wd pC.1.1.2.2.1 (Or.inl (by rw [Cw 43 (by decide), ri 43 (by decide) (by decide), ht]; decide))
  obtain ⟨pq, pqo, pql⟩ := pC.adv (x' := x - 200) (y' := y) hq (fun _ => by omega) (fun _ => wd)
  refine ok_chk pq.1.2.1.1 ?_
  refine ok_bind (q_add N q.2 54 _) (fun f hf => ?_)
  -- from here on the row stands
  obtain ⟨T, hT⟩ : ∃ T, T = CS.setI f.2 38 (f.2.i 38 + 1) := ⟨_, rfl⟩
  rw [← hT]
  have qi : ∀ j : Nat, ¬ (42 ≤ j ∧ j ≤ 45) → q.2.i j = C.i j := fun j hj => hq.1.2 j (by omega) (by omega) (by omega) (by omega)
  have qa : q.2.a = C.a := hq.1.1.2.2.2.2.2.2.2.2.2.2
  have qr : q.2.r = C.r := hq.1.1.2.2.2.2.2.2.2.1
  obtain ⟨⟨b1, b2, b3, b4, b5, b6, b7, b8, b9, b10⟩, b11, b12, b13, b14, b15⟩ := (show ADD q.2 f.2 54 (q.2.o a 10) from hf)
  have nfq : q.2.i 32 = 0 := by rw [qi 32 (by omega), Cw 32 (by decide)]; exact nfw
  have Tc : CBS H T := by
    have cf : CBS H f.2 := hf.cb pq.1.1
    rw [hT]
    obtain ⟨c1, c2, c3, c4, c5, c6, c7, c8, c9⟩ := cf
    refine ⟨c1, c2, c3, c4, ?_, c6, c7, c8, ?_⟩
    · rw [ci_ne _ _ _ (by decide), ci_ne _ _ _ (by decide)]; exact c5
    · rw [ci_ne _ _ _ (by decide), ci_ne _ _ _ (by decide), ci_ne _ _ _ (by decide), ci_ne _ _ _ (by decide)]; exact c9
  have Tq : ∀ j : Nat, j ≠ 20 → j ≠ 38 → T.i j = q.2.i j := fun j j1 j2 => by rw [hT, ci_ne _ _ _ j2, b11 j j1]
  have T20 : T.i 20 = q.2.i 20 + 1 := by rw [hT, ci_ne _ _ _ (by decide)]; exact b12
  have T38 : T.i 38 = q.2.i 38 + 1 := by rw [hT, ci_at, b11 38 (by decide)]
  have Ta : T.a = f.2.a := by rw [hT]; exact ca_setI ..
  have Tr : T.r = q.2.r := by rw [hT, cr_setI]; exact b7
  have To : T.o = q.2.o := by rw [hT, co_setI]; exact b4
  have Tl : T.ol = q.2.ol := by rw [hT, col_setI]; exact b5
  clear hT
  have jw : JW H (x - 149) y (1 :: c) X P lim s a m T := by
    refine ⟨Tc, ⟨by rw [Tr]; exact pq.1.2.1.2.1, pq.1.2.1.2.2.1⟩, fun l20 => ?_⟩
    have m4 := pq.1.2.1.2.2.1
    have vT : ∀ j : Nat, j ≠ 34 → (vir T).i j = T.i j := fun j hj => vir.i T j hj
    have vTa : (vir T).a = T.a := rfl
    have vTr : (vir T).r = T.r := rfl
    have vTo : (vir T).o = T.o := rfl
    have vTl : (vir T).ol = T.ol := rfl
    have vcb : CBS H (vir T) := ((TS9.rf T).i34 _).cb Tc Tc.2.2.1 (by rw [ci_ne _ _ _ (by decide), ci_ne _ _ _ (by decide)]; exact Tc.2.2.2.2.1) (fun q => (ci_ne _ _ _ (by decide)).symm.trans q)
    obtain ⟨vm, cm⟩ := px.1.2.2.1 nfw
    -- before the targets
    obtain ⟨V0, hV0⟩ : ∃ V0, V0 = CS.setI w.2 53 v := ⟨_, rfl⟩
    have V0i : ∀ j : Nat, j ≠ 53 → V0.i j = w.2.i j := fun j hj => by rw [hV0]; exact ci_ne _ _ _ hj
    have V0c : cnI V0 = (m : Int) := by unfold cnI; rw [hV0, ci_at]; exact vm
    have V0a : V0.a = w.2.a := by rw [hV0]; exact ca_setI ..
    have V0r : V0.r = w.2.r := by rw [hV0]; exact cr_setI ..
    have V0o : V0.o = w.2.o := by rw [hV0]; exact co_setI ..
    have V0l : V0.ol = w.2.ol := by rw [hV0]; exact col_setI ..
    have jV0 := px.1.2.2.2
    have sxV0 := px.2 nfw
    rw [← hV0] at jV0 sxV0
    clear hV0
    have nfV0 : V0.i 32 = 0 := (V0i 32 (by decide)).trans nfw
    have gV0 := (jV0.2 nfV0).1
    have nV0 := (jV0.2 nfV0).2
    have len := jV0.len nfV0 (sxV0.ng h0.2.2.1 h0.2.1)
    have emN : (cnI V0).toNat = m := by omega
    rw [emN] at len
    have tV0 : tcI V0 = tcI w.2 := by unfold tcI; rw [V0i 21 (by decide)]
    have inj : ∀ i b : Nat, i < m → w.2.r 51 i = some b → b ≠ a := fun i b hi eb z => by
      rw [z] at eb
      have := px.1.1.1.2.2.1 i m a (by omega) m4 eb px.1.2.1.2.1
      omega
    -- behind the advance
    obtain ⟨Vq, hVq⟩ : ∃ Vq, Vq = CS.setI q.2 53 v := ⟨_, rfl⟩
    have Vqi : ∀ j : Nat, j ≠ 53 → Vq.i j = q.2.i j := fun j hj => by rw [hVq]; exact ci_ne _ _ _ hj
    have Vqc : cnI Vq = (m : Int) := by unfold cnI; rw [hVq, ci_at]; exact vm
    have Vqr : Vq.r = q.2.r := by rw [hVq]; exact cr_setI ..
    have Vqo : Vq.o = q.2.o := by rw [hVq]; exact co_setI ..
    have Vql : Vq.ol = q.2.ol := by rw [hVq]; exact col_setI ..
    have Vqa : Vq.a = q.2.a := by rw [hVq]; exact ca_setI ..
    have jVq := pq.1.2.2.2
    have sxVq := pq.2 nfq
    rw [← hVq] at jVq sxVq
    clear hVq
    have nfVq : Vq.i 32 = 0 := (Vqi 32 (by decide)).trans nfq
    have nVq := (jVq.2 nfVq).2
    have nrq : NR Vq m := by
      have := jVq.1.2.2.2.2.2.2.1.2.2
      rw [Vqc] at this
      exact this
    have rqT : RSQ Vq (vir T) m := fun i _ => ⟨by rw [vTr, Tr, Vqr], fun b _ => ⟨by rw [vTo, To, Vqo], by rw [vTl, Tl, Vql]⟩⟩
    have r0T : RSQ V0 (vir T) m := fun i hi => ⟨by rw [vTr, Tr, qr, Cr, V0r], fun b eb => by
      have ne := inj i b hi (by rw [← V0r]; exact eb)
      exact ⟨by rw [vTo, To, pqo, V0o]; exact (Cb b ne).1, by rw [vTl, Tl, pql, V0l]; exact (Cb b ne).2⟩⟩
    have eaT : (vir T).r 51 m = some a := by rw [vTr, Tr]; exact pq.1.2.1.2.1
    have cT : cnI (vir T) = (m : Int) + 1 := by
      have : cnI (vir T) = cnI w.2 := by unfold cnI; rw [vT 53 (by decide), Tq 53 (by decide) (by decide), qi 53 (by omega), Cw 53 (by decide)]
      omega
    have Foa : (vir T).o a = upd (upd (upd (w.2.o a) 10 n.1) 11 d.1) 9 e.1 := by rw [vTo, To, pqo, Co]
    have F0 : (vir T).o a 0 = 213 := by rw [Foa]; exact o0
    have F2 : (vir T).o a 2 = s.i 38 := by rw [Foa]; exact o2
    have F3 : (vir T).o a 3 = s.i 50 := by rw [Foa]; exact o3
    have F9 : (vir T).o a 9 = e.1 := by rw [Foa]; rfl
    have F10 : (vir T).o a 10 = n.1 := by rw [Foa]; rfl
    have F11 : (vir T).o a 11 = d.1 := by rw [Foa]; rfl
    have q10 : q.2.o a 10 = n.1 := by rw [pqo, Co]; rfl
    have ds := h.ds nf
    have szq : szI q.2 = szI V0 := by unfold szI; rw [qi 20 (by omega), Cw 20 (by decide), V0i 20 (by decide)]
    have sz0 : 0 ≤ szI V0 := gV0.tc0.2
    have szb := (nV0.sz jV0.1.2.2.1 jV0.1.2.2.2.2.2.2.1.1 (by omega) (by omega)).1
    have e1' : (1 : Int32).toInt = 1 := by decide
    have szT : szI (vir T) = szI V0 + 1 := by
      have b : (q.2.i 20).toInt = szI V0 := szq
      show ((vir T).i 20).toInt = _
      rw [vT 20 (by decide), T20, toInt_add] <;> rw [e1'] <;> omega
    have tcT : tcI (vir T) = tcI V0 + 3 := by
      have : tcI (vir T) = tcI C := by unfold tcI; rw [vT 21 (by decide), Tq 21 (by decide) (by decide), qi 21 (by omega)]
      omega
    have g := gV0.try (T := vir T) (a := a) (m := m) ds.2 len V0c.symm m4 cT eaT r0T (by rw [vTa, Ta, b14, qa, qi 20 (by omega), Cwa 15 (by decide), Cw 20 (by decide), V0a, V0i 20 (by decide)]) (by rw [vTa, Ta, b15, qa, qi 20 (by omega), Cwa 16 (by decide), Cw 20 (by decide), V0a, V0i 20 (by decide), F10, q10]) szT tcT (fun k hk => by rw [vTa, Ta, b13 17 (by decide) (by decide), qa, V0a]; exact C17o k (by omega)) (fun k k1 k2 => by rw [vTa, Ta, b13 17 (by decide) (by decide), qa]; exact C17n k (by omega) (by omega)) (by rw [vTa, Ta, b13 19 (by decide) (by decide), qa, Cwa 19 (by decide), V0a]) (by rw [vTa, Ta, b13 49 (by decide) (by decide), qa, Cwa 49 (by decide), V0a]) (by rw [vT 22 (by decide), Tq 22 (by decide) (by decide), qi 22 (by omega), Cw 22 (by decide), V0i 22 (by decide)]) (by rw [vT 50 (by decide), Tq 50 (by decide) (by decide), qi 50 (by omega), Cw 50 (by decide), V0i 50 (by decide)]) F0 (by rw [F2]; exact ds.1) (by rw [F3]; unfold nmI; rw [V0i 50 (by decide), ri 50 (by decide) (by decide)]) (by rw [F10, en, tV0]) (by rw [F11, ed, tV0]) (by rw [F9, ee, tV0]) (by omega)
    -- the numbers
    have plT : plI (vir T) = plI Vq := by unfold plI; rw [vT 44 (by decide), Tq 44 (by decide) (by decide), Vqi 44 (by decide)]
    have eT : eI (vir T) = eI Vq := by unfold eI; rw [plT, vT 43 (by decide), Tq 43 (by decide) (by decide), Vqi 43 (by decide)]
    have sgq : sgI Vq = sgI s := by have := sxVq.2.2.1; omega
    have sgT : sgI (vir T) = sgI s + 1 ∧ sgI s + 1 ≤ 20 := by
      have e34 : (T.i 34).toInt = sgI s := by rw [← sgq]; unfold sgI; rw [Tq 34 (by decide) (by decide), Vqi 34 (by decide)]
      have l := lt_int l20
      rw [show (20 : Int32).toInt = 20 by decide] at l
      have p0 := h0.2.2.2.2.2.2.2.2
      refine ⟨?_, by omega⟩
      show ((vir T).i 34).toInt = _
      rw [show (vir T).i 34 = T.i 34 + 1 from ci_at _ _ _, toInt_add] <;> rw [e1'] <;> omega
    have e0 : cnI s = (m : Int) := by rw [← Vqc]; unfold cnI; rw [sxVq.2.2.2.1.2.1]
    have e0m : (cnI s).toNat = m := by omega
    have rs0 := sxVq.2.2.2.2.2.1
    have nrs := h0.2.1
    have z4 := h0.2.2.2.2.1
    rw [e0m] at rs0 nrs z4
    obtain ⟨i1, i2, i3, i4, i5⟩ := rs0.sums nrs
    obtain ⟨q1, q2, q3, q4, q5⟩ := rqT.put nrq eaT
    have iqV := nVq.2.2.2.2.1
    rw [Vqc] at iqV
    have em' : ((m : Int)).toNat = m := by omega
    rw [em'] at iqV
    obtain ⟨iq, wc⟩ := iqV.pl rqT nrq eaT F0 (by decide)
    have sgr : sgn (vir T) a = 1 := by unfold sgn; rw [F0]; rfl
    have sge : eI s + 3 ≤ eI Vq := by have := sxVq.2.1.2; omega
    have plg : plI s + 2 ≤ plI Vq := by have := sxVq.2.1.1; omega
    have p0 := h0.2.2.2.2.2.2.2.2
    have lenS : (c.length : Int) ≤ SGS s m := by
      have k := sxV0.2.2.2.2.2.1
      rw [e0m] at k
      rw [← (k.sums nrs).2.1]
      exact len
    have z42 := z4.2
    have sgT1 := sgT.1
    have sgT2 := sgT.2
    have nb : NB (x - 200 + 50 + 1) y (1 :: c) (vir T) := by
      refine nVq.row Vqc.symm cT eaT rqT ⟨?_, ?_, ?_, plT, eT⟩ ⟨by rw [q2, i2, sgr]; omega, by omega, by omega⟩ ⟨?_, by show c.length + 1 ≤ 21; omega⟩ iq (by rw [i1] at wc; omega) ?_
      · unfold tcI; rw [vT 21 (by decide), Tq 21 (by decide) (by decide), Vqi 21 (by decide)]
      · unfold ccI; rw [vT 22 (by decide), Tq 22 (by decide) (by decide), Vqi 22 (by decide)]
      · have : szI Vq = szI q.2 := by unfold szI; rw [Vqi 20 (by decide)]
        omega
      · have e38 : (q.2.i 38).toInt = (c.length : Int) := (pq.ds nfq).1
        show ((c.length + 1 : Nat) : Int) = ((vir T).i 38).toInt
        rw [vT 38 (by decide), T38, toInt_add] <;> rw [e1'] <;> omega
      · rw [vT 56 (by decide), Tq 56 (by decide) (by decide), Vqi 56 (by decide)]
    refine ⟨⟨vcb, fun _ => ⟨g, nb.1, nb.2.1, by have := nb.2.2.1; omega, nb.2.2.2⟩⟩, fun _ => ⟨?_, e0.symm, ?_⟩⟩
    · rw [← cT]; unfold cnI; rw [vT 53 (by decide)]
    · have cm1 : (cnI (vir T)).toNat = m + 1 := by omega
      refine ⟨nf, ⟨by omega, by omega⟩, ?_, by omega, ?_, fun k hk => ?_, fun i hi' => ?_, ?_, ?_, ?_, fun _ _ b eb => ?_⟩
      · rw [cm1, q2, i2, sgr, e0m, sgT.1]; omega
      · rw [e0m]; exact rs0.tr rqT
      · have := sxVq.2.2.2.2.2.2.1 k hk
        rw [vTa, Ta, b13 49 (by decide) (by decide), ← Vqa]; exact this
      · have := sxVq.2.2.2.2.2.2.2 i hi'
        rw [vTa, Ta, b13 18 (by decide) (by decide), b13 19 (by decide) (by decide), ← Vqa]; exact this
      · rw [vT 56 (by decide), Tq 56 (by decide) (by decide), ← Vqi 56 (by decide)]; exact sxVq.2.2.2.1.2.2.1
      · rw [vT 22 (by decide), Tq 22 (by decide) (by decide), ← Vqi 22 (by decide)]; exact sxVq.2.2.2.1.2.2.2
      · have e : nmI (vir T) = nmI Vq := by unfold nmI; rw [vT 50 (by decide), Tq 50 (by decide) (by decide), Vqi 50 (by decide)]
        rw [e]; exact sxVq.2.2.2.2.1
      · rw [e0m, eaT] at eb
        cases eb
        rw [F0]; decide
  clear Tq T20 T38 Ta Tr To Tl b1 b2 b3 b4 b5 b6 b7 b8 b9 b10 b11 b12 b13 b14 b15
  refine ok_bind (q_skip hN jw.1 214) (fun g hg => ?_)
  rcases hg with ⟨g1, g2, g3⟩ | ⟨g1, g2, g3⟩
  · rw [if_pos g1, g2]
    exact ok_imp (q_JWopen hN jw) (fun R hR => hR.w (by omega) (Int.le_refl _))
  · rw [g1, if_neg (by decide)]
    have j1 := jw.adv g3 (fun _ => by rw [g2]; decide)
    refine ok_chk (j1.1.1.2.1 m a j1.2.1.2 j1.2.1.1) ?_
    have j2 := j1.fld8
    refine ok_bind (q_openRes hN (by omega) (by omega) j2) (fun u hu => ?_)
    exact ok_imp (q_try106 hN (by omega) (by omega) N u.2 0 (by decide) (by decide) (by rw [z_t0]; omega) hu) (fun R hR => hR.w (by omega) (Int.le_refl _))
end
section
/-! the class's reading: a statement, whole -/
theorem SX.srl0 {p g : Int} {s u R : CS} (h : SX p g 0 s u) (hp : 0 ≤ p) (hg : 0 ≤ g) (k : SRL u R) (nr : NR s (cnI s).toNat) : SRL s R := by
  obtain ⟨a0, ⟨a1, a2⟩, a3, ⟨a4, a5, a6, a7⟩, a8, a9, a10, a11⟩ := h
  obtain ⟨b0, ⟨b1, b1'⟩, b2, b3, b4, b5, b6, b7, b8, b9, h5⟩ := k
  have ecn : cnI u = cnI s := by unfold cnI; rw [a5]
  have ecc : ccI u = ccI s := by unfold ccI; rw [a7]
  obtain ⟨i1, i2, i3, i4, i5⟩ := a9.sums nr
  rw [ecn] at b2 b3 b4 h5
  rw [ecc] at b6
  rw [i2] at b2
  exact ⟨a0, ⟨by omega, by omega⟩, by omega, b3, a9.tr b4, fun n hn => (b5 n (by omega)).trans (a10 n hn), fun i hi => ⟨(b6 i hi).1.trans (a11 i hi).1, (b6 i hi).2.trans (a11 i hi).2⟩, b7.trans a6, b8.trans a7, by omega, h5⟩
theorem q_compound {N : Nat} {H : HB} (hN : 10000000000 ≤ N) {k : Int} {E1 : CS → Option (Unit × CS)} {E2 : CS → Option (Int32 × CS)} (hE : ∀ b, EC (H.1, b) k E1) (hE2 : ∀ b, EC2 (H.1, b) k E2) {x y : Int} {c : List Nat} {X : List (Nat × List Nat)} {P : List Nat} {T : List Int} {s : CS} (hx : x ≤ 4000) (hy : y + 3 * k ≤ 87 ∧ 0 ≤ k) (h : JJ H x y c X P (ccI s :: T) s) (h0 : S0G s) (hk : 24 - sgI s ≤ k) : ok (f_X7_compound N E1 E2 s) (fun R => STQ H (x - 20) y X P (ccI s :: T) s R.2) := by
  have hN1 : 1000 ≤ N := by omega
  have eE : EC H k E1 := hE H.2
  have eE2 : EC2 H k E2 := hE2 H.2
  have mis : ok ((f_X1_misplaced N s).bind fun p => some ((), p.2)) (fun R => STQ H (x - 20) y X P (ccI s :: T) s R.2) := ok_bind (q_misp h.1) (fun p hp => ok_some (STQ.flt h.1 hp))
  unfold f_X7_compound
  refine ok_ite (fun e => ok_bind (q_beginIf (E1 := E1) hN1 eE2 hx (by omega) h h0 hk e) (fun p hp => ok_some hp)) (fun _ => ok_ite (fun _ => mis) (fun _ => ok_ite (fun e => ok_bind (q_beginWhile (E1 := E1) hN1 eE2 hx (by omega) h h0 hk e) (fun p hp => ok_some hp)) (fun _ => ok_ite (fun e => ok_bind (q_beginDo hN1 hx (by omega) h h0 e) (fun p hp => ok_some hp)) (fun _ => ok_ite (fun e => ok_bind (q_beginFor hN1 eE eE2 hx (by omega) h h0 hk e) (fun p hp => ok_some hp)) (fun _ => ok_ite (fun _ => mis) (fun _ => ok_ite (fun _ => mis) (fun _ => ok_ite (fun _ => mis) (fun _ => ok_ite (fun _ => mis) (fun _ => ok_ite (fun e => ok_bind (q_beginLock hN1 hx (by omega) h h0 e) (fun p hp => ok_some hp)) (fun _ => ok_ite (fun e => ok_bind (q_beginTry hN1 hx (by omega) h h0 e) (fun p hp => ok_some hp)) (fun _ => ok_ite (fun _ => mis) (fun _ => ok_ite (fun _ => mis) (fun _ => ok_ite (fun _ => mis) (fun _ => ok_ite (fun _ => mis) (fun _ => ok_ite (fun e => ok_bind (q_beginSwitch (E2 := E2) hN1 eE hx (by omega) h h0 hk e) (fun p hp => ok_some hp)) (fun _ => mis))))))))))))))))
theorem q_plain {N : Nat} {H : HB} (hN : 10000000000 ≤ N) {k : Int} {E1 : CS → Option (Unit × CS)} {E2 : CS → Option (Int32 × CS)} (hE : ∀ b, EC (H.1, b) k E1) (hE2 : ∀ b, EC2 (H.1, b) k E2) {x y : Int} {c : List Nat} {X : List (Nat × List Nat)} {P : List Nat} {T : List Int} {s : CS} (hx : x ≤ 4000) (hy : y + 3 * k ≤ 87 ∧ 0 ≤ k) (h : JJ H x y c X P (ccI s :: T) s) (h0 : S0G s) (hk : 24 - sgI s ≤ k) : ok (f_X7_plain N E1 E2 s) (fun R => STQ H (x - 20) y X P (ccI s :: T) s R.2) := by
  have hN1 : 1000 ≤ N := by omega
  have eE : EC H k E1 := hE H.2
  have eE2 : EC2 H k E2 := hE2 H.2
  have w : ∀ v : Int32, s.i 43 = v → 200 ≤ v.toInt → 200 ≤ (s.i 43).toInt := fun v e q => by rw [e]; exact q
  unfold f_X7_plain
  refine ok_ite (fun e => ?_) (fun _ => ok_ite (fun e => ?_) (fun _ => ok_ite (fun e => ?_) (fun _ => ok_ite (fun e => ?_) (fun _ => ok_ite (fun e => ?_) (fun _ => ok_ite (fun e => ?_) (fun _ => ok_ite (fun e => ?_) (fun _ => ok_ite (fun e => ?_) (fun _ => ok_ite (fun e => ?_) (fun _ => ok_ite (fun e => ?_) (fun _ => ?_))))))))))
  · refine ok_bind (q_advC hN1 h.1) (fun p hp => ok_some ?_)
    obtain ⟨j1, e1⟩ := h.tk hp (fun _ => by rw [e]; decide)
    exact STQ.pl (p := 1) (g := 0) (j1.w (by omega) (Int.le_refl _)) h0 (fun z => (e1 z).sx) (by omega) (by omega)
  · exact q_int hN1 eE hx (by omega) h h0 hk (w 200 e (by decide))
  · exact q_int hN1 eE hx (by omega) h h0 hk (w 201 e (by decide))
  · exact q_log hN1 eE hx (by omega) h h0 hk (w 202 e (by decide))
  · exact ok_bind (q_jump hN hx (by omega) h h0 (w 208 e (by decide))) (fun p hp => ok_some hp)
  · exact ok_bind (q_jump hN hx (by omega) h h0 (w 209 e (by decide))) (fun p hp => ok_some hp)
  · exact ok_bind (q_giveBack (E2 := E2) hN1 eE hx (by omega) h h0 hk (w 210 e (by decide))) (fun p hp => ok_some hp)
  · exact ok_bind (q_throwOne (E2 := E2) hN1 eE hx (by omega) h h0 hk (w 211 e (by decide))) (fun p hp => ok_some hp)
  · exact ok_bind (q_claim hN1 eE eE2 hx (by omega) h h0 hk (w 217 e (by decide))) (fun p hp => ok_some hp)
  · exact ok_bind (q_yield (E2 := E2) hN1 hE hx (by omega) h h0 hk (w 221 e (by decide))) (fun p hp => ok_some hp)
  · exact ok_bind (q_compound hN hE hE2 hx (by omega) h h0 hk) (fun p hp => ok_some hp)
theorem q_stm18 {N : Nat} {H : HB} (hN : 10000000000 ≤ N) {k : Int} {E1 : CS → Option (Unit × CS)} {E2 : CS → Option (Int32 × CS)} (hE : ∀ b, EC (H.1, b) k E1) (hE2 : ∀ b, EC2 (H.1, b) k E2) {x y : Int} {c : List Nat} {X : List (Nat × List Nat)} {P : List Nat} {T : List Int} {s : CS} (hx : x ≤ 3900) (hy : y + 3 * k ≤ 87 ∧ 0 ≤ k) (h : JJ H x y c X P (ccI s :: T) s) (h0 : S0G s) (hk : 24 - sgI s ≤ k) (x1 : Int32) : ok (f_X7_statement_18 N E1 E2 s x1) (fun R => STQ H (x - 10) y X P (ccI s :: T) s R.2) := by
  have hN1 : 1000 ≤ N := by omega
  have eE : EC H k E1 := hE H.2
  have nf := h0.1
  unfold f_X7_statement_18
  have ir := ((IRR.rf h.1).i 36 1 (by unfold IRJ; omega) (fun _ => Or.inr rfl)).i 24 (s.i 24 + 1) (by unfold IRJ; omega) (by omega)
  generalize CS.setI (CS.setI s 36 1) 24 (s.i 24 + 1) = u at *
  have sx := ir.sx nf
  have nfu := ir.f.1.trans nf
  have ecu : ccI u = ccI s := by unfold ccI; rw [sx.2.2.2.1.2.2.2]
  have ju := h.irr ir
  rw [← ecu] at ju
  have ngu := sx.ng h0.2.2.1 h0.2.1
  have gu := ju.s0g nfu ngu
  have sgu : sgI u = sgI s := by have := sx.2.2.1; omega
  have back : ∀ (x' : Int) (R : CS), x' ≤ x - 10 → STQ H x' y X P (ccI u :: T) u R → STQ H (x - 10) y X P (ccI s :: T) s R := fun x' R hx' hR => by
    rw [ecu] at hR
    have hw := hR.w hx' (Int.le_refl _)
    exact ⟨hw.1, fun z => ⟨(hw.2 z).1, sx.srl0 (by omega) (by omega) (hw.2 z).2 h0.2.1⟩⟩
  have e115 : ok (f_X7_statement_115 N E1 E2 u) (fun R => STQ H (x - 10) y X P (ccI s :: T) s R.2) := by
    unfold f_X7_statement_115
    exact ok_bind (q_misp ju.1) (fun p hp => ok_some (STQ.flt ju.1 hp))
  have e122 : ok (f_X7_statement_122 N E1 E2 u) (fun R => STQ H (x - 10) y X P (ccI s :: T) s R.2) := by
    unfold f_X7_statement_122
    refine ok_bind (q_add N u 51 0) (fun p hp => ?_)
    have j1 := ju.add hp (by omega) (by omega) (fun _ _ _ _ _ _ => IOK.fall (by decide))
    have sp := hp.sx nfu
    have nfp := hp.f32.1.trans nfu
    have ecp : ccI p.2 = ccI u := by unfold ccI; rw [sp.2.2.2.1.2.2.2]
    rw [← ecp] at j1
    have gp := j1.s0g nfp (sp.ng ngu gu.2.1)
    refine ok_bind (q_plain hN hE hE2 (by omega) (by omega) j1 gp (by have := sp.2.2.1; omega)) (fun q hq => ok_some ?_)
    refine back (x + 1 - 20) q.2 (by omega) ?_
    rw [ecp] at hq
    exact ⟨hq.1, fun z => ⟨(hq.2 z).1, sp.srl0 (by omega) (by omega) (hq.2 z).2 gu.2.1⟩⟩
  refine ok_bind (q_found u 2) (fun p hp => ?_)
  obtain ⟨p1, p2⟩ := hp
  rw [p1]
  rcases p2 with ⟨p2, p3⟩ | ⟨p2, p3⟩
  · rw [if_pos p2]
    refine ok_bind (q_found u 123) (fun q hq => ?_)
    obtain ⟨q1, q2⟩ := hq
    rw [q1]
    rcases q2 with ⟨q2, q3⟩ | ⟨q2, q3⟩
    · rw [if_pos q2]
      refine ok_ite (fun _ => e122) (fun _ => ?_)
      refine ok_bind (q_found u 200) (fun r hr => ?_)
      rw [hr.1]
      refine ok_ite (fun _ => ?_) (fun _ => e115)
      refine ok_bind (q_found u 201) (fun b hb => ?_)
      rw [hb.1]
      exact ok_ite (fun _ => e122) (fun _ => e115)
    · rw [q2, if_neg (by decide)]
      exact ok_imp (q_block hN1 (by omega) (by omega) ju gu) (fun R hR => back _ R.2 (by omega) hR)
  · rw [p2, if_neg (by decide)]
    exact ok_bind (q_named (E2 := E2) hN eE (by omega) (by omega) ju gu (by omega) p3) (fun q hq => ok_some (back _ q.2 (by omega) hq))
theorem q_statement {N : Nat} {H : HB} (hN : 10000000000 ≤ N) {k : Int} {E1 : CS → Option (Unit × CS)} {E2 : CS → Option (Int32 × CS)} (hE : ∀ b, EC (H.1, b) k E1) (hE2 : ∀ b, EC2 (H.1, b) k E2) {x y : Int} {c : List Nat} {X : List (Nat × List Nat)} {P : List Nat} {T : List Int} {s : CS} (hx : x ≤ 3900) (hy : y + 3 * k ≤ 87 ∧ 0 ≤ k) (h : JJ H x y c X P (ccI s :: T) s) (h0 : S0G s) (hk : 24 - sgI s ≤ k) (x1 : Int32) : ok (f_X7_statement N E1 E2 s x1) (fun R => STQ H x y X P (ccI s :: T) s R.2) := by
  have nf := h0.1
  unfold f_X7_statement f_X7_notReached
  refine ok_ite (fun _ => ?_) (fun _ => ok_imp (q_stm18 hN hE hE2 hx (by omega) h h0 hk x1) (fun R hR => hR.w (by omega) (Int.le_refl _)))
  refine ok_bind (Q := fun w => IRR s w.2) (ok_ite (fun _ => ok_some (IRR.rf h.1)) (fun _ => ok_some ((IRR.rf h.1).i 37 _ (by unfold IRJ; omega) (by omega)))) (fun w hw => ?_)
  have sx := hw.sx nf
  have nfu := hw.f.1.trans nf
  have ecu : ccI w.2 = ccI s := by unfold ccI; rw [sx.2.2.2.1.2.2.2]
  have ju := h.irr hw
  rw [← ecu] at ju
  have gu := ju.s0g nfu (sx.ng h0.2.2.1 h0.2.1)
  refine ok_imp (q_stm18 hN hE hE2 hx (by omega) ju gu (by have := sx.2.2.1; omega) x1) (fun R hR => ?_)
  rw [ecu] at hR
  have hw2 := hR.w (x' := x) (y' := y) (by omega) (Int.le_refl _)
  exact ⟨hw2.1, fun z => ⟨(hw2.2 z).1, sx.srl0 (by omega) (by omega) (hw2.2 z).2 h0.2.1⟩⟩
end
section
/-! the class's reading: what a turn leaves -/
/-- no more than one row is new, and it is not one behind a try -/
def NWR (s R : CS) : Prop := cnI R ≤ cnI s + 1 ∧ (cnI R = cnI s + 1 → ∀ b : Nat, R.r 51 (cnI s).toNat = some b → ¬ R.o b 0 = 305)
def TNR (s R : CS) : Prop := s.i 32 = 0 ∧ (plI s ≤ plI R ∧ eI s ≤ eI R ∧ 2 * plI s + cnI R + 1 ≤ 2 * plI R + cnI s) ∧ sgI R - SGS R (cnI R).toNat = sgI s - SGS s (cnI s).toNat ∧ (cnI s ≤ cnI R + 1 ∧ 1 ≤ cnI s ∧ NWR s R) ∧ RSQ s R ((cnI s).toNat - 1) ∧ (∀ n : Nat, (n : Int) < nmI s → R.a 49 n = s.a 49 n) ∧ (∀ i : Nat, (i : Int) < ccI s → R.a 18 i = s.a 18 i ∧ R.a 19 i = s.a 19 i) ∧ R.i 56 = s.i 56
def TNQ (H : HB) (x y : Int) (X : List (Nat × List Nat)) (P : List Nat) (T : List Int) (s R : CS) : Prop := CBS H R ∧ (R.i 32 = 0 → (∃ c' : List Nat, JJ H x y c' X P (ccI R :: T) R) ∧ TNR s R)
theorem SRL.trn {s R : CS} (h : SRL s R) (h1 : 1 ≤ cnI s) : TNR s R := by
  obtain ⟨a0, ⟨a1, a1'⟩, a2, a3, a4, a5, a6, a7, a8, a9, a10⟩ := h
  exact ⟨a0, ⟨by omega, by omega, by omega⟩, a2, ⟨by omega, h1, a3.2, a10 (by omega)⟩, a4.lo (by omega), a5, a6, a7⟩
theorem STQ.tq {H : HB} {x y : Int} {X : List (Nat × List Nat)} {P : List Nat} {T : List Int} {s R : CS} (h : STQ H x y X P (ccI s :: T) s R) (h1 : 1 ≤ cnI s) : TNQ H x y X P T s R := by
  refine ⟨h.1, fun q => ?_⟩
  obtain ⟨⟨c', j⟩, r⟩ := h.2 q
  have e : ccI R = ccI s := by unfold ccI; rw [r.2.2.2.2.2.2.2.2.1]
  rw [← e] at j
  exact ⟨⟨c', j⟩, r.trn h1⟩
theorem TNQ.flt {H : HB} {x y : Int} {X : List (Nat × List Nat)} {P : List Nat} {T : List Int} {s t R : CS} (h : CBS H t) (hf : FLD t R) : TNQ H x y X P T s R := ⟨hf.t9.cb h hf.2.2.1 (fun _ => hf.2.2.2.2) (fun q => absurd q hf.2.2.2.1), fun q => absurd q hf.2.2.2.1⟩
/-- from the turn's start to a place in it: the rows below the innermost one stay -/
def MDL (p g d : Int) (s R : CS) : Prop := s.i 32 = 0 ∧ (plI s + p ≤ plI R ∧ eI s + g ≤ eI R) ∧ sgI R = sgI s + d ∧ (R.i 53 = s.i 53 ∧ R.i 56 = s.i 56) ∧ RSQ s R ((cnI s).toNat - 1) ∧ (∀ n : Nat, (n : Int) < nmI s → R.a 49 n = s.a 49 n) ∧ (∀ i : Nat, (i : Int) < ccI s → R.a 18 i = s.a 18 i ∧ R.a 19 i = s.a 19 i) ∧ (ccI s ≤ ccI R ∧ nmI s ≤ nmI R)
theorem SX.mid {p g d : Int} {s R : CS} (h : SX p g d s R) : MDL p g d s R := by
  obtain ⟨a0, a1, a3, ⟨a4, a5, a6, a7⟩, a8, a9, a10, a11⟩ := h
  exact ⟨a0, a1, a3, ⟨a5, a6⟩, a9.lo (by omega), a10, a11, by unfold ccI; rw [a7]; exact Int.le_refl _, a8⟩
theorem MDL.tr {p g d p' g' d' : Int} {s R T : CS} (h : MDL p g d s R) (k : MDL p' g' d' R T) : MDL (p + p') (g + g') (d + d') s T := by
  obtain ⟨a0, ⟨a1, a2⟩, a3, ⟨a5, a6⟩, a9, a10, a11, a12, a13⟩ := h
  obtain ⟨b0, ⟨b1, b2⟩, b3, ⟨b5, b6⟩, b9, b10, b11, b12, b13⟩ := k
  have ecn : cnI R = cnI s := by unfold cnI; rw [a5]
  rw [ecn] at b9
  exact ⟨a0, ⟨by omega, by omega⟩, by omega, ⟨b5.trans a5, b6.trans a6⟩, a9.tr b9, fun n hn => (b10 n (by omega)).trans (a10 n hn), fun i hi => ⟨(b11 i (by omega)).1.trans (a11 i hi).1, (b11 i (by omega)).2.trans (a11 i hi).2⟩, by omega, by omega⟩
theorem MDL.w {p g d p' g' d' : Int} {s R : CS} (h : MDL p g d s R) (hp : p' ≤ p) (hg : g' ≤ g) (hd : d' = d) : MDL p' g' d' s R := by
  obtain ⟨a0, ⟨a1, a2⟩, a3, a4⟩ := h
  exact ⟨a0, ⟨by omega, by omega⟩, by omega, a4⟩
/-- the innermost row's cell gets other numbers -/
theorem MDL.cel {s R : CS} {a m : Nat} {f : Nat → Int32} {l : Int64} (nf : s.i 32 = 0) (hr : REFS s) (hm : cnI s = (m : Int) + 1) (m4 : m < 400) (ea : s.r 51 m = some a) (h : OUV s R a f l) : MDL 0 0 0 s R := by
  obtain ⟨⟨a1, a2, a3, a4, a5, a6, a7, a8, a9, a10⟩, a11, a12, a13⟩ := h
  have epl : plI R = plI s := by unfold plI; rw [a10]
  have ee : eI R = eI s := by unfold eI; rw [epl, a10]
  have em : (cnI s).toNat - 1 = m := by omega
  refine ⟨nf, by omega, by unfold sgI; rw [a10]; omega, ⟨by rw [a10], by rw [a10]⟩, ?_, fun _ _ => by rw [a9], fun _ _ => by rw [a9]; exact ⟨rfl, rfl⟩, by unfold ccI; rw [a10]; exact Int.le_refl _, by unfold nmI; rw [a10]; exact Int.le_refl _⟩
  rw [em]
  intro i hi
  refine ⟨by rw [a5], fun b eb => ?_⟩
  exact a11 b (fun z => by
    rw [z] at eb
    have := hr.2.2.1 i m a (by omega) m4 eb ea
    omega)
/-- the number of names goes back to the innermost row's -/
theorem JK.nmr {H : HB} {x y : Int} {cD c d : List Nat} {X : List (Nat × List Nat)} {P : List Nat} {lim : List Int} {s : CS} {a m : Nat} (h : JK H x y cD c d X P lim s) (ea : s.r 51 m = some a) (m4 : m < 400) (hm : s.i 32 = 0 → cnI s = (m : Int) + 1) : JK H x y cD c d X P lim (CS.setI s 50 (s.o a 3)) := by
  have o3 := (h.1.2.2.2.2.2.2.2.1 m a m4 ea).2
  have yi : ∀ j : Nat, j ≠ 50 → (CS.setI s 50 (s.o a 3)).i j = s.i j := fun j q => ci_ne _ _ _ q
  have y50 : nmI (CS.setI s 50 (s.o a 3)) = (s.o a 3).toInt := by unfold nmI; rw [ci_at]
  have ya : (CS.setI s 50 (s.o a 3)).a = s.a := ca_setI ..
  have yr : (CS.setI s 50 (s.o a 3)).r = s.r := cr_setI ..
  have yo : (CS.setI s 50 (s.o a 3)).o = s.o := co_setI ..
  have yl : (CS.setI s 50 (s.o a 3)).ol = s.ol := col_setI ..
  have cb : CBS H (CS.setI s 50 (s.o a 3)) := by
    obtain ⟨c1, c2, c3, c4, c5, c6, c7, c8, c9⟩ := h.1
    refine ⟨c1, c2, c3, c4, ?_, by rw [y50]; exact o3, c7, c8, ?_⟩
    · rw [yi 32 (by decide), yi 43 (by decide)]; exact c5
    · rw [yi 36 (by decide), yi 14 (by decide), yi 13 (by decide), yi 27 (by decide)]; exact c9
  generalize CS.setI s 50 (s.o a 3) = R at *
  refine ⟨cb, fun q => ?_⟩
  have q' := (yi 32 (by decide)).symm.trans q
  obtain ⟨g, n⟩ := h.2 q'
  have hm := hm q'
  have ecn : cnI R = cnI s := by unfold cnI; rw [yi 53 (by decide)]
  have etc : tcI R = tcI s := by unfold tcI; rw [yi 21 (by decide)]
  have ecc : ccI R = ccI s := by unfold ccI; rw [yi 22 (by decide)]
  have esz : szI R = szI s := by unfold szI; rw [yi 20 (by decide)]
  have esg : sgI R = sgI s := by unfold sgI; rw [yi 34 (by decide)]
  have eds : dsI R = dsI s := by unfold dsI; rw [yi 38 (by decide)]
  have epl : plI R = plI s := by unfold plI; rw [yi 44 (by decide)]
  have ee : eI R = eI s := by unfold eI; rw [epl, yi 43 (by decide)]
  have rq : ∀ k : Nat, RSQ s R k := fun k i _ => ⟨by rw [yr], fun b _ => ⟨by rw [yo], by rw [yl]⟩⟩
  have nr := h.1.2.2.2.2.2.2.1.2.2
  refine ⟨?_, ?_⟩
  · obtain ⟨D, DT, KT, h1, h2, h3, h4, h5, ⟨k, k1, k2, k3⟩, h7, h8, h9, h10⟩ := g
    have top := (h10 m a (by omega) ea).1
    refine ⟨D, DT, KT, ?_, ?_, fun t q1 q2 q3 => ?_, by rw [esz]; exact h4, by rw [etc]; exact h5, ⟨k, by rw [ecn]; exact k1, k2, ?_⟩, fun i hi => ?_, by rw [etc]; exact h8, by rw [ecc]; exact h9, fun i b hi e => ?_⟩
    · unfold CDT at *; rw [ya, etc, esz]; exact h1
    · unfold TGS at *; rw [ya, etc, esz]; exact h2
    · rw [etc] at q1
      rw [ya] at q3
      rcases h3 t q1 q2 q3 with z | z
      · exact Or.inl z
      · exact Or.inr (z.of (by omega) (fun i b _ e => ⟨by rw [yr]; exact e, by rw [yo]⟩))
    · exact k3.mono (by omega) (fun _ _ => ⟨rfl, Iff.rfl⟩) (fun t _ q => by rw [ya]; exact q) (rq k) (fun _ _ => by rw [ya]) (fun _ _ _ _ _ _ => by rw [ya]) k3.nr
    · rw [y50] at hi
      rw [ya]
      exact h7 i (by omega)
    · rw [yr] at e
      rw [ecn] at hi
      have z := h10 i b hi e
      rw [y50, yo]
      refine ⟨?_, fun j b' y1 y2 y3 => ?_⟩
      · by_cases ci : i = m
        · rw [ci, ea] at e
          cases e
          exact Int.le_refl _
        · exact z.2 m a (by omega) (by omega) ea
      · rw [yr] at y3
        rw [ecn] at y2
        exact z.2 j b' y1 y2 y3
  · obtain ⟨i1, i2, i3, i4, i5⟩ := (rq (cnI s).toNat).sums nr
    obtain ⟨c1, c2, c3, c4, c5, c6, c7, c8, c9⟩ := n
    exact ⟨by omega, by omega, by omega, by omega, by rw [ecn]; exact c5.of (rq _) nr, by rw [ecn, i1, ee]; exact c6, by rw [ecn, i2, esg]; exact c7, by rw [eds]; exact c8, by rw [yi 56 (by decide), ecn, yr, yo]; exact c9⟩
theorem sgn.ge (s : CS) (a : Nat) : 0 ≤ sgn s a ∧ 0 ≤ cost s a := by
  refine ⟨?_, ?_⟩
  · unfold sgn
    by_cases q : s.o a 0 = 302
    · rw [if_pos q]; decide
    · rw [if_neg q]
      by_cases q2 : s.o a 0 = 301 ∨ s.o a 0 = 212 ∨ s.o a 0 = 218 ∨ s.o a 0 = 213 ∨ s.o a 0 = 215 ∨ s.o a 0 = 216
      · rw [if_pos q2]; decide
      · rw [if_neg q2]; decide
  · unfold cost
    by_cases q : s.o a 0 = 300 ∨ s.o a 0 = 301
    · rw [if_pos q]; decide
    · rw [if_neg q]
      by_cases q2 : s.o a 0 = 302
      · rw [if_pos q2]; decide
      · rw [if_neg q2]
        by_cases q3 : s.o a 0 = 303 ∧ 97 ≤ (s.ol a).toInt ∧ (s.ol a).toInt ≤ 122
        · rw [if_pos q3]; decide
        · rw [if_neg q3]; decide
theorem q_popC (N : Nat) {H : HB} {s : CS} (h : CBS H s) : ok (f_X6_pop N s) (fun R => CBS H R.2 ∧ (1 ≤ cnI s → R.2 = CS.setI s 53 (s.i 53 - 1) ∧ cnI R.2 = cnI s - 1) ∧ R.2.i 32 = s.i 32) := by
  have cn := h.2.2.2.2.2.2.1
  by_cases z : 1 ≤ cnI s
  · refine ok_imp (q_pop6 N s ⟨z, cn.2.1⟩) (fun R hR => ?_)
    rw [hR.1]
    exact ⟨h.sh _ ⟨by rw [hR.2]; omega, by rw [hR.2]; omega⟩, fun _ => ⟨rfl, by unfold cnI; rw [ci_at]; exact hR.2⟩, ci_ne _ _ _ (by decide)⟩
  · unfold f_X6_pop
    have e0 : cnI s = 0 := by omega
    have e53 : s.i 53 = 0 := Int32.toInt_inj.mp (by rw [z_t0]; exact e0)
    refine ok_some ⟨?_, fun q => absurd q z, ci_ne _ _ _ (by decide)⟩
    have e : (if 0 < (s.i 53) - 1 then (s.i 53) - 1 else 0) = (0 : Int32) := by rw [e53]; decide
    show CBS H (CS.setI s 53 (if 0 < (s.i 53) - 1 then (s.i 53) - 1 else 0))
    rw [e]
    exact h.sh 0 ⟨by decide, by rw [z_t0]; omega⟩
/-- the innermost row goes -/
theorem JK.pop {H : HB} {x y : Int} {cD c d cc : List Nat} {X : List (Nat × List Nat)} {P : List Nat} {lim ll : List Int} {s R : CS} {a m : Nat} (h : JK H x y cD c d X P lim s) (nf : s.i 32 = 0) (hb : CBS H R) (hm : cnI s = (m : Int) + 1) (ea : s.r 51 m = some a) (eR : R = CS.setI s 53 (s.i 53 - 1)) (hc : cnI R = (m : Int)) (hO : ∀ k : Nat, (k : Int) < tcI s → (s.a 17 k).toInt = -1 → OWS s a k → k ∈ P) (hcl : ∀ (DT : Nat → List Nat) (KT : Nat → Prop) (c0 : List Nat) (lim0 : List Int), ROW1 s DT KT a c0 c lim lim0 → c0 = cc ∧ lim0 = ll) (hN : ∀ n : Nat, (n : Int) < nmI s → (n : Int) < (s.o a 3).toInt ∨ c = cc) (h56 : (s.i 56).toInt < (m : Int)) (hll : lmh ll ≤ ccI s) : JK H (x - 50) y cD cc d X P ll R := by
  obtain ⟨g, n⟩ := h.2 nf
  have Ri : ∀ j : Nat, j ≠ 53 → R.i j = s.i j := fun j hj => by rw [eR]; exact ci_ne _ _ _ hj
  have Ra : R.a = s.a := by rw [eR]; exact ca_setI ..
  have Rr : R.r = s.r := by rw [eR]; exact cr_setI ..
  have Ro : R.o = s.o := by rw [eR]; exact co_setI ..
  have Rl : R.ol = s.ol := by rw [eR]; exact col_setI ..
  have rq : RSQ s R m := fun i _ => ⟨by rw [Rr], fun b _ => ⟨by rw [Ro], by rw [Rl]⟩⟩
  refine ⟨hb, fun _ => ⟨?_, ?_⟩⟩
  · obtain ⟨b, c0, lim0, w1, ⟨DT, KT, w2, w3⟩, w4, w5⟩ := g.pop (R := R) (m := m) (P' := P) hm.symm ⟨⟨by rw [Ra], by rw [Ra], by rw [Ra], by rw [Ra], by rw [Ra]⟩, Ri 20 (by decide), Ri 21 (by decide), Ri 50 (by decide), Ri 22 (by decide)⟩ hc rq (fun _ z => z) (fun b k e1 e2 e3 e4 => by
      rw [ea] at e1
      cases e1
      exact hO k e2 e3 e4) (fun c0 lim0 b e1 ⟨DT, KT, e2⟩ k hk z => by
      rw [ea] at e1
      cases e1
      have e := (hcl DT KT c0 lim0 e2).1
      rcases hN k hk with q | q
      · exact e2.2.1 k q
      · rw [e, ← q]; exact z)
    rw [ea] at w1
    cases w1
    obtain ⟨e1, e2⟩ := hcl DT KT c0 lim0 w2
    rw [e1, e2] at w5
    exact w5
  · have nr : NR s m := fun i hi => h.1.2.2.2.2.2.2.1.2.2 i (by omega)
    obtain ⟨i1, i2, i3, i4, i5⟩ := rq.sums nr
    obtain ⟨c1, c2, c3, c4, c5, c6, c7, c8, c9⟩ := n
    have em : (cnI s).toNat = m + 1 := by omega
    have emR : (cnI R).toNat = m := by omega
    rw [em] at c5 c6 c7
    have cw : WCS s (m + 1) = WCS s m + cost s (rowA s m) := rfl
    have sw : SGS s (m + 1) = SGS s m + sgn s (rowA s m) := rfl
    have ge := sgn.ge s (rowA s m)
    have etc : tcI R = tcI s := by unfold tcI; rw [Ri 21 (by decide)]
    have ecc : ccI R = ccI s := by unfold ccI; rw [Ri 22 (by decide)]
    have esz : szI R = szI s := by unfold szI; rw [Ri 20 (by decide)]
    have esg : sgI R = sgI s := by unfold sgI; rw [Ri 34 (by decide)]
    have eds : dsI R = dsI s := by unfold dsI; rw [Ri 38 (by decide)]
    have epl : plI R = plI s := by unfold plI; rw [Ri 44 (by decide)]
    have ee : eI R = eI s := by unfold eI; rw [epl, Ri 43 (by decide)]
    refine ⟨by omega, by omega, by omega, by omega, by rw [emR]; exact IQ.of (fun j hj => c5 j (by omega)) rq nr, by rw [emR, i1, ee]; omega, by rw [emR, i2, esg]; omega, by rw [eds]; exact c8, ?_⟩
    rw [Ri 56 (by decide), Rr, Ro]
    exact ⟨c9.1, by omega, c9.2.2⟩
end
section
/-! the class's reading: a body ends -/
theorem RCH.top {s : CS} {DT : Nat → List Nat} {KT : Nat → Prop} {m a : Nat} {c : List Nat} {L : List Int} (h : RCH s DT KT (m + 1) c L) (ea : s.r 51 m = some a) : ∃ (c0 : List Nat) (L0 : List Int), ROW1 s DT KT a c0 c L L0 := by
  obtain ⟨b, c0, L', h1, h2, h3, h4⟩ := h
  rw [ea] at h1
  cases h1
  exact ⟨c0, L', h3⟩
/-- rows with one body -/
def isB1 (v : Int32) : Prop := v = 203 ∨ v = 204 ∨ v = 205 ∨ v = 206 ∨ v = 207 ∨ v = 303 ∨ v = 304
theorem ROW1.pl {s : CS} {DT : Nat → List Nat} {KT : Nat → Prop} {a : Nat} {c0 c : List Nat} {lim lim' : List Int} (h : ROW1 s DT KT a c0 c lim lim') (hs : isB1 (s.o a 0) ∨ s.o a 0 = 300 ∨ s.o a 0 = 301) : c0 = c ∧ lim' = lim := by
  obtain ⟨h1, h2, h3⟩ := h
  obtain ⟨v, hv⟩ : ∃ v, v = s.o a 0 := ⟨_, rfl⟩
  rw [← hv] at hs
  unfold isB1 at hs
  have no : ∀ w : Int32, s.o a 0 = w → ¬ ((w = 203 ∨ w = 204 ∨ w = 205 ∨ w = 206 ∨ w = 207 ∨ w = 303 ∨ w = 304) ∨ w = 300 ∨ w = 301) → c0 = c ∧ lim' = lim := fun w e q => absurd (by rw [← e, ← hv]; exact hs) q
  rcases h3 with ⟨z1, z2, e⟩ | ⟨z1, z2, z3, -⟩ | ⟨z1, z2, z3, e⟩ | ⟨z1, z2, z3, e⟩ | ⟨z1, z2, z3, z4, e⟩ | ⟨z1, z2, z3, z4, z5, e⟩ | ⟨z1, z2, z3, -⟩ | ⟨z1, z2, z3, e⟩ | ⟨z1, z2, z3, -⟩ | ⟨z1, z2, z3, -⟩ | ⟨z1, z2, z3, -⟩ | ⟨z1, z2, z3, e⟩
  · exact ⟨z2.symm, e⟩
  · exact no _ z1 (by decide)
  · exact ⟨z2.symm, e⟩
  · exact ⟨z2.symm, e⟩
  · exact ⟨z2.symm, e⟩
  · exact ⟨z2.symm, e⟩
  · exact no _ z1 (by decide)
  · exact no _ z1 (by decide)
  · exact no _ z1 (by decide)
  · exact no _ z1 (by decide)
  · exact no _ z1 (by decide)
  · exact no _ z1 (by decide)
theorem AIM.at {s R : CS} {t : Int32} (h : AIM s R t) {k : Nat} (hk : (k : Int) = t.toInt) (h4 : k < 1024) (h0 : 0 ≤ szI s) : ¬ (R.a 17 k).toInt = -1 := by
  rw [h.2.2.2, gPut_at hk h4]
  have : 0 ≤ (s.i 20).toInt := h0
  omega
theorem q_gone5 {N : Nat} {s : CS} {a : Nat} (h : oK s a 0) (x2 : Int32) : ∀ (n : Nat) (x3 : Int32), (s.i 55).toInt - x3.toInt < n → ok (f_X6_isGoneTo_5 N (n + 1) s a x2 x3) (fun R => R.2 = s)
  | n, x3, hn => by
    show ok (b_X6_isGoneTo_5 N (f_X6_isGoneTo_5 N n) s a x2 x3) _
    unfold b_X6_isGoneTo_5 f_X6_jumpTo
    have e1 : (1 : Int32).toInt = 1 := by decide
    refine ok_ite (fun _ => ok_some rfl) (fun c => ?_)
    have l := lt_int (Int32.not_le.mp c)
    have b1 := Int32.toInt_lt (s.i 55)
    have b2 := Int32.le_toInt x3
    have es : (x3 + 1).toInt = x3.toInt + 1 := by rw [toInt_add] <;> rw [e1] <;> omega
    obtain ⟨n', rfl⟩ : ∃ n', n = n' + 1 := ⟨n - 1, by omega⟩
    refine ok_bind (Q := fun w => w.2 = s) (ok_chk h (ok_ite (fun _ => ok_some rfl) (fun _ => ok_some rfl))) (fun w hw => ?_)
    rw [hw]
    exact ok_ite (fun _ => ok_some rfl) (fun _ => q_gone5 h x2 n' (x3 + 1) (by omega))
  termination_by n => n
theorem q_gone {N : Nat} (hN : 10000000000 ≤ N) {s : CS} {a : Nat} (h : oK s a 0) (x2 : Int32) : ok (f_X6_isGoneTo N s a x2) (fun R => R.2 = s) := by
  unfold f_X6_isGoneTo
  obtain ⟨N', rfl⟩ : ∃ N', N = N' + 1 := ⟨N - 1, by omega⟩
  have b1 := Int32.toInt_lt (s.i 55)
  have b2 := Int32.le_toInt (s.o a 14)
  exact ok_chk h (q_gone5 h x2 N' _ (by omega))
theorem MDL.pop {p g d : Int} {σ s R : CS} {a m : Nat} (h : MDL p g d σ s) (hp : 0 ≤ p) (hg : 0 ≤ g) (hm : cnI σ = (m : Int) + 1) (ea : σ.r 51 m = some a) (nr : NR σ (m + 1)) (hd : d = - sgn σ a) (hRi : ∀ j : Nat, j = 34 ∨ j = 43 ∨ j = 44 ∨ j = 56 → R.i j = s.i j) (hRa : R.a 18 = s.a 18 ∧ R.a 19 = s.a 19 ∧ R.a 49 = s.a 49) (rq : RSQ s R m) (hc : cnI R = (m : Int)) : TNR σ R := by
  obtain ⟨a0, ⟨a1, a2⟩, a3, ⟨a5, a6⟩, a9, a10, a11, a12, a13⟩ := h
  have em : (cnI σ).toNat = m + 1 := by omega
  have emR : (cnI R).toNat = m := by omega
  have e1 : (cnI σ).toNat - 1 = m := by omega
  rw [e1] at a9
  have rr := a9.tr rq
  obtain ⟨i1, i2, i3, i4, i5⟩ := rr.sums (fun i hi => nr i (by omega))
  have epl : plI R = plI s := by unfold plI; rw [hRi 44 (by omega)]
  have ee : eI R = eI s := by unfold eI; rw [epl, hRi 43 (by omega)]
  have esg : sgI R = sgI s := by unfold sgI; rw [hRi 34 (by omega)]
  have sw : SGS σ (m + 1) = SGS σ m + sgn σ a := by
    show SGS σ m + sgn σ (rowA σ m) = _
    rw [rowA.of ea]
  refine ⟨a0, ⟨by omega, by omega, by omega⟩, ?_, ⟨by omega, by omega, by omega, fun q => absurd q (by omega)⟩, by rw [e1]; exact rr, fun n hn => by rw [hRa.2.2]; exact a10 n hn, fun i hi => by rw [hRa.1, hRa.2.1]; exact a11 i hi, (hRi 56 (by omega)).trans a6⟩
  rw [emR, i2, em, sw]
  omega
/-- the end of a row with one body -/
theorem q_eb193 {N : Nat} {H : HB} {E1 : CS → Option (Unit × CS)} {E2 : CS → Option (Int32 × CS)} {x y p g : Int} {c : List Nat} {X : List (Nat × List Nat)} {P : List Nat} {T : List Int} {σ s : CS} {a m : Nat} (h : JJ H x y c X P (ccI σ :: T) s) (ea : s.r 51 m = some a) (m4 : m < 400) (hσ : cnI σ = (m : Int) + 1 ∧ σ.r 51 m = some a ∧ NR σ (m + 1) ∧ isB1 (σ.o a 0)) (hs : s.i 32 = 0 → MDL p g 0 σ s ∧ s.i 22 = σ.i 22 ∧ s.o a 0 = σ.o a 0) (hp : 0 ≤ p) (hg : 0 ≤ g) (hO : s.i 32 = 0 → ∀ k : Nat, (k : Int) < tcI s → (s.a 17 k).toInt = -1 → OWS s a k → k ∈ P) : ok (f_X7_endBody_193 N E1 E2 s a) (fun R => TNQ H (x - 50) y X P T σ R.2 ∧ (R.2.i 32 = 0 → cnI R.2 = (m : Int))) := by
  unfold f_X7_endBody_193
  have hcn : s.i 32 = 0 → cnI s = (m : Int) + 1 := fun z => by
    rw [← hσ.1]; unfold cnI; rw [(hs z).1.2.2.2.1.1]
  have j1 := h.k.nmr ea m4 hcn
  refine ok_chk (h.1.1.2.1 m a m4 ea) ?_
  have yi : ∀ j : Nat, j ≠ 50 → (CS.setI s 50 (s.o a 3)).i j = s.i j := fun j q => ci_ne _ _ _ q
  have y50 : nmI (CS.setI s 50 (s.o a 3)) = (s.o a 3).toInt := by unfold nmI; rw [ci_at]
  have ya : (CS.setI s 50 (s.o a 3)).a = s.a := ca_setI ..
  have yr : (CS.setI s 50 (s.o a 3)).r = s.r := cr_setI ..
  have yo : (CS.setI s 50 (s.o a 3)).o = s.o := co_setI ..
  have yl : (CS.setI s 50 (s.o a 3)).ol = s.ol := col_setI ..
  generalize CS.setI s 50 (s.o a 3) = Y at *
  refine ok_bind (q_popC N j1.1) (fun R hR => ok_some ?_)
  obtain ⟨r1, r2, r3⟩ := hR
  show TNQ H (x - 50) y X P T σ R.2 ∧ (R.2.i 32 = 0 → cnI R.2 = (m : Int))
  refine ⟨⟨r1, fun q => ?_⟩, fun q => by
    have cs := hcn ((yi 32 (by decide)).symm.trans (r3.symm.trans q))
    have cY : cnI Y = (m : Int) + 1 := by rw [← cs]; unfold cnI; rw [yi 53 (by decide)]
    have := (r2 (by omega)).2
    omega⟩
  have qY := r3.symm.trans q
  have qs := (yi 32 (by decide)).symm.trans qY
  obtain ⟨md, e22, es0⟩ := hs qs
  have cs := hcn qs
  have cY : cnI Y = (m : Int) + 1 := by rw [← cs]; unfold cnI; rw [yi 53 (by decide)]
  obtain ⟨eR, cR⟩ := r2 (by omega)
  have etc : tcI Y = tcI s := by unfold tcI; rw [yi 21 (by decide)]
  have sort : isB1 (Y.o a 0) := by rw [yo, es0]; exact hσ.2.2.2
  have n9 := (j1.2 qY).2.2.2.2.2.2.2.2.2
  have h56 : (Y.i 56).toInt < (m : Int) := by
    by_cases z : (Y.i 56).toInt = (m : Int)
    · exfalso
      have e2 := n9.2.2 a (by omega) (by rw [show (Y.i 56).toInt.toNat = m by omega, yr]; exact ea)
      rw [e2] at sort
      exact absurd sort (by unfold isB1; decide)
    · have := n9.2.1; omega
  have jr := j1.pop (cc := c) (ll := ccI σ :: T) qY r1 cY (by rw [yr]; exact ea) eR (by omega) (fun k k1 k2 k3 => hO qs k (by omega) (by rw [← ya]; exact k2) (by unfold OWS at *; rw [yo] at k3; exact k3)) (fun DT KT c0 lim0 z => z.pl (Or.inl sort)) (fun _ _ => Or.inr rfl) h56 (by
    have := (j1.2 qY).1.lim
    exact this)
  have Ri : ∀ j : Nat, j ≠ 53 → j ≠ 50 → R.2.i j = s.i j := fun j k1 k2 => by rw [eR, ci_ne _ _ _ k1, yi j k2]
  have ecc : ccI R.2 = ccI σ := by unfold ccI; rw [Ri 22 (by decide) (by decide), e22]
  rw [ecc]
  refine ⟨⟨c, JK.j jr⟩, md.pop hp hg hσ.1 hσ.2.1 hσ.2.2.1 ?_ (fun j hj => Ri j (by omega) (by omega)) (by rw [eR, ca_setI, ya]; exact ⟨rfl, rfl, rfl⟩) (fun i _ => ⟨by rw [eR, cr_setI, yr], fun b _ => ⟨by rw [eR, co_setI, yo], by rw [eR, col_setI, yl]⟩⟩) (by omega)⟩
  have so := hσ.2.2.2
  unfold isB1 at so
  unfold sgn
  rcases so with e | e | e | e | e | e | e <;> rw [e] <;> rfl
end
section
/-! the class's reading: if, else, loops and labels end -/
theorem MDL.trn {p g d : Int} {σ R : CS} {a m : Nat} (h : MDL p g d σ R) (hp : 1 ≤ p) (hg : 0 ≤ g) (hm : cnI σ = (m : Int) + 1) (ea : σ.r 51 m = some a) (eR : R.r 51 m = some a) (nr : NR σ (m + 1)) (hsg : sgn R a = sgn σ a + d) : TNR σ R := by
  obtain ⟨a0, ⟨a1, a2⟩, a3, ⟨a5, a6⟩, a9, a10, a11, a12, a13⟩ := h
  have ecn : cnI R = cnI σ := by unfold cnI; rw [a5]
  have em : (cnI σ).toNat = m + 1 := by omega
  have e1 : (cnI σ).toNat - 1 = m := by omega
  have rr := a9
  rw [e1] at rr
  obtain ⟨i1, i2, i3, i4, i5⟩ := rr.sums (fun i hi => nr i (by omega))
  have sw : SGS σ (m + 1) = SGS σ m + sgn σ a := by
    show SGS σ m + sgn σ (rowA σ m) = _
    rw [rowA.of ea]
  have sR : SGS R (m + 1) = SGS σ m + sgn R a := by
    show SGS R m + sgn R (rowA R m) = _
    rw [rowA.of eR, i2]
  refine ⟨a0, ⟨by omega, by omega, by omega⟩, ?_, ⟨by omega, by omega, by omega, fun q => absurd q (by omega)⟩, a9, a10, a11, a6⟩
  rw [ecn, em, sR, sw]
  omega
/-- the same, and then the row goes: no names come to an end -/
theorem q_ebpop {N : Nat} {H : HB} {x y p g : Int} {c : List Nat} {X : List (Nat × List Nat)} {P : List Nat} {T : List Int} {σ s : CS} {a m : Nat} (h : JJ H x y c X P (ccI σ :: T) s) (ea : s.r 51 m = some a) (hσ : cnI σ = (m : Int) + 1 ∧ σ.r 51 m = some a ∧ NR σ (m + 1) ∧ isB1 (σ.o a 0)) (hs : s.i 32 = 0 → MDL p g 0 σ s ∧ s.i 22 = σ.i 22 ∧ s.o a 0 = σ.o a 0) (hp : 0 ≤ p) (hg : 0 ≤ g) (hO : s.i 32 = 0 → ∀ k : Nat, (k : Int) < tcI s → (s.a 17 k).toInt = -1 → OWS s a k → k ∈ P) : ok ((f_X6_pop N s).bind fun p27 => some ((), p27.2)) (fun R => TNQ H (x - 50) y X P T σ R.2 ∧ (R.2.i 32 = 0 → cnI R.2 = (m : Int))) := by
  refine ok_bind (q_popC N h.1) (fun R hR => ok_some ?_)
  obtain ⟨r1, r2, r3⟩ := hR
  show TNQ H (x - 50) y X P T σ R.2 ∧ (R.2.i 32 = 0 → cnI R.2 = (m : Int))
  have hcn : R.2.i 32 = 0 → cnI R.2 = (m : Int) := fun q => by
    have cs : cnI s = (m : Int) + 1 := by rw [← hσ.1]; unfold cnI; rw [(hs (r3.symm.trans q)).1.2.2.2.1.1]
    have := (r2 (by omega)).2
    omega
  refine ⟨⟨r1, fun q => ?_⟩, hcn⟩
  have qs := r3.symm.trans q
  obtain ⟨md, e22, es0⟩ := hs qs
  have cs : cnI s = (m : Int) + 1 := by rw [← hσ.1]; unfold cnI; rw [md.2.2.2.1.1]
  obtain ⟨eR, cR⟩ := r2 (by omega)
  have sort : isB1 (s.o a 0) := by rw [es0]; exact hσ.2.2.2
  have n9 := (h.2 qs).2.2.2.2.2.2.2.2.2
  have h56 : (s.i 56).toInt < (m : Int) := by
    by_cases z : (s.i 56).toInt = (m : Int)
    · exfalso
      have e2 := n9.2.2 a (by omega) (by rw [show (s.i 56).toInt.toNat = m by omega]; exact ea)
      rw [e2] at sort
      exact absurd sort (by unfold isB1; decide)
    · have := n9.2.1; omega
  have jr := h.k.pop (cc := c) (ll := ccI σ :: T) qs r1 cs ea eR (by omega) (fun k k1 k2 k3 => hO qs k k1 k2 k3) (fun DT KT c0 lim0 z => z.pl (Or.inl sort)) (fun _ _ => Or.inr rfl) h56 (h.2 qs).1.lim
  have Ri : ∀ j : Nat, j ≠ 53 → R.2.i j = s.i j := fun j k1 => by rw [eR, ci_ne _ _ _ k1]
  have ecc : ccI R.2 = ccI σ := by unfold ccI; rw [Ri 22 (by decide), e22]
  rw [ecc]
  refine ⟨⟨c, JK.j jr⟩, md.pop hp hg hσ.1 hσ.2.1 hσ.2.2.1 ?_ (fun j hj => Ri j (by omega)) (by rw [eR, ca_setI]; exact ⟨rfl, rfl, rfl⟩) (fun i _ => ⟨by rw [eR, cr_setI], fun b _ => ⟨by rw [eR, co_setI], by rw [eR, col_setI]⟩⟩) (by omega)⟩
  have so := hσ.2.2.2
  unfold isB1 at so
  unfold sgn
  rcases so with e | e | e | e | e | e | e <;> rw [e] <;> rfl
theorem NTG.cm {s t s2 t2 : CS} {a : Nat} {f : Nat → Int32} {l : Int64} (h : OUV s t a f l) (h1 : NTG s s2) (h2 : NTG t t2) : OUV s2 t2 a f l := by
  obtain ⟨⟨a1, a2, a3, a4, a5, a6, a7, a8, a9, a10⟩, a11, a12, a13⟩ := h
  obtain ⟨⟨b1, b2, b3, b4, b5, b6, b7, b8, b9, b10⟩, b11, b12, b13, b14⟩ := h1
  obtain ⟨⟨d1, d2, d3, d4, d5, d6, d7, d8, d9, d10⟩, d11, d12, d13, d14⟩ := h2
  refine ⟨⟨by rw [d1, b1, a1], by rw [d2, b2, a2], by rw [d3, b3, a3], by rw [d6, b6, a4], by rw [d7, b7, a5], by rw [d8, b8, a6], by rw [d9, b9, a7], by rw [d10, b10, a8], ?_, ?_⟩, fun z hz => by rw [d4, d5, b4, b5]; exact a11 z hz, by rw [d4]; exact a12, by rw [d5]; exact a13⟩
  · funext k
    by_cases q : k = 17
    · rw [q, d14, b14, a9, a10]
    · rw [d13 k q, b13 k q, a9]
  · funext j
    by_cases q : j = 21
    · rw [q, d12, b12, a10]
    · rw [d11 j q, b11 j q, a10]
/-- facts of a turn on a row a at m -/
def TUR (σ : CS) (a m : Nat) : Prop := σ.i 32 = 0 ∧ cnI σ = (m : Int) + 1 ∧ σ.r 51 m = some a ∧ NR σ (m + 1) ∧ m < 400
theorem ROW1.if10 {s : CS} {DT : Nat → List Nat} {KT : Nat → Prop} {a : Nat} {c0 c : List Nat} {lim lim' : List Int} (r : ROW1 s DT KT a c0 c lim lim') (hs : s.o a 0 = 203) : TTc (tcI s) DT KT (s.o a 10) c := by
  have pl := r.pl (Or.inl (Or.inl hs))
  obtain ⟨r1, r2, r3⟩ := r
  rw [pl.1] at r3
  have no : ∀ w : Int32, s.o a 0 = w → ¬ w = 203 → TTc (tcI s) DT KT (s.o a 10) c := fun w e n => absurd (e.symm.trans hs) n
  rcases r3 with ⟨z1, z2, e⟩ | ⟨z1, z2, z3, -⟩ | ⟨z1, z2, z3, e⟩ | ⟨z1, z2, z3, e⟩ | ⟨z1, z2, z3, z4, e⟩ | ⟨z1, z2, z3, z4, z5, e⟩ | ⟨z1, z2, z3, -⟩ | ⟨z1, z2, z3, e⟩ | ⟨z1, z2, z3, -⟩ | ⟨z1, z2, z3, -⟩ | ⟨z1, z2, z3, -⟩ | ⟨z1, z2, z3, e⟩
  · rcases z1 with z1 | z1
    · exact no _ z1 (by decide)
    · exact no _ z1 (by decide)
  · exact no _ z1 (by decide)
  · exact z3
  · rcases z1 with z1 | z1
    · exact no _ z1 (by decide)
    · exact no _ z1 (by decide)
  · exact z4
  · exact z4
  · exact no _ z1 (by decide)
  · exact no _ z1 (by decide)
  · exact no _ z1 (by decide)
  · exact no _ z1 (by decide)
  · exact no _ z1 (by decide)
  · exact no _ z1 (by decide)
theorem q_endIf {N : Nat} {H : HB} (hN : 1000 ≤ N) {x y : Int} {c : List Nat} {X : List (Nat × List Nat)} {P : List Nat} {T : List Int} {σ : CS} {a m : Nat} (hx : x ≤ 4000) (hy : y ≤ 90) (h : JJ H x y c X P (ccI σ :: T) σ) (ht : TUR σ a m) (hs : σ.o a 0 = 203) : ok (f_X7_endIf N σ a) (fun R => TNQ H x y X P T σ R.2 ∧ (R.2.i 32 = 0 → cnI R.2 = (m : Int) ∨ R.2.o a 0 = 204)) := by
  obtain ⟨nf, hm, ea, nr, m4⟩ := ht
  have okr : ∀ s : CS, CBS H s → s.r 51 m = some a → oK s a 0 := fun s hc e => hc.1.2.1 m a m4 e
  have sz := (h.2 nf).2.sz h.1.2.2.1 h.1.2.2.2.2.2.2.1.1 (by omega) (by omega)
  have b1 : isB1 (σ.o a 0) := Or.inl hs
  unfold f_X7_endIf
  refine ok_bind (q_skip hN h.1 204) (fun p hp => ?_)
  rcases hp with ⟨p1, p2, p3⟩ | ⟨p1, p2, p3⟩
  · rw [if_pos p1, p2]
    refine ok_chk (okr σ h.1 ea) ?_
    refine ok_bind (q_aim N σ (σ.o a 10)) (fun q hq => ?_)
    have t10 : ∀ (DT : Nat → List Nat) (KT : Nat → Prop), (∀ n : Nat, (n : Int) = cnI σ → RCH σ DT KT n c (ccI σ :: T)) → TTc (tcI σ) DT KT (σ.o a 10) c := fun DT KT qR => by
      obtain ⟨c0, L0, r⟩ := (qR (m + 1) (by omega)).top ea
      exact r.if10 hs
    have j1 : JJ H x y c X P (ccI σ :: T) q.2 := JK.j (h.k.aim hq (by omega) (by omega) (fun _ DT KT _ qR => by
      have w := t10 DT KT qR
      exact ⟨w.1, w.2.1, w.2.2.1⟩) (fun _ k hk => Or.inl hk))
    have ir := (IRR.rf j1.1).i 36 1 (by unfold IRJ; omega) (fun _ => Or.inr rfl)
    have j2 := j1.irr ir
    have r51 : (CS.setI q.2 36 1).r 51 m = some a := by rw [cr_setI, hq.1.2.2.2.2.2.2.1]; exact ea
    have o1 : (CS.setI q.2 36 1).o = σ.o := by rw [co_setI]; exact hq.1.2.2.2.1
    have a1 : (CS.setI q.2 36 1).a = q.2.a := ca_setI ..
    have tc1 : tcI (CS.setI q.2 36 1) = tcI σ := by unfold tcI; rw [ci_ne _ _ _ (by decide), hq.2.1]
    have i22 : (CS.setI q.2 36 1).i 22 = σ.i 22 := by rw [ci_ne _ _ _ (by decide), hq.2.1]
    refine ok_imp (q_ebpop (N := N) (p := 0) (g := 0) j2 r51 ⟨hm, ea, nr, b1⟩ (fun z => ⟨?_, i22, by rw [o1]⟩) (by omega) (by omega) (fun z k k1 k2 k3 => ?_)) (fun R hR => ⟨⟨hR.1.1, fun z => ?_⟩, fun z => Or.inl (hR.2 z)⟩)
    · have z1 := ir.f.1.symm.trans z
      exact ((hq.sx nf).mid.tr (ir.sx z1).mid).w (by omega) (by omega) (by omega)
    · exfalso
      unfold OWS at k3
      rw [o1, hs] at k3
      have k4 : (σ.o a 10).toInt = (k : Int) := by
        rcases k3 with w | w
        · exact absurd rfl w.2.2.2.1
        · exact w.2
      rw [a1] at k2
      exact hq.at k4.symm (by omega) (h.2 nf).1.tc0.2 k2
    · obtain ⟨⟨c', w⟩, w2⟩ := hR.1.2 z
      exact ⟨⟨c', w.w (by omega) (Int.le_refl _)⟩, w2⟩
  · rw [p1, if_neg (by decide)]
    obtain ⟨ju, xu⟩ := h.word p3 (fun _ => by rw [p2]; decide)
    have nfu := p3.f32.trans nf
    have sxu := xu nfu
    have ur : p.2.r = σ.r := p3.1.1.2.2.2.2.2.2.2.1
    have uo : p.2.o = σ.o := p3.1.1.2.2.2.1
    have ue : p.2.r 51 m = some a := by rw [ur]; exact ea
    have ucn : cnI p.2 = (m : Int) + 1 := by rw [← hm]; unfold cnI; rw [sxu.2.2.2.1.2.1]
    have b36 := ju.1.2.2.2.2.2.2.2.2.1
    refine ok_chk (okr p.2 ju.1 ue) (ok_chk b36 ?_)
    generalize p.2 = u at *
    have ouW := (((OUV.rf u a).o 0 204).o 5 0).o 6 (u.i 36)
    have cW := ((ju.1.o a 0 204 (by omega) (by omega)).o a 5 0 (fun _ => Or.inl rfl) (by omega)).o a 6 (u.i 36) (fun _ => b36) (by omega)
    generalize CS.setO (CS.setO (CS.setO u a 0 204) a 5 0) a 6 (u.i 36) = W at *
    have Wi : W.i = u.i := ouW.1.2.2.2.2.2.2.2.2.2
    have tcu : 0 ≤ tcI u ∧ tcI u ≤ 1010 := ⟨(ju.2 nfu).1.tc0.1, ((ju.2 nfu).2.sz ju.1.2.2.1 ju.1.2.2.2.2.2.2.1.1 (by omega) (by omega)).2⟩
    refine ok_bind (q_newTarget N W) (fun n hn => ?_)
    obtain ⟨n1, n2⟩ := hn
    obtain ⟨rr, -, v1, v2⟩ := q_newTarget N u
    obtain ⟨r0, n'⟩ := rr
    have v1 : NTG u n' := v1
    have ouN := NTG.cm ouW v1 n1
    have cn2 : CBS H n.2 := n1.cb cW (fun _ => by
      have : tcI W = tcI u := by unfold tcI; rw [Wi]
      omega)
    have nr2 : n.2.r 51 m = some a := by rw [n1.1.2.2.2.2.2.2.1, ouW.1.2.2.2.2.1]; exact ue
    refine ok_chk (okr n.2 cn2 nr2) ?_
    have ouB := ouN.o 9 n.1
    have cB := cn2.o a 9 n.1 (by omega) (by omega)
    generalize CS.setO n.2 a 9 n.1 = B at *
    -- the shadow
    have jn : JJ H (x - 200) (y - 3 + 1) c _ _ (ccI σ :: T) n' := ju.new v1 (by omega) (by omega) c
    have et : n.1.toInt = ((tcI u).toNat : Int) := by
      rw [n2, Wi]; show tcI u = _; omega
    obtain ⟨t, ht'⟩ : ∃ t, t = (tcI u).toNat := ⟨_, rfl⟩
    rw [← ht'] at jn et
    have nfn : n'.i 32 = 0 := v1.f.1.trans nfu
    have no : n'.o = σ.o := v1.1.2.2.2.1.trans uo
    have nr' : n'.r 51 m = some a := by rw [v1.1.2.2.2.2.2.2.1]; exact ue
    have ncn : cnI n' = (m : Int) + 1 := by rw [← ucn]; unfold cnI; rw [v1.2.1 53 (by decide)]
    have jx := jn.k.ext (n'.o a 10) c (fun _ DT KT _ qR => by
      obtain ⟨c0, L0, r⟩ := (qR (m + 1) (by omega)).top nr'
      exact r.if10 (by rw [no]; exact hs))
    obtain ⟨nx, hnx⟩ : ∃ nx, nx = (n'.o a 10).toInt.toNat := ⟨_, rfl⟩
    rw [← hnx] at jx
    have t10 : (n'.o a 10).toInt = (nx : Int) := by
      obtain ⟨D, DT, KT, -, -, -, -, -, ⟨k, k1, k2, k3⟩, -⟩ := (jn.2 nfn).1
      have ek : k = m + 1 := by omega
      rw [ek] at k3
      obtain ⟨c0, L0, r⟩ := k3.top nr'
      have := (r.if10 (by rw [no]; exact hs)).1
      omega
    have Bo : B.o a = upd (upd (upd (upd (u.o a) 0 204) 5 0) 6 (u.i 36)) 9 n.1 := ouB.2.2.1
    have B0 : B.o a 0 = 204 := by rw [Bo]; rfl
    have B9 : B.o a 9 = n.1 := by rw [Bo]; rfl
    have Bj : ∀ j : Nat, j = 2 ∨ j = 3 ∨ j = 10 ∨ j = 11 ∨ j = 13 → B.o a j = n'.o a j := fun j hj => by
      rw [Bo, no, ← uo]
      rcases hj with e | e | e | e | e <;> rw [e] <;> rfl
    have Bi : B.i = n'.i := ouB.1.2.2.2.2.2.2.2.2.2
    have Ba : B.a = n'.a := ouB.1.2.2.2.2.2.2.2.2.1
    have Br : B.r = n'.r := ouB.1.2.2.2.2.1
    have Bl : B.ol a = n'.ol a := by rw [ouB.2.2.2, v1.1.2.2.2.2.1]
    have rqB : RSQ n' B m := fun i hi => ⟨by rw [Br], fun b eb => ouB.2.1 b (fun z => by
      rw [z] at eb
      have := jn.1.1.2.2.1 i m a (by omega) m4 eb nr'
      omega)⟩
    have n203 : n'.o a 0 = 203 := by rw [no]; exact hs
    have jB : JK H (x - 200) (y - 3 + 1) c c c ((nx, c) :: (t, c) :: X) (nx :: P) (ccI σ :: T) B := by
      refine jx.top cB (by rw [Bi]) nr' (by rw [Br]; exact nr') (fun _ => ⟨ncn, ⟨⟨by rw [Ba], by rw [Ba], by rw [Ba], by rw [Ba], by rw [Ba]⟩, by rw [Bi], by rw [Bi], by rw [Bi], by rw [Bi]⟩, rqB, ⟨by rw [Bi], by rw [Bi], by rw [Bi], by rw [Bi], by rw [Bi]⟩, Bl, Bj 3 (by omega)⟩) (fun z => ?_) (fun _ => Or.inr ?_) (fun z => ?_) (fun _ DT KT c0 lim0 qX r => ?_) (fun _ k hk => ?_) (fun _ k _ k2 _ => Or.inl ?_) (fun _ _ _ z => z) (fun z => (jn.2 z).1.lim)
      · have := (jn.2 z).2.2.2.2.2.2.2.2.1
        unfold dsI at *
        rw [Bi]; exact this
      · rw [B0, n203]; exact ⟨by decide, by decide⟩
      · have w := (jn.2 z).2.2.2.2.2.2.2.1
        have em : (cnI n').toNat = m + 1 := by omega
        rw [em] at w
        have nrn : NR n' m := fun i hi => jn.1.2.2.2.2.2.2.1.2.2 i (by omega)
        have i2 := (rqB.sums nrn).2.1
        have e : SGS B (m + 1) = SGS n' (m + 1) := by
          show SGS B m + sgn B (rowA B m) = SGS n' m + sgn n' (rowA n' m)
          rw [i2, rowA.of (show B.r 51 m = some a by rw [Br]; exact nr'), rowA.of nr']
          unfold sgn
          rw [B0, n203]; rfl
        rw [e]; exact w
      · have pl := r.pl (Or.inl (Or.inl n203))
        obtain ⟨r1, r2, r3⟩ := r
        refine ⟨by rw [Bj 2 (by omega)]; exact r1, by rw [Bj 3 (by omega), Ba]; exact r2, ?_⟩
        refine Or.inr (Or.inr (Or.inr (Or.inl ⟨Or.inl B0, pl.1.symm, ?_, pl.2⟩)))
        rw [B9, pl.1, show tcI B = tcI n' by unfold tcI; rw [Bi]]
        exact TTc.x qX et (List.mem_cons_of_mem _ (List.mem_cons_self ..))
      · rcases List.mem_cons.mp hk with e | e
        · right; left
          rw [B0, B9, e]
          exact ⟨by decide, by decide, by decide, by decide, et⟩
        · exact Or.inl (List.mem_cons_of_mem _ e)
      · unfold OWS at k2
        rw [n203] at k2
        have k4 : (n'.o a 10).toInt = (k : Int) := by
          rcases k2 with w | w
          · exact absurd rfl w.2.2.2.1
          · exact w.2
        have : k = nx := by omega
        rw [this]; exact List.mem_cons_self ..
    have mB : MDL 2 3 0 σ B := by
      have o1 : MDL 0 0 0 n' B := MDL.cel nfn jn.1.1 ncn m4 nr' ouB
      exact (((sxu.mid).tr (v1.sx nfu).mid).tr o1).w (by omega) (by omega) (by omega)
    rw [B9]
    refine ok_bind (q_add N B 30 n.1) (fun d hd => ?_)
    have jd := jB.add (c1 := c) hd (by omega) (by omega) (fun z => (JJ.ds (JK.j jB) z).2) (fun _ DT KT qX _ _ => IOK.jmp (by decide) et (List.mem_cons_of_mem _ (List.mem_cons_self ..)) qX)
    have do0 : d.2.o = B.o := hd.1.2.2.2.1
    have dr : d.2.r 51 m = some a := by rw [hd.1.2.2.2.2.2.2.1, Br]; exact nr'
    refine ok_chk (okr d.2 jd.1 dr) ?_
    have d10 : d.2.o a 10 = n'.o a 10 := by rw [do0]; exact Bj 10 (by omega)
    rw [d10]
    refine ok_bind (q_aim N d.2 (n'.o a 10)) (fun e he => ok_some ?_)
    have je : JK H (x - 200 + 1) (y - 3 + 1) c c c ((nx, c) :: (t, c) :: X) P (ccI σ :: T) e.2 := jd.aimX he (by omega) (by omega) (fun _ => ⟨nx, t10, List.mem_cons_self ..⟩) (fun _ k hk => by
      rcases List.mem_cons.mp hk with e | e
      · right; rw [e]; exact t10.symm
      · exact Or.inl e)
    have ir := (IRR.rf je.1).i 36 1 (by unfold IRJ; omega) (fun _ => Or.inr rfl)
    have jf := je.irr ir
    show TNQ H x y X P T σ (CS.setI e.2 36 1) ∧ ((CS.setI e.2 36 1).i 32 = 0 → cnI (CS.setI e.2 36 1) = (m : Int) ∨ (CS.setI e.2 36 1).o a 0 = 204)
    have fr : (CS.setI e.2 36 1).r 51 m = some a := by rw [cr_setI, he.1.2.2.2.2.2.2.1]; exact dr
    have fo : (CS.setI e.2 36 1).o a 0 = 204 := by rw [co_setI, he.1.2.2.2.1, do0]; exact B0
    generalize CS.setI e.2 36 1 = F at *
    refine ⟨⟨jf.1, fun z => ?_⟩, fun _ => Or.inr fo⟩
    have z1 := ir.f.1.symm.trans z
    have z2 := he.f.1.symm.trans z1
    have z3 := hd.f32.1.symm.trans z2
    have sF : SX 0 0 0 B F := (((hd.sx z3).tr (he.sx z2)).tr (ir.sx z1)).w (by omega) (by omega) (by omega)
    have mF : MDL 2 3 0 σ F := (mB.tr sF.mid).w (by omega) (by omega) (by omega)
    have ecc : ccI F = ccI σ := by
      have w1 : F.i 22 = B.i 22 := sF.2.2.2.1.2.2.2
      unfold ccI
      rw [w1, Bi, v1.2.1 22 (by decide), sxu.2.2.2.1.2.2.2]
    rw [ecc]
    refine ⟨⟨c, JK.j ((jf.sub (fun q hq => List.mem_cons_of_mem _ (List.mem_cons_of_mem _ hq))).w (by omega) (by omega))⟩, mF.trn (by omega) (by omega) hm ea fr nr ?_⟩
    unfold sgn
    rw [fo, hs]; rfl
end
section
/-! the class's reading: bodies end, whole -/
theorem ROW1.b9 {s : CS} {DT : Nat → List Nat} {KT : Nat → Prop} {a : Nat} {c0 c : List Nat} {lim lim' : List Int} (r : ROW1 s DT KT a c0 c lim lim') (hs : isB1 (s.o a 0)) (h3 : ¬ s.o a 0 = 203) : TTc (tcI s) DT KT (s.o a 9) c := by
  have pl := r.pl (Or.inl hs)
  obtain ⟨r1, r2, r3⟩ := r
  rw [pl.1] at r3
  unfold isB1 at hs
  have no : ∀ w : Int32, s.o a 0 = w → ¬ (w = 203 ∨ w = 204 ∨ w = 205 ∨ w = 206 ∨ w = 207 ∨ w = 303 ∨ w = 304) → TTc (tcI s) DT KT (s.o a 9) c := fun w e n => absurd (by rw [← e]; exact hs) n
  rcases r3 with ⟨z1, z2, e⟩ | ⟨z1, z2, z3, -⟩ | ⟨z1, z2, z3, e⟩ | ⟨z1, z2, z3, e⟩ | ⟨z1, z2, z3, z4, e⟩ | ⟨z1, z2, z3, z4, z5, e⟩ | ⟨z1, z2, z3, -⟩ | ⟨z1, z2, z3, e⟩ | ⟨z1, z2, z3, -⟩ | ⟨z1, z2, z3, -⟩ | ⟨z1, z2, z3, -⟩ | ⟨z1, z2, z3, e⟩
  · rcases z1 with z1 | z1
    · exact no _ z1 (by decide)
    · exact no _ z1 (by decide)
  · exact z3
  · exact absurd z1 h3
  · exact z3
  · exact z3
  · exact z3
  · exact z3
  · exact z3
  · exact no _ z1 (by decide)
  · exact no _ z1 (by decide)
  · exact no _ z1 (by decide)
  · exact z3
theorem ROW1.do11 {s : CS} {DT : Nat → List Nat} {KT : Nat → Prop} {a : Nat} {c0 c : List Nat} {lim lim' : List Int} (r : ROW1 s DT KT a c0 c lim lim') (hs : s.o a 0 = 206) : TTc (tcI s) DT KT (s.o a 11) c ∧ TTc (tcI s) DT KT (s.o a 10) c := by
  have pl := r.pl (Or.inl (Or.inr (Or.inr (Or.inr (Or.inl hs)))))
  have t10 := r.e10 (Or.inr (Or.inl hs))
  rw [pl.1] at t10
  obtain ⟨r1, r2, r3⟩ := r
  rw [pl.1] at r3
  refine ⟨?_, t10⟩
  have no : ∀ w : Int32, s.o a 0 = w → ¬ w = 206 → TTc (tcI s) DT KT (s.o a 11) c := fun w e n => absurd (e.symm.trans hs) n
  rcases r3 with ⟨z1, z2, e⟩ | ⟨z1, z2, z3, -⟩ | ⟨z1, z2, z3, e⟩ | ⟨z1, z2, z3, e⟩ | ⟨z1, z2, z3, z4, e⟩ | ⟨z1, z2, z3, z4, z5, e⟩ | ⟨z1, z2, z3, -⟩ | ⟨z1, z2, z3, e⟩ | ⟨z1, z2, z3, -⟩ | ⟨z1, z2, z3, -⟩ | ⟨z1, z2, z3, -⟩ | ⟨z1, z2, z3, e⟩
  · rcases z1 with z1 | z1
    · exact no _ z1 (by decide)
    · exact no _ z1 (by decide)
  · exact no _ z1 (by decide)
  · exact no _ z1 (by decide)
  · rcases z1 with z1 | z1
    · exact no _ z1 (by decide)
    · exact no _ z1 (by decide)
  · rcases z1 with z1 | z1 | z1
    · exact no _ z1 (by decide)
    · exact no _ z1 (by decide)
    · exact no _ z1 (by decide)
  · exact z5
  · exact no _ z1 (by decide)
  · exact no _ z1 (by decide)
  · exact no _ z1 (by decide)
  · exact no _ z1 (by decide)
  · exact no _ z1 (by decide)
  · exact no _ z1 (by decide)
/-- where a body's end stands: all that the row owns is aimed -/
def EBS (H : HB) (x y : Int) (c : List Nat) (X : List (Nat × List Nat)) (P : List Nat) (T : List Int) (σ : CS) (a m : Nat) (s : CS) : Prop := JJ H x y c X P (ccI σ :: T) s ∧ s.r 51 m = some a ∧ (s.i 32 = 0 → MDL 0 0 0 σ s ∧ s.i 22 = σ.i 22 ∧ s.o a 0 = σ.o a 0 ∧ ∀ k : Nat, (k : Int) < tcI s → (s.a 17 k).toInt = -1 → OWS s a k → k ∈ P)
theorem EBS.irr {H : HB} {x y : Int} {c : List Nat} {X : List (Nat × List Nat)} {P : List Nat} {T : List Int} {σ s R : CS} {a m : Nat} (h : EBS H x y c X P T σ a m s) (hi : IRR s R) : EBS H x y c X P T σ a m R := by
  obtain ⟨h1, h2, h3⟩ := h
  refine ⟨h1.irr hi, by rw [hi.1.2.2.2.2.2.2.1]; exact h2, fun z => ?_⟩
  have z1 := hi.f.1.symm.trans z
  obtain ⟨w1, w2, w3, w4⟩ := h3 z1
  have etc : tcI R = tcI s := by unfold tcI; rw [hi.2.1 21 (by unfold IRJ; omega)]
  refine ⟨(w1.tr (hi.sx z1).mid).w (by omega) (by omega) (by omega), (hi.2.1 22 (by unfold IRJ; omega)).trans w2, by rw [hi.1.2.2.2.1]; exact w3, fun k k1 k2 k3 => w4 k (by omega) (by rw [← hi.2.2.1 17 (by decide)]; exact k2) (by unfold OWS at *; rw [hi.1.2.2.2.1] at k3; exact k3)⟩
theorem EBS.end {N : Nat} {H : HB} {E1 : CS → Option (Unit × CS)} {E2 : CS → Option (Int32 × CS)} {x y : Int} {c : List Nat} {X : List (Nat × List Nat)} {P : List Nat} {T : List Int} {σ s : CS} {a m : Nat} (h : EBS H x y c X P T σ a m s) (ht : TUR σ a m) (hs : isB1 (σ.o a 0)) (v : Int32) (hv : bo v) : ok (f_X7_endBody_193 N E1 E2 (CS.setI s 36 v) a) (fun R => TNQ H (x - 50) y X P T σ R.2 ∧ (R.2.i 32 = 0 → cnI R.2 = (m : Int))) := by
  obtain ⟨h1, h2, h3⟩ := h.irr ((IRR.rf h.1.1).i 36 v (by unfold IRJ; omega) (fun _ => hv))
  exact q_eb193 (p := 0) (g := 0) h1 h2 ht.2.2.2.2 ⟨ht.2.1, ht.2.2.1, ht.2.2.2.1, hs⟩ (fun z => ⟨(h3 z).1, (h3 z).2.1, (h3 z).2.2.1⟩) (by omega) (by omega) (fun z => (h3 z).2.2.2)
/-- the row's exit is aimed -/
theorem EBS.aim9 {H : HB} {x y : Int} {c : List Nat} {X : List (Nat × List Nat)} {P : List Nat} {T : List Int} {σ s R : CS} {a m : Nat} (hx : x ≤ 5000) (hy : y ≤ 95) (h : JJ H x y c X P (ccI σ :: T) s) (ht : TUR σ a m) (hs : isB1 (σ.o a 0)) (h3 : ¬ σ.o a 0 = 203) (hr : s.r 51 m = some a) (hm : s.i 32 = 0 → MDL 0 0 0 σ s ∧ s.i 22 = σ.i 22 ∧ s.o a 0 = σ.o a 0) (h10 : s.i 32 = 0 → σ.o a 0 = 206 → ∀ k : Nat, (k : Int) = (s.o a 10).toInt → (k : Int) < tcI s → 0 ≤ (s.a 17 k).toInt) (ha : AIM s R (s.o a 9)) : EBS H x y c X P T σ a m R := by
  have sort : s.i 32 = 0 → isB1 (s.o a 0) ∧ ¬ s.o a 0 = 203 := fun z => by rw [(hm z).2.2]; exact ⟨hs, h3⟩
  have cn : s.i 32 = 0 → cnI s = (m : Int) + 1 := fun z => by rw [← ht.2.1]; unfold cnI; rw [(hm z).1.2.2.2.1.1]
  refine ⟨JK.j (h.k.aim ha (by omega) (by omega) (fun z DT KT _ qR => ?_) (fun _ k hk => Or.inl hk)), by rw [ha.1.2.2.2.2.2.2.1]; exact hr, fun z => ?_⟩
  · obtain ⟨c0, L0, r⟩ := (qR (m + 1) (by have := cn z; omega)).top hr
    have w := r.b9 (sort z).1 (sort z).2
    exact ⟨w.1, w.2.1, w.2.2.1⟩
  · have z1 := ha.f.1.symm.trans z
    obtain ⟨w1, w2, w3⟩ := hm z1
    have sz := (h.2 z1).2.sz h.1.2.2.1 h.1.2.2.2.2.2.2.1.1 (by omega) (by omega)
    have s0 := (h.2 z1).1.tc0.2
    have etc : tcI R = tcI s := by unfold tcI; rw [ha.2.1]
    refine ⟨(w1.tr (ha.sx z1).mid).w (by omega) (by omega) (by omega), by rw [ha.2.1]; exact w2, by rw [ha.1.2.2.2.1]; exact w3, fun k k1 k2 k3 => ?_⟩
    exfalso
    unfold OWS at k3
    rw [ha.1.2.2.2.1] at k3
    rcases k3 with k3 | k3
    · exact ha.at k3.2.2.2.2.symm (by omega) s0 k2
    · by_cases e9 : (k : Int) = (s.o a 9).toInt
      · exact ha.at e9 (by omega) s0 k2
      · have e17 : R.a 17 k = s.a 17 k := by rw [ha.2.2.2]; exact gPut_ne e9
        rw [e17] at k2
        have so := (sort z1)
        rcases k3.1 with e | e | e | e | e
        · exact so.2 e
        · have := h10 z1 (by rw [← w3]; exact e) k k3.2.symm (by omega)
          omega
        · have := so.1; rw [e] at this; exact absurd this (by unfold isB1; decide)
        · have := so.1; rw [e] at this; exact absurd this (by unfold isB1; decide)
        · have := so.1; rw [e] at this; exact absurd this (by unfold isB1; decide)
theorem q_do25 {N : Nat} {H : HB} (hN : 10000000000 ≤ N) {k : Int} {E1 : CS → Option (Unit × CS)} {E2 : CS → Option (Int32 × CS)} (hE2 : ∀ b, EC2 (H.1, b) k E2) {x y : Int} {c : List Nat} {X : List (Nat × List Nat)} {P : List Nat} {T : List Int} {σ : CS} {a m : Nat} (hx : x ≤ 4000) (hy : y + 3 * k ≤ 87 ∧ 0 ≤ k) (h : JJ H x y c X P (ccI σ :: T) σ) (ht : TUR σ a m) (hs : σ.o a 0 = 206) (hk : 24 - sgI σ ≤ k) (x2 : Int32) : ok (f_X7_endDo_25 N E1 E2 σ a x2) (fun R => EBS H (x - 300) y c X P T σ a m R.2) := by
  have hN1 : 1000 ≤ N := by omega
  obtain ⟨nf, hm, ea, nr, m4⟩ := (show TUR σ a m from ht)
  have b1 : isB1 (σ.o a 0) := Or.inr (Or.inr (Or.inr (Or.inl hs)))
  unfold f_X7_endDo_25
  refine ok_bind (q_expect hN1 h.1 205) (fun p hp => ?_)
  have hp' : JJ H (x - 100) y c X P (ccI σ :: T) p.2 ∧ (p.2.r = σ.r ∧ p.2.o = σ.o) ∧ (p.2.i 32 = 0 → SX 1 0 0 σ p.2) := by
    rcases hp with hf | ⟨q1, q2⟩
    · exact ⟨JJ.flt h.1 hf, ⟨hf.1.2.2.2.2.2.2.2.1, hf.1.2.2.2.1⟩, fun q => absurd q hf.2.2.2.1⟩
    · obtain ⟨j, e⟩ := h.tk q2 (fun _ => by rw [q1]; decide)
      exact ⟨j, ⟨q2.1.1.2.2.2.2.2.2.2.1, q2.1.1.2.2.2.1⟩, fun q => (e q).sx⟩
  obtain ⟨jp, ⟨pr, po⟩, xp⟩ := hp'
  generalize p.2 = u at *
  have ur : u.r 51 m = some a := by rw [pr]; exact ea
  refine ok_chk (jp.1.1.2.1 m a m4 ur) ?_
  have t206 : ∀ (s : CS), s.o = σ.o → s.r 51 m = some a → ∀ (DT : Nat → List Nat) (KT : Nat → Prop), cnI s = (m : Int) + 1 → (∀ n : Nat, (n : Int) = cnI s → RCH s DT KT n c (ccI σ :: T)) → TTc (tcI s) DT KT (s.o a 11) c ∧ TTc (tcI s) DT KT (s.o a 10) c := fun s e1 e2 DT KT e3 qR => by
    obtain ⟨c0, L0, r⟩ := (qR (m + 1) (by omega)).top e2
    exact r.do11 (by rw [e1]; exact hs)
  have ucn : u.i 32 = 0 → cnI u = (m : Int) + 1 := fun z => by rw [← hm]; unfold cnI; rw [(xp z).2.2.2.1.2.1]
  refine ok_bind (q_aim N u (u.o a 10)) (fun q hq => ?_)
  have jq : JJ H (x - 100) y c X P (ccI σ :: T) q.2 := JK.j (jp.k.aim hq (by omega) (by omega) (fun z DT KT _ qR => by
    have w := (t206 u po ur DT KT (ucn z) qR).2
    exact ⟨w.1, w.2.1, w.2.2.1⟩) (fun _ k hk => Or.inl hk))
  have qr : q.2.r 51 m = some a := by rw [hq.1.2.2.2.2.2.2.1]; exact ur
  have qo : q.2.o = σ.o := hq.1.2.2.2.1.trans po
  have xq : q.2.i 32 = 0 → SX 1 0 0 σ q.2 := fun z => ((xp (hq.f.1.symm.trans z)).tr (hq.sx (hq.f.1.symm.trans z))).w (by omega) (by omega) (by omega)
  have aq : q.2.i 32 = 0 → ∀ k : Nat, (k : Int) = (σ.o a 10).toInt → (k : Int) < tcI q.2 → 0 ≤ (q.2.a 17 k).toInt := fun z k k1 k2 => by
    have z1 := hq.f.1.symm.trans z
    have s0 : 0 ≤ (u.i 20).toInt := (jp.2 z1).1.tc0.2
    have sz := ((jp.2 z1).2.sz jp.1.2.2.1 jp.1.2.2.2.2.2.2.1.1 (by omega) (by omega)).2
    have etc : tcI q.2 = tcI u := by unfold tcI; rw [hq.2.1]
    rw [hq.2.2.2, gPut_at (by rw [po]; exact k1) (by omega)]
    exact s0
  refine ok_bind (q_cin (E1 := E1) hN1 (hE2 (rbB q.2)) (by omega) (by omega) jq.rb (fun z => by have := (xq z).2.2.1; omega)) (fun r hr => ?_)
  obtain ⟨⟨jr', er⟩, br⟩ := hr
  have st := jr'.1.st (s := q.2) m4 qr
  have jr := jr'.bk jq.1 (fun z => (er z).1)
  have xr : r.2.i 32 = 0 → SX 1 0 0 σ r.2 := fun z => ((xq (er z).1).tr (er z).sx).w (by omega) (by omega) (by omega)
  have ro : r.2.i 32 = 0 → r.2.o a = σ.o a := fun z => ((xr z).2.2.2.2.2.1 m (by omega)).2 a ea |>.1
  have ar : r.2.i 32 = 0 → ∀ k : Nat, (k : Int) = (σ.o a 10).toInt → 0 ≤ (k : Int) → (k : Int) < tcI q.2 → (k : Int) < tcI r.2 ∧ 0 ≤ (r.2.a 17 k).toInt := fun z k k1 _ k2 => jr'.1.2.1.2.2 z k ⟨(er z).1, k2, aq (er z).1 k k1 k2⟩
  have tq : q.2.i 32 = 0 → 0 ≤ (σ.o a 10).toInt ∧ (σ.o a 10).toInt < tcI q.2 := fun z => by
    obtain ⟨D, DT, KT, -, -, -, -, -, ⟨k, k1, k2, k3⟩, -⟩ := (jq.2 z).1
    have qcn : cnI q.2 = (m : Int) + 1 := by rw [← hm]; unfold cnI; rw [(xq z).2.2.2.1.2.1]
    have ek : k = m + 1 := by omega
    rw [ek] at k3
    obtain ⟨c0, L0, w⟩ := k3.top qr
    have w2 := (w.do11 (by rw [qo]; exact hs)).2
    rw [qo] at w2
    exact ⟨w2.1, w2.2.1⟩
  refine ok_bind (q_expect hN1 jr.1 59) (fun b hb => ?_)
  have hb' : JJ H (x - 100 - 250 - 100) y c X P (ccI σ :: T) b.2 ∧ (b.2.r = r.2.r ∧ b.2.o = r.2.o ∧ b.2.a = r.2.a ∧ b.2.i 21 = r.2.i 21) ∧ (b.2.i 32 = 0 → r.2.i 32 = 0 ∧ SX 1 0 0 σ b.2) := by
    rcases hb with hf | ⟨q1, q2⟩
    · exact ⟨JJ.flt jr.1 hf, ⟨hf.1.2.2.2.2.2.2.2.1, hf.1.2.2.2.1, hf.1.2.2.2.2.2.2.2.2.2.2.1, hf.2.1 21 (by decide) (by decide) (by decide) (by decide)⟩, fun q => absurd q hf.2.2.2.1⟩
    · obtain ⟨j, e⟩ := jr.tk q2 (fun _ => by rw [q1]; decide)
      exact ⟨j, ⟨q2.1.1.2.2.2.2.2.2.2.1, q2.1.1.2.2.2.1, q2.1.1.2.2.2.2.2.2.2.2.2.2, q2.1.2 21 (by decide) (by decide) (by decide) (by decide)⟩, fun q => ⟨(e q).1, ((xr (e q).1).tr (e q).sx).w (by omega) (by omega) (by omega)⟩⟩
  obtain ⟨jb, ⟨brr, bo', ba, b21⟩, xb⟩ := hb'
  generalize b.2 = B at *
  have Br : B.r 51 m = some a := by rw [brr]; exact st.1
  have Bo : B.i 32 = 0 → B.o a = σ.o a := fun z => by rw [bo']; exact ro (xb z).1
  have Bc : B.i 32 = 0 → cnI B = (m : Int) + 1 := fun z => by rw [← hm]; unfold cnI; rw [(xb z).2.2.2.2.1.2.1]
  have Ba : B.i 32 = 0 → ∀ k : Nat, (k : Int) = (σ.o a 10).toInt → 0 ≤ (B.a 17 k).toInt := fun z k k1 => by
    have z1 := (xb z).1
    have w := tq (er z1).1
    rw [ba]
    exact (ar z1 k k1 (by omega) (by omega)).2
  clear ar aq
  refine ok_chk (jb.1.1.2.1 m a m4 Br) ?_
  refine ok_bind (q_add N B 31 (B.o a 9)) (fun d hd => ?_)
  have jd := jb.add hd (by omega) (by omega) (fun z DT KT _ qR _ => by
    obtain ⟨c0, L0, w⟩ := (qR (m + 1) (by have := Bc z; omega)).top Br
    have e0 : B.o a 0 = 206 := by rw [Bo z]; exact hs
    have tt := w.b9 (by rw [e0]; unfold isB1; decide) (by rw [e0]; decide)
    exact ⟨fun q => absurd q (by decide), fun q => absurd q (by decide), fun _ _ => ⟨tt, rfl⟩, fun q => absurd q (by decide), fun q => absurd q (by decide), fun q => absurd q (by decide), fun q => absurd q (by decide), fun q => absurd q (by decide), fun q => absurd q (by decide), fun q => absurd q (by decide), fun q => absurd q (by decide), fun q => absurd q (by decide), by decide⟩)
  have dr : d.2.r 51 m = some a := by rw [hd.1.2.2.2.2.2.2.1]; exact Br
  have dO : d.2.o = B.o := hd.1.2.2.2.1
  have d32 := hd.f32.1
  have dc : d.2.i 32 = 0 → cnI d.2 = (m : Int) + 1 := fun z => by rw [← Bc (d32.symm.trans z)]; unfold cnI; rw [hd.2.1 53 (by decide)]
  refine ok_chk (jd.1.1.2.1 m a m4 dr) ?_
  refine ok_bind (q_add N d.2 30 (d.2.o a 11)) (fun f hf => ?_)
  have jf := jd.add hf (by omega) (by omega) (fun z DT KT _ qR _ => by
    obtain ⟨c0, L0, w⟩ := (qR (m + 1) (by have := dc z; omega)).top dr
    have e0 : d.2.o a 0 = 206 := by rw [dO, Bo (d32.symm.trans z)]; exact hs
    have tt := (w.do11 e0).1
    exact ⟨fun q => absurd q (by decide), fun _ => tt, fun q => absurd q (by decide), fun q => absurd q (by decide), fun q => absurd q (by decide), fun q => absurd q (by decide), fun q => absurd q (by decide), fun q => absurd q (by decide), fun q => absurd q (by decide), fun q => absurd q (by decide), fun q => absurd q (by decide), fun q => absurd q (by decide), by decide⟩)
  have fr : f.2.r 51 m = some a := by rw [hf.1.2.2.2.2.2.2.1]; exact dr
  have f32 := hf.f32.1
  have fO : f.2.o = B.o := hf.1.2.2.2.1.trans dO
  refine ok_chk (jf.1.1.2.1 m a m4 fr) ?_
  refine ok_bind (q_aim N f.2 (f.2.o a 9)) (fun e he => ?_)
  have eb : EBS H (x - 300) y c X P T σ a m e.2 := by
    refine EBS.aim9 (s := f.2) (by omega) (by omega) (jf.w (by omega) (Int.le_refl _)) ht b1 (by rw [hs]; decide) fr (fun z => ?_) (fun z _ k k1 k2 => ?_) he
    · have z1 := f32.symm.trans z
      have z2 := d32.symm.trans z1
      have sB := (xb z2).2
      have sf : SX 1 0 0 σ f.2 := ((sB.tr (hd.sx z2)).tr (hf.sx z1)).w (by omega) (by omega) (by omega)
      exact ⟨sf.mid.w (by omega) (by omega) (by omega), sf.2.2.2.1.2.2.2, by rw [fO, Bo z2]⟩
    · have z1 := f32.symm.trans z
      have z2 := d32.symm.trans z1
      rw [hf.2.2.2.1 17 (by decide) (by decide), hd.2.2.2.1 17 (by decide) (by decide)]
      exact Ba z2 k (by rw [k1, fO, Bo z2])
  have ok5 := eb.1.1.1.2.1 m a m4 eb.2.1
  have fin : ∀ (u : CS) (v : Int32), u = e.2 → bo v → ok (some ((), CS.setI u 36 v)) (fun R => EBS H (x - 300) y c X P T σ a m R.2) := fun u v eu hv => by
    rw [eu]
    exact ok_some (eb.irr ((IRR.rf eb.1.1).i 36 v (by unfold IRJ; omega) (fun _ => hv)))
  refine ok_ite (fun _ => ?_) (fun _ => ok_ite (fun _ => fin e.2 1 rfl (Or.inr rfl)) (fun _ => ?_))
  · exact ok_bind (q_gone hN ok5 0) (fun w hw => ok_ite (fun _ => fin w.2 0 hw (Or.inl rfl)) (fun _ => fin w.2 1 hw (Or.inr rfl)))
  · exact ok_bind (q_gone hN ok5 0) (fun w hw => ok_ite (fun _ => fin w.2 0 hw (Or.inl rfl)) (fun _ => fin w.2 1 hw (Or.inr rfl)))
theorem q_endDo {N : Nat} {H : HB} (hN : 10000000000 ≤ N) {k : Int} {E1 : CS → Option (Unit × CS)} {E2 : CS → Option (Int32 × CS)} (hE2 : ∀ b, EC2 (H.1, b) k E2) {x y : Int} {c : List Nat} {X : List (Nat × List Nat)} {P : List Nat} {T : List Int} {σ : CS} {a m : Nat} (hx : x ≤ 4000) (hy : y + 3 * k ≤ 87 ∧ 0 ≤ k) (h : JJ H x y c X P (ccI σ :: T) σ) (ht : TUR σ a m) (hs : σ.o a 0 = 206) (hk : 24 - sgI σ ≤ k) : ok (f_X7_endDo N E1 E2 σ a) (fun R => EBS H (x - 300) y c X P T σ a m R.2) := by
  unfold f_X7_endDo f_X7_endDo_19
  have ok5 := h.1.1.2.1 m a ht.2.2.2.2 ht.2.2.1
  refine ok_ite (fun _ => ?_) (fun _ => q_do25 hN hE2 hx (by omega) h ht hs hk 1)
  refine ok_bind (q_gone hN ok5 1) (fun w hw => ?_)
  rw [hw]
  exact ok_ite (fun _ => q_do25 hN hE2 hx (by omega) h ht hs hk 0) (fun _ => q_do25 hN hE2 hx (by omega) h ht hs hk 1)
theorem TNQ.w {H : HB} {x y x' y' : Int} {X : List (Nat × List Nat)} {P : List Nat} {T : List Int} {s R : CS} (h : TNQ H x y X P T s R) (hx : x ≤ x') (hy : y ≤ y') : TNQ H x' y' X P T s R := ⟨h.1, fun q => by
  obtain ⟨⟨c', w⟩, w2⟩ := h.2 q
  exact ⟨⟨c', w.w hx hy⟩, w2⟩⟩
theorem q_endBody {N : Nat} {H : HB} (hN : 10000000000 ≤ N) {k : Int} {E1 : CS → Option (Unit × CS)} {E2 : CS → Option (Int32 × CS)} (hE2 : ∀ b, EC2 (H.1, b) k E2) {x y : Int} {c : List Nat} {X : List (Nat × List Nat)} {P : List Nat} {T : List Int} {σ : CS} {a m : Nat} (hx : x ≤ 4000) (hy : y + 3 * k ≤ 87 ∧ 0 ≤ k) (h : JJ H x y c X P (ccI σ :: T) σ) (ht : TUR σ a m) (hb : isB1 (σ.o a 0)) (hk : 24 - sgI σ ≤ k) : ok (f_X7_endBody N E1 E2 σ a) (fun R => TNQ H x y X P T σ R.2 ∧ (R.2.i 32 = 0 → cnI R.2 = (m : Int) ∨ R.2.o a 0 = 204)) := by
  obtain ⟨nf, hm, ea, nr, m4⟩ := (show TUR σ a m from ht)
  have hN1 : 1000 ≤ N := by omega
  have ok5 := h.1.1.2.1 m a m4 ea
  unfold f_X7_endBody f_X7_endBody_88 f_X7_endBody_130
  have self : MDL 0 0 0 σ σ := (SX.rf nf).mid
  have aim0 : ¬ σ.o a 0 = 203 → ¬ σ.o a 0 = 206 → ∀ R : CS, AIM σ R (σ.o a 9) → EBS H x y c X P T σ a m R := fun n3 n6 R hR => EBS.aim9 (by omega) (by omega) h ht hb n3 ea (fun _ => ⟨self, rfl, rfl⟩) (fun _ e => absurd e n6) hR
  have fin : ∀ (s : CS) (v : Int32), EBS H (x + 1) y c X P T σ a m s → bo v → ok (f_X7_endBody_193 N E1 E2 (CS.setI s 36 v) a) (fun R => TNQ H x y X P T σ R.2 ∧ (R.2.i 32 = 0 → cnI R.2 = (m : Int) ∨ R.2.o a 0 = 204)) := fun s v hs hv => ok_imp (hs.end ht hb v hv) (fun R hR => ⟨hR.1.w (by omega) (Int.le_refl _), fun z => Or.inl (hR.2 z)⟩)
  refine ok_chk ok5 (ok_ite (fun e => ok_bind (q_endIf hN1 hx (by omega) h ht e) (fun p hp => ok_some hp)) (fun e3 => ok_ite (fun e => ?_) (fun e4 => ok_ite (fun e => ?_) (fun e6 => ok_ite (fun e => ?_) (fun e303 => ?_)))))
  · refine ok_bind (q_aim N σ _) (fun p hp => ?_)
    have eb := aim0 e3 (by rw [e]; decide) p.2 hp
    have eb1 : EBS H (x + 1) y c X P T σ a m p.2 := ⟨eb.1.w (by omega) (Int.le_refl _), eb.2⟩
    refine ok_ite (fun _ => ok_chk (eb.1.1.1.2.1 m a m4 eb.2.1) (ok_ite (fun _ => fin p.2 0 eb1 (Or.inl rfl)) (fun _ => fin p.2 1 eb1 (Or.inr rfl)))) (fun _ => fin p.2 1 eb1 (Or.inr rfl))
  · refine ok_bind (q_endDo hN hE2 hx (by omega) h ht e hk) (fun p hp => ?_)
    obtain ⟨h1, h2, h3⟩ := hp
    exact ok_imp (q_eb193 (p := 0) (g := 0) h1 h2 m4 ⟨hm, ea, nr, hb⟩ (fun z => ⟨(h3 z).1, (h3 z).2.1, (h3 z).2.2.1⟩) (by omega) (by omega) (fun z => (h3 z).2.2.2)) (fun R hR => ⟨hR.1.w (by omega) (Int.le_refl _), fun z => Or.inl (hR.2 z)⟩)
  · refine ok_bind (q_aim N σ _) (fun p hp => ?_)
    have eb := aim0 e3 e6 p.2 hp
    have eb1 : EBS H (x + 1) y c X P T σ a m p.2 := ⟨eb.1.w (by omega) (Int.le_refl _), eb.2⟩
    refine ok_ite (fun _ => ok_bind (q_gone hN (eb.1.1.1.2.1 m a m4 eb.2.1) 0) (fun w hw => ?_)) (fun _ => fin p.2 1 eb1 (Or.inr rfl))
    rw [hw]
    exact ok_ite (fun _ => fin p.2 0 eb1 (Or.inl rfl)) (fun _ => fin p.2 1 eb1 (Or.inr rfl))
  · have lp : isLp (σ.o a 0) := by
      unfold isB1 at hb
      rcases hb with w | w | w | w | w | w | w
      · exact absurd w e3
      · exact absurd w e4
      · exact Or.inl w
      · exact absurd w e6
      · exact Or.inr (Or.inr (Or.inl w))
      · exact absurd w e303
      · exact Or.inr (Or.inr (Or.inr w))
    refine ok_bind (q_add N σ 30 (σ.o a 10)) (fun d hd => ?_)
    have jd := h.add hd (by omega) (by omega) (fun z DT KT _ qR _ => by
      obtain ⟨c0, L0, w⟩ := (qR (m + 1) (by omega)).top ea
      have tt := w.e10 lp
      rw [(w.pl (Or.inl hb)).1] at tt
      exact ⟨fun q => absurd q (by decide), fun _ => tt, fun q => absurd q (by decide), fun q => absurd q (by decide), fun q => absurd q (by decide), fun q => absurd q (by decide), fun q => absurd q (by decide), fun q => absurd q (by decide), fun q => absurd q (by decide), fun q => absurd q (by decide), fun q => absurd q (by decide), fun q => absurd q (by decide), by decide⟩)
    have dr : d.2.r 51 m = some a := by rw [hd.1.2.2.2.2.2.2.1]; exact ea
    have dO : d.2.o = σ.o := hd.1.2.2.2.1
    refine ok_chk (jd.1.1.2.1 m a m4 dr) ?_
    refine ok_bind (q_aim N d.2 _) (fun f hf => ?_)
    have eb : EBS H (x + 1) y c X P T σ a m f.2 := EBS.aim9 (by omega) (by omega) jd ht hb e3 dr (fun z => ⟨(hd.sx nf).mid, (hd.sx nf).2.2.2.1.2.2.2, by rw [dO]⟩) (fun _ e => absurd e e6) hf
    refine ok_chk (eb.1.1.1.2.1 m a m4 eb.2.1) (ok_ite (fun _ => fin f.2 1 eb (Or.inr rfl)) (fun _ => ok_bind (q_gone hN (eb.1.1.1.2.1 m a m4 eb.2.1) 0) (fun w hw => ?_)))
    rw [hw]
    exact ok_ite (fun _ => fin f.2 0 eb (Or.inl rfl)) (fun _ => fin f.2 1 eb (Or.inr rfl))
end
section
/-! the class's reading: ends of rows in braces -/
/-- with all signs begun -/
noncomputable def shs (s : CS) : CS := CS.setI s 34 20
theorem shs.i (s : CS) (j : Nat) (hj : j ≠ 34) : (shs s).i j = s.i j := ci_ne _ _ _ hj
theorem shs.sg (s : CS) : sgI (shs s) = 20 := by
  unfold sgI shs
  rw [ci_at]
  decide
def JSH (H : HB) (x y : Int) (cD c d : List Nat) (X : List (Nat × List Nat)) (P : List Nat) (lim : List Int) (s : CS) : Prop := CBS H s ∧ JK H x y cD c d X P lim (shs s)
theorem CBS.s34 {H : HB} {s : CS} (h : CBS H s) (v : Int32) : CBS H (CS.setI s 34 v) := ((TS9.rf s).i34 v).cb h h.2.2.1 (by rw [ci_ne _ _ _ (by decide), ci_ne _ _ _ (by decide)]; exact h.2.2.2.2.1) (fun q => (ci_ne _ _ _ (by decide)).symm.trans q)
theorem JSH.flt {H : HB} {x y : Int} {cD c d : List Nat} {X : List (Nat × List Nat)} {P : List Nat} {lim : List Int} {s : CS} (h : CBS H s) (nf : ¬ s.i 32 = 0) : JSH H x y cD c d X P lim s := ⟨h, h.s34 20, fun q => absurd ((shs.i s 32 (by decide)).symm.trans q) nf⟩
theorem JSH.w {H : HB} {x y x' y' : Int} {cD c d : List Nat} {X : List (Nat × List Nat)} {P : List Nat} {lim : List Int} {s : CS} (h : JSH H x y cD c d X P lim s) (hx : x ≤ x') (hy : y ≤ y') : JSH H x' y' cD c d X P lim s := ⟨h.1, h.2.w hx hy⟩
theorem ADD.e {s R : CS} {o x : Int32} (h : ADD s R o x) : ADD (shs s) (shs R) o x := by
  obtain ⟨b, b11, b12, b13, b14, b15⟩ := h
  unfold shs
  refine ⟨b, fun j hj => ?_, ?_, b13, ?_, ?_⟩
  · by_cases q : j = 34
    · rw [q, ci_at, ci_at]
    · rw [ci_ne _ _ _ q, ci_ne _ _ _ q]; exact b11 j hj
  · rw [ci_ne _ _ _ (by decide), ci_ne _ _ _ (by decide)]; exact b12
  · rw [ca_setI, ca_setI, ci_ne _ _ _ (by decide)]; exact b14
  · rw [ca_setI, ca_setI, ci_ne _ _ _ (by decide)]; exact b15
theorem AIM.e {s R : CS} {t : Int32} (h : AIM s R t) : AIM (shs s) (shs R) t := by
  obtain ⟨b, b11, b13, b14⟩ := h
  unfold shs
  refine ⟨b, ?_, b13, ?_⟩
  · show va_up R.i 34 20 = va_up s.i 34 20
    rw [b11]
  · rw [ca_setI, ca_setI, ci_ne _ _ _ (by decide)]; exact b14
theorem IRR.e {s R : CS} (h : IRR s R) : IRR (shs s) (shs R) := by
  obtain ⟨a, b, c, d, e⟩ := h
  unfold shs
  refine ⟨a, fun j hj => ?_, c, ?_, ?_⟩
  · by_cases q : j = 34
    · rw [q, ci_at, ci_at]
    · rw [ci_ne _ _ _ q, ci_ne _ _ _ q]; exact b j hj
  · rw [ci_ne _ _ _ (by decide)]; exact d
  · rw [ci_ne _ _ _ (by decide)]; exact e
theorem JSH.add {H : HB} {x y : Int} {cD c d c1 : List Nat} {X : List (Nat × List Nat)} {P : List Nat} {lim : List Int} {s R : CS} {o v : Int32} (h : JSH H x y cD c d X P lim s) (ha : ADD s R o v) (hx : x ≤ 10000) (hy : y ≤ 100) (hl : s.i 32 = 0 → cD.length ≤ 21) (hI : s.i 32 = 0 → ∀ (DT : Nat → List Nat) (KT : Nat → Prop), (∀ q ∈ X, (q.1 : Int) < tcI s ∧ DT q.1 = q.2 ∧ ¬ KT q.1) → (∀ n : Nat, (n : Int) = cnI s → RCH (shs s) DT KT n c lim) → IOK (tcI s) DT KT o v cD c1) : JSH H (x + 1) y c1 c d X P lim R := ⟨ha.cb h.1, h.2.add ha.e hx hy (fun q => hl ((shs.i s 32 (by decide)).symm.trans q)) (fun q DT KT z1 z2 _ => hI ((shs.i s 32 (by decide)).symm.trans q) DT KT z1 z2)⟩
theorem JSH.aim {H : HB} {x y : Int} {cD c d : List Nat} {X : List (Nat × List Nat)} {P P' : List Nat} {lim : List Int} {s R : CS} {t : Int32} (h : JSH H x y cD c d X P lim s) (ha : AIM s R t) (hx : x ≤ 10000) (hy : y ≤ 100) (hT : s.i 32 = 0 → ∀ (DT : Nat → List Nat) (KT : Nat → Prop), (∀ q ∈ X, (q.1 : Int) < tcI s ∧ DT q.1 = q.2 ∧ ¬ KT q.1) → (∀ n : Nat, (n : Int) = cnI s → RCH (shs s) DT KT n c lim) → 0 ≤ t.toInt ∧ t.toInt < tcI s ∧ DT t.toInt.toNat = cD) (hP : s.i 32 = 0 → ∀ k ∈ P, k ∈ P' ∨ (k : Int) = t.toInt) : JSH H x y cD c d X P' lim R := ⟨ha.cb h.1 (fun q => by
  have w := (h.2.2 ((shs.i s 32 (by decide)).trans q)).1.tc0.2
  exact w), h.2.aim ha.e hx hy (fun q => hT ((shs.i s 32 (by decide)).symm.trans q)) (fun q => hP ((shs.i s 32 (by decide)).symm.trans q))⟩
theorem JSH.irr {H : HB} {x y : Int} {cD c d : List Nat} {X : List (Nat × List Nat)} {P : List Nat} {lim : List Int} {s R : CS} (h : JSH H x y cD c d X P lim s) (hi : IRR s R) : JSH H x y cD c d X P lim R := ⟨hi.cb h.1, h.2.irr hi.e⟩
theorem JSH.nmr {H : HB} {x y : Int} {cD c d : List Nat} {X : List (Nat × List Nat)} {P : List Nat} {lim : List Int} {s : CS} {a m : Nat} (h : JSH H x y cD c d X P lim s) (ea : s.r 51 m = some a) (m4 : m < 400) (hm : s.i 32 = 0 → cnI s = (m : Int) + 1) : JSH H x y cD c d X P lim (CS.setI s 50 (s.o a 3)) := by
  have w := h.2.nmr (a := a) (m := m) ea m4 (fun q => by
    have := hm ((shs.i s 32 (by decide)).symm.trans q)
    rw [← this]; unfold cnI; rw [shs.i s 53 (by decide)])
  have e : shs (CS.setI s 50 (s.o a 3)) = CS.setI (shs s) 50 ((shs s).o a 3) := by
    show some (_, va_up (va_up s.i 50 (s.o a 3)) 34 20, _) = some (_, va_up (va_up s.i 34 20) 50 (s.o a 3), _)
    have : va_up (va_up s.i 50 (s.o a 3)) 34 20 = va_up (va_up s.i 34 20) 50 (s.o a 3) := by
      funext j
      show (if j = 34 then (20 : Int32) else if j = 50 then s.o a 3 else s.i j) = (if j = 50 then s.o a 3 else if j = 34 then 20 else s.i j)
      by_cases q : j = 34
      · rw [if_pos q, if_neg (by omega), if_pos q]
      · rw [if_neg q]
        by_cases q2 : j = 50
        · rw [if_pos q2, if_pos q2]
        · rw [if_neg q2, if_neg q2, if_neg q]
    rw [this]
    rfl
  refine ⟨?_, by rw [e]; exact w⟩
  have o3 := (h.1.2.2.2.2.2.2.2.1 m a m4 ea).2
  have yi : ∀ j : Nat, j ≠ 50 → (CS.setI s 50 (s.o a 3)).i j = s.i j := fun j q => ci_ne _ _ _ q
  have y50 : nmI (CS.setI s 50 (s.o a 3)) = (s.o a 3).toInt := by unfold nmI; rw [ci_at]
  obtain ⟨c1, c2, c3, c4, c5, c6, c7, c8, c9⟩ := h.1
  refine ⟨c1, c2, c3, c4, ?_, by rw [y50]; exact o3, c7, c8, ?_⟩
  · rw [yi 32 (by decide), yi 43 (by decide)]; exact c5
  · rw [yi 36 (by decide), yi 14 (by decide), yi 13 (by decide), yi 27 (by decide)]; exact c9
/-- back from all signs begun -/
theorem JSH.un {H : HB} {x y : Int} {cD c d : List Nat} {X : List (Nat × List Nat)} {P : List Nat} {lim : List Int} {s : CS} (h : JSH H x y cD c d X P lim s) (hs : s.i 32 = 0 → SGS s (cnI s).toNat ≤ sgI s ∧ 0 ≤ sgI s ∧ sgI s ≤ 20) : JK H x y cD c d X P lim s := by
  refine ⟨h.1, fun q => ?_⟩
  obtain ⟨g, n⟩ := h.2.2 ((shs.i s 32 (by decide)).trans q)
  have s3 := hs q
  have t9 : TS9 (shs s) s := ⟨⟨rfl, rfl, rfl, rfl, rfl, rfl, rfl, rfl, rfl, rfl⟩, fun j q1 q2 => (shs.i s j (by omega)).symm⟩
  have pl : plI (shs s) = plI s := by unfold plI; rw [shs.i s 44 (by decide)]
  have ee : eI (shs s) = eI s := by unfold eI; rw [pl, shs.i s 43 (by decide)]
  have cn : cnI (shs s) = cnI s := by unfold cnI; rw [shs.i s 53 (by decide)]
  have sg : SGS (shs s) (cnI (shs s)).toNat = SGS s (cnI s).toNat := by
    rw [cn]
    have rq : RSQ s (shs s) (cnI s).toNat := fun i _ => ⟨rfl, fun _ _ => ⟨rfl, rfl⟩⟩
    exact (rq.sums h.1.2.2.2.2.2.2.1.2.2).2.1
  refine ⟨g.ck h.2.1.1 t9.ck, t9.nb n h.2.1.1 ⟨h.2.1.2.2.2.2.2.2.1.1, h.2.1.2.2.2.2.2.2.1.2.1⟩ h.2.1.2.2.2.2.2.2.1.2.2 (by omega) (by omega) (by omega) (by omega) ⟨by rw [sg]; exact s3.1, s3.2⟩⟩
/-- a brace is closed, its row still stands -/
theorem q_closE {N : Nat} {H : HB} (hN : 1000 ≤ N) {x y : Int} {c : List Nat} {X : List (Nat × List Nat)} {P : List Nat} {lim : List Int} {σ : CS} (h : JJ H x y c X P lim σ) (nf : σ.i 32 = 0) (h1 : 1 ≤ sgI σ) : ok (f_X1_close N σ 125) (fun R => JSH H (x - 100) y c c c X P lim R.2 ∧ (R.2.r = σ.r ∧ R.2.o = σ.o ∧ R.2.ol = σ.ol) ∧ (R.2.i 32 = 0 → MDL 1 0 (-1) σ R.2 ∧ R.2.i 22 = σ.i 22 ∧ R.2.i 38 = σ.i 38 ∧ R.2.i 50 = σ.i 50)) := by
  unfold f_X1_close f_X1_close_22
  obtain ⟨g0, n0⟩ := h.2 nf
  refine ok_bind (q_found σ 125) (fun p hp => ?_)
  obtain ⟨p1, p2⟩ := hp
  rw [p1]
  rcases p2 with ⟨q1, q2⟩ | ⟨q1, q2⟩
  · rw [if_pos q1]
    refine ok_bind (q_misp h.1) (fun q hq => ok_some ?_)
    have cf : CBS H q.2 := (JJ.flt (x := x) (y := y) (c := c) (X := X) (P := P) (lim := lim) h.1 hq).1
    have nq : ¬ (CS.setI q.2 34 (q.2.i 34 - 1)).i 32 = 0 := by rw [ci_ne _ _ _ (by decide)]; exact hq.2.2.2.1
    exact ⟨JSH.flt (cf.s34 _) nq, ⟨by rw [cr_setI]; exact hq.1.2.2.2.2.2.2.2.1, by rw [co_setI]; exact hq.1.2.2.2.1, by rw [col_setI]; exact hq.1.2.2.2.2.1⟩, fun z => absurd z nq⟩
  · rw [q1, if_neg (by decide)]
    refine ok_bind (q_advC hN h.1) (fun q hq => ok_some ?_)
    obtain ⟨j, e⟩ := h.tk hq (fun _ => by rw [q2]; decide)
    have nfq := hq.f32.trans nf
    have ex := e nfq
    show JSH H (x - 100) y c c c X P lim (CS.setI q.2 34 (q.2.i 34 - 1)) ∧ _
    have Ri : ∀ j : Nat, j ≠ 34 → (CS.setI q.2 34 (q.2.i 34 - 1)).i j = q.2.i j := fun j hj => ci_ne _ _ _ hj
    have R34 : (CS.setI q.2 34 (q.2.i 34 - 1)).i 34 = q.2.i 34 - 1 := ci_at _ _ _
    have Rt : TS9 q.2 (CS.setI q.2 34 (q.2.i 34 - 1)) := (TS9.rf q.2).i34 _
    have Rs : TS9 q.2 (shs (CS.setI q.2 34 (q.2.i 34 - 1))) := Rt.i34 20
    have cR : CBS H (CS.setI q.2 34 (q.2.i 34 - 1)) := j.1.s34 _
    have ra : (CS.setI q.2 34 (q.2.i 34 - 1)).r = q.2.r := rfl
    have oa : (CS.setI q.2 34 (q.2.i 34 - 1)).o = q.2.o := rfl
    have la : (CS.setI q.2 34 (q.2.i 34 - 1)).ol = q.2.ol := rfl
    have aa : (CS.setI q.2 34 (q.2.i 34 - 1)).a = q.2.a := rfl
    generalize CS.setI q.2 34 (q.2.i 34 - 1) = R at *
    obtain ⟨gq, nq⟩ := j.2 nfq
    have plR : plI (shs R) = plI q.2 := by unfold plI; rw [shs.i R 44 (by decide), Ri 44 (by decide)]
    have eR : eI (shs R) = eI q.2 := by unfold eI; rw [plR, shs.i R 43 (by decide), Ri 43 (by decide)]
    have plR' : plI R = plI q.2 := by unfold plI; rw [Ri 44 (by decide)]
    have eR' : eI R = eI q.2 := by unfold eI; rw [plR', Ri 43 (by decide)]
    have s20 := shs.sg R
    have e1 : (1 : Int32).toInt = 1 := by decide
    have sgR : sgI R = sgI σ + -1 := by
      have w1 : (q.2.i 34).toInt = sgI σ := ex.sg
      have w2 := n0.2.2.2.1
      show (R.i 34).toInt = _
      rw [R34, toInt_sub] <;> rw [e1] <;> omega
    refine ⟨⟨cR, cR.s34 20, fun _ => ⟨gq.ck j.1.1 Rs.ck, Rs.nb nq j.1.1 ⟨j.1.2.2.2.2.2.2.1.1, j.1.2.2.2.2.2.2.1.2.1⟩ j.1.2.2.2.2.2.2.1.2.2 (by omega) (by omega) (by omega) (by omega) ⟨?_, by omega, by omega⟩⟩⟩, ⟨by rw [ra]; exact hq.1.1.2.2.2.2.2.2.2.1, by rw [oa]; exact hq.1.1.2.2.2.1, by rw [la]; exact hq.1.1.2.2.2.2.1⟩, fun _ => ⟨?_, ?_, ?_, ?_⟩⟩
    · have := nq.2.2.2.2.2.2.1
      have := nq.2.2.2.1.2
      omega
    · have m1 := ex.sx.mid
      obtain ⟨a0, ⟨a1, a2⟩, a3, ⟨a5, a6⟩, a9, a10, a11, a12, a13⟩ := m1
      refine ⟨a0, ⟨by show plI σ + 1 ≤ plI R; omega, by show eI σ + 0 ≤ eI R; omega⟩, sgR, ⟨(Ri 53 (by decide)).trans a5, (Ri 56 (by decide)).trans a6⟩, a9.tr (fun i _ => ⟨by rw [ra], fun b _ => ⟨by rw [oa], by rw [la]⟩⟩), by rw [aa]; exact a10, by rw [aa]; exact a11, by unfold ccI at *; rw [Ri 22 (by decide)]; exact a12, by unfold nmI at *; rw [Ri 50 (by decide)]; exact a13⟩
    · rw [Ri 22 (by decide)]; exact ex.2.2.1.2.2.2.2.2.1
    · rw [Ri 38 (by decide)]; exact ex.2.2.1.2.1
    · rw [Ri 50 (by decide)]; exact ex.2.2.1.2.2.1
end
section
/-! the class's reading: blocks, locks, finallys end -/
/-- what the tail of an end leaves as it was -/
def TLE (s R : CS) : Prop := (R.r = s.r ∧ R.o = s.o ∧ R.ol = s.ol) ∧ (R.a 18 = s.a 18 ∧ R.a 19 = s.a 19 ∧ R.a 49 = s.a 49) ∧ (R.i 32 = s.i 32 ∧ R.i 34 = s.i 34 ∧ R.i 43 = s.i 43 ∧ R.i 44 = s.i 44 ∧ R.i 53 = s.i 53 ∧ R.i 56 = s.i 56)
theorem TLE.rf (s : CS) : TLE s s := ⟨⟨rfl, rfl, rfl⟩, ⟨rfl, rfl, rfl⟩, rfl, rfl, rfl, rfl, rfl, rfl⟩
theorem TLE.tr {s R T : CS} (h : TLE s R) (k : TLE R T) : TLE s T := by
  obtain ⟨⟨a1, a2, a3⟩, ⟨a4, a5, a6⟩, a7, a8, a9, a10, a11, a12⟩ := h
  obtain ⟨⟨b1, b2, b3⟩, ⟨b4, b5, b6⟩, b7, b8, b9, b10, b11, b12⟩ := k
  exact ⟨⟨b1.trans a1, b2.trans a2, b3.trans a3⟩, ⟨b4.trans a4, b5.trans a5, b6.trans a6⟩, b7.trans a7, b8.trans a8, b9.trans a9, b10.trans a10, b11.trans a11, b12.trans a12⟩
theorem ADD.tle {s R : CS} {o x : Int32} (h : ADD s R o x) : TLE s R := ⟨⟨h.1.2.2.2.2.2.2.1, h.1.2.2.2.1, h.1.2.2.2.2.1⟩, ⟨h.2.2.2.1 18 (by decide) (by decide), h.2.2.2.1 19 (by decide) (by decide), h.2.2.2.1 49 (by decide) (by decide)⟩, h.2.1 32 (by decide), h.2.1 34 (by decide), h.2.1 43 (by decide), h.2.1 44 (by decide), h.2.1 53 (by decide), h.2.1 56 (by decide)⟩
theorem AIM.tle {s R : CS} {t : Int32} (h : AIM s R t) : TLE s R := ⟨⟨h.1.2.2.2.2.2.2.1, h.1.2.2.2.1, h.1.2.2.2.2.1⟩, ⟨h.2.2.1 18 (by decide), h.2.2.1 19 (by decide), h.2.2.1 49 (by decide)⟩, by rw [h.2.1], by rw [h.2.1], by rw [h.2.1], by rw [h.2.1], by rw [h.2.1], by rw [h.2.1]⟩
theorem IRR.tle {s R : CS} (h : IRR s R) : TLE s R := ⟨⟨h.1.2.2.2.2.2.2.1, h.1.2.2.2.1, h.1.2.2.2.2.1⟩, ⟨h.2.2.1 18 (by decide), h.2.2.1 19 (by decide), h.2.2.1 49 (by decide)⟩, h.2.1 32 (by unfold IRJ; omega), h.2.1 34 (by unfold IRJ; omega), h.2.1 43 (by unfold IRJ; omega), h.2.1 44 (by unfold IRJ; omega), h.2.1 53 (by unfold IRJ; omega), h.2.1 56 (by unfold IRJ; omega)⟩
theorem TLE.i38 {s R : CS} (h : TLE s R) (v : Int32) : TLE s (CS.setI R 38 v) := by
  obtain ⟨⟨a1, a2, a3⟩, ⟨a4, a5, a6⟩, a7, a8, a9, a10, a11, a12⟩ := h
  exact ⟨⟨a1, a2, a3⟩, ⟨a4, a5, a6⟩, (ci_ne _ _ _ (by decide)).trans a7, (ci_ne _ _ _ (by decide)).trans a8, (ci_ne _ _ _ (by decide)).trans a9, (ci_ne _ _ _ (by decide)).trans a10, (ci_ne _ _ _ (by decide)).trans a11, (ci_ne _ _ _ (by decide)).trans a12⟩
theorem TLE.i50 {s R : CS} (h : TLE s R) (v : Int32) : TLE s (CS.setI R 50 v) := by
  obtain ⟨⟨a1, a2, a3⟩, ⟨a4, a5, a6⟩, a7, a8, a9, a10, a11, a12⟩ := h
  exact ⟨⟨a1, a2, a3⟩, ⟨a4, a5, a6⟩, (ci_ne _ _ _ (by decide)).trans a7, (ci_ne _ _ _ (by decide)).trans a8, (ci_ne _ _ _ (by decide)).trans a9, (ci_ne _ _ _ (by decide)).trans a10, (ci_ne _ _ _ (by decide)).trans a11, (ci_ne _ _ _ (by decide)).trans a12⟩
/-- the same, but for the row at m -/
def TL2 (m : Nat) (s R : CS) : Prop := (R.r = s.r ∧ RSQ s R m) ∧ (R.a 18 = s.a 18 ∧ R.a 19 = s.a 19 ∧ R.a 49 = s.a 49) ∧ (R.i 32 = s.i 32 ∧ R.i 34 = s.i 34 ∧ R.i 43 = s.i 43 ∧ R.i 44 = s.i 44 ∧ R.i 53 = s.i 53 ∧ R.i 56 = s.i 56)
theorem TLE.t2 {s R : CS} (h : TLE s R) (m : Nat) : TL2 m s R := ⟨⟨h.1.1, fun i _ => ⟨by rw [h.1.1], fun b _ => ⟨by rw [h.1.2.1], by rw [h.1.2.2]⟩⟩⟩, h.2⟩
theorem TL2.tr {m : Nat} {s R T : CS} (h : TL2 m s R) (k : TL2 m R T) : TL2 m s T := by
  obtain ⟨⟨a1, a2⟩, ⟨a4, a5, a6⟩, a7, a8, a9, a10, a11, a12⟩ := h
  obtain ⟨⟨b1, b2⟩, ⟨b4, b5, b6⟩, b7, b8, b9, b10, b11, b12⟩ := k
  exact ⟨⟨b1.trans a1, a2.tr b2⟩, ⟨b4.trans a4, b5.trans a5, b6.trans a6⟩, b7.trans a7, b8.trans a8, b9.trans a9, b10.trans a10, b11.trans a11, b12.trans a12⟩
theorem OUV.t2 {s R : CS} {a m : Nat} {f : Nat → Int32} {l : Int64} (h : OUV s R a f l) (hr : REFS s) (m4 : m < 400) (ea : s.r 51 m = some a) : TL2 m s R := by
  obtain ⟨⟨a1, a2, a3, a4, a5, a6, a7, a8, a9, a10⟩, a11, a12, a13⟩ := h
  exact ⟨⟨a5, fun i hi => ⟨by rw [a5], fun b eb => a11 b (fun z => by
    rw [z] at eb
    have := hr.2.2.1 i m a (by omega) m4 eb ea
    omega)⟩⟩, ⟨by rw [a9], by rw [a9], by rw [a9]⟩, by rw [a10], by rw [a10], by rw [a10], by rw [a10], by rw [a10], by rw [a10]⟩
theorem setI.cm (s : CS) (j k : Nat) (v w : Int32) (h : j ≠ k) : CS.setI (CS.setI s j v) k w = CS.setI (CS.setI s k w) j v := by
  show some (_, va_up (va_up s.i j v) k w, _) = some (_, va_up (va_up s.i k w) j v, _)
  have : va_up (va_up s.i j v) k w = va_up (va_up s.i k w) j v := by
    funext n
    show (if n = k then w else if n = j then v else s.i n) = (if n = j then v else if n = k then w else s.i n)
    by_cases q : n = k
    · rw [if_pos q, if_neg (by omega), if_pos q]
    · rw [if_neg q]
      by_cases q2 : n = j
      · rw [if_pos q2, if_pos q2]
      · rw [if_neg q2, if_neg q2, if_neg q]
  rw [this]
  rfl
/-- the depth changes -/
theorem JSH.d38 {H : HB} {x y : Int} {cD c d d' : List Nat} {X : List (Nat × List Nat)} {P : List Nat} {lim : List Int} {s : CS} (h : JSH H x y cD c d X P lim s) (v : Int32) (hd : s.i 32 = 0 → (d'.length : Int) = v.toInt ∧ d'.length ≤ 21) : JSH H x y cD c d' X P lim (CS.setI s 38 v) := by
  have one : ∀ s : CS, CBS H s → CBS H (CS.setI s 38 v) := fun s hc => by
    obtain ⟨c1, c2, c3, c4, c5, c6, c7, c8, c9⟩ := hc
    refine ⟨c1, c2, c3, c4, ?_, c6, c7, c8, ?_⟩
    · rw [ci_ne _ _ _ (by decide), ci_ne _ _ _ (by decide)]; exact c5
    · rw [ci_ne _ _ _ (by decide), ci_ne _ _ _ (by decide), ci_ne _ _ _ (by decide), ci_ne _ _ _ (by decide)]; exact c9
  have e : shs (CS.setI s 38 v) = CS.setI (shs s) 38 v := setI.cm s 38 34 v 20 (by decide)
  refine ⟨one s h.1, ?_⟩
  rw [e]
  refine ⟨one _ h.2.1, fun q => ?_⟩
  have yi : ∀ j : Nat, j ≠ 38 → (CS.setI (shs s) 38 v).i j = (shs s).i j := fun j hj => ci_ne _ _ _ hj
  have y38 : dsI (CS.setI (shs s) 38 v) = v.toInt := by unfold dsI; rw [ci_at]
  have q1 := (yi 32 (by decide)).symm.trans q
  obtain ⟨g, n⟩ := h.2.2 q1
  have hd' := hd ((shs.i s 32 (by decide)).symm.trans q1)
  have ra : (CS.setI (shs s) 38 v).r = (shs s).r := rfl
  have oa : (CS.setI (shs s) 38 v).o = (shs s).o := rfl
  have la : (CS.setI (shs s) 38 v).ol = (shs s).ol := rfl
  have aa : (CS.setI (shs s) 38 v).a = (shs s).a := rfl
  have hc := h.2.1
  generalize shs s = S at *
  generalize CS.setI S 38 v = Y at *
  have ck : CK S Y := ⟨⟨⟨by rw [aa], by rw [aa], by rw [aa], by rw [aa], by rw [aa]⟩, ⟨yi 20 (by decide), yi 21 (by decide), yi 50 (by decide), yi 53 (by decide)⟩, by rw [ra], fun b _ => ⟨by rw [oa], by rw [la]⟩⟩, yi 22 (by decide)⟩
  refine ⟨g.ck hc.1 ck, ?_⟩
  have nr := hc.2.2.2.2.2.2.1.2.2
  have rq : RSQ S Y (cnI S).toNat := fun i _ => ⟨by rw [ra], fun b _ => ⟨by rw [oa], by rw [la]⟩⟩
  obtain ⟨i1, i2, i3, i4, i5⟩ := rq.sums nr
  have ecn : cnI Y = cnI S := by unfold cnI; rw [yi 53 (by decide)]
  have etc : tcI Y = tcI S := by unfold tcI; rw [yi 21 (by decide)]
  have ecc : ccI Y = ccI S := by unfold ccI; rw [yi 22 (by decide)]
  have esz : szI Y = szI S := by unfold szI; rw [yi 20 (by decide)]
  have esg : sgI Y = sgI S := by unfold sgI; rw [yi 34 (by decide)]
  have epl : plI Y = plI S := by unfold plI; rw [yi 44 (by decide)]
  have ee : eI Y = eI S := by unfold eI; rw [epl, yi 43 (by decide)]
  obtain ⟨c1, c2, c3, c4, c5, c6, c7, c8, c9⟩ := n
  exact ⟨by omega, by omega, by omega, by omega, by rw [ecn]; exact c5.of rq nr, by rw [ecn, i1, ee]; exact c6, by rw [ecn, i2, esg]; exact c7, by rw [y38]; exact hd', by rw [yi 56 (by decide), ecn, ra, oa]; exact c9⟩
/-- the row of a brace goes -/
theorem q_popE {N : Nat} {H : HB} {x y p g : Int} {c cc : List Nat} {X : List (Nat × List Nat)} {P : List Nat} {lim : List Int} {T : List Int} {σ s' s : CS} {a m : Nat} (h : JSH H x y cc c cc X P lim s) (ht : TUR σ a m) (h1 : sgn σ a = 1) (n2 : ¬ σ.o a 0 = 302) (ea : s.r 51 m = some a) (hσ : JJ H x y c X P lim σ ∨ (SGS σ (m + 1) ≤ sgI σ ∧ sgI σ ≤ 20)) (hs : s.i 32 = 0 → MDL p g (-1) σ s' ∧ TL2 m s' s ∧ s.o a 0 = σ.o a 0 ∧ (∀ (DT : Nat → List Nat) (KT : Nat → Prop) (c0 : List Nat) (lim0 : List Int), ROW1 (shs s) DT KT a c0 c lim lim0 → c0 = cc ∧ lim0 = ccI s :: T) ∧ (nmI s = (s.o a 3).toInt ∨ c = cc) ∧ ∀ k : Nat, (k : Int) < tcI s → (s.a 17 k).toInt = -1 → OWS s a k → k ∈ P) (hp : 0 ≤ p) (hg : 0 ≤ g) : ok ((f_X6_pop N s).bind fun p27 => some ((), p27.2)) (fun R => TNQ H (x - 50) y X P T σ R.2 ∧ (R.2.i 32 = 0 → cnI R.2 = (m : Int))) := by
  obtain ⟨nf, hm, eaσ, nr, m4⟩ := ht
  refine ok_bind (q_popC N h.1) (fun R hR => ok_some ?_)
  obtain ⟨r1, r2, r3⟩ := hR
  show TNQ H (x - 50) y X P T σ R.2 ∧ (R.2.i 32 = 0 → cnI R.2 = (m : Int))
  have hcn : R.2.i 32 = 0 → cnI R.2 = (m : Int) := fun q => by
    obtain ⟨md, tl, -⟩ := hs (r3.symm.trans q)
    have cs : cnI s = (m : Int) + 1 := by rw [← hm]; unfold cnI; rw [tl.2.2.2.2.2.2.1, md.2.2.2.1.1]
    have := (r2 (by omega)).2
    omega
  refine ⟨⟨r1, fun q => ?_⟩, hcn⟩
  have qs := r3.symm.trans q
  obtain ⟨md, tl, es0, hcl, hnm, hO⟩ := hs qs
  have cs : cnI s = (m : Int) + 1 := by rw [← hm]; unfold cnI; rw [tl.2.2.2.2.2.2.1, md.2.2.2.1.1]
  obtain ⟨eR, cR⟩ := r2 (by omega)
  have qS := (shs.i s 32 (by decide)).trans qs
  have n9 := (h.2.2 qS).2.2.2.2.2.2.2.2.2
  have cS : cnI (shs s) = cnI s := by unfold cnI; rw [shs.i s 53 (by decide)]
  have h56 : ((shs s).i 56).toInt < (m : Int) := by
    by_cases z : ((shs s).i 56).toInt = (m : Int)
    · exfalso
      have e2 := n9.2.2 a (by omega) (by rw [show ((shs s).i 56).toInt.toNat = m by omega]; exact ea)
      have e3 : s.o a 0 = 302 := e2
      rw [es0] at e3
      exact n2 e3
    · have := n9.2.1; omega
  have eSR : shs R.2 = CS.setI (shs s) 53 ((shs s).i 53 - 1) := by
    rw [eR, shs.i s 53 (by decide)]
    exact setI.cm s 53 34 _ 20 (by decide)
  have ccS : ccI (shs s) = ccI s := by unfold ccI; rw [shs.i s 22 (by decide)]
  have tcS : tcI (shs s) = tcI s := by unfold tcI; rw [shs.i s 21 (by decide)]
  have nmS : nmI (shs s) = nmI s := by unfold nmI; rw [shs.i s 50 (by decide)]
  have jr := h.2.pop (R := shs R.2) (cc := cc) (ll := ccI s :: T) qS (by have := r1.s34 20; exact this) (by omega) ea eSR (by unfold cnI; rw [shs.i R.2 53 (by decide)]; unfold cnI at cR cs; omega) (fun k k1 k2 k3 => hO k (by omega) k2 k3) hcl (fun n hn => by
    rcases hnm with w | w
    · left
      have hn' : (n : Int) < nmI s := by omega
      have : (n : Int) < (s.o a 3).toInt := by omega
      exact this
    · exact Or.inr w) h56 (by rw [ccS]; exact Int.le_refl _)
  have Ri : ∀ j : Nat, j ≠ 53 → R.2.i j = s.i j := fun j k1 => by rw [eR, ci_ne _ _ _ k1]
  have ecc : ccI R.2 = ccI s := by unfold ccI; rw [Ri 22 (by decide)]
  have trn : TNR σ R.2 := by
    refine md.pop hp hg hm eaσ nr (by rw [h1]) (fun j hj => ?_) (by rw [eR, ca_setI]; exact tl.2.1) (tl.1.2.tr (fun i _ => ⟨by rw [eR, cr_setI], fun b _ => ⟨by rw [eR, co_setI], by rw [eR, col_setI]⟩⟩)) (by omega)
    rw [Ri j (by omega)]
    rcases hj with e | e | e | e <;> rw [e]
    · exact tl.2.2.2.1
    · exact tl.2.2.2.2.1
    · exact tl.2.2.2.2.2.1
    · exact tl.2.2.2.2.2.2.2
  refine ⟨⟨cc, ?_⟩, trn⟩
  rw [ecc]
  refine JK.j (JSH.un ⟨r1, jr⟩ (fun _ => ?_))
  have e3 := trn.2.2.1
  have emσ : (cnI σ).toNat = m + 1 := by omega
  rw [emσ] at e3
  have b : SGS σ (m + 1) ≤ sgI σ ∧ sgI σ ≤ 20 := by
    rcases hσ with w | w
    · have n := (w.2 nf).2
      have n7 := n.2.2.2.2.2.2.1
      rw [emσ] at n7
      exact ⟨n7, n.2.2.2.1.2⟩
    · exact w
  have sR : sgI R.2 = sgI σ + -1 := by
    rw [← md.2.2.1]
    unfold sgI
    rw [Ri 34 (by decide), tl.2.2.2.1]
  have bas := (BAS (s := R.2) (cnI R.2).toNat).2.2.2.1
  omega
end
section
/-! the class's reading: blocks, locks and finallys end, whole -/
theorem q_lv (N : Nat) (s : CS) (t g : Int32) : ok (f_X7_leave N s t g) (fun R => ∃ o v : Int32, ADD s R.2 o v ∧ ((o = 30 ∧ v = t ∧ g = s.i 38) ∨ (o = 60 ∧ v = t * 32 + g))) := by
  unfold f_X7_leave
  refine ok_ite (fun ce => ?_) (fun ce => ?_)
  · exact ok_bind (q_add N s 30 t) (fun p hp => ok_some ⟨30, t, hp, Or.inl ⟨rfl, rfl, ce⟩⟩)
  · exact ok_bind (q_add N s 60 (t * 32 + g)) (fun p hp => ok_some ⟨60, _, hp, Or.inr ⟨rfl, rfl⟩⟩)
theorem IOK.lv {tc : Int} {DT : Nat → List Nat} {KT : Nat → Prop} {o v t g : Int32} {cD c0 r c1 : List Nat} (h : (o = 30 ∧ v = t ∧ g.toInt = (cD.length : Int)) ∨ (o = 60 ∧ v = t * 32 + g)) (w1 : TTc tc DT KT t c0) (w2 : g.toInt = (c0.length : Int)) (w3 : cD = r ++ c0) (hl : cD.length ≤ 21) (htc : tc ≤ 2000) : IOK tc DT KT o v cD c1 := by
  have l2 : c0.length ≤ cD.length := by rw [w3, List.length_append]; omega
  rcases h with ⟨e1, e2, e3⟩ | ⟨e1, e2⟩
  · have e : c0 = cD := by
      have l3 : c0.length = cD.length := by omega
      rw [w3, List.length_append] at l3
      have r0 : r = [] := List.length_eq_zero_iff.mp (by omega)
      rw [w3, r0]; rfl
    rw [e] at w1
    rw [e1, e2]
    exact ⟨fun q => absurd q (by decide), fun _ => w1, fun q => absurd q (by decide), fun q => absurd q (by decide), fun q => absurd q (by decide), fun q => absurd q (by decide), fun q => absurd q (by decide), fun q => absurd q (by decide), fun q => absurd q (by decide), fun q => absurd q (by decide), fun q => absurd q (by decide), fun q => absurd q (by decide), by decide⟩
  · rw [e1, e2]
    have lv := lv32 (t := t) (g := g) ⟨w1.1, by have := w1.2.1; omega⟩ (by omega)
    refine ⟨fun q => absurd q (by decide), fun q => absurd q (by decide), fun _ q => absurd q (by decide), fun _ q => absurd q (by decide), fun q => absurd q (by decide), fun q => absurd q (by decide), fun q => absurd q (by decide), fun q => absurd q (by decide), fun q => absurd q (by decide), fun q => absurd q (by decide), fun _ => ⟨c0.length, lv.2.trans w2, l2, ?_⟩, fun q => absurd q (by decide), by decide⟩
    rw [lv.1, w3, drop_suf]
    exact w1
theorem q_lose2 {N : Nat} {H : HB} {s : CS} (h : CBS H s) (x2 : Int32) : ∀ (n : Nat) (σ : CS) (x3 : Int32), x2.toInt - x3.toInt < n → IRR s σ → ok (f_X6_loseJumps_2 N (n + 1) σ x2 x3) (fun R => IRR s R.2)
  | n, σ, x3, hn, hi => by
    show ok (b_X6_loseJumps_2 N (f_X6_loseJumps_2 N n) σ x2 x3) _
    unfold b_X6_loseJumps_2
    have e1 : (1 : Int32).toInt = 1 := by decide
    refine ok_ite (fun _ => ok_some hi) (fun c => ?_)
    have l := lt_int (Int32.not_le.mp c)
    have b1 := Int32.toInt_lt x2
    have b2 := Int32.le_toInt x3
    have es : (x3 + 1).toInt = x3.toInt + 1 := by rw [toInt_add] <;> rw [e1] <;> omega
    obtain ⟨n', rfl⟩ : ∃ n', n = n' + 1 := ⟨n - 1, by omega⟩
    exact q_lose2 h x2 n' _ (x3 + 1) (by omega) (hi.a _)
  termination_by n => n
theorem q_lose {N : Nat} {H : HB} (hN : 10000000000 ≤ N) {s : CS} (h : CBS H s) (x1 x2 : Int32) : ok (f_X6_loseJumps N s x1 x2) (fun R => IRR s R.2) := by
  unfold f_X6_loseJumps
  obtain ⟨N', rfl⟩ : ∃ N', N = N' + 1 := ⟨N - 1, by omega⟩
  have b1 := Int32.toInt_lt x2
  have b2 := Int32.le_toInt x1
  exact q_lose2 h x2 N' s x1 (by omega) (IRR.rf h)
/-- behind the brace of a row's end: s' there, s with the names gone -/
def ECL (H : HB) (x y : Int) (c : List Nat) (X : List (Nat × List Nat)) (P : List Nat) (T : List Int) (σ : CS) (a m : Nat) (s' s : CS) : Prop := JSH H x y c c c X P (ccI σ :: T) s ∧ s.r 51 m = some a ∧ (s.i 32 = 0 → MDL 1 0 (-1) σ s' ∧ TLE s' s ∧ (s'.r = σ.r ∧ s'.o = σ.o ∧ s'.ol = σ.ol) ∧ s.i 22 = σ.i 22 ∧ s.i 38 = σ.i 38 ∧ nmI s = (s.o a 3).toInt ∧ cnI s = (m : Int) + 1)
theorem ECL.o {H : HB} {x y : Int} {c : List Nat} {X : List (Nat × List Nat)} {P : List Nat} {T : List Int} {σ : CS} {a m : Nat} {s' s : CS} (h : ECL H x y c X P T σ a m s' s) (nf : s.i 32 = 0) : s.o = σ.o := by
  have w := h.2.2 nf
  exact w.2.1.1.2.1.trans w.2.2.1.2.1
theorem q_clo {N : Nat} {H : HB} (hN : 1000 ≤ N) {x y : Int} {c : List Nat} {X : List (Nat × List Nat)} {P : List Nat} {T : List Int} {σ : CS} {a m : Nat} (h : JJ H x y c X P (ccI σ :: T) σ) (ht : TUR σ a m) (h1 : 1 ≤ sgI σ) {α : Type} {K : CS → Option α} {Q : α → Prop} (hK : ∀ s' s : CS, ECL H (x - 100) y c X P T σ a m s' s → ok (K s) Q) : ok ((f_X1_close N σ 125).bind fun p4 => if oK p4.2 a 0 then K (CS.setI p4.2 50 (CS.o p4.2 a 3)) else none) Q := by
  obtain ⟨nf, hm, ea, nr, m4⟩ := ht
  refine ok_bind (q_closE hN h nf h1) (fun p hp => ?_)
  obtain ⟨j, ⟨r1, r2, r3⟩, w⟩ := hp
  have pr : p.2.r 51 m = some a := by rw [r1]; exact ea
  refine ok_chk (j.1.1.2.1 m a m4 pr) (hK p.2 _ ⟨j.nmr pr m4 (fun z => ?_), by rw [cr_setI]; exact pr, fun z => ?_⟩)
  · rw [← hm]; unfold cnI; rw [(w z).1.2.2.2.1.1]
  · have z1 := (ci_ne _ _ _ (by decide)).symm.trans z
    have w1 := w z1
    refine ⟨w1.1, (TLE.rf p.2).i50 _, ⟨r1, r2, r3⟩, (ci_ne _ _ _ (by decide)).trans w1.2.1, (ci_ne _ _ _ (by decide)).trans w1.2.2.1, ?_, ?_⟩
    · unfold nmI; rw [ci_at, co_setI]
    · rw [← hm]; unfold cnI; rw [ci_ne _ _ _ (by decide), w1.1.2.2.2.1.1]
/-- a row whose context is told by its sort -/
theorem JJ.row {H : HB} {x y : Int} {c : List Nat} {X : List (Nat × List Nat)} {P : List Nat} {lim : List Int} {σ : CS} {a m : Nat} (h : JJ H x y c X P lim σ) (ht : TUR σ a m) : ∃ (DT : Nat → List Nat) (KT : Nat → Prop) (c0 : List Nat) (lim0 : List Int), ROW1 σ DT KT a c0 c lim lim0 := by
  obtain ⟨D, DT, KT, -, -, -, -, -, ⟨k, k1, k2, k3⟩, -⟩ := (h.2 ht.1).1
  have ek : k = m + 1 := by have := ht.2.1; omega
  rw [ek] at k3
  obtain ⟨c0, L0, r⟩ := k3.top ht.2.2.1
  exact ⟨DT, KT, c0, L0, r⟩
/-- the contexts of lock, finally, try, catch -/
theorem ROW1.cx {s : CS} {DT : Nat → List Nat} {KT : Nat → Prop} {a : Nat} {c0 c : List Nat} {lim lim' : List Int} (r : ROW1 s DT KT a c0 c lim lim') : (s.o a 0 = 212 → c = 0 :: c0 ∧ lim' = lim) ∧ (s.o a 0 = 213 → c = 1 :: c0 ∧ lim' = lim) ∧ (s.o a 0 = 215 ∨ s.o a 0 = 305 → c = 2 :: c0 ∧ lim' = lim) ∧ (s.o a 0 = 216 → c = 3 :: c0 ∧ lim' = lim) ∧ ((s.o a 0 = 212 ∨ s.o a 0 = 213 ∨ s.o a 0 = 215 ∨ s.o a 0 = 305 ∨ s.o a 0 = 216) → TTc (tcI s) DT KT (s.o a 9) c0) ∧ (s.o a 0 = 213 ∨ s.o a 0 = 215 → TTc (tcI s) DT KT (s.o a 10) (2 :: c0)) ∧ (s.o a 0 = 213 ∨ s.o a 0 = 215 ∨ s.o a 0 = 305 → KTc (tcI s) DT KT (s.o a 11) (3 :: c0)) := by
  obtain ⟨r1, r2, r3⟩ := r
  obtain ⟨v, hv⟩ : ∃ v, v = s.o a 0 := ⟨_, rfl⟩
  rw [← hv] at r3 ⊢
  have no : ∀ w : Int32, v = w → ¬ (w = 212 ∨ w = 213 ∨ w = 215 ∨ w = 305 ∨ w = 216) → (v = 212 → c = 0 :: c0 ∧ lim' = lim) ∧ (v = 213 → c = 1 :: c0 ∧ lim' = lim) ∧ (v = 215 ∨ v = 305 → c = 2 :: c0 ∧ lim' = lim) ∧ (v = 216 → c = 3 :: c0 ∧ lim' = lim) ∧ ((v = 212 ∨ v = 213 ∨ v = 215 ∨ v = 305 ∨ v = 216) → TTc (tcI s) DT KT (s.o a 9) c0) ∧ (v = 213 ∨ v = 215 → TTc (tcI s) DT KT (s.o a 10) (2 :: c0)) ∧ (v = 213 ∨ v = 215 ∨ v = 305 → KTc (tcI s) DT KT (s.o a 11) (3 :: c0)) := fun w e n => by
    rw [e]
    exact ⟨fun q => absurd (Or.inl q) n, fun q => absurd (Or.inr (Or.inl q)) n, fun q => absurd (by rcases q with q | q; exact Or.inr (Or.inr (Or.inl q)); exact Or.inr (Or.inr (Or.inr (Or.inl q)))) n, fun q => absurd (Or.inr (Or.inr (Or.inr (Or.inr q)))) n, fun q => absurd q n, fun q => absurd (by rcases q with q | q; exact Or.inr (Or.inl q); exact Or.inr (Or.inr (Or.inl q))) n, fun q => absurd (by rcases q with q | q | q; exact Or.inr (Or.inl q); exact Or.inr (Or.inr (Or.inl q)); exact Or.inr (Or.inr (Or.inr (Or.inl q)))) n⟩
  rcases r3 with ⟨z1, z2, e⟩ | ⟨z1, z2, z3, -⟩ | ⟨z1, z2, z3, e⟩ | ⟨z1, z2, z3, e⟩ | ⟨z1, z2, z3, z4, e⟩ | ⟨z1, z2, z3, z4, z5, e⟩ | ⟨z1, z2, z3, -⟩ | ⟨z1, z2, z3, e⟩ | ⟨z1, z2, z3, z4, z5, e⟩ | ⟨z1, z2, z3, z4, z5, e⟩ | ⟨z1, z2, z3, z4, e⟩ | ⟨z1, z2, z3, e⟩
  · rcases z1 with z1 | z1
    · exact no _ z1 (by decide)
    · exact no _ z1 (by decide)
  · exact no _ z1 (by decide)
  · exact no _ z1 (by decide)
  · rcases z1 with z1 | z1
    · exact no _ z1 (by decide)
    · exact no _ z1 (by decide)
  · rcases z1 with z1 | z1 | z1
    · exact no _ z1 (by decide)
    · exact no _ z1 (by decide)
    · exact no _ z1 (by decide)
  · exact no _ z1 (by decide)
  · exact no _ z1 (by decide)
  · rw [z1]
    exact ⟨fun _ => ⟨z2, e⟩, fun q => absurd q (by decide), fun q => absurd q (by decide), fun q => absurd q (by decide), fun _ => z3, fun q => absurd q (by decide), fun q => absurd q (by decide)⟩
  · rw [z1]
    exact ⟨fun q => absurd q (by decide), fun _ => ⟨z2, e⟩, fun q => absurd q (by decide), fun q => absurd q (by decide), fun _ => z3, fun _ => z4, fun _ => z5⟩
  · rw [z1]
    exact ⟨fun q => absurd q (by decide), fun q => absurd q (by decide), fun _ => ⟨z2, e⟩, fun q => absurd q (by decide), fun _ => z3, fun _ => z4, fun _ => z5⟩
  · rw [z1]
    exact ⟨fun q => absurd q (by decide), fun q => absurd q (by decide), fun _ => ⟨z2, e⟩, fun q => absurd q (by decide), fun _ => z3, fun q => absurd q (by decide), fun _ => z4⟩
  · rw [z1]
    exact ⟨fun q => absurd q (by decide), fun q => absurd q (by decide), fun q => absurd q (by decide), fun _ => ⟨z2, e⟩, fun _ => z3, fun q => absurd q (by decide), fun q => absurd q (by decide)⟩
end
