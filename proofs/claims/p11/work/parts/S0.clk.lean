/-! the class's reading: lock, switch -/
theorem IOK.lock {tc : Int} {DT : Nat → List Nat} {KT : Nat → Prop} {x : Int32} {c : List Nat} : IOK tc DT KT 53 x c (0 :: c) := ⟨fun q => absurd q (by decide), fun q => absurd q (by decide), fun _ q => absurd q (by decide), fun _ q => absurd q (by decide), fun q => absurd q (by decide), fun _ => rfl, fun q => absurd q (by decide), fun q => absurd q (by decide), fun q => absurd q (by decide), fun q => absurd q (by decide), fun q => absurd q (by decide), fun q => absurd q (by decide), by decide⟩
theorem q_lock58 {N : Nat} {H : HB} (hN : 1000 ≤ N) {x y : Int} {c : List Nat} {X : List (Nat × List Nat)} {P : List Nat} {lim : List Int} {s0 s : CS} (hx : x ≤ 4000) (hy : y ≤ 90) (h : JK H x y (0 :: c) c c X P lim s) (h0 : S0G s0) (hs : s.i 32 = 0 → SX 3 3 1 s0 s) : ok (f_X7_beginLock_58 N s) (fun R => STQ H (x - 20) (y + 1) X P lim s0 R.2) := by
  unfold f_X7_beginLock_58
  refine ok_bind (q_clsK hN h (fun z => ?_) 41 (by decide)) (fun p hp => ?_)
  · have sx := hs z
    have ecn : cnI s = cnI s0 := by unfold cnI; rw [sx.2.2.2.1.2.1]
    obtain ⟨i1, i2, i3, i4, i5⟩ := sx.2.2.2.2.2.1.sums h0.2.1
    have := sx.2.2.1
    have := h0.2.2.2.2.1.2
    have := h0.2.2.2.2.2.2.2.2
    rw [ecn, i2]
    omega
  obtain ⟨j1, m1⟩ := hp
  refine ok_bind (q_open hN j1.1 123) (fun q hq => ?_)
  obtain ⟨j2, m2⟩ := j1.op (by decide) hq
  have x2 : q.2.i 32 = 0 → SX 3 3 1 s0 q.2 := fun z => (((hs (m1 (m2 z).1).1).tr (m1 (m2 z).1).sx).tr (m2 z).sx).w (by omega) (by omega) (by omega)
  refine ok_bind (PRX.of (N := N) j2 x2 212 _ _ j2.1.nm) (fun w hw => ?_)
  obtain ⟨v, a, m, r1, px, ⟨o0, o2, o3, ol⟩, ⟨o9, o10, o11⟩, ri, ra⟩ := hw
  rw [r1]
  show ok ((f_X0_newTarget N w.2).bind fun p40 => if oK p40.2 a 0 then some ((), CS.setI (CS.setO p40.2 a 9 p40.1) 38 ((p40.2.i 38) + 1)) else none) _
  refine ok_bind (q_newTarget N w.2) (fun n hn => ?_)
  obtain ⟨n1, n2⟩ := hn
  obtain ⟨pn, pno, pnl⟩ := px.new n1 (by omega) (by omega) c
  have en : w.2.i 32 = 0 → n.1.toInt = ((tcI w.2).toNat : Int) := fun z => px.tc z n2
  obtain ⟨b, hb'⟩ : ∃ b, b = (tcI w.2).toNat := ⟨_, rfl⟩
  rw [← hb'] at pn en
  refine ok_chk pn.1.2.1.1 (ok_some ?_)
  have ou := (OUV.rf n.2 a).o 9 n.1
  have cT := pn.1.1.o a 9 n.1 (by omega) (by omega)
  have py := pn.cel ou cT
  have To : (CS.setO n.2 a 9 n.1).o a = upd (w.2.o a) 9 n.1 := by
    have := ou.2.2.1
    rw [pno] at this
    exact this
  have Ti : ∀ j : Nat, j ≠ 21 → (CS.setO n.2 a 9 n.1).i j = w.2.i j := fun j hj => by
    rw [show (CS.setO n.2 a 9 n.1).i = n.2.i from ou.1.2.2.2.2.2.2.2.2.2, n1.2.1 j hj]
  have Tn : (CS.setO n.2 a 9 n.1).i 38 = n.2.i 38 := by rw [show (CS.setO n.2 a 9 n.1).i = n.2.i from ou.1.2.2.2.2.2.2.2.2.2]
  show STQ H (x - 20) (y + 1) X P lim s0 (CS.setI (CS.setO n.2 a 9 n.1) 38 (n.2.i 38 + 1))
  rw [← Tn]
  generalize CS.setO n.2 a 9 n.1 = T at *
  have nU : T.i 32 = 0 → w.2.i 32 = 0 := fun z => by rw [Ti 32 (by decide)] at z; exact z
  have T0 : T.o a 0 = 212 := by rw [To]; exact o0
  have T2 : T.o a 2 = T.i 38 := by rw [To, Ti 38 (by decide)]; exact o2.trans (ri 38 (by decide) (by decide)).symm
  have T3 : T.o a 3 = T.i 50 := by rw [To, Ti 50 (by decide)]; exact o3.trans (ri 50 (by decide) (by decide)).symm
  have T9 : T.o a 9 = n.1 := by rw [To]; rfl
  refine (PRX.in (κ := 3) (X' := X) py h0 rfl (by rw [T0]; decide) (fun _ z => List.mem_cons_of_mem _ z) (fun nf DT KT qX qN => ⟨?_, qN, ?_⟩) (fun nf k hk => ?_) (fun nf => py.lm nf) (fun nf => ?_) ?_ (by omega) (by omega) (by omega) (fun nf V v1 v2 v3 => ?_)).w (by omega) (by omega)
  · rw [T2]; exact (py.ds nf).1
  · refine Or.inr (Or.inr (Or.inr (Or.inr (Or.inr (Or.inr (Or.inr (Or.inl ⟨T0, rfl, ?_, rfl⟩)))))))
    rw [T9]; exact TTc.x qX (en (nU nf)) (List.mem_cons_self ..)
  · rcases List.mem_cons.mp hk with e | e
    · right; left
      rw [T0, T9, e]
      exact ⟨by decide, by decide, by decide, by decide, en (nU nf)⟩
    · exact Or.inl e
  · rw [T3]
    exact ⟨py.nm nf, Int.le_refl _⟩
  · unfold sgn; rw [T0]; rfl
  · exact v1.pl v2 v3 (by rw [cr_setI]; exact py.1.2.1.2.1) (v := 212) (by rw [co_setI]; exact T0) (by decide)
theorem q_beginLock {N : Nat} {H : HB} (hN : 1000 ≤ N) {x y : Int} {c : List Nat} {X : List (Nat × List Nat)} {P : List Nat} {lim : List Int} {s : CS} (hx : x ≤ 4000) (hy : y ≤ 90) (h : JJ H x y c X P lim s) (h0 : S0G s) (ht : s.i 43 = 212) : ok (f_X7_beginLock N s) (fun R => STQ H (x - 20) y X P lim s R.2) := by
  unfold f_X7_beginLock
  have nf := h0.1
  refine ok_bind (q_advC hN h.1) (fun p hp => ?_)
  obtain ⟨j1, e1⟩ := h.word hp (fun _ => by rw [ht]; decide)
  refine ok_bind (q_open hN j1.1 40) (fun q hq => ?_)
  obtain ⟨j2, m2⟩ := j1.op (by decide) hq
  have x2 : q.2.i 32 = 0 → SX 3 3 1 s q.2 := fun z => ((e1 (m2 z).1).tr (m2 z).sx).w (by omega) (by omega) (by omega)
  refine ok_bind (q_found q.2 3) (fun r hr => ?_)
  obtain ⟨r1, r2⟩ := hr
  rw [r1]
  rcases r2 with ⟨r2, r3⟩ | ⟨r2, r3⟩
  · rw [if_pos r2]
    refine ok_bind (q_expJ hN j2 224 (by decide)) (fun u hu => ?_)
    obtain ⟨j3, e3⟩ := hu
    refine ok_bind (q_throwNull (N := N) (c1 := 0 :: c) (by omega) (by omega) j3.k (fun z => (j3.ds z).2)) (fun v hv => ?_)
    obtain ⟨j4, e4, -⟩ := hv
    exact ok_imp (q_lock58 hN (by omega) (by omega) j4 h0 (fun z => (((x2 (e3 (e4 z).1).1).tr (e3 (e4 z).1).sx).tr (e4 z)).w (by omega) (by omega) (by omega))) (fun T hT => hT.w (by omega) (by omega))
  · rw [r2, if_neg (by decide)]
    refine ok_bind (q_add N q.2 53 _) (fun u hu => ?_)
    have j3 := j2.k.add (c1 := 0 :: c) hu (by omega) (by omega) (fun z => (j2.ds z).2) (fun _ _ _ _ _ _ => IOK.lock)
    refine ok_bind (q_advC hN j3.1) (fun v hv => ?_)
    have f := hu.f32
    have tk := hv.tk1 j3.1.2.2.1 (by rw [f.2.1, r3]; decide)
    have j4 : JK H (x - 300) (y - 3) (0 :: c) c c X P lim v.2 := j3.adv hv (fun _ => by omega)
    refine ok_imp (q_lock58 hN (by omega) (by omega) j4 h0 (fun z => ?_)) (fun T hT => hT.w (by omega) (by omega))
    have z1 := hv.f32.symm.trans z
    have z2 := f.1.symm.trans z1
    exact (((x2 z2).tr (hu.sx z2)).tr (hv.smr.sx (p := 1) (g := 0) z1 (by omega))).w (by omega) (by omega) (by omega)
theorem q_beginSwitch {N : Nat} {H : HB} (hN : 1000 ≤ N) {k : Int} {E1 : CS → Option (Unit × CS)} {E2 : CS → Option (Int32 × CS)} (hE : EC H k E1) {x y : Int} {c : List Nat} {X : List (Nat × List Nat)} {P : List Nat} {T : List Int} {s : CS} (hx : x ≤ 4000) (hy : y + 3 * k ≤ 87 ∧ 0 ≤ k) (h : JJ H x y c X P (ccI s :: T) s) (h0 : S0G s) (hk : 24 - sgI s ≤ k) (ht : s.i 43 = 218) : ok (f_X7_beginSwitch N E1 E2 s) (fun R => STQ H (x - 20) y X P (ccI s :: T) s R.2) := by
  unfold f_X7_beginSwitch
  have nf := h0.1
  refine ok_bind (q_advC hN h.1) (fun p hp => ?_)
  obtain ⟨j1, e1⟩ := h.word hp (fun _ => by rw [ht]; decide)
  refine ok_bind (q_open hN j1.1 40) (fun q hq => ?_)
  obtain ⟨j2, m2⟩ := j1.op (by decide) hq
  have x2 : q.2.i 32 = 0 → SX 3 3 1 s q.2 := fun z => ((e1 (m2 z).1).tr (m2 z).sx).w (by omega) (by omega) (by omega)
  refine ok_bind (q_expression (E2 := E2) hN hE _ _ c X P _ q.2 (by omega) (by omega) j2 (fun z => by have := (x2 z).2.2.1; omega)) (fun r hr => ?_)
  obtain ⟨j3, e3⟩ := hr
  have x3 : r.2.i 32 = 0 → SX 3 3 1 s r.2 := fun z => ((x2 (e3 z).1).tr (e3 z).sx).w (by omega) (by omega) (by omega)
  refine ok_bind (q_clos hN j3 (fun z => ?_) 41 (by decide)) (fun u hu => ?_)
  · have sx := x3 z
    have ecn : cnI r.2 = cnI s := by unfold cnI; rw [sx.2.2.2.1.2.1]
    obtain ⟨i1, i2, i3, i4, i5⟩ := sx.2.2.2.2.2.1.sums h0.2.1
    have := sx.2.2.1
    have := h0.2.2.2.2.1.2
    have := h0.2.2.2.2.2.2.2.2
    rw [ecn, i2]
    omega
  obtain ⟨j4, m4⟩ := hu
  refine ok_bind (q_open hN j4.1 123) (fun b hb => ?_)
  obtain ⟨j5, m5⟩ := j4.op (by decide) hb
  have x5 : b.2.i 32 = 0 → SX 3 3 1 s b.2 := fun z => (((x3 (m4 (m5 z).1).1).tr (m4 (m5 z).1).sx).tr (m5 z).sx).w (by omega) (by omega) (by omega)
  refine ok_bind (PRX.of (N := N) j5.k x5 218 _ _ j5.1.nm) (fun w hw => ?_)
  obtain ⟨v, a, m, r1, px, ⟨o0, o2, o3, ol⟩, ⟨o9, o10, o11⟩, ri, ra⟩ := hw
  rw [r1]
  show ok ((f_X0_newTarget N w.2).bind fun p31 => if oK p31.2 a 0 then (f_X0_newTarget N (CS.setO p31.2 a 10 p31.1)).bind fun p36 => if oK p36.2 a 0 then (f_X0_add N (CS.setO (CS.setO p36.2 a 9 p36.1) a 13 (p36.2.i 22)) 30 (CS.o (CS.setO (CS.setO p36.2 a 9 p36.1) a 13 (p36.2.i 22)) a 10)).bind fun p41 => some ((), p41.2) else none else none) _
  refine ok_bind (q_newTarget N w.2) (fun n hn => ?_)
  obtain ⟨n1, n2⟩ := hn
  obtain ⟨pn, pno, pnl⟩ := px.new n1 (by omega) (by omega) c
  have en : w.2.i 32 = 0 → n.1.toInt = ((tcI w.2).toNat : Int) := fun z => px.tc z n2
  obtain ⟨t, ht'⟩ : ∃ t, t = (tcI w.2).toNat := ⟨_, rfl⟩
  rw [← ht'] at pn en
  refine ok_chk pn.1.2.1.1 ?_
  have ou := (OUV.rf n.2 a).o 10 n.1
  have cA := pn.1.1.o a 10 n.1 (by omega) (by omega)
  have pA := pn.cel ou cA
  have Ao : (CS.setO n.2 a 10 n.1).o a = upd (w.2.o a) 10 n.1 := by
    have := ou.2.2.1
    rw [pno] at this
    exact this
  have Ai : ∀ j : Nat, j ≠ 21 → (CS.setO n.2 a 10 n.1).i j = w.2.i j := fun j hj => by
    rw [show (CS.setO n.2 a 10 n.1).i = n.2.i from ou.1.2.2.2.2.2.2.2.2.2, n1.2.1 j hj]
  generalize CS.setO n.2 a 10 n.1 = A at *
  refine ok_bind (q_newTarget N A) (fun d hd => ?_)
  obtain ⟨d1, d2⟩ := hd
  obtain ⟨pd, pdo, pdl⟩ := pA.new d1 (by omega) (by omega) c
  have ed : A.i 32 = 0 → d.1.toInt = ((tcI A).toNat : Int) := fun z => pA.tc z d2
  obtain ⟨u', hu'⟩ : ∃ u, u = (tcI A).toNat := ⟨_, rfl⟩
  rw [← hu'] at pd ed
  refine ok_chk pd.1.2.1.1 ?_
  have ou2 := ((OUV.rf d.2 a).o 9 d.1).o 13 (d.2.i 22)
  have cB := (pd.1.1.o a 9 d.1 (by omega) (by omega)).o a 13 (d.2.i 22) (by omega) (by omega)
  have pB := pd.cel ou2 cB
  have Bo : (CS.setO (CS.setO d.2 a 9 d.1) a 13 (d.2.i 22)).o a = upd (upd (upd (w.2.o a) 10 n.1) 9 d.1) 13 (d.2.i 22) := by
    have := ou2.2.2.1
    rw [pdo, Ao] at this
    exact this
  have Bi : (CS.setO (CS.setO d.2 a 9 d.1) a 13 (d.2.i 22)).i = d.2.i := ou2.1.2.2.2.2.2.2.2.2.2
  generalize CS.setO (CS.setO d.2 a 9 d.1) a 13 (d.2.i 22) = B at *
  have B10 : B.o a 10 = n.1 := by rw [Bo]; rfl
  rw [B10]
  have nB : B.i 32 = 0 → A.i 32 = 0 ∧ w.2.i 32 = 0 := fun z => by
    rw [Bi, d1.2.1 32 (by decide)] at z
    exact ⟨z, (Ai 32 (by decide)).symm.trans z⟩
  have mu : (u', c) ∈ (u', c) :: (t, c) :: X := List.mem_cons_self ..
  have mt : (t, c) ∈ (u', c) :: (t, c) :: X := List.mem_cons_of_mem _ (List.mem_cons_self ..)
  refine ok_bind (q_add N B 30 n.1) (fun f hf => ok_some ?_)
  obtain ⟨py, pyo, pyl⟩ := pB.add (c1 := c) hf (by omega) (by omega) (fun z => (pB.ds z).2) (fun z DT KT qX => IOK.jmp (by decide) (en (nB z).2) mt qX)
  show STQ H (x - 20) y X P (ccI s :: T) s f.2
  have Fo : f.2.o a = upd (upd (upd (w.2.o a) 10 n.1) 9 d.1) 13 (d.2.i 22) := by rw [pyo, Bo]
  have Fi : ∀ j : Nat, j ≠ 20 → j ≠ 21 → f.2.i j = w.2.i j := fun j j1 j2 => by rw [hf.2.1 j j1, Bi, d1.2.1 j j2, Ai j j2]
  have nF : f.2.i 32 = 0 → A.i 32 = 0 ∧ w.2.i 32 = 0 := fun z => nB (hf.f32.1.symm.trans z)
  have F0 : f.2.o a 0 = 218 := by rw [Fo]; exact o0
  have F9 : f.2.o a 9 = d.1 := by rw [Fo]; rfl
  have F10 : f.2.o a 10 = n.1 := by rw [Fo]; rfl
  have F11 : f.2.o a 11 = -1 := by rw [Fo]; exact o11
  have F13 : f.2.o a 13 = f.2.i 22 := by
    rw [Fo, hf.2.1 22 (by decide), Bi]; rfl
  have F2 : f.2.o a 2 = f.2.i 38 := by rw [Fo, Fi 38 (by decide) (by decide)]; exact o2.trans (ri 38 (by decide) (by decide)).symm
  have F3 : f.2.o a 3 = f.2.i 50 := by rw [Fo, Fi 50 (by decide) (by decide)]; exact o3.trans (ri 50 (by decide) (by decide)).symm
  have ecc : f.2.i 32 = 0 → (f.2.o a 13).toInt = ccI s := fun z => by
    rw [F13]
    have w1 := (py.2 z).2.2.2.1.2.2.2
    have w2 : f.2.i 22 = s.i 22 := w1
    rw [w2]; rfl
  refine (PRX.end (κ := 3) (X' := X) py h0 (by rw [F0]; decide) (fun _ z => List.mem_cons_of_mem _ (List.mem_cons_of_mem _ z)) (fun nf DT KT qX qN => ⟨?_, qN, ?_⟩) (fun nf k hk => ?_) (fun nf => py.lm nf) (fun nf => ?_) ?_ (by omega) (by omega) (by omega) (fun nf V v1 v2 v3 => ?_)).w (by omega) (by omega)
  · rw [F2]; exact (py.ds nf).1
  · refine Or.inr (Or.inr (Or.inr (Or.inr (Or.inr (Or.inr (Or.inl ⟨F0, rfl, ?_, ?_, Or.inl ?_, ccI s, T, rfl, ?_, ?_, ?_⟩))))))
    · rw [F9]; exact TTc.x qX (ed (nF nf).1) mu
    · rw [F10]; exact TTc.x qX (en (nF nf).2) mt
    · rw [F11]; decide
    · rw [ecc nf]
    · rw [ecc nf]; exact Int.le_refl _
    · intro i q1 q2
      rw [ecc nf] at q1
      omega
  · rcases List.mem_cons.mp hk with e | e
    · right; left
      rw [F0, F9, e]
      exact ⟨by decide, by decide, by decide, by decide, ed (nF nf).1⟩
    · rcases List.mem_cons.mp e with e | e
      · right; right
        rw [F0, F10, e]
        exact ⟨by decide, en (nF nf).2⟩
      · exact Or.inl e
  · rw [F3]
    exact ⟨py.nm nf, Int.le_refl _⟩
  · unfold sgn; rw [F0]; rfl
  · exact v1.pl v2 v3 py.1.2.1.2.1 F0 (by decide)
