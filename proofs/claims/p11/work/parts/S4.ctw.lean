/-! the class's reading: try, whole -/
theorem NTG.n {s R : CS} (h : NTG s R) (h0 : 0 ≤ tcI s ∧ tcI s ≤ 1020) : tcI R = tcI s + 1 ∧ (∀ k : Nat, (k : Int) ≠ tcI s → R.a 17 k = s.a 17 k) ∧ (∀ k : Nat, (k : Int) = tcI s → R.a 17 k = -1) := by
  obtain ⟨b, b11, b12, b13, b14⟩ := h
  have e1 : (1 : Int32).toInt = 1 := by decide
  have h0' : 0 ≤ (s.i 21).toInt ∧ (s.i 21).toInt ≤ 1020 := h0
  refine ⟨?_, fun k hk => by rw [b14]; exact gPut_ne hk, fun k hk => by rw [b14]; exact gPut_at hk (by omega)⟩
  show (R.i 21).toInt = (s.i 21).toInt + 1
  rw [b12, toInt_add] <;> rw [e1] <;> omega
theorem q_beginTry {N : Nat} {H : HB} (hN : 1000 ≤ N) {x y : Int} {c : List Nat} {X : List (Nat × List Nat)} {P : List Nat} {lim : List Int} {s : CS} (hx : x ≤ 4000) (hy : y ≤ 90) (h : JJ H x y c X P lim s) (h0 : S0G s) (ht : s.i 43 = 213) : ok (f_X7_beginTry N s) (fun R => STQ H (x - 20) y X P lim s R.2) := by
  unfold f_X7_beginTry
  have nf := h0.1
  refine ok_bind (PRX.of (N := N) h.k (fun z => SX.rf z) 213 _ _ h.1.nm) (fun w hw => ?_)
  obtain ⟨v, a, m, r1, px, ⟨o0, o2, o3, ol⟩, ⟨o9, o10, o11⟩, ri, ra⟩ := hw
  rw [r1]
  have nfw : w.2.i 32 = 0 := (ri 32 (by decide) (by decide)).trans nf
  show ok ((f_X0_newTarget N w.2).bind fun p11 => if oK p11.2 a 0 then (f_X0_newTarget N (CS.setO p11.2 a 10 p11.1)).bind fun p16 => if oK p16.2 a 0 then (f_X0_newTarget N (CS.setO p16.2 a 11 p16.1)).bind fun p21 => if oK p21.2 a 0 then (f_X9_advance N (CS.setO p21.2 a 9 p21.1)).bind fun p26 => if oK p26.2 a 0 then (f_X0_add N p26.2 54 (CS.o p26.2 a 10)).bind fun p31 => (f_X1_skip N (CS.setI p31.2 38 ((p31.2.i 38) + 1)) 214).bind fun p35 => (if p35.1 = 0 then f_X7_beginTry_132 N p35.2 else if oK p35.2 a 0 then (f_X7_openResource N (CS.setO p35.2 a 8 1)).bind fun p45 => f_X7_beginTry_106 N N p45.2 0 else none) else none else none else none else none) _
  have tcw : 0 ≤ tcI w.2 ∧ tcI w.2 ≤ 1010 := by
    have q := px.1.2.2.2.2 ((ci_ne _ _ _ (by decide)).trans nfw)
    have t1 : 0 ≤ tcI w.2 := q.1.tc0.1
    have t2 := (q.2.sz px.1.2.2.2.1.2.2.1 px.1.2.2.2.1.2.2.2.2.2.2.1.1 (by omega) (by omega)).2
    exact ⟨t1, t2⟩
  -- the first target
  refine ok_bind (q_newTarget N w.2) (fun n hn => ?_)
  obtain ⟨n1, n2⟩ := hn
  obtain ⟨pn, pno, pnl⟩ := px.new n1 (by omega) (by omega) (2 :: c)
  obtain ⟨tn, an1, an2⟩ := n1.n (by omega)
  refine ok_chk pn.1.2.1.1 ?_
  have ouA := (OUV.rf n.2 a).o 10 n.1
  have pA := pn.cel ouA (pn.1.1.o a 10 n.1 (by omega) (by omega))
  have Ao : (CS.setO n.2 a 10 n.1).o a = upd (w.2.o a) 10 n.1 := by
    have := ouA.2.2.1
    rw [pno] at this
    exact this
  have Ab : ∀ b : Nat, b ≠ a → (CS.setO n.2 a 10 n.1).o b = w.2.o b ∧ (CS.setO n.2 a 10 n.1).ol b = w.2.ol b := fun b hb => by
    have := ouA.2.1 b hb
    rw [pno, pnl] at this
    exact this
  have Ai : (CS.setO n.2 a 10 n.1).i = n.2.i := ci_setO ..
  have Aa : (CS.setO n.2 a 10 n.1).a = n.2.a := ca_setO ..
  have Ar : (CS.setO n.2 a 10 n.1).r = w.2.r := (cr_setO ..).trans n1.1.2.2.2.2.2.2.1
  generalize CS.setO n.2 a 10 n.1 = A at *
  have tA : tcI A = tcI w.2 + 1 := by rw [← tn]; unfold tcI; rw [Ai]
  -- the second
  refine ok_bind (q_newTarget N A) (fun d hd => ?_)
  obtain ⟨d1, d2⟩ := hd
  obtain ⟨pd, pdo, pdl⟩ := pA.new d1 (by omega) (by omega) (3 :: c)
  obtain ⟨td, ad1, ad2⟩ := d1.n (by omega)
  refine ok_chk pd.1.2.1.1 ?_
  have ouB := (OUV.rf d.2 a).o 11 d.1
  have pB := pd.cel ouB (pd.1.1.o a 11 d.1 (by omega) (by omega))
  have Bo : (CS.setO d.2 a 11 d.1).o a = upd (upd (w.2.o a) 10 n.1) 11 d.1 := by
    have := ouB.2.2.1
    rw [pdo, Ao] at this
    exact this
  have Bb : ∀ b : Nat, b ≠ a → (CS.setO d.2 a 11 d.1).o b = w.2.o b ∧ (CS.setO d.2 a 11 d.1).ol b = w.2.ol b := fun b hb => by
    have := ouB.2.1 b hb
    rw [pdo, pdl, (Ab b hb).1, (Ab b hb).2] at this
    exact this
  have Bi : (CS.setO d.2 a 11 d.1).i = d.2.i := ci_setO ..
  have Ba : (CS.setO d.2 a 11 d.1).a = d.2.a := ca_setO ..
  have Br : (CS.setO d.2 a 11 d.1).r = w.2.r := (cr_setO ..).trans (d1.1.2.2.2.2.2.2.1.trans Ar)
  generalize CS.setO d.2 a 11 d.1 = B at *
  have tB : tcI B = tcI w.2 + 2 := by
    have : tcI B = tcI d.2 := by unfold tcI; rw [Bi]
    omega
  -- the third
  refine ok_bind (q_newTarget N B) (fun e he => ?_)
  obtain ⟨e1, e2⟩ := he
  obtain ⟨pe, peo, pel⟩ := pB.new e1 (by omega) (by omega) c
  obtain ⟨te, ae1, ae2⟩ := e1.n (by omega)
  refine ok_chk pe.1.2.1.1 ?_
  have ouC := (OUV.rf e.2 a).o 9 e.1
  have pC := pe.cel ouC (pe.1.1.o a 9 e.1 (by omega) (by omega))
  have Co : (CS.setO e.2 a 9 e.1).o a = upd (upd (upd (w.2.o a) 10 n.1) 11 d.1) 9 e.1 := by
    have := ouC.2.2.1
    rw [peo, Bo] at this
    exact this
  have Cb : ∀ b : Nat, b ≠ a → (CS.setO e.2 a 9 e.1).o b = w.2.o b ∧ (CS.setO e.2 a 9 e.1).ol b = w.2.ol b := fun b hb => by
    have := ouC.2.1 b hb
    rw [peo, pel, (Bb b hb).1, (Bb b hb).2] at this
    exact this
  have Ci : (CS.setO e.2 a 9 e.1).i = e.2.i := ci_setO ..
  have Ca : (CS.setO e.2 a 9 e.1).a = e.2.a := ca_setO ..
  have Cr : (CS.setO e.2 a 9 e.1).r = w.2.r := (cr_setO ..).trans (e1.1.2.2.2.2.2.2.1.trans Br)
  generalize CS.setO e.2 a 9 e.1 = C at *
  have tC : tcI C = tcI w.2 + 3 := by
    have : tcI C = tcI e.2 := by unfold tcI; rw [Ci]
    omega
  have Cw : ∀ j : Nat, j ≠ 21 → C.i j = w.2.i j := fun j hj => by rw [Ci, e1.2.1 j hj, Bi, d1.2.1 j hj, Ai, n1.2.1 j hj]
  have Cwa : ∀ k : Nat, k ≠ 17 → C.a k = w.2.a k := fun k hk => by rw [Ca, e1.2.2.2.1 k hk, Ba, d1.2.2.2.1 k hk, Aa, n1.2.2.2.1 k hk]
  have C17o : ∀ k : Nat, (k : Int) < tcI w.2 → C.a 17 k = w.2.a 17 k := fun k hk => by rw [Ca, ae1 k (by omega), Ba, ad1 k (by omega), Aa, an1 k (by omega)]
  have em1 : (-1 : Int32).toInt = -1 := by decide
  have C17n : ∀ k : Nat, tcI w.2 ≤ (k : Int) → (k : Int) < tcI w.2 + 3 → (C.a 17 k).toInt = -1 := fun k k1 k2 => by
    by_cases z2 : (k : Int) = tcI w.2 + 2
    · rw [Ca, ae2 k (by omega)]; exact em1
    · by_cases z1 : (k : Int) = tcI w.2 + 1
      · rw [Ca, ae1 k (by omega), Ba, ad2 k (by omega)]; exact em1
      · rw [Ca, ae1 k (by omega), Ba, ad1 k (by omega), Aa, an2 k (by omega)]; exact em1
  have en : n.1.toInt = tcI w.2 := by rw [n2]; rfl
  have ed : d.1.toInt = tcI w.2 + 1 := by rw [d2]; exact tA
  have ee : e.1.toInt = tcI w.2 + 2 := by rw [e2]; exact tB
  clear ae1 ae2 ad1 ad2 an1 an2 Ab Bb ouA ouB ouC
  refine ok_bind (q_advC hN pC.1.1) (fun q hq => ?_)
  have wd := hq.wd pC.1.1.2.2.1 (Or.inl (by rw [Cw 43 (by decide), ri 43 (by decide) (by decide), ht]; decide))
  obtain ⟨pq, pqo, pql⟩ := pC.adv (x' := x - 200) (y' := y) hq (fun _ => by omega) (fun _ => wd)
  refine ok_chk pq.1.2.1.1 ?_
  refine ok_bind (q_add N q.2 54 _) (fun f hf => ?_)
  -- from here on the row stands
  obtain ⟨T, hT⟩ : ∃ T, T = CS.setI f.2 38 (f.2.i 38 + 1) := ⟨_, rfl⟩
  rw [← hT]
  have qi : ∀ j : Nat, ¬ (42 ≤ j ∧ j ≤ 45) → q.2.i j = C.i j := fun j hj => hq.1.2 j (by omega) (by omega) (by omega) (by omega)
  have qa : q.2.a = C.a := hq.1.1.2.2.2.2.2.2.2.2.2.2
  have qr : q.2.r = C.r := hq.1.1.2.2.2.2.2.2.2.1
  obtain ⟨⟨b1, b2, b3, b4, b5, b6, b7, b8, b9, b10⟩, b11, b12, b13, b14, b15⟩ := (show ADD q.2 f.2 54 (q.2.o a 10) from hf)
  have nfq : q.2.i 32 = 0 := by rw [qi 32 (by omega), Cw 32 (by decide)]; exact nfw
  have Tc : CBS H T := by
    have cf : CBS H f.2 := hf.cb pq.1.1
    rw [hT]
    obtain ⟨c1, c2, c3, c4, c5, c6, c7, c8, c9⟩ := cf
    refine ⟨c1, c2, c3, c4, ?_, c6, c7, c8, ?_⟩
    · rw [ci_ne _ _ _ (by decide), ci_ne _ _ _ (by decide)]; exact c5
    · rw [ci_ne _ _ _ (by decide), ci_ne _ _ _ (by decide), ci_ne _ _ _ (by decide), ci_ne _ _ _ (by decide)]; exact c9
  have Tq : ∀ j : Nat, j ≠ 20 → j ≠ 38 → T.i j = q.2.i j := fun j j1 j2 => by rw [hT, ci_ne _ _ _ j2, b11 j j1]
  have T20 : T.i 20 = q.2.i 20 + 1 := by rw [hT, ci_ne _ _ _ (by decide)]; exact b12
  have T38 : T.i 38 = q.2.i 38 + 1 := by rw [hT, ci_at, b11 38 (by decide)]
  have Ta : T.a = f.2.a := by rw [hT]; exact ca_setI ..
  have Tr : T.r = q.2.r := by rw [hT, cr_setI]; exact b7
  have To : T.o = q.2.o := by rw [hT, co_setI]; exact b4
  have Tl : T.ol = q.2.ol := by rw [hT, col_setI]; exact b5
  clear hT
  have jw : JW H (x - 149) y (1 :: c) X P lim s a m T := by
    refine ⟨Tc, ⟨by rw [Tr]; exact pq.1.2.1.2.1, pq.1.2.1.2.2.1⟩, fun l20 => ?_⟩
    have m4 := pq.1.2.1.2.2.1
    have vT : ∀ j : Nat, j ≠ 34 → (vir T).i j = T.i j := fun j hj => vir.i T j hj
    have vTa : (vir T).a = T.a := rfl
    have vTr : (vir T).r = T.r := rfl
    have vTo : (vir T).o = T.o := rfl
    have vTl : (vir T).ol = T.ol := rfl
    have vcb : CBS H (vir T) := ((TS9.rf T).i34 _).cb Tc Tc.2.2.1 (by rw [ci_ne _ _ _ (by decide), ci_ne _ _ _ (by decide)]; exact Tc.2.2.2.2.1) (fun q => (ci_ne _ _ _ (by decide)).symm.trans q)
    obtain ⟨vm, cm⟩ := px.1.2.2.1 nfw
    -- before the targets
    obtain ⟨V0, hV0⟩ : ∃ V0, V0 = CS.setI w.2 53 v := ⟨_, rfl⟩
    have V0i : ∀ j : Nat, j ≠ 53 → V0.i j = w.2.i j := fun j hj => by rw [hV0]; exact ci_ne _ _ _ hj
    have V0c : cnI V0 = (m : Int) := by unfold cnI; rw [hV0, ci_at]; exact vm
    have V0a : V0.a = w.2.a := by rw [hV0]; exact ca_setI ..
    have V0r : V0.r = w.2.r := by rw [hV0]; exact cr_setI ..
    have V0o : V0.o = w.2.o := by rw [hV0]; exact co_setI ..
    have V0l : V0.ol = w.2.ol := by rw [hV0]; exact col_setI ..
    have jV0 := px.1.2.2.2
    have sxV0 := px.2 nfw
    rw [← hV0] at jV0 sxV0
    clear hV0
    have nfV0 : V0.i 32 = 0 := (V0i 32 (by decide)).trans nfw
    have gV0 := (jV0.2 nfV0).1
    have nV0 := (jV0.2 nfV0).2
    have len := jV0.len nfV0 (sxV0.ng h0.2.2.1 h0.2.1)
    have emN : (cnI V0).toNat = m := by omega
    rw [emN] at len
    have tV0 : tcI V0 = tcI w.2 := by unfold tcI; rw [V0i 21 (by decide)]
    have inj : ∀ i b : Nat, i < m → w.2.r 51 i = some b → b ≠ a := fun i b hi eb z => by
      rw [z] at eb
      have := px.1.1.1.2.2.1 i m a (by omega) m4 eb px.1.2.1.2.1
      omega
    -- behind the advance
    obtain ⟨Vq, hVq⟩ : ∃ Vq, Vq = CS.setI q.2 53 v := ⟨_, rfl⟩
    have Vqi : ∀ j : Nat, j ≠ 53 → Vq.i j = q.2.i j := fun j hj => by rw [hVq]; exact ci_ne _ _ _ hj
    have Vqc : cnI Vq = (m : Int) := by unfold cnI; rw [hVq, ci_at]; exact vm
    have Vqr : Vq.r = q.2.r := by rw [hVq]; exact cr_setI ..
    have Vqo : Vq.o = q.2.o := by rw [hVq]; exact co_setI ..
    have Vql : Vq.ol = q.2.ol := by rw [hVq]; exact col_setI ..
    have Vqa : Vq.a = q.2.a := by rw [hVq]; exact ca_setI ..
    have jVq := pq.1.2.2.2
    have sxVq := pq.2 nfq
    rw [← hVq] at jVq sxVq
    clear hVq
    have nfVq : Vq.i 32 = 0 := (Vqi 32 (by decide)).trans nfq
    have nVq := (jVq.2 nfVq).2
    have nrq : NR Vq m := by
      have := jVq.1.2.2.2.2.2.2.1.2.2
      rw [Vqc] at this
      exact this
    have rqT : RSQ Vq (vir T) m := fun i _ => ⟨by rw [vTr, Tr, Vqr], fun b _ => ⟨by rw [vTo, To, Vqo], by rw [vTl, Tl, Vql]⟩⟩
    have r0T : RSQ V0 (vir T) m := fun i hi => ⟨by rw [vTr, Tr, qr, Cr, V0r], fun b eb => by
      have ne := inj i b hi (by rw [← V0r]; exact eb)
      exact ⟨by rw [vTo, To, pqo, V0o]; exact (Cb b ne).1, by rw [vTl, Tl, pql, V0l]; exact (Cb b ne).2⟩⟩
    have eaT : (vir T).r 51 m = some a := by rw [vTr, Tr]; exact pq.1.2.1.2.1
    have cT : cnI (vir T) = (m : Int) + 1 := by
      have : cnI (vir T) = cnI w.2 := by unfold cnI; rw [vT 53 (by decide), Tq 53 (by decide) (by decide), qi 53 (by omega), Cw 53 (by decide)]
      omega
    have Foa : (vir T).o a = upd (upd (upd (w.2.o a) 10 n.1) 11 d.1) 9 e.1 := by rw [vTo, To, pqo, Co]
    have F0 : (vir T).o a 0 = 213 := by rw [Foa]; exact o0
    have F2 : (vir T).o a 2 = s.i 38 := by rw [Foa]; exact o2
    have F3 : (vir T).o a 3 = s.i 50 := by rw [Foa]; exact o3
    have F9 : (vir T).o a 9 = e.1 := by rw [Foa]; rfl
    have F10 : (vir T).o a 10 = n.1 := by rw [Foa]; rfl
    have F11 : (vir T).o a 11 = d.1 := by rw [Foa]; rfl
    have q10 : q.2.o a 10 = n.1 := by rw [pqo, Co]; rfl
    have ds := h.ds nf
    have szq : szI q.2 = szI V0 := by unfold szI; rw [qi 20 (by omega), Cw 20 (by decide), V0i 20 (by decide)]
    have sz0 : 0 ≤ szI V0 := gV0.tc0.2
    have szb := (nV0.sz jV0.1.2.2.1 jV0.1.2.2.2.2.2.2.1.1 (by omega) (by omega)).1
    have e1' : (1 : Int32).toInt = 1 := by decide
    have szT : szI (vir T) = szI V0 + 1 := by
      have b : (q.2.i 20).toInt = szI V0 := szq
      show ((vir T).i 20).toInt = _
      rw [vT 20 (by decide), T20, toInt_add] <;> rw [e1'] <;> omega
    have tcT : tcI (vir T) = tcI V0 + 3 := by
      have : tcI (vir T) = tcI C := by unfold tcI; rw [vT 21 (by decide), Tq 21 (by decide) (by decide), qi 21 (by omega)]
      omega
    have g := gV0.try (T := vir T) (a := a) (m := m) ds.2 len V0c.symm m4 cT eaT r0T (by rw [vTa, Ta, b14, qa, qi 20 (by omega), Cwa 15 (by decide), Cw 20 (by decide), V0a, V0i 20 (by decide)]) (by rw [vTa, Ta, b15, qa, qi 20 (by omega), Cwa 16 (by decide), Cw 20 (by decide), V0a, V0i 20 (by decide), F10, q10]) szT tcT (fun k hk => by rw [vTa, Ta, b13 17 (by decide) (by decide), qa, V0a]; exact C17o k (by omega)) (fun k k1 k2 => by rw [vTa, Ta, b13 17 (by decide) (by decide), qa]; exact C17n k (by omega) (by omega)) (by rw [vTa, Ta, b13 19 (by decide) (by decide), qa, Cwa 19 (by decide), V0a]) (by rw [vTa, Ta, b13 49 (by decide) (by decide), qa, Cwa 49 (by decide), V0a]) (by rw [vT 22 (by decide), Tq 22 (by decide) (by decide), qi 22 (by omega), Cw 22 (by decide), V0i 22 (by decide)]) (by rw [vT 50 (by decide), Tq 50 (by decide) (by decide), qi 50 (by omega), Cw 50 (by decide), V0i 50 (by decide)]) F0 (by rw [F2]; exact ds.1) (by rw [F3]; unfold nmI; rw [V0i 50 (by decide), ri 50 (by decide) (by decide)]) (by rw [F10, en, tV0]) (by rw [F11, ed, tV0]) (by rw [F9, ee, tV0]) (by omega)
    -- the numbers
    have plT : plI (vir T) = plI Vq := by unfold plI; rw [vT 44 (by decide), Tq 44 (by decide) (by decide), Vqi 44 (by decide)]
    have eT : eI (vir T) = eI Vq := by unfold eI; rw [plT, vT 43 (by decide), Tq 43 (by decide) (by decide), Vqi 43 (by decide)]
    have sgq : sgI Vq = sgI s := by have := sxVq.2.2.1; omega
    have sgT : sgI (vir T) = sgI s + 1 ∧ sgI s + 1 ≤ 20 := by
      have e34 : (T.i 34).toInt = sgI s := by rw [← sgq]; unfold sgI; rw [Tq 34 (by decide) (by decide), Vqi 34 (by decide)]
      have l := lt_int l20
      rw [show (20 : Int32).toInt = 20 by decide] at l
      have p0 := h0.2.2.2.2.2.2.2.2
      refine ⟨?_, by omega⟩
      show ((vir T).i 34).toInt = _
      rw [show (vir T).i 34 = T.i 34 + 1 from ci_at _ _ _, toInt_add] <;> rw [e1'] <;> omega
    have e0 : cnI s = (m : Int) := by rw [← Vqc]; unfold cnI; rw [sxVq.2.2.2.1.2.1]
    have e0m : (cnI s).toNat = m := by omega
    have rs0 := sxVq.2.2.2.2.2.1
    have nrs := h0.2.1
    have z4 := h0.2.2.2.2.1
    rw [e0m] at rs0 nrs z4
    obtain ⟨i1, i2, i3, i4, i5⟩ := rs0.sums nrs
    obtain ⟨q1, q2, q3, q4, q5⟩ := rqT.put nrq eaT
    have iqV := nVq.2.2.2.2.1
    rw [Vqc] at iqV
    have em' : ((m : Int)).toNat = m := by omega
    rw [em'] at iqV
    obtain ⟨iq, wc⟩ := iqV.pl rqT nrq eaT F0 (by decide)
    have sgr : sgn (vir T) a = 1 := by unfold sgn; rw [F0]; rfl
    have sge : eI s + 3 ≤ eI Vq := by have := sxVq.2.1.2; omega
    have plg : plI s + 2 ≤ plI Vq := by have := sxVq.2.1.1; omega
    have p0 := h0.2.2.2.2.2.2.2.2
    have lenS : (c.length : Int) ≤ SGS s m := by
      have k := sxV0.2.2.2.2.2.1
      rw [e0m] at k
      rw [← (k.sums nrs).2.1]
      exact len
    have z42 := z4.2
    have sgT1 := sgT.1
    have sgT2 := sgT.2
    have nb : NB (x - 200 + 50 + 1) y (1 :: c) (vir T) := by
      refine nVq.row Vqc.symm cT eaT rqT ⟨?_, ?_, ?_, plT, eT⟩ ⟨by rw [q2, i2, sgr]; omega, by omega, by omega⟩ ⟨?_, by show c.length + 1 ≤ 21; omega⟩ iq (by rw [i1] at wc; omega) ?_
      · unfold tcI; rw [vT 21 (by decide), Tq 21 (by decide) (by decide), Vqi 21 (by decide)]
      · unfold ccI; rw [vT 22 (by decide), Tq 22 (by decide) (by decide), Vqi 22 (by decide)]
      · have : szI Vq = szI q.2 := by unfold szI; rw [Vqi 20 (by decide)]
        omega
      · have e38 : (q.2.i 38).toInt = (c.length : Int) := (pq.ds nfq).1
        show ((c.length + 1 : Nat) : Int) = ((vir T).i 38).toInt
        rw [vT 38 (by decide), T38, toInt_add] <;> rw [e1'] <;> omega
      · rw [vT 56 (by decide), Tq 56 (by decide) (by decide), Vqi 56 (by decide)]
    refine ⟨⟨vcb, fun _ => ⟨g, nb.1, nb.2.1, by have := nb.2.2.1; omega, nb.2.2.2⟩⟩, fun _ => ⟨?_, e0.symm, ?_⟩⟩
    · rw [← cT]; unfold cnI; rw [vT 53 (by decide)]
    · have cm1 : (cnI (vir T)).toNat = m + 1 := by omega
      refine ⟨nf, ⟨by omega, by omega⟩, ?_, by omega, ?_, fun k hk => ?_, fun i hi' => ?_, ?_, ?_, ?_, fun _ _ b eb => ?_⟩
      · rw [cm1, q2, i2, sgr, e0m, sgT.1]; omega
      · rw [e0m]; exact rs0.tr rqT
      · have := sxVq.2.2.2.2.2.2.1 k hk
        rw [vTa, Ta, b13 49 (by decide) (by decide), ← Vqa]; exact this
      · have := sxVq.2.2.2.2.2.2.2 i hi'
        rw [vTa, Ta, b13 18 (by decide) (by decide), b13 19 (by decide) (by decide), ← Vqa]; exact this
      · rw [vT 56 (by decide), Tq 56 (by decide) (by decide), ← Vqi 56 (by decide)]; exact sxVq.2.2.2.1.2.2.1
      · rw [vT 22 (by decide), Tq 22 (by decide) (by decide), ← Vqi 22 (by decide)]; exact sxVq.2.2.2.1.2.2.2
      · have e : nmI (vir T) = nmI Vq := by unfold nmI; rw [vT 50 (by decide), Tq 50 (by decide) (by decide), Vqi 50 (by decide)]
        rw [e]; exact sxVq.2.2.2.2.1
      · rw [e0m, eaT] at eb
        cases eb
        rw [F0]; decide
  clear Tq T20 T38 Ta Tr To Tl b1 b2 b3 b4 b5 b6 b7 b8 b9 b10 b11 b12 b13 b14 b15
  refine ok_bind (q_skip hN jw.1 214) (fun g hg => ?_)
  rcases hg with ⟨g1, g2, g3⟩ | ⟨g1, g2, g3⟩
  · rw [if_pos g1, g2]
    exact ok_imp (q_JWopen hN jw) (fun R hR => hR.w (by omega) (Int.le_refl _))
  · rw [g1, if_neg (by decide)]
    have j1 := jw.adv g3 (fun _ => by rw [g2]; decide)
    refine ok_chk (j1.1.1.2.1 m a j1.2.1.2 j1.2.1.1) ?_
    have j2 := j1.fld8
    refine ok_bind (q_openRes hN (by omega) (by omega) j2) (fun u hu => ?_)
    exact ok_imp (q_try106 hN (by omega) (by omega) N u.2 0 (by decide) (by decide) (by rw [z_t0]; omega) hu) (fun R hR => hR.w (by omega) (Int.le_refl _))
