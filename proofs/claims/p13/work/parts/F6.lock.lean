section
/-! reading: lock -/
theorem TBL.i52 (u : RS) (v : Int32) : TBL u (u.setI 52 v) := ⟨fun _ _ => rfl, rfl, fun _ _ h _ _ => if_neg (by omega)⟩
/-- inside a record that is no arms' and no try's -/
theorem EJ.rec {s s1 v W f : RS} {g : Gh} {h o lv : Nat} {rs : List Rec} {r : Rec} (hE : EJ s W f g h o lv rs) (hg : STG v W) (hn : TN v) (hs : cdI s ≤ cdI s1) (hgo : goI W = goI v) (hd : ∀ γ : Nat, (γ : Int) < goI W → (gv W 47 γ).toNat ≤ rs.length) (hk : r.k = 1 ∨ r.k = 2) (ho : r.o = o) : EJ s1 v f g h o lv (r :: rs) := by
  intro γ b k a1 a2 a3
  have hγ : (γ : Int) < goI W := by have := a1.1; omega
  obtain ⟨vt, j1, j2, j3⟩ := JE.stg (lv' := lv) hE hg hn hs (Nat.le_refl _) hγ a1 a2 a3
  have e47 : gv W 47 γ = gv v 47 γ := by unfold gv; rw [(hg.2.2.1 γ hγ).2.1]
  have dl := hd γ hγ
  rw [e47] at dl
  have nl : ¬ rs.length + 1 ≤ (gv v 47 γ).toNat := by omega
  have n4 : ¬ r.k = 4 := by rcases hk with q | q <;> (rw [q]; decide)
  refine ⟨vt, j1, Or.inr ⟨by rcases hk with q | q <;> (rw [q]; decide), fun q => absurd q n4, j2⟩, fun z1 z2 => ?_⟩
  have z3 : arr f g (gv v 47 γ).toNat rs := by
    rcases z2 with q | q
    · exact absurd q nl
    · exact q.2
  obtain ⟨t1, t2, t3⟩ := j3 z1 z3
  refine ⟨t1, t2, fun q => ?_⟩
  obtain ⟨c, d1, d2, d3, d4, d5, d6⟩ := t3 q
  refine ⟨c, d1, d2, ?_, d4, ?_, d6⟩
  · show oA (gv v 47 γ).toNat o (r :: rs) ≤ c.o
    have : oA (gv v 47 γ).toNat o (r :: rs) = oA (gv v 47 γ).toNat r.o rs := if_neg nl
    rw [this, ho]; exact d3
  · have : dA (gv v 47 γ).toNat (r :: rs) = dA (gv v 47 γ).toNat rs := if_neg nl
    rw [this]; exact d5
theorem YE.rec {s V : RS} {rs : List Rec} {r : Rec} (h : YE s rs) (hg : goI V = goI s) (h44 : bel 44 (goI s) s V) (h47 : bel 47 (goI s) s V) (hd : ∀ γ : Nat, (γ : Int) < goI s → (gv s 47 γ).toNat ≤ rs.length) : YE V (r :: rs) := by
  intro γ g1 g2 g3
  have gs : (γ : Int) < goI s := by omega
  have e : gv V 47 γ = gv s 47 γ := by unfold gv; rw [h47 γ gs]
  obtain ⟨y1, r', q, y2, y3, y4⟩ := h γ gs (by rw [← h44 γ gs]; exact g2) ((NOARM.of hg h44 γ).mp g3)
  rw [e]
  refine ⟨y1, r', q, ?_, y3, y4⟩
  have : dA (gv s 47 γ).toNat (r :: rs) = dA (gv s 47 γ).toNat rs := if_neg (by have := hd γ gs; omega)
  rw [this]; exact y2
theorem TS.lock {t : Nat} {s B2 v W : RS} {x : Int32} (hI : INV s) (kB : KP t s B2) (cB : cdI B2 = cdI s + 2) (B21 : B2.a 21 (cdI s).toNat = 1) (B21' : B2.a 21 (cdI s + 1).toNat = 26) (B22' : B2.a 22 (cdI s + 1).toNat = x) (hx8 : 0 ≤ x.toInt ∧ x.toInt < 8) (B38 : B2.i 38 = s.i 38) (dB : deI B2 = deI s + 1) (gB : goI B2 = goI s) (fB : fr s ≤ fr B2) (d250 : deI s + 1 ≤ 250) (ts : TS B2 v) (k2 : KP t B2 v) (i2 : INV v) (s2 : SAME B2 v) (f2 : fr B2 ≤ fr v) (kW : KP t v W) (cW : cdI W = cdI v + 1) (gW : goI W = goI v) (wW : waI W = waI v) (W21 : W.a 21 (cdI v).toNat = 27) (hr : W.i 75 = v.i 75) : TS s W := by
  intro f C hA hC h o lv rs hx hy
  have cs := hI.cd
  have cv := i2.cd
  have fv := i2.1.f0
  have le2 := k2.2.1.1
  have ek1 : ((cdI s + 1).toNat : Int) = cdI s + 1 := Int.toNat_of_nonneg (by omega)
  have ekv : ((cdI v).toNat : Int) = cdI v := Int.toNat_of_nonneg cv.1
  have g2 : goI v = goI B2 := s2.go
  have L2 : LAT noZ B2 v W := (LAT.rf noZ B2 v).kp kW i2.tn (by omega)
  obtain ⟨A2, C2⟩ := L2.use hA hC kB k2
  obtain ⟨x1, x2, x3, x4, x5, x6, x7, x8⟩ := id hx
  have t6 := hI.2.2.2.1.2.2.2.2.2.2.1
  have hd0 : ∀ γ : Nat, (γ : Int) < goI s → (gv s 47 γ).toNat ≤ rs.length := fun γ hγ => by have := t6 γ hγ; omega
  have kg := kB.2.2.2.2.2.2.1
  have kgW := ((kB.tr k2 (Nat.le_refl _)).tr kW (Nat.le_refl _)).2.2.2.2.2.2.1
  have hdW : ∀ γ : Nat, (γ : Int) < goI W → (gv W 47 γ).toNat ≤ rs.length := fun γ hγ => by
    have e : gv W 47 γ = gv s 47 γ := by unfold gv; rw [kgW.2.2.1 γ (by omega)]
    rw [e]; exact hd0 γ (by omega)
  have v52 : v.i 52 = B2.i 52 := s2.2.2.1
  have cxB : CX B2 h o lv ((1, x.toInt.toNat, 0, h, o, lv, false, false) :: rs) := ⟨by show ((rs.length + 1 : Nat) : Int) = deI B2; omega, by omega, by omega, by omega, by show 2 * ((0 + wv rs : Nat) : Int) ≤ fr B2; omega, ⟨Or.inr rfl, x6⟩, by omega, by omega⟩
  have c2 := ts f C A2 C2 h o lv ((1, x.toInt.toNat, 0, h, o, lv, false, false) :: rs) cxB (hy.rec gB kg.2.1 kg.2.2.1 hd0)
  have e26 : W.a 21 (cdI s + 1).toNat = 26 := by rw [kW.2.1.2.1 _ (by omega), k2.2.1.2.1 _ (by omega)]; exact B21'
  have e26x : W.a 22 (cdI s + 1).toNat = x := by rw [kW.2.1.2.2.1 _ (by omega), k2.2.1.2.2.1 _ (by omega)]; exact B22'
  obtain ⟨p1, p2, p3, p4⟩ := hA.cell (k := (cdI s + 1).toNat) (o := 26) (x := x) (by omega) (by omega) e26 e26x (by decide)
  obtain ⟨q1, q2, q3, q4⟩ := hA.cell (k := (cdI v).toNat) (o := 27) (by omega) (by omega) W21 rfl (by decide)
  have rok : ∀ (g : Gh) (k : Nat), recsOK f g k lv rs → recsOK f g k lv ((1, x.toInt.toNat, 0, h, o, lv, false, false) :: rs) := fun g k hk => ⟨⟨show h ≤ 1300 by omega, show o ≤ 450 by omega, Or.inl ⟨rfl, show x.toInt.toNat < 8 by omega⟩⟩, hk⟩
  have env : ∀ g : Gh, ENS s W f h o lv rs g → (v.i 75 = 1 → FL f g lv (cdI v) (cdI v) h o ((1, x.toInt.toNat, 0, h, o, lv, false, false) :: rs)) → ENS B2 v f h o lv ((1, x.toInt.toNat, 0, h, o, lv, false, false) :: rs) g := fun g hE hx' => by
    refine ⟨⟨fun k hk => rok g k (hE.1.1 k (by omega)), (hE.1.mid kB B38 (by omega) : ENB B2 v f g lv rs).2⟩, hx', ?_⟩
    exact hE.2.2.rec (STG.kp kW gW wW) i2.tn (by omega) gW hdW (Or.inl rfl) rfl
  have X : COD f C (cdI B2) h o lv ((1, x.toInt.toNat, 0, h, o, lv, false, false) :: rs) (ENS s W f h o lv rs) := by
    by_cases cr : v.i 75 = 1
    · have cJ : COD f C (cdI v).toNat h o lv ((1, x.toInt.toNat, 0, h, o, lv, false, false) :: rs) (ENS s W f h o lv rs) := by
        have cxv : CX v h o lv ((1, x.toInt.toNat, 0, h, o, lv, false, false) :: rs) := cxB.up h v52 f2 (by omega) (by omega)
        refine COD.ins cxv q4 (fun g _ hE => ⟨?_, rok g _ (hE.1.1 _ (by omega))⟩)
        have hF2 : FL f g lv (((cdI v).toNat : Int) + 1) (((cdI v).toNat : Int) + 1) h o rs := by
          have := hE.2.1 (hr.trans cr)
          rw [cW] at this
          rw [ekv]; exact this
        exact okJ_27 (c := (h, o, lv, false, (1, x.toInt.toNat, 0, h, o, lv, false, false) :: rs)) q1 ⟨_, rs, rfl, rfl, hF2⟩
      exact COD.seq c2 cJ (fun g _ hE => hE) (fun g _ hE hF => env g hE (fun _ => by rw [ekv] at hF; exact hF))
    · exact c2.imp (fun g _ hE => env g hE (fun q => absurd q cr))
  have ct : COD f C (cdI s + 1).toNat h o lv rs (ENS s W f h o lv rs) := by
    have c26 : COD f C (cdI s + 1).toNat h o lv rs (fun g => ENS s W f h o lv rs g ∧ FL f g lv (cdI B2) (cdI B2) h o ((1, x.toInt.toNat, 0, h, o, lv, false, false) :: rs)) := by
      refine COD.ins hx p4 (fun g _ hE => ⟨?_, hE.1.1.1 _ (by omega)⟩)
      have hF1 : FL f g lv (((cdI s + 1).toNat : Int) + 1) (((cdI s + 1).toNat : Int) + 1) h o ((1, x.toInt.toNat, 0, h, o, lv, false, false) :: rs) := by
        have := hE.2
        rw [cB] at this
        have e : (((cdI s + 1).toNat : Int) + 1) = cdI s + 2 := by omega
        rw [e]; exact this
      refine okJ_26 (c := (h, o, lv, false, rs)) p1 ⟨by rw [p2]; exact hx8.1, by rw [p2]; exact hx8.2, ?_⟩
      rw [p2]
      exact hF1
    exact COD.seq c26 X (fun g _ hE => hE) (fun g _ hE hF => ⟨hE, hF⟩)
  rw [ek1] at ct
  refine COD.step hA hx cs.1 (by omega) ?_ (fun g _ hE => hE.1.1) ct
  rw [kW.2.1.2.1 _ (by omega), k2.2.1.2.1 _ (by omega)]
  exact B21
/-- a throw of its own: what follows is never reached -/
theorem TS.raise {s W : RS} (hI : INV s) (cW : cdI s + 2 ≤ cdI W) (e0 : W.a 21 (cdI s).toNat = 1) (e21 : W.a 21 (cdI s + 1).toNat = 20) (e22 : W.a 22 (cdI s + 1).toNat = 1) (i3 : 4 ≤ (W.i 3).toInt) : TS s W := by
  intro f C hA hC h o lv rs hx hy
  have cs := hI.cd
  have ek : ((cdI s + 1).toNat : Int) = cdI s + 1 := Int.toNat_of_nonneg (by omega)
  obtain ⟨g1, g2, g3, g4⟩ := hA.cell (k := (cdI s + 1).toNat) (o := 20) (x := 1) (by omega) (by omega) e21 e22 (by decide)
  have e1 : (1 : Int32).toInt = 1 := by decide
  have hi3 := hA.2.2.2.1
  have c3 : COD f C (cdI s + 1).toNat h o lv rs (ENS s W f h o lv rs) := COD.ins hx g4 (fun g hg' hE => ⟨okJ_20 (c := (h, o, lv, false, rs)) g1 (by show gv f 22 (cdI s + 1).toNat < (f.i 3).toInt; rw [g2, e1]; omega), hE.1.1 _ (by omega)⟩)
  rw [ek] at c3
  exact COD.step hA hx cs.1 (by omega) e0 (fun g _ hE => hE.1.1) c3
end
section
/-! reading: lock: its frame -/
theorem FS'.i52 {s u : RS} (h : FS' s u) (v : Int32) : FS' s (u.setI 52 v) := ⟨h.1, ⟨fun j hj => (if_neg (by omega)).trans (h.2.1.1 j hj), h.2.1.2⟩, h.2.2⟩
theorem LK94f {N : Nat} (hN : 1000 ≤ N) {n : Nat} {s X : RS} {t : Nat} {P : RS → Prop} (h9 : t < 998) (n1 : 1 ≤ n) (hF : ∀ u, FS' s u → P u) (hl : LXI X) (h15 : ¬ X.i 15 = 0) (hk : K1 s X) (tp : tpI X = t) (h75 : X.i 75 = 0 ∨ X.i 75 = 1) : ok ((f_X12_lock_94 N X).bind fun p => f_X12_parse_10 N n p) P := by
  unfold f_X12_lock_94
  obtain ⟨w, ew, x1, x2, x3⟩ := p_sh hN hl 41 (by decide)
  rw [ew]
  have w15 : ¬ w.2.i 15 = 0 := fun z => h15 (x1.2.2.2.2.1 z)
  show ok (((f_X12_then N (w.2.setI 52 (w.2.i 52 + 1)) 1 3).bind fun p => some p).bind fun p => f_X12_parse_10 N n p) P
  rw [p_th 1 3 (u := w.2.setI 52 (w.2.i 52 + 1)) (x1.tp.trans tp) (by omega)]
  exact lp_f (u := TH (w.2.setI 52 (w.2.i 52 + 1)) t 1 3) w15 (hF _ (FS'.th ((FS'.of hk x1 w15 h75).i52 _))) n1
theorem run_lock {N b : Nat} (hN : 1000 ≤ N) (hbk : 1 ≤ b → RUNB N (b - 1)) : RUNU N b 13 (fun x => x = 422) := by
  intro n s u t P hI hp ht hu tu u15 hT hz h9 hb hc hn n1 hF hC
  have hf := hI.1.f0
  have cs := hI.cd
  have hpl : PRL s := hp.prl (by rw [hT]; decide)
  refine lp_13 tu (by omega) u15 hu.2.2.2.2.2.2.1 ?_
  unfold f_X12_lock
  rw [if_pos (tp_ib tu (by omega)), tp_nat tu, if_pos hu.2.2.2.2.2.2.2.1]
  obtain ⟨R, eR, hR, xR⟩ := STA hN hI ht hz hu
  have mR := hR.mm
  obtain ⟨r1, r2, r3, r4, r5, r6, r7, r8, r9, r10, r11, r12, r13, r14⟩ := hR
  have r13 := r13 (by rw [hT]; decide)
  rw [eR]
  obtain ⟨p, ep, hpp⟩ := OPO (t := t) hN r1 40 (by decide)
  show ok (((f_X12_open N R 40).bind fun p7 => (if (p7.2.i 10) = 3 then (f_X12_can N p7.2 1).bind fun p10 => (if p10.1 = 0 then f_X12_lock_94 N p10.2 else f_X12_lock_50 N p10.2) else (if (p7.2.i 10) = 434 then (f_X12_can N p7.2 1).bind fun p30 => (if p30.1 = 0 then f_X12_lock_94 N p30.2 else f_X12_lock_50 N p30.2) else (f_X12_can N p7.2 0).bind fun p27 => (if p27.1 = 0 then f_X12_lock_94 N p27.2 else f_X12_lock_50 N p27.2)))).bind fun p => f_X12_parse_10 N n p) P
  rw [ep]
  obtain ⟨A, hA⟩ : ∃ A, A = p.2 := ⟨_, rfl⟩
  show ok ((if (p.2.i 10) = 3 then (f_X12_can N p.2 1).bind fun p10 => (if p10.1 = 0 then f_X12_lock_94 N p10.2 else f_X12_lock_50 N p10.2) else (if (p.2.i 10) = 434 then (f_X12_can N p.2 1).bind fun p30 => (if p30.1 = 0 then f_X12_lock_94 N p30.2 else f_X12_lock_50 N p30.2) else (f_X12_can N p.2 0).bind fun p27 => (if p27.1 = 0 then f_X12_lock_94 N p27.2 else f_X12_lock_50 N p27.2)) : Option RS).bind fun p => f_X12_parse_10 N n p) P
  rw [← hA] at hpp ⊢
  clear hA
  have xA : LX R A := by rcases hpp with ⟨-, q, -⟩ | q; exact q; exact q.2.2.2.2.2.2.2.2.2.2.2.2.2
  have bad : ∀ X : RS, LX A X → ¬ X.i 15 = 0 → ok ((f_X12_lock_94 N X).bind fun p => f_X12_parse_10 N n p) P := fun X h1 h2 => LK94f hN h9 n1 hF h1.2.2.2.1 h2 ((r3.lx xA).lx h1).1.1 (h1.tp.trans (xA.tp.trans r2)) (by rw [h1.2.2.1 75 (by omega) (by omega), xA.2.2.1 75 (by omega) (by omega)]; exact r1.r)
  have cn : ∀ x : Int32, (A.i 15 = 0 → ¬ x = 0 → ok ((f_X12_lock_50 N A).bind fun p => f_X12_parse_10 N n p) P) → ok (((f_X12_can N A x).bind fun p10 => (if p10.1 = 0 then f_X12_lock_94 N p10.2 else f_X12_lock_50 N p10.2) : Option RS).bind fun p => f_X12_parse_10 N n p) P := fun x hgo => by
    obtain ⟨c, ec, c1, c2, c3⟩ := p_cn (N := N) xA.2.2.2.1 x
    rw [ec]
    show ok ((if c.1 = 0 then f_X12_lock_94 N c.2 else f_X12_lock_50 N c.2 : Option RS).bind fun p => f_X12_parse_10 N n p) P
    rcases c3 with ⟨c3, c4⟩ | ⟨c3, c4, c5, c6⟩
    · rw [if_pos c3]; exact bad _ c1 c4
    · rw [if_neg (by rw [c3]; decide), c4]; exact hgo c5 c6
  have good : A.i 15 = 0 → (A.i 10 = 3 ∨ A.i 10 = 434) → ok ((f_X12_lock_50 N A).bind fun p => f_X12_parse_10 N n p) P := by
    intro a15 atok
    rcases hpp with ⟨q, -, -⟩ | ⟨-, -, -, q1, q2, q3, q4, q5, q6, q7, q8, q9, q10, -⟩
    · exact absurd a15 q
    have cA := q1.cd
    have ksA : KP t s A := r3.tr q3 (Nat.le_refl _)
    have ecA : cdI A = cdI s + 1 := q4.cd.trans r9
    have main : ∀ o9 x9 : Int32, (o9 = 26 ∧ 0 ≤ x9.toInt ∧ x9.toInt < 8 ∨ o9 = 20 ∧ x9 = 1) → ok (((f_X12_emit N A o9 x9).bind fun p24 => f_X12_lock_90 N p24.2).bind fun p => f_X12_parse_10 N n p) P := by
      intro o9 x9 ho
      rw [p_em o9 x9 cA.1 cA.2.2]
      obtain ⟨E, hE⟩ : ∃ E, E = EM A o9 x9 := ⟨_, rfl⟩
      have lE : LXI E := by rw [hE]; exact LXI.em q1.1
      have kE : KP t s E := by rw [hE]; exact ksA.em cs.1 cA.2.2
      have tE : TAB E := by rw [hE]; exact q1.2.2.2.1.em cA.1 cA.2.2
      have iE : ∀ j : Nat, j ≠ 20 → E.i j = A.i j := fun j hj => by rw [hE]; exact EM.i hj
      have aE : ∀ k : Nat, k ≠ 21 → k ≠ 22 → k ≠ 23 → E.a k = A.a k := fun k h1 h2 h3 => by rw [hE]; exact EM.a h1 h2 h3
      have cE : cdI E = cdI s + 2 := by rw [hE, EM.cd cA.1 cA.2.2]; omega
      have E21 : ∀ j : Nat, E.a 21 j = if j = (cdI A).toNat then o9 else A.a 21 j := fun j => by rw [hE]; exact EM.a21 j
      have E22 : E.a 22 (cdI A).toNat = x9 := by rw [hE, EM.a22, if_pos rfl]
      show ok ((f_X12_lock_90 N (EM A o9 x9)).bind fun p => f_X12_parse_10 N n p) P
      rw [← hE]
      clear hE
      unfold f_X12_lock_90
      obtain ⟨B, eB, y1, y2, y3, y4⟩ := p_nx hN lE
      rw [eB]
      obtain ⟨b15, bc⟩ := y4 ((iE 15 (by decide)).trans a15)
      obtain ⟨c1, c2, c3⟩ := bc (by rw [iE 10 (by decide)]; rcases atok with h | h <;> (rw [h]; decide))
      have fE : fr E = fr A := by unfold fr; rw [iE 11 (by decide)]
      have tkE : tkI E = tkI A := by unfold tkI; rw [iE 17 (by decide)]
      have ta := q1.tk
      have tb := tk_add c1 ⟨by omega, by have := q1.1.f0; omega⟩
      show ok ((f_X12_lock_94 N B).bind fun p => f_X12_parse_10 N n p) P
      unfold f_X12_lock_94
      obtain ⟨w0, ew, z1, z2, z3⟩ := p_sh hN y1.2.2.2.1 41 (by decide)
      rw [ew]
      obtain ⟨w, hw⟩ : ∃ w, w = w0.2 := ⟨_, rfl⟩
      show ok (((f_X12_then N (w0.2.setI 52 (w0.2.i 52 + 1)) 1 3).bind fun p => some p).bind fun p => f_X12_parse_10 N n p) P
      rw [← hw] at z1 z2 z3 ⊢
      clear hw ew
      have kw : KP t s w := (kE.lx y1).lx z1
      have iwE : ∀ j : Nat, (j < 10 ∨ 18 ≤ j) → j ≠ 19 → w.i j = E.i j := fun j h1 h2 => (z1.2.2.1 j h1 h2).trans (y1.2.2.1 j h1 h2)
      have tpw : tpI w = t := by
        unfold tpI
        rw [iwE 63 (by omega) (by decide), iE 63 (by decide), xA.i63]
        exact r2
      obtain ⟨U, hU⟩ : ∃ U, U = w.setI 52 (w.i 52 + 1) := ⟨_, rfl⟩
      have iU : ∀ j : Nat, j ≠ 52 → U.i j = w.i j := fun j hj => by rw [hU]; exact if_neg hj
      have U52 : U.i 52 = w.i 52 + 1 := by rw [hU]; rfl
      have aU : U.a = w.a := by rw [hU]; rfl
      have kU : KP t s U := by rw [hU]; exact kw.i52 _
      have tbU : TBL w U := by rw [hU]; exact TBL.i52 w _
      have lU : LXI U := by rw [hU]; exact z1.2.2.2.1
      have fU : fr U = fr w := by unfold fr; rw [iU 11 (by decide)]
      have tpU : tpI U = t := by unfold tpI at *; rw [iU 63 (by decide)]; exact tpw
      rw [← hU]
      rw [p_th 1 3 tpU (by omega)]
      show ok (f_X12_parse_10 N n (TH U t 1 3)) P
      rcases z2 with ⟨-, z2⟩ | ⟨-, z2⟩
      · refine lp_f (u := TH U t 1 3) (show ¬ U.i 15 = 0 by rw [iU 15 (by decide)]; exact z2) (hF _ (FS'.th ?_)) n1
        rw [hU]
        exact (FS'.of (kE.lx y1).1.1 z1 z2 (by rw [y1.2.2.1 75 (by omega) (by omega), iE 75 (by decide)]; exact q1.r)).i52 _
      clear hU
      obtain ⟨s1, ⟨s2, s3, s4⟩, s5⟩ := z3 z2
      have tkw := tk_add s2 ⟨by omega, by have := y1.2.2.2.1.f0; omega⟩
      have ssw : SAME s w := by
        refine ⟨?_, ?_, ?_, ?_⟩
        · rw [s5, y2, iE 19 (by decide), q5, Int32.add_sub_cancel]; exact r4.1
        · rw [iwE 43 (by omega) (by decide), iE 43 (by decide), xA.2.2.1 43 (by omega) (by omega)]; exact r4.2.1
        · rw [iwE 52 (by omega) (by decide), iE 52 (by decide), xA.2.2.1 52 (by omega) (by omega)]; exact r4.2.2.1
        · rw [iwE 56 (by omega) (by decide), iE 56 (by decide), xA.2.2.1 56 (by omega) (by omega)]; exact r4.2.2.2
      have e38w : w.i 38 = s.i 38 := by rw [iwE 38 (by omega) (by decide), iE 38 (by decide), xA.i38]; exact r5
      have ecw : cdI w = cdI s + 2 := by rw [z1.tbl.cd, y1.tbl.cd]; exact cE
      have rtw : RATE s w := by
        have t1 := z1.tbl
        have t2 := y1.tbl
        have f2 : enI E = enI A := by unfold enI; rw [iE 24 (by decide)]
        have f3 : trI E = trI A := by unfold trI; rw [iE 29 (by decide)]
        have f4 : caI E = caI A := by unfold caI; rw [iE 33 (by decide)]
        have f5 : slI E = slI A := by unfold slI; rw [iE 42 (by decide)]
        have f6 : peI E = peI A := by unfold peI; rw [iE 59 (by decide)]
        have g2 := q4.en
        have g3 := q4.tt
        have g4 := q4.ca
        have g5 := q4.sl
        have g6 := q4.pe
        unfold RATE at r6 ⊢
        rw [t1.en, t1.tt, t1.ca, t1.sl, t1.pe, t2.en, t2.tt, t2.ca, t2.sl, t2.pe, ecw]
        omega
      have iw : INV w := hI.mkS kw z1.2.2.2.1 z2 ((tE.lx y1).lx z1) ssw (SNW.eq e38w kw.2.2.2.2.2.1.2.1) rtw (by omega) (by omega)
      have dw : deI w = deI s := ssw.de
      have dU : deI U = deI s + 1 := by
        have e1 : (1 : Int32).toInt = 1 := by decide
        have hh : 0 ≤ deI s ∧ deI s ≤ 300 := by have := hI.2.2.2.2.2.2.2.2.2.2.2.2.1; have := hI.op; omega
        have dw' : (w.i 52).toInt = deI s := dw
        unfold deI
        rw [U52, toInt_add] <;> rw [e1] <;> (unfold deI at *; omega)
      have ns := hI.2.2.2.2
      have iUV : INV U := by
        refine ⟨lU, hI.2.1.kp kU, (iU 15 (by decide)).trans z2, iw.2.2.2.1.tbl tbU (fun γ hγ => by have := (iw.2.2.2.1.2.2.2.2.2.2.1 γ hγ).2; omega) (by rw [iU 75 (by decide)]; exact iw.r), ?_⟩
        have nw := iw.2.2.2.2
        have ow : op w = op s := ssw.eOp
        have e12 : op U = op w := by unfold op; rw [iU 19 (by decide)]
        have e13 : tkI U = tkI w := by unfold tkI; rw [iU 17 (by decide)]
        unfold NUM at nw ns ⊢
        rw [tbU.cd, tbU.en, tbU.tt, tbU.ca, tbU.se, tbU.sl, tbU.go, tbU.wa, tbU.pe, fU, e12, e13, dU]
        omega
      have gU : goI U = goI s := by rw [tbU.go]; exact ssw.go
      have oU : op U = op s := by
        have e12 : op U = op w := by unfold op; rw [iU 19 (by decide)]
        have := ssw.eOp
        omega
      have fUf := iUV.1.f0
      refine CALLB (hbk (by omega)) iUV (hpl.kp kU gU) tpU (by omega) (by omega) (by omega) (by omega) (fun u hu => hF u (FS'.kp kU hu)) (fun m v hv hfv hm => ?_)
      obtain ⟨v1, v2, v3, v4, v5, v6, v7, v8, v9, v10, v11⟩ := hv
      have fv := v1.1.f0
      have cv := v1.cd
      obtain ⟨m3, rfl⟩ : ∃ m3, m = m3 + 1 := ⟨m - 1, by omega⟩
      have push3 : ((m3 + 1 : Nat) : Int) = (m3 : Int) + 1 := by omega
      rw [push3] at hm
      refine lp_13 v2 (by omega) v1.2.2.1 ?_ ?_
      · rw [v11 64 (by omega) (by omega) (by omega), aU, z1.1, y1.1, aE 64 (by decide) (by decide) (by decide), q10]; exact r11
      unfold f_X12_lock
      rw [if_pos (tp_ib v2 (by omega)), tp_nat v2, if_neg (by rw [v10]; decide), p_em 27 0 cv.1 cv.2.2]
      obtain ⟨G, hG⟩ : ∃ G, G = EM v 27 0 := ⟨_, rfl⟩
      have kG : KP t v G := by rw [hG]; exact (KP.rf t v).em cv.1 cv.2.2
      have tG : TAB G := by rw [hG]; exact v1.2.2.2.1.em cv.1 cv.2.2
      have lG : LXI G := by rw [hG]; exact LXI.em v1.1
      have iG : ∀ j : Nat, j ≠ 20 → G.i j = v.i j := fun j hj => by rw [hG]; exact EM.i hj
      have cG : cdI G = cdI v + 1 := by rw [hG]; exact EM.cd cv.1 cv.2.2
      have G21 : G.a 21 (cdI v).toNat = 27 := by rw [hG, EM.a21, if_pos rfl]
      show ok (f_X12_parse_10 N m3 (((EM v 27 0).setI 52 ((EM v 27 0).i 52 - 1)).setI 63 ((EM v 27 0).i 63 - 1))) P
      rw [← hG]
      clear hG
      obtain ⟨W, hW⟩ : ∃ W, W = (G.setI 52 (G.i 52 - 1)).setI 63 (G.i 63 - 1) := ⟨_, rfl⟩
      have kGW : KP t G W := by rw [hW]; exact ((KP.rf t G).i52 _).i63 _
      have tbW : TBL G W := by rw [hW]; exact (TBL.i52 G _).tr (TBL.i63 _ _)
      have iW : ∀ j : Nat, j ≠ 52 → j ≠ 63 → W.i j = G.i j := fun j h1 h2 => by rw [hW]; exact (if_neg h2).trans (if_neg h1)
      have W52 : W.i 52 = s.i 52 := by
        have e : W.i 52 = G.i 52 - 1 := by rw [hW]; rfl
        rw [e, iG 52 (by decide), v4.2.2.1, U52, Int32.add_sub_cancel]
        exact ssw.2.2.1
      have tpW : tpI W = (t : Int) - 1 := by
        have e : W.i 63 = v.i 63 - 1 := by rw [hW]; show G.i 63 - 1 = _; rw [iG 63 (by decide)]
        unfold tpI
        rw [e]
        exact tp_sub v2 (by omega)
      have lW : LXI W := by rw [hW]; exact lG
      rw [← hW]
      clear hW
      have kvW : KP t v W := kG.tr kGW (Nat.le_refl _)
      have ksv : KP t s v := kU.tr v3 (Nat.le_refl _)
      have ksW : KP t s W := ksv.tr kvW (Nat.le_refl _)
      have iWv : ∀ j : Nat, j ≠ 20 → j ≠ 52 → j ≠ 63 → W.i j = v.i j := fun j h1 h2 h3 => (iW j h2 h3).trans (iG j h1)
      have smW : SAME s W := by
        refine ⟨?_, ?_, W52, ?_⟩
        · rw [iWv 19 (by decide) (by decide) (by decide), v4.1, iU 19 (by decide)]; exact ssw.1
        · rw [iWv 43 (by decide) (by decide) (by decide), v4.2.1, iU 43 (by decide)]; exact ssw.2.1
        · rw [iWv 56 (by decide) (by decide) (by decide), v4.2.2.2, iU 56 (by decide)]; exact ssw.2.2.2
      have cW : cdI W = cdI v + 1 := by rw [tbW.cd]; exact cG
      have cU : cdI U = cdI s + 2 := by rw [tbU.cd]; exact ecw
      have fW : fr W = fr v := by unfold fr; rw [iWv 11 (by decide) (by decide) (by decide)]
      have tkW : tkI W = tkI v := by unfold tkI; rw [iWv 17 (by decide) (by decide) (by decide)]
      have rU : RATE s U := rtw.tr (tbU.rate (by omega) (by have : tkI U = tkI w := by { unfold tkI; rw [iU 17 (by decide)] }; omega))
      have tkU : tkI U = tkI w := by unfold tkI; rw [iU 17 (by decide)]
      have rW : RATE s W := by
        have f2 : enI W = enI v := by unfold enI; rw [iWv 24 (by decide) (by decide) (by decide)]
        have f3 : trI W = trI v := by unfold trI; rw [iWv 29 (by decide) (by decide) (by decide)]
        have f4 : caI W = caI v := by unfold caI; rw [iWv 33 (by decide) (by decide) (by decide)]
        have f5 : slI W = slI v := by unfold slI; rw [iWv 42 (by decide) (by decide) (by decide)]
        have f6 : peI W = peI v := by unfold peI; rw [iWv 59 (by decide) (by decide) (by decide)]
        unfold RATE at rU v5 ⊢
        rw [cW, f2, f3, f4, f5, f6, fW, tkW]
        omega
      have snU : SNW s U := SNW.eq ((iU 38 (by decide)).trans e38w) kU.2.2.2.2.2.1.2.1
      have snv : SNW s v := snU.tr v6 kU v3
      have seW : seI W = seI v := by unfold seI; rw [iWv 38 (by decide) (by decide) (by decide)]
      have slW : slI W = slI v := by unfold slI; rw [iWv 42 (by decide) (by decide) (by decide)]
      have snW : SNW s W := by
        refine ⟨by have := snv.1; omega, fun y h1 h2 => ?_⟩
        have e : gv W 40 y = gv v 40 y := by
          have ks := kvW.2.2.2.2.2.1
          unfold gv; rw [ks.2.2.1 y (by omega)]
        rw [e]
        exact snv.2 y h1 (by omega)
      have kg := ksv.2.2.2.2.2.2.1
      have gv' : goI v = goI s := by have := v4.go; omega
      have tW : TAB W := tG.tbl tbW (fun γ hγ => by
        have hγ' : (γ : Int) < goI s := by have : goI G = goI v := by { unfold goI; rw [iG 43 (by decide)] }; omega
        have e : gv G 47 γ = gv s 47 γ := by
          have kgG := (ksv.tr kG (Nat.le_refl _)).2.2.2.2.2.2.1
          unfold gv; rw [kgG.2.2.1 γ hγ']
        have := (hI.2.2.2.1.2.2.2.2.2.2.1 γ hγ').2
        have : deI W = deI s := smW.de
        omega) (by rw [iWv 75 (by decide) (by decide) (by decide)]; exact v1.r)
      have i15W : W.i 15 = 0 := (iWv 15 (by decide) (by decide) (by decide)).trans v1.2.2.1
      refine hC m3 W ⟨hI.mkS ksW lW i15W tW smW snW rW (by omega) (by omega), tpW, ksW, smW, rW, snW, by omega, by omega, fun z => ?_⟩ (by omega) (by omega)
      have z1' : ¬ 0 ≤ v.i 18 := fun q => z (by rw [iWv 18 (by decide) (by decide) (by decide)]; exact q)
      have U21 : ∀ j : Nat, U.a 21 j = E.a 21 j := fun j => by rw [aU, z1.1, y1.1]
      have ekA : (cdI s + 1).toNat = (cdI A).toNat := by rw [ecA]
      have Us : U.a 21 (cdI s).toNat = 1 := by rw [U21, E21, if_neg (by omega), q10]; exact r10
      have U1 : U.a 21 (cdI s + 1).toNat = o9 := by rw [U21, E21, if_pos ekA]
      have U2 : U.a 22 (cdI s + 1).toNat = x9 := by rw [aU, z1.1, y1.1, ekA]; exact E22
      have le3 := v3.2.1.1
      have W21 : W.a 21 (cdI v).toNat = 27 := by rw [tbW.1 21 (by omega)]; exact G21
      rcases ho with ⟨rfl, h1, h2⟩ | ⟨rfl, rfl⟩
      · exact TS.lock hI kU cU Us U1 U2 ⟨h1, h2⟩ ((iU 38 (by decide)).trans e38w) dU gU (by omega) (by have := hI.2.2.2.2.2.2.2.2.2.2.2.2.1; have := hI.op; omega) (v9 z1') v3 v1 v4 (by omega) kvW cW (by have := smW.go; omega) (by unfold waI; rw [iWv 56 (by decide) (by decide) (by decide)]) W21 (iWv 75 (by decide) (by decide) (by decide))
      · refine TS.raise hI (by omega) ?_ ?_ ?_ ?_
        · rw [kvW.2.1.2.1 _ (by omega), v3.2.1.2.1 _ (by omega)]; exact Us
        · rw [kvW.2.1.2.1 _ (by omega), v3.2.1.2.1 _ (by omega)]; exact U1
        · rw [kvW.2.1.2.2.1 _ (by omega), v3.2.1.2.2.1 _ (by omega)]; exact U2
        · rw [ksW.1.1.1 3 (by omega)]
          have := le_int hI.2.1.2.1.1
          have e4 : (4 : Int32).toInt = 4 := by decide
          omega
    unfold f_X12_lock_50
    by_cases c : A.i 10 = 434
    · rw [if_pos c]
      exact main 20 1 (Or.inr ⟨rfl, rfl⟩)
    · rw [if_neg c]
      have c3 : A.i 10 = 3 := by
        rcases atok with h | h
        · exact h
        · exact absurd h c
      obtain ⟨h1, h2⟩ := q1.1.2.2.2.2.2.1 (Or.inl c3)
      have h1 := le_int h1
      have h2 := le_int h2
      rw [z_t0] at h1
      have e7 : (7 : Int32).toInt = 7 := by decide
      exact main 26 (A.i 14) (Or.inl ⟨rfl, by omega, by omega⟩)
  by_cases c3 : A.i 10 = 3
  · rw [if_pos c3]; exact cn 1 (fun h _ => good h (Or.inl c3))
  rw [if_neg c3]
  by_cases c4 : A.i 10 = 434
  · rw [if_pos c4]; exact cn 1 (fun h _ => good h (Or.inr c4))
  rw [if_neg c4]
  exact cn 0 (fun _ h => absurd rfl h)
end
section
/-! reading: do: typing -/
theorem CODS.pn {s f : RS} {C : Nat → Bool} {k h o v : Nat} {rs : List Rec} {E : Gh → Prop} (hc : CX s h o v rs) (hc2 : CX s (h + 1) o v rs) (hk : (k : Int) + 1 < cdI f) (h21 : gv f 21 k = 2) (h22 : gv f 22 k = 1) (j21 : gv f 21 (k + 1) = 14) (hE : ∀ g : Gh, g.isC = C → E g → recsOK f g k v rs ∧ recsOK f g (k + 1) v rs ∧ FL f g v ((k : Int) + 2) (gv f 22 (k + 1)) h o rs) : CODS f C k h o v rs E := by
  refine ⟨fun k' c => (k' = k ∧ c = (h, o, v, false, rs)) ∨ (k' = k + 1 ∧ c = (h + 1, o, v, true, rs)), ⟨by omega, by omega, (h, o, v, false, rs), Or.inl ⟨Int.toNat_natCast k, rfl⟩, rfl, Nat.le_refl _, rfl, rfl, Nat.le_refl _⟩, fun g h1 h2 h3 k' c q => ?_⟩
  obtain ⟨p1, p2, p3⟩ := hE g h1 h3
  rcases q with ⟨rfl, rfl⟩ | ⟨rfl, rfl⟩
  · refine hc.good (fun q => by cases q) (okJ_2 (c := (h, o, v, false, rs)) h21 ?_) p1
    exact ⟨by omega, fun _ => ⟨(h + 1, o, v, true, rs), h2 _ _ (Or.inr ⟨rfl, rfl⟩), rfl, Nat.le_refl _, fun _ => h22, rfl, Nat.le_refl _⟩⟩
  · have e : (((k + 1 : Nat) : Int) + 1) = (k : Int) + 2 := by omega
    refine hc2.good (fun _ => by omega) (okJ_14 (c := (h + 1, o, v, true, rs)) j21 ⟨by show 1 ≤ h + 1; omega, ?_, (fun q => (by cases q))⟩) p2
    show FL f g v (((k + 1 : Nat) : Int) + 1) (gv f 22 (k + 1)) h o rs
    rw [e]
    exact p3
theorem EJ.doo {s B2 v2 W f : RS} {g : Gh} {h o lv : Nat} {rs : List Rec} {γ0 : Nat} {xc xb : Int} (hE : EJ s W f g h o lv rs) (stg : STG v2 W) (gW : goI W = γ0) (gV : goI v2 = (γ0 : Int) + 1) (ht : TAB v2) (hsite : ∀ (b : Bool) (k : Nat), SITE s v2 γ0 b k → gv f 22 k = if b = true then xb else xc) (hs : cdI s ≤ cdI B2) (hd : (gv v2 47 γ0).toNat = rs.length) (hw : ∀ w : Nat, (w : Int) < waI v2 → gv v2 58 w ≤ γ0) (hxc : cdI v2 ≤ xc) (hc : v2.a 51 γ0 = 1 → FL f g (lv + 1) xc xc h o rs) (hb : v2.a 50 γ0 = 1 → FL f g lv xb xb h o rs) : EJ B2 v2 f g h o (lv + 1) rs := by
  intro γ b k a1 a2 a3
  by_cases e : γ = γ0
  · subst e
    have hs' : SITE s v2 γ b k := ⟨by have := a3.1; omega, a3.2⟩
    have ef := hsite b k hs'
    cases b
    · rw [if_neg (by decide)] at ef
      exact JE.mk2 hxc ef hd (fun q => hc (q.top ht hw))
    · rw [if_pos rfl] at ef
      exact JE.mk (by omega) ef hd (fun q => hb (q.top ht hw))
  · exact JE.stg hE stg ht.1.1 hs (by omega) (by have := a1.1; omega) a1 a2 a3
theorem TS.doo {t : Nat} {s B2 v2 A v3 W : RS} {xk : Int32} {γ0 : Nat} {jt : Prop} (hI : INV s) (kB : KP t s B2) (cB : cdI B2 = cdI s + 2) (B21 : B2.a 21 (cdI s).toNat = 1) (B21' : B2.a 21 (cdI s + 1).toNat = 1) (B38 : B2.i 38 = s.i 38) (B52 : B2.i 52 = s.i 52) (fB : fr s + 1 ≤ fr B2) (g0 : (γ0 : Int) = goI s) (gB : goI B2 = goI s + 1) (B44 : B2.a 44 γ0 = 0) (B47 : gv B2 47 γ0 = deI s) (ts : TS B2 v2) (k2 : KP t B2 v2) (i2 : INV v2) (s2 : SAME B2 v2) (n2 : SNW s v2) (f2 : fr B2 ≤ fr v2) (kA : KP t s A) (cA : cdI A = cdI v2) (A52 : A.i 52 = s.i 52) (fA : fr v2 ≤ fr A) (eA : seI A = seI v2 ∧ bel 40 (seI v2) v2 A ∧ bel 41 (seI v2) v2 A) (te : ¬ jt → TE A v3) (hjt : jt → cdI v3 = cdI A + 1 ∧ v3.a 21 (cdI A).toNat = 2 ∧ v3.a 22 (cdI A).toNat = 1) (k3 : KP t A v3) (i3 : INV v3) (d3 : v3.i 52 = s.i 52) (f3 : fr A + 1 ≤ fr v3) (cW : cdI W = cdI v3 + 1) (W14 : W.a 21 (cdI v3).toNat = 14) (Wx : W.a 22 (cdI v3).toNat = xk) (hxk : xk.toInt = cdI s + 1) (w21 : ∀ k : Nat, (k : Int) < cdI v3 → W.a 21 k = v3.a 21 k) (w22 : cdI v3 = cdI A + 1 → W.a 22 (cdI A).toNat = v3.a 22 (cdI A).toNat) (v21 : ∀ k : Nat, (k : Int) < cdI v2 → v3.a 21 k = v2.a 21 k) (L2 : LAT noZ B2 v2 W) (L3 : LAT noZ A v3 W) (stg : STG v2 W) (gW : goI W = γ0) (hnop : ∀ (b : Bool) (k : Nat), SITE s v2 γ0 b k → ¬ OPN W k ∧ (k : Int) < cdI v2 ∧ gv W 22 k = if b = true then cdI W else cdI A) (hw : ∀ w : Nat, (w : Int) < waI v2 → gv v2 58 w ≤ γ0) (hr : (v2.i 75 = 1 ∨ v2.a 51 γ0 = 1) → ¬ jt → W.i 75 = 1) (hrb : v2.a 50 γ0 = 1 → W.i 75 = 1) : TS s W := by
  intro f C hA hC h o lv rs hx hy
  have cs := hI.cd
  have c2' := i2.cd
  have c3' := i3.cd
  have fv2 := i2.1.f0
  have fv3 := i3.1.f0
  have le2 := k2.2.1.1
  have le3 := k3.2.1.1
  have t2 := i2.2.2.2.1
  have ek1 : ((cdI s + 1).toNat : Int) = cdI s + 1 := Int.toNat_of_nonneg (by omega)
  have ekA : ((cdI A).toNat : Int) = cdI A := Int.toNat_of_nonneg (by omega)
  have ek3 : ((cdI v3).toNat : Int) = cdI v3 := Int.toNat_of_nonneg c3'.1
  have ksv2 : KP t s v2 := kB.tr k2 (Nat.le_refl _)
  obtain ⟨A2, C2⟩ := L2.use hA hC kB k2
  obtain ⟨A3, C3⟩ := L3.use hA hC kA k3
  have hx2 := hx.2.1
  have hx4 := hx.2.2.2.1
  have kg := kB.2.2.2.2.2.2.1
  have y2 : YE B2 rs := hy.push gB g0 kg.2.1 kg.2.2.1 (by rw [B44]; decide)
  have v2d : v2.i 52 = s.i 52 := s2.2.2.1.trans B52
  have c2 := ts f C A2 C2 h o (lv + 1) rs (hx.upv h (lv + 1) B52 (by omega) (by omega) (by omega) (by omega)) y2
  have gV : goI v2 = (γ0 : Int) + 1 := by have := s2.go; omega
  have d47 : (gv v2 47 γ0).toNat = rs.length := by
    have kg2 := k2.2.2.2.2.2.2.1
    have e : gv v2 47 γ0 = gv B2 47 γ0 := by unfold gv; rw [kg2.2.2.1 γ0 (by omega)]
    have := hx.1
    omega
  have wstep : W.a 21 (cdI s + 1).toNat = 1 := by rw [w21 _ (by omega), v21 _ (by omega), k2.2.1.2.1 _ (by omega)]; exact B21'
  obtain ⟨p1, p2, p3, p4⟩ := hA.cell (k := (cdI s + 1).toNat) (o := 1) (by omega) (by omega) wstep rfl (by decide)
  obtain ⟨q1, q2, q3, q4⟩ := hA.cell (k := (cdI v3).toNat) (o := 14) (x := xk) (by omega) (by omega) W14 Wx (by decide)
  have hsite : ∀ (b : Bool) (k : Nat), SITE s v2 γ0 b k → gv f 22 k = if b = true then cdI W else cdI A := fun b k hs => by
    obtain ⟨n1, n2', n3⟩ := hnop b k hs
    have := (hA.2.2.2.2.1 k hs.1 (by omega)).2.2 n1
    unfold gv at *
    rw [this]; exact n3
  have enbA : ∀ g : Gh, g.isC = C → ENS s W f h o lv rs g → ENB A v3 f g (lv + 1) rs := fun g hg hE => by
    refine ⟨fun k hk => (hE.1.1 k (by omega)).mono (Nat.le_refl _) (by omega), fun y hy' => ?_⟩
    have nb := (ENB.nx (u1 := v2) (w := v2) (⟨fun k hk => hE.1.1 k (by omega), hE.1.2⟩ : ENB s v2 f g lv rs) hg (hC.mid (KP.rf t s) ksv2 L2.2.2.2.1 L2.2.2.1 L2.2.2.2.2.1 L2.2.2.2.2.2) ksv2 (KP.rf t v2) n2 t2 hI.2.2.2.1).2 y (by have := eA.1; omega)
    unfold gv at nb ⊢
    rw [eA.2.1 y (by have := eA.1; omega), eA.2.2 y (by have := eA.1; omega)]
    exact nb
  have cond : (v2.i 75 = 1 ∨ v2.a 51 γ0 = 1) → COD f C (cdI A) h o (lv + 1) rs (fun g => ENS s W f h o lv rs g ∧ FL f g lv (cdI s + 1) (cdI s + 1) h o rs) := by
    intro hq
    by_cases hj : jt
    · obtain ⟨j1, j2, j3⟩ := hjt hj
      have wA1 : W.a 21 (cdI A).toNat = 2 := by rw [w21 _ (by omega)]; exact j2
      have wA2 : W.a 22 (cdI A).toNat = 1 := by rw [w22 j1]; exact j3
      obtain ⟨m1, m2, m3, m4⟩ := hA.cell (k := (cdI A).toNat) (o := 2) (x := 1) (by have := kA.2.1.1; omega) (by omega) wA1 wA2 (by decide)
      have eA1 : (cdI A).toNat + 1 = (cdI v3).toNat := by omega
      have head := CODS.pn (s := v3) (f := f) (C := C) (k := (cdI A).toNat) (h := h) (o := o) (v := lv + 1) (rs := rs) (E := fun g => ENS s W f h o lv rs g ∧ FL f g lv (cdI s + 1) (cdI s + 1) h o rs) (hx.upv h (lv + 1) d3 (by omega) (by omega) (by omega) (by omega)) (hx.upv (h + 1) (lv + 1) d3 (by omega) (by omega) (by omega) (by omega)) (by omega) m1 m2 (by rw [eA1]; exact q1) (fun g _ hE => ⟨(hE.1.1.1 _ (by omega)).mono (Nat.le_refl _) (by omega), (hE.1.1.1 _ (by omega)).mono (Nat.le_refl _) (by omega), by
        rw [eA1, q2, hxk]
        exact hE.2.to (Or.inl (by omega))⟩)
      rw [ekA] at head
      exact head.cod
    · have c3 := te hj f C A3 C3 h o (lv + 1) rs (hx.upv h (lv + 1) A52 (by omega) (by omega) (by omega) (by omega))
      have cN : COD f C (cdI v3).toNat (h + 1) o (lv + 1) rs (fun g => ENS s W f h o lv rs g ∧ FL f g lv (cdI s + 1) (cdI s + 1) h o rs) := by
        refine COD.ins (hx.upv (h + 1) (lv + 1) d3 (by omega) (by omega) (by omega) (by omega)) q4 (fun g _ hE => ⟨?_, (hE.1.1.1 _ (by omega)).mono (Nat.le_refl _) (by omega)⟩)
        have hF1 : FL f g (lv + 1) (((cdI v3).toNat : Int) + 1) (((cdI v3).toNat : Int) + 1) h o rs := by
          have := hE.1.2.1 (hr hq hj)
          rw [cW] at this
          rw [ek3]; exact this.mono (by omega) (Int.le_refl _)
        have hF2 : FL f g (lv + 1) (((cdI v3).toNat : Int) + 1) (gv f 22 (cdI v3).toNat) h o rs := by
          rw [q2, hxk]
          exact hE.2.to (Or.inl (by omega))
        exact okJ_14 (c := (h + 1, o, lv + 1, false, rs)) q1 ⟨by show 1 ≤ h + 1; omega, hF2, fun _ => hF1⟩
      exact COD.seq c3.cod cN (fun g _ hE => hE) (fun g hg hE hF => ⟨enbA g hg hE.1, by rw [ek3] at hF; exact hF⟩)
  have body : COD f C (cdI B2) h o (lv + 1) rs (fun g => ENS s W f h o lv rs g ∧ FL f g lv (cdI s + 1) (cdI s + 1) h o rs) := by
    have env : ∀ g : Gh, ENS s W f h o lv rs g → ((v2.i 75 = 1 ∨ v2.a 51 γ0 = 1) → FL f g (lv + 1) (cdI A) (cdI A) h o rs) → ENS B2 v2 f h o (lv + 1) rs g := fun g hE hx' => by
      refine ⟨⟨fun k hk => (hE.1.1 k (by omega)).mono (Nat.le_refl _) (by omega), (hE.1.mid kB B38 (by omega) : ENB B2 v2 f g lv rs).2⟩, fun q => by rw [← cA]; exact hx' (Or.inl q), ?_⟩
      exact EJ.doo hE.2.2 stg gW gV t2 hsite (by omega) d47 hw (by omega) (fun q => hx' (Or.inr q)) (fun q => hE.2.1 (hrb q))
    by_cases hq : v2.i 75 = 1 ∨ v2.a 51 γ0 = 1
    · exact COD.seq c2 (cond hq) (fun g _ hE => hE) (fun g _ hE hF => env g hE.1 (fun _ => hF))
    · exact c2.imp (fun g _ hE => env g hE.1 (fun q => absurd q hq))
  have head : CODS f C (cdI s + 1).toNat h o lv rs (fun g => ENS s W f h o lv rs g ∧ FL f g (lv + 1) (cdI B2) (cdI B2) h o rs) := by
    refine CODS.ins hx p4 (fun g _ hE => ⟨okJ_1 (c := (h, o, lv, false, rs)) p1 ?_, hE.1.1.1 _ (by omega)⟩)
    have e : (((cdI s + 1).toNat : Int) + 1) = cdI B2 := by omega
    show FS f g (((cdI s + 1).toNat : Int) + 1) h o rs
    rw [e]; exact hE.2.fs
  have rest : COD f C (cdI s + 1) h o lv rs (ENS s W f h o lv rs) := by
    have hl := head.loop (E := ENS s W f h o lv rs) body (fun g _ hE hF => ⟨hE, by rw [ek1] at hF; exact hF⟩) (fun g _ hE _ hF => ⟨hE, hF⟩)
    rw [ek1] at hl
    exact hl.cod
  refine COD.step hA hx cs.1 (by omega) ?_ (fun g _ hE => hE.1.1) rest
  rw [w21 _ (by omega), v21 _ (by omega), k2.2.1.2.1 _ (by omega)]
  exact B21
/-- a list of places is filled that u holds for begun -/
theorem LAT.pt {Z : Nat → Nat → Prop} {s u V W : RS} {Lb : List Nat} (h : LAT Z s u V) (he : EQT V W) (hc : CHN V W) (hn : TN V) (hcd : cdI V ≤ cdI W) (hgo : goI W ≤ goI V) (h21 : ∀ k : Nat, (k : Int) < cdI V → W.a 21 k = V.a 21 k ∧ W.a 23 k = V.a 23 k) (h22 : ∀ k : Nat, (k : Int) < cdI V → k ∉ Lb → W.a 22 k = V.a 22 k) (hL : ∀ k : Nat, k ∈ Lb → cdI s ≤ (k : Int) → (k : Int) < cdI u → OPN u k) : LAT Z s u W := by
  obtain ⟨⟨a1, a2, a3, a4, a5, a6, a7, a8⟩, a9, a10, a11, a12, a13⟩ := h
  refine ⟨⟨by omega, by rw [he.en]; exact a2, by rw [he.tt]; exact a3, by rw [he.i3]; exact a4, fun k k1 k2 => ?_, fun k k1 k2 => ?_, fun k k1 k2 z => ?_, fun k k1 k2 => ?_⟩, fun k k1 k2 z => a9 k k1 k2 (OPN.fin hn he hc hgo z), by rw [he.ca]; exact a10, by rw [he.sl]; exact a11, fun j hj => by rw [he.g (by decide) (by decide)]; exact a12 j hj, fun j h1 h2 => by rw [he.ca] at h2; rw [he.g (by decide) (by decide)]; exact a13 j h1 h2⟩
  · obtain ⟨b1, b2⟩ := a5 k k1 k2
    obtain ⟨c1, c2⟩ := h21 k (by omega)
    exact ⟨c1.trans b1, fun z => ⟨c2.trans (b2 z).1, fun q => (h22 k (by omega) (fun y => q (hL k y k1 k2))).trans ((b2 z).2 q)⟩⟩
  · rw [he.1 26 (by decide) (by decide), he.1 27 (by decide) (by decide), he.1 28 (by decide) (by decide)]; exact a6 k k1 k2
  · rw [he.1 30 (by decide) (by decide), he.1 31 (by decide) (by decide), he.1 32 (by decide) (by decide)]; exact a7 k k1 k2 z
  · rw [he.1 35 (by decide) (by decide), he.1 36 (by decide) (by decide), he.1 37 (by decide) (by decide)]; exact a8 k k1 k2
end
section
/-! reading: do: its end -/
theorem DO2 {N : Nat} (hN : 4000 ≤ N) {m : Nat} {s B2 v2 A v3 : RS} {t γ0 : Nat} {P : RS → Prop} {xA fv : Int32} {Lc Lb : List Nat} (hI : INV s) (h9 : t < 998) (hm : 1 ≤ m) (hF : ∀ u, FS' s u → P u) (kB : KP t s B2) (cB : cdI B2 = cdI s + 2) (B21 : B2.a 21 (cdI s).toNat = 1) (B21' : B2.a 21 (cdI s + 1).toNat = 1) (B38 : B2.i 38 = s.i 38) (B19 : B2.i 19 = s.i 19) (B52 : B2.i 52 = s.i 52) (B56 : B2.i 56 = s.i 56) (fB : fr s + 2 ≤ fr B2) (tkB : tkI s ≤ tkI B2) (g0 : (γ0 : Int) = goI s) (gB : goI B2 = goI s + 1) (B44 : B2.a 44 γ0 = 0) (B47 : gv B2 47 γ0 = deI s) (bB : ∀ b : Bool, hd B2 b γ0 = -1) (raB : RATE s B2) (hv2 : PCS t 1 B2 v2) (c1 : ISCH v2 (hd v2 false γ0) Lc) (b1 : ISCH v2 (hd v2 true γ0) Lb)
  (kA : KP t s A) (aA : ∀ k : Nat, k ≠ 22 → k < 64 → A.a k = v2.a k) (bA : A.b 9 = v2.b 9) (a22 : ∀ k : Nat, A.a 22 k = if k ∈ Lc then xA else v2.a 22 k) (hxA : xA.toInt = cdI v2) (iA : ∀ j : Nat, (j < 10 ∨ 18 ≤ j) → j ≠ 19 → j ≠ 43 → A.i j = v2.i j) (gA : goI A = γ0) (iAv : INV A) (A19 : A.i 19 = s.i 19 + 1) (fA : fr v2 + 1 ≤ fr A) (tkA : tkI v2 ≤ tkI A ∧ tkI A - tkI v2 ≤ fr A - fr v2) (aF : ∀ k : Nat, 74 ≤ k → A.a k = v2.a k) (A64 : A.a 64 t = 11) (A66 : (A.a 66 t).toInt = cdI s + 1) (A67 : A.a 67 t = 1 ∧ (v2.i 75 = 1 ∨ ¬ v2.a 51 γ0 = 0) ∨ A.a 67 t = 0 ∧ v2.i 75 = 0 ∧ v2.a 51 γ0 = 0) (A70 : A.a 70 t = v2.a 48 γ0) (A72 : A.a 72 t = 1 ∨ A.a 72 t = 0 ∧ v2.a 50 γ0 = 0) (A69 : A.a 69 t = fv) (hfv : fv = 0 ∨ A.i 10 = 432 ∧ fv = A.i 17) (hv3 : PC t 2 A v3) (hC : ∀ W, PS t s W → fr v3 + 2 ≤ fr W → ok (f_X12_parse_10 N m W) P) : ok (f_X12_parse_10 N (m + 1) v3) P := by
  have hN1 : 1000 ≤ N := by omega
  obtain ⟨w1, w2, w3, w4, w5, w6, w7, w8, w9, w10, w11⟩ := id hv2
  obtain ⟨v1, v2', v3', v4, v5, v6, v7, v8, v9, v10, v11, v12⟩ := id hv3
  have t2 := w1.2.2.2.1
  have cs := hI.cd
  have c2' := w1.cd
  have c3' := v1.cd
  have f2 := w1.1.f0
  have f3 := v1.1.f0
  have le2 := w3.2.1.1
  have le3 := v3'.2.1.1
  have g2 : goI v2 = (γ0 : Int) + 1 := by have := w4.go; omega
  have ltc : ∀ k ∈ Lc, (k : Int) < cdI v2 := fun k hk => (new_sites w3 bB (by omega) c1 k hk).2
  have ltb : ∀ k ∈ Lb, (k : Int) < cdI v2 := fun k hk => (new_sites w3 bB (by omega) b1 k hk).2
  have gec : ∀ k ∈ Lc, cdI B2 ≤ (k : Int) := fun k hk => (new_sites w3 bB (by omega) c1 k hk).1
  have geb : ∀ k ∈ Lb, cdI B2 ≤ (k : Int) := fun k hk => (new_sites w3 bB (by omega) b1 k hk).1
  have cA : cdI A = cdI v2 := by unfold cdI; rw [iA 20 (by omega) (by decide) (by decide)]
  have dj := t2.1.2.1
  have dis : ∀ k : Nat, k ∈ Lc → k ∈ Lb → False := fun k h1 h2 => by
    have := (dj γ0 γ0 false true Lc Lb k (by omega) (by omega) c1 b1 h1 h2).2
    exact absurd this (by decide)
  have eqA : EQT v2 A := ⟨fun k h1 h2 => by rcases h2 with q | q; exact aA k (by omega) q; exact aF k q, bA, fun j h1 h2 h3 h4 h5 h6 => iA j (by omega) (by omega) h3⟩
  have chA : CHN v2 A := fun γ b L x hγ hI' hx' => by
    refine ⟨by rw [aA 21 (by decide) (by decide)], ?_⟩
    rw [a22, if_neg (fun q => ?_)]
    have := (dj γ γ0 b false L Lc x (by omega) (by omega) hI' c1 hx' q).1; omega
  refine lp_11 v2' (by omega) v1.2.2.1 ((v12 64 (by omega) (by omega) (by omega)).trans A64) ?_
  unfold f_X12_repeats
  rw [if_pos (tp_ib v2' (by omega)), tp_nat v2', if_neg (by rw [v11]; decide), if_neg (by rw [v11]; decide)]
  obtain ⟨z, ez, hz⟩ := p_jt (N := N) (v := v3) (v3.a 69 t)
  rw [ez]
  have v69 : v3.a 69 t = fv := (v12 69 (by omega) (by omega) (by omega)).trans A69
  have hjt : z = 1 → cdI v3 = cdI A + 1 ∧ v3.a 21 (cdI A).toNat = 2 ∧ v3.a 22 (cdI A).toNat = 1 := fun hj => by
    rcases hz with c | ⟨d1, d2, d3⟩
    · rw [c] at hj; exact absurd hj (by decide)
    · rw [v69] at d2 d3
      rcases hfv with h | ⟨h1, h2⟩
      · rw [h] at d2; exact absurd (by decide) d2
      · have tk : tkI v3 = tkI A + 1 := tk_add (by rw [d3, h2]) ⟨iAv.tk.1, by have := iAv.tk; have := iAv.1.f0; omega⟩
        exact v10.2 h1 tk
  have hz01 : z = 0 ∨ z = 1 := by rcases hz with c | c; exact Or.inl c; exact Or.inr c.1
  obtain ⟨B0, eB, x1, x2⟩ := SHO hN1 v1 41 (by decide)
  show ok (((f_X12_shut N v3 41).bind fun p32 => (f_X12_need N p32.2 59).bind fun p34 => (f_X12_emit N p34.2 14 (p34.2.a 66 t)).bind fun p36 => (f_X12_patch N p36.2 (p36.2.a 70 t) (p36.2.i 20)).bind fun p38 => (if (p38.a 67 t) = 1 then (if z = 0 then (f_X12_over N p38 1).bind fun p47 => some p47 else (if (p38.a 72 t) = 1 then (f_X12_over N p38 1).bind fun p52 => some p52 else (f_X12_over N p38 0).bind fun p50 => some p50)) else (if (p38.a 72 t) = 1 then (f_X12_over N p38 1).bind fun p44 => some p44 else (f_X12_over N p38 0).bind fun p42 => some p42))).bind fun p => f_X12_parse_10 N m p) P
  rw [eB]
  obtain ⟨B, hB⟩ : ∃ B, B = B0.2 := ⟨_, rfl⟩
  show ok (((f_X12_need N B0.2 59).bind fun p34 => (f_X12_emit N p34.2 14 (p34.2.a 66 t)).bind fun p36 => (f_X12_patch N p36.2 (p36.2.a 70 t) (p36.2.i 20)).bind fun p38 => (if (p38.a 67 t) = 1 then (if z = 0 then (f_X12_over N p38 1).bind fun p47 => some p47 else (if (p38.a 72 t) = 1 then (f_X12_over N p38 1).bind fun p52 => some p52 else (f_X12_over N p38 0).bind fun p50 => some p50)) else (if (p38.a 72 t) = 1 then (f_X12_over N p38 1).bind fun p44 => some p44 else (f_X12_over N p38 0).bind fun p42 => some p42))).bind fun p => f_X12_parse_10 N m p) P
  rw [← hB] at x1 x2 ⊢
  clear hB eB
  obtain ⟨D0, eD, y1, y2, y3, y4⟩ := p_nd hN1 x1.2.2.2.1 59 (by decide)
  rw [eD]
  obtain ⟨D, hD⟩ : ∃ D, D = D0.2 := ⟨_, rfl⟩
  show ok (((f_X12_emit N D0.2 14 (D0.2.a 66 t)).bind fun p36 => (f_X12_patch N p36.2 (p36.2.a 70 t) (p36.2.i 20)).bind fun p38 => (if (p38.a 67 t) = 1 then (if z = 0 then (f_X12_over N p38 1).bind fun p47 => some p47 else (if (p38.a 72 t) = 1 then (f_X12_over N p38 1).bind fun p52 => some p52 else (f_X12_over N p38 0).bind fun p50 => some p50)) else (if (p38.a 72 t) = 1 then (f_X12_over N p38 1).bind fun p44 => some p44 else (f_X12_over N p38 0).bind fun p42 => some p42))).bind fun p => f_X12_parse_10 N m p) P
  rw [← hD] at y1 y2 y3 y4 ⊢
  clear hD eD
  have xD : LX v3 D := x1.tr y1
  have aD : D.a = v3.a := xD.1
  have cD : cdI D = cdI v3 := xD.tbl.cd
  have v66 : v3.a 66 t = A.a 66 t := v12 66 (by omega) (by omega) (by omega)
  rw [aD, v66, p_em 14 (A.a 66 t) (by omega) (by omega)]
  obtain ⟨E, hE⟩ : ∃ E, E = EM D 14 (A.a 66 t) := ⟨_, rfl⟩
  have lE : LXI E := by rw [hE]; exact LXI.em xD.2.2.2.1
  have iE : ∀ j : Nat, j ≠ 20 → E.i j = D.i j := fun j hj => by rw [hE]; exact EM.i hj
  have cE : cdI E = cdI v3 + 1 := by rw [hE, EM.cd (by omega) (by omega)]; omega
  have kE : KP t v3 E := by rw [hE]; exact ((KP.rf t v3).lx xD).em c3'.1 (by omega)
  have tE : TAB E := by rw [hE]; exact (v1.2.2.2.1.lx xD).em (by omega) (by omega)
  have aE : ∀ k : Nat, k ≠ 21 → k ≠ 22 → k ≠ 23 → E.a k = v3.a k := fun k h1 h2 h3 => by rw [hE, EM.a h1 h2 h3, aD]
  have E21 : ∀ j : Nat, E.a 21 j = if j = (cdI v3).toNat then 14 else v3.a 21 j := fun j => by rw [hE, EM.a21, cD, aD]
  have E22 : ∀ j : Nat, E.a 22 j = if j = (cdI v3).toNat then A.a 66 t else v3.a 22 j := fun j => by rw [hE, EM.a22, cD, aD]
  have E23 : ∀ j : Nat, E.a 23 j = if j = (cdI v3).toNat then 0 else v3.a 23 j := fun j => by rw [hE, EM.a23, cD, aD]
  have bE : E.b 9 = v3.b 9 := by rw [hE]; show D.b 9 = _; rw [xD.2.1]
  show ok (((f_X12_patch N (EM D 14 (A.a 66 t)) ((EM D 14 (A.a 66 t)).a 70 t) ((EM D 14 (A.a 66 t)).i 20)).bind fun p38 => (if (p38.a 67 t) = 1 then (if z = 0 then (f_X12_over N p38 1).bind fun p47 => some p47 else (if (p38.a 72 t) = 1 then (f_X12_over N p38 1).bind fun p52 => some p52 else (f_X12_over N p38 0).bind fun p50 => some p50)) else (if (p38.a 72 t) = 1 then (f_X12_over N p38 1).bind fun p44 => some p44 else (f_X12_over N p38 0).bind fun p42 => some p42))).bind fun p => f_X12_parse_10 N m p) P
  rw [← hE]
  clear hE
  have e70 : E.a 70 t = v2.a 48 γ0 := by rw [aE 70 (by decide) (by decide) (by decide), v12 70 (by omega) (by omega) (by omega)]; exact A70
  have kc3 := v3'.2.1
  have isE : ISCH E (v2.a 48 γ0).toInt Lb := ISCH.of (show ISCH v2 (v2.a 48 γ0).toInt Lb from b1) (fun y hy => by
    have hl := ltb y hy
    refine ⟨by rw [E21, if_neg (by omega), kc3.2.1 y (by omega), aA 21 (by decide) (by decide)], ?_⟩
    rw [E22, if_neg (by omega), kc3.2.2.1 y (by omega), a22, if_neg (fun q => dis y q hy)])
  rw [e70]
  have ePT := p_pt (N := N) hN (σ := E) (site := v2.a 48 γ0) (w := E.i 20) isE (fun x hx => by have := ltb x hx; omega)
  rw [ePT]
  obtain ⟨W, hW⟩ : ∃ W, W = PT (E.i 20) Lb E := ⟨_, rfl⟩
  have iW : W.i = E.i := by rw [hW]; exact PT.eI
  have aW : ∀ k : Nat, k ≠ 22 → W.a k = E.a k := fun k hk => by rw [hW]; exact PT.eA hk
  have W22 : ∀ j : Nat, W.a 22 j = if j ∈ Lb then E.i 20 else E.a 22 j := fun j => by rw [hW]; exact PT.e22 j
  have bW : W.b = E.b := by rw [hW]; exact PT.eB
  show ok ((if ((PT (E.i 20) Lb E).a 67 t) = 1 then (if z = 0 then (f_X12_over N (PT (E.i 20) Lb E) 1).bind fun p47 => some p47 else (if ((PT (E.i 20) Lb E).a 72 t) = 1 then (f_X12_over N (PT (E.i 20) Lb E) 1).bind fun p52 => some p52 else (f_X12_over N (PT (E.i 20) Lb E) 0).bind fun p50 => some p50)) else (if ((PT (E.i 20) Lb E).a 72 t) = 1 then (f_X12_over N (PT (E.i 20) Lb E) 1).bind fun p44 => some p44 else (f_X12_over N (PT (E.i 20) Lb E) 0).bind fun p42 => some p42) : Option RS).bind fun p => f_X12_parse_10 N m p) P
  rw [← hW]
  clear hW ePT
  have w67 : W.a 67 t = A.a 67 t := by rw [aW 67 (by decide), aE 67 (by decide) (by decide) (by decide), v12 67 (by omega) (by omega) (by omega)]
  have w72 : W.a 72 t = A.a 72 t := by rw [aW 72 (by decide), aE 72 (by decide) (by decide) (by decide), v12 72 (by omega) (by omega) (by omega)]
  rw [w67, w72]
  have ksv3 : KP t s v3 := kA.tr v3' (Nat.le_refl _)
  have ksE : KP t s E := ksv3.tr kE (Nat.le_refl _)
  have cW : cdI W = cdI v3 + 1 := by have : cdI W = cdI E := by { unfold cdI; rw [iW] }; omega
  have gv3 : goI v3 = γ0 := by have := v4.go; omega
  have gE : goI E = γ0 := by have : goI E = goI v3 := by { unfold goI; rw [iE 43 (by decide), xD.2.2.1 43 (by omega) (by omega)] }; omega
  have gW : goI W = γ0 := by have : goI W = goI E := by { unfold goI; rw [iW] }; omega
  have eqW : EQT E W := ⟨fun k h1 h2 => aW k (by omega), by rw [bW], fun j _ _ _ _ _ _ => by rw [iW]⟩
  have tnA : TN A := iAv.tn
  have kAE : KP t A E := v3'.tr kE (Nat.le_refl _)
  have chW : CHN E W := fun γ b L x hγ hI' hx' => by
    refine ⟨by rw [aW 21 (by decide)], ?_⟩
    rw [W22, if_neg (fun q => ?_)]
    obtain ⟨M, m1, m2⟩ := t2.1.1 γ b (by omega)
    have m3 := chA.eIS eqA (by omega) m1
    obtain ⟨L1, l1, l2⟩ := kAE.2.2.2.2.2.2.2.1 γ b M (by omega) m3 (fun y hy => by have := m2 y hy; omega)
    have e := ISCH.uniq hI' l1
    rw [e] at hx'
    have hq := ltb x q
    rcases List.mem_append.mp hx' with r | r
    · have := (l2 x r).1; omega
    · have := (dj γ γ0 b true M Lb x (by omega) (by omega) m1 b1 r q).1; omega
  have kg := ksE.2.2.2.2.2.2.1
  have seW : seI W = seI v3 := by unfold seI; rw [iW, iE 38 (by decide), xD.i38]
  have kW : KP t s W := ksE.fin eqW chW (by omega) (by omega) (by have := ksv3.2.2.2.2.2.1.1; omega) (fun q => by rw [iW]; exact q) (fun k hk => ⟨by rw [aW 21 (by decide)], by rw [W22, if_neg (fun q => by have := geb k q; omega)], by rw [aW 23 (by decide)]⟩) (fun k k1 k2 j _ => by rw [aW k (by omega)])
  have iWv : ∀ j : Nat, (j < 10 ∨ 18 ≤ j) → j ≠ 19 → j ≠ 20 → W.i j = v3.i j := fun j h1 h2 h3 => by rw [iW, iE j h3, xD.2.2.1 j h1 h2]
  have r75 : W.i 75 = 0 ∨ W.i 75 = 1 := by rw [iWv 75 (by omega) (by decide) (by decide)]; exact v1.r
  have tpW : tpI W = t := by unfold tpI at *; rw [iWv 63 (by omega) (by decide) (by decide)]; exact v2'
  have lW : LXI W := lE.of (by rw [iW]) (by rw [iW]) (by rw [iW]) (by rw [iW]) (by rw [iW]) (by rw [bW])
  by_cases d15 : D.i 15 = 0
  case neg =>
    have w15 : ¬ W.i 15 = 0 := by rw [iW, iE 15 (by decide)]; exact d15
    have fs : FS' s W := ⟨w15, kW.1.1, r75⟩
    have flt : ∀ y : Int32, (y = 0 ∨ y = 1) → ok (((f_X12_over N W y).bind fun p => some p).bind fun p => f_X12_parse_10 N m p) P := fun y hy => by
      rw [e_over hy]
      exact lp_f (u := (W.setI 75 y).setI 63 (W.i 63 - 1)) w15 (hF _ ((fs.i75 y hy).i63 _)) hm
    by_cases q1 : A.a 67 t = 1
    · rw [if_pos q1]
      by_cases q2 : z = 0
      · rw [if_pos q2]; exact flt 1 (Or.inr rfl)
      · rw [if_neg q2]
        by_cases q3 : A.a 72 t = 1
        · rw [if_pos q3]; exact flt 1 (Or.inr rfl)
        · rw [if_neg q3]; exact flt 0 (Or.inl rfl)
    · rw [if_neg q1]
      by_cases q3 : A.a 72 t = 1
      · rw [if_pos q3]; exact flt 1 (Or.inr rfl)
      · rw [if_neg q3]; exact flt 0 (Or.inl rfl)
  case pos =>
  have b15 : B.i 15 = 0 := y1.2.2.2.2.1 d15
  rcases x2 with q | ⟨-, x3, x4, x5, x6⟩
  · exact absurd b15 q
  obtain ⟨y5, y6, y7, y8⟩ := y4 d15
  have fBf := x1.2.2.2.1.f0
  have tkD := tk_add y6 ⟨by have := v1.tk; omega, by have := v1.tk; omega⟩
  have fW : fr W = fr D := by unfold fr; rw [iW, iE 11 (by decide)]
  have tkW : tkI W = tkI D := by unfold tkI; rw [iW, iE 17 (by decide)]
  have smW : SAME s W := by
    refine ⟨?_, Int32.toInt_inj.mp (show goI W = goI s by omega), ?_, ?_⟩
    · rw [iW, iE 19 (by decide), y2, x4, v4.1, A19, Int32.add_sub_cancel]
    · rw [iWv 52 (by omega) (by decide) (by decide), v4.2.2.1, iA 52 (by omega) (by decide) (by decide), w4.2.2.1]; exact B52
    · rw [iWv 56 (by omega) (by decide) (by decide), v4.2.2.2, iA 56 (by omega) (by decide) (by decide), w4.2.2.2]; exact B56
  have snB : SNW s B2 := SNW.eq B38 kB.2.2.2.2.2.1.2.1
  have sn2 : SNW s v2 := snB.tr w6 kB w3
  have se3 : seI v3 = seI v2 := by unfold seI; rw [v5, iA 38 (by omega) (by decide) (by decide)]
  have slA : slI A = slI v2 := by unfold slI; rw [iA 42 (by omega) (by decide) (by decide)]
  have sl3 := v3'.2.2.2.2.2.1.2.1
  have slW : slI W = slI v3 := by unfold slI; rw [iWv 42 (by omega) (by decide) (by decide)]
  have snW : SNW s W := by
    refine ⟨by have := sn2.1; omega, fun y h1 h2 => ?_⟩
    have seA : seI A = seI v2 := by unfold seI; rw [iA 38 (by omega) (by decide) (by decide)]
    have e : gv W 40 y = gv v2 40 y := by
      unfold gv
      rw [aW 40 (by decide), aE 40 (by decide) (by decide) (by decide), v3'.2.2.2.2.2.1.2.2.1 y (by omega), aA 40 (by decide) (by decide)]
    rw [e]
    exact sn2.2 y h1 (by omega)
  have ra2 : RATE s v2 := raB.tr w5
  have raW : RATE s W := by
    have e2 : enI A = enI v2 := by unfold enI; rw [iA 24 (by omega) (by decide) (by decide)]
    have e3 : trI A = trI v2 := by unfold trI; rw [iA 29 (by omega) (by decide) (by decide)]
    have e4 : caI A = caI v2 := by unfold caI; rw [iA 33 (by omega) (by decide) (by decide)]
    have e6 : peI A = peI v2 := by unfold peI; rw [iA 59 (by omega) (by decide) (by decide)]
    have k2 : enI W = enI v3 := by unfold enI; rw [iWv 24 (by omega) (by decide) (by decide)]
    have k3 : trI W = trI v3 := by unfold trI; rw [iWv 29 (by omega) (by decide) (by decide)]
    have k4 : caI W = caI v3 := by unfold caI; rw [iWv 33 (by omega) (by decide) (by decide)]
    have k6 : peI W = peI v3 := by unfold peI; rw [iWv 59 (by omega) (by decide) (by decide)]
    unfold RATE at ra2 v6 ⊢
    rw [cW, k2, k3, k4, slW, k6, fW, tkW]
    omega
  have tW : TAB W := tE.fin eqW chW (by omega) (by omega) (by have : seI E = seI v3 := by { unfold seI; rw [iE 38 (by decide), xD.i38] }; omega) (fun γ hγ => by
    have : deI W = deI E := by unfold deI; rw [iW]
    have := (tE.2.2.2.2.2.2.1 γ (by omega)).2
    omega) (fun w hw => by have := (tE.2.2.2.2.2.2.2.2.1 w hw).2.2.2; omega) r75
  have iWI : INV W := hI.mkS kW lW (by rw [iW, iE 15 (by decide)]; exact d15) tW smW snW raW (by omega) (by omega)
  have L2 : LAT noZ B2 v2 W := ((((LAT.rf noZ B2 v2).fin eqA chA t2.1.1 (by omega) (by omega) (fun k k1 k2 => ⟨by rw [aA 21 (by decide) (by decide)], by rw [aA 23 (by decide) (by decide)], fun q => by rw [a22, if_neg (fun r => q ⟨γ0, false, Lc, by omega, c1, r⟩)]⟩)).kp kAE tnA (by omega))).pt (Lb := Lb) eqW chW tE.1.1 (by omega) (by omega) (fun k _ => ⟨by rw [aW 21 (by decide)], by rw [aW 23 (by decide)]⟩) (fun k _ hk => by rw [W22, if_neg hk]) (fun k hk _ _ => ⟨γ0, true, Lb, by omega, b1, hk⟩)
  have L3 : LAT noZ A v3 W := ((LAT.rf noZ A v3).kp kE v1.tn (by omega)).pt (Lb := Lb) eqW chW tE.1.1 (by omega) (by omega) (fun k _ => ⟨by rw [aW 21 (by decide)], by rw [aW 23 (by decide)]⟩) (fun k _ hk => by rw [W22, if_neg hk]) (fun k hk h1 _ => by have := ltb k hk; omega)
  have stg : STG v2 W := ((STG.fin eqA chA (by omega) (by omega)).tr (STG.kp kAE (by omega) (by
    have e1 : waI E = waI v3 := by unfold waI; rw [iE 56 (by decide), xD.2.2.1 56 (by omega) (by omega)]
    have := v4.wa
    omega))).tr (STG.fin eqW chW (by omega) (by omega))
  have kw := (kB.tr w3 (Nat.le_refl _)).2.2.2.2.2.2.2.2.1
  have hww : ∀ w : Nat, (w : Int) < waI v2 → gv v2 58 w ≤ γ0 := fun w hw => by
    have e1 : waI v2 = waI s := by have : waI v2 = waI B2 := w4.wa; have : waI B2 = waI s := by { unfold waI; rw [B56] }; omega
    have := (hI.2.2.2.1.2.2.2.2.2.2.2.2.1 w (by omega)).2.2.2
    have e : gv v2 58 w = gv s 58 w := by unfold gv; rw [kw.2.2 w (by omega)]
    omega
  have hnop : ∀ (b : Bool) (k : Nat), SITE s v2 γ0 b k → ¬ OPN W k ∧ (k : Int) < cdI v2 ∧ gv W 22 k = if b = true then cdI W else cdI A := fun b k hs => by
    obtain ⟨u1, L, u2, u3⟩ := hs
    have hlt : (k : Int) < cdI v2 := (new_sites w3 bB (by omega) u2 k u3).2
    refine ⟨fun ⟨γ, b', L', o1, o2, o3⟩ => ?_, hlt, ?_⟩
    · obtain ⟨M, m1, m2⟩ := t2.1.1 γ b' (by omega)
      have m3 := chA.eIS eqA (by omega) m1
      obtain ⟨L1, l1, l2⟩ := kAE.2.2.2.2.2.2.2.1 γ b' M (by omega) m3 (fun y hy => by have := m2 y hy; omega)
      have e := ISCH.uniq o2 (chW.eIS eqW o1 l1)
      rw [e] at o3
      rcases List.mem_append.mp o3 with r | r
      · have := (l2 k r).1; omega
      · have := (dj γ γ0 b' b M L k (by omega) (by omega) m1 u2 r u3).1; omega
    · unfold gv
      cases b
      · have hk : k ∈ Lc := by rw [← ISCH.uniq u2 c1]; exact u3
        rw [W22, if_neg (fun q => dis k hk q), E22, if_neg (by omega), kc3.2.2.1 k (by omega), a22, if_pos hk, if_neg (by decide), hxA, cA]
      · have hk : k ∈ Lb := by rw [← ISCH.uniq u2 b1]; exact u3
        rw [W22, if_pos hk, if_pos rfl]
        show cdI E = cdI W
        omega
  have fin : ∀ y : Int32, (y = 0 ∨ y = 1) → ((v2.i 75 = 1 ∨ v2.a 51 γ0 = 1) → ¬ z = 1 → y = 1) → (v2.a 50 γ0 = 1 → y = 1) → ok (((f_X12_over N W y).bind fun p => some p).bind fun p => f_X12_parse_10 N m p) P := by
    intro y hy h1 h2
    refine IF3 (q := W) h9 hy (fun u hu hfu => hC u hu (by omega)) iWI tpW kW smW snW raW (by omega) (by omega) (fun q => ?_)
    have z3 : ¬ 0 ≤ v3.i 18 := fun r => q (by rw [iWv 18 (by omega) (by decide) (by decide)]; exact r)
    have z2 : ¬ 0 ≤ v2.i 18 := fun r => z3 (v3'.1.2 (by rw [iA 18 (by omega) (by decide) (by decide)]; exact r))
    have tbY : TBS W (W.setI 75 y) := (TBL.i75 W y).tbs
    have seA : seI A = seI v2 := by unfold seI; rw [iA 38 (by omega) (by decide) (by decide)]
    refine TS.doo (W := W.setI 75 y) (jt := z = 1) (xk := A.a 66 t) hI kB cB B21 B21' B38 B52 (by omega) g0 gB B44 B47 (w9 z2) w3 w1 w4 sn2 w7 kA cA ((iA 52 (by omega) (by decide) (by decide)).trans (w4.2.2.1.trans B52)) (by omega) ⟨seA, fun j _ => by rw [aA 40 (by decide) (by decide)], fun j _ => by rw [aA 41 (by decide) (by decide)]⟩ (fun _ => v9 z3) hjt v3' v1 (v4.2.2.1.trans ((iA 52 (by omega) (by decide) (by decide)).trans (w4.2.2.1.trans B52))) v7 cW ?_ ?_ A66 (fun k hk => ?_) (fun he => ?_) (fun k hk => ?_) (L2.tbs tbY tW.1.1) (L3.tbs tbY tW.1.1) (stg.tr (STG.tbs tbY)) gW (fun b k hs => ?_) hww h1 h2
    · show W.a 21 (cdI v3).toNat = 14
      rw [aW 21 (by decide), E21, if_pos rfl]
    · show W.a 22 (cdI v3).toNat = A.a 66 t
      rw [W22, if_neg (fun r => by have := ltb _ r; omega), E22, if_pos rfl]
    · show W.a 21 k = v3.a 21 k
      rw [aW 21 (by decide), E21, if_neg (by omega)]
    · show W.a 22 (cdI A).toNat = _
      rw [W22, if_neg (fun r => by have := ltb _ r; omega), E22, if_neg (by omega)]
    · rw [kc3.2.1 k (by omega), aA 21 (by decide) (by decide)]
    · obtain ⟨n1, n2, n3⟩ := hnop b k hs
      refine ⟨fun ⟨γ, b', L', o1, o2, o3⟩ => n1 ⟨γ, b', L', o1, by cases b' <;> exact o2.of (fun _ _ => ⟨rfl, rfl⟩), o3⟩, n2, n3⟩
  by_cases q1 : A.a 67 t = 1
  · rw [if_pos q1]
    by_cases q2 : z = 0
    · rw [if_pos q2]; exact fin 1 (Or.inr rfl) (fun _ _ => rfl) (fun _ => rfl)
    · rw [if_neg q2]
      have z1 : z = 1 := by rcases hz01 with r | r; exact absurd r q2; exact r
      by_cases q3 : A.a 72 t = 1
      · rw [if_pos q3]; exact fin 1 (Or.inr rfl) (fun _ _ => rfl) (fun _ => rfl)
      · rw [if_neg q3]
        refine fin 0 (Or.inl rfl) (fun _ r => absurd z1 r) (fun r => ?_)
        rcases A72 with h | h
        · exact absurd h q3
        · rw [h.2] at r; exact absurd r (by decide)
  · rw [if_neg q1]
    have dead : (v2.i 75 = 1 ∨ v2.a 51 γ0 = 1) → False := fun r => by
      rcases A67 with h | ⟨h1, h2, h3⟩
      · exact q1 h.1
      · rcases r with r | r
        · rw [h2] at r; exact absurd r (by decide)
        · rw [h3] at r; exact absurd r (by decide)
    by_cases q3 : A.a 72 t = 1
    · rw [if_pos q3]; exact fin 1 (Or.inr rfl) (fun _ _ => rfl) (fun _ => rfl)
    · rw [if_neg q3]
      refine fin 0 (Or.inl rfl) (fun r _ => (dead r).elim) (fun r => ?_)
      rcases A72 with h | h
      · exact absurd h q3
      · rw [h.2] at r; exact absurd r (by decide)
end
section
/-! reading: do: its frame -/
theorem DO1 {N b : Nat} (hN : 4000 ≤ N) (hc' : 1 ≤ b → RUNE N 20 1 20 15 (b - 1)) {m : Nat} {s B2 v2 : RS} {t γ0 : Nat} {P : RS → Prop} (hI : INV s) (h9 : t < 998) (hb : 2 * (t : Int) ≤ fr s + 12 * op s + 2) (hc : 900 - fr s ≤ b) (hF : ∀ u, FS' s u → P u) (kB : KP t s B2) (cB : cdI B2 = cdI s + 2) (B21 : B2.a 21 (cdI s).toNat = 1) (B21' : B2.a 21 (cdI s + 1).toNat = 1) (B38 : B2.i 38 = s.i 38) (B19 : B2.i 19 = s.i 19) (B52 : B2.i 52 = s.i 52) (B56 : B2.i 56 = s.i 56) (fB : fr s + 2 ≤ fr B2) (tkB : tkI s ≤ tkI B2) (g0 : (γ0 : Int) = goI s) (gB : goI B2 = goI s + 1) (B44 : B2.a 44 γ0 = 0) (B47 : gv B2 47 γ0 = deI s) (bB : ∀ b : Bool, hd B2 b γ0 = -1) (raB : RATE s B2) (B64 : B2.a 64 t = 11) (B66 : (B2.a 66 t).toInt = cdI s + 1) (B68 : (B2.a 68 t).toInt = γ0) (hv2 : PCS t 1 B2 v2) (hn : 36000 + 10 ≤ (m : Int) + 1 + 40 * fr v2) (hC : ∀ (m' : Nat) (u : RS), PS t s u → fr v2 ≤ fr u → (m : Int) + 40 * fr v2 ≤ m' + 40 * fr u → ok (f_X12_parse_10 N m' u) P) : ok (f_X12_parse_10 N (m + 1) v2) P := by
  have hN1 : 1000 ≤ N := by omega
  obtain ⟨w1, w2, w3, w4, w5, w6, w7, w8, w9, w10, w11⟩ := id hv2
  have t2 := w1.2.2.2.1
  have cs := hI.cd
  have hf := hI.1.f0
  have gos := hI.2.2.2.2.2.2.2.2.2.2.2.1
  have c2' := w1.cd
  have f2 := w1.1.f0
  have le2 := w3.2.1.1
  have hop := hI.op
  have g2 : goI v2 = (γ0 : Int) + 1 := by have := w4.go; omega
  have e68 : (v2.a 68 t).toInt = γ0 := by rw [w11 68 (by omega) (by omega) (by omega)]; exact B68
  have n68 := k_nat e68
  have ib68 : ib (v2.a 68 t) 460 := ⟨by omega, by omega⟩
  obtain ⟨Lc, c1, lc⟩ := w1.tn γ0 false (by omega)
  obtain ⟨Lb, b1, lb⟩ := w1.tn γ0 true (by omega)
  have dj := t2.1.2.1
  have gec : ∀ k ∈ Lc, cdI B2 ≤ (k : Int) := fun k hk => (new_sites w3 bB (by omega) c1 k hk).1
  refine lp_11 w2 (by omega) w1.2.2.1 ((w11 64 (by omega) (by omega) (by omega)).trans B64) ?_
  unfold f_X12_repeats
  rw [if_pos (tp_ib w2 (by omega)), tp_nat w2, if_neg (by rw [w10]; decide), if_pos w10, if_pos ib68, n68]
  have ePT := p_pt (N := N) hN (σ := v2) (site := v2.a 49 γ0) (w := v2.i 20) c1 (fun x hx => by have := lc x hx; omega)
  rw [ePT]
  obtain ⟨Q, hQ⟩ : ∃ Q, Q = PT (v2.i 20) Lc v2 := ⟨_, rfl⟩
  have iQ : Q.i = v2.i := by rw [hQ]; exact PT.eI
  have aQ : ∀ k : Nat, k ≠ 22 → Q.a k = v2.a k := fun k hk => by rw [hQ]; exact PT.eA hk
  have Q22 : ∀ j : Nat, Q.a 22 j = if j ∈ Lc then v2.i 20 else v2.a 22 j := fun j => by rw [hQ]; exact PT.e22 j
  have bQ : Q.b = v2.b := by rw [hQ]; exact PT.eB
  show ok ((if ((PT (v2.i 20) Lc v2).i 75) = 0 then (if ((PT (v2.i 20) Lc v2).a 51 γ0) = 0 then f_X12_repeats_114 N (RS.setA (PT (v2.i 20) Lc v2) 67 t 0) (v2.i 63) (v2.a 68 t) else f_X12_repeats_114 N (RS.setA (PT (v2.i 20) Lc v2) 67 t 1) (v2.i 63) (v2.a 68 t)) else f_X12_repeats_114 N (RS.setA (PT (v2.i 20) Lc v2) 67 t 1) (v2.i 63) (v2.a 68 t) : Option RS).bind fun p => f_X12_parse_10 N m p) P
  rw [← hQ]
  clear hQ ePT
  have s67 : ∃ f67 : Int32, ((if (Q.i 75) = 0 then (if (Q.a 51 γ0) = 0 then f_X12_repeats_114 N (RS.setA Q 67 t 0) (v2.i 63) (v2.a 68 t) else f_X12_repeats_114 N (RS.setA Q 67 t 1) (v2.i 63) (v2.a 68 t)) else f_X12_repeats_114 N (RS.setA Q 67 t 1) (v2.i 63) (v2.a 68 t)) : Option RS) = f_X12_repeats_114 N (RS.setA Q 67 t f67) (v2.i 63) (v2.a 68 t) ∧ (f67 = 1 ∧ (v2.i 75 = 1 ∨ ¬ v2.a 51 γ0 = 0) ∨ f67 = 0 ∧ v2.i 75 = 0 ∧ v2.a 51 γ0 = 0) := by
    rw [iQ, aQ 51 (by decide)]
    rcases w1.r with r | r
    · rw [if_pos r]
      by_cases q : v2.a 51 γ0 = 0
      · rw [if_pos q]; exact ⟨0, rfl, Or.inr ⟨rfl, r, q⟩⟩
      · rw [if_neg q]; exact ⟨1, rfl, Or.inl ⟨rfl, Or.inr q⟩⟩
    · rw [if_neg (by rw [r]; decide)]; exact ⟨1, rfl, Or.inl ⟨rfl, Or.inl r⟩⟩
  obtain ⟨f67, e67, h67⟩ := s67
  rw [e67]
  unfold f_X12_repeats_114
  have a50 : (RS.setA Q 67 t f67).a 50 = v2.a 50 := (setA_nk (by decide)).trans (aQ 50 (by decide))
  rw [if_pos ib68, n68, a50, if_pos (tp_ib w2 (by omega)), if_pos (tp_ib w2 (by omega)), tp_nat w2]
  have s72 : ∃ f72 : Int32, ((if (v2.a 50 γ0) = 0 then f_X12_repeats_134 N (RS.setA (RS.setA Q 67 t f67) 72 t 0) (v2.i 63) (v2.a 68 t) else f_X12_repeats_134 N (RS.setA (RS.setA Q 67 t f67) 72 t 1) (v2.i 63) (v2.a 68 t)) : Option RS) = f_X12_repeats_134 N (RS.setA (RS.setA Q 67 t f67) 72 t f72) (v2.i 63) (v2.a 68 t) ∧ (f72 = 1 ∨ f72 = 0 ∧ v2.a 50 γ0 = 0) := by
    by_cases q : v2.a 50 γ0 = 0
    · rw [if_pos q]; exact ⟨0, rfl, Or.inr ⟨rfl, q⟩⟩
    · rw [if_neg q]; exact ⟨1, rfl, Or.inl rfl⟩
  obtain ⟨f72, e72, h72⟩ := s72
  rw [e72]
  unfold f_X12_repeats_134
  rw [if_pos ib68, if_pos (tp_ib w2 (by omega)), n68, tp_nat w2]
  obtain ⟨X, hX⟩ : ∃ X, X = (RS.setA (RS.setA Q 67 t f67) 72 t f72).setA 70 t ((RS.setA (RS.setA Q 67 t f67) 72 t f72).a 48 γ0) := ⟨_, rfl⟩
  have iX : X.i = v2.i := by rw [hX]; exact iQ
  have aX : ∀ k : Nat, k ≠ 22 → k ≠ 67 → k ≠ 70 → k ≠ 72 → X.a k = v2.a k := fun k h1 h2 h3 h4 => by rw [hX, setA_nk h3, setA_nk h4, setA_nk h2]; exact aQ k h1
  have X22 : ∀ j : Nat, X.a 22 j = if j ∈ Lc then v2.i 20 else v2.a 22 j := fun j => by rw [hX, setA_nk (by decide), setA_nk (by decide), setA_nk (by decide)]; exact Q22 j
  have X67 : X.a 67 t = f67 := by rw [hX, setA_nk (by decide), setA_nk (by decide)]; exact setA_at
  have X72 : X.a 72 t = f72 := by rw [hX, setA_nk (by decide)]; exact setA_at
  have X70 : X.a 70 t = v2.a 48 γ0 := by rw [hX, setA_at, setA_nk (by decide), setA_nk (by decide), aQ 48 (by decide)]
  have bX : X.b = v2.b := by rw [hX]; exact bQ
  have frX : ∀ k : Nat, 64 ≤ k → k ≤ 73 → bel k t v2 X := fun k h1 h2 j hj => by rw [hX, setA_ne (by omega), setA_ne (by omega), setA_ne (by omega), aQ k (by omega)]
  have e43 : (RS.setA (RS.setA Q 67 t f67) 72 t f72).i 43 = v2.i 43 := by show Q.i 43 = _; rw [iQ]
  rw [e43, ← hX]
  clear hX
  obtain ⟨Y, hY⟩ : ∃ Y, Y = X.setI 43 (v2.i 43 - 1) := ⟨_, rfl⟩
  have iY : ∀ j : Nat, j ≠ 43 → Y.i j = v2.i j := fun j hj => by rw [hY]; exact (if_neg hj).trans (by rw [iX])
  have aY : Y.a = X.a := by rw [hY]; rfl
  have bY : Y.b = v2.b := by rw [hY]; exact bX
  have gY : goI Y = γ0 := by
    have e : Y.i 43 = v2.i 43 - 1 := by rw [hY]; rfl
    have e1' : (1 : Int32).toInt = 1 := by decide
    have g2' : (v2.i 43).toInt = (γ0 : Int) + 1 := g2
    unfold goI
    rw [e, toInt_sub] <;> rw [e1'] <;> omega
  rw [← hY]
  clear hY
  have cY : cdI Y = cdI v2 := by unfold cdI; rw [iY 20 (by decide)]
  have eqY : EQT v2 Y := ⟨fun k h1 h2 => by rw [aY]; exact aX k (by omega) (by omega) (by omega) (by omega), by rw [bY], fun j h1 h2 h3 h4 h5 h6 => iY j h3⟩
  have chY : CHN v2 Y := fun γ b L x hγ hI' hx' => by
    refine ⟨by rw [aY, aX 21 (by decide) (by decide) (by decide) (by decide)], ?_⟩
    rw [aY, X22, if_neg (fun q => ?_)]
    have := (dj γ γ0 b false L Lc x (by omega) (by omega) hI' c1 hx' q).1; omega
  have ksv2 : KP t s v2 := kB.tr w3 (Nat.le_refl _)
  have seY : seI Y = seI v2 := by unfold seI; rw [iY 38 (by decide)]
  have kY : KP t s Y := ksv2.fin eqY chY (by omega) (by omega) (by have := ksv2.2.2.2.2.2.1.1; omega) (fun z => by rw [iY 18 (by decide)]; exact z) (fun k hk => ⟨by rw [aY, aX 21 (by decide) (by decide) (by decide) (by decide)], by rw [aY, X22, if_neg (fun q => by have := gec k q; omega)], by rw [aY, aX 23 (by decide) (by decide) (by decide) (by decide)]⟩) (fun k h1 h2 j hj => by rw [aY]; exact frX k h1 h2 j hj)
  have r75 : Y.i 75 = 0 ∨ Y.i 75 = 1 := by rw [iY 75 (by decide)]; exact w1.r
  have kw := ksv2.2.2.2.2.2.2.2.2.1
  have e56v : waI v2 = waI s := by have : waI v2 = waI B2 := w4.wa; have : waI B2 = waI s := by { unfold waI; rw [B56] }; omega
  have tY : TAB Y := t2.fin eqY chY (by omega) (by omega) (by omega) (fun γ hγ => by
    have : deI Y = deI v2 := by unfold deI; rw [iY 52 (by decide)]
    have := (t2.2.2.2.2.2.2.1 γ (by omega)).2
    omega) (fun w hw => by
    have := (hI.2.2.2.1.2.2.2.2.2.2.2.2.1 w (by omega)).2.2.2
    have e : gv v2 58 w = gv s 58 w := by unfold gv; rw [kw.2.2 w (by omega)]
    omega) r75
  have lY : LXI Y := w1.1.of (iY 2 (by decide)) (iY 10 (by decide)) (iY 11 (by decide)) (iY 12 (by decide)) (iY 14 (by decide)) (by rw [bY])
  have fY : fr Y = fr v2 := by unfold fr; rw [iY 11 (by decide)]
  have tkY : tkI Y = tkI v2 := by unfold tkI; rw [iY 17 (by decide)]
  have iYI : INV Y := by
    refine ⟨lY, hI.2.1.kp kY, (iY 15 (by decide)).trans w1.2.2.1, tY, ?_⟩
    have nn := w1.2.2.2.2
    have e1 : op Y = op v2 := by unfold op; rw [iY 19 (by decide)]
    have e8 : deI Y = deI v2 := by unfold deI; rw [iY 52 (by decide)]
    unfold NUM at nn ⊢
    rw [cY, eqY.en, eqY.tt, eqY.ca, seY, eqY.sl, gY, eqY.wa, eqY.pe, fY, tkY, e1, e8]
    omega
  have tpY : tpI Y = t := by unfold tpI at *; rw [iY 63 (by decide)]; exact w2
  obtain ⟨Z0, eZ, z1, z2⟩ := NDO hN1 iYI 415 (by decide)
  rw [eZ]
  obtain ⟨Z, hZ⟩ : ∃ Z, Z = Z0.2 := ⟨_, rfl⟩
  show ok (((f_X12_open N Z0.2 40).bind fun p23 => (if (p23.2.i 10) = 432 then f_X12_repeats_195 N (RS.setA p23.2 69 t (p23.2.i 17)) else f_X12_repeats_195 N (RS.setA p23.2 69 t 0))).bind fun p => f_X12_parse_10 N m p) P
  rw [← hZ] at z1 z2 ⊢
  clear hZ eZ
  have flt : ∀ S : RS, LX Z S → ¬ S.i 15 = 0 → ok ((if (S.i 10) = 432 then f_X12_repeats_195 N (RS.setA S 69 t (S.i 17)) else f_X12_repeats_195 N (RS.setA S 69 t 0) : Option RS).bind fun p => f_X12_parse_10 N m p) P := fun S h1 h2 => by
    have hS : FS' s S := FS'.of (kY.lx z1).1.1 h1 h2 (by rw [z1.2.2.1 75 (by omega) (by omega)]; exact r75)
    have tpS : tpI S = t := h1.tp.trans (z1.tp.trans tpY)
    have go : ∀ y : Int32, ok ((f_X12_repeats_195 N (RS.setA S 69 t y)).bind fun p => f_X12_parse_10 N m p) P := fun y => by
      unfold f_X12_repeats_195
      rw [p_th 2 20 (u := S.setA 69 t y) tpS (by omega)]
      exact lp_f (u := TH (S.setA 69 t y) t 2 20) h2 (hF _ (FS'.th (hS.loc t y (by omega) (by omega)))) (by omega)
    by_cases c : S.i 10 = 432
    · rw [if_pos c]; exact go _
    · rw [if_neg c]; exact go _
  rcases z2 with z2 | ⟨z2, z3, z4, z5, z6, z7⟩
  · obtain ⟨S, eS, o1, -, -⟩ := p_op hN1 z1.2.2.2.1 40 (by decide)
    rw [eS]
    exact flt S.2 o1 (fun q => z2 (o1.2.2.2.2.1 q))
  obtain ⟨p, ep, hpp⟩ := OPO (t := t) hN1 z4 40 (by decide)
  rw [ep]
  rcases hpp with ⟨p1, p2, p3⟩ | ⟨p1, p2, p3, q1, q2, q3, q4, q5, q6, q7, q8, q9, q10, q11⟩
  · exact flt p.2 p2 p1
  have s69 : ∃ y : Int32, ((if (p.2.i 10) = 432 then f_X12_repeats_195 N (RS.setA p.2 69 t (p.2.i 17)) else f_X12_repeats_195 N (RS.setA p.2 69 t 0)) : Option RS) = f_X12_repeats_195 N (RS.setA p.2 69 t y) ∧ (y = 0 ∨ p.2.i 10 = 432 ∧ y = p.2.i 17) := by
    by_cases c : p.2.i 10 = 432
    · rw [if_pos c]; exact ⟨_, rfl, Or.inr ⟨c, rfl⟩⟩
    · rw [if_neg c]; exact ⟨_, rfl, Or.inl rfl⟩
  obtain ⟨y, ey, hy⟩ := s69
  show ok (((if (p.2.i 10) = 432 then f_X12_repeats_195 N (RS.setA p.2 69 t (p.2.i 17)) else f_X12_repeats_195 N (RS.setA p.2 69 t 0)) : Option RS).bind fun p => f_X12_parse_10 N m p) P
  rw [ey]
  unfold f_X12_repeats_195
  obtain ⟨A, hA⟩ : ∃ A, A = p.2.setA 69 t y := ⟨_, rfl⟩
  have iAI : INV A := by rw [hA]; exact q1.loc t y (by omega) (by omega)
  have kA : KP t s A := by rw [hA]; exact ((kY.lx z1).tr q3 (Nat.le_refl _)).loc t y (by omega) (by omega) (Nat.le_refl _)
  have iiA : A.i = p.2.i := by rw [hA]; rfl
  have aA : ∀ k : Nat, k ≠ 69 → A.a k = X.a k := fun k hk => by rw [hA, setA_nk hk, q10, z1.1, aY]
  have A69 : A.a 69 t = y := by rw [hA]; exact setA_at
  have bA : A.b 9 = v2.b 9 := by rw [hA]; show p.2.b 9 = _; rw [q11.2.1, z1.2.1, bY]
  have tpA : tpI A = t := by unfold tpI; rw [iiA]; exact q2.trans (z1.tp.trans tpY)
  rw [← hA, p_th 2 20 tpA (by omega)]
  clear hA
  show ok (f_X12_parse_10 N m (TH A t 2 20)) P
  have fA : fr A = fr p.2 := by unfold fr; rw [iiA]
  have oA : op A = op s + 1 := by
    have e1 : op A = op p.2 := by unfold op; rw [iiA]
    have e2 : op Z = op Y := by unfold op; rw [z5]
    have e3 : op Y = op v2 := by unfold op; rw [iY 19 (by decide)]
    have e4 : op v2 = op B2 := w4.eOp
    have e5 : op B2 = op s := by unfold op; rw [B19]
    omega
  have fAf := iAI.1.f0
  refine CALL (hc' (by omega)) iAI tpA (by omega) (by omega) (by omega) (by omega) (fun u hu => hF u (FS'.kp kA hu)) (fun m4 v3 hv3 hm4 => ?_)
  have f3 := hv3.1.1.f0
  have v7 := hv3.2.2.2.2.2.2.1
  obtain ⟨m5, rfl⟩ : ∃ m5, m4 = m5 + 1 := ⟨m4 - 1, by omega⟩
  have push5 : ((m5 + 1 : Nat) : Int) = (m5 : Int) + 1 := by omega
  rw [push5] at hm4
  have tkA : tkI A = tkI p.2 := by unfold tkI; rw [iiA]
  refine DO2 (m := m5) (xA := v2.i 20) (fv := y) hN hI h9 (by omega) hF kB cB B21 B21' B38 B19 B52 B56 fB tkB g0 gB B44 B47 bB raB hv2 c1 b1 kA (fun k h1 h2 => by rw [aA k (by omega)]; exact aX k h1 (by omega) (by omega) (by omega)) bA (fun k => by rw [aA 22 (by decide)]; exact X22 k) rfl (fun j h1 h2 h3 => ?_) ?_ iAI ?_ (by omega) ⟨by omega, by omega⟩ (fun k hk => by rw [aA k (by omega)]; exact aX k (by omega) (by omega) (by omega) (by omega)) ?_ ?_ ?_ ?_ ?_ A69 ?_ hv3 (fun W hW hfW => hC m5 W hW (by omega) (by omega))
  · rw [iiA, q11.2.2.1 j h1 h2, z1.2.2.1 j h1 h2]; exact iY j h3
  · have e1 : goI A = goI Z := by unfold goI; rw [iiA, q11.2.2.1 43 (by omega) (by omega)]
    have e2 : goI Z = goI Y := by unfold goI; rw [z1.2.2.1 43 (by omega) (by omega)]
    omega
  · rw [iiA, q5, z5, iY 19 (by decide), w4.1, B19]
  · rw [aA 64 (by decide), aX 64 (by decide) (by decide) (by decide) (by decide), w11 64 (by omega) (by omega) (by omega)]; exact B64
  · rw [aA 66 (by decide), aX 66 (by decide) (by decide) (by decide) (by decide), w11 66 (by omega) (by omega) (by omega)]; exact B66
  · rw [aA 67 (by decide), X67]; exact h67
  · rw [aA 70 (by decide)]; exact X70
  · rw [aA 72 (by decide), X72]; exact h72
  · rw [iiA]; exact hy
theorem run_do {N b : Nat} (hN : 4000 ≤ N) (hc' : 1 ≤ b → RUNE N 20 1 20 15 (b - 1)) (hs : 1 ≤ b → RUNS N (b - 1)) : RUNU N b 11 (fun x => x = 416) := by
  intro n s u t P hI hp ht hu tu u15 hT hz h9 hb hc hn n1 hF hC
  have hN1 : 1000 ≤ N := by omega
  have hf := hI.1.f0
  have cs := hI.cd
  have gos := hI.2.2.2.2.2.2.2.2.2.2.2.1
  refine lp_11 tu (by omega) u15 hu.2.2.2.2.2.2.1 ?_
  unfold f_X12_repeats
  rw [if_pos (tp_ib tu (by omega)), tp_nat tu, if_pos hu.2.2.2.2.2.2.2.1]
  obtain ⟨R, eR, hR, xR⟩ := STA hN1 hI ht hz hu
  have mR := hR.mm
  obtain ⟨r1, r2, r3, r4, r5, r6, r7, r8, r9, r10, r11, r12, r13, r14⟩ := hR
  have r13 := r13 (by rw [hT]; decide)
  rw [eR]
  have cR := r1.cd
  show ok (((f_X12_emit N R 1 0).bind fun p5 => (f_X12_loopGoal N (RS.setA p5.2 66 t p5.1)).bind fun p7 => (f_X12_body N (RS.setA p7.2 68 t p7.1) 1).bind fun p9 => some p9).bind fun p => f_X12_parse_10 N n p) P
  rw [p_em 1 0 cR.1 cR.2.2]
  show ok (((f_X12_loopGoal N ((EM R 1 0).setA 66 t (R.i 20))).bind fun p7 => (f_X12_body N (RS.setA p7.2 68 t p7.1) 1).bind fun p9 => some p9).bind fun p => f_X12_parse_10 N n p) P
  obtain ⟨U, hU⟩ : ∃ U, U = (EM R 1 0).setA 66 t (R.i 20) := ⟨_, rfl⟩
  have mU : MM t s U := by rw [hU]; exact (mR.em hI (by omega)).loc _ (by omega) (by omega)
  have U21 : ∀ j : Nat, U.a 21 j = if j = (cdI R).toNat then 1 else R.a 21 j := fun j => by rw [hU, setA_nk (by decide), EM.a21]
  have U66 : (U.a 66 t).toInt = cdI R := by rw [hU, setA_at]; rfl
  have aU : ∀ k : Nat, k ≠ 21 → k ≠ 22 → k ≠ 23 → k ≠ 66 → U.a k = R.a k := fun k h1 h2 h3 h4 => by rw [hU, setA_nk h4, EM.a h1 h2 h3]
  have cU : cdI U = cdI s + 2 := by rw [hU]; exact (EM.cd (u := R) (o := 1) (x := 0) cR.1 cR.2.2).trans (by omega)
  have fU : fr U = fr R := by rw [hU]; rfl
  rw [← hU]
  clear hU
  have gU : goI U = goI s := mU.2.2.2.1.go
  have dU : deI U = deI s := mU.2.2.2.1.de
  have des := hI.2.2.2.2.2.2.2.2.2.2.2.2.1
  have gos4 : goI U < 460 := by omega
  obtain ⟨V, eV, hV⟩ := p_lg (N := N) hN1 (u := U) (by omega) gos4
  rw [eV]
  show ok (((f_X12_body N (RS.setA V 68 t (U.i 43)) 1).bind fun p23 => some p23).bind fun p => f_X12_parse_10 N n p) P
  have F1 := hV.f (t := t) (s := s) mU.2.2.1 mU.1.2.2.2.1 gos.1 gos4 (by omega)
  obtain ⟨γ0, hγ0⟩ : ∃ γ0, γ0 = (U.i 43).toNatClampNeg := ⟨_, rfl⟩
  rw [← hγ0] at F1
  obtain ⟨p1, p2, p3, p4, p5, p6, p7, p8, p9, p10, p11, p12, p13⟩ := id F1
  obtain ⟨B2, hB2⟩ : ∃ B2, B2 = V.setA 68 t (U.i 43) := ⟨_, rfl⟩
  have i2 : B2.i = V.i := by rw [hB2]; rfl
  have a2 : ∀ k : Nat, k ≠ 68 → B2.a k = V.a k := fun k hk => by rw [hB2]; exact setA_nk hk
  have a68 : B2.a 68 t = U.i 43 := by rw [hB2]; exact setA_at
  have k2 : KP t s B2 := by rw [hB2]; exact p12.loc t _ (by omega) (by omega) (Nat.le_refl _)
  have tb2 : TBL V B2 := by rw [hB2]; exact TBL.loc V t _ (by omega) (by omega)
  have b2 : B2.b = V.b := by rw [hB2]; rfl
  rw [← hB2]
  clear hB2
  have ib2 : ∀ j : Nat, j ≠ 43 → B2.i j = U.i j := fun j hj => by rw [i2]; exact p3 j hj
  have l2 : LXI B2 := mU.1.1.of (ib2 2 (by decide)) (ib2 10 (by decide)) (ib2 11 (by decide)) (ib2 12 (by decide)) (ib2 14 (by decide)) (by rw [b2]; exact p4)
  have t2 : tpI B2 = t := by unfold tpI; rw [ib2 63 (by decide)]; exact mU.2.1
  have r75 : B2.i 75 = 0 ∨ B2.i 75 = 1 := by rw [ib2 75 (by decide)]; exact mU.1.r
  rcases BODY (N := N) (u := B2) 1 l2 t2 h9 with ⟨S, eS, y1, y2⟩ | ⟨eS, y1⟩
  · rw [eS]
    exact lp_f y2 (hF S (FS'.of k2.1.1 y1 y2 r75)) n1
  rw [eS]
  show ok (f_X12_parse_10 N n (TH B2 t 1 2)) P
  have iV : INV V := inv_lgr mU.1 F1 (by omega)
  have iB2 : INV B2 := iV.tbl tb2 l2 y1 (by rw [i2]) (by rw [i2]) r75 (by unfold fr; rw [i2]; exact Int.le_refl _) (by have := iV.tk; unfold tkI fr at *; rw [i2]; exact this)
  have f2 : fr B2 = fr R := by have : fr B2 = fr U := by { unfold fr; rw [ib2 11 (by decide)] }; omega
  have kg := mU.2.2.1.2.2.2.2.2.2.1
  have b46U : bel 46 (goI s) s U := fun j _ => by rw [aU 46 (by decide) (by decide) (by decide) (by decide), r14 46 (by decide) (by decide) (by decide) (by decide)]
  have prl : PRL B2 := (PRS.lgr hp hV gU kg.2.1 b46U (by omega) gos4).tbl tb2
  have o2 : op B2 = op s := by
    have : op B2 = op U := by unfold op; rw [ib2 19 (by decide)]
    have := mU.2.2.2.1.eOp
    omega
  have f2f := iB2.1.f0
  refine CALLS (hs (by omega)) iB2 prl.prs t2 (by omega) (by omega) (by omega) (by omega) (fun u hu => hF u (FS'.kp k2 hu)) (fun m4 v2 hv2 hf2 hm4 => ?_)
  have fv2 := hv2.1.1.f0
  obtain ⟨m5, rfl⟩ : ∃ m5, m4 = m5 + 1 := ⟨m4 - 1, by omega⟩
  have push5 : ((m5 + 1 : Nat) : Int) = (m5 : Int) + 1 := by omega
  rw [push5] at hm4
  have a21 : ∀ j : Nat, B2.a 21 j = U.a 21 j := fun j => by rw [a2 21 (by decide), p5 21 (by omega)]
  have hdB : ∀ b : Bool, hd B2 b γ0 = -1 := fun b => by
    have : hd B2 b γ0 = hd V b γ0 := by
      unfold hd gv
      rw [a2 _ (by rcases bk_cases b with e | e <;> rw [e] <;> decide)]
    rw [this]; exact p9 b
  have ekR : (cdI s + 1).toNat = (cdI R).toNat := by rw [r9]
  refine DO1 (m := m5) (γ0 := γ0) hN hc' hI h9 hb hc hF k2 ?_ ?_ ?_ ?_ ?_ ?_ ?_ (by omega) ?_ (by omega) ?_ ?_ ?_ hdB ?_ ?_ ?_ ?_ hv2 (by omega) (fun m' u' hu' hf' hm' => hC m' u' hu' (by omega) (by omega))
  · have : cdI B2 = cdI U := by unfold cdI; rw [ib2 20 (by decide)]
    omega
  · rw [a21, U21, if_neg (by omega)]; exact r10
  · rw [a21, U21, if_pos ekR]
  · exact (ib2 38 (by decide)).trans mU.2.2.2.2.1
  · exact (ib2 19 (by decide)).trans mU.2.2.2.1.1
  · exact (ib2 52 (by decide)).trans mU.2.2.2.1.2.2.1
  · exact (ib2 56 (by decide)).trans mU.2.2.2.1.2.2.2
  · have := mU.2.2.2.2.2.2.2
    have e : tkI B2 = tkI U := by unfold tkI; rw [ib2 17 (by decide)]
    omega
  · have : goI B2 = goI V := by unfold goI; rw [i2]
    omega
  · rw [a2 44 (by decide)]; exact p7
  · unfold gv
    rw [a2 47 (by decide), p8]
    exact dU
  · exact mU.2.2.2.2.2.1.cg ib2
  · rw [a2 64 (by decide), p5 64 (by omega), aU 64 (by decide) (by decide) (by decide) (by decide)]; exact r11
  · rw [a2 66 (by decide), p5 66 (by omega), U66]; exact r9
  · rw [a68]
    show goI U = γ0
    omega
end
section
/-! reading: for: the loop's typing -/
theorem LAT.kpg {Z : Nat → Nat → Prop} {t : Nat} {s u w f : RS} (h1 : LAT Z s u w) (h : KP t w f) (hn : TN w) (hnew : ∀ (γ : Nat) (b : Bool) (L : List Nat) (k : Nat), goI w ≤ (γ : Int) → (γ : Int) < goI f → ISCH f (hd f b γ) L → k ∈ L → cdI w ≤ (k : Int)) : LAT Z s u f := by
  have h0 : LAT Z s w f := ⟨AGZ.of0 (AG0.kp h), fun k _ k2 z => by
    obtain ⟨γ, b, L, x1, x2, x3⟩ := z
    by_cases c : (γ : Int) < goI w
    · obtain ⟨M, m1, m2⟩ := hn γ b c
      obtain ⟨L1, c1, c2⟩ := h.2.2.2.2.2.2.2.1 γ b M c m1 m2
      have e := ISCH.uniq x2 c1
      rw [e] at x3
      rcases List.mem_append.mp x3 with r | r
      · have := (c2 k r).1; omega
      · exact ⟨γ, b, M, c, m1, r⟩
    · have := hnew γ b L k (by omega) x1 x2 x3; omega, h.2.2.2.2.1.1, h.2.2.2.2.2.1.2.1, fun j hj => by unfold gv; rw [h.2.2.2.2.1.2.2.2.1 j hj], fun j h1 h2 => (h.2.2.2.2.1.2.2.2.2.2 j h1 h2).1⟩
  exact h1.tr h0 (Int.le_refl _) (Int.le_refl _) (Int.le_refl _) (Int.le_refl _)
/-- an update's code: nothing is left -/
def TUP (s u : RS) : Prop := ∀ (f : RS) (C : Nat → Bool), AG0 s u f → AGC s u C → ∀ (h o v : Nat) (rs : List Rec), CX s h o v rs → COD f C (cdI s) h o v rs (fun g => ENB s u f g v rs ∧ FL f g v (cdI u) (cdI u) h o rs)
theorem TS.forl {t : Nat} {s A v1 U0 u1 B2 v2 W : RS} {xr xi xc xc' xb : Int32} {γ0 : Nat} {Lc Lb : List Nat} {jt : Prop} (hI0 : 0 ≤ cdI s) (kA : KP t s A) (cA : cdI A = cdI s) (A38 : A.i 38 = s.i 38) (A52 : A.i 52 = s.i 52) (fA : fr s ≤ fr A) (te : ¬ jt → TE A v1) (hjt : jt → cdI v1 = cdI A + 1 ∧ v1.a 21 (cdI A).toNat = 2 ∧ v1.a 22 (cdI A).toNat = 1) (k1 : KP t A v1) (i1 : INV v1) (d1 : v1.i 52 = s.i 52) (f1 : fr A ≤ fr v1) (f1' : fr s + 2 ≤ fr v1) (le1 : cdI A ≤ cdI v1)
  (kU : KP t v1 U0) (cU : cdI U0 = cdI v1 + 2) (U38 : U0.i 38 = s.i 38) (U52 : U0.i 52 = s.i 52) (fU : fr v1 ≤ fr U0) (tu : TUP U0 u1) (ku : KP t U0 u1) (fu1 : fr U0 ≤ fr u1) (kB1 : KP t v1 B2) (cB : cdI B2 = cdI u1 + 2) (B21q : B2.a 21 (cdI v1).toNat = 13) (B21r : B2.a 21 (cdI v1 + 1).toNat = 15) (B22r : B2.a 22 (cdI v1 + 1).toNat = xr) (hxr : xr.toInt = cdI u1 + 1) (B21u : B2.a 21 (cdI u1).toNat = 15) (B22u : B2.a 22 (cdI u1).toNat = xi) (hxi : xi.toInt = cdI A) (B21s : B2.a 21 (cdI u1 + 1).toNat = 1) (kB : KP t s B2) (B38 : B2.i 38 = s.i 38) (B52 : B2.i 52 = s.i 52) (fB : fr u1 ≤ fr B2) (g0 : (γ0 : Int) = goI s) (gv1 : goI v1 = goI s) (gB : goI B2 = goI s + 1) (B44 : B2.a 44 γ0 = 0) (B47 : gv B2 47 γ0 = deI s) (bB : ∀ b : Bool, hd B2 b γ0 = -1)
  (ts : TS B2 v2) (k2 : KP t B2 v2) (i2 : INV v2) (s2 : SAME B2 v2) (f2 : fr B2 ≤ fr v2) (L2u : LAT noZ U0 u1 v2) (hpp : PPR γ0 Lc Lb xc xb (fun k => k = (cdI v1).toNat) v2 W) (cW : cdI W = cdI v2 + 1) (hxc : xc.toInt = cdI U0) (hxb : xb.toInt = cdI W) (W1 : W.a 22 (cdI v1).toNat = xb) (W2 : W.a 21 (cdI v2).toNat = 15) (W3 : W.a 22 (cdI v2).toNat = xc') (hxc' : xc'.toInt = cdI U0) (hw : ∀ w : Nat, (w : Int) < waI v2 → gv v2 58 w ≤ γ0) (hr0 : ¬ jt → W.i 75 = 1) (hrb : v2.a 50 γ0 = 1 → W.i 75 = 1) (hse : seI v1 ≤ seI W) (w18 : W.i 18 = v2.i 18) (wf : ∀ k : Nat, 64 ≤ k → k ≤ 73 → bel k t v2 W) : TS s W := by
  intro f C hA hC h o lv rs hx hy
  have c1' := i1.cd
  have c2' := i2.cd
  have fv1 := i1.1.f0
  have fv2 := i2.1.f0
  have leu := ku.2.1.1
  have le2 := k2.2.1.1
  have ekA : ((cdI A).toNat : Int) = cdI A := Int.toNat_of_nonneg (by omega)
  have ekq : ((cdI v1).toNat : Int) = cdI v1 := Int.toNat_of_nonneg c1'.1
  have ekr : ((cdI v1 + 1).toNat : Int) = cdI v1 + 1 := Int.toNat_of_nonneg (by omega)
  have eku : ((cdI u1).toNat : Int) = cdI u1 := Int.toNat_of_nonneg (by omega)
  have eks : ((cdI u1 + 1).toNat : Int) = cdI u1 + 1 := Int.toNat_of_nonneg (by omega)
  have ek2 : ((cdI v2).toNat : Int) = cdI v2 := Int.toNat_of_nonneg c2'.1
  have t2 := i2.2.2.2.1
  have ns : ∀ k : Nat, k ∈ Lc ∨ k ∈ Lb → cdI B2 ≤ (k : Int) := fun k hk => by
    rcases hk with hk | hk
    · exact (new_sites k2 bB (by omega) hpp.2.2.2.2.1 k hk).1
    · exact (new_sites k2 bB (by omega) hpp.2.2.2.2.2.1 k hk).1
  have kv1W : KP t v1 W := (kB1.tr k2 (Nat.le_refl _)).ppr hpp t2 (by omega) hse w18 (fun k hk => by
    rcases hk with q | q | q
    · have := ns k (Or.inl q); omega
    · have := ns k (Or.inr q); omega
    · omega) wf
  have gW : goI W = goI v1 := by have := hpp.2.2.1; omega
  have L1 : LAT noZ A v1 W := (LAT.rf noZ A v1).kp kv1W i1.tn (by omega)
  have LU : LAT noZ U0 u1 W := hpp.lat t2 L2u (fun k h1 h2 e => by
    have e : k = (cdI v1).toNat := e
    omega)
  have L2 : LAT noZ B2 v2 W := hpp.lat t2 (LAT.rf noZ B2 v2) (fun k h1 h2 e => by
    have e : k = (cdI v1).toNat := e
    omega)
  have ksU : KP t s U0 := (kA.tr k1 (Nat.le_refl _)).tr kU (Nat.le_refl _)
  obtain ⟨A1, C1⟩ := L1.use hA hC kA k1
  obtain ⟨AU, CU⟩ := LU.use hA hC ksU ku
  obtain ⟨A2, C2⟩ := L2.use hA hC kB k2
  have hx2 := hx.2.1
  have hx4 := hx.2.2.2.1
  have kg := kB.2.2.2.2.2.2.1
  have y2 : YE B2 rs := hy.push gB g0 kg.2.1 kg.2.2.1 (by rw [B44]; decide)
  have c2 := ts f C A2 C2 h o (lv + 2) rs (hx.upv h (lv + 2) B52 (by omega) (by omega) (by omega) (by omega)) y2
  have cu := tu f C AU CU h o (lv + 1) rs (hx.upv h (lv + 1) U52 (by omega) (by omega) (by omega) (by omega))
  have w21 : ∀ k : Nat, (k : Int) < cdI B2 → W.a 21 k = B2.a 21 k := fun k hk => by rw [(hpp.2.2.2.2.2.2.1 k (by omega)).1, k2.2.1.2.1 k hk]
  have w22 : ∀ k : Nat, (k : Int) < cdI B2 → k ≠ (cdI v1).toNat → W.a 22 k = B2.a 22 k := fun k hk hne => by
    rw [hpp.2.2.2.2.2.2.2.1 k (by omega) (fun q => by have := ns k (Or.inl q); omega) (fun q => by have := ns k (Or.inr q); omega) hne, k2.2.1.2.2.1 k hk]
  obtain ⟨p1, p2, p3, p4⟩ := hA.cell (k := (cdI v1).toNat) (o := 13) (x := xb) (by omega) (by omega) (by rw [w21 _ (by omega)]; exact B21q) W1 (by decide)
  obtain ⟨q1, q2, q3, q4⟩ := hA.cell (k := (cdI v1 + 1).toNat) (o := 15) (x := xr) (by omega) (by omega) (by rw [w21 _ (by omega)]; exact B21r) (by rw [w22 _ (by omega) (by omega)]; exact B22r) (by decide)
  obtain ⟨u1', u2', u3', u4'⟩ := hA.cell (k := (cdI u1).toNat) (o := 15) (x := xi) (by omega) (by omega) (by rw [w21 _ (by omega)]; exact B21u) (by rw [w22 _ (by omega) (by omega)]; exact B22u) (by decide)
  obtain ⟨s1', s2', s3', s4'⟩ := hA.cell (k := (cdI u1 + 1).toNat) (o := 1) (by omega) (by omega) (by rw [w21 _ (by omega)]; exact B21s) rfl (by decide)
  obtain ⟨r1, r2, r3, r4⟩ := hA.cell (k := (cdI v2).toNat) (o := 15) (x := xc') (by omega) (by omega) W2 W3 (by decide)
  have d47 : (gv v2 47 γ0).toNat = rs.length := by
    have kg2 := k2.2.2.2.2.2.2.1
    have e : gv v2 47 γ0 = gv B2 47 γ0 := by unfold gv; rw [kg2.2.2.1 γ0 (by omega)]
    have := hx.1
    omega
  have v2d : v2.i 52 = s.i 52 := s2.2.2.1.trans B52
  have upd : COD f C (cdI U0) h o (lv + 1) rs (fun g => ENS s W f h o lv rs g ∧ FL f g lv (cdI A) (cdI A) h o rs) := by
    have cJ : COD f C (cdI u1).toNat h o (lv + 1) rs (fun g => ENS s W f h o lv rs g ∧ FL f g lv (cdI A) (cdI A) h o rs) := by
      refine COD.ins (hx.upv h (lv + 1) B52 (by omega) (by omega) (by omega) (by omega)) u4' (fun g _ hE => ⟨?_, (hE.1.1.1 _ (by omega)).mono (Nat.le_refl _) (by omega)⟩)
      have hF2 : FL f g (lv + 1) (((cdI u1).toNat : Int) + 1) (gv f 22 (cdI u1).toNat) h o rs := by
        rw [u2', hxi]
        exact hE.2.to (Or.inl (by omega))
      exact okJ_15 (c := (h, o, lv + 1, false, rs)) u1' hF2
    exact COD.seq cu cJ (fun g _ hE => hE) (fun g _ hE hF => ⟨⟨fun k hk => (hE.1.1.1 k (by omega)).mono (Nat.le_refl _) (by omega), (hE.1.1.mid ksU U38 (by omega) : ENB U0 u1 f g lv rs).2⟩, by rw [eku] at hF; exact hF⟩)
  have body : COD f C ((cdI u1 + 1).toNat) h o lv rs (fun g => ENS s W f h o lv rs g ∧ FL f g (lv + 1) (cdI U0) (cdI U0) h o rs) := by
    have env : ∀ g : Gh, ENS s W f h o lv rs g → FL f g (lv + 1) (cdI U0) (cdI U0) h o rs → (v2.i 75 = 1 → FL f g (lv + 2) (cdI v2) (cdI v2) h o rs) → ENS B2 v2 f h o (lv + 2) rs g := fun g hE hFA hx' => by
      refine ⟨⟨fun k hk => (hE.1.1 k (by omega)).mono (Nat.le_refl _) (by omega), (hE.1.mid kB B38 (by omega) : ENB B2 v2 f g lv rs).2⟩, hx', ?_⟩
      exact EJ.loop (lc := lv + 1) hE.2.2 hpp t2 hA (by omega) (by omega) (by omega) d47 hw (fun _ => by rw [hxc]; exact hFA) (fun q => by rw [hxb]; exact hE.2.1 (hrb q))
    have rest2 : COD f C (((cdI u1 + 1).toNat : Int) + 1) h o (lv + 2) rs (fun g => ENS s W f h o lv rs g ∧ FL f g (lv + 1) (cdI U0) (cdI U0) h o rs) := by
      have e : (((cdI u1 + 1).toNat : Int) + 1) = cdI B2 := by omega
      rw [e]
      by_cases cr : v2.i 75 = 1
      · have cJ : COD f C (cdI v2).toNat h o (lv + 2) rs (fun g => ENS s W f h o lv rs g ∧ FL f g (lv + 1) (cdI U0) (cdI U0) h o rs) := by
          refine COD.ins (hx.upv h (lv + 2) v2d (by omega) (by omega) (by omega) (by omega)) r4 (fun g _ hE => ⟨?_, (hE.1.1.1 _ (by omega)).mono (Nat.le_refl _) (by omega)⟩)
          have hF2 : FL f g (lv + 2) (((cdI v2).toNat : Int) + 1) (gv f 22 (cdI v2).toNat) h o rs := by
            rw [r2, hxc']
            exact hE.2.to (Or.inl (by omega))
          exact okJ_15 (c := (h, o, lv + 2, false, rs)) r1 hF2
        exact COD.seq c2 cJ (fun g _ hE => hE) (fun g _ hE hF => env g hE.1 hE.2 (fun _ => by rw [ek2] at hF; exact hF))
      · exact c2.imp (fun g _ hE => env g hE.1 hE.2 (fun q => absurd q cr))
    exact COD.stp (s := B2) (hx.upv h lv B52 (by omega) (by omega) (by omega) (by omega)) s4' s1' (fun g _ hE => hE.1.1.1 _ (by omega)) rest2
  have jr : COD f C (cdI v1 + 1).toNat h o lv rs (fun g => ENS s W f h o lv rs g ∧ FL f g lv (cdI A) (cdI A) h o rs) := by
    have j0 : COD f C (cdI v1 + 1).toNat h o lv rs (fun g => (ENS s W f h o lv rs g ∧ FL f g (lv + 1) (cdI U0) (cdI U0) h o rs) ∧ FL f g lv (cdI u1 + 1) (cdI u1 + 1) h o rs) := by
      refine COD.ins (hx.upv h lv d1 (by omega) (by omega) (by omega) (by omega)) q4 (fun g _ hE => ⟨?_, hE.1.1.1.1 _ (by omega)⟩)
      have hF2 : FL f g lv (((cdI v1 + 1).toNat : Int) + 1) (gv f 22 (cdI v1 + 1).toNat) h o rs := by
        rw [q2, hxr]
        exact hE.2.mono (Nat.le_refl _) (by omega)
      exact okJ_15 (c := (h, o, lv, false, rs)) q1 hF2
    have j1 : COD f C (cdI v1 + 1).toNat h o lv rs (fun g => ENS s W f h o lv rs g ∧ FL f g (lv + 1) (cdI U0) (cdI U0) h o rs) := COD.seq j0 body (fun g _ hE => hE) (fun g _ hE hF => ⟨hE, by rw [eks] at hF; exact hF⟩)
    exact COD.seq j1 upd (fun g _ hE => hE) (fun g _ hE hF => ⟨hE.1, hF⟩)
  rw [← cA]
  by_cases hj : jt
  · obtain ⟨j1, j2, j3⟩ := hjt hj
    have wA1 : W.a 21 (cdI A).toNat = 2 := by rw [kv1W.2.1.2.1 _ (by omega)]; exact j2
    have wA2 : W.a 22 (cdI A).toNat = 1 := by rw [kv1W.2.1.2.2.1 _ (by omega)]; exact j3
    obtain ⟨m1, m2, m3, m4⟩ := hA.cell (k := (cdI A).toNat) (o := 2) (x := 1) (by omega) (by omega) wA1 wA2 (by decide)
    have eA1 : (cdI A).toNat + 1 = (cdI v1).toNat := by omega
    have head := CODS.pj (s := v1) (f := f) (C := C) (k := (cdI A).toNat) (h := h) (o := o) (v := lv) (rs := rs) (E := fun g => ENS s W f h o lv rs g ∧ FL f g lv (cdI v1 + 1) (cdI v1 + 1) h o rs) (hx.upv h lv d1 (by omega) (by omega) (by omega) (by omega)) (hx.upv (h + 1) lv d1 (by omega) (by omega) (by omega) (by omega)) (by omega) m1 m2 (by rw [eA1]; exact p1) (fun g _ hE => ⟨hE.1.1.1 _ (by omega), hE.1.1.1 _ (by omega), by
      have e : ((cdI A).toNat : Int) + 2 = cdI v1 + 1 := by omega
      rw [e]; exact hE.2⟩)
    rw [ekA] at head
    exact (head.loop jr (fun g _ hE hF => ⟨hE, hF⟩) (fun g _ hE _ hF => ⟨hE, by rw [ekr] at hF; exact hF⟩)).cod
  · have c1 := te hj f C A1 C1 h o lv rs (hx.up h A52 fA (by omega) (by omega))
    have cz : COD f C (cdI v1).toNat (h + 1) o lv rs (fun g => ENS s W f h o lv rs g ∧ FL f g lv (cdI A) (cdI A) h o rs) := by
      have c13 : COD f C (cdI v1).toNat (h + 1) o lv rs (fun g => (ENS s W f h o lv rs g ∧ FL f g lv (cdI A) (cdI A) h o rs) ∧ FL f g lv (cdI v1 + 1) (cdI v1 + 1) h o rs) := by
        refine COD.ins (hx.upv (h + 1) lv d1 (by omega) (by omega) (by omega) (by omega)) p4 (fun g _ hE => ⟨?_, hE.1.1.1.1 _ (by omega)⟩)
        have hF1 : FL f g lv (((cdI v1).toNat : Int) + 1) (((cdI v1).toNat : Int) + 1) h o rs := by rw [ekq]; exact hE.2
        have hF2 : FL f g lv (((cdI v1).toNat : Int) + 1) (gv f 22 (cdI v1).toNat) h o rs := by
          rw [p2, hxb]
          exact (hE.1.1.2.1 (hr0 hj)).mono (Nat.le_refl _) (by omega)
        exact okJ_13 (c := (h + 1, o, lv, false, rs)) p1 ⟨by show 1 ≤ h + 1; omega, fun _ => hF2, hF1⟩
      exact COD.seq c13 jr (fun g _ hE => hE) (fun g _ hE hF => ⟨hE, by rw [ekr] at hF; exact hF⟩)
    exact (c1.loop cz (fun g _ hE hF => ⟨hE, hF⟩) (fun g _ hE _ hF => ⟨hE.1.mid kA A38 (by omega), by rw [ekq] at hF; exact hF⟩)).cod
end
