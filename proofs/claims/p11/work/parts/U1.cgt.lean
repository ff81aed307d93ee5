/-! the class's reading: a turn of a switch's groups -/
theorem q_grp59 {N : Nat} {H : HB} (hN : 10000000000 ≤ N) {E1 : CS → Option (Unit × CS)} {E2 : CS → Option (Int32 × CS)} {x y : Int} {c : List Nat} {X : List (Nat × List Nat)} {P : List Nat} {T : List Int} {σ s : CS} {a m b : Nat} {x2 x3 : Int32} (hx : x ≤ 4400) (hy : y ≤ 91) (ht : TUR σ a m) (hs : σ.o a 0 = 218) (h13 : (σ.o a 13).toInt ≤ ccI σ) (h : JJ H x (y + 1) c ((b, c) :: X) (b :: P) (ccI σ :: T) s) (hr : s.r 51 m = some a) (ho : s.o = σ.o) (hb : x2.toInt = (b : Int)) (hm : s.i 32 = 0 → SX 0 0 0 σ s ∧ 200 ≤ (s.i 43).toInt ∧ (¬ x3 = 0 → s.i 43 = 219)) : ok (f_X7_groupTurn_59 N E1 E2 s a x2 x3) (fun R => TNQ H (x - 100) y X P T σ R.2 ∧ (R.2.i 32 = 0 → R.2.o a 0 = 218)) := by
  have hN1 : 1000 ≤ N := by omega
  obtain ⟨nf, hmm, ea, nr, m4⟩ := (show TUR σ a m from ht)
  have hX : ∀ q ∈ X, q ∈ (b, c) :: X := fun q hq => List.mem_cons_of_mem _ hq
  have bX : (b, c) ∈ (b, c) :: X := List.mem_cons_self ..
  unfold f_X7_groupTurn_59
  refine ok_bind (q_advC hN1 h.1) (fun q hq => ?_)
  obtain ⟨j1, e1⟩ := h.word hq (fun z => (hm z).2.1)
  have j1 := j1.w (x' := x) (y' := y) (by omega) (by omega)
  have qr : q.2.r 51 m = some a := by rw [hq.1.1.2.2.2.2.2.2.2.1]; exact hr
  have qo : q.2.o = σ.o := hq.1.1.2.2.2.1.trans ho
  have f32 := hq.f32
  have e2 : q.2.i 32 = 0 → SX 2 3 0 σ q.2 := fun z => ((hm (f32.symm.trans z)).1.tr (e1 z)).w (by omega) (by omega) (by omega)
  have rc : q.2.i 32 = 0 → cnI q.2 = (m : Int) + 1 := fun z => by
    rw [← hmm]; unfold cnI; rw [(e2 z).2.2.2.1.2.1]
  have ecc : q.2.i 32 = 0 → ccI q.2 = ccI σ := fun z => by unfold ccI; rw [(e2 z).2.2.2.1.2.2.2]
  refine ok_ite (fun _ => ?_) (fun c3 => ?_)
  · refine ok_chk (j1.1.1.2.1 m a m4 qr) ?_
    have cb := j1.1.o a 11 x2 (by omega) (by omega)
    have ou := (OUV.rf q.2 a).o 11 x2
    have oj : ∀ j : Nat, j ≠ 11 → (CS.setO q.2 a 11 x2).o a j = q.2.o a j := fun j hj => by
      rw [show (CS.setO q.2 a 11 x2).o a = upd (q.2.o a) 11 x2 from ou.2.2.1]
      exact if_neg hj
    have o11 : (CS.setO q.2 a 11 x2).o a 11 = x2 := by
      rw [show (CS.setO q.2 a 11 x2).o a = upd (q.2.o a) 11 x2 from ou.2.2.1]
      exact if_pos rfl
    have tl := ou.t2 j1.1.1 m4 qr
    have Ri : (CS.setO q.2 a 11 x2).i = q.2.i := ci_setO ..
    have Ra : (CS.setO q.2 a 11 x2).a = q.2.a := ca_setO ..
    have Rr : (CS.setO q.2 a 11 x2).r = q.2.r := cr_setO ..
    have Rl : (CS.setO q.2 a 11 x2).ol = q.2.ol := col_setO ..
    have md : q.2.i 32 = 0 → MDL 0 0 0 q.2 (CS.setO q.2 a 11 x2) := fun z => MDL.cel z j1.1.1 (rc z) m4 qr ou
    generalize CS.setO q.2 a 11 x2 = R at *
    have j2 : JK H x y c c c ((b, c) :: X) (b :: P) (ccI σ :: T) R := by
      refine j1.k.top cb (by rw [Ri]) qr (by rw [Rr]; exact qr) (fun z => ⟨rc z, ⟨⟨by rw [Ra], by rw [Ra], by rw [Ra], by rw [Ra], by rw [Ra]⟩, by rw [Ri], by rw [Ri], by rw [Ri], by rw [Ri]⟩, tl.1.2, ⟨by rw [Ri], by rw [Ri], by rw [Ri], by rw [Ri], by rw [Ri]⟩, by rw [Rl], oj 3 (by omega)⟩) (fun z => ?_) (fun z => Or.inl (oj 0 (by omega))) (fun z => ?_) (fun z DT KT c0 lim0 qX r => ?_) (fun z k hk => Or.inl hk) (fun z t _ w _ => Or.inr ?_) (fun z n _ w => w) (fun z => (j1.2 z).1.lim)
      · have n := (j1.2 z).2.2.2.2.2.2.2.2.1
        unfold dsI at *
        rw [Ri]
        exact n
      · have n := (j1.2 z).2.2.2.2.2.2.2.1
        have em : (cnI q.2).toNat = m + 1 := by have := rc z; omega
        rw [em] at n
        have nr' : NR q.2 m := fun i hi => j1.1.2.2.2.2.2.2.1.2.2 i (by have := rc z; omega)
        have i2 := (tl.1.2.sums nr').2.1
        have g0 : sgn R a = sgn q.2 a := by unfold sgn; rw [oj 0 (by omega)]
        have er := rowA.of (show R.r 51 m = some a by rw [Rr]; exact qr)
        have es := rowA.of qr
        have e : SGS R (m + 1) = SGS q.2 (m + 1) := by
          show SGS R m + sgn R (rowA R m) = SGS q.2 m + sgn q.2 (rowA q.2 m)
          rw [i2, er, es, g0]
        rw [e]
        exact n
      · have hs' : q.2.o a 0 = 218 := by rw [qo]; exact hs
        have w := r.sw hs'
        obtain ⟨r1, r2, -⟩ := r
        obtain ⟨w1, w2, w3, w4, l0, T0, w5, w6, w7, w8⟩ := w
        have et : tcI R = tcI q.2 := by unfold tcI; rw [Ri]
        refine ROW1.mkS (by rw [oj 2 (by omega)]; exact r1) (by rw [oj 3 (by omega), Ra]; exact r2) (by rw [oj 0 (by omega)]; exact hs') ⟨w1, by rw [oj 9 (by omega), et]; exact w2, by rw [oj 10 (by omega), et]; exact w3, Or.inr ?_, l0, T0, w5, by rw [oj 13 (by omega)]; exact w6, by rw [oj 13 (by omega)]; exact w7, fun i v1 v2 => ?_⟩
        · rw [o11, et, ← w1]; exact TTc.x qX hb bX
        · rw [oj 13 (by omega)] at v1
          rw [Ra, et]
          exact w8 i v1 v2
      · unfold OWS at *
        rw [oj 0 (by omega), oj 9 (by omega), oj 10 (by omega)]
        exact w
    have Rcc : R.i 32 = 0 → ccI R = ccI σ := fun z => by
      have z' : q.2.i 32 = 0 := by rw [← Ri]; exact z
      rw [← ecc z']; unfold ccI; rw [Ri]
    have j3 : JJ H x y c ((b, c) :: X) (b :: P) (ccI R :: T) R := ⟨j2.1, fun z => by rw [Rcc z]; exact j2.2 z⟩
    refine q_grp87 hN1 (by omega) (by omega) ht hs hX j3 (by rw [Rr]; exact qr) ⟨hb, bX⟩ (p := 2) (g := 3) (by omega) (by omega) (fun z => ?_)
    have z' : q.2.i 32 = 0 := by rw [← Ri]; exact z
    exact ⟨((e2 z').mid.tr (md z')).w (by omega) (by omega) (by omega), by rw [oj 0 (by omega), qo]; exact hs⟩
  · refine ok_chk (j1.1.1.2.1 m a m4 qr) ?_
    refine ok_bind (q_caseNumber hN (by omega) (by omega) j1.rb _ _ (fun R hR => ?_)) (fun r hr' => ?_)
    · have z := hR.1
      have z0 := f32.symm.trans z
      have w := e2 z
      have n3 := (h.2 z0).2.2.1
      have g4 := (hq.gain h.1.2.2.1).2.2.2.2.2.2 (Or.inr ((hm z0).2.2 c3))
      have n5 := hR.2.1.1
      have c1 := ecc z
      have c2 : ccI s = ccI σ := by unfold ccI; rw [(hm z0).1.2.2.2.1.2.2.2]
      omega
    have jr := hr'.1.bk j1.1 (fun z => (hr'.2 z).1)
    have rr := (hr'.1.1.st m4 qr).1
    have ro : r.2.i 32 = 0 → r.2.o a = q.2.o a := fun z => by
      have w := hr'.2 z
      have rq := w.2.2.2.2.2.1
      have := rc w.1
      exact ((rq m (by omega)).2 a qr).1
    have rcn : r.2.i 32 = 0 → cnI r.2 = (m : Int) + 1 := fun z => by
      have w := hr'.2 z
      rw [← rc w.1]; unfold cnI; rw [w.2.2.2.2.1.2.2.1]
    have j4 : JK H (x - 50) y c c c ((b, c) :: X) (b :: P) (ccI r.2 :: T) r.2 := jr.k.lims rr rcn (fun z => by rw [ro z, qo]; exact hs) (fun z => ⟨by
      have w := hr'.2 z
      have ecq := ecc w.1
      have ecr := w.2.2.1
      rw [ro z, qo]; omega, Int.le_refl _⟩) (fun z i i1 i2 => ⟨b, by
        have w := hr'.2 z
        have ecq := ecc w.1
        have ecr := w.2.2.1
        have n3 := (j1.2 w.1).2.2.1.1
        have e19 := w.2.2.2.2.2.2.2.2.1
        have : i = (ccI q.2).toNat := by omega
        rw [this, e19]; exact hb, bX⟩)
    refine ok_imp (q_grp87 hN1 (x := x - 50) (by omega) (by omega) ht hs hX j4.j rr ⟨hb, bX⟩ (p := 3) (g := 3) (by omega) (by omega) (fun z => ⟨((e2 (hr'.2 z).1).mid.tr (hr'.2 z).mid).w (by omega) (by omega) (by omega), by rw [ro z, qo]; exact hs⟩)) (fun R hR => ⟨⟨hR.1.1, fun v => ?_⟩, hR.2⟩)
    obtain ⟨⟨c', jc⟩, tn⟩ := hR.1.2 v
    exact ⟨⟨c', jc.w (by omega) (Int.le_refl _)⟩, tn⟩
theorem q_grp20 {N : Nat} {H : HB} (hN : 10000000000 ≤ N) {E1 : CS → Option (Unit × CS)} {E2 : CS → Option (Int32 × CS)} {x y : Int} {c : List Nat} {X : List (Nat × List Nat)} {P : List Nat} {T : List Int} {σ : CS} {a m : Nat} (hx : x ≤ 4000) (hy : y ≤ 90) (h : JJ H x y c X P (ccI σ :: T) σ) (ht : TUR σ a m) (hs : σ.o a 0 = 218) (htk : σ.i 43 = 219 ∨ σ.i 43 = 220) : ok (f_X7_groupTurn_20 N E1 E2 σ a) (fun R => TNQ H x y X P T σ R.2 ∧ (R.2.i 32 = 0 → R.2.o a 0 = 218)) := by
  have hN1 : 1000 ≤ N := by omega
  obtain ⟨nf, hmm, ea, nr, m4⟩ := (show TUR σ a m from ht)
  obtain ⟨DT0, KT0, c0, lim0, r0⟩ := h.row ht
  have h13 : (σ.o a 13).toInt ≤ ccI σ := by
    obtain ⟨-, -, -, -, l, T', w1, -, w3, -⟩ := r0.sw hs
    rw [(List.cons.inj w1).1]
    exact w3
  have tc0 := (h.2 nf).1.tc0.1
  unfold f_X7_groupTurn_20
  refine ok_bind (q_newTarget N σ) (fun p hp => ?_)
  obtain ⟨p1, p2⟩ := hp
  have j1 := h.new p1 (by omega) (by omega) c
  have eb : p.1.toInt = ((tcI σ).toNat : Int) := by rw [p2]; show tcI σ = _; omega
  obtain ⟨b, hb⟩ : ∃ b, b = (tcI σ).toNat := ⟨_, rfl⟩
  rw [← hb] at j1 eb
  have pr : p.2.r 51 m = some a := by rw [p1.1.2.2.2.2.2.2.1]; exact ea
  have po : p.2.o = σ.o := p1.1.2.2.2.1
  have ptk : p.2.i 43 = σ.i 43 := p1.f.2.1
  have wd : ∀ v : Int32, v = 219 ∨ v = 220 → 200 ≤ v.toInt := fun v e => by
    rcases e with e | e <;> rw [e] <;> decide
  refine ok_bind (q_found p.2 219) (fun q hq => ?_)
  obtain ⟨q1, q2⟩ := hq
  rw [q1]
  have fin : ∀ s : CS, JJ H x (y + 1) c ((b, c) :: X) (b :: P) (ccI σ :: T) s → s.r 51 m = some a → s.o = σ.o → (s.i 32 = 0 → SX 0 0 0 σ s ∧ 200 ≤ (s.i 43).toInt ∧ (¬ q.1 = 0 → s.i 43 = 219)) → ok (f_X7_groupTurn_59 N E1 E2 s a p.1 q.1) (fun R => TNQ H x y X P T σ R.2 ∧ (R.2.i 32 = 0 → R.2.o a 0 = 218)) := fun s js sr so sm =>
    ok_imp (q_grp59 hN (by omega) (by omega) ht hs h13 js sr so eb sm) (fun R hR => ⟨⟨hR.1.1, fun v => by
      obtain ⟨⟨c', jc⟩, tn⟩ := hR.1.2 v
      exact ⟨⟨c', jc.w (by omega) (Int.le_refl _)⟩, tn⟩⟩, hR.2⟩)
  have fin0 := fin p.2 j1 pr po (fun z => ⟨p1.sx nf, by rw [ptk]; exact wd _ htk, fun n => by
    rcases q2 with ⟨w, -⟩ | ⟨-, w⟩
    · exact absurd w n
    · exact w⟩)
  refine ok_ite (fun c1 => ?_) (fun _ => fin0)
  refine ok_chk (j1.1.1.2.1 m a m4 pr) ?_
  refine ok_ite (fun _ => fin0) (fun _ => ?_)
  refine ok_bind (q_failC j1.1 4 _ (by decide)) (fun f hf => ?_)
  exact fin f.2 (JJ.flt j1.1 hf) (by rw [hf.1.2.2.2.2.2.2.2.1]; exact pr) (hf.1.2.2.2.1.trans po) (fun z => absurd z hf.2.2.2.1)
/-- a turn of a switch: another row stands on top only if it is not one behind a try -/
theorem q_groupTurn {N : Nat} {H : HB} (hN : 10000000000 ≤ N) {k : Int} {E1 : CS → Option (Unit × CS)} {E2 : CS → Option (Int32 × CS)} (hE : ∀ b, EC (H.1, b) k E1) (hE2 : ∀ b, EC2 (H.1, b) k E2) {x y : Int} {c : List Nat} {X : List (Nat × List Nat)} {P : List Nat} {T : List Int} {σ : CS} {a m : Nat} (hx : x ≤ 3900) (hy : y + 3 * k ≤ 87 ∧ 0 ≤ k) (h : JJ H x y c X P (ccI σ :: T) σ) (h0 : S0G σ) (hk : 24 - sgI σ ≤ k) (ht : TUR σ a m) (hs : σ.o a 0 = 218) : ok (f_X7_groupTurn N E1 E2 σ a) (fun R => TNQ H x y X P T σ R.2 ∧ (R.2.i 32 = 0 → R.2.o a 0 = 218 ∨ SRL σ R.2)) := by
  obtain ⟨nf, hmm, ea, nr, m4⟩ := (show TUR σ a m from ht)
  unfold f_X7_groupTurn
  have g20 : (σ.i 43 = 219 ∨ σ.i 43 = 220) → ok (f_X7_groupTurn_20 N E1 E2 σ a) (fun R => TNQ H x y X P T σ R.2 ∧ (R.2.i 32 = 0 → R.2.o a 0 = 218 ∨ SRL σ R.2)) := fun e =>
    ok_imp (q_grp20 hN (by omega) (by omega) h ht hs e) (fun R hR => ⟨hR.1, fun z => Or.inl (hR.2 z)⟩)
  refine ok_bind (q_found σ 219) (fun p hp => ?_)
  obtain ⟨p1, p2⟩ := hp
  rw [p1]
  rcases p2 with ⟨p2, p3⟩ | ⟨p2, p3⟩
  · rw [if_pos p2]
    refine ok_bind (q_found σ 220) (fun q hq => ?_)
    obtain ⟨q1, q2⟩ := hq
    rw [q1]
    rcases q2 with ⟨q2, q3⟩ | ⟨q2, q3⟩
    · rw [if_pos q2]
      refine ok_chk (h.1.1.2.1 m a m4 ea) (ok_ite (fun _ => ?_) (fun _ => ?_))
      · refine ok_bind (q_misp h.1) (fun f hf => ok_some ?_)
        have j := JJ.flt (H := H) (x := x) (y := y) (c := c) (X := X) (P := P) (lim := ccI σ :: T) h.1 hf
        exact ⟨⟨j.1, fun z => absurd z hf.2.2.2.1⟩, fun z => absurd z hf.2.2.2.1⟩
      · exact ok_bind (q_statement hN hE hE2 hx (by omega) h h0 hk 0) (fun r hr => ok_some ⟨hr.tq (by omega), fun z => Or.inr (hr.2 z).2⟩)
    · rw [q2, if_neg (by decide)]
      exact g20 (Or.inr q3)
  · rw [p2, if_neg (by decide)]
    exact g20 (Or.inl p3)
