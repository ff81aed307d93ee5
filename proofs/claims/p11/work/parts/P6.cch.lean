/-! the class's reading: a choice, whole -/
def CHX (c : List Nat) (X : List (Nat × List Nat)) (s0 s : CS) (d e : Nat) (x1 x2 x3 : Int32) : Prop := CHS c X s0 s 8 ∧ x3 = s0.i 22 ∧ (x1.toInt = (d : Int) ∧ (d, c) ∈ X) ∧ (x2.toInt = (e : Int) ∧ (e, c) ∈ X)
theorem q_ch122 {N : Nat} {H : HB} (hN : 10000000000 ≤ N) {E1 : CS → Option (Unit × CS)} {E2 : CS → Option (Int32 × CS)} {x y : Int} {c : List Nat} {X : List (Nat × List Nat)} {P : List Nat} {lim : List Int} {s0 σ : CS} {d e : Nat} {x1 x2 x3 x4 : Int32} (hx : x ≤ 3900) (hy : y ≤ 90) (h0 : S0F s0) (hz : 0 ≤ sgI s0) (hl : lmh lim ≤ ccI s0) (h : JJ H x y c X (d :: e :: P) lim σ) (hs : σ.i 32 = 0 → CHX c X s0 σ d e x1 x2 x3 ∧ ∃ m : Nat, x4.toInt = (m : Int) ∧ (m, c) ∈ X) : ok (f_X1_choice_122 N E1 E2 σ x1 x2 x3 x4) (fun R => JJ H (x - 98) y c X P lim R.2 ∧ (R.2.i 32 = 0 → EXR s0 R.2)) := by
  have hN1 : 1000 ≤ N := by omega
  unfold f_X1_choice_122
  refine ok_bind (q_clos hN1 h (fun nf => ?_) 125 (by decide)) (fun p hp => ?_)
  · obtain ⟨⟨w, -⟩, -⟩ := hs nf
    obtain ⟨i1, i2, i3, i4, i5⟩ := w.2.2.1.2.1.sums h0.1
    have ecn : cnI σ = cnI s0 := by unfold cnI; rw [w.2.2.1.1.2.2.1]
    have esg := w.2.1
    have := h0.2.1
    rw [ecn, i2]
    omega
  obtain ⟨j1, m1⟩ := hp
  refine ok_bind (q_aim N p.2 x1) (fun q hq => ?_)
  have fq := hq.f
  have j2 : JJ H (x - 100) y c X (e :: P) lim q.2 := j1.aimF hq (by omega) (by omega) (fun nf => by
    obtain ⟨⟨-, -, z, -⟩, -⟩ := hs (m1 nf).1
    refine ⟨⟨d, z⟩, fun m hm => ?_⟩
    rcases List.mem_cons.mp hm with e | e
    · right; rw [e]; exact z.1.symm
    · exact Or.inl e)
  have m2 : q.2.i 32 = 0 → MOV (-1) σ q.2 := fun nf => by
    have w := m1 (fq.1.symm.trans nf)
    refine ⟨w.1, ⟨by rw [fq.2.1]; exact w.2.1.1, by rw [fq.2.2]; exact w.2.1.2⟩, ?_, w.2.2.2.tr hq.smr.x⟩
    rw [← w.2.2.1]
    unfold sgI
    rw [hq.smr.1.1]
  clear m1 j1 fq hq
  refine ok_bind (q_addCases hN (by omega) (by omega) j2 x3 x4 (fun nf => ?_)) (fun r hr => ?_)
  · have w := m2 nf
    obtain ⟨⟨ch, e3, -, -⟩, z4⟩ := hs w.1
    have ecc : ccI q.2 = ccI σ := by unfold ccI; rw [w.2.2.2.1.2.2.2.2.1]
    have e3' : x3.toInt = ccI s0 := by rw [e3]; rfl
    have le := ch.2.2.1.2.2.2.2
    refine ⟨⟨by rw [e3']; exact h0.2.2.2.1, by omega, by omega⟩, fun i q1 q2 => ?_, z4⟩
    rw [ecc] at q2
    rw [(w.2.2.2.2.2.2 i q2).2]
    exact ch.2.2.2.2 i (by omega) q2
  obtain ⟨j3, a3, c3⟩ := hr
  refine ok_bind (q_aim N r.2 x2) (fun u hu => ok_some ?_)
  have r32 : r.2.i 32 = q.2.i 32 := a3.2.1 32 (by decide) (by decide)
  have fu := hu.f
  show JJ H (x - 98) y c X P lim u.2 ∧ (u.2.i 32 = 0 → EXR s0 u.2)
  refine ⟨(j3.aimF hu (by omega) (by omega) (fun nf => ?_)).w (by omega) (Int.le_refl _), fun nf => ?_⟩
  · obtain ⟨⟨-, -, -, z⟩, -⟩ := hs (m2 (r32.symm.trans nf)).1
    refine ⟨⟨e, z⟩, fun m hm => ?_⟩
    rcases List.mem_cons.mp hm with e | e
    · right; rw [e]; exact z.1.symm
    · exact Or.inl e
  · have w := m2 (r32.symm.trans (fu.1.symm.trans nf))
    obtain ⟨⟨ch, e3, -, -⟩, -⟩ := hs w.1
    obtain ⟨k1, k2, k3, ⟨k4, k5, k6⟩, k7⟩ := ch
    have sc := k3.tr w.2.2.2.smc
    obtain ⟨⟨s1, s2, s3, s4, s5⟩, s6, s7, s8, s9⟩ := sc
    have ui : ∀ j : Nat, j ≠ 20 → j ≠ 22 → u.2.i j = q.2.i j := fun j q1 q2 => by rw [hu.2.1]; exact a3.2.1 j q1 q2
    have ua : ∀ k : Nat, k ≠ 15 → k ≠ 16 → k ≠ 17 → u.2.a k = q.2.a k := fun k q1 q2 q3 => (hu.2.2.1 k q3).trans (a3.2.2 k q1 q2)
    have upl : plI u.2 = plI q.2 := by unfold plI; rw [ui 44 (by decide) (by decide)]
    have ue : eI u.2 = eI q.2 := by unfold eI; rw [upl, ui 43 (by decide) (by decide)]
    have w21 := w.2.1
    have g0 := eI.ge s0
    refine ⟨k1, ⟨by omega, by omega⟩, ⟨?_, (ui 38 (by decide) (by decide)).trans s1, (ui 50 (by decide) (by decide)).trans s2, (ui 53 (by decide) (by decide)).trans s3, (ui 56 (by decide) (by decide)).trans s4, ?_, (ui 36 (by decide) (by decide)).trans s5⟩, ?_, fun n hn => ?_, fun i hi => ?_⟩
    · rw [ui 34 (by decide) (by decide)]
      refine Int32.toInt_inj.mp ?_
      have : sgI q.2 = sgI σ + -1 := w.2.2.1
      show sgI q.2 = sgI s0
      omega
    · rw [hu.2.1, c3]; exact e3
    · refine s6.tr (fun i _ => ⟨?_, fun a _ => ⟨?_, ?_⟩⟩)
      · rw [hu.1.2.2.2.2.2.2.1, a3.1.2.2.2.2.2.2.1]
      · rw [hu.1.2.2.2.1, a3.1.2.2.2.1]
      · rw [hu.1.2.2.2.2.1, a3.1.2.2.2.2.1]
    · rw [ua 49 (by decide) (by decide) (by decide)]; exact s7 n hn
    · rw [ua 18 (by decide) (by decide) (by decide), ua 19 (by decide) (by decide) (by decide)]; exact s8 i hi
theorem q_ch113 {N : Nat} {H : HB} (hN : 10000000000 ≤ N) {E1 : CS → Option (Unit × CS)} {E2 : CS → Option (Int32 × CS)} {x y : Int} {c : List Nat} {X : List (Nat × List Nat)} {P : List Nat} {lim : List Int} {s0 σ : CS} {d e : Nat} {x1 x2 x3 x4 : Int32} (hx : x ≤ 3900) (hy : y ≤ 90) (h0 : S0F s0) (hz : 0 ≤ sgI s0) (hl : lmh lim ≤ ccI s0) (h : JJ H x y c X (d :: e :: P) lim σ) (hs : σ.i 32 = 0 → CHX c X s0 σ d e x1 x2 x3 ∧ (x4.toInt < 0 ∨ ∃ m : Nat, x4.toInt = (m : Int) ∧ (m, c) ∈ X)) : ok (f_X1_choice_113 N E1 E2 σ x1 x2 x3 x4) (fun R => JJ H (x - 98) y c X P lim R.2 ∧ (R.2.i 32 = 0 → EXR s0 R.2)) := by
  unfold f_X1_choice_113
  refine ok_ite (fun c4 => ?_) (fun c4 => ?_)
  · have l := le_int c4
    rw [z_t0] at l
    refine q_ch122 hN hx (by omega) h0 hz hl h (fun nf => ⟨(hs nf).1, ?_⟩)
    rcases (hs nf).2 with z | z
    · omega
    · exact z
  · refine ok_bind (q_misp h.1) (fun p hp => ?_)
    exact q_ch122 (d := d) (e := e) hN hx (by omega) h0 hz hl (JJ.flt h.1 hp) (fun nf => absurd nf hp.2.2.2.1)
theorem q_ch69 {N : Nat} {H : HB} (hN : 10000000000 ≤ N) {k : Int} {E1 : CS → Option (Unit × CS)} {E2 : CS → Option (Int32 × CS)} (hE : EC H k E1) (hB : ABC H k (f_X7_armBlock N E1 E2)) {x y : Int} {c : List Nat} {P : List Nat} {lim : List Int} {s0 : CS} {d e : Nat} {x1 x2 x3 : Int32} (hx : x ≤ 3900) (hy : y + 3 * k ≤ 87 ∧ 0 ≤ k) (h0 : S0F s0) (hz : 0 ≤ sgI s0) (hl : lmh lim ≤ ccI s0) (hk : 22 - sgI s0 ≤ k) : ∀ (n : Nat) (σ : CS) (x4 x5 : Int32) (X : List (Nat × List Nat)), 0 ≤ x5.toInt → x5.toInt ≤ 900 → 900 - x5.toInt < n → JJ H x y c X (d :: e :: P) lim σ → (σ.i 32 = 0 → CHX c X s0 σ d e x1 x2 x3 ∧ (x4.toInt < 0 ∨ ∃ m : Nat, x4.toInt = (m : Int) ∧ (m, c) ∈ X)) → ok (f_X1_choice_69 N E1 E2 n σ x1 x2 x3 x4 x5) (fun R => JJ H (x - 98) y c X P lim R.2 ∧ (R.2.i 32 = 0 → EXR s0 R.2))
  | 0, _, _, _, _, _, _, h, _, _ => by omega
  | n + 1, σ, x4, x5, X, z0, z9, hn, hj, hs => by
    show ok (b_X1_choice_69 N E1 E2 (f_X1_choice_69 N E1 E2 n) σ x1 x2 x3 x4 x5) _
    unfold b_X1_choice_69
    have e9 : (900 : Int32).toInt = 900 := by decide
    have e1 : (1 : Int32).toInt = 1 := by decide
    have out : ok (f_X1_choice_113 N E1 E2 σ x1 x2 x3 x4) (fun R => JJ H (x - 98) y c X P lim R.2 ∧ (R.2.i 32 = 0 → EXR s0 R.2)) := q_ch113 hN hx (by omega) h0 hz hl hj hs
    refine ok_ite (fun _ => out) (fun c9 => ?_)
    have l : x5.toInt < 900 := by
      have := lt_int (Int32.not_le.mp c9)
      rw [e9] at this; exact this
    have es : (x5 + 1).toInt = x5.toInt + 1 := by rw [toInt_add] <;> rw [e1] <;> omega
    have go : (σ.i 43 = 219 ∨ σ.i 43 = 220) → ok ((f_X1_arm N E1 E2 σ x3 x4 x2).bind fun p60 => f_X1_choice_69 N E1 E2 n p60.2 x1 x2 x3 p60.1 (x5 + 1)) (fun R => JJ H (x - 98) y c X P lim R.2 ∧ (R.2.i 32 = 0 → EXR s0 R.2)) := fun ht => by
      have nf : σ.i 32 = 0 := by
        by_cases z : σ.i 32 = 0
        · exact z
        · have := hj.1.2.2.2.2.1 z
          rcases ht with ht | ht <;> rw [ht] at this <;> exact absurd this (by decide)
      obtain ⟨⟨ch, t3, t1, t2⟩, t4⟩ := hs nf
      refine ok_bind (q_arm hN hE hB hx (by omega) h0 hk t3 hj nf ht t4 ⟨e, t2⟩ ch) (fun p hp => ?_)
      obtain ⟨X', hX, jp, sp⟩ := hp
      refine ok_imp (q_ch69 hN hE hB hx (by omega) h0 hz hl hk n p.2 p.1 (x5 + 1) X' (by omega) (by omega) (by omega) jp (fun z => ⟨⟨(sp z).1, t3, ⟨t1.1, hX _ t1.2⟩, ⟨t2.1, hX _ t2.2⟩⟩, (sp z).2⟩)) (fun R hR => ⟨hR.1.sub hX, hR.2⟩)
    refine ok_bind (q_found σ 219) (fun p hp => ?_)
    obtain ⟨p1, p2⟩ := hp
    rw [p1]
    rcases p2 with ⟨p2, p3⟩ | ⟨p2, p3⟩
    · rw [if_pos p2]
      refine ok_bind (q_found σ 220) (fun q hq => ?_)
      obtain ⟨q1, q2⟩ := hq
      rw [q1]
      rcases q2 with ⟨q2, q3⟩ | ⟨q2, q3⟩
      · rw [if_pos q2]; exact out
      · rw [q2, if_neg (by decide)]; exact go (Or.inr q3)
    · rw [p2, if_neg (by decide)]; exact go (Or.inl p3)
theorem q_choice {N : Nat} {H : HB} (hN : 10000000000 ≤ N) {k : Int} {E1 : CS → Option (Unit × CS)} {E2 : CS → Option (Int32 × CS)} (hE : EC H k E1) (hB : ABC H k (f_X7_armBlock N E1 E2)) (x y : Int) (c : List Nat) (X : List (Nat × List Nat)) (P : List Nat) (lim : List Int) (s : CS) (hx : x ≤ 3900) (hy : y + 3 * k ≤ 87 ∧ 0 ≤ k) (h : JJ H x y c X P lim s) (hk : s.i 32 = 0 → 23 - sgI s ≤ k + 1) (ht : s.i 43 = 218) (nf : s.i 32 = 0) : ok (f_X1_choice N E1 E2 s) (fun R => JJ H (x - 50) y c X P lim R.2 ∧ (R.2.i 32 = 0 → EXR s R.2)) := by
  have hN1 : 1000 ≤ N := by omega
  have hk := hk nf
  have nb := (h.2 nf).2
  have gw := (h.2 nf).1
  have s0f : S0F s := ⟨h.1.2.2.2.2.2.2.1.2.2, nb.2.2.2.2.2.2.1, nb.2.2.2.2.2.1, nb.2.1.1, nb.2.1.2⟩
  have es0 : eI s = plI s := by
    unfold eI
    rw [if_pos (Or.inr (by rw [ht]; decide))]; omega
  have sg0 := nb.2.2.2.1.1
  unfold f_X1_choice
  refine ok_bind (q_advC hN1 h.1) (fun a ha => ?_)
  have gn := ha.gain h.1.2.2.1
  have g7 := gn.2.2.2.2.2.2 (Or.inl ht)
  have ga := eI.ge a.2
  have ja : JJ H (x - 400) (y - 4) c X P lim a.2 := h.adv ha (fun _ => ⟨by omega, by omega⟩)
  have ea : a.2.i 32 = 0 → EXR s a.2 := (h.tk ha (fun _ => by rw [ht]; decide)).2
  refine ok_bind (q_open hN1 ja.1 40) (fun b hb => ?_)
  obtain ⟨jb, mb⟩ := ja.op (by decide) hb
  refine ok_bind (q_expression (E2 := E2) hN1 hE _ _ c X P lim b.2 (by omega) (by omega) jb (fun z => ?_)) (fun f hf => ?_)
  · have w := mb z
    have := w.2.2.1
    have := (ea w.1).sg
    omega
  obtain ⟨jf, ef⟩ := hf
  have mf : f.2.i 32 = 0 → MOV 1 s f.2 ∧ plI s + 6 ≤ plI f.2 := fun z => by
    have w1 := ef z
    have w2 := mb w1.1
    have w3 := ea w2.1
    refine ⟨?_, by have := w1.2.1.1; have := w2.2.1.1; omega⟩
    have := (w3.mv.tr w2).tr w1.mv
    exact this
  refine ok_bind (q_clos hN1 jf (fun z => ?_) 41 (by decide)) (fun g hg => ?_)
  · have w := (mf z).1
    obtain ⟨i1, i2, i3, i4, i5⟩ := w.2.2.2.2.1.sums s0f.1
    have ecn : cnI f.2 = cnI s := by unfold cnI; rw [w.2.2.2.1.2.2.1]
    have := w.2.2.1
    have := s0f.2.1
    rw [ecn, i2]
    omega
  obtain ⟨jg, mg⟩ := hg
  refine ok_bind (q_open hN1 jg.1 123) (fun o ho => ?_)
  obtain ⟨jo, mo⟩ := jg.op (by decide) ho
  have so : o.2.i 32 = 0 → MOV 1 s o.2 ∧ plI s + 8 ≤ plI o.2 := fun z => by
    have w1 := mo z
    have w2 := mg w1.1
    obtain ⟨w3, w4⟩ := mf w2.1
    refine ⟨?_, by have := w1.2.1.1; have := w2.2.1.1; omega⟩
    have := (w3.tr w2).tr w1
    exact this
  clear mg mf ef mb ea hb ho ha
  refine ok_bind (q_newTarget N o.2) (fun p hp => ?_)
  obtain ⟨t1, t2⟩ := hp
  have f1 := t1.f
  have j1 := jo.new t1 (by omega) (by omega) c
  obtain ⟨d, hd⟩ : ∃ d, d = (tcI o.2).toNat := ⟨_, rfl⟩
  rw [← hd] at j1
  refine ok_bind (q_newTarget N p.2) (fun q hq => ?_)
  obtain ⟨u1, u2⟩ := hq
  have f2 := u1.f
  have j2 := j1.new u1 (by omega) (by omega) c
  obtain ⟨e, he⟩ : ∃ e, e = (tcI p.2).toNat := ⟨_, rfl⟩
  rw [← he] at j2
  have nfo : q.2.i 32 = 0 → o.2.i 32 = 0 := fun z => f1.1.symm.trans (f2.1.symm.trans z)
  have ed : q.2.i 32 = 0 → p.1.toInt = (d : Int) := fun z => by
    have := (jo.2 (nfo z)).1.tc0.1
    rw [t2]; show tcI o.2 = _; omega
  have ee : q.2.i 32 = 0 → q.1.toInt = (e : Int) := fun z => by
    have := (j1.2 (f2.1.symm.trans z)).1.tc0.1
    rw [u2]; show tcI p.2 = _; omega
  have md : (d, c) ∈ (e, c) :: (d, c) :: X := List.mem_cons_of_mem _ (List.mem_cons_self ..)
  have me : (e, c) ∈ (e, c) :: (d, c) :: X := List.mem_cons_self ..
  refine ok_bind (q_add N q.2 30 p.1) (fun r hr => ?_)
  have j3 := j2.add hr (by omega) (by omega) (fun z DT KT qX _ _ => IOK.jmp (by decide) (ed z) md qX)
  have sr : SMR o.2 r.2 := (t1.smr.tr u1.smr).tr hr.smr
  have rpl : plI r.2 = plI o.2 := by rw [hr.pl.1, f2.2.2.1, f1.2.2.1]
  have rel : eI r.2 = eI o.2 := by rw [hr.pl.2, f2.2.2.2, f1.2.2.2]
  have jj : JJ H (x - 700) (y - 2) c ((e, c) :: (d, c) :: X) (d :: e :: P) lim r.2 := by
    have w := j3.w (x' := x - 700) (y' := y - 2) (by omega) (by omega)
    refine ⟨w.1, fun z => ⟨?_, (w.2 z).2⟩⟩
    obtain ⟨D, DT, KT, k1, k2, k3, k4⟩ := (w.2 z).1
    refine ⟨D, DT, KT, k1, k2, fun t a1 a2 a3 => ?_, k4⟩
    rcases k3 t a1 a2 a3 with y1 | y1
    · left
      rcases List.mem_cons.mp y1 with y2 | y2
      · rw [y2]; exact List.mem_cons_of_mem _ (List.mem_cons_self ..)
      · rcases List.mem_cons.mp y2 with y3 | y3
        · rw [y3]; exact List.mem_cons_self ..
        · exact List.mem_cons_of_mem _ (List.mem_cons_of_mem _ y3)
    · exact Or.inr y1
  refine ok_imp (q_ch69 (x3 := q.2.i 22) hN hE hB (by omega) (by omega) s0f sg0 gw.lim (by omega) N r.2 (-1) 0 _ (by decide) (by decide) (by rw [z_t0]; omega) jj (fun z => ⟨⟨?_, ?_, ⟨ed (hr.f32.1.symm.trans z), md⟩, ⟨ee (hr.f32.1.symm.trans z), me⟩⟩, Or.inl (by decide)⟩)) (fun R hR => ⟨(hR.1.sub (fun q hq => List.mem_cons_of_mem _ (List.mem_cons_of_mem _ hq))).w (by omega) (by omega), hR.2⟩)
  · obtain ⟨w, w8⟩ := so (nfo (hr.f32.1.symm.trans z))
    have sx := w.2.2.2.tr sr.x
    have ecc : ccI r.2 = ccI s := by unfold ccI; rw [sx.1.2.2.2.2.1]
    have esg : sgI r.2 = sgI o.2 := by unfold sgI; rw [sr.1.1]
    have w3 := w.2.2.1
    have w4 := w.2.1.2
    have kd := (KD.le r.2 (ccI s) (ccI r.2)).1
    exact ⟨nf, by omega, sx.smc, ⟨by omega, by omega, by omega⟩, fun i q1 q2 => by omega⟩
  · obtain ⟨w, -⟩ := so (nfo (hr.f32.1.symm.trans z))
    have := (t1.smr.tr u1.smr).1.2.2.2.2.2.1
    exact this.trans w.2.2.2.1.2.2.2.2.1
