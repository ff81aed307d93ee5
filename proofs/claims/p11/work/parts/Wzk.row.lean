/-! both readers: a row is pushed -/
/-- rows of which sort and word are the same -/
def CSQ (S R : CS) (n : Nat) : Prop := ∀ i : Nat, i < n → R.r 51 i = S.r 51 i ∧ ∀ a : Nat, S.r 51 i = some a → R.o a 0 = S.o a 0 ∧ R.ol a = S.ol a
theorem CSQ.row {S R : CS} {n i : Nat} (h : CSQ S R n) (hn : NR S n) (hi : i < n) : rowA R i = rowA S i ∧ R.o (rowA S i) 0 = S.o (rowA S i) 0 ∧ R.ol (rowA S i) = S.ol (rowA S i) := by
  obtain ⟨a, e⟩ := hn i hi
  have q := h i hi
  have ea : rowA S i = a := by unfold rowA; rw [e]; rfl
  refine ⟨by unfold rowA; rw [q.1], ?_, ?_⟩
  · rw [ea]; exact (q.2 a e).1
  · rw [ea]; exact (q.2 a e).2
theorem CSQ.lo {S R : CS} {n m : Nat} (h : CSQ S R n) (hm : m ≤ n) : CSQ S R m := fun i hi => h i (by omega)
theorem CSQ.sums {S R : CS} : ∀ {n : Nat}, CSQ S R n → NR S n → WCS R n = WCS S n ∧ SGS R n = SGS S n ∧ BLS R n = BLS S n ∧ AMS R n = AMS S n ∧ KLS R n = KLS S n
  | 0, _, _ => ⟨rfl, rfl, rfl, rfl, rfl⟩
  | n + 1, h, hn => by
    obtain ⟨i1, i2, i3, i4, i5⟩ := CSQ.sums (h.lo (Nat.le_succ n)) (fun i hi => hn i (by omega))
    obtain ⟨r1, r2, r3⟩ := h.row hn (Nat.lt_succ_self n)
    refine ⟨?_, ?_, ?_, ?_, ?_⟩
    · unfold WCS cost; rw [i1, r1, r2, r3]
    · unfold SGS sgn; rw [i2, r1, r2]
    · unfold BLS; rw [i3, r1, r2]
    · unfold AMS; rw [i4, r1, r2]
    · unfold KLS; rw [i5, r1, r2, r3]
/-- rows are paid, where what they hold besides sort and word is other -/
theorem RWI.csq {S R : CS} (h : RWI S) (er : R.r = S.r) (eL : R.L = S.L) (ek : R.k = S.k) (eh : R.hs = S.hs) (ei : R.i 53 = S.i 53 ∧ R.i 44 = S.i 44 ∧ R.i 43 = S.i 43 ∧ R.i 34 = S.i 34) (eo : ∀ a : Nat, R.o a 0 = S.o a 0 ∧ R.ol a = S.ol a) : RWI R := by
  obtain ⟨h1, h2, h3, ⟨h4, h5⟩, h6, h7, h8⟩ := h
  obtain ⟨i53, i44, i43, i34⟩ := ei
  have cq : ∀ n : Nat, CSQ S R n := fun n i hi => ⟨by rw [er], fun a _ => eo a⟩
  have ec : cnI R = cnI S := by
    unfold cnI
    rw [i53]
  have sm := (cq (cnI S).toNat).sums h5
  unfold RWI
  rw [ec]
  refine ⟨fun i a hi ha => ?_, fun i j a hi hj ha hb => ?_, by rw [eL, eh]; exact h3, ⟨h4, fun i hi => by rw [er]; exact h5 i hi⟩, fun m hm => ?_, ?_, ?_⟩
  · rw [er] at ha
    have q := h1 i a hi ha
    unfold oK at *
    rw [eL, ek]
    exact q
  · rw [er] at ha hb
    exact h2 i j a hi hj ha hb
  · obtain ⟨i1, i2, i3, i4, i5⟩ := (cq m).sums (fun i hi => h5 i (by omega))
    rw [i1, i3, i4, i5]
    exact h6 m hm
  · rw [sm.1]
    have e44 : eI R = eI S := by
      unfold eI plI
      rw [i44, i43]
    rw [e44]
    exact h7
  · rw [sm.2.1]
    have e34 : sgI R = sgI S := by
      unfold sgI
      rw [i34]
    rw [e34]
    exact h8
theorem so_ne {S : CS} {a k b : Nat} {v : Int32} (h : b ≠ a) : (CS.setO S a k v).o b = S.o b := if_neg h
theorem so_at {S : CS} {a k : Nat} {v : Int32} : (CS.setO S a k v).o a k = v := by
  show va_up S.o a (va_up (S.o a) k v) a k = v
  unfold va_up
  rw [if_pos rfl, if_pos rfl]
theorem so_nk {S : CS} {a k b j : Nat} {v : Int32} (h : j ≠ k) : (CS.setO S a k v).o b j = S.o b j := by
  show va_up S.o a (va_up (S.o a) k v) b j = S.o b j
  unfold va_up
  by_cases c : b = a
  · subst c
    rw [if_pos rfl, if_neg h]
  · rw [if_neg c]
theorem ENV.so {d : Int32} {S : CS} {s : RS} {a k : Nat} {v : Int32} (h : ENV d S s) (hk : k ≠ 0) : ENV d (CS.setO S a k v) s := by
  have eo : ∀ b : Nat, (CS.setO S a k v).o b 0 = S.o b 0 ∧ (CS.setO S a k v).ol b = S.ol b := fun b => ⟨so_nk (fun z => hk z.symm), rfl⟩
  exact h.gx (fun _ _ _ _ _ _ _ _ => rfl) ⟨rfl, rfl, rfl⟩ rfl rfl (h.ri.csq rfl rfl rfl rfl ⟨rfl, rfl, rfl, rfl⟩ eo) h.sj h.t21
/-- row a is pushed at place m; what else it holds is no matter -/
def PSQ (S R : CS) (a m : Nat) (v x3 : Int32) : Prop := CKZ S R ∧ ((R.i 53).toInt = (S.i 53).toInt + 1 ∧ (R.i 54).toInt = (S.i 54).toInt + 1 ∧ R.i 55 = S.i 55 ∧ R.a 52 = S.a 52) ∧ (R.i 50 = S.i 50 ∧ R.i 56 = S.i 56 ∧ R.i 36 = S.i 36) ∧ ((S.i 53).toInt = (m : Int) ∧ m ≤ 380 ∧ R.r 51 m = some a) ∧ (R.o a 0 = v ∧ R.o a 1 = S.i 54 + 1 ∧ R.o a 3 = x3 ∧ R.o a 14 = S.i 55) ∧ (∀ i b : Nat, (i : Int) < (S.i 53).toInt → S.r 51 i = some b → b ≠ a)
/-- push, for a row of three bytes -/
theorem ENV.row {N : Nat} {d : Int32} {S : CS} {s : RS} {v : Int32} {p : Option Nat × CS} (h : ENV d S s) (nv : ¬ v = 300 ∧ ¬ v = 301 ∧ ¬ v = 302 ∧ ¬ v = 303) (pay : WCS S (cnI S).toNat + 3 ≤ eI S) (psg : SGS S (cnI S).toNat + (if v = 302 then 2 else if v = 301 ∨ v = 212 ∨ v = 218 ∨ v = 213 ∨ v = 215 ∨ v = 216 then 1 else 0) ≤ sgI S) (h54 : (S.i 54).toInt + 1 ≤ (s.i 11).toInt + 2) (e : f_X6_push N S v (S.i 38) (S.i 50) = some p) : ∃ a m : Nat, p.1 = some a ∧ PSR S p.2 a m v (S.i 50) ∧ ENV d p.2 s ∧ PSQ S p.2 a m v (S.i 50) := by
  obtain ⟨mm, hmm, m38⟩ := RWI.few h
  obtain ⟨a, ra, psr⟩ := y_push h.ri.s hmm (by omega) e
  have w35 := h.ri
  have hmm' : (S.i 53).toInt = (mm : Int) := hmm
  obtain ⟨sj1, sj2, sj3, sj4, sj5, sj6⟩ := id h.sj
  have hi := i11_hi h
  obtain ⟨zR, r53, r54, r55, r52, r21, r44⟩ := psr.z hmm' (by omega) ⟨sj1, by omega⟩
  obtain ⟨⟨b1, b2, b3⟩, j1, ⟨j53, j54⟩, rr1, rr2, rw3, nb, ob1, ⟨f0, f1, f3, fl⟩, ⟨f5, f6, f7, f8⟩, ⟨f9, f10, f11, f12, f14⟩⟩ := id psr
  have es : (cnI S).toNat = mm := by
    show (S.i 53).toInt.toNat = mm
    rw [hmm']
    exact Int.toNat_natCast _
  have nr := w35.2.2.2.1.2
  have iq := w35.2.2.2.2.1
  rw [es] at nr iq pay psg
  have rsq := psr.rsq (by omega)
  obtain ⟨u1, u2, u3, u4, u5⟩ := rsq.put nr rr1
  obtain ⟨iq2, wc2⟩ := iq.plain rsq nr rr1 ⟨by rw [f0]; exact nv.1, by rw [f0]; exact nv.2.1, by rw [f0]; exact nv.2.2.1, fun z => nv.2.2.2 (f0.symm.trans z.1)⟩
  have sgn1 : sgn p.2 a = (if v = 302 then 2 else if v = 301 ∨ v = 212 ∨ v = 218 ∨ v = 213 ∨ v = 215 ∨ v = 216 then 1 else 0) := by
    unfold sgn
    rw [f0]
  have e44 : eI p.2 = eI S := by
    unfold eI plI
    rw [j1 44 (by decide) (by decide), j1 43 (by decide) (by decide)]
  have e34 : sgI p.2 = sgI S := by
    unfold sgI
    rw [j1 34 (by decide) (by decide)]
  have wR : RWI p.2 := psr.ri w35 hmm' (by omega) iq2 (by rw [wc2, e44]; exact pay) (by rw [u2, sgn1, e34]; exact psg)
  exact ⟨a, mm, ra, psr, h.psh psr wR h54, zR, ⟨r53, r54, r55, r52⟩, ⟨j1 50 (by decide) (by decide), j1 56 (by decide) (by decide), j1 36 (by decide) (by decide)⟩, ⟨hmm', m38, rr1⟩, ⟨f0, f1, f3, f14⟩, fun i b hi hb => nb i b (by omega) (by omega) hb⟩
/-- the row gets what else it holds -/
theorem PSQ.so {S R : CS} {a m k : Nat} {v x3 w : Int32} (h : PSQ S R a m v x3) (hk : k ≠ 0 ∧ k ≠ 1 ∧ k ≠ 3 ∧ k ≠ 14) : PSQ S (CS.setO R a k w) a m v x3 := by
  obtain ⟨⟨c1, c2, c3, c4, c5, c6, c7, c8⟩, h2, h3, h4, ⟨f0, f1, f3, f14⟩, h6⟩ := h
  refine ⟨⟨c1, c2, fun i b hi hb => ?_, c4, c5, c6, c7, c8⟩, h2, h3, h4, ⟨(so_nk (fun z => hk.1 z.symm)).trans f0, (so_nk (fun z => hk.2.1 z.symm)).trans f1, (so_nk (fun z => hk.2.2.1 z.symm)).trans f3, (so_nk (fun z => hk.2.2.2 z.symm)).trans f14⟩, h6⟩
  have z := c3 i b hi hb
  rw [so_ne (h6 i b hi hb)]
  exact z
/-- and a piece that keeps it -/
theorem PSQ.cx {S R X : CS} {a m : Nat} {v x3 : Int32} (h : PSQ S R a m v x3) (hm : 0 ≤ (S.i 53).toInt) (g : CKX R X) (e54 : X.i 54 = R.i 54) (e55 : X.i 55 = R.i 55) (e52 : X.a 52 = R.a 52) : PSQ S X a m v x3 := by
  obtain ⟨c, ⟨h53, h54, h55, h52⟩, ⟨h50, h56, h36⟩, ⟨m1, m2, m3⟩, ⟨f0, f1, f3, f14⟩, h6⟩ := h
  have lt : (m : Int) < (R.i 53).toInt := by omega
  have er := g.2.1 m lt
  have eo := (g.2.2.1 m a lt m3).1
  obtain ⟨⟨g1, g2, g3, g4, g5, g6⟩, gz⟩ := id g
  have gc := g.z
  refine ⟨?_, ⟨by rw [g5]; exact h53, by rw [e54]; exact h54, e55.trans h55, e52.trans h52⟩, ⟨g4.trans h50, g6.trans h56, g2.trans h36⟩, ⟨m1, m2, er.trans m3⟩, ⟨by rw [eo]; exact f0, by rw [eo]; exact f1, by rw [eo]; exact f3, by rw [eo]; exact f14⟩, h6⟩
  obtain ⟨c1, c2, c3, c4, c5, c6, c7, c8⟩ := c
  obtain ⟨d1, d2, d3, d4, d5, d6, d7, d8⟩ := gc
  refine ⟨d1.trans c1, fun k hk => (d2 k (by omega)).trans (c2 k hk), fun k b hk hb => ?_, fun k hk => (d4 k (by rw [c1]; exact hk)).trans (c4 k hk), by omega, by omega, fun k hk => (d7 k (by omega)).trans (c7 k hk), fun k k1 k2 => ?_⟩
  · have z := c3 k b hk hb
    have y := d3 k b (by omega) ((c2 k hk).trans hb)
    exact ⟨y.1.trans z.1, y.2.trans z.2⟩
  · rw [e55, h55] at k2
    omega
/-- the reference faulted at int or var (or at what is no token); the class will in its next turn -/
def DMD (d : Int32) (B : CS) (R : CS) (U : RS) : Prop := ¬ U.i 15 = 0 ∧ (∃ u : RS, ENV d R u ∧ (u.i 10 = 410 ∨ u.i 10 = 411 ∨ u.i 10 = 6)) ∧ R.i 36 = 1 ∧ ∃ a m : Nat, (R.i 53).toInt = (m : Int) + 1 ∧ (m ≤ 380 ∧ (B.i 53).toInt ≤ (m : Int)) ∧ R.r 51 m = some a ∧ isOne (R.o a 0) ∧ R.o a 5 = 0
/-- a body begins in the reference -/
theorem r_body {N : Nat} {s V U : RS} {n : Nat} {st : Int32} (h15 : s.i 15 = 0) (hV : f_X12_body N s st = some V) (g : f_X12_parse_10 N n V = some U) : (¬ U.i 15 = 0 ∧ (s.i 10 = 410 ∨ s.i 10 = 411 ∨ s.i 10 = 6)) ∨ (f_X12_then N s st 2 = some V ∧ ¬ s.i 10 = 410 ∧ ¬ s.i 10 = 411 ∧ ¬ s.i 10 = 6) := by
  unfold f_X12_body at hV
  by_cases c1 : s.i 10 = 410
  · rw [if_pos c1] at hV
    obtain ⟨p, hp, hV⟩ := hf_bind hV
    obtain ⟨z1, z2⟩ := y_can0 hp
    rw [if_pos z1] at hV
    cases hV
    exact Or.inl ⟨u_flt g z2, Or.inl c1⟩
  rw [if_neg c1] at hV
  by_cases c2 : s.i 10 = 411
  · rw [if_pos c2] at hV
    obtain ⟨p, hp, hV⟩ := hf_bind hV
    obtain ⟨z1, z2⟩ := y_can0 hp
    rw [if_pos z1] at hV
    cases hV
    exact Or.inl ⟨u_flt g z2, Or.inr (Or.inl c2)⟩
  rw [if_neg c2] at hV
  by_cases c3 : s.i 10 = 6
  · obtain ⟨p, hp, hV⟩ := hf_bind hV
    obtain ⟨z1, z2⟩ := y_can6 c3 hp
    rw [if_pos z1] at hV
    cases hV
    exact Or.inl ⟨u_flt g z2, Or.inr (Or.inr c3)⟩
  rw [y_can1 h15 c3, ob_some] at hV
  have hV' : f_X12_body_32 N s st = some V := hV
  unfold f_X12_body_32 at hV'
  rw [ob_id] at hV'
  exact Or.inr ⟨hV', c1, c2, c3⟩
