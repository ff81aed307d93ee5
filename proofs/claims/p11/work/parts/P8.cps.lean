/-! the class's reading: a row is pushed -/
/-- a row a more, at place m -/
def PSH (s R : CS) (a m : Nat) (x1 x2 x3 : Int32) : Prop := (R.a = s.a ∧ R.b = s.b ∧ R.l = s.l) ∧ (∀ j : Nat, j ≠ 53 → j ≠ 54 → R.i j = s.i j) ∧ cnI R = (m : Int) + 1 ∧ R.r 51 m = some a ∧ (∀ j : Nat, j ≠ m → R.r 51 j = s.r 51 j) ∧ oK R a 0 ∧ (∀ i b : Nat, i < 400 → i ≠ m → s.r 51 i = some b → b ≠ a ∧ R.o b = s.o b ∧ R.ol b = s.ol b) ∧ (R.o a 0 = x1 ∧ R.o a 2 = x2 ∧ R.o a 3 = x3 ∧ R.ol a = 0) ∧ (R.o a 5 = 0 ∧ R.o a 6 = 0 ∧ R.o a 7 = 0 ∧ R.o a 8 = 0) ∧ (R.o a 9 = -1 ∧ R.o a 10 = -1 ∧ R.o a 11 = -1)
theorem q_psh48 {N : Nat} {s : CS} {x1 x2 x3 x4 : Int32} {a : Nat} (ha : oK s a 0) : ok (f_X6_push_48 N s x1 x2 x3 x4 a) (fun R => R.1 = some a ∧ (∃ g : Nat → Int32, OUV (CS.setI (CS.setI s 53 (x4 + 1)) 54 (s.i 54 + 1)) R.2 a g 0 ∧ (g 0 = x1 ∧ g 2 = x2 ∧ g 3 = x3) ∧ (g 5 = 0 ∧ g 6 = 0 ∧ g 7 = 0 ∧ g 8 = 0) ∧ (g 9 = -1 ∧ g 10 = -1 ∧ g 11 = -1))) := by
  unfold f_X6_push_48
  refine ok_chk ha (ok_some ⟨rfl, ?_⟩)
  generalize CS.setI (CS.setI s 53 (x4 + 1)) 54 (s.i 54 + 1) = B
  exact ⟨_, (((((((((((((((OUV.rf B a).o 0 x1).o 1 _).o 2 x2).o 3 x3).l 0).o 5 0).o 6 0).o 7 0).o 8 0).o 9 (-1)).o 10 (-1)).o 11 (-1)).o 12 0).o 14 _), ⟨rfl, rfl, rfl⟩, ⟨rfl, rfl, rfl, rfl⟩, ⟨rfl, rfl, rfl⟩⟩
theorem q_psh {N : Nat} {H : HB} {s : CS} (h : CBS H s) (x1 x2 x3 : Int32) (h3 : 0 ≤ x3.toInt ∧ x3.toInt ≤ 128) : ok (f_X6_push N s x1 x2 x3) (fun R => ∃ a m : Nat, R.1 = some a ∧ (m < 400 ∧ (cnI s ≤ 399 → (m : Int) = cnI s) ∧ (399 < cnI s → (m : Int) = 399)) ∧ CBS H R.2 ∧ PSH s R.2 a m x1 x2 x3) := by
  obtain ⟨c1, c2, c3, c4, c5, c6, ⟨c7, c7', c7''⟩, c8, c9⟩ := h
  unfold f_X6_push
  have e399 : (399 : Int32).toInt = 399 := by decide
  have e1 : (1 : Int32).toInt = 1 := by decide
  have cn0 : 0 ≤ (s.i 53).toInt := c7
  obtain ⟨q, hq⟩ : ∃ q : Int32, q = (if (399 : Int32) < (s.i 53) then (399 : Int32) else (s.i 53)) := ⟨_, rfl⟩
  have hq2 : (0 ≤ q.toInt ∧ q.toInt < 400) ∧ ((cnI s ≤ 399 → q.toInt = cnI s) ∧ (399 < cnI s → q.toInt = 399)) ∧ q.toInt ≤ cnI s := by
    by_cases c : (399 : Int32) < s.i 53
    · have l := lt_int c
      rw [e399] at l
      have l' : 399 < cnI s := l
      rw [hq, if_pos c, e399]
      exact ⟨by omega, ⟨fun z => by omega, fun _ => rfl⟩, by omega⟩
    · have l := le_int (Int32.not_lt.mp c)
      rw [e399] at l
      rw [hq, if_neg c]
      exact ⟨⟨cn0, by omega⟩, ⟨fun _ => rfl, fun z => by unfold cnI at z; omega⟩, Int.le_refl _⟩
  rw [← hq]
  clear hq
  obtain ⟨⟨q0, q4⟩, qe, qc⟩ := hq2
  have iq : ib q 400 := ⟨by omega, by omega⟩
  have cl := clampI q0
  obtain ⟨m, hm⟩ : ∃ m, m = q.toNatClampNeg := ⟨_, rfl⟩
  have em : (m : Int) = q.toInt := by rw [hm]; omega
  have m4 : m < 400 := by omega
  have eq1 : (q + 1).toInt = (m : Int) + 1 := by rw [toInt_add] <;> rw [e1] <;> omega
  rw [← hm]
  refine ok_chk iq ?_
  -- from a state whose row m is a
  have main : ∀ (V : CS) (a : Nat), REFS V → ROOMB H V → (V.i = s.i ∧ V.a = s.a ∧ V.b = s.b ∧ V.l = s.l) → V.r 51 m = some a → (∀ j : Nat, j ≠ m → V.r 51 j = s.r 51 j) → (∀ x : Nat, x ≠ a → oK s x 0 → V.o x = s.o x ∧ V.ol x = s.ol x) → oK V a 0 → ok (f_X6_push_48 N V x1 x2 x3 q a) (fun R => ∃ a m : Nat, R.1 = some a ∧ (m < 400 ∧ (cnI s ≤ 399 → (m : Int) = cnI s) ∧ (399 < cnI s → (m : Int) = 399)) ∧ CBS H R.2 ∧ PSH s R.2 a m x1 x2 x3) := fun V a rV mV vs vm vn vo oa => by
    refine ok_imp (q_psh48 oa) (fun R hR => ?_)
    obtain ⟨r1, g, hO, ⟨g0, g2, g3⟩, ⟨g5, g6, g7, g8⟩, ⟨g9, g10, g11⟩⟩ := hR
    obtain ⟨R, T⟩ := R
    obtain ⟨⟨b1, b2, b3, b4, b5, b6, b7, b8, b9, b10⟩, b11, b12, b13⟩ := hO
    obtain ⟨w1, w2, w3, w4⟩ := vs
    have Ti : ∀ j : Nat, j ≠ 53 → j ≠ 54 → T.i j = s.i j := fun j y1 y2 => by
      show T.i j = s.i j
      rw [show T.i = _ from b10, ci_ne _ _ _ y2, ci_ne _ _ _ y1, w1]
    have T53 : T.i 53 = q + 1 := by
      show T.i 53 = q + 1
      rw [show T.i = _ from b10, ci_ne _ _ _ (by decide), ci_at]
    have Ta : T.a = s.a := (show T.a = V.a from b9).trans w2
    have Tb : T.b = s.b := (show T.b = V.b from b7).trans w3
    have Tl : T.l = s.l := (show T.l = V.l from b8).trans w4
    have Tr : T.r = V.r := b5
    have Th : T.hs = V.hs := b1
    have TL : T.L = V.L := b2
    have Tk : T.k = V.k := b3
    have Tt : T.ot = V.ot := b4
    have Tw : T.w = V.w := b6
    have To : ∀ x : Nat, x ≠ a → T.o x = V.o x ∧ T.ol x = V.ol x := b11
    have Tg : T.o a = g := b12
    have Tgl : T.ol a = 0 := b13
    clear b1 b2 b3 b4 b5 b6 b7 b8 b9 b10 b11 b12 b13
    have rT : REFS T := by unfold REFS inP oK at *; rw [Th, TL, Tk, Tt, Tr, Tw]; exact rV
    have mT : ROOMB H T := by
      refine ⟨by have := mV.1; unfold ROOM at *; rw [Th, Tr]; exact this, by rw [Tr]; exact mV.2.1, fun q => ?_⟩
      have etc : tcI T = tcI V := by unfold tcI; rw [Ti 21 (by decide) (by decide), w1]
      rw [etc, Ta, ← w2]
      exact mV.2.2 (by rw [w1]; exact (Ti 32 (by decide) (by decide)).symm.trans q)
    have okT : oK T a 0 := by unfold oK at *; rw [TL, Tk]; exact oa
    have ecn : cnI T = (m : Int) + 1 := by unfold cnI; rw [T53]; exact eq1
    have Trm : T.r 51 m = some a := by rw [Tr]; exact vm
    have Trn : ∀ j : Nat, j ≠ m → T.r 51 j = s.r 51 j := fun j hj => by rw [Tr]; exact vn j hj
    have oth : ∀ i b : Nat, i < 400 → i ≠ m → s.r 51 i = some b → b ≠ a ∧ T.o b = s.o b ∧ T.ol b = s.ol b := fun i b hi hne e => by
      have nb : b ≠ a := fun z => hne (rT.2.2.1 i m a hi m4 (by rw [Trn i hne, e, z]) Trm)
      have o1 := To b nb
      have o2 := vo b nb (c1.2.1 i b hi e)
      exact ⟨nb, o1.1.trans o2.1, o1.2.trans o2.2⟩
    refine ⟨a, m, r1, ⟨m4, fun z => by have := qe.1 z; omega, fun z => by have := qe.2 z; omega⟩, ⟨rT, mT, ?_, ?_, ?_, ?_, ⟨?_, ?_, fun i hi => ?_⟩, fun i b hi e => ?_, ?_⟩, ⟨Ta, Tb, Tl⟩, Ti, ecn, Trm, Trn, okT, oth, ⟨by rw [Tg]; exact g0, by rw [Tg]; exact g2, by rw [Tg]; exact g3, Tgl⟩, ⟨by rw [Tg]; exact g5, by rw [Tg]; exact g6, by rw [Tg]; exact g7, by rw [Tg]; exact g8⟩, ⟨by rw [Tg]; exact g9, by rw [Tg]; exact g10, by rw [Tg]; exact g11⟩⟩
    · show LC T
      unfold LC AB BY at *
      rw [Ta, Ti 41 (by decide) (by decide), Ti 42 (by decide) (by decide), Ti 43 (by decide) (by decide), Ti 44 (by decide) (by decide), Ti 45 (by decide) (by decide), Tl]
      exact c3
    · show WDC T
      unfold WDC at *; rw [Tb]; exact c4
    · show ¬ T.i 32 = 0 → T.i 43 = 0
      rw [Ti 32 (by decide) (by decide), Ti 43 (by decide) (by decide)]; exact c5
    · show 0 ≤ nmI T ∧ nmI T ≤ 128
      unfold nmI at *; rw [Ti 50 (by decide) (by decide)]; exact c6
    · show 0 ≤ cnI T
      omega
    · show cnI T ≤ 400
      omega
    · have hi : i < (cnI T).toNat := hi
      show ∃ a, T.r 51 i = some a
      by_cases c : i = m
      · rw [c]; exact ⟨a, Trm⟩
      · rw [Trn i c]; exact c7'' i (by omega)
    · have e : T.r 51 i = some b := e
      show (bo (T.o b 5) ∧ bo (T.o b 6) ∧ bo (T.o b 7) ∧ bo (T.o b 8)) ∧ (0 ≤ (T.o b 3).toInt ∧ (T.o b 3).toInt ≤ 128)
      by_cases c : i = m
      · rw [c, Trm] at e
        cases e
        rw [Tg, g5, g6, g7, g8, g3]
        exact ⟨⟨Or.inl rfl, Or.inl rfl, Or.inl rfl, Or.inl rfl⟩, h3⟩
      · rw [Trn i c] at e
        have o := oth i b hi c e
        rw [o.2.1]
        exact c8 i b hi e
    · show bo (T.i 36) ∧ (bo (T.i 14) ∧ (T.i 13).toInt ≤ 12) ∧ bo (T.i 27)
      rw [Ti 36 (by decide) (by decide), Ti 14 (by decide) (by decide), Ti 13 (by decide) (by decide), Ti 27 (by decide) (by decide)]; exact c9
  cases hc : CS.r s 51 m with
  | some a => exact main s a c1 c2 ⟨rfl, rfl, rfl, rfl⟩ hc (fun _ _ => rfl) (fun _ _ _ => ⟨rfl, rfl⟩) (c1.2.1 m a m4 hc)
  | none =>
    show ok ((f_X5_init N (CS.new s 0) (CS.hs s)).bind fun p5 => if ib q 400 then if oK p5.2 (CS.hs s) 0 then f_X6_push_48 N (CS.setR p5.2 51 m (some (CS.hs s))) x1 x2 x3 q (CS.hs s) else none else none) _
    unfold f_X5_init
    show ok (if ib q 400 then if oK (CS.new s 0) (CS.hs s) 0 then f_X6_push_48 N (ONW s m) x1 x2 x3 q (CS.hs s) else none else none) _
    obtain ⟨i1, i2, ⟨i3, i4, i5, i6, i7⟩, i8, i9, i10, i11⟩ := ONW.in c1 c2.1 m4 hc
    refine ok_chk iq (ok_chk ⟨by rw [cL_new]; exact List.mem_append_right _ (List.mem_singleton.mpr rfl), by rw [ck_new]; exact if_pos rfl⟩ ?_)
    exact main (ONW s m) s.hs i1 ⟨i2, fun i a e => by
      have e2 := c2.2.1 i a e
      have ne : i ≠ m := fun z => by rw [z, hc] at e2; cases e2
      rw [i9 i ne]; exact e2, fun q => by
      have etc : tcI (ONW s m) = tcI s := by unfold tcI; rw [i3]
      rw [etc, i4]
      exact c2.2.2 (by rw [← i3]; exact q)⟩ ⟨i3, i4, i5, i6⟩ i8 i9 (fun x hx _ => i10 x hx) i11
