/-! the class's reading: break, continue, yield -/
theorem isLp.d (v : Int32) : isLp v ∨ ¬ isLp v := Classical.em _
theorem q_near7 {N : Nat} {H : HB} {s : CS} (h : CBS H s) (x1 : Int32) : ∀ (n : Nat) (x2 : Int32), x2.toInt < cnI s → x2.toInt - (s.i 56).toInt < n → ok (f_X6_nearest_7 N (n + 1) s x1 x2) (fun R => R.2 = s ∧ (R.1 < 0 ∨ (∃ a : Nat, 0 ≤ R.1.toInt ∧ R.1.toInt < cnI s ∧ s.r 51 R.1.toInt.toNat = some a ∧ (isLp (s.o a 0) ∨ (x1 = 0 ∧ s.o a 0 = 218)))))
  | n, x2, hc, hn => by
    show ok (b_X6_nearest_7 N (f_X6_nearest_7 N n) s x1 x2) _
    unfold b_X6_nearest_7 f_X6_nearest_46
    refine ok_ite (fun c => ok_some ⟨rfl, Or.inl (by show (-1 : Int32) < 0; decide)⟩) (fun c => ?_)
    have l := lt_int (Int32.not_le.mp c)
    have cn := h.2.2.2.2.2.2.1
    have em : (-1 : Int32).toInt = -1 := by decide
    have bl := Int32.le_toInt (s.i 56)
    have es : (x2 + -1).toInt = x2.toInt - 1 := by rw [toInt_add] <;> rw [em] <;> omega
    obtain ⟨n', rfl⟩ : ∃ n', n = n' + 1 := ⟨n - 1, by omega⟩
    have go := q_near7 (N := N) h x1 n' (x2 + -1) (by omega) (by omega)
    refine ok_bind (q_row (N := N) h x2) (fun p hp => ?_)
    obtain ⟨p1, p2⟩ := hp
    rw [p1]
    rcases p2 with ⟨p2, p3⟩ | ⟨a, p2, p3, p4, p5⟩
    · rw [p2]; exact go
    · rw [p2]
      show ok (if oK s a 0 then (f_X5_isLoop N s a).bind fun p10 => (if p10.1 = 0 then (if x1 = 0 then if oK p10.2 a 0 then (if (CS.o p10.2 a 0) = 218 then some (x2, p10.2) else f_X6_nearest_7 N (n' + 1) p10.2 x1 (x2 + -1)) else none else f_X6_nearest_7 N (n' + 1) p10.2 x1 (x2 + -1)) else some (x2, p10.2)) else none) _
      refine ok_chk p5 (ok_bind (q_isLoop (N := N) p5) (fun q hq => ?_))
      obtain ⟨q1, q2⟩ := hq
      rw [q1]
      rcases q2 with ⟨q2, q3⟩ | ⟨q2, q3⟩
      · rw [if_pos q2]
        refine ok_ite (fun cx => ok_chk p5 (ok_ite (fun c2 => ok_some ⟨rfl, Or.inr ⟨a, p3.1, p3.2, p4, Or.inr ⟨cx, c2⟩⟩⟩) (fun _ => go))) (fun _ => go)
      · rw [q2, if_neg (by decide)]
        exact ok_some ⟨rfl, Or.inr ⟨a, p3.1, p3.2, p4, Or.inl q3⟩⟩
  termination_by n => n
theorem q_nearest {N : Nat} {H : HB} (hN : 10000000000 ≤ N) {s : CS} (h : CBS H s) (x1 : Int32) : ok (f_X6_nearest N s x1) (fun R => R.2 = s ∧ (R.1 < 0 ∨ (∃ a : Nat, 0 ≤ R.1.toInt ∧ R.1.toInt < cnI s ∧ s.r 51 R.1.toInt.toNat = some a ∧ (isLp (s.o a 0) ∨ (x1 = 0 ∧ s.o a 0 = 218))))) := by
  unfold f_X6_nearest
  obtain ⟨N', rfl⟩ : ∃ N', N = N' + 1 := ⟨N - 1, by omega⟩
  have cn := h.2.2.2.2.2.2.1
  have c0 : 0 ≤ (s.i 53).toInt := cn.1
  have c4 : (s.i 53).toInt ≤ 400 := cn.2.1
  have e1 : (1 : Int32).toInt = 1 := by decide
  have bl := Int32.le_toInt (s.i 56)
  have es : (s.i 53 - 1).toInt = (s.i 53).toInt - 1 := by rw [toInt_sub] <;> rw [e1] <;> omega
  exact q_near7 h x1 N' (s.i 53 - 1) (by show _ < (s.i 53).toInt; omega) (by omega)
theorem q_lb4 {N : Nat} {H : HB} {s : CS} (h : CBS H s) : ∀ (n : Nat) (x2 : Int32), 0 ≤ x2.toInt → x2.toInt ≤ 400 → 400 - x2.toInt < n → ok (f_X6_loopBehind_4 N n s x2) (fun R => R.2 = s ∧ (R.1 < 0 ∨ (∃ a : Nat, 0 ≤ R.1.toInt ∧ R.1.toInt < cnI s ∧ s.r 51 R.1.toInt.toNat = some a ∧ isLp (s.o a 0))))
  | 0, _, _, _, h => by omega
  | n + 1, x2, h0, h4, hn => by
    show ok (b_X6_loopBehind_4 N (f_X6_loopBehind_4 N n) s x2) _
    unfold b_X6_loopBehind_4 f_X6_loopBehind_32 f_X6_loopBehind_47
    have m1 : (-1 : Int32) < 0 := by decide
    have e1 : (1 : Int32).toInt = 1 := by decide
    refine ok_ite (fun _ => ok_some ⟨rfl, Or.inl m1⟩) (fun c => ?_)
    have l : x2.toInt < cnI s := lt_int (Int32.not_le.mp c)
    have cn := h.2.2.2.2.2.2.1
    have es : (x2 + 1).toInt = x2.toInt + 1 := by rw [toInt_add] <;> rw [e1] <;> omega
    refine ok_bind (q_row (N := N) h x2) (fun p hp => ?_)
    obtain ⟨p1, p2⟩ := hp
    rw [p1]
    rcases p2 with ⟨p2, p3⟩ | ⟨a, p2, p3, p4, p5⟩
    · rw [p2]; exact ok_some ⟨rfl, Or.inl m1⟩
    · rw [p2]
      show ok (if oK s a 0 then (if (CS.o s a 0) = 303 then f_X6_loopBehind_4 N n s (x2 + 1) else (if oK s a 0 then (f_X5_isLoop N s a).bind fun p12 => (if p12.1 = 0 then some ((-1), p12.2) else some (x2, p12.2)) else none)) else none) _
      refine ok_chk p5 (ok_ite (fun _ => q_lb4 h n (x2 + 1) (by omega) (by omega) (by omega)) (fun _ => ok_chk p5 (ok_bind (q_isLoop (N := N) p5) (fun q hq => ?_))))
      obtain ⟨q1, q2⟩ := hq
      rw [q1]
      rcases q2 with ⟨q2, q3⟩ | ⟨q2, q3⟩
      · rw [if_pos q2]; exact ok_some ⟨rfl, Or.inl m1⟩
      · rw [q2, if_neg (by decide)]; exact ok_some ⟨rfl, Or.inr ⟨a, p3.1, p3.2, p4, q3⟩⟩
/-- where a jump goes -/
def TGC (s : CS) (x1 x3 : Int32) : Prop := ∃ a : Nat, 0 ≤ x3.toInt ∧ x3.toInt < cnI s ∧ s.r 51 x3.toInt.toNat = some a ∧ (x1 = 0 → isLp (s.o a 0) ∨ s.o a 0 = 218 ∨ s.o a 0 = 303) ∧ (¬ x1 = 0 → isLp (s.o a 0))
theorem TGC.sx {p g d : Int} {s R : CS} {x1 x3 : Int32} (h : TGC s x1 x3) (hs : SX p g d s R) : TGC R x1 x3 := by
  obtain ⟨a, h1, h2, h3, h4, h5⟩ := h
  have ecn : cnI R = cnI s := by unfold cnI; rw [hs.2.2.2.1.2.1]
  have w := hs.2.2.2.2.2.1 x3.toInt.toNat (by omega)
  have w2 := (w.2 a h3).1
  exact ⟨a, h1, by omega, w.1.trans h3, by rw [w2]; exact h4, by rw [w2]; exact h5⟩
theorem ROW1.e9 {s : CS} {DT : Nat → List Nat} {KT : Nat → Prop} {a : Nat} {c0 c : List Nat} {lim lim' : List Int} (h : ROW1 s DT KT a c0 c lim lim') (hs : isLp (s.o a 0) ∨ s.o a 0 = 218 ∨ s.o a 0 = 303) : TTc (tcI s) DT KT (s.o a 9) c0 := by
  obtain ⟨h1, h2, h3⟩ := h
  obtain ⟨v, hv⟩ : ∃ v, v = s.o a 0 := ⟨_, rfl⟩
  rw [← hv] at hs
  unfold isLp at hs
  rcases h3 with ⟨z1, z2, e⟩ | ⟨z1, z2, z3, -⟩ | ⟨z1, z2, z3, e⟩ | ⟨z1, z2, z3, e⟩ | ⟨z1, z2, z3, z4, e⟩ | ⟨z1, z2, z3, z4, z5, e⟩ | ⟨z1, z2, z3, -⟩ | ⟨z1, z2, z3, e⟩ | ⟨z1, z2, z3, -⟩ | ⟨z1, z2, z3, -⟩ | ⟨z1, z2, z3, -⟩ | ⟨z1, z2, z3, e⟩
  · exfalso
    rw [← hv] at z1
    rcases z1 with z1 | z1 <;> rw [z1] at hs <;> exact absurd hs (by decide)
  · exact z3
  · exfalso
    rw [← hv] at z1
    rw [z1] at hs
    exact absurd hs (by decide)
  · exact z3
  · exact z3
  · exact z3
  · exact z3
  · exact z3
  · exact z3
  · exact z3
  · exact z3
  · exact z3
theorem ROW1.e10 {s : CS} {DT : Nat → List Nat} {KT : Nat → Prop} {a : Nat} {c0 c : List Nat} {lim lim' : List Int} (h : ROW1 s DT KT a c0 c lim lim') (hs : isLp (s.o a 0)) : TTc (tcI s) DT KT (s.o a 10) c0 := by
  obtain ⟨h1, h2, h3⟩ := h
  obtain ⟨v, hv⟩ : ∃ v, v = s.o a 0 := ⟨_, rfl⟩
  rw [← hv] at hs
  unfold isLp at hs
  have no : ∀ w : Int32, s.o a 0 = w → ¬ (w = 205 ∨ w = 206 ∨ w = 207 ∨ w = 304) → TTc (tcI s) DT KT (s.o a 10) c0 := fun w e q => absurd (by rw [← e, ← hv]; exact hs) q
  rcases h3 with ⟨z1, z2, e⟩ | ⟨z1, z2, z3, -⟩ | ⟨z1, z2, z3, e⟩ | ⟨z1, z2, z3, e⟩ | ⟨z1, z2, z3, z4, e⟩ | ⟨z1, z2, z3, z4, z5, e⟩ | ⟨z1, z2, z3, -⟩ | ⟨z1, z2, z3, e⟩ | ⟨z1, z2, z3, -⟩ | ⟨z1, z2, z3, -⟩ | ⟨z1, z2, z3, -⟩ | ⟨z1, z2, z3, e⟩
  · rcases z1 with z1 | z1
    · exact no _ z1 (by decide)
    · exact no _ z1 (by decide)
  · exact no _ z1 (by decide)
  · exact no _ z1 (by decide)
  · rcases z1 with z1 | z1
    · exact no _ z1 (by decide)
    · exact no _ z1 (by decide)
  · exact z4
  · exact z4
  · exact no _ z1 (by decide)
  · exact no _ z1 (by decide)
  · exact no _ z1 (by decide)
  · exact no _ z1 (by decide)
  · exact no _ z1 (by decide)
  · exact no _ z1 (by decide)
theorem q_jump72 {N : Nat} {H : HB} (hN : 1000 ≤ N) {x y p g : Int} {c : List Nat} {X : List (Nat × List Nat)} {P : List Nat} {lim : List Int} {s0 s : CS} {x1 x3 : Int32} (hx : x ≤ 4000) (hy : y ≤ 90) (h : JJ H x y c X P lim s) (h0 : S0G s0) (hp : 0 ≤ p) (hg : 0 ≤ g) (hs : s.i 32 = 0 → SX p g 0 s0 s ∧ TGC s x1 x3) : ok (f_X7_jump_72 N s x1 x3) (fun R => STQ H (x - 20) y X P lim s0 R.2) := by
  unfold f_X7_jump_72 f_X7_jump_129
  refine ok_bind (q_expJ hN h 59 (by decide)) (fun u hu => ?_)
  obtain ⟨j1, e1⟩ := hu
  have x1' : u.2.i 32 = 0 → SX 1 0 0 s0 u.2 ∧ TGC u.2 x1 x3 := fun z => by
    have w := hs (e1 z).1
    exact ⟨(w.1.tr (e1 z).sx).w (by omega) (by omega) (by omega), w.2.sx (e1 z).sx⟩
  have fin : ∀ (v : CS), JJ H (x - 60) y c X P lim v → (v.i 32 = 0 → SX 1 0 0 s0 v) → ok (some ((), CS.setI v 36 0)) (fun R => STQ H (x - 20) y X P lim s0 R.2) := fun v jv hv => by
    have ir := (IRR.rf jv.1).i 36 0 (by unfold IRJ; omega) (fun _ => Or.inl rfl)
    refine ok_some (STQ.pl (p := 1) (g := 0) ((jv.irr ir).w (by omega) (by omega)) h0 (fun z => ?_) (by omega) (by omega))
    have z1 := ir.f.1.symm.trans z
    exact ((hv z1).tr (ir.sx z1)).w (by omega) (by omega) (by omega)
  refine ok_bind (q_row (N := N) j1.1 x3) (fun r hr => ?_)
  obtain ⟨r1, r2⟩ := hr
  rw [r1]
  rcases r2 with ⟨r2, r3⟩ | ⟨a, r2, r3, r4, r5⟩
  · rw [r2]
    exact fin u.2 (j1.w (by omega) (Int.le_refl _)) (fun z => (x1' z).1)
  rw [r2]
  show ok ((f_X6_addJump N u.2 a x1).bind fun p29 => (if x1 = 0 then if oK p29.2 a 0 then (f_X7_leave N p29.2 (CS.o p29.2 a 9) (CS.o p29.2 a 2)).bind fun p35 => some ((), CS.setI p35.2 36 0) else none else if oK p29.2 a 0 then (f_X7_leave N p29.2 (CS.o p29.2 a 10) (CS.o p29.2 a 2)).bind fun p40 => some ((), CS.setI p40.2 36 0) else none)) _
  refine ok_bind (Q := fun w => IRR u.2 w.2) ?_ (fun w hw => ?_)
  · unfold f_X6_addJump f_X6_jumpTo
    refine ok_bind (Q := fun w => w.2 = u.2) (ok_chk r5 (ok_ite (fun _ => ok_some rfl) (fun _ => ok_some rfl))) (fun w hw => ?_)
    rw [hw]
    exact ok_some (((IRR.rf j1.1).a _).i 55 _ (by unfold IRJ; omega) (by omega))
  have j2 := j1.irr hw
  have wo : w.2.o = u.2.o := hw.1.2.2.2.1
  have wr : w.2.r = u.2.r := hw.1.2.2.2.2.2.2.1
  have okw : oK w.2 a 0 := by unfold oK at *; rw [hw.1.2.1, hw.1.2.2.1]; exact r5
  have ecn : cnI w.2 = cnI u.2 := by unfold cnI; rw [hw.2.1 53 (by unfold IRJ; omega)]
  have tg : w.2.i 32 = 0 → SX 1 0 0 s0 w.2 ∧ TGC w.2 x1 x3 := fun z => by
    have z1 := hw.f.1.symm.trans z
    have q := x1' z1
    exact ⟨(q.1.tr (hw.sx z1)).w (by omega) (by omega) (by omega), q.2.sx (hw.sx z1)⟩
  have wra : w.2.r 51 x3.toInt.toNat = some a := by rw [wr]; exact r4
  have sort : w.2.i 32 = 0 → (x1 = 0 → isLp (w.2.o a 0) ∨ w.2.o a 0 = 218 ∨ w.2.o a 0 = 303) ∧ (¬ x1 = 0 → isLp (w.2.o a 0)) := fun z => by
    obtain ⟨b, -, -, b3, b4, b5⟩ := (tg z).2
    rw [wra] at b3
    cases b3
    exact ⟨b4, b5⟩
  refine ok_ite (fun cx => ok_chk okw ?_) (fun cx => ok_chk okw ?_)
  · refine ok_bind (q_leave (c1 := c) j2.k _ _ (by omega) (by omega) (fun z => j2.ds z) (fun z DT KT _ qR => ?_)) (fun b hb => fin b.2 (JK.j hb.1 |>.w (by omega) (Int.le_refl _)) (fun z => ?_))
    · obtain ⟨c0, c1, L1, L0, r, g1, g2⟩ := (qR (cnI w.2).toNat (by have := j2.1.2.2.2.2.2.2.1.1; omega)).at x3.toInt.toNat a (by omega) wra
      exact ⟨c0, r, g1.e9 ((sort z).1 cx), g1.1, g2⟩
    · have z1 := (hb.2.1 z).1
      exact ((tg z1).1.tr (hb.2.1 z)).w (by omega) (by omega) (by omega)
  · refine ok_bind (q_leave (c1 := c) j2.k _ _ (by omega) (by omega) (fun z => j2.ds z) (fun z DT KT _ qR => ?_)) (fun b hb => fin b.2 (JK.j hb.1 |>.w (by omega) (Int.le_refl _)) (fun z => ?_))
    · obtain ⟨c0, c1, L1, L0, r, g1, g2⟩ := (qR (cnI w.2).toNat (by have := j2.1.2.2.2.2.2.2.1.1; omega)).at x3.toInt.toNat a (by omega) wra
      exact ⟨c0, r, g1.e10 ((sort z).2 cx), g1.1, g2⟩
    · have z1 := (hb.2.1 z).1
      exact ((tg z1).1.tr (hb.2.1 z)).w (by omega) (by omega) (by omega)
