/-! the class: every public method answers and keeps what stands -/
theorem CIV.of {h : Nat} {s R : CS} (hc : CIV h s) (hs : HSM s R) (h1 : bo (R.i 14) ∧ (R.i 13).toInt ≤ 12) (h5 : 0 ≤ (R.i 5).toInt ∧ (R.i 5).toInt ≤ 900) (h7 : R.i 7 = s.i 7) (hq : CEQ s R) : CIV h R := by
  obtain ⟨c1, c2, c3, c4, -, -, c7⟩ := hc
  refine ⟨hs.refs c1, hs.room c2, hs.wd c3, fun i a hi e => ?_, h1, h5, fun q => ?_⟩
  · obtain ⟨⟨a1, a2, a3, a4, a5, a6, a7, a8⟩, -⟩ := hs
    rw [a7] at e
    rw [a4]
    exact c4 i a hi e
  · rw [h7] at q
    obtain ⟨D, hD⟩ := c7 q
    exact ⟨D, hq.wt hD⟩
/-- bytes are added -/
def FDB (s R : CS) (n : Int) : Prop := HSM s R ∧ (∀ j : Nat, j ≠ 5 → R.i j = s.i j) ∧ (∀ k : Nat, k ≠ 0 → R.a k = s.a k) ∧ (R.i 5).toInt = (s.i 5).toInt + n
theorem FDB.tr {s R T : CS} {n m : Int} (h : FDB s R n) (g : FDB R T m) : FDB s T (n + m) := ⟨h.1.tr g.1, fun j hj => (g.2.1 j hj).trans (h.2.1 j hj), fun k hk => (g.2.2.1 k hk).trans (h.2.2.1 k hk), by rw [g.2.2.2, h.2.2.2]; omega⟩
theorem q_addB3 {N : Nat} {x1 : Int32} : ∀ (n : Nat) (s : CS) (x2 : Int32) (m : Nat), x2.toInt = 8 * (m : Int) - 8 → m ≤ 4 → m < n → (0 ≤ (s.i 5).toInt ∧ (s.i 5).toInt + (m : Int) ≤ 900) → ok (f_X11_addBytes_3 N n s x1 x2) (fun R => FDB s R.2 (m : Int))
  | 0, _, _, _, _, _, h, _ => by omega
  | n + 1, s, x2, m, hx, hm, hn, h5 => by
    show ok (b_X11_addBytes_3 N (f_X11_addBytes_3 N n) s x1 x2) _
    unfold b_X11_addBytes_3
    refine ok_ite (fun c => ok_some ⟨HSM.rf s, fun _ _ => rfl, fun _ _ => rfl, ?_⟩) (fun c => ?_)
    · have := lt_int c
      rw [z_t0] at this
      show (s.i 5).toInt = (s.i 5).toInt + (m : Int)
      omega
    · have l := le_int (Int32.not_lt.mp c)
      rw [z_t0] at l
      obtain ⟨k, rfl⟩ : ∃ k, m = k + 1 := ⟨m - 1, by omega⟩
      have e8 : (-8 : Int32).toInt = -8 := by decide
      have e1 : (1 : Int32).toInt = 1 := by decide
      have ex : (x2 + (-8)).toInt = 8 * (k : Int) - 8 := by rw [toInt_add] <;> rw [e8] <;> omega
      have e5 : (s.i 5 + 1).toInt = (s.i 5).toInt + 1 := by rw [toInt_add] <;> rw [e1] <;> omega
      obtain ⟨Y, hY⟩ : ∃ Y, Y = CS.setI (CS.putA s 0 (gPut (s.a 0) 900 (s.i 5) (((x1 : Int32).toUInt32 >>> ((x2 : Int32).toUInt32 &&& Int32.toUInt32 31)).toInt32 &&& 255))) 5 ((s.i 5) + 1) := ⟨_, rfl⟩
      have fY : FDB s Y 1 := by
        rw [hY]
        refine ⟨(HSM.pa s 0 _).tr (HSM.i _ _ _), fun j hj => ?_, fun k hk => ?_, ?_⟩
        · rw [ci_ne _ _ _ hj]; rfl
        · exact if_neg hk
        · rw [ci_at]; exact e5
      rw [← hY]
      clear hY
      refine ok_imp (q_addB3 n Y (x2 + (-8)) k ex (by omega) (by omega) (by rw [fY.2.2.2]; omega)) (fun R hR => ?_)
      have := fY.tr hR
      rw [show ((k + 1 : Nat) : Int) = 1 + (k : Int) by omega]
      exact this
theorem q_addB {N : Nat} (hN : 1000 ≤ N) {s : CS} (x1 : Int32) (h5 : 0 ≤ (s.i 5).toInt ∧ (s.i 5).toInt + 4 ≤ 900) : ok (f_X11_addBytes N s x1) (fun R => FDB s R.2 4) := q_addB3 N s 24 4 (by decide) (by omega) (by omega) h5
theorem z_feed {N : Nat} (hN : 1000 ≤ N) {h : Nat} {s : CS} (hc : CIV h s) (x1 x2 x3 x4 x5 : Int32) : ok (f_X11_feed N s x1 x2 x3 x4 x5) (fun R => CIV h R.2) := by
  unfold f_X11_feed
  refine ok_ite (fun c => ?_) (fun _ => ok_some hc)
  have h5 := hc.2.2.2.2.2.1
  have l := le_int c
  have e20 : (20 : Int32).toInt = 20 := by decide
  have e9 : (900 : Int32).toInt = 900 := by decide
  have e5 : (s.i 5 + 20).toInt = (s.i 5).toInt + 20 := by rw [toInt_add] <;> rw [e20] <;> omega
  rw [e5, e9] at l
  refine ok_bind (q_addB hN x1 (by omega)) (fun p1 h1 => ok_bind (q_addB hN x2 (by rw [h1.2.2.2]; omega)) (fun p2 h2' => ?_))
  have h2 := h1.tr h2'
  refine ok_bind (q_addB hN x3 (by rw [h2.2.2.2]; omega)) (fun p3 h3' => ?_)
  have h3 := h2.tr h3'
  refine ok_bind (q_addB hN x4 (by rw [h3.2.2.2]; omega)) (fun p4 h4' => ?_)
  have h4 := h3.tr h4'
  refine ok_bind (q_addB hN x5 (by rw [h4.2.2.2]; omega)) (fun p5 h5' => ok_some ?_)
  obtain ⟨f1, f2, f3, f4⟩ := h4.tr h5'
  refine hc.of f1 ⟨by rw [f2 14 (by decide)]; exact hc.2.2.2.2.1.1, by rw [f2 13 (by decide)]; exact hc.2.2.2.2.1.2⟩ (by rw [f4]; omega) (f2 7 (by decide)) ⟨f3 15 (by decide), f3 16 (by decide), f3 17 (by decide), f2 20 (by decide)⟩
theorem z_cut {N : Nat} {h : Nat} {s : CS} (hc : CIV h s) (x1 : Int32) : ok (f_X11_cut N s x1) (fun R => CIV h R.2) := by
  unfold f_X11_cut f_X11_cut_12
  refine ok_ite (fun _ => ok_some hc) (fun c1 => ok_ite (fun c2 => ok_some ?_) (fun _ => ok_some hc))
  have l1 := le_int (Int32.not_lt.mp c1)
  have l2 := le_int c2
  rw [z_t0] at l1
  have h5 := hc.2.2.2.2.2.1
  have f2 : ∀ j : Nat, j ≠ 5 → (CS.setI s 5 x1).i j = s.i j := fun j hj => ci_ne _ _ _ hj
  refine hc.of (HSM.i _ _ _) ⟨by rw [f2 14 (by decide)]; exact hc.2.2.2.2.1.1, by rw [f2 13 (by decide)]; exact hc.2.2.2.2.1.2⟩ (by rw [ci_at]; omega) (f2 7 (by decide)) ⟨rfl, rfl, rfl, f2 20 (by decide)⟩
theorem z_isKind {N : Nat} {s : CS} (x1 : Int32) : ok (f_X10_isKind N s x1) (fun R => R.2 = s) := by
  unfold f_X10_isKind f_X10_isKind_16
  exact ok_ite (fun _ => ok_some rfl) (fun _ => ok_ite (fun _ => ok_some rfl) (fun _ => ok_some rfl))
theorem z_kind {N : Nat} {h : Nat} {s : CS} (hc : CIV h s) (x1 : Int32) : ok (f_X11_kind N s x1) (fun R => CIV h R.2) := by
  unfold f_X11_kind f_X10_isFull
  refine ok_bind (z_isKind x1) (fun p hp => ?_)
  rw [hp]
  refine ok_ite (fun _ => ok_some hc) (fun _ => ?_)
  by_cases c : s.i 13 < 12
  · rw [if_pos c]
    show ok (if (0 : Int32) = 0 then (f_X10_addKind N s x1).bind fun p11 => some (p11.1, p11.2) else some ((-2), s)) _
    rw [if_pos rfl]
    unfold f_X10_addKind
    have l := lt_int c
    have e12 : (12 : Int32).toInt = 12 := by decide
    have e1 : (1 : Int32).toInt = 1 := by decide
    rw [e12] at l
    have lo := Int32.le_toInt (s.i 13)
    refine ok_bind (ok_some (P := fun w => CIV h w.2) ?_) (fun w hw => ok_some hw)
    have f2 : ∀ j : Nat, j ≠ 13 → (CS.setI (CS.putA s 9 (gPut (s.a 9) 12 (s.i 13) x1)) 13 ((s.i 13) + 1)).i j = s.i j := fun j hj => ci_ne _ _ _ hj
    have fa : ∀ k : Nat, k ≠ 9 → (CS.setI (CS.putA s 9 (gPut (s.a 9) 12 (s.i 13) x1)) 13 ((s.i 13) + 1)).a k = s.a k := fun k hk => if_neg hk
    refine hc.of ((HSM.pa s 9 _).tr (HSM.i _ _ _)) ⟨by rw [f2 14 (by decide)]; exact hc.2.2.2.2.1.1, ?_⟩ (by rw [f2 5 (by decide)]; exact hc.2.2.2.2.2.1) (f2 7 (by decide)) ⟨fa 15 (by decide), fa 16 (by decide), fa 17 (by decide), f2 20 (by decide)⟩
    rw [ci_at, toInt_add] <;> rw [e1] <;> omega
  · rw [if_neg c]
    exact ok_some hc
theorem z_ikn {N : Nat} {s : CS} (x1 : Int32) : ok (f_X11_isKindOrNothing N s x1) (fun R => R.2 = s) := by
  unfold f_X11_isKindOrNothing f_X11_isKindOrNothing_16
  refine ok_ite (fun _ => ok_some rfl) (fun _ => ok_bind (z_isKind x1) (fun p hp => ?_))
  rw [hp]
  exact ok_ite (fun _ => ok_some rfl) (fun _ => ok_some rfl)
theorem z_resource {N : Nat} {h : Nat} {s : CS} (hc : CIV h s) (x1 x2 x3 x4 : Int32) : ok (f_X11_resource N s x1 x2 x3 x4) (fun R => CIV h R.2) := by
  unfold f_X11_resource f_X11_resource_19 f_X11_resource_38 f_X10_tellResource
  refine ok_ite (fun _ => ok_some hc) (fun _ => ok_ite (fun _ => ok_some hc) (fun _ => ok_ite (fun _ => ok_some hc) (fun _ => ok_ite (fun _ => ?_) (fun _ => ok_some hc))))
  refine ok_bind (z_ikn x3) (fun p hp => ?_)
  rw [hp]
  refine ok_ite (fun _ => ok_some hc) (fun _ => ok_bind (z_ikn x4) (fun q hq => ?_))
  rw [hq]
  refine ok_ite (fun _ => ok_some hc) (fun _ => ok_bind (ok_some (P := fun w => CIV h w.2) ?_) (fun w hw => ok_some hw))
  have e1 : ∀ (t : CS) (k : Nat) (f : Nat → Int32), ¬ k = 15 → ¬ k = 16 → ¬ k = 17 → CIV h t → CIV h (CS.putA t k f) := fun t k f k1 k2 k3 ht => ht.of (HSM.pa t k f) ht.2.2.2.2.1 ht.2.2.2.2.2.1 rfl ⟨if_neg (fun q => k1 q.symm), if_neg (fun q => k2 q.symm), if_neg (fun q => k3 q.symm), rfl⟩
  exact e1 _ _ _ (by decide) (by decide) (by decide) (e1 _ _ _ (by decide) (by decide) (by decide) (e1 _ _ _ (by decide) (by decide) (by decide) hc))
theorem z_asserts {N : Nat} {h : Nat} {s : CS} (hc : CIV h s) (x1 : Int32) (hx : bo x1) : ok (f_X11_asserts N s x1) (fun R => CIV h R.2) := by
  unfold f_X11_asserts f_X11_asserts_16
  have f2 : ∀ j : Nat, j ≠ 14 → (CS.setI s 14 x1).i j = s.i j := fun j hj => ci_ne _ _ _ hj
  have c2 : CIV h (CS.setI s 14 x1) := hc.of (HSM.i _ _ _) ⟨by rw [ci_at]; exact hx, by rw [f2 13 (by decide)]; exact hc.2.2.2.2.1.2⟩ (by rw [f2 5 (by decide)]; exact hc.2.2.2.2.2.1) (f2 7 (by decide)) ⟨rfl, rfl, rfl, f2 20 (by decide)⟩
  exact ok_ite (fun _ => ok_chk hx (ok_some c2)) (fun _ => ok_chk hx (ok_some c2))
theorem z_fault {N : Nat} {h : Nat} {s : CS} (hc : CIV h s) : ok (f_X11_fault N s) (fun R => CIV h R.2) := ok_some hc
theorem z_program {N : Nat} {h : Nat} {s : CS} (hc : CIV h s) (x1 : Int32) : ok (f_X11_program N s x1) (fun R => CIV h R.2) := by
  unfold f_X11_program f_X11_program_9
  exact ok_ite (fun _ => ok_some hc) (fun _ => ok_ite (fun _ => ok_ite (fun _ => ok_some hc) (fun _ => ok_ite (fun _ => ok_some hc) (fun _ => ok_ite (fun _ => ok_ite (fun _ => ok_some hc) (fun _ => ok_some hc)) (fun _ => ok_ite (fun _ => ok_some hc) (fun _ => ok_some hc))))) (fun _ => ok_some hc))
theorem z_under {N : Nat} (hN : 1000 ≤ N) {h : Nat} {s : CS} (hc : CIV h s) (x1 x2 : Int32) : ok (f_X11_under N s x1 x2) (fun R => CIV h R.2) := by
  unfold f_X11_under f_X11_under_22
  refine ok_bind (z_isKind x1) (fun p hp => ?_)
  rw [hp]
  refine ok_ite (fun _ => ok_some hc) (fun _ => ok_bind (z_isKind x2) (fun q hq => ?_))
  rw [hq]
  refine ok_ite (fun _ => ok_some hc) (fun _ => ok_bind (q_isUnder hN) (fun r hr => ?_))
  rw [hr.1]
  exact ok_ite (fun _ => ok_some hc) (fun _ => ok_some hc)
theorem z_trace {N : Nat} {h : Nat} {s : CS} (hc : CIV h s) (x1 x2 : Int32) : ok (f_X11_trace N s x1 x2) (fun R => CIV h R.2) := by
  unfold f_X11_trace f_X11_trace_31
  exact ok_ite (fun _ => ok_some hc) (fun _ => ok_ite (fun _ => ok_some hc) (fun _ => ok_ite (fun _ => ok_some hc) (fun _ => ok_ite (fun _ => ok_some hc) (fun _ => ok_ite (fun _ => ok_some hc) (fun _ => ok_some hc)))))
theorem z_last {N : Nat} {h : Nat} {s : CS} (hc : CIV h s) : ok (f_X3_lastThrown N s) (fun R => R.2 = s ∧ ∀ a : Nat, R.1 = some a → oK s a 2 ∧ oK s (a + 1) 3 ∧ oK s (a + 2) 3) := by
  unfold f_X3_lastThrown
  refine ok_ite (fun _ => ?_) (fun _ => ok_some ⟨rfl, fun a e => by cases e⟩)
  cases hw : s.w with
  | none => exact ok_some ⟨rfl, fun a e => by cases e⟩
  | some b =>
    refine ok_some ⟨rfl, fun a e => ?_⟩
    have e' : b = a := Option.some.inj e
    obtain ⟨r1, r2, r3, r4, r5, r6, r7, r8, r9⟩ := hc.1
    obtain ⟨j, hj, ej⟩ := r9 b hw
    rw [← e']
    exact r6 j b hj ej
theorem z_ran {N : Nat} {h : Nat} {s : CS} (hc : CIV h s) (x1 : Int32) : ok (f_X11_ran N s x1) (fun R => CIV h R.2) := by
  unfold f_X11_ran f_X11_ran_10 f_X3_answer
  refine ok_ite (fun _ => ok_some hc) (fun _ => ok_ite (fun _ => ok_ite (fun _ => ok_some hc) (fun _ => ?_)) (fun _ => ok_some hc))
  refine ok_bind (Q := fun w => w.2 = s) (ok_bind (z_last hc) (fun p hp => ?_)) (fun w hw => ok_some (by rw [hw]; exact hc))
  obtain ⟨p1, p2⟩ := hp
  rw [p1]
  cases e : p.1 with
  | none => exact ok_ite (fun _ => ok_some rfl) (fun _ => ok_ite (fun _ => ok_some rfl) (fun _ => ok_ite (fun _ => ok_ite (fun _ => ok_some rfl) (fun _ => ok_some rfl)) (fun _ => ok_ite (fun _ => ok_some rfl) (fun _ => ok_ite (fun _ => ok_some rfl) (fun _ => ok_ite (fun _ => ok_some rfl) (fun _ => ok_some rfl))))))
  | some a =>
    have o := (p2 a e).1
    exact ok_ite (fun _ => ok_some rfl) (fun _ => ok_ite (fun _ => ok_some rfl) (fun _ => ok_ite (fun _ => ok_ite (fun _ => ok_some rfl) (fun _ => ok_some rfl)) (fun _ => ok_ite (fun _ => ok_chk o (ok_some rfl)) (fun _ => ok_ite (fun _ => ok_chk o (ok_some rfl)) (fun _ => ok_ite (fun _ => ok_chk o (ok_some rfl)) (fun _ => ok_some rfl))))))
theorem z_sup19 {N : Nat} {h : Nat} {s : CS} (hc : CIV h s) (x1 x2 : Int32) (r : Option Nat) (hr : ∀ a : Nat, r = some a → oK s a 2 ∧ oK s (a + 1) 3 ∧ oK s (a + 2) 3) : ok (f_X11_suppressed_19 N s x1 x2 r) (fun R => CIV h R.2) := by
  unfold f_X11_suppressed_19 f_X11_suppressed_44
  cases r with
  | none => exact ok_some hc
  | some a =>
    obtain ⟨o1, o2, o3⟩ := hr a rfl
    exact ok_ite (fun _ => ok_some hc) (fun _ => ok_chk o1 (ok_ite (fun _ => ok_some hc) (fun _ => ok_ite (fun _ => ok_some hc) (fun _ => ok_ite (fun _ => ok_ite (fun _ => ok_chk o2 (ok_some hc)) (fun _ => ok_chk o3 (ok_some hc))) (fun _ => ok_some hc)))))
theorem z_suppressed {N : Nat} {h : Nat} {s : CS} (hc : CIV h s) (x1 x2 : Int32) : ok (f_X11_suppressed N s x1 x2) (fun R => CIV h R.2) := by
  unfold f_X11_suppressed
  refine ok_ite (fun _ => z_sup19 hc x1 x2 none (fun a e => by cases e)) (fun _ => ok_bind (z_last hc) (fun p hp => ?_))
  obtain ⟨p1, p2⟩ := hp
  rw [p1]
  cases e : p.1 with
  | none => exact z_sup19 hc x1 x2 none (fun a e => by cases e)
  | some a => exact z_sup19 hc x1 x2 (some a) (fun b eb => p2 b (by rw [e]; exact eb))
theorem z_run {N : Nat} (hN : 10000000000 ≤ N) {h : Nat} {s : CS} (hc : CIV h s) (x1 x2 : Int32) : ok (f_X11_run N s x1 x2) (fun R => CIV h R.2) := by
  unfold f_X11_run
  refine ok_ite (fun _ => ok_some hc) (fun c => ?_)
  obtain ⟨Y, hY⟩ : ∃ Y, Y = CS.setI s 8 1 := ⟨_, rfl⟩
  have f2 : ∀ j : Nat, j ≠ 8 → Y.i j = s.i j := fun j hj => by rw [hY]; exact ci_ne _ _ _ hj
  have cY : CIV h Y := by
    refine hc.of (by rw [hY]; exact HSM.i _ _ _) ⟨by rw [f2 14 (by decide)]; exact hc.2.2.2.2.1.1, by rw [f2 13 (by decide)]; exact hc.2.2.2.2.1.2⟩ (by rw [f2 5 (by decide)]; exact hc.2.2.2.2.2.1) (f2 7 (by decide)) ⟨by rw [hY]; rfl, by rw [hY]; rfl, by rw [hY]; rfl, f2 20 (by decide)⟩
  rw [← hY]
  obtain ⟨D, hD⟩ := cY.2.2.2.2.2.2 (by rw [f2 7 (by decide)]; exact c)
  refine ok_bind (q_perform hN cY.1 cY.2.1 hD x1 x2) (fun R hR => ok_some ?_)
  obtain ⟨r1, r2, m1, m2, m3, m4, m5, m6⟩ := hR
  obtain ⟨c1, c2, c3, c4, c5, c6, c7⟩ := cY
  refine ⟨r1, r2, by unfold WDC at *; rw [m3]; exact c3, fun i a hi e => ?_, by rw [m1 14 (by decide), m1 13 (by decide)]; exact c5, by rw [m1 5 (by decide)]; exact c6, fun q => ?_⟩
  · rw [m5] at e
    have w := m6 a (c1.2.1 i a hi e)
    rw [w.2.1]
    exact c4 i a hi e
  · rw [m1 7 (by decide)] at q
    obtain ⟨D', hD'⟩ := c7 q
    exact ⟨D', CEQ.wt ⟨m2 15 (by decide), m2 16 (by decide), m2 17 (by decide), m1 20 (by decide)⟩ hD'⟩
theorem z_read {N : Nat} (hN : 10000000000 ≤ N) {h : Nat} {s : CS} (hc : CIV h s) : ok (f_X11_read N (fEE N 23).1 (fEE N 23).2 s) (fun R => CIV h R.2) := by
  unfold f_X11_read f_X11_read_43
  obtain ⟨Y, hY⟩ : ∃ Y, Y = CS.setI (CS.setI s 5 0) 8 0 := ⟨_, rfl⟩
  have f2 : ∀ j : Nat, j ≠ 5 → j ≠ 8 → Y.i j = s.i j := fun j h1 h2 => by rw [hY, ci_ne _ _ _ h2, ci_ne _ _ _ h1]
  have y5 : Y.i 5 = 0 := by rw [hY, ci_ne _ _ _ (by decide), ci_at]
  have cY : CIV h Y := by
    refine hc.of (by rw [hY]; exact (HSM.i _ _ _).tr (HSM.i _ _ _)) ⟨by rw [f2 14 (by decide) (by decide)]; exact hc.2.2.2.2.1.1, by rw [f2 13 (by decide) (by decide)]; exact hc.2.2.2.2.1.2⟩ (by rw [y5, z_t0]; omega) (f2 7 (by decide) (by decide)) ⟨by rw [hY]; rfl, by rw [hY]; rfl, by rw [hY]; rfl, f2 20 (by decide) (by decide)⟩
  rw [← hY]
  clear hY
  have kp := k5_X7_translate N (fEE N 23).1 (fEE N 23).2 (k5EE N 23).1 (k5EE N 23).2 Y (s.i 5)
  obtain ⟨p, e, p1, p2, p3⟩ := q_translate hN cY (s.i 5) hc.2.2.2.2.2.1
  have p5 := kp p e
  rw [e]
  show ok (if p.1 = 0 then _ else _) _
  have fin : ∀ v : Int32, (¬ v = 0 → p.2.i 32 = 0) → CIV h (CS.setI (CS.setI p.2 6 p.1) 7 v) := fun v hv => by
    obtain ⟨c1, c2, c3, c4, c5, c6, c7, c8, c9⟩ := p2
    have g2 : ∀ j : Nat, j ≠ 6 → j ≠ 7 → (CS.setI (CS.setI p.2 6 p.1) 7 v).i j = p.2.i j := fun j h1 h2 => by rw [ci_ne _ _ _ h2, ci_ne _ _ _ h1]
    have g7 : (CS.setI (CS.setI p.2 6 p.1) 7 v).i 7 = v := ci_at _ _ _
    have hs : HSM p.2 (CS.setI (CS.setI p.2 6 p.1) 7 v) := (HSM.i _ _ _).tr (HSM.i _ _ _)
    have cq : CEQ p.2 (CS.setI (CS.setI p.2 6 p.1) 7 v) := ⟨rfl, rfl, rfl, g2 20 (by decide) (by decide)⟩
    refine ⟨hs.refs c1, hs.room c2.1, hs.wd c4, c8, by rw [g2 14 (by decide) (by decide), g2 13 (by decide) (by decide)]; exact c9.2.1, by rw [g2 5 (by decide) (by decide), p5, y5, z_t0]; omega, fun q => ?_⟩
    rw [g7] at q
    obtain ⟨D, hD⟩ := p3 (hv q)
    exact ⟨D, cq.wt hD⟩
  refine ok_ite (fun c => ?_) (fun c => ?_)
  · have f := fin 1 (fun _ => p1.symm.trans c)
    exact ok_ite (fun _ => ok_some f) (fun _ => ok_some f)
  · have f := fin 0 (fun q => absurd rfl q)
    exact ok_ite (fun _ => ok_some f) (fun _ => ok_some f)
