/-! the class's reading: a body ends -/
theorem RCH.top {s : CS} {DT : Nat → List Nat} {KT : Nat → Prop} {m a : Nat} {c : List Nat} {L : List Int} (h : RCH s DT KT (m + 1) c L) (ea : s.r 51 m = some a) : ∃ (c0 : List Nat) (L0 : List Int), ROW1 s DT KT a c0 c L L0 := by
  obtain ⟨b, c0, L', h1, h2, h3, h4⟩ := h
  rw [ea] at h1
  cases h1
  exact ⟨c0, L', h3⟩
/-- rows with one body -/
def isB1 (v : Int32) : Prop := v = 203 ∨ v = 204 ∨ v = 205 ∨ v = 206 ∨ v = 207 ∨ v = 303 ∨ v = 304
theorem ROW1.pl {s : CS} {DT : Nat → List Nat} {KT : Nat → Prop} {a : Nat} {c0 c : List Nat} {lim lim' : List Int} (h : ROW1 s DT KT a c0 c lim lim') (hs : isB1 (s.o a 0) ∨ s.o a 0 = 300 ∨ s.o a 0 = 301) : c0 = c ∧ lim' = lim := by
  obtain ⟨h1, h2, h3⟩ := h
  obtain ⟨v, hv⟩ : ∃ v, v = s.o a 0 := ⟨_, rfl⟩
  rw [← hv] at hs
  unfold isB1 at hs
  have no : ∀ w : Int32, s.o a 0 = w → ¬ ((w = 203 ∨ w = 204 ∨ w = 205 ∨ w = 206 ∨ w = 207 ∨ w = 303 ∨ w = 304) ∨ w = 300 ∨ w = 301) → c0 = c ∧ lim' = lim := fun w e q => absurd (by rw [← e, ← hv]; exact hs) q
  rcases h3 with ⟨z1, z2, e⟩ | ⟨z1, z2, z3, -⟩ | ⟨z1, z2, z3, e⟩ | ⟨z1, z2, z3, e⟩ | ⟨z1, z2, z3, z4, e⟩ | ⟨z1, z2, z3, z4, z5, e⟩ | ⟨z1, z2, z3, -⟩ | ⟨z1, z2, z3, e⟩ | ⟨z1, z2, z3, -⟩ | ⟨z1, z2, z3, -⟩ | ⟨z1, z2, z3, -⟩ | ⟨z1, z2, z3, e⟩
  · exact ⟨z2.symm, e⟩
  · exact no _ z1 (by decide)
  · exact ⟨z2.symm, e⟩
  · exact ⟨z2.symm, e⟩
  · exact ⟨z2.symm, e⟩
  · exact ⟨z2.symm, e⟩
  · exact no _ z1 (by decide)
  · exact no _ z1 (by decide)
  · exact no _ z1 (by decide)
  · exact no _ z1 (by decide)
  · exact no _ z1 (by decide)
  · exact no _ z1 (by decide)
theorem AIM.at {s R : CS} {t : Int32} (h : AIM s R t) {k : Nat} (hk : (k : Int) = t.toInt) (h4 : k < 1024) (h0 : 0 ≤ szI s) : ¬ (R.a 17 k).toInt = -1 := by
  rw [h.2.2.2, gPut_at hk h4]
  have : 0 ≤ (s.i 20).toInt := h0
  omega
theorem q_gone5 {N : Nat} {s : CS} {a : Nat} (h : oK s a 0) (x2 : Int32) : ∀ (n : Nat) (x3 : Int32), (s.i 55).toInt - x3.toInt < n → ok (f_X6_isGoneTo_5 N (n + 1) s a x2 x3) (fun R => R.2 = s)
  | n, x3, hn => by
    show ok (b_X6_isGoneTo_5 N (f_X6_isGoneTo_5 N n) s a x2 x3) _
    unfold b_X6_isGoneTo_5 f_X6_jumpTo
    have e1 : (1 : Int32).toInt = 1 := by decide
    refine ok_ite (fun _ => ok_some rfl) (fun c => ?_)
    have l := lt_int (Int32.not_le.mp c)
    have b1 := Int32.toInt_lt (s.i 55)
    have b2 := Int32.le_toInt x3
    have es : (x3 + 1).toInt = x3.toInt + 1 := by rw [toInt_add] <;> rw [e1] <;> omega
    obtain ⟨n', rfl⟩ : ∃ n', n = n' + 1 := ⟨n - 1, by omega⟩
    refine ok_bind (Q := fun w => w.2 = s) (ok_chk h (ok_ite (fun _ => ok_some rfl) (fun _ => ok_some rfl))) (fun w hw => ?_)
    rw [hw]
    exact ok_ite (fun _ => ok_some rfl) (fun _ => q_gone5 h x2 n' (x3 + 1) (by omega))
  termination_by n => n
theorem q_gone {N : Nat} (hN : 10000000000 ≤ N) {s : CS} {a : Nat} (h : oK s a 0) (x2 : Int32) : ok (f_X6_isGoneTo N s a x2) (fun R => R.2 = s) := by
  unfold f_X6_isGoneTo
  obtain ⟨N', rfl⟩ : ∃ N', N = N' + 1 := ⟨N - 1, by omega⟩
  have b1 := Int32.toInt_lt (s.i 55)
  have b2 := Int32.le_toInt (s.o a 14)
  exact ok_chk h (q_gone5 h x2 N' _ (by omega))
theorem MDL.pop {p g d : Int} {σ s R : CS} {a m : Nat} (h : MDL p g d σ s) (hp : 0 ≤ p) (hg : 0 ≤ g) (hm : cnI σ = (m : Int) + 1) (ea : σ.r 51 m = some a) (nr : NR σ (m + 1)) (hd : d = - sgn σ a) (hRi : ∀ j : Nat, j = 34 ∨ j = 43 ∨ j = 44 ∨ j = 56 → R.i j = s.i j) (hRa : R.a 18 = s.a 18 ∧ R.a 19 = s.a 19 ∧ R.a 49 = s.a 49) (rq : RSQ s R m) (hc : cnI R = (m : Int)) : TNR σ R := by
  obtain ⟨a0, ⟨a1, a2⟩, a3, ⟨a5, a6⟩, a9, a10, a11, a12, a13⟩ := h
  have em : (cnI σ).toNat = m + 1 := by omega
  have emR : (cnI R).toNat = m := by omega
  have e1 : (cnI σ).toNat - 1 = m := by omega
  rw [e1] at a9
  have rr := a9.tr rq
  obtain ⟨i1, i2, i3, i4, i5⟩ := rr.sums (fun i hi => nr i (by omega))
  have epl : plI R = plI s := by unfold plI; rw [hRi 44 (by omega)]
  have ee : eI R = eI s := by unfold eI; rw [epl, hRi 43 (by omega)]
  have esg : sgI R = sgI s := by unfold sgI; rw [hRi 34 (by omega)]
  have sw : SGS σ (m + 1) = SGS σ m + sgn σ a := by
    show SGS σ m + sgn σ (rowA σ m) = _
    rw [rowA.of ea]
  refine ⟨a0, ⟨by omega, by omega, by omega⟩, ?_, ⟨by omega, by omega, by omega, fun q => absurd q (by omega)⟩, by rw [e1]; exact rr, fun n hn => by rw [hRa.2.2]; exact a10 n hn, fun i hi => by rw [hRa.1, hRa.2.1]; exact a11 i hi, (hRi 56 (by omega)).trans a6⟩
  rw [emR, i2, em, sw]
  omega
/-- the end of a row with one body -/
theorem q_eb193 {N : Nat} {H : HB} {E1 : CS → Option (Unit × CS)} {E2 : CS → Option (Int32 × CS)} {x y p g : Int} {c : List Nat} {X : List (Nat × List Nat)} {P : List Nat} {T : List Int} {σ s : CS} {a m : Nat} (h : JJ H x y c X P (ccI σ :: T) s) (ea : s.r 51 m = some a) (m4 : m < 400) (hσ : cnI σ = (m : Int) + 1 ∧ σ.r 51 m = some a ∧ NR σ (m + 1) ∧ isB1 (σ.o a 0)) (hs : s.i 32 = 0 → MDL p g 0 σ s ∧ s.i 22 = σ.i 22 ∧ s.o a 0 = σ.o a 0) (hp : 0 ≤ p) (hg : 0 ≤ g) (hO : s.i 32 = 0 → ∀ k : Nat, (k : Int) < tcI s → (s.a 17 k).toInt = -1 → OWS s a k → k ∈ P) : ok (f_X7_endBody_193 N E1 E2 s a) (fun R => TNQ H (x - 50) y X P T σ R.2 ∧ (R.2.i 32 = 0 → cnI R.2 = (m : Int))) := by
  unfold f_X7_endBody_193
  have hcn : s.i 32 = 0 → cnI s = (m : Int) + 1 := fun z => by
    rw [← hσ.1]; unfold cnI; rw [(hs z).1.2.2.2.1.1]
  have j1 := h.k.nmr ea m4 hcn
  refine ok_chk (h.1.1.2.1 m a m4 ea) ?_
  have yi : ∀ j : Nat, j ≠ 50 → (CS.setI s 50 (s.o a 3)).i j = s.i j := fun j q => ci_ne _ _ _ q
  have y50 : nmI (CS.setI s 50 (s.o a 3)) = (s.o a 3).toInt := by unfold nmI; rw [ci_at]
  have ya : (CS.setI s 50 (s.o a 3)).a = s.a := ca_setI ..
  have yr : (CS.setI s 50 (s.o a 3)).r = s.r := cr_setI ..
  have yo : (CS.setI s 50 (s.o a 3)).o = s.o := co_setI ..
  have yl : (CS.setI s 50 (s.o a 3)).ol = s.ol := col_setI ..
  generalize CS.setI s 50 (s.o a 3) = Y at *
  refine ok_bind (q_popC N j1.1) (fun R hR => ok_some ?_)
  obtain ⟨r1, r2, r3⟩ := hR
  show TNQ H (x - 50) y X P T σ R.2 ∧ (R.2.i 32 = 0 → cnI R.2 = (m : Int))
  refine ⟨⟨r1, fun q => ?_⟩, fun q => by
    have cs := hcn ((yi 32 (by decide)).symm.trans (r3.symm.trans q))
    have cY : cnI Y = (m : Int) + 1 := by rw [← cs]; unfold cnI; rw [yi 53 (by decide)]
    have := (r2 (by omega)).2
    omega⟩
  have qY := r3.symm.trans q
  have qs := (yi 32 (by decide)).symm.trans qY
  obtain ⟨md, e22, es0⟩ := hs qs
  have cs := hcn qs
  have cY : cnI Y = (m : Int) + 1 := by rw [← cs]; unfold cnI; rw [yi 53 (by decide)]
  obtain ⟨eR, cR⟩ := r2 (by omega)
  have etc : tcI Y = tcI s := by unfold tcI; rw [yi 21 (by decide)]
  have sort : isB1 (Y.o a 0) := by rw [yo, es0]; exact hσ.2.2.2
  have n9 := (j1.2 qY).2.2.2.2.2.2.2.2.2
  have h56 : (Y.i 56).toInt < (m : Int) := by
    by_cases z : (Y.i 56).toInt = (m : Int)
    · exfalso
      have e2 := n9.2.2 a (by omega) (by rw [show (Y.i 56).toInt.toNat = m by omega, yr]; exact ea)
      rw [e2] at sort
      exact absurd sort (by unfold isB1; decide)
    · have := n9.2.1; omega
  have jr := j1.pop (cc := c) (ll := ccI σ :: T) qY r1 cY (by rw [yr]; exact ea) eR (by omega) (fun k k1 k2 k3 => hO qs k (by omega) (by rw [← ya]; exact k2) (by unfold OWS at *; rw [yo] at k3; exact k3)) (fun DT KT c0 lim0 z => z.pl (Or.inl sort)) (fun _ _ => Or.inr rfl) h56 (by
    have := (j1.2 qY).1.lim
    exact this)
  have Ri : ∀ j : Nat, j ≠ 53 → j ≠ 50 → R.2.i j = s.i j := fun j k1 k2 => by rw [eR, ci_ne _ _ _ k1, yi j k2]
  have ecc : ccI R.2 = ccI σ := by unfold ccI; rw [Ri 22 (by decide) (by decide), e22]
  rw [ecc]
  refine ⟨⟨c, JK.j jr⟩, md.pop hp hg hσ.1 hσ.2.1 hσ.2.2.1 ?_ (fun j hj => Ri j (by omega) (by omega)) (by rw [eR, ca_setI, ya]; exact ⟨rfl, rfl, rfl⟩) (fun i _ => ⟨by rw [eR, cr_setI, yr], fun b _ => ⟨by rw [eR, co_setI, yo], by rw [eR, col_setI, yl]⟩⟩) (by omega)⟩
  have so := hσ.2.2.2
  unfold isB1 at so
  unfold sgn
  rcases so with e | e | e | e | e | e | e <;> rw [e] <;> rfl
