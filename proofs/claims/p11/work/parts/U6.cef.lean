/-! the class's reading: what holds many ends -/
noncomputable def kEL (N : Nat) (x1 : Nat) (s : CS) : Option (Unit × CS) :=
  if (CS.o s x1 0) = 212 then (f_X7_endLock N s x1).bind fun p10 => some ((), p10.2) else (if (CS.o s x1 0) = 213 then (f_X7_endGuarded N s x1).bind fun p15 => some ((), p15.2) else (if (CS.o s x1 0) = 214 then (f_X6_pop N s).bind fun p20 => some ((), p20.2) else (if (CS.o s x1 0) = 215 then (f_X7_endGuarded N s x1).bind fun p25 => some ((), p25.2) else (if (CS.o s x1 0) = 216 then (f_X7_endFinally N s x1).bind fun p30 => some ((), p30.2) else (if (CS.o s x1 0) = 217 then (f_X6_pop N s).bind fun p35 => some ((), p35.2) else (if (CS.o s x1 0) = 218 then (f_X7_endSwitch N s x1).bind fun p40 => some ((), p40.2) else (f_X6_pop N s).bind fun p44 => some ((), p44.2)))))))
theorem kEL.eq (N : Nat) (σ : CS) (a : Nat) : f_X7_endList_72 N σ a = (f_X1_close N σ 125).bind fun p4 => if oK p4.2 a 0 then kEL N a (CS.setI p4.2 50 (CS.o p4.2 a 3)) else none := rfl
/-- with a fault, a row with braces still ends -/
def isL1 (v : Int32) : Prop := v = 301 ∨ v = 212 ∨ v = 213 ∨ v = 215 ∨ v = 216 ∨ v = 218
theorem ROW1.srt {s : CS} {DT : Nat → List Nat} {KT : Nat → Prop} {a : Nat} {c0 c : List Nat} {lim lim' : List Int} (r : ROW1 s DT KT a c0 c lim lim') : isB1 (s.o a 0) ∨ isL1 (s.o a 0) ∨ s.o a 0 = 300 ∨ s.o a 0 = 302 ∨ s.o a 0 = 305 := by
  obtain ⟨r1, r2, r3⟩ := r
  unfold isB1 isL1
  rcases r3 with ⟨z1, z2, e⟩ | ⟨z1, z2, z3, z4⟩ | ⟨z1, z2, z3, e⟩ | ⟨z1, z2, z3, e⟩ | ⟨z1, z2, z3, z4, e⟩ | ⟨z1, z2, z3, z4, z5, e⟩ | ⟨z1, z2, z3, z4, z5, z6⟩ | ⟨z1, z2, z3, e⟩ | ⟨z1, z2, z3, z4, z5, e⟩ | ⟨z1, z2, z3, z4, z5, e⟩ | ⟨z1, z2, z3, z4, e⟩ | ⟨z1, z2, z3, e⟩
  · rcases z1 with z1 | z1 <;> rw [z1] <;> decide
  · rw [z1]; decide
  · rw [z1]; decide
  · rcases z1 with z1 | z1 <;> rw [z1] <;> decide
  · rcases z1 with z1 | z1 | z1 <;> rw [z1] <;> decide
  · rw [z1]; decide
  · rw [z1]; decide
  · rw [z1]; decide
  · rw [z1]; decide
  · rw [z1]; decide
  · rw [z1]; decide
  · rw [z1]; decide
theorem sg_one {H : HB} {x y : Int} {c : List Nat} {X : List (Nat × List Nat)} {P : List Nat} {lim : List Int} {σ : CS} {a m : Nat} (h : JJ H x y c X P lim σ) (ht : TUR σ a m) (hs : isL1 (σ.o a 0) ∨ σ.o a 0 = 302) : 1 ≤ sgI σ := by
  obtain ⟨nf, hm, ea, nr, m4⟩ := ht
  have n7 := (h.2 nf).2.2.2.2.2.2.2.1
  rw [show (cnI σ).toNat = m + 1 by omega] at n7
  have sw : SGS σ (m + 1) = SGS σ m + sgn σ a := by
    show SGS σ m + sgn σ (rowA σ m) = _
    rw [rowA.of ea]
  have bas := (BAS (s := σ) m).2.2.2.1
  have s1 : 1 ≤ sgn σ a := by
    unfold sgn
    unfold isL1 at hs
    rcases hs with (e | e | e | e | e | e) | e <;> rw [e] <;> decide
  omega
theorem q_clo2 {N : Nat} {H : HB} (hN : 1000 ≤ N) {x y : Int} {c : List Nat} {X : List (Nat × List Nat)} {P : List Nat} {T : List Int} {σ : CS} {a m : Nat} (h : JJ H x y c X P (ccI σ :: T) σ) (ht : TUR σ a m) (h1 : 1 ≤ sgI σ) {α : Type} {K : CS → Option α} {Q : α → Prop} (hK : ∀ s' s : CS, s.o = σ.o → ECL H (x - 100) y c X P T σ a m s' s → ok (K s) Q) : ok ((f_X1_close N σ 125).bind fun p4 => if oK p4.2 a 0 then K (CS.setI p4.2 50 (CS.o p4.2 a 3)) else none) Q := by
  obtain ⟨nf, hm, ea, nr, m4⟩ := ht
  refine ok_bind (q_closE hN h nf h1) (fun p hp => ?_)
  obtain ⟨j, ⟨r1, r2, r3⟩, w⟩ := hp
  have pr : p.2.r 51 m = some a := by rw [r1]; exact ea
  refine ok_chk (j.1.1.2.1 m a m4 pr) (hK p.2 _ (by rw [co_setI]; exact r2) ⟨j.nmr pr m4 (fun z => ?_), by rw [cr_setI]; exact pr, fun z => ?_⟩)
  · rw [← hm]; unfold cnI; rw [(w z).1.2.2.2.1.1]
  · have z1 := (ci_ne _ _ _ (by decide)).symm.trans z
    have w1 := w z1
    refine ⟨w1.1, (TLE.rf p.2).i50 _, ⟨r1, r2, r3⟩, (ci_ne _ _ _ (by decide)).trans w1.2.1, (ci_ne _ _ _ (by decide)).trans w1.2.2.1, ?_, ?_⟩
    · unfold nmI; rw [ci_at, co_setI]
    · rw [← hm]; unfold cnI; rw [ci_ne _ _ _ (by decide), w1.1.2.2.2.1.1]
theorem q_el72 {N : Nat} {H : HB} (hN : 10000000000 ≤ N) {x y : Int} {c : List Nat} {X : List (Nat × List Nat)} {P : List Nat} {T : List Int} {σ : CS} {a m : Nat} (hx : x ≤ 4000) (hy : y ≤ 90) (h : JJ H x y c X P (ccI σ :: T) σ) (ht : TUR σ a m) (hs : isL1 (σ.o a 0)) : ok (f_X7_endList_72 N σ a) (fun R => TNQ H x y X P T σ R.2 ∧ (R.2.i 32 = 0 → cnI R.2 = (m : Int) ∨ ((σ.o a 0 = 213 ∨ σ.o a 0 = 215) ∧ nmI R.2 = (R.2.o a 3).toInt ∧ cnI R.2 = (m : Int) + 1))) := by
  have hN1 : 1000 ≤ N := by omega
  rw [kEL.eq]
  refine q_clo2 (K := kEL N a) hN1 h ht (sg_one h ht (Or.inl hs)) (fun s' s so hE => ?_)
  have h' : JJ H (x - 100 + 100) y c X P (ccI σ :: T) σ := by rw [show x - 100 + 100 = x by omega]; exact h
  unfold kEL
  rw [so]
  unfold isL1 at hs
  rcases hs with e | e | e | e | e | e
  · rw [e, if_neg (by decide), if_neg (by decide), if_neg (by decide), if_neg (by decide), if_neg (by decide), if_neg (by decide), if_neg (by decide)]
    exact ok_imp (q_endBlk h' ht e hE) (fun R hR => ⟨hR.1.w (by omega) (Int.le_refl _), fun z => Or.inl (hR.2 z)⟩)
  · rw [e, if_pos rfl]
    exact ok_bind (q_endLock (by omega) hy h' ht e hE) (fun R hR => ok_some ⟨hR.1.w (by omega) (Int.le_refl _), fun z => Or.inl (hR.2 z)⟩)
  · rw [e, if_neg (by decide), if_pos rfl]
    exact ok_bind (q_endGrd (by omega) hy h' ht (Or.inl e) hE) (fun R hR => ok_some ⟨hR.1.w (by omega) (Int.le_refl _), fun z => (hR.2 z).elim Or.inl (fun w => Or.inr ⟨Or.inl rfl, w⟩)⟩)
  · rw [e, if_neg (by decide), if_neg (by decide), if_neg (by decide), if_pos rfl]
    exact ok_bind (q_endGrd (by omega) hy h' ht (Or.inr e) hE) (fun R hR => ok_some ⟨hR.1.w (by omega) (Int.le_refl _), fun z => (hR.2 z).elim Or.inl (fun w => Or.inr ⟨Or.inr rfl, w⟩)⟩)
  · rw [e, if_neg (by decide), if_neg (by decide), if_neg (by decide), if_neg (by decide), if_pos rfl]
    exact ok_bind (q_endFin hN (by omega) hy h' ht e hE) (fun R hR => ok_some ⟨hR.1.w (by omega) (Int.le_refl _), fun z => Or.inl (hR.2 z)⟩)
  · rw [e, if_neg (by decide), if_neg (by decide), if_neg (by decide), if_neg (by decide), if_neg (by decide), if_neg (by decide), if_pos rfl]
    exact ok_bind (q_endSw hN (by omega) hy h' ht e hE) (fun R hR => ok_some ⟨hR.1.w (by omega) (Int.le_refl _), fun z => Or.inl (hR.2 z)⟩)
/-- what holds many ends, but for an arm -/
theorem q_endList {N : Nat} {H : HB} (hN : 10000000000 ≤ N) {x y : Int} {c : List Nat} {X : List (Nat × List Nat)} {P : List Nat} {T : List Int} {σ : CS} {a m : Nat} (hx : x ≤ 4000) (hy : y ≤ 90) (h : JJ H x y c X P (ccI σ :: T) σ) (ht : TUR σ a m) (hs : isL1 (σ.o a 0) ∨ σ.o a 0 = 300) : ok (f_X7_endList N σ a) (fun R => TNQ H x y X P T σ R.2 ∧ (R.2.i 32 = 0 → (cnI R.2 = (m : Int) ∧ (σ.o a 0 = 300 → m = 0 → P = [] → ∃ D, WTC R.2 D)) ∨ ((σ.o a 0 = 213 ∨ σ.o a 0 = 215) ∧ nmI R.2 = (R.2.o a 3).toInt ∧ cnI R.2 = (m : Int) + 1))) := by
  rcases hs with hs | hs
  · unfold f_X7_endList
    have n0 : ¬ σ.o a 0 = 300 := fun e => by
      rw [e] at hs; exact absurd hs (by unfold isL1; decide)
    have n2 : ¬ σ.o a 0 = 302 := fun e => by
      rw [e] at hs; exact absurd hs (by unfold isL1; decide)
    refine ok_chk (h.1.1.2.1 m a ht.2.2.2.2 ht.2.2.1) ?_
    rw [if_neg n0, if_neg n2]
    exact ok_imp (q_el72 hN hx hy h ht hs) (fun R hR => ⟨hR.1, fun z => (hR.2 z).elim (fun w => Or.inl ⟨w, fun e => absurd e n0⟩) Or.inr⟩)
  · exact ok_imp (q_endRoot (by omega) hx hy h ht hs) (fun R hR => ⟨hR.1, fun z => Or.inl ⟨(hR.2 z).1, fun _ => (hR.2 z).2⟩⟩)
theorem q_arm72 {N : Nat} {H : HB} (hN : 1000 ≤ N) {x y : Int} {c : List Nat} {X : List (Nat × List Nat)} {P : List Nat} {T : List Int} {σ : CS} {a m : Nat} (h : JJ H x y c X P (ccI σ :: T) σ) (ht : TUR σ a m) (hs : σ.o a 0 = 302) (w : Int32) (hw : -1 ≤ w.toInt ∧ w.toInt < (m : Int) ∧ ∀ b : Nat, 0 ≤ w.toInt → σ.r 51 w.toInt.toNat = some b → σ.o b 0 = 302) : ok (f_X7_endList_72 N σ a) (fun R => CBS H R.2 ∧ (R.2.i 32 = 0 → ∃ lim' : List Int, T = ccI σ :: lim' ∧ JJ H (x - 150) y c X P lim' (CS.setI R.2 56 w) ∧ ARE m (σ.o a 3) σ R.2)) := by
  rw [kEL.eq]
  refine q_clo2 (K := kEL N a) hN h ht (sg_one h ht (Or.inr hs)) (fun s' s so hE => ?_)
  have h' : JJ H (x - 100 + 100) y c X P (ccI σ :: T) σ := by rw [show x - 100 + 100 = x by omega]; exact h
  unfold kEL
  rw [so, hs, if_neg (by decide), if_neg (by decide), if_neg (by decide), if_neg (by decide), if_neg (by decide), if_neg (by decide), if_neg (by decide)]
  refine ok_imp (q_popArm h' ht hs w hw hE) (fun R hR => ⟨hR.1, fun z => ?_⟩)
  obtain ⟨l, l1, l2, l3⟩ := hR.2 z
  exact ⟨l, l1, l2.w (by omega) (Int.le_refl _), l3⟩
/-- an arm ends -/
theorem q_endArm {N : Nat} {H : HB} (hN : 1000 ≤ N) {x y : Int} {c : List Nat} {X : List (Nat × List Nat)} {P : List Nat} {T : List Int} {σ : CS} {a m : Nat} (h : JJ H x y c X P (ccI σ :: T) σ) (ht : TUR σ a m) (hs : σ.o a 0 = 302) (w : Int32) (hw : -1 ≤ w.toInt ∧ w.toInt < (m : Int) ∧ ∀ b : Nat, 0 ≤ w.toInt → σ.r 51 w.toInt.toNat = some b → σ.o b 0 = 302) : ok (f_X7_endList N σ a) (fun R => CBS H R.2 ∧ (R.2.i 32 = 0 → ∃ lim' : List Int, T = ccI σ :: lim' ∧ JJ H (x - 150) y c X P lim' (CS.setI R.2 56 w) ∧ ARE m (σ.o a 3) σ R.2)) := by
  unfold f_X7_endList f_X7_notReached
  obtain ⟨nf, hm, ea, nr, m4⟩ := (show TUR σ a m from ht)
  refine ok_chk (h.1.1.2.1 m a m4 ea) ?_
  rw [if_neg (by rw [hs]; decide), if_pos hs]
  refine ok_ite (fun _ => q_arm72 hN h ht hs w hw) (fun _ => ?_)
  refine ok_bind (Q := fun u => IRR σ u.2) (ok_ite (fun _ => ok_some (IRR.rf h.1)) (fun _ => ok_some ((IRR.rf h.1).i 37 _ (by unfold IRJ; omega) (by omega)))) (fun u hu => ?_)
  have sx := hu.sx nf
  have nfu := hu.f.1.trans nf
  have ecu : ccI u.2 = ccI σ := by unfold ccI; rw [sx.2.2.2.1.2.2.2]
  have ur : u.2.r = σ.r := hu.1.2.2.2.2.2.2.1
  have uo : u.2.o = σ.o := hu.1.2.2.2.1
  have ju := h.irr hu
  rw [← ecu] at ju
  have tu : TUR u.2 a m := ⟨nfu, by rw [← hm]; unfold cnI; rw [sx.2.2.2.1.2.1], by rw [ur]; exact ea, fun i hi => by rw [ur]; exact nr i hi, m4⟩
  refine ok_imp (q_arm72 hN ju tu (by rw [uo]; exact hs) w (by rw [ur, uo]; exact hw)) (fun R hR => ⟨hR.1, fun z => ?_⟩)
  obtain ⟨l, l1, l2, l3⟩ := hR.2 z
  refine ⟨l, by rw [← ecu]; exact l1, l2, ?_⟩
  obtain ⟨b0, b1, b2, b3, b4, b5, b6, b7, b8, b9⟩ := l3
  have a49 : u.2.a 49 = σ.a 49 := hu.2.2.1 49 (by decide)
  have a18 : u.2.a 18 = σ.a 18 := hu.2.2.1 18 (by decide)
  have a19 : u.2.a 19 = σ.a 19 := hu.2.2.1 19 (by decide)
  have enm : nmI u.2 = nmI σ := by unfold nmI; rw [hu.2.1 50 (by unfold IRJ; omega)]
  have pl := sx.2.1
  have sg := sx.2.2.1
  rw [enm, a49] at b4
  rw [ecu, a18, a19] at b5
  refine ⟨nf, by omega, by omega, fun i hi => ?_, b4, b5, b6.trans sx.2.2.2.1.2.2.2, b7.trans sx.2.2.2.1.1, by rw [b8, uo], b9.trans uo⟩
  have q := b3 i hi
  rw [ur, uo, hu.1.2.2.2.2.1] at q
  exact q
