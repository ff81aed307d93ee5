/-! the class's reading: blocks, locks and finallys end, whole -/
theorem q_lv (N : Nat) (s : CS) (t g : Int32) : ok (f_X7_leave N s t g) (fun R => ∃ o v : Int32, ADD s R.2 o v ∧ ((o = 30 ∧ v = t ∧ g = s.i 38) ∨ (o = 60 ∧ v = t * 32 + g))) := by
  unfold f_X7_leave
  refine ok_ite (fun ce => ?_) (fun ce => ?_)
  · exact ok_bind (q_add N s 30 t) (fun p hp => ok_some ⟨30, t, hp, Or.inl ⟨rfl, rfl, ce⟩⟩)
  · exact ok_bind (q_add N s 60 (t * 32 + g)) (fun p hp => ok_some ⟨60, _, hp, Or.inr ⟨rfl, rfl⟩⟩)
theorem IOK.lv {tc : Int} {DT : Nat → List Nat} {KT : Nat → Prop} {o v t g : Int32} {cD c0 r c1 : List Nat} (h : (o = 30 ∧ v = t ∧ g.toInt = (cD.length : Int)) ∨ (o = 60 ∧ v = t * 32 + g)) (w1 : TTc tc DT KT t c0) (w2 : g.toInt = (c0.length : Int)) (w3 : cD = r ++ c0) (hl : cD.length ≤ 21) (htc : tc ≤ 2000) : IOK tc DT KT o v cD c1 := by
  have l2 : c0.length ≤ cD.length := by rw [w3, List.length_append]; omega
  rcases h with ⟨e1, e2, e3⟩ | ⟨e1, e2⟩
  · have e : c0 = cD := by
      have l3 : c0.length = cD.length := by omega
      rw [w3, List.length_append] at l3
      have r0 : r = [] := List.length_eq_zero_iff.mp (by omega)
      rw [w3, r0]; rfl
    rw [e] at w1
    rw [e1, e2]
    exact ⟨fun q => absurd q (by decide), fun _ => w1, fun q => absurd q (by decide), fun q => absurd q (by decide), fun q => absurd q (by decide), fun q => absurd q (by decide), fun q => absurd q (by decide), fun q => absurd q (by decide), fun q => absurd q (by decide), fun q => absurd q (by decide), fun q => absurd q (by decide), fun q => absurd q (by decide), by decide⟩
  · rw [e1, e2]
    have lv := lv32 (t := t) (g := g) ⟨w1.1, by have := w1.2.1; omega⟩ (by omega)
    refine ⟨fun q => absurd q (by decide), fun q => absurd q (by decide), fun _ q => absurd q (by decide), fun _ q => absurd q (by decide), fun q => absurd q (by decide), fun q => absurd q (by decide), fun q => absurd q (by decide), fun q => absurd q (by decide), fun q => absurd q (by decide), fun q => absurd q (by decide), fun _ => ⟨c0.length, lv.2.trans w2, l2, ?_⟩, fun q => absurd q (by decide), by decide⟩
    rw [lv.1, w3, drop_suf]
    exact w1
theorem q_lose2 {N : Nat} {H : HB} {s : CS} (h : CBS H s) (x2 : Int32) : ∀ (n : Nat) (σ : CS) (x3 : Int32), x2.toInt - x3.toInt < n → IRR s σ → ok (f_X6_loseJumps_2 N (n + 1) σ x2 x3) (fun R => IRR s R.2)
  | n, σ, x3, hn, hi => by
    show ok (b_X6_loseJumps_2 N (f_X6_loseJumps_2 N n) σ x2 x3) _
    unfold b_X6_loseJumps_2
    have e1 : (1 : Int32).toInt = 1 := by decide
    refine ok_ite (fun _ => ok_some hi) (fun c => ?_)
    have l := lt_int (Int32.not_le.mp c)
    have b1 := Int32.toInt_lt x2
    have b2 := Int32.le_toInt x3
    have es : (x3 + 1).toInt = x3.toInt + 1 := by rw [toInt_add] <;> rw [e1] <;> omega
    obtain ⟨n', rfl⟩ : ∃ n', n = n' + 1 := ⟨n - 1, by omega⟩
    exact q_lose2 h x2 n' _ (x3 + 1) (by omega) (hi.a _)
  termination_by n => n
theorem q_lose {N : Nat} {H : HB} (hN : 10000000000 ≤ N) {s : CS} (h : CBS H s) (x1 x2 : Int32) : ok (f_X6_loseJumps N s x1 x2) (fun R => IRR s R.2) := by
  unfold f_X6_loseJumps
  obtain ⟨N', rfl⟩ : ∃ N', N = N' + 1 := ⟨N - 1, by omega⟩
  have b1 := Int32.toInt_lt x2
  have b2 := Int32.le_toInt x1
  exact q_lose2 h x2 N' s x1 (by omega) (IRR.rf h)
/-- behind the brace of a row's end: s' there, s with the names gone -/
def ECL (H : HB) (x y : Int) (c : List Nat) (X : List (Nat × List Nat)) (P : List Nat) (T : List Int) (σ : CS) (a m : Nat) (s' s : CS) : Prop := JSH H x y c c c X P (ccI σ :: T) s ∧ s.r 51 m = some a ∧ (s.i 32 = 0 → MDL 1 0 (-1) σ s' ∧ TLE s' s ∧ (s'.r = σ.r ∧ s'.o = σ.o ∧ s'.ol = σ.ol) ∧ s.i 22 = σ.i 22 ∧ s.i 38 = σ.i 38 ∧ nmI s = (s.o a 3).toInt ∧ cnI s = (m : Int) + 1)
theorem ECL.o {H : HB} {x y : Int} {c : List Nat} {X : List (Nat × List Nat)} {P : List Nat} {T : List Int} {σ : CS} {a m : Nat} {s' s : CS} (h : ECL H x y c X P T σ a m s' s) (nf : s.i 32 = 0) : s.o = σ.o := by
  have w := h.2.2 nf
  exact w.2.1.1.2.1.trans w.2.2.1.2.1
theorem q_clo {N : Nat} {H : HB} (hN : 1000 ≤ N) {x y : Int} {c : List Nat} {X : List (Nat × List Nat)} {P : List Nat} {T : List Int} {σ : CS} {a m : Nat} (h : JJ H x y c X P (ccI σ :: T) σ) (ht : TUR σ a m) (h1 : 1 ≤ sgI σ) {α : Type} {K : CS → Option α} {Q : α → Prop} (hK : ∀ s' s : CS, ECL H (x - 100) y c X P T σ a m s' s → ok (K s) Q) : ok ((f_X1_close N σ 125).bind fun p4 => if oK p4.2 a 0 then K (CS.setI p4.2 50 (CS.o p4.2 a 3)) else none) Q := by
  obtain ⟨nf, hm, ea, nr, m4⟩ := ht
  refine ok_bind (q_closE hN h nf h1) (fun p hp => ?_)
  obtain ⟨j, ⟨r1, r2, r3⟩, w⟩ := hp
  have pr : p.2.r 51 m = some a := by rw [r1]; exact ea
  refine ok_chk (j.1.1.2.1 m a m4 pr) (hK p.2 _ ⟨j.nmr pr m4 (fun z => ?_), by rw [cr_setI]; exact pr, fun z => ?_⟩)
  · rw [← hm]; unfold cnI; rw [(w z).1.2.2.2.1.1]
  · have z1 := (ci_ne _ _ _ (by decide)).symm.trans z
    have w1 := w z1
    refine ⟨w1.1, (TLE.rf p.2).i50 _, ⟨r1, r2, r3⟩, (ci_ne _ _ _ (by decide)).trans w1.2.1, (ci_ne _ _ _ (by decide)).trans w1.2.2.1, ?_, ?_⟩
    · unfold nmI; rw [ci_at, co_setI]
    · rw [← hm]; unfold cnI; rw [ci_ne _ _ _ (by decide), w1.1.2.2.2.1.1]
/-- a row whose context is told by its sort -/
theorem JJ.row {H : HB} {x y : Int} {c : List Nat} {X : List (Nat × List Nat)} {P : List Nat} {lim : List Int} {σ : CS} {a m : Nat} (h : JJ H x y c X P lim σ) (ht : TUR σ a m) : ∃ (DT : Nat → List Nat) (KT : Nat → Prop) (c0 : List Nat) (lim0 : List Int), ROW1 σ DT KT a c0 c lim lim0 := by
  obtain ⟨D, DT, KT, -, -, -, -, -, ⟨k, k1, k2, k3⟩, -⟩ := (h.2 ht.1).1
  have ek : k = m + 1 := by have := ht.2.1; omega
  rw [ek] at k3
  obtain ⟨c0, L0, r⟩ := k3.top ht.2.2.1
  exact ⟨DT, KT, c0, L0, r⟩
/-- the contexts of lock, finally, try, catch -/
theorem ROW1.cx {s : CS} {DT : Nat → List Nat} {KT : Nat → Prop} {a : Nat} {c0 c : List Nat} {lim lim' : List Int} (r : ROW1 s DT KT a c0 c lim lim') : (s.o a 0 = 212 → c = 0 :: c0 ∧ lim' = lim) ∧ (s.o a 0 = 213 → c = 1 :: c0 ∧ lim' = lim) ∧ (s.o a 0 = 215 ∨ s.o a 0 = 305 → c = 2 :: c0 ∧ lim' = lim) ∧ (s.o a 0 = 216 → c = 3 :: c0 ∧ lim' = lim) ∧ ((s.o a 0 = 212 ∨ s.o a 0 = 213 ∨ s.o a 0 = 215 ∨ s.o a 0 = 305 ∨ s.o a 0 = 216) → TTc (tcI s) DT KT (s.o a 9) c0) ∧ (s.o a 0 = 213 ∨ s.o a 0 = 215 → TTc (tcI s) DT KT (s.o a 10) (2 :: c0)) ∧ (s.o a 0 = 213 ∨ s.o a 0 = 215 ∨ s.o a 0 = 305 → KTc (tcI s) DT KT (s.o a 11) (3 :: c0)) := by
  obtain ⟨r1, r2, r3⟩ := r
  obtain ⟨v, hv⟩ : ∃ v, v = s.o a 0 := ⟨_, rfl⟩
  rw [← hv] at r3 ⊢
  have no : ∀ w : Int32, v = w → ¬ (w = 212 ∨ w = 213 ∨ w = 215 ∨ w = 305 ∨ w = 216) → (v = 212 → c = 0 :: c0 ∧ lim' = lim) ∧ (v = 213 → c = 1 :: c0 ∧ lim' = lim) ∧ (v = 215 ∨ v = 305 → c = 2 :: c0 ∧ lim' = lim) ∧ (v = 216 → c = 3 :: c0 ∧ lim' = lim) ∧ ((v = 212 ∨ v = 213 ∨ v = 215 ∨ v = 305 ∨ v = 216) → TTc (tcI s) DT KT (s.o a 9) c0) ∧ (v = 213 ∨ v = 215 → TTc (tcI s) DT KT (s.o a 10) (2 :: c0)) ∧ (v = 213 ∨ v = 215 ∨ v = 305 → KTc (tcI s) DT KT (s.o a 11) (3 :: c0)) := fun w e n => by
    rw [e]
    exact ⟨fun q => absurd (Or.inl q) n, fun q => absurd (Or.inr (Or.inl q)) n, fun q => absurd (by rcases q with q | q; exact Or.inr (Or.inr (Or.inl q)); exact Or.inr (Or.inr (Or.inr (Or.inl q)))) n, fun q => absurd (Or.inr (Or.inr (Or.inr (Or.inr q)))) n, fun q => absurd q n, fun q => absurd (by rcases q with q | q; exact Or.inr (Or.inl q); exact Or.inr (Or.inr (Or.inl q))) n, fun q => absurd (by rcases q with q | q | q; exact Or.inr (Or.inl q); exact Or.inr (Or.inr (Or.inl q)); exact Or.inr (Or.inr (Or.inr (Or.inl q)))) n⟩
  rcases r3 with ⟨z1, z2, e⟩ | ⟨z1, z2, z3, -⟩ | ⟨z1, z2, z3, e⟩ | ⟨z1, z2, z3, e⟩ | ⟨z1, z2, z3, z4, e⟩ | ⟨z1, z2, z3, z4, z5, e⟩ | ⟨z1, z2, z3, -⟩ | ⟨z1, z2, z3, e⟩ | ⟨z1, z2, z3, z4, z5, e⟩ | ⟨z1, z2, z3, z4, z5, e⟩ | ⟨z1, z2, z3, z4, e⟩ | ⟨z1, z2, z3, e⟩
  · rcases z1 with z1 | z1
    · exact no _ z1 (by decide)
    · exact no _ z1 (by decide)
  · exact no _ z1 (by decide)
  · exact no _ z1 (by decide)
  · rcases z1 with z1 | z1
    · exact no _ z1 (by decide)
    · exact no _ z1 (by decide)
  · rcases z1 with z1 | z1 | z1
    · exact no _ z1 (by decide)
    · exact no _ z1 (by decide)
    · exact no _ z1 (by decide)
  · exact no _ z1 (by decide)
  · exact no _ z1 (by decide)
  · rw [z1]
    exact ⟨fun _ => ⟨z2, e⟩, fun q => absurd q (by decide), fun q => absurd q (by decide), fun q => absurd q (by decide), fun _ => z3, fun q => absurd q (by decide), fun q => absurd q (by decide)⟩
  · rw [z1]
    exact ⟨fun q => absurd q (by decide), fun _ => ⟨z2, e⟩, fun q => absurd q (by decide), fun q => absurd q (by decide), fun _ => z3, fun _ => z4, fun _ => z5⟩
  · rw [z1]
    exact ⟨fun q => absurd q (by decide), fun q => absurd q (by decide), fun _ => ⟨z2, e⟩, fun q => absurd q (by decide), fun _ => z3, fun _ => z4, fun _ => z5⟩
  · rw [z1]
    exact ⟨fun q => absurd q (by decide), fun q => absurd q (by decide), fun _ => ⟨z2, e⟩, fun q => absurd q (by decide), fun _ => z3, fun q => absurd q (by decide), fun _ => z4⟩
  · rw [z1]
    exact ⟨fun q => absurd q (by decide), fun q => absurd q (by decide), fun q => absurd q (by decide), fun _ => ⟨z2, e⟩, fun _ => z3, fun q => absurd q (by decide), fun q => absurd q (by decide)⟩
