/-! the class's reading: the groups of a switch -/
theorem ROW1.sw {s : CS} {DT : Nat → List Nat} {KT : Nat → Prop} {a : Nat} {c0 c : List Nat} {lim lim' : List Int} (r : ROW1 s DT KT a c0 c lim lim') (hs : s.o a 0 = 218) : c = c0 ∧ TTc (tcI s) DT KT (s.o a 9) c0 ∧ TTc (tcI s) DT KT (s.o a 10) c0 ∧ ((s.o a 11).toInt < 0 ∨ TTc (tcI s) DT KT (s.o a 11) c0) ∧ (∃ (l : Int) (T : List Int), lim = l :: T ∧ lim' = (s.o a 13).toInt :: T ∧ (s.o a 13).toInt ≤ l ∧ (∀ i : Nat, (s.o a 13).toInt ≤ (i : Int) → (i : Int) < l → TTc (tcI s) DT KT (s.a 19 i) c0)) := by
  obtain ⟨r1, r2, r3⟩ := r
  have no : ∀ w : Int32, s.o a 0 = w → ¬ w = 218 → c = c0 ∧ TTc (tcI s) DT KT (s.o a 9) c0 ∧ TTc (tcI s) DT KT (s.o a 10) c0 ∧ ((s.o a 11).toInt < 0 ∨ TTc (tcI s) DT KT (s.o a 11) c0) ∧ (∃ (l : Int) (T : List Int), lim = l :: T ∧ lim' = (s.o a 13).toInt :: T ∧ (s.o a 13).toInt ≤ l ∧ (∀ i : Nat, (s.o a 13).toInt ≤ (i : Int) → (i : Int) < l → TTc (tcI s) DT KT (s.a 19 i) c0)) := fun w e n => absurd (e.symm.trans hs) n
  rcases r3 with ⟨z1, z2, e⟩ | ⟨z1, z2, z3, -⟩ | ⟨z1, z2, z3, e⟩ | ⟨z1, z2, z3, e⟩ | ⟨z1, z2, z3, z4, e⟩ | ⟨z1, z2, z3, z4, z5, e⟩ | ⟨z1, z2, z3, z4, z5, z6⟩ | ⟨z1, z2, z3, e⟩ | ⟨z1, z2, z3, z4, z5, e⟩ | ⟨z1, z2, z3, z4, z5, e⟩ | ⟨z1, z2, z3, z4, e⟩ | ⟨z1, z2, z3, e⟩
  · rcases z1 with z1 | z1
    · exact no _ z1 (by decide)
    · exact no _ z1 (by decide)
  · exact no _ z1 (by decide)
  · exact no _ z1 (by decide)
  · rcases z1 with z1 | z1
    · exact no _ z1 (by decide)
    · exact no _ z1 (by decide)
  · rcases z1 with z1 | z1 | z1
    · exact no _ z1 (by decide)
    · exact no _ z1 (by decide)
    · exact no _ z1 (by decide)
  · exact no _ z1 (by decide)
  · exact ⟨z2, z3, z4, z5, z6⟩
  · exact no _ z1 (by decide)
  · exact no _ z1 (by decide)
  · exact no _ z1 (by decide)
  · exact no _ z1 (by decide)
  · exact no _ z1 (by decide)
theorem ROW1.mkS {s : CS} {DT : Nat → List Nat} {KT : Nat → Prop} {a : Nat} {c0 c : List Nat} {lim lim' : List Int} (r1 : (s.o a 2).toInt = (c0.length : Int)) (r2 : ∀ n : Nat, (n : Int) < (s.o a 3).toInt → NMT (s.a 49 n) c0) (hs : s.o a 0 = 218) (h : c = c0 ∧ TTc (tcI s) DT KT (s.o a 9) c0 ∧ TTc (tcI s) DT KT (s.o a 10) c0 ∧ ((s.o a 11).toInt < 0 ∨ TTc (tcI s) DT KT (s.o a 11) c0) ∧ (∃ (l : Int) (T : List Int), lim = l :: T ∧ lim' = (s.o a 13).toInt :: T ∧ (s.o a 13).toInt ≤ l ∧ (∀ i : Nat, (s.o a 13).toInt ≤ (i : Int) → (i : Int) < l → TTc (tcI s) DT KT (s.a 19 i) c0))) : ROW1 s DT KT a c0 c lim lim' := ⟨r1, r2, Or.inr (Or.inr (Or.inr (Or.inr (Or.inr (Or.inr (Or.inl ⟨hs, h⟩))))))⟩
/-- the entries that the innermost switch owns -/
theorem JK.lims {H : HB} {x y : Int} {cD c d : List Nat} {X : List (Nat × List Nat)} {P : List Nat} {l l' : Int} {T : List Int} {s : CS} {a m : Nat} (h : JK H x y cD c d X P (l :: T) s) (ea : s.r 51 m = some a) (hm : s.i 32 = 0 → cnI s = (m : Int) + 1) (hs : s.i 32 = 0 → s.o a 0 = 218) (hl : s.i 32 = 0 → (s.o a 13).toInt ≤ l' ∧ l' ≤ ccI s) (hi : s.i 32 = 0 → ∀ i : Nat, l ≤ (i : Int) → (i : Int) < l' → ∃ k : Nat, (s.a 19 i).toInt = (k : Int) ∧ (k, c) ∈ X) : JK H x y cD c d X P (l' :: T) s := by
  refine h.top h.1 rfl ea ea (fun q => ⟨hm q, ⟨⟨rfl, rfl, rfl, rfl, rfl⟩, rfl, rfl, rfl, rfl⟩, RSQ.rf s m, ⟨rfl, rfl, rfl, rfl, rfl⟩, rfl, rfl⟩) (fun q => (h.2 q).2.2.2.2.2.2.2.2.1) (fun q => Or.inl rfl) (fun q => ?_) (fun q DT KT c0 lim0 qX r => ?_) (fun q k hk => Or.inl hk) (fun q k _ k2 _ => Or.inr k2) (fun q n _ z => z) (fun q => (hl q).2)
  · have w := (h.2 q).2.2.2.2.2.2.2.1
    have em : (cnI s).toNat = m + 1 := by have := hm q; omega
    rw [em] at w
    exact w
  · have w := r.sw (hs q)
    obtain ⟨r1, r2, -⟩ := r
    obtain ⟨w1, w2, w3, w4, l0, T0, w5, w6, w7, w8⟩ := w
    have e := List.cons.inj w5
    refine ROW1.mkS r1 r2 (hs q) ⟨w1, w2, w3, w4, l', T0, by rw [e.2], w6, (hl q).1, fun i q1 q2 => ?_⟩
    by_cases z : (i : Int) < l
    · exact w8 i q1 (by omega)
    · obtain ⟨k, k1, k2⟩ := hi q i (by omega) q2
      rw [w1] at k2
      exact TTc.x qX k1 k2
theorem CNR.mid {f : Int} {s R : CS} {t : Int32} (h : CNR f s R t) : MDL 1 0 0 s R := by
  obtain ⟨a0, ⟨a1, a2⟩, a3, a4, ⟨a5, a6, a7, a8, a9⟩, a10, a11, a12, a13⟩ := h
  exact ⟨a0, ⟨a1, by omega⟩, by unfold sgI; rw [a4]; omega, ⟨a7, a8⟩, a10.lo (by omega), a11, a12, by omega, by unfold nmI; rw [a6]; exact Int.le_refl _⟩
theorem q_grp87 {N : Nat} {H : HB} (hN : 1000 ≤ N) {E1 : CS → Option (Unit × CS)} {E2 : CS → Option (Int32 × CS)} {x y : Int} {c : List Nat} {X X0 : List (Nat × List Nat)} {P : List Nat} {T : List Int} {σ s : CS} {a m t : Nat} {x2 : Int32} {p g : Int} (hx : x ≤ 4500) (hy : y ≤ 92) (ht : TUR σ a m) (hs : σ.o a 0 = 218) (hX : ∀ q ∈ X0, q ∈ X) (h : JJ H x y c X (t :: P) (ccI s :: T) s) (hr : s.r 51 m = some a) (ht2 : x2.toInt = (t : Int) ∧ (t, c) ∈ X) (hp : 1 ≤ p) (hg : 0 ≤ g) (hm : s.i 32 = 0 → MDL p g 0 σ s ∧ s.o a 0 = 218) : ok (f_X7_groupTurn_87 N E1 E2 s a x2) (fun R => TNQ H (x - 100) y X0 P T σ R.2 ∧ (R.2.i 32 = 0 → R.2.o a 0 = 218)) := by
  obtain ⟨nf, hmm, ea, nr, m4⟩ := (show TUR σ a m from ht)
  unfold f_X7_groupTurn_87
  refine ok_bind (q_expect hN h.1 58) (fun q hq => ?_)
  have hq' : JJ H (x - 100) y c X (t :: P) (ccI s :: T) q.2 ∧ (q.2.r = s.r ∧ q.2.o = s.o) ∧ (q.2.i 32 = 0 → SX 1 0 0 s q.2) := by
    rcases hq with hf | ⟨q1, q2⟩
    · exact ⟨JJ.flt h.1 hf, ⟨hf.1.2.2.2.2.2.2.2.1, hf.1.2.2.2.1⟩, fun z => absurd z hf.2.2.2.1⟩
    · obtain ⟨j, e⟩ := h.tk q2 (fun _ => by rw [q1]; decide)
      exact ⟨j, ⟨q2.1.1.2.2.2.2.2.2.2.1, q2.1.1.2.2.2.1⟩, fun z => (e z).sx⟩
  obtain ⟨j1, ⟨q1, q2⟩, x1⟩ := hq'
  refine ok_bind (q_aim N q.2 x2) (fun r hr' => ?_)
  have j2 : JJ H (x - 100) y c X P (ccI s :: T) r.2 := j1.aim hr' (by omega) (by omega) (fun _ => ⟨t, ht2⟩) (fun k hk => by
    rcases List.mem_cons.mp hk with e | e
    · right; rw [e]; exact ht2.1.symm
    · exact Or.inl e)
  have rr : r.2.r 51 m = some a := by rw [hr'.1.2.2.2.2.2.2.1, q1]; exact hr
  have ro : r.2.o = s.o := hr'.1.2.2.2.1.trans q2
  refine ok_chk (j2.1.1.2.1 m a m4 rr) (ok_some ?_)
  have x2' : r.2.i 32 = 0 → SX 1 0 0 s r.2 := fun z => ((x1 (hr'.f.1.symm.trans z)).tr (hr'.sx (hr'.f.1.symm.trans z))).w (by omega) (by omega) (by omega)
  have rc : r.2.i 32 = 0 → cnI r.2 = (m : Int) + 1 := fun z => by
    have w := x2' z
    rw [← hmm]; unfold cnI; rw [w.2.2.2.1.2.1, (hm w.1).1.2.2.2.1.1]
  have j3 := j2.k.fld rr m4 rc 5 1 (by omega) (fun _ => Or.inr rfl)
  have ou := (OUV.rf r.2 a).o 5 1
  have u0 : (CS.setO r.2 a 5 1).o a 0 = s.o a 0 := by rw [show (CS.setO r.2 a 5 1).o a = upd (r.2.o a) 5 1 from ou.2.2.1, ro]; rfl
  have ui : (CS.setO r.2 a 5 1).i = r.2.i := ci_setO ..
  have md : r.2.i 32 = 0 → MDL 0 0 0 r.2 (CS.setO r.2 a 5 1) := fun z => MDL.cel z j2.1.1 (rc z) m4 rr ou
  have ur : (CS.setO r.2 a 5 1).r 51 m = some a := rr
  generalize CS.setO r.2 a 5 1 = U at *
  have ir := (IRR.rf j3.1).i 36 1 (by unfold IRJ; omega) (fun _ => Or.inr rfl)
  have j4 := j3.irr ir
  show TNQ H (x - 100) y X0 P T σ (CS.setI U 36 1) ∧ ((CS.setI U 36 1).i 32 = 0 → (CS.setI U 36 1).o a 0 = 218)
  have fo : (CS.setI U 36 1).o a 0 = s.o a 0 := by rw [co_setI]; exact u0
  have fr : (CS.setI U 36 1).r 51 m = some a := ur
  generalize CS.setI U 36 1 = F at *
  have key : F.i 32 = 0 → r.2.i 32 = 0 := fun z => by rw [← ui]; exact ir.f.1.symm.trans z
  refine ⟨⟨j4.1, fun z => ?_⟩, fun z => by rw [fo]; exact (hm (x2' (key z)).1).2⟩
  have z1 := key z
  have zU := ir.f.1.symm.trans z
  have w := x2' z1
  have m1 : MDL 1 0 0 σ F := (((((hm w.1).1).tr w.mid).tr (md z1)).tr (ir.sx zU).mid).w (by omega) (by omega) (by omega)
  have ecc : ccI F = ccI s := by
    have e1 : F.i 22 = U.i 22 := (ir.sx zU).2.2.2.1.2.2.2
    unfold ccI
    rw [e1, ui, w.2.2.2.1.2.2.2]
  rw [ecc]
  refine ⟨⟨c, JK.j (j4.sub hX)⟩, m1.trn (by omega) (by omega) hmm ea fr nr ?_⟩
  unfold sgn
  rw [fo, (hm w.1).2, hs]; rfl
