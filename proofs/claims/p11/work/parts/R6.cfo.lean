/-! the class's reading: for -/
theorem q_chHere {N : Nat} {H : HB} (hN : 1000 ≤ N) {k : Int} {E1 : CS → Option (Unit × CS)} {E2 : CS → Option (Int32 × CS)} (hE : EC H k E1) {x y : Int} {c : List Nat} {X : List (Nat × List Nat)} {P : List Nat} {lim : List Int} {s : CS} (hx : x ≤ 4000) (hy : y + 3 * k ≤ 90 ∧ 0 ≤ k) (h : JJ H x y c X P lim s) (hk : s.i 32 = 0 → 23 - sgI s ≤ k) (x1 : Int32) (ht : s.i 43 = 2) : ok (f_X7_changeHere N E1 E2 s x1) (fun R => JJ H (x - 120) (y - 2) c X P lim R.2 ∧ (R.2.i 32 = 0 → EXR s R.2)) := by
  unfold f_X7_changeHere
  refine ok_bind (q_advC hN h.1) (fun p hp => ?_)
  have gn := hp.gain h.1.2.2.1
  have g1 := gn.2.1 (by rw [ht]; decide)
  have g4 := gn.2.2.2.1 ht
  have es : eI s = plI s := eI.al (by unfold ALN; rw [ht]; decide)
  have j1 : JJ H (x - 100) (y - 2) c X P lim p.2 := h.adv hp (fun _ => by omega)
  have e1 := (h.tk hp (fun _ => by rw [ht]; decide)).2
  refine ok_bind (q_change (E2 := E2) hN hE (by omega) (by omega) j1 (fun z => by rw [(e1 z).sg]; exact hk (e1 z).1) s.l (s.i 44) x1) (fun q hq => ok_some ?_)
  exact ⟨hq.1.w (by omega) (by omega), fun z => (e1 (hq.2 z).1).tr (hq.2 z)⟩
/-- a loop's row, as its head leaves it -/
def FHP (H : HB) (x y : Int) (c : List Nat) (X : List (Nat × List Nat)) (P : List Nat) (lim : List Int) (s0 : CS) (R : Option Nat × CS) : Prop := ∃ (v : Int32) (a m : Nat) (X1 : List (Nat × List Nat)) (P1 : List Nat), R.1 = some a ∧ PRX H x y c c c X1 P1 lim v m a s0 3 3 0 R.2 ∧ (∀ q ∈ X, q ∈ X1) ∧ (R.2.o a 0 = 205 ∨ R.2.o a 0 = 207 ∨ R.2.o a 0 = 304) ∧ R.2.o a 2 = R.2.i 38 ∧ (R.2.i 32 = 0 → ∃ k : Nat, (R.2.o a 9).toInt = (k : Int) ∧ (k, c) ∈ X1) ∧ (R.2.i 32 = 0 → ∃ k : Nat, (R.2.o a 10).toInt = (k : Int) ∧ (k, c) ∈ X1) ∧ (R.2.i 32 = 0 → ∀ k ∈ P1, k ∈ P ∨ (R.2.o a 9).toInt = (k : Int))
/-- the number of names goes back -/
theorem FHP.end {N : Nat} {H : HB} {x y : Int} {c : List Nat} {X : List (Nat × List Nat)} {P : List Nat} {lim : List Int} {s0 : CS} {E1 : CS → Option (Unit × CS)} {E2 : CS → Option (Int32 × CS)} {R : Option Nat × CS} (h : FHP H x y c X P lim s0 R) (h0 : S0G s0) : ok (oCase R.1 (f_X7_beginFor_85 N E1 E2 R.2 (s0.i 50) none) (fun a => f_X7_beginFor_85 N E1 E2 R.2 (s0.i 50) (some a))) (fun T => STQ H (x + 50) y X P lim s0 T.2 ∧ T.2.i 32 = R.2.i 32) := by
  obtain ⟨v, a, m, X1, P1, r1, px, hX, o0, o2, o9, o10, oP⟩ := h
  rw [r1]
  unfold f_X7_beginFor_85
  show ok (if oK R.2 a 0 then some ((), CS.setO R.2 a 3 (s0.i 50)) else none) _
  refine ok_chk px.1.2.1.1 (ok_some ?_)
  have n5 : 0 ≤ (s0.i 50).toInt ∧ (s0.i 50).toInt ≤ 128 := ⟨h0.2.2.2.2.2.2.1, h0.2.2.2.2.2.2.2.1⟩
  have ou := (OUV.rf R.2 a).o 3 (s0.i 50)
  have cT := px.1.1.o a 3 (s0.i 50) (by omega) (fun _ => n5)
  have py := px.cel ou cT
  have To : (CS.setO R.2 a 3 (s0.i 50)).o a = upd (R.2.o a) 3 (s0.i 50) := ou.2.2.1
  have Ti : (CS.setO R.2 a 3 (s0.i 50)).i = R.2.i := ou.1.2.2.2.2.2.2.2.2.2
  show STQ H (x + 50) y X P lim s0 (CS.setO R.2 a 3 (s0.i 50)) ∧ (CS.setO R.2 a 3 (s0.i 50)).i 32 = R.2.i 32
  refine ⟨?_, by rw [Ti]⟩
  generalize CS.setO R.2 a 3 (s0.i 50) = T at *
  have T9 : T.o a 9 = R.2.o a 9 := by rw [To]; rfl
  refine PRX.loop py h0 hX (by rw [To]; exact o0) (by rw [To, Ti]; exact o2) (fun nf => ?_) (fun nf => ?_) (fun nf => ?_) (fun nf => ?_) (by omega) (by omega)
  · have e : (T.o a 3).toInt = nmI s0 := by rw [To]; rfl
    rw [e]
    exact ⟨Int.le_refl _, py.nm nf⟩
  · rw [T9]; exact o9 (by rw [← Ti]; exact nf)
  · have e : T.o a 10 = R.2.o a 10 := by rw [To]; rfl
    rw [e]; exact o10 (by rw [← Ti]; exact nf)
  · rw [T9]; exact oP (by rw [← Ti]; exact nf)
theorem q_fh113 {N : Nat} {H : HB} (hN : 1000 ≤ N) {E1 : CS → Option (Unit × CS)} {E2 : CS → Option (Int32 × CS)} {x y : Int} {c : List Nat} {X X1 : List (Nat × List Nat)} {P : List Nat} {lim : List Int} {s0 s : CS} {x1 x2 x3 x4 x5 : Int32} {n1 n2 n3 n4 : Nat} (hx : x ≤ 4000) (hy : y ≤ 90) (h : JJ H x y c X1 (n3 :: n4 :: P) lim s) (h0 : S0G s0) (hs : s.i 32 = 0 → SX 3 3 1 s0 s) (hX : ∀ q ∈ X, q ∈ X1) (h1 : s.i 32 = 0 → x1.toInt = (n1 : Int) ∧ (n1, c) ∈ X1) (h2 : s.i 32 = 0 → x2.toInt = (n2 : Int) ∧ (n2, c) ∈ X1) (h3 : s.i 32 = 0 → x3.toInt = (n3 : Int) ∧ (n3, c) ∈ X1) (h4 : s.i 32 = 0 → x4.toInt = (n4 : Int) ∧ (n4, c) ∈ X1) (h5 : bo x5) : ok (f_X7_forHead_113 N E1 E2 s x1 x2 x3 x4 x5) (fun R => FHP H (x - 98) y c X P lim s0 R ∧ (R.2.i 32 = 0 → s.i 32 = 0)) := by
  unfold f_X7_forHead_113
  refine ok_bind (q_clos hN h (fun z => ?_) 41 (by decide)) (fun p hp => ?_)
  · have sx := hs z
    have ecn : cnI s = cnI s0 := by unfold cnI; rw [sx.2.2.2.1.2.1]
    obtain ⟨i1, i2, i3, i4, i5⟩ := sx.2.2.2.2.2.1.sums h0.2.1
    have := sx.2.2.1
    have := h0.2.2.2.2.1.2
    have := h0.2.2.2.2.2.2.2.2
    rw [ecn, i2]
    omega
  obtain ⟨j1, m1⟩ := hp
  have e1 : p.2.i 32 = 0 → s.i 32 = 0 ∧ SX 3 3 0 s0 p.2 := fun z => ⟨(m1 z).1, ((hs (m1 z).1).tr (m1 z).sx).w (by omega) (by omega) (by omega)⟩
  refine ok_bind (q_add N p.2 30 x1) (fun q hq => ?_)
  have j2 := j1.add hq (by omega) (by omega) (fun z DT KT w _ _ => IOK.jmp (by decide) (h1 (e1 z).1).1 (h1 (e1 z).1).2 w)
  refine ok_bind (q_aim N q.2 x3) (fun r hr => ?_)
  have j3 : JJ H (x - 100 + 1) y c X1 (n4 :: P) lim r.2 := j2.aimF hr (by omega) (by omega) (fun z => by
    have w := h3 (e1 (hq.f32.1.symm.trans z)).1
    refine ⟨⟨n3, w⟩, fun k hk => ?_⟩
    rcases List.mem_cons.mp hk with e | e
    · right; rw [e]; exact w.1.symm
    · exact Or.inl e)
  refine ok_bind (q_add N r.2 51 0) (fun u hu => ?_)
  have j4 := j3.add hu (by omega) (by omega) (fun _ _ _ _ _ _ => IOK.fall (by decide))
  have e4 : u.2.i 32 = 0 → s.i 32 = 0 ∧ SX 3 3 0 s0 u.2 := fun z => by
    have z1 := hu.f32.1.symm.trans z
    have z2 := hr.f.1.symm.trans z1
    have z3 := hq.f32.1.symm.trans z2
    exact ⟨(e1 z3).1, ((((e1 z3).2.tr (hq.sx z3)).tr (hr.sx z2)).tr (hu.sx z1)).w (by omega) (by omega) (by omega)⟩
  refine ok_bind (q_pushLoop (N := N) j4.k (fun z => (e4 z).2) 207 x2 x4) (fun w hw => ?_)
  obtain ⟨v, a, m, r1, px, ⟨o0, o2, o3⟩, ⟨o9, o10⟩, ri, ra⟩ := hw
  rw [r1]
  show ok (if x5 = 0 ∨ x5 = 1 then (if oK w.2 a 0 then some ((some a), CS.setO w.2 a 7 x5) else none) else none) _
  refine ok_chk h5 (ok_chk px.1.2.1.1 (ok_some ?_))
  have ou := (OUV.rf w.2 a).o 7 x5
  have cT := px.1.1.o a 7 x5 (fun _ => h5) (by omega)
  have py := px.cel ou cT
  have To : (CS.setO w.2 a 7 x5).o a = upd (w.2.o a) 7 x5 := ou.2.2.1
  have Ti : (CS.setO w.2 a 7 x5).i = w.2.i := ou.1.2.2.2.2.2.2.2.2.2
  generalize CS.setO w.2 a 7 x5 = T at *
  have nT : T.i 32 = 0 → s.i 32 = 0 := fun z => by
    rw [Ti, ri 32 (by decide) (by decide)] at z
    exact (e4 z).1
  have T9 : T.o a 9 = x4 := by rw [To]; exact o9
  have T10 : T.o a 10 = x2 := by rw [To]; exact o10
  refine ⟨⟨v, a, m, X1, n4 :: P, rfl, py.w (by omega) (by omega), hX, Or.inr (Or.inl (by show T.o a 0 = 207; rw [To]; exact o0)), (by show T.o a 2 = T.i 38; rw [To, Ti]; exact o2), fun z => ⟨n4, ?_⟩, fun z => ⟨n2, ?_⟩, fun z k hk => ?_⟩, nT⟩
  · show (T.o a 9).toInt = (n4 : Int) ∧ (n4, c) ∈ X1
    rw [T9]; exact h4 (nT z)
  · show (T.o a 10).toInt = (n2 : Int) ∧ (n2, c) ∈ X1
    rw [T10]; exact h2 (nT z)
  · show k ∈ P ∨ (T.o a 9).toInt = (k : Int)
    rcases List.mem_cons.mp hk with e | e
    · right; rw [T9, e]; exact (h4 (nT z)).1
    · exact Or.inl e
