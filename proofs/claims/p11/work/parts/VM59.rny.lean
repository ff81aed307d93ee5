/-! a piece of both codes, and that it runs alike -/
/-- the class at the end has what was laid from S to R -/
def FGC (S R SF : CS) : Prop := (0 ≤ (S.i 20).toInt ∧ (R.i 20).toInt ≤ 1200) ∧ (∀ j : Nat, (S.i 20).toInt ≤ (j : Int) → (j : Int) < (R.i 20).toInt → SF.a 15 j = R.a 15 j ∧ SF.a 16 j = R.a 16 j) ∧ ∀ k : Nat, (S.i 21).toInt ≤ (k : Int) → (k : Int) < (R.i 21).toInt → (0 ≤ (R.a 17 k).toInt ∨ (k : Int) + 1 < (R.i 21).toInt) → SF.a 17 k = R.a 17 k
/-- the reference at the end has what was laid from s to u -/
def FGR (s u U : RS) : Prop := (0 ≤ (s.i 20).toInt ∧ (u.i 20).toInt ≤ (U.i 20).toInt ∧ (U.i 20).toInt ≤ 3000) ∧ (∀ j : Nat, (s.i 20).toInt ≤ (j : Int) → (j : Int) < (u.i 20).toInt → U.a 21 j = u.a 21 j ∧ U.a 22 j = u.a 22 j ∧ U.a 23 j = u.a 23 j) ∧ (∀ j : Nat, (s.i 24).toInt ≤ (j : Int) → (j : Int) < (u.i 24).toInt → U.a 25 j = u.a 25 j ∧ U.a 26 j = u.a 26 j ∧ U.a 27 j = u.a 27 j ∧ U.a 28 j = u.a 28 j) ∧ (∀ j : Nat, (s.i 29).toInt ≤ (j : Int) → (j : Int) < (u.i 29).toInt → U.a 30 j = u.a 30 j ∧ U.a 31 j = u.a 31 j ∧ U.a 32 j = u.a 32 j) ∧ ∀ j : Nat, (s.i 33).toInt ≤ (j : Int) → (j : Int) < (u.i 33).toInt → U.a 34 j = u.a 34 j ∧ U.a 35 j = u.a 35 j ∧ U.a 36 j = u.a 36 j ∧ U.a 37 j = u.a 37 j
theorem FGC.sub {S R SF P Q : CS} {a b a' b' : Int} (h : FGC S R SF) (x : CD1 a a' S P) (y : CD1 b b' Q R) (t : CT7 (P.i 21).toInt (Q.i 21).toInt Q R) : FGC P Q SF := by
  obtain ⟨⟨h1, h2⟩, h3, h4⟩ := h
  obtain ⟨⟨x1, -⟩, -, x3, -⟩ := x
  obtain ⟨⟨y1, -⟩, y2, y3, -⟩ := y
  refine ⟨⟨by omega, by omega⟩, fun j j1 j2 => ?_, fun k k1 k2 k3 => ?_⟩
  · have u := h3 j (by omega) (by omega)
    have v := y2 j j2
    exact ⟨u.1.trans v.1, u.2.trans v.2⟩
  · exact (h4 k (by omega) (by omega) (k3.elim (fun q => Or.inl (by rw [t k k1 k2]; exact q)) (fun q => Or.inr (by omega)))).trans (t k k1 k2)
/-- what is laid between p and q stays to u -/
def CD3 (p q u : RS) : Prop := ∀ j : Nat, (p.i 20).toInt ≤ (j : Int) → (j : Int) < (q.i 20).toInt → u.a 21 j = q.a 21 j ∧ u.a 22 j = q.a 22 j ∧ u.a 23 j = q.a 23 j
theorem CD2.c3 {c : Int} {p q u : RS} (h : CD2 c q u) (l : (q.i 20).toInt ≤ c) : CD3 p q u := fun j _ hj => h.2.1 j (by omega)
theorem FGR.sub {s u U p q : RS} {c c' : Int} (h : FGR s u U) (x : CD2 c s p) (y : CD2 c' q u) (z : CD3 p q u) : FGR p q U := by
  obtain ⟨⟨h1, h2, h3⟩, h4, h5, h6, h7⟩ := h
  obtain ⟨⟨x1, x2, x3, x4, -⟩, -⟩ := x
  obtain ⟨⟨y1, y2, y3, y4, -⟩, -, y5, y6, y7⟩ := y
  refine ⟨⟨by omega, by omega, h3⟩, fun j j1 j2 => ?_, fun j j1 j2 => ?_, fun j j1 j2 => ?_, fun j j1 j2 => ?_⟩
  · have u1 := h4 j (by omega) (by omega)
    have v := z j j1 j2
    exact ⟨u1.1.trans v.1, u1.2.1.trans v.2.1, u1.2.2.trans v.2.2⟩
  · have u1 := h5 j (by omega) (by omega)
    have v := y5 j j2
    exact ⟨u1.1.trans v.1, u1.2.1.trans v.2.1, u1.2.2.1.trans v.2.2.1, u1.2.2.2.trans v.2.2.2⟩
  · have u1 := h6 j (by omega) (by omega)
    have v := y6 j j2
    exact ⟨u1.1.trans v.1, u1.2.1.trans v.2.1, u1.2.2.trans v.2.2⟩
  · have u1 := h7 j (by omega) (by omega)
    have v := y7 j j2
    exact ⟨u1.1.trans v.1, u1.2.1.trans v.2.1, u1.2.2.1.trans v.2.2.1, u1.2.2.2.trans v.2.2.2⟩
/-- cells and slots that entries keep lie below the counts -/
def NCB (c : List Ent) (S : CS) (s : RS) : Prop := SLO s ∧ ∀ e ∈ c, (∀ k : Nat, cel e k → (k : Int) < (S.i 23).toInt) ∧ ∀ l : Nat, slo e l → (l : Int) < (s.i 42).toInt
/-- the names: cells beside slots, or caught in a catch that is open -/
def NM4 (nm : Nat → Nat → Prop) (c : List Ent) (S : CS) (s : RS) : Prop := (∀ k : Nat, (k : Int) < (s.i 38).toInt → ((S.a 49 k).toInt < 0 → ∃ a b : Nat, (S.a 48 k).toInt = (a : Int) ∧ (s.a 40 k).toInt = (b : Int) ∧ nm a b) ∧ (0 ≤ (S.a 49 k).toInt → ∃ (c1 : List Ent) (e : Ent) (c0 : List Ent), c = c1 ++ e :: c0 ∧ e.k = 2 ∧ (S.a 48 k).toInt = (e.z : Int) ∧ (s.a 40 k).toInt = (e.w : Int) ∧ (S.a 49 k).toInt = (frs c0 : Int))) ∧ (frs c : Int) = (S.i 38).toInt ∧ (c.length : Int) = (s.i 52).toInt ∧ (frs c : Int) ≤ (s.i 19).toInt
def NMG (nm : Nat → Nat → Prop) (c : List Ent) (S : CS) (s : RS) : Prop := (∀ k : Nat, (k : Int) < (s.i 38).toInt → ((S.a 49 k).toInt < 0 → ∃ a b : Nat, (S.a 48 k).toInt = (a : Int) ∧ (s.a 40 k).toInt = (b : Int) ∧ nm a b) ∧ (0 ≤ (S.a 49 k).toInt → ∃ (c1 : List Ent) (e : Ent) (c0 : List Ent), c = c1 ++ e :: c0 ∧ e.k = 2 ∧ (S.a 48 k).toInt = (e.z : Int) ∧ (s.a 40 k).toInt = (e.w : Int) ∧ (S.a 49 k).toInt = (frs c0 : Int))) ∧ (frs c : Int) = (S.i 38).toInt ∧ (c.length : Int) = (s.i 52).toInt ∧ (frs c : Int) ≤ (s.i 19).toInt ∧ NCB c S s
theorem NMG.o {nm : Nat → Nat → Prop} {c : List Ent} {S : CS} {s : RS} (h : NMG nm c S s) : NM4 nm c S s := ⟨h.1, h.2.1, h.2.2.1, h.2.2.2.1⟩
theorem NM4.g {nm : Nat → Nat → Prop} {c : List Ent} {S : CS} {s : RS} (h : NM4 nm c S s) (g : NCB c S s) : NMG nm c S s := ⟨h.1, h.2.1, h.2.2.1, h.2.2.2, g⟩
theorem NCB.mv {c : List Ent} {S P : CS} {s q : RS} (h : NCB c S s) (x : (S.i 23).toInt ≤ (P.i 23).toInt) (y : SLC s q) : NCB c P q := ⟨(y h.1).2, fun e he => ⟨fun k hk => by have := (h.2 e he).1 k hk; omega, fun l hl => by have := (h.2 e he).2 l hl; have := (y h.1).1; omega⟩⟩
/-- what the entries cost in bytes -/
def msr (c : List Ent) : Nat := c.length + 3 * ops c
theorem msr_arm {h q : Nat} {c : List Ent} : msr ((5, h, q, 0, 0, 0, 0) :: c) = msr c + 1 := by
  show (c.length + 1) + 3 * (ops c + 0) = c.length + 3 * ops c + 1
  omega
theorem msr_len (c : List Ent) : c.length ≤ msr c := Nat.le_add_right _ _
theorem NM4.mv {nm : Nat → Nat → Prop} {c : List Ent} {S P : CS} {s q : RS} {d e : Int} (h : NM4 nm c S s) (n : S.i 50 = s.i 38) (x : CD1 d e S P) {c' : Int} (y : CD2 c' s q) (e38 : q.i 38 = s.i 38) (a40 : ∀ j : Nat, (j : Int) < (s.i 38).toInt → q.a 40 j = s.a 40 j) (l19 : (s.i 19).toInt ≤ (q.i 19).toInt) : NM4 nm c P q := by
  refine ⟨fun k hk => ?_, by rw [x.2.2.2.2.2.2.1]; exact h.2.1, by rw [y.1.2.2.2.2.2]; exact h.2.2.1, Int.le_trans h.2.2.2 l19⟩
  rw [e38] at hk
  obtain ⟨x1, x2⟩ := x.2.2.2.2.1 k (by rw [n]; exact hk)
  rw [x1, x2, a40 k hk]
  exact h.1 k hk
theorem NMG.mv {nm : Nat → Nat → Prop} {c : List Ent} {S P : CS} {s q : RS} {d e : Int} (h : NMG nm c S s) (n : S.i 50 = s.i 38) (x : CD1 d e S P) {c' : Int} (y : CD2 c' s q) (e38 : q.i 38 = s.i 38) (a40 : ∀ j : Nat, (j : Int) < (s.i 38).toInt → q.a 40 j = s.a 40 j) (l19 : (s.i 19).toInt ≤ (q.i 19).toInt) : NMG nm c P q := (h.o.mv n x y e38 a40 l19).g (h.2.2.2.2.mv x.2.2.2.2.2.1.1 y.1.2.2.2.2.1)
/-- what is chosen for the tries and names between, and what it must be -/
def GHA (F : Nat → Prop) (M : Nat → Nat → Prop) (FC : Nat → Prop) (nm : Nat → Nat → Prop) (S : CS) (s : RS) (R : CS) (u : RS) : Prop := (∀ y : Nat, (s.i 29).toInt ≤ (y : Int) → (y : Int) < (u.i 29).toInt → (FC y ↔ F y)) ∧ ∀ k l : Nat, ((S.i 23).toInt ≤ (k : Int) ∧ (k : Int) < (R.i 23).toInt) ∨ ((s.i 42).toInt ≤ (l : Int) ∧ (l : Int) < (u.i 42).toInt) → (nm k l ↔ M k l)
def GHM (M : Nat → Nat → Prop) (S : CS) (s : RS) (R : CS) (u : RS) : Prop := (∀ k l : Nat, M k l → ((S.i 23).toInt ≤ (k : Int) ∧ (k : Int) < (R.i 23).toInt) ∧ (s.i 42).toInt ≤ (l : Int) ∧ (l : Int) < (u.i 42).toInt) ∧ ∀ c l c' l' : Nat, M c l → M c' l' → (c = c' ↔ l = l')
def GPS : Type := (Nat → Prop) → (Nat → Nat → Prop) → Prop
def SAT (Ψ : GPS) (S : CS) (s : RS) (R : CS) (u : RS) : Prop := SLO s → SLO u ∧ ∃ (F : Nat → Prop) (M : Nat → Nat → Prop), GHM M S s R u ∧ ∀ (FC : Nat → Prop) (nm : Nat → Nat → Prop), GHA F M FC nm S s R u → Ψ FC nm
def GPS.tt : GPS := fun _ _ => True
def GPS.an (A B : GPS) : GPS := fun FC nm => A FC nm ∧ B FC nm
/-- the counts do not fall -/
def MNO (S : CS) (s : RS) (R : CS) (u : RS) : Prop := (S.i 23).toInt ≤ (R.i 23).toInt ∧ SLC s u ∧ (s.i 29).toInt ≤ (u.i 29).toInt
theorem MNO.of {d e c : Int} {S R : CS} {s u : RS} (x : CD1 d e S R) (y : CD2 c s u) : MNO S s R u := ⟨x.2.2.2.2.2.1.1, y.1.2.2.2.2.1, y.1.2.2.1⟩
theorem SAT.tt (S : CS) (s : RS) (R : CS) (u : RS) (c : SLC s u) : SAT GPS.tt S s R u := fun sl => ⟨(c sl).2, fun _ => True, fun _ _ => False, ⟨fun _ _ z => z.elim, fun _ _ _ _ z => z.elim⟩, fun _ _ _ => True.intro⟩
theorem SAT.wd {Ψ : GPS} {S P Q R : CS} {s p q u : RS} (h : SAT Ψ P p Q q) (a : MNO S s P p) (b : MNO Q q R u) : SAT Ψ S s R u := by
  intro sl
  obtain ⟨a1, a2, a3⟩ := a
  obtain ⟨b1, b2, b3⟩ := b
  obtain ⟨a2, slp⟩ := a2 sl
  obtain ⟨slq, F, M, ⟨m1, m2⟩, h⟩ := h slp
  obtain ⟨b2, slu⟩ := b2 slq
  refine ⟨slu, F, M, ⟨fun k l z => ?_, m2⟩, fun FC nm g => h FC nm ⟨fun y y1 y2 => g.1 y (by omega) (by omega), fun k l z => g.2 k l ?_⟩⟩
  · have := m1 k l z
    omega
  · omega
theorem SAT.an {A B : GPS} {S P R : CS} {s p u : RS} (h : SAT A S s P p) (g : SAT B P p R u) (a : MNO S s P p) (b : MNO P p R u) : SAT (GPS.an A B) S s R u := by
  intro sl
  obtain ⟨a1, a2, a3⟩ := a
  obtain ⟨b1, b2, b3⟩ := b
  obtain ⟨a2, -⟩ := a2 sl
  obtain ⟨slp, F, M, ⟨m1, m2⟩, h⟩ := h sl
  obtain ⟨slu, G, L, ⟨l1, l2⟩, g⟩ := g slp
  obtain ⟨b2, -⟩ := b2 slp
  refine ⟨slu, fun y => ((y : Int) < (p.i 29).toInt ∧ F y) ∨ (¬ (y : Int) < (p.i 29).toInt ∧ G y), fun k l => M k l ∨ L k l, ⟨fun k l z => ?_, fun c l c' l' z z' => ?_⟩, fun FC nm w => ⟨h FC nm ⟨fun y y1 y2 => ?_, fun k l z => ?_⟩, g FC nm ⟨fun y y1 y2 => ?_, fun k l z => ?_⟩⟩⟩
  · rcases z with z | z
    · have := m1 k l z
      omega
    · have := l1 k l z
      omega
  · rcases z with z | z <;> rcases z' with z' | z'
    · exact m2 c l c' l' z z'
    · have x := m1 c l z
      have y := l1 c' l' z'
      exact ⟨fun e => by omega, fun e => by omega⟩
    · have x := l1 c l z
      have y := m1 c' l' z'
      exact ⟨fun e => by omega, fun e => by omega⟩
    · exact l2 c l c' l' z z'
  · rw [w.1 y y1 (by omega)]
    exact ⟨fun e => e.elim (fun e => e.2) (fun e => absurd y2 e.1), fun e => Or.inl ⟨y2, e⟩⟩
  · rw [w.2 k l (by omega)]
    exact ⟨fun e => e.elim id (fun e => by have := l1 k l e; omega), Or.inl⟩
  · rw [w.1 y (by omega) y2]
    exact ⟨fun e => e.elim (fun e => by omega) (fun e => e.2), fun e => Or.inr ⟨by omega, e⟩⟩
  · rw [w.2 k l (by omega)]
    exact ⟨fun e => e.elim (fun e => by have := m1 k l e; omega) id, Or.inr⟩
/-- from S, s to R, u: what is good behind it (n values more) is good before it (m values more) -/
def RNZ0 (Ψ : GPS) (m n : Nat) (G : Nat → Prop) (g : Nat) (U : RS) (S : CS) (s : RS) (R : CS) (u : RS) : Prop := ∀ (FC : Nat → Prop) (SF : CS) (nm : Nat → Nat → Prop) (X : Als) (c : List Ent) (h w W g0 : Nat), Ψ FC nm → FGC S R SF → FGR s u U → NMG nm c S s → HC0 nm h c → ((2 * h + m + msr c : Nat) : Int) ≤ (s.i 11).toInt → TYC SF U (GU FC SF U nm X) W c → W + 1 ≤ w → G g0 → GU FC SF U nm X (pcC R) (pcR u) (h + n) w g c → GU FC SF U nm X (pcC S) (pcR s) (h + m) (w + (pcC R - pcC S)) g0 c
def RNY (m n : Nat) (G : Nat → Prop) (g : Nat) (U : RS) (S : CS) (s : RS) (R : CS) (u : RS) : Prop := ∃ Ψ : GPS, SAT Ψ S s R u ∧ RNZ0 Ψ m n G g U S s R u
/-- a formula: one value more -/
def CDE (g : Nat) (U : RS) (S : CS) (s : RS) (R : CS) (u : RS) : Prop := CRB S → CD1 0 (-1) S R ∧ CT7 0 (S.i 21).toInt S R ∧ CD2 (s.i 20).toInt s u ∧ RNY 0 1 (fun _ => True) g U S s R u
