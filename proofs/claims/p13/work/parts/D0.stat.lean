section
/-! reading: statements: what is typed of them -/
def ACC (s : RS) (γ : Nat) : Prop := (γ : Int) < goI s ∧ ¬ s.a 44 γ = 3 ∧ NOARM s γ
def fgB : Bool → Nat
  | true => 50
  | false => 51
def b01 : Bool → Int32
  | true => 1
  | false => 0
/-- a jump gets there: it is marked, or waits at the innermost wall -/
def ARV (u : RS) (γ : Nat) (b : Bool) : Prop := u.a (fgB b) γ = 1 ∨ ∃ p : Nat, (p : Int) < peI u ∧ gv u 60 p = γ ∧ u.a 61 p = b01 b ∧ 0 < waI u ∧ gv u 62 p = gv u 57 (waI u - 1).toNat
/-- a jump's place that was laid since s -/
def SITE (s u : RS) (γ : Nat) (b : Bool) (k : Nat) : Prop := cdI s ≤ k ∧ ∃ L, ISCH u (hd u b γ) L ∧ k ∈ L
def TGT (f : RS) (g : Gh) (vt : Nat) (x : Int) (d h o : Nat) (rs : List Rec) : Prop := 0 ≤ x ∧ x ≤ cdI f ∧ (x < cdI f → ∃ c, g.T x.toNat c ∧ c.h = h ∧ oA d o rs ≤ c.o ∧ c.one = false ∧ c.rs = dA d rs ∧ c.v = vt)
/-- what a jump's place finds around a statement -/
def JE (u f : RS) (g : Gh) (γ : Nat) (b : Bool) (k h o v : Nat) (rs : List Rec) : Prop := ∃ vt : Nat, (vt < v ∨ vt ≤ v ∧ cdI u ≤ gv f 22 k) ∧ lvA f (gv u 47 γ).toNat h vt (gv f 22 k) rs ∧ (ARV u γ b → arr f g (gv u 47 γ).toNat rs → TGT f g vt (gv f 22 k) (gv u 47 γ).toNat h o rs)
def EJ (s u f : RS) (g : Gh) (h o v : Nat) (rs : List Rec) : Prop := ∀ (γ : Nat) (b : Bool) (k : Nat), ACC u γ → (b = true ∨ u.a 44 γ = 0) → SITE s u γ b k → JE u f g γ b k h o v rs
def YE (s : RS) (rs : List Rec) : Prop := ∀ γ : Nat, (γ : Int) < goI s → s.a 44 γ = 3 → NOARM s γ → YOK (gv s 47 γ) rs
/-- what a statement's code finds around it -/
def ENS (s u f : RS) (h o v : Nat) (rs : List Rec) (g : Gh) : Prop := ENB s u f g v rs ∧ (u.i 75 = 1 → FL f g v (cdI u) (cdI u) h o rs) ∧ EJ s u f g h o v rs
/-- a statement's code -/
def TS (s u : RS) : Prop := ∀ (f : RS) (C : Nat → Bool), AG0 s u f → AGC s u C → ∀ (h o v : Nat) (rs : List Rec), CX s h o v rs → YE s rs → COD f C (cdI s) h o v rs (ENS s u f h o v rs)
/-- new names have new slots -/
def SNW (s u : RS) : Prop := seI u - seI s ≤ slI u - slI s ∧ ∀ x : Nat, seI s ≤ x → (x : Int) < seI u → slI s ≤ gv u 40 x
/-- behind a statement -/
def PS (t : Nat) (s u : RS) : Prop := INV u ∧ tpI u = (t : Int) - 1 ∧ KP t s u ∧ SAME s u ∧ RATE s u ∧ SNW s u ∧ fr s ≤ fr u ∧ tkI s ≤ tkI u ∧ (¬ 0 ≤ u.i 18 → TS s u)
def LGA (s : RS) : Prop := ∀ γ : Nat, ACC s γ → s.a 44 γ = 2 → 0 ≤ gv s 46 γ → (γ : Int) < gv s 46 γ ∧ gv s 46 γ < goI s ∧ s.a 44 (gv s 46 γ).toNat = 0
def NO3 (s : RS) : Prop := ∀ γ : Nat, ¬ TOPR s γ
def P3 (s : RS) : Prop := ∀ γ : Nat, TOPR s γ → s.i 10 = 2 ∨ s.i 10 = 415 ∨ s.i 10 = 416 ∨ s.i 10 = 417
def PRS (s : RS) : Prop := LGA s ∧ P3 s
def PRL (s : RS) : Prop := LGA s ∧ NO3 s
theorem NO3.p3 {s : RS} (h : NO3 s) : P3 s := fun γ h1 => absurd h1 (h γ)
/-- a statement's frame, to its end -/
def RUNS (N : Nat) (b : Nat) : Prop := ∀ (n : Nat) (s : RS) (t : Nat) (P : RS → Prop), INV s → PRS s → tpI s = t → s.a 64 t = 2 → s.a 65 t = 0 → 2 * (t : Int) ≤ fr s + 12 * op s + 2 → 900 - fr s ≤ b → 36000 + 30 ≤ (n : Int) + 40 * fr s → (∀ u, FS' s u → P u) → (∀ (m : Nat) (u : RS), PS t s u → fr s + 1 ≤ fr u → (n : Int) + 40 * fr s + 10 ≤ m + 40 * fr u → ok (f_X12_parse_10 N m u) P) → ok (f_X12_parse_10 N n s) P
/-- a list's -/
def RUNL (N : Nat) (b : Nat) : Prop := ∀ (n : Nat) (s : RS) (t : Nat) (P : RS → Prop), INV s → PRL s → tpI s = t → s.a 64 t = 1 → s.a 65 t = 0 → 2 * (t : Int) ≤ fr s + 12 * op s → 900 - fr s ≤ b → 36000 + 33 ≤ (n : Int) + 40 * fr s → (∀ u, FS' s u → P u) → (∀ (m : Nat) (u : RS), PS t s u → (u.i 10 = 125 ∨ u.i 10 = 429 ∨ u.i 10 = 430 ∨ u.i 10 = 0) → (n : Int) + 40 * fr s ≤ m + 40 * fr u + 1 → ok (f_X12_parse_10 N m u) P) → ok (f_X12_parse_10 N n s) P
/-- places that are not filled yet are left out -/
def AGZ (Z : Nat → Nat → Prop) (s u f : RS) : Prop := cdI u ≤ cdI f ∧ enI u ≤ enI f ∧ trI u ≤ trI f ∧ (u.i 3).toInt ≤ (f.i 3).toInt ∧
  (∀ k : Nat, cdI s ≤ k → (k : Int) < cdI u → f.a 21 k = u.a 21 k ∧ (¬ Z 22 k → f.a 23 k = u.a 23 k ∧ (¬ OPN u k → f.a 22 k = u.a 22 k))) ∧
  (∀ k : Nat, enI s ≤ k → (k : Int) < enI u → f.a 26 k = u.a 26 k ∧ f.a 28 k = u.a 28 k ∧ (¬ Z 27 k → f.a 27 k = u.a 27 k)) ∧
  (∀ k : Nat, trI s ≤ k → (k : Int) < trI u → ¬ Z 30 k → f.a 30 k = u.a 30 k ∧ f.a 31 k = u.a 31 k ∧ f.a 32 k = u.a 32 k) ∧
  (∀ k : Nat, caI s ≤ k → (k : Int) < caI u → f.a 35 k = u.a 35 k ∧ f.a 36 k = u.a 36 k ∧ (¬ Z 37 k → f.a 37 k = u.a 37 k))
def noZ : Nat → Nat → Prop := fun _ _ => False
theorem AGZ.of0 {Z : Nat → Nat → Prop} {s u f : RS} (h : AG0 s u f) : AGZ Z s u f := by
  obtain ⟨a1, a2, a3, a4, a5, a6, a7, a8⟩ := h
  exact ⟨a1, a2, a3, a4, fun k k1 k2 => ⟨(a5 k k1 k2).1, fun _ => (a5 k k1 k2).2⟩, fun k k1 k2 => ⟨(a6 k k1 k2).1, (a6 k k1 k2).2.2, fun _ => (a6 k k1 k2).2.1⟩, fun k k1 k2 _ => a7 k k1 k2, fun k k1 k2 => ⟨(a8 k k1 k2).1, (a8 k k1 k2).2.1, fun _ => (a8 k k1 k2).2.2⟩⟩
/-- w is later than u -/
def LAT (Z : Nat → Nat → Prop) (s u w : RS) : Prop := AGZ Z s u w ∧ (∀ k : Nat, cdI s ≤ k → (k : Int) < cdI u → OPN w k → OPN u k) ∧ caI u ≤ caI w ∧ slI u ≤ slI w ∧ (∀ j : Nat, (j : Int) < caI u → gv w 36 j = gv u 36 j) ∧ (∀ j : Nat, caI u ≤ j → (j : Int) < caI w → slI u ≤ gv w 36 j)
theorem LAT.rf (Z : Nat → Nat → Prop) (s u : RS) : LAT Z s u u := ⟨⟨Int.le_refl _, Int.le_refl _, Int.le_refl _, Int.le_refl _, fun _ _ _ => ⟨rfl, fun _ => ⟨rfl, fun _ => rfl⟩⟩, fun _ _ _ => ⟨rfl, rfl, fun _ => rfl⟩, fun _ _ _ _ => ⟨rfl, rfl, rfl⟩, fun _ _ _ => ⟨rfl, rfl, fun _ => rfl⟩⟩, fun _ _ _ h => h, Int.le_refl _, Int.le_refl _, fun _ _ => rfl, fun j h1 h2 => by omega⟩
/-- later still -/
theorem LAT.tr {Z : Nat → Nat → Prop} {s s0 u w f : RS} (h1 : LAT Z s u w) (h2 : LAT Z s0 w f) (hc : cdI s0 ≤ cdI s) (he : enI s0 ≤ enI s) (ht : trI s0 ≤ trI s) (ha : caI s0 ≤ caI s) : LAT Z s u f := by
  obtain ⟨⟨a1, a2, a3, a4, a5, a6, a7, a8⟩, a9, a10, a11, a12, a13⟩ := h1
  obtain ⟨⟨b1, b2, b3, b4, b5, b6, b7, b8⟩, b9, b10, b11, b12, b13⟩ := h2
  refine ⟨⟨by omega, by omega, by omega, by omega, fun k k1 k2 => ?_, fun k k1 k2 => ?_, fun k k1 k2 z => ?_, fun k k1 k2 => ?_⟩, fun k k1 k2 z => a9 k k1 k2 (b9 k (by omega) (by omega) z), by omega, by omega, fun j j1 => (b12 j (by omega)).trans (a12 j j1), fun j j1 j2 => ?_⟩
  · obtain ⟨c1, c2⟩ := a5 k k1 k2
    obtain ⟨d1, d2⟩ := b5 k (by omega) (by omega)
    exact ⟨d1.trans c1, fun z => ⟨(d2 z).1.trans (c2 z).1, fun q => ((d2 z).2 (fun y => q (a9 k k1 k2 y))).trans ((c2 z).2 q)⟩⟩
  · obtain ⟨c1, c2, c3⟩ := a6 k k1 k2
    obtain ⟨d1, d2, d3⟩ := b6 k (by omega) (by omega)
    exact ⟨d1.trans c1, d2.trans c2, fun z => (d3 z).trans (c3 z)⟩
  · obtain ⟨c1, c2, c3⟩ := a7 k k1 k2 z
    obtain ⟨d1, d2, d3⟩ := b7 k (by omega) (by omega) z
    exact ⟨d1.trans c1, d2.trans c2, d3.trans c3⟩
  · obtain ⟨c1, c2, c3⟩ := a8 k k1 k2
    obtain ⟨d1, d2, d3⟩ := b8 k (by omega) (by omega)
    exact ⟨d1.trans c1, d2.trans c2, fun z => (d3 z).trans (c3 z)⟩
  · by_cases q : (j : Int) < caI w
    · rw [b12 j q]; exact a13 j j1 q
    · have := b13 j (by omega) j2; omega
theorem LAT.kp0 {Z : Nat → Nat → Prop} {t : Nat} {s w f : RS} (h : KP t w f) (hn : TN w) (hg : goI f ≤ goI w) : LAT Z s w f := ⟨AGZ.of0 (AG0.kp h), fun k _ k2 z => OPN.back h hn hg k2 z, h.2.2.2.2.1.1, h.2.2.2.2.2.1.2.1, fun j hj => by unfold gv; rw [h.2.2.2.2.1.2.2.2.1 j hj], fun j h1 h2 => (h.2.2.2.2.1.2.2.2.2.2 j h1 h2).1⟩
theorem LAT.kp {Z : Nat → Nat → Prop} {t : Nat} {s u w f : RS} (h1 : LAT Z s u w) (h : KP t w f) (hn : TN w) (hg : goI f ≤ goI w) : LAT Z s u f := h1.tr (LAT.kp0 (s := s) h hn hg) (Int.le_refl _) (Int.le_refl _) (Int.le_refl _) (Int.le_refl _)
theorem OPN.hole {v : RS} {k : Nat} {x : Int32} (ho : ¬ v.a 21 k = 36) {j : Nat} (h : OPN (v.setA 22 k x) j) : OPN v j := by
  obtain ⟨γ, b, L, x1, x2, x3⟩ := h
  refine ⟨γ, b, L, x1, ?_, x3⟩
  have e : hd (v.setA 22 k x) b γ = hd v b γ := by cases b <;> rfl
  rw [e] at x2
  refine x2.of (fun y hy => ⟨rfl, (show (v.setA 22 k x).a 22 y = v.a 22 y from if_neg (fun e => ho ?_)).symm⟩)
  rw [← e]
  exact x2.op y hy
theorem LAT.hole {Z : Nat → Nat → Prop} {s u w : RS} {k : Nat} {x : Int32} (h : LAT Z s u w) (ho : ¬ w.a 21 k = 36) (hk : (k : Int) < cdI s ∨ cdI u ≤ (k : Int) ∨ Z 22 k) : LAT Z s u (w.setA 22 k x) := by
  obtain ⟨⟨a1, a2, a3, a4, a5, a6, a7, a8⟩, a9, a10, a11, a12, a13⟩ := h
  refine ⟨⟨a1, a2, a3, a4, fun j j1 j2 => ⟨(a5 j j1 j2).1, fun z => ⟨((a5 j j1 j2).2 z).1, fun q => ?_⟩⟩, a6, a7, a8⟩, fun j j1 j2 z => a9 j j1 j2 (OPN.hole ho z), a10, a11, a12, a13⟩
  have : j ≠ k := fun e => by
    subst e
    rcases hk with hk | hk | hk
    · omega
    · omega
    · exact z hk
  exact (if_neg this).trans (((a5 j j1 j2).2 z).2 q)
theorem LAT.iy {Z : Nat → Nat → Prop} {s u w : RS} {k : Nat} {x : Int32} (h : LAT Z s u w) (hk : (k : Int) < cdI s ∨ cdI u ≤ (k : Int) ∨ Z 22 k) : LAT Z s u (w.setA 23 k x) := by
  obtain ⟨⟨a1, a2, a3, a4, a5, a6, a7, a8⟩, a9, a10, a11, a12, a13⟩ := h
  refine ⟨⟨a1, a2, a3, a4, fun j j1 j2 => ⟨(a5 j j1 j2).1, fun z => ⟨?_, ((a5 j j1 j2).2 z).2⟩⟩, a6, a7, a8⟩, fun j j1 j2 z => a9 j j1 j2 ?_, a10, a11, a12, a13⟩
  · have : j ≠ k := fun e => by
      subst e
      rcases hk with hk | hk | hk
      · omega
      · omega
      · exact z hk
    exact (if_neg this).trans ((a5 j j1 j2).2 z).1
  · obtain ⟨γ, b, L, x1, x2, x3⟩ := z
    exact ⟨γ, b, L, x1, by cases b <;> exact x2.of (fun y _ => ⟨rfl, rfl⟩), x3⟩
/-- what an inner piece may use of what comes later -/
theorem LAT.use {t : Nat} {s s1 u1 W f : RS} {C : Nat → Bool} (h : LAT noZ s1 u1 W) (hA : AG0 s W f) (hC : AGC s W C) (k1 : KP t s s1) (k2 : KP t s1 u1) : AG0 s1 u1 f ∧ AGC s1 u1 C := by
  obtain ⟨⟨a1, a2, a3, a4, a5, a6, a7, a8⟩, a9, a10, a11, a12, a13⟩ := h
  have h0 : AG0 s1 u1 W := ⟨a1, a2, a3, a4, fun k x y => ⟨(a5 k x y).1, ((a5 k x y).2 id).1, ((a5 k x y).2 id).2⟩, fun k x y => ⟨(a6 k x y).1, (a6 k x y).2.2 id, (a6 k x y).2.1⟩, fun k x y => a7 k x y id, fun k x y => ⟨(a8 k x y).1, (a8 k x y).2.1, (a8 k x y).2.2 id⟩⟩
  exact ⟨AG0.comp h0 hA k1.2.1.1 k1.2.2.1.1 k1.2.2.2.1.1 k1.2.2.2.2.1.1 a10 a9, hC.mid k1 k2 a11 a10 a12 a13⟩
theorem NOARM.of {s u : RS} (hg : goI u = goI s) (h44 : bel 44 (goI s) s u) (γ : Nat) : NOARM u γ ↔ NOARM s γ := by
  constructor
  · intro h δ d1 d2
    have := h δ d1 (by omega)
    rw [h44 δ d2] at this
    exact this
  · intro h δ d1 d2
    rw [h44 δ (by omega)]
    exact h δ d1 (by omega)
theorem ACC.of {s u : RS} (hg : goI u = goI s) (h44 : bel 44 (goI s) s u) (γ : Nat) : ACC u γ ↔ ACC s γ := by
  constructor
  · rintro ⟨h1, h2, h3⟩
    exact ⟨by omega, by rw [← h44 γ (by omega)]; exact h2, (NOARM.of hg h44 γ).mp h3⟩
  · rintro ⟨h1, h2, h3⟩
    exact ⟨by omega, by rw [h44 γ h1]; exact h2, (NOARM.of hg h44 γ).mpr h3⟩
theorem YE.of {s u : RS} {rs : List Rec} (h : YE s rs) (hg : goI u = goI s) (h44 : bel 44 (goI s) s u) (h47 : bel 47 (goI s) s u) : YE u rs := by
  intro γ h1 h2 h3
  rw [hg] at h1
  rw [h44 γ h1] at h2
  have := h γ h1 h2 ((NOARM.of hg h44 γ).mp h3)
  unfold gv at this ⊢
  rw [h47 γ h1]
  exact this
theorem SAME.go {s u : RS} (h : SAME s u) : goI u = goI s := by unfold goI; rw [h.2.1]
theorem SAME.de {s u : RS} (h : SAME s u) : deI u = deI s := by unfold deI; rw [h.2.2.1]
theorem SAME.wa {s u : RS} (h : SAME s u) : waI u = waI s := by unfold waI; rw [h.2.2.2]
theorem SAME.eOp {s u : RS} (h : SAME s u) : op u = op s := by unfold op; rw [h.1]
theorem ARV.kp {t : Nat} {s u : RS} (hk : KP t s u) (hs : waI u = waI s) {γ : Nat} (hγ : (γ : Int) < goI s) {b : Bool} (h : ARV s γ b) : ARV u γ b := by
  rcases h with h | ⟨p, p1, p2, p3, p4, p5⟩
  · left
    cases b
    · exact hk.2.2.2.2.2.2.1.2.2.2.2.1 γ hγ h
    · exact hk.2.2.2.2.2.2.1.2.2.2.1 γ hγ h
  · have q := hk.2.2.2.2.2.2.2.2.2.1
    have w := hk.2.2.2.2.2.2.2.2.1
    refine Or.inr ⟨p, by have := q.1; omega, ?_, ?_, by omega, ?_⟩
    · unfold gv at *; rw [q.2.1 p p1]; exact p2
    · rw [q.2.2.1 p p1]; exact p3
    · unfold gv at *
      rw [q.2.2.2 p p1, hs, w.2.1 (waI s - 1).toNat (by omega)]
      exact p5
/-- the names that are new between two places are caught where a catch has their slot -/
theorem ENB.nx {t : Nat} {s u1 w f : RS} {g : Gh} {v : Nat} {rs : List Rec} {C : Nat → Bool} (h : ENB s w f g v rs) (hg : g.isC = C) (hC : AGC s w C) (k1 : KP t s u1) (k2 : KP t u1 w) (hn : SNW s u1) (t1 : TAB u1) (t0 : TAB s) : ENB u1 w f g v rs := by
  refine ⟨h.1, fun x hx => ?_⟩
  by_cases c : (x : Int) < seI s
  · have := h.2 x c
    unfold gv at this ⊢
    rw [k1.2.2.2.2.2.1.2.2.1 x c, k1.2.2.2.2.2.1.2.2.2 x c]
    exact this
  · have hs := hn.2 x (by omega) hx
    obtain ⟨b1, b2, b3⟩ := t1.2.2.2.2.1 x hx
    have e : ((gv u1 40 x).toNat : Int) = gv u1 40 x := Int.toNat_of_nonneg b1
    rw [hg, hC (gv u1 40 x).toNat (by omega) (by have := k2.2.2.2.2.2.1.2.1; omega), ← b3]
    constructor
    · rintro ⟨j, j1, j2, j3⟩
      have hj : (j : Int) < caI u1 := by
        by_cases q : (j : Int) < caI u1
        · exact q
        · have := (k2.2.2.2.2.1.2.2.2.2.2 j (by omega) j2).1; omega
      refine ⟨j, hj, ?_⟩
      have : gv w 36 j = gv u1 36 j := by unfold gv; rw [k2.2.2.2.2.1.2.2.2.1 j hj]
      omega
    · rintro ⟨j, j1, j3⟩
      have hj : caI s ≤ j := by
        by_cases q : (j : Int) < caI s
        · have := (t0.2.2.2.2.2.1 j q).2
          have e2 : gv u1 36 j = gv s 36 j := by unfold gv; rw [k1.2.2.2.2.1.2.2.2.1 j q]
          omega
        · omega
      have : gv w 36 j = gv u1 36 j := by unfold gv; rw [k2.2.2.2.2.1.2.2.2.1 j j1]
      exact ⟨j, hj, by have := k2.2.2.2.2.1.1; omega, by omega⟩
/-- a site stays in its chain -/
theorem SITE.kp {t : Nat} {s u w : RS} {γ : Nat} {b : Bool} {k : Nat} (h : SITE s u γ b k) (hk : KP t u w) (hn : TN u) (hγ : (γ : Int) < goI u) : SITE s w γ b k := by
  obtain ⟨h1, L, h2, h3⟩ := h
  obtain ⟨M, m1, m2⟩ := hn γ b hγ
  have e := ISCH.uniq h2 m1
  subst e
  obtain ⟨L1, c1, c2⟩ := hk.2.2.2.2.2.2.2.1 γ b _ hγ h2 m2
  exact ⟨h1, _, c1, List.mem_append_right _ h3⟩
/-- the jumps of an earlier piece find what the later place finds -/
theorem EJ.pre {t : Nat} {s u w f : RS} {g : Gh} {h o v : Nat} {rs : List Rec} (hE : EJ s w f g h o v rs) (hk : KP t u w) (hs : SAME u w) (hn : TN u) : EJ s u f g h o v rs := by
  intro γ b k h1 h2 h3
  have hγ := h1.1
  have kg := hk.2.2.2.2.2.2.1
  have e47 : gv w 47 γ = gv u 47 γ := by unfold gv; rw [kg.2.2.1 γ hγ]
  obtain ⟨vt, a1, a2, a3⟩ := hE γ b k ((ACC.of hs.go kg.2.1 γ).mpr h1) (by rw [kg.2.1 γ hγ]; exact h2) (h3.kp hk hn hγ)
  rw [e47] at a2 a3
  refine ⟨vt, ?_, a2, fun q => a3 (q.kp hk hs.wa hγ)⟩
  have := hk.2.1.1
  rcases a1 with a1 | a1
  · exact Or.inl a1
  · exact Or.inr ⟨a1.1, by omega⟩
/-- a statement behind another -/
theorem TS.seq {t : Nat} {s u w : RS} (h1 : TS s u) (h2 : TS u w) (k1 : KP t s u) (k2 : KP t u w) (s1 : SAME s u) (s2 : SAME u w) (n1 : SNW s u) (i0 : TAB s) (i1 : TAB u) (hr : u.i 75 = 1) (hf : fr s ≤ fr u) (f9 : fr u ≤ 900) : TS s w := by
  intro f C hA hC h o v rs hx hy
  obtain ⟨A1, C1⟩ := AG.mid hA hC (KP.rf t s) k1 k2 i1.1.1 (by rw [s2.go]; exact Int.le_refl _)
  have tnw : TN w := fun γ b hγ => by
    rw [s2.go] at hγ
    obtain ⟨L, l1, l2⟩ := i1.1.1 γ b hγ
    obtain ⟨L1, c1, c2⟩ := k2.2.2.2.2.2.2.2.1 γ b L hγ l1 l2
    refine ⟨_, c1, fun x hx => ?_⟩
    have := k2.2.1.1
    rcases List.mem_append.mp hx with hx | hx
    · exact (c2 x hx).2
    · have := l2 x hx; omega
  obtain ⟨A2, C2⟩ := AG.mid hA hC k1 k2 (KP.rf t w) tnw (Int.le_refl _)
  have kg := k1.2.2.2.2.2.2.1
  have c1 := h1 f C A1 C1 h o v rs hx hy
  have hx2 := hx.2.1
  have c2 := h2 f C A2 C2 h o v rs (hx.up h s1.2.2.1 hf f9 (by omega)) (hy.of s1.go kg.2.1 kg.2.2.1)
  refine COD.seq c1 c2 (fun g hg hE => ?_) (fun g hg hE hF => ?_)
  · obtain ⟨e1, e2, e3⟩ := hE
    refine ⟨e1.nx hg hC k1 k2 n1 i1 i0, e2, fun γ b k a1 a2 a3 => e3 γ b k a1 a2 ⟨?_, a3.2⟩⟩
    have := a3.1
    have := k1.2.1.1
    omega
  · obtain ⟨e1, e2, e3⟩ := hE
    exact ⟨e1.mid (KP.rf t s) rfl k2.2.1.1, fun _ => hF, e3.pre k2 s2 i1.1.1⟩
end
section
/-! reading: goals, chains, the end of a statement that has a goal -/
theorem setA_ne {s : RS} {k k' g j : Nat} {v : Int32} (hj : j ≠ g) : (s.setA k' g v).a k j = s.a k j := by
  show (if k = k' then upd (s.a k') g v else s.a k) j = s.a k j
  by_cases c : k = k'
  · subst c
    rw [if_pos rfl]
    exact if_neg hj
  · rw [if_neg c]
theorem setA_at {s : RS} {k g : Nat} {v : Int32} : (s.setA k g v).a k g = v := by
  show (if k = k then upd (s.a k) g v else s.a k) g = v
  rw [if_pos rfl]
  exact if_pos rfl
theorem setA_nk {s : RS} {k k' j : Nat} {v : Int32} (h : k ≠ k') : (s.setA k' j v).a k = s.a k := if_neg h
def GO (u : RS) (w : Int32) (n : Int64) : RS := RS.setI (RS.setA (RS.setA (RS.setA (RS.setA (RS.setA (RS.setA (RS.setB (RS.setA u 44 ((u.i 43).toNatClampNeg) w) 45 ((u.i 43).toNatClampNeg) n) 46 ((u.i 43).toNatClampNeg) (-1)) 47 ((u.i 43).toNatClampNeg) (u.i 52)) 48 ((u.i 43).toNatClampNeg) (-1)) 49 ((u.i 43).toNatClampNeg) (-1)) 50 ((u.i 43).toNatClampNeg) 0) 51 ((u.i 43).toNatClampNeg) 0) 43 (u.i 43 + 1)
theorem gN {u : RS} (h : 0 ≤ goI u) : (((u.i 43).toNatClampNeg : Nat) : Int) = goI u := Int.toNat_of_nonneg h
theorem p_go {N : Nat} {u : RS} (w : Int32) (n : Int64) (h0 : 0 ≤ goI u) (h4 : goI u < 460) : f_X12_goal N u w n = some (u.i 43, GO u w n) := by
  unfold f_X12_goal
  rw [if_pos (show ib (u.i 43) 460 from ⟨h0, h4⟩), Int32.add_sub_cancel]
  rfl
theorem GO.eI {u : RS} {w : Int32} {n : Int64} {j : Nat} (hj : j ≠ 43) : (GO u w n).i j = u.i j := if_neg hj
theorem GO.eGO {u : RS} {w : Int32} {n : Int64} (h0 : 0 ≤ goI u) (h4 : goI u < 460) : goI (GO u w n) = goI u + 1 := by
  have e1 : (1 : Int32).toInt = 1 := by decide
  have h0 : 0 ≤ (u.i 43).toInt := h0
  have h4 : (u.i 43).toInt < 460 := h4
  show (u.i 43 + 1).toInt = (u.i 43).toInt + 1
  rw [toInt_add] <;> rw [e1] <;> omega
theorem GO.eA {u : RS} {w : Int32} {n : Int64} {k : Nat} (h : k < 44 ∨ k = 45 ∨ 51 < k) : (GO u w n).a k = u.a k := (if_neg (by omega)).trans ((if_neg (by omega)).trans ((if_neg (by omega)).trans ((if_neg (by omega)).trans ((if_neg (by omega)).trans ((if_neg (by omega)).trans (if_neg (by omega)))))))
theorem GO.lo {u : RS} {w : Int32} {n : Int64} {k j : Nat} (hj : j ≠ (u.i 43).toNatClampNeg) : (GO u w n).a k j = u.a k j := (setA_ne hj).trans ((setA_ne hj).trans ((setA_ne hj).trans ((setA_ne hj).trans ((setA_ne hj).trans ((setA_ne hj).trans (setA_ne hj))))))
theorem GO.a51 {u : RS} {w : Int32} {n : Int64} : (GO u w n).a 51 (u.i 43).toNatClampNeg = 0 := setA_at
theorem GO.a50 {u : RS} {w : Int32} {n : Int64} : (GO u w n).a 50 (u.i 43).toNatClampNeg = 0 := (congrFun (setA_nk (by decide)) _).trans setA_at
theorem GO.a49 {u : RS} {w : Int32} {n : Int64} : (GO u w n).a 49 (u.i 43).toNatClampNeg = -1 := (congrFun (setA_nk (by decide)) _).trans ((congrFun (setA_nk (by decide)) _).trans setA_at)
theorem GO.a48 {u : RS} {w : Int32} {n : Int64} : (GO u w n).a 48 (u.i 43).toNatClampNeg = -1 := (congrFun (setA_nk (by decide)) _).trans ((congrFun (setA_nk (by decide)) _).trans ((congrFun (setA_nk (by decide)) _).trans setA_at))
theorem GO.a47 {u : RS} {w : Int32} {n : Int64} : (GO u w n).a 47 (u.i 43).toNatClampNeg = u.i 52 := (congrFun (setA_nk (by decide)) _).trans ((congrFun (setA_nk (by decide)) _).trans ((congrFun (setA_nk (by decide)) _).trans ((congrFun (setA_nk (by decide)) _).trans setA_at)))
theorem GO.a46 {u : RS} {w : Int32} {n : Int64} : (GO u w n).a 46 (u.i 43).toNatClampNeg = -1 := (congrFun (setA_nk (by decide)) _).trans ((congrFun (setA_nk (by decide)) _).trans ((congrFun (setA_nk (by decide)) _).trans ((congrFun (setA_nk (by decide)) _).trans ((congrFun (setA_nk (by decide)) _).trans setA_at))))
theorem GO.a44 {u : RS} {w : Int32} {n : Int64} : (GO u w n).a 44 (u.i 43).toNatClampNeg = w := (congrFun (setA_nk (by decide)) _).trans ((congrFun (setA_nk (by decide)) _).trans ((congrFun (setA_nk (by decide)) _).trans ((congrFun (setA_nk (by decide)) _).trans ((congrFun (setA_nk (by decide)) _).trans ((congrFun (setA_nk (by decide)) _).trans (show (u.setA 44 (u.i 43).toNatClampNeg w).a 44 (u.i 43).toNatClampNeg = w from setA_at))))))
theorem GO.eHD {u : RS} {w : Int32} {n : Int64} {b : Bool} {γ : Nat} (hj : γ ≠ (u.i 43).toNatClampNeg) : hd (GO u w n) b γ = hd u b γ := by
  unfold hd gv
  rw [GO.lo hj]
theorem GO.eHD0 {u : RS} {w : Int32} {n : Int64} {b : Bool} : hd (GO u w n) b (u.i 43).toNatClampNeg = -1 := by
  unfold hd gv
  cases b
  · show ((GO u w n).a 49 _).toInt = -1
    rw [GO.a49]; decide
  · show ((GO u w n).a 48 _).toInt = -1
    rw [GO.a48]; decide
theorem GO.eIS {u : RS} {w : Int32} {n : Int64} {x : Int} {L : List Nat} (h : ISCH u x L) : ISCH (GO u w n) x L := h.of (fun y _ => ⟨congrFun (GO.eA (by omega)) y, congrFun (GO.eA (by omega)) y⟩)
theorem KP.go {t : Nat} {s u : RS} {w : Int32} {n : Int64} (h : KP t s u) (h0 : 0 ≤ goI s) (h4 : goI u < 460) : KP t s (GO u w n) := by
  obtain ⟨⟨a1, a1'⟩, a2, a3, a4, a5, a6, a7, a8, a9, a10, a11⟩ := h
  have hg := a7.1
  have ne : ∀ γ : Nat, (γ : Int) < goI s → γ ≠ (u.i 43).toNatClampNeg := fun γ hγ e => by
    have := gN (u := u) (by omega)
    rw [← e] at this
    omega
  have eg := GO.eGO (u := u) (w := w) (n := n) (by omega) h4
  refine ⟨⟨⟨fun j hj => (GO.eI (by omega)).trans (a1.1 j hj), fun k hk => (GO.eA (by omega)).trans (a1.2.1 k hk), a1.2.2⟩, a1'⟩, a2, a3, a4, a5, a6, ⟨by omega, fun γ hγ => (GO.lo (ne γ hγ)).trans (a7.2.1 γ hγ), fun γ hγ => (GO.lo (ne γ hγ)).trans (a7.2.2.1 γ hγ), fun γ hγ q => (GO.lo (ne γ hγ)).trans (a7.2.2.2.1 γ hγ q), fun γ hγ q => (GO.lo (ne γ hγ)).trans (a7.2.2.2.2.1 γ hγ q), fun γ hγ => ?_⟩, fun γ b L hγ hI hL => ?_, a9, a10, fun k k1 k2 j hj => (congrFun (GO.eA (by omega)) j).trans (a11 k k1 k2 j hj)⟩
  · rw [GO.lo (ne γ hγ)]
    exact a7.2.2.2.2.2 γ hγ
  · obtain ⟨L1, c1, c2⟩ := a8 γ b L hγ hI hL
    exact ⟨L1, by rw [GO.eHD (ne γ hγ)]; exact GO.eIS c1, c2⟩
theorem TAB.go {u : RS} {w : Int32} {n : Int64} (h : TAB u) (h0 : 0 ≤ goI u) (h4 : goI u < 460) (hd0 : 0 ≤ deI u) : TAB (GO u w n) := by
  obtain ⟨⟨a0, b1, b2, b3, b4⟩, a1, a2, a3, a4, a5, a6, a7, a8, a9⟩ := h
  have eg := GO.eGO (u := u) (w := w) (n := n) h0 h4
  have gn := gN h0
  have cs : ∀ γ : Nat, (γ : Int) < goI (GO u w n) → γ = (u.i 43).toNatClampNeg ∨ (γ : Int) < goI u ∧ γ ≠ (u.i 43).toNatClampNeg := fun γ hγ => by
    by_cases c : γ = (u.i 43).toNatClampNeg
    · exact Or.inl c
    · exact Or.inr ⟨by omega, c⟩
  have tn : TN (GO u w n) := fun γ b hγ => by
    rcases cs γ hγ with c | ⟨c1, c2⟩
    · subst c
      exact ⟨[], by rw [GO.eHD0]; show (-1 : Int) < 0; omega, fun x hx => absurd hx List.not_mem_nil⟩
    · obtain ⟨L, l1, l2⟩ := a0 γ b c1
      exact ⟨L, by rw [GO.eHD c2]; exact GO.eIS l1, l2⟩
  refine ⟨⟨tn, ?_, b2, b3, b4⟩, a1, a2, a3, a4, a5, ?_, a7, ?_, a9⟩
  · intro γ γ' b b' L L' x h1 h2 h3 h4 h5 h6
    have em : ∀ (γ : Nat) (b : Bool) (L : List Nat), γ = (u.i 43).toNatClampNeg → ISCH (GO u w n) (hd (GO u w n) b γ) L → L = [] := fun γ b L e hI => by
      subst e
      rw [GO.eHD0] at hI
      exact ISCH.uniq hI (show (-1 : Int) < 0 by omega)
    rcases cs γ h1 with c | ⟨c1, c2⟩
    · rw [em γ b L c h3] at h5; exact absurd h5 List.not_mem_nil
    · rcases cs γ' h2 with c | ⟨c3, c4⟩
      · rw [em γ' b' L' c h4] at h6; exact absurd h6 List.not_mem_nil
      · rw [GO.eHD c2] at h3
        rw [GO.eHD c4] at h4
        have back : ∀ (y : Int) (M : List Nat), ISCH (GO u w n) y M → ISCH u y M := fun y M hM => hM.of (fun z _ => ⟨(congrFun (GO.eA (by omega)) z).symm, (congrFun (GO.eA (by omega)) z).symm⟩)
        exact b1 γ γ' b b' L L' x c1 c3 (back _ _ h3) (back _ _ h4) h5 h6
  · intro γ hγ
    unfold gv
    rcases cs γ hγ with c | ⟨c1, c2⟩
    · subst c
      rw [GO.a47]
      exact ⟨hd0, Int.le_refl _⟩
    · rw [GO.lo c2]
      exact a6 γ c1
  · intro k hk
    have := a8 k hk
    refine ⟨this.1, this.2.1, this.2.2.1, ?_⟩
    rw [eg]
    have := this.2.2.2
    show gv u 58 k ≤ goI u + 1
    omega
theorem p_lgl {N : Nat} (x1 : Int32) : ∀ (n : Nat) (σ : RS) (h : Int32), -1 ≤ h.toInt → h.toInt < 460 → h.toInt + 2 ≤ n → ok (f_X12_loopGoal_11 N n σ x1 h) (fun p => p.1 = x1 ∧ p.2.i = σ.i ∧ p.2.b = σ.b ∧ (∀ k : Nat, k ≠ 46 → p.2.a k = σ.a k) ∧ (∀ γ : Nat, p.2.a 46 γ = σ.a 46 γ ∨ (γ : Int) ≤ h.toInt ∧ p.2.a 46 γ = x1 ∧ ∀ δ : Nat, γ ≤ δ → (δ : Int) ≤ h.toInt → σ.a 44 δ = 2 ∧ σ.a 46 δ = -3) ∧ (∀ γ : Nat, (γ : Int) ≤ h.toInt → (∀ δ : Nat, γ ≤ δ → (δ : Int) ≤ h.toInt → σ.a 44 δ = 2 ∧ σ.a 46 δ = -3) → p.2.a 46 γ = x1))
  | 0, σ, h, h1, _, h3 => by omega
  | n + 1, σ, h, h1, h2, h3 => by
    show ok (b_X12_loopGoal_11 N (f_X12_loopGoal_11 N n) σ x1 h) _
    unfold b_X12_loopGoal_11 f_X12_loopGoal_49
    have stop : ∀ (hs : ∀ γ : Nat, (γ : Int) ≤ h.toInt → ¬ ∀ δ : Nat, γ ≤ δ → (δ : Int) ≤ h.toInt → σ.a 44 δ = 2 ∧ σ.a 46 δ = -3), ok (some (x1, σ)) (fun p => p.1 = x1 ∧ p.2.i = σ.i ∧ p.2.b = σ.b ∧ (∀ k : Nat, k ≠ 46 → p.2.a k = σ.a k) ∧ (∀ γ : Nat, p.2.a 46 γ = σ.a 46 γ ∨ (γ : Int) ≤ h.toInt ∧ p.2.a 46 γ = x1 ∧ ∀ δ : Nat, γ ≤ δ → (δ : Int) ≤ h.toInt → σ.a 44 δ = 2 ∧ σ.a 46 δ = -3) ∧ (∀ γ : Nat, (γ : Int) ≤ h.toInt → (∀ δ : Nat, γ ≤ δ → (δ : Int) ≤ h.toInt → σ.a 44 δ = 2 ∧ σ.a 46 δ = -3) → p.2.a 46 γ = x1)) := fun hs => ok_some ⟨rfl, rfl, rfl, fun _ _ => rfl, fun γ => Or.inl rfl, fun γ q1 q2 => absurd q2 (hs γ q1)⟩
    refine ok_ite (fun c => stop (fun γ q => ?_)) (fun c => ?_)
    · have := lt_int c
      rw [z_t0] at this
      omega
    have h0 : 0 ≤ h.toInt := by
      have : ¬ h.toInt < (0 : Int32).toInt := fun z => c (Int32.lt_iff_toInt_lt.mpr z)
      rw [z_t0] at this
      omega
    have ci := clampI h0
    refine ok_chk ⟨h0, by omega⟩ (ok_ite (fun c1 => ok_ite (fun c2 => ?_) (fun c2 => stop (fun γ q1 q2 => c2 (q2 _ (by omega) (by omega)).2))) (fun c1 => stop (fun γ q1 q2 => c1 (q2 _ (by omega) (by omega)).1)))
    have e1 : (-1 : Int32).toInt = -1 := by decide
    have ek : (h + -1).toInt = h.toInt - 1 := by rw [toInt_add] <;> rw [e1] <;> omega
    refine ok_imp (p_lgl x1 n (σ.setA 46 h.toNatClampNeg x1) (h + -1) (by omega) (by omega) (by omega)) (fun p hp => ?_)
    obtain ⟨q1, q2, q3, q4, q5, q6⟩ := hp
    have ne : ∀ δ : Nat, (δ : Int) ≤ (h + -1).toInt → (σ.setA 46 h.toNatClampNeg x1).a 46 δ = σ.a 46 δ := fun δ hδ => setA_ne (by omega)
    refine ⟨q1, q2, q3, fun k hk => (q4 k hk).trans (setA_nk hk), fun γ => ?_, fun γ g1 g2 => ?_⟩
    · by_cases cg : γ = h.toNatClampNeg
      · right
        subst cg
        refine ⟨by omega, ?_, fun δ d1 d2 => ?_⟩
        · rcases q5 h.toNatClampNeg with q | q
          · rw [q]; exact setA_at
          · have := q.1; omega
        · have : δ = h.toNatClampNeg := by omega
          subst this
          exact ⟨c1, c2⟩
      · rcases q5 γ with q | ⟨r1, r2, r3⟩
        · left
          rw [q]; exact setA_ne cg
        · right
          refine ⟨by omega, r2, fun δ d1 d2 => ?_⟩
          by_cases cd : δ = h.toNatClampNeg
          · subst cd; exact ⟨c1, c2⟩
          · have := r3 δ d1 (by omega)
            rw [ne δ (by omega)] at this
            exact this
    · by_cases cg : γ = h.toNatClampNeg
      · subst cg
        rcases q5 h.toNatClampNeg with q | q
        · rw [q]; exact setA_at
        · exact q.2.1
      · exact q6 γ (by omega) (fun δ d1 d2 => by
          have := g2 δ d1 (by omega)
          rw [ne δ (by omega)]
          exact this)
/-- a loop's goal -/
def LGR (u v : RS) : Prop := v.i = (GO u 0 0).i ∧ v.b = (GO u 0 0).b ∧ (∀ k : Nat, k ≠ 46 → v.a k = (GO u 0 0).a k) ∧ (∀ γ : Nat, v.a 46 γ = (GO u 0 0).a 46 γ ∨ (γ : Int) < goI u ∧ v.a 46 γ = u.i 43 ∧ ∀ δ : Nat, γ ≤ δ → (δ : Int) < goI u → u.a 44 δ = 2 ∧ u.a 46 δ = -3) ∧ (∀ γ : Nat, (γ : Int) < goI u → (∀ δ : Nat, γ ≤ δ → (δ : Int) < goI u → u.a 44 δ = 2 ∧ u.a 46 δ = -3) → v.a 46 γ = u.i 43)
theorem p_lg {N : Nat} (hN : 1000 ≤ N) {u : RS} (h0 : 0 ≤ goI u) (h4 : goI u < 460) : ∃ v, f_X12_loopGoal N u = some (u.i 43, v) ∧ LGR u v := by
  unfold f_X12_loopGoal
  rw [p_go 0 0 h0 h4]
  have e1 : (1 : Int32).toInt = 1 := by decide
  have h0' : 0 ≤ (u.i 43).toInt := h0
  have h4' : (u.i 43).toInt < 460 := h4
  have ek : (u.i 43 - 1).toInt = goI u - 1 := by
    show _ = (u.i 43).toInt - 1
    rw [toInt_sub] <;> rw [e1] <;> omega
  obtain ⟨p, ep, q1, q2, q3, q4, q5, q6⟩ := p_lgl (N := N) (u.i 43) N (GO u 0 0) (u.i 43 - 1) (by omega) (by omega) (by omega)
  have gn := gN h0
  have lo : ∀ (k δ : Nat), (δ : Int) < goI u → (GO u 0 0).a k δ = u.a k δ := fun k δ hδ => GO.lo (by omega)
  refine ⟨p.2, ?_, q2, q3, q4, fun γ => ?_, fun γ g1 g2 => ?_⟩
  · show f_X12_loopGoal_11 N N (GO u 0 0) (u.i 43) (u.i 43 - 1) = _
    rw [ep, ← q1]
  · rcases q5 γ with q | ⟨r1, r2, r3⟩
    · exact Or.inl q
    · refine Or.inr ⟨by omega, r2, fun δ d1 d2 => ?_⟩
      have := r3 δ d1 (by omega)
      rw [lo 44 δ d2, lo 46 δ d2] at this
      exact this
  · refine q6 γ (by omega) (fun δ d1 d2 => ?_)
    rw [lo 44 δ (by omega), lo 46 δ (by omega)]
    exact g2 δ d1 (by omega)
end
section
/-! reading: patching a chain; the end of a statement that has a goal -/
def ND : List Nat → Prop
  | [] => True
  | x :: L => x ∉ L ∧ ND L
def rmv (m : Nat) : List Nat → List Nat
  | [] => []
  | x :: L => if x = m then rmv m L else x :: rmv m L
theorem rmv_mem {m : Nat} : ∀ {L : List Nat} {x : Nat}, x ∈ rmv m L → x ∈ L ∧ x ≠ m
  | [], x, h => absurd h List.not_mem_nil
  | y :: L, x, h => by
    unfold rmv at h
    by_cases c : y = m
    · rw [if_pos c] at h
      exact ⟨List.mem_cons_of_mem _ (rmv_mem h).1, (rmv_mem h).2⟩
    · rw [if_neg c] at h
      rcases List.mem_cons.mp h with e | h
      · subst e; exact ⟨List.mem_cons_self .., c⟩
      · exact ⟨List.mem_cons_of_mem _ (rmv_mem h).1, (rmv_mem h).2⟩
theorem rmv_nd {m : Nat} : ∀ {L : List Nat}, ND L → ND (rmv m L)
  | [], h => h
  | y :: L, h => by
    unfold rmv
    by_cases c : y = m
    · rw [if_pos c]; exact rmv_nd h.2
    · rw [if_neg c]; exact ⟨fun z => h.1 (rmv_mem z).1, rmv_nd h.2⟩
theorem rmv_le {m : Nat} : ∀ {L : List Nat}, m ∉ L → (rmv m L).length = L.length
  | [], _ => rfl
  | y :: L, h => by
    unfold rmv
    rw [if_neg (fun c => h (by rw [c]; exact List.mem_cons_self ..))]
    show (rmv m L).length + 1 = L.length + 1
    rw [rmv_le (fun z => h (List.mem_cons_of_mem _ z))]
theorem rmv_len {m : Nat} : ∀ {L : List Nat}, ND L → L.length ≤ (rmv m L).length + 1
  | [], _ => Nat.zero_le _
  | y :: L, h => by
    unfold rmv
    by_cases c : y = m
    · rw [if_pos c]
      subst c
      rw [rmv_le h.1]
      exact Nat.le_refl _
    · rw [if_neg c]
      show L.length + 1 ≤ (rmv m L).length + 1 + 1
      have := rmv_len (m := m) h.2
      omega
theorem nd_len : ∀ (m : Nat) (L : List Nat), ND L → (∀ x ∈ L, x < m) → L.length ≤ m
  | 0, [], _, _ => Nat.le_refl _
  | 0, x :: L, _, h => absurd (h x (List.mem_cons_self ..)) (Nat.not_lt_zero _)
  | m + 1, L, h1, h2 => by
    have := nd_len m (rmv m L) (rmv_nd h1) (fun x hx => by
      have a := rmv_mem hx
      have := h2 x a.1
      have := a.2
      omega)
    have := rmv_len (m := m) h1
    omega
theorem ISCH.suf {s : RS} : ∀ {L : List Nat} {h : Int} {y : Nat}, ISCH s h L → y ∈ L → ∃ A B, L = A ++ y :: B ∧ ISCH s y (y :: B)
  | [], _, y, _, hy => absurd hy List.not_mem_nil
  | x :: L, _, y, h, hy => by
    rcases List.mem_cons.mp hy with e | hy
    · subst e
      exact ⟨[], L, rfl, rfl, h.2⟩
    · obtain ⟨A, B, e, hI⟩ := ISCH.suf h.2.2 hy
      exact ⟨x :: A, B, by rw [e]; rfl, hI⟩
theorem ISCH.nin {s : RS} {h : Int} {x : Nat} {L : List Nat} (hI : ISCH s h (x :: L)) : x ∉ L := fun hx => by
  obtain ⟨A, B, e, h2⟩ := ISCH.suf hI.2.2 hx
  have h1 : ISCH s x (x :: L) := ⟨rfl, hI.2⟩
  have e2 := ISCH.uniq h1 h2
  have e3 : L = B := (List.cons.inj e2).2
  have l1 : L.length = A.length + (B.length + 1) := by
    have := congrArg List.length e
    rw [List.length_append] at this
    exact this
  rw [e3] at l1
  omega
theorem ISCH.nd {s : RS} : ∀ {L : List Nat} {h : Int}, ISCH s h L → ND L
  | [], _, _ => True.intro
  | _ :: _, _, h => ⟨h.nin, ISCH.nd h.2.2⟩
def PT (x : Int32) : List Nat → RS → RS
  | [], u => u
  | k :: L, u => PT x L (u.setA 22 k x)
theorem PT.eI {x : Int32} : ∀ {L : List Nat} {u : RS}, (PT x L u).i = u.i
  | [], _ => rfl
  | k :: L, u => (PT.eI (L := L) (u := u.setA 22 k x)).trans rfl
theorem PT.eB {x : Int32} : ∀ {L : List Nat} {u : RS}, (PT x L u).b = u.b
  | [], _ => rfl
  | k :: L, u => (PT.eB (L := L) (u := u.setA 22 k x)).trans rfl
theorem PT.eA {x : Int32} {k9 : Nat} (h : k9 ≠ 22) : ∀ {L : List Nat} {u : RS}, (PT x L u).a k9 = u.a k9
  | [], _ => rfl
  | k :: L, u => (PT.eA h (L := L) (u := u.setA 22 k x)).trans (if_neg h)
theorem PT.e22 {x : Int32} : ∀ {L : List Nat} {u : RS} (j : Nat), (PT x L u).a 22 j = if j ∈ L then x else u.a 22 j
  | [], u, j => (if_neg List.not_mem_nil).symm
  | k :: L, u, j => by
    show (PT x L (u.setA 22 k x)).a 22 j = _
    rw [PT.e22 (L := L) (u := u.setA 22 k x) j]
    by_cases c : j ∈ L
    · rw [if_pos c, if_pos (List.mem_cons_of_mem _ c)]
    · rw [if_neg c]
      by_cases d : j = k
      · subst d
        rw [if_pos (List.mem_cons_self ..)]
        exact setA_at
      · rw [if_neg (fun z => (List.mem_cons.mp z).elim d c)]
        exact setA_ne d
theorem p_ptl {N : Nat} (w : Int32) : ∀ (L : List Nat) (n : Nat) (σ : RS) (site : Int32), ISCH σ site.toInt L → (∀ x ∈ L, (x : Int) < 3000) → L.length < n → f_X12_patch_2 N n σ w site = some (PT w L σ)
  | [], 0, _, _, _, _, h => absurd h (Nat.not_lt_zero _)
  | _ :: _, 0, _, _, _, _, h => absurd h (Nat.not_lt_zero _)
  | [], n + 1, σ, site, hI, _, _ => by
    show b_X12_patch_2 N (f_X12_patch_2 N n) σ w site = _
    unfold b_X12_patch_2
    have h : site < 0 := by
      rw [Int32.lt_iff_toInt_lt, z_t0]; exact hI
    rw [if_pos h]
    rfl
  | x :: L, n + 1, σ, site, hI, hL, hn => by
    show b_X12_patch_2 N (f_X12_patch_2 N n) σ w site = _
    unfold b_X12_patch_2
    have hx := hL x (List.mem_cons_self ..)
    have e := hI.1
    have h : ¬ site < 0 := fun c => by
      have := lt_int c
      rw [z_t0] at this
      omega
    have en : site.toNatClampNeg = x := by
      show site.toInt.toNat = x
      rw [e]; exact Int.toNat_natCast _
    rw [if_neg h, if_pos (show ib site 3000 from ⟨by omega, by omega⟩), en]
    refine p_ptl w L n (σ.setA 22 x w) (σ.a 22 x) (ISCH.of hI.2.2 (fun y hy => ⟨rfl, setA_ne (fun c => hI.nin (by rw [← c]; exact hy))⟩)) (fun y hy => hL y (List.mem_cons_of_mem _ hy)) (by have : (x :: L).length = L.length + 1 := rfl; omega)
theorem p_pt {N : Nat} (hN : 4000 ≤ N) {σ : RS} {site w : Int32} {L : List Nat} (hI : ISCH σ site.toInt L) (hL : ∀ x ∈ L, (x : Int) < 3000) : f_X12_patch N σ site w = some (PT w L σ) := by
  unfold f_X12_patch
  have := nd_len 3000 L hI.nd (fun x hx => by have := hL x hx; omega)
  exact p_ptl w L N σ site hI hL (by omega)
def EQT (v W : RS) : Prop := (∀ k : Nat, (k < 21 ∨ 24 ≤ k) → (k < 64 ∨ 74 ≤ k) → W.a k = v.a k) ∧ W.b 9 = v.b 9 ∧ (∀ j : Nat, (j < 10 ∨ 20 < j) → j ≠ 38 → j ≠ 43 → ¬ (52 ≤ j ∧ j ≤ 55) → j ≠ 63 → j ≠ 75 → W.i j = v.i j)
def CHN (v W : RS) : Prop := ∀ (γ : Nat) (b : Bool) (L : List Nat) (x : Nat), (γ : Int) < goI W → ISCH v (hd v b γ) L → x ∈ L → W.a 21 x = v.a 21 x ∧ W.a 22 x = v.a 22 x
theorem EQT.en {v W : RS} (h : EQT v W) : enI W = enI v := by unfold enI; rw [h.2.2 24 (by omega) (by omega) (by omega) (by omega) (by omega) (by omega)]
theorem EQT.tt {v W : RS} (h : EQT v W) : trI W = trI v := by unfold trI; rw [h.2.2 29 (by omega) (by omega) (by omega) (by omega) (by omega) (by omega)]
theorem EQT.ca {v W : RS} (h : EQT v W) : caI W = caI v := by unfold caI; rw [h.2.2 33 (by omega) (by omega) (by omega) (by omega) (by omega) (by omega)]
theorem EQT.sl {v W : RS} (h : EQT v W) : slI W = slI v := by unfold slI; rw [h.2.2 42 (by omega) (by omega) (by omega) (by omega) (by omega) (by omega)]
theorem EQT.wa {v W : RS} (h : EQT v W) : waI W = waI v := by unfold waI; rw [h.2.2 56 (by omega) (by omega) (by omega) (by omega) (by omega) (by omega)]
theorem EQT.pe {v W : RS} (h : EQT v W) : peI W = peI v := by unfold peI; rw [h.2.2 59 (by omega) (by omega) (by omega) (by omega) (by omega) (by omega)]
theorem EQT.i3 {v W : RS} (h : EQT v W) : W.i 3 = v.i 3 := h.2.2 3 (by omega) (by omega) (by omega) (by omega) (by omega) (by omega)
theorem EQT.g {v W : RS} (h : EQT v W) {k : Nat} (h1 : 24 ≤ k) (h2 : k < 64) (i : Nat) : gv W k i = gv v k i := gv_of (h.1 k (Or.inr h1) (Or.inl h2)) i
theorem EQT.eHD {v W : RS} (h : EQT v W) (b : Bool) (γ : Nat) : hd W b γ = hd v b γ := by
  cases b
  · exact h.g (k := 49) (by decide) (by decide) γ
  · exact h.g (k := 48) (by decide) (by decide) γ
theorem CHN.eIS {v W : RS} (h : CHN v W) (he : EQT v W) {γ : Nat} {b : Bool} {L : List Nat} (hγ : (γ : Int) < goI W) (hI : ISCH v (hd v b γ) L) : ISCH W (hd W b γ) L := by
  rw [he.eHD]
  exact hI.of (fun x hx => h γ b L x hγ hI hx)
theorem TAB.fin {v W : RS} (h : TAB v) (he : EQT v W) (hc : CHN v W) (hcd : cdI v ≤ cdI W) (hgo : goI W ≤ goI v) (hse : seI W ≤ seI v) (h6 : ∀ γ : Nat, (γ : Int) < goI W → gv v 47 γ ≤ deI W) (h8 : ∀ w : Nat, (w : Int) < waI v → gv v 58 w ≤ goI W) (hr : W.i 75 = 0 ∨ W.i 75 = 1) : TAB W := by
  obtain ⟨⟨a0, b1, b2, b3, b4⟩, a1, a2, a3, a4, a5, a6, a7, a8, a9⟩ := h
  refine ⟨⟨fun γ b hγ => ?_, DJ.of a0 b1 hgo (fun γ b L hγ h1 _ => hc.eIS he hγ h1), ?_, ?_, ?_⟩, ?_, ?_, ?_, ?_, ?_, ?_, ?_, ?_, hr⟩
  · obtain ⟨L, l1, l2⟩ := a0 γ b (by omega)
    exact ⟨L, hc.eIS he hγ l1, fun x hx => by have := l2 x hx; omega⟩
  · intro p hp; rw [he.pe] at hp; rw [he.tt, he.g (by decide) (by decide)]; exact b2 p hp
  · intro w1 w2 h1 h2; rw [he.wa] at h2; rw [he.g (by decide) (by decide), he.g (by decide) (by decide)]; exact b3 w1 w2 h1 h2
  · intro p w1 h1 h2 h3; rw [he.pe] at h1; rw [he.wa] at h2; rw [he.g (by decide) (by decide), he.g (by decide) (by decide)] at h3; rw [he.g (by decide) (by decide), he.g (by decide) (by decide)]; exact b4 p w1 h1 h2 h3
  · intro j hj; rw [he.en] at hj ⊢; rw [he.g (by decide) (by decide)]; exact a1 j hj
  · intro j hj; rw [he.ca] at hj ⊢; rw [he.g (by decide) (by decide)]; exact a2 j hj
  · intro j hj; rw [he.tt] at hj; rw [he.ca, he.g (by decide) (by decide)]; exact a3 j hj
  · intro x hx
    rw [he.sl, he.ca, he.g (by decide) (by decide), he.1 41 (by decide) (by decide)]
    have := a4 x (by omega)
    refine ⟨this.1, this.2.1, ?_⟩
    rw [← this.2.2]
    constructor
    · rintro ⟨j, j1, j2⟩; exact ⟨j, j1, by rw [← j2, he.g (by decide) (by decide)]⟩
    · rintro ⟨j, j1, j2⟩; exact ⟨j, j1, by rw [← j2, he.g (by decide) (by decide)]⟩
  · intro j hj; rw [he.ca] at hj; rw [he.sl, he.g (by decide) (by decide)]; exact a5 j hj
  · intro γ hγ; rw [he.g (by decide) (by decide)]; exact ⟨(a6 γ (by omega)).1, h6 γ hγ⟩
  · intro k hk; rw [he.pe] at hk; rw [he.g (by decide) (by decide), he.1 61 (by decide) (by decide)]; exact a7 k hk
  · intro k hk
    rw [he.wa] at hk
    rw [he.tt, he.g (by decide) (by decide), he.g (by decide) (by decide)]
    have := a8 k hk
    exact ⟨this.1, this.2.1, this.2.2.1, h8 k hk⟩
theorem KP.fin {t : Nat} {s v W : RS} (h : KP t s v) (he : EQT v W) (hc : CHN v W) (hcd : cdI v ≤ cdI W) (hg1 : goI s ≤ goI W) (hse : seI s ≤ seI W) (h18 : 0 ≤ v.i 18 → 0 ≤ W.i 18) (hco : ∀ k : Nat, (k : Int) < cdI s → W.a 21 k = v.a 21 k ∧ W.a 22 k = v.a 22 k ∧ W.a 23 k = v.a 23 k) (hf : ∀ k : Nat, 64 ≤ k → k ≤ 73 → bel k t v W) : KP t s W := by
  obtain ⟨⟨a1, a1'⟩, a2, a3, a4, a5, a6, a7, a8, a9, a10, a11⟩ := h
  have eb : ∀ (k : Nat) (n : Int), 24 ≤ k → k < 64 → bel k n s W = bel k n s v := fun k n h1 h2 => by unfold bel; rw [he.1 k (Or.inr h1) (Or.inl h2)]
  refine ⟨⟨⟨fun j hj => (he.2.2 j (by omega) (by omega) (by omega) (by omega) (by omega) (by omega)).trans (a1.1 j hj), fun k hk => (he.1 k (by omega) (by omega)).trans (a1.2.1 k hk), he.2.1.trans a1.2.2⟩, fun z => h18 (a1' z)⟩, ⟨by have := a2.1; omega, fun j hj => (hco j hj).1.trans (a2.2.1 j hj), fun j hj => (hco j hj).2.1.trans (a2.2.2.1 j hj), fun j hj => (hco j hj).2.2.trans (a2.2.2.2 j hj)⟩, ?_, ?_, ?_, ?_, ?_, ?_, ?_, ?_, fun k k1 k2 => (a11 k k1 k2).tr (hf k k1 k2) (by omega)⟩
  · unfold KE; rw [he.en, eb _ _ (by decide) (by decide), eb _ _ (by decide) (by decide), eb _ _ (by decide) (by decide), eb _ _ (by decide) (by decide)]; exact a3
  · unfold KT; rw [he.tt, eb _ _ (by decide) (by decide), eb _ _ (by decide) (by decide), eb _ _ (by decide) (by decide)]; exact a4
  · unfold KH; unfold gv; rw [he.ca, eb _ _ (by decide) (by decide), eb _ _ (by decide) (by decide), eb _ _ (by decide) (by decide), eb _ _ (by decide) (by decide), he.sl, he.1 36 (by decide) (by decide)]; exact a5
  · unfold KS; rw [he.sl, eb _ _ (by decide) (by decide), eb _ _ (by decide) (by decide)]; exact ⟨hse, a6.2⟩
  · unfold KG; rw [eb _ _ (by decide) (by decide), eb _ _ (by decide) (by decide), he.1 50 (by decide) (by decide), he.1 51 (by decide) (by decide), he.1 46 (by decide) (by decide)]; exact ⟨hg1, a7.2⟩
  · intro γ b L hγ hI hL
    obtain ⟨L1, c1, c2⟩ := a8 γ b L hγ hI hL
    exact ⟨L1, hc.eIS he (by omega) c1, fun x hx => by have := c2 x hx; omega⟩
  · unfold KW; rw [he.wa, eb _ _ (by decide) (by decide), eb _ _ (by decide) (by decide)]; exact a9
  · unfold KQ; rw [he.pe, eb _ _ (by decide) (by decide), eb _ _ (by decide) (by decide), eb _ _ (by decide) (by decide)]; exact a10
theorem OPN.fin {v W : RS} (hn : TN v) (he : EQT v W) (hc : CHN v W) (hgo : goI W ≤ goI v) {k : Nat} (h : OPN W k) : OPN v k := by
  obtain ⟨γ, b, L, x1, x2, x3⟩ := h
  obtain ⟨M, m1, m2⟩ := hn γ b (by omega)
  have e := ISCH.uniq x2 (hc.eIS he x1 m1)
  subst e
  exact ⟨γ, b, _, by omega, m1, x3⟩
theorem LAT.fin {Z : Nat → Nat → Prop} {s1 u1 v W : RS} (h : LAT Z s1 u1 v) (he : EQT v W) (hc : CHN v W) (hn : TN v) (hcd : cdI v ≤ cdI W) (hgo : goI W ≤ goI v) (hco : ∀ k : Nat, cdI s1 ≤ k → (k : Int) < cdI u1 → W.a 21 k = v.a 21 k ∧ W.a 23 k = v.a 23 k ∧ (¬ OPN v k → W.a 22 k = v.a 22 k)) : LAT Z s1 u1 W := by
  obtain ⟨⟨a1, a2, a3, a4, a5, a6, a7, a8⟩, a9, a10, a11, a12, a13⟩ := h
  refine ⟨⟨by omega, by rw [he.en]; exact a2, by rw [he.tt]; exact a3, by rw [he.i3]; exact a4, fun k k1 k2 => ?_, fun k k1 k2 => ?_, fun k k1 k2 z => ?_, fun k k1 k2 => ?_⟩, fun k k1 k2 z => a9 k k1 k2 (OPN.fin hn he hc hgo z), by rw [he.ca]; exact a10, by rw [he.sl]; exact a11, fun j hj => by rw [he.g (by decide) (by decide)]; exact a12 j hj, fun j h1 h2 => by rw [he.ca] at h2; rw [he.g (by decide) (by decide)]; exact a13 j h1 h2⟩
  · obtain ⟨b1, b2⟩ := a5 k k1 k2
    obtain ⟨c1, c2, c3⟩ := hco k k1 k2
    exact ⟨c1.trans b1, fun z => ⟨c2.trans (b2 z).1, fun q => (c3 (fun y => q (a9 k k1 k2 y))).trans ((b2 z).2 q)⟩⟩
  · rw [he.1 26 (by decide) (by decide), he.1 27 (by decide) (by decide), he.1 28 (by decide) (by decide)]; exact a6 k k1 k2
  · rw [he.1 30 (by decide) (by decide), he.1 31 (by decide) (by decide), he.1 32 (by decide) (by decide)]; exact a7 k k1 k2 z
  · rw [he.1 35 (by decide) (by decide), he.1 36 (by decide) (by decide), he.1 37 (by decide) (by decide)]; exact a8 k k1 k2
theorem SITE.fin {s v W : RS} (he : EQT v W) (hc : CHN v W) {γ : Nat} {b : Bool} {k : Nat} (hγ : (γ : Int) < goI W) (h : SITE s v γ b k) : SITE s W γ b k := by
  obtain ⟨h1, L, h2, h3⟩ := h
  exact ⟨h1, L, hc.eIS he hγ h2, h3⟩
theorem ARV.fin {v W : RS} (he : EQT v W) {γ : Nat} {b : Bool} (h : ARV v γ b) : ARV W γ b := by
  rcases h with h | ⟨p, p1, p2, p3, p4, p5⟩
  · left
    cases b
    · show W.a 51 γ = 1; rw [he.1 51 (by decide) (by decide)]; exact h
    · show W.a 50 γ = 1; rw [he.1 50 (by decide) (by decide)]; exact h
  · refine Or.inr ⟨p, by rw [he.pe]; exact p1, by rw [he.g (by decide) (by decide)]; exact p2, by rw [he.1 61 (by decide) (by decide)]; exact p3, by rw [he.wa]; exact p4, by rw [he.wa, he.g (by decide) (by decide), he.g (by decide) (by decide)]; exact p5⟩
end
section
/-! reading: lists and blocks -/
/-- the tables are the same, but for how many names are seen -/
def TBS (u w : RS) : Prop := EQT u w ∧ (∀ k : Nat, 21 ≤ k → k < 24 → w.a k = u.a k) ∧ w.i 20 = u.i 20 ∧ w.i 43 = u.i 43
theorem TBL.tbs {u w : RS} (h : TBL u w) : TBS u w := ⟨⟨fun k _ h2 => h.1 k h2, h.2.1, fun j h1 h2 h3 h4 h5 h6 => h.2.2 j (by omega) h4 h5 h6⟩, fun k h1 h2 => h.1 k (by omega), h.2.2 20 (by omega) (by omega) (by omega) (by omega), h.2.2 43 (by omega) (by omega) (by omega) (by omega)⟩
theorem TBS.cd {u w : RS} (h : TBS u w) : cdI w = cdI u := by unfold cdI; rw [h.2.2.1]
theorem TBS.go {u w : RS} (h : TBS u w) : goI w = goI u := by unfold goI; rw [h.2.2.2]
theorem TBS.chn {u w : RS} (h : TBS u w) : CHN u w := fun γ b L x _ _ _ => ⟨by rw [h.2.1 21 (by omega) (by omega)], by rw [h.2.1 22 (by omega) (by omega)]⟩
theorem TBS.chn' {u w : RS} (h : TBS u w) {x : Int} {L : List Nat} (hi : ISCH w x L) : ISCH u x L := hi.of (fun y _ => ⟨by rw [h.2.1 21 (by omega) (by omega)], by rw [h.2.1 22 (by omega) (by omega)]⟩)
theorem ARV.tbs {v W : RS} (hs : TBS v W) {γ : Nat} {b : Bool} (h : ARV v γ b) : ARV W γ b := h.fin hs.1
theorem TS.tbs {s u s' u' : RS} (h : TS s u) (hs : TBL s s') (hu : TBS u u') (hdp : s'.i 52 = s.i 52) (hf : fr s' ≤ fr s) (hf9 : fr s ≤ 900) (hr : u.i 75 = 1 → u'.i 75 = 1) : TS s' u' := by
  intro f C hA hC h9 o v rs hx hy
  have e := hu.1
  have hOPN : ∀ k : Nat, OPN u' k → OPN u k := fun k ⟨γ, b, L, x1, x2, x3⟩ => ⟨γ, b, L, by rw [hu.go] at x1; exact x1, by
    rw [e.eHD] at x2
    exact hu.chn' x2, x3⟩
  have hA' : AG0 s u f := by
    obtain ⟨a1, a2, a3, a4, a5, a6, a7, a8⟩ := hA
    rw [hu.cd] at a1
    rw [e.en] at a2
    rw [e.tt] at a3
    rw [e.i3] at a4
    rw [hu.cd, hs.cd, hu.2.1 21 (by omega) (by omega), hu.2.1 22 (by omega) (by omega), hu.2.1 23 (by omega) (by omega)] at a5
    rw [e.en, hs.en, e.1 26 (by omega) (by omega), e.1 27 (by omega) (by omega), e.1 28 (by omega) (by omega)] at a6
    rw [e.tt, hs.tt, e.1 30 (by omega) (by omega), e.1 31 (by omega) (by omega), e.1 32 (by omega) (by omega)] at a7
    rw [e.ca, hs.ca, e.1 35 (by omega) (by omega), e.1 36 (by omega) (by omega), e.1 37 (by omega) (by omega)] at a8
    exact ⟨a1, a2, a3, a4, fun k k1 k2 => ⟨(a5 k k1 k2).1, (a5 k k1 k2).2.1, fun q => (a5 k k1 k2).2.2 (fun z => q (hOPN k z))⟩, a6, a7, a8⟩
  have hC' : AGC s u C := by
    intro x x1 x2
    have := hC x (by rw [hs.sl]; exact x1) (by rw [e.sl]; exact x2)
    rw [this, hs.ca, e.ca]
    constructor
    · rintro ⟨j, j1, j2, j3⟩; exact ⟨j, j1, j2, by rw [← j3, e.g (by decide) (by decide)]⟩
    · rintro ⟨j, j1, j2, j3⟩; exact ⟨j, j1, j2, by rw [← j3, e.g (by decide) (by decide)]⟩
  have hde : deI s' = deI s := by unfold deI; rw [hdp]
  have hx' : CX s h9 o v rs := by
    obtain ⟨c1, c2, c3, c4, c5, c6, c7, c8⟩ := hx
    rw [hde] at c1 c8
    exact ⟨c1, by omega, by omega, by omega, by omega, c6, hf9, c8⟩
  have hy' : YE s rs := hy.of hs.sy.go (fun j _ => by rw [hs.1 44 (by omega)]) (fun j _ => by rw [hs.1 47 (by omega)])
  have := h f C hA' hC' h9 o v rs hx' hy'
  rw [hs.cd]
  refine this.imp (fun g _ hE => ?_)
  obtain ⟨⟨e1, e2⟩, e3, e4⟩ := hE
  rw [hu.cd] at e1 e3
  refine ⟨⟨e1, fun x hx => ?_⟩, fun q => e3 (hr q), fun γ b k h1 h2 h3 => ?_⟩
  · have := e2 x (by rw [hs.se]; exact hx)
    rw [hs.g (by decide), hs.1 41 (by omega)] at this
    exact this
  · have b44 : bel 44 (goI u) u u' := fun j _ => by rw [e.1 44 (by omega) (by omega)]
    have h3' : SITE s' u' γ b k := by
      obtain ⟨p1, L, p2, p3⟩ := h3
      exact ⟨by rw [hs.cd]; exact p1, L, hu.chn.eIS e (by rw [hu.go]; exact h1.1) p2, p3⟩
    obtain ⟨vt, q1, q2, q3⟩ := e4 γ b k ((ACC.of hu.go b44 γ).mpr h1) (by rw [e.1 44 (by omega) (by omega)]; exact h2) h3'
    rw [e.g (by decide) (by decide)] at q2 q3
    rw [hu.cd] at q1
    exact ⟨vt, q1, q2, fun z => q3 (z.tbs hu)⟩
theorem TOPR.of {s u : RS} (hg : goI u = goI s) (h44 : bel 44 (goI s) s u) (h46 : bel 46 (goI s) s u) {γ : Nat} (h : TOPR u γ) : TOPR s γ := by
  have h1 := h.1
  refine ⟨by omega, fun δ d1 d2 => ?_⟩
  have := h.2 δ d1 (by omega)
  rw [h44 δ d2, h46 δ d2] at this
  exact this
theorem PRL.kp {t : Nat} {s u : RS} (h : PRL s) (hk : KP t s u) (hg : goI u = goI s) : PRL u := by
  obtain ⟨h1, h2⟩ := h
  have kg := hk.2.2.2.2.2.2.1
  have e46 : bel 46 (goI s) s u := fun γ hγ => by
    rcases kg.2.2.2.2.2 γ hγ with q | q
    · exact q
    · exact absurd q (h2 γ)
  refine ⟨fun γ a1 a2 a3 => ?_, fun γ a1 => h2 γ (a1.of hg kg.2.1 e46)⟩
  have b1 := (ACC.of hg kg.2.1 γ).mp a1
  have e : gv u 46 γ = gv s 46 γ := by unfold gv; rw [e46 γ b1.1]
  rw [e] at a3
  obtain ⟨c1, c2, c3⟩ := h1 γ b1 (by rw [← kg.2.1 γ b1.1]; exact a2) a3
  rw [e, hg]
  exact ⟨c1, c2, by rw [kg.2.1 _ (by omega)]; exact c3⟩
theorem LGA.tbl {s u : RS} (h : LGA s) (hw : TBL s u) : LGA u := by
  have b44 : bel 44 (goI s) s u := fun j _ => by rw [hw.1 44 (by omega)]
  intro γ a1 a2 a3
  rw [hw.g (by decide)] at a3 ⊢
  rw [hw.go, hw.1 44 (by omega)]
  rw [hw.1 44 (by omega)] at a2
  exact h γ ((ACC.of hw.go b44 γ).mp a1) a2 a3
theorem PRS.tbl {s u : RS} (h : PRS s) (hw : TBL s u) (h10 : u.i 10 = s.i 10) : PRS u := ⟨h.1.tbl hw, fun γ a1 => by
  rw [h10]
  exact h.2 γ (a1.of hw.go (fun j _ => by rw [hw.1 44 (by omega)]) (fun j _ => by rw [hw.1 46 (by omega)]))⟩
theorem PRL.tbl {s u : RS} (h : PRL s) (hw : TBL s u) : PRL u := ⟨h.1.tbl hw, fun γ a1 => h.2 γ (a1.of hw.go (fun j _ => by rw [hw.1 44 (by omega)]) (fun j _ => by rw [hw.1 46 (by omega)]))⟩
theorem SNW.tr {t : Nat} {s u w : RS} (h1 : SNW s u) (h2 : SNW u w) (k1 : KP t s u) (k2 : KP t u w) : SNW s w := by
  refine ⟨by have := h1.1; have := h2.1; omega, fun x x1 x2 => ?_⟩
  have s1 := k1.2.2.2.2.2.1
  have s2 := k2.2.2.2.2.2.1
  by_cases c : (x : Int) < seI u
  · have := h1.2 x x1 c
    unfold gv at *
    rw [s2.2.2.1 x c]
    exact this
  · have := h2.2 x (by omega) x2
    have := s1.2.1
    omega
theorem SNW.eq {s u : RS} (h : u.i 38 = s.i 38) (hs : slI s ≤ slI u) : SNW s u := by
  have e : seI u = seI s := by unfold seI; rw [h]
  exact ⟨by omega, fun x x1 x2 => by omega⟩
/-- behind a call of a statement, from the frame at t -/
def PCS (t : Nat) (st : Int32) (u w : RS) : Prop := INV w ∧ tpI w = t ∧ KP t u w ∧ SAME u w ∧ RATE u w ∧ SNW u w ∧ fr u ≤ fr w ∧ tkI u ≤ tkI w ∧ (¬ 0 ≤ w.i 18 → TS u w) ∧ w.a 65 t = st ∧ ∀ k : Nat, 64 ≤ k → k ≤ 73 → k ≠ 65 → w.a k t = u.a k t
theorem PCS.of {t : Nat} {st K : Int32} {u w : RS} (hf : fr u ≤ 900) (h : PS (t + 1) (TH u t st K) w) : PCS t st u w := by
  obtain ⟨a1, a2, a3, a4, a5, a6, a7, a8, a9⟩ := h
  have kt : KP t u (TH u t st K) := (KP.rf t u).th (Nat.le_refl _)
  have kf := a3.2.2.2.2.2.2.2.2.2.2
  refine ⟨a1, by rw [a2]; omega, kt.tr a3 (by omega), a4, a5, a6, a7, a8, fun z => (a9 z).tbs (TH.tbl u t st K).sy (TBL.rf w).tbs rfl (Int.le_refl _) hf id, ?_, fun k k1 k2 k3 => ?_⟩
  · rw [kf 65 (by omega) (by omega) t (by omega)]; exact TH.st
  · rw [kf k k1 k2 t (by omega)]
    by_cases c : k = 64
    · subst c; exact TH.fk0 (Nat.le_refl _)
    · exact congrFun (TH.loc c k3) t
theorem FS'.pre {u w : RS} {t : Nat} {st K : Int32} (hw : FS' (TH u t st K) w) : FS' u w := by
  obtain ⟨a1, a2, a3⟩ := hw
  exact ⟨a1, ⟨fun j hj => (a2.1 j hj).trans (if_neg (by omega)), fun k hk => (a2.2.1 k hk).trans ((TH.tbl u t st K).1 k (by omega)), a2.2.2⟩, a3⟩
theorem CALLS {N : Nat} {b : Nat} (hr : RUNS N b) {n : Nat} {u : RS} {t : Nat} {st : Int32} {P : RS → Prop} (hI : INV u) (hp : PRS u) (ht : tpI u = t) (h9 : t < 999) (hb : 2 * ((t : Int) + 1) ≤ fr u + 12 * op u + 2) (hc : 900 - fr u ≤ b) (hn : 36000 + 30 ≤ (n : Int) + 40 * fr u) (hF : ∀ w, FS' u w → P w) (hC : ∀ (m : Nat) (w : RS), PCS t st u w → fr u + 1 ≤ fr w → (n : Int) + 40 * fr u + 10 ≤ m + 40 * fr w → ok (f_X12_parse_10 N m w) P) : ok (f_X12_parse_10 N n (TH u t st 2)) P :=
  hr n (TH u t st 2) (t + 1) P hI.th (hp.tbl (TH.tbl u t st 2) rfl) (TH.tp ht (by omega)) TH.fk TH.fs (by show 2 * (((t + 1 : Nat)) : Int) ≤ fr u + 12 * op u + 2; omega) hc hn (fun w hw => hF w hw.pre) (fun m w hw hm hm2 => hC m w (PCS.of hI.1.f0.2 hw) hm hm2)
theorem CALLL {N : Nat} {b : Nat} (hr : RUNL N b) {n : Nat} {u : RS} {t : Nat} {st : Int32} {P : RS → Prop} (hI : INV u) (hp : PRL u) (ht : tpI u = t) (h9 : t < 999) (hb : 2 * ((t : Int) + 1) ≤ fr u + 12 * op u) (hc : 900 - fr u ≤ b) (hn : 36000 + 33 ≤ (n : Int) + 40 * fr u) (hF : ∀ w, FS' u w → P w) (hC : ∀ (m : Nat) (w : RS), PCS t st u w → (w.i 10 = 125 ∨ w.i 10 = 429 ∨ w.i 10 = 430 ∨ w.i 10 = 0) → (n : Int) + 40 * fr u ≤ m + 40 * fr w + 1 → ok (f_X12_parse_10 N m w) P) : ok (f_X12_parse_10 N n (TH u t st 1)) P :=
  hr n (TH u t st 1) (t + 1) P hI.th (hp.tbl (TH.tbl u t st 1)) (TH.tp ht (by omega)) TH.fk TH.fs (by show 2 * (((t + 1 : Nat)) : Int) ≤ fr u + 12 * op u; omega) hc hn (fun w hw => hF w hw.pre) (fun m w hw hm hm2 => hC m w (PCS.of hI.1.f0.2 hw) hm hm2)
theorem TBL.i75 (u : RS) (v : Int32) : TBL u (u.setI 75 v) := ⟨fun _ _ => rfl, rfl, fun _ _ _ _ h => if_neg h⟩
theorem TBL.i18 (u : RS) (v : Int32) : TBL u (u.setI 18 v) := ⟨fun _ _ => rfl, rfl, fun _ _ _ _ _ => if_neg (by omega)⟩
theorem TBL.i53 (u : RS) (v : Int32) : TBL u (u.setI 53 v) := ⟨fun _ _ => rfl, rfl, fun _ _ _ _ _ => if_neg (by omega)⟩
theorem TS.nil {s u : RS} (h : TBL s u) (hr : u.i 75 = 1) : TS s u := by
  intro f C hA hC h9 o v rs hx hy
  refine COD.nil (fun g _ hE => ?_)
  have := hE.2.1 hr
  rw [h.cd] at this
  exact this
theorem INV.i18 {u : RS} (h : INV u) (v : Int32) : INV (u.setI 18 v) := h.tbl (TBL.i18 u v) h.1 h.2.2.1 rfl rfl h.r (Int.le_refl _) h.tk
theorem INV.i75 {u : RS} (h : INV u) (v : Int32) (hv : v = 0 ∨ v = 1) : INV (u.setI 75 v) := h.tbl (TBL.i75 u v) h.1 h.2.2.1 rfl rfl hv (Int.le_refl _) h.tk
theorem TAB.i75 {u : RS} (h : TAB u) (v : Int32) (hv : v = 0 ∨ v = 1) : TAB (u.setI 75 v) := h.tbl (TBL.i75 u v) (fun γ hγ => (h.2.2.2.2.2.2.1 γ hγ).2) hv
theorem e_over {N : Nat} {u : RS} {x : Int32} (h : x = 0 ∨ x = 1) : f_X12_over N u x = some ((u.setI 75 x).setI 63 (u.i 63 - 1)) := by
  unfold f_X12_over
  rw [if_pos h]
/-- a list's head -/
def LH (t : Nat) (s w : RS) (ρ : Int32) : Prop := INV w ∧ tpI w = t ∧ KP t s w ∧ SAME s w ∧ RATE s w ∧ SNW s w ∧ fr s ≤ fr w ∧ tkI s ≤ tkI w ∧ (ρ = 0 ∨ ρ = 1) ∧ (¬ 0 ≤ w.i 18 → TS s (w.setI 75 ρ))
theorem e_list {N : Nat} {w : RS} {t : Nat} {ρ : Int32} (ht : tpI w = t) (h9 : t < 1000) (h : w.a 65 t = 0 ∧ ρ = 1 ∨ w.a 65 t = 1 ∧ ρ = w.i 75) (hr : ρ = 0 ∨ ρ = 1) : f_X12_list N w (w.i 63) = f_X12_list_37 N (w.setA 66 t ρ) (w.i 63) := by
  unfold f_X12_list
  rw [if_pos (tp_ib ht h9), tp_nat ht]
  rcases h with ⟨h1, h2⟩ | ⟨h1, h2⟩
  · rw [if_pos h1, h2]
  · rw [if_neg (by rw [h1]; decide)]
    rcases hr with hr | hr
    · rw [if_pos (by rw [← h2]; exact hr), hr]
    · rw [if_neg (by rw [← h2, hr]; decide), hr]
theorem PS.of {t : Nat} {s w : RS} {ρ : Int32} (h : LH t s w ρ) (h9 : t < 1000) : PS t s (((w.setA 66 t ρ).setI 75 ρ).setI 63 (w.i 63 - 1)) := by
  obtain ⟨a1, a2, a3, a4, a5, a6, a7, a8, a9, a10⟩ := h
  have tb : TBL w (((w.setA 66 t ρ).setI 75 ρ).setI 63 (w.i 63 - 1)) := ((TBL.loc w (k := 66) t ρ (by omega) (by omega)).tr (TBL.i75 _ ρ)).tr (TBL.i63 _ _)
  refine ⟨(((a1.loc (k := 66) t ρ (by omega) (by omega)).i75 ρ a9).i63 _), tp_sub a2 h9, (((a3.loc (k := 66) t ρ (by omega) (by omega) (Nat.le_refl _)).i75 ρ).i63 _), a4, a5, a6, a7, a8, fun z => ?_⟩
  exact (a10 z).tbs (TBL.rf s) (((TBL.i75 w ρ).sy.tr tb).tbs) rfl (Int.le_refl _) (by have := a1.1.f0; omega) (fun q => q)
theorem run_list {N : Nat} {b : Nat} (hs : RUNS N b) : RUNL N b := by
  intro n s t P hI hp ht hK hS hb hc hn hF hC
  have hf := hI.1.f0
  have hop := hI.op
  have h9 : t < 998 := by omega
  have head : ∀ (c m : Nat) (w : RS) (ρ : Int32), (900 - fr w).toNat = c → LH t s w ρ → w.a 64 t = 1 → (w.a 65 t = 0 ∧ ρ = 1 ∨ w.a 65 t = 1 ∧ ρ = w.i 75) → (n : Int) + 40 * fr s ≤ m + 40 * fr w → ok (f_X12_parse_10 N m w) P := by
    intro c
    induction c using Nat.strongRecOn with
    | ind c IH =>
      intro m w ρ hcw hw kw hρ hm
      have hw' := hw
      obtain ⟨a1, a2, a3, a4, a5, a6, a7, a8, a9, a10⟩ := hw'
      have fw := a1.1.f0
      obtain ⟨m', rfl⟩ : ∃ m', m = m' + 1 := ⟨m - 1, by omega⟩
      have push : ((m' + 1 : Nat) : Int) = (m' : Int) + 1 := by omega
      rw [push] at hm
      refine lp_1 a2 (by omega) a1.2.2.1 kw ?_
      rw [e_list a2 (by omega) hρ a9]
      unfold f_X12_list_37
      have ends : (w.i 10 = 125 ∨ w.i 10 = 429 ∨ w.i 10 = 430 ∨ w.i 10 = 0) → ok ((f_X12_list_73 N (w.setA 66 t ρ) (w.i 63)).bind fun p => f_X12_parse_10 N m' p) P := fun he => by
        have e : f_X12_list_73 N (w.setA 66 t ρ) (w.i 63) = some (((w.setA 66 t ρ).setI 75 ρ).setI 63 (w.i 63 - 1)) := by
          unfold f_X12_list_73
          rw [if_pos (tp_ib a2 (by omega)), tp_nat a2]
          have e66 : (w.setA 66 t ρ).a 66 t = ρ := setA_at
          rw [e66]
          rcases a9 with r | r
          · subst r
            rw [if_neg (by decide), e_over (Or.inl rfl)]
            rfl
          · subst r
            rw [if_pos rfl, e_over (Or.inr rfl)]
            rfl
        rw [e]
        exact hC m' _ (PS.of hw (by omega)) he (by show (n : Int) + 40 * fr s ≤ m' + 40 * fr w + 1; omega)
      by_cases c1 : w.i 10 = 125
      · rw [if_pos (show (w.setA 66 t ρ).i 10 = 125 from c1)]; exact ends (Or.inl c1)
      rw [if_neg (show ¬ (w.setA 66 t ρ).i 10 = 125 from c1)]
      by_cases c2 : w.i 10 = 429
      · rw [if_pos (show (w.setA 66 t ρ).i 10 = 429 from c2)]; exact ends (Or.inr (Or.inl c2))
      rw [if_neg (show ¬ (w.setA 66 t ρ).i 10 = 429 from c2)]
      by_cases c3 : w.i 10 = 430
      · rw [if_pos (show (w.setA 66 t ρ).i 10 = 430 from c3)]; exact ends (Or.inr (Or.inr (Or.inl c3)))
      rw [if_neg (show ¬ (w.setA 66 t ρ).i 10 = 430 from c3)]
      by_cases c4 : w.i 10 = 0
      · rw [if_pos (show (w.setA 66 t ρ).i 10 = 0 from c4)]; exact ends (Or.inr (Or.inr (Or.inr c4)))
      rw [if_neg (show ¬ (w.setA 66 t ρ).i 10 = 0 from c4)]
      rw [if_pos (tp_ib a2 (by omega)), tp_nat a2]
      have e66 : (w.setA 66 t ρ).a 66 t = ρ := setA_at
      rw [e66]
      have st : ∀ w2 : RS, TBL w w2 → INV w2 → tpI w2 = t → KP t w w2 → SAME w w2 → fr w2 = fr w → tkI w2 = tkI w → w2.i 10 = w.i 10 → w2.i 38 = w.i 38 → (∀ k : Nat, 64 ≤ k → k ≤ 73 → k ≠ 66 → w2.a k t = w.a k t) → (¬ 0 ≤ w2.i 18 → ρ = 1) → ok ((f_X12_list_110 N w2).bind fun p => f_X12_parse_10 N m' p) P := by
        intro w2 tb i2 t2 k2 s2 f2 tk2 i10 i38 l2 lt
        unfold f_X12_list_110
        rw [p_th 1 2 t2 (by omega)]
        show ok (f_X12_parse_10 N m' (TH w2 t 1 2)) P
        have ksw2 : KP t s w2 := a3.tr k2 (Nat.le_refl _)
        have sm2 : SAME s w2 := a4.tr s2
        have prl : PRL w2 := hp.kp ksw2 sm2.go
        have ow2 : op w2 = op s := sm2.eOp
        refine CALLS hs i2 ⟨prl.1, prl.2.p3⟩ t2 (by omega) (by omega) (by omega) (by omega) (fun u hu => hF u (FS'.kp ksw2 hu)) (fun m2 v hv hv1 hm2 => ?_)
        obtain ⟨v1, v2, v3, v4, v5, v6, v7, v8, v9, v10, v11⟩ := hv
        have fv := v1.1.f0
        have snw2 : SNW w w2 := SNW.eq i38 (by have := tb.sl; omega)
        refine IH (900 - fr v).toNat (by omega) m2 v (v.i 75) rfl ⟨v1, v2, ksw2.tr v3 (Nat.le_refl _), sm2.tr v4, (a5.tr (tb.rate (by omega) (by omega))).tr v5, (a6.tr snw2 a3 k2).tr v6 ksw2 v3, by omega, by omega, v1.r, fun z => ?_⟩ ((v11 64 (by omega) (by omega) (by omega)).trans ((l2 64 (by omega) (by omega) (by omega)).trans kw)) (Or.inr ⟨v10, rfl⟩) (by omega)
        have z1 : ¬ 0 ≤ v.i 18 := z
        have z2 : ¬ 0 ≤ w2.i 18 := fun q => z1 (v3.1.2 q)
        have z3 : ¬ 0 ≤ w.i 18 := fun q => z2 (k2.1.2 q)
        have hρ1 := lt z2
        have tA := a10 z3
        rw [hρ1] at tA
        have tb1 : TBL w2 (w.setI 75 1) := tb.sy.tr (TBL.i75 w 1)
        have tB : TS (w.setI 75 1) v := (v9 z1).tbs tb1 (TBL.rf v).tbs (s2.2.2.1).symm (by show fr w ≤ fr w2; omega) (by omega) id
        have kA : KP t s (w.setI 75 1) := a3.i75 1
        have kB : KP t (w.setI 75 1) v := (((KP.rf t (w.setI 75 1)).tbl tb1.sy (fun z => k2.1.2 z) (fun k k1 k2' j hj => k2.2.2.2.2.2.2.2.2.2.2 k k1 k2' j hj))).tr v3 (Nat.le_refl _)
        have sA : SAME s (w.setI 75 1) := a4
        have sB : SAME (w.setI 75 1) v := s2.tr v4
        have tS := TS.seq tA tB kA kB sA sB a6 hI.2.2.2.1 (a1.2.2.2.1.i75 1 (Or.inr rfl)) rfl a7 (by show fr w ≤ 900; omega)
        exact tS.tbs (TBL.rf s) (TBL.i75 v _).tbs rfl (Int.le_refl _) (by omega) (fun q => q)
      by_cases cr : ρ = 0
      · rw [if_pos cr, e_note]
        show ok ((f_X12_list_110 N (if w.i 15 = 0 ∧ ¬ 0 ≤ w.i 18 then (w.setA 66 t ρ).setI 18 (w.i 11) else w.setA 66 t ρ)).bind fun p => f_X12_parse_10 N m' p) P
        have kl : KP t w (w.setA 66 t ρ) := (KP.rf t w).loc (k := 66) t ρ (by omega) (by omega) (Nat.le_refl _)
        by_cases cl : w.i 15 = 0 ∧ ¬ 0 ≤ w.i 18
        · rw [if_pos cl]
          refine st _ ((TBL.loc w (k := 66) t ρ (by omega) (by omega)).tr (TBL.i18 _ _)) ((a1.loc (k := 66) t ρ (by omega) (by omega)).i18 _) a2 (kl.i18 _ a1.1.1) ⟨rfl, rfl, rfl, rfl⟩ rfl rfl rfl rfl (fun k k1 k2 k3 => congrFun (setA_nk k3) t) (fun z => absurd a1.1.1 z)
        · rw [if_neg cl]
          refine st _ (TBL.loc w (k := 66) t ρ (by omega) (by omega)) (a1.loc (k := 66) t ρ (by omega) (by omega)) a2 kl ⟨rfl, rfl, rfl, rfl⟩ rfl rfl rfl rfl (fun k k1 k2 k3 => congrFun (setA_nk k3) t) (fun z => absurd ⟨a1.2.2.1, z⟩ cl)
      · rw [if_neg cr]
        have r1 : ρ = 1 := by
          rcases a9 with r | r
          · exact absurd r cr
          · exact r
        refine st _ (TBL.loc w (k := 66) t ρ (by omega) (by omega)) (a1.loc (k := 66) t ρ (by omega) (by omega)) a2 ((KP.rf t w).loc (k := 66) t ρ (by omega) (by omega) (Nat.le_refl _)) ⟨rfl, rfl, rfl, rfl⟩ rfl rfl rfl rfl (fun k k1 k2 k3 => congrFun (setA_nk k3) t) (fun _ => r1)
  exact head _ n s 1 rfl ⟨hI, ht, KP.rf t s, ⟨rfl, rfl, rfl, rfl⟩, RATE.rf s, SNW.eq rfl (Int.le_refl _), Int.le_refl _, Int.le_refl _, Or.inr rfl, fun _ => TS.nil (TBL.i75 s 1) rfl⟩ hK (Or.inl ⟨hS, rfl⟩) (Int.le_refl _)
end
section
/-! reading: blocks; how a statement begins and ends -/
theorem TBS.i38 (u : RS) (v : Int32) : TBS u (u.setI 38 v) := ⟨⟨fun _ _ _ => rfl, rfl, fun _ _ h _ _ _ _ => if_neg h⟩, fun _ _ _ => rfl, rfl, rfl⟩
theorem TBS.tr {u v w : RS} (h1 : TBS u v) (h2 : TBS v w) : TBS u w := ⟨⟨fun k a b => (h2.1.1 k a b).trans (h1.1.1 k a b), h2.1.2.1.trans h1.1.2.1, fun j a b c d e f => (h2.1.2.2 j a b c d e f).trans (h1.1.2.2 j a b c d e f)⟩, fun k a b => (h2.2.1 k a b).trans (h1.2.1 k a b), h2.2.2.1.trans h1.2.2.1, h2.2.2.2.trans h1.2.2.2⟩
theorem KP.tbs {t : Nat} {s v W : RS} (h : KP t s v) (hw : TBS v W) (hse : seI s ≤ seI W) (h18 : 0 ≤ v.i 18 → 0 ≤ W.i 18) (hf : ∀ k : Nat, 64 ≤ k → k ≤ 73 → bel k t v W) : KP t s W := h.fin hw.1 hw.chn (by rw [hw.cd]; exact Int.le_refl _) (by rw [hw.go]; exact h.2.2.2.2.2.2.1.1) hse h18 (fun k _ => ⟨by rw [hw.2.1 21 (by omega) (by omega)], by rw [hw.2.1 22 (by omega) (by omega)], by rw [hw.2.1 23 (by omega) (by omega)]⟩) hf
theorem TAB.tbs {v W : RS} (h : TAB v) (hw : TBS v W) (hse : seI W ≤ seI v) (h52 : W.i 52 = v.i 52) (hr : W.i 75 = 0 ∨ W.i 75 = 1) : TAB W := h.fin hw.1 hw.chn (by rw [hw.cd]; exact Int.le_refl _) (by rw [hw.go]; exact Int.le_refl _) hse (fun γ hγ => by have e : deI W = deI v := by { unfold deI; rw [h52] }; rw [e]; exact (h.2.2.2.2.2.2.1 γ (by rw [hw.go] at hγ; exact hγ)).2) (fun w hw' => by rw [hw.go]; exact (h.2.2.2.2.2.2.2.2.1 w hw').2.2.2) hr
theorem NUM.ofS {t : Nat} {s u : RS} (h : NUM s) (hk : KP t s u) (ho : op s ≤ op u ∧ op u ≤ 20) (e43 : u.i 43 = s.i 43) (e52 : u.i 52 = s.i 52) (e56 : u.i 56 = s.i 56) (hn : SNW s u) (hr : RATE s u) (hf : fr s ≤ fr u) (htk : tkI s ≤ tkI u) : NUM u := by
  have g : goI u = goI s := by unfold goI; rw [e43]
  have d : deI u = deI s := by unfold deI; rw [e52]
  have w : waI u = waI s := by unfold waI; rw [e56]
  have k2 := hk.2.1.1
  have k3 := hk.2.2.1.1
  have k4 := hk.2.2.2.1.1
  have k5 := hk.2.2.2.2.1.1
  have k6 := hk.2.2.2.2.2.1.2.1
  have k7 := hk.2.2.2.2.2.1.1
  have k10 := hk.2.2.2.2.2.2.2.2.2.1.1
  have n1 := hn.1
  unfold RATE at hr
  unfold NUM at h ⊢
  rw [g, d, w]
  omega
theorem INV.mkS {t : Nat} {s u : RS} (h : INV s) (hk : KP t s u) (hl : LXI u) (h15 : u.i 15 = 0) (ht : TAB u) (hs : SAME s u) (hn : SNW s u) (hr : RATE s u) (hf : fr s ≤ fr u) (htk : tkI s ≤ tkI u) : INV u := ⟨hl, h.2.1.kp hk, h15, ht, h.2.2.2.2.ofS hk ⟨by rw [hs.eOp]; exact Int.le_refl _, by rw [hs.eOp]; exact h.op.2⟩ hs.2.1 hs.2.2.1 hs.2.2.2 hn hr hf htk⟩
theorem FS'.i75 {s u : RS} (h : FS' s u) (v : Int32) (hv : v = 0 ∨ v = 1) : FS' s (u.setI 75 v) := ⟨h.1, ⟨fun j hj => (if_neg (by omega)).trans (h.2.1.1 j hj), h.2.1.2⟩, hv⟩
theorem FS'.i38 {s u : RS} (h : FS' s u) (v : Int32) : FS' s (u.setI 38 v) := ⟨h.1, ⟨fun j hj => (if_neg (by omega)).trans (h.2.1.1 j hj), h.2.1.2⟩, h.2.2⟩
/-- a block's frame -/
def RUNB (N : Nat) (b : Nat) : Prop := ∀ (n : Nat) (s : RS) (t : Nat) (P : RS → Prop), INV s → PRL s → tpI s = t → s.a 64 t = 3 → s.a 65 t = 0 → 2 * (t : Int) ≤ fr s + 12 * op s + 2 → 900 - fr s ≤ b → 36000 + 29 ≤ (n : Int) + 40 * fr s → (∀ u, FS' s u → P u) → (∀ (m : Nat) (u : RS), PS t s u → fr s + 1 ≤ fr u → (n : Int) + 40 * fr s + 11 ≤ m + 40 * fr u → ok (f_X12_parse_10 N m u) P) → ok (f_X12_parse_10 N n s) P
theorem CALLB {N : Nat} {b : Nat} (hr : RUNB N b) {n : Nat} {u : RS} {t : Nat} {st : Int32} {P : RS → Prop} (hI : INV u) (hp : PRL u) (ht : tpI u = t) (h9 : t < 999) (hb : 2 * ((t : Int) + 1) ≤ fr u + 12 * op u + 2) (hc : 900 - fr u ≤ b) (hn : 36000 + 29 ≤ (n : Int) + 40 * fr u) (hF : ∀ w, FS' u w → P w) (hC : ∀ (m : Nat) (w : RS), PCS t st u w → fr u + 1 ≤ fr w → (n : Int) + 40 * fr u + 11 ≤ m + 40 * fr w → ok (f_X12_parse_10 N m w) P) : ok (f_X12_parse_10 N n (TH u t st 3)) P :=
  hr n (TH u t st 3) (t + 1) P hI.th (hp.tbl (TH.tbl u t st 3)) (TH.tp ht (by omega)) TH.fk TH.fs (by show 2 * (((t + 1 : Nat)) : Int) ≤ fr u + 12 * op u + 2; omega) hc hn (fun w hw => hF w hw.pre) (fun m w hw hm hm2 => hC m w (PCS.of hI.1.f0.2 hw) hm hm2)
theorem e_blk0 {N : Nat} {s : RS} {t : Nat} (ht : tpI s = t) (h9 : t < 1000) (h0 : s.a 65 t = 0) : f_X12_block N s (s.i 63) = (f_X12_open N s 123).bind fun p5 => (f_X12_then N (RS.setA p5.2 66 t (p5.2.i 38)) 1 1).bind fun p7 => some p7 := by
  unfold f_X12_block
  rw [if_pos (tp_ib ht h9), tp_nat ht, if_pos h0]
theorem e_blk1 {N : Nat} {s : RS} {t : Nat} (ht : tpI s = t) (h9 : t < 1000) (h0 : s.a 65 t = 1) : f_X12_block N s (s.i 63) = (f_X12_shut N s 125).bind fun p3 => some (RS.setI (RS.setI p3.2 38 (p3.2.a 66 t)) 63 ((p3.2.i 63) - 1)) := by
  unfold f_X12_block
  rw [if_pos (tp_ib ht h9), tp_nat ht, if_neg (by rw [h0]; decide)]
theorem run_block {N b : Nat} (hN : 1000 ≤ N) (hl : 1 ≤ b → RUNL N (b - 1)) : RUNB N b := by
  intro n s t P hI hp ht hK hS hb hc hn hF hC
  have hf := hI.1.f0
  have hop := hI.op
  have h9 : t < 998 := by omega
  obtain ⟨n', rfl⟩ : ∃ n', n = n' + 1 := ⟨n - 1, by omega⟩
  have push : ((n' + 1 : Nat) : Int) = (n' : Int) + 1 := by omega
  rw [push] at hn hC
  have n1 : 1 ≤ n' := by omega
  refine lp_3 ht (by omega) hI.2.2.1 hK ?_
  rw [e_blk0 ht (by omega) hS]
  obtain ⟨p, ep, hp2⟩ := OPO (t := t) hN hI 123 (by decide)
  rw [ep]
  show ok (((f_X12_then N (p.2.setA 66 t (p.2.i 38)) 1 1).bind fun p => some p).bind fun p => f_X12_parse_10 N n' p) P
  rcases hp2 with ⟨p1, p2, p3⟩ | ⟨p1, p2, p3, r1, r2, r3, r4, r5, r6, r7, r8, r9, r10, r11⟩
  · rw [p_th 1 1 (u := p.2.setA 66 t (p.2.i 38)) (p2.tp.trans ht) (by omega)]
    exact lp_f (u := TH (p.2.setA 66 t (p.2.i 38)) t 1 1) p1 (hF _ (FS'.th ((FS'.of (K1.rf s) p2 p1 hI.r).loc t _ (by omega) (by omega)))) n1
  · have iu : INV (p.2.setA 66 t (p.2.i 38)) := r1.loc t _ (by omega) (by omega)
    have ku : KP t s (p.2.setA 66 t (p.2.i 38)) := r3.loc t _ (by omega) (by omega) (Nat.le_refl _)
    have tu : TBL s (p.2.setA 66 t (p.2.i 38)) := r4.tr (TBL.loc _ t _ (by omega) (by omega))
    have fu : fr (p.2.setA 66 t (p.2.i 38)) = fr p.2 := rfl
    have ou : op (p.2.setA 66 t (p.2.i 38)) = op p.2 := rfl
    have tku : tkI (p.2.setA 66 t (p.2.i 38)) = tkI p.2 := rfl
    rw [p_th 1 1 (u := p.2.setA 66 t (p.2.i 38)) (r2.trans ht) (by omega)]
    show ok (f_X12_parse_10 N n' (TH (p.2.setA 66 t (p.2.i 38)) t 1 1)) P
    have rf := r1.1.f0
    refine CALLL (hl (by omega)) iu (hp.tbl tu) (r2.trans ht) (by omega) (by omega) (by omega) (by omega) (fun u hu => hF u (FS'.kp ku hu)) (fun m2 v hv hv2 hm2 => ?_)
    obtain ⟨v1, v2, v3, v4, v5, v6, v7, v8, v9, v10, v11⟩ := hv
    have fv := v1.1.f0
    obtain ⟨m3, rfl⟩ : ∃ m3, m2 = m3 + 1 := ⟨m2 - 1, by omega⟩
    refine lp_3 v2 (by omega) v1.2.2.1 ?_ ?_
    · rw [v11 64 (by omega) (by omega) (by omega)]
      show (p.2.setA 66 t (p.2.i 38)).a 64 t = 3
      rw [setA_nk (by decide), r10]; exact hK
    rw [e_blk1 v2 (by omega) v10]
    obtain ⟨w, ew, x1, x2⟩ := SHO hN v1 125 (by decide)
    rw [ew]
    show ok (f_X12_parse_10 N m3 ((w.2.setI 38 (w.2.a 66 t)).setI 63 (w.2.i 63 - 1))) P
    have ksv := ku.tr v3 (Nat.le_refl _)
    rcases x2 with x2 | ⟨x2, x3, x4, x5, x6⟩
    · exact lp_f (u := (w.2.setI 38 (w.2.a 66 t)).setI 63 (w.2.i 63 - 1)) x2 (hF _ (((FS'.of ksv.1.1 x1 x2 v1.r).i38 _).i63 _)) (by omega)
    · have e66 : w.2.a 66 t = s.i 38 := by
        rw [x1.1, v11 66 (by omega) (by omega) (by omega)]
        show (p.2.setA 66 t (p.2.i 38)).a 66 t = s.i 38
        rw [setA_at]; exact r11.i38
      rw [e66]
      have ses : seI ((w.2.setI 38 (s.i 38)).setI 63 (w.2.i 63 - 1)) = seI s := rfl
      have sew : seI s ≤ seI w.2 := by have := ksv.2.2.2.2.2.1.1; have := x1.tbl.se; omega
      have tw : TBS w.2 ((w.2.setI 38 (s.i 38)).setI 63 (w.2.i 63 - 1)) := (TBS.i38 _ _).tr (TBL.i63 _ _).tbs
      have ksw := ksv.lx x1
      have kW : KP t s ((w.2.setI 38 (s.i 38)).setI 63 (w.2.i 63 - 1)) := ksw.tbs tw (Int.le_refl _) id (fun _ _ _ _ _ => rfl)
      have tW : TAB ((w.2.setI 38 (s.i 38)).setI 63 (w.2.i 63 - 1)) := (v1.2.2.2.1.lx x1).tbs tw (by rw [ses]; exact sew) rfl (by show w.2.i 75 = 0 ∨ w.2.i 75 = 1; rw [x1.2.2.1 75 (by omega) (by omega)]; exact v1.r)
      have e19 : w.2.i 19 = s.i 19 := by
        rw [x4, v4.1]
        show (p.2.i 19) - 1 = _
        rw [r5, Int32.add_sub_cancel]
      have e43 : w.2.i 43 = s.i 43 := (x1.2.2.1 43 (by omega) (by omega)).trans (v4.2.1.trans (r4.2.2 43 (by omega) (by omega) (by omega) (by omega)))
      have e52 : w.2.i 52 = s.i 52 := (x1.2.2.1 52 (by omega) (by omega)).trans (v4.2.2.1.trans r7)
      have e56 : w.2.i 56 = s.i 56 := (x1.2.2.1 56 (by omega) (by omega)).trans (v4.2.2.2.trans (r4.2.2 56 (by omega) (by omega) (by omega) (by omega)))
      have sm : SAME s ((w.2.setI 38 (s.i 38)).setI 63 (w.2.i 63 - 1)) := ⟨e19, e43, e52, e56⟩
      have rt : RATE s w.2 := ((tu.rate (by omega) (by omega)).tr v5).tr (x1.tbl.rate (by omega) (by omega))
      have sn : SNW s ((w.2.setI 38 (s.i 38)).setI 63 (w.2.i 63 - 1)) := SNW.eq rfl kW.2.2.2.2.2.1.2.1
      have tpw : tpI w.2 = t := x1.tp.trans v2
      refine hC m3 _ ⟨hI.mkS kW x1.2.2.2.1 x2 tW sm sn rt (by show fr s ≤ fr w.2; omega) (by show tkI s ≤ tkI w.2; omega), tp_sub tpw (by omega), kW, sm, rt, sn, by show fr s ≤ fr w.2; omega, by show tkI s ≤ tkI w.2; omega, fun z => ?_⟩ (by show fr s + 1 ≤ fr w.2; omega) (by show (n' : Int) + 1 + 40 * fr s + 11 ≤ m3 + 40 * fr w.2; omega)
      have z1 : ¬ 0 ≤ v.i 18 := fun q => z (by show 0 ≤ w.2.i 18; rw [x1.2.2.1 18 (by omega) (by omega)]; exact q)
      exact (v9 z1).tbs tu.sy (x1.tbl.tbs.tr tw) r7.symm (by omega) (by omega) (fun q => by show w.2.i 75 = 1; rw [x1.2.2.1 75 (by omega) (by omega)]; exact q)
def SK (s : RS) (t : Nat) (K : Int32) : RS := EM ((s.setI 53 (s.i 53 + 1)).setA 64 t K) 1 0
/-- a statement's frame behind its first step -/
def RUNK (N b : Nat) (K : Int32) (T : Int32 → Prop) : Prop := ∀ (n : Nat) (s : RS) (t : Nat) (P : RS → Prop), INV s → PRS s → tpI s = t → s.a 65 t = 0 → T (s.i 10) → 2 * (t : Int) ≤ fr s + 12 * op s + 2 → 900 - fr s ≤ b → 36000 + 29 ≤ (n : Int) + 40 * fr s → (∀ u, FS' s u → P u) → (∀ (m : Nat) (u : RS), PS t s u → fr s + 1 ≤ fr u → (n : Int) + 40 * fr s + 11 ≤ m + 40 * fr u → ok (f_X12_parse_10 N m u) P) → ok (f_X12_parse_10 N n (SK s t K)) P
/-- the step is laid, its word is read -/
def MK (t : Nat) (K : Int32) (s R : RS) : Prop := INV R ∧ tpI R = t ∧ KP t s R ∧ SAME s R ∧ R.i 38 = s.i 38 ∧ RATE s R ∧ fr s + 1 ≤ fr R ∧ tkI R = tkI s + 1 ∧ cdI R = cdI s + 1 ∧ R.a 21 (cdI s).toNat = 1 ∧ R.a 64 t = K ∧ R.a 65 t = 0 ∧ (410 ≤ s.i 10 → fr s + 2 ≤ fr R) ∧ (∀ k : Nat, k ≠ 21 → k ≠ 22 → k ≠ 23 → k ≠ 64 → R.a k = s.a k)
theorem SK.a {s : RS} {t : Nat} {K : Int32} {k : Nat} (h1 : k ≠ 21) (h2 : k ≠ 22) (h3 : k ≠ 23) (h4 : k ≠ 64) : (SK s t K).a k = s.a k := (EM.a h1 h2 h3).trans (if_neg h4)
theorem SK.a64 {s : RS} {t : Nat} {K : Int32} : (SK s t K).a 64 t = K := by
  show (EM ((s.setI 53 (s.i 53 + 1)).setA 64 t K) 1 0).a 64 t = K
  rw [EM.a (by decide) (by decide) (by decide)]
  exact setA_at
theorem SK.kp {s : RS} {t : Nat} {K : Int32} (h : INV s) : KP t s (SK s t K) := by
  have c := h.cd
  exact (((KP.rf t s).i53 _).loc (k := 64) t K (by omega) (by omega) (Nat.le_refl _)).em c.1 c.2.2
theorem SK.tab {s : RS} {t : Nat} {K : Int32} (h : INV s) : TAB (SK s t K) := by
  have c := h.cd
  have i1 : INV (s.setI 53 (s.i 53 + 1)) := h.tbl (TBL.i53 s _) h.1 h.2.2.1 rfl rfl h.r (Int.le_refl _) h.tk
  exact (i1.loc (k := 64) t K (by omega) (by omega)).2.2.2.1.em c.1 c.2.2
theorem START {N : Nat} (hN : 1000 ≤ N) {s : RS} {t : Nat} (K : Int32) (hI : INV s) (ht : tpI s = t) (hS : s.a 65 t = 0) (hz : ¬ s.i 10 = 0) : ∃ R, f_X12_next N (SK s t K) = some R ∧ MK t K s R ∧ LX (SK s t K) R := by
  have cs := hI.cd
  obtain ⟨R, eR, x1, x2, x3, x4⟩ := p_nx hN (show LXI (SK s t K) from hI.1)
  obtain ⟨r15, rc⟩ := x4 hI.2.2.1
  obtain ⟨c1, c2, c3⟩ := rc hz
  have c2 : fr s + 1 ≤ fr R := c2
  have hf := hI.1.f0
  have n12 := hI.tk
  have tk : tkI R = tkI s + 1 := tk_add (u := s) c1 ⟨n12.1, by omega⟩
  have kR : KP t s R := (SK.kp hI).lx x1
  have tR : TAB R := (SK.tab hI).lx x1
  have e := x1.tbl
  have ecd : cdI R = cdI s + 1 := e.cd.trans (EM.cd (u := (s.setI 53 (s.i 53 + 1)).setA 64 t K) cs.1 cs.2.2)
  have a21 : R.a 21 (cdI s).toNat = 1 := by
    rw [x1.1]
    show (EM ((s.setI 53 (s.i 53 + 1)).setA 64 t K) 1 0).a 21 (cdI s).toNat = 1
    rw [EM.a21]
    exact if_pos rfl
  have rt : RATE s R := by
    have e2 : enI R = enI s := e.en
    have e3 : trI R = trI s := e.tt
    have e4 : caI R = caI s := e.ca
    have e5 : slI R = slI s := e.sl
    have e6 : peI R = peI s := e.pe
    unfold RATE
    omega
  have ss : SAME s R := x1.same x2
  have e38 : R.i 38 = s.i 38 := x1.i38
  have h20 := hI.op
  refine ⟨R, eR, ⟨hI.mkS kR x1.2.2.2.1 r15 tR ss (SNW.eq e38 kR.2.2.2.2.2.1.2.1) rt (by omega) (by omega), x1.tp.trans ht, kR, ss, e38, rt, c2, tk, ecd, a21, by rw [x1.1]; exact SK.a64, by rw [x1.1, SK.a (by decide) (by decide) (by decide) (by decide)]; exact hS, fun q => c3 (Or.inl q), fun k h1 h2 h3 h4 => by rw [x1.1]; exact SK.a h1 h2 h3 h4⟩, x1⟩
/-- before the last sign of a statement -/
def RAT1 (s u : RS) : Prop := cdI u - cdI s ≤ 3 * (fr u + 1 - fr s) ∧ 2 * (enI u - enI s) ≤ fr u + 1 - fr s ∧ 6 * (trI u - trI s) ≤ fr u + 1 - fr s ∧ 3 * (caI u - caI s) ≤ fr u + 1 - fr s ∧ 2 * (slI u - slI s) ≤ fr u + 1 - fr s ∧ 3 * (peI u - peI s) ≤ fr u + 1 - fr s ∧ tkI u - tkI s ≤ fr u - fr s
def MID (t : Nat) (s u : RS) (x : Int32) : Prop := LXI u ∧ u.i 15 = 0 ∧ TAB u ∧ tpI u = t ∧ KP t s u ∧ SAME s u ∧ SNW s u ∧ RAT1 s u ∧ fr s ≤ fr u ∧ tkI s ≤ tkI u ∧ (¬ 0 ≤ u.i 18 → TS s (u.setI 75 x))
theorem END {N : Nat} (hN : 1000 ≤ N) {t m : Nat} {s u : RS} {P : RS → Prop} {x : Int32} (h9 : t < 1000) (hI : INV s) (hx : x = 0 ∨ x = 1) (hm1 : 1 ≤ m) (h : MID t s u x) (hF : ∀ u, FS' s u → P u) (hC : ∀ W, PS t s W → fr u + 1 ≤ fr W → ok (f_X12_parse_10 N m W) P) : ok (((f_X12_need N u 59).bind fun p => (f_X12_over N p.2 x).bind fun p => some p).bind fun p => f_X12_parse_10 N m p) P := by
  obtain ⟨a1, a2, a3, a4, a5, a6, a7, a8, a9, a10, a11⟩ := h
  obtain ⟨p, ep, x1, x2, x3, x4⟩ := p_nd hN a1 59 (by decide)
  rw [ep]
  show ok (((f_X12_over N p.2 x).bind fun p => some p).bind fun p => f_X12_parse_10 N m p) P
  rw [e_over hx]
  show ok (f_X12_parse_10 N m ((p.2.setI 75 x).setI 63 (p.2.i 63 - 1))) P
  have u75 := a3.2.2.2.2.2.2.2.2.2
  rcases x3 with ⟨-, x3⟩ | ⟨-, x3⟩
  · exact lp_f (u := (p.2.setI 75 x).setI 63 (p.2.i 63 - 1)) x3 (hF _ (((FS'.of a5.1.1 x1 x3 u75).i75 x hx).i63 _)) hm1
  · obtain ⟨y1, y2, y3, y4⟩ := x4 x3
    have ts := hI.tk
    have hf := hI.1.f0
    have uf := a1.f0
    have tku : tkI u ≤ fr u + 1 := by unfold RAT1 at a8; omega
    have tk : tkI p.2 = tkI u + 1 := tk_add y2 ⟨by omega, by omega⟩
    have tb : TBL u ((p.2.setI 75 x).setI 63 (p.2.i 63 - 1)) := (x1.tbl.tr (TBL.i75 _ _)).tr (TBL.i63 _ _)
    have kW : KP t s ((p.2.setI 75 x).setI 63 (p.2.i 63 - 1)) := ((a5.lx x1).i75 x).i63 _
    have tW : TAB ((p.2.setI 75 x).setI 63 (p.2.i 63 - 1)) := (a3.lx x1).tbl ((TBL.i75 _ _).tr (TBL.i63 _ _)) (fun γ hγ => ((a3.lx x1).2.2.2.2.2.2.1 γ hγ).2) hx
    have sm : SAME s ((p.2.setI 75 x).setI 63 (p.2.i 63 - 1)) := a6.tr (x1.same x2)
    have e38 : ((p.2.setI 75 x).setI 63 (p.2.i 63 - 1)).i 38 = u.i 38 := x1.i38
    have sn : SNW s ((p.2.setI 75 x).setI 63 (p.2.i 63 - 1)) := by
      have e1 : seI ((p.2.setI 75 x).setI 63 (p.2.i 63 - 1)) = seI u := by unfold seI; rw [e38]
      have e2 := tb.sl
      refine ⟨by have := a7.1; omega, fun y y1 y2 => ?_⟩
      rw [tb.g (by decide)]
      exact a7.2 y y1 (by omega)
    have rt : RATE s ((p.2.setI 75 x).setI 63 (p.2.i 63 - 1)) := by
      have e1 := tb.cd
      have e2 := tb.en
      have e3 := tb.tt
      have e4 := tb.ca
      have e5 := tb.sl
      have e6 := tb.pe
      have e7 : fr ((p.2.setI 75 x).setI 63 (p.2.i 63 - 1)) = fr p.2 := rfl
      have e8 : tkI ((p.2.setI 75 x).setI 63 (p.2.i 63 - 1)) = tkI p.2 := rfl
      unfold RAT1 at a8
      unfold RATE
      rw [e1, e2, e3, e4, e5, e6, e7, e8]
      omega
    have tpw : tpI p.2 = t := x1.tp.trans a4
    refine hC _ ⟨hI.mkS kW x1.2.2.2.1 x3 tW sm sn rt (by show fr s ≤ fr p.2; omega) (by show tkI s ≤ tkI p.2; omega), tp_sub tpw h9, kW, sm, rt, sn, by show fr s ≤ fr p.2; omega, by show tkI s ≤ tkI p.2; omega, fun z => ?_⟩ y3
    have z1 : ¬ 0 ≤ u.i 18 := fun q => z (by show 0 ≤ p.2.i 18; rw [x1.2.2.1 18 (by omega) (by omega)]; exact q)
    exact (a11 z1).tbs (TBL.rf s) ((TBL.i75 u x).sy.tr tb).tbs rfl (Int.le_refl _) (by omega) (fun q => q)
/-- the step before a statement's code -/
theorem COD.step {s W f : RS} {C : Nat → Bool} {h o v v' : Nat} {rs : List Rec} {E : Gh → Prop} (hA : AG0 s W f) (hx : CX s h o v rs) (h0 : 0 ≤ cdI s) (hc : cdI s + 1 ≤ cdI W) (e21 : W.a 21 (cdI s).toNat = 1) (hr : ∀ g : Gh, g.isC = C → E g → ∀ k : Nat, (k : Int) < cdI W → recsOK f g k v rs) (rest : COD f C (cdI s + 1) h o v' rs E) : COD f C (cdI s) h o v rs E := by
  have ek : ((cdI s).toNat : Int) = cdI s := Int.toNat_of_nonneg h0
  obtain ⟨g1, g2, g3, g4⟩ := hA.cell (k := (cdI s).toNat) (by omega) (by omega) e21 rfl (by decide)
  have c := CODS.ins (E := fun g => E g ∧ FL f g v' (cdI s + 1) (cdI s + 1) h o rs) (C := C) hx g4 (fun g hg hE => ⟨okJ_1 (c := (h, o, v, false, rs)) g1 (by rw [ek]; exact hE.2.fs), hr g hg hE.1 _ (by omega)⟩)
  rw [ek] at c
  exact COD.seq c.cod rest (fun g _ hE => hE) (fun g _ hE hF => ⟨hE, hF⟩)
end
section
/-! reading: small statements -/
theorem NDO {N : Nat} (hN : 1000 ≤ N) {u : RS} (hI : INV u) (x : Int32) (hx : ¬ x = 0) : ∃ p, f_X12_need N u x = some p ∧ LX u p.2 ∧ (¬ p.2.i 15 = 0 ∨ p.2.i 15 = 0 ∧ u.i 10 = x ∧ INV p.2 ∧ p.2.i 19 = u.i 19 ∧ fr u + 1 ≤ fr p.2 ∧ tkI p.2 = tkI u + 1) := by
  obtain ⟨p, ep, h1, h2, h3, h4⟩ := p_nd hN hI.1 x hx
  refine ⟨p, ep, h1, ?_⟩
  rcases h3 with ⟨a, b⟩ | ⟨a, b⟩
  · exact Or.inl b
  · obtain ⟨c1, c2, c3, c4⟩ := h4 b
    have n := hI.tk
    have hf := hI.1.f0
    have tk := tk_add c2 ⟨n.1, by omega⟩
    exact Or.inr ⟨b, c1, hI.tbl h1.tbl h1.2.2.2.1 b h2 (h1.2.2.1 52 (by omega) (by omega)) (by rw [h1.2.2.1 75 (by omega) (by omega)]; exact hI.r) (by omega) ⟨by omega, by omega⟩, h2, c3, tk⟩
theorem TBL.b74 (u : RS) (j : Nat) (v : Int64) : TBL u (u.setB 74 j v) := ⟨fun _ _ => rfl, rfl, fun _ _ _ _ _ => rfl⟩
theorem TBL.i54 (u : RS) (v : Int32) : TBL u (u.setI 54 v) := ⟨fun _ _ => rfl, rfl, fun _ _ _ _ _ => if_neg (by omega)⟩
theorem TLG {N : Nat} (hN : 1000 ≤ N) {R : RS} {t : Nat} (hI : INV R) {x1 : Int32} (hx : ib x1 1000) : ∃ p, f_X12_telling N R x1 = some p ∧ (p.1 = 0 ∧ ¬ p.2.i 15 = 0 ∧ LX R p.2 ∨ p.1 = 1 ∧ INV p.2 ∧ tpI p.2 = tpI R ∧ KP t R p.2 ∧ TBL R p.2 ∧ SAME R p.2 ∧ fr R + 1 ≤ fr p.2 ∧ tkI p.2 = tkI R + 1 ∧ p.2.a = R.a) := by
  unfold f_X12_telling
  by_cases c : R.i 10 = 2
  · rw [if_pos c, can1 hI.2.2.1 (by rw [c]; decide)]
    have nse := hI.2.2.2.2.2.2.2.2.2.1
    have nsl := hI.2.2.2.2.2.2.2.2.2.2.1
    have hf := hI.1.f0
    obtain ⟨⟨p1, p2⟩, ep, e2, e3⟩ := p_sa hN R.l nse.1 (by omega)
    have e2 : p2 = R := e2
    subst e2
    show ∃ p, (if (1 : Int32) = 0 then f_X12_telling_20 N p2 else f_X12_telling_22 N p2 x1) = some p ∧ _
    rw [if_neg (by decide)]
    unfold f_X12_telling_22
    rw [ep]
    show ∃ p, (if p1 < 0 then (if ib x1 1000 then (f_X12_next N (RS.setB (RS.setI p2 54 ((p2.i 54) + 1)) 74 ((x1 : Int32).toNatClampNeg) p2.l)).bind fun p9 => some (1, p9) else none) else (f_X12_fail N p2 4 (p2.i 11)).bind fun p11 => some (0, p11)) = some p ∧ _
    by_cases cn : p1 < 0
    · rw [if_pos cn, if_pos hx]
      have i2 : INV (RS.setB (RS.setI p2 54 ((p2.i 54) + 1)) 74 ((x1 : Int32).toNatClampNeg) p2.l) := hI.tbl ((TBL.i54 p2 _).tr (TBL.b74 _ _ _)) hI.1 hI.2.2.1 rfl rfl hI.r (Int.le_refl _) hI.tk
      obtain ⟨S, eS, x1', x2, x3, x4, x5, x6, x7⟩ := NX hN i2 (show ¬ p2.i 10 = 0 by rw [c]; decide)
      rw [eS]
      refine ⟨(1, S), rfl, Or.inr ⟨rfl, x4, x1'.tp, ?_, ((TBL.i54 p2 _).tr (TBL.b74 _ _ _)).tr x1'.tbl, x1'.same x3, x5, x6, x1'.1⟩⟩
      exact (((KP.rf t p2).i54 _).ext (w := RS.setB (RS.setI p2 54 ((p2.i 54) + 1)) 74 ((x1 : Int32).toNatClampNeg) p2.l) rfl rfl id (fun _ _ _ _ _ => rfl)).lx x1'
    · rw [if_neg cn]
      obtain ⟨S, eS, r1, r2, r3⟩ := p_fl (N := N) hI.1 4 (p2.i 11) (by decide)
      rw [eS]
      exact ⟨(0, S), rfl, Or.inl ⟨rfl, r2, r1⟩⟩
  · rw [if_neg c]
    obtain ⟨S, eS, h1, h2⟩ := can0 (N := N) hI.1 hI.2.2.1
    rw [eS]
    exact ⟨(0, S), rfl, Or.inl ⟨rfl, h2, h1⟩⟩
def SE (u : RS) (n : Int64) (c : Int32) : RS := RS.setI (RS.setI (RS.setA (RS.setA (RS.setB u 39 ((u.i 38).toNatClampNeg) n) 40 ((u.i 38).toNatClampNeg) (u.i 42)) 41 ((u.i 38).toNatClampNeg) c) 38 ((u.i 38) + 1)) 42 ((u.i 42) + 1)
theorem nar0 : vp_nar .boolean 0 = 0 := rfl
theorem nar1 : vp_nar .boolean 1 = 1 := rfl
theorem p_se {N : Nat} {u : RS} (n : Int64) {c : Int32} (hc : c = 0 ∨ c = 1) (h0 : 0 ≤ seI u) (h4 : seI u < 460) : f_X12_see N u n c = some (u.i 42, SE u n c) := by
  unfold f_X12_see
  rw [if_pos (show ib (u.i 38) 460 from ⟨h0, h4⟩), Int32.add_sub_cancel]
  rcases hc with rfl | rfl
  · rw [nar0]; rfl
  · rw [nar1]; rfl
theorem SE.eI {u : RS} {n : Int64} {c : Int32} {j : Nat} (h1 : j ≠ 38) (h2 : j ≠ 42) : (SE u n c).i j = u.i j := (if_neg h2).trans (if_neg h1)
theorem SE.eA {u : RS} {n : Int64} {c : Int32} {k : Nat} (h1 : k ≠ 40) (h2 : k ≠ 41) : (SE u n c).a k = u.a k := (if_neg h2).trans (if_neg h1)
theorem SE.lo {u : RS} {n : Int64} {c : Int32} {k j : Nat} (hj : j ≠ (u.i 38).toNatClampNeg) : (SE u n c).a k j = u.a k j := (setA_ne hj).trans (setA_ne hj)
theorem SE.a41 {u : RS} {n : Int64} {c : Int32} : (SE u n c).a 41 (u.i 38).toNatClampNeg = c := setA_at
theorem SE.a40 {u : RS} {n : Int64} {c : Int32} : (SE u n c).a 40 (u.i 38).toNatClampNeg = u.i 42 := (congrFun (setA_nk (by decide)) _).trans setA_at
theorem SE.eSE {u : RS} {n : Int64} {c : Int32} (h0 : 0 ≤ seI u) (h4 : seI u < 460) : seI (SE u n c) = seI u + 1 := by
  have e1 : (1 : Int32).toInt = 1 := by decide
  have h0 : 0 ≤ (u.i 38).toInt := h0
  have h4 : (u.i 38).toInt < 460 := h4
  show (u.i 38 + 1).toInt = (u.i 38).toInt + 1
  rw [toInt_add] <;> rw [e1] <;> omega
theorem SE.eSL {u : RS} {n : Int64} {c : Int32} (h0 : 0 ≤ slI u) (h4 : slI u < 460) : slI (SE u n c) = slI u + 1 := by
  have e1 : (1 : Int32).toInt = 1 := by decide
  have h0 : 0 ≤ (u.i 42).toInt := h0
  have h4 : (u.i 42).toInt < 460 := h4
  show (u.i 42 + 1).toInt = (u.i 42).toInt + 1
  rw [toInt_add] <;> rw [e1] <;> omega
theorem seN {u : RS} (h : 0 ≤ seI u) : (((u.i 38).toNatClampNeg : Nat) : Int) = seI u := Int.toNat_of_nonneg h
theorem KP.se {t : Nat} {s u : RS} {n : Int64} {c : Int32} (h : KP t s u) (h0 : 0 ≤ seI s) (h4 : seI u < 460) (g0 : 0 ≤ slI u) (g4 : slI u < 460) : KP t s (SE u n c) := by
  obtain ⟨⟨a1, a1'⟩, a2, a3, a4, a5, a6, a7, a8, a9, a10, a11⟩ := h
  have q := a6.1
  have e1 := SE.eSE (u := u) (n := n) (c := c) (by omega) h4
  have e2 := SE.eSL (u := u) (n := n) (c := c) g0 g4
  have nn := seN (u := u) (by omega)
  refine ⟨⟨⟨fun j hj => (SE.eI (by omega) (by omega)).trans (a1.1 j hj), fun k hk => (SE.eA (by omega) (by omega)).trans (a1.2.1 k hk), a1.2.2⟩, a1'⟩, a2, a3, a4, ⟨a5.1, a5.2.1, a5.2.2.1, a5.2.2.2.1, a5.2.2.2.2.1, fun j h1 h2 => ?_⟩, ⟨by omega, by have := a6.2.1; omega, fun j hj => (SE.lo (by omega)).trans (a6.2.2.1 j hj), fun j hj => (SE.lo (by omega)).trans (a6.2.2.2 j hj)⟩, a7, fun γ b L x1 x2 x3 => ?_, a9, a10, fun k k1 k2 j hj => (congrFun (SE.eA (by omega) (by omega)) j).trans (a11 k k1 k2 j hj)⟩
  · have := a5.2.2.2.2.2 j h1 h2
    rw [e2]
    exact ⟨this.1, by have := this.2; show gv u 36 j < slI u + 1; omega⟩
  · obtain ⟨L1, c1, c2⟩ := a8 γ b L x1 x2 x3
    refine ⟨L1, ?_, c2⟩
    cases b
    · exact c1.of (fun y _ => ⟨rfl, rfl⟩)
    · exact c1.of (fun y _ => ⟨rfl, rfl⟩)
theorem TAB.se0 {u : RS} {n : Int64} (h : TAB u) (h0 : 0 ≤ seI u) (h4 : seI u < 460) (g0 : 0 ≤ slI u) (g4 : slI u < 460) : TAB (SE u n 0) := by
  obtain ⟨⟨a0, b1, b2, b3, b4⟩, a1, a2, a3, a4, a5, a6, a7, a8, a9⟩ := h
  have e1 := SE.eSE (u := u) (n := n) (c := 0) h0 h4
  have e2 := SE.eSL (u := u) (n := n) (c := 0) g0 g4
  have nn := seN h0
  have is : ∀ (γ : Nat) (b : Bool) (L : List Nat), ISCH u (hd u b γ) L → ISCH (SE u n 0) (hd (SE u n 0) b γ) L := fun γ b L hI => by
    cases b
    · exact hI.of (fun y _ => ⟨rfl, rfl⟩)
    · exact hI.of (fun y _ => ⟨rfl, rfl⟩)
  refine ⟨⟨fun γ b hγ => ?_, DJ.of a0 b1 (Int.le_refl _) (fun γ b L _ h1 _ => is γ b L h1), b2, b3, b4⟩, a1, a2, a3, fun x hx => ?_, fun j hj => ?_, a6, a7, a8, a9⟩
  · obtain ⟨L, l1, l2⟩ := a0 γ b hγ
    exact ⟨L, is γ b L l1, l2⟩
  · rw [e2]
    by_cases c : x = (u.i 38).toNatClampNeg
    · subst c
      have e40 : gv (SE u n 0) 40 (u.i 38).toNatClampNeg = slI u := by unfold gv; rw [SE.a40]; rfl
      rw [e40, SE.a41]
      refine ⟨g0, by omega, ⟨fun ⟨j, j1, j2⟩ => ?_, fun q => absurd rfl q⟩⟩
      have := (a5 j j1).2
      have j2 : gv u 36 j = slI u := j2
      omega
    · have := a4 x (by rw [e1] at hx; omega)
      have e40 : gv (SE u n 0) 40 x = gv u 40 x := by unfold gv; rw [SE.lo c]
      rw [e40, SE.lo c]
      exact ⟨this.1, by omega, this.2.2⟩
  · have := a5 j hj
    rw [e2]
    exact ⟨this.1, by have := this.2; show gv u 36 j < slI u + 1; omega⟩
theorem SNW.se {s u : RS} {n : Int64} {c : Int32} (h : SNW s u) (h0 : 0 ≤ seI u) (h4 : seI u < 460) (g0 : 0 ≤ slI u) (g4 : slI u < 460) (hs : slI s ≤ slI u) : SNW s (SE u n c) := by
  have e1 := SE.eSE (u := u) (n := n) (c := c) h0 h4
  have e2 := SE.eSL (u := u) (n := n) (c := c) g0 g4
  have nn := seN h0
  refine ⟨by have := h.1; omega, fun x x1 x2 => ?_⟩
  by_cases c9 : x = (u.i 38).toNatClampNeg
  · subst c9
    have e40 : gv (SE u n c) 40 (u.i 38).toNatClampNeg = slI u := by unfold gv; rw [SE.a40]; rfl
    omega
  · have e40 : gv (SE u n c) 40 x = gv u 40 x := by unfold gv; rw [SE.lo c9]
    rw [e40]
    exact h.2 x x1 (by omega)
/-- a step, a value, an instruction -/
theorem TS.e1 {t : Nat} {s R v W : RS} {o9 x : Int32} (k1 : KP t s R) (te : TE R v) (k2 : KP t R v) (tn : TN v) (k3 : KP t v W) (hg : goI W ≤ goI v) (h0 : 0 ≤ cdI s) (cR : cdI R = cdI s + 1) (cW : cdI W = cdI v + 1) (e0 : W.a 21 (cdI s).toNat = 1) (e21 : W.a 21 (cdI v).toNat = o9) (e22 : W.a 22 (cdI v).toNat = x) (ho : ¬ o9 = 36) (e38 : R.i 38 = s.i 38) (d1 : R.i 52 = s.i 52) (d2 : v.i 52 = s.i 52) (f1 : fr s ≤ fr R) (f2 : fr R + 1 ≤ fr v) (f9 : fr v ≤ 900) (hJ : ∀ (f : RS) (C : Nat → Bool) (g : Gh) (h o lv : Nat) (rs : List Rec), AGC s W C → g.isC = C → YE s rs → (W.i 3).toInt ≤ (f.i 3).toInt → ENS s W f h o lv rs g → gv f 21 (cdI v).toNat = o9.toInt → gv f 22 (cdI v).toNat = x.toInt → gv f 23 (cdI v).toNat = gv W 23 (cdI v).toNat → ((cdI v).toNat : Int) + 1 = cdI W → OKI f g (cdI v).toNat (h + 1, o, lv, false, rs)) : TS s W := by
  intro f C hA hC h o lv rs hx hy
  have cRv := k2.2.1.1
  have cv : 0 ≤ cdI v := by omega
  obtain ⟨A1, C1⟩ := AG.mid hA hC k1 k2 k3 tn hg
  have hx2 := hx.2.1
  have c1 := te f C A1 C1 h o lv rs (hx.up h d1 f1 (by omega) (by omega))
  have ek : ((cdI v).toNat : Int) = cdI v := Int.toNat_of_nonneg cv
  obtain ⟨g1, g2, g3, g4⟩ := hA.cell (k := (cdI v).toNat) (o := o9) (x := x) (by omega) (by omega) e21 e22 ho
  have c3 : COD f C (cdI v).toNat (h + 1) o lv rs (ENS s W f h o lv rs) := by
    refine COD.ins (hx.up (h + 1) d2 (by omega) f9 (by omega)) g4 (fun g hg' hE => ⟨?_, hE.1.1 _ (by omega)⟩)
    exact hJ f C g h o lv rs hC hg' hy hA.2.2.2.1 hE g1 g2 g3 (by omega)
  have rest : COD f C (cdI s + 1) h o lv rs (ENS s W f h o lv rs) := by
    rw [← cR]
    exact COD.seq c1.cod c3 (fun g _ hE => hE) (fun g _ hE hF => ⟨hE.1.mid k1 e38 (by omega), by rw [ek] at hF; exact hF⟩)
  exact COD.step hA hx h0 (by omega) e0 (fun g _ hE => hE.1.1) rest
/-- a step and an instruction -/
theorem TS.i1 {s W : RS} {o9 x : Int32} (h0 : 0 ≤ cdI s) (cW : cdI W = cdI s + 2) (e0 : W.a 21 (cdI s).toNat = 1) (e21 : W.a 21 (cdI s + 1).toNat = o9) (e22 : W.a 22 (cdI s + 1).toNat = x) (ho : ¬ o9 = 36) (hJ : ∀ (f : RS) (C : Nat → Bool) (g : Gh) (h o lv : Nat) (rs : List Rec), AGC s W C → g.isC = C → ENS s W f h o lv rs g → gv f 21 (cdI s + 1).toNat = o9.toInt → gv f 22 (cdI s + 1).toNat = x.toInt → ((cdI s + 1).toNat : Int) + 1 = cdI W → OKI f g (cdI s + 1).toNat (h, o, lv, false, rs)) : TS s W := by
  intro f C hA hC h o lv rs hx hy
  have ek : ((cdI s + 1).toNat : Int) = cdI s + 1 := Int.toNat_of_nonneg (by omega)
  obtain ⟨g1, g2, g3, g4⟩ := hA.cell (k := (cdI s + 1).toNat) (o := o9) (x := x) (by omega) (by omega) e21 e22 ho
  have c3 : COD f C (cdI s + 1).toNat h o lv rs (ENS s W f h o lv rs) := COD.ins hx g4 (fun g hg' hE => ⟨hJ f C g h o lv rs hC hg' hE g1 g2 (by omega), hE.1.1 _ (by omega)⟩)
  rw [ek] at c3
  exact COD.step hA hx h0 (by omega) e0 (fun g _ hE => hE.1.1) c3
theorem TS.i0 {s W : RS} (h0 : 0 ≤ cdI s) (cW : cdI W = cdI s + 1) (e0 : W.a 21 (cdI s).toNat = 1) (hr : W.i 75 = 1) : TS s W := by
  intro f C hA hC h o lv rs hx hy
  have rest : COD f C (cdI s + 1) h o lv rs (ENS s W f h o lv rs) := COD.nil (fun g _ hE => by rw [← cW]; exact hE.2.1 hr)
  exact COD.step hA hx h0 (by omega) e0 (fun g _ hE => hE.1.1) rest
end
section
/-! reading: int and var, names -/
/-- inside a statement, at the same goals, names and signs -/
def MM (t : Nat) (s u : RS) : Prop := INV u ∧ tpI u = t ∧ KP t s u ∧ SAME s u ∧ u.i 38 = s.i 38 ∧ RATE s u ∧ fr s + 1 ≤ fr u ∧ tkI s + 1 ≤ tkI u
theorem MK.mm {t : Nat} {K : Int32} {s R : RS} (h : MK t K s R) : MM t s R := ⟨h.1, h.2.1, h.2.2.1, h.2.2.2.1, h.2.2.2.2.1, h.2.2.2.2.2.1, h.2.2.2.2.2.2.1, by have := h.2.2.2.2.2.2.2.1; omega⟩
theorem MM.step {t : Nat} {s u w : RS} (h : MM t s u) (i : INV w) (tb : TBL u w) (k : KP t u w) (sm : SAME u w) (tp : tpI w = tpI u) (hf : fr u ≤ fr w) (tk : tkI u ≤ tkI w) (tk2 : tkI w - tkI u ≤ fr w - fr u) : MM t s w := by
  obtain ⟨a1, a2, a3, a4, a5, a6, a7, a8⟩ := h
  exact ⟨i, tp.trans a2, a3.tr k (Nat.le_refl _), a4.tr sm, (tb.2.2 38 (by omega) (by omega) (by omega) (by omega)).trans a5, a6.tr (tb.rate hf tk2), by omega, by omega⟩
theorem MM.lx {t : Nat} {s u w : RS} (h : MM t s u) (i : INV w) (x : LX u w) (h19 : w.i 19 = u.i 19) (hf : fr u + 1 ≤ fr w) (tk : tkI w = tkI u + 1) : MM t s w := h.step i x.tbl ((KP.rf t u).lx x) (x.same h19) x.tp (by omega) (by omega) (by omega)
theorem MM.loc {t : Nat} {s u : RS} (h : MM t s u) {k : Nat} (v : Int32) (h1 : 64 ≤ k) (h2 : k ≤ 73) : MM t s (u.setA k t v) := h.step (h.1.loc t v h1 h2) (TBL.loc u t v h1 h2) ((KP.rf t u).loc t v h1 h2 (Nat.le_refl _)) ⟨rfl, rfl, rfl, rfl⟩ rfl (Int.le_refl _) (Int.le_refl _) (by show tkI u - tkI u ≤ fr u - fr u; omega)
theorem MM.pc {t : Nat} {st : Int32} {s u v : RS} (h : MM t s u) (hv : PC t st u v) : MM t s v := by
  obtain ⟨a1, a2, a3, a4, a5, a6, a7, a8⟩ := h
  obtain ⟨v1, v2, v3, v4, v5, v6, v7, v8, -⟩ := hv
  exact ⟨v1, v2, a3.tr v3 (Nat.le_refl _), a4.tr v4, v5.trans a5, a6.tr v6, by omega, by omega⟩
theorem MM.snw {t : Nat} {s u : RS} (h : MM t s u) : SNW s u := SNW.eq h.2.2.2.2.1 h.2.2.1.2.2.2.2.2.1.2.1
/-- an instruction, then the end of a statement -/
theorem MID.em {t : Nat} {s u : RS} {o x y : Int32} (h : MM t s u) (hI : INV s) (hc : cdI u + 1 - cdI s ≤ 3 * (fr u + 1 - fr s)) (hT : ¬ 0 ≤ u.i 18 → TS s ((EM u o x).setI 75 y)) : MID t s (EM u o x) y := by
  obtain ⟨a1, a2, a3, a4, a5, a6, a7, a8⟩ := id h
  have cu := a1.cd
  have cs := hI.cd
  have sn := h.snw
  refine ⟨LXI.em a1.1, a1.2.2.1, a1.2.2.2.1.em cu.1 cu.2.2, a2, a3.em cs.1 cu.2.2, a4, sn, ?_, by show fr s ≤ fr u; omega, by show tkI s ≤ tkI u; omega, hT⟩
  have e := EM.cd (o := o) (x := x) cu.1 cu.2.2
  have e2 : enI (EM u o x) = enI u := rfl
  have e3 : trI (EM u o x) = trI u := rfl
  have e4 : caI (EM u o x) = caI u := rfl
  have e5 : slI (EM u o x) = slI u := rfl
  have e6 : peI (EM u o x) = peI u := rfl
  have e7 : fr (EM u o x) = fr u := rfl
  have e8 : tkI (EM u o x) = tkI u := rfl
  unfold RAT1
  unfold RATE at a6
  rw [e, e2, e3, e4, e5, e6, e7, e8]
  omega
theorem p_seq {N : Nat} {t : Nat} {s v : RS} (n : Int64) (hv : INV v) (hk : KP t s v) (hn : SNW s v) (h38 : 0 ≤ seI s) : ∃ q, f_X12_see N v n 0 = some (v.i 42, q) ∧ (∀ j : Nat, j ≠ 38 → j ≠ 42 → q.i j = v.i j) ∧ (∀ k : Nat, k ≠ 40 → k ≠ 41 → q.a k = v.a k) ∧ LXI q ∧ TAB q ∧ KP t v q ∧ SNW s q ∧ slI q = slI v + 1 ∧ seI q = seI v + 1 := by
  have nse := hv.2.2.2.2.2.2.2.2.2.1
  have nsl := hv.2.2.2.2.2.2.2.2.2.2.1
  have fv := hv.1.f0
  have se4 : seI v < 460 := by omega
  have sl4 : slI v < 460 := by omega
  have ksl := hk.2.2.2.2.2.1.2.1
  refine ⟨SE v n 0, p_se n (Or.inl rfl) nse.1 se4, fun j h1 h2 => SE.eI h1 h2, fun k h1 h2 => SE.eA h1 h2, hv.1, hv.2.2.2.1.se0 nse.1 se4 (by omega) sl4, (KP.rf t v).se nse.1 se4 (by omega) sl4, hn.se nse.1 se4 (by omega) sl4 ksl, SE.eSL (by omega) sl4, SE.eSE nse.1 se4⟩
theorem MID.tell {t : Nat} {s w v q : RS} (hI : INV s) (mW : MM t s w) (hv : PC t 1 w v) (cw : cdI w = cdI s + 1) (fw : fr s + 3 ≤ fr w) (slw : slI w = slI s) (w21 : w.a 21 (cdI s).toNat = 1) (qi : ∀ j : Nat, j ≠ 38 → j ≠ 42 → q.i j = v.i j) (qa : ∀ k : Nat, k ≠ 40 → k ≠ 41 → q.a k = v.a k) (ql : LXI q) (qt : TAB q) (qk : KP t v q) (qn : SNW s q) (qsl : slI q = slI v + 1) : MID t s (EM q 5 (v.i 42)) 1 := by
  have mV := mW.pc hv
  have cs := hI.cd
  obtain ⟨v1, v2, v3, v4, v5, v6, v7, v8, v9, v10, v11, v12⟩ := hv
  have fv := v1.1.f0
  have cv := v1.cd
  have nsl := v1.2.2.2.2.2.2.2.2.2.2.1
  have nse := v1.2.2.2.2.2.2.2.2.2.1
  have ksl := mV.2.2.1.2.2.2.2.2.1.2.1
  have cq : cdI q = cdI v := by unfold cdI; rw [qi 20 (by decide) (by decide)]
  have fq : fr q = fr v := by unfold fr; rw [qi 11 (by decide) (by decide)]
  have tkq : tkI q = tkI v := by unfold tkI; rw [qi 17 (by decide) (by decide)]
  have m8 := mV.2.2.2.2.2.2.2
  have smq : SAME s q := mV.2.2.2.1.tr ⟨qi 19 (by decide) (by decide), qi 43 (by decide) (by decide), qi 52 (by decide) (by decide), qi 56 (by decide) (by decide)⟩
  have eem : cdI (EM q 5 (v.i 42)) = cdI v + 1 := by rw [← cq]; exact EM.cd (u := q) (by omega) (by omega)
  have kem : KP t v (EM q 5 (v.i 42)) := qk.em cv.1 (by omega)
  refine ⟨LXI.em ql, (EM.i (by decide)).trans ((qi 15 (by decide) (by decide)).trans v1.2.2.1), qt.em (by omega) (by omega), ?_, mV.2.2.1.tr kem (Nat.le_refl _), smq, qn, ?_, by show fr s ≤ fr q; omega, by show tkI s ≤ tkI q; omega, fun z => ?_⟩
  · show tpI q = t
    unfold tpI
    rw [qi 63 (by decide) (by decide)]
    exact v2
  · have e2 : enI (EM q 5 (v.i 42)) = enI v := by show enI q = _; unfold enI; rw [qi 24 (by decide) (by decide)]
    have e3 : trI (EM q 5 (v.i 42)) = trI v := by show trI q = _; unfold trI; rw [qi 29 (by decide) (by decide)]
    have e4 : caI (EM q 5 (v.i 42)) = caI v := by show caI q = _; unfold caI; rw [qi 33 (by decide) (by decide)]
    have e5 : slI (EM q 5 (v.i 42)) = slI v + 1 := qsl
    have e6 : peI (EM q 5 (v.i 42)) = peI v := by show peI q = _; unfold peI; rw [qi 59 (by decide) (by decide)]
    have e7 : fr (EM q 5 (v.i 42)) = fr v := fq
    have e8 : tkI (EM q 5 (v.i 42)) = tkI v := tkq
    have ra := mV.2.2.2.2.2.1
    unfold RATE at v6 ra
    unfold RAT1
    rw [eem, e2, e3, e4, e5, e6, e7, e8]
    omega
  · have z1 : ¬ 0 ≤ v.i 18 := fun y => z (by show 0 ≤ q.i 18; rw [qi 18 (by decide) (by decide)]; exact y)
    have ek : ((cdI s).toNat : Int) = cdI s := Int.toNat_of_nonneg cs.1
    have e0 : v.a 21 (cdI s).toNat = 1 := by
      rw [v3.2.1.2.1 (cdI s).toNat (by omega)]; exact w21
    have kW : KP t v ((EM q 5 (v.i 42)).setI 75 1) := kem.i75 1
    have gW : goI ((EM q 5 (v.i 42)).setI 75 1) ≤ goI v := by
      show goI q ≤ goI v
      unfold goI
      rw [qi 43 (by decide) (by decide)]
      exact Int.le_refl _
    refine TS.e1 (o9 := 5) (x := v.i 42) mW.2.2.1 (v9 z1) v3 v1.tn kW gW cs.1 cw eem ?_ ?_ ?_ (by decide) mW.2.2.2.2.1 mW.2.2.2.1.2.2.1 mV.2.2.2.1.2.2.1 (by omega) v7 fv.2 (fun f C g h o lv rs hC' hg hy _ hE g1 g2 g3 ek2 => ?_)
    · show (EM q 5 (v.i 42)).a 21 (cdI s).toNat = 1
      have lt := v3.2.1.1
      rw [EM.a21, if_neg (by omega), qa 21 (by decide) (by decide)]
      exact e0
    · show (EM q 5 (v.i 42)).a 21 (cdI v).toNat = 5
      rw [EM.a21, if_pos (by rw [cq])]
    · show (EM q 5 (v.i 42)).a 22 (cdI v).toNat = v.i 42
      rw [EM.a22, if_pos (by rw [cq])]
    · have hF' : FL f g lv (((cdI v).toNat : Int) + 1) (((cdI v).toNat : Int) + 1) h o rs := by
        rw [ek2]; exact hE.2.1 rfl
      have hsl : gv f 22 (cdI v).toNat = slI v := g2
      refine okJ_5 (c := (h + 1, o, lv, false, rs)) g1 ⟨by rw [hsl]; exact ⟨by omega, by omega⟩, ?_, by show 1 ≤ h + 1; omega, hF'⟩
      rw [hsl, hg]
      have es : ((slI v).toNat : Int) = slI v := Int.toNat_of_nonneg (by omega)
      have := hC' (slI v).toNat (by omega) (by rw [es]; show slI v < slI q; omega)
      cases hq : C (slI v).toNat with
      | false => rfl
      | true =>
        obtain ⟨j, j1, j2, j3⟩ := this.mp hq
        have j3 : gv q 36 j = ((slI v).toNat : Int) := j3
        have e36 : gv q 36 j = gv v 36 j := by unfold gv; rw [qa 36 (by decide) (by decide)]
        have j2 : (j : Int) < caI q := j2
        have ecq : caI q = caI v := by unfold caI; rw [qi 33 (by decide) (by decide)]
        have := (v1.2.2.2.1.2.2.2.2.2.1 j (by omega)).2
        omega
theorem run_tell {N b : Nat} (hN : 1000 ≤ N) (hx : 1 ≤ b → RUNE N 16 4 11 24 (b - 1)) : RUNK N b 4 (fun x => x = 410 ∨ x = 411) := by
  intro n s t P hI hp ht hS hT hb hc hn hF hC
  have hf := hI.1.f0
  have hop := hI.op
  have cs := hI.cd
  have h9 : t < 998 := by omega
  obtain ⟨n', rfl⟩ : ∃ n', n = n' + 1 := ⟨n - 1, by omega⟩
  have push : ((n' + 1 : Nat) : Int) = (n' : Int) + 1 := by omega
  rw [push] at hn hC
  have n1 : 1 ≤ n' := by omega
  have hz : ¬ s.i 10 = 0 := by rcases hT with h | h <;> (rw [h]; decide)
  have h410 : 410 ≤ s.i 10 := by rcases hT with h | h <;> (rw [h]; decide)
  refine lp_4 (u := SK s t 4) ht (by omega) hI.2.2.1 SK.a64 ?_
  have hS4 : (SK s t 4).a 65 t = 0 := by rw [SK.a (by decide) (by decide) (by decide) (by decide)]; exact hS
  unfold f_X12_tell
  rw [if_pos (tp_ib (u := SK s t 4) ht (by omega)), tp_nat (u := SK s t 4) ht, if_pos hS4]
  obtain ⟨R, eR, hR, xR⟩ := START hN 4 hI ht hS hz
  rw [eR]
  have mR := hR.mm
  obtain ⟨r1, r2, r3, r4, r5, r6, r7, r8, r9, r10, r11, r12, r13, r14⟩ := hR
  have r13 := r13 h410
  show ok ((if R.i 15 = 0 then (f_X12_telling N R ((SK s t 4).i 63)).bind fun p14 => (if p14.1 = 0 then some p14.2 else (f_X12_need N p14.2 61).bind fun p17 => (f_X12_then N p17.2 1 16).bind fun p19 => some p19) else some R : Option RS).bind fun p => f_X12_parse_10 N n' p) P
  rw [if_pos r1.2.2.1]
  obtain ⟨p, ep, hq⟩ := TLG (t := t) hN r1 (tp_ib (u := SK s t 4) ht (show t < 1000 by omega))
  rw [ep]
  show ok ((if p.1 = 0 then some p.2 else (f_X12_need N p.2 61).bind fun p17 => (f_X12_then N p17.2 1 16).bind fun p19 => some p19 : Option RS).bind fun p => f_X12_parse_10 N n' p) P
  rcases hq with ⟨q1, q2, q3⟩ | ⟨q1, q2, q3, q4, q5, q6, q7, q8, q9⟩
  · rw [if_pos q1]
    exact lp_f q2 (hF _ (FS'.of r3.1.1 q3 q2 r1.r)) n1
  rw [if_neg (by rw [q1]; decide)]
  have mQ : MM t s p.2 := mR.step q2 q5 q4 q6 q3 (by omega) (by omega) (by omega)
  obtain ⟨w, ew, x1, x2⟩ := NDO hN q2 61 (by decide)
  rw [ew]
  show ok (((f_X12_then N w.2 1 16).bind fun p19 => some p19).bind fun p => f_X12_parse_10 N n' p) P
  have tw : tpI w.2 = t := x1.tp.trans mQ.2.1
  rw [p_th 1 16 tw (by omega)]
  show ok (f_X12_parse_10 N n' (TH w.2 t 1 16)) P
  rcases x2 with x2 | ⟨x2, x3, x4, x5, x6, x7⟩
  · exact lp_f (u := TH w.2 t 1 16) x2 (hF _ (FS'.th (FS'.of mQ.2.2.1.1.1 x1 x2 q2.r))) n1
  have mW : MM t s w.2 := mQ.lx x4 x1 x5 x6 x7
  have fw := x4.1.f0
  have ow : op w.2 = op s := mW.2.2.2.1.eOp
  refine CALL (hx (by omega)) x4 tw (by omega) (by omega) (by omega) (by omega) (fun u hu => hF u (FS'.kp mW.2.2.1 hu)) (fun m2 v hv hm2 => ?_)
  have hv' := hv
  obtain ⟨v1, v2, v3, v4, v5, v6, v7, v8, v9, v10, v11, v12⟩ := hv'
  have mV := mW.pc hv
  have fv := v1.1.f0
  have cv := v1.cd
  obtain ⟨m3, rfl⟩ : ∃ m3, m2 = m3 + 1 := ⟨m2 - 1, by omega⟩
  have push2 : ((m3 + 1 : Nat) : Int) = (m3 : Int) + 1 := by omega
  rw [push2] at hm2
  have wa : w.2.a = R.a := x1.1.trans q9
  have k64 : v.a 64 t = 4 := by rw [v12 64 (by omega) (by omega) (by omega), wa]; exact r11
  refine lp_4 v2 (by omega) v1.2.2.1 k64 ?_
  unfold f_X12_tell
  rw [if_pos (tp_ib v2 (by omega)), tp_nat v2, if_neg (by rw [v11]; decide)]
  obtain ⟨q, eq, qi, qa, ql, qt, qk, qn, qsl, qse⟩ := p_seq (N := N) (v.b 74 t) v1 mV.2.2.1 mV.snw hI.2.2.2.2.2.2.2.2.2.1.1
  rw [eq]
  show ok (((f_X12_emit N q 5 (v.i 42)).bind fun p5 => (f_X12_need N p5.2 59).bind fun p7 => (f_X12_over N p7.2 1).bind fun p9 => some p9).bind fun p => f_X12_parse_10 N m3 p) P
  have cq : cdI q = cdI v := by unfold cdI; rw [qi 20 (by decide) (by decide)]
  have fq : fr q = fr v := by unfold fr; rw [qi 11 (by decide) (by decide)]
  rw [p_em (u := q) 5 (v.i 42) (by omega) (by omega)]
  show ok (((f_X12_need N (EM q 5 (v.i 42)) 59).bind fun p7 => (f_X12_over N p7.2 1).bind fun p9 => some p9).bind fun p => f_X12_parse_10 N m3 p) P
  have cw : cdI w.2 = cdI s + 1 := by rw [x1.tbl.cd, q5.cd, r9]
  have slw : slI w.2 = slI s := by
    rw [x1.tbl.sl, q5.sl, xR.tbl.sl]
    rfl
  exact END (x := 1) hN (by omega) hI (Or.inr rfl) (by omega) (MID.tell hI mW hv cw (by omega) slw (by rw [wa]; exact r10) qi qa ql qt qk qn qsl) hF (fun W hW hfW => hC m3 W hW (by have hfW : fr q + 1 ≤ fr W := hfW; omega) (by have hfW : fr q + 1 ≤ fr W := hfW; omega))
end
section
/-! reading: what begins with a name; log, return, yield, throw -/
theorem MM.emnx {N : Nat} (hN : 1000 ≤ N) {t : Nat} {s R : RS} {o x : Int32} (hI : INV s) (h : MM t s R) (hz : ¬ R.i 10 = 0) (hc : cdI R + 1 - cdI s ≤ 3 * (fr R + 1 - fr s)) : ∃ S, f_X12_next N (EM R o x) = some S ∧ MM t s S ∧ LX (EM R o x) S ∧ fr R + 1 ≤ fr S ∧ tkI S = tkI R + 1 ∧ cdI S = cdI R + 1 ∧ KP t R S := by
  obtain ⟨a1, a2, a3, a4, a5, a6, a7, a8⟩ := h
  have cs := hI.cd
  have cR := a1.cd
  obtain ⟨S, eS, x1, x2, x3, x4⟩ := p_nx hN (LXI.em (o := o) (x := x) a1.1)
  obtain ⟨r15, rc⟩ := x4 a1.2.2.1
  obtain ⟨c1, c2, c3⟩ := rc hz
  have c2 : fr R + 1 ≤ fr S := c2
  have hf := a1.1.f0
  have n12 := a1.tk
  have tk : tkI S = tkI R + 1 := tk_add (u := R) c1 ⟨n12.1, by omega⟩
  have kRS : KP t R S := ((KP.rf t R).em cR.1 cR.2.2).lx x1
  have kS : KP t s S := a3.tr kRS (Nat.le_refl _)
  have tS : TAB S := (a1.2.2.2.1.em cR.1 cR.2.2).lx x1
  have e := x1.tbl
  have ecd : cdI S = cdI R + 1 := e.cd.trans (EM.cd cR.1 cR.2.2)
  have rt : RATE s S := by
    have e2 : enI S = enI R := e.en
    have e3 : trI S = trI R := e.tt
    have e4 : caI S = caI R := e.ca
    have e5 : slI S = slI R := e.sl
    have e6 : peI S = peI R := e.pe
    unfold RATE at *
    omega
  have ss : SAME s S := a4.tr (x1.same x2)
  have e38 : S.i 38 = s.i 38 := x1.i38.trans a5
  exact ⟨S, eS, ⟨hI.mkS kS x1.2.2.2.1 r15 tS ss (SNW.eq e38 kS.2.2.2.2.2.1.2.1) rt (by omega) (by omega), x1.tp.trans a2, kS, ss, e38, rt, by omega, by omega⟩, x1, c2, tk, ecd, kRS⟩
/-- a name's slot: not a caught one's -/
def SLT (s : RS) (x : Int32) : Prop := ∃ j : Nat, (j : Int) < seI s ∧ x = s.a 40 j ∧ s.a 41 j = 0
theorem SLT.eq {s R : RS} {x : Int32} (h : SLT R x) (e : R.i 38 = s.i 38) (h40 : R.a 40 = s.a 40) (h41 : R.a 41 = s.a 41) : SLT s x := by
  obtain ⟨j, j1, j2, j3⟩ := h
  exact ⟨j, by unfold seI at *; rw [← e]; exact j1, by rw [← h40]; exact j2, by rw [← h41]; exact j3⟩
theorem SLT.ok {s : RS} {x : Int32} (h : SLT s x) (hI : INV s) : slotOK x.toInt ∧ ∀ g : Gh, (∀ y : Nat, (y : Int) < seI s → (g.isC (gv s 40 y).toNat = true ↔ ¬ s.a 41 y = 0)) → g.isC x.toInt.toNat = false := by
  obtain ⟨j, j1, j2, j3⟩ := h
  have tb := hI.2.2.2.1.2.2.2.2.1 j j1
  have nsl := hI.2.2.2.2.2.2.2.2.2.2.1
  have fv := hI.1.f0
  have e : x.toInt = gv s 40 j := by unfold gv; rw [j2]
  rw [e]
  refine ⟨⟨tb.1, by have := tb.2.1; omega⟩, fun g hg => ?_⟩
  cases hq : g.isC (gv s 40 j).toNat with
  | false => rfl
  | true => exact absurd j3 ((hg j j1).mp hq)
theorem GOT {N : Nat} (hN : 1000 ≤ N) {R : RS} (hI : INV R) (n : Int64) (w : Int32) : ∃ p, f_X12_got N R n w = some p ∧ (¬ p.2.i 15 = 0 ∧ LX R p.2 ∨ p.2 = R ∧ SLT R p.1) := by
  unfold f_X12_got
  have nse := hI.2.2.2.2.2.2.2.2.2.1
  have nsl := hI.2.2.2.2.2.2.2.2.2.2.1
  have hf := hI.1.f0
  obtain ⟨⟨p1, p2⟩, ep, e2, e3⟩ := p_sa hN n nse.1 (by omega)
  have e2 : p2 = R := e2
  subst e2
  rw [ep]
  have g22 : ∃ p, f_X12_got_22 N p2 w = some p ∧ (¬ p.2.i 15 = 0 ∧ LX p2 p.2 ∨ p.2 = p2 ∧ SLT p2 p.1) := by
    unfold f_X12_got_22
    obtain ⟨S, eS, r1, r2, r3⟩ := p_fl (N := N) hI.1 3 w (by decide)
    rw [eS]
    exact ⟨(-1, S), rfl, Or.inl ⟨r2, r1⟩⟩
  show ∃ p, (if p1 < 0 then f_X12_got_22 N p2 w else if ib p1 460 then (if (p2.a 41 ((p1 : Int32).toNatClampNeg)) = 0 then some ((p2.a 40 ((p1 : Int32).toNatClampNeg)), p2) else f_X12_got_22 N p2 w) else none) = some p ∧ _
  rcases e3 with h | ⟨h1, h2⟩
  · have h : p1 < 0 := by
      have h : ¬ 0 ≤ p1 := h
      rw [Int32.lt_iff_toInt_lt, z_t0]
      have : ¬ (0 : Int32).toInt ≤ p1.toInt := fun z => h (Int32.le_iff_toInt_le.mpr z)
      rw [z_t0] at this
      omega
    rw [if_pos h]
    exact g22
  · have h1 : 0 ≤ p1.toInt := h1
    have h2 : p1.toInt < seI p2 := h2
    have hn : ¬ p1 < 0 := fun c => by
      have := lt_int c
      rw [z_t0] at this
      omega
    rw [if_neg hn, if_pos (show ib p1 460 from ⟨h1, by omega⟩)]
    by_cases c : p2.a 41 p1.toNatClampNeg = 0
    · rw [if_pos c]
      exact ⟨_, rfl, Or.inr ⟨rfl, p1.toNatClampNeg, by rw [clampI h1]; exact h2, rfl, c⟩⟩
    · rw [if_neg c]
      exact g22
def SN (s : RS) (t : Nat) : RS := (s.setI 53 (s.i 53 + 1)).setA 64 t 5
/-- the end of x++; -/
theorem TS.inc {s W : RS} {x : Int32} (hI : INV s) (cW : cdI W = cdI s + 2) (e0 : W.a 21 (cdI s).toNat = 1) (e21 : W.a 21 (cdI s + 1).toNat = 6) (e22 : W.a 22 (cdI s + 1).toNat = x) (hx : SLT s x) (hr : W.i 75 = 1) : TS s W := by
  obtain ⟨h1, h2⟩ := hx.ok hI
  refine TS.i1 (o9 := 6) (x := x) hI.cd.1 cW e0 e21 e22 (by decide) (fun f C g h o lv rs hC hg hE g1 g2 ek => ?_)
  have hF : FL f g lv (((cdI s + 1).toNat : Int) + 1) (((cdI s + 1).toNat : Int) + 1) h o rs := by rw [ek]; exact hE.2.1 hr
  exact okJ_6 (c := (h, o, lv, false, rs)) g1 ⟨by rw [g2]; exact h1, by rw [g2]; exact h2 g hE.1.2, hF⟩
theorem lp_need {N m : Nat} {P : RS → Prop} {u : RS} {x : Int32} (h : ok (((f_X12_need N u 59).bind fun p => (f_X12_over N p.2 x).bind fun p => some p).bind fun p => f_X12_parse_10 N m p) P) : ok (((f_X12_need N u 59).bind fun p25 => (f_X12_over N p25.2 x).bind fun p27 => some p27).bind fun p => f_X12_parse_10 N m p) P := h
theorem e_nam183 {N : Nat} {u : RS} {x1 x5 : Int32} (c0 : 0 ≤ cdI u) (c3 : cdI u < 3000) : f_X12_named_183 N u x1 x5 = (if u.i 10 = 307 then f_X12_named_207 N (EM u 1 0) x1 x5 1 else f_X12_named_207 N (EM u 1 0) x1 x5 0) := by
  unfold f_X12_named_183
  rw [p_em 1 0 c0 c3]
  rfl
/-- a name that is given a value -/
theorem NAM1 {N b : Nat} (hN : 1000 ≤ N) (hx : 1 ≤ b → RUNE N 16 4 11 24 (b - 1)) {n : Nat} {s R : RS} {t : Nat} {P : RS → Prop} {x : Int32} (hI : INV s) (h9 : t < 998) (hb : 2 * (t : Int) ≤ fr s + 12 * op s + 2) (hc : 900 - fr s ≤ b) (hn : 36000 + 29 ≤ (n : Int) + 1 + 40 * fr s) (hF : ∀ u, FS' s u → P u) (hC : ∀ (m : Nat) (u : RS), PS t s u → fr s + 1 ≤ fr u → (n : Int) + 1 + 40 * fr s + 11 ≤ m + 40 * fr u → ok (f_X12_parse_10 N m u) P) (mR : MM t s R) (cR : cdI R = cdI s) (k64 : R.a 64 t = 5) (hxs : SLT s x) (ht : R.i 10 = 61 ∨ R.i 10 = 307) : ok ((f_X12_named_183 N R (R.i 63) x).bind fun p => f_X12_parse_10 N n p) P := by
  obtain ⟨a1, a2, a3, a4, a5, a6, a7, a8⟩ := id mR
  have cs := hI.cd
  have c0 := a1.cd
  have hf := hI.1.f0
  have hz : ¬ R.i 10 = 0 := by rcases ht with h | h <;> (rw [h]; decide)
  rw [e_nam183 c0.1 c0.2.2]
  obtain ⟨S, eS, mS, xS, s1, s2, s3, s4⟩ := MM.emnx (o := 1) (x := 0) hN hI mR hz (by omega)
  have fS := mS.1.1.f0
  have S21 : S.a 21 (cdI s).toNat = 1 := by rw [xS.1, EM.a21, if_pos (by rw [cR])]
  have tS : tpI S = t := mS.2.1
  have S64 : S.a 64 t = 5 := by rw [xS.1, EM.a (by decide) (by decide) (by decide)]; exact k64
  by_cases c : R.i 10 = 307
  · rw [if_pos c]
    unfold f_X12_named_207
    rw [eS]
    show ok ((if (1 : Int32) = 0 then (if ib (R.i 63) 1000 then (f_X12_then N (RS.setA S 66 ((R.i 63 : Int32).toNatClampNeg) x) 2 16).bind fun p21 => some p21 else none) else (f_X12_emit N S 6 x).bind fun p23 => (f_X12_need N p23.2 59).bind fun p25 => (f_X12_over N p25.2 1).bind fun p27 => some p27 : Option RS).bind fun p => f_X12_parse_10 N n p) P
    have cS := mS.1.cd
    rw [if_neg (by decide), p_em 6 x cS.1 cS.2.2]
    show ok (((f_X12_need N (EM S 6 x) 59).bind fun p25 => (f_X12_over N p25.2 1).bind fun p27 => some p27).bind fun p => f_X12_parse_10 N n p) P
    have eE := EM.cd (u := S) (o := 6) (x := x) cS.1 cS.2.2
    refine END (x := 1) hN (by omega) hI (Or.inr rfl) (by omega) (MID.em mS hI (by omega) (fun z => ?_)) hF (fun W hW hfW => hC n W hW (by have hfW : fr S + 1 ≤ fr W := hfW; omega) (by have hfW : fr S + 1 ≤ fr W := hfW; omega))
    refine TS.inc hI (W := (EM S 6 x).setI 75 1) (by show cdI (EM S 6 x) = _; omega) ?_ ?_ ?_ hxs rfl
    · show (EM S 6 x).a 21 (cdI s).toNat = 1
      rw [EM.a21, if_neg (by omega)]; exact S21
    · show (EM S 6 x).a 21 (cdI s + 1).toNat = 6
      rw [EM.a21, if_pos (by rw [s3, cR])]
    · show (EM S 6 x).a 22 (cdI s + 1).toNat = x
      rw [EM.a22, if_pos (by rw [s3, cR])]
  · rw [if_neg c]
    unfold f_X12_named_207
    rw [eS]
    show ok ((if (0 : Int32) = 0 then (if ib (R.i 63) 1000 then (f_X12_then N (RS.setA S 66 ((R.i 63 : Int32).toNatClampNeg) x) 2 16).bind fun p21 => some p21 else none) else (f_X12_emit N S 6 x).bind fun p23 => (f_X12_need N p23.2 59).bind fun p25 => (f_X12_over N p25.2 1).bind fun p27 => some p27 : Option RS).bind fun p => f_X12_parse_10 N n p) P
    rw [if_pos rfl, if_pos (tp_ib a2 (by omega)), tp_nat a2]
    have mT : MM t s (S.setA 66 t x) := mS.loc x (by omega) (by omega)
    have oT : op (S.setA 66 t x) = op s := mT.2.2.2.1.eOp
    rw [p_th 2 16 (u := S.setA 66 t x) tS (by omega)]
    show ok (f_X12_parse_10 N n (TH (S.setA 66 t x) t 2 16)) P
    have fT : fr (S.setA 66 t x) = fr S := rfl
    refine CALL (hx (by omega)) mT.1 tS (by omega) (by omega) (by omega) (by omega) (fun u hu => hF u (FS'.kp mT.2.2.1 hu)) (fun m2 v hv hm2 => ?_)
    have mV := mT.pc hv
    obtain ⟨v1, v2, v3, v4, v5, v6, v7, v8, v9, v10, v11, v12⟩ := hv
    have fv := v1.1.f0
    have cv := v1.cd
    obtain ⟨m3, rfl⟩ : ∃ m3, m2 = m3 + 1 := ⟨m2 - 1, by omega⟩
    have push2 : ((m3 + 1 : Nat) : Int) = (m3 : Int) + 1 := by omega
    rw [push2] at hm2
    refine lp_5 v2 (by omega) v1.2.2.1 ((v12 64 (by omega) (by omega) (by omega)).trans ((congrFun (setA_nk (by decide)) t).trans S64)) ?_
    have e66 : v.a 66 t = x := (v12 66 (by omega) (by omega) (by omega)).trans setA_at
    unfold f_X12_named
    rw [if_pos (tp_ib v2 (by omega)), tp_nat v2, if_neg (by rw [v11]; decide), if_pos v11, e66, p_em 5 x cv.1 cv.2.2]
    show ok (((f_X12_need N (EM v 5 x) 59).bind fun p25 => (f_X12_over N p25.2 1).bind fun p27 => some p27).bind fun p => f_X12_parse_10 N m3 p) P
    have eE := EM.cd (u := v) (o := 5) (x := x) cv.1 cv.2.2
    have cT : cdI (S.setA 66 t x) = cdI S := rfl
    have ra := mV.2.2.2.2.2.1
    have v7 : fr S + 1 ≤ fr v := v7
    refine END (x := 1) hN (by omega) hI (Or.inr rfl) (by omega) (MID.em mV hI (by unfold RATE at ra; omega) (fun z => ?_)) hF (fun W hW hfW => hC m3 W hW (by have hfW : fr v + 1 ≤ fr W := hfW; omega) (by have hfW : fr v + 1 ≤ fr W := hfW; omega))
    have lt := v3.2.1.1
    obtain ⟨h1, h2⟩ := hxs.ok hI
    refine TS.e1 (o9 := 5) (x := x) (W := (EM v 5 x).setI 75 1) mT.2.2.1 (v9 z) v3 v1.tn (((KP.rf t v).em cv.1 cv.2.2).i75 1) (Int.le_refl _) cs.1 (by omega) eE ?_ ?_ ?_ (by decide) mT.2.2.2.2.1 mT.2.2.2.1.2.2.1 mV.2.2.2.1.2.2.1 (by omega) v7 fv.2 (fun f C g h o lv rs hC' hg hy _ hE g1 g2 g3 ek2 => ?_)
    · show (EM v 5 x).a 21 (cdI s).toNat = 1
      rw [EM.a21, if_neg (by omega), v3.2.1.2.1 (cdI s).toNat (by omega)]
      exact S21
    · show (EM v 5 x).a 21 (cdI v).toNat = 5
      rw [EM.a21, if_pos rfl]
    · show (EM v 5 x).a 22 (cdI v).toNat = x
      rw [EM.a22, if_pos rfl]
    · have hF' : FL f g lv (((cdI v).toNat : Int) + 1) (((cdI v).toNat : Int) + 1) h o rs := by
        rw [ek2]; exact hE.2.1 rfl
      exact okJ_5 (c := (h + 1, o, lv, false, rs)) g1 ⟨by rw [g2]; exact h1, by rw [g2]; exact h2 g hE.1.2, by show 1 ≤ h + 1; omega, hF'⟩
end
section
/-! reading: log, return, yield, throw -/
theorem setA_setA (s : RS) (k j : Nat) (v w : Int32) : (s.setA k j v).setA k j w = s.setA k j w := by
  have e : va_up (va_up s.a k (upd (s.a k) j v)) k (upd ((va_up s.a k (upd (s.a k) j v)) k) j w) = va_up s.a k (upd (s.a k) j w) := by
    funext m
    show (if m = k then upd (if k = k then upd (s.a k) j v else s.a k) j w else if m = k then upd (s.a k) j v else s.a m) = (if m = k then upd (s.a k) j w else s.a m)
    by_cases c : m = k
    · rw [if_pos c, if_pos c, if_pos rfl]
      funext i
      show (if i = j then w else if i = j then v else s.a k i) = (if i = j then w else s.a k i)
      by_cases d : i = j
      · rw [if_pos d, if_pos d]
      · rw [if_neg d, if_neg d, if_neg d]
    · rw [if_neg c, if_neg c, if_neg c]
  show (s.i, s.l, va_up (va_up s.a k (upd (s.a k) j v)) k (upd ((va_up s.a k (upd (s.a k) j v)) k) j w), s.b) = (s.i, s.l, va_up s.a k (upd (s.a k) j w), s.b)
  rw [e]
theorem setA_self (s : RS) (k j : Nat) : s.setA k j (s.a k j) = s := by
  have e : va_up s.a k (upd (s.a k) j (s.a k j)) = s.a := by
    funext m
    show (if m = k then upd (s.a k) j (s.a k j) else s.a m) = s.a m
    by_cases c : m = k
    · subst c
      rw [if_pos rfl]
      funext i
      show (if i = j then s.a m j else s.a m i) = s.a m i
      by_cases d : i = j
      · subst d; rw [if_pos rfl]
      · rw [if_neg d]
    · rw [if_neg c]
  show (s.i, s.l, va_up s.a k (upd (s.a k) j (s.a k j)), s.b) = s
  rw [e]
  rfl
theorem p_ial {N : Nat} {σ : RS} (h4 : goI σ ≤ 460) : ∀ (n : Nat) (x : Int32), 0 ≤ x.toInt → x.toInt ≤ 460 → 460 - x.toInt < n → ∃ p, f_X12_isInArms_2 N n σ x = some p ∧ p.2 = σ ∧ ((p.1 = 0 ∧ ∀ γ : Nat, x.toInt ≤ γ → (γ : Int) < goI σ → ¬ σ.a 44 γ = 3) ∨ p.1 = 1 ∧ ∃ γ : Nat, (γ : Int) < goI σ ∧ σ.a 44 γ = 3)
  | 0, x, h1, h2, h3 => by omega
  | n + 1, x, h1, h2, h3 => by
    show ∃ p, b_X12_isInArms_2 N (f_X12_isInArms_2 N n) σ x = some p ∧ _
    unfold b_X12_isInArms_2
    by_cases c : σ.i 43 ≤ x
    · rw [if_pos c]
      refine ⟨_, rfl, rfl, Or.inl ⟨rfl, fun γ g1 g2 => ?_⟩⟩
      have c : goI σ ≤ x.toInt := le_int c
      omega
    · rw [if_neg c]
      have c' : x.toInt < goI σ := by
        have : ¬ (σ.i 43).toInt ≤ x.toInt := fun z => c (Int32.le_iff_toInt_le.mpr z)
        show x.toInt < (σ.i 43).toInt
        omega
      have ci := clampI h1
      rw [if_pos (show ib x 460 from ⟨h1, by omega⟩)]
      by_cases d : σ.a 44 x.toNatClampNeg = 3
      · rw [if_pos d]
        exact ⟨_, rfl, rfl, Or.inr ⟨rfl, x.toNatClampNeg, by omega, d⟩⟩
      · rw [if_neg d]
        have e1 : (1 : Int32).toInt = 1 := by decide
        have ek : (x + 1).toInt = x.toInt + 1 := by rw [toInt_add] <;> rw [e1] <;> omega
        obtain ⟨p, ep, p1, p2⟩ := p_ial h4 n (x + 1) (by omega) (by omega) (by omega)
        refine ⟨p, ep, p1, ?_⟩
        rcases p2 with ⟨q1, q2⟩ | q
        · refine Or.inl ⟨q1, fun γ g1 g2 => ?_⟩
          by_cases e : γ = x.toNatClampNeg
          · subst e; exact d
          · exact q2 γ (by omega) g2
        · exact Or.inr q
theorem p_ia {N : Nat} (hN : 1000 ≤ N) {σ : RS} (h4 : goI σ ≤ 460) : ∃ p, f_X12_isInArms N σ = some p ∧ p.2 = σ ∧ ((p.1 = 0 ∧ ∀ γ : Nat, (γ : Int) < goI σ → ¬ σ.a 44 γ = 3) ∨ p.1 = 1 ∧ ∃ γ : Nat, (γ : Int) < goI σ ∧ σ.a 44 γ = 3) := by
  obtain ⟨p, ep, p1, p2⟩ := p_ial (N := N) h4 N 0 (by decide) (by decide) (by rw [z_t0]; omega)
  refine ⟨p, ep, p1, ?_⟩
  rcases p2 with ⟨q1, q2⟩ | q
  · exact Or.inl ⟨q1, fun γ g => q2 γ (by rw [z_t0]; omega) g⟩
  · exact Or.inr q
/-- the end of log, return, yield -/
def eRest (N : Nat) (x1 : Int32) (u : RS) : Option RS := (f_X12_need N u 59).bind fun p8 => if ib x1 1000 then (if (p8.2.a 66 ((x1 : Int32).toNatClampNeg)) = 412 then (f_X12_over N p8.2 1).bind fun p14 => some p14 else (f_X12_over N p8.2 0).bind fun p12 => some p12) else none
theorem p_e119 {N : Nat} (x1 x2 : Int32) (h2 : ib x2 3000) : ∀ (n : Nat) (σ : RS) (x : Int32), goI σ ≤ 460 → 0 ≤ x.toInt → x.toInt ≤ 460 → 460 - x.toInt < n → (∀ γ : Nat, (γ : Int) < x.toInt → σ.a 44 γ = 3 → (∀ δ : Nat, γ < δ → (δ : Int) < x.toInt → ¬ σ.a 44 δ = 3) → σ.a 23 x2.toNatClampNeg = σ.a 47 γ) → x.toInt ≤ goI σ → ∃ y, f_X12_ending_119 N n σ x1 x2 x = eRest N x1 (σ.setA 23 x2.toNatClampNeg y) ∧ ∀ γ : Nat, (γ : Int) < goI σ → σ.a 44 γ = 3 → NOARM σ γ → y = σ.a 47 γ
  | 0, σ, x, _, h1, h2', h3, _, _ => by omega
  | n + 1, σ, x, h4, h1, h2', h3, hi, hxg => by
    show ∃ y, b_X12_ending_119 N (f_X12_ending_119 N n) σ x1 x2 x = _ ∧ _
    unfold b_X12_ending_119
    by_cases c : σ.i 43 ≤ x
    · rw [if_pos c]
      have c : goI σ ≤ x.toInt := le_int c
      refine ⟨σ.a 23 x2.toNatClampNeg, by rw [setA_self]; rfl, fun γ g1 g2 g3 => hi γ (by omega) g2 (fun δ d1 d2 => g3 δ d1 (by omega))⟩
    · rw [if_neg c]
      have c' : x.toInt < goI σ := by
        have : ¬ (σ.i 43).toInt ≤ x.toInt := fun z => c (Int32.le_iff_toInt_le.mpr z)
        show x.toInt < (σ.i 43).toInt
        omega
      have ci := clampI h1
      rw [if_pos (show ib x 460 from ⟨h1, by omega⟩)]
      have e1 : (1 : Int32).toInt = 1 := by decide
      have ek : (x + 1).toInt = x.toInt + 1 := by rw [toInt_add] <;> rw [e1] <;> omega
      have go : ∀ y0 : Int32, (∀ γ : Nat, (γ : Int) < x.toInt + 1 → σ.a 44 γ = 3 → (∀ δ : Nat, γ < δ → (δ : Int) < x.toInt + 1 → ¬ σ.a 44 δ = 3) → y0 = σ.a 47 γ) → ∃ y, f_X12_ending_119 N n (σ.setA 23 x2.toNatClampNeg y0) x1 x2 (x + 1) = eRest N x1 (σ.setA 23 x2.toNatClampNeg y) ∧ ∀ γ : Nat, (γ : Int) < goI σ → σ.a 44 γ = 3 → NOARM σ γ → y = σ.a 47 γ := fun y0 hy0 => by
        obtain ⟨y, ey, hy⟩ := p_e119 x1 x2 h2 n (σ.setA 23 x2.toNatClampNeg y0) (x + 1) h4 (by omega) (by omega) (by omega) (fun γ g1 g2 g3 => by
          rw [setA_at]
          exact hy0 γ (by omega) g2 (fun δ d1 d2 => g3 δ d1 (by omega))) (by show (x + 1).toInt ≤ goI σ; omega)
        exact ⟨y, by rw [ey, setA_setA], hy⟩
      by_cases d : σ.a 44 x.toNatClampNeg = 3
      · rw [if_pos d, if_pos h2]
        refine go _ (fun γ g1 g2 g3 => ?_)
        by_cases e : γ = x.toNatClampNeg
        · subst e; rfl
        · exact absurd d (g3 x.toNatClampNeg (by omega) (by omega))
      · rw [if_neg d, if_pos h2]
        refine go _ (fun γ g1 g2 g3 => ?_)
        by_cases e : γ = x.toNatClampNeg
        · subst e; exact absurd g2 d
        · exact hi γ (by omega) g2 (fun δ d1 d2 => g3 δ d1 (by omega))
theorem ISCH.iy {u : RS} {k : Nat} {y : Int32} {h : Int} {L : List Nat} (hi : ISCH u h L) : ISCH (u.setA 23 k y) h L := hi.of (fun _ _ => ⟨rfl, rfl⟩)
theorem KP.iy {t : Nat} {s u : RS} {k : Nat} {y : Int32} (h : KP t s u) (hk : cdI s ≤ k) : KP t s (u.setA 23 k y) := by
  obtain ⟨⟨a1, a1'⟩, a2, a3, a4, a5, a6, a7, a8, a9, a10, a11⟩ := h
  refine ⟨⟨⟨a1.1, fun j hj => (if_neg (by omega)).trans (a1.2.1 j hj), a1.2.2⟩, a1'⟩, ⟨a2.1, a2.2.1, a2.2.2.1, fun j hj => (setA_ne (by omega)).trans (a2.2.2.2 j hj)⟩, a3, a4, a5, a6, a7, fun γ b L hγ hI hL => ?_, a9, a10, fun k9 k1 k2 j hj => (congrFun (if_neg (by omega)) j).trans (a11 k9 k1 k2 j hj)⟩
  obtain ⟨L1, c1, c2⟩ := a8 γ b L hγ hI hL
  exact ⟨L1, by cases b <;> exact c1.iy, c2⟩
theorem TAB.iy {u : RS} {k : Nat} {y : Int32} (h : TAB u) : TAB (u.setA 23 k y) := by
  refine ⟨⟨fun γ b hγ => ?_, DJ.of h.1.1 h.1.2.1 (Int.le_refl _) (fun γ b L _ h1 h2 => by cases b <;> exact h1.iy), h.1.2.2⟩, h.2⟩
  obtain ⟨L, l1, l2⟩ := h.1.1 γ b hγ
  exact ⟨L, by cases b <;> exact l1.iy, l2⟩
theorem MID.iy {t : Nat} {s u : RS} {x y : Int32} {k : Nat} (h : MID t s u x) (hk : cdI s ≤ k) (hT : ¬ 0 ≤ u.i 18 → TS s ((u.setA 23 k y).setI 75 x)) : MID t s (u.setA 23 k y) x := by
  obtain ⟨a1, a2, a3, a4, a5, a6, a7, a8, a9, a10, a11⟩ := h
  exact ⟨a1, a2, a3.iy, a4, a5.iy hk, a6, a7, a8, a9, a10, hT⟩
theorem MID.mm {t : Nat} {s u : RS} {y : Int32} (h : MM t s u) (hT : ¬ 0 ≤ u.i 18 → TS s (u.setI 75 y)) : MID t s u y := by
  have sn := h.snw
  obtain ⟨a1, a2, a3, a4, a5, a6, a7, a8⟩ := h
  refine ⟨a1.1, a1.2.2.1, a1.2.2.2.1, a2, a3, a4, sn, ?_, by omega, by omega, hT⟩
  unfold RAT1
  unfold RATE at a6
  omega
theorem MID.weak {t : Nat} {s u : RS} {x y : Int32} (h : MID t s u x) (hT : ¬ 0 ≤ u.i 18 → TS s (u.setI 75 y)) : MID t s u y := by
  obtain ⟨a1, a2, a3, a4, a5, a6, a7, a8, a9, a10, a11⟩ := h
  exact ⟨a1, a2, a3, a4, a5, a6, a7, a8, a9, a10, hT⟩
theorem SK.lxi {s : RS} {t : Nat} {K : Int32} (h : INV s) : LXI (SK s t K) := h.1
theorem SK.eI {s : RS} {t : Nat} {K : Int32} {j : Nat} (h1 : j ≠ 20) (h2 : j ≠ 53) : (SK s t K).i j = s.i j := (EM.i h1).trans (if_neg h2)
theorem SK.cd {s : RS} {t : Nat} {K : Int32} (h : INV s) : cdI (SK s t K) = cdI s + 1 := EM.cd (u := (s.setI 53 (s.i 53 + 1)).setA 64 t K) h.cd.1 h.cd.2.2
theorem SK.a21 {s : RS} {t : Nat} {K : Int32} : (SK s t K).a 21 (cdI s).toNat = 1 := by
  show (EM ((s.setI 53 (s.i 53 + 1)).setA 64 t K) 1 0).a 21 (cdI s).toNat = 1
  rw [EM.a21]
  exact if_pos rfl
/-- the step and a inner word are laid, the word is read -/
theorem STARTu {N : Nat} (hN : 1000 ≤ N) {s u : RS} {t : Nat} (y : Int32) (hI : INV s) (ht : tpI s = t) (hz : ¬ s.i 10 = 0) (ul : LXI u) (ui : ∀ j : Nat, j ≠ 20 → j ≠ 53 → u.i j = s.i j) (ut : TAB u) (uk : KP t s u) (uc : cdI u = cdI s + 1) : ∃ R, f_X12_next N (u.setA 66 t y) = some R ∧ MM t s R ∧ cdI R = cdI s + 1 ∧ R.a = (u.setA 66 t y).a ∧ (410 ≤ s.i 10 → fr s + 2 ≤ fr R) ∧ fr s + 1 ≤ fr R := by
  obtain ⟨R, eR, x1, x2, x3, x4⟩ := p_nx hN (show LXI (u.setA 66 t y) from ul)
  obtain ⟨r15, rc⟩ := x4 ((ui 15 (by decide) (by decide)).trans hI.2.2.1)
  obtain ⟨c1, c2, c3⟩ := rc (fun z => hz ((ui 10 (by decide) (by decide)).symm.trans z))
  have fu : fr (u.setA 66 t y) = fr s := by show fr u = fr s; unfold fr; rw [ui 11 (by decide) (by decide)]
  have u10 : (u.setA 66 t y).i 10 = s.i 10 := ui 10 (by decide) (by decide)
  have hf := hI.1.f0
  have n12 := hI.tk
  have tk : tkI R = tkI s + 1 := tk_add (u := s) (c1.trans (congrArg (· + 1) (ui 17 (by decide) (by decide)))) ⟨n12.1, by omega⟩
  have kU : KP t s (u.setA 66 t y) := uk.loc t y (by omega) (by omega) (Nat.le_refl _)
  have tU : TAB (u.setA 66 t y) := ut.tbl (TBL.loc _ t y (by omega) (by omega)) (fun γ hγ => (ut.2.2.2.2.2.2.1 γ hγ).2) ut.2.2.2.2.2.2.2.2.2
  have kR : KP t s R := kU.lx x1
  have tR : TAB R := tU.lx x1
  have e := x1.tbl
  have ecd : cdI R = cdI s + 1 := e.cd.trans uc
  have rt : RATE s R := by
    have e2 : enI R = enI s := by rw [e.en]; show enI u = enI s; unfold enI; rw [ui 24 (by decide) (by decide)]
    have e3 : trI R = trI s := by rw [e.tt]; show trI u = trI s; unfold trI; rw [ui 29 (by decide) (by decide)]
    have e4 : caI R = caI s := by rw [e.ca]; show caI u = caI s; unfold caI; rw [ui 33 (by decide) (by decide)]
    have e5 : slI R = slI s := by rw [e.sl]; show slI u = slI s; unfold slI; rw [ui 42 (by decide) (by decide)]
    have e6 : peI R = peI s := by rw [e.pe]; show peI u = peI s; unfold peI; rw [ui 59 (by decide) (by decide)]
    unfold RATE
    omega
  have ss : SAME s R := SAME.tr (show SAME s (u.setA 66 t y) from ⟨ui 19 (by decide) (by decide), ui 43 (by decide) (by decide), ui 52 (by decide) (by decide), ui 56 (by decide) (by decide)⟩) (x1.same x2)
  have e38 : R.i 38 = s.i 38 := x1.i38.trans (ui 38 (by decide) (by decide))
  have tp : tpI R = t := x1.tp.trans ((congrArg Int32.toInt (ui 63 (by decide) (by decide))).trans ht)
  exact ⟨R, eR, ⟨hI.mkS kR x1.2.2.2.1 r15 tR ss (SNW.eq e38 kR.2.2.2.2.2.1.2.1) rt (by omega) (by omega), tp, kR, ss, e38, rt, by omega, by omega⟩, ecd, x1.1, fun q => by have := c3 (Or.inl (by rw [u10]; exact q)); omega, by omega⟩
end
section
/-! reading: log, return, yield, throw: their frames -/
theorem arm_last {s : RS} : ∀ (n γ : Nat), (γ : Int) < goI s → s.a 44 γ = 3 → goI s - γ ≤ n → ∃ δ : Nat, (δ : Int) < goI s ∧ s.a 44 δ = 3 ∧ NOARM s δ
  | 0, γ, h1, _, h3 => by omega
  | n + 1, γ, h1, h2, h3 => by
    by_cases c : ∃ δ : Nat, γ < δ ∧ (δ : Int) < goI s ∧ s.a 44 δ = 3
    · obtain ⟨δ, d1, d2, d3⟩ := c
      exact arm_last n δ d2 d3 (by omega)
    · exact ⟨γ, h1, h2, fun δ d1 d2 d3 => c ⟨δ, d1, d2, d3⟩⟩
theorem eRest_eq {N : Nat} (hN : 1000 ≤ N) {u : RS} {t : Nat} {x1 y : Int32} (hl : LXI u) (hx : ib x1 1000) (ht : x1.toNatClampNeg = t) (hy : u.a 66 t = y) : eRest N x1 u = (f_X12_need N u 59).bind fun p => (f_X12_over N p.2 (if y = 412 then 1 else 0)).bind fun p => some p := by
  obtain ⟨p, ep, h1, -⟩ := p_nd hN hl 59 (by decide)
  unfold eRest
  rw [ep, ht]
  show (if ib x1 1000 then (if p.2.a 66 t = 412 then (f_X12_over N p.2 1).bind fun p14 => some p14 else (f_X12_over N p.2 0).bind fun p12 => some p12) else none) = (f_X12_over N p.2 (if y = 412 then 1 else 0)).bind fun p => some p
  rw [if_pos hx, h1.1, hy]
  by_cases c : y = 412
  · rw [if_pos c, if_pos c]
  · rw [if_neg c, if_neg c]
/-- all of MID but what is typed -/
def MI0 (t : Nat) (s u : RS) : Prop := LXI u ∧ u.i 15 = 0 ∧ TAB u ∧ tpI u = t ∧ KP t s u ∧ SAME s u ∧ SNW s u ∧ RAT1 s u ∧ fr s ≤ fr u ∧ tkI s ≤ tkI u
theorem MI0.mid {t : Nat} {s u : RS} {x : Int32} (h : MI0 t s u) (hT : ¬ 0 ≤ u.i 18 → TS s (u.setI 75 x)) : MID t s u x := by
  obtain ⟨a1, a2, a3, a4, a5, a6, a7, a8, a9, a10⟩ := h
  exact ⟨a1, a2, a3, a4, a5, a6, a7, a8, a9, a10, hT⟩
theorem MI0.em {t : Nat} {s u : RS} {o x : Int32} (h : MM t s u) (hI : INV s) (hc : cdI u + 1 - cdI s ≤ 3 * (fr u + 1 - fr s)) : MI0 t s (EM u o x) := by
  have sn := h.snw
  obtain ⟨a1, a2, a3, a4, a5, a6, a7, a8⟩ := h
  have cu := a1.cd
  have cs := hI.cd
  refine ⟨LXI.em a1.1, a1.2.2.1, a1.2.2.2.1.em cu.1 cu.2.2, a2, a3.em cs.1 cu.2.2, a4, sn, ?_, by show fr s ≤ fr u; omega, by show tkI s ≤ tkI u; omega⟩
  have e := EM.cd (o := o) (x := x) cu.1 cu.2.2
  have e2 : enI (EM u o x) = enI u := rfl
  have e3 : trI (EM u o x) = trI u := rfl
  have e4 : caI (EM u o x) = caI u := rfl
  have e5 : slI (EM u o x) = slI u := rfl
  have e6 : peI (EM u o x) = peI u := rfl
  have e7 : fr (EM u o x) = fr u := rfl
  have e8 : tkI (EM u o x) = tkI u := rfl
  unfold RAT1
  unfold RATE at a6
  rw [e, e2, e3, e4, e5, e6, e7, e8]
  omega
theorem MI0.iy {t : Nat} {s u : RS} {y : Int32} {k : Nat} (h : MI0 t s u) (hk : cdI s ≤ k) : MI0 t s (u.setA 23 k y) := by
  obtain ⟨a1, a2, a3, a4, a5, a6, a7, a8, a9, a10⟩ := h
  exact ⟨a1, a2, a3.iy, a4, a5.iy hk, a6, a7, a8, a9, a10⟩
/-- a step, a value, an instruction with a second number -/
theorem TS.e1y {t : Nat} {s R v q : RS} {o9 x y z : Int32} (k1 : KP t s R) (te : TE R v) (k2 : KP t R v) (tn : TN v) (hv : INV v) (hq : q = EM v o9 x) (hs : INV s) (cR : cdI R = cdI s + 1) (R21 : R.a 21 (cdI s).toNat = 1) (ho : ¬ o9 = 36) (e38 : R.i 38 = s.i 38) (d1 : R.i 52 = s.i 52) (d2 : v.i 52 = s.i 52) (f1 : fr s ≤ fr R) (f2 : fr R + 1 ≤ fr v) (hJ : ∀ (f : RS) (g : Gh) (h o lv : Nat) (rs : List Rec), YE s rs → ((z = 1) → FL f g lv (cdI v + 1) (cdI v + 1) h o rs) → gv f 21 (cdI v).toNat = o9.toInt → gv f 23 (cdI v).toNat = y.toInt → OKI f g (cdI v).toNat (h + 1, o, lv, false, rs)) : TS s ((q.setA 23 (cdI v).toNat y).setI 75 z) := by
  have cv := hv.cd
  have cs := hs.cd
  have lt := k2.2.1.1
  have fv := hv.1.f0
  have kq : KP t v q := by rw [hq]; exact (KP.rf t v).em cv.1 cv.2.2
  have cq : cdI q = cdI v + 1 := by rw [hq]; exact EM.cd cv.1 cv.2.2
  have gq : goI q = goI v := by rw [hq]; rfl
  have q21 : ∀ j : Nat, q.a 21 j = if j = (cdI v).toNat then o9 else v.a 21 j := fun j => by rw [hq]; exact EM.a21 j
  have q22 : q.a 22 (cdI v).toNat = x := by rw [hq, EM.a22, if_pos rfl]
  have ekv : ((cdI v).toNat : Int) = cdI v := Int.toNat_of_nonneg cv.1
  clear hq
  have kW : KP t v ((q.setA 23 (cdI v).toNat y).setI 75 z) := (kq.iy (by omega)).i75 z
  refine TS.e1 (o9 := o9) (x := x) (W := (q.setA 23 (cdI v).toNat y).setI 75 z) k1 te k2 tn kW (by show goI q ≤ goI v; omega) cs.1 cR cq ?_ ?_ ?_ ho e38 d1 d2 f1 f2 fv.2 (fun f C g h o lv rs hC' hg hye _ hE g1 g2 g3 ek2 => ?_)
  · show q.a 21 (cdI s).toNat = 1
    rw [q21, if_neg (by omega), k2.2.1.2.1 (cdI s).toNat (by omega)]
    exact R21
  · show q.a 21 (cdI v).toNat = o9
    rw [q21, if_pos rfl]
  · exact q22
  · refine hJ f g h o lv rs hye (fun c => ?_) g1 ?_
    · have := hE.2.1 c
      rw [← ek2, ekv] at this
      exact this
    · rw [g3]
      show ((q.setA 23 (cdI v).toNat y).a 23 (cdI v).toNat).toInt = y.toInt
      rw [setA_at]
theorem END1 {N b : Nat} (hN : 1000 ≤ N) (hx : 1 ≤ b → RUNE N 16 4 11 24 (b - 1)) {n : Nat} {s u : RS} {t : Nat} {P : RS → Prop} {y : Int32} (hI : INV s) (ht : tpI s = t) (h9 : t < 998) (hb : 2 * (t : Int) ≤ fr s + 12 * op s + 2) (hc : 900 - fr s ≤ b) (hn : 36000 + 29 ≤ (n : Int) + 1 + 40 * fr s) (hF : ∀ u, FS' s u → P u) (hC : ∀ (m : Nat) (u : RS), PS t s u → fr s + 1 ≤ fr u → (n : Int) + 1 + 40 * fr s + 11 ≤ m + 40 * fr u → ok (f_X12_parse_10 N m u) P) (hz : ¬ s.i 10 = 0) (ul : LXI u) (ui : ∀ j : Nat, j ≠ 20 → j ≠ 53 → u.i j = s.i j) (ut : TAB u) (uk : KP t s u) (uc : cdI u = cdI s + 1) (u21 : u.a 21 (cdI s).toNat = 1) (u64 : u.a 64 t = 6) (hy : y = 412 ∨ y = 420 ∨ y = 431) (hya : y = 431 → ∃ γ : Nat, (γ : Int) < goI s ∧ s.a 44 γ = 3) : ok ((f_X12_ending_63 N (u.setA 66 t y)).bind fun p => f_X12_parse_10 N n p) P := by
  have hf := hI.1.f0
  have cs := hI.cd
  unfold f_X12_ending_63
  obtain ⟨R, eR, mR, cR, aR, f2, f1⟩ := STARTu hN y hI ht hz ul ui ut uk uc
  rw [eR]
  show ok (((f_X12_then N R 1 16).bind fun p28 => some p28).bind fun p => f_X12_parse_10 N n p) P
  rw [p_th 1 16 mR.2.1 (by omega)]
  show ok (f_X12_parse_10 N n (TH R t 1 16)) P
  have fR := mR.1.1.f0
  have oR : op R = op s := mR.2.2.2.1.eOp
  refine CALL (hx (by omega)) mR.1 mR.2.1 (by omega) (by omega) (by omega) (by omega) (fun u hu => hF u (FS'.kp mR.2.2.1 hu)) (fun m2 v hv hm2 => ?_)
  have mV := mR.pc hv
  obtain ⟨v1, v2, v3, v4, v5, v6, v7, v8, v9, v10, v11, v12⟩ := hv
  have fv := v1.1.f0
  have cv := v1.cd
  obtain ⟨m3, rfl⟩ : ∃ m3, m2 = m3 + 1 := ⟨m2 - 1, by omega⟩
  have push2 : ((m3 + 1 : Nat) : Int) = (m3 : Int) + 1 := by omega
  rw [push2] at hm2
  have e66 : v.a 66 t = y := by rw [v12 66 (by omega) (by omega) (by omega), aR]; exact setA_at
  have R21 : R.a 21 (cdI s).toNat = 1 := by rw [aR, setA_nk (by decide)]; exact u21
  refine lp_6 v2 (by omega) v1.2.2.1 (by rw [v12 64 (by omega) (by omega) (by omega), aR, setA_nk (by decide)]; exact u64) ?_
  have go1 : ∀ o9 : Int32, (o9 = 16 ∧ y = 412 ∨ o9 = 17 ∨ o9 = 18 ∧ y = 431) → ¬ o9 = 36 → (o9 = 17 → ¬ y = 412) → (o9 = 18 → ¬ y = 412) → ok (((f_X12_emit N v o9 0).bind fun p22 => f_X12_ending_117 N p22.2 (v.i 63) p22.1).bind fun p => f_X12_parse_10 N m3 p) P := by
    intro o9 ho ho36 h17 h18
    rw [p_em o9 0 cv.1 cv.2.2]
    show ok ((f_X12_ending_119 N N (EM v o9 0) (v.i 63) (v.i 20) 0).bind fun p => f_X12_parse_10 N m3 p) P
    have goV := v1.2.2.2.2.2.2.2.2.2.2.2.1
    have i20 : ib (v.i 20) 3000 := ⟨cv.1, cv.2.2⟩
    obtain ⟨yy, ey, hyy⟩ := p_e119 (N := N) (v.i 63) (v.i 20) i20 N (EM v o9 0) 0 (by show goI v ≤ 460; omega) (by decide) (by decide) (by rw [z_t0]; omega) (fun γ g1 => by rw [z_t0] at g1; omega) (by rw [z_t0]; exact goV.1)
    rw [ey]
    have ekk : (v.i 20).toNatClampNeg = (cdI v).toNat := rfl
    rw [ekk]
    have hx01 : (if y = 412 then (1 : Int32) else 0) = 0 ∨ (if y = 412 then (1 : Int32) else 0) = 1 := by
      by_cases c : y = 412
      · rw [if_pos c]; exact Or.inr rfl
      · rw [if_neg c]; exact Or.inl rfl
    have eE := EM.cd (u := v) (o := o9) (x := 0) cv.1 cv.2.2
    have ra := mV.2.2.2.2.2.1
    have lt := v3.2.1.1
    have ekv : ((cdI v).toNat : Int) = cdI v := Int.toNat_of_nonneg cv.1
    obtain ⟨q, hq⟩ : ∃ q, q = EM v o9 0 := ⟨_, rfl⟩
    have lq : MI0 t s q := by rw [hq]; exact MI0.em mV hI (by unfold RATE at ra v6; omega)
    have i18 : q.i 18 = v.i 18 := by rw [hq]; exact EM.i (by decide)
    have fq : fr q = fr v := by rw [hq]; rfl
    have hts : ¬ 0 ≤ v.i 18 → TS s ((q.setA 23 (cdI v).toNat yy).setI 75 (if y = 412 then (1 : Int32) else 0)) := fun z => by
      refine TS.e1y mR.2.2.1 (v9 z) v3 v1.tn v1 hq hI cR R21 ho36 mR.2.2.2.2.1 mR.2.2.2.1.2.2.1 mV.2.2.2.1.2.2.1 (by omega) v7 (fun f g h o lv rs hye hE g1 g3 => ?_)
      have h1 : 1 ≤ Ctx.h (h + 1, o, lv, false, rs) := by show 1 ≤ h + 1; omega
      rcases ho with ⟨rfl, c⟩ | rfl | ⟨rfl, c⟩
      · have hF' : FL f g lv (((cdI v).toNat : Int) + 1) (((cdI v).toNat : Int) + 1) h o rs := by
          rw [ekv]; exact hE (by rw [if_pos c])
        exact okJ_16 (c := (h + 1, o, lv, false, rs)) g1 ⟨h1, hF'⟩
      · exact okJ_17 (c := (h + 1, o, lv, false, rs)) g1 h1
      · refine okJ_18 (c := (h + 1, o, lv, false, rs)) g1 ⟨h1, ?_⟩
        obtain ⟨γ0, g5, g6⟩ := hya c
        obtain ⟨γ, d1, d2, d3⟩ := arm_last _ γ0 g5 g6 (Int.self_le_toNat _)
        have kg := mV.2.2.1.2.2.2.2.2.2.1
        have gV : goI v = goI s := mV.2.2.2.1.go
        have e := hyy γ (by show (γ : Int) < goI v; omega) (by show v.a 44 γ = 3; rw [kg.2.1 γ d1]; exact d2) ((NOARM.of gV kg.2.1 γ).mpr d3)
        have e47 : (EM v 18 0).a 47 γ = s.a 47 γ := kg.2.2.1 γ d1
        have : gv f 23 (cdI v).toNat = gv s 47 γ := by
          rw [g3, e, e47]
          rfl
        rw [this]
        exact hye γ d1 d2 d3
    rw [← hq]
    have e66q : (q.setA 23 (cdI v).toNat yy).a 66 t = y := by rw [setA_nk (by decide), hq, EM.a (by decide) (by decide) (by decide)]; exact e66
    rw [eRest_eq (t := t) (y := y) hN (lq.iy (y := yy) (k := (cdI v).toNat) (by omega)).1 (tp_ib v2 (by omega)) (tp_nat v2) e66q]
    have hmid : MID t s (q.setA 23 (cdI v).toNat yy) (if y = 412 then (1 : Int32) else 0) := (lq.iy (by omega)).mid (fun z => hts (fun q' => z (by show 0 ≤ q.i 18; rw [i18]; exact q')))
    exact END hN (by omega) hI hx01 (by omega) hmid hF (fun W hW hfW => hC m3 W hW (by have hfW : fr q + 1 ≤ fr W := hfW; omega) (by have hfW : fr q + 1 ≤ fr W := hfW; omega))
  unfold f_X12_ending
  rw [if_pos (tp_ib v2 (by omega)), tp_nat v2, if_neg (by rw [v11]; decide), e66]
  rcases hy with c | c | c
  · rw [if_pos c]
    exact go1 16 (Or.inl ⟨rfl, c⟩) (by decide) (fun q => absurd q (by decide)) (fun q => absurd q (by decide))
  · rw [if_neg (by rw [c]; decide), if_pos c]
    exact go1 17 (Or.inr (Or.inl rfl)) (by decide) (fun _ => by rw [c]; decide) (fun q => absurd q (by decide))
  · rw [if_neg (by rw [c]; decide), if_neg (by rw [c]; decide)]
    exact go1 18 (Or.inr (Or.inr ⟨rfl, c⟩)) (by decide) (fun q => absurd q (by decide)) (fun _ => by rw [c]; decide)
theorem END2 {N b : Nat} (hN : 1000 ≤ N) (hx : 1 ≤ b → RUNE N 16 4 11 24 (b - 1)) {n' : Nat} {s u : RS} {t : Nat} {P : RS → Prop} (hI : INV s) (ht : tpI s = t) (h9 : t < 998) (hb : 2 * (t : Int) ≤ fr s + 12 * op s + 2) (hc : 900 - fr s ≤ b) (hn : 36000 + 29 ≤ (n' : Int) + 1 + 40 * fr s) (hF : ∀ u, FS' s u → P u) (hC : ∀ (m : Nat) (u : RS), PS t s u → fr s + 1 ≤ fr u → (n' : Int) + 1 + 40 * fr s + 11 ≤ m + 40 * fr u → ok (f_X12_parse_10 N m u) P) (hz : ¬ s.i 10 = 0) (ul : LXI u) (ui : ∀ j : Nat, j ≠ 20 → j ≠ 53 → u.i j = s.i j) (ut : TAB u) (uk : KP t s u) (uc : cdI u = cdI s + 1) (u21 : u.a 21 (cdI s).toNat = 1) (u64 : u.a 64 t = 6) (u65 : u.a 65 t = 0) (u44 : u.a 44 = s.a 44) (n1 : 1 ≤ n') (hT : s.i 10 = 412 ∨ s.i 10 = 420 ∨ s.i 10 = 431) : ok (f_X12_parse_10 N (n' + 1) u) P := by
  have hf := hI.1.f0
  have tu : tpI u = t := by unfold tpI; rw [ui 63 (by decide) (by decide)]; exact ht
  have u15 : u.i 15 = 0 := (ui 15 (by decide) (by decide)).trans hI.2.2.1
  have u10 : u.i 10 = s.i 10 := ui 10 (by decide) (by decide)
  have gu : goI u = goI s := by unfold goI; rw [ui 43 (by decide) (by decide)]
  have goS := hI.2.2.2.2.2.2.2.2.2.2.2.1
  refine lp_6 tu (by omega) u15 u64 ?_
  unfold f_X12_ending
  rw [if_pos (tp_ib tu (by omega)), tp_nat tu, if_pos u65, u10]
  have bad : ok ((f_X12_ending_53 N (u.setA 66 t (s.i 10))).bind fun p => f_X12_parse_10 N n' p) P := by
    unfold f_X12_ending_53
    obtain ⟨R, eR, r1, r2, r3⟩ := p_fl (N := N) (σ := u.setA 66 t (s.i 10)) ul 5 ((u.setA 66 t (s.i 10)).i 11) (by decide)
    rw [eR]
    exact lp_f r2 (hF R (FS'.of (u := u.setA 66 t (s.i 10)) (uk.loc t _ (by omega) (by omega) (Nat.le_refl _)).1.1 r1 r2 ut.2.2.2.2.2.2.2.2.2)) n1
  obtain ⟨⟨p1, p2⟩, ep, q1, q2⟩ := p_ia (N := N) (σ := u.setA 66 t (s.i 10)) hN (by show goI u ≤ 460; omega)
  have good : (s.i 10 = 431 → ∃ γ : Nat, (γ : Int) < goI s ∧ s.a 44 γ = 3) → ok ((f_X12_ending_63 N (u.setA 66 t (s.i 10))).bind fun p => f_X12_parse_10 N n' p) P := fun hya => END1 hN hx hI ht h9 hb hc hn hF hC hz ul ui ut uk uc u21 u64 hT hya
  have q1 : p2 = u.setA 66 t (s.i 10) := q1
  subst q1
  by_cases c420 : s.i 10 = 420
  · rw [if_pos c420, ep]
    show ok ((if p1 = 0 then f_X12_ending_36 N (u.setA 66 t (s.i 10)) else f_X12_ending_53 N (u.setA 66 t (s.i 10)) : Option RS).bind fun p => f_X12_parse_10 N n' p) P
    by_cases c : p1 = 0
    · rw [if_pos c]
      unfold f_X12_ending_36
      rw [if_neg (show ¬ (u.setA 66 t (s.i 10)).i 10 = 431 from fun z => by have z : u.i 10 = 431 := z; rw [u10, c420] at z; exact absurd z (by decide))]
      exact good (fun z => by rw [c420] at z; exact absurd z (by decide))
    · rw [if_neg c]
      exact bad
  · rw [if_neg c420]
    unfold f_X12_ending_36
    by_cases c431 : s.i 10 = 431
    · rw [if_pos (show (u.setA 66 t (s.i 10)).i 10 = 431 from u10.trans c431), ep]
      show ok ((if p1 = 0 then f_X12_ending_53 N (u.setA 66 t (s.i 10)) else f_X12_ending_63 N (u.setA 66 t (s.i 10)) : Option RS).bind fun p => f_X12_parse_10 N n' p) P
      by_cases c : p1 = 0
      · rw [if_pos c]
        exact bad
      · rw [if_neg c]
        refine good (fun _ => ?_)
        rcases q2 with ⟨q2, -⟩ | ⟨-, γ, g1, g2⟩
        · exact absurd q2 c
        · refine ⟨γ, ?_, ?_⟩
          · rw [← gu]; exact g1
          · rw [← u44]; exact g2
    · rw [if_neg (show ¬ (u.setA 66 t (s.i 10)).i 10 = 431 from fun z => c431 (u10.symm.trans z))]
      exact good (fun z => absurd z c431)
theorem run_ending {N b : Nat} (hN : 1000 ≤ N) (hx : 1 ≤ b → RUNE N 16 4 11 24 (b - 1)) : RUNK N b 6 (fun x => x = 412 ∨ x = 420 ∨ x = 431) := by
  intro n s t P hI hp ht hS hT hb hc hn hF hC
  have hf := hI.1.f0
  have hop := hI.op
  have h9 : t < 998 := by omega
  obtain ⟨n', rfl⟩ : ∃ n', n = n' + 1 := ⟨n - 1, by omega⟩
  have push : ((n' + 1 : Nat) : Int) = (n' : Int) + 1 := by omega
  rw [push] at hn hC
  have n1 : 1 ≤ n' := by omega
  have hz : ¬ s.i 10 = 0 := by rcases hT with h | h | h <;> (rw [h]; decide)
  exact END2 hN hx hI ht h9 hb hc hn hF hC hz (SK.lxi hI) (fun j h1 h2 => SK.eI h1 h2) (SK.tab hI) (SK.kp hI) (SK.cd hI) SK.a21 SK.a64 (by rw [SK.a (by decide) (by decide) (by decide) (by decide)]; exact hS) (SK.a (by decide) (by decide) (by decide) (by decide)) n1 hT
end
section
/-! reading: throw; statements over any state that is like the one behind the step -/
def SKF (s u : RS) (t : Nat) (K : Int32) : Prop := LXI u ∧ (∀ j : Nat, j ≠ 20 → j ≠ 53 → u.i j = s.i j) ∧ TAB u ∧ KP t s u ∧ cdI u = cdI s + 1 ∧ u.a 21 (cdI s).toNat = 1 ∧ u.a 64 t = K ∧ u.a 65 t = 0 ∧ (∀ k : Nat, k ≠ 21 → k ≠ 22 → k ≠ 23 → k ≠ 64 → u.a k = s.a k)
theorem SK.f {s : RS} {t : Nat} (K : Int32) (hI : INV s) (hS : s.a 65 t = 0) : SKF s (SK s t K) t K := ⟨SK.lxi hI, fun j h1 h2 => SK.eI h1 h2, SK.tab hI, SK.kp hI, SK.cd hI, SK.a21, SK.a64, by rw [SK.a (by decide) (by decide) (by decide) (by decide)]; exact hS, fun k h1 h2 h3 h4 => SK.a h1 h2 h3 h4⟩
def RUNU (N b : Nat) (K : Int32) (T : Int32 → Prop) : Prop := ∀ (n : Nat) (s u : RS) (t : Nat) (P : RS → Prop), INV s → PRS s → tpI s = t → SKF s u t K → tpI u = t → u.i 15 = 0 → T (s.i 10) → ¬ s.i 10 = 0 → t < 998 → 2 * (t : Int) ≤ fr s + 12 * op s + 2 → 900 - fr s ≤ b → 36000 + 29 ≤ (n : Int) + 1 + 40 * fr s → 1 ≤ n → (∀ u, FS' s u → P u) → (∀ (m : Nat) (u : RS), PS t s u → fr s + 1 ≤ fr u → (n : Int) + 1 + 40 * fr s + 11 ≤ m + 40 * fr u → ok (f_X12_parse_10 N m u) P) → ok (f_X12_parse_10 N (n + 1) u) P
theorem RUNU.k {N b : Nat} {K : Int32} {T : Int32 → Prop} (h : RUNU N b K T) (hT0 : ∀ x, T x → ¬ x = 0) : RUNK N b K T := by
  intro n s t P hI hp ht hS hT hb hc hn hF hC
  have hf := hI.1.f0
  have hop := hI.op
  obtain ⟨n', rfl⟩ : ∃ n', n = n' + 1 := ⟨n - 1, by omega⟩
  have push : ((n' + 1 : Nat) : Int) = (n' : Int) + 1 := by omega
  rw [push] at hn hC
  exact h n' s (SK s t K) t P hI hp ht (SK.f K hI hS) ht hI.2.2.1 hT (hT0 _ hT) (by omega) hb hc hn (by omega) hF hC
theorem STA {N : Nat} (hN : 1000 ≤ N) {s u : RS} {t : Nat} {K : Int32} (hI : INV s) (ht : tpI s = t) (hz : ¬ s.i 10 = 0) (hu : SKF s u t K) : ∃ R, f_X12_next N u = some R ∧ MK t K s R ∧ LX u R := by
  obtain ⟨ul, ui, ut, uk, uc, u21, u64, u65, ua⟩ := hu
  obtain ⟨R, eR, x1, x2, x3, x4⟩ := p_nx hN ul
  obtain ⟨r15, rc⟩ := x4 ((ui 15 (by decide) (by decide)).trans hI.2.2.1)
  obtain ⟨c1, c2, c3⟩ := rc (fun z => hz ((ui 10 (by decide) (by decide)).symm.trans z))
  have fu : fr u = fr s := by unfold fr; rw [ui 11 (by decide) (by decide)]
  have u10 : u.i 10 = s.i 10 := ui 10 (by decide) (by decide)
  have hf := hI.1.f0
  have n12 := hI.tk
  have tk : tkI R = tkI s + 1 := tk_add (u := s) (c1.trans (congrArg (· + 1) (ui 17 (by decide) (by decide)))) ⟨n12.1, by omega⟩
  have kR : KP t s R := uk.lx x1
  have tR : TAB R := ut.lx x1
  have e := x1.tbl
  have ecd : cdI R = cdI s + 1 := e.cd.trans uc
  have rt : RATE s R := by
    have e2 : enI R = enI s := by rw [e.en]; unfold enI; rw [ui 24 (by decide) (by decide)]
    have e3 : trI R = trI s := by rw [e.tt]; unfold trI; rw [ui 29 (by decide) (by decide)]
    have e4 : caI R = caI s := by rw [e.ca]; unfold caI; rw [ui 33 (by decide) (by decide)]
    have e5 : slI R = slI s := by rw [e.sl]; unfold slI; rw [ui 42 (by decide) (by decide)]
    have e6 : peI R = peI s := by rw [e.pe]; unfold peI; rw [ui 59 (by decide) (by decide)]
    unfold RATE
    omega
  have ss : SAME s R := SAME.tr (show SAME s u from ⟨ui 19 (by decide) (by decide), ui 43 (by decide) (by decide), ui 52 (by decide) (by decide), ui 56 (by decide) (by decide)⟩) (x1.same x2)
  have e38 : R.i 38 = s.i 38 := x1.i38.trans (ui 38 (by decide) (by decide))
  have tp : tpI R = t := x1.tp.trans ((congrArg Int32.toInt (ui 63 (by decide) (by decide))).trans ht)
  exact ⟨R, eR, ⟨hI.mkS kR x1.2.2.2.1 r15 tR ss (SNW.eq e38 kR.2.2.2.2.2.1.2.1) rt (by omega) (by omega), tp, kR, ss, e38, rt, by omega, tk, ecd, by rw [x1.1]; exact u21, by rw [x1.1]; exact u64, by rw [x1.1]; exact u65, fun q => by have := c3 (Or.inl (by rw [u10]; exact q)); omega, fun k h1 h2 h3 h4 => by rw [x1.1]; exact ua k h1 h2 h3 h4⟩, x1⟩
/-- the frame is done -/
theorem PSM {t : Nat} {s R : RS} {x : Int32} (h9 : t < 1000) (hx : x = 0 ∨ x = 1) (a1 : INV R) (a2 : tpI R = t) (a3 : KP t s R) (a4 : SAME s R) (a5 : SNW s R) (a6 : RATE s R) (a7 : fr s ≤ fr R) (a8 : tkI s ≤ tkI R) (a9 : ¬ 0 ≤ R.i 18 → TS s (R.setI 75 x)) : PS t s ((R.setI 75 x).setI 63 (R.i 63 - 1)) := by
  refine ⟨(a1.i75 x hx).i63 _, tp_sub a2 h9, (a3.i75 x).i63 _, a4, a6, a5, a7, a8, fun z => ?_⟩
  exact (a9 z).tbs (TBL.rf s) (TBL.i63 (R.setI 75 x) _).tbs rfl (Int.le_refl _) (by have := a1.1.f0; omega) (fun q => q)
theorem e_thr {N : Nat} {u : RS} {t : Nat} (ht : tpI u = t) (h9 : t < 1000) (h0 : u.a 65 t = 0) : f_X12_throwing N u (u.i 63) = (f_X12_next N u).bind fun p3 => (if (p3.i 10) = 5 then (f_X12_can N p3 1).bind fun p6 => (if p6.1 = 0 then some p6.2 else f_X12_throwing_69 N p6.2 (u.i 63)) else (if (p3.i 10) = 2 then (f_X12_can N p3 1).bind fun p37 => (if p37.1 = 0 then some p37.2 else f_X12_throwing_69 N p37.2 (u.i 63)) else (f_X12_can N p3 0).bind fun p34 => (if p34.1 = 0 then some p34.2 else f_X12_throwing_69 N p34.2 (u.i 63)))) := by
  unfold f_X12_throwing
  rw [if_pos (tp_ib ht h9), tp_nat ht, if_neg (by rw [h0]; decide)]
theorem run_throw {N b : Nat} (hN : 1000 ≤ N) (hx : 1 ≤ b → RUNE N 16 4 11 24 (b - 1)) : RUNU N b 7 (fun x => x = 421) := by
  intro n s u t P hI hp ht hu tu u15 hT hz h9 hb hc hn n1 hF hC
  have hf := hI.1.f0
  have cs := hI.cd
  refine lp_7 tu (by omega) u15 hu.2.2.2.2.2.2.1 ?_
  rw [e_thr tu (by omega) hu.2.2.2.2.2.2.2.1]
  obtain ⟨R, eR, hR, xR⟩ := STA hN hI ht hz hu
  have mR := hR.mm
  obtain ⟨r1, r2, r3, r4, r5, r6, r7, r8, r9, r10, r11, r12, r13, r14⟩ := hR
  have r13 := r13 (by rw [hT]; decide)
  rw [eR]
  have ei : u.i 63 = R.i 63 := xR.i63.symm
  rw [ei]
  show ok ((if (R.i 10) = 5 then (f_X12_can N R 1).bind fun p6 => (if p6.1 = 0 then some p6.2 else f_X12_throwing_69 N p6.2 (R.i 63)) else (if (R.i 10) = 2 then (f_X12_can N R 1).bind fun p37 => (if p37.1 = 0 then some p37.2 else f_X12_throwing_69 N p37.2 (R.i 63)) else (f_X12_can N R 0).bind fun p34 => (if p34.1 = 0 then some p34.2 else f_X12_throwing_69 N p34.2 (R.i 63))) : Option RS).bind fun p => f_X12_parse_10 N n p) P
  have flt : ∀ S, LX R S → ¬ S.i 15 = 0 → FS' s S := fun S h1 h2 => FS'.of r3.1.1 h1 h2 r1.r
  have c1 : ∀ h6 : ¬ R.i 10 = 6, (((f_X12_can N R 1).bind fun p6 => (if p6.1 = 0 then some p6.2 else f_X12_throwing_69 N p6.2 (R.i 63))) : Option RS) = f_X12_throwing_69 N R (R.i 63) := fun h6 => by
    rw [can1 r1.2.2.1 h6]
    show (if (1 : Int32) = 0 then some R else f_X12_throwing_69 N R (R.i 63)) = _
    rw [if_neg (by decide)]
  have bad : ∀ w : Int32, ok (((f_X12_fail N R 3 w).bind fun p31 => some p31).bind fun p => f_X12_parse_10 N n p) P := fun w => by
    obtain ⟨S, eS, q1, q2, q3⟩ := p_fl (N := N) r1.1 3 w (by decide)
    rw [eS]
    exact lp_f q2 (hF S (flt S q1 q2)) n1
  by_cases c5 : R.i 10 = 5
  · rw [if_pos c5, c1 (by rw [c5]; decide)]
    unfold f_X12_throwing_69
    rw [if_pos c5]
    by_cases ck : R.i 14 < R.i 3
    · rw [if_pos ck, if_pos (tp_ib r2 (by omega)), tp_nat r2]
      have mL : MM t s (R.setA 66 t (R.i 14)) := mR.loc (k := 66) (R.i 14) (by omega) (by omega)
      obtain ⟨S, eS, y1, y2, y3, y4, y5, y6, y7⟩ := NX hN mL.1 (show ¬ R.i 10 = 0 by rw [c5]; decide)
      rw [eS]
      show ok (((f_X12_then N S 1 16).bind fun p29 => some p29).bind fun p => f_X12_parse_10 N n p) P
      have mS : MM t s S := mL.lx y4 y1 y3 y5 y6
      have y5 : fr R + 1 ≤ fr S := y5
      rw [p_th 1 16 mS.2.1 (by omega)]
      show ok (f_X12_parse_10 N n (TH S t 1 16)) P
      have fS := y4.1.f0
      have oS : op S = op s := mS.2.2.2.1.eOp
      refine CALL (hx (by omega)) y4 mS.2.1 (by omega) (by omega) (by omega) (by omega) (fun u hu => hF u (FS'.kp mS.2.2.1 hu)) (fun m2 v hv hm2 => ?_)
      have mV := mS.pc hv
      obtain ⟨v1, v2, v3, v4, v5, v6, v7, v8, v9, v10, v11, v12⟩ := hv
      have fv := v1.1.f0
      have cv := v1.cd
      obtain ⟨m3, rfl⟩ : ∃ m3, m2 = m3 + 1 := ⟨m2 - 1, by omega⟩
      have push2 : ((m3 + 1 : Nat) : Int) = (m3 : Int) + 1 := by omega
      rw [push2] at hm2
      have S64 : S.a 64 t = 7 := by rw [y1.1, setA_nk (by decide)]; exact r11
      have e66 : v.a 66 t = R.i 14 := by rw [v12 66 (by omega) (by omega) (by omega), y1.1]; exact setA_at
      refine lp_7 v2 (by omega) v1.2.2.1 (by rw [v12 64 (by omega) (by omega) (by omega)]; exact S64) ?_
      unfold f_X12_throwing
      rw [if_pos (tp_ib v2 (by omega)), tp_nat v2, if_pos v11, e66, p_em 19 (R.i 14) cv.1 cv.2.2]
      show ok (((f_X12_need N (EM v 19 (R.i 14)) 59).bind fun p25 => (f_X12_over N p25.2 0).bind fun p27 => some p27).bind fun p => f_X12_parse_10 N m3 p) P
      have eE := EM.cd (u := v) (o := 19) (x := R.i 14) cv.1 cv.2.2
      have ra := mV.2.2.2.2.2.1
      have cS : cdI S = cdI s + 1 := by rw [y1.tbl.cd]; exact r9
      have lt := v3.2.1.1
      have i3 : v.i 3 = R.i 3 := by rw [mV.2.2.1.1.1.1 3 (by omega), r3.1.1.1 3 (by omega)]
      refine END (x := 0) hN (by omega) hI (Or.inl rfl) (by omega) (MID.em mV hI (by unfold RATE at ra v6; omega) (fun z => ?_)) hF (fun W hW hfW => hC m3 W hW (by have hfW : fr v + 1 ≤ fr W := hfW; omega) (by have hfW : fr v + 1 ≤ fr W := hfW; omega))
      refine TS.e1 (o9 := 19) (x := R.i 14) (W := (EM v 19 (R.i 14)).setI 75 0) mS.2.2.1 (v9 z) v3 v1.tn (((KP.rf t v).em cv.1 cv.2.2).i75 0) (Int.le_refl _) cs.1 cS eE ?_ ?_ ?_ (by decide) mS.2.2.2.2.1 mS.2.2.2.1.2.2.1 mV.2.2.2.1.2.2.1 (by omega) v7 fv.2 (fun f C g h o lv rs hC' hg hy hi3 hE g1 g2 g3 ek2 => ?_)
      · show (EM v 19 (R.i 14)).a 21 (cdI s).toNat = 1
        rw [EM.a21, if_neg (by omega), v3.2.1.2.1 (cdI s).toNat (by omega), y1.1, setA_nk (by decide)]
        exact r10
      · show (EM v 19 (R.i 14)).a 21 (cdI v).toNat = 19
        rw [EM.a21, if_pos rfl]
      · show (EM v 19 (R.i 14)).a 22 (cdI v).toNat = R.i 14
        rw [EM.a22, if_pos rfl]
      · have hi3 : (v.i 3).toInt ≤ (f.i 3).toInt := hi3
        rw [i3] at hi3
        exact okJ_19 (c := (h + 1, o, lv, false, rs)) g1 ⟨by show 1 ≤ h + 1; omega, by rw [g2]; have := lt_int ck; omega⟩
    · rw [if_neg ck]
      exact bad _
  rw [if_neg c5]
  by_cases c2 : R.i 10 = 2
  · rw [if_pos c2, c1 (by rw [c2]; decide)]
    unfold f_X12_throwing_69
    rw [if_neg c5]
    have nse := r1.2.2.2.2.2.2.2.2.2.1
    have nsl := r1.2.2.2.2.2.2.2.2.2.2.1
    have rf := r1.1.f0
    obtain ⟨⟨p1, p2⟩, ep, e2, e3⟩ := p_sa hN R.l nse.1 (by omega)
    have e2 : p2 = R := e2
    subst e2
    rw [ep]
    show ok ((if p1 < 0 then f_X12_throwing_142 N p2 else if ib p1 460 then (if (p2.a 41 ((p1 : Int32).toNatClampNeg)) = 0 then f_X12_throwing_142 N p2 else (f_X12_emit N p2 21 (p2.a 40 ((p1 : Int32).toNatClampNeg))).bind fun p17 => (f_X12_next N p17.2).bind fun p19 => (f_X12_need N p19 59).bind fun p21 => (f_X12_over N p21.2 0).bind fun p23 => some p23) else none : Option RS).bind fun p => f_X12_parse_10 N n p) P
    by_cases cn : p1 < 0
    · rw [if_pos cn]
      exact bad _
    · rw [if_neg cn]
      rcases e3 with h | ⟨h1, h2⟩
      · have h : ¬ 0 ≤ p1 := h
        exact absurd (Int32.le_iff_toInt_le.mpr (by
          have : ¬ p1.toInt < (0 : Int32).toInt := fun z => cn (Int32.lt_iff_toInt_lt.mpr z)
          rw [z_t0] at this ⊢
          omega)) h
      · have h1 : 0 ≤ p1.toInt := h1
        have h2 : p1.toInt < seI p2 := h2
        rw [if_pos (show ib p1 460 from ⟨h1, by omega⟩)]
        by_cases c41 : p2.a 41 p1.toNatClampNeg = 0
        · rw [if_pos c41]
          exact bad _
        · have cR := r1.cd
          rw [if_neg c41, p_em 21 _ cR.1 cR.2.2]
          obtain ⟨S, eS, mS, xS, s1, s2, s3, s4⟩ := MM.emnx (o := 21) (x := p2.a 40 p1.toNatClampNeg) hN hI mR (by rw [c2]; decide) (by omega)
          show ok (((f_X12_next N (EM p2 21 (p2.a 40 p1.toNatClampNeg))).bind fun p19 => (f_X12_need N p19 59).bind fun p21 => (f_X12_over N p21.2 0).bind fun p23 => some p23).bind fun p => f_X12_parse_10 N n p) P
          rw [eS]
          show ok (((f_X12_need N S 59).bind fun p21 => (f_X12_over N p21.2 0).bind fun p23 => some p23).bind fun p => f_X12_parse_10 N n p) P
          refine END (x := 0) hN (by omega) hI (Or.inl rfl) n1 (MID.mm mS (fun z => ?_)) hF (fun W hW hfW => hC n W hW (by omega) (by omega))
          have ci := clampI h1
          have e40 : p2.a 40 = s.a 40 := r14 40 (by decide) (by decide) (by decide) (by decide)
          have e41 : p2.a 41 = s.a 41 := r14 41 (by decide) (by decide) (by decide) (by decide)
          have ese : seI p2 = seI s := by unfold seI; rw [r5]
          have tb := hI.2.2.2.1.2.2.2.2.1 p1.toNatClampNeg (by omega)
          have nsl' := hI.2.2.2.2.2.2.2.2.2.2.1
          refine TS.i1 (o9 := 21) (x := p2.a 40 p1.toNatClampNeg) (W := S.setI 75 0) cs.1 (by show cdI S = _; omega) ?_ ?_ ?_ (by decide) (fun f C g h o lv rs hC' hg hE g1 g2 ek => ?_)
          · show S.a 21 (cdI s).toNat = 1
            rw [xS.1, EM.a21, if_neg (by omega)]; exact r10
          · show S.a 21 (cdI s + 1).toNat = 21
            rw [xS.1, EM.a21, if_pos (by rw [r9])]
          · show S.a 22 (cdI s + 1).toNat = _
            rw [xS.1, EM.a22, if_pos (by rw [r9])]
          · have eg : (p2.a 40 p1.toNatClampNeg).toInt = gv s 40 p1.toNatClampNeg := by unfold gv; rw [e40]
            refine okJ_21 (c := (h, o, lv, false, rs)) g1 ⟨by rw [g2, eg]; exact ⟨tb.1, by have := tb.2.1; omega⟩, ?_⟩
            rw [g2, eg]
            exact (hE.1.2 p1.toNatClampNeg (by omega)).mpr (by rw [← e41]; exact c41)
  · rw [if_neg c2]
    obtain ⟨S, eS, q1, q2⟩ := can0 (N := N) r1.1 r1.2.2.1
    rw [eS]
    exact lp_f q2 (hF S (flt S q1 q2)) n1
end
section
/-! reading: break and continue -/
theorem bk_cases (b : Bool) : bk b = 48 ∨ bk b = 49 := by cases b; exact Or.inr rfl; exact Or.inl rfl
theorem fg_cases (b : Bool) : fgB b = 50 ∨ fgB b = 51 := by cases b; exact Or.inr rfl; exact Or.inl rfl
theorem bk_inj {b b' : Bool} (h : bk b = bk b') : b = b' := by cases b <;> cases b' <;> first | rfl | exact absurd h (by decide)
def JV (σ : RS) (x1 x3 x4 : Int32) : Prop := 0 ≤ x4.toInt ∧ x4.toInt < goI σ ∧ NOARM σ x4.toNatClampNeg ∧ ¬ σ.a 44 x4.toNatClampNeg = 3 ∧ (x3 = 0 → σ.a 44 x4.toNatClampNeg = 0 ∨ (¬ x1 = 0 ∧ σ.a 44 x4.toNatClampNeg = 1)) ∧ (¬ x3 = 0 → σ.a 44 x4.toNatClampNeg = 2)
theorem p_j60 {N : Nat} {σ : RS} (x1 x2 x3 : Int32) (h4 : goI σ ≤ 460) : ∀ (n : Nat) (y g : Int32), -1 ≤ g.toInt → g.toInt < goI σ → g.toInt + 2 ≤ n → (JV σ x1 x3 y ∨ ¬ 0 ≤ y ∧ ∀ δ : Nat, g.toInt < δ → (δ : Int) < goI σ → ¬ σ.a 44 δ = 3) → ∃ x4, f_X12_jump_60 N n σ x1 x2 x3 y g = f_X12_jump_171 N σ x1 x2 x3 x4 ∧ (JV σ x1 x3 x4 ∨ ¬ 0 ≤ x4)
  | 0, y, g, h1, _, h3, _ => by omega
  | n + 1, y, g, h1, h2, h3, hy => by
    show ∃ x4, b_X12_jump_60 N (f_X12_jump_60 N n) σ x1 x2 x3 y g = _ ∧ _
    unfold b_X12_jump_60
    have stop : ∃ x4, f_X12_jump_171 N σ x1 x2 x3 y = f_X12_jump_171 N σ x1 x2 x3 x4 ∧ (JV σ x1 x3 x4 ∨ ¬ 0 ≤ x4) := ⟨y, rfl, by rcases hy with h | h; exact Or.inl h; exact Or.inr h.1⟩
    by_cases c : g < 0
    · rw [if_pos c]; exact stop
    rw [if_neg c]
    have h0 : 0 ≤ g.toInt := by
      have : ¬ g.toInt < (0 : Int32).toInt := fun z => c (Int32.lt_iff_toInt_lt.mpr z)
      rw [z_t0] at this
      omega
    have ci := clampI h0
    rw [if_pos (show ib g 460 from ⟨h0, by omega⟩)]
    by_cases c3 : σ.a 44 g.toNatClampNeg = 3
    · rw [if_pos c3]; exact stop
    rw [if_neg c3]
    by_cases cy : 0 ≤ y
    · rw [if_pos cy]; exact stop
    rw [if_neg cy]
    have hn : ∀ δ : Nat, g.toInt < δ → (δ : Int) < goI σ → ¬ σ.a 44 δ = 3 := by
      rcases hy with h | h
      · exact absurd (Int32.le_iff_toInt_le.mpr (by rw [z_t0]; exact h.1)) cy
      · exact h.2
    have e1 : (-1 : Int32).toInt = -1 := by decide
    have ek : (g + -1).toInt = g.toInt - 1 := by rw [toInt_add] <;> rw [e1] <;> omega
    have next : ∃ x4, f_X12_jump_60 N n σ x1 x2 x3 y (g + -1) = f_X12_jump_171 N σ x1 x2 x3 x4 ∧ (JV σ x1 x3 x4 ∨ ¬ 0 ≤ x4) := p_j60 x1 x2 x3 h4 n y (g + -1) (by omega) (by omega) (by omega) (Or.inr ⟨cy, fun δ d1 d2 => by
      by_cases e : δ = g.toNatClampNeg
      · subst e; exact c3
      · exact hn δ (by omega) d2⟩)
    have take : (x3 = 0 → σ.a 44 g.toNatClampNeg = 0 ∨ (¬ x1 = 0 ∧ σ.a 44 g.toNatClampNeg = 1)) → (¬ x3 = 0 → σ.a 44 g.toNatClampNeg = 2) → ∃ x4, f_X12_jump_60 N n σ x1 x2 x3 g (g + -1) = f_X12_jump_171 N σ x1 x2 x3 x4 ∧ (JV σ x1 x3 x4 ∨ ¬ 0 ≤ x4) := fun t1 t2 => p_j60 x1 x2 x3 h4 n g (g + -1) (by omega) (by omega) (by omega) (Or.inl ⟨h0, h2, fun δ d1 d2 => hn δ (by omega) d2, c3, t1, t2⟩)
    by_cases cx : x3 = 0
    · rw [if_pos cx]
      by_cases c0 : σ.a 44 g.toNatClampNeg = 0
      · rw [if_pos c0]; exact take (fun _ => Or.inl c0) (fun q => absurd cx q)
      rw [if_neg c0]
      by_cases cb : x1 = 0
      · rw [if_pos cb]; exact next
      rw [if_neg cb]
      by_cases c1 : σ.a 44 g.toNatClampNeg = 1
      · rw [if_pos c1]; exact take (fun _ => Or.inr ⟨cb, c1⟩) (fun q => absurd cx q)
      · rw [if_neg c1]; exact next
    · rw [if_neg cx]
      by_cases c2 : σ.a 44 g.toNatClampNeg = 2
      · rw [if_pos c2]
        by_cases cl : lg_cmp (σ.b 45 g.toNatClampNeg) σ.l = 0
        · rw [if_pos cl]; exact take (fun q => absurd q cx) (fun _ => c2)
        · rw [if_neg cl]; exact next
      · rw [if_neg c2]; exact next
/-- a jump is laid -/
def JQ (R q : RS) (γ : Nat) (b : Bool) : Prop := (∀ j : Nat, j ≠ 20 → q.i j = R.i j) ∧ cdI q = cdI R + 1 ∧ (∀ k : Nat, k ≠ 21 → k ≠ 22 → k ≠ 23 → k ≠ bk b → q.a k = R.a k) ∧ (∀ j : Nat, j ≠ (cdI R).toNat → q.a 21 j = R.a 21 j ∧ q.a 22 j = R.a 22 j ∧ q.a 23 j = R.a 23 j) ∧ q.a 21 (cdI R).toNat = 36 ∧ gv q 22 (cdI R).toNat = hd R b γ ∧ q.a 23 (cdI R).toNat = R.a 47 γ ∧ (∀ δ : Nat, δ ≠ γ → q.a (bk b) δ = R.a (bk b) δ) ∧ hd q b γ = cdI R ∧ q.b = R.b
theorem JQ.mk {R : RS} {γ : Nat} {b : Bool} (c0 : 0 ≤ cdI R) (c3 : cdI R < 3000) : JQ R (((EM R 36 (R.a (bk b) γ)).setA 23 (cdI R).toNat (R.a 47 γ)).setA (bk b) γ (R.i 20)) γ b := by
  have b1 : bk b ≠ 21 := by rcases bk_cases b with h | h <;> rw [h] <;> decide
  have b2 : bk b ≠ 22 := by rcases bk_cases b with h | h <;> rw [h] <;> decide
  have b3 : bk b ≠ 23 := by rcases bk_cases b with h | h <;> rw [h] <;> decide
  refine ⟨fun j hj => EM.i hj, EM.cd (o := 36) (x := R.a (bk b) γ) c0 c3, fun k h1 h2 h3 h4 => (setA_nk h4).trans ((setA_nk h3).trans (EM.a h1 h2 h3)), fun j hj => ⟨?_, ?_, ?_⟩, ?_, ?_, ?_, fun δ hδ => ?_, ?_, rfl⟩
  · rw [setA_nk b1.symm, setA_nk (by decide), EM.a21, if_neg hj]
  · rw [setA_nk b2.symm, setA_nk (by decide), EM.a22, if_neg hj]
  · rw [setA_nk b3.symm, setA_ne hj, EM.a23, if_neg hj]
  · rw [setA_nk b1.symm, setA_nk (by decide), EM.a21, if_pos rfl]
  · unfold gv
    rw [setA_nk b2.symm, setA_nk (by decide), EM.a22, if_pos rfl]
    rfl
  · rw [setA_nk b3.symm, setA_at]
  · rw [setA_ne hδ, setA_nk b3, EM.a b1 b2 b3]
  · unfold hd gv
    rw [setA_at]
    rfl
theorem JQ.oth {R q : RS} {γ : Nat} {b : Bool} (h : JQ R q γ b) {γ' : Nat} {b' : Bool} (hne : ¬ (γ' = γ ∧ b' = b)) : hd q b' γ' = hd R b' γ' := by
  obtain ⟨h1, h2, h3, h4, h5, h6, h7, h8, h9, h10⟩ := h
  unfold hd gv
  by_cases c : b' = b
  · subst c
    rw [h8 γ' (fun e => hne ⟨e, rfl⟩)]
  · have b1 : bk b' ≠ 21 := by rcases bk_cases b' with h | h <;> rw [h] <;> decide
    have b2 : bk b' ≠ 22 := by rcases bk_cases b' with h | h <;> rw [h] <;> decide
    have b3 : bk b' ≠ 23 := by rcases bk_cases b' with h | h <;> rw [h] <;> decide
    rw [h3 (bk b') b1 b2 b3 (fun e => c (bk_inj e))]
theorem JQ.is {R q : RS} {γ : Nat} {b : Bool} (h : JQ R q γ b) (c0 : 0 ≤ cdI R) {y : Int} {L : List Nat} (hI : ISCH R y L) (hL : ∀ x ∈ L, (x : Int) < cdI R) : ISCH q y L := hI.of (fun x hx => by
  have := hL x hx
  have := h.2.2.2.1 x (by omega)
  exact ⟨this.1, this.2.1⟩)
theorem JQ.me {R q : RS} {γ : Nat} {b : Bool} (h : JQ R q γ b) (c0 : 0 ≤ cdI R) {L : List Nat} (hI : ISCH R (hd R b γ) L) (hL : ∀ x ∈ L, (x : Int) < cdI R) : ISCH q (hd q b γ) ((cdI R).toNat :: L) := by
  have := h.is c0 hI hL
  rw [h.2.2.2.2.2.2.2.2.1]
  exact ⟨(Int.toNat_of_nonneg c0).symm, h.2.2.2.2.1, by rw [h.2.2.2.2.2.1]; exact this⟩
theorem JQ.kp {t : Nat} {s R q : RS} {γ : Nat} {b : Bool} (h : JQ R q γ b) (hk : KP t s R) (h0 : 0 ≤ cdI s) (hn : TN R) : KP t s q := by
  obtain ⟨⟨a1, a1'⟩, a2, a3, a4, a5, a6, a7, a8, a9, a10, a11⟩ := hk
  obtain ⟨h1, h2, h3, h4, h5, h6, h7, h8, h9, h10⟩ := id h
  have c0 : 0 ≤ cdI R := by have := a2.1; omega
  have ek : ((cdI R).toNat : Int) = cdI R := Int.toNat_of_nonneg c0
  have ea : ∀ k : Nat, k ≠ 21 → k ≠ 22 → k ≠ 23 → k ≠ 48 → k ≠ 49 → q.a k = R.a k := fun k e1 e2 e3 e4 e5 => h3 k e1 e2 e3 (by rcases bk_cases b with e | e <;> rw [e] <;> assumption)
  have cs := a2.1
  have eb : ∀ (k : Nat) (m : Int), k ≠ 21 → k ≠ 22 → k ≠ 23 → k ≠ 48 → k ≠ 49 → bel k m s q = bel k m s R := fun k m e1 e2 e3 e4 e5 => by unfold bel; rw [ea k e1 e2 e3 e4 e5]
  have en : enI q = enI R := by unfold enI; rw [h1 24 (by decide)]
  have et : trI q = trI R := by unfold trI; rw [h1 29 (by decide)]
  have ec : caI q = caI R := by unfold caI; rw [h1 33 (by decide)]
  have es : seI q = seI R := by unfold seI; rw [h1 38 (by decide)]
  have el : slI q = slI R := by unfold slI; rw [h1 42 (by decide)]
  have eg : goI q = goI R := by unfold goI; rw [h1 43 (by decide)]
  have ew : waI q = waI R := by unfold waI; rw [h1 56 (by decide)]
  have ep : peI q = peI R := by unfold peI; rw [h1 59 (by decide)]
  refine ⟨⟨⟨fun j hj => (h1 j (by omega)).trans (a1.1 j hj), fun k hk => (ea k (by omega) (by omega) (by omega) (by omega) (by omega)).trans (a1.2.1 k hk), by rw [h10]; exact a1.2.2⟩, fun z => by rw [h1 18 (by decide)]; exact a1' z⟩, ⟨by omega, fun j hj => (h4 j (by omega)).1.trans (a2.2.1 j hj), fun j hj => (h4 j (by omega)).2.1.trans (a2.2.2.1 j hj), fun j hj => (h4 j (by omega)).2.2.trans (a2.2.2.2 j hj)⟩, ?_, ?_, ?_, ?_, ?_, fun γ' b' L hγ hI hL => ?_, ?_, ?_, fun k k1 k2 => ?_⟩
  · unfold KE; rw [en, eb _ _ (by decide) (by decide) (by decide) (by decide) (by decide), eb _ _ (by decide) (by decide) (by decide) (by decide) (by decide), eb _ _ (by decide) (by decide) (by decide) (by decide) (by decide), eb _ _ (by decide) (by decide) (by decide) (by decide) (by decide)]; exact a3
  · unfold KT; rw [et, eb _ _ (by decide) (by decide) (by decide) (by decide) (by decide), eb _ _ (by decide) (by decide) (by decide) (by decide) (by decide), eb _ _ (by decide) (by decide) (by decide) (by decide) (by decide)]; exact a4
  · unfold KH; unfold gv; rw [ec, eb _ _ (by decide) (by decide) (by decide) (by decide) (by decide), eb _ _ (by decide) (by decide) (by decide) (by decide) (by decide), eb _ _ (by decide) (by decide) (by decide) (by decide) (by decide), eb _ _ (by decide) (by decide) (by decide) (by decide) (by decide), el, ea 36 (by decide) (by decide) (by decide) (by decide) (by decide)]; exact a5
  · unfold KS; rw [es, el, eb _ _ (by decide) (by decide) (by decide) (by decide) (by decide), eb _ _ (by decide) (by decide) (by decide) (by decide) (by decide)]; exact a6
  · unfold KG; rw [eg, eb _ _ (by decide) (by decide) (by decide) (by decide) (by decide), eb _ _ (by decide) (by decide) (by decide) (by decide) (by decide), ea 50 (by decide) (by decide) (by decide) (by decide) (by decide), ea 51 (by decide) (by decide) (by decide) (by decide) (by decide), ea 46 (by decide) (by decide) (by decide) (by decide) (by decide)]; exact a7
  · obtain ⟨L1, c1, c2⟩ := a8 γ' b' L hγ hI hL
    have hlt : ∀ x ∈ L1 ++ L, (x : Int) < cdI R := fun x hx => by
      rcases List.mem_append.mp hx with hx | hx
      · exact (c2 x hx).2
      · have := hL x hx; omega
    by_cases c : γ' = γ ∧ b' = b
    · obtain ⟨rfl, rfl⟩ := c
      refine ⟨(cdI R).toNat :: L1, h.me c0 c1 hlt, fun x hx => ?_⟩
      rcases List.mem_cons.mp hx with hx | hx
      · rw [hx]; omega
      · have := c2 x hx; omega
    · refine ⟨L1, by rw [h.oth c]; exact h.is c0 c1 hlt, fun x hx => by have := c2 x hx; omega⟩
  · unfold KW; rw [ew, eb _ _ (by decide) (by decide) (by decide) (by decide) (by decide), eb _ _ (by decide) (by decide) (by decide) (by decide) (by decide)]; exact a9
  · unfold KQ; rw [ep, eb _ _ (by decide) (by decide) (by decide) (by decide) (by decide), eb _ _ (by decide) (by decide) (by decide) (by decide) (by decide), eb _ _ (by decide) (by decide) (by decide) (by decide) (by decide)]; exact a10
  · rw [eb k _ (by omega) (by omega) (by omega) (by omega) (by omega)]; exact a11 k k1 k2
theorem JQ.tab {R q : RS} {γ : Nat} {b : Bool} (h : JQ R q γ b) (ht : TAB R) (c0 : 0 ≤ cdI R) (hγ : (γ : Int) < goI R) : TAB q := by
  obtain ⟨h1, h2, h3, h4, h5, h6, h7, h8, h9, h10⟩ := id h
  obtain ⟨⟨a0, b1, b2, b3, b4⟩, a1, a2, a3, a4, a5, a6, a7, a8, a9⟩ := ht
  have ea : ∀ k : Nat, k ≠ 21 → k ≠ 22 → k ≠ 23 → k ≠ 48 → k ≠ 49 → q.a k = R.a k := fun k e1 e2 e3 e4 e5 => h3 k e1 e2 e3 (by rcases bk_cases b with e | e <;> rw [e] <;> assumption)
  have eg' : ∀ (k i : Nat), k ≠ 21 → k ≠ 22 → k ≠ 23 → k ≠ 48 → k ≠ 49 → gv q k i = gv R k i := fun k i e1 e2 e3 e4 e5 => by unfold gv; rw [ea k e1 e2 e3 e4 e5]
  have ek : ((cdI R).toNat : Int) = cdI R := Int.toNat_of_nonneg c0
  have en : enI q = enI R := by unfold enI; rw [h1 24 (by decide)]
  have et : trI q = trI R := by unfold trI; rw [h1 29 (by decide)]
  have ec : caI q = caI R := by unfold caI; rw [h1 33 (by decide)]
  have es : seI q = seI R := by unfold seI; rw [h1 38 (by decide)]
  have el : slI q = slI R := by unfold slI; rw [h1 42 (by decide)]
  have eg : goI q = goI R := by unfold goI; rw [h1 43 (by decide)]
  have ed : deI q = deI R := by unfold deI; rw [h1 52 (by decide)]
  have ew : waI q = waI R := by unfold waI; rw [h1 56 (by decide)]
  have ep : peI q = peI R := by unfold peI; rw [h1 59 (by decide)]
  have ch : ∀ (γ' : Nat) (b' : Bool), (γ' : Int) < goI R → ∃ L, ISCH q (hd q b' γ') L ∧ (∀ x ∈ L, (x : Int) < cdI q) ∧ ∃ M, ISCH R (hd R b' γ') M ∧ (∀ x ∈ M, (x : Int) < cdI R) ∧ ((γ' = γ ∧ b' = b) ∧ L = (cdI R).toNat :: M ∨ ¬ (γ' = γ ∧ b' = b) ∧ L = M) := fun γ' b' hg => by
    obtain ⟨M, m1, m2⟩ := a0 γ' b' hg
    by_cases c : γ' = γ ∧ b' = b
    · refine ⟨(cdI R).toNat :: M, ?_, fun x hx => ?_, M, m1, m2, Or.inl ⟨c, rfl⟩⟩
      · obtain ⟨rfl, rfl⟩ := c
        exact h.me c0 m1 m2
      · rcases List.mem_cons.mp hx with hx | hx
        · rw [hx]; omega
        · have := m2 x hx; omega
    · exact ⟨M, by rw [h.oth c]; exact h.is c0 m1 m2, fun x hx => by have := m2 x hx; omega, M, m1, m2, Or.inr ⟨c, rfl⟩⟩
  refine ⟨⟨fun γ' b' hg => ?_, fun γ1 γ2 d1 d2 L1 L2 x g1 g2 i1 i2 x1 x2 => ?_, fun p hp => ?_, fun w w' q1 q2 => ?_, fun p w q1 q2 q3 => ?_⟩, fun j hj => ?_, fun j hj => ?_, fun j hj => ?_, fun x hx => ?_, fun j hj => ?_, fun g hg => ?_, fun k hk => ?_, fun k hk => ?_, ?_⟩
  · rw [eg] at hg
    obtain ⟨L, l1, l2, -⟩ := ch γ' b' hg
    exact ⟨L, l1, l2⟩
  · rw [eg] at g1 g2
    obtain ⟨M1, m1, m2, N1, n1, n2, n3⟩ := ch γ1 d1 g1
    obtain ⟨M2, m3, m4, N2, n4, n5, n6⟩ := ch γ2 d2 g2
    have e1 := ISCH.uniq i1 m1
    have e2 := ISCH.uniq i2 m3
    subst e1
    subst e2
    rcases n3 with ⟨p1, p2⟩ | ⟨p1, p2⟩
    · rcases n6 with ⟨p3, p4⟩ | ⟨p3, p4⟩
      · exact ⟨p1.1.trans p3.1.symm, p1.2.trans p3.2.symm⟩
      · subst p4
        rw [p2] at x1
        rcases List.mem_cons.mp x1 with e | e
        · have := n5 x x2; rw [e] at this; omega
        · exact b1 γ1 γ2 d1 d2 N1 _ x g1 g2 n1 n4 e x2
    · subst p2
      rcases n6 with ⟨p3, p4⟩ | ⟨p3, p4⟩
      · rw [p4] at x2
        rcases List.mem_cons.mp x2 with e | e
        · have := n2 x x1; rw [e] at this; omega
        · exact b1 γ1 γ2 d1 d2 _ N2 x g1 g2 n1 n4 x1 e
      · subst p4
        exact b1 γ1 γ2 d1 d2 _ _ x g1 g2 n1 n4 x1 x2
  · rw [ep] at hp; rw [et, eg' 62 p (by decide) (by decide) (by decide) (by decide) (by decide)]; exact b2 p hp
  · rw [ew] at q2; rw [eg' 57 _ (by decide) (by decide) (by decide) (by decide) (by decide), eg' 57 _ (by decide) (by decide) (by decide) (by decide) (by decide)]; exact b3 w w' q1 q2
  · rw [ep] at q1; rw [ew] at q2; rw [eg' 62 _ (by decide) (by decide) (by decide) (by decide) (by decide), eg' 57 _ (by decide) (by decide) (by decide) (by decide) (by decide)] at q3; rw [eg' 60 _ (by decide) (by decide) (by decide) (by decide) (by decide), eg' 58 _ (by decide) (by decide) (by decide) (by decide) (by decide)]; exact b4 p w q1 q2 q3
  · rw [en] at hj ⊢; rw [eg' 27 _ (by decide) (by decide) (by decide) (by decide) (by decide)]; exact a1 j hj
  · rw [ec] at hj ⊢; rw [eg' 37 _ (by decide) (by decide) (by decide) (by decide) (by decide)]; exact a2 j hj
  · rw [et] at hj; rw [ec, eg' 30 _ (by decide) (by decide) (by decide) (by decide) (by decide)]; exact a3 j hj
  · rw [es] at hx
    rw [el, ec, eg' 40 _ (by decide) (by decide) (by decide) (by decide) (by decide), ea 41 (by decide) (by decide) (by decide) (by decide) (by decide)]
    have := a4 x hx
    refine ⟨this.1, this.2.1, ?_⟩
    rw [← this.2.2]
    constructor
    · rintro ⟨j, j1, j2⟩; exact ⟨j, j1, by rw [← j2, eg' 36 _ (by decide) (by decide) (by decide) (by decide) (by decide)]⟩
    · rintro ⟨j, j1, j2⟩; exact ⟨j, j1, by rw [← j2, eg' 36 _ (by decide) (by decide) (by decide) (by decide) (by decide)]⟩
  · rw [ec] at hj; rw [el, eg' 36 _ (by decide) (by decide) (by decide) (by decide) (by decide)]; exact a5 j hj
  · rw [eg] at hg; rw [ed, eg' 47 _ (by decide) (by decide) (by decide) (by decide) (by decide)]; exact a6 g hg
  · rw [ep] at hk; rw [eg' 60 _ (by decide) (by decide) (by decide) (by decide) (by decide), ea 61 (by decide) (by decide) (by decide) (by decide) (by decide)]; exact a7 k hk
  · rw [ew] at hk; rw [et, eg, eg' 57 _ (by decide) (by decide) (by decide) (by decide) (by decide), eg' 58 _ (by decide) (by decide) (by decide) (by decide) (by decide)]; exact a8 k hk
  · rw [h1 75 (by decide)]; exact a9
end
section
/-! reading: jumps that wait -/
theorem KP.flag {t : Nat} {s q : RS} {γ : Nat} {b : Bool} (h : KP t s q) : KP t s (q.setA (fgB b) γ 1) := by
  obtain ⟨⟨a1, a1'⟩, a2, a3, a4, a5, a6, a7, a8, a9, a10, a11⟩ := h
  have fl : ∀ (k δ : Nat), q.a k δ = 1 → (q.setA (fgB b) γ 1).a k δ = 1 := fun k δ e => by
    by_cases c1 : δ = γ
    · by_cases c2 : k = fgB b
      · subst c1; subst c2; exact setA_at
      · rw [setA_nk c2]; exact e
    · rw [setA_ne c1]; exact e
  have nk : ∀ k : Nat, k ≠ 50 → k ≠ 51 → (q.setA (fgB b) γ 1).a k = q.a k := fun k e1 e2 => setA_nk (by rcases fg_cases b with e | e <;> rw [e] <;> assumption)
  have eb : ∀ (k : Nat) (m : Int), k ≠ 50 → k ≠ 51 → bel k m s (q.setA (fgB b) γ 1) = bel k m s q := fun k m e1 e2 => by unfold bel; rw [nk k e1 e2]
  have eg : ∀ (k i : Nat), k ≠ 50 → k ≠ 51 → gv (q.setA (fgB b) γ 1) k i = gv q k i := fun k i e1 e2 => by unfold gv; rw [nk k e1 e2]
  refine ⟨⟨⟨a1.1, fun k hk => (nk k (by omega) (by omega)).trans (a1.2.1 k hk), a1.2.2⟩, a1'⟩, ?_, ?_, ?_, ?_, ?_, ?_, fun γ' b' L hγ hI hL => ?_, ?_, ?_, fun k k1 k2 => ?_⟩
  · unfold KC; rw [eb _ _ (by decide) (by decide), eb _ _ (by decide) (by decide), eb _ _ (by decide) (by decide)]; exact a2
  · unfold KE; rw [eb _ _ (by decide) (by decide), eb _ _ (by decide) (by decide), eb _ _ (by decide) (by decide), eb _ _ (by decide) (by decide)]; exact a3
  · unfold KT; rw [eb _ _ (by decide) (by decide), eb _ _ (by decide) (by decide), eb _ _ (by decide) (by decide)]; exact a4
  · unfold KH; unfold gv; rw [eb _ _ (by decide) (by decide), eb _ _ (by decide) (by decide), eb _ _ (by decide) (by decide), eb _ _ (by decide) (by decide), nk 36 (by decide) (by decide)]; exact a5
  · unfold KS; rw [eb _ _ (by decide) (by decide), eb _ _ (by decide) (by decide)]; exact a6
  · unfold KG; rw [eb _ _ (by decide) (by decide), eb _ _ (by decide) (by decide), nk 46 (by decide) (by decide)]
    exact ⟨a7.1, a7.2.1, a7.2.2.1, fun δ d1 d2 => fl 50 δ (a7.2.2.2.1 δ d1 d2), fun δ d1 d2 => fl 51 δ (a7.2.2.2.2.1 δ d1 d2), a7.2.2.2.2.2⟩
  · obtain ⟨L1, c1, c2⟩ := a8 γ' b' L hγ hI hL
    refine ⟨L1, ?_, c2⟩
    have e : hd (q.setA (fgB b) γ 1) b' γ' = hd q b' γ' := eg _ _ (by rcases bk_cases b' with e | e <;> rw [e] <;> decide) (by rcases bk_cases b' with e | e <;> rw [e] <;> decide)
    rw [e]
    exact c1.of (fun y _ => ⟨by rw [nk 21 (by decide) (by decide)], by rw [nk 22 (by decide) (by decide)]⟩)
  · unfold KW; rw [eb _ _ (by decide) (by decide), eb _ _ (by decide) (by decide)]; exact a9
  · unfold KQ; rw [eb _ _ (by decide) (by decide), eb _ _ (by decide) (by decide), eb _ _ (by decide) (by decide)]; exact a10
  · rw [eb k _ (by omega) (by omega)]; exact a11 k k1 k2
theorem TAB.flag {q : RS} {γ : Nat} {b : Bool} (h : TAB q) : TAB (q.setA (fgB b) γ 1) := by
  cases b
  · refine ⟨⟨fun γ' b' hγ => ?_, DJ.of h.1.1 h.1.2.1 (Int.le_refl _) (fun γ' b' L _ h1 h2 => by cases b' <;> exact h1.of (fun _ _ => ⟨rfl, rfl⟩)), h.1.2.2⟩, h.2⟩
    obtain ⟨L, l1, l2⟩ := h.1.1 γ' b' hγ
    exact ⟨L, by cases b' <;> exact l1.of (fun _ _ => ⟨rfl, rfl⟩), l2⟩
  · refine ⟨⟨fun γ' b' hγ => ?_, DJ.of h.1.1 h.1.2.1 (Int.le_refl _) (fun γ' b' L _ h1 h2 => by cases b' <;> exact h1.of (fun _ _ => ⟨rfl, rfl⟩)), h.1.2.2⟩, h.2⟩
    obtain ⟨L, l1, l2⟩ := h.1.1 γ' b' hγ
    exact ⟨L, by cases b' <;> exact l1.of (fun _ _ => ⟨rfl, rfl⟩), l2⟩
theorem e_goes {N : Nat} {q : RS} {x4 : Int32} {γ : Nat} {b : Bool} (hx : x4.toInt = γ) (h4 : (γ : Int) < 460) : f_X12_goes N q x4 (b01 b) = some (q.setA (fgB b) γ 1) := by
  have en : x4.toNatClampNeg = γ := by
    show x4.toInt.toNat = γ
    rw [hx]; exact Int.toNat_natCast _
  unfold f_X12_goes
  rw [en]
  cases b
  · show (if (0 : Int32) = 0 then (if ib x4 460 then some (q.setA 51 γ 1) else none) else if ib x4 460 then some (q.setA 50 γ 1) else none) = some (q.setA 51 γ 1)
    rw [if_pos rfl, if_pos (show ib x4 460 from ⟨by omega, by omega⟩)]
  · show (if (1 : Int32) = 0 then (if ib x4 460 then some (q.setA 51 γ 1) else none) else if ib x4 460 then some (q.setA 50 γ 1) else none) = some (q.setA 50 γ 1)
    rw [if_neg (by decide), if_pos (show ib x4 460 from ⟨by omega, by omega⟩)]
def PD (q : RS) (x y z : Int32) : RS := RS.setI (RS.setA (RS.setA (RS.setA q 60 ((q.i 59).toNatClampNeg) x) 61 ((q.i 59).toNatClampNeg) y) 62 ((q.i 59).toNatClampNeg) z) 59 ((q.i 59) + 1)
theorem PD.eA {q : RS} {x y z : Int32} {k : Nat} (h1 : k ≠ 60) (h2 : k ≠ 61) (h3 : k ≠ 62) : (PD q x y z).a k = q.a k := (if_neg h3).trans ((if_neg h2).trans (if_neg h1))
theorem PD.lo {q : RS} {x y z : Int32} {k j : Nat} (hj : j ≠ (q.i 59).toNatClampNeg) : (PD q x y z).a k j = q.a k j := (setA_ne hj).trans ((setA_ne hj).trans (setA_ne hj))
theorem PD.a62 {q : RS} {x y z : Int32} : (PD q x y z).a 62 (q.i 59).toNatClampNeg = z := setA_at
theorem PD.a61 {q : RS} {x y z : Int32} : (PD q x y z).a 61 (q.i 59).toNatClampNeg = y := (congrFun (setA_nk (by decide)) _).trans setA_at
theorem PD.a60 {q : RS} {x y z : Int32} : (PD q x y z).a 60 (q.i 59).toNatClampNeg = x := (congrFun (setA_nk (by decide)) _).trans ((congrFun (setA_nk (by decide)) _).trans setA_at)
theorem PD.pe {q : RS} {x y z : Int32} (h0 : 0 ≤ peI q) (h3 : peI q < 300) : peI (PD q x y z) = peI q + 1 := by
  have e1 : (1 : Int32).toInt = 1 := by decide
  have h0 : 0 ≤ (q.i 59).toInt := h0
  have h3 : (q.i 59).toInt < 300 := h3
  show (q.i 59 + 1).toInt = (q.i 59).toInt + 1
  rw [toInt_add] <;> rw [e1] <;> omega
theorem peN {q : RS} (h : 0 ≤ peI q) : (((q.i 59).toNatClampNeg : Nat) : Int) = peI q := Int.toNat_of_nonneg h
theorem KP.pd {t : Nat} {s q : RS} {x y z : Int32} (h : KP t s q) (h0 : 0 ≤ peI q) (h3 : peI q < 300) : KP t s (PD q x y z) := by
  obtain ⟨⟨a1, a1'⟩, a2, a3, a4, a5, a6, a7, a8, a9, a10, a11⟩ := h
  have pn := peN h0
  have e := PD.pe (x := x) (y := y) (z := z) h0 h3
  have q1 := a10.1
  refine ⟨⟨⟨fun j hj => (if_neg (by omega)).trans (a1.1 j hj), fun k hk => (PD.eA (by omega) (by omega) (by omega)).trans (a1.2.1 k hk), a1.2.2⟩, a1'⟩, a2, a3, a4, a5, a6, a7, fun γ b L x1 x2 x3 => ?_, a9, ⟨by omega, fun j hj => (PD.lo (by omega)).trans (a10.2.1 j hj), fun j hj => (PD.lo (by omega)).trans (a10.2.2.1 j hj), fun j hj => (PD.lo (by omega)).trans (a10.2.2.2 j hj)⟩, fun k k1 k2 j hj => (congrFun (PD.eA (by omega) (by omega) (by omega)) j).trans (a11 k k1 k2 j hj)⟩
  obtain ⟨L1, c1, c2⟩ := a8 γ b L x1 x2 x3
  refine ⟨L1, ?_, c2⟩
  cases b
  · exact c1.of (fun _ _ => ⟨rfl, rfl⟩)
  · exact c1.of (fun _ _ => ⟨rfl, rfl⟩)
theorem TAB.pd {q : RS} {x y z : Int32} (h : TAB q) (h0 : 0 ≤ peI q) (h3 : peI q < 300) (hx : 0 ≤ x.toInt ∧ x.toInt < 460) (hy : y = 0 ∨ y = 1) (hw : 0 < waI q) (hz : z.toInt = gv q 57 (waI q - 1).toNat) (hxw : x.toInt < gv q 58 (waI q - 1).toNat) : TAB (PD q x y z) := by
  obtain ⟨⟨a0, b1, b2, b3, b4⟩, a1, a2, a3, a4, a5, a6, a7, a8, a9⟩ := h
  have pn := peN h0
  have e := PD.pe (x := x) (y := y) (z := z) h0 h3
  have is : ∀ (γ : Nat) (b : Bool) (L : List Nat), ISCH q (hd q b γ) L → ISCH (PD q x y z) (hd (PD q x y z) b γ) L := fun γ b L hI => by
    cases b
    · exact hI.of (fun _ _ => ⟨rfl, rfl⟩)
    · exact hI.of (fun _ _ => ⟨rfl, rfl⟩)
  have ew : ((waI q - 1).toNat : Int) = waI q - 1 := Int.toNat_of_nonneg (by omega)
  have t8 := a8 (waI q - 1).toNat (by omega)
  refine ⟨⟨fun γ b hγ => ?_, DJ.of a0 b1 (Int.le_refl _) (fun γ b L _ h1 _ => is γ b L h1), fun p hp => ?_, b3, fun p w p1 p2 p3 => ?_⟩, a1, a2, a3, a4, a5, a6, fun k hk => ?_, a8, a9⟩
  · obtain ⟨L, l1, l2⟩ := a0 γ b hγ
    exact ⟨L, is γ b L l1, l2⟩
  · by_cases c : p = (q.i 59).toNatClampNeg
    · subst c
      unfold gv
      rw [PD.a62, hz]
      exact t8.2.1
    · have := b2 p (by omega)
      unfold gv at this ⊢
      rw [PD.lo c]
      exact this
  · have p2 : (w : Int) < waI q := p2
    by_cases c : p = (q.i 59).toNatClampNeg
    · subst c
      have e62 : gv (PD q x y z) 62 (q.i 59).toNatClampNeg = gv q 57 (waI q - 1).toNat := by unfold gv; rw [PD.a62]; exact hz
      have e60 : gv (PD q x y z) 60 (q.i 59).toNatClampNeg = x.toInt := by unfold gv; rw [PD.a60]
      have p3 : gv (PD q x y z) 62 (q.i 59).toNatClampNeg = gv q 57 w := p3
      rw [e60]
      show x.toInt < gv q 58 w
      have : w = (waI q - 1).toNat := by
        by_cases c2 : w < (waI q - 1).toNat
        · have := b3 w (waI q - 1).toNat c2 (by omega); omega
        · omega
      rw [this]; exact hxw
    · have e62 : gv (PD q x y z) 62 p = gv q 62 p := by unfold gv; rw [PD.lo c]
      have e60 : gv (PD q x y z) 60 p = gv q 60 p := by unfold gv; rw [PD.lo c]
      rw [e62] at p3
      rw [e60]
      exact b4 p w (by omega) p2 p3
  · by_cases c : k = (q.i 59).toNatClampNeg
    · subst c
      unfold gv
      rw [PD.a60, PD.a61]
      exact ⟨hx.1, hx.2, hy⟩
    · have := a7 k (by omega)
      unfold gv at this ⊢
      rw [PD.lo c, PD.lo c]
      exact this
theorem p_pd {N t : Nat} {s q : RS} {x4 : Int32} {γ : Nat} {b : Bool} (hk : KP t s q) (ht : TAB q) (hx : x4.toInt = γ) (h4 : (γ : Int) < 460) (w0 : 0 ≤ waI q) (w4 : waI q ≤ 40) (p0 : 0 ≤ peI q) (p3 : peI q < 300) : ∃ q', f_X12_pend N q x4 (b01 b) = some q' ∧ (∀ j : Nat, j ≠ 59 → q'.i j = q.i j) ∧ (∀ k : Nat, k ≠ 50 → k ≠ 51 → k ≠ 60 → k ≠ 61 → k ≠ 62 → q'.a k = q.a k) ∧ q'.b = q.b ∧ peI q ≤ peI q' ∧ peI q' ≤ peI q + 1 ∧ KP t s q' ∧ TAB q' ∧ ARV q' γ b := by
  unfold f_X12_pend
  have fl : ∃ q', f_X12_pend_22 N q x4 (b01 b) = some q' ∧ (∀ j : Nat, j ≠ 59 → q'.i j = q.i j) ∧ (∀ k : Nat, k ≠ 50 → k ≠ 51 → k ≠ 60 → k ≠ 61 → k ≠ 62 → q'.a k = q.a k) ∧ q'.b = q.b ∧ peI q ≤ peI q' ∧ peI q' ≤ peI q + 1 ∧ KP t s q' ∧ TAB q' ∧ ARV q' γ b := by
    unfold f_X12_pend_22
    rw [e_goes hx h4]
    refine ⟨q.setA (fgB b) γ 1, rfl, fun _ _ => rfl, fun k e1 e2 _ _ _ => setA_nk (by rcases fg_cases b with e | e <;> rw [e] <;> assumption), rfl, Int.le_refl _, by show peI q ≤ peI q + 1; omega, hk.flag, ht.flag, Or.inl setA_at⟩
  by_cases c : q.i 56 = 0
  · rw [if_pos c]; exact fl
  rw [if_neg c]
  have wp : 0 < waI q := by
    have : ¬ (q.i 56).toInt = 0 := fun z => c (Int32.toInt_inj.mp (by rw [z, z_t0]))
    have w0 : 0 ≤ (q.i 56).toInt := w0
    show 0 < (q.i 56).toInt
    omega
  have e1 : (1 : Int32).toInt = 1 := by decide
  have w4' : (q.i 56).toInt ≤ 40 := w4
  have wp' : 0 < (q.i 56).toInt := wp
  have ew : (q.i 56 - 1).toInt = waI q - 1 := by
    show _ = (q.i 56).toInt - 1
    rw [toInt_sub] <;> rw [e1] <;> omega
  have en : (q.i 56 - 1).toNatClampNeg = (waI q - 1).toNat := by
    show (q.i 56 - 1).toInt.toNat = _
    rw [ew]
  rw [if_pos (show ib (q.i 56 - 1) 40 from ⟨by omega, by omega⟩), en]
  by_cases c2 : x4 < q.a 58 (waI q - 1).toNat
  · have hb : b01 b = 0 ∨ b01 b = 1 := by cases b; exact Or.inl rfl; exact Or.inr rfl
    have hn : vp_nar .boolean (b01 b) = b01 b := by cases b; exact nar0; exact nar1
    rw [if_pos c2, if_pos (show ib (q.i 59) 300 from ⟨p0, p3⟩), hn]
    have c2 := lt_int c2
    have pe := PD.pe (x := x4) (y := b01 b) (z := q.a 57 (waI q - 1).toNat) p0 p3
    refine ⟨PD q x4 (b01 b) (q.a 57 (waI q - 1).toNat), rfl, fun j hj => if_neg hj, fun k _ _ e3 e4 e5 => PD.eA e3 e4 e5, rfl, by omega, by omega, hk.pd p0 p3, ht.pd p0 p3 ⟨by omega, by omega⟩ hb wp rfl c2, Or.inr ⟨(q.i 59).toNatClampNeg, ?_, ?_, ?_, wp, ?_⟩⟩
    · rw [peN p0]; omega
    · unfold gv; rw [PD.a60]; exact hx
    · exact PD.a61
    · show ((PD q x4 (b01 b) (q.a 57 (waI q - 1).toNat)).a 62 (q.i 59).toNatClampNeg).toInt = (q.a 57 (waI q - 1).toNat).toInt
      rw [PD.a62]
  · rw [if_neg c2]; exact fl
end
section
/-! reading: break and continue: to the end -/
theorem LXI.of {u w : RS} (h : LXI u) (h2 : w.i 2 = u.i 2) (h10 : w.i 10 = u.i 10) (h11 : w.i 11 = u.i 11) (h12 : w.i 12 = u.i 12) (h14 : w.i 14 = u.i 14) (hb : w.b 9 = u.b 9) : LXI w := by
  unfold LXI WD at *
  rw [h2, h10, h11, h12, h14, hb]
  exact h
theorem MI0.lx {t : Nat} {s u w : RS} (h : MI0 t s u) (x : LX u w) (h15 : w.i 15 = 0) (h19 : w.i 19 = u.i 19) (hf : fr u + 1 ≤ fr w) (tk : tkI w = tkI u + 1) : MI0 t s w := by
  obtain ⟨a1, a2, a3, a4, a5, a6, a7, a8, a9, a10⟩ := h
  have e := x.tbl
  have e1 := e.cd
  have e2 := e.en
  have e3 := e.tt
  have e4 := e.ca
  have e5 := e.sl
  have e6 := e.pe
  refine ⟨x.2.2.2.1, h15, a3.lx x, x.tp.trans a4, a5.lx x, a6.tr (x.same h19), ⟨?_, fun y y1 y2 => ?_⟩, ?_, by omega, by omega⟩
  · have := a7.1; have := e.se; omega
  · rw [e.g (by decide)]
    exact a7.2 y y1 (by have := e.se; omega)
  · unfold RAT1 at *
    omega
theorem STA55 {N : Nat} (hN : 1000 ≤ N) {s u : RS} {t : Nat} {K y : Int32} (hI : INV s) (ht : tpI s = t) (hz : ¬ s.i 10 = 0) (hu : SKF s u t K) : ∃ R, f_X12_next N (u.setI 55 y) = some R ∧ MK t K s R ∧ R.a = u.a ∧ R.i 59 = s.i 59 := by
  obtain ⟨ul, ui0, ut, uk, uc, u21, u64, u65, ua⟩ := hu
  obtain ⟨w, hw⟩ : ∃ w, w = u.setI 55 y := ⟨_, rfl⟩
  have wi : ∀ j : Nat, j ≠ 20 → j ≠ 53 → j ≠ 55 → w.i j = s.i j := fun j h1 h2 h3 => by rw [hw]; exact (if_neg h3).trans (ui0 j h1 h2)
  have wa : w.a = u.a := by rw [hw]; rfl
  have wl : LXI w := by rw [hw]; exact ul
  have tb : TBL u w := by rw [hw]; exact ⟨fun _ _ => rfl, rfl, fun _ _ _ _ _ => if_neg (by omega)⟩
  have wt : TAB w := ut.tbl tb (fun γ hγ => by
    have e : deI w = deI u := by unfold deI; rw [wi 52 (by decide) (by decide) (by decide), ui0 52 (by decide) (by decide)]
    rw [e]; exact (ut.2.2.2.2.2.2.1 γ hγ).2) (by rw [wi 75 (by decide) (by decide) (by decide)]; exact hI.r)
  have wk : KP t s w := by rw [hw]; exact uk.i55 y
  have wc : cdI w = cdI s + 1 := tb.cd.trans uc
  rw [← hw]
  obtain ⟨R, eR, x1, x2, x3, x4⟩ := p_nx hN wl
  obtain ⟨r15, rc⟩ := x4 ((wi 15 (by decide) (by decide) (by decide)).trans hI.2.2.1)
  obtain ⟨c1, c2, c3⟩ := rc (fun z => hz ((wi 10 (by decide) (by decide) (by decide)).symm.trans z))
  have fu : fr w = fr s := by unfold fr; rw [wi 11 (by decide) (by decide) (by decide)]
  have u10 : w.i 10 = s.i 10 := wi 10 (by decide) (by decide) (by decide)
  have hf := hI.1.f0
  have n12 := hI.tk
  have tk : tkI R = tkI s + 1 := tk_add (u := s) (c1.trans (congrArg (· + 1) (wi 17 (by decide) (by decide) (by decide)))) ⟨n12.1, by omega⟩
  have kR : KP t s R := wk.lx x1
  have tR : TAB R := wt.lx x1
  have e := x1.tbl
  have ecd : cdI R = cdI s + 1 := e.cd.trans wc
  have rt : RATE s R := by
    have e2 : enI R = enI s := by rw [e.en]; unfold enI; rw [wi 24 (by decide) (by decide) (by decide)]
    have e3 : trI R = trI s := by rw [e.tt]; unfold trI; rw [wi 29 (by decide) (by decide) (by decide)]
    have e4 : caI R = caI s := by rw [e.ca]; unfold caI; rw [wi 33 (by decide) (by decide) (by decide)]
    have e5 : slI R = slI s := by rw [e.sl]; unfold slI; rw [wi 42 (by decide) (by decide) (by decide)]
    have e6 : peI R = peI s := by rw [e.pe]; unfold peI; rw [wi 59 (by decide) (by decide) (by decide)]
    unfold RATE
    omega
  have ss : SAME s R := SAME.tr (show SAME s w from ⟨wi 19 (by decide) (by decide) (by decide), wi 43 (by decide) (by decide) (by decide), wi 52 (by decide) (by decide) (by decide), wi 56 (by decide) (by decide) (by decide)⟩) (x1.same x2)
  have e38 : R.i 38 = s.i 38 := x1.i38.trans (wi 38 (by decide) (by decide) (by decide))
  have tp : tpI R = t := x1.tp.trans ((congrArg Int32.toInt (wi 63 (by decide) (by decide) (by decide))).trans ht)
  have aR : R.a = u.a := x1.1.trans wa
  exact ⟨R, eR, ⟨hI.mkS kR x1.2.2.2.1 r15 tR ss (SNW.eq e38 kR.2.2.2.2.2.1.2.1) rt (by omega) (by omega), tp, kR, ss, e38, rt, by omega, tk, ecd, by rw [aR]; exact u21, by rw [aR]; exact u64, by rw [aR]; exact u65, fun q => by have := c3 (Or.inl (by rw [u10]; exact q)); omega, fun k h1 h2 h3 h4 => by rw [aR]; exact ua k h1 h2 h3 h4⟩, aR, (x1.2.2.1 59 (by omega) (by omega)).trans (wi 59 (by decide) (by decide) (by decide))⟩
/-- a step and a jump -/
theorem TS.jump {s W : RS} {γ : Nat} {b : Bool} (h0 : 0 ≤ cdI s) (cW : cdI W = cdI s + 2) (e0 : W.a 21 (cdI s).toNat = 1) (e21 : W.a 21 (cdI s + 1).toNat = 36) (e23 : W.a 23 (cdI s + 1).toNat = W.a 47 γ) (hacc : ACC W γ) (hb : b = true ∨ W.a 44 γ = 0) (hst : SITE s W γ b (cdI s + 1).toNat) (harv : ARV W γ b) (h6 : 0 ≤ gv W 47 γ ∧ gv W 47 γ ≤ deI s) : TS s W := by
  intro f C hA hC h o lv rs hx hy
  have ek : ((cdI s + 1).toNat : Int) = cdI s + 1 := Int.toNat_of_nonneg (by omega)
  obtain ⟨a1, a2, a3, a4, a5, a6, a7, a8⟩ := id hA
  obtain ⟨g1, g2, g3⟩ := a5 (cdI s + 1).toNat (by omega) (by omega)
  have c3 : COD f C (cdI s + 1).toNat h o lv rs (ENS s W f h o lv rs) := by
    refine COD.ins hx (by omega) (fun g hg' hE => ⟨?_, hE.1.1 _ (by omega)⟩)
    obtain ⟨vt, j1, j2, j3⟩ := hE.2.2 γ b (cdI s + 1).toNat hacc hb hst
    have ey : gv f 23 (cdI s + 1).toNat = gv W 47 γ := by unfold gv; rw [g2, e23]
    refine okJ_36 (c := (h, o, lv, false, rs)) (by unfold gv; rw [g1, e21]; rfl) ⟨by rw [ey]; exact h6.1, ?_⟩
    rw [ey]
    have hd := hx.1
    refine ⟨by show (gv W 47 γ).toNat ≤ rs.length; omega, vt, ?_, j2, fun q => ?_⟩
    · rw [cW] at j1
      show vt < lv ∨ vt ≤ lv ∧ ((cdI s + 1).toNat : Int) + 1 ≤ gv f 22 (cdI s + 1).toNat
      rcases j1 with j1 | j1
      · exact Or.inl j1
      · exact Or.inr ⟨j1.1, by omega⟩
    · exact j3 harv q
  rw [ek] at c3
  exact COD.step hA hx h0 (by omega) e0 (fun g _ hE => hE.1.1) c3
theorem e_j234 {N : Nat} {R : RS} {x3 x4 : Int32} {γ : Nat} {b : Bool} (hx : x4.toInt = γ) (h4 : (γ : Int) < 460) (c0 : 0 ≤ cdI R) (c3 : cdI R < 3000) : f_X12_jump_234 N R (b01 b) x3 x4 = f_X12_jump_302 N (((EM R 36 (R.a (bk b) γ)).setA 23 (cdI R).toNat (R.a 47 γ)).setA (bk b) γ (R.i 20)) (b01 b) x3 x4 := by
  have en : x4.toNatClampNeg = γ := by
    show x4.toInt.toNat = γ
    rw [hx]; exact Int.toNat_natCast _
  have hib : ib x4 460 := ⟨by omega, by omega⟩
  have hk : ib (R.i 20) 3000 := ⟨c0, c3⟩
  unfold f_X12_jump_234
  rw [en, if_pos hib, if_pos hib]
  cases b
  · show (if (0 : Int32) = 0 then (f_X12_emit N R 36 (R.a 49 γ)).bind fun p10 => f_X12_jump_263 N p10.2 0 x3 x4 p10.1 else _) = _
    rw [if_pos rfl, p_em 36 (R.a 49 γ) c0 c3]
    show f_X12_jump_263 N (EM R 36 (R.a 49 γ)) 0 x3 x4 (R.i 20) = _
    unfold f_X12_jump_263
    rw [if_pos hib, if_pos hk, if_pos rfl, en]
    rfl
  · show (if (1 : Int32) = 0 then _ else (f_X12_emit N R 36 (R.a 48 γ)).bind fun p23 => f_X12_jump_263 N p23.2 1 x3 x4 p23.1) = _
    rw [if_neg (by decide), p_em 36 (R.a 48 γ) c0 c3]
    show f_X12_jump_263 N (EM R 36 (R.a 48 γ)) 1 x3 x4 (R.i 20) = _
    unfold f_X12_jump_263
    rw [if_pos hib, if_pos hk, if_neg (by decide), en]
    rfl
/-- from the goal that was found, to the statement's end -/
theorem JMP2 {N : Nat} (hN : 1000 ≤ N) {n : Nat} {s R : RS} {t : Nat} {P : RS → Prop} {x3 x4 : Int32} {γ : Nat} {b : Bool} (hI : INV s) (h9 : t < 998) (n1 : 1 ≤ n) (hF : ∀ u, FS' s u → P u) (hC : ∀ W, PS t s W → fr s + 1 ≤ fr W → fr R + 1 ≤ fr W → ok (f_X12_parse_10 N n W) P) (hR : MK t 2 s R) (h59 : R.i 59 = s.i 59) (f2 : fr s + 2 ≤ fr R) (hx : x4.toInt = γ) (hacc : ACC R γ) (hb : b = true ∨ R.a 44 γ = 0) (hx3 : ¬ x3 = 0 → R.i 10 = 2) : ok (((f_X12_jump_234 N R (b01 b) x3 x4).bind fun p13 => (f_X12_over N p13 0).bind fun p15 => some p15).bind fun p => f_X12_parse_10 N n p) P := by
  have mR := hR.mm
  obtain ⟨r1, r2, r3, r4, r5, r6, r7, r8, r9, r10, r11, r12, r13, r14⟩ := hR
  have cR := r1.cd
  have cs := hI.cd
  have rf := r1.1.f0
  obtain ⟨nn1, nn2, nn3, nn4, nn5, nn6, nn7, nn8, nn9, nn10, nn11, nn12⟩ := r1.2.2.2.2
  have hγ := hacc.1
  have pes : peI R = peI s := by unfold peI; rw [h59]
  have spe := hI.2.2.2.2.2.2.2.2.2.2.2.2.2.2.1
  rw [e_j234 hx (by omega) cR.1 cR.2.2]
  have jq : JQ R (((EM R 36 (R.a (bk b) γ)).setA 23 (cdI R).toNat (R.a 47 γ)).setA (bk b) γ (R.i 20)) γ b := JQ.mk cR.1 cR.2.2
  generalize (((EM R 36 (R.a (bk b) γ)).setA 23 (cdI R).toNat (R.a 47 γ)).setA (bk b) γ (R.i 20)) = q at jq ⊢
  have kq : KP t s q := jq.kp r3 cs.1 r1.tn
  have tq : TAB q := jq.tab r1.2.2.2.1 cR.1 hγ
  have qi : ∀ j : Nat, j ≠ 20 → q.i j = R.i j := jq.1
  have eqw : waI q = waI R := by unfold waI; rw [qi 56 (by decide)]
  have eqp : peI q = peI R := by unfold peI; rw [qi 59 (by decide)]
  unfold f_X12_jump_302
  obtain ⟨q', eq', w1, w2, w3, w4, w5, w6, w7, w8⟩ := p_pd (N := N) (b := b) kq tq hx (by omega) (by omega) (by omega) (by omega) (by omega)
  rw [eq']
  have qi' : ∀ j : Nat, j ≠ 20 → j ≠ 59 → q'.i j = R.i j := fun j e1 e2 => (w1 j e2).trans (qi j e1)
  have cq : cdI q' = cdI R + 1 := by
    have : cdI q' = cdI q := by unfold cdI; rw [w1 20 (by decide)]
    rw [this]; exact jq.2.1
  have goQ : goI q' = goI R := by unfold goI; rw [qi' 43 (by decide) (by decide)]
  have deQ : deI q' = deI R := by unfold deI; rw [qi' 52 (by decide) (by decide)]
  have frQ : fr q' = fr R := by unfold fr; rw [qi' 11 (by decide) (by decide)]
  have tkQ : tkI q' = tkI R := by unfold tkI; rw [qi' 17 (by decide) (by decide)]
  have bne : ∀ k : Nat, k ≠ 21 → k ≠ 22 → k ≠ 23 → k ≠ 48 → k ≠ 49 → q.a k = R.a k := fun k e1 e2 e3 e4 e5 => jq.2.2.1 k e1 e2 e3 (by rcases bk_cases b with e | e <;> rw [e] <;> assumption)
  have q44 : q'.a 44 = R.a 44 := (w2 44 (by decide) (by decide) (by decide) (by decide) (by decide)).trans (bne 44 (by decide) (by decide) (by decide) (by decide) (by decide))
  have q47 : q'.a 47 = R.a 47 := (w2 47 (by decide) (by decide) (by decide) (by decide) (by decide)).trans (bne 47 (by decide) (by decide) (by decide) (by decide) (by decide))
  have m0 : MI0 t s q' := by
    refine ⟨r1.1.of (qi' 2 (by decide) (by decide)) (qi' 10 (by decide) (by decide)) (qi' 11 (by decide) (by decide)) (qi' 12 (by decide) (by decide)) (qi' 14 (by decide) (by decide)) (by rw [w3, jq.2.2.2.2.2.2.2.2.2]), (qi' 15 (by decide) (by decide)).trans r1.2.2.1, w7, by unfold tpI at *; rw [qi' 63 (by decide) (by decide)]; exact r2, w6, r4.tr ⟨qi' 19 (by decide) (by decide), qi' 43 (by decide) (by decide), qi' 52 (by decide) (by decide), qi' 56 (by decide) (by decide)⟩, SNW.eq ((qi' 38 (by decide) (by decide)).trans r5) w6.2.2.2.2.2.1.2.1, ?_, by omega, by omega⟩
    have e2 : enI q' = enI R := by unfold enI; rw [qi' 24 (by decide) (by decide)]
    have e3 : trI q' = trI R := by unfold trI; rw [qi' 29 (by decide) (by decide)]
    have e4 : caI q' = caI R := by unfold caI; rw [qi' 33 (by decide) (by decide)]
    have e5 : slI q' = slI R := by unfold slI; rw [qi' 42 (by decide) (by decide)]
    unfold RATE at r6
    unfold RAT1
    rw [cq, e2, e3, e4, e5, frQ, tkQ]
    omega
  have kk : (cdI s + 1).toNat = (cdI R).toNat := by rw [r9]
  have q21 : q'.a 21 = q.a 21 := w2 21 (by decide) (by decide) (by decide) (by decide) (by decide)
  have q22 : q'.a 22 = q.a 22 := w2 22 (by decide) (by decide) (by decide) (by decide) (by decide)
  have q23 : q'.a 23 = q.a 23 := w2 23 (by decide) (by decide) (by decide) (by decide) (by decide)
  obtain ⟨L, l1, l2⟩ := r1.tn γ b hγ
  have isq := jq.me cR.1 l1 l2
  have hdq : hd q' b γ = hd q b γ := by
    unfold hd gv
    rw [w2 (bk b) (by rcases bk_cases b with e | e <;> rw [e] <;> decide) (by rcases bk_cases b with e | e <;> rw [e] <;> decide) (by rcases bk_cases b with e | e <;> rw [e] <;> decide) (by rcases bk_cases b with e | e <;> rw [e] <;> decide) (by rcases bk_cases b with e | e <;> rw [e] <;> decide)]
  have t6 := r1.2.2.2.1.2.2.2.2.2.2.1 γ hγ
  have fin : ∀ X : RS, MI0 t s X → X.a = q'.a → X.i 43 = q'.i 43 → X.i 20 = q'.i 20 → ARV X γ b → fr R ≤ fr X → ok (((f_X12_jump_317 N X).bind fun p13 => (f_X12_over N p13 0).bind fun p15 => some p15).bind fun p => f_X12_parse_10 N n p) P := by
    intro X mX aX x43 x20 arX fX
    unfold f_X12_jump_317
    have ea : (((f_X12_need N X 59).bind fun p18 => some p18.2).bind fun p13 => (f_X12_over N p13 0).bind fun p15 => some p15) = (f_X12_need N X 59).bind fun p => (f_X12_over N p.2 0).bind fun p => some p := by
      cases f_X12_need N X 59 <;> rfl
    rw [ea]
    have gX : goI X = goI R := by unfold goI; rw [x43]; exact goQ
    have cX : cdI X = cdI s + 2 := by
      have : cdI X = cdI q' := by unfold cdI; rw [x20]
      omega
    refine END (x := 0) hN (by omega) hI (Or.inl rfl) n1 (mX.mid (fun _ => ?_)) hF (fun W hW hfW => hC W hW (by omega) (by omega))
    have isX : ISCH (X.setI 75 0) (hd (X.setI 75 0) b γ) ((cdI R).toNat :: L) := by
      have e : hd (X.setI 75 0) b γ = hd q b γ := by
        show gv X (bk b) γ = _
        unfold gv
        rw [aX]
        exact hdq
      rw [e]
      exact isq.of (fun y _ => ⟨by show X.a 21 y = _; rw [aX, q21], by show X.a 22 y = _; rw [aX, q22]⟩)
    refine TS.jump (W := X.setI 75 0) (γ := γ) (b := b) cs.1 cX ?_ ?_ ?_ ?_ ?_ ⟨by omega, (cdI R).toNat :: L, isX, by rw [kk]; exact List.mem_cons_self ..⟩ arX ?_
    · show X.a 21 (cdI s).toNat = 1
      rw [aX, q21, (jq.2.2.2.1 (cdI s).toNat (by omega)).1]; exact r10
    · show X.a 21 (cdI s + 1).toNat = 36
      rw [aX, q21, kk]; exact jq.2.2.2.2.1
    · show X.a 23 (cdI s + 1).toNat = X.a 47 γ
      rw [aX, q23, q47, kk]; exact jq.2.2.2.2.2.2.1
    · exact (ACC.of (s := R) (u := X.setI 75 0) gX (fun j _ => by show X.a 44 j = _; rw [aX, q44]) γ).mpr hacc
    · show b = true ∨ X.a 44 γ = 0
      rw [aX, q44]; exact hb
    · have e : gv (X.setI 75 0) 47 γ = gv R 47 γ := by
        show (X.a 47 γ).toInt = _
        rw [aX, q47]; rfl
      have := r4.de
      rw [e]
      omega
  show ok (((if x3 = 0 then f_X12_jump_317 N q' else (f_X12_next N q').bind fun p20 => f_X12_jump_317 N p20 : Option RS).bind fun p13 => (f_X12_over N p13 0).bind fun p15 => some p15).bind fun p => f_X12_parse_10 N n p) P
  by_cases c : x3 = 0
  · rw [if_pos c]
    exact fin q' m0 rfl rfl rfl w8 (by omega)
  · rw [if_neg c]
    obtain ⟨S, eS, x1, x2, x3', x4'⟩ := p_nx hN m0.1
    rw [eS]
    obtain ⟨s15, sc⟩ := x4' m0.2.1
    obtain ⟨c1, c2, c3⟩ := sc (fun z => by rw [qi' 10 (by decide) (by decide), hx3 c] at z; exact absurd z (by decide))
    have tk := tk_add c1 ⟨by have := r1.tk; omega, by have := r1.tk; omega⟩
    have mS := m0.lx x1 s15 x2 c2 tk
    refine fin S mS x1.1 (x1.2.2.1 43 (by omega) (by omega)) (x1.2.2.1 20 (by omega) (by omega)) ?_ (by omega)
    exact w8.tbs x1.tbl.tbs
theorem run_jump {N : Nat} (hN : 1000 ≤ N) {n : Nat} {s u : RS} {t : Nat} {P : RS → Prop} (hI : INV s) (hp : PRS s) (ht : tpI s = t) (hu : SKF s u t 2) (hT : s.i 10 = 418 ∨ s.i 10 = 419) (h9 : t < 998) (n1 : 1 ≤ n) (hF : ∀ u, FS' s u → P u) (hC : ∀ W, PS t s W → fr s + 1 ≤ fr W → ok (f_X12_parse_10 N n W) P) : ok (((f_X12_jump N u).bind fun p13 => (f_X12_over N p13 0).bind fun p15 => some p15).bind fun p => f_X12_parse_10 N n p) P := by
  have hz : ¬ s.i 10 = 0 := by rcases hT with h | h <;> (rw [h]; decide)
  have h410 : 410 ≤ s.i 10 := by rcases hT with h | h <;> (rw [h]; decide)
  have u10 : u.i 10 = s.i 10 := hu.2.1 10 (by decide) (by decide)
  obtain ⟨R, eR, hR, aR, h59⟩ := STA55 (y := u.i 55 + 1) hN hI ht hz hu
  have hR' := hR
  obtain ⟨r1, r2, r3, r4, r5, r6, r7, r8, r9, r10, r11, r12, r13, r14⟩ := hR'
  have r13 := r13 h410
  have rf := r1.1.f0
  have goR := r1.2.2.2.2.2.2.2.2.2.2.2.1
  have flt : ∀ S, LX R S → ¬ S.i 15 = 0 → ok (f_X12_parse_10 N n ((S.setI 75 0).setI 63 (S.i 63 - 1))) P := fun S h1 h2 => lp_f (u := (S.setI 75 0).setI 63 (S.i 63 - 1)) h2 (hF _ (((FS'.of r3.1.1 h1 h2 r1.r).i75 0 (Or.inl rfl)).i63 _)) n1
  have bad : ∀ w w' : Int32, ¬ w = 0 → ok ((((f_X12_fail N R w w').bind fun p28 => some p28).bind fun p13 => (f_X12_over N p13 0).bind fun p15 => some p15).bind fun p => f_X12_parse_10 N n p) P := fun w w' hw => by
    obtain ⟨S, eS, q1, q2, q3⟩ := p_fl (N := N) r1.1 w w' hw
    rw [eS]
    show ok (((f_X12_over N S 0).bind fun p15 => some p15).bind fun p => f_X12_parse_10 N n p) P
    rw [e_over (Or.inl rfl)]
    exact flt S q1 q2
  have main : ∀ (b : Bool) (x2 x3 : Int32), (x3 = 0 ∨ x3 = 1 ∧ R.i 10 = 2) → ok (((f_X12_jump_49 N R (b01 b) x2 x3).bind fun p13 => (f_X12_over N p13 0).bind fun p15 => some p15).bind fun p => f_X12_parse_10 N n p) P := by
    intro b x2 x3 hx3
    unfold f_X12_jump_49
    have e1 : (1 : Int32).toInt = 1 := by decide
    have g0 : 0 ≤ (R.i 43).toInt := goR.1
    have g4 : (R.i 43).toInt ≤ 450 := by have : goI R ≤ 450 := by omega
                                         exact this
    have ek : (R.i 43 - 1).toInt = goI R - 1 := by
      show _ = (R.i 43).toInt - 1
      rw [toInt_sub] <;> rw [e1] <;> omega
    obtain ⟨x4, ex, hx⟩ := p_j60 (N := N) (σ := R) (b01 b) x2 x3 (by omega) N (-1) (R.i 43 - 1) (by omega) (by omega) (by omega) (Or.inr ⟨by decide, fun δ d1 d2 => by omega⟩)
    rw [ex]
    unfold f_X12_jump_171
    have x3i : ¬ x3 = 0 → R.i 10 = 2 := fun c => by
      rcases hx3 with h | h
      · exact absurd h c
      · exact h.2
    by_cases c0 : 0 ≤ x4
    · rw [if_pos c0]
      rcases hx with ⟨v1, v2, v3, v4, v5, v6⟩ | hx
      case inr => exact absurd c0 hx
      have ci := clampI v1
      have acc : ACC R x4.toNatClampNeg := ⟨by omega, v4, v3⟩
      by_cases c3 : x3 = 0
      · rw [if_pos c3]
        refine JMP2 hN hI h9 n1 hF (fun W a1 a2 a3 => hC W a1 a2) hR h59 r13 ci.symm acc ?_ x3i
        rcases v5 c3 with h | h
        · exact Or.inr h
        · left
          cases b
          · exact absurd rfl h.1
          · rfl
      · rw [if_neg c3]
        cases b
        · show ok (((if (0 : Int32) = 0 then (if ib x4 460 then (if 0 ≤ (R.a 46 ((x4 : Int32).toNatClampNeg)) then f_X12_jump_234 N R (b01 false) x3 (R.a 46 ((x4 : Int32).toNatClampNeg)) else (f_X12_fail N R 5 (R.i 11)).bind fun p28 => some p28) else none) else f_X12_jump_234 N R (b01 false) x3 x4 : Option RS).bind fun p13 => (f_X12_over N p13 0).bind fun p15 => some p15).bind fun p => f_X12_parse_10 N n p) P
          rw [if_pos rfl, if_pos (show ib x4 460 from ⟨v1, by omega⟩)]
          by_cases c46 : 0 ≤ R.a 46 x4.toNatClampNeg
          · rw [if_pos c46]
            have a44 : R.a 44 = s.a 44 := r14 44 (by decide) (by decide) (by decide) (by decide)
            have a46 : R.a 46 = s.a 46 := r14 46 (by decide) (by decide) (by decide) (by decide)
            have gR : goI R = goI s := r4.go
            have accs : ACC s x4.toNatClampNeg := (ACC.of gR (fun j _ => by rw [a44]) _).mp acc
            have c46' := le_int c46
            rw [z_t0] at c46'
            obtain ⟨l1, l2, l3⟩ := hp.1 x4.toNatClampNeg accs (by rw [← a44]; exact v6 c3) (by unfold gv; rw [← a46]; exact c46')
            have e46 : gv s 46 x4.toNatClampNeg = (R.a 46 x4.toNatClampNeg).toInt := by unfold gv; rw [a46]
            have en : ((gv s 46 x4.toNatClampNeg).toNat : Int) = gv s 46 x4.toNatClampNeg := Int.toNat_of_nonneg (by omega)
            have a0 : R.a 44 (gv s 46 x4.toNatClampNeg).toNat = 0 := by rw [a44]; exact l3
            refine JMP2 (γ := (gv s 46 x4.toNatClampNeg).toNat) hN hI h9 n1 hF (fun W a1 a2 a3 => hC W a1 a2) hR h59 r13 (by omega) ⟨by omega, by rw [a0]; decide, fun δ d1 d2 => v3 δ (by omega) d2⟩ (Or.inr a0) x3i
          · rw [if_neg c46]
            exact bad _ _ (by decide)
        · show ok (((if (1 : Int32) = 0 then (if ib x4 460 then (if 0 ≤ (R.a 46 ((x4 : Int32).toNatClampNeg)) then f_X12_jump_234 N R (b01 true) x3 (R.a 46 ((x4 : Int32).toNatClampNeg)) else (f_X12_fail N R 5 (R.i 11)).bind fun p28 => some p28) else none) else f_X12_jump_234 N R (b01 true) x3 x4 : Option RS).bind fun p13 => (f_X12_over N p13 0).bind fun p15 => some p15).bind fun p => f_X12_parse_10 N n p) P
          rw [if_neg (by decide)]
          exact JMP2 (b := true) hN hI h9 n1 hF (fun W a1 a2 a3 => hC W a1 a2) hR h59 r13 ci.symm acc (Or.inl rfl) x3i
    · rw [if_neg c0]
      by_cases c3 : x3 = 0
      · rw [if_pos c3]
        exact bad _ _ (by decide)
      · rw [if_neg c3]
        exact bad _ _ (by decide)
  have j16 : ∀ b : Bool, ok (((f_X12_jump_16 N u (b01 b)).bind fun p13 => (f_X12_over N p13 0).bind fun p15 => some p15).bind fun p => f_X12_parse_10 N n p) P := by
    intro b
    unfold f_X12_jump_16
    rw [eR]
    show ok (((if (R.i 10) = 2 then f_X12_jump_49 N R (b01 b) (u.i 11) 1 else f_X12_jump_49 N R (b01 b) (u.i 11) 0 : Option RS).bind fun p13 => (f_X12_over N p13 0).bind fun p15 => some p15).bind fun p => f_X12_parse_10 N n p) P
    by_cases c : R.i 10 = 2
    · rw [if_pos c]; exact main b _ 1 (Or.inr ⟨rfl, c⟩)
    · rw [if_neg c]; exact main b _ 0 (Or.inl rfl)
  unfold f_X12_jump
  rcases hT with h | h
  · rw [if_pos (u10.trans h)]
    exact j16 true
  · rw [if_neg (by rw [u10, h]; decide)]
    exact j16 false
end
section
/-! reading: what lies inside a statement finds what lies around it -/
def STG (v W : RS) : Prop := cdI v ≤ cdI W ∧ goI W ≤ goI v ∧ (∀ γ : Nat, (γ : Int) < goI W → W.a 44 γ = v.a 44 γ ∧ W.a 47 γ = v.a 47 γ ∧ (v.a 50 γ = 1 → W.a 50 γ = 1) ∧ (v.a 51 γ = 1 → W.a 51 γ = 1)) ∧ (∀ (γ : Nat) (b : Bool) (L : List Nat), (γ : Int) < goI W → ISCH v (hd v b γ) L → (∀ x ∈ L, (x : Int) < cdI v) → ∃ L1, ISCH W (hd W b γ) (L1 ++ L) ∧ ∀ x ∈ L1, (x : Int) < cdI W) ∧ (peI v ≤ peI W ∧ bel 60 (peI v) v W ∧ bel 61 (peI v) v W ∧ bel 62 (peI v) v W) ∧ waI W = waI v ∧ bel 57 (waI v) v W
theorem STG.rf (v : RS) : STG v v := ⟨Int.le_refl _, Int.le_refl _, fun _ _ => ⟨rfl, rfl, id, id⟩, fun γ b L _ h hL => ⟨[], h, fun x hx => absurd hx List.not_mem_nil⟩, ⟨Int.le_refl _, bel.rf _ _ _, bel.rf _ _ _, bel.rf _ _ _⟩, rfl, bel.rf _ _ _⟩
theorem STG.tr {u v W : RS} (h1 : STG u v) (h2 : STG v W) : STG u W := by
  obtain ⟨a1, a2, a3, a4, a5, a6, a7⟩ := h1
  obtain ⟨b1, b2, b3, b4, b5, b6, b7⟩ := h2
  refine ⟨by omega, by omega, fun γ hγ => ?_, fun γ b L hγ hI hL => ?_, ⟨by have := a5.1; have := b5.1; omega, a5.2.1.tr b5.2.1 a5.1, a5.2.2.1.tr b5.2.2.1 a5.1, a5.2.2.2.tr b5.2.2.2 a5.1⟩, b6.trans a6, a7.tr b7 (by omega)⟩
  · obtain ⟨c1, c2, c3, c4⟩ := a3 γ (by omega)
    obtain ⟨d1, d2, d3, d4⟩ := b3 γ hγ
    exact ⟨d1.trans c1, d2.trans c2, fun q => d3 (c3 q), fun q => d4 (c4 q)⟩
  · obtain ⟨L1, c1, c2⟩ := a4 γ b L (by omega) hI hL
    obtain ⟨L2, d1, d2⟩ := b4 γ b (L1 ++ L) hγ c1 (fun x hx => by
      rcases List.mem_append.mp hx with hx | hx
      · exact c2 x hx
      · have := hL x hx; omega)
    refine ⟨L2 ++ L1, by rw [List.append_assoc]; exact d1, fun x hx => ?_⟩
    rcases List.mem_append.mp hx with hx | hx
    · exact d2 x hx
    · have := c2 x hx; omega
theorem STG.kp {t : Nat} {v W : RS} (h : KP t v W) (hg : goI W = goI v) (hw : waI W = waI v) : STG v W := by
  have kg := h.2.2.2.2.2.2.1
  have kn := h.2.2.2.2.2.2.2.1
  have kw := h.2.2.2.2.2.2.2.2.1
  have kq := h.2.2.2.2.2.2.2.2.2.1
  refine ⟨h.2.1.1, by omega, fun γ hγ => ⟨kg.2.1 γ (by omega), kg.2.2.1 γ (by omega), kg.2.2.2.1 γ (by omega), kg.2.2.2.2.1 γ (by omega)⟩, fun γ b L hγ hI hL => ?_, kq, hw, kw.2.1⟩
  obtain ⟨L1, c1, c2⟩ := kn γ b L (by omega) hI hL
  exact ⟨L1, c1, fun x hx => (c2 x hx).2⟩
theorem STG.fin {v W : RS} (he : EQT v W) (hc : CHN v W) (hcd : cdI v ≤ cdI W) (hg : goI W ≤ goI v) : STG v W := by
  refine ⟨hcd, hg, fun γ _ => ⟨by rw [he.1 44 (by decide) (by decide)], by rw [he.1 47 (by decide) (by decide)], fun q => by rw [he.1 50 (by decide) (by decide)]; exact q, fun q => by rw [he.1 51 (by decide) (by decide)]; exact q⟩, fun γ b L hγ hI hL => ⟨[], hc.eIS he hγ hI, fun x hx => absurd hx List.not_mem_nil⟩, ⟨by rw [he.pe]; exact Int.le_refl _, fun j _ => by rw [he.1 60 (by decide) (by decide)], fun j _ => by rw [he.1 61 (by decide) (by decide)], fun j _ => by rw [he.1 62 (by decide) (by decide)]⟩, he.wa, fun j _ => by rw [he.1 57 (by decide) (by decide)]⟩
theorem STG.tbs {v W : RS} (h : TBS v W) : STG v W := STG.fin h.1 h.chn (by rw [h.cd]; exact Int.le_refl _) (by rw [h.go]; exact Int.le_refl _)
theorem EQT.hole (v : RS) (k : Nat) (x : Int32) : EQT v (v.setA 22 k x) := ⟨fun j h1 _ => if_neg (by omega), rfl, fun _ _ _ _ _ _ _ => rfl⟩
theorem CHN.hole {v : RS} {k : Nat} {x : Int32} (ho : ¬ v.a 21 k = 36) : CHN v (v.setA 22 k x) := fun γ b L y _ hI hy => ⟨rfl, setA_ne (fun e => ho (by rw [← e]; exact hI.op y hy))⟩
theorem STG.hole {v : RS} {k : Nat} {x : Int32} (ho : ¬ v.a 21 k = 36) : STG v (v.setA 22 k x) := STG.fin (EQT.hole v k x) (CHN.hole ho) (Int.le_refl _) (Int.le_refl _)
theorem ARV.stg {v W : RS} (h : STG v W) {γ : Nat} {b : Bool} (hγ : (γ : Int) < goI W) (hq : ARV v γ b) : ARV W γ b := by
  obtain ⟨a1, a2, a3, a4, a5, a6, a7⟩ := h
  rcases hq with q | ⟨p, p1, p2, p3, p4, p5⟩
  · left
    cases b
    · exact (a3 γ hγ).2.2.2 q
    · exact (a3 γ hγ).2.2.1 q
  · refine Or.inr ⟨p, by have := a5.1; omega, ?_, ?_, by omega, ?_⟩
    · unfold gv at *; rw [a5.2.1 p p1]; exact p2
    · rw [a5.2.2.1 p p1]; exact p3
    · unfold gv at *
      rw [a5.2.2.2 p p1, a6, a7 (waI v - 1).toNat (by omega)]
      exact p5
theorem SITE.stg {s v W : RS} (h : STG v W) (hn : TN v) {γ : Nat} {b : Bool} {k : Nat} (hγ : (γ : Int) < goI W) (hs : SITE s v γ b k) : SITE s W γ b k := by
  obtain ⟨h1, L, h2, h3⟩ := hs
  obtain ⟨M, m1, m2⟩ := hn γ b (by have := h.2.1; omega)
  have e := ISCH.uniq h2 m1
  subst e
  obtain ⟨L1, c1, c2⟩ := h.2.2.2.1 γ b _ hγ h2 m2
  exact ⟨h1, _, c1, List.mem_append_right _ h3⟩
theorem JE.stg {s s1 v W f : RS} {g : Gh} {h o lv lv' : Nat} {rs : List Rec} (hE : EJ s W f g h o lv rs) (hg : STG v W) (hn : TN v) (hs : cdI s ≤ cdI s1) (hl : lv ≤ lv') {γ : Nat} {b : Bool} {k : Nat} (hγ : (γ : Int) < goI W) (a1 : ACC v γ) (a2 : b = true ∨ v.a 44 γ = 0) (a3 : SITE s1 v γ b k) : JE v f g γ b k h o lv' rs := by
  have q := hg.2.2.1
  have e47 : gv W 47 γ = gv v 47 γ := by unfold gv; rw [(q γ hγ).2.1]
  have acc : ACC W γ := ⟨hγ, by rw [(q γ hγ).1]; exact a1.2.1, fun δ d1 d2 => by rw [(q δ d2).1]; exact a1.2.2 δ d1 (by have := hg.2.1; omega)⟩
  have st : SITE s W γ b k := by
    have := a3.stg hg hn hγ
    exact ⟨by have := this.1; omega, this.2⟩
  obtain ⟨vt, j1, j2, j3⟩ := hE γ b k acc (by rw [(q γ hγ).1]; exact a2) st
  rw [e47] at j2 j3
  refine ⟨vt, ?_, j2, fun z => j3 (z.stg hg hγ)⟩
  have := hg.1
  rcases j1 with j1 | j1
  · exact Or.inl (by omega)
  · by_cases c : vt < lv'
    · exact Or.inl c
    · exact Or.inr ⟨by omega, by omega⟩
theorem EJ.stg {s s1 v W f : RS} {g : Gh} {h o lv lv' : Nat} {rs : List Rec} (hE : EJ s W f g h o lv rs) (hg : STG v W) (hn : TN v) (hs : cdI s ≤ cdI s1) (hl : lv ≤ lv') (hgo : goI W = goI v) : EJ s1 v f g h o lv' rs := fun γ b k a1 a2 a3 => JE.stg hE hg hn hs hl (by have := a1.1; omega) a1 a2 a3
theorem LAT.tbs {Z : Nat → Nat → Prop} {s1 u1 v W : RS} (h : LAT Z s1 u1 v) (hw : TBS v W) (hn : TN v) : LAT Z s1 u1 W := h.fin hw.1 hw.chn hn (by rw [hw.cd]; exact Int.le_refl _) (by rw [hw.go]; exact Int.le_refl _) (fun k _ _ => ⟨by rw [hw.2.1 21 (by decide) (by decide)], by rw [hw.2.1 23 (by decide) (by decide)], fun _ => by rw [hw.2.1 22 (by decide) (by decide)]⟩)
theorem TN.hole {v : RS} {k : Nat} {x : Int32} (hn : TN v) (ho : ¬ v.a 21 k = 36) : TN (v.setA 22 k x) := fun γ b hγ => by
  obtain ⟨L, l1, l2⟩ := hn γ b hγ
  exact ⟨L, (CHN.hole ho).eIS (EQT.hole v k x) hγ l1, l2⟩
theorem TN.tbs {v W : RS} (hn : TN v) (hw : TBS v W) : TN W := fun γ b hγ => by
  obtain ⟨L, l1, l2⟩ := hn γ b (by rw [hw.go] at hγ; exact hγ)
  exact ⟨L, hw.chn.eIS hw.1 hγ l1, fun x hx => by have := l2 x hx; rw [hw.cd]; exact this⟩
/-- body: a fault, or a statement -/
theorem BODY {N : Nat} {u : RS} {t : Nat} (st : Int32) (hl : LXI u) (ht : tpI u = t) (h9 : t < 998) : (∃ S, f_X12_body N u st = some S ∧ LX u S ∧ ¬ S.i 15 = 0) ∨ (f_X12_body N u st = some (TH u t st 2) ∧ u.i 15 = 0) := by
  have c0 : ∀ x : Int32, (∃ S, ((f_X12_can N u x).bind fun p2 => (if p2.1 = 0 then some p2.2 else f_X12_body_32 N p2.2 st)) = some S ∧ LX u S ∧ ¬ S.i 15 = 0) ∨ (((f_X12_can N u x).bind fun p2 => (if p2.1 = 0 then some p2.2 else f_X12_body_32 N p2.2 st)) = some (TH u t st 2) ∧ u.i 15 = 0) := fun x => by
    obtain ⟨p, ep, h1, h2, h3⟩ := p_cn (N := N) hl x
    rw [ep]
    show (∃ S, (if p.1 = 0 then some p.2 else f_X12_body_32 N p.2 st) = some S ∧ _) ∨ ((if p.1 = 0 then some p.2 else f_X12_body_32 N p.2 st) = _ ∧ _)
    rcases h3 with ⟨h3, h4⟩ | ⟨h3, h4, h5, h6⟩
    · rw [if_pos h3]
      exact Or.inl ⟨_, rfl, h1, h4⟩
    · rw [if_neg (by rw [h3]; decide), h4]
      unfold f_X12_body_32
      rw [p_th st 2 ht (by omega)]
      exact Or.inr ⟨rfl, h5⟩
  unfold f_X12_body
  by_cases c1 : u.i 10 = 410
  · rw [if_pos c1]; exact c0 0
  rw [if_neg c1]
  by_cases c2 : u.i 10 = 411
  · rw [if_pos c2]; exact c0 0
  rw [if_neg c2]
  exact c0 1
theorem MM.pcs {t : Nat} {st : Int32} {s u v : RS} (hv : PCS t st u v) (a3 : KP t s u) (a4 : SAME s u) (a5 : SNW s u) (a6 : RATE s u) : KP t s v ∧ SAME s v ∧ SNW s v ∧ RATE s v := by
  obtain ⟨v1, v2, v3, v4, v5, v6, -⟩ := hv
  exact ⟨a3.tr v3 (Nat.le_refl _), a4.tr v4, a5.tr v6 a3 v3, a6.tr v5⟩
/-- behind the sign that closes -/
theorem MM.clo {t : Nat} {st : Int32} {s R A v B : RS} (hI : INV s) (mR : MM t s R) (kA : KP t R A) (tA : TBL R A) (oA : A.i 19 = R.i 19 + 1) (dA : A.i 52 = R.i 52) (fA : fr R + 1 ≤ fr A) (tkA : tkI A = tkI R + 1) (hv : PC t st A v) (x1 : LX v B) (x2 : B.i 15 = 0) (x4 : B.i 19 = v.i 19 - 1) (x5 : fr v + 1 ≤ fr B) (x6 : tkI B = tkI v + 1) : MM t s B := by
  obtain ⟨a1, a2, a3, a4, a5, a6, a7, a8⟩ := mR
  obtain ⟨v1, v2, v3, v4, v5, v6, v7, v8, -⟩ := hv
  have kB : KP t s B := (((a3.tr kA (Nat.le_refl _)).tr v3 (Nat.le_refl _))).lx x1
  have A43 : A.i 43 = R.i 43 := tA.2.2 43 (by omega) (by omega) (by omega) (by omega)
  have A56 : A.i 56 = R.i 56 := tA.2.2 56 (by omega) (by omega) (by omega) (by omega)
  have A38 : A.i 38 = R.i 38 := tA.2.2 38 (by omega) (by omega) (by omega) (by omega)
  have e19 : B.i 19 = R.i 19 := by rw [x4, v4.1, oA, Int32.add_sub_cancel]
  have sm : SAME s B := a4.tr ⟨e19, (x1.2.2.1 43 (by omega) (by omega)).trans (v4.2.1.trans A43), (x1.2.2.1 52 (by omega) (by omega)).trans (v4.2.2.1.trans dA), (x1.2.2.1 56 (by omega) (by omega)).trans (v4.2.2.2.trans A56)⟩
  have e38 : B.i 38 = s.i 38 := x1.i38.trans (v5.trans (A38.trans a5))
  have rt : RATE s B := ((a6.tr (tA.rate (by omega) (by omega))).tr v6).tr (x1.tbl.rate (by omega) (by omega))
  exact ⟨hI.mkS kB x1.2.2.2.1 x2 (v1.2.2.2.1.lx x1) sm (SNW.eq e38 kB.2.2.2.2.2.1.2.1) rt (by omega) (by omega), x1.tp.trans v2, kB, sm, e38, rt, by omega, by omega⟩
theorem MM.em {t : Nat} {s u : RS} {o x : Int32} (hI : INV s) (h : MM t s u) (hc : cdI u + 1 - cdI s ≤ 3 * (fr u - fr s)) : MM t s (EM u o x) := by
  obtain ⟨a1, a2, a3, a4, a5, a6, a7, a8⟩ := h
  have cs := hI.cd
  have cu := a1.cd
  have k : KP t s (EM u o x) := a3.em cs.1 cu.2.2
  have rt : RATE s (EM u o x) := a6.em cu.1 cu.2.2 hc
  exact ⟨hI.mkS k (LXI.em a1.1) a1.2.2.1 (a1.2.2.2.1.em cu.1 cu.2.2) a4 (SNW.eq a5 k.2.2.2.2.2.1.2.1) rt (by show fr s ≤ fr u; omega) (by show tkI s ≤ tkI u; omega), a2, k, a4, a5, rt, a7, a8⟩
end
section
/-! reading: if -/
theorem TS.if1 {t : Nat} {s A v1 B2 v2 W : RS} {x9 : Int32} (hI : INV s) (kA : KP t s A) (cA : cdI A = cdI s + 1) (A21 : A.a 21 (cdI s).toNat = 1) (A38 : A.i 38 = s.i 38) (A52 : A.i 52 = s.i 52) (fA : fr s ≤ fr A) (te : TE A v1) (k1 : KP t A v1) (i1 : INV v1) (d1 : v1.i 52 = s.i 52) (f1 : fr A + 1 ≤ fr v1) (kB : KP t v1 B2) (cB : cdI B2 = cdI v1 + 1) (B21 : B2.a 21 (cdI v1).toNat = 13) (B38 : B2.i 38 = s.i 38) (sB : SAME s B2) (fB : fr v1 ≤ fr B2) (gB : goI v1 = goI s) (ts : TS B2 v2) (k2 : KP t B2 v2) (i2 : INV v2) (s2 : SAME B2 v2) (f2 : fr B2 ≤ fr v2) (hx9 : x9.toInt = cdI v2) (hW : TBS (v2.setA 22 (cdI v1).toNat x9) W) (hr : W.i 75 = 1) : TS s W := by
  intro f C hA hC h o lv rs hx hy
  have cs := hI.cd
  have c1' := i1.cd
  have fv1 := i1.1.f0
  have fv2 := i2.1.f0
  have le1 := k1.2.1.1
  have le2 := k2.2.1.1
  have ek : ((cdI v1).toNat : Int) = cdI v1 := Int.toNat_of_nonneg c1'.1
  have e21 : v2.a 21 (cdI v1).toNat = 13 := by rw [k2.2.1.2.1 _ (by omega)]; exact B21
  have no : ¬ v2.a 21 (cdI v1).toNat = 36 := by rw [e21]; decide
  have tnh : TN (v2.setA 22 (cdI v1).toNat x9) := i2.tn.hole no
  have cW : cdI W = cdI v2 := hW.cd
  have gW : goI W = goI v2 := hW.go
  have g2 : goI v2 = goI B2 := s2.go
  have gs : goI B2 = goI s := sB.go
  have L1 : LAT noZ A v1 W := ((((LAT.rf noZ A v1).kp (kB.tr k2 (Nat.le_refl _)) i1.tn (by omega)).hole no (Or.inr (Or.inl (by omega)))).tbs hW tnh)
  have L2 : LAT noZ B2 v2 W := (((LAT.rf noZ B2 v2).hole no (Or.inl (by omega))).tbs hW tnh)
  have ksB : KP t s B2 := (kA.tr k1 (Nat.le_refl _)).tr kB (Nat.le_refl _)
  obtain ⟨A1, C1⟩ := L1.use hA hC kA k1
  obtain ⟨A2, C2⟩ := L2.use hA hC ksB k2
  have stg : STG v2 W := (STG.hole no).tr (STG.tbs hW)
  have hx2 := hx.2.1
  have c1 := te f C A1 C1 h o lv rs (hx.up h A52 fA (by omega) (by omega))
  have kg := ksB.2.2.2.2.2.2.1
  have c2 := ts f C A2 C2 h o lv rs (hx.up h sB.2.2.1 (by omega) (by omega) (by omega)) (hy.of gs kg.2.1 kg.2.2.1)
  obtain ⟨g1, g2', g3, g4⟩ := hA.cell (k := (cdI v1).toNat) (o := 13) (x := x9) (by omega) (by omega) (by rw [hW.2.1 21 (by decide) (by decide)]; exact e21) (by rw [hW.2.1 22 (by decide) (by decide)]; exact setA_at) (by decide)
  have c13 : COD f C (cdI v1).toNat (h + 1) o lv rs (fun g => ENS s W f h o lv rs g ∧ FL f g lv (cdI B2) (cdI B2) h o rs) := by
    refine COD.ins (hx.up (h + 1) d1 (by omega) (by omega) (by omega)) g4 (fun g _ hE => ⟨?_, hE.1.1.1 _ (by omega)⟩)
    have hF1 : FL f g lv (((cdI v1).toNat : Int) + 1) (((cdI v1).toNat : Int) + 1) h o rs := by
      have := hE.2
      rw [cB] at this
      rw [ek]; exact this
    have hF2 : FL f g lv (((cdI v1).toNat : Int) + 1) (gv f 22 (cdI v1).toNat) h o rs := by
      rw [g2', hx9, ← cW]
      exact (hE.1.2.1 hr).mono (Nat.le_refl _) (by omega)
    exact okJ_13 (c := (h + 1, o, lv, false, rs)) g1 ⟨by show 1 ≤ h + 1; omega, fun _ => hF2, hF1⟩
  have c132 : COD f C (cdI v1).toNat (h + 1) o lv rs (ENS s W f h o lv rs) := COD.seq c13 c2 (fun g _ hE => ⟨hE.1.mid ksB B38 (by omega), fun _ => by rw [← cW]; exact hE.2.1 hr, hE.2.2.stg stg i2.tn (by omega) (Nat.le_refl _) gW⟩) (fun g _ hE hF => ⟨hE, hF⟩)
  have rest : COD f C (cdI s + 1) h o lv rs (ENS s W f h o lv rs) := by
    rw [← cA]
    exact COD.seq c1.cod c132 (fun g _ hE => hE) (fun g _ hE hF => ⟨hE.1.mid kA A38 (by omega), by rw [ek] at hF; exact hF⟩)
  refine COD.step hA hx cs.1 (by omega) ?_ (fun g _ hE => hE.1.1) rest
  rw [hW.2.1 21 (by decide) (by decide)]
  show v2.a 21 (cdI s).toNat = 1
  rw [k2.2.1.2.1 _ (by omega), kB.2.1.2.1 _ (by omega), k1.2.1.2.1 _ (by omega)]
  exact A21
theorem TS.if2 {t : Nat} {s A v1 B2 v2 D2 D3 v3 W : RS} {x8 x9 : Int32} (hI : INV s) (kA : KP t s A) (cA : cdI A = cdI s + 1) (A21 : A.a 21 (cdI s).toNat = 1) (A38 : A.i 38 = s.i 38) (A52 : A.i 52 = s.i 52) (fA : fr s ≤ fr A) (te : TE A v1) (k1 : KP t A v1) (i1 : INV v1) (d1 : v1.i 52 = s.i 52) (f1 : fr A + 1 ≤ fr v1) (kB : KP t v1 B2) (cB : cdI B2 = cdI v1 + 1) (B21 : B2.a 21 (cdI v1).toNat = 13) (B38 : B2.i 38 = s.i 38) (sB : SAME s B2) (fB : fr v1 ≤ fr B2) (gB : goI v1 = goI s) (ts : TS B2 v2) (k2 : KP t B2 v2) (i2 : INV v2) (s2 : SAME B2 v2) (n2 : SNW s v2) (f2 : fr B2 ≤ fr v2)
  (kD : KP t v2 D2) (cD : cdI D2 = cdI v2 + 1) (D21 : D2.a 21 (cdI v2).toNat = 15) (sD : SAME v2 D2) (tD : TN D2) (fD : fr v2 ≤ fr D2) (D38 : D2.i 38 = v2.i 38) (D40 : D2.a 40 = v2.a 40) (D41 : D2.a 41 = v2.a 41) (hx8 : x8.toInt = cdI D2) (hD3 : TBS (D2.setA 22 (cdI v1).toNat x8) D3) (D38' : D3.i 38 = D2.i 38) (f3' : fr D3 = fr D2) (s3' : SAME D2 D3) (ts3 : TS D3 v3) (k3 : KP t D3 v3) (i3 : INV v3) (s3 : SAME D3 v3) (f3 : fr D3 ≤ fr v3) (hx9 : x9.toInt = cdI v3) (hW : TBS (v3.setA 22 (cdI v2).toNat x9) W) (hr2 : v2.i 75 = 1 → W.i 75 = 1) (hr3 : v3.i 75 = 1 → W.i 75 = 1) (kD3 : KP t s D3) (eD : bel 40 (seI v2) v2 D3 ∧ bel 41 (seI v2) v2 D3) : TS s W := by
  intro f C hA hC h o lv rs hx hy
  have cs := hI.cd
  have c1' := i1.cd
  have c2' := i2.cd
  have fv1 := i1.1.f0
  have fv2 := i2.1.f0
  have fv3 := i3.1.f0
  have le1 := k1.2.1.1
  have le2 := k2.2.1.1
  have le3 := k3.2.1.1
  have ek1 : ((cdI v1).toNat : Int) = cdI v1 := Int.toNat_of_nonneg c1'.1
  have ek2 : ((cdI v2).toNat : Int) = cdI v2 := Int.toNat_of_nonneg c2'.1
  have e21 : v2.a 21 (cdI v1).toNat = 13 := by rw [k2.2.1.2.1 _ (by omega)]; exact B21
  have eD21 : D2.a 21 (cdI v1).toNat = 13 := by rw [kD.2.1.2.1 _ (by omega)]; exact e21
  have no1 : ¬ D2.a 21 (cdI v1).toNat = 36 := by rw [eD21]; decide
  have cD3 : cdI D3 = cdI v2 + 1 := by rw [hD3.cd]; exact cD
  have e3a : v3.a 21 (cdI v1).toNat = 13 := by
    rw [k3.2.1.2.1 _ (by omega), hD3.2.1 21 (by decide) (by decide)]; exact eD21
  have e3b : v3.a 21 (cdI v2).toNat = 15 := by
    rw [k3.2.1.2.1 _ (by omega), hD3.2.1 21 (by decide) (by decide)]; exact D21
  have e3x : v3.a 22 (cdI v1).toNat = x8 := by
    rw [k3.2.1.2.2.1 _ (by omega), hD3.2.1 22 (by decide) (by decide)]; exact setA_at
  have no2 : ¬ v3.a 21 (cdI v2).toNat = 36 := by rw [e3b]; decide
  have tnD : TN (D2.setA 22 (cdI v1).toNat x8) := tD.hole no1
  have tnD3 : TN D3 := tnD.tbs hD3
  have tn3 : TN (v3.setA 22 (cdI v2).toNat x9) := i3.tn.hole no2
  have cW : cdI W = cdI v3 := hW.cd
  have gW : goI W = goI v3 := hW.go
  have g2 : goI v2 = goI B2 := s2.go
  have gs : goI B2 = goI s := sB.go
  have gD : goI D2 = goI v2 := sD.go
  have gD3 : goI D3 = goI D2 := hD3.go
  have g3 : goI v3 = goI D3 := s3.go
  have L1 : LAT noZ A v1 W := ((((((((LAT.rf noZ A v1).kp (kB.tr k2 (Nat.le_refl _)) i1.tn (by omega)).kp kD i2.tn (by omega)).hole no1 (Or.inr (Or.inl (by omega)))).tbs hD3 tnD).kp k3 tnD3 (by omega)).hole no2 (Or.inr (Or.inl (by omega)))).tbs hW tn3)
  have L2 : LAT noZ B2 v2 W := (((((((LAT.rf noZ B2 v2).kp kD i2.tn (by omega)).hole no1 (Or.inl (by omega))).tbs hD3 tnD).kp k3 tnD3 (by omega)).hole no2 (Or.inr (Or.inl (by omega)))).tbs hW tn3)
  have L3 : LAT noZ D3 v3 W := (((LAT.rf noZ D3 v3).hole no2 (Or.inl (by omega))).tbs hW tn3)
  have ksB : KP t s B2 := (kA.tr k1 (Nat.le_refl _)).tr kB (Nat.le_refl _)
  have ksv2 : KP t s v2 := ksB.tr k2 (Nat.le_refl _)
  obtain ⟨A1, C1⟩ := L1.use hA hC kA k1
  obtain ⟨A2, C2⟩ := L2.use hA hC ksB k2
  obtain ⟨A3, C3⟩ := L3.use hA hC kD3 k3
  have stg3 : STG v3 W := (STG.hole no2).tr (STG.tbs hW)
  have stg2 : STG v2 W := ((((STG.kp kD gD sD.wa).tr (STG.hole no1)).tr (STG.tbs hD3)).tr (STG.kp k3 g3 s3.wa)).tr stg3
  have hx2 := hx.2.1
  have kg := ksB.2.2.2.2.2.2.1
  have kg3 := kD3.2.2.2.2.2.2.1
  have sD3 : SAME s D3 := ((sB.tr s2).tr sD).tr s3'
  have c1 := te f C A1 C1 h o lv rs (hx.up h A52 fA (by omega) (by omega))
  have c2 := ts f C A2 C2 h o lv rs (hx.up h sB.2.2.1 (by omega) (by omega) (by omega)) (hy.of gs kg.2.1 kg.2.2.1)
  have c3 := ts3 f C A3 C3 h o lv rs (hx.up h sD3.2.2.1 (by omega) (by omega) (by omega)) (hy.of sD3.go kg3.2.1 kg3.2.2.1)
  obtain ⟨p1, p2, p3, p4⟩ := hA.cell (k := (cdI v1).toNat) (o := 13) (x := x8) (by omega) (by omega) (by rw [hW.2.1 21 (by decide) (by decide)]; exact e3a) (by rw [hW.2.1 22 (by decide) (by decide)]; exact (setA_ne (by omega)).trans e3x) (by decide)
  obtain ⟨q1, q2, q3, q4⟩ := hA.cell (k := (cdI v2).toNat) (o := 15) (x := x9) (by omega) (by omega) (by rw [hW.2.1 21 (by decide) (by decide)]; exact e3b) (by rw [hW.2.1 22 (by decide) (by decide)]; exact setA_at) (by decide)
  have env3 : ∀ g : Gh, g.isC = C → ENS s W f h o lv rs g → ENS D3 v3 f h o lv rs g := fun g hg hE => by
    refine ⟨⟨fun k hk => hE.1.1 k (by omega), fun y hy' => ?_⟩, fun q => by rw [← cW]; exact hE.2.1 (hr3 q), hE.2.2.stg stg3 i3.tn (by omega) (Nat.le_refl _) gW⟩
    have ese : seI D3 = seI v2 := by unfold seI; rw [D38', D38]
    have nb := (ENB.nx (u1 := v2) (w := v2) (⟨fun k hk => hE.1.1 k (by omega), hE.1.2⟩ : ENB s v2 f g lv rs) hg (hC.mid (KP.rf t s) ksv2 L2.2.2.2.1 L2.2.2.1 L2.2.2.2.2.1 L2.2.2.2.2.2) ksv2 (KP.rf t v2) n2 i2.2.2.2.1 hI.2.2.2.1).2 y (by omega)
    unfold gv at nb ⊢
    rw [eD.1 y (by omega), eD.2 y (by omega)]
    exact nb
  have X : COD f C (cdI B2) h o lv rs (ENS s W f h o lv rs) := by
    by_cases cr : v2.i 75 = 1
    · have cJ : COD f C (cdI v2).toNat h o lv rs (ENS s W f h o lv rs) := by
        refine COD.ins (hx.up h (sB.tr s2).2.2.1 (by omega) (by omega) (by omega)) q4 (fun g _ hE => ⟨?_, hE.1.1 _ (by omega)⟩)
        have hF2 : FL f g lv (((cdI v2).toNat : Int) + 1) (gv f 22 (cdI v2).toNat) h o rs := by
          rw [q2, hx9, ← cW]
          exact (hE.2.1 (hr2 cr)).mono (Nat.le_refl _) (by omega)
        exact okJ_15 (c := (h, o, lv, false, rs)) q1 hF2
      exact COD.seq c2 cJ (fun g _ hE => hE) (fun g _ hE hF => ⟨hE.1.mid ksB B38 (by omega), fun _ => by rw [ek2] at hF; exact hF, hE.2.2.stg stg2 i2.tn (by omega) (Nat.le_refl _) (by omega)⟩)
    · exact c2.imp (fun g _ hE => ⟨hE.1.mid ksB B38 (by omega), fun q => absurd q cr, hE.2.2.stg stg2 i2.tn (by omega) (Nat.le_refl _) (by omega)⟩)
  have c13 : COD f C (cdI v1).toNat (h + 1) o lv rs (fun g => (ENS s W f h o lv rs g ∧ FL f g lv (cdI D3) (cdI D3) h o rs) ∧ FL f g lv (cdI B2) (cdI B2) h o rs) := by
    refine COD.ins (hx.up (h + 1) d1 (by omega) (by omega) (by omega)) p4 (fun g _ hE => ⟨?_, hE.1.1.1.1 _ (by omega)⟩)
    have hF1 : FL f g lv (((cdI v1).toNat : Int) + 1) (((cdI v1).toNat : Int) + 1) h o rs := by
      have := hE.2
      rw [cB] at this
      rw [ek1]; exact this
    have hF2 : FL f g lv (((cdI v1).toNat : Int) + 1) (gv f 22 (cdI v1).toNat) h o rs := by
      rw [p2, hx8, cD, ← cD3]
      exact hE.1.2.mono (Nat.le_refl _) (by omega)
    exact okJ_13 (c := (h + 1, o, lv, false, rs)) p1 ⟨by show 1 ≤ h + 1; omega, fun _ => hF2, hF1⟩
  have c13b : COD f C (cdI v1).toNat (h + 1) o lv rs (fun g => ENS s W f h o lv rs g ∧ FL f g lv (cdI D3) (cdI D3) h o rs) := COD.seq c13 X (fun g _ hE => hE.1) (fun g _ hE hF => ⟨hE, hF⟩)
  have c132 : COD f C (cdI v1).toNat (h + 1) o lv rs (ENS s W f h o lv rs) := COD.seq c13b c3 env3 (fun g _ hE hF => ⟨hE, hF⟩)
  have rest : COD f C (cdI s + 1) h o lv rs (ENS s W f h o lv rs) := by
    rw [← cA]
    exact COD.seq c1.cod c132 (fun g _ hE => hE) (fun g _ hE hF => ⟨hE.1.mid kA A38 (by omega), by rw [ek1] at hF; exact hF⟩)
  refine COD.step hA hx cs.1 (by omega) ?_ (fun g _ hE => hE.1.1) rest
  rw [hW.2.1 21 (by decide) (by decide)]
  show v3.a 21 (cdI s).toNat = 1
  rw [k3.2.1.2.1 _ (by omega), hD3.2.1 21 (by decide) (by decide)]
  show D2.a 21 (cdI s).toNat = 1
  rw [kD.2.1.2.1 _ (by omega), k2.2.1.2.1 _ (by omega), kB.2.1.2.1 _ (by omega), k1.2.1.2.1 _ (by omega)]
  exact A21
end
