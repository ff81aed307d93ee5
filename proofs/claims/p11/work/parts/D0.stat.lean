/-! reading: statements: what is typed of them -/
def ACC (s : RS) (γ : Nat) : Prop := (γ : Int) < goI s ∧ ¬ s.a 44 γ = 3 ∧ NOARM s γ
def fgB : Bool → Nat
  | true => 50
  | false => 51
def b01 : Bool → Int32
  | true => 1
  | false => 0
/-- a jump gets there: it is marked, or waits at the innermost wall -/
def ARV (u : RS) (γ : Nat) (b : Bool) : Prop := u.a (fgB b) γ = 1 ∨ ∃ p : Nat, (p : Int) < peI u ∧ gv u 60 p = γ ∧ u.a 61 p = b01 b ∧ 0 < waI u ∧ gv u 62 p = gv u 57 (waI u - 1).toNat
/-- a jump's place that was laid since s -/
def SITE (s u : RS) (γ : Nat) (b : Bool) (k : Nat) : Prop := cdI s ≤ k ∧ ∃ L, ISCH u (hd u b γ) L ∧ k ∈ L
def TGT (f : RS) (g : Gh) (vt : Nat) (x : Int) (d h o : Nat) (rs : List Rec) : Prop := 0 ≤ x ∧ x ≤ cdI f ∧ (x < cdI f → ∃ c, g.T x.toNat c ∧ c.h = h ∧ oA d o rs ≤ c.o ∧ c.one = false ∧ c.rs = dA d rs ∧ c.v = vt)
/-- what a jump's place finds around a statement -/
def JE (u f : RS) (g : Gh) (γ : Nat) (b : Bool) (k h o v : Nat) (rs : List Rec) : Prop := ∃ vt : Nat, (vt < v ∨ vt ≤ v ∧ cdI u ≤ gv f 22 k) ∧ lvA f (gv u 47 γ).toNat h vt (gv f 22 k) rs ∧ (ARV u γ b → arr f g (gv u 47 γ).toNat rs → TGT f g vt (gv f 22 k) (gv u 47 γ).toNat h o rs)
def EJ (s u f : RS) (g : Gh) (h o v : Nat) (rs : List Rec) : Prop := ∀ (γ : Nat) (b : Bool) (k : Nat), ACC u γ → (b = true ∨ u.a 44 γ = 0) → SITE s u γ b k → JE u f g γ b k h o v rs
def YE (s : RS) (rs : List Rec) : Prop := ∀ γ : Nat, (γ : Int) < goI s → s.a 44 γ = 3 → NOARM s γ → YOK (gv s 47 γ) rs
/-- what a statement's code finds around it -/
def ENS (s u f : RS) (h o v : Nat) (rs : List Rec) (g : Gh) : Prop := ENB s u f g v rs ∧ (u.i 75 = 1 → FL f g v (cdI u) (cdI u) h o rs) ∧ EJ s u f g h o v rs
/-- a statement's code -/
def TS (s u : RS) : Prop := ∀ (f : RS) (C : Nat → Bool), AG0 s u f → AGC s u C → ∀ (h o v : Nat) (rs : List Rec), CX s h o v rs → YE s rs → COD f C (cdI s) h o v rs (ENS s u f h o v rs)
/-- new names have new slots -/
def SNW (s u : RS) : Prop := seI u - seI s ≤ slI u - slI s ∧ ∀ x : Nat, seI s ≤ x → (x : Int) < seI u → slI s ≤ gv u 40 x
/-- behind a statement -/
def PS (t : Nat) (s u : RS) : Prop := INV u ∧ tpI u = (t : Int) - 1 ∧ KP t s u ∧ SAME s u ∧ RATE s u ∧ SNW s u ∧ fr s ≤ fr u ∧ tkI s ≤ tkI u ∧ (¬ 0 ≤ u.i 18 → TS s u)
def LGA (s : RS) : Prop := ∀ γ : Nat, ACC s γ → s.a 44 γ = 2 → 0 ≤ gv s 46 γ → (γ : Int) < gv s 46 γ ∧ gv s 46 γ < goI s ∧ s.a 44 (gv s 46 γ).toNat = 0
def NO3 (s : RS) : Prop := ∀ γ : Nat, ¬ TOPR s γ
def P3 (s : RS) : Prop := ∀ γ : Nat, TOPR s γ → s.i 10 = 2 ∨ s.i 10 = 415 ∨ s.i 10 = 416 ∨ s.i 10 = 417
def PRS (s : RS) : Prop := LGA s ∧ P3 s
def PRL (s : RS) : Prop := LGA s ∧ NO3 s
theorem NO3.p3 {s : RS} (h : NO3 s) : P3 s := fun γ h1 => absurd h1 (h γ)
/-- a statement's frame, to its end -/
def RUNS (N : Nat) (b : Nat) : Prop := ∀ (n : Nat) (s : RS) (t : Nat) (P : RS → Prop), INV s → PRS s → tpI s = t → s.a 64 t = 2 → s.a 65 t = 0 → 2 * (t : Int) ≤ fr s + 12 * op s + 2 → 900 - fr s ≤ b → 36000 + 30 ≤ (n : Int) + 40 * fr s → (∀ u, FS' s u → P u) → (∀ (m : Nat) (u : RS), PS t s u → fr s + 1 ≤ fr u → (n : Int) + 40 * fr s + 10 ≤ m + 40 * fr u → ok (f_X12_parse_10 N m u) P) → ok (f_X12_parse_10 N n s) P
/-- a list's -/
def RUNL (N : Nat) (b : Nat) : Prop := ∀ (n : Nat) (s : RS) (t : Nat) (P : RS → Prop), INV s → PRL s → tpI s = t → s.a 64 t = 1 → s.a 65 t = 0 → 2 * (t : Int) ≤ fr s + 12 * op s → 900 - fr s ≤ b → 36000 + 33 ≤ (n : Int) + 40 * fr s → (∀ u, FS' s u → P u) → (∀ (m : Nat) (u : RS), PS t s u → (u.i 10 = 125 ∨ u.i 10 = 429 ∨ u.i 10 = 430 ∨ u.i 10 = 0) → (n : Int) + 40 * fr s ≤ m + 40 * fr u + 1 → ok (f_X12_parse_10 N m u) P) → ok (f_X12_parse_10 N n s) P
/-- places that are not filled yet are left out -/
def AGZ (Z : Nat → Nat → Prop) (s u f : RS) : Prop := cdI u ≤ cdI f ∧ enI u ≤ enI f ∧ trI u ≤ trI f ∧ (u.i 3).toInt ≤ (f.i 3).toInt ∧
  (∀ k : Nat, cdI s ≤ k → (k : Int) < cdI u → f.a 21 k = u.a 21 k ∧ (¬ Z 22 k → f.a 23 k = u.a 23 k ∧ (¬ OPN u k → f.a 22 k = u.a 22 k))) ∧
  (∀ k : Nat, enI s ≤ k → (k : Int) < enI u → f.a 26 k = u.a 26 k ∧ f.a 28 k = u.a 28 k ∧ (¬ Z 27 k → f.a 27 k = u.a 27 k)) ∧
  (∀ k : Nat, trI s ≤ k → (k : Int) < trI u → ¬ Z 30 k → f.a 30 k = u.a 30 k ∧ f.a 31 k = u.a 31 k ∧ f.a 32 k = u.a 32 k) ∧
  (∀ k : Nat, caI s ≤ k → (k : Int) < caI u → f.a 35 k = u.a 35 k ∧ f.a 36 k = u.a 36 k ∧ (¬ Z 37 k → f.a 37 k = u.a 37 k))
def noZ : Nat → Nat → Prop := fun _ _ => False
theorem AGZ.of0 {Z : Nat → Nat → Prop} {s u f : RS} (h : AG0 s u f) : AGZ Z s u f := by
  obtain ⟨a1, a2, a3, a4, a5, a6, a7, a8⟩ := h
  exact ⟨a1, a2, a3, a4, fun k k1 k2 => ⟨(a5 k k1 k2).1, fun _ => (a5 k k1 k2).2⟩, fun k k1 k2 => ⟨(a6 k k1 k2).1, (a6 k k1 k2).2.2, fun _ => (a6 k k1 k2).2.1⟩, fun k k1 k2 _ => a7 k k1 k2, fun k k1 k2 => ⟨(a8 k k1 k2).1, (a8 k k1 k2).2.1, fun _ => (a8 k k1 k2).2.2⟩⟩
/-- w is later than u -/
def LAT (Z : Nat → Nat → Prop) (s u w : RS) : Prop := AGZ Z s u w ∧ (∀ k : Nat, cdI s ≤ k → (k : Int) < cdI u → OPN w k → OPN u k) ∧ caI u ≤ caI w ∧ slI u ≤ slI w ∧ (∀ j : Nat, (j : Int) < caI u → gv w 36 j = gv u 36 j) ∧ (∀ j : Nat, caI u ≤ j → (j : Int) < caI w → slI u ≤ gv w 36 j)
theorem LAT.rf (Z : Nat → Nat → Prop) (s u : RS) : LAT Z s u u := ⟨⟨Int.le_refl _, Int.le_refl _, Int.le_refl _, Int.le_refl _, fun _ _ _ => ⟨rfl, fun _ => ⟨rfl, fun _ => rfl⟩⟩, fun _ _ _ => ⟨rfl, rfl, fun _ => rfl⟩, fun _ _ _ _ => ⟨rfl, rfl, rfl⟩, fun _ _ _ => ⟨rfl, rfl, fun _ => rfl⟩⟩, fun _ _ _ h => h, Int.le_refl _, Int.le_refl _, fun _ _ => rfl, fun j h1 h2 => by omega⟩
/-- later still -/
theorem LAT.tr {Z : Nat → Nat → Prop} {s s0 u w f : RS} (h1 : LAT Z s u w) (h2 : LAT Z s0 w f) (hc : cdI s0 ≤ cdI s) (he : enI s0 ≤ enI s) (ht : trI s0 ≤ trI s) (ha : caI s0 ≤ caI s) : LAT Z s u f := by
  obtain ⟨⟨a1, a2, a3, a4, a5, a6, a7, a8⟩, a9, a10, a11, a12, a13⟩ := h1
  obtain ⟨⟨b1, b2, b3, b4, b5, b6, b7, b8⟩, b9, b10, b11, b12, b13⟩ := h2
  refine ⟨⟨by omega, by omega, by omega, by omega, fun k k1 k2 => ?_, fun k k1 k2 => ?_, fun k k1 k2 z => ?_, fun k k1 k2 => ?_⟩, fun k k1 k2 z => a9 k k1 k2 (b9 k (by omega) (by omega) z), by omega, by omega, fun j j1 => (b12 j (by omega)).trans (a12 j j1), fun j j1 j2 => ?_⟩
  · obtain ⟨c1, c2⟩ := a5 k k1 k2
    obtain ⟨d1, d2⟩ := b5 k (by omega) (by omega)
    exact ⟨d1.trans c1, fun z => ⟨(d2 z).1.trans (c2 z).1, fun q => ((d2 z).2 (fun y => q (a9 k k1 k2 y))).trans ((c2 z).2 q)⟩⟩
  · obtain ⟨c1, c2, c3⟩ := a6 k k1 k2
    obtain ⟨d1, d2, d3⟩ := b6 k (by omega) (by omega)
    exact ⟨d1.trans c1, d2.trans c2, fun z => (d3 z).trans (c3 z)⟩
  · obtain ⟨c1, c2, c3⟩ := a7 k k1 k2 z
    obtain ⟨d1, d2, d3⟩ := b7 k (by omega) (by omega) z
    exact ⟨d1.trans c1, d2.trans c2, d3.trans c3⟩
  · obtain ⟨c1, c2, c3⟩ := a8 k k1 k2
    obtain ⟨d1, d2, d3⟩ := b8 k (by omega) (by omega)
    exact ⟨d1.trans c1, d2.trans c2, fun z => (d3 z).trans (c3 z)⟩
  · by_cases q : (j : Int) < caI w
    · rw [b12 j q]; exact a13 j j1 q
    · have := b13 j (by omega) j2; omega
theorem LAT.kp0 {Z : Nat → Nat → Prop} {t : Nat} {s w f : RS} (h : KP t w f) (hn : TN w) (hg : goI f ≤ goI w) : LAT Z s w f := ⟨AGZ.of0 (AG0.kp h), fun k _ k2 z => OPN.back h hn hg k2 z, h.2.2.2.2.1.1, h.2.2.2.2.2.1.2.1, fun j hj => by unfold gv; rw [h.2.2.2.2.1.2.2.2.1 j hj], fun j h1 h2 => (h.2.2.2.2.1.2.2.2.2.2 j h1 h2).1⟩
theorem LAT.kp {Z : Nat → Nat → Prop} {t : Nat} {s u w f : RS} (h1 : LAT Z s u w) (h : KP t w f) (hn : TN w) (hg : goI f ≤ goI w) : LAT Z s u f := h1.tr (LAT.kp0 (s := s) h hn hg) (Int.le_refl _) (Int.le_refl _) (Int.le_refl _) (Int.le_refl _)
theorem OPN.hole {v : RS} {k : Nat} {x : Int32} (ho : ¬ v.a 21 k = 36) {j : Nat} (h : OPN (v.setA 22 k x) j) : OPN v j := by
  obtain ⟨γ, b, L, x1, x2, x3⟩ := h
  refine ⟨γ, b, L, x1, ?_, x3⟩
  have e : hd (v.setA 22 k x) b γ = hd v b γ := by cases b <;> rfl
  rw [e] at x2
  refine x2.of (fun y hy => ⟨rfl, (show (v.setA 22 k x).a 22 y = v.a 22 y from if_neg (fun e => ho ?_)).symm⟩)
  rw [← e]
  exact x2.op y hy
theorem LAT.hole {Z : Nat → Nat → Prop} {s u w : RS} {k : Nat} {x : Int32} (h : LAT Z s u w) (ho : ¬ w.a 21 k = 36) (hk : (k : Int) < cdI s ∨ cdI u ≤ (k : Int) ∨ Z 22 k) : LAT Z s u (w.setA 22 k x) := by
  obtain ⟨⟨a1, a2, a3, a4, a5, a6, a7, a8⟩, a9, a10, a11, a12, a13⟩ := h
  refine ⟨⟨a1, a2, a3, a4, fun j j1 j2 => ⟨(a5 j j1 j2).1, fun z => ⟨((a5 j j1 j2).2 z).1, fun q => ?_⟩⟩, a6, a7, a8⟩, fun j j1 j2 z => a9 j j1 j2 (OPN.hole ho z), a10, a11, a12, a13⟩
  have : j ≠ k := fun e => by
    subst e
    rcases hk with hk | hk | hk
    · omega
    · omega
    · exact z hk
  exact (if_neg this).trans (((a5 j j1 j2).2 z).2 q)
theorem LAT.iy {Z : Nat → Nat → Prop} {s u w : RS} {k : Nat} {x : Int32} (h : LAT Z s u w) (hk : (k : Int) < cdI s ∨ cdI u ≤ (k : Int) ∨ Z 22 k) : LAT Z s u (w.setA 23 k x) := by
  obtain ⟨⟨a1, a2, a3, a4, a5, a6, a7, a8⟩, a9, a10, a11, a12, a13⟩ := h
  refine ⟨⟨a1, a2, a3, a4, fun j j1 j2 => ⟨(a5 j j1 j2).1, fun z => ⟨?_, ((a5 j j1 j2).2 z).2⟩⟩, a6, a7, a8⟩, fun j j1 j2 z => a9 j j1 j2 ?_, a10, a11, a12, a13⟩
  · have : j ≠ k := fun e => by
      subst e
      rcases hk with hk | hk | hk
      · omega
      · omega
      · exact z hk
    exact (if_neg this).trans ((a5 j j1 j2).2 z).1
  · obtain ⟨γ, b, L, x1, x2, x3⟩ := z
    exact ⟨γ, b, L, x1, by cases b <;> exact x2.of (fun y _ => ⟨rfl, rfl⟩), x3⟩
/-- what an inner piece may use of what comes later -/
theorem LAT.use {t : Nat} {s s1 u1 W f : RS} {C : Nat → Bool} (h : LAT noZ s1 u1 W) (hA : AG0 s W f) (hC : AGC s W C) (k1 : KP t s s1) (k2 : KP t s1 u1) : AG0 s1 u1 f ∧ AGC s1 u1 C := by
  obtain ⟨⟨a1, a2, a3, a4, a5, a6, a7, a8⟩, a9, a10, a11, a12, a13⟩ := h
  have h0 : AG0 s1 u1 W := ⟨a1, a2, a3, a4, fun k x y => ⟨(a5 k x y).1, ((a5 k x y).2 id).1, ((a5 k x y).2 id).2⟩, fun k x y => ⟨(a6 k x y).1, (a6 k x y).2.2 id, (a6 k x y).2.1⟩, fun k x y => a7 k x y id, fun k x y => ⟨(a8 k x y).1, (a8 k x y).2.1, (a8 k x y).2.2 id⟩⟩
  exact ⟨AG0.comp h0 hA k1.2.1.1 k1.2.2.1.1 k1.2.2.2.1.1 k1.2.2.2.2.1.1 a10 a9, hC.mid k1 k2 a11 a10 a12 a13⟩
theorem NOARM.of {s u : RS} (hg : goI u = goI s) (h44 : bel 44 (goI s) s u) (γ : Nat) : NOARM u γ ↔ NOARM s γ := by
  constructor
  · intro h δ d1 d2
    have := h δ d1 (by omega)
    rw [h44 δ d2] at this
    exact this
  · intro h δ d1 d2
    rw [h44 δ (by omega)]
    exact h δ d1 (by omega)
theorem ACC.of {s u : RS} (hg : goI u = goI s) (h44 : bel 44 (goI s) s u) (γ : Nat) : ACC u γ ↔ ACC s γ := by
  constructor
  · rintro ⟨h1, h2, h3⟩
    exact ⟨by omega, by rw [← h44 γ (by omega)]; exact h2, (NOARM.of hg h44 γ).mp h3⟩
  · rintro ⟨h1, h2, h3⟩
    exact ⟨by omega, by rw [h44 γ h1]; exact h2, (NOARM.of hg h44 γ).mpr h3⟩
theorem YE.of {s u : RS} {rs : List Rec} (h : YE s rs) (hg : goI u = goI s) (h44 : bel 44 (goI s) s u) (h47 : bel 47 (goI s) s u) : YE u rs := by
  intro γ h1 h2 h3
  rw [hg] at h1
  rw [h44 γ h1] at h2
  have := h γ h1 h2 ((NOARM.of hg h44 γ).mp h3)
  unfold gv at this ⊢
  rw [h47 γ h1]
  exact this
theorem SAME.go {s u : RS} (h : SAME s u) : goI u = goI s := by unfold goI; rw [h.2.1]
theorem SAME.de {s u : RS} (h : SAME s u) : deI u = deI s := by unfold deI; rw [h.2.2.1]
theorem SAME.wa {s u : RS} (h : SAME s u) : waI u = waI s := by unfold waI; rw [h.2.2.2]
theorem SAME.eOp {s u : RS} (h : SAME s u) : op u = op s := by unfold op; rw [h.1]
theorem ARV.kp {t : Nat} {s u : RS} (hk : KP t s u) (hs : waI u = waI s) {γ : Nat} (hγ : (γ : Int) < goI s) {b : Bool} (h : ARV s γ b) : ARV u γ b := by
  rcases h with h | ⟨p, p1, p2, p3, p4, p5⟩
  · left
    cases b
    · exact hk.2.2.2.2.2.2.1.2.2.2.2.1 γ hγ h
    · exact hk.2.2.2.2.2.2.1.2.2.2.1 γ hγ h
  · have q := hk.2.2.2.2.2.2.2.2.2.1
    have w := hk.2.2.2.2.2.2.2.2.1
    refine Or.inr ⟨p, by have := q.1; omega, ?_, ?_, by omega, ?_⟩
    · unfold gv at *; rw [q.2.1 p p1]; exact p2
    · rw [q.2.2.1 p p1]; exact p3
    · unfold gv at *
      rw [q.2.2.2 p p1, hs, w.2.1 (waI s - 1).toNat (by omega)]
      exact p5
/-- the names that are new between two places are caught where a catch has their slot -/
theorem ENB.nx {t : Nat} {s u1 w f : RS} {g : Gh} {v : Nat} {rs : List Rec} {C : Nat → Bool} (h : ENB s w f g v rs) (hg : g.isC = C) (hC : AGC s w C) (k1 : KP t s u1) (k2 : KP t u1 w) (hn : SNW s u1) (t1 : TAB u1) (t0 : TAB s) : ENB u1 w f g v rs := by
  refine ⟨h.1, fun x hx => ?_⟩
  by_cases c : (x : Int) < seI s
  · have := h.2 x c
    unfold gv at this ⊢
    rw [k1.2.2.2.2.2.1.2.2.1 x c, k1.2.2.2.2.2.1.2.2.2 x c]
    exact this
  · have hs := hn.2 x (by omega) hx
    obtain ⟨b1, b2, b3⟩ := t1.2.2.2.2.1 x hx
    have e : ((gv u1 40 x).toNat : Int) = gv u1 40 x := Int.toNat_of_nonneg b1
    rw [hg, hC (gv u1 40 x).toNat (by omega) (by have := k2.2.2.2.2.2.1.2.1; omega), ← b3]
    constructor
    · rintro ⟨j, j1, j2, j3⟩
      have hj : (j : Int) < caI u1 := by
        by_cases q : (j : Int) < caI u1
        · exact q
        · have := (k2.2.2.2.2.1.2.2.2.2.2 j (by omega) j2).1; omega
      refine ⟨j, hj, ?_⟩
      have : gv w 36 j = gv u1 36 j := by unfold gv; rw [k2.2.2.2.2.1.2.2.2.1 j hj]
      omega
    · rintro ⟨j, j1, j3⟩
      have hj : caI s ≤ j := by
        by_cases q : (j : Int) < caI s
        · have := (t0.2.2.2.2.2.1 j q).2
          have e2 : gv u1 36 j = gv s 36 j := by unfold gv; rw [k1.2.2.2.2.1.2.2.2.1 j q]
          omega
        · omega
      have : gv w 36 j = gv u1 36 j := by unfold gv; rw [k2.2.2.2.2.1.2.2.2.1 j j1]
      exact ⟨j, hj, by have := k2.2.2.2.2.1.1; omega, by omega⟩
/-- a site stays in its chain -/
theorem SITE.kp {t : Nat} {s u w : RS} {γ : Nat} {b : Bool} {k : Nat} (h : SITE s u γ b k) (hk : KP t u w) (hn : TN u) (hγ : (γ : Int) < goI u) : SITE s w γ b k := by
  obtain ⟨h1, L, h2, h3⟩ := h
  obtain ⟨M, m1, m2⟩ := hn γ b hγ
  have e := ISCH.uniq h2 m1
  subst e
  obtain ⟨L1, c1, c2⟩ := hk.2.2.2.2.2.2.2.1 γ b _ hγ h2 m2
  exact ⟨h1, _, c1, List.mem_append_right _ h3⟩
/-- the jumps of an earlier piece find what the later place finds -/
theorem EJ.pre {t : Nat} {s u w f : RS} {g : Gh} {h o v : Nat} {rs : List Rec} (hE : EJ s w f g h o v rs) (hk : KP t u w) (hs : SAME u w) (hn : TN u) : EJ s u f g h o v rs := by
  intro γ b k h1 h2 h3
  have hγ := h1.1
  have kg := hk.2.2.2.2.2.2.1
  have e47 : gv w 47 γ = gv u 47 γ := by unfold gv; rw [kg.2.2.1 γ hγ]
  obtain ⟨vt, a1, a2, a3⟩ := hE γ b k ((ACC.of hs.go kg.2.1 γ).mpr h1) (by rw [kg.2.1 γ hγ]; exact h2) (h3.kp hk hn hγ)
  rw [e47] at a2 a3
  refine ⟨vt, ?_, a2, fun q => a3 (q.kp hk hs.wa hγ)⟩
  have := hk.2.1.1
  rcases a1 with a1 | a1
  · exact Or.inl a1
  · exact Or.inr ⟨a1.1, by omega⟩
/-- a statement behind another -/
theorem TS.seq {t : Nat} {s u w : RS} (h1 : TS s u) (h2 : TS u w) (k1 : KP t s u) (k2 : KP t u w) (s1 : SAME s u) (s2 : SAME u w) (n1 : SNW s u) (i0 : TAB s) (i1 : TAB u) (hr : u.i 75 = 1) (hf : fr s ≤ fr u) (f9 : fr u ≤ 900) : TS s w := by
  intro f C hA hC h o v rs hx hy
  obtain ⟨A1, C1⟩ := AG.mid hA hC (KP.rf t s) k1 k2 i1.1.1 (by rw [s2.go]; exact Int.le_refl _)
  have tnw : TN w := fun γ b hγ => by
    rw [s2.go] at hγ
    obtain ⟨L, l1, l2⟩ := i1.1.1 γ b hγ
    obtain ⟨L1, c1, c2⟩ := k2.2.2.2.2.2.2.2.1 γ b L hγ l1 l2
    refine ⟨_, c1, fun x hx => ?_⟩
    have := k2.2.1.1
    rcases List.mem_append.mp hx with hx | hx
    · exact (c2 x hx).2
    · have := l2 x hx; omega
  obtain ⟨A2, C2⟩ := AG.mid hA hC k1 k2 (KP.rf t w) tnw (Int.le_refl _)
  have kg := k1.2.2.2.2.2.2.1
  have c1 := h1 f C A1 C1 h o v rs hx hy
  have hx2 := hx.2.1
  have c2 := h2 f C A2 C2 h o v rs (hx.up h s1.2.2.1 hf f9 (by omega)) (hy.of s1.go kg.2.1 kg.2.2.1)
  refine COD.seq c1 c2 (fun g hg hE => ?_) (fun g hg hE hF => ?_)
  · obtain ⟨e1, e2, e3⟩ := hE
    refine ⟨e1.nx hg hC k1 k2 n1 i1 i0, e2, fun γ b k a1 a2 a3 => e3 γ b k a1 a2 ⟨?_, a3.2⟩⟩
    have := a3.1
    have := k1.2.1.1
    omega
  · obtain ⟨e1, e2, e3⟩ := hE
    exact ⟨e1.mid (KP.rf t s) rfl k2.2.1.1, fun _ => hF, e3.pre k2 s2 i1.1.1⟩
