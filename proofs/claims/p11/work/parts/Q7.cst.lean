/-! the class's reading: blocks, if, while -/
def STQ (H : HB) (x y : Int) (X : List (Nat × List Nat)) (P : List Nat) (lim : List Int) (s R : CS) : Prop := CBS H R ∧ (R.i 32 = 0 → (∃ c' : List Nat, JJ H x y c' X P lim R) ∧ SRL s R)
theorem STQ.flt {H : HB} {x y : Int} {X : List (Nat × List Nat)} {P : List Nat} {lim : List Int} {s t R : CS} (h : CBS H t) (hf : FLD t R) : STQ H x y X P lim s R := ⟨(JJ.flt (x := x) (y := y) (c := []) (X := X) (P := P) (lim := lim) h hf).1, fun q => absurd q hf.2.2.2.1⟩
theorem STQ.pl {H : HB} {x y p g : Int} {c : List Nat} {X : List (Nat × List Nat)} {P : List Nat} {lim : List Int} {s R : CS} (h : JJ H x y c X P lim R) (h0 : S0G s) (hs : R.i 32 = 0 → SX p g 0 s R) (hp : 1 ≤ p) (hg : 0 ≤ g) : STQ H x y X P lim s R := ⟨h.1, fun q => ⟨⟨c, h⟩, (hs q).srl hp hg h0.2.1⟩⟩
theorem STQ.w {H : HB} {x y x' y' : Int} {X : List (Nat × List Nat)} {P : List Nat} {lim : List Int} {s R : CS} (h : STQ H x y X P lim s R) (hx : x ≤ x') (hy : y ≤ y') : STQ H x' y' X P lim s R := ⟨h.1, fun q => ⟨by
  obtain ⟨⟨c', j⟩, -⟩ := h.2 q
  exact ⟨c', j.w hx hy⟩, (h.2 q).2⟩⟩
theorem CBS.pl {H : HB} {s : CS} (h : CBS H s) : 0 ≤ plI s ∧ plI s ≤ 900 := by
  have a := h.2.2.1.2.1
  have b := h.2.2.1.1
  unfold plI
  omega
theorem q_cin {N : Nat} {H : HB} (hN : 1000 ≤ N) {k : Int} {E1 : CS → Option (Unit × CS)} {E2 : CS → Option (Int32 × CS)} (hE2 : EC2 H k E2) {x y : Int} {c : List Nat} {X : List (Nat × List Nat)} {P : List Nat} {lim : List Int} {s : CS} (hx : x ≤ 4000) (hy : y + 3 * k ≤ 90 ∧ 0 ≤ k) (h : JJ H x y c X P lim s) (hk : s.i 32 = 0 → 23 - sgI s ≤ k) : ok (f_X7_conditionInside N E1 E2 s) (fun R => (JJ H (x - 250) y c X P lim R.2 ∧ (R.2.i 32 = 0 → EXR s R.2)) ∧ bo R.1) := by
  unfold f_X7_conditionInside
  refine q_br hN h 40 41 (by decide) (by decide) (B := bo) (fun R hR hM => ok_imp (q_condition (E1 := E1) hN hE2 (x - 100) y c X P lim R (by omega) (by omega) hR (fun q => by
      have a := hM q
      have := hk a.1
      rw [a.2.2.1]; omega)) (fun T hT => ⟨⟨hT.1.1.w (by omega) (Int.le_refl _), hT.1.2⟩, hT.2⟩)) (K := fun a r => if a = 0 ∨ a = 1 then some (a, r) else none) (fun a R hB hR hR2 => ok_chk hB (ok_some ⟨⟨hR.w (by omega) (Int.le_refl _), hR2⟩, hB⟩))
/-- an aim that is known in X -/
theorem JK.aimX {H : HB} {x y : Int} {cD c d : List Nat} {X : List (Nat × List Nat)} {P P' : List Nat} {lim : List Int} {s R : CS} {t : Int32} (h : JK H x y cD c d X P lim s) (ha : AIM s R t) (hx : x ≤ 10000) (hy : y ≤ 100) (hT : s.i 32 = 0 → ∃ k : Nat, t.toInt = (k : Int) ∧ (k, cD) ∈ X) (hP : s.i 32 = 0 → ∀ k ∈ P, k ∈ P' ∨ (k : Int) = t.toInt) : JK H x y cD c d X P' lim R := h.aim ha hx hy (fun q DT KT z _ => by
  obtain ⟨k, k1, k2⟩ := hT q
  have w := z (k, cD) k2
  have ek : t.toInt.toNat = k := by omega
  rw [ek]
  exact ⟨by omega, by rw [k1]; exact w.1, w.2.1⟩) hP
theorem NTG.t {H : HB} {x y : Int} {cD c d : List Nat} {X : List (Nat × List Nat)} {P : List Nat} {lim : List Int} {s : CS} {r : Int32} (h : JK H x y cD c d X P lim s) (nf : s.i 32 = 0) (e : r = s.i 21) : r.toInt = ((tcI s).toNat : Int) := by
  have := (h.2 nf).1.tc0.1
  rw [e]
  show tcI s = _
  omega
theorem JJ.ds {H : HB} {x y : Int} {c : List Nat} {X : List (Nat × List Nat)} {P : List Nat} {lim : List Int} {s : CS} (h : JJ H x y c X P lim s) (nf : s.i 32 = 0) : (s.i 38).toInt = (c.length : Int) ∧ c.length ≤ 21 := by
  have n := (h.2 nf).2.2.2.2.2.2.2.2.1
  exact ⟨n.1.symm, n.2⟩
theorem CBS.nm {H : HB} {s : CS} (h : CBS H s) : 0 ≤ (s.i 50).toInt ∧ (s.i 50).toInt ≤ 128 := h.2.2.2.2.2.1
/-- a row that keeps the context -/
theorem PRX.end {H : HB} {x y : Int} {c : List Nat} {X X' : List (Nat × List Nat)} {P P' : List Nat} {lim lim' : List Int} {v : Int32} {m a : Nat} {s0 s : CS} {p g e κ : Int} (h : PRX H x y c c c X P lim v m a s0 p g e s) (h0 : S0G s0) (h5 : ¬ s.o a 0 = 305) (hX : ∀ q ∈ X', q ∈ X) (hR : s.i 32 = 0 → ∀ (DT : Nat → List Nat) (KT : Nat → Prop), (∀ q ∈ X, (q.1 : Int) < tcI s ∧ DT q.1 = q.2 ∧ ¬ KT q.1) → (∀ n : Nat, (n : Int) < (s.o a 3).toInt → NMT (s.a 49 n) c) → ROW1 s DT KT a c c lim' lim) (hP : s.i 32 = 0 → ∀ k ∈ P, k ∈ P' ∨ OWS s a k) (hi : s.i 32 = 0 → lmh lim' ≤ ccI s) (h30 : s.i 32 = 0 → nmI s0 ≤ (s.o a 3).toInt ∧ (s.o a 3).toInt ≤ nmI s) (hsg : sgn s a = e) (hk : κ ≤ g) (hg0 : 0 ≤ g) (hp : 1 ≤ p) (hq : s.i 32 = 0 → ∀ V : CS, IQ V m → RSQ V s m → NR V m → IQ s (m + 1) ∧ WCS s (m + 1) ≤ WCS V m + κ) : STQ H (x + 50) y X' P' lim' s0 s := by
  refine ⟨h.1.1, fun nf => ?_⟩
  have hd := ((h.1.2.2.2.2 ((ci_ne _ _ _ (by decide)).trans nf)).2).2.2.2.2.2.2.2.1
  have hd' : (c.length : Int) = dsI s ∧ c.length ≤ 21 := ⟨hd.1.trans (by unfold dsI; rw [ci_ne _ _ _ (by decide)]), hd.2⟩
  obtain ⟨j, r⟩ := h.row nf h0 ⟨rfl, rfl, rfl, rfl⟩ (fun _ _ _ => rfl) h.1.1 h5 (hR nf) (hP nf) (fun _ z => z) (hi nf) (h30 nf) hd' hsg hk hg0 hp (hq nf)
  exact ⟨⟨c, JK.j (j.sub hX)⟩, r⟩
theorem q_block {N : Nat} {H : HB} (hN : 1000 ≤ N) {x y : Int} {c : List Nat} {X : List (Nat × List Nat)} {P : List Nat} {lim : List Int} {s : CS} (hx : x ≤ 4000) (hy : y ≤ 90) (h : JJ H x y c X P lim s) (h0 : S0G s) : ok ((f_X1_open N s 123).bind fun p35 => (f_X6_push N p35.2 301 (p35.2.i 38) (p35.2.i 50)).bind fun p39 => oCase p39.1 (some ((), p39.2)) (fun a44 => some ((), p39.2))) (fun R => STQ H (x - 20) y X P lim s R.2) := by
  refine ok_bind (q_open hN h.1 123) (fun b hb => ?_)
  obtain ⟨jb, mb⟩ := h.k.op (by decide) hb
  refine ok_bind (PRX.of (N := N) jb (fun q => (mb q).sx) 301 _ _ jb.1.nm) (fun r hr => ?_)
  obtain ⟨v, a, m, r1, px, ⟨o0, o2, o3, ol⟩, ⟨o9, o10, o11⟩, ri, ra⟩ := hr
  rw [r1]
  show ok (some ((), r.2)) _
  refine ok_some ((PRX.end (κ := 0) px h0 (by rw [o0]; decide) (fun _ z => z) (fun nf DT KT qX qN => ⟨?_, qN, ?_⟩) (fun nf k hk => Or.inl hk) (fun nf => ?_) (fun nf => ?_) ?_ (by omega) (by omega) (by omega) (fun nf V v1 v2 v3 => ?_)).w (by omega) (Int.le_refl _))
  · rw [o2, ← ri 38 (by decide) (by decide)]
    have hd := ((px.1.2.2.2.2 ((ci_ne _ _ _ (by decide)).trans nf)).2).2.2.2.2.2.2.2.1.1
    exact hd.symm.trans rfl |>.symm ▸ rfl
  · exact Or.inl ⟨Or.inr o0, rfl, rfl⟩
  · have := ((px.1.2.2.2.2 ((ci_ne _ _ _ (by decide)).trans nf)).1).lim
    exact this
  · rw [o3]
    have e : b.2.i 50 = r.2.i 50 := (ri 50 (by decide) (by decide)).symm
    refine ⟨?_, by rw [e]; exact Int.le_refl _⟩
    have w := (px.2 nf).2.2.2.2.1
    rw [e]
    exact w
  · unfold sgn; rw [o0]; rfl
  · have := v1.block v2 v3 px.1.2.1.2.1 o0
    exact ⟨this.1, by rw [this.2]; omega⟩
