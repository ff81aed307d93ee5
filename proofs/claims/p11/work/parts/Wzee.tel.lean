/-! both readers: a name is told inside a statement -/
theorem see_cd2 {N : Nat} {s V : RS} {l : Int64} {y : Int32} {z : Int32 × RS} (hz : f_X12_see N s l y = some z) (k3 : CD2 (z.2.i 20).toInt z.2 V) (v42 : V.i 42 = z.2.i 42 ∧ (z.2.i 20).toInt + 1 ≤ (V.i 20).toInt) (h20 : (s.i 20).toInt ≤ 2900) : CD2 (s.i 20).toInt s V := by
  obtain ⟨g1, g2, g3⟩ := see_cd hz
  obtain ⟨⟨z0, z9⟩, zi38, zi, za, -, -, zr⟩ := y_see hz
  have z20 : z.2.i 20 = s.i 20 := zi 20 (by decide) (by decide)
  have k3' := k3.2
  rw [z20] at k3'
  refine ⟨⟨by rw [← z20]; exact k3.1.1, ?_, ?_, ?_, fun sl => ?_, ?_⟩, fun j hj => ?_, fun j hj => ?_, fun j hj => ?_, fun j hj => ?_⟩
  · rw [← zi 24 (by decide) (by decide)]
    exact k3.1.2.1
  · rw [← zi 29 (by decide) (by decide)]
    exact k3.1.2.2.1
  · rw [← zi 33 (by decide) (by decide)]
    exact k3.1.2.2.2.1
  · have s1 : (s.i 42 + 1).toInt = (s.i 42).toInt + 1 := ad1 sl.1 (by have := sl.2; omega)
    have v2 := v42.2
    rw [z20] at v2
    refine ⟨by rw [v42.1, g2, s1]; omega, by rw [v42.1, g2, s1]; have := sl.1; omega, by rw [v42.1, g2, s1]; have := sl.2; omega⟩
  · rw [← zi 52 (by decide) (by decide)]
    exact k3.1.2.2.2.2.2
  · rw [← za 21 (by decide) (by decide), ← za 22 (by decide) (by decide), ← za 23 (by decide) (by decide)]
    exact k3'.1 j hj
  · rw [← za 25 (by decide) (by decide), ← za 26 (by decide) (by decide), ← za 27 (by decide) (by decide), ← za 28 (by decide) (by decide)]
    exact k3'.2.1 j (by rw [zi 24 (by decide) (by decide)]; exact hj)
  · rw [← za 30 (by decide) (by decide), ← za 31 (by decide) (by decide), ← za 32 (by decide) (by decide)]
    exact k3'.2.2.1 j (by rw [zi 29 (by decide) (by decide)]; exact hj)
  · rw [← za 34 (by decide) (by decide), ← za 35 (by decide) (by decide), ← za 36 (by decide) (by decide), ← za 37 (by decide) (by decide)]
    exact k3'.2.2.2 j (by rw [zi 33 (by decide) (by decide)]; exact hj)
/-- the new name's cell and slot belong together -/
def GNM (x y : Int32) : GPS := fun _ nm => ∃ a b : Nat, x.toInt = (a : Int) ∧ y.toInt = (b : Int) ∧ nm a b
theorem see_sat {S R : CS} {s V : RS} {x y : Int32} (c0 : 0 ≤ (S.i 23).toInt) (ex : x.toInt = (S.i 23).toInt) (ey : y = s.i 42) (lR : (S.i 23).toInt + 1 ≤ (R.i 23).toInt) (hV : SLO s → (V.i 42).toInt = (s.i 42).toInt + 1 ∧ SLO V) : SAT (GNM x y) S s R V := fun sl => by
  obtain ⟨V42, slV⟩ := hV sl
  have ca : ((x.toNatClampNeg : Nat) : Int) = x.toInt := clampI (by omega)
  have cb : ((y.toNatClampNeg : Nat) : Int) = y.toInt := clampI (by rw [ey]; exact sl.1)
  have eb : y.toInt = (s.i 42).toInt := by rw [ey]
  refine ⟨slV, fun _ => True, fun k l => k = x.toNatClampNeg ∧ l = y.toNatClampNeg, ⟨fun k l h => ?_, fun c l c' l' h h' => ?_⟩, fun FC nm g => ⟨_, _, ca.symm, cb.symm, (g.2 _ _ (Or.inl ⟨by omega, by omega⟩)).mpr ⟨rfl, rfl⟩⟩⟩
  · obtain ⟨h1, h2⟩ := h
    rw [h1, h2]
    exact ⟨⟨by omega, by omega⟩, by omega, by omega⟩
  · exact ⟨fun _ => h.2.trans h'.2.symm, fun _ => h.1.trans h'.1.symm⟩
theorem NMH.tel {nm : Nat → Nat → Prop} {c : List Ent} {S R : CS} {s V : RS} {x y : Int32} (ng : NMH nm c S s) (hn : ∃ a b : Nat, x.toInt = (a : Int) ∧ y.toInt = (b : Int) ∧ nm a b) (n50 : S.i 50 = s.i 38) (s0 : 0 ≤ (s.i 38).toInt) (R48 : ∀ k : Nat, (k : Int) < (S.i 50).toInt → R.a 48 k = S.a 48 k ∧ R.a 49 k = S.a 49 k) (Rn : R.a 48 (S.i 50).toNatClampNeg = x ∧ R.a 49 (S.i 50).toNatClampNeg = -1) (R38 : R.i 38 = S.i 38) (V38 : (V.i 38).toInt = (s.i 38).toInt + 1) (V40 : ∀ j : Nat, (j : Int) < (s.i 38).toInt → V.a 40 j = s.a 40 j) (Vn : V.a 40 (s.i 38).toNatClampNeg = y) (V52 : V.i 52 = s.i 52) (nc : NCB c R V) : NMH nm c R V := by
  obtain ⟨a, b, y1, y2, y3⟩ := hn
  have ck : (((s.i 38).toNatClampNeg : Nat) : Int) = (s.i 38).toInt := clampI s0
  refine ⟨fun k hk => ?_, by rw [R38]; exact ng.2.1, by rw [V52]; exact ng.2.2.1, nc⟩
  rw [V38] at hk
  by_cases q : (k : Int) < (s.i 38).toInt
  · obtain ⟨x1, x2⟩ := R48 k (by rw [n50]; exact q)
    rw [x1, x2, V40 k q]
    exact ng.1 k q
  · have ek : k = (s.i 38).toNatClampNeg := by omega
    rw [n50] at Rn
    rw [ek, Rn.1, Rn.2, Vn]
    have em : (-1 : Int32).toInt = -1 := by decide
    refine ⟨fun _ => ⟨a, b, y1, y2, y3⟩, fun z => ?_⟩
    rw [em] at z
    omega
section
variable {A : JBA} {U : RS} {B : CS} {b : RS} {V0 : List RVW} {s0 : RS} {W : List RVW} {a e : Int} {S : CS} {s : RS}
/-- a name is told and gets the value on top -/
theorem JRG.tel {N : Nat} {d : Int32} {δ : Nat} {K0 Z : JKT} {l : Int64} {x9 : Int32 × CS} {z V : Int32 × RS} {p : Unit × CS} (h : JRG A U B b V0 s0 W (JAN K0 (JQG U δ 1 0 (pcC S) (pcR s) Z)) a e S s) (hb : (b.i 38).toInt ≤ (s.i 38).toInt) (ev : ENV d S s) (h20 : (s.i 20).toInt ≤ 2900) (e9 : f_X7_tell N S l = some x9) (hz : f_X12_see N s l 0 = some z) (ea : f_X0_add N x9.2 2 x9.1 = some p) (he : f_X12_emit N z.2 5 z.1 = some V) (la : a ≤ 100) (le : e ≤ 100) : JRG A U B b V0 s0 W (JAN (JAN K0 (JLT (pcC S) (pcC p.2))) (JQA U δ 0 (pcC p.2) (pcR V.2) Z)) (a + 1) (e + 2) p.2 V.2 := by
  refine h.codT (t := True) (fun _ => hb) (fun rm => ?_)
  obtain ⟨⟨r0, r1⟩, r2, r3, r4, r5⟩ := rm
  have n50 := ev.2.1.1
  have hk8 := nms_hi ev
  have g44 : (S.i 44).toInt = (s.i 11).toInt := by rw [ev.p44.1]
  have g6 := (i11_hi ev).2
  have h50 : 0 ≤ (S.i 50).toInt ∧ (S.i 50).toInt < 128 := by rw [n50]; exact ⟨by omega, by omega⟩
  obtain ⟨d1, d2, d3, d4, d5, d6, d7, d8, d9, d10⟩ := cd_tell e9 h50.1 h50.2 r4 (by omega)
  obtain ⟨g1, g2, g3⟩ := see_cd hz
  obtain ⟨⟨z0, z9⟩, zi38, zi, za, -, -, zr⟩ := y_see hz
  have i20 : (x9.2.i 20).toInt = (S.i 20).toInt := by rw [d5]
  obtain ⟨c1, c2, ⟨c3, c3'⟩, c4, c5, c6⟩ := cd_add ea (by omega) (by omega)
  have z20 : z.2.i 20 = s.i 20 := zi 20 (by decide) (by decide)
  have p20 := ev.p20
  obtain ⟨m1, m2, m3, m4, m5, m6⟩ := cd_emit he (by rw [z20]; exact p20.1) (by rw [z20]; omega)
  have f1 : p.2.a 48 = x9.2.a 48 ∧ p.2.a 49 = x9.2.a 49 ∧ p.2.i 38 = x9.2.i 38 ∧ p.2.i 23 = x9.2.i 23 := by
    unfold f_X0_add at ea
    cases ea
    exact ⟨rfl, rfl, rfl, rfl⟩
  have f2 : V.2.i 38 = z.2.i 38 ∧ V.2.a 40 = z.2.a 40 ∧ V.2.i 52 = z.2.i 52 ∧ V.2.i 42 = z.2.i 42 := by
    unfold f_X12_emit f_X12_emit_21 at he
    by_cases c : (3000 : Int32) ≤ z.2.i 20
    · have e3 : (3000 : Int32).toInt = 3000 := by decide
      have := le_int c
      rw [z20] at this
      omega
    rw [if_neg c] at he
    obtain ⟨-, he⟩ := hf_ite he
    cases he
    exact ⟨rfl, rfl, rfl, rfl⟩
  have cV : CD2 (s.i 20).toInt s V.2 := see_cd2 hz m1 ⟨f2.2.2.2, by omega⟩ h20
  have cR : CD1 1 2 S p.2 := (d1.tr c1).wk (by omega) (by omega)
  have pS : ((pcC S : Nat) : Int) = (S.i 20).toInt := Int.toNat_of_nonneg r0
  have pc9 : pcC x9.2 = pcC S := by unfold pcC; rw [d5]
  have pr9 : pcR z.2 = pcR s := by unfold pcR; rw [z20]
  have ps : ((pcR s : Nat) : Int) = (s.i 20).toInt := Int.toNat_of_nonneg p20.1
  have pcp : pcC p.2 = pcC S + 1 := by
    unfold pcC
    rw [c2, d5]
    omega
  have prV : pcR V.2 = pcR s + 1 := by
    unfold pcR
    rw [m3, z20]
    have := p20.1
    omega
  rw [pc9] at c3 c3'
  rw [pr9] at m4 m5
  refine ⟨GNM x9.1 z.1, cR.k, ⟨(CT7.eq d4).tr (CT7.eq c4), NK.of cR cV n50 (Or.inr True.intro)⟩, cV.k, see_sat r4 (by rw [d2]) g1 (by rw [f1.2.2.2]; omega) (fun sl => ?_), fun FC nm c ps' _ ng => ng.tel ps' n50 z0 (fun k hk => ?_) ⟨by rw [f1.1, d9, d2], by rw [f1.2.1, d10]⟩ (cR.2.2.2.2.2.2.1) (by rw [f2.1, zi38, ad1 z0 (by omega)]) (fun j hj => by rw [f2.2.1]; exact (zr j hj).2.1) (by rw [f2.2.1, g3, g1]) (by rw [f2.2.2.1, zi 52 (by decide) (by decide)]) (ng.2.2.2.mv cR.2.2.2.2.2.1.1 cV.1.2.2.2.2.1), fun FC SF nm X ω j Zp ps' fc fg ng hc hh tyc tl hω kk => ⟨⟨kk.1, (by show pcC S < pcC p.2; omega)⟩, fun gu => kk.2 ?_⟩⟩
  · have s1 : (s.i 42 + 1).toInt = (s.i 42).toInt + 1 := ad1 sl.1 (by have := sl.2; omega)
    exact ⟨by rw [f2.2.2.2, g2, s1], (cV.1.2.2.2.2.1 sl).2⟩
  · rw [f1.1, f1.2.1]
    exact d1.2.2.2.2.1 k hk
  · have f := fc.2.1 (pcC S) (by omega) (by rw [c2, i20]; omega)
    have u := fg.2.1 (pcR s) (by omega) (by rw [m3, z20]; omega)
    have f1' := fg.1
    obtain ⟨y1, y2, y3, y4, y5⟩ := ps'
    have g0 := gu 0
    rw [pcp, prV] at g0
    have r12 := fc.1.2
    rw [c2] at r12
    have pq : PQX SF U (pcC S) (pcR s) := ⟨by omega, by have := f1'.2.1; rw [m3, z20] at this; omega, f1'.2.2⟩
    exact gi_UStor (pq.hc (hc.up (Nat.le_add_right _ _))) pq.2.1 ⟨⟨y1, y2, by rw [f.2, c3']; exact y3, by rw [u.2.1 (by omega), m5]; exact y4, y5⟩, Or.inl ⟨by rw [f.1]; exact c3, by rw [u.1]; exact m4, j.h, rfl, ω + j.l + δ - (pcC S + 1), by omega, g0⟩⟩
end
/-- cells that wait for their row -/
def cv (x y : Int32) : RVW := (fun k => if k = 0 then 996 else if k = 9 then x else y, fun _ => 0, 0, 0)
theorem cv.v {x y : Int32} : (cv x y).v = 996 := rfl
theorem cv.site {x y : Int32} {k : Nat} : ¬ rsite (cv x y) k := fun h => by
  rcases h with ⟨h, -⟩ | ⟨h, -⟩ | ⟨h, -⟩ | ⟨h, -⟩
  · rcases h with h | h | h <;> exact absurd h (by rw [cv.v]; decide)
  · exact absurd h (by rw [cv.v]; decide)
  · rcases h with h | h <;> exact absurd h (by rw [cv.v]; decide)
  · rcases h with h | h <;> exact absurd h (by rw [cv.v]; decide)
theorem cv.ty {x y : Int32} : ¬ isTyv (cv x y) := fun e => by
  rcases e with z | z | z | z <;> exact absurd z (by rw [cv.v]; decide)
theorem cv.tgs {x y : Int32} : rtgs (cv x y) = [] := by
  unfold rtgs
  rw [cv.v, if_neg (by decide), if_neg (by decide), if_neg (by decide), if_neg (by decide), if_neg (by decide)]
/-- a row of values may be opened -/
def JRO (x y : Int32) : JKT := fun _ _ nm _ _ j _ => 0 ≤ x.toInt ∧ HC0 nm j.h ((4, j.h, x.toNatClampNeg, y.toNatClampNeg, 0, 0, 0) :: j.c)
theorem HC0.row {nm : Nat → Nat → Prop} {h x y : Nat} {c : List Ent} (z : HC0 nm h c) (g : ∀ k : Nat, x ≤ k → k < x + 2 + y → k < 720 ∧ (∀ l : Nat, ¬ nm k l) ∧ ∀ e ∈ c, ¬ cel e k) : HC0 nm h ((4, h, x, y, 0, 0, 0) :: c) := by
  obtain ⟨z1, z2, z3, z4⟩ := z
  refine ⟨⟨fun k q => ?_, fun l q => ?_, z1⟩, z2, z3, fun e he => ?_⟩
  · rcases q with ⟨q, -⟩ | ⟨-, q1, q2⟩
    · exact absurd (show (4 : Nat) = 2 from q) (by decide)
    · exact g k q1 q2
  · exact absurd (show (4 : Nat) = 2 from q.1) (by decide)
  · rcases List.mem_cons.mp he with rfl | he
    · exact Nat.le_refl _
    · exact z4 e he
/-- an entry more: the names -/
theorem NMH.push {nm : Nat → Nat → Prop} {c : List Ent} {S R : CS} {s u : RS} {e : Ent} (ng : NMH nm c S s) (a48 : R.a 48 = S.a 48) (a49 : R.a 49 = S.a 49) (i38 : u.i 38 = s.i 38) (a40 : u.a 40 = s.a 40) (d38 : (R.i 38).toInt = (S.i 38).toInt + (if e.k ≤ 3 then 1 else 0)) (d52 : (u.i 52).toInt = (s.i 52).toInt + 1) (l19 : (frs (e :: c) : Int) ≤ (u.i 19).toInt) (nc : NCB (e :: c) R u) : NMG nm (e :: c) R u := by
  refine ⟨fun k hk => ?_, ?_, ?_, l19, nc⟩
  · rw [i38] at hk
    rw [a48, a49, a40]
    obtain ⟨n1, n2⟩ := ng.1 k hk
    exact ⟨n1, fun z => by
      obtain ⟨l1, e', l0, he, z⟩ := n2 z
      exact ⟨e :: l1, e', l0, by rw [he]; rfl, z⟩⟩
  · have z := ng.2.1
    rw [d38, ← z]
    show ((frs c + (if e.k ≤ 3 then 1 else 0) : Nat) : Int) = _
    by_cases q : e.k ≤ 3
    · rw [if_pos q, if_pos q]
      omega
    · rw [if_neg q, if_neg q]
      omega
  · have z := ng.2.2.1
    rw [d52, ← z]
    show ((c.length + 1 : Nat) : Int) = _
    omega
/-- no name has these cells -/
def GNC (x n : Int) : GPS := fun _ nm => ∀ k l : Nat, x ≤ (k : Int) → (k : Int) < x + n → ¬ nm k l
section
variable {A : JBA} {U : RS} {B : CS} {b : RS} {V0 : List RVW} {s0 : RS} {W : List RVW} {K : JKT} {a e : Int} {S : CS} {s : RS}
/-- new cells -/
theorem JRG.ncl {N : Nat} {n : Int32} {w : Int32 × CS} (h : JRG A U B b V0 s0 W K a e S s) (e1 : f_X0_newCells N S n = some w) (h2 : 2 ≤ n.toInt) (he : e + 2 * n.toInt ≤ 200) (hn : n.toInt ≤ 1000) (h44 : (S.i 44).toInt ≤ 900) : JRG A U B b V0 s0 (cv w.1 (n - 2) :: W) (fun FC SF nm X ω j Z => w.1.toInt + n.toInt ≤ 720 ∧ JRO w.1 (n - 2) FC SF nm X ω j Z ∧ K FC SF nm X ω j Z) a (e + 2 * n.toInt) w.2 s := by
  intro crB
  obtain ⟨b1, ⟨b2, n8⟩, b3, b4, Ψ, G, col, YJ, sax, ⟨pin, pin0⟩, tgi, jsi, main⟩ := h crB
  obtain ⟨r1, r2, r3, r4, r5⟩ := crB.rms b1
  have w1 : w.1 = S.i 23 := by
    unfold f_X0_newCells at e1
    cases e1
    exact Int32.add_sub_cancel _ _
  have w2 : w.2 = CS.setI S 23 (S.i 23 + n) := by
    unfold f_X0_newCells at e1
    cases e1
    rfl
  have n23 : (S.i 23 + n).toInt = (S.i 23).toInt + n.toInt := by rw [toInt_add] <;> omega
  have n2 : (n - 2).toInt = n.toInt - 2 := by
    have e2 : (2 : Int32).toInt = 2 := by decide
    rw [toInt_sub] <;> rw [e2] <;> omega
  have x1 : CD1 0 (2 * n.toInt) S w.2 := by
    rw [w2]
    refine ⟨⟨Int.le_refl _, ?_, ?_⟩, fun _ _ => ⟨rfl, rfl⟩, Int.le_refl _, Int.le_refl _, fun _ _ => ⟨rfl, rfl⟩, ⟨?_, ?_⟩, rfl, Int.le_refl _, fun _ _ => rfl⟩
    · show (S.i 20).toInt + (S.i 44).toInt ≤ (S.i 20).toInt + (S.i 44).toInt + 0
      omega
    · show (S.i 21).toInt + (S.i 44).toInt ≤ (S.i 21).toInt + (S.i 44).toInt + 2 * n.toInt
      omega
    · show (S.i 23).toInt ≤ (S.i 23 + n).toInt
      omega
    · show 2 * (S.i 23 + n).toInt + (S.i 44).toInt ≤ 2 * (S.i 23).toInt + (S.i 44).toInt + 2 * n.toInt
      omega
  have a17 : w.2.a 17 = S.a 17 := by rw [w2]; rfl
  have i21 : w.2.i 21 = S.i 21 := by rw [w2]; rfl
  have i23 : (w.2.i 23).toInt = (S.i 23).toInt + n.toInt := by rw [w2]; exact n23
  have ew : w.1.toInt = (S.i 23).toInt := by rw [w1]
  have ng1 : ∀ (nm : Nat → Nat → Prop) (c : List Ent), NMH nm c S s → NMH nm c w.2 s := fun nm c z => by
    have nc := z.2.2.2.mv x1.2.2.2.2.2.1.1 (SLC.eq (s := s) rfl (Int.le_refl _))
    rw [w2] at nc ⊢
    exact ⟨z.1, z.2.1, z.2.2.1, nc⟩
  have sat : SAT (GNC w.1.toInt n.toInt) S s w.2 s := fun sl => ⟨sl, fun _ => True, fun _ _ => False, ⟨fun _ _ z => z.elim, fun _ _ _ _ z => z.elim⟩, fun FC nm g k l k1 k2 q => (g.2 k l (Or.inl ⟨by omega, by omega⟩)).mp q⟩
  have tg : ptl ((cv w.1 (n - 2) :: W) ++ V0) = ptl (W ++ V0) := by
    show rtgs (cv w.1 (n - 2)) ++ ptl (W ++ V0) = _
    rw [cv.tgs]
    rfl
  refine ⟨(b1.tr x1.k).wk (by omega) (by omega), ⟨b2.tr (CT7.eq a17), n8.nk (NK.eq (by rw [w2]; rfl) (by rw [w2]; rfl) rfl rfl)⟩, b3, b4, GPS.an Ψ (GNC w.1.toInt n.toInt), G, col, YJ, (sax.an sat (MNO.ofk b1 b3) (MNO.ofk x1.k (KD2.rf 0 s)) pin.2.2.1).nt cv.ty, ⟨⟨fun k q => pin.1 k (q.nt cv.site), fun k q => pin.2.1 k (q.nt (by rw [cv.v]; decide)), fun k q => pin.2.2.1 k (q.nt cv.ty), fun k q => pin.2.2.2 k (q.nt cv.ty)⟩, pin0⟩, ?_, ⟨jsi.1.mv (rjw.n (fun z => absurd z.1 (by rw [cv.v]; decide))) (fun r hr => (List.mem_cons.mp hr).elim (fun z => Or.inr (fun k q => by rw [z] at q; exact absurd q cv.site)) Or.inl) b4 (KD2.rf _ _) (fun _ _ q => q.1), (jsi.2.1.tr x1.k).wk (by omega) (by omega), (jsi.2.2.1.mv crB.1.1.2.1 x1.k.2.2.1 x1.k.1.1 (CT7.eq a17) (fun r hr _ _ => hr)).cs (rhd.no (by rw [cv.v]; decide)), jsi.2.2.2.kd x1.k (KD2.rf _ _)⟩, ?_⟩
  · have z := tgi.mv crB.1.1.2.1 (by rw [i21]; exact Int.le_refl _) (CT7.eq a17)
    unfold TGI at z ⊢
    rw [tg]
    exact z
  intro FC SF nm X h0 ω c0 psi ng0 hc0 hh0 hω
  obtain ⟨⟨ng, hc, hh, wn⟩, mn⟩ := main FC SF nm X h0 ω c0 psi.1 ng0 hc0 hh0 hω
  refine ⟨⟨⟨ng1 nm _ ng.1, ng.2⟩, hc, hh, fun r hr hv => ?_, wn.2⟩, fun fc fg hA tyc jr => ⟨by omega, ⟨by omega, hc.row (fun k k1 k2 => ?_)⟩, mn (fc.pre x1.k (CT7.eq a17) (fun y hy => Or.inl (by rw [tg] at hy; exact hy))) ?_ hA tyc jr⟩⟩
  · rcases List.mem_cons.mp hr with z | hr
    · rw [z]
      refine ⟨fun _ => ⟨show 0 ≤ w.1.toInt by omega, fun k k1 k2 => ?_⟩, fun y => absurd y cv.ty⟩
      have k1' : w.1.toInt ≤ (k : Int) := k1
      have k2' : (k : Int) < w.1.toInt + 2 + (n - 2).toInt := k2
      refine ⟨by omega, by omega, fun l => psi.2 k l k1' (by omega), fun e' he' q => ?_⟩
      have := (ng.1.2.2.2.2 e' he').1 k q
      omega
    · refine ⟨fun e9 => ⟨((wn.1 r hr hv).1 e9).1, fun k k1 k2 => ?_⟩, (wn.1 r hr hv).2⟩
      obtain ⟨z1, z2⟩ := ((wn.1 r hr hv).1 e9).2 k k1 k2
      exact ⟨by omega, z2⟩
  · have cw := clampI (show 0 ≤ w.1.toInt by omega)
    have cn := clampI (show 0 ≤ (n - 2).toInt by omega)
    refine ⟨by omega, fun l => psi.2 k l (by omega) (by omega), fun e' he' q => ?_⟩
    have := (ng.1.2.2.2.2 e' he').1 k q
    omega
  · obtain ⟨h1, h4, h5, h6, h7⟩ := fg
    exact ⟨h1, fun j j1 j2 => ⟨(h4 j j1 j2).1, fun q => (h4 j j1 j2).2.1 (fun p => q (p.nt cv.site)), fun q => (h4 j j1 j2).2.2 (fun p => q (p.nt (by rw [cv.v]; decide)))⟩, fun j j1 j2 => ⟨(h5 j j1 j2).1, (h5 j j1 j2).2.1, fun q => (h5 j j1 j2).2.2.1 (fun p => q (p.nt (by rw [cv.v]; decide))), (h5 j j1 j2).2.2.2⟩, fun j j1 j2 q => h6 j j1 j2 (fun p => q (p.nt cv.ty)), fun j j1 j2 => ⟨(h7 j j1 j2).1, (h7 j j1 j2).2.1, (h7 j j1 j2).2.2.1, fun q => (h7 j j1 j2).2.2.2 (fun p => q (p.nt cv.ty))⟩⟩
end
section
variable {A : JBA} {U : RS} {B : CS} {b : RS} {V0 : List RVW} {s0 : RS} {W : List RVW} {K K' : JKT} {a e : Int} {S : CS} {s : RS}
/-- the class alone: a token on -/
theorem JRG.cec {R : CS} (m : Int) (h : JRG A U B b V0 s0 W K a e S s) (kp : pj R = pj S) (ke : pe R = pe S) (l : (S.i 44).toInt + m ≤ (R.i 44).toInt) : JRG A U B b V0 s0 W K (a - m) (e - m) R s := by
  obtain ⟨-, -, -, -, -, -, -, -, -, -, -, -, -, i50, -, -, -, -, -, -, a48, a49, -, -, -, -, -, i21, -⟩ := pj_eq kp
  have c1 : CD1 (-m) (-m) S R := CD1.pe (b := m) ke i21 i50 a48 a49 l
  have y : JSP (-1) a e (-m) (-m) U s0 K K S s R s := fun _ => ⟨GPS.tt, c1.k, ⟨CT7.eq (pe_eq ke).2.2.2.1, NK.eq a48 a49 rfl rfl⟩, KD2.rf _ _, SAT.tt _ _ _ _ (SLC.eq rfl (Int.le_refl _)), fun _ nm c _ _ ng => ⟨fun k hk => by
    rw [a48, a49]
    exact ng.1 k hk, by rw [c1.2.2.2.2.2.2.1]; exact ng.2.1, ng.2.2.1, ng.2.2.2.mv c1.2.2.2.2.2.1.1 (SLC.eq rfl (Int.le_refl _))⟩, fun _ _ _ _ _ _ _ _ _ _ _ _ _ _ _ _ k => k⟩
  exact h.cod y
/-- the class tells the name and lays its STORE, the reference ROWNEXT -/
theorem JRG.rwn {N : Nat} {l : Int64} {x9 : Int32 × CS} {z : Int32 × RS} {u0 : RS} {p : Unit × CS} {y : Int32} (h : JRG A U B b V0 s0 W K a e S s) (hb : (b.i 38).toInt ≤ (s.i 38).toInt) (n50 : S.i 50 = s.i 38) (hk8 : 2 ≤ (s.i 38).toInt ∧ (s.i 38).toInt < 128) (h44 : (S.i 44).toInt ≤ 900) (h20 : 0 ≤ (s.i 20).toInt ∧ (s.i 20).toInt ≤ 2900) (e9 : f_X7_tell N S l = some x9) (hz : f_X12_see N s l 0 = some z) (ea : f_X0_add N x9.2 2 x9.1 = some p) (k3 : CD2 (z.2.i 20).toInt z.2 u0) (m3 : (u0.i 20).toInt = (z.2.i 20).toInt + 1) (m4 : u0.a 21 (pcR z.2) = 24 ∧ u0.a 23 (pcR z.2) = z.1) (v42 : u0.i 42 = z.2.i 42) (v38 : u0.i 38 = z.2.i 38) (v40 : u0.a 40 = z.2.a 40) (hy : y = z.2.i 20) (la : a ≤ 100) (le : e ≤ 100) (hK : ∀ (FC : Nat → Prop) (SF : CS) (nm : Nat → Nat → Prop) (X : Als) (ω : Nat) (j : JCT) (Z : Prop), (SF.a 15 (pcC S) = 2 ∧ SF.a 16 (pcC S) = x9.1 ∧ pcC S < 1200 ∧ pcC p.2 = pcC S + 1) → (U.a 21 (pcR s) = 24 ∧ U.a 23 (pcR s) = z.1 ∧ (((pcR s : Nat) : Int) < (U.i 20).toInt ∧ (U.i 20).toInt ≤ 3000) ∧ pcR u0 = pcR s + 1 ∧ y.toNatClampNeg = pcR s) → (∃ c d : Nat, x9.1.toInt = (c : Int) ∧ z.1.toInt = (d : Int) ∧ nm c d) → K FC SF nm X ω j Z → K' FC SF nm X ω j Z) : JRG A U B b V0 s0 (sv y :: W) K' (a + 1) (e + 2) p.2 u0 := by
  obtain ⟨g1, g2, g3⟩ := see_cd hz
  obtain ⟨⟨z0, z9⟩, zi38, zi, za, -, -, zr⟩ := y_see hz
  have z20 : z.2.i 20 = s.i 20 := zi 20 (by decide) (by decide)
  have cV : CD2 (s.i 20).toInt s u0 := see_cd2 hz k3 ⟨v42, by omega⟩ h20.2
  have m3' := m3
  rw [z20] at m3'
  have ey : y.toInt = (s.i 20).toInt := by rw [hy, z20]
  refine h.sitT (t := True) (y := y) (fun _ => hb) (fun rm => ?_) ⟨by omega, by omega⟩
  obtain ⟨⟨r0, r1⟩, r2, r3, r4, r5⟩ := rm
  have h50 : 0 ≤ (S.i 50).toInt ∧ (S.i 50).toInt < 128 := by rw [n50]; exact ⟨by omega, by omega⟩
  obtain ⟨d1, d2, d3, d4, d5, d6, d7, d8, d9, d10⟩ := cd_tell e9 h50.1 h50.2 r4 (by omega)
  have i20 : (x9.2.i 20).toInt = (S.i 20).toInt := by rw [d5]
  obtain ⟨c1, c2, ⟨c3, c3'⟩, c4, c5, c6⟩ := cd_add ea (by omega) (by omega)
  have f1 : p.2.a 48 = x9.2.a 48 ∧ p.2.a 49 = x9.2.a 49 ∧ p.2.i 38 = x9.2.i 38 ∧ p.2.i 23 = x9.2.i 23 := by
    unfold f_X0_add at ea
    cases ea
    exact ⟨rfl, rfl, rfl, rfl⟩
  have cR : CD1 1 2 S p.2 := (d1.tr c1).wk (by omega) (by omega)
  have pS : ((pcC S : Nat) : Int) = (S.i 20).toInt := Int.toNat_of_nonneg r0
  have pc9 : pcC x9.2 = pcC S := by unfold pcC; rw [d5]
  have pr9 : pcR z.2 = pcR s := by unfold pcR; rw [z20]
  have ps : ((pcR s : Nat) : Int) = (s.i 20).toInt := Int.toNat_of_nonneg h20.1
  have pcp : pcC p.2 = pcC S + 1 := by
    unfold pcC
    rw [c2, d5]
    omega
  have prV : pcR u0 = pcR s + 1 := by
    unfold pcR
    rw [m3']
    have := h20.1
    omega
  rw [pc9] at c3 c3'
  rw [pr9] at m4
  refine ⟨GNM x9.1 z.1, cR.k, ⟨(CT7.eq d4).tr (CT7.eq c4), NK.of cR cV n50 (Or.inr True.intro)⟩, cV.k, see_sat r4 (by rw [d2]) g1 (by rw [f1.2.2.2]; omega) (fun sl => ?_), fun FC nm c ps' _ ng => ng.tel ps' n50 z0 (fun k hk => ?_) ⟨by rw [f1.1, d9, d2], by rw [f1.2.1, d10]⟩ (cR.2.2.2.2.2.2.1) (by rw [v38, zi38, ad1 z0 (by omega)]) (fun j hj => by rw [v40]; exact (zr j hj).2.1) (by rw [v40, g3, g1]) cV.1.2.2.2.2.2 (ng.2.2.2.mv cR.2.2.2.2.2.1.1 cV.1.2.2.2.2.1), fun FC SF nm X ω j Zp ps' fc fg ng hc hh tyc tl hω kk => hK FC SF nm X ω j Zp ?_ ?_ ps' kk⟩
  · have s1 : (s.i 42 + 1).toInt = (s.i 42).toInt + 1 := ad1 sl.1 (by have := sl.2; omega)
    exact ⟨by rw [v42, g2, s1], (cV.1.2.2.2.2.1 sl).2⟩
  · rw [f1.1, f1.2.1]
    exact d1.2.2.2.2.1 k hk
  · have f := fc.2.1 (pcC S) (by omega) (by rw [c2, i20]; omega)
    have r12 := fc.1.2
    rw [c2] at r12
    exact ⟨by rw [f.1]; exact c3, by rw [f.2]; exact c3', by omega, pcp⟩
  · have u := fg.2.1 (pcR s) (by omega) (by omega)
    have f1' := fg.1
    exact ⟨by rw [u.1]; exact m4.1, by rw [u.2.2]; exact m4.2, ⟨by have := f1'.2.1; omega, f1'.2.2⟩, prV, by rw [hy, z20]; rfl⟩
end
theorem qe.s52 {u y : RS} {v : Int32} (h : qe u = qe y) : qe (RS.setI u 52 v) = qe (RS.setI y 52 v) := by
  obtain ⟨⟨i1, i2, i3, i4, i5, -⟩, a21, a22, a23, a25, a26, a27, a28, a30, a31, a32, a34, a35, a36, a37⟩ := qe_eq h
  have e : ∀ s : RS, qe (RS.setI s 52 v) = ((s.i 20, s.i 24, s.i 29, s.i 33, s.i 42, v), s.a 21, s.a 22, s.a 23, s.a 25, s.a 26, s.a 27, s.a 28, s.a 30, s.a 31, s.a 32, s.a 34, s.a 35, s.a 36, s.a 37) := fun _ => rfl
  rw [e, e, i1, i2, i3, i4, i5, a21, a22, a23, a25, a26, a27, a28, a30, a31, a32, a34, a35, a36, a37]
theorem D52.s52 {u : RS} {v : Int32} : D52 (RS.setI u 52 v) u := ⟨⟨rfl, rfl, rfl, rfl, rfl⟩, rfl, rfl, rfl, rfl, rfl, rfl, rfl, rfl, rfl, rfl, rfl, rfl, rfl, rfl⟩
/-- good here, with an entry more, gives Z -/
def JQN (U : RS) (δ : Nat) (en : Nat → Ent) (p q : Nat) (Z : JKT) : JKT := fun FC SF nm X ω j z => GU FC SF U nm X p q j.h (ω + j.l + δ - p) 0 (en j.h :: j.c) → Z FC SF nm X ω j z
/-- a lock's entry -/
def enL (h : Nat) : Ent := (0, h, 0, 0, 0, 0, 0)
theorem HC0.lck {nm : Nat → Nat → Prop} {h : Nat} {c : List Ent} (z : HC0 nm h c) (l : frs c ≤ 21) : HC0 nm h (enL h :: c) := by
  obtain ⟨z1, z2, z3, z4⟩ := z
  refine ⟨⟨fun k q => ?_, fun l q => ?_, z1⟩, z2, ?_, fun e he => ?_⟩
  · rcases q with ⟨q, -⟩ | ⟨q, -⟩ <;> exact absurd (show (0 : Nat) = _ from q) (by decide)
  · exact absurd (show (0 : Nat) = 2 from q.1) (by decide)
  · show frs c + (if (0 : Nat) ≤ 3 then 1 else 0) ≤ 22
    rw [if_pos (by decide)]
    omega
  · rcases List.mem_cons.mp he with rfl | he
    · exact Nat.le_refl _
    · exact z4 e he
theorem NCB.cons {c : List Ent} {S : CS} {s : RS} {e : Ent} (h : NCB c S s) (h2 : ¬ e.k = 2) (h4 : ¬ e.k = 4) : NCB (e :: c) S s := ⟨h.1, fun e' he => by
  rcases List.mem_cons.mp he with z | he
  · rw [z]
    exact ⟨fun k q => by rcases q with ⟨q, -⟩ | ⟨q, -⟩; exact absurd q h2; exact absurd q h4, fun l q => absurd q.1 h2⟩
  · exact h.2 e' he⟩
theorem NCB.d {c : List Ent} {S R : CS} {s u : RS} (h : NCB c S s) (d : D38 S R) (d' : D52 s u) : NCB c R u := by
  unfold NCB SLO at h ⊢
  rw [d.1.2.2.2.1, d'.1.2.2.2.2, d'.1.1]
  exact h
